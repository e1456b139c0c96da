/-! the system of both sides; the calls that only ask for it -/
def js (kn : Bool) (m nv ns : Nat) (lt : Nat → Int) (A : Nat → Nat → Int) (B : Nat → Int) (hs ro va sl : Int32) (sa : Nat → Nat → Int32) (sb slt : Nat → Int32) (kv he : Int32) (bs : Nat → Nat → Int64) (ra kr : Nat → Int32) (kno mro mva mco : Int32) (mlt mnu : Nat → Int32) : Prop :=
  hs = bI kn ∧ kno = bI kn ∧ m ≤ 4 ∧ nv + ns ≤ 6 ∧ (∀ r c, (A r c).natAbs ≤ 20) ∧ (∀ r, (B r).natAbs ≤ 200) ∧ ro = iI m ∧ va = iI nv ∧ sl = iI ns ∧ (∀ r c, r < m → c < nv + ns → sa r c = iI (A r c)) ∧ (∀ r, r < m → sb r = iI (B r)) ∧ (∀ c, c < nv → slt c = iI (lt c) ∧ mlt c = iI (lt c)) ∧
  (kn = true → mro = iI m ∧ mva = iI nv ∧ mco = iI ((nv + ns : Nat) : Int) ∧ mo_sys m (nv + ns) A B mnu ∧ la_ok m (nv + ns) A kv he bs ra kr) ∧ (kn = false → m = 0 ∧ nv = 0 ∧ ns = 0 ∧ kv = 0 ∧ mco = 0)
theorem lg_1 {f g : Nat → Int64} {x y : Int64} (h : g = vp_updL f (0 : Int32).toNatClampNeg x) (hy : y = x) : lg_cmp (g (0 : Int32).toNatClampNeg) y = 0 := by
  subst h hy
  rw [vp_L0, lg_same]
theorem bI_f : bI false = 0 := rfl
theorem bI_t : ¬ bI true = 0 := by decide
section JS
variable {kn : Bool} {m nv ns : Nat} {lt : Nat → Int} {A : Nat → Nat → Int} {B : Nat → Int} {hs ro va sl : Int32} {sa : Nat → Nat → Int32} {sb slt : Nat → Int32} {kv he : Int32} {bs : Nat → Nat → Int64} {ra kr : Nat → Int32} {kno mro mva mco : Int32} {mlt mnu : Nat → Int32}
theorem jn_place {x th : Int32} : ∃ r1 r2, sm_tot (fn_LS_place x) 0 = some r1 ∧ sm_tot (fn_MO_place x) (0, th) = some r2 ∧ r1 = r2.1 := by
  refine ⟨x, (x, 0), ?_, ?_, rfl⟩
  · rw [sm_tot_u, fn_LS_place_q0]
    rfl
  · rw [sm_tot_u, fn_MO_place_q0]
    rfl
theorem jn_count (h : js kn m nv ns lt A B hs ro va sl sa sb slt kv he bs ra kr kno mro mva mco mlt mnu) (x th : Int32) : ∃ r1 r2, sm_tot (fn_LS_count x hs ro va sl) 0 = some r1 ∧ sm_tot (fn_MO_count x kno mro mva mco) (0, 0, th) = some r2 ∧ r1 = r2.1 := by
  obtain ⟨rfl, rfl, hm, hn, ha, hb, rfl, rfl, rfl, pa, pb, pl, hT, hF⟩ := h
  have e52 : ∀ s w, sm_tot (fn_MO_count x (bI kn) mro mva mco) (52, s, w) = some (s, w) := by
    intro s w
    rw [sm_tot_u, fn_MO_count_q52]
    rfl
  cases kn with
  | false =>
    refine ⟨-1, (-1, 0), ?_, ?_, rfl⟩
    · rw [sm_tot_u, fn_LS_count_q0]
      unfold fn_LS_count_b0
      rw [if_pos bI_f]
      rfl
    · rw [sm_tot_u, fn_MO_count_q0]
      unfold fn_MO_count_b0
      rw [if_pos bI_f, sm_ev_l, e52]
  | true =>
    obtain ⟨rfl, rfl, rfl, -, -⟩ := hT rfl
    by_cases q0 : x = 0
    · refine ⟨iI m, (iI m, 0), ?_, ?_, rfl⟩
      · rw [sm_tot_u, fn_LS_count_q0]
        unfold fn_LS_count_b0
        rw [if_neg bI_t, if_pos q0]
        rfl
      · rw [sm_tot_u, fn_MO_count_q0]
        unfold fn_MO_count_b0
        rw [if_neg bI_t, if_pos q0, sm_ev_l, e52]
    by_cases q1 : x = 1
    · refine ⟨iI ((nv + ns : Nat) : Int), (iI ((nv + ns : Nat) : Int), 0), ?_, ?_, rfl⟩
      · rw [sm_tot_u, fn_LS_count_q0]
        unfold fn_LS_count_b0
        rw [if_neg bI_t, if_neg q0, if_pos q1, eq_columns]
        rfl
      · rw [sm_tot_u, fn_MO_count_q0]
        unfold fn_MO_count_b0
        rw [if_neg bI_t, if_neg q0, if_pos q1, sm_ev_l, e52]
    by_cases q2 : x = 2
    · refine ⟨iI nv, (iI nv, 0), ?_, ?_, rfl⟩
      · rw [sm_tot_u, fn_LS_count_q0]
        unfold fn_LS_count_b0
        rw [if_neg bI_t, if_neg q0, if_neg q1, if_pos q2]
        rfl
      · rw [sm_tot_u, fn_MO_count_q0]
        unfold fn_MO_count_b0
        rw [if_neg bI_t, if_neg q0, if_neg q1, if_pos q2, sm_ev_l, e52]
    · refine ⟨-1, (-1, 0), ?_, ?_, rfl⟩
      · rw [sm_tot_u, fn_LS_count_q0]
        unfold fn_LS_count_b0
        rw [if_neg bI_t, if_neg q0, if_neg q1, if_neg q2]
        rfl
      · rw [sm_tot_u, fn_MO_count_q0]
        unfold fn_MO_count_b0
        rw [if_neg bI_t, if_neg q0, if_neg q1, if_neg q2, sm_ev_l, e52]
theorem jn_letter (h : js kn m nv ns lt A B hs ro va sl sa sb slt kv he bs ra kr kno mro mva mco mlt mnu) (x th : Int32) : ∃ r1 r2, sm_tot (fn_LS_letter x va slt) (0, 0) = some r1 ∧ sm_tot (fn_MO_letter x kno mva mlt) (0, 0, th) = some r2 ∧ r1 = r2.1 := by
  obtain ⟨rfl, rfl, hm, hn, ha, hb, rfl, rfl, rfl, pa, pb, pl, hT, hF⟩ := h
  obtain ⟨z, rfl, h1, h2⟩ := ii_of x
  have c28 : ∀ s, sm_tot (fn_LS_letter (iI z) (iI nv) slt) (28, s) = some s := by
    intro s
    rw [sm_tot_u, fn_LS_letter_q28]
    rfl
  have c27 : ∀ s, sm_tot (fn_LS_letter (iI z) (iI nv) slt) (27, s) = some (-1) := by
    intro s
    rw [sm_tot_u, fn_LS_letter_q27]
    unfold fn_LS_letter_b27
    rw [sm_ev_l, c28]
  have e34 : ∀ s w, sm_tot (fn_MO_letter (iI z) (bI kn) mva mlt) (34, s, w) = some (s, w) := by
    intro s w
    rw [sm_tot_u, fn_MO_letter_q34]
    rfl
  have e33 : ∀ s w, sm_tot (fn_MO_letter (iI z) (bI kn) mva mlt) (33, s, w) = some (-1, w) := by
    intro s w
    rw [sm_tot_u, fn_MO_letter_q33]
    unfold fn_MO_letter_b33
    rw [sm_ev_l, e34]
  have hz : z < 0 → iI z < 0 := fun q => by rw [il_0, ii_lt h1 h2 (by omega) (by omega)]; exact q
  have hz' : ¬ z < 0 → ¬ iI z < 0 := fun q => by rw [il_0, ii_lt h1 h2 (by omega) (by omega)]; exact q
  have hv : (nv : Int) ≤ z → iI (nv : Int) ≤ iI z := fun q => by rw [ii_le (by omega) (by omega) h1 h2]; exact q
  have hv' : ¬ (nv : Int) ≤ z → ¬ iI (nv : Int) ≤ iI z := fun q => by rw [ii_le (by omega) (by omega) h1 h2]; exact q
  have hC : ¬ (0 ≤ z ∧ z < nv) → sm_tot (fn_LS_letter (iI z) (iI nv) slt) (0, 0) = some (-1) := by
    intro q
    rw [sm_tot_u, fn_LS_letter_q0]
    unfold fn_LS_letter_b0
    by_cases q1 : z < 0
    · rw [if_pos (hz q1), sm_ev_l, c27]
    · rw [if_neg (hz' q1), if_pos (hv (by omega)), sm_ev_l, c27]
  cases kn with
  | false =>
    obtain ⟨-, w0, -, -⟩ := hF rfl
    refine ⟨-1, (-1, 0), hC (by omega), ?_, rfl⟩
    rw [sm_tot_u, fn_MO_letter_q0]
    unfold fn_MO_letter_b0
    rw [if_pos bI_f, sm_ev_l, e33]
  | true =>
    obtain ⟨rfl, rfl, rfl, -, -⟩ := hT rfl
    by_cases q1 : z < 0
    · refine ⟨-1, (-1, 0), hC (by omega), ?_, rfl⟩
      rw [sm_tot_u, fn_MO_letter_q0]
      unfold fn_MO_letter_b0
      rw [if_neg bI_t, if_pos (hz q1), sm_ev_l, e33]
    by_cases q2 : (nv : Int) ≤ z
    · refine ⟨-1, (-1, 0), hC (by omega), ?_, rfl⟩
      rw [sm_tot_u, fn_MO_letter_q0]
      unfold fn_MO_letter_b0
      rw [if_neg bI_t, if_neg (hz' q1), if_pos (hv q2), sm_ev_l, e33]
    · have hp := pl z.toNat (by omega)
      refine ⟨iI (lt z.toNat), (iI (lt z.toNat), 0), ?_, ?_, rfl⟩
      · rw [sm_tot_u, fn_LS_letter_q0]
        unfold fn_LS_letter_b0
        rw [if_neg (hz' q1), if_neg (hv' q2), if_pos (ii_g (a := z) (N := 6) (by omega) (by omega) (by omega)), sm_ev_l, c28, ii_nat h1 h2, hp.1]
      · rw [sm_tot_u, fn_MO_letter_q0]
        unfold fn_MO_letter_b0
        rw [if_neg bI_t, if_neg (hz' q1), if_neg (hv' q2), if_pos (ii_g (a := z) (N := 6) (by omega) (by omega) (by omega)), sm_ev_l, e34, ii_nat h1 h2, hp.2]
theorem jn_number (h : js kn m nv ns lt A B hs ro va sl sa sb slt kv he bs ra kr kno mro mva mco mlt mnu) (x y th : Int32) (co : Nat → Int64) :
    (∃ r1 r2, sm_tot (fn_LW_number x y ro va sl sa sb) (0, co) = some r1 ∧ sm_tot (fn_MO_number x y kno mro mco mnu) (0, 0, th) = some r2 ∧ r2.2 = r1.1 ∧ r1.1 = 0 ∧ lg_cmp (r1.2 (0 : Int32).toNatClampNeg) (r2.1 : Int32).toInt64 = 0) ∨
    (∃ r1 r2, sm_tot (fn_LW_number_O x y ro va sl sa sb) 0 = some r1 ∧ sm_tot (fn_MO_number x y kno mro mco mnu) (0, 0, th) = some r2 ∧ r2.2 = r1 ∧ ¬ r1 = 0) := by
  obtain ⟨rfl, rfl, hm, hn, ha, hb, rfl, rfl, rfl, pa, pb, pl, hT, hF⟩ := h
  obtain ⟨z, rfl, h1, h2⟩ := ii_of x
  obtain ⟨y, rfl, g1, g2⟩ := ii_of y
  have e62 : ∀ s w, sm_tot (fn_MO_number (iI z) (iI y) (bI kn) mro mco mnu) (62, s, w) = some (s, w) := by
    intro s w
    rw [sm_tot_u, fn_MO_number_q62]
    rfl
  have e36 : ∀ s w, sm_tot (fn_MO_number (iI z) (iI y) (bI kn) mro mco mnu) (36, s, w) = some (0, 1) := by
    intro s w
    rw [sm_tot_u, fn_MO_number_q36]
    unfold fn_MO_number_b36
    rw [sm_ev_l, sm_tot_u, fn_MO_number_q37]
    unfold fn_MO_number_b37
    rw [if_neg (by decide), sm_ev_l, e62]
  have hz : z < 0 → iI z < 0 := fun q => by rw [il_0, ii_lt h1 h2 (by omega) (by omega)]; exact q
  have hz' : ¬ z < 0 → ¬ iI z < 0 := fun q => by rw [il_0, ii_lt h1 h2 (by omega) (by omega)]; exact q
  have hy : y < 0 → iI y < 0 := fun q => by rw [il_0, ii_lt g1 g2 (by omega) (by omega)]; exact q
  have hy' : ¬ y < 0 → ¬ iI y < 0 := fun q => by rw [il_0, ii_lt g1 g2 (by omega) (by omega)]; exact q
  have hv : (m : Int) ≤ z → iI (m : Int) ≤ iI z := fun q => by rw [ii_le (by omega) (by omega) h1 h2]; exact q
  have hv' : ¬ (m : Int) ≤ z → ¬ iI (m : Int) ≤ iI z := fun q => by rw [ii_le (by omega) (by omega) h1 h2]; exact q
  have hw : y ≤ ((nv + ns : Nat) : Int) → iI y ≤ iI ((nv + ns : Nat) : Int) := fun q => by rw [ii_le g1 g2 (by omega) (by omega)]; exact q
  have hw' : ¬ y ≤ ((nv + ns : Nat) : Int) → ¬ iI y ≤ iI ((nv + ns : Nat) : Int) := fun q => by rw [ii_le g1 g2 (by omega) (by omega)]; exact q
  have hu : ¬ y ≤ ((nv + ns : Nat) : Int) → iI ((nv + ns : Nat) : Int) < iI y := fun q => by rw [ii_lt (by omega) (by omega) g1 g2]; omega
  have hu' : y ≤ ((nv + ns : Nat) : Int) → ¬ iI ((nv + ns : Nat) : Int) < iI y := fun q => by rw [ii_lt (by omega) (by omega) g1 g2]; omega
  by_cases q : (0 ≤ z ∧ z < m) ∧ (0 ≤ y ∧ y ≤ ((nv + ns : Nat) : Int))
  · left
    have hk : kn = true := by
      cases kn with
      | true => rfl
      | false => have := hF rfl; omega
    subst hk
    obtain ⟨rfl, rfl, rfl, hM, -⟩ := hT rfl
    obtain ⟨i, rfl⟩ : ∃ i : Nat, z = i := ⟨z.toNat, by omega⟩
    obtain ⟨c, rfl⟩ : ∃ c : Nat, y = c := ⟨y.toNat, by omega⟩
    have hM1 := hM.2.2
    have c72 : ∀ s, sm_tot (fn_LS_number (iI (i : Int)) (iI (c : Int)) (iI m) (iI nv) (iI ns) sa sb) (72, s) = some s := by
      intro s
      rw [sm_tot_u, fn_LS_number_q72]
      rfl
    have hC : sm_tot (fn_LS_number (iI (i : Int)) (iI (c : Int)) (iI m) (iI nv) (iI ns) sa sb) (0, 0) = some (iI (if c = nv + ns then B i else A i c)) := by
      rw [sm_tot_u, fn_LS_number_q0]
      unfold fn_LS_number_b0
      rw [if_neg (hz' (by omega)), if_neg (hv' (by omega)), if_neg (hy' (by omega)), eq_columns, Option.bind_some, if_pos (hw (by omega)), Option.bind_some]
      by_cases q3 : c = nv + ns
      · rw [if_pos (show iI (c : Int) = iI ((nv + ns : Nat) : Int) by rw [q3]), if_pos (ii_g (a := (i : Int)) (N := 4) (by omega) (by omega) (by omega)), sm_ev_l, c72, ii_nat h1 h2, Int.toNat_natCast, pb i (by omega), if_pos q3]
      · rw [if_neg (show ¬ iI (c : Int) = iI ((nv + ns : Nat) : Int) by rw [ii_eq g1 g2 (by omega) (by omega)]; omega), if_pos (ii_g (a := (i : Int)) (N := 4) (by omega) (by omega) (by omega)), if_pos (ii_g (a := (c : Int)) (N := 6) (by omega) (by omega) (by omega)), sm_ev_l, c72, ii_nat h1 h2, ii_nat g1 g2, Int.toNat_natCast, Int.toNat_natCast, pa i c (by omega) (by omega), if_neg q3]
    refine ⟨(0, vp_updL co (0 : Int32).toNatClampNeg (iI (if c = nv + ns then B i else A i c)).toInt64), (iI (if c = nv + ns then B i else A i c), 0), ?_, ?_, rfl, rfl, ?_⟩
    · rw [sm_tot_u, fn_LW_number_q0]
      unfold fn_LW_number_b0
      rw [hC, Option.bind_some, if_pos (by decide)]
      rfl
    · rw [sm_tot_u, fn_MO_number_q0]
      unfold fn_MO_number_b0
      rw [if_neg bI_t, if_neg (hz' (by omega)), if_neg (hv' (by omega)), if_neg (hy' (by omega)), if_neg (hu' (by omega)), sm_ev_l, sm_tot_u, fn_MO_number_q37]
      unfold fn_MO_number_b37
      rw [if_pos rfl, show (7 : Int32) * iI (i : Int) + iI (c : Int) = iI ((7 * i + c : Nat) : Int) by rw [il_7, ii_mul, ii_add]; congr 1, if_pos (ii_g (a := ((7 * i + c : Nat) : Int)) (N := 28) (by omega) (by omega) (by omega)), sm_ev_l, e62, ii_nat (by omega) (by omega), Int.toNat_natCast]
      by_cases q3 : c = nv + ns
      · rw [if_pos q3, q3, (hM1.2 i (by omega)).1]
      · rw [if_neg q3, (hM1.1 i c (by omega) (by omega)).1]
    · exact lg_1 rfl rfl
  · right
    have hO : sm_tot (fx_LS_number_O (iI z) (iI y) (iI m) (iI nv) (iI ns) sa sb) (0, 0) = some () := by
      have c30 : ∀ s, sm_tot (fx_LS_number_O (iI z) (iI y) (iI m) (iI nv) (iI ns) sa sb) (30, s) = some () := by
        intro s
        rw [sm_tot_u, fx_LS_number_O_q30]
        rfl
      rw [sm_tot_u, fx_LS_number_O_q0]
      unfold fx_LS_number_O_b0
      by_cases q1 : z < 0
      · rw [if_pos (hz q1), sm_ev_l, c30]
      rw [if_neg (hz' q1)]
      by_cases q2 : (m : Int) ≤ z
      · rw [if_pos (hv q2), sm_ev_l, c30]
      rw [if_neg (hv' q2)]
      by_cases q3 : y < 0
      · rw [if_pos (hy q3), sm_ev_l, c30]
      rw [if_neg (hy' q3), eq_columns, Option.bind_some, if_neg (hw' (by omega)), sm_ev_l, c30]
    refine ⟨1, (0, 1), ?_, ?_, rfl, by decide⟩
    · rw [sm_tot_u, fn_LW_number_O_q0]
      unfold fn_LW_number_O_b0
      rw [hO]
      rfl
    · rw [sm_tot_u, fn_MO_number_q0]
      unfold fn_MO_number_b0
      cases kn with
      | false => rw [if_pos bI_f, sm_ev_l, e36]
      | true =>
        obtain ⟨rfl, rfl, rfl, hM, -⟩ := hT rfl
        rw [if_neg bI_t]
        by_cases q1 : z < 0
        · rw [if_pos (hz q1), sm_ev_l, e36]
        rw [if_neg (hz' q1)]
        by_cases q2 : (m : Int) ≤ z
        · rw [if_pos (hv q2), sm_ev_l, e36]
        rw [if_neg (hv' q2)]
        by_cases q3 : y < 0
        · rw [if_pos (hy q3), sm_ev_l, e36]
        rw [if_neg (hy' q3), if_pos (hu (by omega)), sm_ev_l, e36]
end JS
