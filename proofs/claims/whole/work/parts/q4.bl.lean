/-! the class's lattice: built, its kernel, what it reaches -/
theorem ja_fill_l {n : Nat} (hn : n ≤ 10000) (a : Int64) (u : Nat → Int64) : ∃ u', sm_tot (fn_JA_fill_l n a) (0, 0, 0, u) = some u' ∧ ∀ j, u' j = if j < n then a else u j := by
  have lp : ∀ (d i : Nat) (u' : Nat → Int64), i + d = n → (∀ j, u' j = if j < i then a else u j) → ∃ w, sm_tot (fn_JA_fill_l n a) (6, iI i, iI n, u') = some w ∧ ∀ j, w j = if j < n then a else u j := by
    intro d
    induction d with
    | zero =>
      intro i u' hi hu
      have e : i = n := by omega
      subst e
      refine ⟨u', ?_, hu⟩
      rw [sm_tot_u, fn_JA_fill_l_q6]
      unfold fn_JA_fill_l_b6
      rw [if_pos (show iI (i : Int) ≤ iI (i : Int) by rw [ii_le (by omega) (by omega) (by omega) (by omega)]; omega), sm_ev_r]
    | succ d ih =>
      intro i u' hi hu
      have i2 : ((i : Int)).toNat = i := by omega
      obtain ⟨w, w1, w2⟩ := ih (i + 1) (vp_updL u' i a) (by omega) (fun j => by
        show (if j = i then a else u' j) = _
        by_cases q : j = i
        · rw [if_pos q, if_pos (by omega)]
        · rw [if_neg q, hu j]
          by_cases q2 : j < i
          · rw [if_pos q2, if_pos (by omega)]
          · rw [if_neg q2, if_neg (by omega)])
      refine ⟨w, ?_, w2⟩
      rw [← w1, sm_tot_u, fn_JA_fill_l_q6]
      unfold fn_JA_fill_l_b6
      rw [if_neg (show ¬ iI (n : Int) ≤ iI (i : Int) by rw [ii_le (by omega) (by omega) (by omega) (by omega)]; omega), if_pos (ii_g (a := (i : Int)) (N := n) (by omega) (by omega) (by omega)), ii_nat (by omega) (by omega), i2, sm_ev_l, ii_s]
  obtain ⟨w, w1, w2⟩ := lp n 0 u (by omega) (fun j => by rw [if_neg (by omega)])
  refine ⟨w, ?_, w2⟩
  rw [← w1, sm_tot_u, fn_JA_fill_l_q0]
  unfold fn_JA_fill_l_b0
  rw [sm_ev_l, show Int32.ofNat n = iI (n : Int) from ii_nI]
  rfl
section LBD
variable {h nv ns : Nat} {A : Nat → Nat → Int} {ca : Nat → Nat → Int32}
theorem la_build_l (hh : h ≤ 4) (hn : nv + ns ≤ 6) (hA : ∀ r c, r < h → c < nv + ns → ca r c = iI (A r c)) (ha : ∀ r c, (A r c).natAbs ≤ 20) {kv : Int32} {kr : Nat → Int32} : ∀ (d c us : Nat) (rh : Nat → Nat) (bs : Nat → Nat → Int64) (ra : Nat → Int32) (fr : Nat → Int64), c + d = nv + ns → us ≤ c → la_pic (h + (nv + ns)) (rw_bld (h + (nv + ns)) h A c) us rh ra bs →
    ∃ us' rh' bs' ra' fr', sm_tot (fn_LA_build (iI h) (iI nv) (iI ns) ca) (36, iI c, 0, kv, iI h, iI ((h + (nv + ns) : Nat) : Int), iI us, bs, ra, kr, fr) = sm_tot (fn_LA_build (iI h) (iI nv) (iI ns) ca) (36, iI ((nv + ns : Nat) : Int), 0, kv, iI h, iI ((h + (nv + ns) : Nat) : Int), iI ((us' : Nat) : Int), bs', ra', kr, fr') ∧ la_pic (h + (nv + ns)) (rw_bld (h + (nv + ns)) h A (nv + ns)) us' rh' ra' bs' := by
  intro d
  induction d with
  | zero =>
    intro c us rh bs ra fr hc hus H
    have e : c = nv + ns := by omega
    subst e
    exact ⟨us, rh, bs, ra, fr, rfl, H⟩
  | succ d ih =>
    intro c us rh bs ra fr hc hus H
    have hcn : c < nv + ns := by omega
    have ic : ((c : Int)).toNat = c := by omega
    have ihc : ((h : Int) + (c : Int)).toNat = h + c := by omega
    have B := rw_bld_bp (w := h + (nv + ns)) (n := nv + ns) rfl hh (fun q k _ => ha q k) c (by omega)
    have B' := rw_bp_step rfl hh hcn (fun q k _ => ha q k) B
    have hcr := rw_class_rng rfl hn hh hcn (fun q k _ => ha q k) B
    obtain ⟨b1, b2, b3, b4⟩ := B
    obtain ⟨fr0, x1, x2⟩ := ja_fill_l (n := 10) (by omega) 0 fr
    -- the column
    have lp : ∀ (d r : Nat) (g : Nat → Int64), r + d = h → (∀ q, q < 10 → g q = Int64.ofInt (if q < r then A q c else 0)) → ∃ g', sm_tot (fn_LA_build (iI h) (iI nv) (iI ns) ca) (54, iI c, iI r, kv, iI h, iI ((h + (nv + ns) : Nat) : Int), iI us, bs, ra, kr, g) = sm_tot (fn_LA_build (iI h) (iI nv) (iI ns) ca) (54, iI c, iI h, kv, iI h, iI ((h + (nv + ns) : Nat) : Int), iI us, bs, ra, kr, g') ∧ ∀ q, q < 10 → g' q = Int64.ofInt (if q < h then A q c else 0) := by
      intro d
      induction d with
      | zero =>
        intro r g hr hg
        have e : r = h := by omega
        subst e
        exact ⟨g, rfl, hg⟩
      | succ d ih2 =>
        intro r g hr hg
        have ir : ((r : Int)).toNat = r := by omega
        obtain ⟨g', y1, y2⟩ := ih2 (r + 1) (vp_updL g r (Int64.ofInt (A r c))) (by omega) (fun q hq => by
          show (if q = r then _ else g q) = _
          by_cases e : q = r
          · rw [if_pos e, if_pos (by omega), e]
          · rw [if_neg e, hg q hq]
            by_cases e3 : q < r
            · rw [if_pos e3, if_pos (by omega)]
            · rw [if_neg e3, if_neg (by omega)])
        refine ⟨g', ?_, y2⟩
        have hac := ha r c
        rw [← y1, sm_tot_u, fn_LA_build_q54]
        unfold fn_LA_build_b54
        rw [if_neg (show ¬ iI (h : Int) ≤ iI (r : Int) by rw [ii_le (by omega) (by omega) (by omega) (by omega)]; omega), if_pos (ii_g (a := (r : Int)) (N := 4) (by omega) (by omega) (by omega)), if_pos (ii_g (a := (c : Int)) (N := 6) (by omega) (by omega) (by omega)), if_pos (ii_g (a := (r : Int)) (N := 10) (by omega) (by omega) (by omega)), ii_nat (by omega) (by omega), ii_nat (by omega) (by omega), ir, ic, hA r c (by omega) hcn, rg_i, ii_to (by omega) (by omega), sm_ev_l, ii_s]
    obtain ⟨g', y1, y2⟩ := lp h 0 fr0 (by omega) (fun q hq => by rw [x2 q, if_pos hq, if_neg (by omega)]; rfl)
    have hfr : ∀ q, q < h + (nv + ns) → vp_updL g' (h + c) 1 q = Int64.ofInt (rw_fr h A c q) := fun q hq => by
      show (if q = h + c then 1 else g' q) = _
      unfold rw_fr
      by_cases e : q = h + c
      · rw [if_pos e, if_neg (by omega), if_pos e]; rfl
      · rw [if_neg e, y2 q (by omega)]
        by_cases e3 : q < h
        · rw [if_pos e3, if_pos e3]
        · rw [if_neg e3, if_neg e3, if_neg e]
    have hv20 : ∀ b, (rw_fr h A c b).natAbs ≤ 20 := fun b => by
      unfold rw_fr
      split
      · exact ha _ _
      · split <;> decide
    obtain ⟨us1, rh1, ra1, bs1, f1, z1, z2, z3⟩ := la_ins_l (w := h + (nv + ns)) (U := rw_bld (h + (nv + ns)) h A c) (v := rw_fr h A c) (by omega) b1 (fun b hb hp => by have := hv20 b; omega) (fun b hb => b4 b b hb hb) hcr (h + (nv + ns)) 0 us rh ra bs (vp_updL g' (h + c) 1) (by omega) rfl (by omega) H hfr
    obtain ⟨i1, _⟩ := rw_ins_all (w := h + (nv + ns)) (U := rw_bld (h + (nv + ns)) h A c) (v := rw_fr h A c) b1 (fun b hb hp => by have := hv20 b; omega) (fun b hb => b4 b b hb hb)
    have hri := rw_ra_inv i1 (h + (nv + ns)) (Nat.le_refl _)
    obtain ⟨bs2, w1, w2⟩ := la_all_l (w := h + (nv + ns)) (by omega) i1 (fun a haw => by
      rw [← hri.2.1 a haw]
      exact Nat.le_trans (B'.2.2.2 a a haw haw) (by decide)) hcr.2 (h + (nv + ns)) 0 bs1 (by omega) z2
    obtain ⟨us', rh', bs', ra', fr', q1, q2⟩ := ih (c + 1) us1 rh1 bs2 ra1 f1 (by omega) (by omega) w2
    refine ⟨us', rh', bs', ra', fr', ?_, q2⟩
    rw [← q1]
    have hins : sm_tot (fn_LA_insertFresh (iI ((h + (nv + ns) : Nat) : Int))) (0, 0, iI us, bs, ra, vp_updL g' (h + c) 1) = some (iI us1, bs1, ra1, f1) := by
      rw [sm_tot_u, fn_LA_insertFresh_q0]
      exact z1
    have hall : sm_tot (fn_LA_reduceAll (iI ((h + (nv + ns) : Nat) : Int)) ra1) (0, 0, bs1) = some bs2 := by
      rw [sm_tot_u, fn_LA_reduceAll_q0]
      unfold fn_LA_reduceAll_b0
      rw [sm_ev_l, il_1, ii_sub]
      have w1' := w1
      rw [show ((h + (nv + ns) : Nat) : Int) - 1 - ((0 : Nat) : Int) = ((h + (nv + ns) : Nat) : Int) - 1 by omega] at w1'
      exact w1'
    rw [sm_tot_u, fn_LA_build_q36]
    unfold fn_LA_build_b36
    rw [eq_columns, Option.bind_some, if_neg (show ¬ iI ((nv + ns : Nat) : Int) ≤ iI (c : Int) by rw [ii_le (by omega) (by omega) (by omega) (by omega)]; omega), x1, Option.bind_some, sm_ev_l]
    refine y1.trans ?_
    rw [sm_tot_u, fn_LA_build_q54]
    unfold fn_LA_build_b54
    rw [if_pos (show iI (h : Int) ≤ iI (h : Int) by rw [ii_le (by omega) (by omega) (by omega) (by omega)]; omega), ii_add, if_pos (ii_g (a := (h : Int) + (c : Int)) (N := 10) (by omega) (by omega) (by omega)), ii_nat (by omega) (by omega), ihc, hins, Option.bind_some]
    show sm_ev _ (Option.bind (sm_tot (fn_LA_reduceAll (iI ((h + (nv + ns) : Nat) : Int)) ra1) (0, 0, bs1)) _) = _
    rw [hall, Option.bind_some, sm_ev_l, ii_s]
theorem la_find {n m us : Nat} {U V : Nat → Nat → Int} {ld rh : Nat → Nat} {ra : Nat → Int32} {bs : Nat → Nat → Int64} (hh : h ≤ 4) (hn : n ≤ 6) (hm : m ≤ n) (Hl : rw_HNF n m V ld) (H : la_pic (h + n) U us rh ra bs) (hk : ∀ a, a < n → (U (h + a) (h + a) ≠ 0 ↔ ∃ i, i < m ∧ ld i = a)) :
    ∀ (d a k : Nat) (kr : Nat → Int32), a + d = n → k ≤ m → (∀ i, i < k → ld i < a) → (∀ i, k ≤ i → i < m → a ≤ ld i) → (∀ i, i < k → kr i = iI (rh (h + ld i))) → ∃ kr', sm_tot (fn_LA_findKernel (iI h) (iI ((h + n : Nat) : Int)) ra) (10, iI ((h + a : Nat) : Int), iI k, kr) = some (iI m, kr') ∧ ∀ i, i < m → kr' i = iI (rh (h + ld i)) := by
  intro d
  induction d with
  | zero =>
    intro a k kr ha hkm h1 h2 h3
    have e : k = m := by
      rcases Nat.lt_or_ge k m with q | q
      · have := h2 k (Nat.le_refl _) q
        have := (Hl k q).1
        omega
      · omega
    subst e
    refine ⟨kr, ?_, h3⟩
    rw [sm_tot_u, fn_LA_findKernel_q10]
    unfold fn_LA_findKernel_b10
    rw [if_pos (show iI ((h + n : Nat) : Int) ≤ iI ((h + a : Nat) : Int) by rw [ii_le (by omega) (by omega) (by omega) (by omega)]; omega), sm_ev_r]
  | succ d ih =>
    intro a k kr ha hkm h1 h2 h3
    have ia : (((h + a : Nat) : Int)).toNat = h + a := by omega
    have ik : ((k : Int)).toNat = k := by omega
    have e62 : ∀ x y, sm_tot (fn_LA_findKernel (iI h) (iI ((h + n : Nat) : Int)) ra) (62, iI ((h + a : Nat) : Int), x, y) = sm_tot (fn_LA_findKernel (iI h) (iI ((h + n : Nat) : Int)) ra) (10, iI ((h + (a + 1) : Nat) : Int), x, y) := fun x y => by
      rw [sm_tot_u, fn_LA_findKernel_q62]
      unfold fn_LA_findKernel_b62
      rw [sm_ev_l, ii_s]
      rfl
    obtain ⟨p1, p2⟩ := H.2.1 (h + a) (by omega)
    rw [sm_tot_u, fn_LA_findKernel_q10]
    unfold fn_LA_findKernel_b10
    rw [if_neg (show ¬ iI ((h + n : Nat) : Int) ≤ iI ((h + a : Nat) : Int) by rw [ii_le (by omega) (by omega) (by omega) (by omega)]; omega), if_pos (ii_g (a := ((h + a : Nat) : Int)) (N := 10) (by omega) (by omega) (by omega)), ii_nat (a := ((h + a : Nat) : Int)) (by omega) (by omega), ia]
    by_cases q : U (h + a) (h + a) = 0
    · rw [p1 q, if_pos (show iI (-1) = -1 from rfl), sm_ev_l, e62]
      refine ih (a + 1) k kr (by omega) hkm (fun i hi => by have := h1 i hi; omega) (fun i hi hi2 => ?_) h3
      have := h2 i hi hi2
      rcases Nat.eq_or_lt_of_le this with e | e
      · exact absurd q ((hk a (by omega)).mpr ⟨i, hi2, e.symm⟩)
      · exact e
    · obtain ⟨k1, k2, k3⟩ := p2 q
      have hus := H.1
      obtain ⟨i, i1, i2⟩ := (hk a (by omega)).mp q
      have eik : i = k := by
        rcases Nat.lt_trichotomy i k with e | e | e
        · have := h1 i e; omega
        · exact e
        · have e1 := h2 k (Nat.le_refl _) (by omega)
          have e2 := ((Hl i i1).2.2.2 k e).1
          omega
      subst eik
      rw [k1, if_neg (show ¬ iI (rh (h + a) : Int) = -1 by rw [show (-1 : Int32) = iI (-1) from rfl, ii_eq (by omega) (by omega) (by omega) (by omega)]; omega), if_neg (show ¬ (6 : Int32) ≤ iI (i : Int) by rw [il_6, ii_le (by omega) (by omega) (by omega) (by omega)]; omega), if_pos (ii_g (a := (i : Int)) (N := 6) (by omega) (by omega) (by omega)), ii_nat (by omega) (by omega), ik, sm_ev_l, e62, ii_s]
      refine ih (a + 1) (i + 1) _ (by omega) (by omega) (fun j hj => ?_) (fun j hj hj2 => ?_) (fun j hj => ?_)
      · rcases Nat.eq_or_lt_of_le (Nat.lt_succ_iff.mp hj) with e | e
        · rw [e, i2]; omega
        · have := h1 j e; omega
      · have := ((Hl j hj2).2.2.2 i (by omega)).1
        omega
      · show (if j = i then _ else kr j) = _
        by_cases e : j = i
        · rw [if_pos e, e, i2]
        · rw [if_neg e]; exact h3 j (by omega)
/-- the lattice of a system, as the class keeps it -/
def la_ok (h n : Nat) (A : Nat → Nat → Int) (kv he : Int32) (bs : Nat → Nat → Int64) (ra kr : Nat → Int32) : Prop :=
  kv = iI (rw_sol n A h).2 ∧ he = iI h ∧ (∃ us rh, la_pic (h + n) (rw_bld (h + n) h A n) us rh ra bs) ∧ ∀ i, i < (rw_sol n A h).2 → ∃ ρ : Nat, ρ < 6 ∧ kr i = iI ρ ∧ ∀ c, c < n → bs ρ (h + c) = Int64.ofInt ((rw_sol n A h).1 i c)
theorem la_build (hh : h ≤ 4) (hn : nv + ns ≤ 6) (hA : ∀ r c, r < h → c < nv + ns → ca r c = iI (A r c)) (ha : ∀ r c, (A r c).natAbs ≤ 20) (kv he wi us : Int32) (bs : Nat → Nat → Int64) (ra kr : Nat → Int32) (fr : Nat → Int64) :
    ∃ kv' he' wi' us' bs' ra' kr' fr', sm_tot (fn_LA_build (iI h) (iI nv) (iI ns) ca) (0, 0, 0, kv, he, wi, us, bs, ra, kr, fr) = some (kv', he', wi', us', bs', ra', kr', fr') ∧ la_ok h (nv + ns) A kv' he' bs' ra' kr' := by
  obtain ⟨ra0, x1, x2⟩ := ja_fill (n := 10) (by omega) (-1) ra
  obtain ⟨us', rh', bs', ra', fr', a1, a2⟩ := la_build_l hh hn hA ha (kv := kv) (kr := kr) (nv + ns) 0 0 (fun _ => 0) bs ra0 fr (by omega) (by omega) ⟨by omega, fun a haw => ⟨fun _ => by rw [x2 a, if_pos (by omega)]; rfl, fun q => absurd rfl q⟩, fun a a' _ _ q => absurd rfl q⟩
  have hbas := rw_sol_bas (nv + ns) h A
  obtain ⟨ld, Hl⟩ := hbas.2.2.2
  obtain ⟨k1, k2⟩ := rw_bld_ker (w := h + (nv + ns)) (n := nv + ns) rfl hh (fun q k _ => ha q k) hbas Hl
  obtain ⟨kr', b1, b2⟩ := la_find hh hn (rw_sol_le (nv + ns) A h) Hl a2 k2 (nv + ns) 0 0 kr (by omega) (by omega) (fun i hi => by omega) (fun i _ _ => by omega) (fun i hi => by omega)
  refine ⟨iI (rw_sol (nv + ns) A h).2, iI h, iI ((h + (nv + ns) : Nat) : Int), iI us', bs', ra', kr', fr', ?_, rfl, rfl, ⟨us', rh', a2⟩, fun i hi => ?_⟩
  · rw [sm_tot_u, fn_LA_build_q0]
    unfold fn_LA_build_b0
    rw [eq_columns, Option.bind_some, x1, Option.bind_some, sm_ev_l, ii_add]
    refine a1.trans ?_
    have hfk : sm_tot (fn_LA_findKernel (iI h) (iI ((h + (nv + ns) : Nat) : Int)) ra') (0, 0, kv, kr) = some (iI (rw_sol (nv + ns) A h).2, kr') := by
      rw [sm_tot_u, fn_LA_findKernel_q0]
      exact b1
    rw [sm_tot_u, fn_LA_build_q36]
    unfold fn_LA_build_b36
    rw [eq_columns, Option.bind_some, if_pos (show iI ((nv + ns : Nat) : Int) ≤ iI ((nv + ns : Nat) : Int) by rw [ii_le (by omega) (by omega) (by omega) (by omega)]; omega), hfk, Option.bind_some, sm_ev_r]
  · obtain ⟨l1, l2, l3, l4⟩ := Hl i hi
    have hne : rw_bld (h + (nv + ns)) h A (nv + ns) (h + ld i) (h + ld i) ≠ 0 := (k2 (ld i) l1).mpr ⟨i, hi, rfl⟩
    obtain ⟨m1, m2, m3⟩ := (a2.2.1 (h + ld i) (by omega)).2 hne
    have := a2.1
    exact ⟨rh' (h + ld i), by omega, b2 i hi, fun c hc => by rw [m3 (h + c) (by omega), k1 i hi c hc]⟩
end LBD
section LRE
variable {h n : Nat} {A : Nat → Nat → Int} {B : Nat → Int}
theorem la_kernelNumber {kv he : Int32} {bs : Nat → Nat → Int64} {ra kr : Nat → Int32} (hh : h ≤ 4) (hn : n ≤ 6) (H : la_ok h n A kv he bs ra kr) {i c : Nat} (hi : i < (rw_sol n A h).2) (hc : c < n) : sm_tot (fn_LA_kernelNumber (iI i) (iI c) (iI h) bs kr) 0 = some (Int64.ofInt ((rw_sol n A h).1 i c)) := by
  obtain ⟨ρ, r1, r2, r3⟩ := H.2.2.2 i hi
  have hm := rw_sol_le n A h
  have ii' : ((i : Int)).toNat = i := by omega
  have ir : ((ρ : Int)).toNat = ρ := by omega
  have ihc : ((h : Int) + (c : Int)).toNat = h + c := by omega
  rw [sm_tot_u, fn_LA_kernelNumber_q0]
  unfold fn_LA_kernelNumber_b0
  rw [if_pos (ii_g (a := (i : Int)) (N := 6) (by omega) (by omega) (by omega)), ii_nat (a := (i : Int)) (by omega) (by omega), ii', r2, if_pos (ii_g (a := (ρ : Int)) (N := 6) (by omega) (by omega) (by omega)), ii_add, if_pos (ii_g (a := (h : Int) + (c : Int)) (N := 10) (by omega) (by omega) (by omega)), ii_nat (by omega) (by omega), ir, ii_nat (by omega) (by omega), ihc, r3 c hc, sm_ev_r]
theorem la_reaches {kv he : Int32} {bs : Nat → Nat → Int64} {ra kr cb : Nat → Int32} (hh : h ≤ 4) (hn : n ≤ 6) (ha : ∀ r c, (A r c).natAbs ≤ 20) (hb : ∀ r, r < h → cb r = iI (B r)) (hbb : ∀ r, (B r).natAbs ≤ 200) (H : la_ok h n A kv he bs ra kr) (tg : Nat → Int64) :
    ∃ (b : Bool) (tg' : Nat → Int64), sm_tot (fn_LA_reaches (iI h) bs ra cb) (0, 0, tg) = some (bI b, tg') ∧ (b = true ↔ ∃ w : Nat → Int, ∀ q, q < h → rw_dot n (A q) w = B q) := by
  obtain ⟨us, rh, hp⟩ := H.2.2.1
  obtain ⟨b1, b2, b3, b4⟩ := rw_bld_bp (w := h + n) (n := n) rfl hh (fun q k _ => ha q k) n (Nat.le_refl _)
  have hspec := rw_rch_spec (b := B) (A := A) rfl b1 b3
  have hle := rw_rch_le (b := B) (h := h) (w := h + n) hh (by omega) b1 b2 b4 (fun q _ => hbb q)
  generalize rw_bld (h + n) h A n = U at *
  have lp1 : ∀ (d r : Nat) (g : Nat → Int64), r + d = h → (∀ q, q < r → g q = Int64.ofInt (B q)) → ∃ g', sm_tot (fn_LA_reaches (iI h) bs ra cb) (2, iI r, g) = sm_tot (fn_LA_reaches (iI h) bs ra cb) (31, iI ((0 : Nat) : Int), g') ∧ ∀ q, q < h → g' q = Int64.ofInt (B q) := by
    intro d
    induction d with
    | zero =>
      intro r g hr hg
      refine ⟨g, ?_, fun q hq => hg q (by omega)⟩
      rw [sm_tot_u, fn_LA_reaches_q2]
      unfold fn_LA_reaches_b2
      rw [if_pos (show iI (h : Int) ≤ iI (r : Int) by rw [ii_le (by omega) (by omega) (by omega) (by omega)]; omega), sm_ev_l]
      rfl
    | succ d ih =>
      intro r g hr hg
      have ir : ((r : Int)).toNat = r := by omega
      obtain ⟨g', y1, y2⟩ := ih (r + 1) (vp_updL g r (Int64.ofInt (B r))) (by omega) (fun q hq => by
        show (if q = r then _ else g q) = _
        by_cases e : q = r
        · rw [if_pos e, e]
        · rw [if_neg e]; exact hg q (by omega))
      refine ⟨g', ?_, y2⟩
      have hbr := hbb r
      rw [← y1, sm_tot_u, fn_LA_reaches_q2]
      unfold fn_LA_reaches_b2
      rw [if_neg (show ¬ iI (h : Int) ≤ iI (r : Int) by rw [ii_le (by omega) (by omega) (by omega) (by omega)]; omega), if_pos (ii_g (a := (r : Int)) (N := 4) (by omega) (by omega) (by omega)), ii_nat (by omega) (by omega), ir, hb r (by omega), rg_i, ii_to (by omega) (by omega), sm_ev_l, ii_s]
  have lp2 : ∀ (d a : Nat) (g : Nat → Int64), a + d = h → (rw_rch U B a).2 = true → (∀ q, q < h → g q = Int64.ofInt ((rw_rch U B a).1 q)) → ∃ tg', sm_tot (fn_LA_reaches (iI h) bs ra cb) (31, iI a, g) = some (bI (rw_rch U B h).2, tg') := by
    intro d
    induction d with
    | zero =>
      intro a g ha' ht hg
      refine ⟨g, ?_⟩
      rw [sm_tot_u, fn_LA_reaches_q31]
      unfold fn_LA_reaches_b31
      rw [if_pos (show iI (h : Int) ≤ iI (a : Int) by rw [ii_le (by omega) (by omega) (by omega) (by omega)]; omega), sm_ev_r, show h = a by omega, ht]
      rfl
    | succ d ih =>
      intro a g ha' ht hg
      have haw : a < h := by omega
      have ia : ((a : Int)).toNat = a := by omega
      have hta : ((rw_rch U B a).1 a).natAbs ≤ 4611686018427387903 := by
        have := (hle a (by omega) a haw).2
        have h3 : a * 6144000000 ≤ 4 * 6144000000 := Nat.mul_le_mul_right _ (by omega)
        omega
      have estep : rw_rch U B (a + 1) = if (rw_rch U B a).1 a = 0 then rw_rch U B a else if U a a ≤ 0 ∨ ((rw_rch U B a).1 a).tmod (U a a) ≠ 0 then ((rw_rch U B a).1, false) else (fun i => (rw_rch U B a).1 i - ((rw_rch U B a).1 a).tdiv (U a a) * U a i, true) := by
        show (if (rw_rch U B a).2 = false then rw_rch U B a else _) = _
        rw [if_neg (by rw [ht]; decide)]
      have e60 : ∀ g, sm_tot (fn_LA_reaches (iI h) bs ra cb) (60, iI a, g) = sm_tot (fn_LA_reaches (iI h) bs ra cb) (31, iI ((a + 1 : Nat) : Int), g) := fun g => by
        rw [sm_tot_u, fn_LA_reaches_q60]
        unfold fn_LA_reaches_b60
        rw [sm_ev_l, ii_s]
      have hkeep : (rw_rch U B (a + 1)).2 = false → (rw_rch U B h).2 = false := fun hf => by
        have : ∀ t, (rw_rch U B (a + 1 + t)).2 = false := by
          intro t
          induction t with
          | zero => exact hf
          | succ t iht =>
            show (if (rw_rch U B (a + 1 + t)).2 = false then rw_rch U B (a + 1 + t) else _).2 = false
            rw [if_pos iht]
            exact iht
        have h2 := this (h - (a + 1))
        rw [show a + 1 + (h - (a + 1)) = h by omega] at h2
        exact h2
      have e31 : sm_tot (fn_LA_reaches (iI h) bs ra cb) (31, iI a, g) = sm_ev (fn_LA_reaches (iI h) bs ra cb) (if lg_cmp (Int64.ofInt ((rw_rch U B a).1 a)) 0 = 0 then (some (.inl (60, iI a, g))) else ((sm_tot (fn_LA_takeFromTarget (iI a) (iI h) bs ra) (0, 0, 0, 0, g)).bind (fun r1 => if (r1.1 : Int32) = 0 then (some (.inr (0, r1.2))) else (some (.inl (60, iI a, r1.2)))))) := by
        rw [sm_tot_u, fn_LA_reaches_q31]
        unfold fn_LA_reaches_b31
        rw [if_neg (show ¬ iI (h : Int) ≤ iI (a : Int) by rw [ii_le (by omega) (by omega) (by omega) (by omega)]; omega), if_pos (ii_g (a := (a : Int)) (N := 4) (by omega) (by omega) (by omega)), ii_nat (by omega) (by omega), ia, hg a haw]
      rw [e31]
      by_cases q0 : (rw_rch U B a).1 a = 0
      · rw [if_pos (show lg_cmp (Int64.ofInt ((rw_rch U B a).1 a)) 0 = 0 from (lg_cmp_eq _ _).mpr (by rw [q0]; rfl)), sm_ev_l, e60]
        rw [if_pos q0] at estep
        exact ih (a + 1) g (by omega) (by rw [estep]; exact ht) (by rw [estep]; exact hg)
      · rw [if_neg (show ¬ lg_cmp (Int64.ofInt ((rw_rch U B a).1 a)) 0 = 0 from fun x => q0 ((rg_zero hta).mp ((lg_cmp_eq _ _).mp x)))]
        rw [if_neg q0] at estep
        have e45 : ∀ x y z g, sm_tot (fn_LA_takeFromTarget (iI a) (iI h) bs ra) (45, x, y, z, g) = some (0, g) := fun x y z g => by rw [sm_tot_u, fn_LA_takeFromTarget_q45]; rfl
        have hno : sm_tot (fn_LA_takeFromTarget (iI a) (iI h) bs ra) (0, 0, 0, 0, g) = some (0, g) → (rw_rch U B (a + 1)).2 = false → ∃ tg', sm_ev (fn_LA_reaches (iI h) bs ra cb) ((sm_tot (fn_LA_takeFromTarget (iI a) (iI h) bs ra) (0, 0, 0, 0, g)).bind (fun r1 => if (r1.1 : Int32) = 0 then (some (.inr (0, r1.2))) else (some (.inl (60, iI a, r1.2))))) = some (bI (rw_rch U B h).2, tg') := fun hx hf => by
          refine ⟨g, ?_⟩
          rw [hx, Option.bind_some, if_pos (show ((0 : Int32), g).1 = 0 from rfl), sm_ev_r, hkeep hf]
          rfl
        obtain ⟨p1, p2⟩ := hp.2.1 a (by omega)
        have hd0 := (b1 a (by omega)).2.1
        by_cases q1 : U a a = 0
        · rw [if_pos (Or.inl (by omega))] at estep
          refine hno ?_ (by rw [estep])
          rw [sm_tot_u, fn_LA_takeFromTarget_q0]
          unfold fn_LA_takeFromTarget_b0
          rw [if_pos (ii_g (a := (a : Int)) (N := 10) (by omega) (by omega) (by omega)), ii_nat (by omega) (by omega), ia, p1 q1, if_pos (show iI (-1) = -1 from rfl), sm_ev_l, e45]
        · obtain ⟨k1, k2, k3⟩ := p2 q1
          have hus := hp.1
          have irh : ((rh a : Int)).toNat = rh a := by omega
          have hda : (U a a).natAbs ≤ 4611686018427387903 := Nat.le_trans (b4 a a (by omega) (by omega)) (by decide)
          have hz : ¬ Int64.ofInt (U a a) = 0 := fun z => q1 ((rg_zero hda).mp z)
          have htm := rw_tmod_lt ((rw_rch U B a).1 a) q1
          have etf : sm_tot (fn_LA_takeFromTarget (iI a) (iI h) bs ra) (0, 0, 0, 0, g) = if ((rw_rch U B a).1 a).tmod (U a a) = 0 then sm_tot (fn_LA_takeFromTarget (iI a) (iI h) bs ra) (66, iI (rh a), Int64.ofInt (((rw_rch U B a).1 a).tdiv (U a a)), iI a, g) else some (0, g) := by
            rw [sm_tot_u, fn_LA_takeFromTarget_q0]
            unfold fn_LA_takeFromTarget_b0
            rw [if_pos (ii_g (a := (a : Int)) (N := 10) (by omega) (by omega) (by omega)), if_pos (ii_g (a := (a : Int)) (N := 4) (by omega) (by omega) (by omega)), ii_nat (a := (a : Int)) (by omega) (by omega), ia, k1, if_neg (show ¬ iI (rh a : Int) = -1 by rw [show (-1 : Int32) = iI (-1) from rfl, ii_eq (by omega) (by omega) (by omega) (by omega)]; omega), if_pos (ii_g (a := (rh a : Int)) (N := 6) (by omega) (by omega) (by omega)), ii_nat (by omega) (by omega), irh, k3 a (by omega), if_neg (show ¬ lg_cmp (Int64.ofInt (U a a)) 0 ≤ 0 by rw [lg_cmp_le0 hda]; omega), if_pos hz, hg a haw, rg_div hta hda, ← Int64.ofInt_mul, ← Int64.ofInt_sub, rw_tmod_eq]
            by_cases q2 : ((rw_rch U B a).1 a).tmod (U a a) = 0
            · rw [if_pos (show lg_cmp (Int64.ofInt (((rw_rch U B a).1 a).tmod (U a a))) 0 = 0 from (lg_cmp_eq _ _).mpr (by rw [q2]; rfl)), if_pos q2, sm_ev_l]
            · rw [if_neg (show ¬ lg_cmp (Int64.ofInt (((rw_rch U B a).1 a).tmod (U a a))) 0 = 0 from fun x => q2 ((rg_zero (by omega)).mp ((lg_cmp_eq _ _).mp x))), if_neg q2, sm_ev_l, e45]
          by_cases q2 : ((rw_rch U B a).1 a).tmod (U a a) = 0
          · rw [if_neg (show ¬ (U a a ≤ 0 ∨ ((rw_rch U B a).1 a).tmod (U a a) ≠ 0) from fun x => by
              rcases x with x | x
              · omega
              · exact x q2)] at estep
            rw [if_pos q2] at etf
            have lp3 : ∀ (d i : Nat) (g1 : Nat → Int64), i + d = h → a ≤ i → (∀ q, q < h → g1 q = Int64.ofInt (if a ≤ q ∧ q < i then (rw_rch U B a).1 q - ((rw_rch U B a).1 a).tdiv (U a a) * U a q else (rw_rch U B a).1 q)) → ∃ g2, sm_tot (fn_LA_takeFromTarget (iI a) (iI h) bs ra) (66, iI (rh a), Int64.ofInt (((rw_rch U B a).1 a).tdiv (U a a)), iI i, g1) = some (1, g2) ∧ ∀ q, q < h → g2 q = Int64.ofInt ((rw_rch U B a).1 q - ((rw_rch U B a).1 a).tdiv (U a a) * U a q) := by
              intro d
              induction d with
              | zero =>
                intro i g1 hi hai hg1
                refine ⟨g1, ?_, fun q hq => ?_⟩
                · rw [sm_tot_u, fn_LA_takeFromTarget_q66]
                  unfold fn_LA_takeFromTarget_b66
                  rw [if_pos (show iI (h : Int) ≤ iI (i : Int) by rw [ii_le (by omega) (by omega) (by omega) (by omega)]; omega), sm_ev_r]
                · rw [hg1 q hq]
                  by_cases e : a ≤ q
                  · rw [if_pos ⟨e, by omega⟩]
                  · rw [if_neg (fun x => e x.1), (b1 a (by omega)).1 q (by omega), Int.mul_zero, Int.sub_zero]
              | succ d ih3 =>
                intro i g1 hi hai hg1
                have i2 : ((i : Int)).toNat = i := by omega
                have hgi := hg1 i (by omega)
                rw [if_neg (by omega)] at hgi
                obtain ⟨g2, y1, y2⟩ := ih3 (i + 1) (vp_updL g1 i (Int64.ofInt ((rw_rch U B a).1 i - ((rw_rch U B a).1 a).tdiv (U a a) * U a i))) (by omega) (by omega) (fun q hq => by
                  show (if q = i then _ else g1 q) = _
                  by_cases e : q = i
                  · rw [if_pos e, if_pos (by omega), e]
                  · rw [if_neg e, hg1 q hq]
                    by_cases e3 : a ≤ q ∧ q < i
                    · rw [if_pos e3, if_pos (by omega)]
                    · rw [if_neg e3, if_neg (by omega)])
                refine ⟨g2, ?_, y2⟩
                rw [← y1, sm_tot_u, fn_LA_takeFromTarget_q66]
                unfold fn_LA_takeFromTarget_b66
                rw [if_neg (show ¬ iI (h : Int) ≤ iI (i : Int) by rw [ii_le (by omega) (by omega) (by omega) (by omega)]; omega), if_pos (ii_g (a := (i : Int)) (N := 4) (by omega) (by omega) (by omega)), if_pos (ii_g (a := (rh a : Int)) (N := 6) (by omega) (by omega) (by omega)), if_pos (ii_g (a := (i : Int)) (N := 10) (by omega) (by omega) (by omega)), ii_nat (by omega) (by omega), ii_nat (by omega) (by omega), i2, irh, hgi, k3 i (by omega), ← Int64.ofInt_mul, ← Int64.ofInt_sub, sm_ev_l, ii_s]
            obtain ⟨g2, y1, y2⟩ := lp3 (h - a) a g (by omega) (Nat.le_refl _) (fun q hq => by rw [if_neg (by omega)]; exact hg q hq)
            rw [etf, y1, Option.bind_some, if_neg (show ¬ ((1 : Int32), g2).1 = 0 from show ¬ (1 : Int32) = 0 by decide), sm_ev_l, e60]
            exact ih (a + 1) g2 (by omega) (by rw [estep]) (by rw [estep]; exact y2)
          · rw [if_pos (Or.inr q2)] at estep
            rw [if_neg q2] at etf
            exact hno etf (by rw [estep])
  obtain ⟨g', y1, y2⟩ := lp1 h 0 tg (by omega) (fun q hq => by omega)
  obtain ⟨tg', z1⟩ := lp2 h 0 g' (by omega) rfl y2
  refine ⟨(rw_rch U B h).2, tg', ?_, hspec⟩
  rw [sm_tot_u, fn_LA_reaches_q0]
  exact y1.trans z1
end LRE
