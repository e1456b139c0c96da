/-! solvable, kernel, kernelAt, holds -/
section JK
variable {kn : Bool} {m nv ns : Nat} {lt : Nat → Int} {A : Nat → Nat → Int} {B : Nat → Int} {hs ro va sl : Int32} {sa : Nat → Nat → Int32} {sb slt : Nat → Int32} {kv he : Int32} {bs : Nat → Nat → Int64} {ra kr : Nat → Int32} {kno mro mva mco : Int32} {mlt mnu : Nat → Int32}
theorem ii_sol {n h : Nat} {A : Nat → Nat → Int} : nI (rw_sol n A h).2 = iI ((rw_sol n A h).2 : Int) := ii_nI
theorem mo_sw (h : js true m nv ns lt A B hs ro va sl sa sb slt kv he bs ra kr kno mro mva mco mlt mnu) (x y : Int32) (u one : Nat → Int64) :
    ∃ io' u' one', sm_tot (fn_MO_solveWhole mro mco mnu) (0, 0, 0, 0, x, y, u, one) = some (iI (rw_sol (nv + ns) A m).2, bI io', u', one') ∧ rf_pic (rw_sol (nv + ns) A m).2 (nv + ns) u' (rw_sol (nv + ns) A m).1 ∧ (io' = true ↔ ∃ w : Nat → Int, ∀ q, q < m → rw_dot (nv + ns) (A q) w = B q) := by
  obtain ⟨rfl, rfl, hm, hn, ha, hb, rfl, rfl, rfl, pa, pb, pl, hT, hF⟩ := h
  obtain ⟨rfl, rfl, rfl, hM, -⟩ := hT rfl
  have := mo_solveWhole hm hn (fun r c h1 h2 => (hM.2.2.1 r c h1 h2).1) ha (fun r h1 => (hM.2.2.2 r h1).1) hb x y u one
  rw [ii_nI, ii_nI, ii_nI] at this
  exact this
theorem jn_solvable (h : js true m nv ns lt A B hs ro va sl sa sb slt kv he bs ra kr kno mro mva mco mlt mnu) (th x y : Int32) (u one tg co : Nat → Int64) :
    ∃ r1 r2, sm_tot (fn_LW_solvable hs he bs ra sb) (0, tg, co) = some r1 ∧ sm_tot (fn_MO_solvable kno mro mco mnu) (0, 0, th, x, y, u, one) = some r2 ∧ r2.2.1 = r1.1 ∧ r1.1 = 0 ∧ lg_cmp (r1.2.2 (0 : Int32).toNatClampNeg) (r2.1 : Int32).toInt64 = 0 := by
  obtain ⟨io', u', one', hw, -, hio⟩ := mo_sw h x y u one
  obtain ⟨rfl, rfl, hm, hn, ha, hb, rfl, rfl, rfl, pa, pb, pl, hT, hF⟩ := h
  obtain ⟨rfl, rfl, rfl, hM, hL⟩ := hT rfl
  obtain ⟨b, tg', hr, hbb⟩ := la_reaches hm hn ha pb hb hL tg
  have hhe : he = iI m := hL.2.1
  subst hhe
  have hq : b = io' := by
    cases b with
    | true => exact (hio.mpr (hbb.mp rfl)).symm
    | false =>
      cases io' with
      | false => rfl
      | true => exact absurd (hbb.mpr (hio.mp rfl)) (by decide)
  subst hq
  have hC : sm_tot (fn_LS_solvable (bI true) (iI m) bs ra sb) (0, 0, tg) = some (bI b, tg') := by
    rw [sm_tot_u, fn_LS_solvable_q0]
    unfold fn_LS_solvable_b0
    rw [show sm_tot (fn_LS_needSystem (bI true)) 0 = some () from ls_system, Option.bind_some, hr, Option.bind_some]
    cases b with
    | false =>
      rw [if_pos (show (bI false, tg').1 = 0 from rfl), sm_ev_l, sm_tot_u, fn_LS_solvable_q23]
      rfl
    | true =>
      rw [if_neg (show ¬ (bI true, tg').1 = 0 from bI_t), sm_ev_l, sm_tot_u, fn_LS_solvable_q23]
      rfl
  refine ⟨(0, tg', vp_updL co (0 : Int32).toNatClampNeg (bI b).toInt64), (bI b, 0, iI (rw_sol (nv + ns) A m).2, bI b, u', one'), ?_, ?_, rfl, rfl, lg_1 rfl rfl⟩
  · rw [sm_tot_u, fn_LW_solvable_q0]
    unfold fn_LW_solvable_b0
    rw [hC, Option.bind_some, if_pos (by decide)]
    rfl
  · rw [sm_tot_u, fn_MO_solvable_q0]
    unfold fn_MO_solvable_b0
    rw [if_neg bI_t, sm_ev_l, sm_tot_u, fn_MO_solvable_q13]
    unfold fn_MO_solvable_b13
    rw [if_pos (by decide), hw, Option.bind_some]
    cases b with
    | false =>
      rw [if_pos (show (bI false, u', one').1 = 0 from rfl), sm_ev_l, sm_tot_u, fn_MO_solvable_q41]
      rfl
    | true =>
      rw [if_neg (show ¬ (bI true, u', one').1 = 0 from bI_t), sm_ev_l, sm_tot_u, fn_MO_solvable_q41]
      rfl
theorem jn_solvable_S (th x y v1 v2 : Int32) (u one : Nat → Int64) : ∃ r1 r2, sm_tot (fn_LW_solvable_S 0) 0 = some r1 ∧ sm_tot (fn_MO_solvable 0 v1 v2 mnu) (0, 0, th, x, y, u, one) = some r2 ∧ r2.2.1 = r1 ∧ ¬ r1 = 0 := by
  refine ⟨1, (0, 1, x, y, u, one), ?_, ?_, rfl, by decide⟩
  · rw [sm_tot_u, fn_LW_solvable_S_q0]
    unfold fn_LW_solvable_S_b0
    rw [sm_tot_u, fx_LS_solvable_S_q0]
    unfold fx_LS_solvable_S_b0
    rw [ls_sysN]
    rfl
  · rw [sm_tot_u, fn_MO_solvable_q0]
    unfold fn_MO_solvable_b0
    rw [if_pos rfl, sm_ev_l, sm_tot_u, fn_MO_solvable_q13]
    unfold fn_MO_solvable_b13
    rw [if_neg (by decide)]
    rfl
theorem jn_kernel (h : js true m nv ns lt A B hs ro va sl sa sb slt kv he bs ra kr kno mro mva mco mlt mnu) (th x y : Int32) (u one co : Nat → Int64) :
    ∃ r1 r2, sm_tot (fn_LW_kernel hs kv) (0, co) = some r1 ∧ sm_tot (fn_MO_kernel kno mro mco mnu) (0, 0, th, x, y, u, one) = some r2 ∧ r2.2.1 = r1.1 ∧ r1.1 = 0 ∧ lg_cmp (r1.2 (0 : Int32).toNatClampNeg) (r2.1 : Int32).toInt64 = 0 := by
  obtain ⟨io', u', one', hw, -, -⟩ := mo_sw h x y u one
  obtain ⟨rfl, rfl, hm, hn, ha, hb, rfl, rfl, rfl, pa, pb, pl, hT, hF⟩ := h
  obtain ⟨rfl, rfl, rfl, hM, hL⟩ := hT rfl
  have hkv : kv = iI (rw_sol (nv + ns) A m).2 := hL.1
  subst hkv
  refine ⟨(0, vp_updL co (0 : Int32).toNatClampNeg (iI (rw_sol (nv + ns) A m).2).toInt64), (iI (rw_sol (nv + ns) A m).2, 0, iI (rw_sol (nv + ns) A m).2, bI io', u', one'), ?_, ?_, rfl, rfl, lg_1 rfl rfl⟩
  · rw [sm_tot_u, fn_LW_kernel_q0]
    unfold fn_LW_kernel_b0
    rw [sm_tot_u, fn_LS_kernel_q0]
    unfold fn_LS_kernel_b0
    rw [show sm_tot (fn_LS_needSystem (bI true)) 0 = some () from ls_system, Option.bind_some, sm_ev_r, Option.bind_some, if_pos (by decide)]
    rfl
  · rw [sm_tot_u, fn_MO_kernel_q0]
    unfold fn_MO_kernel_b0
    rw [if_neg bI_t, sm_ev_l, sm_tot_u, fn_MO_kernel_q13]
    unfold fn_MO_kernel_b13
    rw [if_pos (by decide), hw]
    rfl
theorem jn_kernel_S (th x y v1 v2 v3 : Int32) (u one : Nat → Int64) : ∃ r1 r2, sm_tot (fn_LW_kernel_S 0 v3) 0 = some r1 ∧ sm_tot (fn_MO_kernel 0 v1 v2 mnu) (0, 0, th, x, y, u, one) = some r2 ∧ r2.2.1 = r1 ∧ ¬ r1 = 0 := by
  refine ⟨1, (0, 1, x, y, u, one), ?_, ?_, rfl, by decide⟩
  · rw [sm_tot_u, fn_LW_kernel_S_q0]
    unfold fn_LW_kernel_S_b0
    rw [sm_tot_u, fx_LS_kernel_S_q0]
    unfold fx_LS_kernel_S_b0
    rw [ls_sysN]
    rfl
  · rw [sm_tot_u, fn_MO_kernel_q0]
    unfold fn_MO_kernel_b0
    rw [if_pos rfl, sm_ev_l, sm_tot_u, fn_MO_kernel_q13]
    unfold fn_MO_kernel_b13
    rw [if_neg (by decide)]
    rfl
theorem rw_sol_6 {n : Nat} {A : Nat → Nat → Int} (hn : n ≤ 6) : ∀ h, (rw_sol n A h).2 ≤ 6 := by
  intro h
  exact Nat.le_trans (rw_sol_le n A h) hn
theorem jn_kernelAt (h : js kn m nv ns lt A B hs ro va sl sa sb slt kv he bs ra kr kno mro mva mco mlt mnu) (a1 a2 th x y : Int32) (u one co : Nat → Int64) :
    (∃ r1 r2, sm_tot (fn_LW_kernelAt a1 a2 kv he va sl bs kr) (0, co) = some r1 ∧ sm_tot (fn_MO_kernelAt a1 a2 kno mro mco mnu) (0, 0, 0, th, x, y, u, one) = some r2 ∧ r2.2.1 = r1.1 ∧ r1.1 = 0 ∧ lg_cmp (r1.2 (0 : Int32).toNatClampNeg) r2.1 = 0) ∨
    (∃ r1 r2, sm_tot (fn_LW_kernelAt_O a1 a2 kv va sl) 0 = some r1 ∧ sm_tot (fn_MO_kernelAt a1 a2 kno mro mco mnu) (0, 0, 0, th, x, y, u, one) = some r2 ∧ r2.2.1 = r1 ∧ ¬ r1 = 0) := by
  obtain ⟨z, rfl, h1, h2⟩ := ii_of a1
  obtain ⟨y2, rfl, g1, g2⟩ := ii_of a2
  have hJ := h
  obtain ⟨rfl, rfl, hm, hn, ha, hb, rfl, rfl, rfl, pa, pb, pl, hT, hF⟩ := h
  have hcol : sm_tot (fn_MO_isColumn (iI y2) (bI kn) mco) (0, 0) = some (bI (decide (0 ≤ y2 ∧ y2 < ((nv + ns : Nat) : Int)))) := mo_isColumn hn (fun q => (hT q).2.2.1) (fun q => by have := hF q; omega) g1 g2
  have e17 : ∀ a b w v1 v2 v3 v4, sm_tot (fn_MO_kernelAt (iI z) (iI y2) (bI kn) mro mco mnu) (17, a, b, w, v1, v2, v3, v4) = some (0, w, v1, v2, v3, v4) := by
    intro a b w v1 v2 v3 v4
    rw [sm_tot_u, fn_MO_kernelAt_q17]
    rfl
  have e62 : ∀ a b w v1 v2 v3 v4, sm_tot (fn_MO_kernelAt (iI z) (iI y2) (bI kn) mro mco mnu) (62, a, b, w, v1, v2, v3, v4) = some (b, w, v1, v2, v3, v4) := by
    intro a b w v1 v2 v3 v4
    rw [sm_tot_u, fn_MO_kernelAt_q62]
    rfl
  have hz : z < 0 → iI z < 0 := fun q => by rw [il_0, ii_lt h1 h2 (by omega) (by omega)]; exact q
  have hz' : ¬ z < 0 → ¬ iI z < 0 := fun q => by rw [il_0, ii_lt h1 h2 (by omega) (by omega)]; exact q
  have h6 := rw_sol_6 (A := A) hn m
  by_cases qc : 0 ≤ y2 ∧ y2 < ((nv + ns : Nat) : Int)
  · have hk : kn = true := by
      cases kn with
      | true => rfl
      | false => have := hF rfl; omega
    subst hk
    obtain ⟨io', u', one', hw, hpic, -⟩ := mo_sw hJ x y u one
    obtain ⟨rfl, rfl, rfl, hM, hL⟩ := hT rfl
    have hkv : kv = iI (rw_sol (nv + ns) A m).2 := hL.1
    have hhe : he = iI m := hL.2.1
    subst hkv hhe
    have hv : z < ((rw_sol (nv + ns) A m).2 : Int) → iI z < iI ((rw_sol (nv + ns) A m).2 : Int) := fun q => by rw [ii_lt h1 h2 (by omega) (by omega)]; exact q
    have hv' : ¬ z < ((rw_sol (nv + ns) A m).2 : Int) → ¬ iI z < iI ((rw_sol (nv + ns) A m).2 : Int) := fun q => by rw [ii_lt h1 h2 (by omega) (by omega)]; exact q
    by_cases q : 0 ≤ z ∧ z < ((rw_sol (nv + ns) A m).2 : Int)
    · left
      obtain ⟨i, rfl⟩ : ∃ i : Nat, z = i := ⟨z.toNat, by omega⟩
      obtain ⟨c, rfl⟩ : ∃ c : Nat, y2 = c := ⟨y2.toNat, by omega⟩
      have hC : sm_tot (fn_LS_kernelAt (iI (i : Int)) (iI (c : Int)) (iI (rw_sol (nv + ns) A m).2) (iI m) (iI nv) (iI ns) bs kr) 0 = some (Int64.ofInt ((rw_sol (nv + ns) A m).1 i c)) := by
        rw [sm_tot_u, fn_LS_kernelAt_q0]
        unfold fn_LS_kernelAt_b0
        rw [if_neg (hz' (by omega)), if_pos (hv (by omega)), ls_colY hn g1 g2 qc, Option.bind_some, la_kernelNumber hm hn hL (by omega) (by omega)]
        rfl
      refine ⟨(0, vp_updL co (0 : Int32).toNatClampNeg (Int64.ofInt ((rw_sol (nv + ns) A m).1 i c))), (Int64.ofInt ((rw_sol (nv + ns) A m).1 i c), 0, iI (rw_sol (nv + ns) A m).2, bI io', u', one'), ?_, ?_, rfl, rfl, lg_1 rfl rfl⟩
      · rw [sm_tot_u, fn_LW_kernelAt_q0]
        unfold fn_LW_kernelAt_b0
        rw [hC, Option.bind_some, if_pos (by decide)]
        rfl
      · rw [sm_tot_u, fn_MO_kernelAt_q0]
        unfold fn_MO_kernelAt_b0
        rw [hcol, Option.bind_some, decide_eq_true qc, if_neg bI_t, if_pos (show (0 : Int32) ≤ iI (i : Int) by rw [il_0, ii_le (by omega) (by omega) h1 h2]; omega), hw, Option.bind_some]
        rw [if_neg (show ¬ (iI ((rw_sol (nv + ns) A m).2 : Int), bI io', u', one').1 ≤ iI (i : Int) from by show ¬ iI ((rw_sol (nv + ns) A m).2 : Int) ≤ iI (i : Int); rw [ii_le (by omega) (by omega) h1 h2]; omega), sm_ev_l, sm_tot_u, fn_MO_kernelAt_q37]
        unfold fn_MO_kernelAt_b37
        rw [if_pos rfl, show (6 : Int32) * iI (i : Int) + iI (c : Int) = iI ((6 * i + c : Nat) : Int) by rw [il_6, ii_mul, ii_add]; congr 1, if_pos (ii_g (a := ((6 * i + c : Nat) : Int)) (N := 36) (by omega) (by omega) (by omega)), sm_ev_l, e62, ii_nat (by omega) (by omega), Int.toNat_natCast]
        show some (u' (6 * i + c), _) = _
        rw [hpic i c (by omega) (by omega)]
    · right
      have hO : sm_tot (fx_LS_kernelAt_O (iI z) (iI y2) (iI (rw_sol (nv + ns) A m).2) (iI nv) (iI ns)) 0 = some () := by
        have c15 : sm_tot (fx_LS_kernelAt_O (iI z) (iI y2) (iI (rw_sol (nv + ns) A m).2) (iI nv) (iI ns)) 15 = some () := by
          rw [sm_tot_u, fx_LS_kernelAt_O_q15]
          rfl
        rw [sm_tot_u, fx_LS_kernelAt_O_q0]
        unfold fx_LS_kernelAt_O_b0
        by_cases q1 : z < 0
        · rw [if_pos (hz q1), sm_ev_l, c15]
        · rw [if_neg (hz' q1), if_neg (hv' (by omega)), sm_ev_l, c15]
      have hM1 : sm_tot (fn_LW_kernelAt_O (iI z) (iI y2) (iI (rw_sol (nv + ns) A m).2) (iI nv) (iI ns)) 0 = some 1 := by
        rw [sm_tot_u, fn_LW_kernelAt_O_q0]
        unfold fn_LW_kernelAt_O_b0
        rw [hO]
        rfl
      by_cases q1 : z < 0
      · refine ⟨1, (0, 1, x, y, u, one), hM1, ?_, rfl, by decide⟩
        rw [sm_tot_u, fn_MO_kernelAt_q0]
        unfold fn_MO_kernelAt_b0
        rw [hcol, Option.bind_some, decide_eq_true qc, if_neg bI_t, if_neg (show ¬ (0 : Int32) ≤ iI z by rw [il_0, ii_le (by omega) (by omega) h1 h2]; omega), sm_ev_l, e17]
      · refine ⟨1, (0, 1, iI (rw_sol (nv + ns) A m).2, bI io', u', one'), hM1, ?_, rfl, by decide⟩
        rw [sm_tot_u, fn_MO_kernelAt_q0]
        unfold fn_MO_kernelAt_b0
        rw [hcol, Option.bind_some, decide_eq_true qc, if_neg bI_t, if_pos (show (0 : Int32) ≤ iI z by rw [il_0, ii_le (by omega) (by omega) h1 h2]; omega), hw, Option.bind_some]
        rw [if_pos (show (iI ((rw_sol (nv + ns) A m).2 : Int), bI io', u', one').1 ≤ iI z from by show iI ((rw_sol (nv + ns) A m).2 : Int) ≤ iI z; rw [ii_le (by omega) (by omega) h1 h2]; omega), sm_ev_l, sm_tot_u, fn_MO_kernelAt_q37]
        unfold fn_MO_kernelAt_b37
        rw [if_neg (by decide), sm_ev_l, e62]
  · right
    have hO : sm_tot (fx_LS_kernelAt_O (iI z) (iI y2) kv (iI nv) (iI ns)) 0 = some () := by
      have c15 : sm_tot (fx_LS_kernelAt_O (iI z) (iI y2) kv (iI nv) (iI ns)) 15 = some () := by
        rw [sm_tot_u, fx_LS_kernelAt_O_q15]
        rfl
      rw [sm_tot_u, fx_LS_kernelAt_O_q0]
      unfold fx_LS_kernelAt_O_b0
      by_cases q1 : z < 0
      · rw [if_pos (hz q1), sm_ev_l, c15]
      rw [if_neg (hz' q1)]
      by_cases q2 : iI z < kv
      · rw [if_pos q2, ls_colN hn g1 g2 qc]
        rfl
      · rw [if_neg q2, sm_ev_l, c15]
    refine ⟨1, (0, 1, x, y, u, one), ?_, ?_, rfl, by decide⟩
    · rw [sm_tot_u, fn_LW_kernelAt_O_q0]
      unfold fn_LW_kernelAt_O_b0
      rw [hO]
      rfl
    · rw [sm_tot_u, fn_MO_kernelAt_q0]
      unfold fn_MO_kernelAt_b0
      rw [hcol, Option.bind_some, decide_eq_false qc, if_pos bI_f, sm_ev_l, e17]
end JK
