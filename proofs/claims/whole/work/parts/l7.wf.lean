/-- the reference's work is the list of the least ones -/
theorem mo_work {what m n bo : Nat} {cu : Nat → Int32} {A : Nat → Nat → Int} {b : Nat → Int} (h : mo_sys m n A b cu) (hw : what ≤ 2) (hbo : bo ≤ (if what = 2 then 10 else 16)) {th sp : Int32} (hsp : sp = 0 ∨ sp = 1) {il bd cs cl cw : Nat → Int32} :
    ∃ cl' cw', sm_tot (fn_MO_work (iI what) (iI bo) 1 (iI m) (iI n) cu) (0, 0, 0, 0, 0, 0, th, sp, il, bd, cs, cl, cw) = some (if (sx_list what m n A b (bo + 1) 0 []).2 = true then iI (sx_list what m n A b (bo + 1) 0 []).1.length else -1, 0, if what = 2 then sp else 0, upd il what (bI (sx_list what m n A b (bo + 1) 0 []).2), if (sx_list what m n A b (bo + 1) 0 []).2 = true then upd bd what (iI bo) else bd, upd cs what (if (sx_list what m n A b (bo + 1) 0 []).2 = true then iI (sx_list what m n A b (bo + 1) 0 []).1.length else 0), cl', cw') ∧
      mo_pic what n (sx_list what m n A b (bo + 1) 0 []).1 cl' ∧ vl_rng n (sx_list what m n A b (bo + 1) 0 []).1 ∧ (sx_list what m n A b (bo + 1) 0 []).1.length ≤ 2000 ∧ ∀ q, q < 12000 * what ∨ 12000 * what + 12000 ≤ q → cl' q = cl q := by
  have hb16 : bo ≤ 16 := by split at hbo <;> omega
  have i0 : ((what : Int)).toNat = what := by omega
  have n0 : vp_nar .boolean 0 = 0 := by decide
  have n1 : vp_nar .boolean 1 = 1 := by decide
  obtain ⟨cs', cl', cw', o1, o2⟩ := mo_outer (bo := bo) (th := 0) (sp := if what = 2 then sp else 0) (il := upd il what 0) (bd := bd) (cs0 := upd cs what 0) (cl0 := cl) h hw hb16 ((if n = 0 then 0 else bo) + 1) 0 [] (upd cs what 0) cl cw (by omega) ⟨by rw [upd_upd]; rfl, fun k hk => by simp at hk, fun k hk => by simp at hk, by simp, fun _ _ => rfl⟩
  rw [mo_list hw] at o1 o2
  obtain ⟨l1, l2, l3, l4, l5⟩ := o2
  rw [upd_upd] at l1
  refine ⟨cl', cw', ?_, l2, l3, l4, l5⟩
  have h90 : ∀ (x : Int32), (x = 0 ∨ x = 1) → ∀ a b c d e y, sm_tot (fn_MO_work (iI what) (iI bo) 1 (iI m) (iI n) cu) (90, a, b, c, x, d, 0, y, upd il what 0, bd, upd cs what 0, cl, cw) = sm_tot (fn_MO_work (iI what) (iI bo) 1 (iI m) (iI n) cu) (98, 1, 0, 0, 0, 0, 0, x, upd il what 0, bd, upd cs what 0, cl, cw) ∨ e = (0 : Nat) := fun x hx a b c d e y => by
    left
    rw [sm_tot_u, fn_MO_work_q90]
    unfold fn_MO_work_b90
    rw [if_pos hx, sm_ev_l]
  have h90' : ∀ (x : Int32), (x = 0 ∨ x = 1) → ∀ a b c d y, sm_tot (fn_MO_work (iI what) (iI bo) 1 (iI m) (iI n) cu) (90, a, b, c, x, d, 0, y, upd il what 0, bd, upd cs what 0, cl, cw) = sm_tot (fn_MO_work (iI what) (iI bo) 1 (iI m) (iI n) cu) (98, 1, 0, 0, 0, 0, 0, x, upd il what 0, bd, upd cs what 0, cl, cw) := fun x hx a b c d y => (h90 x hx a b c d 1 y).resolve_right (by decide)
  have h89 : ∀ a b c d e y, sm_tot (fn_MO_work (iI what) (iI bo) 1 (iI m) (iI n) cu) (89, a, b, c, d, e, 0, y, upd il what 0, bd, upd cs what 0, cl, cw) = sm_tot (fn_MO_work (iI what) (iI bo) 1 (iI m) (iI n) cu) (98, 1, 0, 0, 0, 0, 0, 0, upd il what 0, bd, upd cs what 0, cl, cw) := fun a b c d e y => by
    rw [sm_tot_u, fn_MO_work_q89]
    exact h90' 0 (Or.inl rfl) _ _ _ _ _
  have h46 : sm_tot (fn_MO_work (iI what) (iI bo) 1 (iI m) (iI n) cu) (46, 0, 0, 0, 0, 0, th, sp, il, bd, cs, cl, cw) = sm_tot (fn_MO_work (iI what) (iI bo) 1 (iI m) (iI n) cu) (98, 1, 0, 0, 0, 0, 0, if what = 2 then sp else 0, upd il what 0, bd, upd cs what 0, cl, cw) := by
    rw [sm_tot_u, fn_MO_work_q46]
    unfold fn_MO_work_b46
    rw [n0, if_pos (show (0 : Int32) ≤ 0 by decide), if_pos (show ¬ (iI (what : Int) < 0 ∨ 3 ≤ (iI (what : Int)).toNatClampNeg) by rw [il_0, ii_lt (by omega) (by omega) (by omega) (by omega), ii_nat (by omega) (by omega)]; omega), if_pos (show ¬ (iI (what : Int) < 0 ∨ 3 ≤ (iI (what : Int)).toNatClampNeg) by rw [il_0, ii_lt (by omega) (by omega) (by omega) (by omega), ii_nat (by omega) (by omega)]; omega), ii_nat (by omega) (by omega), i0]
    rcases hsp with rfl | rfl
    · rw [if_pos rfl, sm_ev_l, ite_self]
      exact h89 _ _ _ _ _ _
    · rw [if_neg (show ¬ (1 : Int32) = 0 by decide)]
      by_cases e2 : what = 2
      · rw [if_pos (show iI (what : Int) = 2 by rw [e2]; rfl), sm_ev_l, if_pos e2]
        exact h90' 1 (Or.inr rfl) _ _ _ _ _
      · rw [if_neg (show ¬ iI (what : Int) = 2 by rw [il_2, ii_eq (by omega) (by omega) (by omega) (by omega)]; omega), sm_ev_l, if_neg e2]
        exact h89 _ _ _ _ _ _
  have h27 : ∀ M : Nat, M ≤ 100 → bo ≤ M → ∀ a b c, sm_tot (fn_MO_work (iI what) (iI bo) 1 (iI m) (iI n) cu) (27, a, b, c, iI M, iI bo, th, sp, il, bd, cs, cl, cw) = sm_tot (fn_MO_work (iI what) (iI bo) 1 (iI m) (iI n) cu) (46, 0, 0, 0, 0, 0, th, sp, il, bd, cs, cl, cw) := fun M h1 h2 a b c => by
    rw [sm_tot_u, fn_MO_work_q27]
    unfold fn_MO_work_b27
    rw [if_pos (show iI (bo : Int) ≤ iI (M : Int) by rw [ii_le (by omega) (by omega) (by omega) (by omega)]; omega), if_neg (show ¬ (1 : Int32) = 0 by decide), sm_ev_l]
  have h0 : sm_tot (fn_MO_work (iI what) (iI bo) 1 (iI m) (iI n) cu) (0, 0, 0, 0, 0, 0, th, sp, il, bd, cs, cl, cw) = sm_tot (fn_MO_work (iI what) (iI bo) 1 (iI m) (iI n) cu) (46, 0, 0, 0, 0, 0, th, sp, il, bd, cs, cl, cw) := by
    rw [sm_tot_u, fn_MO_work_q0]
    unfold fn_MO_work_b0
    rw [if_neg (show ¬ iI (what : Int) < 0 by rw [il_0, ii_lt (by omega) (by omega) (by omega) (by omega)]; omega), if_neg (show ¬ (2 : Int32) < iI (what : Int) by rw [il_2, ii_lt (by omega) (by omega) (by omega) (by omega)]; omega), if_neg (show ¬ iI (bo : Int) < 0 by rw [il_0, ii_lt (by omega) (by omega) (by omega) (by omega)]; omega)]
    by_cases e2 : what = 2
    · rw [if_pos (show iI (what : Int) = 2 by rw [e2]; rfl), sm_ev_l]
      rw [if_pos e2] at hbo
      exact h27 10 (by omega) hbo _ _ _
    · rw [if_neg (show ¬ iI (what : Int) = 2 by rw [il_2, ii_eq (by omega) (by omega) (by omega) (by omega)]; omega), sm_ev_l]
      rw [if_neg e2] at hbo
      exact h27 16 (by omega) hbo _ _ _
  rw [h0, h46]
  have o1' : sm_tot (fn_MO_work (iI what) (iI bo) 1 (iI m) (iI n) cu) (98, 1, 0, 0, 0, 0, 0, if what = 2 then sp else 0, upd il what 0, bd, upd cs what 0, cl, cw) = _ := o1
  rw [o1']
  have hg : ¬ (iI (what : Int) < 0 ∨ 3 ≤ (iI (what : Int)).toNatClampNeg) := by rw [il_0, ii_lt (by omega) (by omega) (by omega) (by omega), ii_nat (by omega) (by omega)]; omega
  rw [sm_tot_u, fn_MO_work_q213]
  unfold fn_MO_work_b213
  rw [if_pos hg, if_pos hg, if_pos hg, if_pos hg, ii_nat (by omega) (by omega), i0, l1, n1, upd_upd, upd_upd]
  cases (sx_list what m n A b (bo + 1) 0 []).2 with
  | true =>
    rw [if_neg (show ¬ bI true = 0 by decide), sm_ev_r, if_pos rfl, if_pos rfl, if_pos rfl]
    rw [show upd cs what (iI ((sx_list what m n A b (bo + 1) 0 []).1.length : Int)) what = iI ((sx_list what m n A b (bo + 1) 0 []).1.length : Int) from if_pos rfl]
    rfl
  | false =>
    rw [if_pos (show bI false = 0 from rfl), sm_ev_r, if_neg (show ¬ (false = true) by decide), if_neg (show ¬ (false = true) by decide), if_neg (show ¬ (false = true) by decide)]
    rfl
