section MX
variable {what m n bo : Nat} {cu : Nat → Int32} {A : Nat → Nat → Int} {b : Nat → Int}
/-- all vectors of a size -/
theorem mo_inner (h : mo_sys m n A b cu) (hw : what ≤ 2) {s : Nat} (hs : s ≤ 16) {th sp : Int32} {il bd cs0 cl0 : Nat → Int32} : ∀ (E : List (Nat → Int)) (x : Nat → Int) (L : List (Nat → Int)) (cs cl cw : Nat → Int32), sx_Lk (sx_sc (decide (what = 2)) n n) E x → (∀ y, y ∈ E → (∀ j, (y j).natAbs ≤ 16) ∧ (s = 0 → ∀ j, y j = 0)) → se_vp cw x → mo_has what n cs0 cl0 cs cl L →
    ∃ cs' cl' cw', sm_tot (fn_MO_work (iI what) (iI bo) 1 (iI m) (iI n) cu) (131, 1, iI s, 1, 0, 0, th, sp, il, bd, cs, cl, cw) = sm_tot (fn_MO_work (iI what) (iI bo) 1 (iI m) (iI n) cu) (207, bI (sx_fo (sx_tR 2000 (sx_P what m n A b) (sx_rej what n)) E L).2, iI s, 0, 0, 0, th, sp, il, bd, cs', cl', cw') ∧ mo_has what n cs0 cl0 cs' cl' (sx_fo (sx_tR 2000 (sx_P what m n A b) (sx_rej what n)) E L).1 := by
  have f1 : ∀ (t : Bool) cs cl cw, sm_tot (fn_MO_work (iI what) (iI bo) 1 (iI m) (iI n) cu) (131, bI t, iI s, bI false, 0, 0, th, sp, il, bd, cs, cl, cw) = sm_tot (fn_MO_work (iI what) (iI bo) 1 (iI m) (iI n) cu) (207, bI t, iI s, 0, 0, 0, th, sp, il, bd, cs, cl, cw) := fun t cs cl cw => by
    rw [sm_tot_u, fn_MO_work_q131]
    unfold fn_MO_work_b131
    rw [if_pos (show bI false = 0 from rfl), sm_ev_l]
  have f2 : ∀ (t : Bool) cs cl cw, sm_tot (fn_MO_work (iI what) (iI bo) 1 (iI m) (iI n) cu) (131, bI false, iI s, bI t, 0, 0, th, sp, il, bd, cs, cl, cw) = sm_tot (fn_MO_work (iI what) (iI bo) 1 (iI m) (iI n) cu) (207, bI false, iI s, 0, 0, 0, th, sp, il, bd, cs, cl, cw) := fun t cs cl cw => by
    rw [sm_tot_u, fn_MO_work_q131]
    unfold fn_MO_work_b131
    rw [if_pos (show bI false = 0 from rfl)]
    split <;> rw [sm_ev_l]
  intro E
  induction E with
  | nil => intro x L cs cl cw hc; exact hc.elim
  | cons y r ih =>
    intro x L cs cl cw hc hE hv hL
    obtain ⟨y1, y2⟩ := hE y List.mem_cons_self
    cases r with
    | nil =>
      obtain ⟨rfl, hnx⟩ := hc
      obtain ⟨cs', cl', cw', a1, a2, a3⟩ := mo_131 (bo := bo) (th := th) (sp := sp) (il := il) (bd := bd) h hw hs y1 y2 hv hL
      refine ⟨cs', cl', cw', ?_, ?_⟩
      · rw [a1, hnx, sx_fo_one]
        exact f1 _ _ _ _
      · rw [sx_fo_one]; exact a3
    | cons z r =>
      obtain ⟨rfl, hnx, hc2⟩ := hc
      obtain ⟨cs', cl', cw', a1, a2, a3⟩ := mo_131 (bo := bo) (th := th) (sp := sp) (il := il) (bd := bd) h hw hs y1 y2 hv hL
      rw [hnx] at a1 a2
      rw [sx_fo_cons, a1]
      by_cases e : (sx_tR 2000 (sx_P what m n A b) (sx_rej what n) L x).2 = true
      · rw [if_pos e, e]
        exact ih z _ cs' cl' cw' hc2 (fun q hq => hE q (List.mem_cons_of_mem _ hq)) a2 a3
      · have e' : (sx_tR 2000 (sx_P what m n A b) (sx_rej what n) L x).2 = false := by simpa using e
        rw [if_neg e, e']
        exact ⟨cs', cl', cw', f2 _ _ _ _, a3⟩
theorem mo_outer (h : mo_sys m n A b cu) (hw : what ≤ 2) (hb : bo ≤ 16) {th sp : Int32} {il bd cs0 cl0 : Nat → Int32} : ∀ (q s : Nat) (L : List (Nat → Int)) (cs cl cw : Nat → Int32), s + q = (if n = 0 then 0 else bo) + 1 → mo_has what n cs0 cl0 cs cl L →
    ∃ cs' cl' cw', sm_tot (fn_MO_work (iI what) (iI bo) 1 (iI m) (iI n) cu) (98, 1, iI s, 0, 0, 0, th, sp, il, bd, cs, cl, cw) = sm_tot (fn_MO_work (iI what) (iI bo) 1 (iI m) (iI n) cu) (213, bI (sx_szs (fun s L => sx_fo (sx_tR 2000 (sx_P what m n A b) (sx_rej what n)) (sx_E (decide (what = 2)) n 0 s sx_z) L) q s L).2, 0, 0, 0, 0, th, sp, il, bd, cs', cl', cw') ∧ mo_has what n cs0 cl0 cs' cl' (sx_szs (fun s L => sx_fo (sx_tR 2000 (sx_P what m n A b) (sx_rej what n)) (sx_E (decide (what = 2)) n 0 s sx_z) L) q s L).1 := by
  have hn := h.2.1
  have hmo : sm_tot (fn_MO_most (iI bo) (iI n)) (0, 0) = some (iI ((if n = 0 then 0 else bo : Nat) : Int)) := by
    rw [sm_tot_u, fn_MO_most_q0]
    unfold fn_MO_most_b0
    simp (disch := omega) only [il_0, ii_eq]
    by_cases e : n = 0
    · rw [if_pos (by omega), if_pos e, sm_ev_l, sm_tot_u, fn_MO_most_q12]; rfl
    · rw [if_neg (by omega), if_neg e, sm_ev_l, sm_tot_u, fn_MO_most_q12]; rfl
  have hmb : (if n = 0 then 0 else bo : Nat) ≤ 16 := by split <;> omega
  intro q
  induction q with
  | zero =>
    intro s L cs cl cw hs hL
    refine ⟨cs, cl, cw, ?_, hL⟩
    rw [sm_tot_u, fn_MO_work_q98]
    unfold fn_MO_work_b98
    rw [hmo, Option.bind_some, if_pos (by rw [ii_lt (by omega) (by omega) (by omega) (by omega)]; omega), sm_ev_l]
    rfl
  | succ q ih =>
    intro s L cs cl cw hs hL
    have hs16 : s ≤ 16 := by omega
    have hn0 : n = 0 → s = 0 := fun e => by rw [if_pos e] at hs; omega
    obtain ⟨u', b1, b2⟩ := mo_begin (sg := decide (what = 2)) (s := s) hn hn0 cw
    have hch : sx_Lk (sx_sc (decide (what = 2)) n n) (sx_E (decide (what = 2)) n 0 s sx_z) (if n = 0 then sx_z else sx_sp (decide (what = 2)) n 0 s sx_z) := by
      by_cases e : n = 0
      · subst e
        rw [if_pos rfl, hn0 rfl]
        exact ⟨rfl, rfl⟩
      · rw [if_neg e]
        obtain ⟨k, rfl⟩ : ∃ k, n = k + 1 := ⟨n - 1, by omega⟩
        exact sx_E_ch k 0 s sx_z (by omega)
    have hmem : ∀ y, y ∈ sx_E (decide (what = 2)) n 0 s sx_z → (∀ j, (y j).natAbs ≤ 16) ∧ (s = 0 → ∀ j, y j = 0) := fun y hy => by
      obtain ⟨p1, p2, -⟩ := sx_E_mem.mp hy
      have key : ∀ j, (y j).natAbs ≤ s := fun j => by
        by_cases e : j < n
        · have := sx_sz_ge (w := y) (k := n) (c := 0) (j := j) (by omega) (by omega)
          omega
        · rw [p1 j (by omega)]; exact Nat.zero_le _
      exact ⟨fun j => Nat.le_trans (key j) hs16, fun e j => by have := key j; omega⟩
    obtain ⟨cs', cl', cw', i1, i2⟩ := mo_inner (bo := bo) (th := th) (sp := sp) (il := il) (bd := bd) h hw hs16 _ _ L cs cl u' hch hmem b2 hL
    have h125 : sm_tot (fn_MO_work (iI what) (iI bo) 1 (iI m) (iI n) cu) (125, 1, iI s, 0, bI (decide (what = 2)), iI s, th, sp, il, bd, cs, cl, cw) = sm_tot (fn_MO_work (iI what) (iI bo) 1 (iI m) (iI n) cu) (98, bI (sx_fo (sx_tR 2000 (sx_P what m n A b) (sx_rej what n)) (sx_E (decide (what = 2)) n 0 s sx_z) L).2, iI ((s + 1 : Nat) : Int), 0, 0, 0, th, sp, il, bd, cs', cl', cw') := by
      rw [sm_tot_u, fn_MO_work_q125]
      unfold fn_MO_work_b125
      rw [b1, Option.bind_some, sm_ev_l, i1, sm_tot_u, fn_MO_work_q207]
      unfold fn_MO_work_b207
      rw [sm_ev_l, il_1, ii_add]
      rfl
    have h98 : sm_tot (fn_MO_work (iI what) (iI bo) 1 (iI m) (iI n) cu) (98, 1, iI s, 0, 0, 0, th, sp, il, bd, cs, cl, cw) = sm_tot (fn_MO_work (iI what) (iI bo) 1 (iI m) (iI n) cu) (125, 1, iI s, 0, bI (decide (what = 2)), iI s, th, sp, il, bd, cs, cl, cw) := by
      rw [sm_tot_u, fn_MO_work_q98]
      unfold fn_MO_work_b98
      rw [hmo, Option.bind_some, if_neg (show ¬ iI ((if n = 0 then 0 else bo : Nat) : Int) < iI (s : Int) by rw [ii_lt (by omega) (by omega) (by omega) (by omega)]; omega), if_neg (show ¬ (1 : Int32) = 0 by decide)]
      by_cases e2 : what = 2
      · rw [if_pos (show iI (what : Int) = 2 by rw [e2]; rfl), sm_ev_l, decide_eq_true e2]; rfl
      · rw [if_neg (show ¬ iI (what : Int) = 2 by rw [il_2, ii_eq (by omega) (by omega) (by omega) (by omega)]; omega), sm_ev_l, decide_eq_false e2]; rfl
    rw [h98, h125, sx_szs_succ]
    by_cases e : (sx_fo (sx_tR 2000 (sx_P what m n A b) (sx_rej what n)) (sx_E (decide (what = 2)) n 0 s sx_z) L).2 = true
    · rw [if_pos e, e, bI_1]
      exact ih (s + 1) _ cs' cl' cw' (by omega) i2
    · have e' : (sx_fo (sx_tR 2000 (sx_P what m n A b) (sx_rej what n)) (sx_E (decide (what = 2)) n 0 s sx_z) L).2 = false := by simpa using e
      rw [if_neg e, e']
      refine ⟨cs', cl', cw', ?_, i2⟩
      rw [sm_tot_u, fn_MO_work_q98]
      unfold fn_MO_work_b98
      rw [hmo, Option.bind_some, if_pos (show bI false = 0 from rfl)]
      rw [ite_self, sm_ev_l]
theorem upd_upd {f : Nat → Int32} {k : Nat} {x y : Int32} : upd (upd f k x) k y = upd f k y := by
  funext j
  show (if j = k then y else (if j = k then x else f j)) = (if j = k then y else f j)
  split <;> rfl
/-- the same list, whichever of the two asks -/
theorem mo_list (hw : what ≤ 2) : sx_szs (fun s L => sx_fo (sx_tR 2000 (sx_P what m n A b) (sx_rej what n)) (sx_E (decide (what = 2)) n 0 s sx_z) L) ((if n = 0 then 0 else bo) + 1) 0 [] = sx_list what m n A b (bo + 1) 0 [] := by
  rw [sx_work_eq hw _ _ _ sx_Cm_nil]
  by_cases e : n = 0
  · subst e
    rw [if_pos rfl]
    show sx_list what m 0 A b (0 + 1) 0 [] = _
    unfold sx_list
    rw [sx_szs_succ, sx_szs_succ]
    by_cases e2 : (sx_fo (sx_tC 2000 (sx_le 0) ([] : List (Nat → Int)).length) ((sx_E (decide (what = 2)) 0 0 0 sx_z).filter (sx_P what m 0 A b)) []).2 = true
    · rw [if_pos e2, if_pos e2]
      exact (sx_list_0 bo 1 _ (Nat.le_refl _)).symm
    · rw [if_neg e2, if_neg e2]
  · rw [if_neg e]
    rfl
end MX
