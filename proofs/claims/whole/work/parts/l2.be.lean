/-! the reference's belongs, in whole numbers -/
theorem sx_ld_bd {v : Nat → Int} {M : Nat} : ∀ {k c : Nat}, (∀ j, c ≤ j → j < c + k → (v j).natAbs ≤ M) → (sx_ld v k c).natAbs ≤ M := by
  intro k
  induction k with
  | zero => intro c _; exact Nat.zero_le _
  | succ k ih =>
    intro c h
    show (if v c ≠ 0 then v c else sx_ld v k (c + 1)).natAbs ≤ M
    split
    · exact h c (Nat.le_refl _) (by omega)
    · exact ih (fun j h1 h2 => h j (by omega) (by omega))
def mo_pic (what n : Nat) (L : List (Nat → Int)) (cl : Nat → Int32) : Prop := ∀ k, k < L.length → ∀ c, c < n → cl (12000 * what + 6 * k + c) = iI (L.getD k sx_z c)
section MG
variable {what m n : Nat} {cu cs cl cw : Nat → Int32} {v : Nat → Int} {A : Nat → Nat → Int} {b : Nat → Int} {L : List (Nat → Int)}
theorem mo_scan (hn : n ≤ 6) (hv : ∀ c, c < n → cw c = iI (v c) ∧ (v c).natAbs ≤ 100) : ∀ c, c ≤ n →
    sm_tot (fn_MO_belongs (iI what) (iI m) (iI n) cu cs cl cw) (12, bI (decide (sx_ld v (n - c) c = 0)), iI (sx_ld v (n - c) c), iI ((c : Int) - 1), 0, 0) = sm_tot (fn_MO_belongs (iI what) (iI m) (iI n) cu cs cl cw) (12, bI (decide (sx_ld v n 0 = 0)), iI (sx_ld v n 0), iI (-1), 0, 0) := by
  intro c
  induction c with
  | zero => intro _; rfl
  | succ c ih =>
    intro hc
    have e1 : ((c + 1 : Nat) : Int) - 1 = (c : Int) := by omega
    have e2 : n - c = (n - (c + 1)) + 1 := by omega
    obtain ⟨h1, h2⟩ := hv c (by omega)
    have i2 : ((c : Int)).toNat = c := by omega
    have hld : sx_ld v (n - c) c = if v c ≠ 0 then v c else sx_ld v (n - (c + 1)) (c + 1) := by rw [e2]; rfl
    have hbd : (sx_ld v (n - (c + 1)) (c + 1)).natAbs ≤ 100 := sx_ld_bd (fun j _ hj => (hv j (by omega)).2)
    rw [← ih (by omega), e1]
    generalize sx_ld v (n - (c + 1)) (c + 1) = g at hld hbd
    have e58 : ∀ (z : Bool) (x : Int) a b, sm_tot (fn_MO_belongs (iI what) (iI m) (iI n) cu cs cl cw) (58, bI z, a, iI c, b, iI x) = sm_tot (fn_MO_belongs (iI what) (iI m) (iI n) cu cs cl cw) (12, bI z, iI x, iI ((c : Int) - 1), 0, 0) := fun z x a b => by
      rw [sm_tot_u, fn_MO_belongs_q58]
      unfold fn_MO_belongs_b58
      rw [sm_ev_l, show (-1 : Int32) = iI (-1) from by decide, ii_add]
      rfl
    have e36 : ∀ (z : Bool) a b, sm_tot (fn_MO_belongs (iI what) (iI m) (iI n) cu cs cl cw) (36, a, iI g, iI c, b, bI z) = sm_tot (fn_MO_belongs (iI what) (iI m) (iI n) cu cs cl cw) (12, bI z, iI (if v c ≠ 0 then v c else g), iI ((c : Int) - 1), 0, 0) := fun z a b => by
      rw [sm_tot_u, fn_MO_belongs_q36]
      unfold fn_MO_belongs_b36
      simp (disch := omega) only [il_0, ii_lt, ii_eq, ii_nat, i2, h1, if_pos, if_neg]
      by_cases e : v c = 0
      · rw [if_pos e, sm_ev_l, if_neg (fun q => q e)]
        exact e58 z g _ _
      · rw [if_neg e, sm_ev_l, if_pos e]
        exact e58 z (v c) _ _
    have e35 : ∀ a b d, sm_tot (fn_MO_belongs (iI what) (iI m) (iI n) cu cs cl cw) (35, a, iI g, iI c, b, d) = sm_tot (fn_MO_belongs (iI what) (iI m) (iI n) cu cs cl cw) (12, bI false, iI (if v c ≠ 0 then v c else g), iI ((c : Int) - 1), 0, 0) := fun a b d => by
      rw [sm_tot_u, fn_MO_belongs_q35]
      exact e36 false 0 0
    rw [hld, sm_tot_u, fn_MO_belongs_q12]
    unfold fn_MO_belongs_b12
    simp (disch := omega) only [il_0, ii_lt, ii_eq, ii_nat, i2, h1, if_pos, if_neg]
    by_cases hg : g = 0
    · rw [decide_eq_true hg, if_neg (show ¬ bI true = iI 0 by decide)]
      by_cases e : v c = 0
      · rw [if_pos e, sm_ev_l, if_neg (fun q => q e), decide_eq_true hg]
        refine (e36 true _ _).trans ?_
        rw [if_neg (fun q => q e)]
        rfl
      · rw [if_neg e, sm_ev_l, if_pos e, decide_eq_false e]
        refine (e35 _ _ _).trans ?_
        rw [if_pos e]
        rfl
    · rw [decide_eq_false hg, if_pos (show bI false = iI 0 from rfl), sm_ev_l]
      refine (e35 _ _ _).trans ?_
      by_cases e : v c = 0
      · rw [if_neg (fun q => q e), decide_eq_false hg]; rfl
      · rw [if_pos e, decide_eq_false e]; rfl
theorem mo_rej (hw : what ≤ 2) {w : Nat → Int} : sx_rej what n w v = (sx_le n (fun j => 1 * w j) v || (decide (what = 2) && sx_le n (fun j => -1 * w j) v)) := by
  unfold sx_rej
  rw [show (fun j => 1 * w j) = w from funext fun j => Int.one_mul _, show (fun j => -1 * w j) = sx_neg w from funext fun j => by show -1 * w j = - w j; omega]
theorem mo_list_l (hw : what ≤ 2) (hn : n ≤ 6) (hL : L.length ≤ 2000) (hs : cs what = iI L.length) (hp : mo_pic what n L cl) (hr : vl_rng n L) (hv : ∀ c, c < n → cw c = iI (v c) ∧ (v c).natAbs ≤ 100) :
    ∀ d k, k + d = L.length → sm_tot (fn_MO_belongs (iI what) (iI m) (iI n) cu cs cl cw) (112, 0, 0, 1, iI k, 0) = some (bI (!((L.drop k).any (fun w => sx_rej what n w v)))) := by
  have i0 : ((what : Int)).toNat = what := by omega
  have e168 : ∀ (t : Bool) a b d e, sm_tot (fn_MO_belongs (iI what) (iI m) (iI n) cu cs cl cw) (168, a, b, bI t, d, e) = some (bI t) := fun t a b d e => by
    rw [sm_tot_u, fn_MO_belongs_q168]
    unfold fn_MO_belongs_b168
    rw [if_pos bI_01, sm_ev_r]
  have ef : ∀ z, sm_tot (fn_MO_belongs (iI what) (iI m) (iI n) cu cs cl cw) (112, 0, 0, 0, z, 0) = some 0 := fun z => by
    rw [sm_tot_u, fn_MO_belongs_q112]
    unfold fn_MO_belongs_b112
    rw [if_pos (show (0 : Int32) = 0 from rfl)]
    simp (disch := omega) only [il_0, ii_lt, ii_nat, i0, if_pos]
    split <;> exact e168 false 0 0 0 0
  have e160 : ∀ (t : Bool) (z : Int) a b d, sm_tot (fn_MO_belongs (iI what) (iI m) (iI n) cu cs cl cw) (160, a, b, d, iI z, bI t) = sm_tot (fn_MO_belongs (iI what) (iI m) (iI n) cu cs cl cw) (112, 0, 0, bI t, iI (z + 1), 0) := fun t z a b d => by
    rw [sm_tot_u, fn_MO_belongs_q160]
    unfold fn_MO_belongs_b160
    rw [sm_ev_l, il_1, ii_add]
  have e159 : ∀ (z : Int) a b d e, sm_tot (fn_MO_belongs (iI what) (iI m) (iI n) cu cs cl cw) (159, a, b, d, iI z, e) = some 0 := fun z a b d e => by
    rw [sm_tot_u, fn_MO_belongs_q159]
    exact (e160 false z 0 0 0).trans (ef _)
  have e155 : ∀ (z : Int) a b d e, sm_tot (fn_MO_belongs (iI what) (iI m) (iI n) cu cs cl cw) (155, a, b, d, iI z, e) = sm_tot (fn_MO_belongs (iI what) (iI m) (iI n) cu cs cl cw) (112, 0, 0, bI true, iI (z + 1), 0) := fun z a b d e => by
    rw [sm_tot_u, fn_MO_belongs_q155]
    exact e160 true z 0 0 0
  intro d
  induction d with
  | zero =>
    intro k hk
    have e : k = L.length := by omega
    subst e
    rw [sm_tot_u, fn_MO_belongs_q112]
    unfold fn_MO_belongs_b112
    simp (disch := omega) only [il_0, ii_lt, ii_le, ii_nat, i0, hs, if_pos, sm_ev_l]
    rw [List.drop_eq_nil_of_le (Nat.le_refl _)]
    exact e168 true 0 0 0 0
  | succ d ih =>
    intro k hk
    have hlt : k < L.length := by omega
    have h3 : sm_tot (fn_MO_belongs (iI what) (iI m) (iI n) cu cs cl cw) (112, 0, 0, bI true, iI ((k : Int) + 1), 0) = _ := ih (k + 1) (by omega)
    have b1 := mo_below (sgn := 1) (x := L.getD k sx_z) hn hw (show k < 2000 by omega) (Or.inl rfl) (hp k hlt) (fun c hc => (hv c hc).1) (fun c hc => Nat.le_trans (hr k hlt c hc) (by omega)) (fun c hc => Nat.le_trans (hv c hc).2 (by omega))
    have b2 := mo_below (sgn := -1) (x := L.getD k sx_z) hn hw (show k < 2000 by omega) (Or.inr rfl) (hp k hlt) (fun c hc => (hv c hc).1) (fun c hc => Nat.le_trans (hr k hlt c hc) (by omega)) (fun c hc => Nat.le_trans (hv c hc).2 (by omega))
    have b1' : sm_tot (fn_MO_isBelow (iI what) (iI k) 1 (iI n) cl cw) (0, 0, 0, 0) = _ := b1
    have b2' : sm_tot (fn_MO_isBelow (iI what) (iI k) (-1) (iI n) cl cw) (0, 0, 0, 0) = _ := b2
    have hd : L.drop k = L.getD k sx_z :: L.drop (k + 1) := by
      rw [List.drop_eq_getElem_cons hlt]
      congr 1
      rw [List.getD_eq_getElem?_getD, List.getElem?_eq_getElem hlt]
      rfl
    rw [hd, List.any_cons, mo_rej hw, sm_tot_u, fn_MO_belongs_q112]
    unfold fn_MO_belongs_b112
    rw [b1', b2', Option.bind_some, Option.bind_some, if_neg (show ¬ (1 : Int32) = 0 by decide)]
    cases c1 : sx_le n (fun j => 1 * L.getD k sx_z j) v with
    | true =>
      rw [if_neg (show ¬ bI true = 0 by decide)]
      simp (disch := omega) only [il_0, il_2, ii_lt, ii_le, ii_nat, i0, hs, if_pos, if_neg, sm_ev_l]
      rw [Bool.true_or, Bool.true_or]
      exact e159 _ _ _ _ _
    | false =>
      rw [if_pos (show bI false = 0 from rfl), Bool.false_or]
      by_cases e2 : what = 2
      · rw [decide_eq_true e2, Bool.true_and]
        cases c2 : sx_le n (fun j => -1 * L.getD k sx_z j) v with
        | true =>
          rw [if_neg (show ¬ bI true = 0 by decide)]
          simp (disch := omega) only [il_0, il_2, ii_lt, ii_le, ii_eq, ii_nat, i0, hs, if_pos, if_neg, sm_ev_l]
          rw [Bool.true_or]
          exact e159 _ _ _ _ _
        | false =>
          rw [if_pos (show bI false = 0 from rfl)]
          simp (disch := omega) only [il_0, il_2, ii_lt, ii_le, ii_eq, ii_nat, i0, hs, if_pos, if_neg, sm_ev_l]
          rw [Bool.false_or]
          exact (e155 _ _ _ _ _).trans h3
      · rw [decide_eq_false e2, Bool.false_and, Bool.false_or]
        simp (disch := omega) only [il_0, il_2, ii_lt, ii_le, ii_eq, ii_nat, i0, hs, if_pos, if_neg, sm_ev_l]
        exact (e155 _ _ _ _ _).trans h3
theorem mo_belongs (hw : what ≤ 2) (hm : m ≤ 4) (hn : n ≤ 6) (hA : ∀ r c, r < m → c < n → cu (7 * r + c) = iI (A r c) ∧ (A r c).natAbs ≤ 20) (hb : ∀ r, r < m → cu (7 * r + n) = iI (b r) ∧ (b r).natAbs ≤ 200) (hL : L.length ≤ 2000) (hs : cs what = iI L.length) (hp : mo_pic what n L cl) (hr : vl_rng n L) (hv : ∀ c, c < n → cw c = iI (v c) ∧ (v c).natAbs ≤ 100) :
    sm_tot (fn_MO_belongs (iI what) (iI m) (iI n) cu cs cl cw) (0, 0, 0, 0, 0, 0) = some (bI (sx_P what m n A b v && !(L.any (fun w => sx_rej what n w v)))) := by
  have h1 := mo_list_l (m := m) (cu := cu) hw hn hL hs hp hr hv L.length 0 (by omega)
  rw [List.drop_zero] at h1
  have hsol := mo_solves (wb := decide (what = 1)) hm hn hA hb hv
  have hbd : (sx_ld v n 0).natAbs ≤ 100 := sx_ld_bd (fun j _ hj => (hv j (by omega)).2)
  have h104 : ∀ a b c d e, sm_tot (fn_MO_belongs (iI what) (iI m) (iI n) cu cs cl cw) (104, a, b, c, d, e) = some 0 := fun a b c d e => by rw [sm_tot_u, fn_MO_belongs_q104]; rfl
  have h98 : sm_tot (fn_MO_belongs (iI what) (iI m) (iI n) cu cs cl cw) (98, 0, 0, 0, 0, bI (decide (what = 1))) = some (bI (sx_sol m n A (fun r => if decide (what = 1) = true then b r else 0) v && !(L.any (fun w => sx_rej what n w v)))) := by
    rw [sm_tot_u, fn_MO_belongs_q98]
    unfold fn_MO_belongs_b98
    rw [hsol, Option.bind_some]
    cases sx_sol m n A (fun r => if decide (what = 1) = true then b r else 0) v with
    | false => rw [if_pos (show bI false = 0 from rfl), sm_ev_l, h104, Bool.false_and]; rfl
    | true => rw [if_neg (show ¬ bI true = 0 by decide), sm_ev_l, Bool.true_and]; exact h1
  have h83 : sm_tot (fn_MO_belongs (iI what) (iI m) (iI n) cu cs cl cw) (83, 0, 0, 0, 0, 0) = some (bI (sx_sol m n A (fun r => if decide (what = 1) = true then b r else 0) v && !(L.any (fun w => sx_rej what n w v)))) := by
    rw [← h98, sm_tot_u, fn_MO_belongs_q83]
    unfold fn_MO_belongs_b83
    simp (disch := omega) only [il_1, ii_eq]
    by_cases e : what = 1
    · rw [if_pos (by omega), sm_ev_l, decide_eq_true e]; rfl
    · rw [if_neg (by omega), sm_ev_l, decide_eq_false e]; rfl
  have h74 : sm_tot (fn_MO_belongs (iI what) (iI m) (iI n) cu cs cl cw) (74, 0, iI (sx_ld v n 0), 0, 0, 0) = if what = 2 ∧ sx_ld v n 0 < 0 then some 0 else some (bI (sx_sol m n A (fun r => if decide (what = 1) = true then b r else 0) v && !(L.any (fun w => sx_rej what n w v)))) := by
    rw [← h83, sm_tot_u, fn_MO_belongs_q74]
    unfold fn_MO_belongs_b74
    simp (disch := omega) only [il_0, il_2, ii_eq, ii_lt]
    repeat' split
    all_goals first
      | (exfalso; omega)
      | (rw [sm_ev_l]; exact h104 _ _ _ _ _)
      | (rw [sm_ev_l]; rfl)
      | rw [sm_ev_l]
  have hst : sm_tot (fn_MO_belongs (iI what) (iI m) (iI n) cu cs cl cw) (0, 0, 0, 0, 0, 0) = sm_tot (fn_MO_belongs (iI what) (iI m) (iI n) cu cs cl cw) (12, bI (decide (sx_ld v n 0 = 0)), iI (sx_ld v n 0), iI (-1), 0, 0) := by
    rw [← mo_scan hn hv n (Nat.le_refl _), Nat.sub_self, sm_tot_u, fn_MO_belongs_q0]
    unfold fn_MO_belongs_b0
    rw [sm_ev_l, il_1, ii_sub]
    rfl
  rw [hst, sm_tot_u, fn_MO_belongs_q12]
  unfold fn_MO_belongs_b12
  rw [if_pos (show iI (-1) < 0 by decide)]
  unfold sx_P
  by_cases e1 : what = 1
  · subst e1
    rw [if_pos (show iI ((1 : Nat) : Int) = 1 from rfl), sm_ev_l, if_pos rfl]
    refine h74.trans ?_
    rw [if_neg (by omega)]
    rfl
  · rw [if_neg (show ¬ iI (what : Int) = 1 by rw [il_1, ii_eq (by omega) (by omega) (by omega) (by omega)]; omega), if_neg e1]
    rw [decide_eq_false e1] at h74
    by_cases hz : sx_ld v n 0 = 0
    · rw [decide_eq_true hz, if_neg (show ¬ bI true = 0 by decide), sm_ev_l, h104]
      split
      · rw [decide_eq_false (by omega), Bool.false_and, Bool.false_and]; rfl
      · rw [decide_eq_false (fun q => q hz), Bool.false_and, Bool.false_and]; rfl
    · rw [decide_eq_false hz, if_pos (show bI false = 0 from rfl), sm_ev_l]
      refine h74.trans ?_
      by_cases e2 : what = 2
      · rw [if_pos e2]
        by_cases e3 : sx_ld v n 0 < 0
        · rw [if_pos ⟨e2, e3⟩, decide_eq_false (by omega), Bool.false_and, Bool.false_and]; rfl
        · rw [if_neg (fun q => e3 q.2), decide_eq_true (by omega), Bool.true_and]; rfl
      · rw [if_neg e2, if_neg (fun q => e2 q.1), decide_eq_true hz, Bool.true_and]; rfl
end MG
