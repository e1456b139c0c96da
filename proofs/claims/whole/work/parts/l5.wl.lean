/-! the reference's work: size by size, vector by vector -/
theorem sx_sz_ge {w : Nat → Int} : ∀ {k c j : Nat}, c ≤ j → j < c + k → (w j).natAbs ≤ sx_sz w k c := by
  intro k
  induction k with
  | zero => intro c j h1 h2; omega
  | succ k ih =>
    intro c j h1 h2
    show (w j).natAbs ≤ (w c).natAbs + sx_sz w k (c + 1)
    by_cases e : j = c
    · subst e; omega
    · have := ih (c := c + 1) (j := j) (by omega) (by omega)
      omega
theorem sx_sc_zero {sg : Bool} {n : Nat} {x : Nat → Int} (h : ∀ j, x j = 0) : ∀ d, sx_sc sg n d x = none := by
  intro d
  induction d with
  | zero => rfl
  | succ d ih =>
    rw [sx_sc_none ih]
    unfold sx_try
    rw [h]
    split
    · rw [if_neg (by omega)]
    · rename_i hc
      rw [if_neg]
      have : sx_sz x (n - (n - (d + 1))) (n - (d + 1)) = 0 := sx_sz_zero.mpr (fun j _ _ => h j)
      rw [this]
      decide
section MW
variable {what m n bo : Nat} {cu : Nat → Int32} {A : Nat → Nat → Int} {b : Nat → Int}
/-- the system as the reference has it -/
def mo_sys (m n : Nat) (A : Nat → Nat → Int) (b : Nat → Int) (cu : Nat → Int32) : Prop := m ≤ 4 ∧ n ≤ 6 ∧ (∀ r c, r < m → c < n → cu (7 * r + c) = iI (A r c) ∧ (A r c).natAbs ≤ 20) ∧ ∀ r, r < m → cu (7 * r + n) = iI (b r) ∧ (b r).natAbs ≤ 200
/-- the list as the reference has it; the other two as they were -/
def mo_has (what n : Nat) (cs0 cl0 cs cl : Nat → Int32) (L : List (Nat → Int)) : Prop := cs = upd cs0 what (iI L.length) ∧ mo_pic what n L cl ∧ vl_rng n L ∧ L.length ≤ 2000 ∧ ∀ q, q < 12000 * what ∨ 12000 * what + 12000 ≤ q → cl q = cl0 q
theorem mo_175 (hw : what ≤ 2) (hn : n ≤ 6) {s : Nat} (hs : s ≤ 16) {x : Nat → Int} (hx : ∀ j, (x j).natAbs ≤ 16) (h0 : s = 0 → ∀ j, x j = 0) {t : Bool} {th sp : Int32} {il bd cs cl cw : Nat → Int32} (hv : se_vp cw x) :
    ∃ cw', sm_tot (fn_MO_work (iI what) (iI bo) 1 (iI m) (iI n) cu) (175, bI t, iI s, 0, 0, 0, th, sp, il, bd, cs, cl, cw) = sm_tot (fn_MO_work (iI what) (iI bo) 1 (iI m) (iI n) cu) (131, bI t, iI s, bI (sx_sc (decide (what = 2)) n n x).isSome, 0, 0, th, sp, il, bd, cs, cl, cw') ∧ se_vp cw' ((sx_sc (decide (what = 2)) n n x).getD x) := by
  have e202 : ∀ (q : Bool) a b cw, sm_tot (fn_MO_work (iI what) (iI bo) 1 (iI m) (iI n) cu) (202, bI t, iI s, a, bI q, b, th, sp, il, bd, cs, cl, cw) = sm_tot (fn_MO_work (iI what) (iI bo) 1 (iI m) (iI n) cu) (131, bI t, iI s, bI q, 0, 0, th, sp, il, bd, cs, cl, cw) := fun q a b cw => by rw [sm_tot_u, fn_MO_work_q202]; rfl
  have e201 : ∀ a b c cw, sm_tot (fn_MO_work (iI what) (iI bo) 1 (iI m) (iI n) cu) (201, bI t, iI s, a, b, c, th, sp, il, bd, cs, cl, cw) = sm_tot (fn_MO_work (iI what) (iI bo) 1 (iI m) (iI n) cu) (131, bI t, iI s, bI false, 0, 0, th, sp, il, bd, cs, cl, cw) := fun a b c cw => by
    rw [sm_tot_u, fn_MO_work_q201]
    exact e202 false 0 0 cw
  by_cases hz : s = 0
  · have hn0 : sx_sc (decide (what = 2)) n n x = none := sx_sc_zero (h0 hz) n
    rw [hn0]
    refine ⟨cw, ?_, hv⟩
    rw [sm_tot_u, fn_MO_work_q175]
    unfold fn_MO_work_b175
    rw [if_pos (show iI (s : Int) ≤ 0 by rw [il_0, ii_le (by omega) (by omega) (by omega) (by omega)]; omega), sm_ev_l]
    exact e201 _ _ _ _
  · obtain ⟨u', a1, a2⟩ := mo_next (sg := decide (what = 2)) hn (fun j => Nat.le_trans (hx j) (by omega)) hv
    refine ⟨u', ?_, a2⟩
    have h191 : sm_tot (fn_MO_work (iI what) (iI bo) 1 (iI m) (iI n) cu) (191, bI t, iI s, 0, bI (decide (what = 2)), 0, th, sp, il, bd, cs, cl, cw) = sm_tot (fn_MO_work (iI what) (iI bo) 1 (iI m) (iI n) cu) (131, bI t, iI s, bI (sx_sc (decide (what = 2)) n n x).isSome, 0, 0, th, sp, il, bd, cs, cl, u') := by
      rw [sm_tot_u, fn_MO_work_q191]
      unfold fn_MO_work_b191
      rw [a1, Option.bind_some]
      cases (sx_sc (decide (what = 2)) n n x).isSome with
      | true => rw [if_neg (show ¬ bI true = 0 by decide), sm_ev_l]; exact e202 true 0 0 u'
      | false => rw [if_pos (show bI false = 0 from rfl), sm_ev_l]; exact e201 _ _ _ _
    rw [← h191, sm_tot_u, fn_MO_work_q175]
    unfold fn_MO_work_b175
    rw [if_neg (show ¬ iI (s : Int) ≤ 0 by rw [il_0, ii_le (by omega) (by omega) (by omega) (by omega)]; omega)]
    by_cases e2 : what = 2
    · rw [if_pos (show iI (what : Int) = 2 by rw [e2]; rfl), sm_ev_l, decide_eq_true e2]; rfl
    · rw [if_neg (show ¬ iI (what : Int) = 2 by rw [il_2, ii_eq (by omega) (by omega) (by omega) (by omega)]; omega), sm_ev_l, decide_eq_false e2]; rfl
theorem mo_rng {L : List (Nat → Int)} {v : Nat → Int} (hr : vl_rng n L) (hv : ∀ j, (v j).natAbs ≤ 16) : vl_rng n (L ++ [v]) := fun k hk c hc => by
  have hk' : k < L.length + 1 := by rw [List.length_append] at hk; exact hk
  by_cases e : k = L.length
  · subst e
    rw [List.getD_eq_getElem?_getD, List.getElem?_append_right (Nat.le_refl _), Nat.sub_self]
    exact Nat.le_trans (hv c) (by omega)
  · rw [List.getD_eq_getElem?_getD, List.getElem?_append_left (by omega), ← List.getD_eq_getElem?_getD]
    exact hr k (by omega) c hc
/-- one vector: taken, passed over, or too many -/
theorem mo_131 (h : mo_sys m n A b cu) (hw : what ≤ 2) {s : Nat} (hs : s ≤ 16) {x : Nat → Int} (hx : ∀ j, (x j).natAbs ≤ 16) (h0 : s = 0 → ∀ j, x j = 0) {L : List (Nat → Int)} {th sp : Int32} {il bd cs0 cl0 cs cl cw : Nat → Int32} (hv : se_vp cw x) (hL : mo_has what n cs0 cl0 cs cl L) :
    ∃ cs' cl' cw', sm_tot (fn_MO_work (iI what) (iI bo) 1 (iI m) (iI n) cu) (131, 1, iI s, 1, 0, 0, th, sp, il, bd, cs, cl, cw) = sm_tot (fn_MO_work (iI what) (iI bo) 1 (iI m) (iI n) cu) (131, bI (sx_tR 2000 (sx_P what m n A b) (sx_rej what n) L x).2, iI s, bI (sx_sc (decide (what = 2)) n n x).isSome, 0, 0, th, sp, il, bd, cs', cl', cw') ∧ se_vp cw' ((sx_sc (decide (what = 2)) n n x).getD x) ∧ mo_has what n cs0 cl0 cs' cl' (sx_tR 2000 (sx_P what m n A b) (sx_rej what n) L x).1 := by
  obtain ⟨m1, m2, m3, m4⟩ := h
  obtain ⟨l1, l2, l3, l4, l5⟩ := hL
  have i0 : ((what : Int)).toNat = what := by omega
  have hsz : cs what = iI L.length := by rw [l1]; exact if_pos rfl
  have hv' : ∀ c, c < n → cw c = iI (x c) ∧ (x c).natAbs ≤ 100 := fun c hc => ⟨hv c (by omega), Nat.le_trans (hx c) (by omega)⟩
  have hbe := mo_belongs (b := b) hw m1 m2 m3 m4 l4 hsz l2 l3 hv'
  by_cases e1 : sx_P what m n A b x = true ∧ ¬ L.any (fun w => sx_rej what n w x) = true
  · have hbe' : (sx_P what m n A b x && !(L.any (fun w => sx_rej what n w x))) = true := by simp [e1.1, e1.2]
    rw [hbe'] at hbe
    by_cases e2 : L.length < 2000
    · have ht : sx_tR 2000 (sx_P what m n A b) (sx_rej what n) L x = (L ++ [x], true) := by unfold sx_tR; rw [if_pos e1, if_pos e2]
      obtain ⟨u', p1, p2, p3⟩ := mo_put hw m2 e2 hsz l2 hv'
      obtain ⟨cw', a1, a2⟩ := mo_175 (bo := bo) (m := m) (cu := cu) (t := true) (th := th) (sp := sp) (il := il) (bd := bd) (cs := upd cs what (iI ((L.length + 1 : Nat) : Int))) (cl := u') hw m2 hs hx h0 hv
      rw [ht]
      refine ⟨upd cs what (iI ((L.length + 1 : Nat) : Int)), u', cw', ?_, a2, ⟨?_, p2, mo_rng l3 hx, by rw [List.length_append]; show L.length + 1 ≤ 2000; omega, fun q hq => (p3 q hq).trans (l5 q hq)⟩⟩
      · rw [← a1, sm_tot_u, fn_MO_work_q131]
        unfold fn_MO_work_b131
        rw [hbe, Option.bind_some, if_neg (show ¬ (1 : Int32) = 0 by decide), if_neg (show ¬ (1 : Int32) = 0 by decide), if_neg (show ¬ bI true = 0 by decide)]
        simp (disch := omega) only [il_0, il_2000, ii_lt, ii_le, ii_nat, i0, hsz, if_pos, if_neg, sm_ev_l]
        rw [sm_tot_u, fn_MO_work_q165]
        unfold fn_MO_work_b165
        have p1' : sm_tot (fn_MO_put (iI what) (iI n) cw) (0, 0, cs, cl) = _ := p1
        rw [if_neg (show ¬ (1 : Int32) = 0 by decide), p1', Option.bind_some, sm_ev_l]
        rfl
      · rw [l1]
        funext q
        show (if q = what then _ else (if q = what then _ else cs0 q)) = (if q = what then _ else cs0 q)
        by_cases eq : q = what
        · rw [if_pos eq, if_pos eq, List.length_append]; rfl
        · rw [if_neg eq, if_neg eq, if_neg eq]
    · have ht : sx_tR 2000 (sx_P what m n A b) (sx_rej what n) L x = (L, false) := by unfold sx_tR; rw [if_pos e1, if_neg e2]
      obtain ⟨cw', a1, a2⟩ := mo_175 (bo := bo) (m := m) (cu := cu) (t := false) (th := th) (sp := sp) (il := il) (bd := bd) (cs := cs) (cl := cl) hw m2 hs hx h0 hv
      rw [ht]
      refine ⟨cs, cl, cw', ?_, a2, ⟨l1, l2, l3, l4, l5⟩⟩
      rw [← a1, sm_tot_u, fn_MO_work_q131]
      unfold fn_MO_work_b131
      rw [hbe, Option.bind_some, if_neg (show ¬ (1 : Int32) = 0 by decide), if_neg (show ¬ (1 : Int32) = 0 by decide), if_neg (show ¬ bI true = 0 by decide)]
      simp (disch := omega) only [il_0, il_2000, ii_lt, ii_le, ii_nat, i0, hsz, if_pos, if_neg, sm_ev_l]
      rw [sm_tot_u, fn_MO_work_q165]
      unfold fn_MO_work_b165
      rw [if_pos (show iI 0 = 0 from rfl), sm_ev_l]
      rfl
  · have hbe' : (sx_P what m n A b x && !(L.any (fun w => sx_rej what n w x))) = false := by
      rw [Bool.eq_false_iff]
      intro q
      rw [Bool.and_eq_true, Bool.not_eq_true'] at q
      exact e1 ⟨q.1, by rw [q.2]; decide⟩
    rw [hbe'] at hbe
    have ht : sx_tR 2000 (sx_P what m n A b) (sx_rej what n) L x = (L, true) := by unfold sx_tR; rw [if_neg e1]
    obtain ⟨cw', a1, a2⟩ := mo_175 (bo := bo) (m := m) (cu := cu) (t := true) (th := th) (sp := sp) (il := il) (bd := bd) (cs := cs) (cl := cl) hw m2 hs hx h0 hv
    rw [ht]
    refine ⟨cs, cl, cw', ?_, a2, ⟨l1, l2, l3, l4, l5⟩⟩
    rw [← a1, sm_tot_u, fn_MO_work_q131]
    unfold fn_MO_work_b131
    rw [hbe, Option.bind_some, if_neg (show ¬ (1 : Int32) = 0 by decide), if_neg (show ¬ (1 : Int32) = 0 by decide), if_pos (show bI false = 0 from rfl), sm_ev_l]
    rfl
end MW
