/-! the reference's search, in whole numbers: isBelow, solves, belongs -/
section MB
variable {n what k : Nat} {cl cw : Nat → Int32} {x y : Nat → Int} {sgn : Int}
theorem mo_below_l (hn : n ≤ 6) (hw : what ≤ 2) (hk : k < 2000) (hs : sgn = 1 ∨ sgn = -1) (hx : ∀ c, c < n → cl (12000 * what + 6 * k + c) = iI (x c)) (hy : ∀ c, c < n → cw c = iI (y c)) (rx : ∀ c, c < n → (x c).natAbs ≤ 1000) (ry : ∀ c, c < n → (y c).natAbs ≤ 1000) :
    ∀ d c, c + d = n → sm_tot (fn_MO_isBelow (iI what) (iI k) (iI sgn) (iI n) cl cw) (6, 1, iI c, 0) = some (bI (sx_alf (fun j => sx_in (sgn * x j) (y j)) d c)) := by
  have e107 : ∀ (t : Bool) z q, sm_tot (fn_MO_isBelow (iI what) (iI k) (iI sgn) (iI n) cl cw) (107, bI t, z, q) = some (bI t) := fun t z q => by
    rw [sm_tot_u, fn_MO_isBelow_q107]
    unfold fn_MO_isBelow_b107
    rw [if_pos bI_01, sm_ev_r]
  have ef : ∀ z, sm_tot (fn_MO_isBelow (iI what) (iI k) (iI sgn) (iI n) cl cw) (6, 0, z, 0) = some 0 := fun z => by
    rw [sm_tot_u, fn_MO_isBelow_q6]
    unfold fn_MO_isBelow_b6
    rw [if_pos (show (0 : Int32) = 0 from rfl)]
    split <;> exact e107 false 0 0
  have e99 : ∀ (t : Bool) (z : Int) a, sm_tot (fn_MO_isBelow (iI what) (iI k) (iI sgn) (iI n) cl cw) (99, a, iI z, bI t) = sm_tot (fn_MO_isBelow (iI what) (iI k) (iI sgn) (iI n) cl cw) (6, bI t, iI (z + 1), 0) := fun t z a => by
    rw [sm_tot_u, fn_MO_isBelow_q99]
    unfold fn_MO_isBelow_b99
    rw [sm_ev_l, il_1, ii_add]
  have e73 : ∀ (z : Int) a b, sm_tot (fn_MO_isBelow (iI what) (iI k) (iI sgn) (iI n) cl cw) (73, a, iI z, b) = some 0 := fun z a b => by
    rw [sm_tot_u, fn_MO_isBelow_q73]
    exact (e99 false z 0).trans (ef _)
  have e98 : ∀ (z : Int) a b, sm_tot (fn_MO_isBelow (iI what) (iI k) (iI sgn) (iI n) cl cw) (98, a, iI z, b) = some 0 := fun z a b => by
    rw [sm_tot_u, fn_MO_isBelow_q98]
    exact (e99 false z 0).trans (ef _)
  intro d
  induction d with
  | zero =>
    intro c hc
    have e : c = n := by omega
    subst e
    rw [sm_tot_u, fn_MO_isBelow_q6]
    unfold fn_MO_isBelow_b6
    simp (disch := omega) only [ii_le, if_pos, sm_ev_l]
    exact e107 true 0 0
  | succ d ih =>
    intro c hc
    have h1 := hx c (by omega)
    have h2 := hy c (by omega)
    have r1 := rx c (by omega)
    have r2 := ry c (by omega)
    have r3 : (sgn * x c).natAbs ≤ 1000 := by rcases hs with rfl | rfl <;> omega
    have i1 : (12000 * (what : Int) + 6 * (k : Int) + (c : Int)).toNat = 12000 * what + 6 * k + c := by omega
    have i2 : ((c : Int)).toNat = c := by omega
    have h3 : sm_tot (fn_MO_isBelow (iI what) (iI k) (iI sgn) (iI n) cl cw) (6, bI true, iI ((c : Int) + 1), 0) = _ := ih (c + 1) (by omega)
    rw [sm_tot_u, fn_MO_isBelow_q6]
    unfold fn_MO_isBelow_b6
    rw [if_neg (show ¬ (1 : Int32) = 0 by decide)]
    simp (disch := omega) only [il_0, il_6, il_12000, ii_le, ii_lt, ii_add, ii_mul, ii_nat, i1, i2, h1, h2, if_pos, if_neg]
    rw [sx_alf_s]
    repeat' split
    all_goals first
      | (rw [sx_in_f (by omega), Bool.false_and, sm_ev_l, bI_0]; first | exact e98 _ _ _ | exact e73 _ _ _)
      | (rw [sx_in_t (by omega), Bool.true_and, sm_ev_l]; exact (e99 true c _).trans h3)
theorem mo_below (hn : n ≤ 6) (hw : what ≤ 2) (hk : k < 2000) (hs : sgn = 1 ∨ sgn = -1) (hx : ∀ c, c < n → cl (12000 * what + 6 * k + c) = iI (x c)) (hy : ∀ c, c < n → cw c = iI (y c)) (rx : ∀ c, c < n → (x c).natAbs ≤ 1000) (ry : ∀ c, c < n → (y c).natAbs ≤ 1000) :
    sm_tot (fn_MO_isBelow (iI what) (iI k) (iI sgn) (iI n) cl cw) (0, 0, 0, 0) = some (bI (sx_le n (fun j => sgn * x j) y)) := by
  rw [sm_tot_u, fn_MO_isBelow_q0]
  rw [show sx_le n (fun j => sgn * x j) y = sx_alf (fun j => sx_in (sgn * x j) (y j)) n 0 from sx_alf_all.symm]
  exact mo_below_l hn hw hk hs hx hy rx ry n 0 (by omega)
end MB
section MS
variable {m n : Nat} {wb : Bool} {cw cu : Nat → Int32} {v : Nat → Int} {A : Nat → Nat → Int} {b : Nat → Int}
theorem mo_solves_i {r : Nat} (hm : m ≤ 4) (hn : n ≤ 6) (hr : r < m) (hA : ∀ c, c < n → cu (7 * r + c) = iI (A r c)) (hb : cu (7 * r + n) = iI (b r)) (hv : ∀ c, c < n → cw c = iI (v c)) :
    ∀ d c, c + d = n → sm_tot (fn_MO_solves 6 cw (bI wb) (iI m) (iI n) cu) (24, 0, iI r, iI (sx_dt (A r) v c), iI c, 0, 0) = sm_tot (fn_MO_solves 6 cw (bI wb) (iI m) (iI n) cu) (87, 0, iI r, 0, 0, iI (if wb = true then b r else 0), iI (sx_dt (A r) v n)) := by
  intro d
  induction d with
  | zero =>
    intro c hc
    have e : c = n := by omega
    subst e
    have i1 : (7 * (r : Int) + (c : Int)).toNat = 7 * r + c := by omega
    rw [sm_tot_u, fn_MO_solves_q24]
    unfold fn_MO_solves_b24
    simp (disch := omega) only [il_0, il_7, ii_le, ii_lt, ii_add, ii_mul, ii_nat, i1, hb, if_pos, if_neg]
    cases wb with
    | false => rw [if_pos (show bI false = iI 0 from rfl), sm_ev_l]; rfl
    | true => rw [if_neg (show ¬ bI true = iI 0 by decide), sm_ev_l]; rfl
  | succ d ih =>
    intro c hc
    have i1 : (7 * (r : Int) + (c : Int)).toNat = 7 * r + c := by omega
    have i2 : ((c : Int)).toNat = c := by omega
    have h1 := hA c (by omega)
    have h2 := hv c (by omega)
    rw [← ih (c + 1) (by omega), sm_tot_u, fn_MO_solves_q24]
    unfold fn_MO_solves_b24
    simp (disch := omega) only [il_0, il_1, il_7, ii_le, ii_lt, ii_add, ii_mul, ii_nat, i1, i2, h1, h2, if_pos, if_neg, sm_ev_l]
    rfl
theorem mo_solves_l (hm : m ≤ 4) (hn : n ≤ 6) (hA : ∀ r c, r < m → c < n → cu (7 * r + c) = iI (A r c) ∧ (A r c).natAbs ≤ 20) (hb : ∀ r, r < m → cu (7 * r + n) = iI (b r) ∧ (b r).natAbs ≤ 200) (hv : ∀ c, c < n → cw c = iI (v c) ∧ (v c).natAbs ≤ 100) :
    ∀ d r, r + d = m → sm_tot (fn_MO_solves 6 cw (bI wb) (iI m) (iI n) cu) (5, 1, iI r, 0, 0, 0, 0) = some (bI (sx_alf (fun r => decide (sx_dt (A r) v n = if wb = true then b r else 0)) d r)) := by
  have e102 : ∀ (t : Bool) a b c d e, sm_tot (fn_MO_solves 6 cw (bI wb) (iI m) (iI n) cu) (102, bI t, a, b, c, d, e) = some (bI t) := fun t a b c d e => by
    rw [sm_tot_u, fn_MO_solves_q102]
    unfold fn_MO_solves_b102
    rw [if_pos bI_01, sm_ev_r]
  have ef : ∀ z, sm_tot (fn_MO_solves 6 cw (bI wb) (iI m) (iI n) cu) (5, 0, z, 0, 0, 0, 0) = some 0 := fun z => by
    rw [sm_tot_u, fn_MO_solves_q5]
    unfold fn_MO_solves_b5
    rw [if_pos (show (0 : Int32) = 0 from rfl)]
    split <;> exact e102 false 0 0 0 0 0
  have e95 : ∀ (t : Bool) (z : Int) a b c d, sm_tot (fn_MO_solves 6 cw (bI wb) (iI m) (iI n) cu) (95, a, iI z, b, c, bI t, d) = sm_tot (fn_MO_solves 6 cw (bI wb) (iI m) (iI n) cu) (5, bI t, iI (z + 1), 0, 0, 0, 0) := fun t z a b c d => by
    rw [sm_tot_u, fn_MO_solves_q95]
    unfold fn_MO_solves_b95
    rw [sm_ev_l, il_1, ii_add]
  intro d
  induction d with
  | zero =>
    intro r hr
    have e : r = m := by omega
    subst e
    rw [sm_tot_u, fn_MO_solves_q5]
    unfold fn_MO_solves_b5
    simp (disch := omega) only [ii_le, if_pos, sm_ev_l]
    exact e102 true 0 0 0 0 0
  | succ d ih =>
    intro r hr
    have h3 : sm_tot (fn_MO_solves 6 cw (bI wb) (iI m) (iI n) cu) (5, bI true, iI ((r : Int) + 1), 0, 0, 0, 0) = _ := ih (r + 1) (by omega)
    have h4 := mo_solves_i (wb := wb) hm hn (show r < m by omega) (fun c hc => (hA r c (by omega) hc).1) (hb r (by omega)).1 (fun c hc => (hv c hc).1) n 0 (by omega)
    have q1 := (hb r (by omega)).2
    have q2 := sx_dt_bd (a' := A r) (v := v) (n := n) (M := 100) (fun j hj => (hA r j (by omega) hj).2) (fun j hj => (hv j hj).2) n (Nat.le_refl _)
    have q3 : n * (20 * 100) ≤ 6 * (20 * 100) := Nat.mul_le_mul_right _ hn
    have q4 : (if wb = true then b r else 0).natAbs ≤ 200 := by split <;> omega
    have h5 : sm_tot (fn_MO_solves 6 cw (bI wb) (iI m) (iI n) cu) (5, 1, iI r, 0, 0, 0, 0) = sm_tot (fn_MO_solves 6 cw (bI wb) (iI m) (iI n) cu) (24, 0, iI r, iI (sx_dt (A r) v 0), iI ((0 : Nat) : Int), 0, 0) := by
      rw [sm_tot_u, fn_MO_solves_q5]
      unfold fn_MO_solves_b5
      rw [if_neg (show ¬ (1 : Int32) = 0 by decide)]
      simp (disch := omega) only [ii_le, if_neg, sm_ev_l]
      rfl
    rw [h5, h4, sx_alf_s, sm_tot_u, fn_MO_solves_q87]
    unfold fn_MO_solves_b87
    simp (disch := omega) only [ii_eq]
    by_cases e : sx_dt (A r) v n = if wb = true then b r else 0
    · rw [if_pos e, decide_eq_true e, Bool.true_and, sm_ev_l]
      exact (e95 true r 0 0 0 0).trans h3
    · rw [if_neg e, decide_eq_false e, Bool.false_and, sm_ev_l]
      exact (e95 false r 0 0 0 0).trans (ef _)
theorem mo_solves (hm : m ≤ 4) (hn : n ≤ 6) (hA : ∀ r c, r < m → c < n → cu (7 * r + c) = iI (A r c) ∧ (A r c).natAbs ≤ 20) (hb : ∀ r, r < m → cu (7 * r + n) = iI (b r) ∧ (b r).natAbs ≤ 200) (hv : ∀ c, c < n → cw c = iI (v c) ∧ (v c).natAbs ≤ 100) :
    sm_tot (fn_MO_solves 6 cw (bI wb) (iI m) (iI n) cu) (0, 0, 0, 0, 0, 0, 0) = some (bI (sx_sol m n A (fun r => if wb = true then b r else 0) v)) := by
  rw [sm_tot_u, fn_MO_solves_q0]
  rw [show sx_sol m n A (fun r => if wb = true then b r else 0) v = sx_alf (fun r => decide (sx_dt (A r) v n = if wb = true then b r else 0)) m 0 from sx_alf_all.symm]
  exact mo_solves_l hm hn hA hb hv m 0 (by omega)
end MS
