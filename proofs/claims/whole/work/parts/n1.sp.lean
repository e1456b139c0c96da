/-! what a solution is the sum of: pure, and the class -/
def sp_sub (v w : Nat → Int) : Nat → Int := fun j => v j - w j
def sp_ot (n : Nat) (w : Nat → Int) : Nat → (Nat → Int) → Nat × (Nat → Int)
  | 0, v => (0, v)
  | f + 1, v => if sx_le n w v = true then ((sp_ot n w f (sp_sub v w)).1 + 1, (sp_ot n w f (sp_sub v w)).2) else (0, v)
def sp_st (n : Nat) (L : List (Nat → Int)) (v : Nat → Int) : Nat → (Nat → Int)
  | 0 => v
  | k + 1 => (sp_ot n (L.getD k sx_z) 16 (sp_st n L v k)).2
def sp_tm (n : Nat) (L : List (Nat → Int)) (v : Nat → Int) (k : Nat) : Nat := (sp_ot n (L.getD k sx_z) 16 (sp_st n L v k)).1
def sp_nn (n : Nat) (v : Nat → Int) : Prop := ∀ c, c < n → 0 ≤ v c ∧ v c ≤ 1000
section SP1
variable {n : Nat} {v w : Nat → Int} {L : List (Nat → Int)}
theorem sp_sub_nn (h : sp_nn n v) (hl : sx_le n w v = true) : sp_nn n (sp_sub v w) := fun c hc => by
  have h1 := sx_le_iff.mp hl c hc
  have h2 := h c hc
  show 0 ≤ v c - w c ∧ v c - w c ≤ 1000
  omega
theorem sp_ot_nn : ∀ (f : Nat) (v : Nat → Int), sp_nn n v → sp_nn n (sp_ot n w f v).2 := by
  intro f
  induction f with
  | zero => intro v h; exact h
  | succ f ih =>
    intro v h
    by_cases e : sx_le n w v = true
    · rw [show (sp_ot n w (f + 1) v).2 = (sp_ot n w f (sp_sub v w)).2 by show (if _ then _ else _ : Nat × (Nat → Int)).2 = _; rw [if_pos e]]
      exact ih _ (sp_sub_nn h e)
    · rw [show (sp_ot n w (f + 1) v).2 = v by show (if _ then _ else _ : Nat × (Nat → Int)).2 = _; rw [if_neg e]]
      exact h
theorem sp_ot_le : ∀ (f : Nat) (v : Nat → Int), (sp_ot n w f v).1 ≤ f := by
  intro f
  induction f with
  | zero => intro v; exact Nat.le_refl _
  | succ f ih =>
    intro v
    show (if _ then _ else _ : Nat × (Nat → Int)).1 ≤ _
    split
    · exact Nat.succ_le_succ (ih _)
    · exact Nat.zero_le _
theorem sp_st_nn (h : sp_nn n v) : ∀ k, sp_nn n (sp_st n L v k) := by
  intro k
  induction k with
  | zero => exact h
  | succ k ih => exact sp_ot_nn 16 _ ih
end SP1
section SP2
variable {n k : Nat} {v w : Nat → Int} {cn co : Nat → Int32}
theorem vl_number {c : Nat} (hk : k < 2000) (hc : c < 6) (hcn : cn (6 * k + c) = iI (w c)) : sm_tot (fn_VL_numberOf (iI k) (iI c) cn) 0 = some (iI (w c)) := by
  have i1 : ((k : Int) * 6 + (c : Int)).toNat = 6 * k + c := by omega
  rw [sm_tot_u, fn_VL_numberOf_q0]
  unfold fn_VL_numberOf_b0
  simp (disch := omega) only [il_0, il_6, ii_lt, ii_add, ii_mul, ii_nat, i1, hcn, if_pos, sm_ev_r]
theorem vl_from_l (hn : n ≤ 6) (hk : k < 2000) (hcn : ∀ c, c < n → cn (6 * k + c) = iI (w c)) : ∀ d e (u : Nat → Int32), e + d = n → (∀ c, c < n → u c = iI (if c < e then v c - w c else v c)) → ∃ u', sm_tot (fn_VL_takeFrom (iI k) (iI n) cn) (2, iI e, u) = some u' ∧ ∀ c, c < n → u' c = iI (v c - w c) := by
  intro d
  induction d with
  | zero =>
    intro e u he hu
    have e2 : e = n := by omega
    subst e2
    refine ⟨u, ?_, fun c hc => by rw [hu c hc, if_pos hc]⟩
    rw [sm_tot_u, fn_VL_takeFrom_q2]
    unfold fn_VL_takeFrom_b2
    simp (disch := omega) only [ii_le, if_pos, sm_ev_r]
  | succ d ih =>
    intro e u he hu
    have h1 := hu e (by omega)
    rw [if_neg (by omega)] at h1
    have h2 := vl_number (k := k) (c := e) (w := w) hk (by omega) (hcn e (by omega))
    have i2 : ((e : Int)).toNat = e := by omega
    obtain ⟨u', u1, u2⟩ := ih (e + 1) (upd u e (iI (v e - w e))) (by omega) (fun c hc => by
      show (if c = e then iI (v e - w e) else u c) = _
      by_cases q : c = e
      · subst q; rw [if_pos rfl, if_pos (by omega)]
      · rw [if_neg q, hu c hc]
        by_cases q2 : c < e
        · rw [if_pos q2, if_pos (by omega)]
        · rw [if_neg q2, if_neg (by omega)])
    refine ⟨u', ?_, u2⟩
    rw [← u1, sm_tot_u, fn_VL_takeFrom_q2]
    unfold fn_VL_takeFrom_b2
    rw [h2]
    simp (disch := omega) only [il_0, il_1, ii_le, ii_lt, ii_add, ii_sub, ii_nat, i2, h1, if_pos, if_neg, Option.bind_some, sm_ev_l]
    rfl
theorem vl_from (hn : n ≤ 6) (hk : k < 2000) (hcn : ∀ c, c < n → cn (6 * k + c) = iI (w c)) (hco : ∀ c, c < n → co c = iI (v c)) : ∃ u', sm_tot (fn_VL_takeFrom (iI k) (iI n) cn) (0, 0, co) = some u' ∧ ∀ c, c < n → u' c = iI (v c - w c) := by
  rw [sm_tot_u, fn_VL_takeFrom_q0]
  exact vl_from_l hn hk hcn n 0 co (by omega) (fun c hc => by rw [if_neg (by omega)]; exact hco c hc)
theorem ls_often_l (hn : n ≤ 6) (hk : k < 2000) (hcn : ∀ c, c < n → cn (6 * k + c) = iI (w c)) (hw : ∀ c, c < n → (w c).natAbs ≤ 1000) : ∀ (f t : Nat) (v : Nat → Int) (u : Nat → Int32), t + f = 16 → sp_nn n v → (∀ c, c < n → u c = iI (v c)) → ∃ u', sm_tot (fn_LS_takeOften (iI k) (iI n) cn) (12, iI t, iI t, u) = some (iI ((t + (sp_ot n w f v).1 : Nat) : Int), u') ∧ ∀ c, c < n → u' c = iI ((sp_ot n w f v).2 c) := by
  have e49 : ∀ x y u, sm_tot (fn_LS_takeOften (iI k) (iI n) cn) (49, x, y, u) = some (x, u) := fun x y u => by rw [sm_tot_u, fn_LS_takeOften_q49]; rfl
  intro f
  induction f with
  | zero =>
    intro t v u ht hv hu
    refine ⟨u, ?_, hu⟩
    rw [sm_tot_u, fn_LS_takeOften_q12]
    unfold fn_LS_takeOften_b12
    rw [if_pos (show (16 : Int32) ≤ iI (t : Int) by rw [il_16, ii_le (by omega) (by omega) (by omega) (by omega)]; omega), sm_ev_l, e49]
    rfl
  | succ f ih =>
    intro t v u ht hv hu
    have h1 := vl_within (k := k) (w := w) (v := v) hn hk hcn hu (fun c hc => Nat.le_trans (hw c hc) (by omega)) (fun c hc => by have := hv c hc; omega)
    obtain ⟨u1, f1, f2⟩ := vl_from (k := k) (w := w) (v := v) hn hk hcn hu
    by_cases e : sx_le n w v = true
    · obtain ⟨u', g1, g2⟩ := ih (t + 1) (sp_sub v w) u1 (by omega) (sp_sub_nn hv e) f2
      rw [show sp_ot n w (f + 1) v = ((sp_ot n w f (sp_sub v w)).1 + 1, (sp_ot n w f (sp_sub v w)).2) by show (if _ then _ else _) = _; rw [if_pos e]]
      refine ⟨u', ?_, g2⟩
      rw [show t + ((sp_ot n w f (sp_sub v w)).1 + 1) = t + 1 + (sp_ot n w f (sp_sub v w)).1 by omega, ← g1, sm_tot_u, fn_LS_takeOften_q12]
      unfold fn_LS_takeOften_b12
      rw [if_neg (show ¬ (16 : Int32) ≤ iI (t : Int) by rw [il_16, ii_le (by omega) (by omega) (by omega) (by omega)]; omega), h1, Option.bind_some, e, if_neg (show ¬ bI true = 0 by decide), f1, Option.bind_some, sm_ev_l, il_1, ii_add]
      rfl
    · rw [show sp_ot n w (f + 1) v = (0, v) by show (if _ then _ else _) = _; rw [if_neg e]]
      refine ⟨u, ?_, hu⟩
      rw [sm_tot_u, fn_LS_takeOften_q12]
      unfold fn_LS_takeOften_b12
      rw [if_neg (show ¬ (16 : Int32) ≤ iI (t : Int) by rw [il_16, ii_le (by omega) (by omega) (by omega) (by omega)]; omega), h1, Option.bind_some, show sx_le n w v = false from by simpa using e, if_pos (show bI false = 0 from rfl), sm_ev_l, e49]
      rfl
theorem ls_often (hn : n ≤ 6) (hk : k < 2000) (hcn : ∀ c, c < n → cn (6 * k + c) = iI (w c)) (hw : ∀ c, c < n → (w c).natAbs ≤ 1000) (hv : sp_nn n v) (hu : ∀ c, c < n → co c = iI (v c)) : ∃ u', sm_tot (fn_LS_takeOften (iI k) (iI n) cn) (0, 0, 0, co) = some (iI (((sp_ot n w 16 v).1 : Nat) : Int), u') ∧ ∀ c, c < n → u' c = iI ((sp_ot n w 16 v).2 c) := by
  obtain ⟨u', g1, g2⟩ := ls_often_l hn hk hcn hw 16 0 v co (by omega) hv hu
  refine ⟨u', ?_, g2⟩
  rw [Nat.zero_add] at g1
  rw [sm_tot_u, fn_LS_takeOften_q0]
  exact g1
end SP2
section SP3
variable {c6 : Nat → Int32} {v : Nat → Int}
theorem ls_below_l (hv : ∀ c, c < 6 → c6 c = iI (v c) ∧ (v c).natAbs ≤ 1000) : ∀ (d c : Nat), c + d = 6 → sm_tot (fn_LS_isBelowZero c6) (7, 6, iI c) = some (bI (!sx_alf (fun j => decide (0 ≤ v j)) d c)) := by
  intro d
  induction d with
  | zero =>
    intro c hc
    have e : c = 6 := by omega
    subst e
    rw [sm_tot_u, fn_LS_isBelowZero_q7]
    unfold fn_LS_isBelowZero_b7
    rw [if_pos (show (6 : Int32) ≤ iI ((6 : Nat) : Int) by decide), sm_ev_r]
    rfl
  | succ d ih =>
    intro c hc
    obtain ⟨h1, r1⟩ := hv c (by omega)
    have i2 : ((c : Int)).toNat = c := by omega
    have h3 : sm_tot (fn_LS_isBelowZero c6) (7, 6, iI ((c : Int) + 1)) = _ := ih (c + 1) (by omega)
    rw [sm_tot_u, fn_LS_isBelowZero_q7, sx_alf_s]
    unfold fn_LS_isBelowZero_b7
    rw [if_neg (show ¬ (6 : Int32) ≤ iI (c : Int) by rw [il_6, ii_le (by omega) (by omega) (by omega) (by omega)]; omega), if_pos (show ¬ (iI (c : Int) < 0 ∨ 6 ≤ (iI (c : Int)).toNatClampNeg) by rw [il_0, ii_lt (by omega) (by omega) (by omega) (by omega), ii_nat (by omega) (by omega)]; omega), ii_nat (by omega) (by omega), i2, h1]
    by_cases e : 0 ≤ v c
    · rw [if_pos (show (0 : Int32) ≤ iI (v c) by rw [il_0, ii_le (by omega) (by omega) (by omega) (by omega)]; omega), decide_eq_true e, Bool.true_and, sm_ev_l, il_1, ii_add]
      exact h3
    · rw [if_neg (show ¬ (0 : Int32) ≤ iI (v c) by rw [il_0, ii_le (by omega) (by omega) (by omega) (by omega)]; omega), decide_eq_false e, Bool.false_and, sm_ev_r]
      rfl
theorem ls_below (hv : ∀ c, c < 6 → c6 c = iI (v c) ∧ (v c).natAbs ≤ 1000) : sm_tot (fn_LS_isBelowZero c6) (0, 0, 0) = some (bI (!sx_alf (fun j => decide (0 ≤ v j)) 6 0)) := by
  rw [sm_tot_u, fn_LS_isBelowZero_q0]
  exact ls_below_l hv 6 0 (by omega)
theorem ls_size_l (hv : ∀ c, c < 6 → c6 c = iI (v c) ∧ (v c).natAbs ≤ 1000) : ∀ (d c s : Nat), c + d = 6 → sm_tot (fn_LS_sizeOf c6) (10, iI s, 6, iI c) = some (iI ((s + sx_sz v d c : Nat) : Int)) := by
  intro d
  induction d with
  | zero =>
    intro c s hc
    have e : c = 6 := by omega
    subst e
    rw [sm_tot_u, fn_LS_sizeOf_q10]
    unfold fn_LS_sizeOf_b10
    rw [if_pos (show (6 : Int32) ≤ iI ((6 : Nat) : Int) by decide), sm_ev_r]
    rfl
  | succ d ih =>
    intro c s hc
    obtain ⟨h1, r1⟩ := hv c (by omega)
    have i2 : ((c : Int)).toNat = c := by omega
    have h3 : sm_tot (fn_LS_sizeOf c6) (10, iI ((s + (v c).natAbs : Nat) : Int), 6, iI ((c : Int) + 1)) = _ := ih (c + 1) (s + (v c).natAbs) (by omega)
    have hz : sx_sz v (d + 1) c = (v c).natAbs + sx_sz v d (c + 1) := rfl
    rw [hz, show s + ((v c).natAbs + sx_sz v d (c + 1)) = s + (v c).natAbs + sx_sz v d (c + 1) by omega, ← h3, sm_tot_u, fn_LS_sizeOf_q10]
    unfold fn_LS_sizeOf_b10
    rw [if_neg (show ¬ (6 : Int32) ≤ iI (c : Int) by rw [il_6, ii_le (by omega) (by omega) (by omega) (by omega)]; omega), if_pos (show ¬ (iI (c : Int) < 0 ∨ 6 ≤ (iI (c : Int)).toNatClampNeg) by rw [il_0, ii_lt (by omega) (by omega) (by omega) (by omega), ii_nat (by omega) (by omega)]; omega), ii_nat (by omega) (by omega), i2, h1, sm_ev_l]
    rw [ii_abs (by omega), il_1, ii_add, ii_add]
    rfl
theorem ls_size (hv : ∀ c, c < 6 → c6 c = iI (v c) ∧ (v c).natAbs ≤ 1000) : sm_tot (fn_LS_sizeOf c6) (0, 0, 0, 0) = some (iI ((sx_sz v 6 0 : Nat) : Int)) := by
  have h := ls_size_l hv 6 0 0 (by omega)
  rw [Nat.zero_add] at h
  rw [sm_tot_u, fn_LS_sizeOf_q0]
  exact h
end SP3
section SP4
variable {m nv ns : Nat} {hom : Bool} {A : Nat → Nat → Int} {b v : Nat → Int} {ea : Nat → Nat → Int32} {eb co : Nat → Int32}
theorem eq_solved_i (hn : nv + ns ≤ 6) {r : Nat} (hr : r < 4) {z : Int} (hA : ∀ c, c < nv + ns → ea r c = iI (A r c)) (hv : ∀ c, c < nv + ns → co c = iI (v c)) : ∀ d c, c + d = nv + ns →
    sm_tot (fn_EQ_solvedBy (bI hom) (iI m) (iI nv) (iI ns) ea eb co) (30, iI r, iI (z + sx_dt (A r) v c), iI c, 0) = sm_tot (fn_EQ_solvedBy (bI hom) (iI m) (iI nv) (iI ns) ea eb co) (30, iI r, iI (z + sx_dt (A r) v (nv + ns)), iI ((nv + ns : Nat) : Int), 0) := by
  intro d
  induction d with
  | zero => intro c hc; have e : c = nv + ns := by omega
            subst e; rfl
  | succ d ih =>
    intro c hc
    have h1 := hA c (by omega)
    have h2 := hv c (by omega)
    have i1 : ((r : Int)).toNat = r := by omega
    have i2 : ((c : Int)).toNat = c := by omega
    rw [← ih (c + 1) (by omega), sm_tot_u (30, iI r, iI (z + sx_dt (A r) v c), iI c, 0), fn_EQ_solvedBy_q30]
    unfold fn_EQ_solvedBy_b30
    rw [eq_columns, Option.bind_some]
    simp (disch := omega) only [il_0, il_1, ii_le, ii_lt, ii_add, ii_mul, ii_nat, i1, i2, h1, h2, if_pos, if_neg, sm_ev_l]
    rw [Int.add_assoc]
    rfl
theorem eq_solved_l (hm : m ≤ 4) (hn : nv + ns ≤ 6) (hA : ∀ r c, r < m → c < nv + ns → ea r c = iI (A r c) ∧ (A r c).natAbs ≤ 20) (hb : ∀ r, r < m → eb r = iI (b r) ∧ (b r).natAbs ≤ 200) (hv : ∀ c, c < nv + ns → co c = iI (v c) ∧ (v c).natAbs ≤ 100) : ∀ d r, r + d = m →
    sm_tot (fn_EQ_solvedBy (bI hom) (iI m) (iI nv) (iI ns) ea eb co) (2, iI r, 0, 0, 0) = some (bI (sx_alf (fun r => decide (sx_dt (A r) v (nv + ns) = se_b hom b r)) d r)) := by
  intro d
  induction d with
  | zero =>
    intro r hr
    have e : r = m := by omega
    subst e
    rw [sm_tot_u, fn_EQ_solvedBy_q2]
    unfold fn_EQ_solvedBy_b2
    simp (disch := omega) only [ii_le, if_pos, sm_ev_r]
    rfl
  | succ d ih =>
    intro r hr
    have h3 : sm_tot (fn_EQ_solvedBy (bI hom) (iI m) (iI nv) (iI ns) ea eb co) (2, iI ((r : Int) + 1), 0, 0, 0) = _ := ih (r + 1) (by omega)
    obtain ⟨b1, b2⟩ := hb r (by omega)
    have i1 : ((r : Int)).toNat = r := by omega
    have q2 := sx_dt_bd (a' := A r) (v := v) (n := nv + ns) (M := 100) (fun j hj => (hA r j (by omega) hj).2) (fun j hj => (hv j hj).2) (nv + ns) (Nat.le_refl _)
    have q3 : (nv + ns) * (20 * 100) ≤ 6 * (20 * 100) := Nat.mul_le_mul_right _ hn
    have q4 : (se_b hom b r).natAbs ≤ 200 := by unfold se_b; split <;> omega
    have h25 : sm_tot (fn_EQ_solvedBy (bI hom) (iI m) (iI nv) (iI ns) ea eb co) (2, iI r, 0, 0, 0) = sm_tot (fn_EQ_solvedBy (bI hom) (iI m) (iI nv) (iI ns) ea eb co) (30, iI r, iI (- se_b hom b r + sx_dt (A r) v 0), iI ((0 : Nat) : Int), 0) := by
      have e25 : ∀ x, sm_tot (fn_EQ_solvedBy (bI hom) (iI m) (iI nv) (iI ns) ea eb co) (25, iI r, 0, 0, x) = sm_tot (fn_EQ_solvedBy (bI hom) (iI m) (iI nv) (iI ns) ea eb co) (30, iI r, x, 0, 0) := fun x => by rw [sm_tot_u, fn_EQ_solvedBy_q25]; rfl
      rw [sm_tot_u, fn_EQ_solvedBy_q2]
      unfold fn_EQ_solvedBy_b2
      rw [if_neg (show ¬ iI (m : Int) ≤ iI (r : Int) by rw [ii_le (by omega) (by omega) (by omega) (by omega)]; omega)]
      cases hom with
      | false =>
        rw [if_pos (show bI false = 0 from rfl), if_pos (show ¬ (iI (r : Int) < 0 ∨ 4 ≤ (iI (r : Int)).toNatClampNeg) by rw [il_0, ii_lt (by omega) (by omega) (by omega) (by omega), ii_nat (by omega) (by omega)]; omega), ii_nat (by omega) (by omega), i1, b1, sm_ev_l, e25, ii_neg]
        show _ = sm_tot _ (30, iI r, iI (- b r + 0), _, 0)
        rw [Int.add_zero]
        rfl
      | true =>
        rw [if_neg (show ¬ bI true = 0 by decide), sm_ev_l, e25]
        rfl
    rw [h25, eq_solved_i hn (by omega) (fun c hc => (hA r c (by omega) hc).1) (fun c hc => (hv c hc).1) (nv + ns) 0 (by omega), sx_alf_s, sm_tot_u, fn_EQ_solvedBy_q30]
    unfold fn_EQ_solvedBy_b30
    rw [eq_columns, Option.bind_some, if_pos (show iI ((nv + ns : Nat) : Int) ≤ iI ((nv + ns : Nat) : Int) by rw [ii_le (by omega) (by omega) (by omega) (by omega)]; omega)]
    by_cases e : sx_dt (A r) v (nv + ns) = se_b hom b r
    · rw [if_pos (show iI (- se_b hom b r + sx_dt (A r) v (nv + ns)) = 0 by rw [il_0]; congr 1; omega), decide_eq_true e, Bool.true_and, sm_ev_l, il_1, ii_add]
      exact h3
    · rw [if_neg (show ¬ iI (- se_b hom b r + sx_dt (A r) v (nv + ns)) = 0 by rw [il_0, ii_eq (by omega) (by omega) (by omega) (by omega)]; omega), decide_eq_false e, Bool.false_and, sm_ev_r]
      rfl
theorem eq_solved (hm : m ≤ 4) (hn : nv + ns ≤ 6) (hA : ∀ r c, r < m → c < nv + ns → ea r c = iI (A r c) ∧ (A r c).natAbs ≤ 20) (hb : ∀ r, r < m → eb r = iI (b r) ∧ (b r).natAbs ≤ 200) (hv : ∀ c, c < nv + ns → co c = iI (v c) ∧ (v c).natAbs ≤ 100) :
    sm_tot (fn_EQ_solvedBy (bI hom) (iI m) (iI nv) (iI ns) ea eb co) (0, 0, 0, 0, 0) = some (bI (sx_sol m (nv + ns) A (se_b hom b) v)) := by
  rw [sm_tot_u, fn_EQ_solvedBy_q0, show sx_sol m (nv + ns) A (se_b hom b) v = sx_alf (fun r => decide (sx_dt (A r) v (nv + ns) = se_b hom b r)) m 0 from sx_alf_all.symm]
  exact eq_solved_l hm hn hA hb hv m 0 (by omega)
end SP4
