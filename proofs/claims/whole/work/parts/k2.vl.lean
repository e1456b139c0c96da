/-! the class's lists, in words of whole numbers -/
theorem sx_in_t {x y : Int} (h : (0 ≤ y ∧ 0 ≤ x ∧ x ≤ y) ∨ (y < 0 ∧ x ≤ 0 ∧ y ≤ x)) : sx_in x y = true := sx_in_iff.mpr h
theorem sx_in_f {x y : Int} (h : ¬ ((0 ≤ y ∧ 0 ≤ x ∧ x ≤ y) ∨ (y < 0 ∧ x ≤ 0 ∧ y ≤ x))) : sx_in x y = false := by
  cases e : sx_in x y with
  | false => rfl
  | true => exact absurd (sx_in_iff.mp e) h
theorem sx_alf_s {p : Nat → Bool} {d c : Nat} : sx_alf p (d + 1) c = (p c && sx_alf p d (c + 1)) := rfl
theorem bI_0 : bI false = 0 := rfl
theorem bI_1 : bI true = 1 := rfl
section VLW
variable {n k : Nat} {cn co : Nat → Int32} {w v : Nat → Int}
theorem vl_within_l (hn : n ≤ 6) (hk : k < 2000) (hcn : ∀ c, c < n → cn (6 * k + c) = iI (w c)) (hco : ∀ c, c < n → co c = iI (v c)) (rw_ : ∀ c, c < n → (w c).natAbs ≤ 1000000) (rv : ∀ c, c < n → (v c).natAbs ≤ 1000000) :
    ∀ d c, c + d = n → sm_tot (fn_VL_isWithin (iI k) (iI n) cn co) (8, iI (k * 6), iI c) = some (bI (sx_alf (fun j => sx_in (w j) (v j)) d c)) := by
  have e66 : ∀ x y, sm_tot (fn_VL_isWithin (iI k) (iI n) cn co) (66, x, y) = some 0 := fun x y => by rw [sm_tot_u, fn_VL_isWithin_q66]; rfl
  have e68 : ∀ x (y : Int), sm_tot (fn_VL_isWithin (iI k) (iI n) cn co) (68, x, iI y) = sm_tot (fn_VL_isWithin (iI k) (iI n) cn co) (8, x, iI (y + 1)) := fun x y => by rw [sm_tot_u, fn_VL_isWithin_q68]; unfold fn_VL_isWithin_b68; rw [sm_ev_l, il_1, ii_add]
  intro d
  induction d with
  | zero =>
    intro c hc
    have e : c = n := by omega
    subst e
    rw [sm_tot_u, fn_VL_isWithin_q8]
    unfold fn_VL_isWithin_b8
    simp (disch := omega) only [ii_le, if_pos, sm_ev_r]
    rfl
  | succ d ih =>
    intro c hc
    have h1 := hcn c (by omega)
    have h2 := hco c (by omega)
    have r1 := rw_ c (by omega)
    have r2 := rv c (by omega)
    have i1 : ((k : Int) * 6 + (c : Int)).toNat = 6 * k + c := by omega
    have i2 : ((c : Int)).toNat = c := by omega
    have h3 : sm_tot (fn_VL_isWithin (iI k) (iI n) cn co) (8, iI (k * 6), iI ((c : Int) + 1)) = _ := ih (c + 1) (by omega)
    rw [sm_tot_u, fn_VL_isWithin_q8]
    unfold fn_VL_isWithin_b8
    simp (disch := omega) only [il_0, il_1, ii_le, ii_lt, ii_add, ii_nat, i1, i2, h1, h2, if_pos, if_neg]
    rw [sx_alf_s]
    repeat' split
    all_goals first
      | rw [sx_in_t (by omega), Bool.true_and, sm_ev_l, e68, h3]
      | rw [sx_in_f (by omega), Bool.false_and, sm_ev_l, e66, bI_0]
theorem vl_within (hn : n ≤ 6) (hk : k < 2000) (hcn : ∀ c, c < n → cn (6 * k + c) = iI (w c)) (hco : ∀ c, c < n → co c = iI (v c)) (rw_ : ∀ c, c < n → (w c).natAbs ≤ 1000000) (rv : ∀ c, c < n → (v c).natAbs ≤ 1000000) :
    sm_tot (fn_VL_isWithin (iI k) (iI n) cn co) (0, 0, 0) = some (bI (sx_le n w v)) := by
  rw [sm_tot_u, fn_VL_isWithin_q0]
  unfold fn_VL_isWithin_b0
  simp only [sm_ev_l, il_6, il_0, ii_mul]
  rw [show sx_le n w v = sx_alf (fun j => sx_in (w j) (v j)) n 0 from sx_alf_all.symm]
  exact vl_within_l hn hk hcn hco rw_ rv n 0 (by omega)
end VLW
/-- the list as it lies in an array, six places a vector -/
def vl_pic (n : Nat) (L : List (Nat → Int)) (cn : Nat → Int32) : Prop := ∀ k, k < L.length → ∀ c, c < n → cn (6 * k + c) = iI (L.getD k sx_z c)
def vl_rng (n : Nat) (L : List (Nat → Int)) : Prop := ∀ k, k < L.length → ∀ c, c < n → (L.getD k sx_z c).natAbs ≤ 100
section VLH
variable {n m : Nat} {cn co : Nat → Int32} {v : Nat → Int} {L : List (Nat → Int)}
theorem vl_one_l (hn : n ≤ 6) (hL : L.length ≤ 2000) (hm : m ≤ L.length) (hp : vl_pic n L cn) (hr : vl_rng n L) (hco : ∀ c, c < n → co c = iI (v c)) (rv : ∀ c, c < n → (v c).natAbs ≤ 1000000) :
    ∀ d k, k + d = m → sm_tot (fn_VL_hasOneWithin (iI n) (iI m) cn co) (2, iI k) = some (bI (((L.take m).drop k).any (fun w => sx_le n w v))) := by
  intro d
  induction d with
  | zero =>
    intro k hk
    have e : k = m := by omega
    subst e
    rw [sm_tot_u, fn_VL_hasOneWithin_q2]
    unfold fn_VL_hasOneWithin_b2
    simp (disch := omega) only [ii_le, if_pos, sm_ev_r]
    rw [List.drop_eq_nil_of_le (by rw [List.length_take]; omega)]
    rfl
  | succ d ih =>
    intro k hk
    have h3 : sm_tot (fn_VL_hasOneWithin (iI n) (iI m) cn co) (2, iI ((k : Int) + 1)) = _ := ih (k + 1) (by omega)
    have hw := vl_within (k := k) (w := L.getD k sx_z) hn (by omega) (hp k (by omega)) hco (fun c hc => Nat.le_trans (hr k (by omega) c hc) (by omega)) rv
    have hlt : k < (L.take m).length := by rw [List.length_take]; omega
    have hd : (L.take m).drop k = L.getD k sx_z :: (L.take m).drop (k + 1) := by
      rw [List.drop_eq_getElem_cons hlt]
      congr 1
      rw [List.getElem_take, List.getD_eq_getElem?_getD, List.getElem?_eq_getElem (by omega)]
      rfl
    rw [sm_tot_u, fn_VL_hasOneWithin_q2]
    unfold fn_VL_hasOneWithin_b2
    rw [hw, hd, List.any_cons]
    simp (disch := omega) only [ii_le, if_neg, Option.bind_some]
    cases e : sx_le n (L.getD k sx_z) v with
    | true => rw [bI_1, if_neg (by decide), sm_ev_r, Bool.true_or]; rfl
    | false => rw [bI_0, if_pos rfl, sm_ev_l, Bool.false_or, il_1, ii_add]; exact h3
theorem vl_one (hn : n ≤ 6) (hL : L.length ≤ 2000) (hm : m ≤ L.length) (hp : vl_pic n L cn) (hr : vl_rng n L) (hco : ∀ c, c < n → co c = iI (v c)) (rv : ∀ c, c < n → (v c).natAbs ≤ 1000000) :
    sm_tot (fn_VL_hasOneWithin (iI n) (iI m) cn co) (0, 0) = some (bI ((L.take m).any (fun w => sx_le n w v))) := by
  rw [sm_tot_u, fn_VL_hasOneWithin_q0]
  exact vl_one_l hn hL hm hp hr hco rv m 0 (by omega)
/-- the first one within, or none -/
def sx_fst1 (p : (Nat → Int) → Bool) : List (Nat → Int) → Nat → Int
  | [], _ => -1
  | w :: r, k => if p w = true then (k : Int) else sx_fst1 p r (k + 1)
theorem vl_first_l (hn : n ≤ 6) (hL : L.length ≤ 2000) (hp : vl_pic n L cn) (hr : vl_rng n L) (hco : ∀ c, c < n → co c = iI (v c)) (rv : ∀ c, c < n → (v c).natAbs ≤ 1000000) :
    ∀ d k, k + d = L.length → sm_tot (fn_VL_firstWithin (iI n) (iI L.length) cn co) (2, iI k) = some (iI (sx_fst1 (fun w => sx_le n w v) (L.drop k) k)) := by
  intro d
  induction d with
  | zero =>
    intro k hk
    have e : k = L.length := by omega
    subst e
    rw [sm_tot_u, fn_VL_firstWithin_q2]
    unfold fn_VL_firstWithin_b2
    simp (disch := omega) only [ii_le, if_pos, sm_ev_r]
    rw [List.drop_eq_nil_of_le (Nat.le_refl _)]
    rfl
  | succ d ih =>
    intro k hk
    have h3 : sm_tot (fn_VL_firstWithin (iI n) (iI L.length) cn co) (2, iI ((k : Int) + 1)) = _ := ih (k + 1) (by omega)
    have hw := vl_within (k := k) (w := L.getD k sx_z) hn (by omega) (hp k (by omega)) hco (fun c hc => Nat.le_trans (hr k (by omega) c hc) (by omega)) rv
    have hlt : k < L.length := by omega
    have hd : L.drop k = L.getD k sx_z :: L.drop (k + 1) := by
      rw [List.drop_eq_getElem_cons hlt]
      congr 1
      rw [List.getD_eq_getElem?_getD, List.getElem?_eq_getElem hlt]
      rfl
    rw [sm_tot_u, fn_VL_firstWithin_q2]
    unfold fn_VL_firstWithin_b2
    rw [hw, hd]
    simp (disch := omega) only [ii_le, if_neg, Option.bind_some, sx_fst1]
    by_cases e : sx_le n (L.getD k sx_z) v = true
    · rw [if_pos e, e, bI_1, if_neg (by decide), sm_ev_r]
    · rw [if_neg e, show sx_le n (L.getD k sx_z) v = false from by simpa using e, bI_0, if_pos rfl, sm_ev_l, il_1, ii_add]
      exact h3
theorem vl_first (hn : n ≤ 6) (hL : L.length ≤ 2000) (hp : vl_pic n L cn) (hr : vl_rng n L) (hco : ∀ c, c < n → co c = iI (v c)) (rv : ∀ c, c < n → (v c).natAbs ≤ 1000000) :
    sm_tot (fn_VL_firstWithin (iI n) (iI L.length) cn co) (0, 0) = some (iI (sx_fst1 (fun w => sx_le n w v) L 0)) := by
  rw [sm_tot_u, fn_VL_firstWithin_q0]
  exact vl_first_l hn hL hp hr hco rv L.length 0 (by omega)
end VLH
theorem ii_byte {z : Int} (h : z.natAbs ≤ 127) : vp_nar .byte ((iI z).toInt8.toInt32) = iI z := by
  have e1 : (iI z).toInt8.toInt32 = iI z := by
    unfold iI
    have a1 : Int8.minValue.toInt = -128 := by decide
    have a2 : Int8.maxValue.toInt = 127 := by decide
    rw [Int32.toInt8_ofInt, Int8.toInt32_ofInt (by omega) (by omega)]
  rw [e1]
  show (iI z).toInt8.toInt32 = iI z
  exact e1
section VLT
variable {n m : Nat} {cn co : Nat → Int32} {v : Nat → Int} {L : List (Nat → Int)}
/-- the vector laid into the array behind the list -/
theorem vl_put_l (hn : n ≤ 6) (hL : L.length < 2000) (hco : ∀ c, c < n → co c = iI (v c)) (rv : ∀ c, c < n → (v c).natAbs ≤ 100) {th le : Int32} :
    ∀ d c (u : Nat → Int32), c + d = n → ∃ u', sm_tot (fn_VL_take (iI n) le co) (28, iI c, th, iI L.length, u) = some (1, th, iI (L.length + 1 : Nat), u') ∧ (∀ q, q < 6 * L.length + c → u' q = u q) ∧ (∀ j, c ≤ j → j < n → u' (6 * L.length + j) = iI (v j)) := by
  intro d
  induction d with
  | zero =>
    intro c u hc
    have e : c = n := by omega
    subst e
    refine ⟨u, ?_, fun _ _ => rfl, fun j h1 h2 => by omega⟩
    rw [sm_tot_u, fn_VL_take_q28]
    unfold fn_VL_take_b28
    simp (disch := omega) only [ii_le, if_pos, sm_ev_r, il_1, ii_add]
    rfl
  | succ d ih =>
    intro c u hc
    have h2 := hco c (by omega)
    have r2 := rv c (by omega)
    have i1 : ((L.length : Int) * 6 + (c : Int)).toNat = 6 * L.length + c := by omega
    have i2 : ((c : Int)).toNat = c := by omega
    obtain ⟨u', a1, a2, a3⟩ := ih (c + 1) (upd u (6 * L.length + c) (iI (v c))) (by omega)
    refine ⟨u', ?_, fun q hq => ?_, fun j h3 h4 => ?_⟩
    · rw [← a1, sm_tot_u, fn_VL_take_q28]
      unfold fn_VL_take_b28
      simp (disch := omega) only [il_0, il_1, il_6, ii_le, ii_lt, ii_add, ii_mul, ii_nat, i1, i2, h2, ii_byte, if_pos, if_neg, sm_ev_l]
      rfl
    · rw [a2 q (by omega)]
      exact if_neg (by omega)
    · by_cases e : j = c
      · subst e
        rw [a2 _ (by omega)]
        exact if_pos rfl
      · exact a3 j (by omega) h4
theorem vl_take (hn : n ≤ 6) (hL : L.length ≤ 2000) (hm : m ≤ L.length) (hp : vl_pic n L cn) (hr : vl_rng n L) (hco : ∀ c, c < n → co c = iI (v c)) (rv : ∀ c, c < n → (v c).natAbs ≤ 100) {th : Int32} :
    ∃ cn', sm_tot (fn_VL_take (iI n) (iI m) co) (0, 0, th, iI L.length, cn) = some (bI (sx_tC 2000 (sx_le n) m L v).2, if (sx_tC 2000 (sx_le n) m L v).2 = true then th else 0, iI (sx_tC 2000 (sx_le n) m L v).1.length, cn') ∧ vl_pic n (sx_tC 2000 (sx_le n) m L v).1 cn' := by
  have h1 := vl_one hn hL hm hp hr hco (fun c hc => Nat.le_trans (rv c hc) (by omega))
  unfold sx_tC
  by_cases e1 : (L.take m).any (fun w => sx_le n w v) = true
  · refine ⟨cn, ?_, ?_⟩
    · rw [if_pos e1, sm_tot_u, fn_VL_take_q0]
      unfold fn_VL_take_b0
      rw [h1, e1, Option.bind_some, bI_1, if_neg (by decide), sm_ev_r, if_pos rfl]
    · rw [if_pos e1]; exact hp
  · rw [if_neg e1]
    have e1' : (L.take m).any (fun w => sx_le n w v) = false := by simpa using e1
    by_cases e2 : 2000 ≤ L.length
    · refine ⟨cn, ?_, ?_⟩
      · rw [if_pos e2, sm_tot_u, fn_VL_take_q0]
        unfold fn_VL_take_b0
        rw [h1, e1', Option.bind_some, bI_0, if_pos rfl]
        have hd : sm_tot fn_VL_drop (0, th) = some 0 := by rw [sm_tot_u, fn_VL_drop_q0]; rfl
        simp (disch := omega) only [il_2000, ii_lt, if_neg, hd, Option.bind_some, sm_ev_r]
        rfl
      · rw [if_pos e2]; exact hp
    · obtain ⟨u', a1, a2, a3⟩ := vl_put_l (L := L) (le := iI m) (th := th) hn (by omega) hco rv n 0 cn (by omega)
      refine ⟨u', ?_, ?_⟩
      · rw [if_neg e2, sm_tot_u, fn_VL_take_q0]
        unfold fn_VL_take_b0
        rw [h1, e1', Option.bind_some, bI_0, if_pos rfl]
        simp (disch := omega) only [il_2000, ii_lt, if_pos, sm_ev_l]
        rw [show (0 : Int32) = iI ((0 : Nat) : Int) from rfl, a1, List.length_append]
        rfl
      · rw [if_neg e2]
        intro k hk c hc
        have hk' : k < L.length + 1 := by rw [List.length_append] at hk; exact hk
        by_cases e : k = L.length
        · subst e
          rw [a3 c (by omega) hc]
          congr 1
          rw [List.getD_eq_getElem?_getD, List.getElem?_append_right (Nat.le_refl _), Nat.sub_self]
          rfl
        · rw [a2 _ (by omega), hp k (by omega) c hc]
          congr 1
          rw [List.getD_eq_getElem?_getD, List.getD_eq_getElem?_getD, List.getElem?_append_left (by omega)]
end VLT
