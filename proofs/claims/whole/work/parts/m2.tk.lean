/-! the cheapest one -/
def sx_bef (v w : Nat → Int) : Nat → Nat → Bool
  | 0, _ => false
  | k + 1, c => if v c = w c then sx_bef v w k (c + 1) else decide (v c < w c)
def sx_tB (n : Nat) (co : Nat → Int) (st : Option ((Nat → Int) × Int)) (v : Nat → Int) : Option ((Nat → Int) × Int) × Bool :=
  (match st with
    | none => some (v, sx_dt co v n)
    | some (w, q) => if sx_dt co v n < q ∨ (sx_dt co v n = q ∧ sx_bef v w n 0 = true) then some (v, sx_dt co v n) else some (w, q), true)
/-- price, isFound, vector as the class has them -/
def ch_rel (st : Option ((Nat → Int) × Int)) (pr fo : Int32) (cn : Nat → Int32) : Prop := fo = bI st.isSome ∧ ∀ w q, st = some (w, q) → pr = iI q ∧ q.natAbs ≤ 1000000 ∧ se_vp cn w ∧ ∀ j, (w j).natAbs ≤ 16
section CHT
variable {n : Nat} {cc cv cn : Nat → Int32} {co v w : Nat → Int}
theorem ch_price_l (hn : n ≤ 6) (hc : ∀ c, c < n → cc c = iI (co c)) (hv : ∀ c, c < n → cv c = iI (v c)) : ∀ d c, c + d = n → sm_tot (fn_CH_priceOf (iI n) cc cv) (4, iI (sx_dt co v c), iI c) = some (iI (sx_dt co v n)) := by
  intro d
  induction d with
  | zero =>
    intro c hd
    have e : c = n := by omega
    subst e
    rw [sm_tot_u, fn_CH_priceOf_q4]
    unfold fn_CH_priceOf_b4
    simp (disch := omega) only [ii_le, if_pos, sm_ev_r]
  | succ d ih =>
    intro c hd
    have h1 := hc c (by omega)
    have h2 := hv c (by omega)
    have i2 : ((c : Int)).toNat = c := by omega
    rw [← ih (c + 1) (by omega), sm_tot_u, fn_CH_priceOf_q4]
    unfold fn_CH_priceOf_b4
    simp (disch := omega) only [il_0, il_1, ii_le, ii_lt, ii_add, ii_mul, ii_nat, i2, h1, h2, if_pos, if_neg, sm_ev_l]
    rfl
theorem ch_price (hn : n ≤ 6) (hc : ∀ c, c < n → cc c = iI (co c)) (hv : ∀ c, c < n → cv c = iI (v c)) : sm_tot (fn_CH_priceOf (iI n) cc cv) (0, 0, 0) = some (iI (sx_dt co v n)) := by
  rw [sm_tot_u, fn_CH_priceOf_q0]
  exact ch_price_l hn hc hv n 0 (by omega)
theorem ch_before_l (hn : n ≤ 6) (hv : ∀ c, c < n → cv c = iI (v c) ∧ (v c).natAbs ≤ 1000) (hw : ∀ c, c < n → cn c = iI (w c) ∧ (w c).natAbs ≤ 1000) : ∀ d c, c + d = n → sm_tot (fn_CH_isBefore (iI n) cn cv) (2, iI c, 0) = some (bI (sx_bef v w d c)) := by
  have e39 : ∀ (t : Bool) a, sm_tot (fn_CH_isBefore (iI n) cn cv) (39, a, bI t) = some (bI t) := fun t a => by
    rw [sm_tot_u, fn_CH_isBefore_q39]
    unfold fn_CH_isBefore_b39
    rw [if_pos bI_01, sm_ev_r]
  intro d
  induction d with
  | zero =>
    intro c hd
    have e : c = n := by omega
    subst e
    rw [sm_tot_u, fn_CH_isBefore_q2]
    unfold fn_CH_isBefore_b2
    simp (disch := omega) only [ii_le, if_pos, sm_ev_r]
    rfl
  | succ d ih =>
    intro c hd
    obtain ⟨h1, r1⟩ := hv c (by omega)
    obtain ⟨h2, r2⟩ := hw c (by omega)
    have i2 : ((c : Int)).toNat = c := by omega
    have h3 : sm_tot (fn_CH_isBefore (iI n) cn cv) (2, iI ((c : Int) + 1), 0) = _ := ih (c + 1) (by omega)
    rw [sm_tot_u, fn_CH_isBefore_q2]
    unfold fn_CH_isBefore_b2
    simp (disch := omega) only [il_0, il_1, ii_le, ii_lt, ii_eq, ii_add, ii_nat, i2, h1, h2, if_pos, if_neg]
    show _ = some (bI (if v c = w c then sx_bef v w d (c + 1) else decide (v c < w c)))
    by_cases e : v c = w c
    · rw [if_pos e, if_pos e, sm_ev_l]
      exact h3
    · rw [if_neg e, if_neg e]
      by_cases e2 : w c ≤ v c
      · rw [if_pos e2, sm_ev_l, decide_eq_false (by omega)]
        exact e39 false _
      · rw [if_neg e2, sm_ev_l, decide_eq_true (by omega)]
        exact e39 true _
theorem ch_before (hn : n ≤ 6) (hv : ∀ c, c < n → cv c = iI (v c) ∧ (v c).natAbs ≤ 1000) (hw : ∀ c, c < n → cn c = iI (w c) ∧ (w c).natAbs ≤ 1000) : sm_tot (fn_CH_isBefore (iI n) cn cv) (0, 0, 0) = some (bI (sx_bef v w n 0)) := by
  rw [sm_tot_u, fn_CH_isBefore_q0]
  exact ch_before_l hn hv hw n 0 (by omega)
theorem sx_dt_bd2 {a' : Nat → Int} {M N : Nat} (h : ∀ j, j < n → (a' j).natAbs ≤ N) (hv : ∀ j, j < n → (v j).natAbs ≤ M) : ∀ k, k ≤ n → (sx_dt a' v k).natAbs ≤ k * (N * M) := by
  intro k
  induction k with
  | zero => intro _; exact Nat.zero_le _
  | succ k ih =>
    intro hk
    have h1 := ih (by omega)
    have h2 : (a' k * v k).natAbs ≤ N * M := by rw [Int.natAbs_mul]; exact Nat.mul_le_mul (h k (by omega)) (hv k (by omega))
    show (sx_dt a' v k + a' k * v k).natAbs ≤ (k + 1) * (N * M)
    rw [Nat.succ_mul]
    omega
theorem ch_take (hn : n ≤ 6) (hc : ∀ c, c < n → cc c = iI (co c) ∧ (co c).natAbs ≤ 99) : ch_tok n cc (sx_tB n co) ch_rel := by
  intro st v th tot cv cn hR hcv hv
  obtain ⟨f1, f2⟩ := hR
  have hp := ch_price (cv := cv) (v := v) hn (fun c hc2 => (hc c hc2).1) (fun c hc2 => hcv c (by omega))
  have hb := sx_dt_bd2 (a' := co) (v := v) (n := n) (N := 99) (M := 16) (fun j hj => (hc j hj).2) (fun j _ => hv j) n (Nat.le_refl _)
  have hb2 : n * (99 * 16) ≤ 6 * (99 * 16) := Nat.mul_le_mul_right _ hn
  have e59 : ∀ a x y z, sm_tot (fn_CH_take (iI n) cc cv) (59, a, x, y, z) = some (1, x, y, z) := fun a x y z => by rw [sm_tot_u, fn_CH_take_q59]; rfl
  have e37 : ∀ x y z u, sm_tot (fn_CH_take (iI n) cc cv) (37, x, y, z, u) = some (1, x, 1, va_cpy cv u (0 : Int32).toNatClampNeg (0 : Int32).toNatClampNeg (6 : Int32).toNatClampNeg) := fun x y z u => by
    rw [sm_tot_u, fn_CH_take_q37]
    unfold fn_CH_take_b37
    rw [sm_ev_l, e59]
  have hcp : ∀ u, se_vp (va_cpy cv u (0 : Int32).toNatClampNeg (0 : Int32).toNatClampNeg (6 : Int32).toNatClampNeg) v := fun u j hj => by
    show (if 0 ≤ j ∧ j < 0 + 6 then cv (0 + (j - 0)) else u j) = _
    rw [if_pos (by omega), Nat.zero_add, Nat.sub_zero]
    exact hcv j hj
  have hnew : ∀ u, ch_rel (some (v, sx_dt co v n)) (iI (sx_dt co v n)) 1 (va_cpy cv u (0 : Int32).toNatClampNeg (0 : Int32).toNatClampNeg (6 : Int32).toNatClampNeg) := fun u => ⟨rfl, fun w q e => by
    cases e
    exact ⟨rfl, by omega, hcp u, hv⟩⟩
  cases st with
  | none =>
    refine ⟨_, _, _, ?_, hnew cn⟩
    rw [sm_tot_u, fn_CH_take_q0]
    unfold fn_CH_take_b0
    rw [hp, Option.bind_some, f1, if_pos (show bI (none : Option ((Nat → Int) × Int)).isSome = 0 from rfl), sm_ev_l, e37]
    rfl
  | some wq =>
    obtain ⟨w, q⟩ := wq
    obtain ⟨g1, g2, g3, g4⟩ := f2 w q rfl
    have hbf := ch_before (n := n) (cv := cv) (cn := cn) (v := v) (w := w) hn (fun c hc2 => ⟨hcv c (by omega), Nat.le_trans (hv c) (by omega)⟩) (fun c hc2 => ⟨g3 c (by omega), Nat.le_trans (g4 c) (by omega)⟩)
    show ∃ th' tot' cn', _ = some (bI true, th', tot', cn') ∧ ch_rel (if sx_dt co v n < q ∨ (sx_dt co v n = q ∧ sx_bef v w n 0 = true) then some (v, sx_dt co v n) else some (w, q)) th' tot' cn'
    by_cases e : sx_dt co v n < q ∨ (sx_dt co v n = q ∧ sx_bef v w n 0 = true)
    · rw [if_pos e]
      refine ⟨_, _, _, ?_, hnew cn⟩
      rw [sm_tot_u, fn_CH_take_q0]
      unfold fn_CH_take_b0
      rw [hp, Option.bind_some, f1, g1, if_neg (show ¬ bI (some (w, q) : Option ((Nat → Int) × Int)).isSome = 0 from (show ¬ bI true = 0 by decide)), hbf, Option.bind_some]
      simp (disch := omega) only [ii_lt, ii_eq]
      by_cases e1 : sx_dt co v n < q
      · rw [if_pos e1, sm_ev_l, e37]; rfl
      · obtain ⟨e2, e3⟩ := e.resolve_left e1
        rw [if_neg e1, if_pos e2, e3, if_neg (show ¬ bI true = 0 by decide), sm_ev_l, e37]; rfl
    · rw [if_neg e]
      refine ⟨th, tot, cn, ?_, f1, f2⟩
      rw [sm_tot_u, fn_CH_take_q0]
      unfold fn_CH_take_b0
      rw [hp, Option.bind_some, f1, g1, if_neg (show ¬ bI (some (w, q) : Option ((Nat → Int) × Int)).isSome = 0 from (show ¬ bI true = 0 by decide)), hbf, Option.bind_some]
      simp (disch := omega) only [ii_lt, ii_eq]
      rw [if_neg (fun z => e (Or.inl z))]
      by_cases e2 : sx_dt co v n = q
      · have e3 : sx_bef v w n 0 = false := by
          cases hx : sx_bef v w n 0 with
          | false => rfl
          | true => exact absurd (Or.inr ⟨e2, hx⟩) e
        rw [if_pos e2, e3, if_pos (show bI false = 0 from rfl), sm_ev_l, e59]; rfl
      · rw [if_neg e2, sm_ev_l, e59]; rfl
end CHT
