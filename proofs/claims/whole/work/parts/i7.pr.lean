/-! looking ahead never leaves out a solution -/
def sx_ds (a w : Nat → Int) : Nat → Nat → Int
  | 0, _ => 0
  | k + 1, c => a c * w c + sx_ds a w k (c + 1)
/-- may the columns from c on, of the size s together, give each row what it lacks -/
def sx_cb (m n : Nat) (A : Nat → Nat → Int) (b : Nat → Int) (lo hi : Nat → Nat → Int) (c s : Nat) (v : Nat → Int) : Bool :=
  if n ≤ c ∧ s ≠ 0 then false else sx_all (fun r => decide ((s : Int) * lo r c ≤ b r - sx_dt (A r) v n ∧ b r - sx_dt (A r) v n ≤ (s : Int) * hi r c)) m
section SXR
variable {sg ld : Bool} {m n : Nat} {A : Nat → Nat → Int} {b : Nat → Int} {lo hi : Nat → Nat → Int} {a v w : Nat → Int}
theorem sx_F_E {k c s : Nat} (h : w ∈ sx_F sg ld k c s v) : w ∈ sx_E sg k c s v := by
  cases sg with
  | false => rw [sx_F_plain] at h; exact h
  | true =>
    cases ld with
    | true => rw [sx_F_lead] at h; exact h
    | false => rw [sx_F_sg] at h; exact (List.mem_filter.mp h).1
theorem sx_dt_ds : ∀ (k c : Nat), sx_dt a w (c + k) = sx_dt a w c + sx_ds a w k c := by
  intro k
  induction k with
  | zero => intro c; show sx_dt a w c = sx_dt a w c + 0; omega
  | succ k ih =>
    intro c
    rw [show c + (k + 1) = (c + 1) + k from by omega, ih]
    show sx_dt a w c + a c * w c + sx_ds a w k (c + 1) = sx_dt a w c + (a c * w c + sx_ds a w k (c + 1))
    omega
theorem sx_dt_congr : ∀ (c : Nat), (∀ j, j < c → v j = w j) → sx_dt a v c = sx_dt a w c := by
  intro c
  induction c with
  | zero => intro _; rfl
  | succ c ih =>
    intro h
    show sx_dt a v c + a c * v c = sx_dt a w c + a c * w c
    rw [ih (fun j hj => h j (by omega)), h c (by omega)]
theorem sx_ds_zero : ∀ (k c : Nat), (∀ j, c ≤ j → v j = 0) → sx_ds a v k c = 0 := by
  intro k
  induction k with
  | zero => intro c _; rfl
  | succ k ih =>
    intro c h
    show a c * v c + sx_ds a v k (c + 1) = 0
    rw [h c (Nat.le_refl _), ih (c + 1) (fun j hj => h j (by omega)), Int.mul_zero]
    rfl
theorem sx_ds_bd {l u : Int} : ∀ (k c : Nat), (∀ j, c ≤ j → j < c + k → ((w j).natAbs : Int) * l ≤ a j * w j ∧ a j * w j ≤ ((w j).natAbs : Int) * u) → (sx_sz w k c : Int) * l ≤ sx_ds a w k c ∧ sx_ds a w k c ≤ (sx_sz w k c : Int) * u := by
  intro k
  induction k with
  | zero => intro c _; show ((0 : Nat) : Int) * l ≤ 0 ∧ 0 ≤ ((0 : Nat) : Int) * u; rw [Int.natCast_zero, Int.zero_mul, Int.zero_mul]; exact ⟨Int.le_refl _, Int.le_refl _⟩
  | succ k ih =>
    intro c h
    obtain ⟨h1, h2⟩ := h c (Nat.le_refl _) (by omega)
    obtain ⟨h3, h4⟩ := ih (c + 1) (fun j p q => h j (by omega) (by omega))
    show (((w c).natAbs + sx_sz w k (c + 1) : Nat) : Int) * l ≤ a c * w c + sx_ds a w k (c + 1) ∧ a c * w c + sx_ds a w k (c + 1) ≤ (((w c).natAbs + sx_sz w k (c + 1) : Nat) : Int) * u
    rw [Int.natCast_add, Int.add_mul, Int.add_mul]
    omega
theorem sx_term_u {x y l u : Int} (hy : 0 ≤ y) (h1 : l ≤ x) (h2 : x ≤ u) : (y.natAbs : Int) * l ≤ x * y ∧ x * y ≤ (y.natAbs : Int) * u := by
  have e : (y.natAbs : Int) = y := by omega
  rw [e, Int.mul_comm y l, Int.mul_comm y u]
  exact ⟨Int.mul_le_mul_of_nonneg_right h1 hy, Int.mul_le_mul_of_nonneg_right h2 hy⟩
theorem sx_term_s {x y u : Int} (h : (x.natAbs : Int) ≤ u) : (y.natAbs : Int) * (-u) ≤ x * y ∧ x * y ≤ (y.natAbs : Int) * u := by
  have h1 : ((x * y).natAbs : Int) ≤ (y.natAbs : Int) * u := by
    rw [Int.natAbs_mul, Int.natCast_mul, Int.mul_comm]
    exact Int.mul_le_mul_of_nonneg_left h (by omega)
  rw [Int.mul_neg]
  omega
theorem sx_cb_sound (hlo : ∀ r c j, r < m → c ≤ j → j < n → (sg = false → lo r c ≤ A r j ∧ A r j ≤ hi r c) ∧ (sg = true → ((A r j).natAbs : Int) ≤ hi r c ∧ lo r c = - hi r c)) {k c s : Nat} (hc : c + k = n) (hv : ∀ j, c ≤ j → v j = 0) (hw : w ∈ sx_F sg ld k c s v) (hs : sx_sol m n A b w = true) : sx_cb m n A b lo hi c s v = true := by
  obtain ⟨p1, p2, p3⟩ := sx_E_mem.mp (sx_F_E hw)
  unfold sx_cb
  by_cases e : n ≤ c ∧ s ≠ 0
  · have hk : k = 0 := by omega
    subst hk
    exact absurd p2.symm e.2
  · rw [if_neg e, sx_all_iff]
    intro r hr
    rw [decide_eq_true_iff]
    have h1 := sx_sol_iff.mp hs r hr
    have h2 : sx_dt (A r) v n = sx_dt (A r) w c := by
      rw [← hc, sx_dt_ds, sx_ds_zero k c hv, Int.add_zero]
      exact (sx_dt_congr c (fun j hj => p1 j (Or.inl hj))).symm
    have h3 : b r - sx_dt (A r) v n = sx_ds (A r) w k c := by
      rw [← h1, h2, ← hc, sx_dt_ds]
      omega
    have hsz : (sx_sz w k c : Int) = (s : Int) := by rw [p2]
    rw [h3, ← hsz]
    refine sx_ds_bd k c (fun j q1 q2 => ?_)
    obtain ⟨a1, a2⟩ := hlo r c j hr q1 (by omega)
    cases sg with
    | false => exact sx_term_u (p3 rfl j q1 q2) (a1 rfl).1 (a1 rfl).2
    | true => rw [(a2 rfl).2]; exact sx_term_s (a2 rfl).1
theorem sx_cb_end {s : Nat} (h : sx_cb m n A b lo hi n s v = true) : s = 0 ∧ sx_sol m n A b v = true := by
  unfold sx_cb at h
  by_cases e : s = 0
  · subst e
    rw [if_neg (by omega), sx_all_iff] at h
    refine ⟨rfl, sx_sol_iff.mpr fun r hr => ?_⟩
    have := decide_eq_true_iff.mp (h r hr)
    rw [Int.natCast_zero, Int.zero_mul, Int.zero_mul] at this
    omega
  · rw [if_pos ⟨Nat.le_refl _, e⟩] at h
    cases h
end SXR
