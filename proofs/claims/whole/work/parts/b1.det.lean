/-! LATTICES 9: determinants of some rows and columns, by the last row -/
def rw_up (cs : Nat → Nat) (j q : Nat) : Nat → Nat := fun x => if x = j then q else cs x
def rw_det : Nat → (Nat → Nat → Int) → (Nat → Nat) → Int
  | 0, _, _ => 1
  | ρ + 1, α, cs => α ρ (cs ρ) * rw_det ρ α cs - rw_S ρ (fun j => α ρ (cs j) * rw_det ρ α (rw_up cs j (cs ρ)))
theorem rw_up_eq (cs : Nat → Nat) (j q : Nat) : rw_up cs j q j = q := by unfold rw_up; rw [if_pos rfl]
theorem rw_up_ne {cs : Nat → Nat} {j q x : Nat} (h : x ≠ j) : rw_up cs j q x = cs x := by unfold rw_up; rw [if_neg h]
theorem rw_up_comm {cs : Nat → Nat} {i j p q : Nat} (h : i ≠ j) : rw_up (rw_up cs i p) j q = rw_up (rw_up cs j q) i p := by
  funext x
  unfold rw_up
  by_cases h1 : x = j
  · subst h1; rw [if_pos rfl, if_neg (fun e => h e.symm), if_pos rfl]
  · rw [if_neg h1]
    by_cases h2 : x = i
    · rw [if_pos h2, if_pos h2]
    · rw [if_neg h2, if_neg h2, if_neg h1]
theorem rw_up_up (cs : Nat → Nat) (j p q : Nat) : rw_up (rw_up cs j p) j q = rw_up cs j q := by
  funext x
  unfold rw_up
  by_cases h : x = j
  · rw [if_pos h, if_pos h]
  · rw [if_neg h, if_neg h, if_neg h]
theorem rw_up_self (cs : Nat → Nat) (j : Nat) : rw_up cs j (cs j) = cs := by
  funext x
  unfold rw_up
  by_cases h : x = j
  · rw [if_pos h, h]
  · rw [if_neg h]
theorem rw_det_congr {ρ : Nat} {α : Nat → Nat → Int} {cs ds : Nat → Nat} (h : ∀ j, j < ρ → cs j = ds j) : rw_det ρ α cs = rw_det ρ α ds := by
  induction ρ generalizing cs ds with
  | zero => rfl
  | succ ρ ih =>
    simp only [rw_det]
    rw [h ρ (by omega), ih (fun j hj => h j (by omega))]
    refine congrArg (_ - ·) (rw_S_congr fun j hj => ?_)
    rw [h j (by omega), ih (ds := rw_up ds j (ds ρ)) (fun x hx => ?_)]
    unfold rw_up
    by_cases e : x = j
    · rw [if_pos e, if_pos e]
    · rw [if_neg e, if_neg e, h x (by omega)]
/-- the sum over all columns, in the place of column j, of what the rows don't see -/
theorem rw_det_sum {n ρ : Nat} {α : Nat → Nat → Int} {v : Nat → Int} (hv : ∀ q, q < ρ → rw_dot n (α q) v = 0) : ∀ (cs : Nat → Nat) (j : Nat), j < ρ → rw_S n (fun c => rw_det ρ α (rw_up cs j c) * v c) = 0 := by
  induction ρ with
  | zero => intro cs j hj; omega
  | succ ρ ih =>
    intro cs j hj
    have ih' := ih (fun q hq => hv q (by omega))
    have hρ : rw_S n (fun c => α ρ c * v c) = 0 := hv ρ (by omega)
    by_cases e : j = ρ
    · subst e
      have e1 : rw_S n (fun c => rw_det (j + 1) α (rw_up cs j c) * v c)
          = rw_S n (fun c => rw_det j α cs * (α j c * v c) + (-1) * rw_S j (fun i => α j (cs i) * (rw_det j α (rw_up cs i c) * v c))) := rw_S_congr fun c _ => by
        simp only [rw_det, rw_up_eq]
        have a1 : rw_det j α (rw_up cs j c) = rw_det j α cs := rw_det_congr fun x hx => rw_up_ne (by omega)
        have a2 : rw_S j (fun i => α j (rw_up cs j c i) * rw_det j α (rw_up (rw_up cs j c) i c)) = rw_S j (fun i => α j (cs i) * rw_det j α (rw_up cs i c)) := rw_S_congr fun i hi => by
          rw [rw_up_ne (show i ≠ j by omega), rw_det_congr (cs := rw_up (rw_up cs j c) i c) (ds := rw_up cs i c) (fun x hx => ?_)]
          unfold rw_up
          by_cases h : x = i
          · rw [if_pos h, if_pos h]
          · rw [if_neg h, if_neg h, if_neg (by omega)]
        have a3 : rw_S j (fun i => α j (cs i) * (rw_det j α (rw_up cs i c) * v c)) = v c * rw_S j (fun i => α j (cs i) * rw_det j α (rw_up cs i c)) := by
          rw [← rw_S_mul]; exact rw_S_congr fun i _ => by grind
        rw [a1, a2, a3]
        generalize rw_S j (fun i => α j (cs i) * rw_det j α (rw_up cs i c)) = T
        grind
      rw [e1, rw_S_add, rw_S_mul, hρ, rw_S_mul, rw_S_comm]
      rw [rw_S_zero (fun i hi => by rw [rw_S_mul, ih' cs i hi, Int.mul_zero])]
      omega
    · have hj' : j < ρ := by omega
      have e1 : rw_S n (fun c => rw_det (ρ + 1) α (rw_up cs j c) * v c)
          = rw_S n (fun c => α ρ (cs ρ) * (rw_det ρ α (rw_up cs j c) * v c) + (-1) * rw_S ρ (fun i => if i = j then rw_det ρ α (rw_up cs j (cs ρ)) * (α ρ c * v c) else α ρ (cs i) * (rw_det ρ α (rw_up (rw_up cs i (cs ρ)) j c) * v c))) := rw_S_congr fun c _ => by
        simp only [rw_det, rw_up_ne (cs := cs) (j := j) (q := c) (show ρ ≠ j by omega)]
        have a2 : rw_S ρ (fun i => if i = j then rw_det ρ α (rw_up cs j (cs ρ)) * (α ρ c * v c) else α ρ (cs i) * (rw_det ρ α (rw_up (rw_up cs i (cs ρ)) j c) * v c))
            = v c * rw_S ρ (fun i => α ρ (rw_up cs j c i) * rw_det ρ α (rw_up (rw_up cs j c) i (cs ρ))) := by
          rw [← rw_S_mul]
          refine rw_S_congr fun i _ => ?_
          by_cases h : i = j
          · subst h
            rw [if_pos rfl, rw_up_eq, rw_up_up]; grind
          · rw [if_neg h, rw_up_ne h, rw_up_comm (fun e => h e.symm)]; grind
        rw [a2]
        generalize rw_S ρ (fun i => α ρ (rw_up cs j c i) * rw_det ρ α (rw_up (rw_up cs j c) i (cs ρ))) = T
        grind
      rw [e1, rw_S_add, rw_S_mul, ih' cs j hj', rw_S_mul, rw_S_comm]
      rw [rw_S_zero (fun i hi => by
        by_cases h : i = j
        · simp only [if_pos h]; rw [rw_S_mul, hρ, Int.mul_zero]
        · simp only [if_neg h]; rw [rw_S_mul, ih' (rw_up cs i (cs ρ)) j hj', Int.mul_zero])]
      omega
/-- two columns the same: at most four rows -/
theorem rw_det_rep {ρ : Nat} {α : Nat → Nat → Int} {cs : Nat → Nat} {i j : Nat} (hρ : ρ ≤ 4) (hi : i < ρ) (hj : j < ρ) (hne : i ≠ j) : rw_det ρ α (rw_up cs j (cs i)) = 0 := by
  rcases (show ρ = 2 ∨ ρ = 3 ∨ ρ = 4 by omega) with e | e | e
  · subst e
    rcases (show (i = 0 ∧ j = 1) ∨ (i = 1 ∧ j = 0) by omega) with ⟨e1, e2⟩ | ⟨e1, e2⟩ <;> subst e1 <;> subst e2 <;> simp [rw_det, rw_S, rw_up] <;> grind
  · subst e
    rcases (show (i = 0 ∧ j = 1) ∨ (i = 1 ∧ j = 0) ∨ (i = 0 ∧ j = 2) ∨ (i = 2 ∧ j = 0) ∨ (i = 1 ∧ j = 2) ∨ (i = 2 ∧ j = 1) by omega) with ⟨e1, e2⟩ | ⟨e1, e2⟩ | ⟨e1, e2⟩ | ⟨e1, e2⟩ | ⟨e1, e2⟩ | ⟨e1, e2⟩ <;>
      subst e1 <;> subst e2 <;> simp [rw_det, rw_S, rw_up] <;> grind
  · subst e
    rcases (show i = 0 ∨ i = 1 ∨ i = 2 ∨ i = 3 by omega) with e | e | e | e <;> subst e <;>
      rcases (show j = 0 ∨ j = 1 ∨ j = 2 ∨ j = 3 by omega) with e | e | e | e <;> subst e <;>
        first | exact absurd rfl hne | (simp [rw_det, rw_S, rw_up] <;> grind)
theorem rw_det_rep1 {ρ : Nat} {α : Nat → Nat → Int} {cs : Nat → Nat} {i : Nat} (hρ : ρ ≤ 4) (hi : i < ρ) : rw_det (ρ + 1) α (rw_up cs ρ (cs i)) = 0 := by
  simp only [rw_det, rw_up_eq]
  have a1 : rw_det ρ α (rw_up cs ρ (cs i)) = rw_det ρ α cs := rw_det_congr fun x hx => rw_up_ne (by omega)
  have a2 : rw_S ρ (fun k => α ρ (rw_up cs ρ (cs i) k) * rw_det ρ α (rw_up (rw_up cs ρ (cs i)) k (cs i))) = α ρ (cs i) * rw_det ρ α cs := by
    have b1 : ∀ k, k < ρ → rw_det ρ α (rw_up (rw_up cs ρ (cs i)) k (cs i)) = rw_det ρ α (rw_up cs k (cs i)) := fun k hk => rw_det_congr fun x hx => by
      unfold rw_up
      by_cases h : x = k
      · rw [if_pos h, if_pos h]
      · rw [if_neg h, if_neg h, if_neg (by omega)]
    rw [rw_S_one (i := i) hi (fun k hk hne => by
      rw [b1 k hk, rw_det_rep hρ hi hk (fun e => hne e.symm), Int.mul_zero])]
    rw [b1 i hi, rw_up_self, rw_up_ne (show i ≠ ρ by omega)]
  rw [a1, a2]; omega
def rw_dl : Nat → Nat
  | 0 => 1
  | ρ + 1 => 20 * rw_dl ρ * (ρ + 1)
theorem rw_det_le {ρ : Nat} {α : Nat → Nat → Int} (ha : ∀ q c, q < ρ → (α q c).natAbs ≤ 20) : ∀ cs : Nat → Nat, (rw_det ρ α cs).natAbs ≤ rw_dl ρ := by
  induction ρ with
  | zero => intro cs; exact Nat.le_refl _
  | succ ρ ih =>
    intro cs
    have ih' := ih (fun q c hq => ha q c (by omega))
    simp only [rw_det, rw_dl]
    have h1 : (α ρ (cs ρ) * rw_det ρ α cs).natAbs ≤ 20 * rw_dl ρ := by rw [Int.natAbs_mul]; exact Nat.mul_le_mul (ha ρ _ (by omega)) (ih' _)
    have h2 : (rw_S ρ (fun j => α ρ (cs j) * rw_det ρ α (rw_up cs j (cs ρ)))).natAbs ≤ ρ * (20 * rw_dl ρ) := rw_S_abs fun j _ => by
      rw [Int.natAbs_mul]; exact Nat.mul_le_mul (ha ρ _ (by omega)) (ih' _)
    have e : 20 * rw_dl ρ * (ρ + 1) = ρ * (20 * rw_dl ρ) + 20 * rw_dl ρ := by rw [Nat.mul_succ, Nat.mul_comm]
    rw [e]
    omega
