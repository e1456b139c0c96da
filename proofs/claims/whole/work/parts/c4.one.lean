/-! LATTICES 21: a solution with numbers on the right side, how large it is -/
def rw_bt : Nat → Nat
  | 0 => 0
  | ρ + 1 => 200 * rw_dl ρ + 20 * ρ * rw_bt ρ
theorem rw_det_sumB {n ρ : Nat} {α : Nat → Nat → Int} {v : Nat → Int} (ha : ∀ q c, q < ρ → (α q c).natAbs ≤ 20) (hv : ∀ q, q < ρ → (rw_dot n (α q) v).natAbs ≤ 200) :
    ∀ (cs : Nat → Nat) (j : Nat), j < ρ → (rw_S n (fun c => rw_det ρ α (rw_up cs j c) * v c)).natAbs ≤ rw_bt ρ := by
  induction ρ with
  | zero => intro cs j hj; omega
  | succ ρ ih =>
    intro cs j hj
    have ih' := ih (fun q c hq => ha q c (by omega)) (fun q hq => hv q (by omega))
    have hρ : (rw_S n (fun c => α ρ c * v c)).natAbs ≤ 200 := hv ρ (by omega)
    have dl := rw_det_le (ρ := ρ) (α := α) (fun q c hq => ha q c (by omega))
    simp only [rw_bt]
    by_cases e : j = ρ
    · subst e
      have e1 : rw_S n (fun c => rw_det (j + 1) α (rw_up cs j c) * v c)
          = rw_S n (fun c => rw_det j α cs * (α j c * v c) + (-1) * rw_S j (fun i => α j (cs i) * (rw_det j α (rw_up cs i c) * v c))) := rw_S_congr fun c _ => by
        simp only [rw_det, rw_up_eq]
        have a1 : rw_det j α (rw_up cs j c) = rw_det j α cs := rw_det_congr fun x hx => rw_up_ne (by omega)
        have a2 : rw_S j (fun i => α j (rw_up cs j c i) * rw_det j α (rw_up (rw_up cs j c) i c)) = rw_S j (fun i => α j (cs i) * rw_det j α (rw_up cs i c)) := rw_S_congr fun i hi => by
          rw [rw_up_ne (show i ≠ j by omega), rw_det_congr (cs := rw_up (rw_up cs j c) i c) (ds := rw_up cs i c) (fun x hx => ?_)]
          unfold rw_up
          by_cases h : x = i
          · rw [if_pos h, if_pos h]
          · rw [if_neg h, if_neg h, if_neg (by omega)]
        have a3 : rw_S j (fun i => α j (cs i) * (rw_det j α (rw_up cs i c) * v c)) = v c * rw_S j (fun i => α j (cs i) * rw_det j α (rw_up cs i c)) := by
          rw [← rw_S_mul]; exact rw_S_congr fun i _ => by grind
        rw [a1, a2, a3]
        generalize rw_S j (fun i => α j (cs i) * rw_det j α (rw_up cs i c)) = T
        grind
      rw [e1, rw_S_add, rw_S_mul, rw_S_mul, rw_S_comm]
      have t1 : (rw_det j α cs * rw_S n (fun c => α j c * v c)).natAbs ≤ rw_dl j * 200 := by rw [Int.natAbs_mul]; exact Nat.mul_le_mul (dl cs) hρ
      have t2 : (rw_S j (fun i => rw_S n (fun c => α j (cs i) * (rw_det j α (rw_up cs i c) * v c)))).natAbs ≤ j * (20 * rw_bt j) := rw_S_abs fun i hi => by
        rw [rw_S_mul, Int.natAbs_mul]; exact Nat.mul_le_mul (ha j _ (by omega)) (ih' cs i hi)
      have t3 : j * (20 * rw_bt j) = 20 * j * rw_bt j := by grind
      generalize rw_S j (fun i => rw_S n (fun c => α j (cs i) * (rw_det j α (rw_up cs i c) * v c))) = Y at t2 ⊢
      generalize rw_det j α cs * rw_S n (fun c => α j c * v c) = Z at t1 ⊢
      omega
    · have hj' : j < ρ := by omega
      have e1 : rw_S n (fun c => rw_det (ρ + 1) α (rw_up cs j c) * v c)
          = rw_S n (fun c => α ρ (cs ρ) * (rw_det ρ α (rw_up cs j c) * v c) + (-1) * rw_S ρ (fun i => if i = j then rw_det ρ α (rw_up cs j (cs ρ)) * (α ρ c * v c) else α ρ (cs i) * (rw_det ρ α (rw_up (rw_up cs i (cs ρ)) j c) * v c))) := rw_S_congr fun c _ => by
        simp only [rw_det, rw_up_ne (cs := cs) (j := j) (q := c) (show ρ ≠ j by omega)]
        have a2 : rw_S ρ (fun i => if i = j then rw_det ρ α (rw_up cs j (cs ρ)) * (α ρ c * v c) else α ρ (cs i) * (rw_det ρ α (rw_up (rw_up cs i (cs ρ)) j c) * v c))
            = v c * rw_S ρ (fun i => α ρ (rw_up cs j c i) * rw_det ρ α (rw_up (rw_up cs j c) i (cs ρ))) := by
          rw [← rw_S_mul]
          refine rw_S_congr fun i _ => ?_
          by_cases h : i = j
          · subst h
            rw [if_pos rfl, rw_up_eq, rw_up_up]; grind
          · rw [if_neg h, rw_up_ne h, rw_up_comm (fun e => h e.symm)]; grind
        rw [a2]
        generalize rw_S ρ (fun i => α ρ (rw_up cs j c i) * rw_det ρ α (rw_up (rw_up cs j c) i (cs ρ))) = T
        grind
      rw [e1, rw_S_add, rw_S_mul, rw_S_mul, rw_S_comm]
      have t1 : (α ρ (cs ρ) * rw_S n (fun c => rw_det ρ α (rw_up cs j c) * v c)).natAbs ≤ 20 * rw_bt ρ := by rw [Int.natAbs_mul]; exact Nat.mul_le_mul (ha ρ _ (by omega)) (ih' cs j hj')
      have t2 : (rw_S ρ (fun i => rw_S n (fun c => if i = j then rw_det ρ α (rw_up cs j (cs ρ)) * (α ρ c * v c) else α ρ (cs i) * (rw_det ρ α (rw_up (rw_up cs i (cs ρ)) j c) * v c)))).natAbs + 20 * rw_bt ρ ≤ 200 * rw_dl ρ + 20 * ρ * rw_bt ρ := by
        rw [rw_S_skip hj']
        have u1 : (rw_S (ρ - 1) (fun i => rw_S n (fun c => if rw_sk j i = j then rw_det ρ α (rw_up cs j (cs ρ)) * (α ρ c * v c) else α ρ (cs (rw_sk j i)) * (rw_det ρ α (rw_up (rw_up cs (rw_sk j i) (cs ρ)) j c) * v c)))).natAbs ≤ (ρ - 1) * (20 * rw_bt ρ) := rw_S_abs fun i hi => by
          have hne : rw_sk j i ≠ j := by unfold rw_sk; split <;> omega
          simp only [if_neg hne]
          rw [rw_S_mul, Int.natAbs_mul]; exact Nat.mul_le_mul (ha ρ _ (by omega)) (ih' _ j hj')
        have u2 : (rw_S n (fun c => if j = j then rw_det ρ α (rw_up cs j (cs ρ)) * (α ρ c * v c) else α ρ (cs j) * (rw_det ρ α (rw_up (rw_up cs j (cs ρ)) j c) * v c))).natAbs ≤ rw_dl ρ * 200 := by
          simp only [if_pos]
          rw [rw_S_mul, Int.natAbs_mul]; exact Nat.mul_le_mul (dl _) hρ
        have u3 : (ρ - 1) * (20 * rw_bt ρ) + 20 * rw_bt ρ = 20 * ρ * rw_bt ρ := by
          obtain ⟨k, rfl⟩ : ∃ k, ρ = k + 1 := ⟨ρ - 1, by omega⟩
          rw [Nat.add_sub_cancel]; grind
        omega
      generalize rw_S ρ (fun i => rw_S n (fun c => if i = j then rw_det ρ α (rw_up cs j (cs ρ)) * (α ρ c * v c) else α ρ (cs i) * (rw_det ρ α (rw_up (rw_up cs i (cs ρ)) j c) * v c))) = Y at t2 ⊢
      generalize α ρ (cs ρ) * rw_S n (fun c => rw_det ρ α (rw_up cs j c) * v c) = Z at t1 ⊢
      omega
theorem rw_sum_P {m : Nat} {l : Nat → Nat} {y : Nat → Int} (h : ∀ k, k < m → (y k).natAbs + 1 ≤ l k) : rw_S m (fun k => ((y k).natAbs : Int)) + 1 ≤ (rw_P m l : Nat) := by
  induction m with
  | zero => exact Int.le_refl _
  | succ m ih =>
    have h1 := ih (fun k hk => h k (by omega))
    have h2 := h m (by omega)
    simp only [rw_S, rw_P]
    have pp : 1 ≤ rw_P m l := rw_P_pos (fun k hk => by have := h k (by omega); omega)
    generalize rw_P m l = p at *
    generalize l m = q at *
    have hm : p + q ≤ p * q + 1 := by
      obtain ⟨a, rfl⟩ : ∃ a, p = a + 1 := ⟨p - 1, by omega⟩
      obtain ⟨b, rfl⟩ : ∃ b, q = b + 1 := ⟨q - 1, by omega⟩
      have : (a + 1) * (b + 1) = a * b + a + b + 1 := by grind
      rw [this]; omega
    omega
/-- a solution whose numbers at the leads are below them -/
theorem rw_one_le {n ρ m : Nat} {α b : Nat → Nat → Int} {ld nn : Nat → Nat} (H : rw_dat n ρ m α b ld nn) (hρ : ρ ≤ 4) (ha : ∀ q c, q < ρ → (α q c).natAbs ≤ 20) {v : Nat → Int} (hv : ∀ q, q < ρ → (rw_dot n (α q) v).natAbs ≤ 200)
    (hl : ∀ k, k < m → (v (ld k)).natAbs < (b k (ld k)).natAbs) {c : Nat} (hc : c < n) : (v c).natAbs ≤ rw_dl ρ + rw_bt ρ := by
  have hP := H.2.2.2.2.2
  have hd := rw_det_le ha nn
  have hs := rw_sum_P (m := m) (l := fun k => (b k (ld k)).natAbs) (y := fun k => v (ld k)) hl
  rcases rw_cov_ex H.2.2.2.2.1 hc with ⟨k, hk, e⟩ | ⟨j, hj, e⟩
  · have := rw_P_term (g := fun k => (b k (ld k)).natAbs) (fun k hk => by have := (H.2.2.2.1 k hk).2.2.1; omega) hk
    have t : (b k (ld k)).natAbs ≤ rw_P m (fun k => (b k (ld k)).natAbs) := this
    have := hl k hk
    rw [← e]; omega
  · have s := rw_det_sumB ha hv nn j hj
    rw [H.2.2.2.2.1 (fun c => rw_det ρ α (rw_up nn j c) * v c)] at s
    have e2 : rw_S ρ (fun i => rw_det ρ α (rw_up nn j (nn i)) * v (nn i)) = rw_det ρ α nn * v (nn j) := by
      rw [rw_S_one (i := j) hj (fun i hi hne => by rw [rw_det_rep hρ hi hj hne, Int.zero_mul]), rw_up_self]
    rw [e2] at s
    have t := rw_S_tri m (fun k => rw_det ρ α (rw_up nn j (ld k)) * v (ld k))
    have t2 : rw_S m (fun k => ((rw_det ρ α (rw_up nn j (ld k)) * v (ld k)).natAbs : Int)) ≤ rw_S m (fun k => (rw_dl ρ : Int) * ((v (ld k)).natAbs : Int)) := rw_S_le fun k hk => by
      rw [Int.natAbs_mul, ← Int.natCast_mul]
      exact Int.ofNat_le.mpr (Nat.mul_le_mul (rw_det_le ha _) (Nat.le_refl _))
    rw [rw_S_mul] at t2
    have D1 : 1 ≤ (rw_det ρ α nn).natAbs := by have := rw_dat_ne H; omega
    have t3 : (rw_dl ρ : Int) * rw_S m (fun k => ((v (ld k)).natAbs : Int)) ≤ (rw_dl ρ : Int) * ((rw_det ρ α nn).natAbs : Int) := Int.mul_le_mul_of_nonneg_left (by omega) (by omega)
    have t4 : ((rw_det ρ α nn).natAbs * (v (nn j)).natAbs : Nat) ≤ rw_dl ρ * (rw_det ρ α nn).natAbs + rw_bt ρ := by
      rw [← Int.natAbs_mul]
      have e3 : ((rw_dl ρ * (rw_det ρ α nn).natAbs : Nat) : Int) = (rw_dl ρ : Int) * ((rw_det ρ α nn).natAbs : Int) := Int.natCast_mul _ _
      generalize rw_det ρ α nn * v (nn j) = Y at s ⊢
      omega
    have t5 : rw_bt ρ ≤ rw_bt ρ * (rw_det ρ α nn).natAbs := Nat.le_mul_of_pos_right _ D1
    have t6 : (rw_det ρ α nn).natAbs * (v (nn j)).natAbs ≤ (rw_det ρ α nn).natAbs * (rw_dl ρ + rw_bt ρ) := by
      rw [Nat.mul_add, Nat.mul_comm _ (rw_dl ρ), Nat.mul_comm _ (rw_bt ρ)]; omega
    rw [← e]
    exact Nat.le_of_mul_le_mul_left t6 D1
