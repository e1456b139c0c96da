/-! LATTICES 19: the four rows, in numbers: all that decides is below 2 ^ 62 -/
theorem rw_cub {F G : Nat} (h : F * F * F * (F * F) < (G + 1) * (G + 1) * (G + 1)) : ∀ x : Nat, x * x * x ≤ F * F * F * (F * F) → x ≤ G := by
  intro x hx
  apply Classical.byContradiction
  intro hn
  have hg : G + 1 ≤ x := by omega
  have := Nat.mul_le_mul (Nat.mul_le_mul hg hg) hg
  omega
def rw_inr (n m : Nat) (V : Nat → Nat → Int) : Prop := ∀ c, c < n → rw_cnt (m - (rw_ordN m V c).2) (fun j => (rw_ordN m V c).1 ((rw_ordN m V c).2 + j) c) ≠ 0 → ∀ i, i < m → ((rw_ordN m V c).1 i c).natAbs ≤ 4611686018427387903
section NU
variable {n ρ m : Nat} {α b : Nat → Nat → Int} {ld nn : Nat → Nat}
theorem rw_mu_le {μ : Nat} (H : rw_HNF n m b ld) (hm : m ≤ μ) {k : Nat} (hk : k < m) : rw_S m (fun j => ((b j (ld k)).natAbs : Int)) ≤ μ * (b k (ld k)).natAbs := by
  have h1 := rw_mu_m H hk
  have h2 : m * (b k (ld k)).natAbs ≤ μ * (b k (ld k)).natAbs := Nat.mul_le_mul hm (Nat.le_refl _)
  have h3 : ((m * (b k (ld k)).natAbs : Nat) : Int) ≤ ((μ * (b k (ld k)).natAbs : Nat) : Int) := Int.ofNat_le.mpr h2
  rw [Int.natCast_mul, Int.natCast_mul] at h3
  omega
theorem rw_row4 (H : rw_dat n ρ m α b ld nn) (hn : n ≤ 6) (hρ : ρ ≤ 3) (ha : ∀ q c, q < ρ + 1 → (α q c).natAbs ≤ 20) (hc : rw_cnt m (fun i => rw_dot n (α ρ) (b i)) ≠ 0) :
    (∃ ld' nn', rw_dat n (ρ + 1) (m - 1) α (rw_stp n (α ρ) b m).1 ld' nn') ∧ rw_inr n (m - 1) (fun i => rw_nar n m (α ρ) b (i + 1)) := by
  have em := rw_cov_n H.2.2.2.2.1
  have pw : ∀ t, m ≤ t → 2 ^ m ≤ 2 ^ t := fun t h => Nat.pow_le_pow_right (by omega) h
  rcases (show ρ = 0 ∨ ρ = 1 ∨ ρ = 2 ∨ ρ = 3 by omega) with e | e | e | e
  · subst e
    have p6 := pw 6 (by omega)
    have l1 : ∀ k, k < m → (b k (ld k)).natAbs = 1 := fun k hk => by
      have hP : rw_P m (fun k => (b k (ld k)).natAbs) ≤ 1 := H.2.2.2.2.2
      have pos : ∀ k, k < m → 0 < (b k (ld k)).natAbs := fun k hk => by have := (H.2.2.2.1 k hk).2.2.1; omega
      have := rw_P_term (g := fun k => (b k (ld k)).natAbs) pos hk
      have := pos k hk
      have t : (b k (ld k)).natAbs ≤ 1 := by
        have q : (fun k => (b k (ld k)).natAbs) k ≤ rw_P m (fun k => (b k (ld k)).natAbs) := rw_P_term (g := fun k => (b k (ld k)).natAbs) pos hk
        exact Nat.le_trans q hP
      omega
    refine rw_row (F := 20) (G := 147) (μ := 1) (X' := 1280) (M := 5) (t0 := 153600) H hρ ha hc rfl (by omega) (by omega) (rw_cub (by decide +kernel)) (fun k hk => rw_mu_1 H.2.2.2.1 l1 hk) (by omega) (by omega)
      (fun _ => Nat.le_trans (Nat.mul_le_mul (show m ≤ 6 by omega) (Nat.le_refl _)) (by omega)) (by omega) (fun d hd => ?_) (fun d hd => ?_)
    · rcases (show d = 0 ∨ d = 1 ∨ d = 2 ∨ d = 3 by omega) with e | e | e | e <;> subst e <;> decide +kernel
    · rcases (show d = 0 ∨ d = 1 ∨ d = 2 ∨ d = 3 ∨ d = 4 by omega) with e | e | e | e | e <;> subst e <;> decide +kernel
  · subst e
    have p6 := pw 5 (by omega)
    refine rw_row (F := 800) (G := 68941) (μ := 5) (X' := 25600) (M := 4) (t0 := 102400000) H hρ ha hc rfl (by omega) (by omega) (rw_cub (by decide +kernel)) (fun k hk => rw_mu_le H.2.2.2.1 (by omega) hk) (by omega) (by omega)
      (fun _ => Nat.le_trans (Nat.mul_le_mul (show m ≤ 5 by omega) (Nat.le_refl _)) (by omega)) (by omega) (fun d hd => ?_) (fun d hd => ?_)
    · rcases (show d = 0 ∨ d = 1 ∨ d = 2 by omega) with e | e | e <;> subst e <;> decide +kernel
    · rcases (show d = 0 ∨ d = 1 ∨ d = 2 ∨ d = 3 by omega) with e | e | e | e <;> subst e <;> decide +kernel
  · subst e
    have p6 := pw 4 (by omega)
    refine rw_row (F := 48000) (G := 63397003) (μ := 4) (X' := 768000) (M := 3) (t0 := 147456000000) H hρ ha hc rfl (by omega) (by omega) (rw_cub (by decide +kernel)) (fun k hk => rw_mu_le H.2.2.2.1 (by omega) hk) (by omega) (by omega)
      (fun _ => Nat.le_trans (Nat.mul_le_mul (show m ≤ 4 by omega) (Nat.le_refl _)) (by omega)) (by omega) (fun d hd => ?_) (fun d hd => ?_)
    · rcases (show d = 0 ∨ d = 1 by omega) with e | e <;> subst e <;> decide +kernel
    · rcases (show d = 0 ∨ d = 1 ∨ d = 2 by omega) with e | e | e <;> subst e <;> decide +kernel
  · subst e
    have p6 := pw 3 (by omega)
    refine rw_row (F := 3840000) (G := 94164103052) (μ := 3) (X' := 30720000) (M := 2) (t0 := 30720000) H hρ ha hc rfl (by omega) (by omega) (rw_cub (by decide +kernel)) (fun k hk => rw_mu_le H.2.2.2.1 (by omega) hk) (by omega) (by omega)
      (fun h => by omega) (by omega) (fun d hd => ?_) (fun d hd => ?_)
    · rcases (show d = 0 by omega) with e; subst e; decide +kernel
    · rcases (show d = 0 ∨ d = 1 by omega) with e | e <;> subst e <;> decide +kernel
end NU
