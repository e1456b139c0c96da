/-! LATTICES 25: the class's work on its rows, over whole numbers of any size -/
def rw_rd (U : Nat → Nat → Int) (b : Nat) (v : Nat → Int) : Nat → Nat → Int
  | 0 => v
  | t + 1 => if 0 < U (b + 1 + t) (b + 1 + t) then fun c => rw_rd U b v t c - (rw_rd U b v t (b + 1 + t) / U (b + 1 + t) (b + 1 + t)) * U (b + 1 + t) c else rw_rd U b v t
section RD
variable {w b : Nat} {U : Nat → Nat → Int} {v : Nat → Int}
theorem rw_rd_lo (H : rw_tri w U) : ∀ t, b + 1 + t ≤ w → ∀ c, c ≤ b → rw_rd U b v t c = v c := by
  intro t
  induction t with
  | zero => intro _ c _; rfl
  | succ t ih =>
    intro ht c hc
    simp only [rw_rd]
    split
    · show rw_rd U b v t c - rw_rd U b v t (b + 1 + t) / U (b + 1 + t) (b + 1 + t) * U (b + 1 + t) c = v c
      rw [ih (by omega) c hc, (H (b + 1 + t) (by omega)).1 c (by omega), Int.mul_zero, Int.sub_zero]
    · exact ih (by omega) c hc
theorem rw_rd_red (H : rw_tri w U) : ∀ t, b + 1 + t ≤ w → ∀ a, b < a → a < b + 1 + t → 0 < U a a → 0 ≤ rw_rd U b v t a ∧ rw_rd U b v t a < U a a := by
  intro t
  induction t with
  | zero => intro _ a h1 h2; omega
  | succ t ih =>
    intro ht a h1 h2 h3
    simp only [rw_rd]
    by_cases e : a = b + 1 + t
    · subst e
      rw [if_pos h3]
      have e1 : rw_rd U b v t (b + 1 + t) - rw_rd U b v t (b + 1 + t) / U (b + 1 + t) (b + 1 + t) * U (b + 1 + t) (b + 1 + t) = rw_rd U b v t (b + 1 + t) % U (b + 1 + t) (b + 1 + t) := by
        rw [Int.emod_def, Int.mul_comm]
      rw [e1]
      exact ⟨Int.emod_nonneg _ (by omega), Int.emod_lt_of_pos _ h3⟩
    · have i := ih (by omega) a h1 (by omega) h3
      split
      · show 0 ≤ rw_rd U b v t a - rw_rd U b v t (b + 1 + t) / U (b + 1 + t) (b + 1 + t) * U (b + 1 + t) a ∧ rw_rd U b v t a - rw_rd U b v t (b + 1 + t) / U (b + 1 + t) (b + 1 + t) * U (b + 1 + t) a < U a a
        rw [(H (b + 1 + t) (by omega)).1 a (by omega), Int.mul_zero, Int.sub_zero]; exact i
      · exact i
theorem rw_rd_in {m : Nat} {W : Nat → Nat → Int} (hU : ∀ a, b < a → a < w → rw_in w m W (U a)) : ∀ t, b + 1 + t ≤ w → rw_in w m W (fun c => v c - 1 * rw_rd U b v t c) := by
  intro t
  induction t with
  | zero => intro _; exact ⟨fun _ => 0, fun c _ => by rw [rw_S_zero (fun k _ => Int.zero_mul _)]; show v c - 1 * v c = 0; omega⟩
  | succ t ih =>
    intro ht
    simp only [rw_rd]
    by_cases h : 0 < U (b + 1 + t) (b + 1 + t)
    · rw [if_pos h]
      refine rw_in_congr (fun c _ => ?_) (rw_in_sub (-(rw_rd U b v t (b + 1 + t) / U (b + 1 + t) (b + 1 + t))) (ih (by omega)) (hU (b + 1 + t) (by omega) (by omega)))
      generalize rw_rd U b v t (b + 1 + t) / U (b + 1 + t) (b + 1 + t) = q
      show v c - 1 * rw_rd U b v t c - -q * U (b + 1 + t) c = v c - 1 * (rw_rd U b v t c - q * U (b + 1 + t) c)
      grind
    · rw [if_neg h]; exact ih (by omega)
theorem rw_rd_congr {U' : Nat → Nat → Int} (h : ∀ a, b < a → U a = U' a) : ∀ t, rw_rd U b v t = rw_rd U' b v t := by
  intro t
  induction t with
  | zero => rfl
  | succ t ih => simp only [rw_rd]; rw [ih, h (b + 1 + t) (by omega)]
end RD
/-! a row and the fresh vector -/
def rw_jn (a : Nat) : Nat → (Nat → Int) → (Nat → Int) → (Nat → Int) × (Nat → Int)
  | 0, r, v => (r, v)
  | k + 1, r, v => if v a = 0 then (r, v) else rw_jn a k v (fun c => r c - (r a).tdiv (v a) * v c)
theorem rw_jn_ind {a : Nat} (P : (Nat → Int) → (Nat → Int) → Prop) (h : ∀ r v, v a ≠ 0 → P r v → P v (fun c => r c - (r a).tdiv (v a) * v c)) : ∀ k r v, P r v → P (rw_jn a k r v).1 (rw_jn a k r v).2 := by
  intro k
  induction k with
  | zero => intro r v H; exact H
  | succ k ih =>
    intro r v H
    simp only [rw_jn]
    by_cases e : v a = 0
    · rw [if_pos e]; exact H
    · rw [if_neg e]; exact ih _ _ (h r v e H)
theorem rw_jn_fin {a : Nat} : ∀ t k r v, (v a).natAbs < 2 ^ t → 2 * t ≤ k → (rw_jn a k r v).2 a = 0 := by
  intro t
  induction t with
  | zero =>
    intro k r v hv _
    have e : v a = 0 := by rw [Nat.pow_zero] at hv; omega
    cases k with
    | zero => exact e
    | succ k => simp only [rw_jn]; rw [if_pos e]; exact e
  | succ t ih =>
    intro k r v hv hk
    obtain ⟨k', rfl⟩ : ∃ k', k = k' + 1 + 1 := ⟨k - 2, by omega⟩
    simp only [rw_jn]
    by_cases e : v a = 0
    · rw [if_pos e]; exact e
    · rw [if_neg e]
      have e1 : r a - (r a).tdiv (v a) * v a = (r a).tmod (v a) := rw_tmod_eq _ _
      by_cases e2 : r a - (r a).tdiv (v a) * v a = 0
      · rw [if_pos e2]; exact e2
      · rw [if_neg e2]
        refine ih k' _ _ ?_ (by omega)
        show (v a - (v a).tdiv (r a - (r a).tdiv (v a) * v a) * (r a - (r a).tdiv (v a) * v a)).natAbs < 2 ^ t
        rw [rw_tmod_eq, e1, Int.natAbs_tmod]
        have l := rw_tmod_lt (r a) e
        rw [e1] at e2
        generalize ((r a).tmod (v a)) = y at *
        have m1 : (v a).natAbs % y.natAbs < y.natAbs := Nat.mod_lt _ (by omega)
        have m2 : (v a).natAbs % y.natAbs + y.natAbs ≤ (v a).natAbs := by
          have d := Nat.mod_add_div (v a).natAbs y.natAbs
          have q : 1 ≤ (v a).natAbs / y.natAbs := (Nat.le_div_iff_mul_le (by omega)).mpr (by omega)
          have := Nat.mul_le_mul (Nat.le_refl y.natAbs) q
          omega
        rw [Nat.pow_succ] at hv
        omega
/-- a step of both, and back -/
theorem rw_jn_in {a k : Nat} {S : (Nat → Int) → Prop} (hS : ∀ x y q, S x → S y → S (fun c => x c - q * y c)) {r v : Nat → Int} (h1 : S r) (h2 : S v) : S (rw_jn a k r v).1 ∧ S (rw_jn a k r v).2 :=
  rw_jn_ind (P := fun r v => S r ∧ S v) (fun r v _ H => ⟨H.2, hS _ _ _ H.1 H.2⟩) k r v ⟨h1, h2⟩
theorem rw_jn_out {a : Nat} {S : (Nat → Int) → Prop} (hS : ∀ x y q, S x → S y → S (fun c => x c - q * y c)) : ∀ k r v, S (rw_jn a k r v).1 → S (rw_jn a k r v).2 → S r ∧ S v := by
  intro k
  induction k with
  | zero => intro r v h1 h2; exact ⟨h1, h2⟩
  | succ k ih =>
    intro r v h1 h2
    simp only [rw_jn] at h1 h2
    by_cases e : v a = 0
    · rw [if_pos e] at h1 h2; exact ⟨h1, h2⟩
    · rw [if_neg e] at h1 h2
      obtain ⟨g1, g2⟩ := ih _ _ h1 h2
      refine ⟨?_, g1⟩
      have := hS _ _ (-((r a).tdiv (v a))) g2 g1
      have e2 : (fun c => (fun c => r c - (r a).tdiv (v a) * v c) c - -((r a).tdiv (v a)) * v c) = r := funext fun c => by
        show r c - (r a).tdiv (v a) * v c - -((r a).tdiv (v a)) * v c = r c
        generalize (r a).tdiv (v a) = q
        grind
      rw [e2] at this
      exact this
theorem rw_jn_ne {a k : Nat} {r v : Nat → Int} (h : r a ≠ 0) : (rw_jn a k r v).1 a ≠ 0 := by
  have := rw_jn_ind (a := a) (P := fun r v => r a ≠ 0) (fun r v hv _ => hv) k r v h
  exact this
theorem rw_jn_zero {a k c : Nat} {r v : Nat → Int} (h1 : r c = 0) (h2 : v c = 0) : (rw_jn a k r v).1 c = 0 ∧ (rw_jn a k r v).2 c = 0 :=
  rw_jn_ind (P := fun r v => r c = 0 ∧ v c = 0) (fun r v _ H => ⟨H.2, by show r c - _ * v c = 0; rw [H.1, H.2, Int.mul_zero]; rfl⟩) k r v ⟨h1, h2⟩
def rw_pos (a : Nat) (r : Nat → Int) : Nat → Int := if r a < 0 then fun c => - r c else r
def rw_ur (U : Nat → Nat → Int) (a : Nat) (r : Nat → Int) : Nat → Nat → Int := fun b => if b = a then r else U b
/-- the rows and the fresh vector as one table: the vector is row w -/
def rw_uv (w : Nat) (U : Nat → Nat → Int) (v : Nat → Int) : Nat → Nat → Int := fun b => if b = w then v else U b
def rw_ins1 (w a : Nat) (U : Nat → Nat → Int) (v : Nat → Int) : (Nat → Nat → Int) × (Nat → Int) × Bool :=
  if v a = 0 then (U, v, false)
  else if U a a = 0 then (rw_ur U a (rw_pos a v), v, true)
  else (rw_ur U a (rw_rd U a (rw_pos a (rw_jn a 100 (U a) v).1) (w - (a + 1))), rw_rd U a (rw_jn a 100 (U a) v).2 (w - (a + 1)), false)
