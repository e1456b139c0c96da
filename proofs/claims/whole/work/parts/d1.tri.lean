/-! LATTICES 24: the class's rows, each at the place where it leads: a triangle -/
def rw_tri (w : Nat) (U : Nat → Nat → Int) : Prop := ∀ a, a < w → (∀ c, c < a → U a c = 0) ∧ 0 ≤ U a a ∧ (U a a = 0 → ∀ c, c < w → U a c = 0)
def rw_trd (w : Nat) (U : Nat → Nat → Int) : Prop := ∀ a a', a < a' → a' < w → 0 < U a' a' → 0 ≤ U a a' ∧ U a a' < U a' a'
theorem rw_tri_lead {w c : Nat} {U : Nat → Nat → Int} (H : rw_tri w U) {x : Nat → Int} (hx : rw_in w w U x) (hc : c < w) (x0 : ∀ c', c' < c → x c' = 0) (x1 : x c ≠ 0) : 0 < U c c ∧ U c c ∣ x c := by
  obtain ⟨X, hX⟩ := hx
  have z : ∀ k, k < c → ∀ c', c' < w → X k * U k c' = 0 := by
    intro k
    induction k using Nat.strongRecOn with
    | ind k ih =>
      intro hk c' hc'
      have e := hX k (by omega)
      rw [x0 k hk, rw_S_one (i := k) (by omega) (fun j hj hne => by
        rcases Nat.lt_or_ge j k with h | h
        · exact ih j h (by omega) k (by omega)
        · rw [(H j hj).1 k (by omega), Int.mul_zero])] at e
      rcases Int.mul_eq_zero.mp e.symm with h | h
      · rw [h, Int.zero_mul]
      · rw [(H k (by omega)).2.2 h c' hc', Int.mul_zero]
  have e := hX c hc
  rw [rw_S_one (i := c) hc (fun j hj hne => by
    rcases Nat.lt_or_ge j c with h | h
    · exact z j h c hc
    · rw [(H j hj).1 c (by omega), Int.mul_zero])] at e
  have ne : U c c ≠ 0 := fun h => by rw [h, Int.mul_zero] at e; exact x1 e
  have p := (H c hc).2.1
  exact ⟨by omega, ⟨X c, by rw [e, Int.mul_comm]⟩⟩
/-- the first place where a vector isn't 0 -/
theorem rw_fnz {w : Nat} {x : Nat → Int} (h : ∃ c, c < w ∧ x c ≠ 0) : ∃ c, c < w ∧ x c ≠ 0 ∧ ∀ c', c' < c → x c' = 0 := rw_first h
/-- the triangle and the basis in order are the same rows -/
theorem rw_tri_HNF {n m : Nat} {U V : Nat → Nat → Int} {ld : Nat → Nat} (H : rw_tri n U) (Hr : rw_trd n U) (H' : rw_HNF n m V ld) (h1 : ∀ i, i < m → rw_in n n U (V i)) (h2 : ∀ a, a < n → rw_in n m V (U a)) :
    (∀ i, i < m → ∀ c, c < n → U (ld i) c = V i c) ∧ ∀ a, a < n → (U a a ≠ 0 ↔ ∃ i, i < m ∧ ld i = a) := by
  have dg : ∀ i, i < m → U (ld i) (ld i) = V i (ld i) := by
    intro i hi
    obtain ⟨a1, a2, a3, -⟩ := H' i hi
    obtain ⟨u1, u2⟩ := rw_tri_lead H (h1 i hi) a1 a2 (by omega)
    obtain ⟨j, hj, ej, dj⟩ := rw_lead_at H' (h2 (ld i) a1) a1 (H (ld i) a1).1 (by omega)
    have : j = i := rw_ld_inj H' hj hi ej
    subst this
    exact Int.dvd_antisymm (by omega) (by omega) u2 dj
  have ex : ∀ a, a < n → U a a ≠ 0 → ∃ i, i < m ∧ ld i = a := fun a ha hne => by
    obtain ⟨j, hj, ej, -⟩ := rw_lead_at H' (h2 a ha) ha (H a ha).1 hne
    exact ⟨j, hj, ej⟩
  refine ⟨fun i hi c hc => ?_, fun a ha => ⟨ex a ha, fun ⟨i, hi, e⟩ => ?_⟩⟩
  · obtain ⟨a1, a2, a3, -⟩ := H' i hi
    apply Classical.byContradiction
    intro hne
    have hd : rw_in n n U (fun c => V i c - 1 * U (ld i) c) := rw_in_sub 1 (h1 i hi) (rw_in_row U a1)
    obtain ⟨c0, c1, c2, c3⟩ := rw_fnz (w := n) (x := fun c => V i c - 1 * U (ld i) c) ⟨c, hc, fun e => hne (by have e' : V i c - 1 * U (ld i) c = 0 := e; omega)⟩
    obtain ⟨u1, u2⟩ := rw_tri_lead H hd c1 c3 c2
    obtain ⟨k, hk, ek⟩ := ex c0 c1 (by omega)
    have c2' : V i c0 - 1 * U (ld i) c0 ≠ 0 := c2
    have hlt : ld i < c0 := by
      apply Classical.byContradiction
      intro hn
      rcases Nat.lt_or_ge c0 (ld i) with h | h
      · have := a2 c0 h
        have := (H (ld i) a1).1 c0 h
        omega
      · have e : c0 = ld i := by omega
        rw [e, dg i hi] at c2'
        omega
    have hik : i < k := by
      apply Classical.byContradiction
      intro hn
      have := rw_ld_mono H' hi (show k ≤ i by omega)
      omega
    have b1 := ((H' k hk).2.2.2 i hik).2
    have b2 := Hr (ld i) c0 hlt c1 u1
    have b3 := dg k hk
    rw [ek] at b1 b3
    have u2' : U c0 c0 ∣ V i c0 - 1 * U (ld i) c0 := u2
    have := Int.eq_zero_of_dvd_of_natAbs_lt_natAbs u2' (by omega)
    exact c2' this
  · subst e
    have := dg i hi
    have := (H' i hi).2.2.1
    omega
