/-! LATTICES 7: there is just one such basis -/
theorem rw_S_one {n i : Nat} {g : Nat → Int} (hi : i < n) (h : ∀ j, j < n → j ≠ i → g j = 0) : rw_S n g = g i := by
  rw [← rw_S_u hi g]
  refine rw_S_congr fun j hj => ?_
  unfold rw_u
  by_cases e : j = i
  · rw [if_pos e, Int.one_mul]
  · rw [if_neg e, Int.zero_mul, h j hj e]
theorem rw_first {m : Nat} {X : Nat → Int} (h : ∃ j, j < m ∧ X j ≠ 0) : ∃ j, j < m ∧ X j ≠ 0 ∧ ∀ k, k < j → X k = 0 := by
  induction m with
  | zero => obtain ⟨j, hj, _⟩ := h; omega
  | succ m ih =>
    by_cases h' : ∃ j, j < m ∧ X j ≠ 0
    · obtain ⟨j, a, b⟩ := ih h'
      exact ⟨j, by omega, b⟩
    · obtain ⟨j, hj, hX⟩ := h
      have z : ∀ k, k < m → X k = 0 := fun k hk => Classical.byContradiction fun hn => h' ⟨k, hk, hn⟩
      have e : j = m := Classical.byContradiction fun hn => hX (z j (by omega))
      exact ⟨j, hj, hX, fun k hk => z k (by omega)⟩
theorem rw_lead {n m i : Nat} {V : Nat → Nat → Int} {ld : Nat → Nat} (H : rw_HNF n m V ld) (hi : i < m) {X : Nat → Int} (hX : ∀ k, k < i → X k = 0) :
    (∀ c, c < ld i → rw_S m (fun k => X k * V k c) = 0) ∧ rw_S m (fun k => X k * V k (ld i)) = X i * V i (ld i) := by
  constructor
  · intro c hc
    refine rw_S_zero fun k hk => ?_
    by_cases h1 : k < i
    · rw [hX k h1, Int.zero_mul]
    · by_cases h2 : k = i
      · subst h2; rw [(H k hk).2.1 c hc, Int.mul_zero]
      · have := ((H k hk).2.2.2 i (by omega)).1
        rw [(H k hk).2.1 c (by omega), Int.mul_zero]
  · refine rw_S_one (g := fun k => X k * V k (ld i)) hi fun k hk hne => ?_
    by_cases h1 : k < i
    · show X k * _ = 0
      rw [hX k h1, Int.zero_mul]
    · have := ((H k hk).2.2.2 i (by omega)).1
      show _ * V k (ld i) = 0
      rw [(H k hk).2.1 (ld i) this, Int.mul_zero]
theorem rw_ld_mono {n m : Nat} {V : Nat → Nat → Int} {ld : Nat → Nat} (H : rw_HNF n m V ld) {i j : Nat} (hj : j < m) (h : i ≤ j) : ld i ≤ ld j := by
  by_cases e : i = j
  · rw [e]; exact Nat.le_refl _
  · exact Nat.le_of_lt ((H j hj).2.2.2 i (by omega)).1
/-- where a row of the one leads, a row of the other does -/
theorem rw_uni_ld {n m m' i : Nat} {V W : Nat → Nat → Int} {ld ld' : Nat → Nat} (H : rw_HNF n m V ld) (H' : rw_HNF n m' W ld') (hi : i < m) (hin : rw_in n m' W (V i)) (hk : ∀ k, k < i → k < m' → ld' k < ld i) :
    ∃ j, i ≤ j ∧ j < m' ∧ ld' j = ld i ∧ W j (ld i) ∣ V i (ld i) := by
  obtain ⟨Y, hY⟩ := hin
  obtain ⟨a1, a2, a3, -⟩ := H i hi
  have ex : ∃ j, j < m' ∧ Y j ≠ 0 := Classical.byContradiction fun hn => by
    have := hY (ld i) a1
    rw [rw_S_zero (fun k hk => by
      have : Y k = 0 := Classical.byContradiction fun h => hn ⟨k, hk, h⟩
      rw [this, Int.zero_mul])] at this
    omega
  obtain ⟨j, hj, hYj, hz⟩ := rw_first ex
  obtain ⟨b1, b2, b3, -⟩ := H' j hj
  obtain ⟨l1, l2⟩ := rw_lead H' hj hz
  have v1 : ∀ c, c < ld' j → V i c = 0 := fun c hc => by rw [hY c (by omega), l1 c hc]
  have v2 : V i (ld' j) = Y j * W j (ld' j) := by rw [hY _ b1, l2]
  have ne : V i (ld' j) ≠ 0 := by
    rw [v2]
    intro h
    rcases Int.mul_eq_zero.mp h with h | h
    · exact hYj h
    · omega
  have e : ld' j = ld i := by
    rcases Nat.lt_trichotomy (ld' j) (ld i) with h | h | h
    · exact absurd (a2 _ h) ne
    · exact h
    · have := v1 _ h; omega
  refine ⟨j, ?_, hj, e, ?_⟩
  · apply Classical.byContradiction
    intro hn
    have := hk j (by omega) hj
    omega
  · rw [e] at v2
    exact ⟨Y j, by rw [v2, Int.mul_comm]⟩
theorem rw_unique {n m m' : Nat} {V W : Nat → Nat → Int} {ld ld' : Nat → Nat} (H : rw_HNF n m V ld) (H' : rw_HNF n m' W ld') (h1 : ∀ i, i < m → rw_in n m' W (V i)) (h2 : ∀ i, i < m' → rw_in n m V (W i)) :
    m = m' ∧ ∀ i, i < m → ld i = ld' i ∧ ∀ c, c < n → V i c = W i c := by
  have key : ∀ i, (i < m → i < m' ∧ ld i = ld' i) ∧ (i < m' → i < m ∧ ld' i = ld i) := by
    intro i
    induction i using Nat.strongRecOn with
    | ind i ih =>
      have lo : ∀ k, k < i → i < m → k < m' → ld' k < ld i := fun k hk hi _ => by
        obtain ⟨-, e⟩ := (ih k hk).1 (by omega)
        rw [← e]; exact ((H i hi).2.2.2 k hk).1
      have lo' : ∀ k, k < i → i < m' → k < m → ld k < ld' i := fun k hk hi _ => by
        obtain ⟨-, e⟩ := (ih k hk).2 (by omega)
        rw [← e]; exact ((H' i hi).2.2.2 k hk).1
      constructor
      · intro hi
        obtain ⟨j, j1, j2, j3, -⟩ := rw_uni_ld H H' hi (h1 i hi) (fun k hk hk' => lo k hk hi hk')
        have hi' : i < m' := by omega
        obtain ⟨l, l1, l2, l3, -⟩ := rw_uni_ld H' H hi' (h2 i hi') (fun k hk hk' => lo' k hk hi' hk')
        have m1 := rw_ld_mono H' j2 j1
        have m2 := rw_ld_mono H l2 l1
        exact ⟨hi', by omega⟩
      · intro hi
        obtain ⟨j, j1, j2, j3, -⟩ := rw_uni_ld H' H hi (h2 i hi) (fun k hk hk' => lo' k hk hi hk')
        have hi' : i < m := by omega
        obtain ⟨l, l1, l2, l3, -⟩ := rw_uni_ld H H' hi' (h1 i hi') (fun k hk hk' => lo k hk hi' hk')
        have m1 := rw_ld_mono H j2 j1
        have m2 := rw_ld_mono H' l2 l1
        exact ⟨hi', by omega⟩
  have em : m = m' := by
    rcases Nat.lt_trichotomy m m' with h | h | h
    · have := ((key m).2 h).1; omega
    · exact h
    · have := ((key m').1 h).1; omega
  subst em
  have eld : ∀ i, i < m → ld i = ld' i := fun i hi => ((key i).1 hi).2
  have elv : ∀ i, i < m → V i (ld i) = W i (ld i) := by
    intro i hi
    have i1 : ∀ j, j < m → ld' j = ld i → j = i := fun j hj e => by
      rcases Nat.lt_trichotomy j i with h | h | h
      · have := ((H' i hi).2.2.2 j h).1
        have := eld i hi
        omega
      · exact h
      · have := ((H' j hj).2.2.2 i h).1
        have := eld i hi
        omega
    obtain ⟨j, j1, j2, j3, j4⟩ := rw_uni_ld H H' hi (h1 i hi) (fun k hk hk' => by
      rw [← eld k hk']; exact ((H i hi).2.2.2 k hk).1)
    have ej := i1 j j2 j3
    subst ej
    obtain ⟨l, l1, l2, l3, l4⟩ := rw_uni_ld H' H j2 (h2 j j2) (fun k hk hk' => by
      rw [eld k hk']; exact ((H' j j2).2.2.2 k hk).1)
    have el : l = j := by
      rcases Nat.lt_trichotomy l j with h | h | h
      · omega
      · exact h
      · have := ((H l l2).2.2.2 j h).1
        have := eld j j2
        omega
    subst el
    rw [← l3] at l4
    have p1 := (H l l2).2.2.1
    have p2 := (H' l l2).2.2.1
    rw [← l3] at p2
    exact Int.dvd_antisymm (by omega) (by omega) l4 j4
  refine ⟨rfl, fun i hi => ⟨eld i hi, fun c hc => ?_⟩⟩
  obtain ⟨X, hX'⟩ := rw_in_sub (v := V i) (w := W i) 1 (rw_in_row V hi) (h2 i hi)
  have hX : ∀ c, c < n → V i c - 1 * W i c = rw_S m (fun k => X k * V k c) := hX'
  have hz : ∀ j, j < m → X j = 0 := by
    apply Classical.byContradiction
    intro hn
    have ex : ∃ j, j < m ∧ X j ≠ 0 := by
      have ⟨j, hj⟩ := Classical.not_forall.mp hn
      have ⟨a, b⟩ := Classical.not_imp.mp hj
      exact ⟨j, a, b⟩
    obtain ⟨j, hj, hXj, hz⟩ := rw_first ex
    obtain ⟨l1, l2⟩ := rw_lead H hj hz
    have hjn := (H j hj).1
    have e := hX (ld j) hjn
    rw [l2, Int.one_mul] at e
    have pj := (H j hj).2.2.1
    rcases Nat.lt_trichotomy j i with h | h | h
    · have a1 := (H i hi).2.1 (ld j) ((H i hi).2.2.2 j h).1
      have a2 := (H' i hi).2.1 (ld j) (by rw [eld j hj]; exact ((H' i hi).2.2.2 j h).1)
      rw [a1, a2] at e
      have e' : X j * V j (ld j) = 0 := by omega
      rcases Int.mul_eq_zero.mp e' with h | h
      · exact hXj h
      · omega
    · subst h
      rw [elv j hj] at e
      have e' : X j * W j (ld j) = 0 := by omega
      have := elv j hj
      rcases Int.mul_eq_zero.mp e' with h | h
      · exact hXj h
      · omega
    · have b1 := ((H j hj).2.2.2 i h).2
      have b2 := ((H' j hj).2.2.2 i h).2
      rw [← eld j hj, ← elv j hj] at b2
      have : (X j * V j (ld j)).natAbs < (V j (ld j)).natAbs := by
        rw [← e]; omega
      rw [Int.natAbs_mul] at this
      have h1 : 1 ≤ (X j).natAbs := by omega
      have h2 : 1 * (V j (ld j)).natAbs ≤ (X j).natAbs * (V j (ld j)).natAbs := Nat.mul_le_mul h1 (Nat.le_refl _)
      omega
  have := hX c hc
  rw [rw_S_zero (fun k hk => by rw [hz k hk, Int.zero_mul]), Int.one_mul] at this
  omega
