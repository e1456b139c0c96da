/-! LATTICES 6: what order leaves spans the same, and is ordered -/
theorem rw_S_split (d s : Nat) (g : Nat → Int) : rw_S (d + s) g = rw_S d g + rw_S s (fun j => g (d + j)) := by
  induction s with
  | zero => simp only [rw_S, Nat.add_zero]; omega
  | succ s ih =>
    have : rw_S (d + (s + 1)) g = rw_S (d + s) g + g (d + s) := rfl
    rw [this, ih]; simp only [rw_S]; omega
theorem rw_S_spl {d m : Nat} (h : d ≤ m) (g : Nat → Int) : rw_S m g = rw_S d g + rw_S (m - d) (fun j => g (d + j)) := by
  have := rw_S_split d (m - d) g
  rw [show d + (m - d) = m by omega] at this
  exact this
/-- the two sets of rows are sums of each other, and the second is free if the first is -/
def rw_eqv (n m : Nat) (V W : Nat → Nat → Int) : Prop := (∀ i, i < m → rw_in n m V (W i)) ∧ (∀ i, i < m → rw_in n m W (V i)) ∧ (rw_free n m V → rw_free n m W)
theorem rw_eqv_refl (n m : Nat) (V : Nat → Nat → Int) : rw_eqv n m V V := ⟨fun _ hi => rw_in_row V hi, fun _ hi => rw_in_row V hi, id⟩
theorem rw_eqv_trans {n m : Nat} {V W U : Nat → Nat → Int} (h1 : rw_eqv n m V W) (h2 : rw_eqv n m W U) : rw_eqv n m V U :=
  ⟨fun i hi => rw_in_trans h1.1 (h2.1 i hi), fun i hi => rw_in_trans h2.2.1 (h1.2.1 i hi), fun h => h2.2.2 (h1.2.2 h)⟩
theorem rw_gat_eqv {n m d c : Nat} {V : Nat → Nat → Int} (hd : d ≤ m) : rw_eqv n m V (rw_gat m d c V) := by
  have hi0 : ∀ j c', rw_gat m d c V (d + j) c' = rw_ph true (m - d) (rw_fu (m - d) (fun j => V (d + j) c)) (fun j => V (d + j) c) (fun j => V (d + j) c') j := fun j c' => rw_gat_hi
  refine ⟨fun i hi => ?_, fun i hi => ?_, fun hF X hX => ?_⟩
  · by_cases hid : i < d
    · exact rw_in_congr (fun c' _ => (rw_gat_lo hid).symm) (rw_in_row V hi)
    · have e : d + (i - d) = i := by omega
      refine rw_in_trans (V := fun j => V (d + j)) (m := m - d) (fun k hk => rw_in_row V (by omega)) ?_
      refine rw_in_congr (fun c' hc' => ?_) (rw_ph_in (n := n) (t := true) (N := rw_fu (m - d) (fun j => V (d + j) c)) (f := fun j => V (d + j) c) (R := fun j => V (d + j)) (i := i - d) (by omega))
      have := hi0 (i - d) c'
      rw [e] at this
      exact this.symm
  · by_cases hid : i < d
    · exact rw_in_congr (fun c' _ => rw_gat_lo hid) (rw_in_row _ hi)
    · have e : d + (i - d) = i := by omega
      obtain ⟨X, hX⟩ := rw_ph_in2 (n := n) (t := true) (N := rw_fu (m - d) (fun j => V (d + j) c)) (f := fun j => V (d + j) c) (R := fun j => V (d + j)) (k := i - d) (s := m - d) (by omega)
      refine rw_in_trans (V := fun j => rw_gat m d c V (d + j)) (m := m - d) (fun k hk => rw_in_row _ (by omega)) ⟨X, fun c' hc' => ?_⟩
      have h2 := hX c' hc'
      simp only [e] at h2
      rw [h2]
      exact rw_S_congr fun k _ => by
        show _ = X k * rw_gat m d c V (d + k) c'
        rw [hi0 k c']
  · obtain ⟨Y, y1, y2⟩ := rw_back (t := true) (s := m - d) (N := rw_fu (m - d) (fun j => V (d + j) c)) (f := fun j => V (d + j) c) (R := fun j => V (d + j)) (fun j => X (d + j))
    have key := hF (fun i => if i < d then X i else Y (i - d)) (fun c' hc' => by
      have h0 := hX c' hc'
      rw [rw_S_spl hd] at h0 ⊢
      have a1 : rw_S d (fun i => (if i < d then X i else Y (i - d)) * V i c') = rw_S d (fun i => X i * rw_gat m d c V i c') := rw_S_congr fun i hi => by rw [if_pos hi, rw_gat_lo hi]
      have a2 : rw_S (m - d) (fun j => (if d + j < d then X (d + j) else Y (d + j - d)) * V (d + j) c') = rw_S (m - d) (fun j => X (d + j) * rw_gat m d c V (d + j) c') := by
        have b1 : rw_S (m - d) (fun j => (if d + j < d then X (d + j) else Y (d + j - d)) * V (d + j) c') = rw_pair (m - d) Y (fun j => V (d + j) c') := rw_S_congr fun j _ => by
          rw [if_neg (by omega), Nat.add_sub_cancel_left]
        have b2 : rw_S (m - d) (fun j => X (d + j) * rw_gat m d c V (d + j) c') = rw_pair (m - d) (fun j => X (d + j)) (fun j => rw_ph true (m - d) (rw_fu (m - d) (fun j => V (d + j) c)) (fun j => V (d + j) c) (fun j => V (d + j) c') j) :=
          rw_S_congr fun j _ => by rw [hi0 j c']
        rw [b1, b2]; exact (y1 c').symm
      rw [a1, a2]; exact h0)
    have yz : ∀ i, i < m - d → Y i = 0 := fun i hi => by
      have := key (d + i) (by omega)
      simp only [if_neg (show ¬ d + i < d by omega), Nat.add_sub_cancel_left] at this
      exact this
    intro i hi
    by_cases hid : i < d
    · have := key i hi
      simp only [if_pos hid] at this
      exact this
    · have := y2 yz (i - d) (by omega)
      have e : d + (i - d) = i := by omega
      simp only [e] at this
      exact this
theorem rw_rdu_eqv {n m d c : Nat} {V : Nat → Nat → Int} (hd : d < m) : rw_eqv n m V (rw_rdu d c V) := by
  have lo : ∀ i c', i < d → rw_rdu d c V i c' = V i c' - (V i c / V d c) * V d c' := fun i c' h1 => by unfold rw_rdu; rw [if_pos h1]
  have hi0 : ∀ i c', ¬ i < d → rw_rdu d c V i c' = V i c' := fun i c' h1 => by unfold rw_rdu; rw [if_neg h1]
  refine ⟨fun i hi => ?_, fun i hi => ?_, fun hF X hX => ?_⟩
  · by_cases hid : i < d
    · exact rw_in_congr (fun c' hc' => (lo i c' hid).symm) (rw_in_sub (V i c / V d c) (rw_in_row V hi) (rw_in_row V hd))
    · exact rw_in_congr (fun c' _ => (hi0 i c' hid).symm) (rw_in_row V hi)
  · by_cases hid : i < d
    · refine rw_in_congr (fun c' hc' => ?_) (rw_in_sub (- (V i c / V d c)) (rw_in_row (rw_rdu d c V) hi) (rw_in_row (rw_rdu d c V) hd))
      rw [lo i c' hid, hi0 d c' (by omega)]
      generalize V i c / V d c = q
      grind
    · exact rw_in_congr (fun c' _ => hi0 i c' hid) (rw_in_row _ hi)
  · have key := hF (fun i => if i = d then X d + rw_S d (fun i => (- (V i c / V d c)) * X i) else X i) (fun c' hc' => by
      have h0 := hX c' hc'
      have e1 : rw_S m (fun i => (if i = d then X d + rw_S d (fun i => (- (V i c / V d c)) * X i) else X i) * V i c')
          = rw_S m (fun i => if i = d then (X d + rw_S d (fun i => (- (V i c / V d c)) * X i)) * V d c' else X i * V i c') := rw_S_congr fun i _ => by
        by_cases e : i = d
        · subst e; simp only [if_pos]
        · simp only [if_neg e]
      rw [e1, rw_S_upd m d _ (fun i => X i * V i c'), if_pos hd]
      have e2 : rw_S m (fun i => X i * rw_rdu d c V i c') = rw_S m (fun i => X i * V i c') + rw_S d (fun i => (- (V i c / V d c)) * X i) * V d c' := by
        rw [rw_S_spl (Nat.le_of_lt hd), rw_S_spl (Nat.le_of_lt hd) (fun i => X i * V i c')]
        have b1 : rw_S d (fun i => X i * rw_rdu d c V i c') = rw_S d (fun i => X i * V i c' + V d c' * ((- (V i c / V d c)) * X i)) := rw_S_congr fun i hi => by
          rw [lo i c' hi]
          generalize V i c / V d c = q
          grind
        have b2 : rw_S (m - d) (fun j => X (d + j) * rw_rdu d c V (d + j) c') = rw_S (m - d) (fun j => X (d + j) * V (d + j) c') := rw_S_congr fun j _ => by rw [hi0 (d + j) c' (by omega)]
        rw [b1, b2, rw_S_add, rw_S_mul]
        generalize rw_S d (fun i => (- (V i c / V d c)) * X i) = T
        generalize rw_S d (fun i => X i * V i c') = U
        generalize rw_S (m - d) (fun j => X (d + j) * V (d + j) c') = Y
        grind
      rw [e2] at h0
      generalize rw_S d (fun i => (- (V i c / V d c)) * X i) = T at h0 ⊢
      generalize rw_S m (fun i => X i * V i c') = U at h0 ⊢
      grind)
    have oth : ∀ i, i < m → i ≠ d → X i = 0 := fun i hi e => by
      have := key i hi
      simp only [if_neg e] at this
      exact this
    intro i hi
    by_cases e : i = d
    · subst e
      have := key i hi
      simp only [if_pos] at this
      have z : rw_S i (fun k => (- (V k c / V i c)) * X k) = 0 := rw_S_zero fun k hk => by rw [oth k (by omega) (by omega), Int.mul_zero]
      rw [z] at this
      omega
    · exact oth i hi e
theorem rw_ord1_eqv {n m c d : Nat} {V : Nat → Nat → Int} (hd : d ≤ m) : rw_eqv n m V (rw_ord1 m c V d).1 := by
  unfold rw_ord1
  by_cases hz : rw_cnt (m - d) (fun j => V (d + j) c) = 0
  · rw [if_pos hz]; exact rw_eqv_refl n m V
  · rw [if_neg hz]
    have sp := rw_lst_spec hz
    exact rw_eqv_trans (rw_gat_eqv hd) (rw_rdu_eqv (by omega))
theorem rw_ordN_O {n m c : Nat} {V : Nat → Nat → Int} : (∃ ld, rw_O m c (rw_ordN m V c).2 (rw_ordN m V c).1 ld) ∧ rw_eqv n m V (rw_ordN m V c).1 := by
  induction c with
  | zero => exact ⟨⟨fun _ => 0, Nat.zero_le _, fun i hi => absurd hi (Nat.not_lt_zero i), fun _ _ _ c' hc' => absurd hc' (Nat.not_lt_zero c')⟩, rw_eqv_refl n m V⟩
  | succ c ih =>
    obtain ⟨⟨ld, h1⟩, h2⟩ := ih
    exact ⟨rw_O_step h1, rw_eqv_trans h2 (rw_ord1_eqv h1.1)⟩
/-- a basis in the document's order: ld tells the leads -/
def rw_HNF (n m : Nat) (V : Nat → Nat → Int) (ld : Nat → Nat) : Prop :=
  ∀ i, i < m → ld i < n ∧ (∀ c', c' < ld i → V i c' = 0) ∧ 0 < V i (ld i) ∧ ∀ k, k < i → ld k < ld i ∧ 0 ≤ V k (ld i) ∧ V k (ld i) < V i (ld i)
theorem rw_order {n m : Nat} {V : Nat → Nat → Int} (hF : rw_free n m V) : ∃ ld, rw_HNF n m (rw_ordN m V n).1 ld ∧ (rw_ordN m V n).2 = m ∧ rw_eqv n m V (rw_ordN m V n).1 := by
  obtain ⟨⟨ld, h1, h2, h3⟩, he⟩ := rw_ordN_O (n := n) (m := m) (c := n) (V := V)
  have hF' := he.2.2 hF
  have hd : (rw_ordN m V n).2 = m := by
    apply Classical.byContradiction
    intro hne
    have hk : (rw_ordN m V n).2 < m := by omega
    have := hF' (rw_u (m - 1)) (fun c hc => by
      rw [rw_S_u (show m - 1 < m by omega) (fun i => (rw_ordN m V n).1 i c)]
      exact h3 (m - 1) (by omega) (by omega) c hc) (m - 1) (by omega)
    simp [rw_u] at this
  rw [hd] at h2
  exact ⟨ld, h2, hd, he⟩
