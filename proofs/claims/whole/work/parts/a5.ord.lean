/-! LATTICES 5: order, over whole numbers of any size -/
def rw_free (n m : Nat) (V : Nat → Nat → Int) : Prop := ∀ X : Nat → Int, (∀ c, c < n → rw_S m (fun i => X i * V i c) = 0) → ∀ i, i < m → X i = 0
theorem rw_red_red (s : Nat) (q h : Nat → Int) (i : Nat) : rw_red s (fun i => - q i) (rw_red s q h) i = h i := by
  have e : rw_qs s (fun i => - q i) i = - rw_qs s q i := by
    unfold rw_qs
    split <;> simp
  show rw_red s q h i - rw_qs s (fun i => - q i) i * rw_red s q h 0 = h i
  rw [e, rw_red0]
  unfold rw_red
  generalize rw_qs s q i = a
  grind
theorem rw_neg_neg (b : Bool) (h : Nat → Int) (i : Nat) : rw_neg b (rw_neg b h) i = h i := by
  show rw_ng b i * (rw_ng b i * h i) = h i
  rw [← Int.mul_assoc, rw_ng_sq, Int.one_mul]
/-- a sum of the rows behind a phase, as a sum of the rows before -/
theorem rw_back {t : Bool} {s N : Nat} {f : Nat → Int} {R : Nat → Nat → Int} (X : Nat → Int) :
    ∃ Y : Nat → Int, (∀ c, rw_pair s X (fun j => rw_ph t s N f (fun j => R j c) j) = rw_pair s Y (fun j => R j c)) ∧ ((∀ i, i < s → Y i = 0) → ∀ i, i < s → X i = 0) := by
  refine rw_ind (P := fun _ H _ => ∀ X : Nat → Int, ∃ Y : Nat → Int, (∀ c, rw_pair s X (H c) = rw_pair s Y (fun j => R j c)) ∧ ((∀ i, i < s → Y i = 0) → ∀ i, i < s → X i = 0))
    (fun f H _ p hp h X => ?_) (fun f H _ b _ h X => ?_) (fun f H _ hs _ _ h X => ?_) N f (fun c j => R j c) (fun _ => f) (fun X => ⟨X, fun _ => rfl, fun h => h⟩) X
  · obtain ⟨Y, h1, h2⟩ := h (rw_swp p X)
    refine ⟨Y, fun c => ?_, fun hY i hi => ?_⟩
    · rw [← h1 c]
      have e1 := rw_pair_swp hp X (rw_swp p (H c))
      have e2 : rw_pair s (rw_swp p X) (rw_swp p (rw_swp p (H c))) = rw_pair s (rw_swp p X) (H c) := rw_S_congr fun i _ => by
        show X (rw_sg p i) * H c (rw_sg p (rw_sg p i)) = X (rw_sg p i) * H c i
        rw [rw_sg_sg]
      rw [← e2, e1]
    · have := h2 hY (rw_sg p i) (rw_sg_lt hp hi)
      have e2 : rw_swp p X (rw_sg p i) = X i := by
        show X (rw_sg p (rw_sg p i)) = X i
        rw [rw_sg_sg]
      rw [← e2]; exact this
  · obtain ⟨Y, h1, h2⟩ := h (rw_neg b X)
    refine ⟨Y, fun c => ?_, fun hY i hi => ?_⟩
    · rw [← h1 c]
      have e1 := rw_pair_neg s b X (rw_neg b (H c))
      have e2 : rw_pair s (rw_neg b X) (rw_neg b (rw_neg b (H c))) = rw_pair s (rw_neg b X) (H c) := rw_S_congr fun i _ => by rw [rw_neg_neg]
      rw [← e2, e1]
    · have := h2 hY i hi
      have e3 : (rw_neg b X i).natAbs = (X i).natAbs := rw_ng_abs b i (X i)
      rw [this] at e3
      omega
  · obtain ⟨Y, h1, h2⟩ := h (rw_redX s (fun i => - (f i).tdiv (f 0)) X)
    refine ⟨Y, fun c => ?_, fun hY => ?_⟩
    · rw [← h1 c]
      have e1 := rw_pair_red hs (fun i => - (f i).tdiv (f 0)) X (rw_red s (fun i => (f i).tdiv (f 0)) (H c))
      have e2 : rw_pair s (rw_redX s (fun i => - (f i).tdiv (f 0)) X) (rw_red s (fun i => - (f i).tdiv (f 0)) (rw_red s (fun i => (f i).tdiv (f 0)) (H c))) = rw_pair s (rw_redX s (fun i => - (f i).tdiv (f 0)) X) (H c) :=
        rw_S_congr fun i _ => by rw [rw_red_red]
      rw [← e2, e1]
    · have key := h2 hY
      have tail : ∀ k, 0 < k → k < s → X k = 0 := fun k k0 k1 => by
        have := key k k1
        simp only [rw_redX, if_neg (show k ≠ 0 by omega)] at this
        exact this
      intro i hi
      by_cases e : i = 0
      · subst e
        have := key 0 hi
        simp only [rw_redX, if_pos] at this
        have z : rw_S s (fun i => rw_qs s (fun i => - (f i).tdiv (f 0)) i * X i) = 0 := rw_S_zero fun k hk => by
          by_cases e0 : k = 0
          · subst e0; rw [rw_qs0, Int.zero_mul]
          · rw [tail k (by omega) hk, Int.mul_zero]
        rw [z] at this
        omega
      · exact tail i (by omega) hi
theorem rw_ph_zero {t : Bool} {s N : Nat} {f h : Nat → Int} (H : ∀ i, i < s → h i = 0) : ∀ i, i < s → rw_ph t s N f h i = 0 := by
  intro i hi
  have := rw_lin_ph (t := t) (s := s) (n := N) (m := 0) (f := f) (h := h) (x := fun _ => f) (b := fun _ => 0) (fun i hi => H i hi) i hi
  exact this
theorem rw_rnd_pos {s : Nat} {f : Nat → Int} (hc : rw_cnt s f ≠ 0) : 0 < rw_rnd true s f f 0 := by
  have sp := rw_lst_spec hc
  unfold rw_rnd
  rw [rw_red0]
  show 0 < rw_ng (true && decide (f (rw_lst s f) < 0)) 0 * f (rw_sg (rw_lst s f) 0)
  have e : rw_sg (rw_lst s f) 0 = rw_lst s f := by simp [rw_sg]
  rw [e]
  by_cases hn : f (rw_lst s f) < 0
  · have : rw_ng (true && decide (f (rw_lst s f) < 0)) 0 = -1 := by simp [rw_ng, hn]
    rw [this]; omega
  · have : rw_ng (true && decide (f (rw_lst s f) < 0)) 0 = 1 := by simp [rw_ng, hn]
    rw [this]; omega
theorem rw_ph_pos {s n : Nat} {f : Nat → Int} (hc : rw_cnt s f ≠ 0) (hn : 0 < n) : 0 < rw_ph true s n f f 0 := by
  induction n generalizing f with
  | zero => omega
  | succ n ih =>
    simp only [rw_ph]
    rw [if_neg hc]
    by_cases c1 : rw_cnt s f = 1
    · rw [if_pos c1]; exact rw_rnd_pos hc
    · rw [if_neg c1]
      have hp := rw_rnd_pos hc
      by_cases n0 : n = 0
      · subst n0; exact hp
      · refine ih (fun e => ?_) (by omega)
        have h0 : 0 < s := by have := (rw_lst_spec hc).1; omega
        have := rw_cnt0.mp e 0 h0
        omega
theorem rw_PH_pos {s : Nat} {f : Nat → Int} (hc : rw_cnt s f ≠ 0) : 0 < rw_PH true s f f 0 := rw_ph_pos hc (Nat.succ_pos _)
def rw_gat (m d c : Nat) (V : Nat → Nat → Int) : Nat → Nat → Int := fun i c' => if i < d then V i c' else rw_PH true (m - d) (fun j => V (d + j) c) (fun j => V (d + j) c') (i - d)
def rw_rdu (d c : Nat) (V : Nat → Nat → Int) : Nat → Nat → Int := fun i c' => if i < d then V i c' - (V i c / V d c) * V d c' else V i c'
def rw_ord1 (m c : Nat) (V : Nat → Nat → Int) (d : Nat) : (Nat → Nat → Int) × Nat :=
  if rw_cnt (m - d) (fun j => V (d + j) c) = 0 then (V, d) else (rw_rdu d c (rw_gat m d c V), d + 1)
def rw_ordN (m : Nat) (V : Nat → Nat → Int) : Nat → (Nat → Nat → Int) × Nat
  | 0 => (V, 0)
  | c + 1 => rw_ord1 m c (rw_ordN m V c).1 (rw_ordN m V c).2
theorem rw_gat_lo {m d c i c' : Nat} {V : Nat → Nat → Int} (h : i < d) : rw_gat m d c V i c' = V i c' := by unfold rw_gat; rw [if_pos h]
theorem rw_gat_hi {m d c j c' : Nat} {V : Nat → Nat → Int} : rw_gat m d c V (d + j) c' = rw_PH true (m - d) (fun j => V (d + j) c) (fun j => V (d + j) c') j := by
  unfold rw_gat
  rw [if_neg (by omega), Nat.add_sub_cancel_left]
/-- the first c columns are ordered; d rows are done, ld tells where they lead -/
def rw_O (m c d : Nat) (V : Nat → Nat → Int) (ld : Nat → Nat) : Prop := d ≤ m
  ∧ (∀ i, i < d → ld i < c ∧ (∀ c', c' < ld i → V i c' = 0) ∧ 0 < V i (ld i) ∧ ∀ k, k < i → ld k < ld i ∧ 0 ≤ V k (ld i) ∧ V k (ld i) < V i (ld i))
  ∧ ∀ j, d ≤ j → j < m → ∀ c', c' < c → V j c' = 0
theorem rw_O_step {m c d : Nat} {V : Nat → Nat → Int} {ld : Nat → Nat} (H : rw_O m c d V ld) :
    ∃ ld', rw_O m (c + 1) (rw_ord1 m c V d).2 (rw_ord1 m c V d).1 ld' := by
  obtain ⟨h1, h2, h3⟩ := H
  unfold rw_ord1
  by_cases hz : rw_cnt (m - d) (fun j => V (d + j) c) = 0
  · rw [if_pos hz]
    refine ⟨ld, h1, fun i hi => ?_, fun j a b c' hc' => ?_⟩
    · obtain ⟨a1, a2⟩ := h2 i hi
      exact ⟨by omega, a2⟩
    · by_cases e : c' = c
      · subst e
        have := rw_cnt0.mp hz (j - d) (by omega)
        rw [Nat.add_sub_cancel' a] at this
        exact this
      · exact h3 j a b c' (by omega)
  · rw [if_neg hz]
    have sp := rw_lst_spec hz
    have hs : 0 < m - d := by omega
    have g0 : ∀ j c', c' < c → j < m - d → rw_gat m d c V (d + j) c' = 0 := fun j c' hc' hj => by
      rw [rw_gat_hi]
      exact rw_ph_zero (fun i hi => h3 (d + i) (by omega) (by omega) c' hc') j hj
    have gp : 0 < rw_gat m d c V d c := by
      have := rw_gat_hi (m := m) (d := d) (c := c) (j := 0) (V := V) (c' := c)
      rw [Nat.add_zero] at this
      rw [this]; exact rw_PH_pos hz
    have g1 : ∀ j, 0 < j → j < m - d → rw_gat m d c V (d + j) c = 0 := fun j j0 j1 => by
      rw [rw_gat_hi]; exact rw_PH_fin j0 j1
    have r0 : ∀ i c', i < d → c' < c → rw_rdu d c (rw_gat m d c V) i c' = V i c' := fun i c' hi hc' => by
      unfold rw_rdu
      have z := g0 0 c' hc' hs
      rw [Nat.add_zero] at z
      rw [if_pos hi, z, Int.mul_zero, Int.sub_zero, rw_gat_lo hi]
    have r1 : ∀ i c', ¬ i < d → rw_rdu d c (rw_gat m d c V) i c' = rw_gat m d c V i c' := fun i c' hi => by
      unfold rw_rdu; rw [if_neg hi]
    have r2 : ∀ i, i < d → rw_rdu d c (rw_gat m d c V) i c = V i c % rw_gat m d c V d c := fun i hi => by
      unfold rw_rdu
      rw [if_pos hi, rw_gat_lo hi, Int.emod_def, Int.mul_comm]
    refine ⟨fun i => if i = d then c else ld i, by omega, fun i hi => ?_, fun j a b c' hc' => ?_⟩
    · by_cases e : i = d
      · subst e
        simp only [if_pos]
        refine ⟨by omega, fun c' hc' => ?_, ?_, fun k hk => ?_⟩
        · rw [r1 i c' (by omega)]
          exact g0 0 c' hc' hs
        · rw [r1 i c (by omega)]; exact gp
        · rw [if_neg (show k ≠ i by omega), r2 k hk, r1 i c (by omega)]
          exact ⟨(h2 k hk).1, Int.emod_nonneg _ (by omega), Int.emod_lt_of_pos _ gp⟩
      · have hi' : i < d := by omega
        simp only [if_neg e]
        obtain ⟨a1, a2, a3, a4⟩ := h2 i hi'
        refine ⟨by omega, fun c' hc' => ?_, ?_, fun k hk => ?_⟩
        · rw [r0 i c' hi' (by omega)]; exact a2 c' hc'
        · rw [r0 i _ hi' a1]; exact a3
        · rw [if_neg (show k ≠ d by omega), r0 k _ (by omega) a1, r0 i _ hi' a1]; exact a4 k hk
    · have a' : d + 1 ≤ j := a
      show rw_rdu d c (rw_gat m d c V) j c' = 0
      rw [r1 j c' (by omega)]
      have ej : d + (j - d) = j := by omega
      by_cases e : c' = c
      · subst e
        have := g1 (j - d) (by omega) (by omega)
        rw [ej] at this; exact this
      · have := g0 (j - d) c' (by omega) (by omega)
        rw [ej] at this; exact this
