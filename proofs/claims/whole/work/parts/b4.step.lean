/-! LATTICES 12: the next basis keeps the bounds -/
theorem rw_lead_at {n m c : Nat} {V : Nat → Nat → Int} {ld : Nat → Nat} (H : rw_HNF n m V ld) {y : Nat → Int} (hy : rw_in n m V y) (hc : c < n) (y0 : ∀ c', c' < c → y c' = 0) (y1 : y c ≠ 0) :
    ∃ j, j < m ∧ ld j = c ∧ V j c ∣ y c := by
  obtain ⟨Y, hY⟩ := hy
  have ex : ∃ j, j < m ∧ Y j ≠ 0 := Classical.byContradiction fun hn => by
    have := hY c hc
    rw [rw_S_zero (fun k hk => by
      have : Y k = 0 := Classical.byContradiction fun h => hn ⟨k, hk, h⟩
      rw [this, Int.zero_mul])] at this
    exact y1 this
  obtain ⟨j, hj, hYj, hz⟩ := rw_first ex
  obtain ⟨b1, b2, b3, -⟩ := H j hj
  obtain ⟨l1, l2⟩ := rw_lead H hj hz
  have v2 : y (ld j) = Y j * V j (ld j) := by rw [hY _ b1, l2]
  have ne : y (ld j) ≠ 0 := by
    rw [v2]
    intro h
    rcases Int.mul_eq_zero.mp h with h | h
    · exact hYj h
    · omega
  have e : ld j = c := by
    rcases Nat.lt_trichotomy (ld j) c with h | h | h
    · exact absurd (y0 _ h) ne
    · exact h
    · exact absurd (by rw [hY c hc, l1 c h]) y1
  exact ⟨j, hj, e, by rw [← e]; exact ⟨Y j, by rw [v2, Int.mul_comm]⟩⟩
theorem rw_ld_inj {n m : Nat} {V : Nat → Nat → Int} {ld : Nat → Nat} (H : rw_HNF n m V ld) {i j : Nat} (hi : i < m) (hj : j < m) (e : ld i = ld j) : i = j := by
  rcases Nat.lt_trichotomy i j with h | h | h
  · have := ((H j hj).2.2.2 i h).1; omega
  · exact h
  · have := ((H i hi).2.2.2 j h).1; omega
section T2s
variable {n ρ m : Nat} {α b b' : Nat → Nat → Int} {ld nn ld' : Nat → Nat}
theorem rw_dat_step (H : rw_dat n ρ m α b ld nn) (hρ : ρ ≤ 4) (hc : rw_cnt m (fun i => rw_dot n (α ρ) (b i)) ≠ 0) (hF' : rw_free n (m - 1) b') (hk' : ∀ i, i < m - 1 → rw_ker n (ρ + 1) α (b' i))
    (hin' : ∀ v, rw_ker n (ρ + 1) α v → rw_in n (m - 1) b' v) (H' : rw_HNF n (m - 1) b' ld') :
    ∃ p, p < m ∧ rw_dot n (α ρ) (b p) ≠ 0 ∧ (∀ k, p < k → k < m → rw_dot n (α ρ) (b k) = 0) ∧ (∀ i, i < m - 1 → ld' i = ld (rw_sk p i)) ∧ rw_dat n (ρ + 1) (m - 1) α b' ld' (rw_up nn ρ (ld p)) := by
  have hH := H.2.2.2.1
  obtain ⟨p, hpm, hFp, hFz⟩ := rw_last hc
  have hκ : ∀ i, i < m - 1 → ∃ j, j < m ∧ ld' i = ld j ∧ j ≠ p := by
    intro i hi
    obtain ⟨x, hx⟩ := H.2.2.1 (b' i) (fun q hq => hk' i hi q (by omega))
    obtain ⟨a1, a2, a3, -⟩ := H' i hi
    have ex : ∃ j, j < m ∧ x j ≠ 0 := Classical.byContradiction fun hn => by
      have := hx _ a1
      rw [rw_S_zero (fun k hk => by
        have : x k = 0 := Classical.byContradiction fun h => hn ⟨k, hk, h⟩
        rw [this, Int.zero_mul])] at this
      omega
    obtain ⟨j, hj, hxj, hz⟩ := rw_first ex
    obtain ⟨l1, l2⟩ := rw_lead hH hj hz
    obtain ⟨b1, b2, b3, -⟩ := hH j hj
    have ne : b' i (ld j) ≠ 0 := by
      rw [hx _ b1, l2]
      intro h
      rcases Int.mul_eq_zero.mp h with h | h
      · exact hxj h
      · omega
    have e : ld' i = ld j := by
      rcases Nat.lt_trichotomy (ld' i) (ld j) with h | h | h
      · have := hx _ a1
        rw [l1 _ h] at this
        omega
      · exact h
      · exact absurd (a2 _ h) ne
    refine ⟨j, hj, e, fun hjp => ?_⟩
    subst hjp
    have d := hk' i hi ρ (by omega)
    rw [rw_dot_congr hx, rw_dot_S] at d
    rw [rw_S_one (g := fun k => x k * rw_dot n (α ρ) (b k)) hj (fun k hk hne => by
      show x k * rw_dot n (α ρ) (b k) = 0
      rcases Nat.lt_or_ge k j with h | h
      · rw [hz k h, Int.zero_mul]
      · rw [hFz k (by omega) hk, Int.mul_zero])] at d
    rcases Int.mul_eq_zero.mp d with h | h
    · exact hxj h
    · exact hFp h
  let κ : Nat → Nat := fun i => if h : i < m - 1 then Classical.choose (hκ i h) else 0
  have κs : ∀ i, i < m - 1 → κ i < m ∧ ld' i = ld (κ i) ∧ κ i ≠ p := fun i hi => by
    have := Classical.choose_spec (hκ i hi)
    show (if h : i < m - 1 then Classical.choose (hκ i h) else 0) < m ∧ ld' i = ld (if h : i < m - 1 then Classical.choose (hκ i h) else 0) ∧ (if h : i < m - 1 then Classical.choose (hκ i h) else 0) ≠ p
    rw [dif_pos hi]; exact this
  have κe : ∀ i, i < m - 1 → κ i = rw_sk p i := by
    refine rw_skip_eq hpm (fun i k hi hk => ?_) (fun i hi => (κs i hi).1) (fun i hi => (κs i hi).2.2)
    have l := ((H' i hi).2.2.2 k hk).1
    rw [(κs i hi).2.1, (κs k (by omega)).2.1] at l
    apply Classical.byContradiction
    intro hn
    have := rw_ld_mono hH (κs k (by omega)).1 (show κ i ≤ κ k by omega)
    omega
  have hld : ∀ i, i < m - 1 → ld' i = ld (rw_sk p i) := fun i hi => by rw [← κe i hi]; exact (κs i hi).2.1
  have skm : ∀ i, i < m - 1 → rw_sk p i < m := fun i hi => by rw [← κe i hi]; exact (κs i hi).1
  have skp : ∀ i, i < m - 1 → rw_sk p i ≠ p := fun i hi => by rw [← κe i hi]; exact (κs i hi).2.2
  refine ⟨p, hpm, hFp, hFz, hld, hF', hk', hin', H', fun g => ?_, ?_⟩
  · rw [H.2.2.2.2.1 g, rw_S_skip hpm (fun k => g (ld k))]
    have e1 : rw_S (m - 1) (fun i => g (ld (rw_sk p i))) = rw_S (m - 1) (fun i => g (ld' i)) := rw_S_congr fun i hi => by rw [hld i hi]
    have e2 : rw_S ρ (fun j => g (rw_up nn ρ (ld p) j)) = rw_S ρ (fun j => g (nn j)) := rw_S_congr fun j hj => by rw [rw_up_ne (by omega)]
    simp only [rw_S]
    rw [e1, e2, rw_up_eq]
    omega
  · -- the determinant
    have M0 : ∀ t, ∀ k, k < m → m - t ≤ k → p < k → rw_det (ρ + 1) α (rw_up nn ρ (ld k)) = 0 := by
      intro t
      induction t with
      | zero => intro k hk hk2; omega
      | succ t ih =>
        intro k hk hk2 hpk
        have d := rw_cramf H hρ (H.2.1 k hk)
        rw [hFz k hpk hk, Int.mul_zero] at d
        rw [rw_S_one (i := k) hk (fun j hj hne => by
          rcases Nat.lt_or_ge j k with h | h
          · rw [(hH k hk).2.1 (ld j) ((hH k hk).2.2.2 j h).1, Int.mul_zero]
          · rw [ih j hj (by omega) (by omega), Int.zero_mul])] at d
        rcases Int.mul_eq_zero.mp d.symm with h | h
        · exact h
        · have := (hH k hk).2.2.1; omega
    have Mp : rw_det ρ α nn * rw_dot n (α ρ) (b p) = rw_det (ρ + 1) α (rw_up nn ρ (ld p)) * b p (ld p) := by
      have d := rw_cramf H hρ (H.2.1 p hpm)
      rw [rw_S_one (i := p) hpm (fun j hj hne => by
        rcases Nat.lt_or_ge j p with h | h
        · rw [(hH p hpm).2.1 (ld j) ((hH p hpm).2.2.2 j h).1, Int.mul_zero]
        · rw [M0 m j hj (by omega) (by omega), Int.zero_mul])] at d
      exact d
    obtain ⟨w, g, z, g0, -, -, w1, wp, hP, hx⟩ := rw_chain hpm hFp hFz p (Nat.le_refl p)
    have lead' : ∀ i, i < m - 1 → (b' i (ld' i)).natAbs ≤ w (rw_sk p i) * (b (rw_sk p i) (ld (rw_sk p i))).natAbs := by
      intro i hi
      obtain ⟨x, x1, x2, x3⟩ := hx (rw_sk p i) (by omega) (skm i hi) (skp i hi)
      obtain ⟨l1, l2⟩ := rw_lead hH (skm i hi) x1
      have yk : rw_ker n (ρ + 1) α (fun c => rw_S m (fun k => x k * b k c)) := fun q hq => by
        by_cases e : q = ρ
        · subst e; rw [rw_dot_S]; exact x3
        · rw [rw_dot_S]; exact rw_S_zero fun k hk => by rw [H.2.1 k hk q (by omega), Int.mul_zero]
      have pb := (hH _ (skm i hi)).2.2.1
      have wpos := wp (rw_sk p i)
      have val : rw_S m (fun k => x k * b k (ld (rw_sk p i))) = (w (rw_sk p i) : Int) * b (rw_sk p i) (ld (rw_sk p i)) := by rw [l2, x2]
      have vpos : 0 < (w (rw_sk p i) : Int) * b (rw_sk p i) (ld (rw_sk p i)) := Int.mul_pos (by omega) pb
      obtain ⟨j, hj, j1, j2⟩ := rw_lead_at H' (hin' _ yk) (hH _ (skm i hi)).1 l1 (by rw [val]; omega)
      have ej : j = i := rw_ld_inj H' hj hi (by rw [j1, hld i hi])
      subst ej
      rw [val] at j2
      have pj := (H' j hj).2.2.1
      rw [j1] at pj ⊢
      have le := Int.le_of_dvd vpos j2
      have eN : ((w (rw_sk p j) * (b (rw_sk p j) (ld (rw_sk p j))).natAbs : Nat) : Int) = (w (rw_sk p j) : Int) * b (rw_sk p j) (ld (rw_sk p j)) := by
        rw [Int.natCast_mul, show ((b (rw_sk p j) (ld (rw_sk p j))).natAbs : Int) = b (rw_sk p j) (ld (rw_sk p j)) by omega]
      omega
    have q1 : rw_P (m - 1) (fun i => (b' i (ld' i)).natAbs) * (b p (ld p)).natAbs ≤ (rw_dot n (α ρ) (b p)).natAbs * rw_P m (fun k => (b k (ld k)).natAbs) := by
      have s1 : rw_P (m - 1) (fun i => (b' i (ld' i)).natAbs) ≤ rw_P (m - 1) (fun i => w (rw_sk p i) * (b (rw_sk p i) (ld (rw_sk p i))).natAbs) := rw_P_le lead'
      have s2 := rw_P_skip hpm (fun k => w k * (b k (ld k)).natAbs)
      rw [w1 p (Or.inr (Nat.le_refl p)), Nat.one_mul, rw_P_mul] at s2
      have s3 : rw_P m w ≤ (rw_dot n (α ρ) (b p)).natAbs := by rw [← hP]; exact Nat.le_mul_of_pos_right _ g0
      exact Nat.le_trans (Nat.mul_le_mul s1 (Nat.le_refl _)) (by rw [← s2]; exact Nat.mul_le_mul s3 (Nat.le_refl _))
    have q2 : (rw_dot n (α ρ) (b p)).natAbs * rw_P m (fun k => (b k (ld k)).natAbs) ≤ (rw_det (ρ + 1) α (rw_up nn ρ (ld p))).natAbs * (b p (ld p)).natAbs := by
      rw [← Int.natAbs_mul, ← Mp, Int.natAbs_mul, Nat.mul_comm]
      exact Nat.mul_le_mul H.2.2.2.2.2 (Nat.le_refl _)
    have pp := (hH p hpm).2.2.1
    exact Nat.le_of_mul_le_mul_right (Nat.le_trans q1 q2) (by omega)
end T2s
