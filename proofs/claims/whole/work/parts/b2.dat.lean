/-! LATTICES 10: how large the numbers of a basis are -/
def rw_P : Nat → (Nat → Nat) → Nat
  | 0, _ => 1
  | m + 1, g => rw_P m g * g m
theorem rw_P_pos {m : Nat} {g : Nat → Nat} (h : ∀ k, k < m → 0 < g k) : 0 < rw_P m g := by
  induction m with
  | zero => exact Nat.one_pos
  | succ m ih => exact Nat.mul_pos (ih (fun k hk => h k (by omega))) (h m (by omega))
theorem rw_P_congr {m : Nat} {g k : Nat → Nat} (h : ∀ i, i < m → g i = k i) : rw_P m g = rw_P m k := by
  induction m with
  | zero => rfl
  | succ m ih => simp only [rw_P]; rw [ih (fun i hi => h i (by omega)), h m (by omega)]
theorem rw_P_le {m : Nat} {g k : Nat → Nat} (h : ∀ i, i < m → g i ≤ k i) : rw_P m g ≤ rw_P m k := by
  induction m with
  | zero => exact Nat.le_refl _
  | succ m ih => exact Nat.mul_le_mul (ih (fun i hi => h i (by omega))) (h m (by omega))
theorem rw_P_term {m i : Nat} {g : Nat → Nat} (h : ∀ k, k < m → 0 < g k) (hi : i < m) : g i ≤ rw_P m g := by
  induction m with
  | zero => omega
  | succ m ih =>
    have hp := rw_P_pos (m := m) (fun k hk => h k (by omega))
    have hm := h m (by omega)
    simp only [rw_P]
    by_cases e : i = m
    · subst e; exact Nat.le_mul_of_pos_left _ hp
    · exact Nat.le_trans (ih (fun k hk => h k (by omega)) (by omega)) (Nat.le_mul_of_pos_right _ hm)
/-- without one -/
def rw_sk (p : Nat) (i : Nat) : Nat := if i < p then i else i + 1
theorem rw_P_skip {m p : Nat} (hp : p < m) (g : Nat → Nat) : rw_P m g = rw_P (m - 1) (fun i => g (rw_sk p i)) * g p := by
  induction m with
  | zero => omega
  | succ m ih =>
    simp only [rw_P, Nat.add_sub_cancel]
    by_cases e : p = m
    · subst e
      rw [rw_P_congr (m := p) (g := fun i => g (rw_sk p i)) (k := g) (fun i hi => by unfold rw_sk; rw [if_pos hi])]
    · have hp' : p < m := by omega
      rw [ih hp']
      have e2 : m = (m - 1) + 1 := by omega
      have e3 : rw_P m (fun i => g (rw_sk p i)) = rw_P (m - 1) (fun i => g (rw_sk p i)) * g (rw_sk p (m - 1)) := by
        conv => lhs; rw [e2]
        rfl
      have e4 : rw_sk p (m - 1) = m := by unfold rw_sk; rw [if_neg (by omega)]; omega
      rw [e3, e4, Nat.mul_right_comm]
theorem rw_S_skip {m p : Nat} (hp : p < m) (g : Nat → Int) : rw_S m g = rw_S (m - 1) (fun i => g (rw_sk p i)) + g p := by
  induction m with
  | zero => omega
  | succ m ih =>
    simp only [rw_S, Nat.add_sub_cancel]
    by_cases e : p = m
    · subst e
      rw [rw_S_congr (n := p) (g := fun i => g (rw_sk p i)) (k := g) (fun i hi => by unfold rw_sk; rw [if_pos hi])]
    · have hp' : p < m := by omega
      rw [ih hp']
      have e2 : m = (m - 1) + 1 := by omega
      have e3 : rw_S m (fun i => g (rw_sk p i)) = rw_S (m - 1) (fun i => g (rw_sk p i)) + g (rw_sk p (m - 1)) := by
        conv => lhs; rw [e2]
        rfl
      have e4 : rw_sk p (m - 1) = m := by unfold rw_sk; rw [if_neg (by omega)]; omega
      rw [e3, e4]; omega
/-- V is the basis of the kernel of the first ρ rows of α, its leads are at ld, no lead is at nn, and all leads together are at most the determinant of the rows at nn -/
def rw_dat (n ρ m : Nat) (α b : Nat → Nat → Int) (ld nn : Nat → Nat) : Prop :=
  rw_free n m b ∧ (∀ i, i < m → rw_ker n ρ α (b i)) ∧ (∀ v, rw_ker n ρ α v → rw_in n m b v) ∧ rw_HNF n m b ld
  ∧ (∀ g : Nat → Int, rw_S n g = rw_S m (fun k => g (ld k)) + rw_S ρ (fun j => g (nn j)))
  ∧ rw_P m (fun k => (b k (ld k)).natAbs) ≤ (rw_det ρ α nn).natAbs
section T2
variable {n ρ m : Nat} {α b : Nat → Nat → Int} {ld nn : Nat → Nat}
theorem rw_dat_ne (H : rw_dat n ρ m α b ld nn) : rw_det ρ α nn ≠ 0 := by
  intro e
  have h := H.2.2.2.2.2
  have hp := rw_P_pos (m := m) (g := fun k => (b k (ld k)).natAbs) (fun k hk => by have := (H.2.2.2.1 k hk).2.2.1; omega)
  rw [e] at h
  have : (0 : Int).natAbs = 0 := rfl
  omega
theorem rw_cram (H : rw_dat n ρ m α b ld nn) (hρ : ρ ≤ 4) {v : Nat → Int} (hv : rw_ker n ρ α v) {j : Nat} (hj : j < ρ) :
    rw_det ρ α nn * v (nn j) = - rw_S m (fun k => rw_det ρ α (rw_up nn j (ld k)) * v (ld k)) := by
  have s := rw_det_sum hv nn j hj
  rw [H.2.2.2.2.1 (fun c => rw_det ρ α (rw_up nn j c) * v c)] at s
  have e : rw_S ρ (fun i => rw_det ρ α (rw_up nn j (nn i)) * v (nn i)) = rw_det ρ α nn * v (nn j) := by
    rw [rw_S_one (i := j) hj (fun i hi hne => by rw [rw_det_rep hρ hi hj hne, Int.zero_mul]), rw_up_self]
  rw [e] at s
  omega
theorem rw_cramf (H : rw_dat n ρ m α b ld nn) (hρ : ρ ≤ 4) {v : Nat → Int} (hv : rw_ker n ρ α v) :
    rw_det ρ α nn * rw_dot n (α ρ) v = rw_S m (fun k => rw_det (ρ + 1) α (rw_up nn ρ (ld k)) * v (ld k)) := by
  have s : rw_S n (fun c => rw_det (ρ + 1) α (rw_up nn ρ c) * v c) = rw_det ρ α nn * rw_dot n (α ρ) v := by
    have e1 : rw_S n (fun c => rw_det (ρ + 1) α (rw_up nn ρ c) * v c) = rw_S n (fun c => rw_det ρ α nn * (α ρ c * v c) + (-1) * rw_S ρ (fun i => α ρ (nn i) * (rw_det ρ α (rw_up nn i c) * v c))) := rw_S_congr fun c _ => by
      simp only [rw_det, rw_up_eq]
      have a1 : rw_det ρ α (rw_up nn ρ c) = rw_det ρ α nn := rw_det_congr fun x hx => rw_up_ne (by omega)
      have a2 : rw_S ρ (fun i => α ρ (rw_up nn ρ c i) * rw_det ρ α (rw_up (rw_up nn ρ c) i c)) = rw_S ρ (fun i => α ρ (nn i) * rw_det ρ α (rw_up nn i c)) := rw_S_congr fun i hi => by
        rw [rw_up_ne (show i ≠ ρ by omega), rw_det_congr (cs := rw_up (rw_up nn ρ c) i c) (ds := rw_up nn i c) (fun x hx => ?_)]
        unfold rw_up
        by_cases h : x = i
        · rw [if_pos h, if_pos h]
        · rw [if_neg h, if_neg h, if_neg (by omega)]
      have a3 : rw_S ρ (fun i => α ρ (nn i) * (rw_det ρ α (rw_up nn i c) * v c)) = v c * rw_S ρ (fun i => α ρ (nn i) * rw_det ρ α (rw_up nn i c)) := by
        rw [← rw_S_mul]; exact rw_S_congr fun i _ => by grind
      rw [a1, a2, a3]
      generalize rw_S ρ (fun i => α ρ (nn i) * rw_det ρ α (rw_up nn i c)) = T
      grind
    have z : rw_S ρ (fun j => rw_S n (fun i => α ρ (nn j) * (rw_det ρ α (rw_up nn j i) * v i))) = 0 := rw_S_zero fun i hi => by rw [rw_S_mul, rw_det_sum hv nn i hi, Int.mul_zero]
    rw [e1, rw_S_add, rw_S_mul, rw_S_mul, rw_S_comm, z]
    show _ * rw_dot n (α ρ) v + _ = _
    omega
  rw [← s, H.2.2.2.2.1 (fun c => rw_det (ρ + 1) α (rw_up nn ρ c) * v c)]
  rw [rw_S_zero (n := ρ) (fun i hi => by rw [rw_det_rep1 hρ hi, Int.zero_mul])]
  omega
/-- the numbers of a row at the leads -/
theorem rw_HNF_sum (H : rw_HNF n m b ld) {i : Nat} (hi : i < m) : rw_S m (fun k => ((b i (ld k)).natAbs : Int)) ≤ (rw_P m (fun k => (b k (ld k)).natAbs) : Nat) := by
  have pos : ∀ k, k < m → 0 < (b k (ld k)).natAbs := fun k hk => by have := (H k hk).2.2.1; omega
  have lo : ∀ t, t ≤ i → rw_S t (fun k => ((b i (ld k)).natAbs : Int)) = 0 := fun t ht => rw_S_zero fun k hk => by
    rw [(H i hi).2.1 (ld k) ((H i hi).2.2.2 k (by omega)).1]; rfl
  have up : ∀ t, i < t → t ≤ m → rw_S t (fun k => ((b i (ld k)).natAbs : Int)) ≤ (rw_P t (fun k => (b k (ld k)).natAbs) : Nat) := by
    intro t
    induction t with
    | zero => intro h; omega
    | succ t ih =>
      intro h1 h2
      simp only [rw_S, rw_P]
      have pp := rw_P_pos (m := t) (g := fun k => (b k (ld k)).natAbs) (fun k hk => pos k (by omega))
      have pt := pos t (by omega)
      by_cases e : t = i
      · subst e
        rw [lo t (Nat.le_refl _)]
        have : (b t (ld t)).natAbs ≤ rw_P t (fun k => (b k (ld k)).natAbs) * (b t (ld t)).natAbs := Nat.le_mul_of_pos_left _ pp
        omega
      · have := ih (by omega) (by omega)
        have r := ((H t (by omega)).2.2.2 i (by omega)).2
        generalize rw_P t (fun k => (b k (ld k)).natAbs) = P at *
        have hl : (b i (ld t)).natAbs + 1 ≤ (b t (ld t)).natAbs := by omega
        generalize (b t (ld t)).natAbs = l at *
        have hm : P + l ≤ P * l + 1 := by
          obtain ⟨p, rfl⟩ : ∃ p, P = p + 1 := ⟨P - 1, by omega⟩
          obtain ⟨q, rfl⟩ : ∃ q, l = q + 1 := ⟨l - 1, by omega⟩
          have : (p + 1) * (q + 1) = p * q + p + q + 1 := by grind
          rw [this]; omega
        omega
  exact up m hi (Nat.le_refl _)
theorem rw_sum_le {D : Int} {y : Int} {C : Nat} {E v : Nat → Int} (hD : D ≠ 0) (e : (D * y).natAbs = (rw_S m (fun k => E k * v k)).natAbs) (hE : ∀ k, k < m → (E k).natAbs ≤ C) (hs : rw_S m (fun k => ((v k).natAbs : Int)) ≤ D.natAbs) : y.natAbs ≤ C := by
  have t := rw_S_tri m (fun k => E k * v k)
  have t2 : rw_S m (fun k => ((E k * v k).natAbs : Int)) ≤ rw_S m (fun k => (C : Int) * ((v k).natAbs : Int)) := rw_S_le fun k hk => by
    rw [Int.natAbs_mul]
    have := Nat.mul_le_mul (hE k hk) (Nat.le_refl (v k).natAbs)
    rw [← Int.natCast_mul]
    exact Int.ofNat_le.mpr this
  rw [rw_S_mul] at t2
  have t3 : (C : Int) * rw_S m (fun k => ((v k).natAbs : Int)) ≤ (C : Int) * (D.natAbs : Int) := Int.mul_le_mul_of_nonneg_left hs (by omega)
  rw [← e, Int.natAbs_mul] at t
  have t4 : ((D.natAbs * y.natAbs : Nat) : Int) ≤ ((C * D.natAbs : Nat) : Int) := by rw [Int.natCast_mul C]; omega
  have t5 : D.natAbs * y.natAbs ≤ D.natAbs * C := by rw [Nat.mul_comm D.natAbs C]; omega
  exact Nat.le_of_mul_le_mul_left t5 (by omega)
/-- the numbers of the basis -/
theorem rw_dat_le (H : rw_dat n ρ m α b ld nn) (hρ : ρ ≤ 4) (ha : ∀ q c, q < ρ → (α q c).natAbs ≤ 20) {i : Nat} (hi : i < m) :
    (∀ k, k < m → (b i (ld k)).natAbs ≤ rw_dl ρ) ∧ (∀ j, j < ρ → (b i (nn j)).natAbs ≤ rw_dl ρ) := by
  have hd := rw_det_le ha nn
  have hs := rw_HNF_sum H.2.2.2.1 hi
  have hP := H.2.2.2.2.2
  constructor
  · intro k hk
    have : ((b i (ld k)).natAbs : Int) ≤ rw_S m (fun k => ((b i (ld k)).natAbs : Int)) := rw_S_term (g := fun k => ((b i (ld k)).natAbs : Int)) (fun _ _ => Int.natCast_nonneg _) hk
    omega
  · intro j hj
    refine rw_sum_le (m := m) (rw_dat_ne H) (E := fun k => rw_det ρ α (rw_up nn j (ld k))) (v := fun k => b i (ld k)) ?_ (fun k _ => rw_det_le ha _) (by omega)
    rw [rw_cram H hρ (H.2.1 i hi) hj, Int.natAbs_neg]
/-- the values of the next row -/
theorem rw_dat_F (H : rw_dat n ρ m α b ld nn) (hρ : ρ ≤ 4) (ha : ∀ q c, q < ρ + 1 → (α q c).natAbs ≤ 20) {i : Nat} (hi : i < m) : (rw_dot n (α ρ) (b i)).natAbs ≤ rw_dl (ρ + 1) := by
  have hs := rw_HNF_sum H.2.2.2.1 hi
  have hP := H.2.2.2.2.2
  refine rw_sum_le (m := m) (rw_dat_ne H) (E := fun k => rw_det (ρ + 1) α (rw_up nn ρ (ld k))) (v := fun k => b i (ld k)) ?_ (fun k _ => rw_det_le ha _) (by omega)
  rw [rw_cramf H hρ (H.2.1 i hi)]
end T2
