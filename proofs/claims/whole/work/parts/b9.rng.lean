/-! LATTICES 17: all numbers that decide, while order works, are below R -/
theorem rw_xco {n m D : Nat} {b : Nat → Nat → Int} {ld : Nat → Nat} (Hb : rw_HNF n m b ld) {v x : Nat → Int} (hv : ∀ c, c < n → v c = rw_S m (fun j => x j * b j c)) (hD : ∀ k, k < m → (v (ld k)).natAbs ≤ D) :
    ∀ k, k < m → (x k).natAbs ≤ 2 ^ k * D := by
  intro k
  induction k using Nat.strongRecOn with
  | ind k ih =>
    intro hk
    obtain ⟨b1, -, b3, b4⟩ := Hb k hk
    have e := hv (ld k) b1
    have e2 : rw_S m (fun j => x j * b j (ld k)) = rw_S (k + 1) (fun j => x j * b j (ld k)) := by
      rw [rw_S_spl (show k + 1 ≤ m by omega), rw_S_zero (n := m - (k + 1)) (fun j hj => by
        rw [(Hb (k + 1 + j) (by omega)).2.1 (ld k) ((Hb (k + 1 + j) (by omega)).2.2.2 k (by omega)).1, Int.mul_zero])]
      omega
    rw [e2] at e
    simp only [rw_S] at e
    -- the sum of the parts before
    have sum : ∀ t, t ≤ k → (rw_S t (fun j => x j * b j (ld k))).natAbs + D * (b k (ld k)).natAbs ≤ 2 ^ t * D * (b k (ld k)).natAbs := by
      intro t
      induction t with
      | zero => intro _; simp [rw_S]
      | succ t iht =>
        intro ht
        have h1 := iht (by omega)
        have h2 := ih t (by omega) (by omega)
        have h3 := (b4 t (by omega)).2
        have h4 : (x t * b t (ld k)).natAbs ≤ 2 ^ t * D * (b k (ld k)).natAbs := by
          rw [Int.natAbs_mul]; exact Nat.mul_le_mul h2 (by omega)
        have h5 : 2 ^ (t + 1) * D * (b k (ld k)).natAbs = 2 ^ t * D * (b k (ld k)).natAbs + 2 ^ t * D * (b k (ld k)).natAbs := by
          rw [Nat.pow_succ]; grind
        simp only [rw_S]
        rw [h5]
        omega
    have s := sum k (Nat.le_refl k)
    have d := hD k hk
    have l : 1 ≤ (b k (ld k)).natAbs := by omega
    have dl : D ≤ D * (b k (ld k)).natAbs := Nat.le_mul_of_pos_right D l
    have f : (x k * b k (ld k)).natAbs ≤ 2 ^ k * D * (b k (ld k)).natAbs := by omega
    rw [Int.natAbs_mul] at f
    exact Nat.le_of_mul_le_mul_right f l
section RA
variable {n m F G μ X' M t0 Δ Δ' R : Nat} {a : Nat → Int} {b : Nat → Nat → Int} {ld : Nat → Nat}
theorem rw_range (Hb : rw_HNF n m b ld) (hF1 : 1 ≤ F) (hFG : F ≤ G) (hF : ∀ i, i < m → (rw_dot n a (b i)).natAbs ≤ F) (hG : ∀ x : Nat, x * x * x ≤ F * F * F * (F * F) → x ≤ G) (hc : rw_cnt m (fun i => rw_dot n a (b i)) ≠ 0)
    (hμ : ∀ k, k < m → rw_S m (fun j => ((b j (ld k)).natAbs : Int)) ≤ μ * (b k (ld k)).natAbs)
    (hX : ∀ i j, i < m - 1 → j < m → ((rw_ordN (m - 1) (rw_W1 n m a b) n).1 i (n + j)).natAbs ≤ X') (hdot : ∀ i, i < m - 1 → rw_dot n a ((rw_ordN (m - 1) (rw_W1 n m a b) n).1 i) = 0)
    (ht1 : X' ≤ t0) (ht2 : 3 < m → m * (F * X') ≤ t0) (hM : m - 1 ≤ M) (hΔ : ∀ k, k < m → (b k (ld k)).natAbs ≤ Δ) (hΔ' : ∀ i c, i < m - 1 → c < n → ((rw_ordN (m - 1) (rw_W1 n m a b) n).1 i c).natAbs ≤ Δ')
    (hR1 : ∀ d, d + 2 ≤ m - 1 → rw_om F G d * Δ ≤ R ∧ μ * rw_ze F G μ d * Δ ≤ R) (hR2 : ∀ d, d + 1 = m - 1 → Δ' + rw_ta M X' t0 F G μ d * Δ' ≤ R) {c : Nat} (hcn : c < n)
    (hz : rw_cnt (m - 1 - (rw_ordN (m - 1) (rw_W1 n m a b) c).2) (fun j => (rw_ordN (m - 1) (rw_W1 n m a b) c).1 ((rw_ordN (m - 1) (rw_W1 n m a b) c).2 + j) c) ≠ 0) :
    ∀ i, i < m - 1 → ((rw_ordN (m - 1) (rw_W1 n m a b) c).1 i c).natAbs ≤ R := by
  have J := rw_J_chain Hb hF1 hFG hF hG hc hμ hX hdot ht1 ht2 hM c (by omega)
  have hlin := rw_lin_ord (c := c) (rw_W1_lin (n := n) (m := m) (a := a) (b := b))
  obtain ⟨⟨ldW, o1, o2, o3⟩, -⟩ := rw_ordN_O (n := n) (m := m - 1) (c := c) (V := rw_W1 n m a b)
  have kp := rw_keep (m := m - 1) (c := c + 1) (t := n - (c + 1)) (V := rw_W1 n m a b)
  rw [show c + 1 + (n - (c + 1)) = n by omega] at kp
  have e : rw_ordN (m - 1) (rw_W1 n m a b) (c + 1) = rw_ord1 (m - 1) c (rw_ordN (m - 1) (rw_W1 n m a b) c).1 (rw_ordN (m - 1) (rw_W1 n m a b) c).2 := rfl
  rw [e] at kp
  generalize (rw_ordN (m - 1) (rw_W1 n m a b) n).1 = b' at *
  generalize (rw_ordN (m - 1) (rw_W1 n m a b) c).1 = W at *
  generalize (rw_ordN (m - 1) (rw_W1 n m a b) c).2 = d at *
  unfold rw_ord1 at kp
  rw [if_neg hz] at kp
  have sp := rw_lst_spec hz
  obtain ⟨k, hk, ek, hcol⟩ := rw_lin_col Hb hlin hcn (fun i hi1 hi2 => o3 i hi1 hi2) hz
  obtain ⟨J1, J2, J3⟩ := J
  intro i hi
  by_cases hs : d + 2 ≤ m - 1
  · obtain ⟨r1, r2⟩ := hR1 d hs
    have lk := hΔ k hk
    rw [ek] at lk
    by_cases hid : i < d
    · have hmu := hμ k hk
      rw [ek] at hmu
      have v := rw_val_le (k := k) (ζ := rw_ze F G μ d) (μ := μ) hlin hi hcn (fun j hj => J2 i j hid hj) hmu
      exact Nat.le_trans v (Nat.le_trans (Nat.mul_le_mul (Nat.le_refl _) lk) r2)
    · rw [hcol i (by omega) hi, Int.natAbs_mul, Nat.mul_comm]
      exact Nat.le_trans (Nat.mul_le_mul (J1 i k (by omega) hi hk) lk) r1
  · have hd1 : d + 1 = m - 1 := by omega
    have r := hR2 d hd1
    have es : m - 1 - d = 1 := by omega
    -- the last row
    have last : (W d c).natAbs ≤ Δ' := by
      obtain ⟨T, hT, -⟩ := J3 d (by omega)
      have ed := hT c (by omega)
      rw [if_neg (Nat.lt_irrefl d), es] at ed
      simp only [rw_S, Nat.add_zero, Int.zero_add] at ed
      have bd := hΔ' d c (by omega) hcn
      have pos : 0 < b' d c := by
        rw [kp.1 d c (Nat.lt_succ_self d) (Nat.lt_succ_self c)]
        show 0 < rw_rdu d c (rw_gat (m - 1) d c W) d c
        unfold rw_rdu
        rw [if_neg (Nat.lt_irrefl d)]
        have := rw_gat_hi (m := m - 1) (d := d) (c := c) (j := 0) (V := W) (c' := c)
        rw [Nat.add_zero] at this
        rw [this]; exact rw_PH_pos hz
      have ne : T 0 ≠ 0 := by
        intro h
        rw [h, Int.zero_mul] at ed
        omega
      have : (b' d c).natAbs = (T 0).natAbs * (W d c).natAbs := by rw [ed, Int.natAbs_mul]
      have : (W d c).natAbs ≤ (T 0).natAbs * (W d c).natAbs := Nat.le_mul_of_pos_left _ (by omega)
      omega
    by_cases hid : i < d
    · obtain ⟨T, hT, hTb⟩ := J3 i hi
      have ei := hT c (by omega)
      rw [if_pos hid, es] at ei
      simp only [rw_S, Nat.add_zero, Int.zero_add] at ei
      have tb := hTb 0 (by omega)
      have bi := hΔ' i c hi hcn
      have tw : (T 0 * W d c).natAbs ≤ rw_ta M X' t0 F G μ d * Δ' := by rw [Int.natAbs_mul]; exact Nat.mul_le_mul tb last
      omega
    · have : i = d := by omega
      subst this
      omega
end RA
