/-! LATTICES 16: one row of the system, its columns one behind another -/
theorem rw_om_pos {F G : Nat} (hF : 1 ≤ F) (hG : 1 ≤ G) : ∀ d, 1 ≤ rw_om F G d
  | 0 => hF
  | 1 => hG
  | d + 2 => by
    have h := rw_om_pos hF hG (d + 1)
    simp only [rw_om]
    have := Nat.mul_le_mul (Nat.mul_le_mul (show 1 ≤ 2 by omega) h) h
    omega
theorem rw_ord_d0 {m c : Nat} {V : Nat → Nat → Int} (h : (rw_ordN m V c).2 = 0) : (rw_ordN m V c).1 = V := by
  induction c with
  | zero => rfl
  | succ c ih =>
    have e : rw_ordN m V (c + 1) = rw_ord1 m c (rw_ordN m V c).1 (rw_ordN m V c).2 := rfl
    rw [e] at h ⊢
    unfold rw_ord1 at h ⊢
    by_cases hz : rw_cnt (m - (rw_ordN m V c).2) (fun j => (rw_ordN m V c).1 ((rw_ordN m V c).2 + j) c) = 0
    · rw [if_pos hz] at h ⊢; exact ih h
    · rw [if_neg hz] at h
      have h' : (rw_ordN m V c).2 + 1 = 0 := h
      omega
section CH
variable {n m F G μ X' M t0 : Nat} {a : Nat → Int} {b : Nat → Nat → Int} {ld : Nat → Nat}
theorem rw_J_zero (hF1 : 1 ≤ F) (hF : ∀ i, i < m → (rw_dot n a (b i)).natAbs ≤ F) (hc : rw_cnt m (fun i => rw_dot n a (b i)) ≠ 0)
    (hX : ∀ i j, i < m - 1 → j < m → ((rw_ordN (m - 1) (rw_W1 n m a b) n).1 i (n + j)).natAbs ≤ X') (hdot : ∀ i, i < m - 1 → rw_dot n a ((rw_ordN (m - 1) (rw_W1 n m a b) n).1 i) = 0)
    (ht1 : X' ≤ t0) (ht2 : 3 < m → m * (F * X') ≤ t0) : rw_J n m (m - 1) 0 (rw_W1 n m a b) (rw_ordN (m - 1) (rw_W1 n m a b) n).1 F 0 t0 := by
  have hlin := rw_lin_ord (c := n) (rw_W1_lin (n := n) (m := m) (a := a) (b := b))
  generalize (rw_ordN (m - 1) (rw_W1 n m a b) n).1 = b' at *
  have hm : 0 < m := by have := (rw_lst_spec hc).1; omega
  refine ⟨fun i j _ hi _ => rw_W1_le hF1 hF hi, fun i j hi _ => absurd hi (Nat.not_lt_zero i), fun i hi => ?_⟩
  have bx : ∀ c, c < n + m → b' i c = rw_S m (fun j => b' i (n + j) * rw_xt n b j c) := by
    intro c hcn
    by_cases h : c < n
    · rw [hlin i hi c h]
      exact rw_S_congr fun j _ => by rw [rw_xt_lo b j h]
    · have e : c = n + (c - n) := by omega
      rw [e]
      have : rw_S m (fun j => b' i (n + j) * rw_xt n b j (n + (c - n))) = rw_S m (fun j => rw_u (c - n) j * b' i (n + j)) := rw_S_congr fun j _ => by rw [rw_xt_hi, Int.mul_comm]
      rw [this, rw_S_u (show c - n < m by omega) (fun j => b' i (n + j))]
  have fx : rw_S m (fun j => b' i (n + j) * rw_dot n a (b j)) = 0 := by
    rw [← rw_dot_S, ← hdot i hi]
    exact rw_dot_congr fun c h => (hlin i hi c h).symm
  have pr : ∀ c, rw_S m (fun l => rw_phX false m (rw_fu m (fun i => rw_dot n a (b i))) (fun i => rw_dot n a (b i)) (fun j => b' i (n + j)) l * rw_nar n m a (rw_xt n b) l c) = rw_S m (fun j => b' i (n + j) * rw_xt n b j c) := fun c => by
    have := rw_pair_ph (t := false) (s := m) (n := rw_fu m (fun i => rw_dot n a (b i))) (f := fun i => rw_dot n a (b i)) (X := fun j => b' i (n + j)) (h := fun j => rw_xt n b j c)
    unfold rw_pair at this
    rw [← this]
    refine rw_S_congr fun l _ => ?_
    show _ * rw_PH false m (fun i => rw_dot n a (rw_xt n b i)) (fun j => rw_xt n b j c) l = _
    rw [rw_xt_dot]; rfl
  have T0 : rw_phX false m (rw_fu m (fun i => rw_dot n a (b i))) (fun i => rw_dot n a (b i)) (fun j => b' i (n + j)) 0 = 0 := by
    have p := rw_pair_ph (t := false) (s := m) (n := rw_fu m (fun i => rw_dot n a (b i))) (f := fun i => rw_dot n a (b i)) (X := fun j => b' i (n + j)) (h := fun i => rw_dot n a (b i))
    unfold rw_pair at p
    rw [fx, rw_S_succ0 hm, rw_S_zero (n := m - 1) (fun l hl => by
      rw [show rw_ph false m (rw_fu m (fun i => rw_dot n a (b i))) (fun i => rw_dot n a (b i)) (fun i => rw_dot n a (b i)) (l + 1) = 0 from rw_PH_fin (by omega) (by omega), Int.mul_zero]), Int.add_zero] at p
    rcases Int.mul_eq_zero.mp p with h | h
    · exact h
    · exact absurd h (rw_PH_ne0 hc)
  have Tb : ∀ l, l < m → (rw_phX false m (rw_fu m (fun i => rw_dot n a (b i))) (fun i => rw_dot n a (b i)) (fun j => b' i (n + j)) l).natAbs ≤ t0 := by
    by_cases h3 : m ≤ 3
    · exact (rw_B4_ph (t := false) (φ := 0) (M := t0) h3 (Nat.zero_le _) ⟨fx, fun l hl => Nat.le_trans (hX i l hi hl) ht1⟩).2
    · have q : rw_QQ m (fun i => rw_dot n a (b i)) (fun j => b' i (n + j)) ≤ (t0 : Int) := by
        have u := rw_S_abs (n := m) (M := F * X') (g := fun l => (((rw_dot n a (b l)).natAbs * (b' i (n + l)).natAbs : Nat) : Int)) (fun l hl => by
          rw [Int.natAbs_natCast]
          exact Nat.mul_le_mul (hF l hl) (hX i l hi hl))
        have := ht2 (by omega)
        show rw_S m (fun l => (((rw_dot n a (b l)).natAbs * (b' i (n + l)).natAbs : Nat) : Int)) ≤ (t0 : Int)
        omega
      intro l hl
      have := (rw_BX_ph (t := false) (n := rw_fu m (fun i => rw_dot n a (b i))) (R := (t0 : Int)) (Int.le_refl _) ⟨q, fun l hl => by have := hX i l hi hl; omega⟩).2 l hl
      omega
  refine ⟨fun l => rw_phX false m (rw_fu m (fun i => rw_dot n a (b i))) (fun i => rw_dot n a (b i)) (fun j => b' i (n + j)) (l + 1), fun c hcn => ?_, fun l hl => Tb (l + 1) (by omega)⟩
  rw [bx c hcn, ← pr c, rw_S_succ0 hm, T0, Int.zero_mul, Int.zero_add, if_neg (Nat.not_lt_zero i), Int.zero_add]
  refine rw_S_congr fun l _ => ?_
  rw [Nat.zero_add]
  rfl
theorem rw_J_chain (Hb : rw_HNF n m b ld) (hF1 : 1 ≤ F) (hFG : F ≤ G) (hF : ∀ i, i < m → (rw_dot n a (b i)).natAbs ≤ F) (hG : ∀ x : Nat, x * x * x ≤ F * F * F * (F * F) → x ≤ G) (hc : rw_cnt m (fun i => rw_dot n a (b i)) ≠ 0)
    (hμ : ∀ k, k < m → rw_S m (fun j => ((b j (ld k)).natAbs : Int)) ≤ μ * (b k (ld k)).natAbs)
    (hX : ∀ i j, i < m - 1 → j < m → ((rw_ordN (m - 1) (rw_W1 n m a b) n).1 i (n + j)).natAbs ≤ X') (hdot : ∀ i, i < m - 1 → rw_dot n a ((rw_ordN (m - 1) (rw_W1 n m a b) n).1 i) = 0)
    (ht1 : X' ≤ t0) (ht2 : 3 < m → m * (F * X') ≤ t0) (hM : m - 1 ≤ M) : ∀ c, c ≤ n →
    rw_J n m (m - 1) (rw_ordN (m - 1) (rw_W1 n m a b) c).2 (rw_ordN (m - 1) (rw_W1 n m a b) c).1 (rw_ordN (m - 1) (rw_W1 n m a b) n).1
      (rw_om F G (rw_ordN (m - 1) (rw_W1 n m a b) c).2) (rw_ze F G μ (rw_ordN (m - 1) (rw_W1 n m a b) c).2) (rw_ta M X' t0 F G μ (rw_ordN (m - 1) (rw_W1 n m a b) c).2) := by
  intro c
  induction c with
  | zero => intro _; exact rw_J_zero hF1 hF hc hX hdot ht1 ht2
  | succ c ih =>
    intro hcn
    have J := ih (by omega)
    have hlin := rw_lin_ord (c := c) (rw_W1_lin (n := n) (m := m) (a := a) (b := b))
    obtain ⟨⟨ldW, o1, o2, o3⟩, -⟩ := rw_ordN_O (n := n) (m := m - 1) (c := c) (V := rw_W1 n m a b)
    have kp := rw_keep (m := m - 1) (c := c + 1) (t := n - (c + 1)) (V := rw_W1 n m a b)
    rw [show c + 1 + (n - (c + 1)) = n by omega] at kp
    have d0 := rw_ord_d0 (m := m - 1) (c := c) (V := rw_W1 n m a b)
    have e : rw_ordN (m - 1) (rw_W1 n m a b) (c + 1) = rw_ord1 (m - 1) c (rw_ordN (m - 1) (rw_W1 n m a b) c).1 (rw_ordN (m - 1) (rw_W1 n m a b) c).2 := rfl
    rw [e] at kp ⊢
    generalize (rw_ordN (m - 1) (rw_W1 n m a b) n).1 = b' at *
    generalize (rw_ordN (m - 1) (rw_W1 n m a b) c).1 = W at *
    generalize (rw_ordN (m - 1) (rw_W1 n m a b) c).2 = d at *
    unfold rw_ord1 at kp ⊢
    by_cases hz : rw_cnt (m - 1 - d) (fun j => W (d + j) c) = 0
    · rw [if_pos hz]; exact J
    · rw [if_neg hz] at kp ⊢
      obtain ⟨k, hk, ek, hcol⟩ := rw_lin_col Hb hlin (show c < n by omega) (fun i hi1 hi2 => o3 i hi1 hi2) hz
      have hl := (Hb k hk).2.2.1
      have hmu := hμ k hk
      rw [ek] at hl hmu
      have om1 := rw_om_pos hF1 (show 1 ≤ G by omega) d
      refine rw_J_step (μ := μ) (X' := X') hlin (by omega) hk hl hz hcol hmu (fun i hi => kp.1 i c hi (by omega)) (fun i hi1 hi2 => kp.2 i c (by show d + 1 ≤ i; omega) hi2 (by omega)) hX J ?_ ?_ ?_ ?_ ?_ ?_
      · intro j hj
        obtain ⟨J1, -, -⟩ := J
        by_cases hd0 : d = 0
        · have eW := d0 hd0
          subst hd0
          subst eW
          refine ⟨fun i hi => ?_, fun i i' hi hi' => ?_⟩
          · show (rw_W1 n m a b (0 + i) (n + j)).natAbs ≤ G
            rw [Nat.zero_add]
            exact Nat.le_trans (rw_W1_le hF1 hF (by omega)) hFG
          · show (rw_W1 n m a b (0 + i) (n + j) * rw_W1 n m a b (0 + i') (n + k) - rw_W1 n m a b (0 + i') (n + j) * rw_W1 n m a b (0 + i) (n + k)).natAbs ≤ G
            rw [Nat.zero_add, Nat.zero_add]
            exact rw_W1_min hF hG hc (by omega) (by omega)
        · obtain ⟨d', rfl⟩ : ∃ d', d = d' + 1 := ⟨d - 1, by omega⟩
          have q : rw_om F G (d' + 1 + 1) = 2 * rw_om F G (d' + 1) * rw_om F G (d' + 1) := rfl
          rw [q]
          generalize rw_om F G (d' + 1) = Ω at *
          have sq : Ω ≤ Ω * Ω := Nat.le_mul_of_pos_left Ω (by omega)
          have e2 : 2 * Ω * Ω = Ω * Ω + Ω * Ω := by rw [Nat.mul_assoc, Nat.two_mul]
          rw [e2]
          refine ⟨fun i hi => ?_, fun i i' hi hi' => ?_⟩
          · show (W (d' + 1 + i) (n + j)).natAbs ≤ Ω * Ω + Ω * Ω
            have := J1 (d' + 1 + i) j (by omega) (by omega) hj; omega
          · show (W (d' + 1 + i) (n + j) * W (d' + 1 + i') (n + k) - W (d' + 1 + i') (n + j) * W (d' + 1 + i) (n + k)).natAbs ≤ Ω * Ω + Ω * Ω
            have a1 : (W (d' + 1 + i) (n + j) * W (d' + 1 + i') (n + k)).natAbs ≤ Ω * Ω := by
              rw [Int.natAbs_mul]; exact Nat.mul_le_mul (J1 _ j (by omega) (by omega) hj) (J1 _ k (by omega) (by omega) hk)
            have a2 : (W (d' + 1 + i') (n + j) * W (d' + 1 + i) (n + k)).natAbs ≤ Ω * Ω := by
              rw [Int.natAbs_mul]; exact Nat.mul_le_mul (J1 _ j (by omega) (by omega) hj) (J1 _ k (by omega) (by omega) hk)
            omega
      · simp only [rw_ze]; omega
      · simp only [rw_ze]; omega
      · simp only [rw_ta]; omega
      · intro h3
        simp only [rw_ta]
        rw [if_pos (by omega), Nat.mul_one]
        have := Nat.mul_le_mul (show m - 1 - d ≤ M - d by omega) (Nat.le_refl (rw_om F G d * rw_ta M X' t0 F G μ d))
        omega
      · intro _
        simp only [rw_ta]; omega
end CH
