/-! LATTICES 15: one row of the system: from its basis to the next one, all numbers that decide are small -/
def rw_om (F G : Nat) : Nat → Nat
  | 0 => F
  | 1 => G
  | d + 2 => 2 * rw_om F G (d + 1) * rw_om F G (d + 1)
def rw_ze (F G μ : Nat) : Nat → Nat
  | 0 => 0
  | d + 1 => rw_ze F G μ d + μ * rw_ze F G μ d * rw_om F G (d + 1) + rw_om F G (d + 1)
def rw_ta (M X t0 F G μ : Nat) : Nat → Nat
  | 0 => t0
  | d + 1 => (M - d) * (rw_om F G d * rw_ta M X t0 F G μ d) * (if 3 < M - d then 1 else 0) + rw_ta M X t0 F G μ d + X + rw_ze F G μ d
/-- the basis, and beside it its parts in itself -/
def rw_xt (n : Nat) (b : Nat → Nat → Int) : Nat → Nat → Int := fun i c => if c < n then b i c else rw_u (c - n) i
theorem rw_xt_lo {n c : Nat} (b : Nat → Nat → Int) (i : Nat) (h : c < n) : rw_xt n b i c = b i c := by unfold rw_xt; rw [if_pos h]
theorem rw_xt_hi (n j : Nat) (b : Nat → Nat → Int) (i : Nat) : rw_xt n b i (n + j) = rw_u j i := by unfold rw_xt; rw [if_neg (by omega), Nat.add_sub_cancel_left]
theorem rw_u_comm (i j : Nat) : rw_u i j = rw_u j i := by
  unfold rw_u
  by_cases e : j = i
  · rw [if_pos e, if_pos e.symm]
  · rw [if_neg e, if_neg (fun h => e h.symm)]
theorem rw_u_abs (i j : Nat) : (rw_u i j).natAbs ≤ 1 := by unfold rw_u; split <;> decide
def rw_W1 (n m : Nat) (a : Nat → Int) (b : Nat → Nat → Int) : Nat → Nat → Int := fun i => rw_nar n m a (rw_xt n b) (i + 1)
section RG
variable {n m : Nat} {a : Nat → Int} {b : Nat → Nat → Int}
theorem rw_xt_dot : (fun i => rw_dot n a (rw_xt n b i)) = fun i => rw_dot n a (b i) := funext fun i => rw_dot_congr fun c hc => rw_xt_lo b i hc
theorem rw_W1_lin : rw_lin n m (m - 1) b (rw_W1 n m a b) := by
  intro i hi c hc
  exact rw_lin_ph (t := false) (s := m) (m := m) (f := fun i => rw_dot n a (rw_xt n b i)) (h := fun i => rw_xt n b i c) (x := fun j i => rw_xt n b i (n + j)) (b := fun j => b j c)
    (fun k hk => by
      rw [rw_xt_lo b k hc]
      have : rw_S m (fun j => rw_xt n b k (n + j) * b j c) = rw_S m (fun j => rw_u k j * b j c) := rw_S_congr fun j _ => by rw [rw_xt_hi, rw_u_comm]
      rw [this, rw_S_u hk (fun j => b j c)]) (i + 1) (by omega)
theorem rw_W1_le {F : Nat} (hF1 : 1 ≤ F) (hF : ∀ i, i < m → (rw_dot n a (b i)).natAbs ≤ F) {i j : Nat} (hi : i < m - 1) : (rw_W1 n m a b i (n + j)).natAbs ≤ F := by
  have B : rw_B2 m F (fun i => rw_dot n a (rw_xt n b i)) (fun i => rw_xt n b i (n + j)) := by
    rw [rw_xt_dot]
    refine ⟨fun i _ => ?_, fun i k hi hk => ?_⟩
    · show (rw_xt n b i (n + j)).natAbs ≤ F
      rw [rw_xt_hi]; have := rw_u_abs j i; omega
    · show (rw_xt n b i (n + j) * rw_dot n a (b k) - rw_xt n b k (n + j) * rw_dot n a (b i)).natAbs ≤ F
      rw [rw_xt_hi, rw_xt_hi]
      have f1 := hF i hi
      have f2 := hF k hk
      unfold rw_u
      by_cases e1 : i = j
      · by_cases e2 : k = j
        · have : i = k := by omega
          subst this
          rw [Int.sub_self]; exact Nat.zero_le _
        · rw [if_pos e1, if_neg e2]; omega
      · by_cases e2 : k = j
        · rw [if_neg e1, if_pos e2]; omega
        · rw [if_neg e1, if_neg e2]; omega
  exact (rw_B2_ph (t := false) (n := rw_fu m (fun i => rw_dot n a (rw_xt n b i))) B).1 (i + 1) (by omega)
theorem rw_D3_u {s F : Nat} {f : Nat → Int} (hF : ∀ i, i < s → (f i).natAbs ≤ F) {j k : Nat} (i1 i2 i3 : Nat) (h1 : i1 < s) (h2 : i2 < s) (h3 : i3 < s) : (rw_D3 f (rw_u j) (rw_u k) i1 i2 i3).natAbs ≤ F := by
  have a1 := hF i1 h1
  have a2 := hF i2 h2
  have a3 := hF i3 h3
  by_cases e12 : i1 = i2
  · subst e12
    have : rw_D3 f (rw_u j) (rw_u k) i1 i1 i3 = 0 := by simp only [rw_D3]; grind
    rw [this]; exact Nat.zero_le _
  by_cases e13 : i1 = i3
  · subst e13
    have : rw_D3 f (rw_u j) (rw_u k) i1 i2 i1 = 0 := by simp only [rw_D3]; grind
    rw [this]; exact Nat.zero_le _
  by_cases e23 : i2 = i3
  · subst e23
    have : rw_D3 f (rw_u j) (rw_u k) i1 i2 i2 = 0 := by simp only [rw_D3]; grind
    rw [this]; exact Nat.zero_le _
  simp only [rw_D3]
  have z : ∀ i l, i ≠ l → rw_u l i = 0 := fun i l h => by unfold rw_u; rw [if_neg h]
  have o : ∀ i, rw_u i i = 1 := fun i => by unfold rw_u; rw [if_pos rfl]
  by_cases j1 : i1 = j
  · subst j1
    rw [o, z i2 i1 (fun e => e12 e.symm), z i3 i1 (fun e => e13 e.symm)]
    by_cases k2 : i2 = k
    · subst k2
      rw [o, z i1 i2 e12, z i3 i2 (fun e => e23 e.symm)]; omega
    · rw [z i2 k k2]
      by_cases k3 : i3 = k
      · subst k3
        rw [o, z i1 i3 e13]; omega
      · rw [z i3 k k3]; omega
  rw [z i1 j j1]
  by_cases j2 : i2 = j
  · subst j2
    rw [o, z i3 i2 (fun e => e23 e.symm)]
    by_cases k1 : i1 = k
    · subst k1
      rw [o, z i3 i1 (fun e => e13 e.symm)]; omega
    · rw [z i1 k k1]
      by_cases k3 : i3 = k
      · subst k3
        rw [o]; omega
      · rw [z i3 k k3]; omega
  rw [z i2 j j2]
  by_cases j3 : i3 = j
  · subst j3
    rw [o]
    by_cases k1 : i1 = k
    · subst k1
      rw [o, z i2 i1 (fun e => e12 e.symm)]; omega
    · rw [z i1 k k1]
      by_cases k2 : i2 = k
      · subst k2
        rw [o]; omega
      · rw [z i2 k k2]; omega
  rw [z i3 j j3]
  omega
/-- the 2 x 2 minors behind narrow -/
theorem rw_W1_min {F G : Nat} (hF : ∀ i, i < m → (rw_dot n a (b i)).natAbs ≤ F) (hG : ∀ x : Nat, x * x * x ≤ F * F * F * (F * F) → x ≤ G) (hc : rw_cnt m (fun i => rw_dot n a (b i)) ≠ 0) {j k i1 i2 : Nat} (h1 : i1 < m - 1) (h2 : i2 < m - 1) :
    (rw_W1 n m a b i1 (n + j) * rw_W1 n m a b i2 (n + k) - rw_W1 n m a b i2 (n + j) * rw_W1 n m a b i1 (n + k)).natAbs ≤ G := by
  have e1 : ∀ j, (fun i => rw_xt n b i (n + j)) = rw_u j := fun j => funext fun i => rw_xt_hi n j b i
  have B : rw_B3 m (F * F * F * (F * F)) (fun i => rw_dot n a (b i)) (rw_u j) (rw_u k) := ⟨F, F, hF, fun x y z hx hy hz => rw_D3_u hF x y z hx hy hz, Nat.le_refl _⟩
  obtain ⟨A, K, p1, p2, p3⟩ := rw_B3_ph (t := false) (n := rw_fu m (fun i => rw_dot n a (b i))) B
  have w : ∀ i j, rw_W1 n m a b i (n + j) = rw_ph false m (rw_fu m (fun i => rw_dot n a (b i))) (fun i => rw_dot n a (b i)) (rw_u j) (i + 1) := fun i j => by
    show rw_PH false m (fun i => rw_dot n a (rw_xt n b i)) (fun i => rw_xt n b i (n + j)) (i + 1) = _
    rw [rw_xt_dot, e1]; rfl
  rw [w, w, w, w]
  have hm : 0 < m := by omega
  have d := p2 0 (i1 + 1) (i2 + 1) hm (by omega) (by omega)
  have f0 : rw_ph false m (rw_fu m (fun i => rw_dot n a (b i))) (fun i => rw_dot n a (b i)) (fun i => rw_dot n a (b i)) 0 ≠ 0 := rw_PH_ne0 hc
  have fz : ∀ i, 0 < i → i < m → rw_ph false m (rw_fu m (fun i => rw_dot n a (b i))) (fun i => rw_dot n a (b i)) (fun i => rw_dot n a (b i)) i = 0 := fun i x y => rw_PH_fin x y
  have f0A := p1 0 hm
  unfold rw_D3 at d
  rw [fz (i1 + 1) (by omega) (by omega), fz (i2 + 1) (by omega) (by omega), Int.zero_mul, Int.zero_mul, Int.sub_zero, Int.add_zero, Int.natAbs_mul] at d
  generalize rw_ph false m (rw_fu m (fun i => rw_dot n a (b i))) (fun i => rw_dot n a (b i)) (fun i => rw_dot n a (b i)) 0 = g at *
  generalize (rw_ph false m (rw_fu m (fun i => rw_dot n a (b i))) (fun i => rw_dot n a (b i)) (rw_u j) (i1 + 1) * rw_ph false m (rw_fu m (fun i => rw_dot n a (b i))) (fun i => rw_dot n a (b i)) (rw_u k) (i2 + 1)
    - rw_ph false m (rw_fu m (fun i => rw_dot n a (b i))) (fun i => rw_dot n a (b i)) (rw_u j) (i2 + 1) * rw_ph false m (rw_fu m (fun i => rw_dot n a (b i))) (fun i => rw_dot n a (b i)) (rw_u k) (i1 + 1)).natAbs = D at d ⊢
  have hDK : D ≤ K := Nat.le_trans (Nat.le_mul_of_pos_left D (show 0 < g.natAbs by omega)) d
  refine hG D (Nat.le_trans ?_ p3)
  have hA : 1 ≤ A * A := Nat.mul_le_mul (show 1 ≤ A by omega) (show 1 ≤ A by omega)
  have := Nat.mul_le_mul (Nat.mul_le_mul (Nat.mul_le_mul hDK hDK) hDK) hA
  rw [Nat.mul_one] at this
  exact this
end RG
/-! what is done stays as it is on the columns before -/
theorem rw_ordN_mono {m c t : Nat} {V : Nat → Nat → Int} : (rw_ordN m V c).2 ≤ (rw_ordN m V (c + t)).2 := by
  induction t with
  | zero => exact Nat.le_refl _
  | succ t ih =>
    refine Nat.le_trans ih ?_
    show _ ≤ (rw_ord1 m (c + t) (rw_ordN m V (c + t)).1 (rw_ordN m V (c + t)).2).2
    unfold rw_ord1
    split
    · exact Nat.le_refl _
    · exact Nat.le_succ _
theorem rw_keep {m c t : Nat} {V : Nat → Nat → Int} : (∀ i c', i < (rw_ordN m V c).2 → c' < c → (rw_ordN m V (c + t)).1 i c' = (rw_ordN m V c).1 i c') ∧ (∀ i c', (rw_ordN m V c).2 ≤ i → i < m → c' < c → (rw_ordN m V (c + t)).1 i c' = 0) := by
  induction t with
  | zero =>
    obtain ⟨⟨ld, h1, h2, h3⟩, -⟩ := rw_ordN_O (n := 0) (m := m) (c := c) (V := V)
    exact ⟨fun _ _ _ _ => rfl, fun i c' a b d => h3 i a b c' d⟩
  | succ t ih =>
    obtain ⟨k1, k2⟩ := ih
    have mono := rw_ordN_mono (m := m) (c := c) (t := t) (V := V)
    have e : rw_ordN m V (c + (t + 1)) = rw_ord1 m (c + t) (rw_ordN m V (c + t)).1 (rw_ordN m V (c + t)).2 := rfl
    rw [e]
    generalize (rw_ordN m V (c + t)).1 = W at *
    generalize (rw_ordN m V (c + t)).2 = d at *
    unfold rw_ord1
    by_cases hz : rw_cnt (m - d) (fun j => W (d + j) (c + t)) = 0
    · rw [if_pos hz]; exact ⟨k1, k2⟩
    · rw [if_neg hz]
      have sp := rw_lst_spec hz
      have g0 : ∀ l c', l < m - d → c' < c → rw_gat m d (c + t) W (d + l) c' = 0 := fun l c' hl hc' => by
        rw [rw_gat_hi]
        exact rw_ph_zero (fun i hi => k2 (d + i) c' (by omega) (by omega) hc') l hl
      have lo : ∀ i c', i < d → c' < c → rw_rdu d (c + t) (rw_gat m d (c + t) W) i c' = W i c' := fun i c' hi hc' => by
        unfold rw_rdu
        have z := g0 0 c' (by omega) hc'
        rw [Nat.add_zero] at z
        rw [if_pos hi, z, Int.mul_zero, Int.sub_zero, rw_gat_lo hi]
      have hi0 : ∀ i c', ¬ i < d → i < m → c' < c → rw_rdu d (c + t) (rw_gat m d (c + t) W) i c' = 0 := fun i c' hi him hc' => by
        unfold rw_rdu
        rw [if_neg hi]
        have z := g0 (i - d) c' (by omega) hc'
        rw [show d + (i - d) = i by omega] at z
        exact z
      refine ⟨fun i c' hi hc' => ?_, fun i c' hi him hc' => ?_⟩
      · show rw_rdu d (c + t) (rw_gat m d (c + t) W) i c' = _
        rw [lo i c' (by omega) hc']; exact k1 i c' hi hc'
      · show rw_rdu d (c + t) (rw_gat m d (c + t) W) i c' = 0
        by_cases hid : i < d
        · rw [lo i c' hid hc']; exact k2 i c' hi him hc'
        · exact hi0 i c' hid him hc'
