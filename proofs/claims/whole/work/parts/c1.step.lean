/-! LATTICES 18: one row of the system, with its numbers -/
theorem rw_cov_ex {n ρ m c : Nat} {ld nn : Nat → Nat} (h : ∀ g : Nat → Int, rw_S n g = rw_S m (fun k => g (ld k)) + rw_S ρ (fun j => g (nn j))) (hc : c < n) : (∃ k, k < m ∧ ld k = c) ∨ (∃ j, j < ρ ∧ nn j = c) := by
  apply Classical.byContradiction
  intro hn
  have e := h (fun x => rw_u c x * 1)
  rw [rw_S_u hc (fun _ => 1), rw_S_zero (n := m) (fun k hk => by
    unfold rw_u
    rw [if_neg (fun e => hn (Or.inl ⟨k, hk, e⟩)), Int.zero_mul]), rw_S_zero (n := ρ) (fun j hj => by
    unfold rw_u
    rw [if_neg (fun e => hn (Or.inr ⟨j, hj, e⟩)), Int.zero_mul])] at e
  omega
theorem rw_cov_n {n ρ m : Nat} {ld nn : Nat → Nat} (h : ∀ g : Nat → Int, rw_S n g = rw_S m (fun k => g (ld k)) + rw_S ρ (fun j => g (nn j))) : n = m + ρ := by
  have one : ∀ k, rw_S k (fun _ => (1 : Int)) = k := fun k => by
    induction k with
    | zero => rfl
    | succ k ih => simp only [rw_S]; rw [ih]; omega
  have e := h (fun _ => 1)
  rw [one, one, one] at e
  omega
section ST
variable {n ρ m : Nat} {α b : Nat → Nat → Int} {ld nn : Nat → Nat}
theorem rw_dat_all (H : rw_dat n ρ m α b ld nn) (hρ : ρ ≤ 4) (ha : ∀ q c, q < ρ → (α q c).natAbs ≤ 20) {i c : Nat} (hi : i < m) (hc : c < n) : (b i c).natAbs ≤ rw_dl ρ := by
  obtain ⟨h1, h2⟩ := rw_dat_le H hρ ha hi
  rcases rw_cov_ex H.2.2.2.2.1 hc with ⟨k, hk, e⟩ | ⟨j, hj, e⟩
  · rw [← e]; exact h1 k hk
  · rw [← e]; exact h2 j hj
theorem rw_mu_m (H : rw_HNF n m b ld) {k : Nat} (hk : k < m) : rw_S m (fun j => ((b j (ld k)).natAbs : Int)) ≤ (m : Nat) * ((b k (ld k)).natAbs : Nat) := by
  have := rw_S_abs (n := m) (M := (b k (ld k)).natAbs) (g := fun j => ((b j (ld k)).natAbs : Int)) (fun j hj => by
    rw [Int.natAbs_natCast]
    rcases Nat.lt_trichotomy j k with h | h | h
    · have := ((H k hk).2.2.2 j h).2; omega
    · rw [h]; exact Nat.le_refl _
    · rw [(H j hj).2.1 (ld k) ((H j hj).2.2.2 k h).1]; exact Nat.zero_le _)
  have e : ((m * (b k (ld k)).natAbs : Nat) : Int) = (m : Int) * ((b k (ld k)).natAbs : Int) := Int.natCast_mul _ _
  omega
theorem rw_mu_1 (H : rw_HNF n m b ld) (h1 : ∀ k, k < m → (b k (ld k)).natAbs = 1) {k : Nat} (hk : k < m) : rw_S m (fun j => ((b j (ld k)).natAbs : Int)) ≤ (1 : Nat) * ((b k (ld k)).natAbs : Nat) := by
  rw [rw_S_one (i := k) hk (fun j hj hne => by
    rcases Nat.lt_or_ge j k with h | h
    · have := ((H k hk).2.2.2 j h).2
      have := h1 k hk
      omega
    · rw [(H j hj).2.1 (ld k) ((H j hj).2.2.2 k (by omega)).1]; rfl)]
  omega
theorem rw_free_congr {V W : Nat → Nat → Int} (h : ∀ i c, c < n → V i c = W i c) (H : rw_free n m V) : rw_free n m W := by
  intro X hX
  exact H X (fun c hc => by rw [← hX c hc]; exact rw_S_congr fun i _ => by rw [h i c hc])
/-- one row: the numbers that decide are at most R, and the next basis is again such -/
theorem rw_row {F G μ X' M t0 R : Nat} (H : rw_dat n ρ m α b ld nn) (hρ : ρ ≤ 3) (ha : ∀ q c, q < ρ + 1 → (α q c).natAbs ≤ 20) (hc : rw_cnt m (fun i => rw_dot n (α ρ) (b i)) ≠ 0)
    (eF : rw_dl (ρ + 1) = F) (hF1 : 1 ≤ F) (hFG : F ≤ G) (hG : ∀ x : Nat, x * x * x ≤ F * F * F * (F * F) → x ≤ G) (hμ : ∀ k, k < m → rw_S m (fun j => ((b j (ld k)).natAbs : Int)) ≤ μ * (b k (ld k)).natAbs)
    (hX : 2 ^ m * F ≤ X') (ht1 : X' ≤ t0) (ht2 : 3 < m → m * (F * X') ≤ t0) (hM : m - 1 ≤ M)
    (hR1 : ∀ d, d + 2 ≤ m - 1 → rw_om F G d * rw_dl ρ ≤ R ∧ μ * rw_ze F G μ d * rw_dl ρ ≤ R) (hR2 : ∀ d, d + 1 = m - 1 → F + rw_ta M X' t0 F G μ d * F ≤ R) :
    (∃ ld' nn', rw_dat n (ρ + 1) (m - 1) α (rw_stp n (α ρ) b m).1 ld' nn') ∧ ∀ c, c < n →
      rw_cnt (m - 1 - (rw_ordN (m - 1) (fun i => rw_nar n m (α ρ) b (i + 1)) c).2) (fun j => (rw_ordN (m - 1) (fun i => rw_nar n m (α ρ) b (i + 1)) c).1 ((rw_ordN (m - 1) (fun i => rw_nar n m (α ρ) b (i + 1)) c).2 + j) c) ≠ 0 →
      ∀ i, i < m - 1 → ((rw_ordN (m - 1) (fun i => rw_nar n m (α ρ) b (i + 1)) c).1 i c).natAbs ≤ R := by
  have hm : 0 < m := by have := (rw_lst_spec hc).1; omega
  have B : rw_bas n ρ α b m := ⟨H.1, H.2.1, H.2.2.1, ld, H.2.2.2.1⟩
  have B' := rw_bas_step B
  have es : rw_stp n (α ρ) b m = ((rw_ordN (m - 1) (fun i => rw_nar n m (α ρ) b (i + 1)) n).1, m - 1) := by unfold rw_stp; rw [if_neg hc]
  rw [es] at B' ⊢
  obtain ⟨f1, f2, f3, ld', f4⟩ := B'
  obtain ⟨p, -, -, -, -, D'⟩ := rw_dat_step H (by omega) hc f1 f2 f3 f4
  refine ⟨⟨ld', _, D'⟩, fun c hcn => ?_⟩
  -- the same beside the parts
  have ex : ∀ i c, c < n → (fun i => rw_nar n m (α ρ) b (i + 1)) i c = rw_W1 n m (α ρ) b i c := fun i c h => rw_nar_ext (fun i c h => (rw_xt_lo b i h).symm) (i + 1) c h
  have ex' : ∀ c, c ≤ n → (rw_ordN (m - 1) (fun i => rw_nar n m (α ρ) b (i + 1)) c).2 = (rw_ordN (m - 1) (rw_W1 n m (α ρ) b) c).2 ∧ ∀ i c', c' < n → (rw_ordN (m - 1) (fun i => rw_nar n m (α ρ) b (i + 1)) c).1 i c' = (rw_ordN (m - 1) (rw_W1 n m (α ρ) b) c).1 i c' := fun c hc => rw_ordN_ext hc ex
  obtain ⟨x1, x2⟩ := ex' c (by omega)
  obtain ⟨-, y2⟩ := ex' n (Nat.le_refl n)
  have hD : ∀ i c, i < m - 1 → c < n → ((rw_ordN (m - 1) (rw_W1 n m (α ρ) b) n).1 i c).natAbs ≤ F := fun i c hi hc => by
    rw [← y2 i c hc, ← eF]
    exact rw_dat_all D' (by omega) ha hi hc
  have hlin := rw_lin_ord (c := n) (rw_W1_lin (n := n) (m := m) (a := α ρ) (b := b))
  have hXX : ∀ i j, i < m - 1 → j < m → ((rw_ordN (m - 1) (rw_W1 n m (α ρ) b) n).1 i (n + j)).natAbs ≤ X' := fun i j hi hj => by
    have := rw_xco H.2.2.2.1 (x := fun j => (rw_ordN (m - 1) (rw_W1 n m (α ρ) b) n).1 i (n + j)) (fun c hc => hlin i hi c hc) (D := F) (fun k hk => hD i (ld k) hi (H.2.2.2.1 k hk).1) j hj
    have p2 : 2 ^ j ≤ 2 ^ m := Nat.pow_le_pow_right (by omega) (by omega)
    exact Nat.le_trans this (Nat.le_trans (Nat.mul_le_mul p2 (Nat.le_refl _)) hX)
  have hdot : ∀ i, i < m - 1 → rw_dot n (α ρ) ((rw_ordN (m - 1) (rw_W1 n m (α ρ) b) n).1 i) = 0 := fun i hi => by
    rw [← rw_dot_congr (fun c hc => y2 i c hc)]
    exact f2 i hi ρ (by omega)
  have hFF : ∀ i, i < m → (rw_dot n (α ρ) (b i)).natAbs ≤ F := fun i hi => by rw [← eF]; exact rw_dat_F H (by omega) ha hi
  have hΔ : ∀ k, k < m → (b k (ld k)).natAbs ≤ rw_dl ρ := fun k hk => (rw_dat_le H (by omega) (fun q c hq => ha q c (by omega)) hk).1 k hk
  have rg := rw_range (R := R) (Δ := rw_dl ρ) (Δ' := F) H.2.2.2.1 hF1 hFG hFF hG hc hμ hXX hdot ht1 ht2 hM hΔ hD hR1 hR2 hcn
  intro hz i hi
  rw [x1] at hz
  have ez : (fun j => (rw_ordN (m - 1) (fun i => rw_nar n m (α ρ) b (i + 1)) c).1 ((rw_ordN (m - 1) (rw_W1 n m (α ρ) b) c).2 + j) c) = fun j => (rw_ordN (m - 1) (rw_W1 n m (α ρ) b) c).1 ((rw_ordN (m - 1) (rw_W1 n m (α ρ) b) c).2 + j) c := funext fun j => x2 _ c hcn
  rw [ez] at hz
  rw [x2 i c hcn]
  exact rg hz i hi
end ST
