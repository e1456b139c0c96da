/-! LATTICES 14: how large the numbers become while order works -/
theorem rw_flo {v L : Int} {A : Nat} (hL : 0 < L) (h1 : v ≤ A * L) (h2 : -(A * L) ≤ v) : (v / L).natAbs ≤ A := by
  have u : v / L ≤ A := by
    have := Int.ediv_le_ediv hL h1
    rw [Int.mul_ediv_cancel _ (by omega)] at this
    exact this
  have l : -(A : Int) ≤ v / L := by
    rw [Int.le_ediv_iff_mul_le hL, Int.neg_mul]
    exact h2
  omega
/-- the rows that are left are at most Ω in their parts, those that are done ζ; the rows b' of the end are those that are done and at most τ times those that are left -/
def rw_J (n m m1 d : Nat) (W b' : Nat → Nat → Int) (Ω ζ τ : Nat) : Prop :=
  (∀ i j, d ≤ i → i < m1 → j < m → (W i (n + j)).natAbs ≤ Ω) ∧ (∀ i j, i < d → j < m → (W i (n + j)).natAbs ≤ ζ)
  ∧ ∀ i, i < m1 → ∃ T : Nat → Int, (∀ c, c < n + m → b' i c = (if i < d then W i c else 0) + rw_S (m1 - d) (fun l => T l * W (d + l) c)) ∧ ∀ l, l < m1 - d → (T l).natAbs ≤ τ
section RNG
variable {n m m1 d c k μ X' Ω ζ τ Ω' ζ' τ' : Nat} {b W b' : Nat → Nat → Int} {ld : Nat → Nat}
theorem rw_val_le (hlin : rw_lin n m m1 b W) {i : Nat} (hi : i < m1) (hc : c < n) (hx : ∀ j, j < m → (W i (n + j)).natAbs ≤ ζ) (hμ : rw_S m (fun j => ((b j c).natAbs : Int)) ≤ μ * (b k c).natAbs) :
    (W i c).natAbs ≤ μ * ζ * (b k c).natAbs := by
  have t := rw_S_tri m (fun j => W i (n + j) * b j c)
  rw [← hlin i hi c hc] at t
  have t2 : rw_S m (fun j => ((W i (n + j) * b j c).natAbs : Int)) ≤ rw_S m (fun j => (ζ : Int) * ((b j c).natAbs : Int)) := rw_S_le fun j hj => by
    rw [Int.natAbs_mul, ← Int.natCast_mul]
    exact Int.ofNat_le.mpr (Nat.mul_le_mul (hx j hj) (Nat.le_refl _))
  rw [rw_S_mul] at t2
  have t3 : (ζ : Int) * rw_S m (fun j => ((b j c).natAbs : Int)) ≤ (ζ : Int) * (μ * (b k c).natAbs) := Int.mul_le_mul_of_nonneg_left hμ (by omega)
  have e : (ζ : Int) * (μ * (b k c).natAbs) = ((μ * ζ * (b k c).natAbs : Nat) : Int) := by
    rw [Int.natCast_mul, Int.natCast_mul]; grind
  rw [e] at t3
  omega
theorem rw_J_step (hlin : rw_lin n m m1 b W) (hc : c < n) (hk : k < m) (hlead : 0 < b k c) (hz : rw_cnt (m1 - d) (fun j => W (d + j) c) ≠ 0)
    (hcol : ∀ i, d ≤ i → i < m1 → W i c = b k c * W i (n + k)) (hμ : rw_S m (fun j => ((b j c).natAbs : Int)) ≤ μ * (b k c).natAbs)
    (hb1 : ∀ i, i < d + 1 → b' i c = rw_rdu d c (rw_gat m1 d c W) i c) (hb2 : ∀ i, d < i → i < m1 → b' i c = 0) (hX : ∀ i j, i < m1 → j < m → (b' i (n + j)).natAbs ≤ X')
    (J : rw_J n m m1 d W b' Ω ζ τ) (hB : ∀ j, j < m → rw_B2 (m1 - d) Ω' (fun l => W (d + l) (n + k)) (fun l => W (d + l) (n + j)))
    (h1 : ζ + μ * ζ * Ω' ≤ ζ') (h2 : Ω' ≤ ζ') (h3 : τ ≤ τ') (h4 : 3 < m1 - d → (m1 - d) * (Ω * τ) ≤ τ') (h5 : m1 - d ≤ 3 → X' + ζ ≤ τ') :
    rw_J n m m1 (d + 1) (rw_rdu d c (rw_gat m1 d c W)) b' Ω' ζ' τ' := by
  obtain ⟨J1, J2, J3⟩ := J
  have sp := rw_lst_spec hz
  have hs : 0 < m1 - d := by omega
  have hd : d < m1 := by omega
  -- the phase is that of the parts of row k
  have ef : ∀ l, l < m1 - d → W (d + l) c = b k c * W (d + l) (n + k) := fun l hl => hcol _ (by omega) (by omega)
  have ph : ∀ h, rw_ph true (m1 - d) (rw_fu (m1 - d) (fun j => W (d + j) c)) (fun j => W (d + j) c) h = rw_ph true (m1 - d) (rw_fu (m1 - d) (fun j => W (d + j) c)) (fun j => W (d + j) (n + k)) h := fun h => by
    rw [rw_ph_cong (f := fun j => W (d + j) c) (g := fun j => b k c * W (d + j) (n + k)) ef h]
    exact rw_ph_sc hlead h
  have phf : rw_ph true (m1 - d) (rw_fu (m1 - d) (fun j => W (d + j) c)) (fun j => W (d + j) (n + k)) (fun j => W (d + j) c) 0 = b k c * rw_ph true (m1 - d) (rw_fu (m1 - d) (fun j => W (d + j) c)) (fun j => W (d + j) (n + k)) (fun j => W (d + j) (n + k)) 0 := by
    have := rw_lin_ph (t := true) (s := m1 - d) (n := rw_fu (m1 - d) (fun j => W (d + j) c)) (m := 1) (f := fun j => W (d + j) (n + k)) (h := fun j => W (d + j) c) (x := fun _ j => W (d + j) (n + k)) (b := fun _ => b k c)
      (fun i hi => by simp only [rw_S]; rw [ef i hi, Int.mul_comm]; omega) 0 hs
    rw [this]
    simp only [rw_S]
    rw [Int.mul_comm]; omega
  generalize hN : rw_fu (m1 - d) (fun j => W (d + j) c) = N at *
  have g : ∀ l c', rw_gat m1 d c W (d + l) c' = rw_ph true (m1 - d) N (fun j => W (d + j) (n + k)) (fun j => W (d + j) c') l := fun l c' => by
    rw [rw_gat_hi]
    unfold rw_PH
    rw [hN, ph]
  have g0 : ∀ c', rw_gat m1 d c W d c' = rw_ph true (m1 - d) N (fun j => W (d + j) (n + k)) (fun j => W (d + j) c') 0 := fun c' => by
    have := g 0 c'
    rw [Nat.add_zero] at this
    exact this
  have gB : ∀ l j, l < m1 - d → j < m → (rw_gat m1 d c W (d + l) (n + j)).natAbs ≤ Ω' := fun l j hl hj => by rw [g]; exact (rw_B2_ph (hB j hj)).1 l hl
  have gB0 : ∀ j, j < m → (rw_gat m1 d c W d (n + j)).natAbs ≤ Ω' := fun j hj => by have := gB 0 j hs hj; rw [Nat.add_zero] at this; exact this
  have gpos : 0 < rw_gat m1 d c W d c := by
    have := rw_gat_hi (m := m1) (d := d) (c := c) (j := 0) (V := W) (c' := c)
    rw [Nat.add_zero] at this
    rw [this]; exact rw_PH_pos hz
  have gz : ∀ l, 0 < l → l < m1 - d → rw_gat m1 d c W (d + l) c = 0 := fun l l0 l1 => by rw [rw_gat_hi]; exact rw_PH_fin l0 l1
  have gk : rw_gat m1 d c W d c = b k c * rw_gat m1 d c W d (n + k) := by rw [g0, g0, phf]
  have gle : b k c ≤ rw_gat m1 d c W d c := by
    have p1 : 0 < rw_gat m1 d c W d (n + k) := by
      apply Classical.byContradiction
      intro hn
      have := Int.mul_nonpos_of_nonneg_of_nonpos (show 0 ≤ b k c by omega) (show rw_gat m1 d c W d (n + k) ≤ 0 by omega)
      omega
    rw [gk]
    have := Int.mul_le_mul_of_nonneg_left (show 1 ≤ rw_gat m1 d c W d (n + k) by omega) (show 0 ≤ b k c by omega)
    rw [Int.mul_one] at this
    exact this
  have rlo : ∀ i c', i < d → rw_rdu d c (rw_gat m1 d c W) i c' = W i c' - (W i c / rw_gat m1 d c W d c) * rw_gat m1 d c W d c' := fun i c' hi => by
    unfold rw_rdu
    rw [if_pos hi, rw_gat_lo hi, rw_gat_lo hi]
  have rhi : ∀ i c', ¬ i < d → rw_rdu d c (rw_gat m1 d c W) i c' = rw_gat m1 d c W i c' := fun i c' hi => by
    unfold rw_rdu
    rw [if_neg hi]
  have hq : ∀ i, i < d → (W i c / rw_gat m1 d c W d c).natAbs ≤ μ * ζ := fun i hi => by
    have v := rw_val_le (k := k) (ζ := ζ) (μ := μ) hlin (show i < m1 by omega) hc (fun j hj => J2 i j hi hj) hμ
    have v2 : ((μ * ζ : Nat) : Int) * b k c ≤ ((μ * ζ : Nat) : Int) * rw_gat m1 d c W d c := Int.mul_le_mul_of_nonneg_left gle (by omega)
    have v3 : ((μ * ζ * (b k c).natAbs : Nat) : Int) = ((μ * ζ : Nat) : Int) * b k c := by
      rw [Int.natCast_mul (μ * ζ), show ((b k c).natAbs : Int) = b k c by omega]
    exact rw_flo gpos (by omega) (by omega)
  refine ⟨fun i j hi1 hi2 hj => ?_, fun i j hi hj => ?_, fun i hi => ?_⟩
  · rw [rhi i _ (by omega)]
    have := gB (i - d) j (by omega) hj
    rw [show d + (i - d) = i by omega] at this
    exact this
  · by_cases hid : i < d
    · rw [rlo i _ hid]
      have a1 := J2 i j hid hj
      have a2 : ((W i c / rw_gat m1 d c W d c) * rw_gat m1 d c W d (n + j)).natAbs ≤ μ * ζ * Ω' := by
        rw [Int.natAbs_mul]; exact Nat.mul_le_mul (hq i hid) (gB0 j hj)
      omega
    · have e : i = d := by omega
      subst e
      rw [rhi i _ hid]
      exact Nat.le_trans (gB0 j hj) h2
  · obtain ⟨T, hT, hTb⟩ := J3 i hi
    have pr : ∀ c', rw_S (m1 - d) (fun l => rw_phX true (m1 - d) N (fun j => W (d + j) (n + k)) T l * rw_gat m1 d c W (d + l) c') = rw_S (m1 - d) (fun l => T l * W (d + l) c') := fun c' => by
      have := rw_pair_ph (t := true) (s := m1 - d) (n := N) (f := fun j => W (d + j) (n + k)) (X := T) (h := fun l => W (d + l) c')
      unfold rw_pair at this
      rw [← this]
      exact rw_S_congr fun l _ => by rw [g]
    have Tb : ∀ l, l < m1 - d → (rw_phX true (m1 - d) N (fun j => W (d + j) (n + k)) T l).natAbs ≤ τ' := by
      by_cases h3s : m1 - d ≤ 3
      · have hφ : (rw_pair (m1 - d) T (fun j => W (d + j) (n + k))).natAbs ≤ τ' := by
          have e := hT (n + k) (by omega)
          have x1 := hX i k hi hk
          have x2 := h5 h3s
          show (rw_S (m1 - d) (fun l => T l * W (d + l) (n + k))).natAbs ≤ τ'
          by_cases hid : i < d
          · rw [if_pos hid] at e
            have := J2 i k hid hk
            omega
          · rw [if_neg hid] at e
            omega
        exact (rw_B4_ph (t := true) (n := N) h3s hφ ⟨rfl, fun l hl => Nat.le_trans (hTb l hl) h3⟩).2
      · have q : rw_QQ (m1 - d) (fun j => W (d + j) (n + k)) T ≤ (τ' : Int) := by
          have a := rw_S_abs (n := m1 - d) (M := Ω * τ) (g := fun l => (((W (d + l) (n + k)).natAbs * (T l).natAbs : Nat) : Int)) (fun l hl => by
            rw [Int.natAbs_natCast]
            exact Nat.mul_le_mul (J1 (d + l) k (by omega) (by omega) hk) (hTb l hl))
          have := h4 (by omega)
          show rw_S (m1 - d) (fun l => (((W (d + l) (n + k)).natAbs * (T l).natAbs : Nat) : Int)) ≤ (τ' : Int)
          omega
        intro l hl
        have := (rw_BX_ph (t := true) (n := N) (R := (τ' : Int)) (Int.le_refl _) ⟨q, fun l hl => by have := hTb l hl; omega⟩).2 l hl
        omega
    refine ⟨fun l => rw_phX true (m1 - d) N (fun j => W (d + j) (n + k)) T (l + 1), fun c' hc' => ?_, fun l hl => Tb (l + 1) (by omega)⟩
    have e1 := hT c' hc'
    have ec := hT c (by omega)
    rw [← pr c', rw_S_succ0 hs] at e1
    rw [← pr c, rw_S_succ0 hs, rw_S_zero (n := m1 - d - 1) (fun l hl => by rw [gz (l + 1) (by omega) (by omega), Int.mul_zero])] at ec
    rw [Nat.add_zero] at e1 ec
    have em : m1 - (d + 1) = m1 - d - 1 := by omega
    have e2 : rw_S (m1 - (d + 1)) (fun l => rw_phX true (m1 - d) N (fun j => W (d + j) (n + k)) T (l + 1) * rw_rdu d c (rw_gat m1 d c W) (d + 1 + l) c')
        = rw_S (m1 - d - 1) (fun l => rw_phX true (m1 - d) N (fun j => W (d + j) (n + k)) T (l + 1) * rw_gat m1 d c W (d + (l + 1)) c') := by
      rw [em]
      refine rw_S_congr fun l _ => ?_
      rw [rhi _ _ (by omega), show d + 1 + l = d + (l + 1) by omega]
    rw [e2]
    generalize rw_S (m1 - d - 1) (fun l => rw_phX true (m1 - d) N (fun j => W (d + j) (n + k)) T (l + 1) * rw_gat m1 d c W (d + (l + 1)) c') = U at e1 ⊢
    generalize rw_phX true (m1 - d) N (fun j => W (d + j) (n + k)) T 0 = t0 at e1 ec
    rcases Nat.lt_trichotomy i d with hid | hid | hid
    · rw [if_pos (by omega), rlo i c' hid]
      rw [if_pos hid] at e1 ec
      rw [hb1 i (by omega), rlo i c hid] at ec
      have z : (t0 + W i c / rw_gat m1 d c W d c) * rw_gat m1 d c W d c = 0 := by
        generalize W i c / rw_gat m1 d c W d c = q at ec ⊢
        grind
      have z2 : t0 + W i c / rw_gat m1 d c W d c = 0 := by
        rcases Int.mul_eq_zero.mp z with h | h
        · exact h
        · omega
      generalize W i c / rw_gat m1 d c W d c = q at z2 ⊢
      have : t0 = -q := by omega
      rw [e1, this]; grind
    · subst hid
      rw [if_pos (by omega), rhi i c' (by omega)]
      rw [if_neg (by omega)] at e1 ec
      rw [hb1 i (by omega), rhi i c (by omega)] at ec
      have z : (t0 - 1) * rw_gat m1 i c W i c = 0 := by grind
      have z2 : t0 - 1 = 0 := by
        rcases Int.mul_eq_zero.mp z with h | h
        · exact h
        · omega
      have : t0 = 1 := by omega
      rw [e1, this]; omega
    · rw [if_neg (by omega)]
      rw [if_neg (by omega)] at e1 ec
      rw [hb2 i hid hi] at ec
      have z : t0 * rw_gat m1 d c W d c = 0 := by omega
      have z2 : t0 = 0 := by
        rcases Int.mul_eq_zero.mp z with h | h
        · exact h
        · omega
      rw [e1, z2]; omega
end RNG
