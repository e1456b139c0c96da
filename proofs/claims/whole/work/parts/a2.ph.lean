/-! LATTICES 2: what a phase keeps small -/
theorem rw_k2core {A B f0 fi fk fi' fk' D D' : Int} {K : Nat} (h0 : f0 ≠ 0) (e : f0 * D = fk * A - fi * B) (e' : f0 * D' = fk' * A - fi' * B) (bi : rw_btw fi' fi) (bk : rw_btw fk' fk)
    (li : fi'.natAbs ≤ f0.natAbs) (lk : fk'.natAbs ≤ f0.natAbs) (hD : D.natAbs ≤ K) (hA : A.natAbs ≤ K) (hB : B.natAbs ≤ K) : D'.natAbs ≤ K := by
  have a1 : (fk' * A).natAbs ≤ f0.natAbs * K := by rw [Int.natAbs_mul]; exact Nat.mul_le_mul lk hA
  have a2 : (fi' * B).natAbs ≤ f0.natAbs * K := by rw [Int.natAbs_mul]; exact Nat.mul_le_mul li hB
  have a3 : (f0 * D).natAbs ≤ f0.natAbs * K := by rw [Int.natAbs_mul]; exact Nat.mul_le_mul (Nat.le_refl _) hD
  have c1 := rw_btw_mul bk A
  have c2 := rw_btw_mul bi B
  have a4 : (f0 * D').natAbs ≤ f0.natAbs * K := by
    rw [e']; rw [e] at a3
    unfold rw_btw at c1 c2
    generalize fk' * A = P' at a1 c1 ⊢
    generalize fi' * B = Q' at a2 c2 ⊢
    generalize fk * A = P at a3 c1
    generalize fi * B = Q at a3 c2
    generalize f0.natAbs * K = T at a1 a2 a3 ⊢
    omega
  rw [Int.natAbs_mul] at a4
  exact Nat.le_of_mul_le_mul_left a4 (by omega)
theorem rw_entcore {A h0 f0 fi' hi' : Int} {M : Nat} (e : f0 * hi' = A + h0 * fi') (hA : A.natAbs ≤ M) (hh : h0.natAbs ≤ M) (l : fi'.natAbs < f0.natAbs) : hi'.natAbs ≤ M := by
  have a1 : (h0 * fi').natAbs ≤ M * fi'.natAbs := by rw [Int.natAbs_mul]; exact Nat.mul_le_mul hh (Nat.le_refl _)
  have a2 : M * fi'.natAbs + M ≤ f0.natAbs * M := by
    rw [← Nat.mul_succ, Nat.mul_comm]; exact Nat.mul_le_mul l (Nat.le_refl _)
  have a3 : (f0 * hi').natAbs ≤ f0.natAbs * M := by
    rw [e]
    generalize h0 * fi' = P at a1 ⊢
    generalize M * fi'.natAbs = T at a1 a2
    generalize f0.natAbs * M = U at a2 ⊢
    omega
  rw [Int.natAbs_mul] at a3
  exact Nat.le_of_mul_le_mul_left a3 (by omega)
/-- the values of a functional, and its 2 x 2 minors with f -/
def rw_B2 (s M : Nat) (f h : Nat → Int) : Prop := (∀ i, i < s → (h i).natAbs ≤ M) ∧ ∀ i k, i < s → k < s → (h i * f k - h k * f i).natAbs ≤ M
theorem rw_B2_swp {s M p : Nat} {f h : Nat → Int} (hp : p < s) (H : rw_B2 s M f h) : rw_B2 s M (rw_swp p f) (rw_swp p h) :=
  ⟨fun i hi => H.1 _ (rw_sg_lt hp hi), fun i k hi hk => H.2 _ _ (rw_sg_lt hp hi) (rw_sg_lt hp hk)⟩
theorem rw_B2_neg {s M : Nat} {b : Bool} {f h : Nat → Int} (H : rw_B2 s M f h) : rw_B2 s M (rw_neg b f) (rw_neg b h) := by
  refine ⟨fun i hi => ?_, fun i k hi hk => ?_⟩
  · show (rw_ng b i * h i).natAbs ≤ M
    rw [rw_ng_abs]; exact H.1 i hi
  · show (rw_ng b i * h i * (rw_ng b k * f k) - rw_ng b k * h k * (rw_ng b i * f i)).natAbs ≤ M
    have e : rw_ng b i * h i * (rw_ng b k * f k) - rw_ng b k * h k * (rw_ng b i * f i) = rw_ng b i * (rw_ng b k * (h i * f k - h k * f i)) := by grind
    rw [e, rw_ng_abs, rw_ng_abs]; exact H.2 i k hi hk
theorem rw_B2_red {s M : Nat} {f h : Nat → Int} (hs : 0 < s) (h0 : f 0 ≠ 0) (H : rw_B2 s M f h) :
    rw_B2 s M (rw_red s (fun i => (f i).tdiv (f 0)) f) (rw_red s (fun i => (f i).tdiv (f 0)) h) := by
  have ent : ∀ i, 0 < i → i < s → f 0 * rw_red s (fun i => (f i).tdiv (f 0)) h i = (h i * f 0 - h 0 * f i) + h 0 * (f i).tmod (f 0) := by
    intro i a b
    rw [rw_red1 _ _ a b, ← rw_tmod_eq (f i) (f 0)]
    generalize (f i).tdiv (f 0) = q
    grind
  refine ⟨fun i hi => ?_, fun i k hi hk => ?_⟩
  · by_cases e : i = 0
    · subst e; rw [rw_red0]; exact H.1 0 hs
    · exact rw_entcore (ent i (by omega) hi) (H.2 i 0 hi hs) (H.1 0 hs) (rw_tmod_lt _ h0)
  · by_cases ei : i = 0
    · subst ei
      by_cases ek : k = 0
      · subst ek; rw [Int.sub_self]; exact Nat.zero_le _
      · rw [rw_red0, rw_red0, rw_red1 _ _ (by omega) hk, rw_red1 _ _ (by omega) hk]
        have e : h 0 * (f k - (f k).tdiv (f 0) * f 0) - (h k - (f k).tdiv (f 0) * h 0) * f 0 = h 0 * f k - h k * f 0 := by
          generalize (f k).tdiv (f 0) = q
          grind
        rw [e]; exact H.2 0 k hi hk
    · by_cases ek : k = 0
      · subst ek
        rw [rw_red0, rw_red0, rw_red1 _ _ (by omega) hi, rw_red1 _ _ (by omega) hi]
        have e : (h i - (f i).tdiv (f 0) * h 0) * f 0 - h 0 * (f i - (f i).tdiv (f 0) * f 0) = h i * f 0 - h 0 * f i := by
          generalize (f i).tdiv (f 0) = q
          grind
        rw [e]; exact H.2 i 0 hi hk
      · have ei' := ent i (by omega) hi
        have ek' := ent k (by omega) hk
        rw [rw_redf f (by omega) hi, rw_redf f (by omega) hk]
        refine rw_k2core (A := h i * f 0 - h 0 * f i) (B := h k * f 0 - h 0 * f k) (D := h i * f k - h k * f i) h0 ?_ ?_ (rw_tmod_btw (f i) (f 0)) (rw_tmod_btw (f k) (f 0))
          (Nat.le_of_lt (rw_tmod_lt _ h0)) (Nat.le_of_lt (rw_tmod_lt _ h0)) (H.2 i k hi hk) (H.2 i 0 hi hs) (H.2 k 0 hk hs)
        · grind
        · generalize rw_red s (fun i => (f i).tdiv (f 0)) h i = x at ei' ⊢
          generalize rw_red s (fun i => (f i).tdiv (f 0)) h k = y at ek' ⊢
          generalize (f i).tmod (f 0) = fi' at ei' ⊢
          generalize (f k).tmod (f 0) = fk' at ek' ⊢
          have e1 : f 0 * (x * fk' - y * fi') = (f 0 * x) * fk' - (f 0 * y) * fi' := by grind
          rw [e1, ei', ek']; grind
theorem rw_B2_ph {t : Bool} {s M n : Nat} {f h : Nat → Int} (H : rw_B2 s M f h) : rw_B2 s M (rw_ph t s n f f) (rw_ph t s n f h) :=
  rw_ind (P := fun f H _ => rw_B2 s M f (H 0)) (fun _ _ _ _ hp H => rw_B2_swp hp H) (fun _ _ _ _ _ H => rw_B2_neg H) (fun _ _ _ hs h0 _ H => rw_B2_red hs h0 H) n f (fun _ => h) (fun _ => h) H
/-! 3 x 3 minors with f -/
def rw_D3 (f h g : Nat → Int) (i j k : Nat) : Int := f i * (h j * g k - h k * g j) - f j * (h i * g k - h k * g i) + f k * (h i * g j - h j * g i)
theorem rw_k3core {A a q K : Nat} {D D' p1 p2 p3 R1 R2 R3 f0 : Int} (ha : f0.natAbs = a) (h0 : 0 < a) (e : f0 * D = (R1 + p1) + (R2 + p2) + (R3 + p3)) (e' : f0 * D' = p1 + p2 + p3)
    (s1 : (0 ≤ p1 ∧ 0 ≤ R1) ∨ (p1 ≤ 0 ∧ R1 ≤ 0)) (s2 : (0 ≤ p2 ∧ 0 ≤ R2) ∨ (p2 ≤ 0 ∧ R2 ≤ 0)) (s3 : (0 ≤ p3 ∧ 0 ≤ R3) ∨ (p3 ≤ 0 ∧ R3 ≤ 0))
    (l1 : p1.natAbs ≤ R1.natAbs) (l2 : p2.natAbs ≤ R2.natAbs) (l3 : p3.natAbs ≤ R3.natAbs) (b1 : p1.natAbs ≤ a * K) (b2 : p2.natAbs ≤ a * K) (b3 : p3.natAbs ≤ a * K)
    (c1 : R1.natAbs ≤ q * (a * K)) (c2 : R2.natAbs ≤ q * (a * K)) (c3 : R3.natAbs ≤ q * (a * K)) (hD : D.natAbs ≤ K) (hq : q = A / a) (hA : a ≤ A) :
    ∃ K', D'.natAbs ≤ K' ∧ K ≤ K' ∧ (K' = K ∨ (K' = 3 * K / 2 ∧ 2 * a ≤ A) ∨ (K' = 2 * K ∧ 3 * a ≤ A)) := by
  have a3 : (f0 * D).natAbs ≤ a * K := by rw [Int.natAbs_mul, ha]; exact Nat.mul_le_mul (Nat.le_refl _) hD
  rw [e] at a3
  have a4 : (f0 * D').natAbs = a * D'.natAbs := by rw [Int.natAbs_mul, ha]
  have up : (f0 * D').natAbs ≤ a * K ∨ ((f0 * D').natAbs ≤ 2 * (a * K) ∧ 2 * (f0 * D').natAbs ≤ a * K + q * (a * K)) := by
    rw [e']
    generalize a * K = T at *
    generalize q * T = U at *
    omega
  rw [a4] at up
  by_cases h3 : 3 * a ≤ A
  · refine ⟨2 * K, ?_, by omega, Or.inr (Or.inr ⟨rfl, h3⟩)⟩
    have : a * D'.natAbs ≤ a * (2 * K) := by
      have e1 : a * (2 * K) = 2 * (a * K) := by rw [Nat.mul_left_comm]
      rw [e1]; omega
    exact Nat.le_of_mul_le_mul_left this h0
  · have hq2 : q < 3 := by rw [hq, Nat.div_lt_iff_lt_mul h0]; omega
    by_cases h2 : 2 * a ≤ A
    · refine ⟨3 * K / 2, ?_, by omega, Or.inr (Or.inl ⟨rfl, h2⟩)⟩
      have hu : q * (a * K) ≤ 2 * (a * K) := Nat.mul_le_mul (by omega) (Nat.le_refl _)
      have : a * (2 * D'.natAbs) ≤ a * (3 * K) := by
        have e1 : a * (3 * K) = 3 * (a * K) := by rw [Nat.mul_left_comm]
        have e2 : a * (2 * D'.natAbs) = 2 * (a * D'.natAbs) := by rw [Nat.mul_left_comm]
        rw [e1, e2]; omega
      have := Nat.le_of_mul_le_mul_left this h0
      omega
    · have hq1 : q < 2 := by rw [hq, Nat.div_lt_iff_lt_mul h0]; omega
      refine ⟨K, ?_, Nat.le_refl _, Or.inl rfl⟩
      have hu : q * (a * K) ≤ 1 * (a * K) := Nat.mul_le_mul (by omega) (Nat.le_refl _)
      have : a * D'.natAbs ≤ a * K := by omega
      exact Nat.le_of_mul_le_mul_left this h0
theorem rw_cube {A a K K' C : Nat} (hA : a ≤ A) (hK : K' = K ∨ (K' = 3 * K / 2 ∧ 2 * a ≤ A) ∨ (K' = 2 * K ∧ 3 * a ≤ A)) (hC : K * K * K * (A * A) ≤ C) : K' * K' * K' * (a * a) ≤ C := by
  refine Nat.le_trans ?_ hC
  rcases hK with h | ⟨h, h2⟩ | ⟨h, h3⟩
  · subst h; exact Nat.mul_le_mul (Nat.le_refl _) (Nat.mul_le_mul hA hA)
  · have y : 2 * K' ≤ 3 * K := by omega
    have y1 : (2 * K') * (2 * K') * (2 * K') ≤ (3 * K) * (3 * K) * (3 * K) := Nat.mul_le_mul (Nat.mul_le_mul y y) y
    have y2 : (2 * a) * (2 * a) ≤ A * A := Nat.mul_le_mul h2 h2
    have y3 := Nat.mul_le_mul y1 y2
    have e1 : (2 * K') * (2 * K') * (2 * K') * ((2 * a) * (2 * a)) = 32 * (K' * K' * K' * (a * a)) := by grind
    have e2 : (3 * K) * (3 * K) * (3 * K) * (A * A) = 27 * (K * K * K * (A * A)) := by grind
    rw [e1, e2] at y3
    omega
  · have y2 : (3 * a) * (3 * a) ≤ A * A := Nat.mul_le_mul h3 h3
    have y3 := Nat.mul_le_mul (Nat.le_refl (K * K * K)) y2
    have e1 : K * K * K * ((3 * a) * (3 * a)) = 9 * (K * K * K * (a * a)) := by grind
    have e2 : K' * K' * K' * (a * a) = 8 * (K * K * K * (a * a)) := by subst h; grind
    rw [e2]; rw [e1] at y3
    omega
/-- the 3 x 3 minors of h, g with f: their cubes times the square of the greatest value of f -/
def rw_B3 (s C : Nat) (f h g : Nat → Int) : Prop := ∃ A K : Nat, (∀ i, i < s → (f i).natAbs ≤ A) ∧ (∀ i j k, i < s → j < s → k < s → (rw_D3 f h g i j k).natAbs ≤ K) ∧ K * K * K * (A * A) ≤ C
theorem rw_B3_swp {s C p : Nat} {f h g : Nat → Int} (hp : p < s) (H : rw_B3 s C f h g) : rw_B3 s C (rw_swp p f) (rw_swp p h) (rw_swp p g) := by
  obtain ⟨A, K, h1, h2, h3⟩ := H
  exact ⟨A, K, fun i hi => h1 _ (rw_sg_lt hp hi), fun i j k hi hj hk => h2 _ _ _ (rw_sg_lt hp hi) (rw_sg_lt hp hj) (rw_sg_lt hp hk), h3⟩
theorem rw_B3_neg {s C : Nat} {b : Bool} {f h g : Nat → Int} (H : rw_B3 s C f h g) : rw_B3 s C (rw_neg b f) (rw_neg b h) (rw_neg b g) := by
  obtain ⟨A, K, h1, h2, h3⟩ := H
  refine ⟨A, K, fun i hi => ?_, fun i j k hi hj hk => ?_, h3⟩
  · show (rw_ng b i * f i).natAbs ≤ A
    rw [rw_ng_abs]; exact h1 i hi
  · have e : rw_D3 (rw_neg b f) (rw_neg b h) (rw_neg b g) i j k = rw_ng b i * (rw_ng b j * (rw_ng b k * rw_D3 f h g i j k)) := by
      simp only [rw_D3, rw_neg]; grind
    rw [e, rw_ng_abs, rw_ng_abs, rw_ng_abs]; exact h2 i j k hi hj hk
/-- a 3 x 3 minor, when multiples of row 0 are taken from its rows -/
theorem rw_D3_red (s : Nat) (q f h g : Nat → Int) (i j k : Nat) : rw_D3 (rw_red s q f) (rw_red s q h) (rw_red s q g) i j k
    = rw_D3 f h g i j k - rw_qs s q i * rw_D3 f h g 0 j k - rw_qs s q j * rw_D3 f h g i 0 k - rw_qs s q k * rw_D3 f h g i j 0 := by
  simp only [rw_D3, rw_red]
  generalize rw_qs s q i = a
  generalize rw_qs s q j = b
  generalize rw_qs s q k = c
  grind
theorem rw_D3_00 (f h g : Nat → Int) (k : Nat) : rw_D3 f h g 0 0 k = 0 := by simp only [rw_D3]; grind
theorem rw_D3_0k0 (f h g : Nat → Int) (k : Nat) : rw_D3 f h g 0 k 0 = 0 := by simp only [rw_D3]; grind
theorem rw_D3_k00 (f h g : Nat → Int) (k : Nat) : rw_D3 f h g k 0 0 = 0 := by simp only [rw_D3]; grind
theorem rw_D3_four (f h g : Nat → Int) (i j k : Nat) : f 0 * rw_D3 f h g i j k = f i * rw_D3 f h g 0 j k + f j * rw_D3 f h g i 0 k + f k * rw_D3 f h g i j 0 := by
  simp only [rw_D3]; grind
/-- of a value of f and a minor: what is left of it, and what goes -/
theorem rw_k3part {A a K : Nat} {f0 fi E : Int} (ha : f0.natAbs = a) (h0 : 0 < a) (hm : fi ≠ 0 → a ≤ fi.natAbs) (hA : fi.natAbs ≤ A) (hE : E.natAbs ≤ K) :
    ((0 ≤ fi.tmod f0 * E ∧ 0 ≤ fi * E - fi.tmod f0 * E) ∨ (fi.tmod f0 * E ≤ 0 ∧ fi * E - fi.tmod f0 * E ≤ 0)) ∧ (fi.tmod f0 * E).natAbs ≤ (fi * E - fi.tmod f0 * E).natAbs
    ∧ (fi.tmod f0 * E).natAbs ≤ a * K ∧ (fi * E - fi.tmod f0 * E).natAbs ≤ (A / a) * (a * K) := by
  have hf0 : f0 ≠ 0 := by omega
  have b1 := rw_btw_mul (rw_tmod_btw fi f0) E
  have e : fi * E - fi.tmod f0 * E = fi.tdiv f0 * (f0 * E) := by
    rw [← rw_tmod_eq fi f0]
    generalize fi.tdiv f0 = q
    grind
  have l := rw_tmod_lt fi hf0
  refine ⟨?_, ?_, ?_, ?_⟩
  · unfold rw_btw at b1
    rcases b1 with ⟨u, v⟩ | ⟨u, v⟩
    · exact Or.inl ⟨u, by omega⟩
    · exact Or.inr ⟨v, by omega⟩
  · by_cases hz : fi = 0
    · subst hz
      rw [Int.zero_tmod, Int.zero_mul]; exact Nat.zero_le _
    · rw [e, Int.natAbs_mul, Int.natAbs_mul, Int.natAbs_mul, rw_tdiv_abs, ha]
      have q1 : 1 ≤ fi.natAbs / a := (Nat.le_div_iff_mul_le h0).mpr (by have := hm hz; omega)
      have : (fi.tmod f0).natAbs * E.natAbs ≤ 1 * (a * E.natAbs) := by rw [Nat.one_mul]; exact Nat.mul_le_mul (by omega) (Nat.le_refl _)
      exact Nat.le_trans this (Nat.mul_le_mul q1 (Nat.le_refl _))
  · rw [Int.natAbs_mul]; exact Nat.mul_le_mul (by omega) hE
  · rw [e, Int.natAbs_mul, Int.natAbs_mul, rw_tdiv_abs, ha]
    exact Nat.mul_le_mul (Nat.div_le_div_right hA) (Nat.mul_le_mul (Nat.le_refl _) hE)
theorem rw_B3_red {s C : Nat} {f h g : Nat → Int} (hs : 0 < s) (h0 : f 0 ≠ 0) (hm : ∀ i, i < s → f i ≠ 0 → (f 0).natAbs ≤ (f i).natAbs) (H : rw_B3 s C f h g) :
    rw_B3 s C (rw_red s (fun i => (f i).tdiv (f 0)) f) (rw_red s (fun i => (f i).tdiv (f 0)) h) (rw_red s (fun i => (f i).tdiv (f 0)) g) := by
  obtain ⟨A, K, h1, h2, h3⟩ := H
  have hA : (f 0).natAbs ≤ A := h1 0 hs
  have hp : 0 < (f 0).natAbs := by omega
  have hf : ∀ i, i < s → (rw_red s (fun i => (f i).tdiv (f 0)) f i).natAbs ≤ (f 0).natAbs := by
    intro i hi
    by_cases e : i = 0
    · subst e; rw [rw_red0]; exact Nat.le_refl _
    · rw [rw_redf f (by omega) hi]; exact Nat.le_of_lt (rw_tmod_lt _ h0)
  let K' : Nat := if 3 * (f 0).natAbs ≤ A then 2 * K else if 2 * (f 0).natAbs ≤ A then 3 * K / 2 else K
  have hK' : K' = K ∨ (K' = 3 * K / 2 ∧ 2 * (f 0).natAbs ≤ A) ∨ (K' = 2 * K ∧ 3 * (f 0).natAbs ≤ A) := by
    show (if _ then _ else _) = K ∨ ((if _ then _ else _) = _ ∧ _) ∨ ((if _ then _ else _) = _ ∧ _)
    by_cases c3 : 3 * (f 0).natAbs ≤ A
    · rw [if_pos c3]; exact Or.inr (Or.inr ⟨rfl, c3⟩)
    · rw [if_neg c3]
      by_cases c2 : 2 * (f 0).natAbs ≤ A
      · rw [if_pos c2]; exact Or.inr (Or.inl ⟨rfl, c2⟩)
      · rw [if_neg c2]; exact Or.inl rfl
  have hKK : K ≤ K' := by omega
  have top : ∀ x : Nat, (x = K ∨ (x = 3 * K / 2 ∧ 2 * (f 0).natAbs ≤ A) ∨ (x = 2 * K ∧ 3 * (f 0).natAbs ≤ A)) → x ≤ K' := by
    intro x hx
    show x ≤ (if _ then _ else _)
    by_cases c3 : 3 * (f 0).natAbs ≤ A
    · rw [if_pos c3]; omega
    · rw [if_neg c3]
      by_cases c2 : 2 * (f 0).natAbs ≤ A
      · rw [if_pos c2]; omega
      · rw [if_neg c2]; omega
  refine ⟨(f 0).natAbs, K', hf, fun i j k hi hj hk => ?_, rw_cube hA hK' h3⟩
  rw [rw_D3_red]
  by_cases ei : i = 0
  · subst ei
    rw [rw_qs0, rw_D3_00, rw_D3_0k0]
    have := h2 0 j k hi hj hk
    simp only [Int.zero_mul, Int.mul_zero, Int.sub_zero]
    omega
  by_cases ej : j = 0
  · subst ej
    rw [rw_qs0, rw_D3_00, rw_D3_k00]
    have := h2 i 0 k hi hj hk
    simp only [Int.zero_mul, Int.mul_zero, Int.sub_zero]
    omega
  by_cases ek : k = 0
  · subst ek
    rw [rw_qs0, rw_D3_0k0, rw_D3_k00]
    have := h2 i j 0 hi hj hk
    simp only [Int.zero_mul, Int.mul_zero, Int.sub_zero]
    omega
  obtain ⟨s1, l1, b1, c1⟩ := rw_k3part (f0 := f 0) (fi := f i) (E := rw_D3 f h g 0 j k) rfl hp (hm i hi) (h1 i hi) (h2 0 j k hs hj hk)
  obtain ⟨s2, l2, b2, c2⟩ := rw_k3part (f0 := f 0) (fi := f j) (E := rw_D3 f h g i 0 k) rfl hp (hm j hj) (h1 j hj) (h2 i 0 k hi hs hk)
  obtain ⟨s3, l3, b3, c3⟩ := rw_k3part (f0 := f 0) (fi := f k) (E := rw_D3 f h g i j 0) rfl hp (hm k hk) (h1 k hk) (h2 i j 0 hi hj hs)
  have four := rw_D3_four f h g i j k
  rw [rw_qs1 _ (by omega) hi, rw_qs1 _ (by omega) hj, rw_qs1 _ (by omega) hk]
  have e' : f 0 * (rw_D3 f h g i j k - (f i).tdiv (f 0) * rw_D3 f h g 0 j k - (f j).tdiv (f 0) * rw_D3 f h g i 0 k - (f k).tdiv (f 0) * rw_D3 f h g i j 0)
      = (f i).tmod (f 0) * rw_D3 f h g 0 j k + (f j).tmod (f 0) * rw_D3 f h g i 0 k + (f k).tmod (f 0) * rw_D3 f h g i j 0 := by
    rw [← rw_tmod_eq (f i) (f 0), ← rw_tmod_eq (f j) (f 0), ← rw_tmod_eq (f k) (f 0)]
    generalize (f i).tdiv (f 0) = qi
    generalize (f j).tdiv (f 0) = qj
    generalize (f k).tdiv (f 0) = qk
    generalize rw_D3 f h g i j k = d at four ⊢
    generalize rw_D3 f h g 0 j k = d1 at four ⊢
    generalize rw_D3 f h g i 0 k = d2 at four ⊢
    generalize rw_D3 f h g i j 0 = d3 at four ⊢
    grind
  obtain ⟨x, hx, -, hx2⟩ := rw_k3core (A := A) (q := A / (f 0).natAbs) (K := K) rfl hp (by rw [four]; omega) e' s1 s2 s3 l1 l2 l3 b1 b2 b3 c1 c2 c3 (h2 i j k hi hj hk) rfl hA
  exact Nat.le_trans hx (top x hx2)
theorem rw_B3_ph {t : Bool} {s C n : Nat} {f h g : Nat → Int} (H : rw_B3 s C f h g) : rw_B3 s C (rw_ph t s n f f) (rw_ph t s n f h) (rw_ph t s n f g) :=
  rw_ind (P := fun f H _ => rw_B3 s C f (H 0) (H 1)) (fun _ _ _ _ hp H => rw_B3_swp hp H) (fun _ _ _ _ _ H => rw_B3_neg H) (fun _ _ _ hs h0 hm H => rw_B3_red hs h0 hm H)
    n f (fun j => if j = 0 then h else g) (fun _ => h) H
