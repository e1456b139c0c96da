/-! LATTICES 1: a phase (of s rows, all are reduced by the one of the least value of f, again and again), over whole numbers of any size; a functional is its values on the rows -/
/-- x' lies between 0 and x -/
def rw_btw (x' x : Int) : Prop := (0 ≤ x' ∧ x' ≤ x) ∨ (x ≤ x' ∧ x' ≤ 0)
theorem rw_btw_mul {x' x : Int} (h : rw_btw x' x) (a : Int) : rw_btw (x' * a) (x * a) := by
  unfold rw_btw at h ⊢
  rcases Int.le_total 0 a with ha | ha
  · rcases h with ⟨h1, h2⟩ | ⟨h1, h2⟩
    · exact Or.inl ⟨Int.mul_nonneg h1 ha, Int.mul_le_mul_of_nonneg_right h2 ha⟩
    · refine Or.inr ⟨Int.mul_le_mul_of_nonneg_right h1 ha, ?_⟩
      have := Int.mul_le_mul_of_nonneg_right h2 ha
      rwa [Int.zero_mul] at this
  · rcases h with ⟨h1, h2⟩ | ⟨h1, h2⟩
    · refine Or.inr ⟨Int.mul_le_mul_of_nonpos_right h2 ha, ?_⟩
      have := Int.mul_le_mul_of_nonpos_right h1 ha
      rwa [Int.zero_mul] at this
    · refine Or.inl ⟨?_, Int.mul_le_mul_of_nonpos_right h1 ha⟩
      have := Int.mul_le_mul_of_nonpos_right h2 ha
      rwa [Int.zero_mul] at this
theorem rw_tmod_btw (a b : Int) : rw_btw (a.tmod b) a := by
  have h2 := Int.natAbs_tmod a b
  have h3 := Nat.mod_le a.natAbs b.natAbs
  rw [← h2] at h3
  rcases Int.le_total 0 a with h | h
  · have h1 := Int.tmod_nonneg b h
    exact Or.inl ⟨h1, by omega⟩
  · have h1 := Int.tmod_nonneg b (show 0 ≤ -a by omega)
    rw [Int.neg_tmod] at h1
    exact Or.inr ⟨by omega, by omega⟩
theorem rw_tmod_lt (a : Int) {b : Int} (hb : b ≠ 0) : (a.tmod b).natAbs < b.natAbs := by
  rw [Int.natAbs_tmod]; exact Nat.mod_lt _ (by omega)
theorem rw_tmod_eq (a b : Int) : a - a.tdiv b * b = a.tmod b := by
  rw [Int.tmod_def, Int.mul_comm]
theorem rw_tdiv_abs (a b : Int) : (a.tdiv b).natAbs = a.natAbs / b.natAbs := Int.natAbs_tdiv a b
/-! sums -/
def rw_S : Nat → (Nat → Int) → Int
  | 0, _ => 0
  | n + 1, g => rw_S n g + g n
theorem rw_S_congr {n : Nat} {g k : Nat → Int} (h : ∀ i, i < n → g i = k i) : rw_S n g = rw_S n k := by
  induction n with
  | zero => rfl
  | succ n ih => simp only [rw_S]; rw [ih (fun i hi => h i (by omega)), h n (by omega)]
theorem rw_S_add (n : Nat) (g k : Nat → Int) : rw_S n (fun i => g i + k i) = rw_S n g + rw_S n k := by
  induction n with
  | zero => rfl
  | succ n ih => simp only [rw_S]; rw [ih]; omega
theorem rw_S_mul (n : Nat) (a : Int) (g : Nat → Int) : rw_S n (fun i => a * g i) = a * rw_S n g := by
  induction n with
  | zero => simp only [rw_S, Int.mul_zero]
  | succ n ih => simp only [rw_S]; rw [ih, Int.mul_add]
theorem rw_S_zero {n : Nat} {g : Nat → Int} (h : ∀ i, i < n → g i = 0) : rw_S n g = 0 := by
  induction n with
  | zero => rfl
  | succ n ih => simp only [rw_S]; rw [ih (fun i hi => h i (by omega)), h n (by omega)]; rfl
/-- one value is another -/
theorem rw_S_upd (n p : Nat) (v : Int) (g : Nat → Int) : rw_S n (fun i => if i = p then v else g i) = rw_S n g + (if p < n then v - g p else 0) := by
  induction n with
  | zero => simp [rw_S]
  | succ n ih =>
    simp only [rw_S]; rw [ih]
    by_cases h1 : n = p
    · subst h1
      rw [if_pos rfl, if_neg (by omega), if_pos (by omega)]; omega
    · rw [if_neg h1]
      by_cases h2 : p < n
      · rw [if_pos h2, if_pos (by omega)]; omega
      · rw [if_neg h2, if_neg (by omega)]; omega
theorem rw_S_abs {n : Nat} {g : Nat → Int} {M : Nat} (h : ∀ i, i < n → (g i).natAbs ≤ M) : (rw_S n g).natAbs ≤ n * M := by
  induction n with
  | zero => simp [rw_S]
  | succ n ih =>
    have h1 := ih (fun i hi => h i (by omega))
    have h2 := h n (by omega)
    simp only [rw_S]
    have h3 : (n + 1) * M = n * M + M := Nat.succ_mul n M
    rw [h3]; omega
/-! the three things that a round does: the row of the least value becomes row 0; its sign is turned; the others are reduced -/
def rw_sg (p i : Nat) : Nat := if i = 0 then p else if i = p then 0 else i
def rw_swp (p : Nat) (h : Nat → Int) : Nat → Int := fun i => h (rw_sg p i)
theorem rw_sg_lt {p i s : Nat} (hp : p < s) (hi : i < s) : rw_sg p i < s := by
  unfold rw_sg; split
  · exact hp
  · split <;> omega
theorem rw_sg_sg (p i : Nat) : rw_sg p (rw_sg p i) = i := by
  unfold rw_sg
  by_cases h0 : i = 0
  · subst h0; rw [if_pos rfl]
    by_cases hp : p = 0
    · rw [if_pos hp]; exact hp
    · rw [if_neg hp, if_pos rfl]
  · rw [if_neg h0]
    by_cases h1 : i = p
    · rw [if_pos h1, if_pos rfl]; exact h1.symm
    · rw [if_neg h1, if_neg h0, if_neg h1]
def rw_ng (b : Bool) (i : Nat) : Int := if i = 0 ∧ b = true then -1 else 1
def rw_neg (b : Bool) (h : Nat → Int) : Nat → Int := fun i => rw_ng b i * h i
theorem rw_ng_cases (b : Bool) (i : Nat) : rw_ng b i = 1 ∨ rw_ng b i = -1 := by
  unfold rw_ng; split
  · exact Or.inr rfl
  · exact Or.inl rfl
theorem rw_ng_abs (b : Bool) (i : Nat) (x : Int) : (rw_ng b i * x).natAbs = x.natAbs := by
  rcases rw_ng_cases b i with h | h <;> rw [h] <;> omega
theorem rw_ng_sq (b : Bool) (i : Nat) : rw_ng b i * rw_ng b i = 1 := by
  rcases rw_ng_cases b i with h | h <;> rw [h] <;> rfl
def rw_qs (s : Nat) (q : Nat → Int) : Nat → Int := fun i => if 0 < i ∧ i < s then q i else 0
def rw_red (s : Nat) (q : Nat → Int) (h : Nat → Int) : Nat → Int := fun i => h i - rw_qs s q i * h 0
/-- the same on coordinates: where the rows v stand for x = sum of X i * v i -/
def rw_redX (s : Nat) (q : Nat → Int) (X : Nat → Int) : Nat → Int := fun i => if i = 0 then X 0 + rw_S s (fun i => rw_qs s q i * X i) else X i
theorem rw_qs0 (s : Nat) (q : Nat → Int) : rw_qs s q 0 = 0 := by simp [rw_qs]
theorem rw_qs1 {s i : Nat} (q : Nat → Int) (h0 : 0 < i) (h1 : i < s) : rw_qs s q i = q i := by simp [rw_qs, h0, h1]
theorem rw_red0 (s : Nat) (q h : Nat → Int) : rw_red s q h 0 = h 0 := by simp [rw_red, rw_qs0]
theorem rw_red1 {s i : Nat} (q h : Nat → Int) (h0 : 0 < i) (h1 : i < s) : rw_red s q h i = h i - q i * h 0 := by simp [rw_red, rw_qs1 q h0 h1]
theorem rw_redf {s i : Nat} (f : Nat → Int) (h0 : 0 < i) (h1 : i < s) : rw_red s (fun i => (f i).tdiv (f 0)) f i = (f i).tmod (f 0) := by
  rw [rw_red1 _ _ h0 h1, rw_tmod_eq]
/-! the least one -/
def rw_least : Nat → (Nat → Int) → Option Nat
  | 0, _ => none
  | s + 1, f => match rw_least s f with
    | none => if f s = 0 then none else some s
    | some p => if f s ≠ 0 ∧ (f s).natAbs < (f p).natAbs then some s else some p
def rw_cnt : Nat → (Nat → Int) → Nat
  | 0, _ => 0
  | s + 1, f => rw_cnt s f + (if f s = 0 then 0 else 1)
def rw_lst (s : Nat) (f : Nat → Int) : Nat := (rw_least s f).getD 0
theorem rw_cnt0 {s : Nat} {f : Nat → Int} : rw_cnt s f = 0 ↔ ∀ i, i < s → f i = 0 := by
  induction s with
  | zero => exact ⟨fun _ i hi => absurd hi (Nat.not_lt_zero i), fun _ => rfl⟩
  | succ s ih =>
    simp only [rw_cnt]
    constructor
    · intro h i hi
      by_cases hf : f s = 0
      · rw [if_pos hf] at h
        by_cases e : i = s
        · rw [e]; exact hf
        · exact ih.mp (by omega) i (by omega)
      · rw [if_neg hf] at h; omega
    · intro h
      rw [if_pos (h s (by omega)), ih.mpr (fun i hi => h i (by omega))]
theorem rw_least_none {s : Nat} {f : Nat → Int} (h : rw_least s f = none) : rw_cnt s f = 0 := by
  induction s with
  | zero => rfl
  | succ s ih =>
    simp only [rw_least] at h
    cases hl : rw_least s f with
    | none =>
      rw [hl] at h
      simp only [rw_cnt]
      by_cases hf : f s = 0
      · rw [if_pos hf, ih hl]
      · simp [hf] at h
    | some p =>
      rw [hl] at h
      simp only at h
      split at h <;> exact absurd h (by simp)
theorem rw_least_some {s p : Nat} {f : Nat → Int} (h : rw_least s f = some p) : p < s ∧ f p ≠ 0 ∧ ∀ i, i < s → f i ≠ 0 → (f p).natAbs ≤ (f i).natAbs := by
  induction s generalizing p with
  | zero => simp [rw_least] at h
  | succ s ih =>
    simp only [rw_least] at h
    cases hl : rw_least s f with
    | none =>
      rw [hl] at h
      have h0 := rw_cnt0.mp (rw_least_none hl)
      by_cases hf : f s = 0
      · simp [hf] at h
      · simp [hf] at h
        subst h
        refine ⟨by omega, hf, fun i hi hfi => ?_⟩
        by_cases e : i = s
        · rw [e]; exact Nat.le_refl _
        · exact absurd (h0 i (by omega)) hfi
    | some k =>
      rw [hl] at h
      obtain ⟨a1, a2, a3⟩ := ih hl
      simp only at h
      split at h
      · rename_i hc
        cases h
        refine ⟨by omega, hc.1, fun i hi hfi => ?_⟩
        by_cases e : i = s
        · rw [e]; exact Nat.le_refl _
        · have := a3 i (by omega) hfi; omega
      · rename_i hc
        cases h
        refine ⟨by omega, a2, fun i hi hfi => ?_⟩
        by_cases e : i = s
        · subst e
          have : ¬ (f i).natAbs < (f p).natAbs := fun hh => hc ⟨hfi, hh⟩
          omega
        · exact a3 i (by omega) hfi
theorem rw_lst_spec {s : Nat} {f : Nat → Int} (h : rw_cnt s f ≠ 0) : rw_lst s f < s ∧ f (rw_lst s f) ≠ 0 ∧ ∀ i, i < s → f i ≠ 0 → (f (rw_lst s f)).natAbs ≤ (f i).natAbs := by
  unfold rw_lst
  cases hl : rw_least s f with
  | none => exact absurd (rw_least_none hl) h
  | some p => exact rw_least_some hl
/-! a round, a phase -/
def rw_pre (t : Bool) (s : Nat) (f h : Nat → Int) : Nat → Int := rw_neg (t && decide (f (rw_lst s f) < 0)) (rw_swp (rw_lst s f) h)
def rw_q (t : Bool) (s : Nat) (f : Nat → Int) : Nat → Int := fun i => (rw_pre t s f f i).tdiv (rw_pre t s f f 0)
def rw_rnd (t : Bool) (s : Nat) (f h : Nat → Int) : Nat → Int := rw_red s (rw_q t s f) (rw_pre t s f h)
def rw_rndX (t : Bool) (s : Nat) (f X : Nat → Int) : Nat → Int := rw_redX s (rw_q t s f) (rw_pre t s f X)
def rw_ph (t : Bool) (s : Nat) : Nat → (Nat → Int) → (Nat → Int) → Nat → Int
  | 0, _, h => h
  | n + 1, f, h => if rw_cnt s f = 0 then h else if rw_cnt s f = 1 then rw_rnd t s f h else rw_ph t s n (rw_rnd t s f f) (rw_rnd t s f h)
def rw_phX (t : Bool) (s : Nat) : Nat → (Nat → Int) → (Nat → Int) → Nat → Int
  | 0, _, X => X
  | n + 1, f, X => if rw_cnt s f = 0 then X else if rw_cnt s f = 1 then rw_rndX t s f X else rw_phX t s n (rw_rnd t s f f) (rw_rndX t s f X)
/-- what the three things keep, a phase keeps -/
theorem rw_ind {t : Bool} {s : Nat} (P : (Nat → Int) → (Nat → Nat → Int) → (Nat → Nat → Int) → Prop)
    (hs : ∀ f H X p, p < s → P f H X → P (rw_swp p f) (fun j => rw_swp p (H j)) (fun j => rw_swp p (X j)))
    (hn : ∀ f H X b, 0 < s → P f H X → P (rw_neg b f) (fun j => rw_neg b (H j)) (fun j => rw_neg b (X j)))
    (hr : ∀ f H X, 0 < s → f 0 ≠ 0 → (∀ i, i < s → f i ≠ 0 → (f 0).natAbs ≤ (f i).natAbs) → P f H X →
      P (rw_red s (fun i => (f i).tdiv (f 0)) f) (fun j => rw_red s (fun i => (f i).tdiv (f 0)) (H j)) (fun j => rw_redX s (fun i => (f i).tdiv (f 0)) (X j))) :
    ∀ n f H X, P f H X → P (rw_ph t s n f f) (fun j => rw_ph t s n f (H j)) (fun j => rw_phX t s n f (X j)) := by
  have rnd : ∀ f H X, rw_cnt s f ≠ 0 → P f H X → P (rw_rnd t s f f) (fun j => rw_rnd t s f (H j)) (fun j => rw_rndX t s f (X j)) := by
    intro f H X hc hP
    obtain ⟨h1, h2, h3⟩ := rw_lst_spec hc
    have h0 : 0 < s := by omega
    have k1 := hs f H X _ h1 hP
    have k2 := hn _ _ _ (t && decide (f (rw_lst s f) < 0)) h0 k1
    have e0 : ∀ i, (rw_pre t s f f i).natAbs = (f (rw_sg (rw_lst s f) i)).natAbs := fun i => rw_ng_abs _ _ _
    have e1 : rw_sg (rw_lst s f) 0 = rw_lst s f := by simp [rw_sg]
    refine hr (rw_pre t s f f) (fun j => rw_pre t s f (H j)) (fun j => rw_pre t s f (X j)) h0 ?_ ?_ k2
    · intro e
      have := e0 0
      rw [e, e1] at this
      omega
    · intro i hi hfi
      rw [e0 0, e0 i, e1]
      refine h3 _ (rw_sg_lt h1 hi) ?_
      intro e
      have := e0 i
      rw [e] at this
      omega
  intro n
  induction n with
  | zero => intro f H X hP; exact hP
  | succ n ih =>
    intro f H X hP
    simp only [rw_ph, rw_phX]
    by_cases c0 : rw_cnt s f = 0
    · simp only [if_pos c0]; exact hP
    · simp only [if_neg c0]
      by_cases c1 : rw_cnt s f = 1
      · simp only [if_pos c1]; exact rnd f H X c0 hP
      · simp only [if_neg c1]; exact ih _ _ _ (rnd f H X c0 hP)
