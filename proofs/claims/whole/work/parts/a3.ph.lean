/-! LATTICES 3: coordinates in the rows of a phase, its end -/
theorem rw_S_swp {s p : Nat} (hp : p < s) (g : Nat → Int) : rw_S s (fun i => g (rw_sg p i)) = rw_S s g := by
  have e : (fun i => g (rw_sg p i)) = fun i => if i = 0 then g p else (if i = p then g 0 else g i) := by
    funext i
    unfold rw_sg
    split
    · rfl
    · split <;> rfl
  have e0 : (if 0 = p then g 0 else g 0) = g 0 := by split <;> rfl
  rw [e, rw_S_upd s 0 (g p) (fun i => if i = p then g 0 else g i), rw_S_upd s p (g 0) g, if_pos hp, if_pos (show 0 < s by omega)]
  rw [e0]; omega
theorem rw_S_le {n : Nat} {g k : Nat → Int} (h : ∀ i, i < n → g i ≤ k i) : rw_S n g ≤ rw_S n k := by
  induction n with
  | zero => exact Int.le_refl _
  | succ n ih =>
    have h1 := ih (fun i hi => h i (by omega))
    have h2 := h n (by omega)
    simp only [rw_S]; omega
theorem rw_S_nonneg {n : Nat} {g : Nat → Int} (h : ∀ i, i < n → 0 ≤ g i) : 0 ≤ rw_S n g := by
  induction n with
  | zero => exact Int.le_refl _
  | succ n ih =>
    have h1 := ih (fun i hi => h i (by omega))
    have h2 := h n (by omega)
    simp only [rw_S]; omega
theorem rw_S_term {n i : Nat} {g : Nat → Int} (h : ∀ i, i < n → 0 ≤ g i) (hi : i < n) : g i ≤ rw_S n g := by
  induction n with
  | zero => omega
  | succ n ih =>
    have h2 := h n (by omega)
    simp only [rw_S]
    by_cases e : i = n
    · subst e
      have := rw_S_nonneg (fun k hk => h k (by omega) : ∀ k, k < i → 0 ≤ g k)
      omega
    · have := ih (fun k hk => h k (by omega)) (by omega)
      omega
theorem rw_S_tri (n : Nat) (g : Nat → Int) : ((rw_S n g).natAbs : Int) ≤ rw_S n (fun i => ((g i).natAbs : Int)) := by
  induction n with
  | zero => exact Int.le_refl _
  | succ n ih => simp only [rw_S]; omega
/-! the sum of X i * h i stays -/
def rw_pair (s : Nat) (X h : Nat → Int) : Int := rw_S s (fun i => X i * h i)
theorem rw_pair_swp {s p : Nat} (hp : p < s) (X h : Nat → Int) : rw_pair s (rw_swp p X) (rw_swp p h) = rw_pair s X h := rw_S_swp hp (fun i => X i * h i)
theorem rw_pair_neg (s : Nat) (b : Bool) (X h : Nat → Int) : rw_pair s (rw_neg b X) (rw_neg b h) = rw_pair s X h := by
  refine rw_S_congr fun i _ => ?_
  show rw_ng b i * X i * (rw_ng b i * h i) = X i * h i
  rcases rw_ng_cases b i with e | e <;> rw [e] <;> grind
theorem rw_pair_red {s : Nat} (hs : 0 < s) (q X h : Nat → Int) : rw_pair s (rw_redX s q X) (rw_red s q h) = rw_pair s X h := by
  have e : (fun i => rw_redX s q X i * rw_red s q h i)
      = fun i => if i = 0 then (X 0 + rw_S s (fun i => rw_qs s q i * X i)) * h 0 else X i * h i + (- h 0) * (rw_qs s q i * X i) := by
    funext i
    by_cases e0 : i = 0
    · subst e0
      rw [if_pos rfl, rw_red0]
      simp only [rw_redX, if_pos]
    · rw [if_neg e0]
      simp only [rw_redX, rw_red, if_neg e0]
      generalize rw_qs s q i = a
      grind
  unfold rw_pair
  rw [e, rw_S_upd s 0 _ (fun i => X i * h i + (- h 0) * (rw_qs s q i * X i)), if_pos hs, rw_S_add, rw_S_mul]
  simp only [rw_qs0]
  generalize rw_S s (fun i => rw_qs s q i * X i) = T
  generalize rw_S s (fun i => X i * h i) = U
  grind
theorem rw_pair_ph {t : Bool} {s n : Nat} {f X h : Nat → Int} : rw_pair s (rw_phX t s n f X) (rw_ph t s n f h) = rw_pair s X h :=
  rw_ind (P := fun _ H X' => rw_pair s (X' 0) (H 0) = rw_pair s X h) (fun _ _ _ _ hp H => (rw_pair_swp hp _ _).trans H) (fun _ _ _ b _ H => (rw_pair_neg s b _ _).trans H)
    (fun _ _ _ hs _ _ H => (rw_pair_red hs _ _ _).trans H) n f (fun _ => h) (fun _ => X) rfl
/-! the sum of the sizes of f i * X i doesn't grow -/
def rw_QQ (s : Nat) (f X : Nat → Int) : Int := rw_S s (fun i => (((f i).natAbs * (X i).natAbs : Nat) : Int))
theorem rw_QQ_red {s : Nat} (hs : 0 < s) (f X : Nat → Int) : rw_QQ s (rw_red s (fun i => (f i).tdiv (f 0)) f) (rw_redX s (fun i => (f i).tdiv (f 0)) X) ≤ rw_QQ s f X := by
  let f' := rw_red s (fun i => (f i).tdiv (f 0)) f
  let q : Nat → Int := fun i => (f i).tdiv (f 0)
  have hf : ∀ i, i < s → (f' i).natAbs + (f 0).natAbs * (rw_qs s q i).natAbs = (f i).natAbs := by
    intro i hi
    by_cases e : i = 0
    · subst e
      show (rw_red s _ f 0).natAbs + _ = _
      rw [rw_red0, rw_qs0, Int.natAbs_zero, Nat.mul_zero, Nat.add_zero]
    · show (rw_red s _ f i).natAbs + _ = _
      rw [rw_redf f (by omega) hi, rw_qs1 q (by omega) hi]
      show _ + _ * ((f i).tdiv (f 0)).natAbs = _
      rw [Int.natAbs_tmod, rw_tdiv_abs]
      exact Nat.mod_add_div _ _
  have e : (fun i => (((f' i).natAbs * (rw_redX s q X i).natAbs : Nat) : Int))
      = fun i => if i = 0 then (((f 0).natAbs * (X 0 + rw_S s (fun i => rw_qs s q i * X i)).natAbs : Nat) : Int) else (((f' i).natAbs * (X i).natAbs : Nat) : Int) := by
    funext i
    by_cases e0 : i = 0
    · subst e0
      rw [if_pos rfl]
      show (((rw_red s _ f 0).natAbs * _ : Nat) : Int) = _
      rw [rw_red0]
      simp only [rw_redX, if_pos]
    · rw [if_neg e0]
      simp only [rw_redX, if_neg e0]
  have tri := rw_S_tri s (fun i => rw_qs s q i * X i)
  have e2 : rw_S s (fun i => ((rw_qs s q i * X i).natAbs : Int)) = rw_S s (fun i => (((rw_qs s q i).natAbs * (X i).natAbs : Nat) : Int)) :=
    rw_S_congr fun i _ => by rw [Int.natAbs_mul]
  rw [e2] at tri
  have e3 : rw_S s (fun i => (((f i).natAbs * (X i).natAbs : Nat) : Int))
      = rw_S s (fun i => (((f' i).natAbs * (X i).natAbs : Nat) : Int)) + ((f 0).natAbs : Int) * rw_S s (fun i => (((rw_qs s q i).natAbs * (X i).natAbs : Nat) : Int)) := by
    rw [← rw_S_mul, ← rw_S_add]
    refine rw_S_congr fun i hi => ?_
    rw [← hf i hi, Nat.add_mul, Nat.mul_assoc, Int.natCast_add, Int.natCast_mul (f 0).natAbs]
  unfold rw_QQ
  show rw_S s (fun i => (((f' i).natAbs * (rw_redX s q X i).natAbs : Nat) : Int)) ≤ _
  rw [e, rw_S_upd s 0 _ (fun i => (((f' i).natAbs * (X i).natAbs : Nat) : Int)), if_pos hs, e3]
  have hf0 : (f' 0).natAbs = (f 0).natAbs := by
    show (rw_red s _ f 0).natAbs = _
    rw [rw_red0]
  simp only [hf0]
  generalize rw_S s (fun i => rw_qs s q i * X i) = T at tri ⊢
  generalize rw_S s (fun i => (((rw_qs s q i).natAbs * (X i).natAbs : Nat) : Int)) = U at tri ⊢
  generalize rw_S s (fun i => (((f' i).natAbs * (X i).natAbs : Nat) : Int)) = Y
  have h1 : ((X 0 + T).natAbs : Int) ≤ (X 0).natAbs + U := by omega
  have h2 : ((f 0).natAbs : Int) * ((X 0 + T).natAbs : Int) ≤ ((f 0).natAbs : Int) * ((X 0).natAbs + U) := Int.mul_le_mul_of_nonneg_left h1 (by omega)
  rw [Int.mul_add] at h2
  rw [Int.natCast_mul, Int.natCast_mul]
  omega
def rw_BX (s : Nat) (Q R : Int) (f X : Nat → Int) : Prop := rw_QQ s f X ≤ Q ∧ ∀ i, i < s → ((X i).natAbs : Int) ≤ R
theorem rw_BX_ph {t : Bool} {s n : Nat} {Q R : Int} {f X : Nat → Int} (hQ : Q ≤ R) (H : rw_BX s Q R f X) : rw_BX s Q R (rw_ph t s n f f) (rw_phX t s n f X) := by
  refine rw_ind (P := fun f _ X => rw_BX s Q R f (X 0)) (fun f _ X p hp H => ?_) (fun f _ X b _ H => ?_) (fun f _ X hs h0 _ H => ?_) n f (fun _ => f) (fun _ => X) H
  · refine ⟨?_, fun i hi => H.2 _ (rw_sg_lt hp hi)⟩
    have := rw_S_swp hp (fun i => (((f i).natAbs * (X 0 i).natAbs : Nat) : Int))
    exact Int.le_trans (Int.le_of_eq this) H.1
  · refine ⟨?_, fun i hi => ?_⟩
    · have : rw_QQ s (rw_neg b f) (rw_neg b (X 0)) = rw_QQ s f (X 0) := rw_S_congr fun i _ => by
        show (((rw_ng b i * f i).natAbs * (rw_ng b i * X 0 i).natAbs : Nat) : Int) = _
        rw [rw_ng_abs, rw_ng_abs]
      rw [this]; exact H.1
    · show ((rw_ng b i * X 0 i).natAbs : Int) ≤ R
      rw [rw_ng_abs]; exact H.2 i hi
  · have q1 := Int.le_trans (rw_QQ_red hs f (X 0)) H.1
    refine ⟨q1, fun i hi => ?_⟩
    by_cases e : i = 0
    · subst e
      have t1 := rw_S_term (g := fun i => (((rw_red s (fun i => (f i).tdiv (f 0)) f i).natAbs * (rw_redX s (fun i => (f i).tdiv (f 0)) (X 0) i).natAbs : Nat) : Int)) (fun i _ => Int.natCast_nonneg _) hs
      have t2 := Int.le_trans t1 q1
      simp only [rw_red0] at t2
      generalize (rw_redX s (fun i => (f i).tdiv (f 0)) (X 0) 0).natAbs = y at t2 ⊢
      have t3 : y ≤ (f 0).natAbs * y := Nat.le_mul_of_pos_left y (by omega)
      omega
    · have : rw_redX s (fun i => (f i).tdiv (f 0)) (X 0) i = X 0 i := by simp only [rw_redX, if_neg e]
      show ((rw_redX s _ (X 0) i).natAbs : Int) ≤ R
      rw [this]; exact H.2 i hi
/-! at most three rows: coordinates don't grow at all beyond the value of f -/
theorem rw_x3core {f0 f1 f2 g1 g2 X0 X1 X2 Y φ : Int} {M : Nat} (h0 : f0 ≠ 0) (e : f0 * X0 + f1 * X1 + f2 * X2 = φ) (e' : f0 * Y + g1 * X1 + g2 * X2 = φ) (b1 : rw_btw g1 f1) (b2 : rw_btw g2 f2)
    (l1 : g1.natAbs < f0.natAbs) (l2 : g2.natAbs < f0.natAbs) (hX0 : X0.natAbs ≤ M) (hX1 : X1.natAbs ≤ M) (hX2 : X2.natAbs ≤ M) (hφ : φ.natAbs ≤ M) : Y.natAbs ≤ M := by
  have c1 := rw_btw_mul b1 X1
  have c2 := rw_btw_mul b2 X2
  have m1 : (g1 * X1).natAbs + M ≤ f0.natAbs * M := by
    have : (g1 * X1).natAbs ≤ g1.natAbs * M := by rw [Int.natAbs_mul]; exact Nat.mul_le_mul (Nat.le_refl _) hX1
    have h2 : (g1.natAbs + 1) * M ≤ f0.natAbs * M := Nat.mul_le_mul l1 (Nat.le_refl _)
    rw [Nat.succ_mul] at h2
    omega
  have m2 : (g2 * X2).natAbs + M ≤ f0.natAbs * M := by
    have : (g2 * X2).natAbs ≤ g2.natAbs * M := by rw [Int.natAbs_mul]; exact Nat.mul_le_mul (Nat.le_refl _) hX2
    have h2 : (g2.natAbs + 1) * M ≤ f0.natAbs * M := Nat.mul_le_mul l2 (Nat.le_refl _)
    rw [Nat.succ_mul] at h2
    omega
  have m0 : (f0 * X0).natAbs ≤ f0.natAbs * M := by rw [Int.natAbs_mul]; exact Nat.mul_le_mul (Nat.le_refl _) hX0
  have m3 : (f0 * Y).natAbs ≤ f0.natAbs * M := by
    unfold rw_btw at c1 c2
    generalize f0.natAbs * M = T at *
    generalize g1 * X1 = p1 at *
    generalize g2 * X2 = p2 at *
    generalize f1 * X1 = r1 at *
    generalize f2 * X2 = r2 at *
    generalize f0 * X0 = z at *
    generalize f0 * Y = y at *
    omega
  rw [Int.natAbs_mul] at m3
  exact Nat.le_of_mul_le_mul_left m3 (by omega)
def rw_B4 (s M : Nat) (φ : Int) (f X : Nat → Int) : Prop := rw_pair s X f = φ ∧ ∀ i, i < s → (X i).natAbs ≤ M
theorem rw_B4_ph {t : Bool} {s n M : Nat} {φ : Int} {f X : Nat → Int} (hs : s ≤ 3) (hφ : φ.natAbs ≤ M) (H : rw_B4 s M φ f X) : rw_B4 s M φ (rw_ph t s n f f) (rw_phX t s n f X) := by
  refine rw_ind (P := fun f _ X => rw_B4 s M φ f (X 0)) (fun f _ X p hp H => ?_) (fun f _ X b _ H => ?_) (fun f _ X h1 h0 _ H => ?_) n f (fun _ => f) (fun _ => X) H
  · exact ⟨(rw_pair_swp hp _ _).trans H.1, fun i hi => H.2 _ (rw_sg_lt hp hi)⟩
  · refine ⟨(rw_pair_neg s b _ _).trans H.1, fun i hi => ?_⟩
    show (rw_ng b i * X 0 i).natAbs ≤ M
    rw [rw_ng_abs]; exact H.2 i hi
  · have pr := (rw_pair_red h1 (fun i => (f i).tdiv (f 0)) (X 0) f).trans H.1
    refine ⟨pr, fun i hi => ?_⟩
    by_cases e : i = 0
    · subst e
      have old := H.1
      show (rw_redX s (fun i => (f i).tdiv (f 0)) (X 0) 0).natAbs ≤ M
      have tl : ∀ i, i ≠ 0 → rw_redX s (fun i => (f i).tdiv (f 0)) (X 0) i = X 0 i := fun i e => by simp only [rw_redX, if_neg e]
      rcases (show s = 1 ∨ s = 2 ∨ s = 3 by omega) with e1 | e1 | e1
      · subst e1
        simp only [rw_pair, rw_S, rw_red0] at pr old
        refine rw_x3core (f1 := 0) (f2 := 0) (g1 := 0) (g2 := 0) (X1 := 0) (X2 := 0) (φ := φ) h0 (X0 := X 0 0) (by grind) (by grind) (Or.inl ⟨Int.le_refl _, Int.le_refl _⟩) (Or.inl ⟨Int.le_refl _, Int.le_refl _⟩) (by omega) (by omega) (H.2 0 hi) (by omega) (by omega) hφ
      · subst e1
        simp only [rw_pair, rw_S, rw_red0, rw_redf f (show 0 < 1 by omega) (show 1 < 2 by omega), tl 1 (by omega)] at pr old
        refine rw_x3core (f1 := f 1) (f2 := 0) (g1 := (f 1).tmod (f 0)) (g2 := 0) (X1 := X 0 1) (X2 := 0) (φ := φ) h0 (X0 := X 0 0) (by grind) (by grind) (rw_tmod_btw _ _) (Or.inl ⟨Int.le_refl _, Int.le_refl _⟩) (rw_tmod_lt _ h0) (by omega) (H.2 0 hi) (H.2 1 (by omega)) (by omega) hφ
      · subst e1
        simp only [rw_pair, rw_S, rw_red0, rw_redf f (show 0 < 1 by omega) (show 1 < 3 by omega), rw_redf f (show 0 < 2 by omega) (show 2 < 3 by omega), tl 1 (by omega), tl 2 (by omega)] at pr old
        refine rw_x3core (f1 := f 1) (f2 := f 2) (g1 := (f 1).tmod (f 0)) (g2 := (f 2).tmod (f 0)) (X1 := X 0 1) (X2 := X 0 2) (φ := φ) h0 (X0 := X 0 0) (by grind) (by grind) (rw_tmod_btw _ _) (rw_tmod_btw _ _) (rw_tmod_lt _ h0) (rw_tmod_lt _ h0) (H.2 0 hi) (H.2 1 (by omega)) (H.2 2 (by omega)) hφ
    · have : rw_redX s (fun i => (f i).tdiv (f 0)) (X 0) i = X 0 i := by simp only [rw_redX, if_neg e]
      show (rw_redX s _ (X 0) i).natAbs ≤ M
      rw [this]; exact H.2 i hi
/-! a functional that is a sum of others stays so -/
theorem rw_lin_ph {t : Bool} {s n m : Nat} {f h : Nat → Int} {x : Nat → Nat → Int} {b : Nat → Int} (H : ∀ i, i < s → h i = rw_S m (fun j => x j i * b j)) :
    ∀ i, i < s → rw_ph t s n f h i = rw_S m (fun j => rw_ph t s n f (x j) i * b j) := by
  refine rw_ind (P := fun _ H _ => ∀ i, i < s → H 0 i = rw_S m (fun j => H (j + 1) i * b j)) (fun f H _ p hp h i hi => h _ (rw_sg_lt hp hi)) (fun f H _ c _ h i hi => ?_) (fun f H _ hs _ _ h i hi => ?_) n f (fun j => if j = 0 then h else x (j - 1)) (fun _ => h) ?_
  · show rw_ng c i * H 0 i = rw_S m (fun j => rw_ng c i * H (j + 1) i * b j)
    rw [h i hi, ← rw_S_mul]
    exact rw_S_congr fun j _ => by rw [Int.mul_assoc]
  · show H 0 i - rw_qs s _ i * H 0 0 = rw_S m (fun j => (H (j + 1) i - rw_qs s _ i * H (j + 1) 0) * b j)
    rw [h i hi, h 0 hs, Int.sub_eq_add_neg, ← Int.neg_mul, ← rw_S_mul, ← rw_S_add]
    refine rw_S_congr fun j _ => ?_
    grind
  · intro i hi
    show h i = rw_S m (fun j => (if j + 1 = 0 then h else x (j + 1 - 1)) i * b j)
    rw [H i hi]
    rfl
/-! the end of a phase -/
theorem rw_cnt1 {s : Nat} {f : Nat → Int} (h : rw_cnt s f ≤ 1) {i k : Nat} (hi : i < s) (hk : k < s) (fi : f i ≠ 0) (fk : f k ≠ 0) : i = k := by
  induction s with
  | zero => omega
  | succ s ih =>
    simp only [rw_cnt] at h
    by_cases hf : f s = 0
    · have hi' : i ≠ s := fun e => fi (e ▸ hf)
      have hk' : k ≠ s := fun e => fk (e ▸ hf)
      rw [if_pos hf] at h
      exact ih (by omega) (by omega) (by omega)
    · rw [if_neg hf] at h
      have h0 := rw_cnt0.mp (show rw_cnt s f = 0 by omega)
      have a : ¬ i < s := fun hh => fi (h0 i hh)
      have b : ¬ k < s := fun hh => fk (h0 k hh)
      omega
theorem rw_cnt_le1 {s : Nat} {f : Nat → Int} (h : ∀ i, 0 < i → i < s → f i = 0) : rw_cnt s f ≤ 1 := by
  induction s with
  | zero => exact Nat.zero_le _
  | succ s ih =>
    have h1 := ih (fun i a b => h i a (by omega))
    simp only [rw_cnt]
    by_cases e : s = 0
    · subst e
      simp only [rw_cnt]
      split <;> omega
    · rw [if_pos (h s (by omega) (by omega))]; omega
theorem rw_rnd_abs0 (t : Bool) (s : Nat) (f : Nat → Int) : (rw_rnd t s f f 0).natAbs = (f (rw_lst s f)).natAbs := by
  unfold rw_rnd
  rw [rw_red0]
  show (rw_ng _ 0 * f (rw_sg (rw_lst s f) 0)).natAbs = _
  rw [rw_ng_abs]
  simp [rw_sg]
theorem rw_rnd_lt {t : Bool} {s i : Nat} {f : Nat → Int} (hc : rw_cnt s f ≠ 0) (h0 : 0 < i) (h1 : i < s) : (rw_rnd t s f f i).natAbs < (f (rw_lst s f)).natAbs := by
  have sp := rw_lst_spec hc
  have e0 : (rw_pre t s f f 0).natAbs = (f (rw_lst s f)).natAbs := by
    show (rw_ng _ 0 * f (rw_sg (rw_lst s f) 0)).natAbs = _
    rw [rw_ng_abs]
    simp [rw_sg]
  have : rw_rnd t s f f i = (rw_pre t s f f i).tmod (rw_pre t s f f 0) := rw_redf (rw_pre t s f f) h0 h1
  rw [this, ← e0]
  exact rw_tmod_lt _ (by omega)
theorem rw_rnd_one {t : Bool} {s i : Nat} {f : Nat → Int} (hc : rw_cnt s f = 1) (h0 : 0 < i) (h1 : i < s) : rw_rnd t s f f i = 0 := by
  have sp := rw_lst_spec (show rw_cnt s f ≠ 0 by omega)
  have : rw_rnd t s f f i = (rw_pre t s f f i).tmod (rw_pre t s f f 0) := rw_redf (rw_pre t s f f) h0 h1
  rw [this]
  have z : rw_pre t s f f i = 0 := by
    show rw_ng _ i * f (rw_sg (rw_lst s f) i) = 0
    by_cases hz : f (rw_sg (rw_lst s f) i) = 0
    · rw [hz, Int.mul_zero]
    · have e := rw_cnt1 (show rw_cnt s f ≤ 1 by omega) (rw_sg_lt sp.1 h1) sp.1 hz sp.2.1
      have e2 := rw_sg_sg (rw_lst s f) i
      rw [e] at e2
      unfold rw_sg at e2
      by_cases hp : rw_lst s f = 0
      · rw [if_pos hp] at e2; omega
      · rw [if_neg hp, if_pos rfl] at e2; omega
  rw [z, Int.zero_tmod]
theorem rw_ph_fin {t : Bool} {s n : Nat} {f : Nat → Int} (hn : (f (rw_lst s f)).natAbs < n ∨ (rw_cnt s f ≤ 1 ∧ 0 < n)) : ∀ i, 0 < i → i < s → rw_ph t s n f f i = 0 := by
  induction n generalizing f with
  | zero => omega
  | succ n ih =>
    intro i h0 h1
    simp only [rw_ph]
    by_cases c0 : rw_cnt s f = 0
    · rw [if_pos c0]; exact rw_cnt0.mp c0 i h1
    · rw [if_neg c0]
      by_cases c1 : rw_cnt s f = 1
      · rw [if_pos c1]; exact rw_rnd_one c1 h0 h1
      · rw [if_neg c1]
        have sp := rw_lst_spec c0
        have hn' : (f (rw_lst s f)).natAbs < n + 1 := by omega
        refine ih ?_ i h0 h1
        by_cases hz : ∀ k, 0 < k → k < s → rw_rnd t s f f k = 0
        · exact Or.inr ⟨rw_cnt_le1 hz, by omega⟩
        · refine Or.inl ?_
          have ⟨k, hk⟩ := Classical.not_forall.mp hz
          have ⟨k0, hk⟩ := Classical.not_imp.mp hk
          have ⟨k1, hk⟩ := Classical.not_imp.mp hk
          have hc' : rw_cnt s (rw_rnd t s f f) ≠ 0 := fun e => hk (rw_cnt0.mp e k k1)
          have sp' := (rw_lst_spec hc').2.2 k k1 hk
          have := rw_rnd_lt (t := t) c0 k0 k1
          omega
theorem rw_ph_ne {t : Bool} {s n : Nat} {f : Nat → Int} (hc : rw_cnt s f ≠ 0) : rw_cnt s (rw_ph t s n f f) ≠ 0 := by
  have ex : ∀ {g : Nat → Int}, (∃ i, i < s ∧ g i ≠ 0) → rw_cnt s g ≠ 0 := fun ⟨i, hi, hg⟩ e => hg (rw_cnt0.mp e i hi)
  refine ex (rw_ind (P := fun f _ _ => ∃ i, i < s ∧ f i ≠ 0) (fun f _ _ p hp ⟨i, hi, h⟩ => ⟨rw_sg p i, rw_sg_lt hp hi, ?_⟩) (fun f _ _ b _ ⟨i, hi, h⟩ => ⟨i, hi, fun e => h ?_⟩) (fun f _ _ hs h0 _ _ => ⟨0, hs, ?_⟩) n f (fun _ => f) (fun _ => f) ?_)
  · show f (rw_sg p (rw_sg p i)) ≠ 0
    rw [rw_sg_sg]; exact h
  · have := rw_ng_abs b i (f i)
    have e' : rw_ng b i * f i = 0 := e
    rw [e'] at this
    omega
  · rw [rw_red0]; exact h0
  · have sp := rw_lst_spec hc
    exact ⟨_, sp.1, sp.2.1⟩
/-- at its end row 0 alone has a value -/
theorem rw_ph_ne0 {t : Bool} {s n : Nat} {f : Nat → Int} (hc : rw_cnt s f ≠ 0) (hn : (f (rw_lst s f)).natAbs < n) : rw_ph t s n f f 0 ≠ 0 := by
  intro e
  refine rw_ph_ne (t := t) (n := n) hc (rw_cnt0.mpr fun i hi => ?_)
  by_cases h0 : i = 0
  · subst h0; exact e
  · exact rw_ph_fin (Or.inl hn) i (by omega) hi
