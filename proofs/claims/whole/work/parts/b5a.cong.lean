/-! a phase sees its own rows alone -/
theorem rw_cnt_cong {s : Nat} {f g : Nat → Int} (h : ∀ i, i < s → f i = g i) : rw_cnt s f = rw_cnt s g := by
  induction s with
  | zero => rfl
  | succ s ih => simp only [rw_cnt]; rw [ih (fun i hi => h i (by omega)), h s (by omega)]
theorem rw_least_cong {s : Nat} {f g : Nat → Int} (h : ∀ i, i < s → f i = g i) : rw_least s f = rw_least s g := by
  induction s with
  | zero => rfl
  | succ s ih =>
    simp only [rw_least]
    rw [← ih (fun i hi => h i (by omega)), h s (by omega)]
    cases hl : rw_least s f with
    | none => rfl
    | some p =>
      simp only
      rw [h p (by have := (rw_least_some hl).1; omega)]
theorem rw_pre_cong {t : Bool} {s : Nat} {f g : Nat → Int} (h : ∀ i, i < s → f i = g i) (hc : rw_cnt s f ≠ 0) (k : Nat → Int) : rw_pre t s f k = rw_pre t s g k := by
  have e : rw_lst s f = rw_lst s g := by unfold rw_lst; rw [rw_least_cong h]
  unfold rw_pre
  rw [← e, h _ (rw_lst_spec hc).1]
theorem rw_pref_cong {t : Bool} {s i : Nat} {f g : Nat → Int} (h : ∀ i, i < s → f i = g i) (hc : rw_cnt s f ≠ 0) (hi : i < s) : rw_pre t s f f i = rw_pre t s g g i := by
  rw [rw_pre_cong h hc f]
  have sp := (rw_lst_spec hc).1
  have e : rw_lst s f = rw_lst s g := by unfold rw_lst; rw [rw_least_cong h]
  show rw_ng _ i * f (rw_sg (rw_lst s g) i) = rw_ng _ i * g (rw_sg (rw_lst s g) i)
  rw [h _ (rw_sg_lt (by rw [← e]; exact sp) hi)]
theorem rw_qs_cong {t : Bool} {s : Nat} {f g : Nat → Int} (h : ∀ i, i < s → f i = g i) (hc : rw_cnt s f ≠ 0) : rw_qs s (rw_q t s f) = rw_qs s (rw_q t s g) := by
  funext i
  unfold rw_qs
  by_cases hi : 0 < i ∧ i < s
  · rw [if_pos hi, if_pos hi]
    unfold rw_q
    rw [rw_pref_cong h hc hi.2, rw_pref_cong h hc (by omega)]
  · rw [if_neg hi, if_neg hi]
theorem rw_rnd_cong {t : Bool} {s : Nat} {f g : Nat → Int} (h : ∀ i, i < s → f i = g i) (hc : rw_cnt s f ≠ 0) (k : Nat → Int) : rw_rnd t s f k = rw_rnd t s g k := by
  funext i
  show rw_pre t s f k i - rw_qs s (rw_q t s f) i * rw_pre t s f k 0 = rw_pre t s g k i - rw_qs s (rw_q t s g) i * rw_pre t s g k 0
  rw [rw_qs_cong h hc, rw_pre_cong h hc]
theorem rw_rndX_cong {t : Bool} {s : Nat} {f g : Nat → Int} (h : ∀ i, i < s → f i = g i) (hc : rw_cnt s f ≠ 0) (k : Nat → Int) : rw_rndX t s f k = rw_rndX t s g k := by
  unfold rw_rndX rw_redX
  rw [rw_qs_cong h hc, rw_pre_cong h hc]
theorem rw_rndf_cong {t : Bool} {s : Nat} {f g : Nat → Int} (h : ∀ i, i < s → f i = g i) (hc : rw_cnt s f ≠ 0) : ∀ i, i < s → rw_rnd t s f f i = rw_rnd t s g g i := by
  intro i hi
  have h0 : 0 < s := by omega
  show rw_pre t s f f i - rw_qs s (rw_q t s f) i * rw_pre t s f f 0 = rw_pre t s g g i - rw_qs s (rw_q t s g) i * rw_pre t s g g 0
  rw [rw_qs_cong h hc, rw_pref_cong h hc hi, rw_pref_cong h hc h0]
theorem rw_ph_cong {t : Bool} {s n : Nat} {f g : Nat → Int} (h : ∀ i, i < s → f i = g i) (k : Nat → Int) : rw_ph t s n f k = rw_ph t s n g k := by
  induction n generalizing f g k with
  | zero => rfl
  | succ n ih =>
    simp only [rw_ph]
    rw [← rw_cnt_cong h]
    by_cases hc : rw_cnt s f = 0
    · rw [if_pos hc, if_pos hc]
    · rw [if_neg hc, if_neg hc, ← rw_rnd_cong h hc]
      by_cases h1 : rw_cnt s f = 1
      · rw [if_pos h1, if_pos h1]
      · rw [if_neg h1, if_neg h1, ih (rw_rndf_cong h hc)]
theorem rw_phX_cong {t : Bool} {s n : Nat} {f g : Nat → Int} (h : ∀ i, i < s → f i = g i) (k : Nat → Int) : rw_phX t s n f k = rw_phX t s n g k := by
  induction n generalizing f g k with
  | zero => rfl
  | succ n ih =>
    simp only [rw_phX]
    rw [← rw_cnt_cong h]
    by_cases hc : rw_cnt s f = 0
    · rw [if_pos hc, if_pos hc]
    · rw [if_neg hc, if_neg hc, ← rw_rndX_cong h hc]
      by_cases h1 : rw_cnt s f = 1
      · rw [if_pos h1, if_pos h1]
      · rw [if_neg h1, if_neg h1, ih (rw_rndf_cong h hc)]
