/-! LATTICES 13: a phase doesn't see a factor of f; coordinates in the basis before -/
theorem rw_mul0 {l a : Int} (hl : 0 < l) : l * a = 0 ↔ a = 0 := by
  constructor
  · intro h
    rcases Int.mul_eq_zero.mp h with h | h
    · omega
    · exact h
  · intro h; rw [h, Int.mul_zero]
theorem rw_mulneg {l a : Int} (hl : 0 < l) : l * a < 0 ↔ a < 0 := by
  constructor
  · intro h
    apply Classical.byContradiction
    intro hn
    have := Int.mul_nonneg (show 0 ≤ l by omega) (show 0 ≤ a by omega)
    omega
  · intro h
    exact Int.mul_neg_of_pos_of_neg hl h
section SC
variable {s : Nat} {f : Nat → Int} {l : Int}
theorem rw_cnt_sc (hl : 0 < l) : rw_cnt s (fun i => l * f i) = rw_cnt s f := by
  induction s with
  | zero => rfl
  | succ s ih =>
    simp only [rw_cnt]
    rw [ih]
    by_cases h : f s = 0
    · rw [if_pos h, if_pos ((rw_mul0 hl).mpr h)]
    · rw [if_neg h, if_neg (fun e => h ((rw_mul0 hl).mp e))]
theorem rw_least_sc (hl : 0 < l) : rw_least s (fun i => l * f i) = rw_least s f := by
  induction s with
  | zero => rfl
  | succ s ih =>
    simp only [rw_least]
    rw [ih]
    cases rw_least s f with
    | none =>
      simp only
      by_cases h : f s = 0
      · rw [if_pos h, if_pos ((rw_mul0 hl).mpr h)]
      · rw [if_neg h, if_neg (fun e => h ((rw_mul0 hl).mp e))]
    | some p =>
      simp only
      have e : (l * f s ≠ 0 ∧ (l * f s).natAbs < (l * f p).natAbs) ↔ (f s ≠ 0 ∧ (f s).natAbs < (f p).natAbs) := by
        rw [Int.natAbs_mul, Int.natAbs_mul]
        constructor
        · intro ⟨h1, h2⟩
          exact ⟨fun e => h1 ((rw_mul0 hl).mpr e), Nat.lt_of_mul_lt_mul_left h2⟩
        · intro ⟨h1, h2⟩
          exact ⟨fun e => h1 ((rw_mul0 hl).mp e), Nat.mul_lt_mul_of_pos_left h2 (by omega)⟩
      by_cases h : f s ≠ 0 ∧ (f s).natAbs < (f p).natAbs
      · rw [if_pos h, if_pos (e.mpr h)]
      · rw [if_neg h, if_neg (fun h' => h (e.mp h'))]
theorem rw_lst_sc (hl : 0 < l) : rw_lst s (fun i => l * f i) = rw_lst s f := by unfold rw_lst; rw [rw_least_sc hl]
theorem rw_pre_sc {t : Bool} (hl : 0 < l) (h : Nat → Int) : rw_pre t s (fun i => l * f i) h = rw_pre t s f h := by
  unfold rw_pre
  rw [rw_lst_sc hl]
  have : decide (l * f (rw_lst s f) < 0) = decide (f (rw_lst s f) < 0) := decide_eq_decide.mpr (rw_mulneg hl)
  rw [this]
theorem rw_q_sc {t : Bool} (hl : 0 < l) : rw_q t s (fun i => l * f i) = rw_q t s f := by
  funext i
  unfold rw_q
  rw [rw_pre_sc hl]
  have e : ∀ i, rw_pre t s f (fun i => l * f i) i = l * rw_pre t s f f i := fun i => by
    show rw_ng _ i * (l * f _) = l * (rw_ng _ i * f _)
    grind
  rw [e, e]
  exact Int.mul_tdiv_mul_of_pos _ _ hl
theorem rw_rnd_sc {t : Bool} (hl : 0 < l) (h : Nat → Int) : rw_rnd t s (fun i => l * f i) h = rw_rnd t s f h := by
  unfold rw_rnd
  rw [rw_q_sc hl, rw_pre_sc hl]
theorem rw_rndX_sc {t : Bool} (hl : 0 < l) (h : Nat → Int) : rw_rndX t s (fun i => l * f i) h = rw_rndX t s f h := by
  unfold rw_rndX
  rw [rw_q_sc hl, rw_pre_sc hl]
theorem rw_rnd_scf {t : Bool} (hl : 0 < l) : rw_rnd t s (fun i => l * f i) (fun i => l * f i) = fun i => l * rw_rnd t s f f i := by
  rw [rw_rnd_sc hl]
  funext i
  show rw_pre t s f (fun i => l * f i) i - _ * rw_pre t s f (fun i => l * f i) 0 = l * (rw_pre t s f f i - _ * rw_pre t s f f 0)
  have e : ∀ i, rw_pre t s f (fun i => l * f i) i = l * rw_pre t s f f i := fun i => by
    show rw_ng _ i * (l * f _) = l * (rw_ng _ i * f _)
    grind
  rw [e, e]
  grind
end SC
theorem rw_ph_sc {t : Bool} {s n : Nat} {f : Nat → Int} {l : Int} (hl : 0 < l) (h : Nat → Int) : rw_ph t s n (fun i => l * f i) h = rw_ph t s n f h := by
  induction n generalizing f h with
  | zero => rfl
  | succ n ih => simp only [rw_ph]; rw [rw_cnt_sc hl, rw_rnd_sc hl, rw_rnd_scf hl, ih]
theorem rw_phX_sc {t : Bool} {s n : Nat} {f : Nat → Int} {l : Int} (hl : 0 < l) (h : Nat → Int) : rw_phX t s n (fun i => l * f i) h = rw_phX t s n f h := by
  induction n generalizing f h with
  | zero => rfl
  | succ n ih => simp only [rw_phX]; rw [rw_cnt_sc hl, rw_rndX_sc hl, rw_rnd_scf hl, ih]
/-! what stands at some columns is settled by them alone -/
theorem rw_dot_ext {n : Nat} {a : Nat → Int} {V W : Nat → Nat → Int} (h : ∀ i c, c < n → V i c = W i c) : (fun i => rw_dot n a (V i)) = fun i => rw_dot n a (W i) := funext fun i => rw_dot_congr (h i)
theorem rw_nar_ext {n m : Nat} {a : Nat → Int} {V W : Nat → Nat → Int} (h : ∀ i c, c < n → V i c = W i c) (i c : Nat) (hc : c < n) : rw_nar n m a V i c = rw_nar n m a W i c := by
  unfold rw_nar
  rw [rw_dot_ext h, show (fun i => V i c) = fun i => W i c from funext fun i => h i c hc]
theorem rw_ord1_ext {n m c d : Nat} {V W : Nat → Nat → Int} (hc : c < n) (h : ∀ i c, c < n → V i c = W i c) : (rw_ord1 m c V d).2 = (rw_ord1 m c W d).2 ∧ ∀ i c', c' < n → (rw_ord1 m c V d).1 i c' = (rw_ord1 m c W d).1 i c' := by
  have e : ∀ c', c' < n → (fun j => V (d + j) c') = fun j => W (d + j) c' := fun c' hc' => funext fun j => h _ c' hc'
  unfold rw_ord1
  rw [e c hc]
  by_cases hz : rw_cnt (m - d) (fun j => W (d + j) c) = 0
  · rw [if_pos hz, if_pos hz]; exact ⟨rfl, h⟩
  · rw [if_neg hz, if_neg hz]
    have g : ∀ i c', c' < n → rw_gat m d c V i c' = rw_gat m d c W i c' := fun i c' hc' => by
      unfold rw_gat
      rw [e c hc, e c' hc', h i c' hc']
    refine ⟨rfl, fun i c' hc' => ?_⟩
    show rw_rdu d c (rw_gat m d c V) i c' = rw_rdu d c (rw_gat m d c W) i c'
    unfold rw_rdu
    rw [g i c' hc', g i c hc, g d c hc, g d c' hc']
theorem rw_ordN_ext {n m c : Nat} {V W : Nat → Nat → Int} (hc : c ≤ n) (h : ∀ i c, c < n → V i c = W i c) : (rw_ordN m V c).2 = (rw_ordN m W c).2 ∧ ∀ i c', c' < n → (rw_ordN m V c).1 i c' = (rw_ordN m W c).1 i c' := by
  induction c with
  | zero => exact ⟨rfl, h⟩
  | succ c ih =>
    obtain ⟨h1, h2⟩ := ih (by omega)
    have := rw_ord1_ext (n := n) (m := m) (d := (rw_ordN m W c).2) (show c < n by omega) h2
    simp only [rw_ordN]
    rw [h1]
    exact this
/-! a column that is a sum of others stays so -/
def rw_lin (n m m1 : Nat) (b W : Nat → Nat → Int) : Prop := ∀ i, i < m1 → ∀ c, c < n → W i c = rw_S m (fun j => W i (n + j) * b j c)
theorem rw_lin_gat {n m m1 d c : Nat} {b W : Nat → Nat → Int} (H : rw_lin n m m1 b W) : rw_lin n m m1 b (rw_gat m1 d c W) := by
  intro i hi c' hc'
  by_cases hid : i < d
  · rw [rw_gat_lo hid, H i hi c' hc']
    exact rw_S_congr fun j _ => by rw [rw_gat_lo hid]
  · have e : d + (i - d) = i := by omega
    have l := rw_lin_ph (t := true) (s := m1 - d) (n := rw_fu (m1 - d) (fun j => W (d + j) c)) (m := m) (f := fun j => W (d + j) c) (h := fun j => W (d + j) c') (x := fun k j => W (d + j) (n + k)) (b := fun k => b k c')
      (fun j hj => H (d + j) (by omega) c' hc') (i - d) (by omega)
    have g : ∀ c'', rw_gat m1 d c W i c'' = rw_ph true (m1 - d) (rw_fu (m1 - d) (fun j => W (d + j) c)) (fun j => W (d + j) c) (fun j => W (d + j) c'') (i - d) := fun c'' => by
      have := rw_gat_hi (m := m1) (d := d) (c := c) (j := i - d) (c' := c'') (V := W)
      rw [e] at this
      exact this
    rw [g c', l]
    exact rw_S_congr fun j _ => by rw [g (n + j)]
theorem rw_lin_rdu {n m m1 d c : Nat} {b W : Nat → Nat → Int} (hd : d < m1) (H : rw_lin n m m1 b W) : rw_lin n m m1 b (rw_rdu d c W) := by
  intro i hi c' hc'
  unfold rw_rdu
  by_cases hid : i < d
  · simp only [if_pos hid]
    rw [H i hi c' hc', H d hd c' hc', Int.sub_eq_add_neg, ← Int.neg_mul, ← rw_S_mul, ← rw_S_add]
    exact rw_S_congr fun j _ => by grind
  · simp only [if_neg hid]
    exact H i hi c' hc'
theorem rw_lin_ord {n m m1 c : Nat} {b W : Nat → Nat → Int} (H : rw_lin n m m1 b W) : rw_lin n m m1 b (rw_ordN m1 W c).1 := by
  induction c with
  | zero => exact H
  | succ c ih =>
    simp only [rw_ordN]
    unfold rw_ord1
    by_cases hz : rw_cnt (m1 - (rw_ordN m1 W c).2) (fun j => (rw_ordN m1 W c).1 ((rw_ordN m1 W c).2 + j) c) = 0
    · rw [if_pos hz]; exact ih
    · rw [if_neg hz]
      have := (rw_lst_spec hz).1
      exact rw_lin_rdu (by omega) (rw_lin_gat ih)
/-- a row that is 0 on the first c columns has no part in the rows that lead there -/
theorem rw_lin_zero {n m m1 c i : Nat} {b W : Nat → Nat → Int} {ld : Nat → Nat} (Hb : rw_HNF n m b ld) (H : rw_lin n m m1 b W) (hi : i < m1) (h0 : ∀ c', c' < c → W i c' = 0) : ∀ j, j < m → ld j < c → W i (n + j) = 0 := by
  intro j
  induction j using Nat.strongRecOn with
  | ind j ih =>
    intro hj hlt
    obtain ⟨b1, b2, b3, b4⟩ := Hb j hj
    have e := H i hi (ld j) b1
    rw [h0 _ hlt, rw_S_one (i := j) hj (fun k hk hne => by
      rcases Nat.lt_or_ge k j with h | h
      · rw [ih k h hk (by have := (b4 k h).1; omega), Int.zero_mul]
      · rw [(Hb k hk).2.1 (ld j) ((Hb k hk).2.2.2 j (by omega)).1, Int.mul_zero])] at e
    rcases Int.mul_eq_zero.mp e.symm with h | h
    · exact h
    · omega
theorem rw_lin_in {n m m1 i : Nat} {b W : Nat → Nat → Int} (H : rw_lin n m m1 b W) (hi : i < m1) : rw_in n m b (W i) := ⟨fun j => W i (n + j), fun c hc => H i hi c hc⟩
/-- where some row that is left has a value, a row before led, and the values are its parts times that lead -/
theorem rw_lin_col {n m m1 c d : Nat} {b W : Nat → Nat → Int} {ld : Nat → Nat} (Hb : rw_HNF n m b ld) (H : rw_lin n m m1 b W) (hc : c < n) (h0 : ∀ i, d ≤ i → i < m1 → ∀ c', c' < c → W i c' = 0)
    (hz : rw_cnt (m1 - d) (fun j => W (d + j) c) ≠ 0) : ∃ k, k < m ∧ ld k = c ∧ ∀ i, d ≤ i → i < m1 → W i c = b k c * W i (n + k) := by
  have sp := rw_lst_spec hz
  obtain ⟨k, hk, e, -⟩ := rw_lead_at Hb (rw_lin_in H (i := d + rw_lst (m1 - d) (fun j => W (d + j) c)) (by omega)) hc (h0 _ (by omega) (by omega)) sp.2.1
  refine ⟨k, hk, e, fun i hi1 hi2 => ?_⟩
  rw [H i hi2 c hc, rw_S_one (i := k) hk (fun j hj hne => by
    rcases Nat.lt_or_ge j k with h | h
    · have : ld j < c := by rw [← e]; exact ((Hb k hk).2.2.2 j h).1
      rw [rw_lin_zero Hb H hi2 (h0 i hi1 hi2) j hj this, Int.zero_mul]
    · rw [(Hb j hj).2.1 c (by rw [← e]; exact ((Hb j hj).2.2.2 k (by omega)).1), Int.mul_zero]), Int.mul_comm]
