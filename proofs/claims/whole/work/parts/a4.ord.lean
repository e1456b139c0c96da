/-! LATTICES 4: the reference's narrow and order, over whole numbers of any size, are right -/
theorem rw_S_comm (n m : Nat) (g : Nat → Nat → Int) : rw_S n (fun i => rw_S m (fun j => g i j)) = rw_S m (fun j => rw_S n (fun i => g i j)) := by
  induction n with
  | zero => simp only [rw_S]; exact (rw_S_zero (fun _ _ => rfl)).symm
  | succ n ih => simp only [rw_S]; rw [ih, ← rw_S_add]
def rw_u (k : Nat) : Nat → Int := fun i => if i = k then 1 else 0
theorem rw_S_u {n k : Nat} (hk : k < n) (g : Nat → Int) : rw_S n (fun i => rw_u k i * g i) = g k := by
  have e : (fun i => rw_u k i * g i) = fun i => if i = k then g k else (fun _ => (0 : Int)) i := by
    funext i
    unfold rw_u
    by_cases h : i = k
    · rw [if_pos h, if_pos h, h, Int.one_mul]
    · rw [if_neg h, if_neg h, Int.zero_mul]
  rw [e, rw_S_upd n k (g k) (fun _ => 0), if_pos hk, rw_S_zero (fun _ _ => rfl)]
  omega
/-- v is a sum of whole multiples of m rows, on n columns -/
def rw_in (n m : Nat) (V : Nat → Nat → Int) (v : Nat → Int) : Prop := ∃ X : Nat → Int, ∀ c, c < n → v c = rw_S m (fun k => X k * V k c)
theorem rw_in_row {n m k : Nat} (V : Nat → Nat → Int) (hk : k < m) : rw_in n m V (V k) := ⟨rw_u k, fun c _ => (rw_S_u hk (fun i => V i c)).symm⟩
theorem rw_in_congr {n m : Nat} {V : Nat → Nat → Int} {v w : Nat → Int} (h : ∀ c, c < n → v c = w c) (H : rw_in n m V v) : rw_in n m V w := by
  obtain ⟨X, hX⟩ := H
  exact ⟨X, fun c hc => by rw [← h c hc, hX c hc]⟩
theorem rw_in_trans {n m m' : Nat} {V V' : Nat → Nat → Int} {v : Nat → Int} (h : ∀ k, k < m → rw_in n m' V' (V k)) (H : rw_in n m V v) : rw_in n m' V' v := by
  obtain ⟨X, hX⟩ := H
  have hY : ∃ Y : Nat → Nat → Int, ∀ k, k < m → ∀ c, c < n → V k c = rw_S m' (fun i => Y k i * V' i c) := by
    refine ⟨fun k => if hk : k < m then Classical.choose (h k hk) else fun _ => 0, fun k hk c hc => ?_⟩
    have := Classical.choose_spec (h k hk) c hc
    simp only [dif_pos hk]
    exact this
  obtain ⟨Y, hY⟩ := hY
  refine ⟨fun i => rw_S m (fun k => X k * Y k i), fun c hc => ?_⟩
  rw [hX c hc]
  have e1 : rw_S m (fun k => X k * V k c) = rw_S m (fun k => rw_S m' (fun i => X k * (Y k i * V' i c))) :=
    rw_S_congr fun k hk => by rw [hY k hk c hc, rw_S_mul]
  rw [e1, rw_S_comm]
  refine rw_S_congr fun i _ => ?_
  have e2 : rw_S m (fun k => X k * Y k i) * V' i c = V' i c * rw_S m (fun k => X k * Y k i) := Int.mul_comm _ _
  rw [e2, ← rw_S_mul]
  exact rw_S_congr fun k _ => by grind
theorem rw_in_sub {n m : Nat} {V : Nat → Nat → Int} {v w : Nat → Int} (a : Int) (hv : rw_in n m V v) (hw : rw_in n m V w) : rw_in n m V (fun c => v c - a * w c) := by
  obtain ⟨X, hX⟩ := hv
  obtain ⟨Y, hY⟩ := hw
  refine ⟨fun k => X k + (-a) * Y k, fun c hc => ?_⟩
  show v c - a * w c = rw_S m (fun k => (X k + (-a) * Y k) * V k c)
  rw [hX c hc, hY c hc]
  have e1 : rw_S m (fun k => (X k + (-a) * Y k) * V k c) = rw_S m (fun k => X k * V k c + (-a) * (Y k * V k c)) := rw_S_congr fun k _ => by grind
  rw [e1, rw_S_add, rw_S_mul]
  grind
/-- enough rounds -/
def rw_fu (s : Nat) (f : Nat → Int) : Nat := (f (rw_lst s f)).natAbs + 1
def rw_PH (t : Bool) (s : Nat) (f h : Nat → Int) : Nat → Int := rw_ph t s (rw_fu s f) f h
def rw_PX (t : Bool) (s : Nat) (f X : Nat → Int) : Nat → Int := rw_phX t s (rw_fu s f) f X
theorem rw_PH_fin {t : Bool} {s : Nat} {f : Nat → Int} {i : Nat} (h0 : 0 < i) (h1 : i < s) : rw_PH t s f f i = 0 := rw_ph_fin (Or.inl (Nat.lt_succ_self _)) i h0 h1
theorem rw_PH_ne0 {t : Bool} {s : Nat} {f : Nat → Int} (hc : rw_cnt s f ≠ 0) : rw_PH t s f f 0 ≠ 0 := rw_ph_ne0 hc (Nat.lt_succ_self _)
theorem rw_ph_tail {t : Bool} {s n : Nat} {f h : Nat → Int} {i : Nat} (hi : s ≤ i) : rw_ph t s n f h i = h i := by
  have one : ∀ {f h : Nat → Int}, rw_cnt s f ≠ 0 → rw_rnd t s f h i = h i := by
    intro f h hc
    have sp := rw_lst_spec hc
    have e1 : rw_qs s (rw_q t s f) i = 0 := by unfold rw_qs; rw [if_neg (by omega)]
    show rw_pre t s f h i - rw_qs s (rw_q t s f) i * _ = h i
    rw [e1, Int.zero_mul, Int.sub_zero]
    show rw_ng _ i * h (rw_sg (rw_lst s f) i) = h i
    have e2 : rw_sg (rw_lst s f) i = i := by unfold rw_sg; rw [if_neg (by omega), if_neg (by omega)]
    have e3 : ∀ b, rw_ng b i = 1 := fun b => by unfold rw_ng; rw [if_neg (fun hh => by omega)]
    rw [e2, e3, Int.one_mul]
  induction n generalizing f h with
  | zero => rfl
  | succ n ih =>
    simp only [rw_ph]
    by_cases c0 : rw_cnt s f = 0
    · rw [if_pos c0]
    · rw [if_neg c0]
      by_cases c1 : rw_cnt s f = 1
      · rw [if_pos c1]; exact one c0
      · rw [if_neg c1, ih]; exact one c0
/-- the rows behind a phase are sums of those before, and the other way round -/
theorem rw_ph_in {t : Bool} {n s N : Nat} {f : Nat → Int} {R : Nat → Nat → Int} {i : Nat} (hi : i < s) : rw_in n s R (fun c => rw_ph t s N f (fun j => R j c) i) :=
  ⟨fun k => rw_ph t s N f (rw_u k) i, fun c _ => rw_lin_ph (x := fun k => rw_u k) (b := fun k => R k c) (fun j hj => by
    have : rw_S s (fun k => rw_u k j * R k c) = rw_S s (fun k => rw_u j k * R k c) := rw_S_congr fun k _ => by
      unfold rw_u
      by_cases e : j = k
      · rw [if_pos e, if_pos e.symm]
      · rw [if_neg e, if_neg (fun h => e h.symm)]
    rw [this, rw_S_u hj (fun k => R k c)]) i hi⟩
theorem rw_ph_in2 {t : Bool} {n s N : Nat} {f : Nat → Int} {R : Nat → Nat → Int} {k : Nat} (hk : k < s) : rw_in n s (fun i c => rw_ph t s N f (fun j => R j c) i) (R k) :=
  ⟨rw_phX t s N f (rw_u k), fun c _ => by
    have := rw_pair_ph (t := t) (s := s) (n := N) (f := f) (X := rw_u k) (h := fun j => R j c)
    rw [show rw_pair s (rw_u k) (fun j => R j c) = R k c from rw_S_u hk (fun j => R j c)] at this
    exact this.symm⟩
/-! narrow -/
def rw_dot (n : Nat) (a : Nat → Int) (v : Nat → Int) : Int := rw_S n (fun c => a c * v c)
def rw_nar (n m : Nat) (a : Nat → Int) (V : Nat → Nat → Int) : Nat → Nat → Int :=
  fun i c => rw_PH false m (fun i => rw_dot n a (V i)) (fun i => V i c) i
theorem rw_dot_S (n m : Nat) (a X : Nat → Int) (V : Nat → Nat → Int) : rw_dot n a (fun c => rw_S m (fun k => X k * V k c)) = rw_S m (fun k => X k * rw_dot n a (V k)) := by
  unfold rw_dot
  have e1 : rw_S n (fun c => a c * rw_S m (fun k => X k * V k c)) = rw_S n (fun c => rw_S m (fun k => a c * (X k * V k c))) := rw_S_congr fun c _ => (rw_S_mul _ _ _).symm
  rw [e1, rw_S_comm]
  refine rw_S_congr fun k _ => ?_
  rw [← rw_S_mul]
  exact rw_S_congr fun c _ => by grind
theorem rw_dot_congr {n : Nat} {a v w : Nat → Int} (h : ∀ c, c < n → v c = w c) : rw_dot n a v = rw_dot n a w := rw_S_congr fun c hc => by rw [h c hc]
/-- the values of the row behind narrow -/
theorem rw_nar_dot {n m : Nat} {a : Nat → Int} {V : Nat → Nat → Int} {i : Nat} (hi : i < m) :
    rw_dot n a (rw_nar n m a V i) = rw_PH false m (fun i => rw_dot n a (V i)) (fun i => rw_dot n a (V i)) i := by
  have l := rw_lin_ph (t := false) (s := m) (n := rw_fu m (fun i => rw_dot n a (V i))) (m := n) (f := fun i => rw_dot n a (V i)) (h := fun i => rw_dot n a (V i)) (x := fun c i => V i c) (b := a)
    (fun j _ => rw_S_congr fun c _ => Int.mul_comm _ _) i hi
  unfold rw_PH
  rw [l]
  unfold rw_dot
  refine rw_S_congr fun c hc => ?_
  rw [Int.mul_comm]
  rfl
theorem rw_nar_in {n m : Nat} {a : Nat → Int} {V : Nat → Nat → Int} {i : Nat} (hi : i < m) : rw_in n m V (rw_nar n m a V i) :=
  rw_ph_in (t := false) (N := rw_fu m (fun i => rw_dot n a (V i))) (f := fun i => rw_dot n a (V i)) hi
theorem rw_nar_in2 {n m : Nat} {a : Nat → Int} {V : Nat → Nat → Int} {k : Nat} (hk : k < m) : rw_in n m (rw_nar n m a V) (V k) :=
  rw_ph_in2 (t := false) (n := n) (N := rw_fu m (fun i => rw_dot n a (V i))) (f := fun i => rw_dot n a (V i)) (R := V) hk
/-- all that has the value 0 is a sum of the rows behind the first -/
theorem rw_nar_ker {n m : Nat} {a : Nat → Int} {V : Nat → Nat → Int} {v : Nat → Int} (hc : rw_cnt m (fun i => rw_dot n a (V i)) ≠ 0) (hv : rw_in n m V v) (h0 : rw_dot n a v = 0) :
    rw_in n (m - 1) (fun i => rw_nar n m a V (i + 1)) v := by
  obtain ⟨X, hX⟩ := rw_in_trans (fun k hk => rw_nar_in2 (a := a) hk) hv
  have hm : 0 < m := by have := (rw_lst_spec hc).1; omega
  have split : ∀ g : Nat → Int, rw_S m g = g 0 + rw_S (m - 1) (fun i => g (i + 1)) := by
    intro g
    obtain ⟨k, rfl⟩ : ∃ k, m = k + 1 := ⟨m - 1, by omega⟩
    show rw_S (k + 1) g = g 0 + rw_S k (fun i => g (i + 1))
    clear hX hc hv hm
    induction k with
    | zero => simp only [rw_S]; omega
    | succ k ih =>
      have : rw_S (k + 1 + 1) g = rw_S (k + 1) g + g (k + 1) := rfl
      rw [this, ih]
      simp only [rw_S]
      omega
  have d1 : rw_dot n a v = rw_S m (fun i => X i * rw_dot n a (rw_nar n m a V i)) := by
    rw [rw_dot_congr hX, rw_dot_S]
  rw [split] at d1
  have z : rw_S (m - 1) (fun i => X (i + 1) * rw_dot n a (rw_nar n m a V (i + 1))) = 0 := rw_S_zero fun i hi => by
    rw [rw_nar_dot (by omega), rw_PH_fin (by omega) (by omega), Int.mul_zero]
  rw [z, h0, rw_nar_dot hm] at d1
  have ne := rw_PH_ne0 (t := false) hc
  have x0 : X 0 = 0 := by
    have d2 : X 0 * rw_PH false m (fun i => rw_dot n a (V i)) (fun i => rw_dot n a (V i)) 0 = 0 := by omega
    rcases Int.mul_eq_zero.mp d2 with h | h
    · exact h
    · exact absurd h ne
  refine ⟨fun i => X (i + 1), fun c hc => ?_⟩
  rw [hX c hc, split, x0, Int.zero_mul, Int.zero_add]
