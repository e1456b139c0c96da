/-! LATTICES 22: the reference's one solution, shortened -/
def rw_sh1 (V : Nat → Nat → Int) (ld : Nat → Nat) (i : Nat) (o : Nat → Int) : Nat → Int := fun c => o c - (o (ld i)).tdiv (V i (ld i)) * V i c
def rw_sho (V : Nat → Nat → Int) (ld : Nat → Nat) (o : Nat → Int) : Nat → Nat → Int
  | 0 => o
  | i + 1 => rw_sh1 V ld i (rw_sho V ld o i)
theorem rw_sho_le {n m N : Nat} {V : Nat → Nat → Int} {ld : Nat → Nat} {o : Nat → Int} (H : rw_HNF n m V ld) (h : ∀ k, k < m → (o (ld k)).natAbs ≤ N * (V k (ld k)).natAbs) :
    ∀ i, i ≤ m → ∀ k, k < m → (rw_sho V ld o i (ld k)).natAbs ≤ 2 ^ i * N * (V k (ld k)).natAbs ∧ (k < i → (rw_sho V ld o i (ld k)).natAbs < (V k (ld k)).natAbs) := by
  intro i
  induction i with
  | zero => intro _ k hk; exact ⟨by rw [Nat.pow_zero, Nat.one_mul]; exact h k hk, fun h => absurd h (Nat.not_lt_zero k)⟩
  | succ i ih =>
    intro hi k hk
    have ii := ih (by omega) i (by omega)
    have ik := ih (by omega) k hk
    have pi := (H i (by omega)).2.2.1
    have e2 : 2 ^ (i + 1) * N * (V k (ld k)).natAbs = 2 ^ i * N * (V k (ld k)).natAbs + 2 ^ i * N * (V k (ld k)).natAbs := by rw [Nat.pow_succ]; grind
    show (rw_sho V ld o i (ld k) - (rw_sho V ld o i (ld i)).tdiv (V i (ld i)) * V i (ld k)).natAbs ≤ _ ∧ (_ → (rw_sho V ld o i (ld k) - (rw_sho V ld o i (ld i)).tdiv (V i (ld i)) * V i (ld k)).natAbs < _)
    rcases Nat.lt_trichotomy k i with hki | hki | hki
    · rw [(H i (by omega)).2.1 (ld k) ((H i (by omega)).2.2.2 k hki).1, Int.mul_zero, Int.sub_zero, e2]
      exact ⟨by omega, fun _ => ik.2 hki⟩
    · subst hki
      rw [rw_tmod_eq]
      have t := rw_tmod_lt (rw_sho V ld o k (ld k)) (show V k (ld k) ≠ 0 by omega)
      have t2 : ((rw_sho V ld o k (ld k)).tmod (V k (ld k))).natAbs ≤ (rw_sho V ld o k (ld k)).natAbs := by rw [Int.natAbs_tmod]; exact Nat.mod_le _ _
      rw [e2]
      exact ⟨by omega, fun _ => t⟩
    · have q : ((rw_sho V ld o i (ld i)).tdiv (V i (ld i))).natAbs ≤ 2 ^ i * N := by
        rw [rw_tdiv_abs]
        exact Nat.div_le_of_le_mul (by rw [Nat.mul_comm]; exact ii.1)
      have b := ((H k hk).2.2.2 i hki).2
      have p : ((rw_sho V ld o i (ld i)).tdiv (V i (ld i)) * V i (ld k)).natAbs ≤ 2 ^ i * N * (V k (ld k)).natAbs := by
        rw [Int.natAbs_mul]; exact Nat.mul_le_mul q (by omega)
      rw [e2]
      exact ⟨by omega, fun h => by omega⟩
theorem rw_dot_sub (n : Nat) (a v w : Nat → Int) (q : Int) : rw_dot n a (fun c => v c - q * w c) = rw_dot n a v - q * rw_dot n a w := by
  unfold rw_dot
  have e : rw_S n (fun c => a c * (v c - q * w c)) = rw_S n (fun c => a c * v c + (- q) * (a c * w c)) := rw_S_congr fun c _ => by grind
  rw [e, rw_S_add, rw_S_mul]; grind
theorem rw_sho_dot {n m : Nat} {V : Nat → Nat → Int} {ld : Nat → Nat} {o a : Nat → Int} (h : ∀ k, k < m → rw_dot n a (V k) = 0) : ∀ i, i ≤ m → rw_dot n a (rw_sho V ld o i) = rw_dot n a o := by
  intro i
  induction i with
  | zero => intro _; rfl
  | succ i ih =>
    intro hi
    show rw_dot n a (fun c => rw_sho V ld o i c - _ * V i c) = _
    rw [rw_dot_sub, h i (by omega), Int.mul_zero, Int.sub_zero, ih (by omega)]
/-- the numbers at the leads are below them, if o solves the rows; and it does just if there is a solution -/
def rw_os (n r : Nat) (A : Nat → Nat → Int) (B : Nat → Int) (V : Nat → Nat → Int) (m : Nat) (o : Nat → Int) (io : Bool) : Prop :=
  (io = true ↔ ∃ w : Nat → Int, ∀ q, q < r → rw_dot n (A q) w = B q) ∧ (io = true → (∀ q, q < r → rw_dot n (A q) o = B q) ∧ ∀ ld, rw_HNF n m V ld → ∀ k, k < m → (o (ld k)).natAbs < (V k (ld k)).natAbs)
def rw_mi (n : Nat) (a : Nat → Int) (β : Int) (o : Nat → Int) : Int := β - rw_dot n a o
def rw_io (n m : Nat) (a : Nat → Int) (β : Int) (V : Nat → Nat → Int) (o : Nat → Int) (io : Bool) : Bool :=
  if rw_cnt m (fun i => rw_dot n a (V i)) = 0 then io && decide (rw_mi n a β o = 0) else io && decide ((rw_mi n a β o).tmod (rw_dot n a (rw_nar n m a V 0)) = 0)
def rw_o1 (n m : Nat) (a : Nat → Int) (β : Int) (V : Nat → Nat → Int) (o : Nat → Int) (io : Bool) : Nat → Int :=
  if rw_cnt m (fun i => rw_dot n a (V i)) = 0 then o else if rw_io n m a β V o io = true then fun c => o c + (rw_mi n a β o).tdiv (rw_dot n a (rw_nar n m a V 0)) * rw_nar n m a V 0 c else o
section OS
variable {n r m : Nat} {A V : Nat → Nat → Int} {B o : Nat → Int} {io : Bool}
theorem rw_dot_add (n : Nat) (a v w : Nat → Int) (q : Int) : rw_dot n a (fun c => v c + q * w c) = rw_dot n a v + q * rw_dot n a w := by
  have e : (fun c => v c + q * w c) = fun c => v c - (- q) * w c := funext fun c => by grind
  rw [e, rw_dot_sub]; grind
/-- what o1 solves, and when -/
theorem rw_os_solve (Hb : rw_bas n r A V m) (H : rw_os n r A B V m o io) :
    (rw_io n m (A r) (B r) V o io = true ↔ ∃ w : Nat → Int, ∀ q, q < r + 1 → rw_dot n (A q) w = B q) ∧ (rw_io n m (A r) (B r) V o io = true → io = true ∧ ∀ q, q < r + 1 → rw_dot n (A q) (rw_o1 n m (A r) (B r) V o io) = B q) := by
  obtain ⟨hF, hk, hin, -⟩ := Hb
  have fwd : rw_io n m (A r) (B r) V o io = true → io = true ∧ ∀ q, q < r + 1 → rw_dot n (A q) (rw_o1 n m (A r) (B r) V o io) = B q := by
    intro h
    have h' := h
    unfold rw_io at h'
    unfold rw_o1
    by_cases hz : rw_cnt m (fun i => rw_dot n (A r) (V i)) = 0
    · rw [if_pos hz] at h' ⊢
      rw [Bool.and_eq_true] at h'
      obtain ⟨h1, h2⟩ := h'
      have h2 := of_decide_eq_true h2
      unfold rw_mi at h2
      refine ⟨h1, fun q hq => ?_⟩
      by_cases e : q = r
      · rw [e]; omega
      · exact (H.2 h1).1 q (by omega)
    · rw [if_neg hz] at h' ⊢
      rw [Bool.and_eq_true] at h'
      obtain ⟨h1, h2⟩ := h'
      have h2 := of_decide_eq_true h2
      have hm : 0 < m := by have := (rw_lst_spec hz).1; omega
      refine ⟨h1, fun q hq => ?_⟩
      rw [if_pos h, rw_dot_add]
      by_cases e : q = r
      · rw [e]
        have t := Int.tmod_add_tdiv_mul (rw_mi n (A r) (B r) o) (rw_dot n (A r) (rw_nar n m (A r) V 0))
        rw [h2] at t
        unfold rw_mi at t ⊢
        omega
      · rw [rw_ker_in hk (rw_nar_in hm) q (by omega), Int.mul_zero, Int.add_zero]
        exact (H.2 h1).1 q (by omega)
  refine ⟨⟨fun h => ⟨_, (fwd h).2⟩, fun ⟨w, hw⟩ => ?_⟩, fwd⟩
  have h1 : io = true := H.1.mpr ⟨w, fun q hq => hw q (by omega)⟩
  have so := (H.2 h1).1
  have hd : rw_ker n r A (fun c => w c - 1 * o c) := fun q hq => by rw [rw_dot_sub, hw q (by omega), so q hq]; omega
  have hin' := hin _ hd
  have hmi : rw_dot n (A r) (fun c => w c - 1 * o c) = rw_mi n (A r) (B r) o := by
    rw [rw_dot_sub, hw r (by omega)]; unfold rw_mi; omega
  unfold rw_io
  by_cases hz : rw_cnt m (fun i => rw_dot n (A r) (V i)) = 0
  · rw [if_pos hz, h1, Bool.true_and]
    refine decide_eq_true ?_
    obtain ⟨X, hX⟩ := hin'
    rw [← hmi, rw_dot_congr hX, rw_dot_S]
    exact rw_S_zero fun k hk' => by rw [rw_cnt0.mp hz k hk', Int.mul_zero]
  · rw [if_neg hz, h1, Bool.true_and]
    refine decide_eq_true ?_
    have hm : 0 < m := by have := (rw_lst_spec hz).1; omega
    obtain ⟨X, hX⟩ := rw_in_trans (fun k hk => rw_nar_in2 (a := A r) hk) hin'
    rw [← hmi, rw_dot_congr hX, rw_dot_S, rw_S_succ0 hm, rw_S_zero (n := m - 1) (fun i hi => by
      rw [rw_nar_dot (by omega), rw_PH_fin (by omega) (by omega), Int.mul_zero]), Int.add_zero]
    exact Int.mul_tmod_left _ _
theorem rw_os_step (Hb : rw_bas n r A V m) (H : rw_os n r A B V m o io) {ld' : Nat → Nat} (H' : rw_HNF n (rw_stp n (A r) V m).2 (rw_stp n (A r) V m).1 ld') :
    rw_os n (r + 1) A B (rw_stp n (A r) V m).1 (rw_stp n (A r) V m).2 (rw_sho (rw_stp n (A r) V m).1 ld' (rw_o1 n m (A r) (B r) V o io) (rw_stp n (A r) V m).2) (rw_io n m (A r) (B r) V o io) := by
  have hs := rw_os_solve (B := B) Hb H
  have B' := rw_bas_step Hb
  generalize (rw_stp n (A r) V m).1 = V' at *
  generalize (rw_stp n (A r) V m).2 = m' at *
  refine ⟨hs.1, fun h => ⟨fun q hq => ?_, fun ld'' H'' k hk => ?_⟩⟩
  · rw [rw_sho_dot (fun k hk => B'.2.1 k hk q hq) m' (Nat.le_refl _)]
    exact (hs.2 h).2 q hq
  · have eld : ld'' k = ld' k := ((rw_unique H'' H' (fun i hi => rw_in_row V' hi) (fun i hi => rw_in_row V' hi)).2 k hk).1
    rw [eld]
    obtain ⟨N, hN⟩ : ∃ N : Nat, ∀ k, k < m' → (rw_o1 n m (A r) (B r) V o io (ld' k)).natAbs ≤ N * (V' k (ld' k)).natAbs := by
      refine ⟨(rw_S m' (fun k => ((rw_o1 n m (A r) (B r) V o io (ld' k)).natAbs : Int))).natAbs, fun k hk => ?_⟩
      have t : ((rw_o1 n m (A r) (B r) V o io (ld' k)).natAbs : Int) ≤ rw_S m' (fun k => ((rw_o1 n m (A r) (B r) V o io (ld' k)).natAbs : Int)) := rw_S_term (g := fun k => ((rw_o1 n m (A r) (B r) V o io (ld' k)).natAbs : Int)) (fun _ _ => Int.natCast_nonneg _) hk
      have p := (H' k hk).2.2.1
      have t2 : (rw_S m' (fun k => ((rw_o1 n m (A r) (B r) V o io (ld' k)).natAbs : Int))).natAbs ≤ (rw_S m' (fun k => ((rw_o1 n m (A r) (B r) V o io (ld' k)).natAbs : Int))).natAbs * (V' k (ld' k)).natAbs := Nat.le_mul_of_pos_right _ (by omega)
      omega
    exact (rw_sho_le H' hN m' (Nat.le_refl _) k hk).2 hk
end OS
