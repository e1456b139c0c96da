/-! the reference's methods on longs, in pure words -/
def rf_SL : Nat → (Nat → Int64) → Int64
  | 0, _ => 0
  | n + 1, g => rf_SL n g + g n
theorem rf_6 (a b : Nat) : (6 : Int32) * nI a + nI b = nI (6 * a + b) := by rw [show (6 : Int32) = nI 6 from rfl, pk_mul, nI_add]
theorem rf_7 (a b : Nat) : (7 : Int32) * nI a + nI b = nI (7 * a + b) := by rw [show (7 : Int32) = nI 7 from rfl, pk_mul, nI_add]
theorem rf_s (a : Nat) : nI a + (1 : Int32) = nI (a + 1) := nI_1 a
section DOT
variable {r n no fr : Nat} {co : Nat → Int64} {cn : Nat → Int32}
theorem rf_dot_l (hr : r < 4) (hn : n ≤ 6) (hf : fr + n ≤ no) (hno : no < 2 ^ 31) : ∀ k c, c + k = n →
    sm_tot (fn_MO_dot (nI r) no co (nI fr) (nI n) cn) (6, rf_SL c (fun c => (cn (7 * r + c)).toInt64 * co (fr + c)), nI c) = some (rf_SL n (fun c => (cn (7 * r + c)).toInt64 * co (fr + c))) := by
  intro k
  induction k with
  | zero =>
    intro c hc
    have e : c = n := by omega
    subst e
    refine sm_tot_r ?_
    rw [fn_MO_dot_q6]
    unfold fn_MO_dot_b6
    rw [if_pos (nI_le (Nat.le_refl _) (by omega))]
  | succ k ih =>
    intro c hc
    refine (sm_tot_l ?_).trans (ih (c + 1) (by omega))
    rw [fn_MO_dot_q6]
    unfold fn_MO_dot_b6
    rw [if_neg (nI_ge (show c < n by omega) (by omega)), rf_7, nI_add, if_pos (nI_in (show 7 * r + c < 28 by omega) (by omega)), if_pos (nI_in (show fr + c < no by omega) hno), nI_clamp (by omega), nI_clamp (by omega), rf_s]
    rfl
theorem rf_dot (hr : r < 4) (hn : n ≤ 6) (hf : fr + n ≤ no) (hno : no < 2 ^ 31) :
    sm_tot (fn_MO_dot (nI r) no co (nI fr) (nI n) cn) (0, 0, 0) = some (rf_SL n (fun c => (cn (7 * r + c)).toInt64 * co (fr + c))) := by
  refine (sm_tot_l ?_).trans (rf_dot_l hr hn hf hno n 0 (by omega))
  rw [fn_MO_dot_q0]
  rfl
end DOT
section LOSE
variable {i j n : Nat} {q : Int64}
/-- row i of a table of six columns, less q times row j, on the first n columns -/
def rf_lose (n i j : Nat) (q : Int64) (f : Nat → Int64) : Nat → Int64 := fun k => if k / 6 = i ∧ k % 6 < n then f k - q * f (6 * j + k % 6) else f k
theorem rf_lose_l (hi : i < 6) (hj : j < 6) (hij : i ≠ j) (hn : n ≤ 6) (f : Nat → Int64) : ∀ k c, c + k = n →
    sm_tot (fn_MO_lose (nI i) (nI j) q (nI n)) (3, nI c, rf_lose c i j q f) = some (rf_lose n i j q f) := by
  intro k
  induction k with
  | zero =>
    intro c hc
    have e : c = n := by omega
    subst e
    refine sm_tot_r ?_
    rw [fn_MO_lose_q3]
    unfold fn_MO_lose_b3
    rw [if_pos (nI_le (Nat.le_refl _) (by omega))]
  | succ k ih =>
    intro c hc
    refine (sm_tot_l ?_).trans (ih (c + 1) (by omega))
    rw [fn_MO_lose_q3]
    unfold fn_MO_lose_b3
    have g1 := nI_in (show 6 * i + c < 36 by omega) (by omega)
    rw [if_neg (nI_ge (show c < n by omega) (by omega)), rf_6, rf_6, if_pos g1, if_pos (nI_in (show 6 * j + c < 36 by omega) (by omega)), if_pos g1, nI_clamp (by omega), nI_clamp (by omega), rf_s]
    refine congrArg (fun z => some (Sum.inl (3, nI (c + 1), z))) (funext fun k => ?_)
    show (if k = 6 * i + c then _ else _) = _
    by_cases e : k = 6 * i + c
    · subst e
      rw [if_pos rfl]
      unfold rf_lose
      rw [if_neg (by omega), if_neg (by omega), if_pos (by omega), show (6 * i + c) % 6 = c by omega]
    · rw [if_neg e]
      unfold rf_lose
      by_cases h : k / 6 = i ∧ k % 6 < c
      · rw [if_pos h, if_pos (by omega)]
      · rw [if_neg h, if_neg (by omega)]
theorem rf_lose_tot (hi : i < 6) (hj : j < 6) (hij : i ≠ j) (hn : n ≤ 6) (f : Nat → Int64) : sm_tot (fn_MO_lose (nI i) (nI j) q (nI n)) (0, 0, f) = some (rf_lose n i j q f) := by
  refine (sm_tot_l ?_).trans (rf_lose_l hi hj hij hn f n 0 (by omega))
  rw [fn_MO_lose_q0]
  refine congrArg (fun z => some (Sum.inl (3, 0, z))) (funext fun k => ?_)
  unfold rf_lose
  rw [if_neg (by omega)]
end LOSE
