/-! the reference's methods on longs, in pure words: exchange, turn, size -/
section EXC
variable {i j n : Nat}
def rf_exch (n i j : Nat) (f : Nat → Int64) : Nat → Int64 := fun k => if k % 6 < n then (if k / 6 = i then f (6 * j + k % 6) else if k / 6 = j then f (6 * i + k % 6) else f k) else f k
theorem rf_exch_l (hi : i < 6) (hj : j < 6) (hn : n ≤ 6) (f : Nat → Int64) : ∀ k c, c + k = n →
    sm_tot (fn_MO_exchange (nI i) (nI j) (nI n)) (2, nI c, rf_exch c i j f) = some (rf_exch n i j f) := by
  intro k
  induction k with
  | zero =>
    intro c hc
    have e : c = n := by omega
    subst e
    refine sm_tot_r ?_
    rw [fn_MO_exchange_q2]
    unfold fn_MO_exchange_b2
    rw [if_pos (nI_le (Nat.le_refl _) (by omega))]
  | succ k ih =>
    intro c hc
    refine (sm_tot_l ?_).trans (ih (c + 1) (by omega))
    rw [fn_MO_exchange_q2]
    unfold fn_MO_exchange_b2
    have g1 := nI_in (show 6 * i + c < 36 by omega) (by omega)
    have g2 := nI_in (show 6 * j + c < 36 by omega) (by omega)
    rw [if_neg (nI_ge (show c < n by omega) (by omega)), rf_6, rf_6, if_pos g1, if_pos g2, if_pos g1, if_pos g2, nI_clamp (by omega), nI_clamp (by omega), rf_s]
    refine congrArg (fun z => some (Sum.inl (2, nI (c + 1), z))) (funext fun k => ?_)
    show (if k = 6 * j + c then _ else if k = 6 * i + c then _ else _) = _
    by_cases e : k = 6 * j + c
    · subst e
      rw [if_pos rfl]
      unfold rf_exch
      rw [if_neg (by omega), if_pos (by omega), show (6 * j + c) % 6 = c by omega]
      by_cases h : (6 * j + c) / 6 = i
      · rw [if_pos h, show i = j by omega]
      · rw [if_neg h, if_pos (by omega)]
    · rw [if_neg e]
      by_cases e2 : k = 6 * i + c
      · subst e2
        rw [if_pos rfl]
        unfold rf_exch
        rw [if_neg (by omega), if_pos (by omega), if_pos (by omega), show (6 * i + c) % 6 = c by omega]
      · rw [if_neg e2]
        unfold rf_exch
        by_cases h : k % 6 < c
        · rw [if_pos h, if_pos (show k % 6 < c + 1 by omega)]
        · rw [if_neg h]
          by_cases h2 : k % 6 < c + 1
          · rw [if_pos h2, if_neg (by omega), if_neg (by omega)]
          · rw [if_neg h2]
theorem rf_exch_tot (hi : i < 6) (hj : j < 6) (hn : n ≤ 6) (f : Nat → Int64) : sm_tot (fn_MO_exchange (nI i) (nI j) (nI n)) (0, 0, f) = some (rf_exch n i j f) := by
  refine (sm_tot_l ?_).trans (rf_exch_l hi hj hn f n 0 (by omega))
  rw [fn_MO_exchange_q0]
  refine congrArg (fun z => some (Sum.inl (2, 0, z))) (funext fun k => ?_)
  unfold rf_exch
  rw [if_neg (by omega)]
def rf_turn (n i : Nat) (f : Nat → Int64) : Nat → Int64 := fun k => if k / 6 = i ∧ k % 6 < n then - f k else f k
theorem rf_turn_l (hi : i < 6) (hn : n ≤ 6) (f : Nat → Int64) : ∀ k c, c + k = n → sm_tot (fn_MO_turn (nI i) (nI n)) (2, nI c, rf_turn c i f) = some (rf_turn n i f) := by
  intro k
  induction k with
  | zero =>
    intro c hc
    have e : c = n := by omega
    subst e
    refine sm_tot_r ?_
    rw [fn_MO_turn_q2]
    unfold fn_MO_turn_b2
    rw [if_pos (nI_le (Nat.le_refl _) (by omega))]
  | succ k ih =>
    intro c hc
    refine (sm_tot_l ?_).trans (ih (c + 1) (by omega))
    rw [fn_MO_turn_q2]
    unfold fn_MO_turn_b2
    have g1 := nI_in (show 6 * i + c < 36 by omega) (by omega)
    rw [if_neg (nI_ge (show c < n by omega) (by omega)), rf_6, if_pos g1, if_pos g1, nI_clamp (by omega), rf_s]
    refine congrArg (fun z => some (Sum.inl (2, nI (c + 1), z))) (funext fun k => ?_)
    show (if k = 6 * i + c then _ else _) = _
    by_cases e : k = 6 * i + c
    · subst e
      rw [if_pos rfl]
      unfold rf_turn
      rw [if_neg (by omega), if_pos (by omega)]
    · rw [if_neg e]
      unfold rf_turn
      by_cases h : k / 6 = i ∧ k % 6 < c
      · rw [if_pos h, if_pos (by omega)]
      · rw [if_neg h, if_neg (by omega)]
theorem rf_turn_tot (hi : i < 6) (hn : n ≤ 6) (f : Nat → Int64) : sm_tot (fn_MO_turn (nI i) (nI n)) (0, 0, f) = some (rf_turn n i f) := by
  refine (sm_tot_l ?_).trans (rf_turn_l hi hn f n 0 (by omega))
  rw [fn_MO_turn_q0]
  refine congrArg (fun z => some (Sum.inl (2, 0, z))) (funext fun k => ?_)
  unfold rf_turn
  rw [if_neg (by omega)]
theorem rf_size (x : Int64) : sm_tot (fn_MO_size x) (0, 0) = some (if (0 : Int32) ≤ lg_cmp x 0 then x else -x) := by
  by_cases h : (0 : Int32) ≤ lg_cmp x 0
  · rw [if_pos h]
    refine (sm_tot_l (s' := (12, x)) ?_).trans (sm_tot_r ?_)
    · rw [fn_MO_size_q0]
      unfold fn_MO_size_b0
      rw [if_pos h]
    · rw [fn_MO_size_q12]; rfl
  · rw [if_neg h]
    refine (sm_tot_l (s' := (12, -x)) ?_).trans (sm_tot_r ?_)
    · rw [fn_MO_size_q0]
      unfold fn_MO_size_b0
      rw [if_neg h]
    · rw [fn_MO_size_q12]; rfl
end EXC
