/-! gather: the least one is found -/
def rf_L (d : Nat) : Option Nat → Int32
  | none => -1
  | some p => nI (d + p)
section GA
variable {d m c n : Nat} {V : Nat → Nat → Int} {u : Nat → Int64}
theorem rf_ga1 (hm : m ≤ 6) (hc : c < n) (hn : n ≤ 6) (hu : ∀ i, i < m → u (6 * i + c) = Int64.ofInt (V i c)) (hr : ∀ i, i < m → (V i c).natAbs ≤ 4611686018427387903) {t : Nat} (ht : d + t < m) :
    sm_tot (fn_MO_gather (nI d) (nI c) (nI n) (nI m)) (15, 0, rf_L d (rw_least t (fun j => V (d + j) c)), nI (rw_cnt t (fun j => V (d + j) c)), nI (d + t), 0, 0, 0, u)
    = sm_tot (fn_MO_gather (nI d) (nI c) (nI n) (nI m)) (15, 0, rf_L d (rw_least (t + 1) (fun j => V (d + j) c)), nI (rw_cnt (t + 1) (fun j => V (d + j) c)), nI (d + (t + 1)), 0, 0, 0, u) := by
  have st99 : ∀ a b : Int32, sm_tot (fn_MO_gather (nI d) (nI c) (nI n) (nI m)) (99, 0, a, b, nI (d + t), 0, 0, 0, u) = sm_tot (fn_MO_gather (nI d) (nI c) (nI n) (nI m)) (15, 0, a, b, nI (d + (t + 1)), 0, 0, 0, u) := fun a b => sm_tot_l (by
    rw [fn_MO_gather_q99]
    unfold fn_MO_gather_b99
    rw [rf_s, Nat.add_assoc])
  have st97 : ∀ a b : Int32, sm_tot (fn_MO_gather (nI d) (nI c) (nI n) (nI m)) (97, 0, 0, b, nI (d + t), 0, a, 0, u) = sm_tot (fn_MO_gather (nI d) (nI c) (nI n) (nI m)) (99, 0, a, b, nI (d + t), 0, 0, 0, u) := fun a b => sm_tot_l (by
    rw [fn_MO_gather_q97]; rfl)
  have st90 : ∀ b : Int32, sm_tot (fn_MO_gather (nI d) (nI c) (nI n) (nI m)) (90, 0, 0, b, nI (d + t), 0, 0, 0, u) = sm_tot (fn_MO_gather (nI d) (nI c) (nI n) (nI m)) (97, 0, 0, b, nI (d + t), 0, nI (d + t), 0, u) := fun b => sm_tot_l (by
    rw [fn_MO_gather_q90]; rfl)
  have hv := hr (d + t) ht
  have hl : ∀ p, rw_least t (fun j => V (d + j) c) = some p → p < t := fun p hp => (rw_least_some hp).1
  -- from 15 to 59
  have st15 : sm_tot (fn_MO_gather (nI d) (nI c) (nI n) (nI m)) (15, 0, rf_L d (rw_least t (fun j => V (d + j) c)), nI (rw_cnt t (fun j => V (d + j) c)), nI (d + t), 0, 0, 0, u)
      = sm_tot (fn_MO_gather (nI d) (nI c) (nI n) (nI m)) (59, 0, rf_L d (rw_least t (fun j => V (d + j) c)), nI (rw_cnt t (fun j => V (d + j) c)), nI (d + t), Int64.ofInt (V (d + t) c), 0,
        (match rw_least t (fun j => V (d + j) c) with | none => 0 | some p => Int64.ofInt (V (d + p) c)), u) := by
    refine sm_tot_l ?_
    rw [fn_MO_gather_q15]
    unfold fn_MO_gather_b15
    rw [if_neg (nI_ge (show d + t < m by omega) (by omega)), rf_6, if_pos (nI_in (show 6 * (d + t) + c < 36 by omega) (by omega)), nI_clamp (by omega), hu (d + t) ht]
    cases hp : rw_least t (fun j => V (d + j) c) with
    | none =>
      show (if (0 : Int32) ≤ -1 then _ else _) = _
      rw [if_neg (by decide)]
    | some p =>
      have := hl p hp
      rw [show rf_L d (some p) = nI (d + p) from rfl, if_pos (nI_pos' (by omega)), rf_6, if_pos (nI_in (show 6 * (d + p) + c < 36 by omega) (by omega)), nI_clamp (by omega), hu (d + p) (by omega)]
  rw [st15]
  have eL : rw_least (t + 1) (fun j => V (d + j) c) = (match rw_least t (fun j => V (d + j) c) with | none => if V (d + t) c = 0 then none else some t | some p => if V (d + t) c ≠ 0 ∧ (V (d + t) c).natAbs < (V (d + p) c).natAbs then some t else some p) := rfl
  have eC : rw_cnt (t + 1) (fun j => V (d + j) c) = rw_cnt t (fun j => V (d + j) c) + (if V (d + t) c = 0 then 0 else 1) := rfl
  rw [eL, eC]
  by_cases h0 : V (d + t) c = 0
  · refine (sm_tot_l (s' := (99, 0, rf_L d (rw_least t (fun j => V (d + j) c)), nI (rw_cnt t (fun j => V (d + j) c)), nI (d + t), 0, 0, 0, u)) ?_).trans ((st99 _ _).trans ?_)
    · rw [fn_MO_gather_q59]
      unfold fn_MO_gather_b59
      rw [if_pos ((lg_cmp_eq _ _).mpr ((rg_zero hv).mpr h0))]
    · rw [show rw_cnt t (fun j => V (d + j) c) + (if V (d + t) c = 0 then 0 else 1) = rw_cnt t (fun j => V (d + j) c) from by rw [if_pos h0]; rfl]
      cases rw_least t (fun j => V (d + j) c) with
      | none => simp only [if_pos h0]
      | some p => simp [h0]
  · have ne : ¬ lg_cmp (Int64.ofInt (V (d + t) c)) 0 = 0 := fun q => h0 ((rg_zero hv).mp ((lg_cmp_eq _ _).mp q))
    rw [show rw_cnt t (fun j => V (d + j) c) + (if V (d + t) c = 0 then 0 else 1) = rw_cnt t (fun j => V (d + j) c) + 1 from by rw [if_neg h0]]
    cases hp : rw_least t (fun j => V (d + j) c) with
    | none =>
      simp only [if_neg h0]
      refine (sm_tot_l (s' := (90, 0, 0, nI (rw_cnt t (fun j => V (d + j) c)) + 1, nI (d + t), 0, 0, 0, u)) ?_).trans ((st90 _).trans ((st97 _ _).trans ((st99 _ _).trans ?_)))
      · rw [fn_MO_gather_q59]
        unfold fn_MO_gather_b59
        rw [if_neg ne]
        show (if (-1 : Int32) < 0 then _ else _) = _
        rw [if_pos (by decide)]
      · rw [rf_s]; rfl
    | some p =>
      have hpt := hl p hp
      have hv2 := hr (d + p) (by omega)
      have stp : fn_MO_gather (nI d) (nI c) (nI n) (nI m) (59, 0, nI (d + p), nI (rw_cnt t (fun j => V (d + j) c)), nI (d + t), Int64.ofInt (V (d + t) c), 0, Int64.ofInt (V (d + p) c), u)
          = if (V (d + t) c).natAbs < (V (d + p) c).natAbs then some (.inl (90, 0, 0, nI (rw_cnt t (fun j => V (d + j) c)) + 1, nI (d + t), 0, 0, 0, u)) else some (.inl (97, 0, 0, nI (rw_cnt t (fun j => V (d + j) c)) + 1, nI (d + t), 0, nI (d + p), 0, u)) := by
        rw [fn_MO_gather_q59]
        unfold fn_MO_gather_b59
        rw [if_neg ne, if_neg (nI_pos (show d + p < 2 ^ 31 by omega)), rf_size, rf_size, rg_size hv, rg_size hv2]
        show (if (0 : Int32) ≤ lg_cmp (Int64.ofInt ((V (d + t) c).natAbs : Int)) (Int64.ofInt ((V (d + p) c).natAbs : Int)) then _ else _) = _
        have key : (0 : Int32) ≤ lg_cmp (Int64.ofInt ((V (d + t) c).natAbs : Int)) (Int64.ofInt ((V (d + p) c).natAbs : Int)) ↔ ¬ (V (d + t) c).natAbs < (V (d + p) c).natAbs := by
          rw [lg_cmp_ge, rg_le (by omega) (by omega)]; omega
        by_cases hq : (V (d + t) c).natAbs < (V (d + p) c).natAbs
        · rw [if_pos hq, if_neg (fun z => key.mp z hq)]
        · rw [if_neg hq, if_pos (key.mpr hq)]
      by_cases hq : (V (d + t) c).natAbs < (V (d + p) c).natAbs
      · simp only [ne_eq, h0, not_false_eq_true, hq, and_self, if_pos]
        rw [if_pos hq] at stp
        refine (sm_tot_l stp).trans ((st90 _).trans ((st97 _ _).trans ((st99 _ _).trans ?_)))
        rw [rf_s]; rfl
      · simp only [hq, and_false, if_false]
        rw [if_neg hq] at stp
        refine (sm_tot_l stp).trans ((st97 _ _).trans ((st99 _ _).trans ?_))
        rw [rf_s]; rfl
end GA
