/-! gather: the others are reduced -/
section GB
variable {d m c n : Nat} {u : Nat → Int64} {x : Int32}
theorem rf_ga2 (hm : m ≤ 6) (hc : c < n) (hn : n ≤ 6) {t : Nat} (ht : d + 1 + t < m) (h0 : ¬ u (6 * d + c) = 0) :
    sm_tot (fn_MO_gather (nI d) (nI c) (nI n) (nI m)) (145, 0, 0, x, nI (d + 1 + t), 0, 0, 0, u)
    = sm_tot (fn_MO_gather (nI d) (nI c) (nI n) (nI m)) (145, 0, 0, x, nI (d + 1 + (t + 1)), 0, 0, 0, rf_lose n (d + 1 + t) d (u (6 * (d + 1 + t) + c) / u (6 * d + c)) u) := by
  refine sm_tot_l ?_
  rw [fn_MO_gather_q145]
  unfold fn_MO_gather_b145
  rw [if_neg (nI_ge ht (by omega)), rf_6, rf_6, if_pos (nI_in (show 6 * (d + 1 + t) + c < 36 by omega) (by omega)), if_pos (nI_in (show 6 * d + c < 36 by omega) (by omega)), nI_clamp (by omega), nI_clamp (by omega), if_pos h0,
    rf_lose_tot (by omega) (by omega) (by omega) hn, rf_s]
  rfl
/-- the end of a round -/
theorem rf_ga3 (hm : m ≤ 6) {k : Nat} (hk : k < 2 ^ 31) :
    sm_tot (fn_MO_gather (nI d) (nI c) (nI n) (nI m)) (145, 0, 0, nI k, nI m, 0, 0, 0, u) = sm_tot (fn_MO_gather (nI d) (nI c) (nI n) (nI m)) (2, (if k ≤ 1 then 0 else 1), 0, 0, 0, 0, 0, 0, u) := by
  have s202 : ∀ a : Int32, sm_tot (fn_MO_gather (nI d) (nI c) (nI n) (nI m)) (202, 0, 0, 0, 0, 0, a, 0, u) = sm_tot (fn_MO_gather (nI d) (nI c) (nI n) (nI m)) (2, a, 0, 0, 0, 0, 0, 0, u) := fun a => sm_tot_l (by
    rw [fn_MO_gather_q202]; rfl)
  refine (sm_tot_l (s' := (202, 0, 0, 0, 0, 0, (if k ≤ 1 then 0 else 1), 0, u)) ?_).trans (s202 _)
  rw [fn_MO_gather_q145]
  unfold fn_MO_gather_b145
  rw [if_pos (nI_le (Nat.le_refl _) (by omega))]
  by_cases h : k ≤ 1
  · rw [if_pos h, if_pos (show nI k ≤ 1 from (nI_leI (a := k) (b := 1) hk (by omega)).mpr h)]
  · rw [if_neg h, if_neg (show ¬ nI k ≤ 1 from fun q => h ((nI_leI (a := k) (b := 1) hk (by omega)).mp q))]
/-- from the least one to the reducing: it comes to its place, and its sign is turned -/
theorem rf_ga4 (hm : m ≤ 6) (hc : c < n) (hn : n ≤ 6) (hd : d < m) {p k : Nat} (hp : d + p < m) (hk0 : 0 < k) (hk : k < 2 ^ 31) :
    sm_tot (fn_MO_gather (nI d) (nI c) (nI n) (nI m)) (15, 0, nI (d + p), nI k, nI m, 0, 0, 0, u)
    = sm_tot (fn_MO_gather (nI d) (nI c) (nI n) (nI m)) (145, 0, 0, nI k, nI (d + 1), 0, 0, 0, (if (0 : Int32) ≤ lg_cmp (rf_exch n d (d + p) u (6 * d + c)) 0 then rf_exch n d (d + p) u else rf_turn n d (rf_exch n d (d + p) u))) := by
  have s140 : ∀ w : Nat → Int64, sm_tot (fn_MO_gather (nI d) (nI c) (nI n) (nI m)) (140, 0, 0, nI k, 0, 0, 0, 0, w) = sm_tot (fn_MO_gather (nI d) (nI c) (nI n) (nI m)) (145, 0, 0, nI k, nI (d + 1), 0, 0, 0, w) := fun w => sm_tot_l (by
    rw [fn_MO_gather_q140]
    unfold fn_MO_gather_b140
    rw [rf_s])
  refine (sm_tot_l (s' := (140, 0, 0, nI k, 0, 0, 0, 0, (if (0 : Int32) ≤ lg_cmp (rf_exch n d (d + p) u (6 * d + c)) 0 then rf_exch n d (d + p) u else rf_turn n d (rf_exch n d (d + p) u)))) ?_).trans (s140 _)
  rw [fn_MO_gather_q15]
  unfold fn_MO_gather_b15
  rw [if_pos (nI_le (Nat.le_refl _) (by omega)), if_neg (nI_ne0 hk0 hk), rf_exch_tot (by omega) (by omega) hn]
  show (if ¬ ((6 * nI d + nI c : Int32) < 0 ∨ 36 ≤ (6 * nI d + nI c : Int32).toNatClampNeg) then _ else none) = _
  rw [rf_6, if_pos (nI_in (show 6 * d + c < 36 by omega) (by omega)), nI_clamp (by omega)]
  by_cases h : (0 : Int32) ≤ lg_cmp (rf_exch n d (d + p) u (6 * d + c)) 0
  · rw [if_pos h, if_pos h]
  · rw [if_neg h, if_neg h, rf_turn_tot (by omega) hn]
    rfl
end GB
