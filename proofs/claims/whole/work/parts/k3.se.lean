/-! the class's search, in whole numbers: put, canBeFilled -/
section SEP
variable {m n c s : Nat} {a : Int} {v : Nat → Int} {l : Nat → Int} {A : Nat → Nat → Int} {cv cl : Nat → Int32} {ca clo chi : Nat → Nat → Int32} {lo hi : Nat → Nat → Int}
theorem se_put_l (hm : m ≤ 4) (hc : c < 6) (ha : ∀ r, r < m → ca r c = iI (A r c)) {x : Int} :
    ∀ d r (cl : Nat → Int32), r + d = m → (∀ q, q < m → cl q = iI (l q - (if q < r then x * A q c else 0))) → ∃ cl', sm_tot (fn_SE_put (iI c) (iI a) (iI m) ca) (19, iI x, iI r, cv, cl) = some (cv, cl') ∧ ∀ q, q < m → cl' q = iI (l q - x * A q c) := by
  intro d
  induction d with
  | zero =>
    intro r cl hr hl
    have e : r = m := by omega
    subst e
    refine ⟨cl, ?_, fun q hq => by rw [hl q hq, if_pos hq]⟩
    rw [sm_tot_u, fn_SE_put_q19]
    unfold fn_SE_put_b19
    simp (disch := omega) only [ii_le, if_pos, sm_ev_r]
  | succ d ih =>
    intro r cl hr hl
    have h1 := hl r (by omega)
    have h2 := ha r (by omega)
    rw [if_neg (by omega)] at h1
    have i1 : ((r : Int)).toNat = r := by omega
    have i2 : ((c : Int)).toNat = c := by omega
    obtain ⟨cl', a1, a2⟩ := ih (r + 1) (upd cl r (iI (l r - x * A r c))) (by omega) (fun q hq => by
      by_cases e : q = r
      · subst e
        rw [if_pos (by omega)]
        exact if_pos rfl
      · refine (if_neg e).trans ?_
        rw [hl q hq]
        by_cases e2 : q < r
        · rw [if_pos e2, if_pos (by omega)]
        · rw [if_neg e2, if_neg (by omega)])
    refine ⟨cl', ?_, a2⟩
    rw [← a1, sm_tot_u, fn_SE_put_q19]
    unfold fn_SE_put_b19
    simp (disch := omega) only [il_0, il_1, ii_le, ii_lt, ii_add, ii_nat, i1, i2, h1, h2, ii_mul, ii_sub, Int.sub_zero, if_pos, if_neg, sm_ev_l]
    rfl
theorem se_put (hm : m ≤ 4) (hc : c < 6) (hv : ∀ j, j < 6 → cv j = iI (v j)) (hl : ∀ r, r < m → cl r = iI (l r)) (ha : ∀ r, r < m → ca r c = iI (A r c)) :
    ∃ cv' cl', sm_tot (fn_SE_put (iI c) (iI a) (iI m) ca) (0, 0, 0, cv, cl) = some (cv', cl') ∧ (∀ j, j < 6 → cv' j = iI (sx_up v c a j)) ∧ ∀ r, r < m → cl' r = iI (l r - (a - v c) * A r c) := by
  have i2 : ((c : Int)).toNat = c := by omega
  have h1 := hv c hc
  obtain ⟨cl', a1, a2⟩ := se_put_l (a := a) (cv := upd cv c (iI a)) (x := a - v c) (l := l) hm hc ha m 0 cl (by omega) (fun q hq => by rw [hl q hq, if_neg (by omega), Int.sub_zero])
  refine ⟨upd cv c (iI a), cl', ?_, fun j hj => ?_, a2⟩
  · rw [← a1, sm_tot_u, fn_SE_put_q0]
    unfold fn_SE_put_b0
    simp (disch := omega) only [il_0, ii_lt, ii_nat, i2, h1, ii_sub, if_pos, if_neg, sm_ev_l]
    rfl
  · by_cases e : j = c
    · subst e
      rw [sx_up_eq]
      exact if_pos rfl
    · rw [sx_up_ne e, ← hv j hj]
      exact if_neg e
theorem se_can_l (hm : m ≤ 4) (hc : c ≤ 6) (hl : ∀ r, r < m → cl r = iI (l r)) (hlo : ∀ r, r < m → clo r c = iI (lo r c)) (hhi : ∀ r, r < m → chi r c = iI (hi r c)) (rl : ∀ r, r < m → (l r).natAbs ≤ 1000000) (p1 : ∀ r, r < m → ((s : Int) * lo r c).natAbs ≤ 1000000) (p2 : ∀ r, r < m → ((s : Int) * hi r c).natAbs ≤ 1000000) :
    ∀ d r, r + d = m → sm_tot (fn_SE_canBeFilled (iI c) (iI s) (iI m) (iI n) cl clo chi) (16, iI r) = some (bI (sx_alf (fun r => decide ((s : Int) * lo r c ≤ l r ∧ l r ≤ (s : Int) * hi r c)) d r)) := by
  have e62 : ∀ x, sm_tot (fn_SE_canBeFilled (iI c) (iI s) (iI m) (iI n) cl clo chi) (62, x) = some 0 := fun x => by rw [sm_tot_u, fn_SE_canBeFilled_q62]; rfl
  intro d
  induction d with
  | zero =>
    intro r hr
    have e : r = m := by omega
    subst e
    rw [sm_tot_u, fn_SE_canBeFilled_q16]
    unfold fn_SE_canBeFilled_b16
    simp (disch := omega) only [ii_le, if_pos, sm_ev_r]
    rfl
  | succ d ih =>
    intro r hr
    have h1 := hl r (by omega)
    have h2 := hlo r (by omega)
    have h3 := hhi r (by omega)
    have q1 := rl r (by omega)
    have q2 := p1 r (by omega)
    have q3 := p2 r (by omega)
    have i1 : ((r : Int)).toNat = r := by omega
    have i2 : ((c : Int)).toNat = c := by omega
    have h4 : sm_tot (fn_SE_canBeFilled (iI c) (iI s) (iI m) (iI n) cl clo chi) (16, iI ((r : Int) + 1)) = _ := ih (r + 1) (by omega)
    rw [sm_tot_u, fn_SE_canBeFilled_q16]
    unfold fn_SE_canBeFilled_b16
    simp (disch := omega) only [il_0, il_1, ii_le, ii_lt, ii_add, ii_nat, i1, i2, h1, h2, h3, ii_mul, if_pos, if_neg]
    rw [sx_alf_s]
    repeat' split
    all_goals first
      | rw [decide_eq_true (by omega), Bool.true_and, sm_ev_l, h4]
      | rw [decide_eq_false (by omega), Bool.false_and, sm_ev_l, e62, bI_0]
theorem se_can (hm : m ≤ 4) (hn : n ≤ 6) (hc : c ≤ n) (hs : s ≤ 16) (hl : ∀ r, r < m → cl r = iI (l r)) (hlo : ∀ r, r < m → clo r c = iI (lo r c)) (hhi : ∀ r, r < m → chi r c = iI (hi r c)) (rl : ∀ r, r < m → (l r).natAbs ≤ 1000000) (p1 : c < n → ∀ r, r < m → (lo r c).natAbs ≤ 20) (p2 : c < n → ∀ r, r < m → (hi r c).natAbs ≤ 20) :
    sm_tot (fn_SE_canBeFilled (iI c) (iI s) (iI m) (iI n) cl clo chi) (0, 0) = some (bI (if n ≤ c ∧ s ≠ 0 then false else sx_all (fun r => decide ((s : Int) * lo r c ≤ l r ∧ l r ≤ (s : Int) * hi r c)) m)) := by
  have e14 : ∀ x, sm_tot (fn_SE_canBeFilled (iI c) (iI s) (iI m) (iI n) cl clo chi) (14, x) = sm_tot (fn_SE_canBeFilled (iI c) (iI s) (iI m) (iI n) cl clo chi) (16, iI ((0 : Nat) : Int)) := fun x => by rw [sm_tot_u, fn_SE_canBeFilled_q14]; rfl
  have pp : ∀ x : Int, (c < n → x.natAbs ≤ 20) → (n ≤ c → s = 0) → ((s : Int) * x).natAbs ≤ 1000000 := fun x h1 h2 => by
    by_cases e : c < n
    · rw [Int.natAbs_mul]
      have := Nat.mul_le_mul (show (s : Int).natAbs ≤ 16 by omega) (h1 e)
      omega
    · rw [h2 (by omega)]; simp
  rw [sm_tot_u, fn_SE_canBeFilled_q0]
  unfold fn_SE_canBeFilled_b0
  by_cases e : n ≤ c ∧ s ≠ 0
  · rw [if_pos e]
    simp (disch := omega) only [il_0, ii_lt, ii_eq, if_neg, sm_ev_r]
    rfl
  · rw [if_neg e, ← sx_alf_all, ← se_can_l (n := n) hm (by omega) hl hlo hhi rl (fun r hr => pp _ (fun h => p1 h r hr) (fun h => by omega)) (fun r hr => pp _ (fun h => p2 h r hr) (fun h => by omega)) m 0 (by omega)]
    simp (disch := omega) only [il_0, ii_lt, ii_eq]
    repeat' split
    all_goals first
      | rw [sm_ev_l, e14]
      | (exfalso; omega)
theorem sx_dt_up {a' : Nat → Int} {x : Int} : ∀ k, sx_dt a' (sx_up v c x) k = sx_dt a' v k + (if c < k then (x - v c) * a' c else 0) := by
  intro k
  induction k with
  | zero => rfl
  | succ k ih =>
    show sx_dt a' (sx_up v c x) k + a' k * sx_up v c x k = sx_dt a' v k + a' k * v k + _
    rw [ih]
    by_cases e : k = c
    · subst e
      rw [if_neg (by omega), if_pos (by omega), sx_up_eq, Int.sub_mul, Int.mul_comm (a' k) x, Int.mul_comm (a' k) (v k)]
      omega
    · rw [sx_up_ne e]
      by_cases e2 : c < k
      · rw [if_pos e2, if_pos (by omega)]; omega
      · rw [if_neg e2, if_neg (by omega)]; omega
theorem sx_dt_bd {a' : Nat → Int} {M : Nat} (h : ∀ j, j < n → (a' j).natAbs ≤ 20) (hv : ∀ j, j < n → (v j).natAbs ≤ M) : ∀ k, k ≤ n → (sx_dt a' v k).natAbs ≤ k * (20 * M) := by
  intro k
  induction k with
  | zero => intro _; exact Nat.zero_le _
  | succ k ih =>
    intro hk
    have h1 := ih (by omega)
    have h2 : (a' k * v k).natAbs ≤ 20 * M := by rw [Int.natAbs_mul]; exact Nat.mul_le_mul (h k (by omega)) (hv k (by omega))
    show (sx_dt a' v k + a' k * v k).natAbs ≤ (k + 1) * (20 * M)
    rw [Nat.succ_mul]
    omega
end SEP
