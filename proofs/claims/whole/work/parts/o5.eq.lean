/-! filling; the class's equations, piece by piece -/
theorem ja_fill {n : Nat} (hn : n ≤ 10000) (a : Int32) (u : Nat → Int32) : ∃ u', sm_tot (fn_JA_fill n a) (0, 0, 0, u) = some u' ∧ ∀ j, u' j = if j < n then a else u j := by
  have lp : ∀ d i (u' : Nat → Int32), i + d = n → (∀ j, u' j = if j < i then a else u j) → ∃ w, sm_tot (fn_JA_fill n a) (5, iI i, iI n, u') = some w ∧ ∀ j, w j = if j < n then a else u j := by
    intro d
    induction d with
    | zero =>
      intro i u' hi hu
      have e : i = n := by omega
      subst e
      refine ⟨u', ?_, hu⟩
      rw [sm_tot_u, fn_JA_fill_q5]
      unfold fn_JA_fill_b5
      simp (disch := omega) only [ii_le, if_pos, sm_ev_r]
    | succ d ih =>
      intro i u' hi hu
      have i2 : ((i : Int)).toNat = i := by omega
      obtain ⟨w, w1, w2⟩ := ih (i + 1) (upd u' i a) (by omega) (fun j => by
        show (if j = i then a else u' j) = _
        by_cases q : j = i
        · rw [if_pos q, if_pos (by omega)]
        · rw [if_neg q, hu j]
          by_cases q2 : j < i
          · rw [if_pos q2, if_pos (by omega)]
          · rw [if_neg q2, if_neg (by omega)])
      refine ⟨w, ?_, w2⟩
      rw [← w1, sm_tot_u, fn_JA_fill_q5]
      unfold fn_JA_fill_b5
      simp (disch := omega) only [il_0, il_1, ii_add, ii_le, ii_lt, ii_nat, i2, if_pos, if_neg, sm_ev_l]
      rfl
  obtain ⟨w, w1, w2⟩ := lp n 0 u (by omega) (fun j => by rw [if_neg (by omega)])
  refine ⟨w, ?_, w2⟩
  rw [← w1, sm_tot_u, fn_JA_fill_q0]
  unfold fn_JA_fill_b0
  rw [sm_ev_l, show Int32.ofNat n = iI (n : Int) from ii_nI]
  rfl
theorem ja_fill_r {rho : Nat} (a : Int32) (u : Nat → Nat → Int32) : ∃ u', sm_tot (fn_JA_fill_r rho a) (0, 0, 0, u) = some u' ∧ ∀ r j, u' r j = if r = rho ∧ j < 6 then a else u r j := by
  have lp : ∀ d i (u' : Nat → Nat → Int32), i + d = 6 → (∀ r j, u' r j = if r = rho ∧ j < i then a else u r j) → ∃ w, sm_tot (fn_JA_fill_r rho a) (5, iI i, 6, u') = some w ∧ ∀ r j, w r j = if r = rho ∧ j < 6 then a else u r j := by
    intro d
    induction d with
    | zero =>
      intro i u' hi hu
      have e : i = 6 := by omega
      subst e
      refine ⟨u', ?_, hu⟩
      rw [sm_tot_u, fn_JA_fill_r_q5]
      rfl
    | succ d ih =>
      intro i u' hi hu
      have i2 : ((i : Int)).toNat = i := by omega
      obtain ⟨w, w1, w2⟩ := ih (i + 1) (up2 u' rho (upd (u' rho) i a)) (by omega) (fun r j => by
        by_cases q0 : r = rho
        · subst q0
          rw [up2_eq]
          show (if j = i then a else u' r j) = _
          by_cases q : j = i
          · rw [if_pos q, if_pos ⟨rfl, by omega⟩]
          · rw [if_neg q, hu r j]
            by_cases q2 : j < i
            · rw [if_pos ⟨rfl, q2⟩, if_pos ⟨rfl, by omega⟩]
            · rw [if_neg (fun q => q2 q.2), if_neg (fun q => by omega)]
        · rw [up2_ne _ _ q0, hu r j, if_neg (fun q => q0 q.1), if_neg (fun q => q0 q.1)])
      refine ⟨w, ?_, w2⟩
      rw [← w1, sm_tot_u, fn_JA_fill_r_q5]
      unfold fn_JA_fill_r_b5
      simp (disch := omega) only [il_0, il_1, il_6, ii_add, ii_le, ii_lt, ii_nat, i2, if_pos, if_neg, sm_ev_l]
      rfl
  obtain ⟨w, w1, w2⟩ := lp 6 0 u (by omega) (fun r j => by rw [if_neg (fun q => by omega)])
  refine ⟨w, ?_, w2⟩
  rw [← w1, sm_tot_u, fn_JA_fill_r_q0]
  rfl
theorem eq_clear {x1 x2 x3 : Int32} {ca : Nat → Nat → Int32} {cb : Nat → Int32} : ∃ ca' cb', sm_tot fn_EQ_clear (0, 0, x1, x2, x3, ca, cb) = some (0, 0, 0, ca', cb') ∧ (∀ r c, r < 4 → c < 6 → ca' r c = iI 0) ∧ ∀ r, r < 4 → cb' r = iI 0 := by
  have lp : ∀ d i (u' : Nat → Nat → Int32), i + d = 4 → (∀ r c, r < i → c < 6 → u' r c = iI 0) → ∃ ca' cb', sm_tot fn_EQ_clear (2, iI i, x1, x2, x3, u', cb) = some (0, 0, 0, ca', cb') ∧ (∀ r c, r < 4 → c < 6 → ca' r c = iI 0) ∧ ∀ r, r < 4 → cb' r = iI 0 := by
    intro d
    induction d with
    | zero =>
      intro i u' hi hu
      have e : i = 4 := by omega
      subst e
      obtain ⟨w, w1, w2⟩ := ja_fill (n := 4) (by omega) 0 cb
      refine ⟨u', w, ?_, hu, fun r hr => by rw [w2 r, if_pos hr]; rfl⟩
      rw [sm_tot_u, fn_EQ_clear_q2]
      unfold fn_EQ_clear_b2
      simp (disch := omega) only [il_4, ii_le, if_pos]
      rw [w1, Option.bind_some, sm_ev_r]
    | succ d ih =>
      intro i u' hi hu
      have i2 : ((i : Int)).toNat = i := by omega
      obtain ⟨w, w1, w2⟩ := ja_fill_r (rho := i) 0 u'
      obtain ⟨ca', cb', a1, a2, a3⟩ := ih (i + 1) w (by omega) (fun r c hr hc => by
        rw [w2 r c]
        by_cases q : r = i
        · rw [if_pos ⟨q, hc⟩]; rfl
        · rw [if_neg (fun x => q x.1)]
          exact hu r c (by omega) hc)
      refine ⟨ca', cb', ?_, a2, a3⟩
      rw [← a1, sm_tot_u, fn_EQ_clear_q2]
      unfold fn_EQ_clear_b2
      rw [if_neg (show ¬ (4 : Int32) ≤ iI (i : Int) by rw [il_4, ii_le (by omega) (by omega) (by omega) (by omega)]; omega), if_pos (show ¬ (iI (i : Int) < 0 ∨ 4 ≤ (iI (i : Int)).toNatClampNeg) by rw [il_0, ii_lt (by omega) (by omega) (by omega) (by omega), ii_nat (by omega) (by omega)]; omega), ii_nat (by omega) (by omega), i2, w1, Option.bind_some, sm_ev_l, il_1, ii_add]
      rfl
  rw [sm_tot_u, fn_EQ_clear_q0]
  exact lp 4 0 ca (by omega) (fun r c hr _ => by omega)
section EQS
variable {nv ns : Nat}
theorem eq_full (hn : nv + ns ≤ 6) : sm_tot (fn_EQ_isFull (iI nv) (iI ns)) (0, 0) = some (bI (decide (nv + ns = 6))) := by
  have e14 : ∀ b : Bool, sm_tot (fn_EQ_isFull (iI nv) (iI ns)) (14, bI b) = some (bI b) := fun b => by rw [sm_tot_u, fn_EQ_isFull_q14]; unfold fn_EQ_isFull_b14; rw [if_pos bI_01, sm_ev_r]
  rw [sm_tot_u, fn_EQ_isFull_q0]
  unfold fn_EQ_isFull_b0
  rw [eq_columns, Option.bind_some, il_6, ie_lt (by omega) (by omega) (by omega) (by omega)]
  by_cases q : nv + ns = 6
  · rw [if_neg (by omega), decide_eq_true q, sm_ev_l]
    exact e14 true
  · rw [if_pos (by omega), decide_eq_false q, sm_ev_l]
    exact e14 false
section EQC
variable {lt : Nat → Int} {cl : Nat → Int32} {v : Int}
theorem eq_col_l (hn : nv + ns ≤ 6) (hl : ∀ c, c < nv → cl c = iI (lt c) ∧ 0 ≤ lt c ∧ lt c ≤ 1000) (hv : 0 ≤ v ∧ v ≤ 1000) {k : Nat} (hk : k ≤ nv) (hno : ∀ c, c < k → lt c ≠ v) : ∀ d j, j + d = k → sm_tot (fn_EQ_columnOf (iI v) (iI ns)) (2, iI j, iI nv, cl) = sm_tot (fn_EQ_columnOf (iI v) (iI ns)) (2, iI k, iI nv, cl) := by
  intro d
  induction d with
  | zero => intro j hj; rw [show j = k by omega]
  | succ d ih =>
    intro j hj
    have i2 : ((j : Int)).toNat = j := by omega
    obtain ⟨h1, h2, h3⟩ := hl j (by omega)
    have h4 := hno j (by omega)
    rw [← ih (j + 1) (by omega), sm_tot_u, fn_EQ_columnOf_q2]
    unfold fn_EQ_columnOf_b2
    rw [if_neg (show ¬ iI (nv : Int) ≤ iI (j : Int) by rw [ii_le (by omega) (by omega) (by omega) (by omega)]; omega), if_pos (show ¬ (iI (j : Int) < 0 ∨ 6 ≤ (iI (j : Int)).toNatClampNeg) by rw [il_0, ii_lt (by omega) (by omega) (by omega) (by omega), ii_nat (by omega) (by omega)]; omega), ii_nat (by omega) (by omega), i2, h1, if_neg (show ¬ iI (lt j) = iI v by rw [ii_eq (by omega) (by omega) (by omega) (by omega)]; exact h4), sm_ev_l, il_1, ii_add]
    rfl
theorem eq_col_t (hn : nv + ns ≤ 6) (hl : ∀ c, c < nv → cl c = iI (lt c) ∧ 0 ≤ lt c ∧ lt c ≤ 1000) (hv : 0 ≤ v ∧ v ≤ 1000) {k : Nat} (hk : k < nv) (hno : ∀ c, c < k → lt c ≠ v) (he : lt k = v) : sm_tot (fn_EQ_columnOf (iI v) (iI ns)) (0, 0, iI nv, cl) = some (iI k, iI nv, cl) := by
  have i2 : ((k : Int)).toNat = k := by omega
  obtain ⟨h1, h2, h3⟩ := hl k hk
  rw [sm_tot_u, fn_EQ_columnOf_q0]
  refine (eq_col_l hn hl hv (by omega) hno k 0 (by omega)).trans ?_
  rw [sm_tot_u, fn_EQ_columnOf_q2]
  unfold fn_EQ_columnOf_b2
  rw [if_neg (show ¬ iI (nv : Int) ≤ iI (k : Int) by rw [ii_le (by omega) (by omega) (by omega) (by omega)]; omega), if_pos (show ¬ (iI (k : Int) < 0 ∨ 6 ≤ (iI (k : Int)).toNatClampNeg) by rw [il_0, ii_lt (by omega) (by omega) (by omega) (by omega), ii_nat (by omega) (by omega)]; omega), ii_nat (by omega) (by omega), i2, h1, he, if_pos rfl, sm_ev_r]
theorem eq_col_f (hn : nv + ns ≤ 6) (hl : ∀ c, c < nv → cl c = iI (lt c) ∧ 0 ≤ lt c ∧ lt c ≤ 1000) (hv : 0 ≤ v ∧ v ≤ 1000) (hno : ∀ c, c < nv → lt c ≠ v) : sm_tot (fn_EQ_columnOf (iI v) (iI ns)) (0, 0, iI nv, cl) = if nv + ns = 6 then some (-1, iI nv, cl) else some (iI nv, iI ((nv + 1 : Nat) : Int), upd cl nv (iI v)) := by
  have i2 : ((nv : Int)).toNat = nv := by omega
  rw [sm_tot_u, fn_EQ_columnOf_q0]
  refine (eq_col_l hn hl hv (Nat.le_refl _) hno nv 0 (by omega)).trans ?_
  rw [sm_tot_u, fn_EQ_columnOf_q2]
  unfold fn_EQ_columnOf_b2
  rw [if_pos (show iI (nv : Int) ≤ iI (nv : Int) by rw [ii_le (by omega) (by omega) (by omega) (by omega)]; omega), eq_full hn, Option.bind_some, ie_b0]
  by_cases q : nv + ns = 6
  · rw [decide_eq_true q, if_neg (by decide), if_pos q, sm_ev_r]
  · rw [decide_eq_false q, if_pos rfl, if_neg q, if_pos (show ¬ (iI (nv : Int) < 0 ∨ 6 ≤ (iI (nv : Int)).toNatClampNeg) by rw [il_0, ii_lt (by omega) (by omega) (by omega) (by omega), ii_nat (by omega) (by omega)]; omega), sm_ev_r, ii_nat (by omega) (by omega), i2, il_1, ii_add, ii_sub, show ((nv : Int) + 1 - 1) = nv by omega]
    rfl
/-- the reference's column of a letter -/
theorem mo_col_l (hn : nv ≤ 6) (hl : ∀ c, c < nv → cl c = iI (lt c) ∧ 0 ≤ lt c ∧ lt c ≤ 1000) (hv : 0 ≤ v ∧ v ≤ 1000) {k : Int} (hno : ∀ c, c < nv → lt c = v → (c : Int) = k) : ∀ d j (x : Int), j + d = nv → (x = k ∨ ∃ c, j ≤ c ∧ c < nv ∧ lt c = v) → sm_tot (fn_MO_draftColumn (iI v) (iI nv) cl) (4, iI x, iI j, 0) = some (iI k) := by
  have e27 : ∀ (j : Nat) y s, sm_tot (fn_MO_draftColumn (iI v) (iI nv) cl) (27, y, iI j, s) = sm_tot (fn_MO_draftColumn (iI v) (iI nv) cl) (4, s, iI ((j + 1 : Nat) : Int), 0) := fun j y s => by
    rw [sm_tot_u, fn_MO_draftColumn_q27]
    unfold fn_MO_draftColumn_b27
    rw [sm_ev_l, il_1, ii_add]
    rfl
  intro d
  induction d with
  | zero =>
    intro j x hj hx
    have e : x = k := by
      rcases hx with h | ⟨c, h1, h2, _⟩
      · exact h
      · omega
    rw [sm_tot_u, fn_MO_draftColumn_q4]
    unfold fn_MO_draftColumn_b4
    rw [if_pos (show iI (nv : Int) ≤ iI (j : Int) by rw [ii_le (by omega) (by omega) (by omega) (by omega)]; omega), sm_ev_r, e]
  | succ d ih =>
    intro j x hj hx
    have i2 : ((j : Int)).toNat = j := by omega
    obtain ⟨h1, h2, h3⟩ := hl j (by omega)
    rw [sm_tot_u, fn_MO_draftColumn_q4]
    unfold fn_MO_draftColumn_b4
    rw [if_neg (show ¬ iI (nv : Int) ≤ iI (j : Int) by rw [ii_le (by omega) (by omega) (by omega) (by omega)]; omega), if_pos (show ¬ (iI (j : Int) < 0 ∨ 6 ≤ (iI (j : Int)).toNatClampNeg) by rw [il_0, ii_lt (by omega) (by omega) (by omega) (by omega), ii_nat (by omega) (by omega)]; omega), ii_nat (by omega) (by omega), i2, h1, ie_eq (by omega) (by omega) (by omega) (by omega)]
    by_cases q : lt j = v
    · rw [if_pos q, sm_ev_l, e27]
      exact ih (j + 1) j (by omega) (Or.inl (hno j (by omega) q))
    · rw [if_neg q, sm_ev_l, e27]
      refine ih (j + 1) x (by omega) ?_
      rcases hx with h | ⟨c, c1, c2, c3⟩
      · exact Or.inl h
      · refine Or.inr ⟨c, ?_, c2, c3⟩
        rcases Nat.lt_or_ge j c with h | h
        · exact h
        · have : c = j := by omega
          subst this
          exact absurd c3 q
theorem mo_col_t (hn : nv ≤ 6) (hl : ∀ c, c < nv → cl c = iI (lt c) ∧ 0 ≤ lt c ∧ lt c ≤ 1000) (hv : 0 ≤ v ∧ v ≤ 1000) {k : Nat} (hk : k < nv) (hno : ∀ c, c < nv → lt c = v → c = k) (he : lt k = v) : sm_tot (fn_MO_draftColumn (iI v) (iI nv) cl) (0, 0, 0, 0) = some (iI k) := by
  rw [sm_tot_u, fn_MO_draftColumn_q0]
  exact mo_col_l hn hl hv (fun c hc h => by rw [hno c hc h]) nv 0 (-1) (by omega) (Or.inr ⟨k, by omega, hk, he⟩)
theorem mo_col_f (hn : nv ≤ 6) (hl : ∀ c, c < nv → cl c = iI (lt c) ∧ 0 ≤ lt c ∧ lt c ≤ 1000) (hv : 0 ≤ v ∧ v ≤ 1000) (hno : ∀ c, c < nv → lt c ≠ v) : sm_tot (fn_MO_draftColumn (iI v) (iI nv) cl) (0, 0, 0, 0) = some (iI (-1)) := by
  rw [sm_tot_u, fn_MO_draftColumn_q0]
  exact mo_col_l hn hl hv (fun c hc h => absurd h (hno c hc)) nv 0 (-1) (by omega) (Or.inl rfl)
end EQC
theorem eq_slack (hn : nv + ns < 6) {x y : Int32} {c1 c2 : Nat → Int32} : sm_tot (fn_EQ_addSlack x y (iI nv)) (0, iI ns, c1, c2) = some (iI ((ns + 1 : Nat) : Int), upd c1 ns x, upd c2 ns y) := by
  have i2 : ((ns : Int)).toNat = ns := by omega
  rw [sm_tot_u, fn_EQ_addSlack_q0]
  unfold fn_EQ_addSlack_b0
  rw [eq_full (by omega), Option.bind_some, decide_eq_false (by omega), ie_b0, if_pos rfl, if_pos (show ¬ (iI (ns : Int) < 0 ∨ 6 ≤ (iI (ns : Int)).toNatClampNeg) by rw [il_0, ii_lt (by omega) (by omega) (by omega) (by omega), ii_nat (by omega) (by omega)]; omega), sm_ev_l, sm_tot_u, fn_EQ_addSlack_q37]
  unfold fn_EQ_addSlack_b37
  rw [sm_ev_r, ii_nat (by omega) (by omega), i2, il_1, ii_add]
  rfl
/-- too large a number in a row -/
def bj_lg (nv : Nat) (A : Nat → Int) (b : Int) : Bool := !(sx_alf (fun c => decide ((A c).natAbs ≤ 20)) nv 0) || !(decide (b.natAbs ≤ 200))
theorem ii_ab2 {x : Int} (h : x.natAbs ≤ 100000000) : (if (0 : Int32) ≤ iI x then iI x else 0 - iI x) = iI (x.natAbs : Int) := by
  rw [il_0, ie_le (by omega) (by omega) (by omega) (by omega), ii_sub]
  split
  · rw [show (x.natAbs : Int) = x by omega]
  · rw [show (x.natAbs : Int) = 0 - x by omega]
theorem eq_large {R : Nat} (hR : R < 4) (hn : nv ≤ 6) {A : Nat → Int} {b : Int} {ca : Nat → Nat → Int32} {cb : Nat → Int32} (hA : ∀ c, c < nv → ca R c = iI (A c) ∧ (A c).natAbs ≤ 100000000) (hb : cb R = iI b ∧ b.natAbs ≤ 100000000) : sm_tot (fn_EQ_isLarge (iI R) (iI nv) ca cb) (0, 0, 0) = some (bI (bj_lg nv A b)) := by
  have iR : ((R : Int)).toNat = R := by omega
  have gR : ¬ (iI (R : Int) < 0 ∨ 4 ≤ (iI (R : Int)).toNatClampNeg) := by rw [il_0, ii_lt (by omega) (by omega) (by omega) (by omega), ii_nat (by omega) (by omega)]; omega
  have e54 : ∀ x (y : Bool), sm_tot (fn_EQ_isLarge (iI R) (iI nv) ca cb) (54, x, bI y) = some (bI y) := fun x y => by rw [sm_tot_u, fn_EQ_isLarge_q54]; unfold fn_EQ_isLarge_b54; rw [if_pos bI_01, sm_ev_r]
  have hb1 := hb.2
  have lp : ∀ d j, j + d = nv → sm_tot (fn_EQ_isLarge (iI R) (iI nv) ca cb) (2, iI j, 0) = some (bI (!(sx_alf (fun c => decide ((A c).natAbs ≤ 20)) d j) || !(decide (b.natAbs ≤ 200)))) := by
    intro d
    induction d with
    | zero =>
      intro j hj
      rw [sm_tot_u, fn_EQ_isLarge_q2]
      unfold fn_EQ_isLarge_b2
      rw [if_pos (show iI (nv : Int) ≤ iI (j : Int) by rw [ii_le (by omega) (by omega) (by omega) (by omega)]; omega), if_pos gR, ii_nat (by omega) (by omega), iR, hb.1, ii_ab2 hb.2, il_200, ie_le (by omega) (by omega) (by omega) (by omega)]
      show _ = some (bI (false || !(decide (b.natAbs ≤ 200))))
      by_cases q : b.natAbs ≤ 200
      · rw [if_pos (by omega), decide_eq_true q, sm_ev_l]
        exact e54 _ false
      · rw [if_neg (by omega), decide_eq_false q, sm_ev_l]
        exact e54 _ true
    | succ d ih =>
      intro j hj
      have i2 : ((j : Int)).toNat = j := by omega
      obtain ⟨h1, h2⟩ := hA j (by omega)
      rw [sm_tot_u, fn_EQ_isLarge_q2, sx_alf_s]
      unfold fn_EQ_isLarge_b2
      rw [if_neg (show ¬ iI (nv : Int) ≤ iI (j : Int) by rw [ii_le (by omega) (by omega) (by omega) (by omega)]; omega), if_pos gR, if_pos (show ¬ (iI (j : Int) < 0 ∨ 6 ≤ (iI (j : Int)).toNatClampNeg) by rw [il_0, ii_lt (by omega) (by omega) (by omega) (by omega), ii_nat (by omega) (by omega)]; omega), ii_nat (by omega) (by omega), ii_nat (by omega) (by omega), iR, i2, h1, ii_ab2 h2, il_20, ie_le (by omega) (by omega) (by omega) (by omega)]
      by_cases q : (A j).natAbs ≤ 20
      · rw [if_pos (by omega), decide_eq_true q, sm_ev_l, Bool.true_and, il_1, ii_add]
        exact ih (j + 1) (by omega)
      · rw [if_neg (by omega), decide_eq_false q, sm_ev_r, Bool.false_and]
        rfl
  rw [sm_tot_u, fn_EQ_isLarge_q0]
  exact lp nv 0 (by omega)
theorem bj_lg_f {A : Nat → Int} {b : Int} (h : bj_lg nv A b = false) : (∀ c, c < nv → (A c).natAbs ≤ 20) ∧ b.natAbs ≤ 200 := by
  unfold bj_lg at h
  rw [Bool.or_eq_false_iff, Bool.not_eq_false', Bool.not_eq_false', decide_eq_true_iff, sx_alf_iff] at h
  exact ⟨fun c hc => of_decide_eq_true (h.1 c (by omega) (by omega)), h.2⟩
theorem bj_lg_t {A : Nat → Int} {b : Int} (h : bj_lg nv A b = true) : (∃ c, c < nv ∧ 20 < (A c).natAbs) ∨ 200 < b.natAbs := by
  by_cases q : b.natAbs ≤ 200
  · left
    apply Classical.byContradiction
    intro hn
    have : bj_lg nv A b = false := by
      unfold bj_lg
      rw [Bool.or_eq_false_iff, Bool.not_eq_false', Bool.not_eq_false', decide_eq_true_iff, sx_alf_iff]
      refine ⟨fun c _ hc => decide_eq_true ?_, q⟩
      rcases Nat.lt_or_ge 20 (A c).natAbs with h2 | h2
      · exact absurd ⟨c, by omega, h2⟩ hn
      · exact h2
    rw [this] at h
    cases h
  · right; omega
end EQS
