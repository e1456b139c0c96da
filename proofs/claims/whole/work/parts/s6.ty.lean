/-! type -/
theorem by_c (a : Int64) {j : Nat} (hj : j < 8) : sm_tot (fn_TX_byteOf a (iI j)) 0 = some (iI (yb a (8 * j) : Int)) := by
  rw [sm_tot_u, fn_TX_byteOf_q0]
  have e : bc a (iI (j : Int)) = nI (yb a (8 * j)) := by
    apply bc_eq
    rcases (show j = 0 ∨ j = 1 ∨ j = 2 ∨ j = 3 ∨ j = 4 ∨ j = 5 ∨ j = 6 ∨ j = 7 by omega) with rfl | rfl | rfl | rfl | rfl | rfl | rfl | rfl <;> decide +kernel
  rw [ii_nI] at e
  show some (bc a (iI (j : Int))) = _
  rw [e]
theorem by_m (a : Int64) {j : Nat} (hj : j < 8) : bm a (iI j) = lN (yb a (8 * j)) := by
  apply bm_eq
  · rcases (show j = 0 ∨ j = 1 ∨ j = 2 ∨ j = 3 ∨ j = 4 ∨ j = 5 ∨ j = 6 ∨ j = 7 by omega) with rfl | rfl | rfl | rfl | rfl | rfl | rfl | rfl <;> decide +kernel
  · omega
def ty_p (a : Int64) (j : Nat) : Bool := decide (32 ≤ yb a (8 * j) ∧ yb a (8 * j) ≤ 126)
section TY
variable {a : Int64} {k : Nat}
theorem tx_are (hk : k ≤ 8) : ∀ d i, i + d = k → sm_tot (fn_TX_areTypable a (iI k)) (2, iI i) = some (bI (sx_alf (ty_p a) d i)) := by
  have e28 : ∀ s, sm_tot (fn_TX_areTypable a (iI k)) (28, s) = some 0 := by
    intro s
    rw [sm_tot_u, fn_TX_areTypable_q28]
    rfl
  intro d
  induction d with
  | zero =>
    intro i hi
    rw [sm_tot_u, fn_TX_areTypable_q2]
    unfold fn_TX_areTypable_b2
    rw [if_pos (show iI (k : Int) ≤ iI (i : Int) by rw [ii_le (by omega) (by omega) (by omega) (by omega)]; omega)]
    rfl
  | succ d ih =>
    intro i hi
    have hy := yb_lt a (8 * i)
    rw [sm_tot_u, fn_TX_areTypable_q2]
    unfold fn_TX_areTypable_b2
    rw [if_neg (show ¬ iI (k : Int) ≤ iI (i : Int) by rw [ii_le (by omega) (by omega) (by omega) (by omega)]; omega), by_c a (by omega), Option.bind_some, sx_alf_s]
    by_cases q1 : yb a (8 * i) < 32
    · rw [if_pos (show iI (yb a (8 * i) : Int) < 32 by rw [show (32 : Int32) = iI 32 from rfl, ii_lt (by omega) (by omega) (by omega) (by omega)]; omega), sm_ev_l, e28, show ty_p a i = false from decide_eq_false (by omega), Bool.false_and]
      rfl
    rw [if_neg (show ¬ iI (yb a (8 * i) : Int) < 32 by rw [show (32 : Int32) = iI 32 from rfl, ii_lt (by omega) (by omega) (by omega) (by omega)]; omega)]
    by_cases q2 : yb a (8 * i) ≤ 126
    · rw [if_pos (show iI (yb a (8 * i) : Int) ≤ 126 by rw [show (126 : Int32) = iI 126 from rfl, ii_le (by omega) (by omega) (by omega) (by omega)]; omega), sm_ev_l, ii_s, ih (i + 1) (by omega), show ty_p a i = true from decide_eq_true (by omega), Bool.true_and]
    · rw [if_neg (show ¬ iI (yb a (8 * i) : Int) ≤ 126 by rw [show (126 : Int32) = iI 126 from rfl, ii_le (by omega) (by omega) (by omega) (by omega)]; omega), sm_ev_l, e28, show ty_p a i = false from decide_eq_false (by omega), Bool.false_and]
      rfl
theorem ty_are (hk : k ≤ 8) {th ln : Int32} {u : Nat → Int32} : ∀ d i, i + d = k → sm_tot (fn_MO_type a (iI k)) (38, 1, iI i, 0, th, ln, u) = sm_tot (fn_MO_type a (iI k)) (93, bI (sx_alf (ty_p a) d i), 0, 0, th, ln, u) := by
  have e85 : ∀ (b : Bool) (i : Nat) x, sm_tot (fn_MO_type a (iI k)) (85, x, iI i, bI b, th, ln, u) = sm_tot (fn_MO_type a (iI k)) (38, bI b, iI ((i + 1 : Nat) : Int), 0, th, ln, u) := by
    intro b i x
    rw [sm_tot_u, fn_MO_type_q85]
    unfold fn_MO_type_b85
    rw [sm_ev_l, ii_s]
  have e84 : ∀ (i : Nat) x y, sm_tot (fn_MO_type a (iI k)) (84, x, iI i, y, th, ln, u) = sm_tot (fn_MO_type a (iI k)) (93, 0, 0, 0, th, ln, u) := by
    intro i x y
    rw [sm_tot_u, fn_MO_type_q84]
    unfold fn_MO_type_b84
    rw [sm_ev_l]
    refine (e85 false i 0).trans ?_
    rw [sm_tot_u, fn_MO_type_q38]
    unfold fn_MO_type_b38
    rw [if_pos bI_f, sm_ev_l]
    rfl
  intro d
  induction d with
  | zero =>
    intro i hi
    rw [sm_tot_u, fn_MO_type_q38]
    unfold fn_MO_type_b38
    rw [if_neg (by decide), if_pos (show iI (k : Int) ≤ iI (i : Int) by rw [ii_le (by omega) (by omega) (by omega) (by omega)]; omega), sm_ev_l]
    rfl
  | succ d ih =>
    intro i hi
    have hy := yb_lt a (8 * i)
    have hb : (a >>> ((8 * iI (i : Int)).toInt64 &&& 63)) &&& 255 = lN (yb a (8 * i)) := by_m a (by omega)
    rw [sm_tot_u, fn_MO_type_q38]
    unfold fn_MO_type_b38
    rw [if_neg (by decide), if_neg (show ¬ iI (k : Int) ≤ iI (i : Int) by rw [ii_le (by omega) (by omega) (by omega) (by omega)]; omega), hb, sx_alf_s]
    by_cases q1 : yb a (8 * i) < 32
    · rw [if_pos (show lg_cmp (lN (yb a (8 * i))) 32 < 0 from (lg_lt0 _ _).mpr ((lN_lt (b := 32) (by omega) (by omega)).mpr q1)), sm_ev_l, e84, show ty_p a i = false from decide_eq_false (by omega), Bool.false_and]
      rfl
    rw [if_neg (show ¬ lg_cmp (lN (yb a (8 * i))) 32 < 0 from fun q => q1 ((lN_lt (b := 32) (by omega) (by omega)).mp ((lg_lt0 _ _).mp q)))]
    by_cases q2 : 126 < yb a (8 * i)
    · rw [if_pos (show 0 < lg_cmp (lN (yb a (8 * i))) 126 from (lg_gt0 _ _).mpr ((lN_lt (a := 126) (by omega) (by omega)).mpr q2)), sm_ev_l, e84, show ty_p a i = false from decide_eq_false (by omega), Bool.false_and]
      rfl
    · rw [if_neg (show ¬ 0 < lg_cmp (lN (yb a (8 * i))) 126 from fun q => q2 ((lN_lt (a := 126) (by omega) (by omega)).mp ((lg_gt0 _ _).mp q))), sm_ev_l]
      refine (e85 true i 0).trans ?_
      refine (ih (i + 1) (by omega)).trans ?_
      rw [show ty_p a i = true from decide_eq_true (by omega), Bool.true_and]
theorem tx_put_l {x : Int32} : ∀ (d M : Nat) (u : Nat → Int32), d ≤ 8 → M + d ≤ 300 → (∀ j, j < d → yb a (8 * j) ≤ 126) → ∃ u', sm_tot (fn_TX_put a x) (38, iI ((d : Int) - 1), iI M, u) = some (1, iI ((M + d : Nat) : Int), u') ∧ (∀ i, i < M → u' i = u i) ∧ ∀ i, i < d → u' (M + i) = iI (yb a (8 * (d - 1 - i)) : Int) := by
  intro d
  induction d with
  | zero =>
    intro M u _ hM _
    refine ⟨u, ?_, fun _ _ => rfl, fun i hi => absurd hi (Nat.not_lt_zero i)⟩
    rw [sm_tot_u, fn_TX_put_q38]
    unfold fn_TX_put_b38
    rw [if_pos (by decide)]
    rfl
  | succ d ih =>
    intro M u hd hM hy
    obtain ⟨u', f1, f2, f3⟩ := ih (M + 1) (upd u M (iI (yb a (8 * d) : Int))) (by omega) (by omega) (fun j hj => hy j (by omega))
    have hyd := hy d (by omega)
    refine ⟨u', ?_, fun i hi => ?_, fun i hi => ?_⟩
    · rw [sm_tot_u, fn_TX_put_q38]
      unfold fn_TX_put_b38
      rw [show ((d + 1 : Nat) : Int) - 1 = (d : Int) by omega, if_neg (show ¬ iI (d : Int) < 0 by rw [il_0, ii_lt (by omega) (by omega) (by omega) (by omega)]; omega), by_c a (by omega), Option.bind_some, if_pos (ii_g (a := (M : Int)) (N := 300) (by omega) (by omega) (by omega)), sm_ev_l, ii_byte (by omega), ii_nat (by omega) (by omega), Int.toNat_natCast, ii_s, show iI (d : Int) + -1 = iI ((d : Int) - 1) by rw [show (-1 : Int32) = iI (-1) from rfl, ii_add]; rfl, f1]
      rw [show M + 1 + d = M + (d + 1) by omega]
    · rw [f2 i (by omega)]
      show (if i = M then _ else u i) = u i
      rw [if_neg (by omega)]
    · by_cases q : i = 0
      · subst q
        rw [Nat.add_zero, f2 M (by omega)]
        show (if M = M then _ else u M) = _
        rw [if_pos rfl]
        rfl
      · have := f3 (i - 1) (by omega)
        rw [show M + 1 + (i - 1) = M + i by omega, show d - 1 - (i - 1) = d + 1 - 1 - i by omega] at this
        exact this
theorem ty_put_l {x th : Int32} : ∀ (d M : Nat) (u : Nat → Int32), d ≤ 8 → M + d ≤ 300 → ∃ u', sm_tot (fn_MO_type a x) (105, 0, iI ((d : Int) - 1), 0, th, iI M, u) = some (iI ((M + d : Nat) : Int), th, iI ((M + d : Nat) : Int), u') ∧ (∀ i, i < M → u' i = u i) ∧ ∀ i, i < d → u' (M + i) = iI (yb a (8 * (d - 1 - i)) : Int) := by
  intro d
  induction d with
  | zero =>
    intro M u _ hM
    refine ⟨u, ?_, fun _ _ => rfl, fun i hi => absurd hi (Nat.not_lt_zero i)⟩
    rw [sm_tot_u, fn_MO_type_q105]
    unfold fn_MO_type_b105
    rw [if_pos (by decide)]
    rfl
  | succ d ih =>
    intro M u hd hM
    obtain ⟨u', f1, f2, f3⟩ := ih (M + 1) (upd u M (iI (yb a (8 * d) : Int))) (by omega) (by omega)
    have hb : ((a >>> ((8 * iI (d : Int)).toInt64 &&& 63)) &&& 255).toInt32 = iI (yb a (8 * d) : Int) := by
      have := by_m a (j := d) (by omega)
      unfold bm at this
      rw [this, lN_i, ii_nI]
    refine ⟨u', ?_, fun i hi => ?_, fun i hi => ?_⟩
    · rw [sm_tot_u, fn_MO_type_q105]
      unfold fn_MO_type_b105
      rw [show ((d + 1 : Nat) : Int) - 1 = (d : Int) by omega, if_neg (show ¬ iI (d : Int) < 0 by rw [il_0, ii_lt (by omega) (by omega) (by omega) (by omega)]; omega), if_pos (ii_g (a := (M : Int)) (N := 300) (by omega) (by omega) (by omega)), sm_ev_l, hb, ii_nat (by omega) (by omega), Int.toNat_natCast, ii_s, show iI (d : Int) + -1 = iI ((d : Int) - 1) by rw [show (-1 : Int32) = iI (-1) from rfl, ii_add]; rfl, f1]
      rw [show M + 1 + d = M + (d + 1) by omega]
    · rw [f2 i (by omega)]
      show (if i = M then _ else u i) = u i
      rw [if_neg (by omega)]
    · by_cases q : i = 0
      · subst q
        rw [Nat.add_zero, f2 M (by omega)]
        show (if M = M then _ else u M) = _
        rw [if_pos rfl]
        rfl
      · have := f3 (i - 1) (by omega)
        rw [show M + 1 + (i - 1) = M + i by omega, show d - 1 - (i - 1) = d + 1 - 1 - i by omega] at this
        exact this
end TY
def jt (x y : Int32) (ct cu : Nat → Int32) : Prop := ∃ (L : Nat) (t : Nat → Int), x = iI L ∧ y = iI L ∧ tx_ok L t ct ∧ tx_ok L t cu
theorem jn_type {x y : Int32} {ct cu : Nat → Int32} (h : jt x y ct cu) (a : Int64) (n th : Int32) : ∃ r1 r2, sm_tot (fn_LS_type a n) (0, 0, x, ct) = some r1 ∧ sm_tot (fn_MO_type a n) (0, 0, 0, 0, th, y, cu) = some r2 ∧ r1.1 = r2.1 ∧ jt r1.2.1 r2.2.2.1 r1.2.2 r2.2.2.2 := by
  have hJ := h
  obtain ⟨L, t, rfl, rfl, h1, h2⟩ := h
  obtain ⟨z, rfl, g1, g2⟩ := ii_of n
  have hL := h1.1
  have c23 : ∀ s l u, sm_tot (fn_LS_type a (iI z)) (23, s, l, u) = some (s, l, u) := by
    intro s l u
    rw [sm_tot_u, fn_LS_type_q23]
    rfl
  have hno : sm_tot (fn_TX_put a (iI z)) (0, 0, iI L, ct) = some (0, iI L, ct) → sm_tot (fn_MO_type a (iI z)) (0, 0, 0, 0, th, iI L, cu) = some (-1, 0, iI L, cu) → ∃ r1 r2, sm_tot (fn_LS_type a (iI z)) (0, 0, iI L, ct) = some r1 ∧ sm_tot (fn_MO_type a (iI z)) (0, 0, 0, 0, th, iI L, cu) = some r2 ∧ r1.1 = r2.1 ∧ jt r1.2.1 r2.2.2.1 r1.2.2 r2.2.2.2 := by
    intro e1 e2
    refine ⟨(-1, iI L, ct), _, ?_, e2, rfl, hJ⟩
    rw [sm_tot_u, fn_LS_type_q0]
    unfold fn_LS_type_b0
    rw [e1, Option.bind_some, if_pos rfl, sm_ev_l, c23]
  have c31 : ∀ s l u, sm_tot (fn_TX_put a (iI z)) (31, s, l, u) = some (0, l, u) := by
    intro s l u
    rw [sm_tot_u, fn_TX_put_q31]
    rfl
  have e93 : ∀ s1 s2 w l u, sm_tot (fn_MO_type a (iI z)) (93, 0, s1, s2, w, l, u) = some (-1, w, l, u) := by
    intro s1 s2 w l u
    rw [sm_tot_u, fn_MO_type_q93]
    unfold fn_MO_type_b93
    rw [if_pos rfl]
    rfl
  have e32 : ∀ s1 s2 s3 l u, sm_tot (fn_MO_type a (iI z)) (32, s1, s2, s3, 0, l, u) = some (-1, 0, l, u) := by
    intro s1 s2 s3 l u
    rw [sm_tot_u, fn_MO_type_q32]
    unfold fn_MO_type_b32
    rw [sm_ev_l, sm_tot_u, fn_MO_type_q33]
    unfold fn_MO_type_b33
    rw [sm_ev_l, sm_tot_u, fn_MO_type_q38]
    unfold fn_MO_type_b38
    rw [if_pos rfl, sm_ev_l, e93]
  by_cases q1 : z < 1
  · have hq : iI z < 1 := by rw [il_1, ii_lt g1 g2 (by omega) (by omega)]; exact q1
    apply hno
    · rw [sm_tot_u, fn_TX_put_q0]
      unfold fn_TX_put_b0
      rw [if_pos hq, sm_ev_l, c31]
    · rw [sm_tot_u, fn_MO_type_q0]
      unfold fn_MO_type_b0
      rw [if_pos hq, sm_ev_l, e32]
  have hq1 : ¬ iI z < 1 := by rw [il_1, ii_lt g1 g2 (by omega) (by omega)]; exact q1
  by_cases q2 : 8 < z
  · have hq : 8 < iI z := by rw [il_8, ii_lt (by omega) (by omega) g1 g2]; exact q2
    apply hno
    · rw [sm_tot_u, fn_TX_put_q0]
      unfold fn_TX_put_b0
      rw [if_neg hq1, if_pos hq, sm_ev_l, c31]
    · rw [sm_tot_u, fn_MO_type_q0]
      unfold fn_MO_type_b0
      rw [if_neg hq1, if_pos hq, sm_ev_l, e32]
  have hq2 : ¬ 8 < iI z := by rw [il_8, ii_lt (by omega) (by omega) g1 g2]; exact q2
  obtain ⟨k, rfl⟩ : ∃ k : Nat, z = k := ⟨z.toNat, by omega⟩
  by_cases q3 : 300 < L + k
  · have hq : 300 < iI (L : Int) + iI (k : Int) := by rw [il_300, ii_add, ii_lt (by omega) (by omega) (by omega) (by omega)]; omega
    apply hno
    · rw [sm_tot_u, fn_TX_put_q0]
      unfold fn_TX_put_b0
      rw [if_neg hq1, if_neg hq2, if_pos hq, sm_ev_l, c31]
    · rw [sm_tot_u, fn_MO_type_q0]
      unfold fn_MO_type_b0
      rw [if_neg hq1, if_neg hq2, if_pos hq, sm_ev_l, e32]
  have hq3 : ¬ 300 < iI (L : Int) + iI (k : Int) := by rw [il_300, ii_add, ii_lt (by omega) (by omega) (by omega) (by omega)]; omega
  have hA : sm_tot (fn_TX_areTypable a (iI (k : Int))) (0, 0) = some (bI (sx_alf (ty_p a) k 0)) := by
    rw [sm_tot_u, fn_TX_areTypable_q0]
    unfold fn_TX_areTypable_b0
    rw [sm_ev_l]
    exact tx_are (by omega) k 0 (by omega)
  have hM : sm_tot (fn_MO_type a (iI (k : Int))) (0, 0, 0, 0, th, iI L, cu) = sm_tot (fn_MO_type a (iI (k : Int))) (93, bI (sx_alf (ty_p a) k 0), 0, 0, 0, iI L, cu) := by
    rw [sm_tot_u, fn_MO_type_q0]
    unfold fn_MO_type_b0
    rw [if_neg hq1, if_neg hq2, if_neg hq3, sm_ev_l, sm_tot_u, fn_MO_type_q33]
    unfold fn_MO_type_b33
    rw [sm_ev_l]
    exact ty_are (by omega) k 0 (by omega)
  cases hP : sx_alf (ty_p a) k 0 with
  | false =>
    rw [hP] at hA hM
    apply hno
    · rw [sm_tot_u, fn_TX_put_q0]
      unfold fn_TX_put_b0
      rw [if_neg hq1, if_neg hq2, if_neg hq3, hA, Option.bind_some, if_pos bI_f, sm_ev_l, c31]
    · rw [hM]
      exact e93 _ _ _ _ _
  | true =>
    rw [hP] at hA hM
    have hr : ∀ j, j < k → 32 ≤ yb a (8 * j) ∧ yb a (8 * j) ≤ 126 := fun j hj => of_decide_eq_true (sx_alf_iff.mp hP j (by omega) (by omega))
    obtain ⟨u1, f1, f2, f3⟩ := tx_put_l (a := a) (x := iI (k : Int)) k L ct (by omega) (by omega) (fun j hj => (hr j hj).2)
    obtain ⟨u2, m1, m2, m3⟩ := ty_put_l (a := a) (x := iI (k : Int)) (th := 0) k L cu (by omega) (by omega)
    have hk1 : iI (k : Int) - 1 = iI ((k : Int) - 1) := by rw [il_1, ii_sub]
    refine ⟨(iI ((L + k : Nat) : Int), iI ((L + k : Nat) : Int), u1), (iI ((L + k : Nat) : Int), 0, iI ((L + k : Nat) : Int), u2), ?_, ?_, rfl, L + k, fun i => if i < L then t i else (yb a (8 * (k - 1 - (i - L))) : Int), rfl, rfl, ⟨by omega, fun i hi => ?_⟩, by omega, fun i hi => ?_⟩
    · have e : sm_tot (fn_TX_put a (iI (k : Int))) (0, 0, iI L, ct) = some (1, iI ((L + k : Nat) : Int), u1) := by
        rw [sm_tot_u, fn_TX_put_q0]
        unfold fn_TX_put_b0
        rw [if_neg hq1, if_neg hq2, if_neg hq3, hA, Option.bind_some, if_neg bI_t, sm_ev_l, hk1, f1]
      rw [sm_tot_u, fn_LS_type_q0]
      unfold fn_LS_type_b0
      rw [e, Option.bind_some, if_neg (show ¬ (1, iI ((L + k : Nat) : Int), u1).1 = (0 : Int32) from by show ¬ (1 : Int32) = 0; decide), sm_ev_l, c23]
    · rw [hM, sm_tot_u, fn_MO_type_q93]
      unfold fn_MO_type_b93
      rw [if_neg bI_t, sm_ev_l, hk1, m1]
    · dsimp only
      by_cases q : i < L
      · rw [if_pos q, f2 i q]
        exact h1.2 i q
      · rw [if_neg q]
        have := f3 (i - L) (by omega)
        rw [show L + (i - L) = i by omega] at this
        have := hr (k - 1 - (i - L)) (by omega)
        exact ⟨by assumption, by omega, by omega⟩
    · dsimp only
      by_cases q : i < L
      · rw [if_pos q, m2 i q]
        exact h2.2 i q
      · rw [if_neg q]
        have := m3 (i - L) (by omega)
        rw [show L + (i - L) = i by omega] at this
        have := hr (k - 1 - (i - L)) (by omega)
        exact ⟨by assumption, by omega, by omega⟩
