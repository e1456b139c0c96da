/-! small calls of both sides -/
theorem ii_of (x : Int32) : ∃ z : Int, x = iI z ∧ -2147483648 ≤ z ∧ z ≤ 2147483647 := ⟨x.toInt, (ii_self x).symm, by have := Int32.le_toInt x; omega, by have := Int32.toInt_lt x; omega⟩
theorem lg_same {x : Int64} : lg_cmp x x = 0 := by
  unfold lg_cmp
  simp
theorem vp_L0 {f : Nat → Int64} {x : Int64} : vp_updL f (0 : Int32).toNatClampNeg x (0 : Int32).toNatClampNeg = x := by
  unfold vp_updL
  rw [if_pos rfl]
section JH
variable {z : Int} {nv ns n m : Nat} {kn : Bool}
theorem ls_hasColumn (hn : nv + ns ≤ 6) (h1 : -2147483648 ≤ z) (h2 : z ≤ 2147483647) : sm_tot (fn_LS_hasColumn (iI z) (iI nv) (iI ns)) (0, 0) = some (bI (decide (0 ≤ z ∧ z < ((nv + ns : Nat) : Int)))) := by
  have e20 : ∀ b : Bool, sm_tot (fn_LS_hasColumn (iI z) (iI nv) (iI ns)) (20, bI b) = some (bI b) := by
    intro b
    rw [sm_tot_u, fn_LS_hasColumn_q20]
    unfold fn_LS_hasColumn_b20
    cases b <;> rfl
  have e19 : ∀ y, sm_tot (fn_LS_hasColumn (iI z) (iI nv) (iI ns)) (19, y) = some 0 := by
    intro y
    rw [sm_tot_u, fn_LS_hasColumn_q19]
    unfold fn_LS_hasColumn_b19
    rw [sm_ev_l]
    exact e20 false
  rw [sm_tot_u, fn_LS_hasColumn_q0]
  unfold fn_LS_hasColumn_b0
  by_cases q : z < 0
  · rw [if_pos (show iI z < 0 by rw [il_0, ii_lt h1 h2 (by omega) (by omega)]; exact q), sm_ev_l, e19, decide_eq_false (by omega)]
    rfl
  · rw [if_neg (show ¬ iI z < 0 by rw [il_0, ii_lt h1 h2 (by omega) (by omega)]; exact q), eq_columns, Option.bind_some]
    by_cases q2 : ((nv + ns : Nat) : Int) ≤ z
    · rw [if_pos (show iI ((nv + ns : Nat) : Int) ≤ iI z by rw [ii_le (by omega) (by omega) h1 h2]; exact q2), sm_ev_l, e19, decide_eq_false (by omega)]
      rfl
    · rw [if_neg (show ¬ iI ((nv + ns : Nat) : Int) ≤ iI z by rw [ii_le (by omega) (by omega) h1 h2]; exact q2), sm_ev_l, decide_eq_true (by omega)]
      exact e20 true
theorem mo_isColumn {mco : Int32} (hn : n ≤ 6) (hk : kn = true → mco = iI n) (h0 : kn = false → n = 0) (h1 : -2147483648 ≤ z) (h2 : z ≤ 2147483647) : sm_tot (fn_MO_isColumn (iI z) (bI kn) mco) (0, 0) = some (bI (decide (0 ≤ z ∧ z < (n : Int)))) := by
  have e20 : ∀ b : Bool, sm_tot (fn_MO_isColumn (iI z) (bI kn) mco) (24, bI b) = some (bI b) := by
    intro b
    rw [sm_tot_u, fn_MO_isColumn_q24]
    unfold fn_MO_isColumn_b24
    cases b <;> rfl
  have e19 : ∀ y, sm_tot (fn_MO_isColumn (iI z) (bI kn) mco) (23, y) = some 0 := by
    intro y
    rw [sm_tot_u, fn_MO_isColumn_q23]
    unfold fn_MO_isColumn_b23
    rw [sm_ev_l]
    exact e20 false
  rw [sm_tot_u, fn_MO_isColumn_q0]
  unfold fn_MO_isColumn_b0
  rw [ie_b0]
  cases kn with
  | false =>
    have := h0 rfl
    rw [if_pos rfl, sm_ev_l, e19, decide_eq_false (by omega)]
    rfl
  | true =>
    rw [if_neg (by decide)]
    by_cases q : z < 0
    · rw [if_pos (show iI z < 0 by rw [il_0, ii_lt h1 h2 (by omega) (by omega)]; exact q), sm_ev_l, e19, decide_eq_false (by omega)]
      rfl
    · rw [if_neg (show ¬ iI z < 0 by rw [il_0, ii_lt h1 h2 (by omega) (by omega)]; exact q)]
      by_cases q2 : (n : Int) ≤ z
      · rw [if_pos (show mco ≤ iI z by rw [hk rfl, ii_le (by omega) (by omega) h1 h2]; exact q2), sm_ev_l, e19, decide_eq_false (by omega)]
        rfl
      · rw [if_neg (show ¬ mco ≤ iI z by rw [hk rfl, ii_le (by omega) (by omega) h1 h2]; exact q2), sm_ev_l, decide_eq_true (by omega)]
        exact e20 true
theorem ls_colY (hn : nv + ns ≤ 6) (h1 : -2147483648 ≤ z) (h2 : z ≤ 2147483647) (hc : 0 ≤ z ∧ z < ((nv + ns : Nat) : Int)) : sm_tot (fn_LS_needColumn (iI z) (iI nv) (iI ns)) 0 = some () := by
  rw [sm_tot_u, fn_LS_needColumn_q0]
  unfold fn_LS_needColumn_b0
  rw [ls_hasColumn hn h1 h2, Option.bind_some, decide_eq_true hc]
  rfl
theorem ls_colN (hn : nv + ns ≤ 6) (h1 : -2147483648 ≤ z) (h2 : z ≤ 2147483647) (hc : ¬ (0 ≤ z ∧ z < ((nv + ns : Nat) : Int))) : sm_tot (fx_LS_needColumn_O (iI z) (iI nv) (iI ns)) 0 = some () := by
  rw [sm_tot_u, fx_LS_needColumn_O_q0]
  unfold fx_LS_needColumn_O_b0
  rw [ls_hasColumn hn h1 h2, Option.bind_some, decide_eq_false hc]
  rfl
theorem ls_sysN : sm_tot (fx_LS_needSystem_S 0) 0 = some () := by
  rw [sm_tot_u, fx_LS_needSystem_S_q0]
  rfl
theorem ls_bndY {M : Nat} (hM : M ≤ 100) (h1 : -2147483648 ≤ z) (h2 : z ≤ 2147483647) (h : 0 ≤ z ∧ z ≤ M) : sm_tot (fn_LS_needBound (iI z) (iI M)) 0 = some () := by
  obtain ⟨k, rfl⟩ : ∃ k : Nat, z = (k : Int) := ⟨z.toNat, by omega⟩
  exact ls_bound (by omega) hM
theorem ls_bndN {M : Nat} (hM : M ≤ 100) (h1 : -2147483648 ≤ z) (h2 : z ≤ 2147483647) (h : ¬ (0 ≤ z ∧ z ≤ M)) : sm_tot (fx_LS_needBound_A (iI z) (iI M)) 0 = some () := by
  have e : sm_tot (fx_LS_needBound_A (iI z) (iI M)) 9 = some () := by
    rw [sm_tot_u, fx_LS_needBound_A_q9]
    rfl
  rw [sm_tot_u, fx_LS_needBound_A_q0]
  unfold fx_LS_needBound_A_b0
  by_cases q : z < 0
  · rw [if_pos (show iI z < 0 by rw [il_0, ii_lt h1 h2 (by omega) (by omega)]; exact q), sm_ev_l, e]
  · rw [if_neg (show ¬ iI z < 0 by rw [il_0, ii_lt h1 h2 (by omega) (by omega)]; exact q), if_neg (show ¬ iI z ≤ iI M by rw [ii_le h1 h2 (by omega) (by omega)]; omega), sm_ev_l, e]
theorem ls_telY (h1 : -2147483648 ≤ z) (h2 : z ≤ 2147483647) (h : -99 ≤ z ∧ z ≤ 99) : sm_tot (fn_LS_needTellable (iI z)) 0 = some () := by
  rw [sm_tot_u, fn_LS_needTellable_q0]
  unfold fn_LS_needTellable_b0
  rw [if_neg (show ¬ iI z < -99 by rw [show (-99 : Int32) = iI (-99) from rfl, ii_lt h1 h2 (by omega) (by omega)]; omega), if_pos (show iI z ≤ 99 by rw [il_99, ii_le h1 h2 (by omega) (by omega)]; omega)]
  rfl
theorem ls_telN (h1 : -2147483648 ≤ z) (h2 : z ≤ 2147483647) (h : ¬ (-99 ≤ z ∧ z ≤ 99)) : sm_tot (fx_LS_needTellable_A (iI z)) 0 = some () := by
  have e : sm_tot (fx_LS_needTellable_A (iI z)) 12 = some () := by
    rw [sm_tot_u, fx_LS_needTellable_A_q12]
    rfl
  rw [sm_tot_u, fx_LS_needTellable_A_q0]
  unfold fx_LS_needTellable_A_b0
  by_cases q : z < -99
  · rw [if_pos (show iI z < -99 by rw [show (-99 : Int32) = iI (-99) from rfl, ii_lt h1 h2 (by omega) (by omega)]; omega), sm_ev_l, e]
  · rw [if_neg (show ¬ iI z < -99 by rw [show (-99 : Int32) = iI (-99) from rfl, ii_lt h1 h2 (by omega) (by omega)]; omega), if_neg (show ¬ iI z ≤ 99 by rw [il_99, ii_le h1 h2 (by omega) (by omega)]; omega), sm_ev_l, e]
theorem vl_has {th : Bool} {tot : Int32} {l : Nat} (hl : l ≤ 2000) (ht : th = true → tot = iI l) (h1 : -2147483648 ≤ z) (h2 : z ≤ 2147483647) : sm_tot (fn_VL_has (iI z) (bI th) tot) (0, 0) = some (bI (th && decide (0 ≤ z ∧ z < (l : Int)))) := by
  have e20 : ∀ b : Bool, sm_tot (fn_VL_has (iI z) (bI th) tot) (24, bI b) = some (bI b) := by
    intro b
    rw [sm_tot_u, fn_VL_has_q24]
    unfold fn_VL_has_b24
    cases b <;> rfl
  have e19 : ∀ y, sm_tot (fn_VL_has (iI z) (bI th) tot) (23, y) = some 0 := by
    intro y
    rw [sm_tot_u, fn_VL_has_q23]
    unfold fn_VL_has_b23
    rw [sm_ev_l]
    exact e20 false
  rw [sm_tot_u, fn_VL_has_q0]
  unfold fn_VL_has_b0
  rw [ie_b0]
  cases th with
  | false =>
    rw [if_pos rfl, sm_ev_l, e19, Bool.false_and]
    rfl
  | true =>
    rw [if_neg (by decide), Bool.true_and]
    by_cases q : z < 0
    · rw [if_pos (show iI z < 0 by rw [il_0, ii_lt h1 h2 (by omega) (by omega)]; exact q), sm_ev_l, e19, decide_eq_false (by omega)]
      rfl
    · rw [if_neg (show ¬ iI z < 0 by rw [il_0, ii_lt h1 h2 (by omega) (by omega)]; exact q)]
      by_cases q2 : (l : Int) ≤ z
      · rw [if_pos (show tot ≤ iI z by rw [ht rfl, ii_le (by omega) (by omega) h1 h2]; exact q2), sm_ev_l, e19, decide_eq_false (by omega)]
        rfl
      · rw [if_neg (show ¬ tot ≤ iI z by rw [ht rfl, ii_le (by omega) (by omega) h1 h2]; exact q2), sm_ev_l, decide_eq_true (by omega)]
        exact e20 true
theorem vl_numberOf {c k : Nat} {cn : Nat → Int32} (hk : k < 2000) (hc : c < 6) : sm_tot (fn_VL_numberOf (iI k) (iI c) cn) 0 = some (cn (6 * k + c)) := by
  rw [sm_tot_u, fn_VL_numberOf_q0]
  unfold fn_VL_numberOf_b0
  rw [show iI (k : Int) * 6 + iI (c : Int) = iI ((6 * k + c : Nat) : Int) by rw [il_6, ii_mul, ii_add]; congr 1; omega]
  rw [if_pos (ii_g (a := ((6 * k + c : Nat) : Int)) (N := 12000) (by omega) (by omega) (by omega)), ii_nat (by omega) (by omega), Int.toNat_natCast]
  rfl
end JH
