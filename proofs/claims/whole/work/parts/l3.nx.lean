/-! the reference's counter: begin, spread, next; and put -/
section MN
variable {n : Nat} {sg : Bool} {cw : Nat → Int32} {v : Nat → Int}
theorem mo_spread_l {c s : Nat} (hn : n ≤ 6) (hc : c < n) (hv : se_vp cw v) : ∀ (d e : Nat) (u : Nat → Int32), c ≤ e → e + d = n → (∀ j, j < 6 → u j = iI (if c ≤ j ∧ j < e then 0 else v j)) →
    ∃ u', sm_tot (fn_MO_spread (iI c) (iI s) (bI sg) (iI n)) (3, iI e, u) = some u' ∧ se_vp u' (sx_sp sg n c s v) := by
  have e53 : ∀ x u, sm_tot (fn_MO_spread (iI c) (iI s) (bI sg) (iI n)) (53, x, u) = some u := fun x u => by rw [sm_tot_u, fn_MO_spread_q53]; rfl
  intro d
  induction d with
  | zero =>
    intro e u he hd hu
    have e0 : e = n := by omega
    subst e0
    have i1 : ((e : Int) - 1).toNat = e - 1 := by omega
    have i2 : ((c : Int)).toNat = c := by omega
    cases sg with
    | false =>
      refine ⟨upd u (e - 1) (iI s), ?_, fun j hj => ?_⟩
      · rw [sm_tot_u, fn_MO_spread_q3]
        unfold fn_MO_spread_b3
        rw [if_pos (show bI false = 0 from rfl)]
        simp (disch := omega) only [il_0, il_1, ii_sub, ii_le, ii_lt, ii_nat, i1, if_pos, sm_ev_l]
        exact e53 _ _
      · unfold sx_sp
        by_cases ej : j = e - 1
        · rw [if_pos (by omega)]
          simp only [Bool.false_eq_true, if_false]
          rw [if_pos (by omega)]
          exact if_pos ej
        · refine (if_neg ej).trans ?_
          rw [hu j hj]
          by_cases e2 : c ≤ j ∧ j < e
          · rw [if_pos e2, if_pos e2]
            simp only [Bool.false_eq_true, if_false]
            rw [if_neg (by omega)]
          · rw [if_neg e2, if_neg e2]
    | true =>
      refine ⟨upd u c (iI (-(s : Int))), ?_, fun j hj => ?_⟩
      · rw [sm_tot_u, fn_MO_spread_q3]
        unfold fn_MO_spread_b3
        rw [if_neg (show ¬ bI true = 0 by decide)]
        simp (disch := omega) only [il_0, il_1, ii_neg, ii_le, ii_lt, ii_nat, i2, if_pos, sm_ev_l]
        exact e53 _ _
      · unfold sx_sp
        by_cases ej : j = c
        · rw [if_pos (by omega)]
          simp only [if_true]
          rw [if_pos ej]
          exact if_pos ej
        · refine (if_neg ej).trans ?_
          rw [hu j hj]
          by_cases e2 : c ≤ j ∧ j < e
          · rw [if_pos e2, if_pos e2]
            simp only [if_true]
            rw [if_neg ej]
          · rw [if_neg e2, if_neg e2]
  | succ d ih =>
    intro e u he hd hu
    have i1 : ((e : Int)).toNat = e := by omega
    obtain ⟨u', a1, a2⟩ := ih (e + 1) (upd u e (iI 0)) (by omega) (by omega) (fun j hj => by
      by_cases ej : j = e
      · rw [if_pos (by omega)]
        exact if_pos ej
      · refine (if_neg ej).trans ?_
        rw [hu j hj]
        by_cases e2 : c ≤ j ∧ j < e
        · rw [if_pos e2, if_pos (by omega)]
        · rw [if_neg e2, if_neg (by omega)])
    refine ⟨u', ?_, a2⟩
    rw [← a1, sm_tot_u, fn_MO_spread_q3]
    unfold fn_MO_spread_b3
    simp (disch := omega) only [il_0, il_1, ii_add, ii_le, ii_lt, ii_nat, i1, if_pos, if_neg, sm_ev_l]
    rfl
theorem mo_spread {c s : Nat} (hn : n ≤ 6) (hc : c < n) (hv : se_vp cw v) : ∃ u', sm_tot (fn_MO_spread (iI c) (iI s) (bI sg) (iI n)) (0, 0, cw) = some u' ∧ se_vp u' (sx_sp sg n c s v) := by
  obtain ⟨u', a1, a2⟩ := mo_spread_l (s := s) (sg := sg) hn hc hv (n - c) c cw (Nat.le_refl _) (by omega) (fun j hj => by rw [hv j hj, if_neg (by omega)])
  refine ⟨u', ?_, a2⟩
  rw [← a1, sm_tot_u, fn_MO_spread_q0]
  rfl
theorem mo_begin_l {s : Nat} (hn : n ≤ 6) (h0 : n = 0 → s = 0) : ∀ (d e : Nat) (u : Nat → Int32), e + d = 6 → (∀ j, j < e → u j = iI 0) →
    ∃ u', sm_tot (fn_MO_begin (iI s) (bI sg) (iI n)) (2, iI e, u) = some u' ∧ se_vp u' (if n = 0 then sx_z else sx_sp sg n 0 s sx_z) := by
  have e55 : ∀ x u, sm_tot (fn_MO_begin (iI s) (bI sg) (iI n)) (55, x, u) = some u := fun x u => by rw [sm_tot_u, fn_MO_begin_q55]; rfl
  intro d
  induction d with
  | zero =>
    intro e u hd hu
    have e0 : e = 6 := by omega
    subst e0
    have i1 : ((n : Int) - 1).toNat = n - 1 := by omega
    cases sg with
    | false =>
      by_cases hz : n = 0
      · refine ⟨u, ?_, fun j hj => by rw [if_pos hz]; exact hu j hj⟩
        rw [sm_tot_u, fn_MO_begin_q2]
        unfold fn_MO_begin_b2
        rw [if_pos (show bI false = 0 from rfl)]
        simp (disch := omega) only [il_0, il_6, ii_le, if_pos, sm_ev_l]
        exact e55 _ _
      · refine ⟨upd u (n - 1) (iI s), ?_, fun j hj => ?_⟩
        · rw [sm_tot_u, fn_MO_begin_q2]
          unfold fn_MO_begin_b2
          rw [if_pos (show bI false = 0 from rfl)]
          simp (disch := omega) only [il_0, il_1, il_6, ii_sub, ii_le, ii_lt, ii_nat, i1, if_pos, if_neg, sm_ev_l]
          exact e55 _ _
        · rw [if_neg hz]
          unfold sx_sp
          by_cases ej : j = n - 1
          · rw [if_pos (by omega)]
            simp only [Bool.false_eq_true, if_false]
            rw [if_pos (by omega)]
            exact if_pos ej
          · refine (if_neg ej).trans ?_
            rw [hu j hj]
            by_cases e2 : 0 ≤ j ∧ j < n
            · rw [if_pos e2]
              simp only [Bool.false_eq_true, if_false]
              rw [if_neg (by omega)]
            · rw [if_neg e2]; rfl
    | true =>
      refine ⟨upd u 0 (iI (-(s : Int))), ?_, fun j hj => ?_⟩
      · rw [sm_tot_u, fn_MO_begin_q2]
        unfold fn_MO_begin_b2
        rw [if_neg (show ¬ bI true = 0 by decide)]
        simp (disch := omega) only [il_0, il_6, ii_neg, ii_le, ii_lt, ii_nat, if_pos, sm_ev_l]
        exact e55 _ _
      · by_cases hz : n = 0
        · rw [if_pos hz]
          by_cases ej : j = 0
          · have hs := h0 hz
            refine (if_pos ej).trans ?_
            subst hs
            rfl
          · exact (if_neg ej).trans (hu j hj)
        · rw [if_neg hz]
          unfold sx_sp
          by_cases ej : j = 0
          · rw [if_pos (by omega)]
            simp only [if_true]
            rw [if_pos ej]
            exact if_pos ej
          · refine (if_neg ej).trans ?_
            rw [hu j hj]
            by_cases e2 : 0 ≤ j ∧ j < n
            · rw [if_pos e2]
              simp only [if_true]
              rw [if_neg ej]
            · rw [if_neg e2]; rfl
  | succ d ih =>
    intro e u hd hu
    have i1 : ((e : Int)).toNat = e := by omega
    obtain ⟨u', a1, a2⟩ := ih (e + 1) (upd u e (iI 0)) (by omega) (fun j hj => by
      by_cases ej : j = e
      · exact if_pos ej
      · exact (if_neg ej).trans (hu j (by omega)))
    refine ⟨u', ?_, a2⟩
    rw [← a1, sm_tot_u, fn_MO_begin_q2]
    unfold fn_MO_begin_b2
    simp (disch := omega) only [il_0, il_1, il_6, ii_add, ii_le, ii_lt, ii_nat, i1, if_pos, if_neg, sm_ev_l]
    rfl
theorem mo_begin {s : Nat} (hn : n ≤ 6) (h0 : n = 0 → s = 0) (cw : Nat → Int32) : ∃ u', sm_tot (fn_MO_begin (iI s) (bI sg) (iI n)) (0, 0, cw) = some u' ∧ se_vp u' (if n = 0 then sx_z else sx_sp sg n 0 s sx_z) := by
  obtain ⟨u', a1, a2⟩ := mo_begin_l (sg := sg) hn h0 6 0 cw (by omega) (fun j hj => by omega)
  refine ⟨u', ?_, a2⟩
  rw [← a1, sm_tot_u, fn_MO_begin_q0]
  rfl
theorem sx_sz_bd {M : Nat} (h : ∀ j, (v j).natAbs ≤ M) : ∀ k c, sx_sz v k c ≤ k * M := by
  intro k
  induction k with
  | zero => intro c; exact Nat.zero_le _
  | succ k ih =>
    intro c
    have := ih (c + 1)
    have := h c
    show (v c).natAbs + sx_sz v k (c + 1) ≤ (k + 1) * M
    rw [Nat.succ_mul]
    omega
/-- the counter, from column n - 1 - d on -/
theorem mo_next_l (hn : n ≤ 6) (hr : ∀ j, (v j).natAbs ≤ 100) (hv : se_vp cw v) : ∀ (e d : Nat), d + e = n → sx_sc sg n d v = none →
    ∃ u', sm_tot (fn_MO_next (bI sg) (iI n)) (9, iI (sx_sz v d (n - d)), iI ((n : Int) - 1 - d), 0, 0, 0, 0, 0, 0, 0, cw) = some (bI (sx_sc sg n n v).isSome, u') ∧ se_vp u' ((sx_sc sg n n v).getD v) := by
  intro e
  induction e with
  | zero =>
    intro d hd hsc
    have e0 : d = n := by omega
    subst e0
    refine ⟨cw, ?_, by rw [hsc]; exact hv⟩
    rw [hsc, sm_tot_u, fn_MO_next_q9]
    unfold fn_MO_next_b9
    simp (disch := omega) only [il_0, ii_lt, if_pos, sm_ev_r]
    rfl
  | succ e ih =>
    intro d hd hsc
    obtain ⟨c, hc⟩ : ∃ c, c = n - (d + 1) := ⟨_, rfl⟩
    have hcn : c < n := by omega
    have hcd : n - d = c + 1 := by omega
    have ecc : (n : Int) - 1 - (d : Int) = (c : Int) := by omega
    have i1 : ((c : Int)).toNat = c := by omega
    have h1 := hv c (by omega)
    have q1 := hr c
    have hsz : sx_sz v (d + 1) c = (v c).natAbs + sx_sz v d (c + 1) := rfl
    have b1 := sx_sz_bd hr d (c + 1)
    have b2 : d * 100 ≤ 6 * 100 := Nat.mul_le_mul_right _ (by omega)
    have hsc1 : sx_sc sg n (d + 1) v = sx_try sg n c v := by rw [sx_sc_none hsc, hc]
    rw [hcd, ecc]
    -- to the place where it is asked whether it is the last column
    have h101 : ∀ (la : Bool), la = decide (c + 1 = n) → (sx_try sg n c v = none → ∃ u', sm_tot (fn_MO_next (bI sg) (iI n)) (9, iI (sx_sz v (d + 1) c), iI ((c : Int) - 1), 0, 0, 0, 0, 0, 0, 0, cw) = some (bI (sx_sc sg n n v).isSome, u') ∧ se_vp u' ((sx_sc sg n n v).getD v)) := fun la _ ht => by
      have h9 := ih (d + 1) (by omega) (by rw [hsc1]; exact ht)
      rw [show n - (d + 1) = c from hc.symm, show (n : Int) - 1 - ((d + 1 : Nat) : Int) = (c : Int) - 1 by omega] at h9
      exact h9
    have h136 : sx_try sg n c v = none → ∀ a b e f g h i, ∃ u', sm_tot (fn_MO_next (bI sg) (iI n)) (136, a, iI c, b, iI (sx_sz v (d + 1) c), e, f, g, h, i, cw) = some (bI (sx_sc sg n n v).isSome, u') ∧ se_vp u' ((sx_sc sg n n v).getD v) := fun ht a b e f g h i => by
      obtain ⟨u', a1, a2⟩ := h101 _ rfl ht
      refine ⟨u', ?_, a2⟩
      rw [← a1, sm_tot_u, fn_MO_next_q136]
      unfold fn_MO_next_b136
      rw [sm_ev_l, show (-1 : Int32) = iI (-1) from by decide, ii_add]
      rfl
    have hsome : ∀ w, sx_try sg n c v = some w → sx_sc sg n n v = some w := fun w hw => by
      have key : ∀ k, d + 1 ≤ k → sx_sc sg n k v = some w := by
        intro k hk
        induction k with
        | zero => omega
        | succ k ih2 =>
          by_cases e2 : k + 1 = d + 1
          · rw [e2, hsc1, hw]
          · exact sx_sc_some (ih2 (by omega))
      exact key n (by omega)
    have h57 : ∃ a, sm_tot (fn_MO_next (bI sg) (iI n)) (9, iI (sx_sz v d (c + 1)), iI c, 0, 0, 0, 0, 0, 0, 0, cw) = sm_tot (fn_MO_next (bI sg) (iI n)) (57, a, iI c, iI (v c), iI (sx_sz v (d + 1) c), iI (v c + 1), 0, 0, iI ((v c + 1).natAbs : Int), 0, cw) := by
      refine ⟨0, ?_⟩
      have h35 : sm_tot (fn_MO_next (bI sg) (iI n)) (9, iI (sx_sz v d (c + 1)), iI c, 0, 0, 0, 0, 0, 0, 0, cw) = sm_tot (fn_MO_next (bI sg) (iI n)) (35, 0, iI c, iI (v c), 0, 0, 0, 0, iI ((v c).natAbs : Int), iI (sx_sz v d (c + 1)), cw) := by
        rw [sm_tot_u, fn_MO_next_q9]
        unfold fn_MO_next_b9
        simp (disch := omega) only [il_0, ii_lt, ii_le, ii_neg, ii_nat, i1, h1, if_pos, if_neg]
        split
        · rw [sm_ev_l, show ((v c).natAbs : Int) = v c by omega]
        · rw [sm_ev_l, show ((v c).natAbs : Int) = -v c by omega]
      rw [h35, sm_tot_u, fn_MO_next_q35]
      unfold fn_MO_next_b35
      rw [il_1, ii_add, ii_add, hsz, show (((v c).natAbs + sx_sz v d (c + 1) : Nat) : Int) = (sx_sz v d (c + 1) : Int) + ((v c).natAbs : Int) by omega]
      simp (disch := omega) only [il_0, ii_le, ii_neg]
      split
      · rw [sm_ev_l, show ((v c + 1).natAbs : Int) = v c + 1 by omega]
      · rw [sm_ev_l, show ((v c + 1).natAbs : Int) = -(v c + 1) by omega]
    obtain ⟨a57, h57⟩ := h57
    have h74 : sm_tot (fn_MO_next (bI sg) (iI n)) (57, a57, iI c, iI (v c), iI (sx_sz v (d + 1) c), iI (v c + 1), 0, 0, iI ((v c + 1).natAbs : Int), 0, cw) = sm_tot (fn_MO_next (bI sg) (iI n)) (74, 0, iI c, iI (v c), iI (sx_sz v (d + 1) c), iI (v c + 1), iI ((v c + 1).natAbs : Int), 0, bI (decide (c + 1 = n)), 0, cw) := by
      rw [sm_tot_u, fn_MO_next_q57]
      unfold fn_MO_next_b57
      simp (disch := omega) only [il_1, ii_sub, ii_eq]
      by_cases e2 : c + 1 = n
      · rw [if_pos (by omega), sm_ev_l, decide_eq_true e2]; rfl
      · rw [if_neg (by omega), sm_ev_l, decide_eq_false e2]; rfl
    rw [h57, h74]
    by_cases e2 : c + 1 = n
    · rw [decide_eq_true e2]
      have htry : sx_try sg n c v = if sg = true ∧ v c < 0 then some (sx_up v c (- v c)) else none := by unfold sx_try; rw [if_pos e2]
      by_cases e3 : sg = true ∧ v c < 0
      · rw [if_pos e3] at htry
        rw [hsome _ htry]
        refine ⟨upd cw c (iI (- v c)), ?_, fun j hj => ?_⟩
        · rw [sm_tot_u, fn_MO_next_q74, e3.1]
          unfold fn_MO_next_b74
          rw [if_neg (show ¬ bI true = 0 by decide), if_neg (show ¬ bI true = 0 by decide)]
          simp (disch := omega) only [il_0, ii_le, ii_lt, ii_neg, ii_nat, i1, if_pos, if_neg, sm_ev_r]
          rfl
        · show _ = iI (sx_up v c (- v c) j)
          by_cases ej : j = c
          · subst ej; rw [sx_up_eq]; exact if_pos rfl
          · rw [sx_up_ne ej]; exact (if_neg ej).trans (hv j hj)
      · rw [if_neg e3] at htry
        obtain ⟨u', a1, a2⟩ := h136 htry 0 0 0 0 0 0 0
        refine ⟨u', ?_, a2⟩
        have h101' : sm_tot (fn_MO_next (bI sg) (iI n)) (101, 0, iI c, 0, iI (sx_sz v (d + 1) c), iI (v c + 1), iI ((v c + 1).natAbs : Int), bI true, 0, 0, cw) = some (bI (sx_sc sg n n v).isSome, u') := by
          rw [← a1, sm_tot_u, fn_MO_next_q101]
          unfold fn_MO_next_b101
          rw [if_neg (show ¬ bI true = 0 by decide), sm_ev_l]
        rw [← h101', sm_tot_u, fn_MO_next_q74]
        unfold fn_MO_next_b74
        rw [if_neg (show ¬ bI true = 0 by decide)]
        cases sg with
        | false => rw [if_pos (show bI false = 0 from rfl), sm_ev_l]
        | true =>
          rw [if_neg (show ¬ bI true = 0 by decide), if_pos (show (0 : Int32) ≤ iI (v c) by rw [il_0, ii_le (by omega) (by omega) (by omega) (by omega)]; have h9 : ¬ v c < 0 := fun q => e3 ⟨rfl, q⟩; omega), sm_ev_l]
    · rw [decide_eq_false e2]
      have htry : sx_try sg n c v = if (v c + 1).natAbs ≤ sx_sz v (d + 1) c then some (sx_sp sg n (c + 1) (sx_sz v (d + 1) c - (v c + 1).natAbs) (sx_up v c (v c + 1))) else none := by
        unfold sx_try
        rw [if_neg e2, show n - c = d + 1 by omega]
      have h101' : sm_tot (fn_MO_next (bI sg) (iI n)) (74, 0, iI c, iI (v c), iI (sx_sz v (d + 1) c), iI (v c + 1), iI ((v c + 1).natAbs : Int), 0, bI false, 0, cw) = sm_tot (fn_MO_next (bI sg) (iI n)) (101, 0, iI c, 0, iI (sx_sz v (d + 1) c), iI (v c + 1), iI ((v c + 1).natAbs : Int), bI false, 0, 0, cw) := by
        rw [sm_tot_u, fn_MO_next_q74]
        unfold fn_MO_next_b74
        rw [if_pos (show bI false = 0 from rfl), sm_ev_l]
      rw [h101']
      by_cases e3 : (v c + 1).natAbs ≤ sx_sz v (d + 1) c
      · rw [if_pos e3] at htry
        rw [hsome _ htry]
        obtain ⟨u', a1, a2⟩ := mo_spread (sg := sg) (c := c + 1) (s := sx_sz v (d + 1) c - (v c + 1).natAbs) (cw := upd cw c (iI (v c + 1))) (v := sx_up v c (v c + 1)) hn (by omega) (fun j hj => by
          by_cases ej : j = c
          · subst ej; rw [sx_up_eq]; exact if_pos rfl
          · rw [sx_up_ne ej]; exact (if_neg ej).trans (hv j hj))
        refine ⟨u', ?_, a2⟩
        rw [sm_tot_u, fn_MO_next_q101]
        unfold fn_MO_next_b101
        rw [if_pos (show bI false = 0 from rfl)]
        have hsub : iI (sx_sz v (d + 1) c : Int) - iI ((v c + 1).natAbs : Int) = iI ((sx_sz v (d + 1) c - (v c + 1).natAbs : Nat) : Int) := by rw [ii_sub]; congr 1; omega
        have hadd : iI (c : Int) + 1 = iI ((c + 1 : Nat) : Int) := by rw [il_1, ii_add]; rfl
        rw [hsub, hadd]
        simp (disch := omega) only [il_0, ii_lt, ii_nat, i1, if_pos, if_neg]
        have a1' : sm_tot (fn_MO_spread (iI ((c + 1 : Nat) : Int)) (iI ((sx_sz v (d + 1) c - (v c + 1).natAbs : Nat) : Int)) (bI sg) (iI n)) (0, iI 0, upd cw c (iI (v c + 1))) = some u' := a1
        rw [a1', Option.bind_some, sm_ev_r]
        rfl
      · rw [if_neg e3] at htry
        obtain ⟨u', a1, a2⟩ := h136 htry 0 0 0 0 0 0 0
        refine ⟨u', ?_, a2⟩
        rw [← a1, sm_tot_u, fn_MO_next_q101]
        unfold fn_MO_next_b101
        rw [if_pos (show bI false = 0 from rfl), if_pos (show iI (sx_sz v (d + 1) c : Int) < iI ((v c + 1).natAbs : Int) by rw [ii_lt (by omega) (by omega) (by omega) (by omega)]; omega), sm_ev_l]
theorem mo_next (hn : n ≤ 6) (hr : ∀ j, (v j).natAbs ≤ 100) (hv : se_vp cw v) : ∃ u', sm_tot (fn_MO_next (bI sg) (iI n)) (0, 0, 0, 0, 0, 0, 0, 0, 0, 0, cw) = some (bI (sx_sc sg n n v).isSome, u') ∧ se_vp u' ((sx_sc sg n n v).getD v) := by
  obtain ⟨u', a1, a2⟩ := mo_next_l (sg := sg) hn hr hv n 0 (by omega) rfl
  refine ⟨u', ?_, a2⟩
  rw [← a1, sm_tot_u, fn_MO_next_q0]
  unfold fn_MO_next_b0
  rw [sm_ev_l, il_1, ii_sub]
  show _ = sm_tot _ (9, iI ((0 : Nat) : Int), iI ((n : Int) - 1 - ((0 : Nat) : Int)), 0, 0, 0, 0, 0, 0, 0, cw)
  rw [show (n : Int) - 1 - ((0 : Nat) : Int) = (n : Int) - 1 by omega]
  rfl
end MN
