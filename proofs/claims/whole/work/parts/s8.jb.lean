/-! best, split -/
section J8
variable {kn : Bool} {m nv ns : Nat} {lt : Nat → Int} {A : Nat → Nat → Int} {B : Nat → Int} {hs ro va sl : Int32} {sa : Nat → Nat → Int32} {sb slt : Nat → Int32} {kv he : Int32} {bs : Nat → Nat → Int64} {ra kr : Nat → Int32} {kno mro mva mco : Int32} {mlt mnu : Nat → Int32}
theorem jn_best (h : js true m nv ns lt A B hs ro va sl sa sb slt kv he bs ra kr kno mro mva mco mlt mnu) {co : Nat → Int} {cc cm : Nat → Int32} (hc : jv (nv + ns) co cc cm) {bo : Nat} (hbo : bo ≤ 16) {hb0 x1 x2 x3 y1 y2 pr w ib : Int32} {cv clk cn bv ub cw : Nat → Int32} {clo chi ca : Nat → Nat → Int32} {ou : Nat → Int64} (hcv : se_vp cv sx_z) (hib : ib = 0 ∨ ib = 1) {a1 : Int32} (ha1 : a1 = iI bo) :
    (∃ r1 r2, sm_tot (fn_LW_best a1 hs ro va sl cc sa sb) (0, hb0, x1, x2, x3, y1, pr, y2, cv, clk, clo, chi, ca, cn, bv, ou) = some r1 ∧ sm_tot (fn_MO_best a1 kno mro mco mnu cm) (0, 0, 0, 0, 0, 0, 0, 0, w, ib, ub, cw) = some r2 ∧ r2.2.1 = r1.1 ∧ r1.1 = 0 ∧ lg_cmp (r1.2.2.2.2.2.2.2.2.2.2.2.2.2.2.2 (0 : Int32).toNatClampNeg) (r2.1 : Int32).toInt64 = 0 ∧ se_vp r1.2.2.2.2.2.2.2.2.1 sx_z ∧ r1.2.1 = 1 ∧ r2.2.2.1 = 1 ∧ ∀ c, c < nv + ns → r1.2.2.2.2.2.2.2.2.2.2.2.2.2.2.1 c = r2.2.2.2.1 c) ∨
    (∃ r1 r2, sm_tot (fn_LW_best_N a1 hs ro va sl cc sa sb) (0, hb0, x1, x2, x3, y1, pr, y2, cv, clk, clo, chi, ca, cn, bv) = some r1 ∧ sm_tot (fn_MO_best a1 kno mro mco mnu cm) (0, 0, 0, 0, 0, 0, 0, 0, w, ib, ub, cw) = some r2 ∧ r2.2.1 = r1.1 ∧ ¬ r1.1 = 0 ∧ se_vp r1.2.2.2.2.2.2.2.2.1 sx_z ∧ r1.2.1 = hb0 ∧ r2.2.2.1 = ib ∧ r1.2.2.2.2.2.2.2.2.2.2.2.2.2.2 = bv ∧ r2.2.2.2.1 = ub) := by
  subst ha1
  obtain ⟨rfl, rfl, hm, hn, ha, hb, rfl, rfl, rfl, pa, pb, pl, hT, hF⟩ := h
  obtain ⟨rfl, rfl, rfl, hM, hL⟩ := hT rfl
  obtain ⟨v1, v2, v3, v4⟩ := hc
  obtain ⟨x3', ub', cw', m1, m2⟩ := mo_best hM (co := co) (fun c h1 => ⟨v4 c h1, v2 c⟩) hbo (th := w) hib (ub := ub) (cw := cw)
  obtain ⟨m3, m4, m5⟩ := m2
  cases hq : (sx_bst m (nv + ns) A B co (bo + 1) 0 none).1 with
  | none =>
    right
    obtain ⟨pr', cv', clk', clo', chi', ca', cn', c1, c2⟩ := ls_best_N hm hn (fun r c h1 h2 => ⟨pa r c h1 h2, ha r c⟩) (fun r h1 => ⟨pb r h1, hb r⟩) (co := co) (fun c h1 => ⟨v1 c (by omega), v2 c⟩) hbo hq (hb0 := hb0) (x1 := x1) (x2 := x2) (x3 := x3) (y1 := y1) (y2 := y2) (pr := pr) (clk := clk) (cn := cn) (bv := bv) (clo := clo) (chi := chi) (ca := ca) hcv
    rw [hq] at m1
    refine ⟨(3, hb0, iI m, iI ((nv + ns : Nat) : Int), 0, iI ((nv + ns : Nat) : Int), pr', 0, cv', clk', clo', chi', ca', cn', bv), _, ?_, m1, rfl, (show ¬ (3 : Int32) = 0 by decide), c2, rfl, rfl, rfl, (m4 hq).2⟩
    rw [sm_tot_u, fn_LW_best_N_q0]
    unfold fn_LW_best_N_b0
    rw [show sm_tot (fx_LS_best_N (iI bo) (bI true) (iI m) (iI nv) (iI ns) cc sa sb) _ = _ from c1]
    rfl
  | some wq =>
    left
    obtain ⟨w0, q0⟩ := wq
    obtain ⟨cv', clk', clo', chi', ca', cn', bv', c1, c2, c3, c4, c5⟩ := ls_best hm hn (fun r c h1 h2 => ⟨pa r c h1 h2, ha r c⟩) (fun r h1 => ⟨pb r h1, hb r⟩) (co := co) (fun c h1 => ⟨v1 c (by omega), v2 c⟩) hbo hq (hb0 := hb0) (x1 := x1) (x2 := x2) (x3 := x3) (y1 := y1) (y2 := y2) (pr := pr) (clk := clk) (cn := cn) (bv := bv) (clo := clo) (chi := chi) (ca := ca) hcv
    obtain ⟨g1, g2, g3, g4⟩ := m5 w0 q0 hq
    rw [hq, g1] at m1
    refine ⟨(0, 1, iI m, iI ((nv + ns : Nat) : Int), 0, iI ((nv + ns : Nat) : Int), iI q0, 1, cv', clk', clo', chi', ca', cn', bv', vp_updL ou (0 : Int32).toNatClampNeg (iI q0).toInt64), _, ?_, m1, rfl, rfl, lg_1 rfl rfl, c2, rfl, rfl, fun c h1 => ?_⟩
    · rw [sm_tot_u, fn_LW_best_q0]
      unfold fn_LW_best_b0
      rw [show sm_tot (fn_LS_best (iI bo) (bI true) (iI m) (iI nv) (iI ns) cc sa sb) _ = _ from c1, Option.bind_some, if_pos (by decide)]
      rfl
    · show bv' c = ub' c
      rw [c3 c (by omega), g3 c h1]
theorem jn_bestA {z : Int} (h1 : -2147483648 ≤ z) (h2 : z ≤ 2147483647) (hz : ¬ (0 ≤ z ∧ z ≤ 16)) {w ib : Int32} {cm ub cw : Nat → Int32} : sm_tot (fn_LW_best_A (iI z)) 0 = some 1 ∧ sm_tot (fn_MO_best (iI z) kno mro mco mnu cm) (0, 0, 0, 0, 0, 0, 0, 0, w, ib, ub, cw) = some (0, 1, ib, ub, cw) := by
  constructor
  · have e : sm_tot (fx_LS_best_A (iI z)) 0 = some () := by
      rw [sm_tot_u, fx_LS_best_A_q0]
      unfold fx_LS_best_A_b0
      rw [show sm_tot (fx_LS_needBound_A (iI z) 16) 0 = some () from ls_bndN (M := 16) (by omega) h1 h2 hz]
      rfl
    rw [sm_tot_u, fn_LW_best_A_q0]
    unfold fn_LW_best_A_b0
    rw [e]
    rfl
  · have e11 : ∀ a b c d e f g, sm_tot (fn_MO_best (iI z) kno mro mco mnu cm) (11, a, b, c, d, e, f, g, w, ib, ub, cw) = some (0, 1, ib, ub, cw) := by
      intro a b c d e f g
      rw [sm_tot_u, fn_MO_best_q11]
      unfold fn_MO_best_b11
      rw [sm_ev_l, sm_tot_u, fn_MO_best_q27]
      unfold fn_MO_best_b27
      rw [if_neg (by decide)]
      rfl
    rw [sm_tot_u, fn_MO_best_q0]
    unfold fn_MO_best_b0
    by_cases q : z < 0
    · rw [if_pos (show iI z < 0 by rw [il_0, ii_lt h1 h2 (by omega) (by omega)]; exact q), sm_ev_l, e11]
    · rw [if_neg (show ¬ iI z < 0 by rw [il_0, ii_lt h1 h2 (by omega) (by omega)]; exact q), if_neg (show ¬ iI z ≤ 16 by rw [il_16, ii_le h1 h2 (by omega) (by omega)]; omega), sm_ev_l, e11]
theorem jn_bestS {z : Int} (h1 : -2147483648 ≤ z) (h2 : z ≤ 2147483647) (hz : 0 ≤ z ∧ z ≤ 16) {w ib : Int32} {cm ub cw : Nat → Int32} : sm_tot (fn_LW_best_S (iI z) 0) 0 = some 2 ∧ sm_tot (fn_MO_best (iI z) 0 mro mco mnu cm) (0, 0, 0, 0, 0, 0, 0, 0, w, ib, ub, cw) = some (0, 2, ib, ub, cw) := by
  constructor
  · have e : sm_tot (fx_LS_best_S (iI z) 0) 0 = some () := by
      rw [sm_tot_u, fx_LS_best_S_q0]
      unfold fx_LS_best_S_b0
      rw [show sm_tot (fn_LS_needBound (iI z) 16) 0 = some () from ls_bndY (M := 16) (by omega) h1 h2 hz, Option.bind_some, ls_sysN]
      rfl
    rw [sm_tot_u, fn_LW_best_S_q0]
    unfold fn_LW_best_S_b0
    rw [e]
    rfl
  · rw [sm_tot_u, fn_MO_best_q0]
    unfold fn_MO_best_b0
    rw [if_neg (show ¬ iI z < 0 by rw [il_0, ii_lt h1 h2 (by omega) (by omega)]; omega), if_pos (show iI z ≤ 16 by rw [il_16, ii_le h1 h2 (by omega) (by omega)]; omega), if_pos rfl, sm_ev_l, sm_tot_u, fn_MO_best_q27]
    unfold fn_MO_best_b27
    rw [if_neg (by decide)]
    rfl
theorem sx_getD_mem {L : List (Nat → Int)} {k : Nat} (h : k < L.length) : L.getD k sx_z ∈ L := by
  rw [List.getD_eq_getElem?_getD, List.getElem?_eq_getElem h]
  exact List.getElem_mem h
theorem jn_split (h : js kn m nv ns lt A B hs ro va sl sa sb slt kv he bs ra kr kno mro mva mco mlt mnu) {v : Nat → Int} {ct cu : Nat → Int32} (hv : jv (nv + ns) v ct cu) {th0 th1 : Bool} {b0 b1 : Nat} {a0 co0 bd0 tot0 a1 co1 bd1 tot1 : Int32} {cn0 cn1 il bm cs cl : Nat → Int32} (hl0 : jl 0 m (nv + ns) A B th0 b0 a0 co0 bd0 tot0 cn0 il bm cs cl) (hl1 : jl 1 m (nv + ns) A B th1 b1 a1 co1 bd1 tot1 cn1 il bm cs cl) (hk0 : kn = false → th0 = false) {hp ip w : Int32} {re ta ti nw : Nat → Int32} :
    ∃ r1 r2, sm_tot (fn_LS_split a0 co0 bd0 tot0 a1 co1 bd1 tot1 ro va sl cn0 cn1 ct sa sb) (0, 0, 0, hp, re, ta) = some r1 ∧ sm_tot (fn_MO_split kno mro mco mnu il bm cs cl cu) (0, 0, 0, 0, 0, w, ip, ti, nw) = some r2 ∧ r1.1 = r2.1 ∧ ((r1.2.1 = hp ∧ r2.2.2.1 = ip ∧ r1.2.2.2 = ta ∧ r2.2.2.2.1 = ti) ∨ (th0 = true ∧ r1.2.1 = 1 ∧ r2.2.2.1 = 1 ∧ ∀ j, j < (sx_list 0 m (nv + ns) A B (b0 + 1) 0 []).1.length → r1.2.2.2 j = r2.2.2.2.1 j)) := by
  obtain ⟨rfl, rfl, hm, hn, ha, hb, rfl, rfl, rfl, pa, pb, pl, hT, hF⟩ := h
  obtain ⟨v1, v2, v3, v4⟩ := hv
  obtain ⟨rfl, i0, t0⟩ := hl0
  obtain ⟨rfl, i1, t1⟩ := hl1
  have hA : ∀ r c, r < m → c < nv + ns → sa r c = iI (A r c) ∧ (A r c).natAbs ≤ 20 := fun r c h1 h2 => ⟨pa r c h1 h2, ha r c⟩
  have hB : ∀ r, r < m → sb r = iI (B r) ∧ (B r).natAbs ≤ 200 := fun r h1 => ⟨pb r h1, hb r⟩
  have hv6 : ∀ c, c < 6 → ct c = iI (v c) ∧ (v c).natAbs ≤ 100 := fun c h1 => ⟨v1 c h1, by have := v2 c; omega⟩
  have hvn : ∀ c, c < nv + ns → cu c = iI (v c) ∧ (v c).natAbs ≤ 100 := fun c h1 => ⟨v4 c h1, by have := v2 c; omega⟩
  cases hc : sp_can m (nv + ns) A B v th0 th1 b0 b1 with
  | false =>
    have hC := ls_split_f hm hn hA hB hv6 v3 (fun q => ⟨(t0 q).2.2.2.1, (t0 q).2.1⟩) (fun q => ⟨(t1 q).2.2.2.1, (t1 q).2.1⟩) hc (x0 := co0) (x1 := co1) (z0 := tot0) (z1 := tot1) (cn0 := cn0) (cn1 := cn1) (hs := hp) (re := re) (ta := ta)
    cases kn with
    | true =>
      obtain ⟨rfl, rfl, rfl, hM, hL⟩ := hT rfl
      exact ⟨_, _, hC, mo_split_f hM hvn i0 i1 (fun q => ⟨(t0 q).2.2.2.2.1, (t0 q).2.1⟩) (fun q => ⟨(t1 q).2.2.2.2.1, (t1 q).2.1⟩) hc, rfl, Or.inl ⟨rfl, rfl, rfl, rfl⟩⟩
    | false =>
      obtain ⟨-, -, -, -, rfl⟩ := hF rfl
      refine ⟨_, (-1, 0, ip, ti, nw), hC, ?_, rfl, Or.inl ⟨rfl, rfl, rfl, rfl⟩⟩
      rw [sm_tot_u, fn_MO_split_q0]
      unfold fn_MO_split_b0
      rw [sm_ev_l, sm_tot_u, fn_MO_split_q9]
      unfold fn_MO_split_b9
      rw [if_pos (by decide), if_pos bI_f, sm_ev_l, sm_tot_u, fn_MO_split_q96]
      rfl
  | true =>
    have hc' := hc
    unfold sp_can at hc'
    rw [Bool.and_eq_true, Bool.and_eq_true, Bool.and_eq_true, Bool.and_eq_true, Bool.and_eq_true, decide_eq_true_iff, decide_eq_true_iff] at hc'
    obtain ⟨rfl, rfl, k1, k2, k3, k4⟩ := hc'
    obtain ⟨p1, p2, p3, p4, p5, p6, p7, p8, p9, p10, p11⟩ := t0 rfl
    obtain ⟨o1, o2, o3, o4, o5, o6, o7, o8, o9, o10, o11⟩ := t1 rfl
    have hk : kn = true := by
      cases kn with
      | true => rfl
      | false => exact absurd (hk0 rfl) (by decide)
    subst hk
    obtain ⟨rfl, rfl, rfl, hM, hL⟩ := hT rfl
    have C0 := sx_list_Cm (by decide) p1
    have C1 := sx_list_Cm (by decide) o1
    have hnn : ∀ j, j < nv + ns → 0 ≤ v j := fun j hj => of_decide_eq_true (sx_alf_iff.mp k1 j (by omega) (by omega))
    obtain ⟨w0, w1, w2⟩ := C1.2 v v3 (fun _ => hnn) (by unfold sx_P; rw [if_pos rfl]; exact k2) (by omega)
    obtain ⟨k, f1, f2, f3, f4⟩ := sx_fst1_ex (p := fun w => sx_le (nv + ns) w v) _ 0 ⟨w0, w1, w2⟩
    rw [Nat.zero_add] at f2
    subst p3 p4 p6 o3 o4 o6
    obtain ⟨re', ta', c1, c2⟩ := ls_split_t hm hn hA hB hv6 v3 p2 o2 hc p11 p8 p10 o11 o8 o10 f1 f2 f3 (hs := hp) (re := re) (ta := ta)
    have hn0 : ∀ j, j < (sx_list 0 m (nv + ns) A B (b0 + 1) 0 []).1.length → 1 ≤ sx_sz ((sx_list 0 m (nv + ns) A B (b0 + 1) 0 []).1.getD j sx_z) (nv + ns) 0 := by
      intro j hj
      have := (C0.1 _ (sx_getD_mem hj)).1
      unfold sx_P at this
      rw [if_neg (by decide), if_neg (by decide), Bool.and_eq_true, decide_eq_true_iff] at this
      have h1 := this.1
      by_cases q : sx_sz ((sx_list 0 m (nv + ns) A B (b0 + 1) 0 []).1.getD j sx_z) (nv + ns) 0 = 0
      · exact absurd (sx_ld_zero.mpr (sx_sz_zero.mp q)) h1
      · omega
    obtain ⟨ti', nw', m1, m2⟩ := mo_split_t hM hvn i0 i1 ⟨p5, p2⟩ ⟨o5, o2⟩ hc p11 p7 p9 p10 hn0 o11 o9 o10 f1 f3 f4 (th := w) (sp := ip) (ti := ti) (nw := nw)
    exact ⟨_, _, c1, m1, rfl, Or.inr ⟨rfl, rfl, rfl, fun j hj => (c2 j hj).trans (m2 j hj).symm⟩⟩
end J8
