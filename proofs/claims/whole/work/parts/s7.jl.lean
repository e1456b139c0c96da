/-! the lists: work -/
def jl (w m n : Nat) (A : Nat → Nat → Int) (B : Nat → Int) (th : Bool) (bo : Nat) (a co bd tot : Int32) (cn il bm cs cl : Nat → Int32) : Prop :=
  a = bI th ∧ il w = bI th ∧ (th = true → (sx_list w m n A B (bo + 1) 0 []).2 = true ∧ bo ≤ 16 ∧ co = iI n ∧ bd = iI bo ∧ bm w = iI bo ∧ tot = iI (sx_list w m n A B (bo + 1) 0 []).1.length ∧ cs w = iI (sx_list w m n A B (bo + 1) 0 []).1.length ∧ vl_pic n (sx_list w m n A B (bo + 1) 0 []).1 cn ∧ mo_pic w n (sx_list w m n A B (bo + 1) 0 []).1 cl ∧ vl_rng n (sx_list w m n A B (bo + 1) 0 []).1 ∧ (sx_list w m n A B (bo + 1) 0 []).1.length ≤ 2000)
theorem upd_ne {f : Nat → Int32} {k j : Nat} {x : Int32} (h : j ≠ k) : upd f k x j = f j := by
  unfold upd
  rw [if_neg h]
theorem upd_eq {f : Nat → Int32} {k : Nat} {x : Int32} : upd f k x k = x := by
  unfold upd
  rw [if_pos rfl]
theorem jl_keep {w w' m n : Nat} {A : Nat → Nat → Int} {B : Nat → Int} {th : Bool} {bo : Nat} {a co bd tot : Int32} {cn il bm cs cl cl' : Nat → Int32} {x y z : Int32} {b : Bool} (hn : n ≤ 6) (hne : w' ≠ w) (h : jl w' m n A B th bo a co bd tot cn il bm cs cl) (hc : ∀ q, q < 12000 * w ∨ 12000 * w + 12000 ≤ q → cl' q = cl q) : jl w' m n A B th bo a co bd tot cn (upd il w x) (if b = true then upd bm w y else bm) (upd cs w z) cl' := by
  obtain ⟨h1, h2, h3⟩ := h
  refine ⟨h1, by rw [upd_ne hne, h2], fun q => ?_⟩
  obtain ⟨g1, g2, g3, g4, g5, g6, g7, g8, g9, g10, g11⟩ := h3 q
  refine ⟨g1, g2, g3, g4, ?_, g6, by rw [upd_ne hne, g7], g8, fun k hk c hcn => ?_, g10, g11⟩
  · cases b with
    | true => rw [if_pos rfl, upd_ne hne, g5]
    | false => rw [if_neg (by decide), g5]
  · rw [hc _ (by omega), g9 k hk c hcn]
section J7
variable {kn : Bool} {m nv ns : Nat} {lt : Nat → Int} {A : Nat → Nat → Int} {B : Nat → Int} {hs ro va sl : Int32} {sa : Nat → Nat → Int32} {sb slt : Nat → Int32} {kv he : Int32} {bs : Nat → Nat → Int64} {ra kr : Nat → Int32} {kno mro mva mco : Int32} {mlt mnu : Nat → Int32}
theorem jn_work0 (h : js true m nv ns lt A B hs ro va sl sa sb slt kv he bs ra kr kno mro mva mco mlt mnu) {bo : Nat} (hbo : bo ≤ 16) {sp sp2 x1 x2 x3 th co bd tot le w : Int32} {cv clk cn : Nat → Int32} {clo chi ca : Nat → Nat → Int32} (hcv : se_vp cv sx_z) (hsp : sp2 = 0 ∨ sp2 = 1) {il bm cs cl cw : Nat → Int32} {ou : Nat → Int64} {a1 a2 : Int32} (ha1 : a1 = 0) (ha2 : a2 = iI bo) :
    ∃ r1 r2, sm_tot (fn_LW_work0 a2 hs ro va sl sa sb) (0, sp, x1, x2, x3, th, co, bd, tot, le, cv, clk, clo, chi, ca, cn, ou) = some r1 ∧ sm_tot (fn_MO_work a1 a2 kno mro mco mnu) (0, 0, 0, 0, 0, 0, w, sp2, il, bm, cs, cl, cw) = some r2 ∧ r2.2.1 = r1.1 ∧ r1.1 = 0 ∧ lg_cmp (r1.2.2.2.2.2.2.2.2.2.2.2.2.2.2.2.2 (0 : Int32).toNatClampNeg) (r2.1 : Int32).toInt64 = 0 ∧
      se_vp r1.2.2.2.2.2.2.2.2.2.2.1 sx_z ∧ r1.2.1 = 0 ∧ r2.2.2.1 = 0 ∧ jl 0 m (nv + ns) A B (sx_list 0 m (nv + ns) A B (bo + 1) 0 []).2 bo r1.2.2.2.2.2.1 r1.2.2.2.2.2.2.1 r1.2.2.2.2.2.2.2.1 r1.2.2.2.2.2.2.2.2.1 r1.2.2.2.2.2.2.2.2.2.2.2.2.2.2.2.1 r2.2.2.2.1 r2.2.2.2.2.1 r2.2.2.2.2.2.1 r2.2.2.2.2.2.2.1 ∧ (∀ th bo a co bd tot cn, jl 1 m (nv + ns) A B th bo a co bd tot cn il bm cs cl → jl 1 m (nv + ns) A B th bo a co bd tot cn r2.2.2.2.1 r2.2.2.2.2.1 r2.2.2.2.2.2.1 r2.2.2.2.2.2.2.1) ∧ (∀ th bo a co bd tot cn, jl 2 m (nv + ns) A B th bo a co bd tot cn il bm cs cl → jl 2 m (nv + ns) A B th bo a co bd tot cn r2.2.2.2.1 r2.2.2.2.2.1 r2.2.2.2.2.2.1 r2.2.2.2.2.2.2.1) := by
  subst ha1 ha2
  obtain ⟨rfl, rfl, hm, hn, ha, hb, rfl, rfl, rfl, pa, pb, pl, hT, hF⟩ := h
  obtain ⟨rfl, rfl, rfl, hM, hL⟩ := hT rfl
  obtain ⟨le', cv', clk', clo', chi', ca', cn', c1, c2, c3, c4, c5⟩ := ls_work0 hm hn (fun r c h1 h2 => ⟨pa r c h1 h2, ha r c⟩) (fun r h1 => ⟨pb r h1, hb r⟩) hbo (sp := sp) (x1 := x1) (x2 := x2) (x3 := x3) (th := th) (co := co) (bd := bd) (tot := tot) (le := le) (clk := clk) (cn := cn) (clo := clo) (chi := chi) (ca := ca) hcv
  obtain ⟨cl', cw', m1, m2, m3, m5, m4⟩ := mo_work hM (what := 0) (bo := bo) (by decide) (by rw [if_neg (by decide)]; exact hbo) (th := w) hsp (il := il) (bd := bm) (cs := cs) (cl := cl) (cw := cw)
  refine ⟨(0, (0 : Int32), iI m, iI ((nv + ns : Nat) : Int), 0, bI (sx_list 0 m (nv + ns) A B (bo + 1) 0 []).2, iI ((nv + ns : Nat) : Int), iI bo, iI (sx_list 0 m (nv + ns) A B (bo + 1) 0 []).1.length, le', cv', clk', clo', chi', ca', cn', vp_updL ou (0 : Int32).toNatClampNeg (if (sx_list 0 m (nv + ns) A B (bo + 1) 0 []).2 = true then iI (sx_list 0 m (nv + ns) A B (bo + 1) 0 []).1.length else -1).toInt64), _, ?_, m1, rfl, rfl, lg_1 rfl rfl, ?_⟩
  · rw [sm_tot_u, fn_LW_work0_q0]
    unfold fn_LW_work0_b0
    rw [show sm_tot (fn_LS_work0 (iI bo) (bI true) (iI m) (iI nv) (iI ns) sa sb) _ = _ from c1, Option.bind_some, if_pos (by decide)]
    rfl
  dsimp only
  refine ⟨c2, rfl, rfl, ⟨rfl, upd_eq, fun q => ?_⟩, fun th bo a co bd tot cn q => jl_keep hn (by decide) q m4, fun th bo a co bd tot cn q => jl_keep hn (by decide) q m4⟩
  · refine ⟨q, by omega, rfl, rfl, ?_, rfl, ?_, c3, m2, c4, c5⟩
    · rw [if_pos q, upd_eq]
    · rw [upd_eq, if_pos q]
theorem mo_workA0 {z : Int} (h1 : -2147483648 ≤ z) (h2 : z ≤ 2147483647) (hz : ¬ (0 ≤ z ∧ z ≤ 16)) {w sp : Int32} {il bm cs cl cw : Nat → Int32} : sm_tot (fn_MO_work 0 (iI z) kno mro mco mnu) (0, 0, 0, 0, 0, 0, w, sp, il, bm, cs, cl, cw) = some (0, 1, sp, il, bm, cs, cl, cw) := by
  have e30 : ∀ a b c d e, sm_tot (fn_MO_work 0 (iI z) kno mro mco mnu) (30, a, b, c, d, e, w, sp, il, bm, cs, cl, cw) = some (0, 1, sp, il, bm, cs, cl, cw) := by
    intro a b c d e
    rw [sm_tot_u, fn_MO_work_q30]
    unfold fn_MO_work_b30
    rw [sm_ev_l, sm_tot_u, fn_MO_work_q46]
    unfold fn_MO_work_b46
    rw [if_neg (by decide)]
    rfl
  rw [sm_tot_u, fn_MO_work_q0]
  unfold fn_MO_work_b0
  rw [if_neg (by decide), if_neg (by decide)]
  by_cases q : z < 0
  · rw [if_pos (show iI z < 0 by rw [il_0, ii_lt h1 h2 (by omega) (by omega)]; exact q), sm_ev_l, e30]
  · rw [if_neg (show ¬ iI z < 0 by rw [il_0, ii_lt h1 h2 (by omega) (by omega)]; exact q), if_neg (by decide), sm_ev_l, sm_tot_u, fn_MO_work_q27]
    unfold fn_MO_work_b27
    rw [if_neg (show ¬ iI z ≤ 16 by rw [il_16, ii_le h1 h2 (by omega) (by omega)]; omega), sm_ev_l, e30]
theorem mo_workS0 {z : Int} (h1 : -2147483648 ≤ z) (h2 : z ≤ 2147483647) (hz : 0 ≤ z ∧ z ≤ 16) {w sp : Int32} {il bm cs cl cw : Nat → Int32} : sm_tot (fn_MO_work 0 (iI z) 0 mro mco mnu) (0, 0, 0, 0, 0, 0, w, sp, il, bm, cs, cl, cw) = some (0, 2, sp, il, bm, cs, cl, cw) := by
  rw [sm_tot_u, fn_MO_work_q0]
  unfold fn_MO_work_b0
  rw [if_neg (by decide), if_neg (by decide), if_neg (show ¬ iI z < 0 by rw [il_0, ii_lt h1 h2 (by omega) (by omega)]; omega), if_neg (by decide), sm_ev_l, sm_tot_u, fn_MO_work_q27]
  unfold fn_MO_work_b27
  rw [if_pos (show iI z ≤ 16 by rw [il_16, ii_le h1 h2 (by omega) (by omega)]; omega), if_pos rfl, sm_ev_l, sm_tot_u, fn_MO_work_q46]
  unfold fn_MO_work_b46
  rw [if_neg (by decide)]
  rfl
theorem jn_workA0 {z : Int} (h1 : -2147483648 ≤ z) (h2 : z ≤ 2147483647) (hz : ¬ (0 ≤ z ∧ z ≤ 16)) : sm_tot (fn_LW_work0_A (iI z)) 0 = some 1 := by
  have e : sm_tot (fx_LS_work0_A (iI z)) (0, 0, 0) = some () := by
    rw [sm_tot_u, fx_LS_work0_A_q0]
    unfold fx_LS_work0_A_b0
    rw [sm_ev_l, sm_tot_u, fx_LS_work0_A_q30]
    unfold fx_LS_work0_A_b30
    rw [show sm_tot (fx_LS_needBound_A (iI z) 16) 0 = some () from ls_bndN (M := 16) (by omega) h1 h2 hz]
    rfl
  rw [sm_tot_u, fn_LW_work0_A_q0]
  unfold fn_LW_work0_A_b0
  rw [e]
  rfl
theorem jn_workS0 {z : Int} (h1 : -2147483648 ≤ z) (h2 : z ≤ 2147483647) (hz : 0 ≤ z ∧ z ≤ 16) {sp : Int32} : sm_tot (fn_LW_work0_S (iI z) 0) (0, sp) = some (2, sp) := by
  have e : sm_tot (fx_LS_work0_S (iI z) 0) (0, 0, 0, sp) = some sp := by
    rw [sm_tot_u, fx_LS_work0_S_q0]
    unfold fx_LS_work0_S_b0
    rw [sm_ev_l, sm_tot_u, fx_LS_work0_S_q30]
    unfold fx_LS_work0_S_b30
    rw [show sm_tot (fn_LS_needBound (iI z) 16) 0 = some () from ls_bndY (M := 16) (by omega) h1 h2 hz, Option.bind_some, ls_sysN]
    rfl
  rw [sm_tot_u, fn_LW_work0_S_q0]
  unfold fn_LW_work0_S_b0
  rw [e]
  rfl
theorem jn_work1 (h : js true m nv ns lt A B hs ro va sl sa sb slt kv he bs ra kr kno mro mva mco mlt mnu) {bo : Nat} (hbo : bo ≤ 16) {sp sp2 x1 x2 x3 th co bd tot le w : Int32} {cv clk cn : Nat → Int32} {clo chi ca : Nat → Nat → Int32} (hcv : se_vp cv sx_z) (hsp : sp2 = 0 ∨ sp2 = 1) {il bm cs cl cw : Nat → Int32} {ou : Nat → Int64} {a1 a2 : Int32} (ha1 : a1 = 1) (ha2 : a2 = iI bo) :
    ∃ r1 r2, sm_tot (fn_LW_work1 a2 hs ro va sl sa sb) (0, sp, x1, x2, x3, th, co, bd, tot, le, cv, clk, clo, chi, ca, cn, ou) = some r1 ∧ sm_tot (fn_MO_work a1 a2 kno mro mco mnu) (0, 0, 0, 0, 0, 0, w, sp2, il, bm, cs, cl, cw) = some r2 ∧ r2.2.1 = r1.1 ∧ r1.1 = 0 ∧ lg_cmp (r1.2.2.2.2.2.2.2.2.2.2.2.2.2.2.2.2 (0 : Int32).toNatClampNeg) (r2.1 : Int32).toInt64 = 0 ∧
      se_vp r1.2.2.2.2.2.2.2.2.2.2.1 sx_z ∧ r1.2.1 = 0 ∧ r2.2.2.1 = 0 ∧ jl 1 m (nv + ns) A B (sx_list 1 m (nv + ns) A B (bo + 1) 0 []).2 bo r1.2.2.2.2.2.1 r1.2.2.2.2.2.2.1 r1.2.2.2.2.2.2.2.1 r1.2.2.2.2.2.2.2.2.1 r1.2.2.2.2.2.2.2.2.2.2.2.2.2.2.2.1 r2.2.2.2.1 r2.2.2.2.2.1 r2.2.2.2.2.2.1 r2.2.2.2.2.2.2.1 ∧ (∀ th bo a co bd tot cn, jl 0 m (nv + ns) A B th bo a co bd tot cn il bm cs cl → jl 0 m (nv + ns) A B th bo a co bd tot cn r2.2.2.2.1 r2.2.2.2.2.1 r2.2.2.2.2.2.1 r2.2.2.2.2.2.2.1) ∧ (∀ th bo a co bd tot cn, jl 2 m (nv + ns) A B th bo a co bd tot cn il bm cs cl → jl 2 m (nv + ns) A B th bo a co bd tot cn r2.2.2.2.1 r2.2.2.2.2.1 r2.2.2.2.2.2.1 r2.2.2.2.2.2.2.1) := by
  subst ha1 ha2
  obtain ⟨rfl, rfl, hm, hn, ha, hb, rfl, rfl, rfl, pa, pb, pl, hT, hF⟩ := h
  obtain ⟨rfl, rfl, rfl, hM, hL⟩ := hT rfl
  obtain ⟨le', cv', clk', clo', chi', ca', cn', c1, c2, c3, c4, c5⟩ := ls_work1 hm hn (fun r c h1 h2 => ⟨pa r c h1 h2, ha r c⟩) (fun r h1 => ⟨pb r h1, hb r⟩) hbo (sp := sp) (x1 := x1) (x2 := x2) (x3 := x3) (th := th) (co := co) (bd := bd) (tot := tot) (le := le) (clk := clk) (cn := cn) (clo := clo) (chi := chi) (ca := ca) hcv
  obtain ⟨cl', cw', m1, m2, m3, m5, m4⟩ := mo_work hM (what := 1) (bo := bo) (by decide) (by rw [if_neg (by decide)]; exact hbo) (th := w) hsp (il := il) (bd := bm) (cs := cs) (cl := cl) (cw := cw)
  refine ⟨(0, (0 : Int32), iI m, iI ((nv + ns : Nat) : Int), 0, bI (sx_list 1 m (nv + ns) A B (bo + 1) 0 []).2, iI ((nv + ns : Nat) : Int), iI bo, iI (sx_list 1 m (nv + ns) A B (bo + 1) 0 []).1.length, le', cv', clk', clo', chi', ca', cn', vp_updL ou (0 : Int32).toNatClampNeg (if (sx_list 1 m (nv + ns) A B (bo + 1) 0 []).2 = true then iI (sx_list 1 m (nv + ns) A B (bo + 1) 0 []).1.length else -1).toInt64), _, ?_, m1, rfl, rfl, lg_1 rfl rfl, ?_⟩
  · rw [sm_tot_u, fn_LW_work1_q0]
    unfold fn_LW_work1_b0
    rw [show sm_tot (fn_LS_work1 (iI bo) (bI true) (iI m) (iI nv) (iI ns) sa sb) _ = _ from c1, Option.bind_some, if_pos (by decide)]
    rfl
  dsimp only
  refine ⟨c2, rfl, rfl, ⟨rfl, upd_eq, fun q => ?_⟩, fun th bo a co bd tot cn q => jl_keep hn (by decide) q m4, fun th bo a co bd tot cn q => jl_keep hn (by decide) q m4⟩
  · refine ⟨q, by omega, rfl, rfl, ?_, rfl, ?_, c3, m2, c4, c5⟩
    · rw [if_pos q, upd_eq]
    · rw [upd_eq, if_pos q]
theorem mo_workA1 {z : Int} (h1 : -2147483648 ≤ z) (h2 : z ≤ 2147483647) (hz : ¬ (0 ≤ z ∧ z ≤ 16)) {w sp : Int32} {il bm cs cl cw : Nat → Int32} : sm_tot (fn_MO_work 1 (iI z) kno mro mco mnu) (0, 0, 0, 0, 0, 0, w, sp, il, bm, cs, cl, cw) = some (0, 1, sp, il, bm, cs, cl, cw) := by
  have e30 : ∀ a b c d e, sm_tot (fn_MO_work 1 (iI z) kno mro mco mnu) (30, a, b, c, d, e, w, sp, il, bm, cs, cl, cw) = some (0, 1, sp, il, bm, cs, cl, cw) := by
    intro a b c d e
    rw [sm_tot_u, fn_MO_work_q30]
    unfold fn_MO_work_b30
    rw [sm_ev_l, sm_tot_u, fn_MO_work_q46]
    unfold fn_MO_work_b46
    rw [if_neg (by decide)]
    rfl
  rw [sm_tot_u, fn_MO_work_q0]
  unfold fn_MO_work_b0
  rw [if_neg (by decide), if_neg (by decide)]
  by_cases q : z < 0
  · rw [if_pos (show iI z < 0 by rw [il_0, ii_lt h1 h2 (by omega) (by omega)]; exact q), sm_ev_l, e30]
  · rw [if_neg (show ¬ iI z < 0 by rw [il_0, ii_lt h1 h2 (by omega) (by omega)]; exact q), if_neg (by decide), sm_ev_l, sm_tot_u, fn_MO_work_q27]
    unfold fn_MO_work_b27
    rw [if_neg (show ¬ iI z ≤ 16 by rw [il_16, ii_le h1 h2 (by omega) (by omega)]; omega), sm_ev_l, e30]
theorem mo_workS1 {z : Int} (h1 : -2147483648 ≤ z) (h2 : z ≤ 2147483647) (hz : 0 ≤ z ∧ z ≤ 16) {w sp : Int32} {il bm cs cl cw : Nat → Int32} : sm_tot (fn_MO_work 1 (iI z) 0 mro mco mnu) (0, 0, 0, 0, 0, 0, w, sp, il, bm, cs, cl, cw) = some (0, 2, sp, il, bm, cs, cl, cw) := by
  rw [sm_tot_u, fn_MO_work_q0]
  unfold fn_MO_work_b0
  rw [if_neg (by decide), if_neg (by decide), if_neg (show ¬ iI z < 0 by rw [il_0, ii_lt h1 h2 (by omega) (by omega)]; omega), if_neg (by decide), sm_ev_l, sm_tot_u, fn_MO_work_q27]
  unfold fn_MO_work_b27
  rw [if_pos (show iI z ≤ 16 by rw [il_16, ii_le h1 h2 (by omega) (by omega)]; omega), if_pos rfl, sm_ev_l, sm_tot_u, fn_MO_work_q46]
  unfold fn_MO_work_b46
  rw [if_neg (by decide)]
  rfl
theorem jn_workA1 {z : Int} (h1 : -2147483648 ≤ z) (h2 : z ≤ 2147483647) (hz : ¬ (0 ≤ z ∧ z ≤ 16)) : sm_tot (fn_LW_work1_A (iI z)) 0 = some 1 := by
  have e : sm_tot (fx_LS_work1_A (iI z)) (0, 0, 0) = some () := by
    rw [sm_tot_u, fx_LS_work1_A_q0]
    unfold fx_LS_work1_A_b0
    rw [sm_ev_l, sm_tot_u, fx_LS_work1_A_q30]
    unfold fx_LS_work1_A_b30
    rw [show sm_tot (fx_LS_needBound_A (iI z) 16) 0 = some () from ls_bndN (M := 16) (by omega) h1 h2 hz]
    rfl
  rw [sm_tot_u, fn_LW_work1_A_q0]
  unfold fn_LW_work1_A_b0
  rw [e]
  rfl
theorem jn_workS1 {z : Int} (h1 : -2147483648 ≤ z) (h2 : z ≤ 2147483647) (hz : 0 ≤ z ∧ z ≤ 16) {sp : Int32} : sm_tot (fn_LW_work1_S (iI z) 0) (0, sp) = some (2, sp) := by
  have e : sm_tot (fx_LS_work1_S (iI z) 0) (0, 0, 0, sp) = some sp := by
    rw [sm_tot_u, fx_LS_work1_S_q0]
    unfold fx_LS_work1_S_b0
    rw [sm_ev_l, sm_tot_u, fx_LS_work1_S_q30]
    unfold fx_LS_work1_S_b30
    rw [show sm_tot (fn_LS_needBound (iI z) 16) 0 = some () from ls_bndY (M := 16) (by omega) h1 h2 hz, Option.bind_some, ls_sysN]
    rfl
  rw [sm_tot_u, fn_LW_work1_S_q0]
  unfold fn_LW_work1_S_b0
  rw [e]
  rfl
theorem jn_work2 (h : js true m nv ns lt A B hs ro va sl sa sb slt kv he bs ra kr kno mro mva mco mlt mnu) {bo : Nat} (hbo : bo ≤ 10) {sp sp2 x1 x2 x3 th co bd tot le w : Int32} {cv clk cn : Nat → Int32} {clo chi ca : Nat → Nat → Int32} (hcv : se_vp cv sx_z) (hsp : sp2 = 0 ∨ sp2 = 1) {il bm cs cl cw : Nat → Int32} {ou : Nat → Int64} {a1 a2 : Int32} (ha1 : a1 = 2) (ha2 : a2 = iI bo) :
    ∃ r1 r2, sm_tot (fn_LW_work2 a2 hs ro va sl sa sb) (0, x1, x2, x3, th, co, bd, tot, le, cv, clk, clo, chi, ca, cn, ou) = some r1 ∧ sm_tot (fn_MO_work a1 a2 kno mro mco mnu) (0, 0, 0, 0, 0, 0, w, sp2, il, bm, cs, cl, cw) = some r2 ∧ r2.2.1 = r1.1 ∧ r1.1 = 0 ∧ lg_cmp (r1.2.2.2.2.2.2.2.2.2.2.2.2.2.2.2 (0 : Int32).toNatClampNeg) (r2.1 : Int32).toInt64 = 0 ∧
      se_vp r1.2.2.2.2.2.2.2.2.2.1 sx_z ∧ r2.2.2.1 = sp2 ∧ jl 2 m (nv + ns) A B (sx_list 2 m (nv + ns) A B (bo + 1) 0 []).2 bo r1.2.2.2.2.1 r1.2.2.2.2.2.1 r1.2.2.2.2.2.2.1 r1.2.2.2.2.2.2.2.1 r1.2.2.2.2.2.2.2.2.2.2.2.2.2.2.1 r2.2.2.2.1 r2.2.2.2.2.1 r2.2.2.2.2.2.1 r2.2.2.2.2.2.2.1 ∧ (∀ th bo a co bd tot cn, jl 0 m (nv + ns) A B th bo a co bd tot cn il bm cs cl → jl 0 m (nv + ns) A B th bo a co bd tot cn r2.2.2.2.1 r2.2.2.2.2.1 r2.2.2.2.2.2.1 r2.2.2.2.2.2.2.1) ∧ (∀ th bo a co bd tot cn, jl 1 m (nv + ns) A B th bo a co bd tot cn il bm cs cl → jl 1 m (nv + ns) A B th bo a co bd tot cn r2.2.2.2.1 r2.2.2.2.2.1 r2.2.2.2.2.2.1 r2.2.2.2.2.2.2.1) := by
  subst ha1 ha2
  obtain ⟨rfl, rfl, hm, hn, ha, hb, rfl, rfl, rfl, pa, pb, pl, hT, hF⟩ := h
  obtain ⟨rfl, rfl, rfl, hM, hL⟩ := hT rfl
  obtain ⟨le', cv', clk', clo', chi', ca', cn', c1, c2, c3, c4, c5⟩ := ls_work2 hm hn (fun r c h1 h2 => ⟨pa r c h1 h2, ha r c⟩) (fun r h1 => ⟨pb r h1, hb r⟩) hbo (x1 := x1) (x2 := x2) (x3 := x3) (th := th) (co := co) (bd := bd) (tot := tot) (le := le) (clk := clk) (cn := cn) (clo := clo) (chi := chi) (ca := ca) hcv
  obtain ⟨cl', cw', m1, m2, m3, m5, m4⟩ := mo_work hM (what := 2) (bo := bo) (by decide) (by rw [if_pos rfl]; exact hbo) (th := w) hsp (il := il) (bd := bm) (cs := cs) (cl := cl) (cw := cw)
  refine ⟨(0, iI m, iI ((nv + ns : Nat) : Int), 1, bI (sx_list 2 m (nv + ns) A B (bo + 1) 0 []).2, iI ((nv + ns : Nat) : Int), iI bo, iI (sx_list 2 m (nv + ns) A B (bo + 1) 0 []).1.length, le', cv', clk', clo', chi', ca', cn', vp_updL ou (0 : Int32).toNatClampNeg (if (sx_list 2 m (nv + ns) A B (bo + 1) 0 []).2 = true then iI (sx_list 2 m (nv + ns) A B (bo + 1) 0 []).1.length else -1).toInt64), _, ?_, m1, rfl, rfl, lg_1 rfl rfl, ?_⟩
  · rw [sm_tot_u, fn_LW_work2_q0]
    unfold fn_LW_work2_b0
    rw [show sm_tot (fn_LS_work2 (iI bo) (bI true) (iI m) (iI nv) (iI ns) sa sb) _ = _ from c1, Option.bind_some, if_pos (by decide)]
    rfl
  dsimp only
  refine ⟨c2, rfl, ⟨rfl, upd_eq, fun q => ?_⟩, fun th bo a co bd tot cn q => jl_keep hn (by decide) q m4, fun th bo a co bd tot cn q => jl_keep hn (by decide) q m4⟩
  · refine ⟨q, by omega, rfl, rfl, ?_, rfl, ?_, c3, m2, c4, c5⟩
    · rw [if_pos q, upd_eq]
    · rw [upd_eq, if_pos q]
theorem mo_workA2 {z : Int} (h1 : -2147483648 ≤ z) (h2 : z ≤ 2147483647) (hz : ¬ (0 ≤ z ∧ z ≤ 10)) {w sp : Int32} {il bm cs cl cw : Nat → Int32} : sm_tot (fn_MO_work 2 (iI z) kno mro mco mnu) (0, 0, 0, 0, 0, 0, w, sp, il, bm, cs, cl, cw) = some (0, 1, sp, il, bm, cs, cl, cw) := by
  have e30 : ∀ a b c d e, sm_tot (fn_MO_work 2 (iI z) kno mro mco mnu) (30, a, b, c, d, e, w, sp, il, bm, cs, cl, cw) = some (0, 1, sp, il, bm, cs, cl, cw) := by
    intro a b c d e
    rw [sm_tot_u, fn_MO_work_q30]
    unfold fn_MO_work_b30
    rw [sm_ev_l, sm_tot_u, fn_MO_work_q46]
    unfold fn_MO_work_b46
    rw [if_neg (by decide)]
    rfl
  rw [sm_tot_u, fn_MO_work_q0]
  unfold fn_MO_work_b0
  rw [if_neg (by decide), if_neg (by decide)]
  by_cases q : z < 0
  · rw [if_pos (show iI z < 0 by rw [il_0, ii_lt h1 h2 (by omega) (by omega)]; exact q), sm_ev_l, e30]
  · rw [if_neg (show ¬ iI z < 0 by rw [il_0, ii_lt h1 h2 (by omega) (by omega)]; exact q), if_pos rfl, sm_ev_l, sm_tot_u, fn_MO_work_q27]
    unfold fn_MO_work_b27
    rw [if_neg (show ¬ iI z ≤ 10 by rw [il_10, ii_le h1 h2 (by omega) (by omega)]; omega), sm_ev_l, e30]
theorem mo_workS2 {z : Int} (h1 : -2147483648 ≤ z) (h2 : z ≤ 2147483647) (hz : 0 ≤ z ∧ z ≤ 10) {w sp : Int32} {il bm cs cl cw : Nat → Int32} : sm_tot (fn_MO_work 2 (iI z) 0 mro mco mnu) (0, 0, 0, 0, 0, 0, w, sp, il, bm, cs, cl, cw) = some (0, 2, sp, il, bm, cs, cl, cw) := by
  rw [sm_tot_u, fn_MO_work_q0]
  unfold fn_MO_work_b0
  rw [if_neg (by decide), if_neg (by decide), if_neg (show ¬ iI z < 0 by rw [il_0, ii_lt h1 h2 (by omega) (by omega)]; omega), if_pos rfl, sm_ev_l, sm_tot_u, fn_MO_work_q27]
  unfold fn_MO_work_b27
  rw [if_pos (show iI z ≤ 10 by rw [il_10, ii_le h1 h2 (by omega) (by omega)]; omega), if_pos rfl, sm_ev_l, sm_tot_u, fn_MO_work_q46]
  unfold fn_MO_work_b46
  rw [if_neg (by decide)]
  rfl
theorem jn_workA2 {z : Int} (h1 : -2147483648 ≤ z) (h2 : z ≤ 2147483647) (hz : ¬ (0 ≤ z ∧ z ≤ 10)) : sm_tot (fn_LW_work2_A (iI z)) 0 = some 1 := by
  have e : sm_tot (fx_LS_work2_A (iI z)) (0, 0, 0) = some () := by
    rw [sm_tot_u, fx_LS_work2_A_q0]
    unfold fx_LS_work2_A_b0
    rw [sm_ev_l, sm_tot_u, fx_LS_work2_A_q30]
    unfold fx_LS_work2_A_b30
    rw [show sm_tot (fx_LS_needBound_A (iI z) 10) 0 = some () from ls_bndN (M := 10) (by omega) h1 h2 hz]
    rfl
  rw [sm_tot_u, fn_LW_work2_A_q0]
  unfold fn_LW_work2_A_b0
  rw [e]
  rfl
theorem jn_workS2 {z : Int} (h1 : -2147483648 ≤ z) (h2 : z ≤ 2147483647) (hz : 0 ≤ z ∧ z ≤ 10) : sm_tot (fn_LW_work2_S (iI z) 0) 0 = some 2 := by
  have e : sm_tot (fx_LS_work2_S (iI z) 0) (0, 0, 0) = some () := by
    rw [sm_tot_u, fx_LS_work2_S_q0]
    unfold fx_LS_work2_S_b0
    rw [sm_ev_l, sm_tot_u, fx_LS_work2_S_q30]
    unfold fx_LS_work2_S_b30
    rw [show sm_tot (fn_LS_needBound (iI z) 10) 0 = some () from ls_bndY (M := 10) (by omega) h1 h2 hz, Option.bind_some, ls_sysN]
    rfl
  rw [sm_tot_u, fn_LW_work2_S_q0]
  unfold fn_LW_work2_S_b0
  rw [e]
  rfl
theorem jn_workX (a1 a2 w sp : Int32) (ha1 : a1 < 0 ∨ 2 < a1) (il bm cs cl cw : Nat → Int32) : sm_tot (fn_LW_workX_A a1 a2) 0 = some 1 ∧ sm_tot (fn_MO_work a1 a2 kno mro mco mnu) (0, 0, 0, 0, 0, 0, w, sp, il, bm, cs, cl, cw) = some (0, 1, sp, il, bm, cs, cl, cw) := by
  constructor
  · have e : sm_tot (fx_LS_workX_A a1 a2) (0, 0, 0) = some () := by
      have e9 : ∀ a b, sm_tot (fx_LS_workX_A a1 a2) (9, a, b) = some () := by
        intro a b
        rw [sm_tot_u, fx_LS_workX_A_q9]
        rfl
      rw [sm_tot_u, fx_LS_workX_A_q0]
      unfold fx_LS_workX_A_b0
      by_cases q : a1 < 0
      · rw [if_pos q, sm_ev_l, e9]
      · rw [if_neg q, if_neg (Int32.not_le.mpr (ha1.resolve_left q)), sm_ev_l, e9]
    rw [sm_tot_u, fn_LW_workX_A_q0]
    unfold fn_LW_workX_A_b0
    rw [e]
    rfl
  · have e30 : ∀ a b c d e, sm_tot (fn_MO_work a1 a2 kno mro mco mnu) (30, a, b, c, d, e, w, sp, il, bm, cs, cl, cw) = some (0, 1, sp, il, bm, cs, cl, cw) := by
      intro a b c d e
      rw [sm_tot_u, fn_MO_work_q30]
      unfold fn_MO_work_b30
      rw [sm_ev_l, sm_tot_u, fn_MO_work_q46]
      unfold fn_MO_work_b46
      rw [if_neg (by decide)]
      rfl
    rw [sm_tot_u, fn_MO_work_q0]
    unfold fn_MO_work_b0
    by_cases q : a1 < 0
    · rw [if_pos q, sm_ev_l, e30]
    · rw [if_neg q, if_pos (ha1.resolve_left q), sm_ev_l, e30]
end J7
