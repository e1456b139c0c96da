/-! the class's work, for each of the three lists -/
theorem ls_bound {bo M : Nat} (h : bo ≤ M) (hM : M ≤ 100) : sm_tot (fn_LS_needBound (iI bo) (iI M)) 0 = some () := by
  rw [sm_tot_u, fn_LS_needBound_q0]
  unfold fn_LS_needBound_b0
  simp (disch := omega) only [il_0, ii_lt, ii_le, if_pos, if_neg, sm_ev_r]
theorem ls_system : sm_tot (fn_LS_needSystem 1) 0 = some () := by
  rw [sm_tot_u, fn_LS_needSystem_q0]
  rfl
theorem vl_begin {x y a b c d : Int32} : sm_tot (fn_VL_begin x y) (0, a, b, c, d) = some (1, x, y, 0) := by
  rw [sm_tot_u, fn_VL_begin_q0]
  rfl
section LSW
variable {m nv ns : Nat} {A : Nat → Nat → Int} {b : Nat → Int} {ea : Nat → Nat → Int32} {eb : Nat → Int32}
theorem ls_work0 (hm : m ≤ 4) (hn : nv + ns ≤ 6) (hA : ∀ r c, r < m → c < nv + ns → ea r c = iI (A r c) ∧ (A r c).natAbs ≤ 20) (hb : ∀ r, r < m → eb r = iI (b r) ∧ (b r).natAbs ≤ 200) {bo : Nat} (hbo : bo ≤ 16) {sp x1 x2 x3 th co bd tot le : Int32} {cv clk cn : Nat → Int32} {clo chi ca : Nat → Nat → Int32} (hcv : se_vp cv sx_z) :
    ∃ le' cv' clk' clo' chi' ca' cn', sm_tot (fn_LS_work0 (iI bo) 1 (iI m) (iI nv) (iI ns) ea eb) (0, 0, 0, sp, x1, x2, x3, th, co, bd, tot, le, cv, clk, clo, chi, ca, cn) = some (if (sx_list 0 m (nv + ns) A b (bo + 1) 0 []).2 = true then iI (sx_list 0 m (nv + ns) A b (bo + 1) 0 []).1.length else -1, 0, iI m, iI ((nv + ns : Nat) : Int), 0, bI (sx_list 0 m (nv + ns) A b (bo + 1) 0 []).2, iI ((nv + ns : Nat) : Int), iI bo, iI (sx_list 0 m (nv + ns) A b (bo + 1) 0 []).1.length, le', cv', clk', clo', chi', ca', cn') ∧ se_vp cv' sx_z ∧ vl_pic (nv + ns) (sx_list 0 m (nv + ns) A b (bo + 1) 0 []).1 cn' ∧ vl_rng (nv + ns) (sx_list 0 m (nv + ns) A b (bo + 1) 0 []).1 ∧ (sx_list 0 m (nv + ns) A b (bo + 1) 0 []).1.length ≤ 2000 := by
  obtain ⟨clk', clo', chi', ca', p1, p2, p3, p4⟩ := se_prep (sg := false) (hom := true) hm hn hA hb x1 x2 x3 clk clo chi ca
  obtain ⟨le', cv', cl', cn', r1, r2, r3, r4, r5⟩ := se_run (fr := 1) (bo := bo) (sg := false) (le := le) (cn := cn) p2 (by omega) (by omega) hcv p3
  have hR : sx_szs (se_one m (nv + ns) false A (fun r c => (clo' r c).toInt) (fun r c => (chi' r c).toInt) (se_b true b)) (bo + 1 - 1) 1 [] = (sx_list 0 m (nv + ns) A b (bo + 1) 0 []) := se_list (what := 0) (b := b) (by decide) p4 bo
  rw [hR] at r1 r3 r4 r5
  refine ⟨le', cv', cl', clo', chi', ca', cn', ?_, r2, r3, r4, r5⟩
  have p1' : sm_tot (fn_SE_prepare 1 0 (iI m) (iI nv) (iI ns) ea eb) (0, 0, 0, 0, x1, x2, x3, clk, clo, chi, ca) = some (iI m, iI ((nv + ns : Nat) : Int), 0, clk', clo', chi', ca') := p1
  have r1' : sm_tot (fn_SE_run_vl 1 (iI bo) (iI m) (iI ((nv + ns : Nat) : Int)) 0 (iI ((nv + ns : Nat) : Int)) clo' chi' ca') (0, 0, 0, 1, 0, le, cv, clk', cn) = some (bI (sx_list 0 m (nv + ns) A b (bo + 1) 0 []).2, iI (sx_list 0 m (nv + ns) A b (bo + 1) 0 []).1.length, le', cv', cl', cn') := r1
  have hnb : sm_tot (fn_LS_needBound (iI bo) 16) 0 = some () := ls_bound (M := 16) hbo (by omega)
  rw [sm_tot_u, fn_LS_work0_q0]
  unfold fn_LS_work0_b0
  rw [sm_ev_l, sm_tot_u, fn_LS_work0_q30]
  unfold fn_LS_work0_b30
  rw [hnb, Option.bind_some, ls_system, Option.bind_some, sm_ev_l, sm_tot_u, fn_LS_work0_q47]
  unfold fn_LS_work0_b47
  rw [eq_columns, Option.bind_some, vl_begin, Option.bind_some, sm_ev_l, sm_tot_u, fn_LS_work0_q84]
  unfold fn_LS_work0_b84
  rw [sm_ev_l, sm_tot_u, fn_LS_work0_q94]
  unfold fn_LS_work0_b94
  rw [p1', Option.bind_some, sm_ev_l, sm_tot_u, fn_LS_work0_q111]
  unfold fn_LS_work0_b111
  rw [r1', Option.bind_some]
  cases e : (sx_list 0 m (nv + ns) A b (bo + 1) 0 []).2 with
  | true =>
    rw [if_neg (show ¬ bI true = 0 by decide), sm_ev_l, sm_tot_u, fn_LS_work0_q131]
    rfl
  | false =>
    rw [if_pos (show bI false = 0 by rfl), sm_ev_l, sm_tot_u, fn_LS_work0_q131]
    rfl
theorem ls_work1 (hm : m ≤ 4) (hn : nv + ns ≤ 6) (hA : ∀ r c, r < m → c < nv + ns → ea r c = iI (A r c) ∧ (A r c).natAbs ≤ 20) (hb : ∀ r, r < m → eb r = iI (b r) ∧ (b r).natAbs ≤ 200) {bo : Nat} (hbo : bo ≤ 16) {sp x1 x2 x3 th co bd tot le : Int32} {cv clk cn : Nat → Int32} {clo chi ca : Nat → Nat → Int32} (hcv : se_vp cv sx_z) :
    ∃ le' cv' clk' clo' chi' ca' cn', sm_tot (fn_LS_work1 (iI bo) 1 (iI m) (iI nv) (iI ns) ea eb) (0, 0, 0, sp, x1, x2, x3, th, co, bd, tot, le, cv, clk, clo, chi, ca, cn) = some (if (sx_list 1 m (nv + ns) A b (bo + 1) 0 []).2 = true then iI (sx_list 1 m (nv + ns) A b (bo + 1) 0 []).1.length else -1, 0, iI m, iI ((nv + ns : Nat) : Int), 0, bI (sx_list 1 m (nv + ns) A b (bo + 1) 0 []).2, iI ((nv + ns : Nat) : Int), iI bo, iI (sx_list 1 m (nv + ns) A b (bo + 1) 0 []).1.length, le', cv', clk', clo', chi', ca', cn') ∧ se_vp cv' sx_z ∧ vl_pic (nv + ns) (sx_list 1 m (nv + ns) A b (bo + 1) 0 []).1 cn' ∧ vl_rng (nv + ns) (sx_list 1 m (nv + ns) A b (bo + 1) 0 []).1 ∧ (sx_list 1 m (nv + ns) A b (bo + 1) 0 []).1.length ≤ 2000 := by
  obtain ⟨clk', clo', chi', ca', p1, p2, p3, p4⟩ := se_prep (sg := false) (hom := false) hm hn hA hb x1 x2 x3 clk clo chi ca
  obtain ⟨le', cv', cl', cn', r1, r2, r3, r4, r5⟩ := se_run (fr := 0) (bo := bo) (sg := false) (le := le) (cn := cn) p2 (by omega) (by omega) hcv p3
  have hR : sx_szs (se_one m (nv + ns) false A (fun r c => (clo' r c).toInt) (fun r c => (chi' r c).toInt) (se_b false b)) (bo + 1 - 0) 0 [] = (sx_list 1 m (nv + ns) A b (bo + 1) 0 []) := se_list (what := 1) (b := b) (by decide) p4 bo
  rw [hR] at r1 r3 r4 r5
  refine ⟨le', cv', cl', clo', chi', ca', cn', ?_, r2, r3, r4, r5⟩
  have p1' : sm_tot (fn_SE_prepare 0 0 (iI m) (iI nv) (iI ns) ea eb) (0, 0, 0, 0, x1, x2, x3, clk, clo, chi, ca) = some (iI m, iI ((nv + ns : Nat) : Int), 0, clk', clo', chi', ca') := p1
  have r1' : sm_tot (fn_SE_run_vl 0 (iI bo) (iI m) (iI ((nv + ns : Nat) : Int)) 0 (iI ((nv + ns : Nat) : Int)) clo' chi' ca') (0, 0, 0, 1, 0, le, cv, clk', cn) = some (bI (sx_list 1 m (nv + ns) A b (bo + 1) 0 []).2, iI (sx_list 1 m (nv + ns) A b (bo + 1) 0 []).1.length, le', cv', cl', cn') := r1
  have hnb : sm_tot (fn_LS_needBound (iI bo) 16) 0 = some () := ls_bound (M := 16) hbo (by omega)
  rw [sm_tot_u, fn_LS_work1_q0]
  unfold fn_LS_work1_b0
  rw [sm_ev_l, sm_tot_u, fn_LS_work1_q30]
  unfold fn_LS_work1_b30
  rw [hnb, Option.bind_some, ls_system, Option.bind_some, sm_ev_l, sm_tot_u, fn_LS_work1_q47]
  unfold fn_LS_work1_b47
  rw [eq_columns, Option.bind_some, vl_begin, Option.bind_some, sm_ev_l, sm_tot_u, fn_LS_work1_q84]
  unfold fn_LS_work1_b84
  rw [sm_ev_l, sm_tot_u, fn_LS_work1_q94]
  unfold fn_LS_work1_b94
  rw [p1', Option.bind_some, sm_ev_l, sm_tot_u, fn_LS_work1_q111]
  unfold fn_LS_work1_b111
  rw [r1', Option.bind_some]
  cases e : (sx_list 1 m (nv + ns) A b (bo + 1) 0 []).2 with
  | true =>
    rw [if_neg (show ¬ bI true = 0 by decide), sm_ev_l, sm_tot_u, fn_LS_work1_q131]
    rfl
  | false =>
    rw [if_pos (show bI false = 0 by rfl), sm_ev_l, sm_tot_u, fn_LS_work1_q131]
    rfl
theorem ls_work2 (hm : m ≤ 4) (hn : nv + ns ≤ 6) (hA : ∀ r c, r < m → c < nv + ns → ea r c = iI (A r c) ∧ (A r c).natAbs ≤ 20) (hb : ∀ r, r < m → eb r = iI (b r) ∧ (b r).natAbs ≤ 200) {bo : Nat} (hbo : bo ≤ 10) {x1 x2 x3 th co bd tot le : Int32} {cv clk cn : Nat → Int32} {clo chi ca : Nat → Nat → Int32} (hcv : se_vp cv sx_z) :
    ∃ le' cv' clk' clo' chi' ca' cn', sm_tot (fn_LS_work2 (iI bo) 1 (iI m) (iI nv) (iI ns) ea eb) (0, 0, 0, x1, x2, x3, th, co, bd, tot, le, cv, clk, clo, chi, ca, cn) = some (if (sx_list 2 m (nv + ns) A b (bo + 1) 0 []).2 = true then iI (sx_list 2 m (nv + ns) A b (bo + 1) 0 []).1.length else -1, iI m, iI ((nv + ns : Nat) : Int), 1, bI (sx_list 2 m (nv + ns) A b (bo + 1) 0 []).2, iI ((nv + ns : Nat) : Int), iI bo, iI (sx_list 2 m (nv + ns) A b (bo + 1) 0 []).1.length, le', cv', clk', clo', chi', ca', cn') ∧ se_vp cv' sx_z ∧ vl_pic (nv + ns) (sx_list 2 m (nv + ns) A b (bo + 1) 0 []).1 cn' ∧ vl_rng (nv + ns) (sx_list 2 m (nv + ns) A b (bo + 1) 0 []).1 ∧ (sx_list 2 m (nv + ns) A b (bo + 1) 0 []).1.length ≤ 2000 := by
  obtain ⟨clk', clo', chi', ca', p1, p2, p3, p4⟩ := se_prep (sg := true) (hom := true) hm hn hA hb x1 x2 x3 clk clo chi ca
  obtain ⟨le', cv', cl', cn', r1, r2, r3, r4, r5⟩ := se_run (fr := 1) (bo := bo) (sg := true) (le := le) (cn := cn) p2 (by omega) (by omega) hcv p3
  have hR : sx_szs (se_one m (nv + ns) true A (fun r c => (clo' r c).toInt) (fun r c => (chi' r c).toInt) (se_b true b)) (bo + 1 - 1) 1 [] = (sx_list 2 m (nv + ns) A b (bo + 1) 0 []) := se_list (what := 2) (b := b) (by decide) p4 bo
  rw [hR] at r1 r3 r4 r5
  refine ⟨le', cv', cl', clo', chi', ca', cn', ?_, r2, r3, r4, r5⟩
  have p1' : sm_tot (fn_SE_prepare 1 1 (iI m) (iI nv) (iI ns) ea eb) (0, 0, 0, 0, x1, x2, x3, clk, clo, chi, ca) = some (iI m, iI ((nv + ns : Nat) : Int), 1, clk', clo', chi', ca') := p1
  have r1' : sm_tot (fn_SE_run_vl 1 (iI bo) (iI m) (iI ((nv + ns : Nat) : Int)) 1 (iI ((nv + ns : Nat) : Int)) clo' chi' ca') (0, 0, 0, 1, 0, le, cv, clk', cn) = some (bI (sx_list 2 m (nv + ns) A b (bo + 1) 0 []).2, iI (sx_list 2 m (nv + ns) A b (bo + 1) 0 []).1.length, le', cv', cl', cn') := r1
  have hnb : sm_tot (fn_LS_needBound (iI bo) 10) 0 = some () := ls_bound (M := 10) hbo (by omega)
  rw [sm_tot_u, fn_LS_work2_q0]
  unfold fn_LS_work2_b0
  rw [sm_ev_l, sm_tot_u, fn_LS_work2_q30]
  unfold fn_LS_work2_b30
  rw [hnb, Option.bind_some, ls_system, Option.bind_some, sm_ev_l, sm_tot_u, fn_LS_work2_q47]
  unfold fn_LS_work2_b47
  rw [eq_columns, Option.bind_some, vl_begin, Option.bind_some, sm_ev_l, sm_tot_u, fn_LS_work2_q84]
  unfold fn_LS_work2_b84
  rw [sm_ev_l, sm_tot_u, fn_LS_work2_q94]
  unfold fn_LS_work2_b94
  rw [p1', Option.bind_some, sm_ev_l, sm_tot_u, fn_LS_work2_q111]
  unfold fn_LS_work2_b111
  rw [r1', Option.bind_some]
  cases e : (sx_list 2 m (nv + ns) A b (bo + 1) 0 []).2 with
  | true =>
    rw [if_neg (show ¬ bI true = 0 by decide), sm_ev_l, sm_tot_u, fn_LS_work2_q131]
    rfl
  | false =>
    rw [if_pos (show bI false = 0 by rfl), sm_ev_l, sm_tot_u, fn_LS_work2_q131]
    rfl
end LSW
