/-! the class's run over the sizes; what a row can reach -/
section SER
variable {m n : Nat} {sg : Bool} {A lo hi : Nat → Nat → Int} {b : Nat → Int} {ca clo chi : Nat → Nat → Int32}
/-- one size -/
def se_one (m n : Nat) (sg : Bool) (A lo hi : Nat → Nat → Int) (b : Nat → Int) (s : Nat) (L : List (Nat → Int)) : List (Nat → Int) × Bool := sx_fi sg (sx_cb m n A b lo hi) (sx_tC 2000 (sx_le n) L.length) n 0 s false sx_z L
theorem se_run_l {fr bo : Nat} (h : se_sys m n A lo hi b ca clo chi) (hb : bo ≤ 16) :
    ∀ (q s : Nat) (L : List (Nat → Int)) (le : Int32) (cv cl cn : Nat → Int32), s + q = bo + 1 → se_vp cv sx_z → se_lp m n A b sx_z cl → L.length ≤ 2000 → vl_pic n L cn → vl_rng n L →
    ∃ le' cv' cl' cn', sm_tot (fn_SE_run_vl (iI fr) (iI bo) (iI m) (iI n) (bI sg) (iI n) clo chi ca) (6, 1, iI s, 1, iI L.length, le, cv, cl, cn) = some (bI (sx_szs (se_one m n sg A lo hi b) q s L).2, iI (sx_szs (se_one m n sg A lo hi b) q s L).1.length, le', cv', cl', cn') ∧ se_vp cv' sx_z ∧ vl_pic n (sx_szs (se_one m n sg A lo hi b) q s L).1 cn' ∧ vl_rng n (sx_szs (se_one m n sg A lo hi b) q s L).1 ∧ (sx_szs (se_one m n sg A lo hi b) q s L).1.length ≤ 2000 := by
  have hn := h.2.1
  have e38 : ∀ x y th tot le cv cl cn, sm_tot (fn_SE_run_vl (iI fr) (iI bo) (iI m) (iI n) (bI sg) (iI n) clo chi ca) (38, x, y, th, tot, le, cv, cl, cn) = some (th, tot, le, cv, cl, cn) := fun x y th tot le cv cl cn => by rw [sm_tot_u, fn_SE_run_vl_q38]; rfl
  intro q
  induction q with
  | zero =>
    intro s L le cv cl cn hs hcv hcl hL hp hr
    refine ⟨le, cv, cl, cn, ?_, hcv, hp, hr, hL⟩
    rw [sm_tot_u, fn_SE_run_vl_q6]
    unfold fn_SE_run_vl_b6
    simp (disch := omega) only [ii_lt, if_pos, sm_ev_l, e38]
    rfl
  | succ q ih =>
    intro s L le cv cl cn hs hcv hcl hL hp hr
    obtain ⟨cv1, cl1, cn1, r1, r2, r3, r4, r5, r6, r7⟩ := se_fill (sg := sg) (m' := L.length) h n 7 (by omega) 0 s false sx_z L cv cl cn (by omega) (by omega) (fun _ _ => rfl) (fun _ => Nat.zero_le _) hcv hcl (Nat.le_refl _) hL hp hr
    have hbs : sm_tot (fn_VL_beginSize (iI L.length)) (0, le) = some (iI L.length) := by rw [sm_tot_u, fn_VL_beginSize_q0]; rfl
    have hst : sm_tot (fn_SE_run_vl (iI fr) (iI bo) (iI m) (iI n) (bI sg) (iI n) clo chi ca) (6, 1, iI s, 1, iI L.length, le, cv, cl, cn) = sm_tot (fn_SE_run_vl (iI fr) (iI bo) (iI m) (iI n) (bI sg) (iI n) clo chi ca) (6, bI (se_one m n sg A lo hi b s L).2, iI ((s + 1 : Nat) : Int), bI (se_one m n sg A lo hi b s L).2, iI (se_one m n sg A lo hi b s L).1.length, iI L.length, cv1, cl1, cn1) := by
      rw [sm_tot_u, fn_SE_run_vl_q6]
      unfold fn_SE_run_vl_b6
      rw [hbs, Option.bind_some]
      have r1' : fn_SE_fill_vl_n (iI m) (iI n) (bI sg) (iI n) (iI L.length) clo chi ca 7 0 (iI s) 0 1 (iI L.length) cv cl cn = _ := r1
      rw [r1', Option.bind_some, if_neg (show ¬ iI (bo : Int) < iI (s : Int) by rw [ii_lt (by omega) (by omega) (by omega) (by omega)]; omega), if_neg (show ¬ (1 : Int32) = 0 by decide), sm_ev_l, il_1, ii_add]
      rfl
    rw [hst, sx_szs_succ]
    by_cases e : (se_one m n sg A lo hi b s L).2 = true
    · rw [if_pos e, e, bI_1]
      exact ih (s + 1) _ _ cv1 cl1 cn1 (by omega) r2 r3 r7 r4 r5
    · have e' : (se_one m n sg A lo hi b s L).2 = false := by simpa using e
      rw [if_neg e, e']
      refine ⟨iI L.length, cv1, cl1, cn1, ?_, r2, r4, r5, r7⟩
      rw [sm_tot_u, fn_SE_run_vl_q6]
      unfold fn_SE_run_vl_b6
      rw [if_pos (show bI false = 0 by rfl)]
      split <;> rw [sm_ev_l, e38]
theorem se_run {fr bo : Nat} (h : se_sys m n A lo hi b ca clo chi) (hb : bo ≤ 16) (hf : fr ≤ bo + 1) {le : Int32} {cv cl cn : Nat → Int32} (hcv : se_vp cv sx_z) (hcl : se_lp m n A b sx_z cl) :
    ∃ le' cv' cl' cn', sm_tot (fn_SE_run_vl (iI fr) (iI bo) (iI m) (iI n) (bI sg) (iI n) clo chi ca) (0, 0, 0, 1, 0, le, cv, cl, cn) = some (bI (sx_szs (se_one m n sg A lo hi b) (bo + 1 - fr) fr []).2, iI (sx_szs (se_one m n sg A lo hi b) (bo + 1 - fr) fr []).1.length, le', cv', cl', cn') ∧ se_vp cv' sx_z ∧ vl_pic n (sx_szs (se_one m n sg A lo hi b) (bo + 1 - fr) fr []).1 cn' ∧ vl_rng n (sx_szs (se_one m n sg A lo hi b) (bo + 1 - fr) fr []).1 ∧ (sx_szs (se_one m n sg A lo hi b) (bo + 1 - fr) fr []).1.length ≤ 2000 := by
  obtain ⟨le', cv', cl', cn', r1, r2⟩ := se_run_l (fr := fr) (sg := sg) h hb (bo + 1 - fr) fr [] le cv cl cn (by omega) hcv hcl (by simp) (fun k hk => by simp at hk) (fun k hk => by simp at hk)
  refine ⟨le', cv', cl', cn', ?_, r2⟩
  rw [← r1, sm_tot_u, fn_SE_run_vl_q0]
  rfl
end SER
/-- what lies from a column on, for each 1 of size: between lo and hi -/
def se_reach (sg : Bool) (n : Nat) (a : Nat → Int) (c : Nat) (l u : Int) : Prop := l.natAbs ≤ 20 ∧ u.natAbs ≤ 20 ∧ (sg = true → l = - u) ∧ ∀ j, c ≤ j → j < n → (sg = false → l ≤ a j ∧ a j ≤ u) ∧ (sg = true → ((a j).natAbs : Int) ≤ u)
section SEQ
variable {n r : Nat} {sg : Bool} {a : Nat → Int} {ca ulo uhi : Nat → Nat → Int32}
/-- the number that a column can add, greatest and least -/
def se_most (sg : Bool) (x : Int) : Int := if sg = true then (x.natAbs : Int) else x
def se_least (sg : Bool) (x : Int) : Int := if sg = true then -(x.natAbs : Int) else x
theorem se_find_s {c : Nat} {lp hp : Int} (hn : n ≤ 6) (hr : r < 4) (hc : c < n) (ha : ca r c = iI (a c)) (ra : (a c).natAbs ≤ 20) (hl : c + 1 < n → ulo r (c + 1) = iI lp) (hh : c + 1 < n → uhi r (c + 1) = iI hp) (rl : lp.natAbs ≤ 20) (rh : hp.natAbs ≤ 20) :
    sm_tot (fn_SE_findReach (iI r) (iI n) (bI sg) ca) (7, iI c, 0, 0, 0, 0, 0, ulo, uhi) = sm_tot (fn_SE_findReach (iI r) (iI n) (bI sg) ca) (7, iI ((c : Int) - 1), 0, 0, 0, 0, 0, up2 ulo r (upd (ulo r) c (iI (if c + 1 = n then se_least sg (a c) else if lp < se_least sg (a c) then lp else se_least sg (a c)))), up2 uhi r (upd (uhi r) c (iI (if c + 1 = n then se_most sg (a c) else if se_most sg (a c) < hp then hp else se_most sg (a c))))) := by
  have i1 : ((r : Int)).toNat = r := by omega
  have i2 : ((c : Int)).toNat = c := by omega
  have i3 : ((c : Int) + 1).toNat = c + 1 := by omega
  have hmo : (se_most sg (a c)).natAbs ≤ 20 := by unfold se_most; split <;> omega
  have hle : (se_least sg (a c)).natAbs ≤ 20 := by unfold se_least; split <;> omega
  have h40 : sm_tot (fn_SE_findReach (iI r) (iI n) (bI sg) ca) (7, iI c, 0, 0, 0, 0, 0, ulo, uhi) = sm_tot (fn_SE_findReach (iI r) (iI n) (bI sg) ca) (40, iI c, 0, 0, 0, iI (se_most sg (a c)), 0, ulo, uhi) := by
    rw [sm_tot_u, fn_SE_findReach_q7]
    unfold fn_SE_findReach_b7
    simp (disch := omega) only [il_0, ii_lt, ii_nat, i1, i2, ha, if_pos, if_neg]
    cases sg with
    | false => rw [bI_0, ← il_0, if_pos rfl, sm_ev_l]; rfl
    | true =>
      rw [bI_1, ← il_0, if_neg (by decide), sm_ev_l, ii_abs (by omega)]
      rfl
  have h54 : sm_tot (fn_SE_findReach (iI r) (iI n) (bI sg) ca) (40, iI c, 0, 0, 0, iI (se_most sg (a c)), 0, ulo, uhi) = sm_tot (fn_SE_findReach (iI r) (iI n) (bI sg) ca) (54, iI c, iI (se_most sg (a c)), 0, 0, iI (se_least sg (a c)), 0, ulo, uhi) := by
    rw [sm_tot_u, fn_SE_findReach_q40]
    unfold fn_SE_findReach_b40
    cases sg with
    | false => rw [bI_0, if_pos rfl, sm_ev_l]; rfl
    | true => rw [bI_1, if_neg (by decide), sm_ev_l, ii_neg]; rfl
  have h71 : sm_tot (fn_SE_findReach (iI r) (iI n) (bI sg) ca) (54, iI c, iI (se_most sg (a c)), 0, 0, iI (se_least sg (a c)), 0, ulo, uhi) = sm_tot (fn_SE_findReach (iI r) (iI n) (bI sg) ca) (71, iI c, iI (se_most sg (a c)), iI (se_least sg (a c)), 0, bI (decide (c + 1 = n)), 0, ulo, uhi) := by
    rw [sm_tot_u, fn_SE_findReach_q54]
    unfold fn_SE_findReach_b54
    simp (disch := omega) only [il_1, ii_sub, ii_eq]
    by_cases e : c + 1 = n
    · rw [if_pos (by omega), sm_ev_l, decide_eq_true e]; rfl
    · rw [if_neg (by omega), sm_ev_l, decide_eq_false e]; rfl
  rw [h40, h54, h71]
  by_cases e : c + 1 = n
  · rw [decide_eq_true e, if_pos e, if_pos e, sm_tot_u, fn_SE_findReach_q71]
    unfold fn_SE_findReach_b71
    simp (disch := omega) only [il_0, ii_lt, ii_nat, i1, i2, if_pos, if_neg]
    rw [if_neg (show ¬ bI true = iI 0 by decide), sm_ev_l, sm_tot_u, fn_SE_findReach_q105]
    unfold fn_SE_findReach_b105
    simp (disch := omega) only [il_0, ii_lt, ii_nat, i1, i2, if_pos, if_neg]
    rw [if_neg (show ¬ bI true = iI 0 by decide), sm_ev_l, sm_tot_u, fn_SE_findReach_q136]
    unfold fn_SE_findReach_b136
    simp (disch := omega) only [il_0, ii_lt, ii_nat, i1, i2, if_pos, if_neg, sm_ev_l]
    rw [show ((-1 : Int32)) = iI (-1) from by decide, ii_add]
    rfl
  · have h1 := hl (by omega)
    have h2 := hh (by omega)
    rw [decide_eq_false e, if_neg e, if_neg e, sm_tot_u, fn_SE_findReach_q71]
    unfold fn_SE_findReach_b71
    simp (disch := omega) only [il_0, il_1, ii_add, ii_lt, ii_nat, i1, i2, i3, h1, if_pos, if_neg]
    rw [if_pos (show bI false = iI 0 by decide), sm_ev_l, sm_tot_u, fn_SE_findReach_q105]
    unfold fn_SE_findReach_b105
    simp (disch := omega) only [il_0, il_1, ii_add, ii_lt, ii_nat, i1, i2, i3, h2, if_pos, if_neg]
    rw [if_pos (show bI false = iI 0 by decide), sm_ev_l, sm_tot_u, fn_SE_findReach_q136]
    unfold fn_SE_findReach_b136
    simp (disch := omega) only [il_0, ii_lt, ii_nat, i1, i2, if_pos, if_neg, sm_ev_l]
    rw [show ((-1 : Int32)) = iI (-1) from by decide, ii_add]
    congr 1
    split <;> split <;> rfl
end SEQ
