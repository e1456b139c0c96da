section SEG
variable {m n m' : Nat} {sg : Bool} {A lo hi : Nat → Nat → Int} {b : Nat → Int} {ca clo chi : Nat → Nat → Int32}
variable {rec : Int32 → Int32 → Int32 → Int32 → Int32 → (Nat → Int32) → (Nat → Int32) → (Nat → Int32) → Option (Int32 × Int32 × Int32 × (Nat → Int32) × (Nat → Int32) × (Nat → Int32))}
/-- first and step -/
theorem se_pre {c s k : Nat} {ld : Bool} {th tot : Int32} {cv cl cn : Nat → Int32} (hs : s ≤ 16) :
    sm_tot (fn_SE_fill_vl rec (iI c) (iI s) (bI ld) (iI m) (iI n) (bI sg) (iI n) (iI m') clo chi ca) (44, 0, 0, 0, 0, 0, bI (decide (k = 0)), 0, 0, th, tot, cv, cl, cn) =
      sm_tot (fn_SE_fill_vl rec (iI c) (iI s) (bI ld) (iI m) (iI n) (bI sg) (iI n) (iI m') clo chi ca) (100, 0, 0, iI (sx_step sg ld (decide (k = 0)) s), 1, iI (sx_first sg ld (decide (k = 0)) s), 0, 0, 0, th, tot, cv, cl, cn) := by
  have e72 : ∀ (la : Bool) (f : Int), f.natAbs ≤ 16 → sm_tot (fn_SE_fill_vl rec (iI c) (iI s) (bI ld) (iI m) (iI n) (bI sg) (iI n) (iI m') clo chi ca) (72, bI la, 0, 0, 0, 0, iI f, 0, 0, th, tot, cv, cl, cn) = sm_tot (fn_SE_fill_vl rec (iI c) (iI s) (bI ld) (iI m) (iI n) (bI sg) (iI n) (iI m') clo chi ca) (100, 0, 0, iI (if la = true then (if 1 < (s : Int) - f then (s : Int) - f else 1) else 1), 1, iI f, 0, 0, 0, th, tot, cv, cl, cn) := by
    intro la f hf
    rw [sm_tot_u, fn_SE_fill_vl_q72]
    unfold fn_SE_fill_vl_b72
    cases la with
    | false =>
      rw [bI_0, if_pos rfl, sm_ev_l, sm_tot_u, fn_SE_fill_vl_q91]
      rfl
    | true =>
      rw [bI_1, if_neg (by decide), sm_ev_l, sm_tot_u, fn_SE_fill_vl_q91]
      unfold fn_SE_fill_vl_b91
      rw [sm_ev_l, if_pos rfl, ii_sub, il_1]
      simp (disch := omega) only [ii_lt]
      split <;> rfl
  have e62 : ∀ (la : Bool), sm_tot (fn_SE_fill_vl rec (iI c) (iI s) (bI ld) (iI m) (iI n) (bI sg) (iI n) (iI m') clo chi ca) (62, bI la, 0, 0, 0, 0, 0, 0, 0, th, tot, cv, cl, cn) = sm_tot (fn_SE_fill_vl rec (iI c) (iI s) (bI ld) (iI m) (iI n) (bI sg) (iI n) (iI m') clo chi ca) (72, bI la, 0, 0, 0, 0, iI (if la = true then (s : Int) else 0), 0, 0, th, tot, cv, cl, cn) := by
    intro la
    rw [sm_tot_u, fn_SE_fill_vl_q62]
    unfold fn_SE_fill_vl_b62
    cases la with
    | false => rw [bI_0, if_pos rfl, sm_ev_l]; rfl
    | true => rw [bI_1, if_neg (by decide), sm_ev_l]; rfl
  rw [sm_tot_u, fn_SE_fill_vl_q44]
  unfold fn_SE_fill_vl_b44
  by_cases hl : (sg && ld) = true
  · have h1 : sg = true ∧ ld = true := by simpa using hl
    obtain ⟨rfl, rfl⟩ := h1
    rw [if_neg (show ¬ bI true = 0 by decide), if_neg (show ¬ bI true = 0 by decide), sm_ev_l, ii_neg, e72 _ (-(s : Int)) (by omega)]
    unfold sx_step sx_first
    by_cases e : s = 0
    · subst e; simp
    · simp only [Bool.and_self, if_true, ne_eq, e, not_false_eq_true, and_self]
      cases decide (k = 0) with
      | true => simp only [if_true]; rw [if_pos (by omega), show (s : Int) - -(s : Int) = 2 * (s : Int) by omega]
      | false => simp only [Bool.false_eq_true, if_false]
  · have h62 : sm_ev (fn_SE_fill_vl rec (iI c) (iI s) (bI ld) (iI m) (iI n) (bI sg) (iI n) (iI m') clo chi ca) (if bI sg = 0 then some (.inl (62, bI (decide (k = 0)), 0, 0, 0, 0, 0, 0, 0, th, tot, cv, cl, cn)) else if bI ld = 0 then some (.inl (62, bI (decide (k = 0)), 0, 0, 0, 0, 0, 0, 0, th, tot, cv, cl, cn)) else some (.inl (72, bI (decide (k = 0)), 0, 0, 0, 0, -iI s, 0, 0, th, tot, cv, cl, cn))) = sm_tot (fn_SE_fill_vl rec (iI c) (iI s) (bI ld) (iI m) (iI n) (bI sg) (iI n) (iI m') clo chi ca) (62, bI (decide (k = 0)), 0, 0, 0, 0, 0, 0, 0, th, tot, cv, cl, cn) := by
      cases sg with
      | false => rw [bI_0, if_pos rfl, sm_ev_l]
      | true =>
        cases ld with
        | false => rw [bI_0, bI_1, if_neg (by decide), if_pos rfl, sm_ev_l]
        | true => exact absurd rfl hl
    refine h62.trans ?_
    rw [e62, e72 _ _ (by split <;> omega)]
    unfold sx_step sx_first
    rw [if_neg hl]
    cases decide (k = 0) with
    | true =>
      simp only [if_true]
      rw [if_neg (by omega), if_neg (fun q => hl q.1)]
    | false => simp only [Bool.false_eq_true, if_false]
/-- the loop over the numbers of a column -/
theorem se_loop {k c s : Nat} {ld : Bool} {v : Nat → Int} {step : Int} (h : se_sys m n A lo hi b ca clo chi) (hrec : se_fok m n sg m' A lo hi b k rec) (hc : c + (k + 1) = n) (hs : s ≤ 16) (hst : step.natAbs ≤ 32) (hz : ∀ j, c ≤ j → v j = 0) (hv : ∀ j, (v j).natAbs ≤ 16) :
    ∀ (q : Nat) (a a0 : Int) (L : List (Nat → Int)) (cv cl cn : Nat → Int32), sx_lpok s step q a → a.natAbs ≤ 100 → a0.natAbs ≤ 16 → se_vp cv (sx_up v c a0) → se_lp m n A b (sx_up v c a0) cl → m' ≤ L.length → L.length ≤ 2000 → vl_pic n L cn → vl_rng n L →
    ∃ cv' cl' cn', sm_tot (fn_SE_fill_vl rec (iI c) (iI s) (bI ld) (iI m) (iI n) (bI sg) (iI n) (iI m') clo chi ca) (100, 0, 0, iI step, 1, iI a, 0, 0, 0, 1, iI L.length, cv, cl, cn) = some (bI (sx_lp (fun a t => sx_fi sg (sx_cb m n A b lo hi) (sx_tC 2000 (sx_le n) m') k (c + 1) (s - a.natAbs) (ld || decide (a ≠ 0)) (sx_up v c a) t) step q a L).2, bI (sx_lp (fun a t => sx_fi sg (sx_cb m n A b lo hi) (sx_tC 2000 (sx_le n) m') k (c + 1) (s - a.natAbs) (ld || decide (a ≠ 0)) (sx_up v c a) t) step q a L).2, iI (sx_lp (fun a t => sx_fi sg (sx_cb m n A b lo hi) (sx_tC 2000 (sx_le n) m') k (c + 1) (s - a.natAbs) (ld || decide (a ≠ 0)) (sx_up v c a) t) step q a L).1.length, cv', cl', cn') ∧
      se_vp cv' v ∧ se_lp m n A b v cl' ∧ vl_pic n (sx_lp (fun a t => sx_fi sg (sx_cb m n A b lo hi) (sx_tC 2000 (sx_le n) m') k (c + 1) (s - a.natAbs) (ld || decide (a ≠ 0)) (sx_up v c a) t) step q a L).1 cn' ∧ vl_rng n (sx_lp (fun a t => sx_fi sg (sx_cb m n A b lo hi) (sx_tC 2000 (sx_le n) m') k (c + 1) (s - a.natAbs) (ld || decide (a ≠ 0)) (sx_up v c a) t) step q a L).1 ∧ m' ≤ (sx_lp (fun a t => sx_fi sg (sx_cb m n A b lo hi) (sx_tC 2000 (sx_le n) m') k (c + 1) (s - a.natAbs) (ld || decide (a ≠ 0)) (sx_up v c a) t) step q a L).1.length ∧ (sx_lp (fun a t => sx_fi sg (sx_cb m n A b lo hi) (sx_tC 2000 (sx_le n) m') k (c + 1) (s - a.natAbs) (ld || decide (a ≠ 0)) (sx_up v c a) t) step q a L).1.length ≤ 2000 := by
  have hm := h.1
  have hn := h.2.1
  have hA := h.2.2.1
  -- the number put into the column, whatever stood there
  have hput : ∀ (a a0 : Int) (cv cl : Nat → Int32), se_vp cv (sx_up v c a0) → se_lp m n A b (sx_up v c a0) cl → ∃ cv' cl', sm_tot (fn_SE_put (iI c) (iI a) (iI m) ca) (0, 0, 0, cv, cl) = some (cv', cl') ∧ se_vp cv' (sx_up v c a) ∧ se_lp m n A b (sx_up v c a) cl' := by
    intro a a0 cv cl h1 h2
    obtain ⟨cv', cl', p1, p2, p3⟩ := se_put (a := a) (A := A) hm (show c < 6 by omega) h1 h2 (fun r hr => (hA r c hr (by omega)).1)
    refine ⟨cv', cl', p1, fun j hj => by rw [p2 j hj, sx_up_up], fun r hr => ?_⟩
    rw [p3 r hr]
    congr 1
    rw [sx_dt_up n, sx_dt_up n, if_pos (by omega), if_pos (by omega), sx_up_eq, Int.sub_mul, Int.sub_mul, Int.sub_mul]
    omega
  have hend : ∀ (x : Bool) (a0 : Int) (tot : Int32) (cv cl cn : Nat → Int32), se_vp cv (sx_up v c a0) → se_lp m n A b (sx_up v c a0) cl → ∃ cv' cl', sm_tot (fn_SE_fill_vl rec (iI c) (iI s) (bI ld) (iI m) (iI n) (bI sg) (iI n) (iI m') clo chi ca) (160, 0, 0, 0, bI x, 0, 0, 0, 0, bI x, tot, cv, cl, cn) = some (bI x, bI x, tot, cv', cl', cn) ∧ se_vp cv' v ∧ se_lp m n A b v cl' := by
    intro x a0 tot cv cl cn h1 h2
    obtain ⟨cv', cl', p1, p2, p3⟩ := hput 0 a0 cv cl h1 h2
    rw [sx_up_self (hz c (Nat.le_refl _))] at p2 p3
    refine ⟨cv', cl', ?_, p2, p3⟩
    rw [sm_tot_u, fn_SE_fill_vl_q160]
    unfold fn_SE_fill_vl_b160
    have p1' : sm_tot (fn_SE_put (iI c) 0 (iI m) ca) (0, 0, 0, cv, cl) = some (cv', cl') := p1
    rw [p1', Option.bind_some, if_pos bI_01, sm_ev_r]
  intro q
  induction q with
  | zero =>
    intro a a0 L cv cl cn hq ha ha0 hcv hcl h1 h2 h3 h4
    have hq' : (s : Int) < a := hq
    obtain ⟨cv', cl', e1, e2, e3⟩ := hend true a0 (iI L.length) cv cl cn hcv hcl
    refine ⟨cv', cl', cn, ?_, e2, e3, h3, h4, h1, h2⟩
    rw [sm_tot_u, fn_SE_fill_vl_q100]
    unfold fn_SE_fill_vl_b100
    simp (disch := omega) only [ii_lt, if_pos, sm_ev_l]
    exact e1
  | succ q ih =>
    intro a a0 L cv cl cn hq ha ha0 hcv hcl h1 h2 h3 h4
    obtain ⟨q1, q2, q3⟩ := hq
    obtain ⟨cv1, cl1, p1, p2, p3⟩ := hput a a0 cv cl hcv hcl
    have hv1 : ∀ j, (sx_up v c a j).natAbs ≤ 16 := fun j => by
      by_cases e : j = c
      · subst e; rw [sx_up_eq]; omega
      · rw [sx_up_ne e]; exact hv j
    obtain ⟨cv2, cl2, cn2, r1, r2, r3, r4, r5, r6, r7⟩ := hrec (c + 1) (s - a.natAbs) (ld || decide (a ≠ 0)) (sx_up v c a) L cv1 cl1 cn (by omega) (by omega) (fun j hj => by rw [sx_up_ne (by omega)]; exact hz j (by omega)) hv1 p2 p3 h1 h2 h3 h4
    have e143 : ∀ x, sm_tot (fn_SE_fill_vl rec (iI c) (iI s) (bI ld) (iI m) (iI n) (bI sg) (iI n) (iI m') clo chi ca) (100, 0, 0, iI step, 1, iI a, 0, 0, 0, 1, iI L.length, cv, cl, cn) = sm_tot (fn_SE_fill_vl rec (iI c) (iI s) (bI ld) (iI m) (iI n) (bI sg) (iI n) (iI m') clo chi ca) (100, 0, 0, iI step, bI (sx_fi sg (sx_cb m n A b lo hi) (sx_tC 2000 (sx_le n) m') k (c + 1) (s - a.natAbs) (ld || decide (a ≠ 0)) (sx_up v c a) L).2, iI (a + step), 0, 0, 0, bI (sx_fi sg (sx_cb m n A b lo hi) (sx_tC 2000 (sx_le n) m') k (c + 1) (s - a.natAbs) (ld || decide (a ≠ 0)) (sx_up v c a) L).2, iI (sx_fi sg (sx_cb m n A b lo hi) (sx_tC 2000 (sx_le n) m') k (c + 1) (s - a.natAbs) (ld || decide (a ≠ 0)) (sx_up v c a) L).1.length, cv2, cl2, cn2) ∨ x = 0 := by
      intro x
      left
      have f143 : sm_tot (fn_SE_fill_vl rec (iI c) (iI s) (bI ld) (iI m) (iI n) (bI sg) (iI n) (iI m') clo chi ca) (143, 0, 0, iI step, 0, iI a, bI (ld || decide (a ≠ 0)), iI ((s - a.natAbs : Nat) : Int), iI ((c + 1 : Nat) : Int), 1, iI L.length, cv1, cl1, cn) = sm_tot (fn_SE_fill_vl rec (iI c) (iI s) (bI ld) (iI m) (iI n) (bI sg) (iI n) (iI m') clo chi ca) (100, 0, 0, iI step, bI (sx_fi sg (sx_cb m n A b lo hi) (sx_tC 2000 (sx_le n) m') k (c + 1) (s - a.natAbs) (ld || decide (a ≠ 0)) (sx_up v c a) L).2, iI (a + step), 0, 0, 0, bI (sx_fi sg (sx_cb m n A b lo hi) (sx_tC 2000 (sx_le n) m') k (c + 1) (s - a.natAbs) (ld || decide (a ≠ 0)) (sx_up v c a) L).2, iI (sx_fi sg (sx_cb m n A b lo hi) (sx_tC 2000 (sx_le n) m') k (c + 1) (s - a.natAbs) (ld || decide (a ≠ 0)) (sx_up v c a) L).1.length, cv2, cl2, cn2) := by
        rw [sm_tot_u, fn_SE_fill_vl_q143]
        unfold fn_SE_fill_vl_b143
        rw [r1, Option.bind_some, sm_ev_l, ii_add]
      have f138 : sm_tot (fn_SE_fill_vl rec (iI c) (iI s) (bI ld) (iI m) (iI n) (bI sg) (iI n) (iI m') clo chi ca) (138, 0, 0, iI step, 0, iI a, iI ((s - a.natAbs : Nat) : Int), iI ((c + 1 : Nat) : Int), 0, 1, iI L.length, cv1, cl1, cn) = sm_tot (fn_SE_fill_vl rec (iI c) (iI s) (bI ld) (iI m) (iI n) (bI sg) (iI n) (iI m') clo chi ca) (143, 0, 0, iI step, 0, iI a, bI true, iI ((s - a.natAbs : Nat) : Int), iI ((c + 1 : Nat) : Int), 1, iI L.length, cv1, cl1, cn) := by
        rw [sm_tot_u, fn_SE_fill_vl_q138]
        rfl
      rw [← f143, sm_tot_u, fn_SE_fill_vl_q100]
      unfold fn_SE_fill_vl_b100
      have hsub : iI (s : Int) - iI (a.natAbs : Int) = iI ((s - a.natAbs : Nat) : Int) := by rw [ii_sub]; congr 1; omega
      have hadd : iI (c : Int) + 1 = iI ((c + 1 : Nat) : Int) := by rw [il_1, ii_add]; rfl
      rw [ii_abs (by omega), hsub, hadd, p1, Option.bind_some]
      rw [if_neg (show ¬ iI (s : Int) < iI a by rw [ii_lt (by omega) (by omega) (by omega) (by omega)]; omega), if_neg (show ¬ (1 : Int32) = 0 by decide)]
      cases ld with
      | true =>
        rw [if_neg (show ¬ bI true = 0 by decide), sm_ev_l, f138, Bool.true_or]
      | false =>
        rw [if_pos (show bI false = 0 by rfl), Bool.false_or]
        by_cases e : a = 0
        · subst e
          rw [if_pos (show iI 0 = (0 : Int32) from rfl), sm_ev_l]
          rfl
        · rw [if_neg (show ¬ iI a = (0 : Int32) by rw [il_0, ii_eq (by omega) (by omega) (by omega) (by omega)]; exact e), sm_ev_l, f138, decide_eq_true e]
    rcases e143 1 with e143 | e143
    · rw [e143, sx_lp_succ]
      by_cases e : (sx_fi sg (sx_cb m n A b lo hi) (sx_tC 2000 (sx_le n) m') k (c + 1) (s - a.natAbs) (ld || decide (a ≠ 0)) (sx_up v c a) L).2 = true
      · rw [if_pos e, e, bI_1]
        exact ih (a + step) a _ cv2 cl2 cn2 q3 (by omega) (by omega) r2 r3 r6 r7 r4 r5
      · rw [if_neg e]
        have e' : (sx_fi sg (sx_cb m n A b lo hi) (sx_tC 2000 (sx_le n) m') k (c + 1) (s - a.natAbs) (ld || decide (a ≠ 0)) (sx_up v c a) L).2 = false := by simpa using e
        rw [e']
        obtain ⟨cv', cl', e1, e2, e3⟩ := hend false a (iI (sx_fi sg (sx_cb m n A b lo hi) (sx_tC 2000 (sx_le n) m') k (c + 1) (s - a.natAbs) (ld || decide (a ≠ 0)) (sx_up v c a) L).1.length) cv2 cl2 cn2 r2 r3
        refine ⟨cv', cl', cn2, ?_, e2, e3, r4, r5, r6, r7⟩
        rw [← e1, sm_tot_u, fn_SE_fill_vl_q100]
        unfold fn_SE_fill_vl_b100
        rw [if_pos (show bI false = 0 by rfl)]
        split <;> rfl
    · exact absurd e143 (by decide)
/-- one column more -/
theorem se_fill_s {k : Nat} (h : se_sys m n A lo hi b ca clo chi) (hrec : se_fok m n sg m' A lo hi b k rec) :
    se_fok m n sg m' A lo hi b (k + 1) (fun a1 a2 a3 th tot cv cl cn => sm_tot (fn_SE_fill_vl rec a1 a2 a3 (iI m) (iI n) (bI sg) (iI n) (iI m') clo chi ca) (0, 0, 0, 0, 0, 0, 0, 0, 0, th, tot, cv, cl, cn)) := by
  intro c s ld v L cv cl cn hc hs hz hv hcv hcl hm hL hp hr
  have hn := h.2.1
  have hcb := se_cb h (c := c) (s := s) (by omega) hs hv hcl
  by_cases e : sx_cb m n A b lo hi c s v = true
  · have hst : (sx_step sg ld (decide (k = 0)) s).natAbs ≤ 32 := by
      unfold sx_step
      split
      · split <;> omega
      · omega
    have hfi : (sx_first sg ld (decide (k = 0)) s).natAbs ≤ 100 := by
      unfold sx_first
      split
      · omega
      · split <;> omega
    obtain ⟨cv', cl', cn', l1, l2, l3, l4, l5, l6, l7⟩ := se_loop (k := k) (c := c) (s := s) (ld := ld) (v := v) (step := sx_step sg ld (decide (k = 0)) s) h hrec hc hs hst hz hv _ _ 0 L cv cl cn sx_lpok_init hfi (by omega) (by rw [sx_up_self (hz c (Nat.le_refl _))]; exact hcv) (by rw [sx_up_self (hz c (Nat.le_refl _))]; exact hcl) hm hL hp hr
    have hfi2 : sx_fi sg (sx_cb m n A b lo hi) (sx_tC 2000 (sx_le n) m') (k + 1) c s ld v L = sx_lp (fun a t => sx_fi sg (sx_cb m n A b lo hi) (sx_tC 2000 (sx_le n) m') k (c + 1) (s - a.natAbs) (ld || decide (a ≠ 0)) (sx_up v c a) t) (sx_step sg ld (decide (k = 0)) s) (sx_cnt sg ld (decide (k = 0)) s) (sx_first sg ld (decide (k = 0)) s) L := by
      show (if sx_cb m n A b lo hi c s v = true then _ else (L, true)) = _
      rw [if_pos e]
    rw [hfi2]
    refine ⟨cv', cl', cn', ?_, l2, l3, l4, l5, l6, l7⟩
    show sm_tot _ _ = _
    rw [← l1, ← se_pre hs]
    rw [sm_tot_u (0, 0, 0, 0, 0, 0, 0, 0, 0, 1, iI L.length, cv, cl, cn), fn_SE_fill_vl_q0]
    unfold fn_SE_fill_vl_b0
    rw [hcb, e, Option.bind_some, bI_1, if_neg (by decide)]
    rw [if_pos (show iI (c : Int) < iI (n : Int) by rw [ii_lt (by omega) (by omega) (by omega) (by omega)]; omega), il_1, ii_sub]
    by_cases hk : k = 0
    · rw [if_pos (show iI (c : Int) = iI ((n : Int) - 1) by congr 1; omega), sm_ev_l, decide_eq_true hk]
      rfl
    · rw [if_neg (show ¬ iI (c : Int) = iI ((n : Int) - 1) by rw [ii_eq (by omega) (by omega) (by omega) (by omega)]; omega), sm_ev_l, decide_eq_false hk]
      rfl
  · have hfi2 : sx_fi sg (sx_cb m n A b lo hi) (sx_tC 2000 (sx_le n) m') (k + 1) c s ld v L = (L, true) := by
      show (if sx_cb m n A b lo hi c s v = true then _ else (L, true)) = _
      rw [if_neg e]
    rw [hfi2]
    refine ⟨cv, cl, cn, ?_, hcv, hcl, hp, hr, hm, hL⟩
    show sm_tot _ _ = _
    rw [sm_tot_u, fn_SE_fill_vl_q0]
    unfold fn_SE_fill_vl_b0
    rw [hcb, show sx_cb m n A b lo hi c s v = false from by simpa using e, Option.bind_some, bI_0, if_pos rfl, sm_ev_r]
    rfl
theorem se_fill (h : se_sys m n A lo hi b ca clo chi) : ∀ (k N : Nat), k < N → se_fok m n sg m' A lo hi b k (fn_SE_fill_vl_n (iI m) (iI n) (bI sg) (iI n) (iI m') clo chi ca N) := by
  intro k
  induction k with
  | zero =>
    intro N hN
    cases N with
    | zero => omega
    | succ N => exact se_fill_0 h
  | succ k ih =>
    intro N hN
    cases N with
    | zero => omega
    | succ N => exact se_fill_s h (ih N (by omega))
end SEG
