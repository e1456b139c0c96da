/-! the same search with another taker: the cheapest one -/
section CHF
variable {σ : Type} {m n : Nat} {sg : Bool} {A lo hi : Nat → Nat → Int} {b : Nat → Int} {ca clo chi : Nat → Nat → Int32} {cc : Nat → Int32} {tk : σ → (Nat → Int) → σ × Bool} {Rl : σ → Int32 → Int32 → (Nat → Int32) → Prop}
variable {rec : (Int32 → Int32 → Int32 → Int32 → Int32 → (Nat → Int32) → (Nat → Int32) → (Nat → Int32) → Option (Int32 × Int32 × Int32 × (Nat → Int32) × (Nat → Int32) × (Nat → Int32)))}
/-- what the taker does with a vector -/
def ch_tok (n : Nat) (cc : Nat → Int32) (tk : σ → (Nat → Int) → σ × Bool) (Rl : σ → Int32 → Int32 → (Nat → Int32) → Prop) : Prop := ∀ (st : σ) (v : Nat → Int) (th tot : Int32) (cv cn : Nat → Int32), Rl st th tot cn → se_vp cv v → (∀ j, (v j).natAbs ≤ 16) → ∃ th' tot' cn', sm_tot (fn_CH_take (iI n) cc cv) (0, 0, th, tot, cn) = some (bI (tk st v).2, th', tot', cn') ∧ Rl (tk st v).1 th' tot' cn'
def ch_fok (m n : Nat) (sg : Bool) (A lo hi : Nat → Nat → Int) (b : Nat → Int) (tk : σ → (Nat → Int) → σ × Bool) (Rl : σ → Int32 → Int32 → (Nat → Int32) → Prop) (k : Nat) (rec : (Int32 → Int32 → Int32 → Int32 → Int32 → (Nat → Int32) → (Nat → Int32) → (Nat → Int32) → Option (Int32 × Int32 × Int32 × (Nat → Int32) × (Nat → Int32) × (Nat → Int32)))) : Prop :=
  ∀ (c s : Nat) (ld : Bool) (v : Nat → Int) (st : σ) (th tot : Int32) (cv cl cn : Nat → Int32), c + k = n → s ≤ 16 → (∀ j, c ≤ j → v j = 0) → (∀ j, (v j).natAbs ≤ 16) → se_vp cv v → se_lp m n A b v cl → Rl st th tot cn →
    ∃ th' tot' cv' cl' cn', rec (iI c) (iI s) (bI ld) th tot cv cl cn = some (bI (sx_fi sg (sx_cb m n A b lo hi) tk k c s ld v st).2, th', tot', cv', cl', cn') ∧ se_vp cv' v ∧ se_lp m n A b v cl' ∧ Rl (sx_fi sg (sx_cb m n A b lo hi) tk k c s ld v st).1 th' tot' cn'
theorem ch_fill_0 (h : se_sys m n A lo hi b ca clo chi) (ht : ch_tok n cc tk Rl) :
    ch_fok m n sg A lo hi b tk Rl 0 (fun a1 a2 a3 th tot cv cl cn => sm_tot (fn_SE_fill_ch rec a1 a2 a3 (iI m) (iI n) (bI sg) (iI n) clo chi ca cc) (0, 0, 0, 0, 0, 0, 0, 0, 0, th, tot, cv, cl, cn)) := by
  intro c s ld v st th tot cv cl cn hc hs hz hv hcv hcl hR
  have hn := h.2.1
  have hcb := se_cb h (c := c) (s := s) (by omega) hs hv hcl
  obtain ⟨th', tot', cn', t1, t2⟩ := ht st v th tot cv cn hR hcv hv
  show ∃ th' tot' cv' cl' cn', sm_tot _ _ = some (bI (if sx_cb m n A b lo hi c s v = true then tk st v else (st, true)).2, th', tot', cv', cl', cn') ∧ se_vp cv' v ∧ se_lp m n A b v cl' ∧ Rl (if sx_cb m n A b lo hi c s v = true then tk st v else (st, true)).1 th' tot' cn'
  by_cases e : sx_cb m n A b lo hi c s v = true
  · rw [if_pos e]
    refine ⟨th', tot', cv, cl, cn', ?_, hcv, hcl, t2⟩
    rw [sm_tot_u, fn_SE_fill_ch_q0]
    unfold fn_SE_fill_ch_b0
    rw [hcb, e, Option.bind_some, bI_1, if_neg (by decide)]
    simp (disch := omega) only [ii_lt, if_neg]
    rw [t1, Option.bind_some, if_pos bI_01, sm_ev_r]
  · rw [if_neg e]
    refine ⟨th, tot, cv, cl, cn, ?_, hcv, hcl, hR⟩
    rw [sm_tot_u, fn_SE_fill_ch_q0]
    unfold fn_SE_fill_ch_b0
    rw [hcb, show sx_cb m n A b lo hi c s v = false from by simpa using e, Option.bind_some, bI_0, if_pos rfl, sm_ev_r]
    rfl
theorem ch_pre {c s k : Nat} {ld : Bool} {th tot : Int32} {cv cl cn : Nat → Int32} (hs : s ≤ 16) :
    sm_tot (fn_SE_fill_ch rec (iI c) (iI s) (bI ld) (iI m) (iI n) (bI sg) (iI n) clo chi ca cc) (44, 0, 0, 0, 0, 0, bI (decide (k = 0)), 0, 0, th, tot, cv, cl, cn) =
      sm_tot (fn_SE_fill_ch rec (iI c) (iI s) (bI ld) (iI m) (iI n) (bI sg) (iI n) clo chi ca cc) (100, 0, 0, iI (sx_step sg ld (decide (k = 0)) s), 1, iI (sx_first sg ld (decide (k = 0)) s), 0, 0, 0, th, tot, cv, cl, cn) := by
  have e72 : ∀ (la : Bool) (f : Int), f.natAbs ≤ 16 → sm_tot (fn_SE_fill_ch rec (iI c) (iI s) (bI ld) (iI m) (iI n) (bI sg) (iI n) clo chi ca cc) (72, bI la, 0, 0, 0, 0, iI f, 0, 0, th, tot, cv, cl, cn) = sm_tot (fn_SE_fill_ch rec (iI c) (iI s) (bI ld) (iI m) (iI n) (bI sg) (iI n) clo chi ca cc) (100, 0, 0, iI (if la = true then (if 1 < (s : Int) - f then (s : Int) - f else 1) else 1), 1, iI f, 0, 0, 0, th, tot, cv, cl, cn) := by
    intro la f hf
    rw [sm_tot_u, fn_SE_fill_ch_q72]
    unfold fn_SE_fill_ch_b72
    cases la with
    | false =>
      rw [bI_0, if_pos rfl, sm_ev_l, sm_tot_u, fn_SE_fill_ch_q91]
      rfl
    | true =>
      rw [bI_1, if_neg (by decide), sm_ev_l, sm_tot_u, fn_SE_fill_ch_q91]
      unfold fn_SE_fill_ch_b91
      rw [sm_ev_l, if_pos rfl, ii_sub, il_1]
      simp (disch := omega) only [ii_lt]
      split <;> rfl
  have e62 : ∀ (la : Bool), sm_tot (fn_SE_fill_ch rec (iI c) (iI s) (bI ld) (iI m) (iI n) (bI sg) (iI n) clo chi ca cc) (62, bI la, 0, 0, 0, 0, 0, 0, 0, th, tot, cv, cl, cn) = sm_tot (fn_SE_fill_ch rec (iI c) (iI s) (bI ld) (iI m) (iI n) (bI sg) (iI n) clo chi ca cc) (72, bI la, 0, 0, 0, 0, iI (if la = true then (s : Int) else 0), 0, 0, th, tot, cv, cl, cn) := by
    intro la
    rw [sm_tot_u, fn_SE_fill_ch_q62]
    unfold fn_SE_fill_ch_b62
    cases la with
    | false => rw [bI_0, if_pos rfl, sm_ev_l]; rfl
    | true => rw [bI_1, if_neg (by decide), sm_ev_l]; rfl
  rw [sm_tot_u, fn_SE_fill_ch_q44]
  unfold fn_SE_fill_ch_b44
  by_cases hl : (sg && ld) = true
  · have h1 : sg = true ∧ ld = true := by simpa using hl
    obtain ⟨rfl, rfl⟩ := h1
    rw [if_neg (show ¬ bI true = 0 by decide), if_neg (show ¬ bI true = 0 by decide), sm_ev_l, ii_neg, e72 _ (-(s : Int)) (by omega)]
    unfold sx_step sx_first
    by_cases e : s = 0
    · subst e; simp
    · simp only [Bool.and_self, if_true, ne_eq, e, not_false_eq_true, and_self]
      cases decide (k = 0) with
      | true => simp only [if_true]; rw [if_pos (by omega), show (s : Int) - -(s : Int) = 2 * (s : Int) by omega]
      | false => simp only [Bool.false_eq_true, if_false]
  · have h62 : sm_ev (fn_SE_fill_ch rec (iI c) (iI s) (bI ld) (iI m) (iI n) (bI sg) (iI n) clo chi ca cc) (if bI sg = 0 then some (.inl (62, bI (decide (k = 0)), 0, 0, 0, 0, 0, 0, 0, th, tot, cv, cl, cn)) else if bI ld = 0 then some (.inl (62, bI (decide (k = 0)), 0, 0, 0, 0, 0, 0, 0, th, tot, cv, cl, cn)) else some (.inl (72, bI (decide (k = 0)), 0, 0, 0, 0, -iI s, 0, 0, th, tot, cv, cl, cn))) = sm_tot (fn_SE_fill_ch rec (iI c) (iI s) (bI ld) (iI m) (iI n) (bI sg) (iI n) clo chi ca cc) (62, bI (decide (k = 0)), 0, 0, 0, 0, 0, 0, 0, th, tot, cv, cl, cn) := by
      cases sg with
      | false => rw [bI_0, if_pos rfl, sm_ev_l]
      | true =>
        cases ld with
        | false => rw [bI_0, bI_1, if_neg (by decide), if_pos rfl, sm_ev_l]
        | true => exact absurd rfl hl
    refine h62.trans ?_
    rw [e62, e72 _ _ (by split <;> omega)]
    unfold sx_step sx_first
    rw [if_neg hl]
    cases decide (k = 0) with
    | true =>
      simp only [if_true]
      rw [if_neg (by omega), if_neg (fun q => hl q.1)]
    | false => simp only [Bool.false_eq_true, if_false]
theorem ch_loop {k c s : Nat} {ld : Bool} {v : Nat → Int} {step : Int} (h : se_sys m n A lo hi b ca clo chi) (hrec : ch_fok m n sg A lo hi b tk Rl k rec) (hc : c + (k + 1) = n) (hs : s ≤ 16) (hst : step.natAbs ≤ 32) (hz : ∀ j, c ≤ j → v j = 0) (hv : ∀ j, (v j).natAbs ≤ 16) :
    ∀ (q : Nat) (a a0 : Int) (st : σ) (th tot : Int32) (cv cl cn : Nat → Int32), sx_lpok s step q a → a.natAbs ≤ 100 → a0.natAbs ≤ 16 → se_vp cv (sx_up v c a0) → se_lp m n A b (sx_up v c a0) cl → Rl st th tot cn →
    ∃ th' tot' cv' cl' cn', sm_tot (fn_SE_fill_ch rec (iI c) (iI s) (bI ld) (iI m) (iI n) (bI sg) (iI n) clo chi ca cc) (100, 0, 0, iI step, 1, iI a, 0, 0, 0, th, tot, cv, cl, cn) = some (bI (sx_lp (fun a t => sx_fi sg (sx_cb m n A b lo hi) tk k (c + 1) (s - a.natAbs) (ld || decide (a ≠ 0)) (sx_up v c a) t) step q a st).2, th', tot', cv', cl', cn') ∧ se_vp cv' v ∧ se_lp m n A b v cl' ∧ Rl (sx_lp (fun a t => sx_fi sg (sx_cb m n A b lo hi) tk k (c + 1) (s - a.natAbs) (ld || decide (a ≠ 0)) (sx_up v c a) t) step q a st).1 th' tot' cn' := by
  have hm := h.1
  have hn := h.2.1
  have hA := h.2.2.1
  have hput : ∀ (a a0 : Int) (cv cl : Nat → Int32), se_vp cv (sx_up v c a0) → se_lp m n A b (sx_up v c a0) cl → ∃ cv' cl', sm_tot (fn_SE_put (iI c) (iI a) (iI m) ca) (0, 0, 0, cv, cl) = some (cv', cl') ∧ se_vp cv' (sx_up v c a) ∧ se_lp m n A b (sx_up v c a) cl' := by
    intro a a0 cv cl h1 h2
    obtain ⟨cv', cl', p1, p2, p3⟩ := se_put (a := a) (A := A) hm (show c < 6 by omega) h1 h2 (fun r hr => (hA r c hr (by omega)).1)
    refine ⟨cv', cl', p1, fun j hj => by rw [p2 j hj, sx_up_up], fun r hr => ?_⟩
    rw [p3 r hr]
    congr 1
    rw [sx_dt_up n, sx_dt_up n, if_pos (by omega), if_pos (by omega), sx_up_eq, Int.sub_mul, Int.sub_mul, Int.sub_mul]
    omega
  have hend : ∀ (x : Bool) (a0 : Int) (th tot : Int32) (cv cl cn : Nat → Int32), se_vp cv (sx_up v c a0) → se_lp m n A b (sx_up v c a0) cl → ∃ cv' cl', sm_tot (fn_SE_fill_ch rec (iI c) (iI s) (bI ld) (iI m) (iI n) (bI sg) (iI n) clo chi ca cc) (160, 0, 0, 0, bI x, 0, 0, 0, 0, th, tot, cv, cl, cn) = some (bI x, th, tot, cv', cl', cn) ∧ se_vp cv' v ∧ se_lp m n A b v cl' := by
    intro x a0 th tot cv cl cn h1 h2
    obtain ⟨cv', cl', p1, p2, p3⟩ := hput 0 a0 cv cl h1 h2
    rw [sx_up_self (hz c (Nat.le_refl _))] at p2 p3
    refine ⟨cv', cl', ?_, p2, p3⟩
    rw [sm_tot_u, fn_SE_fill_ch_q160]
    unfold fn_SE_fill_ch_b160
    have p1' : sm_tot (fn_SE_put (iI c) 0 (iI m) ca) (0, 0, 0, cv, cl) = some (cv', cl') := p1
    rw [p1', Option.bind_some, if_pos bI_01, sm_ev_r]
  intro q
  induction q with
  | zero =>
    intro a a0 st th tot cv cl cn hq ha ha0 hcv hcl hR
    have hq' : (s : Int) < a := hq
    obtain ⟨cv', cl', e1, e2, e3⟩ := hend true a0 th tot cv cl cn hcv hcl
    refine ⟨th, tot, cv', cl', cn, ?_, e2, e3, hR⟩
    rw [sm_tot_u, fn_SE_fill_ch_q100]
    unfold fn_SE_fill_ch_b100
    simp (disch := omega) only [ii_lt, if_pos, sm_ev_l]
    exact e1
  | succ q ih =>
    intro a a0 st th tot cv cl cn hq ha ha0 hcv hcl hR
    obtain ⟨q1, q2, q3⟩ := hq
    obtain ⟨cv1, cl1, p1, p2, p3⟩ := hput a a0 cv cl hcv hcl
    have hv1 : ∀ j, (sx_up v c a j).natAbs ≤ 16 := fun j => by
      by_cases e : j = c
      · subst e; rw [sx_up_eq]; omega
      · rw [sx_up_ne e]; exact hv j
    obtain ⟨th2, tot2, cv2, cl2, cn2, r1, r2, r3, r4⟩ := hrec (c + 1) (s - a.natAbs) (ld || decide (a ≠ 0)) (sx_up v c a) st th tot cv1 cl1 cn (by omega) (by omega) (fun j hj => by rw [sx_up_ne (by omega)]; exact hz j (by omega)) hv1 p2 p3 hR
    have e143 : sm_tot (fn_SE_fill_ch rec (iI c) (iI s) (bI ld) (iI m) (iI n) (bI sg) (iI n) clo chi ca cc) (100, 0, 0, iI step, 1, iI a, 0, 0, 0, th, tot, cv, cl, cn) = sm_tot (fn_SE_fill_ch rec (iI c) (iI s) (bI ld) (iI m) (iI n) (bI sg) (iI n) clo chi ca cc) (100, 0, 0, iI step, bI (sx_fi sg (sx_cb m n A b lo hi) tk k (c + 1) (s - a.natAbs) (ld || decide (a ≠ 0)) (sx_up v c a) st).2, iI (a + step), 0, 0, 0, th2, tot2, cv2, cl2, cn2) := by
      have f143 : sm_tot (fn_SE_fill_ch rec (iI c) (iI s) (bI ld) (iI m) (iI n) (bI sg) (iI n) clo chi ca cc) (143, 0, 0, iI step, 0, iI a, bI (ld || decide (a ≠ 0)), iI ((s - a.natAbs : Nat) : Int), iI ((c + 1 : Nat) : Int), th, tot, cv1, cl1, cn) = sm_tot (fn_SE_fill_ch rec (iI c) (iI s) (bI ld) (iI m) (iI n) (bI sg) (iI n) clo chi ca cc) (100, 0, 0, iI step, bI (sx_fi sg (sx_cb m n A b lo hi) tk k (c + 1) (s - a.natAbs) (ld || decide (a ≠ 0)) (sx_up v c a) st).2, iI (a + step), 0, 0, 0, th2, tot2, cv2, cl2, cn2) := by
        rw [sm_tot_u, fn_SE_fill_ch_q143]
        unfold fn_SE_fill_ch_b143
        rw [r1, Option.bind_some, sm_ev_l, ii_add]
      have f138 : sm_tot (fn_SE_fill_ch rec (iI c) (iI s) (bI ld) (iI m) (iI n) (bI sg) (iI n) clo chi ca cc) (138, 0, 0, iI step, 0, iI a, iI ((s - a.natAbs : Nat) : Int), iI ((c + 1 : Nat) : Int), 0, th, tot, cv1, cl1, cn) = sm_tot (fn_SE_fill_ch rec (iI c) (iI s) (bI ld) (iI m) (iI n) (bI sg) (iI n) clo chi ca cc) (143, 0, 0, iI step, 0, iI a, bI true, iI ((s - a.natAbs : Nat) : Int), iI ((c + 1 : Nat) : Int), th, tot, cv1, cl1, cn) := by
        rw [sm_tot_u, fn_SE_fill_ch_q138]
        rfl
      rw [← f143, sm_tot_u, fn_SE_fill_ch_q100]
      unfold fn_SE_fill_ch_b100
      have hsub : iI (s : Int) - iI (a.natAbs : Int) = iI ((s - a.natAbs : Nat) : Int) := by rw [ii_sub]; congr 1; omega
      have hadd : iI (c : Int) + 1 = iI ((c + 1 : Nat) : Int) := by rw [il_1, ii_add]; rfl
      rw [ii_abs (by omega), hsub, hadd, p1, Option.bind_some]
      rw [if_neg (show ¬ iI (s : Int) < iI a by rw [ii_lt (by omega) (by omega) (by omega) (by omega)]; omega), if_neg (show ¬ (1 : Int32) = 0 by decide)]
      cases ld with
      | true =>
        rw [if_neg (show ¬ bI true = 0 by decide), sm_ev_l, f138, Bool.true_or]
      | false =>
        rw [if_pos (show bI false = 0 by rfl), Bool.false_or]
        by_cases e : a = 0
        · subst e
          rw [if_pos (show iI 0 = (0 : Int32) from rfl), sm_ev_l]
          rfl
        · rw [if_neg (show ¬ iI a = (0 : Int32) by rw [il_0, ii_eq (by omega) (by omega) (by omega) (by omega)]; exact e), sm_ev_l, f138, decide_eq_true e]
    rw [e143, sx_lp_succ]
    by_cases e : (sx_fi sg (sx_cb m n A b lo hi) tk k (c + 1) (s - a.natAbs) (ld || decide (a ≠ 0)) (sx_up v c a) st).2 = true
    · rw [if_pos e, e, bI_1]
      exact ih (a + step) a _ th2 tot2 cv2 cl2 cn2 q3 (by omega) (by omega) r2 r3 r4
    · rw [if_neg e]
      have e' : (sx_fi sg (sx_cb m n A b lo hi) tk k (c + 1) (s - a.natAbs) (ld || decide (a ≠ 0)) (sx_up v c a) st).2 = false := by simpa using e
      rw [e']
      obtain ⟨cv', cl', e1, e2, e3⟩ := hend false a th2 tot2 cv2 cl2 cn2 r2 r3
      refine ⟨th2, tot2, cv', cl', cn2, ?_, e2, e3, r4⟩
      rw [← e1, sm_tot_u, fn_SE_fill_ch_q100]
      unfold fn_SE_fill_ch_b100
      rw [if_pos (show bI false = 0 by rfl)]
      split <;> rfl
theorem ch_fill_s {k : Nat} (h : se_sys m n A lo hi b ca clo chi) (hrec : ch_fok m n sg A lo hi b tk Rl k rec) :
    ch_fok m n sg A lo hi b tk Rl (k + 1) (fun a1 a2 a3 th tot cv cl cn => sm_tot (fn_SE_fill_ch rec a1 a2 a3 (iI m) (iI n) (bI sg) (iI n) clo chi ca cc) (0, 0, 0, 0, 0, 0, 0, 0, 0, th, tot, cv, cl, cn)) := by
  intro c s ld v st th tot cv cl cn hc hs hz hv hcv hcl hR
  have hn := h.2.1
  have hcb := se_cb h (c := c) (s := s) (by omega) hs hv hcl
  by_cases e : sx_cb m n A b lo hi c s v = true
  · have hst : (sx_step sg ld (decide (k = 0)) s).natAbs ≤ 32 := by
      unfold sx_step
      split
      · split <;> omega
      · omega
    have hfi : (sx_first sg ld (decide (k = 0)) s).natAbs ≤ 100 := by
      unfold sx_first
      split
      · omega
      · split <;> omega
    obtain ⟨th', tot', cv', cl', cn', l1, l2, l3, l4⟩ := ch_loop (cc := cc) (k := k) (c := c) (s := s) (ld := ld) (v := v) (step := sx_step sg ld (decide (k = 0)) s) h hrec hc hs hst hz hv _ _ 0 st th tot cv cl cn sx_lpok_init hfi (by omega) (by rw [sx_up_self (hz c (Nat.le_refl _))]; exact hcv) (by rw [sx_up_self (hz c (Nat.le_refl _))]; exact hcl) hR
    have hfi2 : (sx_fi sg (sx_cb m n A b lo hi) tk (k + 1) c s ld v st) = sx_lp (fun a t => sx_fi sg (sx_cb m n A b lo hi) tk k (c + 1) (s - a.natAbs) (ld || decide (a ≠ 0)) (sx_up v c a) t) (sx_step sg ld (decide (k = 0)) s) (sx_cnt sg ld (decide (k = 0)) s) (sx_first sg ld (decide (k = 0)) s) st := by
      show (if sx_cb m n A b lo hi c s v = true then _ else (st, true)) = _
      rw [if_pos e]
    rw [hfi2]
    refine ⟨th', tot', cv', cl', cn', ?_, l2, l3, l4⟩
    show sm_tot _ _ = _
    rw [← l1, ← ch_pre hs]
    rw [sm_tot_u (0, 0, 0, 0, 0, 0, 0, 0, 0, th, tot, cv, cl, cn), fn_SE_fill_ch_q0]
    unfold fn_SE_fill_ch_b0
    rw [hcb, e, Option.bind_some, bI_1, if_neg (by decide)]
    rw [if_pos (show iI (c : Int) < iI (n : Int) by rw [ii_lt (by omega) (by omega) (by omega) (by omega)]; omega), il_1, ii_sub]
    by_cases hk : k = 0
    · rw [if_pos (show iI (c : Int) = iI ((n : Int) - 1) by congr 1; omega), sm_ev_l, decide_eq_true hk]
      rfl
    · rw [if_neg (show ¬ iI (c : Int) = iI ((n : Int) - 1) by rw [ii_eq (by omega) (by omega) (by omega) (by omega)]; omega), sm_ev_l, decide_eq_false hk]
      rfl
  · have hfi2 : (sx_fi sg (sx_cb m n A b lo hi) tk (k + 1) c s ld v st) = (st, true) := by
      show (if sx_cb m n A b lo hi c s v = true then _ else (st, true)) = _
      rw [if_neg e]
    rw [hfi2]
    refine ⟨th, tot, cv, cl, cn, ?_, hcv, hcl, hR⟩
    show sm_tot _ _ = _
    rw [sm_tot_u, fn_SE_fill_ch_q0]
    unfold fn_SE_fill_ch_b0
    rw [hcb, show sx_cb m n A b lo hi c s v = false from by simpa using e, Option.bind_some, bI_0, if_pos rfl, sm_ev_r]
    rfl
theorem ch_fill (h : se_sys m n A lo hi b ca clo chi) (ht : ch_tok n cc tk Rl) : ∀ (k N : Nat), k < N → ch_fok m n sg A lo hi b tk Rl k (fn_SE_fill_ch_n (iI m) (iI n) (bI sg) (iI n) clo chi ca cc N) := by
  intro k
  induction k with
  | zero =>
    intro N hN
    cases N with
    | zero => omega
    | succ N => exact ch_fill_0 h ht
  | succ k ih =>
    intro N hN
    cases N with
    | zero => omega
    | succ N => exact ch_fill_s h (ih N (by omega))
/-- one size -/
def ch_one (m n : Nat) (sg : Bool) (A lo hi : Nat → Nat → Int) (b : Nat → Int) (tk : σ → (Nat → Int) → σ × Bool) (s : Nat) (st : σ) : σ × Bool := sx_fi sg (sx_cb m n A b lo hi) tk n 0 s false sx_z st
theorem ch_run_l {fr bo : Nat} (h : se_sys m n A lo hi b ca clo chi) (ht : ch_tok n cc tk Rl) (hb : bo ≤ 16) :
    ∀ (q s : Nat) (st : σ) (th tot : Int32) (cv cl cn : Nat → Int32), s + q = bo + 1 → se_vp cv sx_z → se_lp m n A b sx_z cl → Rl st th tot cn →
    ∃ th' tot' cv' cl' cn', sm_tot (fn_SE_run_ch (iI fr) (iI bo) (iI m) (iI n) (bI sg) (iI n) clo chi ca cc) (6, 1, iI s, th, tot, cv, cl, cn) = some (th', tot', cv', cl', cn') ∧ se_vp cv' sx_z ∧ Rl (sx_szs (ch_one m n sg A lo hi b tk) q s st).1 th' tot' cn' := by
  have hn := h.2.1
  have e38 : ∀ x y th tot cv cl cn, sm_tot (fn_SE_run_ch (iI fr) (iI bo) (iI m) (iI n) (bI sg) (iI n) clo chi ca cc) (38, x, y, th, tot, cv, cl, cn) = some (th, tot, cv, cl, cn) := fun x y th tot cv cl cn => by rw [sm_tot_u, fn_SE_run_ch_q38]; rfl
  intro q
  induction q with
  | zero =>
    intro s st th tot cv cl cn hs hcv hcl hR
    refine ⟨th, tot, cv, cl, cn, ?_, hcv, hR⟩
    rw [sm_tot_u, fn_SE_run_ch_q6]
    unfold fn_SE_run_ch_b6
    simp (disch := omega) only [ii_lt, if_pos, sm_ev_l, e38]
  | succ q ih =>
    intro s st th tot cv cl cn hs hcv hcl hR
    obtain ⟨th1, tot1, cv1, cl1, cn1, r1, r2, r3, r4⟩ := ch_fill (sg := sg) h ht n 7 (by omega) 0 s false sx_z st th tot cv cl cn (by omega) (by omega) (fun _ _ => rfl) (fun _ => Nat.zero_le _) hcv hcl hR
    have hbs : sm_tot fn_CH_beginSize 0 = some () := by rw [sm_tot_u, fn_CH_beginSize_q0]; rfl
    have hst : sm_tot (fn_SE_run_ch (iI fr) (iI bo) (iI m) (iI n) (bI sg) (iI n) clo chi ca cc) (6, 1, iI s, th, tot, cv, cl, cn) = sm_tot (fn_SE_run_ch (iI fr) (iI bo) (iI m) (iI n) (bI sg) (iI n) clo chi ca cc) (6, bI (ch_one m n sg A lo hi b tk s st).2, iI ((s + 1 : Nat) : Int), th1, tot1, cv1, cl1, cn1) := by
      rw [sm_tot_u, fn_SE_run_ch_q6]
      unfold fn_SE_run_ch_b6
      rw [hbs, Option.bind_some]
      have r1' : fn_SE_fill_ch_n (iI m) (iI n) (bI sg) (iI n) clo chi ca cc 7 0 (iI s) 0 th tot cv cl cn = _ := r1
      rw [r1', Option.bind_some, if_neg (show ¬ iI (bo : Int) < iI (s : Int) by rw [ii_lt (by omega) (by omega) (by omega) (by omega)]; omega), if_neg (show ¬ (1 : Int32) = 0 by decide), sm_ev_l, il_1, ii_add]
      rfl
    rw [hst, sx_szs_succ]
    by_cases e : (ch_one m n sg A lo hi b tk s st).2 = true
    · rw [if_pos e, e, bI_1]
      exact ih (s + 1) _ th1 tot1 cv1 cl1 cn1 (by omega) r2 r3 r4
    · have e' : (ch_one m n sg A lo hi b tk s st).2 = false := by simpa using e
      rw [if_neg e, e']
      refine ⟨th1, tot1, cv1, cl1, cn1, ?_, r2, r4⟩
      rw [sm_tot_u, fn_SE_run_ch_q6]
      unfold fn_SE_run_ch_b6
      rw [if_pos (show bI false = 0 by rfl)]
      split <;> rw [sm_ev_l, e38]
end CHF
