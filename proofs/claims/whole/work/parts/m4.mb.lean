/-! the best one: the reference -/
section MBB
variable {n : Nat} {cw cn : Nat → Int32} {v w : Nat → Int}
theorem mb_before_l (hn : n ≤ 6) (hv : ∀ c, c < n → cw c = iI (v c) ∧ (v c).natAbs ≤ 1000) (hw : ∀ c, c < n → cn c = iI (w c) ∧ (w c).natAbs ≤ 1000) : ∀ d c, c + d = n → sm_tot (fn_MO_isBefore (iI n) cn cw) (2, iI c, 0) = some (bI (sx_bef v w d c)) := by
  have e59 : ∀ (t : Bool) a, sm_tot (fn_MO_isBefore (iI n) cn cw) (59, a, bI t) = some (bI t) := fun t a => by
    rw [sm_tot_u, fn_MO_isBefore_q59]
    unfold fn_MO_isBefore_b59
    rw [if_pos bI_01, sm_ev_r]
  have e58 : ∀ a b, sm_tot (fn_MO_isBefore (iI n) cn cw) (58, a, b) = some (bI false) := fun a b => by
    rw [sm_tot_u, fn_MO_isBefore_q58]
    exact e59 false 0
  intro d
  induction d with
  | zero =>
    intro c hd
    have e : c = n := by omega
    subst e
    rw [sm_tot_u, fn_MO_isBefore_q2]
    unfold fn_MO_isBefore_b2
    simp (disch := omega) only [ii_le, if_pos, sm_ev_l]
    rw [sm_tot_u, fn_MO_isBefore_q31]
    unfold fn_MO_isBefore_b31
    simp (disch := omega) only [ii_le, if_pos, sm_ev_l]
    exact e58 0 0
  | succ d ih =>
    intro c hd
    obtain ⟨h1, r1⟩ := hv c (by omega)
    obtain ⟨h2, r2⟩ := hw c (by omega)
    have i2 : ((c : Int)).toNat = c := by omega
    have h3 : sm_tot (fn_MO_isBefore (iI n) cn cw) (2, iI ((c : Int) + 1), 0) = _ := ih (c + 1) (by omega)
    rw [sm_tot_u, fn_MO_isBefore_q2]
    unfold fn_MO_isBefore_b2
    simp (disch := omega) only [il_0, il_1, ii_le, ii_lt, ii_eq, ii_add, ii_nat, i2, h1, h2, if_pos, if_neg]
    show _ = some (bI (if v c = w c then sx_bef v w d (c + 1) else decide (v c < w c)))
    by_cases e : v c = w c
    · rw [if_pos e, if_pos e, sm_ev_l]
      exact h3
    · rw [if_neg e, if_neg e, sm_ev_l, sm_tot_u, fn_MO_isBefore_q31]
      unfold fn_MO_isBefore_b31
      simp (disch := omega) only [il_0, il_1, ii_le, ii_lt, ii_eq, ii_add, ii_nat, i2, h1, h2, if_pos, if_neg]
      by_cases e2 : w c ≤ v c
      · rw [if_pos e2, sm_ev_l, decide_eq_false (by omega)]
        exact e58 _ _
      · rw [if_neg e2, sm_ev_l, decide_eq_true (by omega)]
        exact e59 true _
theorem mb_before (hn : n ≤ 6) (hv : ∀ c, c < n → cw c = iI (v c) ∧ (v c).natAbs ≤ 1000) (hw : ∀ c, c < n → cn c = iI (w c) ∧ (w c).natAbs ≤ 1000) : sm_tot (fn_MO_isBefore (iI n) cn cw) (0, 0, 0) = some (bI (sx_bef v w n 0)) := by
  rw [sm_tot_u, fn_MO_isBefore_q0]
  exact mb_before_l hn hv hw n 0 (by omega)
end MBB
/-- isBest so far, price, vector as the reference has them -/
def mb_rel (n : Nat) (b0 : Nat → Int32) (st : Option ((Nat → Int) × Int)) (fo pr : Int32) (cn : Nat → Int32) : Prop := fo = bI st.isSome ∧ (st = none → pr = 0 ∧ cn = b0) ∧ ∀ w q, st = some (w, q) → pr = iI q ∧ q.natAbs ≤ 1000000 ∧ (∀ c, c < n → cn c = iI (w c)) ∧ ∀ j, (w j).natAbs ≤ 16
def mb_tk (m n : Nat) (A : Nat → Nat → Int) (b co : Nat → Int) (st : Option ((Nat → Int) × Int)) (x : Nat → Int) : Option ((Nat → Int) × Int) × Bool := if sx_sol m n A b x = true then sx_tB n co st x else (st, true)
section MBX
variable {m n bo : Nat} {cu cc : Nat → Int32} {A : Nat → Nat → Int} {b co : Nat → Int}
theorem mb_price (hn : n ≤ 6) (hc : ∀ c, c < n → cc c = iI (co c)) {x : Nat → Int} {cw : Nat → Int32} (hv : se_vp cw x) {x2 x3 x4 th ib : Int32} {ub : Nat → Int32} : ∀ d c, c + d = n → sm_tot (fn_MO_best (iI bo) 1 (iI m) (iI n) cu cc) (89, x2, x3, x4, 0, iI (sx_dt co x c), iI c, 0, th, ib, ub, cw) = sm_tot (fn_MO_best (iI bo) 1 (iI m) (iI n) cu cc) (89, x2, x3, x4, 0, iI (sx_dt co x n), iI n, 0, th, ib, ub, cw) := by
  intro d
  induction d with
  | zero =>
    intro c hd
    have e : c = n := by omega
    subst e
    rfl
  | succ d ih =>
    intro c hd
    have h1 := hc c (by omega)
    have h2 := hv c (by omega)
    have i2 : ((c : Int)).toNat = c := by omega
    rw [← ih (c + 1) (by omega), sm_tot_u (89, x2, x3, x4, 0, iI (sx_dt co x c), iI c, 0, th, ib, ub, cw), fn_MO_best_q89]
    unfold fn_MO_best_b89
    simp (disch := omega) only [il_0, il_1, ii_le, ii_lt, ii_add, ii_mul, ii_nat, i2, h1, h2, if_pos, if_neg, sm_ev_l]
    rfl
theorem mb_copy (hn : n ≤ 6) {x : Nat → Int} {cw : Nat → Int32} (hv : se_vp cw x) {x4 x6 th ib : Int32} : ∀ d c (ub : Nat → Int32), c + d = n → (∀ j, j < c → ub j = iI (x j)) → ∃ ub', sm_tot (fn_MO_best (iI bo) 1 (iI m) (iI n) cu cc) (150, 0, 0, x4, 0, x6, iI c, 0, th, ib, ub, cw) = sm_tot (fn_MO_best (iI bo) 1 (iI m) (iI n) cu cc) (184, 1, x6, x4, 0, 0, 0, 0, th, ib, ub', cw) ∧ ∀ j, j < n → ub' j = iI (x j) := by
  intro d
  induction d with
  | zero =>
    intro c ub hd hu
    have e : c = n := by omega
    subst e
    refine ⟨ub, ?_, hu⟩
    rw [sm_tot_u, fn_MO_best_q150]
    unfold fn_MO_best_b150
    simp (disch := omega) only [ii_le, if_pos, sm_ev_l]
  | succ d ih =>
    intro c ub hd hu
    have h2 := hv c (by omega)
    have i2 : ((c : Int)).toNat = c := by omega
    obtain ⟨ub', u1, u2⟩ := ih (c + 1) (upd ub c (iI (x c))) (by omega) (fun j hj => by
      show (if j = c then iI (x c) else ub j) = _
      by_cases e : j = c
      · rw [if_pos e, e]
      · rw [if_neg e]; exact hu j (by omega))
    refine ⟨ub', ?_, u2⟩
    rw [← u1, sm_tot_u, fn_MO_best_q150]
    unfold fn_MO_best_b150
    simp (disch := omega) only [il_0, il_1, ii_le, ii_lt, ii_add, ii_nat, i2, h2, if_pos, if_neg, sm_ev_l]
    rfl
theorem mb_184 (hn : n ≤ 6) {s : Nat} (hs : s ≤ 16) {x : Nat → Int} (hx : ∀ j, (x j).natAbs ≤ 16) (h0 : s = 0 → ∀ j, x j = 0) {x2 x3 th ib : Int32} {ub cw : Nat → Int32} (hv : se_vp cw x) :
    ∃ cw', sm_tot (fn_MO_best (iI bo) 1 (iI m) (iI n) cu cc) (184, x2, x3, iI s, 0, 0, 0, 0, th, ib, ub, cw) = sm_tot (fn_MO_best (iI bo) 1 (iI m) (iI n) cu cc) (66, x2, x3, iI s, bI (sx_sc false n n x).isSome, 0, 0, 0, th, ib, ub, cw') ∧ se_vp cw' ((sx_sc false n n x).getD x) := by
  have e202 : ∀ (q : Bool) a b c cw, sm_tot (fn_MO_best (iI bo) 1 (iI m) (iI n) cu cc) (202, x2, x3, iI s, a, b, c, bI q, th, ib, ub, cw) = sm_tot (fn_MO_best (iI bo) 1 (iI m) (iI n) cu cc) (66, x2, x3, iI s, bI q, 0, 0, 0, th, ib, ub, cw) := fun q a b c cw => by rw [sm_tot_u, fn_MO_best_q202]; rfl
  have e201 : ∀ a b c d cw, sm_tot (fn_MO_best (iI bo) 1 (iI m) (iI n) cu cc) (201, x2, x3, iI s, a, b, c, d, th, ib, ub, cw) = sm_tot (fn_MO_best (iI bo) 1 (iI m) (iI n) cu cc) (66, x2, x3, iI s, bI false, 0, 0, 0, th, ib, ub, cw) := fun a b c d cw => by
    rw [sm_tot_u, fn_MO_best_q201]
    exact e202 false 0 0 0 cw
  by_cases hz : s = 0
  · have hn0 : sx_sc false n n x = none := sx_sc_zero (h0 hz) n
    rw [hn0]
    refine ⟨cw, ?_, hv⟩
    rw [sm_tot_u, fn_MO_best_q184]
    unfold fn_MO_best_b184
    rw [if_pos (show iI (s : Int) ≤ 0 by rw [il_0, ii_le (by omega) (by omega) (by omega) (by omega)]; omega), sm_ev_l]
    exact e201 _ _ _ _ _
  · obtain ⟨u', a1, a2⟩ := mo_next (sg := false) hn (fun j => Nat.le_trans (hx j) (by omega)) hv
    have a1' : sm_tot (fn_MO_next 0 (iI n)) (0, 0, 0, 0, 0, 0, 0, 0, 0, 0, cw) = some (bI (sx_sc false n n x).isSome, u') := a1
    refine ⟨u', ?_, a2⟩
    rw [sm_tot_u, fn_MO_best_q184]
    unfold fn_MO_best_b184
    rw [if_neg (show ¬ iI (s : Int) ≤ 0 by rw [il_0, ii_le (by omega) (by omega) (by omega) (by omega)]; omega), a1', Option.bind_some]
    cases (sx_sc false n n x).isSome with
    | true => rw [if_neg (show ¬ bI true = 0 by decide), sm_ev_l]; exact e202 true 0 0 0 u'
    | false => rw [if_pos (show bI false = 0 from rfl), sm_ev_l]; exact e201 _ _ _ _ _
/-- one vector -/
theorem mb_66 (h : mo_sys m n A b cu) (hc : ∀ c, c < n → cc c = iI (co c) ∧ (co c).natAbs ≤ 99) {s : Nat} (hs : s ≤ 16) {x : Nat → Int} (hx : ∀ j, (x j).natAbs ≤ 16) (h0 : s = 0 → ∀ j, x j = 0) {st : Option ((Nat → Int) × Int)} {x2 x3 th ib : Int32} {b0 ub cw : Nat → Int32} (hv : se_vp cw x) (hR : mb_rel n b0 st x2 x3 ub) :
    ∃ x2' x3' ub' cw', sm_tot (fn_MO_best (iI bo) 1 (iI m) (iI n) cu cc) (66, x2, x3, iI s, 1, 0, 0, 0, th, ib, ub, cw) = sm_tot (fn_MO_best (iI bo) 1 (iI m) (iI n) cu cc) (66, x2', x3', iI s, bI (sx_sc false n n x).isSome, 0, 0, 0, th, ib, ub', cw') ∧ se_vp cw' ((sx_sc false n n x).getD x) ∧ mb_rel n b0 (mb_tk m n A b co st x).1 x2' x3' ub' := by
  obtain ⟨m1, m2, m3, m4⟩ := h
  have hso : sm_tot (fn_MO_solves 6 cw 1 (iI m) (iI n) cu) (0, 0, 0, 0, 0, 0, 0) = some (bI (sx_sol m n A b x)) := mo_solves (wb := true) m1 m2 m3 m4 (fun c hc => ⟨hv c (by omega), Nat.le_trans (hx c) (by omega)⟩)
  have hkeep : ∀ y2 y3 ub1, mb_rel n b0 (mb_tk m n A b co st x).1 y2 y3 ub1 → sm_tot (fn_MO_best (iI bo) 1 (iI m) (iI n) cu cc) (66, x2, x3, iI s, 1, 0, 0, 0, th, ib, ub, cw) = sm_tot (fn_MO_best (iI bo) 1 (iI m) (iI n) cu cc) (184, y2, y3, iI s, 0, 0, 0, 0, th, ib, ub1, cw) → ∃ x2' x3' ub' cw', sm_tot (fn_MO_best (iI bo) 1 (iI m) (iI n) cu cc) (66, x2, x3, iI s, 1, 0, 0, 0, th, ib, ub, cw) = sm_tot (fn_MO_best (iI bo) 1 (iI m) (iI n) cu cc) (66, x2', x3', iI s, bI (sx_sc false n n x).isSome, 0, 0, 0, th, ib, ub', cw') ∧ se_vp cw' ((sx_sc false n n x).getD x) ∧ mb_rel n b0 (mb_tk m n A b co st x).1 x2' x3' ub' := fun y2 y3 ub1 k1 k2 => by
    obtain ⟨cw', c1, c2⟩ := mb_184 (m := m) (bo := bo) (cu := cu) (cc := cc) (x2 := y2) (x3 := y3) (th := th) (ib := ib) (ub := ub1) m2 hs hx h0 hv
    exact ⟨y2, y3, ub1, cw', k2.trans c1, c2, k1⟩
  have h66 : sm_tot (fn_MO_best (iI bo) 1 (iI m) (iI n) cu cc) (66, x2, x3, iI s, 1, 0, 0, 0, th, ib, ub, cw) = if sx_sol m n A b x = true then sm_tot (fn_MO_best (iI bo) 1 (iI m) (iI n) cu cc) (89, x2, x3, iI s, 0, 0, 0, 0, th, ib, ub, cw) else sm_tot (fn_MO_best (iI bo) 1 (iI m) (iI n) cu cc) (184, x2, x3, iI s, 0, 0, 0, 0, th, ib, ub, cw) := by
    rw [sm_tot_u, fn_MO_best_q66]
    unfold fn_MO_best_b66
    rw [if_neg (show ¬ (1 : Int32) = 0 by decide), hso, Option.bind_some]
    cases sx_sol m n A b x with
    | true => rw [if_neg (show ¬ bI true = 0 by decide), if_pos rfl, sm_ev_l]
    | false => rw [if_pos (show bI false = 0 from rfl), if_neg (show ¬ (false = true) by decide), sm_ev_l]
  by_cases hsx : sx_sol m n A b x = true
  · have htk : (mb_tk m n A b co st x).1 = (sx_tB n co st x).1 := by unfold mb_tk; rw [if_pos hsx]
    rw [if_pos hsx] at h66
    have h89 : sm_tot (fn_MO_best (iI bo) 1 (iI m) (iI n) cu cc) (89, x2, x3, iI s, 0, 0, 0, 0, th, ib, ub, cw) = _ := mb_price (m := m) (bo := bo) (cu := cu) (x2 := x2) (x3 := x3) (x4 := iI s) (th := th) (ib := ib) (ub := ub) m2 (fun c hc2 => (hc c hc2).1) hv n 0 (by omega)
    have hb := sx_dt_bd2 (a' := co) (v := x) (n := n) (N := 99) (M := 16) (fun j hj => (hc j hj).2) (fun j _ => hx j) n (Nat.le_refl _)
    have hb2 : n * (99 * 16) ≤ 6 * (99 * 16) := Nat.mul_le_mul_right _ m2
    obtain ⟨ub', u1, u2⟩ := mb_copy (m := m) (bo := bo) (cu := cu) (cc := cc) (x4 := iI s) (x6 := iI (sx_dt co x n)) (th := th) (ib := ib) m2 hv n 0 ub (by omega) (fun j hj => by omega)
    have h147 : sm_tot (fn_MO_best (iI bo) 1 (iI m) (iI n) cu cc) (147, 0, 0, iI s, 0, iI (sx_dt co x n), 0, 0, th, ib, ub, cw) = sm_tot (fn_MO_best (iI bo) 1 (iI m) (iI n) cu cc) (184, 1, iI (sx_dt co x n), iI s, 0, 0, 0, 0, th, ib, ub', cw) := by
      rw [← u1, sm_tot_u, fn_MO_best_q147]
      rfl
    have hnew : mb_rel n b0 (some (x, sx_dt co x n)) 1 (iI (sx_dt co x n)) ub' := ⟨rfl, (fun e => by cases e), fun w q e => by
      cases e
      exact ⟨rfl, by omega, u2, hx⟩⟩
    obtain ⟨f1, f2, f3⟩ := hR
    rw [sm_tot_u, fn_MO_best_q89] at h89
    have h89' := h89
    cases st with
    | none =>
      refine hkeep 1 _ ub' (by rw [htk]; exact hnew) ?_
      rw [h66, ← h147]
      refine (sm_tot_u _).trans ((congrArg _ (fn_MO_best_q89 ..)).trans (h89.trans ?_))
      rw [sm_tot_u, fn_MO_best_q89]
      unfold fn_MO_best_b89
      rw [if_pos (show iI (n : Int) ≤ iI (n : Int) by rw [ii_le (by omega) (by omega) (by omega) (by omega)]; omega), f1, if_pos (show bI (none : Option ((Nat → Int) × Int)).isSome = 0 from rfl), sm_ev_l]
    | some wq =>
      obtain ⟨w, q⟩ := wq
      obtain ⟨g1, g2, g3, g4⟩ := f3 w q rfl
      have hbf := mb_before (n := n) (cw := cw) (cn := ub) (v := x) (w := w) m2 (fun c hc2 => ⟨hv c (by omega), Nat.le_trans (hx c) (by omega)⟩) (fun c hc2 => ⟨g3 c (by omega), Nat.le_trans (g4 c) (by omega)⟩)
      have hgo : sm_tot (fn_MO_best (iI bo) 1 (iI m) (iI n) cu cc) (66, x2, x3, iI s, 1, 0, 0, 0, th, ib, ub, cw) = if sx_dt co x n < q ∨ (sx_dt co x n = q ∧ sx_bef x w n 0 = true) then sm_tot (fn_MO_best (iI bo) 1 (iI m) (iI n) cu cc) (147, 0, 0, iI s, 0, iI (sx_dt co x n), 0, 0, th, ib, ub, cw) else sm_tot (fn_MO_best (iI bo) 1 (iI m) (iI n) cu cc) (184, x2, x3, iI s, 0, 0, 0, 0, th, ib, ub, cw) := by
        rw [h66]
        refine (sm_tot_u _).trans ((congrArg _ (fn_MO_best_q89 ..)).trans (h89.trans ?_))
        rw [sm_tot_u, fn_MO_best_q89]
        unfold fn_MO_best_b89
        rw [if_pos (show iI (n : Int) ≤ iI (n : Int) by rw [ii_le (by omega) (by omega) (by omega) (by omega)]; omega), f1, if_neg (show ¬ bI (some (w, q) : Option ((Nat → Int) × Int)).isSome = 0 from (show ¬ bI true = 0 by decide)), hbf, Option.bind_some, g1]
        simp (disch := omega) only [ii_lt, ii_eq]
        by_cases e1 : sx_dt co x n < q
        · rw [if_pos e1, if_pos (Or.inl e1), sm_ev_l]
        · rw [if_neg e1]
          by_cases e2 : sx_dt co x n = q
          · rw [if_pos e2]
            cases e3 : sx_bef x w n 0 with
            | true => rw [if_neg (show ¬ bI true = 0 by decide), if_pos (Or.inr ⟨e2, rfl⟩), sm_ev_l]
            | false => rw [if_pos (show bI false = 0 from rfl), if_neg (fun z => z.elim e1 (fun y => by cases y.2)), sm_ev_l]
          · rw [if_neg e2, if_neg (fun z => z.elim e1 (fun y => e2 y.1)), sm_ev_l]
      by_cases e : sx_dt co x n < q ∨ (sx_dt co x n = q ∧ sx_bef x w n 0 = true)
      · rw [if_pos e, h147] at hgo
        refine hkeep 1 _ ub' ?_ hgo
        rw [htk]
        show mb_rel n b0 (if _ then _ else _) _ _ _
        rw [if_pos e]
        exact hnew
      · rw [if_neg e] at hgo
        refine hkeep x2 x3 ub ?_ hgo
        rw [htk]
        show mb_rel n b0 (if _ then _ else _) _ _ _
        rw [if_neg e]
        exact ⟨f1, f2, f3⟩
  · rw [if_neg hsx] at h66
    refine hkeep x2 x3 ub ?_ h66
    unfold mb_tk
    rw [if_neg hsx]
    exact hR
theorem mb_tk2 {st : Option ((Nat → Int) × Int)} {x : Nat → Int} : (mb_tk m n A b co st x).2 = true := by
  unfold mb_tk
  split <;> rfl
/-- all vectors of a size -/
theorem mb_inner (h : mo_sys m n A b cu) (hc : ∀ c, c < n → cc c = iI (co c) ∧ (co c).natAbs ≤ 99) {s : Nat} (hs : s ≤ 16) {th ib : Int32} {b0 : Nat → Int32} : ∀ (E : List (Nat → Int)) (x : Nat → Int) (st : Option ((Nat → Int) × Int)) (x2 x3 : Int32) (ub cw : Nat → Int32), sx_Lk (sx_sc false n n) E x → (∀ y, y ∈ E → (∀ j, (y j).natAbs ≤ 16) ∧ (s = 0 → ∀ j, y j = 0)) → se_vp cw x → mb_rel n b0 st x2 x3 ub →
    ∃ x2' x3' ub' cw', sm_tot (fn_MO_best (iI bo) 1 (iI m) (iI n) cu cc) (66, x2, x3, iI s, 1, 0, 0, 0, th, ib, ub, cw) = sm_tot (fn_MO_best (iI bo) 1 (iI m) (iI n) cu cc) (46, x2', x3', iI ((s + 1 : Nat) : Int), 0, 0, 0, 0, th, ib, ub', cw') ∧ mb_rel n b0 (sx_fo (mb_tk m n A b co) E st).1 x2' x3' ub' ∧ (sx_fo (mb_tk m n A b co) E st).2 = true := by
  have f1 : ∀ x2 x3 ub cw, sm_tot (fn_MO_best (iI bo) 1 (iI m) (iI n) cu cc) (66, x2, x3, iI s, bI false, 0, 0, 0, th, ib, ub, cw) = sm_tot (fn_MO_best (iI bo) 1 (iI m) (iI n) cu cc) (46, x2, x3, iI ((s + 1 : Nat) : Int), 0, 0, 0, 0, th, ib, ub, cw) := fun x2 x3 ub cw => by
    rw [sm_tot_u, fn_MO_best_q66]
    unfold fn_MO_best_b66
    rw [if_pos (show bI false = 0 from rfl), sm_ev_l, il_1, ii_add]
    rfl
  intro E
  induction E with
  | nil => intro x st x2 x3 ub cw hc2; exact hc2.elim
  | cons y r ih =>
    intro x st x2 x3 ub cw hc2 hE hv hR
    obtain ⟨y1, y2⟩ := hE y List.mem_cons_self
    cases r with
    | nil =>
      obtain ⟨rfl, hnx⟩ := hc2
      obtain ⟨x2', x3', ub', cw', a1, a2, a3⟩ := mb_66 (bo := bo) (th := th) (ib := ib) h hc hs y1 y2 hv hR
      refine ⟨x2', x3', ub', cw', ?_, ?_, ?_⟩
      · rw [a1, hnx]
        exact f1 _ _ _ _
      · rw [sx_fo_one]; exact a3
      · rw [sx_fo_one]; exact mb_tk2
    | cons z r =>
      obtain ⟨rfl, hnx, hc3⟩ := hc2
      obtain ⟨x2', x3', ub', cw', a1, a2, a3⟩ := mb_66 (bo := bo) (th := th) (ib := ib) h hc hs y1 y2 hv hR
      rw [hnx] at a1 a2
      rw [sx_fo_cons, if_pos mb_tk2, a1]
      exact ih z _ x2' x3' ub' cw' hc3 (fun q hq => hE q (List.mem_cons_of_mem _ hq)) a2 a3
theorem mb_most (hn : n ≤ 6) : sm_tot (fn_MO_most (iI bo) (iI n)) (0, 0) = some (iI ((if n = 0 then 0 else bo : Nat) : Int)) := by
  rw [sm_tot_u, fn_MO_most_q0]
  unfold fn_MO_most_b0
  simp (disch := omega) only [il_0, ii_eq]
  by_cases e : n = 0
  · rw [if_pos (by omega), if_pos e, sm_ev_l, sm_tot_u, fn_MO_most_q12]; rfl
  · rw [if_neg (by omega), if_neg e, sm_ev_l, sm_tot_u, fn_MO_most_q12]; rfl
def mb_szs (m n : Nat) (A : Nat → Nat → Int) (b co : Nat → Int) (q s : Nat) (st : Option ((Nat → Int) × Int)) : Option ((Nat → Int) × Int) × Bool := sx_szs (fun s st => sx_fo (mb_tk m n A b co) (sx_E false n 0 s sx_z) st) q s st
theorem mb_outer (h : mo_sys m n A b cu) (hc : ∀ c, c < n → cc c = iI (co c) ∧ (co c).natAbs ≤ 99) (hb : bo ≤ 16) {th ib : Int32} {b0 : Nat → Int32} : ∀ (q s : Nat) (st : Option ((Nat → Int) × Int)) (x2 x3 : Int32) (ub cw : Nat → Int32), s + q = (if n = 0 then 0 else bo) + 1 → mb_rel n b0 st x2 x3 ub →
    ∃ x2' x3' ub' cw', sm_tot (fn_MO_best (iI bo) 1 (iI m) (iI n) cu cc) (46, x2, x3, iI s, 0, 0, 0, 0, th, ib, ub, cw) = sm_tot (fn_MO_best (iI bo) 1 (iI m) (iI n) cu cc) (46, x2', x3', iI (((if n = 0 then 0 else bo) + 1 : Nat) : Int), 0, 0, 0, 0, th, ib, ub', cw') ∧ mb_rel n b0 (mb_szs m n A b co q s st).1 x2' x3' ub' := by
  have hn := h.2.1
  have hmo := mb_most (bo := bo) hn
  have hmb : (if n = 0 then 0 else bo : Nat) ≤ 16 := by split <;> omega
  intro q
  induction q with
  | zero =>
    intro s st x2 x3 ub cw hs hR
    have e : s = (if n = 0 then 0 else bo) + 1 := by omega
    subst e
    exact ⟨x2, x3, ub, cw, rfl, hR⟩
  | succ q ih =>
    intro s st x2 x3 ub cw hs hR
    have hs16 : s ≤ 16 := by omega
    have hn0 : n = 0 → s = 0 := fun e => by rw [if_pos e] at hs; omega
    obtain ⟨u', b1, b2⟩ := mo_begin (sg := false) (s := s) hn hn0 cw
    have b1' : sm_tot (fn_MO_begin (iI s) 0 (iI n)) (0, 0, cw) = some u' := b1
    have hch : sx_Lk (sx_sc false n n) (sx_E false n 0 s sx_z) (if n = 0 then sx_z else sx_sp false n 0 s sx_z) := by
      by_cases e : n = 0
      · subst e
        rw [if_pos rfl, hn0 rfl]
        exact ⟨rfl, rfl⟩
      · rw [if_neg e]
        obtain ⟨k, rfl⟩ : ∃ k, n = k + 1 := ⟨n - 1, by omega⟩
        exact sx_E_ch k 0 s sx_z (by omega)
    have hmem : ∀ y, y ∈ sx_E false n 0 s sx_z → (∀ j, (y j).natAbs ≤ 16) ∧ (s = 0 → ∀ j, y j = 0) := fun y hy => by
      obtain ⟨p1, p2, -⟩ := sx_E_mem.mp hy
      have key : ∀ j, (y j).natAbs ≤ s := fun j => by
        by_cases e : j < n
        · have := sx_sz_ge (w := y) (k := n) (c := 0) (j := j) (by omega) (by omega)
          omega
        · rw [p1 j (by omega)]; exact Nat.zero_le _
      exact ⟨fun j => Nat.le_trans (key j) hs16, fun e j => by have := key j; omega⟩
    obtain ⟨x2', x3', ub', cw', i1, i2, i3⟩ := mb_inner (bo := bo) (th := th) (ib := ib) (b0 := b0) h hc hs16 _ _ st x2 x3 ub u' hch hmem b2 hR
    have h46 : sm_tot (fn_MO_best (iI bo) 1 (iI m) (iI n) cu cc) (46, x2, x3, iI s, 0, 0, 0, 0, th, ib, ub, cw) = sm_tot (fn_MO_best (iI bo) 1 (iI m) (iI n) cu cc) (46, x2', x3', iI ((s + 1 : Nat) : Int), 0, 0, 0, 0, th, ib, ub', cw') := by
      rw [← i1, sm_tot_u, fn_MO_best_q46]
      unfold fn_MO_best_b46
      rw [hmo, Option.bind_some, if_neg (show ¬ iI ((if n = 0 then 0 else bo : Nat) : Int) < iI (s : Int) by rw [ii_lt (by omega) (by omega) (by omega) (by omega)]; omega), b1', Option.bind_some, sm_ev_l]
    obtain ⟨y2, y3, y4, y5, j1, j2⟩ := ih (s + 1) _ x2' x3' ub' cw' (by omega) i2
    refine ⟨y2, y3, y4, y5, h46.trans j1, ?_⟩
    have : mb_szs m n A b co (q + 1) s st = mb_szs m n A b co q (s + 1) (sx_fo (mb_tk m n A b co) (sx_E false n 0 s sx_z) st).1 := by
      unfold mb_szs
      rw [sx_szs_succ, if_pos i3]
    rw [this]
    exact j2
theorem sx_fo_congr {σ α : Type} {t1 t2 : σ → α → σ × Bool} : ∀ (L : List α) (t : σ), (∀ x, x ∈ L → ∀ u, t1 u x = t2 u x) → sx_fo t1 L t = sx_fo t2 L t := by
  intro L
  induction L with
  | nil => intro t _; rfl
  | cons x r ih =>
    intro t h
    rw [sx_fo_cons, sx_fo_cons, h x List.mem_cons_self t]
    split
    · exact ih _ (fun y hy => h y (List.mem_cons_of_mem _ hy))
    · rfl
theorem mb_fo (E : List (Nat → Int)) (st : Option ((Nat → Int) × Int)) : sx_fo (mb_tk m n A b co) E st = sx_fo (sx_tB n co) (E.filter (sx_sol m n A b)) st := by
  rw [sx_fo_filter (p := sx_sol m n A b) E st (fun x _ hp u => by unfold mb_tk; rw [if_neg (by rw [hp]; decide)])]
  exact sx_fo_congr _ _ (fun x hx u => by unfold mb_tk; rw [if_pos (List.mem_filter.mp hx).2])
/-- with no columns only size 0 counts -/
theorem sx_bst_0 (k s : Nat) (t : Option ((Nat → Int) × Int)) (hs : 1 ≤ s) : sx_bst m 0 A b co k s t = (t, true) := by
  unfold sx_bst
  induction k generalizing s with
  | zero => rfl
  | succ k ih =>
    rw [sx_szs_succ]
    have h0 : (sx_E false 0 0 s sx_z).filter (sx_sol m 0 A b) = [] := by
      show (if s = 0 then [sx_z] else []).filter _ = []
      rw [if_neg (by omega)]; rfl
    rw [h0]
    exact ih (s + 1) (by omega)
theorem mb_eq : (mb_szs m n A b co ((if n = 0 then 0 else bo) + 1) 0 none) = sx_bst m n A b co (bo + 1) 0 none := by
  have e1 : ∀ k, mb_szs m n A b co k 0 none = sx_bst m n A b co k 0 none := fun k => sx_szs_congr _ _ _ (fun s _ t => mb_fo _ _)
  rw [e1]
  by_cases e : n = 0
  · subst e
    rw [if_pos rfl]
    show sx_bst m 0 A b co (0 + 1) 0 none = _
    have e2 : ∀ k, sx_bst m 0 A b co (k + 1) 0 none = if (sx_fo (sx_tB 0 co) ((sx_E false 0 0 0 sx_z).filter (sx_sol m 0 A b)) none).2 = true then sx_bst m 0 A b co k 1 (sx_fo (sx_tB 0 co) ((sx_E false 0 0 0 sx_z).filter (sx_sol m 0 A b)) none).1 else ((sx_fo (sx_tB 0 co) ((sx_E false 0 0 0 sx_z).filter (sx_sol m 0 A b)) none).1, false) := fun k => rfl
    rw [e2, e2, sx_bst_0 0 1 _ (Nat.le_refl _), sx_bst_0 bo 1 _ (Nat.le_refl _)]
  · rw [if_neg e]
/-- the reference's best -/
theorem mo_best (h : mo_sys m n A b cu) (hc : ∀ c, c < n → cc c = iI (co c) ∧ (co c).natAbs ≤ 99) (hb : bo ≤ 16) {th ib : Int32} (hib : ib = 0 ∨ ib = 1) {ub cw : Nat → Int32} :
    ∃ x3' ub' cw', sm_tot (fn_MO_best (iI bo) 1 (iI m) (iI n) cu cc) (0, 0, 0, 0, 0, 0, 0, 0, th, ib, ub, cw) = some (x3', if (sx_bst m n A b co (bo + 1) 0 none).1.isSome = true then 0 else 3, if (sx_bst m n A b co (bo + 1) 0 none).1.isSome = true then 1 else ib, ub', cw') ∧ mb_rel n ub (sx_bst m n A b co (bo + 1) 0 none).1 (bI (sx_bst m n A b co (bo + 1) 0 none).1.isSome) x3' ub' := by
  have hn := h.2.1
  have hmb : (if n = 0 then 0 else bo : Nat) ≤ 16 := by split <;> omega
  obtain ⟨x2', x3', ub', cw', o1, o2⟩ := mb_outer (th := 0) (ib := ib) (b0 := ub) h hc hb ((if n = 0 then 0 else bo) + 1) 0 none 0 0 ub cw (by omega) ⟨rfl, fun _ => ⟨rfl, rfl⟩, fun w q e => by cases e⟩
  rw [mb_eq] at o2
  refine ⟨x3', ub', cw', ?_, o2.1 ▸ o2⟩
  have h46 : sm_tot (fn_MO_best (iI bo) 1 (iI m) (iI n) cu cc) (0, 0, 0, 0, 0, 0, 0, 0, th, ib, ub, cw) = sm_tot (fn_MO_best (iI bo) 1 (iI m) (iI n) cu cc) (46, 0, 0, iI ((0 : Nat) : Int), 0, 0, 0, 0, 0, ib, ub, cw) := by
    rw [sm_tot_u, fn_MO_best_q0]
    unfold fn_MO_best_b0
    rw [if_neg (show ¬ iI (bo : Int) < 0 by rw [il_0, ii_lt (by omega) (by omega) (by omega) (by omega)]; omega), if_pos (show iI (bo : Int) ≤ 16 by rw [il_16, ii_le (by omega) (by omega) (by omega) (by omega)]; omega), if_neg (show ¬ (1 : Int32) = 0 by decide), sm_ev_l, sm_tot_u, fn_MO_best_q27]
    unfold fn_MO_best_b27
    rw [if_pos (show (0 : Int32) ≤ 0 by decide), sm_ev_l]
    rfl
  rw [h46, o1, sm_tot_u, fn_MO_best_q46]
  unfold fn_MO_best_b46
  rw [mb_most hn, Option.bind_some, if_pos (show iI ((if n = 0 then 0 else bo : Nat) : Int) < iI (((if n = 0 then 0 else bo) + 1 : Nat) : Int) by rw [ii_lt (by omega) (by omega) (by omega) (by omega)]; omega), o2.1]
  have e243 : ∀ (x : Int32), (x = 0 ∨ x = 1) → ∀ th a b c d, sm_tot (fn_MO_best (iI bo) 1 (iI m) (iI n) cu cc) (243, 0, x3', a, b, c, d, x, th, ib, ub', cw') = some (x3', th, x, ub', cw') := fun x hx th a b c d => by
    rw [sm_tot_u, fn_MO_best_q243]
    unfold fn_MO_best_b243
    rw [if_pos hx, sm_ev_r]
  cases (sx_bst m n A b co (bo + 1) 0 none).1.isSome with
  | true =>
    rw [if_neg (show ¬ bI true = 0 by decide), sm_ev_l, sm_tot_u, fn_MO_best_q223]
    unfold fn_MO_best_b223
    rw [if_neg (show ¬ bI true = 0 by decide), if_pos rfl, if_pos rfl]
    have e238 : sm_tot (fn_MO_best (iI bo) 1 (iI m) (iI n) cu cc) (238, 0, x3', 0, 0, 0, 0, 0, 0, ib, ub', cw') = some (x3', 0, 1, ub', cw') := by
      rw [sm_tot_u, fn_MO_best_q238]
      exact e243 1 (Or.inr rfl) 0 0 0 0 0
    split <;> rw [sm_ev_l, e238]
  | false =>
    rw [if_pos (show bI false = 0 from rfl), sm_ev_l, sm_tot_u, fn_MO_best_q223]
    unfold fn_MO_best_b223
    rw [if_pos (show bI false = 0 from rfl), if_neg (show ¬ (false = true) by decide), if_neg (show ¬ (false = true) by decide)]
    rcases hib with rfl | rfl
    · rw [if_pos rfl, sm_ev_l]
      exact e243 0 (Or.inl rfl) 3 0 0 0 0
    · rw [if_neg (show ¬ (1 : Int32) = 0 by decide), sm_ev_l, sm_tot_u, fn_MO_best_q238]
      exact e243 1 (Or.inr rfl) 3 0 0 0 0
end MBX
