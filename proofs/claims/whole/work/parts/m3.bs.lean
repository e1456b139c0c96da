/-! the best one: the class -/
def sx_bst (m n : Nat) (A : Nat → Nat → Int) (b co : Nat → Int) (k s : Nat) (t : Option ((Nat → Int) × Int)) : Option ((Nat → Int) × Int) × Bool :=
  sx_szs (fun s t => sx_fo (sx_tB n co) ((sx_E false n 0 s sx_z).filter (sx_sol m n A b)) t) k s t
section BST
variable {m n nv ns : Nat} {A lo hi : Nat → Nat → Int} {b co : Nat → Int} {ea : Nat → Nat → Int32} {eb cc : Nat → Int32}
theorem ch_one_eq {σ : Type} {tk : σ → (Nat → Int) → σ × Bool} (hlo : ∀ r c j, r < m → c ≤ j → j < n → (false = false → lo r c ≤ A r j ∧ A r j ≤ hi r c) ∧ (false = true → ((A r j).natAbs : Int) ≤ hi r c ∧ lo r c = - hi r c)) (s : Nat) (t : σ) :
    ch_one m n false A lo hi b tk s t = sx_fo tk ((sx_E false n 0 s sx_z).filter (sx_sol m n A b)) t := by
  unfold ch_one
  rw [sx_fi_eq (n := n) (sol := sx_sol m n A b) (fun k c s ld v w hc hv hw hsol => sx_cb_sound hlo hc hv hw hsol) (fun s v h => sx_cb_end h) n 0 s false sx_z t (by omega) (fun _ _ => rfl), sx_F_plain]
theorem ch_begin {x a c : Int32} : sm_tot (fn_CH_begin x) (0, a, c) = some (x, 0) := by
  rw [sm_tot_u, fn_CH_begin_q0]
  rfl
theorem ls_bst (hm : m ≤ 4) (hn : nv + ns ≤ 6) (hA : ∀ r c, r < m → c < nv + ns → ea r c = iI (A r c) ∧ (A r c).natAbs ≤ 20) (hb : ∀ r, r < m → eb r = iI (b r) ∧ (b r).natAbs ≤ 200) (hc : ∀ c, c < nv + ns → cc c = iI (co c) ∧ (co c).natAbs ≤ 99) {bo : Nat} (hbo : bo ≤ 16) (x1 x2 x3 y1 y2 pr : Int32) {cv : Nat → Int32} (clk cn : Nat → Int32) (clo chi ca : Nat → Nat → Int32) (hcv : se_vp cv sx_z) :
    ∃ clk1 clo' chi' ca' pr' fo' cv' clk' cn', sm_tot (fn_LS_needBound (iI bo) 16) 0 = some () ∧ sm_tot (fn_CH_begin (iI ((nv + ns : Nat) : Int))) (0, y1, y2) = some (iI ((nv + ns : Nat) : Int), 0) ∧
      sm_tot (fn_SE_prepare 0 0 (iI m) (iI nv) (iI ns) ea eb) (0, 0, 0, 0, x1, x2, x3, clk, clo, chi, ca) = some (iI m, iI ((nv + ns : Nat) : Int), 0, clk1, clo', chi', ca') ∧
      sm_tot (fn_SE_run_ch 0 (iI bo) (iI m) (iI ((nv + ns : Nat) : Int)) 0 (iI ((nv + ns : Nat) : Int)) clo' chi' ca' cc) (0, 0, 0, pr, 0, cv, clk1, cn) = some (pr', fo', cv', clk', cn') ∧ se_vp cv' sx_z ∧ ch_rel (sx_bst m (nv + ns) A b co (bo + 1) 0 none).1 pr' fo' cn' := by
  obtain ⟨clk1, clo', chi', ca', p1, p2, p3, p4⟩ := se_prep (sg := false) (hom := false) hm hn hA hb x1 x2 x3 clk clo chi ca
  obtain ⟨pr', fo', cv', clk', cn', r1, r2, r3⟩ := ch_run_l (fr := 0) (bo := bo) (sg := false) (cc := cc) (tk := sx_tB (nv + ns) co) (Rl := ch_rel) p2 (ch_take hn hc) hbo (bo + 1) 0 none pr 0 cv clk1 cn (by omega) hcv p3 ⟨rfl, fun w q e => by cases e⟩
  have hR : sx_szs (ch_one m (nv + ns) false A (fun r c => (clo' r c).toInt) (fun r c => (chi' r c).toInt) (se_b false b) (sx_tB (nv + ns) co)) (bo + 1) 0 none = sx_bst m (nv + ns) A b co (bo + 1) 0 none := sx_szs_congr _ _ _ (fun s _ t => ch_one_eq (b := b) p4 s t)
  rw [hR] at r3
  refine ⟨clk1, clo', chi', ca', pr', fo', cv', clk', cn', ls_bound (M := 16) hbo (by omega), ch_begin, p1, ?_, r2, r3⟩
  rw [sm_tot_u, fn_SE_run_ch_q0]
  exact r1
/-- found -/
theorem ls_best (hm : m ≤ 4) (hn : nv + ns ≤ 6) (hA : ∀ r c, r < m → c < nv + ns → ea r c = iI (A r c) ∧ (A r c).natAbs ≤ 20) (hb : ∀ r, r < m → eb r = iI (b r) ∧ (b r).natAbs ≤ 200) (hc : ∀ c, c < nv + ns → cc c = iI (co c) ∧ (co c).natAbs ≤ 99) {bo : Nat} (hbo : bo ≤ 16) {w : Nat → Int} {q : Int} (hq : (sx_bst m (nv + ns) A b co (bo + 1) 0 none).1 = some (w, q)) {hb0 x1 x2 x3 y1 y2 pr : Int32} {cv clk cn bv : Nat → Int32} {clo chi ca : Nat → Nat → Int32} (hcv : se_vp cv sx_z) :
    ∃ cv' clk' clo' chi' ca' cn' bv', sm_tot (fn_LS_best (iI bo) 1 (iI m) (iI nv) (iI ns) cc ea eb) (0, hb0, x1, x2, x3, y1, pr, y2, cv, clk, clo, chi, ca, cn, bv) = some (iI q, 1, iI m, iI ((nv + ns : Nat) : Int), 0, iI ((nv + ns : Nat) : Int), iI q, 1, cv', clk', clo', chi', ca', cn', bv') ∧ se_vp cv' sx_z ∧ se_vp bv' w ∧ q.natAbs ≤ 1000000 ∧ ∀ j, (w j).natAbs ≤ 16 := by
  obtain ⟨clk1, clo', chi', ca', pr', fo', cv', clk', cn', h1, h2, h3, h4, h5, h6, h7⟩ := ls_bst hm hn hA hb hc hbo x1 x2 x3 y1 y2 pr clk cn clo chi ca hcv
  rw [hq] at h6 h7
  obtain ⟨g1, g2, g3, g4⟩ := h7 w q rfl
  refine ⟨cv', clk', clo', chi', ca', cn', va_cpy cn' bv (0 : Int32).toNatClampNeg (0 : Int32).toNatClampNeg (6 : Int32).toNatClampNeg, ?_, h5, fun j hj => ?_, g2, g4⟩
  · rw [sm_tot_u, fn_LS_best_q0]
    unfold fn_LS_best_b0
    rw [h1, Option.bind_some, ls_system, Option.bind_some, eq_columns, Option.bind_some, h2, Option.bind_some, h3, Option.bind_some, h4, Option.bind_some, h6, if_neg (show ¬ bI (some (w, q) : Option ((Nat → Int) × Int)).isSome = 0 from (show ¬ bI true = 0 by decide)), g1, sm_ev_r]
    rfl
  · show (if 0 ≤ j ∧ j < 0 + 6 then cn' (0 + (j - 0)) else bv j) = _
    rw [if_pos (by omega), Nat.zero_add, Nat.sub_zero]
    exact g3 j hj
/-- not found -/
theorem ls_best_N (hm : m ≤ 4) (hn : nv + ns ≤ 6) (hA : ∀ r c, r < m → c < nv + ns → ea r c = iI (A r c) ∧ (A r c).natAbs ≤ 20) (hb : ∀ r, r < m → eb r = iI (b r) ∧ (b r).natAbs ≤ 200) (hc : ∀ c, c < nv + ns → cc c = iI (co c) ∧ (co c).natAbs ≤ 99) {bo : Nat} (hbo : bo ≤ 16) (hq : (sx_bst m (nv + ns) A b co (bo + 1) 0 none).1 = none) {hb0 x1 x2 x3 y1 y2 pr : Int32} {cv clk cn bv : Nat → Int32} {clo chi ca : Nat → Nat → Int32} (hcv : se_vp cv sx_z) :
    ∃ pr' cv' clk' clo' chi' ca' cn', sm_tot (fx_LS_best_N (iI bo) 1 (iI m) (iI nv) (iI ns) cc ea eb) (0, hb0, x1, x2, x3, y1, pr, y2, cv, clk, clo, chi, ca, cn, bv) = some (hb0, iI m, iI ((nv + ns : Nat) : Int), 0, iI ((nv + ns : Nat) : Int), pr', 0, cv', clk', clo', chi', ca', cn', bv) ∧ se_vp cv' sx_z := by
  obtain ⟨clk1, clo', chi', ca', pr', fo', cv', clk', cn', h1, h2, h3, h4, h5, h6, h7⟩ := ls_bst hm hn hA hb hc hbo x1 x2 x3 y1 y2 pr clk cn clo chi ca hcv
  rw [hq] at h6 h7
  refine ⟨pr', cv', clk', clo', chi', ca', cn', ?_, h5⟩
  rw [sm_tot_u, fx_LS_best_N_q0]
  unfold fx_LS_best_N_b0
  rw [h1, Option.bind_some, ls_system, Option.bind_some, eq_columns, Option.bind_some, h2, Option.bind_some, h3, Option.bind_some, h4, Option.bind_some, h6, if_pos (show bI (none : Option ((Nat → Int) × Int)).isSome = 0 from rfl), sm_ev_r]
  rfl
end BST
