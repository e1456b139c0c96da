/-! what may stand behind what; the class's words -/
def ps_ov (s : Nat) : Bool := decide (s = 2) || decide (s = 4)
def ps_nx (s : Nat) (r : Bool) (k : Int) : Option (Nat × Bool) :=
  if k = 1 then (if s < 2 then some (2, r) else none)
  else if k = 2 then (if s = 4 then none else some (4, r))
  else if k = 3 then (if ps_ov s = true then some (1, r) else none)
  else if k = 4 then (if ps_ov s = true ∨ s = 0 then some (1, r) else none)
  else if k = 5 then (if s = 2 then some (3, r) else none)
  else if k = 6 then (if ps_ov s = true ∧ r = true then some (0, false) else none)
  else if k = 7 ∨ k = 8 ∨ k = 9 then (if ps_ov s = true ∧ r = false then some (0, true) else none)
  else none
def ps_ns (q : Option (Nat × Bool)) : Int := match q with
  | none => -1
  | some q => (q.1 : Int)
theorem ps_nx_le {s s' : Nat} {r r' : Bool} {k : Int} (h : ps_nx s r k = some (s', r')) : s' ≤ 4 := by
  unfold ps_nx at h
  repeat' split at h
  all_goals first
    | cases h; done
    | (injection h with h; injection h with h1 h2; omega)
theorem wo_sum {s : Nat} (hs : s ≤ 4) : sm_tot (fn_WO_isSumWhole (iI s)) (0, 0) = some (bI (ps_ov s)) := by
  have e21 : ∀ b : Bool, sm_tot (fn_WO_isSumWhole (iI s)) (21, bI b) = some (bI b) := fun b => by rw [sm_tot_u, fn_WO_isSumWhole_q21]; unfold fn_WO_isSumWhole_b21; rw [if_pos bI_01, sm_ev_r]
  have e16 : ∀ x, sm_tot (fn_WO_isSumWhole (iI s)) (16, x) = some (bI true) := fun x => by rw [sm_tot_u, fn_WO_isSumWhole_q16]; exact e21 true
  rw [sm_tot_u, fn_WO_isSumWhole_q0]
  unfold fn_WO_isSumWhole_b0
  have hc : s = 0 ∨ s = 1 ∨ s = 2 ∨ s = 3 ∨ s = 4 := by omega
  rcases hc with rfl | rfl | rfl | rfl | rfl
  · exact e21 false
  · exact e21 false
  · exact e16 _
  · exact e21 false
  · exact e16 _
section WOA
variable {s : Nat} {r : Bool} {k : Int}
theorem wo_after (hs : s ≤ 4) (hk : 1 ≤ k ∧ k ≤ 10) : sm_tot (fn_WO_stateAfter (iI (ps_ck k)) (iI s) (bI r)) (0, 0) = some (iI (ps_ns (ps_nx s r k))) := by
  have f72 : ∀ x, sm_tot (fn_WO_stateAfter (iI (ps_ck k)) (iI s) (bI r)) (72, x) = some x := fun x => by rw [sm_tot_u, fn_WO_stateAfter_q72]; rfl
  have f67 : ∀ x, sm_tot (fn_WO_stateAfter (iI (ps_ck k)) (iI s) (bI r)) (67, x) = some (iI 2) := fun x => by rw [sm_tot_u, fn_WO_stateAfter_q67]; exact f72 2
  have f86 : ∀ x, sm_tot (fn_WO_stateAfter (iI (ps_ck k)) (iI s) (bI r)) (86, x) = some x := fun x => by rw [sm_tot_u, fn_WO_stateAfter_q86]; rfl
  have f99 : ∀ x, sm_tot (fn_WO_stateAfter (iI (ps_ck k)) (iI s) (bI r)) (99, x) = some x := fun x => by rw [sm_tot_u, fn_WO_stateAfter_q99]; rfl
  have f119 : ∀ x, sm_tot (fn_WO_stateAfter (iI (ps_ck k)) (iI s) (bI r)) (119, x) = some x := fun x => by rw [sm_tot_u, fn_WO_stateAfter_q119]; rfl
  have f114 : ∀ x, sm_tot (fn_WO_stateAfter (iI (ps_ck k)) (iI s) (bI r)) (114, x) = some (iI 1) := fun x => by rw [sm_tot_u, fn_WO_stateAfter_q114]; exact f119 1
  have f133 : ∀ x, sm_tot (fn_WO_stateAfter (iI (ps_ck k)) (iI s) (bI r)) (133, x) = some x := fun x => by rw [sm_tot_u, fn_WO_stateAfter_q133]; rfl
  have f153 : ∀ x, sm_tot (fn_WO_stateAfter (iI (ps_ck k)) (iI s) (bI r)) (153, x) = some x := fun x => by rw [sm_tot_u, fn_WO_stateAfter_q153]; rfl
  have f152 : ∀ x, sm_tot (fn_WO_stateAfter (iI (ps_ck k)) (iI s) (bI r)) (152, x) = some (iI (-1)) := fun x => by rw [sm_tot_u, fn_WO_stateAfter_q152]; exact f153 (-1)
  have f173 : ∀ x, sm_tot (fn_WO_stateAfter (iI (ps_ck k)) (iI s) (bI r)) (173, x) = some x := fun x => by rw [sm_tot_u, fn_WO_stateAfter_q173]; rfl
  have f172 : ∀ x, sm_tot (fn_WO_stateAfter (iI (ps_ck k)) (iI s) (bI r)) (172, x) = some (iI (-1)) := fun x => by rw [sm_tot_u, fn_WO_stateAfter_q172]; exact f173 (-1)
  rw [sm_tot_u, fn_WO_stateAfter_q0]
  unfold fn_WO_stateAfter_b0
  rw [wo_sum hs]
  have hc : s = 0 ∨ s = 1 ∨ s = 2 ∨ s = 3 ∨ s = 4 := by omega
  have hd : k = 1 ∨ k = 2 ∨ k = 3 ∨ k = 4 ∨ k = 5 ∨ k = 6 ∨ k = 7 ∨ k = 8 ∨ k = 9 ∨ k = 10 := by omega
  rcases hd with rfl | rfl | rfl | rfl | rfl | rfl | rfl | rfl | rfl | rfl <;> rcases hc with rfl | rfl | rfl | rfl | rfl <;> cases r <;> first
    | exact f67 _
    | exact f72 _
    | exact f86 _
    | exact f99 _
    | exact f119 _
    | exact f114 _
    | exact f133 _
    | exact f153 _
    | exact f152 _
    | exact f173 _
    | exact f172 _
    | rfl
end WOA
theorem wo_rel {k : Int} (hk : 1 ≤ k ∧ k ≤ 10) : sm_tot (fn_WO_isRelation (iI (ps_ck k))) (0, 0) = some (bI (decide (7 ≤ k ∧ k ≤ 9))) := by
  have e23 : ∀ b : Bool, sm_tot (fn_WO_isRelation (iI (ps_ck k))) (23, bI b) = some (bI b) := fun b => by rw [sm_tot_u, fn_WO_isRelation_q23]; unfold fn_WO_isRelation_b23; rw [if_pos bI_01, sm_ev_r]
  have e18 : ∀ x, sm_tot (fn_WO_isRelation (iI (ps_ck k))) (18, x) = some (bI true) := fun x => by rw [sm_tot_u, fn_WO_isRelation_q18]; exact e23 true
  rw [sm_tot_u, fn_WO_isRelation_q0]
  unfold fn_WO_isRelation_b0
  have hd : k = 1 ∨ k = 2 ∨ k = 3 ∨ k = 4 ∨ k = 5 ∨ k = 6 ∨ k = 7 ∨ k = 8 ∨ k = 9 ∨ k = 10 := by omega
  rcases hd with rfl | rfl | rfl | rfl | rfl | rfl | rfl | rfl | rfl | rfl <;> first
    | exact e23 false
    | exact e18 _
theorem ps_nx_r {s s' : Nat} {r r' : Bool} {k : Int} (h : ps_nx s r k = some (s', r')) : r' = (if 7 ≤ k ∧ k ≤ 9 then true else if k = 6 then false else r) := by
  unfold ps_nx at h
  repeat' split at h
  all_goals first
    | cases h; done
    | (injection h with h
       injection h with h1 h2
       subst h2
       first
         | (rw [if_neg (by omega), if_neg (by omega)]; done)
         | (rw [if_neg (by omega), if_pos (by omega)]; done)
         | (rw [if_pos (by omega)]; done))
section WOS
variable {L : Nat} {t : Nat → Int} {ct : Nat → Int32}
def wo_out (L : Nat) (t : Nat → Int) (i n s : Nat) (r : Bool) (ku pu vu : Nat → Int32) : Int32 × Int32 × Int32 × Int32 × (Nat → Int32) × (Nat → Int32) × (Nat → Int32) := match ps_nx s r (ps_k L t i) with
  | none => (0, iI n, iI s, bI r, ku, pu, vu)
  | some q => (1, iI ((n : Int) + 1), iI q.1, bI q.2, upd ku n (iI (ps_ck (ps_k L t i))), upd pu n (iI i), upd vu n (iI (ps_vl L t i)))
theorem ps_vl_1 {i : Nat} (h : ps_k L t i = 1) : ps_vl L t i = ps_v t (ps_w L t i) i 0 := by
  unfold ps_vl
  cases e : ps_dg (ps_ch L t i) with
  | true => rfl
  | false =>
    exfalso
    unfold ps_k ps_kc at h
    rw [if_neg (show ¬ (ps_dg (ps_ch L t i) = true) by rw [e]; decide)] at h
    repeat' split at h
    all_goals omega
theorem ps_vl_2 {i : Nat} (h : ps_k L t i ≠ 1) (h2 : ps_k L t i ≠ 10) : ps_vl L t i = ps_ch L t i := by
  unfold ps_vl
  cases e : ps_dg (ps_ch L t i) with
  | false => rfl
  | true =>
    exfalso
    unfold ps_k ps_kc at h h2
    rw [if_pos e] at h h2
    split at h
    · omega
    · rename_i q
      rw [if_neg q] at h2
      omega
theorem wo_add (h : tx_ok L t ct) {i n s : Nat} {r : Bool} (hi : i < L) (hn : n < 300) (hs : s ≤ 4) {ku pu vu : Nat → Int32} :
    sm_tot (fn_WO_add (iI i) (iI L) ct) (0, 0, 0, 0, 0, iI n, iI s, bI r, ku, pu, vu) = some (wo_out L t i n s r ku pu vu) := by
  have hL := h.1
  have hw := ps_w_r (t := t) hi
  have hk := ps_kc_r (ps_ch L t i) (ps_w L t i)
  have hk' : 1 ≤ ps_k L t i ∧ ps_k L t i ≤ 10 := hk
  have i2 : ((n : Int)).toNat = n := by omega
  have e38 : ∀ a b c d, sm_tot (fn_WO_add (iI i) (iI L) ct) (38, a, b, c, d, iI n, iI s, bI r, ku, pu, vu) = some (0, iI n, iI s, bI r, ku, pu, vu) := fun a b c d => by rw [sm_tot_u, fn_WO_add_q38]; rfl
  have g1 : ¬ (iI (n : Int) < 0 ∨ 300 ≤ (iI (n : Int)).toNatClampNeg) := by rw [il_0, ii_lt (by omega) (by omega) (by omega) (by omega), ii_nat (by omega) (by omega)]; omega
  have e123 : ∀ a b v x y (z1 z2 z3 : Nat → Int32), sm_tot (fn_WO_add (iI i) (iI L) ct) (123, a, b, v, iI n, iI n, x, y, z1, z2, z3) = some (1, iI ((n : Int) + 1), x, y, z1, z2, upd z3 n v) := fun a b v x y z1 z2 z3 => by
    rw [sm_tot_u, fn_WO_add_q123]
    unfold fn_WO_add_b123
    rw [if_pos g1, ii_nat (by omega) (by omega), i2, sm_ev_r, il_1, ii_add]
  have e75 : ∀ c d x y, ps_k L t i ≠ 10 → sm_tot (fn_WO_add (iI i) (iI L) ct) (75, iI (ps_w L t i), iI (ps_ck (ps_k L t i)), c, d, iI n, x, y, ku, pu, vu) = some (1, iI ((n : Int) + 1), x, y, upd ku n (iI (ps_ck (ps_k L t i))), upd pu n (iI i), upd vu n (iI (ps_vl L t i))) := fun c d x y h10 => by
    rw [sm_tot_u, fn_WO_add_q75]
    unfold fn_WO_add_b75
    rw [if_pos g1, ii_nat (by omega) (by omega), i2, wo_value h hw.2, tx_at h (show i ≤ 1000 by omega), Option.bind_some, Option.bind_some]
    have hck : (iI (ps_ck (ps_k L t i)) = 0) = (ps_k L t i = 1) := by
      unfold ps_ck
      rw [if_neg h10, il_0, ii_eq (by omega) (by omega) (by omega) (by omega)]
      exact propext ⟨fun q => by omega, fun q => by omega⟩
    by_cases q : ps_k L t i = 1
    · rw [if_pos (by rw [hck]; exact q), sm_ev_l, e123, ps_vl_1 q]
    · rw [if_neg (by rw [hck]; exact q), sm_ev_l, e123, ps_vl_2 q h10]
  have e72 : ∀ (b : Bool) d x y, ps_k L t i ≠ 10 → sm_tot (fn_WO_add (iI i) (iI L) ct) (72, iI (ps_w L t i), iI (ps_ck (ps_k L t i)), bI b, d, iI n, x, y, ku, pu, vu) = some (1, iI ((n : Int) + 1), x, bI b, upd ku n (iI (ps_ck (ps_k L t i))), upd pu n (iI i), upd vu n (iI (ps_vl L t i))) := fun b d x y h10 => by
    rw [sm_tot_u, fn_WO_add_q72]
    unfold fn_WO_add_b72
    rw [if_pos bI_01, sm_ev_l]
    exact e75 _ _ _ _ h10
  have h6 : ps_k L t i ≠ 10 → (iI (ps_ck (ps_k L t i)) = 5) = (ps_k L t i = 6) := fun h10 => by
    unfold ps_ck
    rw [if_neg h10, il_5, ii_eq (by omega) (by omega) (by omega) (by omega)]
    exact propext ⟨fun q => by omega, fun q => by omega⟩
  have e60 : ∀ c d x y, ps_k L t i ≠ 10 → sm_tot (fn_WO_add (iI i) (iI L) ct) (60, iI (ps_w L t i), iI (ps_ck (ps_k L t i)), c, d, iI n, x, y, ku, pu, vu) = some (1, iI ((n : Int) + 1), x, bI (if ps_k L t i = 6 then false else true), upd ku n (iI (ps_ck (ps_k L t i))), upd pu n (iI i), upd vu n (iI (ps_vl L t i))) := fun c d x y h10 => by
    rw [sm_tot_u, fn_WO_add_q60]
    unfold fn_WO_add_b60
    by_cases q : ps_k L t i = 6
    · rw [if_pos (by rw [h6 h10]; exact q), sm_ev_l, if_pos q]
      exact e72 false _ _ _ h10
    · rw [if_neg (by rw [h6 h10]; exact q), sm_ev_l, if_neg q]
      exact e72 true _ _ _ h10
  rw [sm_tot_u, fn_WO_add_q0]
  unfold fn_WO_add_b0
  have hkd : sm_tot (fn_WO_kindAt (iI i) (iI (ps_w L t i)) (iI L) ct) (0, 0, 0) = some (iI (ps_ck (ps_k L t i))) := wo_kind h hi (show ps_w L t i ≤ 1000 by omega)
  rw [wo_width h hi, Option.bind_some, hkd, Option.bind_some]
  rw [wo_after hs hk', Option.bind_some]
  unfold wo_out
  cases e : ps_nx s r (ps_k L t i) with
  | none =>
    rw [if_pos (show iI (ps_ns none) = -1 from rfl), sm_ev_l, e38]
  | some q =>
    obtain ⟨s', r'⟩ := q
    have h10 : ps_k L t i ≠ 10 := fun q => by rw [q] at e; cases e
    have hs' := ps_nx_le e
    have hr' := ps_nx_r e
    have n1 : ¬ (iI (ps_ns (some (s', r'))) = -1) := by
      show ¬ (iI (s' : Int) = -1)
      rw [show (-1 : Int32) = iI (-1) from rfl, ii_eq (by omega) (by omega) (by omega) (by omega)]
      omega
    rw [if_neg n1, if_pos (show iI (n : Int) < 300 by rw [il_300, ii_lt (by omega) (by omega) (by omega) (by omega)]; omega)]
    rw [wo_rel hk', Option.bind_some]
    by_cases q : 7 ≤ ps_k L t i ∧ ps_k L t i ≤ 9
    · rw [decide_eq_true q, bI_1, if_neg (show ¬ ((1 : Int32) = 0) by decide), sm_ev_l]
      refine (e60 _ _ _ _ h10).trans ?_
      rw [if_neg (show ¬ ps_k L t i = 6 by omega), hr', if_pos q]
      rfl
    · rw [decide_eq_false q, bI_0, if_pos (show (0 : Int32) = 0 from rfl)]
      by_cases q6 : ps_k L t i = 6
      · rw [if_pos (show iI (ps_ck (ps_k L t i)) = 5 by rw [h6 h10]; exact q6), sm_ev_l]
        refine (e60 _ _ _ _ h10).trans ?_
        rw [if_pos q6, hr', if_neg q, if_pos q6]
        rfl
      · rw [if_neg (show ¬ iI (ps_ck (ps_k L t i)) = 5 by rw [h6 h10]; exact q6), sm_ev_l]
        refine (e75 _ _ _ _ h10).trans ?_
        rw [hr', if_neg q, if_neg q6]
        rfl
/-- the words that are a beginning of a system, where they stop, and whether they are one -/
def ps_sc (L : Nat) (t : Nat → Int) : Nat → Nat → Nat → Bool → List (Int × Nat × Int) × Nat × Bool
  | 0, _, s, r => ([], L, ps_ov s && r)
  | f + 1, i, s, r => if L ≤ i then ([], L, ps_ov s && r) else if ps_ch L t i = 32 then ps_sc L t f (i + 1) s r else match ps_nx s r (ps_k L t i) with
    | none => ([], i, false)
    | some q => ((ps_k L t i, i, ps_vl L t i) :: (ps_sc L t f (i + ps_w L t i) q.1 q.2).1, (ps_sc L t f (i + ps_w L t i) q.1 q.2).2)
def ps_z : Int × Nat × Int := (0, 0, 0)
/-- words in three arrays, from a place on -/
def wo_pic (n : Nat) (X : List (Int × Nat × Int)) (ku pu vu : Nat → Int32) : Prop := ∀ j, j < X.length → ku (n + j) = iI (ps_ck (X.getD j ps_z).1) ∧ pu (n + j) = iI ((X.getD j ps_z).2.1 : Int) ∧ vu (n + j) = iI (X.getD j ps_z).2.2
theorem ps_w_sp {i : Nat} (h : ps_ch L t i = 32) : ps_w L t i = 1 := by
  unfold ps_w
  rw [if_neg (by rw [h]; decide), if_neg (by rw [h]; omega)]
theorem wo_sys_l (h : tx_ok L t ct) : ∀ (f i n s : Nat) (r : Bool) (ku pu vu : Nat → Int32) fp, L ≤ i + f → i ≤ L → n ≤ i → s ≤ 4 →
    ∃ to' st' ri' ku' pu' vu', sm_tot (fn_WO_areSystem (iI L) ct) (17, iI i, 0, iI n, iI s, bI r, fp, ku, pu, vu) = some (bI (ps_sc L t f i s r).2.2, to', st', ri', iI (ps_sc L t f i s r).2.1, ku', pu', vu') ∧
      (to' = iI ((n + (ps_sc L t f i s r).1.length : Nat) : Int) ∨ (ps_sc L t f i s r).2.2 = false) ∧ wo_pic n (ps_sc L t f i s r).1 ku' pu' vu' ∧ ∀ j, j < n → ku' j = ku j ∧ pu' j = pu j ∧ vu' j = vu j := by
  have hL := h.1
  have e93 : ∀ (b : Bool) a x1 x2 x3 x4 (z1 z2 z3 : Nat → Int32), sm_tot (fn_WO_areSystem (iI L) ct) (93, a, bI b, x1, x2, x3, x4, z1, z2, z3) = some (bI b, x1, x2, x3, x4, z1, z2, z3) := fun b a x1 x2 x3 x4 z1 z2 z3 => by
    rw [sm_tot_u, fn_WO_areSystem_q93]
    unfold fn_WO_areSystem_b93
    rw [if_pos bI_01, sm_ev_r]
  have e92 : ∀ a b x1 x2 x3 x4 (z1 z2 z3 : Nat → Int32), sm_tot (fn_WO_areSystem (iI L) ct) (92, a, b, x1, x2, x3, x4, z1, z2, z3) = some (bI false, x1, x2, x3, x4, z1, z2, z3) := fun a b x1 x2 x3 x4 z1 z2 z3 => by
    rw [sm_tot_u, fn_WO_areSystem_q92]
    exact e93 false _ _ _ _ _ _ _ _
  have hend : ∀ (i n s : Nat) (r : Bool) (ku pu vu : Nat → Int32) fp, L ≤ i → i ≤ L → s ≤ 4 → sm_tot (fn_WO_areSystem (iI L) ct) (17, iI i, 0, iI n, iI s, bI r, fp, ku, pu, vu) = some (bI (ps_ov s && r), iI n, iI s, bI r, iI L, ku, pu, vu) := fun i n s r ku pu vu fp h1 h2 h3 => by
    rw [sm_tot_u, fn_WO_areSystem_q17]
    unfold fn_WO_areSystem_b17
    rw [if_pos (show iI (L : Int) ≤ iI (i : Int) by rw [ii_le (by omega) (by omega) (by omega) (by omega)]; omega), wo_sum h3, Option.bind_some]
    cases e : ps_ov s with
    | false =>
      rw [bI_0, if_pos (show (0 : Int32) = 0 from rfl), sm_ev_l, e92, Bool.false_and]
    | true =>
      rw [bI_1, if_neg (show ¬ ((1 : Int32) = 0) by decide), Bool.true_and]
      cases r with
      | false => rw [if_pos (show bI false = 0 from rfl), sm_ev_l, e92]
      | true =>
        rw [if_neg (show ¬ bI true = 0 by decide), sm_ev_l]
        exact e93 true _ _ _ _ _ _ _ _
  intro f
  induction f with
  | zero =>
    intro i n s r ku pu vu fp h1 h2 h3 h4
    exact ⟨_, _, _, _, _, _, hend i n s r ku pu vu fp (by omega) h2 h4, Or.inl rfl, fun j hj => absurd hj (Nat.not_lt_zero _), fun _ _ => ⟨rfl, rfl, rfl⟩⟩
  | succ f ih =>
    intro i n s r ku pu vu fp h1 h2 h3 h4
    by_cases hl : L ≤ i
    · rw [show ps_sc L t (f + 1) i s r = ([], L, ps_ov s && r) from if_pos hl]
      exact ⟨_, _, _, _, _, _, hend i n s r ku pu vu fp hl h2 h4, Or.inl rfl, fun j hj => absurd hj (Nat.not_lt_zero _), fun _ _ => ⟨rfl, rfl, rfl⟩⟩
    · have hi : i < L := by omega
      have hr := ps_ch_r h i
      have hw := ps_w_r (t := t) hi
      have e51 : ∀ b x1 x2 x3 x4 (z1 z2 z3 : Nat → Int32), sm_tot (fn_WO_areSystem (iI L) ct) (51, iI i, b, x1, x2, x3, x4, z1, z2, z3) = sm_tot (fn_WO_areSystem (iI L) ct) (17, iI ((i + ps_w L t i : Nat) : Int), 0, x1, x2, x3, x4, z1, z2, z3) := fun b x1 x2 x3 x4 z1 z2 z3 => by
        rw [sm_tot_u, fn_WO_areSystem_q51]
        unfold fn_WO_areSystem_b51
        rw [wo_width h hi, Option.bind_some, sm_ev_l, show (if (1 : Int32) < iI (ps_w L t i : Int) then iI (ps_w L t i : Int) else 1) = iI (ps_w L t i : Int) by
          rw [il_1, ie_lt (by omega) (by omega) (by omega) (by omega)]
          split
          · rfl
          · rw [show (ps_w L t i : Int) = 1 by omega], ii_add]
        rfl
      by_cases hsp : ps_ch L t i = 32
      · rw [show ps_sc L t (f + 1) i s r = ps_sc L t f (i + 1) s r by
          show (if _ then _ else if _ then _ else _) = _
          rw [if_neg hl, if_pos hsp]]
        have e0 : sm_tot (fn_WO_areSystem (iI L) ct) (17, iI i, 0, iI n, iI s, bI r, fp, ku, pu, vu) = sm_tot (fn_WO_areSystem (iI L) ct) (17, iI ((i + 1 : Nat) : Int), 0, iI n, iI s, bI r, fp, ku, pu, vu) := by
          rw [sm_tot_u, fn_WO_areSystem_q17]
          unfold fn_WO_areSystem_b17
          rw [if_neg (show ¬ iI (L : Int) ≤ iI (i : Int) by rw [ii_le (by omega) (by omega) (by omega) (by omega)]; omega), tx_at h (show i ≤ 1000 by omega), Option.bind_some, if_pos (show iI (ps_ch L t i) = 32 by rw [hsp]; rfl), sm_ev_l, e51, ps_w_sp hsp]
        rw [e0]
        exact ih (i + 1) n s r ku pu vu fp (by omega) (by omega) (by omega) h4
      · have e0 : sm_tot (fn_WO_areSystem (iI L) ct) (17, iI i, 0, iI n, iI s, bI r, fp, ku, pu, vu) = sm_ev (fn_WO_areSystem (iI L) ct) (if (wo_out L t i n s r ku pu vu).1 = 0 then (some (.inr (0, (wo_out L t i n s r ku pu vu).2.1, (wo_out L t i n s r ku pu vu).2.2.1, (wo_out L t i n s r ku pu vu).2.2.2.1, iI i, (wo_out L t i n s r ku pu vu).2.2.2.2.1, (wo_out L t i n s r ku pu vu).2.2.2.2.2.1, (wo_out L t i n s r ku pu vu).2.2.2.2.2.2))) else (some (.inl (51, iI i, 0, (wo_out L t i n s r ku pu vu).2.1, (wo_out L t i n s r ku pu vu).2.2.1, (wo_out L t i n s r ku pu vu).2.2.2.1, fp, (wo_out L t i n s r ku pu vu).2.2.2.2.1, (wo_out L t i n s r ku pu vu).2.2.2.2.2.1, (wo_out L t i n s r ku pu vu).2.2.2.2.2.2)))) := by
          rw [sm_tot_u, fn_WO_areSystem_q17]
          unfold fn_WO_areSystem_b17
          rw [if_neg (show ¬ iI (L : Int) ≤ iI (i : Int) by rw [ii_le (by omega) (by omega) (by omega) (by omega)]; omega), tx_at h (show i ≤ 1000 by omega), Option.bind_some, if_neg (show ¬ iI (ps_ch L t i) = 32 by rw [il_32, ii_eq (by omega) (by omega) (by omega) (by omega)]; exact hsp), wo_add h hi (by omega) h4, Option.bind_some]
        rw [e0]
        unfold wo_out
        have es : ps_sc L t (f + 1) i s r = match ps_nx s r (ps_k L t i) with
            | none => ([], i, false)
            | some q => ((ps_k L t i, i, ps_vl L t i) :: (ps_sc L t f (i + ps_w L t i) q.1 q.2).1, (ps_sc L t f (i + ps_w L t i) q.1 q.2).2) := by
          show (if _ then _ else if _ then _ else _) = _
          rw [if_neg hl, if_neg hsp]
        rw [es]
        cases e : ps_nx s r (ps_k L t i) with
        | none =>
          exact ⟨_, _, _, _, _, _, rfl, Or.inr rfl, fun j hj => absurd hj (Nat.not_lt_zero _), fun _ _ => ⟨rfl, rfl, rfl⟩⟩
        | some q =>
          obtain ⟨s', r'⟩ := q
          obtain ⟨to', st', ri', ku', pu', vu', a1, a2, a3, a4⟩ := ih (i + ps_w L t i) (n + 1) s' r' (upd ku n (iI (ps_ck (ps_k L t i)))) (upd pu n (iI i)) (upd vu n (iI (ps_vl L t i))) fp (by omega) (by omega) (by omega) (ps_nx_le e)
          refine ⟨to', st', ri', ku', pu', vu', ?_, ?_, ?_, ?_⟩
          · refine Eq.trans ?_ a1
            show sm_ev _ (if (1 : Int32) = 0 then _ else _) = _
            rw [if_neg (show ¬ ((1 : Int32) = 0) by decide), sm_ev_l, e51]
            rfl
          · rcases a2 with a2 | a2
            · left
              rw [a2, List.length_cons, show n + 1 + (ps_sc L t f (i + ps_w L t i) s' r').1.length = n + ((ps_sc L t f (i + ps_w L t i) s' r').1.length + 1) by omega]
            · exact Or.inr a2
          · intro j hj
            cases j with
            | zero =>
              obtain ⟨b1, b2, b3⟩ := a4 n (by omega)
              exact ⟨b1.trans (if_pos rfl), b2.trans (if_pos rfl), b3.trans (if_pos rfl)⟩
            | succ j =>
              have := a3 j (Nat.lt_of_succ_lt_succ hj)
              rw [show n + (j + 1) = n + 1 + j by omega]
              exact this
          · intro j hj
            obtain ⟨b1, b2, b3⟩ := a4 j (by omega)
            exact ⟨b1.trans (if_neg (by omega)), b2.trans (if_neg (by omega)), b3.trans (if_neg (by omega))⟩
theorem wo_sys (h : tx_ok L t ct) (ku pu vu : Nat → Int32) (x1 x2 x3 x4 : Int32) :
    ∃ to' st' ri' ku' pu' vu', sm_tot (fn_WO_areSystem (iI L) ct) (0, 0, 0, x1, x2, x3, x4, ku, pu, vu) = some (bI (ps_sc L t L 0 0 false).2.2, to', st', ri', iI (ps_sc L t L 0 0 false).2.1, ku', pu', vu') ∧
      (to' = iI ((ps_sc L t L 0 0 false).1.length : Nat) ∨ (ps_sc L t L 0 0 false).2.2 = false) ∧ wo_pic 0 (ps_sc L t L 0 0 false).1 ku' pu' vu' := by
  obtain ⟨to', st', ri', ku', pu', vu', a1, a2, a3, _⟩ := wo_sys_l h L 0 0 0 false ku pu vu x4 (by omega) (by omega) (by omega) (by omega)
  refine ⟨to', st', ri', ku', pu', vu', ?_, ?_, a3⟩
  · rw [sm_tot_u, fn_WO_areSystem_q0]
    exact a1
  · rw [Nat.zero_add] at a2
    exact a2
end WOS
