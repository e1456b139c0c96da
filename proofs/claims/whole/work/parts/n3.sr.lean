/-! what a solution is the sum of: the reference -/
section SR1
variable {n : Nat} {v w : Nat → Int} {ct cl cw : Nat → Int32}
theorem mo_plain_l (hn : n ≤ 6) (hv : ∀ c, c < n → ct c = iI (v c) ∧ (v c).natAbs ≤ 1000) : ∀ d c (t : Bool), c + d = n → sm_tot (fn_MO_isPlain (iI n) ct) (4, bI t, iI c, 0) = some (bI (t && sx_alf (fun j => decide (0 ≤ v j)) d c)) := by
  have e30 : ∀ (t : Bool) (z : Int) a, sm_tot (fn_MO_isPlain (iI n) ct) (30, a, iI z, bI t) = sm_tot (fn_MO_isPlain (iI n) ct) (4, bI t, iI (z + 1), 0) := fun t z a => by
    rw [sm_tot_u, fn_MO_isPlain_q30]
    unfold fn_MO_isPlain_b30
    rw [sm_ev_l, il_1, ii_add]
  have e29 : ∀ (z : Int) a b, sm_tot (fn_MO_isPlain (iI n) ct) (29, a, iI z, b) = sm_tot (fn_MO_isPlain (iI n) ct) (4, bI false, iI (z + 1), 0) := fun z a b => by
    rw [sm_tot_u, fn_MO_isPlain_q29]
    exact e30 false z 0
  intro d
  induction d with
  | zero =>
    intro c t hc
    have e : c = n := by omega
    subst e
    rw [sm_tot_u, fn_MO_isPlain_q4]
    unfold fn_MO_isPlain_b4
    rw [if_pos (show iI (c : Int) ≤ iI (c : Int) by rw [ii_le (by omega) (by omega) (by omega) (by omega)]; omega), if_pos bI_01, sm_ev_r, show sx_alf (fun j => decide (0 ≤ v j)) 0 c = true from rfl, Bool.and_true]
  | succ d ih =>
    intro c t hc
    obtain ⟨h1, r1⟩ := hv c (by omega)
    have i2 : ((c : Int)).toNat = c := by omega
    have h3 : ∀ t : Bool, sm_tot (fn_MO_isPlain (iI n) ct) (4, bI t, iI ((c : Int) + 1), 0) = _ := fun t => ih (c + 1) t (by omega)
    rw [sm_tot_u, fn_MO_isPlain_q4, sx_alf_s]
    unfold fn_MO_isPlain_b4
    rw [if_neg (show ¬ iI (n : Int) ≤ iI (c : Int) by rw [ii_le (by omega) (by omega) (by omega) (by omega)]; omega), if_pos (show ¬ (iI (c : Int) < 0 ∨ 6 ≤ (iI (c : Int)).toNatClampNeg) by rw [il_0, ii_lt (by omega) (by omega) (by omega) (by omega), ii_nat (by omega) (by omega)]; omega), ii_nat (by omega) (by omega), i2, h1]
    cases t with
    | false => rw [if_pos (show bI false = 0 from rfl), sm_ev_l, e29, h3]; rfl
    | true =>
      rw [if_neg (show ¬ bI true = 0 by decide), Bool.true_and]
      by_cases e : 0 ≤ v c
      · rw [if_neg (show ¬ iI (v c) < 0 by rw [il_0, ii_lt (by omega) (by omega) (by omega) (by omega)]; omega), decide_eq_true e, sm_ev_l]
        exact (e30 true c 0).trans (h3 true)
      · rw [if_pos (show iI (v c) < 0 by rw [il_0, ii_lt (by omega) (by omega) (by omega) (by omega)]; omega), decide_eq_false e, sm_ev_l, e29, h3]
theorem mo_plain (hn : n ≤ 6) (hv : ∀ c, c < n → ct c = iI (v c) ∧ (v c).natAbs ≤ 1000) : sm_tot (fn_MO_isPlain (iI n) ct) (0, 0, 0, 0) = some (bI (sx_alf (fun j => decide (0 ≤ v j)) n 0)) := by
  rw [sm_tot_u, fn_MO_isPlain_q0]
  exact (mo_plain_l hn hv n 0 true (by omega)).trans (by rw [Bool.true_and])
theorem mo_below1 {what k : Nat} (hn : n ≤ 6) (hw : what ≤ 2) (hk : k < 2000) (hx : ∀ c, c < n → cl (12000 * what + 6 * k + c) = iI (w c)) (hy : ∀ c, c < n → cw c = iI (v c)) (rx : ∀ c, c < n → (w c).natAbs ≤ 1000) (ry : ∀ c, c < n → (v c).natAbs ≤ 1000) :
    sm_tot (fn_MO_isBelow (iI what) (iI k) 1 (iI n) cl cw) (0, 0, 0, 0) = some (bI (sx_le n w v)) := by
  have h := mo_below (sgn := 1) hn hw hk (Or.inl rfl) hx hy rx ry
  rw [show (fun j => 1 * w j) = w from funext fun j => Int.one_mul _] at h
  exact h
theorem sx_dt_sz : ∀ k, (∀ c, c < k → 0 ≤ v c) → sx_dt (fun _ => 1) v k = (sx_sz v k 0 : Nat) := by
  intro k
  induction k with
  | zero => intro _; rfl
  | succ k ih =>
    intro h
    have h1 := ih (fun c hc => h c (by omega))
    have h2 := h k (by omega)
    rw [sx_sz_app k 1 0, Nat.zero_add]
    show sx_dt (fun _ => 1) v k + 1 * v k = ((sx_sz v k 0 + ((v k).natAbs + 0) : Nat) : Int)
    rw [h1]
    omega
theorem sp_sub_sz (h : sp_nn n v) (hl : sx_le n w v = true) : sx_sz (sp_sub v w) n 0 + sx_sz w n 0 = sx_sz v n 0 := sx_sz_sum fun j _ hj => by
  have h1 := sx_le_iff.mp hl j (by omega)
  have h2 := h j (by omega)
  show (v j - w j).natAbs + (w j).natAbs = (v j).natAbs
  omega
theorem sp_ot_sz : ∀ (f : Nat) (v : Nat → Int), sp_nn n v → sx_sz (sp_ot n w f v).2 n 0 ≤ sx_sz v n 0 := by
  intro f
  induction f with
  | zero => intro v _; exact Nat.le_refl _
  | succ f ih =>
    intro v h
    by_cases e : sx_le n w v = true
    · rw [show (sp_ot n w (f + 1) v).2 = (sp_ot n w f (sp_sub v w)).2 by show (if _ then _ else _ : Nat × (Nat → Int)).2 = _; rw [if_pos e]]
      have h1 := ih _ (sp_sub_nn h e)
      have h2 := sp_sub_sz h e
      omega
    · rw [show (sp_ot n w (f + 1) v).2 = v by show (if _ then _ else _ : Nat × (Nat → Int)).2 = _; rw [if_neg e]]
      exact Nat.le_refl _
theorem sp_st_sz {L : List (Nat → Int)} (h : sp_nn n v) : ∀ k, sx_sz (sp_st n L v k) n 0 ≤ sx_sz v n 0 := by
  intro k
  induction k with
  | zero => exact Nat.le_refl _
  | succ k ih => exact Nat.le_trans (sp_ot_sz 16 _ (sp_st_nn h k)) ih
end SR1
section SR2
variable {m n b0 b1 : Nat} {cu il bd cs cl ct : Nat → Int32} {A : Nat → Nat → Int} {b v : Nat → Int} {L0 L1 : List (Nat → Int)}
theorem mr_size (hn : n ≤ 6) (hv : ∀ c, c < n → ct c = iI (v c)) {x3 x4 th sp : Int32} {ti nw : Nat → Int32} : ∀ d c, c + d = n → sm_tot (fn_MO_split 1 (iI m) (iI n) cu il bd cs cl ct) (9, iI (sx_dt (fun _ => 1) v c), iI c, 0, 0, th, sp, ti, nw) = sm_tot (fn_MO_split 1 (iI m) (iI n) cu il bd cs cl ct) (9, iI (sx_dt (fun _ => 1) v n), iI n, 0, 0, th, sp, ti, nw) := by
  intro d
  induction d with
  | zero =>
    intro c hd
    have e : c = n := by omega
    subst e
    rfl
  | succ d ih =>
    intro c hd
    have h2 := hv c (by omega)
    have i2 : ((c : Int)).toNat = c := by omega
    rw [← ih (c + 1) (by omega), sm_tot_u (9, iI (sx_dt (fun _ => 1) v c), iI c, 0, 0, th, sp, ti, nw), fn_MO_split_q9]
    unfold fn_MO_split_b9
    rw [if_neg (show ¬ iI (n : Int) ≤ iI (c : Int) by rw [ii_le (by omega) (by omega) (by omega) (by omega)]; omega), if_pos (show ¬ (iI (c : Int) < 0 ∨ 6 ≤ (iI (c : Int)).toNatClampNeg) by rw [il_0, ii_lt (by omega) (by omega) (by omega) (by omega), ii_nat (by omega) (by omega)]; omega), ii_nat (by omega) (by omega), i2, h2, sm_ev_l, il_1, ii_add, ii_add]
    show _ = sm_tot _ (9, iI (sx_dt (fun _ => 1) v c + 1 * v c), _)
    rw [Int.one_mul]
    rfl
/-- who may be split -/
theorem mr_can (h : mo_sys m n A b cu) (hv : ∀ c, c < n → ct c = iI (v c) ∧ (v c).natAbs ≤ 100) {l0 l1 : Bool} (hl0 : il 0 = bI l0) (hl1 : il 1 = bI l1) (h0 : l0 = true → bd 0 = iI b0 ∧ b0 ≤ 16) (h1 : l1 = true → bd 1 = iI b1 ∧ b1 ≤ 16) {th sp : Int32} {ti nw : Nat → Int32} :
    sm_tot (fn_MO_split 1 (iI m) (iI n) cu il bd cs cl ct) (0, 0, 0, 0, 0, th, sp, ti, nw) = if sp_can m n A b v l0 l1 b0 b1 = true then sm_tot (fn_MO_split 1 (iI m) (iI n) cu il bd cs cl ct) (100, 0, 0, 0, 0, 0, sp, ti, nw) else some (-1, 0, sp, ti, nw) := by
  obtain ⟨m1, m2, m3, m4⟩ := h
  have e96 : ∀ a b c d, sm_tot (fn_MO_split 1 (iI m) (iI n) cu il bd cs cl ct) (96, a, b, c, d, 0, sp, ti, nw) = some (-1, 0, sp, ti, nw) := fun a b c d => by rw [sm_tot_u, fn_MO_split_q96]; rfl
  have g1 := mo_plain (ct := ct) (v := v) m2 (fun c hc => ⟨(hv c hc).1, Nat.le_trans (hv c hc).2 (by omega)⟩)
  have g3 : sm_tot (fn_MO_solves 6 ct 1 (iI m) (iI n) cu) (0, 0, 0, 0, 0, 0, 0) = some (bI (sx_sol m n A b v)) := mo_solves (wb := true) m1 m2 m3 m4 hv
  have g0 : sm_tot (fn_MO_split 1 (iI m) (iI n) cu il bd cs cl ct) (0, 0, 0, 0, 0, th, sp, ti, nw) = sm_tot (fn_MO_split 1 (iI m) (iI n) cu il bd cs cl ct) (9, iI (sx_dt (fun _ => 1) v n), iI n, 0, 0, 0, sp, ti, nw) := by
    rw [← mr_size (x3 := 0) (x4 := 0) m2 (fun c hc => (hv c hc).1) n 0 (by omega), sm_tot_u, fn_MO_split_q0]
    rfl
  have z0 : (0 : Int32).toNatClampNeg = 0 := rfl
  have z1 : (1 : Int32).toNatClampNeg = 1 := rfl
  have k0 : ¬ ((0 : Int32) < 0 ∨ 3 ≤ (0 : Int32).toNatClampNeg) := by decide
  have k1 : ¬ ((1 : Int32) < 0 ∨ 3 ≤ (1 : Int32).toNatClampNeg) := by decide
  rw [g0, sm_tot_u, fn_MO_split_q9]
  unfold fn_MO_split_b9 sp_can
  rw [if_pos (show iI (n : Int) ≤ iI (n : Int) by rw [ii_le (by omega) (by omega) (by omega) (by omega)]; omega), if_neg (show ¬ (1 : Int32) = 0 by decide), g1, Option.bind_some]
  cases hp : sx_alf (fun j => decide (0 ≤ v j)) n 0 with
  | false => rw [if_pos (show bI false = 0 from rfl), sm_ev_l, e96, Bool.false_and, Bool.and_false, Bool.and_false, if_neg (show ¬ (false = true) by decide)]
  | true =>
    rw [if_neg (show ¬ bI true = 0 by decide), g3, Option.bind_some, Bool.true_and]
    cases sx_sol m n A b v with
    | false => rw [if_pos (show bI false = 0 from rfl), sm_ev_l, e96, Bool.false_and, Bool.and_false, Bool.and_false, if_neg (show ¬ (false = true) by decide)]
    | true =>
      rw [if_neg (show ¬ bI true = 0 by decide), Bool.true_and, if_pos k0, if_pos k1, if_pos k0, if_pos k1, z0, z1, hl0, hl1]
      cases l0 with
      | false => rw [if_pos (show bI false = 0 from rfl), sm_ev_l, e96, Bool.false_and, if_neg (show ¬ (false = true) by decide)]
      | true =>
        rw [if_neg (show ¬ bI true = 0 by decide), Bool.true_and]
        cases l1 with
        | false => rw [if_pos (show bI false = 0 from rfl), sm_ev_l, e96, Bool.false_and, if_neg (show ¬ (false = true) by decide)]
        | true =>
          obtain ⟨q0, r0⟩ := h0 rfl
          obtain ⟨q1, r1⟩ := h1 rfl
          have hd : sx_dt (fun _ => 1) v n = (sx_sz v n 0 : Nat) := sx_dt_sz n (fun c hc => by
            have := sx_alf_iff.mp hp c (by omega) (by omega)
            rw [decide_eq_true_iff] at this
            exact this)
          have hsz : sx_sz v n 0 ≤ 6 * 100 := by
            have hq := sx_dt_bd2 (a' := fun _ => (1 : Int)) (v := v) (n := n) (N := 1) (M := 100) (fun _ _ => Nat.le_refl _) (fun j hj => (hv j hj).2) n (Nat.le_refl _)
            have hq2 : n * (1 * 100) ≤ 6 * (1 * 100) := Nat.mul_le_mul_right _ m2
            omega
          rw [if_neg (show ¬ bI true = 0 by decide), Bool.true_and, q0, q1, hd]
          simp (disch := omega) only [ii_lt, ii_le]
          by_cases c0 : sx_sz v n 0 ≤ b0
          · rw [if_neg (show ¬ (b0 : Int) < ((sx_sz v n 0 : Nat) : Int) by omega), decide_eq_true c0, Bool.true_and]
            by_cases c1 : sx_sz v n 0 ≤ b1
            · rw [if_pos (show ((sx_sz v n 0 : Nat) : Int) ≤ (b1 : Int) by omega), decide_eq_true c1, sm_ev_l, if_pos rfl]
            · rw [if_neg (show ¬ ((sx_sz v n 0 : Nat) : Int) ≤ (b1 : Int) by omega), decide_eq_false c1, sm_ev_l, e96, if_neg (show ¬ (false = true) by decide)]
          · rw [if_pos (show (b0 : Int) < ((sx_sz v n 0 : Nat) : Int) by omega), decide_eq_false c0, Bool.false_and, sm_ev_l, e96, if_neg (show ¬ (false = true) by decide)]
theorem mr_copy (hn : n ≤ 6) (hv : ∀ c, c < n → ct c = iI (v c)) {sp : Int32} {ti : Nat → Int32} : ∀ d c (nw : Nat → Int32), c + d = n → (∀ j, j < c → nw j = iI (v j)) → ∃ nw', sm_tot (fn_MO_split 1 (iI m) (iI n) cu il bd cs cl ct) (100, 0, iI c, 0, 0, 0, sp, ti, nw) = sm_tot (fn_MO_split 1 (iI m) (iI n) cu il bd cs cl ct) (128, 0, 0, 0, 0, 0, sp, ti, nw') ∧ ∀ j, j < n → nw' j = iI (v j) := by
  intro d
  induction d with
  | zero =>
    intro c nw hd hu
    have e : c = n := by omega
    subst e
    refine ⟨nw, ?_, hu⟩
    rw [sm_tot_u, fn_MO_split_q100]
    unfold fn_MO_split_b100
    rw [if_pos (show iI (c : Int) ≤ iI (c : Int) by rw [ii_le (by omega) (by omega) (by omega) (by omega)]; omega), sm_ev_l]
  | succ d ih =>
    intro c nw hd hu
    have h2 := hv c (by omega)
    have i2 : ((c : Int)).toNat = c := by omega
    obtain ⟨nw', u1, u2⟩ := ih (c + 1) (upd nw c (iI (v c))) (by omega) (fun j hj => by
      show (if j = c then iI (v c) else nw j) = _
      by_cases e : j = c
      · rw [if_pos e, e]
      · rw [if_neg e]; exact hu j (by omega))
    refine ⟨nw', ?_, u2⟩
    have kc : ¬ (iI (c : Int) < 0 ∨ 6 ≤ (iI (c : Int)).toNatClampNeg) := by rw [il_0, ii_lt (by omega) (by omega) (by omega) (by omega), ii_nat (by omega) (by omega)]; omega
    rw [← u1, sm_tot_u, fn_MO_split_q100]
    unfold fn_MO_split_b100
    rw [if_neg (show ¬ iI (n : Int) ≤ iI (c : Int) by rw [ii_le (by omega) (by omega) (by omega) (by omega)]; omega), if_pos kc, if_pos kc, ii_nat (by omega) (by omega), i2, h2, sm_ev_l, il_1, ii_add]
    rfl
theorem mr_find (hn : n ≤ 6) (hL : L1.length ≤ 2000) (hp : mo_pic 1 n L1 cl) (hr : vl_rng n L1) {k : Nat} (hk : k < L1.length) (hle : sx_le n (L1.getD k sx_z) v = true) (hlt : ∀ j, j < k → sx_le n (L1.getD j sx_z) v = false) {sp : Int32} {ti nw : Nat → Int32} (hw : ∀ c, c < n → nw c = iI (v c) ∧ (v c).natAbs ≤ 1000) : ∀ d j, j + d = k → sm_tot (fn_MO_split 1 (iI m) (iI n) cu il bd cs cl ct) (128, 0, iI j, 0, 0, 0, sp, ti, nw) = sm_tot (fn_MO_split 1 (iI m) (iI n) cu il bd cs cl ct) (146, 0, iI k, 0, 0, 0, sp, ti, nw) := by
  have hb : ∀ j, j < L1.length → sm_tot (fn_MO_isBelow 1 (iI j) 1 (iI n) cl nw) (0, 0, 0, 0) = some (bI (sx_le n (L1.getD j sx_z) v)) := fun j hj => mo_below1 (what := 1) hn (by omega) (by omega) (hp j hj) (fun c hc => (hw c hc).1) (fun c hc => Nat.le_trans (hr j hj c hc) (by omega)) (fun c hc => (hw c hc).2)
  intro d
  induction d with
  | zero =>
    intro j hj
    have e : j = k := by omega
    subst e
    rw [sm_tot_u, fn_MO_split_q128]
    unfold fn_MO_split_b128
    rw [hb j hk, Option.bind_some, hle, if_neg (show ¬ bI true = 0 by decide), sm_ev_l]
  | succ d ih =>
    intro j hj
    rw [← ih (j + 1) (by omega), sm_tot_u, fn_MO_split_q128]
    unfold fn_MO_split_b128
    rw [hb j (by omega), Option.bind_some, hlt j (by omega), if_pos (show bI false = 0 from rfl), sm_ev_l, il_1, ii_add]
    rfl
theorem mr_sub1 (hn : n ≤ 6) {k : Nat} (hk : k < 2000) {w : Nat → Int} (hp : ∀ c, c < n → cl (12000 * 1 + 6 * k + c) = iI (w c)) {sp : Int32} {ti : Nat → Int32} : ∀ d e (u : Nat → Int32), e + d = n → (∀ c, c < n → u c = iI (if c < e then v c - w c else v c)) → ∃ u', sm_tot (fn_MO_split 1 (iI m) (iI n) cu il bd cs cl ct) (146, 0, iI k, iI e, 0, 0, sp, ti, u) = sm_tot (fn_MO_split 1 (iI m) (iI n) cu il bd cs cl ct) (190, 0, iI k, 0, 0, 0, sp, ti, u') ∧ ∀ c, c < n → u' c = iI (v c - w c) := by
  intro d
  induction d with
  | zero =>
    intro e u he hu
    have e2 : e = n := by omega
    subst e2
    refine ⟨u, ?_, fun c hc => by rw [hu c hc, if_pos hc]⟩
    rw [sm_tot_u, fn_MO_split_q146]
    unfold fn_MO_split_b146
    rw [if_pos (show iI (e : Int) ≤ iI (e : Int) by rw [ii_le (by omega) (by omega) (by omega) (by omega)]; omega), sm_ev_l]
  | succ d ih =>
    intro e u he hu
    have h1 := hu e (by omega)
    rw [if_neg (by omega)] at h1
    have h2 := hp e (by omega)
    have i2 : ((e : Int)).toNat = e := by omega
    have i3 : (12000 + 6 * (k : Int) + (e : Int)).toNat = 12000 * 1 + 6 * k + e := by omega
    obtain ⟨u', u1, u2⟩ := ih (e + 1) (upd u e (iI (v e - w e))) (by omega) (fun c hc => by
      show (if c = e then iI (v e - w e) else u c) = _
      by_cases q : c = e
      · subst q; rw [if_pos rfl, if_pos (by omega)]
      · rw [if_neg q, hu c hc]
        by_cases q2 : c < e
        · rw [if_pos q2, if_pos (by omega)]
        · rw [if_neg q2, if_neg (by omega)])
    refine ⟨u', ?_, u2⟩
    have kc : ¬ (iI (e : Int) < 0 ∨ 6 ≤ (iI (e : Int)).toNatClampNeg) := by rw [il_0, ii_lt (by omega) (by omega) (by omega) (by omega), ii_nat (by omega) (by omega)]; omega
    have kd : ¬ (iI (12000 + 6 * (k : Int) + (e : Int)) < 0 ∨ 36000 ≤ (iI (12000 + 6 * (k : Int) + (e : Int))).toNatClampNeg) := by rw [il_0, ii_lt (by omega) (by omega) (by omega) (by omega), ii_nat (by omega) (by omega)]; omega
    rw [← u1, sm_tot_u, fn_MO_split_q146]
    unfold fn_MO_split_b146
    rw [if_neg (show ¬ iI (n : Int) ≤ iI (e : Int) by rw [ii_le (by omega) (by omega) (by omega) (by omega)]; omega), il_12000, il_6, ii_mul, ii_add, ii_add, if_pos kc, if_pos kd, if_pos kc, ii_nat (by omega) (by omega), ii_nat (by omega) (by omega), i2, i3, h1, h2, sm_ev_l, ii_sub, il_1, ii_add]
    rfl
theorem mr_sub0 (hn : n ≤ 6) {k : Nat} (hk : k < 2000) {w v : Nat → Int} (hp : ∀ c, c < n → cl (12000 * 0 + 6 * k + c) = iI (w c)) {x2 sp : Int32} {ti : Nat → Int32} : ∀ d e (u : Nat → Int32), e + d = n → (∀ c, c < n → u c = iI (if c < e then v c - w c else v c)) → ∃ u', sm_tot (fn_MO_split 1 (iI m) (iI n) cu il bd cs cl ct) (220, 0, x2, iI k, iI e, 0, sp, ti, u) = sm_tot (fn_MO_split 1 (iI m) (iI n) cu il bd cs cl ct) (207, 0, x2, iI k, 0, 0, sp, upd ti k (ti k + 1), u') ∧ ∀ c, c < n → u' c = iI (v c - w c) := by
  have kk : ¬ (iI (k : Int) < 0 ∨ 2000 ≤ (iI (k : Int)).toNatClampNeg) := by rw [il_0, ii_lt (by omega) (by omega) (by omega) (by omega), ii_nat (by omega) (by omega)]; omega
  have i1 : ((k : Int)).toNat = k := by omega
  intro d
  induction d with
  | zero =>
    intro e u he hu
    have e2 : e = n := by omega
    subst e2
    refine ⟨u, ?_, fun c hc => by rw [hu c hc, if_pos hc]⟩
    rw [sm_tot_u, fn_MO_split_q220]
    unfold fn_MO_split_b220
    rw [if_pos (show iI (e : Int) ≤ iI (e : Int) by rw [ii_le (by omega) (by omega) (by omega) (by omega)]; omega), if_pos kk, if_pos kk, ii_nat (by omega) (by omega), i1, sm_ev_l]
  | succ d ih =>
    intro e u he hu
    have h1 := hu e (by omega)
    rw [if_neg (by omega)] at h1
    have h2 := hp e (by omega)
    have i2 : ((e : Int)).toNat = e := by omega
    have i3 : (6 * (k : Int) + (e : Int)).toNat = 12000 * 0 + 6 * k + e := by omega
    obtain ⟨u', u1, u2⟩ := ih (e + 1) (upd u e (iI (v e - w e))) (by omega) (fun c hc => by
      show (if c = e then iI (v e - w e) else u c) = _
      by_cases q : c = e
      · subst q; rw [if_pos rfl, if_pos (by omega)]
      · rw [if_neg q, hu c hc]
        by_cases q2 : c < e
        · rw [if_pos q2, if_pos (by omega)]
        · rw [if_neg q2, if_neg (by omega)])
    refine ⟨u', ?_, u2⟩
    have kc : ¬ (iI (e : Int) < 0 ∨ 6 ≤ (iI (e : Int)).toNatClampNeg) := by rw [il_0, ii_lt (by omega) (by omega) (by omega) (by omega), ii_nat (by omega) (by omega)]; omega
    have kd : ¬ (iI (6 * (k : Int) + (e : Int)) < 0 ∨ 36000 ≤ (iI (6 * (k : Int) + (e : Int))).toNatClampNeg) := by rw [il_0, ii_lt (by omega) (by omega) (by omega) (by omega), ii_nat (by omega) (by omega)]; omega
    rw [← u1, sm_tot_u, fn_MO_split_q220]
    unfold fn_MO_split_b220
    rw [if_neg (show ¬ iI (n : Int) ≤ iI (e : Int) by rw [ii_le (by omega) (by omega) (by omega) (by omega)]; omega), il_6, ii_mul, ii_add, if_pos kc, if_pos kd, if_pos kc, ii_nat (by omega) (by omega), ii_nat (by omega) (by omega), i2, i3, h1, h2, sm_ev_l, ii_sub, il_1, ii_add]
    rfl
theorem mr_often (hn : n ≤ 6) {k : Nat} (hk : k < 2000) {w : Nat → Int} (hp : ∀ c, c < n → cl (12000 * 0 + 6 * k + c) = iI (w c)) (hw : ∀ c, c < n → (w c).natAbs ≤ 1000) (hw1 : 1 ≤ sx_sz w n 0) {x2 sp : Int32} : ∀ (f t : Nat) (v : Nat → Int) (ti u : Nat → Int32), sx_sz v n 0 ≤ f → sp_nn n v → ti k = iI ((t : Nat) : Int) → (∀ c, c < n → u c = iI (v c)) → ∃ u', sm_tot (fn_MO_split 1 (iI m) (iI n) cu il bd cs cl ct) (207, 0, x2, iI k, 0, 0, sp, ti, u) = sm_tot (fn_MO_split 1 (iI m) (iI n) cu il bd cs cl ct) (190, 0, x2, iI ((k + 1 : Nat) : Int), 0, 0, sp, upd ti k (iI ((t + (sp_ot n w f v).1 : Nat) : Int)), u') ∧ ∀ c, c < n → u' c = iI ((sp_ot n w f v).2 c) := by
  have hb : ∀ (v : Nat → Int) (u : Nat → Int32), sp_nn n v → (∀ c, c < n → u c = iI (v c)) → sm_tot (fn_MO_isBelow 0 (iI k) 1 (iI n) cl u) (0, 0, 0, 0) = some (bI (sx_le n w v)) := fun v u h1 h2 => mo_below1 (what := 0) hn (by omega) hk hp h2 hw (fun c hc => by have := h1 c hc; omega)
  have hup : ∀ (ti : Nat → Int32) (x : Int32), ti k = x → upd ti k x = ti := fun ti x h => by
    funext j
    show (if j = k then x else ti j) = ti j
    split
    · rename_i q; rw [q, h]
    · rfl
  have hno : ∀ t (v : Nat → Int) (ti u : Nat → Int32), sx_le n w v = false → sp_nn n v → ti k = iI ((t : Nat) : Int) → (∀ c, c < n → u c = iI (v c)) → sm_tot (fn_MO_split 1 (iI m) (iI n) cu il bd cs cl ct) (207, 0, x2, iI k, 0, 0, sp, ti, u) = sm_tot (fn_MO_split 1 (iI m) (iI n) cu il bd cs cl ct) (190, 0, x2, iI ((k + 1 : Nat) : Int), 0, 0, sp, upd ti k (iI ((t + 0 : Nat) : Int)), u) := fun t v ti u h1 h2 h3 h4 => by
    rw [hup ti _ (by rw [h3]; rfl), sm_tot_u, fn_MO_split_q207]
    unfold fn_MO_split_b207
    rw [hb v u h2 h4, Option.bind_some, h1, if_pos (show bI false = 0 from rfl), sm_ev_l, il_1, ii_add]
    rfl
  intro f
  induction f with
  | zero =>
    intro t v ti u hs hv ht hu
    refine ⟨u, ?_, hu⟩
    refine hno t v ti u ?_ hv ht hu
    cases e : sx_le n w v with
    | false => rfl
    | true => have := sx_le_size e; omega
  | succ f ih =>
    intro t v ti u hs hv ht hu
    by_cases e : sx_le n w v = true
    · have h1 := sp_sub_sz hv e
      obtain ⟨u1, f1, f2⟩ := mr_sub0 (m := m) (cu := cu) (il := il) (bd := bd) (cs := cs) (ct := ct) (x2 := x2) (sp := sp) (ti := ti) (v := v) hn hk hp n 0 u (by omega) (fun c hc => by rw [if_neg (by omega)]; exact hu c hc)
      obtain ⟨u', g1, g2⟩ := ih (t + 1) (sp_sub v w) (upd ti k (ti k + 1)) u1 (by omega) (sp_sub_nn hv e) (by
        show (if k = k then ti k + 1 else ti k) = _
        rw [if_pos rfl, ht, il_1, ii_add]
        rfl) f2
      rw [show sp_ot n w (f + 1) v = ((sp_ot n w f (sp_sub v w)).1 + 1, (sp_ot n w f (sp_sub v w)).2) by show (if _ then _ else _) = _; rw [if_pos e]]
      refine ⟨u', ?_, g2⟩
      rw [upd_upd] at g1
      rw [show t + ((sp_ot n w f (sp_sub v w)).1 + 1) = t + 1 + (sp_ot n w f (sp_sub v w)).1 by omega, ← g1, ← f1, sm_tot_u, fn_MO_split_q207]
      unfold fn_MO_split_b207
      rw [hb v u hv hu, Option.bind_some, e, if_neg (show ¬ bI true = 0 by decide), sm_ev_l]
      rfl
    · rw [show sp_ot n w (f + 1) v = (0, v) by show (if _ then _ else _) = _; rw [if_neg e]]
      exact ⟨u, hno t v ti u (by simpa using e) hv ht hu, hu⟩
theorem mr_all (hn : n ≤ 6) (hL : L0.length ≤ 2000) (hcs : cs 0 = iI L0.length) (hp : mo_pic 0 n L0 cl) (hr : vl_rng n L0) (h1 : ∀ k, k < L0.length → 1 ≤ sx_sz (L0.getD k sx_z) n 0) {u : Nat → Int} (hu : sp_nn n u) (hs : sx_sz u n 0 ≤ 16) {x2 sp : Int32} : ∀ d k (ti nw : Nat → Int32), k + d = L0.length → (∀ c, c < n → nw c = iI (sp_st n L0 u k c)) →
    ∃ ti' nw', sm_tot (fn_MO_split 1 (iI m) (iI n) cu il bd cs cl ct) (190, 0, x2, iI k, 0, 0, sp, ti, nw) = some (x2, 0, 1, ti', nw') ∧ ∀ j, j < L0.length → ti' j = if k ≤ j then iI ((sp_tm n L0 u j : Nat) : Int) else ti j := by
  have z0 : (0 : Int32).toNatClampNeg = 0 := rfl
  have k0 : ¬ ((0 : Int32) < 0 ∨ 3 ≤ (0 : Int32).toNatClampNeg) := by decide
  intro d
  induction d with
  | zero =>
    intro k ti nw hk hre
    have e : k = L0.length := by omega
    subst e
    refine ⟨ti, nw, ?_, fun j hj => by rw [if_neg (by omega)]⟩
    rw [sm_tot_u, fn_MO_split_q190]
    unfold fn_MO_split_b190
    rw [if_pos k0, z0, hcs, if_pos (show iI (L0.length : Int) ≤ iI (L0.length : Int) by rw [ii_le (by omega) (by omega) (by omega) (by omega)]; omega), sm_ev_r]
  | succ d ih =>
    intro k ti nw hk hre
    have i2 : ((k : Int)).toNat = k := by omega
    obtain ⟨u', f1, f2⟩ := mr_often (m := m) (cu := cu) (il := il) (bd := bd) (cs := cs) (ct := ct) (x2 := x2) (sp := sp) (w := L0.getD k sx_z) hn (show k < 2000 by omega) (hp k (by omega)) (fun c hc => Nat.le_trans (hr k (by omega) c hc) (by omega)) (h1 k (by omega)) 16 0 (sp_st n L0 u k) (upd ti k 0) nw (Nat.le_trans (sp_st_sz hu k) hs) (sp_st_nn hu k) (if_pos rfl) hre
    rw [upd_upd, Nat.zero_add] at f1
    obtain ⟨ti', nw', g1, g2⟩ := ih (k + 1) (upd ti k (iI ((sp_tm n L0 u k : Nat) : Int))) u' (by omega) f2
    refine ⟨ti', nw', ?_, fun j hj => ?_⟩
    · rw [← g1]
      refine Eq.trans ?_ f1
      rw [sm_tot_u, fn_MO_split_q190]
      unfold fn_MO_split_b190
      rw [if_pos k0, z0, hcs, if_neg (show ¬ iI (L0.length : Int) ≤ iI (k : Int) by rw [ii_le (by omega) (by omega) (by omega) (by omega)]; omega), if_pos (show ¬ (iI (k : Int) < 0 ∨ 2000 ≤ (iI (k : Int)).toNatClampNeg) by rw [il_0, ii_lt (by omega) (by omega) (by omega) (by omega), ii_nat (by omega) (by omega)]; omega), ii_nat (by omega) (by omega), i2, sm_ev_l]
    · rw [g2 j hj]
      by_cases e : k + 1 ≤ j
      · rw [if_pos e, if_pos (by omega)]
      · rw [if_neg e]
        show (if j = k then iI ((sp_tm n L0 u k : Nat) : Int) else ti j) = _
        by_cases e2 : j = k
        · subst e2; rw [if_pos rfl, if_pos (Nat.le_refl _)]
        · rw [if_neg e2, if_neg (by omega)]
/-- the reference's split -/
theorem mo_split_f (h : mo_sys m n A b cu) (hv : ∀ c, c < n → ct c = iI (v c) ∧ (v c).natAbs ≤ 100) {l0 l1 : Bool} (hl0 : il 0 = bI l0) (hl1 : il 1 = bI l1) (h0 : l0 = true → bd 0 = iI b0 ∧ b0 ≤ 16) (h1 : l1 = true → bd 1 = iI b1 ∧ b1 ≤ 16) (hc : sp_can m n A b v l0 l1 b0 b1 = false) {th sp : Int32} {ti nw : Nat → Int32} :
    sm_tot (fn_MO_split 1 (iI m) (iI n) cu il bd cs cl ct) (0, 0, 0, 0, 0, th, sp, ti, nw) = some (-1, 0, sp, ti, nw) := by
  rw [mr_can (b0 := b0) (b1 := b1) h hv hl0 hl1 h0 h1, hc, if_neg (show ¬ (false = true) by decide)]
theorem mo_split_t (h : mo_sys m n A b cu) (hv : ∀ c, c < n → ct c = iI (v c) ∧ (v c).natAbs ≤ 100) (hl0 : il 0 = 1) (hl1 : il 1 = 1) (h0 : bd 0 = iI b0 ∧ b0 ≤ 16) (h1 : bd 1 = iI b1 ∧ b1 ≤ 16) (hc : sp_can m n A b v true true b0 b1 = true) (hL0 : L0.length ≤ 2000) (hcs : cs 0 = iI L0.length) (hp0 : mo_pic 0 n L0 cl) (hr0 : vl_rng n L0) (hn0 : ∀ k, k < L0.length → 1 ≤ sx_sz (L0.getD k sx_z) n 0) (hL1 : L1.length ≤ 2000) (hp1 : mo_pic 1 n L1 cl) (hr1 : vl_rng n L1) {k : Nat} (hk : k < L1.length) (hle : sx_le n (L1.getD k sx_z) v = true) (hlt : ∀ j, j < k → sx_le n (L1.getD j sx_z) v = false) {th sp : Int32} {ti nw : Nat → Int32} :
    ∃ ti' nw', sm_tot (fn_MO_split 1 (iI m) (iI n) cu il bd cs cl ct) (0, 0, 0, 0, 0, th, sp, ti, nw) = some (iI k, 0, 1, ti', nw') ∧ ∀ j, j < L0.length → ti' j = iI ((sp_tm n L0 (sp_sub v (L1.getD k sx_z)) j : Nat) : Int) := by
  have hn := h.2.1
  have hcc := hc
  unfold sp_can at hcc
  rw [Bool.true_and, Bool.true_and, Bool.and_eq_true, Bool.and_eq_true, Bool.and_eq_true, decide_eq_true_iff] at hcc
  have hnn : sp_nn n v := sp_pl_nn (M := 100) (by omega) hcc.1 (fun c hc => (hv c hc).2)
  have hss := sp_sub_sz hnn hle
  obtain ⟨nw1, a1, a2⟩ := mr_copy (m := m) (cu := cu) (il := il) (bd := bd) (cs := cs) (cl := cl) (sp := sp) (ti := ti) hn (fun c hc => (hv c hc).1) n 0 nw (by omega) (fun j hj => by omega)
  have a3 := mr_find (m := m) (cu := cu) (il := il) (bd := bd) (cs := cs) (ct := ct) (sp := sp) (ti := ti) (nw := nw1) hn hL1 hp1 hr1 hk hle hlt (fun c hc => ⟨a2 c hc, Nat.le_trans (hv c hc).2 (by omega)⟩) k 0 (by omega)
  obtain ⟨nw2, b1', b2⟩ := mr_sub1 (m := m) (cu := cu) (il := il) (bd := bd) (cs := cs) (ct := ct) (sp := sp) (ti := ti) (v := v) hn (show k < 2000 by omega) (hp1 k hk) n 0 nw1 (by omega) (fun c hc => by rw [if_neg (by omega)]; exact a2 c hc)
  obtain ⟨ti', nw', c1, c2⟩ := mr_all (m := m) (cu := cu) (il := il) (bd := bd) (ct := ct) (x2 := iI k) (sp := sp) hn hL0 hcs hp0 hr0 hn0 (sp_sub_nn hnn hle) (by have := hcc.2.2.1; have := h0.2; omega) L0.length 0 ti nw2 (by omega) b2
  refine ⟨ti', nw', ?_, fun j hj => by rw [c2 j hj, if_pos (Nat.zero_le _)]⟩
  rw [mr_can (l0 := true) (l1 := true) (b0 := b0) (b1 := b1) h hv hl0 hl1 (fun _ => h0) (fun _ => h1), hc, if_pos rfl]
  exact (a1.trans a3).trans (b1'.trans c1)
end SR2
/-- in a list of least ones: none is 0, none is below 0; who solves has one within -/
theorem sx_list_Cm {what m n : Nat} {A : Nat → Nat → Int} {b : Nat → Int} (hw : what ≤ 2) {k : Nat} (h : (sx_list what m n A b k 0 []).2 = true) : sx_Cm what m n A b (sx_list what m n A b k 0 []).1 k := by
  have h2 := sx_work_Cm (cap := 2000) hw k 0 [] (sx_list what m n A b k 0 []).1 sx_Cm_nil (Prod.ext rfl h)
  rw [Nat.zero_add] at h2
  exact h2
