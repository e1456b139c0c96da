def sp_can (m n : Nat) (A : Nat → Nat → Int) (b v : Nat → Int) (l0 l1 : Bool) (b0 b1 : Nat) : Bool := l0 && (l1 && (sx_alf (fun j => decide (0 ≤ v j)) n 0 && (sx_sol m n A b v && (decide (sx_sz v n 0 ≤ b0) && decide (sx_sz v n 0 ≤ b1)))))
theorem sx_sz_app {v : Nat → Int} : ∀ (k d c : Nat), sx_sz v (k + d) c = sx_sz v k c + sx_sz v d (c + k) := by
  intro k
  induction k with
  | zero => intro d c; rw [Nat.zero_add, Nat.add_zero]; exact (Nat.zero_add _).symm
  | succ k ih =>
    intro d c
    rw [show k + 1 + d = (k + d) + 1 by omega]
    show (v c).natAbs + sx_sz v (k + d) (c + 1) = (v c).natAbs + sx_sz v k (c + 1) + sx_sz v d (c + (k + 1))
    rw [ih, show c + 1 + k = c + (k + 1) by omega]
    omega
section SPB
variable {n : Nat} {v : Nat → Int}
theorem sx_sz_6 (hn : n ≤ 6) (hz : ∀ c, n ≤ c → v c = 0) : sx_sz v 6 0 = sx_sz v n 0 := by
  have h := sx_sz_app (v := v) n (6 - n) 0
  rw [show n + (6 - n) = 6 by omega] at h
  have h2 : sx_sz v (6 - n) (0 + n) = 0 := sx_sz_zero.mpr (fun j h1 _ => hz j (by omega))
  omega
theorem sx_pl_6 (hn : n ≤ 6) (hz : ∀ c, n ≤ c → v c = 0) : sx_alf (fun j => decide (0 ≤ v j)) 6 0 = sx_alf (fun j => decide (0 ≤ v j)) n 0 := by
  rw [Bool.eq_iff_iff, sx_alf_iff, sx_alf_iff]
  refine ⟨fun h j h1 h2 => h j h1 (by omega), fun h j h1 h2 => ?_⟩
  by_cases e : j < n
  · exact h j h1 (by omega)
  · rw [hz j (by omega)]; rfl
theorem sp_pl_nn {M : Nat} (hM : M ≤ 1000) (h : sx_alf (fun j => decide (0 ≤ v j)) n 0 = true) (hr : ∀ c, c < n → (v c).natAbs ≤ M) : sp_nn n v := fun c hc => by
  have h1 := sx_alf_iff.mp h c (by omega) (by omega)
  rw [decide_eq_true_iff] at h1
  have h2 := hr c hc
  omega
/-- the first one that fits -/
theorem sx_fst1_ex {p : (Nat → Int) → Bool} : ∀ (L : List (Nat → Int)) (k0 : Nat), (∃ w, w ∈ L ∧ p w = true) → ∃ k, k < L.length ∧ sx_fst1 p L k0 = ((k0 + k : Nat) : Int) ∧ p (L.getD k sx_z) = true ∧ ∀ j, j < k → p (L.getD j sx_z) = false := by
  intro L
  induction L with
  | nil => rintro k0 ⟨w, hw, -⟩; cases hw
  | cons x r ih =>
    rintro k0 ⟨w, hw, hp⟩
    by_cases e : p x = true
    · refine ⟨0, Nat.succ_pos _, ?_, e, fun j hj => by omega⟩
      show (if p x = true then (k0 : Int) else _) = _
      rw [if_pos e]
      rfl
    · obtain ⟨k, k1, k2, k3, k4⟩ := ih (k0 + 1) ⟨w, (List.mem_cons.mp hw).resolve_left (fun q => e (q ▸ hp)), hp⟩
      refine ⟨k + 1, Nat.succ_lt_succ k1, ?_, k3, fun j hj => ?_⟩
      · show (if p x = true then (k0 : Int) else sx_fst1 p r (k0 + 1)) = _
        rw [if_neg e, k2, show k0 + 1 + k = k0 + (k + 1) by omega]
      · cases j with
        | zero => simpa using e
        | succ j => exact k4 j (by omega)
end SPB
section SPC
variable {m nv ns t0 t1 b0 b1 : Nat} {l0 l1 : Bool} {A : Nat → Nat → Int} {b v : Nat → Int} {ea : Nat → Nat → Int32} {eb cn0 cn1 ct : Nat → Int32} {L0 L1 : List (Nat → Int)} {x0 y0 x1 y1 : Int32}
theorem ls_can (hm : m ≤ 4) (hn : nv + ns ≤ 6) (hA : ∀ r c, r < m → c < nv + ns → ea r c = iI (A r c) ∧ (A r c).natAbs ≤ 20) (hb : ∀ r, r < m → eb r = iI (b r) ∧ (b r).natAbs ≤ 200) (hv : ∀ c, c < 6 → ct c = iI (v c) ∧ (v c).natAbs ≤ 100) (hz : ∀ c, nv + ns ≤ c → v c = 0) (h0 : l0 = true → y0 = iI b0 ∧ b0 ≤ 16) (h1 : l1 = true → y1 = iI b1 ∧ b1 ≤ 16) :
    sm_tot (fn_LS_canSplit (bI l0) y0 (bI l1) y1 (iI m) (iI nv) (iI ns) ct ea eb) (0, 0) = some (bI (sp_can m (nv + ns) A b v l0 l1 b0 b1)) := by
  have e53 : ∀ x, sm_tot (fn_LS_canSplit (bI l0) y0 (bI l1) y1 (iI m) (iI nv) (iI ns) ct ea eb) (53, x) = some (bI false) := fun x => by rw [sm_tot_u, fn_LS_canSplit_q53]; rfl
  have e84 : ∀ (t : Bool), sm_tot (fn_LS_canSplit (bI l0) y0 (bI l1) y1 (iI m) (iI nv) (iI ns) ct ea eb) (84, bI t) = some (bI t) := fun t => by
    rw [sm_tot_u, fn_LS_canSplit_q84]
    unfold fn_LS_canSplit_b84
    rw [if_pos bI_01, sm_ev_r]
  have e83 : ∀ x, sm_tot (fn_LS_canSplit (bI l0) y0 (bI l1) y1 (iI m) (iI nv) (iI ns) ct ea eb) (83, x) = some (bI false) := fun x => by
    rw [sm_tot_u, fn_LS_canSplit_q83]
    exact e84 false
  have g1 := ls_below (c6 := ct) (v := v) (fun c hc => ⟨(hv c hc).1, Nat.le_trans (hv c hc).2 (by omega)⟩)
  have g2 := ls_size (c6 := ct) (v := v) (fun c hc => ⟨(hv c hc).1, Nat.le_trans (hv c hc).2 (by omega)⟩)
  have g3 : sm_tot (fn_EQ_solvedBy 0 (iI m) (iI nv) (iI ns) ea eb ct) (0, 0, 0, 0, 0) = some (bI (sx_sol m (nv + ns) A b v)) := eq_solved (hom := false) hm hn hA hb (fun c hc => hv c (by omega))
  rw [sx_pl_6 hn hz] at g1
  rw [sx_sz_6 hn hz] at g2
  have hsz : sx_sz v (nv + ns) 0 ≤ (nv + ns) * 100 := sx_sz_bd (v := v) (M := 100) (fun j => by
    by_cases e : j < 6
    · exact (hv j e).2
    · rw [hz j (by omega)]; exact Nat.zero_le _) (nv + ns) 0
  have hsz2 : (nv + ns) * 100 ≤ 6 * 100 := Nat.mul_le_mul_right _ hn
  rw [sm_tot_u, fn_LS_canSplit_q0]
  unfold fn_LS_canSplit_b0 sp_can
  rw [g1, g2, g3]
  cases l0 with
  | false => rw [if_pos (show bI false = 0 from rfl), sm_ev_l, e53]; rfl
  | true =>
    obtain ⟨rfl, h0b⟩ := h0 rfl
    rw [if_neg (show ¬ bI true = 0 by decide)]
    cases l1 with
    | false => rw [if_pos (show bI false = 0 from rfl), sm_ev_l, e53]; rfl
    | true =>
      obtain ⟨rfl, h1b⟩ := h1 rfl
      rw [if_neg (show ¬ bI true = 0 by decide), Option.bind_some, Option.bind_some, Option.bind_some, Bool.true_and, Bool.true_and]
      cases sx_alf (fun j => decide (0 ≤ v j)) (nv + ns) 0 with
      | false => rw [if_neg (show ¬ bI (!false) = 0 by decide), sm_ev_l, e53]; rfl
      | true =>
        rw [if_pos (show bI (!true) = 0 from rfl), Bool.true_and]
        cases sx_sol m (nv + ns) A b v with
        | false => rw [if_pos (show bI false = 0 from rfl), sm_ev_l, e53]; rfl
        | true =>
          rw [if_neg (show ¬ bI true = 0 by decide), Bool.true_and]
          simp (disch := omega) only [ii_lt]
          by_cases q0 : sx_sz v (nv + ns) 0 ≤ b0
          · rw [if_neg (show ¬ (b0 : Int) < ((sx_sz v (nv + ns) 0 : Nat) : Int) by omega), decide_eq_true q0, Bool.true_and]
            by_cases q1 : sx_sz v (nv + ns) 0 ≤ b1
            · rw [if_neg (show ¬ (b1 : Int) < ((sx_sz v (nv + ns) 0 : Nat) : Int) by omega), decide_eq_true q1, sm_ev_l]
              exact e84 true
            · rw [if_pos (show (b1 : Int) < ((sx_sz v (nv + ns) 0 : Nat) : Int) by omega), decide_eq_false q1, sm_ev_l]
              exact e83 _
          · rw [if_pos (show (b0 : Int) < ((sx_sz v (nv + ns) 0 : Nat) : Int) by omega), decide_eq_false q0, sm_ev_l]
            exact e83 _
theorem ls_split_f (hm : m ≤ 4) (hn : nv + ns ≤ 6) (hA : ∀ r c, r < m → c < nv + ns → ea r c = iI (A r c) ∧ (A r c).natAbs ≤ 20) (hb : ∀ r, r < m → eb r = iI (b r) ∧ (b r).natAbs ≤ 200) (hv : ∀ c, c < 6 → ct c = iI (v c) ∧ (v c).natAbs ≤ 100) (hz : ∀ c, nv + ns ≤ c → v c = 0) (h0 : l0 = true → y0 = iI b0 ∧ b0 ≤ 16) (h1 : l1 = true → y1 = iI b1 ∧ b1 ≤ 16) (hc : sp_can m (nv + ns) A b v l0 l1 b0 b1 = false) {hs z0 z1 : Int32} {re ta : Nat → Int32} :
    sm_tot (fn_LS_split (bI l0) x0 y0 z0 (bI l1) x1 y1 z1 (iI m) (iI nv) (iI ns) cn0 cn1 ct ea eb) (0, 0, 0, hs, re, ta) = some (-1, hs, re, ta) := by
  have g := ls_can (b0 := b0) (b1 := b1) hm hn hA hb hv hz h0 h1
  rw [hc] at g
  rw [sm_tot_u, fn_LS_split_q0]
  unfold fn_LS_split_b0
  rw [g, Option.bind_some, if_pos (show bI false = 0 from rfl), sm_ev_r]
theorem ls_split_l (hn : nv + ns ≤ 6) (hL : L0.length ≤ 2000) (hp : vl_pic (nv + ns) L0 cn0) (hr : vl_rng (nv + ns) L0) {u : Nat → Int} (hu : sp_nn (nv + ns) u) {x hs : Int32} : ∀ d k (re ta : Nat → Int32), k + d = L0.length → (∀ c, c < nv + ns → re c = iI (sp_st (nv + ns) L0 u k c)) →
    ∃ re' ta', sm_tot (fn_LS_split 1 (iI ((nv + ns : Nat) : Int)) (iI b0) (iI L0.length) 1 (iI ((nv + ns : Nat) : Int)) (iI b1) (iI L1.length) (iI m) (iI nv) (iI ns) cn0 cn1 ct ea eb) (61, x, iI k, hs, re, ta) = some (x, 1, re', ta') ∧ ∀ j, j < L0.length → ta' j = if k ≤ j then iI ((sp_tm (nv + ns) L0 u j : Nat) : Int) else ta j := by
  intro d
  induction d with
  | zero =>
    intro k re ta hk hre
    have e : k = L0.length := by omega
    subst e
    refine ⟨re, ta, ?_, fun j hj => by rw [if_neg (by omega)]⟩
    rw [sm_tot_u, fn_LS_split_q61]
    unfold fn_LS_split_b61
    simp (disch := omega) only [ii_le, if_pos, sm_ev_r]
  | succ d ih =>
    intro k re ta hk hre
    obtain ⟨u', f1, f2⟩ := ls_often (k := k) (w := L0.getD k sx_z) (v := sp_st (nv + ns) L0 u k) hn (by omega) (hp k (by omega)) (fun c hc => Nat.le_trans (hr k (by omega) c hc) (by omega)) (sp_st_nn hu k) hre
    obtain ⟨re', ta', g1, g2⟩ := ih (k + 1) u' (upd ta k (iI ((sp_tm (nv + ns) L0 u k : Nat) : Int))) (by omega) f2
    have i2 : ((k : Int)).toNat = k := by omega
    refine ⟨re', ta', ?_, fun j hj => ?_⟩
    · rw [← g1, sm_tot_u, fn_LS_split_q61]
      unfold fn_LS_split_b61
      rw [f1, Option.bind_some, if_neg (show ¬ iI (L0.length : Int) ≤ iI (k : Int) by rw [ii_le (by omega) (by omega) (by omega) (by omega)]; omega), if_pos (show ¬ (iI (k : Int) < 0 ∨ 2000 ≤ (iI (k : Int)).toNatClampNeg) by rw [il_0, ii_lt (by omega) (by omega) (by omega) (by omega), ii_nat (by omega) (by omega)]; omega), ii_nat (by omega) (by omega), i2, sm_ev_l, il_1, ii_add]
      rfl
    · rw [g2 j hj]
      by_cases e : k + 1 ≤ j
      · rw [if_pos e, if_pos (by omega)]
      · rw [if_neg e]
        show (if j = k then iI ((sp_tm (nv + ns) L0 u k : Nat) : Int) else ta j) = _
        by_cases e2 : j = k
        · subst e2; rw [if_pos rfl, if_pos (Nat.le_refl _)]
        · rw [if_neg e2, if_neg (by omega)]
theorem ls_split_t (hm : m ≤ 4) (hn : nv + ns ≤ 6) (hA : ∀ r c, r < m → c < nv + ns → ea r c = iI (A r c) ∧ (A r c).natAbs ≤ 20) (hb : ∀ r, r < m → eb r = iI (b r) ∧ (b r).natAbs ≤ 200) (hv : ∀ c, c < 6 → ct c = iI (v c) ∧ (v c).natAbs ≤ 100) (hz : ∀ c, nv + ns ≤ c → v c = 0) (h0 : b0 ≤ 16) (h1 : b1 ≤ 16) (hc : sp_can m (nv + ns) A b v true true b0 b1 = true) (hL0 : L0.length ≤ 2000) (hp0 : vl_pic (nv + ns) L0 cn0) (hr0 : vl_rng (nv + ns) L0) (hL1 : L1.length ≤ 2000) (hp1 : vl_pic (nv + ns) L1 cn1) (hr1 : vl_rng (nv + ns) L1) {k : Nat} (hk : k < L1.length) (hf : sx_fst1 (fun w => sx_le (nv + ns) w v) L1 0 = (k : Int)) (hle : sx_le (nv + ns) (L1.getD k sx_z) v = true) {hs : Int32} {re ta : Nat → Int32} :
    ∃ re' ta', sm_tot (fn_LS_split 1 (iI ((nv + ns : Nat) : Int)) (iI b0) (iI L0.length) 1 (iI ((nv + ns : Nat) : Int)) (iI b1) (iI L1.length) (iI m) (iI nv) (iI ns) cn0 cn1 ct ea eb) (0, 0, 0, hs, re, ta) = some (iI k, 1, re', ta') ∧ ∀ j, j < L0.length → ta' j = iI ((sp_tm (nv + ns) L0 (sp_sub v (L1.getD k sx_z)) j : Nat) : Int) := by
  have g : sm_tot (fn_LS_canSplit 1 (iI b0) 1 (iI b1) (iI m) (iI nv) (iI ns) ct ea eb) (0, 0) = some (bI (sp_can m (nv + ns) A b v true true b0 b1)) := ls_can (l0 := true) (l1 := true) (y0 := iI b0) (y1 := iI b1) (b0 := b0) (b1 := b1) hm hn hA hb hv hz (fun _ => ⟨rfl, h0⟩) (fun _ => ⟨rfl, h1⟩)
  have g2 := vl_first (L := L1) (v := v) hn hL1 hp1 hr1 (fun c hc => (hv c (by omega)).1) (fun c hc => Nat.le_trans (hv c (by omega)).2 (by omega))
  rw [hf] at g2
  have hpl : sx_alf (fun j => decide (0 ≤ v j)) (nv + ns) 0 = true := by
    unfold sp_can at hc
    rw [Bool.true_and, Bool.true_and, Bool.and_eq_true] at hc
    exact hc.1
  have hnn : sp_nn (nv + ns) v := sp_pl_nn (M := 100) (by omega) hpl (fun c hc => (hv c (by omega)).2)
  obtain ⟨u1, f1, f2⟩ := vl_from (k := k) (w := L1.getD k sx_z) (v := v) (co := va_cpy ct re (0 : Int32).toNatClampNeg (0 : Int32).toNatClampNeg (6 : Int32).toNatClampNeg) hn (by omega) (hp1 k hk) (fun c hc => by
    show (if 0 ≤ c ∧ c < 0 + 6 then ct (0 + (c - 0)) else re c) = _
    rw [if_pos (by omega), Nat.zero_add, Nat.sub_zero]
    exact (hv c (by omega)).1)
  obtain ⟨re', ta', l1, l2⟩ := ls_split_l (m := m) (b0 := b0) (b1 := b1) (ea := ea) (eb := eb) (cn1 := cn1) (ct := ct) (L1 := L1) (x := iI k) (hs := hs) hn hL0 hp0 hr0 (sp_sub_nn hnn hle) L0.length 0 u1 ta (by omega) f2
  refine ⟨re', ta', ?_, fun j hj => by rw [l2 j hj, if_pos (Nat.zero_le _)]⟩
  rw [hc] at g
  rw [← l1, sm_tot_u, fn_LS_split_q0]
  unfold fn_LS_split_b0
  rw [g, Option.bind_some, if_neg (show ¬ bI true = 0 by decide), g2, Option.bind_some, if_neg (show ¬ iI (k : Int) = -1 by rw [show (-1 : Int32) = iI (-1) from rfl, ii_eq (by omega) (by omega) (by omega) (by omega)]; omega), f1, Option.bind_some, sm_ev_l]
  rfl
end SPC
