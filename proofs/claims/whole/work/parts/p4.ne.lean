/-! narrow: its end -/
section NE
variable {r m n : Nat} {cn : Nat → Int32} {A o : Nat → Int} {β : Int}
theorem rf_ne1 (hn : n ≤ 6) (hm : 0 < m) {u : Nat → Int64} {W : Nat → Int} (hW : ∀ c, c < n → u c = Int64.ofInt (W c)) {M v : Int} (hM : M.natAbs ≤ 4611686018427387903) (hv : v.natAbs ≤ 4611686018427387903) (hv0 : v ≠ 0) : ∀ (d c : Nat) (one : Nat → Int64), c + d = n → (∀ q, q < n → one q = Int64.ofInt (if q < c then o q + M.tdiv v * W q else o q)) →
    ∃ one', sm_tot (fn_MO_narrow (nI r) (nI n) cn) (273, 0, 0, 0, Int64.ofInt M, 0, 0, Int64.ofInt v, 0, nI c, 0, nI m, 1, u, one) = sm_tot (fn_MO_narrow (nI r) (nI n) cn) (323, 0, 0, 0, 0, 0, 0, 0, 0, 0, 0, nI m, 1, u, one') ∧ ∀ q, q < n → one' q = Int64.ofInt (o q + M.tdiv v * W q) := by
  have hz : ¬ Int64.ofInt v = 0 := fun z => hv0 ((rg_zero hv).mp z)
  intro d
  induction d with
  | zero =>
    intro c one hc h
    have e : c = n := by omega
    subst e
    refine ⟨one, ?_, fun q hq => by rw [h q hq, if_pos hq]⟩
    rw [sm_tot_u, fn_MO_narrow_q273]
    unfold fn_MO_narrow_b273
    rw [if_pos (nI_le (Nat.le_refl _) (by omega)), sm_ev_l]
  | succ d ih =>
    intro c one hc h
    have h1 := h c (by omega)
    rw [if_neg (Nat.lt_irrefl _)] at h1
    obtain ⟨one', e1, e2⟩ := ih (c + 1) (vp_updL one c (Int64.ofInt (o c + M.tdiv v * W c))) (by omega) (fun q hq => by
      show (if q = c then _ else one q) = _
      by_cases e : q = c
      · rw [if_pos e, if_pos (by omega), e]
      · rw [if_neg e, h q hq]
        by_cases e3 : q < c
        · rw [if_pos e3, if_pos (by omega)]
        · rw [if_neg e3, if_neg (by omega)])
    refine ⟨one', ?_, e2⟩
    rw [← e1, sm_tot_u, fn_MO_narrow_q273]
    unfold fn_MO_narrow_b273
    rw [if_neg (nI_ge (show c < n by omega) (by omega)), if_neg (show ¬ (1 : Int32) = 0 by decide), if_pos (nI_in (show c < 6 by omega) (by omega)), if_pos hz, if_pos (nI_in (show c < 36 by omega) (by omega)), if_pos (nI_in (show c < 6 by omega) (by omega)), nI_clamp (by omega), h1, hW c (by omega), rg_div hM hv, ← Int64.ofInt_mul, ← Int64.ofInt_add, sm_ev_l, rf_s]
theorem rf_ne2 {u : Nat → Int64} {io : Int32} {one : Nat → Int64} (hm0 : 0 < m) (hm : m ≤ 6) : ∀ (d k : Nat) (u' : Nat → Int64), k + d = 6 * (m - 1) → (∀ q, u' q = if q < k then u (q + 6) else u q) →
    ∃ u'', sm_tot (fn_MO_narrow (nI r) (nI n) cn) (336, 0, 0, 0, 0, 0, 0, 0, 0, nI k, 0, nI (m - 1), io, u', one) = some (nI (m - 1), io, u'', one) ∧ ∀ q, q < 6 * (m - 1) → u'' q = u (q + 6) := by
  intro d
  induction d with
  | zero =>
    intro k u' hk h
    refine ⟨u', ?_, fun q hq => by rw [h q, if_pos (by omega)]⟩
    rw [sm_tot_u, fn_MO_narrow_q336]
    unfold fn_MO_narrow_b336
    rw [rf_6m, if_pos (nI_le (show 6 * (m - 1) ≤ k by omega) (by omega)), sm_ev_r]
  | succ d ih =>
    intro k u' hk h
    obtain ⟨u'', e1, e2⟩ := ih (k + 1) (vp_updL u' k (u' (k + 6))) (by omega) (fun q => by
      show (if q = k then u' (k + 6) else u' q) = _
      by_cases e : q = k
      · rw [if_pos e, if_pos (by omega), h (k + 6), if_neg (by omega), e]
      · rw [if_neg e, h q]
        by_cases e3 : q < k
        · rw [if_pos e3, if_pos (by omega)]
        · rw [if_neg e3, if_neg (by omega)])
    refine ⟨u'', ?_, e2⟩
    rw [← e1, sm_tot_u, fn_MO_narrow_q336]
    unfold fn_MO_narrow_b336
    rw [rf_6m, if_neg (nI_ge (show k < 6 * (m - 1) by omega) (by omega)), show nI k + 6 = nI (k + 6) from nI_add k 6, if_pos (nI_in (show k + 6 < 36 by omega) (by omega)), if_pos (nI_in (show k < 36 by omega) (by omega)), nI_clamp (by omega), nI_clamp (by omega), sm_ev_l, rf_s]
/-- narrow -/
theorem mo_narrow (hr : r < 4) (hm : m ≤ 6) (hn : n ≤ 6) (hA : ∀ c, c < n → cn (7 * r + c) = iI (A c) ∧ (A c).natAbs ≤ 20) (hβ : cn (7 * r + n) = iI β ∧ β.natAbs ≤ 200) {u one : Nat → Int64} {V : Nat → Nat → Int} (h : rf_pic m n u V) (hb : ∀ i, i < m → (rw_dot n A (V i)).natAbs ≤ 3840000) (ho : ∀ c, c < n → one c = Int64.ofInt (o c)) {io : Bool} (hmi : io = true → (rw_mi n A β o).natAbs ≤ 4611686018427387903) :
    ∃ u' one', sm_tot (fn_MO_narrow (nI r) (nI n) cn) (0, 0, 0, 0, 0, 0, 0, 0, 0, 0, 0, nI m, bI io, u, one) = some (nI (if rw_cnt m (fun j => rw_dot n A (V j)) = 0 then m else m - 1), bI (rw_io n m A β V o io), u', one') ∧ rf_pic (if rw_cnt m (fun j => rw_dot n A (V j)) = 0 then m else m - 1) n u' (if rw_cnt m (fun j => rw_dot n A (V j)) = 0 then V else fun i => rw_nar n m A V (i + 1)) ∧ ∀ c, c < n → one' c = Int64.ofInt (rw_o1 n m A β V o io c) := by
  obtain ⟨u1, k, e1, k6, hk, pic1⟩ := rf_nar_l (r := r) (io := bI io) (one := one) hr hm hn hA (rw_fu m (fun j => rw_dot n A (V j))) V u 0 h (fun i hi => Nat.le_trans (hb i hi) (by decide)) (Or.inl (Nat.lt_succ_self _))
  have pic1' : rf_pic m n u1 (rw_nar n m A V) := pic1
  have e0 : sm_tot (fn_MO_narrow (nI r) (nI n) cn) (0, 0, 0, 0, 0, 0, 0, 0, 0, 0, 0, nI m, bI io, u, one) = sm_tot (fn_MO_narrow (nI r) (nI n) cn) (4, 1, 0, 0, 0, 0, 0, 0, 0, 0, 0, nI m, bI io, u, one) := by
    rw [sm_tot_u, fn_MO_narrow_q0]
    rfl
  have hd1 : sm_tot (fn_MO_dot (nI r) 6 one 0 (nI n) cn) (0, 0, 0) = some (Int64.ofInt (rw_dot n A o)) := rf_dotG (fr := 0) hr hn hA (by omega) (by omega) (fun c hc => by rw [Nat.zero_add]; exact ho c hc)
  have g1 : ¬ ((7 * nI r + nI n : Int32) < 0 ∨ 28 ≤ (7 * nI r + nI n : Int32).toNatClampNeg) := by rw [rf_7]; exact nI_in (by omega) (by omega)
  have hmis : ((cn (7 * nI r + nI n : Int32).toNatClampNeg) : Int32).toInt64 - Int64.ofInt (rw_dot n A o) = Int64.ofInt (rw_mi n A β o) := by
    rw [rf_7, nI_clamp (by omega), hβ.1, rg_i, ii_to (by omega) (by omega), ← Int64.ofInt_sub]
    rfl
  have e228 : ∀ b : Bool, sm_tot (fn_MO_narrow (nI r) (nI n) cn) (228, 0, 0, 0, 0, 0, 0, 0, 0, 0, bI b, nI m, bI io, u1, one) = some (nI m, bI b, u1, one) := fun b => by
    rw [sm_tot_u, fn_MO_narrow_q228]
    unfold fn_MO_narrow_b228
    rw [if_pos bI_01, sm_ev_r]
  have e227 : sm_tot (fn_MO_narrow (nI r) (nI n) cn) (227, 0, 0, 0, 0, 0, 0, 0, 0, 0, 0, nI m, bI io, u1, one) = some (nI m, bI false, u1, one) := by
    rw [sm_tot_u, fn_MO_narrow_q227]
    exact e228 false
  rw [e0, e1, sm_tot_u, fn_MO_narrow_q4]
  unfold fn_MO_narrow_b4
  rw [if_pos (show (0 : Int32) = 0 from rfl), if_pos g1, hd1, Option.bind_some, hmis]
  by_cases c0 : rw_cnt m (fun j => rw_dot n A (V j)) = 0
  · have hk0 : k = 0 := hk.mpr c0
    rw [if_pos (show nI k = 0 by rw [hk0]; rfl), if_pos c0, if_pos c0]
    have hio : rw_io n m A β V o io = (io && decide (rw_mi n A β o = 0)) := if_pos c0
    have ho1 : rw_o1 n m A β V o io = o := if_pos c0
    rw [hio, ho1]
    refine ⟨u1, one, ?_, rf_pic_congr pic1' (fun i c hi hc => ?_), ho⟩
    · cases io with
      | false => rw [if_pos (show bI false = 0 from rfl), sm_ev_l, Bool.false_and]; exact e227
      | true =>
        have hb' := hmi rfl
        rw [if_neg (show ¬ bI true = 0 by decide), Bool.true_and]
        by_cases q : rw_mi n A β o = 0
        · rw [if_pos (show lg_cmp (Int64.ofInt (rw_mi n A β o)) 0 = 0 from (lg_cmp_eq _ _).mpr (by rw [q]; rfl)), sm_ev_l, decide_eq_true q]
          exact e228 true
        · rw [if_neg (show ¬ lg_cmp (Int64.ofInt (rw_mi n A β o)) 0 = 0 from fun x => q ((rg_zero hb').mp ((lg_cmp_eq _ _).mp x))), sm_ev_l, decide_eq_false q]
          exact e227
    · show rw_ph false m (rw_fu m (fun j => rw_dot n A (V j))) (fun j => rw_dot n A (V j)) (fun j => V j c) i = V i c
      unfold rw_fu
      show (if rw_cnt m (fun j => rw_dot n A (V j)) = 0 then (fun j => V j c) else _) i = V i c
      rw [if_pos c0]
  · have hk0 : k ≠ 0 := fun q => c0 (hk.mp q)
    have hm0 : 0 < m := by
      rcases Nat.eq_zero_or_pos m with e | e
      · subst e; exact absurd rfl c0
      · exact e
    rw [if_neg (show ¬ nI k = 0 from nI_ne0 (by omega) (by omega)), if_neg c0, if_neg c0]
    have hd2 : sm_tot (fn_MO_dot (nI r) 36 u1 0 (nI n) cn) (0, 0, 0) = some (Int64.ofInt (rw_dot n A (rw_nar n m A V 0))) := rf_dotV hr hm hn hA pic1' (i := 0) hm0
    have hv0 : rw_dot n A (rw_nar n m A V 0) ≠ 0 := by
      rw [rw_nar_dot hm0]
      exact rw_PH_ne0 c0
    have hvr : (rw_dot n A (rw_nar n m A V 0)).natAbs ≤ 4611686018427387903 := by
      rw [rw_nar_dot hm0]
      have hB : rw_B2 m 3840000 (fun j => rw_dot n A (V j)) (fun j => rw_dot n A (V j)) := ⟨fun j hj => hb j hj, fun a b _ _ => by
        rw [Int.mul_comm, Int.sub_self]
        decide⟩
      exact Nat.le_trans ((rw_B2_ph (t := false) (n := rw_fu m (fun j => rw_dot n A (V j))) hB).1 0 hm0) (by decide)
    have hz : ¬ Int64.ofInt (rw_dot n A (rw_nar n m A V 0)) = 0 := fun z => hv0 ((rg_zero hvr).mp z)
    have hio : rw_io n m A β V o io = (io && decide ((rw_mi n A β o).tmod (rw_dot n A (rw_nar n m A V 0)) = 0)) := if_neg c0
    have ho1 : rw_o1 n m A β V o io = if rw_io n m A β V o io = true then fun c => o c + (rw_mi n A β o).tdiv (rw_dot n A (rw_nar n m A V 0)) * rw_nar n m A V 0 c else o := if_neg c0
    have e323 : ∀ (x : Int32) (one' : Nat → Int64), ∃ u', sm_tot (fn_MO_narrow (nI r) (nI n) cn) (323, 0, 0, 0, 0, 0, 0, 0, 0, 0, 0, nI m, x, u1, one') = some (nI (m - 1), x, u', one') ∧ rf_pic (m - 1) n u' (fun i => rw_nar n m A V (i + 1)) := fun x one' => by
      obtain ⟨u', a1, a2⟩ := rf_ne2 (r := r) (n := n) (cn := cn) (u := u1) (io := x) (one := one') hm0 hm (6 * (m - 1)) 0 u1 (by omega) (fun q => by rw [if_neg (by omega)])
      refine ⟨u', ?_, fun i c hi hc => ?_⟩
      · rw [sm_tot_u, fn_MO_narrow_q323]
        unfold fn_MO_narrow_b323
        rw [sm_ev_l, show nI m - 1 = nI (m - 1) by
          have := nI_pred (m - 1)
          rw [show m - 1 + 1 = m by omega] at this
          exact this]
        exact a1
      · rw [a2 _ (by omega), show 6 * i + c + 6 = 6 * (i + 1) + c by omega]
        exact pic1' (i + 1) c (by omega) hc
    rw [hd2, Option.bind_some]
    have eno : ∀ x4 x6, sm_tot (fn_MO_narrow (nI r) (nI n) cn) (273, 0, 0, 0, x4, 0, 0, x6, 0, 0, 0, nI m, 0, u1, one) = sm_tot (fn_MO_narrow (nI r) (nI n) cn) (323, 0, 0, 0, 0, 0, 0, 0, 0, 0, 0, nI m, 0, u1, one) := fun x4 x6 => by
      rw [sm_tot_u, fn_MO_narrow_q273]
      unfold fn_MO_narrow_b273
      rw [if_pos (show (0 : Int32) = 0 from rfl)]
      split <;> rw [sm_ev_l]
    have e267 : ∀ (b : Bool) x4 x6, sm_tot (fn_MO_narrow (nI r) (nI n) cn) (267, 0, 0, 0, x4, 0, 0, x6, 0, 0, bI b, nI m, bI io, u1, one) = sm_tot (fn_MO_narrow (nI r) (nI n) cn) (273, 0, 0, 0, x4, 0, 0, x6, 0, 0, 0, nI m, bI b, u1, one) := fun b x4 x6 => by
      rw [sm_tot_u, fn_MO_narrow_q267]
      unfold fn_MO_narrow_b267
      rw [if_pos bI_01, sm_ev_l]
    have e266 : ∀ x4 x6, sm_tot (fn_MO_narrow (nI r) (nI n) cn) (266, 0, 0, 0, x4, 0, 0, x6, 0, 0, 0, nI m, bI io, u1, one) = sm_tot (fn_MO_narrow (nI r) (nI n) cn) (323, 0, 0, 0, 0, 0, 0, 0, 0, 0, 0, nI m, 0, u1, one) := fun x4 x6 => by
      rw [sm_tot_u, fn_MO_narrow_q266]
      exact (e267 false _ _).trans (eno _ _)
    obtain ⟨u', a1, a2⟩ := e323 0 one
    cases io with
    | false =>
      rw [if_pos (show bI false = 0 from rfl), sm_ev_l]
      rw [Bool.false_and] at hio
      rw [ho1, hio, if_neg (show ¬ (false = true) by decide)]
      exact ⟨u', one, (e266 _ _).trans a1, a2, ho⟩
    | true =>
      have hb' := hmi rfl
      have htm := rw_tmod_lt (rw_mi n A β o) hv0
      rw [if_neg (show ¬ bI true = 0 by decide), if_pos hz, rg_div hb' hvr, ← Int64.ofInt_mul, ← Int64.ofInt_sub, rw_tmod_eq]
      rw [Bool.true_and] at hio
      by_cases q : (rw_mi n A β o).tmod (rw_dot n A (rw_nar n m A V 0)) = 0
      · rw [decide_eq_true q] at hio
        rw [ho1, hio, if_pos rfl, if_pos (show lg_cmp (Int64.ofInt ((rw_mi n A β o).tmod (rw_dot n A (rw_nar n m A V 0)))) 0 = 0 from (lg_cmp_eq _ _).mpr (by rw [q]; rfl)), sm_ev_l]
        obtain ⟨one', b1, b2⟩ := rf_ne1 (r := r) (cn := cn) (o := o) hn hm0 (u := u1) (W := rw_nar n m A V 0) (fun c hc => by have := pic1' 0 c hm0 hc; rw [Nat.mul_zero, Nat.zero_add] at this; exact this) hb' hvr hv0 n 0 one (by omega) (fun q hq => by rw [ho q hq, if_neg (by omega)])
        obtain ⟨u'', d1, d2⟩ := e323 1 one'
        exact ⟨u'', one', (e267 true _ _).trans (b1.trans d1), d2, b2⟩
      · rw [decide_eq_false q] at hio
        rw [ho1, hio, if_neg (show ¬ (false = true) by decide), if_neg (show ¬ lg_cmp (Int64.ofInt ((rw_mi n A β o).tmod (rw_dot n A (rw_nar n m A V 0)))) 0 = 0 from fun x => q ((rg_zero (by omega)).mp ((lg_cmp_eq _ _).mp x))), sm_ev_l]
        exact ⟨u', one, (e266 _ _).trans a1, a2, ho⟩
end NE
