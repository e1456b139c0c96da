/-! shorten; the whole solving of the reference -/
section SW
variable {m n : Nat} {V : Nat → Nat → Int} {ld : Nat → Nat} {u : Nat → Int64}
theorem rf_sh1 (hm : m ≤ 6) (hn : n ≤ 6) (H : rw_HNF n m V ld) (h : rf_pic m n u V) (hb : ∀ i c, i < m → c < n → (V i c).natAbs ≤ 3840000) {i : Nat} (hi : i < m) (one : Nat → Int64) :
    ∃ one', sm_tot (fn_MO_shorten (nI n) (nI m) u) (2, nI i, 0, 0, 0, one) = sm_tot (fn_MO_shorten (nI n) (nI m) u) (2, nI (i + 1), 0, 0, 0, one') ∧ ∀ c, c < n → one' c = one c - one (ld i) / Int64.ofInt (V i (ld i)) * Int64.ofInt (V i c) := by
  obtain ⟨l1, l2, l3, l4⟩ := H i hi
  have lz : ∀ d c, c + d = ld i → sm_tot (fn_MO_shorten (nI n) (nI m) u) (12, nI i, nI c, 0, 0, one) = sm_tot (fn_MO_shorten (nI n) (nI m) u) (12, nI i, nI (ld i), 0, 0, one) := by
    intro d
    induction d with
    | zero => intro c hc; rw [show c = ld i by omega]
    | succ d ih =>
      intro c hc
      rw [← ih (c + 1) (by omega), sm_tot_u, fn_MO_shorten_q12]
      unfold fn_MO_shorten_b12
      rw [rf_6, if_pos (nI_in (show 6 * i + c < 36 by omega) (by omega)), nI_clamp (by omega), h i c hi (by omega), l2 c (by omega), if_pos (show lg_cmp (Int64.ofInt 0) 0 = 0 by decide), sm_ev_l, rf_s]
  have hl := hb i (ld i) hi l1
  have hz : ¬ Int64.ofInt (V i (ld i)) = 0 := fun z => by
    have := (rg_zero (by omega)).mp z
    omega
  have e12 : sm_tot (fn_MO_shorten (nI n) (nI m) u) (12, nI i, nI (ld i), 0, 0, one) = sm_tot (fn_MO_shorten (nI n) (nI m) u) (56, nI i, 0, one (ld i) / Int64.ofInt (V i (ld i)), nI 0, one) := by
    rw [sm_tot_u, fn_MO_shorten_q12]
    unfold fn_MO_shorten_b12
    rw [rf_6, if_pos (nI_in (show 6 * i + ld i < 36 by omega) (by omega)), if_pos (nI_in (show 6 * i + ld i < 36 by omega) (by omega)), nI_clamp (show 6 * i + ld i < 2 ^ 31 by omega), h i (ld i) hi l1, if_neg (show ¬ lg_cmp (Int64.ofInt (V i (ld i))) 0 = 0 from fun x => hz ((lg_cmp_eq _ _).mp x)), if_pos (nI_in (show ld i < 6 by omega) (by omega)), if_pos hz, nI_clamp (by omega), sm_ev_l]
    rfl
  have lp : ∀ (d c : Nat) (o' : Nat → Int64), c + d = n → (∀ q, q < n → o' q = if q < c then one q - one (ld i) / Int64.ofInt (V i (ld i)) * Int64.ofInt (V i q) else one q) → ∃ one', sm_tot (fn_MO_shorten (nI n) (nI m) u) (56, nI i, 0, one (ld i) / Int64.ofInt (V i (ld i)), nI c, o') = sm_tot (fn_MO_shorten (nI n) (nI m) u) (2, nI (i + 1), 0, 0, 0, one') ∧ ∀ q, q < n → one' q = one q - one (ld i) / Int64.ofInt (V i (ld i)) * Int64.ofInt (V i q) := by
    intro d
    induction d with
    | zero =>
      intro c o' hc ho
      refine ⟨o', ?_, fun q hq => by rw [ho q hq, if_pos (by omega)]⟩
      rw [sm_tot_u, fn_MO_shorten_q56]
      unfold fn_MO_shorten_b56
      rw [if_pos (nI_le (show n ≤ c by omega) (by omega)), sm_ev_l, rf_s]
    | succ d ih =>
      intro c o' hc ho
      have h1 := ho c (by omega)
      rw [if_neg (Nat.lt_irrefl _)] at h1
      obtain ⟨one', a1, a2⟩ := ih (c + 1) (vp_updL o' c (one c - one (ld i) / Int64.ofInt (V i (ld i)) * Int64.ofInt (V i c))) (by omega) (fun q hq => by
        show (if q = c then _ else o' q) = _
        by_cases e : q = c
        · rw [if_pos e, if_pos (by omega), e]
        · rw [if_neg e, ho q hq]
          by_cases e3 : q < c
          · rw [if_pos e3, if_pos (by omega)]
          · rw [if_neg e3, if_neg (by omega)])
      refine ⟨one', ?_, a2⟩
      rw [← a1, sm_tot_u, fn_MO_shorten_q56]
      unfold fn_MO_shorten_b56
      rw [if_neg (nI_ge (show c < n by omega) (by omega)), if_pos (nI_in (show c < 6 by omega) (by omega)), rf_6, if_pos (nI_in (show 6 * i + c < 36 by omega) (by omega)), if_pos (nI_in (show c < 6 by omega) (by omega)), nI_clamp (show 6 * i + c < 2 ^ 31 by omega), nI_clamp (show c < 2 ^ 31 by omega), h i c hi (by omega), h1, sm_ev_l, rf_s]
  obtain ⟨one', a1, a2⟩ := lp n 0 one (by omega) (fun q hq => by rw [if_neg (by omega)])
  refine ⟨one', Eq.trans ?_ a1, a2⟩
  rw [sm_tot_u, fn_MO_shorten_q2]
  unfold fn_MO_shorten_b2
  rw [if_neg (nI_ge hi (by omega)), sm_ev_l]
  exact (lz (ld i) 0 (by omega)).trans e12
theorem rf_sh (hm : m ≤ 6) (hn : n ≤ 6) (H : rw_HNF n m V ld) (h : rf_pic m n u V) (hb : ∀ i c, i < m → c < n → (V i c).natAbs ≤ 3840000) (one : Nat → Int64) :
    ∃ one', sm_tot (fn_MO_shorten (nI n) (nI m) u) (0, 0, 0, 0, 0, one) = some one' ∧ ∀ o : Nat → Int, (∀ c, c < n → one c = Int64.ofInt (o c)) → (∀ i, i < m → (rw_sho V ld o i (ld i)).natAbs ≤ 4611686018427387903) → ∀ c, c < n → one' c = Int64.ofInt (rw_sho V ld o m c) := by
  have lp : ∀ (d i : Nat) (oi : Nat → Int64), i + d = m → ∃ one', sm_tot (fn_MO_shorten (nI n) (nI m) u) (2, nI i, 0, 0, 0, oi) = some one' ∧ ∀ o : Nat → Int, (∀ c, c < n → oi c = Int64.ofInt (rw_sho V ld o i c)) → (∀ i, i < m → (rw_sho V ld o i (ld i)).natAbs ≤ 4611686018427387903) → ∀ c, c < n → one' c = Int64.ofInt (rw_sho V ld o m c) := by
    intro d
    induction d with
    | zero =>
      intro i oi hi
      have e : i = m := by omega
      subst e
      refine ⟨oi, ?_, fun o h1 _ => h1⟩
      rw [sm_tot_u, fn_MO_shorten_q2]
      unfold fn_MO_shorten_b2
      rw [if_pos (nI_le (Nat.le_refl _) (by omega)), sm_ev_r]
    | succ d ih =>
      intro i oi hi
      obtain ⟨o1, a1, a2⟩ := rf_sh1 hm hn H h hb (show i < m by omega) oi
      obtain ⟨one', b1, b2⟩ := ih (i + 1) o1 (by omega)
      obtain ⟨l1, l2, l3, l4⟩ := H i (by omega)
      refine ⟨one', a1.trans b1, fun o h1 h2 => b2 o (fun c hc => ?_) h2⟩
      rw [a2 c hc, h1 c hc, h1 (ld i) l1, rg_div (h2 i (by omega)) (Nat.le_trans (hb i (ld i) (by omega) l1) (by decide)), ← Int64.ofInt_mul, ← Int64.ofInt_sub]
      rfl
  obtain ⟨one', a1, a2⟩ := lp m 0 one (by omega)
  refine ⟨one', ?_, a2⟩
  rw [sm_tot_u, fn_MO_shorten_q0]
  exact a1
end SW
theorem rw_sol_le (n : Nat) (A : Nat → Nat → Int) : ∀ r, (rw_sol n A r).2 ≤ n := by
  intro r
  induction r with
  | zero => exact Nat.le_refl _
  | succ r ih =>
    show (if _ then _ else _ : (Nat → Nat → Int) × Nat).2 ≤ n
    split
    · exact ih
    · show (rw_sol n A r).2 - 1 ≤ n
      omega
section SX
variable {rows n : Nat} {cn : Nat → Int32} {A : Nat → Nat → Int} {B : Nat → Int}
def sw_inv (n : Nat) (A : Nat → Nat → Int) (B : Nat → Int) (r : Nat) (io : Bool) (u one : Nat → Int64) : Prop :=
  rf_pic (rw_sol n A r).2 n u (rw_sol n A r).1 ∧ (io = true ↔ ∃ w : Nat → Int, ∀ q, q < r → rw_dot n (A q) w = B q) ∧ (r ≤ 3 → ∃ o : Nat → Int, (∀ c, c < n → one c = Int64.ofInt (o c)) ∧ rw_os n r A B (rw_sol n A r).1 (rw_sol n A r).2 o io)
theorem sw_step (hrows : rows ≤ 4) (hn : n ≤ 6) (hA : ∀ r c, r < rows → c < n → cn (7 * r + c) = iI (A r c)) (ha : ∀ r c, (A r c).natAbs ≤ 20) (hB : ∀ r, r < rows → cn (7 * r + n) = iI (B r)) (hbb : ∀ r, (B r).natAbs ≤ 200) {r : Nat} (hr : r < rows) {io : Bool} {u one : Nat → Int64} (H : sw_inv n A B r io u one) :
    ∃ io' u' one', sm_tot (fn_MO_solveWhole (nI rows) (nI n) cn) (72, nI r, 0, 0, nI (rw_sol n A r).2, bI io, u, one) = sm_tot (fn_MO_solveWhole (nI rows) (nI n) cn) (72, nI (r + 1), 0, 0, nI (rw_sol n A (r + 1)).2, bI io', u', one') ∧ sw_inv n A B (r + 1) io' u' one' := by
  obtain ⟨h1, h2, h3⟩ := H
  obtain ⟨o, ho, hos⟩ := h3 (by omega)
  have hm := rw_sol_le n A r
  have hm' := rw_sol_le n A (r + 1)
  have hst := rw_sol_st (r := r) hn (by omega) (fun q c _ => ha q c)
  have hst1 := rw_sol_st (r := r + 1) hn (by omega) (fun q c _ => ha q c)
  have hok := hst1.2 r (by omega)
  have hbas := rw_sol_bas n r A
  have hbas1 := rw_sol_bas n (r + 1) A
  obtain ⟨ld', hH⟩ := hbas1.2.2.2
  have hmi : io = true → (rw_mi n (A r) (B r) o).natAbs ≤ 4611686018427387903 := fun e => by
    subst e
    exact Nat.le_trans (rw_os_rng hn (show r ≤ 3 by omega) (fun q c _ => ha q c) (fun q _ => hbb q) hst.1 hos rfl).1 (by decide)
  obtain ⟨u1, one1, a1, a2, a3⟩ := mo_narrow (r := r) (cn := cn) (A := A r) (β := B r) (by omega) (by omega) hn (fun c hc => ⟨hA r c hr hc, ha r c⟩) ⟨hB r hr, hbb r⟩ h1 hok.1 ho hmi
  have hs2 : (if rw_cnt (rw_sol n A r).2 (fun j => rw_dot n (A r) ((rw_sol n A r).1 j)) = 0 then (rw_sol n A r).2 else (rw_sol n A r).2 - 1) = (rw_sol n A (r + 1)).2 := by
    show _ = (if _ then _ else _ : (Nat → Nat → Int) × Nat).2
    split <;> rfl
  have hs1 : (rw_ordN (rw_sol n A (r + 1)).2 (if rw_cnt (rw_sol n A r).2 (fun j => rw_dot n (A r) ((rw_sol n A r).1 j)) = 0 then (rw_sol n A r).1 else fun i => rw_nar n (rw_sol n A r).2 (A r) (rw_sol n A r).1 (i + 1)) n).1 = (rw_sol n A (r + 1)).1 := by
    rw [← hs2]
    show _ = (if _ then _ else _ : (Nat → Nat → Int) × Nat).1
    split <;> rfl
  have hin : rw_inr n (rw_sol n A (r + 1)).2 (if rw_cnt (rw_sol n A r).2 (fun j => rw_dot n (A r) ((rw_sol n A r).1 j)) = 0 then (rw_sol n A r).1 else fun i => rw_nar n (rw_sol n A r).2 (A r) (rw_sol n A r).1 (i + 1)) := by
    rw [← hs2]
    by_cases q : rw_cnt (rw_sol n A r).2 (fun j => rw_dot n (A r) ((rw_sol n A r).1 j)) = 0
    · rw [if_pos q, if_pos q]
      exact hok.2.2.1 q
    · rw [if_neg q, if_neg q]
      exact hok.2.2.2 q
  rw [hs2] at a1 a2
  obtain ⟨u2, b1, b2⟩ := mo_order (by omega) hn hin a2
  rw [hs1] at b2
  have hV : ∀ i c, i < (rw_sol n A (r + 1)).2 → c < n → ((rw_sol n A (r + 1)).1 i c).natAbs ≤ 3840000 := fun i c hi hc => by
    obtain ⟨ρ, ix, ld, nn, q1, q2, q3, q4⟩ := hst1.1
    exact Nat.le_trans (rw_dat_all q3 (by omega) (fun q c _ => ha _ c) hi hc) (rw_dl_le (by omega))
  obtain ⟨one2, d1, d2⟩ := rf_sh (by omega) hn hH b2 hV one1
  have hstep := rw_os_step (B := B) hbas hos hH
  refine ⟨rw_io n (rw_sol n A r).2 (A r) (B r) (rw_sol n A r).1 o io, u2, one2, ?_, b2, hstep.1, fun hr3 => ?_⟩
  · rw [sm_tot_u, fn_MO_solveWhole_q72]
    unfold fn_MO_solveWhole_b72
    rw [if_neg (nI_ge hr (by omega)), a1, Option.bind_some]
    show sm_ev _ (Option.bind (sm_tot (fn_MO_order (nI n) (nI (rw_sol n A (r + 1)).2)) (0, 0, 0, 0, 0, 0, 0, u1)) _) = _
    rw [b1, Option.bind_some]
    show sm_ev _ (Option.bind (sm_tot (fn_MO_shorten (nI n) (nI (rw_sol n A (r + 1)).2) u2) (0, 0, 0, 0, 0, one1)) _) = _
    rw [d1, Option.bind_some, sm_ev_l, rf_s]
  · cases e : rw_io n (rw_sol n A r).2 (A r) (B r) (rw_sol n A r).1 o io with
    | true =>
      have hio : io = true := by
        unfold rw_io at e
        split at e
        · exact (Bool.and_eq_true _ _ ▸ e).1
        · exact (Bool.and_eq_true _ _ ▸ e).1
      subst hio
      have hrg := (rw_os_rng hn (show r ≤ 3 by omega) (fun q c _ => ha q c) (fun q _ => hbb q) hst.1 hos rfl).2.2 (by omega) e ld' hH
      rw [e] at hstep
      exact ⟨_, d2 _ a3 hrg, hstep⟩
    | false =>
      refine ⟨fun c => (one2 c).toInt, fun c hc => (Int64.ofInt_toInt _).symm, ?_, fun q => by cases q⟩
      rw [← e]
      exact hstep.1
theorem sw_loop (hrows : rows ≤ 4) (hn : n ≤ 6) (hA : ∀ r c, r < rows → c < n → cn (7 * r + c) = iI (A r c)) (ha : ∀ r c, (A r c).natAbs ≤ 20) (hB : ∀ r, r < rows → cn (7 * r + n) = iI (B r)) (hbb : ∀ r, (B r).natAbs ≤ 200) : ∀ (d r : Nat) (io : Bool) (u one : Nat → Int64), r + d = rows → sw_inv n A B r io u one →
    ∃ io' u' one', sm_tot (fn_MO_solveWhole (nI rows) (nI n) cn) (72, nI r, 0, 0, nI (rw_sol n A r).2, bI io, u, one) = some (nI (rw_sol n A rows).2, bI io', u', one') ∧ sw_inv n A B rows io' u' one' := by
  intro d
  induction d with
  | zero =>
    intro r io u one hr H
    have e : r = rows := by omega
    subst e
    refine ⟨io, u, one, ?_, H⟩
    rw [sm_tot_u, fn_MO_solveWhole_q72]
    unfold fn_MO_solveWhole_b72
    rw [if_pos (nI_le (Nat.le_refl _) (by omega)), sm_ev_r]
  | succ d ih =>
    intro r io u one hr H
    obtain ⟨io1, u1, one1, a1, a2⟩ := sw_step (rows := rows) hrows hn hA ha hB hbb (show r < rows by omega) H
    obtain ⟨io', u', one', b1, b2⟩ := ih (r + 1) io1 u1 one1 (by omega) a2
    exact ⟨io', u', one', a1.trans b1, b2⟩
theorem sw_id : ∀ k : Fin 36, (nI k.val - nI k.val / 6 * 6 = nI k.val / 6) ↔ (k.val % 6 = k.val / 6) := by decide +kernel
/-- all that the reference's solving tells -/
theorem mo_solveWhole (hrows : rows ≤ 4) (hn : n ≤ 6) (hA : ∀ r c, r < rows → c < n → cn (7 * r + c) = iI (A r c)) (ha : ∀ r c, (A r c).natAbs ≤ 20) (hB : ∀ r, r < rows → cn (7 * r + n) = iI (B r)) (hbb : ∀ r, (B r).natAbs ≤ 200) (x y : Int32) (u one : Nat → Int64) :
    ∃ io' u' one', sm_tot (fn_MO_solveWhole (nI rows) (nI n) cn) (0, 0, 0, 0, x, y, u, one) = some (nI (rw_sol n A rows).2, bI io', u', one') ∧ rf_pic (rw_sol n A rows).2 n u' (rw_sol n A rows).1 ∧ (io' = true ↔ ∃ w : Nat → Int, ∀ q, q < rows → rw_dot n (A q) w = B q) := by
  have l1 : ∀ (d k : Nat) (u' : Nat → Int64), k + d = 36 → (∀ q, q < k → u' q = if q % 6 = q / 6 then 1 else 0) → ∃ u'', sm_tot (fn_MO_solveWhole (nI rows) (nI n) cn) (15, nI k, 0, 0, nI n, 1, u', one) = sm_tot (fn_MO_solveWhole (nI rows) (nI n) cn) (51, nI 0, 0, 0, nI n, 1, u'', one) ∧ ∀ q, q < 36 → u'' q = if q % 6 = q / 6 then 1 else 0 := by
    intro d
    induction d with
    | zero =>
      intro k u' hk h
      have e : k = 36 := by omega
      subst e
      refine ⟨u', ?_, h⟩
      rw [sm_tot_u, fn_MO_solveWhole_q15]
      rfl
    | succ d ih =>
      intro k u' hk h
      have e42 : ∀ s, sm_tot (fn_MO_solveWhole (nI rows) (nI n) cn) (42, nI k, nI k, s, nI n, 1, u', one) = sm_tot (fn_MO_solveWhole (nI rows) (nI n) cn) (15, nI (k + 1), 0, 0, nI n, 1, vp_updL u' k s, one) := fun s => by
        rw [sm_tot_u, fn_MO_solveWhole_q42]
        unfold fn_MO_solveWhole_b42
        rw [if_pos (nI_in (show k < 36 by omega) (by omega)), nI_clamp (by omega), sm_ev_l, rf_s]
      obtain ⟨u'', a1, a2⟩ := ih (k + 1) (vp_updL u' k (if k % 6 = k / 6 then 1 else 0)) (by omega) (fun q hq => by
        show (if q = k then _ else u' q) = _
        by_cases e : q = k
        · rw [if_pos e, e]
        · rw [if_neg e]; exact h q (by omega))
      refine ⟨u'', ?_, a2⟩
      have hid := sw_id ⟨k, by omega⟩
      rw [← a1, sm_tot_u, fn_MO_solveWhole_q15]
      unfold fn_MO_solveWhole_b15
      rw [if_neg (show ¬ (36 : Int32) ≤ nI k from nI_ge (b := 36) (show k < 36 by omega) (by omega))]
      by_cases q : k % 6 = k / 6
      · rw [if_pos (hid.mpr q), sm_ev_l, e42, if_pos q]
      · rw [if_neg (fun x => q (hid.mp x)), sm_ev_l, e42, if_neg q]
  have l2 : ∀ (d k : Nat) (u' o' : Nat → Int64), k + d = 6 → (∀ q, q < k → o' q = 0) → ∃ o'', sm_tot (fn_MO_solveWhole (nI rows) (nI n) cn) (51, nI k, 0, 0, nI n, 1, u', o') = sm_tot (fn_MO_solveWhole (nI rows) (nI n) cn) (72, nI 0, 0, 0, nI n, bI true, u', o'') ∧ ∀ q, q < 6 → o'' q = 0 := by
    intro d
    induction d with
    | zero =>
      intro k u' o' hk h
      have e : k = 6 := by omega
      subst e
      refine ⟨o', ?_, h⟩
      rw [sm_tot_u, fn_MO_solveWhole_q51]
      rfl
    | succ d ih =>
      intro k u' o' hk h
      obtain ⟨o'', a1, a2⟩ := ih (k + 1) u' (vp_updL o' k 0) (by omega) (fun q hq => by
        show (if q = k then 0 else o' q) = 0
        by_cases e : q = k
        · rw [if_pos e]
        · rw [if_neg e]; exact h q (by omega))
      refine ⟨o'', ?_, a2⟩
      rw [← a1, sm_tot_u, fn_MO_solveWhole_q51]
      unfold fn_MO_solveWhole_b51
      rw [if_neg (show ¬ (6 : Int32) ≤ nI k from nI_ge (b := 6) (show k < 6 by omega) (by omega)), if_pos (nI_in (show k < 6 by omega) (by omega)), nI_clamp (by omega), sm_ev_l, rf_s]
  obtain ⟨u1, a1, a2⟩ := l1 36 0 u (by omega) (fun q hq => by omega)
  obtain ⟨o1, b1, b2⟩ := l2 6 0 u1 one (by omega) (fun q hq => by omega)
  obtain ⟨io', u', one', c1, c2, c3, _⟩ := sw_loop (rows := rows) hrows hn hA ha hB hbb rows 0 true u1 o1 (by omega) ⟨fun i c hi hc => by
      have hi' : i < n := hi
      rw [a2 _ (by omega), show (6 * i + c) % 6 = c by omega, show (6 * i + c) / 6 = i by omega]
      show _ = Int64.ofInt (if i = c then 1 else 0)
      by_cases e : i = c
      · rw [if_pos e.symm, if_pos e]; rfl
      · rw [if_neg (fun x => e x.symm), if_neg e]; rfl, ⟨fun _ => ⟨fun _ => 0, fun q hq => by omega⟩, fun _ => rfl⟩, fun _ => ⟨fun _ => 0, fun c hc => by rw [b2 c (by omega)]; rfl, ⟨fun _ => ⟨fun _ => 0, fun q hq => by omega⟩, fun _ => rfl⟩, fun _ => ⟨fun q hq => by omega, fun ld hH k hk => by
        have := (hH k hk).2.2.1
        show (0 : Int).natAbs < _
        omega⟩⟩⟩
  refine ⟨io', u', one', ?_, c2, c3⟩
  rw [sm_tot_u, fn_MO_solveWhole_q0]
  exact a1.trans (b1.trans c1)
end SX
