/-! order -/
theorem rg_divw {a b : Int} (ha : -9223372036854775807 ≤ a ∧ a ≤ 9223372036854775807) (hb : b.natAbs ≤ 4611686018427387903) : Int64.ofInt a / Int64.ofInt b = Int64.ofInt (a.tdiv b) := by
  have e1 : Int64.minValue.toInt = -9223372036854775808 := by decide
  have e2 : Int64.maxValue.toInt = 9223372036854775807 := by decide
  exact (Int64.ofInt_tdiv (by omega) (by omega) (by omega) (by omega)).symm
theorem rw_fl {v l : Int} (hl : 0 < l) : (v < 0 → v / l = -((-v + l - 1).tdiv l)) ∧ (0 ≤ v → v / l = v.tdiv l) := by
  refine ⟨fun h => ?_, fun h => (Int.tdiv_eq_ediv_of_nonneg h).symm⟩
  rw [Int.tdiv_eq_ediv_of_nonneg (show 0 ≤ -v + l - 1 by omega)]
  have h1 := Int.emod_add_mul_ediv (-v + l - 1) l
  have h2 := Int.emod_nonneg (-v + l - 1) (show l ≠ 0 by omega)
  have h3 := Int.emod_lt_of_pos (-v + l - 1) hl
  generalize (-v + l - 1) / l = q at *
  generalize (-v + l - 1) % l = r at *
  refine ((Int.ediv_emod_unique (q := -q) (r := l - 1 - r) hl).mpr ⟨?_, by omega, by omega⟩).1
  rw [Int.mul_neg]
  omega
section OD
variable {d m c n : Nat}
theorem rf_gaz {u : Nat → Int64} (hm : m ≤ 6) (hc : c < n) (hn : n ≤ 6) (hd : d < m) (hz : ∀ i, d ≤ i → i < m → u (6 * i + c) = 0) : sm_tot (fn_MO_gather (nI d) (nI c) (nI n) (nI m)) (0, 0, 0, 0, 0, 0, 0, 0, u) = some (0, u) := by
  have lp : ∀ k i, i + k = m → d ≤ i → sm_tot (fn_MO_gather (nI d) (nI c) (nI n) (nI m)) (15, 0, -1, 0, nI i, 0, 0, 0, u) = some (0, u) := by
    intro k
    induction k with
    | zero =>
      intro i hi hdi
      rw [show i = m by omega, sm_tot_u, fn_MO_gather_q15]
      unfold fn_MO_gather_b15
      rw [if_pos (nI_le (Nat.le_refl _) (by omega)), if_pos rfl, sm_ev_r]
    | succ k ih =>
      intro i hi hdi
      rw [sm_tot_u, fn_MO_gather_q15]
      unfold fn_MO_gather_b15
      rw [if_neg (nI_ge (show i < m by omega) (by omega)), rf_6, if_pos (nI_in (show 6 * i + c < 36 by omega) (by omega)), nI_clamp (by omega), hz i hdi (by omega), if_neg (show ¬ (0 : Int32) ≤ -1 by decide), sm_ev_l, sm_tot_u, fn_MO_gather_q59]
      unfold fn_MO_gather_b59
      rw [if_pos (show lg_cmp 0 0 = 0 by decide), sm_ev_l, sm_tot_u, fn_MO_gather_q99]
      unfold fn_MO_gather_b99
      rw [sm_ev_l, rf_s]
      exact ih (i + 1) (by omega) (by omega)
  rw [sm_tot_u, fn_MO_gather_q0]
  unfold fn_MO_gather_b0
  rw [sm_ev_l, sm_tot_u, fn_MO_gather_q2]
  unfold fn_MO_gather_b2
  rw [if_neg (show ¬ (1 : Int32) = 0 by decide), sm_ev_l]
  exact lp (m - d) d (by omega) (Nat.le_refl _)
theorem rf_or1 (hm : m ≤ 6) (hc : c < n) (hn : n ≤ 6) (hd : d < m) {V : Nat → Nat → Int} (hr : ∀ i, i ≤ d → (V i c).natAbs ≤ 4611686018427387903) (hp : 0 < V d c) : ∀ (k i : Nat) (u : Nat → Int64), i + k = d → rf_pic m n u (fun a c' => if a < i then V a c' - (V a c / V d c) * V d c' else V a c') →
    ∃ u', sm_tot (fn_MO_order (nI n) (nI m)) (31, nI d, nI c, nI i, 0, 0, 0, u) = sm_tot (fn_MO_order (nI n) (nI m)) (4, nI (d + 1), nI (c + 1), 0, 0, 0, 0, u') ∧ rf_pic m n u' (rw_rdu d c V) := by
  intro k
  induction k with
  | zero =>
    intro i u hi h
    have e : i = d := by omega
    subst e
    refine ⟨u, ?_, h⟩
    rw [sm_tot_u, fn_MO_order_q31]
    unfold fn_MO_order_b31
    rw [if_pos (nI_le (Nat.le_refl _) (by omega)), sm_ev_l, sm_tot_u, fn_MO_order_q104]
    unfold fn_MO_order_b104
    rw [sm_ev_l, rf_s, rf_s]
  | succ k ih =>
    intro i u hi h
    have hv : u (6 * i + c) = Int64.ofInt (V i c) := by
      have := h i c (by omega) hc
      dsimp only at this
      rw [if_neg (Nat.lt_irrefl _)] at this
      exact this
    have hl : u (6 * d + c) = Int64.ofInt (V d c) := by
      have := h d c hd hc
      dsimp only at this
      rw [if_neg (by omega)] at this
      exact this
    have r1 := hr i (by omega)
    have r2 := hr d (Nat.le_refl _)
    have h0 : ¬ Int64.ofInt (V d c) = 0 := fun z => by
      have := (rg_zero r2).mp z
      omega
    obtain ⟨f1, f2⟩ := rw_fl (v := V i c) hp
    have e92 : ∀ q : Int, sm_tot (fn_MO_order (nI n) (nI m)) (92, nI d, nI c, nI i, nI d, nI i, Int64.ofInt q, u) = sm_tot (fn_MO_order (nI n) (nI m)) (31, nI d, nI c, nI (i + 1), 0, 0, 0, rf_lose n i d (Int64.ofInt q) u) := fun q => by
      rw [sm_tot_u, fn_MO_order_q92]
      unfold fn_MO_order_b92
      rw [rf_lose_tot (by omega) (by omega) (by omega) hn, Option.bind_some, sm_ev_l, rf_s]
    have e31 : sm_tot (fn_MO_order (nI n) (nI m)) (31, nI d, nI c, nI i, 0, 0, 0, u) = sm_tot (fn_MO_order (nI n) (nI m)) (92, nI d, nI c, nI i, nI d, nI i, Int64.ofInt (V i c / V d c), u) := by
      rw [sm_tot_u, fn_MO_order_q31]
      unfold fn_MO_order_b31
      rw [if_neg (nI_ge (show i < d by omega) (by omega)), rf_6, rf_6, if_pos (nI_in (show 6 * i + c < 36 by omega) (by omega)), if_pos (nI_in (show 6 * d + c < 36 by omega) (by omega)), nI_clamp (by omega), nI_clamp (by omega), hv, hl]
      by_cases q : V i c < 0
      · have hx : lg_cmp (Int64.ofInt (V i c)) 0 < 0 := by
          have hn1 : ¬ (0 : Int32) ≤ lg_cmp (Int64.ofInt (V i c)) 0 := fun x => by
            have h' := (lg_cmp_ge _ _).mp x
            rw [rg_0, rg_le (by omega) r1] at h'
            omega
          exact Int32.not_le.mp hn1
        rw [if_pos hx, if_pos h0, sm_ev_l, f1 q, rg_1, ← Int64.ofInt_neg, ← Int64.ofInt_add, ← Int64.ofInt_sub, rg_divw (by omega) r2, ← Int64.ofInt_neg]
      · have hx : ¬ lg_cmp (Int64.ofInt (V i c)) 0 < 0 := by
          refine Int32.not_lt.mpr ((lg_cmp_ge _ _).mpr ?_)
          rw [rg_0, rg_le (by omega) r1]
          omega
        rw [if_neg hx, if_pos h0, sm_ev_l, f2 (by omega), rg_div r1 r2]
    obtain ⟨u', g1, g2⟩ := ih (i + 1) (rf_lose n i d (Int64.ofInt (V i c / V d c)) u) (by omega) (rf_pic_congr (rf_pic_lose (i := i) hn h hd (V i c / V d c)) (fun a c' ha hc' => by
      by_cases q : a = i
      · rw [if_pos q, if_neg (show ¬ a < i by omega), if_neg (show ¬ d < i by omega), if_pos (show a < i + 1 by omega), q]
      · rw [if_neg q]
        by_cases q2 : a < i
        · rw [if_pos q2, if_pos (show a < i + 1 by omega)]
        · rw [if_neg q2, if_neg (show ¬ a < i + 1 by omega)]))
    exact ⟨u', e31.trans ((e92 _).trans g1), g2⟩
theorem rw_ord_full {V : Nat → Nat → Int} (h : (rw_ordN m V c).2 = m) : ∀ k, rw_ordN m V (c + k) = rw_ordN m V c := by
  intro k
  induction k with
  | zero => rfl
  | succ k ih =>
    show rw_ord1 m (c + k) (rw_ordN m V (c + k)).1 (rw_ordN m V (c + k)).2 = _
    rw [ih]
    unfold rw_ord1
    rw [h, Nat.sub_self, if_pos (show rw_cnt 0 _ = 0 from rfl)]
    exact Prod.ext rfl h.symm
theorem rf_order {V : Nat → Nat → Int} (hm : m ≤ 6) (hn : n ≤ 6) (hin : rw_inr n m V) : ∀ (k c : Nat) (u : Nat → Int64), c + k = n → rf_pic m n u (rw_ordN m V c).1 → ∃ u', sm_tot (fn_MO_order (nI n) (nI m)) (4, nI (rw_ordN m V c).2, nI c, 0, 0, 0, 0, u) = some u' ∧ rf_pic m n u' (rw_ordN m V n).1 := by
  have e110 : ∀ a b x y z w u, sm_tot (fn_MO_order (nI n) (nI m)) (110, a, b, x, y, z, w, u) = some u := fun a b x y z w u => by
    rw [sm_tot_u, fn_MO_order_q110]
    rfl
  intro k
  induction k with
  | zero =>
    intro c u hc h
    have e : c = n := by omega
    subst e
    refine ⟨u, ?_, h⟩
    rw [sm_tot_u, fn_MO_order_q4]
    unfold fn_MO_order_b4
    rw [if_pos (nI_le (Nat.le_refl _) (by omega)), sm_ev_l, e110]
  | succ k ih =>
    intro c u hc h
    have hcn : c < n := by omega
    have hdm : (rw_ordN m V c).2 ≤ m := by
      obtain ⟨⟨ld, hO⟩, _⟩ := rw_ordN_O (n := n) (m := m) (c := c) (V := V)
      exact hO.1
    by_cases hf : (rw_ordN m V c).2 = m
    · refine ⟨u, ?_, ?_⟩
      · rw [hf, sm_tot_u, fn_MO_order_q4]
        unfold fn_MO_order_b4
        rw [if_neg (nI_ge hcn (by omega)), if_pos (nI_le (Nat.le_refl _) (by omega)), sm_ev_l, e110]
      · have := rw_ord_full hf (k + 1)
        rw [hc] at this
        rw [this]
        exact h
    · have hd : (rw_ordN m V c).2 < m := by omega
      have hstep : rw_ordN m V (c + 1) = rw_ord1 m c (rw_ordN m V c).1 (rw_ordN m V c).2 := rfl
      have e4 : ∀ b (u' : Nat → Int64), sm_tot (fn_MO_gather (nI (rw_ordN m V c).2) (nI c) (nI n) (nI m)) (0, 0, 0, 0, 0, 0, 0, 0, u) = some (bI b, u') → sm_tot (fn_MO_order (nI n) (nI m)) (4, nI (rw_ordN m V c).2, nI c, 0, 0, 0, 0, u) = if b = false then sm_tot (fn_MO_order (nI n) (nI m)) (4, nI (rw_ordN m V c).2, nI (c + 1), 0, 0, 0, 0, u') else sm_tot (fn_MO_order (nI n) (nI m)) (31, nI (rw_ordN m V c).2, nI c, nI 0, 0, 0, 0, u') := fun b u' hg => by
        rw [sm_tot_u, fn_MO_order_q4]
        unfold fn_MO_order_b4
        rw [if_neg (nI_ge hcn (by omega)), if_neg (nI_ge hd (by omega)), hg, Option.bind_some]
        cases b with
        | false =>
          rw [if_pos (show (bI false, u').1 = 0 from rfl), if_pos rfl, sm_ev_l, sm_tot_u, fn_MO_order_q104]
          unfold fn_MO_order_b104
          rw [sm_ev_l, rf_s]
        | true =>
          rw [if_neg (show ¬ (bI true, u').1 = 0 from show ¬ bI true = 0 by decide), if_neg (show ¬ (true = false) by decide), sm_ev_l]
          rfl
      by_cases hz : rw_cnt (m - (rw_ordN m V c).2) (fun j => (rw_ordN m V c).1 ((rw_ordN m V c).2 + j) c) = 0
      · have hg := rf_gaz (u := u) hm hcn hn hd (fun i h1 h2 => by
          have h3 := rw_cnt0.mp hz (i - (rw_ordN m V c).2) (by omega)
          rw [h i c h2 hcn]
          have h4 : (rw_ordN m V c).1 i c = 0 := by
            rw [show i = (rw_ordN m V c).2 + (i - (rw_ordN m V c).2) by omega]
            exact h3
          rw [h4]
          rfl)
        have e5 := e4 false u hg
        rw [if_pos rfl] at e5
        have hs2 : rw_ordN m V (c + 1) = rw_ordN m V c := by
          rw [hstep]
          unfold rw_ord1
          rw [if_pos hz]
        have := ih (c + 1) u (by omega) (by rw [hs2]; exact h)
        rw [hs2] at this
        rw [e5]
        exact this
      · have hrg := hin c hcn hz
        obtain ⟨u1, g1, g2⟩ := rf_gat hm hcn hn hd h hrg
        rw [decide_eq_true hz] at g1
        have e5 := e4 true u1 g1
        rw [if_neg (by decide)] at e5
        have hpos : 0 < rw_gat m (rw_ordN m V c).2 c (rw_ordN m V c).1 (rw_ordN m V c).2 c := by
          have := rw_gat_hi (m := m) (d := (rw_ordN m V c).2) (c := c) (j := 0) (c' := c) (V := (rw_ordN m V c).1)
          rw [Nat.add_zero] at this
          rw [this]
          exact rw_PH_pos hz
        have hpr : ∀ i, i ≤ (rw_ordN m V c).2 → (rw_gat m (rw_ordN m V c).2 c (rw_ordN m V c).1 i c).natAbs ≤ 4611686018427387903 := fun i hi => by
          by_cases q : i < (rw_ordN m V c).2
          · rw [rw_gat_lo q]
            exact hrg i (by omega)
          · have e : i = (rw_ordN m V c).2 + 0 := by omega
            rw [e, rw_gat_hi]
            have hB : rw_B2 (m - (rw_ordN m V c).2) 4611686018427387903 (fun j => (rw_ordN m V c).1 ((rw_ordN m V c).2 + j) c) (fun j => (rw_ordN m V c).1 ((rw_ordN m V c).2 + j) c) := ⟨fun j hj => hrg _ (by omega), fun a b _ _ => by
              rw [Int.mul_comm, Int.sub_self]
              decide⟩
            exact (rw_B2_ph (t := true) (n := rw_fu (m - (rw_ordN m V c).2) (fun j => (rw_ordN m V c).1 ((rw_ordN m V c).2 + j) c)) hB).1 0 (by omega)
        obtain ⟨u2, k1, k2⟩ := rf_or1 hm hcn hn hd hpr hpos (rw_ordN m V c).2 0 u1 (by omega) (rf_pic_congr g2 (fun a c' _ _ => by rw [if_neg (Nat.not_lt_zero _)]))
        have hs2 : rw_ordN m V (c + 1) = (rw_rdu (rw_ordN m V c).2 c (rw_gat m (rw_ordN m V c).2 c (rw_ordN m V c).1), (rw_ordN m V c).2 + 1) := by
          rw [hstep]
          unfold rw_ord1
          rw [if_neg hz]
        have := ih (c + 1) u2 (by omega) (by rw [hs2]; exact k2)
        rw [hs2] at this
        rw [e5, k1]
        exact this
theorem mo_order {V : Nat → Nat → Int} {u : Nat → Int64} (hm : m ≤ 6) (hn : n ≤ 6) (hin : rw_inr n m V) (h : rf_pic m n u V) : ∃ u', sm_tot (fn_MO_order (nI n) (nI m)) (0, 0, 0, 0, 0, 0, 0, u) = some u' ∧ rf_pic m n u' (rw_ordN m V n).1 := by
  obtain ⟨u', g1, g2⟩ := rf_order hm hn hin n 0 u (by omega) h
  refine ⟨u', ?_, g2⟩
  rw [sm_tot_u, fn_MO_order_q0]
  exact g1
end OD
