/-! gather is a phase -/
theorem rf_pic_congr {m n : Nat} {u : Nat → Int64} {V W : Nat → Nat → Int} (h : rf_pic m n u V) (e : ∀ i c, i < m → c < n → V i c = W i c) : rf_pic m n u W := fun i c hi hc => by rw [h i c hi hc, e i c hi hc]
theorem rw_rnd_abs {t : Bool} {s i : Nat} {f : Nat → Int} (hc : rw_cnt s f ≠ 0) (hi : i < s) {M : Nat} (hM : ∀ j, j < s → (f j).natAbs ≤ M) : (rw_rnd t s f f i).natAbs ≤ M := by
  by_cases h0 : 0 < i
  · have h1 := rw_rnd_lt (t := t) hc h0 hi
    have h2 := hM _ (rw_lst_spec hc).1
    omega
  · rw [show i = 0 by omega, rw_rnd_abs0]
    exact hM _ (rw_lst_spec hc).1
theorem rw_rnd_fu {t : Bool} {s N : Nat} {f : Nat → Int} (hc : 2 ≤ rw_cnt s f) (h : (f (rw_lst s f)).natAbs < N + 1) : (rw_rnd t s f f (rw_lst s (rw_rnd t s f f))).natAbs < N ∨ (rw_cnt s (rw_rnd t s f f) ≤ 1 ∧ 0 < N) := by
  have hc0 : rw_cnt s f ≠ 0 := by omega
  obtain ⟨h1, h2, h3⟩ := rw_lst_spec hc0
  by_cases hx : ∃ i, 0 < i ∧ i < s ∧ rw_rnd t s f f i ≠ 0
  · obtain ⟨i, i1, i2, i3⟩ := hx
    left
    have hc' : rw_cnt s (rw_rnd t s f f) ≠ 0 := fun q => i3 (rw_cnt0.mp q i i2)
    have h4 := (rw_lst_spec hc').2.2 i i2 i3
    have h5 := rw_rnd_lt (t := t) hc0 i1 i2
    omega
  · right
    refine ⟨rw_cnt_le1 (fun i i1 i2 => ?_), by omega⟩
    apply Classical.byContradiction
    intro q
    exact hx ⟨i, i1, i2, q⟩
section GC
variable {d m c n : Nat}
theorem rf_ga0 {V : Nat → Nat → Int} {u : Nat → Int64} (hm : m ≤ 6) (hc : c < n) (hn : n ≤ 6) (h : rf_pic m n u V) (hr : ∀ i, i < m → (V i c).natAbs ≤ 4611686018427387903) : ∀ t, d + t ≤ m →
    sm_tot (fn_MO_gather (nI d) (nI c) (nI n) (nI m)) (15, 0, -1, 0, nI d, 0, 0, 0, u) = sm_tot (fn_MO_gather (nI d) (nI c) (nI n) (nI m)) (15, 0, rf_L d (rw_least t (fun j => V (d + j) c)), nI (rw_cnt t (fun j => V (d + j) c)), nI (d + t), 0, 0, 0, u) := by
  intro t
  induction t with
  | zero => intro _; rfl
  | succ t ih =>
    intro ht
    exact (ih (by omega)).trans (rf_ga1 hm hc hn (fun i hi => h i c hi hc) hr (by omega))
theorem rf_gar {V : Nat → Nat → Int} {u : Nat → Int64} (hm : m ≤ 6) (hc : c < n) (hn : n ≤ 6) (hd : d < m) (h : rf_pic m n u V) (hr : ∀ i, i < m → (V i c).natAbs ≤ 4611686018427387903) (hcn : rw_cnt (m - d) (fun j => V (d + j) c) ≠ 0) :
    ∃ u', sm_tot (fn_MO_gather (nI d) (nI c) (nI n) (nI m)) (2, 1, 0, 0, 0, 0, 0, 0, u) = sm_tot (fn_MO_gather (nI d) (nI c) (nI n) (nI m)) (2, (if rw_cnt (m - d) (fun j => V (d + j) c) ≤ 1 then 0 else 1), 0, 0, 0, 0, 0, 0, u') ∧ rf_pic m n u' (fun i c' => if i < d then V i c' else rw_rnd true (m - d) (fun j => V (d + j) c) (fun j => V (d + j) c') (i - d)) := by
  obtain ⟨p1, p2, p3⟩ := rw_lst_spec hcn
  have hle : rw_least (m - d) (fun j => V (d + j) c) = some (rw_lst (m - d) (fun j => V (d + j) c)) := by
    cases e : rw_least (m - d) (fun j => V (d + j) c) with
    | none => exact absurd (rw_least_none e) hcn
    | some q => unfold rw_lst; rw [e]; rfl
  have hcl : rw_cnt (m - d) (fun j => V (d + j) c) < 2 ^ 31 := by
    have hh : ∀ s f, rw_cnt s f ≤ s := by
      intro s f
      induction s with
      | zero => exact Nat.le_refl _
      | succ s ih =>
        show rw_cnt s f + (if f s = 0 then 0 else 1) ≤ s + 1
        split <;> omega
    have := hh (m - d) (fun j => V (d + j) c)
    omega
  have e0 := rf_ga0 (d := d) hm hc hn h hr (m - d) (by omega)
  rw [hle, show d + (m - d) = m by omega] at e0
  have e1 := rf_ga4 (u := u) hm hc hn hd (p := rw_lst (m - d) (fun j => V (d + j) c)) (k := rw_cnt (m - d) (fun j => V (d + j) c)) (by omega) (by omega) hcl
  have e2 : sm_tot (fn_MO_gather (nI d) (nI c) (nI n) (nI m)) (2, 1, 0, 0, 0, 0, 0, 0, u) = sm_tot (fn_MO_gather (nI d) (nI c) (nI n) (nI m)) (15, 0, -1, 0, nI d, 0, 0, 0, u) := sm_tot_l (by
    rw [fn_MO_gather_q2]
    unfold fn_MO_gather_b2
    rw [if_neg (show ¬ (1 : Int32) = 0 by decide)])
  generalize hp : rw_lst (m - d) (fun j => V (d + j) c) = p at *
  have hpm : d + p < m := by omega
  have pic1 := rf_pic_exch (i := d) (j := d + p) hn h hd hpm
  have hv1 : rf_exch n d (d + p) u (6 * d + c) = Int64.ofInt (V (d + p) c) := by
    have := pic1 d c hd hc
    simp only [if_pos] at this
    exact this
  have hb := hr (d + p) hpm
  have pic2 : rf_pic m n (if (0 : Int32) ≤ lg_cmp (rf_exch n d (d + p) u (6 * d + c)) 0 then rf_exch n d (d + p) u else rf_turn n d (rf_exch n d (d + p) u)) (fun i c' => if i < d then V i c' else rw_pre true (m - d) (fun j => V (d + j) c) (fun j => V (d + j) c') (i - d)) := by
    have key : ∀ (b : Bool), b = decide (V (d + p) c < 0) → ∀ i c', i < m → (if i < d then V i c' else rw_pre true (m - d) (fun j => V (d + j) c) (fun j => V (d + j) c') (i - d)) = if i = d then (if b = true then - V (d + p) c' else V (d + p) c') else if i = d + p then V d c' else V i c' := by
      intro b hbb i c' hi
      by_cases q : i < d
      · rw [if_pos q, if_neg (by omega), if_neg (by omega)]
      · rw [if_neg q]
        show rw_ng (true && decide (V (d + rw_lst (m - d) (fun j => V (d + j) c)) c < 0)) (i - d) * V (d + rw_sg (rw_lst (m - d) (fun j => V (d + j) c)) (i - d)) c' = _
        rw [hp, Bool.true_and, ← hbb]
        unfold rw_ng rw_sg
        by_cases q0 : i = d
        · rw [if_pos q0, if_pos (show i - d = 0 by omega)]
          cases b with
          | true => rw [if_pos ⟨by omega, rfl⟩, if_pos rfl, Int.neg_mul, Int.one_mul]
          | false => rw [if_neg (fun x => absurd x.2 (by decide)), if_neg (by decide), Int.one_mul]
        · rw [if_neg q0, if_neg (show ¬ (i - d = 0 ∧ b = true) from fun x => by omega), Int.one_mul, if_neg (show ¬ i - d = 0 by omega)]
          by_cases q1 : i = d + p
          · rw [if_pos q1, if_pos (show i - d = p by omega), Nat.add_zero]
          · rw [if_neg q1, if_neg (show ¬ i - d = p by omega), show d + (i - d) = i by omega]
    rw [hv1]
    by_cases q : V (d + p) c < 0
    · rw [if_neg (show ¬ (0 : Int32) ≤ lg_cmp (Int64.ofInt (V (d + p) c)) 0 by
        intro x
        have h' := (lg_cmp_ge _ _).mp x
        rw [rg_0, rg_le (by omega) hb] at h'
        omega)]
      refine rf_pic_congr (rf_pic_turn (i := d) hn pic1) (fun i c' hi hc' => ?_)
      rw [key true (decide_eq_true q).symm i c' hi]
      by_cases q0 : i = d
      · rw [if_pos q0, if_pos q0, if_pos q0, if_pos rfl]
      · rw [if_neg q0, if_neg q0, if_neg q0]
    · rw [if_pos (show (0 : Int32) ≤ lg_cmp (Int64.ofInt (V (d + p) c)) 0 by
        refine (lg_cmp_ge _ _).mpr ?_
        rw [rg_0, rg_le (by omega) hb]
        omega)]
      refine rf_pic_congr pic1 (fun i c' hi hc' => ?_)
      rw [key false (decide_eq_false q).symm i c' hi]
      by_cases q0 : i = d
      · rw [if_pos q0, if_pos q0, if_neg (by decide)]
      · rw [if_neg q0, if_neg q0]
  have habs : ∀ i, (rw_pre true (m - d) (fun j => V (d + j) c) (fun j => V (d + j) c) i).natAbs = (V (d + rw_sg p i) c).natAbs := fun i => by
    have := rw_ng_abs (true && decide (V (d + rw_lst (m - d) (fun j => V (d + j) c)) c < 0)) i (V (d + rw_sg (rw_lst (m - d) (fun j => V (d + j) c)) i) c)
    rw [hp] at this
    refine Eq.trans ?_ this
    show (rw_ng (true && decide (V (d + rw_lst (m - d) (fun j => V (d + j) c)) c < 0)) i * V (d + rw_sg (rw_lst (m - d) (fun j => V (d + j) c)) i) c).natAbs = _
    rw [hp]
  have hsg0 : rw_sg p 0 = p := by simp [rw_sg]
  obtain ⟨u', e3, pic3⟩ := rf_ga5 (x := nI (rw_cnt (m - d) (fun j => V (d + j) c))) hm hc hn hd pic2 (fun i hi => by
    show (if i < d then V i c else rw_pre true (m - d) (fun j => V (d + j) c) (fun j => V (d + j) c) (i - d)).natAbs ≤ _
    by_cases q : i < d
    · rw [if_pos q]; exact hr i hi
    · rw [if_neg q, habs]
      have := rw_sg_lt (p := p) (i := i - d) (s := m - d) p1 (by omega)
      exact hr _ (by omega)) (by
    show (if d < d then V d c else rw_pre true (m - d) (fun j => V (d + j) c) (fun j => V (d + j) c) (d - d)) ≠ 0
    rw [if_neg (Nat.lt_irrefl _), Nat.sub_self]
    intro q
    have := habs 0
    rw [q, hsg0] at this
    have h5 : V (d + p) c ≠ 0 := p2
    omega) (m - d - 1) (by omega)
  rw [show d + 1 + (m - d - 1) = m by omega] at e3
  refine ⟨u', e2.trans (e0.trans (e1.trans (e3.trans (rf_ga3 hm hcl)))), rf_pic_congr pic3 (fun i c' hi hc' => ?_)⟩
  by_cases q : i < d
  · rw [if_neg (show ¬ (d < i ∧ i < d + 1 + (m - d - 1)) by omega), if_pos q, if_pos q]
  · rw [if_neg q]
    by_cases q0 : i = d
    · rw [if_neg (show ¬ (d < i ∧ i < d + 1 + (m - d - 1)) by omega), if_neg q, show i - d = 0 by omega]
      unfold rw_rnd
      rw [rw_red0]
    · rw [if_pos (show d < i ∧ i < d + 1 + (m - d - 1) by omega), if_neg q, if_neg q, if_neg (Nat.lt_irrefl _), if_neg (Nat.lt_irrefl _), Nat.sub_self]
      unfold rw_rnd
      rw [rw_red1 _ _ (show 0 < i - d by omega) (show i - d < m - d by omega)]
      rfl
theorem rf_gat_l (hm : m ≤ 6) (hc : c < n) (hn : n ≤ 6) (hd : d < m) : ∀ (N : Nat) (V : Nat → Nat → Int) (u : Nat → Int64), rf_pic m n u V → (∀ i, i < m → (V i c).natAbs ≤ 4611686018427387903) → ((V (d + rw_lst (m - d) (fun j => V (d + j) c)) c).natAbs < N ∨ (rw_cnt (m - d) (fun j => V (d + j) c) ≤ 1 ∧ 0 < N)) →
    ∃ u', sm_tot (fn_MO_gather (nI d) (nI c) (nI n) (nI m)) (2, 1, 0, 0, 0, 0, 0, 0, u) = some (bI (decide (rw_cnt (m - d) (fun j => V (d + j) c) ≠ 0)), u') ∧ rf_pic m n u' (fun i c' => if i < d then V i c' else rw_ph true (m - d) N (fun j => V (d + j) c) (fun j => V (d + j) c') (i - d)) := by
  intro N
  induction N with
  | zero => intro V u _ _ h; omega
  | succ N ih =>
    intro V u h hr hN
    by_cases c0 : rw_cnt (m - d) (fun j => V (d + j) c) = 0
    · refine ⟨u, ?_, rf_pic_congr h (fun i c' hi hc' => ?_)⟩
      · have e0 := rf_ga0 (d := d) hm hc hn h hr (m - d) (by omega)
        rw [show d + (m - d) = m by omega, c0] at e0
        rw [sm_tot_u, fn_MO_gather_q2]
        unfold fn_MO_gather_b2
        rw [if_neg (show ¬ (1 : Int32) = 0 by decide), sm_ev_l, e0, sm_tot_u, fn_MO_gather_q15]
        unfold fn_MO_gather_b15
        rw [if_pos (nI_le (Nat.le_refl _) (by omega)), if_pos (show nI 0 = 0 from rfl), sm_ev_r, decide_eq_false (fun q => q c0)]
        rfl
      · by_cases q : i < d
        · rw [if_pos q]
        · rw [if_neg q]
          show _ = (if rw_cnt (m - d) (fun j => V (d + j) c) = 0 then (fun j => V (d + j) c') else _) (i - d)
          rw [if_pos c0, show d + (i - d) = i by omega]
    · obtain ⟨u1, e1, pic1⟩ := rf_gar hm hc hn hd h hr c0
      have hf : ∀ c', (fun j => (fun i c' => if i < d then V i c' else rw_rnd true (m - d) (fun j => V (d + j) c) (fun j => V (d + j) c') (i - d)) (d + j) c') = rw_rnd true (m - d) (fun j => V (d + j) c) (fun j => V (d + j) c') := fun c' => funext fun j => by
        show (if d + j < d then V (d + j) c' else rw_rnd true (m - d) (fun j => V (d + j) c) (fun j => V (d + j) c') (d + j - d)) = _
        rw [if_neg (by omega), Nat.add_sub_cancel_left]
      rw [decide_eq_true c0]
      by_cases c1 : rw_cnt (m - d) (fun j => V (d + j) c) = 1
      · rw [if_pos (show rw_cnt (m - d) (fun j => V (d + j) c) ≤ 1 by omega)] at e1
        refine ⟨u1, ?_, rf_pic_congr pic1 (fun i c' hi hc' => ?_)⟩
        · rw [e1, sm_tot_u, fn_MO_gather_q2]
          rfl
        · by_cases q : i < d
          · rw [if_pos q, if_pos q]
          · rw [if_neg q, if_neg q]
            show _ = (if rw_cnt (m - d) (fun j => V (d + j) c) = 0 then (fun j => V (d + j) c') else if rw_cnt (m - d) (fun j => V (d + j) c) = 1 then _ else _) (i - d)
            rw [if_neg c0, if_pos c1]
      · rw [if_neg (show ¬ rw_cnt (m - d) (fun j => V (d + j) c) ≤ 1 by omega)] at e1
        have hfu := rw_rnd_fu (t := true) (s := m - d) (N := N) (f := fun j => V (d + j) c) (by omega) (by omega)
        obtain ⟨u', e2, pic2⟩ := ih _ u1 pic1 (fun i hi => by
          show (if i < d then V i c else rw_rnd true (m - d) (fun j => V (d + j) c) (fun j => V (d + j) c) (i - d)).natAbs ≤ _
          by_cases q : i < d
          · rw [if_pos q]; exact hr i hi
          · rw [if_neg q]
            exact rw_rnd_abs c0 (by omega) (fun j hj => hr _ (by omega))) (by
          rw [hf c]
          show (if d + rw_lst (m - d) (rw_rnd true (m - d) (fun j => V (d + j) c) (fun j => V (d + j) c)) < d then _ else rw_rnd true (m - d) (fun j => V (d + j) c) (fun j => V (d + j) c) (d + rw_lst (m - d) (rw_rnd true (m - d) (fun j => V (d + j) c) (fun j => V (d + j) c)) - d)).natAbs < N ∨ _
          rw [if_neg (by omega), Nat.add_sub_cancel_left]
          exact hfu)
        rw [hf c] at e2 pic2
        have hne : rw_cnt (m - d) (rw_rnd true (m - d) (fun j => V (d + j) c) (fun j => V (d + j) c)) ≠ 0 := by
          intro q
          have h0 := rw_cnt0.mp q 0 (by omega)
          have h1 := rw_rnd_abs0 true (m - d) (fun j => V (d + j) c)
          rw [h0] at h1
          have h2 := (rw_lst_spec c0).2.1
          omega
        rw [decide_eq_true hne] at e2
        refine ⟨u', e1.trans e2, rf_pic_congr pic2 (fun i c' hi hc' => ?_)⟩
        by_cases q : i < d
        · rw [if_pos q, if_pos q, if_pos q]
        · rw [if_neg q, if_neg q, hf c']
          show _ = (if rw_cnt (m - d) (fun j => V (d + j) c) = 0 then (fun j => V (d + j) c') else if rw_cnt (m - d) (fun j => V (d + j) c) = 1 then _ else _) (i - d)
          rw [if_neg c0, if_neg c1]
theorem rf_gat (hm : m ≤ 6) (hc : c < n) (hn : n ≤ 6) (hd : d < m) {V : Nat → Nat → Int} {u : Nat → Int64} (h : rf_pic m n u V) (hr : ∀ i, i < m → (V i c).natAbs ≤ 4611686018427387903) :
    ∃ u', sm_tot (fn_MO_gather (nI d) (nI c) (nI n) (nI m)) (0, 0, 0, 0, 0, 0, 0, 0, u) = some (bI (decide (rw_cnt (m - d) (fun j => V (d + j) c) ≠ 0)), u') ∧ rf_pic m n u' (rw_gat m d c V) := by
  obtain ⟨u', e1, e2⟩ := rf_gat_l hm hc hn hd (rw_fu (m - d) (fun j => V (d + j) c)) V u h hr (Or.inl (Nat.lt_succ_self _))
  refine ⟨u', ?_, e2⟩
  rw [sm_tot_u, fn_MO_gather_q0]
  exact e1
end GC
