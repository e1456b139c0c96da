/-! LATTICES 20: all rows of a system: the basis, and that all that decides is below 2 ^ 62 -/
theorem rw_PH_one {s : Nat} {f : Nat → Int} (hs : 0 < s) (h0 : 0 < f 0) (hz : ∀ i, 0 < i → i < s → f i = 0) (h : Nat → Int) : rw_PH true s f h = h := by
  have c0 : rw_cnt s f ≠ 0 := fun e => by have := rw_cnt0.mp e 0 hs; omega
  have c1 : rw_cnt s f = 1 := by have := rw_cnt_le1 hz; omega
  have sp := rw_lst_spec c0
  have l0 : rw_lst s f = 0 := by
    apply Classical.byContradiction
    intro hn
    exact sp.2.1 (hz _ (by omega) sp.1)
  have pre : ∀ k, rw_pre true s f k = k := fun k => by
    funext i
    show rw_ng (true && decide (f (rw_lst s f) < 0)) i * k (rw_sg (rw_lst s f) i) = k i
    rw [l0]
    have e1 : decide (f 0 < 0) = false := decide_eq_false (by omega)
    have e2 : rw_sg 0 i = i := by
      unfold rw_sg
      by_cases hi : i = 0
      · rw [if_pos hi, hi]
      · rw [if_neg hi, if_neg hi]
    have e3 : rw_ng (true && false) i = 1 := by unfold rw_ng; rw [if_neg (fun hh => by simp at hh)]
    rw [e1, e2, e3, Int.one_mul]
  unfold rw_PH rw_fu
  simp only [rw_ph]
  rw [if_neg c0, if_pos c1]
  funext i
  show rw_pre true s f h i - rw_qs s (rw_q true s f) i * rw_pre true s f h 0 = h i
  rw [pre]
  have q0 : rw_qs s (rw_q true s f) i = 0 := by
    unfold rw_qs
    by_cases hi : 0 < i ∧ i < s
    · rw [if_pos hi]
      unfold rw_q
      rw [pre, hz i hi.1 hi.2, Int.zero_tdiv]
    · rw [if_neg hi]
  rw [q0, Int.zero_mul, Int.sub_zero]
/-- order leaves such a basis as it is -/
theorem rw_fix {n m : Nat} {V : Nat → Nat → Int} {ld : Nat → Nat} (H : rw_HNF n m V ld) : ∀ c, c ≤ n → (rw_ordN m V c).1 = V ∧ (rw_ordN m V c).2 ≤ m ∧ ∀ k, k < m → (k < (rw_ordN m V c).2 ↔ ld k < c) := by
  intro c
  induction c with
  | zero => intro _; exact ⟨rfl, Nat.zero_le _, fun k _ => ⟨fun h => absurd h (Nat.not_lt_zero k), fun h => absurd h (Nat.not_lt_zero _)⟩⟩
  | succ c ih =>
    intro hc
    obtain ⟨e1, e2, e3⟩ := ih (by omega)
    have e : rw_ordN m V (c + 1) = rw_ord1 m c (rw_ordN m V c).1 (rw_ordN m V c).2 := rfl
    rw [e, e1]
    generalize (rw_ordN m V c).2 = d at *
    unfold rw_ord1
    by_cases hl : d < m ∧ ld d = c
    · obtain ⟨hd, hl⟩ := hl
      have f0 : 0 < V (d + 0) c := by rw [Nat.add_zero, ← hl]; exact (H d hd).2.2.1
      have fz : ∀ i, 0 < i → i < m - d → V (d + i) c = 0 := fun i h0 h1 => by
        rw [← hl]; exact (H (d + i) (by omega)).2.1 _ ((H (d + i) (by omega)).2.2.2 d (by omega)).1
      have hz : rw_cnt (m - d) (fun j => V (d + j) c) ≠ 0 := fun e => by
        have : V (d + 0) c = 0 := rw_cnt0.mp e 0 (by omega)
        omega
      rw [if_neg hz]
      have g : rw_gat m d c V = V := by
        funext i c'
        unfold rw_gat
        by_cases hi : i < d
        · rw [if_pos hi]
        · rw [if_neg hi, rw_PH_one (f := fun j => V (d + j) c) (by omega) f0 fz]
          show V (d + (i - d)) c' = V i c'
          rw [show d + (i - d) = i by omega]
      have r : rw_rdu d c (rw_gat m d c V) = V := by
        rw [g]
        funext i c'
        unfold rw_rdu
        by_cases hi : i < d
        · have b := ((H d hd).2.2.2 i hi).2
          rw [hl] at b
          rw [if_pos hi, Int.ediv_eq_zero_of_lt b.1 b.2, Int.zero_mul, Int.sub_zero]
        · rw [if_neg hi]
      refine ⟨r, by show d + 1 ≤ m; omega, fun k hk => ?_⟩
      show k < d + 1 ↔ ld k < c + 1
      constructor
      · intro h
        by_cases hk' : k = d
        · rw [hk', hl]; omega
        · have := (e3 k hk).mp (by omega); omega
      · intro h
        apply Classical.byContradiction
        intro hn
        have := ((H k hk).2.2.2 d (by omega)).1
        omega
    · have hz : rw_cnt (m - d) (fun j => V (d + j) c) = 0 := rw_cnt0.mpr fun j hj => by
        have hd : d < m := by omega
        have h1 : ¬ ld d < c := fun h => Nat.lt_irrefl d ((e3 d hd).mpr h)
        have h2 : ld d ≠ c := fun h => hl ⟨hd, h⟩
        have h3 := rw_ld_mono H (show d + j < m by omega) (Nat.le_add_right d j)
        exact (H (d + j) (by omega)).2.1 c (by omega)
      rw [if_pos hz]
      refine ⟨rfl, e2, fun k hk => ?_⟩
      show k < d ↔ ld k < c + 1
      constructor
      · intro h; have := (e3 k hk).mp h; omega
      · intro h
        by_cases hk' : ld k < c
        · exact (e3 k hk).mpr hk'
        · apply Classical.byContradiction
          intro hn
          have h1 : ¬ ld d < c := fun h => Nat.lt_irrefl d ((e3 d (by omega)).mpr h)
          have h3 := rw_ld_mono H hk (show d ≤ k by omega)
          exact hl ⟨by omega, by omega⟩
theorem rw_det_rows {ρ : Nat} {α α' : Nat → Nat → Int} (h : ∀ q c, q < ρ → α q c = α' q c) : ∀ cs, rw_det ρ α cs = rw_det ρ α' cs := by
  induction ρ with
  | zero => intro cs; rfl
  | succ ρ ih =>
    intro cs
    have ih' := ih (fun q c hq => h q c (by omega))
    simp only [rw_det]
    rw [h ρ _ (by omega), ih']
    refine congrArg (_ - ·) (rw_S_congr fun j _ => ?_)
    rw [h ρ _ (by omega), ih']
theorem rw_ker_rows {n ρ : Nat} {α α' : Nat → Nat → Int} {v : Nat → Int} (h : ∀ q c, q < ρ → α q c = α' q c) : rw_ker n ρ α v ↔ rw_ker n ρ α' v := by
  have e : ∀ q, q < ρ → rw_dot n (α q) v = rw_dot n (α' q) v := fun q hq => rw_S_congr fun c _ => by rw [h q c hq]
  exact ⟨fun H q hq => by rw [← e q hq]; exact H q hq, fun H q hq => by rw [e q hq]; exact H q hq⟩
theorem rw_dat_rows {n ρ m : Nat} {α α' b : Nat → Nat → Int} {ld nn : Nat → Nat} (h : ∀ q c, q < ρ → α q c = α' q c) (H : rw_dat n ρ m α b ld nn) : rw_dat n ρ m α' b ld nn := by
  obtain ⟨h1, h2, h3, h4, h5, h6⟩ := H
  exact ⟨h1, fun i hi => (rw_ker_rows h).mp (h2 i hi), fun v hv => h3 v ((rw_ker_rows h).mpr hv), h4, h5, by rw [← rw_det_rows h]; exact h6⟩
/-- what holds behind r rows: ρ of them tell it all -/
def rw_st (n r : Nat) (A V : Nat → Nat → Int) (m : Nat) : Prop := ∃ (ρ : Nat) (ix ld nn : Nat → Nat), ρ ≤ r ∧ (∀ q, q < ρ → ix q < r) ∧ rw_dat n ρ m (fun q => A (ix q)) V ld nn ∧ ∀ v, rw_ker n ρ (fun q => A (ix q)) v ↔ rw_ker n r A v
/-- what the next row finds: its values, and order's work, are small -/
def rw_ok (n : Nat) (a : Nat → Int) (V : Nat → Nat → Int) (m : Nat) : Prop :=
  (∀ i, i < m → (rw_dot n a (V i)).natAbs ≤ 3840000) ∧ (∀ i c, i < m → c < n → (V i c).natAbs ≤ 3840000)
  ∧ (rw_cnt m (fun i => rw_dot n a (V i)) = 0 → rw_inr n m V) ∧ (rw_cnt m (fun i => rw_dot n a (V i)) ≠ 0 → rw_inr n (m - 1) (fun i => rw_nar n m a V (i + 1)))
theorem rw_dl_le {ρ : Nat} (h : ρ ≤ 4) : rw_dl ρ ≤ 3840000 := by
  rcases (show ρ = 0 ∨ ρ = 1 ∨ ρ = 2 ∨ ρ = 3 ∨ ρ = 4 by omega) with e | e | e | e | e <;> subst e <;> decide
theorem rw_st_step {n r m : Nat} {A V : Nat → Nat → Int} (hn : n ≤ 6) (hr : r ≤ 3) (haa : ∀ q c, q < r + 1 → (A q c).natAbs ≤ 20) (H : rw_st n r A V m) :
    rw_ok n (A r) V m ∧ rw_st n (r + 1) A (rw_stp n (A r) V m).1 (rw_stp n (A r) V m).2 := by
  obtain ⟨ρ, ix, ld, nn, h1, hix, h3, h4⟩ := H
  let α : Nat → Nat → Int := fun q => A (ix q)
  have ha : ∀ c, (A r c).natAbs ≤ 20 := fun c => haa r c (by omega)
  have h2 : ∀ q c, q < ρ → (α q c).natAbs ≤ 20 := fun q c hq => haa (ix q) c (by have := hix q hq; omega)
  let ix' : Nat → Nat := fun q => if q = ρ then r else ix q
  let α' : Nat → Nat → Int := fun q => A (ix' q)
  have eα : ∀ q c, q < ρ → α q c = α' q c := fun q c hq => by show A (ix q) c = A (if q = ρ then r else ix q) c; rw [if_neg (by omega)]
  have eρ : α' ρ = A r := by show A (if ρ = ρ then r else ix ρ) = A r; rw [if_pos rfl]
  have h3' := rw_dat_rows eα h3
  have ha' : ∀ q c, q < ρ + 1 → (α' q c).natAbs ≤ 20 := fun q c hq => by
    by_cases e : q = ρ
    · rw [e, eρ]; exact ha c
    · rw [← eα q c (by omega)]; exact h2 q c (by omega)
  have k1 : ∀ i c, i < m → c < n → (V i c).natAbs ≤ 3840000 := fun i c hi hc => Nat.le_trans (rw_dat_all h3 (by omega) h2 hi hc) (rw_dl_le (by omega))
  have k2 : ∀ i, i < m → (rw_dot n (A r) (V i)).natAbs ≤ 3840000 := fun i hi => by
    rw [← eρ]; exact Nat.le_trans (rw_dat_F h3' (by omega) ha' hi) (rw_dl_le (by omega))
  have hker : ∀ v, rw_ker n (r + 1) A v ↔ rw_ker n r A v ∧ rw_dot n (A r) v = 0 := fun v =>
    ⟨fun h => ⟨fun q hq => h q (by omega), h r (by omega)⟩, fun ⟨h, h'⟩ q hq => by
      by_cases e : q = r
      · rw [e]; exact h'
      · exact h q (by omega)⟩
  by_cases hz : rw_cnt m (fun i => rw_dot n (A r) (V i)) = 0
  · have fx := rw_fix h3.2.2.2.1
    have es : rw_stp n (A r) V m = (V, m) := by unfold rw_stp; rw [if_pos hz, (fx n (Nat.le_refl n)).1]
    rw [es]
    refine ⟨⟨k2, k1, fun _ c hc _ i hi => ?_, fun h => absurd hz h⟩, ρ, ix, ld, nn, by omega, fun q hq => by have := hix q hq; omega, h3, fun v => ?_⟩
    · rw [(fx c (by omega)).1]
      have := k1 i c hi hc
      omega
    · rw [hker, ← h4]
      constructor
      · intro h
        refine ⟨h, ?_⟩
        obtain ⟨X, hX⟩ := h3.2.2.1 v h
        rw [rw_dot_congr hX, rw_dot_S]
        exact rw_S_zero fun k hk => by rw [rw_cnt0.mp hz k hk, Int.mul_zero]
      · exact fun h => h.1
  · have hz' : rw_cnt m (fun i => rw_dot n (α' ρ) (V i)) ≠ 0 := by rw [eρ]; exact hz
    obtain ⟨⟨ld', nn', d'⟩, ir⟩ := rw_row4 h3' hn (by omega) ha' hz'
    rw [eρ] at d' ir
    have es : (rw_stp n (A r) V m).2 = m - 1 := by unfold rw_stp; rw [if_neg hz]
    rw [es]
    refine ⟨⟨k2, k1, fun h => absurd h hz, fun _ => ir⟩, ρ + 1, ix', ld', nn', by omega, fun q hq => ?_, d', fun v => ?_⟩
    · show (if q = ρ then r else ix q) < r + 1
      by_cases e : q = ρ
      · rw [if_pos e]; omega
      · rw [if_neg e]; have := hix q (by omega); omega
    rw [hker, ← h4]
    constructor
    · intro h
      exact ⟨(rw_ker_rows eα).mpr (fun q hq => h q (by omega)), by rw [← eρ]; exact h ρ (by omega)⟩
    · intro ⟨h, h'⟩ q hq
      by_cases e : q = ρ
      · show rw_dot n (α' q) v = 0
        rw [e, eρ]; exact h'
      · exact (rw_ker_rows eα).mp h q (by omega)
theorem rw_st_zero (n : Nat) (A : Nat → Nat → Int) : rw_st n 0 A rw_id n := by
  obtain ⟨h1, h2, h3, -⟩ := rw_bas_zero n A
  refine ⟨0, fun i => i, fun i => i, fun i => i, Nat.le_refl _, fun q hq => absurd hq (Nat.not_lt_zero q), ⟨h1, h2, h3, ?_, fun g => ?_, ?_⟩, fun v => Iff.rfl⟩
  · refine fun i hi => ⟨hi, fun c hc => ?_, ?_, fun k hk => ⟨hk, ?_⟩⟩
    · have hc' : c < i := hc
      unfold rw_id; rw [if_neg (by omega)]
    · show 0 < rw_id i i
      unfold rw_id; rw [if_pos rfl]; omega
    · show 0 ≤ rw_id k i ∧ rw_id k i < rw_id i i
      unfold rw_id; rw [if_neg (by omega), if_pos rfl]; omega
  · show rw_S n g = rw_S n g + 0
    omega
  · have : rw_P n (fun k => (rw_id k k).natAbs) = rw_P n (fun _ => 1) := rw_P_congr fun i _ => by unfold rw_id; rw [if_pos rfl]; rfl
    rw [this, rw_P_one]
    exact Nat.le_refl _
theorem rw_sol_st {n r : Nat} {A : Nat → Nat → Int} (hn : n ≤ 6) (hr : r ≤ 4) (ha : ∀ q c, q < r → (A q c).natAbs ≤ 20) : rw_st n r A (rw_sol n A r).1 (rw_sol n A r).2 ∧ ∀ q, q < r → rw_ok n (A q) (rw_sol n A q).1 (rw_sol n A q).2 := by
  induction r with
  | zero => exact ⟨rw_st_zero n A, fun q hq => absurd hq (Nat.not_lt_zero q)⟩
  | succ r ih =>
    obtain ⟨i1, i2⟩ := ih (by omega) (fun q c hq => ha q c (by omega))
    obtain ⟨s1, s2⟩ := rw_st_step hn (by omega) ha i1
    refine ⟨s2, fun q hq => ?_⟩
    by_cases e : q = r
    · rw [e]; exact s1
    · exact i2 q (by omega)
