/-! the class's lattice: small steps -/
theorem rg_pos (x : Int64) : (0 ≤ x) ↔ x.toBitVec.msb = false := by
  rw [Int64.le_iff_toInt_le, show (0 : Int64).toInt = 0 from rfl, BitVec.msb_eq_toInt, decide_eq_false_iff_not]
  show 0 ≤ x.toBitVec.toInt ↔ ¬ x.toBitVec.toInt < 0
  omega
theorem rg_xor {a b : Int} (ha : a.natAbs ≤ 4611686018427387903) (hb : b.natAbs ≤ 4611686018427387903) (hb0 : 0 < b) : (0 ≤ Int64.ofInt a ^^^ Int64.ofInt b) ↔ 0 ≤ a := by
  have h1 := rg_pos (Int64.ofInt a)
  have h2 := rg_pos (Int64.ofInt b)
  rw [rg_0, rg_le (by omega) ha] at h1
  rw [rg_0, rg_le (by omega) hb] at h2
  rw [rg_pos, Int64.toBitVec_xor, BitVec.msb_xor, h2.mp (by omega), Bool.xor_false]
  exact h1.symm
theorem jm_floorDiv {a b : Int} (ha : a.natAbs ≤ 4611686018427387903) (hb : b.natAbs ≤ 4611686018427387903) (hb0 : 0 < b) : sm_tot (fn_JM_floorDiv (Int64.ofInt a) (Int64.ofInt b)) (0, 0) = some (Int64.ofInt (a / b)) := by
  have hz : ¬ Int64.ofInt b = 0 := fun z => by
    have := (rg_zero hb).mp z
    omega
  have e27 : ∀ x, sm_tot (fn_JM_floorDiv (Int64.ofInt a) (Int64.ofInt b)) (27, x) = some x := fun x => by rw [sm_tot_u, fn_JM_floorDiv_q27]; rfl
  rw [sm_tot_u, fn_JM_floorDiv_q0]
  unfold fn_JM_floorDiv_b0
  rw [if_pos hz, rg_div ha hb]
  by_cases q : 0 ≤ a
  · rw [if_pos (show (0 : Int32) ≤ lg_cmp (Int64.ofInt a ^^^ Int64.ofInt b) 0 from (lg_cmp_ge _ _).mpr ((rg_xor ha hb hb0).mpr q)), sm_ev_l, e27, Int.tdiv_eq_ediv_of_nonneg q]
  · rw [if_neg (show ¬ (0 : Int32) ≤ lg_cmp (Int64.ofInt a ^^^ Int64.ofInt b) 0 from fun x => q ((rg_xor ha hb hb0).mp ((lg_cmp_ge _ _).mp x))), ← Int64.ofInt_mul]
    have hbt := rw_tmod_btw a b
    have htm := rw_tmod_eq a b
    have htl := rw_tmod_lt a (show b ≠ 0 by omega)
    have hbnd : (a.tdiv b * b).natAbs ≤ 4611686018427387903 := by
      unfold rw_btw at hbt
      omega
    by_cases q2 : a.tdiv b * b = a
    · rw [if_pos (show lg_cmp (Int64.ofInt (a.tdiv b * b)) (Int64.ofInt a) = 0 from (lg_cmp_eq _ _).mpr (by rw [q2])), sm_ev_l, e27]
      have : a / b = a.tdiv b := by
        refine ((Int.ediv_emod_unique (q := a.tdiv b) (r := 0) hb0).mpr ⟨?_, by omega, by omega⟩).1
        rw [Int.mul_comm b]
        omega
      rw [this]
    · rw [if_neg (show ¬ lg_cmp (Int64.ofInt (a.tdiv b * b)) (Int64.ofInt a) = 0 from fun x => q2 ((rg_inj hbnd ha).mp ((lg_cmp_eq _ _).mp x))), sm_ev_r, rg_1, ← Int64.ofInt_sub]
      have : a / b = a.tdiv b - 1 := by
        unfold rw_btw at hbt
        refine ((Int.ediv_emod_unique (q := a.tdiv b - 1) (r := a.tmod b + b) hb0).mpr ⟨?_, by omega, by omega⟩).1
        rw [Int.mul_sub, Int.mul_comm b, Int.mul_one]
        omega
      rw [this]
theorem lg_cmp_le0 {a : Int} (ha : a.natAbs ≤ 4611686018427387903) : (lg_cmp (Int64.ofInt a) 0 ≤ 0) = (a ≤ 0) := by
  refine propext ⟨fun q => ?_, fun q => ?_⟩
  · rcases (show 0 < a ∨ a ≤ 0 by omega) with h | h
    · exfalso
      have h1 : (0 : Int32) ≤ lg_cmp (Int64.ofInt a) 0 := (lg_cmp_ge _ _).mpr (by rw [rg_0, rg_le (by omega) ha]; omega)
      have h2 : lg_cmp (Int64.ofInt a) 0 = 0 := Int32.le_antisymm q h1
      have := (rg_zero ha).mp ((lg_cmp_eq _ _).mp h2)
      omega
    · exact h
  · by_cases e : a = 0
    · rw [e]; decide
    · have h1 : ¬ (0 : Int32) ≤ lg_cmp (Int64.ofInt a) 0 := fun x => by
        have h' := (lg_cmp_ge _ _).mp x
        rw [rg_0, rg_le (by omega) ha] at h'
        omega
      exact Int32.le_of_lt (Int32.not_le.mp h1)
section TT
variable {w : Nat}
theorem la_tfr (hw : w ≤ 10) {rho : Nat} {q : Int64} {bs : Nat → Nat → Int64} (f : Nat → Int64) : ∃ f', sm_tot (fn_LA_takeTimes_fr rho q (iI w) bs) (0, 0, f) = some f' ∧ ∀ c, c < w → f' c = f c - q * bs rho c := by
  have e37 : ∀ x u, sm_tot (fn_LA_takeTimes_fr rho q (iI w) bs) (37, x, u) = some u := fun x u => by rw [sm_tot_u, fn_LA_takeTimes_fr_q37]; rfl
  have lp : ∀ (d i : Nat) (u : Nat → Int64), i + d = w → (∀ c, c < w → u c = if c < i then f c - q * bs rho c else f c) → ∃ f', sm_tot (fn_LA_takeTimes_fr rho q (iI w) bs) (9, iI i, u) = some f' ∧ ∀ c, c < w → f' c = f c - q * bs rho c := by
    intro d
    induction d with
    | zero =>
      intro i u hi hu
      refine ⟨u, ?_, fun c hc => by rw [hu c hc, if_pos (by omega)]⟩
      rw [sm_tot_u, fn_LA_takeTimes_fr_q9]
      unfold fn_LA_takeTimes_fr_b9
      rw [if_pos (show iI (w : Int) ≤ iI (i : Int) by rw [ii_le (by omega) (by omega) (by omega) (by omega)]; omega), sm_ev_l, e37]
    | succ d ih =>
      intro i u hi hu
      have i2 : ((i : Int)).toNat = i := by omega
      have h1 := hu i (by omega)
      rw [if_neg (Nat.lt_irrefl _)] at h1
      obtain ⟨f', a1, a2⟩ := ih (i + 1) (vp_updL u i (f i - q * bs rho i)) (by omega) (fun c hc => by
        show (if c = i then _ else u c) = _
        by_cases e : c = i
        · rw [if_pos e, if_pos (by omega), e]
        · rw [if_neg e, hu c hc]
          by_cases e3 : c < i
          · rw [if_pos e3, if_pos (by omega)]
          · rw [if_neg e3, if_neg (by omega)])
      refine ⟨f', ?_, a2⟩
      rw [← a1, sm_tot_u, fn_LA_takeTimes_fr_q9]
      unfold fn_LA_takeTimes_fr_b9
      rw [if_neg (show ¬ iI (w : Int) ≤ iI (i : Int) by rw [ii_le (by omega) (by omega) (by omega) (by omega)]; omega), if_pos (ii_g (a := (i : Int)) (N := 10) (by omega) (by omega) (by omega)), ii_nat (by omega) (by omega), i2, h1, sm_ev_l, ii_s]
  rw [sm_tot_u, fn_LA_takeTimes_fr_q0]
  unfold fn_LA_takeTimes_fr_b0
  by_cases e : q = 0
  · rw [if_pos (show lg_cmp q 0 = 0 from (lg_cmp_eq _ _).mpr e), sm_ev_l]
    refine ⟨f, e37 _ _, fun c hc => ?_⟩
    rw [e, Int64.zero_mul, Int64.sub_zero]
  · rw [if_neg (show ¬ lg_cmp q 0 = 0 from fun x => e ((lg_cmp_eq _ _).mp x)), sm_ev_l]
    exact lp w 0 f (by omega) (fun c hc => by rw [if_neg (by omega)])
theorem la_trf (hw : w ≤ 10) {rho : Nat} {q : Int64} {f : Nat → Int64} (bs : Nat → Nat → Int64) : ∃ bs', sm_tot (fn_LA_takeTimes_rf rho q (iI w) f) (0, 0, bs) = some bs' ∧ (∀ c, c < w → bs' rho c = bs rho c - q * f c) ∧ ∀ r, r ≠ rho → bs' r = bs r := by
  have e37 : ∀ x u, sm_tot (fn_LA_takeTimes_rf rho q (iI w) f) (37, x, u) = some u := fun x u => by rw [sm_tot_u, fn_LA_takeTimes_rf_q37]; rfl
  have lp : ∀ (d i : Nat) (u : Nat → Nat → Int64), i + d = w → (∀ c, c < w → u rho c = if c < i then bs rho c - q * f c else bs rho c) → (∀ r, r ≠ rho → u r = bs r) → ∃ bs', sm_tot (fn_LA_takeTimes_rf rho q (iI w) f) (9, iI i, u) = some bs' ∧ (∀ c, c < w → bs' rho c = bs rho c - q * f c) ∧ ∀ r, r ≠ rho → bs' r = bs r := by
    intro d
    induction d with
    | zero =>
      intro i u hi hu hr
      refine ⟨u, ?_, fun c hc => by rw [hu c hc, if_pos (by omega)], hr⟩
      rw [sm_tot_u, fn_LA_takeTimes_rf_q9]
      unfold fn_LA_takeTimes_rf_b9
      rw [if_pos (show iI (w : Int) ≤ iI (i : Int) by rw [ii_le (by omega) (by omega) (by omega) (by omega)]; omega), sm_ev_l, e37]
    | succ d ih =>
      intro i u hi hu hr
      have i2 : ((i : Int)).toNat = i := by omega
      have h1 := hu i (by omega)
      rw [if_neg (Nat.lt_irrefl _)] at h1
      obtain ⟨bs', a1, a2⟩ := ih (i + 1) (up2 u rho (vp_updL (u rho) i (bs rho i - q * f i))) (by omega) (fun c hc => by
        rw [up2_eq]
        show (if c = i then _ else u rho c) = _
        by_cases e : c = i
        · rw [if_pos e, if_pos (by omega), e]
        · rw [if_neg e, hu c hc]
          by_cases e3 : c < i
          · rw [if_pos e3, if_pos (by omega)]
          · rw [if_neg e3, if_neg (by omega)]) (fun r h => (up2_ne _ _ h).trans (hr r h))
      refine ⟨bs', ?_, a2⟩
      rw [← a1, sm_tot_u, fn_LA_takeTimes_rf_q9]
      unfold fn_LA_takeTimes_rf_b9
      rw [if_neg (show ¬ iI (w : Int) ≤ iI (i : Int) by rw [ii_le (by omega) (by omega) (by omega) (by omega)]; omega), if_pos (ii_g (a := (i : Int)) (N := 10) (by omega) (by omega) (by omega)), ii_nat (by omega) (by omega), i2, h1, sm_ev_l, ii_s]
  rw [sm_tot_u, fn_LA_takeTimes_rf_q0]
  unfold fn_LA_takeTimes_rf_b0
  by_cases e : q = 0
  · rw [if_pos (show lg_cmp q 0 = 0 from (lg_cmp_eq _ _).mpr e), sm_ev_l]
    refine ⟨bs, e37 _ _, fun c hc => ?_, fun _ _ => rfl⟩
    rw [e, Int64.zero_mul, Int64.sub_zero]
  · rw [if_neg (show ¬ lg_cmp q 0 = 0 from fun x => e ((lg_cmp_eq _ _).mp x)), sm_ev_l]
    exact lp w 0 bs (by omega) (fun c hc => by rw [if_neg (by omega)]) (fun _ _ => rfl)
theorem la_trr (hw : w ≤ 10) {rho rhp : Nat} (hne : rhp ≠ rho) {q : Int64} (bs : Nat → Nat → Int64) : ∃ bs', sm_tot (fn_LA_takeTimes_rr rho rhp q (iI w)) (0, 0, bs) = some bs' ∧ (∀ c, c < w → bs' rho c = bs rho c - q * bs rhp c) ∧ ∀ r, r ≠ rho → bs' r = bs r := by
  have e37 : ∀ x u, sm_tot (fn_LA_takeTimes_rr rho rhp q (iI w)) (37, x, u) = some u := fun x u => by rw [sm_tot_u, fn_LA_takeTimes_rr_q37]; rfl
  have lp : ∀ (d i : Nat) (u : Nat → Nat → Int64), i + d = w → (∀ c, c < w → u rho c = if c < i then bs rho c - q * bs rhp c else bs rho c) → (∀ r, r ≠ rho → u r = bs r) → ∃ bs', sm_tot (fn_LA_takeTimes_rr rho rhp q (iI w)) (9, iI i, u) = some bs' ∧ (∀ c, c < w → bs' rho c = bs rho c - q * bs rhp c) ∧ ∀ r, r ≠ rho → bs' r = bs r := by
    intro d
    induction d with
    | zero =>
      intro i u hi hu hr
      refine ⟨u, ?_, fun c hc => by rw [hu c hc, if_pos (by omega)], hr⟩
      rw [sm_tot_u, fn_LA_takeTimes_rr_q9]
      unfold fn_LA_takeTimes_rr_b9
      rw [if_pos (show iI (w : Int) ≤ iI (i : Int) by rw [ii_le (by omega) (by omega) (by omega) (by omega)]; omega), sm_ev_l, e37]
    | succ d ih =>
      intro i u hi hu hr
      have i2 : ((i : Int)).toNat = i := by omega
      have h1 := hu i (by omega)
      rw [if_neg (Nat.lt_irrefl _)] at h1
      obtain ⟨bs', a1, a2⟩ := ih (i + 1) (up2 u rho (vp_updL (u rho) i (bs rho i - q * bs rhp i))) (by omega) (fun c hc => by
        rw [up2_eq]
        show (if c = i then _ else u rho c) = _
        by_cases e : c = i
        · rw [if_pos e, if_pos (by omega), e]
        · rw [if_neg e, hu c hc]
          by_cases e3 : c < i
          · rw [if_pos e3, if_pos (by omega)]
          · rw [if_neg e3, if_neg (by omega)]) (fun r h => (up2_ne _ _ h).trans (hr r h))
      refine ⟨bs', ?_, a2⟩
      rw [← a1, sm_tot_u, fn_LA_takeTimes_rr_q9]
      unfold fn_LA_takeTimes_rr_b9
      rw [if_neg (show ¬ iI (w : Int) ≤ iI (i : Int) by rw [ii_le (by omega) (by omega) (by omega) (by omega)]; omega), if_pos (ii_g (a := (i : Int)) (N := 10) (by omega) (by omega) (by omega)), ii_nat (by omega) (by omega), i2, h1, hr rhp hne, sm_ev_l, ii_s]
  rw [sm_tot_u, fn_LA_takeTimes_rr_q0]
  unfold fn_LA_takeTimes_rr_b0
  by_cases e : q = 0
  · rw [if_pos (show lg_cmp q 0 = 0 from (lg_cmp_eq _ _).mpr e), sm_ev_l]
    refine ⟨bs, e37 _ _, fun c hc => ?_, fun _ _ => rfl⟩
    rw [e, Int64.zero_mul, Int64.sub_zero]
  · rw [if_neg (show ¬ lg_cmp q 0 = 0 from fun x => e ((lg_cmp_eq _ _).mp x)), sm_ev_l]
    exact lp w 0 bs (by omega) (fun c hc => by rw [if_neg (by omega)]) (fun _ _ => rfl)
theorem la_swap (hw : w ≤ 10) {rho : Nat} (hr : rho < 6) (bs : Nat → Nat → Int64) (f : Nat → Int64) : ∃ bs' f', sm_tot (fn_LA_swapFresh (iI rho) (iI w)) (0, 0, bs, f) = some (bs', f') ∧ (∀ c, c < w → bs' rho c = f c ∧ f' c = bs rho c) ∧ ∀ r, r ≠ rho → bs' r = bs r := by
  have ir : ((rho : Int)).toNat = rho := by omega
  have lp : ∀ (d i : Nat) (u : Nat → Nat → Int64) (g : Nat → Int64), i + d = w → (∀ c, c < w → u rho c = (if c < i then f c else bs rho c) ∧ g c = if c < i then bs rho c else f c) → (∀ r, r ≠ rho → u r = bs r) → ∃ bs' f', sm_tot (fn_LA_swapFresh (iI rho) (iI w)) (2, iI i, u, g) = some (bs', f') ∧ (∀ c, c < w → bs' rho c = f c ∧ f' c = bs rho c) ∧ ∀ r, r ≠ rho → bs' r = bs r := by
    intro d
    induction d with
    | zero =>
      intro i u g hi hu hr'
      refine ⟨u, g, ?_, fun c hc => ?_, hr'⟩
      · rw [sm_tot_u, fn_LA_swapFresh_q2]
        unfold fn_LA_swapFresh_b2
        rw [if_pos (show iI (w : Int) ≤ iI (i : Int) by rw [ii_le (by omega) (by omega) (by omega) (by omega)]; omega), sm_ev_r]
      · have := hu c hc
        rw [if_pos (by omega), if_pos (by omega)] at this
        exact this
    | succ d ih =>
      intro i u g hi hu hr'
      have i2 : ((i : Int)).toNat = i := by omega
      have h1 := hu i (by omega)
      rw [if_neg (Nat.lt_irrefl _), if_neg (Nat.lt_irrefl _)] at h1
      obtain ⟨bs', f', a1, a2⟩ := ih (i + 1) (up2 u rho (vp_updL (u rho) i (f i))) (vp_updL g i (bs rho i)) (by omega) (fun c hc => by
        rw [up2_eq]
        show (if c = i then _ else u rho c) = _ ∧ (if c = i then _ else g c) = _
        obtain ⟨b1, b2⟩ := hu c hc
        by_cases e : c = i
        · rw [if_pos e, if_pos e, if_pos (by omega), if_pos (by omega), e]
          exact ⟨rfl, rfl⟩
        · rw [if_neg e, if_neg e, b1, b2]
          by_cases e3 : c < i
          · rw [if_pos e3, if_pos e3, if_pos (by omega), if_pos (by omega)]
            exact ⟨rfl, rfl⟩
          · rw [if_neg e3, if_neg e3, if_neg (by omega), if_neg (by omega)]
            exact ⟨rfl, rfl⟩) (fun r h => (up2_ne _ _ h).trans (hr' r h))
      refine ⟨bs', f', ?_, a2⟩
      rw [← a1, sm_tot_u, fn_LA_swapFresh_q2]
      unfold fn_LA_swapFresh_b2
      rw [if_neg (show ¬ iI (w : Int) ≤ iI (i : Int) by rw [ii_le (by omega) (by omega) (by omega) (by omega)]; omega), if_pos (ii_g (a := (rho : Int)) (N := 6) (by omega) (by omega) (by omega)), if_pos (ii_g (a := (i : Int)) (N := 10) (by omega) (by omega) (by omega)), ii_nat (by omega) (by omega), ii_nat (by omega) (by omega), ir, i2, h1.1, h1.2, sm_ev_l, ii_s]
  rw [sm_tot_u, fn_LA_swapFresh_q0]
  exact lp w 0 bs f (by omega) (fun c hc => by rw [if_neg (by omega), if_neg (by omega)]; exact ⟨rfl, rfl⟩) (fun _ _ => rfl)
theorem la_mlp (hw : w ≤ 10) {rho a : Nat} (hr : rho < 6) (ha : a < w) {r : Nat → Int} (bs : Nat → Nat → Int64) (h : ∀ c, c < w → bs rho c = Int64.ofInt (r c)) (hb : (r a).natAbs ≤ 4611686018427387903) : ∃ bs', sm_tot (fn_LA_makeLeadPositive (iI rho) (iI a) (iI w)) (0, 0, bs) = some bs' ∧ (∀ c, c < w → bs' rho c = Int64.ofInt (rw_pos a r c)) ∧ ∀ r, r ≠ rho → bs' r = bs r := by
  have ir : ((rho : Int)).toNat = rho := by omega
  have ia : ((a : Int)).toNat = a := by omega
  have e46 : ∀ x u, sm_tot (fn_LA_makeLeadPositive (iI rho) (iI a) (iI w)) (46, x, u) = some u := fun x u => by rw [sm_tot_u, fn_LA_makeLeadPositive_q46]; rfl
  have lp : ∀ (d i : Nat) (u : Nat → Nat → Int64), i + d = w → (∀ c, c < w → u rho c = Int64.ofInt (if c < i then - r c else r c)) → (∀ q, q ≠ rho → u q = bs q) → ∃ bs', sm_tot (fn_LA_makeLeadPositive (iI rho) (iI a) (iI w)) (15, iI i, u) = some bs' ∧ (∀ c, c < w → bs' rho c = Int64.ofInt (- r c)) ∧ ∀ q, q ≠ rho → bs' q = bs q := by
    intro d
    induction d with
    | zero =>
      intro i u hi hu hr'
      refine ⟨u, ?_, fun c hc => by rw [hu c hc, if_pos (by omega)], hr'⟩
      rw [sm_tot_u, fn_LA_makeLeadPositive_q15]
      unfold fn_LA_makeLeadPositive_b15
      rw [if_pos (show iI (w : Int) ≤ iI (i : Int) by rw [ii_le (by omega) (by omega) (by omega) (by omega)]; omega), sm_ev_l, e46]
    | succ d ih =>
      intro i u hi hu hr'
      have i2 : ((i : Int)).toNat = i := by omega
      have h1 := hu i (by omega)
      rw [if_neg (Nat.lt_irrefl _)] at h1
      obtain ⟨bs', a1, a2⟩ := ih (i + 1) (up2 u rho (vp_updL (u rho) i (Int64.ofInt (- r i)))) (by omega) (fun c hc => by
        rw [up2_eq]
        show (if c = i then _ else u rho c) = _
        by_cases e : c = i
        · rw [if_pos e, if_pos (by omega), e]
        · rw [if_neg e, hu c hc]
          by_cases e3 : c < i
          · rw [if_pos e3, if_pos (by omega)]
          · rw [if_neg e3, if_neg (by omega)]) (fun q hq => (up2_ne _ _ hq).trans (hr' q hq))
      refine ⟨bs', ?_, a2⟩
      rw [← a1, sm_tot_u, fn_LA_makeLeadPositive_q15]
      unfold fn_LA_makeLeadPositive_b15
      rw [if_neg (show ¬ iI (w : Int) ≤ iI (i : Int) by rw [ii_le (by omega) (by omega) (by omega) (by omega)]; omega), if_pos (ii_g (a := (rho : Int)) (N := 6) (by omega) (by omega) (by omega)), if_pos (ii_g (a := (i : Int)) (N := 10) (by omega) (by omega) (by omega)), ii_nat (by omega) (by omega), ii_nat (by omega) (by omega), ir, i2, h1, ← Int64.ofInt_neg, sm_ev_l, ii_s]
  rw [sm_tot_u, fn_LA_makeLeadPositive_q0]
  unfold fn_LA_makeLeadPositive_b0 rw_pos
  rw [if_pos (ii_g (a := (rho : Int)) (N := 6) (by omega) (by omega) (by omega)), if_pos (ii_g (a := (a : Int)) (N := 10) (by omega) (by omega) (by omega)), ii_nat (by omega) (by omega), ii_nat (by omega) (by omega), ir, ia, h a ha]
  by_cases q : r a < 0
  · rw [if_neg (show ¬ (0 : Int32) ≤ lg_cmp (Int64.ofInt (r a)) 0 from fun x => by
      have h' := (lg_cmp_ge _ _).mp x
      rw [rg_0, rg_le (by omega) hb] at h'
      omega), sm_ev_l, if_pos q]
    exact lp w 0 bs (by omega) (fun c hc => by rw [if_neg (by omega)]; exact h c hc) (fun _ _ => rfl)
  · rw [if_pos (show (0 : Int32) ≤ lg_cmp (Int64.ofInt (r a)) 0 from (lg_cmp_ge _ _).mpr (by rw [rg_0, rg_le (by omega) hb]; omega)), sm_ev_l, if_neg q]
    exact ⟨bs, e46 _ _, h, fun _ _ => rfl⟩
end TT
