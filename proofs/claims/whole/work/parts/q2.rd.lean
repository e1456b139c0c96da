/-! the class's lattice: reducing, joining -/
/-- the rows behind a place as they lie in the table -/
def la_beh (w b : Nat) (U : Nat → Nat → Int) (rh : Nat → Nat) (ra : Nat → Int32) (bs : Nat → Nat → Int64) : Prop := ∀ a, b < a → a < w → (U a a = 0 → ra a = iI (-1)) ∧ (U a a ≠ 0 → 0 < U a a ∧ (U a a).natAbs ≤ 4611686018427387903 ∧ ra a = iI (rh a) ∧ rh a < 6 ∧ ∀ c, c < w → bs (rh a) c = Int64.ofInt (U a c))
section RDM
variable {w b : Nat} {U : Nat → Nat → Int} {rh : Nat → Nat} {ra : Nat → Int32} {bs : Nat → Nat → Int64} {v : Nat → Int}
theorem la_rf (hw : w ≤ 10) (hb : b < w) (H : la_beh w b U rh ra bs) (hr : ∀ t, b + 1 + t < w → 0 < U (b + 1 + t) (b + 1 + t) → (rw_rd U b v t (b + 1 + t)).natAbs ≤ 4611686018427387903) {f : Nat → Int64} (hf : ∀ c, c < w → f c = Int64.ofInt (v c)) :
    ∃ f', sm_tot (fn_LA_reduce_f (iI b) (iI w) bs ra) (0, 0, f) = some f' ∧ ∀ c, c < w → f' c = Int64.ofInt (rw_rd U b v (w - (b + 1)) c) := by
  have lp : ∀ (d t : Nat) (g : Nat → Int64), b + 1 + t + d = w → (∀ c, c < w → g c = Int64.ofInt (rw_rd U b v t c)) → ∃ f', sm_tot (fn_LA_reduce_f (iI b) (iI w) bs ra) (4, iI ((b + 1 + t : Nat) : Int), g) = some f' ∧ ∀ c, c < w → f' c = Int64.ofInt (rw_rd U b v (w - (b + 1)) c) := by
    intro d
    induction d with
    | zero =>
      intro t g ht hg
      refine ⟨g, ?_, fun c hc => ?_⟩
      · rw [sm_tot_u, fn_LA_reduce_f_q4]
        unfold fn_LA_reduce_f_b4
        rw [if_pos (show iI (w : Int) ≤ iI ((b + 1 + t : Nat) : Int) by rw [ii_le (by omega) (by omega) (by omega) (by omega)]; omega), sm_ev_r]
      · rw [hg c hc, show w - (b + 1) = t by omega]
    | succ d ih =>
      intro t g ht hg
      have i2 : (((b + 1 + t : Nat) : Int)).toNat = b + 1 + t := by omega
      obtain ⟨h0, h1⟩ := H (b + 1 + t) (by omega) (by omega)
      have e67 : ∀ g', sm_tot (fn_LA_reduce_f (iI b) (iI w) bs ra) (67, iI ((b + 1 + t : Nat) : Int), g') = sm_tot (fn_LA_reduce_f (iI b) (iI w) bs ra) (4, iI ((b + 1 + (t + 1) : Nat) : Int), g') := fun g' => by
        rw [sm_tot_u, fn_LA_reduce_f_q67]
        unfold fn_LA_reduce_f_b67
        rw [sm_ev_l, ii_s]
        rfl
      have e4 : sm_tot (fn_LA_reduce_f (iI b) (iI w) bs ra) (4, iI ((b + 1 + t : Nat) : Int), g) = sm_ev (fn_LA_reduce_f (iI b) (iI w) bs ra) (fn_LA_reduce_f_b4 (iI b) (iI w) bs ra (iI ((b + 1 + t : Nat) : Int)) g) := by
        rw [sm_tot_u, fn_LA_reduce_f_q4]
      by_cases q : U (b + 1 + t) (b + 1 + t) = 0
      · obtain ⟨f', a1, a2⟩ := ih (t + 1) g (by omega) (fun c hc => by
          rw [hg c hc]
          show _ = Int64.ofInt ((if 0 < U (b + 1 + t) (b + 1 + t) then _ else rw_rd U b v t) c)
          rw [if_neg (by omega)])
        refine ⟨f', ?_, a2⟩
        rw [← a1, ← e67, e4]
        unfold fn_LA_reduce_f_b4
        rw [if_neg (show ¬ iI (w : Int) ≤ iI ((b + 1 + t : Nat) : Int) by rw [ii_le (by omega) (by omega) (by omega) (by omega)]; omega), if_pos (ii_g (a := ((b + 1 + t : Nat) : Int)) (N := 10) (by omega) (by omega) (by omega)), ii_nat (by omega) (by omega), i2, h0 q, if_pos (show iI (-1) = -1 from rfl), sm_ev_l]
      · obtain ⟨k1, k2, k3, k4, k5⟩ := h1 q
        have irh : ((rh (b + 1 + t) : Int)).toNat = rh (b + 1 + t) := by omega
        have hx := hr t (by omega) k1
        obtain ⟨g', t1, t2⟩ := la_tfr hw (rho := rh (b + 1 + t)) (q := Int64.ofInt (rw_rd U b v t (b + 1 + t) / U (b + 1 + t) (b + 1 + t))) (bs := bs) g
        obtain ⟨f', a1, a2⟩ := ih (t + 1) g' (by omega) (fun c hc => by
          rw [t2 c hc, hg c hc, k5 c hc, ← Int64.ofInt_mul, ← Int64.ofInt_sub]
          show _ = Int64.ofInt ((if 0 < U (b + 1 + t) (b + 1 + t) then _ else rw_rd U b v t) c)
          rw [if_pos k1])
        refine ⟨f', ?_, a2⟩
        rw [← a1, ← e67, e4]
        unfold fn_LA_reduce_f_b4
        rw [if_neg (show ¬ iI (w : Int) ≤ iI ((b + 1 + t : Nat) : Int) by rw [ii_le (by omega) (by omega) (by omega) (by omega)]; omega), if_pos (ii_g (a := ((b + 1 + t : Nat) : Int)) (N := 10) (by omega) (by omega) (by omega)), ii_nat (a := ((b + 1 + t : Nat) : Int)) (by omega) (by omega), i2, k3, if_neg (show ¬ iI (rh (b + 1 + t) : Int) = -1 by rw [show (-1 : Int32) = iI (-1) from rfl, ii_eq (by omega) (by omega) (by omega) (by omega)]; omega), if_pos (ii_g (a := (rh (b + 1 + t) : Int)) (N := 6) (by omega) (by omega) (by omega)), ii_nat (by omega) (by omega), irh, k5 _ (by omega), if_neg (show ¬ lg_cmp (Int64.ofInt (U (b + 1 + t) (b + 1 + t))) 0 ≤ 0 by rw [lg_cmp_le0 k2]; omega), hg _ (by omega), jm_floorDiv hx k2 k1, Option.bind_some, t1, Option.bind_some, sm_ev_l]
  obtain ⟨f', a1, a2⟩ := lp (w - (b + 1)) 0 f (by omega) hf
  refine ⟨f', ?_, a2⟩
  rw [sm_tot_u, fn_LA_reduce_f_q0]
  unfold fn_LA_reduce_f_b0
  rw [sm_ev_l, ii_s]
  exact a1
theorem la_rr (hw : w ≤ 10) (hb : b < w) (H : la_beh w b U rh ra bs) {rho : Nat} (hne : ∀ a, b < a → a < w → U a a ≠ 0 → rh a ≠ rho) (hr : ∀ t, b + 1 + t < w → 0 < U (b + 1 + t) (b + 1 + t) → (rw_rd U b v t (b + 1 + t)).natAbs ≤ 4611686018427387903) (hf : ∀ c, c < w → bs rho c = Int64.ofInt (v c)) :
    ∃ bs', sm_tot (fn_LA_reduce_r rho (iI b) (iI w) ra) (0, 0, bs) = some bs' ∧ (∀ c, c < w → bs' rho c = Int64.ofInt (rw_rd U b v (w - (b + 1)) c)) ∧ ∀ r, r ≠ rho → bs' r = bs r := by
  have lp : ∀ (d t : Nat) (g : Nat → Nat → Int64), b + 1 + t + d = w → (∀ c, c < w → g rho c = Int64.ofInt (rw_rd U b v t c)) → (∀ r, r ≠ rho → g r = bs r) → ∃ bs', sm_tot (fn_LA_reduce_r rho (iI b) (iI w) ra) (4, iI ((b + 1 + t : Nat) : Int), g) = some bs' ∧ (∀ c, c < w → bs' rho c = Int64.ofInt (rw_rd U b v (w - (b + 1)) c)) ∧ ∀ r, r ≠ rho → bs' r = bs r := by
    intro d
    induction d with
    | zero =>
      intro t g ht hg hg2
      refine ⟨g, ?_, fun c hc => ?_, hg2⟩
      · rw [sm_tot_u, fn_LA_reduce_r_q4]
        unfold fn_LA_reduce_r_b4
        rw [if_pos (show iI (w : Int) ≤ iI ((b + 1 + t : Nat) : Int) by rw [ii_le (by omega) (by omega) (by omega) (by omega)]; omega), sm_ev_r]
      · rw [hg c hc, show w - (b + 1) = t by omega]
    | succ d ih =>
      intro t g ht hg hg2
      have i2 : (((b + 1 + t : Nat) : Int)).toNat = b + 1 + t := by omega
      obtain ⟨h0, h1⟩ := H (b + 1 + t) (by omega) (by omega)
      have e67 : ∀ g', sm_tot (fn_LA_reduce_r rho (iI b) (iI w) ra) (67, iI ((b + 1 + t : Nat) : Int), g') = sm_tot (fn_LA_reduce_r rho (iI b) (iI w) ra) (4, iI ((b + 1 + (t + 1) : Nat) : Int), g') := fun g' => by
        rw [sm_tot_u, fn_LA_reduce_r_q67]
        unfold fn_LA_reduce_r_b67
        rw [sm_ev_l, ii_s]
        rfl
      have e4 : sm_tot (fn_LA_reduce_r rho (iI b) (iI w) ra) (4, iI ((b + 1 + t : Nat) : Int), g) = sm_ev (fn_LA_reduce_r rho (iI b) (iI w) ra) (fn_LA_reduce_r_b4 rho (iI b) (iI w) ra (iI ((b + 1 + t : Nat) : Int)) g) := by
        rw [sm_tot_u, fn_LA_reduce_r_q4]
      by_cases q : U (b + 1 + t) (b + 1 + t) = 0
      · obtain ⟨f', a1, a2⟩ := ih (t + 1) g (by omega) (fun c hc => by
          rw [hg c hc]
          show _ = Int64.ofInt ((if 0 < U (b + 1 + t) (b + 1 + t) then _ else rw_rd U b v t) c)
          rw [if_neg (by omega)]) hg2
        refine ⟨f', ?_, a2⟩
        rw [← a1, ← e67, e4]
        unfold fn_LA_reduce_r_b4
        rw [if_neg (show ¬ iI (w : Int) ≤ iI ((b + 1 + t : Nat) : Int) by rw [ii_le (by omega) (by omega) (by omega) (by omega)]; omega), if_pos (ii_g (a := ((b + 1 + t : Nat) : Int)) (N := 10) (by omega) (by omega) (by omega)), ii_nat (by omega) (by omega), i2, h0 q, if_pos (show iI (-1) = -1 from rfl), sm_ev_l]
      · obtain ⟨k1, k2, k3, k4, k5⟩ := h1 q
        have irh : ((rh (b + 1 + t) : Int)).toNat = rh (b + 1 + t) := by omega
        have hx := hr t (by omega) k1
        have hn := hne (b + 1 + t) (by omega) (by omega) q
        obtain ⟨g', t1, t2, t3⟩ := la_trr hw hn (q := Int64.ofInt (rw_rd U b v t (b + 1 + t) / U (b + 1 + t) (b + 1 + t))) g
        have k6 : ∀ c, c < w → g (rh (b + 1 + t)) c = Int64.ofInt (U (b + 1 + t) c) := fun c hc => by rw [hg2 _ hn]; exact k5 c hc
        obtain ⟨f', a1, a2⟩ := ih (t + 1) g' (by omega) (fun c hc => by
          rw [t2 c hc, hg c hc, k6 c hc, ← Int64.ofInt_mul, ← Int64.ofInt_sub]
          show _ = Int64.ofInt ((if 0 < U (b + 1 + t) (b + 1 + t) then _ else rw_rd U b v t) c)
          rw [if_pos k1]) (fun r hr' => (t3 r hr').trans (hg2 r hr'))
        refine ⟨f', ?_, a2⟩
        rw [← a1, ← e67, e4]
        unfold fn_LA_reduce_r_b4
        rw [if_neg (show ¬ iI (w : Int) ≤ iI ((b + 1 + t : Nat) : Int) by rw [ii_le (by omega) (by omega) (by omega) (by omega)]; omega), if_pos (ii_g (a := ((b + 1 + t : Nat) : Int)) (N := 10) (by omega) (by omega) (by omega)), ii_nat (a := ((b + 1 + t : Nat) : Int)) (by omega) (by omega), i2, k3, if_neg (show ¬ iI (rh (b + 1 + t) : Int) = -1 by rw [show (-1 : Int32) = iI (-1) from rfl, ii_eq (by omega) (by omega) (by omega) (by omega)]; omega), if_pos (ii_g (a := (rh (b + 1 + t) : Int)) (N := 6) (by omega) (by omega) (by omega)), ii_nat (by omega) (by omega), irh, k6 _ (by omega), if_neg (show ¬ lg_cmp (Int64.ofInt (U (b + 1 + t) (b + 1 + t))) 0 ≤ 0 by rw [lg_cmp_le0 k2]; omega), hg _ (by omega), jm_floorDiv hx k2 k1, Option.bind_some, t1, Option.bind_some, sm_ev_l]
  obtain ⟨f', a1, a2⟩ := lp (w - (b + 1)) 0 bs (by omega) hf (fun _ _ => rfl)
  refine ⟨f', ?_, a2⟩
  rw [sm_tot_u, fn_LA_reduce_r_q0]
  unfold fn_LA_reduce_r_b0
  rw [sm_ev_l, ii_s]
  exact a1
theorem la_join (hw : w ≤ 10) {a rho : Nat} (ha : a < w) (hrho : rho < 6) : ∀ (d k : Nat) (r v : Nat → Int) (bs : Nat → Nat → Int64) (f : Nat → Int64), k + d = 100 → (∀ c, c < w → bs rho c = Int64.ofInt (r c) ∧ f c = Int64.ofInt (v c)) → (∀ k, ((rw_jn a k r v).1 a).natAbs ≤ 4611686018427387903 ∧ ((rw_jn a k r v).2 a).natAbs ≤ 4611686018427387903) →
    ∃ bs' f', sm_tot (fn_LA_joinFresh (iI rho) (iI a) (iI w)) (2, iI k, bs, f) = some (bs', f') ∧ (∀ c, c < w → bs' rho c = Int64.ofInt ((rw_jn a d r v).1 c) ∧ f' c = Int64.ofInt ((rw_jn a d r v).2 c)) ∧ ∀ q, q ≠ rho → bs' q = bs q := by
  have ir : ((rho : Int)).toNat = rho := by omega
  have ia : ((a : Int)).toNat = a := by omega
  have e59 : ∀ x u g, sm_tot (fn_LA_joinFresh (iI rho) (iI a) (iI w)) (59, x, u, g) = some (u, g) := fun x u g => by rw [sm_tot_u, fn_LA_joinFresh_q59]; rfl
  intro d
  induction d with
  | zero =>
    intro k r v bs f hk h hb
    refine ⟨bs, f, ?_, h, fun _ _ => rfl⟩
    rw [show k = 100 by omega, sm_tot_u, fn_LA_joinFresh_q2]
    unfold fn_LA_joinFresh_b2
    rw [if_pos (show (100 : Int32) ≤ iI ((100 : Nat) : Int) by decide), sm_ev_l, e59]
  | succ d ih =>
    intro k r v bs f hk h hb
    have hb0 := hb 0
    have hva : (v a).natAbs ≤ 4611686018427387903 := hb0.2
    have hra : (r a).natAbs ≤ 4611686018427387903 := hb0.1
    rw [sm_tot_u, fn_LA_joinFresh_q2]
    unfold fn_LA_joinFresh_b2
    rw [if_neg (show ¬ (100 : Int32) ≤ iI (k : Int) by rw [show (100 : Int32) = iI 100 from rfl, ii_le (by omega) (by omega) (by omega) (by omega)]; omega), if_pos (ii_g (a := (a : Int)) (N := 10) (by omega) (by omega) (by omega)), ii_nat (a := (a : Int)) (by omega) (by omega), ia, (h a ha).2]
    by_cases q : v a = 0
    · rw [if_pos (show lg_cmp (Int64.ofInt (v a)) 0 = 0 from (lg_cmp_eq _ _).mpr (by rw [q]; rfl)), sm_ev_l, e59]
      refine ⟨bs, f, rfl, fun c hc => ?_, fun _ _ => rfl⟩
      show bs rho c = Int64.ofInt ((if v a = 0 then (r, v) else _).1 c) ∧ f c = Int64.ofInt ((if v a = 0 then (r, v) else _).2 c)
      rw [if_pos q]
      exact h c hc
    · have hz : ¬ Int64.ofInt (v a) = 0 := fun z => q ((rg_zero hva).mp z)
      rw [if_neg (show ¬ lg_cmp (Int64.ofInt (v a)) 0 = 0 from fun x => hz ((lg_cmp_eq _ _).mp x)), if_pos (ii_g (a := (rho : Int)) (N := 6) (by omega) (by omega) (by omega)), if_pos hz, ii_nat (by omega) (by omega), ir, (h a ha).1, rg_div hra hva]
      obtain ⟨bs1, t1, t2, t3⟩ := la_trf hw (rho := rho) (q := Int64.ofInt ((r a).tdiv (v a))) (f := f) bs
      obtain ⟨bs2, f2, s1, s2, s3⟩ := la_swap hw hrho bs1 f
      have hjn : ∀ k', rw_jn a (k' + 1) r v = rw_jn a k' v (fun c => r c - (r a).tdiv (v a) * v c) := fun k' => if_neg q
      obtain ⟨bs', f', a1, a2, a3⟩ := ih (k + 1) v (fun c => r c - (r a).tdiv (v a) * v c) bs2 f2 (by omega) (fun c hc => by
        obtain ⟨y1, y2⟩ := s2 c hc
        refine ⟨y1.trans (h c hc).2, ?_⟩
        rw [y2, t2 c hc, (h c hc).1, (h c hc).2, ← Int64.ofInt_mul, ← Int64.ofInt_sub]) (fun k' => by
        have := hb (k' + 1)
        rw [hjn] at this
        exact this)
      refine ⟨bs', f', ?_, fun c hc => ?_, fun p hp => (a3 p hp).trans ((s3 p hp).trans (t3 p hp))⟩
      · rw [t1, Option.bind_some, s1, Option.bind_some, sm_ev_l, ii_s]
        exact a1
      · rw [hjn]
        exact a2 c hc
end RDM
