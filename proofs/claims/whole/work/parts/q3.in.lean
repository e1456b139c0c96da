/-! the class's lattice: a vector comes in; all rows are reduced -/
def la_pic (w : Nat) (U : Nat → Nat → Int) (us : Nat) (rh : Nat → Nat) (ra : Nat → Int32) (bs : Nat → Nat → Int64) : Prop :=
  us ≤ 6 ∧ (∀ a, a < w → (U a a = 0 → ra a = iI (-1)) ∧ (U a a ≠ 0 → ra a = iI (rh a) ∧ rh a < us ∧ ∀ c, c < w → bs (rh a) c = Int64.ofInt (U a c))) ∧ ∀ a a', a < w → a' < w → U a a ≠ 0 → U a' a' ≠ 0 → rh a = rh a' → a = a'
section LIN
variable {w : Nat} {U : Nat → Nat → Int}
theorem la_pic_beh {b us : Nat} {rh : Nat → Nat} {ra : Nat → Int32} {bs : Nat → Nat → Int64} (H : la_pic w U us rh ra bs) (ht : rw_tri w U) (hd : ∀ a, b < a → a < w → (U a a).natAbs ≤ 4611686018427387903) : la_beh w b U rh ra bs := fun a h1 h2 => by
  obtain ⟨p1, p2⟩ := H.2.1 a h2
  refine ⟨p1, fun q => ?_⟩
  obtain ⟨k1, k2, k3⟩ := p2 q
  have := (ht a h2).2.1
  have := H.1
  exact ⟨by omega, hd a h1 h2, k1, by omega, k3⟩
theorem la_pic_ur {a us : Nat} {rh : Nat → Nat} {ra : Nat → Int32} {bs bs' : Nat → Nat → Int64} {r : Nat → Int} (ha : a < w) (H : la_pic w U us rh ra bs) (h0 : U a a ≠ 0) (h1 : r a ≠ 0) (hb : ∀ c, c < w → bs' (rh a) c = Int64.ofInt (r c)) (ho : ∀ q, q ≠ rh a → bs' q = bs q) : la_pic w (rw_ur U a r) us rh ra bs' := by
  obtain ⟨p1, p2, p3⟩ := H
  have hne : ∀ x, rw_ur U a r x x ≠ 0 → U x x ≠ 0 := fun x hx => by
    by_cases e : x = a
    · rw [e]; exact h0
    · rw [rw_ur_ne e] at hx; exact hx
  refine ⟨p1, fun x hx => ⟨fun q => ?_, fun q => ?_⟩, fun x x' hx hx' q q' e => p3 x x' hx hx' (hne x q) (hne x' q') e⟩
  · by_cases e : x = a
    · subst e
      rw [rw_ur_eq] at q
      exact absurd q h1
    · rw [rw_ur_ne e] at q
      exact (p2 x hx).1 q
  · by_cases e : x = a
    · subst e
      obtain ⟨k1, k2, k3⟩ := (p2 x hx).2 h0
      refine ⟨k1, k2, fun c hc => ?_⟩
      rw [rw_ur_eq]
      exact hb c hc
    · rw [rw_ur_ne e] at q ⊢
      obtain ⟨k1, k2, k3⟩ := (p2 x hx).2 q
      refine ⟨k1, k2, fun c hc => ?_⟩
      rw [ho _ (fun e2 => e (p3 x a hx ha q h0 e2))]
      exact k3 c hc
theorem la_ins_l {v : Nat → Int} (hw : w ≤ 10) (Ht : rw_tri w U) (hv : ∀ b, b < w → 0 < U b b → (v b).natAbs ≤ 20 * (U b b).natAbs) (hl : ∀ b, b < w → (U b b).natAbs ≤ 3840000) (hcr : rw_crg w U v) :
    ∀ (d a us : Nat) (rh : Nat → Nat) (ra : Nat → Int32) (bs : Nat → Nat → Int64) (f : Nat → Int64), a + d = w → (rw_insN w U v a).2.2 = false → us < 6 → la_pic w (rw_insN w U v a).1 us rh ra bs → (∀ c, c < w → f c = Int64.ofInt ((rw_insN w U v a).2.1 c)) →
    ∃ us' rh' ra' bs' f', sm_tot (fn_LA_insertFresh (iI w)) (2, iI a, iI us, bs, ra, f) = some (iI ((us' : Nat) : Int), bs', ra', f') ∧ la_pic w (rw_insN w U v w).1 us' rh' ra' bs' ∧ us' ≤ us + 1 := by
  have e89 : ∀ x y z p q, sm_tot (fn_LA_insertFresh (iI w)) (89, x, y, z, p, q) = some (y, z, p, q) := fun x y z p q => by rw [sm_tot_u, fn_LA_insertFresh_q89]; rfl
  intro d
  induction d with
  | zero =>
    intro a us rh ra bs f ha hpl hus hpic hf
    have e : a = w := by omega
    subst e
    refine ⟨us, rh, ra, bs, f, ?_, hpic, by omega⟩
    rw [sm_tot_u, fn_LA_insertFresh_q2]
    unfold fn_LA_insertFresh_b2
    rw [if_pos (show iI (a : Int) ≤ iI (a : Int) by rw [ii_le (by omega) (by omega) (by omega) (by omega)]; omega), sm_ev_l, e89]
  | succ d ih =>
    intro a us rh ra bs f ha hpl hus hpic hf
    have haw : a < w := by omega
    have ia : ((a : Int)).toNat = a := by omega
    obtain ⟨inv1, inv2, _⟩ := rw_insN_inv Ht hv hl a (by omega)
    obtain ⟨j1, j2, j3⟩ := inv2 hpl
    obtain ⟨cr1, cr2⟩ := hcr.1 a haw hpl
    have estep : rw_insN w U v (a + 1) = rw_ins1 w a (rw_insN w U v a).1 (rw_insN w U v a).2.1 := by
      show (if (rw_insN w U v a).2.2 = true then rw_insN w U v a else rw_ins1 w a (rw_insN w U v a).1 (rw_insN w U v a).2.1) = _
      rw [if_neg (by rw [hpl]; decide)]
    have hdg : ∀ x, a ≤ x → x < w → ((rw_insN w U v a).1 x x).natAbs ≤ 4611686018427387903 := fun x h1 h2 => by
      rw [j2 x h1]
      exact Nat.le_trans (hl x h2) (by decide)
    have e83 : ∀ (us : Nat) bs ra f, sm_tot (fn_LA_insertFresh (iI w)) (83, iI a, iI us, bs, ra, f) = sm_tot (fn_LA_insertFresh (iI w)) (2, iI ((a + 1 : Nat) : Int), iI us, bs, ra, f) := fun us bs ra f => by
      rw [sm_tot_u, fn_LA_insertFresh_q83]
      unfold fn_LA_insertFresh_b83
      rw [sm_ev_l, ii_s]
    have e2 : sm_tot (fn_LA_insertFresh (iI w)) (2, iI a, iI us, bs, ra, f) = sm_ev (fn_LA_insertFresh (iI w)) (if lg_cmp (Int64.ofInt ((rw_insN w U v a).2.1 a)) 0 = 0 then (some (.inl (83, iI a, iI us, bs, ra, f))) else (if (ra a : Int32) = (-1) then ((sm_tot (fn_LA_placeFresh (iI a) (iI w)) (0, iI us, bs, ra, f)).bind (fun r5 => some (.inr (r5.1, r5.2.1, r5.2.2.1, r5.2.2.2)))) else ((sm_tot (fn_LA_joinFresh (ra a) (iI a) (iI w)) (0, 0, bs, f)).bind (fun r1 => (sm_tot (fn_LA_makeLeadPositive (ra a) (iI a) (iI w)) (0, 0, r1.1)).bind (fun r2 => if ¬ ((ra a : Int32) < 0 ∨ 6 ≤ (ra a : Int32).toNatClampNeg) then (sm_tot (fn_LA_reduce_r (ra a : Int32).toNatClampNeg (iI a) (iI w) ra) (0, 0, r2)).bind (fun r3 => (sm_tot (fn_LA_reduce_f (iI a) (iI w) r3 ra) (0, 0, r1.2)).bind (fun r4 => some (.inl (83, iI a, iI us, r3, ra, r4)))) else none))))) := by
      rw [sm_tot_u, fn_LA_insertFresh_q2]
      unfold fn_LA_insertFresh_b2
      rw [if_neg (show ¬ iI (w : Int) ≤ iI (a : Int) by rw [ii_le (by omega) (by omega) (by omega) (by omega)]; omega), if_neg (show ¬ (6 : Int32) ≤ iI (us : Int) by rw [il_6, ii_le (by omega) (by omega) (by omega) (by omega)]; omega), if_pos (ii_g (a := (a : Int)) (N := 10) (by omega) (by omega) (by omega)), ii_nat (by omega) (by omega), ia, hf a haw]
    rw [e2]
    by_cases q0 : (rw_insN w U v a).2.1 a = 0
    · have es : rw_insN w U v (a + 1) = ((rw_insN w U v a).1, (rw_insN w U v a).2.1, false) := by
        rw [estep]
        unfold rw_ins1
        rw [if_pos q0]
      obtain ⟨us', rh', ra', bs', f', g1, g2, g3⟩ := ih (a + 1) us rh ra bs f (by omega) (by rw [es]) hus (by rw [es]; exact hpic) (by rw [es]; exact hf)
      refine ⟨us', rh', ra', bs', f', ?_, g2, g3⟩
      rw [if_pos (show lg_cmp (Int64.ofInt ((rw_insN w U v a).2.1 a)) 0 = 0 from (lg_cmp_eq _ _).mpr (by rw [q0]; rfl)), sm_ev_l, e83]
      exact g1
    · rw [if_neg (show ¬ lg_cmp (Int64.ofInt ((rw_insN w U v a).2.1 a)) 0 = 0 from fun x => q0 ((rg_zero cr1).mp ((lg_cmp_eq _ _).mp x)))]
      by_cases q1 : (rw_insN w U v a).1 a a = 0
      · have es : rw_insN w U v (a + 1) = (rw_ur (rw_insN w U v a).1 a (rw_pos a (rw_insN w U v a).2.1), (rw_insN w U v a).2.1, true) := by
          rw [estep]
          unfold rw_ins1
          rw [if_neg q0, if_pos q1]
        have ek : rw_insN w U v w = rw_insN w U v (a + 1) := by
          have := rw_place_keep (w := w) (U := U) (v := v) (a := a + 1) (by rw [es]) (w - (a + 1))
          rw [show a + 1 + (w - (a + 1)) = w by omega] at this
          exact this
        obtain ⟨p1, p2, p3⟩ := hpic
        obtain ⟨bs1, f1, s1, s2, s3⟩ := la_swap hw hus bs f
        obtain ⟨bs2, t1, t2, t3⟩ := la_mlp hw hus haw (r := (rw_insN w U v a).2.1) bs1 (fun c hc => (s2 c hc).1.trans (hf c hc)) cr1
        have hpl2 : sm_tot (fn_LA_placeFresh (iI a) (iI w)) (0, iI us, bs, ra, f) = some (iI ((us + 1 : Nat) : Int), bs2, upd ra a (iI us), f1) := by
          rw [sm_tot_u, fn_LA_placeFresh_q0]
          unfold fn_LA_placeFresh_b0
          rw [s1, Option.bind_some]
          show sm_ev _ (Option.bind (sm_tot (fn_LA_makeLeadPositive (iI us) (iI a) (iI w)) (0, 0, bs1)) _) = _
          rw [t1, Option.bind_some, if_pos (ii_g (a := (a : Int)) (N := 10) (by omega) (by omega) (by omega)), sm_ev_r, ii_nat (by omega) (by omega), ia, ii_s]
        refine ⟨us + 1, fun x => if x = a then us else rh x, upd ra a (iI us), bs2, f1, ?_, ?_, by omega⟩
        · rw [(p2 a haw).1 q1, if_pos (show iI (-1) = -1 from rfl), hpl2, Option.bind_some, sm_ev_r]
        · rw [ek, es]
          have hpa : rw_pos a (rw_insN w U v a).2.1 a ≠ 0 := by
            have := rw_pos_at q0
            omega
          refine ⟨by omega, fun x hx => ⟨fun q => ?_, fun q => ?_⟩, fun x x' hx hx' q q' e => ?_⟩
          · dsimp only at q
            by_cases e : x = a
            · subst e
              rw [rw_ur_eq] at q
              exact absurd q hpa
            · rw [rw_ur_ne e] at q
              exact (if_neg e).trans ((p2 x hx).1 q)
          · dsimp only at q ⊢
            by_cases e : x = a
            · subst e
              rw [if_pos rfl]
              refine ⟨if_pos rfl, by omega, fun c hc => ?_⟩
              rw [rw_ur_eq]
              exact t2 c hc
            · rw [rw_ur_ne e] at q ⊢
              obtain ⟨k1, k2, k3⟩ := (p2 x hx).2 q
              rw [if_neg e]
              refine ⟨(if_neg e).trans k1, by omega, fun c hc => ?_⟩
              rw [t3 _ (by omega), s3 _ (by omega)]
              exact k3 c hc
          · dsimp only at q q' e
            by_cases e1 : x = a
            · by_cases e2 : x' = a
              · omega
              · rw [if_pos e1, if_neg e2] at e
                rw [rw_ur_ne e2] at q'
                have := ((p2 x' hx').2 q').2.1
                omega
            · rw [rw_ur_ne e1] at q
              by_cases e2 : x' = a
              · rw [if_neg e1, if_pos e2] at e
                have := ((p2 x hx).2 q).2.1
                omega
              · rw [if_neg e1, if_neg e2] at e
                rw [rw_ur_ne e2] at q'
                exact p3 x x' hx hx' q q' e
      · obtain ⟨k1, k2, k3⟩ := (hpic.2.1 a haw).2 q1
        obtain ⟨cj, cd⟩ := cr2 q1
        have hus6 := hpic.1
        have irh : ((rh a : Int)).toNat = rh a := by omega
        have es : rw_insN w U v (a + 1) = (rw_ur (rw_insN w U v a).1 a (rw_rd (rw_insN w U v a).1 a (rw_pos a (rw_jn a 100 ((rw_insN w U v a).1 a) (rw_insN w U v a).2.1).1) (w - (a + 1))), rw_rd (rw_insN w U v a).1 a (rw_jn a 100 ((rw_insN w U v a).1 a) (rw_insN w U v a).2.1).2 (w - (a + 1)), false) := by
          rw [estep]
          unfold rw_ins1
          rw [if_neg q0, if_neg q1]
        obtain ⟨bs1, f1, m1, m2, m3⟩ := la_join hw haw (show rh a < 6 by omega) 100 0 ((rw_insN w U v a).1 a) (rw_insN w U v a).2.1 bs f (by omega) (fun c hc => ⟨k3 c hc, hf c hc⟩) cj
        obtain ⟨bs2, t1, t2, t3⟩ := la_mlp hw (show rh a < 6 by omega) haw (r := (rw_jn a 100 ((rw_insN w U v a).1 a) (rw_insN w U v a).2.1).1) bs1 (fun c hc => (m2 c hc).1) (cj 100).1
        have hne : ∀ x, a < x → x < w → (rw_insN w U v a).1 x x ≠ 0 → rh x ≠ rh a := fun x h1 h2 h3 e => by
          have := hpic.2.2 x a h2 haw h3 q1 e
          omega
        have hbeh : ∀ bsx : Nat → Nat → Int64, (∀ q, q ≠ rh a → bsx q = bs q) → la_beh w a (rw_insN w U v a).1 rh ra bsx := fun bsx hx x h1 h2 => by
          obtain ⟨y1, y2⟩ := la_pic_beh (b := a) hpic inv1 (fun x h1 h2 => hdg x (by omega) h2) x h1 h2
          refine ⟨y1, fun q => ?_⟩
          obtain ⟨z1, z2, z3, z4, z5⟩ := y2 q
          refine ⟨z1, z2, z3, z4, fun c hc => ?_⟩
          rw [hx _ (hne x h1 h2 q)]
          exact z5 c hc
        obtain ⟨bs3, r1, r2, r3⟩ := la_rr hw haw (hbeh bs2 (fun q hq => (t3 q hq).trans (m3 q hq))) (rho := rh a) hne (fun t ht hp => (cd t ht hp).1) t2
        obtain ⟨f4, w1, w2⟩ := la_rf hw haw (hbeh bs3 (fun q hq => (r3 q hq).trans ((t3 q hq).trans (m3 q hq)))) (v := (rw_jn a 100 ((rw_insN w U v a).1 a) (rw_insN w U v a).2.1).2) (fun t ht hp => (cd t ht hp).2) (fun c hc => (m2 c hc).2)
        have hlead : rw_rd (rw_insN w U v a).1 a (rw_pos a (rw_jn a 100 ((rw_insN w U v a).1 a) (rw_insN w U v a).2.1).1) (w - (a + 1)) a ≠ 0 := by
          rw [rw_rd_lo inv1 _ (by omega) a (Nat.le_refl a)]
          have := rw_pos_at (rw_jn_ne (k := 100) (v := (rw_insN w U v a).2.1) q1)
          omega
        obtain ⟨us', rh', ra', bs', f', g1, g2, g3⟩ := ih (a + 1) us rh ra bs3 f4 (by omega) (by rw [es]) hus (by
          rw [es]
          exact la_pic_ur haw hpic q1 hlead r2 (fun q hq => (r3 q hq).trans ((t3 q hq).trans (m3 q hq)))) (by rw [es]; exact w2)
        refine ⟨us', rh', ra', bs', f', ?_, g2, g3⟩
        have mj : sm_tot (fn_LA_joinFresh (iI (rh a)) (iI a) (iI w)) (0, 0, bs, f) = some (bs1, f1) := by
          rw [sm_tot_u, fn_LA_joinFresh_q0]
          exact m1
        rw [k1, if_neg (show ¬ iI (rh a : Int) = -1 by rw [show (-1 : Int32) = iI (-1) from rfl, ii_eq (by omega) (by omega) (by omega) (by omega)]; omega), mj, Option.bind_some]
        show sm_ev _ (Option.bind (sm_tot (fn_LA_makeLeadPositive (iI (rh a)) (iI a) (iI w)) (0, 0, bs1)) _) = _
        rw [t1, Option.bind_some, if_pos (ii_g (a := (rh a : Int)) (N := 6) (by omega) (by omega) (by omega)), ii_nat (by omega) (by omega), irh, r1, Option.bind_some]
        show sm_ev _ (Option.bind (sm_tot (fn_LA_reduce_f (iI a) (iI w) bs3 ra) (0, 0, f1)) _) = _
        rw [w1, Option.bind_some, sm_ev_l, e83]
        exact g1
theorem la_all_l (hw : w ≤ 10) (Ht : rw_tri w U) (hd : ∀ a, a < w → (U a a).natAbs ≤ 4611686018427387903) (hcr : ∀ k, k < w → ∀ t, t < k → 0 < rw_ra w U k (w - 1 - k + 1 + t) (w - 1 - k + 1 + t) → (rw_rd (rw_ra w U k) (w - 1 - k) (rw_ra w U k (w - 1 - k)) t (w - 1 - k + 1 + t)).natAbs ≤ 4611686018427387903) {us : Nat} {rh : Nat → Nat} {ra : Nat → Int32} :
    ∀ (d k : Nat) (bs : Nat → Nat → Int64), k + d = w → la_pic w (rw_ra w U k) us rh ra bs → ∃ bs', sm_tot (fn_LA_reduceAll (iI w) ra) (7, iI ((w : Int) - 1 - k), bs) = some bs' ∧ la_pic w (rw_ra w U w) us rh ra bs' := by
  intro d
  induction d with
  | zero =>
    intro k bs hk h
    have e : k = w := by omega
    subst e
    refine ⟨bs, ?_, h⟩
    rw [sm_tot_u, fn_LA_reduceAll_q7]
    unfold fn_LA_reduceAll_b7
    rw [if_pos (show iI ((k : Int) - 1 - k) < 0 by rw [il_0, ii_lt (by omega) (by omega) (by omega) (by omega)]; omega), sm_ev_r]
  | succ d ih =>
    intro k bs hk h
    have ha : w - 1 - k < w := by omega
    have ia : ((w : Int) - 1 - k).toNat = w - 1 - k := by omega
    obtain ⟨i1, i2, i3, _⟩ := rw_ra_inv Ht k (by omega)
    have e37 : ∀ bs, sm_tot (fn_LA_reduceAll (iI w) ra) (37, iI ((w : Int) - 1 - k), bs) = sm_tot (fn_LA_reduceAll (iI w) ra) (7, iI ((w : Int) - 1 - ((k + 1 : Nat) : Int)), bs) := fun bs => by
      rw [sm_tot_u, fn_LA_reduceAll_q37]
      unfold fn_LA_reduceAll_b37
      rw [sm_ev_l, show (-1 : Int32) = iI (-1) from rfl, ii_add, show (w : Int) - 1 - k + -1 = (w : Int) - 1 - ((k + 1 : Nat) : Int) by omega]
    have hra : rw_ra w U (k + 1) = rw_ur (rw_ra w U k) (w - 1 - k) (rw_rd (rw_ra w U k) (w - 1 - k) (rw_ra w U k (w - 1 - k)) k) := rfl
    have hlo : rw_rd (rw_ra w U k) (w - 1 - k) (rw_ra w U k (w - 1 - k)) k (w - 1 - k) = rw_ra w U k (w - 1 - k) (w - 1 - k) := rw_rd_lo i1 _ (by omega) _ (Nat.le_refl _)
    have e7 : sm_tot (fn_LA_reduceAll (iI w) ra) (7, iI ((w : Int) - 1 - k), bs) = sm_ev (fn_LA_reduceAll (iI w) ra) (if (ra (w - 1 - k) : Int32) = (-1) then (some (.inl (37, iI ((w : Int) - 1 - k), bs))) else (if ¬ ((ra (w - 1 - k) : Int32) < 0 ∨ 6 ≤ (ra (w - 1 - k) : Int32).toNatClampNeg) then (sm_tot (fn_LA_reduce_r (ra (w - 1 - k) : Int32).toNatClampNeg (iI ((w : Int) - 1 - k)) (iI w) ra) (0, 0, bs)).bind (fun r1 => some (.inl (37, iI ((w : Int) - 1 - k), r1))) else none)) := by
      rw [sm_tot_u, fn_LA_reduceAll_q7]
      unfold fn_LA_reduceAll_b7
      rw [if_neg (show ¬ iI ((w : Int) - 1 - k) < 0 by rw [il_0, ii_lt (by omega) (by omega) (by omega) (by omega)]; omega), if_pos (ii_g (a := (w : Int) - 1 - k) (N := 10) (by omega) (by omega) (by omega)), ii_nat (by omega) (by omega), ia]
    rw [e7]
    by_cases q : rw_ra w U k (w - 1 - k) (w - 1 - k) = 0
    · obtain ⟨bs', a1, a2⟩ := ih (k + 1) bs (by omega) (by
        rw [hra]
        obtain ⟨p1, p2, p3⟩ := h
        have hne : ∀ x, rw_ur (rw_ra w U k) (w - 1 - k) (rw_rd (rw_ra w U k) (w - 1 - k) (rw_ra w U k (w - 1 - k)) k) x x ≠ 0 → x ≠ w - 1 - k ∧ rw_ra w U k x x ≠ 0 := fun x hx => by
          by_cases e : x = w - 1 - k
          · rw [e, rw_ur_eq, hlo] at hx
            exact absurd q hx
          · rw [rw_ur_ne e] at hx
            exact ⟨e, hx⟩
        refine ⟨p1, fun x hx => ⟨fun q2 => ?_, fun q2 => ?_⟩, fun x x' hx hx' q2 q3 e => p3 x x' hx hx' (hne x q2).2 (hne x' q3).2 e⟩
        · by_cases e : x = w - 1 - k
          · rw [e]; exact (p2 _ ha).1 q
          · rw [rw_ur_ne e] at q2; exact (p2 x hx).1 q2
        · obtain ⟨e, q4⟩ := hne x q2
          rw [rw_ur_ne e]
          exact (p2 x hx).2 q4)
      refine ⟨bs', ?_, a2⟩
      rw [(h.2.1 _ ha).1 q, if_pos (show iI (-1) = -1 from rfl), sm_ev_l, e37]
      exact a1
    · obtain ⟨k1, k2, k3⟩ := (h.2.1 _ ha).2 q
      have hus6 := h.1
      have irh : ((rh (w - 1 - k) : Int)).toNat = rh (w - 1 - k) := by omega
      have hbeh : la_beh w (w - 1 - k) (rw_ra w U k) rh ra bs := la_pic_beh h i1 (fun x h1 h2 => by rw [i2 x h2]; exact hd x h2)
      obtain ⟨bs1, r1, r2, r3⟩ := la_rr hw ha hbeh (rho := rh (w - 1 - k)) (v := rw_ra w U k (w - 1 - k)) (fun x h1 h2 h3 e => by
        have := h.2.2 x (w - 1 - k) h2 ha h3 q e
        omega) (fun t ht hp => hcr k (by omega) t (by omega) hp) k3
      rw [show w - (w - 1 - k + 1) = k by omega] at r2
      obtain ⟨bs', a1, a2⟩ := ih (k + 1) bs1 (by omega) (by
        rw [hra]
        exact la_pic_ur ha h q (by rw [hlo]; exact q) r2 r3)
      refine ⟨bs', ?_, a2⟩
      rw [show ((w : Int) - 1 - k) = ((w - 1 - k : Nat) : Int) by omega] at *
      rw [k1, if_neg (show ¬ iI (rh (w - 1 - k) : Int) = -1 by rw [show (-1 : Int32) = iI (-1) from rfl, ii_eq (by omega) (by omega) (by omega) (by omega)]; omega), if_pos (ii_g (a := (rh (w - 1 - k) : Int)) (N := 6) (by omega) (by omega) (by omega)), ii_nat (by omega) (by omega), irh, r1, Option.bind_some, sm_ev_l, e37]
      exact a1
end LIN
