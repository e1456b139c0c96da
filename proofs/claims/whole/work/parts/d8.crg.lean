/-! LATTICES 31: all that decides in the class's work is below 2 ^ 62 -/
def rw_crg (w : Nat) (U : Nat → Nat → Int) (v : Nat → Int) : Prop :=
  (∀ a, a < w → (rw_insN w U v a).2.2 = false → ((rw_insN w U v a).2.1 a).natAbs ≤ 4611686018427387903
    ∧ ((rw_insN w U v a).1 a a ≠ 0 → (∀ k, ((rw_jn a k ((rw_insN w U v a).1 a) (rw_insN w U v a).2.1).1 a).natAbs ≤ 4611686018427387903 ∧ ((rw_jn a k ((rw_insN w U v a).1 a) (rw_insN w U v a).2.1).2 a).natAbs ≤ 4611686018427387903)
      ∧ ∀ t, a + 1 + t < w → 0 < (rw_insN w U v a).1 (a + 1 + t) (a + 1 + t) →
        (rw_rd (rw_insN w U v a).1 a (rw_pos a (rw_jn a 100 ((rw_insN w U v a).1 a) (rw_insN w U v a).2.1).1) t (a + 1 + t)).natAbs ≤ 4611686018427387903
        ∧ (rw_rd (rw_insN w U v a).1 a (rw_jn a 100 ((rw_insN w U v a).1 a) (rw_insN w U v a).2.1).2 t (a + 1 + t)).natAbs ≤ 4611686018427387903))
  ∧ ∀ k, k < w → ∀ t, t < k → 0 < rw_ra w (rw_insN w U v w).1 k (w - 1 - k + 1 + t) (w - 1 - k + 1 + t) →
      (rw_rd (rw_ra w (rw_insN w U v w).1 k) (w - 1 - k) (rw_ra w (rw_insN w U v w).1 k (w - 1 - k)) t (w - 1 - k + 1 + t)).natAbs ≤ 4611686018427387903
theorem rw_sum_le2 {m κ C : Nat} {D y : Int} {E v : Nat → Int} (hD : D ≠ 0) (e : (D * y).natAbs = (rw_S m (fun k => E k * v k)).natAbs) (hE : ∀ k, k < m → (E k).natAbs ≤ C) (hs : rw_S m (fun k => ((v k).natAbs : Int)) ≤ (κ * D.natAbs : Nat)) : y.natAbs ≤ κ * C := by
  have t := rw_S_tri m (fun k => E k * v k)
  have t2 : rw_S m (fun k => ((E k * v k).natAbs : Int)) ≤ rw_S m (fun k => (C : Int) * ((v k).natAbs : Int)) := rw_S_le fun k hk => by
    rw [Int.natAbs_mul]
    have := Nat.mul_le_mul (hE k hk) (Nat.le_refl (v k).natAbs)
    rw [← Int.natCast_mul]
    exact Int.ofNat_le.mpr this
  rw [rw_S_mul] at t2
  have t3 : (C : Int) * rw_S m (fun k => ((v k).natAbs : Int)) ≤ (C : Int) * ((κ * D.natAbs : Nat) : Int) := Int.mul_le_mul_of_nonneg_left hs (by omega)
  rw [← e, Int.natAbs_mul] at t
  rw [← Int.natCast_mul] at t3
  have t4 : D.natAbs * y.natAbs ≤ C * (κ * D.natAbs) := by omega
  have t5 : C * (κ * D.natAbs) = D.natAbs * (κ * C) := by grind
  rw [t5] at t4
  exact Nat.le_of_mul_le_mul_left t4 (by omega)
theorem rw_place_keep {w a : Nat} {U : Nat → Nat → Int} {v : Nat → Int} (h : (rw_insN w U v a).2.2 = true) : ∀ t, rw_insN w U v (a + t) = rw_insN w U v a := by
  intro t
  induction t with
  | zero => rfl
  | succ t ih =>
    have e : rw_insN w U v (a + (t + 1)) = if (rw_insN w U v (a + t)).2.2 = true then rw_insN w U v (a + t) else rw_ins1 w (a + t) (rw_insN w U v (a + t)).1 (rw_insN w U v (a + t)).2.1 := rfl
    rw [e, ih, if_pos h]
section CG
variable {w h n c : Nat} {A U : Nat → Nat → Int}
theorem rw_class_rng (hw : w = h + n) (hn : n ≤ 6) (hh : h ≤ 4) (hc : c < n) (ha : ∀ q k, q < h → (A q k).natAbs ≤ 20) (B : rw_bp w h A c U) : rw_crg w U (rw_fr h A c) := by
  obtain ⟨h1, h2, h3, h4⟩ := B
  have B' := rw_bp_step hw hh hc ha ⟨h1, h2, h3, h4⟩
  obtain ⟨⟨m, V, ld, hV, t1, t2, ρ, ix, nn, hρ, hix, dat⟩, -, z⟩ := rw_bp_le hw hh (show c ≤ n by omega) ha h1 h2 h3
  have f20 : ∀ b, (b < h ∨ b < w) → (rw_fr h A c b).natAbs ≤ 20 := fun b _ => by
    unfold rw_fr
    by_cases hk : b < h
    · rw [if_pos hk]; exact ha b c hk
    · rw [if_neg hk]; split <;> decide
  have fv : ∀ b, b < w → 0 < U b b → (rw_fr h A c b).natAbs ≤ 20 * (U b b).natAbs := fun b hb hp => by have := f20 b (Or.inr hb); omega
  have hl : ∀ b, b < w → (U b b).natAbs ≤ 3840000 := fun b hb => h4 b b hb hb
  have haα : ∀ q k, q < ρ → (rw_al h A (ix q) k).natAbs ≤ 20 := fun q k hq => by
    unfold rw_al
    by_cases hk : k < h
    · rw [if_pos hk]; have := rw_u_abs (ix q) k; omega
    · rw [if_neg hk]; have := ha (ix q) (k - h) (hix q hq); omega
  have hld : ∀ i, i < m → ld i < w := fun i hi => by have := (hV i hi).1; omega
  have hex : ∀ a, a < w → (U a a ≠ 0 ↔ ∃ i, i < m ∧ ld i = a) := fun a haw => by
    by_cases h' : a < h + c
    · exact t2 a h'
    · exact ⟨fun hne => absurd (z a a haw (by omega) haw) hne, fun ⟨i, hi, e⟩ => by have := (hV i hi).1; omega⟩
  have he : ∀ b, b < w → U b (h + c) = 0 := fun b hb => z b (h + c) hb (Nat.le_refl _) (by omega)
  have hve : (rw_fr h A c (h + c)).natAbs ≤ 1 := by unfold rw_fr; rw [if_neg (by omega), if_pos rfl]; decide
  have lpos : ∀ i, i < m → 0 < U (ld i) (ld i) := fun i hi => by
    have := (hex (ld i) (hld i hi)).mpr ⟨i, hi, rfl⟩
    have := (h1 (ld i) (hld i hi)).2.1
    omega
  obtain ⟨sm, -⟩ := rw_ins_sm h1 h2 fv hl hld (fun i j hi hj e => rw_ld_inj hV hi hj e) hex he hve w (Nat.le_refl w)
  have eP : rw_P m (fun i => if ld i < w then (U (ld i) (ld i)).natAbs else 1) = rw_P m (fun i => (V i (ld i)).natAbs) := rw_P_congr fun i hi => by
    rw [if_pos (hld i hi), t1 i hi (ld i) (hV i hi).1]
  rw [eP] at sm
  have hP := dat.2.2.2.2.2
  have hD := rw_det_le haα nn
  have dl : rw_dl ρ ≤ 3840000 := rw_dl_le (by omega)
  have en := rw_cov_n dat.2.2.2.2.1
  obtain ⟨i1, i2⟩ := rw_ins_all h1 fv hl
  -- every number of the rows
  have big : ∀ a b, a < w → b < w → ((rw_insN w U (rw_fr h A c) w).1 a b).natAbs ≤ 1500000000 := fun a b haw hbw => by
    obtain ⟨s1, s2⟩ := sm a haw
    have mem : rw_in w (c + 1) (rw_fr h A) ((rw_insN w U (rw_fr h A c) w).1 a) := by
      refine rw_in_trans (fun k hk => ?_) ((i2 _).mpr (rw_in_row _ haw))
      by_cases e : k = w
      · subst e; rw [rw_uv_last]; exact rw_in_row _ (by omega)
      · rw [rw_uv_row (by omega)]
        exact rw_in_trans (fun j hj => rw_in_row (rw_fr h A) (by omega)) ((h3 (U k)).mp (rw_in_row U (by omega)))
    generalize (rw_insN w U (rw_fr h A c) w).1 a = R at *
    obtain ⟨y, hy⟩ := mem
    have yc : y c = R (h + c) := by rw [hy (h + c) (by omega), rw_S_fr, if_neg (by omega), if_pos (by omega), Nat.add_sub_cancel_left]
    by_cases hb1 : h + c < b
    · rw [hy b hbw, rw_S_fr, if_neg (by omega), if_neg (by omega)]; exact Nat.zero_le _
    · by_cases hb2 : b = h + c
      · rw [hb2]; omega
      · rcases rw_cov_ex dat.2.2.2.2.1 (show b < h + c by omega) with ⟨k, hk, e⟩ | ⟨j, hj, e⟩
        · rw [← e]
          have p1 : (R (ld k)).natAbs ≤ 20 * (U (ld k) (ld k)).natAbs := s1 k hk
          have := hl (ld k) (hld k hk)
          omega
        · -- by the rows there were
          have ku : rw_ker (h + c) ρ (fun q => rw_al h A (ix q)) (fun k => R k - R (h + c) * rw_fr h A c k) := by
            have : rw_ker (h + c) h (rw_al h A) (fun k => R k - R (h + c) * rw_fr h A c k) := rw_al_ker.mpr ⟨y, fun k hk => by
              show R k - R (h + c) * rw_fr h A c k = _
              rw [hy k (by omega), ← yc]
              simp only [rw_S]
              omega⟩
            exact fun q hq => this (ix q) (hix q hq)
          have cr := rw_cram dat (by omega) ku hj
          have us : rw_S m (fun k => (((fun k => R k - R (h + c) * rw_fr h A c k) (ld k)).natAbs : Int)) ≤ ((40 * m) * (rw_det ρ (fun q => rw_al h A (ix q)) nn).natAbs : Nat) := by
            have pv : ∀ k, k < m → 0 < (V k (ld k)).natAbs := fun k hk => by have := (hV k hk).2.2.1; omega
            have t := rw_S_abs (n := m) (M := 40 * (rw_det ρ (fun q => rw_al h A (ix q)) nn).natAbs) (g := fun k => (((fun k => R k - R (h + c) * rw_fr h A c k) (ld k)).natAbs : Int)) (fun k hk => by
              rw [Int.natAbs_natCast]
              show (R (ld k) - R (h + c) * rw_fr h A c (ld k)).natAbs ≤ _
              have p1 := s1 k hk
              have p2 : (V k (ld k)).natAbs ≤ rw_P m (fun i => (V i (ld i)).natAbs) := rw_P_term (g := fun i => (V i (ld i)).natAbs) pv hk
              have p3 := t1 k hk (ld k) (hV k hk).1
              have p4 : (R (h + c) * rw_fr h A c (ld k)).natAbs ≤ rw_P m (fun i => (V i (ld i)).natAbs) * 20 := by
                rw [Int.natAbs_mul]; exact Nat.mul_le_mul s2 (f20 _ (Or.inr (hld k hk)))
              have p5 : (R (ld k)).natAbs ≤ 20 * (V k (ld k)).natAbs := by rw [← p3]; exact p1
              omega)
            have e2 : m * (40 * (rw_det ρ (fun q => rw_al h A (ix q)) nn).natAbs) = (40 * m) * (rw_det ρ (fun q => rw_al h A (ix q)) nn).natAbs := by grind
            rw [e2] at t
            omega
          have u := rw_sum_le2 (m := m) (κ := 40 * m) (C := rw_dl ρ) (E := fun k => rw_det ρ (fun q => rw_al h A (ix q)) (rw_up nn j (ld k))) (v := fun k => (fun k => R k - R (h + c) * rw_fr h A c k) (ld k)) (rw_dat_ne dat) (by rw [cr, Int.natAbs_neg]) (fun k _ => rw_det_le haα _) us
          have u2 : (40 * m) * rw_dl ρ ≤ 360 * 3840000 := Nat.mul_le_mul (by omega) dl
          have u3 : (R (h + c) * rw_fr h A c (nn j)).natAbs ≤ 3840000 * 20 := by
            rw [Int.natAbs_mul]; exact Nat.mul_le_mul (by omega) (f20 _ (Or.inr (by omega)))
          rw [← e]
          have u4 : (R (nn j) - R (h + c) * rw_fr h A c (nn j)).natAbs ≤ (40 * m) * rw_dl ρ := u
          omega
  constructor
  · intro a haw hp
    obtain ⟨j1, j2, -⟩ := rw_insN_inv h1 fv hl a (by omega)
    obtain ⟨q1, q2, q3⟩ := j2 hp
    have nxt : rw_insN w U (rw_fr h A c) (a + 1) = if (rw_insN w U (rw_fr h A c) a).2.2 = true then rw_insN w U (rw_fr h A c) a else rw_ins1 w a (rw_insN w U (rw_fr h A c) a).1 (rw_insN w U (rw_fr h A c) a).2.1 := rfl
    rw [hp, if_neg (by simp)] at nxt
    have pk := rw_place_keep (w := w) (U := U) (v := rw_fr h A c) (a := a + 1)
    have dg := (rw_ra_inv i1 w (Nat.le_refl w)).2.1
    have fin := B'.2.2.2
    generalize hU1 : (rw_insN w U (rw_fr h A c) a).1 = U1 at *
    generalize hv1 : (rw_insN w U (rw_fr h A c) a).2.1 = v1 at *
    have ea : U1 a = U a := q2 a (Nat.le_refl a)
    refine ⟨?_, fun hne => ?_⟩
    · by_cases h0 : v1 a = 0
      · rw [h0]; decide
      · by_cases hd : U1 a a = 0
        · have e1 : rw_ins1 w a U1 v1 = (rw_ur U1 a (rw_pos a v1), v1, true) := by unfold rw_ins1; rw [if_neg h0, if_pos hd]
          rw [e1] at nxt
          have k := pk (by rw [nxt]) (w - (a + 1))
          rw [show a + 1 + (w - (a + 1)) = w by omega, nxt] at k
          have d := dg a haw
          rw [k] at d
          have f := fin a a haw haw
          rw [k] at f
          rw [d] at f
          show (v1 a).natAbs ≤ _
          have : (rw_ur U1 a (rw_pos a v1) a a).natAbs = (v1 a).natAbs := by rw [rw_ur_eq, rw_pos_abs]
          have f' : (rw_ur U1 a (rw_pos a v1) a a).natAbs ≤ 3840000 := f
          omega
        · rw [ea] at hd
          have := q3 a haw (Nat.le_refl a) (by have := (h1 a haw).2.1; omega)
          have := hl a haw
          omega
    · rw [ea] at hne ⊢
      have la : 0 < U a a := by have := (h1 a haw).2.1; omega
      have va := q3 a haw (Nat.le_refl a) la
      have lal := hl a haw
      refine ⟨fun k => ?_, fun t ht hlt => ?_⟩
      · have := rw_jn_at (k := k) (M := 76800000) (r := U a) (v := v1) (a := a) (by omega) (by omega)
        omega
      · have Hr1 : ∀ b b', a < b → b < b' → b' < w → 0 < U1 b' b' → 0 ≤ U1 b b' ∧ U1 b b' < U1 b' b' := fun b b' x1 x2 x3 x4 => by
          rw [q2 b (by omega), q2 b' (by omega)]
          rw [q2 b' (by omega)] at x4
          exact h2 b b' x2 x3 x4
        have jl : ∀ b, a < b → b < w → 0 < U1 b b → ((rw_jn a 100 (U a) v1).1 b).natAbs ≤ 40 * (U a a).natAbs * (U1 b b).natAbs ∧ ((rw_jn a 100 (U a) v1).2 b).natAbs ≤ 40 * (U a a).natAbs * (U1 b b).natAbs := fun b x1 x2 x3 => by
          rw [q2 b (by omega)] at x3 ⊢
          have ub := h2 a b x1 x2 x3
          have vb := q3 b x2 (by omega) x3
          have e40 : 40 * (U a a).natAbs * (U b b).natAbs = 20 * ((U a a).natAbs * (U b b).natAbs) + 20 * ((U a a).natAbs * (U b b).natAbs) := by grind
          have l1 : (U b b).natAbs ≤ (U a a).natAbs * (U b b).natAbs := Nat.le_mul_of_pos_left _ (by omega)
          rw [e40]
          refine rw_jn_le (by omega) (by omega) ?_
          have m1 : (U a b * v1 a).natAbs ≤ (U b b).natAbs * (20 * (U a a).natAbs) := by rw [Int.natAbs_mul]; exact Nat.mul_le_mul (by omega) va
          have m2 : (v1 b * U a a).natAbs ≤ 20 * (U b b).natAbs * (U a a).natAbs := by rw [Int.natAbs_mul]; exact Nat.mul_le_mul vb (Nat.le_refl _)
          have e3 : (U b b).natAbs * (20 * (U a a).natAbs) = 20 * ((U a a).natAbs * (U b b).natAbs) := by grind
          have e4 : 20 * (U b b).natAbs * (U a a).natAbs = 20 * ((U a a).natAbs * (U b b).natAbs) := by grind
          rw [e3] at m1
          rw [e4] at m2
          omega
        have r1 := rw_rd_le (N := 40 * (U a a).natAbs) (x := rw_pos a (rw_jn a 100 (U a) v1).1) j1 Hr1 (fun b x1 x2 x3 => by rw [rw_pos_abs]; exact (jl b x1 x2 x3).1) t (by omega) (a + 1 + t) (by omega) (by omega) hlt
        have r2 := rw_rd_le (N := 40 * (U a a).natAbs) (x := (rw_jn a 100 (U a) v1).2) j1 Hr1 (fun b x1 x2 x3 => (jl b x1 x2 x3).2) t (by omega) (a + 1 + t) (by omega) (by omega) hlt
        have p : 2 ^ t ≤ 2 ^ 8 := Nat.pow_le_pow_right (by omega) (by omega)
        have lb : (U1 (a + 1 + t) (a + 1 + t)).natAbs ≤ 3840000 := by rw [q2 _ (by omega)]; exact hl _ (by omega)
        have top : 2 ^ t * (40 * (U a a).natAbs) * (U1 (a + 1 + t) (a + 1 + t)).natAbs ≤ 2 ^ 8 * (40 * 3840000) * 3840000 := Nat.mul_le_mul (Nat.mul_le_mul p (Nat.mul_le_mul (Nat.le_refl _) lal)) lb
        have cst : 2 ^ 8 * (40 * 3840000) * 3840000 ≤ 4611686018427387903 := by decide +kernel
        exact ⟨Nat.le_trans r1 (Nat.le_trans top cst), Nat.le_trans r2 (Nat.le_trans top cst)⟩
  · intro k hk t ht hlt
    obtain ⟨r1, r2, r3, r4, -⟩ := rw_ra_inv i1 k (by omega)
    have dg := (rw_ra_inv i1 w (Nat.le_refl w)).2.1
    have ea : rw_ra w (rw_insN w U (rw_fr h A c) w).1 k (w - 1 - k) = (rw_insN w U (rw_fr h A c) w).1 (w - 1 - k) := r3 _ (by omega)
    have fin := B'.2.2.2
    have le := rw_rd_le (N := 1500000000) (a := w - 1 - k) (x := rw_ra w (rw_insN w U (rw_fr h A c) w).1 k (w - 1 - k)) r1 (fun b b' x1 x2 x3 x4 => r4 b b' (by omega) x2 x3 x4) (fun b x1 x2 x3 => by
      rw [ea]
      have := big (w - 1 - k) b (by omega) x2
      omega) t (by omega) (w - 1 - k + 1 + t) (by omega) (by omega) hlt
    have lb : (rw_ra w (rw_insN w U (rw_fr h A c) w).1 k (w - 1 - k + 1 + t) (w - 1 - k + 1 + t)).natAbs ≤ 3840000 := by
      rw [r2 _ (by omega), ← dg _ (show w - 1 - k + 1 + t < w by omega)]
      exact fin _ _ (by omega) (by omega)
    have p : 2 ^ t ≤ 2 ^ 8 := Nat.pow_le_pow_right (by omega) (by omega)
    have top := Nat.mul_le_mul (Nat.mul_le_mul p (Nat.le_refl 1500000000)) lb
    exact Nat.le_trans le (Nat.le_trans top (by decide +kernel))
end CG
