/-! LATTICES 30: how large the class's numbers become at the places where rows lead -/
theorem rw_jn_le {a c M k : Nat} {r v : Nat → Int} (h1 : (r c).natAbs ≤ M) (h2 : (v c).natAbs ≤ M) (h3 : (r c * v a - v c * r a).natAbs ≤ M) : ((rw_jn a k r v).1 c).natAbs ≤ M ∧ ((rw_jn a k r v).2 c).natAbs ≤ M := by
  have := rw_jn_ind (a := a) (P := fun r v => (r c).natAbs ≤ M ∧ (v c).natAbs ≤ M ∧ (r c * v a - v c * r a).natAbs ≤ M) (fun r v hv ⟨p1, p2, p3⟩ => by
    have e : v a * (r c - (r a).tdiv (v a) * v c) = (r c * v a - v c * r a) + v c * (r a).tmod (v a) := by
      rw [← rw_tmod_eq (r a) (v a)]
      generalize (r a).tdiv (v a) = q
      grind
    refine ⟨p2, rw_entcore e p3 p2 (rw_tmod_lt _ hv), ?_⟩
    show (v c * (r a - (r a).tdiv (v a) * v a) - (r c - (r a).tdiv (v a) * v c) * v a).natAbs ≤ M
    have e2 : v c * (r a - (r a).tdiv (v a) * v a) - (r c - (r a).tdiv (v a) * v c) * v a = -(r c * v a - v c * r a) := by
      generalize (r a).tdiv (v a) = q
      grind
    rw [e2, Int.natAbs_neg]; exact p3) k r v ⟨h1, h2, h3⟩
  exact ⟨this.1, this.2.1⟩
theorem rw_jn_at {a M k : Nat} {r v : Nat → Int} (h1 : (r a).natAbs ≤ M) (h2 : (v a).natAbs ≤ M) : ((rw_jn a k r v).1 a).natAbs ≤ M ∧ ((rw_jn a k r v).2 a).natAbs ≤ M := by
  refine rw_jn_le h1 h2 ?_
  rw [Int.mul_comm (v a), Int.sub_self]; exact Nat.zero_le _
theorem rw_rd_le {w a N : Nat} {U : Nat → Nat → Int} {x : Nat → Int} (H : rw_tri w U) (Hr : ∀ b b', a < b → b < b' → b' < w → 0 < U b' b' → 0 ≤ U b b' ∧ U b b' < U b' b')
    (hx : ∀ b, a < b → b < w → 0 < U b b → (x b).natAbs ≤ N * (U b b).natAbs) : ∀ t, a + 1 + t ≤ w → ∀ b, a < b → b < w → 0 < U b b → (rw_rd U a x t b).natAbs ≤ 2 ^ t * N * (U b b).natAbs := by
  intro t
  induction t with
  | zero => intro _ b h1 h2 h3; rw [Nat.pow_zero, Nat.one_mul]; exact hx b h1 h2 h3
  | succ t ih =>
    intro ht b h1 h2 h3
    have ib := ih (by omega) b h1 h2 h3
    have grow : 2 ^ (t + 1) * N * (U b b).natAbs = 2 ^ t * N * (U b b).natAbs + 2 ^ t * N * (U b b).natAbs := by rw [Nat.pow_succ]; grind
    simp only [rw_rd]
    by_cases hl : 0 < U (a + 1 + t) (a + 1 + t)
    · rw [if_pos hl]
      show (rw_rd U a x t b - rw_rd U a x t (a + 1 + t) / U (a + 1 + t) (a + 1 + t) * U (a + 1 + t) b).natAbs ≤ _
      have i0 := ih (by omega) (a + 1 + t) (by omega) (by omega) hl
      have e0 : ((2 ^ t * N * (U (a + 1 + t) (a + 1 + t)).natAbs : Nat) : Int) = ((2 ^ t * N : Nat) : Int) * U (a + 1 + t) (a + 1 + t) := by
        rw [Int.natCast_mul (2 ^ t * N), show ((U (a + 1 + t) (a + 1 + t)).natAbs : Int) = U (a + 1 + t) (a + 1 + t) by omega]
      have q := rw_flo (A := 2 ^ t * N) (v := rw_rd U a x t (a + 1 + t)) hl (by omega) (by omega)
      rcases Nat.lt_trichotomy b (a + 1 + t) with hb | hb | hb
      · rw [(H (a + 1 + t) (by omega)).1 b hb, Int.mul_zero, Int.sub_zero, grow]; omega
      · subst hb
        have e1 : rw_rd U a x t (a + 1 + t) - rw_rd U a x t (a + 1 + t) / U (a + 1 + t) (a + 1 + t) * U (a + 1 + t) (a + 1 + t) = rw_rd U a x t (a + 1 + t) % U (a + 1 + t) (a + 1 + t) := by
          rw [Int.emod_def, Int.mul_comm]
        have r0 := Int.emod_nonneg (rw_rd U a x t (a + 1 + t)) (show U (a + 1 + t) (a + 1 + t) ≠ 0 by omega)
        have r1 := Int.emod_lt_of_pos (rw_rd U a x t (a + 1 + t)) hl
        rw [e1, grow]
        by_cases hN : N = 0
        · have z : rw_rd U a x t (a + 1 + t) = 0 := by rw [hN, Nat.mul_zero, Nat.zero_mul] at ib; omega
          rw [z, Int.zero_emod]; exact Nat.zero_le _
        · have p : 1 ≤ 2 ^ t * N := Nat.mul_le_mul (Nat.one_le_two_pow) (show 1 ≤ N by omega)
          have := Nat.mul_le_mul p (Nat.le_refl (U (a + 1 + t) (a + 1 + t)).natAbs)
          omega
      · have rr := Hr (a + 1 + t) b (by omega) hb h2 h3
        have p : (rw_rd U a x t (a + 1 + t) / U (a + 1 + t) (a + 1 + t) * U (a + 1 + t) b).natAbs ≤ 2 ^ t * N * (U b b).natAbs := by
          rw [Int.natAbs_mul]; exact Nat.mul_le_mul q (by omega)
        rw [grow]; omega
    · rw [if_neg hl, grow]; omega
theorem rw_rd_col {w a c : Nat} {U : Nat → Nat → Int} {x : Nat → Int} (h : ∀ b, a < b → b < w → U b c = 0) : ∀ t, a + 1 + t ≤ w → rw_rd U a x t c = x c := by
  intro t
  induction t with
  | zero => intro _; rfl
  | succ t ih =>
    intro ht
    simp only [rw_rd]
    split
    · show rw_rd U a x t c - _ * U (a + 1 + t) c = x c
      rw [h _ (by omega) (by omega), Int.mul_zero, Int.sub_zero, ih (by omega)]
    · exact ih (by omega)
section CR
variable {w h n c m : Nat} {A U V : Nat → Nat → Int} {ld : Nat → Nat}
/-- every row, and the fresh vector, while it comes in: small at the leads there were, and at its own place -/
def rw_sm (m : Nat) (ld : Nat → Nat) (l : Nat → Nat) (e T : Nat) (R : Nat → Int) : Prop := (∀ i, i < m → (R (ld i)).natAbs ≤ 20 * l i) ∧ (R e).natAbs ≤ T
theorem rw_ins_sm {v : Nat → Int} (H : rw_tri w U) (Hr : rw_trd w U) (hv : ∀ b, b < w → 0 < U b b → (v b).natAbs ≤ 20 * (U b b).natAbs) (hl : ∀ b, b < w → (U b b).natAbs ≤ 3840000)
    {e : Nat} (hld : ∀ i, i < m → ld i < w) (hinj : ∀ i j, i < m → j < m → ld i = ld j → i = j) (hex : ∀ a, a < w → (U a a ≠ 0 ↔ ∃ i, i < m ∧ ld i = a)) (he : ∀ b, b < w → U b e = 0) (hve : (v e).natAbs ≤ 1) : ∀ a, a ≤ w →
    (∀ b, b < w → rw_sm m ld (fun i => (U (ld i) (ld i)).natAbs) e (rw_P m (fun i => if ld i < a then (U (ld i) (ld i)).natAbs else 1)) ((rw_insN w U v a).1 b))
    ∧ rw_sm m ld (fun i => (U (ld i) (ld i)).natAbs) e (rw_P m (fun i => if ld i < a then (U (ld i) (ld i)).natAbs else 1)) (rw_insN w U v a).2.1 := by
  have lpos : ∀ i, i < m → 0 < U (ld i) (ld i) := fun i hi => by
    have := (hex (ld i) (hld i hi)).mpr ⟨i, hi, rfl⟩
    have := (H (ld i) (hld i hi)).2.1
    omega
  have Ppos : ∀ a, 0 < rw_P m (fun i => if ld i < a then (U (ld i) (ld i)).natAbs else 1) := fun a => rw_P_pos fun k hk => by
    have := lpos k hk
    split <;> omega
  have mono : ∀ a, rw_P m (fun i => if ld i < a then (U (ld i) (ld i)).natAbs else 1) ≤ rw_P m (fun i => if ld i < a + 1 then (U (ld i) (ld i)).natAbs else 1) := fun a => rw_P_le fun i hi => by
    have := lpos i hi
    by_cases h1 : ld i < a
    · rw [if_pos h1, if_pos (by omega)]; exact Nat.le_refl _
    · rw [if_neg h1]; split <;> omega
  intro a
  induction a with
  | zero =>
    intro _
    refine ⟨fun b hb => ⟨fun i hi => ?_, ?_⟩, fun i hi => hv (ld i) (hld i hi) (lpos i hi), ?_⟩
    · show (U b (ld i)).natAbs ≤ 20 * (U (ld i) (ld i)).natAbs
      have p := lpos i hi
      rcases Nat.lt_trichotomy b (ld i) with hb2 | hb2 | hb2
      · have := Hr b (ld i) hb2 (hld i hi) p; omega
      · rw [hb2]; omega
      · rw [(H b hb).1 _ hb2]; exact Nat.zero_le _
    · show (U b e).natAbs ≤ _
      rw [he b hb]; exact Nat.zero_le _
    · have := Ppos 0
      show (v e).natAbs ≤ _
      omega
  | succ a ih =>
    intro ha
    obtain ⟨i1, i2⟩ := ih (by omega)
    obtain ⟨j1, j2, -⟩ := rw_insN_inv H hv hl a (by omega)
    have up : ∀ R, rw_sm m ld (fun i => (U (ld i) (ld i)).natAbs) e (rw_P m (fun i => if ld i < a then (U (ld i) (ld i)).natAbs else 1)) R → rw_sm m ld (fun i => (U (ld i) (ld i)).natAbs) e (rw_P m (fun i => if ld i < a + 1 then (U (ld i) (ld i)).natAbs else 1)) R :=
      fun R h => ⟨h.1, Nat.le_trans h.2 (mono a)⟩
    have ee : rw_insN w U v (a + 1) = if (rw_insN w U v a).2.2 = true then rw_insN w U v a else rw_ins1 w a (rw_insN w U v a).1 (rw_insN w U v a).2.1 := rfl
    rw [ee]
    cases hp : (rw_insN w U v a).2.2 with
    | true => rw [if_pos rfl]; exact ⟨fun b hb => up _ (i1 b hb), up _ i2⟩
    | false =>
      rw [if_neg (by simp)]
      obtain ⟨q1, q2, q3⟩ := j2 hp
      generalize (rw_insN w U v a).1 = U1 at *
      generalize (rw_insN w U v a).2.1 = v1 at *
      have pos_sm : ∀ {T : Nat} {R : Nat → Int}, rw_sm m ld (fun i => (U (ld i) (ld i)).natAbs) e T R → rw_sm m ld (fun i => (U (ld i) (ld i)).natAbs) e T (rw_pos a R) := fun h => ⟨fun i hi => by rw [rw_pos_abs]; exact h.1 i hi, by rw [rw_pos_abs]; exact h.2⟩
      unfold rw_ins1
      by_cases h0 : v1 a = 0
      · rw [if_pos h0]; exact ⟨fun b hb => up _ (i1 b hb), up _ i2⟩
      · rw [if_neg h0]
        by_cases h1 : U1 a a = 0
        · rw [if_pos h1]
          refine ⟨fun b hb => ?_, up _ i2⟩
          show rw_sm m ld _ e _ (rw_ur U1 a (rw_pos a v1) b)
          by_cases eb : b = a
          · rw [eb, rw_ur_eq]; exact pos_sm (up _ i2)
          · rw [rw_ur_ne eb]; exact up _ (i1 b hb)
        · rw [if_neg h1]
          have ea : U1 a = U a := q2 a (Nat.le_refl a)
          rw [ea] at h1 ⊢
          obtain ⟨i0, hi0, ei0⟩ := (hex a (by omega)).mp h1
          have la := lpos i0 hi0
          rw [ei0] at la
          have va : (v1 a).natAbs ≤ 20 * (U a a).natAbs := q3 a (by omega) (Nat.le_refl a) la
          have fin : (rw_jn a 100 (U a) v1).2 a = 0 := rw_jn_fin 50 100 (U a) v1 (by
            have := hl a (by omega)
            have : (2 : Nat) ^ 50 = 1125899906842624 := by decide
            omega) (by omega)
          have Tn : rw_P m (fun i => if ld i < a + 1 then (U (ld i) (ld i)).natAbs else 1) = rw_P m (fun i => if ld i < a then (U (ld i) (ld i)).natAbs else 1) * (U a a).natAbs := by
            rw [← rw_P_upd hi0 (U a a).natAbs (fun i => if ld i < a then (U (ld i) (ld i)).natAbs else 1) (if_neg (by omega))]
            refine rw_P_congr fun i hi => ?_
            by_cases e1 : i = i0
            · rw [if_pos e1, e1, ei0, if_pos (by omega)]
            · rw [if_neg e1]
              by_cases e2 : ld i < a
              · rw [if_pos e2, if_pos (by omega)]
              · rw [if_neg e2, if_neg]
                intro e3
                exact e1 (hinj i i0 hi hi0 (by omega))
          -- at the place of its own
          have je : ((rw_jn a 100 (U a) v1).1 e).natAbs ≤ rw_P m (fun i => if ld i < a + 1 then (U (ld i) (ld i)).natAbs else 1) ∧ ((rw_jn a 100 (U a) v1).2 e).natAbs ≤ rw_P m (fun i => if ld i < a + 1 then (U (ld i) (ld i)).natAbs else 1) := by
            rw [Tn]
            have t := i2.2
            have g : rw_P m (fun i => if ld i < a then (U (ld i) (ld i)).natAbs else 1) ≤ rw_P m (fun i => if ld i < a then (U (ld i) (ld i)).natAbs else 1) * (U a a).natAbs := Nat.le_mul_of_pos_right _ (by omega)
            refine rw_jn_le (by rw [he a (by omega)]; exact Nat.zero_le _) (by omega) ?_
            rw [he a (by omega), Int.zero_mul, Int.zero_sub, Int.natAbs_neg, Int.natAbs_mul]
            exact Nat.mul_le_mul t (Nat.le_refl _)
          have ue : ∀ b, a < b → b < w → U1 b e = 0 := fun b hb hbw => by rw [q2 b (by omega)]; exact he b hbw
          -- at the leads
          have lead : ∀ (x : Nat → Int), (∀ c, c < a → x c = 0) → (x a).natAbs ≤ 20 * (U a a).natAbs → ∀ i, i < m → (rw_rd U1 a x (w - (a + 1)) (ld i)).natAbs ≤ 20 * (U (ld i) (ld i)).natAbs := fun x x0 xa i hi => by
            rcases Nat.lt_trichotomy (ld i) a with hlt | hlt | hlt
            · rw [rw_rd_lo j1 _ (by omega) _ (by omega), x0 _ hlt]; exact Nat.zero_le _
            · rw [rw_rd_lo j1 _ (by omega) _ (by omega), hlt]; exact xa
            · have eb : U1 (ld i) = U (ld i) := q2 _ (by omega)
              have := rw_rd_red (b := a) (v := x) j1 (w - (a + 1)) (by omega) (ld i) hlt (by have := hld i hi; omega) (by rw [eb]; exact lpos i hi)
              rw [eb] at this
              omega
          have z : ∀ c, c < a → (rw_jn a 100 (U a) v1).1 c = 0 ∧ (rw_jn a 100 (U a) v1).2 c = 0 := fun c hc => rw_jn_zero ((H a (by omega)).1 c hc) (q1 c hc)
          have at' := rw_jn_at (k := 100) (M := 20 * (U a a).natAbs) (r := U a) (v := v1) (a := a) (by omega) va
          refine ⟨fun b hb => ?_, fun i hi => lead _ (fun c hc => (z c hc).2) at'.2 i hi, ?_⟩
          · show rw_sm m ld _ e _ (rw_ur U1 a _ b)
            by_cases eb : b = a
            · rw [eb, rw_ur_eq]
              refine ⟨fun i hi => lead _ (fun c hc => rw_pos_zero (z c hc).1) (by rw [rw_pos_abs]; exact at'.1) i hi, ?_⟩
              rw [rw_rd_col ue _ (by omega), rw_pos_abs]; exact je.1
            · rw [rw_ur_ne eb]; exact up _ (i1 b hb)
          · show (rw_rd U1 a (rw_jn a 100 (U a) v1).2 (w - (a + 1)) e).natAbs ≤ _
            rw [rw_rd_col ue _ (by omega)]; exact je.2
end CR
