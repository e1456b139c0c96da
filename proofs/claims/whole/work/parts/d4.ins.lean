/-! LATTICES 27: a fresh vector comes in, place after place; then all rows are reduced -/
def rw_insN (w : Nat) (U : Nat → Nat → Int) (v : Nat → Int) : Nat → (Nat → Nat → Int) × (Nat → Int) × Bool
  | 0 => (U, v, false)
  | a + 1 => if (rw_insN w U v a).2.2 = true then rw_insN w U v a else rw_ins1 w a (rw_insN w U v a).1 (rw_insN w U v a).2.1
section IN2
variable {w : Nat} {U : Nat → Nat → Int} {v : Nat → Int}
theorem rw_insN_inv (H : rw_tri w U) (hv : ∀ b, b < w → 0 < U b b → (v b).natAbs ≤ 20 * (U b b).natAbs) (hl : ∀ b, b < w → (U b b).natAbs ≤ 3840000) : ∀ a, a ≤ w →
    rw_tri w (rw_insN w U v a).1
    ∧ ((rw_insN w U v a).2.2 = false → (∀ c, c < a → (rw_insN w U v a).2.1 c = 0) ∧ (∀ b, a ≤ b → (rw_insN w U v a).1 b = U b) ∧ ∀ b, b < w → a ≤ b → 0 < U b b → ((rw_insN w U v a).2.1 b).natAbs ≤ 20 * (U b b).natAbs)
    ∧ ∀ x, rw_sp w U v false x ↔ rw_sp w (rw_insN w U v a).1 (rw_insN w U v a).2.1 (rw_insN w U v a).2.2 x := by
  intro a
  induction a with
  | zero => intro _; exact ⟨H, fun _ => ⟨fun c hc => absurd hc (Nat.not_lt_zero c), fun _ _ => rfl, fun b hb _ => hv b hb⟩, fun _ => Iff.rfl⟩
  | succ a ih =>
    intro ha
    obtain ⟨i1, i2, i3⟩ := ih (by omega)
    have e : rw_insN w U v (a + 1) = if (rw_insN w U v a).2.2 = true then rw_insN w U v a else rw_ins1 w a (rw_insN w U v a).1 (rw_insN w U v a).2.1 := rfl
    rw [e]
    cases hp : (rw_insN w U v a).2.2 with
    | true =>
      rw [if_pos rfl]
      refine ⟨i1, fun h => by rw [hp] at h; exact absurd h (by simp), i3⟩
    | false =>
      rw [if_neg (by simp)]
      rw [hp] at i3
      obtain ⟨j1, j2, j3⟩ := i2 hp
      generalize (rw_insN w U v a).1 = U1 at *
      generalize (rw_insN w U v a).2.1 = v1 at *
      have ea : U1 a = U a := j2 a (Nat.le_refl a)
      obtain ⟨t1, t2⟩ := rw_ins1_tri (show a < w by omega) i1 j1 (fun hne => by
        rw [ea] at hne
        have p := (H a (by omega)).2.1
        have b1 := j3 a (by omega) (Nat.le_refl a) (by omega)
        have b2 := hl a (by omega)
        have : (2 : Nat) ^ 50 = 1125899906842624 := by decide
        omega)
      refine ⟨t1, fun hpl => ⟨t2 hpl, ?_, ?_⟩, fun x => (i3 x).trans (rw_ins1_sp (by omega) i1 x)⟩
      · intro b hb
        unfold rw_ins1 at hpl ⊢
        by_cases h0 : v1 a = 0
        · rw [if_pos h0]; exact j2 b (by omega)
        · rw [if_neg h0] at hpl ⊢
          by_cases h1 : U1 a a = 0
          · rw [if_pos h1] at hpl; simp at hpl
          · rw [if_neg h1]
            show rw_ur U1 a _ b = U b
            rw [rw_ur_ne (by omega)]; exact j2 b (by omega)
      · intro b hb hab hpos
        unfold rw_ins1 at hpl ⊢
        by_cases h0 : v1 a = 0
        · rw [if_pos h0]; exact j3 b hb (by omega) hpos
        · rw [if_neg h0] at hpl ⊢
          by_cases h1 : U1 a a = 0
          · rw [if_pos h1] at hpl; simp at hpl
          · rw [if_neg h1]
            show (rw_rd U1 a (rw_jn a 100 (U1 a) v1).2 (w - (a + 1)) b).natAbs ≤ _
            have eb : U1 b = U b := j2 b (by omega)
            have r := rw_rd_red (b := a) (v := (rw_jn a 100 (U1 a) v1).2) i1 (w - (a + 1)) (by omega) b (by omega) (by omega) (by rw [eb]; exact hpos)
            rw [eb] at r
            omega
/-- all places -/
theorem rw_ins_all (H : rw_tri w U) (hv : ∀ b, b < w → 0 < U b b → (v b).natAbs ≤ 20 * (U b b).natAbs) (hl : ∀ b, b < w → (U b b).natAbs ≤ 3840000) :
    rw_tri w (rw_insN w U v w).1 ∧ ∀ x, rw_in w (w + 1) (rw_uv w U v) x ↔ rw_in w w (rw_insN w U v w).1 x := by
  obtain ⟨i1, i2, i3⟩ := rw_insN_inv H hv hl w (Nat.le_refl w)
  refine ⟨i1, fun x => ?_⟩
  have h := i3 x
  cases hp : (rw_insN w U v w).2.2 with
  | true => rw [hp] at h; exact h
  | false =>
    rw [hp] at h
    refine h.trans ?_
    show rw_in w (w + 1) (rw_uv w _ _) x ↔ _
    constructor
    · refine rw_in_trans fun b hb => ?_
      by_cases e : b = w
      · subst e
        rw [rw_uv_last]
        exact rw_in_zero (i2 hp).1
      · rw [rw_uv_row (by omega)]; exact rw_in_row _ (by omega)
    · refine rw_in_trans fun b hb => ?_
      have := rw_in_row (n := w) (m := w + 1) (rw_uv w (rw_insN w U v w).1 (rw_insN w U v w).2.1) (show b < w + 1 by omega)
      rw [rw_uv_row hb] at this
      exact this
end IN2
/-! all rows are reduced, the last one first -/
def rw_ra (w : Nat) (U : Nat → Nat → Int) : Nat → Nat → Nat → Int
  | 0 => U
  | k + 1 => rw_ur (rw_ra w U k) (w - 1 - k) (rw_rd (rw_ra w U k) (w - 1 - k) (rw_ra w U k (w - 1 - k)) k)
section RA2
variable {w : Nat} {U : Nat → Nat → Int}
theorem rw_rd_zero {b : Nat} {v : Nat → Int} (h : ∀ c, c < w → v c = 0) : ∀ t, b + 1 + t ≤ w → ∀ c, c < w → rw_rd U b v t c = 0 := by
  intro t
  induction t with
  | zero => intro _ c hc; exact h c hc
  | succ t ih =>
    intro ht c hc
    simp only [rw_rd]
    split
    · show rw_rd U b v t c - rw_rd U b v t (b + 1 + t) / U (b + 1 + t) (b + 1 + t) * U (b + 1 + t) c = 0
      rw [ih (by omega) c hc, ih (by omega) (b + 1 + t) (by omega), Int.zero_ediv, Int.zero_mul]; rfl
    · exact ih (by omega) c hc
theorem rw_ra_inv (H : rw_tri w U) : ∀ k, k ≤ w → rw_tri w (rw_ra w U k) ∧ (∀ b, b < w → rw_ra w U k b b = U b b) ∧ (∀ b, b < w - k → rw_ra w U k b = U b)
    ∧ (∀ a a', w - k ≤ a → a < a' → a' < w → 0 < rw_ra w U k a' a' → 0 ≤ rw_ra w U k a a' ∧ rw_ra w U k a a' < rw_ra w U k a' a') ∧ ∀ x, rw_in w w U x ↔ rw_in w w (rw_ra w U k) x := by
  intro k
  induction k with
  | zero => intro _; exact ⟨H, fun _ _ => rfl, fun _ _ => rfl, fun a a' h1 h2 h3 => by omega, fun _ => Iff.rfl⟩
  | succ k ih =>
    intro hk
    obtain ⟨i1, i2, i3, i4, i5⟩ := ih (by omega)
    simp only [rw_ra]
    have ha : w - 1 - k < w := by omega
    have hak : w - 1 - k + 1 + k = w := by omega
    have hsub : w - (k + 1) = w - 1 - k := by omega
    rw [hsub]
    generalize w - 1 - k = a at *
    generalize rw_ra w U k = W at *
    have lo : ∀ c, c ≤ a → rw_rd W a (W a) k c = W a c := fun c hc => rw_rd_lo i1 k (by omega) c hc
    have tri' : rw_tri w (rw_ur W a (rw_rd W a (W a) k)) := by
      intro b hb
      by_cases e : b = a
      · subst e
        rw [rw_ur_eq]
        refine ⟨fun c hc => ?_, ?_, fun h c hc => ?_⟩
        · rw [lo c (by omega)]; exact (i1 b hb).1 c hc
        · rw [lo b (Nat.le_refl b)]; exact (i1 b hb).2.1
        · rw [lo b (Nat.le_refl b)] at h
          exact rw_rd_zero ((i1 b hb).2.2 h) k (by omega) c hc
      · rw [rw_ur_ne e]; exact i1 b hb
    refine ⟨tri', fun b hb => ?_, fun b hb => ?_, fun b b' h1 h2 h3 h4 => ?_, fun x => (i5 x).trans ?_⟩
    · by_cases e : b = a
      · subst e; rw [rw_ur_eq, lo b (Nat.le_refl b)]; exact i2 b hb
      · rw [rw_ur_ne e]; exact i2 b hb
    · rw [rw_ur_ne (by omega)]; exact i3 b (by omega)
    · rw [rw_ur_ne (show b' ≠ a by omega)] at h4 ⊢
      by_cases e : b = a
      · subst e
        rw [rw_ur_eq]
        exact rw_rd_red i1 k (by omega) b' h2 (by omega) h4
      · rw [rw_ur_ne e]; exact i4 b b' (by omega) h2 h3 h4
    · have d : ∀ {V : Nat → Nat → Int}, (∀ b, a < b → b < w → rw_in w w V (W b)) → rw_in w w V (fun c => W a c - 1 * rw_rd W a (W a) k c) := fun h => rw_rd_in h k (by omega)
      constructor
      · refine rw_in_trans fun b hb => ?_
        by_cases e : b = a
        · subst e
          refine rw_in_add1 (u := rw_rd W b (W b) k) (d fun c h1 h2 => ?_) ?_
          · have := rw_in_row (n := w) (m := w) (rw_ur W b (rw_rd W b (W b) k)) h2
            rw [rw_ur_ne (by omega)] at this
            exact this
          · have := rw_in_row (n := w) (m := w) (rw_ur W b (rw_rd W b (W b) k)) hb
            rw [rw_ur_eq] at this
            exact this
        · have := rw_in_row (n := w) (m := w) (rw_ur W a (rw_rd W a (W a) k)) hb
          rw [rw_ur_ne e] at this
          exact this
      · refine rw_in_trans fun b hb => ?_
        by_cases e : b = a
        · subst e
          rw [rw_ur_eq]
          exact rw_in_rem1 (d fun c _ h2 => rw_in_row W h2) (rw_in_row W hb)
        · rw [rw_ur_ne e]; exact rw_in_row W hb
end RA2
