/-! LATTICES 26: a fresh vector comes in -/
theorem rw_pos_cases (a : Nat) (r : Nat → Int) : (rw_pos a r = r ∧ 0 ≤ r a) ∨ (rw_pos a r = (fun c => - r c) ∧ r a < 0) := by
  unfold rw_pos
  by_cases h : r a < 0
  · rw [if_pos h]; exact Or.inr ⟨rfl, h⟩
  · rw [if_neg h]; exact Or.inl ⟨rfl, by omega⟩
theorem rw_pos_at {a : Nat} {r : Nat → Int} (h : r a ≠ 0) : 0 < rw_pos a r a := by
  rcases rw_pos_cases a r with ⟨e, h'⟩ | ⟨e, h'⟩ <;> rw [e]
  · omega
  · show 0 < - r a
    omega
theorem rw_pos_zero {a c : Nat} {r : Nat → Int} (h : r c = 0) : rw_pos a r c = 0 := by
  rcases rw_pos_cases a r with ⟨e, -⟩ | ⟨e, -⟩ <;> rw [e]
  · exact h
  · show - r c = 0
    omega
theorem rw_pos_abs (a c : Nat) (r : Nat → Int) : (rw_pos a r c).natAbs = (r c).natAbs := by
  rcases rw_pos_cases a r with ⟨e, -⟩ | ⟨e, -⟩ <;> rw [e]
  show (- r c).natAbs = _
  omega
theorem rw_in_neg {n m : Nat} {V : Nat → Nat → Int} {v : Nat → Int} (h : rw_in n m V v) : rw_in n m V (fun c => - v c) := by
  refine rw_in_congr (fun c _ => ?_) (rw_in_sub 2 h h)
  show v c - 2 * v c = - v c
  omega
theorem rw_pos_in {n m a : Nat} {V : Nat → Nat → Int} {r : Nat → Int} : rw_in n m V r ↔ rw_in n m V (rw_pos a r) := by
  rcases rw_pos_cases a r with ⟨e, -⟩ | ⟨e, -⟩ <;> rw [e]
  exact ⟨rw_in_neg, fun h => rw_in_congr (fun c _ => by show - - r c = r c; omega) (rw_in_neg h)⟩
theorem rw_in_add1 {n m : Nat} {V : Nat → Nat → Int} {v u : Nat → Int} (h : rw_in n m V (fun c => v c - 1 * u c)) (hu : rw_in n m V u) : rw_in n m V v :=
  rw_in_congr (fun c _ => by show v c - 1 * u c - (-1) * u c = v c; omega) (rw_in_sub (-1) h hu)
theorem rw_in_rem1 {n m : Nat} {V : Nat → Nat → Int} {v u : Nat → Int} (h : rw_in n m V (fun c => v c - 1 * u c)) (hv : rw_in n m V v) : rw_in n m V u :=
  rw_in_congr (fun c _ => by show v c - 1 * (v c - 1 * u c) = u c; omega) (rw_in_sub 1 hv h)
theorem rw_in_zero {n m : Nat} {V : Nat → Nat → Int} {v : Nat → Int} (h : ∀ c, c < n → v c = 0) : rw_in n m V v := ⟨fun _ => 0, fun c hc => by rw [h c hc, rw_S_zero (fun k _ => Int.zero_mul _)]⟩
theorem rw_uv_row {w : Nat} {U : Nat → Nat → Int} {v : Nat → Int} {a : Nat} (h : a < w) : rw_uv w U v a = U a := by unfold rw_uv; rw [if_neg (by omega)]
theorem rw_uv_last {w : Nat} {U : Nat → Nat → Int} {v : Nat → Int} : rw_uv w U v w = v := by unfold rw_uv; rw [if_pos rfl]
theorem rw_ur_eq {U : Nat → Nat → Int} {a : Nat} {r : Nat → Int} : rw_ur U a r a = r := by unfold rw_ur; rw [if_pos rfl]
theorem rw_ur_ne {U : Nat → Nat → Int} {a b : Nat} {r : Nat → Int} (h : b ≠ a) : rw_ur U a r b = U b := by unfold rw_ur; rw [if_neg h]
/-- rows that span the same: with the vector beside them, or in them -/
def rw_sp (w : Nat) (U : Nat → Nat → Int) (v : Nat → Int) (pl : Bool) (x : Nat → Int) : Prop := if pl = true then rw_in w w U x else rw_in w (w + 1) (rw_uv w U v) x
section INS
variable {w a : Nat} {U : Nat → Nat → Int} {v : Nat → Int}
theorem rw_tri_ur {r : Nat → Int} (H : rw_tri w U) (h0 : ∀ c, c < a → r c = 0) (h1 : 0 < r a) : rw_tri w (rw_ur U a r) := by
  intro b hb
  by_cases e : b = a
  · subst e
    rw [rw_ur_eq]
    exact ⟨h0, by omega, fun h => by omega⟩
  · rw [rw_ur_ne e]; exact H b hb
theorem rw_ins1_tri (ha : a < w) (H : rw_tri w U) (hv : ∀ c, c < a → v c = 0) (hf : U a a ≠ 0 → (v a).natAbs < 2 ^ 50) :
    rw_tri w (rw_ins1 w a U v).1 ∧ ((rw_ins1 w a U v).2.2 = false → ∀ c, c < a + 1 → (rw_ins1 w a U v).2.1 c = 0) := by
  unfold rw_ins1
  by_cases h0 : v a = 0
  · rw [if_pos h0]
    refine ⟨H, fun _ c hc => ?_⟩
    by_cases e : c = a
    · rw [e]; exact h0
    · exact hv c (by omega)
  · rw [if_neg h0]
    by_cases h1 : U a a = 0
    · rw [if_pos h1]
      exact ⟨rw_tri_ur H (fun c hc => rw_pos_zero (hv c hc)) (rw_pos_at h0), fun h => by simp at h⟩
    · rw [if_neg h1]
      have z : ∀ c, c < a → (rw_jn a 100 (U a) v).1 c = 0 ∧ (rw_jn a 100 (U a) v).2 c = 0 := fun c hc => rw_jn_zero ((H a ha).1 c hc) (hv c hc)
      have ne := rw_jn_ne (k := 100) (v := v) h1
      have fin : (rw_jn a 100 (U a) v).2 a = 0 := rw_jn_fin 50 100 (U a) v (hf h1) (by omega)
      have lo1 : ∀ c, c ≤ a → rw_rd U a (rw_pos a (rw_jn a 100 (U a) v).1) (w - (a + 1)) c = rw_pos a (rw_jn a 100 (U a) v).1 c := fun c hc => rw_rd_lo H _ (by omega) c hc
      have lo2 : ∀ c, c ≤ a → rw_rd U a (rw_jn a 100 (U a) v).2 (w - (a + 1)) c = (rw_jn a 100 (U a) v).2 c := fun c hc => rw_rd_lo H _ (by omega) c hc
      refine ⟨rw_tri_ur H (fun c hc => by rw [lo1 c (by omega)]; exact rw_pos_zero (z c hc).1) (by rw [lo1 a (Nat.le_refl a)]; exact rw_pos_at ne), fun _ c hc => ?_⟩
      · show rw_rd U a (rw_jn a 100 (U a) v).2 (w - (a + 1)) c = 0
        rw [lo2 c (by omega)]
        by_cases e : c = a
        · rw [e]; exact fin
        · exact (z c (by omega)).2
/-- the span stays -/
theorem rw_ins1_sp (ha : a < w) (H : rw_tri w U) (x : Nat → Int) : rw_sp w U v false x ↔ rw_sp w (rw_ins1 w a U v).1 (rw_ins1 w a U v).2.1 (rw_ins1 w a U v).2.2 x := by
  unfold rw_ins1
  by_cases h0 : v a = 0
  · rw [if_pos h0]
  · rw [if_neg h0]
    have ss : ∀ {V : Nat → Nat → Int} {m : Nat}, ∀ x y q, rw_in w m V x → rw_in w m V y → rw_in w m V (fun c => x c - q * y c) := fun x y q hx hy => rw_in_sub q hx hy
    by_cases h1 : U a a = 0
    · rw [if_pos h1]
      show rw_in w (w + 1) (rw_uv w U v) x ↔ rw_in w w (rw_ur U a (rw_pos a v)) x
      constructor
      · refine rw_in_trans fun b hb => ?_
        by_cases e : b = w
        · subst e
          rw [rw_uv_last]
          refine (rw_pos_in (a := a)).mpr ?_
          have := rw_in_row (n := b) (rw_ur U a (rw_pos a v)) ha
          rw [rw_ur_eq] at this
          exact this
        · rw [rw_uv_row (by omega)]
          by_cases e2 : b = a
          · subst e2
            exact rw_in_zero ((H b ha).2.2 h1)
          · have := rw_in_row (n := w) (m := w) (rw_ur U a (rw_pos a v)) (show b < w by omega)
            rw [rw_ur_ne e2] at this
            exact this
      · refine rw_in_trans fun b hb => ?_
        by_cases e2 : b = a
        · subst e2
          rw [rw_ur_eq]
          refine rw_pos_in.mp ?_
          have := rw_in_row (n := w) (m := w + 1) (rw_uv w U v) (show w < w + 1 by omega)
          rw [rw_uv_last] at this
          exact this
        · rw [rw_ur_ne e2]
          have := rw_in_row (n := w) (m := w + 1) (rw_uv w U v) (show b < w + 1 by omega)
          rw [rw_uv_row hb] at this
          exact this
    · rw [if_neg h1]
      show rw_in w (w + 1) (rw_uv w U v) x ↔ rw_in w (w + 1) (rw_uv w (rw_ur U a (rw_rd U a (rw_pos a (rw_jn a 100 (U a) v).1) (w - (a + 1)))) (rw_rd U a (rw_jn a 100 (U a) v).2 (w - (a + 1)))) x
      -- rows of the first table
      have o : ∀ b, b < w → rw_in w (w + 1) (rw_uv w U v) (U b) := fun b hb => by
        have := rw_in_row (n := w) (m := w + 1) (rw_uv w U v) (show b < w + 1 by omega)
        rw [rw_uv_row hb] at this
        exact this
      have ov : rw_in w (w + 1) (rw_uv w U v) v := by
        have := rw_in_row (n := w) (m := w + 1) (rw_uv w U v) (show w < w + 1 by omega)
        rw [rw_uv_last] at this
        exact this
      have oj := rw_jn_in (a := a) (k := 100) (S := rw_in w (w + 1) (rw_uv w U v)) ss (o a ha) ov
      have o1 : rw_in w (w + 1) (rw_uv w U v) (rw_rd U a (rw_pos a (rw_jn a 100 (U a) v).1) (w - (a + 1))) := rw_in_rem1 (rw_rd_in (fun b _ hb => o b hb) _ (by omega)) (rw_pos_in.mp oj.1)
      have o2 : rw_in w (w + 1) (rw_uv w U v) (rw_rd U a (rw_jn a 100 (U a) v).2 (w - (a + 1))) := rw_in_rem1 (rw_rd_in (fun b _ hb => o b hb) _ (by omega)) oj.2
      generalize hr2 : rw_rd U a (rw_pos a (rw_jn a 100 (U a) v).1) (w - (a + 1)) = r2 at *
      generalize hv2 : rw_rd U a (rw_jn a 100 (U a) v).2 (w - (a + 1)) = v2 at *
      -- rows of the second
      have q : ∀ b, b < w → b ≠ a → rw_in w (w + 1) (rw_uv w (rw_ur U a r2) v2) (U b) := fun b hb hne => by
        have := rw_in_row (n := w) (m := w + 1) (rw_uv w (rw_ur U a r2) v2) (show b < w + 1 by omega)
        rw [rw_uv_row hb, rw_ur_ne hne] at this
        exact this
      have qr : rw_in w (w + 1) (rw_uv w (rw_ur U a r2) v2) r2 := by
        have := rw_in_row (n := w) (m := w + 1) (rw_uv w (rw_ur U a r2) v2) (show a < w + 1 by omega)
        rw [rw_uv_row ha, rw_ur_eq] at this
        exact this
      have qv : rw_in w (w + 1) (rw_uv w (rw_ur U a r2) v2) v2 := by
        have := rw_in_row (n := w) (m := w + 1) (rw_uv w (rw_ur U a r2) v2) (show w < w + 1 by omega)
        rw [rw_uv_last] at this
        exact this
      have q1 : rw_in w (w + 1) (rw_uv w (rw_ur U a r2) v2) (rw_jn a 100 (U a) v).1 := by
        have := rw_rd_in (w := w) (b := a) (U := U) (v := rw_pos a (rw_jn a 100 (U a) v).1) (W := rw_uv w (rw_ur U a r2) v2) (m := w + 1) (fun b hb1 hb => q b hb (by omega)) (w - (a + 1)) (by omega)
        rw [hr2] at this
        exact rw_pos_in.mpr (rw_in_add1 this qr)
      have q2 : rw_in w (w + 1) (rw_uv w (rw_ur U a r2) v2) (rw_jn a 100 (U a) v).2 := by
        have := rw_rd_in (w := w) (b := a) (U := U) (v := (rw_jn a 100 (U a) v).2) (W := rw_uv w (rw_ur U a r2) v2) (m := w + 1) (fun b hb1 hb => q b hb (by omega)) (w - (a + 1)) (by omega)
        rw [hv2] at this
        exact rw_in_add1 this qv
      have qo := rw_jn_out (a := a) (S := rw_in w (w + 1) (rw_uv w (rw_ur U a r2) v2)) ss 100 (U a) v q1 q2
      constructor
      · refine rw_in_trans fun b hb => ?_
        by_cases e : b = w
        · subst e; rw [rw_uv_last]; exact qo.2
        · rw [rw_uv_row (by omega)]
          by_cases e2 : b = a
          · subst e2; exact qo.1
          · exact q b (by omega) e2
      · refine rw_in_trans fun b hb => ?_
        by_cases e : b = w
        · subst e; rw [rw_uv_last]; exact o2
        · rw [rw_uv_row (by omega)]
          by_cases e2 : b = a
          · subst e2; rw [rw_ur_eq]; exact o1
          · rw [rw_ur_ne e2]; exact o b (by omega)
end INS
