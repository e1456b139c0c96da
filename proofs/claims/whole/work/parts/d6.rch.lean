/-! LATTICES 29: whether the class's rows reach the right side -/
def rw_rch (U : Nat → Nat → Int) (b : Nat → Int) : Nat → (Nat → Int) × Bool
  | 0 => (b, true)
  | a + 1 => if (rw_rch U b a).2 = false then rw_rch U b a else if (rw_rch U b a).1 a = 0 then rw_rch U b a
      else if U a a ≤ 0 ∨ ((rw_rch U b a).1 a).tmod (U a a) ≠ 0 then ((rw_rch U b a).1, false)
      else (fun i => (rw_rch U b a).1 i - ((rw_rch U b a).1 a).tdiv (U a a) * U a i, true)
section RC
variable {w h n : Nat} {A U : Nat → Nat → Int} {b : Nat → Int}
theorem rw_rch_inv (hw : w = h + n) (H : rw_tri w U) (hs : ∀ x, rw_in w w U x ↔ rw_in w n (rw_fr h A) x) : ∀ a, a ≤ h →
    ((rw_rch U b a).2 = true → (∀ i, i < a → (rw_rch U b a).1 i = 0) ∧ ∃ y : Nat → Int, ∀ q, q < h → b q - (rw_rch U b a).1 q = rw_dot n (A q) y)
    ∧ ((rw_rch U b a).2 = false → ¬ ∃ x : Nat → Int, ∀ q, q < h → rw_dot n (A q) x = b q) := by
  intro a
  induction a with
  | zero => intro _; exact ⟨fun _ => ⟨fun i hi => absurd hi (Nat.not_lt_zero i), fun _ => 0, fun q _ => by show b q - b q = _; unfold rw_dot; rw [rw_S_zero (fun c _ => Int.mul_zero _)]; omega⟩, fun h => by simp [rw_rch] at h⟩
  | succ a ih =>
    intro ha
    obtain ⟨i1, i2⟩ := ih (by omega)
    have e : rw_rch U b (a + 1) = if (rw_rch U b a).2 = false then rw_rch U b a else if (rw_rch U b a).1 a = 0 then rw_rch U b a
      else if U a a ≤ 0 ∨ ((rw_rch U b a).1 a).tmod (U a a) ≠ 0 then ((rw_rch U b a).1, false)
      else (fun i => (rw_rch U b a).1 i - ((rw_rch U b a).1 a).tdiv (U a a) * U a i, true) := rfl
    rw [e]
    cases hk : (rw_rch U b a).2 with
    | false =>
      rw [if_pos rfl]
      exact ⟨fun h => by rw [hk] at h; simp at h, fun _ => i2 hk⟩
    | true =>
      rw [if_neg (by simp)]
      obtain ⟨j1, y, j2⟩ := i1 hk
      generalize ht : (rw_rch U b a).1 = t at *
      by_cases h0 : t a = 0
      · rw [if_pos h0, ht]
        refine ⟨fun _ => ⟨fun i hi => ?_, y, j2⟩, fun h => by rw [hk] at h; simp at h⟩
        by_cases e : i = a
        · rw [e]; exact h0
        · exact j1 i (by omega)
      · rw [if_neg h0]
        by_cases h1 : U a a ≤ 0 ∨ (t a).tmod (U a a) ≠ 0
        · rw [if_pos h1]
          refine ⟨fun h => by simp at h, fun _ ⟨x, hx⟩ => ?_⟩
          have hz : rw_in w n (rw_fr h A) (fun k => if k < h then t k else x (k - h) - y (k - h)) := ⟨fun c => x c - y c, fun k hk => by
            show (if k < h then t k else x (k - h) - y (k - h)) = _
            rw [rw_S_fr]
            by_cases hk1 : k < h
            · rw [if_pos hk1, if_pos hk1]
              have e1 : rw_S n (fun j => A k j * (x j - y j)) = rw_dot n (A k) x - 1 * rw_dot n (A k) y := by
                rw [← rw_dot_sub]
                exact rw_S_congr fun j _ => by
                  show A k j * (x j - y j) = A k j * (x j - 1 * y j)
                  rw [Int.one_mul]
              rw [e1, hx k hk1, ← j2 k hk1]; omega
            · rw [if_neg hk1, if_neg hk1, if_pos (by omega)]⟩
          have l := rw_tri_lead H ((hs _).mpr hz) (show a < w by omega) (fun c hc => by
            show (if c < h then t c else x (c - h) - y (c - h)) = 0
            rw [if_pos (by omega)]; exact j1 c hc) (by
            show (if a < h then t a else x (a - h) - y (a - h)) ≠ 0
            rw [if_pos (by omega)]; exact h0)
          have l2 : U a a ∣ (if a < h then t a else x (a - h) - y (a - h)) := l.2
          rw [if_pos (show a < h by omega)] at l2
          rcases h1 with h | h
          · have := l.1; omega
          · exact h (Int.tmod_eq_zero_of_dvd l2)
        · rw [if_neg h1]
          have hp : 0 < U a a := by
            apply Classical.byContradiction
            intro hn
            exact h1 (Or.inl (by omega))
          have hd : (t a).tmod (U a a) = 0 := by
            apply Classical.byContradiction
            intro hn
            exact h1 (Or.inr hn)
          refine ⟨fun _ => ⟨fun i hi => ?_, ?_⟩, fun h => by simp at h⟩
          · show t i - (t a).tdiv (U a a) * U a i = 0
            by_cases e : i = a
            · rw [e, rw_tmod_eq]; exact hd
            · rw [j1 i (by omega), (H a (by omega)).1 i (by omega), Int.mul_zero]; rfl
          · obtain ⟨z, hz⟩ := (hs (U a)).mp (rw_in_row U (by omega))
            refine ⟨fun c => y c + (t a).tdiv (U a a) * z c, fun q hq => ?_⟩
            show b q - (t q - (t a).tdiv (U a a) * U a q) = _
            have e1 := hz q (by omega)
            rw [rw_S_fr, if_pos hq] at e1
            have e2 : rw_dot n (A q) z = U a q := e1.symm
            rw [rw_dot_add, e2, ← j2 q hq]
            generalize (t a).tdiv (U a a) = k
            grind
theorem rw_rch_spec (hw : w = h + n) (H : rw_tri w U) (hs : ∀ x, rw_in w w U x ↔ rw_in w n (rw_fr h A) x) : (rw_rch U b h).2 = true ↔ ∃ x : Nat → Int, ∀ q, q < h → rw_dot n (A q) x = b q := by
  obtain ⟨i1, i2⟩ := rw_rch_inv (b := b) hw H hs h (Nat.le_refl h)
  constructor
  · intro hk
    obtain ⟨j1, y, j2⟩ := i1 hk
    exact ⟨y, fun q hq => by rw [← j2 q hq, j1 q hq]; omega⟩
  · intro ex
    cases hk : (rw_rch U b h).2 with
    | true => rfl
    | false => exact absurd ex (i2 hk)
theorem rw_rch_le (hh : h ≤ 4) (hhw : h ≤ w) (H : rw_tri w U) (Hr : rw_trd w U) (hl : ∀ a c, a < w → c < w → (U a c).natAbs ≤ 3840000) (hb : ∀ q, q < h → (b q).natAbs ≤ 200) : ∀ a, a ≤ h →
    ∀ i, i < h → (0 < U i i → ((rw_rch U b a).1 i).natAbs ≤ 200 * 2 ^ a * (U i i).natAbs) ∧ ((rw_rch U b a).1 i).natAbs ≤ 200 + a * 6144000000 := by
  intro a
  induction a with
  | zero => intro _ i hi; have := hb i hi; exact ⟨fun hp => by show (b i).natAbs ≤ _; omega, by show (b i).natAbs ≤ _; omega⟩
  | succ a ih =>
    intro ha i hi
    have i0 := ih (by omega) i hi
    have ia := ih (by omega) a (by omega)
    have e : rw_rch U b (a + 1) = if (rw_rch U b a).2 = false then rw_rch U b a else if (rw_rch U b a).1 a = 0 then rw_rch U b a
      else if U a a ≤ 0 ∨ ((rw_rch U b a).1 a).tmod (U a a) ≠ 0 then ((rw_rch U b a).1, false)
      else (fun i => (rw_rch U b a).1 i - ((rw_rch U b a).1 a).tdiv (U a a) * U a i, true) := rfl
    have grow : ∀ x : Nat, 200 * 2 ^ (a + 1) * x = 200 * 2 ^ a * x + 200 * 2 ^ a * x := fun x => by rw [Nat.pow_succ]; grind
    have g2 : (a + 1) * 6144000000 = a * 6144000000 + 6144000000 := Nat.succ_mul _ _
    have keep : (0 < U i i → ((rw_rch U b a).1 i).natAbs ≤ 200 * 2 ^ (a + 1) * (U i i).natAbs) ∧ ((rw_rch U b a).1 i).natAbs ≤ 200 + (a + 1) * 6144000000 := ⟨fun hp => by rw [grow]; have := i0.1 hp; omega, by omega⟩
    rw [e]
    split
    · exact keep
    · split
      · exact keep
      · split
        · exact keep
        · rename_i h1
          have hp : 0 < U a a := by
            apply Classical.byContradiction
            intro hn
            exact h1 (Or.inl (by omega))
          show (_ → ((rw_rch U b a).1 i - ((rw_rch U b a).1 a).tdiv (U a a) * U a i).natAbs ≤ _) ∧ ((rw_rch U b a).1 i - ((rw_rch U b a).1 a).tdiv (U a a) * U a i).natAbs ≤ _
          generalize (rw_rch U b a).1 = t at *
          have q : ((t a).tdiv (U a a)).natAbs ≤ 200 * 2 ^ a := by
            rw [rw_tdiv_abs]
            exact Nat.div_le_of_le_mul (by rw [Nat.mul_comm]; exact ia.1 hp)
          have p8 : 2 ^ a ≤ 2 ^ 3 := Nat.pow_le_pow_right (by omega) (by omega)
          have q2 : ((t a).tdiv (U a a) * U a i).natAbs ≤ 1600 * 3840000 := by
            rw [Int.natAbs_mul]; exact Nat.mul_le_mul (by omega) (hl a i (by omega) (by omega))
          refine ⟨fun hpi => ?_, by omega⟩
          have old := i0.1 hpi
          rcases Nat.lt_trichotomy i a with hia | hia | hia
          · rw [(H a (by omega)).1 i hia, Int.mul_zero, Int.sub_zero, grow]; omega
          · subst hia
            rw [rw_tmod_eq, grow]
            have : ((t i).tmod (U i i)).natAbs ≤ (t i).natAbs := by rw [Int.natAbs_tmod]; exact Nat.mod_le _ _
            omega
          · have r := Hr a i hia (by omega) hpi
            have q3 : ((t a).tdiv (U a a) * U a i).natAbs ≤ 200 * 2 ^ a * (U i i).natAbs := by
              rw [Int.natAbs_mul]; exact Nat.mul_le_mul q (by omega)
            rw [grow]; omega
end RC
