/-! LATTICES 11: from one row to the next: the leads, and the determinant -/
theorem rw_bez (b : Nat) : ∀ a : Int, 0 < b → ∃ (g : Nat) (a' x y : Int) (b' : Nat), 0 < g ∧ a = a' * g ∧ b = b' * g ∧ (g : Int) = x * a + y * b := by
  induction b using Nat.strongRecOn with
  | ind b ih =>
    intro a hb
    have hb' : (0 : Int) < b := by omega
    have r0 := Int.emod_nonneg a (show (b : Int) ≠ 0 by omega)
    have r1 := Int.emod_lt_of_pos a hb'
    have rd := Int.mul_ediv_add_emod a b
    by_cases hr : a % (b : Int) = 0
    · refine ⟨b, a / b, 0, 1, 1, hb, ?_, by omega, by omega⟩
      rw [hr] at rd
      rw [Int.mul_comm]; omega
    · obtain ⟨g, a1, x, y, r', g0, e1, e2, e3⟩ := ih (a % (b : Int)).toNat (by omega) b (by omega)
      have er : ((a % (b : Int)).toNat : Int) = a % (b : Int) := by omega
      have e2' : a % (b : Int) = (r' : Int) * g := by rw [← er, e2, Int.natCast_mul]
      rw [er] at e3
      have ha1 : 0 < a1 := by
        apply Classical.byContradiction
        intro h
        have : a1 * (g : Int) ≤ 0 * g := Int.mul_le_mul_of_nonneg_right (by omega) (by omega)
        rw [Int.zero_mul] at this
        omega
      refine ⟨g, a1 * (a / b) + r', y, x - y * (a / b), a1.toNat, g0, ?_, ?_, ?_⟩
      · generalize a / (b : Int) = q at *
        generalize a % (b : Int) = r at *
        rw [← rd, e1, e2']; grind
      · have : ((a1.toNat * g : Nat) : Int) = b := by
          rw [Int.natCast_mul, show (a1.toNat : Int) = a1 by omega]; exact e1.symm
        omega
      · generalize a / (b : Int) = q at *
        generalize a % (b : Int) = r at *
        rw [e3, ← rd]; grind
theorem rw_P_one (m : Nat) : rw_P m (fun _ => 1) = 1 := by
  induction m with
  | zero => rfl
  | succ m ih => simp only [rw_P]; rw [ih]
theorem rw_P_mul (m : Nat) (g k : Nat → Nat) : rw_P m (fun i => g i * k i) = rw_P m g * rw_P m k := by
  induction m with
  | zero => rfl
  | succ m ih => simp only [rw_P]; rw [ih]; grind
theorem rw_P_upd {m p : Nat} (hp : p < m) (v : Nat) (g : Nat → Nat) (h1 : g p = 1) : rw_P m (fun i => if i = p then v else g i) = rw_P m g * v := by
  rw [rw_P_skip hp, rw_P_skip hp g, h1]
  have e : rw_P (m - 1) (fun i => if rw_sk p i = p then v else g (rw_sk p i)) = rw_P (m - 1) (fun i => g (rw_sk p i)) := rw_P_congr fun i _ => by
    rw [if_neg]
    unfold rw_sk
    split <;> omega
  rw [e]
  simp
theorem rw_pair_u {m k : Nat} (hk : k < m) (g : Nat → Int) : rw_S m (fun j => rw_u k j * g j) = g k := rw_S_u hk g
/-- with F p the last value that isn't 0: whole solutions that lead where they may, with leads that together are at most F p -/
theorem rw_chain {m p : Nat} {F : Nat → Int} (hp : p < m) (hF : F p ≠ 0) (hz : ∀ k, p < k → k < m → F k = 0) (t : Nat) (ht : t ≤ p) :
    ∃ (w : Nat → Nat) (g : Nat) (z : Nat → Int), 0 < g ∧ rw_S m (fun j => z j * F j) = g ∧ (∀ j, j < p - t → z j = 0) ∧ (∀ j, (j < p - t ∨ p ≤ j) → w j = 1) ∧ (∀ j, 0 < w j) ∧ rw_P m w * g = (F p).natAbs
      ∧ ∀ k, p - t ≤ k → k < m → k ≠ p → ∃ x : Nat → Int, (∀ j, j < k → x j = 0) ∧ x k = w k ∧ rw_S m (fun j => x j * F j) = 0 := by
  induction t with
  | zero =>
    refine ⟨fun _ => 1, (F p).natAbs, fun j => (F p).sign * rw_u p j, by omega, ?_, fun j hj => ?_, fun _ _ => rfl, fun _ => Nat.one_pos, by rw [rw_P_one]; omega, fun k hk hkm hne => ⟨rw_u k, fun j hj => ?_, ?_, ?_⟩⟩
    · have : rw_S m (fun j => (F p).sign * rw_u p j * F j) = rw_S m (fun j => (F p).sign * (rw_u p j * F j)) := rw_S_congr fun j _ => by rw [Int.mul_assoc]
      rw [this, rw_S_mul, rw_S_u hp F, Int.sign_mul_self]
    · show (F p).sign * rw_u p j = 0
      unfold rw_u; rw [if_neg (by omega), Int.mul_zero]
    · unfold rw_u; rw [if_neg (by omega)]
    · unfold rw_u; rw [if_pos rfl]; rfl
    · rw [rw_S_u hkm F]; exact hz k (by omega) hkm
  | succ t ih =>
    obtain ⟨w, g', z, g0, hzF, z0, w1, wp, hP, hx⟩ := ih (by omega)
    have hk : p - (t + 1) < p := by omega
    have hkm : p - (t + 1) < m := by omega
    have ek : p - t = p - (t + 1) + 1 := by omega
    generalize hke : p - (t + 1) = k at *
    obtain ⟨g, a', x0, y0, b', gp, e1, e2, e3⟩ := rw_bez g' (F k) g0
    have hb' : 0 < b' := by
      rcases Nat.eq_zero_or_pos b' with h | h
      · rw [h, Nat.zero_mul] at e2; omega
      · exact h
    have zk : z k = 0 := z0 k (by omega)
    refine ⟨fun j => if j = k then b' else w j, g, fun j => x0 * rw_u k j + y0 * z j, gp, ?_, fun j hj => ?_, fun j hj => ?_, fun j => ?_, ?_, fun l hl hlm hne => ?_⟩
    · have : rw_S m (fun j => (x0 * rw_u k j + y0 * z j) * F j) = rw_S m (fun j => x0 * (rw_u k j * F j) + y0 * (z j * F j)) := rw_S_congr fun j _ => by grind
      rw [this, rw_S_add, rw_S_mul, rw_S_mul, rw_S_u hkm F, hzF, e3]
    · show x0 * rw_u k j + y0 * z j = 0
      rw [z0 j (by omega)]
      unfold rw_u
      rw [if_neg (by omega)]; omega
    · show (if j = k then b' else w j) = 1
      rw [if_neg (by omega)]
      exact w1 j (by omega)
    · show 0 < (if j = k then b' else w j)
      split
      · exact hb'
      · exact wp j
    · rw [rw_P_upd hkm b' w (w1 k (by omega)), Nat.mul_assoc, ← e2]; exact hP
    · by_cases e : l = k
      · subst e
        refine ⟨fun j => b' * rw_u l j + (- a') * z j, fun j hj => ?_, ?_, ?_⟩
        · show (b' : Int) * rw_u l j + (- a') * z j = 0
          rw [z0 j (by omega)]
          unfold rw_u
          rw [if_neg (by omega)]; omega
        · show (b' : Int) * rw_u l l + (- a') * z l = ((if l = l then b' else w l : Nat) : Int)
          rw [zk, if_pos rfl]
          unfold rw_u
          rw [if_pos rfl]; omega
        · have : rw_S m (fun j => ((b' : Int) * rw_u l j + (- a') * z j) * F j) = rw_S m (fun j => (b' : Int) * (rw_u l j * F j) + (- a') * (z j * F j)) := rw_S_congr fun j _ => by grind
          rw [this, rw_S_add, rw_S_mul, rw_S_mul, rw_S_u hkm F, hzF, e1]
          have e2' : (g' : Int) = (b' : Int) * g := by rw [← Int.natCast_mul, ← e2]
          rw [e2']; grind
      · obtain ⟨x, x1, x2, x3⟩ := hx l (by omega) hlm hne
        exact ⟨x, x1, by rw [x2]; show _ = ((if l = k then b' else w l : Nat) : Int); rw [if_neg e], x3⟩
/-- the last value that isn't 0 -/
theorem rw_last {m : Nat} {F : Nat → Int} (h : rw_cnt m F ≠ 0) : ∃ p, p < m ∧ F p ≠ 0 ∧ ∀ k, p < k → k < m → F k = 0 := by
  induction m with
  | zero => exact absurd rfl h
  | succ m ih =>
    by_cases e : F m = 0
    · have h' : rw_cnt m F ≠ 0 := by
        simp only [rw_cnt] at h
        rw [if_pos e] at h
        omega
      obtain ⟨p, h1, h2, h3⟩ := ih h'
      refine ⟨p, by omega, h2, fun k hk hkm => ?_⟩
      by_cases e2 : k = m
      · rw [e2]; exact e
      · exact h3 k hk (by omega)
    · exact ⟨m, by omega, e, fun k h1 h2 => by omega⟩
/-- increasing, below m, never p -/
theorem rw_skip_eq {m p : Nat} {κ : Nat → Nat} (hpm : p < m) (hinc : ∀ i k, i < m - 1 → k < i → κ k < κ i) (hlt : ∀ i, i < m - 1 → κ i < m) (hne : ∀ i, i < m - 1 → κ i ≠ p) : ∀ i, i < m - 1 → κ i = rw_sk p i := by
  have lo : ∀ i, i < m - 1 → i ≤ κ i := by
    intro i
    induction i with
    | zero => intro _; exact Nat.zero_le _
    | succ i ih => intro hi; have := ih (by omega); have := hinc (i + 1) i hi (by omega); omega
  have gap : ∀ d i, i + d < m - 1 → κ i + d ≤ κ (i + d) := by
    intro d
    induction d with
    | zero => intro i _; exact Nat.le_refl _
    | succ d ih => intro i hi; have := ih i (by omega); have := hinc (i + (d + 1)) (i + d) hi (by omega); omega
  have hi' : ∀ i, i < m - 1 → κ i ≤ i + 1 := by
    intro i hi
    have := gap (m - 2 - i) i (by omega)
    have := hlt (i + (m - 2 - i)) (by omega)
    omega
  intro i hi
  unfold rw_sk
  have l := lo i hi
  have u := hi' i hi
  by_cases h : i < p
  · rw [if_pos h]
    have hp : p - 1 < m - 1 := by omega
    have g := gap (p - 1 - i) i (by omega)
    have e : i + (p - 1 - i) = p - 1 := by omega
    rw [e] at g
    have n := hne (p - 1) hp
    have u2 := hi' (p - 1) hp
    omega
  · rw [if_neg h]
    have n := hne p (by omega)
    have lp := lo p (by omega)
    have g := gap (i - p) p (by omega)
    have e : p + (i - p) = i := by omega
    rw [e] at g
    omega
