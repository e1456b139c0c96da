/-! LATTICES 8: the reference's rows one behind another, over whole numbers of any size: the basis of the kernel -/
theorem rw_S_succ0 {m : Nat} (hm : 0 < m) (g : Nat → Int) : rw_S m g = g 0 + rw_S (m - 1) (fun i => g (i + 1)) := by
  have e : m = 1 + (m - 1) := by omega
  have e2 : rw_S 1 g = g 0 := by simp only [rw_S]; omega
  rw [e, rw_S_split, e2]
  refine congrArg (g 0 + ·) ?_
  rw [Nat.add_sub_cancel_left]
  exact rw_S_congr fun i _ => by rw [Nat.add_comm]
theorem rw_nar_free {n m : Nat} {a : Nat → Int} {V : Nat → Nat → Int} (hm : 0 < m) (H : rw_free n m V) : rw_free n (m - 1) (fun i => rw_nar n m a V (i + 1)) := by
  intro X hX i hi
  obtain ⟨Y, y1, y2⟩ := rw_back (t := false) (s := m) (N := rw_fu m (fun i => rw_dot n a (V i))) (f := fun i => rw_dot n a (V i)) (R := V) (fun j => if j = 0 then 0 else X (j - 1))
  have yz := H Y (fun c hc => by
    have h0 := hX c hc
    have e := y1 c
    have e1 : rw_pair m (fun j => if j = 0 then 0 else X (j - 1)) (fun j => rw_ph false m (rw_fu m (fun i => rw_dot n a (V i))) (fun i => rw_dot n a (V i)) (fun j => V j c) j) = rw_S (m - 1) (fun i => X i * rw_nar n m a V (i + 1) c) := by
      unfold rw_pair
      rw [rw_S_succ0 hm]
      simp only [if_pos, Int.zero_mul, Int.zero_add]
      refine rw_S_congr fun i _ => ?_
      rw [if_neg (by omega), Nat.add_sub_cancel]
      rfl
    rw [e1, h0] at e
    exact e.symm)
  have := y2 yz (i + 1) (by omega)
  simp only [if_neg (show i + 1 ≠ 0 by omega), Nat.add_sub_cancel] at this
  exact this
def rw_stp (n : Nat) (a : Nat → Int) (V : Nat → Nat → Int) (m : Nat) : (Nat → Nat → Int) × Nat :=
  if rw_cnt m (fun i => rw_dot n a (V i)) = 0 then ((rw_ordN m V n).1, m) else ((rw_ordN (m - 1) (fun i => rw_nar n m a V (i + 1)) n).1, m - 1)
def rw_id : Nat → Nat → Int := fun i c => if i = c then 1 else 0
def rw_sol (n : Nat) (A : Nat → Nat → Int) : Nat → (Nat → Nat → Int) × Nat
  | 0 => (rw_id, n)
  | r + 1 => rw_stp n (A r) (rw_sol n A r).1 (rw_sol n A r).2
/-- all that solves the first r rows with 0 -/
def rw_ker (n r : Nat) (A : Nat → Nat → Int) (v : Nat → Int) : Prop := ∀ q, q < r → rw_dot n (A q) v = 0
/-- V is the basis (in the document's order) of the kernel of the first r rows -/
def rw_bas (n r : Nat) (A : Nat → Nat → Int) (V : Nat → Nat → Int) (m : Nat) : Prop :=
  rw_free n m V ∧ (∀ i, i < m → rw_ker n r A (V i)) ∧ (∀ v, rw_ker n r A v → rw_in n m V v) ∧ ∃ ld, rw_HNF n m V ld
theorem rw_ker_in {n m r : Nat} {A V : Nat → Nat → Int} {v : Nat → Int} (h : ∀ i, i < m → rw_ker n r A (V i)) (hv : rw_in n m V v) : rw_ker n r A v := by
  obtain ⟨X, hX⟩ := hv
  intro q hq
  rw [rw_dot_congr hX, rw_dot_S]
  exact rw_S_zero fun k hk => by rw [h k hk q hq, Int.mul_zero]
theorem rw_bas_zero (n : Nat) (A : Nat → Nat → Int) : rw_bas n 0 A rw_id n := by
  refine ⟨fun X hX i hi => ?_, fun i _ q hq => absurd hq (Nat.not_lt_zero q), fun v _ => ⟨v, fun c hc => ?_⟩, fun i => i, fun i hi => ⟨hi, fun c hc => ?_, ?_, fun k hk => ⟨hk, ?_⟩⟩⟩
  · have := hX i hi
    rw [rw_S_one (g := fun k => X k * rw_id k i) hi (fun j _ hne => by show X j * rw_id j i = 0; unfold rw_id; rw [if_neg hne, Int.mul_zero])] at this
    simp only [rw_id, if_pos, Int.mul_one] at this
    exact this
  · rw [rw_S_one (g := fun k => v k * rw_id k c) hc (fun j _ hne => by show v j * rw_id j c = 0; unfold rw_id; rw [if_neg hne, Int.mul_zero])]
    simp only [rw_id, if_pos, Int.mul_one]
  · have hc' : c < i := hc
    unfold rw_id; rw [if_neg (by omega)]
  · show 0 < rw_id i i
    unfold rw_id; rw [if_pos rfl]; omega
  · show 0 ≤ rw_id k i ∧ rw_id k i < rw_id i i
    unfold rw_id; rw [if_neg (by omega), if_pos rfl]; omega
theorem rw_bas_step {n r m : Nat} {A V : Nat → Nat → Int} (H : rw_bas n r A V m) : rw_bas n (r + 1) A (rw_stp n (A r) V m).1 (rw_stp n (A r) V m).2 := by
  obtain ⟨hF, hk, hin, -⟩ := H
  unfold rw_stp
  by_cases hz : rw_cnt m (fun i => rw_dot n (A r) (V i)) = 0
  · rw [if_pos hz]
    obtain ⟨ld, h1, -, h3⟩ := rw_order hF
    have hk' : ∀ i, i < m → rw_ker n (r + 1) A (V i) := fun i hi q hq => by
      by_cases e : q = r
      · subst e; exact rw_cnt0.mp hz i hi
      · exact hk i hi q (by omega)
    exact ⟨h3.2.2 hF, fun i hi => rw_ker_in hk' (h3.1 i hi), fun v hv => rw_in_trans h3.2.1 (hin v (fun q hq => hv q (by omega))), ld, h1⟩
  · rw [if_neg hz]
    have hm : 0 < m := by have := (rw_lst_spec hz).1; omega
    have hF' := rw_nar_free (a := A r) hm hF
    obtain ⟨ld, h1, -, h3⟩ := rw_order hF'
    have hk' : ∀ i, i < m - 1 → rw_ker n (r + 1) A (rw_nar n m (A r) V (i + 1)) := fun i hi q hq => by
      by_cases e : q = r
      · subst e; rw [rw_nar_dot (by omega)]; exact rw_PH_fin (by omega) (by omega)
      · exact rw_ker_in hk (rw_nar_in (by omega)) q (by omega)
    refine ⟨h3.2.2 hF', fun i hi => rw_ker_in hk' (h3.1 i hi), fun v hv => rw_in_trans h3.2.1 ?_, ld, h1⟩
    exact rw_nar_ker hz (hin v (fun q hq => hv q (by omega))) (hv r (by omega))
theorem rw_sol_bas (n r : Nat) (A : Nat → Nat → Int) : rw_bas n r A (rw_sol n A r).1 (rw_sol n A r).2 := by
  induction r with
  | zero => exact rw_bas_zero n A
  | succ r ih => exact rw_bas_step ih
