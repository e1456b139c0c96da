/-! the list of the least ones, size by size: what the class's search makes -/
def sx_list (what m n : Nat) (A : Nat → Nat → Int) (b : Nat → Int) (k s : Nat) (L : List (Nat → Int)) : List (Nat → Int) × Bool :=
  sx_szs (fun s L => sx_fo (sx_tC 2000 (sx_le n) L.length) ((sx_E (decide (what = 2)) n 0 s sx_z).filter (sx_P what m n A b)) L) k s L
section WK
variable {what m n : Nat} {A lo hi : Nat → Nat → Int} {b : Nat → Int}
theorem sx_szs_congr {σ : Type} {f g : Nat → σ → σ × Bool} : ∀ (k s : Nat) (t : σ), (∀ s', s ≤ s' → ∀ t, f s' t = g s' t) → sx_szs f k s t = sx_szs g k s t := by
  intro k
  induction k with
  | zero => intro s t _; rfl
  | succ k ih =>
    intro s t h
    rw [sx_szs_succ, sx_szs_succ, h s (Nat.le_refl _) t]
    by_cases e : (g s t).2 = true
    · rw [if_pos e, if_pos e]; exact ih (s + 1) _ (fun s' hs => h s' (by omega))
    · rw [if_neg e, if_neg e]
/-- which ones are left of a size -/
theorem sx_cand (hw : what ≤ 2) {s : Nat} (hs : what ≠ 1 → 1 ≤ s) : (sx_F (decide (what = 2)) false n 0 s sx_z).filter (sx_sol m n A (se_b (decide (what ≠ 1)) b)) = (sx_E (decide (what = 2)) n 0 s sx_z).filter (sx_P what m n A b) := by
  have hne : what ≠ 1 → ∀ w, w ∈ sx_E (decide (what = 2)) n 0 s sx_z → sx_ld w n 0 ≠ 0 := fun h1 w hw e => by
    have h2 := (sx_E_mem.mp hw).2.1
    have h3 := sx_sz_zero.mpr (sx_ld_zero.mp e)
    have h4 := hs h1
    omega
  rcases (show what = 0 ∨ what = 1 ∨ what = 2 by omega) with rfl | rfl | rfl
  · show (sx_F false false n 0 s sx_z).filter (sx_sol m n A (fun _ => 0)) = _
    rw [sx_F_plain]
    refine List.filter_congr fun w hw => ?_
    have := hne (by decide) w hw
    unfold sx_P
    rw [if_neg (by decide), if_neg (by decide), decide_eq_true this, Bool.true_and]
  · show (sx_F false false n 0 s sx_z).filter (sx_sol m n A b) = _
    rw [sx_F_plain]
    rfl
  · show (sx_F true false n 0 s sx_z).filter (sx_sol m n A (fun _ => 0)) = _
    rw [sx_F_sg, List.filter_filter]
    refine List.filter_congr fun w hw => ?_
    have := hne (by decide) w hw
    unfold sx_P
    rw [if_neg (by decide), if_pos rfl, Bool.and_comm]
    congr 1
    rw [Bool.eq_iff_iff, decide_eq_true_iff, decide_eq_true_iff]
    omega
theorem se_one_eq (hw : what ≤ 2) (hlo : ∀ r c j, r < m → c ≤ j → j < n → (decide (what = 2) = false → lo r c ≤ A r j ∧ A r j ≤ hi r c) ∧ (decide (what = 2) = true → ((A r j).natAbs : Int) ≤ hi r c ∧ lo r c = - hi r c)) {s : Nat} (hs : what ≠ 1 → 1 ≤ s) (L : List (Nat → Int)) :
    se_one m n (decide (what = 2)) A lo hi (se_b (decide (what ≠ 1)) b) s L = sx_fo (sx_tC 2000 (sx_le n) L.length) ((sx_E (decide (what = 2)) n 0 s sx_z).filter (sx_P what m n A b)) L := by
  unfold se_one
  rw [sx_fi_eq (n := n) (sol := sx_sol m n A (se_b (decide (what ≠ 1)) b)) (fun k c s ld v w hc hv hw hsol => sx_cb_sound hlo hc hv hw hsol) (fun s v h => sx_cb_end h) n 0 s false sx_z L (by omega) (fun _ _ => rfl), sx_cand hw hs]
theorem se_list (hw : what ≤ 2) (hlo : ∀ r c j, r < m → c ≤ j → j < n → (decide (what = 2) = false → lo r c ≤ A r j ∧ A r j ≤ hi r c) ∧ (decide (what = 2) = true → ((A r j).natAbs : Int) ≤ hi r c ∧ lo r c = - hi r c)) (bo : Nat) :
    sx_szs (se_one m n (decide (what = 2)) A lo hi (se_b (decide (what ≠ 1)) b)) (bo + 1 - (if what = 1 then 0 else 1)) (if what = 1 then 0 else 1) [] = sx_list what m n A b (bo + 1) 0 [] := by
  by_cases h1 : what = 1
  · rw [if_pos h1]
    exact sx_szs_congr _ _ _ (fun s _ L => se_one_eq hw hlo (fun h => absurd h1 h) L)
  · rw [if_neg h1]
    unfold sx_list
    rw [sx_szs_succ]
    have h0 : (sx_E (decide (what = 2)) n 0 0 sx_z).filter (sx_P what m n A b) = [] := List.filter_eq_nil_iff.mpr fun w hw9 hP => by
      have h2 := (sx_E_mem.mp hw9).2.1
      have h3 := sx_ld_zero.mpr (sx_sz_zero.mp h2)
      unfold sx_P at hP
      rw [if_neg h1] at hP
      split at hP
      · rw [Bool.and_eq_true, decide_eq_true_iff] at hP; omega
      · rw [Bool.and_eq_true, decide_eq_true_iff] at hP; exact hP.1 h3
    rw [h0]
    show _ = sx_szs _ bo 1 []
    exact sx_szs_congr _ _ _ (fun s hs L => se_one_eq hw hlo (fun _ => hs) L)
/-- as many columns as none: only size 0 counts -/
theorem sx_list_0 (k s : Nat) (L : List (Nat → Int)) (hs : 1 ≤ s) : sx_list what m 0 A b k s L = (L, true) := by
  unfold sx_list
  induction k generalizing s with
  | zero => rfl
  | succ k ih =>
    rw [sx_szs_succ]
    have h0 : (sx_E (decide (what = 2)) 0 0 s sx_z).filter (sx_P what m 0 A b) = [] := by
      show (if s = 0 then [sx_z] else []).filter _ = []
      rw [if_neg (by omega)]; rfl
    rw [h0]
    exact ih (s + 1) (by omega)
end WK
