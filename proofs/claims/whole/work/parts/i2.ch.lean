/-! the counter goes through all vectors of a size, in their order -/
section SXC
variable {α : Type} {sg : Bool} {n : Nat}
theorem sx_fl_skip {f : Int → List α} : ∀ (d m : Nat) (lo : Int), (∀ a, lo ≤ a → a < lo + d → f a = []) → sx_fl f (d + m) lo = sx_fl f m (lo + d) := by
  intro d
  induction d with
  | zero =>
    intro m lo _
    have e0 : lo + ((0 : Nat) : Int) = lo := by omega
    rw [e0, Nat.zero_add]
  | succ d ih =>
    intro m lo h
    have e1 : d + 1 + m = (d + m) + 1 := by omega
    rw [e1]
    show f lo ++ sx_fl f (d + m) (lo + 1) = _
    rw [h lo (Int.le_refl _) (by omega), List.nil_append, ih m (lo + 1) (fun a p q => h a (by omega) (by omega))]
    have e2 : lo + 1 + (d : Int) = lo + ((d + 1 : Nat) : Int) := by omega
    rw [e2]
theorem sx_sp_congr {c s : Nat} {v w : Nat → Int} (h : ∀ j, ¬ (c ≤ j ∧ j < n) → v j = w j) : sx_sp sg n c s v = sx_sp sg n c s w := by
  funext j
  unfold sx_sp
  by_cases e : c ≤ j ∧ j < n
  · rw [if_pos e, if_pos e]
  · rw [if_neg e, if_neg e, h j e]
theorem sx_sc_succ {d : Nat} {v : Nat → Int} : sx_sc sg n (d + 1) v = match sx_sc sg n d v with
    | some r => some r
    | none => sx_try sg n (n - (d + 1)) v := rfl
theorem sx_sc_some {d : Nat} {v r : Nat → Int} (h : sx_sc sg n d v = some r) : sx_sc sg n (d + 1) v = some r := by rw [sx_sc_succ, h]
theorem sx_sc_none {d : Nat} {v : Nat → Int} (h : sx_sc sg n d v = none) : sx_sc sg n (d + 1) v = sx_try sg n (n - (d + 1)) v := by rw [sx_sc_succ, h]
theorem sx_sc_one {v : Nat → Int} (h : 1 ≤ n) : sx_sc sg n 1 v = if sg = true ∧ v (n - 1) < 0 then some (sx_up v (n - 1) (- v (n - 1))) else none := by
  show sx_try sg n (n - 1) v = _
  unfold sx_try
  rw [if_pos (by omega)]
/-- one column -/
theorem sx_E_one {c s : Nat} {v : Nat → Int} (hn : c + 1 = n) : sx_Lk (sx_sc sg n 1) (sx_E sg 1 c s v) (sx_sp sg n c s v) := by
  have hc : n - 1 = c := by omega
  have hE : ∀ (m : Nat) (lo : Int), sx_fl (fun a => sx_E sg 0 (c + 1) (s - a.natAbs) (sx_up v c a)) m lo = sx_fl (fun a : Int => if s - a.natAbs = 0 then [sx_up v c a] else []) m lo := fun m lo => rfl
  cases sg with
  | false =>
    have e1 : sx_E false 1 c s v = [sx_up v c (s : Int)] := by
      show sx_fl (fun a : Int => if s - a.natAbs = 0 then [sx_up v c a] else []) (s + 1) 0 = _
      rw [sx_fl_skip s 1 0 (fun a p q => if_neg (by omega))]
      show (if s - ((0 : Int) + s).natAbs = 0 then [sx_up v c ((0 : Int) + s)] else []) ++ [] = _
      rw [if_pos (by omega), List.append_nil, Int.zero_add]
    rw [e1]
    refine ⟨?_, ?_⟩
    · funext j
      unfold sx_sp
      by_cases e : j = c
      · subst e; rw [if_pos (by omega), sx_up_eq]; simp [hn]
      · rw [if_neg (by omega), sx_up_ne e]
    · rw [sx_sc_one (by omega), if_neg (by simp)]
  | true =>
    by_cases hs : s = 0
    · subst hs
      have e1 : sx_E true 1 c 0 v = [sx_up v c 0] := rfl
      rw [e1]
      refine ⟨?_, ?_⟩
      · funext j
        unfold sx_sp
        by_cases e : j = c
        · subst e; rw [if_pos (by omega), sx_up_eq]; simp
        · rw [if_neg (by omega), sx_up_ne e]
      · rw [sx_sc_one (by omega), hc, sx_up_eq, if_neg (by omega)]
    · have e1 : sx_E true 1 c s v = [sx_up v c (-(s : Int)), sx_up v c (s : Int)] := by
        show sx_fl (fun a : Int => if s - a.natAbs = 0 then [sx_up v c a] else []) (2 * s + 1) (-(s : Int)) = _
        have e2 : 2 * s + 1 = (2 * s - 1 + 1) + 1 := by omega
        rw [e2]
        show (if s - (-(s : Int)).natAbs = 0 then [sx_up v c (-(s : Int))] else []) ++ sx_fl _ (2 * s - 1 + 1) (-(s : Int) + 1) = _
        rw [sx_fl_skip (2 * s - 1) 1 (-(s : Int) + 1) (fun a p q => if_neg (by omega)), if_pos (by omega)]
        show [sx_up v c (-(s : Int))] ++ ((if s - (-(s : Int) + 1 + ((2 * s - 1 : Nat) : Int)).natAbs = 0 then [sx_up v c (-(s : Int) + 1 + ((2 * s - 1 : Nat) : Int))] else []) ++ []) = _
        have e3 : -(s : Int) + 1 + ((2 * s - 1 : Nat) : Int) = (s : Int) := by omega
        rw [e3, if_pos (by omega)]
        rfl
      rw [e1]
      refine ⟨?_, ?_, rfl, ?_⟩
      · funext j
        unfold sx_sp
        by_cases e : j = c
        · subst e; rw [if_pos (by omega), sx_up_eq]; simp
        · rw [if_neg (by omega), sx_up_ne e]
      · rw [sx_sc_one (by omega), hc, sx_up_eq, if_pos ⟨rfl, by omega⟩, sx_up_up, Int.neg_neg]
      · rw [sx_sc_one (by omega), hc, sx_up_eq, if_neg (by omega)]
theorem sx_E_ch : ∀ (k c s : Nat) (v : Nat → Int), c + (k + 1) = n → sx_Lk (sx_sc sg n (k + 1)) (sx_E sg (k + 1) c s v) (sx_sp sg n c s v) := by
  intro k
  induction k with
  | zero => intro c s v h; exact sx_E_one (by omega)
  | succ k ih =>
    intro c s v h
    have hc : n - (k + 1 + 1) = c := by omega
    have hlo : (if sg then -(s : Int) else 0) + ((if sg then 2 * s else s : Nat) : Int) = (s : Int) := by cases sg <;> simp <;> omega
    have hm : (if sg then 2 * s + 1 else s + 1) = (if sg then 2 * s else s) + 1 := by cases sg <;> simp
    have hlo2 : -(s : Int) ≤ (if sg then -(s : Int) else 0) := by cases sg <;> simp <;> omega
    have hx : sx_sp sg n c s v = sx_sp sg n (c + 1) (s - (if sg then -(s : Int) else 0).natAbs) (sx_up v c (if sg then -(s : Int) else 0)) := by
      funext j
      unfold sx_sp
      by_cases e : j = c
      · subst e
        have h1 : j ≤ j ∧ j < n := by omega
        have h2 : ¬ (j + 1 ≤ j ∧ j < n) := by omega
        have h3 : ¬ (j + 1 = n) := by omega
        rw [if_pos h1, if_neg h2, sx_up_eq]
        cases sg <;> simp [h3]
      · by_cases e2 : c ≤ j ∧ j < n
        · have h2 : c + 1 ≤ j ∧ j < n := by omega
          rw [if_pos e2, if_pos h2]
          cases sg <;> simp [e]
        · have h2 : ¬ (c + 1 ≤ j ∧ j < n) := by omega
          rw [if_neg e2, if_neg h2, sx_up_ne e]
    rw [hx]
    show sx_Lk _ (sx_fl (fun a => sx_E sg (k + 1) (c + 1) (s - a.natAbs) (sx_up v c a)) (if sg then 2 * s + 1 else s + 1) (if sg then -(s : Int) else 0)) _
    rw [hm]
    have hin : ∀ (a : Int) (y : Nat → Int), y ∈ sx_E sg (k + 1) (c + 1) (s - a.natAbs) (sx_up v c a) → a.natAbs ≤ s → y c = a ∧ sx_sz y (n - c) c = s := by
      intro a y hy ha
      obtain ⟨p1, p2, -⟩ := sx_E_mem.mp hy
      have e1 : y c = a := by rw [p1 c (Or.inl (by omega)), sx_up_eq]
      refine ⟨e1, ?_⟩
      have e2 : n - c = (k + 1) + 1 := by omega
      rw [e2]
      show (y c).natAbs + sx_sz y (k + 1) (c + 1) = s
      rw [p2, e1]; omega
    refine sx_Lk_fl (x := fun a : Int => sx_sp sg n (c + 1) (s - a.natAbs) (sx_up v c a)) (ni := sx_sc sg n (k + 1)) _ _ (fun a p q => ih (c + 1) (s - a.natAbs) (sx_up v c a) (by omega)) (fun a p q y z hy e => sx_sc_some e) (fun a p q y hy e => ?_) (fun y hy e => ?_)
    · obtain ⟨e1, e2⟩ := hin a y hy (by omega)
      rw [sx_sc_none e, hc]
      unfold sx_try
      rw [if_neg (by omega), e1, e2, if_pos (by omega)]
      congr 1
      refine sx_sp_congr (fun j hj => ?_)
      by_cases e3 : j = c
      · subst e3; rw [sx_up_eq, sx_up_eq]
      · rw [sx_up_ne e3, sx_up_ne e3, (sx_E_mem.mp hy).1 j (by omega), sx_up_ne e3]
    · rw [hlo] at hy
      obtain ⟨e1, e2⟩ := hin (s : Int) y hy (by omega)
      rw [sx_sc_none e, hc]
      unfold sx_try
      rw [if_neg (by omega), e1, e2, if_neg (by omega)]
end SXC
