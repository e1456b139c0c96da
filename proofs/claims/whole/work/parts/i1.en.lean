/-! vectors of a size, in their order -/
def sx_up (v : Nat → Int) (c : Nat) (a : Int) : Nat → Int := fun j => if j = c then a else v j
def sx_fl {α : Type} (f : Int → List α) : Nat → Int → List α
  | 0, _ => []
  | n + 1, lo => f lo ++ sx_fl f n (lo + 1)
def sx_E (sg : Bool) : Nat → Nat → Nat → (Nat → Int) → List (Nat → Int)
  | 0, _, s, v => if s = 0 then [v] else []
  | k + 1, c, s, v => sx_fl (fun a => sx_E sg k (c + 1) (s - a.natAbs) (sx_up v c a)) (if sg then 2 * s + 1 else s + 1) (if sg then -(s : Int) else 0)
/-- the size of the columns c .. c + k - 1 -/
def sx_sz (w : Nat → Int) : Nat → Nat → Nat
  | 0, _ => 0
  | k + 1, c => (w c).natAbs + sx_sz w k (c + 1)
section SX
variable {α : Type} {sg : Bool} {n k c s : Nat} {v w : Nat → Int} {a : Int}
theorem sx_up_eq : sx_up v c a c = a := if_pos rfl
theorem sx_up_ne {j : Nat} (h : j ≠ c) : sx_up v c a j = v j := if_neg h
theorem sx_up_self (h : v c = a) : sx_up v c a = v := by
  funext j
  by_cases e : j = c
  · subst e; rw [sx_up_eq, h]
  · rw [sx_up_ne e]
theorem sx_up_up {b : Int} : sx_up (sx_up v c a) c b = sx_up v c b := by
  funext j
  by_cases e : j = c
  · subst e; rw [sx_up_eq, sx_up_eq]
  · rw [sx_up_ne e, sx_up_ne e, sx_up_ne e]
theorem sx_fl_mem {f : Int → List α} {x : α} : ∀ {n : Nat} {lo : Int}, x ∈ sx_fl f n lo ↔ ∃ a : Int, lo ≤ a ∧ a < lo + n ∧ x ∈ f a := by
  intro n
  induction n with
  | zero =>
    intro lo
    constructor
    · intro h; cases h
    · rintro ⟨a, h1, h2, -⟩; omega
  | succ n ih =>
    intro lo
    show x ∈ f lo ++ sx_fl f n (lo + 1) ↔ _
    rw [List.mem_append, ih]
    constructor
    · rintro (h | ⟨a, h1, h2, h3⟩)
      · exact ⟨lo, Int.le_refl _, by omega, h⟩
      · exact ⟨a, by omega, by omega, h3⟩
    · rintro ⟨a, h1, h2, h3⟩
      by_cases e : a = lo
      · subst e; exact Or.inl h3
      · exact Or.inr ⟨a, by omega, by omega, h3⟩
theorem sx_sz_congr {k c : Nat} {v w : Nat → Int} (h : ∀ j, c ≤ j → j < c + k → v j = w j) : sx_sz v k c = sx_sz w k c := by
  induction k generalizing c with
  | zero => rfl
  | succ k ih =>
    show (v c).natAbs + sx_sz v k (c + 1) = (w c).natAbs + sx_sz w k (c + 1)
    rw [h c (Nat.le_refl _) (by omega), ih (fun j h1 h2 => h j (by omega) (by omega))]
/-- what lies in the list -/
theorem sx_E_mem {sg : Bool} : ∀ {k c s : Nat} {v w : Nat → Int}, w ∈ sx_E sg k c s v ↔ (∀ j, j < c ∨ c + k ≤ j → w j = v j) ∧ sx_sz w k c = s ∧ (sg = false → ∀ j, c ≤ j → j < c + k → 0 ≤ w j) := by
  intro k
  induction k with
  | zero =>
    intro c s v w
    show w ∈ (if s = 0 then [v] else []) ↔ _
    constructor
    · intro h
      by_cases e : s = 0
      · rw [if_pos e, List.mem_singleton] at h
        subst h
        exact ⟨fun _ _ => rfl, e.symm, fun _ j h1 h2 => by omega⟩
      · rw [if_neg e] at h; cases h
    · rintro ⟨h1, h2, -⟩
      have e : s = 0 := h2.symm
      rw [if_pos e, List.mem_singleton]
      funext j
      exact h1 j (by omega)
  | succ k ih =>
    intro c s v w
    show w ∈ sx_fl _ _ _ ↔ _
    rw [sx_fl_mem]
    constructor
    · rintro ⟨a, h1, h2, h3⟩
      obtain ⟨p1, p2, p3⟩ := ih.mp h3
      have hc : w c = a := by rw [p1 c (Or.inl (by omega)), sx_up_eq]
      have ha : a.natAbs ≤ s ∧ (sg = false → 0 ≤ a) := by
        cases sg with
        | true => simp only [if_true] at h1 h2; exact ⟨by omega, fun h => by cases h⟩
        | false => simp only [Bool.false_eq_true, if_false] at h1 h2; exact ⟨by omega, fun _ => h1⟩
      refine ⟨fun j hj => ?_, ?_, fun hs j h4 h5 => ?_⟩
      · rw [p1 j (by omega), sx_up_ne (by omega)]
      · show (w c).natAbs + sx_sz w k (c + 1) = s
        rw [p2, hc]; omega
      · by_cases e : j = c
        · subst e; rw [hc]; exact ha.2 hs
        · exact p3 hs j (by omega) (by omega)
    · rintro ⟨p1, p2, p3⟩
      have p2' : (w c).natAbs + sx_sz w k (c + 1) = s := p2
      refine ⟨w c, ?_, ?_, ih.mpr ⟨fun j hj => ?_, by omega, fun hs j h4 h5 => p3 hs j (by omega) (by omega)⟩⟩
      · cases sg with
        | true => simp only [if_true]; omega
        | false => simp only [Bool.false_eq_true, if_false]; exact p3 rfl c (Nat.le_refl _) (by omega)
      · cases sg with
        | true => simp only [if_true]; omega
        | false => simp only [Bool.false_eq_true, if_false]; omega
      · by_cases e : j = c
        · subst e; rw [sx_up_eq]
        · rw [sx_up_ne e]; exact p1 j (by omega)
/-! the step from one to the next, as by a counter -/
/-- the first one from column c on -/
def sx_sp (sg : Bool) (n c s : Nat) (v : Nat → Int) : Nat → Int := fun j => if c ≤ j ∧ j < n then (if sg then (if j = c then -(s : Int) else 0) else (if j + 1 = n then (s : Int) else 0)) else v j
def sx_try (sg : Bool) (n c : Nat) (v : Nat → Int) : Option (Nat → Int) :=
  if c + 1 = n then (if sg = true ∧ v c < 0 then some (sx_up v c (- v c)) else none)
  else if (v c + 1).natAbs ≤ sx_sz v (n - c) c then some (sx_sp sg n (c + 1) (sx_sz v (n - c) c - (v c + 1).natAbs) (sx_up v c (v c + 1))) else none
def sx_sc (sg : Bool) (n : Nat) : Nat → (Nat → Int) → Option (Nat → Int)
  | 0, _ => none
  | d + 1, v => match sx_sc sg n d v with
    | some r => some r
    | none => sx_try sg n (n - (d + 1)) v
/-- L is what comes of x by nx, up to its end -/
def sx_Lk (nx : α → Option α) : List α → α → Prop
  | [], _ => False
  | [y], x => x = y ∧ nx y = none
  | y :: z :: r, x => x = y ∧ nx y = some z ∧ sx_Lk nx (z :: r) z
theorem sx_Lk_app {nx ni : α → Option α} {L2 : List α} {x2 : α} (h2 : sx_Lk nx L2 x2) : ∀ (L1 : List α) (x1 : α), sx_Lk ni L1 x1 → (∀ y z, y ∈ L1 → ni y = some z → nx y = some z) → (∀ y, y ∈ L1 → ni y = none → nx y = some x2) → sx_Lk nx (L1 ++ L2) x1 := by
  intro L1
  induction L1 with
  | nil => intro x1 h; exact h.elim
  | cons y r ih =>
    intro x1 h hi he
    cases r with
    | nil =>
      obtain ⟨e1, e2⟩ := h
      cases L2 with
      | nil => exact h2.elim
      | cons z r2 =>
        have hz : x2 = z := by
          cases r2 with
          | nil => exact h2.1
          | cons z2 r3 => exact h2.1
        subst hz
        exact ⟨e1, he y List.mem_cons_self e2, h2⟩
    | cons z r =>
      obtain ⟨e1, e2, e3⟩ := h
      exact ⟨e1, hi y z List.mem_cons_self e2, ih z e3 (fun a b ha => hi a b (List.mem_cons_of_mem _ ha)) (fun a ha => he a (List.mem_cons_of_mem _ ha))⟩
theorem sx_Lk_end {nx ni : α → Option α} : ∀ (L1 : List α) (x1 : α), sx_Lk ni L1 x1 → (∀ y z, y ∈ L1 → ni y = some z → nx y = some z) → (∀ y, y ∈ L1 → ni y = none → nx y = none) → sx_Lk nx L1 x1 := by
  intro L1
  induction L1 with
  | nil => intro x1 h; exact h.elim
  | cons y r ih =>
    intro x1 h hi he
    cases r with
    | nil => exact ⟨h.1, he y List.mem_cons_self h.2⟩
    | cons z r =>
      obtain ⟨e1, e2, e3⟩ := h
      exact ⟨e1, hi y z List.mem_cons_self e2, ih z e3 (fun a b ha => hi a b (List.mem_cons_of_mem _ ha)) (fun a ha => he a (List.mem_cons_of_mem _ ha))⟩
/-- blocks, one for each number at column c -/
theorem sx_Lk_fl {nx : α → Option α} {ni : α → Option α} {f : Int → List α} {x : Int → α} : ∀ (m : Nat) (lo : Int),
    (∀ a, lo ≤ a → a ≤ lo + m → sx_Lk ni (f a) (x a)) →
    (∀ a, lo ≤ a → a ≤ lo + m → ∀ y z, y ∈ f a → ni y = some z → nx y = some z) →
    (∀ a, lo ≤ a → a < lo + m → ∀ y, y ∈ f a → ni y = none → nx y = some (x (a + 1))) →
    (∀ y, y ∈ f (lo + m) → ni y = none → nx y = none) → sx_Lk nx (sx_fl f (m + 1) lo) (x lo) := by
  intro m
  induction m with
  | zero =>
    intro lo h1 h2 h3 h4
    show sx_Lk nx (f lo ++ []) (x lo)
    rw [List.append_nil]
    refine sx_Lk_end (f lo) (x lo) (h1 lo (Int.le_refl _) (by omega)) (h2 lo (Int.le_refl _) (by omega)) (fun y hy e => h4 y ?_ e)
    have e0 : lo + ((0 : Nat) : Int) = lo := by omega
    rw [e0]; exact hy
  | succ m ih =>
    intro lo h1 h2 h3 h4
    show sx_Lk nx (f lo ++ sx_fl f (m + 1) (lo + 1)) (x lo)
    refine sx_Lk_app (ih (lo + 1) (fun a p q => h1 a (by omega) (by omega)) (fun a p q => h2 a (by omega) (by omega)) (fun a p q => h3 a (by omega) (by omega)) (fun y hy e => h4 y ?_ e)) (f lo) (x lo) (h1 lo (Int.le_refl _) (by omega)) (h2 lo (Int.le_refl _) (by omega)) (h3 lo (Int.le_refl _) (by omega))
    have e0 : lo + ((m + 1 : Nat) : Int) = lo + 1 + (m : Int) := by omega
    rw [e0]; exact hy
end SX
