/-! conditions in whole numbers -/
section IE
variable {α : Type} {a b : Int} {x y : α}
theorem ie_eq {d : Decidable (iI a = iI b)} (h1 : -2147483648 ≤ a) (h2 : a ≤ 2147483647) (h3 : -2147483648 ≤ b) (h4 : b ≤ 2147483647) : @ite α (iI a = iI b) d x y = if a = b then x else y := by
  by_cases q : a = b
  · rw [if_pos (by rw [q]), if_pos q]
  · rw [if_neg (by rw [ii_eq h1 h2 h3 h4]; exact q), if_neg q]
theorem ie_lt {d : Decidable (iI a < iI b)} (h1 : -2147483648 ≤ a) (h2 : a ≤ 2147483647) (h3 : -2147483648 ≤ b) (h4 : b ≤ 2147483647) : @ite α (iI a < iI b) d x y = if a < b then x else y := by
  by_cases q : a < b
  · rw [if_pos (by rw [ii_lt h1 h2 h3 h4]; exact q), if_pos q]
  · rw [if_neg (by rw [ii_lt h1 h2 h3 h4]; exact q), if_neg q]
theorem ie_le {d : Decidable (iI a ≤ iI b)} (h1 : -2147483648 ≤ a) (h2 : a ≤ 2147483647) (h3 : -2147483648 ≤ b) (h4 : b ≤ 2147483647) : @ite α (iI a ≤ iI b) d x y = if a ≤ b then x else y := by
  by_cases q : a ≤ b
  · rw [if_pos (by rw [ii_le h1 h2 h3 h4]; exact q), if_pos q]
  · rw [if_neg (by rw [ii_le h1 h2 h3 h4]; exact q), if_neg q]
theorem bI_eq0 {b : Bool} : (bI b = 0) = (b = false) := by cases b <;> simp [bI]
theorem ie_b0 {b : Bool} {d : Decidable (bI b = 0)} : @ite α (bI b = 0) d x y = if b = false then x else y := by
  by_cases q : b = false
  · rw [if_pos (by rw [bI_eq0]; exact q), if_pos q]
  · rw [if_neg (by rw [bI_eq0]; exact q), if_neg q]
theorem ie_n {p q : Prop} {d : Decidable p} [d' : Decidable q] (h : p = q) : @ite α p d x y = @ite α q d' x y := by
  subst h
  congr
end IE
theorem ii_s {i : Nat} : iI (i : Int) + 1 = iI ((i + 1 : Nat) : Int) := by
  rw [il_1, ii_add]
  rfl
