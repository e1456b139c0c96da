/-! ints that are whole numbers of any size mod 2 ^ 32; steps by rewriting -/
def iI (z : Int) : Int32 := Int32.ofInt z
section II
variable {a b : Int} {n : Nat}
theorem ii_add : iI a + iI b = iI (a + b) := (Int32.ofInt_add a b).symm
theorem ii_sub : iI a - iI b = iI (a - b) := (Int32.ofInt_sub a b).symm
theorem ii_mul : iI a * iI b = iI (a * b) := (Int32.ofInt_mul a b).symm
theorem ii_neg : - iI a = iI (-a) := (Int32.ofInt_neg a).symm
theorem ii_to (h1 : -2147483648 ≤ a) (h2 : a ≤ 2147483647) : (iI a).toInt = a := Int32.toInt_ofInt_of_le (by omega) (by omega)
theorem ii_le (h1 : -2147483648 ≤ a) (h2 : a ≤ 2147483647) (h3 : -2147483648 ≤ b) (h4 : b ≤ 2147483647) : (iI a ≤ iI b) = (a ≤ b) := propext (by rw [Int32.le_iff_toInt_le, ii_to h1 h2, ii_to h3 h4])
theorem ii_lt (h1 : -2147483648 ≤ a) (h2 : a ≤ 2147483647) (h3 : -2147483648 ≤ b) (h4 : b ≤ 2147483647) : (iI a < iI b) = (a < b) := propext (by rw [Int32.lt_iff_toInt_lt, ii_to h1 h2, ii_to h3 h4])
theorem ii_eq (h1 : -2147483648 ≤ a) (h2 : a ≤ 2147483647) (h3 : -2147483648 ≤ b) (h4 : b ≤ 2147483647) : (iI a = iI b) = (a = b) := propext (by rw [← Int32.toInt_inj, ii_to h1 h2, ii_to h3 h4])
theorem ii_nat (h1 : -2147483648 ≤ a) (h2 : a ≤ 2147483647) : (iI a).toNatClampNeg = a.toNat := by
  show (iI a).toInt.toNat = a.toNat
  rw [ii_to h1 h2]
theorem ii_self (x : Int32) : iI x.toInt = x := Int32.ofInt_toInt x
theorem ii_nI : nI n = iI (n : Int) := by
  unfold nI iI
  rw [Int32.ofInt_eq_ofNat]
theorem il_0 : (0 : Int32) = iI 0 := rfl
theorem il_1 : (1 : Int32) = iI 1 := rfl
theorem il_2 : (2 : Int32) = iI 2 := rfl
theorem il_3 : (3 : Int32) = iI 3 := rfl
theorem il_4 : (4 : Int32) = iI 4 := rfl
theorem il_5 : (5 : Int32) = iI 5 := rfl
theorem il_6 : (6 : Int32) = iI 6 := rfl
theorem il_7 : (7 : Int32) = iI 7 := rfl
theorem il_8 : (8 : Int32) = iI 8 := rfl
theorem il_9 : (9 : Int32) = iI 9 := rfl
theorem il_10 : (10 : Int32) = iI 10 := rfl
theorem il_16 : (16 : Int32) = iI 16 := rfl
theorem il_20 : (20 : Int32) = iI 20 := rfl
theorem il_28 : (28 : Int32) = iI 28 := rfl
theorem il_99 : (99 : Int32) = iI 99 := rfl
theorem il_200 : (200 : Int32) = iI 200 := rfl
theorem il_300 : (300 : Int32) = iI 300 := rfl
theorem il_2000 : (2000 : Int32) = iI 2000 := rfl
theorem il_12000 : (12000 : Int32) = iI 12000 := rfl
end II
noncomputable def sm_ev {S O : Type} (st : S → Option (S ⊕ O)) (x : Option (S ⊕ O)) : Option O := match x with
  | none => none
  | some (.inl s') => sm_tot st s'
  | some (.inr o) => some o
section EV
variable {S O : Type} {st : S → Option (S ⊕ O)}
theorem sm_tot_n {s : S} (h : st s = none) : sm_tot st s = none := by
  cases h2 : sm_tot st s with
  | none => rfl
  | some o =>
    obtain ⟨k, hk⟩ := sm_of h2
    cases k with
    | zero => cases hk
    | succ k => rw [sm_it_succ, h] at hk; cases hk
theorem sm_ev_l {s : S} : sm_ev st (some (.inl s)) = sm_tot st s := rfl
theorem sm_ev_r {o : O} : sm_ev st (some (.inr o)) = some o := rfl
theorem sm_ev_n : sm_ev st none = none := rfl
theorem sm_tot_u (s : S) : sm_tot st s = sm_ev st (st s) := by
  cases h : st s with
  | none => exact sm_tot_n h
  | some x =>
    cases x with
    | inl s' => exact sm_tot_l h
    | inr o => exact sm_tot_r h
end EV
def sx_alf (p : Nat → Bool) : Nat → Nat → Bool
  | 0, _ => true
  | d + 1, c => p c && sx_alf p d (c + 1)
theorem sx_alf_iff {p : Nat → Bool} : ∀ {d c : Nat}, sx_alf p d c = true ↔ ∀ j, c ≤ j → j < c + d → p j = true := by
  intro d
  induction d with
  | zero => intro c; exact ⟨fun _ j h1 h2 => by omega, fun _ => rfl⟩
  | succ d ih =>
    intro c
    show (p c && sx_alf p d (c + 1)) = true ↔ _
    rw [Bool.and_eq_true, ih]
    constructor
    · rintro ⟨h1, h2⟩ j h3 h4
      by_cases e : j = c
      · subst e; exact h1
      · exact h2 j (by omega) (by omega)
    · intro h
      exact ⟨h c (Nat.le_refl _) (by omega), fun j h1 h2 => h j (by omega) (by omega)⟩
theorem sx_alf_all {p : Nat → Bool} {n : Nat} : sx_alf p n 0 = sx_all p n := by
  rw [Bool.eq_iff_iff, sx_alf_iff, sx_all_iff]
  exact ⟨fun h j hj => h j (by omega) (by omega), fun h j _ hj => h j (by omega)⟩
def bI (b : Bool) : Int32 := if b = true then 1 else 0
