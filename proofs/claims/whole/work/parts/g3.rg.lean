/-! longs that are whole numbers of any size mod 2 ^ 64, and what is true of those in range -/
theorem rg_toInt {a : Int} (h : a.natAbs ≤ 4611686018427387903) : (Int64.ofInt a).toInt = a := Int64.toInt_ofInt_of_le (by omega) (by omega)
theorem rg_inj {a b : Int} (ha : a.natAbs ≤ 4611686018427387903) (hb : b.natAbs ≤ 4611686018427387903) : Int64.ofInt a = Int64.ofInt b ↔ a = b := by
  rw [← Int64.toInt_inj, rg_toInt ha, rg_toInt hb]
theorem rg_0 : (0 : Int64) = Int64.ofInt 0 := rfl
theorem rg_1 : (1 : Int64) = Int64.ofInt 1 := rfl
theorem rg_zero {a : Int} (ha : a.natAbs ≤ 4611686018427387903) : Int64.ofInt a = 0 ↔ a = 0 := by
  rw [rg_0, rg_inj ha (by omega)]
theorem rg_lt {a b : Int} (ha : a.natAbs ≤ 4611686018427387903) (hb : b.natAbs ≤ 4611686018427387903) : Int64.ofInt a < Int64.ofInt b ↔ a < b := by
  rw [Int64.lt_iff_toInt_lt, rg_toInt ha, rg_toInt hb]
theorem rg_le {a b : Int} (ha : a.natAbs ≤ 4611686018427387903) (hb : b.natAbs ≤ 4611686018427387903) : Int64.ofInt a ≤ Int64.ofInt b ↔ a ≤ b := by
  rw [Int64.le_iff_toInt_le, rg_toInt ha, rg_toInt hb]
theorem rg_div {a b : Int} (ha : a.natAbs ≤ 4611686018427387903) (hb : b.natAbs ≤ 4611686018427387903) : Int64.ofInt a / Int64.ofInt b = Int64.ofInt (a.tdiv b) := by
  have e1 : Int64.minValue.toInt = -9223372036854775808 := by decide
  have e2 : Int64.maxValue.toInt = 9223372036854775807 := by decide
  exact (Int64.ofInt_tdiv (by omega) (by omega) (by omega) (by omega)).symm
theorem rg_size {a : Int} (ha : a.natAbs ≤ 4611686018427387903) : (if (0 : Int32) ≤ lg_cmp (Int64.ofInt a) 0 then Int64.ofInt a else -Int64.ofInt a) = Int64.ofInt (a.natAbs : Int) := by
  by_cases h : (0 : Int32) ≤ lg_cmp (Int64.ofInt a) 0
  · rw [if_pos h]
    have h' := (lg_cmp_ge _ _).mp h
    rw [rg_0, rg_le (by omega) ha] at h'
    rw [show (a.natAbs : Int) = a by omega]
  · rw [if_neg h]
    have h' : ¬ (0 : Int64) ≤ Int64.ofInt a := fun q => h ((lg_cmp_ge _ _).mpr q)
    rw [rg_0, rg_le (by omega) ha] at h'
    rw [show (a.natAbs : Int) = -a by omega, Int64.ofInt_neg]
theorem rg_i (x : Int32) : x.toInt64 = Int64.ofInt x.toInt := by
  rw [← Int64.toInt_inj, Int32.toInt_toInt64, Int64.toInt_ofInt_of_le]
  · have := Int32.le_toInt x; omega
  · have := Int32.toInt_lt x; omega
theorem rg_sum (n : Nat) (cn : Nat → Int32) (v : Nat → Int) : rf_SL n (fun c => (cn c).toInt64 * Int64.ofInt (v c)) = Int64.ofInt (rw_S n (fun c => (cn c).toInt * v c)) := by
  induction n with
  | zero => rfl
  | succ n ih =>
    simp only [rf_SL, rw_S]
    rw [ih, Int64.ofInt_add, Int64.ofInt_mul, rg_i]
