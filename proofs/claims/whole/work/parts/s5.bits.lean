/-! bytes of a long -/
def bc (x : Int64) (i : Int32) : Int32 := (x.toUInt64 >>> ((8 * i).toInt64.toUInt64 &&& Int64.toUInt64 63)).toInt64.toInt32 &&& 255
def bm (x : Int64) (i : Int32) : Int64 := (x >>> ((8 * i).toInt64 &&& 63)) &&& 255
def yb (x : Int64) (d : Nat) : Nat := x.toBitVec.toNat / 2 ^ d % 256
def ok (x : Int64) (d : Nat) : Prop := 32 ≤ yb x d ∧ yb x d ≤ 126
theorem yb_lt (x : Int64) (d : Nat) : yb x d < 256 := Nat.mod_lt _ (by decide)
theorem sb_ushr (X : BitVec 64) (d : Nat) : ((X >>> d).setWidth 32 &&& 255#32).toNat = X.toNat / 2 ^ d % 256 := by
  rw [BitVec.toNat_and, BitVec.toNat_setWidth, BitVec.toNat_ushiftRight, Nat.shiftRight_eq_div_pow]
  show X.toNat / 2 ^ d % 2 ^ 32 &&& (2 ^ 8 - 1) = _
  rw [Nat.and_two_pow_sub_one_eq_mod]
  omega
theorem sb_sshr (X : BitVec 64) (d : Nat) (hd : d = 0 ∨ d = 8 ∨ d = 16 ∨ d = 24 ∨ d = 32 ∨ d = 40 ∨ d = 48 ∨ d = 56) : (X.sshiftRight d &&& 255#64).toNat = X.toNat / 2 ^ d % 256 := by
  rw [BitVec.toNat_and]
  show (X.sshiftRight d).toNat &&& (2 ^ 8 - 1) = _
  rw [Nat.and_two_pow_sub_one_eq_mod]
  have hX := X.isLt
  cases hm : X.msb with
  | false =>
    rw [BitVec.sshiftRight_eq_of_msb_false hm, BitVec.toNat_ushiftRight, Nat.shiftRight_eq_div_pow]
  | true =>
    rw [BitVec.sshiftRight_eq_of_msb_true hm, BitVec.toNat_not, BitVec.toNat_ushiftRight, BitVec.toNat_not, Nat.shiftRight_eq_div_pow]
    rcases hd with rfl | rfl | rfl | rfl | rfl | rfl | rfl | rfl <;> omega
theorem bc_eq (x : Int64) (i : Int32) (d : Nat) (hs : ((8 * i).toInt64.toUInt64 &&& Int64.toUInt64 63).toBitVec.toNat % 64 = d) : bc x i = nI (yb x d) := by
  apply Int32.toBitVec_inj.mp
  have h1 : (bc x i).toBitVec = (x.toBitVec >>> d).setWidth 32 &&& 255#32 := by
    subst hs
    have h2 : (bc x i).toBitVec = ((x.toBitVec >>> (((8 * i).toInt64.toUInt64 &&& Int64.toUInt64 63).toBitVec % 64)).signExtend 32) &&& 255#32 := rfl
    rw [h2, BitVec.signExtend_eq_setWidth_of_le _ (by decide), BitVec.ushiftRight_eq', BitVec.toNat_umod]
    rfl
  rw [h1]
  apply BitVec.eq_of_toNat_eq
  rw [sb_ushr]
  show _ = (BitVec.ofNat 32 (yb x d)).toNat
  rw [BitVec.toNat_ofNat]
  show yb x d = _
  have := yb_lt x d
  omega
theorem bm_eq (x : Int64) (i : Int32) (d : Nat) (hs : ((8 * i).toInt64 &&& 63).toBitVec.smod 64 = BitVec.ofNat 64 d) (hd : d = 0 ∨ d = 8 ∨ d = 16 ∨ d = 24 ∨ d = 32 ∨ d = 40 ∨ d = 48 ∨ d = 56) : bm x i = lN (yb x d) := by
  apply Int64.toBitVec_inj.mp
  have hdd : (BitVec.ofNat 64 d).toNat = d := by
    rw [BitVec.toNat_ofNat]
    omega
  have h1 : (bm x i).toBitVec = x.toBitVec.sshiftRight d &&& 255#64 := by
    show BitVec.sshiftRight' x.toBitVec (((8 * i).toInt64 &&& 63).toBitVec.smod 64) &&& 255#64 = _
    rw [hs]
    show x.toBitVec.sshiftRight (BitVec.ofNat 64 d).toNat &&& _ = _
    rw [hdd]
  rw [h1]
  apply BitVec.eq_of_toNat_eq
  rw [sb_sshr _ _ hd]
  show _ = (BitVec.ofNat 64 (yb x d)).toNat
  rw [BitVec.toNat_ofNat]
  show yb x d = _
  have := yb_lt x d
  omega
theorem lg_lt0 (x y : Int64) : lg_cmp x y < 0 ↔ x < y := by
  have h := lg_cmp_ge x y
  constructor
  · intro h1
    exact Int64.not_le.mp fun h2 => absurd (h.mpr h2) (Int32.not_le.mpr h1)
  · intro h1
    exact Int32.not_le.mp fun h2 => absurd (h.mp h2) (Int64.not_le.mpr h1)
theorem lg_gt0 (x y : Int64) : 0 < lg_cmp x y ↔ y < x := by
  unfold lg_cmp
  by_cases h : x > y
  · rw [if_pos h]
    exact ⟨fun _ => h, fun _ => by decide⟩
  · rw [if_neg h]
    constructor
    · intro h1
      by_cases h2 : x = y
      · rw [if_pos h2] at h1
        exact absurd h1 (by decide)
      · rw [if_neg h2] at h1
        exact absurd h1 (by decide)
    · intro h1
      exact absurd h1 h
