/-! INTS AND LONGS BY THEIR NUMBERS -/
def iZ (z : Int) : Int32 := Int32.ofInt z
def lZ (z : Int) : Int64 := Int64.ofInt z
abbrev iR (z : Int) : Prop := -2147483648 ≤ z ∧ z < 2147483648
abbrev lR (z : Int) : Prop := -9223372036854775808 ≤ z ∧ z < 9223372036854775808
theorem iZ_toInt {a : Int} (h : iR a) : (iZ a).toInt = a := Int32.toInt_ofInt_of_le (by have := h.1; omega) (by have := h.2; omega)
theorem lZ_toInt {a : Int} (h : lR a) : (lZ a).toInt = a := Int64.toInt_ofInt_of_le (by have := h.1; omega) (by have := h.2; omega)
theorem iZ_of (x : Int32) : ∃ z : Int, iR z ∧ x = iZ z := ⟨x.toInt, ⟨by have := x.le_toInt; omega, by have := x.toInt_lt; omega⟩, (Int32.ofInt_toInt x).symm⟩
theorem lZ_of (x : Int64) : ∃ z : Int, lR z ∧ x = lZ z := ⟨x.toInt, ⟨by have := x.le_toInt; omega, by have := x.toInt_lt; omega⟩, (Int64.ofInt_toInt x).symm⟩
theorem iZ_add (a b : Int) : iZ a + iZ b = iZ (a + b) := (Int32.ofInt_add a b).symm
theorem iZ_sub (a b : Int) : iZ a - iZ b = iZ (a - b) := (Int32.ofInt_sub a b).symm
theorem iZ_mul (a b : Int) : iZ a * iZ b = iZ (a * b) := (Int32.ofInt_mul a b).symm
theorem iZ_neg (a : Int) : - iZ a = iZ (-a) := (Int32.ofInt_neg a).symm
theorem lZ_add (a b : Int) : lZ a + lZ b = lZ (a + b) := (Int64.ofInt_add a b).symm
theorem lZ_sub (a b : Int) : lZ a - lZ b = lZ (a - b) := (Int64.ofInt_sub a b).symm
theorem lZ_mul (a b : Int) : lZ a * lZ b = lZ (a * b) := (Int64.ofInt_mul a b).symm
theorem lZ_neg (a : Int) : - lZ a = lZ (-a) := (Int64.ofInt_neg a).symm
theorem iZ_le {a b : Int} (ha : iR a) (hb : iR b) : iZ a ≤ iZ b ↔ a ≤ b := by rw [Int32.le_iff_toInt_le, iZ_toInt ha, iZ_toInt hb]
theorem iZ_lt {a b : Int} (ha : iR a) (hb : iR b) : iZ a < iZ b ↔ a < b := by rw [Int32.lt_iff_toInt_lt, iZ_toInt ha, iZ_toInt hb]
theorem iZ_eq {a b : Int} (ha : iR a) (hb : iR b) : iZ a = iZ b ↔ a = b := by rw [← Int32.toInt_inj, iZ_toInt ha, iZ_toInt hb]
theorem lZ_le {a b : Int} (ha : lR a) (hb : lR b) : lZ a ≤ lZ b ↔ a ≤ b := by rw [Int64.le_iff_toInt_le, lZ_toInt ha, lZ_toInt hb]
theorem lZ_lt {a b : Int} (ha : lR a) (hb : lR b) : lZ a < lZ b ↔ a < b := by rw [Int64.lt_iff_toInt_lt, lZ_toInt ha, lZ_toInt hb]
theorem lZ_eq {a b : Int} (ha : lR a) (hb : lR b) : lZ a = lZ b ↔ a = b := by rw [← Int64.toInt_inj, lZ_toInt ha, lZ_toInt hb]
theorem iZ_l {a : Int} (h : iR a) : (iZ a).toInt64 = lZ a := by
  apply Int64.toInt_inj.mp
  rw [Int32.toInt_toInt64, iZ_toInt h, lZ_toInt ⟨by have := h.1; omega, by have := h.2; omega⟩]
theorem lZ_i (a : Int) : (lZ a).toInt32 = iZ a := Int64.toInt32_ofInt
theorem iZ_clamp {a : Nat} (h : a < 2147483648) : (iZ a).toNatClampNeg = a := by
  show (iZ (a : Int)).toInt.toNat = a
  rw [iZ_toInt ⟨by omega, by omega⟩]
  rfl
theorem iZ_nI (n : Nat) : nI n = iZ n := Int32.ofInt_eq_ofNat.symm
theorem lZ_lN (n : Nat) : lN n = lZ n := Int64.ofInt_eq_ofNat.symm
theorem iZ_in {k n : Nat} (h : k < n) (hn : n < 2147483648) : vp_in (iZ k) n := by rw [← iZ_nI]; exact vp_in_nI h hn
theorem iZ_div {a b : Int} (ha : iR a) (hb : iR b) (a0 : 0 ≤ a) (b0 : 0 < b) : iZ a / iZ b = iZ (a / b) := by
  apply Int32.toInt_inj.mp
  have hne : iZ b ≠ -1 := fun q => by
    have : (iZ b).toInt = (-1 : Int32).toInt := by rw [q]
    rw [iZ_toInt hb] at this
    have : b = -1 := this
    omega
  have h1 : 0 ≤ a / b := Int.ediv_nonneg a0 (Int.le_of_lt b0)
  have h2 : a / b ≤ a := Int.ediv_le_self b a0
  rw [Int32.toInt_div_of_ne_right _ _ hne, iZ_toInt ha, iZ_toInt hb, iZ_toInt ⟨by omega, by have := ha.2; omega⟩, Int.tdiv_eq_ediv_of_nonneg a0]
theorem lZ_div {a b : Int} (ha : lR a) (hb : lR b) (a0 : 0 ≤ a) (b0 : 0 < b) : lZ a / lZ b = lZ (a / b) := by
  apply Int64.toInt_inj.mp
  have hne : lZ b ≠ -1 := fun q => by
    have : (lZ b).toInt = (-1 : Int64).toInt := by rw [q]
    rw [lZ_toInt hb] at this
    have : b = -1 := this
    omega
  have h1 : 0 ≤ a / b := Int.ediv_nonneg a0 (Int.le_of_lt b0)
  have h2 : a / b ≤ a := Int.ediv_le_self b a0
  rw [Int64.toInt_div_of_ne_right _ _ hne, lZ_toInt ha, lZ_toInt hb, lZ_toInt ⟨by omega, by have := ha.2; omega⟩, Int.tdiv_eq_ediv_of_nonneg a0]
/-- the low k bits of a long, whatever its sign -/
theorem lZ_mask (a : Int) (k : Nat) (hk : k < 63) : lZ a &&& lZ (2 ^ k - 1) = lZ (a % 2 ^ k) := by
  apply Int64.toBitVec_inj.mp
  show BitVec.ofInt 64 a &&& BitVec.ofInt 64 (2 ^ k - 1) = BitVec.ofInt 64 (a % 2 ^ k)
  have e1 : BitVec.ofInt 64 (2 ^ k - 1 : Int) = BitVec.ofNat 64 (2 ^ k - 1) := by
    rw [← BitVec.ofInt_natCast]
    congr 1
    have := Nat.two_pow_pos k
    rw [Int.natCast_sub this]
    simp
  rw [e1]
  apply BitVec.eq_of_toNat_eq
  rw [BitVec.toNat_and, BitVec.toNat_ofNat, BitVec.toNat_ofInt, BitVec.toNat_ofInt]
  have h2 : (2 ^ k - 1) % 2 ^ 64 = 2 ^ k - 1 := Nat.mod_eq_of_lt (by
    have := Nat.pow_lt_pow_right (a := 2) (by decide) (show k < 64 by omega)
    omega)
  rw [h2, Nat.and_two_pow_sub_one_eq_mod]
  have hp : (0 : Int) < 2 ^ k := Int.pow_pos (by decide)
  have hlt : (2 : Int) ^ k < 2 ^ 64 := by
    have := Nat.pow_lt_pow_right (a := 2) (by decide) (show k < 64 by omega)
    exact_mod_cast this
  have hm0 : 0 ≤ a % 2 ^ k := Int.emod_nonneg _ (Int.ne_of_gt hp)
  have hm1 : a % 2 ^ k < 2 ^ k := Int.emod_lt_of_pos _ hp
  have h3 : a % (2 ^ k) % ((2 ^ 64 : Nat) : Int) = a % 2 ^ k := Int.emod_eq_of_lt hm0 (by
    have : ((2 ^ 64 : Nat) : Int) = 2 ^ 64 := by simp
    rw [this]; omega)
  rw [h3]
  have h4 : ((a % ((2 ^ 64 : Nat) : Int)).toNat : Int) = a % ((2 ^ 64 : Nat) : Int) := Int.toNat_of_nonneg (Int.emod_nonneg _ (by decide))
  have h5 : (2 ^ k : Int) ∣ ((2 ^ 64 : Nat) : Int) := by
    have : ((2 ^ 64 : Nat) : Int) = 2 ^ k * 2 ^ (64 - k) := by
      rw [← Int.pow_add, show k + (64 - k) = 64 by omega]; simp
    exact ⟨_, this⟩
  have h6 : ((((a % ((2 ^ 64 : Nat) : Int)).toNat % 2 ^ k : Nat)) : Int) = a % 2 ^ k := by
    rw [Int.natCast_emod, h4]
    rw [show ((2 ^ k : Nat) : Int) = 2 ^ k by simp]
    exact Int.emod_emod_of_dvd a h5
  omega
theorem lZ_sh63 : ∀ k : Fin 64, ((iZ (k : Nat)).toInt64 &&& 63).toBitVec.smod 64 = BitVec.ofNat 64 k := by decide +kernel
theorem lZ_sh63u : ∀ k : Fin 64, (((iZ (k : Nat)).toInt64.toUInt64 &&& Int64.toUInt64 63).toBitVec % 64).toNat = k := by decide +kernel
theorem lZ_shr {a : Int} (ha : lR a) {k : Nat} (hk : k < 64) : lZ a >>> ((iZ k).toInt64 &&& 63) = lZ (a / 2 ^ k) := by
  apply Int64.toInt_inj.mp
  have h1 : (lZ a >>> ((iZ k).toInt64 &&& 63)).toInt = a / 2 ^ k := by
    show ((lZ a).toBitVec.sshiftRight' (((iZ k).toInt64 &&& 63).toBitVec.smod 64)).toInt = _
    rw [lZ_sh63 ⟨k, hk⟩, BitVec.sshiftRight_eq', BitVec.toInt_sshiftRight, BitVec.toNat_ofNat, Nat.mod_eq_of_lt (by omega)]
    show (lZ a).toInt >>> k = _
    rw [lZ_toInt ha, Int.shiftRight_eq_div_pow]
    simp
  rw [h1]
  have hp : (1 : Int) ≤ 2 ^ k := Int.pow_pos (by decide)
  have h2 : a / 2 ^ k ≤ 9223372036854775807 := by
    by_cases q : a < 0
    · have := Int.ediv_neg_of_neg_of_pos q (show (0 : Int) < 2 ^ k by omega); omega
    · have := Int.ediv_le_self (2 ^ k) (show 0 ≤ a by omega); have := ha.2; omega
  have h3 : -9223372036854775808 ≤ a / 2 ^ k := by
    rw [Int.le_ediv_iff_mul_le (by omega)]
    have h5 : (-9223372036854775808 : Int) * 2 ^ k ≤ -9223372036854775808 * 1 := Int.mul_le_mul_of_nonpos_left (by decide) hp
    have := ha.1
    omega
  rw [lZ_toInt ⟨h3, by omega⟩]
theorem lZ_shl (a : Int) {k : Nat} (hk : k < 64) : lZ a <<< ((iZ k).toInt64 &&& 63) = lZ (a * 2 ^ k) := by
  apply Int64.toBitVec_inj.mp
  show (lZ a).toBitVec <<< (((iZ k).toInt64 &&& 63).toBitVec.smod 64) = _
  rw [lZ_sh63 ⟨k, hk⟩]
  show (BitVec.ofInt 64 a) <<< (BitVec.ofNat 64 k) = BitVec.ofInt 64 (a * 2 ^ k)
  rw [BitVec.ofInt_mul, BitVec.shiftLeft_eq', BitVec.toNat_ofNat, Nat.mod_eq_of_lt (by omega), BitVec.shiftLeft_eq_mul_twoPow]
  congr 1
  apply BitVec.eq_of_toNat_eq
  rw [BitVec.toNat_twoPow, BitVec.toNat_ofInt]
  have : (2 ^ k : Int) = ((2 ^ k : Nat) : Int) := by simp
  rw [this]
  omega
theorem lZ_ushr {a : Int} (ha : lR a) (a0 : 0 ≤ a) {k : Nat} (hk : k < 64) : ((lZ a).toUInt64 >>> ((iZ k).toInt64.toUInt64 &&& Int64.toUInt64 63)).toInt64 = lZ (a / 2 ^ k) := by
  apply Int64.toBitVec_inj.mp
  show (lZ a).toBitVec >>> ((((iZ k).toInt64.toUInt64 &&& Int64.toUInt64 63).toBitVec % 64)) = BitVec.ofInt 64 (a / 2 ^ k)
  apply BitVec.eq_of_toNat_eq
  rw [BitVec.ushiftRight_eq', BitVec.toNat_ushiftRight, lZ_sh63u ⟨k, hk⟩]
  show (BitVec.ofInt 64 a).toNat >>> k = _
  rw [BitVec.toNat_ofInt, BitVec.toNat_ofInt, Nat.shiftRight_eq_div_pow]
  obtain ⟨n, rfl⟩ : ∃ n : Nat, a = n := ⟨a.toNat, by omega⟩
  have h1 : (2 ^ k : Int) = ((2 ^ k : Nat) : Int) := by simp
  have h3 := ha.2
  rw [h1]
  have h4 : 0 ≤ (n : Int) / ((2 ^ k : Nat) : Int) := Int.ediv_nonneg (Int.natCast_nonneg n) (Int.natCast_nonneg (2 ^ k))
  have h5 : (n : Int) / ((2 ^ k : Nat) : Int) ≤ n := Int.ediv_le_self _ (Int.natCast_nonneg n)
  rw [Int.emod_eq_of_lt (by omega) (by omega), Int.emod_eq_of_lt h4 (by omega), ← Int.natCast_ediv]
  rfl
