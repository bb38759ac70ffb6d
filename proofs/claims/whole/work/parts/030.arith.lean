/-! whole numbers for ints and longs: what the machine's numbers do, said of Int -/
theorem za_add (a b : Int) : Int32.ofInt a + Int32.ofInt b = Int32.ofInt (a + b) := Int32.toBitVec.inj (BitVec.ofInt_add a b).symm
theorem za_mul (a b : Int) : Int32.ofInt a * Int32.ofInt b = Int32.ofInt (a * b) := Int32.toBitVec.inj (BitVec.ofInt_mul a b).symm
theorem za_sub (a b : Int) : Int32.ofInt a - Int32.ofInt b = Int32.ofInt (a - b) := by
  have h : Int32.ofInt (a - b) + Int32.ofInt b = Int32.ofInt a := by rw [za_add, Int.sub_add_cancel]
  rw [← h]
  exact Int32.add_sub_cancel _ _
theorem za_ladd (a b : Int) : Int64.ofInt a + Int64.ofInt b = Int64.ofInt (a + b) := Int64.toBitVec.inj (BitVec.ofInt_add a b).symm
theorem za_lmul (a b : Int) : Int64.ofInt a * Int64.ofInt b = Int64.ofInt (a * b) := Int64.toBitVec.inj (BitVec.ofInt_mul a b).symm
/-- in the range of an int -/
def zr (a : Int) : Prop := -2147483648 ≤ a ∧ a < 2147483648
theorem za_to {a : Int} (h : zr a) : (Int32.ofInt a).toInt = a := Int32.toInt_ofInt_of_le h.1 h.2
theorem za_r (x : Int32) : zr x.toInt := ⟨x.le_toInt, x.toInt_lt⟩
theorem za_eq {a b : Int} (ha : zr a) (hb : zr b) : Int32.ofInt a = Int32.ofInt b ↔ a = b := ⟨fun h => by rw [← za_to ha, ← za_to hb, h], fun h => by rw [h]⟩
theorem za_lt {a b : Int} (ha : zr a) (hb : zr b) : Int32.ofInt a < Int32.ofInt b ↔ a < b := by rw [Int32.lt_iff_toInt_lt, za_to ha, za_to hb]
theorem za_le {a b : Int} (ha : zr a) (hb : zr b) : Int32.ofInt a ≤ Int32.ofInt b ↔ a ≤ b := by rw [Int32.le_iff_toInt_le, za_to ha, za_to hb]
theorem za_0 : Int32.ofInt 0 = 0 := rfl
theorem za_eq0 {a : Int} (ha : zr a) : Int32.ofInt a = 0 ↔ a = 0 := za_eq (b := 0) ha ⟨by decide, by decide⟩
theorem za_lt0 {a : Int} (ha : zr a) : Int32.ofInt a < 0 ↔ a < 0 := za_lt (b := 0) ha ⟨by decide, by decide⟩
theorem za_le0 {a : Int} (ha : zr a) : Int32.ofInt a ≤ 0 ↔ a ≤ 0 := za_le (b := 0) ha ⟨by decide, by decide⟩
theorem za_0lt {a : Int} (ha : zr a) : 0 < Int32.ofInt a ↔ 0 < a := za_lt (a := 0) ⟨by decide, by decide⟩ ha
theorem za_0le {a : Int} (ha : zr a) : 0 ≤ Int32.ofInt a ↔ 0 ≤ a := za_le (a := 0) ⟨by decide, by decide⟩ ha
theorem za_nat (n : Nat) : Int32.ofInt (n : Int) = nI n := Int32.ofInt_eq_ofNat
theorem za_lnat (n : Nat) : Int64.ofInt (n : Int) = lN n := Int64.ofInt_eq_ofNat
theorem za_cl {a : Int} (h0 : 0 ≤ a) (h : a < 2147483648) : (Int32.ofInt a).toNatClampNeg = a.toNat := Int32.toNatClampNeg_ofInt_of_le (by omega) h
theorem za_in {a : Int} {n : Nat} (h0 : 0 ≤ a) (h : a < n) (hn : n < 2147483648) : vp_in (Int32.ofInt a) n := by
  rw [vp_in_iff, za_to ⟨by omega, by omega⟩]
  exact ⟨h0, h⟩
theorem za_div {a b : Int} (h0 : 0 ≤ a) (h1 : a < 2147483648) (h2 : 0 < b) (h3 : b < 2147483648) : Int32.ofInt a / Int32.ofInt b = Int32.ofInt (a / b) := by
  obtain ⟨x, rfl⟩ := Int.eq_ofNat_of_zero_le h0
  obtain ⟨y, rfl⟩ := Int.eq_ofNat_of_zero_le (Int.le_of_lt h2)
  rw [za_nat, za_nat, ← Int.natCast_ediv, za_nat]
  exact pk_div (by omega) (by omega) (by omega)
theorem za_rem {a b : Int} (h0 : 0 ≤ a) (h1 : a < 2147483648) (h2 : 0 < b) (h3 : b < 2147483648) : Int32.ofInt a - Int32.ofInt a / Int32.ofInt b * Int32.ofInt b = Int32.ofInt (a % b) := by
  obtain ⟨x, rfl⟩ := Int.eq_ofNat_of_zero_le h0
  obtain ⟨y, rfl⟩ := Int.eq_ofNat_of_zero_le (Int.le_of_lt h2)
  rw [za_nat, za_nat, ← Int.natCast_emod, za_nat]
  exact pk_rem (by omega) (by omega) (by omega)
theorem za_lto {a : Int} (h : -9223372036854775808 ≤ a ∧ a < 9223372036854775808) : (Int64.ofInt a).toInt = a := Int64.toInt_ofInt_of_le h.1 h.2
theorem za_ldiv {a b : Int} (h0 : 0 ≤ a) (h1 : a < 9223372036854775808) (h2 : 0 < b) (h3 : b < 9223372036854775808) : Int64.ofInt a / Int64.ofInt b = Int64.ofInt (a / b) := by
  obtain ⟨x, rfl⟩ := Int.eq_ofNat_of_zero_le h0
  obtain ⟨y, rfl⟩ := Int.eq_ofNat_of_zero_le (Int.le_of_lt h2)
  rw [za_lnat, za_lnat, ← Int.natCast_ediv, za_lnat]
  exact pk_lDiv (by omega) (by omega) (by omega)
theorem za_lrem {a b : Int} (h0 : 0 ≤ a) (h1 : a < 9223372036854775808) (h2 : 0 < b) (h3 : b < 9223372036854775808) : Int64.ofInt a - Int64.ofInt a / Int64.ofInt b * Int64.ofInt b = Int64.ofInt (a % b) := by
  obtain ⟨x, rfl⟩ := Int.eq_ofNat_of_zero_le h0
  obtain ⟨y, rfl⟩ := Int.eq_ofNat_of_zero_le (Int.le_of_lt h2)
  rw [za_lnat, za_lnat, ← Int.natCast_emod, za_lnat]
  exact pk_lRem (by omega) (by omega) (by omega)
/-- bits of numbers that are not negative -/
def zand (a b : Int) : Int := ((a.toNat &&& b.toNat : Nat) : Int)
def zor (a b : Int) : Int := ((a.toNat ||| b.toNat : Nat) : Int)
def zxor (a b : Int) : Int := ((a.toNat ^^^ b.toNat : Nat) : Int)
theorem za_bv (n : Nat) : (Int32.ofInt (n : Int)).toBitVec = BitVec.ofNat 32 n := by rw [za_nat]; rfl
theorem za_lbv (n : Nat) : (Int64.ofInt (n : Int)).toBitVec = BitVec.ofNat 64 n := by rw [za_lnat]; rfl
theorem za_and {a b : Int} (ha : 0 ≤ a) (hb : 0 ≤ b) : Int32.ofInt a &&& Int32.ofInt b = Int32.ofInt (zand a b) := by
  obtain ⟨x, rfl⟩ := Int.eq_ofNat_of_zero_le ha
  obtain ⟨y, rfl⟩ := Int.eq_ofNat_of_zero_le hb
  apply Int32.toBitVec.inj
  rw [Int32.toBitVec_and, za_bv, za_bv, zand, za_bv]
  simp [BitVec.ofNat_and]
theorem za_or {a b : Int} (ha : 0 ≤ a) (hb : 0 ≤ b) : Int32.ofInt a ||| Int32.ofInt b = Int32.ofInt (zor a b) := by
  obtain ⟨x, rfl⟩ := Int.eq_ofNat_of_zero_le ha
  obtain ⟨y, rfl⟩ := Int.eq_ofNat_of_zero_le hb
  apply Int32.toBitVec.inj
  rw [Int32.toBitVec_or, za_bv, za_bv, zor, za_bv]
  simp [BitVec.ofNat_or]
theorem za_xor {a b : Int} (ha : 0 ≤ a) (hb : 0 ≤ b) : Int32.ofInt a ^^^ Int32.ofInt b = Int32.ofInt (zxor a b) := by
  obtain ⟨x, rfl⟩ := Int.eq_ofNat_of_zero_le ha
  obtain ⟨y, rfl⟩ := Int.eq_ofNat_of_zero_le hb
  apply Int32.toBitVec.inj
  rw [Int32.toBitVec_xor, za_bv, za_bv, zxor, za_bv]
  simp [BitVec.ofNat_xor]
theorem za_land {a b : Int} (ha : 0 ≤ a) (hb : 0 ≤ b) : Int64.ofInt a &&& Int64.ofInt b = Int64.ofInt (zand a b) := by
  obtain ⟨x, rfl⟩ := Int.eq_ofNat_of_zero_le ha
  obtain ⟨y, rfl⟩ := Int.eq_ofNat_of_zero_le hb
  apply Int64.toBitVec.inj
  rw [Int64.toBitVec_and, za_lbv, za_lbv, zand, za_lbv]
  simp [BitVec.ofNat_and]
theorem za_lor {a b : Int} (ha : 0 ≤ a) (hb : 0 ≤ b) : Int64.ofInt a ||| Int64.ofInt b = Int64.ofInt (zor a b) := by
  obtain ⟨x, rfl⟩ := Int.eq_ofNat_of_zero_le ha
  obtain ⟨y, rfl⟩ := Int.eq_ofNat_of_zero_le hb
  apply Int64.toBitVec.inj
  rw [Int64.toBitVec_or, za_lbv, za_lbv, zor, za_lbv]
  simp [BitVec.ofNat_or]
theorem zand_0 (a b : Int) : 0 ≤ zand a b := Int.natCast_nonneg _
theorem zor_0 (a b : Int) : 0 ≤ zor a b := Int.natCast_nonneg _
theorem zxor_0 (a b : Int) : 0 ≤ zxor a b := Int.natCast_nonneg _
theorem zand_1 {a : Int} (h : 0 ≤ a) : zand a 1 = a % 2 := by
  obtain ⟨x, rfl⟩ := Int.eq_ofNat_of_zero_le h
  simp [zand, Nat.and_one_is_mod]
/-- shifts -/
theorem za_c32 : ∀ k, k < 32 → ((nI k &&& 31).toBitVec.smod 32).toNat = k := by decide +kernel
theorem za_shl {a k : Int} (h0 : 0 ≤ k) (h : k < 32) : Int32.ofInt a <<< (Int32.ofInt k &&& 31) = Int32.ofInt (a * 2 ^ k.toNat) := by
  obtain ⟨x, rfl⟩ := Int.eq_ofNat_of_zero_le h0
  rw [za_nat]
  apply Int32.toBitVec.inj
  apply BitVec.eq_of_toNat_eq
  rw [pk_shl _ _ x (za_c32 x (by omega))]
  have e : Int32.ofInt (a * 2 ^ ((x : Int)).toNat) = Int32.ofInt a * Int32.ofInt ((2 ^ x : Nat) : Int) := by
    rw [za_mul]; simp
  rw [e, Int32.toBitVec_mul, BitVec.toNat_mul, za_bv, BitVec.toNat_ofNat, Nat.mul_mod_mod]
theorem za_shr {a k : Int} (ha : zr a) (h0 : 0 ≤ k) (h : k < 32) : Int32.ofInt a >>> (Int32.ofInt k &&& 31) = Int32.ofInt (a / 2 ^ k.toNat) := by
  obtain ⟨x, rfl⟩ := Int.eq_ofNat_of_zero_le h0
  rw [za_nat]
  apply Int32.toInt.inj
  rw [pk_shr _ _ x (za_c32 x (by omega)), za_to ha, Int.shiftRight_eq_div_pow, za_to]
  · simp
  · obtain ⟨h1, h2⟩ := ha
    have hp : (0 : Int) < 2 ^ x := Int.pow_pos (by decide)
    simp only [Int.toNat_natCast]
    refine ⟨?_, ?_⟩
    · rw [Int.le_ediv_iff_mul_le hp]
      have h3 : (1 : Int) ≤ 2 ^ x := by omega
      have : -2147483648 * (2 : Int) ^ x ≤ -2147483648 * 1 := Int.mul_le_mul_of_nonpos_left (by omega) h3
      omega
    · rcases Int.le_total 0 a with h | h
      · have := Int.ediv_le_self (2 ^ x) h
        omega
      · have := Int.ediv_nonpos_of_nonpos_of_neg h hp
        omega
theorem za_c64 : ∀ k, k < 64 → (((nI k).toInt64 &&& 63).toBitVec.smod 64) = BitVec.ofNat 64 k := by decide +kernel
theorem za_lshl {a k : Int} (h0 : 0 ≤ k) (h : k < 64) : Int64.ofInt a <<< ((Int32.ofInt k).toInt64 &&& 63) = Int64.ofInt (a * 2 ^ k.toNat) := by
  obtain ⟨x, rfl⟩ := Int.eq_ofNat_of_zero_le h0
  rw [za_nat]
  apply Int64.toBitVec.inj
  rw [Int64.toBitVec_shiftLeft, za_c64 x (by omega)]
  apply BitVec.eq_of_toNat_eq
  have e : Int64.ofInt (a * 2 ^ ((x : Int)).toNat) = Int64.ofInt a * Int64.ofInt ((2 ^ x : Nat) : Int) := by
    rw [za_lmul]; simp
  have hx : x % 2 ^ 64 = x := Nat.mod_eq_of_lt (by omega)
  rw [e, Int64.toBitVec_mul, BitVec.toNat_mul, za_lbv, BitVec.toNat_ofNat, Nat.mul_mod_mod, BitVec.shiftLeft_eq', BitVec.toNat_shiftLeft, BitVec.toNat_ofNat, hx, Nat.shiftLeft_eq]
theorem za_lshr {a k : Int} (ha : -9223372036854775808 ≤ a ∧ a < 9223372036854775808) (h0 : 0 ≤ k) (h : k < 64) : Int64.ofInt a >>> ((Int32.ofInt k).toInt64 &&& 63) = Int64.ofInt (a / 2 ^ k.toNat) := by
  obtain ⟨x, rfl⟩ := Int.eq_ofNat_of_zero_le h0
  rw [za_nat]
  apply Int64.toInt.inj
  have hx : x % 2 ^ 64 = x := Nat.mod_eq_of_lt (by omega)
  rw [← Int64.toInt_toBitVec, Int64.toBitVec_shiftRight, za_c64 x (by omega), BitVec.sshiftRight', BitVec.toInt_sshiftRight, BitVec.toNat_ofNat, hx, Int64.toInt_toBitVec, za_lto ha, Int.shiftRight_eq_div_pow, za_lto]
  · simp
  · obtain ⟨h1, h2⟩ := ha
    have hp : (0 : Int) < 2 ^ x := Int.pow_pos (by decide)
    simp only [Int.toNat_natCast]
    refine ⟨?_, ?_⟩
    · rw [Int.le_ediv_iff_mul_le hp]
      have h3 : (1 : Int) ≤ 2 ^ x := by omega
      have : -9223372036854775808 * (2 : Int) ^ x ≤ -9223372036854775808 * 1 := Int.mul_le_mul_of_nonpos_left (by omega) h3
      omega
    · rcases Int.le_total 0 a with h | h
      · have := Int.ediv_le_self (2 ^ x) h
        omega
      · have := Int.ediv_nonpos_of_nonpos_of_neg h hp
        omega
/-- the lowest four bits of any long -/
theorem za_l15 (a : Int) : Int64.ofInt a &&& 15 = Int64.ofInt (a % 16) := by
  have h : Int64.ofInt a = Int64.ofInt (a % 18446744073709551616) := by
    apply Int64.toBitVec.inj
    rw [Int64.toBitVec_ofInt, Int64.toBitVec_ofInt]
    apply BitVec.eq_of_toNat_eq
    rw [BitVec.toNat_ofInt, BitVec.toNat_ofInt]
    simp
  have hb := Int.emod_nonneg a (show (18446744073709551616 : Int) ≠ 0 by decide)
  rw [h, show (15 : Int64) = Int64.ofInt 15 from rfl, za_land hb (by decide)]
  obtain ⟨x, hx⟩ := Int.eq_ofNat_of_zero_le hb
  have e : a % 16 = (a % 18446744073709551616) % 16 := by omega
  rw [e, hx]
  congr 1
  have h15 : ((15 : Int).toNat) = 2 ^ 4 - 1 := rfl
  rw [zand, Int.toNat_natCast, h15, Nat.and_two_pow_sub_one_eq_mod]
  rfl
theorem za_i2l {a : Int} (h : zr a) : (Int32.ofInt a).toInt64 = Int64.ofInt a := Int32.toInt64_ofInt h.1 (by have := h.2; show a ≤ 2147483647; omega)
theorem za_l2i (a : Int) : (Int64.ofInt a).toInt32 = Int32.ofInt a := Int64.toInt32_ofInt
theorem za_i2b {a : Int} (h0 : -128 ≤ a) (h : a < 128) : (Int32.ofInt a).toInt8.toInt32 = Int32.ofInt a := by
  rw [Int32.toInt8_ofInt]
  exact Int8.toInt32_ofInt h0 (by show a ≤ 127; omega)
theorem za_bast {a : Int} (h0 : -128 ≤ a) (h : a < 128) : vp_nar .byte (Int32.ofInt a) = Int32.ofInt a := by rw [vp_nar_byte, za_i2b h0 h]
/-- longs that are the same -/
theorem za_leq {a b : Int} (ha : 0 ≤ a) (hb : 0 ≤ b) (ha' : a < 18446744073709551616) (hb' : b < 18446744073709551616) : Int64.ofInt a = Int64.ofInt b ↔ a = b := by
  refine ⟨fun h => ?_, fun h => by rw [h]⟩
  have h1 := congrArg (fun z => z.toBitVec.toNat) h
  simp only [Int64.toBitVec_ofInt, BitVec.toNat_ofInt] at h1
  omega
