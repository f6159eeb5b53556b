/-! ===== numbers: every int is iI of an Int ===== -/
def iI (z : Int) : Int32 := Int32.ofInt z
def lI (z : Int) : Int64 := Int64.ofInt z
abbrev vi (z : Int) : Value := .int (iI z)
abbrev vl (z : Int) : Value := .long (lI z)
abbrev inR (z : Int) : Prop := -2147483648 ≤ z ∧ z ≤ 2147483647
abbrev inL (z : Int) : Prop := -9223372036854775808 ≤ z ∧ z ≤ 9223372036854775807
theorem iI_toInt {z : Int} (h : inR z) : (iI z).toInt = z := Int32.toInt_ofInt_of_le (by omega) (by omega)
theorem lI_toInt {z : Int} (h : inL z) : (lI z).toInt = z := Int64.toInt_ofInt_of_le (by omega) (by omega)
theorem iI_of (x : Int32) : iI x.toInt = x := Int32.ofInt_toInt x
theorem iI_add (a b : Int) : iI a + iI b = iI (a + b) := (Int32.ofInt_add a b).symm
theorem iI_sub (a b : Int) : iI a - iI b = iI (a - b) := (Int32.ofInt_sub a b).symm
theorem iI_mul (a b : Int) : iI a * iI b = iI (a * b) := (Int32.ofInt_mul a b).symm
theorem iI_neg (a : Int) : - iI a = iI (-a) := (Int32.ofInt_neg a).symm
theorem lI_add (a b : Int) : lI a + lI b = lI (a + b) := (Int64.ofInt_add a b).symm
theorem lI_sub (a b : Int) : lI a - lI b = lI (a - b) := (Int64.ofInt_sub a b).symm
theorem lI_mul (a b : Int) : lI a * lI b = lI (a * b) := (Int64.ofInt_mul a b).symm
theorem iI_lt {a b : Int} (ha : inR a) (hb : inR b) : iI a < iI b ↔ a < b := by rw [Int32.lt_iff_toInt_lt, iI_toInt ha, iI_toInt hb]
theorem iI_le {a b : Int} (ha : inR a) (hb : inR b) : iI a ≤ iI b ↔ a ≤ b := by rw [Int32.le_iff_toInt_le, iI_toInt ha, iI_toInt hb]
theorem iI_eq {a b : Int} (ha : inR a) (hb : inR b) : iI a = iI b ↔ a = b := by rw [← Int32.toInt_inj, iI_toInt ha, iI_toInt hb]
theorem iI_0 : (0 : Int32) = iI 0 := rfl
theorem lI_lt {a b : Int} (ha : inL a) (hb : inL b) : lI a < lI b ↔ a < b := by rw [Int64.lt_iff_toInt_lt, lI_toInt ha, lI_toInt hb]
theorem lI_eq {a b : Int} (ha : inL a) (hb : inL b) : lI a = lI b ↔ a = b := by rw [← Int64.toInt_inj, lI_toInt ha, lI_toInt hb]
theorem iI_cl {z : Int} (h : inR z) : (iI z).toNatClampNeg = z.toNat := Int32.toNatClampNeg_ofInt_of_le (by omega) (by omega)
theorem iI_in {z : Int} {n : Nat} (h0 : 0 ≤ z) (h1 : z < n) (hn : n ≤ 1000) : vp_in (iI z) n := vp_in_iff.mpr (by rw [iI_toInt (by omega)]; omega)
theorem iI_l {z : Int} (h : inR z) : (iI z).toInt64 = lI z := by
  apply Int64.toInt_inj.mp
  rw [Int32.toInt_toInt64, iI_toInt h, lI_toInt (by omega)]
theorem iI_b (z : Int) (h : inR z) : (iI z).toInt8.toInt32 = iI (z.bmod 256) := by
  apply Int32.toInt_inj.mp
  rw [Int8.toInt_toInt32, Int32.toInt_toInt8, iI_toInt h, iI_toInt]
  have h1 := Int.le_bmod (x := z) (m := 256) (by decide)
  have h2 := Int.bmod_lt (x := z) (m := 256) (by decide)
  omega
theorem iI_s (z : Int) (h : inR z) : (iI z).toInt16.toInt32 = iI (z.bmod 65536) := by
  apply Int32.toInt_inj.mp
  rw [Int16.toInt_toInt32, Int32.toInt_toInt16, iI_toInt h, iI_toInt]
  have h1 := Int.le_bmod (x := z) (m := 65536) (by decide)
  have h2 := Int.bmod_lt (x := z) (m := 65536) (by decide)
  omega
theorem iI_div {a b : Int} (ha : 0 ≤ a ∧ a ≤ 2147483647) (hb : 0 < b ∧ b ≤ 2147483647) : iI a / iI b = iI (a / b) := by
  apply Int32.toInt_inj.mp
  have e : (iI a / iI b).toInt = (iI a).toInt.tdiv (iI b).toInt := Int32.toInt_div_of_ne_left _ _ (fun h => by
    have h2 := congrArg Int32.toInt h
    rw [iI_toInt (by omega)] at h2
    have h3 : (Int32.minValue).toInt = -2147483648 := by decide
    omega)
  have h1 : a / b ≤ a := Int.ediv_le_self _ ha.1
  have h2 : 0 ≤ a / b := Int.ediv_nonneg ha.1 (by omega)
  rw [e, iI_toInt (by omega), iI_toInt (by omega), iI_toInt (by omega), Int.tdiv_eq_ediv_of_nonneg ha.1]
theorem iI_rem {a b : Int} (ha : 0 ≤ a ∧ a ≤ 2147483647) (hb : 0 < b ∧ b ≤ 2147483647) : iI a - iI a / iI b * iI b = iI (a % b) := by
  rw [iI_div ha hb, iI_mul, iI_sub]
  congr 1
  have h := Int.emod_add_mul_ediv a b
  rw [Int.mul_comm] at h
  omega
theorem lI_div {a b : Int} (ha : 0 ≤ a ∧ a ≤ 2147483647) (hb : 0 < b ∧ b ≤ 2147483647) : lI a / lI b = lI (a / b) := by
  apply Int64.toInt_inj.mp
  have e : (lI a / lI b).toInt = (lI a).toInt.tdiv (lI b).toInt := Int64.toInt_div_of_ne_left _ _ (fun h => by
    have h2 := congrArg Int64.toInt h
    rw [lI_toInt (by omega)] at h2
    have h3 : (Int64.minValue).toInt = -9223372036854775808 := by decide
    omega)
  have h1 : a / b ≤ a := Int.ediv_le_self _ ha.1
  have h2 : 0 ≤ a / b := Int.ediv_nonneg ha.1 (by omega)
  rw [e, lI_toInt (by omega), lI_toInt (by omega), lI_toInt (by omega), Int.tdiv_eq_ediv_of_nonneg ha.1]
theorem lI_rem {a b : Int} (ha : 0 ≤ a ∧ a ≤ 2147483647) (hb : 0 < b ∧ b ≤ 2147483647) : lI a - lI a / lI b * lI b = lI (a % b) := by
  rw [lI_div ha hb, lI_mul, lI_sub]
  congr 1
  have h := Int.emod_add_mul_ediv a b
  rw [Int.mul_comm] at h
  omega
theorem lI_cmp {a b : Int} (ha : inL a) (hb : inL b) : lg_cmp (lI a) (lI b) = iI (if b < a then 1 else if a = b then 0 else -1) := by
  unfold lg_cmp
  have h1 : lI a > lI b ↔ b < a := lI_lt hb ha
  have h2 := lI_eq ha hb
  by_cases c1 : b < a
  · rw [if_pos (h1.mpr c1), if_pos c1]; rfl
  · rw [if_neg (fun q => c1 (h1.mp q)), if_neg c1]
    by_cases c2 : a = b
    · rw [if_pos (h2.mpr c2), if_pos c2]; rfl
    · rw [if_neg (fun q => c2 (h2.mp q)), if_neg c2]; rfl
theorem iI_bits {a : Int} (h : 0 ≤ a ∧ a ≤ 2147483647) : (iI a).toBitVec = BitVec.ofNat 32 a.toNat := by
  have e : a = (a.toNat : Int) := by omega
  unfold iI
  rw [Int32.toBitVec_ofInt, e, BitVec.ofInt_natCast]
  rfl
theorem iI_ofNat (n : Nat) : iI (n : Int) = Int32.ofBitVec (BitVec.ofNat 32 n) := by
  unfold iI Int32.ofInt
  rw [BitVec.ofInt_natCast]
  rfl
def ior (a b : Int) : Int := ((a.toNat ||| b.toNat : Nat) : Int)
def iand (a b : Int) : Int := ((a.toNat &&& b.toNat : Nat) : Int)
def ixor (a b : Int) : Int := ((a.toNat ^^^ b.toNat : Nat) : Int)
theorem iI_or {a b : Int} (ha : 0 ≤ a ∧ a ≤ 2147483647) (hb : 0 ≤ b ∧ b ≤ 2147483647) : iI a ||| iI b = iI (ior a b) := by
  apply Int32.toBitVec_inj.mp
  rw [Int32.toBitVec_or, iI_bits ha, iI_bits hb, ior, iI_ofNat]
  exact (BitVec.ofNat_or ..).symm
theorem iI_and {a b : Int} (ha : 0 ≤ a ∧ a ≤ 2147483647) (hb : 0 ≤ b ∧ b ≤ 2147483647) : iI a &&& iI b = iI (iand a b) := by
  apply Int32.toBitVec_inj.mp
  rw [Int32.toBitVec_and, iI_bits ha, iI_bits hb, iand, iI_ofNat]
  exact (BitVec.ofNat_and ..).symm
theorem iI_xor {a b : Int} (ha : 0 ≤ a ∧ a ≤ 2147483647) (hb : 0 ≤ b ∧ b ≤ 2147483647) : iI a ^^^ iI b = iI (ixor a b) := by
  apply Int32.toBitVec_inj.mp
  rw [Int32.toBitVec_xor, iI_bits ha, iI_bits hb, ixor, iI_ofNat]
  exact (BitVec.ofNat_xor ..).symm
theorem iI_nat {a : Int} (h : 0 ≤ a) : iI a = nI a.toNat := by
  have e : a = (a.toNat : Int) := by omega
  rw [e, iI_ofNat]
  rfl
theorem iI_sc : ∀ k : Nat, k < 32 → ((nI k &&& 31).toBitVec.smod 32).toNat = k := by decide +kernel
theorem iI_shl1 {k : Int} (hk : 0 ≤ k ∧ k ≤ 30) : iI 1 <<< (iI k &&& 31) = iI (2 ^ k.toNat) := by
  obtain ⟨n, hn, e⟩ : ∃ n : Nat, n ≤ 30 ∧ k = (n : Int) := ⟨k.toNat, by omega, by omega⟩
  subst e
  have key : ∀ n : Nat, n < 31 → nI 1 <<< (nI n &&& 31) = nI (2 ^ n) := by decide +kernel
  have h2 := key n (by omega)
  rw [iI_nat (by omega), iI_nat (by omega)]
  have e2 : ((n : Int)).toNat = n := by omega
  rw [e2]
  have e3 : iI (2 ^ n) = nI (2 ^ n) := by
    have e4 : (2 : Int) ^ n = ((2 ^ n : Nat) : Int) := by simp
    rw [e4, iI_ofNat]
    rfl
  rw [e3]
  exact h2
theorem iI_shr {a k : Int} (ha : 0 ≤ a ∧ a ≤ 2147483647) (hk : 0 ≤ k ∧ k ≤ 31) : iI a >>> (iI k &&& 31) = iI ((a.toNat / 2 ^ k.toNat : Nat) : Int) := by
  rw [iI_nat ha.1, iI_nat hk.1]
  have h := pk_shrN (n := a.toNat) (by omega) (nI k.toNat &&& 31) k.toNat (iI_sc _ (by omega))
  rw [h, iI_ofNat]
  rfl
