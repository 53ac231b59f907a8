/-! ints: iI z, the int of an integer -/
def iI (z : Int) : Int32 := Int32.ofInt z
theorem iI_nI (n : Nat) : Int32.ofNat n = iI (n : Int) := Int32.ofInt_eq_ofNat.symm
theorem iI_self (x : Int32) : iI x.toInt = x := Int32.ofInt_toInt x
theorem iI_toInt {z : Int} (h1 : -2147483648 ≤ z) (h2 : z < 2147483648) : (iI z).toInt = z := Int32.toInt_ofInt_of_le h1 h2
theorem iI_add (a b : Int) : iI a + iI b = iI (a + b) := (Int32.ofInt_add a b).symm
theorem iI_sub (a b : Int) : iI a - iI b = iI (a - b) := (Int32.ofInt_sub a b).symm
theorem iI_mul (a b : Int) : iI a * iI b = iI (a * b) := (Int32.ofInt_mul a b).symm
theorem iI_neg (a : Int) : - iI a = iI (-a) := Int32.neg_ofInt
theorem iI_lt {a b : Int} (h1 : -2147483648 ≤ a) (h2 : a < 2147483648) (h3 : -2147483648 ≤ b) (h4 : b < 2147483648) : iI a < iI b ↔ a < b := by
  rw [Int32.lt_iff_toInt_lt, iI_toInt h1 h2, iI_toInt h3 h4]
theorem iI_le {a b : Int} (h1 : -2147483648 ≤ a) (h2 : a < 2147483648) (h3 : -2147483648 ≤ b) (h4 : b < 2147483648) : iI a ≤ iI b ↔ a ≤ b := by
  rw [Int32.le_iff_toInt_le, iI_toInt h1 h2, iI_toInt h3 h4]
theorem iI_inj {a b : Int} (h1 : -2147483648 ≤ a) (h2 : a < 2147483648) (h3 : -2147483648 ≤ b) (h4 : b < 2147483648) : iI a = iI b ↔ a = b := by
  rw [← Int32.toInt_inj, iI_toInt h1 h2, iI_toInt h3 h4]
theorem iI_of (x : Int32) : ∃ z : Int, x = iI z ∧ -2147483648 ≤ z ∧ z < 2147483648 := ⟨x.toInt, (iI_self x).symm, x.le_toInt, x.toInt_lt⟩
theorem iI_clamp {z : Int} {j : Nat} (h : z = (j : Int)) (h2 : j < 2147483648) : (iI z).toNatClampNeg = j := by
  subst h
  show (Int32.ofInt (j : Int)).toNatClampNeg = j
  rw [Int32.ofInt_eq_ofNat, Int32.toNatClampNeg_ofNat_of_lt h2]
theorem iI_in {z : Int} {j n : Nat} (h : z = (j : Int)) (h1 : j < n) (h2 : n ≤ 2147483648) : vp_in (iI z) n := by
  rintro (h3 | h3)
  · rw [show (0 : Int32) = iI 0 from rfl, iI_lt (by omega) (by omega) (by omega) (by omega)] at h3
    omega
  · rw [iI_clamp h (by omega)] at h3
    omega
theorem iI_0 : (0 : Int32) = iI 0 := rfl
theorem iI_i16 {z : Int} (h1 : -32768 ≤ z) (h2 : z < 32768) : (iI z).toInt16.toInt32 = iI z := by
  show (Int32.ofInt z).toInt16.toInt32 = Int32.ofInt z
  rw [Int32.toInt16_ofInt]
  apply Int32.toInt_inj.mp
  rw [Int16.toInt_toInt32, Int16.toInt_ofInt_of_le h1 h2, Int32.toInt_ofInt_of_le (by omega) (by omega)]
