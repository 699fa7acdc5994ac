/-! Numbers: sums, differences, products that stay within an int. -/
theorem e_rng (x : Int32) : -2147483648 ≤ x.toInt ∧ x.toInt ≤ 2147483647 := by
  have h1 := Int32.le_toInt x
  have h2 := Int32.toInt_lt x
  omega
theorem e_add {a b : Int32} (h1 : -2147483648 ≤ a.toInt + b.toInt) (h2 : a.toInt + b.toInt ≤ 2147483647) : (a + b).toInt = a.toInt + b.toInt := by
  rw [Int32.toInt_add, Int.bmod_eq_of_le (by omega) (by omega)]
theorem e_sub {a b : Int32} (h1 : -2147483648 ≤ a.toInt - b.toInt) (h2 : a.toInt - b.toInt ≤ 2147483647) : (a - b).toInt = a.toInt - b.toInt := by
  rw [Int32.toInt_sub, Int.bmod_eq_of_le (by omega) (by omega)]
theorem e_mul {a b : Int32} (h1 : -2147483648 ≤ a.toInt * b.toInt) (h2 : a.toInt * b.toInt ≤ 2147483647) : (a * b).toInt = a.toInt * b.toInt := by
  rw [Int32.toInt_mul]
  generalize a.toInt * b.toInt = z at h1 h2 ⊢
  rw [Int.bmod_eq_of_le (by omega) (by omega)]
theorem e_mulr {a c : Int32} {C : Int} (hc : c.toInt = C) (h1 : -2147483648 ≤ a.toInt * C) (h2 : a.toInt * C ≤ 2147483647) : (a * c).toInt = a.toInt * C := by
  subst hc
  exact e_mul h1 h2
theorem e_mull {a c : Int32} {C : Int} (hc : c.toInt = C) (h1 : -2147483648 ≤ C * a.toInt) (h2 : C * a.toInt ≤ 2147483647) : (c * a).toInt = C * a.toInt := by
  subst hc
  exact e_mul h1 h2
theorem e_neg {a : Int32} (h : -2147483648 < a.toInt) : (-a).toInt = -a.toInt := by
  have h2 := (e_rng a).2
  rw [Int32.toInt_neg, Int.bmod_eq_of_le (by omega) (by omega)]
/-- a number from 0 on is a count -/
theorem e_nI {x : Int32} (h : 0 ≤ x.toInt) : x = nI x.toInt.toNat := Int32.toInt_inj.mp (by
  have h2 := (e_rng x).2
  rw [nI_toInt (by omega)]
  omega)
theorem e_nmul (a b : Nat) : nI a * nI b = nI (a * b) := by
  show Int32.ofNat a * Int32.ofNat b = Int32.ofNat (a * b)
  rw [Int32.ofNat_mul]
