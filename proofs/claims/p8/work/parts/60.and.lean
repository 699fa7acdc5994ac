/-! A word on 63. -/
theorem z_and63 (v : Int32) : 0 ≤ (v &&& 63).toInt := by
  have h : (v &&& 63).toBitVec.toNat ≤ 63 := by
    rw [Int32.toBitVec_and, BitVec.toNat_and]
    exact Nat.and_le_right
  have h1 : (v &&& 63).toInt = (v &&& 63).toBitVec.toInt := rfl
  rw [h1, BitVec.toInt_eq_toNat_of_lt (by omega)]
  omega
