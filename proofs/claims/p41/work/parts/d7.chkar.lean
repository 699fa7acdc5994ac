/-! Ranges of the operations on ints. -/
theorem e_rng (x : Int32) : eMn ≤ x.toInt ∧ x.toInt ≤ eMx := by
  have h1 := Int32.le_toInt x
  have h2 := Int32.toInt_lt x
  unfold eMn eMx
  omega
theorem e_add {a b : Int32} (h1 : eMn ≤ a.toInt + b.toInt) (h2 : a.toInt + b.toInt ≤ eMx) : (a + b).toInt = a.toInt + b.toInt := by
  unfold eMn at h1
  unfold eMx at h2
  rw [Int32.toInt_add, Int.bmod_eq_of_le (by omega) (by omega)]
theorem e_sub {a b : Int32} (h1 : eMn ≤ a.toInt - b.toInt) (h2 : a.toInt - b.toInt ≤ eMx) : (a - b).toInt = a.toInt - b.toInt := by
  unfold eMn at h1
  unfold eMx at h2
  rw [Int32.toInt_sub, Int.bmod_eq_of_le (by omega) (by omega)]
theorem e_mul {a b : Int32} (h1 : eMn ≤ a.toInt * b.toInt) (h2 : a.toInt * b.toInt ≤ eMx) : (a * b).toInt = a.toInt * b.toInt := by
  unfold eMn at h1
  unfold eMx at h2
  rw [Int32.toInt_mul]
  generalize a.toInt * b.toInt = z at h1 h2 ⊢
  rw [Int.bmod_eq_of_le (by omega) (by omega)]
theorem e_neg {a : Int32} (h : eMn < a.toInt) : (-a).toInt = -a.toInt := by
  have h2 := (e_rng a).2
  unfold eMn at h
  unfold eMx at h2
  rw [Int32.toInt_neg, Int.bmod_eq_of_le (by omega) (by omega)]
theorem e_nat {y : Int32} (h : 0 ≤ y.toInt) : y.toInt = (y.toBitVec.toNat : Int) ∧ y.toBitVec.toNat < 2147483648 := by
  have h1 : y.toInt = y.toBitVec.toInt := rfl
  have h3 := y.toBitVec.isLt
  rw [h1, BitVec.toInt_eq_toNat_cond] at h ⊢
  split at h <;> rename_i hc
  · rw [if_pos hc]
    exact ⟨rfl, by omega⟩
  · omega
theorem e_ofn {y : Int32} (h : y.toBitVec.toNat < 2147483648) : y.toInt = (y.toBitVec.toNat : Int) := by
  have h1 : y.toInt = y.toBitVec.toInt := rfl
  rw [h1, BitVec.toInt_eq_toNat_of_lt (by omega)]
theorem e_andr {x y : Int32} (h : 0 ≤ y.toInt) : 0 ≤ (x &&& y).toInt ∧ (x &&& y).toInt ≤ y.toInt := by
  obtain ⟨h1, h2⟩ := e_nat h
  have h3 : (x &&& y).toBitVec.toNat ≤ y.toBitVec.toNat := by
    rw [Int32.toBitVec_and, BitVec.toNat_and]
    exact Nat.and_le_right
  rw [e_ofn (y := x &&& y) (by omega)]
  omega
theorem e_andl {x y : Int32} (h : 0 ≤ x.toInt) : 0 ≤ (x &&& y).toInt ∧ (x &&& y).toInt ≤ x.toInt := by
  obtain ⟨h1, h2⟩ := e_nat h
  have h3 : (x &&& y).toBitVec.toNat ≤ x.toBitVec.toNat := by
    rw [Int32.toBitVec_and, BitVec.toNat_and]
    exact Nat.and_le_left
  rw [e_ofn (y := x &&& y) (by omega)]
  omega
theorem e_or {x y : Int32} (h1 : 0 ≤ x.toInt) (h2 : 0 ≤ y.toInt) (h3 : x.toInt ≤ 255) (h4 : y.toInt ≤ 255) : 0 ≤ (x ||| y).toInt ∧ (x ||| y).toInt ≤ 255 := by
  obtain ⟨a1, a2⟩ := e_nat h1
  obtain ⟨b1, b2⟩ := e_nat h2
  have h5 : (x ||| y).toBitVec.toNat < 2 ^ 8 := by
    rw [Int32.toBitVec_or, BitVec.toNat_or]
    exact Nat.or_lt_two_pow (by omega) (by omega)
  rw [e_ofn (y := x ||| y) (by omega)]
  omega
theorem e_shl {x y : Int32} (h : x.toInt = 1) (h1 : 0 ≤ y.toInt) (h2 : y.toInt ≤ 8) : 1 ≤ (x <<< (y &&& 31)).toInt ∧ (x <<< (y &&& 31)).toInt ≤ 256 := by
  have hx : x = 1 := Int32.toInt_inj.mp h
  subst hx
  have hy : y = 0 ∨ y = 1 ∨ y = 2 ∨ y = 3 ∨ y = 4 ∨ y = 5 ∨ y = 6 ∨ y = 7 ∨ y = 8 := by
    rcases (show y.toInt = 0 ∨ y.toInt = 1 ∨ y.toInt = 2 ∨ y.toInt = 3 ∨ y.toInt = 4 ∨ y.toInt = 5 ∨ y.toInt = 6 ∨ y.toInt = 7 ∨ y.toInt = 8 by omega) with q | q | q | q | q | q | q | q | q
    · exact Or.inl (Int32.toInt_inj.mp q)
    · exact Or.inr (Or.inl (Int32.toInt_inj.mp q))
    · exact Or.inr (Or.inr (Or.inl (Int32.toInt_inj.mp q)))
    · exact Or.inr (Or.inr (Or.inr (Or.inl (Int32.toInt_inj.mp q))))
    · exact Or.inr (Or.inr (Or.inr (Or.inr (Or.inl (Int32.toInt_inj.mp q)))))
    · exact Or.inr (Or.inr (Or.inr (Or.inr (Or.inr (Or.inl (Int32.toInt_inj.mp q))))))
    · exact Or.inr (Or.inr (Or.inr (Or.inr (Or.inr (Or.inr (Or.inl (Int32.toInt_inj.mp q)))))))
    · exact Or.inr (Or.inr (Or.inr (Or.inr (Or.inr (Or.inr (Or.inr (Or.inl (Int32.toInt_inj.mp q))))))))
    · exact Or.inr (Or.inr (Or.inr (Or.inr (Or.inr (Or.inr (Or.inr (Or.inr (Int32.toInt_inj.mp q))))))))
  rcases hy with rfl | rfl | rfl | rfl | rfl | rfl | rfl | rfl | rfl <;> decide
theorem e_shr {x y : Int32} (h : 0 ≤ x.toInt) : 0 ≤ (x >>> (y &&& 31)).toInt ∧ (x >>> (y &&& 31)).toInt ≤ x.toInt := by
  have h1 : (x >>> (y &&& 31)).toInt = x.toInt >>> (((y &&& 31).toBitVec.smod 32).toNat) := by
    show (x >>> (y &&& 31)).toBitVec.toInt = _
    rw [Int32.toBitVec_shiftRight, BitVec.toInt_sshiftRight']
    (try rfl)
  rw [h1, Int.shiftRight_eq_div_pow]
  exact ⟨Int.ediv_nonneg h (Int.natCast_nonneg _), Int.ediv_le_self _ h⟩
theorem e_tdiv {a b : Int} (hb : 1 ≤ b) : min a 0 ≤ a.tdiv b ∧ a.tdiv b ≤ max a 0 := by
  rcases Int.le_total 0 a with h | h
  · rw [Int.tdiv_eq_ediv_of_nonneg h]
    have h1 := Int.ediv_nonneg h (show 0 ≤ b by omega)
    have h2 := Int.ediv_le_self b h
    omega
  · have h0 : 0 ≤ -a := by omega
    have e : a.tdiv b = -((-a) / b) := by
      rw [← Int.tdiv_eq_ediv_of_nonneg h0, Int.neg_tdiv, Int.neg_neg]
    have h1 := Int.ediv_nonneg h0 (show 0 ≤ b by omega)
    have h2 := Int.ediv_le_self b h0
    rw [e]
    omega
theorem e_div {x y : Int32} (hy : 1 ≤ y.toInt) : (x / y).toInt = x.toInt.tdiv y.toInt := Int32.toInt_div_of_ne_right x y (fun q => by rw [q] at hy; revert hy; decide)
theorem e_eml {a b : Int} (h : 0 ≤ a) (hb : 1 ≤ b) : a % b ≤ a := by
  rw [Int.emod_def]
  have := Int.mul_nonneg (show 0 ≤ b by omega) (Int.ediv_nonneg h (show 0 ≤ b by omega))
  omega
theorem e_rem {x y : Int32} (hy : 1 ≤ y.toInt) : (x - x / y * y).toInt = x.toInt.tmod y.toInt := by
  have h1 := e_div (x := x) hy
  have h2 := Int.tdiv_mul_add_tmod x.toInt y.toInt
  have hx := e_rng x
  have hr : (0 ≤ x.toInt → 0 ≤ x.toInt.tmod y.toInt ∧ x.toInt.tmod y.toInt ≤ x.toInt) ∧ (x.toInt ≤ 0 → x.toInt.tmod y.toInt ≤ 0 ∧ x.toInt ≤ x.toInt.tmod y.toInt) := by
    constructor
    · intro h
      rw [Int.tmod_eq_emod_of_nonneg h]
      exact ⟨Int.emod_nonneg _ (by omega), e_eml h hy⟩
    · intro h
      have h0 : 0 ≤ -x.toInt := by omega
      have e : x.toInt.tmod y.toInt = -((-x.toInt) % y.toInt) := by
        rw [← Int.tmod_eq_emod_of_nonneg h0, Int.neg_tmod, Int.neg_neg]
      have a1 := Int.emod_nonneg (-x.toInt) (show y.toInt ≠ 0 by omega)
      have a2 := e_eml h0 hy
      rw [e]
      omega
  have h3 : (x / y * y).toInt = x.toInt.tdiv y.toInt * y.toInt := by
    rw [← h1]
    refine e_mul ?_ ?_
    · rw [h1]; rcases Int.le_total 0 x.toInt with q | q
      · have := hr.1 q; unfold eMn at hx ⊢; omega
      · have := hr.2 q; unfold eMn at hx ⊢; omega
    · rw [h1]; rcases Int.le_total 0 x.toInt with q | q
      · have := hr.1 q; unfold eMx at hx ⊢; omega
      · have := hr.2 q; unfold eMx at hx ⊢; omega
  have h4 : x.toInt - (x / y * y).toInt = x.toInt.tmod y.toInt := by rw [h3]; omega
  rw [e_sub ?_ ?_, h4]
  · rw [h4]; rcases Int.le_total 0 x.toInt with q | q
    · have := hr.1 q; unfold eMn at hx ⊢; omega
    · have := hr.2 q; unfold eMn at hx ⊢; omega
  · rw [h4]; rcases Int.le_total 0 x.toInt with q | q
    · have := hr.1 q; unfold eMx at hx ⊢; omega
    · have := hr.2 q; unfold eMx at hx ⊢; omega
theorem e_tmod {a b : Int} (hb : 1 ≤ b) : 1 - b ≤ a.tmod b ∧ a.tmod b ≤ b - 1 ∧ (0 ≤ a → 0 ≤ a.tmod b) := by
  rcases Int.le_total 0 a with h | h
  · rw [Int.tmod_eq_emod_of_nonneg h]
    have h1 := Int.emod_nonneg a (show b ≠ 0 by omega)
    have h2 := Int.emod_lt_of_pos a (show 0 < b by omega)
    omega
  · have h0 : 0 ≤ -a := by omega
    have e : a.tmod b = -((-a) % b) := by
      rw [← Int.tmod_eq_emod_of_nonneg h0, Int.neg_tmod, Int.neg_neg]
    have h1 := Int.emod_nonneg (-a) (show b ≠ 0 by omega)
    have h2 := Int.emod_lt_of_pos (-a) (show 0 < b by omega)
    rw [e]
    refine ⟨by omega, by omega, fun q => ?_⟩
    have : a = 0 := by omega
    subst this
    simp
/-- a product within the four corners -/
theorem e_mulr {a b : Int} {x y : Int × Int} (h1 : x.1 ≤ a) (h2 : a ≤ x.2) (h3 : y.1 ≤ b) (h4 : b ≤ y.2) : eMin4 (x.1 * y.1) (x.1 * y.2) (x.2 * y.1) (x.2 * y.2) ≤ a * b ∧ a * b ≤ eMax4 (x.1 * y.1) (x.1 * y.2) (x.2 * y.1) (x.2 * y.2) := by
  have k : ∀ (u : Int), (min (u * y.1) (u * y.2) ≤ u * b ∧ u * b ≤ max (u * y.1) (u * y.2)) := by
    intro u
    rcases Int.le_total 0 u with h | h
    · have p1 := Int.mul_le_mul_of_nonneg_left h3 h
      have p2 := Int.mul_le_mul_of_nonneg_left h4 h
      omega
    · have p1 := Int.mul_le_mul_of_nonpos_left h h3
      have p2 := Int.mul_le_mul_of_nonpos_left h h4
      omega
  have k1 := k x.1
  have k2 := k x.2
  have k3 : min (x.1 * b) (x.2 * b) ≤ a * b ∧ a * b ≤ max (x.1 * b) (x.2 * b) := by
    rcases Int.le_total 0 b with h | h
    · have p1 := Int.mul_le_mul_of_nonneg_right h1 h
      have p2 := Int.mul_le_mul_of_nonneg_right h2 h
      omega
    · have p1 := Int.mul_le_mul_of_nonpos_right h1 h
      have p2 := Int.mul_le_mul_of_nonpos_right h2 h
      omega
  unfold eMin4 eMax4
  omega
