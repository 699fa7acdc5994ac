/-! The words of the language. -/
theorem lt_c {tb : List Int32} {p : Nat} (h : isL tb p) {c : Int32} {n : Nat} (hc : c.toInt = (n : Int) + 96) : tb.getD p 0 = c ↔ lt5 tb p = n := by
  obtain ⟨a, b⟩ := h
  unfold lt5
  constructor
  · intro e
    rw [e, hc]
    omega
  · intro e
    apply Int32.toInt_inj.mp
    omega
theorem lt_b {tb : List Int32} {p : Nat} (h : isL tb p) : 1 ≤ lt5 tb p ∧ lt5 tb p ≤ 26 := by
  obtain ⟨a, b⟩ := h
  unfold lt5
  omega
/-- link -/
theorem wdn_0 {tb : List Int32} {pl n : Nat} (hn : n ≤ 6) (hL : ∀ k, k < n → isL tb (pl + k)) : pwC tb pl n = 412560384 ↔ n = 4 ∧ lt5 tb (pl + 0) = 12 ∧ lt5 tb (pl + 1) = 9 ∧ lt5 tb (pl + 2) = 14 ∧ lt5 tb (pl + 3) = 11 := by
  have hc : n = 0 ∨ n = 1 ∨ n = 2 ∨ n = 3 ∨ n = 4 ∨ n = 5 ∨ n = 6 := by omega
  rcases hc with e | e | e | e | e | e | e <;> subst e
  · have e9 : pwC tb pl 0 = 0 * 1073741824 := rfl
    rw [e9]
    omega
  · have b0 := lt_b (hL 0 (by decide))
    have e9 : pwC tb pl 1 = (0 * 32 + lt5 tb (pl + 0)) * 33554432 := rfl
    rw [e9]
    omega
  · have b0 := lt_b (hL 0 (by decide))
    have b1 := lt_b (hL 1 (by decide))
    have e9 : pwC tb pl 2 = ((0 * 32 + lt5 tb (pl + 0)) * 32 + lt5 tb (pl + 1)) * 1048576 := rfl
    rw [e9]
    omega
  · have b0 := lt_b (hL 0 (by decide))
    have b1 := lt_b (hL 1 (by decide))
    have b2 := lt_b (hL 2 (by decide))
    have e9 : pwC tb pl 3 = (((0 * 32 + lt5 tb (pl + 0)) * 32 + lt5 tb (pl + 1)) * 32 + lt5 tb (pl + 2)) * 32768 := rfl
    rw [e9]
    omega
  · have b0 := lt_b (hL 0 (by decide))
    have b1 := lt_b (hL 1 (by decide))
    have b2 := lt_b (hL 2 (by decide))
    have b3 := lt_b (hL 3 (by decide))
    have e9 : pwC tb pl 4 = ((((0 * 32 + lt5 tb (pl + 0)) * 32 + lt5 tb (pl + 1)) * 32 + lt5 tb (pl + 2)) * 32 + lt5 tb (pl + 3)) * 1024 := rfl
    rw [e9]
    omega
  · have b0 := lt_b (hL 0 (by decide))
    have b1 := lt_b (hL 1 (by decide))
    have b2 := lt_b (hL 2 (by decide))
    have b3 := lt_b (hL 3 (by decide))
    have b4 := lt_b (hL 4 (by decide))
    have e9 : pwC tb pl 5 = (((((0 * 32 + lt5 tb (pl + 0)) * 32 + lt5 tb (pl + 1)) * 32 + lt5 tb (pl + 2)) * 32 + lt5 tb (pl + 3)) * 32 + lt5 tb (pl + 4)) * 32 := rfl
    rw [e9]
    omega
  · have b0 := lt_b (hL 0 (by decide))
    have b1 := lt_b (hL 1 (by decide))
    have b2 := lt_b (hL 2 (by decide))
    have b3 := lt_b (hL 3 (by decide))
    have b4 := lt_b (hL 4 (by decide))
    have b5 := lt_b (hL 5 (by decide))
    have e9 : pwC tb pl 6 = ((((((0 * 32 + lt5 tb (pl + 0)) * 32 + lt5 tb (pl + 1)) * 32 + lt5 tb (pl + 2)) * 32 + lt5 tb (pl + 3)) * 32 + lt5 tb (pl + 4)) * 32 + lt5 tb (pl + 5)) * 1 := rfl
    rw [e9]
    omega
/-- hand -/
theorem wdn_1 {tb : List Int32} {pl n : Nat} (hn : n ≤ 6) (hL : ∀ k, k < n → isL tb (pl + k)) : pwC tb pl n = 269946880 ↔ n = 4 ∧ lt5 tb (pl + 0) = 8 ∧ lt5 tb (pl + 1) = 1 ∧ lt5 tb (pl + 2) = 14 ∧ lt5 tb (pl + 3) = 4 := by
  have hc : n = 0 ∨ n = 1 ∨ n = 2 ∨ n = 3 ∨ n = 4 ∨ n = 5 ∨ n = 6 := by omega
  rcases hc with e | e | e | e | e | e | e <;> subst e
  · have e9 : pwC tb pl 0 = 0 * 1073741824 := rfl
    rw [e9]
    omega
  · have b0 := lt_b (hL 0 (by decide))
    have e9 : pwC tb pl 1 = (0 * 32 + lt5 tb (pl + 0)) * 33554432 := rfl
    rw [e9]
    omega
  · have b0 := lt_b (hL 0 (by decide))
    have b1 := lt_b (hL 1 (by decide))
    have e9 : pwC tb pl 2 = ((0 * 32 + lt5 tb (pl + 0)) * 32 + lt5 tb (pl + 1)) * 1048576 := rfl
    rw [e9]
    omega
  · have b0 := lt_b (hL 0 (by decide))
    have b1 := lt_b (hL 1 (by decide))
    have b2 := lt_b (hL 2 (by decide))
    have e9 : pwC tb pl 3 = (((0 * 32 + lt5 tb (pl + 0)) * 32 + lt5 tb (pl + 1)) * 32 + lt5 tb (pl + 2)) * 32768 := rfl
    rw [e9]
    omega
  · have b0 := lt_b (hL 0 (by decide))
    have b1 := lt_b (hL 1 (by decide))
    have b2 := lt_b (hL 2 (by decide))
    have b3 := lt_b (hL 3 (by decide))
    have e9 : pwC tb pl 4 = ((((0 * 32 + lt5 tb (pl + 0)) * 32 + lt5 tb (pl + 1)) * 32 + lt5 tb (pl + 2)) * 32 + lt5 tb (pl + 3)) * 1024 := rfl
    rw [e9]
    omega
  · have b0 := lt_b (hL 0 (by decide))
    have b1 := lt_b (hL 1 (by decide))
    have b2 := lt_b (hL 2 (by decide))
    have b3 := lt_b (hL 3 (by decide))
    have b4 := lt_b (hL 4 (by decide))
    have e9 : pwC tb pl 5 = (((((0 * 32 + lt5 tb (pl + 0)) * 32 + lt5 tb (pl + 1)) * 32 + lt5 tb (pl + 2)) * 32 + lt5 tb (pl + 3)) * 32 + lt5 tb (pl + 4)) * 32 := rfl
    rw [e9]
    omega
  · have b0 := lt_b (hL 0 (by decide))
    have b1 := lt_b (hL 1 (by decide))
    have b2 := lt_b (hL 2 (by decide))
    have b3 := lt_b (hL 3 (by decide))
    have b4 := lt_b (hL 4 (by decide))
    have b5 := lt_b (hL 5 (by decide))
    have e9 : pwC tb pl 6 = ((((((0 * 32 + lt5 tb (pl + 0)) * 32 + lt5 tb (pl + 1)) * 32 + lt5 tb (pl + 2)) * 32 + lt5 tb (pl + 3)) * 32 + lt5 tb (pl + 4)) * 32 + lt5 tb (pl + 5)) * 1 := rfl
    rw [e9]
    omega
/-- height -/
theorem wdn_2 {tb : List Int32} {pl n : Nat} (hn : n ≤ 6) (hL : ∀ k, k < n → isL tb (pl + k)) : pwC tb pl n = 273980692 ↔ n = 6 ∧ lt5 tb (pl + 0) = 8 ∧ lt5 tb (pl + 1) = 5 ∧ lt5 tb (pl + 2) = 9 ∧ lt5 tb (pl + 3) = 7 ∧ lt5 tb (pl + 4) = 8 ∧ lt5 tb (pl + 5) = 20 := by
  have hc : n = 0 ∨ n = 1 ∨ n = 2 ∨ n = 3 ∨ n = 4 ∨ n = 5 ∨ n = 6 := by omega
  rcases hc with e | e | e | e | e | e | e <;> subst e
  · have e9 : pwC tb pl 0 = 0 * 1073741824 := rfl
    rw [e9]
    omega
  · have b0 := lt_b (hL 0 (by decide))
    have e9 : pwC tb pl 1 = (0 * 32 + lt5 tb (pl + 0)) * 33554432 := rfl
    rw [e9]
    omega
  · have b0 := lt_b (hL 0 (by decide))
    have b1 := lt_b (hL 1 (by decide))
    have e9 : pwC tb pl 2 = ((0 * 32 + lt5 tb (pl + 0)) * 32 + lt5 tb (pl + 1)) * 1048576 := rfl
    rw [e9]
    omega
  · have b0 := lt_b (hL 0 (by decide))
    have b1 := lt_b (hL 1 (by decide))
    have b2 := lt_b (hL 2 (by decide))
    have e9 : pwC tb pl 3 = (((0 * 32 + lt5 tb (pl + 0)) * 32 + lt5 tb (pl + 1)) * 32 + lt5 tb (pl + 2)) * 32768 := rfl
    rw [e9]
    omega
  · have b0 := lt_b (hL 0 (by decide))
    have b1 := lt_b (hL 1 (by decide))
    have b2 := lt_b (hL 2 (by decide))
    have b3 := lt_b (hL 3 (by decide))
    have e9 : pwC tb pl 4 = ((((0 * 32 + lt5 tb (pl + 0)) * 32 + lt5 tb (pl + 1)) * 32 + lt5 tb (pl + 2)) * 32 + lt5 tb (pl + 3)) * 1024 := rfl
    rw [e9]
    omega
  · have b0 := lt_b (hL 0 (by decide))
    have b1 := lt_b (hL 1 (by decide))
    have b2 := lt_b (hL 2 (by decide))
    have b3 := lt_b (hL 3 (by decide))
    have b4 := lt_b (hL 4 (by decide))
    have e9 : pwC tb pl 5 = (((((0 * 32 + lt5 tb (pl + 0)) * 32 + lt5 tb (pl + 1)) * 32 + lt5 tb (pl + 2)) * 32 + lt5 tb (pl + 3)) * 32 + lt5 tb (pl + 4)) * 32 := rfl
    rw [e9]
    omega
  · have b0 := lt_b (hL 0 (by decide))
    have b1 := lt_b (hL 1 (by decide))
    have b2 := lt_b (hL 2 (by decide))
    have b3 := lt_b (hL 3 (by decide))
    have b4 := lt_b (hL 4 (by decide))
    have b5 := lt_b (hL 5 (by decide))
    have e9 : pwC tb pl 6 = ((((((0 * 32 + lt5 tb (pl + 0)) * 32 + lt5 tb (pl + 1)) * 32 + lt5 tb (pl + 2)) * 32 + lt5 tb (pl + 3)) * 32 + lt5 tb (pl + 4)) * 32 + lt5 tb (pl + 5)) * 1 := rfl
    rw [e9]
    omega
/-- limit -/
theorem wdn_3 {tb : List Int32} {pl n : Nat} (hn : n ≤ 6) (hL : ∀ k, k < n → isL tb (pl + k)) : pwC tb pl n = 412526208 ↔ n = 5 ∧ lt5 tb (pl + 0) = 12 ∧ lt5 tb (pl + 1) = 9 ∧ lt5 tb (pl + 2) = 13 ∧ lt5 tb (pl + 3) = 9 ∧ lt5 tb (pl + 4) = 20 := by
  have hc : n = 0 ∨ n = 1 ∨ n = 2 ∨ n = 3 ∨ n = 4 ∨ n = 5 ∨ n = 6 := by omega
  rcases hc with e | e | e | e | e | e | e <;> subst e
  · have e9 : pwC tb pl 0 = 0 * 1073741824 := rfl
    rw [e9]
    omega
  · have b0 := lt_b (hL 0 (by decide))
    have e9 : pwC tb pl 1 = (0 * 32 + lt5 tb (pl + 0)) * 33554432 := rfl
    rw [e9]
    omega
  · have b0 := lt_b (hL 0 (by decide))
    have b1 := lt_b (hL 1 (by decide))
    have e9 : pwC tb pl 2 = ((0 * 32 + lt5 tb (pl + 0)) * 32 + lt5 tb (pl + 1)) * 1048576 := rfl
    rw [e9]
    omega
  · have b0 := lt_b (hL 0 (by decide))
    have b1 := lt_b (hL 1 (by decide))
    have b2 := lt_b (hL 2 (by decide))
    have e9 : pwC tb pl 3 = (((0 * 32 + lt5 tb (pl + 0)) * 32 + lt5 tb (pl + 1)) * 32 + lt5 tb (pl + 2)) * 32768 := rfl
    rw [e9]
    omega
  · have b0 := lt_b (hL 0 (by decide))
    have b1 := lt_b (hL 1 (by decide))
    have b2 := lt_b (hL 2 (by decide))
    have b3 := lt_b (hL 3 (by decide))
    have e9 : pwC tb pl 4 = ((((0 * 32 + lt5 tb (pl + 0)) * 32 + lt5 tb (pl + 1)) * 32 + lt5 tb (pl + 2)) * 32 + lt5 tb (pl + 3)) * 1024 := rfl
    rw [e9]
    omega
  · have b0 := lt_b (hL 0 (by decide))
    have b1 := lt_b (hL 1 (by decide))
    have b2 := lt_b (hL 2 (by decide))
    have b3 := lt_b (hL 3 (by decide))
    have b4 := lt_b (hL 4 (by decide))
    have e9 : pwC tb pl 5 = (((((0 * 32 + lt5 tb (pl + 0)) * 32 + lt5 tb (pl + 1)) * 32 + lt5 tb (pl + 2)) * 32 + lt5 tb (pl + 3)) * 32 + lt5 tb (pl + 4)) * 32 := rfl
    rw [e9]
    omega
  · have b0 := lt_b (hL 0 (by decide))
    have b1 := lt_b (hL 1 (by decide))
    have b2 := lt_b (hL 2 (by decide))
    have b3 := lt_b (hL 3 (by decide))
    have b4 := lt_b (hL 4 (by decide))
    have b5 := lt_b (hL 5 (by decide))
    have e9 : pwC tb pl 6 = ((((((0 * 32 + lt5 tb (pl + 0)) * 32 + lt5 tb (pl + 1)) * 32 + lt5 tb (pl + 2)) * 32 + lt5 tb (pl + 3)) * 32 + lt5 tb (pl + 4)) * 32 + lt5 tb (pl + 5)) * 1 := rfl
    rw [e9]
    omega
/-- speed -/
theorem wdn_4 {tb : List Int32} {pl n : Nat} (hn : n ≤ 6) (hL : ∀ k, k < n → isL tb (pl + k)) : pwC tb pl n = 654480512 ↔ n = 5 ∧ lt5 tb (pl + 0) = 19 ∧ lt5 tb (pl + 1) = 16 ∧ lt5 tb (pl + 2) = 5 ∧ lt5 tb (pl + 3) = 5 ∧ lt5 tb (pl + 4) = 4 := by
  have hc : n = 0 ∨ n = 1 ∨ n = 2 ∨ n = 3 ∨ n = 4 ∨ n = 5 ∨ n = 6 := by omega
  rcases hc with e | e | e | e | e | e | e <;> subst e
  · have e9 : pwC tb pl 0 = 0 * 1073741824 := rfl
    rw [e9]
    omega
  · have b0 := lt_b (hL 0 (by decide))
    have e9 : pwC tb pl 1 = (0 * 32 + lt5 tb (pl + 0)) * 33554432 := rfl
    rw [e9]
    omega
  · have b0 := lt_b (hL 0 (by decide))
    have b1 := lt_b (hL 1 (by decide))
    have e9 : pwC tb pl 2 = ((0 * 32 + lt5 tb (pl + 0)) * 32 + lt5 tb (pl + 1)) * 1048576 := rfl
    rw [e9]
    omega
  · have b0 := lt_b (hL 0 (by decide))
    have b1 := lt_b (hL 1 (by decide))
    have b2 := lt_b (hL 2 (by decide))
    have e9 : pwC tb pl 3 = (((0 * 32 + lt5 tb (pl + 0)) * 32 + lt5 tb (pl + 1)) * 32 + lt5 tb (pl + 2)) * 32768 := rfl
    rw [e9]
    omega
  · have b0 := lt_b (hL 0 (by decide))
    have b1 := lt_b (hL 1 (by decide))
    have b2 := lt_b (hL 2 (by decide))
    have b3 := lt_b (hL 3 (by decide))
    have e9 : pwC tb pl 4 = ((((0 * 32 + lt5 tb (pl + 0)) * 32 + lt5 tb (pl + 1)) * 32 + lt5 tb (pl + 2)) * 32 + lt5 tb (pl + 3)) * 1024 := rfl
    rw [e9]
    omega
  · have b0 := lt_b (hL 0 (by decide))
    have b1 := lt_b (hL 1 (by decide))
    have b2 := lt_b (hL 2 (by decide))
    have b3 := lt_b (hL 3 (by decide))
    have b4 := lt_b (hL 4 (by decide))
    have e9 : pwC tb pl 5 = (((((0 * 32 + lt5 tb (pl + 0)) * 32 + lt5 tb (pl + 1)) * 32 + lt5 tb (pl + 2)) * 32 + lt5 tb (pl + 3)) * 32 + lt5 tb (pl + 4)) * 32 := rfl
    rw [e9]
    omega
  · have b0 := lt_b (hL 0 (by decide))
    have b1 := lt_b (hL 1 (by decide))
    have b2 := lt_b (hL 2 (by decide))
    have b3 := lt_b (hL 3 (by decide))
    have b4 := lt_b (hL 4 (by decide))
    have b5 := lt_b (hL 5 (by decide))
    have e9 : pwC tb pl 6 = ((((((0 * 32 + lt5 tb (pl + 0)) * 32 + lt5 tb (pl + 1)) * 32 + lt5 tb (pl + 2)) * 32 + lt5 tb (pl + 3)) * 32 + lt5 tb (pl + 4)) * 32 + lt5 tb (pl + 5)) * 1 := rfl
    rw [e9]
    omega
/-- blend -/
theorem wdn_5 {tb : List Int32} {pl n : Nat} (hn : n ≤ 6) (hL : ∀ k, k < n → isL tb (pl + k)) : pwC tb pl n = 79870080 ↔ n = 5 ∧ lt5 tb (pl + 0) = 2 ∧ lt5 tb (pl + 1) = 12 ∧ lt5 tb (pl + 2) = 5 ∧ lt5 tb (pl + 3) = 14 ∧ lt5 tb (pl + 4) = 4 := by
  have hc : n = 0 ∨ n = 1 ∨ n = 2 ∨ n = 3 ∨ n = 4 ∨ n = 5 ∨ n = 6 := by omega
  rcases hc with e | e | e | e | e | e | e <;> subst e
  · have e9 : pwC tb pl 0 = 0 * 1073741824 := rfl
    rw [e9]
    omega
  · have b0 := lt_b (hL 0 (by decide))
    have e9 : pwC tb pl 1 = (0 * 32 + lt5 tb (pl + 0)) * 33554432 := rfl
    rw [e9]
    omega
  · have b0 := lt_b (hL 0 (by decide))
    have b1 := lt_b (hL 1 (by decide))
    have e9 : pwC tb pl 2 = ((0 * 32 + lt5 tb (pl + 0)) * 32 + lt5 tb (pl + 1)) * 1048576 := rfl
    rw [e9]
    omega
  · have b0 := lt_b (hL 0 (by decide))
    have b1 := lt_b (hL 1 (by decide))
    have b2 := lt_b (hL 2 (by decide))
    have e9 : pwC tb pl 3 = (((0 * 32 + lt5 tb (pl + 0)) * 32 + lt5 tb (pl + 1)) * 32 + lt5 tb (pl + 2)) * 32768 := rfl
    rw [e9]
    omega
  · have b0 := lt_b (hL 0 (by decide))
    have b1 := lt_b (hL 1 (by decide))
    have b2 := lt_b (hL 2 (by decide))
    have b3 := lt_b (hL 3 (by decide))
    have e9 : pwC tb pl 4 = ((((0 * 32 + lt5 tb (pl + 0)) * 32 + lt5 tb (pl + 1)) * 32 + lt5 tb (pl + 2)) * 32 + lt5 tb (pl + 3)) * 1024 := rfl
    rw [e9]
    omega
  · have b0 := lt_b (hL 0 (by decide))
    have b1 := lt_b (hL 1 (by decide))
    have b2 := lt_b (hL 2 (by decide))
    have b3 := lt_b (hL 3 (by decide))
    have b4 := lt_b (hL 4 (by decide))
    have e9 : pwC tb pl 5 = (((((0 * 32 + lt5 tb (pl + 0)) * 32 + lt5 tb (pl + 1)) * 32 + lt5 tb (pl + 2)) * 32 + lt5 tb (pl + 3)) * 32 + lt5 tb (pl + 4)) * 32 := rfl
    rw [e9]
    omega
  · have b0 := lt_b (hL 0 (by decide))
    have b1 := lt_b (hL 1 (by decide))
    have b2 := lt_b (hL 2 (by decide))
    have b3 := lt_b (hL 3 (by decide))
    have b4 := lt_b (hL 4 (by decide))
    have b5 := lt_b (hL 5 (by decide))
    have e9 : pwC tb pl 6 = ((((((0 * 32 + lt5 tb (pl + 0)) * 32 + lt5 tb (pl + 1)) * 32 + lt5 tb (pl + 2)) * 32 + lt5 tb (pl + 3)) * 32 + lt5 tb (pl + 4)) * 32 + lt5 tb (pl + 5)) * 1 := rfl
    rw [e9]
    omega
/-- seed -/
theorem wdn_6 {tb : List Int32} {pl n : Nat} (hn : n ≤ 6) (hL : ∀ k, k < n → isL tb (pl + k)) : pwC tb pl n = 642945024 ↔ n = 4 ∧ lt5 tb (pl + 0) = 19 ∧ lt5 tb (pl + 1) = 5 ∧ lt5 tb (pl + 2) = 5 ∧ lt5 tb (pl + 3) = 4 := by
  have hc : n = 0 ∨ n = 1 ∨ n = 2 ∨ n = 3 ∨ n = 4 ∨ n = 5 ∨ n = 6 := by omega
  rcases hc with e | e | e | e | e | e | e <;> subst e
  · have e9 : pwC tb pl 0 = 0 * 1073741824 := rfl
    rw [e9]
    omega
  · have b0 := lt_b (hL 0 (by decide))
    have e9 : pwC tb pl 1 = (0 * 32 + lt5 tb (pl + 0)) * 33554432 := rfl
    rw [e9]
    omega
  · have b0 := lt_b (hL 0 (by decide))
    have b1 := lt_b (hL 1 (by decide))
    have e9 : pwC tb pl 2 = ((0 * 32 + lt5 tb (pl + 0)) * 32 + lt5 tb (pl + 1)) * 1048576 := rfl
    rw [e9]
    omega
  · have b0 := lt_b (hL 0 (by decide))
    have b1 := lt_b (hL 1 (by decide))
    have b2 := lt_b (hL 2 (by decide))
    have e9 : pwC tb pl 3 = (((0 * 32 + lt5 tb (pl + 0)) * 32 + lt5 tb (pl + 1)) * 32 + lt5 tb (pl + 2)) * 32768 := rfl
    rw [e9]
    omega
  · have b0 := lt_b (hL 0 (by decide))
    have b1 := lt_b (hL 1 (by decide))
    have b2 := lt_b (hL 2 (by decide))
    have b3 := lt_b (hL 3 (by decide))
    have e9 : pwC tb pl 4 = ((((0 * 32 + lt5 tb (pl + 0)) * 32 + lt5 tb (pl + 1)) * 32 + lt5 tb (pl + 2)) * 32 + lt5 tb (pl + 3)) * 1024 := rfl
    rw [e9]
    omega
  · have b0 := lt_b (hL 0 (by decide))
    have b1 := lt_b (hL 1 (by decide))
    have b2 := lt_b (hL 2 (by decide))
    have b3 := lt_b (hL 3 (by decide))
    have b4 := lt_b (hL 4 (by decide))
    have e9 : pwC tb pl 5 = (((((0 * 32 + lt5 tb (pl + 0)) * 32 + lt5 tb (pl + 1)) * 32 + lt5 tb (pl + 2)) * 32 + lt5 tb (pl + 3)) * 32 + lt5 tb (pl + 4)) * 32 := rfl
    rw [e9]
    omega
  · have b0 := lt_b (hL 0 (by decide))
    have b1 := lt_b (hL 1 (by decide))
    have b2 := lt_b (hL 2 (by decide))
    have b3 := lt_b (hL 3 (by decide))
    have b4 := lt_b (hL 4 (by decide))
    have b5 := lt_b (hL 5 (by decide))
    have e9 : pwC tb pl 6 = ((((((0 * 32 + lt5 tb (pl + 0)) * 32 + lt5 tb (pl + 1)) * 32 + lt5 tb (pl + 2)) * 32 + lt5 tb (pl + 3)) * 32 + lt5 tb (pl + 4)) * 32 + lt5 tb (pl + 5)) * 1 := rfl
    rw [e9]
    omega
/-- rest -/
theorem wdn_7 {tb : List Int32} {pl n : Nat} (hn : n ≤ 6) (hL : ∀ k, k < n → isL tb (pl + k)) : pwC tb pl n = 609865728 ↔ n = 4 ∧ lt5 tb (pl + 0) = 18 ∧ lt5 tb (pl + 1) = 5 ∧ lt5 tb (pl + 2) = 19 ∧ lt5 tb (pl + 3) = 20 := by
  have hc : n = 0 ∨ n = 1 ∨ n = 2 ∨ n = 3 ∨ n = 4 ∨ n = 5 ∨ n = 6 := by omega
  rcases hc with e | e | e | e | e | e | e <;> subst e
  · have e9 : pwC tb pl 0 = 0 * 1073741824 := rfl
    rw [e9]
    omega
  · have b0 := lt_b (hL 0 (by decide))
    have e9 : pwC tb pl 1 = (0 * 32 + lt5 tb (pl + 0)) * 33554432 := rfl
    rw [e9]
    omega
  · have b0 := lt_b (hL 0 (by decide))
    have b1 := lt_b (hL 1 (by decide))
    have e9 : pwC tb pl 2 = ((0 * 32 + lt5 tb (pl + 0)) * 32 + lt5 tb (pl + 1)) * 1048576 := rfl
    rw [e9]
    omega
  · have b0 := lt_b (hL 0 (by decide))
    have b1 := lt_b (hL 1 (by decide))
    have b2 := lt_b (hL 2 (by decide))
    have e9 : pwC tb pl 3 = (((0 * 32 + lt5 tb (pl + 0)) * 32 + lt5 tb (pl + 1)) * 32 + lt5 tb (pl + 2)) * 32768 := rfl
    rw [e9]
    omega
  · have b0 := lt_b (hL 0 (by decide))
    have b1 := lt_b (hL 1 (by decide))
    have b2 := lt_b (hL 2 (by decide))
    have b3 := lt_b (hL 3 (by decide))
    have e9 : pwC tb pl 4 = ((((0 * 32 + lt5 tb (pl + 0)) * 32 + lt5 tb (pl + 1)) * 32 + lt5 tb (pl + 2)) * 32 + lt5 tb (pl + 3)) * 1024 := rfl
    rw [e9]
    omega
  · have b0 := lt_b (hL 0 (by decide))
    have b1 := lt_b (hL 1 (by decide))
    have b2 := lt_b (hL 2 (by decide))
    have b3 := lt_b (hL 3 (by decide))
    have b4 := lt_b (hL 4 (by decide))
    have e9 : pwC tb pl 5 = (((((0 * 32 + lt5 tb (pl + 0)) * 32 + lt5 tb (pl + 1)) * 32 + lt5 tb (pl + 2)) * 32 + lt5 tb (pl + 3)) * 32 + lt5 tb (pl + 4)) * 32 := rfl
    rw [e9]
    omega
  · have b0 := lt_b (hL 0 (by decide))
    have b1 := lt_b (hL 1 (by decide))
    have b2 := lt_b (hL 2 (by decide))
    have b3 := lt_b (hL 3 (by decide))
    have b4 := lt_b (hL 4 (by decide))
    have b5 := lt_b (hL 5 (by decide))
    have e9 : pwC tb pl 6 = ((((((0 * 32 + lt5 tb (pl + 0)) * 32 + lt5 tb (pl + 1)) * 32 + lt5 tb (pl + 2)) * 32 + lt5 tb (pl + 3)) * 32 + lt5 tb (pl + 4)) * 32 + lt5 tb (pl + 5)) * 1 := rfl
    rw [e9]
    omega
/-- spot -/
theorem wdn_8 {tb : List Int32} {pl n : Nat} (hn : n ≤ 6) (hL : ∀ k, k < n → isL tb (pl + k)) : pwC tb pl n = 654823424 ↔ n = 4 ∧ lt5 tb (pl + 0) = 19 ∧ lt5 tb (pl + 1) = 16 ∧ lt5 tb (pl + 2) = 15 ∧ lt5 tb (pl + 3) = 20 := by
  have hc : n = 0 ∨ n = 1 ∨ n = 2 ∨ n = 3 ∨ n = 4 ∨ n = 5 ∨ n = 6 := by omega
  rcases hc with e | e | e | e | e | e | e <;> subst e
  · have e9 : pwC tb pl 0 = 0 * 1073741824 := rfl
    rw [e9]
    omega
  · have b0 := lt_b (hL 0 (by decide))
    have e9 : pwC tb pl 1 = (0 * 32 + lt5 tb (pl + 0)) * 33554432 := rfl
    rw [e9]
    omega
  · have b0 := lt_b (hL 0 (by decide))
    have b1 := lt_b (hL 1 (by decide))
    have e9 : pwC tb pl 2 = ((0 * 32 + lt5 tb (pl + 0)) * 32 + lt5 tb (pl + 1)) * 1048576 := rfl
    rw [e9]
    omega
  · have b0 := lt_b (hL 0 (by decide))
    have b1 := lt_b (hL 1 (by decide))
    have b2 := lt_b (hL 2 (by decide))
    have e9 : pwC tb pl 3 = (((0 * 32 + lt5 tb (pl + 0)) * 32 + lt5 tb (pl + 1)) * 32 + lt5 tb (pl + 2)) * 32768 := rfl
    rw [e9]
    omega
  · have b0 := lt_b (hL 0 (by decide))
    have b1 := lt_b (hL 1 (by decide))
    have b2 := lt_b (hL 2 (by decide))
    have b3 := lt_b (hL 3 (by decide))
    have e9 : pwC tb pl 4 = ((((0 * 32 + lt5 tb (pl + 0)) * 32 + lt5 tb (pl + 1)) * 32 + lt5 tb (pl + 2)) * 32 + lt5 tb (pl + 3)) * 1024 := rfl
    rw [e9]
    omega
  · have b0 := lt_b (hL 0 (by decide))
    have b1 := lt_b (hL 1 (by decide))
    have b2 := lt_b (hL 2 (by decide))
    have b3 := lt_b (hL 3 (by decide))
    have b4 := lt_b (hL 4 (by decide))
    have e9 : pwC tb pl 5 = (((((0 * 32 + lt5 tb (pl + 0)) * 32 + lt5 tb (pl + 1)) * 32 + lt5 tb (pl + 2)) * 32 + lt5 tb (pl + 3)) * 32 + lt5 tb (pl + 4)) * 32 := rfl
    rw [e9]
    omega
  · have b0 := lt_b (hL 0 (by decide))
    have b1 := lt_b (hL 1 (by decide))
    have b2 := lt_b (hL 2 (by decide))
    have b3 := lt_b (hL 3 (by decide))
    have b4 := lt_b (hL 4 (by decide))
    have b5 := lt_b (hL 5 (by decide))
    have e9 : pwC tb pl 6 = ((((((0 * 32 + lt5 tb (pl + 0)) * 32 + lt5 tb (pl + 1)) * 32 + lt5 tb (pl + 2)) * 32 + lt5 tb (pl + 3)) * 32 + lt5 tb (pl + 4)) * 32 + lt5 tb (pl + 5)) * 1 := rfl
    rw [e9]
    omega
/-- go -/
theorem wdn_9 {tb : List Int32} {pl n : Nat} (hn : n ≤ 6) (hL : ∀ k, k < n → isL tb (pl + k)) : pwC tb pl n = 250609664 ↔ n = 2 ∧ lt5 tb (pl + 0) = 7 ∧ lt5 tb (pl + 1) = 15 := by
  have hc : n = 0 ∨ n = 1 ∨ n = 2 ∨ n = 3 ∨ n = 4 ∨ n = 5 ∨ n = 6 := by omega
  rcases hc with e | e | e | e | e | e | e <;> subst e
  · have e9 : pwC tb pl 0 = 0 * 1073741824 := rfl
    rw [e9]
    omega
  · have b0 := lt_b (hL 0 (by decide))
    have e9 : pwC tb pl 1 = (0 * 32 + lt5 tb (pl + 0)) * 33554432 := rfl
    rw [e9]
    omega
  · have b0 := lt_b (hL 0 (by decide))
    have b1 := lt_b (hL 1 (by decide))
    have e9 : pwC tb pl 2 = ((0 * 32 + lt5 tb (pl + 0)) * 32 + lt5 tb (pl + 1)) * 1048576 := rfl
    rw [e9]
    omega
  · have b0 := lt_b (hL 0 (by decide))
    have b1 := lt_b (hL 1 (by decide))
    have b2 := lt_b (hL 2 (by decide))
    have e9 : pwC tb pl 3 = (((0 * 32 + lt5 tb (pl + 0)) * 32 + lt5 tb (pl + 1)) * 32 + lt5 tb (pl + 2)) * 32768 := rfl
    rw [e9]
    omega
  · have b0 := lt_b (hL 0 (by decide))
    have b1 := lt_b (hL 1 (by decide))
    have b2 := lt_b (hL 2 (by decide))
    have b3 := lt_b (hL 3 (by decide))
    have e9 : pwC tb pl 4 = ((((0 * 32 + lt5 tb (pl + 0)) * 32 + lt5 tb (pl + 1)) * 32 + lt5 tb (pl + 2)) * 32 + lt5 tb (pl + 3)) * 1024 := rfl
    rw [e9]
    omega
  · have b0 := lt_b (hL 0 (by decide))
    have b1 := lt_b (hL 1 (by decide))
    have b2 := lt_b (hL 2 (by decide))
    have b3 := lt_b (hL 3 (by decide))
    have b4 := lt_b (hL 4 (by decide))
    have e9 : pwC tb pl 5 = (((((0 * 32 + lt5 tb (pl + 0)) * 32 + lt5 tb (pl + 1)) * 32 + lt5 tb (pl + 2)) * 32 + lt5 tb (pl + 3)) * 32 + lt5 tb (pl + 4)) * 32 := rfl
    rw [e9]
    omega
  · have b0 := lt_b (hL 0 (by decide))
    have b1 := lt_b (hL 1 (by decide))
    have b2 := lt_b (hL 2 (by decide))
    have b3 := lt_b (hL 3 (by decide))
    have b4 := lt_b (hL 4 (by decide))
    have b5 := lt_b (hL 5 (by decide))
    have e9 : pwC tb pl 6 = ((((((0 * 32 + lt5 tb (pl + 0)) * 32 + lt5 tb (pl + 1)) * 32 + lt5 tb (pl + 2)) * 32 + lt5 tb (pl + 3)) * 32 + lt5 tb (pl + 4)) * 32 + lt5 tb (pl + 5)) * 1 := rfl
    rw [e9]
    omega
