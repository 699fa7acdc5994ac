/-! A posture's numbers, one put in. -/
theorem jw_b0 (p : Int64) (v : Int32) : (jwithv p (nI 0) v).toBitVec = bPut p.toBitVec (jw8 v).toInt64.toBitVec 40 := rfl
theorem jw_b1 (p : Int64) (v : Int32) : (jwithv p (nI 1) v).toBitVec = bPut p.toBitVec (jw8 v).toInt64.toBitVec 32 := rfl
theorem jw_b2 (p : Int64) (v : Int32) : (jwithv p (nI 2) v).toBitVec = bPut p.toBitVec (jw8 v).toInt64.toBitVec 24 := rfl
theorem jw_b3 (p : Int64) (v : Int32) : (jwithv p (nI 3) v).toBitVec = bPut p.toBitVec (jw8 v).toInt64.toBitVec 16 := rfl
theorem jw_b4 (p : Int64) (v : Int32) : (jwithv p (nI 4) v).toBitVec = bPut p.toBitVec (jw8 v).toInt64.toBitVec 8 := rfl
theorem jw_b5 (p : Int64) (v : Int32) : (jwithv p (nI 5) v).toBitVec = bPut p.toBitVec (jw8 v).toInt64.toBitVec 0 := rfl
theorem six_c {P : Nat → Prop} (h0 : P 0) (h1 : P 1) (h2 : P 2) (h3 : P 3) (h4 : P 4) (h5 : P 5) : ∀ i, i < 6 → P i := by
  intro i hi
  have : i = 0 ∨ i = 1 ∨ i = 2 ∨ i = 3 ∨ i = 4 ∨ i = 5 := by omega
  rcases this with e | e | e | e | e | e <;> subst e <;> assumption
theorem jw_b (p : Int64) (v : Int32) : ∀ j, j < 6 → (jwithv p (nI j) v).toBitVec = bPut p.toBitVec (jw8 v).toInt64.toBitVec (40 - 8 * j) :=
  six_c (jw_b0 p v) (jw_b1 p v) (jw_b2 p v) (jw_b3 p v) (jw_b4 p v) (jw_b5 p v)
/-- the byte of a joint -/
noncomputable def jbyt (p : Int64) (j : Int32) : Int64 := ((p).toUInt64 >>> ((((40 : Int32) - ((8 : Int32) * j))).toInt64.toUInt64 &&& Int64.toUInt64 63)).toInt64 &&& (255 : Int64)
theorem jnumv_by (p : Int64) (j : Int32) : jnumv p j = (jbyt p j).toInt32 - 64 := rfl
theorem jb_0 (p : Int64) : (jbyt p (nI 0)).toBitVec = bAt p.toBitVec 40 := rfl
theorem jb_1 (p : Int64) : (jbyt p (nI 1)).toBitVec = bAt p.toBitVec 32 := rfl
theorem jb_2 (p : Int64) : (jbyt p (nI 2)).toBitVec = bAt p.toBitVec 24 := rfl
theorem jb_3 (p : Int64) : (jbyt p (nI 3)).toBitVec = bAt p.toBitVec 16 := rfl
theorem jb_4 (p : Int64) : (jbyt p (nI 4)).toBitVec = bAt p.toBitVec 8 := rfl
theorem jb_5 (p : Int64) : (jbyt p (nI 5)).toBitVec = bAt p.toBitVec 0 := rfl
theorem jb_b (p : Int64) : ∀ j, j < 6 → (jbyt p (nI j)).toBitVec = bAt p.toBitVec (40 - 8 * j) :=
  six_c (jb_0 p) (jb_1 p) (jb_2 p) (jb_3 p) (jb_4 p) (jb_5 p)
theorem num_with {p : Int64} {v : Int32} {j i : Nat} (hj : j < 6) (hi : i < 6) (hv : -64 ≤ v.toInt ∧ v.toInt ≤ 191) : jnumv (jwithv p (nI j) v) (nI i) = if i = j then v else jnumv p (nI i) := by
  by_cases e : i = j
  · subst e
    rw [if_pos rfl, jnumv_by]
    have h : jbyt (jwithv p (nI i) v) (nI i) = (jw8 v).toInt64 := Int64.toBitVec_inj.mp (by rw [jb_b _ i hi, jw_b _ _ i hi, b_same _ _ (by omega), jw8_bv])
    rw [h, Int32.toInt32_toInt64, jw8_v hv]
  · rw [if_neg e, jnumv_by, jnumv_by]
    have h : jbyt (jwithv p (nI j) v) (nI i) = jbyt p (nI i) := Int64.toBitVec_inj.mp (by rw [jb_b _ i hi, jw_b _ _ j hj, b_other _ _ (jw8_bv _) (by omega) (by omega) (by omega), jb_b _ i hi])
    rw [h]
