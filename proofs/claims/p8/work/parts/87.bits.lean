/-! A posture's numbers out of its long. -/
noncomputable def bAt (x : BitVec 64) (s : Nat) : BitVec 64 := (x >>> s) &&& 255#64
noncomputable def bPut (p w : BitVec 64) (s : Nat) : BitVec 64 := (p &&& ~~~(255#64 <<< s)) ||| (w <<< s)
theorem b255 (i : Nat) : (255#64).getLsbD i = decide (i < 8) := by
  rw [BitVec.getLsbD_ofNat, show (255 : Nat) = 2 ^ 8 - 1 from rfl, Nat.testBit_two_pow_sub_one]
  by_cases h : i < 8
  · simp [h]; omega
  · simp [h]
theorem b_same (p w : BitVec 64) {s : Nat} (hs : s ≤ 56) : bAt (bPut p w s) s = w &&& 255#64 := by
  apply BitVec.eq_of_getLsbD_eq
  intro i hi
  unfold bAt bPut
  simp only [BitVec.getLsbD_and, BitVec.getLsbD_or, BitVec.getLsbD_ushiftRight, BitVec.getLsbD_shiftLeft, BitVec.getLsbD_not, b255]
  by_cases h : i < 8
  · have h1 : s + i < 64 := by omega
    have h2 : ¬ s + i < s := by omega
    have h3 : s + i - s = i := by omega
    simp [h, h1, h2]
  · simp [h]
theorem b_other (p w : BitVec 64) {s s2 : Nat} (hw : w &&& 255#64 = w) (hs : s ≤ 56) (hs2 : s2 ≤ 56) (h : s + 8 ≤ s2 ∨ s2 + 8 ≤ s) : bAt (bPut p w s) s2 = bAt p s2 := by
  have hz : ∀ j, 8 ≤ j → w.getLsbD j = false := fun j hj => by
    rw [← hw, BitVec.getLsbD_and, b255, decide_eq_false (by omega), Bool.and_false]
  apply BitVec.eq_of_getLsbD_eq
  intro i hi
  unfold bAt bPut
  simp only [BitVec.getLsbD_and, BitVec.getLsbD_or, BitVec.getLsbD_ushiftRight, BitVec.getLsbD_shiftLeft, BitVec.getLsbD_not, b255]
  by_cases h8 : i < 8
  · have h1 : s2 + i < 64 := by omega
    rcases h with h | h
    · have h2 : ¬ s2 + i < s := by omega
      have h3 : ¬ s2 + i - s < 8 := by omega
      have h4 := hz (s2 + i - s) (by omega)
      simp [h8, h1, h2, h3, h4]
    · have h2 : s2 + i < s := by omega
      simp [h8, h1, h2]
  · simp [h8]
noncomputable def jnum (p : Int64) (s : Int32) : Int32 := (((p.toUInt64 >>> (s.toInt64.toUInt64 &&& Int64.toUInt64 63)).toInt64 &&& 255).toInt32) - 64
noncomputable def jw8 (v : Int32) : Int32 := (v + 64) &&& 255
theorem jw8_and (v : Int32) : jw8 v &&& 255 = jw8 v := by
  unfold jw8
  rw [pk_and (v + 64) 8 (by decide), pk_andN (by have := Nat.mod_lt (v + 64).toBitVec.toNat (show 0 < 2 ^ 8 by decide); omega) 8 (by decide)]
  rw [Nat.mod_mod]
theorem jw8_bv (v : Int32) : (jw8 v).toInt64.toBitVec &&& 255#64 = (jw8 v).toInt64.toBitVec := by
  have h : (jw8 v).toInt64 &&& (255 : Int64) = (jw8 v).toInt64 := by
    have h1 := Int32.toInt64_and (jw8 v) 255
    rw [jw8_and] at h1
    exact h1.symm
  exact congrArg Int64.toBitVec h
theorem jw8_v {v : Int32} (h : -64 ≤ v.toInt ∧ v.toInt ≤ 191) : jw8 v - 64 = v := by
  unfold jw8
  have h0 : (v + 64).toInt = v.toInt + 64 := by rw [Int32.toInt_add, show (64 : Int32).toInt = 64 from rfl, Int.bmod_eq_of_le (by omega) (by omega)]
  have h1 : v + 64 = nI (v.toInt + 64).toNat := Int32.toInt_inj.mp (by rw [h0, nI_toInt (by omega)]; omega)
  rw [h1, pk_andN (by omega) 8 (by decide), Nat.mod_eq_of_lt (by omega)]
  apply Int32.toInt_inj.mp
  rw [Int32.toInt_sub, nI_toInt (by omega), show (64 : Int32).toInt = 64 from rfl, Int.bmod_eq_of_le (by omega) (by omega)]
  omega
theorem jnum_of {y : Int64} {s : Int32} {k : Nat} {v : Int32} (h1 : ((y.toUInt64 >>> (s.toInt64.toUInt64 &&& Int64.toUInt64 63)).toInt64 &&& 255).toBitVec = bAt y.toBitVec k) (h2 : bAt y.toBitVec k = (jw8 v).toInt64.toBitVec) : jnum y s = jw8 v - 64 := by
  have e : (y.toUInt64 >>> (s.toInt64.toUInt64 &&& Int64.toUInt64 63)).toInt64 &&& 255 = (jw8 v).toInt64 := Int64.toBitVec_inj.mp (by rw [h1, h2])
  unfold jnum
  rw [e, Int32.toInt32_toInt64]
theorem c_num_0 (p : Int64) (h : zH) : zT zg0 zF zP 33 0 [(0, .long p), (2, .int 0)] [] h 0 0 (some (.int (jnum p 40)), h, 0, 0) := ⟨30, rfl⟩
theorem jnum_b0 (y : Int64) : ((y.toUInt64 >>> ((40 : Int32).toInt64.toUInt64 &&& Int64.toUInt64 63)).toInt64 &&& 255).toBitVec = bAt y.toBitVec 40 := rfl
theorem jput_b0 (p : Int64) (v : Int32) : (jput p (-280375465082881) 40 v).toBitVec = bPut p.toBitVec (jw8 v).toInt64.toBitVec 40 := rfl
theorem c_num_1 (p : Int64) (h : zH) : zT zg0 zF zP 33 0 [(0, .long p), (2, .int 1)] [] h 0 0 (some (.int (jnum p 32)), h, 0, 0) := ⟨30, rfl⟩
theorem jnum_b1 (y : Int64) : ((y.toUInt64 >>> ((32 : Int32).toInt64.toUInt64 &&& Int64.toUInt64 63)).toInt64 &&& 255).toBitVec = bAt y.toBitVec 32 := rfl
theorem jput_b1 (p : Int64) (v : Int32) : (jput p (-1095216660481) 32 v).toBitVec = bPut p.toBitVec (jw8 v).toInt64.toBitVec 32 := rfl
theorem c_num_2 (p : Int64) (h : zH) : zT zg0 zF zP 33 0 [(0, .long p), (2, .int 2)] [] h 0 0 (some (.int (jnum p 24)), h, 0, 0) := ⟨30, rfl⟩
theorem jnum_b2 (y : Int64) : ((y.toUInt64 >>> ((24 : Int32).toInt64.toUInt64 &&& Int64.toUInt64 63)).toInt64 &&& 255).toBitVec = bAt y.toBitVec 24 := rfl
theorem jput_b2 (p : Int64) (v : Int32) : (jput p (-4278190081) 24 v).toBitVec = bPut p.toBitVec (jw8 v).toInt64.toBitVec 24 := rfl
theorem c_num_3 (p : Int64) (h : zH) : zT zg0 zF zP 33 0 [(0, .long p), (2, .int 3)] [] h 0 0 (some (.int (jnum p 16)), h, 0, 0) := ⟨30, rfl⟩
theorem jnum_b3 (y : Int64) : ((y.toUInt64 >>> ((16 : Int32).toInt64.toUInt64 &&& Int64.toUInt64 63)).toInt64 &&& 255).toBitVec = bAt y.toBitVec 16 := rfl
theorem jput_b3 (p : Int64) (v : Int32) : (jput p (-16711681) 16 v).toBitVec = bPut p.toBitVec (jw8 v).toInt64.toBitVec 16 := rfl
theorem c_num_4 (p : Int64) (h : zH) : zT zg0 zF zP 33 0 [(0, .long p), (2, .int 4)] [] h 0 0 (some (.int (jnum p 8)), h, 0, 0) := ⟨30, rfl⟩
theorem jnum_b4 (y : Int64) : ((y.toUInt64 >>> ((8 : Int32).toInt64.toUInt64 &&& Int64.toUInt64 63)).toInt64 &&& 255).toBitVec = bAt y.toBitVec 8 := rfl
theorem jput_b4 (p : Int64) (v : Int32) : (jput p (-65281) 8 v).toBitVec = bPut p.toBitVec (jw8 v).toInt64.toBitVec 8 := rfl
theorem c_num_5 (p : Int64) (h : zH) : zT zg0 zF zP 33 0 [(0, .long p), (2, .int 5)] [] h 0 0 (some (.int (jnum p 0)), h, 0, 0) := ⟨30, rfl⟩
theorem jnum_b5 (y : Int64) : ((y.toUInt64 >>> ((0 : Int32).toInt64.toUInt64 &&& Int64.toUInt64 63)).toInt64 &&& 255).toBitVec = bAt y.toBitVec 0 := rfl
theorem jput_b5 (p : Int64) (v : Int32) : (jput p (-256) 0 v).toBitVec = bPut p.toBitVec (jw8 v).toInt64.toBitVec 0 := rfl
theorem jpos_bv (r a b c d e : Int32) : (jpos r a b c d e).toBitVec = (bPut (bPut (bPut (bPut (bPut (bPut (0 : Int64).toBitVec (jw8 r).toInt64.toBitVec 40) (jw8 a).toInt64.toBitVec 32) (jw8 b).toInt64.toBitVec 24) (jw8 c).toInt64.toBitVec 16) (jw8 d).toInt64.toBitVec 8) (jw8 e).toInt64.toBitVec 0) := by
  unfold jpos
  rw [jput_b5, jput_b4, jput_b3, jput_b2, jput_b1, jput_b0]
theorem jpos_n0 (r a b c d e : Int32) (h : -64 ≤ r.toInt ∧ r.toInt ≤ 191) : jnum (jpos r a b c d e) 40 = r := by
  rw [jnum_of (k := 40) (v := r) (jnum_b0 _) ?_, jw8_v h]
  rw [jpos_bv]
  rw [b_other _ _ (jw8_bv _) (by decide) (by decide) (by decide)]
  rw [b_other _ _ (jw8_bv _) (by decide) (by decide) (by decide)]
  rw [b_other _ _ (jw8_bv _) (by decide) (by decide) (by decide)]
  rw [b_other _ _ (jw8_bv _) (by decide) (by decide) (by decide)]
  rw [b_other _ _ (jw8_bv _) (by decide) (by decide) (by decide)]
  rw [b_same _ _ (by decide), jw8_bv]
theorem jpos_n1 (r a b c d e : Int32) (h : -64 ≤ a.toInt ∧ a.toInt ≤ 191) : jnum (jpos r a b c d e) 32 = a := by
  rw [jnum_of (k := 32) (v := a) (jnum_b1 _) ?_, jw8_v h]
  rw [jpos_bv]
  rw [b_other _ _ (jw8_bv _) (by decide) (by decide) (by decide)]
  rw [b_other _ _ (jw8_bv _) (by decide) (by decide) (by decide)]
  rw [b_other _ _ (jw8_bv _) (by decide) (by decide) (by decide)]
  rw [b_other _ _ (jw8_bv _) (by decide) (by decide) (by decide)]
  rw [b_same _ _ (by decide), jw8_bv]
theorem jpos_n2 (r a b c d e : Int32) (h : -64 ≤ b.toInt ∧ b.toInt ≤ 191) : jnum (jpos r a b c d e) 24 = b := by
  rw [jnum_of (k := 24) (v := b) (jnum_b2 _) ?_, jw8_v h]
  rw [jpos_bv]
  rw [b_other _ _ (jw8_bv _) (by decide) (by decide) (by decide)]
  rw [b_other _ _ (jw8_bv _) (by decide) (by decide) (by decide)]
  rw [b_other _ _ (jw8_bv _) (by decide) (by decide) (by decide)]
  rw [b_same _ _ (by decide), jw8_bv]
theorem jpos_n3 (r a b c d e : Int32) (h : -64 ≤ c.toInt ∧ c.toInt ≤ 191) : jnum (jpos r a b c d e) 16 = c := by
  rw [jnum_of (k := 16) (v := c) (jnum_b3 _) ?_, jw8_v h]
  rw [jpos_bv]
  rw [b_other _ _ (jw8_bv _) (by decide) (by decide) (by decide)]
  rw [b_other _ _ (jw8_bv _) (by decide) (by decide) (by decide)]
  rw [b_same _ _ (by decide), jw8_bv]
theorem jpos_n4 (r a b c d e : Int32) (h : -64 ≤ d.toInt ∧ d.toInt ≤ 191) : jnum (jpos r a b c d e) 8 = d := by
  rw [jnum_of (k := 8) (v := d) (jnum_b4 _) ?_, jw8_v h]
  rw [jpos_bv]
  rw [b_other _ _ (jw8_bv _) (by decide) (by decide) (by decide)]
  rw [b_same _ _ (by decide), jw8_bv]
theorem jpos_n5 (r a b c d e : Int32) (h : -64 ≤ e.toInt ∧ e.toInt ≤ 191) : jnum (jpos r a b c d e) 0 = e := by
  rw [jnum_of (k := 0) (v := e) (jnum_b5 _) ?_, jw8_v h]
  rw [jpos_bv]
  rw [b_same _ _ (by decide), jw8_bv]
