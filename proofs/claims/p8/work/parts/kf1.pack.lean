/-! The packed number of a posture, taken apart; the k-th solution of both sides. -/
theorem l_nat {x : Int64} (h0 : 0 ≤ x.toInt) : (x.toBitVec.toNat : Int) = x.toInt := by
  have q : x.toInt = x.toBitVec.toInt := rfl
  have b : x.toBitVec.toNat < 2 ^ 64 := x.toBitVec.isLt
  rw [q, BitVec.toInt_eq_toNat_cond] at h0
  rw [q, BitVec.toInt_eq_toNat_cond]
  by_cases c : 2 * x.toBitVec.toNat < 2 ^ 64
  · rw [if_pos c]
  · rw [if_neg c] at h0
    omega
theorem l_and63 {x : Int64} (h0 : 0 ≤ x.toInt) : (x &&& 63).toInt32.toInt = x.toInt % 64 := by
  have e1 : (x &&& 63).toBitVec.toNat = x.toBitVec.toNat % 64 := by
    rw [Int64.toBitVec_and, BitVec.toNat_and, show (63 : Int64).toBitVec = BitVec.ofNat 64 (2 ^ 6 - 1) from rfl, BitVec.toNat_ofNat, Nat.mod_eq_of_lt (a := 2 ^ 6 - 1) (by decide)]
    exact Nat.and_two_pow_sub_one_eq_mod _ 6
  have e4 : (x &&& 63).toInt = ((x.toBitVec.toNat % 64 : Nat) : Int) := by
    show (x &&& 63).toBitVec.toInt = _
    rw [BitVec.toInt_eq_toNat_of_lt (by rw [e1]; omega), e1]
  have e5 := l_nat h0
  rw [Int64.toInt_toInt32, e4, Int.bmod_eq_of_le (by omega) (by omega)]
  omega
theorem l_and127 {x : Int64} (h0 : 0 ≤ x.toInt) : (x &&& 127).toInt32.toInt = x.toInt % 128 := by
  have e1 : (x &&& 127).toBitVec.toNat = x.toBitVec.toNat % 128 := by
    rw [Int64.toBitVec_and, BitVec.toNat_and, show (127 : Int64).toBitVec = BitVec.ofNat 64 (2 ^ 7 - 1) from rfl, BitVec.toNat_ofNat, Nat.mod_eq_of_lt (a := 2 ^ 7 - 1) (by decide)]
    exact Nat.and_two_pow_sub_one_eq_mod _ 7
  have e4 : (x &&& 127).toInt = ((x.toBitVec.toNat % 128 : Nat) : Int) := by
    show (x &&& 127).toBitVec.toInt = _
    rw [BitVec.toInt_eq_toNat_of_lt (by rw [e1]; omega), e1]
  have e5 := l_nat h0
  rw [Int64.toInt_toInt32, e4, Int.bmod_eq_of_le (by omega) (by omega)]
  omega
theorem l_shr7 (v : Int64) : (v >>> (7 : Int64)).toInt = v.toInt / 128 := by
  show (v >>> (7 : Int64)).toBitVec.toInt = v.toBitVec.toInt / 128
  rw [Int64.toBitVec_shiftRight, BitVec.toInt_sshiftRight']
  have : ((7 : Int64).toBitVec.smod 64).toNat = 7 := by decide
  rw [this, Int.shiftRight_eq_div_pow]
  rfl
theorem l_shr13 (v : Int64) : (v >>> (13 : Int64)).toInt = v.toInt / 8192 := by
  show (v >>> (13 : Int64)).toBitVec.toInt = v.toBitVec.toInt / 8192
  rw [Int64.toBitVec_shiftRight, BitVec.toInt_sshiftRight']
  have : ((13 : Int64).toBitVec.smod 64).toNat = 13 := by decide
  rw [this, Int.shiftRight_eq_div_pow]
  rfl
theorem l_shr19 (v : Int64) : (v >>> (19 : Int64)).toInt = v.toInt / 524288 := by
  show (v >>> (19 : Int64)).toBitVec.toInt = v.toBitVec.toInt / 524288
  rw [Int64.toBitVec_shiftRight, BitVec.toInt_sshiftRight']
  have : ((19 : Int64).toBitVec.smod 64).toNat = 19 := by decide
  rw [this, Int.shiftRight_eq_div_pow]
  rfl
theorem l_shr25 (v : Int64) : (v >>> (25 : Int64)).toInt = v.toInt / 33554432 := by
  show (v >>> (25 : Int64)).toBitVec.toInt = v.toBitVec.toInt / 33554432
  rw [Int64.toBitVec_shiftRight, BitVec.toInt_sshiftRight']
  have : ((25 : Int64).toBitVec.smod 64).toNat = 25 := by decide
  rw [this, Int.shiftRight_eq_div_pow]
  rfl
theorem l_shr31 (v : Int64) : (v >>> (31 : Int64)).toInt = v.toInt / 2147483648 := by
  show (v >>> (31 : Int64)).toBitVec.toInt = v.toBitVec.toInt / 2147483648
  rw [Int64.toBitVec_shiftRight, BitVec.toInt_sshiftRight']
  have : ((31 : Int64).toBitVec.smod 64).toNat = 31 := by decide
  rw [this, Int.shiftRight_eq_div_pow]
  rfl
theorem mJof_0 {z : tP} (h : tBd z) : mJof (tPack z) 0 = z.1 := by
  have e := tPack_I h
  obtain ⟨h0, h1, h2, h3, h4, h5⟩ := h
  have e1 : ((((7 : Int32) + ((6 : Int32) * ((4 : Int32) - 0)))).toInt64 &&& 63) = 31 := by decide
  unfold mJof
  rw [if_pos (by decide), if_neg (by decide), e1]
  apply Int32.toInt_inj.mp
  rw [Int64.toInt_toInt32, l_shr31, e, Int.bmod_eq_of_le (by omega) (by omega)]
  omega
theorem mJof_1 {z : tP} (h : tBd z) : mJof (tPack z) 1 = z.2.1 := by
  have e := tPack_I h
  obtain ⟨h0, h1, h2, h3, h4, h5⟩ := h
  have e1 : ((((7 : Int32) + ((6 : Int32) * ((4 : Int32) - 1)))).toInt64 &&& 63) = 25 := by decide
  have z32 : (32 : Int32).toInt = 32 := rfl
  have p : 0 ≤ (tPack z >>> (25 : Int64)).toInt := by
    rw [l_shr25, e]
    omega
  unfold mJof
  rw [if_pos (by decide), if_pos (by decide), e1]
  apply Int32.toInt_inj.mp
  rw [Int32.toInt_sub, l_and63 p, l_shr25, e, z32, Int.bmod_eq_of_le (by omega) (by omega)]
  omega
theorem mJof_2 {z : tP} (h : tBd z) : mJof (tPack z) 2 = z.2.2.1 := by
  have e := tPack_I h
  obtain ⟨h0, h1, h2, h3, h4, h5⟩ := h
  have e1 : ((((7 : Int32) + ((6 : Int32) * ((4 : Int32) - 2)))).toInt64 &&& 63) = 19 := by decide
  have z32 : (32 : Int32).toInt = 32 := rfl
  have p : 0 ≤ (tPack z >>> (19 : Int64)).toInt := by
    rw [l_shr19, e]
    omega
  unfold mJof
  rw [if_pos (by decide), if_pos (by decide), e1]
  apply Int32.toInt_inj.mp
  rw [Int32.toInt_sub, l_and63 p, l_shr19, e, z32, Int.bmod_eq_of_le (by omega) (by omega)]
  omega
theorem mJof_3 {z : tP} (h : tBd z) : mJof (tPack z) 3 = z.2.2.2.1 := by
  have e := tPack_I h
  obtain ⟨h0, h1, h2, h3, h4, h5⟩ := h
  have e1 : ((((7 : Int32) + ((6 : Int32) * ((4 : Int32) - 3)))).toInt64 &&& 63) = 13 := by decide
  have z32 : (32 : Int32).toInt = 32 := rfl
  have p : 0 ≤ (tPack z >>> (13 : Int64)).toInt := by
    rw [l_shr13, e]
    omega
  unfold mJof
  rw [if_pos (by decide), if_pos (by decide), e1]
  apply Int32.toInt_inj.mp
  rw [Int32.toInt_sub, l_and63 p, l_shr13, e, z32, Int.bmod_eq_of_le (by omega) (by omega)]
  omega
theorem mJof_4 {z : tP} (h : tBd z) : mJof (tPack z) 4 = z.2.2.2.2.1 := by
  have e := tPack_I h
  obtain ⟨h0, h1, h2, h3, h4, h5⟩ := h
  have e1 : ((((7 : Int32) + ((6 : Int32) * ((4 : Int32) - 4)))).toInt64 &&& 63) = 7 := by decide
  have z32 : (32 : Int32).toInt = 32 := rfl
  have p : 0 ≤ (tPack z >>> (7 : Int64)).toInt := by
    rw [l_shr7, e]
    omega
  unfold mJof
  rw [if_pos (by decide), if_pos (by decide), e1]
  apply Int32.toInt_inj.mp
  rw [Int32.toInt_sub, l_and63 p, l_shr7, e, z32, Int.bmod_eq_of_le (by omega) (by omega)]
  omega
theorem mJof_5 {z : tP} (h : tBd z) : mJof (tPack z) 5 = z.2.2.2.2.2 := by
  have e := tPack_I h
  obtain ⟨h0, h1, h2, h3, h4, h5⟩ := h
  have z64 : (64 : Int32).toInt = 64 := rfl
  unfold mJof
  rw [if_neg (by decide)]
  apply Int32.toInt_inj.mp
  rw [Int32.toInt_sub, l_and127 (by omega), e, z64, Int.bmod_eq_of_le (by omega) (by omega)]
  omega
/-- a posture's joint -/
noncomputable def tJ (z : tP) (j : Nat) : Int32 := match j with
  | 0 => z.1
  | 1 => z.2.1
  | 2 => z.2.2.1
  | 3 => z.2.2.2.1
  | 4 => z.2.2.2.2.1
  | _ => z.2.2.2.2.2
theorem jnv_0 (p : Int64) : jnumv p (nI 0) = jnum p 40 := by
  have e : ((40 : Int32) - ((8 : Int32) * nI 0)) = 40 := by decide
  unfold jnumv jnum
  rw [e]
theorem jnv_1 (p : Int64) : jnumv p (nI 1) = jnum p 32 := by
  have e : ((40 : Int32) - ((8 : Int32) * nI 1)) = 32 := by decide
  unfold jnumv jnum
  rw [e]
theorem jnv_2 (p : Int64) : jnumv p (nI 2) = jnum p 24 := by
  have e : ((40 : Int32) - ((8 : Int32) * nI 2)) = 24 := by decide
  unfold jnumv jnum
  rw [e]
theorem jnv_3 (p : Int64) : jnumv p (nI 3) = jnum p 16 := by
  have e : ((40 : Int32) - ((8 : Int32) * nI 3)) = 16 := by decide
  unfold jnumv jnum
  rw [e]
theorem jnv_4 (p : Int64) : jnumv p (nI 4) = jnum p 8 := by
  have e : ((40 : Int32) - ((8 : Int32) * nI 4)) = 8 := by decide
  unfold jnumv jnum
  rw [e]
theorem jnv_5 (p : Int64) : jnumv p (nI 5) = jnum p 0 := by
  have e : ((40 : Int32) - ((8 : Int32) * nI 5)) = 0 := by decide
  unfold jnumv jnum
  rw [e]
theorem tPos_j {z : tP} (h : tBd z) {j : Nat} (hj : j < 6) : jnumv (tPos z) (nI j) = tJ z j := by
  obtain ⟨h0, h1, h2, h3, h4, h5⟩ := h
  rcases (show j = 0 ∨ j = 1 ∨ j = 2 ∨ j = 3 ∨ j = 4 ∨ j = 5 by omega) with e | e | e | e | e | e <;> subst e
  · rw [jnv_0]; exact jpos_n0 _ _ _ _ _ _ (by omega)
  · rw [jnv_1]; exact jpos_n1 _ _ _ _ _ _ (by omega)
  · rw [jnv_2]; exact jpos_n2 _ _ _ _ _ _ (by omega)
  · rw [jnv_3]; exact jpos_n3 _ _ _ _ _ _ (by omega)
  · rw [jnv_4]; exact jpos_n4 _ _ _ _ _ _ (by omega)
  · rw [jnv_5]; exact jpos_n5 _ _ _ _ _ _ (by omega)
theorem tPack_j {z : tP} (h : tBd z) {j : Nat} (hj : j < 6) : mJof (tPack z) (nI j) = tJ z j := by
  rcases (show j = 0 ∨ j = 1 ∨ j = 2 ∨ j = 3 ∨ j = 4 ∨ j = 5 by omega) with e | e | e | e | e | e <;> subst e
  · exact mJof_0 h
  · exact mJof_1 h
  · exact mJof_2 h
  · exact mJof_3 h
  · exact mJof_4 h
  · exact mJof_5 h
theorem mUnp_g {v : Int64} {k : Nat} {qq : List Int32} {j : Nat} (hj : j < 6) : (mUnp v k qq).getD (k + j) 0 = mJof v (nI j) := by
  unfold mUnp
  simp only [zset_get]
  rcases (show j = 0 ∨ j = 1 ∨ j = 2 ∨ j = 3 ∨ j = 4 ∨ j = 5 by omega) with e | e | e | e | e | e <;> subst e
  all_goals repeat (first | rw [if_pos (by omega)] | rw [if_neg (by omega)])
  all_goals rfl
/-- what solves a place, on both sides: as many, or too many; the k-th is the same posture -/
theorem sol_at {lo hi ll lg kn tg pl : List Int32} (hw : wLim lo hi ll lg) (hl : 1 ≤ (kn.getD 0 0).toInt ∧ (kn.getD 0 0).toInt ≤ 99) (hh : 1 ≤ (kn.getD 1 0).toInt ∧ (kn.getD 1 0).toInt ≤ 99) (h4 : 0 ≤ (tg.getD 4 0).toInt) (hlm : wLm ll lg) (hp : ∀ i, i < 6 → tg.getD i 0 = pl.getD i 0) :
    (600 < (sSolL ll lg (kn.getD 0 0) (kn.getD 1 0) (kn.getD 2 0) pl 64 (-32)).length ∧ mSol lo hi kn tg = none) ∨ ∃ l2, mSol lo hi kn tg = some l2 ∧ (sSolL ll lg (kn.getD 0 0) (kn.getD 1 0) (kn.getD 2 0) pl 64 (-32)).length = l2.length ∧ l2.length ≤ 600 ∧ ∀ (cap : Nat) (li fo : List Int64), wHK (sSolL ll lg (kn.getD 0 0) (kn.getD 1 0) (kn.getD 2 0) pl 64 (-32)) cap li → wFd 4800 (mSol lo hi kn tg) fo → ∀ k, k < l2.length → ∃ x : tP, tBd x ∧ li.getD k 0 = tPos x ∧ fo.getD (4800 + k) 0 = tPack x := by
  rw [← sSolL_c hp]
  rcases sols_eq hw hl hh h4 with k | ⟨l2, k1, k2, k3, k4⟩
  · exact Or.inl k
  · refine Or.inr ⟨l2, k1, k2, k3, fun cap li fo hK hF k hk => ?_⟩
    have e1 := sSolL_t hl hh ll lg (kn.getD 2 0) tg 64 (-32)
    have hm : l2[k] ∈ (tCls ll lg (kn.getD 0 0) (kn.getD 1 0) (kn.getD 2 0) tg).map tPack := k4.mem_iff.mp (List.getElem_mem hk)
    obtain ⟨x, hx, ex⟩ := List.mem_map.mp hm
    obtain ⟨i, hi, ei⟩ := List.getElem_of_mem hx
    have gi : (tCls ll lg (kn.getD 0 0) (kn.getD 1 0) (kn.getD 2 0) tg)[i]? = some x := List.getElem?_eq_some_iff.mpr ⟨hi, ei⟩
    have go := sol_ord hw hl hh h4 hlm k1 gi
    have hb := tBd_of hlm (tCls_mem hx)
    have gs : (sSolL ll lg (kn.getD 0 0) (kn.getD 1 0) (kn.getD 2 0) tg 64 (-32))[i]? = some (tPos x) := by
      rw [e1]
      show ((tCls ll lg (kn.getD 0 0) (kn.getD 1 0) (kn.getD 2 0) tg).map tPos)[i]? = _
      rw [List.getElem?_map, gi]
      rfl
    have g1 := hK.1 (by rw [k2]; exact k3) i (tPos x) gs
    -- the place in the reference's row
    have hnd := sol_nd hw hl hh h4 hlm k1
    obtain ⟨h9, e9⟩ := List.getElem?_eq_some_iff.mp go
    have ek : pN (sSolL ll lg (kn.getD 0 0) (kn.getD 1 0) (kn.getD 2 0) tg 64 (-32)) i (tPos x) = k := by
      rcases Nat.lt_trichotomy (pN (sSolL ll lg (kn.getD 0 0) (kn.getD 1 0) (kn.getD 2 0) tg 64 (-32)) i (tPos x)) k with q | q | q
      · exact absurd (e9.trans ex) (List.pairwise_iff_getElem.mp hnd _ _ h9 hk q)
      · exact q
      · exact absurd (ex.symm.trans e9.symm) (List.pairwise_iff_getElem.mp hnd _ _ hk h9 q)
    rw [ek] at g1
    refine ⟨x, hb, g1, ?_⟩
    rw [k1] at hF
    rw [hF.2 k l2[k] (List.getElem?_eq_some_iff.mpr ⟨hk, rfl⟩), ex]
