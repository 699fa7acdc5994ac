/-! Bits of counts. -/
theorem b_nI (a : Nat) : (nI a).toBitVec = BitVec.ofNat 32 a := rfl
theorem b_31 {k : Nat} (hk : k < 32) : (nI k &&& 31) = nI k := by
  apply Int32.toBitVec_inj.mp
  rw [Int32.toBitVec_and, b_nI]
  apply BitVec.eq_of_toNat_eq
  rw [BitVec.toNat_and, BitVec.toNat_ofNat]
  show k % 2 ^ 32 &&& (2 ^ 5 - 1) = k % 2 ^ 32
  rw [Nat.and_two_pow_sub_one_eq_mod]
  omega
theorem e_or (a b : Nat) : (nI a ||| nI b) = nI (a ||| b) := by
  apply Int32.toBitVec_inj.mp
  rw [Int32.toBitVec_or, b_nI, b_nI, b_nI]
  apply BitVec.eq_of_toNat_eq
  rw [BitVec.toNat_or, BitVec.toNat_ofNat, BitVec.toNat_ofNat, BitVec.toNat_ofNat, Nat.or_mod_two_pow]
theorem e_and1 (b : Nat) : (nI b &&& (1 : Int32)) = nI (b % 2) := by
  apply Int32.toBitVec_inj.mp
  rw [Int32.toBitVec_and, b_nI, b_nI]
  apply BitVec.eq_of_toNat_eq
  rw [BitVec.toNat_and, BitVec.toNat_ofNat, BitVec.toNat_ofNat]
  show b % 2 ^ 32 &&& (2 ^ 1 - 1) = _
  rw [Nat.and_two_pow_sub_one_eq_mod]
  omega
theorem e_ushr {b k : Nat} (hb : b < 2 ^ 31) (hk : k < 32) : ((nI b).toUInt32 >>> ((nI k).toUInt32 &&& Int32.toUInt32 31)).toInt32 = nI (b >>> k) := by
  apply Int32.toBitVec_inj.mp
  show ((nI b).toUInt32 >>> ((nI k).toUInt32 &&& Int32.toUInt32 31)).toBitVec = _
  rw [UInt32.toBitVec_shiftRight, UInt32.toBitVec_and]
  show (BitVec.ofNat 32 b) >>> ((BitVec.ofNat 32 k &&& 31#32) % 32#32) = BitVec.ofNat 32 (b >>> k)
  have e : (BitVec.ofNat 32 k &&& 31#32) % 32#32 = BitVec.ofNat 32 k := by
    apply BitVec.eq_of_toNat_eq
    rw [BitVec.toNat_umod, BitVec.toNat_and, BitVec.toNat_ofNat]
    show (k % 2 ^ 32 &&& (2 ^ 5 - 1)) % 32 = _
    rw [Nat.and_two_pow_sub_one_eq_mod]
    omega
  rw [e]
  apply BitVec.eq_of_toNat_eq
  rw [BitVec.ushiftRight_eq', BitVec.toNat_ushiftRight, BitVec.toNat_ofNat, BitVec.toNat_ofNat, BitVec.toNat_ofNat, Nat.mod_eq_of_lt (show k < 2 ^ 32 by omega), Nat.mod_eq_of_lt (show b < 2 ^ 32 by omega)]
  have := Nat.shiftRight_le b k
  rw [Nat.mod_eq_of_lt (by omega)]
theorem e_shr {b k : Nat} (hb : b < 2 ^ 31) (hk : k < 32) : (nI b >>> (nI k &&& 31)) = nI (b >>> k) := by
  rw [b_31 hk]
  apply Int32.toBitVec_inj.mp
  rw [Int32.toBitVec_shiftRight, b_nI, b_nI, b_nI]
  have e : (BitVec.ofNat 32 k).smod 32 = BitVec.ofNat 32 k := by
    have : ∀ k, k < 32 → (BitVec.ofNat 32 k).smod 32 = BitVec.ofNat 32 k := by decide
    exact this k hk
  rw [e]
  show (BitVec.ofNat 32 b).sshiftRight (BitVec.ofNat 32 k).toNat = _
  rw [BitVec.sshiftRight_eq_of_msb_false (by rw [BitVec.msb_eq_decide, BitVec.toNat_ofNat]; simp; omega)]
  apply BitVec.eq_of_toNat_eq
  rw [BitVec.toNat_ushiftRight, BitVec.toNat_ofNat, BitVec.toNat_ofNat, BitVec.toNat_ofNat, Nat.mod_eq_of_lt (show k < 2 ^ 32 by omega), Nat.mod_eq_of_lt (show b < 2 ^ 32 by omega)]
  have := Nat.shiftRight_le b k
  rw [Nat.mod_eq_of_lt (by omega)]
theorem e_shl {k : Nat} (hk : k < 31) : ((1 : Int32) <<< (nI k &&& 31)) = nI (2 ^ k) := by
  rw [b_31 (by omega)]
  have : ∀ k, k < 31 → ((1 : Int32) <<< nI k) = nI (2 ^ k) := by decide
  exact this k hk
theorem e_bit (b k : Nat) : b >>> k % 2 = if b.testBit k then 1 else 0 := by
  rw [Nat.testBit, Nat.and_comm, Nat.and_one_is_mod]
  rcases Nat.mod_two_eq_zero_or_one (b >>> k) with h | h
  · rw [h]; rfl
  · rw [h]; rfl
theorem wq_alenb {y pc pf : Nat} {ls : zL} {rest : List Value} {h : zH} {dc ds : Nat} {Q : zR → Prop} {len : Nat} {K : zK} {tg : List Nat} {a n : Nat} {f : List Int32} (hP : zP y pc = some (.arraylength, len, K, tg)) (hat : zat h a = some (.inl (1, n, f))) (hpf : pc + 1 = pf) (kk : wq y pf ls (.int (nI n) :: rest) h dc ds Q) : wq y pc ls (.ref a :: rest) h dc ds Q := by
  subst hpf
  refine wq_step hP ?_ kk
  show zalen zg0 pc ls (.ref a :: rest) h = _
  unfold zalen
  (try dsimp only)
  rw [hat]
  rfl
