/-! side, bend, measure, kept, ticks at the first state. -/
noncomputable def jsg (x : Int32) : Int32 := if x.toInt ≤ 0 then (if 0 ≤ x.toInt then 0 else (-1)) else 1
theorem c_sgn (x : Int32) (h : zH) : zT zg0 zF zP 151 0 [(0, .int x)] [] h 0 0 (some (.int (jsg x)), h, 0, 0) := by
  apply wq_toT
  refine wq_gos (f := 1) (pc2 := 1) (ls2 := [(0, .int x)]) (st2 := [.int x]) (h2 := h) (dc2 := 0) (ds2 := 0) 1 rfl ?_
  refine wq_le0 rfl rfl (fun b1x => ?_) (fun b1x => ?_)
  · refine wq_gos (f := 1) (pc2 := 9) (ls2 := [(0, .int x)]) (st2 := [.int x]) (h2 := h) (dc2 := 0) (ds2 := 0) 1 rfl ?_
    refine wq_ge0 rfl rfl (fun b2x => ?_) (fun b2x => ?_)
    · refine wq_gos (f := 1) (pc2 := 17) (ls2 := [(0, .int x)]) (st2 := [.int 0]) (h2 := h) (dc2 := 0) (ds2 := 0) 1 rfl ?_
      refine wq_ret rfl rfl ?_
      show (some (Value.int 0), h, 0, 0) = (some (Value.int (jsg x)), h, 0, 0)
      rw [show jsg x = 0 by unfold jsg; rw [if_pos b1x, if_pos b2x]]
    · refine wq_gos (f := 1) (pc2 := 17) (ls2 := [(0, .int x)]) (st2 := [.int (-1)]) (h2 := h) (dc2 := 0) (ds2 := 0) 2 rfl ?_
      refine wq_ret rfl rfl ?_
      show (some (Value.int (-1)), h, 0, 0) = (some (Value.int (jsg x)), h, 0, 0)
      rw [show jsg x = (-1) by unfold jsg; rw [if_pos b1x, if_neg (Int.not_le.mpr b2x)]]
  · refine wq_gos (f := 1) (pc2 := 17) (ls2 := [(0, .int x)]) (st2 := [.int 1]) (h2 := h) (dc2 := 0) (ds2 := 0) 2 rfl ?_
    refine wq_ret rfl rfl ?_
    show (some (Value.int 1), h, 0, 0) = (some (Value.int (jsg x)), h, 0, 0)
    rw [show jsg x = 1 by unfold jsg; rw [if_neg (Int.not_le.mpr b1x)]]
theorem m_sgn (x : Int32) (h : zH) : zT zg0 zF zP 202 0 [(0, .int x)] [] h 0 0 (some (.int (jsg x)), h, 0, 0) := by
  apply wq_toT
  refine wq_gos (f := 1) (pc2 := 1) (ls2 := [(0, .int x)]) (st2 := [.int x]) (h2 := h) (dc2 := 0) (ds2 := 0) 1 rfl ?_
  refine wq_le0 rfl rfl (fun b1x => ?_) (fun b1x => ?_)
  · refine wq_gos (f := 1) (pc2 := 9) (ls2 := [(0, .int x)]) (st2 := [.int x]) (h2 := h) (dc2 := 0) (ds2 := 0) 1 rfl ?_
    refine wq_ge0 rfl rfl (fun b2x => ?_) (fun b2x => ?_)
    · refine wq_gos (f := 1) (pc2 := 17) (ls2 := [(0, .int x)]) (st2 := [.int 0]) (h2 := h) (dc2 := 0) (ds2 := 0) 1 rfl ?_
      refine wq_ret rfl rfl ?_
      show (some (Value.int 0), h, 0, 0) = (some (Value.int (jsg x)), h, 0, 0)
      rw [show jsg x = 0 by unfold jsg; rw [if_pos b1x, if_pos b2x]]
    · refine wq_gos (f := 1) (pc2 := 17) (ls2 := [(0, .int x)]) (st2 := [.int (-1)]) (h2 := h) (dc2 := 0) (ds2 := 0) 2 rfl ?_
      refine wq_ret rfl rfl ?_
      show (some (Value.int (-1)), h, 0, 0) = (some (Value.int (jsg x)), h, 0, 0)
      rw [show jsg x = (-1) by unfold jsg; rw [if_pos b1x, if_neg (Int.not_le.mpr b2x)]]
  · refine wq_gos (f := 1) (pc2 := 17) (ls2 := [(0, .int x)]) (st2 := [.int 1]) (h2 := h) (dc2 := 0) (ds2 := 0) 2 rfl ?_
    refine wq_ret rfl rfl ?_
    show (some (Value.int 1), h, 0, 0) = (some (Value.int (jsg x)), h, 0, 0)
    rw [show jsg x = 1 by unfold jsg; rw [if_neg (Int.not_le.mpr b1x)]]
noncomputable def jside (x : Int64) : Int32 := jsg (jsin (jnum x 32))
theorem c_side (x : Int64) (h : zH) : zT zg0 zF zP 35 0 [(0, .long x)] [] h 0 0 (some (.int (jside x)), h, 0, 0) := by
  apply wq_toT
  refine wq_gos (f := 1) (pc2 := 2) (ls2 := [(0, .long x)]) (st2 := [.int 1, .long x]) (h2 := h) (dc2 := 0) (ds2 := 0) 2 rfl ?_
  refine wq_inl (y2 := 33) (as := [.long x, .int 1]) rfl rfl rfl (wq_T (c_num_1 x h) ?_)
  show wq 35 5 [(0, .long x)] [.int (jnum x 32)] h 0 0 _
  refine wq_inl (y2 := 150) (as := [.int (jnum x 32)]) rfl rfl rfl (wq_T (c_sin (jnum x 32) h) ?_)
  show wq 35 8 [(0, .long x)] [.int (jsin (jnum x 32))] h 0 0 _
  refine wq_inl (y2 := 151) (as := [.int (jsin (jnum x 32))]) rfl rfl rfl (wq_T (c_sgn (jsin (jnum x 32)) h) ?_)
  show wq 35 11 [(0, .long x)] [.int (jsg (jsin (jnum x 32)))] h 0 0 _
  exact wq_ret rfl rfl rfl
noncomputable def jbend (x : Int64) : Int32 := jsg (jsin (jnum x 16))
theorem c_bend (x : Int64) (h : zH) : zT zg0 zF zP 36 0 [(0, .long x)] [] h 0 0 (some (.int (jbend x)), h, 0, 0) := by
  apply wq_toT
  refine wq_gos (f := 1) (pc2 := 2) (ls2 := [(0, .long x)]) (st2 := [.int 3, .long x]) (h2 := h) (dc2 := 0) (ds2 := 0) 2 rfl ?_
  refine wq_inl (y2 := 33) (as := [.long x, .int 3]) rfl rfl rfl (wq_T (c_num_3 x h) ?_)
  show wq 36 5 [(0, .long x)] [.int (jnum x 16)] h 0 0 _
  refine wq_inl (y2 := 150) (as := [.int (jnum x 16)]) rfl rfl rfl (wq_T (c_sin (jnum x 16) h) ?_)
  show wq 36 8 [(0, .long x)] [.int (jsin (jnum x 16))] h 0 0 _
  refine wq_inl (y2 := 151) (as := [.int (jsin (jnum x 16))]) rfl rfl rfl (wq_T (c_sgn (jsin (jnum x 16)) h) ?_)
  show wq 36 11 [(0, .long x)] [.int (jsg (jsin (jnum x 16)))] h 0 0 _
  exact wq_ret rfl rfl rfl
noncomputable def jmea (x : Int64) : Int32 := jme (jnum x 32) (jnum x 16)
theorem c_mea (x : Int64) (h : zH) : zT zg0 zF zP 37 0 [(0, .long x)] [] h 0 0 (some (.int (jmea x)), h, 0, 0) := by
  apply wq_toT
  refine wq_gos (f := 1) (pc2 := 2) (ls2 := [(0, .long x)]) (st2 := [.int 1, .long x]) (h2 := h) (dc2 := 0) (ds2 := 0) 2 rfl ?_
  refine wq_inl (y2 := 33) (as := [.long x, .int 1]) rfl rfl rfl (wq_T (c_num_1 x h) ?_)
  show wq 37 5 [(0, .long x)] [.int (jnum x 32)] h 0 0 _
  refine wq_inl (y2 := 150) (as := [.int (jnum x 32)]) rfl rfl rfl (wq_T (c_sin (jnum x 32) h) ?_)
  show wq 37 8 [(0, .long x)] [.int (jsin (jnum x 32))] h 0 0 _
  refine wq_gos (f := 1) (pc2 := 10) (ls2 := [(0, .long x)]) (st2 := [.int 3, .long x, .int (jsin (jnum x 32))]) (h2 := h) (dc2 := 0) (ds2 := 0) 2 rfl ?_
  refine wq_inl (y2 := 33) (as := [.long x, .int 3]) rfl rfl rfl (wq_T (c_num_3 x h) ?_)
  show wq 37 13 [(0, .long x)] [.int (jnum x 16), .int (jsin (jnum x 32))] h 0 0 _
  refine wq_inl (y2 := 150) (as := [.int (jnum x 16)]) rfl rfl rfl (wq_T (c_sin (jnum x 16) h) ?_)
  show wq 37 16 [(0, .long x)] [.int (jsin (jnum x 16)), .int (jsin (jnum x 32))] h 0 0 _
  refine wq_gos (f := 1) (pc2 := 17) (ls2 := [(0, .long x)]) (st2 := [.int ((jsin (jnum x 32)) * (jsin (jnum x 16)))]) (h2 := h) (dc2 := 0) (ds2 := 0) 1 rfl ?_
  refine wq_inl (y2 := 283) (as := [.int ((jsin (jnum x 32)) * (jsin (jnum x 16)))]) rfl rfl rfl (wq_T (c_abs ((jsin (jnum x 32)) * (jsin (jnum x 16))) h) ?_)
  show wq 37 20 [(0, .long x)] [.int (jabs ((jsin (jnum x 32)) * (jsin (jnum x 16))))] h 0 0 _
  refine wq_gos (f := 1) (pc2 := 24) (ls2 := [(0, .long x)]) (st2 := [.int ((jabs ((jsin (jnum x 32)) * (jsin (jnum x 16)))) / (1000 : Int32))]) (h2 := h) (dc2 := 0) (ds2 := 0) 2 rfl ?_
  exact wq_ret rfl rfl rfl
noncomputable def jkept (a b : Int64) : Int32 := if jkind a = 0 then 0 else if jkind a ≠ jkind b then 0 else 1
theorem c_kept (a b : Int64) (h : zH) : zT zg0 zF zP 38 0 [(0, .long a), (2, .long b)] [] h 0 0 (some (.int (jkept a b)), h, 0, 0) := by
  apply wq_toT
  refine wq_gos (f := 1) (pc2 := 1) (ls2 := [(0, .long a), (2, .long b)]) (st2 := [.long a]) (h2 := h) (dc2 := 0) (ds2 := 0) 1 rfl ?_
  refine wq_inl (y2 := 39) (as := [.long a]) rfl rfl rfl (wq_T (c_kind a h) ?_)
  show wq 38 4 [(0, .long a), (2, .long b)] [.int (jkind a)] h 0 0 _
  refine wq_gos (f := 1) (pc2 := 8) (ls2 := [(4, .int (jkind a)), (0, .long a), (2, .long b)]) (st2 := [.int (jkind a)]) (h2 := h) (dc2 := 0) (ds2 := 0) 2 rfl ?_
  refine wq_eq0 rfl rfl (fun b1x => ?_) (fun b1x => ?_)
  · refine wq_gos (f := 1) (pc2 := 25) (ls2 := [(4, .int (jkind a)), (0, .long a), (2, .long b)]) (st2 := [.int 0]) (h2 := h) (dc2 := 0) (ds2 := 0) 1 rfl ?_
    refine wq_ret rfl rfl ?_
    show (some (Value.int 0), h, 0, 0) = (some (Value.int (jkept a b)), h, 0, 0)
    rw [show jkept a b = 0 by unfold jkept; rw [if_pos b1x]]
  · refine wq_gos (f := 1) (pc2 := 14) (ls2 := [(4, .int (jkind a)), (0, .long a), (2, .long b)]) (st2 := [.long b, .int (jkind a)]) (h2 := h) (dc2 := 0) (ds2 := 0) 2 rfl ?_
    refine wq_inl (y2 := 39) (as := [.long b]) rfl rfl rfl (wq_T (c_kind b h) ?_)
    show wq 38 17 [(4, .int (jkind a)), (0, .long a), (2, .long b)] [.int (jkind b), .int (jkind a)] h 0 0 _
    refine wq_ne2 rfl rfl (fun b2x => ?_) (fun b2x => ?_)
    · refine wq_gos (f := 1) (pc2 := 25) (ls2 := [(4, .int (jkind a)), (0, .long a), (2, .long b)]) (st2 := [.int 0]) (h2 := h) (dc2 := 0) (ds2 := 0) 1 rfl ?_
      refine wq_ret rfl rfl ?_
      show (some (Value.int 0), h, 0, 0) = (some (Value.int (jkept a b)), h, 0, 0)
      rw [show jkept a b = 0 by unfold jkept; rw [if_neg b1x, if_pos b2x]]
    · refine wq_gos (f := 1) (pc2 := 25) (ls2 := [(4, .int (jkind a)), (0, .long a), (2, .long b)]) (st2 := [.int 1]) (h2 := h) (dc2 := 0) (ds2 := 0) 2 rfl ?_
      refine wq_ret rfl rfl ?_
      show (some (Value.int 1), h, 0, 0) = (some (Value.int (jkept a b)), h, 0, 0)
      rw [show jkept a b = 1 by unfold jkept; rw [if_neg b1x, if_neg (fun q => q b2x)]]
noncomputable def jby (p : Int64) (s : Int32) : Int32 := ((p.toUInt64 >>> (s.toInt64.toUInt64 &&& Int64.toUInt64 63)).toInt64 &&& (255 : Int64)).toInt32
theorem jby_rng (p : Int64) (s : Int32) : 0 ≤ (jby p s).toInt ∧ (jby p s).toInt ≤ 255 := by
  unfold jby
  obtain ⟨j, hj, e⟩ : ∃ j : Nat, j < 256 ∧ (p.toUInt64 >>> (s.toInt64.toUInt64 &&& Int64.toUInt64 63)).toInt64 &&& (255 : Int64) = lN j := by
    refine ⟨(p.toUInt64 >>> (s.toInt64.toUInt64 &&& Int64.toUInt64 63)).toInt64.toBitVec.toNat % 256, Nat.mod_lt _ (by decide), ?_⟩
    apply Int64.toBitVec_inj.mp
    apply BitVec.eq_of_toNat_eq
    rw [Int64.toBitVec_and, BitVec.toNat_and]
    show _ &&& (2 ^ 8 - 1) = (BitVec.ofNat 64 _).toNat
    rw [Nat.and_two_pow_sub_one_eq_mod, BitVec.toNat_ofNat]
    omega
  rw [e, lN_i, nI_toInt (by omega)]
  omega
noncomputable def jwa (a b : Int64) (s : Int32) : Int32 := jabs (jby a s - jby b s)
theorem jwa_rng (a b : Int64) (s : Int32) : 0 ≤ (jwa a b s).toInt ∧ (jwa a b s).toInt ≤ 255 := by
  have h1 := jby_rng a s
  have h2 := jby_rng b s
  have h3 : (jby a s - jby b s).toInt = (jby a s).toInt - (jby b s).toInt := by rw [Int32.toInt_sub, Int.bmod_eq_of_le (by omega) (by omega)]
  have h0 : (0 : Int32).toInt = 0 := rfl
  unfold jwa jabs
  by_cases h : (0 : Int32).toInt ≤ (jby a s - jby b s).toInt
  · rw [if_pos h]; omega
  · rw [if_neg h, Int32.toInt_neg, Int.bmod_eq_of_le (by omega) (by omega)]
    omega
