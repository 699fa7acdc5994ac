/-! side, bend, measure, kept, ticks at the first state. -/
def jsg (x : Int32) : Int32 := if x.toInt ≤ 0 then (if 0 ≤ x.toInt then 0 else (-1)) else 1
theorem c_sgn (x : Int32) (h : zH) : zT zg0 zF zP 151 0 [(0, .int x)] [] h 0 0 (some (.int (jsg x)), h, 0, 0) := by
  apply wq_toT
  refine wq_gos (f := 1) (pc2 := 1) (ls2 := [(0, .int x)]) (st2 := [.int x]) (h2 := h) (dc2 := 0) (ds2 := 0) 1 rfl ?_
  refine wq_le0 rfl rfl (fun b1x => ?_) (fun b1x => ?_)
  · refine wq_gos (f := 1) (pc2 := 9) (ls2 := [(0, .int x)]) (st2 := [.int x]) (h2 := h) (dc2 := 0) (ds2 := 0) 1 rfl ?_
    refine wq_ge0 rfl rfl (fun b2x => ?_) (fun b2x => ?_)
    · refine wq_gos (f := 1) (pc2 := 17) (ls2 := [(0, .int x)]) (st2 := [.int 0]) (h2 := h) (dc2 := 0) (ds2 := 0) 1 rfl ?_
      refine wq_ret rfl rfl ?_
      show (some (Value.int 0), h, 0, 0) = (some (Value.int (jsg x)), h, 0, 0)
      rw [show jsg x = 0 by unfold jsg; rw [if_pos b1x, if_pos b2x]]
    · refine wq_gos (f := 1) (pc2 := 17) (ls2 := [(0, .int x)]) (st2 := [.int (-1)]) (h2 := h) (dc2 := 0) (ds2 := 0) 2 rfl ?_
      refine wq_ret rfl rfl ?_
      show (some (Value.int (-1)), h, 0, 0) = (some (Value.int (jsg x)), h, 0, 0)
      rw [show jsg x = (-1) by unfold jsg; rw [if_pos b1x, if_neg (Int.not_le.mpr b2x)]]
  · refine wq_gos (f := 1) (pc2 := 17) (ls2 := [(0, .int x)]) (st2 := [.int 1]) (h2 := h) (dc2 := 0) (ds2 := 0) 2 rfl ?_
    refine wq_ret rfl rfl ?_
    show (some (Value.int 1), h, 0, 0) = (some (Value.int (jsg x)), h, 0, 0)
    rw [show jsg x = 1 by unfold jsg; rw [if_neg (Int.not_le.mpr b1x)]]
theorem m_sgn (x : Int32) (h : zH) : zT zg0 zF zP 202 0 [(0, .int x)] [] h 0 0 (some (.int (jsg x)), h, 0, 0) := by
  apply wq_toT
  refine wq_gos (f := 1) (pc2 := 1) (ls2 := [(0, .int x)]) (st2 := [.int x]) (h2 := h) (dc2 := 0) (ds2 := 0) 1 rfl ?_
  refine wq_le0 rfl rfl (fun b1x => ?_) (fun b1x => ?_)
  · refine wq_gos (f := 1) (pc2 := 9) (ls2 := [(0, .int x)]) (st2 := [.int x]) (h2 := h) (dc2 := 0) (ds2 := 0) 1 rfl ?_
    refine wq_ge0 rfl rfl (fun b2x => ?_) (fun b2x => ?_)
    · refine wq_gos (f := 1) (pc2 := 17) (ls2 := [(0, .int x)]) (st2 := [.int 0]) (h2 := h) (dc2 := 0) (ds2 := 0) 1 rfl ?_
      refine wq_ret rfl rfl ?_
      show (some (Value.int 0), h, 0, 0) = (some (Value.int (jsg x)), h, 0, 0)
      rw [show jsg x = 0 by unfold jsg; rw [if_pos b1x, if_pos b2x]]
    · refine wq_gos (f := 1) (pc2 := 17) (ls2 := [(0, .int x)]) (st2 := [.int (-1)]) (h2 := h) (dc2 := 0) (ds2 := 0) 2 rfl ?_
      refine wq_ret rfl rfl ?_
      show (some (Value.int (-1)), h, 0, 0) = (some (Value.int (jsg x)), h, 0, 0)
      rw [show jsg x = (-1) by unfold jsg; rw [if_pos b1x, if_neg (Int.not_le.mpr b2x)]]
  · refine wq_gos (f := 1) (pc2 := 17) (ls2 := [(0, .int x)]) (st2 := [.int 1]) (h2 := h) (dc2 := 0) (ds2 := 0) 2 rfl ?_
    refine wq_ret rfl rfl ?_
    show (some (Value.int 1), h, 0, 0) = (some (Value.int (jsg x)), h, 0, 0)
    rw [show jsg x = 1 by unfold jsg; rw [if_neg (Int.not_le.mpr b1x)]]
def jside (x : Int64) : Int32 := jsg (jsin (jnum x 32))
theorem c_side (x : Int64) (h : zH) : zT zg0 zF zP 35 0 [(0, .long x)] [] h 0 0 (some (.int (jside x)), h, 0, 0) := by
  apply wq_toT
  refine wq_gos (f := 1) (pc2 := 2) (ls2 := [(0, .long x)]) (st2 := [.int 1, .long x]) (h2 := h) (dc2 := 0) (ds2 := 0) 2 rfl ?_
  refine wq_inl (y2 := 33) (as := [.long x, .int 1]) rfl rfl rfl (wq_T (c_num_1 x h) ?_)
  show wq 35 5 [(0, .long x)] [.int (jnum x 32)] h 0 0 _
  refine wq_inl (y2 := 150) (as := [.int (jnum x 32)]) rfl rfl rfl (wq_T (c_sin (jnum x 32) h) ?_)
  show wq 35 8 [(0, .long x)] [.int (jsin (jnum x 32))] h 0 0 _
  refine wq_inl (y2 := 151) (as := [.int (jsin (jnum x 32))]) rfl rfl rfl (wq_T (c_sgn (jsin (jnum x 32)) h) ?_)
  show wq 35 11 [(0, .long x)] [.int (jsg (jsin (jnum x 32)))] h 0 0 _
  exact wq_ret rfl rfl rfl
def jbend (x : Int64) : Int32 := jsg (jsin (jnum x 16))
theorem c_bend (x : Int64) (h : zH) : zT zg0 zF zP 36 0 [(0, .long x)] [] h 0 0 (some (.int (jbend x)), h, 0, 0) := by
  apply wq_toT
  refine wq_gos (f := 1) (pc2 := 2) (ls2 := [(0, .long x)]) (st2 := [.int 3, .long x]) (h2 := h) (dc2 := 0) (ds2 := 0) 2 rfl ?_
  refine wq_inl (y2 := 33) (as := [.long x, .int 3]) rfl rfl rfl (wq_T (c_num_3 x h) ?_)
  show wq 36 5 [(0, .long x)] [.int (jnum x 16)] h 0 0 _
  refine wq_inl (y2 := 150) (as := [.int (jnum x 16)]) rfl rfl rfl (wq_T (c_sin (jnum x 16) h) ?_)
  show wq 36 8 [(0, .long x)] [.int (jsin (jnum x 16))] h 0 0 _
  refine wq_inl (y2 := 151) (as := [.int (jsin (jnum x 16))]) rfl rfl rfl (wq_T (c_sgn (jsin (jnum x 16)) h) ?_)
  show wq 36 11 [(0, .long x)] [.int (jsg (jsin (jnum x 16)))] h 0 0 _
  exact wq_ret rfl rfl rfl
def jmea (x : Int64) : Int32 := jme (jnum x 32) (jnum x 16)
theorem c_mea (x : Int64) (h : zH) : zT zg0 zF zP 37 0 [(0, .long x)] [] h 0 0 (some (.int (jmea x)), h, 0, 0) := by
  apply wq_toT
  refine wq_gos (f := 1) (pc2 := 2) (ls2 := [(0, .long x)]) (st2 := [.int 1, .long x]) (h2 := h) (dc2 := 0) (ds2 := 0) 2 rfl ?_
  refine wq_inl (y2 := 33) (as := [.long x, .int 1]) rfl rfl rfl (wq_T (c_num_1 x h) ?_)
  show wq 37 5 [(0, .long x)] [.int (jnum x 32)] h 0 0 _
  refine wq_inl (y2 := 150) (as := [.int (jnum x 32)]) rfl rfl rfl (wq_T (c_sin (jnum x 32) h) ?_)
  show wq 37 8 [(0, .long x)] [.int (jsin (jnum x 32))] h 0 0 _
  refine wq_gos (f := 1) (pc2 := 10) (ls2 := [(0, .long x)]) (st2 := [.int 3, .long x, .int (jsin (jnum x 32))]) (h2 := h) (dc2 := 0) (ds2 := 0) 2 rfl ?_
  refine wq_inl (y2 := 33) (as := [.long x, .int 3]) rfl rfl rfl (wq_T (c_num_3 x h) ?_)
  show wq 37 13 [(0, .long x)] [.int (jnum x 16), .int (jsin (jnum x 32))] h 0 0 _
  refine wq_inl (y2 := 150) (as := [.int (jnum x 16)]) rfl rfl rfl (wq_T (c_sin (jnum x 16) h) ?_)
  show wq 37 16 [(0, .long x)] [.int (jsin (jnum x 16)), .int (jsin (jnum x 32))] h 0 0 _
  refine wq_gos (f := 1) (pc2 := 17) (ls2 := [(0, .long x)]) (st2 := [.int ((jsin (jnum x 32)) * (jsin (jnum x 16)))]) (h2 := h) (dc2 := 0) (ds2 := 0) 1 rfl ?_
  refine wq_inl (y2 := 283) (as := [.int ((jsin (jnum x 32)) * (jsin (jnum x 16)))]) rfl rfl rfl (wq_T (c_abs ((jsin (jnum x 32)) * (jsin (jnum x 16))) h) ?_)
  show wq 37 20 [(0, .long x)] [.int (jabs ((jsin (jnum x 32)) * (jsin (jnum x 16))))] h 0 0 _
  refine wq_gos (f := 1) (pc2 := 24) (ls2 := [(0, .long x)]) (st2 := [.int ((jabs ((jsin (jnum x 32)) * (jsin (jnum x 16)))) / (1000 : Int32))]) (h2 := h) (dc2 := 0) (ds2 := 0) 2 rfl ?_
  exact wq_ret rfl rfl rfl
def jkept (a b : Int64) : Int32 := if jkind a = 0 then 0 else if jkind a ≠ jkind b then 0 else 1
theorem c_kept (a b : Int64) (h : zH) : zT zg0 zF zP 38 0 [(0, .long a), (2, .long b)] [] h 0 0 (some (.int (jkept a b)), h, 0, 0) := by
  apply wq_toT
  refine wq_gos (f := 1) (pc2 := 1) (ls2 := [(0, .long a), (2, .long b)]) (st2 := [.long a]) (h2 := h) (dc2 := 0) (ds2 := 0) 1 rfl ?_
  refine wq_inl (y2 := 39) (as := [.long a]) rfl rfl rfl (wq_T (c_kind a h) ?_)
  show wq 38 4 [(0, .long a), (2, .long b)] [.int (jkind a)] h 0 0 _
  refine wq_gos (f := 1) (pc2 := 8) (ls2 := [(4, .int (jkind a)), (0, .long a), (2, .long b)]) (st2 := [.int (jkind a)]) (h2 := h) (dc2 := 0) (ds2 := 0) 2 rfl ?_
  refine wq_eq0 rfl rfl (fun b1x => ?_) (fun b1x => ?_)
  · refine wq_gos (f := 1) (pc2 := 25) (ls2 := [(4, .int (jkind a)), (0, .long a), (2, .long b)]) (st2 := [.int 0]) (h2 := h) (dc2 := 0) (ds2 := 0) 1 rfl ?_
    refine wq_ret rfl rfl ?_
    show (some (Value.int 0), h, 0, 0) = (some (Value.int (jkept a b)), h, 0, 0)
    rw [show jkept a b = 0 by unfold jkept; rw [if_pos b1x]]
  · refine wq_gos (f := 1) (pc2 := 14) (ls2 := [(4, .int (jkind a)), (0, .long a), (2, .long b)]) (st2 := [.long b, .int (jkind a)]) (h2 := h) (dc2 := 0) (ds2 := 0) 2 rfl ?_
    refine wq_inl (y2 := 39) (as := [.long b]) rfl rfl rfl (wq_T (c_kind b h) ?_)
    show wq 38 17 [(4, .int (jkind a)), (0, .long a), (2, .long b)] [.int (jkind b), .int (jkind a)] h 0 0 _
    refine wq_ne2 rfl rfl (fun b2x => ?_) (fun b2x => ?_)
    · refine wq_gos (f := 1) (pc2 := 25) (ls2 := [(4, .int (jkind a)), (0, .long a), (2, .long b)]) (st2 := [.int 0]) (h2 := h) (dc2 := 0) (ds2 := 0) 1 rfl ?_
      refine wq_ret rfl rfl ?_
      show (some (Value.int 0), h, 0, 0) = (some (Value.int (jkept a b)), h, 0, 0)
      rw [show jkept a b = 0 by unfold jkept; rw [if_neg b1x, if_pos b2x]]
    · refine wq_gos (f := 1) (pc2 := 25) (ls2 := [(4, .int (jkind a)), (0, .long a), (2, .long b)]) (st2 := [.int 1]) (h2 := h) (dc2 := 0) (ds2 := 0) 2 rfl ?_
      refine wq_ret rfl rfl ?_
      show (some (Value.int 1), h, 0, 0) = (some (Value.int (jkept a b)), h, 0, 0)
      rw [show jkept a b = 1 by unfold jkept; rw [if_neg b1x, if_neg (fun q => q b2x)]]
def jby (p : Int64) (s : Int32) : Int32 := ((p.toUInt64 >>> (s.toInt64.toUInt64 &&& Int64.toUInt64 63)).toInt64 &&& (255 : Int64)).toInt32
theorem jby_rng (p : Int64) (s : Int32) : 0 ≤ (jby p s).toInt ∧ (jby p s).toInt ≤ 255 := by
  unfold jby
  obtain ⟨j, hj, e⟩ : ∃ j : Nat, j < 256 ∧ (p.toUInt64 >>> (s.toInt64.toUInt64 &&& Int64.toUInt64 63)).toInt64 &&& (255 : Int64) = lN j := by
    refine ⟨(p.toUInt64 >>> (s.toInt64.toUInt64 &&& Int64.toUInt64 63)).toInt64.toBitVec.toNat % 256, Nat.mod_lt _ (by decide), ?_⟩
    apply Int64.toBitVec_inj.mp
    apply BitVec.eq_of_toNat_eq
    rw [Int64.toBitVec_and, BitVec.toNat_and]
    show _ &&& (2 ^ 8 - 1) = (BitVec.ofNat 64 _).toNat
    rw [Nat.and_two_pow_sub_one_eq_mod, BitVec.toNat_ofNat]
    omega
  rw [e, lN_i, nI_toInt (by omega)]
  omega
def jwa (a b : Int64) (s : Int32) : Int32 := jabs (jby a s - jby b s)
theorem jwa_rng (a b : Int64) (s : Int32) : 0 ≤ (jwa a b s).toInt ∧ (jwa a b s).toInt ≤ 255 := by
  have h1 := jby_rng a s
  have h2 := jby_rng b s
  have h3 : (jby a s - jby b s).toInt = (jby a s).toInt - (jby b s).toInt := by rw [Int32.toInt_sub, Int.bmod_eq_of_le (by omega) (by omega)]
  have h0 : (0 : Int32).toInt = 0 := rfl
  unfold jwa jabs
  by_cases h : (0 : Int32).toInt ≤ (jby a s - jby b s).toInt
  · rw [if_pos h]; omega
  · rw [if_neg h, Int32.toInt_neg, Int.bmod_eq_of_le (by omega) (by omega)]
    omega
def jtk (w m : Int32) : Int32 := if w.toInt ≤ (m * (4 : Int32)).toInt then m else ((w + (4 : Int32)) - (1 : Int32)) / (4 : Int32)
theorem jtk_rng {w m : Int32} (hw : 0 ≤ w.toInt ∧ w.toInt ≤ 255) (hm : 0 ≤ m.toInt ∧ m.toInt ≤ 100) : 0 ≤ (jtk w m).toInt ∧ (jtk w m).toInt ≤ 100 := by
  unfold jtk
  split
  · exact hm
  · have e : ((w + (4 : Int32)) - (1 : Int32)) = nI (w.toInt.toNat + 3) := Int32.toInt_inj.mp (by
      rw [Int32.toInt_sub, Int32.toInt_add, nI_toInt (by omega), show (4 : Int32).toInt = 4 from rfl, show (1 : Int32).toInt = 1 from rfl, Int.bmod_eq_of_le (n := w.toInt + 4) (by omega) (by omega), Int.bmod_eq_of_le (by omega) (by omega)]
      omega)
    rw [e, show (4 : Int32) = nI 4 from rfl, pk_div (by omega) (by decide) (by decide), nI_toInt (by omega)]
    omega
theorem c_tick0 {h : zH} {a b : Int64} {m : Int32} {dc ds : Nat} {Q : zR → Prop} (c6 : zat h 6 = some (.inr (.inr (.inr (0, [.int 9, .int 4, .int 10, .int 2, .int 0, .long 70644700037184, .ref 8, .ref 10, .ref 12, .int 0, .ref 14, .ref 16, .int 0, .ref 18]))))) (c12 : zat h 12 = some (.inl (0, 6, [4, 4, 4, 4, 4, 4]))) (hm : 0 ≤ m.toInt ∧ m.toInt ≤ 100) (kk : wq 10 6 [(0, .ref 6), (1, .long a), (3, .long b), (5, .int 1000000), (6, .int (jtk (jwa a b 40) m)), (7, .int 1)] [] h dc ds Q) : wq 10 6 [(0, .ref 6), (1, .long a), (3, .long b), (5, .int 1000000), (6, .int m), (7, .int 0)] [] h dc ds Q := by
  refine wq_gos (f := 1) (pc2 := 17) (ls2 := [(0, .ref 6), (1, .long a), (3, .long b), (5, .int 1000000), (6, .int m), (7, .int 0)]) (st2 := [.int 1000000, .int m]) (h2 := h) (dc2 := dc) (ds2 := ds) 5 rfl ?_
  refine wq_ge2f rfl rfl (by show m.toInt < 1000000; omega) ?_
  refine wq_gos (f := 1) (pc2 := 49) (ls2 := [(8, .int 40), (0, .ref 6), (1, .long a), (3, .long b), (5, .int 1000000), (6, .int m), (7, .int 0)]) (st2 := [.int (((((a).toUInt64 >>> (((40 : Int32)).toInt64.toUInt64 &&& Int64.toUInt64 63)).toInt64 &&& (255 : Int64))).toInt32 - ((((b).toUInt64 >>> (((40 : Int32)).toInt64.toUInt64 &&& Int64.toUInt64 63)).toInt64 &&& (255 : Int64))).toInt32)]) (h2 := h) (dc2 := dc) (ds2 := ds) 19 rfl ?_
  refine wq_inl (y2 := 283) (as := [.int (((((a).toUInt64 >>> (((40 : Int32)).toInt64.toUInt64 &&& Int64.toUInt64 63)).toInt64 &&& (255 : Int64))).toInt32 - ((((b).toUInt64 >>> (((40 : Int32)).toInt64.toUInt64 &&& Int64.toUInt64 63)).toInt64 &&& (255 : Int64))).toInt32)]) rfl rfl rfl (wq_T (c_abs (((((a).toUInt64 >>> (((40 : Int32)).toInt64.toUInt64 &&& Int64.toUInt64 63)).toInt64 &&& (255 : Int64))).toInt32 - ((((b).toUInt64 >>> (((40 : Int32)).toInt64.toUInt64 &&& Int64.toUInt64 63)).toInt64 &&& (255 : Int64))).toInt32) h) ?_)
  show wq 10 52 [(8, .int 40), (0, .ref 6), (1, .long a), (3, .long b), (5, .int 1000000), (6, .int m), (7, .int 0)] [.int (jabs (((((a).toUInt64 >>> (((40 : Int32)).toInt64.toUInt64 &&& Int64.toUInt64 63)).toInt64 &&& (255 : Int64))).toInt32 - ((((b).toUInt64 >>> (((40 : Int32)).toInt64.toUInt64 &&& Int64.toUInt64 63)).toInt64 &&& (255 : Int64))).toInt32))] h dc ds _
  show wq 10 52 [(8, .int 40), (0, .ref 6), (1, .long a), (3, .long b), (5, .int 1000000), (6, .int m), (7, .int 0)] [.int (jwa a b 40)] h dc ds _
  refine wq_gos (f := 1) (pc2 := 55) (ls2 := [(9, .int (jwa a b 40)), (8, .int 40), (0, .ref 6), (1, .long a), (3, .long b), (5, .int 1000000), (6, .int m), (7, .int 0)]) (st2 := [.ref 6]) (h2 := h) (dc2 := dc) (ds2 := ds) 2 rfl ?_
  refine wq_getf rfl c6 rfl rfl ?_
  refine wq_gos (f := 1) (pc2 := 60) (ls2 := [(9, .int (jwa a b 40)), (8, .int 40), (0, .ref 6), (1, .long a), (3, .long b), (5, .int 1000000), (6, .int m), (7, .int 0)]) (st2 := [.int 0, .ref 12]) (h2 := h) (dc2 := dc) (ds2 := ds) 1 rfl ?_
  refine wq_ialdk (k := 0) rfl c12 rfl rfl rfl ?_
  refine wq_gos (f := 1) (pc2 := 75) (ls2 := [(10, .int 4), (9, .int (jwa a b 40)), (8, .int 40), (0, .ref 6), (1, .long a), (3, .long b), (5, .int 1000000), (6, .int m), (7, .int 0)]) (st2 := [.int (m * (4 : Int32)), .int (jwa a b 40)]) (h2 := h) (dc2 := dc) (ds2 := ds) 7 rfl ?_
  refine wq_le2 rfl rfl (fun b1x => ?_) (fun b1x => ?_)
  · refine wq_gos (f := 1) (pc2 := 6) (ls2 := [(7, .int 1), (10, .int 4), (9, .int (jwa a b 40)), (8, .int 40), (0, .ref 6), (1, .long a), (3, .long b), (5, .int 1000000), (6, .int m)]) (st2 := []) (h2 := h) (dc2 := dc) (ds2 := ds) 2 rfl ?_
    have hm9 : jtk (jwa a b 40) m = m := if_pos b1x
    refine wq_ls [(0, .ref 6), (1, .long a), (3, .long b), (5, .int 1000000), (6, .int m), (7, .int 1)] (show ([0, 1, 3, 5, 6, 7] : List Nat).Nodup by decide) ⟨rfl, rfl, rfl, rfl, rfl, rfl, trivial⟩ ?_
    rw [← hm9]
    exact kk
  · refine wq_gos (f := 1) (pc2 := 6) (ls2 := [(7, .int 1), (6, .int ((((jwa a b 40) + (4 : Int32)) - (1 : Int32)) / (4 : Int32))), (10, .int 4), (9, .int (jwa a b 40)), (8, .int 40), (0, .ref 6), (1, .long a), (3, .long b), (5, .int 1000000)]) (st2 := []) (h2 := h) (dc2 := dc) (ds2 := ds) 10 rfl ?_
    have hm9 : jtk (jwa a b 40) m = ((((jwa a b 40) + (4 : Int32)) - (1 : Int32)) / (4 : Int32)) := if_neg (Int.not_le.mpr b1x)
    refine wq_ls [(0, .ref 6), (1, .long a), (3, .long b), (5, .int 1000000), (6, .int ((((jwa a b 40) + (4 : Int32)) - (1 : Int32)) / (4 : Int32))), (7, .int 1)] (show ([0, 1, 3, 5, 6, 7] : List Nat).Nodup by decide) ⟨rfl, rfl, rfl, rfl, rfl, rfl, trivial⟩ ?_
    rw [← hm9]
    exact kk
theorem c_tick1 {h : zH} {a b : Int64} {m : Int32} {dc ds : Nat} {Q : zR → Prop} (c6 : zat h 6 = some (.inr (.inr (.inr (0, [.int 9, .int 4, .int 10, .int 2, .int 0, .long 70644700037184, .ref 8, .ref 10, .ref 12, .int 0, .ref 14, .ref 16, .int 0, .ref 18]))))) (c12 : zat h 12 = some (.inl (0, 6, [4, 4, 4, 4, 4, 4]))) (hm : 0 ≤ m.toInt ∧ m.toInt ≤ 100) (kk : wq 10 6 [(0, .ref 6), (1, .long a), (3, .long b), (5, .int 1000000), (6, .int (jtk (jwa a b 32) m)), (7, .int 2)] [] h dc ds Q) : wq 10 6 [(0, .ref 6), (1, .long a), (3, .long b), (5, .int 1000000), (6, .int m), (7, .int 1)] [] h dc ds Q := by
  refine wq_gos (f := 1) (pc2 := 17) (ls2 := [(0, .ref 6), (1, .long a), (3, .long b), (5, .int 1000000), (6, .int m), (7, .int 1)]) (st2 := [.int 1000000, .int m]) (h2 := h) (dc2 := dc) (ds2 := ds) 5 rfl ?_
  refine wq_ge2f rfl rfl (by show m.toInt < 1000000; omega) ?_
  refine wq_gos (f := 1) (pc2 := 49) (ls2 := [(8, .int 32), (0, .ref 6), (1, .long a), (3, .long b), (5, .int 1000000), (6, .int m), (7, .int 1)]) (st2 := [.int (((((a).toUInt64 >>> (((32 : Int32)).toInt64.toUInt64 &&& Int64.toUInt64 63)).toInt64 &&& (255 : Int64))).toInt32 - ((((b).toUInt64 >>> (((32 : Int32)).toInt64.toUInt64 &&& Int64.toUInt64 63)).toInt64 &&& (255 : Int64))).toInt32)]) (h2 := h) (dc2 := dc) (ds2 := ds) 19 rfl ?_
  refine wq_inl (y2 := 283) (as := [.int (((((a).toUInt64 >>> (((32 : Int32)).toInt64.toUInt64 &&& Int64.toUInt64 63)).toInt64 &&& (255 : Int64))).toInt32 - ((((b).toUInt64 >>> (((32 : Int32)).toInt64.toUInt64 &&& Int64.toUInt64 63)).toInt64 &&& (255 : Int64))).toInt32)]) rfl rfl rfl (wq_T (c_abs (((((a).toUInt64 >>> (((32 : Int32)).toInt64.toUInt64 &&& Int64.toUInt64 63)).toInt64 &&& (255 : Int64))).toInt32 - ((((b).toUInt64 >>> (((32 : Int32)).toInt64.toUInt64 &&& Int64.toUInt64 63)).toInt64 &&& (255 : Int64))).toInt32) h) ?_)
  show wq 10 52 [(8, .int 32), (0, .ref 6), (1, .long a), (3, .long b), (5, .int 1000000), (6, .int m), (7, .int 1)] [.int (jabs (((((a).toUInt64 >>> (((32 : Int32)).toInt64.toUInt64 &&& Int64.toUInt64 63)).toInt64 &&& (255 : Int64))).toInt32 - ((((b).toUInt64 >>> (((32 : Int32)).toInt64.toUInt64 &&& Int64.toUInt64 63)).toInt64 &&& (255 : Int64))).toInt32))] h dc ds _
  show wq 10 52 [(8, .int 32), (0, .ref 6), (1, .long a), (3, .long b), (5, .int 1000000), (6, .int m), (7, .int 1)] [.int (jwa a b 32)] h dc ds _
  refine wq_gos (f := 1) (pc2 := 55) (ls2 := [(9, .int (jwa a b 32)), (8, .int 32), (0, .ref 6), (1, .long a), (3, .long b), (5, .int 1000000), (6, .int m), (7, .int 1)]) (st2 := [.ref 6]) (h2 := h) (dc2 := dc) (ds2 := ds) 2 rfl ?_
  refine wq_getf rfl c6 rfl rfl ?_
  refine wq_gos (f := 1) (pc2 := 60) (ls2 := [(9, .int (jwa a b 32)), (8, .int 32), (0, .ref 6), (1, .long a), (3, .long b), (5, .int 1000000), (6, .int m), (7, .int 1)]) (st2 := [.int 1, .ref 12]) (h2 := h) (dc2 := dc) (ds2 := ds) 1 rfl ?_
  refine wq_ialdk (k := 1) rfl c12 rfl rfl rfl ?_
  refine wq_gos (f := 1) (pc2 := 75) (ls2 := [(10, .int 4), (9, .int (jwa a b 32)), (8, .int 32), (0, .ref 6), (1, .long a), (3, .long b), (5, .int 1000000), (6, .int m), (7, .int 1)]) (st2 := [.int (m * (4 : Int32)), .int (jwa a b 32)]) (h2 := h) (dc2 := dc) (ds2 := ds) 7 rfl ?_
  refine wq_le2 rfl rfl (fun b1x => ?_) (fun b1x => ?_)
  · refine wq_gos (f := 1) (pc2 := 6) (ls2 := [(7, .int 2), (10, .int 4), (9, .int (jwa a b 32)), (8, .int 32), (0, .ref 6), (1, .long a), (3, .long b), (5, .int 1000000), (6, .int m)]) (st2 := []) (h2 := h) (dc2 := dc) (ds2 := ds) 2 rfl ?_
    have hm9 : jtk (jwa a b 32) m = m := if_pos b1x
    refine wq_ls [(0, .ref 6), (1, .long a), (3, .long b), (5, .int 1000000), (6, .int m), (7, .int 2)] (show ([0, 1, 3, 5, 6, 7] : List Nat).Nodup by decide) ⟨rfl, rfl, rfl, rfl, rfl, rfl, trivial⟩ ?_
    rw [← hm9]
    exact kk
  · refine wq_gos (f := 1) (pc2 := 6) (ls2 := [(7, .int 2), (6, .int ((((jwa a b 32) + (4 : Int32)) - (1 : Int32)) / (4 : Int32))), (10, .int 4), (9, .int (jwa a b 32)), (8, .int 32), (0, .ref 6), (1, .long a), (3, .long b), (5, .int 1000000)]) (st2 := []) (h2 := h) (dc2 := dc) (ds2 := ds) 10 rfl ?_
    have hm9 : jtk (jwa a b 32) m = ((((jwa a b 32) + (4 : Int32)) - (1 : Int32)) / (4 : Int32)) := if_neg (Int.not_le.mpr b1x)
    refine wq_ls [(0, .ref 6), (1, .long a), (3, .long b), (5, .int 1000000), (6, .int ((((jwa a b 32) + (4 : Int32)) - (1 : Int32)) / (4 : Int32))), (7, .int 2)] (show ([0, 1, 3, 5, 6, 7] : List Nat).Nodup by decide) ⟨rfl, rfl, rfl, rfl, rfl, rfl, trivial⟩ ?_
    rw [← hm9]
    exact kk
theorem c_tick2 {h : zH} {a b : Int64} {m : Int32} {dc ds : Nat} {Q : zR → Prop} (c6 : zat h 6 = some (.inr (.inr (.inr (0, [.int 9, .int 4, .int 10, .int 2, .int 0, .long 70644700037184, .ref 8, .ref 10, .ref 12, .int 0, .ref 14, .ref 16, .int 0, .ref 18]))))) (c12 : zat h 12 = some (.inl (0, 6, [4, 4, 4, 4, 4, 4]))) (hm : 0 ≤ m.toInt ∧ m.toInt ≤ 100) (kk : wq 10 6 [(0, .ref 6), (1, .long a), (3, .long b), (5, .int 1000000), (6, .int (jtk (jwa a b 24) m)), (7, .int 3)] [] h dc ds Q) : wq 10 6 [(0, .ref 6), (1, .long a), (3, .long b), (5, .int 1000000), (6, .int m), (7, .int 2)] [] h dc ds Q := by
  refine wq_gos (f := 1) (pc2 := 17) (ls2 := [(0, .ref 6), (1, .long a), (3, .long b), (5, .int 1000000), (6, .int m), (7, .int 2)]) (st2 := [.int 1000000, .int m]) (h2 := h) (dc2 := dc) (ds2 := ds) 5 rfl ?_
  refine wq_ge2f rfl rfl (by show m.toInt < 1000000; omega) ?_
  refine wq_gos (f := 1) (pc2 := 49) (ls2 := [(8, .int 24), (0, .ref 6), (1, .long a), (3, .long b), (5, .int 1000000), (6, .int m), (7, .int 2)]) (st2 := [.int (((((a).toUInt64 >>> (((24 : Int32)).toInt64.toUInt64 &&& Int64.toUInt64 63)).toInt64 &&& (255 : Int64))).toInt32 - ((((b).toUInt64 >>> (((24 : Int32)).toInt64.toUInt64 &&& Int64.toUInt64 63)).toInt64 &&& (255 : Int64))).toInt32)]) (h2 := h) (dc2 := dc) (ds2 := ds) 19 rfl ?_
  refine wq_inl (y2 := 283) (as := [.int (((((a).toUInt64 >>> (((24 : Int32)).toInt64.toUInt64 &&& Int64.toUInt64 63)).toInt64 &&& (255 : Int64))).toInt32 - ((((b).toUInt64 >>> (((24 : Int32)).toInt64.toUInt64 &&& Int64.toUInt64 63)).toInt64 &&& (255 : Int64))).toInt32)]) rfl rfl rfl (wq_T (c_abs (((((a).toUInt64 >>> (((24 : Int32)).toInt64.toUInt64 &&& Int64.toUInt64 63)).toInt64 &&& (255 : Int64))).toInt32 - ((((b).toUInt64 >>> (((24 : Int32)).toInt64.toUInt64 &&& Int64.toUInt64 63)).toInt64 &&& (255 : Int64))).toInt32) h) ?_)
  show wq 10 52 [(8, .int 24), (0, .ref 6), (1, .long a), (3, .long b), (5, .int 1000000), (6, .int m), (7, .int 2)] [.int (jabs (((((a).toUInt64 >>> (((24 : Int32)).toInt64.toUInt64 &&& Int64.toUInt64 63)).toInt64 &&& (255 : Int64))).toInt32 - ((((b).toUInt64 >>> (((24 : Int32)).toInt64.toUInt64 &&& Int64.toUInt64 63)).toInt64 &&& (255 : Int64))).toInt32))] h dc ds _
  show wq 10 52 [(8, .int 24), (0, .ref 6), (1, .long a), (3, .long b), (5, .int 1000000), (6, .int m), (7, .int 2)] [.int (jwa a b 24)] h dc ds _
  refine wq_gos (f := 1) (pc2 := 55) (ls2 := [(9, .int (jwa a b 24)), (8, .int 24), (0, .ref 6), (1, .long a), (3, .long b), (5, .int 1000000), (6, .int m), (7, .int 2)]) (st2 := [.ref 6]) (h2 := h) (dc2 := dc) (ds2 := ds) 2 rfl ?_
  refine wq_getf rfl c6 rfl rfl ?_
  refine wq_gos (f := 1) (pc2 := 60) (ls2 := [(9, .int (jwa a b 24)), (8, .int 24), (0, .ref 6), (1, .long a), (3, .long b), (5, .int 1000000), (6, .int m), (7, .int 2)]) (st2 := [.int 2, .ref 12]) (h2 := h) (dc2 := dc) (ds2 := ds) 1 rfl ?_
  refine wq_ialdk (k := 2) rfl c12 rfl rfl rfl ?_
  refine wq_gos (f := 1) (pc2 := 75) (ls2 := [(10, .int 4), (9, .int (jwa a b 24)), (8, .int 24), (0, .ref 6), (1, .long a), (3, .long b), (5, .int 1000000), (6, .int m), (7, .int 2)]) (st2 := [.int (m * (4 : Int32)), .int (jwa a b 24)]) (h2 := h) (dc2 := dc) (ds2 := ds) 7 rfl ?_
  refine wq_le2 rfl rfl (fun b1x => ?_) (fun b1x => ?_)
  · refine wq_gos (f := 1) (pc2 := 6) (ls2 := [(7, .int 3), (10, .int 4), (9, .int (jwa a b 24)), (8, .int 24), (0, .ref 6), (1, .long a), (3, .long b), (5, .int 1000000), (6, .int m)]) (st2 := []) (h2 := h) (dc2 := dc) (ds2 := ds) 2 rfl ?_
    have hm9 : jtk (jwa a b 24) m = m := if_pos b1x
    refine wq_ls [(0, .ref 6), (1, .long a), (3, .long b), (5, .int 1000000), (6, .int m), (7, .int 3)] (show ([0, 1, 3, 5, 6, 7] : List Nat).Nodup by decide) ⟨rfl, rfl, rfl, rfl, rfl, rfl, trivial⟩ ?_
    rw [← hm9]
    exact kk
  · refine wq_gos (f := 1) (pc2 := 6) (ls2 := [(7, .int 3), (6, .int ((((jwa a b 24) + (4 : Int32)) - (1 : Int32)) / (4 : Int32))), (10, .int 4), (9, .int (jwa a b 24)), (8, .int 24), (0, .ref 6), (1, .long a), (3, .long b), (5, .int 1000000)]) (st2 := []) (h2 := h) (dc2 := dc) (ds2 := ds) 10 rfl ?_
    have hm9 : jtk (jwa a b 24) m = ((((jwa a b 24) + (4 : Int32)) - (1 : Int32)) / (4 : Int32)) := if_neg (Int.not_le.mpr b1x)
    refine wq_ls [(0, .ref 6), (1, .long a), (3, .long b), (5, .int 1000000), (6, .int ((((jwa a b 24) + (4 : Int32)) - (1 : Int32)) / (4 : Int32))), (7, .int 3)] (show ([0, 1, 3, 5, 6, 7] : List Nat).Nodup by decide) ⟨rfl, rfl, rfl, rfl, rfl, rfl, trivial⟩ ?_
    rw [← hm9]
    exact kk
theorem c_tick3 {h : zH} {a b : Int64} {m : Int32} {dc ds : Nat} {Q : zR → Prop} (c6 : zat h 6 = some (.inr (.inr (.inr (0, [.int 9, .int 4, .int 10, .int 2, .int 0, .long 70644700037184, .ref 8, .ref 10, .ref 12, .int 0, .ref 14, .ref 16, .int 0, .ref 18]))))) (c12 : zat h 12 = some (.inl (0, 6, [4, 4, 4, 4, 4, 4]))) (hm : 0 ≤ m.toInt ∧ m.toInt ≤ 100) (kk : wq 10 6 [(0, .ref 6), (1, .long a), (3, .long b), (5, .int 1000000), (6, .int (jtk (jwa a b 16) m)), (7, .int 4)] [] h dc ds Q) : wq 10 6 [(0, .ref 6), (1, .long a), (3, .long b), (5, .int 1000000), (6, .int m), (7, .int 3)] [] h dc ds Q := by
  refine wq_gos (f := 1) (pc2 := 17) (ls2 := [(0, .ref 6), (1, .long a), (3, .long b), (5, .int 1000000), (6, .int m), (7, .int 3)]) (st2 := [.int 1000000, .int m]) (h2 := h) (dc2 := dc) (ds2 := ds) 5 rfl ?_
  refine wq_ge2f rfl rfl (by show m.toInt < 1000000; omega) ?_
  refine wq_gos (f := 1) (pc2 := 49) (ls2 := [(8, .int 16), (0, .ref 6), (1, .long a), (3, .long b), (5, .int 1000000), (6, .int m), (7, .int 3)]) (st2 := [.int (((((a).toUInt64 >>> (((16 : Int32)).toInt64.toUInt64 &&& Int64.toUInt64 63)).toInt64 &&& (255 : Int64))).toInt32 - ((((b).toUInt64 >>> (((16 : Int32)).toInt64.toUInt64 &&& Int64.toUInt64 63)).toInt64 &&& (255 : Int64))).toInt32)]) (h2 := h) (dc2 := dc) (ds2 := ds) 19 rfl ?_
  refine wq_inl (y2 := 283) (as := [.int (((((a).toUInt64 >>> (((16 : Int32)).toInt64.toUInt64 &&& Int64.toUInt64 63)).toInt64 &&& (255 : Int64))).toInt32 - ((((b).toUInt64 >>> (((16 : Int32)).toInt64.toUInt64 &&& Int64.toUInt64 63)).toInt64 &&& (255 : Int64))).toInt32)]) rfl rfl rfl (wq_T (c_abs (((((a).toUInt64 >>> (((16 : Int32)).toInt64.toUInt64 &&& Int64.toUInt64 63)).toInt64 &&& (255 : Int64))).toInt32 - ((((b).toUInt64 >>> (((16 : Int32)).toInt64.toUInt64 &&& Int64.toUInt64 63)).toInt64 &&& (255 : Int64))).toInt32) h) ?_)
  show wq 10 52 [(8, .int 16), (0, .ref 6), (1, .long a), (3, .long b), (5, .int 1000000), (6, .int m), (7, .int 3)] [.int (jabs (((((a).toUInt64 >>> (((16 : Int32)).toInt64.toUInt64 &&& Int64.toUInt64 63)).toInt64 &&& (255 : Int64))).toInt32 - ((((b).toUInt64 >>> (((16 : Int32)).toInt64.toUInt64 &&& Int64.toUInt64 63)).toInt64 &&& (255 : Int64))).toInt32))] h dc ds _
  show wq 10 52 [(8, .int 16), (0, .ref 6), (1, .long a), (3, .long b), (5, .int 1000000), (6, .int m), (7, .int 3)] [.int (jwa a b 16)] h dc ds _
  refine wq_gos (f := 1) (pc2 := 55) (ls2 := [(9, .int (jwa a b 16)), (8, .int 16), (0, .ref 6), (1, .long a), (3, .long b), (5, .int 1000000), (6, .int m), (7, .int 3)]) (st2 := [.ref 6]) (h2 := h) (dc2 := dc) (ds2 := ds) 2 rfl ?_
  refine wq_getf rfl c6 rfl rfl ?_
  refine wq_gos (f := 1) (pc2 := 60) (ls2 := [(9, .int (jwa a b 16)), (8, .int 16), (0, .ref 6), (1, .long a), (3, .long b), (5, .int 1000000), (6, .int m), (7, .int 3)]) (st2 := [.int 3, .ref 12]) (h2 := h) (dc2 := dc) (ds2 := ds) 1 rfl ?_
  refine wq_ialdk (k := 3) rfl c12 rfl rfl rfl ?_
  refine wq_gos (f := 1) (pc2 := 75) (ls2 := [(10, .int 4), (9, .int (jwa a b 16)), (8, .int 16), (0, .ref 6), (1, .long a), (3, .long b), (5, .int 1000000), (6, .int m), (7, .int 3)]) (st2 := [.int (m * (4 : Int32)), .int (jwa a b 16)]) (h2 := h) (dc2 := dc) (ds2 := ds) 7 rfl ?_
  refine wq_le2 rfl rfl (fun b1x => ?_) (fun b1x => ?_)
  · refine wq_gos (f := 1) (pc2 := 6) (ls2 := [(7, .int 4), (10, .int 4), (9, .int (jwa a b 16)), (8, .int 16), (0, .ref 6), (1, .long a), (3, .long b), (5, .int 1000000), (6, .int m)]) (st2 := []) (h2 := h) (dc2 := dc) (ds2 := ds) 2 rfl ?_
    have hm9 : jtk (jwa a b 16) m = m := if_pos b1x
    refine wq_ls [(0, .ref 6), (1, .long a), (3, .long b), (5, .int 1000000), (6, .int m), (7, .int 4)] (show ([0, 1, 3, 5, 6, 7] : List Nat).Nodup by decide) ⟨rfl, rfl, rfl, rfl, rfl, rfl, trivial⟩ ?_
    rw [← hm9]
    exact kk
  · refine wq_gos (f := 1) (pc2 := 6) (ls2 := [(7, .int 4), (6, .int ((((jwa a b 16) + (4 : Int32)) - (1 : Int32)) / (4 : Int32))), (10, .int 4), (9, .int (jwa a b 16)), (8, .int 16), (0, .ref 6), (1, .long a), (3, .long b), (5, .int 1000000)]) (st2 := []) (h2 := h) (dc2 := dc) (ds2 := ds) 10 rfl ?_
    have hm9 : jtk (jwa a b 16) m = ((((jwa a b 16) + (4 : Int32)) - (1 : Int32)) / (4 : Int32)) := if_neg (Int.not_le.mpr b1x)
    refine wq_ls [(0, .ref 6), (1, .long a), (3, .long b), (5, .int 1000000), (6, .int ((((jwa a b 16) + (4 : Int32)) - (1 : Int32)) / (4 : Int32))), (7, .int 4)] (show ([0, 1, 3, 5, 6, 7] : List Nat).Nodup by decide) ⟨rfl, rfl, rfl, rfl, rfl, rfl, trivial⟩ ?_
    rw [← hm9]
    exact kk
theorem c_tick4 {h : zH} {a b : Int64} {m : Int32} {dc ds : Nat} {Q : zR → Prop} (c6 : zat h 6 = some (.inr (.inr (.inr (0, [.int 9, .int 4, .int 10, .int 2, .int 0, .long 70644700037184, .ref 8, .ref 10, .ref 12, .int 0, .ref 14, .ref 16, .int 0, .ref 18]))))) (c12 : zat h 12 = some (.inl (0, 6, [4, 4, 4, 4, 4, 4]))) (hm : 0 ≤ m.toInt ∧ m.toInt ≤ 100) (kk : wq 10 6 [(0, .ref 6), (1, .long a), (3, .long b), (5, .int 1000000), (6, .int (jtk (jwa a b 8) m)), (7, .int 5)] [] h dc ds Q) : wq 10 6 [(0, .ref 6), (1, .long a), (3, .long b), (5, .int 1000000), (6, .int m), (7, .int 4)] [] h dc ds Q := by
  refine wq_gos (f := 1) (pc2 := 17) (ls2 := [(0, .ref 6), (1, .long a), (3, .long b), (5, .int 1000000), (6, .int m), (7, .int 4)]) (st2 := [.int 1000000, .int m]) (h2 := h) (dc2 := dc) (ds2 := ds) 5 rfl ?_
  refine wq_ge2f rfl rfl (by show m.toInt < 1000000; omega) ?_
  refine wq_gos (f := 1) (pc2 := 49) (ls2 := [(8, .int 8), (0, .ref 6), (1, .long a), (3, .long b), (5, .int 1000000), (6, .int m), (7, .int 4)]) (st2 := [.int (((((a).toUInt64 >>> (((8 : Int32)).toInt64.toUInt64 &&& Int64.toUInt64 63)).toInt64 &&& (255 : Int64))).toInt32 - ((((b).toUInt64 >>> (((8 : Int32)).toInt64.toUInt64 &&& Int64.toUInt64 63)).toInt64 &&& (255 : Int64))).toInt32)]) (h2 := h) (dc2 := dc) (ds2 := ds) 19 rfl ?_
  refine wq_inl (y2 := 283) (as := [.int (((((a).toUInt64 >>> (((8 : Int32)).toInt64.toUInt64 &&& Int64.toUInt64 63)).toInt64 &&& (255 : Int64))).toInt32 - ((((b).toUInt64 >>> (((8 : Int32)).toInt64.toUInt64 &&& Int64.toUInt64 63)).toInt64 &&& (255 : Int64))).toInt32)]) rfl rfl rfl (wq_T (c_abs (((((a).toUInt64 >>> (((8 : Int32)).toInt64.toUInt64 &&& Int64.toUInt64 63)).toInt64 &&& (255 : Int64))).toInt32 - ((((b).toUInt64 >>> (((8 : Int32)).toInt64.toUInt64 &&& Int64.toUInt64 63)).toInt64 &&& (255 : Int64))).toInt32) h) ?_)
  show wq 10 52 [(8, .int 8), (0, .ref 6), (1, .long a), (3, .long b), (5, .int 1000000), (6, .int m), (7, .int 4)] [.int (jabs (((((a).toUInt64 >>> (((8 : Int32)).toInt64.toUInt64 &&& Int64.toUInt64 63)).toInt64 &&& (255 : Int64))).toInt32 - ((((b).toUInt64 >>> (((8 : Int32)).toInt64.toUInt64 &&& Int64.toUInt64 63)).toInt64 &&& (255 : Int64))).toInt32))] h dc ds _
  show wq 10 52 [(8, .int 8), (0, .ref 6), (1, .long a), (3, .long b), (5, .int 1000000), (6, .int m), (7, .int 4)] [.int (jwa a b 8)] h dc ds _
  refine wq_gos (f := 1) (pc2 := 55) (ls2 := [(9, .int (jwa a b 8)), (8, .int 8), (0, .ref 6), (1, .long a), (3, .long b), (5, .int 1000000), (6, .int m), (7, .int 4)]) (st2 := [.ref 6]) (h2 := h) (dc2 := dc) (ds2 := ds) 2 rfl ?_
  refine wq_getf rfl c6 rfl rfl ?_
  refine wq_gos (f := 1) (pc2 := 60) (ls2 := [(9, .int (jwa a b 8)), (8, .int 8), (0, .ref 6), (1, .long a), (3, .long b), (5, .int 1000000), (6, .int m), (7, .int 4)]) (st2 := [.int 4, .ref 12]) (h2 := h) (dc2 := dc) (ds2 := ds) 1 rfl ?_
  refine wq_ialdk (k := 4) rfl c12 rfl rfl rfl ?_
  refine wq_gos (f := 1) (pc2 := 75) (ls2 := [(10, .int 4), (9, .int (jwa a b 8)), (8, .int 8), (0, .ref 6), (1, .long a), (3, .long b), (5, .int 1000000), (6, .int m), (7, .int 4)]) (st2 := [.int (m * (4 : Int32)), .int (jwa a b 8)]) (h2 := h) (dc2 := dc) (ds2 := ds) 7 rfl ?_
  refine wq_le2 rfl rfl (fun b1x => ?_) (fun b1x => ?_)
  · refine wq_gos (f := 1) (pc2 := 6) (ls2 := [(7, .int 5), (10, .int 4), (9, .int (jwa a b 8)), (8, .int 8), (0, .ref 6), (1, .long a), (3, .long b), (5, .int 1000000), (6, .int m)]) (st2 := []) (h2 := h) (dc2 := dc) (ds2 := ds) 2 rfl ?_
    have hm9 : jtk (jwa a b 8) m = m := if_pos b1x
    refine wq_ls [(0, .ref 6), (1, .long a), (3, .long b), (5, .int 1000000), (6, .int m), (7, .int 5)] (show ([0, 1, 3, 5, 6, 7] : List Nat).Nodup by decide) ⟨rfl, rfl, rfl, rfl, rfl, rfl, trivial⟩ ?_
    rw [← hm9]
    exact kk
  · refine wq_gos (f := 1) (pc2 := 6) (ls2 := [(7, .int 5), (6, .int ((((jwa a b 8) + (4 : Int32)) - (1 : Int32)) / (4 : Int32))), (10, .int 4), (9, .int (jwa a b 8)), (8, .int 8), (0, .ref 6), (1, .long a), (3, .long b), (5, .int 1000000)]) (st2 := []) (h2 := h) (dc2 := dc) (ds2 := ds) 10 rfl ?_
    have hm9 : jtk (jwa a b 8) m = ((((jwa a b 8) + (4 : Int32)) - (1 : Int32)) / (4 : Int32)) := if_neg (Int.not_le.mpr b1x)
    refine wq_ls [(0, .ref 6), (1, .long a), (3, .long b), (5, .int 1000000), (6, .int ((((jwa a b 8) + (4 : Int32)) - (1 : Int32)) / (4 : Int32))), (7, .int 5)] (show ([0, 1, 3, 5, 6, 7] : List Nat).Nodup by decide) ⟨rfl, rfl, rfl, rfl, rfl, rfl, trivial⟩ ?_
    rw [← hm9]
    exact kk
theorem c_tick5 {h : zH} {a b : Int64} {m : Int32} {dc ds : Nat} {Q : zR → Prop} (c6 : zat h 6 = some (.inr (.inr (.inr (0, [.int 9, .int 4, .int 10, .int 2, .int 0, .long 70644700037184, .ref 8, .ref 10, .ref 12, .int 0, .ref 14, .ref 16, .int 0, .ref 18]))))) (c12 : zat h 12 = some (.inl (0, 6, [4, 4, 4, 4, 4, 4]))) (hm : 0 ≤ m.toInt ∧ m.toInt ≤ 100) (kk : wq 10 6 [(0, .ref 6), (1, .long a), (3, .long b), (5, .int 1000000), (6, .int (jtk (jwa a b 0) m)), (7, .int 6)] [] h dc ds Q) : wq 10 6 [(0, .ref 6), (1, .long a), (3, .long b), (5, .int 1000000), (6, .int m), (7, .int 5)] [] h dc ds Q := by
  refine wq_gos (f := 1) (pc2 := 17) (ls2 := [(0, .ref 6), (1, .long a), (3, .long b), (5, .int 1000000), (6, .int m), (7, .int 5)]) (st2 := [.int 1000000, .int m]) (h2 := h) (dc2 := dc) (ds2 := ds) 5 rfl ?_
  refine wq_ge2f rfl rfl (by show m.toInt < 1000000; omega) ?_
  refine wq_gos (f := 1) (pc2 := 49) (ls2 := [(8, .int 0), (0, .ref 6), (1, .long a), (3, .long b), (5, .int 1000000), (6, .int m), (7, .int 5)]) (st2 := [.int (((((a).toUInt64 >>> (((0 : Int32)).toInt64.toUInt64 &&& Int64.toUInt64 63)).toInt64 &&& (255 : Int64))).toInt32 - ((((b).toUInt64 >>> (((0 : Int32)).toInt64.toUInt64 &&& Int64.toUInt64 63)).toInt64 &&& (255 : Int64))).toInt32)]) (h2 := h) (dc2 := dc) (ds2 := ds) 19 rfl ?_
  refine wq_inl (y2 := 283) (as := [.int (((((a).toUInt64 >>> (((0 : Int32)).toInt64.toUInt64 &&& Int64.toUInt64 63)).toInt64 &&& (255 : Int64))).toInt32 - ((((b).toUInt64 >>> (((0 : Int32)).toInt64.toUInt64 &&& Int64.toUInt64 63)).toInt64 &&& (255 : Int64))).toInt32)]) rfl rfl rfl (wq_T (c_abs (((((a).toUInt64 >>> (((0 : Int32)).toInt64.toUInt64 &&& Int64.toUInt64 63)).toInt64 &&& (255 : Int64))).toInt32 - ((((b).toUInt64 >>> (((0 : Int32)).toInt64.toUInt64 &&& Int64.toUInt64 63)).toInt64 &&& (255 : Int64))).toInt32) h) ?_)
  show wq 10 52 [(8, .int 0), (0, .ref 6), (1, .long a), (3, .long b), (5, .int 1000000), (6, .int m), (7, .int 5)] [.int (jabs (((((a).toUInt64 >>> (((0 : Int32)).toInt64.toUInt64 &&& Int64.toUInt64 63)).toInt64 &&& (255 : Int64))).toInt32 - ((((b).toUInt64 >>> (((0 : Int32)).toInt64.toUInt64 &&& Int64.toUInt64 63)).toInt64 &&& (255 : Int64))).toInt32))] h dc ds _
  show wq 10 52 [(8, .int 0), (0, .ref 6), (1, .long a), (3, .long b), (5, .int 1000000), (6, .int m), (7, .int 5)] [.int (jwa a b 0)] h dc ds _
  refine wq_gos (f := 1) (pc2 := 55) (ls2 := [(9, .int (jwa a b 0)), (8, .int 0), (0, .ref 6), (1, .long a), (3, .long b), (5, .int 1000000), (6, .int m), (7, .int 5)]) (st2 := [.ref 6]) (h2 := h) (dc2 := dc) (ds2 := ds) 2 rfl ?_
  refine wq_getf rfl c6 rfl rfl ?_
  refine wq_gos (f := 1) (pc2 := 60) (ls2 := [(9, .int (jwa a b 0)), (8, .int 0), (0, .ref 6), (1, .long a), (3, .long b), (5, .int 1000000), (6, .int m), (7, .int 5)]) (st2 := [.int 5, .ref 12]) (h2 := h) (dc2 := dc) (ds2 := ds) 1 rfl ?_
  refine wq_ialdk (k := 5) rfl c12 rfl rfl rfl ?_
  refine wq_gos (f := 1) (pc2 := 75) (ls2 := [(10, .int 4), (9, .int (jwa a b 0)), (8, .int 0), (0, .ref 6), (1, .long a), (3, .long b), (5, .int 1000000), (6, .int m), (7, .int 5)]) (st2 := [.int (m * (4 : Int32)), .int (jwa a b 0)]) (h2 := h) (dc2 := dc) (ds2 := ds) 7 rfl ?_
  refine wq_le2 rfl rfl (fun b1x => ?_) (fun b1x => ?_)
  · refine wq_gos (f := 1) (pc2 := 6) (ls2 := [(7, .int 6), (10, .int 4), (9, .int (jwa a b 0)), (8, .int 0), (0, .ref 6), (1, .long a), (3, .long b), (5, .int 1000000), (6, .int m)]) (st2 := []) (h2 := h) (dc2 := dc) (ds2 := ds) 2 rfl ?_
    have hm9 : jtk (jwa a b 0) m = m := if_pos b1x
    refine wq_ls [(0, .ref 6), (1, .long a), (3, .long b), (5, .int 1000000), (6, .int m), (7, .int 6)] (show ([0, 1, 3, 5, 6, 7] : List Nat).Nodup by decide) ⟨rfl, rfl, rfl, rfl, rfl, rfl, trivial⟩ ?_
    rw [← hm9]
    exact kk
  · refine wq_gos (f := 1) (pc2 := 6) (ls2 := [(7, .int 6), (6, .int ((((jwa a b 0) + (4 : Int32)) - (1 : Int32)) / (4 : Int32))), (10, .int 4), (9, .int (jwa a b 0)), (8, .int 0), (0, .ref 6), (1, .long a), (3, .long b), (5, .int 1000000)]) (st2 := []) (h2 := h) (dc2 := dc) (ds2 := ds) 10 rfl ?_
    have hm9 : jtk (jwa a b 0) m = ((((jwa a b 0) + (4 : Int32)) - (1 : Int32)) / (4 : Int32)) := if_neg (Int.not_le.mpr b1x)
    refine wq_ls [(0, .ref 6), (1, .long a), (3, .long b), (5, .int 1000000), (6, .int ((((jwa a b 0) + (4 : Int32)) - (1 : Int32)) / (4 : Int32))), (7, .int 6)] (show ([0, 1, 3, 5, 6, 7] : List Nat).Nodup by decide) ⟨rfl, rfl, rfl, rfl, rfl, rfl, trivial⟩ ?_
    rw [← hm9]
    exact kk
def jtks (a b : Int64) : Int32 := (jtk (jwa a b 0) (jtk (jwa a b 8) (jtk (jwa a b 16) (jtk (jwa a b 24) (jtk (jwa a b 32) (jtk (jwa a b 40) (0 : Int32)))))))
theorem c_ticks0 {h : zH} (a b : Int64) (c6 : zat h 6 = some (.inr (.inr (.inr (0, [.int 9, .int 4, .int 10, .int 2, .int 0, .long 70644700037184, .ref 8, .ref 10, .ref 12, .int 0, .ref 14, .ref 16, .int 0, .ref 18]))))) (c12 : zat h 12 = some (.inl (0, 6, [4, 4, 4, 4, 4, 4]))) : zT zg0 zF zP 9 0 [(0, .ref 6), (1, .long a), (3, .long b)] [] h 0 0 (some (.int (jtks a b)), h, 0, 0) := by
  have r0 : 0 ≤ (0 : Int32).toInt ∧ (0 : Int32).toInt ≤ 100 := by decide
  have r1 := jtk_rng (jwa_rng a b 40) r0
  have r2 := jtk_rng (jwa_rng a b 32) r1
  have r3 := jtk_rng (jwa_rng a b 24) r2
  have r4 := jtk_rng (jwa_rng a b 16) r3
  have r5 := jtk_rng (jwa_rng a b 8) r4
  apply wq_toT
  refine wq_gos (f := 1) (pc2 := 5) (ls2 := [(0, .ref 6), (1, .long a), (3, .long b)]) (st2 := [.int 1000000, .long b, .long a, .ref 6]) (h2 := h) (dc2 := 0) (ds2 := 0) 4 rfl ?_
  refine wq_inlv (y2 := 10) (as := [.long a, .long b, .int 1000000]) rfl rfl rfl c6 rfl ?_
  show wq 10 0 [(0, .ref 6), (1, .long a), (3, .long b), (5, .int 1000000)] [] h 0 0 _
  refine wq_gos (f := 1) (pc2 := 6) (ls2 := [(7, .int 0), (6, .int 0), (0, .ref 6), (1, .long a), (3, .long b), (5, .int 1000000)]) (st2 := []) (h2 := h) (dc2 := 0) (ds2 := 0) 4 rfl ?_
  refine wq_ls [(0, .ref 6), (1, .long a), (3, .long b), (5, .int 1000000), (6, .int (0 : Int32)), (7, .int 0)] (show ([0, 1, 3, 5, 6, 7] : List Nat).Nodup by decide) ⟨rfl, rfl, rfl, rfl, rfl, rfl, trivial⟩ ?_
  refine c_tick0 c6 c12 r0 ?_
  refine c_tick1 c6 c12 r1 ?_
  refine c_tick2 c6 c12 r2 ?_
  refine c_tick3 c6 c12 r3 ?_
  refine c_tick4 c6 c12 r4 ?_
  refine c_tick5 c6 c12 r5 ?_
  refine wq_gos (f := 1) (pc2 := 98) (ls2 := [(0, .ref 6), (1, .long a), (3, .long b), (5, .int 1000000), (6, .int (jtk (jwa a b 0) (jtk (jwa a b 8) (jtk (jwa a b 16) (jtk (jwa a b 24) (jtk (jwa a b 32) (jtk (jwa a b 40) (0 : Int32)))))))), (7, .int 6)]) (st2 := [.int (jtks a b)]) (h2 := h) (dc2 := 0) (ds2 := 0) 4 rfl ?_
  refine wq_ret rfl rfl ?_
  exact wq_ret rfl rfl rfl
theorem m_side {h : zH} {hr : List Int32} {v0 v1 v2 v3 v4 v5 : Int32} (hH : zat h 206 = some (.inl (0, 6, hr))) (u0 : hr.getD 0 0 = v0) (u1 : hr.getD 1 0 = v1) (u2 : hr.getD 2 0 = v2) (u3 : hr.getD 3 0 = v3) (u4 : hr.getD 4 0 = v4) (u5 : hr.getD 5 0 = v5) : zT zg0 zF zP 204 0 [(0, .ref 206), (1, .int 0)] [] h 0 0 (some (.int (jsg (jsin v1))), h, 0, 0) := by
  apply wq_toT
  refine wq_gos (f := 1) (pc2 := 4) (ls2 := [(0, .ref 206), (1, .int 0)]) (st2 := [.int 1, .ref 206]) (h2 := h) (dc2 := 0) (ds2 := 0) 4 rfl ?_
  refine wq_ialdk (k := 1) rfl hH rfl rfl rfl ?_
  refine wq_vi u1 ?_
  refine wq_inl (y2 := 196) (as := [.int v1]) rfl rfl rfl (wq_T (m_sin v1 h) ?_)
  show wq 204 8 [(0, .ref 206), (1, .int 0)] [.int (jsin v1)] h 0 0 _
  refine wq_inl (y2 := 202) (as := [.int (jsin v1)]) rfl rfl rfl (wq_T (m_sgn (jsin v1) h) ?_)
  show wq 204 11 [(0, .ref 206), (1, .int 0)] [.int (jsg (jsin v1))] h 0 0 _
  exact wq_ret rfl rfl rfl
theorem m_bend {h : zH} {hr : List Int32} {v0 v1 v2 v3 v4 v5 : Int32} (hH : zat h 206 = some (.inl (0, 6, hr))) (u0 : hr.getD 0 0 = v0) (u1 : hr.getD 1 0 = v1) (u2 : hr.getD 2 0 = v2) (u3 : hr.getD 3 0 = v3) (u4 : hr.getD 4 0 = v4) (u5 : hr.getD 5 0 = v5) : zT zg0 zF zP 205 0 [(0, .ref 206), (1, .int 0)] [] h 0 0 (some (.int (jsg (jsin v3))), h, 0, 0) := by
  apply wq_toT
  refine wq_gos (f := 1) (pc2 := 4) (ls2 := [(0, .ref 206), (1, .int 0)]) (st2 := [.int 3, .ref 206]) (h2 := h) (dc2 := 0) (ds2 := 0) 4 rfl ?_
  refine wq_ialdk (k := 3) rfl hH rfl rfl rfl ?_
  refine wq_vi u3 ?_
  refine wq_inl (y2 := 196) (as := [.int v3]) rfl rfl rfl (wq_T (m_sin v3 h) ?_)
  show wq 205 8 [(0, .ref 206), (1, .int 0)] [.int (jsin v3)] h 0 0 _
  refine wq_inl (y2 := 202) (as := [.int (jsin v3)]) rfl rfl rfl (wq_T (m_sgn (jsin v3) h) ?_)
  show wq 205 11 [(0, .ref 206), (1, .int 0)] [.int (jsg (jsin v3))] h 0 0 _
  exact wq_ret rfl rfl rfl
theorem m_mea {h : zH} {hr : List Int32} {v0 v1 v2 v3 v4 v5 : Int32} (hH : zat h 206 = some (.inl (0, 6, hr))) (u0 : hr.getD 0 0 = v0) (u1 : hr.getD 1 0 = v1) (u2 : hr.getD 2 0 = v2) (u3 : hr.getD 3 0 = v3) (u4 : hr.getD 4 0 = v4) (u5 : hr.getD 5 0 = v5) : zT zg0 zF zP 206 0 [(0, .ref 206), (1, .int 0)] [] h 0 0 (some (.int (jme v1 v3)), h, 0, 0) := by
  apply wq_toT
  refine wq_gos (f := 1) (pc2 := 4) (ls2 := [(0, .ref 206), (1, .int 0)]) (st2 := [.int 1, .ref 206]) (h2 := h) (dc2 := 0) (ds2 := 0) 4 rfl ?_
  refine wq_ialdk (k := 1) rfl hH rfl rfl rfl ?_
  refine wq_vi u1 ?_
  refine wq_inl (y2 := 196) (as := [.int v1]) rfl rfl rfl (wq_T (m_sin v1 h) ?_)
  show wq 206 8 [(0, .ref 206), (1, .int 0)] [.int (jsin v1)] h 0 0 _
  refine wq_gos (f := 1) (pc2 := 12) (ls2 := [(0, .ref 206), (1, .int 0)]) (st2 := [.int 3, .ref 206, .int (jsin v1)]) (h2 := h) (dc2 := 0) (ds2 := 0) 4 rfl ?_
  refine wq_ialdk (k := 3) rfl hH rfl rfl rfl ?_
  refine wq_vi u3 ?_
  refine wq_inl (y2 := 196) (as := [.int v3]) rfl rfl rfl (wq_T (m_sin v3 h) ?_)
  show wq 206 16 [(0, .ref 206), (1, .int 0)] [.int (jsin v3), .int (jsin v1)] h 0 0 _
  refine wq_gos (f := 1) (pc2 := 17) (ls2 := [(0, .ref 206), (1, .int 0)]) (st2 := [.int ((jsin v1) * (jsin v3))]) (h2 := h) (dc2 := 0) (ds2 := 0) 1 rfl ?_
  refine wq_inl (y2 := 203) (as := [.int ((jsin v1) * (jsin v3))]) rfl rfl rfl (wq_T (m_abs ((jsin v1) * (jsin v3)) h) ?_)
  show wq 206 20 [(0, .ref 206), (1, .int 0)] [.int (jabs ((jsin v1) * (jsin v3)))] h 0 0 _
  refine wq_gos (f := 1) (pc2 := 24) (ls2 := [(0, .ref 206), (1, .int 0)]) (st2 := [.int ((jabs ((jsin v1) * (jsin v3))) / (1000 : Int32))]) (h2 := h) (dc2 := 0) (ds2 := 0) 2 rfl ?_
  exact wq_ret rfl rfl rfl
def mtk (w m : Int32) : Int32 := if (((jabs (w - (0 : Int32)) + (4 : Int32)) - (1 : Int32)) / (4 : Int32)).toInt ≤ m.toInt then m else ((jabs (w - (0 : Int32)) + (4 : Int32)) - (1 : Int32)) / (4 : Int32)
theorem m_tick0 {h : zH} {fs : List Value} {hr : List Int32} {v0 v1 v2 v3 v4 v5 m : Int32} {dc ds : Nat} {Q : zR → Prop} (hM : zat h 162 = some (.inr (.inr (.inr (10, fs))))) (hC : mC fs) (c172 : zat h 172 = some (.inl (0, 12, [4, 4, 4, 4, 4, 4, 4, 4, 4, 4, 4, 4]))) (c188 : zat h 188 = some (.inl (0, 6, [0, 0, 0, 0, 0, 0]))) (hH : zat h 206 = some (.inl (0, 6, hr))) (u0 : hr.getD 0 0 = v0) (u1 : hr.getD 1 0 = v1) (u2 : hr.getD 2 0 = v2) (u3 : hr.getD 3 0 = v3) (u4 : hr.getD 4 0 = v4) (u5 : hr.getD 5 0 = v5) (kk : wq 233 6 [(0, .ref 162), (1, .ref 188), (2, .int 0), (3, .ref 206), (4, .int 0), (5, .int (mtk v0 m)), (6, .int 1)] [] h dc ds Q) : wq 233 6 [(0, .ref 162), (1, .ref 188), (2, .int 0), (3, .ref 206), (4, .int 0), (5, .int m), (6, .int 0)] [] h dc ds Q := by
  refine wq_gos (f := 1) (pc2 := 19) (ls2 := [(0, .ref 162), (1, .ref 188), (2, .int 0), (3, .ref 206), (4, .int 0), (5, .int m), (6, .int 0)]) (st2 := [.int 0, .ref 206]) (h2 := h) (dc2 := dc) (ds2 := ds) 7 rfl ?_
  refine wq_ialdk (k := 0) rfl hH rfl rfl rfl ?_
  refine wq_vi u0 ?_
  refine wq_gos (f := 1) (pc2 := 25) (ls2 := [(0, .ref 162), (1, .ref 188), (2, .int 0), (3, .ref 206), (4, .int 0), (5, .int m), (6, .int 0)]) (st2 := [.int 0, .ref 188, .int v0]) (h2 := h) (dc2 := dc) (ds2 := ds) 4 rfl ?_
  refine wq_ialdk (k := 0) rfl c188 rfl rfl rfl ?_
  refine wq_gos (f := 1) (pc2 := 27) (ls2 := [(0, .ref 162), (1, .ref 188), (2, .int 0), (3, .ref 206), (4, .int 0), (5, .int m), (6, .int 0)]) (st2 := [.int (v0 - (0 : Int32))]) (h2 := h) (dc2 := dc) (ds2 := ds) 1 rfl ?_
  refine wq_inl (y2 := 203) (as := [.int (v0 - (0 : Int32))]) rfl rfl rfl (wq_T (m_abs (v0 - (0 : Int32)) h) ?_)
  show wq 233 30 [(0, .ref 162), (1, .ref 188), (2, .int 0), (3, .ref 206), (4, .int 0), (5, .int m), (6, .int 0)] [.int (jabs (v0 - (0 : Int32)))] h dc ds _
  refine wq_gos (f := 1) (pc2 := 31) (ls2 := [(0, .ref 162), (1, .ref 188), (2, .int 0), (3, .ref 206), (4, .int 0), (5, .int m), (6, .int 0)]) (st2 := [.ref 162, .int (jabs (v0 - (0 : Int32)))]) (h2 := h) (dc2 := dc) (ds2 := ds) 1 rfl ?_
  refine wq_getf rfl hM (hC.2 (6, 172) (by decide)) rfl ?_
  refine wq_gos (f := 1) (pc2 := 36) (ls2 := [(0, .ref 162), (1, .ref 188), (2, .int 0), (3, .ref 206), (4, .int 0), (5, .int m), (6, .int 0)]) (st2 := [.int 0, .ref 172, .int (jabs (v0 - (0 : Int32)))]) (h2 := h) (dc2 := dc) (ds2 := ds) 1 rfl ?_
  refine wq_ialdk (k := 0) rfl c172 rfl rfl rfl ?_
  refine wq_gos (f := 1) (pc2 := 41) (ls2 := [(0, .ref 162), (1, .ref 188), (2, .int 0), (3, .ref 206), (4, .int 0), (5, .int m), (6, .int 0)]) (st2 := [.ref 162, .int (((jabs (v0 - (0 : Int32))) + (4 : Int32)) - (1 : Int32))]) (h2 := h) (dc2 := dc) (ds2 := ds) 4 rfl ?_
  refine wq_getf rfl hM (hC.2 (6, 172) (by decide)) rfl ?_
  refine wq_gos (f := 1) (pc2 := 46) (ls2 := [(0, .ref 162), (1, .ref 188), (2, .int 0), (3, .ref 206), (4, .int 0), (5, .int m), (6, .int 0)]) (st2 := [.int 0, .ref 172, .int (((jabs (v0 - (0 : Int32))) + (4 : Int32)) - (1 : Int32))]) (h2 := h) (dc2 := dc) (ds2 := ds) 1 rfl ?_
  refine wq_ialdk (k := 0) rfl c172 rfl rfl rfl ?_
  refine wq_gos (f := 1) (pc2 := 54) (ls2 := [(7, .int ((((jabs (v0 - (0 : Int32))) + (4 : Int32)) - (1 : Int32)) / (4 : Int32))), (0, .ref 162), (1, .ref 188), (2, .int 0), (3, .ref 206), (4, .int 0), (5, .int m), (6, .int 0)]) (st2 := [.int m, .int ((((jabs (v0 - (0 : Int32))) + (4 : Int32)) - (1 : Int32)) / (4 : Int32))]) (h2 := h) (dc2 := dc) (ds2 := ds) 4 rfl ?_
  refine wq_le2 rfl rfl (fun b1x => ?_) (fun b1x => ?_)
  · refine wq_gos (f := 1) (pc2 := 6) (ls2 := [(6, .int 1), (5, .int m), (7, .int ((((jabs (v0 - (0 : Int32))) + (4 : Int32)) - (1 : Int32)) / (4 : Int32))), (0, .ref 162), (1, .ref 188), (2, .int 0), (3, .ref 206), (4, .int 0)]) (st2 := []) (h2 := h) (dc2 := dc) (ds2 := ds) 4 rfl ?_
    have hm9 : mtk v0 m = m := if_pos b1x
    refine wq_ls [(0, .ref 162), (1, .ref 188), (2, .int 0), (3, .ref 206), (4, .int 0), (5, .int m), (6, .int 1)] (show ([0, 1, 2, 3, 4, 5, 6] : List Nat).Nodup by decide) ⟨rfl, rfl, rfl, rfl, rfl, rfl, rfl, trivial⟩ ?_
    rw [← hm9]
    exact kk
  · refine wq_gos (f := 1) (pc2 := 6) (ls2 := [(6, .int 1), (5, .int ((((jabs (v0 - (0 : Int32))) + (4 : Int32)) - (1 : Int32)) / (4 : Int32))), (7, .int ((((jabs (v0 - (0 : Int32))) + (4 : Int32)) - (1 : Int32)) / (4 : Int32))), (0, .ref 162), (1, .ref 188), (2, .int 0), (3, .ref 206), (4, .int 0)]) (st2 := []) (h2 := h) (dc2 := dc) (ds2 := ds) 5 rfl ?_
    have hm9 : mtk v0 m = ((((jabs (v0 - (0 : Int32))) + (4 : Int32)) - (1 : Int32)) / (4 : Int32)) := if_neg (Int.not_le.mpr b1x)
    refine wq_ls [(0, .ref 162), (1, .ref 188), (2, .int 0), (3, .ref 206), (4, .int 0), (5, .int ((((jabs (v0 - (0 : Int32))) + (4 : Int32)) - (1 : Int32)) / (4 : Int32))), (6, .int 1)] (show ([0, 1, 2, 3, 4, 5, 6] : List Nat).Nodup by decide) ⟨rfl, rfl, rfl, rfl, rfl, rfl, rfl, trivial⟩ ?_
    rw [← hm9]
    exact kk
theorem m_tick1 {h : zH} {fs : List Value} {hr : List Int32} {v0 v1 v2 v3 v4 v5 m : Int32} {dc ds : Nat} {Q : zR → Prop} (hM : zat h 162 = some (.inr (.inr (.inr (10, fs))))) (hC : mC fs) (c172 : zat h 172 = some (.inl (0, 12, [4, 4, 4, 4, 4, 4, 4, 4, 4, 4, 4, 4]))) (c188 : zat h 188 = some (.inl (0, 6, [0, 0, 0, 0, 0, 0]))) (hH : zat h 206 = some (.inl (0, 6, hr))) (u0 : hr.getD 0 0 = v0) (u1 : hr.getD 1 0 = v1) (u2 : hr.getD 2 0 = v2) (u3 : hr.getD 3 0 = v3) (u4 : hr.getD 4 0 = v4) (u5 : hr.getD 5 0 = v5) (kk : wq 233 6 [(0, .ref 162), (1, .ref 188), (2, .int 0), (3, .ref 206), (4, .int 0), (5, .int (mtk v1 m)), (6, .int 2)] [] h dc ds Q) : wq 233 6 [(0, .ref 162), (1, .ref 188), (2, .int 0), (3, .ref 206), (4, .int 0), (5, .int m), (6, .int 1)] [] h dc ds Q := by
  refine wq_gos (f := 1) (pc2 := 19) (ls2 := [(0, .ref 162), (1, .ref 188), (2, .int 0), (3, .ref 206), (4, .int 0), (5, .int m), (6, .int 1)]) (st2 := [.int 1, .ref 206]) (h2 := h) (dc2 := dc) (ds2 := ds) 7 rfl ?_
  refine wq_ialdk (k := 1) rfl hH rfl rfl rfl ?_
  refine wq_vi u1 ?_
  refine wq_gos (f := 1) (pc2 := 25) (ls2 := [(0, .ref 162), (1, .ref 188), (2, .int 0), (3, .ref 206), (4, .int 0), (5, .int m), (6, .int 1)]) (st2 := [.int 1, .ref 188, .int v1]) (h2 := h) (dc2 := dc) (ds2 := ds) 4 rfl ?_
  refine wq_ialdk (k := 1) rfl c188 rfl rfl rfl ?_
  refine wq_gos (f := 1) (pc2 := 27) (ls2 := [(0, .ref 162), (1, .ref 188), (2, .int 0), (3, .ref 206), (4, .int 0), (5, .int m), (6, .int 1)]) (st2 := [.int (v1 - (0 : Int32))]) (h2 := h) (dc2 := dc) (ds2 := ds) 1 rfl ?_
  refine wq_inl (y2 := 203) (as := [.int (v1 - (0 : Int32))]) rfl rfl rfl (wq_T (m_abs (v1 - (0 : Int32)) h) ?_)
  show wq 233 30 [(0, .ref 162), (1, .ref 188), (2, .int 0), (3, .ref 206), (4, .int 0), (5, .int m), (6, .int 1)] [.int (jabs (v1 - (0 : Int32)))] h dc ds _
  refine wq_gos (f := 1) (pc2 := 31) (ls2 := [(0, .ref 162), (1, .ref 188), (2, .int 0), (3, .ref 206), (4, .int 0), (5, .int m), (6, .int 1)]) (st2 := [.ref 162, .int (jabs (v1 - (0 : Int32)))]) (h2 := h) (dc2 := dc) (ds2 := ds) 1 rfl ?_
  refine wq_getf rfl hM (hC.2 (6, 172) (by decide)) rfl ?_
  refine wq_gos (f := 1) (pc2 := 36) (ls2 := [(0, .ref 162), (1, .ref 188), (2, .int 0), (3, .ref 206), (4, .int 0), (5, .int m), (6, .int 1)]) (st2 := [.int 1, .ref 172, .int (jabs (v1 - (0 : Int32)))]) (h2 := h) (dc2 := dc) (ds2 := ds) 1 rfl ?_
  refine wq_ialdk (k := 1) rfl c172 rfl rfl rfl ?_
  refine wq_gos (f := 1) (pc2 := 41) (ls2 := [(0, .ref 162), (1, .ref 188), (2, .int 0), (3, .ref 206), (4, .int 0), (5, .int m), (6, .int 1)]) (st2 := [.ref 162, .int (((jabs (v1 - (0 : Int32))) + (4 : Int32)) - (1 : Int32))]) (h2 := h) (dc2 := dc) (ds2 := ds) 4 rfl ?_
  refine wq_getf rfl hM (hC.2 (6, 172) (by decide)) rfl ?_
  refine wq_gos (f := 1) (pc2 := 46) (ls2 := [(0, .ref 162), (1, .ref 188), (2, .int 0), (3, .ref 206), (4, .int 0), (5, .int m), (6, .int 1)]) (st2 := [.int 1, .ref 172, .int (((jabs (v1 - (0 : Int32))) + (4 : Int32)) - (1 : Int32))]) (h2 := h) (dc2 := dc) (ds2 := ds) 1 rfl ?_
  refine wq_ialdk (k := 1) rfl c172 rfl rfl rfl ?_
  refine wq_gos (f := 1) (pc2 := 54) (ls2 := [(7, .int ((((jabs (v1 - (0 : Int32))) + (4 : Int32)) - (1 : Int32)) / (4 : Int32))), (0, .ref 162), (1, .ref 188), (2, .int 0), (3, .ref 206), (4, .int 0), (5, .int m), (6, .int 1)]) (st2 := [.int m, .int ((((jabs (v1 - (0 : Int32))) + (4 : Int32)) - (1 : Int32)) / (4 : Int32))]) (h2 := h) (dc2 := dc) (ds2 := ds) 4 rfl ?_
  refine wq_le2 rfl rfl (fun b1x => ?_) (fun b1x => ?_)
  · refine wq_gos (f := 1) (pc2 := 6) (ls2 := [(6, .int 2), (5, .int m), (7, .int ((((jabs (v1 - (0 : Int32))) + (4 : Int32)) - (1 : Int32)) / (4 : Int32))), (0, .ref 162), (1, .ref 188), (2, .int 0), (3, .ref 206), (4, .int 0)]) (st2 := []) (h2 := h) (dc2 := dc) (ds2 := ds) 4 rfl ?_
    have hm9 : mtk v1 m = m := if_pos b1x
    refine wq_ls [(0, .ref 162), (1, .ref 188), (2, .int 0), (3, .ref 206), (4, .int 0), (5, .int m), (6, .int 2)] (show ([0, 1, 2, 3, 4, 5, 6] : List Nat).Nodup by decide) ⟨rfl, rfl, rfl, rfl, rfl, rfl, rfl, trivial⟩ ?_
    rw [← hm9]
    exact kk
  · refine wq_gos (f := 1) (pc2 := 6) (ls2 := [(6, .int 2), (5, .int ((((jabs (v1 - (0 : Int32))) + (4 : Int32)) - (1 : Int32)) / (4 : Int32))), (7, .int ((((jabs (v1 - (0 : Int32))) + (4 : Int32)) - (1 : Int32)) / (4 : Int32))), (0, .ref 162), (1, .ref 188), (2, .int 0), (3, .ref 206), (4, .int 0)]) (st2 := []) (h2 := h) (dc2 := dc) (ds2 := ds) 5 rfl ?_
    have hm9 : mtk v1 m = ((((jabs (v1 - (0 : Int32))) + (4 : Int32)) - (1 : Int32)) / (4 : Int32)) := if_neg (Int.not_le.mpr b1x)
    refine wq_ls [(0, .ref 162), (1, .ref 188), (2, .int 0), (3, .ref 206), (4, .int 0), (5, .int ((((jabs (v1 - (0 : Int32))) + (4 : Int32)) - (1 : Int32)) / (4 : Int32))), (6, .int 2)] (show ([0, 1, 2, 3, 4, 5, 6] : List Nat).Nodup by decide) ⟨rfl, rfl, rfl, rfl, rfl, rfl, rfl, trivial⟩ ?_
    rw [← hm9]
    exact kk
theorem m_tick2 {h : zH} {fs : List Value} {hr : List Int32} {v0 v1 v2 v3 v4 v5 m : Int32} {dc ds : Nat} {Q : zR → Prop} (hM : zat h 162 = some (.inr (.inr (.inr (10, fs))))) (hC : mC fs) (c172 : zat h 172 = some (.inl (0, 12, [4, 4, 4, 4, 4, 4, 4, 4, 4, 4, 4, 4]))) (c188 : zat h 188 = some (.inl (0, 6, [0, 0, 0, 0, 0, 0]))) (hH : zat h 206 = some (.inl (0, 6, hr))) (u0 : hr.getD 0 0 = v0) (u1 : hr.getD 1 0 = v1) (u2 : hr.getD 2 0 = v2) (u3 : hr.getD 3 0 = v3) (u4 : hr.getD 4 0 = v4) (u5 : hr.getD 5 0 = v5) (kk : wq 233 6 [(0, .ref 162), (1, .ref 188), (2, .int 0), (3, .ref 206), (4, .int 0), (5, .int (mtk v2 m)), (6, .int 3)] [] h dc ds Q) : wq 233 6 [(0, .ref 162), (1, .ref 188), (2, .int 0), (3, .ref 206), (4, .int 0), (5, .int m), (6, .int 2)] [] h dc ds Q := by
  refine wq_gos (f := 1) (pc2 := 19) (ls2 := [(0, .ref 162), (1, .ref 188), (2, .int 0), (3, .ref 206), (4, .int 0), (5, .int m), (6, .int 2)]) (st2 := [.int 2, .ref 206]) (h2 := h) (dc2 := dc) (ds2 := ds) 7 rfl ?_
  refine wq_ialdk (k := 2) rfl hH rfl rfl rfl ?_
  refine wq_vi u2 ?_
  refine wq_gos (f := 1) (pc2 := 25) (ls2 := [(0, .ref 162), (1, .ref 188), (2, .int 0), (3, .ref 206), (4, .int 0), (5, .int m), (6, .int 2)]) (st2 := [.int 2, .ref 188, .int v2]) (h2 := h) (dc2 := dc) (ds2 := ds) 4 rfl ?_
  refine wq_ialdk (k := 2) rfl c188 rfl rfl rfl ?_
  refine wq_gos (f := 1) (pc2 := 27) (ls2 := [(0, .ref 162), (1, .ref 188), (2, .int 0), (3, .ref 206), (4, .int 0), (5, .int m), (6, .int 2)]) (st2 := [.int (v2 - (0 : Int32))]) (h2 := h) (dc2 := dc) (ds2 := ds) 1 rfl ?_
  refine wq_inl (y2 := 203) (as := [.int (v2 - (0 : Int32))]) rfl rfl rfl (wq_T (m_abs (v2 - (0 : Int32)) h) ?_)
  show wq 233 30 [(0, .ref 162), (1, .ref 188), (2, .int 0), (3, .ref 206), (4, .int 0), (5, .int m), (6, .int 2)] [.int (jabs (v2 - (0 : Int32)))] h dc ds _
  refine wq_gos (f := 1) (pc2 := 31) (ls2 := [(0, .ref 162), (1, .ref 188), (2, .int 0), (3, .ref 206), (4, .int 0), (5, .int m), (6, .int 2)]) (st2 := [.ref 162, .int (jabs (v2 - (0 : Int32)))]) (h2 := h) (dc2 := dc) (ds2 := ds) 1 rfl ?_
  refine wq_getf rfl hM (hC.2 (6, 172) (by decide)) rfl ?_
  refine wq_gos (f := 1) (pc2 := 36) (ls2 := [(0, .ref 162), (1, .ref 188), (2, .int 0), (3, .ref 206), (4, .int 0), (5, .int m), (6, .int 2)]) (st2 := [.int 2, .ref 172, .int (jabs (v2 - (0 : Int32)))]) (h2 := h) (dc2 := dc) (ds2 := ds) 1 rfl ?_
  refine wq_ialdk (k := 2) rfl c172 rfl rfl rfl ?_
  refine wq_gos (f := 1) (pc2 := 41) (ls2 := [(0, .ref 162), (1, .ref 188), (2, .int 0), (3, .ref 206), (4, .int 0), (5, .int m), (6, .int 2)]) (st2 := [.ref 162, .int (((jabs (v2 - (0 : Int32))) + (4 : Int32)) - (1 : Int32))]) (h2 := h) (dc2 := dc) (ds2 := ds) 4 rfl ?_
  refine wq_getf rfl hM (hC.2 (6, 172) (by decide)) rfl ?_
  refine wq_gos (f := 1) (pc2 := 46) (ls2 := [(0, .ref 162), (1, .ref 188), (2, .int 0), (3, .ref 206), (4, .int 0), (5, .int m), (6, .int 2)]) (st2 := [.int 2, .ref 172, .int (((jabs (v2 - (0 : Int32))) + (4 : Int32)) - (1 : Int32))]) (h2 := h) (dc2 := dc) (ds2 := ds) 1 rfl ?_
  refine wq_ialdk (k := 2) rfl c172 rfl rfl rfl ?_
  refine wq_gos (f := 1) (pc2 := 54) (ls2 := [(7, .int ((((jabs (v2 - (0 : Int32))) + (4 : Int32)) - (1 : Int32)) / (4 : Int32))), (0, .ref 162), (1, .ref 188), (2, .int 0), (3, .ref 206), (4, .int 0), (5, .int m), (6, .int 2)]) (st2 := [.int m, .int ((((jabs (v2 - (0 : Int32))) + (4 : Int32)) - (1 : Int32)) / (4 : Int32))]) (h2 := h) (dc2 := dc) (ds2 := ds) 4 rfl ?_
  refine wq_le2 rfl rfl (fun b1x => ?_) (fun b1x => ?_)
  · refine wq_gos (f := 1) (pc2 := 6) (ls2 := [(6, .int 3), (5, .int m), (7, .int ((((jabs (v2 - (0 : Int32))) + (4 : Int32)) - (1 : Int32)) / (4 : Int32))), (0, .ref 162), (1, .ref 188), (2, .int 0), (3, .ref 206), (4, .int 0)]) (st2 := []) (h2 := h) (dc2 := dc) (ds2 := ds) 4 rfl ?_
    have hm9 : mtk v2 m = m := if_pos b1x
    refine wq_ls [(0, .ref 162), (1, .ref 188), (2, .int 0), (3, .ref 206), (4, .int 0), (5, .int m), (6, .int 3)] (show ([0, 1, 2, 3, 4, 5, 6] : List Nat).Nodup by decide) ⟨rfl, rfl, rfl, rfl, rfl, rfl, rfl, trivial⟩ ?_
    rw [← hm9]
    exact kk
  · refine wq_gos (f := 1) (pc2 := 6) (ls2 := [(6, .int 3), (5, .int ((((jabs (v2 - (0 : Int32))) + (4 : Int32)) - (1 : Int32)) / (4 : Int32))), (7, .int ((((jabs (v2 - (0 : Int32))) + (4 : Int32)) - (1 : Int32)) / (4 : Int32))), (0, .ref 162), (1, .ref 188), (2, .int 0), (3, .ref 206), (4, .int 0)]) (st2 := []) (h2 := h) (dc2 := dc) (ds2 := ds) 5 rfl ?_
    have hm9 : mtk v2 m = ((((jabs (v2 - (0 : Int32))) + (4 : Int32)) - (1 : Int32)) / (4 : Int32)) := if_neg (Int.not_le.mpr b1x)
    refine wq_ls [(0, .ref 162), (1, .ref 188), (2, .int 0), (3, .ref 206), (4, .int 0), (5, .int ((((jabs (v2 - (0 : Int32))) + (4 : Int32)) - (1 : Int32)) / (4 : Int32))), (6, .int 3)] (show ([0, 1, 2, 3, 4, 5, 6] : List Nat).Nodup by decide) ⟨rfl, rfl, rfl, rfl, rfl, rfl, rfl, trivial⟩ ?_
    rw [← hm9]
    exact kk
theorem m_tick3 {h : zH} {fs : List Value} {hr : List Int32} {v0 v1 v2 v3 v4 v5 m : Int32} {dc ds : Nat} {Q : zR → Prop} (hM : zat h 162 = some (.inr (.inr (.inr (10, fs))))) (hC : mC fs) (c172 : zat h 172 = some (.inl (0, 12, [4, 4, 4, 4, 4, 4, 4, 4, 4, 4, 4, 4]))) (c188 : zat h 188 = some (.inl (0, 6, [0, 0, 0, 0, 0, 0]))) (hH : zat h 206 = some (.inl (0, 6, hr))) (u0 : hr.getD 0 0 = v0) (u1 : hr.getD 1 0 = v1) (u2 : hr.getD 2 0 = v2) (u3 : hr.getD 3 0 = v3) (u4 : hr.getD 4 0 = v4) (u5 : hr.getD 5 0 = v5) (kk : wq 233 6 [(0, .ref 162), (1, .ref 188), (2, .int 0), (3, .ref 206), (4, .int 0), (5, .int (mtk v3 m)), (6, .int 4)] [] h dc ds Q) : wq 233 6 [(0, .ref 162), (1, .ref 188), (2, .int 0), (3, .ref 206), (4, .int 0), (5, .int m), (6, .int 3)] [] h dc ds Q := by
  refine wq_gos (f := 1) (pc2 := 19) (ls2 := [(0, .ref 162), (1, .ref 188), (2, .int 0), (3, .ref 206), (4, .int 0), (5, .int m), (6, .int 3)]) (st2 := [.int 3, .ref 206]) (h2 := h) (dc2 := dc) (ds2 := ds) 7 rfl ?_
  refine wq_ialdk (k := 3) rfl hH rfl rfl rfl ?_
  refine wq_vi u3 ?_
  refine wq_gos (f := 1) (pc2 := 25) (ls2 := [(0, .ref 162), (1, .ref 188), (2, .int 0), (3, .ref 206), (4, .int 0), (5, .int m), (6, .int 3)]) (st2 := [.int 3, .ref 188, .int v3]) (h2 := h) (dc2 := dc) (ds2 := ds) 4 rfl ?_
  refine wq_ialdk (k := 3) rfl c188 rfl rfl rfl ?_
  refine wq_gos (f := 1) (pc2 := 27) (ls2 := [(0, .ref 162), (1, .ref 188), (2, .int 0), (3, .ref 206), (4, .int 0), (5, .int m), (6, .int 3)]) (st2 := [.int (v3 - (0 : Int32))]) (h2 := h) (dc2 := dc) (ds2 := ds) 1 rfl ?_
  refine wq_inl (y2 := 203) (as := [.int (v3 - (0 : Int32))]) rfl rfl rfl (wq_T (m_abs (v3 - (0 : Int32)) h) ?_)
  show wq 233 30 [(0, .ref 162), (1, .ref 188), (2, .int 0), (3, .ref 206), (4, .int 0), (5, .int m), (6, .int 3)] [.int (jabs (v3 - (0 : Int32)))] h dc ds _
  refine wq_gos (f := 1) (pc2 := 31) (ls2 := [(0, .ref 162), (1, .ref 188), (2, .int 0), (3, .ref 206), (4, .int 0), (5, .int m), (6, .int 3)]) (st2 := [.ref 162, .int (jabs (v3 - (0 : Int32)))]) (h2 := h) (dc2 := dc) (ds2 := ds) 1 rfl ?_
  refine wq_getf rfl hM (hC.2 (6, 172) (by decide)) rfl ?_
  refine wq_gos (f := 1) (pc2 := 36) (ls2 := [(0, .ref 162), (1, .ref 188), (2, .int 0), (3, .ref 206), (4, .int 0), (5, .int m), (6, .int 3)]) (st2 := [.int 3, .ref 172, .int (jabs (v3 - (0 : Int32)))]) (h2 := h) (dc2 := dc) (ds2 := ds) 1 rfl ?_
  refine wq_ialdk (k := 3) rfl c172 rfl rfl rfl ?_
  refine wq_gos (f := 1) (pc2 := 41) (ls2 := [(0, .ref 162), (1, .ref 188), (2, .int 0), (3, .ref 206), (4, .int 0), (5, .int m), (6, .int 3)]) (st2 := [.ref 162, .int (((jabs (v3 - (0 : Int32))) + (4 : Int32)) - (1 : Int32))]) (h2 := h) (dc2 := dc) (ds2 := ds) 4 rfl ?_
  refine wq_getf rfl hM (hC.2 (6, 172) (by decide)) rfl ?_
  refine wq_gos (f := 1) (pc2 := 46) (ls2 := [(0, .ref 162), (1, .ref 188), (2, .int 0), (3, .ref 206), (4, .int 0), (5, .int m), (6, .int 3)]) (st2 := [.int 3, .ref 172, .int (((jabs (v3 - (0 : Int32))) + (4 : Int32)) - (1 : Int32))]) (h2 := h) (dc2 := dc) (ds2 := ds) 1 rfl ?_
  refine wq_ialdk (k := 3) rfl c172 rfl rfl rfl ?_
  refine wq_gos (f := 1) (pc2 := 54) (ls2 := [(7, .int ((((jabs (v3 - (0 : Int32))) + (4 : Int32)) - (1 : Int32)) / (4 : Int32))), (0, .ref 162), (1, .ref 188), (2, .int 0), (3, .ref 206), (4, .int 0), (5, .int m), (6, .int 3)]) (st2 := [.int m, .int ((((jabs (v3 - (0 : Int32))) + (4 : Int32)) - (1 : Int32)) / (4 : Int32))]) (h2 := h) (dc2 := dc) (ds2 := ds) 4 rfl ?_
  refine wq_le2 rfl rfl (fun b1x => ?_) (fun b1x => ?_)
  · refine wq_gos (f := 1) (pc2 := 6) (ls2 := [(6, .int 4), (5, .int m), (7, .int ((((jabs (v3 - (0 : Int32))) + (4 : Int32)) - (1 : Int32)) / (4 : Int32))), (0, .ref 162), (1, .ref 188), (2, .int 0), (3, .ref 206), (4, .int 0)]) (st2 := []) (h2 := h) (dc2 := dc) (ds2 := ds) 4 rfl ?_
    have hm9 : mtk v3 m = m := if_pos b1x
    refine wq_ls [(0, .ref 162), (1, .ref 188), (2, .int 0), (3, .ref 206), (4, .int 0), (5, .int m), (6, .int 4)] (show ([0, 1, 2, 3, 4, 5, 6] : List Nat).Nodup by decide) ⟨rfl, rfl, rfl, rfl, rfl, rfl, rfl, trivial⟩ ?_
    rw [← hm9]
    exact kk
  · refine wq_gos (f := 1) (pc2 := 6) (ls2 := [(6, .int 4), (5, .int ((((jabs (v3 - (0 : Int32))) + (4 : Int32)) - (1 : Int32)) / (4 : Int32))), (7, .int ((((jabs (v3 - (0 : Int32))) + (4 : Int32)) - (1 : Int32)) / (4 : Int32))), (0, .ref 162), (1, .ref 188), (2, .int 0), (3, .ref 206), (4, .int 0)]) (st2 := []) (h2 := h) (dc2 := dc) (ds2 := ds) 5 rfl ?_
    have hm9 : mtk v3 m = ((((jabs (v3 - (0 : Int32))) + (4 : Int32)) - (1 : Int32)) / (4 : Int32)) := if_neg (Int.not_le.mpr b1x)
    refine wq_ls [(0, .ref 162), (1, .ref 188), (2, .int 0), (3, .ref 206), (4, .int 0), (5, .int ((((jabs (v3 - (0 : Int32))) + (4 : Int32)) - (1 : Int32)) / (4 : Int32))), (6, .int 4)] (show ([0, 1, 2, 3, 4, 5, 6] : List Nat).Nodup by decide) ⟨rfl, rfl, rfl, rfl, rfl, rfl, rfl, trivial⟩ ?_
    rw [← hm9]
    exact kk
theorem m_tick4 {h : zH} {fs : List Value} {hr : List Int32} {v0 v1 v2 v3 v4 v5 m : Int32} {dc ds : Nat} {Q : zR → Prop} (hM : zat h 162 = some (.inr (.inr (.inr (10, fs))))) (hC : mC fs) (c172 : zat h 172 = some (.inl (0, 12, [4, 4, 4, 4, 4, 4, 4, 4, 4, 4, 4, 4]))) (c188 : zat h 188 = some (.inl (0, 6, [0, 0, 0, 0, 0, 0]))) (hH : zat h 206 = some (.inl (0, 6, hr))) (u0 : hr.getD 0 0 = v0) (u1 : hr.getD 1 0 = v1) (u2 : hr.getD 2 0 = v2) (u3 : hr.getD 3 0 = v3) (u4 : hr.getD 4 0 = v4) (u5 : hr.getD 5 0 = v5) (kk : wq 233 6 [(0, .ref 162), (1, .ref 188), (2, .int 0), (3, .ref 206), (4, .int 0), (5, .int (mtk v4 m)), (6, .int 5)] [] h dc ds Q) : wq 233 6 [(0, .ref 162), (1, .ref 188), (2, .int 0), (3, .ref 206), (4, .int 0), (5, .int m), (6, .int 4)] [] h dc ds Q := by
  refine wq_gos (f := 1) (pc2 := 19) (ls2 := [(0, .ref 162), (1, .ref 188), (2, .int 0), (3, .ref 206), (4, .int 0), (5, .int m), (6, .int 4)]) (st2 := [.int 4, .ref 206]) (h2 := h) (dc2 := dc) (ds2 := ds) 7 rfl ?_
  refine wq_ialdk (k := 4) rfl hH rfl rfl rfl ?_
  refine wq_vi u4 ?_
  refine wq_gos (f := 1) (pc2 := 25) (ls2 := [(0, .ref 162), (1, .ref 188), (2, .int 0), (3, .ref 206), (4, .int 0), (5, .int m), (6, .int 4)]) (st2 := [.int 4, .ref 188, .int v4]) (h2 := h) (dc2 := dc) (ds2 := ds) 4 rfl ?_
  refine wq_ialdk (k := 4) rfl c188 rfl rfl rfl ?_
  refine wq_gos (f := 1) (pc2 := 27) (ls2 := [(0, .ref 162), (1, .ref 188), (2, .int 0), (3, .ref 206), (4, .int 0), (5, .int m), (6, .int 4)]) (st2 := [.int (v4 - (0 : Int32))]) (h2 := h) (dc2 := dc) (ds2 := ds) 1 rfl ?_
  refine wq_inl (y2 := 203) (as := [.int (v4 - (0 : Int32))]) rfl rfl rfl (wq_T (m_abs (v4 - (0 : Int32)) h) ?_)
  show wq 233 30 [(0, .ref 162), (1, .ref 188), (2, .int 0), (3, .ref 206), (4, .int 0), (5, .int m), (6, .int 4)] [.int (jabs (v4 - (0 : Int32)))] h dc ds _
  refine wq_gos (f := 1) (pc2 := 31) (ls2 := [(0, .ref 162), (1, .ref 188), (2, .int 0), (3, .ref 206), (4, .int 0), (5, .int m), (6, .int 4)]) (st2 := [.ref 162, .int (jabs (v4 - (0 : Int32)))]) (h2 := h) (dc2 := dc) (ds2 := ds) 1 rfl ?_
  refine wq_getf rfl hM (hC.2 (6, 172) (by decide)) rfl ?_
  refine wq_gos (f := 1) (pc2 := 36) (ls2 := [(0, .ref 162), (1, .ref 188), (2, .int 0), (3, .ref 206), (4, .int 0), (5, .int m), (6, .int 4)]) (st2 := [.int 4, .ref 172, .int (jabs (v4 - (0 : Int32)))]) (h2 := h) (dc2 := dc) (ds2 := ds) 1 rfl ?_
  refine wq_ialdk (k := 4) rfl c172 rfl rfl rfl ?_
  refine wq_gos (f := 1) (pc2 := 41) (ls2 := [(0, .ref 162), (1, .ref 188), (2, .int 0), (3, .ref 206), (4, .int 0), (5, .int m), (6, .int 4)]) (st2 := [.ref 162, .int (((jabs (v4 - (0 : Int32))) + (4 : Int32)) - (1 : Int32))]) (h2 := h) (dc2 := dc) (ds2 := ds) 4 rfl ?_
  refine wq_getf rfl hM (hC.2 (6, 172) (by decide)) rfl ?_
  refine wq_gos (f := 1) (pc2 := 46) (ls2 := [(0, .ref 162), (1, .ref 188), (2, .int 0), (3, .ref 206), (4, .int 0), (5, .int m), (6, .int 4)]) (st2 := [.int 4, .ref 172, .int (((jabs (v4 - (0 : Int32))) + (4 : Int32)) - (1 : Int32))]) (h2 := h) (dc2 := dc) (ds2 := ds) 1 rfl ?_
  refine wq_ialdk (k := 4) rfl c172 rfl rfl rfl ?_
  refine wq_gos (f := 1) (pc2 := 54) (ls2 := [(7, .int ((((jabs (v4 - (0 : Int32))) + (4 : Int32)) - (1 : Int32)) / (4 : Int32))), (0, .ref 162), (1, .ref 188), (2, .int 0), (3, .ref 206), (4, .int 0), (5, .int m), (6, .int 4)]) (st2 := [.int m, .int ((((jabs (v4 - (0 : Int32))) + (4 : Int32)) - (1 : Int32)) / (4 : Int32))]) (h2 := h) (dc2 := dc) (ds2 := ds) 4 rfl ?_
  refine wq_le2 rfl rfl (fun b1x => ?_) (fun b1x => ?_)
  · refine wq_gos (f := 1) (pc2 := 6) (ls2 := [(6, .int 5), (5, .int m), (7, .int ((((jabs (v4 - (0 : Int32))) + (4 : Int32)) - (1 : Int32)) / (4 : Int32))), (0, .ref 162), (1, .ref 188), (2, .int 0), (3, .ref 206), (4, .int 0)]) (st2 := []) (h2 := h) (dc2 := dc) (ds2 := ds) 4 rfl ?_
    have hm9 : mtk v4 m = m := if_pos b1x
    refine wq_ls [(0, .ref 162), (1, .ref 188), (2, .int 0), (3, .ref 206), (4, .int 0), (5, .int m), (6, .int 5)] (show ([0, 1, 2, 3, 4, 5, 6] : List Nat).Nodup by decide) ⟨rfl, rfl, rfl, rfl, rfl, rfl, rfl, trivial⟩ ?_
    rw [← hm9]
    exact kk
  · refine wq_gos (f := 1) (pc2 := 6) (ls2 := [(6, .int 5), (5, .int ((((jabs (v4 - (0 : Int32))) + (4 : Int32)) - (1 : Int32)) / (4 : Int32))), (7, .int ((((jabs (v4 - (0 : Int32))) + (4 : Int32)) - (1 : Int32)) / (4 : Int32))), (0, .ref 162), (1, .ref 188), (2, .int 0), (3, .ref 206), (4, .int 0)]) (st2 := []) (h2 := h) (dc2 := dc) (ds2 := ds) 5 rfl ?_
    have hm9 : mtk v4 m = ((((jabs (v4 - (0 : Int32))) + (4 : Int32)) - (1 : Int32)) / (4 : Int32)) := if_neg (Int.not_le.mpr b1x)
    refine wq_ls [(0, .ref 162), (1, .ref 188), (2, .int 0), (3, .ref 206), (4, .int 0), (5, .int ((((jabs (v4 - (0 : Int32))) + (4 : Int32)) - (1 : Int32)) / (4 : Int32))), (6, .int 5)] (show ([0, 1, 2, 3, 4, 5, 6] : List Nat).Nodup by decide) ⟨rfl, rfl, rfl, rfl, rfl, rfl, rfl, trivial⟩ ?_
    rw [← hm9]
    exact kk
theorem m_tick5 {h : zH} {fs : List Value} {hr : List Int32} {v0 v1 v2 v3 v4 v5 m : Int32} {dc ds : Nat} {Q : zR → Prop} (hM : zat h 162 = some (.inr (.inr (.inr (10, fs))))) (hC : mC fs) (c172 : zat h 172 = some (.inl (0, 12, [4, 4, 4, 4, 4, 4, 4, 4, 4, 4, 4, 4]))) (c188 : zat h 188 = some (.inl (0, 6, [0, 0, 0, 0, 0, 0]))) (hH : zat h 206 = some (.inl (0, 6, hr))) (u0 : hr.getD 0 0 = v0) (u1 : hr.getD 1 0 = v1) (u2 : hr.getD 2 0 = v2) (u3 : hr.getD 3 0 = v3) (u4 : hr.getD 4 0 = v4) (u5 : hr.getD 5 0 = v5) (kk : wq 233 6 [(0, .ref 162), (1, .ref 188), (2, .int 0), (3, .ref 206), (4, .int 0), (5, .int (mtk v5 m)), (6, .int 6)] [] h dc ds Q) : wq 233 6 [(0, .ref 162), (1, .ref 188), (2, .int 0), (3, .ref 206), (4, .int 0), (5, .int m), (6, .int 5)] [] h dc ds Q := by
  refine wq_gos (f := 1) (pc2 := 19) (ls2 := [(0, .ref 162), (1, .ref 188), (2, .int 0), (3, .ref 206), (4, .int 0), (5, .int m), (6, .int 5)]) (st2 := [.int 5, .ref 206]) (h2 := h) (dc2 := dc) (ds2 := ds) 7 rfl ?_
  refine wq_ialdk (k := 5) rfl hH rfl rfl rfl ?_
  refine wq_vi u5 ?_
  refine wq_gos (f := 1) (pc2 := 25) (ls2 := [(0, .ref 162), (1, .ref 188), (2, .int 0), (3, .ref 206), (4, .int 0), (5, .int m), (6, .int 5)]) (st2 := [.int 5, .ref 188, .int v5]) (h2 := h) (dc2 := dc) (ds2 := ds) 4 rfl ?_
  refine wq_ialdk (k := 5) rfl c188 rfl rfl rfl ?_
  refine wq_gos (f := 1) (pc2 := 27) (ls2 := [(0, .ref 162), (1, .ref 188), (2, .int 0), (3, .ref 206), (4, .int 0), (5, .int m), (6, .int 5)]) (st2 := [.int (v5 - (0 : Int32))]) (h2 := h) (dc2 := dc) (ds2 := ds) 1 rfl ?_
  refine wq_inl (y2 := 203) (as := [.int (v5 - (0 : Int32))]) rfl rfl rfl (wq_T (m_abs (v5 - (0 : Int32)) h) ?_)
  show wq 233 30 [(0, .ref 162), (1, .ref 188), (2, .int 0), (3, .ref 206), (4, .int 0), (5, .int m), (6, .int 5)] [.int (jabs (v5 - (0 : Int32)))] h dc ds _
  refine wq_gos (f := 1) (pc2 := 31) (ls2 := [(0, .ref 162), (1, .ref 188), (2, .int 0), (3, .ref 206), (4, .int 0), (5, .int m), (6, .int 5)]) (st2 := [.ref 162, .int (jabs (v5 - (0 : Int32)))]) (h2 := h) (dc2 := dc) (ds2 := ds) 1 rfl ?_
  refine wq_getf rfl hM (hC.2 (6, 172) (by decide)) rfl ?_
  refine wq_gos (f := 1) (pc2 := 36) (ls2 := [(0, .ref 162), (1, .ref 188), (2, .int 0), (3, .ref 206), (4, .int 0), (5, .int m), (6, .int 5)]) (st2 := [.int 5, .ref 172, .int (jabs (v5 - (0 : Int32)))]) (h2 := h) (dc2 := dc) (ds2 := ds) 1 rfl ?_
  refine wq_ialdk (k := 5) rfl c172 rfl rfl rfl ?_
  refine wq_gos (f := 1) (pc2 := 41) (ls2 := [(0, .ref 162), (1, .ref 188), (2, .int 0), (3, .ref 206), (4, .int 0), (5, .int m), (6, .int 5)]) (st2 := [.ref 162, .int (((jabs (v5 - (0 : Int32))) + (4 : Int32)) - (1 : Int32))]) (h2 := h) (dc2 := dc) (ds2 := ds) 4 rfl ?_
  refine wq_getf rfl hM (hC.2 (6, 172) (by decide)) rfl ?_
  refine wq_gos (f := 1) (pc2 := 46) (ls2 := [(0, .ref 162), (1, .ref 188), (2, .int 0), (3, .ref 206), (4, .int 0), (5, .int m), (6, .int 5)]) (st2 := [.int 5, .ref 172, .int (((jabs (v5 - (0 : Int32))) + (4 : Int32)) - (1 : Int32))]) (h2 := h) (dc2 := dc) (ds2 := ds) 1 rfl ?_
  refine wq_ialdk (k := 5) rfl c172 rfl rfl rfl ?_
  refine wq_gos (f := 1) (pc2 := 54) (ls2 := [(7, .int ((((jabs (v5 - (0 : Int32))) + (4 : Int32)) - (1 : Int32)) / (4 : Int32))), (0, .ref 162), (1, .ref 188), (2, .int 0), (3, .ref 206), (4, .int 0), (5, .int m), (6, .int 5)]) (st2 := [.int m, .int ((((jabs (v5 - (0 : Int32))) + (4 : Int32)) - (1 : Int32)) / (4 : Int32))]) (h2 := h) (dc2 := dc) (ds2 := ds) 4 rfl ?_
  refine wq_le2 rfl rfl (fun b1x => ?_) (fun b1x => ?_)
  · refine wq_gos (f := 1) (pc2 := 6) (ls2 := [(6, .int 6), (5, .int m), (7, .int ((((jabs (v5 - (0 : Int32))) + (4 : Int32)) - (1 : Int32)) / (4 : Int32))), (0, .ref 162), (1, .ref 188), (2, .int 0), (3, .ref 206), (4, .int 0)]) (st2 := []) (h2 := h) (dc2 := dc) (ds2 := ds) 4 rfl ?_
    have hm9 : mtk v5 m = m := if_pos b1x
    refine wq_ls [(0, .ref 162), (1, .ref 188), (2, .int 0), (3, .ref 206), (4, .int 0), (5, .int m), (6, .int 6)] (show ([0, 1, 2, 3, 4, 5, 6] : List Nat).Nodup by decide) ⟨rfl, rfl, rfl, rfl, rfl, rfl, rfl, trivial⟩ ?_
    rw [← hm9]
    exact kk
  · refine wq_gos (f := 1) (pc2 := 6) (ls2 := [(6, .int 6), (5, .int ((((jabs (v5 - (0 : Int32))) + (4 : Int32)) - (1 : Int32)) / (4 : Int32))), (7, .int ((((jabs (v5 - (0 : Int32))) + (4 : Int32)) - (1 : Int32)) / (4 : Int32))), (0, .ref 162), (1, .ref 188), (2, .int 0), (3, .ref 206), (4, .int 0)]) (st2 := []) (h2 := h) (dc2 := dc) (ds2 := ds) 5 rfl ?_
    have hm9 : mtk v5 m = ((((jabs (v5 - (0 : Int32))) + (4 : Int32)) - (1 : Int32)) / (4 : Int32)) := if_neg (Int.not_le.mpr b1x)
    refine wq_ls [(0, .ref 162), (1, .ref 188), (2, .int 0), (3, .ref 206), (4, .int 0), (5, .int ((((jabs (v5 - (0 : Int32))) + (4 : Int32)) - (1 : Int32)) / (4 : Int32))), (6, .int 6)] (show ([0, 1, 2, 3, 4, 5, 6] : List Nat).Nodup by decide) ⟨rfl, rfl, rfl, rfl, rfl, rfl, rfl, trivial⟩ ?_
    rw [← hm9]
    exact kk
def mtks (v0 v1 v2 v3 v4 v5 : Int32) : Int32 := (mtk v5 (mtk v4 (mtk v3 (mtk v2 (mtk v1 (mtk v0 (0 : Int32)))))))
theorem m_ticks0 {h : zH} {fs : List Value} {hr : List Int32} {v0 v1 v2 v3 v4 v5 : Int32} (hM : zat h 162 = some (.inr (.inr (.inr (10, fs))))) (hC : mC fs) (c172 : zat h 172 = some (.inl (0, 12, [4, 4, 4, 4, 4, 4, 4, 4, 4, 4, 4, 4]))) (c188 : zat h 188 = some (.inl (0, 6, [0, 0, 0, 0, 0, 0]))) (hH : zat h 206 = some (.inl (0, 6, hr))) (u0 : hr.getD 0 0 = v0) (u1 : hr.getD 1 0 = v1) (u2 : hr.getD 2 0 = v2) (u3 : hr.getD 3 0 = v3) (u4 : hr.getD 4 0 = v4) (u5 : hr.getD 5 0 = v5) : zT zg0 zF zP 233 0 [(0, .ref 162), (1, .ref 188), (2, .int 0), (3, .ref 206), (4, .int 0)] [] h 0 0 (some (.int (mtks v0 v1 v2 v3 v4 v5)), h, 0, 0) := by
  apply wq_toT
  refine wq_gos (f := 1) (pc2 := 6) (ls2 := [(6, .int 0), (5, .int 0), (0, .ref 162), (1, .ref 188), (2, .int 0), (3, .ref 206), (4, .int 0)]) (st2 := []) (h2 := h) (dc2 := 0) (ds2 := 0) 4 rfl ?_
  refine wq_ls [(0, .ref 162), (1, .ref 188), (2, .int 0), (3, .ref 206), (4, .int 0), (5, .int (0 : Int32)), (6, .int 0)] (show ([0, 1, 2, 3, 4, 5, 6] : List Nat).Nodup by decide) ⟨rfl, rfl, rfl, rfl, rfl, rfl, rfl, trivial⟩ ?_
  refine m_tick0 hM hC c172 c188 hH u0 u1 u2 u3 u4 u5 ?_
  refine m_tick1 hM hC c172 c188 hH u0 u1 u2 u3 u4 u5 ?_
  refine m_tick2 hM hC c172 c188 hH u0 u1 u2 u3 u4 u5 ?_
  refine m_tick3 hM hC c172 c188 hH u0 u1 u2 u3 u4 u5 ?_
  refine m_tick4 hM hC c172 c188 hH u0 u1 u2 u3 u4 u5 ?_
  refine m_tick5 hM hC c172 c188 hH u0 u1 u2 u3 u4 u5 ?_
  refine wq_gos (f := 1) (pc2 := 74) (ls2 := [(0, .ref 162), (1, .ref 188), (2, .int 0), (3, .ref 206), (4, .int 0), (5, .int (mtk v5 (mtk v4 (mtk v3 (mtk v2 (mtk v1 (mtk v0 (0 : Int32)))))))), (6, .int 6)]) (st2 := [.int (mtks v0 v1 v2 v3 v4 v5)]) (h2 := h) (dc2 := 0) (ds2 := 0) 4 rfl ?_
  exact wq_ret rfl rfl rfl
