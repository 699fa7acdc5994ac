set_option maxRecDepth 1000000 in
set_option maxHeartbeats 4000000 in
theorem zop_def (xs : Nat → Int32) (h0 : 41 < (xs 0 &&& 63).toInt)  : zDone xs := by
  refine ⟨zH0, 117, 29934, ?_, by decide, by decide⟩
  refine zT_gos (f := 200000) (pc2 := 37) (ls2 := [(4, .int 0), (3, .ref 232), (2, .ref 162), (1, .ref 0), (0, .ref 11)]) (st2 := [.int (xs 0)]) (h2 := zH0) (dc2 := 117) (ds2 := 29934) 9 rfl ?_
  refine zT_gos (f := 200000) (pc2 := 40) (ls2 := [(4, .int 0), (3, .ref 232), (2, .ref 162), (1, .ref 0), (0, .ref 11)]) (st2 := [.int ((xs 0) &&& (63 : Int32))]) (h2 := zH0) (dc2 := 117) (ds2 := 29934) 2 rfl ?_
  refine zT_tabo rfl (by show (((xs 0) &&& (63 : Int32))).toInt < 0 ∨ 41 < (((xs 0) &&& (63 : Int32))).toInt; omega) ?_
  refine zT_here (pc2 := 1804) rfl ?_
  refine zT_gos (f := 200000) (pc2 := 1811) (ls2 := [(4, .int 6), (3, .ref 232), (2, .ref 162), (1, .ref 0), (0, .ref 11)]) (st2 := [.int 1]) (h2 := zH0) (dc2 := 117) (ds2 := 29934) 9 rfl ?_
  exact zT_ret rfl rfl
theorem z_and63 (v : Int32) : 0 ≤ (v &&& 63).toInt := by
  have h : (v &&& 63).toBitVec.toNat ≤ 63 := by
    rw [Int32.toBitVec_and, BitVec.toNat_and]
    exact Nat.and_le_right
  have h1 : (v &&& 63).toInt = (v &&& 63).toBitVec.toInt := rfl
  rw [h1, BitVec.toInt_eq_toNat_of_lt (by omega)]
  omega
