set_option maxRecDepth 1000000 in
set_option maxHeartbeats 4000000 in
theorem zo_35_0 (xs : Nat → Int32) (h0 : xs 0 &&& 63 = 35) (h1 : (xs 1).toInt < 0) : zDone xs := by
  refine ⟨zH0, 117, 29934, ?_, by decide, by decide⟩
  refine zT_gos (f := 200000) (pc2 := 37) (ls2 := [(4, .int 0), (3, .ref 232), (2, .ref 162), (1, .ref 0), (0, .ref 11)]) (st2 := [.int (xs 0)]) (h2 := zH0) (dc2 := 117) (ds2 := 29934) 9 rfl ?_
  refine zT_gos (f := 200000) (pc2 := 40) (ls2 := [(4, .int 0), (3, .ref 232), (2, .ref 162), (1, .ref 0), (0, .ref 11)]) (st2 := [.int ((xs 0) &&& (63 : Int32))]) (h2 := zH0) (dc2 := 117) (ds2 := 29934) 2 rfl ?_
  refine zT_val h0 ?_
  refine zT_gos (f := 200000) (pc2 := 1636) (ls2 := [(4, .int 0), (3, .ref 232), (2, .ref 162), (1, .ref 0), (0, .ref 11)]) (st2 := [.int (xs 1), .ref 0]) (h2 := zH0) (dc2 := 117) (ds2 := 29934) 7 rfl ?_
  refine zT_gos (f := 200000) (pc2 := 1642) (ls2 := [(4, .int 0), (3, .ref 232), (2, .ref 162), (1, .ref 0), (0, .ref 11)]) (st2 := [.int (xs 2), .int (xs 1), .ref 0]) (h2 := zH0) (dc2 := 117) (ds2 := 29934) 5 rfl ?_
  refine zT_call (v := some (.int (-1))) (h2 := zH0) (d1 := 0) (s1 := 0) rfl rfl ?_ ?_
  · refine zT_gos (f := 200000) (pc2 := 1) (ls2 := [(0, .ref 0), (1, .int (xs 1)), (2, .int (xs 2))]) (st2 := [.int (xs 1)]) (h2 := zH0) (dc2 := 0) (ds2 := 0) 1 rfl ?_
    refine zT_if0 true rfl (zc_lt_t (by show ((xs 1) : Int32).toInt < 0; omega)) ?_
    refine zT_here (pc2 := 19) rfl ?_
    refine zT_gos (f := 200000) (pc2 := 20) (ls2 := [(0, .ref 0), (1, .int (xs 1)), (2, .int (xs 2))]) (st2 := [.int (-1)]) (h2 := zH0) (dc2 := 0) (ds2 := 0) 1 rfl ?_
    exact zT_ret rfl rfl
  refine zT_here (pc2 := 1645) rfl ?_
  refine zT_gos (f := 200000) (pc2 := 1652) (ls2 := [(4, .int 0), (3, .ref 232), (2, .ref 162), (1, .ref 0), (0, .ref 11)]) (st2 := [.int (xs 1), .ref 162, .int (-1)]) (h2 := zH0) (dc2 := 117) (ds2 := 29934) 6 rfl ?_
  refine zT_gos (f := 200000) (pc2 := 1658) (ls2 := [(4, .int 0), (3, .ref 232), (2, .ref 162), (1, .ref 0), (0, .ref 11)]) (st2 := [.int (xs 2), .int (xs 1), .ref 162, .int (-1)]) (h2 := zH0) (dc2 := 117) (ds2 := 29934) 5 rfl ?_
  refine zT_call (v := some (.int (-1))) (h2 := zH0) (d1 := 0) (s1 := 0) rfl rfl ?_ ?_
  · refine zT_gos (f := 200000) (pc2 := 6) (ls2 := [(0, .ref 162), (1, .int (xs 1)), (2, .int (xs 2))]) (st2 := [.int (xs 1)]) (h2 := zH0) (dc2 := 0) (ds2 := 0) 4 rfl ?_
    refine zT_if0 true rfl (zc_lt_t (by show ((xs 1) : Int32).toInt < 0; omega)) ?_
    refine zT_here (pc2 := 24) rfl ?_
    refine zT_gos (f := 200000) (pc2 := 25) (ls2 := [(0, .ref 162), (1, .int (xs 1)), (2, .int (xs 2))]) (st2 := [.int (-1)]) (h2 := zH0) (dc2 := 0) (ds2 := 0) 1 rfl ?_
    exact zT_ret rfl rfl
  refine zT_here (pc2 := 1661) rfl ?_
  refine zT_gos (f := 200000) (pc2 := 1811) (ls2 := [(4, .int 6), (3, .ref 232), (2, .ref 162), (1, .ref 0), (0, .ref 11)]) (st2 := [.int 1]) (h2 := zH0) (dc2 := 117) (ds2 := 29934) 10 rfl ?_
  exact zT_ret rfl rfl
set_option maxRecDepth 1000000 in
set_option maxHeartbeats 4000000 in
theorem zo_35_1 (xs : Nat → Int32) (h0 : xs 0 &&& 63 = 35) (h1 : 63 < (xs 1).toInt) : zDone xs := by
  refine ⟨zH0, 117, 29934, ?_, by decide, by decide⟩
  refine zT_gos (f := 200000) (pc2 := 37) (ls2 := [(4, .int 0), (3, .ref 232), (2, .ref 162), (1, .ref 0), (0, .ref 11)]) (st2 := [.int (xs 0)]) (h2 := zH0) (dc2 := 117) (ds2 := 29934) 9 rfl ?_
  refine zT_gos (f := 200000) (pc2 := 40) (ls2 := [(4, .int 0), (3, .ref 232), (2, .ref 162), (1, .ref 0), (0, .ref 11)]) (st2 := [.int ((xs 0) &&& (63 : Int32))]) (h2 := zH0) (dc2 := 117) (ds2 := 29934) 2 rfl ?_
  refine zT_val h0 ?_
  refine zT_gos (f := 200000) (pc2 := 1636) (ls2 := [(4, .int 0), (3, .ref 232), (2, .ref 162), (1, .ref 0), (0, .ref 11)]) (st2 := [.int (xs 1), .ref 0]) (h2 := zH0) (dc2 := 117) (ds2 := 29934) 7 rfl ?_
  refine zT_gos (f := 200000) (pc2 := 1642) (ls2 := [(4, .int 0), (3, .ref 232), (2, .ref 162), (1, .ref 0), (0, .ref 11)]) (st2 := [.int (xs 2), .int (xs 1), .ref 0]) (h2 := zH0) (dc2 := 117) (ds2 := 29934) 5 rfl ?_
  refine zT_call (v := some (.int (-1))) (h2 := zH0) (d1 := 0) (s1 := 0) rfl rfl ?_ ?_
  · refine zT_gos (f := 200000) (pc2 := 1) (ls2 := [(0, .ref 0), (1, .int (xs 1)), (2, .int (xs 2))]) (st2 := [.int (xs 1)]) (h2 := zH0) (dc2 := 0) (ds2 := 0) 1 rfl ?_
    refine zT_if0 false rfl (zc_lt_f (by show ((xs 1) : Int32).toInt ≥ 0; omega)) ?_
    refine zT_here (pc2 := 4) rfl ?_
    refine zT_gos (f := 200000) (pc2 := 7) (ls2 := [(0, .ref 0), (1, .int (xs 1)), (2, .int (xs 2))]) (st2 := [.int 63, .int (xs 1)]) (h2 := zH0) (dc2 := 0) (ds2 := 0) 2 rfl ?_
    refine zT_if2 true rfl (zc_gt_t (by show ((xs 1) : Int32).toInt > 63; omega)) ?_
    refine zT_here (pc2 := 19) rfl ?_
    refine zT_gos (f := 200000) (pc2 := 20) (ls2 := [(0, .ref 0), (1, .int (xs 1)), (2, .int (xs 2))]) (st2 := [.int (-1)]) (h2 := zH0) (dc2 := 0) (ds2 := 0) 1 rfl ?_
    exact zT_ret rfl rfl
  refine zT_here (pc2 := 1645) rfl ?_
  refine zT_gos (f := 200000) (pc2 := 1652) (ls2 := [(4, .int 0), (3, .ref 232), (2, .ref 162), (1, .ref 0), (0, .ref 11)]) (st2 := [.int (xs 1), .ref 162, .int (-1)]) (h2 := zH0) (dc2 := 117) (ds2 := 29934) 6 rfl ?_
  refine zT_gos (f := 200000) (pc2 := 1658) (ls2 := [(4, .int 0), (3, .ref 232), (2, .ref 162), (1, .ref 0), (0, .ref 11)]) (st2 := [.int (xs 2), .int (xs 1), .ref 162, .int (-1)]) (h2 := zH0) (dc2 := 117) (ds2 := 29934) 5 rfl ?_
  refine zT_call (v := some (.int (-1))) (h2 := zH0) (d1 := 0) (s1 := 0) rfl rfl ?_ ?_
  · refine zT_gos (f := 200000) (pc2 := 6) (ls2 := [(0, .ref 162), (1, .int (xs 1)), (2, .int (xs 2))]) (st2 := [.int (xs 1)]) (h2 := zH0) (dc2 := 0) (ds2 := 0) 4 rfl ?_
    refine zT_if0 false rfl (zc_lt_f (by show ((xs 1) : Int32).toInt ≥ 0; omega)) ?_
    refine zT_here (pc2 := 9) rfl ?_
    refine zT_gos (f := 200000) (pc2 := 12) (ls2 := [(0, .ref 162), (1, .int (xs 1)), (2, .int (xs 2))]) (st2 := [.int 63, .int (xs 1)]) (h2 := zH0) (dc2 := 0) (ds2 := 0) 2 rfl ?_
    refine zT_if2 true rfl (zc_gt_t (by show ((xs 1) : Int32).toInt > 63; omega)) ?_
    refine zT_here (pc2 := 24) rfl ?_
    refine zT_gos (f := 200000) (pc2 := 25) (ls2 := [(0, .ref 162), (1, .int (xs 1)), (2, .int (xs 2))]) (st2 := [.int (-1)]) (h2 := zH0) (dc2 := 0) (ds2 := 0) 1 rfl ?_
    exact zT_ret rfl rfl
  refine zT_here (pc2 := 1661) rfl ?_
  refine zT_gos (f := 200000) (pc2 := 1811) (ls2 := [(4, .int 6), (3, .ref 232), (2, .ref 162), (1, .ref 0), (0, .ref 11)]) (st2 := [.int 1]) (h2 := zH0) (dc2 := 117) (ds2 := 29934) 10 rfl ?_
  exact zT_ret rfl rfl
set_option maxRecDepth 1000000 in
set_option maxHeartbeats 4000000 in
theorem zo_35_2 (xs : Nat → Int32) (h0 : xs 0 &&& 63 = 35) (h1 : 0 ≤ (xs 1).toInt ∧ (xs 1).toInt ≤ 63) (h2 : (xs 2).toInt < 0) : zDone xs := by
  refine ⟨zH0, 117, 29934, ?_, by decide, by decide⟩
  refine zT_gos (f := 200000) (pc2 := 37) (ls2 := [(4, .int 0), (3, .ref 232), (2, .ref 162), (1, .ref 0), (0, .ref 11)]) (st2 := [.int (xs 0)]) (h2 := zH0) (dc2 := 117) (ds2 := 29934) 9 rfl ?_
  refine zT_gos (f := 200000) (pc2 := 40) (ls2 := [(4, .int 0), (3, .ref 232), (2, .ref 162), (1, .ref 0), (0, .ref 11)]) (st2 := [.int ((xs 0) &&& (63 : Int32))]) (h2 := zH0) (dc2 := 117) (ds2 := 29934) 2 rfl ?_
  refine zT_val h0 ?_
  refine zT_gos (f := 200000) (pc2 := 1636) (ls2 := [(4, .int 0), (3, .ref 232), (2, .ref 162), (1, .ref 0), (0, .ref 11)]) (st2 := [.int (xs 1), .ref 0]) (h2 := zH0) (dc2 := 117) (ds2 := 29934) 7 rfl ?_
  refine zT_gos (f := 200000) (pc2 := 1642) (ls2 := [(4, .int 0), (3, .ref 232), (2, .ref 162), (1, .ref 0), (0, .ref 11)]) (st2 := [.int (xs 2), .int (xs 1), .ref 0]) (h2 := zH0) (dc2 := 117) (ds2 := 29934) 5 rfl ?_
  refine zT_call (v := some (.int (-1))) (h2 := zH0) (d1 := 0) (s1 := 0) rfl rfl ?_ ?_
  · refine zT_gos (f := 200000) (pc2 := 1) (ls2 := [(0, .ref 0), (1, .int (xs 1)), (2, .int (xs 2))]) (st2 := [.int (xs 1)]) (h2 := zH0) (dc2 := 0) (ds2 := 0) 1 rfl ?_
    refine zT_if0 false rfl (zc_lt_f (by show ((xs 1) : Int32).toInt ≥ 0; omega)) ?_
    refine zT_here (pc2 := 4) rfl ?_
    refine zT_gos (f := 200000) (pc2 := 7) (ls2 := [(0, .ref 0), (1, .int (xs 1)), (2, .int (xs 2))]) (st2 := [.int 63, .int (xs 1)]) (h2 := zH0) (dc2 := 0) (ds2 := 0) 2 rfl ?_
    refine zT_if2 false rfl (zc_gt_f (by show ((xs 1) : Int32).toInt ≤ 63; omega)) ?_
    refine zT_here (pc2 := 10) rfl ?_
    refine zT_gos (f := 200000) (pc2 := 11) (ls2 := [(0, .ref 0), (1, .int (xs 1)), (2, .int (xs 2))]) (st2 := [.int (xs 2)]) (h2 := zH0) (dc2 := 0) (ds2 := 0) 1 rfl ?_
    refine zT_if0 true rfl (zc_lt_t (by show ((xs 2) : Int32).toInt < 0; omega)) ?_
    refine zT_here (pc2 := 19) rfl ?_
    refine zT_gos (f := 200000) (pc2 := 20) (ls2 := [(0, .ref 0), (1, .int (xs 1)), (2, .int (xs 2))]) (st2 := [.int (-1)]) (h2 := zH0) (dc2 := 0) (ds2 := 0) 1 rfl ?_
    exact zT_ret rfl rfl
  refine zT_here (pc2 := 1645) rfl ?_
  refine zT_gos (f := 200000) (pc2 := 1652) (ls2 := [(4, .int 0), (3, .ref 232), (2, .ref 162), (1, .ref 0), (0, .ref 11)]) (st2 := [.int (xs 1), .ref 162, .int (-1)]) (h2 := zH0) (dc2 := 117) (ds2 := 29934) 6 rfl ?_
  refine zT_gos (f := 200000) (pc2 := 1658) (ls2 := [(4, .int 0), (3, .ref 232), (2, .ref 162), (1, .ref 0), (0, .ref 11)]) (st2 := [.int (xs 2), .int (xs 1), .ref 162, .int (-1)]) (h2 := zH0) (dc2 := 117) (ds2 := 29934) 5 rfl ?_
  refine zT_call (v := some (.int (-1))) (h2 := zH0) (d1 := 0) (s1 := 0) rfl rfl ?_ ?_
  · refine zT_gos (f := 200000) (pc2 := 6) (ls2 := [(0, .ref 162), (1, .int (xs 1)), (2, .int (xs 2))]) (st2 := [.int (xs 1)]) (h2 := zH0) (dc2 := 0) (ds2 := 0) 4 rfl ?_
    refine zT_if0 false rfl (zc_lt_f (by show ((xs 1) : Int32).toInt ≥ 0; omega)) ?_
    refine zT_here (pc2 := 9) rfl ?_
    refine zT_gos (f := 200000) (pc2 := 12) (ls2 := [(0, .ref 162), (1, .int (xs 1)), (2, .int (xs 2))]) (st2 := [.int 63, .int (xs 1)]) (h2 := zH0) (dc2 := 0) (ds2 := 0) 2 rfl ?_
    refine zT_if2 false rfl (zc_gt_f (by show ((xs 1) : Int32).toInt ≤ 63; omega)) ?_
    refine zT_here (pc2 := 15) rfl ?_
    refine zT_gos (f := 200000) (pc2 := 16) (ls2 := [(0, .ref 162), (1, .int (xs 1)), (2, .int (xs 2))]) (st2 := [.int (xs 2)]) (h2 := zH0) (dc2 := 0) (ds2 := 0) 1 rfl ?_
    refine zT_if0 true rfl (zc_lt_t (by show ((xs 2) : Int32).toInt < 0; omega)) ?_
    refine zT_here (pc2 := 24) rfl ?_
    refine zT_gos (f := 200000) (pc2 := 25) (ls2 := [(0, .ref 162), (1, .int (xs 1)), (2, .int (xs 2))]) (st2 := [.int (-1)]) (h2 := zH0) (dc2 := 0) (ds2 := 0) 1 rfl ?_
    exact zT_ret rfl rfl
  refine zT_here (pc2 := 1661) rfl ?_
  refine zT_gos (f := 200000) (pc2 := 1811) (ls2 := [(4, .int 6), (3, .ref 232), (2, .ref 162), (1, .ref 0), (0, .ref 11)]) (st2 := [.int 1]) (h2 := zH0) (dc2 := 117) (ds2 := 29934) 10 rfl ?_
  exact zT_ret rfl rfl
set_option maxRecDepth 1000000 in
set_option maxHeartbeats 4000000 in
theorem zo_35_3 (xs : Nat → Int32) (h0 : xs 0 &&& 63 = 35) (h1 : 0 ≤ (xs 1).toInt ∧ (xs 1).toInt ≤ 63) (h2 : 2 < (xs 2).toInt) : zDone xs := by
  refine ⟨zH0, 117, 29934, ?_, by decide, by decide⟩
  refine zT_gos (f := 200000) (pc2 := 37) (ls2 := [(4, .int 0), (3, .ref 232), (2, .ref 162), (1, .ref 0), (0, .ref 11)]) (st2 := [.int (xs 0)]) (h2 := zH0) (dc2 := 117) (ds2 := 29934) 9 rfl ?_
  refine zT_gos (f := 200000) (pc2 := 40) (ls2 := [(4, .int 0), (3, .ref 232), (2, .ref 162), (1, .ref 0), (0, .ref 11)]) (st2 := [.int ((xs 0) &&& (63 : Int32))]) (h2 := zH0) (dc2 := 117) (ds2 := 29934) 2 rfl ?_
  refine zT_val h0 ?_
  refine zT_gos (f := 200000) (pc2 := 1636) (ls2 := [(4, .int 0), (3, .ref 232), (2, .ref 162), (1, .ref 0), (0, .ref 11)]) (st2 := [.int (xs 1), .ref 0]) (h2 := zH0) (dc2 := 117) (ds2 := 29934) 7 rfl ?_
  refine zT_gos (f := 200000) (pc2 := 1642) (ls2 := [(4, .int 0), (3, .ref 232), (2, .ref 162), (1, .ref 0), (0, .ref 11)]) (st2 := [.int (xs 2), .int (xs 1), .ref 0]) (h2 := zH0) (dc2 := 117) (ds2 := 29934) 5 rfl ?_
  refine zT_call (v := some (.int (-1))) (h2 := zH0) (d1 := 0) (s1 := 0) rfl rfl ?_ ?_
  · refine zT_gos (f := 200000) (pc2 := 1) (ls2 := [(0, .ref 0), (1, .int (xs 1)), (2, .int (xs 2))]) (st2 := [.int (xs 1)]) (h2 := zH0) (dc2 := 0) (ds2 := 0) 1 rfl ?_
    refine zT_if0 false rfl (zc_lt_f (by show ((xs 1) : Int32).toInt ≥ 0; omega)) ?_
    refine zT_here (pc2 := 4) rfl ?_
    refine zT_gos (f := 200000) (pc2 := 7) (ls2 := [(0, .ref 0), (1, .int (xs 1)), (2, .int (xs 2))]) (st2 := [.int 63, .int (xs 1)]) (h2 := zH0) (dc2 := 0) (ds2 := 0) 2 rfl ?_
    refine zT_if2 false rfl (zc_gt_f (by show ((xs 1) : Int32).toInt ≤ 63; omega)) ?_
    refine zT_here (pc2 := 10) rfl ?_
    refine zT_gos (f := 200000) (pc2 := 11) (ls2 := [(0, .ref 0), (1, .int (xs 1)), (2, .int (xs 2))]) (st2 := [.int (xs 2)]) (h2 := zH0) (dc2 := 0) (ds2 := 0) 1 rfl ?_
    refine zT_if0 false rfl (zc_lt_f (by show ((xs 2) : Int32).toInt ≥ 0; omega)) ?_
    refine zT_here (pc2 := 14) rfl ?_
    refine zT_gos (f := 200000) (pc2 := 16) (ls2 := [(0, .ref 0), (1, .int (xs 1)), (2, .int (xs 2))]) (st2 := [.int 2, .int (xs 2)]) (h2 := zH0) (dc2 := 0) (ds2 := 0) 2 rfl ?_
    refine zT_if2 false rfl (zc_le_f (by show ((xs 2) : Int32).toInt > 2; omega)) ?_
    refine zT_here (pc2 := 19) rfl ?_
    refine zT_gos (f := 200000) (pc2 := 20) (ls2 := [(0, .ref 0), (1, .int (xs 1)), (2, .int (xs 2))]) (st2 := [.int (-1)]) (h2 := zH0) (dc2 := 0) (ds2 := 0) 1 rfl ?_
    exact zT_ret rfl rfl
  refine zT_here (pc2 := 1645) rfl ?_
  refine zT_gos (f := 200000) (pc2 := 1652) (ls2 := [(4, .int 0), (3, .ref 232), (2, .ref 162), (1, .ref 0), (0, .ref 11)]) (st2 := [.int (xs 1), .ref 162, .int (-1)]) (h2 := zH0) (dc2 := 117) (ds2 := 29934) 6 rfl ?_
  refine zT_gos (f := 200000) (pc2 := 1658) (ls2 := [(4, .int 0), (3, .ref 232), (2, .ref 162), (1, .ref 0), (0, .ref 11)]) (st2 := [.int (xs 2), .int (xs 1), .ref 162, .int (-1)]) (h2 := zH0) (dc2 := 117) (ds2 := 29934) 5 rfl ?_
  refine zT_call (v := some (.int (-1))) (h2 := zH0) (d1 := 0) (s1 := 0) rfl rfl ?_ ?_
  · refine zT_gos (f := 200000) (pc2 := 6) (ls2 := [(0, .ref 162), (1, .int (xs 1)), (2, .int (xs 2))]) (st2 := [.int (xs 1)]) (h2 := zH0) (dc2 := 0) (ds2 := 0) 4 rfl ?_
    refine zT_if0 false rfl (zc_lt_f (by show ((xs 1) : Int32).toInt ≥ 0; omega)) ?_
    refine zT_here (pc2 := 9) rfl ?_
    refine zT_gos (f := 200000) (pc2 := 12) (ls2 := [(0, .ref 162), (1, .int (xs 1)), (2, .int (xs 2))]) (st2 := [.int 63, .int (xs 1)]) (h2 := zH0) (dc2 := 0) (ds2 := 0) 2 rfl ?_
    refine zT_if2 false rfl (zc_gt_f (by show ((xs 1) : Int32).toInt ≤ 63; omega)) ?_
    refine zT_here (pc2 := 15) rfl ?_
    refine zT_gos (f := 200000) (pc2 := 16) (ls2 := [(0, .ref 162), (1, .int (xs 1)), (2, .int (xs 2))]) (st2 := [.int (xs 2)]) (h2 := zH0) (dc2 := 0) (ds2 := 0) 1 rfl ?_
    refine zT_if0 false rfl (zc_lt_f (by show ((xs 2) : Int32).toInt ≥ 0; omega)) ?_
    refine zT_here (pc2 := 19) rfl ?_
    refine zT_gos (f := 200000) (pc2 := 21) (ls2 := [(0, .ref 162), (1, .int (xs 1)), (2, .int (xs 2))]) (st2 := [.int 2, .int (xs 2)]) (h2 := zH0) (dc2 := 0) (ds2 := 0) 2 rfl ?_
    refine zT_if2 false rfl (zc_le_f (by show ((xs 2) : Int32).toInt > 2; omega)) ?_
    refine zT_here (pc2 := 24) rfl ?_
    refine zT_gos (f := 200000) (pc2 := 25) (ls2 := [(0, .ref 162), (1, .int (xs 1)), (2, .int (xs 2))]) (st2 := [.int (-1)]) (h2 := zH0) (dc2 := 0) (ds2 := 0) 1 rfl ?_
    exact zT_ret rfl rfl
  refine zT_here (pc2 := 1661) rfl ?_
  refine zT_gos (f := 200000) (pc2 := 1811) (ls2 := [(4, .int 6), (3, .ref 232), (2, .ref 162), (1, .ref 0), (0, .ref 11)]) (st2 := [.int 1]) (h2 := zH0) (dc2 := 117) (ds2 := 29934) 10 rfl ?_
  exact zT_ret rfl rfl
set_option maxRecDepth 1000000 in
set_option maxHeartbeats 4000000 in
theorem zo_35_4 (xs : Nat → Int32) (h0 : xs 0 &&& 63 = 35) (h1 : 0 ≤ (xs 1).toInt ∧ (xs 1).toInt ≤ 63) (h2 : xs 2 = 0) : zDone xs := by
  refine ⟨zH0, 117, 29934, ?_, by decide, by decide⟩
  refine zT_gos (f := 200000) (pc2 := 37) (ls2 := [(4, .int 0), (3, .ref 232), (2, .ref 162), (1, .ref 0), (0, .ref 11)]) (st2 := [.int (xs 0)]) (h2 := zH0) (dc2 := 117) (ds2 := 29934) 9 rfl ?_
  refine zT_gos (f := 200000) (pc2 := 40) (ls2 := [(4, .int 0), (3, .ref 232), (2, .ref 162), (1, .ref 0), (0, .ref 11)]) (st2 := [.int ((xs 0) &&& (63 : Int32))]) (h2 := zH0) (dc2 := 117) (ds2 := 29934) 2 rfl ?_
  refine zT_val h0 ?_
  refine zT_gos (f := 200000) (pc2 := 1636) (ls2 := [(4, .int 0), (3, .ref 232), (2, .ref 162), (1, .ref 0), (0, .ref 11)]) (st2 := [.int (xs 1), .ref 0]) (h2 := zH0) (dc2 := 117) (ds2 := 29934) 7 rfl ?_
  refine zT_gos (f := 200000) (pc2 := 1642) (ls2 := [(4, .int 0), (3, .ref 232), (2, .ref 162), (1, .ref 0), (0, .ref 11)]) (st2 := [.int (xs 2), .int (xs 1), .ref 0]) (h2 := zH0) (dc2 := 117) (ds2 := 29934) 5 rfl ?_
  refine zT_val h2 ?_
  refine zT_call (v := some (.int (jr (xs 1) (1 : Int32)))) (h2 := zH0) (d1 := 0) (s1 := 0) rfl rfl ?_ ?_
  · refine zT_gos (f := 200000) (pc2 := 1) (ls2 := [(0, .ref 0), (1, .int (xs 1)), (2, .int 0)]) (st2 := [.int (xs 1)]) (h2 := zH0) (dc2 := 0) (ds2 := 0) 1 rfl ?_
    refine zT_if0 false rfl (zc_lt_f (by show ((xs 1) : Int32).toInt ≥ 0; omega)) ?_
    refine zT_here (pc2 := 4) rfl ?_
    refine zT_gos (f := 200000) (pc2 := 7) (ls2 := [(0, .ref 0), (1, .int (xs 1)), (2, .int 0)]) (st2 := [.int 63, .int (xs 1)]) (h2 := zH0) (dc2 := 0) (ds2 := 0) 2 rfl ?_
    refine zT_if2 false rfl (zc_gt_f (by show ((xs 1) : Int32).toInt ≤ 63; omega)) ?_
    refine zT_here (pc2 := 10) rfl ?_
    refine zT_gos (f := 200000) (pc2 := 59) (ls2 := [(0, .ref 0), (1, .int (xs 1)), (2, .int 0)]) (st2 := [.int 1, .int (xs 1), .ref 6, .ref 158]) (h2 := zH0) (dc2 := 0) (ds2 := 0) 17 rfl ?_
    refine zT_call (y2 := 93) (as := [.ref 158, .ref 6, .int (xs 1), .int 1]) rfl rfl (zT_le (zg0_le 6 xs) (r_c (xs 1) (1 : Int32))) ?_
    refine zT_here (pc2 := 62) rfl ?_
    exact zT_ret rfl rfl
  refine zT_here (pc2 := 1645) rfl ?_
  refine zT_gos (f := 200000) (pc2 := 1652) (ls2 := [(4, .int 0), (3, .ref 232), (2, .ref 162), (1, .ref 0), (0, .ref 11)]) (st2 := [.int (xs 1), .ref 162, .int (jr (xs 1) (1 : Int32))]) (h2 := zH0) (dc2 := 117) (ds2 := 29934) 6 rfl ?_
  refine zT_gos (f := 200000) (pc2 := 1658) (ls2 := [(4, .int 0), (3, .ref 232), (2, .ref 162), (1, .ref 0), (0, .ref 11)]) (st2 := [.int (xs 2), .int (xs 1), .ref 162, .int (jr (xs 1) (1 : Int32))]) (h2 := zH0) (dc2 := 117) (ds2 := 29934) 5 rfl ?_
  refine zT_val h2 ?_
  refine zT_call (y2 := 276) (as := [.ref 162, .int (xs 1), .int 0]) rfl rfl (zT_le (zg0_le 6 xs) (r_m0 h1)) ?_
  refine zT_here (pc2 := 1661) rfl ?_
  refine zT_if2 true rfl (zc_eq_t (by show ((jr (xs 1) (1 : Int32)) : Int32).toInt = ((jr (xs 1) (1 : Int32)) : Int32).toInt; omega)) ?_
  refine zT_here (pc2 := 1804) rfl ?_
  refine zT_gos (f := 200000) (pc2 := 1811) (ls2 := [(4, .int 6), (3, .ref 232), (2, .ref 162), (1, .ref 0), (0, .ref 11)]) (st2 := [.int 1]) (h2 := zH0) (dc2 := 117) (ds2 := 29934) 9 rfl ?_
  exact zT_ret rfl rfl
set_option maxRecDepth 1000000 in
set_option maxHeartbeats 4000000 in
theorem zo_35_5 (xs : Nat → Int32) (h0 : xs 0 &&& 63 = 35) (h1 : 0 ≤ (xs 1).toInt ∧ (xs 1).toInt ≤ 63) (h2 : xs 2 = 1) : zDone xs := by
  refine ⟨zH0, 117, 29934, ?_, by decide, by decide⟩
  refine zT_gos (f := 200000) (pc2 := 37) (ls2 := [(4, .int 0), (3, .ref 232), (2, .ref 162), (1, .ref 0), (0, .ref 11)]) (st2 := [.int (xs 0)]) (h2 := zH0) (dc2 := 117) (ds2 := 29934) 9 rfl ?_
  refine zT_gos (f := 200000) (pc2 := 40) (ls2 := [(4, .int 0), (3, .ref 232), (2, .ref 162), (1, .ref 0), (0, .ref 11)]) (st2 := [.int ((xs 0) &&& (63 : Int32))]) (h2 := zH0) (dc2 := 117) (ds2 := 29934) 2 rfl ?_
  refine zT_val h0 ?_
  refine zT_gos (f := 200000) (pc2 := 1636) (ls2 := [(4, .int 0), (3, .ref 232), (2, .ref 162), (1, .ref 0), (0, .ref 11)]) (st2 := [.int (xs 1), .ref 0]) (h2 := zH0) (dc2 := 117) (ds2 := 29934) 7 rfl ?_
  refine zT_gos (f := 200000) (pc2 := 1642) (ls2 := [(4, .int 0), (3, .ref 232), (2, .ref 162), (1, .ref 0), (0, .ref 11)]) (st2 := [.int (xs 2), .int (xs 1), .ref 0]) (h2 := zH0) (dc2 := 117) (ds2 := 29934) 5 rfl ?_
  refine zT_val h2 ?_
  refine zT_call (v := some (.int (jr (xs 1) (0 : Int32)))) (h2 := zH0) (d1 := 0) (s1 := 0) rfl rfl ?_ ?_
  · refine zT_gos (f := 200000) (pc2 := 1) (ls2 := [(0, .ref 0), (1, .int (xs 1)), (2, .int 1)]) (st2 := [.int (xs 1)]) (h2 := zH0) (dc2 := 0) (ds2 := 0) 1 rfl ?_
    refine zT_if0 false rfl (zc_lt_f (by show ((xs 1) : Int32).toInt ≥ 0; omega)) ?_
    refine zT_here (pc2 := 4) rfl ?_
    refine zT_gos (f := 200000) (pc2 := 7) (ls2 := [(0, .ref 0), (1, .int (xs 1)), (2, .int 1)]) (st2 := [.int 63, .int (xs 1)]) (h2 := zH0) (dc2 := 0) (ds2 := 0) 2 rfl ?_
    refine zT_if2 false rfl (zc_gt_f (by show ((xs 1) : Int32).toInt ≤ 63; omega)) ?_
    refine zT_here (pc2 := 10) rfl ?_
    refine zT_gos (f := 200000) (pc2 := 59) (ls2 := [(0, .ref 0), (1, .int (xs 1)), (2, .int 1)]) (st2 := [.int 0, .int (xs 1), .ref 6, .ref 158]) (h2 := zH0) (dc2 := 0) (ds2 := 0) 16 rfl ?_
    refine zT_call (y2 := 93) (as := [.ref 158, .ref 6, .int (xs 1), .int 0]) rfl rfl (zT_le (zg0_le 6 xs) (r_c (xs 1) (0 : Int32))) ?_
    refine zT_here (pc2 := 62) rfl ?_
    exact zT_ret rfl rfl
  refine zT_here (pc2 := 1645) rfl ?_
  refine zT_gos (f := 200000) (pc2 := 1652) (ls2 := [(4, .int 0), (3, .ref 232), (2, .ref 162), (1, .ref 0), (0, .ref 11)]) (st2 := [.int (xs 1), .ref 162, .int (jr (xs 1) (0 : Int32))]) (h2 := zH0) (dc2 := 117) (ds2 := 29934) 6 rfl ?_
  refine zT_gos (f := 200000) (pc2 := 1658) (ls2 := [(4, .int 0), (3, .ref 232), (2, .ref 162), (1, .ref 0), (0, .ref 11)]) (st2 := [.int (xs 2), .int (xs 1), .ref 162, .int (jr (xs 1) (0 : Int32))]) (h2 := zH0) (dc2 := 117) (ds2 := 29934) 5 rfl ?_
  refine zT_val h2 ?_
  refine zT_call (y2 := 276) (as := [.ref 162, .int (xs 1), .int 1]) rfl rfl (zT_le (zg0_le 6 xs) (r_m1 h1)) ?_
  refine zT_here (pc2 := 1661) rfl ?_
  refine zT_if2 true rfl (zc_eq_t (by show ((jr (xs 1) (0 : Int32)) : Int32).toInt = ((jr (xs 1) (0 : Int32)) : Int32).toInt; omega)) ?_
  refine zT_here (pc2 := 1804) rfl ?_
  refine zT_gos (f := 200000) (pc2 := 1811) (ls2 := [(4, .int 6), (3, .ref 232), (2, .ref 162), (1, .ref 0), (0, .ref 11)]) (st2 := [.int 1]) (h2 := zH0) (dc2 := 117) (ds2 := 29934) 9 rfl ?_
  exact zT_ret rfl rfl
