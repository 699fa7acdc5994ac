set_option maxRecDepth 1000000 in
set_option maxHeartbeats 4000000 in
theorem zo_6_0 (xs : Nat → Int32) (h0 : xs 0 &&& 63 = 6) (h1 : (xs 1).toInt < 0) : zDone xs := by
  refine ⟨zH0, 117, 29934, ?_, by decide, by decide⟩
  refine zT_gos (f := 200000) (pc2 := 37) (ls2 := [(4, .int 0), (3, .ref 232), (2, .ref 162), (1, .ref 0), (0, .ref 11)]) (st2 := [.int (xs 0)]) (h2 := zH0) (dc2 := 117) (ds2 := 29934) 9 rfl ?_
  refine zT_gos (f := 200000) (pc2 := 40) (ls2 := [(4, .int 0), (3, .ref 232), (2, .ref 162), (1, .ref 0), (0, .ref 11)]) (st2 := [.int ((xs 0) &&& (63 : Int32))]) (h2 := zH0) (dc2 := 117) (ds2 := 29934) 2 rfl ?_
  refine zT_val h0 ?_
  refine zT_gos (f := 200000) (pc2 := 484) (ls2 := [(4, .int 0), (3, .ref 232), (2, .ref 162), (1, .ref 0), (0, .ref 11)]) (st2 := [.int (xs 1), .ref 0]) (h2 := zH0) (dc2 := 117) (ds2 := 29934) 7 rfl ?_
  refine zT_gos (f := 200000) (pc2 := 490) (ls2 := [(4, .int 0), (3, .ref 232), (2, .ref 162), (1, .ref 0), (0, .ref 11)]) (st2 := [.int (xs 2), .int (xs 1), .ref 0]) (h2 := zH0) (dc2 := 117) (ds2 := 29934) 5 rfl ?_
  refine zT_call (v := some (.int 0)) (h2 := zH0) (d1 := 0) (s1 := 0) rfl rfl ?_ ?_
  · refine zT_gos (f := 200000) (pc2 := 1) (ls2 := [(0, .ref 0), (1, .int (xs 1)), (2, .int (xs 2))]) (st2 := [.int (xs 1)]) (h2 := zH0) (dc2 := 0) (ds2 := 0) 1 rfl ?_
    refine zT_call (v := some (.int 1)) (h2 := zH0) (d1 := 0) (s1 := 0) rfl rfl ?_ ?_
    · refine zT_gos (f := 200000) (pc2 := 1) (ls2 := [(0, .int (xs 1))]) (st2 := [.int (xs 1)]) (h2 := zH0) (dc2 := 0) (ds2 := 0) 1 rfl ?_
      refine zT_if0 true rfl (zc_lt_t (by show ((xs 1) : Int32).toInt < 0; omega)) ?_
      refine zT_here (pc2 := 10) rfl ?_
      refine zT_gos (f := 200000) (pc2 := 15) (ls2 := [(0, .int (xs 1))]) (st2 := [.int 1]) (h2 := zH0) (dc2 := 0) (ds2 := 0) 2 rfl ?_
      exact zT_ret rfl rfl
    refine zT_here (pc2 := 4) rfl ?_
    refine zT_gos (f := 200000) (pc2 := 20) (ls2 := [(0, .ref 0), (1, .int (xs 1)), (2, .int (xs 2))]) (st2 := [.int 0]) (h2 := zH0) (dc2 := 0) (ds2 := 0) 2 rfl ?_
    exact zT_ret rfl rfl
  refine zT_here (pc2 := 493) rfl ?_
  refine zT_gos (f := 200000) (pc2 := 500) (ls2 := [(4, .int 0), (3, .ref 232), (2, .ref 162), (1, .ref 0), (0, .ref 11)]) (st2 := [.int (xs 1), .ref 162, .int 0]) (h2 := zH0) (dc2 := 117) (ds2 := 29934) 6 rfl ?_
  refine zT_gos (f := 200000) (pc2 := 506) (ls2 := [(4, .int 0), (3, .ref 232), (2, .ref 162), (1, .ref 0), (0, .ref 11)]) (st2 := [.int (xs 2), .int (xs 1), .ref 162, .int 0]) (h2 := zH0) (dc2 := 117) (ds2 := 29934) 5 rfl ?_
  refine zT_call (v := some (.int 0)) (h2 := zH0) (d1 := 0) (s1 := 0) rfl rfl ?_ ?_
  · refine zT_gos (f := 200000) (pc2 := 6) (ls2 := [(0, .ref 162), (1, .int (xs 1)), (2, .int (xs 2))]) (st2 := [.int (xs 1)]) (h2 := zH0) (dc2 := 0) (ds2 := 0) 4 rfl ?_
    refine zT_call (v := some (.int 0)) (h2 := zH0) (d1 := 0) (s1 := 0) rfl rfl ?_ ?_
    · refine zT_gos (f := 200000) (pc2 := 1) (ls2 := [(0, .int (xs 1))]) (st2 := [.int (xs 1)]) (h2 := zH0) (dc2 := 0) (ds2 := 0) 1 rfl ?_
      refine zT_if0 true rfl (zc_lt_t (by show ((xs 1) : Int32).toInt < 0; omega)) ?_
      refine zT_here (pc2 := 14) rfl ?_
      refine zT_gos (f := 200000) (pc2 := 15) (ls2 := [(0, .int (xs 1))]) (st2 := [.int 0]) (h2 := zH0) (dc2 := 0) (ds2 := 0) 1 rfl ?_
      exact zT_ret rfl rfl
    refine zT_here (pc2 := 9) rfl ?_
    refine zT_gos (f := 200000) (pc2 := 22) (ls2 := [(0, .ref 162), (1, .int (xs 1)), (2, .int (xs 2))]) (st2 := [.int 0]) (h2 := zH0) (dc2 := 0) (ds2 := 0) 2 rfl ?_
    exact zT_ret rfl rfl
  refine zT_here (pc2 := 509) rfl ?_
  refine zT_gos (f := 200000) (pc2 := 1811) (ls2 := [(4, .int 6), (3, .ref 232), (2, .ref 162), (1, .ref 0), (0, .ref 11)]) (st2 := [.int 1]) (h2 := zH0) (dc2 := 117) (ds2 := 29934) 10 rfl ?_
  exact zT_ret rfl rfl
set_option maxRecDepth 1000000 in
set_option maxHeartbeats 4000000 in
theorem zo_6_1 (xs : Nat → Int32) (h0 : xs 0 &&& 63 = 6) (h1 : 5 < (xs 1).toInt) : zDone xs := by
  refine ⟨zH0, 117, 29934, ?_, by decide, by decide⟩
  refine zT_gos (f := 200000) (pc2 := 37) (ls2 := [(4, .int 0), (3, .ref 232), (2, .ref 162), (1, .ref 0), (0, .ref 11)]) (st2 := [.int (xs 0)]) (h2 := zH0) (dc2 := 117) (ds2 := 29934) 9 rfl ?_
  refine zT_gos (f := 200000) (pc2 := 40) (ls2 := [(4, .int 0), (3, .ref 232), (2, .ref 162), (1, .ref 0), (0, .ref 11)]) (st2 := [.int ((xs 0) &&& (63 : Int32))]) (h2 := zH0) (dc2 := 117) (ds2 := 29934) 2 rfl ?_
  refine zT_val h0 ?_
  refine zT_gos (f := 200000) (pc2 := 484) (ls2 := [(4, .int 0), (3, .ref 232), (2, .ref 162), (1, .ref 0), (0, .ref 11)]) (st2 := [.int (xs 1), .ref 0]) (h2 := zH0) (dc2 := 117) (ds2 := 29934) 7 rfl ?_
  refine zT_gos (f := 200000) (pc2 := 490) (ls2 := [(4, .int 0), (3, .ref 232), (2, .ref 162), (1, .ref 0), (0, .ref 11)]) (st2 := [.int (xs 2), .int (xs 1), .ref 0]) (h2 := zH0) (dc2 := 117) (ds2 := 29934) 5 rfl ?_
  refine zT_call (v := some (.int 0)) (h2 := zH0) (d1 := 0) (s1 := 0) rfl rfl ?_ ?_
  · refine zT_gos (f := 200000) (pc2 := 1) (ls2 := [(0, .ref 0), (1, .int (xs 1)), (2, .int (xs 2))]) (st2 := [.int (xs 1)]) (h2 := zH0) (dc2 := 0) (ds2 := 0) 1 rfl ?_
    refine zT_call (v := some (.int 1)) (h2 := zH0) (d1 := 0) (s1 := 0) rfl rfl ?_ ?_
    · refine zT_gos (f := 200000) (pc2 := 1) (ls2 := [(0, .int (xs 1))]) (st2 := [.int (xs 1)]) (h2 := zH0) (dc2 := 0) (ds2 := 0) 1 rfl ?_
      refine zT_if0 false rfl (zc_lt_f (by show ((xs 1) : Int32).toInt ≥ 0; omega)) ?_
      refine zT_here (pc2 := 4) rfl ?_
      refine zT_gos (f := 200000) (pc2 := 7) (ls2 := [(0, .int (xs 1))]) (st2 := [.int 6, .int (xs 1)]) (h2 := zH0) (dc2 := 0) (ds2 := 0) 2 rfl ?_
      refine zT_if2 false rfl (zc_lt_f (by show ((xs 1) : Int32).toInt ≥ 6; omega)) ?_
      refine zT_here (pc2 := 10) rfl ?_
      refine zT_gos (f := 200000) (pc2 := 15) (ls2 := [(0, .int (xs 1))]) (st2 := [.int 1]) (h2 := zH0) (dc2 := 0) (ds2 := 0) 2 rfl ?_
      exact zT_ret rfl rfl
    refine zT_here (pc2 := 4) rfl ?_
    refine zT_gos (f := 200000) (pc2 := 20) (ls2 := [(0, .ref 0), (1, .int (xs 1)), (2, .int (xs 2))]) (st2 := [.int 0]) (h2 := zH0) (dc2 := 0) (ds2 := 0) 2 rfl ?_
    exact zT_ret rfl rfl
  refine zT_here (pc2 := 493) rfl ?_
  refine zT_gos (f := 200000) (pc2 := 500) (ls2 := [(4, .int 0), (3, .ref 232), (2, .ref 162), (1, .ref 0), (0, .ref 11)]) (st2 := [.int (xs 1), .ref 162, .int 0]) (h2 := zH0) (dc2 := 117) (ds2 := 29934) 6 rfl ?_
  refine zT_gos (f := 200000) (pc2 := 506) (ls2 := [(4, .int 0), (3, .ref 232), (2, .ref 162), (1, .ref 0), (0, .ref 11)]) (st2 := [.int (xs 2), .int (xs 1), .ref 162, .int 0]) (h2 := zH0) (dc2 := 117) (ds2 := 29934) 5 rfl ?_
  refine zT_call (v := some (.int 0)) (h2 := zH0) (d1 := 0) (s1 := 0) rfl rfl ?_ ?_
  · refine zT_gos (f := 200000) (pc2 := 6) (ls2 := [(0, .ref 162), (1, .int (xs 1)), (2, .int (xs 2))]) (st2 := [.int (xs 1)]) (h2 := zH0) (dc2 := 0) (ds2 := 0) 4 rfl ?_
    refine zT_call (v := some (.int 0)) (h2 := zH0) (d1 := 0) (s1 := 0) rfl rfl ?_ ?_
    · refine zT_gos (f := 200000) (pc2 := 1) (ls2 := [(0, .int (xs 1))]) (st2 := [.int (xs 1)]) (h2 := zH0) (dc2 := 0) (ds2 := 0) 1 rfl ?_
      refine zT_if0 false rfl (zc_lt_f (by show ((xs 1) : Int32).toInt ≥ 0; omega)) ?_
      refine zT_here (pc2 := 4) rfl ?_
      refine zT_gos (f := 200000) (pc2 := 7) (ls2 := [(0, .int (xs 1))]) (st2 := [.int 6, .int (xs 1)]) (h2 := zH0) (dc2 := 0) (ds2 := 0) 2 rfl ?_
      refine zT_if2 true rfl (zc_ge_t (by show ((xs 1) : Int32).toInt ≥ 6; omega)) ?_
      refine zT_here (pc2 := 14) rfl ?_
      refine zT_gos (f := 200000) (pc2 := 15) (ls2 := [(0, .int (xs 1))]) (st2 := [.int 0]) (h2 := zH0) (dc2 := 0) (ds2 := 0) 1 rfl ?_
      exact zT_ret rfl rfl
    refine zT_here (pc2 := 9) rfl ?_
    refine zT_gos (f := 200000) (pc2 := 22) (ls2 := [(0, .ref 162), (1, .int (xs 1)), (2, .int (xs 2))]) (st2 := [.int 0]) (h2 := zH0) (dc2 := 0) (ds2 := 0) 2 rfl ?_
    exact zT_ret rfl rfl
  refine zT_here (pc2 := 509) rfl ?_
  refine zT_gos (f := 200000) (pc2 := 1811) (ls2 := [(4, .int 6), (3, .ref 232), (2, .ref 162), (1, .ref 0), (0, .ref 11)]) (st2 := [.int 1]) (h2 := zH0) (dc2 := 117) (ds2 := 29934) 10 rfl ?_
  exact zT_ret rfl rfl
set_option maxRecDepth 1000000 in
set_option maxHeartbeats 4000000 in
theorem zo_6_2 (xs : Nat → Int32) (h0 : xs 0 &&& 63 = 6) (h1 : xs 1 = 0) (h2 : (xs 2).toInt < 0) : zDone xs := by
  refine ⟨zH0, 117, 29934, ?_, by decide, by decide⟩
  refine zT_gos (f := 200000) (pc2 := 37) (ls2 := [(4, .int 0), (3, .ref 232), (2, .ref 162), (1, .ref 0), (0, .ref 11)]) (st2 := [.int (xs 0)]) (h2 := zH0) (dc2 := 117) (ds2 := 29934) 9 rfl ?_
  refine zT_gos (f := 200000) (pc2 := 40) (ls2 := [(4, .int 0), (3, .ref 232), (2, .ref 162), (1, .ref 0), (0, .ref 11)]) (st2 := [.int ((xs 0) &&& (63 : Int32))]) (h2 := zH0) (dc2 := 117) (ds2 := 29934) 2 rfl ?_
  refine zT_val h0 ?_
  refine zT_gos (f := 200000) (pc2 := 484) (ls2 := [(4, .int 0), (3, .ref 232), (2, .ref 162), (1, .ref 0), (0, .ref 11)]) (st2 := [.int (xs 1), .ref 0]) (h2 := zH0) (dc2 := 117) (ds2 := 29934) 7 rfl ?_
  refine zT_val h1 ?_
  refine zT_gos (f := 200000) (pc2 := 490) (ls2 := [(4, .int 0), (3, .ref 232), (2, .ref 162), (1, .ref 0), (0, .ref 11)]) (st2 := [.int (xs 2), .int 0, .ref 0]) (h2 := zH0) (dc2 := 117) (ds2 := 29934) 5 rfl ?_
  refine zT_call (v := some (.int 0)) (h2 := zH0) (d1 := 0) (s1 := 0) rfl rfl ?_ ?_
  · refine zT_gos (f := 200000) (pc2 := 13) (ls2 := [(0, .ref 0), (1, .int 0), (2, .int (xs 2))]) (st2 := [.int (xs 2), .int 0, .ref 6]) (h2 := zH0) (dc2 := 0) (ds2 := 0) 7 rfl ?_
    refine zT_call (v := some (.int 0)) (h2 := zH0) (d1 := 0) (s1 := 0) rfl rfl ?_ ?_
    · refine zT_gos (f := 200000) (pc2 := 7) (ls2 := [(0, .ref 6), (1, .int 0), (2, .int (xs 2))]) (st2 := [.int 0, .int (xs 2)]) (h2 := zH0) (dc2 := 0) (ds2 := 0) 5 rfl ?_
      refine zT_if2 true rfl (zc_lt_t (by show ((xs 2) : Int32).toInt < 0; omega)) ?_
      refine zT_here (pc2 := 24) rfl ?_
      refine zT_gos (f := 200000) (pc2 := 25) (ls2 := [(0, .ref 6), (1, .int 0), (2, .int (xs 2))]) (st2 := [.int 0]) (h2 := zH0) (dc2 := 0) (ds2 := 0) 1 rfl ?_
      exact zT_ret rfl rfl
    refine zT_here (pc2 := 16) rfl ?_
    refine zT_gos (f := 200000) (pc2 := 20) (ls2 := [(0, .ref 0), (1, .int 0), (2, .int (xs 2))]) (st2 := [.int 0]) (h2 := zH0) (dc2 := 0) (ds2 := 0) 2 rfl ?_
    exact zT_ret rfl rfl
  refine zT_here (pc2 := 493) rfl ?_
  refine zT_gos (f := 200000) (pc2 := 500) (ls2 := [(4, .int 0), (3, .ref 232), (2, .ref 162), (1, .ref 0), (0, .ref 11)]) (st2 := [.int (xs 1), .ref 162, .int 0]) (h2 := zH0) (dc2 := 117) (ds2 := 29934) 6 rfl ?_
  refine zT_val h1 ?_
  refine zT_gos (f := 200000) (pc2 := 506) (ls2 := [(4, .int 0), (3, .ref 232), (2, .ref 162), (1, .ref 0), (0, .ref 11)]) (st2 := [.int (xs 2), .int 0, .ref 162, .int 0]) (h2 := zH0) (dc2 := 117) (ds2 := 29934) 5 rfl ?_
  refine zT_call (v := some (.int 0)) (h2 := zH0) (d1 := 0) (s1 := 0) rfl rfl ?_ ?_
  · refine zT_gos (f := 200000) (pc2 := 15) (ls2 := [(0, .ref 162), (1, .int 0), (2, .int (xs 2))]) (st2 := [.int (xs 2), .int 0, .ref 162]) (h2 := zH0) (dc2 := 0) (ds2 := 0) 9 rfl ?_
    refine zT_call (v := some (.int 0)) (h2 := zH0) (d1 := 0) (s1 := 0) rfl rfl ?_ ?_
    · refine zT_gos (f := 200000) (pc2 := 7) (ls2 := [(0, .ref 162), (1, .int 0), (2, .int (xs 2))]) (st2 := [.int 0, .int (xs 2)]) (h2 := zH0) (dc2 := 0) (ds2 := 0) 5 rfl ?_
      refine zT_if2 true rfl (zc_lt_t (by show ((xs 2) : Int32).toInt < 0; omega)) ?_
      refine zT_here (pc2 := 24) rfl ?_
      refine zT_gos (f := 200000) (pc2 := 25) (ls2 := [(0, .ref 162), (1, .int 0), (2, .int (xs 2))]) (st2 := [.int 0]) (h2 := zH0) (dc2 := 0) (ds2 := 0) 1 rfl ?_
      exact zT_ret rfl rfl
    refine zT_here (pc2 := 18) rfl ?_
    refine zT_gos (f := 200000) (pc2 := 22) (ls2 := [(0, .ref 162), (1, .int 0), (2, .int (xs 2))]) (st2 := [.int 0]) (h2 := zH0) (dc2 := 0) (ds2 := 0) 2 rfl ?_
    exact zT_ret rfl rfl
  refine zT_here (pc2 := 509) rfl ?_
  refine zT_gos (f := 200000) (pc2 := 1811) (ls2 := [(4, .int 6), (3, .ref 232), (2, .ref 162), (1, .ref 0), (0, .ref 11)]) (st2 := [.int 1]) (h2 := zH0) (dc2 := 117) (ds2 := 29934) 10 rfl ?_
  exact zT_ret rfl rfl
set_option maxRecDepth 1000000 in
set_option maxHeartbeats 4000000 in
theorem zo_6_3 (xs : Nat → Int32) (h0 : xs 0 &&& 63 = 6) (h1 : xs 1 = 0) (h2 : 99 < (xs 2).toInt) : zDone xs := by
  refine ⟨zH0, 117, 29934, ?_, by decide, by decide⟩
  refine zT_gos (f := 200000) (pc2 := 37) (ls2 := [(4, .int 0), (3, .ref 232), (2, .ref 162), (1, .ref 0), (0, .ref 11)]) (st2 := [.int (xs 0)]) (h2 := zH0) (dc2 := 117) (ds2 := 29934) 9 rfl ?_
  refine zT_gos (f := 200000) (pc2 := 40) (ls2 := [(4, .int 0), (3, .ref 232), (2, .ref 162), (1, .ref 0), (0, .ref 11)]) (st2 := [.int ((xs 0) &&& (63 : Int32))]) (h2 := zH0) (dc2 := 117) (ds2 := 29934) 2 rfl ?_
  refine zT_val h0 ?_
  refine zT_gos (f := 200000) (pc2 := 484) (ls2 := [(4, .int 0), (3, .ref 232), (2, .ref 162), (1, .ref 0), (0, .ref 11)]) (st2 := [.int (xs 1), .ref 0]) (h2 := zH0) (dc2 := 117) (ds2 := 29934) 7 rfl ?_
  refine zT_val h1 ?_
  refine zT_gos (f := 200000) (pc2 := 490) (ls2 := [(4, .int 0), (3, .ref 232), (2, .ref 162), (1, .ref 0), (0, .ref 11)]) (st2 := [.int (xs 2), .int 0, .ref 0]) (h2 := zH0) (dc2 := 117) (ds2 := 29934) 5 rfl ?_
  refine zT_call (v := some (.int 0)) (h2 := zH0) (d1 := 0) (s1 := 0) rfl rfl ?_ ?_
  · refine zT_gos (f := 200000) (pc2 := 13) (ls2 := [(0, .ref 0), (1, .int 0), (2, .int (xs 2))]) (st2 := [.int (xs 2), .int 0, .ref 6]) (h2 := zH0) (dc2 := 0) (ds2 := 0) 7 rfl ?_
    refine zT_call (v := some (.int 0)) (h2 := zH0) (d1 := 0) (s1 := 0) rfl rfl ?_ ?_
    · refine zT_gos (f := 200000) (pc2 := 7) (ls2 := [(0, .ref 6), (1, .int 0), (2, .int (xs 2))]) (st2 := [.int 0, .int (xs 2)]) (h2 := zH0) (dc2 := 0) (ds2 := 0) 5 rfl ?_
      refine zT_if2 false rfl (zc_lt_f (by show ((xs 2) : Int32).toInt ≥ 0; omega)) ?_
      refine zT_here (pc2 := 10) rfl ?_
      refine zT_gos (f := 200000) (pc2 := 17) (ls2 := [(0, .ref 6), (1, .int 0), (2, .int (xs 2))]) (st2 := [.int 99, .int (xs 2)]) (h2 := zH0) (dc2 := 0) (ds2 := 0) 5 rfl ?_
      refine zT_if2 true rfl (zc_gt_t (by show ((xs 2) : Int32).toInt > 99; omega)) ?_
      refine zT_here (pc2 := 24) rfl ?_
      refine zT_gos (f := 200000) (pc2 := 25) (ls2 := [(0, .ref 6), (1, .int 0), (2, .int (xs 2))]) (st2 := [.int 0]) (h2 := zH0) (dc2 := 0) (ds2 := 0) 1 rfl ?_
      exact zT_ret rfl rfl
    refine zT_here (pc2 := 16) rfl ?_
    refine zT_gos (f := 200000) (pc2 := 20) (ls2 := [(0, .ref 0), (1, .int 0), (2, .int (xs 2))]) (st2 := [.int 0]) (h2 := zH0) (dc2 := 0) (ds2 := 0) 2 rfl ?_
    exact zT_ret rfl rfl
  refine zT_here (pc2 := 493) rfl ?_
  refine zT_gos (f := 200000) (pc2 := 500) (ls2 := [(4, .int 0), (3, .ref 232), (2, .ref 162), (1, .ref 0), (0, .ref 11)]) (st2 := [.int (xs 1), .ref 162, .int 0]) (h2 := zH0) (dc2 := 117) (ds2 := 29934) 6 rfl ?_
  refine zT_val h1 ?_
  refine zT_gos (f := 200000) (pc2 := 506) (ls2 := [(4, .int 0), (3, .ref 232), (2, .ref 162), (1, .ref 0), (0, .ref 11)]) (st2 := [.int (xs 2), .int 0, .ref 162, .int 0]) (h2 := zH0) (dc2 := 117) (ds2 := 29934) 5 rfl ?_
  refine zT_call (v := some (.int 0)) (h2 := zH0) (d1 := 0) (s1 := 0) rfl rfl ?_ ?_
  · refine zT_gos (f := 200000) (pc2 := 15) (ls2 := [(0, .ref 162), (1, .int 0), (2, .int (xs 2))]) (st2 := [.int (xs 2), .int 0, .ref 162]) (h2 := zH0) (dc2 := 0) (ds2 := 0) 9 rfl ?_
    refine zT_call (v := some (.int 0)) (h2 := zH0) (d1 := 0) (s1 := 0) rfl rfl ?_ ?_
    · refine zT_gos (f := 200000) (pc2 := 7) (ls2 := [(0, .ref 162), (1, .int 0), (2, .int (xs 2))]) (st2 := [.int 0, .int (xs 2)]) (h2 := zH0) (dc2 := 0) (ds2 := 0) 5 rfl ?_
      refine zT_if2 false rfl (zc_lt_f (by show ((xs 2) : Int32).toInt ≥ 0; omega)) ?_
      refine zT_here (pc2 := 10) rfl ?_
      refine zT_gos (f := 200000) (pc2 := 17) (ls2 := [(0, .ref 162), (1, .int 0), (2, .int (xs 2))]) (st2 := [.int 99, .int (xs 2)]) (h2 := zH0) (dc2 := 0) (ds2 := 0) 5 rfl ?_
      refine zT_if2 true rfl (zc_gt_t (by show ((xs 2) : Int32).toInt > 99; omega)) ?_
      refine zT_here (pc2 := 24) rfl ?_
      refine zT_gos (f := 200000) (pc2 := 25) (ls2 := [(0, .ref 162), (1, .int 0), (2, .int (xs 2))]) (st2 := [.int 0]) (h2 := zH0) (dc2 := 0) (ds2 := 0) 1 rfl ?_
      exact zT_ret rfl rfl
    refine zT_here (pc2 := 18) rfl ?_
    refine zT_gos (f := 200000) (pc2 := 22) (ls2 := [(0, .ref 162), (1, .int 0), (2, .int (xs 2))]) (st2 := [.int 0]) (h2 := zH0) (dc2 := 0) (ds2 := 0) 2 rfl ?_
    exact zT_ret rfl rfl
  refine zT_here (pc2 := 509) rfl ?_
  refine zT_gos (f := 200000) (pc2 := 1811) (ls2 := [(4, .int 6), (3, .ref 232), (2, .ref 162), (1, .ref 0), (0, .ref 11)]) (st2 := [.int 1]) (h2 := zH0) (dc2 := 117) (ds2 := 29934) 10 rfl ?_
  exact zT_ret rfl rfl
set_option maxRecDepth 1000000 in
set_option maxHeartbeats 4000000 in
theorem zo_6_5 (xs : Nat → Int32) (h0 : xs 0 &&& 63 = 6) (h1 : xs 1 = 1) (h2 : (xs 2).toInt < -32) : zDone xs := by
  refine ⟨zH0, 117, 29934, ?_, by decide, by decide⟩
  refine zT_gos (f := 200000) (pc2 := 37) (ls2 := [(4, .int 0), (3, .ref 232), (2, .ref 162), (1, .ref 0), (0, .ref 11)]) (st2 := [.int (xs 0)]) (h2 := zH0) (dc2 := 117) (ds2 := 29934) 9 rfl ?_
  refine zT_gos (f := 200000) (pc2 := 40) (ls2 := [(4, .int 0), (3, .ref 232), (2, .ref 162), (1, .ref 0), (0, .ref 11)]) (st2 := [.int ((xs 0) &&& (63 : Int32))]) (h2 := zH0) (dc2 := 117) (ds2 := 29934) 2 rfl ?_
  refine zT_val h0 ?_
  refine zT_gos (f := 200000) (pc2 := 484) (ls2 := [(4, .int 0), (3, .ref 232), (2, .ref 162), (1, .ref 0), (0, .ref 11)]) (st2 := [.int (xs 1), .ref 0]) (h2 := zH0) (dc2 := 117) (ds2 := 29934) 7 rfl ?_
  refine zT_val h1 ?_
  refine zT_gos (f := 200000) (pc2 := 490) (ls2 := [(4, .int 0), (3, .ref 232), (2, .ref 162), (1, .ref 0), (0, .ref 11)]) (st2 := [.int (xs 2), .int 1, .ref 0]) (h2 := zH0) (dc2 := 117) (ds2 := 29934) 5 rfl ?_
  refine zT_call (v := some (.int 0)) (h2 := zH0) (d1 := 0) (s1 := 0) rfl rfl ?_ ?_
  · refine zT_gos (f := 200000) (pc2 := 13) (ls2 := [(0, .ref 0), (1, .int 1), (2, .int (xs 2))]) (st2 := [.int (xs 2), .int 1, .ref 6]) (h2 := zH0) (dc2 := 0) (ds2 := 0) 7 rfl ?_
    refine zT_call (v := some (.int 0)) (h2 := zH0) (d1 := 0) (s1 := 0) rfl rfl ?_ ?_
    · refine zT_gos (f := 200000) (pc2 := 7) (ls2 := [(0, .ref 6), (1, .int 1), (2, .int (xs 2))]) (st2 := [.int (-32), .int (xs 2)]) (h2 := zH0) (dc2 := 0) (ds2 := 0) 5 rfl ?_
      refine zT_if2 true rfl (zc_lt_t (by show ((xs 2) : Int32).toInt < -32; omega)) ?_
      refine zT_here (pc2 := 24) rfl ?_
      refine zT_gos (f := 200000) (pc2 := 25) (ls2 := [(0, .ref 6), (1, .int 1), (2, .int (xs 2))]) (st2 := [.int 0]) (h2 := zH0) (dc2 := 0) (ds2 := 0) 1 rfl ?_
      exact zT_ret rfl rfl
    refine zT_here (pc2 := 16) rfl ?_
    refine zT_gos (f := 200000) (pc2 := 20) (ls2 := [(0, .ref 0), (1, .int 1), (2, .int (xs 2))]) (st2 := [.int 0]) (h2 := zH0) (dc2 := 0) (ds2 := 0) 2 rfl ?_
    exact zT_ret rfl rfl
  refine zT_here (pc2 := 493) rfl ?_
  refine zT_gos (f := 200000) (pc2 := 500) (ls2 := [(4, .int 0), (3, .ref 232), (2, .ref 162), (1, .ref 0), (0, .ref 11)]) (st2 := [.int (xs 1), .ref 162, .int 0]) (h2 := zH0) (dc2 := 117) (ds2 := 29934) 6 rfl ?_
  refine zT_val h1 ?_
  refine zT_gos (f := 200000) (pc2 := 506) (ls2 := [(4, .int 0), (3, .ref 232), (2, .ref 162), (1, .ref 0), (0, .ref 11)]) (st2 := [.int (xs 2), .int 1, .ref 162, .int 0]) (h2 := zH0) (dc2 := 117) (ds2 := 29934) 5 rfl ?_
  refine zT_call (v := some (.int 0)) (h2 := zH0) (d1 := 0) (s1 := 0) rfl rfl ?_ ?_
  · refine zT_gos (f := 200000) (pc2 := 15) (ls2 := [(0, .ref 162), (1, .int 1), (2, .int (xs 2))]) (st2 := [.int (xs 2), .int 1, .ref 162]) (h2 := zH0) (dc2 := 0) (ds2 := 0) 9 rfl ?_
    refine zT_call (v := some (.int 0)) (h2 := zH0) (d1 := 0) (s1 := 0) rfl rfl ?_ ?_
    · refine zT_gos (f := 200000) (pc2 := 7) (ls2 := [(0, .ref 162), (1, .int 1), (2, .int (xs 2))]) (st2 := [.int (-32), .int (xs 2)]) (h2 := zH0) (dc2 := 0) (ds2 := 0) 5 rfl ?_
      refine zT_if2 true rfl (zc_lt_t (by show ((xs 2) : Int32).toInt < -32; omega)) ?_
      refine zT_here (pc2 := 24) rfl ?_
      refine zT_gos (f := 200000) (pc2 := 25) (ls2 := [(0, .ref 162), (1, .int 1), (2, .int (xs 2))]) (st2 := [.int 0]) (h2 := zH0) (dc2 := 0) (ds2 := 0) 1 rfl ?_
      exact zT_ret rfl rfl
    refine zT_here (pc2 := 18) rfl ?_
    refine zT_gos (f := 200000) (pc2 := 22) (ls2 := [(0, .ref 162), (1, .int 1), (2, .int (xs 2))]) (st2 := [.int 0]) (h2 := zH0) (dc2 := 0) (ds2 := 0) 2 rfl ?_
    exact zT_ret rfl rfl
  refine zT_here (pc2 := 509) rfl ?_
  refine zT_gos (f := 200000) (pc2 := 1811) (ls2 := [(4, .int 6), (3, .ref 232), (2, .ref 162), (1, .ref 0), (0, .ref 11)]) (st2 := [.int 1]) (h2 := zH0) (dc2 := 117) (ds2 := 29934) 10 rfl ?_
  exact zT_ret rfl rfl
set_option maxRecDepth 1000000 in
set_option maxHeartbeats 4000000 in
theorem zo_6_6 (xs : Nat → Int32) (h0 : xs 0 &&& 63 = 6) (h1 : xs 1 = 1) (h2 : 31 < (xs 2).toInt) : zDone xs := by
  refine ⟨zH0, 117, 29934, ?_, by decide, by decide⟩
  refine zT_gos (f := 200000) (pc2 := 37) (ls2 := [(4, .int 0), (3, .ref 232), (2, .ref 162), (1, .ref 0), (0, .ref 11)]) (st2 := [.int (xs 0)]) (h2 := zH0) (dc2 := 117) (ds2 := 29934) 9 rfl ?_
  refine zT_gos (f := 200000) (pc2 := 40) (ls2 := [(4, .int 0), (3, .ref 232), (2, .ref 162), (1, .ref 0), (0, .ref 11)]) (st2 := [.int ((xs 0) &&& (63 : Int32))]) (h2 := zH0) (dc2 := 117) (ds2 := 29934) 2 rfl ?_
  refine zT_val h0 ?_
  refine zT_gos (f := 200000) (pc2 := 484) (ls2 := [(4, .int 0), (3, .ref 232), (2, .ref 162), (1, .ref 0), (0, .ref 11)]) (st2 := [.int (xs 1), .ref 0]) (h2 := zH0) (dc2 := 117) (ds2 := 29934) 7 rfl ?_
  refine zT_val h1 ?_
  refine zT_gos (f := 200000) (pc2 := 490) (ls2 := [(4, .int 0), (3, .ref 232), (2, .ref 162), (1, .ref 0), (0, .ref 11)]) (st2 := [.int (xs 2), .int 1, .ref 0]) (h2 := zH0) (dc2 := 117) (ds2 := 29934) 5 rfl ?_
  refine zT_call (v := some (.int 0)) (h2 := zH0) (d1 := 0) (s1 := 0) rfl rfl ?_ ?_
  · refine zT_gos (f := 200000) (pc2 := 13) (ls2 := [(0, .ref 0), (1, .int 1), (2, .int (xs 2))]) (st2 := [.int (xs 2), .int 1, .ref 6]) (h2 := zH0) (dc2 := 0) (ds2 := 0) 7 rfl ?_
    refine zT_call (v := some (.int 0)) (h2 := zH0) (d1 := 0) (s1 := 0) rfl rfl ?_ ?_
    · refine zT_gos (f := 200000) (pc2 := 7) (ls2 := [(0, .ref 6), (1, .int 1), (2, .int (xs 2))]) (st2 := [.int (-32), .int (xs 2)]) (h2 := zH0) (dc2 := 0) (ds2 := 0) 5 rfl ?_
      refine zT_if2 false rfl (zc_lt_f (by show ((xs 2) : Int32).toInt ≥ -32; omega)) ?_
      refine zT_here (pc2 := 10) rfl ?_
      refine zT_gos (f := 200000) (pc2 := 17) (ls2 := [(0, .ref 6), (1, .int 1), (2, .int (xs 2))]) (st2 := [.int 31, .int (xs 2)]) (h2 := zH0) (dc2 := 0) (ds2 := 0) 5 rfl ?_
      refine zT_if2 true rfl (zc_gt_t (by show ((xs 2) : Int32).toInt > 31; omega)) ?_
      refine zT_here (pc2 := 24) rfl ?_
      refine zT_gos (f := 200000) (pc2 := 25) (ls2 := [(0, .ref 6), (1, .int 1), (2, .int (xs 2))]) (st2 := [.int 0]) (h2 := zH0) (dc2 := 0) (ds2 := 0) 1 rfl ?_
      exact zT_ret rfl rfl
    refine zT_here (pc2 := 16) rfl ?_
    refine zT_gos (f := 200000) (pc2 := 20) (ls2 := [(0, .ref 0), (1, .int 1), (2, .int (xs 2))]) (st2 := [.int 0]) (h2 := zH0) (dc2 := 0) (ds2 := 0) 2 rfl ?_
    exact zT_ret rfl rfl
  refine zT_here (pc2 := 493) rfl ?_
  refine zT_gos (f := 200000) (pc2 := 500) (ls2 := [(4, .int 0), (3, .ref 232), (2, .ref 162), (1, .ref 0), (0, .ref 11)]) (st2 := [.int (xs 1), .ref 162, .int 0]) (h2 := zH0) (dc2 := 117) (ds2 := 29934) 6 rfl ?_
  refine zT_val h1 ?_
  refine zT_gos (f := 200000) (pc2 := 506) (ls2 := [(4, .int 0), (3, .ref 232), (2, .ref 162), (1, .ref 0), (0, .ref 11)]) (st2 := [.int (xs 2), .int 1, .ref 162, .int 0]) (h2 := zH0) (dc2 := 117) (ds2 := 29934) 5 rfl ?_
  refine zT_call (v := some (.int 0)) (h2 := zH0) (d1 := 0) (s1 := 0) rfl rfl ?_ ?_
  · refine zT_gos (f := 200000) (pc2 := 15) (ls2 := [(0, .ref 162), (1, .int 1), (2, .int (xs 2))]) (st2 := [.int (xs 2), .int 1, .ref 162]) (h2 := zH0) (dc2 := 0) (ds2 := 0) 9 rfl ?_
    refine zT_call (v := some (.int 0)) (h2 := zH0) (d1 := 0) (s1 := 0) rfl rfl ?_ ?_
    · refine zT_gos (f := 200000) (pc2 := 7) (ls2 := [(0, .ref 162), (1, .int 1), (2, .int (xs 2))]) (st2 := [.int (-32), .int (xs 2)]) (h2 := zH0) (dc2 := 0) (ds2 := 0) 5 rfl ?_
      refine zT_if2 false rfl (zc_lt_f (by show ((xs 2) : Int32).toInt ≥ -32; omega)) ?_
      refine zT_here (pc2 := 10) rfl ?_
      refine zT_gos (f := 200000) (pc2 := 17) (ls2 := [(0, .ref 162), (1, .int 1), (2, .int (xs 2))]) (st2 := [.int 31, .int (xs 2)]) (h2 := zH0) (dc2 := 0) (ds2 := 0) 5 rfl ?_
      refine zT_if2 true rfl (zc_gt_t (by show ((xs 2) : Int32).toInt > 31; omega)) ?_
      refine zT_here (pc2 := 24) rfl ?_
      refine zT_gos (f := 200000) (pc2 := 25) (ls2 := [(0, .ref 162), (1, .int 1), (2, .int (xs 2))]) (st2 := [.int 0]) (h2 := zH0) (dc2 := 0) (ds2 := 0) 1 rfl ?_
      exact zT_ret rfl rfl
    refine zT_here (pc2 := 18) rfl ?_
    refine zT_gos (f := 200000) (pc2 := 22) (ls2 := [(0, .ref 162), (1, .int 1), (2, .int (xs 2))]) (st2 := [.int 0]) (h2 := zH0) (dc2 := 0) (ds2 := 0) 2 rfl ?_
    exact zT_ret rfl rfl
  refine zT_here (pc2 := 509) rfl ?_
  refine zT_gos (f := 200000) (pc2 := 1811) (ls2 := [(4, .int 6), (3, .ref 232), (2, .ref 162), (1, .ref 0), (0, .ref 11)]) (st2 := [.int 1]) (h2 := zH0) (dc2 := 117) (ds2 := 29934) 10 rfl ?_
  exact zT_ret rfl rfl
set_option maxRecDepth 1000000 in
set_option maxHeartbeats 4000000 in
theorem zo_6_8 (xs : Nat → Int32) (h0 : xs 0 &&& 63 = 6) (h1 : xs 1 = 2) (h2 : (xs 2).toInt < -32) : zDone xs := by
  refine ⟨zH0, 117, 29934, ?_, by decide, by decide⟩
  refine zT_gos (f := 200000) (pc2 := 37) (ls2 := [(4, .int 0), (3, .ref 232), (2, .ref 162), (1, .ref 0), (0, .ref 11)]) (st2 := [.int (xs 0)]) (h2 := zH0) (dc2 := 117) (ds2 := 29934) 9 rfl ?_
  refine zT_gos (f := 200000) (pc2 := 40) (ls2 := [(4, .int 0), (3, .ref 232), (2, .ref 162), (1, .ref 0), (0, .ref 11)]) (st2 := [.int ((xs 0) &&& (63 : Int32))]) (h2 := zH0) (dc2 := 117) (ds2 := 29934) 2 rfl ?_
  refine zT_val h0 ?_
  refine zT_gos (f := 200000) (pc2 := 484) (ls2 := [(4, .int 0), (3, .ref 232), (2, .ref 162), (1, .ref 0), (0, .ref 11)]) (st2 := [.int (xs 1), .ref 0]) (h2 := zH0) (dc2 := 117) (ds2 := 29934) 7 rfl ?_
  refine zT_val h1 ?_
  refine zT_gos (f := 200000) (pc2 := 490) (ls2 := [(4, .int 0), (3, .ref 232), (2, .ref 162), (1, .ref 0), (0, .ref 11)]) (st2 := [.int (xs 2), .int 2, .ref 0]) (h2 := zH0) (dc2 := 117) (ds2 := 29934) 5 rfl ?_
  refine zT_call (v := some (.int 0)) (h2 := zH0) (d1 := 0) (s1 := 0) rfl rfl ?_ ?_
  · refine zT_gos (f := 200000) (pc2 := 13) (ls2 := [(0, .ref 0), (1, .int 2), (2, .int (xs 2))]) (st2 := [.int (xs 2), .int 2, .ref 6]) (h2 := zH0) (dc2 := 0) (ds2 := 0) 7 rfl ?_
    refine zT_call (v := some (.int 0)) (h2 := zH0) (d1 := 0) (s1 := 0) rfl rfl ?_ ?_
    · refine zT_gos (f := 200000) (pc2 := 7) (ls2 := [(0, .ref 6), (1, .int 2), (2, .int (xs 2))]) (st2 := [.int (-32), .int (xs 2)]) (h2 := zH0) (dc2 := 0) (ds2 := 0) 5 rfl ?_
      refine zT_if2 true rfl (zc_lt_t (by show ((xs 2) : Int32).toInt < -32; omega)) ?_
      refine zT_here (pc2 := 24) rfl ?_
      refine zT_gos (f := 200000) (pc2 := 25) (ls2 := [(0, .ref 6), (1, .int 2), (2, .int (xs 2))]) (st2 := [.int 0]) (h2 := zH0) (dc2 := 0) (ds2 := 0) 1 rfl ?_
      exact zT_ret rfl rfl
    refine zT_here (pc2 := 16) rfl ?_
    refine zT_gos (f := 200000) (pc2 := 20) (ls2 := [(0, .ref 0), (1, .int 2), (2, .int (xs 2))]) (st2 := [.int 0]) (h2 := zH0) (dc2 := 0) (ds2 := 0) 2 rfl ?_
    exact zT_ret rfl rfl
  refine zT_here (pc2 := 493) rfl ?_
  refine zT_gos (f := 200000) (pc2 := 500) (ls2 := [(4, .int 0), (3, .ref 232), (2, .ref 162), (1, .ref 0), (0, .ref 11)]) (st2 := [.int (xs 1), .ref 162, .int 0]) (h2 := zH0) (dc2 := 117) (ds2 := 29934) 6 rfl ?_
  refine zT_val h1 ?_
  refine zT_gos (f := 200000) (pc2 := 506) (ls2 := [(4, .int 0), (3, .ref 232), (2, .ref 162), (1, .ref 0), (0, .ref 11)]) (st2 := [.int (xs 2), .int 2, .ref 162, .int 0]) (h2 := zH0) (dc2 := 117) (ds2 := 29934) 5 rfl ?_
  refine zT_call (v := some (.int 0)) (h2 := zH0) (d1 := 0) (s1 := 0) rfl rfl ?_ ?_
  · refine zT_gos (f := 200000) (pc2 := 15) (ls2 := [(0, .ref 162), (1, .int 2), (2, .int (xs 2))]) (st2 := [.int (xs 2), .int 2, .ref 162]) (h2 := zH0) (dc2 := 0) (ds2 := 0) 9 rfl ?_
    refine zT_call (v := some (.int 0)) (h2 := zH0) (d1 := 0) (s1 := 0) rfl rfl ?_ ?_
    · refine zT_gos (f := 200000) (pc2 := 7) (ls2 := [(0, .ref 162), (1, .int 2), (2, .int (xs 2))]) (st2 := [.int (-32), .int (xs 2)]) (h2 := zH0) (dc2 := 0) (ds2 := 0) 5 rfl ?_
      refine zT_if2 true rfl (zc_lt_t (by show ((xs 2) : Int32).toInt < -32; omega)) ?_
      refine zT_here (pc2 := 24) rfl ?_
      refine zT_gos (f := 200000) (pc2 := 25) (ls2 := [(0, .ref 162), (1, .int 2), (2, .int (xs 2))]) (st2 := [.int 0]) (h2 := zH0) (dc2 := 0) (ds2 := 0) 1 rfl ?_
      exact zT_ret rfl rfl
    refine zT_here (pc2 := 18) rfl ?_
    refine zT_gos (f := 200000) (pc2 := 22) (ls2 := [(0, .ref 162), (1, .int 2), (2, .int (xs 2))]) (st2 := [.int 0]) (h2 := zH0) (dc2 := 0) (ds2 := 0) 2 rfl ?_
    exact zT_ret rfl rfl
  refine zT_here (pc2 := 509) rfl ?_
  refine zT_gos (f := 200000) (pc2 := 1811) (ls2 := [(4, .int 6), (3, .ref 232), (2, .ref 162), (1, .ref 0), (0, .ref 11)]) (st2 := [.int 1]) (h2 := zH0) (dc2 := 117) (ds2 := 29934) 10 rfl ?_
  exact zT_ret rfl rfl
set_option maxRecDepth 1000000 in
set_option maxHeartbeats 4000000 in
theorem zo_6_9 (xs : Nat → Int32) (h0 : xs 0 &&& 63 = 6) (h1 : xs 1 = 2) (h2 : 31 < (xs 2).toInt) : zDone xs := by
  refine ⟨zH0, 117, 29934, ?_, by decide, by decide⟩
  refine zT_gos (f := 200000) (pc2 := 37) (ls2 := [(4, .int 0), (3, .ref 232), (2, .ref 162), (1, .ref 0), (0, .ref 11)]) (st2 := [.int (xs 0)]) (h2 := zH0) (dc2 := 117) (ds2 := 29934) 9 rfl ?_
  refine zT_gos (f := 200000) (pc2 := 40) (ls2 := [(4, .int 0), (3, .ref 232), (2, .ref 162), (1, .ref 0), (0, .ref 11)]) (st2 := [.int ((xs 0) &&& (63 : Int32))]) (h2 := zH0) (dc2 := 117) (ds2 := 29934) 2 rfl ?_
  refine zT_val h0 ?_
  refine zT_gos (f := 200000) (pc2 := 484) (ls2 := [(4, .int 0), (3, .ref 232), (2, .ref 162), (1, .ref 0), (0, .ref 11)]) (st2 := [.int (xs 1), .ref 0]) (h2 := zH0) (dc2 := 117) (ds2 := 29934) 7 rfl ?_
  refine zT_val h1 ?_
  refine zT_gos (f := 200000) (pc2 := 490) (ls2 := [(4, .int 0), (3, .ref 232), (2, .ref 162), (1, .ref 0), (0, .ref 11)]) (st2 := [.int (xs 2), .int 2, .ref 0]) (h2 := zH0) (dc2 := 117) (ds2 := 29934) 5 rfl ?_
  refine zT_call (v := some (.int 0)) (h2 := zH0) (d1 := 0) (s1 := 0) rfl rfl ?_ ?_
  · refine zT_gos (f := 200000) (pc2 := 13) (ls2 := [(0, .ref 0), (1, .int 2), (2, .int (xs 2))]) (st2 := [.int (xs 2), .int 2, .ref 6]) (h2 := zH0) (dc2 := 0) (ds2 := 0) 7 rfl ?_
    refine zT_call (v := some (.int 0)) (h2 := zH0) (d1 := 0) (s1 := 0) rfl rfl ?_ ?_
    · refine zT_gos (f := 200000) (pc2 := 7) (ls2 := [(0, .ref 6), (1, .int 2), (2, .int (xs 2))]) (st2 := [.int (-32), .int (xs 2)]) (h2 := zH0) (dc2 := 0) (ds2 := 0) 5 rfl ?_
      refine zT_if2 false rfl (zc_lt_f (by show ((xs 2) : Int32).toInt ≥ -32; omega)) ?_
      refine zT_here (pc2 := 10) rfl ?_
      refine zT_gos (f := 200000) (pc2 := 17) (ls2 := [(0, .ref 6), (1, .int 2), (2, .int (xs 2))]) (st2 := [.int 31, .int (xs 2)]) (h2 := zH0) (dc2 := 0) (ds2 := 0) 5 rfl ?_
      refine zT_if2 true rfl (zc_gt_t (by show ((xs 2) : Int32).toInt > 31; omega)) ?_
      refine zT_here (pc2 := 24) rfl ?_
      refine zT_gos (f := 200000) (pc2 := 25) (ls2 := [(0, .ref 6), (1, .int 2), (2, .int (xs 2))]) (st2 := [.int 0]) (h2 := zH0) (dc2 := 0) (ds2 := 0) 1 rfl ?_
      exact zT_ret rfl rfl
    refine zT_here (pc2 := 16) rfl ?_
    refine zT_gos (f := 200000) (pc2 := 20) (ls2 := [(0, .ref 0), (1, .int 2), (2, .int (xs 2))]) (st2 := [.int 0]) (h2 := zH0) (dc2 := 0) (ds2 := 0) 2 rfl ?_
    exact zT_ret rfl rfl
  refine zT_here (pc2 := 493) rfl ?_
  refine zT_gos (f := 200000) (pc2 := 500) (ls2 := [(4, .int 0), (3, .ref 232), (2, .ref 162), (1, .ref 0), (0, .ref 11)]) (st2 := [.int (xs 1), .ref 162, .int 0]) (h2 := zH0) (dc2 := 117) (ds2 := 29934) 6 rfl ?_
  refine zT_val h1 ?_
  refine zT_gos (f := 200000) (pc2 := 506) (ls2 := [(4, .int 0), (3, .ref 232), (2, .ref 162), (1, .ref 0), (0, .ref 11)]) (st2 := [.int (xs 2), .int 2, .ref 162, .int 0]) (h2 := zH0) (dc2 := 117) (ds2 := 29934) 5 rfl ?_
  refine zT_call (v := some (.int 0)) (h2 := zH0) (d1 := 0) (s1 := 0) rfl rfl ?_ ?_
  · refine zT_gos (f := 200000) (pc2 := 15) (ls2 := [(0, .ref 162), (1, .int 2), (2, .int (xs 2))]) (st2 := [.int (xs 2), .int 2, .ref 162]) (h2 := zH0) (dc2 := 0) (ds2 := 0) 9 rfl ?_
    refine zT_call (v := some (.int 0)) (h2 := zH0) (d1 := 0) (s1 := 0) rfl rfl ?_ ?_
    · refine zT_gos (f := 200000) (pc2 := 7) (ls2 := [(0, .ref 162), (1, .int 2), (2, .int (xs 2))]) (st2 := [.int (-32), .int (xs 2)]) (h2 := zH0) (dc2 := 0) (ds2 := 0) 5 rfl ?_
      refine zT_if2 false rfl (zc_lt_f (by show ((xs 2) : Int32).toInt ≥ -32; omega)) ?_
      refine zT_here (pc2 := 10) rfl ?_
      refine zT_gos (f := 200000) (pc2 := 17) (ls2 := [(0, .ref 162), (1, .int 2), (2, .int (xs 2))]) (st2 := [.int 31, .int (xs 2)]) (h2 := zH0) (dc2 := 0) (ds2 := 0) 5 rfl ?_
      refine zT_if2 true rfl (zc_gt_t (by show ((xs 2) : Int32).toInt > 31; omega)) ?_
      refine zT_here (pc2 := 24) rfl ?_
      refine zT_gos (f := 200000) (pc2 := 25) (ls2 := [(0, .ref 162), (1, .int 2), (2, .int (xs 2))]) (st2 := [.int 0]) (h2 := zH0) (dc2 := 0) (ds2 := 0) 1 rfl ?_
      exact zT_ret rfl rfl
    refine zT_here (pc2 := 18) rfl ?_
    refine zT_gos (f := 200000) (pc2 := 22) (ls2 := [(0, .ref 162), (1, .int 2), (2, .int (xs 2))]) (st2 := [.int 0]) (h2 := zH0) (dc2 := 0) (ds2 := 0) 2 rfl ?_
    exact zT_ret rfl rfl
  refine zT_here (pc2 := 509) rfl ?_
  refine zT_gos (f := 200000) (pc2 := 1811) (ls2 := [(4, .int 6), (3, .ref 232), (2, .ref 162), (1, .ref 0), (0, .ref 11)]) (st2 := [.int 1]) (h2 := zH0) (dc2 := 117) (ds2 := 29934) 10 rfl ?_
  exact zT_ret rfl rfl
set_option maxRecDepth 1000000 in
set_option maxHeartbeats 4000000 in
theorem zo_6_11 (xs : Nat → Int32) (h0 : xs 0 &&& 63 = 6) (h1 : xs 1 = 3) (h2 : (xs 2).toInt < -32) : zDone xs := by
  refine ⟨zH0, 117, 29934, ?_, by decide, by decide⟩
  refine zT_gos (f := 200000) (pc2 := 37) (ls2 := [(4, .int 0), (3, .ref 232), (2, .ref 162), (1, .ref 0), (0, .ref 11)]) (st2 := [.int (xs 0)]) (h2 := zH0) (dc2 := 117) (ds2 := 29934) 9 rfl ?_
  refine zT_gos (f := 200000) (pc2 := 40) (ls2 := [(4, .int 0), (3, .ref 232), (2, .ref 162), (1, .ref 0), (0, .ref 11)]) (st2 := [.int ((xs 0) &&& (63 : Int32))]) (h2 := zH0) (dc2 := 117) (ds2 := 29934) 2 rfl ?_
  refine zT_val h0 ?_
  refine zT_gos (f := 200000) (pc2 := 484) (ls2 := [(4, .int 0), (3, .ref 232), (2, .ref 162), (1, .ref 0), (0, .ref 11)]) (st2 := [.int (xs 1), .ref 0]) (h2 := zH0) (dc2 := 117) (ds2 := 29934) 7 rfl ?_
  refine zT_val h1 ?_
  refine zT_gos (f := 200000) (pc2 := 490) (ls2 := [(4, .int 0), (3, .ref 232), (2, .ref 162), (1, .ref 0), (0, .ref 11)]) (st2 := [.int (xs 2), .int 3, .ref 0]) (h2 := zH0) (dc2 := 117) (ds2 := 29934) 5 rfl ?_
  refine zT_call (v := some (.int 0)) (h2 := zH0) (d1 := 0) (s1 := 0) rfl rfl ?_ ?_
  · refine zT_gos (f := 200000) (pc2 := 13) (ls2 := [(0, .ref 0), (1, .int 3), (2, .int (xs 2))]) (st2 := [.int (xs 2), .int 3, .ref 6]) (h2 := zH0) (dc2 := 0) (ds2 := 0) 7 rfl ?_
    refine zT_call (v := some (.int 0)) (h2 := zH0) (d1 := 0) (s1 := 0) rfl rfl ?_ ?_
    · refine zT_gos (f := 200000) (pc2 := 7) (ls2 := [(0, .ref 6), (1, .int 3), (2, .int (xs 2))]) (st2 := [.int (-32), .int (xs 2)]) (h2 := zH0) (dc2 := 0) (ds2 := 0) 5 rfl ?_
      refine zT_if2 true rfl (zc_lt_t (by show ((xs 2) : Int32).toInt < -32; omega)) ?_
      refine zT_here (pc2 := 24) rfl ?_
      refine zT_gos (f := 200000) (pc2 := 25) (ls2 := [(0, .ref 6), (1, .int 3), (2, .int (xs 2))]) (st2 := [.int 0]) (h2 := zH0) (dc2 := 0) (ds2 := 0) 1 rfl ?_
      exact zT_ret rfl rfl
    refine zT_here (pc2 := 16) rfl ?_
    refine zT_gos (f := 200000) (pc2 := 20) (ls2 := [(0, .ref 0), (1, .int 3), (2, .int (xs 2))]) (st2 := [.int 0]) (h2 := zH0) (dc2 := 0) (ds2 := 0) 2 rfl ?_
    exact zT_ret rfl rfl
  refine zT_here (pc2 := 493) rfl ?_
  refine zT_gos (f := 200000) (pc2 := 500) (ls2 := [(4, .int 0), (3, .ref 232), (2, .ref 162), (1, .ref 0), (0, .ref 11)]) (st2 := [.int (xs 1), .ref 162, .int 0]) (h2 := zH0) (dc2 := 117) (ds2 := 29934) 6 rfl ?_
  refine zT_val h1 ?_
  refine zT_gos (f := 200000) (pc2 := 506) (ls2 := [(4, .int 0), (3, .ref 232), (2, .ref 162), (1, .ref 0), (0, .ref 11)]) (st2 := [.int (xs 2), .int 3, .ref 162, .int 0]) (h2 := zH0) (dc2 := 117) (ds2 := 29934) 5 rfl ?_
  refine zT_call (v := some (.int 0)) (h2 := zH0) (d1 := 0) (s1 := 0) rfl rfl ?_ ?_
  · refine zT_gos (f := 200000) (pc2 := 15) (ls2 := [(0, .ref 162), (1, .int 3), (2, .int (xs 2))]) (st2 := [.int (xs 2), .int 3, .ref 162]) (h2 := zH0) (dc2 := 0) (ds2 := 0) 9 rfl ?_
    refine zT_call (v := some (.int 0)) (h2 := zH0) (d1 := 0) (s1 := 0) rfl rfl ?_ ?_
    · refine zT_gos (f := 200000) (pc2 := 7) (ls2 := [(0, .ref 162), (1, .int 3), (2, .int (xs 2))]) (st2 := [.int (-32), .int (xs 2)]) (h2 := zH0) (dc2 := 0) (ds2 := 0) 5 rfl ?_
      refine zT_if2 true rfl (zc_lt_t (by show ((xs 2) : Int32).toInt < -32; omega)) ?_
      refine zT_here (pc2 := 24) rfl ?_
      refine zT_gos (f := 200000) (pc2 := 25) (ls2 := [(0, .ref 162), (1, .int 3), (2, .int (xs 2))]) (st2 := [.int 0]) (h2 := zH0) (dc2 := 0) (ds2 := 0) 1 rfl ?_
      exact zT_ret rfl rfl
    refine zT_here (pc2 := 18) rfl ?_
    refine zT_gos (f := 200000) (pc2 := 22) (ls2 := [(0, .ref 162), (1, .int 3), (2, .int (xs 2))]) (st2 := [.int 0]) (h2 := zH0) (dc2 := 0) (ds2 := 0) 2 rfl ?_
    exact zT_ret rfl rfl
  refine zT_here (pc2 := 509) rfl ?_
  refine zT_gos (f := 200000) (pc2 := 1811) (ls2 := [(4, .int 6), (3, .ref 232), (2, .ref 162), (1, .ref 0), (0, .ref 11)]) (st2 := [.int 1]) (h2 := zH0) (dc2 := 117) (ds2 := 29934) 10 rfl ?_
  exact zT_ret rfl rfl
set_option maxRecDepth 1000000 in
set_option maxHeartbeats 4000000 in
theorem zo_6_12 (xs : Nat → Int32) (h0 : xs 0 &&& 63 = 6) (h1 : xs 1 = 3) (h2 : 31 < (xs 2).toInt) : zDone xs := by
  refine ⟨zH0, 117, 29934, ?_, by decide, by decide⟩
  refine zT_gos (f := 200000) (pc2 := 37) (ls2 := [(4, .int 0), (3, .ref 232), (2, .ref 162), (1, .ref 0), (0, .ref 11)]) (st2 := [.int (xs 0)]) (h2 := zH0) (dc2 := 117) (ds2 := 29934) 9 rfl ?_
  refine zT_gos (f := 200000) (pc2 := 40) (ls2 := [(4, .int 0), (3, .ref 232), (2, .ref 162), (1, .ref 0), (0, .ref 11)]) (st2 := [.int ((xs 0) &&& (63 : Int32))]) (h2 := zH0) (dc2 := 117) (ds2 := 29934) 2 rfl ?_
  refine zT_val h0 ?_
  refine zT_gos (f := 200000) (pc2 := 484) (ls2 := [(4, .int 0), (3, .ref 232), (2, .ref 162), (1, .ref 0), (0, .ref 11)]) (st2 := [.int (xs 1), .ref 0]) (h2 := zH0) (dc2 := 117) (ds2 := 29934) 7 rfl ?_
  refine zT_val h1 ?_
  refine zT_gos (f := 200000) (pc2 := 490) (ls2 := [(4, .int 0), (3, .ref 232), (2, .ref 162), (1, .ref 0), (0, .ref 11)]) (st2 := [.int (xs 2), .int 3, .ref 0]) (h2 := zH0) (dc2 := 117) (ds2 := 29934) 5 rfl ?_
  refine zT_call (v := some (.int 0)) (h2 := zH0) (d1 := 0) (s1 := 0) rfl rfl ?_ ?_
  · refine zT_gos (f := 200000) (pc2 := 13) (ls2 := [(0, .ref 0), (1, .int 3), (2, .int (xs 2))]) (st2 := [.int (xs 2), .int 3, .ref 6]) (h2 := zH0) (dc2 := 0) (ds2 := 0) 7 rfl ?_
    refine zT_call (v := some (.int 0)) (h2 := zH0) (d1 := 0) (s1 := 0) rfl rfl ?_ ?_
    · refine zT_gos (f := 200000) (pc2 := 7) (ls2 := [(0, .ref 6), (1, .int 3), (2, .int (xs 2))]) (st2 := [.int (-32), .int (xs 2)]) (h2 := zH0) (dc2 := 0) (ds2 := 0) 5 rfl ?_
      refine zT_if2 false rfl (zc_lt_f (by show ((xs 2) : Int32).toInt ≥ -32; omega)) ?_
      refine zT_here (pc2 := 10) rfl ?_
      refine zT_gos (f := 200000) (pc2 := 17) (ls2 := [(0, .ref 6), (1, .int 3), (2, .int (xs 2))]) (st2 := [.int 31, .int (xs 2)]) (h2 := zH0) (dc2 := 0) (ds2 := 0) 5 rfl ?_
      refine zT_if2 true rfl (zc_gt_t (by show ((xs 2) : Int32).toInt > 31; omega)) ?_
      refine zT_here (pc2 := 24) rfl ?_
      refine zT_gos (f := 200000) (pc2 := 25) (ls2 := [(0, .ref 6), (1, .int 3), (2, .int (xs 2))]) (st2 := [.int 0]) (h2 := zH0) (dc2 := 0) (ds2 := 0) 1 rfl ?_
      exact zT_ret rfl rfl
    refine zT_here (pc2 := 16) rfl ?_
    refine zT_gos (f := 200000) (pc2 := 20) (ls2 := [(0, .ref 0), (1, .int 3), (2, .int (xs 2))]) (st2 := [.int 0]) (h2 := zH0) (dc2 := 0) (ds2 := 0) 2 rfl ?_
    exact zT_ret rfl rfl
  refine zT_here (pc2 := 493) rfl ?_
  refine zT_gos (f := 200000) (pc2 := 500) (ls2 := [(4, .int 0), (3, .ref 232), (2, .ref 162), (1, .ref 0), (0, .ref 11)]) (st2 := [.int (xs 1), .ref 162, .int 0]) (h2 := zH0) (dc2 := 117) (ds2 := 29934) 6 rfl ?_
  refine zT_val h1 ?_
  refine zT_gos (f := 200000) (pc2 := 506) (ls2 := [(4, .int 0), (3, .ref 232), (2, .ref 162), (1, .ref 0), (0, .ref 11)]) (st2 := [.int (xs 2), .int 3, .ref 162, .int 0]) (h2 := zH0) (dc2 := 117) (ds2 := 29934) 5 rfl ?_
  refine zT_call (v := some (.int 0)) (h2 := zH0) (d1 := 0) (s1 := 0) rfl rfl ?_ ?_
  · refine zT_gos (f := 200000) (pc2 := 15) (ls2 := [(0, .ref 162), (1, .int 3), (2, .int (xs 2))]) (st2 := [.int (xs 2), .int 3, .ref 162]) (h2 := zH0) (dc2 := 0) (ds2 := 0) 9 rfl ?_
    refine zT_call (v := some (.int 0)) (h2 := zH0) (d1 := 0) (s1 := 0) rfl rfl ?_ ?_
    · refine zT_gos (f := 200000) (pc2 := 7) (ls2 := [(0, .ref 162), (1, .int 3), (2, .int (xs 2))]) (st2 := [.int (-32), .int (xs 2)]) (h2 := zH0) (dc2 := 0) (ds2 := 0) 5 rfl ?_
      refine zT_if2 false rfl (zc_lt_f (by show ((xs 2) : Int32).toInt ≥ -32; omega)) ?_
      refine zT_here (pc2 := 10) rfl ?_
      refine zT_gos (f := 200000) (pc2 := 17) (ls2 := [(0, .ref 162), (1, .int 3), (2, .int (xs 2))]) (st2 := [.int 31, .int (xs 2)]) (h2 := zH0) (dc2 := 0) (ds2 := 0) 5 rfl ?_
      refine zT_if2 true rfl (zc_gt_t (by show ((xs 2) : Int32).toInt > 31; omega)) ?_
      refine zT_here (pc2 := 24) rfl ?_
      refine zT_gos (f := 200000) (pc2 := 25) (ls2 := [(0, .ref 162), (1, .int 3), (2, .int (xs 2))]) (st2 := [.int 0]) (h2 := zH0) (dc2 := 0) (ds2 := 0) 1 rfl ?_
      exact zT_ret rfl rfl
    refine zT_here (pc2 := 18) rfl ?_
    refine zT_gos (f := 200000) (pc2 := 22) (ls2 := [(0, .ref 162), (1, .int 3), (2, .int (xs 2))]) (st2 := [.int 0]) (h2 := zH0) (dc2 := 0) (ds2 := 0) 2 rfl ?_
    exact zT_ret rfl rfl
  refine zT_here (pc2 := 509) rfl ?_
  refine zT_gos (f := 200000) (pc2 := 1811) (ls2 := [(4, .int 6), (3, .ref 232), (2, .ref 162), (1, .ref 0), (0, .ref 11)]) (st2 := [.int 1]) (h2 := zH0) (dc2 := 117) (ds2 := 29934) 10 rfl ?_
  exact zT_ret rfl rfl
set_option maxRecDepth 1000000 in
set_option maxHeartbeats 4000000 in
theorem zo_6_14 (xs : Nat → Int32) (h0 : xs 0 &&& 63 = 6) (h1 : xs 1 = 4) (h2 : (xs 2).toInt < -32) : zDone xs := by
  refine ⟨zH0, 117, 29934, ?_, by decide, by decide⟩
  refine zT_gos (f := 200000) (pc2 := 37) (ls2 := [(4, .int 0), (3, .ref 232), (2, .ref 162), (1, .ref 0), (0, .ref 11)]) (st2 := [.int (xs 0)]) (h2 := zH0) (dc2 := 117) (ds2 := 29934) 9 rfl ?_
  refine zT_gos (f := 200000) (pc2 := 40) (ls2 := [(4, .int 0), (3, .ref 232), (2, .ref 162), (1, .ref 0), (0, .ref 11)]) (st2 := [.int ((xs 0) &&& (63 : Int32))]) (h2 := zH0) (dc2 := 117) (ds2 := 29934) 2 rfl ?_
  refine zT_val h0 ?_
  refine zT_gos (f := 200000) (pc2 := 484) (ls2 := [(4, .int 0), (3, .ref 232), (2, .ref 162), (1, .ref 0), (0, .ref 11)]) (st2 := [.int (xs 1), .ref 0]) (h2 := zH0) (dc2 := 117) (ds2 := 29934) 7 rfl ?_
  refine zT_val h1 ?_
  refine zT_gos (f := 200000) (pc2 := 490) (ls2 := [(4, .int 0), (3, .ref 232), (2, .ref 162), (1, .ref 0), (0, .ref 11)]) (st2 := [.int (xs 2), .int 4, .ref 0]) (h2 := zH0) (dc2 := 117) (ds2 := 29934) 5 rfl ?_
  refine zT_call (v := some (.int 0)) (h2 := zH0) (d1 := 0) (s1 := 0) rfl rfl ?_ ?_
  · refine zT_gos (f := 200000) (pc2 := 13) (ls2 := [(0, .ref 0), (1, .int 4), (2, .int (xs 2))]) (st2 := [.int (xs 2), .int 4, .ref 6]) (h2 := zH0) (dc2 := 0) (ds2 := 0) 7 rfl ?_
    refine zT_call (v := some (.int 0)) (h2 := zH0) (d1 := 0) (s1 := 0) rfl rfl ?_ ?_
    · refine zT_gos (f := 200000) (pc2 := 7) (ls2 := [(0, .ref 6), (1, .int 4), (2, .int (xs 2))]) (st2 := [.int (-32), .int (xs 2)]) (h2 := zH0) (dc2 := 0) (ds2 := 0) 5 rfl ?_
      refine zT_if2 true rfl (zc_lt_t (by show ((xs 2) : Int32).toInt < -32; omega)) ?_
      refine zT_here (pc2 := 24) rfl ?_
      refine zT_gos (f := 200000) (pc2 := 25) (ls2 := [(0, .ref 6), (1, .int 4), (2, .int (xs 2))]) (st2 := [.int 0]) (h2 := zH0) (dc2 := 0) (ds2 := 0) 1 rfl ?_
      exact zT_ret rfl rfl
    refine zT_here (pc2 := 16) rfl ?_
    refine zT_gos (f := 200000) (pc2 := 20) (ls2 := [(0, .ref 0), (1, .int 4), (2, .int (xs 2))]) (st2 := [.int 0]) (h2 := zH0) (dc2 := 0) (ds2 := 0) 2 rfl ?_
    exact zT_ret rfl rfl
  refine zT_here (pc2 := 493) rfl ?_
  refine zT_gos (f := 200000) (pc2 := 500) (ls2 := [(4, .int 0), (3, .ref 232), (2, .ref 162), (1, .ref 0), (0, .ref 11)]) (st2 := [.int (xs 1), .ref 162, .int 0]) (h2 := zH0) (dc2 := 117) (ds2 := 29934) 6 rfl ?_
  refine zT_val h1 ?_
  refine zT_gos (f := 200000) (pc2 := 506) (ls2 := [(4, .int 0), (3, .ref 232), (2, .ref 162), (1, .ref 0), (0, .ref 11)]) (st2 := [.int (xs 2), .int 4, .ref 162, .int 0]) (h2 := zH0) (dc2 := 117) (ds2 := 29934) 5 rfl ?_
  refine zT_call (v := some (.int 0)) (h2 := zH0) (d1 := 0) (s1 := 0) rfl rfl ?_ ?_
  · refine zT_gos (f := 200000) (pc2 := 15) (ls2 := [(0, .ref 162), (1, .int 4), (2, .int (xs 2))]) (st2 := [.int (xs 2), .int 4, .ref 162]) (h2 := zH0) (dc2 := 0) (ds2 := 0) 9 rfl ?_
    refine zT_call (v := some (.int 0)) (h2 := zH0) (d1 := 0) (s1 := 0) rfl rfl ?_ ?_
    · refine zT_gos (f := 200000) (pc2 := 7) (ls2 := [(0, .ref 162), (1, .int 4), (2, .int (xs 2))]) (st2 := [.int (-32), .int (xs 2)]) (h2 := zH0) (dc2 := 0) (ds2 := 0) 5 rfl ?_
      refine zT_if2 true rfl (zc_lt_t (by show ((xs 2) : Int32).toInt < -32; omega)) ?_
      refine zT_here (pc2 := 24) rfl ?_
      refine zT_gos (f := 200000) (pc2 := 25) (ls2 := [(0, .ref 162), (1, .int 4), (2, .int (xs 2))]) (st2 := [.int 0]) (h2 := zH0) (dc2 := 0) (ds2 := 0) 1 rfl ?_
      exact zT_ret rfl rfl
    refine zT_here (pc2 := 18) rfl ?_
    refine zT_gos (f := 200000) (pc2 := 22) (ls2 := [(0, .ref 162), (1, .int 4), (2, .int (xs 2))]) (st2 := [.int 0]) (h2 := zH0) (dc2 := 0) (ds2 := 0) 2 rfl ?_
    exact zT_ret rfl rfl
  refine zT_here (pc2 := 509) rfl ?_
  refine zT_gos (f := 200000) (pc2 := 1811) (ls2 := [(4, .int 6), (3, .ref 232), (2, .ref 162), (1, .ref 0), (0, .ref 11)]) (st2 := [.int 1]) (h2 := zH0) (dc2 := 117) (ds2 := 29934) 10 rfl ?_
  exact zT_ret rfl rfl
set_option maxRecDepth 1000000 in
set_option maxHeartbeats 4000000 in
theorem zo_6_15 (xs : Nat → Int32) (h0 : xs 0 &&& 63 = 6) (h1 : xs 1 = 4) (h2 : 31 < (xs 2).toInt) : zDone xs := by
  refine ⟨zH0, 117, 29934, ?_, by decide, by decide⟩
  refine zT_gos (f := 200000) (pc2 := 37) (ls2 := [(4, .int 0), (3, .ref 232), (2, .ref 162), (1, .ref 0), (0, .ref 11)]) (st2 := [.int (xs 0)]) (h2 := zH0) (dc2 := 117) (ds2 := 29934) 9 rfl ?_
  refine zT_gos (f := 200000) (pc2 := 40) (ls2 := [(4, .int 0), (3, .ref 232), (2, .ref 162), (1, .ref 0), (0, .ref 11)]) (st2 := [.int ((xs 0) &&& (63 : Int32))]) (h2 := zH0) (dc2 := 117) (ds2 := 29934) 2 rfl ?_
  refine zT_val h0 ?_
  refine zT_gos (f := 200000) (pc2 := 484) (ls2 := [(4, .int 0), (3, .ref 232), (2, .ref 162), (1, .ref 0), (0, .ref 11)]) (st2 := [.int (xs 1), .ref 0]) (h2 := zH0) (dc2 := 117) (ds2 := 29934) 7 rfl ?_
  refine zT_val h1 ?_
  refine zT_gos (f := 200000) (pc2 := 490) (ls2 := [(4, .int 0), (3, .ref 232), (2, .ref 162), (1, .ref 0), (0, .ref 11)]) (st2 := [.int (xs 2), .int 4, .ref 0]) (h2 := zH0) (dc2 := 117) (ds2 := 29934) 5 rfl ?_
  refine zT_call (v := some (.int 0)) (h2 := zH0) (d1 := 0) (s1 := 0) rfl rfl ?_ ?_
  · refine zT_gos (f := 200000) (pc2 := 13) (ls2 := [(0, .ref 0), (1, .int 4), (2, .int (xs 2))]) (st2 := [.int (xs 2), .int 4, .ref 6]) (h2 := zH0) (dc2 := 0) (ds2 := 0) 7 rfl ?_
    refine zT_call (v := some (.int 0)) (h2 := zH0) (d1 := 0) (s1 := 0) rfl rfl ?_ ?_
    · refine zT_gos (f := 200000) (pc2 := 7) (ls2 := [(0, .ref 6), (1, .int 4), (2, .int (xs 2))]) (st2 := [.int (-32), .int (xs 2)]) (h2 := zH0) (dc2 := 0) (ds2 := 0) 5 rfl ?_
      refine zT_if2 false rfl (zc_lt_f (by show ((xs 2) : Int32).toInt ≥ -32; omega)) ?_
      refine zT_here (pc2 := 10) rfl ?_
      refine zT_gos (f := 200000) (pc2 := 17) (ls2 := [(0, .ref 6), (1, .int 4), (2, .int (xs 2))]) (st2 := [.int 31, .int (xs 2)]) (h2 := zH0) (dc2 := 0) (ds2 := 0) 5 rfl ?_
      refine zT_if2 true rfl (zc_gt_t (by show ((xs 2) : Int32).toInt > 31; omega)) ?_
      refine zT_here (pc2 := 24) rfl ?_
      refine zT_gos (f := 200000) (pc2 := 25) (ls2 := [(0, .ref 6), (1, .int 4), (2, .int (xs 2))]) (st2 := [.int 0]) (h2 := zH0) (dc2 := 0) (ds2 := 0) 1 rfl ?_
      exact zT_ret rfl rfl
    refine zT_here (pc2 := 16) rfl ?_
    refine zT_gos (f := 200000) (pc2 := 20) (ls2 := [(0, .ref 0), (1, .int 4), (2, .int (xs 2))]) (st2 := [.int 0]) (h2 := zH0) (dc2 := 0) (ds2 := 0) 2 rfl ?_
    exact zT_ret rfl rfl
  refine zT_here (pc2 := 493) rfl ?_
  refine zT_gos (f := 200000) (pc2 := 500) (ls2 := [(4, .int 0), (3, .ref 232), (2, .ref 162), (1, .ref 0), (0, .ref 11)]) (st2 := [.int (xs 1), .ref 162, .int 0]) (h2 := zH0) (dc2 := 117) (ds2 := 29934) 6 rfl ?_
  refine zT_val h1 ?_
  refine zT_gos (f := 200000) (pc2 := 506) (ls2 := [(4, .int 0), (3, .ref 232), (2, .ref 162), (1, .ref 0), (0, .ref 11)]) (st2 := [.int (xs 2), .int 4, .ref 162, .int 0]) (h2 := zH0) (dc2 := 117) (ds2 := 29934) 5 rfl ?_
  refine zT_call (v := some (.int 0)) (h2 := zH0) (d1 := 0) (s1 := 0) rfl rfl ?_ ?_
  · refine zT_gos (f := 200000) (pc2 := 15) (ls2 := [(0, .ref 162), (1, .int 4), (2, .int (xs 2))]) (st2 := [.int (xs 2), .int 4, .ref 162]) (h2 := zH0) (dc2 := 0) (ds2 := 0) 9 rfl ?_
    refine zT_call (v := some (.int 0)) (h2 := zH0) (d1 := 0) (s1 := 0) rfl rfl ?_ ?_
    · refine zT_gos (f := 200000) (pc2 := 7) (ls2 := [(0, .ref 162), (1, .int 4), (2, .int (xs 2))]) (st2 := [.int (-32), .int (xs 2)]) (h2 := zH0) (dc2 := 0) (ds2 := 0) 5 rfl ?_
      refine zT_if2 false rfl (zc_lt_f (by show ((xs 2) : Int32).toInt ≥ -32; omega)) ?_
      refine zT_here (pc2 := 10) rfl ?_
      refine zT_gos (f := 200000) (pc2 := 17) (ls2 := [(0, .ref 162), (1, .int 4), (2, .int (xs 2))]) (st2 := [.int 31, .int (xs 2)]) (h2 := zH0) (dc2 := 0) (ds2 := 0) 5 rfl ?_
      refine zT_if2 true rfl (zc_gt_t (by show ((xs 2) : Int32).toInt > 31; omega)) ?_
      refine zT_here (pc2 := 24) rfl ?_
      refine zT_gos (f := 200000) (pc2 := 25) (ls2 := [(0, .ref 162), (1, .int 4), (2, .int (xs 2))]) (st2 := [.int 0]) (h2 := zH0) (dc2 := 0) (ds2 := 0) 1 rfl ?_
      exact zT_ret rfl rfl
    refine zT_here (pc2 := 18) rfl ?_
    refine zT_gos (f := 200000) (pc2 := 22) (ls2 := [(0, .ref 162), (1, .int 4), (2, .int (xs 2))]) (st2 := [.int 0]) (h2 := zH0) (dc2 := 0) (ds2 := 0) 2 rfl ?_
    exact zT_ret rfl rfl
  refine zT_here (pc2 := 509) rfl ?_
  refine zT_gos (f := 200000) (pc2 := 1811) (ls2 := [(4, .int 6), (3, .ref 232), (2, .ref 162), (1, .ref 0), (0, .ref 11)]) (st2 := [.int 1]) (h2 := zH0) (dc2 := 117) (ds2 := 29934) 10 rfl ?_
  exact zT_ret rfl rfl
set_option maxRecDepth 1000000 in
set_option maxHeartbeats 4000000 in
theorem zo_6_17 (xs : Nat → Int32) (h0 : xs 0 &&& 63 = 6) (h1 : xs 1 = 5) (h2 : (xs 2).toInt < -64) : zDone xs := by
  refine ⟨zH0, 117, 29934, ?_, by decide, by decide⟩
  refine zT_gos (f := 200000) (pc2 := 37) (ls2 := [(4, .int 0), (3, .ref 232), (2, .ref 162), (1, .ref 0), (0, .ref 11)]) (st2 := [.int (xs 0)]) (h2 := zH0) (dc2 := 117) (ds2 := 29934) 9 rfl ?_
  refine zT_gos (f := 200000) (pc2 := 40) (ls2 := [(4, .int 0), (3, .ref 232), (2, .ref 162), (1, .ref 0), (0, .ref 11)]) (st2 := [.int ((xs 0) &&& (63 : Int32))]) (h2 := zH0) (dc2 := 117) (ds2 := 29934) 2 rfl ?_
  refine zT_val h0 ?_
  refine zT_gos (f := 200000) (pc2 := 484) (ls2 := [(4, .int 0), (3, .ref 232), (2, .ref 162), (1, .ref 0), (0, .ref 11)]) (st2 := [.int (xs 1), .ref 0]) (h2 := zH0) (dc2 := 117) (ds2 := 29934) 7 rfl ?_
  refine zT_val h1 ?_
  refine zT_gos (f := 200000) (pc2 := 490) (ls2 := [(4, .int 0), (3, .ref 232), (2, .ref 162), (1, .ref 0), (0, .ref 11)]) (st2 := [.int (xs 2), .int 5, .ref 0]) (h2 := zH0) (dc2 := 117) (ds2 := 29934) 5 rfl ?_
  refine zT_call (v := some (.int 0)) (h2 := zH0) (d1 := 0) (s1 := 0) rfl rfl ?_ ?_
  · refine zT_gos (f := 200000) (pc2 := 13) (ls2 := [(0, .ref 0), (1, .int 5), (2, .int (xs 2))]) (st2 := [.int (xs 2), .int 5, .ref 6]) (h2 := zH0) (dc2 := 0) (ds2 := 0) 7 rfl ?_
    refine zT_call (v := some (.int 0)) (h2 := zH0) (d1 := 0) (s1 := 0) rfl rfl ?_ ?_
    · refine zT_gos (f := 200000) (pc2 := 7) (ls2 := [(0, .ref 6), (1, .int 5), (2, .int (xs 2))]) (st2 := [.int (-64), .int (xs 2)]) (h2 := zH0) (dc2 := 0) (ds2 := 0) 5 rfl ?_
      refine zT_if2 true rfl (zc_lt_t (by show ((xs 2) : Int32).toInt < -64; omega)) ?_
      refine zT_here (pc2 := 24) rfl ?_
      refine zT_gos (f := 200000) (pc2 := 25) (ls2 := [(0, .ref 6), (1, .int 5), (2, .int (xs 2))]) (st2 := [.int 0]) (h2 := zH0) (dc2 := 0) (ds2 := 0) 1 rfl ?_
      exact zT_ret rfl rfl
    refine zT_here (pc2 := 16) rfl ?_
    refine zT_gos (f := 200000) (pc2 := 20) (ls2 := [(0, .ref 0), (1, .int 5), (2, .int (xs 2))]) (st2 := [.int 0]) (h2 := zH0) (dc2 := 0) (ds2 := 0) 2 rfl ?_
    exact zT_ret rfl rfl
  refine zT_here (pc2 := 493) rfl ?_
  refine zT_gos (f := 200000) (pc2 := 500) (ls2 := [(4, .int 0), (3, .ref 232), (2, .ref 162), (1, .ref 0), (0, .ref 11)]) (st2 := [.int (xs 1), .ref 162, .int 0]) (h2 := zH0) (dc2 := 117) (ds2 := 29934) 6 rfl ?_
  refine zT_val h1 ?_
  refine zT_gos (f := 200000) (pc2 := 506) (ls2 := [(4, .int 0), (3, .ref 232), (2, .ref 162), (1, .ref 0), (0, .ref 11)]) (st2 := [.int (xs 2), .int 5, .ref 162, .int 0]) (h2 := zH0) (dc2 := 117) (ds2 := 29934) 5 rfl ?_
  refine zT_call (v := some (.int 0)) (h2 := zH0) (d1 := 0) (s1 := 0) rfl rfl ?_ ?_
  · refine zT_gos (f := 200000) (pc2 := 15) (ls2 := [(0, .ref 162), (1, .int 5), (2, .int (xs 2))]) (st2 := [.int (xs 2), .int 5, .ref 162]) (h2 := zH0) (dc2 := 0) (ds2 := 0) 9 rfl ?_
    refine zT_call (v := some (.int 0)) (h2 := zH0) (d1 := 0) (s1 := 0) rfl rfl ?_ ?_
    · refine zT_gos (f := 200000) (pc2 := 7) (ls2 := [(0, .ref 162), (1, .int 5), (2, .int (xs 2))]) (st2 := [.int (-64), .int (xs 2)]) (h2 := zH0) (dc2 := 0) (ds2 := 0) 5 rfl ?_
      refine zT_if2 true rfl (zc_lt_t (by show ((xs 2) : Int32).toInt < -64; omega)) ?_
      refine zT_here (pc2 := 24) rfl ?_
      refine zT_gos (f := 200000) (pc2 := 25) (ls2 := [(0, .ref 162), (1, .int 5), (2, .int (xs 2))]) (st2 := [.int 0]) (h2 := zH0) (dc2 := 0) (ds2 := 0) 1 rfl ?_
      exact zT_ret rfl rfl
    refine zT_here (pc2 := 18) rfl ?_
    refine zT_gos (f := 200000) (pc2 := 22) (ls2 := [(0, .ref 162), (1, .int 5), (2, .int (xs 2))]) (st2 := [.int 0]) (h2 := zH0) (dc2 := 0) (ds2 := 0) 2 rfl ?_
    exact zT_ret rfl rfl
  refine zT_here (pc2 := 509) rfl ?_
  refine zT_gos (f := 200000) (pc2 := 1811) (ls2 := [(4, .int 6), (3, .ref 232), (2, .ref 162), (1, .ref 0), (0, .ref 11)]) (st2 := [.int 1]) (h2 := zH0) (dc2 := 117) (ds2 := 29934) 10 rfl ?_
  exact zT_ret rfl rfl
set_option maxRecDepth 1000000 in
set_option maxHeartbeats 4000000 in
theorem zo_6_18 (xs : Nat → Int32) (h0 : xs 0 &&& 63 = 6) (h1 : xs 1 = 5) (h2 : 63 < (xs 2).toInt) : zDone xs := by
  refine ⟨zH0, 117, 29934, ?_, by decide, by decide⟩
  refine zT_gos (f := 200000) (pc2 := 37) (ls2 := [(4, .int 0), (3, .ref 232), (2, .ref 162), (1, .ref 0), (0, .ref 11)]) (st2 := [.int (xs 0)]) (h2 := zH0) (dc2 := 117) (ds2 := 29934) 9 rfl ?_
  refine zT_gos (f := 200000) (pc2 := 40) (ls2 := [(4, .int 0), (3, .ref 232), (2, .ref 162), (1, .ref 0), (0, .ref 11)]) (st2 := [.int ((xs 0) &&& (63 : Int32))]) (h2 := zH0) (dc2 := 117) (ds2 := 29934) 2 rfl ?_
  refine zT_val h0 ?_
  refine zT_gos (f := 200000) (pc2 := 484) (ls2 := [(4, .int 0), (3, .ref 232), (2, .ref 162), (1, .ref 0), (0, .ref 11)]) (st2 := [.int (xs 1), .ref 0]) (h2 := zH0) (dc2 := 117) (ds2 := 29934) 7 rfl ?_
  refine zT_val h1 ?_
  refine zT_gos (f := 200000) (pc2 := 490) (ls2 := [(4, .int 0), (3, .ref 232), (2, .ref 162), (1, .ref 0), (0, .ref 11)]) (st2 := [.int (xs 2), .int 5, .ref 0]) (h2 := zH0) (dc2 := 117) (ds2 := 29934) 5 rfl ?_
  refine zT_call (v := some (.int 0)) (h2 := zH0) (d1 := 0) (s1 := 0) rfl rfl ?_ ?_
  · refine zT_gos (f := 200000) (pc2 := 13) (ls2 := [(0, .ref 0), (1, .int 5), (2, .int (xs 2))]) (st2 := [.int (xs 2), .int 5, .ref 6]) (h2 := zH0) (dc2 := 0) (ds2 := 0) 7 rfl ?_
    refine zT_call (v := some (.int 0)) (h2 := zH0) (d1 := 0) (s1 := 0) rfl rfl ?_ ?_
    · refine zT_gos (f := 200000) (pc2 := 7) (ls2 := [(0, .ref 6), (1, .int 5), (2, .int (xs 2))]) (st2 := [.int (-64), .int (xs 2)]) (h2 := zH0) (dc2 := 0) (ds2 := 0) 5 rfl ?_
      refine zT_if2 false rfl (zc_lt_f (by show ((xs 2) : Int32).toInt ≥ -64; omega)) ?_
      refine zT_here (pc2 := 10) rfl ?_
      refine zT_gos (f := 200000) (pc2 := 17) (ls2 := [(0, .ref 6), (1, .int 5), (2, .int (xs 2))]) (st2 := [.int 63, .int (xs 2)]) (h2 := zH0) (dc2 := 0) (ds2 := 0) 5 rfl ?_
      refine zT_if2 true rfl (zc_gt_t (by show ((xs 2) : Int32).toInt > 63; omega)) ?_
      refine zT_here (pc2 := 24) rfl ?_
      refine zT_gos (f := 200000) (pc2 := 25) (ls2 := [(0, .ref 6), (1, .int 5), (2, .int (xs 2))]) (st2 := [.int 0]) (h2 := zH0) (dc2 := 0) (ds2 := 0) 1 rfl ?_
      exact zT_ret rfl rfl
    refine zT_here (pc2 := 16) rfl ?_
    refine zT_gos (f := 200000) (pc2 := 20) (ls2 := [(0, .ref 0), (1, .int 5), (2, .int (xs 2))]) (st2 := [.int 0]) (h2 := zH0) (dc2 := 0) (ds2 := 0) 2 rfl ?_
    exact zT_ret rfl rfl
  refine zT_here (pc2 := 493) rfl ?_
  refine zT_gos (f := 200000) (pc2 := 500) (ls2 := [(4, .int 0), (3, .ref 232), (2, .ref 162), (1, .ref 0), (0, .ref 11)]) (st2 := [.int (xs 1), .ref 162, .int 0]) (h2 := zH0) (dc2 := 117) (ds2 := 29934) 6 rfl ?_
  refine zT_val h1 ?_
  refine zT_gos (f := 200000) (pc2 := 506) (ls2 := [(4, .int 0), (3, .ref 232), (2, .ref 162), (1, .ref 0), (0, .ref 11)]) (st2 := [.int (xs 2), .int 5, .ref 162, .int 0]) (h2 := zH0) (dc2 := 117) (ds2 := 29934) 5 rfl ?_
  refine zT_call (v := some (.int 0)) (h2 := zH0) (d1 := 0) (s1 := 0) rfl rfl ?_ ?_
  · refine zT_gos (f := 200000) (pc2 := 15) (ls2 := [(0, .ref 162), (1, .int 5), (2, .int (xs 2))]) (st2 := [.int (xs 2), .int 5, .ref 162]) (h2 := zH0) (dc2 := 0) (ds2 := 0) 9 rfl ?_
    refine zT_call (v := some (.int 0)) (h2 := zH0) (d1 := 0) (s1 := 0) rfl rfl ?_ ?_
    · refine zT_gos (f := 200000) (pc2 := 7) (ls2 := [(0, .ref 162), (1, .int 5), (2, .int (xs 2))]) (st2 := [.int (-64), .int (xs 2)]) (h2 := zH0) (dc2 := 0) (ds2 := 0) 5 rfl ?_
      refine zT_if2 false rfl (zc_lt_f (by show ((xs 2) : Int32).toInt ≥ -64; omega)) ?_
      refine zT_here (pc2 := 10) rfl ?_
      refine zT_gos (f := 200000) (pc2 := 17) (ls2 := [(0, .ref 162), (1, .int 5), (2, .int (xs 2))]) (st2 := [.int 63, .int (xs 2)]) (h2 := zH0) (dc2 := 0) (ds2 := 0) 5 rfl ?_
      refine zT_if2 true rfl (zc_gt_t (by show ((xs 2) : Int32).toInt > 63; omega)) ?_
      refine zT_here (pc2 := 24) rfl ?_
      refine zT_gos (f := 200000) (pc2 := 25) (ls2 := [(0, .ref 162), (1, .int 5), (2, .int (xs 2))]) (st2 := [.int 0]) (h2 := zH0) (dc2 := 0) (ds2 := 0) 1 rfl ?_
      exact zT_ret rfl rfl
    refine zT_here (pc2 := 18) rfl ?_
    refine zT_gos (f := 200000) (pc2 := 22) (ls2 := [(0, .ref 162), (1, .int 5), (2, .int (xs 2))]) (st2 := [.int 0]) (h2 := zH0) (dc2 := 0) (ds2 := 0) 2 rfl ?_
    exact zT_ret rfl rfl
  refine zT_here (pc2 := 509) rfl ?_
  refine zT_gos (f := 200000) (pc2 := 1811) (ls2 := [(4, .int 6), (3, .ref 232), (2, .ref 162), (1, .ref 0), (0, .ref 11)]) (st2 := [.int 1]) (h2 := zH0) (dc2 := 117) (ds2 := 29934) 10 rfl ?_
  exact zT_ret rfl rfl
