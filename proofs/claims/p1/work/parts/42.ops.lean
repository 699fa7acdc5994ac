/-! Ops of the law at the first state: printed by a program (wip/gen/ops_all.py). -/
set_option maxRecDepth 1000000 in
set_option maxHeartbeats 4000000 in
theorem zo_6_0 (xs : Nat → Int32) (h0 : xs 0 &&& 63 = 6) (h1 : (xs 1).toInt < 0) : zDone xs := by
  refine ⟨zH0, 117, 29934, ?_, by decide, by decide⟩
  refine zT_gos (f := 200000) (pc2 := 37) (ls2 := [(4, .int 0), (3, .ref 232), (2, .ref 162), (1, .ref 0), (0, .ref 11)]) (st2 := [.int (xs 0)]) (h2 := zH0) (dc2 := 117) (ds2 := 29934) 9 rfl ?_
  refine zT_gos (f := 200000) (pc2 := 40) (ls2 := [(4, .int 0), (3, .ref 232), (2, .ref 162), (1, .ref 0), (0, .ref 11)]) (st2 := [.int ((xs 0) &&& (63 : Int32))]) (h2 := zH0) (dc2 := 117) (ds2 := 29934) 2 rfl ?_
  refine zT_val h0 ?_
  refine zT_gos (f := 200000) (pc2 := 484) (ls2 := [(4, .int 0), (3, .ref 232), (2, .ref 162), (1, .ref 0), (0, .ref 11)]) (st2 := [.int (xs 1), .ref 0]) (h2 := zH0) (dc2 := 117) (ds2 := 29934) 7 rfl ?_
  refine zT_gos (f := 200000) (pc2 := 490) (ls2 := [(4, .int 0), (3, .ref 232), (2, .ref 162), (1, .ref 0), (0, .ref 11)]) (st2 := [.int (xs 2), .int (xs 1), .ref 0]) (h2 := zH0) (dc2 := 117) (ds2 := 29934) 5 rfl ?_
  refine zT_call (v := some (.int 0)) (h2 := zH0) (d1 := 0) (s1 := 0) rfl rfl ?_ ?_
  · refine zT_gos (f := 200000) (pc2 := 1) (ls2 := [(0, .ref 0), (1, .int (xs 1)), (2, .int (xs 2))]) (st2 := [.int (xs 1)]) (h2 := zH0) (dc2 := 0) (ds2 := 0) 1 rfl ?_
    refine zT_call (v := some (.int 1)) (h2 := zH0) (d1 := 0) (s1 := 0) rfl rfl ?_ ?_
    · refine zT_gos (f := 200000) (pc2 := 1) (ls2 := [(0, .int (xs 1))]) (st2 := [.int (xs 1)]) (h2 := zH0) (dc2 := 0) (ds2 := 0) 1 rfl ?_
      refine zT_if0 true rfl (zc_lt_t (by show ((xs 1) : Int32).toInt < 0; omega)) ?_
      refine zT_here (pc2 := 10) rfl ?_
      refine zT_gos (f := 200000) (pc2 := 15) (ls2 := [(0, .int (xs 1))]) (st2 := [.int 1]) (h2 := zH0) (dc2 := 0) (ds2 := 0) 2 rfl ?_
      exact zT_ret rfl rfl
    refine zT_here (pc2 := 4) rfl ?_
    refine zT_gos (f := 200000) (pc2 := 20) (ls2 := [(0, .ref 0), (1, .int (xs 1)), (2, .int (xs 2))]) (st2 := [.int 0]) (h2 := zH0) (dc2 := 0) (ds2 := 0) 2 rfl ?_
    exact zT_ret rfl rfl
  refine zT_here (pc2 := 493) rfl ?_
  refine zT_gos (f := 200000) (pc2 := 500) (ls2 := [(4, .int 0), (3, .ref 232), (2, .ref 162), (1, .ref 0), (0, .ref 11)]) (st2 := [.int (xs 1), .ref 162, .int 0]) (h2 := zH0) (dc2 := 117) (ds2 := 29934) 6 rfl ?_
  refine zT_gos (f := 200000) (pc2 := 506) (ls2 := [(4, .int 0), (3, .ref 232), (2, .ref 162), (1, .ref 0), (0, .ref 11)]) (st2 := [.int (xs 2), .int (xs 1), .ref 162, .int 0]) (h2 := zH0) (dc2 := 117) (ds2 := 29934) 5 rfl ?_
  refine zT_call (v := some (.int 0)) (h2 := zH0) (d1 := 0) (s1 := 0) rfl rfl ?_ ?_
  · refine zT_gos (f := 200000) (pc2 := 6) (ls2 := [(0, .ref 162), (1, .int (xs 1)), (2, .int (xs 2))]) (st2 := [.int (xs 1)]) (h2 := zH0) (dc2 := 0) (ds2 := 0) 4 rfl ?_
    refine zT_call (v := some (.int 0)) (h2 := zH0) (d1 := 0) (s1 := 0) rfl rfl ?_ ?_
    · refine zT_gos (f := 200000) (pc2 := 1) (ls2 := [(0, .int (xs 1))]) (st2 := [.int (xs 1)]) (h2 := zH0) (dc2 := 0) (ds2 := 0) 1 rfl ?_
      refine zT_if0 true rfl (zc_lt_t (by show ((xs 1) : Int32).toInt < 0; omega)) ?_
      refine zT_here (pc2 := 14) rfl ?_
      refine zT_gos (f := 200000) (pc2 := 15) (ls2 := [(0, .int (xs 1))]) (st2 := [.int 0]) (h2 := zH0) (dc2 := 0) (ds2 := 0) 1 rfl ?_
      exact zT_ret rfl rfl
    refine zT_here (pc2 := 9) rfl ?_
    refine zT_gos (f := 200000) (pc2 := 22) (ls2 := [(0, .ref 162), (1, .int (xs 1)), (2, .int (xs 2))]) (st2 := [.int 0]) (h2 := zH0) (dc2 := 0) (ds2 := 0) 2 rfl ?_
    exact zT_ret rfl rfl
  refine zT_here (pc2 := 509) rfl ?_
  refine zT_gos (f := 200000) (pc2 := 1811) (ls2 := [(4, .int 6), (3, .ref 232), (2, .ref 162), (1, .ref 0), (0, .ref 11)]) (st2 := [.int 1]) (h2 := zH0) (dc2 := 117) (ds2 := 29934) 10 rfl ?_
  exact zT_ret rfl rfl
set_option maxRecDepth 1000000 in
set_option maxHeartbeats 4000000 in
theorem zo_6_1 (xs : Nat → Int32) (h0 : xs 0 &&& 63 = 6) (h1 : 5 < (xs 1).toInt) : zDone xs := by
  refine ⟨zH0, 117, 29934, ?_, by decide, by decide⟩
  refine zT_gos (f := 200000) (pc2 := 37) (ls2 := [(4, .int 0), (3, .ref 232), (2, .ref 162), (1, .ref 0), (0, .ref 11)]) (st2 := [.int (xs 0)]) (h2 := zH0) (dc2 := 117) (ds2 := 29934) 9 rfl ?_
  refine zT_gos (f := 200000) (pc2 := 40) (ls2 := [(4, .int 0), (3, .ref 232), (2, .ref 162), (1, .ref 0), (0, .ref 11)]) (st2 := [.int ((xs 0) &&& (63 : Int32))]) (h2 := zH0) (dc2 := 117) (ds2 := 29934) 2 rfl ?_
  refine zT_val h0 ?_
  refine zT_gos (f := 200000) (pc2 := 484) (ls2 := [(4, .int 0), (3, .ref 232), (2, .ref 162), (1, .ref 0), (0, .ref 11)]) (st2 := [.int (xs 1), .ref 0]) (h2 := zH0) (dc2 := 117) (ds2 := 29934) 7 rfl ?_
  refine zT_gos (f := 200000) (pc2 := 490) (ls2 := [(4, .int 0), (3, .ref 232), (2, .ref 162), (1, .ref 0), (0, .ref 11)]) (st2 := [.int (xs 2), .int (xs 1), .ref 0]) (h2 := zH0) (dc2 := 117) (ds2 := 29934) 5 rfl ?_
  refine zT_call (v := some (.int 0)) (h2 := zH0) (d1 := 0) (s1 := 0) rfl rfl ?_ ?_
  · refine zT_gos (f := 200000) (pc2 := 1) (ls2 := [(0, .ref 0), (1, .int (xs 1)), (2, .int (xs 2))]) (st2 := [.int (xs 1)]) (h2 := zH0) (dc2 := 0) (ds2 := 0) 1 rfl ?_
    refine zT_call (v := some (.int 1)) (h2 := zH0) (d1 := 0) (s1 := 0) rfl rfl ?_ ?_
    · refine zT_gos (f := 200000) (pc2 := 1) (ls2 := [(0, .int (xs 1))]) (st2 := [.int (xs 1)]) (h2 := zH0) (dc2 := 0) (ds2 := 0) 1 rfl ?_
      refine zT_if0 false rfl (zc_lt_f (by show ((xs 1) : Int32).toInt ≥ 0; omega)) ?_
      refine zT_here (pc2 := 4) rfl ?_
      refine zT_gos (f := 200000) (pc2 := 7) (ls2 := [(0, .int (xs 1))]) (st2 := [.int 6, .int (xs 1)]) (h2 := zH0) (dc2 := 0) (ds2 := 0) 2 rfl ?_
      refine zT_if2 false rfl (zc_lt_f (by show ((xs 1) : Int32).toInt ≥ 6; omega)) ?_
      refine zT_here (pc2 := 10) rfl ?_
      refine zT_gos (f := 200000) (pc2 := 15) (ls2 := [(0, .int (xs 1))]) (st2 := [.int 1]) (h2 := zH0) (dc2 := 0) (ds2 := 0) 2 rfl ?_
      exact zT_ret rfl rfl
    refine zT_here (pc2 := 4) rfl ?_
    refine zT_gos (f := 200000) (pc2 := 20) (ls2 := [(0, .ref 0), (1, .int (xs 1)), (2, .int (xs 2))]) (st2 := [.int 0]) (h2 := zH0) (dc2 := 0) (ds2 := 0) 2 rfl ?_
    exact zT_ret rfl rfl
  refine zT_here (pc2 := 493) rfl ?_
  refine zT_gos (f := 200000) (pc2 := 500) (ls2 := [(4, .int 0), (3, .ref 232), (2, .ref 162), (1, .ref 0), (0, .ref 11)]) (st2 := [.int (xs 1), .ref 162, .int 0]) (h2 := zH0) (dc2 := 117) (ds2 := 29934) 6 rfl ?_
  refine zT_gos (f := 200000) (pc2 := 506) (ls2 := [(4, .int 0), (3, .ref 232), (2, .ref 162), (1, .ref 0), (0, .ref 11)]) (st2 := [.int (xs 2), .int (xs 1), .ref 162, .int 0]) (h2 := zH0) (dc2 := 117) (ds2 := 29934) 5 rfl ?_
  refine zT_call (v := some (.int 0)) (h2 := zH0) (d1 := 0) (s1 := 0) rfl rfl ?_ ?_
  · refine zT_gos (f := 200000) (pc2 := 6) (ls2 := [(0, .ref 162), (1, .int (xs 1)), (2, .int (xs 2))]) (st2 := [.int (xs 1)]) (h2 := zH0) (dc2 := 0) (ds2 := 0) 4 rfl ?_
    refine zT_call (v := some (.int 0)) (h2 := zH0) (d1 := 0) (s1 := 0) rfl rfl ?_ ?_
    · refine zT_gos (f := 200000) (pc2 := 1) (ls2 := [(0, .int (xs 1))]) (st2 := [.int (xs 1)]) (h2 := zH0) (dc2 := 0) (ds2 := 0) 1 rfl ?_
      refine zT_if0 false rfl (zc_lt_f (by show ((xs 1) : Int32).toInt ≥ 0; omega)) ?_
      refine zT_here (pc2 := 4) rfl ?_
      refine zT_gos (f := 200000) (pc2 := 7) (ls2 := [(0, .int (xs 1))]) (st2 := [.int 6, .int (xs 1)]) (h2 := zH0) (dc2 := 0) (ds2 := 0) 2 rfl ?_
      refine zT_if2 true rfl (zc_ge_t (by show ((xs 1) : Int32).toInt ≥ 6; omega)) ?_
      refine zT_here (pc2 := 14) rfl ?_
      refine zT_gos (f := 200000) (pc2 := 15) (ls2 := [(0, .int (xs 1))]) (st2 := [.int 0]) (h2 := zH0) (dc2 := 0) (ds2 := 0) 1 rfl ?_
      exact zT_ret rfl rfl
    refine zT_here (pc2 := 9) rfl ?_
    refine zT_gos (f := 200000) (pc2 := 22) (ls2 := [(0, .ref 162), (1, .int (xs 1)), (2, .int (xs 2))]) (st2 := [.int 0]) (h2 := zH0) (dc2 := 0) (ds2 := 0) 2 rfl ?_
    exact zT_ret rfl rfl
  refine zT_here (pc2 := 509) rfl ?_
  refine zT_gos (f := 200000) (pc2 := 1811) (ls2 := [(4, .int 6), (3, .ref 232), (2, .ref 162), (1, .ref 0), (0, .ref 11)]) (st2 := [.int 1]) (h2 := zH0) (dc2 := 117) (ds2 := 29934) 10 rfl ?_
  exact zT_ret rfl rfl
set_option maxRecDepth 1000000 in
set_option maxHeartbeats 4000000 in
theorem zo_6_2 (xs : Nat → Int32) (h0 : xs 0 &&& 63 = 6) (h1 : xs 1 = 0) (h2 : (xs 2).toInt < 0) : zDone xs := by
  refine ⟨zH0, 117, 29934, ?_, by decide, by decide⟩
  refine zT_gos (f := 200000) (pc2 := 37) (ls2 := [(4, .int 0), (3, .ref 232), (2, .ref 162), (1, .ref 0), (0, .ref 11)]) (st2 := [.int (xs 0)]) (h2 := zH0) (dc2 := 117) (ds2 := 29934) 9 rfl ?_
  refine zT_gos (f := 200000) (pc2 := 40) (ls2 := [(4, .int 0), (3, .ref 232), (2, .ref 162), (1, .ref 0), (0, .ref 11)]) (st2 := [.int ((xs 0) &&& (63 : Int32))]) (h2 := zH0) (dc2 := 117) (ds2 := 29934) 2 rfl ?_
  refine zT_val h0 ?_
  refine zT_gos (f := 200000) (pc2 := 484) (ls2 := [(4, .int 0), (3, .ref 232), (2, .ref 162), (1, .ref 0), (0, .ref 11)]) (st2 := [.int (xs 1), .ref 0]) (h2 := zH0) (dc2 := 117) (ds2 := 29934) 7 rfl ?_
  refine zT_val h1 ?_
  refine zT_gos (f := 200000) (pc2 := 490) (ls2 := [(4, .int 0), (3, .ref 232), (2, .ref 162), (1, .ref 0), (0, .ref 11)]) (st2 := [.int (xs 2), .int 0, .ref 0]) (h2 := zH0) (dc2 := 117) (ds2 := 29934) 5 rfl ?_
  refine zT_call (v := some (.int 0)) (h2 := zH0) (d1 := 0) (s1 := 0) rfl rfl ?_ ?_
  · refine zT_gos (f := 200000) (pc2 := 13) (ls2 := [(0, .ref 0), (1, .int 0), (2, .int (xs 2))]) (st2 := [.int (xs 2), .int 0, .ref 6]) (h2 := zH0) (dc2 := 0) (ds2 := 0) 7 rfl ?_
    refine zT_call (v := some (.int 0)) (h2 := zH0) (d1 := 0) (s1 := 0) rfl rfl ?_ ?_
    · refine zT_gos (f := 200000) (pc2 := 7) (ls2 := [(0, .ref 6), (1, .int 0), (2, .int (xs 2))]) (st2 := [.int 0, .int (xs 2)]) (h2 := zH0) (dc2 := 0) (ds2 := 0) 5 rfl ?_
      refine zT_if2 true rfl (zc_lt_t (by show ((xs 2) : Int32).toInt < 0; omega)) ?_
      refine zT_here (pc2 := 24) rfl ?_
      refine zT_gos (f := 200000) (pc2 := 25) (ls2 := [(0, .ref 6), (1, .int 0), (2, .int (xs 2))]) (st2 := [.int 0]) (h2 := zH0) (dc2 := 0) (ds2 := 0) 1 rfl ?_
      exact zT_ret rfl rfl
    refine zT_here (pc2 := 16) rfl ?_
    refine zT_gos (f := 200000) (pc2 := 20) (ls2 := [(0, .ref 0), (1, .int 0), (2, .int (xs 2))]) (st2 := [.int 0]) (h2 := zH0) (dc2 := 0) (ds2 := 0) 2 rfl ?_
    exact zT_ret rfl rfl
  refine zT_here (pc2 := 493) rfl ?_
  refine zT_gos (f := 200000) (pc2 := 500) (ls2 := [(4, .int 0), (3, .ref 232), (2, .ref 162), (1, .ref 0), (0, .ref 11)]) (st2 := [.int (xs 1), .ref 162, .int 0]) (h2 := zH0) (dc2 := 117) (ds2 := 29934) 6 rfl ?_
  refine zT_val h1 ?_
  refine zT_gos (f := 200000) (pc2 := 506) (ls2 := [(4, .int 0), (3, .ref 232), (2, .ref 162), (1, .ref 0), (0, .ref 11)]) (st2 := [.int (xs 2), .int 0, .ref 162, .int 0]) (h2 := zH0) (dc2 := 117) (ds2 := 29934) 5 rfl ?_
  refine zT_call (v := some (.int 0)) (h2 := zH0) (d1 := 0) (s1 := 0) rfl rfl ?_ ?_
  · refine zT_gos (f := 200000) (pc2 := 15) (ls2 := [(0, .ref 162), (1, .int 0), (2, .int (xs 2))]) (st2 := [.int (xs 2), .int 0, .ref 162]) (h2 := zH0) (dc2 := 0) (ds2 := 0) 9 rfl ?_
    refine zT_call (v := some (.int 0)) (h2 := zH0) (d1 := 0) (s1 := 0) rfl rfl ?_ ?_
    · refine zT_gos (f := 200000) (pc2 := 7) (ls2 := [(0, .ref 162), (1, .int 0), (2, .int (xs 2))]) (st2 := [.int 0, .int (xs 2)]) (h2 := zH0) (dc2 := 0) (ds2 := 0) 5 rfl ?_
      refine zT_if2 true rfl (zc_lt_t (by show ((xs 2) : Int32).toInt < 0; omega)) ?_
      refine zT_here (pc2 := 24) rfl ?_
      refine zT_gos (f := 200000) (pc2 := 25) (ls2 := [(0, .ref 162), (1, .int 0), (2, .int (xs 2))]) (st2 := [.int 0]) (h2 := zH0) (dc2 := 0) (ds2 := 0) 1 rfl ?_
      exact zT_ret rfl rfl
    refine zT_here (pc2 := 18) rfl ?_
    refine zT_gos (f := 200000) (pc2 := 22) (ls2 := [(0, .ref 162), (1, .int 0), (2, .int (xs 2))]) (st2 := [.int 0]) (h2 := zH0) (dc2 := 0) (ds2 := 0) 2 rfl ?_
    exact zT_ret rfl rfl
  refine zT_here (pc2 := 509) rfl ?_
  refine zT_gos (f := 200000) (pc2 := 1811) (ls2 := [(4, .int 6), (3, .ref 232), (2, .ref 162), (1, .ref 0), (0, .ref 11)]) (st2 := [.int 1]) (h2 := zH0) (dc2 := 117) (ds2 := 29934) 10 rfl ?_
  exact zT_ret rfl rfl
set_option maxRecDepth 1000000 in
set_option maxHeartbeats 4000000 in
theorem zo_6_3 (xs : Nat → Int32) (h0 : xs 0 &&& 63 = 6) (h1 : xs 1 = 0) (h2 : 99 < (xs 2).toInt) : zDone xs := by
  refine ⟨zH0, 117, 29934, ?_, by decide, by decide⟩
  refine zT_gos (f := 200000) (pc2 := 37) (ls2 := [(4, .int 0), (3, .ref 232), (2, .ref 162), (1, .ref 0), (0, .ref 11)]) (st2 := [.int (xs 0)]) (h2 := zH0) (dc2 := 117) (ds2 := 29934) 9 rfl ?_
  refine zT_gos (f := 200000) (pc2 := 40) (ls2 := [(4, .int 0), (3, .ref 232), (2, .ref 162), (1, .ref 0), (0, .ref 11)]) (st2 := [.int ((xs 0) &&& (63 : Int32))]) (h2 := zH0) (dc2 := 117) (ds2 := 29934) 2 rfl ?_
  refine zT_val h0 ?_
  refine zT_gos (f := 200000) (pc2 := 484) (ls2 := [(4, .int 0), (3, .ref 232), (2, .ref 162), (1, .ref 0), (0, .ref 11)]) (st2 := [.int (xs 1), .ref 0]) (h2 := zH0) (dc2 := 117) (ds2 := 29934) 7 rfl ?_
  refine zT_val h1 ?_
  refine zT_gos (f := 200000) (pc2 := 490) (ls2 := [(4, .int 0), (3, .ref 232), (2, .ref 162), (1, .ref 0), (0, .ref 11)]) (st2 := [.int (xs 2), .int 0, .ref 0]) (h2 := zH0) (dc2 := 117) (ds2 := 29934) 5 rfl ?_
  refine zT_call (v := some (.int 0)) (h2 := zH0) (d1 := 0) (s1 := 0) rfl rfl ?_ ?_
  · refine zT_gos (f := 200000) (pc2 := 13) (ls2 := [(0, .ref 0), (1, .int 0), (2, .int (xs 2))]) (st2 := [.int (xs 2), .int 0, .ref 6]) (h2 := zH0) (dc2 := 0) (ds2 := 0) 7 rfl ?_
    refine zT_call (v := some (.int 0)) (h2 := zH0) (d1 := 0) (s1 := 0) rfl rfl ?_ ?_
    · refine zT_gos (f := 200000) (pc2 := 7) (ls2 := [(0, .ref 6), (1, .int 0), (2, .int (xs 2))]) (st2 := [.int 0, .int (xs 2)]) (h2 := zH0) (dc2 := 0) (ds2 := 0) 5 rfl ?_
      refine zT_if2 false rfl (zc_lt_f (by show ((xs 2) : Int32).toInt ≥ 0; omega)) ?_
      refine zT_here (pc2 := 10) rfl ?_
      refine zT_gos (f := 200000) (pc2 := 17) (ls2 := [(0, .ref 6), (1, .int 0), (2, .int (xs 2))]) (st2 := [.int 99, .int (xs 2)]) (h2 := zH0) (dc2 := 0) (ds2 := 0) 5 rfl ?_
      refine zT_if2 true rfl (zc_gt_t (by show ((xs 2) : Int32).toInt > 99; omega)) ?_
      refine zT_here (pc2 := 24) rfl ?_
      refine zT_gos (f := 200000) (pc2 := 25) (ls2 := [(0, .ref 6), (1, .int 0), (2, .int (xs 2))]) (st2 := [.int 0]) (h2 := zH0) (dc2 := 0) (ds2 := 0) 1 rfl ?_
      exact zT_ret rfl rfl
    refine zT_here (pc2 := 16) rfl ?_
    refine zT_gos (f := 200000) (pc2 := 20) (ls2 := [(0, .ref 0), (1, .int 0), (2, .int (xs 2))]) (st2 := [.int 0]) (h2 := zH0) (dc2 := 0) (ds2 := 0) 2 rfl ?_
    exact zT_ret rfl rfl
  refine zT_here (pc2 := 493) rfl ?_
  refine zT_gos (f := 200000) (pc2 := 500) (ls2 := [(4, .int 0), (3, .ref 232), (2, .ref 162), (1, .ref 0), (0, .ref 11)]) (st2 := [.int (xs 1), .ref 162, .int 0]) (h2 := zH0) (dc2 := 117) (ds2 := 29934) 6 rfl ?_
  refine zT_val h1 ?_
  refine zT_gos (f := 200000) (pc2 := 506) (ls2 := [(4, .int 0), (3, .ref 232), (2, .ref 162), (1, .ref 0), (0, .ref 11)]) (st2 := [.int (xs 2), .int 0, .ref 162, .int 0]) (h2 := zH0) (dc2 := 117) (ds2 := 29934) 5 rfl ?_
  refine zT_call (v := some (.int 0)) (h2 := zH0) (d1 := 0) (s1 := 0) rfl rfl ?_ ?_
  · refine zT_gos (f := 200000) (pc2 := 15) (ls2 := [(0, .ref 162), (1, .int 0), (2, .int (xs 2))]) (st2 := [.int (xs 2), .int 0, .ref 162]) (h2 := zH0) (dc2 := 0) (ds2 := 0) 9 rfl ?_
    refine zT_call (v := some (.int 0)) (h2 := zH0) (d1 := 0) (s1 := 0) rfl rfl ?_ ?_
    · refine zT_gos (f := 200000) (pc2 := 7) (ls2 := [(0, .ref 162), (1, .int 0), (2, .int (xs 2))]) (st2 := [.int 0, .int (xs 2)]) (h2 := zH0) (dc2 := 0) (ds2 := 0) 5 rfl ?_
      refine zT_if2 false rfl (zc_lt_f (by show ((xs 2) : Int32).toInt ≥ 0; omega)) ?_
      refine zT_here (pc2 := 10) rfl ?_
      refine zT_gos (f := 200000) (pc2 := 17) (ls2 := [(0, .ref 162), (1, .int 0), (2, .int (xs 2))]) (st2 := [.int 99, .int (xs 2)]) (h2 := zH0) (dc2 := 0) (ds2 := 0) 5 rfl ?_
      refine zT_if2 true rfl (zc_gt_t (by show ((xs 2) : Int32).toInt > 99; omega)) ?_
      refine zT_here (pc2 := 24) rfl ?_
      refine zT_gos (f := 200000) (pc2 := 25) (ls2 := [(0, .ref 162), (1, .int 0), (2, .int (xs 2))]) (st2 := [.int 0]) (h2 := zH0) (dc2 := 0) (ds2 := 0) 1 rfl ?_
      exact zT_ret rfl rfl
    refine zT_here (pc2 := 18) rfl ?_
    refine zT_gos (f := 200000) (pc2 := 22) (ls2 := [(0, .ref 162), (1, .int 0), (2, .int (xs 2))]) (st2 := [.int 0]) (h2 := zH0) (dc2 := 0) (ds2 := 0) 2 rfl ?_
    exact zT_ret rfl rfl
  refine zT_here (pc2 := 509) rfl ?_
  refine zT_gos (f := 200000) (pc2 := 1811) (ls2 := [(4, .int 6), (3, .ref 232), (2, .ref 162), (1, .ref 0), (0, .ref 11)]) (st2 := [.int 1]) (h2 := zH0) (dc2 := 117) (ds2 := 29934) 10 rfl ?_
  exact zT_ret rfl rfl
set_option maxRecDepth 1000000 in
set_option maxHeartbeats 4000000 in
theorem zo_6_4 (xs : Nat → Int32) (h0 : xs 0 &&& 63 = 6) (h1 : xs 1 = 0) (h2 : 0 ≤ (xs 2).toInt ∧ (xs 2).toInt ≤ 99) : zDone xs := by
  refine ⟨(((((((zH0.set 19 (.inr (.inl (20, [70644700037184])))).set 20 (.inl (0, 120, [22000000, 0, 10000, 0, 0, 0]))).set 18 (.inr (.inr (.inr (2, [.int 1, .int 1, .ref 38, .ref 40]))))).set 0 (.inr (.inr (.inr (9, [.ref 2, .int 0, .ref 4, .ref 6, .ref 20, .long ((275955859520 : Int64) ||| (((((xs 2) + (64 : Int32)) &&& (255 : Int32))).toInt64 <<< (((40 : Int32)).toInt64 &&& 63))), .ref 34, .ref 36, .int 0, .long 0, .ref 42, .ref 44, .ref 60, .ref 66, .ref 72, .ref 74, .ref 150, .ref 158]))))).set 81 (.inr (.inr (.inr (10, [.int 0, .ref 164, .int 0, .ref 166, .ref 168, .ref 170, .ref 172, .ref 174, .ref 176, .ref 178, .ref 180, .ref 182, .ref 184, .ref 186, .int 0, .int 0, .int 0, .int 0, .int 0, .int 0, .int 0, .int 0, .int 0, .int (-1), .ref 188, .ref 190, .ref 192, .int 1, .int 0, .ref 194, .ref 196, .ref 198, .int 0, .int 0, .int 0, .int 0, .ref 200, .ref 202, .ref 204, .int 0, .ref 206, .ref 208, .ref 210, .ref 212, .ref 214, .ref 216, .ref 218, .ref 220, .ref 222, .ref 224, .ref 226, .ref 228, .int 0, .ref 230]))))).set 96 (.inl (0, 252, [0, 0, 0, 0, 0, 0, 22000000, 0, 10000, 0, 0, 0]))).set 94 (.inl (0, 6, [(xs 2), 0, 0, 0, 0, 0]))), 117, 29934, ?_, by decide, by decide⟩
  refine zT_gos (f := 200000) (pc2 := 37) (ls2 := [(4, .int 0), (3, .ref 232), (2, .ref 162), (1, .ref 0), (0, .ref 11)]) (st2 := [.int (xs 0)]) (h2 := zH0) (dc2 := 117) (ds2 := 29934) 9 rfl ?_
  refine zT_gos (f := 200000) (pc2 := 40) (ls2 := [(4, .int 0), (3, .ref 232), (2, .ref 162), (1, .ref 0), (0, .ref 11)]) (st2 := [.int ((xs 0) &&& (63 : Int32))]) (h2 := zH0) (dc2 := 117) (ds2 := 29934) 2 rfl ?_
  refine zT_val h0 ?_
  refine zT_gos (f := 200000) (pc2 := 484) (ls2 := [(4, .int 0), (3, .ref 232), (2, .ref 162), (1, .ref 0), (0, .ref 11)]) (st2 := [.int (xs 1), .ref 0]) (h2 := zH0) (dc2 := 117) (ds2 := 29934) 7 rfl ?_
  refine zT_val h1 ?_
  refine zT_gos (f := 200000) (pc2 := 490) (ls2 := [(4, .int 0), (3, .ref 232), (2, .ref 162), (1, .ref 0), (0, .ref 11)]) (st2 := [.int (xs 2), .int 0, .ref 0]) (h2 := zH0) (dc2 := 117) (ds2 := 29934) 5 rfl ?_
  refine zT_call (v := some (.int 1)) (h2 := ((((zH0.set 19 (.inr (.inl (20, [70644700037184])))).set 20 (.inl (0, 120, [22000000, 0, 10000, 0, 0, 0]))).set 18 (.inr (.inr (.inr (2, [.int 1, .int 1, .ref 38, .ref 40]))))).set 0 (.inr (.inr (.inr (9, [.ref 2, .int 0, .ref 4, .ref 6, .ref 20, .long ((275955859520 : Int64) ||| (((((xs 2) + (64 : Int32)) &&& (255 : Int32))).toInt64 <<< (((40 : Int32)).toInt64 &&& 63))), .ref 34, .ref 36, .int 0, .long 0, .ref 42, .ref 44, .ref 60, .ref 66, .ref 72, .ref 74, .ref 150, .ref 158])))))) (d1 := 0) (s1 := 0) rfl rfl ?_ ?_
  · refine zT_gos (f := 200000) (pc2 := 13) (ls2 := [(0, .ref 0), (1, .int 0), (2, .int (xs 2))]) (st2 := [.int (xs 2), .int 0, .ref 6]) (h2 := zH0) (dc2 := 0) (ds2 := 0) 7 rfl ?_
    refine zT_call (v := some (.int 1)) (h2 := zH0) (d1 := 0) (s1 := 0) rfl rfl ?_ ?_
    · refine zT_gos (f := 200000) (pc2 := 7) (ls2 := [(0, .ref 6), (1, .int 0), (2, .int (xs 2))]) (st2 := [.int 0, .int (xs 2)]) (h2 := zH0) (dc2 := 0) (ds2 := 0) 5 rfl ?_
      refine zT_if2 false rfl (zc_lt_f (by show ((xs 2) : Int32).toInt ≥ 0; omega)) ?_
      refine zT_here (pc2 := 10) rfl ?_
      refine zT_gos (f := 200000) (pc2 := 17) (ls2 := [(0, .ref 6), (1, .int 0), (2, .int (xs 2))]) (st2 := [.int 99, .int (xs 2)]) (h2 := zH0) (dc2 := 0) (ds2 := 0) 5 rfl ?_
      refine zT_if2 false rfl (zc_gt_f (by show ((xs 2) : Int32).toInt ≤ 99; omega)) ?_
      refine zT_here (pc2 := 20) rfl ?_
      refine zT_gos (f := 200000) (pc2 := 25) (ls2 := [(0, .ref 6), (1, .int 0), (2, .int (xs 2))]) (st2 := [.int 1]) (h2 := zH0) (dc2 := 0) (ds2 := 0) 2 rfl ?_
      exact zT_ret rfl rfl
    refine zT_here (pc2 := 16) rfl ?_
    refine zT_gos (f := 200000) (pc2 := 50) (ls2 := [(0, .ref 0), (1, .int 0), (2, .int (xs 2))]) (st2 := [.int 1]) (h2 := ((((zH0.set 19 (.inr (.inl (20, [70644700037184])))).set 20 (.inl (0, 120, [22000000, 0, 10000, 0, 0, 0]))).set 18 (.inr (.inr (.inr (2, [.int 1, .int 1, .ref 38, .ref 40]))))).set 0 (.inr (.inr (.inr (9, [.ref 2, .int 0, .ref 4, .ref 6, .ref 20, .long ((275955859520 : Int64) ||| (((((xs 2) + (64 : Int32)) &&& (255 : Int32))).toInt64 <<< (((40 : Int32)).toInt64 &&& 63))), .ref 34, .ref 36, .int 0, .long 0, .ref 42, .ref 44, .ref 60, .ref 66, .ref 72, .ref 74, .ref 150, .ref 158])))))) (dc2 := 0) (ds2 := 0) 16 rfl ?_
    exact zT_ret rfl rfl
  refine zT_here (pc2 := 493) rfl ?_
  refine zT_gos (f := 200000) (pc2 := 500) (ls2 := [(4, .int 0), (3, .ref 232), (2, .ref 162), (1, .ref 0), (0, .ref 11)]) (st2 := [.int (xs 1), .ref 162, .int 1]) (h2 := ((((zH0.set 19 (.inr (.inl (20, [70644700037184])))).set 20 (.inl (0, 120, [22000000, 0, 10000, 0, 0, 0]))).set 18 (.inr (.inr (.inr (2, [.int 1, .int 1, .ref 38, .ref 40]))))).set 0 (.inr (.inr (.inr (9, [.ref 2, .int 0, .ref 4, .ref 6, .ref 20, .long ((275955859520 : Int64) ||| (((((xs 2) + (64 : Int32)) &&& (255 : Int32))).toInt64 <<< (((40 : Int32)).toInt64 &&& 63))), .ref 34, .ref 36, .int 0, .long 0, .ref 42, .ref 44, .ref 60, .ref 66, .ref 72, .ref 74, .ref 150, .ref 158])))))) (dc2 := 117) (ds2 := 29934) 6 rfl ?_
  refine zT_val h1 ?_
  refine zT_gos (f := 200000) (pc2 := 506) (ls2 := [(4, .int 0), (3, .ref 232), (2, .ref 162), (1, .ref 0), (0, .ref 11)]) (st2 := [.int (xs 2), .int 0, .ref 162, .int 1]) (h2 := ((((zH0.set 19 (.inr (.inl (20, [70644700037184])))).set 20 (.inl (0, 120, [22000000, 0, 10000, 0, 0, 0]))).set 18 (.inr (.inr (.inr (2, [.int 1, .int 1, .ref 38, .ref 40]))))).set 0 (.inr (.inr (.inr (9, [.ref 2, .int 0, .ref 4, .ref 6, .ref 20, .long ((275955859520 : Int64) ||| (((((xs 2) + (64 : Int32)) &&& (255 : Int32))).toInt64 <<< (((40 : Int32)).toInt64 &&& 63))), .ref 34, .ref 36, .int 0, .long 0, .ref 42, .ref 44, .ref 60, .ref 66, .ref 72, .ref 74, .ref 150, .ref 158])))))) (dc2 := 117) (ds2 := 29934) 5 rfl ?_
  refine zT_call (v := some (.int 1)) (h2 := (((((((zH0.set 19 (.inr (.inl (20, [70644700037184])))).set 20 (.inl (0, 120, [22000000, 0, 10000, 0, 0, 0]))).set 18 (.inr (.inr (.inr (2, [.int 1, .int 1, .ref 38, .ref 40]))))).set 0 (.inr (.inr (.inr (9, [.ref 2, .int 0, .ref 4, .ref 6, .ref 20, .long ((275955859520 : Int64) ||| (((((xs 2) + (64 : Int32)) &&& (255 : Int32))).toInt64 <<< (((40 : Int32)).toInt64 &&& 63))), .ref 34, .ref 36, .int 0, .long 0, .ref 42, .ref 44, .ref 60, .ref 66, .ref 72, .ref 74, .ref 150, .ref 158]))))).set 81 (.inr (.inr (.inr (10, [.int 0, .ref 164, .int 0, .ref 166, .ref 168, .ref 170, .ref 172, .ref 174, .ref 176, .ref 178, .ref 180, .ref 182, .ref 184, .ref 186, .int 0, .int 0, .int 0, .int 0, .int 0, .int 0, .int 0, .int 0, .int 0, .int (-1), .ref 188, .ref 190, .ref 192, .int 1, .int 0, .ref 194, .ref 196, .ref 198, .int 0, .int 0, .int 0, .int 0, .ref 200, .ref 202, .ref 204, .int 0, .ref 206, .ref 208, .ref 210, .ref 212, .ref 214, .ref 216, .ref 218, .ref 220, .ref 222, .ref 224, .ref 226, .ref 228, .int 0, .ref 230]))))).set 96 (.inl (0, 252, [0, 0, 0, 0, 0, 0, 22000000, 0, 10000, 0, 0, 0]))).set 94 (.inl (0, 6, [(xs 2), 0, 0, 0, 0, 0])))) (d1 := 0) (s1 := 0) rfl rfl ?_ ?_
  · refine zT_gos (f := 200000) (pc2 := 15) (ls2 := [(0, .ref 162), (1, .int 0), (2, .int (xs 2))]) (st2 := [.int (xs 2), .int 0, .ref 162]) (h2 := ((((zH0.set 19 (.inr (.inl (20, [70644700037184])))).set 20 (.inl (0, 120, [22000000, 0, 10000, 0, 0, 0]))).set 18 (.inr (.inr (.inr (2, [.int 1, .int 1, .ref 38, .ref 40]))))).set 0 (.inr (.inr (.inr (9, [.ref 2, .int 0, .ref 4, .ref 6, .ref 20, .long ((275955859520 : Int64) ||| (((((xs 2) + (64 : Int32)) &&& (255 : Int32))).toInt64 <<< (((40 : Int32)).toInt64 &&& 63))), .ref 34, .ref 36, .int 0, .long 0, .ref 42, .ref 44, .ref 60, .ref 66, .ref 72, .ref 74, .ref 150, .ref 158])))))) (dc2 := 0) (ds2 := 0) 9 rfl ?_
    refine zT_call (v := some (.int 1)) (h2 := ((((zH0.set 19 (.inr (.inl (20, [70644700037184])))).set 20 (.inl (0, 120, [22000000, 0, 10000, 0, 0, 0]))).set 18 (.inr (.inr (.inr (2, [.int 1, .int 1, .ref 38, .ref 40]))))).set 0 (.inr (.inr (.inr (9, [.ref 2, .int 0, .ref 4, .ref 6, .ref 20, .long ((275955859520 : Int64) ||| (((((xs 2) + (64 : Int32)) &&& (255 : Int32))).toInt64 <<< (((40 : Int32)).toInt64 &&& 63))), .ref 34, .ref 36, .int 0, .long 0, .ref 42, .ref 44, .ref 60, .ref 66, .ref 72, .ref 74, .ref 150, .ref 158])))))) (d1 := 0) (s1 := 0) rfl rfl ?_ ?_
    · refine zT_gos (f := 200000) (pc2 := 7) (ls2 := [(0, .ref 162), (1, .int 0), (2, .int (xs 2))]) (st2 := [.int 0, .int (xs 2)]) (h2 := ((((zH0.set 19 (.inr (.inl (20, [70644700037184])))).set 20 (.inl (0, 120, [22000000, 0, 10000, 0, 0, 0]))).set 18 (.inr (.inr (.inr (2, [.int 1, .int 1, .ref 38, .ref 40]))))).set 0 (.inr (.inr (.inr (9, [.ref 2, .int 0, .ref 4, .ref 6, .ref 20, .long ((275955859520 : Int64) ||| (((((xs 2) + (64 : Int32)) &&& (255 : Int32))).toInt64 <<< (((40 : Int32)).toInt64 &&& 63))), .ref 34, .ref 36, .int 0, .long 0, .ref 42, .ref 44, .ref 60, .ref 66, .ref 72, .ref 74, .ref 150, .ref 158])))))) (dc2 := 0) (ds2 := 0) 5 rfl ?_
      refine zT_if2 false rfl (zc_lt_f (by show ((xs 2) : Int32).toInt ≥ 0; omega)) ?_
      refine zT_here (pc2 := 10) rfl ?_
      refine zT_gos (f := 200000) (pc2 := 17) (ls2 := [(0, .ref 162), (1, .int 0), (2, .int (xs 2))]) (st2 := [.int 99, .int (xs 2)]) (h2 := ((((zH0.set 19 (.inr (.inl (20, [70644700037184])))).set 20 (.inl (0, 120, [22000000, 0, 10000, 0, 0, 0]))).set 18 (.inr (.inr (.inr (2, [.int 1, .int 1, .ref 38, .ref 40]))))).set 0 (.inr (.inr (.inr (9, [.ref 2, .int 0, .ref 4, .ref 6, .ref 20, .long ((275955859520 : Int64) ||| (((((xs 2) + (64 : Int32)) &&& (255 : Int32))).toInt64 <<< (((40 : Int32)).toInt64 &&& 63))), .ref 34, .ref 36, .int 0, .long 0, .ref 42, .ref 44, .ref 60, .ref 66, .ref 72, .ref 74, .ref 150, .ref 158])))))) (dc2 := 0) (ds2 := 0) 5 rfl ?_
      refine zT_if2 false rfl (zc_gt_f (by show ((xs 2) : Int32).toInt ≤ 99; omega)) ?_
      refine zT_here (pc2 := 20) rfl ?_
      refine zT_gos (f := 200000) (pc2 := 25) (ls2 := [(0, .ref 162), (1, .int 0), (2, .int (xs 2))]) (st2 := [.int 1]) (h2 := ((((zH0.set 19 (.inr (.inl (20, [70644700037184])))).set 20 (.inl (0, 120, [22000000, 0, 10000, 0, 0, 0]))).set 18 (.inr (.inr (.inr (2, [.int 1, .int 1, .ref 38, .ref 40]))))).set 0 (.inr (.inr (.inr (9, [.ref 2, .int 0, .ref 4, .ref 6, .ref 20, .long ((275955859520 : Int64) ||| (((((xs 2) + (64 : Int32)) &&& (255 : Int32))).toInt64 <<< (((40 : Int32)).toInt64 &&& 63))), .ref 34, .ref 36, .int 0, .long 0, .ref 42, .ref 44, .ref 60, .ref 66, .ref 72, .ref 74, .ref 150, .ref 158])))))) (dc2 := 0) (ds2 := 0) 2 rfl ?_
      exact zT_ret rfl rfl
    refine zT_here (pc2 := 18) rfl ?_
    refine zT_gos (f := 200000) (pc2 := 39) (ls2 := [(0, .ref 162), (1, .int 0), (2, .int (xs 2))]) (st2 := [.int 1]) (h2 := (((((((zH0.set 19 (.inr (.inl (20, [70644700037184])))).set 20 (.inl (0, 120, [22000000, 0, 10000, 0, 0, 0]))).set 18 (.inr (.inr (.inr (2, [.int 1, .int 1, .ref 38, .ref 40]))))).set 0 (.inr (.inr (.inr (9, [.ref 2, .int 0, .ref 4, .ref 6, .ref 20, .long ((275955859520 : Int64) ||| (((((xs 2) + (64 : Int32)) &&& (255 : Int32))).toInt64 <<< (((40 : Int32)).toInt64 &&& 63))), .ref 34, .ref 36, .int 0, .long 0, .ref 42, .ref 44, .ref 60, .ref 66, .ref 72, .ref 74, .ref 150, .ref 158]))))).set 81 (.inr (.inr (.inr (10, [.int 0, .ref 164, .int 0, .ref 166, .ref 168, .ref 170, .ref 172, .ref 174, .ref 176, .ref 178, .ref 180, .ref 182, .ref 184, .ref 186, .int 0, .int 0, .int 0, .int 0, .int 0, .int 0, .int 0, .int 0, .int 0, .int (-1), .ref 188, .ref 190, .ref 192, .int 1, .int 0, .ref 194, .ref 196, .ref 198, .int 0, .int 0, .int 0, .int 0, .ref 200, .ref 202, .ref 204, .int 0, .ref 206, .ref 208, .ref 210, .ref 212, .ref 214, .ref 216, .ref 218, .ref 220, .ref 222, .ref 224, .ref 226, .ref 228, .int 0, .ref 230]))))).set 96 (.inl (0, 252, [0, 0, 0, 0, 0, 0, 22000000, 0, 10000, 0, 0, 0]))).set 94 (.inl (0, 6, [(xs 2), 0, 0, 0, 0, 0])))) (dc2 := 0) (ds2 := 0) 11 rfl ?_
    exact zT_ret rfl rfl
  refine zT_here (pc2 := 509) rfl ?_
  refine zT_gos (f := 200000) (pc2 := 1811) (ls2 := [(4, .int 6), (3, .ref 232), (2, .ref 162), (1, .ref 0), (0, .ref 11)]) (st2 := [.int 1]) (h2 := (((((((zH0.set 19 (.inr (.inl (20, [70644700037184])))).set 20 (.inl (0, 120, [22000000, 0, 10000, 0, 0, 0]))).set 18 (.inr (.inr (.inr (2, [.int 1, .int 1, .ref 38, .ref 40]))))).set 0 (.inr (.inr (.inr (9, [.ref 2, .int 0, .ref 4, .ref 6, .ref 20, .long ((275955859520 : Int64) ||| (((((xs 2) + (64 : Int32)) &&& (255 : Int32))).toInt64 <<< (((40 : Int32)).toInt64 &&& 63))), .ref 34, .ref 36, .int 0, .long 0, .ref 42, .ref 44, .ref 60, .ref 66, .ref 72, .ref 74, .ref 150, .ref 158]))))).set 81 (.inr (.inr (.inr (10, [.int 0, .ref 164, .int 0, .ref 166, .ref 168, .ref 170, .ref 172, .ref 174, .ref 176, .ref 178, .ref 180, .ref 182, .ref 184, .ref 186, .int 0, .int 0, .int 0, .int 0, .int 0, .int 0, .int 0, .int 0, .int 0, .int (-1), .ref 188, .ref 190, .ref 192, .int 1, .int 0, .ref 194, .ref 196, .ref 198, .int 0, .int 0, .int 0, .int 0, .ref 200, .ref 202, .ref 204, .int 0, .ref 206, .ref 208, .ref 210, .ref 212, .ref 214, .ref 216, .ref 218, .ref 220, .ref 222, .ref 224, .ref 226, .ref 228, .int 0, .ref 230]))))).set 96 (.inl (0, 252, [0, 0, 0, 0, 0, 0, 22000000, 0, 10000, 0, 0, 0]))).set 94 (.inl (0, 6, [(xs 2), 0, 0, 0, 0, 0])))) (dc2 := 117) (ds2 := 29934) 10 rfl ?_
  exact zT_ret rfl rfl
set_option maxRecDepth 1000000 in
set_option maxHeartbeats 4000000 in
theorem zo_6_5 (xs : Nat → Int32) (h0 : xs 0 &&& 63 = 6) (h1 : xs 1 = 1) (h2 : (xs 2).toInt < -32) : zDone xs := by
  refine ⟨zH0, 117, 29934, ?_, by decide, by decide⟩
  refine zT_gos (f := 200000) (pc2 := 37) (ls2 := [(4, .int 0), (3, .ref 232), (2, .ref 162), (1, .ref 0), (0, .ref 11)]) (st2 := [.int (xs 0)]) (h2 := zH0) (dc2 := 117) (ds2 := 29934) 9 rfl ?_
  refine zT_gos (f := 200000) (pc2 := 40) (ls2 := [(4, .int 0), (3, .ref 232), (2, .ref 162), (1, .ref 0), (0, .ref 11)]) (st2 := [.int ((xs 0) &&& (63 : Int32))]) (h2 := zH0) (dc2 := 117) (ds2 := 29934) 2 rfl ?_
  refine zT_val h0 ?_
  refine zT_gos (f := 200000) (pc2 := 484) (ls2 := [(4, .int 0), (3, .ref 232), (2, .ref 162), (1, .ref 0), (0, .ref 11)]) (st2 := [.int (xs 1), .ref 0]) (h2 := zH0) (dc2 := 117) (ds2 := 29934) 7 rfl ?_
  refine zT_val h1 ?_
  refine zT_gos (f := 200000) (pc2 := 490) (ls2 := [(4, .int 0), (3, .ref 232), (2, .ref 162), (1, .ref 0), (0, .ref 11)]) (st2 := [.int (xs 2), .int 1, .ref 0]) (h2 := zH0) (dc2 := 117) (ds2 := 29934) 5 rfl ?_
  refine zT_call (v := some (.int 0)) (h2 := zH0) (d1 := 0) (s1 := 0) rfl rfl ?_ ?_
  · refine zT_gos (f := 200000) (pc2 := 13) (ls2 := [(0, .ref 0), (1, .int 1), (2, .int (xs 2))]) (st2 := [.int (xs 2), .int 1, .ref 6]) (h2 := zH0) (dc2 := 0) (ds2 := 0) 7 rfl ?_
    refine zT_call (v := some (.int 0)) (h2 := zH0) (d1 := 0) (s1 := 0) rfl rfl ?_ ?_
    · refine zT_gos (f := 200000) (pc2 := 7) (ls2 := [(0, .ref 6), (1, .int 1), (2, .int (xs 2))]) (st2 := [.int (-32), .int (xs 2)]) (h2 := zH0) (dc2 := 0) (ds2 := 0) 5 rfl ?_
      refine zT_if2 true rfl (zc_lt_t (by show ((xs 2) : Int32).toInt < -32; omega)) ?_
      refine zT_here (pc2 := 24) rfl ?_
      refine zT_gos (f := 200000) (pc2 := 25) (ls2 := [(0, .ref 6), (1, .int 1), (2, .int (xs 2))]) (st2 := [.int 0]) (h2 := zH0) (dc2 := 0) (ds2 := 0) 1 rfl ?_
      exact zT_ret rfl rfl
    refine zT_here (pc2 := 16) rfl ?_
    refine zT_gos (f := 200000) (pc2 := 20) (ls2 := [(0, .ref 0), (1, .int 1), (2, .int (xs 2))]) (st2 := [.int 0]) (h2 := zH0) (dc2 := 0) (ds2 := 0) 2 rfl ?_
    exact zT_ret rfl rfl
  refine zT_here (pc2 := 493) rfl ?_
  refine zT_gos (f := 200000) (pc2 := 500) (ls2 := [(4, .int 0), (3, .ref 232), (2, .ref 162), (1, .ref 0), (0, .ref 11)]) (st2 := [.int (xs 1), .ref 162, .int 0]) (h2 := zH0) (dc2 := 117) (ds2 := 29934) 6 rfl ?_
  refine zT_val h1 ?_
  refine zT_gos (f := 200000) (pc2 := 506) (ls2 := [(4, .int 0), (3, .ref 232), (2, .ref 162), (1, .ref 0), (0, .ref 11)]) (st2 := [.int (xs 2), .int 1, .ref 162, .int 0]) (h2 := zH0) (dc2 := 117) (ds2 := 29934) 5 rfl ?_
  refine zT_call (v := some (.int 0)) (h2 := zH0) (d1 := 0) (s1 := 0) rfl rfl ?_ ?_
  · refine zT_gos (f := 200000) (pc2 := 15) (ls2 := [(0, .ref 162), (1, .int 1), (2, .int (xs 2))]) (st2 := [.int (xs 2), .int 1, .ref 162]) (h2 := zH0) (dc2 := 0) (ds2 := 0) 9 rfl ?_
    refine zT_call (v := some (.int 0)) (h2 := zH0) (d1 := 0) (s1 := 0) rfl rfl ?_ ?_
    · refine zT_gos (f := 200000) (pc2 := 7) (ls2 := [(0, .ref 162), (1, .int 1), (2, .int (xs 2))]) (st2 := [.int (-32), .int (xs 2)]) (h2 := zH0) (dc2 := 0) (ds2 := 0) 5 rfl ?_
      refine zT_if2 true rfl (zc_lt_t (by show ((xs 2) : Int32).toInt < -32; omega)) ?_
      refine zT_here (pc2 := 24) rfl ?_
      refine zT_gos (f := 200000) (pc2 := 25) (ls2 := [(0, .ref 162), (1, .int 1), (2, .int (xs 2))]) (st2 := [.int 0]) (h2 := zH0) (dc2 := 0) (ds2 := 0) 1 rfl ?_
      exact zT_ret rfl rfl
    refine zT_here (pc2 := 18) rfl ?_
    refine zT_gos (f := 200000) (pc2 := 22) (ls2 := [(0, .ref 162), (1, .int 1), (2, .int (xs 2))]) (st2 := [.int 0]) (h2 := zH0) (dc2 := 0) (ds2 := 0) 2 rfl ?_
    exact zT_ret rfl rfl
  refine zT_here (pc2 := 509) rfl ?_
  refine zT_gos (f := 200000) (pc2 := 1811) (ls2 := [(4, .int 6), (3, .ref 232), (2, .ref 162), (1, .ref 0), (0, .ref 11)]) (st2 := [.int 1]) (h2 := zH0) (dc2 := 117) (ds2 := 29934) 10 rfl ?_
  exact zT_ret rfl rfl
set_option maxRecDepth 1000000 in
set_option maxHeartbeats 4000000 in
theorem zo_6_6 (xs : Nat → Int32) (h0 : xs 0 &&& 63 = 6) (h1 : xs 1 = 1) (h2 : 31 < (xs 2).toInt) : zDone xs := by
  refine ⟨zH0, 117, 29934, ?_, by decide, by decide⟩
  refine zT_gos (f := 200000) (pc2 := 37) (ls2 := [(4, .int 0), (3, .ref 232), (2, .ref 162), (1, .ref 0), (0, .ref 11)]) (st2 := [.int (xs 0)]) (h2 := zH0) (dc2 := 117) (ds2 := 29934) 9 rfl ?_
  refine zT_gos (f := 200000) (pc2 := 40) (ls2 := [(4, .int 0), (3, .ref 232), (2, .ref 162), (1, .ref 0), (0, .ref 11)]) (st2 := [.int ((xs 0) &&& (63 : Int32))]) (h2 := zH0) (dc2 := 117) (ds2 := 29934) 2 rfl ?_
  refine zT_val h0 ?_
  refine zT_gos (f := 200000) (pc2 := 484) (ls2 := [(4, .int 0), (3, .ref 232), (2, .ref 162), (1, .ref 0), (0, .ref 11)]) (st2 := [.int (xs 1), .ref 0]) (h2 := zH0) (dc2 := 117) (ds2 := 29934) 7 rfl ?_
  refine zT_val h1 ?_
  refine zT_gos (f := 200000) (pc2 := 490) (ls2 := [(4, .int 0), (3, .ref 232), (2, .ref 162), (1, .ref 0), (0, .ref 11)]) (st2 := [.int (xs 2), .int 1, .ref 0]) (h2 := zH0) (dc2 := 117) (ds2 := 29934) 5 rfl ?_
  refine zT_call (v := some (.int 0)) (h2 := zH0) (d1 := 0) (s1 := 0) rfl rfl ?_ ?_
  · refine zT_gos (f := 200000) (pc2 := 13) (ls2 := [(0, .ref 0), (1, .int 1), (2, .int (xs 2))]) (st2 := [.int (xs 2), .int 1, .ref 6]) (h2 := zH0) (dc2 := 0) (ds2 := 0) 7 rfl ?_
    refine zT_call (v := some (.int 0)) (h2 := zH0) (d1 := 0) (s1 := 0) rfl rfl ?_ ?_
    · refine zT_gos (f := 200000) (pc2 := 7) (ls2 := [(0, .ref 6), (1, .int 1), (2, .int (xs 2))]) (st2 := [.int (-32), .int (xs 2)]) (h2 := zH0) (dc2 := 0) (ds2 := 0) 5 rfl ?_
      refine zT_if2 false rfl (zc_lt_f (by show ((xs 2) : Int32).toInt ≥ -32; omega)) ?_
      refine zT_here (pc2 := 10) rfl ?_
      refine zT_gos (f := 200000) (pc2 := 17) (ls2 := [(0, .ref 6), (1, .int 1), (2, .int (xs 2))]) (st2 := [.int 31, .int (xs 2)]) (h2 := zH0) (dc2 := 0) (ds2 := 0) 5 rfl ?_
      refine zT_if2 true rfl (zc_gt_t (by show ((xs 2) : Int32).toInt > 31; omega)) ?_
      refine zT_here (pc2 := 24) rfl ?_
      refine zT_gos (f := 200000) (pc2 := 25) (ls2 := [(0, .ref 6), (1, .int 1), (2, .int (xs 2))]) (st2 := [.int 0]) (h2 := zH0) (dc2 := 0) (ds2 := 0) 1 rfl ?_
      exact zT_ret rfl rfl
    refine zT_here (pc2 := 16) rfl ?_
    refine zT_gos (f := 200000) (pc2 := 20) (ls2 := [(0, .ref 0), (1, .int 1), (2, .int (xs 2))]) (st2 := [.int 0]) (h2 := zH0) (dc2 := 0) (ds2 := 0) 2 rfl ?_
    exact zT_ret rfl rfl
  refine zT_here (pc2 := 493) rfl ?_
  refine zT_gos (f := 200000) (pc2 := 500) (ls2 := [(4, .int 0), (3, .ref 232), (2, .ref 162), (1, .ref 0), (0, .ref 11)]) (st2 := [.int (xs 1), .ref 162, .int 0]) (h2 := zH0) (dc2 := 117) (ds2 := 29934) 6 rfl ?_
  refine zT_val h1 ?_
  refine zT_gos (f := 200000) (pc2 := 506) (ls2 := [(4, .int 0), (3, .ref 232), (2, .ref 162), (1, .ref 0), (0, .ref 11)]) (st2 := [.int (xs 2), .int 1, .ref 162, .int 0]) (h2 := zH0) (dc2 := 117) (ds2 := 29934) 5 rfl ?_
  refine zT_call (v := some (.int 0)) (h2 := zH0) (d1 := 0) (s1 := 0) rfl rfl ?_ ?_
  · refine zT_gos (f := 200000) (pc2 := 15) (ls2 := [(0, .ref 162), (1, .int 1), (2, .int (xs 2))]) (st2 := [.int (xs 2), .int 1, .ref 162]) (h2 := zH0) (dc2 := 0) (ds2 := 0) 9 rfl ?_
    refine zT_call (v := some (.int 0)) (h2 := zH0) (d1 := 0) (s1 := 0) rfl rfl ?_ ?_
    · refine zT_gos (f := 200000) (pc2 := 7) (ls2 := [(0, .ref 162), (1, .int 1), (2, .int (xs 2))]) (st2 := [.int (-32), .int (xs 2)]) (h2 := zH0) (dc2 := 0) (ds2 := 0) 5 rfl ?_
      refine zT_if2 false rfl (zc_lt_f (by show ((xs 2) : Int32).toInt ≥ -32; omega)) ?_
      refine zT_here (pc2 := 10) rfl ?_
      refine zT_gos (f := 200000) (pc2 := 17) (ls2 := [(0, .ref 162), (1, .int 1), (2, .int (xs 2))]) (st2 := [.int 31, .int (xs 2)]) (h2 := zH0) (dc2 := 0) (ds2 := 0) 5 rfl ?_
      refine zT_if2 true rfl (zc_gt_t (by show ((xs 2) : Int32).toInt > 31; omega)) ?_
      refine zT_here (pc2 := 24) rfl ?_
      refine zT_gos (f := 200000) (pc2 := 25) (ls2 := [(0, .ref 162), (1, .int 1), (2, .int (xs 2))]) (st2 := [.int 0]) (h2 := zH0) (dc2 := 0) (ds2 := 0) 1 rfl ?_
      exact zT_ret rfl rfl
    refine zT_here (pc2 := 18) rfl ?_
    refine zT_gos (f := 200000) (pc2 := 22) (ls2 := [(0, .ref 162), (1, .int 1), (2, .int (xs 2))]) (st2 := [.int 0]) (h2 := zH0) (dc2 := 0) (ds2 := 0) 2 rfl ?_
    exact zT_ret rfl rfl
  refine zT_here (pc2 := 509) rfl ?_
  refine zT_gos (f := 200000) (pc2 := 1811) (ls2 := [(4, .int 6), (3, .ref 232), (2, .ref 162), (1, .ref 0), (0, .ref 11)]) (st2 := [.int 1]) (h2 := zH0) (dc2 := 117) (ds2 := 29934) 10 rfl ?_
  exact zT_ret rfl rfl
set_option maxRecDepth 1000000 in
set_option maxHeartbeats 4000000 in
theorem zo_6_7 (xs : Nat → Int32) (h0 : xs 0 &&& 63 = 6) (h1 : xs 1 = 1) (h2 : -32 ≤ (xs 2).toInt ∧ (xs 2).toInt ≤ 31) : zDone xs := by
  refine ⟨(((((((zH0.set 19 (.inr (.inl (20, [70644700037184])))).set 20 (.inl (0, 120, [22000000, 0, 10000, 0, 0, 0]))).set 18 (.inr (.inr (.inr (2, [.int 1, .int 1, .ref 38, .ref 40]))))).set 0 (.inr (.inr (.inr (9, [.ref 2, .int 0, .ref 4, .ref 6, .ref 20, .long ((70369822130240 : Int64) ||| (((((xs 2) + (64 : Int32)) &&& (255 : Int32))).toInt64 <<< (((32 : Int32)).toInt64 &&& 63))), .ref 34, .ref 36, .int 0, .long 0, .ref 42, .ref 44, .ref 60, .ref 66, .ref 72, .ref 74, .ref 150, .ref 158]))))).set 81 (.inr (.inr (.inr (10, [.int 0, .ref 164, .int 0, .ref 166, .ref 168, .ref 170, .ref 172, .ref 174, .ref 176, .ref 178, .ref 180, .ref 182, .ref 184, .ref 186, .int 0, .int 0, .int 0, .int 0, .int 0, .int 0, .int 0, .int 0, .int 0, .int (-1), .ref 188, .ref 190, .ref 192, .int 1, .int 0, .ref 194, .ref 196, .ref 198, .int 0, .int 0, .int 0, .int 0, .ref 200, .ref 202, .ref 204, .int 0, .ref 206, .ref 208, .ref 210, .ref 212, .ref 214, .ref 216, .ref 218, .ref 220, .ref 222, .ref 224, .ref 226, .ref 228, .int 0, .ref 230]))))).set 96 (.inl (0, 252, [0, 0, 0, 0, 0, 0, 22000000, 0, 10000, 0, 0, 0]))).set 94 (.inl (0, 6, [0, (xs 2), 0, 0, 0, 0]))), 117, 29934, ?_, by decide, by decide⟩
  refine zT_gos (f := 200000) (pc2 := 37) (ls2 := [(4, .int 0), (3, .ref 232), (2, .ref 162), (1, .ref 0), (0, .ref 11)]) (st2 := [.int (xs 0)]) (h2 := zH0) (dc2 := 117) (ds2 := 29934) 9 rfl ?_
  refine zT_gos (f := 200000) (pc2 := 40) (ls2 := [(4, .int 0), (3, .ref 232), (2, .ref 162), (1, .ref 0), (0, .ref 11)]) (st2 := [.int ((xs 0) &&& (63 : Int32))]) (h2 := zH0) (dc2 := 117) (ds2 := 29934) 2 rfl ?_
  refine zT_val h0 ?_
  refine zT_gos (f := 200000) (pc2 := 484) (ls2 := [(4, .int 0), (3, .ref 232), (2, .ref 162), (1, .ref 0), (0, .ref 11)]) (st2 := [.int (xs 1), .ref 0]) (h2 := zH0) (dc2 := 117) (ds2 := 29934) 7 rfl ?_
  refine zT_val h1 ?_
  refine zT_gos (f := 200000) (pc2 := 490) (ls2 := [(4, .int 0), (3, .ref 232), (2, .ref 162), (1, .ref 0), (0, .ref 11)]) (st2 := [.int (xs 2), .int 1, .ref 0]) (h2 := zH0) (dc2 := 117) (ds2 := 29934) 5 rfl ?_
  refine zT_call (v := some (.int 1)) (h2 := ((((zH0.set 19 (.inr (.inl (20, [70644700037184])))).set 20 (.inl (0, 120, [22000000, 0, 10000, 0, 0, 0]))).set 18 (.inr (.inr (.inr (2, [.int 1, .int 1, .ref 38, .ref 40]))))).set 0 (.inr (.inr (.inr (9, [.ref 2, .int 0, .ref 4, .ref 6, .ref 20, .long ((70369822130240 : Int64) ||| (((((xs 2) + (64 : Int32)) &&& (255 : Int32))).toInt64 <<< (((32 : Int32)).toInt64 &&& 63))), .ref 34, .ref 36, .int 0, .long 0, .ref 42, .ref 44, .ref 60, .ref 66, .ref 72, .ref 74, .ref 150, .ref 158])))))) (d1 := 0) (s1 := 0) rfl rfl ?_ ?_
  · refine zT_gos (f := 200000) (pc2 := 13) (ls2 := [(0, .ref 0), (1, .int 1), (2, .int (xs 2))]) (st2 := [.int (xs 2), .int 1, .ref 6]) (h2 := zH0) (dc2 := 0) (ds2 := 0) 7 rfl ?_
    refine zT_call (v := some (.int 1)) (h2 := zH0) (d1 := 0) (s1 := 0) rfl rfl ?_ ?_
    · refine zT_gos (f := 200000) (pc2 := 7) (ls2 := [(0, .ref 6), (1, .int 1), (2, .int (xs 2))]) (st2 := [.int (-32), .int (xs 2)]) (h2 := zH0) (dc2 := 0) (ds2 := 0) 5 rfl ?_
      refine zT_if2 false rfl (zc_lt_f (by show ((xs 2) : Int32).toInt ≥ -32; omega)) ?_
      refine zT_here (pc2 := 10) rfl ?_
      refine zT_gos (f := 200000) (pc2 := 17) (ls2 := [(0, .ref 6), (1, .int 1), (2, .int (xs 2))]) (st2 := [.int 31, .int (xs 2)]) (h2 := zH0) (dc2 := 0) (ds2 := 0) 5 rfl ?_
      refine zT_if2 false rfl (zc_gt_f (by show ((xs 2) : Int32).toInt ≤ 31; omega)) ?_
      refine zT_here (pc2 := 20) rfl ?_
      refine zT_gos (f := 200000) (pc2 := 25) (ls2 := [(0, .ref 6), (1, .int 1), (2, .int (xs 2))]) (st2 := [.int 1]) (h2 := zH0) (dc2 := 0) (ds2 := 0) 2 rfl ?_
      exact zT_ret rfl rfl
    refine zT_here (pc2 := 16) rfl ?_
    refine zT_gos (f := 200000) (pc2 := 50) (ls2 := [(0, .ref 0), (1, .int 1), (2, .int (xs 2))]) (st2 := [.int 1]) (h2 := ((((zH0.set 19 (.inr (.inl (20, [70644700037184])))).set 20 (.inl (0, 120, [22000000, 0, 10000, 0, 0, 0]))).set 18 (.inr (.inr (.inr (2, [.int 1, .int 1, .ref 38, .ref 40]))))).set 0 (.inr (.inr (.inr (9, [.ref 2, .int 0, .ref 4, .ref 6, .ref 20, .long ((70369822130240 : Int64) ||| (((((xs 2) + (64 : Int32)) &&& (255 : Int32))).toInt64 <<< (((32 : Int32)).toInt64 &&& 63))), .ref 34, .ref 36, .int 0, .long 0, .ref 42, .ref 44, .ref 60, .ref 66, .ref 72, .ref 74, .ref 150, .ref 158])))))) (dc2 := 0) (ds2 := 0) 16 rfl ?_
    exact zT_ret rfl rfl
  refine zT_here (pc2 := 493) rfl ?_
  refine zT_gos (f := 200000) (pc2 := 500) (ls2 := [(4, .int 0), (3, .ref 232), (2, .ref 162), (1, .ref 0), (0, .ref 11)]) (st2 := [.int (xs 1), .ref 162, .int 1]) (h2 := ((((zH0.set 19 (.inr (.inl (20, [70644700037184])))).set 20 (.inl (0, 120, [22000000, 0, 10000, 0, 0, 0]))).set 18 (.inr (.inr (.inr (2, [.int 1, .int 1, .ref 38, .ref 40]))))).set 0 (.inr (.inr (.inr (9, [.ref 2, .int 0, .ref 4, .ref 6, .ref 20, .long ((70369822130240 : Int64) ||| (((((xs 2) + (64 : Int32)) &&& (255 : Int32))).toInt64 <<< (((32 : Int32)).toInt64 &&& 63))), .ref 34, .ref 36, .int 0, .long 0, .ref 42, .ref 44, .ref 60, .ref 66, .ref 72, .ref 74, .ref 150, .ref 158])))))) (dc2 := 117) (ds2 := 29934) 6 rfl ?_
  refine zT_val h1 ?_
  refine zT_gos (f := 200000) (pc2 := 506) (ls2 := [(4, .int 0), (3, .ref 232), (2, .ref 162), (1, .ref 0), (0, .ref 11)]) (st2 := [.int (xs 2), .int 1, .ref 162, .int 1]) (h2 := ((((zH0.set 19 (.inr (.inl (20, [70644700037184])))).set 20 (.inl (0, 120, [22000000, 0, 10000, 0, 0, 0]))).set 18 (.inr (.inr (.inr (2, [.int 1, .int 1, .ref 38, .ref 40]))))).set 0 (.inr (.inr (.inr (9, [.ref 2, .int 0, .ref 4, .ref 6, .ref 20, .long ((70369822130240 : Int64) ||| (((((xs 2) + (64 : Int32)) &&& (255 : Int32))).toInt64 <<< (((32 : Int32)).toInt64 &&& 63))), .ref 34, .ref 36, .int 0, .long 0, .ref 42, .ref 44, .ref 60, .ref 66, .ref 72, .ref 74, .ref 150, .ref 158])))))) (dc2 := 117) (ds2 := 29934) 5 rfl ?_
  refine zT_call (v := some (.int 1)) (h2 := (((((((zH0.set 19 (.inr (.inl (20, [70644700037184])))).set 20 (.inl (0, 120, [22000000, 0, 10000, 0, 0, 0]))).set 18 (.inr (.inr (.inr (2, [.int 1, .int 1, .ref 38, .ref 40]))))).set 0 (.inr (.inr (.inr (9, [.ref 2, .int 0, .ref 4, .ref 6, .ref 20, .long ((70369822130240 : Int64) ||| (((((xs 2) + (64 : Int32)) &&& (255 : Int32))).toInt64 <<< (((32 : Int32)).toInt64 &&& 63))), .ref 34, .ref 36, .int 0, .long 0, .ref 42, .ref 44, .ref 60, .ref 66, .ref 72, .ref 74, .ref 150, .ref 158]))))).set 81 (.inr (.inr (.inr (10, [.int 0, .ref 164, .int 0, .ref 166, .ref 168, .ref 170, .ref 172, .ref 174, .ref 176, .ref 178, .ref 180, .ref 182, .ref 184, .ref 186, .int 0, .int 0, .int 0, .int 0, .int 0, .int 0, .int 0, .int 0, .int 0, .int (-1), .ref 188, .ref 190, .ref 192, .int 1, .int 0, .ref 194, .ref 196, .ref 198, .int 0, .int 0, .int 0, .int 0, .ref 200, .ref 202, .ref 204, .int 0, .ref 206, .ref 208, .ref 210, .ref 212, .ref 214, .ref 216, .ref 218, .ref 220, .ref 222, .ref 224, .ref 226, .ref 228, .int 0, .ref 230]))))).set 96 (.inl (0, 252, [0, 0, 0, 0, 0, 0, 22000000, 0, 10000, 0, 0, 0]))).set 94 (.inl (0, 6, [0, (xs 2), 0, 0, 0, 0])))) (d1 := 0) (s1 := 0) rfl rfl ?_ ?_
  · refine zT_gos (f := 200000) (pc2 := 15) (ls2 := [(0, .ref 162), (1, .int 1), (2, .int (xs 2))]) (st2 := [.int (xs 2), .int 1, .ref 162]) (h2 := ((((zH0.set 19 (.inr (.inl (20, [70644700037184])))).set 20 (.inl (0, 120, [22000000, 0, 10000, 0, 0, 0]))).set 18 (.inr (.inr (.inr (2, [.int 1, .int 1, .ref 38, .ref 40]))))).set 0 (.inr (.inr (.inr (9, [.ref 2, .int 0, .ref 4, .ref 6, .ref 20, .long ((70369822130240 : Int64) ||| (((((xs 2) + (64 : Int32)) &&& (255 : Int32))).toInt64 <<< (((32 : Int32)).toInt64 &&& 63))), .ref 34, .ref 36, .int 0, .long 0, .ref 42, .ref 44, .ref 60, .ref 66, .ref 72, .ref 74, .ref 150, .ref 158])))))) (dc2 := 0) (ds2 := 0) 9 rfl ?_
    refine zT_call (v := some (.int 1)) (h2 := ((((zH0.set 19 (.inr (.inl (20, [70644700037184])))).set 20 (.inl (0, 120, [22000000, 0, 10000, 0, 0, 0]))).set 18 (.inr (.inr (.inr (2, [.int 1, .int 1, .ref 38, .ref 40]))))).set 0 (.inr (.inr (.inr (9, [.ref 2, .int 0, .ref 4, .ref 6, .ref 20, .long ((70369822130240 : Int64) ||| (((((xs 2) + (64 : Int32)) &&& (255 : Int32))).toInt64 <<< (((32 : Int32)).toInt64 &&& 63))), .ref 34, .ref 36, .int 0, .long 0, .ref 42, .ref 44, .ref 60, .ref 66, .ref 72, .ref 74, .ref 150, .ref 158])))))) (d1 := 0) (s1 := 0) rfl rfl ?_ ?_
    · refine zT_gos (f := 200000) (pc2 := 7) (ls2 := [(0, .ref 162), (1, .int 1), (2, .int (xs 2))]) (st2 := [.int (-32), .int (xs 2)]) (h2 := ((((zH0.set 19 (.inr (.inl (20, [70644700037184])))).set 20 (.inl (0, 120, [22000000, 0, 10000, 0, 0, 0]))).set 18 (.inr (.inr (.inr (2, [.int 1, .int 1, .ref 38, .ref 40]))))).set 0 (.inr (.inr (.inr (9, [.ref 2, .int 0, .ref 4, .ref 6, .ref 20, .long ((70369822130240 : Int64) ||| (((((xs 2) + (64 : Int32)) &&& (255 : Int32))).toInt64 <<< (((32 : Int32)).toInt64 &&& 63))), .ref 34, .ref 36, .int 0, .long 0, .ref 42, .ref 44, .ref 60, .ref 66, .ref 72, .ref 74, .ref 150, .ref 158])))))) (dc2 := 0) (ds2 := 0) 5 rfl ?_
      refine zT_if2 false rfl (zc_lt_f (by show ((xs 2) : Int32).toInt ≥ -32; omega)) ?_
      refine zT_here (pc2 := 10) rfl ?_
      refine zT_gos (f := 200000) (pc2 := 17) (ls2 := [(0, .ref 162), (1, .int 1), (2, .int (xs 2))]) (st2 := [.int 31, .int (xs 2)]) (h2 := ((((zH0.set 19 (.inr (.inl (20, [70644700037184])))).set 20 (.inl (0, 120, [22000000, 0, 10000, 0, 0, 0]))).set 18 (.inr (.inr (.inr (2, [.int 1, .int 1, .ref 38, .ref 40]))))).set 0 (.inr (.inr (.inr (9, [.ref 2, .int 0, .ref 4, .ref 6, .ref 20, .long ((70369822130240 : Int64) ||| (((((xs 2) + (64 : Int32)) &&& (255 : Int32))).toInt64 <<< (((32 : Int32)).toInt64 &&& 63))), .ref 34, .ref 36, .int 0, .long 0, .ref 42, .ref 44, .ref 60, .ref 66, .ref 72, .ref 74, .ref 150, .ref 158])))))) (dc2 := 0) (ds2 := 0) 5 rfl ?_
      refine zT_if2 false rfl (zc_gt_f (by show ((xs 2) : Int32).toInt ≤ 31; omega)) ?_
      refine zT_here (pc2 := 20) rfl ?_
      refine zT_gos (f := 200000) (pc2 := 25) (ls2 := [(0, .ref 162), (1, .int 1), (2, .int (xs 2))]) (st2 := [.int 1]) (h2 := ((((zH0.set 19 (.inr (.inl (20, [70644700037184])))).set 20 (.inl (0, 120, [22000000, 0, 10000, 0, 0, 0]))).set 18 (.inr (.inr (.inr (2, [.int 1, .int 1, .ref 38, .ref 40]))))).set 0 (.inr (.inr (.inr (9, [.ref 2, .int 0, .ref 4, .ref 6, .ref 20, .long ((70369822130240 : Int64) ||| (((((xs 2) + (64 : Int32)) &&& (255 : Int32))).toInt64 <<< (((32 : Int32)).toInt64 &&& 63))), .ref 34, .ref 36, .int 0, .long 0, .ref 42, .ref 44, .ref 60, .ref 66, .ref 72, .ref 74, .ref 150, .ref 158])))))) (dc2 := 0) (ds2 := 0) 2 rfl ?_
      exact zT_ret rfl rfl
    refine zT_here (pc2 := 18) rfl ?_
    refine zT_gos (f := 200000) (pc2 := 39) (ls2 := [(0, .ref 162), (1, .int 1), (2, .int (xs 2))]) (st2 := [.int 1]) (h2 := (((((((zH0.set 19 (.inr (.inl (20, [70644700037184])))).set 20 (.inl (0, 120, [22000000, 0, 10000, 0, 0, 0]))).set 18 (.inr (.inr (.inr (2, [.int 1, .int 1, .ref 38, .ref 40]))))).set 0 (.inr (.inr (.inr (9, [.ref 2, .int 0, .ref 4, .ref 6, .ref 20, .long ((70369822130240 : Int64) ||| (((((xs 2) + (64 : Int32)) &&& (255 : Int32))).toInt64 <<< (((32 : Int32)).toInt64 &&& 63))), .ref 34, .ref 36, .int 0, .long 0, .ref 42, .ref 44, .ref 60, .ref 66, .ref 72, .ref 74, .ref 150, .ref 158]))))).set 81 (.inr (.inr (.inr (10, [.int 0, .ref 164, .int 0, .ref 166, .ref 168, .ref 170, .ref 172, .ref 174, .ref 176, .ref 178, .ref 180, .ref 182, .ref 184, .ref 186, .int 0, .int 0, .int 0, .int 0, .int 0, .int 0, .int 0, .int 0, .int 0, .int (-1), .ref 188, .ref 190, .ref 192, .int 1, .int 0, .ref 194, .ref 196, .ref 198, .int 0, .int 0, .int 0, .int 0, .ref 200, .ref 202, .ref 204, .int 0, .ref 206, .ref 208, .ref 210, .ref 212, .ref 214, .ref 216, .ref 218, .ref 220, .ref 222, .ref 224, .ref 226, .ref 228, .int 0, .ref 230]))))).set 96 (.inl (0, 252, [0, 0, 0, 0, 0, 0, 22000000, 0, 10000, 0, 0, 0]))).set 94 (.inl (0, 6, [0, (xs 2), 0, 0, 0, 0])))) (dc2 := 0) (ds2 := 0) 11 rfl ?_
    exact zT_ret rfl rfl
  refine zT_here (pc2 := 509) rfl ?_
  refine zT_gos (f := 200000) (pc2 := 1811) (ls2 := [(4, .int 6), (3, .ref 232), (2, .ref 162), (1, .ref 0), (0, .ref 11)]) (st2 := [.int 1]) (h2 := (((((((zH0.set 19 (.inr (.inl (20, [70644700037184])))).set 20 (.inl (0, 120, [22000000, 0, 10000, 0, 0, 0]))).set 18 (.inr (.inr (.inr (2, [.int 1, .int 1, .ref 38, .ref 40]))))).set 0 (.inr (.inr (.inr (9, [.ref 2, .int 0, .ref 4, .ref 6, .ref 20, .long ((70369822130240 : Int64) ||| (((((xs 2) + (64 : Int32)) &&& (255 : Int32))).toInt64 <<< (((32 : Int32)).toInt64 &&& 63))), .ref 34, .ref 36, .int 0, .long 0, .ref 42, .ref 44, .ref 60, .ref 66, .ref 72, .ref 74, .ref 150, .ref 158]))))).set 81 (.inr (.inr (.inr (10, [.int 0, .ref 164, .int 0, .ref 166, .ref 168, .ref 170, .ref 172, .ref 174, .ref 176, .ref 178, .ref 180, .ref 182, .ref 184, .ref 186, .int 0, .int 0, .int 0, .int 0, .int 0, .int 0, .int 0, .int 0, .int 0, .int (-1), .ref 188, .ref 190, .ref 192, .int 1, .int 0, .ref 194, .ref 196, .ref 198, .int 0, .int 0, .int 0, .int 0, .ref 200, .ref 202, .ref 204, .int 0, .ref 206, .ref 208, .ref 210, .ref 212, .ref 214, .ref 216, .ref 218, .ref 220, .ref 222, .ref 224, .ref 226, .ref 228, .int 0, .ref 230]))))).set 96 (.inl (0, 252, [0, 0, 0, 0, 0, 0, 22000000, 0, 10000, 0, 0, 0]))).set 94 (.inl (0, 6, [0, (xs 2), 0, 0, 0, 0])))) (dc2 := 117) (ds2 := 29934) 10 rfl ?_
  exact zT_ret rfl rfl
set_option maxRecDepth 1000000 in
set_option maxHeartbeats 4000000 in
theorem zo_6_8 (xs : Nat → Int32) (h0 : xs 0 &&& 63 = 6) (h1 : xs 1 = 2) (h2 : (xs 2).toInt < -32) : zDone xs := by
  refine ⟨zH0, 117, 29934, ?_, by decide, by decide⟩
  refine zT_gos (f := 200000) (pc2 := 37) (ls2 := [(4, .int 0), (3, .ref 232), (2, .ref 162), (1, .ref 0), (0, .ref 11)]) (st2 := [.int (xs 0)]) (h2 := zH0) (dc2 := 117) (ds2 := 29934) 9 rfl ?_
  refine zT_gos (f := 200000) (pc2 := 40) (ls2 := [(4, .int 0), (3, .ref 232), (2, .ref 162), (1, .ref 0), (0, .ref 11)]) (st2 := [.int ((xs 0) &&& (63 : Int32))]) (h2 := zH0) (dc2 := 117) (ds2 := 29934) 2 rfl ?_
  refine zT_val h0 ?_
  refine zT_gos (f := 200000) (pc2 := 484) (ls2 := [(4, .int 0), (3, .ref 232), (2, .ref 162), (1, .ref 0), (0, .ref 11)]) (st2 := [.int (xs 1), .ref 0]) (h2 := zH0) (dc2 := 117) (ds2 := 29934) 7 rfl ?_
  refine zT_val h1 ?_
  refine zT_gos (f := 200000) (pc2 := 490) (ls2 := [(4, .int 0), (3, .ref 232), (2, .ref 162), (1, .ref 0), (0, .ref 11)]) (st2 := [.int (xs 2), .int 2, .ref 0]) (h2 := zH0) (dc2 := 117) (ds2 := 29934) 5 rfl ?_
  refine zT_call (v := some (.int 0)) (h2 := zH0) (d1 := 0) (s1 := 0) rfl rfl ?_ ?_
  · refine zT_gos (f := 200000) (pc2 := 13) (ls2 := [(0, .ref 0), (1, .int 2), (2, .int (xs 2))]) (st2 := [.int (xs 2), .int 2, .ref 6]) (h2 := zH0) (dc2 := 0) (ds2 := 0) 7 rfl ?_
    refine zT_call (v := some (.int 0)) (h2 := zH0) (d1 := 0) (s1 := 0) rfl rfl ?_ ?_
    · refine zT_gos (f := 200000) (pc2 := 7) (ls2 := [(0, .ref 6), (1, .int 2), (2, .int (xs 2))]) (st2 := [.int (-32), .int (xs 2)]) (h2 := zH0) (dc2 := 0) (ds2 := 0) 5 rfl ?_
      refine zT_if2 true rfl (zc_lt_t (by show ((xs 2) : Int32).toInt < -32; omega)) ?_
      refine zT_here (pc2 := 24) rfl ?_
      refine zT_gos (f := 200000) (pc2 := 25) (ls2 := [(0, .ref 6), (1, .int 2), (2, .int (xs 2))]) (st2 := [.int 0]) (h2 := zH0) (dc2 := 0) (ds2 := 0) 1 rfl ?_
      exact zT_ret rfl rfl
    refine zT_here (pc2 := 16) rfl ?_
    refine zT_gos (f := 200000) (pc2 := 20) (ls2 := [(0, .ref 0), (1, .int 2), (2, .int (xs 2))]) (st2 := [.int 0]) (h2 := zH0) (dc2 := 0) (ds2 := 0) 2 rfl ?_
    exact zT_ret rfl rfl
  refine zT_here (pc2 := 493) rfl ?_
  refine zT_gos (f := 200000) (pc2 := 500) (ls2 := [(4, .int 0), (3, .ref 232), (2, .ref 162), (1, .ref 0), (0, .ref 11)]) (st2 := [.int (xs 1), .ref 162, .int 0]) (h2 := zH0) (dc2 := 117) (ds2 := 29934) 6 rfl ?_
  refine zT_val h1 ?_
  refine zT_gos (f := 200000) (pc2 := 506) (ls2 := [(4, .int 0), (3, .ref 232), (2, .ref 162), (1, .ref 0), (0, .ref 11)]) (st2 := [.int (xs 2), .int 2, .ref 162, .int 0]) (h2 := zH0) (dc2 := 117) (ds2 := 29934) 5 rfl ?_
  refine zT_call (v := some (.int 0)) (h2 := zH0) (d1 := 0) (s1 := 0) rfl rfl ?_ ?_
  · refine zT_gos (f := 200000) (pc2 := 15) (ls2 := [(0, .ref 162), (1, .int 2), (2, .int (xs 2))]) (st2 := [.int (xs 2), .int 2, .ref 162]) (h2 := zH0) (dc2 := 0) (ds2 := 0) 9 rfl ?_
    refine zT_call (v := some (.int 0)) (h2 := zH0) (d1 := 0) (s1 := 0) rfl rfl ?_ ?_
    · refine zT_gos (f := 200000) (pc2 := 7) (ls2 := [(0, .ref 162), (1, .int 2), (2, .int (xs 2))]) (st2 := [.int (-32), .int (xs 2)]) (h2 := zH0) (dc2 := 0) (ds2 := 0) 5 rfl ?_
      refine zT_if2 true rfl (zc_lt_t (by show ((xs 2) : Int32).toInt < -32; omega)) ?_
      refine zT_here (pc2 := 24) rfl ?_
      refine zT_gos (f := 200000) (pc2 := 25) (ls2 := [(0, .ref 162), (1, .int 2), (2, .int (xs 2))]) (st2 := [.int 0]) (h2 := zH0) (dc2 := 0) (ds2 := 0) 1 rfl ?_
      exact zT_ret rfl rfl
    refine zT_here (pc2 := 18) rfl ?_
    refine zT_gos (f := 200000) (pc2 := 22) (ls2 := [(0, .ref 162), (1, .int 2), (2, .int (xs 2))]) (st2 := [.int 0]) (h2 := zH0) (dc2 := 0) (ds2 := 0) 2 rfl ?_
    exact zT_ret rfl rfl
  refine zT_here (pc2 := 509) rfl ?_
  refine zT_gos (f := 200000) (pc2 := 1811) (ls2 := [(4, .int 6), (3, .ref 232), (2, .ref 162), (1, .ref 0), (0, .ref 11)]) (st2 := [.int 1]) (h2 := zH0) (dc2 := 117) (ds2 := 29934) 10 rfl ?_
  exact zT_ret rfl rfl
set_option maxRecDepth 1000000 in
set_option maxHeartbeats 4000000 in
theorem zo_6_9 (xs : Nat → Int32) (h0 : xs 0 &&& 63 = 6) (h1 : xs 1 = 2) (h2 : 31 < (xs 2).toInt) : zDone xs := by
  refine ⟨zH0, 117, 29934, ?_, by decide, by decide⟩
  refine zT_gos (f := 200000) (pc2 := 37) (ls2 := [(4, .int 0), (3, .ref 232), (2, .ref 162), (1, .ref 0), (0, .ref 11)]) (st2 := [.int (xs 0)]) (h2 := zH0) (dc2 := 117) (ds2 := 29934) 9 rfl ?_
  refine zT_gos (f := 200000) (pc2 := 40) (ls2 := [(4, .int 0), (3, .ref 232), (2, .ref 162), (1, .ref 0), (0, .ref 11)]) (st2 := [.int ((xs 0) &&& (63 : Int32))]) (h2 := zH0) (dc2 := 117) (ds2 := 29934) 2 rfl ?_
  refine zT_val h0 ?_
  refine zT_gos (f := 200000) (pc2 := 484) (ls2 := [(4, .int 0), (3, .ref 232), (2, .ref 162), (1, .ref 0), (0, .ref 11)]) (st2 := [.int (xs 1), .ref 0]) (h2 := zH0) (dc2 := 117) (ds2 := 29934) 7 rfl ?_
  refine zT_val h1 ?_
  refine zT_gos (f := 200000) (pc2 := 490) (ls2 := [(4, .int 0), (3, .ref 232), (2, .ref 162), (1, .ref 0), (0, .ref 11)]) (st2 := [.int (xs 2), .int 2, .ref 0]) (h2 := zH0) (dc2 := 117) (ds2 := 29934) 5 rfl ?_
  refine zT_call (v := some (.int 0)) (h2 := zH0) (d1 := 0) (s1 := 0) rfl rfl ?_ ?_
  · refine zT_gos (f := 200000) (pc2 := 13) (ls2 := [(0, .ref 0), (1, .int 2), (2, .int (xs 2))]) (st2 := [.int (xs 2), .int 2, .ref 6]) (h2 := zH0) (dc2 := 0) (ds2 := 0) 7 rfl ?_
    refine zT_call (v := some (.int 0)) (h2 := zH0) (d1 := 0) (s1 := 0) rfl rfl ?_ ?_
    · refine zT_gos (f := 200000) (pc2 := 7) (ls2 := [(0, .ref 6), (1, .int 2), (2, .int (xs 2))]) (st2 := [.int (-32), .int (xs 2)]) (h2 := zH0) (dc2 := 0) (ds2 := 0) 5 rfl ?_
      refine zT_if2 false rfl (zc_lt_f (by show ((xs 2) : Int32).toInt ≥ -32; omega)) ?_
      refine zT_here (pc2 := 10) rfl ?_
      refine zT_gos (f := 200000) (pc2 := 17) (ls2 := [(0, .ref 6), (1, .int 2), (2, .int (xs 2))]) (st2 := [.int 31, .int (xs 2)]) (h2 := zH0) (dc2 := 0) (ds2 := 0) 5 rfl ?_
      refine zT_if2 true rfl (zc_gt_t (by show ((xs 2) : Int32).toInt > 31; omega)) ?_
      refine zT_here (pc2 := 24) rfl ?_
      refine zT_gos (f := 200000) (pc2 := 25) (ls2 := [(0, .ref 6), (1, .int 2), (2, .int (xs 2))]) (st2 := [.int 0]) (h2 := zH0) (dc2 := 0) (ds2 := 0) 1 rfl ?_
      exact zT_ret rfl rfl
    refine zT_here (pc2 := 16) rfl ?_
    refine zT_gos (f := 200000) (pc2 := 20) (ls2 := [(0, .ref 0), (1, .int 2), (2, .int (xs 2))]) (st2 := [.int 0]) (h2 := zH0) (dc2 := 0) (ds2 := 0) 2 rfl ?_
    exact zT_ret rfl rfl
  refine zT_here (pc2 := 493) rfl ?_
  refine zT_gos (f := 200000) (pc2 := 500) (ls2 := [(4, .int 0), (3, .ref 232), (2, .ref 162), (1, .ref 0), (0, .ref 11)]) (st2 := [.int (xs 1), .ref 162, .int 0]) (h2 := zH0) (dc2 := 117) (ds2 := 29934) 6 rfl ?_
  refine zT_val h1 ?_
  refine zT_gos (f := 200000) (pc2 := 506) (ls2 := [(4, .int 0), (3, .ref 232), (2, .ref 162), (1, .ref 0), (0, .ref 11)]) (st2 := [.int (xs 2), .int 2, .ref 162, .int 0]) (h2 := zH0) (dc2 := 117) (ds2 := 29934) 5 rfl ?_
  refine zT_call (v := some (.int 0)) (h2 := zH0) (d1 := 0) (s1 := 0) rfl rfl ?_ ?_
  · refine zT_gos (f := 200000) (pc2 := 15) (ls2 := [(0, .ref 162), (1, .int 2), (2, .int (xs 2))]) (st2 := [.int (xs 2), .int 2, .ref 162]) (h2 := zH0) (dc2 := 0) (ds2 := 0) 9 rfl ?_
    refine zT_call (v := some (.int 0)) (h2 := zH0) (d1 := 0) (s1 := 0) rfl rfl ?_ ?_
    · refine zT_gos (f := 200000) (pc2 := 7) (ls2 := [(0, .ref 162), (1, .int 2), (2, .int (xs 2))]) (st2 := [.int (-32), .int (xs 2)]) (h2 := zH0) (dc2 := 0) (ds2 := 0) 5 rfl ?_
      refine zT_if2 false rfl (zc_lt_f (by show ((xs 2) : Int32).toInt ≥ -32; omega)) ?_
      refine zT_here (pc2 := 10) rfl ?_
      refine zT_gos (f := 200000) (pc2 := 17) (ls2 := [(0, .ref 162), (1, .int 2), (2, .int (xs 2))]) (st2 := [.int 31, .int (xs 2)]) (h2 := zH0) (dc2 := 0) (ds2 := 0) 5 rfl ?_
      refine zT_if2 true rfl (zc_gt_t (by show ((xs 2) : Int32).toInt > 31; omega)) ?_
      refine zT_here (pc2 := 24) rfl ?_
      refine zT_gos (f := 200000) (pc2 := 25) (ls2 := [(0, .ref 162), (1, .int 2), (2, .int (xs 2))]) (st2 := [.int 0]) (h2 := zH0) (dc2 := 0) (ds2 := 0) 1 rfl ?_
      exact zT_ret rfl rfl
    refine zT_here (pc2 := 18) rfl ?_
    refine zT_gos (f := 200000) (pc2 := 22) (ls2 := [(0, .ref 162), (1, .int 2), (2, .int (xs 2))]) (st2 := [.int 0]) (h2 := zH0) (dc2 := 0) (ds2 := 0) 2 rfl ?_
    exact zT_ret rfl rfl
  refine zT_here (pc2 := 509) rfl ?_
  refine zT_gos (f := 200000) (pc2 := 1811) (ls2 := [(4, .int 6), (3, .ref 232), (2, .ref 162), (1, .ref 0), (0, .ref 11)]) (st2 := [.int 1]) (h2 := zH0) (dc2 := 117) (ds2 := 29934) 10 rfl ?_
  exact zT_ret rfl rfl
set_option maxRecDepth 1000000 in
set_option maxHeartbeats 4000000 in
theorem zo_6_10 (xs : Nat → Int32) (h0 : xs 0 &&& 63 = 6) (h1 : xs 1 = 2) (h2 : -32 ≤ (xs 2).toInt ∧ (xs 2).toInt ≤ 31) : zDone xs := by
  refine ⟨(((((((zH0.set 19 (.inr (.inl (20, [70644700037184])))).set 20 (.inl (0, 120, [22000000, 0, 10000, 0, 0, 0]))).set 18 (.inr (.inr (.inr (2, [.int 1, .int 1, .ref 38, .ref 40]))))).set 0 (.inr (.inr (.inr (9, [.ref 2, .int 0, .ref 4, .ref 6, .ref 20, .long ((70643626295360 : Int64) ||| (((((xs 2) + (64 : Int32)) &&& (255 : Int32))).toInt64 <<< (((24 : Int32)).toInt64 &&& 63))), .ref 34, .ref 36, .int 0, .long 0, .ref 42, .ref 44, .ref 60, .ref 66, .ref 72, .ref 74, .ref 150, .ref 158]))))).set 81 (.inr (.inr (.inr (10, [.int 0, .ref 164, .int 0, .ref 166, .ref 168, .ref 170, .ref 172, .ref 174, .ref 176, .ref 178, .ref 180, .ref 182, .ref 184, .ref 186, .int 0, .int 0, .int 0, .int 0, .int 0, .int 0, .int 0, .int 0, .int 0, .int (-1), .ref 188, .ref 190, .ref 192, .int 1, .int 0, .ref 194, .ref 196, .ref 198, .int 0, .int 0, .int 0, .int 0, .ref 200, .ref 202, .ref 204, .int 0, .ref 206, .ref 208, .ref 210, .ref 212, .ref 214, .ref 216, .ref 218, .ref 220, .ref 222, .ref 224, .ref 226, .ref 228, .int 0, .ref 230]))))).set 96 (.inl (0, 252, [0, 0, 0, 0, 0, 0, 22000000, 0, 10000, 0, 0, 0]))).set 94 (.inl (0, 6, [0, 0, (xs 2), 0, 0, 0]))), 117, 29934, ?_, by decide, by decide⟩
  refine zT_gos (f := 200000) (pc2 := 37) (ls2 := [(4, .int 0), (3, .ref 232), (2, .ref 162), (1, .ref 0), (0, .ref 11)]) (st2 := [.int (xs 0)]) (h2 := zH0) (dc2 := 117) (ds2 := 29934) 9 rfl ?_
  refine zT_gos (f := 200000) (pc2 := 40) (ls2 := [(4, .int 0), (3, .ref 232), (2, .ref 162), (1, .ref 0), (0, .ref 11)]) (st2 := [.int ((xs 0) &&& (63 : Int32))]) (h2 := zH0) (dc2 := 117) (ds2 := 29934) 2 rfl ?_
  refine zT_val h0 ?_
  refine zT_gos (f := 200000) (pc2 := 484) (ls2 := [(4, .int 0), (3, .ref 232), (2, .ref 162), (1, .ref 0), (0, .ref 11)]) (st2 := [.int (xs 1), .ref 0]) (h2 := zH0) (dc2 := 117) (ds2 := 29934) 7 rfl ?_
  refine zT_val h1 ?_
  refine zT_gos (f := 200000) (pc2 := 490) (ls2 := [(4, .int 0), (3, .ref 232), (2, .ref 162), (1, .ref 0), (0, .ref 11)]) (st2 := [.int (xs 2), .int 2, .ref 0]) (h2 := zH0) (dc2 := 117) (ds2 := 29934) 5 rfl ?_
  refine zT_call (v := some (.int 1)) (h2 := ((((zH0.set 19 (.inr (.inl (20, [70644700037184])))).set 20 (.inl (0, 120, [22000000, 0, 10000, 0, 0, 0]))).set 18 (.inr (.inr (.inr (2, [.int 1, .int 1, .ref 38, .ref 40]))))).set 0 (.inr (.inr (.inr (9, [.ref 2, .int 0, .ref 4, .ref 6, .ref 20, .long ((70643626295360 : Int64) ||| (((((xs 2) + (64 : Int32)) &&& (255 : Int32))).toInt64 <<< (((24 : Int32)).toInt64 &&& 63))), .ref 34, .ref 36, .int 0, .long 0, .ref 42, .ref 44, .ref 60, .ref 66, .ref 72, .ref 74, .ref 150, .ref 158])))))) (d1 := 0) (s1 := 0) rfl rfl ?_ ?_
  · refine zT_gos (f := 200000) (pc2 := 13) (ls2 := [(0, .ref 0), (1, .int 2), (2, .int (xs 2))]) (st2 := [.int (xs 2), .int 2, .ref 6]) (h2 := zH0) (dc2 := 0) (ds2 := 0) 7 rfl ?_
    refine zT_call (v := some (.int 1)) (h2 := zH0) (d1 := 0) (s1 := 0) rfl rfl ?_ ?_
    · refine zT_gos (f := 200000) (pc2 := 7) (ls2 := [(0, .ref 6), (1, .int 2), (2, .int (xs 2))]) (st2 := [.int (-32), .int (xs 2)]) (h2 := zH0) (dc2 := 0) (ds2 := 0) 5 rfl ?_
      refine zT_if2 false rfl (zc_lt_f (by show ((xs 2) : Int32).toInt ≥ -32; omega)) ?_
      refine zT_here (pc2 := 10) rfl ?_
      refine zT_gos (f := 200000) (pc2 := 17) (ls2 := [(0, .ref 6), (1, .int 2), (2, .int (xs 2))]) (st2 := [.int 31, .int (xs 2)]) (h2 := zH0) (dc2 := 0) (ds2 := 0) 5 rfl ?_
      refine zT_if2 false rfl (zc_gt_f (by show ((xs 2) : Int32).toInt ≤ 31; omega)) ?_
      refine zT_here (pc2 := 20) rfl ?_
      refine zT_gos (f := 200000) (pc2 := 25) (ls2 := [(0, .ref 6), (1, .int 2), (2, .int (xs 2))]) (st2 := [.int 1]) (h2 := zH0) (dc2 := 0) (ds2 := 0) 2 rfl ?_
      exact zT_ret rfl rfl
    refine zT_here (pc2 := 16) rfl ?_
    refine zT_gos (f := 200000) (pc2 := 50) (ls2 := [(0, .ref 0), (1, .int 2), (2, .int (xs 2))]) (st2 := [.int 1]) (h2 := ((((zH0.set 19 (.inr (.inl (20, [70644700037184])))).set 20 (.inl (0, 120, [22000000, 0, 10000, 0, 0, 0]))).set 18 (.inr (.inr (.inr (2, [.int 1, .int 1, .ref 38, .ref 40]))))).set 0 (.inr (.inr (.inr (9, [.ref 2, .int 0, .ref 4, .ref 6, .ref 20, .long ((70643626295360 : Int64) ||| (((((xs 2) + (64 : Int32)) &&& (255 : Int32))).toInt64 <<< (((24 : Int32)).toInt64 &&& 63))), .ref 34, .ref 36, .int 0, .long 0, .ref 42, .ref 44, .ref 60, .ref 66, .ref 72, .ref 74, .ref 150, .ref 158])))))) (dc2 := 0) (ds2 := 0) 16 rfl ?_
    exact zT_ret rfl rfl
  refine zT_here (pc2 := 493) rfl ?_
  refine zT_gos (f := 200000) (pc2 := 500) (ls2 := [(4, .int 0), (3, .ref 232), (2, .ref 162), (1, .ref 0), (0, .ref 11)]) (st2 := [.int (xs 1), .ref 162, .int 1]) (h2 := ((((zH0.set 19 (.inr (.inl (20, [70644700037184])))).set 20 (.inl (0, 120, [22000000, 0, 10000, 0, 0, 0]))).set 18 (.inr (.inr (.inr (2, [.int 1, .int 1, .ref 38, .ref 40]))))).set 0 (.inr (.inr (.inr (9, [.ref 2, .int 0, .ref 4, .ref 6, .ref 20, .long ((70643626295360 : Int64) ||| (((((xs 2) + (64 : Int32)) &&& (255 : Int32))).toInt64 <<< (((24 : Int32)).toInt64 &&& 63))), .ref 34, .ref 36, .int 0, .long 0, .ref 42, .ref 44, .ref 60, .ref 66, .ref 72, .ref 74, .ref 150, .ref 158])))))) (dc2 := 117) (ds2 := 29934) 6 rfl ?_
  refine zT_val h1 ?_
  refine zT_gos (f := 200000) (pc2 := 506) (ls2 := [(4, .int 0), (3, .ref 232), (2, .ref 162), (1, .ref 0), (0, .ref 11)]) (st2 := [.int (xs 2), .int 2, .ref 162, .int 1]) (h2 := ((((zH0.set 19 (.inr (.inl (20, [70644700037184])))).set 20 (.inl (0, 120, [22000000, 0, 10000, 0, 0, 0]))).set 18 (.inr (.inr (.inr (2, [.int 1, .int 1, .ref 38, .ref 40]))))).set 0 (.inr (.inr (.inr (9, [.ref 2, .int 0, .ref 4, .ref 6, .ref 20, .long ((70643626295360 : Int64) ||| (((((xs 2) + (64 : Int32)) &&& (255 : Int32))).toInt64 <<< (((24 : Int32)).toInt64 &&& 63))), .ref 34, .ref 36, .int 0, .long 0, .ref 42, .ref 44, .ref 60, .ref 66, .ref 72, .ref 74, .ref 150, .ref 158])))))) (dc2 := 117) (ds2 := 29934) 5 rfl ?_
  refine zT_call (v := some (.int 1)) (h2 := (((((((zH0.set 19 (.inr (.inl (20, [70644700037184])))).set 20 (.inl (0, 120, [22000000, 0, 10000, 0, 0, 0]))).set 18 (.inr (.inr (.inr (2, [.int 1, .int 1, .ref 38, .ref 40]))))).set 0 (.inr (.inr (.inr (9, [.ref 2, .int 0, .ref 4, .ref 6, .ref 20, .long ((70643626295360 : Int64) ||| (((((xs 2) + (64 : Int32)) &&& (255 : Int32))).toInt64 <<< (((24 : Int32)).toInt64 &&& 63))), .ref 34, .ref 36, .int 0, .long 0, .ref 42, .ref 44, .ref 60, .ref 66, .ref 72, .ref 74, .ref 150, .ref 158]))))).set 81 (.inr (.inr (.inr (10, [.int 0, .ref 164, .int 0, .ref 166, .ref 168, .ref 170, .ref 172, .ref 174, .ref 176, .ref 178, .ref 180, .ref 182, .ref 184, .ref 186, .int 0, .int 0, .int 0, .int 0, .int 0, .int 0, .int 0, .int 0, .int 0, .int (-1), .ref 188, .ref 190, .ref 192, .int 1, .int 0, .ref 194, .ref 196, .ref 198, .int 0, .int 0, .int 0, .int 0, .ref 200, .ref 202, .ref 204, .int 0, .ref 206, .ref 208, .ref 210, .ref 212, .ref 214, .ref 216, .ref 218, .ref 220, .ref 222, .ref 224, .ref 226, .ref 228, .int 0, .ref 230]))))).set 96 (.inl (0, 252, [0, 0, 0, 0, 0, 0, 22000000, 0, 10000, 0, 0, 0]))).set 94 (.inl (0, 6, [0, 0, (xs 2), 0, 0, 0])))) (d1 := 0) (s1 := 0) rfl rfl ?_ ?_
  · refine zT_gos (f := 200000) (pc2 := 15) (ls2 := [(0, .ref 162), (1, .int 2), (2, .int (xs 2))]) (st2 := [.int (xs 2), .int 2, .ref 162]) (h2 := ((((zH0.set 19 (.inr (.inl (20, [70644700037184])))).set 20 (.inl (0, 120, [22000000, 0, 10000, 0, 0, 0]))).set 18 (.inr (.inr (.inr (2, [.int 1, .int 1, .ref 38, .ref 40]))))).set 0 (.inr (.inr (.inr (9, [.ref 2, .int 0, .ref 4, .ref 6, .ref 20, .long ((70643626295360 : Int64) ||| (((((xs 2) + (64 : Int32)) &&& (255 : Int32))).toInt64 <<< (((24 : Int32)).toInt64 &&& 63))), .ref 34, .ref 36, .int 0, .long 0, .ref 42, .ref 44, .ref 60, .ref 66, .ref 72, .ref 74, .ref 150, .ref 158])))))) (dc2 := 0) (ds2 := 0) 9 rfl ?_
    refine zT_call (v := some (.int 1)) (h2 := ((((zH0.set 19 (.inr (.inl (20, [70644700037184])))).set 20 (.inl (0, 120, [22000000, 0, 10000, 0, 0, 0]))).set 18 (.inr (.inr (.inr (2, [.int 1, .int 1, .ref 38, .ref 40]))))).set 0 (.inr (.inr (.inr (9, [.ref 2, .int 0, .ref 4, .ref 6, .ref 20, .long ((70643626295360 : Int64) ||| (((((xs 2) + (64 : Int32)) &&& (255 : Int32))).toInt64 <<< (((24 : Int32)).toInt64 &&& 63))), .ref 34, .ref 36, .int 0, .long 0, .ref 42, .ref 44, .ref 60, .ref 66, .ref 72, .ref 74, .ref 150, .ref 158])))))) (d1 := 0) (s1 := 0) rfl rfl ?_ ?_
    · refine zT_gos (f := 200000) (pc2 := 7) (ls2 := [(0, .ref 162), (1, .int 2), (2, .int (xs 2))]) (st2 := [.int (-32), .int (xs 2)]) (h2 := ((((zH0.set 19 (.inr (.inl (20, [70644700037184])))).set 20 (.inl (0, 120, [22000000, 0, 10000, 0, 0, 0]))).set 18 (.inr (.inr (.inr (2, [.int 1, .int 1, .ref 38, .ref 40]))))).set 0 (.inr (.inr (.inr (9, [.ref 2, .int 0, .ref 4, .ref 6, .ref 20, .long ((70643626295360 : Int64) ||| (((((xs 2) + (64 : Int32)) &&& (255 : Int32))).toInt64 <<< (((24 : Int32)).toInt64 &&& 63))), .ref 34, .ref 36, .int 0, .long 0, .ref 42, .ref 44, .ref 60, .ref 66, .ref 72, .ref 74, .ref 150, .ref 158])))))) (dc2 := 0) (ds2 := 0) 5 rfl ?_
      refine zT_if2 false rfl (zc_lt_f (by show ((xs 2) : Int32).toInt ≥ -32; omega)) ?_
      refine zT_here (pc2 := 10) rfl ?_
      refine zT_gos (f := 200000) (pc2 := 17) (ls2 := [(0, .ref 162), (1, .int 2), (2, .int (xs 2))]) (st2 := [.int 31, .int (xs 2)]) (h2 := ((((zH0.set 19 (.inr (.inl (20, [70644700037184])))).set 20 (.inl (0, 120, [22000000, 0, 10000, 0, 0, 0]))).set 18 (.inr (.inr (.inr (2, [.int 1, .int 1, .ref 38, .ref 40]))))).set 0 (.inr (.inr (.inr (9, [.ref 2, .int 0, .ref 4, .ref 6, .ref 20, .long ((70643626295360 : Int64) ||| (((((xs 2) + (64 : Int32)) &&& (255 : Int32))).toInt64 <<< (((24 : Int32)).toInt64 &&& 63))), .ref 34, .ref 36, .int 0, .long 0, .ref 42, .ref 44, .ref 60, .ref 66, .ref 72, .ref 74, .ref 150, .ref 158])))))) (dc2 := 0) (ds2 := 0) 5 rfl ?_
      refine zT_if2 false rfl (zc_gt_f (by show ((xs 2) : Int32).toInt ≤ 31; omega)) ?_
      refine zT_here (pc2 := 20) rfl ?_
      refine zT_gos (f := 200000) (pc2 := 25) (ls2 := [(0, .ref 162), (1, .int 2), (2, .int (xs 2))]) (st2 := [.int 1]) (h2 := ((((zH0.set 19 (.inr (.inl (20, [70644700037184])))).set 20 (.inl (0, 120, [22000000, 0, 10000, 0, 0, 0]))).set 18 (.inr (.inr (.inr (2, [.int 1, .int 1, .ref 38, .ref 40]))))).set 0 (.inr (.inr (.inr (9, [.ref 2, .int 0, .ref 4, .ref 6, .ref 20, .long ((70643626295360 : Int64) ||| (((((xs 2) + (64 : Int32)) &&& (255 : Int32))).toInt64 <<< (((24 : Int32)).toInt64 &&& 63))), .ref 34, .ref 36, .int 0, .long 0, .ref 42, .ref 44, .ref 60, .ref 66, .ref 72, .ref 74, .ref 150, .ref 158])))))) (dc2 := 0) (ds2 := 0) 2 rfl ?_
      exact zT_ret rfl rfl
    refine zT_here (pc2 := 18) rfl ?_
    refine zT_gos (f := 200000) (pc2 := 39) (ls2 := [(0, .ref 162), (1, .int 2), (2, .int (xs 2))]) (st2 := [.int 1]) (h2 := (((((((zH0.set 19 (.inr (.inl (20, [70644700037184])))).set 20 (.inl (0, 120, [22000000, 0, 10000, 0, 0, 0]))).set 18 (.inr (.inr (.inr (2, [.int 1, .int 1, .ref 38, .ref 40]))))).set 0 (.inr (.inr (.inr (9, [.ref 2, .int 0, .ref 4, .ref 6, .ref 20, .long ((70643626295360 : Int64) ||| (((((xs 2) + (64 : Int32)) &&& (255 : Int32))).toInt64 <<< (((24 : Int32)).toInt64 &&& 63))), .ref 34, .ref 36, .int 0, .long 0, .ref 42, .ref 44, .ref 60, .ref 66, .ref 72, .ref 74, .ref 150, .ref 158]))))).set 81 (.inr (.inr (.inr (10, [.int 0, .ref 164, .int 0, .ref 166, .ref 168, .ref 170, .ref 172, .ref 174, .ref 176, .ref 178, .ref 180, .ref 182, .ref 184, .ref 186, .int 0, .int 0, .int 0, .int 0, .int 0, .int 0, .int 0, .int 0, .int 0, .int (-1), .ref 188, .ref 190, .ref 192, .int 1, .int 0, .ref 194, .ref 196, .ref 198, .int 0, .int 0, .int 0, .int 0, .ref 200, .ref 202, .ref 204, .int 0, .ref 206, .ref 208, .ref 210, .ref 212, .ref 214, .ref 216, .ref 218, .ref 220, .ref 222, .ref 224, .ref 226, .ref 228, .int 0, .ref 230]))))).set 96 (.inl (0, 252, [0, 0, 0, 0, 0, 0, 22000000, 0, 10000, 0, 0, 0]))).set 94 (.inl (0, 6, [0, 0, (xs 2), 0, 0, 0])))) (dc2 := 0) (ds2 := 0) 11 rfl ?_
    exact zT_ret rfl rfl
  refine zT_here (pc2 := 509) rfl ?_
  refine zT_gos (f := 200000) (pc2 := 1811) (ls2 := [(4, .int 6), (3, .ref 232), (2, .ref 162), (1, .ref 0), (0, .ref 11)]) (st2 := [.int 1]) (h2 := (((((((zH0.set 19 (.inr (.inl (20, [70644700037184])))).set 20 (.inl (0, 120, [22000000, 0, 10000, 0, 0, 0]))).set 18 (.inr (.inr (.inr (2, [.int 1, .int 1, .ref 38, .ref 40]))))).set 0 (.inr (.inr (.inr (9, [.ref 2, .int 0, .ref 4, .ref 6, .ref 20, .long ((70643626295360 : Int64) ||| (((((xs 2) + (64 : Int32)) &&& (255 : Int32))).toInt64 <<< (((24 : Int32)).toInt64 &&& 63))), .ref 34, .ref 36, .int 0, .long 0, .ref 42, .ref 44, .ref 60, .ref 66, .ref 72, .ref 74, .ref 150, .ref 158]))))).set 81 (.inr (.inr (.inr (10, [.int 0, .ref 164, .int 0, .ref 166, .ref 168, .ref 170, .ref 172, .ref 174, .ref 176, .ref 178, .ref 180, .ref 182, .ref 184, .ref 186, .int 0, .int 0, .int 0, .int 0, .int 0, .int 0, .int 0, .int 0, .int 0, .int (-1), .ref 188, .ref 190, .ref 192, .int 1, .int 0, .ref 194, .ref 196, .ref 198, .int 0, .int 0, .int 0, .int 0, .ref 200, .ref 202, .ref 204, .int 0, .ref 206, .ref 208, .ref 210, .ref 212, .ref 214, .ref 216, .ref 218, .ref 220, .ref 222, .ref 224, .ref 226, .ref 228, .int 0, .ref 230]))))).set 96 (.inl (0, 252, [0, 0, 0, 0, 0, 0, 22000000, 0, 10000, 0, 0, 0]))).set 94 (.inl (0, 6, [0, 0, (xs 2), 0, 0, 0])))) (dc2 := 117) (ds2 := 29934) 10 rfl ?_
  exact zT_ret rfl rfl
set_option maxRecDepth 1000000 in
set_option maxHeartbeats 4000000 in
theorem zo_6_11 (xs : Nat → Int32) (h0 : xs 0 &&& 63 = 6) (h1 : xs 1 = 3) (h2 : (xs 2).toInt < -32) : zDone xs := by
  refine ⟨zH0, 117, 29934, ?_, by decide, by decide⟩
  refine zT_gos (f := 200000) (pc2 := 37) (ls2 := [(4, .int 0), (3, .ref 232), (2, .ref 162), (1, .ref 0), (0, .ref 11)]) (st2 := [.int (xs 0)]) (h2 := zH0) (dc2 := 117) (ds2 := 29934) 9 rfl ?_
  refine zT_gos (f := 200000) (pc2 := 40) (ls2 := [(4, .int 0), (3, .ref 232), (2, .ref 162), (1, .ref 0), (0, .ref 11)]) (st2 := [.int ((xs 0) &&& (63 : Int32))]) (h2 := zH0) (dc2 := 117) (ds2 := 29934) 2 rfl ?_
  refine zT_val h0 ?_
  refine zT_gos (f := 200000) (pc2 := 484) (ls2 := [(4, .int 0), (3, .ref 232), (2, .ref 162), (1, .ref 0), (0, .ref 11)]) (st2 := [.int (xs 1), .ref 0]) (h2 := zH0) (dc2 := 117) (ds2 := 29934) 7 rfl ?_
  refine zT_val h1 ?_
  refine zT_gos (f := 200000) (pc2 := 490) (ls2 := [(4, .int 0), (3, .ref 232), (2, .ref 162), (1, .ref 0), (0, .ref 11)]) (st2 := [.int (xs 2), .int 3, .ref 0]) (h2 := zH0) (dc2 := 117) (ds2 := 29934) 5 rfl ?_
  refine zT_call (v := some (.int 0)) (h2 := zH0) (d1 := 0) (s1 := 0) rfl rfl ?_ ?_
  · refine zT_gos (f := 200000) (pc2 := 13) (ls2 := [(0, .ref 0), (1, .int 3), (2, .int (xs 2))]) (st2 := [.int (xs 2), .int 3, .ref 6]) (h2 := zH0) (dc2 := 0) (ds2 := 0) 7 rfl ?_
    refine zT_call (v := some (.int 0)) (h2 := zH0) (d1 := 0) (s1 := 0) rfl rfl ?_ ?_
    · refine zT_gos (f := 200000) (pc2 := 7) (ls2 := [(0, .ref 6), (1, .int 3), (2, .int (xs 2))]) (st2 := [.int (-32), .int (xs 2)]) (h2 := zH0) (dc2 := 0) (ds2 := 0) 5 rfl ?_
      refine zT_if2 true rfl (zc_lt_t (by show ((xs 2) : Int32).toInt < -32; omega)) ?_
      refine zT_here (pc2 := 24) rfl ?_
      refine zT_gos (f := 200000) (pc2 := 25) (ls2 := [(0, .ref 6), (1, .int 3), (2, .int (xs 2))]) (st2 := [.int 0]) (h2 := zH0) (dc2 := 0) (ds2 := 0) 1 rfl ?_
      exact zT_ret rfl rfl
    refine zT_here (pc2 := 16) rfl ?_
    refine zT_gos (f := 200000) (pc2 := 20) (ls2 := [(0, .ref 0), (1, .int 3), (2, .int (xs 2))]) (st2 := [.int 0]) (h2 := zH0) (dc2 := 0) (ds2 := 0) 2 rfl ?_
    exact zT_ret rfl rfl
  refine zT_here (pc2 := 493) rfl ?_
  refine zT_gos (f := 200000) (pc2 := 500) (ls2 := [(4, .int 0), (3, .ref 232), (2, .ref 162), (1, .ref 0), (0, .ref 11)]) (st2 := [.int (xs 1), .ref 162, .int 0]) (h2 := zH0) (dc2 := 117) (ds2 := 29934) 6 rfl ?_
  refine zT_val h1 ?_
  refine zT_gos (f := 200000) (pc2 := 506) (ls2 := [(4, .int 0), (3, .ref 232), (2, .ref 162), (1, .ref 0), (0, .ref 11)]) (st2 := [.int (xs 2), .int 3, .ref 162, .int 0]) (h2 := zH0) (dc2 := 117) (ds2 := 29934) 5 rfl ?_
  refine zT_call (v := some (.int 0)) (h2 := zH0) (d1 := 0) (s1 := 0) rfl rfl ?_ ?_
  · refine zT_gos (f := 200000) (pc2 := 15) (ls2 := [(0, .ref 162), (1, .int 3), (2, .int (xs 2))]) (st2 := [.int (xs 2), .int 3, .ref 162]) (h2 := zH0) (dc2 := 0) (ds2 := 0) 9 rfl ?_
    refine zT_call (v := some (.int 0)) (h2 := zH0) (d1 := 0) (s1 := 0) rfl rfl ?_ ?_
    · refine zT_gos (f := 200000) (pc2 := 7) (ls2 := [(0, .ref 162), (1, .int 3), (2, .int (xs 2))]) (st2 := [.int (-32), .int (xs 2)]) (h2 := zH0) (dc2 := 0) (ds2 := 0) 5 rfl ?_
      refine zT_if2 true rfl (zc_lt_t (by show ((xs 2) : Int32).toInt < -32; omega)) ?_
      refine zT_here (pc2 := 24) rfl ?_
      refine zT_gos (f := 200000) (pc2 := 25) (ls2 := [(0, .ref 162), (1, .int 3), (2, .int (xs 2))]) (st2 := [.int 0]) (h2 := zH0) (dc2 := 0) (ds2 := 0) 1 rfl ?_
      exact zT_ret rfl rfl
    refine zT_here (pc2 := 18) rfl ?_
    refine zT_gos (f := 200000) (pc2 := 22) (ls2 := [(0, .ref 162), (1, .int 3), (2, .int (xs 2))]) (st2 := [.int 0]) (h2 := zH0) (dc2 := 0) (ds2 := 0) 2 rfl ?_
    exact zT_ret rfl rfl
  refine zT_here (pc2 := 509) rfl ?_
  refine zT_gos (f := 200000) (pc2 := 1811) (ls2 := [(4, .int 6), (3, .ref 232), (2, .ref 162), (1, .ref 0), (0, .ref 11)]) (st2 := [.int 1]) (h2 := zH0) (dc2 := 117) (ds2 := 29934) 10 rfl ?_
  exact zT_ret rfl rfl
set_option maxRecDepth 1000000 in
set_option maxHeartbeats 4000000 in
theorem zo_6_12 (xs : Nat → Int32) (h0 : xs 0 &&& 63 = 6) (h1 : xs 1 = 3) (h2 : 31 < (xs 2).toInt) : zDone xs := by
  refine ⟨zH0, 117, 29934, ?_, by decide, by decide⟩
  refine zT_gos (f := 200000) (pc2 := 37) (ls2 := [(4, .int 0), (3, .ref 232), (2, .ref 162), (1, .ref 0), (0, .ref 11)]) (st2 := [.int (xs 0)]) (h2 := zH0) (dc2 := 117) (ds2 := 29934) 9 rfl ?_
  refine zT_gos (f := 200000) (pc2 := 40) (ls2 := [(4, .int 0), (3, .ref 232), (2, .ref 162), (1, .ref 0), (0, .ref 11)]) (st2 := [.int ((xs 0) &&& (63 : Int32))]) (h2 := zH0) (dc2 := 117) (ds2 := 29934) 2 rfl ?_
  refine zT_val h0 ?_
  refine zT_gos (f := 200000) (pc2 := 484) (ls2 := [(4, .int 0), (3, .ref 232), (2, .ref 162), (1, .ref 0), (0, .ref 11)]) (st2 := [.int (xs 1), .ref 0]) (h2 := zH0) (dc2 := 117) (ds2 := 29934) 7 rfl ?_
  refine zT_val h1 ?_
  refine zT_gos (f := 200000) (pc2 := 490) (ls2 := [(4, .int 0), (3, .ref 232), (2, .ref 162), (1, .ref 0), (0, .ref 11)]) (st2 := [.int (xs 2), .int 3, .ref 0]) (h2 := zH0) (dc2 := 117) (ds2 := 29934) 5 rfl ?_
  refine zT_call (v := some (.int 0)) (h2 := zH0) (d1 := 0) (s1 := 0) rfl rfl ?_ ?_
  · refine zT_gos (f := 200000) (pc2 := 13) (ls2 := [(0, .ref 0), (1, .int 3), (2, .int (xs 2))]) (st2 := [.int (xs 2), .int 3, .ref 6]) (h2 := zH0) (dc2 := 0) (ds2 := 0) 7 rfl ?_
    refine zT_call (v := some (.int 0)) (h2 := zH0) (d1 := 0) (s1 := 0) rfl rfl ?_ ?_
    · refine zT_gos (f := 200000) (pc2 := 7) (ls2 := [(0, .ref 6), (1, .int 3), (2, .int (xs 2))]) (st2 := [.int (-32), .int (xs 2)]) (h2 := zH0) (dc2 := 0) (ds2 := 0) 5 rfl ?_
      refine zT_if2 false rfl (zc_lt_f (by show ((xs 2) : Int32).toInt ≥ -32; omega)) ?_
      refine zT_here (pc2 := 10) rfl ?_
      refine zT_gos (f := 200000) (pc2 := 17) (ls2 := [(0, .ref 6), (1, .int 3), (2, .int (xs 2))]) (st2 := [.int 31, .int (xs 2)]) (h2 := zH0) (dc2 := 0) (ds2 := 0) 5 rfl ?_
      refine zT_if2 true rfl (zc_gt_t (by show ((xs 2) : Int32).toInt > 31; omega)) ?_
      refine zT_here (pc2 := 24) rfl ?_
      refine zT_gos (f := 200000) (pc2 := 25) (ls2 := [(0, .ref 6), (1, .int 3), (2, .int (xs 2))]) (st2 := [.int 0]) (h2 := zH0) (dc2 := 0) (ds2 := 0) 1 rfl ?_
      exact zT_ret rfl rfl
    refine zT_here (pc2 := 16) rfl ?_
    refine zT_gos (f := 200000) (pc2 := 20) (ls2 := [(0, .ref 0), (1, .int 3), (2, .int (xs 2))]) (st2 := [.int 0]) (h2 := zH0) (dc2 := 0) (ds2 := 0) 2 rfl ?_
    exact zT_ret rfl rfl
  refine zT_here (pc2 := 493) rfl ?_
  refine zT_gos (f := 200000) (pc2 := 500) (ls2 := [(4, .int 0), (3, .ref 232), (2, .ref 162), (1, .ref 0), (0, .ref 11)]) (st2 := [.int (xs 1), .ref 162, .int 0]) (h2 := zH0) (dc2 := 117) (ds2 := 29934) 6 rfl ?_
  refine zT_val h1 ?_
  refine zT_gos (f := 200000) (pc2 := 506) (ls2 := [(4, .int 0), (3, .ref 232), (2, .ref 162), (1, .ref 0), (0, .ref 11)]) (st2 := [.int (xs 2), .int 3, .ref 162, .int 0]) (h2 := zH0) (dc2 := 117) (ds2 := 29934) 5 rfl ?_
  refine zT_call (v := some (.int 0)) (h2 := zH0) (d1 := 0) (s1 := 0) rfl rfl ?_ ?_
  · refine zT_gos (f := 200000) (pc2 := 15) (ls2 := [(0, .ref 162), (1, .int 3), (2, .int (xs 2))]) (st2 := [.int (xs 2), .int 3, .ref 162]) (h2 := zH0) (dc2 := 0) (ds2 := 0) 9 rfl ?_
    refine zT_call (v := some (.int 0)) (h2 := zH0) (d1 := 0) (s1 := 0) rfl rfl ?_ ?_
    · refine zT_gos (f := 200000) (pc2 := 7) (ls2 := [(0, .ref 162), (1, .int 3), (2, .int (xs 2))]) (st2 := [.int (-32), .int (xs 2)]) (h2 := zH0) (dc2 := 0) (ds2 := 0) 5 rfl ?_
      refine zT_if2 false rfl (zc_lt_f (by show ((xs 2) : Int32).toInt ≥ -32; omega)) ?_
      refine zT_here (pc2 := 10) rfl ?_
      refine zT_gos (f := 200000) (pc2 := 17) (ls2 := [(0, .ref 162), (1, .int 3), (2, .int (xs 2))]) (st2 := [.int 31, .int (xs 2)]) (h2 := zH0) (dc2 := 0) (ds2 := 0) 5 rfl ?_
      refine zT_if2 true rfl (zc_gt_t (by show ((xs 2) : Int32).toInt > 31; omega)) ?_
      refine zT_here (pc2 := 24) rfl ?_
      refine zT_gos (f := 200000) (pc2 := 25) (ls2 := [(0, .ref 162), (1, .int 3), (2, .int (xs 2))]) (st2 := [.int 0]) (h2 := zH0) (dc2 := 0) (ds2 := 0) 1 rfl ?_
      exact zT_ret rfl rfl
    refine zT_here (pc2 := 18) rfl ?_
    refine zT_gos (f := 200000) (pc2 := 22) (ls2 := [(0, .ref 162), (1, .int 3), (2, .int (xs 2))]) (st2 := [.int 0]) (h2 := zH0) (dc2 := 0) (ds2 := 0) 2 rfl ?_
    exact zT_ret rfl rfl
  refine zT_here (pc2 := 509) rfl ?_
  refine zT_gos (f := 200000) (pc2 := 1811) (ls2 := [(4, .int 6), (3, .ref 232), (2, .ref 162), (1, .ref 0), (0, .ref 11)]) (st2 := [.int 1]) (h2 := zH0) (dc2 := 117) (ds2 := 29934) 10 rfl ?_
  exact zT_ret rfl rfl
set_option maxRecDepth 1000000 in
set_option maxHeartbeats 4000000 in
theorem zo_6_13 (xs : Nat → Int32) (h0 : xs 0 &&& 63 = 6) (h1 : xs 1 = 3) (h2 : -32 ≤ (xs 2).toInt ∧ (xs 2).toInt ≤ 31) : zDone xs := by
  refine ⟨(((((((zH0.set 19 (.inr (.inl (20, [70644700037184])))).set 20 (.inl (0, 120, [22000000, 0, 10000, 0, 0, 0]))).set 18 (.inr (.inr (.inr (2, [.int 1, .int 1, .ref 38, .ref 40]))))).set 0 (.inr (.inr (.inr (9, [.ref 2, .int 0, .ref 4, .ref 6, .ref 20, .long ((70644695842880 : Int64) ||| (((((xs 2) + (64 : Int32)) &&& (255 : Int32))).toInt64 <<< (((16 : Int32)).toInt64 &&& 63))), .ref 34, .ref 36, .int 0, .long 0, .ref 42, .ref 44, .ref 60, .ref 66, .ref 72, .ref 74, .ref 150, .ref 158]))))).set 81 (.inr (.inr (.inr (10, [.int 0, .ref 164, .int 0, .ref 166, .ref 168, .ref 170, .ref 172, .ref 174, .ref 176, .ref 178, .ref 180, .ref 182, .ref 184, .ref 186, .int 0, .int 0, .int 0, .int 0, .int 0, .int 0, .int 0, .int 0, .int 0, .int (-1), .ref 188, .ref 190, .ref 192, .int 1, .int 0, .ref 194, .ref 196, .ref 198, .int 0, .int 0, .int 0, .int 0, .ref 200, .ref 202, .ref 204, .int 0, .ref 206, .ref 208, .ref 210, .ref 212, .ref 214, .ref 216, .ref 218, .ref 220, .ref 222, .ref 224, .ref 226, .ref 228, .int 0, .ref 230]))))).set 96 (.inl (0, 252, [0, 0, 0, 0, 0, 0, 22000000, 0, 10000, 0, 0, 0]))).set 94 (.inl (0, 6, [0, 0, 0, (xs 2), 0, 0]))), 117, 29934, ?_, by decide, by decide⟩
  refine zT_gos (f := 200000) (pc2 := 37) (ls2 := [(4, .int 0), (3, .ref 232), (2, .ref 162), (1, .ref 0), (0, .ref 11)]) (st2 := [.int (xs 0)]) (h2 := zH0) (dc2 := 117) (ds2 := 29934) 9 rfl ?_
  refine zT_gos (f := 200000) (pc2 := 40) (ls2 := [(4, .int 0), (3, .ref 232), (2, .ref 162), (1, .ref 0), (0, .ref 11)]) (st2 := [.int ((xs 0) &&& (63 : Int32))]) (h2 := zH0) (dc2 := 117) (ds2 := 29934) 2 rfl ?_
  refine zT_val h0 ?_
  refine zT_gos (f := 200000) (pc2 := 484) (ls2 := [(4, .int 0), (3, .ref 232), (2, .ref 162), (1, .ref 0), (0, .ref 11)]) (st2 := [.int (xs 1), .ref 0]) (h2 := zH0) (dc2 := 117) (ds2 := 29934) 7 rfl ?_
  refine zT_val h1 ?_
  refine zT_gos (f := 200000) (pc2 := 490) (ls2 := [(4, .int 0), (3, .ref 232), (2, .ref 162), (1, .ref 0), (0, .ref 11)]) (st2 := [.int (xs 2), .int 3, .ref 0]) (h2 := zH0) (dc2 := 117) (ds2 := 29934) 5 rfl ?_
  refine zT_call (v := some (.int 1)) (h2 := ((((zH0.set 19 (.inr (.inl (20, [70644700037184])))).set 20 (.inl (0, 120, [22000000, 0, 10000, 0, 0, 0]))).set 18 (.inr (.inr (.inr (2, [.int 1, .int 1, .ref 38, .ref 40]))))).set 0 (.inr (.inr (.inr (9, [.ref 2, .int 0, .ref 4, .ref 6, .ref 20, .long ((70644695842880 : Int64) ||| (((((xs 2) + (64 : Int32)) &&& (255 : Int32))).toInt64 <<< (((16 : Int32)).toInt64 &&& 63))), .ref 34, .ref 36, .int 0, .long 0, .ref 42, .ref 44, .ref 60, .ref 66, .ref 72, .ref 74, .ref 150, .ref 158])))))) (d1 := 0) (s1 := 0) rfl rfl ?_ ?_
  · refine zT_gos (f := 200000) (pc2 := 13) (ls2 := [(0, .ref 0), (1, .int 3), (2, .int (xs 2))]) (st2 := [.int (xs 2), .int 3, .ref 6]) (h2 := zH0) (dc2 := 0) (ds2 := 0) 7 rfl ?_
    refine zT_call (v := some (.int 1)) (h2 := zH0) (d1 := 0) (s1 := 0) rfl rfl ?_ ?_
    · refine zT_gos (f := 200000) (pc2 := 7) (ls2 := [(0, .ref 6), (1, .int 3), (2, .int (xs 2))]) (st2 := [.int (-32), .int (xs 2)]) (h2 := zH0) (dc2 := 0) (ds2 := 0) 5 rfl ?_
      refine zT_if2 false rfl (zc_lt_f (by show ((xs 2) : Int32).toInt ≥ -32; omega)) ?_
      refine zT_here (pc2 := 10) rfl ?_
      refine zT_gos (f := 200000) (pc2 := 17) (ls2 := [(0, .ref 6), (1, .int 3), (2, .int (xs 2))]) (st2 := [.int 31, .int (xs 2)]) (h2 := zH0) (dc2 := 0) (ds2 := 0) 5 rfl ?_
      refine zT_if2 false rfl (zc_gt_f (by show ((xs 2) : Int32).toInt ≤ 31; omega)) ?_
      refine zT_here (pc2 := 20) rfl ?_
      refine zT_gos (f := 200000) (pc2 := 25) (ls2 := [(0, .ref 6), (1, .int 3), (2, .int (xs 2))]) (st2 := [.int 1]) (h2 := zH0) (dc2 := 0) (ds2 := 0) 2 rfl ?_
      exact zT_ret rfl rfl
    refine zT_here (pc2 := 16) rfl ?_
    refine zT_gos (f := 200000) (pc2 := 50) (ls2 := [(0, .ref 0), (1, .int 3), (2, .int (xs 2))]) (st2 := [.int 1]) (h2 := ((((zH0.set 19 (.inr (.inl (20, [70644700037184])))).set 20 (.inl (0, 120, [22000000, 0, 10000, 0, 0, 0]))).set 18 (.inr (.inr (.inr (2, [.int 1, .int 1, .ref 38, .ref 40]))))).set 0 (.inr (.inr (.inr (9, [.ref 2, .int 0, .ref 4, .ref 6, .ref 20, .long ((70644695842880 : Int64) ||| (((((xs 2) + (64 : Int32)) &&& (255 : Int32))).toInt64 <<< (((16 : Int32)).toInt64 &&& 63))), .ref 34, .ref 36, .int 0, .long 0, .ref 42, .ref 44, .ref 60, .ref 66, .ref 72, .ref 74, .ref 150, .ref 158])))))) (dc2 := 0) (ds2 := 0) 16 rfl ?_
    exact zT_ret rfl rfl
  refine zT_here (pc2 := 493) rfl ?_
  refine zT_gos (f := 200000) (pc2 := 500) (ls2 := [(4, .int 0), (3, .ref 232), (2, .ref 162), (1, .ref 0), (0, .ref 11)]) (st2 := [.int (xs 1), .ref 162, .int 1]) (h2 := ((((zH0.set 19 (.inr (.inl (20, [70644700037184])))).set 20 (.inl (0, 120, [22000000, 0, 10000, 0, 0, 0]))).set 18 (.inr (.inr (.inr (2, [.int 1, .int 1, .ref 38, .ref 40]))))).set 0 (.inr (.inr (.inr (9, [.ref 2, .int 0, .ref 4, .ref 6, .ref 20, .long ((70644695842880 : Int64) ||| (((((xs 2) + (64 : Int32)) &&& (255 : Int32))).toInt64 <<< (((16 : Int32)).toInt64 &&& 63))), .ref 34, .ref 36, .int 0, .long 0, .ref 42, .ref 44, .ref 60, .ref 66, .ref 72, .ref 74, .ref 150, .ref 158])))))) (dc2 := 117) (ds2 := 29934) 6 rfl ?_
  refine zT_val h1 ?_
  refine zT_gos (f := 200000) (pc2 := 506) (ls2 := [(4, .int 0), (3, .ref 232), (2, .ref 162), (1, .ref 0), (0, .ref 11)]) (st2 := [.int (xs 2), .int 3, .ref 162, .int 1]) (h2 := ((((zH0.set 19 (.inr (.inl (20, [70644700037184])))).set 20 (.inl (0, 120, [22000000, 0, 10000, 0, 0, 0]))).set 18 (.inr (.inr (.inr (2, [.int 1, .int 1, .ref 38, .ref 40]))))).set 0 (.inr (.inr (.inr (9, [.ref 2, .int 0, .ref 4, .ref 6, .ref 20, .long ((70644695842880 : Int64) ||| (((((xs 2) + (64 : Int32)) &&& (255 : Int32))).toInt64 <<< (((16 : Int32)).toInt64 &&& 63))), .ref 34, .ref 36, .int 0, .long 0, .ref 42, .ref 44, .ref 60, .ref 66, .ref 72, .ref 74, .ref 150, .ref 158])))))) (dc2 := 117) (ds2 := 29934) 5 rfl ?_
  refine zT_call (v := some (.int 1)) (h2 := (((((((zH0.set 19 (.inr (.inl (20, [70644700037184])))).set 20 (.inl (0, 120, [22000000, 0, 10000, 0, 0, 0]))).set 18 (.inr (.inr (.inr (2, [.int 1, .int 1, .ref 38, .ref 40]))))).set 0 (.inr (.inr (.inr (9, [.ref 2, .int 0, .ref 4, .ref 6, .ref 20, .long ((70644695842880 : Int64) ||| (((((xs 2) + (64 : Int32)) &&& (255 : Int32))).toInt64 <<< (((16 : Int32)).toInt64 &&& 63))), .ref 34, .ref 36, .int 0, .long 0, .ref 42, .ref 44, .ref 60, .ref 66, .ref 72, .ref 74, .ref 150, .ref 158]))))).set 81 (.inr (.inr (.inr (10, [.int 0, .ref 164, .int 0, .ref 166, .ref 168, .ref 170, .ref 172, .ref 174, .ref 176, .ref 178, .ref 180, .ref 182, .ref 184, .ref 186, .int 0, .int 0, .int 0, .int 0, .int 0, .int 0, .int 0, .int 0, .int 0, .int (-1), .ref 188, .ref 190, .ref 192, .int 1, .int 0, .ref 194, .ref 196, .ref 198, .int 0, .int 0, .int 0, .int 0, .ref 200, .ref 202, .ref 204, .int 0, .ref 206, .ref 208, .ref 210, .ref 212, .ref 214, .ref 216, .ref 218, .ref 220, .ref 222, .ref 224, .ref 226, .ref 228, .int 0, .ref 230]))))).set 96 (.inl (0, 252, [0, 0, 0, 0, 0, 0, 22000000, 0, 10000, 0, 0, 0]))).set 94 (.inl (0, 6, [0, 0, 0, (xs 2), 0, 0])))) (d1 := 0) (s1 := 0) rfl rfl ?_ ?_
  · refine zT_gos (f := 200000) (pc2 := 15) (ls2 := [(0, .ref 162), (1, .int 3), (2, .int (xs 2))]) (st2 := [.int (xs 2), .int 3, .ref 162]) (h2 := ((((zH0.set 19 (.inr (.inl (20, [70644700037184])))).set 20 (.inl (0, 120, [22000000, 0, 10000, 0, 0, 0]))).set 18 (.inr (.inr (.inr (2, [.int 1, .int 1, .ref 38, .ref 40]))))).set 0 (.inr (.inr (.inr (9, [.ref 2, .int 0, .ref 4, .ref 6, .ref 20, .long ((70644695842880 : Int64) ||| (((((xs 2) + (64 : Int32)) &&& (255 : Int32))).toInt64 <<< (((16 : Int32)).toInt64 &&& 63))), .ref 34, .ref 36, .int 0, .long 0, .ref 42, .ref 44, .ref 60, .ref 66, .ref 72, .ref 74, .ref 150, .ref 158])))))) (dc2 := 0) (ds2 := 0) 9 rfl ?_
    refine zT_call (v := some (.int 1)) (h2 := ((((zH0.set 19 (.inr (.inl (20, [70644700037184])))).set 20 (.inl (0, 120, [22000000, 0, 10000, 0, 0, 0]))).set 18 (.inr (.inr (.inr (2, [.int 1, .int 1, .ref 38, .ref 40]))))).set 0 (.inr (.inr (.inr (9, [.ref 2, .int 0, .ref 4, .ref 6, .ref 20, .long ((70644695842880 : Int64) ||| (((((xs 2) + (64 : Int32)) &&& (255 : Int32))).toInt64 <<< (((16 : Int32)).toInt64 &&& 63))), .ref 34, .ref 36, .int 0, .long 0, .ref 42, .ref 44, .ref 60, .ref 66, .ref 72, .ref 74, .ref 150, .ref 158])))))) (d1 := 0) (s1 := 0) rfl rfl ?_ ?_
    · refine zT_gos (f := 200000) (pc2 := 7) (ls2 := [(0, .ref 162), (1, .int 3), (2, .int (xs 2))]) (st2 := [.int (-32), .int (xs 2)]) (h2 := ((((zH0.set 19 (.inr (.inl (20, [70644700037184])))).set 20 (.inl (0, 120, [22000000, 0, 10000, 0, 0, 0]))).set 18 (.inr (.inr (.inr (2, [.int 1, .int 1, .ref 38, .ref 40]))))).set 0 (.inr (.inr (.inr (9, [.ref 2, .int 0, .ref 4, .ref 6, .ref 20, .long ((70644695842880 : Int64) ||| (((((xs 2) + (64 : Int32)) &&& (255 : Int32))).toInt64 <<< (((16 : Int32)).toInt64 &&& 63))), .ref 34, .ref 36, .int 0, .long 0, .ref 42, .ref 44, .ref 60, .ref 66, .ref 72, .ref 74, .ref 150, .ref 158])))))) (dc2 := 0) (ds2 := 0) 5 rfl ?_
      refine zT_if2 false rfl (zc_lt_f (by show ((xs 2) : Int32).toInt ≥ -32; omega)) ?_
      refine zT_here (pc2 := 10) rfl ?_
      refine zT_gos (f := 200000) (pc2 := 17) (ls2 := [(0, .ref 162), (1, .int 3), (2, .int (xs 2))]) (st2 := [.int 31, .int (xs 2)]) (h2 := ((((zH0.set 19 (.inr (.inl (20, [70644700037184])))).set 20 (.inl (0, 120, [22000000, 0, 10000, 0, 0, 0]))).set 18 (.inr (.inr (.inr (2, [.int 1, .int 1, .ref 38, .ref 40]))))).set 0 (.inr (.inr (.inr (9, [.ref 2, .int 0, .ref 4, .ref 6, .ref 20, .long ((70644695842880 : Int64) ||| (((((xs 2) + (64 : Int32)) &&& (255 : Int32))).toInt64 <<< (((16 : Int32)).toInt64 &&& 63))), .ref 34, .ref 36, .int 0, .long 0, .ref 42, .ref 44, .ref 60, .ref 66, .ref 72, .ref 74, .ref 150, .ref 158])))))) (dc2 := 0) (ds2 := 0) 5 rfl ?_
      refine zT_if2 false rfl (zc_gt_f (by show ((xs 2) : Int32).toInt ≤ 31; omega)) ?_
      refine zT_here (pc2 := 20) rfl ?_
      refine zT_gos (f := 200000) (pc2 := 25) (ls2 := [(0, .ref 162), (1, .int 3), (2, .int (xs 2))]) (st2 := [.int 1]) (h2 := ((((zH0.set 19 (.inr (.inl (20, [70644700037184])))).set 20 (.inl (0, 120, [22000000, 0, 10000, 0, 0, 0]))).set 18 (.inr (.inr (.inr (2, [.int 1, .int 1, .ref 38, .ref 40]))))).set 0 (.inr (.inr (.inr (9, [.ref 2, .int 0, .ref 4, .ref 6, .ref 20, .long ((70644695842880 : Int64) ||| (((((xs 2) + (64 : Int32)) &&& (255 : Int32))).toInt64 <<< (((16 : Int32)).toInt64 &&& 63))), .ref 34, .ref 36, .int 0, .long 0, .ref 42, .ref 44, .ref 60, .ref 66, .ref 72, .ref 74, .ref 150, .ref 158])))))) (dc2 := 0) (ds2 := 0) 2 rfl ?_
      exact zT_ret rfl rfl
    refine zT_here (pc2 := 18) rfl ?_
    refine zT_gos (f := 200000) (pc2 := 39) (ls2 := [(0, .ref 162), (1, .int 3), (2, .int (xs 2))]) (st2 := [.int 1]) (h2 := (((((((zH0.set 19 (.inr (.inl (20, [70644700037184])))).set 20 (.inl (0, 120, [22000000, 0, 10000, 0, 0, 0]))).set 18 (.inr (.inr (.inr (2, [.int 1, .int 1, .ref 38, .ref 40]))))).set 0 (.inr (.inr (.inr (9, [.ref 2, .int 0, .ref 4, .ref 6, .ref 20, .long ((70644695842880 : Int64) ||| (((((xs 2) + (64 : Int32)) &&& (255 : Int32))).toInt64 <<< (((16 : Int32)).toInt64 &&& 63))), .ref 34, .ref 36, .int 0, .long 0, .ref 42, .ref 44, .ref 60, .ref 66, .ref 72, .ref 74, .ref 150, .ref 158]))))).set 81 (.inr (.inr (.inr (10, [.int 0, .ref 164, .int 0, .ref 166, .ref 168, .ref 170, .ref 172, .ref 174, .ref 176, .ref 178, .ref 180, .ref 182, .ref 184, .ref 186, .int 0, .int 0, .int 0, .int 0, .int 0, .int 0, .int 0, .int 0, .int 0, .int (-1), .ref 188, .ref 190, .ref 192, .int 1, .int 0, .ref 194, .ref 196, .ref 198, .int 0, .int 0, .int 0, .int 0, .ref 200, .ref 202, .ref 204, .int 0, .ref 206, .ref 208, .ref 210, .ref 212, .ref 214, .ref 216, .ref 218, .ref 220, .ref 222, .ref 224, .ref 226, .ref 228, .int 0, .ref 230]))))).set 96 (.inl (0, 252, [0, 0, 0, 0, 0, 0, 22000000, 0, 10000, 0, 0, 0]))).set 94 (.inl (0, 6, [0, 0, 0, (xs 2), 0, 0])))) (dc2 := 0) (ds2 := 0) 11 rfl ?_
    exact zT_ret rfl rfl
  refine zT_here (pc2 := 509) rfl ?_
  refine zT_gos (f := 200000) (pc2 := 1811) (ls2 := [(4, .int 6), (3, .ref 232), (2, .ref 162), (1, .ref 0), (0, .ref 11)]) (st2 := [.int 1]) (h2 := (((((((zH0.set 19 (.inr (.inl (20, [70644700037184])))).set 20 (.inl (0, 120, [22000000, 0, 10000, 0, 0, 0]))).set 18 (.inr (.inr (.inr (2, [.int 1, .int 1, .ref 38, .ref 40]))))).set 0 (.inr (.inr (.inr (9, [.ref 2, .int 0, .ref 4, .ref 6, .ref 20, .long ((70644695842880 : Int64) ||| (((((xs 2) + (64 : Int32)) &&& (255 : Int32))).toInt64 <<< (((16 : Int32)).toInt64 &&& 63))), .ref 34, .ref 36, .int 0, .long 0, .ref 42, .ref 44, .ref 60, .ref 66, .ref 72, .ref 74, .ref 150, .ref 158]))))).set 81 (.inr (.inr (.inr (10, [.int 0, .ref 164, .int 0, .ref 166, .ref 168, .ref 170, .ref 172, .ref 174, .ref 176, .ref 178, .ref 180, .ref 182, .ref 184, .ref 186, .int 0, .int 0, .int 0, .int 0, .int 0, .int 0, .int 0, .int 0, .int 0, .int (-1), .ref 188, .ref 190, .ref 192, .int 1, .int 0, .ref 194, .ref 196, .ref 198, .int 0, .int 0, .int 0, .int 0, .ref 200, .ref 202, .ref 204, .int 0, .ref 206, .ref 208, .ref 210, .ref 212, .ref 214, .ref 216, .ref 218, .ref 220, .ref 222, .ref 224, .ref 226, .ref 228, .int 0, .ref 230]))))).set 96 (.inl (0, 252, [0, 0, 0, 0, 0, 0, 22000000, 0, 10000, 0, 0, 0]))).set 94 (.inl (0, 6, [0, 0, 0, (xs 2), 0, 0])))) (dc2 := 117) (ds2 := 29934) 10 rfl ?_
  exact zT_ret rfl rfl
set_option maxRecDepth 1000000 in
set_option maxHeartbeats 4000000 in
theorem zo_6_14 (xs : Nat → Int32) (h0 : xs 0 &&& 63 = 6) (h1 : xs 1 = 4) (h2 : (xs 2).toInt < -32) : zDone xs := by
  refine ⟨zH0, 117, 29934, ?_, by decide, by decide⟩
  refine zT_gos (f := 200000) (pc2 := 37) (ls2 := [(4, .int 0), (3, .ref 232), (2, .ref 162), (1, .ref 0), (0, .ref 11)]) (st2 := [.int (xs 0)]) (h2 := zH0) (dc2 := 117) (ds2 := 29934) 9 rfl ?_
  refine zT_gos (f := 200000) (pc2 := 40) (ls2 := [(4, .int 0), (3, .ref 232), (2, .ref 162), (1, .ref 0), (0, .ref 11)]) (st2 := [.int ((xs 0) &&& (63 : Int32))]) (h2 := zH0) (dc2 := 117) (ds2 := 29934) 2 rfl ?_
  refine zT_val h0 ?_
  refine zT_gos (f := 200000) (pc2 := 484) (ls2 := [(4, .int 0), (3, .ref 232), (2, .ref 162), (1, .ref 0), (0, .ref 11)]) (st2 := [.int (xs 1), .ref 0]) (h2 := zH0) (dc2 := 117) (ds2 := 29934) 7 rfl ?_
  refine zT_val h1 ?_
  refine zT_gos (f := 200000) (pc2 := 490) (ls2 := [(4, .int 0), (3, .ref 232), (2, .ref 162), (1, .ref 0), (0, .ref 11)]) (st2 := [.int (xs 2), .int 4, .ref 0]) (h2 := zH0) (dc2 := 117) (ds2 := 29934) 5 rfl ?_
  refine zT_call (v := some (.int 0)) (h2 := zH0) (d1 := 0) (s1 := 0) rfl rfl ?_ ?_
  · refine zT_gos (f := 200000) (pc2 := 13) (ls2 := [(0, .ref 0), (1, .int 4), (2, .int (xs 2))]) (st2 := [.int (xs 2), .int 4, .ref 6]) (h2 := zH0) (dc2 := 0) (ds2 := 0) 7 rfl ?_
    refine zT_call (v := some (.int 0)) (h2 := zH0) (d1 := 0) (s1 := 0) rfl rfl ?_ ?_
    · refine zT_gos (f := 200000) (pc2 := 7) (ls2 := [(0, .ref 6), (1, .int 4), (2, .int (xs 2))]) (st2 := [.int (-32), .int (xs 2)]) (h2 := zH0) (dc2 := 0) (ds2 := 0) 5 rfl ?_
      refine zT_if2 true rfl (zc_lt_t (by show ((xs 2) : Int32).toInt < -32; omega)) ?_
      refine zT_here (pc2 := 24) rfl ?_
      refine zT_gos (f := 200000) (pc2 := 25) (ls2 := [(0, .ref 6), (1, .int 4), (2, .int (xs 2))]) (st2 := [.int 0]) (h2 := zH0) (dc2 := 0) (ds2 := 0) 1 rfl ?_
      exact zT_ret rfl rfl
    refine zT_here (pc2 := 16) rfl ?_
    refine zT_gos (f := 200000) (pc2 := 20) (ls2 := [(0, .ref 0), (1, .int 4), (2, .int (xs 2))]) (st2 := [.int 0]) (h2 := zH0) (dc2 := 0) (ds2 := 0) 2 rfl ?_
    exact zT_ret rfl rfl
  refine zT_here (pc2 := 493) rfl ?_
  refine zT_gos (f := 200000) (pc2 := 500) (ls2 := [(4, .int 0), (3, .ref 232), (2, .ref 162), (1, .ref 0), (0, .ref 11)]) (st2 := [.int (xs 1), .ref 162, .int 0]) (h2 := zH0) (dc2 := 117) (ds2 := 29934) 6 rfl ?_
  refine zT_val h1 ?_
  refine zT_gos (f := 200000) (pc2 := 506) (ls2 := [(4, .int 0), (3, .ref 232), (2, .ref 162), (1, .ref 0), (0, .ref 11)]) (st2 := [.int (xs 2), .int 4, .ref 162, .int 0]) (h2 := zH0) (dc2 := 117) (ds2 := 29934) 5 rfl ?_
  refine zT_call (v := some (.int 0)) (h2 := zH0) (d1 := 0) (s1 := 0) rfl rfl ?_ ?_
  · refine zT_gos (f := 200000) (pc2 := 15) (ls2 := [(0, .ref 162), (1, .int 4), (2, .int (xs 2))]) (st2 := [.int (xs 2), .int 4, .ref 162]) (h2 := zH0) (dc2 := 0) (ds2 := 0) 9 rfl ?_
    refine zT_call (v := some (.int 0)) (h2 := zH0) (d1 := 0) (s1 := 0) rfl rfl ?_ ?_
    · refine zT_gos (f := 200000) (pc2 := 7) (ls2 := [(0, .ref 162), (1, .int 4), (2, .int (xs 2))]) (st2 := [.int (-32), .int (xs 2)]) (h2 := zH0) (dc2 := 0) (ds2 := 0) 5 rfl ?_
      refine zT_if2 true rfl (zc_lt_t (by show ((xs 2) : Int32).toInt < -32; omega)) ?_
      refine zT_here (pc2 := 24) rfl ?_
      refine zT_gos (f := 200000) (pc2 := 25) (ls2 := [(0, .ref 162), (1, .int 4), (2, .int (xs 2))]) (st2 := [.int 0]) (h2 := zH0) (dc2 := 0) (ds2 := 0) 1 rfl ?_
      exact zT_ret rfl rfl
    refine zT_here (pc2 := 18) rfl ?_
    refine zT_gos (f := 200000) (pc2 := 22) (ls2 := [(0, .ref 162), (1, .int 4), (2, .int (xs 2))]) (st2 := [.int 0]) (h2 := zH0) (dc2 := 0) (ds2 := 0) 2 rfl ?_
    exact zT_ret rfl rfl
  refine zT_here (pc2 := 509) rfl ?_
  refine zT_gos (f := 200000) (pc2 := 1811) (ls2 := [(4, .int 6), (3, .ref 232), (2, .ref 162), (1, .ref 0), (0, .ref 11)]) (st2 := [.int 1]) (h2 := zH0) (dc2 := 117) (ds2 := 29934) 10 rfl ?_
  exact zT_ret rfl rfl
set_option maxRecDepth 1000000 in
set_option maxHeartbeats 4000000 in
theorem zo_6_15 (xs : Nat → Int32) (h0 : xs 0 &&& 63 = 6) (h1 : xs 1 = 4) (h2 : 31 < (xs 2).toInt) : zDone xs := by
  refine ⟨zH0, 117, 29934, ?_, by decide, by decide⟩
  refine zT_gos (f := 200000) (pc2 := 37) (ls2 := [(4, .int 0), (3, .ref 232), (2, .ref 162), (1, .ref 0), (0, .ref 11)]) (st2 := [.int (xs 0)]) (h2 := zH0) (dc2 := 117) (ds2 := 29934) 9 rfl ?_
  refine zT_gos (f := 200000) (pc2 := 40) (ls2 := [(4, .int 0), (3, .ref 232), (2, .ref 162), (1, .ref 0), (0, .ref 11)]) (st2 := [.int ((xs 0) &&& (63 : Int32))]) (h2 := zH0) (dc2 := 117) (ds2 := 29934) 2 rfl ?_
  refine zT_val h0 ?_
  refine zT_gos (f := 200000) (pc2 := 484) (ls2 := [(4, .int 0), (3, .ref 232), (2, .ref 162), (1, .ref 0), (0, .ref 11)]) (st2 := [.int (xs 1), .ref 0]) (h2 := zH0) (dc2 := 117) (ds2 := 29934) 7 rfl ?_
  refine zT_val h1 ?_
  refine zT_gos (f := 200000) (pc2 := 490) (ls2 := [(4, .int 0), (3, .ref 232), (2, .ref 162), (1, .ref 0), (0, .ref 11)]) (st2 := [.int (xs 2), .int 4, .ref 0]) (h2 := zH0) (dc2 := 117) (ds2 := 29934) 5 rfl ?_
  refine zT_call (v := some (.int 0)) (h2 := zH0) (d1 := 0) (s1 := 0) rfl rfl ?_ ?_
  · refine zT_gos (f := 200000) (pc2 := 13) (ls2 := [(0, .ref 0), (1, .int 4), (2, .int (xs 2))]) (st2 := [.int (xs 2), .int 4, .ref 6]) (h2 := zH0) (dc2 := 0) (ds2 := 0) 7 rfl ?_
    refine zT_call (v := some (.int 0)) (h2 := zH0) (d1 := 0) (s1 := 0) rfl rfl ?_ ?_
    · refine zT_gos (f := 200000) (pc2 := 7) (ls2 := [(0, .ref 6), (1, .int 4), (2, .int (xs 2))]) (st2 := [.int (-32), .int (xs 2)]) (h2 := zH0) (dc2 := 0) (ds2 := 0) 5 rfl ?_
      refine zT_if2 false rfl (zc_lt_f (by show ((xs 2) : Int32).toInt ≥ -32; omega)) ?_
      refine zT_here (pc2 := 10) rfl ?_
      refine zT_gos (f := 200000) (pc2 := 17) (ls2 := [(0, .ref 6), (1, .int 4), (2, .int (xs 2))]) (st2 := [.int 31, .int (xs 2)]) (h2 := zH0) (dc2 := 0) (ds2 := 0) 5 rfl ?_
      refine zT_if2 true rfl (zc_gt_t (by show ((xs 2) : Int32).toInt > 31; omega)) ?_
      refine zT_here (pc2 := 24) rfl ?_
      refine zT_gos (f := 200000) (pc2 := 25) (ls2 := [(0, .ref 6), (1, .int 4), (2, .int (xs 2))]) (st2 := [.int 0]) (h2 := zH0) (dc2 := 0) (ds2 := 0) 1 rfl ?_
      exact zT_ret rfl rfl
    refine zT_here (pc2 := 16) rfl ?_
    refine zT_gos (f := 200000) (pc2 := 20) (ls2 := [(0, .ref 0), (1, .int 4), (2, .int (xs 2))]) (st2 := [.int 0]) (h2 := zH0) (dc2 := 0) (ds2 := 0) 2 rfl ?_
    exact zT_ret rfl rfl
  refine zT_here (pc2 := 493) rfl ?_
  refine zT_gos (f := 200000) (pc2 := 500) (ls2 := [(4, .int 0), (3, .ref 232), (2, .ref 162), (1, .ref 0), (0, .ref 11)]) (st2 := [.int (xs 1), .ref 162, .int 0]) (h2 := zH0) (dc2 := 117) (ds2 := 29934) 6 rfl ?_
  refine zT_val h1 ?_
  refine zT_gos (f := 200000) (pc2 := 506) (ls2 := [(4, .int 0), (3, .ref 232), (2, .ref 162), (1, .ref 0), (0, .ref 11)]) (st2 := [.int (xs 2), .int 4, .ref 162, .int 0]) (h2 := zH0) (dc2 := 117) (ds2 := 29934) 5 rfl ?_
  refine zT_call (v := some (.int 0)) (h2 := zH0) (d1 := 0) (s1 := 0) rfl rfl ?_ ?_
  · refine zT_gos (f := 200000) (pc2 := 15) (ls2 := [(0, .ref 162), (1, .int 4), (2, .int (xs 2))]) (st2 := [.int (xs 2), .int 4, .ref 162]) (h2 := zH0) (dc2 := 0) (ds2 := 0) 9 rfl ?_
    refine zT_call (v := some (.int 0)) (h2 := zH0) (d1 := 0) (s1 := 0) rfl rfl ?_ ?_
    · refine zT_gos (f := 200000) (pc2 := 7) (ls2 := [(0, .ref 162), (1, .int 4), (2, .int (xs 2))]) (st2 := [.int (-32), .int (xs 2)]) (h2 := zH0) (dc2 := 0) (ds2 := 0) 5 rfl ?_
      refine zT_if2 false rfl (zc_lt_f (by show ((xs 2) : Int32).toInt ≥ -32; omega)) ?_
      refine zT_here (pc2 := 10) rfl ?_
      refine zT_gos (f := 200000) (pc2 := 17) (ls2 := [(0, .ref 162), (1, .int 4), (2, .int (xs 2))]) (st2 := [.int 31, .int (xs 2)]) (h2 := zH0) (dc2 := 0) (ds2 := 0) 5 rfl ?_
      refine zT_if2 true rfl (zc_gt_t (by show ((xs 2) : Int32).toInt > 31; omega)) ?_
      refine zT_here (pc2 := 24) rfl ?_
      refine zT_gos (f := 200000) (pc2 := 25) (ls2 := [(0, .ref 162), (1, .int 4), (2, .int (xs 2))]) (st2 := [.int 0]) (h2 := zH0) (dc2 := 0) (ds2 := 0) 1 rfl ?_
      exact zT_ret rfl rfl
    refine zT_here (pc2 := 18) rfl ?_
    refine zT_gos (f := 200000) (pc2 := 22) (ls2 := [(0, .ref 162), (1, .int 4), (2, .int (xs 2))]) (st2 := [.int 0]) (h2 := zH0) (dc2 := 0) (ds2 := 0) 2 rfl ?_
    exact zT_ret rfl rfl
  refine zT_here (pc2 := 509) rfl ?_
  refine zT_gos (f := 200000) (pc2 := 1811) (ls2 := [(4, .int 6), (3, .ref 232), (2, .ref 162), (1, .ref 0), (0, .ref 11)]) (st2 := [.int 1]) (h2 := zH0) (dc2 := 117) (ds2 := 29934) 10 rfl ?_
  exact zT_ret rfl rfl
set_option maxRecDepth 1000000 in
set_option maxHeartbeats 4000000 in
theorem zo_6_16 (xs : Nat → Int32) (h0 : xs 0 &&& 63 = 6) (h1 : xs 1 = 4) (h2 : -32 ≤ (xs 2).toInt ∧ (xs 2).toInt ≤ 31) : zDone xs := by
  refine ⟨(((((((zH0.set 19 (.inr (.inl (20, [70644700037184])))).set 20 (.inl (0, 120, [22000000, 0, 10000, 0, 0, 0]))).set 18 (.inr (.inr (.inr (2, [.int 1, .int 1, .ref 38, .ref 40]))))).set 0 (.inr (.inr (.inr (9, [.ref 2, .int 0, .ref 4, .ref 6, .ref 20, .long ((70644700020800 : Int64) ||| (((((xs 2) + (64 : Int32)) &&& (255 : Int32))).toInt64 <<< (((8 : Int32)).toInt64 &&& 63))), .ref 34, .ref 36, .int 0, .long 0, .ref 42, .ref 44, .ref 60, .ref 66, .ref 72, .ref 74, .ref 150, .ref 158]))))).set 81 (.inr (.inr (.inr (10, [.int 0, .ref 164, .int 0, .ref 166, .ref 168, .ref 170, .ref 172, .ref 174, .ref 176, .ref 178, .ref 180, .ref 182, .ref 184, .ref 186, .int 0, .int 0, .int 0, .int 0, .int 0, .int 0, .int 0, .int 0, .int 0, .int (-1), .ref 188, .ref 190, .ref 192, .int 1, .int 0, .ref 194, .ref 196, .ref 198, .int 0, .int 0, .int 0, .int 0, .ref 200, .ref 202, .ref 204, .int 0, .ref 206, .ref 208, .ref 210, .ref 212, .ref 214, .ref 216, .ref 218, .ref 220, .ref 222, .ref 224, .ref 226, .ref 228, .int 0, .ref 230]))))).set 96 (.inl (0, 252, [0, 0, 0, 0, 0, 0, 22000000, 0, 10000, 0, 0, 0]))).set 94 (.inl (0, 6, [0, 0, 0, 0, (xs 2), 0]))), 117, 29934, ?_, by decide, by decide⟩
  refine zT_gos (f := 200000) (pc2 := 37) (ls2 := [(4, .int 0), (3, .ref 232), (2, .ref 162), (1, .ref 0), (0, .ref 11)]) (st2 := [.int (xs 0)]) (h2 := zH0) (dc2 := 117) (ds2 := 29934) 9 rfl ?_
  refine zT_gos (f := 200000) (pc2 := 40) (ls2 := [(4, .int 0), (3, .ref 232), (2, .ref 162), (1, .ref 0), (0, .ref 11)]) (st2 := [.int ((xs 0) &&& (63 : Int32))]) (h2 := zH0) (dc2 := 117) (ds2 := 29934) 2 rfl ?_
  refine zT_val h0 ?_
  refine zT_gos (f := 200000) (pc2 := 484) (ls2 := [(4, .int 0), (3, .ref 232), (2, .ref 162), (1, .ref 0), (0, .ref 11)]) (st2 := [.int (xs 1), .ref 0]) (h2 := zH0) (dc2 := 117) (ds2 := 29934) 7 rfl ?_
  refine zT_val h1 ?_
  refine zT_gos (f := 200000) (pc2 := 490) (ls2 := [(4, .int 0), (3, .ref 232), (2, .ref 162), (1, .ref 0), (0, .ref 11)]) (st2 := [.int (xs 2), .int 4, .ref 0]) (h2 := zH0) (dc2 := 117) (ds2 := 29934) 5 rfl ?_
  refine zT_call (v := some (.int 1)) (h2 := ((((zH0.set 19 (.inr (.inl (20, [70644700037184])))).set 20 (.inl (0, 120, [22000000, 0, 10000, 0, 0, 0]))).set 18 (.inr (.inr (.inr (2, [.int 1, .int 1, .ref 38, .ref 40]))))).set 0 (.inr (.inr (.inr (9, [.ref 2, .int 0, .ref 4, .ref 6, .ref 20, .long ((70644700020800 : Int64) ||| (((((xs 2) + (64 : Int32)) &&& (255 : Int32))).toInt64 <<< (((8 : Int32)).toInt64 &&& 63))), .ref 34, .ref 36, .int 0, .long 0, .ref 42, .ref 44, .ref 60, .ref 66, .ref 72, .ref 74, .ref 150, .ref 158])))))) (d1 := 0) (s1 := 0) rfl rfl ?_ ?_
  · refine zT_gos (f := 200000) (pc2 := 13) (ls2 := [(0, .ref 0), (1, .int 4), (2, .int (xs 2))]) (st2 := [.int (xs 2), .int 4, .ref 6]) (h2 := zH0) (dc2 := 0) (ds2 := 0) 7 rfl ?_
    refine zT_call (v := some (.int 1)) (h2 := zH0) (d1 := 0) (s1 := 0) rfl rfl ?_ ?_
    · refine zT_gos (f := 200000) (pc2 := 7) (ls2 := [(0, .ref 6), (1, .int 4), (2, .int (xs 2))]) (st2 := [.int (-32), .int (xs 2)]) (h2 := zH0) (dc2 := 0) (ds2 := 0) 5 rfl ?_
      refine zT_if2 false rfl (zc_lt_f (by show ((xs 2) : Int32).toInt ≥ -32; omega)) ?_
      refine zT_here (pc2 := 10) rfl ?_
      refine zT_gos (f := 200000) (pc2 := 17) (ls2 := [(0, .ref 6), (1, .int 4), (2, .int (xs 2))]) (st2 := [.int 31, .int (xs 2)]) (h2 := zH0) (dc2 := 0) (ds2 := 0) 5 rfl ?_
      refine zT_if2 false rfl (zc_gt_f (by show ((xs 2) : Int32).toInt ≤ 31; omega)) ?_
      refine zT_here (pc2 := 20) rfl ?_
      refine zT_gos (f := 200000) (pc2 := 25) (ls2 := [(0, .ref 6), (1, .int 4), (2, .int (xs 2))]) (st2 := [.int 1]) (h2 := zH0) (dc2 := 0) (ds2 := 0) 2 rfl ?_
      exact zT_ret rfl rfl
    refine zT_here (pc2 := 16) rfl ?_
    refine zT_gos (f := 200000) (pc2 := 50) (ls2 := [(0, .ref 0), (1, .int 4), (2, .int (xs 2))]) (st2 := [.int 1]) (h2 := ((((zH0.set 19 (.inr (.inl (20, [70644700037184])))).set 20 (.inl (0, 120, [22000000, 0, 10000, 0, 0, 0]))).set 18 (.inr (.inr (.inr (2, [.int 1, .int 1, .ref 38, .ref 40]))))).set 0 (.inr (.inr (.inr (9, [.ref 2, .int 0, .ref 4, .ref 6, .ref 20, .long ((70644700020800 : Int64) ||| (((((xs 2) + (64 : Int32)) &&& (255 : Int32))).toInt64 <<< (((8 : Int32)).toInt64 &&& 63))), .ref 34, .ref 36, .int 0, .long 0, .ref 42, .ref 44, .ref 60, .ref 66, .ref 72, .ref 74, .ref 150, .ref 158])))))) (dc2 := 0) (ds2 := 0) 16 rfl ?_
    exact zT_ret rfl rfl
  refine zT_here (pc2 := 493) rfl ?_
  refine zT_gos (f := 200000) (pc2 := 500) (ls2 := [(4, .int 0), (3, .ref 232), (2, .ref 162), (1, .ref 0), (0, .ref 11)]) (st2 := [.int (xs 1), .ref 162, .int 1]) (h2 := ((((zH0.set 19 (.inr (.inl (20, [70644700037184])))).set 20 (.inl (0, 120, [22000000, 0, 10000, 0, 0, 0]))).set 18 (.inr (.inr (.inr (2, [.int 1, .int 1, .ref 38, .ref 40]))))).set 0 (.inr (.inr (.inr (9, [.ref 2, .int 0, .ref 4, .ref 6, .ref 20, .long ((70644700020800 : Int64) ||| (((((xs 2) + (64 : Int32)) &&& (255 : Int32))).toInt64 <<< (((8 : Int32)).toInt64 &&& 63))), .ref 34, .ref 36, .int 0, .long 0, .ref 42, .ref 44, .ref 60, .ref 66, .ref 72, .ref 74, .ref 150, .ref 158])))))) (dc2 := 117) (ds2 := 29934) 6 rfl ?_
  refine zT_val h1 ?_
  refine zT_gos (f := 200000) (pc2 := 506) (ls2 := [(4, .int 0), (3, .ref 232), (2, .ref 162), (1, .ref 0), (0, .ref 11)]) (st2 := [.int (xs 2), .int 4, .ref 162, .int 1]) (h2 := ((((zH0.set 19 (.inr (.inl (20, [70644700037184])))).set 20 (.inl (0, 120, [22000000, 0, 10000, 0, 0, 0]))).set 18 (.inr (.inr (.inr (2, [.int 1, .int 1, .ref 38, .ref 40]))))).set 0 (.inr (.inr (.inr (9, [.ref 2, .int 0, .ref 4, .ref 6, .ref 20, .long ((70644700020800 : Int64) ||| (((((xs 2) + (64 : Int32)) &&& (255 : Int32))).toInt64 <<< (((8 : Int32)).toInt64 &&& 63))), .ref 34, .ref 36, .int 0, .long 0, .ref 42, .ref 44, .ref 60, .ref 66, .ref 72, .ref 74, .ref 150, .ref 158])))))) (dc2 := 117) (ds2 := 29934) 5 rfl ?_
  refine zT_call (v := some (.int 1)) (h2 := (((((((zH0.set 19 (.inr (.inl (20, [70644700037184])))).set 20 (.inl (0, 120, [22000000, 0, 10000, 0, 0, 0]))).set 18 (.inr (.inr (.inr (2, [.int 1, .int 1, .ref 38, .ref 40]))))).set 0 (.inr (.inr (.inr (9, [.ref 2, .int 0, .ref 4, .ref 6, .ref 20, .long ((70644700020800 : Int64) ||| (((((xs 2) + (64 : Int32)) &&& (255 : Int32))).toInt64 <<< (((8 : Int32)).toInt64 &&& 63))), .ref 34, .ref 36, .int 0, .long 0, .ref 42, .ref 44, .ref 60, .ref 66, .ref 72, .ref 74, .ref 150, .ref 158]))))).set 81 (.inr (.inr (.inr (10, [.int 0, .ref 164, .int 0, .ref 166, .ref 168, .ref 170, .ref 172, .ref 174, .ref 176, .ref 178, .ref 180, .ref 182, .ref 184, .ref 186, .int 0, .int 0, .int 0, .int 0, .int 0, .int 0, .int 0, .int 0, .int 0, .int (-1), .ref 188, .ref 190, .ref 192, .int 1, .int 0, .ref 194, .ref 196, .ref 198, .int 0, .int 0, .int 0, .int 0, .ref 200, .ref 202, .ref 204, .int 0, .ref 206, .ref 208, .ref 210, .ref 212, .ref 214, .ref 216, .ref 218, .ref 220, .ref 222, .ref 224, .ref 226, .ref 228, .int 0, .ref 230]))))).set 96 (.inl (0, 252, [0, 0, 0, 0, 0, 0, 22000000, 0, 10000, 0, 0, 0]))).set 94 (.inl (0, 6, [0, 0, 0, 0, (xs 2), 0])))) (d1 := 0) (s1 := 0) rfl rfl ?_ ?_
  · refine zT_gos (f := 200000) (pc2 := 15) (ls2 := [(0, .ref 162), (1, .int 4), (2, .int (xs 2))]) (st2 := [.int (xs 2), .int 4, .ref 162]) (h2 := ((((zH0.set 19 (.inr (.inl (20, [70644700037184])))).set 20 (.inl (0, 120, [22000000, 0, 10000, 0, 0, 0]))).set 18 (.inr (.inr (.inr (2, [.int 1, .int 1, .ref 38, .ref 40]))))).set 0 (.inr (.inr (.inr (9, [.ref 2, .int 0, .ref 4, .ref 6, .ref 20, .long ((70644700020800 : Int64) ||| (((((xs 2) + (64 : Int32)) &&& (255 : Int32))).toInt64 <<< (((8 : Int32)).toInt64 &&& 63))), .ref 34, .ref 36, .int 0, .long 0, .ref 42, .ref 44, .ref 60, .ref 66, .ref 72, .ref 74, .ref 150, .ref 158])))))) (dc2 := 0) (ds2 := 0) 9 rfl ?_
    refine zT_call (v := some (.int 1)) (h2 := ((((zH0.set 19 (.inr (.inl (20, [70644700037184])))).set 20 (.inl (0, 120, [22000000, 0, 10000, 0, 0, 0]))).set 18 (.inr (.inr (.inr (2, [.int 1, .int 1, .ref 38, .ref 40]))))).set 0 (.inr (.inr (.inr (9, [.ref 2, .int 0, .ref 4, .ref 6, .ref 20, .long ((70644700020800 : Int64) ||| (((((xs 2) + (64 : Int32)) &&& (255 : Int32))).toInt64 <<< (((8 : Int32)).toInt64 &&& 63))), .ref 34, .ref 36, .int 0, .long 0, .ref 42, .ref 44, .ref 60, .ref 66, .ref 72, .ref 74, .ref 150, .ref 158])))))) (d1 := 0) (s1 := 0) rfl rfl ?_ ?_
    · refine zT_gos (f := 200000) (pc2 := 7) (ls2 := [(0, .ref 162), (1, .int 4), (2, .int (xs 2))]) (st2 := [.int (-32), .int (xs 2)]) (h2 := ((((zH0.set 19 (.inr (.inl (20, [70644700037184])))).set 20 (.inl (0, 120, [22000000, 0, 10000, 0, 0, 0]))).set 18 (.inr (.inr (.inr (2, [.int 1, .int 1, .ref 38, .ref 40]))))).set 0 (.inr (.inr (.inr (9, [.ref 2, .int 0, .ref 4, .ref 6, .ref 20, .long ((70644700020800 : Int64) ||| (((((xs 2) + (64 : Int32)) &&& (255 : Int32))).toInt64 <<< (((8 : Int32)).toInt64 &&& 63))), .ref 34, .ref 36, .int 0, .long 0, .ref 42, .ref 44, .ref 60, .ref 66, .ref 72, .ref 74, .ref 150, .ref 158])))))) (dc2 := 0) (ds2 := 0) 5 rfl ?_
      refine zT_if2 false rfl (zc_lt_f (by show ((xs 2) : Int32).toInt ≥ -32; omega)) ?_
      refine zT_here (pc2 := 10) rfl ?_
      refine zT_gos (f := 200000) (pc2 := 17) (ls2 := [(0, .ref 162), (1, .int 4), (2, .int (xs 2))]) (st2 := [.int 31, .int (xs 2)]) (h2 := ((((zH0.set 19 (.inr (.inl (20, [70644700037184])))).set 20 (.inl (0, 120, [22000000, 0, 10000, 0, 0, 0]))).set 18 (.inr (.inr (.inr (2, [.int 1, .int 1, .ref 38, .ref 40]))))).set 0 (.inr (.inr (.inr (9, [.ref 2, .int 0, .ref 4, .ref 6, .ref 20, .long ((70644700020800 : Int64) ||| (((((xs 2) + (64 : Int32)) &&& (255 : Int32))).toInt64 <<< (((8 : Int32)).toInt64 &&& 63))), .ref 34, .ref 36, .int 0, .long 0, .ref 42, .ref 44, .ref 60, .ref 66, .ref 72, .ref 74, .ref 150, .ref 158])))))) (dc2 := 0) (ds2 := 0) 5 rfl ?_
      refine zT_if2 false rfl (zc_gt_f (by show ((xs 2) : Int32).toInt ≤ 31; omega)) ?_
      refine zT_here (pc2 := 20) rfl ?_
      refine zT_gos (f := 200000) (pc2 := 25) (ls2 := [(0, .ref 162), (1, .int 4), (2, .int (xs 2))]) (st2 := [.int 1]) (h2 := ((((zH0.set 19 (.inr (.inl (20, [70644700037184])))).set 20 (.inl (0, 120, [22000000, 0, 10000, 0, 0, 0]))).set 18 (.inr (.inr (.inr (2, [.int 1, .int 1, .ref 38, .ref 40]))))).set 0 (.inr (.inr (.inr (9, [.ref 2, .int 0, .ref 4, .ref 6, .ref 20, .long ((70644700020800 : Int64) ||| (((((xs 2) + (64 : Int32)) &&& (255 : Int32))).toInt64 <<< (((8 : Int32)).toInt64 &&& 63))), .ref 34, .ref 36, .int 0, .long 0, .ref 42, .ref 44, .ref 60, .ref 66, .ref 72, .ref 74, .ref 150, .ref 158])))))) (dc2 := 0) (ds2 := 0) 2 rfl ?_
      exact zT_ret rfl rfl
    refine zT_here (pc2 := 18) rfl ?_
    refine zT_gos (f := 200000) (pc2 := 39) (ls2 := [(0, .ref 162), (1, .int 4), (2, .int (xs 2))]) (st2 := [.int 1]) (h2 := (((((((zH0.set 19 (.inr (.inl (20, [70644700037184])))).set 20 (.inl (0, 120, [22000000, 0, 10000, 0, 0, 0]))).set 18 (.inr (.inr (.inr (2, [.int 1, .int 1, .ref 38, .ref 40]))))).set 0 (.inr (.inr (.inr (9, [.ref 2, .int 0, .ref 4, .ref 6, .ref 20, .long ((70644700020800 : Int64) ||| (((((xs 2) + (64 : Int32)) &&& (255 : Int32))).toInt64 <<< (((8 : Int32)).toInt64 &&& 63))), .ref 34, .ref 36, .int 0, .long 0, .ref 42, .ref 44, .ref 60, .ref 66, .ref 72, .ref 74, .ref 150, .ref 158]))))).set 81 (.inr (.inr (.inr (10, [.int 0, .ref 164, .int 0, .ref 166, .ref 168, .ref 170, .ref 172, .ref 174, .ref 176, .ref 178, .ref 180, .ref 182, .ref 184, .ref 186, .int 0, .int 0, .int 0, .int 0, .int 0, .int 0, .int 0, .int 0, .int 0, .int (-1), .ref 188, .ref 190, .ref 192, .int 1, .int 0, .ref 194, .ref 196, .ref 198, .int 0, .int 0, .int 0, .int 0, .ref 200, .ref 202, .ref 204, .int 0, .ref 206, .ref 208, .ref 210, .ref 212, .ref 214, .ref 216, .ref 218, .ref 220, .ref 222, .ref 224, .ref 226, .ref 228, .int 0, .ref 230]))))).set 96 (.inl (0, 252, [0, 0, 0, 0, 0, 0, 22000000, 0, 10000, 0, 0, 0]))).set 94 (.inl (0, 6, [0, 0, 0, 0, (xs 2), 0])))) (dc2 := 0) (ds2 := 0) 11 rfl ?_
    exact zT_ret rfl rfl
  refine zT_here (pc2 := 509) rfl ?_
  refine zT_gos (f := 200000) (pc2 := 1811) (ls2 := [(4, .int 6), (3, .ref 232), (2, .ref 162), (1, .ref 0), (0, .ref 11)]) (st2 := [.int 1]) (h2 := (((((((zH0.set 19 (.inr (.inl (20, [70644700037184])))).set 20 (.inl (0, 120, [22000000, 0, 10000, 0, 0, 0]))).set 18 (.inr (.inr (.inr (2, [.int 1, .int 1, .ref 38, .ref 40]))))).set 0 (.inr (.inr (.inr (9, [.ref 2, .int 0, .ref 4, .ref 6, .ref 20, .long ((70644700020800 : Int64) ||| (((((xs 2) + (64 : Int32)) &&& (255 : Int32))).toInt64 <<< (((8 : Int32)).toInt64 &&& 63))), .ref 34, .ref 36, .int 0, .long 0, .ref 42, .ref 44, .ref 60, .ref 66, .ref 72, .ref 74, .ref 150, .ref 158]))))).set 81 (.inr (.inr (.inr (10, [.int 0, .ref 164, .int 0, .ref 166, .ref 168, .ref 170, .ref 172, .ref 174, .ref 176, .ref 178, .ref 180, .ref 182, .ref 184, .ref 186, .int 0, .int 0, .int 0, .int 0, .int 0, .int 0, .int 0, .int 0, .int 0, .int (-1), .ref 188, .ref 190, .ref 192, .int 1, .int 0, .ref 194, .ref 196, .ref 198, .int 0, .int 0, .int 0, .int 0, .ref 200, .ref 202, .ref 204, .int 0, .ref 206, .ref 208, .ref 210, .ref 212, .ref 214, .ref 216, .ref 218, .ref 220, .ref 222, .ref 224, .ref 226, .ref 228, .int 0, .ref 230]))))).set 96 (.inl (0, 252, [0, 0, 0, 0, 0, 0, 22000000, 0, 10000, 0, 0, 0]))).set 94 (.inl (0, 6, [0, 0, 0, 0, (xs 2), 0])))) (dc2 := 117) (ds2 := 29934) 10 rfl ?_
  exact zT_ret rfl rfl
set_option maxRecDepth 1000000 in
set_option maxHeartbeats 4000000 in
theorem zo_6_17 (xs : Nat → Int32) (h0 : xs 0 &&& 63 = 6) (h1 : xs 1 = 5) (h2 : (xs 2).toInt < -64) : zDone xs := by
  refine ⟨zH0, 117, 29934, ?_, by decide, by decide⟩
  refine zT_gos (f := 200000) (pc2 := 37) (ls2 := [(4, .int 0), (3, .ref 232), (2, .ref 162), (1, .ref 0), (0, .ref 11)]) (st2 := [.int (xs 0)]) (h2 := zH0) (dc2 := 117) (ds2 := 29934) 9 rfl ?_
  refine zT_gos (f := 200000) (pc2 := 40) (ls2 := [(4, .int 0), (3, .ref 232), (2, .ref 162), (1, .ref 0), (0, .ref 11)]) (st2 := [.int ((xs 0) &&& (63 : Int32))]) (h2 := zH0) (dc2 := 117) (ds2 := 29934) 2 rfl ?_
  refine zT_val h0 ?_
  refine zT_gos (f := 200000) (pc2 := 484) (ls2 := [(4, .int 0), (3, .ref 232), (2, .ref 162), (1, .ref 0), (0, .ref 11)]) (st2 := [.int (xs 1), .ref 0]) (h2 := zH0) (dc2 := 117) (ds2 := 29934) 7 rfl ?_
  refine zT_val h1 ?_
  refine zT_gos (f := 200000) (pc2 := 490) (ls2 := [(4, .int 0), (3, .ref 232), (2, .ref 162), (1, .ref 0), (0, .ref 11)]) (st2 := [.int (xs 2), .int 5, .ref 0]) (h2 := zH0) (dc2 := 117) (ds2 := 29934) 5 rfl ?_
  refine zT_call (v := some (.int 0)) (h2 := zH0) (d1 := 0) (s1 := 0) rfl rfl ?_ ?_
  · refine zT_gos (f := 200000) (pc2 := 13) (ls2 := [(0, .ref 0), (1, .int 5), (2, .int (xs 2))]) (st2 := [.int (xs 2), .int 5, .ref 6]) (h2 := zH0) (dc2 := 0) (ds2 := 0) 7 rfl ?_
    refine zT_call (v := some (.int 0)) (h2 := zH0) (d1 := 0) (s1 := 0) rfl rfl ?_ ?_
    · refine zT_gos (f := 200000) (pc2 := 7) (ls2 := [(0, .ref 6), (1, .int 5), (2, .int (xs 2))]) (st2 := [.int (-64), .int (xs 2)]) (h2 := zH0) (dc2 := 0) (ds2 := 0) 5 rfl ?_
      refine zT_if2 true rfl (zc_lt_t (by show ((xs 2) : Int32).toInt < -64; omega)) ?_
      refine zT_here (pc2 := 24) rfl ?_
      refine zT_gos (f := 200000) (pc2 := 25) (ls2 := [(0, .ref 6), (1, .int 5), (2, .int (xs 2))]) (st2 := [.int 0]) (h2 := zH0) (dc2 := 0) (ds2 := 0) 1 rfl ?_
      exact zT_ret rfl rfl
    refine zT_here (pc2 := 16) rfl ?_
    refine zT_gos (f := 200000) (pc2 := 20) (ls2 := [(0, .ref 0), (1, .int 5), (2, .int (xs 2))]) (st2 := [.int 0]) (h2 := zH0) (dc2 := 0) (ds2 := 0) 2 rfl ?_
    exact zT_ret rfl rfl
  refine zT_here (pc2 := 493) rfl ?_
  refine zT_gos (f := 200000) (pc2 := 500) (ls2 := [(4, .int 0), (3, .ref 232), (2, .ref 162), (1, .ref 0), (0, .ref 11)]) (st2 := [.int (xs 1), .ref 162, .int 0]) (h2 := zH0) (dc2 := 117) (ds2 := 29934) 6 rfl ?_
  refine zT_val h1 ?_
  refine zT_gos (f := 200000) (pc2 := 506) (ls2 := [(4, .int 0), (3, .ref 232), (2, .ref 162), (1, .ref 0), (0, .ref 11)]) (st2 := [.int (xs 2), .int 5, .ref 162, .int 0]) (h2 := zH0) (dc2 := 117) (ds2 := 29934) 5 rfl ?_
  refine zT_call (v := some (.int 0)) (h2 := zH0) (d1 := 0) (s1 := 0) rfl rfl ?_ ?_
  · refine zT_gos (f := 200000) (pc2 := 15) (ls2 := [(0, .ref 162), (1, .int 5), (2, .int (xs 2))]) (st2 := [.int (xs 2), .int 5, .ref 162]) (h2 := zH0) (dc2 := 0) (ds2 := 0) 9 rfl ?_
    refine zT_call (v := some (.int 0)) (h2 := zH0) (d1 := 0) (s1 := 0) rfl rfl ?_ ?_
    · refine zT_gos (f := 200000) (pc2 := 7) (ls2 := [(0, .ref 162), (1, .int 5), (2, .int (xs 2))]) (st2 := [.int (-64), .int (xs 2)]) (h2 := zH0) (dc2 := 0) (ds2 := 0) 5 rfl ?_
      refine zT_if2 true rfl (zc_lt_t (by show ((xs 2) : Int32).toInt < -64; omega)) ?_
      refine zT_here (pc2 := 24) rfl ?_
      refine zT_gos (f := 200000) (pc2 := 25) (ls2 := [(0, .ref 162), (1, .int 5), (2, .int (xs 2))]) (st2 := [.int 0]) (h2 := zH0) (dc2 := 0) (ds2 := 0) 1 rfl ?_
      exact zT_ret rfl rfl
    refine zT_here (pc2 := 18) rfl ?_
    refine zT_gos (f := 200000) (pc2 := 22) (ls2 := [(0, .ref 162), (1, .int 5), (2, .int (xs 2))]) (st2 := [.int 0]) (h2 := zH0) (dc2 := 0) (ds2 := 0) 2 rfl ?_
    exact zT_ret rfl rfl
  refine zT_here (pc2 := 509) rfl ?_
  refine zT_gos (f := 200000) (pc2 := 1811) (ls2 := [(4, .int 6), (3, .ref 232), (2, .ref 162), (1, .ref 0), (0, .ref 11)]) (st2 := [.int 1]) (h2 := zH0) (dc2 := 117) (ds2 := 29934) 10 rfl ?_
  exact zT_ret rfl rfl
set_option maxRecDepth 1000000 in
set_option maxHeartbeats 4000000 in
theorem zo_6_18 (xs : Nat → Int32) (h0 : xs 0 &&& 63 = 6) (h1 : xs 1 = 5) (h2 : 63 < (xs 2).toInt) : zDone xs := by
  refine ⟨zH0, 117, 29934, ?_, by decide, by decide⟩
  refine zT_gos (f := 200000) (pc2 := 37) (ls2 := [(4, .int 0), (3, .ref 232), (2, .ref 162), (1, .ref 0), (0, .ref 11)]) (st2 := [.int (xs 0)]) (h2 := zH0) (dc2 := 117) (ds2 := 29934) 9 rfl ?_
  refine zT_gos (f := 200000) (pc2 := 40) (ls2 := [(4, .int 0), (3, .ref 232), (2, .ref 162), (1, .ref 0), (0, .ref 11)]) (st2 := [.int ((xs 0) &&& (63 : Int32))]) (h2 := zH0) (dc2 := 117) (ds2 := 29934) 2 rfl ?_
  refine zT_val h0 ?_
  refine zT_gos (f := 200000) (pc2 := 484) (ls2 := [(4, .int 0), (3, .ref 232), (2, .ref 162), (1, .ref 0), (0, .ref 11)]) (st2 := [.int (xs 1), .ref 0]) (h2 := zH0) (dc2 := 117) (ds2 := 29934) 7 rfl ?_
  refine zT_val h1 ?_
  refine zT_gos (f := 200000) (pc2 := 490) (ls2 := [(4, .int 0), (3, .ref 232), (2, .ref 162), (1, .ref 0), (0, .ref 11)]) (st2 := [.int (xs 2), .int 5, .ref 0]) (h2 := zH0) (dc2 := 117) (ds2 := 29934) 5 rfl ?_
  refine zT_call (v := some (.int 0)) (h2 := zH0) (d1 := 0) (s1 := 0) rfl rfl ?_ ?_
  · refine zT_gos (f := 200000) (pc2 := 13) (ls2 := [(0, .ref 0), (1, .int 5), (2, .int (xs 2))]) (st2 := [.int (xs 2), .int 5, .ref 6]) (h2 := zH0) (dc2 := 0) (ds2 := 0) 7 rfl ?_
    refine zT_call (v := some (.int 0)) (h2 := zH0) (d1 := 0) (s1 := 0) rfl rfl ?_ ?_
    · refine zT_gos (f := 200000) (pc2 := 7) (ls2 := [(0, .ref 6), (1, .int 5), (2, .int (xs 2))]) (st2 := [.int (-64), .int (xs 2)]) (h2 := zH0) (dc2 := 0) (ds2 := 0) 5 rfl ?_
      refine zT_if2 false rfl (zc_lt_f (by show ((xs 2) : Int32).toInt ≥ -64; omega)) ?_
      refine zT_here (pc2 := 10) rfl ?_
      refine zT_gos (f := 200000) (pc2 := 17) (ls2 := [(0, .ref 6), (1, .int 5), (2, .int (xs 2))]) (st2 := [.int 63, .int (xs 2)]) (h2 := zH0) (dc2 := 0) (ds2 := 0) 5 rfl ?_
      refine zT_if2 true rfl (zc_gt_t (by show ((xs 2) : Int32).toInt > 63; omega)) ?_
      refine zT_here (pc2 := 24) rfl ?_
      refine zT_gos (f := 200000) (pc2 := 25) (ls2 := [(0, .ref 6), (1, .int 5), (2, .int (xs 2))]) (st2 := [.int 0]) (h2 := zH0) (dc2 := 0) (ds2 := 0) 1 rfl ?_
      exact zT_ret rfl rfl
    refine zT_here (pc2 := 16) rfl ?_
    refine zT_gos (f := 200000) (pc2 := 20) (ls2 := [(0, .ref 0), (1, .int 5), (2, .int (xs 2))]) (st2 := [.int 0]) (h2 := zH0) (dc2 := 0) (ds2 := 0) 2 rfl ?_
    exact zT_ret rfl rfl
  refine zT_here (pc2 := 493) rfl ?_
  refine zT_gos (f := 200000) (pc2 := 500) (ls2 := [(4, .int 0), (3, .ref 232), (2, .ref 162), (1, .ref 0), (0, .ref 11)]) (st2 := [.int (xs 1), .ref 162, .int 0]) (h2 := zH0) (dc2 := 117) (ds2 := 29934) 6 rfl ?_
  refine zT_val h1 ?_
  refine zT_gos (f := 200000) (pc2 := 506) (ls2 := [(4, .int 0), (3, .ref 232), (2, .ref 162), (1, .ref 0), (0, .ref 11)]) (st2 := [.int (xs 2), .int 5, .ref 162, .int 0]) (h2 := zH0) (dc2 := 117) (ds2 := 29934) 5 rfl ?_
  refine zT_call (v := some (.int 0)) (h2 := zH0) (d1 := 0) (s1 := 0) rfl rfl ?_ ?_
  · refine zT_gos (f := 200000) (pc2 := 15) (ls2 := [(0, .ref 162), (1, .int 5), (2, .int (xs 2))]) (st2 := [.int (xs 2), .int 5, .ref 162]) (h2 := zH0) (dc2 := 0) (ds2 := 0) 9 rfl ?_
    refine zT_call (v := some (.int 0)) (h2 := zH0) (d1 := 0) (s1 := 0) rfl rfl ?_ ?_
    · refine zT_gos (f := 200000) (pc2 := 7) (ls2 := [(0, .ref 162), (1, .int 5), (2, .int (xs 2))]) (st2 := [.int (-64), .int (xs 2)]) (h2 := zH0) (dc2 := 0) (ds2 := 0) 5 rfl ?_
      refine zT_if2 false rfl (zc_lt_f (by show ((xs 2) : Int32).toInt ≥ -64; omega)) ?_
      refine zT_here (pc2 := 10) rfl ?_
      refine zT_gos (f := 200000) (pc2 := 17) (ls2 := [(0, .ref 162), (1, .int 5), (2, .int (xs 2))]) (st2 := [.int 63, .int (xs 2)]) (h2 := zH0) (dc2 := 0) (ds2 := 0) 5 rfl ?_
      refine zT_if2 true rfl (zc_gt_t (by show ((xs 2) : Int32).toInt > 63; omega)) ?_
      refine zT_here (pc2 := 24) rfl ?_
      refine zT_gos (f := 200000) (pc2 := 25) (ls2 := [(0, .ref 162), (1, .int 5), (2, .int (xs 2))]) (st2 := [.int 0]) (h2 := zH0) (dc2 := 0) (ds2 := 0) 1 rfl ?_
      exact zT_ret rfl rfl
    refine zT_here (pc2 := 18) rfl ?_
    refine zT_gos (f := 200000) (pc2 := 22) (ls2 := [(0, .ref 162), (1, .int 5), (2, .int (xs 2))]) (st2 := [.int 0]) (h2 := zH0) (dc2 := 0) (ds2 := 0) 2 rfl ?_
    exact zT_ret rfl rfl
  refine zT_here (pc2 := 509) rfl ?_
  refine zT_gos (f := 200000) (pc2 := 1811) (ls2 := [(4, .int 6), (3, .ref 232), (2, .ref 162), (1, .ref 0), (0, .ref 11)]) (st2 := [.int 1]) (h2 := zH0) (dc2 := 117) (ds2 := 29934) 10 rfl ?_
  exact zT_ret rfl rfl
set_option maxRecDepth 1000000 in
set_option maxHeartbeats 4000000 in
theorem zo_6_19 (xs : Nat → Int32) (h0 : xs 0 &&& 63 = 6) (h1 : xs 1 = 5) (h2 : -64 ≤ (xs 2).toInt ∧ (xs 2).toInt ≤ 63) : zDone xs := by
  refine ⟨(((((((zH0.set 19 (.inr (.inl (20, [70644700037184])))).set 20 (.inl (0, 120, [22000000, 0, 10000, 0, 0, 0]))).set 18 (.inr (.inr (.inr (2, [.int 1, .int 1, .ref 38, .ref 40]))))).set 0 (.inr (.inr (.inr (9, [.ref 2, .int 0, .ref 4, .ref 6, .ref 20, .long ((70644700037120 : Int64) ||| (((((xs 2) + (64 : Int32)) &&& (255 : Int32))).toInt64 <<< (((0 : Int32)).toInt64 &&& 63))), .ref 34, .ref 36, .int 0, .long 0, .ref 42, .ref 44, .ref 60, .ref 66, .ref 72, .ref 74, .ref 150, .ref 158]))))).set 81 (.inr (.inr (.inr (10, [.int 0, .ref 164, .int 0, .ref 166, .ref 168, .ref 170, .ref 172, .ref 174, .ref 176, .ref 178, .ref 180, .ref 182, .ref 184, .ref 186, .int 0, .int 0, .int 0, .int 0, .int 0, .int 0, .int 0, .int 0, .int 0, .int (-1), .ref 188, .ref 190, .ref 192, .int 1, .int 0, .ref 194, .ref 196, .ref 198, .int 0, .int 0, .int 0, .int 0, .ref 200, .ref 202, .ref 204, .int 0, .ref 206, .ref 208, .ref 210, .ref 212, .ref 214, .ref 216, .ref 218, .ref 220, .ref 222, .ref 224, .ref 226, .ref 228, .int 0, .ref 230]))))).set 96 (.inl (0, 252, [0, 0, 0, 0, 0, 0, 22000000, 0, 10000, 0, 0, 0]))).set 94 (.inl (0, 6, [0, 0, 0, 0, 0, (xs 2)]))), 117, 29934, ?_, by decide, by decide⟩
  refine zT_gos (f := 200000) (pc2 := 37) (ls2 := [(4, .int 0), (3, .ref 232), (2, .ref 162), (1, .ref 0), (0, .ref 11)]) (st2 := [.int (xs 0)]) (h2 := zH0) (dc2 := 117) (ds2 := 29934) 9 rfl ?_
  refine zT_gos (f := 200000) (pc2 := 40) (ls2 := [(4, .int 0), (3, .ref 232), (2, .ref 162), (1, .ref 0), (0, .ref 11)]) (st2 := [.int ((xs 0) &&& (63 : Int32))]) (h2 := zH0) (dc2 := 117) (ds2 := 29934) 2 rfl ?_
  refine zT_val h0 ?_
  refine zT_gos (f := 200000) (pc2 := 484) (ls2 := [(4, .int 0), (3, .ref 232), (2, .ref 162), (1, .ref 0), (0, .ref 11)]) (st2 := [.int (xs 1), .ref 0]) (h2 := zH0) (dc2 := 117) (ds2 := 29934) 7 rfl ?_
  refine zT_val h1 ?_
  refine zT_gos (f := 200000) (pc2 := 490) (ls2 := [(4, .int 0), (3, .ref 232), (2, .ref 162), (1, .ref 0), (0, .ref 11)]) (st2 := [.int (xs 2), .int 5, .ref 0]) (h2 := zH0) (dc2 := 117) (ds2 := 29934) 5 rfl ?_
  refine zT_call (v := some (.int 1)) (h2 := ((((zH0.set 19 (.inr (.inl (20, [70644700037184])))).set 20 (.inl (0, 120, [22000000, 0, 10000, 0, 0, 0]))).set 18 (.inr (.inr (.inr (2, [.int 1, .int 1, .ref 38, .ref 40]))))).set 0 (.inr (.inr (.inr (9, [.ref 2, .int 0, .ref 4, .ref 6, .ref 20, .long ((70644700037120 : Int64) ||| (((((xs 2) + (64 : Int32)) &&& (255 : Int32))).toInt64 <<< (((0 : Int32)).toInt64 &&& 63))), .ref 34, .ref 36, .int 0, .long 0, .ref 42, .ref 44, .ref 60, .ref 66, .ref 72, .ref 74, .ref 150, .ref 158])))))) (d1 := 0) (s1 := 0) rfl rfl ?_ ?_
  · refine zT_gos (f := 200000) (pc2 := 13) (ls2 := [(0, .ref 0), (1, .int 5), (2, .int (xs 2))]) (st2 := [.int (xs 2), .int 5, .ref 6]) (h2 := zH0) (dc2 := 0) (ds2 := 0) 7 rfl ?_
    refine zT_call (v := some (.int 1)) (h2 := zH0) (d1 := 0) (s1 := 0) rfl rfl ?_ ?_
    · refine zT_gos (f := 200000) (pc2 := 7) (ls2 := [(0, .ref 6), (1, .int 5), (2, .int (xs 2))]) (st2 := [.int (-64), .int (xs 2)]) (h2 := zH0) (dc2 := 0) (ds2 := 0) 5 rfl ?_
      refine zT_if2 false rfl (zc_lt_f (by show ((xs 2) : Int32).toInt ≥ -64; omega)) ?_
      refine zT_here (pc2 := 10) rfl ?_
      refine zT_gos (f := 200000) (pc2 := 17) (ls2 := [(0, .ref 6), (1, .int 5), (2, .int (xs 2))]) (st2 := [.int 63, .int (xs 2)]) (h2 := zH0) (dc2 := 0) (ds2 := 0) 5 rfl ?_
      refine zT_if2 false rfl (zc_gt_f (by show ((xs 2) : Int32).toInt ≤ 63; omega)) ?_
      refine zT_here (pc2 := 20) rfl ?_
      refine zT_gos (f := 200000) (pc2 := 25) (ls2 := [(0, .ref 6), (1, .int 5), (2, .int (xs 2))]) (st2 := [.int 1]) (h2 := zH0) (dc2 := 0) (ds2 := 0) 2 rfl ?_
      exact zT_ret rfl rfl
    refine zT_here (pc2 := 16) rfl ?_
    refine zT_gos (f := 200000) (pc2 := 50) (ls2 := [(0, .ref 0), (1, .int 5), (2, .int (xs 2))]) (st2 := [.int 1]) (h2 := ((((zH0.set 19 (.inr (.inl (20, [70644700037184])))).set 20 (.inl (0, 120, [22000000, 0, 10000, 0, 0, 0]))).set 18 (.inr (.inr (.inr (2, [.int 1, .int 1, .ref 38, .ref 40]))))).set 0 (.inr (.inr (.inr (9, [.ref 2, .int 0, .ref 4, .ref 6, .ref 20, .long ((70644700037120 : Int64) ||| (((((xs 2) + (64 : Int32)) &&& (255 : Int32))).toInt64 <<< (((0 : Int32)).toInt64 &&& 63))), .ref 34, .ref 36, .int 0, .long 0, .ref 42, .ref 44, .ref 60, .ref 66, .ref 72, .ref 74, .ref 150, .ref 158])))))) (dc2 := 0) (ds2 := 0) 16 rfl ?_
    exact zT_ret rfl rfl
  refine zT_here (pc2 := 493) rfl ?_
  refine zT_gos (f := 200000) (pc2 := 500) (ls2 := [(4, .int 0), (3, .ref 232), (2, .ref 162), (1, .ref 0), (0, .ref 11)]) (st2 := [.int (xs 1), .ref 162, .int 1]) (h2 := ((((zH0.set 19 (.inr (.inl (20, [70644700037184])))).set 20 (.inl (0, 120, [22000000, 0, 10000, 0, 0, 0]))).set 18 (.inr (.inr (.inr (2, [.int 1, .int 1, .ref 38, .ref 40]))))).set 0 (.inr (.inr (.inr (9, [.ref 2, .int 0, .ref 4, .ref 6, .ref 20, .long ((70644700037120 : Int64) ||| (((((xs 2) + (64 : Int32)) &&& (255 : Int32))).toInt64 <<< (((0 : Int32)).toInt64 &&& 63))), .ref 34, .ref 36, .int 0, .long 0, .ref 42, .ref 44, .ref 60, .ref 66, .ref 72, .ref 74, .ref 150, .ref 158])))))) (dc2 := 117) (ds2 := 29934) 6 rfl ?_
  refine zT_val h1 ?_
  refine zT_gos (f := 200000) (pc2 := 506) (ls2 := [(4, .int 0), (3, .ref 232), (2, .ref 162), (1, .ref 0), (0, .ref 11)]) (st2 := [.int (xs 2), .int 5, .ref 162, .int 1]) (h2 := ((((zH0.set 19 (.inr (.inl (20, [70644700037184])))).set 20 (.inl (0, 120, [22000000, 0, 10000, 0, 0, 0]))).set 18 (.inr (.inr (.inr (2, [.int 1, .int 1, .ref 38, .ref 40]))))).set 0 (.inr (.inr (.inr (9, [.ref 2, .int 0, .ref 4, .ref 6, .ref 20, .long ((70644700037120 : Int64) ||| (((((xs 2) + (64 : Int32)) &&& (255 : Int32))).toInt64 <<< (((0 : Int32)).toInt64 &&& 63))), .ref 34, .ref 36, .int 0, .long 0, .ref 42, .ref 44, .ref 60, .ref 66, .ref 72, .ref 74, .ref 150, .ref 158])))))) (dc2 := 117) (ds2 := 29934) 5 rfl ?_
  refine zT_call (v := some (.int 1)) (h2 := (((((((zH0.set 19 (.inr (.inl (20, [70644700037184])))).set 20 (.inl (0, 120, [22000000, 0, 10000, 0, 0, 0]))).set 18 (.inr (.inr (.inr (2, [.int 1, .int 1, .ref 38, .ref 40]))))).set 0 (.inr (.inr (.inr (9, [.ref 2, .int 0, .ref 4, .ref 6, .ref 20, .long ((70644700037120 : Int64) ||| (((((xs 2) + (64 : Int32)) &&& (255 : Int32))).toInt64 <<< (((0 : Int32)).toInt64 &&& 63))), .ref 34, .ref 36, .int 0, .long 0, .ref 42, .ref 44, .ref 60, .ref 66, .ref 72, .ref 74, .ref 150, .ref 158]))))).set 81 (.inr (.inr (.inr (10, [.int 0, .ref 164, .int 0, .ref 166, .ref 168, .ref 170, .ref 172, .ref 174, .ref 176, .ref 178, .ref 180, .ref 182, .ref 184, .ref 186, .int 0, .int 0, .int 0, .int 0, .int 0, .int 0, .int 0, .int 0, .int 0, .int (-1), .ref 188, .ref 190, .ref 192, .int 1, .int 0, .ref 194, .ref 196, .ref 198, .int 0, .int 0, .int 0, .int 0, .ref 200, .ref 202, .ref 204, .int 0, .ref 206, .ref 208, .ref 210, .ref 212, .ref 214, .ref 216, .ref 218, .ref 220, .ref 222, .ref 224, .ref 226, .ref 228, .int 0, .ref 230]))))).set 96 (.inl (0, 252, [0, 0, 0, 0, 0, 0, 22000000, 0, 10000, 0, 0, 0]))).set 94 (.inl (0, 6, [0, 0, 0, 0, 0, (xs 2)])))) (d1 := 0) (s1 := 0) rfl rfl ?_ ?_
  · refine zT_gos (f := 200000) (pc2 := 15) (ls2 := [(0, .ref 162), (1, .int 5), (2, .int (xs 2))]) (st2 := [.int (xs 2), .int 5, .ref 162]) (h2 := ((((zH0.set 19 (.inr (.inl (20, [70644700037184])))).set 20 (.inl (0, 120, [22000000, 0, 10000, 0, 0, 0]))).set 18 (.inr (.inr (.inr (2, [.int 1, .int 1, .ref 38, .ref 40]))))).set 0 (.inr (.inr (.inr (9, [.ref 2, .int 0, .ref 4, .ref 6, .ref 20, .long ((70644700037120 : Int64) ||| (((((xs 2) + (64 : Int32)) &&& (255 : Int32))).toInt64 <<< (((0 : Int32)).toInt64 &&& 63))), .ref 34, .ref 36, .int 0, .long 0, .ref 42, .ref 44, .ref 60, .ref 66, .ref 72, .ref 74, .ref 150, .ref 158])))))) (dc2 := 0) (ds2 := 0) 9 rfl ?_
    refine zT_call (v := some (.int 1)) (h2 := ((((zH0.set 19 (.inr (.inl (20, [70644700037184])))).set 20 (.inl (0, 120, [22000000, 0, 10000, 0, 0, 0]))).set 18 (.inr (.inr (.inr (2, [.int 1, .int 1, .ref 38, .ref 40]))))).set 0 (.inr (.inr (.inr (9, [.ref 2, .int 0, .ref 4, .ref 6, .ref 20, .long ((70644700037120 : Int64) ||| (((((xs 2) + (64 : Int32)) &&& (255 : Int32))).toInt64 <<< (((0 : Int32)).toInt64 &&& 63))), .ref 34, .ref 36, .int 0, .long 0, .ref 42, .ref 44, .ref 60, .ref 66, .ref 72, .ref 74, .ref 150, .ref 158])))))) (d1 := 0) (s1 := 0) rfl rfl ?_ ?_
    · refine zT_gos (f := 200000) (pc2 := 7) (ls2 := [(0, .ref 162), (1, .int 5), (2, .int (xs 2))]) (st2 := [.int (-64), .int (xs 2)]) (h2 := ((((zH0.set 19 (.inr (.inl (20, [70644700037184])))).set 20 (.inl (0, 120, [22000000, 0, 10000, 0, 0, 0]))).set 18 (.inr (.inr (.inr (2, [.int 1, .int 1, .ref 38, .ref 40]))))).set 0 (.inr (.inr (.inr (9, [.ref 2, .int 0, .ref 4, .ref 6, .ref 20, .long ((70644700037120 : Int64) ||| (((((xs 2) + (64 : Int32)) &&& (255 : Int32))).toInt64 <<< (((0 : Int32)).toInt64 &&& 63))), .ref 34, .ref 36, .int 0, .long 0, .ref 42, .ref 44, .ref 60, .ref 66, .ref 72, .ref 74, .ref 150, .ref 158])))))) (dc2 := 0) (ds2 := 0) 5 rfl ?_
      refine zT_if2 false rfl (zc_lt_f (by show ((xs 2) : Int32).toInt ≥ -64; omega)) ?_
      refine zT_here (pc2 := 10) rfl ?_
      refine zT_gos (f := 200000) (pc2 := 17) (ls2 := [(0, .ref 162), (1, .int 5), (2, .int (xs 2))]) (st2 := [.int 63, .int (xs 2)]) (h2 := ((((zH0.set 19 (.inr (.inl (20, [70644700037184])))).set 20 (.inl (0, 120, [22000000, 0, 10000, 0, 0, 0]))).set 18 (.inr (.inr (.inr (2, [.int 1, .int 1, .ref 38, .ref 40]))))).set 0 (.inr (.inr (.inr (9, [.ref 2, .int 0, .ref 4, .ref 6, .ref 20, .long ((70644700037120 : Int64) ||| (((((xs 2) + (64 : Int32)) &&& (255 : Int32))).toInt64 <<< (((0 : Int32)).toInt64 &&& 63))), .ref 34, .ref 36, .int 0, .long 0, .ref 42, .ref 44, .ref 60, .ref 66, .ref 72, .ref 74, .ref 150, .ref 158])))))) (dc2 := 0) (ds2 := 0) 5 rfl ?_
      refine zT_if2 false rfl (zc_gt_f (by show ((xs 2) : Int32).toInt ≤ 63; omega)) ?_
      refine zT_here (pc2 := 20) rfl ?_
      refine zT_gos (f := 200000) (pc2 := 25) (ls2 := [(0, .ref 162), (1, .int 5), (2, .int (xs 2))]) (st2 := [.int 1]) (h2 := ((((zH0.set 19 (.inr (.inl (20, [70644700037184])))).set 20 (.inl (0, 120, [22000000, 0, 10000, 0, 0, 0]))).set 18 (.inr (.inr (.inr (2, [.int 1, .int 1, .ref 38, .ref 40]))))).set 0 (.inr (.inr (.inr (9, [.ref 2, .int 0, .ref 4, .ref 6, .ref 20, .long ((70644700037120 : Int64) ||| (((((xs 2) + (64 : Int32)) &&& (255 : Int32))).toInt64 <<< (((0 : Int32)).toInt64 &&& 63))), .ref 34, .ref 36, .int 0, .long 0, .ref 42, .ref 44, .ref 60, .ref 66, .ref 72, .ref 74, .ref 150, .ref 158])))))) (dc2 := 0) (ds2 := 0) 2 rfl ?_
      exact zT_ret rfl rfl
    refine zT_here (pc2 := 18) rfl ?_
    refine zT_gos (f := 200000) (pc2 := 39) (ls2 := [(0, .ref 162), (1, .int 5), (2, .int (xs 2))]) (st2 := [.int 1]) (h2 := (((((((zH0.set 19 (.inr (.inl (20, [70644700037184])))).set 20 (.inl (0, 120, [22000000, 0, 10000, 0, 0, 0]))).set 18 (.inr (.inr (.inr (2, [.int 1, .int 1, .ref 38, .ref 40]))))).set 0 (.inr (.inr (.inr (9, [.ref 2, .int 0, .ref 4, .ref 6, .ref 20, .long ((70644700037120 : Int64) ||| (((((xs 2) + (64 : Int32)) &&& (255 : Int32))).toInt64 <<< (((0 : Int32)).toInt64 &&& 63))), .ref 34, .ref 36, .int 0, .long 0, .ref 42, .ref 44, .ref 60, .ref 66, .ref 72, .ref 74, .ref 150, .ref 158]))))).set 81 (.inr (.inr (.inr (10, [.int 0, .ref 164, .int 0, .ref 166, .ref 168, .ref 170, .ref 172, .ref 174, .ref 176, .ref 178, .ref 180, .ref 182, .ref 184, .ref 186, .int 0, .int 0, .int 0, .int 0, .int 0, .int 0, .int 0, .int 0, .int 0, .int (-1), .ref 188, .ref 190, .ref 192, .int 1, .int 0, .ref 194, .ref 196, .ref 198, .int 0, .int 0, .int 0, .int 0, .ref 200, .ref 202, .ref 204, .int 0, .ref 206, .ref 208, .ref 210, .ref 212, .ref 214, .ref 216, .ref 218, .ref 220, .ref 222, .ref 224, .ref 226, .ref 228, .int 0, .ref 230]))))).set 96 (.inl (0, 252, [0, 0, 0, 0, 0, 0, 22000000, 0, 10000, 0, 0, 0]))).set 94 (.inl (0, 6, [0, 0, 0, 0, 0, (xs 2)])))) (dc2 := 0) (ds2 := 0) 11 rfl ?_
    exact zT_ret rfl rfl
  refine zT_here (pc2 := 509) rfl ?_
  refine zT_gos (f := 200000) (pc2 := 1811) (ls2 := [(4, .int 6), (3, .ref 232), (2, .ref 162), (1, .ref 0), (0, .ref 11)]) (st2 := [.int 1]) (h2 := (((((((zH0.set 19 (.inr (.inl (20, [70644700037184])))).set 20 (.inl (0, 120, [22000000, 0, 10000, 0, 0, 0]))).set 18 (.inr (.inr (.inr (2, [.int 1, .int 1, .ref 38, .ref 40]))))).set 0 (.inr (.inr (.inr (9, [.ref 2, .int 0, .ref 4, .ref 6, .ref 20, .long ((70644700037120 : Int64) ||| (((((xs 2) + (64 : Int32)) &&& (255 : Int32))).toInt64 <<< (((0 : Int32)).toInt64 &&& 63))), .ref 34, .ref 36, .int 0, .long 0, .ref 42, .ref 44, .ref 60, .ref 66, .ref 72, .ref 74, .ref 150, .ref 158]))))).set 81 (.inr (.inr (.inr (10, [.int 0, .ref 164, .int 0, .ref 166, .ref 168, .ref 170, .ref 172, .ref 174, .ref 176, .ref 178, .ref 180, .ref 182, .ref 184, .ref 186, .int 0, .int 0, .int 0, .int 0, .int 0, .int 0, .int 0, .int 0, .int 0, .int (-1), .ref 188, .ref 190, .ref 192, .int 1, .int 0, .ref 194, .ref 196, .ref 198, .int 0, .int 0, .int 0, .int 0, .ref 200, .ref 202, .ref 204, .int 0, .ref 206, .ref 208, .ref 210, .ref 212, .ref 214, .ref 216, .ref 218, .ref 220, .ref 222, .ref 224, .ref 226, .ref 228, .int 0, .ref 230]))))).set 96 (.inl (0, 252, [0, 0, 0, 0, 0, 0, 22000000, 0, 10000, 0, 0, 0]))).set 94 (.inl (0, 6, [0, 0, 0, 0, 0, (xs 2)])))) (dc2 := 117) (ds2 := 29934) 10 rfl ?_
  exact zT_ret rfl rfl
theorem zop_6 (xs : Nat → Int32) (h0 : xs 0 &&& 63 = 6) : zDone xs := by
  rcases (show (xs 1).toInt < 0 ∨ 5 < (xs 1).toInt ∨ (xs 1).toInt = 0 ∨ (xs 1).toInt = 1 ∨ (xs 1).toInt = 2 ∨ (xs 1).toInt = 3 ∨ (xs 1).toInt = 4 ∨ (xs 1).toInt = 5 by omega) with h1 | h1 | h1 | h1 | h1 | h1 | h1 | h1
  · have h1 := h1
    exact zo_6_0 xs h0 h1
  · have h1 := h1
    exact zo_6_1 xs h0 h1
  · have h1 : xs 1 = 0 := Int32.toInt_inj.mp h1
    rcases (show (xs 2).toInt < 0 ∨ 99 < (xs 2).toInt ∨ (0 ≤ (xs 2).toInt ∧ (xs 2).toInt ≤ 99) by omega) with h2 | h2 | h2
    · have h2 := h2
      exact zo_6_2 xs h0 h1 h2
    · have h2 := h2
      exact zo_6_3 xs h0 h1 h2
    · have h2 := h2
      exact zo_6_4 xs h0 h1 h2
  · have h1 : xs 1 = 1 := Int32.toInt_inj.mp h1
    rcases (show (xs 2).toInt < -32 ∨ 31 < (xs 2).toInt ∨ (-32 ≤ (xs 2).toInt ∧ (xs 2).toInt ≤ 31) by omega) with h2 | h2 | h2
    · have h2 := h2
      exact zo_6_5 xs h0 h1 h2
    · have h2 := h2
      exact zo_6_6 xs h0 h1 h2
    · have h2 := h2
      exact zo_6_7 xs h0 h1 h2
  · have h1 : xs 1 = 2 := Int32.toInt_inj.mp h1
    rcases (show (xs 2).toInt < -32 ∨ 31 < (xs 2).toInt ∨ (-32 ≤ (xs 2).toInt ∧ (xs 2).toInt ≤ 31) by omega) with h2 | h2 | h2
    · have h2 := h2
      exact zo_6_8 xs h0 h1 h2
    · have h2 := h2
      exact zo_6_9 xs h0 h1 h2
    · have h2 := h2
      exact zo_6_10 xs h0 h1 h2
  · have h1 : xs 1 = 3 := Int32.toInt_inj.mp h1
    rcases (show (xs 2).toInt < -32 ∨ 31 < (xs 2).toInt ∨ (-32 ≤ (xs 2).toInt ∧ (xs 2).toInt ≤ 31) by omega) with h2 | h2 | h2
    · have h2 := h2
      exact zo_6_11 xs h0 h1 h2
    · have h2 := h2
      exact zo_6_12 xs h0 h1 h2
    · have h2 := h2
      exact zo_6_13 xs h0 h1 h2
  · have h1 : xs 1 = 4 := Int32.toInt_inj.mp h1
    rcases (show (xs 2).toInt < -32 ∨ 31 < (xs 2).toInt ∨ (-32 ≤ (xs 2).toInt ∧ (xs 2).toInt ≤ 31) by omega) with h2 | h2 | h2
    · have h2 := h2
      exact zo_6_14 xs h0 h1 h2
    · have h2 := h2
      exact zo_6_15 xs h0 h1 h2
    · have h2 := h2
      exact zo_6_16 xs h0 h1 h2
  · have h1 : xs 1 = 5 := Int32.toInt_inj.mp h1
    rcases (show (xs 2).toInt < -64 ∨ 63 < (xs 2).toInt ∨ (-64 ≤ (xs 2).toInt ∧ (xs 2).toInt ≤ 63) by omega) with h2 | h2 | h2
    · have h2 := h2
      exact zo_6_17 xs h0 h1 h2
    · have h2 := h2
      exact zo_6_18 xs h0 h1 h2
    · have h2 := h2
      exact zo_6_19 xs h0 h1 h2
