/-! Ops of the law at the first state: printed by a program (wip/gen/ops_all.py). -/
set_option maxRecDepth 1000000 in
set_option maxHeartbeats 4000000 in
theorem zo_19_0 (xs : Nat → Int32) (h0 : xs 0 &&& 63 = 19) (h1 : (xs 1).toInt < 0) : zDone xs := by
  refine ⟨zH0, 117, 29934, ?_, by decide, by decide⟩
  refine zT_gos (f := 200000) (pc2 := 37) (ls2 := [(4, .int 0), (3, .ref 232), (2, .ref 162), (1, .ref 0), (0, .ref 11)]) (st2 := [.int (xs 0)]) (h2 := zH0) (dc2 := 117) (ds2 := 29934) 9 rfl ?_
  refine zT_gos (f := 200000) (pc2 := 40) (ls2 := [(4, .int 0), (3, .ref 232), (2, .ref 162), (1, .ref 0), (0, .ref 11)]) (st2 := [.int ((xs 0) &&& (63 : Int32))]) (h2 := zH0) (dc2 := 117) (ds2 := 29934) 2 rfl ?_
  refine zT_val h0 ?_
  refine zT_gos (f := 200000) (pc2 := 871) (ls2 := [(4, .int 0), (3, .ref 232), (2, .ref 162), (1, .ref 0), (0, .ref 11)]) (st2 := [.int (xs 1), .ref 0]) (h2 := zH0) (dc2 := 117) (ds2 := 29934) 7 rfl ?_
  refine zT_gos (f := 200000) (pc2 := 877) (ls2 := [(4, .int 0), (3, .ref 232), (2, .ref 162), (1, .ref 0), (0, .ref 11)]) (st2 := [.int (xs 2), .int (xs 1), .ref 0]) (h2 := zH0) (dc2 := 117) (ds2 := 29934) 5 rfl ?_
  refine zT_gos (f := 200000) (pc2 := 883) (ls2 := [(4, .int 0), (3, .ref 232), (2, .ref 162), (1, .ref 0), (0, .ref 11)]) (st2 := [.int (xs 3), .int (xs 2), .int (xs 1), .ref 0]) (h2 := zH0) (dc2 := 117) (ds2 := 29934) 5 rfl ?_
  refine zT_call (v := some (.int (-99))) (h2 := zH0) (d1 := 0) (s1 := 0) rfl rfl ?_ ?_
  · refine zT_gos (f := 200000) (pc2 := 2) (ls2 := [(0, .ref 0), (1, .int (xs 1)), (2, .int (xs 2)), (3, .int (xs 3))]) (st2 := [.int (xs 1), .ref 0]) (h2 := zH0) (dc2 := 0) (ds2 := 0) 2 rfl ?_
    refine zT_call (v := some (.int 1)) (h2 := zH0) (d1 := 0) (s1 := 0) rfl rfl ?_ ?_
    · refine zT_gos (f := 200000) (pc2 := 1) (ls2 := [(0, .ref 0), (1, .int (xs 1))]) (st2 := [.int (xs 1)]) (h2 := zH0) (dc2 := 0) (ds2 := 0) 1 rfl ?_
      refine zT_if0 true rfl (zc_lt_t (by show ((xs 1) : Int32).toInt < 0; omega)) ?_
      refine zT_here (pc2 := 15) rfl ?_
      refine zT_gos (f := 200000) (pc2 := 20) (ls2 := [(0, .ref 0), (1, .int (xs 1))]) (st2 := [.int 1]) (h2 := zH0) (dc2 := 0) (ds2 := 0) 2 rfl ?_
      exact zT_ret rfl rfl
    refine zT_here (pc2 := 5) rfl ?_
    refine zT_gos (f := 200000) (pc2 := 21) (ls2 := [(0, .ref 0), (1, .int (xs 1)), (2, .int (xs 2)), (3, .int (xs 3))]) (st2 := [.int (-99)]) (h2 := zH0) (dc2 := 0) (ds2 := 0) 2 rfl ?_
    exact zT_ret rfl rfl
  refine zT_here (pc2 := 886) rfl ?_
  refine zT_gos (f := 200000) (pc2 := 893) (ls2 := [(4, .int 0), (3, .ref 232), (2, .ref 162), (1, .ref 0), (0, .ref 11)]) (st2 := [.int (xs 1), .ref 162, .int (-99)]) (h2 := zH0) (dc2 := 117) (ds2 := 29934) 6 rfl ?_
  refine zT_gos (f := 200000) (pc2 := 899) (ls2 := [(4, .int 0), (3, .ref 232), (2, .ref 162), (1, .ref 0), (0, .ref 11)]) (st2 := [.int (xs 2), .int (xs 1), .ref 162, .int (-99)]) (h2 := zH0) (dc2 := 117) (ds2 := 29934) 5 rfl ?_
  refine zT_gos (f := 200000) (pc2 := 905) (ls2 := [(4, .int 0), (3, .ref 232), (2, .ref 162), (1, .ref 0), (0, .ref 11)]) (st2 := [.int (xs 3), .int (xs 2), .int (xs 1), .ref 162, .int (-99)]) (h2 := zH0) (dc2 := 117) (ds2 := 29934) 5 rfl ?_
  refine zT_call (v := some (.int (-99))) (h2 := zH0) (d1 := 0) (s1 := 0) rfl rfl ?_ ?_
  · refine zT_gos (f := 200000) (pc2 := 7) (ls2 := [(0, .ref 162), (1, .int (xs 1)), (2, .int (xs 2)), (3, .int (xs 3))]) (st2 := [.int (xs 1), .ref 162]) (h2 := zH0) (dc2 := 0) (ds2 := 0) 5 rfl ?_
    refine zT_call (v := some (.int 0)) (h2 := zH0) (d1 := 0) (s1 := 0) rfl rfl ?_ ?_
    · refine zT_gos (f := 200000) (pc2 := 1) (ls2 := [(0, .ref 162), (1, .int (xs 1))]) (st2 := [.int (xs 1)]) (h2 := zH0) (dc2 := 0) (ds2 := 0) 1 rfl ?_
      refine zT_if0 true rfl (zc_lt_t (by show ((xs 1) : Int32).toInt < 0; omega)) ?_
      refine zT_here (pc2 := 18) rfl ?_
      refine zT_gos (f := 200000) (pc2 := 19) (ls2 := [(0, .ref 162), (1, .int (xs 1))]) (st2 := [.int 0]) (h2 := zH0) (dc2 := 0) (ds2 := 0) 1 rfl ?_
      exact zT_ret rfl rfl
    refine zT_here (pc2 := 10) rfl ?_
    refine zT_gos (f := 200000) (pc2 := 22) (ls2 := [(0, .ref 162), (1, .int (xs 1)), (2, .int (xs 2)), (3, .int (xs 3))]) (st2 := [.int (-99)]) (h2 := zH0) (dc2 := 0) (ds2 := 0) 2 rfl ?_
    exact zT_ret rfl rfl
  refine zT_here (pc2 := 908) rfl ?_
  refine zT_gos (f := 200000) (pc2 := 1811) (ls2 := [(4, .int 6), (3, .ref 232), (2, .ref 162), (1, .ref 0), (0, .ref 11)]) (st2 := [.int 1]) (h2 := zH0) (dc2 := 117) (ds2 := 29934) 10 rfl ?_
  exact zT_ret rfl rfl
set_option maxRecDepth 1000000 in
set_option maxHeartbeats 4000000 in
theorem zo_19_1 (xs : Nat → Int32) (h0 : xs 0 &&& 63 = 19) (h1 : -1 < (xs 1).toInt) : zDone xs := by
  refine ⟨zH0, 117, 29934, ?_, by decide, by decide⟩
  refine zT_gos (f := 200000) (pc2 := 37) (ls2 := [(4, .int 0), (3, .ref 232), (2, .ref 162), (1, .ref 0), (0, .ref 11)]) (st2 := [.int (xs 0)]) (h2 := zH0) (dc2 := 117) (ds2 := 29934) 9 rfl ?_
  refine zT_gos (f := 200000) (pc2 := 40) (ls2 := [(4, .int 0), (3, .ref 232), (2, .ref 162), (1, .ref 0), (0, .ref 11)]) (st2 := [.int ((xs 0) &&& (63 : Int32))]) (h2 := zH0) (dc2 := 117) (ds2 := 29934) 2 rfl ?_
  refine zT_val h0 ?_
  refine zT_gos (f := 200000) (pc2 := 871) (ls2 := [(4, .int 0), (3, .ref 232), (2, .ref 162), (1, .ref 0), (0, .ref 11)]) (st2 := [.int (xs 1), .ref 0]) (h2 := zH0) (dc2 := 117) (ds2 := 29934) 7 rfl ?_
  refine zT_gos (f := 200000) (pc2 := 877) (ls2 := [(4, .int 0), (3, .ref 232), (2, .ref 162), (1, .ref 0), (0, .ref 11)]) (st2 := [.int (xs 2), .int (xs 1), .ref 0]) (h2 := zH0) (dc2 := 117) (ds2 := 29934) 5 rfl ?_
  refine zT_gos (f := 200000) (pc2 := 883) (ls2 := [(4, .int 0), (3, .ref 232), (2, .ref 162), (1, .ref 0), (0, .ref 11)]) (st2 := [.int (xs 3), .int (xs 2), .int (xs 1), .ref 0]) (h2 := zH0) (dc2 := 117) (ds2 := 29934) 5 rfl ?_
  refine zT_call (v := some (.int (-99))) (h2 := zH0) (d1 := 0) (s1 := 0) rfl rfl ?_ ?_
  · refine zT_gos (f := 200000) (pc2 := 2) (ls2 := [(0, .ref 0), (1, .int (xs 1)), (2, .int (xs 2)), (3, .int (xs 3))]) (st2 := [.int (xs 1), .ref 0]) (h2 := zH0) (dc2 := 0) (ds2 := 0) 2 rfl ?_
    refine zT_call (v := some (.int 1)) (h2 := zH0) (d1 := 0) (s1 := 0) rfl rfl ?_ ?_
    · refine zT_gos (f := 200000) (pc2 := 1) (ls2 := [(0, .ref 0), (1, .int (xs 1))]) (st2 := [.int (xs 1)]) (h2 := zH0) (dc2 := 0) (ds2 := 0) 1 rfl ?_
      refine zT_if0 false rfl (zc_lt_f (by show ((xs 1) : Int32).toInt ≥ 0; omega)) ?_
      refine zT_here (pc2 := 4) rfl ?_
      refine zT_gos (f := 200000) (pc2 := 12) (ls2 := [(0, .ref 0), (1, .int (xs 1))]) (st2 := [.int 0, .int (xs 1)]) (h2 := zH0) (dc2 := 0) (ds2 := 0) 4 rfl ?_
      refine zT_if2 false rfl (zc_lt_f (by show ((xs 1) : Int32).toInt ≥ 0; omega)) ?_
      refine zT_here (pc2 := 15) rfl ?_
      refine zT_gos (f := 200000) (pc2 := 20) (ls2 := [(0, .ref 0), (1, .int (xs 1))]) (st2 := [.int 1]) (h2 := zH0) (dc2 := 0) (ds2 := 0) 2 rfl ?_
      exact zT_ret rfl rfl
    refine zT_here (pc2 := 5) rfl ?_
    refine zT_gos (f := 200000) (pc2 := 21) (ls2 := [(0, .ref 0), (1, .int (xs 1)), (2, .int (xs 2)), (3, .int (xs 3))]) (st2 := [.int (-99)]) (h2 := zH0) (dc2 := 0) (ds2 := 0) 2 rfl ?_
    exact zT_ret rfl rfl
  refine zT_here (pc2 := 886) rfl ?_
  refine zT_gos (f := 200000) (pc2 := 893) (ls2 := [(4, .int 0), (3, .ref 232), (2, .ref 162), (1, .ref 0), (0, .ref 11)]) (st2 := [.int (xs 1), .ref 162, .int (-99)]) (h2 := zH0) (dc2 := 117) (ds2 := 29934) 6 rfl ?_
  refine zT_gos (f := 200000) (pc2 := 899) (ls2 := [(4, .int 0), (3, .ref 232), (2, .ref 162), (1, .ref 0), (0, .ref 11)]) (st2 := [.int (xs 2), .int (xs 1), .ref 162, .int (-99)]) (h2 := zH0) (dc2 := 117) (ds2 := 29934) 5 rfl ?_
  refine zT_gos (f := 200000) (pc2 := 905) (ls2 := [(4, .int 0), (3, .ref 232), (2, .ref 162), (1, .ref 0), (0, .ref 11)]) (st2 := [.int (xs 3), .int (xs 2), .int (xs 1), .ref 162, .int (-99)]) (h2 := zH0) (dc2 := 117) (ds2 := 29934) 5 rfl ?_
  refine zT_call (v := some (.int (-99))) (h2 := zH0) (d1 := 0) (s1 := 0) rfl rfl ?_ ?_
  · refine zT_gos (f := 200000) (pc2 := 7) (ls2 := [(0, .ref 162), (1, .int (xs 1)), (2, .int (xs 2)), (3, .int (xs 3))]) (st2 := [.int (xs 1), .ref 162]) (h2 := zH0) (dc2 := 0) (ds2 := 0) 5 rfl ?_
    refine zT_call (v := some (.int 0)) (h2 := zH0) (d1 := 0) (s1 := 0) rfl rfl ?_ ?_
    · refine zT_gos (f := 200000) (pc2 := 1) (ls2 := [(0, .ref 162), (1, .int (xs 1))]) (st2 := [.int (xs 1)]) (h2 := zH0) (dc2 := 0) (ds2 := 0) 1 rfl ?_
      refine zT_if0 false rfl (zc_lt_f (by show ((xs 1) : Int32).toInt ≥ 0; omega)) ?_
      refine zT_here (pc2 := 4) rfl ?_
      refine zT_gos (f := 200000) (pc2 := 11) (ls2 := [(0, .ref 162), (1, .int (xs 1))]) (st2 := [.int 0, .int (xs 1)]) (h2 := zH0) (dc2 := 0) (ds2 := 0) 5 rfl ?_
      refine zT_if2 true rfl (zc_ge_t (by show ((xs 1) : Int32).toInt ≥ 0; omega)) ?_
      refine zT_here (pc2 := 18) rfl ?_
      refine zT_gos (f := 200000) (pc2 := 19) (ls2 := [(0, .ref 162), (1, .int (xs 1))]) (st2 := [.int 0]) (h2 := zH0) (dc2 := 0) (ds2 := 0) 1 rfl ?_
      exact zT_ret rfl rfl
    refine zT_here (pc2 := 10) rfl ?_
    refine zT_gos (f := 200000) (pc2 := 22) (ls2 := [(0, .ref 162), (1, .int (xs 1)), (2, .int (xs 2)), (3, .int (xs 3))]) (st2 := [.int (-99)]) (h2 := zH0) (dc2 := 0) (ds2 := 0) 2 rfl ?_
    exact zT_ret rfl rfl
  refine zT_here (pc2 := 908) rfl ?_
  refine zT_gos (f := 200000) (pc2 := 1811) (ls2 := [(4, .int 6), (3, .ref 232), (2, .ref 162), (1, .ref 0), (0, .ref 11)]) (st2 := [.int 1]) (h2 := zH0) (dc2 := 117) (ds2 := 29934) 10 rfl ?_
  exact zT_ret rfl rfl
theorem zop_19 (xs : Nat → Int32) (h0 : xs 0 &&& 63 = 19) : zDone xs := by
  rcases (show (xs 1).toInt < 0 ∨ -1 < (xs 1).toInt by omega) with h1 | h1
  · have h1 := h1
    exact zo_19_0 xs h0 h1
  · have h1 := h1
    exact zo_19_1 xs h0 h1
set_option maxRecDepth 1000000 in
set_option maxHeartbeats 4000000 in
theorem zo_20_0 (xs : Nat → Int32) (h0 : xs 0 &&& 63 = 20) (h1 : (xs 1).toInt < 0) : zDone xs := by
  refine ⟨zH0, 117, 29934, ?_, by decide, by decide⟩
  refine zT_gos (f := 200000) (pc2 := 37) (ls2 := [(4, .int 0), (3, .ref 232), (2, .ref 162), (1, .ref 0), (0, .ref 11)]) (st2 := [.int (xs 0)]) (h2 := zH0) (dc2 := 117) (ds2 := 29934) 9 rfl ?_
  refine zT_gos (f := 200000) (pc2 := 40) (ls2 := [(4, .int 0), (3, .ref 232), (2, .ref 162), (1, .ref 0), (0, .ref 11)]) (st2 := [.int ((xs 0) &&& (63 : Int32))]) (h2 := zH0) (dc2 := 117) (ds2 := 29934) 2 rfl ?_
  refine zT_val h0 ?_
  refine zT_gos (f := 200000) (pc2 := 920) (ls2 := [(4, .int 0), (3, .ref 232), (2, .ref 162), (1, .ref 0), (0, .ref 11)]) (st2 := [.int (xs 1), .ref 0]) (h2 := zH0) (dc2 := 117) (ds2 := 29934) 7 rfl ?_
  refine zT_call (v := some (.int (-1))) (h2 := zH0) (d1 := 0) (s1 := 0) rfl rfl ?_ ?_
  · refine zT_gos (f := 200000) (pc2 := 2) (ls2 := [(0, .ref 0), (1, .int (xs 1))]) (st2 := [.int (xs 1), .ref 0]) (h2 := zH0) (dc2 := 0) (ds2 := 0) 2 rfl ?_
    refine zT_call (v := some (.int 1)) (h2 := zH0) (d1 := 0) (s1 := 0) rfl rfl ?_ ?_
    · refine zT_gos (f := 200000) (pc2 := 1) (ls2 := [(0, .ref 0), (1, .int (xs 1))]) (st2 := [.int (xs 1)]) (h2 := zH0) (dc2 := 0) (ds2 := 0) 1 rfl ?_
      refine zT_if0 true rfl (zc_lt_t (by show ((xs 1) : Int32).toInt < 0; omega)) ?_
      refine zT_here (pc2 := 15) rfl ?_
      refine zT_gos (f := 200000) (pc2 := 20) (ls2 := [(0, .ref 0), (1, .int (xs 1))]) (st2 := [.int 1]) (h2 := zH0) (dc2 := 0) (ds2 := 0) 2 rfl ?_
      exact zT_ret rfl rfl
    refine zT_here (pc2 := 5) rfl ?_
    refine zT_gos (f := 200000) (pc2 := 9) (ls2 := [(0, .ref 0), (1, .int (xs 1))]) (st2 := [.int (-1)]) (h2 := zH0) (dc2 := 0) (ds2 := 0) 2 rfl ?_
    exact zT_ret rfl rfl
  refine zT_here (pc2 := 923) rfl ?_
  refine zT_gos (f := 200000) (pc2 := 930) (ls2 := [(4, .int 0), (3, .ref 232), (2, .ref 162), (1, .ref 0), (0, .ref 11)]) (st2 := [.int (xs 1), .ref 162, .int (-1)]) (h2 := zH0) (dc2 := 117) (ds2 := 29934) 6 rfl ?_
  refine zT_call (v := some (.int (-1))) (h2 := zH0) (d1 := 0) (s1 := 0) rfl rfl ?_ ?_
  · refine zT_gos (f := 200000) (pc2 := 7) (ls2 := [(0, .ref 162), (1, .int (xs 1))]) (st2 := [.int (xs 1), .ref 162]) (h2 := zH0) (dc2 := 0) (ds2 := 0) 5 rfl ?_
    refine zT_call (v := some (.int 0)) (h2 := zH0) (d1 := 0) (s1 := 0) rfl rfl ?_ ?_
    · refine zT_gos (f := 200000) (pc2 := 1) (ls2 := [(0, .ref 162), (1, .int (xs 1))]) (st2 := [.int (xs 1)]) (h2 := zH0) (dc2 := 0) (ds2 := 0) 1 rfl ?_
      refine zT_if0 true rfl (zc_lt_t (by show ((xs 1) : Int32).toInt < 0; omega)) ?_
      refine zT_here (pc2 := 18) rfl ?_
      refine zT_gos (f := 200000) (pc2 := 19) (ls2 := [(0, .ref 162), (1, .int (xs 1))]) (st2 := [.int 0]) (h2 := zH0) (dc2 := 0) (ds2 := 0) 1 rfl ?_
      exact zT_ret rfl rfl
    refine zT_here (pc2 := 10) rfl ?_
    refine zT_gos (f := 200000) (pc2 := 14) (ls2 := [(0, .ref 162), (1, .int (xs 1))]) (st2 := [.int (-1)]) (h2 := zH0) (dc2 := 0) (ds2 := 0) 2 rfl ?_
    exact zT_ret rfl rfl
  refine zT_here (pc2 := 933) rfl ?_
  refine zT_gos (f := 200000) (pc2 := 1811) (ls2 := [(4, .int 6), (3, .ref 232), (2, .ref 162), (1, .ref 0), (0, .ref 11)]) (st2 := [.int 1]) (h2 := zH0) (dc2 := 117) (ds2 := 29934) 10 rfl ?_
  exact zT_ret rfl rfl
set_option maxRecDepth 1000000 in
set_option maxHeartbeats 4000000 in
theorem zo_20_1 (xs : Nat → Int32) (h0 : xs 0 &&& 63 = 20) (h1 : -1 < (xs 1).toInt) : zDone xs := by
  refine ⟨zH0, 117, 29934, ?_, by decide, by decide⟩
  refine zT_gos (f := 200000) (pc2 := 37) (ls2 := [(4, .int 0), (3, .ref 232), (2, .ref 162), (1, .ref 0), (0, .ref 11)]) (st2 := [.int (xs 0)]) (h2 := zH0) (dc2 := 117) (ds2 := 29934) 9 rfl ?_
  refine zT_gos (f := 200000) (pc2 := 40) (ls2 := [(4, .int 0), (3, .ref 232), (2, .ref 162), (1, .ref 0), (0, .ref 11)]) (st2 := [.int ((xs 0) &&& (63 : Int32))]) (h2 := zH0) (dc2 := 117) (ds2 := 29934) 2 rfl ?_
  refine zT_val h0 ?_
  refine zT_gos (f := 200000) (pc2 := 920) (ls2 := [(4, .int 0), (3, .ref 232), (2, .ref 162), (1, .ref 0), (0, .ref 11)]) (st2 := [.int (xs 1), .ref 0]) (h2 := zH0) (dc2 := 117) (ds2 := 29934) 7 rfl ?_
  refine zT_call (v := some (.int (-1))) (h2 := zH0) (d1 := 0) (s1 := 0) rfl rfl ?_ ?_
  · refine zT_gos (f := 200000) (pc2 := 2) (ls2 := [(0, .ref 0), (1, .int (xs 1))]) (st2 := [.int (xs 1), .ref 0]) (h2 := zH0) (dc2 := 0) (ds2 := 0) 2 rfl ?_
    refine zT_call (v := some (.int 1)) (h2 := zH0) (d1 := 0) (s1 := 0) rfl rfl ?_ ?_
    · refine zT_gos (f := 200000) (pc2 := 1) (ls2 := [(0, .ref 0), (1, .int (xs 1))]) (st2 := [.int (xs 1)]) (h2 := zH0) (dc2 := 0) (ds2 := 0) 1 rfl ?_
      refine zT_if0 false rfl (zc_lt_f (by show ((xs 1) : Int32).toInt ≥ 0; omega)) ?_
      refine zT_here (pc2 := 4) rfl ?_
      refine zT_gos (f := 200000) (pc2 := 12) (ls2 := [(0, .ref 0), (1, .int (xs 1))]) (st2 := [.int 0, .int (xs 1)]) (h2 := zH0) (dc2 := 0) (ds2 := 0) 4 rfl ?_
      refine zT_if2 false rfl (zc_lt_f (by show ((xs 1) : Int32).toInt ≥ 0; omega)) ?_
      refine zT_here (pc2 := 15) rfl ?_
      refine zT_gos (f := 200000) (pc2 := 20) (ls2 := [(0, .ref 0), (1, .int (xs 1))]) (st2 := [.int 1]) (h2 := zH0) (dc2 := 0) (ds2 := 0) 2 rfl ?_
      exact zT_ret rfl rfl
    refine zT_here (pc2 := 5) rfl ?_
    refine zT_gos (f := 200000) (pc2 := 9) (ls2 := [(0, .ref 0), (1, .int (xs 1))]) (st2 := [.int (-1)]) (h2 := zH0) (dc2 := 0) (ds2 := 0) 2 rfl ?_
    exact zT_ret rfl rfl
  refine zT_here (pc2 := 923) rfl ?_
  refine zT_gos (f := 200000) (pc2 := 930) (ls2 := [(4, .int 0), (3, .ref 232), (2, .ref 162), (1, .ref 0), (0, .ref 11)]) (st2 := [.int (xs 1), .ref 162, .int (-1)]) (h2 := zH0) (dc2 := 117) (ds2 := 29934) 6 rfl ?_
  refine zT_call (v := some (.int (-1))) (h2 := zH0) (d1 := 0) (s1 := 0) rfl rfl ?_ ?_
  · refine zT_gos (f := 200000) (pc2 := 7) (ls2 := [(0, .ref 162), (1, .int (xs 1))]) (st2 := [.int (xs 1), .ref 162]) (h2 := zH0) (dc2 := 0) (ds2 := 0) 5 rfl ?_
    refine zT_call (v := some (.int 0)) (h2 := zH0) (d1 := 0) (s1 := 0) rfl rfl ?_ ?_
    · refine zT_gos (f := 200000) (pc2 := 1) (ls2 := [(0, .ref 162), (1, .int (xs 1))]) (st2 := [.int (xs 1)]) (h2 := zH0) (dc2 := 0) (ds2 := 0) 1 rfl ?_
      refine zT_if0 false rfl (zc_lt_f (by show ((xs 1) : Int32).toInt ≥ 0; omega)) ?_
      refine zT_here (pc2 := 4) rfl ?_
      refine zT_gos (f := 200000) (pc2 := 11) (ls2 := [(0, .ref 162), (1, .int (xs 1))]) (st2 := [.int 0, .int (xs 1)]) (h2 := zH0) (dc2 := 0) (ds2 := 0) 5 rfl ?_
      refine zT_if2 true rfl (zc_ge_t (by show ((xs 1) : Int32).toInt ≥ 0; omega)) ?_
      refine zT_here (pc2 := 18) rfl ?_
      refine zT_gos (f := 200000) (pc2 := 19) (ls2 := [(0, .ref 162), (1, .int (xs 1))]) (st2 := [.int 0]) (h2 := zH0) (dc2 := 0) (ds2 := 0) 1 rfl ?_
      exact zT_ret rfl rfl
    refine zT_here (pc2 := 10) rfl ?_
    refine zT_gos (f := 200000) (pc2 := 14) (ls2 := [(0, .ref 162), (1, .int (xs 1))]) (st2 := [.int (-1)]) (h2 := zH0) (dc2 := 0) (ds2 := 0) 2 rfl ?_
    exact zT_ret rfl rfl
  refine zT_here (pc2 := 933) rfl ?_
  refine zT_gos (f := 200000) (pc2 := 1811) (ls2 := [(4, .int 6), (3, .ref 232), (2, .ref 162), (1, .ref 0), (0, .ref 11)]) (st2 := [.int 1]) (h2 := zH0) (dc2 := 117) (ds2 := 29934) 10 rfl ?_
  exact zT_ret rfl rfl
theorem zop_20 (xs : Nat → Int32) (h0 : xs 0 &&& 63 = 20) : zDone xs := by
  rcases (show (xs 1).toInt < 0 ∨ -1 < (xs 1).toInt by omega) with h1 | h1
  · have h1 := h1
    exact zo_20_0 xs h0 h1
  · have h1 := h1
    exact zo_20_1 xs h0 h1
set_option maxRecDepth 1000000 in
theorem zk_o_17 : zT zg0 zF zP 251 0 [(0, .ref 162), (1, .int 0)] [] (((zH0.set 37 (.inr (.inr (.inr (3, [.ref 44, .ref 6, .ref 76, .ref 78, .ref 80, .ref 88, .int 1, .int 0, .ref 96, .int 0, .int 0, .int 0, .ref 98, .ref 100, .int 0]))))).set 40 (.inr (.inr (.inr (6, [.int 1, .long 70644700037184, .int 0, .ref 82, .ref 84, .ref 86]))))).set 43 (.inr (.inl (16, [70644700037184])))) 0 0 (some (.int 0), (((((((zH0.set 37 (.inr (.inr (.inr (3, [.ref 44, .ref 6, .ref 76, .ref 78, .ref 80, .ref 88, .int 1, .int 0, .ref 96, .int 0, .int 0, .int 0, .ref 98, .ref 100, .int 0]))))).set 40 (.inr (.inr (.inr (6, [.int 1, .long 70644700037184, .int 0, .ref 82, .ref 84, .ref 86]))))).set 43 (.inr (.inl (16, [70644700037184])))).set 106 (.inl (2, 2, [1, 0]))).set 105 (.inl (0, 2, [0]))).set 107 (.inl (0, 132, [0, 0, 0, 0, 0, 0]))).set 109 (.inl (0, 22, [0]))), 0, 0) := zclosed (n := 188) (by decide +kernel)
set_option maxRecDepth 1000000 in
set_option maxHeartbeats 4000000 in
theorem zo_21_0 (xs : Nat → Int32) (h0 : xs 0 &&& 63 = 21) (h1 : xs 1 = 0) : zDone xs := by
  refine ⟨(((((((zH0.set 37 (.inr (.inr (.inr (3, [.ref 44, .ref 6, .ref 76, .ref 78, .ref 80, .ref 88, .int 1, .int 0, .ref 96, .int 0, .int 0, .int 0, .ref 98, .ref 100, .int 0]))))).set 40 (.inr (.inr (.inr (6, [.int 1, .long 70644700037184, .int 0, .ref 82, .ref 84, .ref 86]))))).set 43 (.inr (.inl (16, [70644700037184])))).set 106 (.inl (2, 2, [1, 0]))).set 105 (.inl (0, 2, [0]))).set 107 (.inl (0, 132, [0, 0, 0, 0, 0, 0]))).set 109 (.inl (0, 22, [0]))), 117, 29934, ?_, by decide, by decide⟩
  refine zT_gos (f := 200000) (pc2 := 37) (ls2 := [(4, .int 0), (3, .ref 232), (2, .ref 162), (1, .ref 0), (0, .ref 11)]) (st2 := [.int (xs 0)]) (h2 := zH0) (dc2 := 117) (ds2 := 29934) 9 rfl ?_
  refine zT_gos (f := 200000) (pc2 := 40) (ls2 := [(4, .int 0), (3, .ref 232), (2, .ref 162), (1, .ref 0), (0, .ref 11)]) (st2 := [.int ((xs 0) &&& (63 : Int32))]) (h2 := zH0) (dc2 := 117) (ds2 := 29934) 2 rfl ?_
  refine zT_val h0 ?_
  refine zT_gos (f := 200000) (pc2 := 945) (ls2 := [(4, .int 0), (3, .ref 232), (2, .ref 162), (1, .ref 0), (0, .ref 11)]) (st2 := [.int (xs 1), .ref 0]) (h2 := zH0) (dc2 := 117) (ds2 := 29934) 7 rfl ?_
  refine zT_val h1 ?_
  refine zT_gos (f := 200000) (pc2 := 963) (ls2 := [(4, .int 0), (3, .ref 232), (2, .ref 162), (1, .ref 0), (0, .ref 11)]) (st2 := [.int (xs 1), .ref 162, .int 0]) (h2 := (((zH0.set 37 (.inr (.inr (.inr (3, [.ref 44, .ref 6, .ref 76, .ref 78, .ref 80, .ref 88, .int 1, .int 0, .ref 96, .int 0, .int 0, .int 0, .ref 98, .ref 100, .int 0]))))).set 40 (.inr (.inr (.inr (6, [.int 1, .long 70644700037184, .int 0, .ref 82, .ref 84, .ref 86]))))).set 43 (.inr (.inl (16, [70644700037184]))))) (dc2 := 117) (ds2 := 29934) 9 rfl ?_
  refine zT_val h1 ?_
  refine zT_gos (f := 200000) (pc2 := 971) (ls2 := [(4, .int 0), (3, .ref 232), (2, .ref 162), (1, .ref 0), (0, .ref 11)]) (st2 := [.int 0, .ref 162, .int 0]) (h2 := (((zH0.set 37 (.inr (.inr (.inr (3, [.ref 44, .ref 6, .ref 76, .ref 78, .ref 80, .ref 88, .int 1, .int 0, .ref 96, .int 0, .int 0, .int 0, .ref 98, .ref 100, .int 0]))))).set 40 (.inr (.inr (.inr (6, [.int 1, .long 70644700037184, .int 0, .ref 82, .ref 84, .ref 86]))))).set 43 (.inr (.inl (16, [70644700037184]))))) (dc2 := 117) (ds2 := 29934) 2 rfl ?_
  refine zT_call rfl rfl (zT_le (zg0_le 6 xs) zk_o_17) ?_
  refine zT_here (pc2 := 974) rfl ?_
  refine zT_gos (f := 200000) (pc2 := 1811) (ls2 := [(4, .int 6), (3, .ref 232), (2, .ref 162), (1, .ref 0), (0, .ref 11)]) (st2 := [.int 1]) (h2 := (((((((zH0.set 37 (.inr (.inr (.inr (3, [.ref 44, .ref 6, .ref 76, .ref 78, .ref 80, .ref 88, .int 1, .int 0, .ref 96, .int 0, .int 0, .int 0, .ref 98, .ref 100, .int 0]))))).set 40 (.inr (.inr (.inr (6, [.int 1, .long 70644700037184, .int 0, .ref 82, .ref 84, .ref 86]))))).set 43 (.inr (.inl (16, [70644700037184])))).set 106 (.inl (2, 2, [1, 0]))).set 105 (.inl (0, 2, [0]))).set 107 (.inl (0, 132, [0, 0, 0, 0, 0, 0]))).set 109 (.inl (0, 22, [0])))) (dc2 := 117) (ds2 := 29934) 10 rfl ?_
  exact zT_ret rfl rfl
set_option maxRecDepth 1000000 in
theorem zk_o_18 : zT zg0 zF zP 251 0 [(0, .ref 162), (1, .int 1)] [] (((zH0.set 37 (.inr (.inr (.inr (3, [.ref 44, .ref 6, .ref 76, .ref 78, .ref 80, .ref 88, .int 1, .int 0, .ref 96, .int 0, .int 0, .int 0, .ref 98, .ref 100, .int 0]))))).set 44 (.inr (.inr (.inr (6, [.int 1, .long 70644700037184, .int 0, .ref 90, .ref 92, .ref 94]))))).set 47 (.inr (.inl (16, [70644700037184])))) 0 0 (some (.int 0), (((((((zH0.set 37 (.inr (.inr (.inr (3, [.ref 44, .ref 6, .ref 76, .ref 78, .ref 80, .ref 88, .int 1, .int 0, .ref 96, .int 0, .int 0, .int 0, .ref 98, .ref 100, .int 0]))))).set 44 (.inr (.inr (.inr (6, [.int 1, .long 70644700037184, .int 0, .ref 90, .ref 92, .ref 94]))))).set 47 (.inr (.inl (16, [70644700037184])))).set 106 (.inl (2, 2, [0, 1]))).set 105 (.inl (0, 2, [0, 0]))).set 107 (.inl (0, 132, [0, 0, 0, 0, 0, 0, 0, 0, 0, 0, 0, 0, 0, 0, 0, 0, 0, 0, 0, 0, 0, 0, 0, 0, 0, 0, 0, 0, 0, 0, 0, 0, 0, 0, 0, 0, 0, 0, 0, 0, 0, 0, 0, 0, 0, 0, 0, 0, 0, 0, 0, 0, 0, 0, 0, 0, 0, 0, 0, 0, 0, 0, 0, 0, 0, 0, 0, 0, 0, 0, 0, 0]))).set 109 (.inl (0, 22, [0, 0, 0, 0, 0, 0, 0, 0, 0, 0, 0, 0]))), 0, 0) := zclosed (n := 190) (by decide +kernel)
set_option maxRecDepth 1000000 in
set_option maxHeartbeats 4000000 in
theorem zo_21_1 (xs : Nat → Int32) (h0 : xs 0 &&& 63 = 21) (h1 : (xs 1).toInt ≠ 0) : zDone xs := by
  refine ⟨(((((((zH0.set 37 (.inr (.inr (.inr (3, [.ref 44, .ref 6, .ref 76, .ref 78, .ref 80, .ref 88, .int 1, .int 0, .ref 96, .int 0, .int 0, .int 0, .ref 98, .ref 100, .int 0]))))).set 44 (.inr (.inr (.inr (6, [.int 1, .long 70644700037184, .int 0, .ref 90, .ref 92, .ref 94]))))).set 47 (.inr (.inl (16, [70644700037184])))).set 106 (.inl (2, 2, [0, 1]))).set 105 (.inl (0, 2, [0, 0]))).set 107 (.inl (0, 132, [0, 0, 0, 0, 0, 0, 0, 0, 0, 0, 0, 0, 0, 0, 0, 0, 0, 0, 0, 0, 0, 0, 0, 0, 0, 0, 0, 0, 0, 0, 0, 0, 0, 0, 0, 0, 0, 0, 0, 0, 0, 0, 0, 0, 0, 0, 0, 0, 0, 0, 0, 0, 0, 0, 0, 0, 0, 0, 0, 0, 0, 0, 0, 0, 0, 0, 0, 0, 0, 0, 0, 0]))).set 109 (.inl (0, 22, [0, 0, 0, 0, 0, 0, 0, 0, 0, 0, 0, 0]))), 117, 29934, ?_, by decide, by decide⟩
  refine zT_gos (f := 200000) (pc2 := 37) (ls2 := [(4, .int 0), (3, .ref 232), (2, .ref 162), (1, .ref 0), (0, .ref 11)]) (st2 := [.int (xs 0)]) (h2 := zH0) (dc2 := 117) (ds2 := 29934) 9 rfl ?_
  refine zT_gos (f := 200000) (pc2 := 40) (ls2 := [(4, .int 0), (3, .ref 232), (2, .ref 162), (1, .ref 0), (0, .ref 11)]) (st2 := [.int ((xs 0) &&& (63 : Int32))]) (h2 := zH0) (dc2 := 117) (ds2 := 29934) 2 rfl ?_
  refine zT_val h0 ?_
  refine zT_gos (f := 200000) (pc2 := 945) (ls2 := [(4, .int 0), (3, .ref 232), (2, .ref 162), (1, .ref 0), (0, .ref 11)]) (st2 := [.int (xs 1), .ref 0]) (h2 := zH0) (dc2 := 117) (ds2 := 29934) 7 rfl ?_
  refine zT_if0 false rfl (zc_eq_f (by show ((xs 1) : Int32).toInt ≠ 0; omega)) ?_
  refine zT_here (pc2 := 948) rfl ?_
  refine zT_gos (f := 200000) (pc2 := 963) (ls2 := [(4, .int 0), (3, .ref 232), (2, .ref 162), (1, .ref 0), (0, .ref 11)]) (st2 := [.int (xs 1), .ref 162, .int 0]) (h2 := (((zH0.set 37 (.inr (.inr (.inr (3, [.ref 44, .ref 6, .ref 76, .ref 78, .ref 80, .ref 88, .int 1, .int 0, .ref 96, .int 0, .int 0, .int 0, .ref 98, .ref 100, .int 0]))))).set 44 (.inr (.inr (.inr (6, [.int 1, .long 70644700037184, .int 0, .ref 90, .ref 92, .ref 94]))))).set 47 (.inr (.inl (16, [70644700037184]))))) (dc2 := 117) (ds2 := 29934) 9 rfl ?_
  refine zT_if0 false rfl (zc_eq_f (by show ((xs 1) : Int32).toInt ≠ 0; omega)) ?_
  refine zT_here (pc2 := 966) rfl ?_
  refine zT_gos (f := 200000) (pc2 := 971) (ls2 := [(4, .int 0), (3, .ref 232), (2, .ref 162), (1, .ref 0), (0, .ref 11)]) (st2 := [.int 1, .ref 162, .int 0]) (h2 := (((zH0.set 37 (.inr (.inr (.inr (3, [.ref 44, .ref 6, .ref 76, .ref 78, .ref 80, .ref 88, .int 1, .int 0, .ref 96, .int 0, .int 0, .int 0, .ref 98, .ref 100, .int 0]))))).set 44 (.inr (.inr (.inr (6, [.int 1, .long 70644700037184, .int 0, .ref 90, .ref 92, .ref 94]))))).set 47 (.inr (.inl (16, [70644700037184]))))) (dc2 := 117) (ds2 := 29934) 2 rfl ?_
  refine zT_call rfl rfl (zT_le (zg0_le 6 xs) zk_o_18) ?_
  refine zT_here (pc2 := 974) rfl ?_
  refine zT_gos (f := 200000) (pc2 := 1811) (ls2 := [(4, .int 6), (3, .ref 232), (2, .ref 162), (1, .ref 0), (0, .ref 11)]) (st2 := [.int 1]) (h2 := (((((((zH0.set 37 (.inr (.inr (.inr (3, [.ref 44, .ref 6, .ref 76, .ref 78, .ref 80, .ref 88, .int 1, .int 0, .ref 96, .int 0, .int 0, .int 0, .ref 98, .ref 100, .int 0]))))).set 44 (.inr (.inr (.inr (6, [.int 1, .long 70644700037184, .int 0, .ref 90, .ref 92, .ref 94]))))).set 47 (.inr (.inl (16, [70644700037184])))).set 106 (.inl (2, 2, [0, 1]))).set 105 (.inl (0, 2, [0, 0]))).set 107 (.inl (0, 132, [0, 0, 0, 0, 0, 0, 0, 0, 0, 0, 0, 0, 0, 0, 0, 0, 0, 0, 0, 0, 0, 0, 0, 0, 0, 0, 0, 0, 0, 0, 0, 0, 0, 0, 0, 0, 0, 0, 0, 0, 0, 0, 0, 0, 0, 0, 0, 0, 0, 0, 0, 0, 0, 0, 0, 0, 0, 0, 0, 0, 0, 0, 0, 0, 0, 0, 0, 0, 0, 0, 0, 0]))).set 109 (.inl (0, 22, [0, 0, 0, 0, 0, 0, 0, 0, 0, 0, 0, 0])))) (dc2 := 117) (ds2 := 29934) 10 rfl ?_
  exact zT_ret rfl rfl
theorem zop_21 (xs : Nat → Int32) (h0 : xs 0 &&& 63 = 21) : zDone xs := by
  rcases (show (xs 1).toInt = 0 ∨ (xs 1).toInt ≠ 0 by omega) with h1 | h1
  · have h1 : xs 1 = 0 := Int32.toInt_inj.mp h1
    exact zo_21_0 xs h0 h1
  · have h1 := h1
    exact zo_21_1 xs h0 h1
set_option maxRecDepth 1000000 in
set_option maxHeartbeats 4000000 in
theorem zo_22_0 (xs : Nat → Int32) (h0 : xs 0 &&& 63 = 22) (h1 : xs 1 = 0) (h2 : (xs 2).toInt < 0) : zDone xs := by
  refine ⟨zH0, 117, 29934, ?_, by decide, by decide⟩
  refine zT_gos (f := 200000) (pc2 := 37) (ls2 := [(4, .int 0), (3, .ref 232), (2, .ref 162), (1, .ref 0), (0, .ref 11)]) (st2 := [.int (xs 0)]) (h2 := zH0) (dc2 := 117) (ds2 := 29934) 9 rfl ?_
  refine zT_gos (f := 200000) (pc2 := 40) (ls2 := [(4, .int 0), (3, .ref 232), (2, .ref 162), (1, .ref 0), (0, .ref 11)]) (st2 := [.int ((xs 0) &&& (63 : Int32))]) (h2 := zH0) (dc2 := 117) (ds2 := 29934) 2 rfl ?_
  refine zT_val h0 ?_
  refine zT_gos (f := 200000) (pc2 := 986) (ls2 := [(4, .int 0), (3, .ref 232), (2, .ref 162), (1, .ref 0), (0, .ref 11)]) (st2 := [.int (xs 1), .ref 0]) (h2 := zH0) (dc2 := 117) (ds2 := 29934) 7 rfl ?_
  refine zT_val h1 ?_
  refine zT_gos (f := 200000) (pc2 := 1000) (ls2 := [(4, .int 0), (3, .ref 232), (2, .ref 162), (1, .ref 0), (0, .ref 11)]) (st2 := [.int (xs 2), .int 0, .ref 0]) (h2 := zH0) (dc2 := 117) (ds2 := 29934) 7 rfl ?_
  refine zT_call (v := some (.int (-1))) (h2 := zH0) (d1 := 0) (s1 := 0) rfl rfl ?_ ?_
  · refine zT_gos (f := 200000) (pc2 := 2) (ls2 := [(0, .ref 0), (1, .int 0), (2, .int (xs 2))]) (st2 := [.int (xs 2), .ref 0]) (h2 := zH0) (dc2 := 0) (ds2 := 0) 2 rfl ?_
    refine zT_call (v := some (.int 1)) (h2 := zH0) (d1 := 0) (s1 := 0) rfl rfl ?_ ?_
    · refine zT_gos (f := 200000) (pc2 := 1) (ls2 := [(0, .ref 0), (1, .int (xs 2))]) (st2 := [.int (xs 2)]) (h2 := zH0) (dc2 := 0) (ds2 := 0) 1 rfl ?_
      refine zT_if0 true rfl (zc_lt_t (by show ((xs 2) : Int32).toInt < 0; omega)) ?_
      refine zT_here (pc2 := 15) rfl ?_
      refine zT_gos (f := 200000) (pc2 := 20) (ls2 := [(0, .ref 0), (1, .int (xs 2))]) (st2 := [.int 1]) (h2 := zH0) (dc2 := 0) (ds2 := 0) 2 rfl ?_
      exact zT_ret rfl rfl
    refine zT_here (pc2 := 5) rfl ?_
    refine zT_gos (f := 200000) (pc2 := 9) (ls2 := [(0, .ref 0), (1, .int 0), (2, .int (xs 2))]) (st2 := [.int (-1)]) (h2 := zH0) (dc2 := 0) (ds2 := 0) 2 rfl ?_
    exact zT_ret rfl rfl
  refine zT_here (pc2 := 1003) rfl ?_
  refine zT_gos (f := 200000) (pc2 := 1010) (ls2 := [(4, .int 0), (3, .ref 232), (2, .ref 162), (1, .ref 0), (0, .ref 11)]) (st2 := [.int (xs 1), .ref 162, .int (-1)]) (h2 := zH0) (dc2 := 117) (ds2 := 29934) 6 rfl ?_
  refine zT_val h1 ?_
  refine zT_gos (f := 200000) (pc2 := 1024) (ls2 := [(4, .int 0), (3, .ref 232), (2, .ref 162), (1, .ref 0), (0, .ref 11)]) (st2 := [.int (xs 2), .int 0, .ref 162, .int (-1)]) (h2 := zH0) (dc2 := 117) (ds2 := 29934) 7 rfl ?_
  refine zT_call (v := some (.int (-1))) (h2 := zH0) (d1 := 0) (s1 := 0) rfl rfl ?_ ?_
  · refine zT_gos (f := 200000) (pc2 := 6) (ls2 := [(0, .ref 162), (1, .int 0), (2, .int (xs 2))]) (st2 := [.int (xs 2)]) (h2 := zH0) (dc2 := 0) (ds2 := 0) 4 rfl ?_
    refine zT_if0 true rfl (zc_lt_t (by show ((xs 2) : Int32).toInt < 0; omega)) ?_
    refine zT_here (pc2 := 17) rfl ?_
    refine zT_gos (f := 200000) (pc2 := 18) (ls2 := [(0, .ref 162), (1, .int 0), (2, .int (xs 2))]) (st2 := [.int (-1)]) (h2 := zH0) (dc2 := 0) (ds2 := 0) 1 rfl ?_
    exact zT_ret rfl rfl
  refine zT_here (pc2 := 1027) rfl ?_
  refine zT_gos (f := 200000) (pc2 := 1811) (ls2 := [(4, .int 6), (3, .ref 232), (2, .ref 162), (1, .ref 0), (0, .ref 11)]) (st2 := [.int 1]) (h2 := zH0) (dc2 := 117) (ds2 := 29934) 10 rfl ?_
  exact zT_ret rfl rfl
set_option maxRecDepth 1000000 in
set_option maxHeartbeats 4000000 in
theorem zo_22_1 (xs : Nat → Int32) (h0 : xs 0 &&& 63 = 22) (h1 : xs 1 = 0) (h2 : -1 < (xs 2).toInt) : zDone xs := by
  refine ⟨zH0, 117, 29934, ?_, by decide, by decide⟩
  refine zT_gos (f := 200000) (pc2 := 37) (ls2 := [(4, .int 0), (3, .ref 232), (2, .ref 162), (1, .ref 0), (0, .ref 11)]) (st2 := [.int (xs 0)]) (h2 := zH0) (dc2 := 117) (ds2 := 29934) 9 rfl ?_
  refine zT_gos (f := 200000) (pc2 := 40) (ls2 := [(4, .int 0), (3, .ref 232), (2, .ref 162), (1, .ref 0), (0, .ref 11)]) (st2 := [.int ((xs 0) &&& (63 : Int32))]) (h2 := zH0) (dc2 := 117) (ds2 := 29934) 2 rfl ?_
  refine zT_val h0 ?_
  refine zT_gos (f := 200000) (pc2 := 986) (ls2 := [(4, .int 0), (3, .ref 232), (2, .ref 162), (1, .ref 0), (0, .ref 11)]) (st2 := [.int (xs 1), .ref 0]) (h2 := zH0) (dc2 := 117) (ds2 := 29934) 7 rfl ?_
  refine zT_val h1 ?_
  refine zT_gos (f := 200000) (pc2 := 1000) (ls2 := [(4, .int 0), (3, .ref 232), (2, .ref 162), (1, .ref 0), (0, .ref 11)]) (st2 := [.int (xs 2), .int 0, .ref 0]) (h2 := zH0) (dc2 := 117) (ds2 := 29934) 7 rfl ?_
  refine zT_call (v := some (.int (-1))) (h2 := zH0) (d1 := 0) (s1 := 0) rfl rfl ?_ ?_
  · refine zT_gos (f := 200000) (pc2 := 2) (ls2 := [(0, .ref 0), (1, .int 0), (2, .int (xs 2))]) (st2 := [.int (xs 2), .ref 0]) (h2 := zH0) (dc2 := 0) (ds2 := 0) 2 rfl ?_
    refine zT_call (v := some (.int 1)) (h2 := zH0) (d1 := 0) (s1 := 0) rfl rfl ?_ ?_
    · refine zT_gos (f := 200000) (pc2 := 1) (ls2 := [(0, .ref 0), (1, .int (xs 2))]) (st2 := [.int (xs 2)]) (h2 := zH0) (dc2 := 0) (ds2 := 0) 1 rfl ?_
      refine zT_if0 false rfl (zc_lt_f (by show ((xs 2) : Int32).toInt ≥ 0; omega)) ?_
      refine zT_here (pc2 := 4) rfl ?_
      refine zT_gos (f := 200000) (pc2 := 12) (ls2 := [(0, .ref 0), (1, .int (xs 2))]) (st2 := [.int 0, .int (xs 2)]) (h2 := zH0) (dc2 := 0) (ds2 := 0) 4 rfl ?_
      refine zT_if2 false rfl (zc_lt_f (by show ((xs 2) : Int32).toInt ≥ 0; omega)) ?_
      refine zT_here (pc2 := 15) rfl ?_
      refine zT_gos (f := 200000) (pc2 := 20) (ls2 := [(0, .ref 0), (1, .int (xs 2))]) (st2 := [.int 1]) (h2 := zH0) (dc2 := 0) (ds2 := 0) 2 rfl ?_
      exact zT_ret rfl rfl
    refine zT_here (pc2 := 5) rfl ?_
    refine zT_gos (f := 200000) (pc2 := 9) (ls2 := [(0, .ref 0), (1, .int 0), (2, .int (xs 2))]) (st2 := [.int (-1)]) (h2 := zH0) (dc2 := 0) (ds2 := 0) 2 rfl ?_
    exact zT_ret rfl rfl
  refine zT_here (pc2 := 1003) rfl ?_
  refine zT_gos (f := 200000) (pc2 := 1010) (ls2 := [(4, .int 0), (3, .ref 232), (2, .ref 162), (1, .ref 0), (0, .ref 11)]) (st2 := [.int (xs 1), .ref 162, .int (-1)]) (h2 := zH0) (dc2 := 117) (ds2 := 29934) 6 rfl ?_
  refine zT_val h1 ?_
  refine zT_gos (f := 200000) (pc2 := 1024) (ls2 := [(4, .int 0), (3, .ref 232), (2, .ref 162), (1, .ref 0), (0, .ref 11)]) (st2 := [.int (xs 2), .int 0, .ref 162, .int (-1)]) (h2 := zH0) (dc2 := 117) (ds2 := 29934) 7 rfl ?_
  refine zT_call (v := some (.int (-1))) (h2 := zH0) (d1 := 0) (s1 := 0) rfl rfl ?_ ?_
  · refine zT_gos (f := 200000) (pc2 := 6) (ls2 := [(0, .ref 162), (1, .int 0), (2, .int (xs 2))]) (st2 := [.int (xs 2)]) (h2 := zH0) (dc2 := 0) (ds2 := 0) 4 rfl ?_
    refine zT_if0 false rfl (zc_lt_f (by show ((xs 2) : Int32).toInt ≥ 0; omega)) ?_
    refine zT_here (pc2 := 9) rfl ?_
    refine zT_gos (f := 200000) (pc2 := 14) (ls2 := [(0, .ref 162), (1, .int 0), (2, .int (xs 2))]) (st2 := [.int 0, .int (xs 2)]) (h2 := zH0) (dc2 := 0) (ds2 := 0) 3 rfl ?_
    refine zT_if2 false rfl (zc_lt_f (by show ((xs 2) : Int32).toInt ≥ 0; omega)) ?_
    refine zT_here (pc2 := 17) rfl ?_
    refine zT_gos (f := 200000) (pc2 := 18) (ls2 := [(0, .ref 162), (1, .int 0), (2, .int (xs 2))]) (st2 := [.int (-1)]) (h2 := zH0) (dc2 := 0) (ds2 := 0) 1 rfl ?_
    exact zT_ret rfl rfl
  refine zT_here (pc2 := 1027) rfl ?_
  refine zT_gos (f := 200000) (pc2 := 1811) (ls2 := [(4, .int 6), (3, .ref 232), (2, .ref 162), (1, .ref 0), (0, .ref 11)]) (st2 := [.int 1]) (h2 := zH0) (dc2 := 117) (ds2 := 29934) 10 rfl ?_
  exact zT_ret rfl rfl
set_option maxRecDepth 1000000 in
set_option maxHeartbeats 4000000 in
theorem zo_22_2 (xs : Nat → Int32) (h0 : xs 0 &&& 63 = 22) (h1 : (xs 1).toInt ≠ 0) (h2 : (xs 2).toInt < 0) : zDone xs := by
  refine ⟨zH0, 117, 29934, ?_, by decide, by decide⟩
  refine zT_gos (f := 200000) (pc2 := 37) (ls2 := [(4, .int 0), (3, .ref 232), (2, .ref 162), (1, .ref 0), (0, .ref 11)]) (st2 := [.int (xs 0)]) (h2 := zH0) (dc2 := 117) (ds2 := 29934) 9 rfl ?_
  refine zT_gos (f := 200000) (pc2 := 40) (ls2 := [(4, .int 0), (3, .ref 232), (2, .ref 162), (1, .ref 0), (0, .ref 11)]) (st2 := [.int ((xs 0) &&& (63 : Int32))]) (h2 := zH0) (dc2 := 117) (ds2 := 29934) 2 rfl ?_
  refine zT_val h0 ?_
  refine zT_gos (f := 200000) (pc2 := 986) (ls2 := [(4, .int 0), (3, .ref 232), (2, .ref 162), (1, .ref 0), (0, .ref 11)]) (st2 := [.int (xs 1), .ref 0]) (h2 := zH0) (dc2 := 117) (ds2 := 29934) 7 rfl ?_
  refine zT_if0 false rfl (zc_eq_f (by show ((xs 1) : Int32).toInt ≠ 0; omega)) ?_
  refine zT_here (pc2 := 989) rfl ?_
  refine zT_gos (f := 200000) (pc2 := 1000) (ls2 := [(4, .int 0), (3, .ref 232), (2, .ref 162), (1, .ref 0), (0, .ref 11)]) (st2 := [.int (xs 2), .int 1, .ref 0]) (h2 := zH0) (dc2 := 117) (ds2 := 29934) 7 rfl ?_
  refine zT_call (v := some (.int (-1))) (h2 := zH0) (d1 := 0) (s1 := 0) rfl rfl ?_ ?_
  · refine zT_gos (f := 200000) (pc2 := 2) (ls2 := [(0, .ref 0), (1, .int 1), (2, .int (xs 2))]) (st2 := [.int (xs 2), .ref 0]) (h2 := zH0) (dc2 := 0) (ds2 := 0) 2 rfl ?_
    refine zT_call (v := some (.int 1)) (h2 := zH0) (d1 := 0) (s1 := 0) rfl rfl ?_ ?_
    · refine zT_gos (f := 200000) (pc2 := 1) (ls2 := [(0, .ref 0), (1, .int (xs 2))]) (st2 := [.int (xs 2)]) (h2 := zH0) (dc2 := 0) (ds2 := 0) 1 rfl ?_
      refine zT_if0 true rfl (zc_lt_t (by show ((xs 2) : Int32).toInt < 0; omega)) ?_
      refine zT_here (pc2 := 15) rfl ?_
      refine zT_gos (f := 200000) (pc2 := 20) (ls2 := [(0, .ref 0), (1, .int (xs 2))]) (st2 := [.int 1]) (h2 := zH0) (dc2 := 0) (ds2 := 0) 2 rfl ?_
      exact zT_ret rfl rfl
    refine zT_here (pc2 := 5) rfl ?_
    refine zT_gos (f := 200000) (pc2 := 9) (ls2 := [(0, .ref 0), (1, .int 1), (2, .int (xs 2))]) (st2 := [.int (-1)]) (h2 := zH0) (dc2 := 0) (ds2 := 0) 2 rfl ?_
    exact zT_ret rfl rfl
  refine zT_here (pc2 := 1003) rfl ?_
  refine zT_gos (f := 200000) (pc2 := 1010) (ls2 := [(4, .int 0), (3, .ref 232), (2, .ref 162), (1, .ref 0), (0, .ref 11)]) (st2 := [.int (xs 1), .ref 162, .int (-1)]) (h2 := zH0) (dc2 := 117) (ds2 := 29934) 6 rfl ?_
  refine zT_if0 false rfl (zc_eq_f (by show ((xs 1) : Int32).toInt ≠ 0; omega)) ?_
  refine zT_here (pc2 := 1013) rfl ?_
  refine zT_gos (f := 200000) (pc2 := 1024) (ls2 := [(4, .int 0), (3, .ref 232), (2, .ref 162), (1, .ref 0), (0, .ref 11)]) (st2 := [.int (xs 2), .int 1, .ref 162, .int (-1)]) (h2 := zH0) (dc2 := 117) (ds2 := 29934) 7 rfl ?_
  refine zT_call (v := some (.int (-1))) (h2 := zH0) (d1 := 0) (s1 := 0) rfl rfl ?_ ?_
  · refine zT_gos (f := 200000) (pc2 := 6) (ls2 := [(0, .ref 162), (1, .int 1), (2, .int (xs 2))]) (st2 := [.int (xs 2)]) (h2 := zH0) (dc2 := 0) (ds2 := 0) 4 rfl ?_
    refine zT_if0 true rfl (zc_lt_t (by show ((xs 2) : Int32).toInt < 0; omega)) ?_
    refine zT_here (pc2 := 17) rfl ?_
    refine zT_gos (f := 200000) (pc2 := 18) (ls2 := [(0, .ref 162), (1, .int 1), (2, .int (xs 2))]) (st2 := [.int (-1)]) (h2 := zH0) (dc2 := 0) (ds2 := 0) 1 rfl ?_
    exact zT_ret rfl rfl
  refine zT_here (pc2 := 1027) rfl ?_
  refine zT_gos (f := 200000) (pc2 := 1811) (ls2 := [(4, .int 6), (3, .ref 232), (2, .ref 162), (1, .ref 0), (0, .ref 11)]) (st2 := [.int 1]) (h2 := zH0) (dc2 := 117) (ds2 := 29934) 10 rfl ?_
  exact zT_ret rfl rfl
set_option maxRecDepth 1000000 in
set_option maxHeartbeats 4000000 in
theorem zo_22_3 (xs : Nat → Int32) (h0 : xs 0 &&& 63 = 22) (h1 : (xs 1).toInt ≠ 0) (h2 : -1 < (xs 2).toInt) : zDone xs := by
  refine ⟨zH0, 117, 29934, ?_, by decide, by decide⟩
  refine zT_gos (f := 200000) (pc2 := 37) (ls2 := [(4, .int 0), (3, .ref 232), (2, .ref 162), (1, .ref 0), (0, .ref 11)]) (st2 := [.int (xs 0)]) (h2 := zH0) (dc2 := 117) (ds2 := 29934) 9 rfl ?_
  refine zT_gos (f := 200000) (pc2 := 40) (ls2 := [(4, .int 0), (3, .ref 232), (2, .ref 162), (1, .ref 0), (0, .ref 11)]) (st2 := [.int ((xs 0) &&& (63 : Int32))]) (h2 := zH0) (dc2 := 117) (ds2 := 29934) 2 rfl ?_
  refine zT_val h0 ?_
  refine zT_gos (f := 200000) (pc2 := 986) (ls2 := [(4, .int 0), (3, .ref 232), (2, .ref 162), (1, .ref 0), (0, .ref 11)]) (st2 := [.int (xs 1), .ref 0]) (h2 := zH0) (dc2 := 117) (ds2 := 29934) 7 rfl ?_
  refine zT_if0 false rfl (zc_eq_f (by show ((xs 1) : Int32).toInt ≠ 0; omega)) ?_
  refine zT_here (pc2 := 989) rfl ?_
  refine zT_gos (f := 200000) (pc2 := 1000) (ls2 := [(4, .int 0), (3, .ref 232), (2, .ref 162), (1, .ref 0), (0, .ref 11)]) (st2 := [.int (xs 2), .int 1, .ref 0]) (h2 := zH0) (dc2 := 117) (ds2 := 29934) 7 rfl ?_
  refine zT_call (v := some (.int (-1))) (h2 := zH0) (d1 := 0) (s1 := 0) rfl rfl ?_ ?_
  · refine zT_gos (f := 200000) (pc2 := 2) (ls2 := [(0, .ref 0), (1, .int 1), (2, .int (xs 2))]) (st2 := [.int (xs 2), .ref 0]) (h2 := zH0) (dc2 := 0) (ds2 := 0) 2 rfl ?_
    refine zT_call (v := some (.int 1)) (h2 := zH0) (d1 := 0) (s1 := 0) rfl rfl ?_ ?_
    · refine zT_gos (f := 200000) (pc2 := 1) (ls2 := [(0, .ref 0), (1, .int (xs 2))]) (st2 := [.int (xs 2)]) (h2 := zH0) (dc2 := 0) (ds2 := 0) 1 rfl ?_
      refine zT_if0 false rfl (zc_lt_f (by show ((xs 2) : Int32).toInt ≥ 0; omega)) ?_
      refine zT_here (pc2 := 4) rfl ?_
      refine zT_gos (f := 200000) (pc2 := 12) (ls2 := [(0, .ref 0), (1, .int (xs 2))]) (st2 := [.int 0, .int (xs 2)]) (h2 := zH0) (dc2 := 0) (ds2 := 0) 4 rfl ?_
      refine zT_if2 false rfl (zc_lt_f (by show ((xs 2) : Int32).toInt ≥ 0; omega)) ?_
      refine zT_here (pc2 := 15) rfl ?_
      refine zT_gos (f := 200000) (pc2 := 20) (ls2 := [(0, .ref 0), (1, .int (xs 2))]) (st2 := [.int 1]) (h2 := zH0) (dc2 := 0) (ds2 := 0) 2 rfl ?_
      exact zT_ret rfl rfl
    refine zT_here (pc2 := 5) rfl ?_
    refine zT_gos (f := 200000) (pc2 := 9) (ls2 := [(0, .ref 0), (1, .int 1), (2, .int (xs 2))]) (st2 := [.int (-1)]) (h2 := zH0) (dc2 := 0) (ds2 := 0) 2 rfl ?_
    exact zT_ret rfl rfl
  refine zT_here (pc2 := 1003) rfl ?_
  refine zT_gos (f := 200000) (pc2 := 1010) (ls2 := [(4, .int 0), (3, .ref 232), (2, .ref 162), (1, .ref 0), (0, .ref 11)]) (st2 := [.int (xs 1), .ref 162, .int (-1)]) (h2 := zH0) (dc2 := 117) (ds2 := 29934) 6 rfl ?_
  refine zT_if0 false rfl (zc_eq_f (by show ((xs 1) : Int32).toInt ≠ 0; omega)) ?_
  refine zT_here (pc2 := 1013) rfl ?_
  refine zT_gos (f := 200000) (pc2 := 1024) (ls2 := [(4, .int 0), (3, .ref 232), (2, .ref 162), (1, .ref 0), (0, .ref 11)]) (st2 := [.int (xs 2), .int 1, .ref 162, .int (-1)]) (h2 := zH0) (dc2 := 117) (ds2 := 29934) 7 rfl ?_
  refine zT_call (v := some (.int (-1))) (h2 := zH0) (d1 := 0) (s1 := 0) rfl rfl ?_ ?_
  · refine zT_gos (f := 200000) (pc2 := 6) (ls2 := [(0, .ref 162), (1, .int 1), (2, .int (xs 2))]) (st2 := [.int (xs 2)]) (h2 := zH0) (dc2 := 0) (ds2 := 0) 4 rfl ?_
    refine zT_if0 false rfl (zc_lt_f (by show ((xs 2) : Int32).toInt ≥ 0; omega)) ?_
    refine zT_here (pc2 := 9) rfl ?_
    refine zT_gos (f := 200000) (pc2 := 14) (ls2 := [(0, .ref 162), (1, .int 1), (2, .int (xs 2))]) (st2 := [.int 0, .int (xs 2)]) (h2 := zH0) (dc2 := 0) (ds2 := 0) 3 rfl ?_
    refine zT_if2 false rfl (zc_lt_f (by show ((xs 2) : Int32).toInt ≥ 0; omega)) ?_
    refine zT_here (pc2 := 17) rfl ?_
    refine zT_gos (f := 200000) (pc2 := 18) (ls2 := [(0, .ref 162), (1, .int 1), (2, .int (xs 2))]) (st2 := [.int (-1)]) (h2 := zH0) (dc2 := 0) (ds2 := 0) 1 rfl ?_
    exact zT_ret rfl rfl
  refine zT_here (pc2 := 1027) rfl ?_
  refine zT_gos (f := 200000) (pc2 := 1811) (ls2 := [(4, .int 6), (3, .ref 232), (2, .ref 162), (1, .ref 0), (0, .ref 11)]) (st2 := [.int 1]) (h2 := zH0) (dc2 := 117) (ds2 := 29934) 10 rfl ?_
  exact zT_ret rfl rfl
theorem zop_22 (xs : Nat → Int32) (h0 : xs 0 &&& 63 = 22) : zDone xs := by
  rcases (show (xs 1).toInt = 0 ∨ (xs 1).toInt ≠ 0 by omega) with h1 | h1
  · have h1 : xs 1 = 0 := Int32.toInt_inj.mp h1
    rcases (show (xs 2).toInt < 0 ∨ -1 < (xs 2).toInt by omega) with h2 | h2
    · have h2 := h2
      exact zo_22_0 xs h0 h1 h2
    · have h2 := h2
      exact zo_22_1 xs h0 h1 h2
  · have h1 := h1
    rcases (show (xs 2).toInt < 0 ∨ -1 < (xs 2).toInt by omega) with h2 | h2
    · have h2 := h2
      exact zo_22_2 xs h0 h1 h2
    · have h2 := h2
      exact zo_22_3 xs h0 h1 h2
set_option maxRecDepth 1000000 in
set_option maxHeartbeats 4000000 in
theorem zo_26_0 (xs : Nat → Int32) (h0 : xs 0 &&& 63 = 26) (h1 : xs 1 = 0) (h2 : (xs 2).toInt < 0) : zDone xs := by
  refine ⟨zH0, 117, 29934, ?_, by decide, by decide⟩
  refine zT_gos (f := 200000) (pc2 := 37) (ls2 := [(4, .int 0), (3, .ref 232), (2, .ref 162), (1, .ref 0), (0, .ref 11)]) (st2 := [.int (xs 0)]) (h2 := zH0) (dc2 := 117) (ds2 := 29934) 9 rfl ?_
  refine zT_gos (f := 200000) (pc2 := 40) (ls2 := [(4, .int 0), (3, .ref 232), (2, .ref 162), (1, .ref 0), (0, .ref 11)]) (st2 := [.int ((xs 0) &&& (63 : Int32))]) (h2 := zH0) (dc2 := 117) (ds2 := 29934) 2 rfl ?_
  refine zT_val h0 ?_
  refine zT_gos (f := 200000) (pc2 := 1250) (ls2 := [(4, .int 0), (3, .ref 232), (2, .ref 162), (1, .ref 0), (0, .ref 11)]) (st2 := [.int (xs 1), .ref 0]) (h2 := zH0) (dc2 := 117) (ds2 := 29934) 7 rfl ?_
  refine zT_val h1 ?_
  refine zT_gos (f := 200000) (pc2 := 1264) (ls2 := [(4, .int 0), (3, .ref 232), (2, .ref 162), (1, .ref 0), (0, .ref 11)]) (st2 := [.int (xs 2), .int 0, .ref 0]) (h2 := zH0) (dc2 := 117) (ds2 := 29934) 7 rfl ?_
  refine zT_gos (f := 200000) (pc2 := 1270) (ls2 := [(4, .int 0), (3, .ref 232), (2, .ref 162), (1, .ref 0), (0, .ref 11)]) (st2 := [.int (xs 3), .int (xs 2), .int 0, .ref 0]) (h2 := zH0) (dc2 := 117) (ds2 := 29934) 5 rfl ?_
  refine zT_call (v := some (.int (-1))) (h2 := zH0) (d1 := 0) (s1 := 0) rfl rfl ?_ ?_
  · refine zT_gos (f := 200000) (pc2 := 2) (ls2 := [(0, .ref 0), (1, .int 0), (2, .int (xs 2)), (3, .int (xs 3))]) (st2 := [.int (xs 2), .ref 0]) (h2 := zH0) (dc2 := 0) (ds2 := 0) 2 rfl ?_
    refine zT_call (v := some (.int 1)) (h2 := zH0) (d1 := 0) (s1 := 0) rfl rfl ?_ ?_
    · refine zT_gos (f := 200000) (pc2 := 1) (ls2 := [(0, .ref 0), (1, .int (xs 2))]) (st2 := [.int (xs 2)]) (h2 := zH0) (dc2 := 0) (ds2 := 0) 1 rfl ?_
      refine zT_if0 true rfl (zc_lt_t (by show ((xs 2) : Int32).toInt < 0; omega)) ?_
      refine zT_here (pc2 := 15) rfl ?_
      refine zT_gos (f := 200000) (pc2 := 20) (ls2 := [(0, .ref 0), (1, .int (xs 2))]) (st2 := [.int 1]) (h2 := zH0) (dc2 := 0) (ds2 := 0) 2 rfl ?_
      exact zT_ret rfl rfl
    refine zT_here (pc2 := 5) rfl ?_
    refine zT_gos (f := 200000) (pc2 := 16) (ls2 := [(0, .ref 0), (1, .int 0), (2, .int (xs 2)), (3, .int (xs 3))]) (st2 := [.int (-1)]) (h2 := zH0) (dc2 := 0) (ds2 := 0) 2 rfl ?_
    exact zT_ret rfl rfl
  refine zT_here (pc2 := 1273) rfl ?_
  refine zT_gos (f := 200000) (pc2 := 1280) (ls2 := [(4, .int 0), (3, .ref 232), (2, .ref 162), (1, .ref 0), (0, .ref 11)]) (st2 := [.int (xs 1), .ref 162, .int (-1)]) (h2 := zH0) (dc2 := 117) (ds2 := 29934) 6 rfl ?_
  refine zT_val h1 ?_
  refine zT_gos (f := 200000) (pc2 := 1294) (ls2 := [(4, .int 0), (3, .ref 232), (2, .ref 162), (1, .ref 0), (0, .ref 11)]) (st2 := [.int (xs 2), .int 0, .ref 162, .int (-1)]) (h2 := zH0) (dc2 := 117) (ds2 := 29934) 7 rfl ?_
  refine zT_gos (f := 200000) (pc2 := 1300) (ls2 := [(4, .int 0), (3, .ref 232), (2, .ref 162), (1, .ref 0), (0, .ref 11)]) (st2 := [.int (xs 3), .int (xs 2), .int 0, .ref 162, .int (-1)]) (h2 := zH0) (dc2 := 117) (ds2 := 29934) 5 rfl ?_
  refine zT_call (v := some (.int (-1))) (h2 := zH0) (d1 := 0) (s1 := 0) rfl rfl ?_ ?_
  · refine zT_gos (f := 200000) (pc2 := 6) (ls2 := [(0, .ref 162), (1, .int 0), (2, .int (xs 2)), (3, .int (xs 3))]) (st2 := [.int (xs 2)]) (h2 := zH0) (dc2 := 0) (ds2 := 0) 4 rfl ?_
    refine zT_if0 true rfl (zc_lt_t (by show ((xs 2) : Int32).toInt < 0; omega)) ?_
    refine zT_here (pc2 := 24) rfl ?_
    refine zT_gos (f := 200000) (pc2 := 25) (ls2 := [(0, .ref 162), (1, .int 0), (2, .int (xs 2)), (3, .int (xs 3))]) (st2 := [.int (-1)]) (h2 := zH0) (dc2 := 0) (ds2 := 0) 1 rfl ?_
    exact zT_ret rfl rfl
  refine zT_here (pc2 := 1303) rfl ?_
  refine zT_gos (f := 200000) (pc2 := 1811) (ls2 := [(4, .int 6), (3, .ref 232), (2, .ref 162), (1, .ref 0), (0, .ref 11)]) (st2 := [.int 1]) (h2 := zH0) (dc2 := 117) (ds2 := 29934) 10 rfl ?_
  exact zT_ret rfl rfl
set_option maxRecDepth 1000000 in
set_option maxHeartbeats 4000000 in
theorem zo_26_1 (xs : Nat → Int32) (h0 : xs 0 &&& 63 = 26) (h1 : xs 1 = 0) (h2 : -1 < (xs 2).toInt) : zDone xs := by
  refine ⟨zH0, 117, 29934, ?_, by decide, by decide⟩
  refine zT_gos (f := 200000) (pc2 := 37) (ls2 := [(4, .int 0), (3, .ref 232), (2, .ref 162), (1, .ref 0), (0, .ref 11)]) (st2 := [.int (xs 0)]) (h2 := zH0) (dc2 := 117) (ds2 := 29934) 9 rfl ?_
  refine zT_gos (f := 200000) (pc2 := 40) (ls2 := [(4, .int 0), (3, .ref 232), (2, .ref 162), (1, .ref 0), (0, .ref 11)]) (st2 := [.int ((xs 0) &&& (63 : Int32))]) (h2 := zH0) (dc2 := 117) (ds2 := 29934) 2 rfl ?_
  refine zT_val h0 ?_
  refine zT_gos (f := 200000) (pc2 := 1250) (ls2 := [(4, .int 0), (3, .ref 232), (2, .ref 162), (1, .ref 0), (0, .ref 11)]) (st2 := [.int (xs 1), .ref 0]) (h2 := zH0) (dc2 := 117) (ds2 := 29934) 7 rfl ?_
  refine zT_val h1 ?_
  refine zT_gos (f := 200000) (pc2 := 1264) (ls2 := [(4, .int 0), (3, .ref 232), (2, .ref 162), (1, .ref 0), (0, .ref 11)]) (st2 := [.int (xs 2), .int 0, .ref 0]) (h2 := zH0) (dc2 := 117) (ds2 := 29934) 7 rfl ?_
  refine zT_gos (f := 200000) (pc2 := 1270) (ls2 := [(4, .int 0), (3, .ref 232), (2, .ref 162), (1, .ref 0), (0, .ref 11)]) (st2 := [.int (xs 3), .int (xs 2), .int 0, .ref 0]) (h2 := zH0) (dc2 := 117) (ds2 := 29934) 5 rfl ?_
  refine zT_call (v := some (.int (-1))) (h2 := zH0) (d1 := 0) (s1 := 0) rfl rfl ?_ ?_
  · refine zT_gos (f := 200000) (pc2 := 2) (ls2 := [(0, .ref 0), (1, .int 0), (2, .int (xs 2)), (3, .int (xs 3))]) (st2 := [.int (xs 2), .ref 0]) (h2 := zH0) (dc2 := 0) (ds2 := 0) 2 rfl ?_
    refine zT_call (v := some (.int 1)) (h2 := zH0) (d1 := 0) (s1 := 0) rfl rfl ?_ ?_
    · refine zT_gos (f := 200000) (pc2 := 1) (ls2 := [(0, .ref 0), (1, .int (xs 2))]) (st2 := [.int (xs 2)]) (h2 := zH0) (dc2 := 0) (ds2 := 0) 1 rfl ?_
      refine zT_if0 false rfl (zc_lt_f (by show ((xs 2) : Int32).toInt ≥ 0; omega)) ?_
      refine zT_here (pc2 := 4) rfl ?_
      refine zT_gos (f := 200000) (pc2 := 12) (ls2 := [(0, .ref 0), (1, .int (xs 2))]) (st2 := [.int 0, .int (xs 2)]) (h2 := zH0) (dc2 := 0) (ds2 := 0) 4 rfl ?_
      refine zT_if2 false rfl (zc_lt_f (by show ((xs 2) : Int32).toInt ≥ 0; omega)) ?_
      refine zT_here (pc2 := 15) rfl ?_
      refine zT_gos (f := 200000) (pc2 := 20) (ls2 := [(0, .ref 0), (1, .int (xs 2))]) (st2 := [.int 1]) (h2 := zH0) (dc2 := 0) (ds2 := 0) 2 rfl ?_
      exact zT_ret rfl rfl
    refine zT_here (pc2 := 5) rfl ?_
    refine zT_gos (f := 200000) (pc2 := 16) (ls2 := [(0, .ref 0), (1, .int 0), (2, .int (xs 2)), (3, .int (xs 3))]) (st2 := [.int (-1)]) (h2 := zH0) (dc2 := 0) (ds2 := 0) 2 rfl ?_
    exact zT_ret rfl rfl
  refine zT_here (pc2 := 1273) rfl ?_
  refine zT_gos (f := 200000) (pc2 := 1280) (ls2 := [(4, .int 0), (3, .ref 232), (2, .ref 162), (1, .ref 0), (0, .ref 11)]) (st2 := [.int (xs 1), .ref 162, .int (-1)]) (h2 := zH0) (dc2 := 117) (ds2 := 29934) 6 rfl ?_
  refine zT_val h1 ?_
  refine zT_gos (f := 200000) (pc2 := 1294) (ls2 := [(4, .int 0), (3, .ref 232), (2, .ref 162), (1, .ref 0), (0, .ref 11)]) (st2 := [.int (xs 2), .int 0, .ref 162, .int (-1)]) (h2 := zH0) (dc2 := 117) (ds2 := 29934) 7 rfl ?_
  refine zT_gos (f := 200000) (pc2 := 1300) (ls2 := [(4, .int 0), (3, .ref 232), (2, .ref 162), (1, .ref 0), (0, .ref 11)]) (st2 := [.int (xs 3), .int (xs 2), .int 0, .ref 162, .int (-1)]) (h2 := zH0) (dc2 := 117) (ds2 := 29934) 5 rfl ?_
  refine zT_call (v := some (.int (-1))) (h2 := zH0) (d1 := 0) (s1 := 0) rfl rfl ?_ ?_
  · refine zT_gos (f := 200000) (pc2 := 6) (ls2 := [(0, .ref 162), (1, .int 0), (2, .int (xs 2)), (3, .int (xs 3))]) (st2 := [.int (xs 2)]) (h2 := zH0) (dc2 := 0) (ds2 := 0) 4 rfl ?_
    refine zT_if0 false rfl (zc_lt_f (by show ((xs 2) : Int32).toInt ≥ 0; omega)) ?_
    refine zT_here (pc2 := 9) rfl ?_
    refine zT_gos (f := 200000) (pc2 := 14) (ls2 := [(0, .ref 162), (1, .int 0), (2, .int (xs 2)), (3, .int (xs 3))]) (st2 := [.int 0, .int (xs 2)]) (h2 := zH0) (dc2 := 0) (ds2 := 0) 3 rfl ?_
    refine zT_if2 true rfl (zc_ge_t (by show ((xs 2) : Int32).toInt ≥ 0; omega)) ?_
    refine zT_here (pc2 := 24) rfl ?_
    refine zT_gos (f := 200000) (pc2 := 25) (ls2 := [(0, .ref 162), (1, .int 0), (2, .int (xs 2)), (3, .int (xs 3))]) (st2 := [.int (-1)]) (h2 := zH0) (dc2 := 0) (ds2 := 0) 1 rfl ?_
    exact zT_ret rfl rfl
  refine zT_here (pc2 := 1303) rfl ?_
  refine zT_gos (f := 200000) (pc2 := 1811) (ls2 := [(4, .int 6), (3, .ref 232), (2, .ref 162), (1, .ref 0), (0, .ref 11)]) (st2 := [.int 1]) (h2 := zH0) (dc2 := 117) (ds2 := 29934) 10 rfl ?_
  exact zT_ret rfl rfl
set_option maxRecDepth 1000000 in
set_option maxHeartbeats 4000000 in
theorem zo_26_2 (xs : Nat → Int32) (h0 : xs 0 &&& 63 = 26) (h1 : (xs 1).toInt ≠ 0) (h2 : (xs 2).toInt < 0) : zDone xs := by
  refine ⟨zH0, 117, 29934, ?_, by decide, by decide⟩
  refine zT_gos (f := 200000) (pc2 := 37) (ls2 := [(4, .int 0), (3, .ref 232), (2, .ref 162), (1, .ref 0), (0, .ref 11)]) (st2 := [.int (xs 0)]) (h2 := zH0) (dc2 := 117) (ds2 := 29934) 9 rfl ?_
  refine zT_gos (f := 200000) (pc2 := 40) (ls2 := [(4, .int 0), (3, .ref 232), (2, .ref 162), (1, .ref 0), (0, .ref 11)]) (st2 := [.int ((xs 0) &&& (63 : Int32))]) (h2 := zH0) (dc2 := 117) (ds2 := 29934) 2 rfl ?_
  refine zT_val h0 ?_
  refine zT_gos (f := 200000) (pc2 := 1250) (ls2 := [(4, .int 0), (3, .ref 232), (2, .ref 162), (1, .ref 0), (0, .ref 11)]) (st2 := [.int (xs 1), .ref 0]) (h2 := zH0) (dc2 := 117) (ds2 := 29934) 7 rfl ?_
  refine zT_if0 false rfl (zc_eq_f (by show ((xs 1) : Int32).toInt ≠ 0; omega)) ?_
  refine zT_here (pc2 := 1253) rfl ?_
  refine zT_gos (f := 200000) (pc2 := 1264) (ls2 := [(4, .int 0), (3, .ref 232), (2, .ref 162), (1, .ref 0), (0, .ref 11)]) (st2 := [.int (xs 2), .int 1, .ref 0]) (h2 := zH0) (dc2 := 117) (ds2 := 29934) 7 rfl ?_
  refine zT_gos (f := 200000) (pc2 := 1270) (ls2 := [(4, .int 0), (3, .ref 232), (2, .ref 162), (1, .ref 0), (0, .ref 11)]) (st2 := [.int (xs 3), .int (xs 2), .int 1, .ref 0]) (h2 := zH0) (dc2 := 117) (ds2 := 29934) 5 rfl ?_
  refine zT_call (v := some (.int (-1))) (h2 := zH0) (d1 := 0) (s1 := 0) rfl rfl ?_ ?_
  · refine zT_gos (f := 200000) (pc2 := 2) (ls2 := [(0, .ref 0), (1, .int 1), (2, .int (xs 2)), (3, .int (xs 3))]) (st2 := [.int (xs 2), .ref 0]) (h2 := zH0) (dc2 := 0) (ds2 := 0) 2 rfl ?_
    refine zT_call (v := some (.int 1)) (h2 := zH0) (d1 := 0) (s1 := 0) rfl rfl ?_ ?_
    · refine zT_gos (f := 200000) (pc2 := 1) (ls2 := [(0, .ref 0), (1, .int (xs 2))]) (st2 := [.int (xs 2)]) (h2 := zH0) (dc2 := 0) (ds2 := 0) 1 rfl ?_
      refine zT_if0 true rfl (zc_lt_t (by show ((xs 2) : Int32).toInt < 0; omega)) ?_
      refine zT_here (pc2 := 15) rfl ?_
      refine zT_gos (f := 200000) (pc2 := 20) (ls2 := [(0, .ref 0), (1, .int (xs 2))]) (st2 := [.int 1]) (h2 := zH0) (dc2 := 0) (ds2 := 0) 2 rfl ?_
      exact zT_ret rfl rfl
    refine zT_here (pc2 := 5) rfl ?_
    refine zT_gos (f := 200000) (pc2 := 16) (ls2 := [(0, .ref 0), (1, .int 1), (2, .int (xs 2)), (3, .int (xs 3))]) (st2 := [.int (-1)]) (h2 := zH0) (dc2 := 0) (ds2 := 0) 2 rfl ?_
    exact zT_ret rfl rfl
  refine zT_here (pc2 := 1273) rfl ?_
  refine zT_gos (f := 200000) (pc2 := 1280) (ls2 := [(4, .int 0), (3, .ref 232), (2, .ref 162), (1, .ref 0), (0, .ref 11)]) (st2 := [.int (xs 1), .ref 162, .int (-1)]) (h2 := zH0) (dc2 := 117) (ds2 := 29934) 6 rfl ?_
  refine zT_if0 false rfl (zc_eq_f (by show ((xs 1) : Int32).toInt ≠ 0; omega)) ?_
  refine zT_here (pc2 := 1283) rfl ?_
  refine zT_gos (f := 200000) (pc2 := 1294) (ls2 := [(4, .int 0), (3, .ref 232), (2, .ref 162), (1, .ref 0), (0, .ref 11)]) (st2 := [.int (xs 2), .int 1, .ref 162, .int (-1)]) (h2 := zH0) (dc2 := 117) (ds2 := 29934) 7 rfl ?_
  refine zT_gos (f := 200000) (pc2 := 1300) (ls2 := [(4, .int 0), (3, .ref 232), (2, .ref 162), (1, .ref 0), (0, .ref 11)]) (st2 := [.int (xs 3), .int (xs 2), .int 1, .ref 162, .int (-1)]) (h2 := zH0) (dc2 := 117) (ds2 := 29934) 5 rfl ?_
  refine zT_call (v := some (.int (-1))) (h2 := zH0) (d1 := 0) (s1 := 0) rfl rfl ?_ ?_
  · refine zT_gos (f := 200000) (pc2 := 6) (ls2 := [(0, .ref 162), (1, .int 1), (2, .int (xs 2)), (3, .int (xs 3))]) (st2 := [.int (xs 2)]) (h2 := zH0) (dc2 := 0) (ds2 := 0) 4 rfl ?_
    refine zT_if0 true rfl (zc_lt_t (by show ((xs 2) : Int32).toInt < 0; omega)) ?_
    refine zT_here (pc2 := 24) rfl ?_
    refine zT_gos (f := 200000) (pc2 := 25) (ls2 := [(0, .ref 162), (1, .int 1), (2, .int (xs 2)), (3, .int (xs 3))]) (st2 := [.int (-1)]) (h2 := zH0) (dc2 := 0) (ds2 := 0) 1 rfl ?_
    exact zT_ret rfl rfl
  refine zT_here (pc2 := 1303) rfl ?_
  refine zT_gos (f := 200000) (pc2 := 1811) (ls2 := [(4, .int 6), (3, .ref 232), (2, .ref 162), (1, .ref 0), (0, .ref 11)]) (st2 := [.int 1]) (h2 := zH0) (dc2 := 117) (ds2 := 29934) 10 rfl ?_
  exact zT_ret rfl rfl
set_option maxRecDepth 1000000 in
set_option maxHeartbeats 4000000 in
theorem zo_26_3 (xs : Nat → Int32) (h0 : xs 0 &&& 63 = 26) (h1 : (xs 1).toInt ≠ 0) (h2 : -1 < (xs 2).toInt) : zDone xs := by
  refine ⟨zH0, 117, 29934, ?_, by decide, by decide⟩
  refine zT_gos (f := 200000) (pc2 := 37) (ls2 := [(4, .int 0), (3, .ref 232), (2, .ref 162), (1, .ref 0), (0, .ref 11)]) (st2 := [.int (xs 0)]) (h2 := zH0) (dc2 := 117) (ds2 := 29934) 9 rfl ?_
  refine zT_gos (f := 200000) (pc2 := 40) (ls2 := [(4, .int 0), (3, .ref 232), (2, .ref 162), (1, .ref 0), (0, .ref 11)]) (st2 := [.int ((xs 0) &&& (63 : Int32))]) (h2 := zH0) (dc2 := 117) (ds2 := 29934) 2 rfl ?_
  refine zT_val h0 ?_
  refine zT_gos (f := 200000) (pc2 := 1250) (ls2 := [(4, .int 0), (3, .ref 232), (2, .ref 162), (1, .ref 0), (0, .ref 11)]) (st2 := [.int (xs 1), .ref 0]) (h2 := zH0) (dc2 := 117) (ds2 := 29934) 7 rfl ?_
  refine zT_if0 false rfl (zc_eq_f (by show ((xs 1) : Int32).toInt ≠ 0; omega)) ?_
  refine zT_here (pc2 := 1253) rfl ?_
  refine zT_gos (f := 200000) (pc2 := 1264) (ls2 := [(4, .int 0), (3, .ref 232), (2, .ref 162), (1, .ref 0), (0, .ref 11)]) (st2 := [.int (xs 2), .int 1, .ref 0]) (h2 := zH0) (dc2 := 117) (ds2 := 29934) 7 rfl ?_
  refine zT_gos (f := 200000) (pc2 := 1270) (ls2 := [(4, .int 0), (3, .ref 232), (2, .ref 162), (1, .ref 0), (0, .ref 11)]) (st2 := [.int (xs 3), .int (xs 2), .int 1, .ref 0]) (h2 := zH0) (dc2 := 117) (ds2 := 29934) 5 rfl ?_
  refine zT_call (v := some (.int (-1))) (h2 := zH0) (d1 := 0) (s1 := 0) rfl rfl ?_ ?_
  · refine zT_gos (f := 200000) (pc2 := 2) (ls2 := [(0, .ref 0), (1, .int 1), (2, .int (xs 2)), (3, .int (xs 3))]) (st2 := [.int (xs 2), .ref 0]) (h2 := zH0) (dc2 := 0) (ds2 := 0) 2 rfl ?_
    refine zT_call (v := some (.int 1)) (h2 := zH0) (d1 := 0) (s1 := 0) rfl rfl ?_ ?_
    · refine zT_gos (f := 200000) (pc2 := 1) (ls2 := [(0, .ref 0), (1, .int (xs 2))]) (st2 := [.int (xs 2)]) (h2 := zH0) (dc2 := 0) (ds2 := 0) 1 rfl ?_
      refine zT_if0 false rfl (zc_lt_f (by show ((xs 2) : Int32).toInt ≥ 0; omega)) ?_
      refine zT_here (pc2 := 4) rfl ?_
      refine zT_gos (f := 200000) (pc2 := 12) (ls2 := [(0, .ref 0), (1, .int (xs 2))]) (st2 := [.int 0, .int (xs 2)]) (h2 := zH0) (dc2 := 0) (ds2 := 0) 4 rfl ?_
      refine zT_if2 false rfl (zc_lt_f (by show ((xs 2) : Int32).toInt ≥ 0; omega)) ?_
      refine zT_here (pc2 := 15) rfl ?_
      refine zT_gos (f := 200000) (pc2 := 20) (ls2 := [(0, .ref 0), (1, .int (xs 2))]) (st2 := [.int 1]) (h2 := zH0) (dc2 := 0) (ds2 := 0) 2 rfl ?_
      exact zT_ret rfl rfl
    refine zT_here (pc2 := 5) rfl ?_
    refine zT_gos (f := 200000) (pc2 := 16) (ls2 := [(0, .ref 0), (1, .int 1), (2, .int (xs 2)), (3, .int (xs 3))]) (st2 := [.int (-1)]) (h2 := zH0) (dc2 := 0) (ds2 := 0) 2 rfl ?_
    exact zT_ret rfl rfl
  refine zT_here (pc2 := 1273) rfl ?_
  refine zT_gos (f := 200000) (pc2 := 1280) (ls2 := [(4, .int 0), (3, .ref 232), (2, .ref 162), (1, .ref 0), (0, .ref 11)]) (st2 := [.int (xs 1), .ref 162, .int (-1)]) (h2 := zH0) (dc2 := 117) (ds2 := 29934) 6 rfl ?_
  refine zT_if0 false rfl (zc_eq_f (by show ((xs 1) : Int32).toInt ≠ 0; omega)) ?_
  refine zT_here (pc2 := 1283) rfl ?_
  refine zT_gos (f := 200000) (pc2 := 1294) (ls2 := [(4, .int 0), (3, .ref 232), (2, .ref 162), (1, .ref 0), (0, .ref 11)]) (st2 := [.int (xs 2), .int 1, .ref 162, .int (-1)]) (h2 := zH0) (dc2 := 117) (ds2 := 29934) 7 rfl ?_
  refine zT_gos (f := 200000) (pc2 := 1300) (ls2 := [(4, .int 0), (3, .ref 232), (2, .ref 162), (1, .ref 0), (0, .ref 11)]) (st2 := [.int (xs 3), .int (xs 2), .int 1, .ref 162, .int (-1)]) (h2 := zH0) (dc2 := 117) (ds2 := 29934) 5 rfl ?_
  refine zT_call (v := some (.int (-1))) (h2 := zH0) (d1 := 0) (s1 := 0) rfl rfl ?_ ?_
  · refine zT_gos (f := 200000) (pc2 := 6) (ls2 := [(0, .ref 162), (1, .int 1), (2, .int (xs 2)), (3, .int (xs 3))]) (st2 := [.int (xs 2)]) (h2 := zH0) (dc2 := 0) (ds2 := 0) 4 rfl ?_
    refine zT_if0 false rfl (zc_lt_f (by show ((xs 2) : Int32).toInt ≥ 0; omega)) ?_
    refine zT_here (pc2 := 9) rfl ?_
    refine zT_gos (f := 200000) (pc2 := 14) (ls2 := [(0, .ref 162), (1, .int 1), (2, .int (xs 2)), (3, .int (xs 3))]) (st2 := [.int 0, .int (xs 2)]) (h2 := zH0) (dc2 := 0) (ds2 := 0) 3 rfl ?_
    refine zT_if2 true rfl (zc_ge_t (by show ((xs 2) : Int32).toInt ≥ 0; omega)) ?_
    refine zT_here (pc2 := 24) rfl ?_
    refine zT_gos (f := 200000) (pc2 := 25) (ls2 := [(0, .ref 162), (1, .int 1), (2, .int (xs 2)), (3, .int (xs 3))]) (st2 := [.int (-1)]) (h2 := zH0) (dc2 := 0) (ds2 := 0) 1 rfl ?_
    exact zT_ret rfl rfl
  refine zT_here (pc2 := 1303) rfl ?_
  refine zT_gos (f := 200000) (pc2 := 1811) (ls2 := [(4, .int 6), (3, .ref 232), (2, .ref 162), (1, .ref 0), (0, .ref 11)]) (st2 := [.int 1]) (h2 := zH0) (dc2 := 117) (ds2 := 29934) 10 rfl ?_
  exact zT_ret rfl rfl
theorem zop_26 (xs : Nat → Int32) (h0 : xs 0 &&& 63 = 26) : zDone xs := by
  rcases (show (xs 1).toInt = 0 ∨ (xs 1).toInt ≠ 0 by omega) with h1 | h1
  · have h1 : xs 1 = 0 := Int32.toInt_inj.mp h1
    rcases (show (xs 2).toInt < 0 ∨ -1 < (xs 2).toInt by omega) with h2 | h2
    · have h2 := h2
      exact zo_26_0 xs h0 h1 h2
    · have h2 := h2
      exact zo_26_1 xs h0 h1 h2
  · have h1 := h1
    rcases (show (xs 2).toInt < 0 ∨ -1 < (xs 2).toInt by omega) with h2 | h2
    · have h2 := h2
      exact zo_26_2 xs h0 h1 h2
    · have h2 := h2
      exact zo_26_3 xs h0 h1 h2
set_option maxRecDepth 1000000 in
set_option maxHeartbeats 4000000 in
theorem zo_27_0 (xs : Nat → Int32) (h0 : xs 0 &&& 63 = 27) (h1 : xs 1 = 0) (h2 : (xs 2).toInt < 0) : zDone xs := by
  refine ⟨zH0, 117, 29934, ?_, by decide, by decide⟩
  refine zT_gos (f := 200000) (pc2 := 37) (ls2 := [(4, .int 0), (3, .ref 232), (2, .ref 162), (1, .ref 0), (0, .ref 11)]) (st2 := [.int (xs 0)]) (h2 := zH0) (dc2 := 117) (ds2 := 29934) 9 rfl ?_
  refine zT_gos (f := 200000) (pc2 := 40) (ls2 := [(4, .int 0), (3, .ref 232), (2, .ref 162), (1, .ref 0), (0, .ref 11)]) (st2 := [.int ((xs 0) &&& (63 : Int32))]) (h2 := zH0) (dc2 := 117) (ds2 := 29934) 2 rfl ?_
  refine zT_val h0 ?_
  refine zT_gos (f := 200000) (pc2 := 1315) (ls2 := [(4, .int 0), (3, .ref 232), (2, .ref 162), (1, .ref 0), (0, .ref 11)]) (st2 := [.int (xs 1), .ref 0]) (h2 := zH0) (dc2 := 117) (ds2 := 29934) 7 rfl ?_
  refine zT_val h1 ?_
  refine zT_gos (f := 200000) (pc2 := 1329) (ls2 := [(4, .int 0), (3, .ref 232), (2, .ref 162), (1, .ref 0), (0, .ref 11)]) (st2 := [.int (xs 2), .int 0, .ref 0]) (h2 := zH0) (dc2 := 117) (ds2 := 29934) 7 rfl ?_
  refine zT_call (v := some (.int (-1))) (h2 := zH0) (d1 := 0) (s1 := 0) rfl rfl ?_ ?_
  · refine zT_gos (f := 200000) (pc2 := 1) (ls2 := [(0, .ref 0), (1, .int 0), (2, .int (xs 2))]) (st2 := [.int (xs 2)]) (h2 := zH0) (dc2 := 0) (ds2 := 0) 1 rfl ?_
    refine zT_if0 true rfl (zc_lt_t (by show ((xs 2) : Int32).toInt < 0; omega)) ?_
    refine zT_here (pc2 := 10) rfl ?_
    refine zT_gos (f := 200000) (pc2 := 11) (ls2 := [(0, .ref 0), (1, .int 0), (2, .int (xs 2))]) (st2 := [.int (-1)]) (h2 := zH0) (dc2 := 0) (ds2 := 0) 1 rfl ?_
    exact zT_ret rfl rfl
  refine zT_here (pc2 := 1332) rfl ?_
  refine zT_gos (f := 200000) (pc2 := 1339) (ls2 := [(4, .int 0), (3, .ref 232), (2, .ref 162), (1, .ref 0), (0, .ref 11)]) (st2 := [.int (xs 1), .ref 162, .int (-1)]) (h2 := zH0) (dc2 := 117) (ds2 := 29934) 6 rfl ?_
  refine zT_val h1 ?_
  refine zT_gos (f := 200000) (pc2 := 1353) (ls2 := [(4, .int 0), (3, .ref 232), (2, .ref 162), (1, .ref 0), (0, .ref 11)]) (st2 := [.int (xs 2), .int 0, .ref 162, .int (-1)]) (h2 := zH0) (dc2 := 117) (ds2 := 29934) 7 rfl ?_
  refine zT_call (v := some (.int (-1))) (h2 := zH0) (d1 := 0) (s1 := 0) rfl rfl ?_ ?_
  · refine zT_gos (f := 200000) (pc2 := 6) (ls2 := [(0, .ref 162), (1, .int 0), (2, .int (xs 2))]) (st2 := [.int (xs 2)]) (h2 := zH0) (dc2 := 0) (ds2 := 0) 4 rfl ?_
    refine zT_if0 true rfl (zc_lt_t (by show ((xs 2) : Int32).toInt < 0; omega)) ?_
    refine zT_here (pc2 := 15) rfl ?_
    refine zT_gos (f := 200000) (pc2 := 16) (ls2 := [(0, .ref 162), (1, .int 0), (2, .int (xs 2))]) (st2 := [.int (-1)]) (h2 := zH0) (dc2 := 0) (ds2 := 0) 1 rfl ?_
    exact zT_ret rfl rfl
  refine zT_here (pc2 := 1356) rfl ?_
  refine zT_gos (f := 200000) (pc2 := 1811) (ls2 := [(4, .int 6), (3, .ref 232), (2, .ref 162), (1, .ref 0), (0, .ref 11)]) (st2 := [.int 1]) (h2 := zH0) (dc2 := 117) (ds2 := 29934) 10 rfl ?_
  exact zT_ret rfl rfl
set_option maxRecDepth 1000000 in
set_option maxHeartbeats 4000000 in
theorem zo_27_1 (xs : Nat → Int32) (h0 : xs 0 &&& 63 = 27) (h1 : xs 1 = 0) (h2 : 99 < (xs 2).toInt) : zDone xs := by
  refine ⟨zH0, 117, 29934, ?_, by decide, by decide⟩
  refine zT_gos (f := 200000) (pc2 := 37) (ls2 := [(4, .int 0), (3, .ref 232), (2, .ref 162), (1, .ref 0), (0, .ref 11)]) (st2 := [.int (xs 0)]) (h2 := zH0) (dc2 := 117) (ds2 := 29934) 9 rfl ?_
  refine zT_gos (f := 200000) (pc2 := 40) (ls2 := [(4, .int 0), (3, .ref 232), (2, .ref 162), (1, .ref 0), (0, .ref 11)]) (st2 := [.int ((xs 0) &&& (63 : Int32))]) (h2 := zH0) (dc2 := 117) (ds2 := 29934) 2 rfl ?_
  refine zT_val h0 ?_
  refine zT_gos (f := 200000) (pc2 := 1315) (ls2 := [(4, .int 0), (3, .ref 232), (2, .ref 162), (1, .ref 0), (0, .ref 11)]) (st2 := [.int (xs 1), .ref 0]) (h2 := zH0) (dc2 := 117) (ds2 := 29934) 7 rfl ?_
  refine zT_val h1 ?_
  refine zT_gos (f := 200000) (pc2 := 1329) (ls2 := [(4, .int 0), (3, .ref 232), (2, .ref 162), (1, .ref 0), (0, .ref 11)]) (st2 := [.int (xs 2), .int 0, .ref 0]) (h2 := zH0) (dc2 := 117) (ds2 := 29934) 7 rfl ?_
  refine zT_call (v := some (.int (-1))) (h2 := zH0) (d1 := 0) (s1 := 0) rfl rfl ?_ ?_
  · refine zT_gos (f := 200000) (pc2 := 1) (ls2 := [(0, .ref 0), (1, .int 0), (2, .int (xs 2))]) (st2 := [.int (xs 2)]) (h2 := zH0) (dc2 := 0) (ds2 := 0) 1 rfl ?_
    refine zT_if0 false rfl (zc_lt_f (by show ((xs 2) : Int32).toInt ≥ 0; omega)) ?_
    refine zT_here (pc2 := 4) rfl ?_
    refine zT_gos (f := 200000) (pc2 := 7) (ls2 := [(0, .ref 0), (1, .int 0), (2, .int (xs 2))]) (st2 := [.int 99, .int (xs 2)]) (h2 := zH0) (dc2 := 0) (ds2 := 0) 2 rfl ?_
    refine zT_if2 false rfl (zc_le_f (by show ((xs 2) : Int32).toInt > 99; omega)) ?_
    refine zT_here (pc2 := 10) rfl ?_
    refine zT_gos (f := 200000) (pc2 := 11) (ls2 := [(0, .ref 0), (1, .int 0), (2, .int (xs 2))]) (st2 := [.int (-1)]) (h2 := zH0) (dc2 := 0) (ds2 := 0) 1 rfl ?_
    exact zT_ret rfl rfl
  refine zT_here (pc2 := 1332) rfl ?_
  refine zT_gos (f := 200000) (pc2 := 1339) (ls2 := [(4, .int 0), (3, .ref 232), (2, .ref 162), (1, .ref 0), (0, .ref 11)]) (st2 := [.int (xs 1), .ref 162, .int (-1)]) (h2 := zH0) (dc2 := 117) (ds2 := 29934) 6 rfl ?_
  refine zT_val h1 ?_
  refine zT_gos (f := 200000) (pc2 := 1353) (ls2 := [(4, .int 0), (3, .ref 232), (2, .ref 162), (1, .ref 0), (0, .ref 11)]) (st2 := [.int (xs 2), .int 0, .ref 162, .int (-1)]) (h2 := zH0) (dc2 := 117) (ds2 := 29934) 7 rfl ?_
  refine zT_call (v := some (.int (-1))) (h2 := zH0) (d1 := 0) (s1 := 0) rfl rfl ?_ ?_
  · refine zT_gos (f := 200000) (pc2 := 6) (ls2 := [(0, .ref 162), (1, .int 0), (2, .int (xs 2))]) (st2 := [.int (xs 2)]) (h2 := zH0) (dc2 := 0) (ds2 := 0) 4 rfl ?_
    refine zT_if0 false rfl (zc_lt_f (by show ((xs 2) : Int32).toInt ≥ 0; omega)) ?_
    refine zT_here (pc2 := 9) rfl ?_
    refine zT_gos (f := 200000) (pc2 := 12) (ls2 := [(0, .ref 162), (1, .int 0), (2, .int (xs 2))]) (st2 := [.int 99, .int (xs 2)]) (h2 := zH0) (dc2 := 0) (ds2 := 0) 2 rfl ?_
    refine zT_if2 false rfl (zc_le_f (by show ((xs 2) : Int32).toInt > 99; omega)) ?_
    refine zT_here (pc2 := 15) rfl ?_
    refine zT_gos (f := 200000) (pc2 := 16) (ls2 := [(0, .ref 162), (1, .int 0), (2, .int (xs 2))]) (st2 := [.int (-1)]) (h2 := zH0) (dc2 := 0) (ds2 := 0) 1 rfl ?_
    exact zT_ret rfl rfl
  refine zT_here (pc2 := 1356) rfl ?_
  refine zT_gos (f := 200000) (pc2 := 1811) (ls2 := [(4, .int 6), (3, .ref 232), (2, .ref 162), (1, .ref 0), (0, .ref 11)]) (st2 := [.int 1]) (h2 := zH0) (dc2 := 117) (ds2 := 29934) 10 rfl ?_
  exact zT_ret rfl rfl
set_option maxRecDepth 1000000 in
theorem zk_o_19 : zT zg0 zF zP 250 0 [(0, .ref 162), (1, .int 0)] [] (((zH0.set 37 (.inr (.inr (.inr (3, [.ref 44, .ref 6, .ref 76, .ref 78, .ref 80, .ref 88, .int 1, .int 0, .ref 96, .int 0, .int 0, .int 0, .ref 98, .ref 100, .int 0]))))).set 40 (.inr (.inr (.inr (6, [.int 1, .long 70644700037184, .int 0, .ref 82, .ref 84, .ref 86]))))).set 43 (.inr (.inl (16, [70644700037184])))) 0 0 (some (.int 0), (((((((zH0.set 37 (.inr (.inr (.inr (3, [.ref 44, .ref 6, .ref 76, .ref 78, .ref 80, .ref 88, .int 1, .int 0, .ref 96, .int 0, .int 0, .int 0, .ref 98, .ref 100, .int 0]))))).set 40 (.inr (.inr (.inr (6, [.int 1, .long 70644700037184, .int 0, .ref 82, .ref 84, .ref 86]))))).set 43 (.inr (.inl (16, [70644700037184])))).set 106 (.inl (2, 2, [1, 0]))).set 105 (.inl (0, 2, [0]))).set 107 (.inl (0, 132, [0, 0, 0, 0, 0, 0]))).set 109 (.inl (0, 22, [0]))), 0, 0) := zclosed (n := 181) (by decide +kernel)
set_option maxRecDepth 1000000 in
set_option maxHeartbeats 4000000 in
theorem zo_27_2 (xs : Nat → Int32) (h0 : xs 0 &&& 63 = 27) (h1 : xs 1 = 0) (h2 : 0 ≤ (xs 2).toInt ∧ (xs 2).toInt ≤ 99) : zDone xs := by
  refine ⟨(((((((zH0.set 37 (.inr (.inr (.inr (3, [.ref 44, .ref 6, .ref 76, .ref 78, .ref 80, .ref 88, .int 1, .int 0, .ref 96, .int 0, .int 0, .int 0, .ref 98, .ref 100, .int 0]))))).set 40 (.inr (.inr (.inr (6, [.int 1, .long 70644700037184, .int 0, .ref 82, .ref 84, .ref 86]))))).set 43 (.inr (.inl (16, [70644700037184])))).set 106 (.inl (2, 2, [1, 0]))).set 105 (.inl (0, 2, [0]))).set 107 (.inl (0, 132, [0, 0, 0, 0, 0, 0]))).set 109 (.inl (0, 22, [0]))), 117, 29934, ?_, by decide, by decide⟩
  refine zT_gos (f := 200000) (pc2 := 37) (ls2 := [(4, .int 0), (3, .ref 232), (2, .ref 162), (1, .ref 0), (0, .ref 11)]) (st2 := [.int (xs 0)]) (h2 := zH0) (dc2 := 117) (ds2 := 29934) 9 rfl ?_
  refine zT_gos (f := 200000) (pc2 := 40) (ls2 := [(4, .int 0), (3, .ref 232), (2, .ref 162), (1, .ref 0), (0, .ref 11)]) (st2 := [.int ((xs 0) &&& (63 : Int32))]) (h2 := zH0) (dc2 := 117) (ds2 := 29934) 2 rfl ?_
  refine zT_val h0 ?_
  refine zT_gos (f := 200000) (pc2 := 1315) (ls2 := [(4, .int 0), (3, .ref 232), (2, .ref 162), (1, .ref 0), (0, .ref 11)]) (st2 := [.int (xs 1), .ref 0]) (h2 := zH0) (dc2 := 117) (ds2 := 29934) 7 rfl ?_
  refine zT_val h1 ?_
  refine zT_gos (f := 200000) (pc2 := 1329) (ls2 := [(4, .int 0), (3, .ref 232), (2, .ref 162), (1, .ref 0), (0, .ref 11)]) (st2 := [.int (xs 2), .int 0, .ref 0]) (h2 := zH0) (dc2 := 117) (ds2 := 29934) 7 rfl ?_
  refine zT_call (v := some (.int 9)) (h2 := (((zH0.set 37 (.inr (.inr (.inr (3, [.ref 44, .ref 6, .ref 76, .ref 78, .ref 80, .ref 88, .int 1, .int 0, .ref 96, .int 0, .int 0, .int 0, .ref 98, .ref 100, .int 0]))))).set 40 (.inr (.inr (.inr (6, [.int 1, .long 70644700037184, .int 0, .ref 82, .ref 84, .ref 86]))))).set 43 (.inr (.inl (16, [70644700037184]))))) (d1 := 0) (s1 := 0) rfl rfl ?_ ?_
  · refine zT_gos (f := 200000) (pc2 := 1) (ls2 := [(0, .ref 0), (1, .int 0), (2, .int (xs 2))]) (st2 := [.int (xs 2)]) (h2 := zH0) (dc2 := 0) (ds2 := 0) 1 rfl ?_
    refine zT_if0 false rfl (zc_lt_f (by show ((xs 2) : Int32).toInt ≥ 0; omega)) ?_
    refine zT_here (pc2 := 4) rfl ?_
    refine zT_gos (f := 200000) (pc2 := 7) (ls2 := [(0, .ref 0), (1, .int 0), (2, .int (xs 2))]) (st2 := [.int 99, .int (xs 2)]) (h2 := zH0) (dc2 := 0) (ds2 := 0) 2 rfl ?_
    refine zT_if2 true rfl (zc_le_t (by show ((xs 2) : Int32).toInt ≤ 99; omega)) ?_
    refine zT_here (pc2 := 12) rfl ?_
    refine zT_gos (f := 200000) (pc2 := 51) (ls2 := [(3, .ref 80), (0, .ref 0), (1, .int 0), (2, .int (xs 2))]) (st2 := [.int 9]) (h2 := (((zH0.set 37 (.inr (.inr (.inr (3, [.ref 44, .ref 6, .ref 76, .ref 78, .ref 80, .ref 88, .int 1, .int 0, .ref 96, .int 0, .int 0, .int 0, .ref 98, .ref 100, .int 0]))))).set 40 (.inr (.inr (.inr (6, [.int 1, .long 70644700037184, .int 0, .ref 82, .ref 84, .ref 86]))))).set 43 (.inr (.inl (16, [70644700037184]))))) (dc2 := 0) (ds2 := 0) 16 rfl ?_
    exact zT_ret rfl rfl
  refine zT_here (pc2 := 1332) rfl ?_
  refine zT_gos (f := 200000) (pc2 := 1339) (ls2 := [(4, .int 0), (3, .ref 232), (2, .ref 162), (1, .ref 0), (0, .ref 11)]) (st2 := [.int (xs 1), .ref 162, .int 9]) (h2 := (((zH0.set 37 (.inr (.inr (.inr (3, [.ref 44, .ref 6, .ref 76, .ref 78, .ref 80, .ref 88, .int 1, .int 0, .ref 96, .int 0, .int 0, .int 0, .ref 98, .ref 100, .int 0]))))).set 40 (.inr (.inr (.inr (6, [.int 1, .long 70644700037184, .int 0, .ref 82, .ref 84, .ref 86]))))).set 43 (.inr (.inl (16, [70644700037184]))))) (dc2 := 117) (ds2 := 29934) 6 rfl ?_
  refine zT_val h1 ?_
  refine zT_gos (f := 200000) (pc2 := 1353) (ls2 := [(4, .int 0), (3, .ref 232), (2, .ref 162), (1, .ref 0), (0, .ref 11)]) (st2 := [.int (xs 2), .int 0, .ref 162, .int 9]) (h2 := (((zH0.set 37 (.inr (.inr (.inr (3, [.ref 44, .ref 6, .ref 76, .ref 78, .ref 80, .ref 88, .int 1, .int 0, .ref 96, .int 0, .int 0, .int 0, .ref 98, .ref 100, .int 0]))))).set 40 (.inr (.inr (.inr (6, [.int 1, .long 70644700037184, .int 0, .ref 82, .ref 84, .ref 86]))))).set 43 (.inr (.inl (16, [70644700037184]))))) (dc2 := 117) (ds2 := 29934) 7 rfl ?_
  refine zT_call (v := some (.int 9)) (h2 := (((((((zH0.set 37 (.inr (.inr (.inr (3, [.ref 44, .ref 6, .ref 76, .ref 78, .ref 80, .ref 88, .int 1, .int 0, .ref 96, .int 0, .int 0, .int 0, .ref 98, .ref 100, .int 0]))))).set 40 (.inr (.inr (.inr (6, [.int 1, .long 70644700037184, .int 0, .ref 82, .ref 84, .ref 86]))))).set 43 (.inr (.inl (16, [70644700037184])))).set 106 (.inl (2, 2, [1, 0]))).set 105 (.inl (0, 2, [0]))).set 107 (.inl (0, 132, [0, 0, 0, 0, 0, 0]))).set 109 (.inl (0, 22, [0])))) (d1 := 0) (s1 := 0) rfl rfl ?_ ?_
  · refine zT_gos (f := 200000) (pc2 := 6) (ls2 := [(0, .ref 162), (1, .int 0), (2, .int (xs 2))]) (st2 := [.int (xs 2)]) (h2 := (((zH0.set 37 (.inr (.inr (.inr (3, [.ref 44, .ref 6, .ref 76, .ref 78, .ref 80, .ref 88, .int 1, .int 0, .ref 96, .int 0, .int 0, .int 0, .ref 98, .ref 100, .int 0]))))).set 40 (.inr (.inr (.inr (6, [.int 1, .long 70644700037184, .int 0, .ref 82, .ref 84, .ref 86]))))).set 43 (.inr (.inl (16, [70644700037184]))))) (dc2 := 0) (ds2 := 0) 4 rfl ?_
    refine zT_if0 false rfl (zc_lt_f (by show ((xs 2) : Int32).toInt ≥ 0; omega)) ?_
    refine zT_here (pc2 := 9) rfl ?_
    refine zT_gos (f := 200000) (pc2 := 12) (ls2 := [(0, .ref 162), (1, .int 0), (2, .int (xs 2))]) (st2 := [.int 99, .int (xs 2)]) (h2 := (((zH0.set 37 (.inr (.inr (.inr (3, [.ref 44, .ref 6, .ref 76, .ref 78, .ref 80, .ref 88, .int 1, .int 0, .ref 96, .int 0, .int 0, .int 0, .ref 98, .ref 100, .int 0]))))).set 40 (.inr (.inr (.inr (6, [.int 1, .long 70644700037184, .int 0, .ref 82, .ref 84, .ref 86]))))).set 43 (.inr (.inl (16, [70644700037184]))))) (dc2 := 0) (ds2 := 0) 2 rfl ?_
    refine zT_if2 true rfl (zc_le_t (by show ((xs 2) : Int32).toInt ≤ 99; omega)) ?_
    refine zT_here (pc2 := 17) rfl ?_
    refine zT_gos (f := 200000) (pc2 := 19) (ls2 := [(0, .ref 162), (1, .int 0), (2, .int (xs 2))]) (st2 := [.int 0, .ref 162]) (h2 := (((zH0.set 37 (.inr (.inr (.inr (3, [.ref 44, .ref 6, .ref 76, .ref 78, .ref 80, .ref 88, .int 1, .int 0, .ref 96, .int 0, .int 0, .int 0, .ref 98, .ref 100, .int 0]))))).set 40 (.inr (.inr (.inr (6, [.int 1, .long 70644700037184, .int 0, .ref 82, .ref 84, .ref 86]))))).set 43 (.inr (.inl (16, [70644700037184]))))) (dc2 := 0) (ds2 := 0) 2 rfl ?_
    refine zT_call rfl rfl (zT_le (zg0_le 6 xs) zk_o_19) ?_
    refine zT_here (pc2 := 22) rfl ?_
    refine zT_gos (f := 200000) (pc2 := 60) (ls2 := [(4, .int 9), (3, .int 0), (0, .ref 162), (1, .int 0), (2, .int (xs 2))]) (st2 := [.int 9]) (h2 := (((((((zH0.set 37 (.inr (.inr (.inr (3, [.ref 44, .ref 6, .ref 76, .ref 78, .ref 80, .ref 88, .int 1, .int 0, .ref 96, .int 0, .int 0, .int 0, .ref 98, .ref 100, .int 0]))))).set 40 (.inr (.inr (.inr (6, [.int 1, .long 70644700037184, .int 0, .ref 82, .ref 84, .ref 86]))))).set 43 (.inr (.inl (16, [70644700037184])))).set 106 (.inl (2, 2, [1, 0]))).set 105 (.inl (0, 2, [0]))).set 107 (.inl (0, 132, [0, 0, 0, 0, 0, 0]))).set 109 (.inl (0, 22, [0])))) (dc2 := 0) (ds2 := 0) 14 rfl ?_
    exact zT_ret rfl rfl
  refine zT_here (pc2 := 1356) rfl ?_
  refine zT_gos (f := 200000) (pc2 := 1811) (ls2 := [(4, .int 6), (3, .ref 232), (2, .ref 162), (1, .ref 0), (0, .ref 11)]) (st2 := [.int 1]) (h2 := (((((((zH0.set 37 (.inr (.inr (.inr (3, [.ref 44, .ref 6, .ref 76, .ref 78, .ref 80, .ref 88, .int 1, .int 0, .ref 96, .int 0, .int 0, .int 0, .ref 98, .ref 100, .int 0]))))).set 40 (.inr (.inr (.inr (6, [.int 1, .long 70644700037184, .int 0, .ref 82, .ref 84, .ref 86]))))).set 43 (.inr (.inl (16, [70644700037184])))).set 106 (.inl (2, 2, [1, 0]))).set 105 (.inl (0, 2, [0]))).set 107 (.inl (0, 132, [0, 0, 0, 0, 0, 0]))).set 109 (.inl (0, 22, [0])))) (dc2 := 117) (ds2 := 29934) 10 rfl ?_
  exact zT_ret rfl rfl
set_option maxRecDepth 1000000 in
set_option maxHeartbeats 4000000 in
theorem zo_27_3 (xs : Nat → Int32) (h0 : xs 0 &&& 63 = 27) (h1 : (xs 1).toInt ≠ 0) (h2 : (xs 2).toInt < 0) : zDone xs := by
  refine ⟨zH0, 117, 29934, ?_, by decide, by decide⟩
  refine zT_gos (f := 200000) (pc2 := 37) (ls2 := [(4, .int 0), (3, .ref 232), (2, .ref 162), (1, .ref 0), (0, .ref 11)]) (st2 := [.int (xs 0)]) (h2 := zH0) (dc2 := 117) (ds2 := 29934) 9 rfl ?_
  refine zT_gos (f := 200000) (pc2 := 40) (ls2 := [(4, .int 0), (3, .ref 232), (2, .ref 162), (1, .ref 0), (0, .ref 11)]) (st2 := [.int ((xs 0) &&& (63 : Int32))]) (h2 := zH0) (dc2 := 117) (ds2 := 29934) 2 rfl ?_
  refine zT_val h0 ?_
  refine zT_gos (f := 200000) (pc2 := 1315) (ls2 := [(4, .int 0), (3, .ref 232), (2, .ref 162), (1, .ref 0), (0, .ref 11)]) (st2 := [.int (xs 1), .ref 0]) (h2 := zH0) (dc2 := 117) (ds2 := 29934) 7 rfl ?_
  refine zT_if0 false rfl (zc_eq_f (by show ((xs 1) : Int32).toInt ≠ 0; omega)) ?_
  refine zT_here (pc2 := 1318) rfl ?_
  refine zT_gos (f := 200000) (pc2 := 1329) (ls2 := [(4, .int 0), (3, .ref 232), (2, .ref 162), (1, .ref 0), (0, .ref 11)]) (st2 := [.int (xs 2), .int 1, .ref 0]) (h2 := zH0) (dc2 := 117) (ds2 := 29934) 7 rfl ?_
  refine zT_call (v := some (.int (-1))) (h2 := zH0) (d1 := 0) (s1 := 0) rfl rfl ?_ ?_
  · refine zT_gos (f := 200000) (pc2 := 1) (ls2 := [(0, .ref 0), (1, .int 1), (2, .int (xs 2))]) (st2 := [.int (xs 2)]) (h2 := zH0) (dc2 := 0) (ds2 := 0) 1 rfl ?_
    refine zT_if0 true rfl (zc_lt_t (by show ((xs 2) : Int32).toInt < 0; omega)) ?_
    refine zT_here (pc2 := 10) rfl ?_
    refine zT_gos (f := 200000) (pc2 := 11) (ls2 := [(0, .ref 0), (1, .int 1), (2, .int (xs 2))]) (st2 := [.int (-1)]) (h2 := zH0) (dc2 := 0) (ds2 := 0) 1 rfl ?_
    exact zT_ret rfl rfl
  refine zT_here (pc2 := 1332) rfl ?_
  refine zT_gos (f := 200000) (pc2 := 1339) (ls2 := [(4, .int 0), (3, .ref 232), (2, .ref 162), (1, .ref 0), (0, .ref 11)]) (st2 := [.int (xs 1), .ref 162, .int (-1)]) (h2 := zH0) (dc2 := 117) (ds2 := 29934) 6 rfl ?_
  refine zT_if0 false rfl (zc_eq_f (by show ((xs 1) : Int32).toInt ≠ 0; omega)) ?_
  refine zT_here (pc2 := 1342) rfl ?_
  refine zT_gos (f := 200000) (pc2 := 1353) (ls2 := [(4, .int 0), (3, .ref 232), (2, .ref 162), (1, .ref 0), (0, .ref 11)]) (st2 := [.int (xs 2), .int 1, .ref 162, .int (-1)]) (h2 := zH0) (dc2 := 117) (ds2 := 29934) 7 rfl ?_
  refine zT_call (v := some (.int (-1))) (h2 := zH0) (d1 := 0) (s1 := 0) rfl rfl ?_ ?_
  · refine zT_gos (f := 200000) (pc2 := 6) (ls2 := [(0, .ref 162), (1, .int 1), (2, .int (xs 2))]) (st2 := [.int (xs 2)]) (h2 := zH0) (dc2 := 0) (ds2 := 0) 4 rfl ?_
    refine zT_if0 true rfl (zc_lt_t (by show ((xs 2) : Int32).toInt < 0; omega)) ?_
    refine zT_here (pc2 := 15) rfl ?_
    refine zT_gos (f := 200000) (pc2 := 16) (ls2 := [(0, .ref 162), (1, .int 1), (2, .int (xs 2))]) (st2 := [.int (-1)]) (h2 := zH0) (dc2 := 0) (ds2 := 0) 1 rfl ?_
    exact zT_ret rfl rfl
  refine zT_here (pc2 := 1356) rfl ?_
  refine zT_gos (f := 200000) (pc2 := 1811) (ls2 := [(4, .int 6), (3, .ref 232), (2, .ref 162), (1, .ref 0), (0, .ref 11)]) (st2 := [.int 1]) (h2 := zH0) (dc2 := 117) (ds2 := 29934) 10 rfl ?_
  exact zT_ret rfl rfl
set_option maxRecDepth 1000000 in
set_option maxHeartbeats 4000000 in
theorem zo_27_4 (xs : Nat → Int32) (h0 : xs 0 &&& 63 = 27) (h1 : (xs 1).toInt ≠ 0) (h2 : 99 < (xs 2).toInt) : zDone xs := by
  refine ⟨zH0, 117, 29934, ?_, by decide, by decide⟩
  refine zT_gos (f := 200000) (pc2 := 37) (ls2 := [(4, .int 0), (3, .ref 232), (2, .ref 162), (1, .ref 0), (0, .ref 11)]) (st2 := [.int (xs 0)]) (h2 := zH0) (dc2 := 117) (ds2 := 29934) 9 rfl ?_
  refine zT_gos (f := 200000) (pc2 := 40) (ls2 := [(4, .int 0), (3, .ref 232), (2, .ref 162), (1, .ref 0), (0, .ref 11)]) (st2 := [.int ((xs 0) &&& (63 : Int32))]) (h2 := zH0) (dc2 := 117) (ds2 := 29934) 2 rfl ?_
  refine zT_val h0 ?_
  refine zT_gos (f := 200000) (pc2 := 1315) (ls2 := [(4, .int 0), (3, .ref 232), (2, .ref 162), (1, .ref 0), (0, .ref 11)]) (st2 := [.int (xs 1), .ref 0]) (h2 := zH0) (dc2 := 117) (ds2 := 29934) 7 rfl ?_
  refine zT_if0 false rfl (zc_eq_f (by show ((xs 1) : Int32).toInt ≠ 0; omega)) ?_
  refine zT_here (pc2 := 1318) rfl ?_
  refine zT_gos (f := 200000) (pc2 := 1329) (ls2 := [(4, .int 0), (3, .ref 232), (2, .ref 162), (1, .ref 0), (0, .ref 11)]) (st2 := [.int (xs 2), .int 1, .ref 0]) (h2 := zH0) (dc2 := 117) (ds2 := 29934) 7 rfl ?_
  refine zT_call (v := some (.int (-1))) (h2 := zH0) (d1 := 0) (s1 := 0) rfl rfl ?_ ?_
  · refine zT_gos (f := 200000) (pc2 := 1) (ls2 := [(0, .ref 0), (1, .int 1), (2, .int (xs 2))]) (st2 := [.int (xs 2)]) (h2 := zH0) (dc2 := 0) (ds2 := 0) 1 rfl ?_
    refine zT_if0 false rfl (zc_lt_f (by show ((xs 2) : Int32).toInt ≥ 0; omega)) ?_
    refine zT_here (pc2 := 4) rfl ?_
    refine zT_gos (f := 200000) (pc2 := 7) (ls2 := [(0, .ref 0), (1, .int 1), (2, .int (xs 2))]) (st2 := [.int 99, .int (xs 2)]) (h2 := zH0) (dc2 := 0) (ds2 := 0) 2 rfl ?_
    refine zT_if2 false rfl (zc_le_f (by show ((xs 2) : Int32).toInt > 99; omega)) ?_
    refine zT_here (pc2 := 10) rfl ?_
    refine zT_gos (f := 200000) (pc2 := 11) (ls2 := [(0, .ref 0), (1, .int 1), (2, .int (xs 2))]) (st2 := [.int (-1)]) (h2 := zH0) (dc2 := 0) (ds2 := 0) 1 rfl ?_
    exact zT_ret rfl rfl
  refine zT_here (pc2 := 1332) rfl ?_
  refine zT_gos (f := 200000) (pc2 := 1339) (ls2 := [(4, .int 0), (3, .ref 232), (2, .ref 162), (1, .ref 0), (0, .ref 11)]) (st2 := [.int (xs 1), .ref 162, .int (-1)]) (h2 := zH0) (dc2 := 117) (ds2 := 29934) 6 rfl ?_
  refine zT_if0 false rfl (zc_eq_f (by show ((xs 1) : Int32).toInt ≠ 0; omega)) ?_
  refine zT_here (pc2 := 1342) rfl ?_
  refine zT_gos (f := 200000) (pc2 := 1353) (ls2 := [(4, .int 0), (3, .ref 232), (2, .ref 162), (1, .ref 0), (0, .ref 11)]) (st2 := [.int (xs 2), .int 1, .ref 162, .int (-1)]) (h2 := zH0) (dc2 := 117) (ds2 := 29934) 7 rfl ?_
  refine zT_call (v := some (.int (-1))) (h2 := zH0) (d1 := 0) (s1 := 0) rfl rfl ?_ ?_
  · refine zT_gos (f := 200000) (pc2 := 6) (ls2 := [(0, .ref 162), (1, .int 1), (2, .int (xs 2))]) (st2 := [.int (xs 2)]) (h2 := zH0) (dc2 := 0) (ds2 := 0) 4 rfl ?_
    refine zT_if0 false rfl (zc_lt_f (by show ((xs 2) : Int32).toInt ≥ 0; omega)) ?_
    refine zT_here (pc2 := 9) rfl ?_
    refine zT_gos (f := 200000) (pc2 := 12) (ls2 := [(0, .ref 162), (1, .int 1), (2, .int (xs 2))]) (st2 := [.int 99, .int (xs 2)]) (h2 := zH0) (dc2 := 0) (ds2 := 0) 2 rfl ?_
    refine zT_if2 false rfl (zc_le_f (by show ((xs 2) : Int32).toInt > 99; omega)) ?_
    refine zT_here (pc2 := 15) rfl ?_
    refine zT_gos (f := 200000) (pc2 := 16) (ls2 := [(0, .ref 162), (1, .int 1), (2, .int (xs 2))]) (st2 := [.int (-1)]) (h2 := zH0) (dc2 := 0) (ds2 := 0) 1 rfl ?_
    exact zT_ret rfl rfl
  refine zT_here (pc2 := 1356) rfl ?_
  refine zT_gos (f := 200000) (pc2 := 1811) (ls2 := [(4, .int 6), (3, .ref 232), (2, .ref 162), (1, .ref 0), (0, .ref 11)]) (st2 := [.int 1]) (h2 := zH0) (dc2 := 117) (ds2 := 29934) 10 rfl ?_
  exact zT_ret rfl rfl
set_option maxRecDepth 1000000 in
theorem zk_o_20 : zT zg0 zF zP 250 0 [(0, .ref 162), (1, .int 1)] [] (((zH0.set 37 (.inr (.inr (.inr (3, [.ref 44, .ref 6, .ref 76, .ref 78, .ref 80, .ref 88, .int 1, .int 0, .ref 96, .int 0, .int 0, .int 0, .ref 98, .ref 100, .int 0]))))).set 44 (.inr (.inr (.inr (6, [.int 1, .long 70644700037184, .int 0, .ref 90, .ref 92, .ref 94]))))).set 47 (.inr (.inl (16, [70644700037184])))) 0 0 (some (.int 0), (((((((zH0.set 37 (.inr (.inr (.inr (3, [.ref 44, .ref 6, .ref 76, .ref 78, .ref 80, .ref 88, .int 1, .int 0, .ref 96, .int 0, .int 0, .int 0, .ref 98, .ref 100, .int 0]))))).set 44 (.inr (.inr (.inr (6, [.int 1, .long 70644700037184, .int 0, .ref 90, .ref 92, .ref 94]))))).set 47 (.inr (.inl (16, [70644700037184])))).set 106 (.inl (2, 2, [0, 1]))).set 105 (.inl (0, 2, [0, 0]))).set 107 (.inl (0, 132, [0, 0, 0, 0, 0, 0, 0, 0, 0, 0, 0, 0, 0, 0, 0, 0, 0, 0, 0, 0, 0, 0, 0, 0, 0, 0, 0, 0, 0, 0, 0, 0, 0, 0, 0, 0, 0, 0, 0, 0, 0, 0, 0, 0, 0, 0, 0, 0, 0, 0, 0, 0, 0, 0, 0, 0, 0, 0, 0, 0, 0, 0, 0, 0, 0, 0, 0, 0, 0, 0, 0, 0]))).set 109 (.inl (0, 22, [0, 0, 0, 0, 0, 0, 0, 0, 0, 0, 0, 0]))), 0, 0) := zclosed (n := 183) (by decide +kernel)
set_option maxRecDepth 1000000 in
set_option maxHeartbeats 4000000 in
theorem zo_27_5 (xs : Nat → Int32) (h0 : xs 0 &&& 63 = 27) (h1 : (xs 1).toInt ≠ 0) (h2 : 0 ≤ (xs 2).toInt ∧ (xs 2).toInt ≤ 99) : zDone xs := by
  refine ⟨(((((((zH0.set 37 (.inr (.inr (.inr (3, [.ref 44, .ref 6, .ref 76, .ref 78, .ref 80, .ref 88, .int 1, .int 0, .ref 96, .int 0, .int 0, .int 0, .ref 98, .ref 100, .int 0]))))).set 44 (.inr (.inr (.inr (6, [.int 1, .long 70644700037184, .int 0, .ref 90, .ref 92, .ref 94]))))).set 47 (.inr (.inl (16, [70644700037184])))).set 106 (.inl (2, 2, [0, 1]))).set 105 (.inl (0, 2, [0, 0]))).set 107 (.inl (0, 132, [0, 0, 0, 0, 0, 0, 0, 0, 0, 0, 0, 0, 0, 0, 0, 0, 0, 0, 0, 0, 0, 0, 0, 0, 0, 0, 0, 0, 0, 0, 0, 0, 0, 0, 0, 0, 0, 0, 0, 0, 0, 0, 0, 0, 0, 0, 0, 0, 0, 0, 0, 0, 0, 0, 0, 0, 0, 0, 0, 0, 0, 0, 0, 0, 0, 0, 0, 0, 0, 0, 0, 0]))).set 109 (.inl (0, 22, [0, 0, 0, 0, 0, 0, 0, 0, 0, 0, 0, 0]))), 117, 29934, ?_, by decide, by decide⟩
  refine zT_gos (f := 200000) (pc2 := 37) (ls2 := [(4, .int 0), (3, .ref 232), (2, .ref 162), (1, .ref 0), (0, .ref 11)]) (st2 := [.int (xs 0)]) (h2 := zH0) (dc2 := 117) (ds2 := 29934) 9 rfl ?_
  refine zT_gos (f := 200000) (pc2 := 40) (ls2 := [(4, .int 0), (3, .ref 232), (2, .ref 162), (1, .ref 0), (0, .ref 11)]) (st2 := [.int ((xs 0) &&& (63 : Int32))]) (h2 := zH0) (dc2 := 117) (ds2 := 29934) 2 rfl ?_
  refine zT_val h0 ?_
  refine zT_gos (f := 200000) (pc2 := 1315) (ls2 := [(4, .int 0), (3, .ref 232), (2, .ref 162), (1, .ref 0), (0, .ref 11)]) (st2 := [.int (xs 1), .ref 0]) (h2 := zH0) (dc2 := 117) (ds2 := 29934) 7 rfl ?_
  refine zT_if0 false rfl (zc_eq_f (by show ((xs 1) : Int32).toInt ≠ 0; omega)) ?_
  refine zT_here (pc2 := 1318) rfl ?_
  refine zT_gos (f := 200000) (pc2 := 1329) (ls2 := [(4, .int 0), (3, .ref 232), (2, .ref 162), (1, .ref 0), (0, .ref 11)]) (st2 := [.int (xs 2), .int 1, .ref 0]) (h2 := zH0) (dc2 := 117) (ds2 := 29934) 7 rfl ?_
  refine zT_call (v := some (.int 9)) (h2 := (((zH0.set 37 (.inr (.inr (.inr (3, [.ref 44, .ref 6, .ref 76, .ref 78, .ref 80, .ref 88, .int 1, .int 0, .ref 96, .int 0, .int 0, .int 0, .ref 98, .ref 100, .int 0]))))).set 44 (.inr (.inr (.inr (6, [.int 1, .long 70644700037184, .int 0, .ref 90, .ref 92, .ref 94]))))).set 47 (.inr (.inl (16, [70644700037184]))))) (d1 := 0) (s1 := 0) rfl rfl ?_ ?_
  · refine zT_gos (f := 200000) (pc2 := 1) (ls2 := [(0, .ref 0), (1, .int 1), (2, .int (xs 2))]) (st2 := [.int (xs 2)]) (h2 := zH0) (dc2 := 0) (ds2 := 0) 1 rfl ?_
    refine zT_if0 false rfl (zc_lt_f (by show ((xs 2) : Int32).toInt ≥ 0; omega)) ?_
    refine zT_here (pc2 := 4) rfl ?_
    refine zT_gos (f := 200000) (pc2 := 7) (ls2 := [(0, .ref 0), (1, .int 1), (2, .int (xs 2))]) (st2 := [.int 99, .int (xs 2)]) (h2 := zH0) (dc2 := 0) (ds2 := 0) 2 rfl ?_
    refine zT_if2 true rfl (zc_le_t (by show ((xs 2) : Int32).toInt ≤ 99; omega)) ?_
    refine zT_here (pc2 := 12) rfl ?_
    refine zT_gos (f := 200000) (pc2 := 51) (ls2 := [(3, .ref 88), (0, .ref 0), (1, .int 1), (2, .int (xs 2))]) (st2 := [.int 9]) (h2 := (((zH0.set 37 (.inr (.inr (.inr (3, [.ref 44, .ref 6, .ref 76, .ref 78, .ref 80, .ref 88, .int 1, .int 0, .ref 96, .int 0, .int 0, .int 0, .ref 98, .ref 100, .int 0]))))).set 44 (.inr (.inr (.inr (6, [.int 1, .long 70644700037184, .int 0, .ref 90, .ref 92, .ref 94]))))).set 47 (.inr (.inl (16, [70644700037184]))))) (dc2 := 0) (ds2 := 0) 16 rfl ?_
    exact zT_ret rfl rfl
  refine zT_here (pc2 := 1332) rfl ?_
  refine zT_gos (f := 200000) (pc2 := 1339) (ls2 := [(4, .int 0), (3, .ref 232), (2, .ref 162), (1, .ref 0), (0, .ref 11)]) (st2 := [.int (xs 1), .ref 162, .int 9]) (h2 := (((zH0.set 37 (.inr (.inr (.inr (3, [.ref 44, .ref 6, .ref 76, .ref 78, .ref 80, .ref 88, .int 1, .int 0, .ref 96, .int 0, .int 0, .int 0, .ref 98, .ref 100, .int 0]))))).set 44 (.inr (.inr (.inr (6, [.int 1, .long 70644700037184, .int 0, .ref 90, .ref 92, .ref 94]))))).set 47 (.inr (.inl (16, [70644700037184]))))) (dc2 := 117) (ds2 := 29934) 6 rfl ?_
  refine zT_if0 false rfl (zc_eq_f (by show ((xs 1) : Int32).toInt ≠ 0; omega)) ?_
  refine zT_here (pc2 := 1342) rfl ?_
  refine zT_gos (f := 200000) (pc2 := 1353) (ls2 := [(4, .int 0), (3, .ref 232), (2, .ref 162), (1, .ref 0), (0, .ref 11)]) (st2 := [.int (xs 2), .int 1, .ref 162, .int 9]) (h2 := (((zH0.set 37 (.inr (.inr (.inr (3, [.ref 44, .ref 6, .ref 76, .ref 78, .ref 80, .ref 88, .int 1, .int 0, .ref 96, .int 0, .int 0, .int 0, .ref 98, .ref 100, .int 0]))))).set 44 (.inr (.inr (.inr (6, [.int 1, .long 70644700037184, .int 0, .ref 90, .ref 92, .ref 94]))))).set 47 (.inr (.inl (16, [70644700037184]))))) (dc2 := 117) (ds2 := 29934) 7 rfl ?_
  refine zT_call (v := some (.int 9)) (h2 := (((((((zH0.set 37 (.inr (.inr (.inr (3, [.ref 44, .ref 6, .ref 76, .ref 78, .ref 80, .ref 88, .int 1, .int 0, .ref 96, .int 0, .int 0, .int 0, .ref 98, .ref 100, .int 0]))))).set 44 (.inr (.inr (.inr (6, [.int 1, .long 70644700037184, .int 0, .ref 90, .ref 92, .ref 94]))))).set 47 (.inr (.inl (16, [70644700037184])))).set 106 (.inl (2, 2, [0, 1]))).set 105 (.inl (0, 2, [0, 0]))).set 107 (.inl (0, 132, [0, 0, 0, 0, 0, 0, 0, 0, 0, 0, 0, 0, 0, 0, 0, 0, 0, 0, 0, 0, 0, 0, 0, 0, 0, 0, 0, 0, 0, 0, 0, 0, 0, 0, 0, 0, 0, 0, 0, 0, 0, 0, 0, 0, 0, 0, 0, 0, 0, 0, 0, 0, 0, 0, 0, 0, 0, 0, 0, 0, 0, 0, 0, 0, 0, 0, 0, 0, 0, 0, 0, 0]))).set 109 (.inl (0, 22, [0, 0, 0, 0, 0, 0, 0, 0, 0, 0, 0, 0])))) (d1 := 0) (s1 := 0) rfl rfl ?_ ?_
  · refine zT_gos (f := 200000) (pc2 := 6) (ls2 := [(0, .ref 162), (1, .int 1), (2, .int (xs 2))]) (st2 := [.int (xs 2)]) (h2 := (((zH0.set 37 (.inr (.inr (.inr (3, [.ref 44, .ref 6, .ref 76, .ref 78, .ref 80, .ref 88, .int 1, .int 0, .ref 96, .int 0, .int 0, .int 0, .ref 98, .ref 100, .int 0]))))).set 44 (.inr (.inr (.inr (6, [.int 1, .long 70644700037184, .int 0, .ref 90, .ref 92, .ref 94]))))).set 47 (.inr (.inl (16, [70644700037184]))))) (dc2 := 0) (ds2 := 0) 4 rfl ?_
    refine zT_if0 false rfl (zc_lt_f (by show ((xs 2) : Int32).toInt ≥ 0; omega)) ?_
    refine zT_here (pc2 := 9) rfl ?_
    refine zT_gos (f := 200000) (pc2 := 12) (ls2 := [(0, .ref 162), (1, .int 1), (2, .int (xs 2))]) (st2 := [.int 99, .int (xs 2)]) (h2 := (((zH0.set 37 (.inr (.inr (.inr (3, [.ref 44, .ref 6, .ref 76, .ref 78, .ref 80, .ref 88, .int 1, .int 0, .ref 96, .int 0, .int 0, .int 0, .ref 98, .ref 100, .int 0]))))).set 44 (.inr (.inr (.inr (6, [.int 1, .long 70644700037184, .int 0, .ref 90, .ref 92, .ref 94]))))).set 47 (.inr (.inl (16, [70644700037184]))))) (dc2 := 0) (ds2 := 0) 2 rfl ?_
    refine zT_if2 true rfl (zc_le_t (by show ((xs 2) : Int32).toInt ≤ 99; omega)) ?_
    refine zT_here (pc2 := 17) rfl ?_
    refine zT_gos (f := 200000) (pc2 := 19) (ls2 := [(0, .ref 162), (1, .int 1), (2, .int (xs 2))]) (st2 := [.int 1, .ref 162]) (h2 := (((zH0.set 37 (.inr (.inr (.inr (3, [.ref 44, .ref 6, .ref 76, .ref 78, .ref 80, .ref 88, .int 1, .int 0, .ref 96, .int 0, .int 0, .int 0, .ref 98, .ref 100, .int 0]))))).set 44 (.inr (.inr (.inr (6, [.int 1, .long 70644700037184, .int 0, .ref 90, .ref 92, .ref 94]))))).set 47 (.inr (.inl (16, [70644700037184]))))) (dc2 := 0) (ds2 := 0) 2 rfl ?_
    refine zT_call rfl rfl (zT_le (zg0_le 6 xs) zk_o_20) ?_
    refine zT_here (pc2 := 22) rfl ?_
    refine zT_gos (f := 200000) (pc2 := 60) (ls2 := [(4, .int 9), (3, .int 0), (0, .ref 162), (1, .int 1), (2, .int (xs 2))]) (st2 := [.int 9]) (h2 := (((((((zH0.set 37 (.inr (.inr (.inr (3, [.ref 44, .ref 6, .ref 76, .ref 78, .ref 80, .ref 88, .int 1, .int 0, .ref 96, .int 0, .int 0, .int 0, .ref 98, .ref 100, .int 0]))))).set 44 (.inr (.inr (.inr (6, [.int 1, .long 70644700037184, .int 0, .ref 90, .ref 92, .ref 94]))))).set 47 (.inr (.inl (16, [70644700037184])))).set 106 (.inl (2, 2, [0, 1]))).set 105 (.inl (0, 2, [0, 0]))).set 107 (.inl (0, 132, [0, 0, 0, 0, 0, 0, 0, 0, 0, 0, 0, 0, 0, 0, 0, 0, 0, 0, 0, 0, 0, 0, 0, 0, 0, 0, 0, 0, 0, 0, 0, 0, 0, 0, 0, 0, 0, 0, 0, 0, 0, 0, 0, 0, 0, 0, 0, 0, 0, 0, 0, 0, 0, 0, 0, 0, 0, 0, 0, 0, 0, 0, 0, 0, 0, 0, 0, 0, 0, 0, 0, 0]))).set 109 (.inl (0, 22, [0, 0, 0, 0, 0, 0, 0, 0, 0, 0, 0, 0])))) (dc2 := 0) (ds2 := 0) 15 rfl ?_
    exact zT_ret rfl rfl
  refine zT_here (pc2 := 1356) rfl ?_
  refine zT_gos (f := 200000) (pc2 := 1811) (ls2 := [(4, .int 6), (3, .ref 232), (2, .ref 162), (1, .ref 0), (0, .ref 11)]) (st2 := [.int 1]) (h2 := (((((((zH0.set 37 (.inr (.inr (.inr (3, [.ref 44, .ref 6, .ref 76, .ref 78, .ref 80, .ref 88, .int 1, .int 0, .ref 96, .int 0, .int 0, .int 0, .ref 98, .ref 100, .int 0]))))).set 44 (.inr (.inr (.inr (6, [.int 1, .long 70644700037184, .int 0, .ref 90, .ref 92, .ref 94]))))).set 47 (.inr (.inl (16, [70644700037184])))).set 106 (.inl (2, 2, [0, 1]))).set 105 (.inl (0, 2, [0, 0]))).set 107 (.inl (0, 132, [0, 0, 0, 0, 0, 0, 0, 0, 0, 0, 0, 0, 0, 0, 0, 0, 0, 0, 0, 0, 0, 0, 0, 0, 0, 0, 0, 0, 0, 0, 0, 0, 0, 0, 0, 0, 0, 0, 0, 0, 0, 0, 0, 0, 0, 0, 0, 0, 0, 0, 0, 0, 0, 0, 0, 0, 0, 0, 0, 0, 0, 0, 0, 0, 0, 0, 0, 0, 0, 0, 0, 0]))).set 109 (.inl (0, 22, [0, 0, 0, 0, 0, 0, 0, 0, 0, 0, 0, 0])))) (dc2 := 117) (ds2 := 29934) 10 rfl ?_
  exact zT_ret rfl rfl
theorem zop_27 (xs : Nat → Int32) (h0 : xs 0 &&& 63 = 27) : zDone xs := by
  rcases (show (xs 1).toInt = 0 ∨ (xs 1).toInt ≠ 0 by omega) with h1 | h1
  · have h1 : xs 1 = 0 := Int32.toInt_inj.mp h1
    rcases (show (xs 2).toInt < 0 ∨ 99 < (xs 2).toInt ∨ (0 ≤ (xs 2).toInt ∧ (xs 2).toInt ≤ 99) by omega) with h2 | h2 | h2
    · have h2 := h2
      exact zo_27_0 xs h0 h1 h2
    · have h2 := h2
      exact zo_27_1 xs h0 h1 h2
    · have h2 := h2
      exact zo_27_2 xs h0 h1 h2
  · have h1 := h1
    rcases (show (xs 2).toInt < 0 ∨ 99 < (xs 2).toInt ∨ (0 ≤ (xs 2).toInt ∧ (xs 2).toInt ≤ 99) by omega) with h2 | h2 | h2
    · have h2 := h2
      exact zo_27_3 xs h0 h1 h2
    · have h2 := h2
      exact zo_27_4 xs h0 h1 h2
    · have h2 := h2
      exact zo_27_5 xs h0 h1 h2
set_option maxRecDepth 1000000 in
set_option maxHeartbeats 4000000 in
theorem zo_28_0 (xs : Nat → Int32) (h0 : xs 0 &&& 63 = 28) (h1 : xs 1 = 0) (h2 : (xs 2).toInt < 0) : zDone xs := by
  refine ⟨zH0, 117, 29934, ?_, by decide, by decide⟩
  refine zT_gos (f := 200000) (pc2 := 37) (ls2 := [(4, .int 0), (3, .ref 232), (2, .ref 162), (1, .ref 0), (0, .ref 11)]) (st2 := [.int (xs 0)]) (h2 := zH0) (dc2 := 117) (ds2 := 29934) 9 rfl ?_
  refine zT_gos (f := 200000) (pc2 := 40) (ls2 := [(4, .int 0), (3, .ref 232), (2, .ref 162), (1, .ref 0), (0, .ref 11)]) (st2 := [.int ((xs 0) &&& (63 : Int32))]) (h2 := zH0) (dc2 := 117) (ds2 := 29934) 2 rfl ?_
  refine zT_val h0 ?_
  refine zT_gos (f := 200000) (pc2 := 1368) (ls2 := [(4, .int 0), (3, .ref 232), (2, .ref 162), (1, .ref 0), (0, .ref 11)]) (st2 := [.int (xs 1), .ref 0]) (h2 := zH0) (dc2 := 117) (ds2 := 29934) 7 rfl ?_
  refine zT_val h1 ?_
  refine zT_gos (f := 200000) (pc2 := 1382) (ls2 := [(4, .int 0), (3, .ref 232), (2, .ref 162), (1, .ref 0), (0, .ref 11)]) (st2 := [.int (xs 2), .int 0, .ref 0]) (h2 := zH0) (dc2 := 117) (ds2 := 29934) 7 rfl ?_
  refine zT_call (v := some (.int (-1))) (h2 := zH0) (d1 := 0) (s1 := 0) rfl rfl ?_ ?_
  · refine zT_gos (f := 200000) (pc2 := 1) (ls2 := [(0, .ref 0), (1, .int 0), (2, .int (xs 2))]) (st2 := [.int (xs 2)]) (h2 := zH0) (dc2 := 0) (ds2 := 0) 1 rfl ?_
    refine zT_if0 true rfl (zc_lt_t (by show ((xs 2) : Int32).toInt < 0; omega)) ?_
    refine zT_here (pc2 := 9) rfl ?_
    refine zT_gos (f := 200000) (pc2 := 10) (ls2 := [(0, .ref 0), (1, .int 0), (2, .int (xs 2))]) (st2 := [.int (-1)]) (h2 := zH0) (dc2 := 0) (ds2 := 0) 1 rfl ?_
    exact zT_ret rfl rfl
  refine zT_here (pc2 := 1385) rfl ?_
  refine zT_gos (f := 200000) (pc2 := 1392) (ls2 := [(4, .int 0), (3, .ref 232), (2, .ref 162), (1, .ref 0), (0, .ref 11)]) (st2 := [.int (xs 1), .ref 162, .int (-1)]) (h2 := zH0) (dc2 := 117) (ds2 := 29934) 6 rfl ?_
  refine zT_val h1 ?_
  refine zT_gos (f := 200000) (pc2 := 1406) (ls2 := [(4, .int 0), (3, .ref 232), (2, .ref 162), (1, .ref 0), (0, .ref 11)]) (st2 := [.int (xs 2), .int 0, .ref 162, .int (-1)]) (h2 := zH0) (dc2 := 117) (ds2 := 29934) 7 rfl ?_
  refine zT_call (v := some (.int (-1))) (h2 := zH0) (d1 := 0) (s1 := 0) rfl rfl ?_ ?_
  · refine zT_gos (f := 200000) (pc2 := 6) (ls2 := [(0, .ref 162), (1, .int 0), (2, .int (xs 2))]) (st2 := [.int (xs 2)]) (h2 := zH0) (dc2 := 0) (ds2 := 0) 4 rfl ?_
    refine zT_if0 true rfl (zc_lt_t (by show ((xs 2) : Int32).toInt < 0; omega)) ?_
    refine zT_here (pc2 := 14) rfl ?_
    refine zT_gos (f := 200000) (pc2 := 15) (ls2 := [(0, .ref 162), (1, .int 0), (2, .int (xs 2))]) (st2 := [.int (-1)]) (h2 := zH0) (dc2 := 0) (ds2 := 0) 1 rfl ?_
    exact zT_ret rfl rfl
  refine zT_here (pc2 := 1409) rfl ?_
  refine zT_gos (f := 200000) (pc2 := 1811) (ls2 := [(4, .int 6), (3, .ref 232), (2, .ref 162), (1, .ref 0), (0, .ref 11)]) (st2 := [.int 1]) (h2 := zH0) (dc2 := 117) (ds2 := 29934) 10 rfl ?_
  exact zT_ret rfl rfl
set_option maxRecDepth 1000000 in
set_option maxHeartbeats 4000000 in
theorem zo_28_1 (xs : Nat → Int32) (h0 : xs 0 &&& 63 = 28) (h1 : xs 1 = 0) (h2 : 2 < (xs 2).toInt) : zDone xs := by
  refine ⟨zH0, 117, 29934, ?_, by decide, by decide⟩
  refine zT_gos (f := 200000) (pc2 := 37) (ls2 := [(4, .int 0), (3, .ref 232), (2, .ref 162), (1, .ref 0), (0, .ref 11)]) (st2 := [.int (xs 0)]) (h2 := zH0) (dc2 := 117) (ds2 := 29934) 9 rfl ?_
  refine zT_gos (f := 200000) (pc2 := 40) (ls2 := [(4, .int 0), (3, .ref 232), (2, .ref 162), (1, .ref 0), (0, .ref 11)]) (st2 := [.int ((xs 0) &&& (63 : Int32))]) (h2 := zH0) (dc2 := 117) (ds2 := 29934) 2 rfl ?_
  refine zT_val h0 ?_
  refine zT_gos (f := 200000) (pc2 := 1368) (ls2 := [(4, .int 0), (3, .ref 232), (2, .ref 162), (1, .ref 0), (0, .ref 11)]) (st2 := [.int (xs 1), .ref 0]) (h2 := zH0) (dc2 := 117) (ds2 := 29934) 7 rfl ?_
  refine zT_val h1 ?_
  refine zT_gos (f := 200000) (pc2 := 1382) (ls2 := [(4, .int 0), (3, .ref 232), (2, .ref 162), (1, .ref 0), (0, .ref 11)]) (st2 := [.int (xs 2), .int 0, .ref 0]) (h2 := zH0) (dc2 := 117) (ds2 := 29934) 7 rfl ?_
  refine zT_call (v := some (.int (-1))) (h2 := zH0) (d1 := 0) (s1 := 0) rfl rfl ?_ ?_
  · refine zT_gos (f := 200000) (pc2 := 1) (ls2 := [(0, .ref 0), (1, .int 0), (2, .int (xs 2))]) (st2 := [.int (xs 2)]) (h2 := zH0) (dc2 := 0) (ds2 := 0) 1 rfl ?_
    refine zT_if0 false rfl (zc_lt_f (by show ((xs 2) : Int32).toInt ≥ 0; omega)) ?_
    refine zT_here (pc2 := 4) rfl ?_
    refine zT_gos (f := 200000) (pc2 := 6) (ls2 := [(0, .ref 0), (1, .int 0), (2, .int (xs 2))]) (st2 := [.int 2, .int (xs 2)]) (h2 := zH0) (dc2 := 0) (ds2 := 0) 2 rfl ?_
    refine zT_if2 false rfl (zc_le_f (by show ((xs 2) : Int32).toInt > 2; omega)) ?_
    refine zT_here (pc2 := 9) rfl ?_
    refine zT_gos (f := 200000) (pc2 := 10) (ls2 := [(0, .ref 0), (1, .int 0), (2, .int (xs 2))]) (st2 := [.int (-1)]) (h2 := zH0) (dc2 := 0) (ds2 := 0) 1 rfl ?_
    exact zT_ret rfl rfl
  refine zT_here (pc2 := 1385) rfl ?_
  refine zT_gos (f := 200000) (pc2 := 1392) (ls2 := [(4, .int 0), (3, .ref 232), (2, .ref 162), (1, .ref 0), (0, .ref 11)]) (st2 := [.int (xs 1), .ref 162, .int (-1)]) (h2 := zH0) (dc2 := 117) (ds2 := 29934) 6 rfl ?_
  refine zT_val h1 ?_
  refine zT_gos (f := 200000) (pc2 := 1406) (ls2 := [(4, .int 0), (3, .ref 232), (2, .ref 162), (1, .ref 0), (0, .ref 11)]) (st2 := [.int (xs 2), .int 0, .ref 162, .int (-1)]) (h2 := zH0) (dc2 := 117) (ds2 := 29934) 7 rfl ?_
  refine zT_call (v := some (.int (-1))) (h2 := zH0) (d1 := 0) (s1 := 0) rfl rfl ?_ ?_
  · refine zT_gos (f := 200000) (pc2 := 6) (ls2 := [(0, .ref 162), (1, .int 0), (2, .int (xs 2))]) (st2 := [.int (xs 2)]) (h2 := zH0) (dc2 := 0) (ds2 := 0) 4 rfl ?_
    refine zT_if0 false rfl (zc_lt_f (by show ((xs 2) : Int32).toInt ≥ 0; omega)) ?_
    refine zT_here (pc2 := 9) rfl ?_
    refine zT_gos (f := 200000) (pc2 := 11) (ls2 := [(0, .ref 162), (1, .int 0), (2, .int (xs 2))]) (st2 := [.int 2, .int (xs 2)]) (h2 := zH0) (dc2 := 0) (ds2 := 0) 2 rfl ?_
    refine zT_if2 false rfl (zc_le_f (by show ((xs 2) : Int32).toInt > 2; omega)) ?_
    refine zT_here (pc2 := 14) rfl ?_
    refine zT_gos (f := 200000) (pc2 := 15) (ls2 := [(0, .ref 162), (1, .int 0), (2, .int (xs 2))]) (st2 := [.int (-1)]) (h2 := zH0) (dc2 := 0) (ds2 := 0) 1 rfl ?_
    exact zT_ret rfl rfl
  refine zT_here (pc2 := 1409) rfl ?_
  refine zT_gos (f := 200000) (pc2 := 1811) (ls2 := [(4, .int 6), (3, .ref 232), (2, .ref 162), (1, .ref 0), (0, .ref 11)]) (st2 := [.int 1]) (h2 := zH0) (dc2 := 117) (ds2 := 29934) 10 rfl ?_
  exact zT_ret rfl rfl
set_option maxRecDepth 1000000 in
theorem zk_o_21 : zT zg0 zF zP 129 0 [(0, .ref 0), (1, .int 0), (2, .int 0)] [] zH0 0 0 (some (.int 0), (((zH0.set 37 (.inr (.inr (.inr (3, [.ref 44, .ref 6, .ref 76, .ref 78, .ref 80, .ref 88, .int 1, .int 0, .ref 96, .int 0, .int 0, .int 0, .ref 98, .ref 100, .int 0]))))).set 40 (.inr (.inr (.inr (6, [.int 1, .long 70644700037184, .int 0, .ref 82, .ref 84, .ref 86]))))).set 43 (.inr (.inl (16, [70644700037184])))), 0, 0) := zclosed (n := 166) (by decide +kernel)
set_option maxRecDepth 1000000 in
theorem zk_o_22 : zT zg0 zF zP 263 0 [(0, .ref 162), (1, .int 0), (2, .int 0)] [] (((zH0.set 37 (.inr (.inr (.inr (3, [.ref 44, .ref 6, .ref 76, .ref 78, .ref 80, .ref 88, .int 1, .int 0, .ref 96, .int 0, .int 0, .int 0, .ref 98, .ref 100, .int 0]))))).set 40 (.inr (.inr (.inr (6, [.int 1, .long 70644700037184, .int 0, .ref 82, .ref 84, .ref 86]))))).set 43 (.inr (.inl (16, [70644700037184])))) 0 0 (some (.int 0), ((((((((zH0.set 37 (.inr (.inr (.inr (3, [.ref 44, .ref 6, .ref 76, .ref 78, .ref 80, .ref 88, .int 1, .int 0, .ref 96, .int 0, .int 0, .int 0, .ref 98, .ref 100, .int 0]))))).set 40 (.inr (.inr (.inr (6, [.int 1, .long 70644700037184, .int 0, .ref 82, .ref 84, .ref 86]))))).set 43 (.inr (.inl (16, [70644700037184])))).set 106 (.inl (2, 2, [1, 0]))).set 105 (.inl (0, 2, [0]))).set 107 (.inl (0, 132, [0, 0, 0, 0, 0, 0]))).set 109 (.inl (0, 22, [0]))).set 112 (.inl (0, 6, [0, 0, 0, 0, 0, 0]))), 0, 0) := zclosed (n := 436) (by decide +kernel)
set_option maxRecDepth 1000000 in
set_option maxHeartbeats 4000000 in
theorem zo_28_2 (xs : Nat → Int32) (h0 : xs 0 &&& 63 = 28) (h1 : xs 1 = 0) (h2 : xs 2 = 0) : zDone xs := by
  refine ⟨((((((((zH0.set 37 (.inr (.inr (.inr (3, [.ref 44, .ref 6, .ref 76, .ref 78, .ref 80, .ref 88, .int 1, .int 0, .ref 96, .int 0, .int 0, .int 0, .ref 98, .ref 100, .int 0]))))).set 40 (.inr (.inr (.inr (6, [.int 1, .long 70644700037184, .int 0, .ref 82, .ref 84, .ref 86]))))).set 43 (.inr (.inl (16, [70644700037184])))).set 106 (.inl (2, 2, [1, 0]))).set 105 (.inl (0, 2, [0]))).set 107 (.inl (0, 132, [0, 0, 0, 0, 0, 0]))).set 109 (.inl (0, 22, [0]))).set 112 (.inl (0, 6, [0, 0, 0, 0, 0, 0]))), 117, 29934, ?_, by decide, by decide⟩
  refine zT_gos (f := 200000) (pc2 := 37) (ls2 := [(4, .int 0), (3, .ref 232), (2, .ref 162), (1, .ref 0), (0, .ref 11)]) (st2 := [.int (xs 0)]) (h2 := zH0) (dc2 := 117) (ds2 := 29934) 9 rfl ?_
  refine zT_gos (f := 200000) (pc2 := 40) (ls2 := [(4, .int 0), (3, .ref 232), (2, .ref 162), (1, .ref 0), (0, .ref 11)]) (st2 := [.int ((xs 0) &&& (63 : Int32))]) (h2 := zH0) (dc2 := 117) (ds2 := 29934) 2 rfl ?_
  refine zT_val h0 ?_
  refine zT_gos (f := 200000) (pc2 := 1368) (ls2 := [(4, .int 0), (3, .ref 232), (2, .ref 162), (1, .ref 0), (0, .ref 11)]) (st2 := [.int (xs 1), .ref 0]) (h2 := zH0) (dc2 := 117) (ds2 := 29934) 7 rfl ?_
  refine zT_val h1 ?_
  refine zT_gos (f := 200000) (pc2 := 1382) (ls2 := [(4, .int 0), (3, .ref 232), (2, .ref 162), (1, .ref 0), (0, .ref 11)]) (st2 := [.int (xs 2), .int 0, .ref 0]) (h2 := zH0) (dc2 := 117) (ds2 := 29934) 7 rfl ?_
  refine zT_val h2 ?_
  refine zT_call rfl rfl (zT_le (zg0_le 6 xs) zk_o_21) ?_
  refine zT_here (pc2 := 1385) rfl ?_
  refine zT_gos (f := 200000) (pc2 := 1392) (ls2 := [(4, .int 0), (3, .ref 232), (2, .ref 162), (1, .ref 0), (0, .ref 11)]) (st2 := [.int (xs 1), .ref 162, .int 0]) (h2 := (((zH0.set 37 (.inr (.inr (.inr (3, [.ref 44, .ref 6, .ref 76, .ref 78, .ref 80, .ref 88, .int 1, .int 0, .ref 96, .int 0, .int 0, .int 0, .ref 98, .ref 100, .int 0]))))).set 40 (.inr (.inr (.inr (6, [.int 1, .long 70644700037184, .int 0, .ref 82, .ref 84, .ref 86]))))).set 43 (.inr (.inl (16, [70644700037184]))))) (dc2 := 117) (ds2 := 29934) 6 rfl ?_
  refine zT_val h1 ?_
  refine zT_gos (f := 200000) (pc2 := 1406) (ls2 := [(4, .int 0), (3, .ref 232), (2, .ref 162), (1, .ref 0), (0, .ref 11)]) (st2 := [.int (xs 2), .int 0, .ref 162, .int 0]) (h2 := (((zH0.set 37 (.inr (.inr (.inr (3, [.ref 44, .ref 6, .ref 76, .ref 78, .ref 80, .ref 88, .int 1, .int 0, .ref 96, .int 0, .int 0, .int 0, .ref 98, .ref 100, .int 0]))))).set 40 (.inr (.inr (.inr (6, [.int 1, .long 70644700037184, .int 0, .ref 82, .ref 84, .ref 86]))))).set 43 (.inr (.inl (16, [70644700037184]))))) (dc2 := 117) (ds2 := 29934) 7 rfl ?_
  refine zT_val h2 ?_
  refine zT_call rfl rfl (zT_le (zg0_le 6 xs) zk_o_22) ?_
  refine zT_here (pc2 := 1409) rfl ?_
  refine zT_gos (f := 200000) (pc2 := 1811) (ls2 := [(4, .int 6), (3, .ref 232), (2, .ref 162), (1, .ref 0), (0, .ref 11)]) (st2 := [.int 1]) (h2 := ((((((((zH0.set 37 (.inr (.inr (.inr (3, [.ref 44, .ref 6, .ref 76, .ref 78, .ref 80, .ref 88, .int 1, .int 0, .ref 96, .int 0, .int 0, .int 0, .ref 98, .ref 100, .int 0]))))).set 40 (.inr (.inr (.inr (6, [.int 1, .long 70644700037184, .int 0, .ref 82, .ref 84, .ref 86]))))).set 43 (.inr (.inl (16, [70644700037184])))).set 106 (.inl (2, 2, [1, 0]))).set 105 (.inl (0, 2, [0]))).set 107 (.inl (0, 132, [0, 0, 0, 0, 0, 0]))).set 109 (.inl (0, 22, [0]))).set 112 (.inl (0, 6, [0, 0, 0, 0, 0, 0])))) (dc2 := 117) (ds2 := 29934) 10 rfl ?_
  exact zT_ret rfl rfl
set_option maxRecDepth 1000000 in
theorem zk_o_23 : zT zg0 zF zP 129 0 [(0, .ref 0), (1, .int 0), (2, .int 1)] [] zH0 0 0 (some (.int 0), (((zH0.set 37 (.inr (.inr (.inr (3, [.ref 44, .ref 6, .ref 76, .ref 78, .ref 80, .ref 88, .int 1, .int 0, .ref 96, .int 0, .int 0, .int 0, .ref 98, .ref 100, .int 0]))))).set 40 (.inr (.inr (.inr (6, [.int 1, .long 70644700037184, .int 0, .ref 82, .ref 84, .ref 86]))))).set 43 (.inr (.inl (16, [70644700037184])))), 0, 0) := zclosed (n := 166) (by decide +kernel)
set_option maxRecDepth 1000000 in
theorem zk_o_24 : zT zg0 zF zP 263 0 [(0, .ref 162), (1, .int 0), (2, .int 1)] [] (((zH0.set 37 (.inr (.inr (.inr (3, [.ref 44, .ref 6, .ref 76, .ref 78, .ref 80, .ref 88, .int 1, .int 0, .ref 96, .int 0, .int 0, .int 0, .ref 98, .ref 100, .int 0]))))).set 40 (.inr (.inr (.inr (6, [.int 1, .long 70644700037184, .int 0, .ref 82, .ref 84, .ref 86]))))).set 43 (.inr (.inl (16, [70644700037184])))) 0 0 (some (.int 0), ((((((((zH0.set 37 (.inr (.inr (.inr (3, [.ref 44, .ref 6, .ref 76, .ref 78, .ref 80, .ref 88, .int 1, .int 0, .ref 96, .int 0, .int 0, .int 0, .ref 98, .ref 100, .int 0]))))).set 40 (.inr (.inr (.inr (6, [.int 1, .long 70644700037184, .int 0, .ref 82, .ref 84, .ref 86]))))).set 43 (.inr (.inl (16, [70644700037184])))).set 106 (.inl (2, 2, [1, 0]))).set 105 (.inl (0, 2, [0]))).set 107 (.inl (0, 132, [0, 0, 0, 0, 0, 0]))).set 109 (.inl (0, 22, [0]))).set 112 (.inl (0, 6, [0, 0, 0, 0, 0, 0]))), 0, 0) := zclosed (n := 435) (by decide +kernel)
set_option maxRecDepth 1000000 in
set_option maxHeartbeats 4000000 in
theorem zo_28_3 (xs : Nat → Int32) (h0 : xs 0 &&& 63 = 28) (h1 : xs 1 = 0) (h2 : xs 2 = 1) : zDone xs := by
  refine ⟨((((((((zH0.set 37 (.inr (.inr (.inr (3, [.ref 44, .ref 6, .ref 76, .ref 78, .ref 80, .ref 88, .int 1, .int 0, .ref 96, .int 0, .int 0, .int 0, .ref 98, .ref 100, .int 0]))))).set 40 (.inr (.inr (.inr (6, [.int 1, .long 70644700037184, .int 0, .ref 82, .ref 84, .ref 86]))))).set 43 (.inr (.inl (16, [70644700037184])))).set 106 (.inl (2, 2, [1, 0]))).set 105 (.inl (0, 2, [0]))).set 107 (.inl (0, 132, [0, 0, 0, 0, 0, 0]))).set 109 (.inl (0, 22, [0]))).set 112 (.inl (0, 6, [0, 0, 0, 0, 0, 0]))), 117, 29934, ?_, by decide, by decide⟩
  refine zT_gos (f := 200000) (pc2 := 37) (ls2 := [(4, .int 0), (3, .ref 232), (2, .ref 162), (1, .ref 0), (0, .ref 11)]) (st2 := [.int (xs 0)]) (h2 := zH0) (dc2 := 117) (ds2 := 29934) 9 rfl ?_
  refine zT_gos (f := 200000) (pc2 := 40) (ls2 := [(4, .int 0), (3, .ref 232), (2, .ref 162), (1, .ref 0), (0, .ref 11)]) (st2 := [.int ((xs 0) &&& (63 : Int32))]) (h2 := zH0) (dc2 := 117) (ds2 := 29934) 2 rfl ?_
  refine zT_val h0 ?_
  refine zT_gos (f := 200000) (pc2 := 1368) (ls2 := [(4, .int 0), (3, .ref 232), (2, .ref 162), (1, .ref 0), (0, .ref 11)]) (st2 := [.int (xs 1), .ref 0]) (h2 := zH0) (dc2 := 117) (ds2 := 29934) 7 rfl ?_
  refine zT_val h1 ?_
  refine zT_gos (f := 200000) (pc2 := 1382) (ls2 := [(4, .int 0), (3, .ref 232), (2, .ref 162), (1, .ref 0), (0, .ref 11)]) (st2 := [.int (xs 2), .int 0, .ref 0]) (h2 := zH0) (dc2 := 117) (ds2 := 29934) 7 rfl ?_
  refine zT_val h2 ?_
  refine zT_call rfl rfl (zT_le (zg0_le 6 xs) zk_o_23) ?_
  refine zT_here (pc2 := 1385) rfl ?_
  refine zT_gos (f := 200000) (pc2 := 1392) (ls2 := [(4, .int 0), (3, .ref 232), (2, .ref 162), (1, .ref 0), (0, .ref 11)]) (st2 := [.int (xs 1), .ref 162, .int 0]) (h2 := (((zH0.set 37 (.inr (.inr (.inr (3, [.ref 44, .ref 6, .ref 76, .ref 78, .ref 80, .ref 88, .int 1, .int 0, .ref 96, .int 0, .int 0, .int 0, .ref 98, .ref 100, .int 0]))))).set 40 (.inr (.inr (.inr (6, [.int 1, .long 70644700037184, .int 0, .ref 82, .ref 84, .ref 86]))))).set 43 (.inr (.inl (16, [70644700037184]))))) (dc2 := 117) (ds2 := 29934) 6 rfl ?_
  refine zT_val h1 ?_
  refine zT_gos (f := 200000) (pc2 := 1406) (ls2 := [(4, .int 0), (3, .ref 232), (2, .ref 162), (1, .ref 0), (0, .ref 11)]) (st2 := [.int (xs 2), .int 0, .ref 162, .int 0]) (h2 := (((zH0.set 37 (.inr (.inr (.inr (3, [.ref 44, .ref 6, .ref 76, .ref 78, .ref 80, .ref 88, .int 1, .int 0, .ref 96, .int 0, .int 0, .int 0, .ref 98, .ref 100, .int 0]))))).set 40 (.inr (.inr (.inr (6, [.int 1, .long 70644700037184, .int 0, .ref 82, .ref 84, .ref 86]))))).set 43 (.inr (.inl (16, [70644700037184]))))) (dc2 := 117) (ds2 := 29934) 7 rfl ?_
  refine zT_val h2 ?_
  refine zT_call rfl rfl (zT_le (zg0_le 6 xs) zk_o_24) ?_
  refine zT_here (pc2 := 1409) rfl ?_
  refine zT_gos (f := 200000) (pc2 := 1811) (ls2 := [(4, .int 6), (3, .ref 232), (2, .ref 162), (1, .ref 0), (0, .ref 11)]) (st2 := [.int 1]) (h2 := ((((((((zH0.set 37 (.inr (.inr (.inr (3, [.ref 44, .ref 6, .ref 76, .ref 78, .ref 80, .ref 88, .int 1, .int 0, .ref 96, .int 0, .int 0, .int 0, .ref 98, .ref 100, .int 0]))))).set 40 (.inr (.inr (.inr (6, [.int 1, .long 70644700037184, .int 0, .ref 82, .ref 84, .ref 86]))))).set 43 (.inr (.inl (16, [70644700037184])))).set 106 (.inl (2, 2, [1, 0]))).set 105 (.inl (0, 2, [0]))).set 107 (.inl (0, 132, [0, 0, 0, 0, 0, 0]))).set 109 (.inl (0, 22, [0]))).set 112 (.inl (0, 6, [0, 0, 0, 0, 0, 0])))) (dc2 := 117) (ds2 := 29934) 10 rfl ?_
  exact zT_ret rfl rfl
set_option maxRecDepth 1000000 in
theorem zk_o_25 : zT zg0 zF zP 129 0 [(0, .ref 0), (1, .int 0), (2, .int 2)] [] zH0 0 0 (some (.int 0), (((zH0.set 37 (.inr (.inr (.inr (3, [.ref 44, .ref 6, .ref 76, .ref 78, .ref 80, .ref 88, .int 1, .int 0, .ref 96, .int 0, .int 0, .int 0, .ref 98, .ref 100, .int 0]))))).set 40 (.inr (.inr (.inr (6, [.int 1, .long 70644700037184, .int 0, .ref 82, .ref 84, .ref 86]))))).set 43 (.inr (.inl (16, [70644700037184])))), 0, 0) := zclosed (n := 123) (by decide +kernel)
set_option maxRecDepth 1000000 in
theorem zk_o_26 : zT zg0 zF zP 263 0 [(0, .ref 162), (1, .int 0), (2, .int 2)] [] (((zH0.set 37 (.inr (.inr (.inr (3, [.ref 44, .ref 6, .ref 76, .ref 78, .ref 80, .ref 88, .int 1, .int 0, .ref 96, .int 0, .int 0, .int 0, .ref 98, .ref 100, .int 0]))))).set 40 (.inr (.inr (.inr (6, [.int 1, .long 70644700037184, .int 0, .ref 82, .ref 84, .ref 86]))))).set 43 (.inr (.inl (16, [70644700037184])))) 0 0 (some (.int 0), (((((((zH0.set 37 (.inr (.inr (.inr (3, [.ref 44, .ref 6, .ref 76, .ref 78, .ref 80, .ref 88, .int 1, .int 0, .ref 96, .int 0, .int 0, .int 0, .ref 98, .ref 100, .int 0]))))).set 40 (.inr (.inr (.inr (6, [.int 1, .long 70644700037184, .int 0, .ref 82, .ref 84, .ref 86]))))).set 43 (.inr (.inl (16, [70644700037184])))).set 106 (.inl (2, 2, [1, 0]))).set 105 (.inl (0, 2, [0]))).set 107 (.inl (0, 132, [0, 0, 0, 0, 0, 0]))).set 109 (.inl (0, 22, [0]))), 0, 0) := zclosed (n := 218) (by decide +kernel)
set_option maxRecDepth 1000000 in
set_option maxHeartbeats 4000000 in
theorem zo_28_4 (xs : Nat → Int32) (h0 : xs 0 &&& 63 = 28) (h1 : xs 1 = 0) (h2 : xs 2 = 2) : zDone xs := by
  refine ⟨(((((((zH0.set 37 (.inr (.inr (.inr (3, [.ref 44, .ref 6, .ref 76, .ref 78, .ref 80, .ref 88, .int 1, .int 0, .ref 96, .int 0, .int 0, .int 0, .ref 98, .ref 100, .int 0]))))).set 40 (.inr (.inr (.inr (6, [.int 1, .long 70644700037184, .int 0, .ref 82, .ref 84, .ref 86]))))).set 43 (.inr (.inl (16, [70644700037184])))).set 106 (.inl (2, 2, [1, 0]))).set 105 (.inl (0, 2, [0]))).set 107 (.inl (0, 132, [0, 0, 0, 0, 0, 0]))).set 109 (.inl (0, 22, [0]))), 117, 29934, ?_, by decide, by decide⟩
  refine zT_gos (f := 200000) (pc2 := 37) (ls2 := [(4, .int 0), (3, .ref 232), (2, .ref 162), (1, .ref 0), (0, .ref 11)]) (st2 := [.int (xs 0)]) (h2 := zH0) (dc2 := 117) (ds2 := 29934) 9 rfl ?_
  refine zT_gos (f := 200000) (pc2 := 40) (ls2 := [(4, .int 0), (3, .ref 232), (2, .ref 162), (1, .ref 0), (0, .ref 11)]) (st2 := [.int ((xs 0) &&& (63 : Int32))]) (h2 := zH0) (dc2 := 117) (ds2 := 29934) 2 rfl ?_
  refine zT_val h0 ?_
  refine zT_gos (f := 200000) (pc2 := 1368) (ls2 := [(4, .int 0), (3, .ref 232), (2, .ref 162), (1, .ref 0), (0, .ref 11)]) (st2 := [.int (xs 1), .ref 0]) (h2 := zH0) (dc2 := 117) (ds2 := 29934) 7 rfl ?_
  refine zT_val h1 ?_
  refine zT_gos (f := 200000) (pc2 := 1382) (ls2 := [(4, .int 0), (3, .ref 232), (2, .ref 162), (1, .ref 0), (0, .ref 11)]) (st2 := [.int (xs 2), .int 0, .ref 0]) (h2 := zH0) (dc2 := 117) (ds2 := 29934) 7 rfl ?_
  refine zT_val h2 ?_
  refine zT_call rfl rfl (zT_le (zg0_le 6 xs) zk_o_25) ?_
  refine zT_here (pc2 := 1385) rfl ?_
  refine zT_gos (f := 200000) (pc2 := 1392) (ls2 := [(4, .int 0), (3, .ref 232), (2, .ref 162), (1, .ref 0), (0, .ref 11)]) (st2 := [.int (xs 1), .ref 162, .int 0]) (h2 := (((zH0.set 37 (.inr (.inr (.inr (3, [.ref 44, .ref 6, .ref 76, .ref 78, .ref 80, .ref 88, .int 1, .int 0, .ref 96, .int 0, .int 0, .int 0, .ref 98, .ref 100, .int 0]))))).set 40 (.inr (.inr (.inr (6, [.int 1, .long 70644700037184, .int 0, .ref 82, .ref 84, .ref 86]))))).set 43 (.inr (.inl (16, [70644700037184]))))) (dc2 := 117) (ds2 := 29934) 6 rfl ?_
  refine zT_val h1 ?_
  refine zT_gos (f := 200000) (pc2 := 1406) (ls2 := [(4, .int 0), (3, .ref 232), (2, .ref 162), (1, .ref 0), (0, .ref 11)]) (st2 := [.int (xs 2), .int 0, .ref 162, .int 0]) (h2 := (((zH0.set 37 (.inr (.inr (.inr (3, [.ref 44, .ref 6, .ref 76, .ref 78, .ref 80, .ref 88, .int 1, .int 0, .ref 96, .int 0, .int 0, .int 0, .ref 98, .ref 100, .int 0]))))).set 40 (.inr (.inr (.inr (6, [.int 1, .long 70644700037184, .int 0, .ref 82, .ref 84, .ref 86]))))).set 43 (.inr (.inl (16, [70644700037184]))))) (dc2 := 117) (ds2 := 29934) 7 rfl ?_
  refine zT_val h2 ?_
  refine zT_call rfl rfl (zT_le (zg0_le 6 xs) zk_o_26) ?_
  refine zT_here (pc2 := 1409) rfl ?_
  refine zT_gos (f := 200000) (pc2 := 1811) (ls2 := [(4, .int 6), (3, .ref 232), (2, .ref 162), (1, .ref 0), (0, .ref 11)]) (st2 := [.int 1]) (h2 := (((((((zH0.set 37 (.inr (.inr (.inr (3, [.ref 44, .ref 6, .ref 76, .ref 78, .ref 80, .ref 88, .int 1, .int 0, .ref 96, .int 0, .int 0, .int 0, .ref 98, .ref 100, .int 0]))))).set 40 (.inr (.inr (.inr (6, [.int 1, .long 70644700037184, .int 0, .ref 82, .ref 84, .ref 86]))))).set 43 (.inr (.inl (16, [70644700037184])))).set 106 (.inl (2, 2, [1, 0]))).set 105 (.inl (0, 2, [0]))).set 107 (.inl (0, 132, [0, 0, 0, 0, 0, 0]))).set 109 (.inl (0, 22, [0])))) (dc2 := 117) (ds2 := 29934) 10 rfl ?_
  exact zT_ret rfl rfl
set_option maxRecDepth 1000000 in
set_option maxHeartbeats 4000000 in
theorem zo_28_5 (xs : Nat → Int32) (h0 : xs 0 &&& 63 = 28) (h1 : (xs 1).toInt ≠ 0) (h2 : (xs 2).toInt < 0) : zDone xs := by
  refine ⟨zH0, 117, 29934, ?_, by decide, by decide⟩
  refine zT_gos (f := 200000) (pc2 := 37) (ls2 := [(4, .int 0), (3, .ref 232), (2, .ref 162), (1, .ref 0), (0, .ref 11)]) (st2 := [.int (xs 0)]) (h2 := zH0) (dc2 := 117) (ds2 := 29934) 9 rfl ?_
  refine zT_gos (f := 200000) (pc2 := 40) (ls2 := [(4, .int 0), (3, .ref 232), (2, .ref 162), (1, .ref 0), (0, .ref 11)]) (st2 := [.int ((xs 0) &&& (63 : Int32))]) (h2 := zH0) (dc2 := 117) (ds2 := 29934) 2 rfl ?_
  refine zT_val h0 ?_
  refine zT_gos (f := 200000) (pc2 := 1368) (ls2 := [(4, .int 0), (3, .ref 232), (2, .ref 162), (1, .ref 0), (0, .ref 11)]) (st2 := [.int (xs 1), .ref 0]) (h2 := zH0) (dc2 := 117) (ds2 := 29934) 7 rfl ?_
  refine zT_if0 false rfl (zc_eq_f (by show ((xs 1) : Int32).toInt ≠ 0; omega)) ?_
  refine zT_here (pc2 := 1371) rfl ?_
  refine zT_gos (f := 200000) (pc2 := 1382) (ls2 := [(4, .int 0), (3, .ref 232), (2, .ref 162), (1, .ref 0), (0, .ref 11)]) (st2 := [.int (xs 2), .int 1, .ref 0]) (h2 := zH0) (dc2 := 117) (ds2 := 29934) 7 rfl ?_
  refine zT_call (v := some (.int (-1))) (h2 := zH0) (d1 := 0) (s1 := 0) rfl rfl ?_ ?_
  · refine zT_gos (f := 200000) (pc2 := 1) (ls2 := [(0, .ref 0), (1, .int 1), (2, .int (xs 2))]) (st2 := [.int (xs 2)]) (h2 := zH0) (dc2 := 0) (ds2 := 0) 1 rfl ?_
    refine zT_if0 true rfl (zc_lt_t (by show ((xs 2) : Int32).toInt < 0; omega)) ?_
    refine zT_here (pc2 := 9) rfl ?_
    refine zT_gos (f := 200000) (pc2 := 10) (ls2 := [(0, .ref 0), (1, .int 1), (2, .int (xs 2))]) (st2 := [.int (-1)]) (h2 := zH0) (dc2 := 0) (ds2 := 0) 1 rfl ?_
    exact zT_ret rfl rfl
  refine zT_here (pc2 := 1385) rfl ?_
  refine zT_gos (f := 200000) (pc2 := 1392) (ls2 := [(4, .int 0), (3, .ref 232), (2, .ref 162), (1, .ref 0), (0, .ref 11)]) (st2 := [.int (xs 1), .ref 162, .int (-1)]) (h2 := zH0) (dc2 := 117) (ds2 := 29934) 6 rfl ?_
  refine zT_if0 false rfl (zc_eq_f (by show ((xs 1) : Int32).toInt ≠ 0; omega)) ?_
  refine zT_here (pc2 := 1395) rfl ?_
  refine zT_gos (f := 200000) (pc2 := 1406) (ls2 := [(4, .int 0), (3, .ref 232), (2, .ref 162), (1, .ref 0), (0, .ref 11)]) (st2 := [.int (xs 2), .int 1, .ref 162, .int (-1)]) (h2 := zH0) (dc2 := 117) (ds2 := 29934) 7 rfl ?_
  refine zT_call (v := some (.int (-1))) (h2 := zH0) (d1 := 0) (s1 := 0) rfl rfl ?_ ?_
  · refine zT_gos (f := 200000) (pc2 := 6) (ls2 := [(0, .ref 162), (1, .int 1), (2, .int (xs 2))]) (st2 := [.int (xs 2)]) (h2 := zH0) (dc2 := 0) (ds2 := 0) 4 rfl ?_
    refine zT_if0 true rfl (zc_lt_t (by show ((xs 2) : Int32).toInt < 0; omega)) ?_
    refine zT_here (pc2 := 14) rfl ?_
    refine zT_gos (f := 200000) (pc2 := 15) (ls2 := [(0, .ref 162), (1, .int 1), (2, .int (xs 2))]) (st2 := [.int (-1)]) (h2 := zH0) (dc2 := 0) (ds2 := 0) 1 rfl ?_
    exact zT_ret rfl rfl
  refine zT_here (pc2 := 1409) rfl ?_
  refine zT_gos (f := 200000) (pc2 := 1811) (ls2 := [(4, .int 6), (3, .ref 232), (2, .ref 162), (1, .ref 0), (0, .ref 11)]) (st2 := [.int 1]) (h2 := zH0) (dc2 := 117) (ds2 := 29934) 10 rfl ?_
  exact zT_ret rfl rfl
set_option maxRecDepth 1000000 in
set_option maxHeartbeats 4000000 in
theorem zo_28_6 (xs : Nat → Int32) (h0 : xs 0 &&& 63 = 28) (h1 : (xs 1).toInt ≠ 0) (h2 : 2 < (xs 2).toInt) : zDone xs := by
  refine ⟨zH0, 117, 29934, ?_, by decide, by decide⟩
  refine zT_gos (f := 200000) (pc2 := 37) (ls2 := [(4, .int 0), (3, .ref 232), (2, .ref 162), (1, .ref 0), (0, .ref 11)]) (st2 := [.int (xs 0)]) (h2 := zH0) (dc2 := 117) (ds2 := 29934) 9 rfl ?_
  refine zT_gos (f := 200000) (pc2 := 40) (ls2 := [(4, .int 0), (3, .ref 232), (2, .ref 162), (1, .ref 0), (0, .ref 11)]) (st2 := [.int ((xs 0) &&& (63 : Int32))]) (h2 := zH0) (dc2 := 117) (ds2 := 29934) 2 rfl ?_
  refine zT_val h0 ?_
  refine zT_gos (f := 200000) (pc2 := 1368) (ls2 := [(4, .int 0), (3, .ref 232), (2, .ref 162), (1, .ref 0), (0, .ref 11)]) (st2 := [.int (xs 1), .ref 0]) (h2 := zH0) (dc2 := 117) (ds2 := 29934) 7 rfl ?_
  refine zT_if0 false rfl (zc_eq_f (by show ((xs 1) : Int32).toInt ≠ 0; omega)) ?_
  refine zT_here (pc2 := 1371) rfl ?_
  refine zT_gos (f := 200000) (pc2 := 1382) (ls2 := [(4, .int 0), (3, .ref 232), (2, .ref 162), (1, .ref 0), (0, .ref 11)]) (st2 := [.int (xs 2), .int 1, .ref 0]) (h2 := zH0) (dc2 := 117) (ds2 := 29934) 7 rfl ?_
  refine zT_call (v := some (.int (-1))) (h2 := zH0) (d1 := 0) (s1 := 0) rfl rfl ?_ ?_
  · refine zT_gos (f := 200000) (pc2 := 1) (ls2 := [(0, .ref 0), (1, .int 1), (2, .int (xs 2))]) (st2 := [.int (xs 2)]) (h2 := zH0) (dc2 := 0) (ds2 := 0) 1 rfl ?_
    refine zT_if0 false rfl (zc_lt_f (by show ((xs 2) : Int32).toInt ≥ 0; omega)) ?_
    refine zT_here (pc2 := 4) rfl ?_
    refine zT_gos (f := 200000) (pc2 := 6) (ls2 := [(0, .ref 0), (1, .int 1), (2, .int (xs 2))]) (st2 := [.int 2, .int (xs 2)]) (h2 := zH0) (dc2 := 0) (ds2 := 0) 2 rfl ?_
    refine zT_if2 false rfl (zc_le_f (by show ((xs 2) : Int32).toInt > 2; omega)) ?_
    refine zT_here (pc2 := 9) rfl ?_
    refine zT_gos (f := 200000) (pc2 := 10) (ls2 := [(0, .ref 0), (1, .int 1), (2, .int (xs 2))]) (st2 := [.int (-1)]) (h2 := zH0) (dc2 := 0) (ds2 := 0) 1 rfl ?_
    exact zT_ret rfl rfl
  refine zT_here (pc2 := 1385) rfl ?_
  refine zT_gos (f := 200000) (pc2 := 1392) (ls2 := [(4, .int 0), (3, .ref 232), (2, .ref 162), (1, .ref 0), (0, .ref 11)]) (st2 := [.int (xs 1), .ref 162, .int (-1)]) (h2 := zH0) (dc2 := 117) (ds2 := 29934) 6 rfl ?_
  refine zT_if0 false rfl (zc_eq_f (by show ((xs 1) : Int32).toInt ≠ 0; omega)) ?_
  refine zT_here (pc2 := 1395) rfl ?_
  refine zT_gos (f := 200000) (pc2 := 1406) (ls2 := [(4, .int 0), (3, .ref 232), (2, .ref 162), (1, .ref 0), (0, .ref 11)]) (st2 := [.int (xs 2), .int 1, .ref 162, .int (-1)]) (h2 := zH0) (dc2 := 117) (ds2 := 29934) 7 rfl ?_
  refine zT_call (v := some (.int (-1))) (h2 := zH0) (d1 := 0) (s1 := 0) rfl rfl ?_ ?_
  · refine zT_gos (f := 200000) (pc2 := 6) (ls2 := [(0, .ref 162), (1, .int 1), (2, .int (xs 2))]) (st2 := [.int (xs 2)]) (h2 := zH0) (dc2 := 0) (ds2 := 0) 4 rfl ?_
    refine zT_if0 false rfl (zc_lt_f (by show ((xs 2) : Int32).toInt ≥ 0; omega)) ?_
    refine zT_here (pc2 := 9) rfl ?_
    refine zT_gos (f := 200000) (pc2 := 11) (ls2 := [(0, .ref 162), (1, .int 1), (2, .int (xs 2))]) (st2 := [.int 2, .int (xs 2)]) (h2 := zH0) (dc2 := 0) (ds2 := 0) 2 rfl ?_
    refine zT_if2 false rfl (zc_le_f (by show ((xs 2) : Int32).toInt > 2; omega)) ?_
    refine zT_here (pc2 := 14) rfl ?_
    refine zT_gos (f := 200000) (pc2 := 15) (ls2 := [(0, .ref 162), (1, .int 1), (2, .int (xs 2))]) (st2 := [.int (-1)]) (h2 := zH0) (dc2 := 0) (ds2 := 0) 1 rfl ?_
    exact zT_ret rfl rfl
  refine zT_here (pc2 := 1409) rfl ?_
  refine zT_gos (f := 200000) (pc2 := 1811) (ls2 := [(4, .int 6), (3, .ref 232), (2, .ref 162), (1, .ref 0), (0, .ref 11)]) (st2 := [.int 1]) (h2 := zH0) (dc2 := 117) (ds2 := 29934) 10 rfl ?_
  exact zT_ret rfl rfl
set_option maxRecDepth 1000000 in
theorem zk_o_27 : zT zg0 zF zP 129 0 [(0, .ref 0), (1, .int 1), (2, .int 0)] [] zH0 0 0 (some (.int 0), (((zH0.set 37 (.inr (.inr (.inr (3, [.ref 44, .ref 6, .ref 76, .ref 78, .ref 80, .ref 88, .int 1, .int 0, .ref 96, .int 0, .int 0, .int 0, .ref 98, .ref 100, .int 0]))))).set 44 (.inr (.inr (.inr (6, [.int 1, .long 70644700037184, .int 0, .ref 90, .ref 92, .ref 94]))))).set 47 (.inr (.inl (16, [70644700037184])))), 0, 0) := zclosed (n := 167) (by decide +kernel)
set_option maxRecDepth 1000000 in
theorem zk_o_28 : zT zg0 zF zP 263 0 [(0, .ref 162), (1, .int 1), (2, .int 0)] [] (((zH0.set 37 (.inr (.inr (.inr (3, [.ref 44, .ref 6, .ref 76, .ref 78, .ref 80, .ref 88, .int 1, .int 0, .ref 96, .int 0, .int 0, .int 0, .ref 98, .ref 100, .int 0]))))).set 44 (.inr (.inr (.inr (6, [.int 1, .long 70644700037184, .int 0, .ref 90, .ref 92, .ref 94]))))).set 47 (.inr (.inl (16, [70644700037184])))) 0 0 (some (.int 0), ((((((((zH0.set 37 (.inr (.inr (.inr (3, [.ref 44, .ref 6, .ref 76, .ref 78, .ref 80, .ref 88, .int 1, .int 0, .ref 96, .int 0, .int 0, .int 0, .ref 98, .ref 100, .int 0]))))).set 44 (.inr (.inr (.inr (6, [.int 1, .long 70644700037184, .int 0, .ref 90, .ref 92, .ref 94]))))).set 47 (.inr (.inl (16, [70644700037184])))).set 106 (.inl (2, 2, [0, 1]))).set 105 (.inl (0, 2, [0, 0]))).set 107 (.inl (0, 132, [0, 0, 0, 0, 0, 0, 0, 0, 0, 0, 0, 0, 0, 0, 0, 0, 0, 0, 0, 0, 0, 0, 0, 0, 0, 0, 0, 0, 0, 0, 0, 0, 0, 0, 0, 0, 0, 0, 0, 0, 0, 0, 0, 0, 0, 0, 0, 0, 0, 0, 0, 0, 0, 0, 0, 0, 0, 0, 0, 0, 0, 0, 0, 0, 0, 0, 0, 0, 0, 0, 0, 0]))).set 109 (.inl (0, 22, [0, 0, 0, 0, 0, 0, 0, 0, 0, 0, 0, 0]))).set 112 (.inl (0, 6, [0, 0, 0, 0, 0, 0]))), 0, 0) := zclosed (n := 439) (by decide +kernel)
set_option maxRecDepth 1000000 in
set_option maxHeartbeats 4000000 in
theorem zo_28_7 (xs : Nat → Int32) (h0 : xs 0 &&& 63 = 28) (h1 : (xs 1).toInt ≠ 0) (h2 : xs 2 = 0) : zDone xs := by
  refine ⟨((((((((zH0.set 37 (.inr (.inr (.inr (3, [.ref 44, .ref 6, .ref 76, .ref 78, .ref 80, .ref 88, .int 1, .int 0, .ref 96, .int 0, .int 0, .int 0, .ref 98, .ref 100, .int 0]))))).set 44 (.inr (.inr (.inr (6, [.int 1, .long 70644700037184, .int 0, .ref 90, .ref 92, .ref 94]))))).set 47 (.inr (.inl (16, [70644700037184])))).set 106 (.inl (2, 2, [0, 1]))).set 105 (.inl (0, 2, [0, 0]))).set 107 (.inl (0, 132, [0, 0, 0, 0, 0, 0, 0, 0, 0, 0, 0, 0, 0, 0, 0, 0, 0, 0, 0, 0, 0, 0, 0, 0, 0, 0, 0, 0, 0, 0, 0, 0, 0, 0, 0, 0, 0, 0, 0, 0, 0, 0, 0, 0, 0, 0, 0, 0, 0, 0, 0, 0, 0, 0, 0, 0, 0, 0, 0, 0, 0, 0, 0, 0, 0, 0, 0, 0, 0, 0, 0, 0]))).set 109 (.inl (0, 22, [0, 0, 0, 0, 0, 0, 0, 0, 0, 0, 0, 0]))).set 112 (.inl (0, 6, [0, 0, 0, 0, 0, 0]))), 117, 29934, ?_, by decide, by decide⟩
  refine zT_gos (f := 200000) (pc2 := 37) (ls2 := [(4, .int 0), (3, .ref 232), (2, .ref 162), (1, .ref 0), (0, .ref 11)]) (st2 := [.int (xs 0)]) (h2 := zH0) (dc2 := 117) (ds2 := 29934) 9 rfl ?_
  refine zT_gos (f := 200000) (pc2 := 40) (ls2 := [(4, .int 0), (3, .ref 232), (2, .ref 162), (1, .ref 0), (0, .ref 11)]) (st2 := [.int ((xs 0) &&& (63 : Int32))]) (h2 := zH0) (dc2 := 117) (ds2 := 29934) 2 rfl ?_
  refine zT_val h0 ?_
  refine zT_gos (f := 200000) (pc2 := 1368) (ls2 := [(4, .int 0), (3, .ref 232), (2, .ref 162), (1, .ref 0), (0, .ref 11)]) (st2 := [.int (xs 1), .ref 0]) (h2 := zH0) (dc2 := 117) (ds2 := 29934) 7 rfl ?_
  refine zT_if0 false rfl (zc_eq_f (by show ((xs 1) : Int32).toInt ≠ 0; omega)) ?_
  refine zT_here (pc2 := 1371) rfl ?_
  refine zT_gos (f := 200000) (pc2 := 1382) (ls2 := [(4, .int 0), (3, .ref 232), (2, .ref 162), (1, .ref 0), (0, .ref 11)]) (st2 := [.int (xs 2), .int 1, .ref 0]) (h2 := zH0) (dc2 := 117) (ds2 := 29934) 7 rfl ?_
  refine zT_val h2 ?_
  refine zT_call rfl rfl (zT_le (zg0_le 6 xs) zk_o_27) ?_
  refine zT_here (pc2 := 1385) rfl ?_
  refine zT_gos (f := 200000) (pc2 := 1392) (ls2 := [(4, .int 0), (3, .ref 232), (2, .ref 162), (1, .ref 0), (0, .ref 11)]) (st2 := [.int (xs 1), .ref 162, .int 0]) (h2 := (((zH0.set 37 (.inr (.inr (.inr (3, [.ref 44, .ref 6, .ref 76, .ref 78, .ref 80, .ref 88, .int 1, .int 0, .ref 96, .int 0, .int 0, .int 0, .ref 98, .ref 100, .int 0]))))).set 44 (.inr (.inr (.inr (6, [.int 1, .long 70644700037184, .int 0, .ref 90, .ref 92, .ref 94]))))).set 47 (.inr (.inl (16, [70644700037184]))))) (dc2 := 117) (ds2 := 29934) 6 rfl ?_
  refine zT_if0 false rfl (zc_eq_f (by show ((xs 1) : Int32).toInt ≠ 0; omega)) ?_
  refine zT_here (pc2 := 1395) rfl ?_
  refine zT_gos (f := 200000) (pc2 := 1406) (ls2 := [(4, .int 0), (3, .ref 232), (2, .ref 162), (1, .ref 0), (0, .ref 11)]) (st2 := [.int (xs 2), .int 1, .ref 162, .int 0]) (h2 := (((zH0.set 37 (.inr (.inr (.inr (3, [.ref 44, .ref 6, .ref 76, .ref 78, .ref 80, .ref 88, .int 1, .int 0, .ref 96, .int 0, .int 0, .int 0, .ref 98, .ref 100, .int 0]))))).set 44 (.inr (.inr (.inr (6, [.int 1, .long 70644700037184, .int 0, .ref 90, .ref 92, .ref 94]))))).set 47 (.inr (.inl (16, [70644700037184]))))) (dc2 := 117) (ds2 := 29934) 7 rfl ?_
  refine zT_val h2 ?_
  refine zT_call rfl rfl (zT_le (zg0_le 6 xs) zk_o_28) ?_
  refine zT_here (pc2 := 1409) rfl ?_
  refine zT_gos (f := 200000) (pc2 := 1811) (ls2 := [(4, .int 6), (3, .ref 232), (2, .ref 162), (1, .ref 0), (0, .ref 11)]) (st2 := [.int 1]) (h2 := ((((((((zH0.set 37 (.inr (.inr (.inr (3, [.ref 44, .ref 6, .ref 76, .ref 78, .ref 80, .ref 88, .int 1, .int 0, .ref 96, .int 0, .int 0, .int 0, .ref 98, .ref 100, .int 0]))))).set 44 (.inr (.inr (.inr (6, [.int 1, .long 70644700037184, .int 0, .ref 90, .ref 92, .ref 94]))))).set 47 (.inr (.inl (16, [70644700037184])))).set 106 (.inl (2, 2, [0, 1]))).set 105 (.inl (0, 2, [0, 0]))).set 107 (.inl (0, 132, [0, 0, 0, 0, 0, 0, 0, 0, 0, 0, 0, 0, 0, 0, 0, 0, 0, 0, 0, 0, 0, 0, 0, 0, 0, 0, 0, 0, 0, 0, 0, 0, 0, 0, 0, 0, 0, 0, 0, 0, 0, 0, 0, 0, 0, 0, 0, 0, 0, 0, 0, 0, 0, 0, 0, 0, 0, 0, 0, 0, 0, 0, 0, 0, 0, 0, 0, 0, 0, 0, 0, 0]))).set 109 (.inl (0, 22, [0, 0, 0, 0, 0, 0, 0, 0, 0, 0, 0, 0]))).set 112 (.inl (0, 6, [0, 0, 0, 0, 0, 0])))) (dc2 := 117) (ds2 := 29934) 10 rfl ?_
  exact zT_ret rfl rfl
set_option maxRecDepth 1000000 in
theorem zk_o_29 : zT zg0 zF zP 129 0 [(0, .ref 0), (1, .int 1), (2, .int 1)] [] zH0 0 0 (some (.int 0), (((zH0.set 37 (.inr (.inr (.inr (3, [.ref 44, .ref 6, .ref 76, .ref 78, .ref 80, .ref 88, .int 1, .int 0, .ref 96, .int 0, .int 0, .int 0, .ref 98, .ref 100, .int 0]))))).set 44 (.inr (.inr (.inr (6, [.int 1, .long 70644700037184, .int 0, .ref 90, .ref 92, .ref 94]))))).set 47 (.inr (.inl (16, [70644700037184])))), 0, 0) := zclosed (n := 167) (by decide +kernel)
set_option maxRecDepth 1000000 in
theorem zk_o_30 : zT zg0 zF zP 263 0 [(0, .ref 162), (1, .int 1), (2, .int 1)] [] (((zH0.set 37 (.inr (.inr (.inr (3, [.ref 44, .ref 6, .ref 76, .ref 78, .ref 80, .ref 88, .int 1, .int 0, .ref 96, .int 0, .int 0, .int 0, .ref 98, .ref 100, .int 0]))))).set 44 (.inr (.inr (.inr (6, [.int 1, .long 70644700037184, .int 0, .ref 90, .ref 92, .ref 94]))))).set 47 (.inr (.inl (16, [70644700037184])))) 0 0 (some (.int 0), ((((((((zH0.set 37 (.inr (.inr (.inr (3, [.ref 44, .ref 6, .ref 76, .ref 78, .ref 80, .ref 88, .int 1, .int 0, .ref 96, .int 0, .int 0, .int 0, .ref 98, .ref 100, .int 0]))))).set 44 (.inr (.inr (.inr (6, [.int 1, .long 70644700037184, .int 0, .ref 90, .ref 92, .ref 94]))))).set 47 (.inr (.inl (16, [70644700037184])))).set 106 (.inl (2, 2, [0, 1]))).set 105 (.inl (0, 2, [0, 0]))).set 107 (.inl (0, 132, [0, 0, 0, 0, 0, 0, 0, 0, 0, 0, 0, 0, 0, 0, 0, 0, 0, 0, 0, 0, 0, 0, 0, 0, 0, 0, 0, 0, 0, 0, 0, 0, 0, 0, 0, 0, 0, 0, 0, 0, 0, 0, 0, 0, 0, 0, 0, 0, 0, 0, 0, 0, 0, 0, 0, 0, 0, 0, 0, 0, 0, 0, 0, 0, 0, 0, 0, 0, 0, 0, 0, 0]))).set 109 (.inl (0, 22, [0, 0, 0, 0, 0, 0, 0, 0, 0, 0, 0, 0]))).set 112 (.inl (0, 6, [0, 0, 0, 0, 0, 0]))), 0, 0) := zclosed (n := 438) (by decide +kernel)
set_option maxRecDepth 1000000 in
set_option maxHeartbeats 4000000 in
theorem zo_28_8 (xs : Nat → Int32) (h0 : xs 0 &&& 63 = 28) (h1 : (xs 1).toInt ≠ 0) (h2 : xs 2 = 1) : zDone xs := by
  refine ⟨((((((((zH0.set 37 (.inr (.inr (.inr (3, [.ref 44, .ref 6, .ref 76, .ref 78, .ref 80, .ref 88, .int 1, .int 0, .ref 96, .int 0, .int 0, .int 0, .ref 98, .ref 100, .int 0]))))).set 44 (.inr (.inr (.inr (6, [.int 1, .long 70644700037184, .int 0, .ref 90, .ref 92, .ref 94]))))).set 47 (.inr (.inl (16, [70644700037184])))).set 106 (.inl (2, 2, [0, 1]))).set 105 (.inl (0, 2, [0, 0]))).set 107 (.inl (0, 132, [0, 0, 0, 0, 0, 0, 0, 0, 0, 0, 0, 0, 0, 0, 0, 0, 0, 0, 0, 0, 0, 0, 0, 0, 0, 0, 0, 0, 0, 0, 0, 0, 0, 0, 0, 0, 0, 0, 0, 0, 0, 0, 0, 0, 0, 0, 0, 0, 0, 0, 0, 0, 0, 0, 0, 0, 0, 0, 0, 0, 0, 0, 0, 0, 0, 0, 0, 0, 0, 0, 0, 0]))).set 109 (.inl (0, 22, [0, 0, 0, 0, 0, 0, 0, 0, 0, 0, 0, 0]))).set 112 (.inl (0, 6, [0, 0, 0, 0, 0, 0]))), 117, 29934, ?_, by decide, by decide⟩
  refine zT_gos (f := 200000) (pc2 := 37) (ls2 := [(4, .int 0), (3, .ref 232), (2, .ref 162), (1, .ref 0), (0, .ref 11)]) (st2 := [.int (xs 0)]) (h2 := zH0) (dc2 := 117) (ds2 := 29934) 9 rfl ?_
  refine zT_gos (f := 200000) (pc2 := 40) (ls2 := [(4, .int 0), (3, .ref 232), (2, .ref 162), (1, .ref 0), (0, .ref 11)]) (st2 := [.int ((xs 0) &&& (63 : Int32))]) (h2 := zH0) (dc2 := 117) (ds2 := 29934) 2 rfl ?_
  refine zT_val h0 ?_
  refine zT_gos (f := 200000) (pc2 := 1368) (ls2 := [(4, .int 0), (3, .ref 232), (2, .ref 162), (1, .ref 0), (0, .ref 11)]) (st2 := [.int (xs 1), .ref 0]) (h2 := zH0) (dc2 := 117) (ds2 := 29934) 7 rfl ?_
  refine zT_if0 false rfl (zc_eq_f (by show ((xs 1) : Int32).toInt ≠ 0; omega)) ?_
  refine zT_here (pc2 := 1371) rfl ?_
  refine zT_gos (f := 200000) (pc2 := 1382) (ls2 := [(4, .int 0), (3, .ref 232), (2, .ref 162), (1, .ref 0), (0, .ref 11)]) (st2 := [.int (xs 2), .int 1, .ref 0]) (h2 := zH0) (dc2 := 117) (ds2 := 29934) 7 rfl ?_
  refine zT_val h2 ?_
  refine zT_call rfl rfl (zT_le (zg0_le 6 xs) zk_o_29) ?_
  refine zT_here (pc2 := 1385) rfl ?_
  refine zT_gos (f := 200000) (pc2 := 1392) (ls2 := [(4, .int 0), (3, .ref 232), (2, .ref 162), (1, .ref 0), (0, .ref 11)]) (st2 := [.int (xs 1), .ref 162, .int 0]) (h2 := (((zH0.set 37 (.inr (.inr (.inr (3, [.ref 44, .ref 6, .ref 76, .ref 78, .ref 80, .ref 88, .int 1, .int 0, .ref 96, .int 0, .int 0, .int 0, .ref 98, .ref 100, .int 0]))))).set 44 (.inr (.inr (.inr (6, [.int 1, .long 70644700037184, .int 0, .ref 90, .ref 92, .ref 94]))))).set 47 (.inr (.inl (16, [70644700037184]))))) (dc2 := 117) (ds2 := 29934) 6 rfl ?_
  refine zT_if0 false rfl (zc_eq_f (by show ((xs 1) : Int32).toInt ≠ 0; omega)) ?_
  refine zT_here (pc2 := 1395) rfl ?_
  refine zT_gos (f := 200000) (pc2 := 1406) (ls2 := [(4, .int 0), (3, .ref 232), (2, .ref 162), (1, .ref 0), (0, .ref 11)]) (st2 := [.int (xs 2), .int 1, .ref 162, .int 0]) (h2 := (((zH0.set 37 (.inr (.inr (.inr (3, [.ref 44, .ref 6, .ref 76, .ref 78, .ref 80, .ref 88, .int 1, .int 0, .ref 96, .int 0, .int 0, .int 0, .ref 98, .ref 100, .int 0]))))).set 44 (.inr (.inr (.inr (6, [.int 1, .long 70644700037184, .int 0, .ref 90, .ref 92, .ref 94]))))).set 47 (.inr (.inl (16, [70644700037184]))))) (dc2 := 117) (ds2 := 29934) 7 rfl ?_
  refine zT_val h2 ?_
  refine zT_call rfl rfl (zT_le (zg0_le 6 xs) zk_o_30) ?_
  refine zT_here (pc2 := 1409) rfl ?_
  refine zT_gos (f := 200000) (pc2 := 1811) (ls2 := [(4, .int 6), (3, .ref 232), (2, .ref 162), (1, .ref 0), (0, .ref 11)]) (st2 := [.int 1]) (h2 := ((((((((zH0.set 37 (.inr (.inr (.inr (3, [.ref 44, .ref 6, .ref 76, .ref 78, .ref 80, .ref 88, .int 1, .int 0, .ref 96, .int 0, .int 0, .int 0, .ref 98, .ref 100, .int 0]))))).set 44 (.inr (.inr (.inr (6, [.int 1, .long 70644700037184, .int 0, .ref 90, .ref 92, .ref 94]))))).set 47 (.inr (.inl (16, [70644700037184])))).set 106 (.inl (2, 2, [0, 1]))).set 105 (.inl (0, 2, [0, 0]))).set 107 (.inl (0, 132, [0, 0, 0, 0, 0, 0, 0, 0, 0, 0, 0, 0, 0, 0, 0, 0, 0, 0, 0, 0, 0, 0, 0, 0, 0, 0, 0, 0, 0, 0, 0, 0, 0, 0, 0, 0, 0, 0, 0, 0, 0, 0, 0, 0, 0, 0, 0, 0, 0, 0, 0, 0, 0, 0, 0, 0, 0, 0, 0, 0, 0, 0, 0, 0, 0, 0, 0, 0, 0, 0, 0, 0]))).set 109 (.inl (0, 22, [0, 0, 0, 0, 0, 0, 0, 0, 0, 0, 0, 0]))).set 112 (.inl (0, 6, [0, 0, 0, 0, 0, 0])))) (dc2 := 117) (ds2 := 29934) 10 rfl ?_
  exact zT_ret rfl rfl
set_option maxRecDepth 1000000 in
theorem zk_o_31 : zT zg0 zF zP 129 0 [(0, .ref 0), (1, .int 1), (2, .int 2)] [] zH0 0 0 (some (.int 0), (((zH0.set 37 (.inr (.inr (.inr (3, [.ref 44, .ref 6, .ref 76, .ref 78, .ref 80, .ref 88, .int 1, .int 0, .ref 96, .int 0, .int 0, .int 0, .ref 98, .ref 100, .int 0]))))).set 44 (.inr (.inr (.inr (6, [.int 1, .long 70644700037184, .int 0, .ref 90, .ref 92, .ref 94]))))).set 47 (.inr (.inl (16, [70644700037184])))), 0, 0) := zclosed (n := 124) (by decide +kernel)
set_option maxRecDepth 1000000 in
theorem zk_o_32 : zT zg0 zF zP 263 0 [(0, .ref 162), (1, .int 1), (2, .int 2)] [] (((zH0.set 37 (.inr (.inr (.inr (3, [.ref 44, .ref 6, .ref 76, .ref 78, .ref 80, .ref 88, .int 1, .int 0, .ref 96, .int 0, .int 0, .int 0, .ref 98, .ref 100, .int 0]))))).set 44 (.inr (.inr (.inr (6, [.int 1, .long 70644700037184, .int 0, .ref 90, .ref 92, .ref 94]))))).set 47 (.inr (.inl (16, [70644700037184])))) 0 0 (some (.int 0), (((((((zH0.set 37 (.inr (.inr (.inr (3, [.ref 44, .ref 6, .ref 76, .ref 78, .ref 80, .ref 88, .int 1, .int 0, .ref 96, .int 0, .int 0, .int 0, .ref 98, .ref 100, .int 0]))))).set 44 (.inr (.inr (.inr (6, [.int 1, .long 70644700037184, .int 0, .ref 90, .ref 92, .ref 94]))))).set 47 (.inr (.inl (16, [70644700037184])))).set 106 (.inl (2, 2, [0, 1]))).set 105 (.inl (0, 2, [0, 0]))).set 107 (.inl (0, 132, [0, 0, 0, 0, 0, 0, 0, 0, 0, 0, 0, 0, 0, 0, 0, 0, 0, 0, 0, 0, 0, 0, 0, 0, 0, 0, 0, 0, 0, 0, 0, 0, 0, 0, 0, 0, 0, 0, 0, 0, 0, 0, 0, 0, 0, 0, 0, 0, 0, 0, 0, 0, 0, 0, 0, 0, 0, 0, 0, 0, 0, 0, 0, 0, 0, 0, 0, 0, 0, 0, 0, 0]))).set 109 (.inl (0, 22, [0, 0, 0, 0, 0, 0, 0, 0, 0, 0, 0, 0]))), 0, 0) := zclosed (n := 221) (by decide +kernel)
set_option maxRecDepth 1000000 in
set_option maxHeartbeats 4000000 in
theorem zo_28_9 (xs : Nat → Int32) (h0 : xs 0 &&& 63 = 28) (h1 : (xs 1).toInt ≠ 0) (h2 : xs 2 = 2) : zDone xs := by
  refine ⟨(((((((zH0.set 37 (.inr (.inr (.inr (3, [.ref 44, .ref 6, .ref 76, .ref 78, .ref 80, .ref 88, .int 1, .int 0, .ref 96, .int 0, .int 0, .int 0, .ref 98, .ref 100, .int 0]))))).set 44 (.inr (.inr (.inr (6, [.int 1, .long 70644700037184, .int 0, .ref 90, .ref 92, .ref 94]))))).set 47 (.inr (.inl (16, [70644700037184])))).set 106 (.inl (2, 2, [0, 1]))).set 105 (.inl (0, 2, [0, 0]))).set 107 (.inl (0, 132, [0, 0, 0, 0, 0, 0, 0, 0, 0, 0, 0, 0, 0, 0, 0, 0, 0, 0, 0, 0, 0, 0, 0, 0, 0, 0, 0, 0, 0, 0, 0, 0, 0, 0, 0, 0, 0, 0, 0, 0, 0, 0, 0, 0, 0, 0, 0, 0, 0, 0, 0, 0, 0, 0, 0, 0, 0, 0, 0, 0, 0, 0, 0, 0, 0, 0, 0, 0, 0, 0, 0, 0]))).set 109 (.inl (0, 22, [0, 0, 0, 0, 0, 0, 0, 0, 0, 0, 0, 0]))), 117, 29934, ?_, by decide, by decide⟩
  refine zT_gos (f := 200000) (pc2 := 37) (ls2 := [(4, .int 0), (3, .ref 232), (2, .ref 162), (1, .ref 0), (0, .ref 11)]) (st2 := [.int (xs 0)]) (h2 := zH0) (dc2 := 117) (ds2 := 29934) 9 rfl ?_
  refine zT_gos (f := 200000) (pc2 := 40) (ls2 := [(4, .int 0), (3, .ref 232), (2, .ref 162), (1, .ref 0), (0, .ref 11)]) (st2 := [.int ((xs 0) &&& (63 : Int32))]) (h2 := zH0) (dc2 := 117) (ds2 := 29934) 2 rfl ?_
  refine zT_val h0 ?_
  refine zT_gos (f := 200000) (pc2 := 1368) (ls2 := [(4, .int 0), (3, .ref 232), (2, .ref 162), (1, .ref 0), (0, .ref 11)]) (st2 := [.int (xs 1), .ref 0]) (h2 := zH0) (dc2 := 117) (ds2 := 29934) 7 rfl ?_
  refine zT_if0 false rfl (zc_eq_f (by show ((xs 1) : Int32).toInt ≠ 0; omega)) ?_
  refine zT_here (pc2 := 1371) rfl ?_
  refine zT_gos (f := 200000) (pc2 := 1382) (ls2 := [(4, .int 0), (3, .ref 232), (2, .ref 162), (1, .ref 0), (0, .ref 11)]) (st2 := [.int (xs 2), .int 1, .ref 0]) (h2 := zH0) (dc2 := 117) (ds2 := 29934) 7 rfl ?_
  refine zT_val h2 ?_
  refine zT_call rfl rfl (zT_le (zg0_le 6 xs) zk_o_31) ?_
  refine zT_here (pc2 := 1385) rfl ?_
  refine zT_gos (f := 200000) (pc2 := 1392) (ls2 := [(4, .int 0), (3, .ref 232), (2, .ref 162), (1, .ref 0), (0, .ref 11)]) (st2 := [.int (xs 1), .ref 162, .int 0]) (h2 := (((zH0.set 37 (.inr (.inr (.inr (3, [.ref 44, .ref 6, .ref 76, .ref 78, .ref 80, .ref 88, .int 1, .int 0, .ref 96, .int 0, .int 0, .int 0, .ref 98, .ref 100, .int 0]))))).set 44 (.inr (.inr (.inr (6, [.int 1, .long 70644700037184, .int 0, .ref 90, .ref 92, .ref 94]))))).set 47 (.inr (.inl (16, [70644700037184]))))) (dc2 := 117) (ds2 := 29934) 6 rfl ?_
  refine zT_if0 false rfl (zc_eq_f (by show ((xs 1) : Int32).toInt ≠ 0; omega)) ?_
  refine zT_here (pc2 := 1395) rfl ?_
  refine zT_gos (f := 200000) (pc2 := 1406) (ls2 := [(4, .int 0), (3, .ref 232), (2, .ref 162), (1, .ref 0), (0, .ref 11)]) (st2 := [.int (xs 2), .int 1, .ref 162, .int 0]) (h2 := (((zH0.set 37 (.inr (.inr (.inr (3, [.ref 44, .ref 6, .ref 76, .ref 78, .ref 80, .ref 88, .int 1, .int 0, .ref 96, .int 0, .int 0, .int 0, .ref 98, .ref 100, .int 0]))))).set 44 (.inr (.inr (.inr (6, [.int 1, .long 70644700037184, .int 0, .ref 90, .ref 92, .ref 94]))))).set 47 (.inr (.inl (16, [70644700037184]))))) (dc2 := 117) (ds2 := 29934) 7 rfl ?_
  refine zT_val h2 ?_
  refine zT_call rfl rfl (zT_le (zg0_le 6 xs) zk_o_32) ?_
  refine zT_here (pc2 := 1409) rfl ?_
  refine zT_gos (f := 200000) (pc2 := 1811) (ls2 := [(4, .int 6), (3, .ref 232), (2, .ref 162), (1, .ref 0), (0, .ref 11)]) (st2 := [.int 1]) (h2 := (((((((zH0.set 37 (.inr (.inr (.inr (3, [.ref 44, .ref 6, .ref 76, .ref 78, .ref 80, .ref 88, .int 1, .int 0, .ref 96, .int 0, .int 0, .int 0, .ref 98, .ref 100, .int 0]))))).set 44 (.inr (.inr (.inr (6, [.int 1, .long 70644700037184, .int 0, .ref 90, .ref 92, .ref 94]))))).set 47 (.inr (.inl (16, [70644700037184])))).set 106 (.inl (2, 2, [0, 1]))).set 105 (.inl (0, 2, [0, 0]))).set 107 (.inl (0, 132, [0, 0, 0, 0, 0, 0, 0, 0, 0, 0, 0, 0, 0, 0, 0, 0, 0, 0, 0, 0, 0, 0, 0, 0, 0, 0, 0, 0, 0, 0, 0, 0, 0, 0, 0, 0, 0, 0, 0, 0, 0, 0, 0, 0, 0, 0, 0, 0, 0, 0, 0, 0, 0, 0, 0, 0, 0, 0, 0, 0, 0, 0, 0, 0, 0, 0, 0, 0, 0, 0, 0, 0]))).set 109 (.inl (0, 22, [0, 0, 0, 0, 0, 0, 0, 0, 0, 0, 0, 0])))) (dc2 := 117) (ds2 := 29934) 10 rfl ?_
  exact zT_ret rfl rfl
theorem zop_28 (xs : Nat → Int32) (h0 : xs 0 &&& 63 = 28) : zDone xs := by
  rcases (show (xs 1).toInt = 0 ∨ (xs 1).toInt ≠ 0 by omega) with h1 | h1
  · have h1 : xs 1 = 0 := Int32.toInt_inj.mp h1
    rcases (show (xs 2).toInt < 0 ∨ 2 < (xs 2).toInt ∨ (xs 2).toInt = 0 ∨ (xs 2).toInt = 1 ∨ (xs 2).toInt = 2 by omega) with h2 | h2 | h2 | h2 | h2
    · have h2 := h2
      exact zo_28_0 xs h0 h1 h2
    · have h2 := h2
      exact zo_28_1 xs h0 h1 h2
    · have h2 : xs 2 = 0 := Int32.toInt_inj.mp h2
      exact zo_28_2 xs h0 h1 h2
    · have h2 : xs 2 = 1 := Int32.toInt_inj.mp h2
      exact zo_28_3 xs h0 h1 h2
    · have h2 : xs 2 = 2 := Int32.toInt_inj.mp h2
      exact zo_28_4 xs h0 h1 h2
  · have h1 := h1
    rcases (show (xs 2).toInt < 0 ∨ 2 < (xs 2).toInt ∨ (xs 2).toInt = 0 ∨ (xs 2).toInt = 1 ∨ (xs 2).toInt = 2 by omega) with h2 | h2 | h2 | h2 | h2
    · have h2 := h2
      exact zo_28_5 xs h0 h1 h2
    · have h2 := h2
      exact zo_28_6 xs h0 h1 h2
    · have h2 : xs 2 = 0 := Int32.toInt_inj.mp h2
      exact zo_28_7 xs h0 h1 h2
    · have h2 : xs 2 = 1 := Int32.toInt_inj.mp h2
      exact zo_28_8 xs h0 h1 h2
    · have h2 : xs 2 = 2 := Int32.toInt_inj.mp h2
      exact zo_28_9 xs h0 h1 h2
set_option maxRecDepth 1000000 in
theorem zk_o_33 : zT zg0 zF zP 130 0 [(0, .ref 0), (1, .int 0)] [] zH0 0 0 (some (.long 0), (((zH0.set 37 (.inr (.inr (.inr (3, [.ref 44, .ref 6, .ref 76, .ref 78, .ref 80, .ref 88, .int 1, .int 0, .ref 96, .int 0, .int 0, .int 0, .ref 98, .ref 100, .int 0]))))).set 40 (.inr (.inr (.inr (6, [.int 1, .long 70644700037184, .int 0, .ref 82, .ref 84, .ref 86]))))).set 43 (.inr (.inl (16, [70644700037184])))), 0, 0) := zclosed (n := 509) (by decide +kernel)
set_option maxRecDepth 1000000 in
theorem zk_o_34 : zT zg0 zF zP 266 0 [(0, .ref 162), (1, .int 0)] [] (((zH0.set 37 (.inr (.inr (.inr (3, [.ref 44, .ref 6, .ref 76, .ref 78, .ref 80, .ref 88, .int 1, .int 0, .ref 96, .int 0, .int 0, .int 0, .ref 98, .ref 100, .int 0]))))).set 40 (.inr (.inr (.inr (6, [.int 1, .long 70644700037184, .int 0, .ref 82, .ref 84, .ref 86]))))).set 43 (.inr (.inl (16, [70644700037184])))) 0 0 (some (.long 0), ((((((((zH0.set 37 (.inr (.inr (.inr (3, [.ref 44, .ref 6, .ref 76, .ref 78, .ref 80, .ref 88, .int 1, .int 0, .ref 96, .int 0, .int 0, .int 0, .ref 98, .ref 100, .int 0]))))).set 40 (.inr (.inr (.inr (6, [.int 1, .long 70644700037184, .int 0, .ref 82, .ref 84, .ref 86]))))).set 43 (.inr (.inl (16, [70644700037184])))).set 106 (.inl (2, 2, [1, 0]))).set 105 (.inl (0, 2, [0]))).set 107 (.inl (0, 132, [0, 0, 0, 0, 0, 0]))).set 109 (.inl (0, 22, [0]))).set 112 (.inl (0, 6, [0, 0, 0, 0, 0, 0]))), 0, 0) := zclosed (n := 709) (by decide +kernel)
set_option maxRecDepth 1000000 in
set_option maxHeartbeats 4000000 in
theorem zo_29_0 (xs : Nat → Int32) (h0 : xs 0 &&& 63 = 29) (h1 : xs 1 = 0) : zDone xs := by
  refine ⟨((((((((zH0.set 37 (.inr (.inr (.inr (3, [.ref 44, .ref 6, .ref 76, .ref 78, .ref 80, .ref 88, .int 1, .int 0, .ref 96, .int 0, .int 0, .int 0, .ref 98, .ref 100, .int 0]))))).set 40 (.inr (.inr (.inr (6, [.int 1, .long 70644700037184, .int 0, .ref 82, .ref 84, .ref 86]))))).set 43 (.inr (.inl (16, [70644700037184])))).set 106 (.inl (2, 2, [1, 0]))).set 105 (.inl (0, 2, [0]))).set 107 (.inl (0, 132, [0, 0, 0, 0, 0, 0]))).set 109 (.inl (0, 22, [0]))).set 112 (.inl (0, 6, [0, 0, 0, 0, 0, 0]))), 117, 29934, ?_, by decide, by decide⟩
  refine zT_gos (f := 200000) (pc2 := 37) (ls2 := [(4, .int 0), (3, .ref 232), (2, .ref 162), (1, .ref 0), (0, .ref 11)]) (st2 := [.int (xs 0)]) (h2 := zH0) (dc2 := 117) (ds2 := 29934) 9 rfl ?_
  refine zT_gos (f := 200000) (pc2 := 40) (ls2 := [(4, .int 0), (3, .ref 232), (2, .ref 162), (1, .ref 0), (0, .ref 11)]) (st2 := [.int ((xs 0) &&& (63 : Int32))]) (h2 := zH0) (dc2 := 117) (ds2 := 29934) 2 rfl ?_
  refine zT_val h0 ?_
  refine zT_gos (f := 200000) (pc2 := 1421) (ls2 := [(4, .int 0), (3, .ref 232), (2, .ref 162), (1, .ref 0), (0, .ref 11)]) (st2 := [.int (xs 1), .ref 0]) (h2 := zH0) (dc2 := 117) (ds2 := 29934) 7 rfl ?_
  refine zT_val h1 ?_
  refine zT_gos (f := 200000) (pc2 := 1429) (ls2 := [(4, .int 0), (3, .ref 232), (2, .ref 162), (1, .ref 0), (0, .ref 11)]) (st2 := [.int 0, .ref 0]) (h2 := zH0) (dc2 := 117) (ds2 := 29934) 2 rfl ?_
  refine zT_call rfl rfl (zT_le (zg0_le 6 xs) zk_o_33) ?_
  refine zT_here (pc2 := 1432) rfl ?_
  refine zT_gos (f := 200000) (pc2 := 1439) (ls2 := [(4, .int 0), (3, .ref 232), (2, .ref 162), (1, .ref 0), (0, .ref 11)]) (st2 := [.int (xs 1), .ref 162, .long 0]) (h2 := (((zH0.set 37 (.inr (.inr (.inr (3, [.ref 44, .ref 6, .ref 76, .ref 78, .ref 80, .ref 88, .int 1, .int 0, .ref 96, .int 0, .int 0, .int 0, .ref 98, .ref 100, .int 0]))))).set 40 (.inr (.inr (.inr (6, [.int 1, .long 70644700037184, .int 0, .ref 82, .ref 84, .ref 86]))))).set 43 (.inr (.inl (16, [70644700037184]))))) (dc2 := 117) (ds2 := 29934) 6 rfl ?_
  refine zT_val h1 ?_
  refine zT_gos (f := 200000) (pc2 := 1447) (ls2 := [(4, .int 0), (3, .ref 232), (2, .ref 162), (1, .ref 0), (0, .ref 11)]) (st2 := [.int 0, .ref 162, .long 0]) (h2 := (((zH0.set 37 (.inr (.inr (.inr (3, [.ref 44, .ref 6, .ref 76, .ref 78, .ref 80, .ref 88, .int 1, .int 0, .ref 96, .int 0, .int 0, .int 0, .ref 98, .ref 100, .int 0]))))).set 40 (.inr (.inr (.inr (6, [.int 1, .long 70644700037184, .int 0, .ref 82, .ref 84, .ref 86]))))).set 43 (.inr (.inl (16, [70644700037184]))))) (dc2 := 117) (ds2 := 29934) 2 rfl ?_
  refine zT_call rfl rfl (zT_le (zg0_le 6 xs) zk_o_34) ?_
  refine zT_here (pc2 := 1450) rfl ?_
  refine zT_gos (f := 200000) (pc2 := 1811) (ls2 := [(4, .int 6), (3, .ref 232), (2, .ref 162), (1, .ref 0), (0, .ref 11)]) (st2 := [.int 1]) (h2 := ((((((((zH0.set 37 (.inr (.inr (.inr (3, [.ref 44, .ref 6, .ref 76, .ref 78, .ref 80, .ref 88, .int 1, .int 0, .ref 96, .int 0, .int 0, .int 0, .ref 98, .ref 100, .int 0]))))).set 40 (.inr (.inr (.inr (6, [.int 1, .long 70644700037184, .int 0, .ref 82, .ref 84, .ref 86]))))).set 43 (.inr (.inl (16, [70644700037184])))).set 106 (.inl (2, 2, [1, 0]))).set 105 (.inl (0, 2, [0]))).set 107 (.inl (0, 132, [0, 0, 0, 0, 0, 0]))).set 109 (.inl (0, 22, [0]))).set 112 (.inl (0, 6, [0, 0, 0, 0, 0, 0])))) (dc2 := 117) (ds2 := 29934) 11 rfl ?_
  exact zT_ret rfl rfl
set_option maxRecDepth 1000000 in
theorem zk_o_35 : zT zg0 zF zP 130 0 [(0, .ref 0), (1, .int 1)] [] zH0 0 0 (some (.long 0), (((zH0.set 37 (.inr (.inr (.inr (3, [.ref 44, .ref 6, .ref 76, .ref 78, .ref 80, .ref 88, .int 1, .int 0, .ref 96, .int 0, .int 0, .int 0, .ref 98, .ref 100, .int 0]))))).set 44 (.inr (.inr (.inr (6, [.int 1, .long 70644700037184, .int 0, .ref 90, .ref 92, .ref 94]))))).set 47 (.inr (.inl (16, [70644700037184])))), 0, 0) := zclosed (n := 510) (by decide +kernel)
set_option maxRecDepth 1000000 in
theorem zk_o_36 : zT zg0 zF zP 266 0 [(0, .ref 162), (1, .int 1)] [] (((zH0.set 37 (.inr (.inr (.inr (3, [.ref 44, .ref 6, .ref 76, .ref 78, .ref 80, .ref 88, .int 1, .int 0, .ref 96, .int 0, .int 0, .int 0, .ref 98, .ref 100, .int 0]))))).set 44 (.inr (.inr (.inr (6, [.int 1, .long 70644700037184, .int 0, .ref 90, .ref 92, .ref 94]))))).set 47 (.inr (.inl (16, [70644700037184])))) 0 0 (some (.long 0), ((((((((zH0.set 37 (.inr (.inr (.inr (3, [.ref 44, .ref 6, .ref 76, .ref 78, .ref 80, .ref 88, .int 1, .int 0, .ref 96, .int 0, .int 0, .int 0, .ref 98, .ref 100, .int 0]))))).set 44 (.inr (.inr (.inr (6, [.int 1, .long 70644700037184, .int 0, .ref 90, .ref 92, .ref 94]))))).set 47 (.inr (.inl (16, [70644700037184])))).set 106 (.inl (2, 2, [0, 1]))).set 105 (.inl (0, 2, [0, 0]))).set 107 (.inl (0, 132, [0, 0, 0, 0, 0, 0, 0, 0, 0, 0, 0, 0, 0, 0, 0, 0, 0, 0, 0, 0, 0, 0, 0, 0, 0, 0, 0, 0, 0, 0, 0, 0, 0, 0, 0, 0, 0, 0, 0, 0, 0, 0, 0, 0, 0, 0, 0, 0, 0, 0, 0, 0, 0, 0, 0, 0, 0, 0, 0, 0, 0, 0, 0, 0, 0, 0, 0, 0, 0, 0, 0, 0]))).set 109 (.inl (0, 22, [0, 0, 0, 0, 0, 0, 0, 0, 0, 0, 0, 0]))).set 112 (.inl (0, 6, [0, 0, 0, 0, 0, 0]))), 0, 0) := zclosed (n := 712) (by decide +kernel)
set_option maxRecDepth 1000000 in
set_option maxHeartbeats 4000000 in
theorem zo_29_1 (xs : Nat → Int32) (h0 : xs 0 &&& 63 = 29) (h1 : (xs 1).toInt ≠ 0) : zDone xs := by
  refine ⟨((((((((zH0.set 37 (.inr (.inr (.inr (3, [.ref 44, .ref 6, .ref 76, .ref 78, .ref 80, .ref 88, .int 1, .int 0, .ref 96, .int 0, .int 0, .int 0, .ref 98, .ref 100, .int 0]))))).set 44 (.inr (.inr (.inr (6, [.int 1, .long 70644700037184, .int 0, .ref 90, .ref 92, .ref 94]))))).set 47 (.inr (.inl (16, [70644700037184])))).set 106 (.inl (2, 2, [0, 1]))).set 105 (.inl (0, 2, [0, 0]))).set 107 (.inl (0, 132, [0, 0, 0, 0, 0, 0, 0, 0, 0, 0, 0, 0, 0, 0, 0, 0, 0, 0, 0, 0, 0, 0, 0, 0, 0, 0, 0, 0, 0, 0, 0, 0, 0, 0, 0, 0, 0, 0, 0, 0, 0, 0, 0, 0, 0, 0, 0, 0, 0, 0, 0, 0, 0, 0, 0, 0, 0, 0, 0, 0, 0, 0, 0, 0, 0, 0, 0, 0, 0, 0, 0, 0]))).set 109 (.inl (0, 22, [0, 0, 0, 0, 0, 0, 0, 0, 0, 0, 0, 0]))).set 112 (.inl (0, 6, [0, 0, 0, 0, 0, 0]))), 117, 29934, ?_, by decide, by decide⟩
  refine zT_gos (f := 200000) (pc2 := 37) (ls2 := [(4, .int 0), (3, .ref 232), (2, .ref 162), (1, .ref 0), (0, .ref 11)]) (st2 := [.int (xs 0)]) (h2 := zH0) (dc2 := 117) (ds2 := 29934) 9 rfl ?_
  refine zT_gos (f := 200000) (pc2 := 40) (ls2 := [(4, .int 0), (3, .ref 232), (2, .ref 162), (1, .ref 0), (0, .ref 11)]) (st2 := [.int ((xs 0) &&& (63 : Int32))]) (h2 := zH0) (dc2 := 117) (ds2 := 29934) 2 rfl ?_
  refine zT_val h0 ?_
  refine zT_gos (f := 200000) (pc2 := 1421) (ls2 := [(4, .int 0), (3, .ref 232), (2, .ref 162), (1, .ref 0), (0, .ref 11)]) (st2 := [.int (xs 1), .ref 0]) (h2 := zH0) (dc2 := 117) (ds2 := 29934) 7 rfl ?_
  refine zT_if0 false rfl (zc_eq_f (by show ((xs 1) : Int32).toInt ≠ 0; omega)) ?_
  refine zT_here (pc2 := 1424) rfl ?_
  refine zT_gos (f := 200000) (pc2 := 1429) (ls2 := [(4, .int 0), (3, .ref 232), (2, .ref 162), (1, .ref 0), (0, .ref 11)]) (st2 := [.int 1, .ref 0]) (h2 := zH0) (dc2 := 117) (ds2 := 29934) 2 rfl ?_
  refine zT_call rfl rfl (zT_le (zg0_le 6 xs) zk_o_35) ?_
  refine zT_here (pc2 := 1432) rfl ?_
  refine zT_gos (f := 200000) (pc2 := 1439) (ls2 := [(4, .int 0), (3, .ref 232), (2, .ref 162), (1, .ref 0), (0, .ref 11)]) (st2 := [.int (xs 1), .ref 162, .long 0]) (h2 := (((zH0.set 37 (.inr (.inr (.inr (3, [.ref 44, .ref 6, .ref 76, .ref 78, .ref 80, .ref 88, .int 1, .int 0, .ref 96, .int 0, .int 0, .int 0, .ref 98, .ref 100, .int 0]))))).set 44 (.inr (.inr (.inr (6, [.int 1, .long 70644700037184, .int 0, .ref 90, .ref 92, .ref 94]))))).set 47 (.inr (.inl (16, [70644700037184]))))) (dc2 := 117) (ds2 := 29934) 6 rfl ?_
  refine zT_if0 false rfl (zc_eq_f (by show ((xs 1) : Int32).toInt ≠ 0; omega)) ?_
  refine zT_here (pc2 := 1442) rfl ?_
  refine zT_gos (f := 200000) (pc2 := 1447) (ls2 := [(4, .int 0), (3, .ref 232), (2, .ref 162), (1, .ref 0), (0, .ref 11)]) (st2 := [.int 1, .ref 162, .long 0]) (h2 := (((zH0.set 37 (.inr (.inr (.inr (3, [.ref 44, .ref 6, .ref 76, .ref 78, .ref 80, .ref 88, .int 1, .int 0, .ref 96, .int 0, .int 0, .int 0, .ref 98, .ref 100, .int 0]))))).set 44 (.inr (.inr (.inr (6, [.int 1, .long 70644700037184, .int 0, .ref 90, .ref 92, .ref 94]))))).set 47 (.inr (.inl (16, [70644700037184]))))) (dc2 := 117) (ds2 := 29934) 2 rfl ?_
  refine zT_call rfl rfl (zT_le (zg0_le 6 xs) zk_o_36) ?_
  refine zT_here (pc2 := 1450) rfl ?_
  refine zT_gos (f := 200000) (pc2 := 1811) (ls2 := [(4, .int 6), (3, .ref 232), (2, .ref 162), (1, .ref 0), (0, .ref 11)]) (st2 := [.int 1]) (h2 := ((((((((zH0.set 37 (.inr (.inr (.inr (3, [.ref 44, .ref 6, .ref 76, .ref 78, .ref 80, .ref 88, .int 1, .int 0, .ref 96, .int 0, .int 0, .int 0, .ref 98, .ref 100, .int 0]))))).set 44 (.inr (.inr (.inr (6, [.int 1, .long 70644700037184, .int 0, .ref 90, .ref 92, .ref 94]))))).set 47 (.inr (.inl (16, [70644700037184])))).set 106 (.inl (2, 2, [0, 1]))).set 105 (.inl (0, 2, [0, 0]))).set 107 (.inl (0, 132, [0, 0, 0, 0, 0, 0, 0, 0, 0, 0, 0, 0, 0, 0, 0, 0, 0, 0, 0, 0, 0, 0, 0, 0, 0, 0, 0, 0, 0, 0, 0, 0, 0, 0, 0, 0, 0, 0, 0, 0, 0, 0, 0, 0, 0, 0, 0, 0, 0, 0, 0, 0, 0, 0, 0, 0, 0, 0, 0, 0, 0, 0, 0, 0, 0, 0, 0, 0, 0, 0, 0, 0]))).set 109 (.inl (0, 22, [0, 0, 0, 0, 0, 0, 0, 0, 0, 0, 0, 0]))).set 112 (.inl (0, 6, [0, 0, 0, 0, 0, 0])))) (dc2 := 117) (ds2 := 29934) 11 rfl ?_
  exact zT_ret rfl rfl
theorem zop_29 (xs : Nat → Int32) (h0 : xs 0 &&& 63 = 29) : zDone xs := by
  rcases (show (xs 1).toInt = 0 ∨ (xs 1).toInt ≠ 0 by omega) with h1 | h1
  · have h1 : xs 1 = 0 := Int32.toInt_inj.mp h1
    exact zo_29_0 xs h0 h1
  · have h1 := h1
    exact zo_29_1 xs h0 h1
set_option maxRecDepth 1000000 in
set_option maxHeartbeats 4000000 in
theorem zo_30_0 (xs : Nat → Int32) (h0 : xs 0 &&& 63 = 30)  : zDone xs := by
  refine ⟨((zH0.set 75 (.inr (.inr (.inr (5, [.ref 152, .ref 6, .ref 154, .ref 234, .int 1, .int 1, .long 70644700037184, .int 0]))))) ++ [.inl (0, 8, [])]), 118, 29942, ?_, by decide, by decide⟩
  refine zT_gos (f := 200000) (pc2 := 37) (ls2 := [(4, .int 0), (3, .ref 232), (2, .ref 162), (1, .ref 0), (0, .ref 11)]) (st2 := [.int (xs 0)]) (h2 := zH0) (dc2 := 117) (ds2 := 29934) 9 rfl ?_
  refine zT_gos (f := 200000) (pc2 := 40) (ls2 := [(4, .int 0), (3, .ref 232), (2, .ref 162), (1, .ref 0), (0, .ref 11)]) (st2 := [.int ((xs 0) &&& (63 : Int32))]) (h2 := zH0) (dc2 := 117) (ds2 := 29934) 2 rfl ?_
  refine zT_val h0 ?_
  refine zT_gos (f := 200000) (pc2 := 1811) (ls2 := [(4, .int 6), (3, .ref 232), (2, .ref 162), (1, .ref 0), (0, .ref 11)]) (st2 := [.int 1]) (h2 := ((zH0.set 75 (.inr (.inr (.inr (5, [.ref 152, .ref 6, .ref 154, .ref 234, .int 1, .int 1, .long 70644700037184, .int 0]))))) ++ [.inl (0, 8, [])])) (dc2 := 118) (ds2 := 29942) 15 rfl ?_
  exact zT_ret rfl rfl
theorem zop_30 (xs : Nat → Int32) (h0 : xs 0 &&& 63 = 30) : zDone xs := by
  exact zo_30_0 xs h0 
set_option maxRecDepth 1000000 in
set_option maxHeartbeats 4000000 in
theorem zo_31_0 (xs : Nat → Int32) (h0 : xs 0 &&& 63 = 31) (h1 : (xs 1).toInt < 0) : zDone xs := by
  refine ⟨zH0, 117, 29934, ?_, by decide, by decide⟩
  refine zT_gos (f := 200000) (pc2 := 37) (ls2 := [(4, .int 0), (3, .ref 232), (2, .ref 162), (1, .ref 0), (0, .ref 11)]) (st2 := [.int (xs 0)]) (h2 := zH0) (dc2 := 117) (ds2 := 29934) 9 rfl ?_
  refine zT_gos (f := 200000) (pc2 := 40) (ls2 := [(4, .int 0), (3, .ref 232), (2, .ref 162), (1, .ref 0), (0, .ref 11)]) (st2 := [.int ((xs 0) &&& (63 : Int32))]) (h2 := zH0) (dc2 := 117) (ds2 := 29934) 2 rfl ?_
  refine zT_val h0 ?_
  refine zT_gos (f := 200000) (pc2 := 1476) (ls2 := [(4, .int 0), (3, .ref 232), (2, .ref 162), (1, .ref 0), (0, .ref 11)]) (st2 := [.int (xs 1), .ref 0]) (h2 := zH0) (dc2 := 117) (ds2 := 29934) 7 rfl ?_
  refine zT_call (v := some (.int (-1))) (h2 := zH0) (d1 := 0) (s1 := 0) rfl rfl ?_ ?_
  · refine zT_gos (f := 200000) (pc2 := 2) (ls2 := [(0, .ref 0), (1, .int (xs 1))]) (st2 := [.int (xs 1), .ref 0]) (h2 := zH0) (dc2 := 0) (ds2 := 0) 2 rfl ?_
    refine zT_call (v := some (.int 1)) (h2 := zH0) (d1 := 0) (s1 := 0) rfl rfl ?_ ?_
    · refine zT_gos (f := 200000) (pc2 := 1) (ls2 := [(0, .ref 0), (1, .int (xs 1))]) (st2 := [.int (xs 1)]) (h2 := zH0) (dc2 := 0) (ds2 := 0) 1 rfl ?_
      refine zT_if0 true rfl (zc_lt_t (by show ((xs 1) : Int32).toInt < 0; omega)) ?_
      refine zT_here (pc2 := 15) rfl ?_
      refine zT_gos (f := 200000) (pc2 := 20) (ls2 := [(0, .ref 0), (1, .int (xs 1))]) (st2 := [.int 1]) (h2 := zH0) (dc2 := 0) (ds2 := 0) 2 rfl ?_
      exact zT_ret rfl rfl
    refine zT_here (pc2 := 5) rfl ?_
    refine zT_gos (f := 200000) (pc2 := 9) (ls2 := [(0, .ref 0), (1, .int (xs 1))]) (st2 := [.int (-1)]) (h2 := zH0) (dc2 := 0) (ds2 := 0) 2 rfl ?_
    exact zT_ret rfl rfl
  refine zT_here (pc2 := 1479) rfl ?_
  refine zT_gos (f := 200000) (pc2 := 1486) (ls2 := [(4, .int 0), (3, .ref 232), (2, .ref 162), (1, .ref 0), (0, .ref 11)]) (st2 := [.int (xs 1), .ref 162, .int (-1)]) (h2 := zH0) (dc2 := 117) (ds2 := 29934) 6 rfl ?_
  refine zT_call (v := some (.int (-1))) (h2 := zH0) (d1 := 0) (s1 := 0) rfl rfl ?_ ?_
  · refine zT_gos (f := 200000) (pc2 := 7) (ls2 := [(0, .ref 162), (1, .int (xs 1))]) (st2 := [.int (xs 1), .ref 162]) (h2 := zH0) (dc2 := 0) (ds2 := 0) 5 rfl ?_
    refine zT_call (v := some (.int 0)) (h2 := zH0) (d1 := 0) (s1 := 0) rfl rfl ?_ ?_
    · refine zT_gos (f := 200000) (pc2 := 1) (ls2 := [(0, .ref 162), (1, .int (xs 1))]) (st2 := [.int (xs 1)]) (h2 := zH0) (dc2 := 0) (ds2 := 0) 1 rfl ?_
      refine zT_if0 true rfl (zc_lt_t (by show ((xs 1) : Int32).toInt < 0; omega)) ?_
      refine zT_here (pc2 := 18) rfl ?_
      refine zT_gos (f := 200000) (pc2 := 19) (ls2 := [(0, .ref 162), (1, .int (xs 1))]) (st2 := [.int 0]) (h2 := zH0) (dc2 := 0) (ds2 := 0) 1 rfl ?_
      exact zT_ret rfl rfl
    refine zT_here (pc2 := 10) rfl ?_
    refine zT_gos (f := 200000) (pc2 := 14) (ls2 := [(0, .ref 162), (1, .int (xs 1))]) (st2 := [.int (-1)]) (h2 := zH0) (dc2 := 0) (ds2 := 0) 2 rfl ?_
    exact zT_ret rfl rfl
  refine zT_here (pc2 := 1489) rfl ?_
  refine zT_gos (f := 200000) (pc2 := 1811) (ls2 := [(4, .int 6), (3, .ref 232), (2, .ref 162), (1, .ref 0), (0, .ref 11)]) (st2 := [.int 1]) (h2 := zH0) (dc2 := 117) (ds2 := 29934) 10 rfl ?_
  exact zT_ret rfl rfl
set_option maxRecDepth 1000000 in
set_option maxHeartbeats 4000000 in
theorem zo_31_1 (xs : Nat → Int32) (h0 : xs 0 &&& 63 = 31) (h1 : -1 < (xs 1).toInt) : zDone xs := by
  refine ⟨zH0, 117, 29934, ?_, by decide, by decide⟩
  refine zT_gos (f := 200000) (pc2 := 37) (ls2 := [(4, .int 0), (3, .ref 232), (2, .ref 162), (1, .ref 0), (0, .ref 11)]) (st2 := [.int (xs 0)]) (h2 := zH0) (dc2 := 117) (ds2 := 29934) 9 rfl ?_
  refine zT_gos (f := 200000) (pc2 := 40) (ls2 := [(4, .int 0), (3, .ref 232), (2, .ref 162), (1, .ref 0), (0, .ref 11)]) (st2 := [.int ((xs 0) &&& (63 : Int32))]) (h2 := zH0) (dc2 := 117) (ds2 := 29934) 2 rfl ?_
  refine zT_val h0 ?_
  refine zT_gos (f := 200000) (pc2 := 1476) (ls2 := [(4, .int 0), (3, .ref 232), (2, .ref 162), (1, .ref 0), (0, .ref 11)]) (st2 := [.int (xs 1), .ref 0]) (h2 := zH0) (dc2 := 117) (ds2 := 29934) 7 rfl ?_
  refine zT_call (v := some (.int (-1))) (h2 := zH0) (d1 := 0) (s1 := 0) rfl rfl ?_ ?_
  · refine zT_gos (f := 200000) (pc2 := 2) (ls2 := [(0, .ref 0), (1, .int (xs 1))]) (st2 := [.int (xs 1), .ref 0]) (h2 := zH0) (dc2 := 0) (ds2 := 0) 2 rfl ?_
    refine zT_call (v := some (.int 1)) (h2 := zH0) (d1 := 0) (s1 := 0) rfl rfl ?_ ?_
    · refine zT_gos (f := 200000) (pc2 := 1) (ls2 := [(0, .ref 0), (1, .int (xs 1))]) (st2 := [.int (xs 1)]) (h2 := zH0) (dc2 := 0) (ds2 := 0) 1 rfl ?_
      refine zT_if0 false rfl (zc_lt_f (by show ((xs 1) : Int32).toInt ≥ 0; omega)) ?_
      refine zT_here (pc2 := 4) rfl ?_
      refine zT_gos (f := 200000) (pc2 := 12) (ls2 := [(0, .ref 0), (1, .int (xs 1))]) (st2 := [.int 0, .int (xs 1)]) (h2 := zH0) (dc2 := 0) (ds2 := 0) 4 rfl ?_
      refine zT_if2 false rfl (zc_lt_f (by show ((xs 1) : Int32).toInt ≥ 0; omega)) ?_
      refine zT_here (pc2 := 15) rfl ?_
      refine zT_gos (f := 200000) (pc2 := 20) (ls2 := [(0, .ref 0), (1, .int (xs 1))]) (st2 := [.int 1]) (h2 := zH0) (dc2 := 0) (ds2 := 0) 2 rfl ?_
      exact zT_ret rfl rfl
    refine zT_here (pc2 := 5) rfl ?_
    refine zT_gos (f := 200000) (pc2 := 9) (ls2 := [(0, .ref 0), (1, .int (xs 1))]) (st2 := [.int (-1)]) (h2 := zH0) (dc2 := 0) (ds2 := 0) 2 rfl ?_
    exact zT_ret rfl rfl
  refine zT_here (pc2 := 1479) rfl ?_
  refine zT_gos (f := 200000) (pc2 := 1486) (ls2 := [(4, .int 0), (3, .ref 232), (2, .ref 162), (1, .ref 0), (0, .ref 11)]) (st2 := [.int (xs 1), .ref 162, .int (-1)]) (h2 := zH0) (dc2 := 117) (ds2 := 29934) 6 rfl ?_
  refine zT_call (v := some (.int (-1))) (h2 := zH0) (d1 := 0) (s1 := 0) rfl rfl ?_ ?_
  · refine zT_gos (f := 200000) (pc2 := 7) (ls2 := [(0, .ref 162), (1, .int (xs 1))]) (st2 := [.int (xs 1), .ref 162]) (h2 := zH0) (dc2 := 0) (ds2 := 0) 5 rfl ?_
    refine zT_call (v := some (.int 0)) (h2 := zH0) (d1 := 0) (s1 := 0) rfl rfl ?_ ?_
    · refine zT_gos (f := 200000) (pc2 := 1) (ls2 := [(0, .ref 162), (1, .int (xs 1))]) (st2 := [.int (xs 1)]) (h2 := zH0) (dc2 := 0) (ds2 := 0) 1 rfl ?_
      refine zT_if0 false rfl (zc_lt_f (by show ((xs 1) : Int32).toInt ≥ 0; omega)) ?_
      refine zT_here (pc2 := 4) rfl ?_
      refine zT_gos (f := 200000) (pc2 := 11) (ls2 := [(0, .ref 162), (1, .int (xs 1))]) (st2 := [.int 0, .int (xs 1)]) (h2 := zH0) (dc2 := 0) (ds2 := 0) 5 rfl ?_
      refine zT_if2 true rfl (zc_ge_t (by show ((xs 1) : Int32).toInt ≥ 0; omega)) ?_
      refine zT_here (pc2 := 18) rfl ?_
      refine zT_gos (f := 200000) (pc2 := 19) (ls2 := [(0, .ref 162), (1, .int (xs 1))]) (st2 := [.int 0]) (h2 := zH0) (dc2 := 0) (ds2 := 0) 1 rfl ?_
      exact zT_ret rfl rfl
    refine zT_here (pc2 := 10) rfl ?_
    refine zT_gos (f := 200000) (pc2 := 14) (ls2 := [(0, .ref 162), (1, .int (xs 1))]) (st2 := [.int (-1)]) (h2 := zH0) (dc2 := 0) (ds2 := 0) 2 rfl ?_
    exact zT_ret rfl rfl
  refine zT_here (pc2 := 1489) rfl ?_
  refine zT_gos (f := 200000) (pc2 := 1811) (ls2 := [(4, .int 6), (3, .ref 232), (2, .ref 162), (1, .ref 0), (0, .ref 11)]) (st2 := [.int 1]) (h2 := zH0) (dc2 := 117) (ds2 := 29934) 10 rfl ?_
  exact zT_ret rfl rfl
theorem zop_31 (xs : Nat → Int32) (h0 : xs 0 &&& 63 = 31) : zDone xs := by
  rcases (show (xs 1).toInt < 0 ∨ -1 < (xs 1).toInt by omega) with h1 | h1
  · have h1 := h1
    exact zo_31_0 xs h0 h1
  · have h1 := h1
    exact zo_31_1 xs h0 h1
set_option maxRecDepth 1000000 in
set_option maxHeartbeats 4000000 in
theorem zo_32_0 (xs : Nat → Int32) (h0 : xs 0 &&& 63 = 32) (h1 : (xs 1).toInt < 0) (h2 : xs 2 = 0) : zDone xs := by
  refine ⟨zH0, 117, 29934, ?_, by decide, by decide⟩
  refine zT_gos (f := 200000) (pc2 := 37) (ls2 := [(4, .int 0), (3, .ref 232), (2, .ref 162), (1, .ref 0), (0, .ref 11)]) (st2 := [.int (xs 0)]) (h2 := zH0) (dc2 := 117) (ds2 := 29934) 9 rfl ?_
  refine zT_gos (f := 200000) (pc2 := 40) (ls2 := [(4, .int 0), (3, .ref 232), (2, .ref 162), (1, .ref 0), (0, .ref 11)]) (st2 := [.int ((xs 0) &&& (63 : Int32))]) (h2 := zH0) (dc2 := 117) (ds2 := 29934) 2 rfl ?_
  refine zT_val h0 ?_
  refine zT_gos (f := 200000) (pc2 := 1501) (ls2 := [(4, .int 0), (3, .ref 232), (2, .ref 162), (1, .ref 0), (0, .ref 11)]) (st2 := [.int (xs 1), .ref 0]) (h2 := zH0) (dc2 := 117) (ds2 := 29934) 7 rfl ?_
  refine zT_gos (f := 200000) (pc2 := 1507) (ls2 := [(4, .int 0), (3, .ref 232), (2, .ref 162), (1, .ref 0), (0, .ref 11)]) (st2 := [.int (xs 2), .int (xs 1), .ref 0]) (h2 := zH0) (dc2 := 117) (ds2 := 29934) 5 rfl ?_
  refine zT_val h2 ?_
  refine zT_gos (f := 200000) (pc2 := 1515) (ls2 := [(4, .int 0), (3, .ref 232), (2, .ref 162), (1, .ref 0), (0, .ref 11)]) (st2 := [.int 0, .int (xs 1), .ref 0]) (h2 := zH0) (dc2 := 117) (ds2 := 29934) 2 rfl ?_
  refine zT_call (v := some (.int (-1))) (h2 := zH0) (d1 := 0) (s1 := 0) rfl rfl ?_ ?_
  · refine zT_gos (f := 200000) (pc2 := 1) (ls2 := [(0, .ref 0), (1, .int (xs 1)), (2, .int 0)]) (st2 := [.int (xs 1)]) (h2 := zH0) (dc2 := 0) (ds2 := 0) 1 rfl ?_
    refine zT_call (v := some (.int 1)) (h2 := zH0) (d1 := 0) (s1 := 0) rfl rfl ?_ ?_
    · refine zT_gos (f := 200000) (pc2 := 1) (ls2 := [(0, .int (xs 1))]) (st2 := [.int (xs 1)]) (h2 := zH0) (dc2 := 0) (ds2 := 0) 1 rfl ?_
      refine zT_if0 true rfl (zc_lt_t (by show ((xs 1) : Int32).toInt < 0; omega)) ?_
      refine zT_here (pc2 := 10) rfl ?_
      refine zT_gos (f := 200000) (pc2 := 15) (ls2 := [(0, .int (xs 1))]) (st2 := [.int 1]) (h2 := zH0) (dc2 := 0) (ds2 := 0) 2 rfl ?_
      exact zT_ret rfl rfl
    refine zT_here (pc2 := 4) rfl ?_
    refine zT_gos (f := 200000) (pc2 := 8) (ls2 := [(0, .ref 0), (1, .int (xs 1)), (2, .int 0)]) (st2 := [.int (-1)]) (h2 := zH0) (dc2 := 0) (ds2 := 0) 2 rfl ?_
    exact zT_ret rfl rfl
  refine zT_here (pc2 := 1518) rfl ?_
  refine zT_gos (f := 200000) (pc2 := 1525) (ls2 := [(4, .int 0), (3, .ref 232), (2, .ref 162), (1, .ref 0), (0, .ref 11)]) (st2 := [.int (xs 1), .ref 162, .int (-1)]) (h2 := zH0) (dc2 := 117) (ds2 := 29934) 6 rfl ?_
  refine zT_gos (f := 200000) (pc2 := 1531) (ls2 := [(4, .int 0), (3, .ref 232), (2, .ref 162), (1, .ref 0), (0, .ref 11)]) (st2 := [.int (xs 2), .int (xs 1), .ref 162, .int (-1)]) (h2 := zH0) (dc2 := 117) (ds2 := 29934) 5 rfl ?_
  refine zT_val h2 ?_
  refine zT_gos (f := 200000) (pc2 := 1539) (ls2 := [(4, .int 0), (3, .ref 232), (2, .ref 162), (1, .ref 0), (0, .ref 11)]) (st2 := [.int 0, .int (xs 1), .ref 162, .int (-1)]) (h2 := zH0) (dc2 := 117) (ds2 := 29934) 2 rfl ?_
  refine zT_call (v := some (.int (-1))) (h2 := zH0) (d1 := 0) (s1 := 0) rfl rfl ?_ ?_
  · refine zT_gos (f := 200000) (pc2 := 6) (ls2 := [(0, .ref 162), (1, .int (xs 1)), (2, .int 0)]) (st2 := [.int (xs 1)]) (h2 := zH0) (dc2 := 0) (ds2 := 0) 4 rfl ?_
    refine zT_call (v := some (.int 0)) (h2 := zH0) (d1 := 0) (s1 := 0) rfl rfl ?_ ?_
    · refine zT_gos (f := 200000) (pc2 := 1) (ls2 := [(0, .int (xs 1))]) (st2 := [.int (xs 1)]) (h2 := zH0) (dc2 := 0) (ds2 := 0) 1 rfl ?_
      refine zT_if0 true rfl (zc_lt_t (by show ((xs 1) : Int32).toInt < 0; omega)) ?_
      refine zT_here (pc2 := 14) rfl ?_
      refine zT_gos (f := 200000) (pc2 := 15) (ls2 := [(0, .int (xs 1))]) (st2 := [.int 0]) (h2 := zH0) (dc2 := 0) (ds2 := 0) 1 rfl ?_
      exact zT_ret rfl rfl
    refine zT_here (pc2 := 9) rfl ?_
    refine zT_gos (f := 200000) (pc2 := 13) (ls2 := [(0, .ref 162), (1, .int (xs 1)), (2, .int 0)]) (st2 := [.int (-1)]) (h2 := zH0) (dc2 := 0) (ds2 := 0) 2 rfl ?_
    exact zT_ret rfl rfl
  refine zT_here (pc2 := 1542) rfl ?_
  refine zT_gos (f := 200000) (pc2 := 1811) (ls2 := [(4, .int 6), (3, .ref 232), (2, .ref 162), (1, .ref 0), (0, .ref 11)]) (st2 := [.int 1]) (h2 := zH0) (dc2 := 117) (ds2 := 29934) 10 rfl ?_
  exact zT_ret rfl rfl
set_option maxRecDepth 1000000 in
set_option maxHeartbeats 4000000 in
theorem zo_32_1 (xs : Nat → Int32) (h0 : xs 0 &&& 63 = 32) (h1 : (xs 1).toInt < 0) (h2 : (xs 2).toInt ≠ 0) : zDone xs := by
  refine ⟨zH0, 117, 29934, ?_, by decide, by decide⟩
  refine zT_gos (f := 200000) (pc2 := 37) (ls2 := [(4, .int 0), (3, .ref 232), (2, .ref 162), (1, .ref 0), (0, .ref 11)]) (st2 := [.int (xs 0)]) (h2 := zH0) (dc2 := 117) (ds2 := 29934) 9 rfl ?_
  refine zT_gos (f := 200000) (pc2 := 40) (ls2 := [(4, .int 0), (3, .ref 232), (2, .ref 162), (1, .ref 0), (0, .ref 11)]) (st2 := [.int ((xs 0) &&& (63 : Int32))]) (h2 := zH0) (dc2 := 117) (ds2 := 29934) 2 rfl ?_
  refine zT_val h0 ?_
  refine zT_gos (f := 200000) (pc2 := 1501) (ls2 := [(4, .int 0), (3, .ref 232), (2, .ref 162), (1, .ref 0), (0, .ref 11)]) (st2 := [.int (xs 1), .ref 0]) (h2 := zH0) (dc2 := 117) (ds2 := 29934) 7 rfl ?_
  refine zT_gos (f := 200000) (pc2 := 1507) (ls2 := [(4, .int 0), (3, .ref 232), (2, .ref 162), (1, .ref 0), (0, .ref 11)]) (st2 := [.int (xs 2), .int (xs 1), .ref 0]) (h2 := zH0) (dc2 := 117) (ds2 := 29934) 5 rfl ?_
  refine zT_if0 false rfl (zc_eq_f (by show ((xs 2) : Int32).toInt ≠ 0; omega)) ?_
  refine zT_here (pc2 := 1510) rfl ?_
  refine zT_gos (f := 200000) (pc2 := 1515) (ls2 := [(4, .int 0), (3, .ref 232), (2, .ref 162), (1, .ref 0), (0, .ref 11)]) (st2 := [.int 1, .int (xs 1), .ref 0]) (h2 := zH0) (dc2 := 117) (ds2 := 29934) 2 rfl ?_
  refine zT_call (v := some (.int (-1))) (h2 := zH0) (d1 := 0) (s1 := 0) rfl rfl ?_ ?_
  · refine zT_gos (f := 200000) (pc2 := 1) (ls2 := [(0, .ref 0), (1, .int (xs 1)), (2, .int 1)]) (st2 := [.int (xs 1)]) (h2 := zH0) (dc2 := 0) (ds2 := 0) 1 rfl ?_
    refine zT_call (v := some (.int 1)) (h2 := zH0) (d1 := 0) (s1 := 0) rfl rfl ?_ ?_
    · refine zT_gos (f := 200000) (pc2 := 1) (ls2 := [(0, .int (xs 1))]) (st2 := [.int (xs 1)]) (h2 := zH0) (dc2 := 0) (ds2 := 0) 1 rfl ?_
      refine zT_if0 true rfl (zc_lt_t (by show ((xs 1) : Int32).toInt < 0; omega)) ?_
      refine zT_here (pc2 := 10) rfl ?_
      refine zT_gos (f := 200000) (pc2 := 15) (ls2 := [(0, .int (xs 1))]) (st2 := [.int 1]) (h2 := zH0) (dc2 := 0) (ds2 := 0) 2 rfl ?_
      exact zT_ret rfl rfl
    refine zT_here (pc2 := 4) rfl ?_
    refine zT_gos (f := 200000) (pc2 := 8) (ls2 := [(0, .ref 0), (1, .int (xs 1)), (2, .int 1)]) (st2 := [.int (-1)]) (h2 := zH0) (dc2 := 0) (ds2 := 0) 2 rfl ?_
    exact zT_ret rfl rfl
  refine zT_here (pc2 := 1518) rfl ?_
  refine zT_gos (f := 200000) (pc2 := 1525) (ls2 := [(4, .int 0), (3, .ref 232), (2, .ref 162), (1, .ref 0), (0, .ref 11)]) (st2 := [.int (xs 1), .ref 162, .int (-1)]) (h2 := zH0) (dc2 := 117) (ds2 := 29934) 6 rfl ?_
  refine zT_gos (f := 200000) (pc2 := 1531) (ls2 := [(4, .int 0), (3, .ref 232), (2, .ref 162), (1, .ref 0), (0, .ref 11)]) (st2 := [.int (xs 2), .int (xs 1), .ref 162, .int (-1)]) (h2 := zH0) (dc2 := 117) (ds2 := 29934) 5 rfl ?_
  refine zT_if0 false rfl (zc_eq_f (by show ((xs 2) : Int32).toInt ≠ 0; omega)) ?_
  refine zT_here (pc2 := 1534) rfl ?_
  refine zT_gos (f := 200000) (pc2 := 1539) (ls2 := [(4, .int 0), (3, .ref 232), (2, .ref 162), (1, .ref 0), (0, .ref 11)]) (st2 := [.int 1, .int (xs 1), .ref 162, .int (-1)]) (h2 := zH0) (dc2 := 117) (ds2 := 29934) 2 rfl ?_
  refine zT_call (v := some (.int (-1))) (h2 := zH0) (d1 := 0) (s1 := 0) rfl rfl ?_ ?_
  · refine zT_gos (f := 200000) (pc2 := 6) (ls2 := [(0, .ref 162), (1, .int (xs 1)), (2, .int 1)]) (st2 := [.int (xs 1)]) (h2 := zH0) (dc2 := 0) (ds2 := 0) 4 rfl ?_
    refine zT_call (v := some (.int 0)) (h2 := zH0) (d1 := 0) (s1 := 0) rfl rfl ?_ ?_
    · refine zT_gos (f := 200000) (pc2 := 1) (ls2 := [(0, .int (xs 1))]) (st2 := [.int (xs 1)]) (h2 := zH0) (dc2 := 0) (ds2 := 0) 1 rfl ?_
      refine zT_if0 true rfl (zc_lt_t (by show ((xs 1) : Int32).toInt < 0; omega)) ?_
      refine zT_here (pc2 := 14) rfl ?_
      refine zT_gos (f := 200000) (pc2 := 15) (ls2 := [(0, .int (xs 1))]) (st2 := [.int 0]) (h2 := zH0) (dc2 := 0) (ds2 := 0) 1 rfl ?_
      exact zT_ret rfl rfl
    refine zT_here (pc2 := 9) rfl ?_
    refine zT_gos (f := 200000) (pc2 := 13) (ls2 := [(0, .ref 162), (1, .int (xs 1)), (2, .int 1)]) (st2 := [.int (-1)]) (h2 := zH0) (dc2 := 0) (ds2 := 0) 2 rfl ?_
    exact zT_ret rfl rfl
  refine zT_here (pc2 := 1542) rfl ?_
  refine zT_gos (f := 200000) (pc2 := 1811) (ls2 := [(4, .int 6), (3, .ref 232), (2, .ref 162), (1, .ref 0), (0, .ref 11)]) (st2 := [.int 1]) (h2 := zH0) (dc2 := 117) (ds2 := 29934) 10 rfl ?_
  exact zT_ret rfl rfl
set_option maxRecDepth 1000000 in
set_option maxHeartbeats 4000000 in
theorem zo_32_2 (xs : Nat → Int32) (h0 : xs 0 &&& 63 = 32) (h1 : 5 < (xs 1).toInt) (h2 : xs 2 = 0) : zDone xs := by
  refine ⟨zH0, 117, 29934, ?_, by decide, by decide⟩
  refine zT_gos (f := 200000) (pc2 := 37) (ls2 := [(4, .int 0), (3, .ref 232), (2, .ref 162), (1, .ref 0), (0, .ref 11)]) (st2 := [.int (xs 0)]) (h2 := zH0) (dc2 := 117) (ds2 := 29934) 9 rfl ?_
  refine zT_gos (f := 200000) (pc2 := 40) (ls2 := [(4, .int 0), (3, .ref 232), (2, .ref 162), (1, .ref 0), (0, .ref 11)]) (st2 := [.int ((xs 0) &&& (63 : Int32))]) (h2 := zH0) (dc2 := 117) (ds2 := 29934) 2 rfl ?_
  refine zT_val h0 ?_
  refine zT_gos (f := 200000) (pc2 := 1501) (ls2 := [(4, .int 0), (3, .ref 232), (2, .ref 162), (1, .ref 0), (0, .ref 11)]) (st2 := [.int (xs 1), .ref 0]) (h2 := zH0) (dc2 := 117) (ds2 := 29934) 7 rfl ?_
  refine zT_gos (f := 200000) (pc2 := 1507) (ls2 := [(4, .int 0), (3, .ref 232), (2, .ref 162), (1, .ref 0), (0, .ref 11)]) (st2 := [.int (xs 2), .int (xs 1), .ref 0]) (h2 := zH0) (dc2 := 117) (ds2 := 29934) 5 rfl ?_
  refine zT_val h2 ?_
  refine zT_gos (f := 200000) (pc2 := 1515) (ls2 := [(4, .int 0), (3, .ref 232), (2, .ref 162), (1, .ref 0), (0, .ref 11)]) (st2 := [.int 0, .int (xs 1), .ref 0]) (h2 := zH0) (dc2 := 117) (ds2 := 29934) 2 rfl ?_
  refine zT_call (v := some (.int (-1))) (h2 := zH0) (d1 := 0) (s1 := 0) rfl rfl ?_ ?_
  · refine zT_gos (f := 200000) (pc2 := 1) (ls2 := [(0, .ref 0), (1, .int (xs 1)), (2, .int 0)]) (st2 := [.int (xs 1)]) (h2 := zH0) (dc2 := 0) (ds2 := 0) 1 rfl ?_
    refine zT_call (v := some (.int 1)) (h2 := zH0) (d1 := 0) (s1 := 0) rfl rfl ?_ ?_
    · refine zT_gos (f := 200000) (pc2 := 1) (ls2 := [(0, .int (xs 1))]) (st2 := [.int (xs 1)]) (h2 := zH0) (dc2 := 0) (ds2 := 0) 1 rfl ?_
      refine zT_if0 false rfl (zc_lt_f (by show ((xs 1) : Int32).toInt ≥ 0; omega)) ?_
      refine zT_here (pc2 := 4) rfl ?_
      refine zT_gos (f := 200000) (pc2 := 7) (ls2 := [(0, .int (xs 1))]) (st2 := [.int 6, .int (xs 1)]) (h2 := zH0) (dc2 := 0) (ds2 := 0) 2 rfl ?_
      refine zT_if2 false rfl (zc_lt_f (by show ((xs 1) : Int32).toInt ≥ 6; omega)) ?_
      refine zT_here (pc2 := 10) rfl ?_
      refine zT_gos (f := 200000) (pc2 := 15) (ls2 := [(0, .int (xs 1))]) (st2 := [.int 1]) (h2 := zH0) (dc2 := 0) (ds2 := 0) 2 rfl ?_
      exact zT_ret rfl rfl
    refine zT_here (pc2 := 4) rfl ?_
    refine zT_gos (f := 200000) (pc2 := 8) (ls2 := [(0, .ref 0), (1, .int (xs 1)), (2, .int 0)]) (st2 := [.int (-1)]) (h2 := zH0) (dc2 := 0) (ds2 := 0) 2 rfl ?_
    exact zT_ret rfl rfl
  refine zT_here (pc2 := 1518) rfl ?_
  refine zT_gos (f := 200000) (pc2 := 1525) (ls2 := [(4, .int 0), (3, .ref 232), (2, .ref 162), (1, .ref 0), (0, .ref 11)]) (st2 := [.int (xs 1), .ref 162, .int (-1)]) (h2 := zH0) (dc2 := 117) (ds2 := 29934) 6 rfl ?_
  refine zT_gos (f := 200000) (pc2 := 1531) (ls2 := [(4, .int 0), (3, .ref 232), (2, .ref 162), (1, .ref 0), (0, .ref 11)]) (st2 := [.int (xs 2), .int (xs 1), .ref 162, .int (-1)]) (h2 := zH0) (dc2 := 117) (ds2 := 29934) 5 rfl ?_
  refine zT_val h2 ?_
  refine zT_gos (f := 200000) (pc2 := 1539) (ls2 := [(4, .int 0), (3, .ref 232), (2, .ref 162), (1, .ref 0), (0, .ref 11)]) (st2 := [.int 0, .int (xs 1), .ref 162, .int (-1)]) (h2 := zH0) (dc2 := 117) (ds2 := 29934) 2 rfl ?_
  refine zT_call (v := some (.int (-1))) (h2 := zH0) (d1 := 0) (s1 := 0) rfl rfl ?_ ?_
  · refine zT_gos (f := 200000) (pc2 := 6) (ls2 := [(0, .ref 162), (1, .int (xs 1)), (2, .int 0)]) (st2 := [.int (xs 1)]) (h2 := zH0) (dc2 := 0) (ds2 := 0) 4 rfl ?_
    refine zT_call (v := some (.int 0)) (h2 := zH0) (d1 := 0) (s1 := 0) rfl rfl ?_ ?_
    · refine zT_gos (f := 200000) (pc2 := 1) (ls2 := [(0, .int (xs 1))]) (st2 := [.int (xs 1)]) (h2 := zH0) (dc2 := 0) (ds2 := 0) 1 rfl ?_
      refine zT_if0 false rfl (zc_lt_f (by show ((xs 1) : Int32).toInt ≥ 0; omega)) ?_
      refine zT_here (pc2 := 4) rfl ?_
      refine zT_gos (f := 200000) (pc2 := 7) (ls2 := [(0, .int (xs 1))]) (st2 := [.int 6, .int (xs 1)]) (h2 := zH0) (dc2 := 0) (ds2 := 0) 2 rfl ?_
      refine zT_if2 true rfl (zc_ge_t (by show ((xs 1) : Int32).toInt ≥ 6; omega)) ?_
      refine zT_here (pc2 := 14) rfl ?_
      refine zT_gos (f := 200000) (pc2 := 15) (ls2 := [(0, .int (xs 1))]) (st2 := [.int 0]) (h2 := zH0) (dc2 := 0) (ds2 := 0) 1 rfl ?_
      exact zT_ret rfl rfl
    refine zT_here (pc2 := 9) rfl ?_
    refine zT_gos (f := 200000) (pc2 := 13) (ls2 := [(0, .ref 162), (1, .int (xs 1)), (2, .int 0)]) (st2 := [.int (-1)]) (h2 := zH0) (dc2 := 0) (ds2 := 0) 2 rfl ?_
    exact zT_ret rfl rfl
  refine zT_here (pc2 := 1542) rfl ?_
  refine zT_gos (f := 200000) (pc2 := 1811) (ls2 := [(4, .int 6), (3, .ref 232), (2, .ref 162), (1, .ref 0), (0, .ref 11)]) (st2 := [.int 1]) (h2 := zH0) (dc2 := 117) (ds2 := 29934) 10 rfl ?_
  exact zT_ret rfl rfl
set_option maxRecDepth 1000000 in
set_option maxHeartbeats 4000000 in
theorem zo_32_3 (xs : Nat → Int32) (h0 : xs 0 &&& 63 = 32) (h1 : 5 < (xs 1).toInt) (h2 : (xs 2).toInt ≠ 0) : zDone xs := by
  refine ⟨zH0, 117, 29934, ?_, by decide, by decide⟩
  refine zT_gos (f := 200000) (pc2 := 37) (ls2 := [(4, .int 0), (3, .ref 232), (2, .ref 162), (1, .ref 0), (0, .ref 11)]) (st2 := [.int (xs 0)]) (h2 := zH0) (dc2 := 117) (ds2 := 29934) 9 rfl ?_
  refine zT_gos (f := 200000) (pc2 := 40) (ls2 := [(4, .int 0), (3, .ref 232), (2, .ref 162), (1, .ref 0), (0, .ref 11)]) (st2 := [.int ((xs 0) &&& (63 : Int32))]) (h2 := zH0) (dc2 := 117) (ds2 := 29934) 2 rfl ?_
  refine zT_val h0 ?_
  refine zT_gos (f := 200000) (pc2 := 1501) (ls2 := [(4, .int 0), (3, .ref 232), (2, .ref 162), (1, .ref 0), (0, .ref 11)]) (st2 := [.int (xs 1), .ref 0]) (h2 := zH0) (dc2 := 117) (ds2 := 29934) 7 rfl ?_
  refine zT_gos (f := 200000) (pc2 := 1507) (ls2 := [(4, .int 0), (3, .ref 232), (2, .ref 162), (1, .ref 0), (0, .ref 11)]) (st2 := [.int (xs 2), .int (xs 1), .ref 0]) (h2 := zH0) (dc2 := 117) (ds2 := 29934) 5 rfl ?_
  refine zT_if0 false rfl (zc_eq_f (by show ((xs 2) : Int32).toInt ≠ 0; omega)) ?_
  refine zT_here (pc2 := 1510) rfl ?_
  refine zT_gos (f := 200000) (pc2 := 1515) (ls2 := [(4, .int 0), (3, .ref 232), (2, .ref 162), (1, .ref 0), (0, .ref 11)]) (st2 := [.int 1, .int (xs 1), .ref 0]) (h2 := zH0) (dc2 := 117) (ds2 := 29934) 2 rfl ?_
  refine zT_call (v := some (.int (-1))) (h2 := zH0) (d1 := 0) (s1 := 0) rfl rfl ?_ ?_
  · refine zT_gos (f := 200000) (pc2 := 1) (ls2 := [(0, .ref 0), (1, .int (xs 1)), (2, .int 1)]) (st2 := [.int (xs 1)]) (h2 := zH0) (dc2 := 0) (ds2 := 0) 1 rfl ?_
    refine zT_call (v := some (.int 1)) (h2 := zH0) (d1 := 0) (s1 := 0) rfl rfl ?_ ?_
    · refine zT_gos (f := 200000) (pc2 := 1) (ls2 := [(0, .int (xs 1))]) (st2 := [.int (xs 1)]) (h2 := zH0) (dc2 := 0) (ds2 := 0) 1 rfl ?_
      refine zT_if0 false rfl (zc_lt_f (by show ((xs 1) : Int32).toInt ≥ 0; omega)) ?_
      refine zT_here (pc2 := 4) rfl ?_
      refine zT_gos (f := 200000) (pc2 := 7) (ls2 := [(0, .int (xs 1))]) (st2 := [.int 6, .int (xs 1)]) (h2 := zH0) (dc2 := 0) (ds2 := 0) 2 rfl ?_
      refine zT_if2 false rfl (zc_lt_f (by show ((xs 1) : Int32).toInt ≥ 6; omega)) ?_
      refine zT_here (pc2 := 10) rfl ?_
      refine zT_gos (f := 200000) (pc2 := 15) (ls2 := [(0, .int (xs 1))]) (st2 := [.int 1]) (h2 := zH0) (dc2 := 0) (ds2 := 0) 2 rfl ?_
      exact zT_ret rfl rfl
    refine zT_here (pc2 := 4) rfl ?_
    refine zT_gos (f := 200000) (pc2 := 8) (ls2 := [(0, .ref 0), (1, .int (xs 1)), (2, .int 1)]) (st2 := [.int (-1)]) (h2 := zH0) (dc2 := 0) (ds2 := 0) 2 rfl ?_
    exact zT_ret rfl rfl
  refine zT_here (pc2 := 1518) rfl ?_
  refine zT_gos (f := 200000) (pc2 := 1525) (ls2 := [(4, .int 0), (3, .ref 232), (2, .ref 162), (1, .ref 0), (0, .ref 11)]) (st2 := [.int (xs 1), .ref 162, .int (-1)]) (h2 := zH0) (dc2 := 117) (ds2 := 29934) 6 rfl ?_
  refine zT_gos (f := 200000) (pc2 := 1531) (ls2 := [(4, .int 0), (3, .ref 232), (2, .ref 162), (1, .ref 0), (0, .ref 11)]) (st2 := [.int (xs 2), .int (xs 1), .ref 162, .int (-1)]) (h2 := zH0) (dc2 := 117) (ds2 := 29934) 5 rfl ?_
  refine zT_if0 false rfl (zc_eq_f (by show ((xs 2) : Int32).toInt ≠ 0; omega)) ?_
  refine zT_here (pc2 := 1534) rfl ?_
  refine zT_gos (f := 200000) (pc2 := 1539) (ls2 := [(4, .int 0), (3, .ref 232), (2, .ref 162), (1, .ref 0), (0, .ref 11)]) (st2 := [.int 1, .int (xs 1), .ref 162, .int (-1)]) (h2 := zH0) (dc2 := 117) (ds2 := 29934) 2 rfl ?_
  refine zT_call (v := some (.int (-1))) (h2 := zH0) (d1 := 0) (s1 := 0) rfl rfl ?_ ?_
  · refine zT_gos (f := 200000) (pc2 := 6) (ls2 := [(0, .ref 162), (1, .int (xs 1)), (2, .int 1)]) (st2 := [.int (xs 1)]) (h2 := zH0) (dc2 := 0) (ds2 := 0) 4 rfl ?_
    refine zT_call (v := some (.int 0)) (h2 := zH0) (d1 := 0) (s1 := 0) rfl rfl ?_ ?_
    · refine zT_gos (f := 200000) (pc2 := 1) (ls2 := [(0, .int (xs 1))]) (st2 := [.int (xs 1)]) (h2 := zH0) (dc2 := 0) (ds2 := 0) 1 rfl ?_
      refine zT_if0 false rfl (zc_lt_f (by show ((xs 1) : Int32).toInt ≥ 0; omega)) ?_
      refine zT_here (pc2 := 4) rfl ?_
      refine zT_gos (f := 200000) (pc2 := 7) (ls2 := [(0, .int (xs 1))]) (st2 := [.int 6, .int (xs 1)]) (h2 := zH0) (dc2 := 0) (ds2 := 0) 2 rfl ?_
      refine zT_if2 true rfl (zc_ge_t (by show ((xs 1) : Int32).toInt ≥ 6; omega)) ?_
      refine zT_here (pc2 := 14) rfl ?_
      refine zT_gos (f := 200000) (pc2 := 15) (ls2 := [(0, .int (xs 1))]) (st2 := [.int 0]) (h2 := zH0) (dc2 := 0) (ds2 := 0) 1 rfl ?_
      exact zT_ret rfl rfl
    refine zT_here (pc2 := 9) rfl ?_
    refine zT_gos (f := 200000) (pc2 := 13) (ls2 := [(0, .ref 162), (1, .int (xs 1)), (2, .int 1)]) (st2 := [.int (-1)]) (h2 := zH0) (dc2 := 0) (ds2 := 0) 2 rfl ?_
    exact zT_ret rfl rfl
  refine zT_here (pc2 := 1542) rfl ?_
  refine zT_gos (f := 200000) (pc2 := 1811) (ls2 := [(4, .int 6), (3, .ref 232), (2, .ref 162), (1, .ref 0), (0, .ref 11)]) (st2 := [.int 1]) (h2 := zH0) (dc2 := 117) (ds2 := 29934) 10 rfl ?_
  exact zT_ret rfl rfl
set_option maxRecDepth 1000000 in
theorem zk_o_37 : zT zg0 zF zP 274 0 [(0, .ref 162), (1, .int 0), (2, .int 0)] [] zH0 0 0 (some (.int 0), (zH0.set 112 (.inl (0, 6, [(-1), 0, 0, 0, 0, 0]))), 0, 0) := zclosed (n := 149) (by decide +kernel)
set_option maxRecDepth 1000000 in
set_option maxHeartbeats 4000000 in
theorem zo_32_4 (xs : Nat → Int32) (h0 : xs 0 &&& 63 = 32) (h1 : xs 1 = 0) (h2 : xs 2 = 0) : zDone xs := by
  refine ⟨(zH0.set 112 (.inl (0, 6, [(-1), 0, 0, 0, 0, 0]))), 117, 29934, ?_, by decide, by decide⟩
  refine zT_gos (f := 200000) (pc2 := 37) (ls2 := [(4, .int 0), (3, .ref 232), (2, .ref 162), (1, .ref 0), (0, .ref 11)]) (st2 := [.int (xs 0)]) (h2 := zH0) (dc2 := 117) (ds2 := 29934) 9 rfl ?_
  refine zT_gos (f := 200000) (pc2 := 40) (ls2 := [(4, .int 0), (3, .ref 232), (2, .ref 162), (1, .ref 0), (0, .ref 11)]) (st2 := [.int ((xs 0) &&& (63 : Int32))]) (h2 := zH0) (dc2 := 117) (ds2 := 29934) 2 rfl ?_
  refine zT_val h0 ?_
  refine zT_gos (f := 200000) (pc2 := 1501) (ls2 := [(4, .int 0), (3, .ref 232), (2, .ref 162), (1, .ref 0), (0, .ref 11)]) (st2 := [.int (xs 1), .ref 0]) (h2 := zH0) (dc2 := 117) (ds2 := 29934) 7 rfl ?_
  refine zT_val h1 ?_
  refine zT_gos (f := 200000) (pc2 := 1507) (ls2 := [(4, .int 0), (3, .ref 232), (2, .ref 162), (1, .ref 0), (0, .ref 11)]) (st2 := [.int (xs 2), .int 0, .ref 0]) (h2 := zH0) (dc2 := 117) (ds2 := 29934) 5 rfl ?_
  refine zT_val h2 ?_
  refine zT_gos (f := 200000) (pc2 := 1525) (ls2 := [(4, .int 0), (3, .ref 232), (2, .ref 162), (1, .ref 0), (0, .ref 11)]) (st2 := [.int (xs 1), .ref 162, .int 0]) (h2 := zH0) (dc2 := 117) (ds2 := 29934) 9 rfl ?_
  refine zT_val h1 ?_
  refine zT_gos (f := 200000) (pc2 := 1531) (ls2 := [(4, .int 0), (3, .ref 232), (2, .ref 162), (1, .ref 0), (0, .ref 11)]) (st2 := [.int (xs 2), .int 0, .ref 162, .int 0]) (h2 := zH0) (dc2 := 117) (ds2 := 29934) 5 rfl ?_
  refine zT_val h2 ?_
  refine zT_gos (f := 200000) (pc2 := 1539) (ls2 := [(4, .int 0), (3, .ref 232), (2, .ref 162), (1, .ref 0), (0, .ref 11)]) (st2 := [.int 0, .int 0, .ref 162, .int 0]) (h2 := zH0) (dc2 := 117) (ds2 := 29934) 2 rfl ?_
  refine zT_call rfl rfl (zT_le (zg0_le 6 xs) zk_o_37) ?_
  refine zT_here (pc2 := 1542) rfl ?_
  refine zT_gos (f := 200000) (pc2 := 1811) (ls2 := [(4, .int 6), (3, .ref 232), (2, .ref 162), (1, .ref 0), (0, .ref 11)]) (st2 := [.int 1]) (h2 := (zH0.set 112 (.inl (0, 6, [(-1), 0, 0, 0, 0, 0])))) (dc2 := 117) (ds2 := 29934) 10 rfl ?_
  exact zT_ret rfl rfl
set_option maxRecDepth 1000000 in
theorem zk_o_38 : zT zg0 zF zP 133 0 [(0, .ref 0), (1, .int 0), (2, .int 1)] [] zH0 0 0 (some (.int 0), zH0, 0, 0) := zclosed (n := 175) (by decide +kernel)
set_option maxRecDepth 1000000 in
theorem zk_o_39 : zT zg0 zF zP 274 0 [(0, .ref 162), (1, .int 0), (2, .int 1)] [] zH0 0 0 (some (.int 0), (zH0.set 112 (.inl (0, 6, [1, 0, 0, 0, 0, 0]))), 0, 0) := zclosed (n := 231) (by decide +kernel)
set_option maxRecDepth 1000000 in
set_option maxHeartbeats 4000000 in
theorem zo_32_5 (xs : Nat → Int32) (h0 : xs 0 &&& 63 = 32) (h1 : xs 1 = 0) (h2 : (xs 2).toInt ≠ 0) : zDone xs := by
  refine ⟨(zH0.set 112 (.inl (0, 6, [1, 0, 0, 0, 0, 0]))), 117, 29934, ?_, by decide, by decide⟩
  refine zT_gos (f := 200000) (pc2 := 37) (ls2 := [(4, .int 0), (3, .ref 232), (2, .ref 162), (1, .ref 0), (0, .ref 11)]) (st2 := [.int (xs 0)]) (h2 := zH0) (dc2 := 117) (ds2 := 29934) 9 rfl ?_
  refine zT_gos (f := 200000) (pc2 := 40) (ls2 := [(4, .int 0), (3, .ref 232), (2, .ref 162), (1, .ref 0), (0, .ref 11)]) (st2 := [.int ((xs 0) &&& (63 : Int32))]) (h2 := zH0) (dc2 := 117) (ds2 := 29934) 2 rfl ?_
  refine zT_val h0 ?_
  refine zT_gos (f := 200000) (pc2 := 1501) (ls2 := [(4, .int 0), (3, .ref 232), (2, .ref 162), (1, .ref 0), (0, .ref 11)]) (st2 := [.int (xs 1), .ref 0]) (h2 := zH0) (dc2 := 117) (ds2 := 29934) 7 rfl ?_
  refine zT_val h1 ?_
  refine zT_gos (f := 200000) (pc2 := 1507) (ls2 := [(4, .int 0), (3, .ref 232), (2, .ref 162), (1, .ref 0), (0, .ref 11)]) (st2 := [.int (xs 2), .int 0, .ref 0]) (h2 := zH0) (dc2 := 117) (ds2 := 29934) 5 rfl ?_
  refine zT_if0 false rfl (zc_eq_f (by show ((xs 2) : Int32).toInt ≠ 0; omega)) ?_
  refine zT_here (pc2 := 1510) rfl ?_
  refine zT_gos (f := 200000) (pc2 := 1515) (ls2 := [(4, .int 0), (3, .ref 232), (2, .ref 162), (1, .ref 0), (0, .ref 11)]) (st2 := [.int 1, .int 0, .ref 0]) (h2 := zH0) (dc2 := 117) (ds2 := 29934) 2 rfl ?_
  refine zT_call rfl rfl (zT_le (zg0_le 6 xs) zk_o_38) ?_
  refine zT_here (pc2 := 1518) rfl ?_
  refine zT_gos (f := 200000) (pc2 := 1525) (ls2 := [(4, .int 0), (3, .ref 232), (2, .ref 162), (1, .ref 0), (0, .ref 11)]) (st2 := [.int (xs 1), .ref 162, .int 0]) (h2 := zH0) (dc2 := 117) (ds2 := 29934) 6 rfl ?_
  refine zT_val h1 ?_
  refine zT_gos (f := 200000) (pc2 := 1531) (ls2 := [(4, .int 0), (3, .ref 232), (2, .ref 162), (1, .ref 0), (0, .ref 11)]) (st2 := [.int (xs 2), .int 0, .ref 162, .int 0]) (h2 := zH0) (dc2 := 117) (ds2 := 29934) 5 rfl ?_
  refine zT_if0 false rfl (zc_eq_f (by show ((xs 2) : Int32).toInt ≠ 0; omega)) ?_
  refine zT_here (pc2 := 1534) rfl ?_
  refine zT_gos (f := 200000) (pc2 := 1539) (ls2 := [(4, .int 0), (3, .ref 232), (2, .ref 162), (1, .ref 0), (0, .ref 11)]) (st2 := [.int 1, .int 0, .ref 162, .int 0]) (h2 := zH0) (dc2 := 117) (ds2 := 29934) 2 rfl ?_
  refine zT_call rfl rfl (zT_le (zg0_le 6 xs) zk_o_39) ?_
  refine zT_here (pc2 := 1542) rfl ?_
  refine zT_gos (f := 200000) (pc2 := 1811) (ls2 := [(4, .int 6), (3, .ref 232), (2, .ref 162), (1, .ref 0), (0, .ref 11)]) (st2 := [.int 1]) (h2 := (zH0.set 112 (.inl (0, 6, [1, 0, 0, 0, 0, 0])))) (dc2 := 117) (ds2 := 29934) 10 rfl ?_
  exact zT_ret rfl rfl
set_option maxRecDepth 1000000 in
theorem zk_o_40 : zT zg0 zF zP 133 0 [(0, .ref 0), (1, .int 1), (2, .int 0)] [] zH0 0 0 (some (.int 0), zH0, 0, 0) := zclosed (n := 174) (by decide +kernel)
set_option maxRecDepth 1000000 in
theorem zk_o_41 : zT zg0 zF zP 274 0 [(0, .ref 162), (1, .int 1), (2, .int 0)] [] zH0 0 0 (some (.int 0), (zH0.set 112 (.inl (0, 6, [0, (-1), 0, 0, 0, 0]))), 0, 0) := zclosed (n := 232) (by decide +kernel)
set_option maxRecDepth 1000000 in
set_option maxHeartbeats 4000000 in
theorem zo_32_6 (xs : Nat → Int32) (h0 : xs 0 &&& 63 = 32) (h1 : xs 1 = 1) (h2 : xs 2 = 0) : zDone xs := by
  refine ⟨(zH0.set 112 (.inl (0, 6, [0, (-1), 0, 0, 0, 0]))), 117, 29934, ?_, by decide, by decide⟩
  refine zT_gos (f := 200000) (pc2 := 37) (ls2 := [(4, .int 0), (3, .ref 232), (2, .ref 162), (1, .ref 0), (0, .ref 11)]) (st2 := [.int (xs 0)]) (h2 := zH0) (dc2 := 117) (ds2 := 29934) 9 rfl ?_
  refine zT_gos (f := 200000) (pc2 := 40) (ls2 := [(4, .int 0), (3, .ref 232), (2, .ref 162), (1, .ref 0), (0, .ref 11)]) (st2 := [.int ((xs 0) &&& (63 : Int32))]) (h2 := zH0) (dc2 := 117) (ds2 := 29934) 2 rfl ?_
  refine zT_val h0 ?_
  refine zT_gos (f := 200000) (pc2 := 1501) (ls2 := [(4, .int 0), (3, .ref 232), (2, .ref 162), (1, .ref 0), (0, .ref 11)]) (st2 := [.int (xs 1), .ref 0]) (h2 := zH0) (dc2 := 117) (ds2 := 29934) 7 rfl ?_
  refine zT_val h1 ?_
  refine zT_gos (f := 200000) (pc2 := 1507) (ls2 := [(4, .int 0), (3, .ref 232), (2, .ref 162), (1, .ref 0), (0, .ref 11)]) (st2 := [.int (xs 2), .int 1, .ref 0]) (h2 := zH0) (dc2 := 117) (ds2 := 29934) 5 rfl ?_
  refine zT_val h2 ?_
  refine zT_gos (f := 200000) (pc2 := 1515) (ls2 := [(4, .int 0), (3, .ref 232), (2, .ref 162), (1, .ref 0), (0, .ref 11)]) (st2 := [.int 0, .int 1, .ref 0]) (h2 := zH0) (dc2 := 117) (ds2 := 29934) 2 rfl ?_
  refine zT_call rfl rfl (zT_le (zg0_le 6 xs) zk_o_40) ?_
  refine zT_here (pc2 := 1518) rfl ?_
  refine zT_gos (f := 200000) (pc2 := 1525) (ls2 := [(4, .int 0), (3, .ref 232), (2, .ref 162), (1, .ref 0), (0, .ref 11)]) (st2 := [.int (xs 1), .ref 162, .int 0]) (h2 := zH0) (dc2 := 117) (ds2 := 29934) 6 rfl ?_
  refine zT_val h1 ?_
  refine zT_gos (f := 200000) (pc2 := 1531) (ls2 := [(4, .int 0), (3, .ref 232), (2, .ref 162), (1, .ref 0), (0, .ref 11)]) (st2 := [.int (xs 2), .int 1, .ref 162, .int 0]) (h2 := zH0) (dc2 := 117) (ds2 := 29934) 5 rfl ?_
  refine zT_val h2 ?_
  refine zT_gos (f := 200000) (pc2 := 1539) (ls2 := [(4, .int 0), (3, .ref 232), (2, .ref 162), (1, .ref 0), (0, .ref 11)]) (st2 := [.int 0, .int 1, .ref 162, .int 0]) (h2 := zH0) (dc2 := 117) (ds2 := 29934) 2 rfl ?_
  refine zT_call rfl rfl (zT_le (zg0_le 6 xs) zk_o_41) ?_
  refine zT_here (pc2 := 1542) rfl ?_
  refine zT_gos (f := 200000) (pc2 := 1811) (ls2 := [(4, .int 6), (3, .ref 232), (2, .ref 162), (1, .ref 0), (0, .ref 11)]) (st2 := [.int 1]) (h2 := (zH0.set 112 (.inl (0, 6, [0, (-1), 0, 0, 0, 0])))) (dc2 := 117) (ds2 := 29934) 10 rfl ?_
  exact zT_ret rfl rfl
set_option maxRecDepth 1000000 in
theorem zk_o_42 : zT zg0 zF zP 133 0 [(0, .ref 0), (1, .int 1), (2, .int 1)] [] zH0 0 0 (some (.int 0), zH0, 0, 0) := zclosed (n := 175) (by decide +kernel)
set_option maxRecDepth 1000000 in
theorem zk_o_43 : zT zg0 zF zP 274 0 [(0, .ref 162), (1, .int 1), (2, .int 1)] [] zH0 0 0 (some (.int 0), (zH0.set 112 (.inl (0, 6, [0, 1, 0, 0, 0, 0]))), 0, 0) := zclosed (n := 231) (by decide +kernel)
set_option maxRecDepth 1000000 in
set_option maxHeartbeats 4000000 in
theorem zo_32_7 (xs : Nat → Int32) (h0 : xs 0 &&& 63 = 32) (h1 : xs 1 = 1) (h2 : (xs 2).toInt ≠ 0) : zDone xs := by
  refine ⟨(zH0.set 112 (.inl (0, 6, [0, 1, 0, 0, 0, 0]))), 117, 29934, ?_, by decide, by decide⟩
  refine zT_gos (f := 200000) (pc2 := 37) (ls2 := [(4, .int 0), (3, .ref 232), (2, .ref 162), (1, .ref 0), (0, .ref 11)]) (st2 := [.int (xs 0)]) (h2 := zH0) (dc2 := 117) (ds2 := 29934) 9 rfl ?_
  refine zT_gos (f := 200000) (pc2 := 40) (ls2 := [(4, .int 0), (3, .ref 232), (2, .ref 162), (1, .ref 0), (0, .ref 11)]) (st2 := [.int ((xs 0) &&& (63 : Int32))]) (h2 := zH0) (dc2 := 117) (ds2 := 29934) 2 rfl ?_
  refine zT_val h0 ?_
  refine zT_gos (f := 200000) (pc2 := 1501) (ls2 := [(4, .int 0), (3, .ref 232), (2, .ref 162), (1, .ref 0), (0, .ref 11)]) (st2 := [.int (xs 1), .ref 0]) (h2 := zH0) (dc2 := 117) (ds2 := 29934) 7 rfl ?_
  refine zT_val h1 ?_
  refine zT_gos (f := 200000) (pc2 := 1507) (ls2 := [(4, .int 0), (3, .ref 232), (2, .ref 162), (1, .ref 0), (0, .ref 11)]) (st2 := [.int (xs 2), .int 1, .ref 0]) (h2 := zH0) (dc2 := 117) (ds2 := 29934) 5 rfl ?_
  refine zT_if0 false rfl (zc_eq_f (by show ((xs 2) : Int32).toInt ≠ 0; omega)) ?_
  refine zT_here (pc2 := 1510) rfl ?_
  refine zT_gos (f := 200000) (pc2 := 1515) (ls2 := [(4, .int 0), (3, .ref 232), (2, .ref 162), (1, .ref 0), (0, .ref 11)]) (st2 := [.int 1, .int 1, .ref 0]) (h2 := zH0) (dc2 := 117) (ds2 := 29934) 2 rfl ?_
  refine zT_call rfl rfl (zT_le (zg0_le 6 xs) zk_o_42) ?_
  refine zT_here (pc2 := 1518) rfl ?_
  refine zT_gos (f := 200000) (pc2 := 1525) (ls2 := [(4, .int 0), (3, .ref 232), (2, .ref 162), (1, .ref 0), (0, .ref 11)]) (st2 := [.int (xs 1), .ref 162, .int 0]) (h2 := zH0) (dc2 := 117) (ds2 := 29934) 6 rfl ?_
  refine zT_val h1 ?_
  refine zT_gos (f := 200000) (pc2 := 1531) (ls2 := [(4, .int 0), (3, .ref 232), (2, .ref 162), (1, .ref 0), (0, .ref 11)]) (st2 := [.int (xs 2), .int 1, .ref 162, .int 0]) (h2 := zH0) (dc2 := 117) (ds2 := 29934) 5 rfl ?_
  refine zT_if0 false rfl (zc_eq_f (by show ((xs 2) : Int32).toInt ≠ 0; omega)) ?_
  refine zT_here (pc2 := 1534) rfl ?_
  refine zT_gos (f := 200000) (pc2 := 1539) (ls2 := [(4, .int 0), (3, .ref 232), (2, .ref 162), (1, .ref 0), (0, .ref 11)]) (st2 := [.int 1, .int 1, .ref 162, .int 0]) (h2 := zH0) (dc2 := 117) (ds2 := 29934) 2 rfl ?_
  refine zT_call rfl rfl (zT_le (zg0_le 6 xs) zk_o_43) ?_
  refine zT_here (pc2 := 1542) rfl ?_
  refine zT_gos (f := 200000) (pc2 := 1811) (ls2 := [(4, .int 6), (3, .ref 232), (2, .ref 162), (1, .ref 0), (0, .ref 11)]) (st2 := [.int 1]) (h2 := (zH0.set 112 (.inl (0, 6, [0, 1, 0, 0, 0, 0])))) (dc2 := 117) (ds2 := 29934) 10 rfl ?_
  exact zT_ret rfl rfl
set_option maxRecDepth 1000000 in
theorem zk_o_44 : zT zg0 zF zP 133 0 [(0, .ref 0), (1, .int 2), (2, .int 0)] [] zH0 0 0 (some (.int 0), zH0, 0, 0) := zclosed (n := 174) (by decide +kernel)
set_option maxRecDepth 1000000 in
theorem zk_o_45 : zT zg0 zF zP 274 0 [(0, .ref 162), (1, .int 2), (2, .int 0)] [] zH0 0 0 (some (.int 0), (zH0.set 112 (.inl (0, 6, [0, 0, (-1), 0, 0, 0]))), 0, 0) := zclosed (n := 230) (by decide +kernel)
set_option maxRecDepth 1000000 in
set_option maxHeartbeats 4000000 in
theorem zo_32_8 (xs : Nat → Int32) (h0 : xs 0 &&& 63 = 32) (h1 : xs 1 = 2) (h2 : xs 2 = 0) : zDone xs := by
  refine ⟨(zH0.set 112 (.inl (0, 6, [0, 0, (-1), 0, 0, 0]))), 117, 29934, ?_, by decide, by decide⟩
  refine zT_gos (f := 200000) (pc2 := 37) (ls2 := [(4, .int 0), (3, .ref 232), (2, .ref 162), (1, .ref 0), (0, .ref 11)]) (st2 := [.int (xs 0)]) (h2 := zH0) (dc2 := 117) (ds2 := 29934) 9 rfl ?_
  refine zT_gos (f := 200000) (pc2 := 40) (ls2 := [(4, .int 0), (3, .ref 232), (2, .ref 162), (1, .ref 0), (0, .ref 11)]) (st2 := [.int ((xs 0) &&& (63 : Int32))]) (h2 := zH0) (dc2 := 117) (ds2 := 29934) 2 rfl ?_
  refine zT_val h0 ?_
  refine zT_gos (f := 200000) (pc2 := 1501) (ls2 := [(4, .int 0), (3, .ref 232), (2, .ref 162), (1, .ref 0), (0, .ref 11)]) (st2 := [.int (xs 1), .ref 0]) (h2 := zH0) (dc2 := 117) (ds2 := 29934) 7 rfl ?_
  refine zT_val h1 ?_
  refine zT_gos (f := 200000) (pc2 := 1507) (ls2 := [(4, .int 0), (3, .ref 232), (2, .ref 162), (1, .ref 0), (0, .ref 11)]) (st2 := [.int (xs 2), .int 2, .ref 0]) (h2 := zH0) (dc2 := 117) (ds2 := 29934) 5 rfl ?_
  refine zT_val h2 ?_
  refine zT_gos (f := 200000) (pc2 := 1515) (ls2 := [(4, .int 0), (3, .ref 232), (2, .ref 162), (1, .ref 0), (0, .ref 11)]) (st2 := [.int 0, .int 2, .ref 0]) (h2 := zH0) (dc2 := 117) (ds2 := 29934) 2 rfl ?_
  refine zT_call rfl rfl (zT_le (zg0_le 6 xs) zk_o_44) ?_
  refine zT_here (pc2 := 1518) rfl ?_
  refine zT_gos (f := 200000) (pc2 := 1525) (ls2 := [(4, .int 0), (3, .ref 232), (2, .ref 162), (1, .ref 0), (0, .ref 11)]) (st2 := [.int (xs 1), .ref 162, .int 0]) (h2 := zH0) (dc2 := 117) (ds2 := 29934) 6 rfl ?_
  refine zT_val h1 ?_
  refine zT_gos (f := 200000) (pc2 := 1531) (ls2 := [(4, .int 0), (3, .ref 232), (2, .ref 162), (1, .ref 0), (0, .ref 11)]) (st2 := [.int (xs 2), .int 2, .ref 162, .int 0]) (h2 := zH0) (dc2 := 117) (ds2 := 29934) 5 rfl ?_
  refine zT_val h2 ?_
  refine zT_gos (f := 200000) (pc2 := 1539) (ls2 := [(4, .int 0), (3, .ref 232), (2, .ref 162), (1, .ref 0), (0, .ref 11)]) (st2 := [.int 0, .int 2, .ref 162, .int 0]) (h2 := zH0) (dc2 := 117) (ds2 := 29934) 2 rfl ?_
  refine zT_call rfl rfl (zT_le (zg0_le 6 xs) zk_o_45) ?_
  refine zT_here (pc2 := 1542) rfl ?_
  refine zT_gos (f := 200000) (pc2 := 1811) (ls2 := [(4, .int 6), (3, .ref 232), (2, .ref 162), (1, .ref 0), (0, .ref 11)]) (st2 := [.int 1]) (h2 := (zH0.set 112 (.inl (0, 6, [0, 0, (-1), 0, 0, 0])))) (dc2 := 117) (ds2 := 29934) 10 rfl ?_
  exact zT_ret rfl rfl
set_option maxRecDepth 1000000 in
theorem zk_o_46 : zT zg0 zF zP 133 0 [(0, .ref 0), (1, .int 2), (2, .int 1)] [] zH0 0 0 (some (.int 0), zH0, 0, 0) := zclosed (n := 175) (by decide +kernel)
set_option maxRecDepth 1000000 in
theorem zk_o_47 : zT zg0 zF zP 274 0 [(0, .ref 162), (1, .int 2), (2, .int 1)] [] zH0 0 0 (some (.int 0), (zH0.set 112 (.inl (0, 6, [0, 0, 1, 0, 0, 0]))), 0, 0) := zclosed (n := 231) (by decide +kernel)
set_option maxRecDepth 1000000 in
set_option maxHeartbeats 4000000 in
theorem zo_32_9 (xs : Nat → Int32) (h0 : xs 0 &&& 63 = 32) (h1 : xs 1 = 2) (h2 : (xs 2).toInt ≠ 0) : zDone xs := by
  refine ⟨(zH0.set 112 (.inl (0, 6, [0, 0, 1, 0, 0, 0]))), 117, 29934, ?_, by decide, by decide⟩
  refine zT_gos (f := 200000) (pc2 := 37) (ls2 := [(4, .int 0), (3, .ref 232), (2, .ref 162), (1, .ref 0), (0, .ref 11)]) (st2 := [.int (xs 0)]) (h2 := zH0) (dc2 := 117) (ds2 := 29934) 9 rfl ?_
  refine zT_gos (f := 200000) (pc2 := 40) (ls2 := [(4, .int 0), (3, .ref 232), (2, .ref 162), (1, .ref 0), (0, .ref 11)]) (st2 := [.int ((xs 0) &&& (63 : Int32))]) (h2 := zH0) (dc2 := 117) (ds2 := 29934) 2 rfl ?_
  refine zT_val h0 ?_
  refine zT_gos (f := 200000) (pc2 := 1501) (ls2 := [(4, .int 0), (3, .ref 232), (2, .ref 162), (1, .ref 0), (0, .ref 11)]) (st2 := [.int (xs 1), .ref 0]) (h2 := zH0) (dc2 := 117) (ds2 := 29934) 7 rfl ?_
  refine zT_val h1 ?_
  refine zT_gos (f := 200000) (pc2 := 1507) (ls2 := [(4, .int 0), (3, .ref 232), (2, .ref 162), (1, .ref 0), (0, .ref 11)]) (st2 := [.int (xs 2), .int 2, .ref 0]) (h2 := zH0) (dc2 := 117) (ds2 := 29934) 5 rfl ?_
  refine zT_if0 false rfl (zc_eq_f (by show ((xs 2) : Int32).toInt ≠ 0; omega)) ?_
  refine zT_here (pc2 := 1510) rfl ?_
  refine zT_gos (f := 200000) (pc2 := 1515) (ls2 := [(4, .int 0), (3, .ref 232), (2, .ref 162), (1, .ref 0), (0, .ref 11)]) (st2 := [.int 1, .int 2, .ref 0]) (h2 := zH0) (dc2 := 117) (ds2 := 29934) 2 rfl ?_
  refine zT_call rfl rfl (zT_le (zg0_le 6 xs) zk_o_46) ?_
  refine zT_here (pc2 := 1518) rfl ?_
  refine zT_gos (f := 200000) (pc2 := 1525) (ls2 := [(4, .int 0), (3, .ref 232), (2, .ref 162), (1, .ref 0), (0, .ref 11)]) (st2 := [.int (xs 1), .ref 162, .int 0]) (h2 := zH0) (dc2 := 117) (ds2 := 29934) 6 rfl ?_
  refine zT_val h1 ?_
  refine zT_gos (f := 200000) (pc2 := 1531) (ls2 := [(4, .int 0), (3, .ref 232), (2, .ref 162), (1, .ref 0), (0, .ref 11)]) (st2 := [.int (xs 2), .int 2, .ref 162, .int 0]) (h2 := zH0) (dc2 := 117) (ds2 := 29934) 5 rfl ?_
  refine zT_if0 false rfl (zc_eq_f (by show ((xs 2) : Int32).toInt ≠ 0; omega)) ?_
  refine zT_here (pc2 := 1534) rfl ?_
  refine zT_gos (f := 200000) (pc2 := 1539) (ls2 := [(4, .int 0), (3, .ref 232), (2, .ref 162), (1, .ref 0), (0, .ref 11)]) (st2 := [.int 1, .int 2, .ref 162, .int 0]) (h2 := zH0) (dc2 := 117) (ds2 := 29934) 2 rfl ?_
  refine zT_call rfl rfl (zT_le (zg0_le 6 xs) zk_o_47) ?_
  refine zT_here (pc2 := 1542) rfl ?_
  refine zT_gos (f := 200000) (pc2 := 1811) (ls2 := [(4, .int 6), (3, .ref 232), (2, .ref 162), (1, .ref 0), (0, .ref 11)]) (st2 := [.int 1]) (h2 := (zH0.set 112 (.inl (0, 6, [0, 0, 1, 0, 0, 0])))) (dc2 := 117) (ds2 := 29934) 10 rfl ?_
  exact zT_ret rfl rfl
set_option maxRecDepth 1000000 in
theorem zk_o_48 : zT zg0 zF zP 133 0 [(0, .ref 0), (1, .int 3), (2, .int 0)] [] zH0 0 0 (some (.int 0), zH0, 0, 0) := zclosed (n := 174) (by decide +kernel)
set_option maxRecDepth 1000000 in
theorem zk_o_49 : zT zg0 zF zP 274 0 [(0, .ref 162), (1, .int 3), (2, .int 0)] [] zH0 0 0 (some (.int 0), (zH0.set 112 (.inl (0, 6, [0, 0, 0, (-1), 0, 0]))), 0, 0) := zclosed (n := 232) (by decide +kernel)
set_option maxRecDepth 1000000 in
set_option maxHeartbeats 4000000 in
theorem zo_32_10 (xs : Nat → Int32) (h0 : xs 0 &&& 63 = 32) (h1 : xs 1 = 3) (h2 : xs 2 = 0) : zDone xs := by
  refine ⟨(zH0.set 112 (.inl (0, 6, [0, 0, 0, (-1), 0, 0]))), 117, 29934, ?_, by decide, by decide⟩
  refine zT_gos (f := 200000) (pc2 := 37) (ls2 := [(4, .int 0), (3, .ref 232), (2, .ref 162), (1, .ref 0), (0, .ref 11)]) (st2 := [.int (xs 0)]) (h2 := zH0) (dc2 := 117) (ds2 := 29934) 9 rfl ?_
  refine zT_gos (f := 200000) (pc2 := 40) (ls2 := [(4, .int 0), (3, .ref 232), (2, .ref 162), (1, .ref 0), (0, .ref 11)]) (st2 := [.int ((xs 0) &&& (63 : Int32))]) (h2 := zH0) (dc2 := 117) (ds2 := 29934) 2 rfl ?_
  refine zT_val h0 ?_
  refine zT_gos (f := 200000) (pc2 := 1501) (ls2 := [(4, .int 0), (3, .ref 232), (2, .ref 162), (1, .ref 0), (0, .ref 11)]) (st2 := [.int (xs 1), .ref 0]) (h2 := zH0) (dc2 := 117) (ds2 := 29934) 7 rfl ?_
  refine zT_val h1 ?_
  refine zT_gos (f := 200000) (pc2 := 1507) (ls2 := [(4, .int 0), (3, .ref 232), (2, .ref 162), (1, .ref 0), (0, .ref 11)]) (st2 := [.int (xs 2), .int 3, .ref 0]) (h2 := zH0) (dc2 := 117) (ds2 := 29934) 5 rfl ?_
  refine zT_val h2 ?_
  refine zT_gos (f := 200000) (pc2 := 1515) (ls2 := [(4, .int 0), (3, .ref 232), (2, .ref 162), (1, .ref 0), (0, .ref 11)]) (st2 := [.int 0, .int 3, .ref 0]) (h2 := zH0) (dc2 := 117) (ds2 := 29934) 2 rfl ?_
  refine zT_call rfl rfl (zT_le (zg0_le 6 xs) zk_o_48) ?_
  refine zT_here (pc2 := 1518) rfl ?_
  refine zT_gos (f := 200000) (pc2 := 1525) (ls2 := [(4, .int 0), (3, .ref 232), (2, .ref 162), (1, .ref 0), (0, .ref 11)]) (st2 := [.int (xs 1), .ref 162, .int 0]) (h2 := zH0) (dc2 := 117) (ds2 := 29934) 6 rfl ?_
  refine zT_val h1 ?_
  refine zT_gos (f := 200000) (pc2 := 1531) (ls2 := [(4, .int 0), (3, .ref 232), (2, .ref 162), (1, .ref 0), (0, .ref 11)]) (st2 := [.int (xs 2), .int 3, .ref 162, .int 0]) (h2 := zH0) (dc2 := 117) (ds2 := 29934) 5 rfl ?_
  refine zT_val h2 ?_
  refine zT_gos (f := 200000) (pc2 := 1539) (ls2 := [(4, .int 0), (3, .ref 232), (2, .ref 162), (1, .ref 0), (0, .ref 11)]) (st2 := [.int 0, .int 3, .ref 162, .int 0]) (h2 := zH0) (dc2 := 117) (ds2 := 29934) 2 rfl ?_
  refine zT_call rfl rfl (zT_le (zg0_le 6 xs) zk_o_49) ?_
  refine zT_here (pc2 := 1542) rfl ?_
  refine zT_gos (f := 200000) (pc2 := 1811) (ls2 := [(4, .int 6), (3, .ref 232), (2, .ref 162), (1, .ref 0), (0, .ref 11)]) (st2 := [.int 1]) (h2 := (zH0.set 112 (.inl (0, 6, [0, 0, 0, (-1), 0, 0])))) (dc2 := 117) (ds2 := 29934) 10 rfl ?_
  exact zT_ret rfl rfl
set_option maxRecDepth 1000000 in
theorem zk_o_50 : zT zg0 zF zP 133 0 [(0, .ref 0), (1, .int 3), (2, .int 1)] [] zH0 0 0 (some (.int 0), zH0, 0, 0) := zclosed (n := 175) (by decide +kernel)
set_option maxRecDepth 1000000 in
theorem zk_o_51 : zT zg0 zF zP 274 0 [(0, .ref 162), (1, .int 3), (2, .int 1)] [] zH0 0 0 (some (.int 0), (zH0.set 112 (.inl (0, 6, [0, 0, 0, 1, 0, 0]))), 0, 0) := zclosed (n := 231) (by decide +kernel)
set_option maxRecDepth 1000000 in
set_option maxHeartbeats 4000000 in
theorem zo_32_11 (xs : Nat → Int32) (h0 : xs 0 &&& 63 = 32) (h1 : xs 1 = 3) (h2 : (xs 2).toInt ≠ 0) : zDone xs := by
  refine ⟨(zH0.set 112 (.inl (0, 6, [0, 0, 0, 1, 0, 0]))), 117, 29934, ?_, by decide, by decide⟩
  refine zT_gos (f := 200000) (pc2 := 37) (ls2 := [(4, .int 0), (3, .ref 232), (2, .ref 162), (1, .ref 0), (0, .ref 11)]) (st2 := [.int (xs 0)]) (h2 := zH0) (dc2 := 117) (ds2 := 29934) 9 rfl ?_
  refine zT_gos (f := 200000) (pc2 := 40) (ls2 := [(4, .int 0), (3, .ref 232), (2, .ref 162), (1, .ref 0), (0, .ref 11)]) (st2 := [.int ((xs 0) &&& (63 : Int32))]) (h2 := zH0) (dc2 := 117) (ds2 := 29934) 2 rfl ?_
  refine zT_val h0 ?_
  refine zT_gos (f := 200000) (pc2 := 1501) (ls2 := [(4, .int 0), (3, .ref 232), (2, .ref 162), (1, .ref 0), (0, .ref 11)]) (st2 := [.int (xs 1), .ref 0]) (h2 := zH0) (dc2 := 117) (ds2 := 29934) 7 rfl ?_
  refine zT_val h1 ?_
  refine zT_gos (f := 200000) (pc2 := 1507) (ls2 := [(4, .int 0), (3, .ref 232), (2, .ref 162), (1, .ref 0), (0, .ref 11)]) (st2 := [.int (xs 2), .int 3, .ref 0]) (h2 := zH0) (dc2 := 117) (ds2 := 29934) 5 rfl ?_
  refine zT_if0 false rfl (zc_eq_f (by show ((xs 2) : Int32).toInt ≠ 0; omega)) ?_
  refine zT_here (pc2 := 1510) rfl ?_
  refine zT_gos (f := 200000) (pc2 := 1515) (ls2 := [(4, .int 0), (3, .ref 232), (2, .ref 162), (1, .ref 0), (0, .ref 11)]) (st2 := [.int 1, .int 3, .ref 0]) (h2 := zH0) (dc2 := 117) (ds2 := 29934) 2 rfl ?_
  refine zT_call rfl rfl (zT_le (zg0_le 6 xs) zk_o_50) ?_
  refine zT_here (pc2 := 1518) rfl ?_
  refine zT_gos (f := 200000) (pc2 := 1525) (ls2 := [(4, .int 0), (3, .ref 232), (2, .ref 162), (1, .ref 0), (0, .ref 11)]) (st2 := [.int (xs 1), .ref 162, .int 0]) (h2 := zH0) (dc2 := 117) (ds2 := 29934) 6 rfl ?_
  refine zT_val h1 ?_
  refine zT_gos (f := 200000) (pc2 := 1531) (ls2 := [(4, .int 0), (3, .ref 232), (2, .ref 162), (1, .ref 0), (0, .ref 11)]) (st2 := [.int (xs 2), .int 3, .ref 162, .int 0]) (h2 := zH0) (dc2 := 117) (ds2 := 29934) 5 rfl ?_
  refine zT_if0 false rfl (zc_eq_f (by show ((xs 2) : Int32).toInt ≠ 0; omega)) ?_
  refine zT_here (pc2 := 1534) rfl ?_
  refine zT_gos (f := 200000) (pc2 := 1539) (ls2 := [(4, .int 0), (3, .ref 232), (2, .ref 162), (1, .ref 0), (0, .ref 11)]) (st2 := [.int 1, .int 3, .ref 162, .int 0]) (h2 := zH0) (dc2 := 117) (ds2 := 29934) 2 rfl ?_
  refine zT_call rfl rfl (zT_le (zg0_le 6 xs) zk_o_51) ?_
  refine zT_here (pc2 := 1542) rfl ?_
  refine zT_gos (f := 200000) (pc2 := 1811) (ls2 := [(4, .int 6), (3, .ref 232), (2, .ref 162), (1, .ref 0), (0, .ref 11)]) (st2 := [.int 1]) (h2 := (zH0.set 112 (.inl (0, 6, [0, 0, 0, 1, 0, 0])))) (dc2 := 117) (ds2 := 29934) 10 rfl ?_
  exact zT_ret rfl rfl
set_option maxRecDepth 1000000 in
theorem zk_o_52 : zT zg0 zF zP 133 0 [(0, .ref 0), (1, .int 4), (2, .int 0)] [] zH0 0 0 (some (.int 0), zH0, 0, 0) := zclosed (n := 174) (by decide +kernel)
set_option maxRecDepth 1000000 in
theorem zk_o_53 : zT zg0 zF zP 274 0 [(0, .ref 162), (1, .int 4), (2, .int 0)] [] zH0 0 0 (some (.int 0), (zH0.set 112 (.inl (0, 6, [0, 0, 0, 0, (-1), 0]))), 0, 0) := zclosed (n := 230) (by decide +kernel)
set_option maxRecDepth 1000000 in
set_option maxHeartbeats 4000000 in
theorem zo_32_12 (xs : Nat → Int32) (h0 : xs 0 &&& 63 = 32) (h1 : xs 1 = 4) (h2 : xs 2 = 0) : zDone xs := by
  refine ⟨(zH0.set 112 (.inl (0, 6, [0, 0, 0, 0, (-1), 0]))), 117, 29934, ?_, by decide, by decide⟩
  refine zT_gos (f := 200000) (pc2 := 37) (ls2 := [(4, .int 0), (3, .ref 232), (2, .ref 162), (1, .ref 0), (0, .ref 11)]) (st2 := [.int (xs 0)]) (h2 := zH0) (dc2 := 117) (ds2 := 29934) 9 rfl ?_
  refine zT_gos (f := 200000) (pc2 := 40) (ls2 := [(4, .int 0), (3, .ref 232), (2, .ref 162), (1, .ref 0), (0, .ref 11)]) (st2 := [.int ((xs 0) &&& (63 : Int32))]) (h2 := zH0) (dc2 := 117) (ds2 := 29934) 2 rfl ?_
  refine zT_val h0 ?_
  refine zT_gos (f := 200000) (pc2 := 1501) (ls2 := [(4, .int 0), (3, .ref 232), (2, .ref 162), (1, .ref 0), (0, .ref 11)]) (st2 := [.int (xs 1), .ref 0]) (h2 := zH0) (dc2 := 117) (ds2 := 29934) 7 rfl ?_
  refine zT_val h1 ?_
  refine zT_gos (f := 200000) (pc2 := 1507) (ls2 := [(4, .int 0), (3, .ref 232), (2, .ref 162), (1, .ref 0), (0, .ref 11)]) (st2 := [.int (xs 2), .int 4, .ref 0]) (h2 := zH0) (dc2 := 117) (ds2 := 29934) 5 rfl ?_
  refine zT_val h2 ?_
  refine zT_gos (f := 200000) (pc2 := 1515) (ls2 := [(4, .int 0), (3, .ref 232), (2, .ref 162), (1, .ref 0), (0, .ref 11)]) (st2 := [.int 0, .int 4, .ref 0]) (h2 := zH0) (dc2 := 117) (ds2 := 29934) 2 rfl ?_
  refine zT_call rfl rfl (zT_le (zg0_le 6 xs) zk_o_52) ?_
  refine zT_here (pc2 := 1518) rfl ?_
  refine zT_gos (f := 200000) (pc2 := 1525) (ls2 := [(4, .int 0), (3, .ref 232), (2, .ref 162), (1, .ref 0), (0, .ref 11)]) (st2 := [.int (xs 1), .ref 162, .int 0]) (h2 := zH0) (dc2 := 117) (ds2 := 29934) 6 rfl ?_
  refine zT_val h1 ?_
  refine zT_gos (f := 200000) (pc2 := 1531) (ls2 := [(4, .int 0), (3, .ref 232), (2, .ref 162), (1, .ref 0), (0, .ref 11)]) (st2 := [.int (xs 2), .int 4, .ref 162, .int 0]) (h2 := zH0) (dc2 := 117) (ds2 := 29934) 5 rfl ?_
  refine zT_val h2 ?_
  refine zT_gos (f := 200000) (pc2 := 1539) (ls2 := [(4, .int 0), (3, .ref 232), (2, .ref 162), (1, .ref 0), (0, .ref 11)]) (st2 := [.int 0, .int 4, .ref 162, .int 0]) (h2 := zH0) (dc2 := 117) (ds2 := 29934) 2 rfl ?_
  refine zT_call rfl rfl (zT_le (zg0_le 6 xs) zk_o_53) ?_
  refine zT_here (pc2 := 1542) rfl ?_
  refine zT_gos (f := 200000) (pc2 := 1811) (ls2 := [(4, .int 6), (3, .ref 232), (2, .ref 162), (1, .ref 0), (0, .ref 11)]) (st2 := [.int 1]) (h2 := (zH0.set 112 (.inl (0, 6, [0, 0, 0, 0, (-1), 0])))) (dc2 := 117) (ds2 := 29934) 10 rfl ?_
  exact zT_ret rfl rfl
set_option maxRecDepth 1000000 in
theorem zk_o_54 : zT zg0 zF zP 133 0 [(0, .ref 0), (1, .int 4), (2, .int 1)] [] zH0 0 0 (some (.int 0), zH0, 0, 0) := zclosed (n := 175) (by decide +kernel)
set_option maxRecDepth 1000000 in
theorem zk_o_55 : zT zg0 zF zP 274 0 [(0, .ref 162), (1, .int 4), (2, .int 1)] [] zH0 0 0 (some (.int 0), (zH0.set 112 (.inl (0, 6, [0, 0, 0, 0, 1, 0]))), 0, 0) := zclosed (n := 231) (by decide +kernel)
set_option maxRecDepth 1000000 in
set_option maxHeartbeats 4000000 in
theorem zo_32_13 (xs : Nat → Int32) (h0 : xs 0 &&& 63 = 32) (h1 : xs 1 = 4) (h2 : (xs 2).toInt ≠ 0) : zDone xs := by
  refine ⟨(zH0.set 112 (.inl (0, 6, [0, 0, 0, 0, 1, 0]))), 117, 29934, ?_, by decide, by decide⟩
  refine zT_gos (f := 200000) (pc2 := 37) (ls2 := [(4, .int 0), (3, .ref 232), (2, .ref 162), (1, .ref 0), (0, .ref 11)]) (st2 := [.int (xs 0)]) (h2 := zH0) (dc2 := 117) (ds2 := 29934) 9 rfl ?_
  refine zT_gos (f := 200000) (pc2 := 40) (ls2 := [(4, .int 0), (3, .ref 232), (2, .ref 162), (1, .ref 0), (0, .ref 11)]) (st2 := [.int ((xs 0) &&& (63 : Int32))]) (h2 := zH0) (dc2 := 117) (ds2 := 29934) 2 rfl ?_
  refine zT_val h0 ?_
  refine zT_gos (f := 200000) (pc2 := 1501) (ls2 := [(4, .int 0), (3, .ref 232), (2, .ref 162), (1, .ref 0), (0, .ref 11)]) (st2 := [.int (xs 1), .ref 0]) (h2 := zH0) (dc2 := 117) (ds2 := 29934) 7 rfl ?_
  refine zT_val h1 ?_
  refine zT_gos (f := 200000) (pc2 := 1507) (ls2 := [(4, .int 0), (3, .ref 232), (2, .ref 162), (1, .ref 0), (0, .ref 11)]) (st2 := [.int (xs 2), .int 4, .ref 0]) (h2 := zH0) (dc2 := 117) (ds2 := 29934) 5 rfl ?_
  refine zT_if0 false rfl (zc_eq_f (by show ((xs 2) : Int32).toInt ≠ 0; omega)) ?_
  refine zT_here (pc2 := 1510) rfl ?_
  refine zT_gos (f := 200000) (pc2 := 1515) (ls2 := [(4, .int 0), (3, .ref 232), (2, .ref 162), (1, .ref 0), (0, .ref 11)]) (st2 := [.int 1, .int 4, .ref 0]) (h2 := zH0) (dc2 := 117) (ds2 := 29934) 2 rfl ?_
  refine zT_call rfl rfl (zT_le (zg0_le 6 xs) zk_o_54) ?_
  refine zT_here (pc2 := 1518) rfl ?_
  refine zT_gos (f := 200000) (pc2 := 1525) (ls2 := [(4, .int 0), (3, .ref 232), (2, .ref 162), (1, .ref 0), (0, .ref 11)]) (st2 := [.int (xs 1), .ref 162, .int 0]) (h2 := zH0) (dc2 := 117) (ds2 := 29934) 6 rfl ?_
  refine zT_val h1 ?_
  refine zT_gos (f := 200000) (pc2 := 1531) (ls2 := [(4, .int 0), (3, .ref 232), (2, .ref 162), (1, .ref 0), (0, .ref 11)]) (st2 := [.int (xs 2), .int 4, .ref 162, .int 0]) (h2 := zH0) (dc2 := 117) (ds2 := 29934) 5 rfl ?_
  refine zT_if0 false rfl (zc_eq_f (by show ((xs 2) : Int32).toInt ≠ 0; omega)) ?_
  refine zT_here (pc2 := 1534) rfl ?_
  refine zT_gos (f := 200000) (pc2 := 1539) (ls2 := [(4, .int 0), (3, .ref 232), (2, .ref 162), (1, .ref 0), (0, .ref 11)]) (st2 := [.int 1, .int 4, .ref 162, .int 0]) (h2 := zH0) (dc2 := 117) (ds2 := 29934) 2 rfl ?_
  refine zT_call rfl rfl (zT_le (zg0_le 6 xs) zk_o_55) ?_
  refine zT_here (pc2 := 1542) rfl ?_
  refine zT_gos (f := 200000) (pc2 := 1811) (ls2 := [(4, .int 6), (3, .ref 232), (2, .ref 162), (1, .ref 0), (0, .ref 11)]) (st2 := [.int 1]) (h2 := (zH0.set 112 (.inl (0, 6, [0, 0, 0, 0, 1, 0])))) (dc2 := 117) (ds2 := 29934) 10 rfl ?_
  exact zT_ret rfl rfl
set_option maxRecDepth 1000000 in
theorem zk_o_56 : zT zg0 zF zP 133 0 [(0, .ref 0), (1, .int 5), (2, .int 0)] [] zH0 0 0 (some (.int 0), zH0, 0, 0) := zclosed (n := 174) (by decide +kernel)
set_option maxRecDepth 1000000 in
theorem zk_o_57 : zT zg0 zF zP 274 0 [(0, .ref 162), (1, .int 5), (2, .int 0)] [] zH0 0 0 (some (.int 0), (zH0.set 112 (.inl (0, 6, [0, 0, 0, 0, 0, (-1)]))), 0, 0) := zclosed (n := 230) (by decide +kernel)
set_option maxRecDepth 1000000 in
set_option maxHeartbeats 4000000 in
theorem zo_32_14 (xs : Nat → Int32) (h0 : xs 0 &&& 63 = 32) (h1 : xs 1 = 5) (h2 : xs 2 = 0) : zDone xs := by
  refine ⟨(zH0.set 112 (.inl (0, 6, [0, 0, 0, 0, 0, (-1)]))), 117, 29934, ?_, by decide, by decide⟩
  refine zT_gos (f := 200000) (pc2 := 37) (ls2 := [(4, .int 0), (3, .ref 232), (2, .ref 162), (1, .ref 0), (0, .ref 11)]) (st2 := [.int (xs 0)]) (h2 := zH0) (dc2 := 117) (ds2 := 29934) 9 rfl ?_
  refine zT_gos (f := 200000) (pc2 := 40) (ls2 := [(4, .int 0), (3, .ref 232), (2, .ref 162), (1, .ref 0), (0, .ref 11)]) (st2 := [.int ((xs 0) &&& (63 : Int32))]) (h2 := zH0) (dc2 := 117) (ds2 := 29934) 2 rfl ?_
  refine zT_val h0 ?_
  refine zT_gos (f := 200000) (pc2 := 1501) (ls2 := [(4, .int 0), (3, .ref 232), (2, .ref 162), (1, .ref 0), (0, .ref 11)]) (st2 := [.int (xs 1), .ref 0]) (h2 := zH0) (dc2 := 117) (ds2 := 29934) 7 rfl ?_
  refine zT_val h1 ?_
  refine zT_gos (f := 200000) (pc2 := 1507) (ls2 := [(4, .int 0), (3, .ref 232), (2, .ref 162), (1, .ref 0), (0, .ref 11)]) (st2 := [.int (xs 2), .int 5, .ref 0]) (h2 := zH0) (dc2 := 117) (ds2 := 29934) 5 rfl ?_
  refine zT_val h2 ?_
  refine zT_gos (f := 200000) (pc2 := 1515) (ls2 := [(4, .int 0), (3, .ref 232), (2, .ref 162), (1, .ref 0), (0, .ref 11)]) (st2 := [.int 0, .int 5, .ref 0]) (h2 := zH0) (dc2 := 117) (ds2 := 29934) 2 rfl ?_
  refine zT_call rfl rfl (zT_le (zg0_le 6 xs) zk_o_56) ?_
  refine zT_here (pc2 := 1518) rfl ?_
  refine zT_gos (f := 200000) (pc2 := 1525) (ls2 := [(4, .int 0), (3, .ref 232), (2, .ref 162), (1, .ref 0), (0, .ref 11)]) (st2 := [.int (xs 1), .ref 162, .int 0]) (h2 := zH0) (dc2 := 117) (ds2 := 29934) 6 rfl ?_
  refine zT_val h1 ?_
  refine zT_gos (f := 200000) (pc2 := 1531) (ls2 := [(4, .int 0), (3, .ref 232), (2, .ref 162), (1, .ref 0), (0, .ref 11)]) (st2 := [.int (xs 2), .int 5, .ref 162, .int 0]) (h2 := zH0) (dc2 := 117) (ds2 := 29934) 5 rfl ?_
  refine zT_val h2 ?_
  refine zT_gos (f := 200000) (pc2 := 1539) (ls2 := [(4, .int 0), (3, .ref 232), (2, .ref 162), (1, .ref 0), (0, .ref 11)]) (st2 := [.int 0, .int 5, .ref 162, .int 0]) (h2 := zH0) (dc2 := 117) (ds2 := 29934) 2 rfl ?_
  refine zT_call rfl rfl (zT_le (zg0_le 6 xs) zk_o_57) ?_
  refine zT_here (pc2 := 1542) rfl ?_
  refine zT_gos (f := 200000) (pc2 := 1811) (ls2 := [(4, .int 6), (3, .ref 232), (2, .ref 162), (1, .ref 0), (0, .ref 11)]) (st2 := [.int 1]) (h2 := (zH0.set 112 (.inl (0, 6, [0, 0, 0, 0, 0, (-1)])))) (dc2 := 117) (ds2 := 29934) 10 rfl ?_
  exact zT_ret rfl rfl
set_option maxRecDepth 1000000 in
theorem zk_o_58 : zT zg0 zF zP 133 0 [(0, .ref 0), (1, .int 5), (2, .int 1)] [] zH0 0 0 (some (.int 0), zH0, 0, 0) := zclosed (n := 175) (by decide +kernel)
set_option maxRecDepth 1000000 in
theorem zk_o_59 : zT zg0 zF zP 274 0 [(0, .ref 162), (1, .int 5), (2, .int 1)] [] zH0 0 0 (some (.int 0), (zH0.set 112 (.inl (0, 6, [0, 0, 0, 0, 0, 1]))), 0, 0) := zclosed (n := 231) (by decide +kernel)
set_option maxRecDepth 1000000 in
set_option maxHeartbeats 4000000 in
theorem zo_32_15 (xs : Nat → Int32) (h0 : xs 0 &&& 63 = 32) (h1 : xs 1 = 5) (h2 : (xs 2).toInt ≠ 0) : zDone xs := by
  refine ⟨(zH0.set 112 (.inl (0, 6, [0, 0, 0, 0, 0, 1]))), 117, 29934, ?_, by decide, by decide⟩
  refine zT_gos (f := 200000) (pc2 := 37) (ls2 := [(4, .int 0), (3, .ref 232), (2, .ref 162), (1, .ref 0), (0, .ref 11)]) (st2 := [.int (xs 0)]) (h2 := zH0) (dc2 := 117) (ds2 := 29934) 9 rfl ?_
  refine zT_gos (f := 200000) (pc2 := 40) (ls2 := [(4, .int 0), (3, .ref 232), (2, .ref 162), (1, .ref 0), (0, .ref 11)]) (st2 := [.int ((xs 0) &&& (63 : Int32))]) (h2 := zH0) (dc2 := 117) (ds2 := 29934) 2 rfl ?_
  refine zT_val h0 ?_
  refine zT_gos (f := 200000) (pc2 := 1501) (ls2 := [(4, .int 0), (3, .ref 232), (2, .ref 162), (1, .ref 0), (0, .ref 11)]) (st2 := [.int (xs 1), .ref 0]) (h2 := zH0) (dc2 := 117) (ds2 := 29934) 7 rfl ?_
  refine zT_val h1 ?_
  refine zT_gos (f := 200000) (pc2 := 1507) (ls2 := [(4, .int 0), (3, .ref 232), (2, .ref 162), (1, .ref 0), (0, .ref 11)]) (st2 := [.int (xs 2), .int 5, .ref 0]) (h2 := zH0) (dc2 := 117) (ds2 := 29934) 5 rfl ?_
  refine zT_if0 false rfl (zc_eq_f (by show ((xs 2) : Int32).toInt ≠ 0; omega)) ?_
  refine zT_here (pc2 := 1510) rfl ?_
  refine zT_gos (f := 200000) (pc2 := 1515) (ls2 := [(4, .int 0), (3, .ref 232), (2, .ref 162), (1, .ref 0), (0, .ref 11)]) (st2 := [.int 1, .int 5, .ref 0]) (h2 := zH0) (dc2 := 117) (ds2 := 29934) 2 rfl ?_
  refine zT_call rfl rfl (zT_le (zg0_le 6 xs) zk_o_58) ?_
  refine zT_here (pc2 := 1518) rfl ?_
  refine zT_gos (f := 200000) (pc2 := 1525) (ls2 := [(4, .int 0), (3, .ref 232), (2, .ref 162), (1, .ref 0), (0, .ref 11)]) (st2 := [.int (xs 1), .ref 162, .int 0]) (h2 := zH0) (dc2 := 117) (ds2 := 29934) 6 rfl ?_
  refine zT_val h1 ?_
  refine zT_gos (f := 200000) (pc2 := 1531) (ls2 := [(4, .int 0), (3, .ref 232), (2, .ref 162), (1, .ref 0), (0, .ref 11)]) (st2 := [.int (xs 2), .int 5, .ref 162, .int 0]) (h2 := zH0) (dc2 := 117) (ds2 := 29934) 5 rfl ?_
  refine zT_if0 false rfl (zc_eq_f (by show ((xs 2) : Int32).toInt ≠ 0; omega)) ?_
  refine zT_here (pc2 := 1534) rfl ?_
  refine zT_gos (f := 200000) (pc2 := 1539) (ls2 := [(4, .int 0), (3, .ref 232), (2, .ref 162), (1, .ref 0), (0, .ref 11)]) (st2 := [.int 1, .int 5, .ref 162, .int 0]) (h2 := zH0) (dc2 := 117) (ds2 := 29934) 2 rfl ?_
  refine zT_call rfl rfl (zT_le (zg0_le 6 xs) zk_o_59) ?_
  refine zT_here (pc2 := 1542) rfl ?_
  refine zT_gos (f := 200000) (pc2 := 1811) (ls2 := [(4, .int 6), (3, .ref 232), (2, .ref 162), (1, .ref 0), (0, .ref 11)]) (st2 := [.int 1]) (h2 := (zH0.set 112 (.inl (0, 6, [0, 0, 0, 0, 0, 1])))) (dc2 := 117) (ds2 := 29934) 10 rfl ?_
  exact zT_ret rfl rfl
theorem zop_32 (xs : Nat → Int32) (h0 : xs 0 &&& 63 = 32) : zDone xs := by
  rcases (show (xs 1).toInt < 0 ∨ 5 < (xs 1).toInt ∨ (xs 1).toInt = 0 ∨ (xs 1).toInt = 1 ∨ (xs 1).toInt = 2 ∨ (xs 1).toInt = 3 ∨ (xs 1).toInt = 4 ∨ (xs 1).toInt = 5 by omega) with h1 | h1 | h1 | h1 | h1 | h1 | h1 | h1
  · have h1 := h1
    rcases (show (xs 2).toInt = 0 ∨ (xs 2).toInt ≠ 0 by omega) with h2 | h2
    · have h2 : xs 2 = 0 := Int32.toInt_inj.mp h2
      exact zo_32_0 xs h0 h1 h2
    · have h2 := h2
      exact zo_32_1 xs h0 h1 h2
  · have h1 := h1
    rcases (show (xs 2).toInt = 0 ∨ (xs 2).toInt ≠ 0 by omega) with h2 | h2
    · have h2 : xs 2 = 0 := Int32.toInt_inj.mp h2
      exact zo_32_2 xs h0 h1 h2
    · have h2 := h2
      exact zo_32_3 xs h0 h1 h2
  · have h1 : xs 1 = 0 := Int32.toInt_inj.mp h1
    rcases (show (xs 2).toInt = 0 ∨ (xs 2).toInt ≠ 0 by omega) with h2 | h2
    · have h2 : xs 2 = 0 := Int32.toInt_inj.mp h2
      exact zo_32_4 xs h0 h1 h2
    · have h2 := h2
      exact zo_32_5 xs h0 h1 h2
  · have h1 : xs 1 = 1 := Int32.toInt_inj.mp h1
    rcases (show (xs 2).toInt = 0 ∨ (xs 2).toInt ≠ 0 by omega) with h2 | h2
    · have h2 : xs 2 = 0 := Int32.toInt_inj.mp h2
      exact zo_32_6 xs h0 h1 h2
    · have h2 := h2
      exact zo_32_7 xs h0 h1 h2
  · have h1 : xs 1 = 2 := Int32.toInt_inj.mp h1
    rcases (show (xs 2).toInt = 0 ∨ (xs 2).toInt ≠ 0 by omega) with h2 | h2
    · have h2 : xs 2 = 0 := Int32.toInt_inj.mp h2
      exact zo_32_8 xs h0 h1 h2
    · have h2 := h2
      exact zo_32_9 xs h0 h1 h2
  · have h1 : xs 1 = 3 := Int32.toInt_inj.mp h1
    rcases (show (xs 2).toInt = 0 ∨ (xs 2).toInt ≠ 0 by omega) with h2 | h2
    · have h2 : xs 2 = 0 := Int32.toInt_inj.mp h2
      exact zo_32_10 xs h0 h1 h2
    · have h2 := h2
      exact zo_32_11 xs h0 h1 h2
  · have h1 : xs 1 = 4 := Int32.toInt_inj.mp h1
    rcases (show (xs 2).toInt = 0 ∨ (xs 2).toInt ≠ 0 by omega) with h2 | h2
    · have h2 : xs 2 = 0 := Int32.toInt_inj.mp h2
      exact zo_32_12 xs h0 h1 h2
    · have h2 := h2
      exact zo_32_13 xs h0 h1 h2
  · have h1 : xs 1 = 5 := Int32.toInt_inj.mp h1
    rcases (show (xs 2).toInt = 0 ∨ (xs 2).toInt ≠ 0 by omega) with h2 | h2
    · have h2 : xs 2 = 0 := Int32.toInt_inj.mp h2
      exact zo_32_14 xs h0 h1 h2
    · have h2 := h2
      exact zo_32_15 xs h0 h1 h2
set_option maxRecDepth 1000000 in
theorem zk_o_60 : zT zg0 zF zP 267 0 [(0, .ref 162), (1, .int 0)] [] (((zH0.set 37 (.inr (.inr (.inr (3, [.ref 44, .ref 6, .ref 76, .ref 78, .ref 80, .ref 88, .int 1, .int 0, .ref 96, .int 0, .int 0, .int 0, .ref 98, .ref 100, .int 0]))))).set 40 (.inr (.inr (.inr (6, [.int 1, .long 70644700037184, .int 0, .ref 82, .ref 84, .ref 86]))))).set 43 (.inr (.inl (16, [70644700037184])))) 0 0 (some (.int 0), (((((((zH0.set 37 (.inr (.inr (.inr (3, [.ref 44, .ref 6, .ref 76, .ref 78, .ref 80, .ref 88, .int 1, .int 0, .ref 96, .int 0, .int 0, .int 0, .ref 98, .ref 100, .int 0]))))).set 40 (.inr (.inr (.inr (6, [.int 1, .long 70644700037184, .int 0, .ref 82, .ref 84, .ref 86]))))).set 43 (.inr (.inl (16, [70644700037184])))).set 106 (.inl (2, 2, [1, 0]))).set 105 (.inl (0, 2, [0]))).set 107 (.inl (0, 132, [0, 0, 0, 0, 0, 0]))).set 109 (.inl (0, 22, [0]))), 0, 0) := zclosed (n := 199) (by decide +kernel)
set_option maxRecDepth 1000000 in
set_option maxHeartbeats 4000000 in
theorem zo_33_0 (xs : Nat → Int32) (h0 : xs 0 &&& 63 = 33) (h1 : xs 1 = 0) : zDone xs := by
  refine ⟨(((((((zH0.set 37 (.inr (.inr (.inr (3, [.ref 44, .ref 6, .ref 76, .ref 78, .ref 80, .ref 88, .int 1, .int 0, .ref 96, .int 0, .int 0, .int 0, .ref 98, .ref 100, .int 0]))))).set 40 (.inr (.inr (.inr (6, [.int 1, .long 70644700037184, .int 0, .ref 82, .ref 84, .ref 86]))))).set 43 (.inr (.inl (16, [70644700037184])))).set 106 (.inl (2, 2, [1, 0]))).set 105 (.inl (0, 2, [0]))).set 107 (.inl (0, 132, [0, 0, 0, 0, 0, 0]))).set 109 (.inl (0, 22, [0]))), 117, 29934, ?_, by decide, by decide⟩
  refine zT_gos (f := 200000) (pc2 := 37) (ls2 := [(4, .int 0), (3, .ref 232), (2, .ref 162), (1, .ref 0), (0, .ref 11)]) (st2 := [.int (xs 0)]) (h2 := zH0) (dc2 := 117) (ds2 := 29934) 9 rfl ?_
  refine zT_gos (f := 200000) (pc2 := 40) (ls2 := [(4, .int 0), (3, .ref 232), (2, .ref 162), (1, .ref 0), (0, .ref 11)]) (st2 := [.int ((xs 0) &&& (63 : Int32))]) (h2 := zH0) (dc2 := 117) (ds2 := 29934) 2 rfl ?_
  refine zT_val h0 ?_
  refine zT_gos (f := 200000) (pc2 := 1554) (ls2 := [(4, .int 0), (3, .ref 232), (2, .ref 162), (1, .ref 0), (0, .ref 11)]) (st2 := [.int (xs 1), .ref 0]) (h2 := zH0) (dc2 := 117) (ds2 := 29934) 7 rfl ?_
  refine zT_val h1 ?_
  refine zT_gos (f := 200000) (pc2 := 1572) (ls2 := [(4, .int 0), (3, .ref 232), (2, .ref 162), (1, .ref 0), (0, .ref 11)]) (st2 := [.int (xs 1), .ref 162, .int 0]) (h2 := (((zH0.set 37 (.inr (.inr (.inr (3, [.ref 44, .ref 6, .ref 76, .ref 78, .ref 80, .ref 88, .int 1, .int 0, .ref 96, .int 0, .int 0, .int 0, .ref 98, .ref 100, .int 0]))))).set 40 (.inr (.inr (.inr (6, [.int 1, .long 70644700037184, .int 0, .ref 82, .ref 84, .ref 86]))))).set 43 (.inr (.inl (16, [70644700037184]))))) (dc2 := 117) (ds2 := 29934) 9 rfl ?_
  refine zT_val h1 ?_
  refine zT_gos (f := 200000) (pc2 := 1580) (ls2 := [(4, .int 0), (3, .ref 232), (2, .ref 162), (1, .ref 0), (0, .ref 11)]) (st2 := [.int 0, .ref 162, .int 0]) (h2 := (((zH0.set 37 (.inr (.inr (.inr (3, [.ref 44, .ref 6, .ref 76, .ref 78, .ref 80, .ref 88, .int 1, .int 0, .ref 96, .int 0, .int 0, .int 0, .ref 98, .ref 100, .int 0]))))).set 40 (.inr (.inr (.inr (6, [.int 1, .long 70644700037184, .int 0, .ref 82, .ref 84, .ref 86]))))).set 43 (.inr (.inl (16, [70644700037184]))))) (dc2 := 117) (ds2 := 29934) 2 rfl ?_
  refine zT_call rfl rfl (zT_le (zg0_le 6 xs) zk_o_60) ?_
  refine zT_here (pc2 := 1583) rfl ?_
  refine zT_gos (f := 200000) (pc2 := 1811) (ls2 := [(4, .int 6), (3, .ref 232), (2, .ref 162), (1, .ref 0), (0, .ref 11)]) (st2 := [.int 1]) (h2 := (((((((zH0.set 37 (.inr (.inr (.inr (3, [.ref 44, .ref 6, .ref 76, .ref 78, .ref 80, .ref 88, .int 1, .int 0, .ref 96, .int 0, .int 0, .int 0, .ref 98, .ref 100, .int 0]))))).set 40 (.inr (.inr (.inr (6, [.int 1, .long 70644700037184, .int 0, .ref 82, .ref 84, .ref 86]))))).set 43 (.inr (.inl (16, [70644700037184])))).set 106 (.inl (2, 2, [1, 0]))).set 105 (.inl (0, 2, [0]))).set 107 (.inl (0, 132, [0, 0, 0, 0, 0, 0]))).set 109 (.inl (0, 22, [0])))) (dc2 := 117) (ds2 := 29934) 10 rfl ?_
  exact zT_ret rfl rfl
set_option maxRecDepth 1000000 in
theorem zk_o_61 : zT zg0 zF zP 267 0 [(0, .ref 162), (1, .int 1)] [] (((zH0.set 37 (.inr (.inr (.inr (3, [.ref 44, .ref 6, .ref 76, .ref 78, .ref 80, .ref 88, .int 1, .int 0, .ref 96, .int 0, .int 0, .int 0, .ref 98, .ref 100, .int 0]))))).set 44 (.inr (.inr (.inr (6, [.int 1, .long 70644700037184, .int 0, .ref 90, .ref 92, .ref 94]))))).set 47 (.inr (.inl (16, [70644700037184])))) 0 0 (some (.int 0), (((((((zH0.set 37 (.inr (.inr (.inr (3, [.ref 44, .ref 6, .ref 76, .ref 78, .ref 80, .ref 88, .int 1, .int 0, .ref 96, .int 0, .int 0, .int 0, .ref 98, .ref 100, .int 0]))))).set 44 (.inr (.inr (.inr (6, [.int 1, .long 70644700037184, .int 0, .ref 90, .ref 92, .ref 94]))))).set 47 (.inr (.inl (16, [70644700037184])))).set 106 (.inl (2, 2, [0, 1]))).set 105 (.inl (0, 2, [0, 0]))).set 107 (.inl (0, 132, [0, 0, 0, 0, 0, 0, 0, 0, 0, 0, 0, 0, 0, 0, 0, 0, 0, 0, 0, 0, 0, 0, 0, 0, 0, 0, 0, 0, 0, 0, 0, 0, 0, 0, 0, 0, 0, 0, 0, 0, 0, 0, 0, 0, 0, 0, 0, 0, 0, 0, 0, 0, 0, 0, 0, 0, 0, 0, 0, 0, 0, 0, 0, 0, 0, 0, 0, 0, 0, 0, 0, 0]))).set 109 (.inl (0, 22, [0, 0, 0, 0, 0, 0, 0, 0, 0, 0, 0, 0]))), 0, 0) := zclosed (n := 201) (by decide +kernel)
set_option maxRecDepth 1000000 in
set_option maxHeartbeats 4000000 in
theorem zo_33_1 (xs : Nat → Int32) (h0 : xs 0 &&& 63 = 33) (h1 : (xs 1).toInt ≠ 0) : zDone xs := by
  refine ⟨(((((((zH0.set 37 (.inr (.inr (.inr (3, [.ref 44, .ref 6, .ref 76, .ref 78, .ref 80, .ref 88, .int 1, .int 0, .ref 96, .int 0, .int 0, .int 0, .ref 98, .ref 100, .int 0]))))).set 44 (.inr (.inr (.inr (6, [.int 1, .long 70644700037184, .int 0, .ref 90, .ref 92, .ref 94]))))).set 47 (.inr (.inl (16, [70644700037184])))).set 106 (.inl (2, 2, [0, 1]))).set 105 (.inl (0, 2, [0, 0]))).set 107 (.inl (0, 132, [0, 0, 0, 0, 0, 0, 0, 0, 0, 0, 0, 0, 0, 0, 0, 0, 0, 0, 0, 0, 0, 0, 0, 0, 0, 0, 0, 0, 0, 0, 0, 0, 0, 0, 0, 0, 0, 0, 0, 0, 0, 0, 0, 0, 0, 0, 0, 0, 0, 0, 0, 0, 0, 0, 0, 0, 0, 0, 0, 0, 0, 0, 0, 0, 0, 0, 0, 0, 0, 0, 0, 0]))).set 109 (.inl (0, 22, [0, 0, 0, 0, 0, 0, 0, 0, 0, 0, 0, 0]))), 117, 29934, ?_, by decide, by decide⟩
  refine zT_gos (f := 200000) (pc2 := 37) (ls2 := [(4, .int 0), (3, .ref 232), (2, .ref 162), (1, .ref 0), (0, .ref 11)]) (st2 := [.int (xs 0)]) (h2 := zH0) (dc2 := 117) (ds2 := 29934) 9 rfl ?_
  refine zT_gos (f := 200000) (pc2 := 40) (ls2 := [(4, .int 0), (3, .ref 232), (2, .ref 162), (1, .ref 0), (0, .ref 11)]) (st2 := [.int ((xs 0) &&& (63 : Int32))]) (h2 := zH0) (dc2 := 117) (ds2 := 29934) 2 rfl ?_
  refine zT_val h0 ?_
  refine zT_gos (f := 200000) (pc2 := 1554) (ls2 := [(4, .int 0), (3, .ref 232), (2, .ref 162), (1, .ref 0), (0, .ref 11)]) (st2 := [.int (xs 1), .ref 0]) (h2 := zH0) (dc2 := 117) (ds2 := 29934) 7 rfl ?_
  refine zT_if0 false rfl (zc_eq_f (by show ((xs 1) : Int32).toInt ≠ 0; omega)) ?_
  refine zT_here (pc2 := 1557) rfl ?_
  refine zT_gos (f := 200000) (pc2 := 1572) (ls2 := [(4, .int 0), (3, .ref 232), (2, .ref 162), (1, .ref 0), (0, .ref 11)]) (st2 := [.int (xs 1), .ref 162, .int 0]) (h2 := (((zH0.set 37 (.inr (.inr (.inr (3, [.ref 44, .ref 6, .ref 76, .ref 78, .ref 80, .ref 88, .int 1, .int 0, .ref 96, .int 0, .int 0, .int 0, .ref 98, .ref 100, .int 0]))))).set 44 (.inr (.inr (.inr (6, [.int 1, .long 70644700037184, .int 0, .ref 90, .ref 92, .ref 94]))))).set 47 (.inr (.inl (16, [70644700037184]))))) (dc2 := 117) (ds2 := 29934) 9 rfl ?_
  refine zT_if0 false rfl (zc_eq_f (by show ((xs 1) : Int32).toInt ≠ 0; omega)) ?_
  refine zT_here (pc2 := 1575) rfl ?_
  refine zT_gos (f := 200000) (pc2 := 1580) (ls2 := [(4, .int 0), (3, .ref 232), (2, .ref 162), (1, .ref 0), (0, .ref 11)]) (st2 := [.int 1, .ref 162, .int 0]) (h2 := (((zH0.set 37 (.inr (.inr (.inr (3, [.ref 44, .ref 6, .ref 76, .ref 78, .ref 80, .ref 88, .int 1, .int 0, .ref 96, .int 0, .int 0, .int 0, .ref 98, .ref 100, .int 0]))))).set 44 (.inr (.inr (.inr (6, [.int 1, .long 70644700037184, .int 0, .ref 90, .ref 92, .ref 94]))))).set 47 (.inr (.inl (16, [70644700037184]))))) (dc2 := 117) (ds2 := 29934) 2 rfl ?_
  refine zT_call rfl rfl (zT_le (zg0_le 6 xs) zk_o_61) ?_
  refine zT_here (pc2 := 1583) rfl ?_
  refine zT_gos (f := 200000) (pc2 := 1811) (ls2 := [(4, .int 6), (3, .ref 232), (2, .ref 162), (1, .ref 0), (0, .ref 11)]) (st2 := [.int 1]) (h2 := (((((((zH0.set 37 (.inr (.inr (.inr (3, [.ref 44, .ref 6, .ref 76, .ref 78, .ref 80, .ref 88, .int 1, .int 0, .ref 96, .int 0, .int 0, .int 0, .ref 98, .ref 100, .int 0]))))).set 44 (.inr (.inr (.inr (6, [.int 1, .long 70644700037184, .int 0, .ref 90, .ref 92, .ref 94]))))).set 47 (.inr (.inl (16, [70644700037184])))).set 106 (.inl (2, 2, [0, 1]))).set 105 (.inl (0, 2, [0, 0]))).set 107 (.inl (0, 132, [0, 0, 0, 0, 0, 0, 0, 0, 0, 0, 0, 0, 0, 0, 0, 0, 0, 0, 0, 0, 0, 0, 0, 0, 0, 0, 0, 0, 0, 0, 0, 0, 0, 0, 0, 0, 0, 0, 0, 0, 0, 0, 0, 0, 0, 0, 0, 0, 0, 0, 0, 0, 0, 0, 0, 0, 0, 0, 0, 0, 0, 0, 0, 0, 0, 0, 0, 0, 0, 0, 0, 0]))).set 109 (.inl (0, 22, [0, 0, 0, 0, 0, 0, 0, 0, 0, 0, 0, 0])))) (dc2 := 117) (ds2 := 29934) 10 rfl ?_
  exact zT_ret rfl rfl
theorem zop_33 (xs : Nat → Int32) (h0 : xs 0 &&& 63 = 33) : zDone xs := by
  rcases (show (xs 1).toInt = 0 ∨ (xs 1).toInt ≠ 0 by omega) with h1 | h1
  · have h1 : xs 1 = 0 := Int32.toInt_inj.mp h1
    exact zo_33_0 xs h0 h1
  · have h1 := h1
    exact zo_33_1 xs h0 h1
set_option maxRecDepth 1000000 in
theorem zk_o_62 : zT zg0 zF zP 135 0 [(0, .ref 0), (1, .int 0)] [] zH0 0 0 (some (.int 0), (((zH0.set 37 (.inr (.inr (.inr (3, [.ref 44, .ref 6, .ref 76, .ref 78, .ref 80, .ref 88, .int 1, .int 0, .ref 96, .int 0, .int 0, .int 0, .ref 98, .ref 100, .int 0]))))).set 40 (.inr (.inr (.inr (6, [.int 1, .long 70644700037184, .int 0, .ref 82, .ref 84, .ref 86]))))).set 43 (.inr (.inl (16, [70644700037184])))), 0, 0) := zclosed (n := 175) (by decide +kernel)
set_option maxRecDepth 1000000 in
theorem zk_o_63 : zT zg0 zF zP 268 0 [(0, .ref 162), (1, .int 0)] [] (((zH0.set 37 (.inr (.inr (.inr (3, [.ref 44, .ref 6, .ref 76, .ref 78, .ref 80, .ref 88, .int 1, .int 0, .ref 96, .int 0, .int 0, .int 0, .ref 98, .ref 100, .int 0]))))).set 40 (.inr (.inr (.inr (6, [.int 1, .long 70644700037184, .int 0, .ref 82, .ref 84, .ref 86]))))).set 43 (.inr (.inl (16, [70644700037184])))) 0 0 (some (.int 0), ((((((((zH0.set 37 (.inr (.inr (.inr (3, [.ref 44, .ref 6, .ref 76, .ref 78, .ref 80, .ref 88, .int 1, .int 0, .ref 96, .int 0, .int 0, .int 0, .ref 98, .ref 100, .int 0]))))).set 40 (.inr (.inr (.inr (6, [.int 1, .long 70644700037184, .int 0, .ref 82, .ref 84, .ref 86]))))).set 43 (.inr (.inl (16, [70644700037184])))).set 106 (.inl (2, 2, [1, 0]))).set 105 (.inl (0, 2, [0]))).set 107 (.inl (0, 132, [0, 0, 0, 0, 0, 0]))).set 109 (.inl (0, 22, [0]))).set 112 (.inl (0, 6, [0, 0, 0, 0, 0, 0]))), 0, 0) := zclosed (n := 458) (by decide +kernel)
set_option maxRecDepth 1000000 in
set_option maxHeartbeats 4000000 in
theorem zo_34_0 (xs : Nat → Int32) (h0 : xs 0 &&& 63 = 34) (h1 : xs 1 = 0) : zDone xs := by
  refine ⟨((((((((zH0.set 37 (.inr (.inr (.inr (3, [.ref 44, .ref 6, .ref 76, .ref 78, .ref 80, .ref 88, .int 1, .int 0, .ref 96, .int 0, .int 0, .int 0, .ref 98, .ref 100, .int 0]))))).set 40 (.inr (.inr (.inr (6, [.int 1, .long 70644700037184, .int 0, .ref 82, .ref 84, .ref 86]))))).set 43 (.inr (.inl (16, [70644700037184])))).set 106 (.inl (2, 2, [1, 0]))).set 105 (.inl (0, 2, [0]))).set 107 (.inl (0, 132, [0, 0, 0, 0, 0, 0]))).set 109 (.inl (0, 22, [0]))).set 112 (.inl (0, 6, [0, 0, 0, 0, 0, 0]))), 117, 29934, ?_, by decide, by decide⟩
  refine zT_gos (f := 200000) (pc2 := 37) (ls2 := [(4, .int 0), (3, .ref 232), (2, .ref 162), (1, .ref 0), (0, .ref 11)]) (st2 := [.int (xs 0)]) (h2 := zH0) (dc2 := 117) (ds2 := 29934) 9 rfl ?_
  refine zT_gos (f := 200000) (pc2 := 40) (ls2 := [(4, .int 0), (3, .ref 232), (2, .ref 162), (1, .ref 0), (0, .ref 11)]) (st2 := [.int ((xs 0) &&& (63 : Int32))]) (h2 := zH0) (dc2 := 117) (ds2 := 29934) 2 rfl ?_
  refine zT_val h0 ?_
  refine zT_gos (f := 200000) (pc2 := 1595) (ls2 := [(4, .int 0), (3, .ref 232), (2, .ref 162), (1, .ref 0), (0, .ref 11)]) (st2 := [.int (xs 1), .ref 0]) (h2 := zH0) (dc2 := 117) (ds2 := 29934) 7 rfl ?_
  refine zT_val h1 ?_
  refine zT_gos (f := 200000) (pc2 := 1603) (ls2 := [(4, .int 0), (3, .ref 232), (2, .ref 162), (1, .ref 0), (0, .ref 11)]) (st2 := [.int 0, .ref 0]) (h2 := zH0) (dc2 := 117) (ds2 := 29934) 2 rfl ?_
  refine zT_call rfl rfl (zT_le (zg0_le 6 xs) zk_o_62) ?_
  refine zT_here (pc2 := 1606) rfl ?_
  refine zT_gos (f := 200000) (pc2 := 1613) (ls2 := [(4, .int 0), (3, .ref 232), (2, .ref 162), (1, .ref 0), (0, .ref 11)]) (st2 := [.int (xs 1), .ref 162, .int 0]) (h2 := (((zH0.set 37 (.inr (.inr (.inr (3, [.ref 44, .ref 6, .ref 76, .ref 78, .ref 80, .ref 88, .int 1, .int 0, .ref 96, .int 0, .int 0, .int 0, .ref 98, .ref 100, .int 0]))))).set 40 (.inr (.inr (.inr (6, [.int 1, .long 70644700037184, .int 0, .ref 82, .ref 84, .ref 86]))))).set 43 (.inr (.inl (16, [70644700037184]))))) (dc2 := 117) (ds2 := 29934) 6 rfl ?_
  refine zT_val h1 ?_
  refine zT_gos (f := 200000) (pc2 := 1621) (ls2 := [(4, .int 0), (3, .ref 232), (2, .ref 162), (1, .ref 0), (0, .ref 11)]) (st2 := [.int 0, .ref 162, .int 0]) (h2 := (((zH0.set 37 (.inr (.inr (.inr (3, [.ref 44, .ref 6, .ref 76, .ref 78, .ref 80, .ref 88, .int 1, .int 0, .ref 96, .int 0, .int 0, .int 0, .ref 98, .ref 100, .int 0]))))).set 40 (.inr (.inr (.inr (6, [.int 1, .long 70644700037184, .int 0, .ref 82, .ref 84, .ref 86]))))).set 43 (.inr (.inl (16, [70644700037184]))))) (dc2 := 117) (ds2 := 29934) 2 rfl ?_
  refine zT_call rfl rfl (zT_le (zg0_le 6 xs) zk_o_63) ?_
  refine zT_here (pc2 := 1624) rfl ?_
  refine zT_gos (f := 200000) (pc2 := 1811) (ls2 := [(4, .int 6), (3, .ref 232), (2, .ref 162), (1, .ref 0), (0, .ref 11)]) (st2 := [.int 1]) (h2 := ((((((((zH0.set 37 (.inr (.inr (.inr (3, [.ref 44, .ref 6, .ref 76, .ref 78, .ref 80, .ref 88, .int 1, .int 0, .ref 96, .int 0, .int 0, .int 0, .ref 98, .ref 100, .int 0]))))).set 40 (.inr (.inr (.inr (6, [.int 1, .long 70644700037184, .int 0, .ref 82, .ref 84, .ref 86]))))).set 43 (.inr (.inl (16, [70644700037184])))).set 106 (.inl (2, 2, [1, 0]))).set 105 (.inl (0, 2, [0]))).set 107 (.inl (0, 132, [0, 0, 0, 0, 0, 0]))).set 109 (.inl (0, 22, [0]))).set 112 (.inl (0, 6, [0, 0, 0, 0, 0, 0])))) (dc2 := 117) (ds2 := 29934) 10 rfl ?_
  exact zT_ret rfl rfl
set_option maxRecDepth 1000000 in
theorem zk_o_64 : zT zg0 zF zP 135 0 [(0, .ref 0), (1, .int 1)] [] zH0 0 0 (some (.int 0), (((zH0.set 37 (.inr (.inr (.inr (3, [.ref 44, .ref 6, .ref 76, .ref 78, .ref 80, .ref 88, .int 1, .int 0, .ref 96, .int 0, .int 0, .int 0, .ref 98, .ref 100, .int 0]))))).set 44 (.inr (.inr (.inr (6, [.int 1, .long 70644700037184, .int 0, .ref 90, .ref 92, .ref 94]))))).set 47 (.inr (.inl (16, [70644700037184])))), 0, 0) := zclosed (n := 176) (by decide +kernel)
set_option maxRecDepth 1000000 in
theorem zk_o_65 : zT zg0 zF zP 268 0 [(0, .ref 162), (1, .int 1)] [] (((zH0.set 37 (.inr (.inr (.inr (3, [.ref 44, .ref 6, .ref 76, .ref 78, .ref 80, .ref 88, .int 1, .int 0, .ref 96, .int 0, .int 0, .int 0, .ref 98, .ref 100, .int 0]))))).set 44 (.inr (.inr (.inr (6, [.int 1, .long 70644700037184, .int 0, .ref 90, .ref 92, .ref 94]))))).set 47 (.inr (.inl (16, [70644700037184])))) 0 0 (some (.int 0), ((((((((zH0.set 37 (.inr (.inr (.inr (3, [.ref 44, .ref 6, .ref 76, .ref 78, .ref 80, .ref 88, .int 1, .int 0, .ref 96, .int 0, .int 0, .int 0, .ref 98, .ref 100, .int 0]))))).set 44 (.inr (.inr (.inr (6, [.int 1, .long 70644700037184, .int 0, .ref 90, .ref 92, .ref 94]))))).set 47 (.inr (.inl (16, [70644700037184])))).set 106 (.inl (2, 2, [0, 1]))).set 105 (.inl (0, 2, [0, 0]))).set 107 (.inl (0, 132, [0, 0, 0, 0, 0, 0, 0, 0, 0, 0, 0, 0, 0, 0, 0, 0, 0, 0, 0, 0, 0, 0, 0, 0, 0, 0, 0, 0, 0, 0, 0, 0, 0, 0, 0, 0, 0, 0, 0, 0, 0, 0, 0, 0, 0, 0, 0, 0, 0, 0, 0, 0, 0, 0, 0, 0, 0, 0, 0, 0, 0, 0, 0, 0, 0, 0, 0, 0, 0, 0, 0, 0]))).set 109 (.inl (0, 22, [0, 0, 0, 0, 0, 0, 0, 0, 0, 0, 0, 0]))).set 112 (.inl (0, 6, [0, 0, 0, 0, 0, 0]))), 0, 0) := zclosed (n := 461) (by decide +kernel)
set_option maxRecDepth 1000000 in
set_option maxHeartbeats 4000000 in
theorem zo_34_1 (xs : Nat → Int32) (h0 : xs 0 &&& 63 = 34) (h1 : (xs 1).toInt ≠ 0) : zDone xs := by
  refine ⟨((((((((zH0.set 37 (.inr (.inr (.inr (3, [.ref 44, .ref 6, .ref 76, .ref 78, .ref 80, .ref 88, .int 1, .int 0, .ref 96, .int 0, .int 0, .int 0, .ref 98, .ref 100, .int 0]))))).set 44 (.inr (.inr (.inr (6, [.int 1, .long 70644700037184, .int 0, .ref 90, .ref 92, .ref 94]))))).set 47 (.inr (.inl (16, [70644700037184])))).set 106 (.inl (2, 2, [0, 1]))).set 105 (.inl (0, 2, [0, 0]))).set 107 (.inl (0, 132, [0, 0, 0, 0, 0, 0, 0, 0, 0, 0, 0, 0, 0, 0, 0, 0, 0, 0, 0, 0, 0, 0, 0, 0, 0, 0, 0, 0, 0, 0, 0, 0, 0, 0, 0, 0, 0, 0, 0, 0, 0, 0, 0, 0, 0, 0, 0, 0, 0, 0, 0, 0, 0, 0, 0, 0, 0, 0, 0, 0, 0, 0, 0, 0, 0, 0, 0, 0, 0, 0, 0, 0]))).set 109 (.inl (0, 22, [0, 0, 0, 0, 0, 0, 0, 0, 0, 0, 0, 0]))).set 112 (.inl (0, 6, [0, 0, 0, 0, 0, 0]))), 117, 29934, ?_, by decide, by decide⟩
  refine zT_gos (f := 200000) (pc2 := 37) (ls2 := [(4, .int 0), (3, .ref 232), (2, .ref 162), (1, .ref 0), (0, .ref 11)]) (st2 := [.int (xs 0)]) (h2 := zH0) (dc2 := 117) (ds2 := 29934) 9 rfl ?_
  refine zT_gos (f := 200000) (pc2 := 40) (ls2 := [(4, .int 0), (3, .ref 232), (2, .ref 162), (1, .ref 0), (0, .ref 11)]) (st2 := [.int ((xs 0) &&& (63 : Int32))]) (h2 := zH0) (dc2 := 117) (ds2 := 29934) 2 rfl ?_
  refine zT_val h0 ?_
  refine zT_gos (f := 200000) (pc2 := 1595) (ls2 := [(4, .int 0), (3, .ref 232), (2, .ref 162), (1, .ref 0), (0, .ref 11)]) (st2 := [.int (xs 1), .ref 0]) (h2 := zH0) (dc2 := 117) (ds2 := 29934) 7 rfl ?_
  refine zT_if0 false rfl (zc_eq_f (by show ((xs 1) : Int32).toInt ≠ 0; omega)) ?_
  refine zT_here (pc2 := 1598) rfl ?_
  refine zT_gos (f := 200000) (pc2 := 1603) (ls2 := [(4, .int 0), (3, .ref 232), (2, .ref 162), (1, .ref 0), (0, .ref 11)]) (st2 := [.int 1, .ref 0]) (h2 := zH0) (dc2 := 117) (ds2 := 29934) 2 rfl ?_
  refine zT_call rfl rfl (zT_le (zg0_le 6 xs) zk_o_64) ?_
  refine zT_here (pc2 := 1606) rfl ?_
  refine zT_gos (f := 200000) (pc2 := 1613) (ls2 := [(4, .int 0), (3, .ref 232), (2, .ref 162), (1, .ref 0), (0, .ref 11)]) (st2 := [.int (xs 1), .ref 162, .int 0]) (h2 := (((zH0.set 37 (.inr (.inr (.inr (3, [.ref 44, .ref 6, .ref 76, .ref 78, .ref 80, .ref 88, .int 1, .int 0, .ref 96, .int 0, .int 0, .int 0, .ref 98, .ref 100, .int 0]))))).set 44 (.inr (.inr (.inr (6, [.int 1, .long 70644700037184, .int 0, .ref 90, .ref 92, .ref 94]))))).set 47 (.inr (.inl (16, [70644700037184]))))) (dc2 := 117) (ds2 := 29934) 6 rfl ?_
  refine zT_if0 false rfl (zc_eq_f (by show ((xs 1) : Int32).toInt ≠ 0; omega)) ?_
  refine zT_here (pc2 := 1616) rfl ?_
  refine zT_gos (f := 200000) (pc2 := 1621) (ls2 := [(4, .int 0), (3, .ref 232), (2, .ref 162), (1, .ref 0), (0, .ref 11)]) (st2 := [.int 1, .ref 162, .int 0]) (h2 := (((zH0.set 37 (.inr (.inr (.inr (3, [.ref 44, .ref 6, .ref 76, .ref 78, .ref 80, .ref 88, .int 1, .int 0, .ref 96, .int 0, .int 0, .int 0, .ref 98, .ref 100, .int 0]))))).set 44 (.inr (.inr (.inr (6, [.int 1, .long 70644700037184, .int 0, .ref 90, .ref 92, .ref 94]))))).set 47 (.inr (.inl (16, [70644700037184]))))) (dc2 := 117) (ds2 := 29934) 2 rfl ?_
  refine zT_call rfl rfl (zT_le (zg0_le 6 xs) zk_o_65) ?_
  refine zT_here (pc2 := 1624) rfl ?_
  refine zT_gos (f := 200000) (pc2 := 1811) (ls2 := [(4, .int 6), (3, .ref 232), (2, .ref 162), (1, .ref 0), (0, .ref 11)]) (st2 := [.int 1]) (h2 := ((((((((zH0.set 37 (.inr (.inr (.inr (3, [.ref 44, .ref 6, .ref 76, .ref 78, .ref 80, .ref 88, .int 1, .int 0, .ref 96, .int 0, .int 0, .int 0, .ref 98, .ref 100, .int 0]))))).set 44 (.inr (.inr (.inr (6, [.int 1, .long 70644700037184, .int 0, .ref 90, .ref 92, .ref 94]))))).set 47 (.inr (.inl (16, [70644700037184])))).set 106 (.inl (2, 2, [0, 1]))).set 105 (.inl (0, 2, [0, 0]))).set 107 (.inl (0, 132, [0, 0, 0, 0, 0, 0, 0, 0, 0, 0, 0, 0, 0, 0, 0, 0, 0, 0, 0, 0, 0, 0, 0, 0, 0, 0, 0, 0, 0, 0, 0, 0, 0, 0, 0, 0, 0, 0, 0, 0, 0, 0, 0, 0, 0, 0, 0, 0, 0, 0, 0, 0, 0, 0, 0, 0, 0, 0, 0, 0, 0, 0, 0, 0, 0, 0, 0, 0, 0, 0, 0, 0]))).set 109 (.inl (0, 22, [0, 0, 0, 0, 0, 0, 0, 0, 0, 0, 0, 0]))).set 112 (.inl (0, 6, [0, 0, 0, 0, 0, 0])))) (dc2 := 117) (ds2 := 29934) 10 rfl ?_
  exact zT_ret rfl rfl
theorem zop_34 (xs : Nat → Int32) (h0 : xs 0 &&& 63 = 34) : zDone xs := by
  rcases (show (xs 1).toInt = 0 ∨ (xs 1).toInt ≠ 0 by omega) with h1 | h1
  · have h1 : xs 1 = 0 := Int32.toInt_inj.mp h1
    exact zo_34_0 xs h0 h1
  · have h1 := h1
    exact zo_34_1 xs h0 h1
