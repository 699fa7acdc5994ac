/-! Ops of the law at the first state: printed by a program (wip/gen/ops_all.py). -/
set_option maxRecDepth 1000000 in
set_option maxHeartbeats 4000000 in
theorem zo_24_0 (xs : Nat → Int32) (h0 : xs 0 &&& 63 = 24) (h1 : xs 1 = 0) (h3 : (xs 3).toInt < 0) (h2 : (xs 2).toInt < -2) : zDone xs := by
  refine ⟨((((zH0.set 106 (.inl (2, 2, [1, 0]))).set 105 (.inl (0, 2, [0]))).set 107 (.inl (0, 132, [0, 0, 0, 0, 0, 0]))).set 109 (.inl (0, 22, [0]))), 117, 29934, ?_, by decide, by decide⟩
  refine zT_gos (f := 200000) (pc2 := 37) (ls2 := [(4, .int 0), (3, .ref 232), (2, .ref 162), (1, .ref 0), (0, .ref 11)]) (st2 := [.int (xs 0)]) (h2 := zH0) (dc2 := 117) (ds2 := 29934) 9 rfl ?_
  refine zT_gos (f := 200000) (pc2 := 40) (ls2 := [(4, .int 0), (3, .ref 232), (2, .ref 162), (1, .ref 0), (0, .ref 11)]) (st2 := [.int ((xs 0) &&& (63 : Int32))]) (h2 := zH0) (dc2 := 117) (ds2 := 29934) 2 rfl ?_
  refine zT_val h0 ?_
  refine zT_gos (f := 200000) (pc2 := 1104) (ls2 := [(4, .int 0), (3, .ref 232), (2, .ref 162), (1, .ref 0), (0, .ref 11)]) (st2 := [.int (xs 1), .ref 0]) (h2 := zH0) (dc2 := 117) (ds2 := 29934) 7 rfl ?_
  refine zT_val h1 ?_
  refine zT_gos (f := 200000) (pc2 := 1118) (ls2 := [(4, .int 0), (3, .ref 232), (2, .ref 162), (1, .ref 0), (0, .ref 11)]) (st2 := [.int (xs 2), .int 0, .ref 0]) (h2 := zH0) (dc2 := 117) (ds2 := 29934) 7 rfl ?_
  refine zT_gos (f := 200000) (pc2 := 1124) (ls2 := [(4, .int 0), (3, .ref 232), (2, .ref 162), (1, .ref 0), (0, .ref 11)]) (st2 := [.int (xs 3), .int (xs 2), .int 0, .ref 0]) (h2 := zH0) (dc2 := 117) (ds2 := 29934) 5 rfl ?_
  refine zT_call (v := some (.int (-9999))) (h2 := zH0) (d1 := 0) (s1 := 0) rfl rfl ?_ ?_
  · refine zT_gos (f := 200000) (pc2 := 1) (ls2 := [(0, .ref 0), (1, .int 0), (2, .int (xs 2)), (3, .int (xs 3))]) (st2 := [.int (xs 3)]) (h2 := zH0) (dc2 := 0) (ds2 := 0) 1 rfl ?_
    refine zT_call (v := some (.int 1)) (h2 := zH0) (d1 := 0) (s1 := 0) rfl rfl ?_ ?_
    · refine zT_gos (f := 200000) (pc2 := 1) (ls2 := [(0, .int (xs 3))]) (st2 := [.int (xs 3)]) (h2 := zH0) (dc2 := 0) (ds2 := 0) 1 rfl ?_
      refine zT_if0 true rfl (zc_lt_t (by show ((xs 3) : Int32).toInt < 0; omega)) ?_
      refine zT_here (pc2 := 10) rfl ?_
      refine zT_gos (f := 200000) (pc2 := 15) (ls2 := [(0, .int (xs 3))]) (st2 := [.int 1]) (h2 := zH0) (dc2 := 0) (ds2 := 0) 2 rfl ?_
      exact zT_ret rfl rfl
    refine zT_here (pc2 := 4) rfl ?_
    refine zT_gos (f := 200000) (pc2 := 10) (ls2 := [(0, .ref 0), (1, .int 0), (2, .int (xs 2)), (3, .int (xs 3))]) (st2 := [.int (-9999)]) (h2 := zH0) (dc2 := 0) (ds2 := 0) 2 rfl ?_
    exact zT_ret rfl rfl
  refine zT_here (pc2 := 1127) rfl ?_
  refine zT_gos (f := 200000) (pc2 := 1134) (ls2 := [(4, .int 0), (3, .ref 232), (2, .ref 162), (1, .ref 0), (0, .ref 11)]) (st2 := [.int (xs 1), .ref 162, .int (-9999)]) (h2 := zH0) (dc2 := 117) (ds2 := 29934) 6 rfl ?_
  refine zT_val h1 ?_
  refine zT_gos (f := 200000) (pc2 := 1148) (ls2 := [(4, .int 0), (3, .ref 232), (2, .ref 162), (1, .ref 0), (0, .ref 11)]) (st2 := [.int (xs 2), .int 0, .ref 162, .int (-9999)]) (h2 := zH0) (dc2 := 117) (ds2 := 29934) 7 rfl ?_
  refine zT_gos (f := 200000) (pc2 := 1154) (ls2 := [(4, .int 0), (3, .ref 232), (2, .ref 162), (1, .ref 0), (0, .ref 11)]) (st2 := [.int (xs 3), .int (xs 2), .int 0, .ref 162, .int (-9999)]) (h2 := zH0) (dc2 := 117) (ds2 := 29934) 5 rfl ?_
  refine zT_call (v := some (.int (-9999))) (h2 := ((((zH0.set 106 (.inl (2, 2, [1, 0]))).set 105 (.inl (0, 2, [0]))).set 107 (.inl (0, 132, [0, 0, 0, 0, 0, 0]))).set 109 (.inl (0, 22, [0])))) (d1 := 0) (s1 := 0) rfl rfl ?_ ?_
  · refine zT_gos (f := 200000) (pc2 := 7) (ls2 := [(0, .ref 162), (1, .int 0), (2, .int (xs 2)), (3, .int (xs 3))]) (st2 := [.int 0, .ref 162]) (h2 := zH0) (dc2 := 0) (ds2 := 0) 5 rfl ?_
    refine zT_call rfl rfl (zT_le (zg0_le 6 xs) zk_o_115) ?_
    refine zT_here (pc2 := 10) rfl ?_
    refine zT_gos (f := 200000) (pc2 := 29) (ls2 := [(5, .int 2), (4, .int 0), (0, .ref 162), (1, .int 0), (2, .int (xs 2)), (3, .int (xs 3))]) (st2 := [.int (-2), .int (xs 2)]) (h2 := ((((zH0.set 106 (.inl (2, 2, [1, 0]))).set 105 (.inl (0, 2, [0]))).set 107 (.inl (0, 132, [0, 0, 0, 0, 0, 0]))).set 109 (.inl (0, 22, [0])))) (dc2 := 0) (ds2 := 0) 11 rfl ?_
    refine zT_if2 true rfl (zc_lt_t (by show ((xs 2) : Int32).toInt < -2; omega)) ?_
    refine zT_here (pc2 := 48) rfl ?_
    refine zT_gos (f := 200000) (pc2 := 71) (ls2 := [(5, .int 2), (4, .int 0), (0, .ref 162), (1, .int 0), (2, .int (xs 2)), (3, .int (xs 3))]) (st2 := [.int (-9999)]) (h2 := ((((zH0.set 106 (.inl (2, 2, [1, 0]))).set 105 (.inl (0, 2, [0]))).set 107 (.inl (0, 132, [0, 0, 0, 0, 0, 0]))).set 109 (.inl (0, 22, [0])))) (dc2 := 0) (ds2 := 0) 2 rfl ?_
    exact zT_ret rfl rfl
  refine zT_here (pc2 := 1157) rfl ?_
  refine zT_gos (f := 200000) (pc2 := 1811) (ls2 := [(4, .int 6), (3, .ref 232), (2, .ref 162), (1, .ref 0), (0, .ref 11)]) (st2 := [.int 1]) (h2 := ((((zH0.set 106 (.inl (2, 2, [1, 0]))).set 105 (.inl (0, 2, [0]))).set 107 (.inl (0, 132, [0, 0, 0, 0, 0, 0]))).set 109 (.inl (0, 22, [0])))) (dc2 := 117) (ds2 := 29934) 10 rfl ?_
  exact zT_ret rfl rfl
set_option maxRecDepth 1000000 in
set_option maxHeartbeats 4000000 in
theorem zo_24_1 (xs : Nat → Int32) (h0 : xs 0 &&& 63 = 24) (h1 : xs 1 = 0) (h3 : (xs 3).toInt < 0) (h2 : 2 < (xs 2).toInt) : zDone xs := by
  refine ⟨((((zH0.set 106 (.inl (2, 2, [1, 0]))).set 105 (.inl (0, 2, [0]))).set 107 (.inl (0, 132, [0, 0, 0, 0, 0, 0]))).set 109 (.inl (0, 22, [0]))), 117, 29934, ?_, by decide, by decide⟩
  refine zT_gos (f := 200000) (pc2 := 37) (ls2 := [(4, .int 0), (3, .ref 232), (2, .ref 162), (1, .ref 0), (0, .ref 11)]) (st2 := [.int (xs 0)]) (h2 := zH0) (dc2 := 117) (ds2 := 29934) 9 rfl ?_
  refine zT_gos (f := 200000) (pc2 := 40) (ls2 := [(4, .int 0), (3, .ref 232), (2, .ref 162), (1, .ref 0), (0, .ref 11)]) (st2 := [.int ((xs 0) &&& (63 : Int32))]) (h2 := zH0) (dc2 := 117) (ds2 := 29934) 2 rfl ?_
  refine zT_val h0 ?_
  refine zT_gos (f := 200000) (pc2 := 1104) (ls2 := [(4, .int 0), (3, .ref 232), (2, .ref 162), (1, .ref 0), (0, .ref 11)]) (st2 := [.int (xs 1), .ref 0]) (h2 := zH0) (dc2 := 117) (ds2 := 29934) 7 rfl ?_
  refine zT_val h1 ?_
  refine zT_gos (f := 200000) (pc2 := 1118) (ls2 := [(4, .int 0), (3, .ref 232), (2, .ref 162), (1, .ref 0), (0, .ref 11)]) (st2 := [.int (xs 2), .int 0, .ref 0]) (h2 := zH0) (dc2 := 117) (ds2 := 29934) 7 rfl ?_
  refine zT_gos (f := 200000) (pc2 := 1124) (ls2 := [(4, .int 0), (3, .ref 232), (2, .ref 162), (1, .ref 0), (0, .ref 11)]) (st2 := [.int (xs 3), .int (xs 2), .int 0, .ref 0]) (h2 := zH0) (dc2 := 117) (ds2 := 29934) 5 rfl ?_
  refine zT_call (v := some (.int (-9999))) (h2 := zH0) (d1 := 0) (s1 := 0) rfl rfl ?_ ?_
  · refine zT_gos (f := 200000) (pc2 := 1) (ls2 := [(0, .ref 0), (1, .int 0), (2, .int (xs 2)), (3, .int (xs 3))]) (st2 := [.int (xs 3)]) (h2 := zH0) (dc2 := 0) (ds2 := 0) 1 rfl ?_
    refine zT_call (v := some (.int 1)) (h2 := zH0) (d1 := 0) (s1 := 0) rfl rfl ?_ ?_
    · refine zT_gos (f := 200000) (pc2 := 1) (ls2 := [(0, .int (xs 3))]) (st2 := [.int (xs 3)]) (h2 := zH0) (dc2 := 0) (ds2 := 0) 1 rfl ?_
      refine zT_if0 true rfl (zc_lt_t (by show ((xs 3) : Int32).toInt < 0; omega)) ?_
      refine zT_here (pc2 := 10) rfl ?_
      refine zT_gos (f := 200000) (pc2 := 15) (ls2 := [(0, .int (xs 3))]) (st2 := [.int 1]) (h2 := zH0) (dc2 := 0) (ds2 := 0) 2 rfl ?_
      exact zT_ret rfl rfl
    refine zT_here (pc2 := 4) rfl ?_
    refine zT_gos (f := 200000) (pc2 := 10) (ls2 := [(0, .ref 0), (1, .int 0), (2, .int (xs 2)), (3, .int (xs 3))]) (st2 := [.int (-9999)]) (h2 := zH0) (dc2 := 0) (ds2 := 0) 2 rfl ?_
    exact zT_ret rfl rfl
  refine zT_here (pc2 := 1127) rfl ?_
  refine zT_gos (f := 200000) (pc2 := 1134) (ls2 := [(4, .int 0), (3, .ref 232), (2, .ref 162), (1, .ref 0), (0, .ref 11)]) (st2 := [.int (xs 1), .ref 162, .int (-9999)]) (h2 := zH0) (dc2 := 117) (ds2 := 29934) 6 rfl ?_
  refine zT_val h1 ?_
  refine zT_gos (f := 200000) (pc2 := 1148) (ls2 := [(4, .int 0), (3, .ref 232), (2, .ref 162), (1, .ref 0), (0, .ref 11)]) (st2 := [.int (xs 2), .int 0, .ref 162, .int (-9999)]) (h2 := zH0) (dc2 := 117) (ds2 := 29934) 7 rfl ?_
  refine zT_gos (f := 200000) (pc2 := 1154) (ls2 := [(4, .int 0), (3, .ref 232), (2, .ref 162), (1, .ref 0), (0, .ref 11)]) (st2 := [.int (xs 3), .int (xs 2), .int 0, .ref 162, .int (-9999)]) (h2 := zH0) (dc2 := 117) (ds2 := 29934) 5 rfl ?_
  refine zT_call (v := some (.int (-9999))) (h2 := ((((zH0.set 106 (.inl (2, 2, [1, 0]))).set 105 (.inl (0, 2, [0]))).set 107 (.inl (0, 132, [0, 0, 0, 0, 0, 0]))).set 109 (.inl (0, 22, [0])))) (d1 := 0) (s1 := 0) rfl rfl ?_ ?_
  · refine zT_gos (f := 200000) (pc2 := 7) (ls2 := [(0, .ref 162), (1, .int 0), (2, .int (xs 2)), (3, .int (xs 3))]) (st2 := [.int 0, .ref 162]) (h2 := zH0) (dc2 := 0) (ds2 := 0) 5 rfl ?_
    refine zT_call rfl rfl (zT_le (zg0_le 6 xs) zk_o_115) ?_
    refine zT_here (pc2 := 10) rfl ?_
    refine zT_gos (f := 200000) (pc2 := 29) (ls2 := [(5, .int 2), (4, .int 0), (0, .ref 162), (1, .int 0), (2, .int (xs 2)), (3, .int (xs 3))]) (st2 := [.int (-2), .int (xs 2)]) (h2 := ((((zH0.set 106 (.inl (2, 2, [1, 0]))).set 105 (.inl (0, 2, [0]))).set 107 (.inl (0, 132, [0, 0, 0, 0, 0, 0]))).set 109 (.inl (0, 22, [0])))) (dc2 := 0) (ds2 := 0) 11 rfl ?_
    refine zT_if2 false rfl (zc_lt_f (by show ((xs 2) : Int32).toInt ≥ -2; omega)) ?_
    refine zT_here (pc2 := 32) rfl ?_
    refine zT_gos (f := 200000) (pc2 := 38) (ls2 := [(5, .int 2), (4, .int 0), (0, .ref 162), (1, .int 0), (2, .int (xs 2)), (3, .int (xs 3))]) (st2 := [.int 2, .int (xs 2)]) (h2 := ((((zH0.set 106 (.inl (2, 2, [1, 0]))).set 105 (.inl (0, 2, [0]))).set 107 (.inl (0, 132, [0, 0, 0, 0, 0, 0]))).set 109 (.inl (0, 22, [0])))) (dc2 := 0) (ds2 := 0) 4 rfl ?_
    refine zT_if2 true rfl (zc_gt_t (by show ((xs 2) : Int32).toInt > 2; omega)) ?_
    refine zT_here (pc2 := 48) rfl ?_
    refine zT_gos (f := 200000) (pc2 := 71) (ls2 := [(5, .int 2), (4, .int 0), (0, .ref 162), (1, .int 0), (2, .int (xs 2)), (3, .int (xs 3))]) (st2 := [.int (-9999)]) (h2 := ((((zH0.set 106 (.inl (2, 2, [1, 0]))).set 105 (.inl (0, 2, [0]))).set 107 (.inl (0, 132, [0, 0, 0, 0, 0, 0]))).set 109 (.inl (0, 22, [0])))) (dc2 := 0) (ds2 := 0) 2 rfl ?_
    exact zT_ret rfl rfl
  refine zT_here (pc2 := 1157) rfl ?_
  refine zT_gos (f := 200000) (pc2 := 1811) (ls2 := [(4, .int 6), (3, .ref 232), (2, .ref 162), (1, .ref 0), (0, .ref 11)]) (st2 := [.int 1]) (h2 := ((((zH0.set 106 (.inl (2, 2, [1, 0]))).set 105 (.inl (0, 2, [0]))).set 107 (.inl (0, 132, [0, 0, 0, 0, 0, 0]))).set 109 (.inl (0, 22, [0])))) (dc2 := 117) (ds2 := 29934) 10 rfl ?_
  exact zT_ret rfl rfl
set_option maxRecDepth 1000000 in
set_option maxHeartbeats 4000000 in
theorem zo_24_2 (xs : Nat → Int32) (h0 : xs 0 &&& 63 = 24) (h1 : xs 1 = 0) (h3 : (xs 3).toInt < 0) (h2 : -2 ≤ (xs 2).toInt ∧ (xs 2).toInt ≤ 2) : zDone xs := by
  refine ⟨((((zH0.set 106 (.inl (2, 2, [1, 0]))).set 105 (.inl (0, 2, [0]))).set 107 (.inl (0, 132, [0, 0, 0, 0, 0, 0]))).set 109 (.inl (0, 22, [0]))), 117, 29934, ?_, by decide, by decide⟩
  refine zT_gos (f := 200000) (pc2 := 37) (ls2 := [(4, .int 0), (3, .ref 232), (2, .ref 162), (1, .ref 0), (0, .ref 11)]) (st2 := [.int (xs 0)]) (h2 := zH0) (dc2 := 117) (ds2 := 29934) 9 rfl ?_
  refine zT_gos (f := 200000) (pc2 := 40) (ls2 := [(4, .int 0), (3, .ref 232), (2, .ref 162), (1, .ref 0), (0, .ref 11)]) (st2 := [.int ((xs 0) &&& (63 : Int32))]) (h2 := zH0) (dc2 := 117) (ds2 := 29934) 2 rfl ?_
  refine zT_val h0 ?_
  refine zT_gos (f := 200000) (pc2 := 1104) (ls2 := [(4, .int 0), (3, .ref 232), (2, .ref 162), (1, .ref 0), (0, .ref 11)]) (st2 := [.int (xs 1), .ref 0]) (h2 := zH0) (dc2 := 117) (ds2 := 29934) 7 rfl ?_
  refine zT_val h1 ?_
  refine zT_gos (f := 200000) (pc2 := 1118) (ls2 := [(4, .int 0), (3, .ref 232), (2, .ref 162), (1, .ref 0), (0, .ref 11)]) (st2 := [.int (xs 2), .int 0, .ref 0]) (h2 := zH0) (dc2 := 117) (ds2 := 29934) 7 rfl ?_
  refine zT_gos (f := 200000) (pc2 := 1124) (ls2 := [(4, .int 0), (3, .ref 232), (2, .ref 162), (1, .ref 0), (0, .ref 11)]) (st2 := [.int (xs 3), .int (xs 2), .int 0, .ref 0]) (h2 := zH0) (dc2 := 117) (ds2 := 29934) 5 rfl ?_
  refine zT_call (v := some (.int (-9999))) (h2 := zH0) (d1 := 0) (s1 := 0) rfl rfl ?_ ?_
  · refine zT_gos (f := 200000) (pc2 := 1) (ls2 := [(0, .ref 0), (1, .int 0), (2, .int (xs 2)), (3, .int (xs 3))]) (st2 := [.int (xs 3)]) (h2 := zH0) (dc2 := 0) (ds2 := 0) 1 rfl ?_
    refine zT_call (v := some (.int 1)) (h2 := zH0) (d1 := 0) (s1 := 0) rfl rfl ?_ ?_
    · refine zT_gos (f := 200000) (pc2 := 1) (ls2 := [(0, .int (xs 3))]) (st2 := [.int (xs 3)]) (h2 := zH0) (dc2 := 0) (ds2 := 0) 1 rfl ?_
      refine zT_if0 true rfl (zc_lt_t (by show ((xs 3) : Int32).toInt < 0; omega)) ?_
      refine zT_here (pc2 := 10) rfl ?_
      refine zT_gos (f := 200000) (pc2 := 15) (ls2 := [(0, .int (xs 3))]) (st2 := [.int 1]) (h2 := zH0) (dc2 := 0) (ds2 := 0) 2 rfl ?_
      exact zT_ret rfl rfl
    refine zT_here (pc2 := 4) rfl ?_
    refine zT_gos (f := 200000) (pc2 := 10) (ls2 := [(0, .ref 0), (1, .int 0), (2, .int (xs 2)), (3, .int (xs 3))]) (st2 := [.int (-9999)]) (h2 := zH0) (dc2 := 0) (ds2 := 0) 2 rfl ?_
    exact zT_ret rfl rfl
  refine zT_here (pc2 := 1127) rfl ?_
  refine zT_gos (f := 200000) (pc2 := 1134) (ls2 := [(4, .int 0), (3, .ref 232), (2, .ref 162), (1, .ref 0), (0, .ref 11)]) (st2 := [.int (xs 1), .ref 162, .int (-9999)]) (h2 := zH0) (dc2 := 117) (ds2 := 29934) 6 rfl ?_
  refine zT_val h1 ?_
  refine zT_gos (f := 200000) (pc2 := 1148) (ls2 := [(4, .int 0), (3, .ref 232), (2, .ref 162), (1, .ref 0), (0, .ref 11)]) (st2 := [.int (xs 2), .int 0, .ref 162, .int (-9999)]) (h2 := zH0) (dc2 := 117) (ds2 := 29934) 7 rfl ?_
  refine zT_gos (f := 200000) (pc2 := 1154) (ls2 := [(4, .int 0), (3, .ref 232), (2, .ref 162), (1, .ref 0), (0, .ref 11)]) (st2 := [.int (xs 3), .int (xs 2), .int 0, .ref 162, .int (-9999)]) (h2 := zH0) (dc2 := 117) (ds2 := 29934) 5 rfl ?_
  refine zT_call (v := some (.int (-9999))) (h2 := ((((zH0.set 106 (.inl (2, 2, [1, 0]))).set 105 (.inl (0, 2, [0]))).set 107 (.inl (0, 132, [0, 0, 0, 0, 0, 0]))).set 109 (.inl (0, 22, [0])))) (d1 := 0) (s1 := 0) rfl rfl ?_ ?_
  · refine zT_gos (f := 200000) (pc2 := 7) (ls2 := [(0, .ref 162), (1, .int 0), (2, .int (xs 2)), (3, .int (xs 3))]) (st2 := [.int 0, .ref 162]) (h2 := zH0) (dc2 := 0) (ds2 := 0) 5 rfl ?_
    refine zT_call rfl rfl (zT_le (zg0_le 6 xs) zk_o_115) ?_
    refine zT_here (pc2 := 10) rfl ?_
    refine zT_gos (f := 200000) (pc2 := 29) (ls2 := [(5, .int 2), (4, .int 0), (0, .ref 162), (1, .int 0), (2, .int (xs 2)), (3, .int (xs 3))]) (st2 := [.int (-2), .int (xs 2)]) (h2 := ((((zH0.set 106 (.inl (2, 2, [1, 0]))).set 105 (.inl (0, 2, [0]))).set 107 (.inl (0, 132, [0, 0, 0, 0, 0, 0]))).set 109 (.inl (0, 22, [0])))) (dc2 := 0) (ds2 := 0) 11 rfl ?_
    refine zT_if2 false rfl (zc_lt_f (by show ((xs 2) : Int32).toInt ≥ -2; omega)) ?_
    refine zT_here (pc2 := 32) rfl ?_
    refine zT_gos (f := 200000) (pc2 := 38) (ls2 := [(5, .int 2), (4, .int 0), (0, .ref 162), (1, .int 0), (2, .int (xs 2)), (3, .int (xs 3))]) (st2 := [.int 2, .int (xs 2)]) (h2 := ((((zH0.set 106 (.inl (2, 2, [1, 0]))).set 105 (.inl (0, 2, [0]))).set 107 (.inl (0, 132, [0, 0, 0, 0, 0, 0]))).set 109 (.inl (0, 22, [0])))) (dc2 := 0) (ds2 := 0) 4 rfl ?_
    refine zT_if2 false rfl (zc_gt_f (by show ((xs 2) : Int32).toInt ≤ 2; omega)) ?_
    refine zT_here (pc2 := 41) rfl ?_
    refine zT_gos (f := 200000) (pc2 := 42) (ls2 := [(5, .int 2), (4, .int 0), (0, .ref 162), (1, .int 0), (2, .int (xs 2)), (3, .int (xs 3))]) (st2 := [.int (xs 3)]) (h2 := ((((zH0.set 106 (.inl (2, 2, [1, 0]))).set 105 (.inl (0, 2, [0]))).set 107 (.inl (0, 132, [0, 0, 0, 0, 0, 0]))).set 109 (.inl (0, 22, [0])))) (dc2 := 0) (ds2 := 0) 1 rfl ?_
    refine zT_call (v := some (.int 0)) (h2 := ((((zH0.set 106 (.inl (2, 2, [1, 0]))).set 105 (.inl (0, 2, [0]))).set 107 (.inl (0, 132, [0, 0, 0, 0, 0, 0]))).set 109 (.inl (0, 22, [0])))) (d1 := 0) (s1 := 0) rfl rfl ?_ ?_
    · refine zT_gos (f := 200000) (pc2 := 1) (ls2 := [(0, .int (xs 3))]) (st2 := [.int (xs 3)]) (h2 := ((((zH0.set 106 (.inl (2, 2, [1, 0]))).set 105 (.inl (0, 2, [0]))).set 107 (.inl (0, 132, [0, 0, 0, 0, 0, 0]))).set 109 (.inl (0, 22, [0])))) (dc2 := 0) (ds2 := 0) 1 rfl ?_
      refine zT_if0 true rfl (zc_lt_t (by show ((xs 3) : Int32).toInt < 0; omega)) ?_
      refine zT_here (pc2 := 14) rfl ?_
      refine zT_gos (f := 200000) (pc2 := 15) (ls2 := [(0, .int (xs 3))]) (st2 := [.int 0]) (h2 := ((((zH0.set 106 (.inl (2, 2, [1, 0]))).set 105 (.inl (0, 2, [0]))).set 107 (.inl (0, 132, [0, 0, 0, 0, 0, 0]))).set 109 (.inl (0, 22, [0])))) (dc2 := 0) (ds2 := 0) 1 rfl ?_
      exact zT_ret rfl rfl
    refine zT_here (pc2 := 45) rfl ?_
    refine zT_gos (f := 200000) (pc2 := 71) (ls2 := [(5, .int 2), (4, .int 0), (0, .ref 162), (1, .int 0), (2, .int (xs 2)), (3, .int (xs 3))]) (st2 := [.int (-9999)]) (h2 := ((((zH0.set 106 (.inl (2, 2, [1, 0]))).set 105 (.inl (0, 2, [0]))).set 107 (.inl (0, 132, [0, 0, 0, 0, 0, 0]))).set 109 (.inl (0, 22, [0])))) (dc2 := 0) (ds2 := 0) 3 rfl ?_
    exact zT_ret rfl rfl
  refine zT_here (pc2 := 1157) rfl ?_
  refine zT_gos (f := 200000) (pc2 := 1811) (ls2 := [(4, .int 6), (3, .ref 232), (2, .ref 162), (1, .ref 0), (0, .ref 11)]) (st2 := [.int 1]) (h2 := ((((zH0.set 106 (.inl (2, 2, [1, 0]))).set 105 (.inl (0, 2, [0]))).set 107 (.inl (0, 132, [0, 0, 0, 0, 0, 0]))).set 109 (.inl (0, 22, [0])))) (dc2 := 117) (ds2 := 29934) 10 rfl ?_
  exact zT_ret rfl rfl
set_option maxRecDepth 1000000 in
set_option maxHeartbeats 4000000 in
theorem zo_24_3 (xs : Nat → Int32) (h0 : xs 0 &&& 63 = 24) (h1 : xs 1 = 0) (h3 : 5 < (xs 3).toInt) (h2 : (xs 2).toInt < -2) : zDone xs := by
  refine ⟨((((zH0.set 106 (.inl (2, 2, [1, 0]))).set 105 (.inl (0, 2, [0]))).set 107 (.inl (0, 132, [0, 0, 0, 0, 0, 0]))).set 109 (.inl (0, 22, [0]))), 117, 29934, ?_, by decide, by decide⟩
  refine zT_gos (f := 200000) (pc2 := 37) (ls2 := [(4, .int 0), (3, .ref 232), (2, .ref 162), (1, .ref 0), (0, .ref 11)]) (st2 := [.int (xs 0)]) (h2 := zH0) (dc2 := 117) (ds2 := 29934) 9 rfl ?_
  refine zT_gos (f := 200000) (pc2 := 40) (ls2 := [(4, .int 0), (3, .ref 232), (2, .ref 162), (1, .ref 0), (0, .ref 11)]) (st2 := [.int ((xs 0) &&& (63 : Int32))]) (h2 := zH0) (dc2 := 117) (ds2 := 29934) 2 rfl ?_
  refine zT_val h0 ?_
  refine zT_gos (f := 200000) (pc2 := 1104) (ls2 := [(4, .int 0), (3, .ref 232), (2, .ref 162), (1, .ref 0), (0, .ref 11)]) (st2 := [.int (xs 1), .ref 0]) (h2 := zH0) (dc2 := 117) (ds2 := 29934) 7 rfl ?_
  refine zT_val h1 ?_
  refine zT_gos (f := 200000) (pc2 := 1118) (ls2 := [(4, .int 0), (3, .ref 232), (2, .ref 162), (1, .ref 0), (0, .ref 11)]) (st2 := [.int (xs 2), .int 0, .ref 0]) (h2 := zH0) (dc2 := 117) (ds2 := 29934) 7 rfl ?_
  refine zT_gos (f := 200000) (pc2 := 1124) (ls2 := [(4, .int 0), (3, .ref 232), (2, .ref 162), (1, .ref 0), (0, .ref 11)]) (st2 := [.int (xs 3), .int (xs 2), .int 0, .ref 0]) (h2 := zH0) (dc2 := 117) (ds2 := 29934) 5 rfl ?_
  refine zT_call (v := some (.int (-9999))) (h2 := zH0) (d1 := 0) (s1 := 0) rfl rfl ?_ ?_
  · refine zT_gos (f := 200000) (pc2 := 1) (ls2 := [(0, .ref 0), (1, .int 0), (2, .int (xs 2)), (3, .int (xs 3))]) (st2 := [.int (xs 3)]) (h2 := zH0) (dc2 := 0) (ds2 := 0) 1 rfl ?_
    refine zT_call (v := some (.int 1)) (h2 := zH0) (d1 := 0) (s1 := 0) rfl rfl ?_ ?_
    · refine zT_gos (f := 200000) (pc2 := 1) (ls2 := [(0, .int (xs 3))]) (st2 := [.int (xs 3)]) (h2 := zH0) (dc2 := 0) (ds2 := 0) 1 rfl ?_
      refine zT_if0 false rfl (zc_lt_f (by show ((xs 3) : Int32).toInt ≥ 0; omega)) ?_
      refine zT_here (pc2 := 4) rfl ?_
      refine zT_gos (f := 200000) (pc2 := 7) (ls2 := [(0, .int (xs 3))]) (st2 := [.int 6, .int (xs 3)]) (h2 := zH0) (dc2 := 0) (ds2 := 0) 2 rfl ?_
      refine zT_if2 false rfl (zc_lt_f (by show ((xs 3) : Int32).toInt ≥ 6; omega)) ?_
      refine zT_here (pc2 := 10) rfl ?_
      refine zT_gos (f := 200000) (pc2 := 15) (ls2 := [(0, .int (xs 3))]) (st2 := [.int 1]) (h2 := zH0) (dc2 := 0) (ds2 := 0) 2 rfl ?_
      exact zT_ret rfl rfl
    refine zT_here (pc2 := 4) rfl ?_
    refine zT_gos (f := 200000) (pc2 := 10) (ls2 := [(0, .ref 0), (1, .int 0), (2, .int (xs 2)), (3, .int (xs 3))]) (st2 := [.int (-9999)]) (h2 := zH0) (dc2 := 0) (ds2 := 0) 2 rfl ?_
    exact zT_ret rfl rfl
  refine zT_here (pc2 := 1127) rfl ?_
  refine zT_gos (f := 200000) (pc2 := 1134) (ls2 := [(4, .int 0), (3, .ref 232), (2, .ref 162), (1, .ref 0), (0, .ref 11)]) (st2 := [.int (xs 1), .ref 162, .int (-9999)]) (h2 := zH0) (dc2 := 117) (ds2 := 29934) 6 rfl ?_
  refine zT_val h1 ?_
  refine zT_gos (f := 200000) (pc2 := 1148) (ls2 := [(4, .int 0), (3, .ref 232), (2, .ref 162), (1, .ref 0), (0, .ref 11)]) (st2 := [.int (xs 2), .int 0, .ref 162, .int (-9999)]) (h2 := zH0) (dc2 := 117) (ds2 := 29934) 7 rfl ?_
  refine zT_gos (f := 200000) (pc2 := 1154) (ls2 := [(4, .int 0), (3, .ref 232), (2, .ref 162), (1, .ref 0), (0, .ref 11)]) (st2 := [.int (xs 3), .int (xs 2), .int 0, .ref 162, .int (-9999)]) (h2 := zH0) (dc2 := 117) (ds2 := 29934) 5 rfl ?_
  refine zT_call (v := some (.int (-9999))) (h2 := ((((zH0.set 106 (.inl (2, 2, [1, 0]))).set 105 (.inl (0, 2, [0]))).set 107 (.inl (0, 132, [0, 0, 0, 0, 0, 0]))).set 109 (.inl (0, 22, [0])))) (d1 := 0) (s1 := 0) rfl rfl ?_ ?_
  · refine zT_gos (f := 200000) (pc2 := 7) (ls2 := [(0, .ref 162), (1, .int 0), (2, .int (xs 2)), (3, .int (xs 3))]) (st2 := [.int 0, .ref 162]) (h2 := zH0) (dc2 := 0) (ds2 := 0) 5 rfl ?_
    refine zT_call rfl rfl (zT_le (zg0_le 6 xs) zk_o_115) ?_
    refine zT_here (pc2 := 10) rfl ?_
    refine zT_gos (f := 200000) (pc2 := 29) (ls2 := [(5, .int 2), (4, .int 0), (0, .ref 162), (1, .int 0), (2, .int (xs 2)), (3, .int (xs 3))]) (st2 := [.int (-2), .int (xs 2)]) (h2 := ((((zH0.set 106 (.inl (2, 2, [1, 0]))).set 105 (.inl (0, 2, [0]))).set 107 (.inl (0, 132, [0, 0, 0, 0, 0, 0]))).set 109 (.inl (0, 22, [0])))) (dc2 := 0) (ds2 := 0) 11 rfl ?_
    refine zT_if2 true rfl (zc_lt_t (by show ((xs 2) : Int32).toInt < -2; omega)) ?_
    refine zT_here (pc2 := 48) rfl ?_
    refine zT_gos (f := 200000) (pc2 := 71) (ls2 := [(5, .int 2), (4, .int 0), (0, .ref 162), (1, .int 0), (2, .int (xs 2)), (3, .int (xs 3))]) (st2 := [.int (-9999)]) (h2 := ((((zH0.set 106 (.inl (2, 2, [1, 0]))).set 105 (.inl (0, 2, [0]))).set 107 (.inl (0, 132, [0, 0, 0, 0, 0, 0]))).set 109 (.inl (0, 22, [0])))) (dc2 := 0) (ds2 := 0) 2 rfl ?_
    exact zT_ret rfl rfl
  refine zT_here (pc2 := 1157) rfl ?_
  refine zT_gos (f := 200000) (pc2 := 1811) (ls2 := [(4, .int 6), (3, .ref 232), (2, .ref 162), (1, .ref 0), (0, .ref 11)]) (st2 := [.int 1]) (h2 := ((((zH0.set 106 (.inl (2, 2, [1, 0]))).set 105 (.inl (0, 2, [0]))).set 107 (.inl (0, 132, [0, 0, 0, 0, 0, 0]))).set 109 (.inl (0, 22, [0])))) (dc2 := 117) (ds2 := 29934) 10 rfl ?_
  exact zT_ret rfl rfl
set_option maxRecDepth 1000000 in
set_option maxHeartbeats 4000000 in
theorem zo_24_4 (xs : Nat → Int32) (h0 : xs 0 &&& 63 = 24) (h1 : xs 1 = 0) (h3 : 5 < (xs 3).toInt) (h2 : 2 < (xs 2).toInt) : zDone xs := by
  refine ⟨((((zH0.set 106 (.inl (2, 2, [1, 0]))).set 105 (.inl (0, 2, [0]))).set 107 (.inl (0, 132, [0, 0, 0, 0, 0, 0]))).set 109 (.inl (0, 22, [0]))), 117, 29934, ?_, by decide, by decide⟩
  refine zT_gos (f := 200000) (pc2 := 37) (ls2 := [(4, .int 0), (3, .ref 232), (2, .ref 162), (1, .ref 0), (0, .ref 11)]) (st2 := [.int (xs 0)]) (h2 := zH0) (dc2 := 117) (ds2 := 29934) 9 rfl ?_
  refine zT_gos (f := 200000) (pc2 := 40) (ls2 := [(4, .int 0), (3, .ref 232), (2, .ref 162), (1, .ref 0), (0, .ref 11)]) (st2 := [.int ((xs 0) &&& (63 : Int32))]) (h2 := zH0) (dc2 := 117) (ds2 := 29934) 2 rfl ?_
  refine zT_val h0 ?_
  refine zT_gos (f := 200000) (pc2 := 1104) (ls2 := [(4, .int 0), (3, .ref 232), (2, .ref 162), (1, .ref 0), (0, .ref 11)]) (st2 := [.int (xs 1), .ref 0]) (h2 := zH0) (dc2 := 117) (ds2 := 29934) 7 rfl ?_
  refine zT_val h1 ?_
  refine zT_gos (f := 200000) (pc2 := 1118) (ls2 := [(4, .int 0), (3, .ref 232), (2, .ref 162), (1, .ref 0), (0, .ref 11)]) (st2 := [.int (xs 2), .int 0, .ref 0]) (h2 := zH0) (dc2 := 117) (ds2 := 29934) 7 rfl ?_
  refine zT_gos (f := 200000) (pc2 := 1124) (ls2 := [(4, .int 0), (3, .ref 232), (2, .ref 162), (1, .ref 0), (0, .ref 11)]) (st2 := [.int (xs 3), .int (xs 2), .int 0, .ref 0]) (h2 := zH0) (dc2 := 117) (ds2 := 29934) 5 rfl ?_
  refine zT_call (v := some (.int (-9999))) (h2 := zH0) (d1 := 0) (s1 := 0) rfl rfl ?_ ?_
  · refine zT_gos (f := 200000) (pc2 := 1) (ls2 := [(0, .ref 0), (1, .int 0), (2, .int (xs 2)), (3, .int (xs 3))]) (st2 := [.int (xs 3)]) (h2 := zH0) (dc2 := 0) (ds2 := 0) 1 rfl ?_
    refine zT_call (v := some (.int 1)) (h2 := zH0) (d1 := 0) (s1 := 0) rfl rfl ?_ ?_
    · refine zT_gos (f := 200000) (pc2 := 1) (ls2 := [(0, .int (xs 3))]) (st2 := [.int (xs 3)]) (h2 := zH0) (dc2 := 0) (ds2 := 0) 1 rfl ?_
      refine zT_if0 false rfl (zc_lt_f (by show ((xs 3) : Int32).toInt ≥ 0; omega)) ?_
      refine zT_here (pc2 := 4) rfl ?_
      refine zT_gos (f := 200000) (pc2 := 7) (ls2 := [(0, .int (xs 3))]) (st2 := [.int 6, .int (xs 3)]) (h2 := zH0) (dc2 := 0) (ds2 := 0) 2 rfl ?_
      refine zT_if2 false rfl (zc_lt_f (by show ((xs 3) : Int32).toInt ≥ 6; omega)) ?_
      refine zT_here (pc2 := 10) rfl ?_
      refine zT_gos (f := 200000) (pc2 := 15) (ls2 := [(0, .int (xs 3))]) (st2 := [.int 1]) (h2 := zH0) (dc2 := 0) (ds2 := 0) 2 rfl ?_
      exact zT_ret rfl rfl
    refine zT_here (pc2 := 4) rfl ?_
    refine zT_gos (f := 200000) (pc2 := 10) (ls2 := [(0, .ref 0), (1, .int 0), (2, .int (xs 2)), (3, .int (xs 3))]) (st2 := [.int (-9999)]) (h2 := zH0) (dc2 := 0) (ds2 := 0) 2 rfl ?_
    exact zT_ret rfl rfl
  refine zT_here (pc2 := 1127) rfl ?_
  refine zT_gos (f := 200000) (pc2 := 1134) (ls2 := [(4, .int 0), (3, .ref 232), (2, .ref 162), (1, .ref 0), (0, .ref 11)]) (st2 := [.int (xs 1), .ref 162, .int (-9999)]) (h2 := zH0) (dc2 := 117) (ds2 := 29934) 6 rfl ?_
  refine zT_val h1 ?_
  refine zT_gos (f := 200000) (pc2 := 1148) (ls2 := [(4, .int 0), (3, .ref 232), (2, .ref 162), (1, .ref 0), (0, .ref 11)]) (st2 := [.int (xs 2), .int 0, .ref 162, .int (-9999)]) (h2 := zH0) (dc2 := 117) (ds2 := 29934) 7 rfl ?_
  refine zT_gos (f := 200000) (pc2 := 1154) (ls2 := [(4, .int 0), (3, .ref 232), (2, .ref 162), (1, .ref 0), (0, .ref 11)]) (st2 := [.int (xs 3), .int (xs 2), .int 0, .ref 162, .int (-9999)]) (h2 := zH0) (dc2 := 117) (ds2 := 29934) 5 rfl ?_
  refine zT_call (v := some (.int (-9999))) (h2 := ((((zH0.set 106 (.inl (2, 2, [1, 0]))).set 105 (.inl (0, 2, [0]))).set 107 (.inl (0, 132, [0, 0, 0, 0, 0, 0]))).set 109 (.inl (0, 22, [0])))) (d1 := 0) (s1 := 0) rfl rfl ?_ ?_
  · refine zT_gos (f := 200000) (pc2 := 7) (ls2 := [(0, .ref 162), (1, .int 0), (2, .int (xs 2)), (3, .int (xs 3))]) (st2 := [.int 0, .ref 162]) (h2 := zH0) (dc2 := 0) (ds2 := 0) 5 rfl ?_
    refine zT_call rfl rfl (zT_le (zg0_le 6 xs) zk_o_115) ?_
    refine zT_here (pc2 := 10) rfl ?_
    refine zT_gos (f := 200000) (pc2 := 29) (ls2 := [(5, .int 2), (4, .int 0), (0, .ref 162), (1, .int 0), (2, .int (xs 2)), (3, .int (xs 3))]) (st2 := [.int (-2), .int (xs 2)]) (h2 := ((((zH0.set 106 (.inl (2, 2, [1, 0]))).set 105 (.inl (0, 2, [0]))).set 107 (.inl (0, 132, [0, 0, 0, 0, 0, 0]))).set 109 (.inl (0, 22, [0])))) (dc2 := 0) (ds2 := 0) 11 rfl ?_
    refine zT_if2 false rfl (zc_lt_f (by show ((xs 2) : Int32).toInt ≥ -2; omega)) ?_
    refine zT_here (pc2 := 32) rfl ?_
    refine zT_gos (f := 200000) (pc2 := 38) (ls2 := [(5, .int 2), (4, .int 0), (0, .ref 162), (1, .int 0), (2, .int (xs 2)), (3, .int (xs 3))]) (st2 := [.int 2, .int (xs 2)]) (h2 := ((((zH0.set 106 (.inl (2, 2, [1, 0]))).set 105 (.inl (0, 2, [0]))).set 107 (.inl (0, 132, [0, 0, 0, 0, 0, 0]))).set 109 (.inl (0, 22, [0])))) (dc2 := 0) (ds2 := 0) 4 rfl ?_
    refine zT_if2 true rfl (zc_gt_t (by show ((xs 2) : Int32).toInt > 2; omega)) ?_
    refine zT_here (pc2 := 48) rfl ?_
    refine zT_gos (f := 200000) (pc2 := 71) (ls2 := [(5, .int 2), (4, .int 0), (0, .ref 162), (1, .int 0), (2, .int (xs 2)), (3, .int (xs 3))]) (st2 := [.int (-9999)]) (h2 := ((((zH0.set 106 (.inl (2, 2, [1, 0]))).set 105 (.inl (0, 2, [0]))).set 107 (.inl (0, 132, [0, 0, 0, 0, 0, 0]))).set 109 (.inl (0, 22, [0])))) (dc2 := 0) (ds2 := 0) 2 rfl ?_
    exact zT_ret rfl rfl
  refine zT_here (pc2 := 1157) rfl ?_
  refine zT_gos (f := 200000) (pc2 := 1811) (ls2 := [(4, .int 6), (3, .ref 232), (2, .ref 162), (1, .ref 0), (0, .ref 11)]) (st2 := [.int 1]) (h2 := ((((zH0.set 106 (.inl (2, 2, [1, 0]))).set 105 (.inl (0, 2, [0]))).set 107 (.inl (0, 132, [0, 0, 0, 0, 0, 0]))).set 109 (.inl (0, 22, [0])))) (dc2 := 117) (ds2 := 29934) 10 rfl ?_
  exact zT_ret rfl rfl
set_option maxRecDepth 1000000 in
set_option maxHeartbeats 4000000 in
theorem zo_24_5 (xs : Nat → Int32) (h0 : xs 0 &&& 63 = 24) (h1 : xs 1 = 0) (h3 : 5 < (xs 3).toInt) (h2 : -2 ≤ (xs 2).toInt ∧ (xs 2).toInt ≤ 2) : zDone xs := by
  refine ⟨((((zH0.set 106 (.inl (2, 2, [1, 0]))).set 105 (.inl (0, 2, [0]))).set 107 (.inl (0, 132, [0, 0, 0, 0, 0, 0]))).set 109 (.inl (0, 22, [0]))), 117, 29934, ?_, by decide, by decide⟩
  refine zT_gos (f := 200000) (pc2 := 37) (ls2 := [(4, .int 0), (3, .ref 232), (2, .ref 162), (1, .ref 0), (0, .ref 11)]) (st2 := [.int (xs 0)]) (h2 := zH0) (dc2 := 117) (ds2 := 29934) 9 rfl ?_
  refine zT_gos (f := 200000) (pc2 := 40) (ls2 := [(4, .int 0), (3, .ref 232), (2, .ref 162), (1, .ref 0), (0, .ref 11)]) (st2 := [.int ((xs 0) &&& (63 : Int32))]) (h2 := zH0) (dc2 := 117) (ds2 := 29934) 2 rfl ?_
  refine zT_val h0 ?_
  refine zT_gos (f := 200000) (pc2 := 1104) (ls2 := [(4, .int 0), (3, .ref 232), (2, .ref 162), (1, .ref 0), (0, .ref 11)]) (st2 := [.int (xs 1), .ref 0]) (h2 := zH0) (dc2 := 117) (ds2 := 29934) 7 rfl ?_
  refine zT_val h1 ?_
  refine zT_gos (f := 200000) (pc2 := 1118) (ls2 := [(4, .int 0), (3, .ref 232), (2, .ref 162), (1, .ref 0), (0, .ref 11)]) (st2 := [.int (xs 2), .int 0, .ref 0]) (h2 := zH0) (dc2 := 117) (ds2 := 29934) 7 rfl ?_
  refine zT_gos (f := 200000) (pc2 := 1124) (ls2 := [(4, .int 0), (3, .ref 232), (2, .ref 162), (1, .ref 0), (0, .ref 11)]) (st2 := [.int (xs 3), .int (xs 2), .int 0, .ref 0]) (h2 := zH0) (dc2 := 117) (ds2 := 29934) 5 rfl ?_
  refine zT_call (v := some (.int (-9999))) (h2 := zH0) (d1 := 0) (s1 := 0) rfl rfl ?_ ?_
  · refine zT_gos (f := 200000) (pc2 := 1) (ls2 := [(0, .ref 0), (1, .int 0), (2, .int (xs 2)), (3, .int (xs 3))]) (st2 := [.int (xs 3)]) (h2 := zH0) (dc2 := 0) (ds2 := 0) 1 rfl ?_
    refine zT_call (v := some (.int 1)) (h2 := zH0) (d1 := 0) (s1 := 0) rfl rfl ?_ ?_
    · refine zT_gos (f := 200000) (pc2 := 1) (ls2 := [(0, .int (xs 3))]) (st2 := [.int (xs 3)]) (h2 := zH0) (dc2 := 0) (ds2 := 0) 1 rfl ?_
      refine zT_if0 false rfl (zc_lt_f (by show ((xs 3) : Int32).toInt ≥ 0; omega)) ?_
      refine zT_here (pc2 := 4) rfl ?_
      refine zT_gos (f := 200000) (pc2 := 7) (ls2 := [(0, .int (xs 3))]) (st2 := [.int 6, .int (xs 3)]) (h2 := zH0) (dc2 := 0) (ds2 := 0) 2 rfl ?_
      refine zT_if2 false rfl (zc_lt_f (by show ((xs 3) : Int32).toInt ≥ 6; omega)) ?_
      refine zT_here (pc2 := 10) rfl ?_
      refine zT_gos (f := 200000) (pc2 := 15) (ls2 := [(0, .int (xs 3))]) (st2 := [.int 1]) (h2 := zH0) (dc2 := 0) (ds2 := 0) 2 rfl ?_
      exact zT_ret rfl rfl
    refine zT_here (pc2 := 4) rfl ?_
    refine zT_gos (f := 200000) (pc2 := 10) (ls2 := [(0, .ref 0), (1, .int 0), (2, .int (xs 2)), (3, .int (xs 3))]) (st2 := [.int (-9999)]) (h2 := zH0) (dc2 := 0) (ds2 := 0) 2 rfl ?_
    exact zT_ret rfl rfl
  refine zT_here (pc2 := 1127) rfl ?_
  refine zT_gos (f := 200000) (pc2 := 1134) (ls2 := [(4, .int 0), (3, .ref 232), (2, .ref 162), (1, .ref 0), (0, .ref 11)]) (st2 := [.int (xs 1), .ref 162, .int (-9999)]) (h2 := zH0) (dc2 := 117) (ds2 := 29934) 6 rfl ?_
  refine zT_val h1 ?_
  refine zT_gos (f := 200000) (pc2 := 1148) (ls2 := [(4, .int 0), (3, .ref 232), (2, .ref 162), (1, .ref 0), (0, .ref 11)]) (st2 := [.int (xs 2), .int 0, .ref 162, .int (-9999)]) (h2 := zH0) (dc2 := 117) (ds2 := 29934) 7 rfl ?_
  refine zT_gos (f := 200000) (pc2 := 1154) (ls2 := [(4, .int 0), (3, .ref 232), (2, .ref 162), (1, .ref 0), (0, .ref 11)]) (st2 := [.int (xs 3), .int (xs 2), .int 0, .ref 162, .int (-9999)]) (h2 := zH0) (dc2 := 117) (ds2 := 29934) 5 rfl ?_
  refine zT_call (v := some (.int (-9999))) (h2 := ((((zH0.set 106 (.inl (2, 2, [1, 0]))).set 105 (.inl (0, 2, [0]))).set 107 (.inl (0, 132, [0, 0, 0, 0, 0, 0]))).set 109 (.inl (0, 22, [0])))) (d1 := 0) (s1 := 0) rfl rfl ?_ ?_
  · refine zT_gos (f := 200000) (pc2 := 7) (ls2 := [(0, .ref 162), (1, .int 0), (2, .int (xs 2)), (3, .int (xs 3))]) (st2 := [.int 0, .ref 162]) (h2 := zH0) (dc2 := 0) (ds2 := 0) 5 rfl ?_
    refine zT_call rfl rfl (zT_le (zg0_le 6 xs) zk_o_115) ?_
    refine zT_here (pc2 := 10) rfl ?_
    refine zT_gos (f := 200000) (pc2 := 29) (ls2 := [(5, .int 2), (4, .int 0), (0, .ref 162), (1, .int 0), (2, .int (xs 2)), (3, .int (xs 3))]) (st2 := [.int (-2), .int (xs 2)]) (h2 := ((((zH0.set 106 (.inl (2, 2, [1, 0]))).set 105 (.inl (0, 2, [0]))).set 107 (.inl (0, 132, [0, 0, 0, 0, 0, 0]))).set 109 (.inl (0, 22, [0])))) (dc2 := 0) (ds2 := 0) 11 rfl ?_
    refine zT_if2 false rfl (zc_lt_f (by show ((xs 2) : Int32).toInt ≥ -2; omega)) ?_
    refine zT_here (pc2 := 32) rfl ?_
    refine zT_gos (f := 200000) (pc2 := 38) (ls2 := [(5, .int 2), (4, .int 0), (0, .ref 162), (1, .int 0), (2, .int (xs 2)), (3, .int (xs 3))]) (st2 := [.int 2, .int (xs 2)]) (h2 := ((((zH0.set 106 (.inl (2, 2, [1, 0]))).set 105 (.inl (0, 2, [0]))).set 107 (.inl (0, 132, [0, 0, 0, 0, 0, 0]))).set 109 (.inl (0, 22, [0])))) (dc2 := 0) (ds2 := 0) 4 rfl ?_
    refine zT_if2 false rfl (zc_gt_f (by show ((xs 2) : Int32).toInt ≤ 2; omega)) ?_
    refine zT_here (pc2 := 41) rfl ?_
    refine zT_gos (f := 200000) (pc2 := 42) (ls2 := [(5, .int 2), (4, .int 0), (0, .ref 162), (1, .int 0), (2, .int (xs 2)), (3, .int (xs 3))]) (st2 := [.int (xs 3)]) (h2 := ((((zH0.set 106 (.inl (2, 2, [1, 0]))).set 105 (.inl (0, 2, [0]))).set 107 (.inl (0, 132, [0, 0, 0, 0, 0, 0]))).set 109 (.inl (0, 22, [0])))) (dc2 := 0) (ds2 := 0) 1 rfl ?_
    refine zT_call (v := some (.int 0)) (h2 := ((((zH0.set 106 (.inl (2, 2, [1, 0]))).set 105 (.inl (0, 2, [0]))).set 107 (.inl (0, 132, [0, 0, 0, 0, 0, 0]))).set 109 (.inl (0, 22, [0])))) (d1 := 0) (s1 := 0) rfl rfl ?_ ?_
    · refine zT_gos (f := 200000) (pc2 := 1) (ls2 := [(0, .int (xs 3))]) (st2 := [.int (xs 3)]) (h2 := ((((zH0.set 106 (.inl (2, 2, [1, 0]))).set 105 (.inl (0, 2, [0]))).set 107 (.inl (0, 132, [0, 0, 0, 0, 0, 0]))).set 109 (.inl (0, 22, [0])))) (dc2 := 0) (ds2 := 0) 1 rfl ?_
      refine zT_if0 false rfl (zc_lt_f (by show ((xs 3) : Int32).toInt ≥ 0; omega)) ?_
      refine zT_here (pc2 := 4) rfl ?_
      refine zT_gos (f := 200000) (pc2 := 7) (ls2 := [(0, .int (xs 3))]) (st2 := [.int 6, .int (xs 3)]) (h2 := ((((zH0.set 106 (.inl (2, 2, [1, 0]))).set 105 (.inl (0, 2, [0]))).set 107 (.inl (0, 132, [0, 0, 0, 0, 0, 0]))).set 109 (.inl (0, 22, [0])))) (dc2 := 0) (ds2 := 0) 2 rfl ?_
      refine zT_if2 true rfl (zc_ge_t (by show ((xs 3) : Int32).toInt ≥ 6; omega)) ?_
      refine zT_here (pc2 := 14) rfl ?_
      refine zT_gos (f := 200000) (pc2 := 15) (ls2 := [(0, .int (xs 3))]) (st2 := [.int 0]) (h2 := ((((zH0.set 106 (.inl (2, 2, [1, 0]))).set 105 (.inl (0, 2, [0]))).set 107 (.inl (0, 132, [0, 0, 0, 0, 0, 0]))).set 109 (.inl (0, 22, [0])))) (dc2 := 0) (ds2 := 0) 1 rfl ?_
      exact zT_ret rfl rfl
    refine zT_here (pc2 := 45) rfl ?_
    refine zT_gos (f := 200000) (pc2 := 71) (ls2 := [(5, .int 2), (4, .int 0), (0, .ref 162), (1, .int 0), (2, .int (xs 2)), (3, .int (xs 3))]) (st2 := [.int (-9999)]) (h2 := ((((zH0.set 106 (.inl (2, 2, [1, 0]))).set 105 (.inl (0, 2, [0]))).set 107 (.inl (0, 132, [0, 0, 0, 0, 0, 0]))).set 109 (.inl (0, 22, [0])))) (dc2 := 0) (ds2 := 0) 3 rfl ?_
    exact zT_ret rfl rfl
  refine zT_here (pc2 := 1157) rfl ?_
  refine zT_gos (f := 200000) (pc2 := 1811) (ls2 := [(4, .int 6), (3, .ref 232), (2, .ref 162), (1, .ref 0), (0, .ref 11)]) (st2 := [.int 1]) (h2 := ((((zH0.set 106 (.inl (2, 2, [1, 0]))).set 105 (.inl (0, 2, [0]))).set 107 (.inl (0, 132, [0, 0, 0, 0, 0, 0]))).set 109 (.inl (0, 22, [0])))) (dc2 := 117) (ds2 := 29934) 10 rfl ?_
  exact zT_ret rfl rfl
set_option maxRecDepth 1000000 in
set_option maxHeartbeats 4000000 in
theorem zo_24_6 (xs : Nat → Int32) (h0 : xs 0 &&& 63 = 24) (h1 : (xs 1).toInt ≠ 0) (h3 : (xs 3).toInt < 0) (h2 : (xs 2).toInt < -2) : zDone xs := by
  refine ⟨((((zH0.set 106 (.inl (2, 2, [0, 1]))).set 105 (.inl (0, 2, [0, 0]))).set 107 (.inl (0, 132, [0, 0, 0, 0, 0, 0, 0, 0, 0, 0, 0, 0, 0, 0, 0, 0, 0, 0, 0, 0, 0, 0, 0, 0, 0, 0, 0, 0, 0, 0, 0, 0, 0, 0, 0, 0, 0, 0, 0, 0, 0, 0, 0, 0, 0, 0, 0, 0, 0, 0, 0, 0, 0, 0, 0, 0, 0, 0, 0, 0, 0, 0, 0, 0, 0, 0, 0, 0, 0, 0, 0, 0]))).set 109 (.inl (0, 22, [0, 0, 0, 0, 0, 0, 0, 0, 0, 0, 0, 0]))), 117, 29934, ?_, by decide, by decide⟩
  refine zT_gos (f := 200000) (pc2 := 37) (ls2 := [(4, .int 0), (3, .ref 232), (2, .ref 162), (1, .ref 0), (0, .ref 11)]) (st2 := [.int (xs 0)]) (h2 := zH0) (dc2 := 117) (ds2 := 29934) 9 rfl ?_
  refine zT_gos (f := 200000) (pc2 := 40) (ls2 := [(4, .int 0), (3, .ref 232), (2, .ref 162), (1, .ref 0), (0, .ref 11)]) (st2 := [.int ((xs 0) &&& (63 : Int32))]) (h2 := zH0) (dc2 := 117) (ds2 := 29934) 2 rfl ?_
  refine zT_val h0 ?_
  refine zT_gos (f := 200000) (pc2 := 1104) (ls2 := [(4, .int 0), (3, .ref 232), (2, .ref 162), (1, .ref 0), (0, .ref 11)]) (st2 := [.int (xs 1), .ref 0]) (h2 := zH0) (dc2 := 117) (ds2 := 29934) 7 rfl ?_
  refine zT_if0 false rfl (zc_eq_f (by show ((xs 1) : Int32).toInt ≠ 0; omega)) ?_
  refine zT_here (pc2 := 1107) rfl ?_
  refine zT_gos (f := 200000) (pc2 := 1118) (ls2 := [(4, .int 0), (3, .ref 232), (2, .ref 162), (1, .ref 0), (0, .ref 11)]) (st2 := [.int (xs 2), .int 1, .ref 0]) (h2 := zH0) (dc2 := 117) (ds2 := 29934) 7 rfl ?_
  refine zT_gos (f := 200000) (pc2 := 1124) (ls2 := [(4, .int 0), (3, .ref 232), (2, .ref 162), (1, .ref 0), (0, .ref 11)]) (st2 := [.int (xs 3), .int (xs 2), .int 1, .ref 0]) (h2 := zH0) (dc2 := 117) (ds2 := 29934) 5 rfl ?_
  refine zT_call (v := some (.int (-9999))) (h2 := zH0) (d1 := 0) (s1 := 0) rfl rfl ?_ ?_
  · refine zT_gos (f := 200000) (pc2 := 1) (ls2 := [(0, .ref 0), (1, .int 1), (2, .int (xs 2)), (3, .int (xs 3))]) (st2 := [.int (xs 3)]) (h2 := zH0) (dc2 := 0) (ds2 := 0) 1 rfl ?_
    refine zT_call (v := some (.int 1)) (h2 := zH0) (d1 := 0) (s1 := 0) rfl rfl ?_ ?_
    · refine zT_gos (f := 200000) (pc2 := 1) (ls2 := [(0, .int (xs 3))]) (st2 := [.int (xs 3)]) (h2 := zH0) (dc2 := 0) (ds2 := 0) 1 rfl ?_
      refine zT_if0 true rfl (zc_lt_t (by show ((xs 3) : Int32).toInt < 0; omega)) ?_
      refine zT_here (pc2 := 10) rfl ?_
      refine zT_gos (f := 200000) (pc2 := 15) (ls2 := [(0, .int (xs 3))]) (st2 := [.int 1]) (h2 := zH0) (dc2 := 0) (ds2 := 0) 2 rfl ?_
      exact zT_ret rfl rfl
    refine zT_here (pc2 := 4) rfl ?_
    refine zT_gos (f := 200000) (pc2 := 10) (ls2 := [(0, .ref 0), (1, .int 1), (2, .int (xs 2)), (3, .int (xs 3))]) (st2 := [.int (-9999)]) (h2 := zH0) (dc2 := 0) (ds2 := 0) 2 rfl ?_
    exact zT_ret rfl rfl
  refine zT_here (pc2 := 1127) rfl ?_
  refine zT_gos (f := 200000) (pc2 := 1134) (ls2 := [(4, .int 0), (3, .ref 232), (2, .ref 162), (1, .ref 0), (0, .ref 11)]) (st2 := [.int (xs 1), .ref 162, .int (-9999)]) (h2 := zH0) (dc2 := 117) (ds2 := 29934) 6 rfl ?_
  refine zT_if0 false rfl (zc_eq_f (by show ((xs 1) : Int32).toInt ≠ 0; omega)) ?_
  refine zT_here (pc2 := 1137) rfl ?_
  refine zT_gos (f := 200000) (pc2 := 1148) (ls2 := [(4, .int 0), (3, .ref 232), (2, .ref 162), (1, .ref 0), (0, .ref 11)]) (st2 := [.int (xs 2), .int 1, .ref 162, .int (-9999)]) (h2 := zH0) (dc2 := 117) (ds2 := 29934) 7 rfl ?_
  refine zT_gos (f := 200000) (pc2 := 1154) (ls2 := [(4, .int 0), (3, .ref 232), (2, .ref 162), (1, .ref 0), (0, .ref 11)]) (st2 := [.int (xs 3), .int (xs 2), .int 1, .ref 162, .int (-9999)]) (h2 := zH0) (dc2 := 117) (ds2 := 29934) 5 rfl ?_
  refine zT_call (v := some (.int (-9999))) (h2 := ((((zH0.set 106 (.inl (2, 2, [0, 1]))).set 105 (.inl (0, 2, [0, 0]))).set 107 (.inl (0, 132, [0, 0, 0, 0, 0, 0, 0, 0, 0, 0, 0, 0, 0, 0, 0, 0, 0, 0, 0, 0, 0, 0, 0, 0, 0, 0, 0, 0, 0, 0, 0, 0, 0, 0, 0, 0, 0, 0, 0, 0, 0, 0, 0, 0, 0, 0, 0, 0, 0, 0, 0, 0, 0, 0, 0, 0, 0, 0, 0, 0, 0, 0, 0, 0, 0, 0, 0, 0, 0, 0, 0, 0]))).set 109 (.inl (0, 22, [0, 0, 0, 0, 0, 0, 0, 0, 0, 0, 0, 0])))) (d1 := 0) (s1 := 0) rfl rfl ?_ ?_
  · refine zT_gos (f := 200000) (pc2 := 7) (ls2 := [(0, .ref 162), (1, .int 1), (2, .int (xs 2)), (3, .int (xs 3))]) (st2 := [.int 1, .ref 162]) (h2 := zH0) (dc2 := 0) (ds2 := 0) 5 rfl ?_
    refine zT_call rfl rfl (zT_le (zg0_le 6 xs) zk_o_116) ?_
    refine zT_here (pc2 := 10) rfl ?_
    refine zT_gos (f := 200000) (pc2 := 29) (ls2 := [(5, .int 2), (4, .int 0), (0, .ref 162), (1, .int 1), (2, .int (xs 2)), (3, .int (xs 3))]) (st2 := [.int (-2), .int (xs 2)]) (h2 := ((((zH0.set 106 (.inl (2, 2, [0, 1]))).set 105 (.inl (0, 2, [0, 0]))).set 107 (.inl (0, 132, [0, 0, 0, 0, 0, 0, 0, 0, 0, 0, 0, 0, 0, 0, 0, 0, 0, 0, 0, 0, 0, 0, 0, 0, 0, 0, 0, 0, 0, 0, 0, 0, 0, 0, 0, 0, 0, 0, 0, 0, 0, 0, 0, 0, 0, 0, 0, 0, 0, 0, 0, 0, 0, 0, 0, 0, 0, 0, 0, 0, 0, 0, 0, 0, 0, 0, 0, 0, 0, 0, 0, 0]))).set 109 (.inl (0, 22, [0, 0, 0, 0, 0, 0, 0, 0, 0, 0, 0, 0])))) (dc2 := 0) (ds2 := 0) 11 rfl ?_
    refine zT_if2 true rfl (zc_lt_t (by show ((xs 2) : Int32).toInt < -2; omega)) ?_
    refine zT_here (pc2 := 48) rfl ?_
    refine zT_gos (f := 200000) (pc2 := 71) (ls2 := [(5, .int 2), (4, .int 0), (0, .ref 162), (1, .int 1), (2, .int (xs 2)), (3, .int (xs 3))]) (st2 := [.int (-9999)]) (h2 := ((((zH0.set 106 (.inl (2, 2, [0, 1]))).set 105 (.inl (0, 2, [0, 0]))).set 107 (.inl (0, 132, [0, 0, 0, 0, 0, 0, 0, 0, 0, 0, 0, 0, 0, 0, 0, 0, 0, 0, 0, 0, 0, 0, 0, 0, 0, 0, 0, 0, 0, 0, 0, 0, 0, 0, 0, 0, 0, 0, 0, 0, 0, 0, 0, 0, 0, 0, 0, 0, 0, 0, 0, 0, 0, 0, 0, 0, 0, 0, 0, 0, 0, 0, 0, 0, 0, 0, 0, 0, 0, 0, 0, 0]))).set 109 (.inl (0, 22, [0, 0, 0, 0, 0, 0, 0, 0, 0, 0, 0, 0])))) (dc2 := 0) (ds2 := 0) 2 rfl ?_
    exact zT_ret rfl rfl
  refine zT_here (pc2 := 1157) rfl ?_
  refine zT_gos (f := 200000) (pc2 := 1811) (ls2 := [(4, .int 6), (3, .ref 232), (2, .ref 162), (1, .ref 0), (0, .ref 11)]) (st2 := [.int 1]) (h2 := ((((zH0.set 106 (.inl (2, 2, [0, 1]))).set 105 (.inl (0, 2, [0, 0]))).set 107 (.inl (0, 132, [0, 0, 0, 0, 0, 0, 0, 0, 0, 0, 0, 0, 0, 0, 0, 0, 0, 0, 0, 0, 0, 0, 0, 0, 0, 0, 0, 0, 0, 0, 0, 0, 0, 0, 0, 0, 0, 0, 0, 0, 0, 0, 0, 0, 0, 0, 0, 0, 0, 0, 0, 0, 0, 0, 0, 0, 0, 0, 0, 0, 0, 0, 0, 0, 0, 0, 0, 0, 0, 0, 0, 0]))).set 109 (.inl (0, 22, [0, 0, 0, 0, 0, 0, 0, 0, 0, 0, 0, 0])))) (dc2 := 117) (ds2 := 29934) 10 rfl ?_
  exact zT_ret rfl rfl
set_option maxRecDepth 1000000 in
set_option maxHeartbeats 4000000 in
theorem zo_24_7 (xs : Nat → Int32) (h0 : xs 0 &&& 63 = 24) (h1 : (xs 1).toInt ≠ 0) (h3 : (xs 3).toInt < 0) (h2 : 2 < (xs 2).toInt) : zDone xs := by
  refine ⟨((((zH0.set 106 (.inl (2, 2, [0, 1]))).set 105 (.inl (0, 2, [0, 0]))).set 107 (.inl (0, 132, [0, 0, 0, 0, 0, 0, 0, 0, 0, 0, 0, 0, 0, 0, 0, 0, 0, 0, 0, 0, 0, 0, 0, 0, 0, 0, 0, 0, 0, 0, 0, 0, 0, 0, 0, 0, 0, 0, 0, 0, 0, 0, 0, 0, 0, 0, 0, 0, 0, 0, 0, 0, 0, 0, 0, 0, 0, 0, 0, 0, 0, 0, 0, 0, 0, 0, 0, 0, 0, 0, 0, 0]))).set 109 (.inl (0, 22, [0, 0, 0, 0, 0, 0, 0, 0, 0, 0, 0, 0]))), 117, 29934, ?_, by decide, by decide⟩
  refine zT_gos (f := 200000) (pc2 := 37) (ls2 := [(4, .int 0), (3, .ref 232), (2, .ref 162), (1, .ref 0), (0, .ref 11)]) (st2 := [.int (xs 0)]) (h2 := zH0) (dc2 := 117) (ds2 := 29934) 9 rfl ?_
  refine zT_gos (f := 200000) (pc2 := 40) (ls2 := [(4, .int 0), (3, .ref 232), (2, .ref 162), (1, .ref 0), (0, .ref 11)]) (st2 := [.int ((xs 0) &&& (63 : Int32))]) (h2 := zH0) (dc2 := 117) (ds2 := 29934) 2 rfl ?_
  refine zT_val h0 ?_
  refine zT_gos (f := 200000) (pc2 := 1104) (ls2 := [(4, .int 0), (3, .ref 232), (2, .ref 162), (1, .ref 0), (0, .ref 11)]) (st2 := [.int (xs 1), .ref 0]) (h2 := zH0) (dc2 := 117) (ds2 := 29934) 7 rfl ?_
  refine zT_if0 false rfl (zc_eq_f (by show ((xs 1) : Int32).toInt ≠ 0; omega)) ?_
  refine zT_here (pc2 := 1107) rfl ?_
  refine zT_gos (f := 200000) (pc2 := 1118) (ls2 := [(4, .int 0), (3, .ref 232), (2, .ref 162), (1, .ref 0), (0, .ref 11)]) (st2 := [.int (xs 2), .int 1, .ref 0]) (h2 := zH0) (dc2 := 117) (ds2 := 29934) 7 rfl ?_
  refine zT_gos (f := 200000) (pc2 := 1124) (ls2 := [(4, .int 0), (3, .ref 232), (2, .ref 162), (1, .ref 0), (0, .ref 11)]) (st2 := [.int (xs 3), .int (xs 2), .int 1, .ref 0]) (h2 := zH0) (dc2 := 117) (ds2 := 29934) 5 rfl ?_
  refine zT_call (v := some (.int (-9999))) (h2 := zH0) (d1 := 0) (s1 := 0) rfl rfl ?_ ?_
  · refine zT_gos (f := 200000) (pc2 := 1) (ls2 := [(0, .ref 0), (1, .int 1), (2, .int (xs 2)), (3, .int (xs 3))]) (st2 := [.int (xs 3)]) (h2 := zH0) (dc2 := 0) (ds2 := 0) 1 rfl ?_
    refine zT_call (v := some (.int 1)) (h2 := zH0) (d1 := 0) (s1 := 0) rfl rfl ?_ ?_
    · refine zT_gos (f := 200000) (pc2 := 1) (ls2 := [(0, .int (xs 3))]) (st2 := [.int (xs 3)]) (h2 := zH0) (dc2 := 0) (ds2 := 0) 1 rfl ?_
      refine zT_if0 true rfl (zc_lt_t (by show ((xs 3) : Int32).toInt < 0; omega)) ?_
      refine zT_here (pc2 := 10) rfl ?_
      refine zT_gos (f := 200000) (pc2 := 15) (ls2 := [(0, .int (xs 3))]) (st2 := [.int 1]) (h2 := zH0) (dc2 := 0) (ds2 := 0) 2 rfl ?_
      exact zT_ret rfl rfl
    refine zT_here (pc2 := 4) rfl ?_
    refine zT_gos (f := 200000) (pc2 := 10) (ls2 := [(0, .ref 0), (1, .int 1), (2, .int (xs 2)), (3, .int (xs 3))]) (st2 := [.int (-9999)]) (h2 := zH0) (dc2 := 0) (ds2 := 0) 2 rfl ?_
    exact zT_ret rfl rfl
  refine zT_here (pc2 := 1127) rfl ?_
  refine zT_gos (f := 200000) (pc2 := 1134) (ls2 := [(4, .int 0), (3, .ref 232), (2, .ref 162), (1, .ref 0), (0, .ref 11)]) (st2 := [.int (xs 1), .ref 162, .int (-9999)]) (h2 := zH0) (dc2 := 117) (ds2 := 29934) 6 rfl ?_
  refine zT_if0 false rfl (zc_eq_f (by show ((xs 1) : Int32).toInt ≠ 0; omega)) ?_
  refine zT_here (pc2 := 1137) rfl ?_
  refine zT_gos (f := 200000) (pc2 := 1148) (ls2 := [(4, .int 0), (3, .ref 232), (2, .ref 162), (1, .ref 0), (0, .ref 11)]) (st2 := [.int (xs 2), .int 1, .ref 162, .int (-9999)]) (h2 := zH0) (dc2 := 117) (ds2 := 29934) 7 rfl ?_
  refine zT_gos (f := 200000) (pc2 := 1154) (ls2 := [(4, .int 0), (3, .ref 232), (2, .ref 162), (1, .ref 0), (0, .ref 11)]) (st2 := [.int (xs 3), .int (xs 2), .int 1, .ref 162, .int (-9999)]) (h2 := zH0) (dc2 := 117) (ds2 := 29934) 5 rfl ?_
  refine zT_call (v := some (.int (-9999))) (h2 := ((((zH0.set 106 (.inl (2, 2, [0, 1]))).set 105 (.inl (0, 2, [0, 0]))).set 107 (.inl (0, 132, [0, 0, 0, 0, 0, 0, 0, 0, 0, 0, 0, 0, 0, 0, 0, 0, 0, 0, 0, 0, 0, 0, 0, 0, 0, 0, 0, 0, 0, 0, 0, 0, 0, 0, 0, 0, 0, 0, 0, 0, 0, 0, 0, 0, 0, 0, 0, 0, 0, 0, 0, 0, 0, 0, 0, 0, 0, 0, 0, 0, 0, 0, 0, 0, 0, 0, 0, 0, 0, 0, 0, 0]))).set 109 (.inl (0, 22, [0, 0, 0, 0, 0, 0, 0, 0, 0, 0, 0, 0])))) (d1 := 0) (s1 := 0) rfl rfl ?_ ?_
  · refine zT_gos (f := 200000) (pc2 := 7) (ls2 := [(0, .ref 162), (1, .int 1), (2, .int (xs 2)), (3, .int (xs 3))]) (st2 := [.int 1, .ref 162]) (h2 := zH0) (dc2 := 0) (ds2 := 0) 5 rfl ?_
    refine zT_call rfl rfl (zT_le (zg0_le 6 xs) zk_o_116) ?_
    refine zT_here (pc2 := 10) rfl ?_
    refine zT_gos (f := 200000) (pc2 := 29) (ls2 := [(5, .int 2), (4, .int 0), (0, .ref 162), (1, .int 1), (2, .int (xs 2)), (3, .int (xs 3))]) (st2 := [.int (-2), .int (xs 2)]) (h2 := ((((zH0.set 106 (.inl (2, 2, [0, 1]))).set 105 (.inl (0, 2, [0, 0]))).set 107 (.inl (0, 132, [0, 0, 0, 0, 0, 0, 0, 0, 0, 0, 0, 0, 0, 0, 0, 0, 0, 0, 0, 0, 0, 0, 0, 0, 0, 0, 0, 0, 0, 0, 0, 0, 0, 0, 0, 0, 0, 0, 0, 0, 0, 0, 0, 0, 0, 0, 0, 0, 0, 0, 0, 0, 0, 0, 0, 0, 0, 0, 0, 0, 0, 0, 0, 0, 0, 0, 0, 0, 0, 0, 0, 0]))).set 109 (.inl (0, 22, [0, 0, 0, 0, 0, 0, 0, 0, 0, 0, 0, 0])))) (dc2 := 0) (ds2 := 0) 11 rfl ?_
    refine zT_if2 false rfl (zc_lt_f (by show ((xs 2) : Int32).toInt ≥ -2; omega)) ?_
    refine zT_here (pc2 := 32) rfl ?_
    refine zT_gos (f := 200000) (pc2 := 38) (ls2 := [(5, .int 2), (4, .int 0), (0, .ref 162), (1, .int 1), (2, .int (xs 2)), (3, .int (xs 3))]) (st2 := [.int 2, .int (xs 2)]) (h2 := ((((zH0.set 106 (.inl (2, 2, [0, 1]))).set 105 (.inl (0, 2, [0, 0]))).set 107 (.inl (0, 132, [0, 0, 0, 0, 0, 0, 0, 0, 0, 0, 0, 0, 0, 0, 0, 0, 0, 0, 0, 0, 0, 0, 0, 0, 0, 0, 0, 0, 0, 0, 0, 0, 0, 0, 0, 0, 0, 0, 0, 0, 0, 0, 0, 0, 0, 0, 0, 0, 0, 0, 0, 0, 0, 0, 0, 0, 0, 0, 0, 0, 0, 0, 0, 0, 0, 0, 0, 0, 0, 0, 0, 0]))).set 109 (.inl (0, 22, [0, 0, 0, 0, 0, 0, 0, 0, 0, 0, 0, 0])))) (dc2 := 0) (ds2 := 0) 4 rfl ?_
    refine zT_if2 true rfl (zc_gt_t (by show ((xs 2) : Int32).toInt > 2; omega)) ?_
    refine zT_here (pc2 := 48) rfl ?_
    refine zT_gos (f := 200000) (pc2 := 71) (ls2 := [(5, .int 2), (4, .int 0), (0, .ref 162), (1, .int 1), (2, .int (xs 2)), (3, .int (xs 3))]) (st2 := [.int (-9999)]) (h2 := ((((zH0.set 106 (.inl (2, 2, [0, 1]))).set 105 (.inl (0, 2, [0, 0]))).set 107 (.inl (0, 132, [0, 0, 0, 0, 0, 0, 0, 0, 0, 0, 0, 0, 0, 0, 0, 0, 0, 0, 0, 0, 0, 0, 0, 0, 0, 0, 0, 0, 0, 0, 0, 0, 0, 0, 0, 0, 0, 0, 0, 0, 0, 0, 0, 0, 0, 0, 0, 0, 0, 0, 0, 0, 0, 0, 0, 0, 0, 0, 0, 0, 0, 0, 0, 0, 0, 0, 0, 0, 0, 0, 0, 0]))).set 109 (.inl (0, 22, [0, 0, 0, 0, 0, 0, 0, 0, 0, 0, 0, 0])))) (dc2 := 0) (ds2 := 0) 2 rfl ?_
    exact zT_ret rfl rfl
  refine zT_here (pc2 := 1157) rfl ?_
  refine zT_gos (f := 200000) (pc2 := 1811) (ls2 := [(4, .int 6), (3, .ref 232), (2, .ref 162), (1, .ref 0), (0, .ref 11)]) (st2 := [.int 1]) (h2 := ((((zH0.set 106 (.inl (2, 2, [0, 1]))).set 105 (.inl (0, 2, [0, 0]))).set 107 (.inl (0, 132, [0, 0, 0, 0, 0, 0, 0, 0, 0, 0, 0, 0, 0, 0, 0, 0, 0, 0, 0, 0, 0, 0, 0, 0, 0, 0, 0, 0, 0, 0, 0, 0, 0, 0, 0, 0, 0, 0, 0, 0, 0, 0, 0, 0, 0, 0, 0, 0, 0, 0, 0, 0, 0, 0, 0, 0, 0, 0, 0, 0, 0, 0, 0, 0, 0, 0, 0, 0, 0, 0, 0, 0]))).set 109 (.inl (0, 22, [0, 0, 0, 0, 0, 0, 0, 0, 0, 0, 0, 0])))) (dc2 := 117) (ds2 := 29934) 10 rfl ?_
  exact zT_ret rfl rfl
set_option maxRecDepth 1000000 in
set_option maxHeartbeats 4000000 in
theorem zo_24_8 (xs : Nat → Int32) (h0 : xs 0 &&& 63 = 24) (h1 : (xs 1).toInt ≠ 0) (h3 : (xs 3).toInt < 0) (h2 : -2 ≤ (xs 2).toInt ∧ (xs 2).toInt ≤ 2) : zDone xs := by
  refine ⟨((((zH0.set 106 (.inl (2, 2, [0, 1]))).set 105 (.inl (0, 2, [0, 0]))).set 107 (.inl (0, 132, [0, 0, 0, 0, 0, 0, 0, 0, 0, 0, 0, 0, 0, 0, 0, 0, 0, 0, 0, 0, 0, 0, 0, 0, 0, 0, 0, 0, 0, 0, 0, 0, 0, 0, 0, 0, 0, 0, 0, 0, 0, 0, 0, 0, 0, 0, 0, 0, 0, 0, 0, 0, 0, 0, 0, 0, 0, 0, 0, 0, 0, 0, 0, 0, 0, 0, 0, 0, 0, 0, 0, 0]))).set 109 (.inl (0, 22, [0, 0, 0, 0, 0, 0, 0, 0, 0, 0, 0, 0]))), 117, 29934, ?_, by decide, by decide⟩
  refine zT_gos (f := 200000) (pc2 := 37) (ls2 := [(4, .int 0), (3, .ref 232), (2, .ref 162), (1, .ref 0), (0, .ref 11)]) (st2 := [.int (xs 0)]) (h2 := zH0) (dc2 := 117) (ds2 := 29934) 9 rfl ?_
  refine zT_gos (f := 200000) (pc2 := 40) (ls2 := [(4, .int 0), (3, .ref 232), (2, .ref 162), (1, .ref 0), (0, .ref 11)]) (st2 := [.int ((xs 0) &&& (63 : Int32))]) (h2 := zH0) (dc2 := 117) (ds2 := 29934) 2 rfl ?_
  refine zT_val h0 ?_
  refine zT_gos (f := 200000) (pc2 := 1104) (ls2 := [(4, .int 0), (3, .ref 232), (2, .ref 162), (1, .ref 0), (0, .ref 11)]) (st2 := [.int (xs 1), .ref 0]) (h2 := zH0) (dc2 := 117) (ds2 := 29934) 7 rfl ?_
  refine zT_if0 false rfl (zc_eq_f (by show ((xs 1) : Int32).toInt ≠ 0; omega)) ?_
  refine zT_here (pc2 := 1107) rfl ?_
  refine zT_gos (f := 200000) (pc2 := 1118) (ls2 := [(4, .int 0), (3, .ref 232), (2, .ref 162), (1, .ref 0), (0, .ref 11)]) (st2 := [.int (xs 2), .int 1, .ref 0]) (h2 := zH0) (dc2 := 117) (ds2 := 29934) 7 rfl ?_
  refine zT_gos (f := 200000) (pc2 := 1124) (ls2 := [(4, .int 0), (3, .ref 232), (2, .ref 162), (1, .ref 0), (0, .ref 11)]) (st2 := [.int (xs 3), .int (xs 2), .int 1, .ref 0]) (h2 := zH0) (dc2 := 117) (ds2 := 29934) 5 rfl ?_
  refine zT_call (v := some (.int (-9999))) (h2 := zH0) (d1 := 0) (s1 := 0) rfl rfl ?_ ?_
  · refine zT_gos (f := 200000) (pc2 := 1) (ls2 := [(0, .ref 0), (1, .int 1), (2, .int (xs 2)), (3, .int (xs 3))]) (st2 := [.int (xs 3)]) (h2 := zH0) (dc2 := 0) (ds2 := 0) 1 rfl ?_
    refine zT_call (v := some (.int 1)) (h2 := zH0) (d1 := 0) (s1 := 0) rfl rfl ?_ ?_
    · refine zT_gos (f := 200000) (pc2 := 1) (ls2 := [(0, .int (xs 3))]) (st2 := [.int (xs 3)]) (h2 := zH0) (dc2 := 0) (ds2 := 0) 1 rfl ?_
      refine zT_if0 true rfl (zc_lt_t (by show ((xs 3) : Int32).toInt < 0; omega)) ?_
      refine zT_here (pc2 := 10) rfl ?_
      refine zT_gos (f := 200000) (pc2 := 15) (ls2 := [(0, .int (xs 3))]) (st2 := [.int 1]) (h2 := zH0) (dc2 := 0) (ds2 := 0) 2 rfl ?_
      exact zT_ret rfl rfl
    refine zT_here (pc2 := 4) rfl ?_
    refine zT_gos (f := 200000) (pc2 := 10) (ls2 := [(0, .ref 0), (1, .int 1), (2, .int (xs 2)), (3, .int (xs 3))]) (st2 := [.int (-9999)]) (h2 := zH0) (dc2 := 0) (ds2 := 0) 2 rfl ?_
    exact zT_ret rfl rfl
  refine zT_here (pc2 := 1127) rfl ?_
  refine zT_gos (f := 200000) (pc2 := 1134) (ls2 := [(4, .int 0), (3, .ref 232), (2, .ref 162), (1, .ref 0), (0, .ref 11)]) (st2 := [.int (xs 1), .ref 162, .int (-9999)]) (h2 := zH0) (dc2 := 117) (ds2 := 29934) 6 rfl ?_
  refine zT_if0 false rfl (zc_eq_f (by show ((xs 1) : Int32).toInt ≠ 0; omega)) ?_
  refine zT_here (pc2 := 1137) rfl ?_
  refine zT_gos (f := 200000) (pc2 := 1148) (ls2 := [(4, .int 0), (3, .ref 232), (2, .ref 162), (1, .ref 0), (0, .ref 11)]) (st2 := [.int (xs 2), .int 1, .ref 162, .int (-9999)]) (h2 := zH0) (dc2 := 117) (ds2 := 29934) 7 rfl ?_
  refine zT_gos (f := 200000) (pc2 := 1154) (ls2 := [(4, .int 0), (3, .ref 232), (2, .ref 162), (1, .ref 0), (0, .ref 11)]) (st2 := [.int (xs 3), .int (xs 2), .int 1, .ref 162, .int (-9999)]) (h2 := zH0) (dc2 := 117) (ds2 := 29934) 5 rfl ?_
  refine zT_call (v := some (.int (-9999))) (h2 := ((((zH0.set 106 (.inl (2, 2, [0, 1]))).set 105 (.inl (0, 2, [0, 0]))).set 107 (.inl (0, 132, [0, 0, 0, 0, 0, 0, 0, 0, 0, 0, 0, 0, 0, 0, 0, 0, 0, 0, 0, 0, 0, 0, 0, 0, 0, 0, 0, 0, 0, 0, 0, 0, 0, 0, 0, 0, 0, 0, 0, 0, 0, 0, 0, 0, 0, 0, 0, 0, 0, 0, 0, 0, 0, 0, 0, 0, 0, 0, 0, 0, 0, 0, 0, 0, 0, 0, 0, 0, 0, 0, 0, 0]))).set 109 (.inl (0, 22, [0, 0, 0, 0, 0, 0, 0, 0, 0, 0, 0, 0])))) (d1 := 0) (s1 := 0) rfl rfl ?_ ?_
  · refine zT_gos (f := 200000) (pc2 := 7) (ls2 := [(0, .ref 162), (1, .int 1), (2, .int (xs 2)), (3, .int (xs 3))]) (st2 := [.int 1, .ref 162]) (h2 := zH0) (dc2 := 0) (ds2 := 0) 5 rfl ?_
    refine zT_call rfl rfl (zT_le (zg0_le 6 xs) zk_o_116) ?_
    refine zT_here (pc2 := 10) rfl ?_
    refine zT_gos (f := 200000) (pc2 := 29) (ls2 := [(5, .int 2), (4, .int 0), (0, .ref 162), (1, .int 1), (2, .int (xs 2)), (3, .int (xs 3))]) (st2 := [.int (-2), .int (xs 2)]) (h2 := ((((zH0.set 106 (.inl (2, 2, [0, 1]))).set 105 (.inl (0, 2, [0, 0]))).set 107 (.inl (0, 132, [0, 0, 0, 0, 0, 0, 0, 0, 0, 0, 0, 0, 0, 0, 0, 0, 0, 0, 0, 0, 0, 0, 0, 0, 0, 0, 0, 0, 0, 0, 0, 0, 0, 0, 0, 0, 0, 0, 0, 0, 0, 0, 0, 0, 0, 0, 0, 0, 0, 0, 0, 0, 0, 0, 0, 0, 0, 0, 0, 0, 0, 0, 0, 0, 0, 0, 0, 0, 0, 0, 0, 0]))).set 109 (.inl (0, 22, [0, 0, 0, 0, 0, 0, 0, 0, 0, 0, 0, 0])))) (dc2 := 0) (ds2 := 0) 11 rfl ?_
    refine zT_if2 false rfl (zc_lt_f (by show ((xs 2) : Int32).toInt ≥ -2; omega)) ?_
    refine zT_here (pc2 := 32) rfl ?_
    refine zT_gos (f := 200000) (pc2 := 38) (ls2 := [(5, .int 2), (4, .int 0), (0, .ref 162), (1, .int 1), (2, .int (xs 2)), (3, .int (xs 3))]) (st2 := [.int 2, .int (xs 2)]) (h2 := ((((zH0.set 106 (.inl (2, 2, [0, 1]))).set 105 (.inl (0, 2, [0, 0]))).set 107 (.inl (0, 132, [0, 0, 0, 0, 0, 0, 0, 0, 0, 0, 0, 0, 0, 0, 0, 0, 0, 0, 0, 0, 0, 0, 0, 0, 0, 0, 0, 0, 0, 0, 0, 0, 0, 0, 0, 0, 0, 0, 0, 0, 0, 0, 0, 0, 0, 0, 0, 0, 0, 0, 0, 0, 0, 0, 0, 0, 0, 0, 0, 0, 0, 0, 0, 0, 0, 0, 0, 0, 0, 0, 0, 0]))).set 109 (.inl (0, 22, [0, 0, 0, 0, 0, 0, 0, 0, 0, 0, 0, 0])))) (dc2 := 0) (ds2 := 0) 4 rfl ?_
    refine zT_if2 false rfl (zc_gt_f (by show ((xs 2) : Int32).toInt ≤ 2; omega)) ?_
    refine zT_here (pc2 := 41) rfl ?_
    refine zT_gos (f := 200000) (pc2 := 42) (ls2 := [(5, .int 2), (4, .int 0), (0, .ref 162), (1, .int 1), (2, .int (xs 2)), (3, .int (xs 3))]) (st2 := [.int (xs 3)]) (h2 := ((((zH0.set 106 (.inl (2, 2, [0, 1]))).set 105 (.inl (0, 2, [0, 0]))).set 107 (.inl (0, 132, [0, 0, 0, 0, 0, 0, 0, 0, 0, 0, 0, 0, 0, 0, 0, 0, 0, 0, 0, 0, 0, 0, 0, 0, 0, 0, 0, 0, 0, 0, 0, 0, 0, 0, 0, 0, 0, 0, 0, 0, 0, 0, 0, 0, 0, 0, 0, 0, 0, 0, 0, 0, 0, 0, 0, 0, 0, 0, 0, 0, 0, 0, 0, 0, 0, 0, 0, 0, 0, 0, 0, 0]))).set 109 (.inl (0, 22, [0, 0, 0, 0, 0, 0, 0, 0, 0, 0, 0, 0])))) (dc2 := 0) (ds2 := 0) 1 rfl ?_
    refine zT_call (v := some (.int 0)) (h2 := ((((zH0.set 106 (.inl (2, 2, [0, 1]))).set 105 (.inl (0, 2, [0, 0]))).set 107 (.inl (0, 132, [0, 0, 0, 0, 0, 0, 0, 0, 0, 0, 0, 0, 0, 0, 0, 0, 0, 0, 0, 0, 0, 0, 0, 0, 0, 0, 0, 0, 0, 0, 0, 0, 0, 0, 0, 0, 0, 0, 0, 0, 0, 0, 0, 0, 0, 0, 0, 0, 0, 0, 0, 0, 0, 0, 0, 0, 0, 0, 0, 0, 0, 0, 0, 0, 0, 0, 0, 0, 0, 0, 0, 0]))).set 109 (.inl (0, 22, [0, 0, 0, 0, 0, 0, 0, 0, 0, 0, 0, 0])))) (d1 := 0) (s1 := 0) rfl rfl ?_ ?_
    · refine zT_gos (f := 200000) (pc2 := 1) (ls2 := [(0, .int (xs 3))]) (st2 := [.int (xs 3)]) (h2 := ((((zH0.set 106 (.inl (2, 2, [0, 1]))).set 105 (.inl (0, 2, [0, 0]))).set 107 (.inl (0, 132, [0, 0, 0, 0, 0, 0, 0, 0, 0, 0, 0, 0, 0, 0, 0, 0, 0, 0, 0, 0, 0, 0, 0, 0, 0, 0, 0, 0, 0, 0, 0, 0, 0, 0, 0, 0, 0, 0, 0, 0, 0, 0, 0, 0, 0, 0, 0, 0, 0, 0, 0, 0, 0, 0, 0, 0, 0, 0, 0, 0, 0, 0, 0, 0, 0, 0, 0, 0, 0, 0, 0, 0]))).set 109 (.inl (0, 22, [0, 0, 0, 0, 0, 0, 0, 0, 0, 0, 0, 0])))) (dc2 := 0) (ds2 := 0) 1 rfl ?_
      refine zT_if0 true rfl (zc_lt_t (by show ((xs 3) : Int32).toInt < 0; omega)) ?_
      refine zT_here (pc2 := 14) rfl ?_
      refine zT_gos (f := 200000) (pc2 := 15) (ls2 := [(0, .int (xs 3))]) (st2 := [.int 0]) (h2 := ((((zH0.set 106 (.inl (2, 2, [0, 1]))).set 105 (.inl (0, 2, [0, 0]))).set 107 (.inl (0, 132, [0, 0, 0, 0, 0, 0, 0, 0, 0, 0, 0, 0, 0, 0, 0, 0, 0, 0, 0, 0, 0, 0, 0, 0, 0, 0, 0, 0, 0, 0, 0, 0, 0, 0, 0, 0, 0, 0, 0, 0, 0, 0, 0, 0, 0, 0, 0, 0, 0, 0, 0, 0, 0, 0, 0, 0, 0, 0, 0, 0, 0, 0, 0, 0, 0, 0, 0, 0, 0, 0, 0, 0]))).set 109 (.inl (0, 22, [0, 0, 0, 0, 0, 0, 0, 0, 0, 0, 0, 0])))) (dc2 := 0) (ds2 := 0) 1 rfl ?_
      exact zT_ret rfl rfl
    refine zT_here (pc2 := 45) rfl ?_
    refine zT_gos (f := 200000) (pc2 := 71) (ls2 := [(5, .int 2), (4, .int 0), (0, .ref 162), (1, .int 1), (2, .int (xs 2)), (3, .int (xs 3))]) (st2 := [.int (-9999)]) (h2 := ((((zH0.set 106 (.inl (2, 2, [0, 1]))).set 105 (.inl (0, 2, [0, 0]))).set 107 (.inl (0, 132, [0, 0, 0, 0, 0, 0, 0, 0, 0, 0, 0, 0, 0, 0, 0, 0, 0, 0, 0, 0, 0, 0, 0, 0, 0, 0, 0, 0, 0, 0, 0, 0, 0, 0, 0, 0, 0, 0, 0, 0, 0, 0, 0, 0, 0, 0, 0, 0, 0, 0, 0, 0, 0, 0, 0, 0, 0, 0, 0, 0, 0, 0, 0, 0, 0, 0, 0, 0, 0, 0, 0, 0]))).set 109 (.inl (0, 22, [0, 0, 0, 0, 0, 0, 0, 0, 0, 0, 0, 0])))) (dc2 := 0) (ds2 := 0) 3 rfl ?_
    exact zT_ret rfl rfl
  refine zT_here (pc2 := 1157) rfl ?_
  refine zT_gos (f := 200000) (pc2 := 1811) (ls2 := [(4, .int 6), (3, .ref 232), (2, .ref 162), (1, .ref 0), (0, .ref 11)]) (st2 := [.int 1]) (h2 := ((((zH0.set 106 (.inl (2, 2, [0, 1]))).set 105 (.inl (0, 2, [0, 0]))).set 107 (.inl (0, 132, [0, 0, 0, 0, 0, 0, 0, 0, 0, 0, 0, 0, 0, 0, 0, 0, 0, 0, 0, 0, 0, 0, 0, 0, 0, 0, 0, 0, 0, 0, 0, 0, 0, 0, 0, 0, 0, 0, 0, 0, 0, 0, 0, 0, 0, 0, 0, 0, 0, 0, 0, 0, 0, 0, 0, 0, 0, 0, 0, 0, 0, 0, 0, 0, 0, 0, 0, 0, 0, 0, 0, 0]))).set 109 (.inl (0, 22, [0, 0, 0, 0, 0, 0, 0, 0, 0, 0, 0, 0])))) (dc2 := 117) (ds2 := 29934) 10 rfl ?_
  exact zT_ret rfl rfl
set_option maxRecDepth 1000000 in
set_option maxHeartbeats 4000000 in
theorem zo_24_9 (xs : Nat → Int32) (h0 : xs 0 &&& 63 = 24) (h1 : (xs 1).toInt ≠ 0) (h3 : 5 < (xs 3).toInt) (h2 : (xs 2).toInt < -2) : zDone xs := by
  refine ⟨((((zH0.set 106 (.inl (2, 2, [0, 1]))).set 105 (.inl (0, 2, [0, 0]))).set 107 (.inl (0, 132, [0, 0, 0, 0, 0, 0, 0, 0, 0, 0, 0, 0, 0, 0, 0, 0, 0, 0, 0, 0, 0, 0, 0, 0, 0, 0, 0, 0, 0, 0, 0, 0, 0, 0, 0, 0, 0, 0, 0, 0, 0, 0, 0, 0, 0, 0, 0, 0, 0, 0, 0, 0, 0, 0, 0, 0, 0, 0, 0, 0, 0, 0, 0, 0, 0, 0, 0, 0, 0, 0, 0, 0]))).set 109 (.inl (0, 22, [0, 0, 0, 0, 0, 0, 0, 0, 0, 0, 0, 0]))), 117, 29934, ?_, by decide, by decide⟩
  refine zT_gos (f := 200000) (pc2 := 37) (ls2 := [(4, .int 0), (3, .ref 232), (2, .ref 162), (1, .ref 0), (0, .ref 11)]) (st2 := [.int (xs 0)]) (h2 := zH0) (dc2 := 117) (ds2 := 29934) 9 rfl ?_
  refine zT_gos (f := 200000) (pc2 := 40) (ls2 := [(4, .int 0), (3, .ref 232), (2, .ref 162), (1, .ref 0), (0, .ref 11)]) (st2 := [.int ((xs 0) &&& (63 : Int32))]) (h2 := zH0) (dc2 := 117) (ds2 := 29934) 2 rfl ?_
  refine zT_val h0 ?_
  refine zT_gos (f := 200000) (pc2 := 1104) (ls2 := [(4, .int 0), (3, .ref 232), (2, .ref 162), (1, .ref 0), (0, .ref 11)]) (st2 := [.int (xs 1), .ref 0]) (h2 := zH0) (dc2 := 117) (ds2 := 29934) 7 rfl ?_
  refine zT_if0 false rfl (zc_eq_f (by show ((xs 1) : Int32).toInt ≠ 0; omega)) ?_
  refine zT_here (pc2 := 1107) rfl ?_
  refine zT_gos (f := 200000) (pc2 := 1118) (ls2 := [(4, .int 0), (3, .ref 232), (2, .ref 162), (1, .ref 0), (0, .ref 11)]) (st2 := [.int (xs 2), .int 1, .ref 0]) (h2 := zH0) (dc2 := 117) (ds2 := 29934) 7 rfl ?_
  refine zT_gos (f := 200000) (pc2 := 1124) (ls2 := [(4, .int 0), (3, .ref 232), (2, .ref 162), (1, .ref 0), (0, .ref 11)]) (st2 := [.int (xs 3), .int (xs 2), .int 1, .ref 0]) (h2 := zH0) (dc2 := 117) (ds2 := 29934) 5 rfl ?_
  refine zT_call (v := some (.int (-9999))) (h2 := zH0) (d1 := 0) (s1 := 0) rfl rfl ?_ ?_
  · refine zT_gos (f := 200000) (pc2 := 1) (ls2 := [(0, .ref 0), (1, .int 1), (2, .int (xs 2)), (3, .int (xs 3))]) (st2 := [.int (xs 3)]) (h2 := zH0) (dc2 := 0) (ds2 := 0) 1 rfl ?_
    refine zT_call (v := some (.int 1)) (h2 := zH0) (d1 := 0) (s1 := 0) rfl rfl ?_ ?_
    · refine zT_gos (f := 200000) (pc2 := 1) (ls2 := [(0, .int (xs 3))]) (st2 := [.int (xs 3)]) (h2 := zH0) (dc2 := 0) (ds2 := 0) 1 rfl ?_
      refine zT_if0 false rfl (zc_lt_f (by show ((xs 3) : Int32).toInt ≥ 0; omega)) ?_
      refine zT_here (pc2 := 4) rfl ?_
      refine zT_gos (f := 200000) (pc2 := 7) (ls2 := [(0, .int (xs 3))]) (st2 := [.int 6, .int (xs 3)]) (h2 := zH0) (dc2 := 0) (ds2 := 0) 2 rfl ?_
      refine zT_if2 false rfl (zc_lt_f (by show ((xs 3) : Int32).toInt ≥ 6; omega)) ?_
      refine zT_here (pc2 := 10) rfl ?_
      refine zT_gos (f := 200000) (pc2 := 15) (ls2 := [(0, .int (xs 3))]) (st2 := [.int 1]) (h2 := zH0) (dc2 := 0) (ds2 := 0) 2 rfl ?_
      exact zT_ret rfl rfl
    refine zT_here (pc2 := 4) rfl ?_
    refine zT_gos (f := 200000) (pc2 := 10) (ls2 := [(0, .ref 0), (1, .int 1), (2, .int (xs 2)), (3, .int (xs 3))]) (st2 := [.int (-9999)]) (h2 := zH0) (dc2 := 0) (ds2 := 0) 2 rfl ?_
    exact zT_ret rfl rfl
  refine zT_here (pc2 := 1127) rfl ?_
  refine zT_gos (f := 200000) (pc2 := 1134) (ls2 := [(4, .int 0), (3, .ref 232), (2, .ref 162), (1, .ref 0), (0, .ref 11)]) (st2 := [.int (xs 1), .ref 162, .int (-9999)]) (h2 := zH0) (dc2 := 117) (ds2 := 29934) 6 rfl ?_
  refine zT_if0 false rfl (zc_eq_f (by show ((xs 1) : Int32).toInt ≠ 0; omega)) ?_
  refine zT_here (pc2 := 1137) rfl ?_
  refine zT_gos (f := 200000) (pc2 := 1148) (ls2 := [(4, .int 0), (3, .ref 232), (2, .ref 162), (1, .ref 0), (0, .ref 11)]) (st2 := [.int (xs 2), .int 1, .ref 162, .int (-9999)]) (h2 := zH0) (dc2 := 117) (ds2 := 29934) 7 rfl ?_
  refine zT_gos (f := 200000) (pc2 := 1154) (ls2 := [(4, .int 0), (3, .ref 232), (2, .ref 162), (1, .ref 0), (0, .ref 11)]) (st2 := [.int (xs 3), .int (xs 2), .int 1, .ref 162, .int (-9999)]) (h2 := zH0) (dc2 := 117) (ds2 := 29934) 5 rfl ?_
  refine zT_call (v := some (.int (-9999))) (h2 := ((((zH0.set 106 (.inl (2, 2, [0, 1]))).set 105 (.inl (0, 2, [0, 0]))).set 107 (.inl (0, 132, [0, 0, 0, 0, 0, 0, 0, 0, 0, 0, 0, 0, 0, 0, 0, 0, 0, 0, 0, 0, 0, 0, 0, 0, 0, 0, 0, 0, 0, 0, 0, 0, 0, 0, 0, 0, 0, 0, 0, 0, 0, 0, 0, 0, 0, 0, 0, 0, 0, 0, 0, 0, 0, 0, 0, 0, 0, 0, 0, 0, 0, 0, 0, 0, 0, 0, 0, 0, 0, 0, 0, 0]))).set 109 (.inl (0, 22, [0, 0, 0, 0, 0, 0, 0, 0, 0, 0, 0, 0])))) (d1 := 0) (s1 := 0) rfl rfl ?_ ?_
  · refine zT_gos (f := 200000) (pc2 := 7) (ls2 := [(0, .ref 162), (1, .int 1), (2, .int (xs 2)), (3, .int (xs 3))]) (st2 := [.int 1, .ref 162]) (h2 := zH0) (dc2 := 0) (ds2 := 0) 5 rfl ?_
    refine zT_call rfl rfl (zT_le (zg0_le 6 xs) zk_o_116) ?_
    refine zT_here (pc2 := 10) rfl ?_
    refine zT_gos (f := 200000) (pc2 := 29) (ls2 := [(5, .int 2), (4, .int 0), (0, .ref 162), (1, .int 1), (2, .int (xs 2)), (3, .int (xs 3))]) (st2 := [.int (-2), .int (xs 2)]) (h2 := ((((zH0.set 106 (.inl (2, 2, [0, 1]))).set 105 (.inl (0, 2, [0, 0]))).set 107 (.inl (0, 132, [0, 0, 0, 0, 0, 0, 0, 0, 0, 0, 0, 0, 0, 0, 0, 0, 0, 0, 0, 0, 0, 0, 0, 0, 0, 0, 0, 0, 0, 0, 0, 0, 0, 0, 0, 0, 0, 0, 0, 0, 0, 0, 0, 0, 0, 0, 0, 0, 0, 0, 0, 0, 0, 0, 0, 0, 0, 0, 0, 0, 0, 0, 0, 0, 0, 0, 0, 0, 0, 0, 0, 0]))).set 109 (.inl (0, 22, [0, 0, 0, 0, 0, 0, 0, 0, 0, 0, 0, 0])))) (dc2 := 0) (ds2 := 0) 11 rfl ?_
    refine zT_if2 true rfl (zc_lt_t (by show ((xs 2) : Int32).toInt < -2; omega)) ?_
    refine zT_here (pc2 := 48) rfl ?_
    refine zT_gos (f := 200000) (pc2 := 71) (ls2 := [(5, .int 2), (4, .int 0), (0, .ref 162), (1, .int 1), (2, .int (xs 2)), (3, .int (xs 3))]) (st2 := [.int (-9999)]) (h2 := ((((zH0.set 106 (.inl (2, 2, [0, 1]))).set 105 (.inl (0, 2, [0, 0]))).set 107 (.inl (0, 132, [0, 0, 0, 0, 0, 0, 0, 0, 0, 0, 0, 0, 0, 0, 0, 0, 0, 0, 0, 0, 0, 0, 0, 0, 0, 0, 0, 0, 0, 0, 0, 0, 0, 0, 0, 0, 0, 0, 0, 0, 0, 0, 0, 0, 0, 0, 0, 0, 0, 0, 0, 0, 0, 0, 0, 0, 0, 0, 0, 0, 0, 0, 0, 0, 0, 0, 0, 0, 0, 0, 0, 0]))).set 109 (.inl (0, 22, [0, 0, 0, 0, 0, 0, 0, 0, 0, 0, 0, 0])))) (dc2 := 0) (ds2 := 0) 2 rfl ?_
    exact zT_ret rfl rfl
  refine zT_here (pc2 := 1157) rfl ?_
  refine zT_gos (f := 200000) (pc2 := 1811) (ls2 := [(4, .int 6), (3, .ref 232), (2, .ref 162), (1, .ref 0), (0, .ref 11)]) (st2 := [.int 1]) (h2 := ((((zH0.set 106 (.inl (2, 2, [0, 1]))).set 105 (.inl (0, 2, [0, 0]))).set 107 (.inl (0, 132, [0, 0, 0, 0, 0, 0, 0, 0, 0, 0, 0, 0, 0, 0, 0, 0, 0, 0, 0, 0, 0, 0, 0, 0, 0, 0, 0, 0, 0, 0, 0, 0, 0, 0, 0, 0, 0, 0, 0, 0, 0, 0, 0, 0, 0, 0, 0, 0, 0, 0, 0, 0, 0, 0, 0, 0, 0, 0, 0, 0, 0, 0, 0, 0, 0, 0, 0, 0, 0, 0, 0, 0]))).set 109 (.inl (0, 22, [0, 0, 0, 0, 0, 0, 0, 0, 0, 0, 0, 0])))) (dc2 := 117) (ds2 := 29934) 10 rfl ?_
  exact zT_ret rfl rfl
set_option maxRecDepth 1000000 in
set_option maxHeartbeats 4000000 in
theorem zo_24_10 (xs : Nat → Int32) (h0 : xs 0 &&& 63 = 24) (h1 : (xs 1).toInt ≠ 0) (h3 : 5 < (xs 3).toInt) (h2 : 2 < (xs 2).toInt) : zDone xs := by
  refine ⟨((((zH0.set 106 (.inl (2, 2, [0, 1]))).set 105 (.inl (0, 2, [0, 0]))).set 107 (.inl (0, 132, [0, 0, 0, 0, 0, 0, 0, 0, 0, 0, 0, 0, 0, 0, 0, 0, 0, 0, 0, 0, 0, 0, 0, 0, 0, 0, 0, 0, 0, 0, 0, 0, 0, 0, 0, 0, 0, 0, 0, 0, 0, 0, 0, 0, 0, 0, 0, 0, 0, 0, 0, 0, 0, 0, 0, 0, 0, 0, 0, 0, 0, 0, 0, 0, 0, 0, 0, 0, 0, 0, 0, 0]))).set 109 (.inl (0, 22, [0, 0, 0, 0, 0, 0, 0, 0, 0, 0, 0, 0]))), 117, 29934, ?_, by decide, by decide⟩
  refine zT_gos (f := 200000) (pc2 := 37) (ls2 := [(4, .int 0), (3, .ref 232), (2, .ref 162), (1, .ref 0), (0, .ref 11)]) (st2 := [.int (xs 0)]) (h2 := zH0) (dc2 := 117) (ds2 := 29934) 9 rfl ?_
  refine zT_gos (f := 200000) (pc2 := 40) (ls2 := [(4, .int 0), (3, .ref 232), (2, .ref 162), (1, .ref 0), (0, .ref 11)]) (st2 := [.int ((xs 0) &&& (63 : Int32))]) (h2 := zH0) (dc2 := 117) (ds2 := 29934) 2 rfl ?_
  refine zT_val h0 ?_
  refine zT_gos (f := 200000) (pc2 := 1104) (ls2 := [(4, .int 0), (3, .ref 232), (2, .ref 162), (1, .ref 0), (0, .ref 11)]) (st2 := [.int (xs 1), .ref 0]) (h2 := zH0) (dc2 := 117) (ds2 := 29934) 7 rfl ?_
  refine zT_if0 false rfl (zc_eq_f (by show ((xs 1) : Int32).toInt ≠ 0; omega)) ?_
  refine zT_here (pc2 := 1107) rfl ?_
  refine zT_gos (f := 200000) (pc2 := 1118) (ls2 := [(4, .int 0), (3, .ref 232), (2, .ref 162), (1, .ref 0), (0, .ref 11)]) (st2 := [.int (xs 2), .int 1, .ref 0]) (h2 := zH0) (dc2 := 117) (ds2 := 29934) 7 rfl ?_
  refine zT_gos (f := 200000) (pc2 := 1124) (ls2 := [(4, .int 0), (3, .ref 232), (2, .ref 162), (1, .ref 0), (0, .ref 11)]) (st2 := [.int (xs 3), .int (xs 2), .int 1, .ref 0]) (h2 := zH0) (dc2 := 117) (ds2 := 29934) 5 rfl ?_
  refine zT_call (v := some (.int (-9999))) (h2 := zH0) (d1 := 0) (s1 := 0) rfl rfl ?_ ?_
  · refine zT_gos (f := 200000) (pc2 := 1) (ls2 := [(0, .ref 0), (1, .int 1), (2, .int (xs 2)), (3, .int (xs 3))]) (st2 := [.int (xs 3)]) (h2 := zH0) (dc2 := 0) (ds2 := 0) 1 rfl ?_
    refine zT_call (v := some (.int 1)) (h2 := zH0) (d1 := 0) (s1 := 0) rfl rfl ?_ ?_
    · refine zT_gos (f := 200000) (pc2 := 1) (ls2 := [(0, .int (xs 3))]) (st2 := [.int (xs 3)]) (h2 := zH0) (dc2 := 0) (ds2 := 0) 1 rfl ?_
      refine zT_if0 false rfl (zc_lt_f (by show ((xs 3) : Int32).toInt ≥ 0; omega)) ?_
      refine zT_here (pc2 := 4) rfl ?_
      refine zT_gos (f := 200000) (pc2 := 7) (ls2 := [(0, .int (xs 3))]) (st2 := [.int 6, .int (xs 3)]) (h2 := zH0) (dc2 := 0) (ds2 := 0) 2 rfl ?_
      refine zT_if2 false rfl (zc_lt_f (by show ((xs 3) : Int32).toInt ≥ 6; omega)) ?_
      refine zT_here (pc2 := 10) rfl ?_
      refine zT_gos (f := 200000) (pc2 := 15) (ls2 := [(0, .int (xs 3))]) (st2 := [.int 1]) (h2 := zH0) (dc2 := 0) (ds2 := 0) 2 rfl ?_
      exact zT_ret rfl rfl
    refine zT_here (pc2 := 4) rfl ?_
    refine zT_gos (f := 200000) (pc2 := 10) (ls2 := [(0, .ref 0), (1, .int 1), (2, .int (xs 2)), (3, .int (xs 3))]) (st2 := [.int (-9999)]) (h2 := zH0) (dc2 := 0) (ds2 := 0) 2 rfl ?_
    exact zT_ret rfl rfl
  refine zT_here (pc2 := 1127) rfl ?_
  refine zT_gos (f := 200000) (pc2 := 1134) (ls2 := [(4, .int 0), (3, .ref 232), (2, .ref 162), (1, .ref 0), (0, .ref 11)]) (st2 := [.int (xs 1), .ref 162, .int (-9999)]) (h2 := zH0) (dc2 := 117) (ds2 := 29934) 6 rfl ?_
  refine zT_if0 false rfl (zc_eq_f (by show ((xs 1) : Int32).toInt ≠ 0; omega)) ?_
  refine zT_here (pc2 := 1137) rfl ?_
  refine zT_gos (f := 200000) (pc2 := 1148) (ls2 := [(4, .int 0), (3, .ref 232), (2, .ref 162), (1, .ref 0), (0, .ref 11)]) (st2 := [.int (xs 2), .int 1, .ref 162, .int (-9999)]) (h2 := zH0) (dc2 := 117) (ds2 := 29934) 7 rfl ?_
  refine zT_gos (f := 200000) (pc2 := 1154) (ls2 := [(4, .int 0), (3, .ref 232), (2, .ref 162), (1, .ref 0), (0, .ref 11)]) (st2 := [.int (xs 3), .int (xs 2), .int 1, .ref 162, .int (-9999)]) (h2 := zH0) (dc2 := 117) (ds2 := 29934) 5 rfl ?_
  refine zT_call (v := some (.int (-9999))) (h2 := ((((zH0.set 106 (.inl (2, 2, [0, 1]))).set 105 (.inl (0, 2, [0, 0]))).set 107 (.inl (0, 132, [0, 0, 0, 0, 0, 0, 0, 0, 0, 0, 0, 0, 0, 0, 0, 0, 0, 0, 0, 0, 0, 0, 0, 0, 0, 0, 0, 0, 0, 0, 0, 0, 0, 0, 0, 0, 0, 0, 0, 0, 0, 0, 0, 0, 0, 0, 0, 0, 0, 0, 0, 0, 0, 0, 0, 0, 0, 0, 0, 0, 0, 0, 0, 0, 0, 0, 0, 0, 0, 0, 0, 0]))).set 109 (.inl (0, 22, [0, 0, 0, 0, 0, 0, 0, 0, 0, 0, 0, 0])))) (d1 := 0) (s1 := 0) rfl rfl ?_ ?_
  · refine zT_gos (f := 200000) (pc2 := 7) (ls2 := [(0, .ref 162), (1, .int 1), (2, .int (xs 2)), (3, .int (xs 3))]) (st2 := [.int 1, .ref 162]) (h2 := zH0) (dc2 := 0) (ds2 := 0) 5 rfl ?_
    refine zT_call rfl rfl (zT_le (zg0_le 6 xs) zk_o_116) ?_
    refine zT_here (pc2 := 10) rfl ?_
    refine zT_gos (f := 200000) (pc2 := 29) (ls2 := [(5, .int 2), (4, .int 0), (0, .ref 162), (1, .int 1), (2, .int (xs 2)), (3, .int (xs 3))]) (st2 := [.int (-2), .int (xs 2)]) (h2 := ((((zH0.set 106 (.inl (2, 2, [0, 1]))).set 105 (.inl (0, 2, [0, 0]))).set 107 (.inl (0, 132, [0, 0, 0, 0, 0, 0, 0, 0, 0, 0, 0, 0, 0, 0, 0, 0, 0, 0, 0, 0, 0, 0, 0, 0, 0, 0, 0, 0, 0, 0, 0, 0, 0, 0, 0, 0, 0, 0, 0, 0, 0, 0, 0, 0, 0, 0, 0, 0, 0, 0, 0, 0, 0, 0, 0, 0, 0, 0, 0, 0, 0, 0, 0, 0, 0, 0, 0, 0, 0, 0, 0, 0]))).set 109 (.inl (0, 22, [0, 0, 0, 0, 0, 0, 0, 0, 0, 0, 0, 0])))) (dc2 := 0) (ds2 := 0) 11 rfl ?_
    refine zT_if2 false rfl (zc_lt_f (by show ((xs 2) : Int32).toInt ≥ -2; omega)) ?_
    refine zT_here (pc2 := 32) rfl ?_
    refine zT_gos (f := 200000) (pc2 := 38) (ls2 := [(5, .int 2), (4, .int 0), (0, .ref 162), (1, .int 1), (2, .int (xs 2)), (3, .int (xs 3))]) (st2 := [.int 2, .int (xs 2)]) (h2 := ((((zH0.set 106 (.inl (2, 2, [0, 1]))).set 105 (.inl (0, 2, [0, 0]))).set 107 (.inl (0, 132, [0, 0, 0, 0, 0, 0, 0, 0, 0, 0, 0, 0, 0, 0, 0, 0, 0, 0, 0, 0, 0, 0, 0, 0, 0, 0, 0, 0, 0, 0, 0, 0, 0, 0, 0, 0, 0, 0, 0, 0, 0, 0, 0, 0, 0, 0, 0, 0, 0, 0, 0, 0, 0, 0, 0, 0, 0, 0, 0, 0, 0, 0, 0, 0, 0, 0, 0, 0, 0, 0, 0, 0]))).set 109 (.inl (0, 22, [0, 0, 0, 0, 0, 0, 0, 0, 0, 0, 0, 0])))) (dc2 := 0) (ds2 := 0) 4 rfl ?_
    refine zT_if2 true rfl (zc_gt_t (by show ((xs 2) : Int32).toInt > 2; omega)) ?_
    refine zT_here (pc2 := 48) rfl ?_
    refine zT_gos (f := 200000) (pc2 := 71) (ls2 := [(5, .int 2), (4, .int 0), (0, .ref 162), (1, .int 1), (2, .int (xs 2)), (3, .int (xs 3))]) (st2 := [.int (-9999)]) (h2 := ((((zH0.set 106 (.inl (2, 2, [0, 1]))).set 105 (.inl (0, 2, [0, 0]))).set 107 (.inl (0, 132, [0, 0, 0, 0, 0, 0, 0, 0, 0, 0, 0, 0, 0, 0, 0, 0, 0, 0, 0, 0, 0, 0, 0, 0, 0, 0, 0, 0, 0, 0, 0, 0, 0, 0, 0, 0, 0, 0, 0, 0, 0, 0, 0, 0, 0, 0, 0, 0, 0, 0, 0, 0, 0, 0, 0, 0, 0, 0, 0, 0, 0, 0, 0, 0, 0, 0, 0, 0, 0, 0, 0, 0]))).set 109 (.inl (0, 22, [0, 0, 0, 0, 0, 0, 0, 0, 0, 0, 0, 0])))) (dc2 := 0) (ds2 := 0) 2 rfl ?_
    exact zT_ret rfl rfl
  refine zT_here (pc2 := 1157) rfl ?_
  refine zT_gos (f := 200000) (pc2 := 1811) (ls2 := [(4, .int 6), (3, .ref 232), (2, .ref 162), (1, .ref 0), (0, .ref 11)]) (st2 := [.int 1]) (h2 := ((((zH0.set 106 (.inl (2, 2, [0, 1]))).set 105 (.inl (0, 2, [0, 0]))).set 107 (.inl (0, 132, [0, 0, 0, 0, 0, 0, 0, 0, 0, 0, 0, 0, 0, 0, 0, 0, 0, 0, 0, 0, 0, 0, 0, 0, 0, 0, 0, 0, 0, 0, 0, 0, 0, 0, 0, 0, 0, 0, 0, 0, 0, 0, 0, 0, 0, 0, 0, 0, 0, 0, 0, 0, 0, 0, 0, 0, 0, 0, 0, 0, 0, 0, 0, 0, 0, 0, 0, 0, 0, 0, 0, 0]))).set 109 (.inl (0, 22, [0, 0, 0, 0, 0, 0, 0, 0, 0, 0, 0, 0])))) (dc2 := 117) (ds2 := 29934) 10 rfl ?_
  exact zT_ret rfl rfl
set_option maxRecDepth 1000000 in
set_option maxHeartbeats 4000000 in
theorem zo_24_11 (xs : Nat → Int32) (h0 : xs 0 &&& 63 = 24) (h1 : (xs 1).toInt ≠ 0) (h3 : 5 < (xs 3).toInt) (h2 : -2 ≤ (xs 2).toInt ∧ (xs 2).toInt ≤ 2) : zDone xs := by
  refine ⟨((((zH0.set 106 (.inl (2, 2, [0, 1]))).set 105 (.inl (0, 2, [0, 0]))).set 107 (.inl (0, 132, [0, 0, 0, 0, 0, 0, 0, 0, 0, 0, 0, 0, 0, 0, 0, 0, 0, 0, 0, 0, 0, 0, 0, 0, 0, 0, 0, 0, 0, 0, 0, 0, 0, 0, 0, 0, 0, 0, 0, 0, 0, 0, 0, 0, 0, 0, 0, 0, 0, 0, 0, 0, 0, 0, 0, 0, 0, 0, 0, 0, 0, 0, 0, 0, 0, 0, 0, 0, 0, 0, 0, 0]))).set 109 (.inl (0, 22, [0, 0, 0, 0, 0, 0, 0, 0, 0, 0, 0, 0]))), 117, 29934, ?_, by decide, by decide⟩
  refine zT_gos (f := 200000) (pc2 := 37) (ls2 := [(4, .int 0), (3, .ref 232), (2, .ref 162), (1, .ref 0), (0, .ref 11)]) (st2 := [.int (xs 0)]) (h2 := zH0) (dc2 := 117) (ds2 := 29934) 9 rfl ?_
  refine zT_gos (f := 200000) (pc2 := 40) (ls2 := [(4, .int 0), (3, .ref 232), (2, .ref 162), (1, .ref 0), (0, .ref 11)]) (st2 := [.int ((xs 0) &&& (63 : Int32))]) (h2 := zH0) (dc2 := 117) (ds2 := 29934) 2 rfl ?_
  refine zT_val h0 ?_
  refine zT_gos (f := 200000) (pc2 := 1104) (ls2 := [(4, .int 0), (3, .ref 232), (2, .ref 162), (1, .ref 0), (0, .ref 11)]) (st2 := [.int (xs 1), .ref 0]) (h2 := zH0) (dc2 := 117) (ds2 := 29934) 7 rfl ?_
  refine zT_if0 false rfl (zc_eq_f (by show ((xs 1) : Int32).toInt ≠ 0; omega)) ?_
  refine zT_here (pc2 := 1107) rfl ?_
  refine zT_gos (f := 200000) (pc2 := 1118) (ls2 := [(4, .int 0), (3, .ref 232), (2, .ref 162), (1, .ref 0), (0, .ref 11)]) (st2 := [.int (xs 2), .int 1, .ref 0]) (h2 := zH0) (dc2 := 117) (ds2 := 29934) 7 rfl ?_
  refine zT_gos (f := 200000) (pc2 := 1124) (ls2 := [(4, .int 0), (3, .ref 232), (2, .ref 162), (1, .ref 0), (0, .ref 11)]) (st2 := [.int (xs 3), .int (xs 2), .int 1, .ref 0]) (h2 := zH0) (dc2 := 117) (ds2 := 29934) 5 rfl ?_
  refine zT_call (v := some (.int (-9999))) (h2 := zH0) (d1 := 0) (s1 := 0) rfl rfl ?_ ?_
  · refine zT_gos (f := 200000) (pc2 := 1) (ls2 := [(0, .ref 0), (1, .int 1), (2, .int (xs 2)), (3, .int (xs 3))]) (st2 := [.int (xs 3)]) (h2 := zH0) (dc2 := 0) (ds2 := 0) 1 rfl ?_
    refine zT_call (v := some (.int 1)) (h2 := zH0) (d1 := 0) (s1 := 0) rfl rfl ?_ ?_
    · refine zT_gos (f := 200000) (pc2 := 1) (ls2 := [(0, .int (xs 3))]) (st2 := [.int (xs 3)]) (h2 := zH0) (dc2 := 0) (ds2 := 0) 1 rfl ?_
      refine zT_if0 false rfl (zc_lt_f (by show ((xs 3) : Int32).toInt ≥ 0; omega)) ?_
      refine zT_here (pc2 := 4) rfl ?_
      refine zT_gos (f := 200000) (pc2 := 7) (ls2 := [(0, .int (xs 3))]) (st2 := [.int 6, .int (xs 3)]) (h2 := zH0) (dc2 := 0) (ds2 := 0) 2 rfl ?_
      refine zT_if2 false rfl (zc_lt_f (by show ((xs 3) : Int32).toInt ≥ 6; omega)) ?_
      refine zT_here (pc2 := 10) rfl ?_
      refine zT_gos (f := 200000) (pc2 := 15) (ls2 := [(0, .int (xs 3))]) (st2 := [.int 1]) (h2 := zH0) (dc2 := 0) (ds2 := 0) 2 rfl ?_
      exact zT_ret rfl rfl
    refine zT_here (pc2 := 4) rfl ?_
    refine zT_gos (f := 200000) (pc2 := 10) (ls2 := [(0, .ref 0), (1, .int 1), (2, .int (xs 2)), (3, .int (xs 3))]) (st2 := [.int (-9999)]) (h2 := zH0) (dc2 := 0) (ds2 := 0) 2 rfl ?_
    exact zT_ret rfl rfl
  refine zT_here (pc2 := 1127) rfl ?_
  refine zT_gos (f := 200000) (pc2 := 1134) (ls2 := [(4, .int 0), (3, .ref 232), (2, .ref 162), (1, .ref 0), (0, .ref 11)]) (st2 := [.int (xs 1), .ref 162, .int (-9999)]) (h2 := zH0) (dc2 := 117) (ds2 := 29934) 6 rfl ?_
  refine zT_if0 false rfl (zc_eq_f (by show ((xs 1) : Int32).toInt ≠ 0; omega)) ?_
  refine zT_here (pc2 := 1137) rfl ?_
  refine zT_gos (f := 200000) (pc2 := 1148) (ls2 := [(4, .int 0), (3, .ref 232), (2, .ref 162), (1, .ref 0), (0, .ref 11)]) (st2 := [.int (xs 2), .int 1, .ref 162, .int (-9999)]) (h2 := zH0) (dc2 := 117) (ds2 := 29934) 7 rfl ?_
  refine zT_gos (f := 200000) (pc2 := 1154) (ls2 := [(4, .int 0), (3, .ref 232), (2, .ref 162), (1, .ref 0), (0, .ref 11)]) (st2 := [.int (xs 3), .int (xs 2), .int 1, .ref 162, .int (-9999)]) (h2 := zH0) (dc2 := 117) (ds2 := 29934) 5 rfl ?_
  refine zT_call (v := some (.int (-9999))) (h2 := ((((zH0.set 106 (.inl (2, 2, [0, 1]))).set 105 (.inl (0, 2, [0, 0]))).set 107 (.inl (0, 132, [0, 0, 0, 0, 0, 0, 0, 0, 0, 0, 0, 0, 0, 0, 0, 0, 0, 0, 0, 0, 0, 0, 0, 0, 0, 0, 0, 0, 0, 0, 0, 0, 0, 0, 0, 0, 0, 0, 0, 0, 0, 0, 0, 0, 0, 0, 0, 0, 0, 0, 0, 0, 0, 0, 0, 0, 0, 0, 0, 0, 0, 0, 0, 0, 0, 0, 0, 0, 0, 0, 0, 0]))).set 109 (.inl (0, 22, [0, 0, 0, 0, 0, 0, 0, 0, 0, 0, 0, 0])))) (d1 := 0) (s1 := 0) rfl rfl ?_ ?_
  · refine zT_gos (f := 200000) (pc2 := 7) (ls2 := [(0, .ref 162), (1, .int 1), (2, .int (xs 2)), (3, .int (xs 3))]) (st2 := [.int 1, .ref 162]) (h2 := zH0) (dc2 := 0) (ds2 := 0) 5 rfl ?_
    refine zT_call rfl rfl (zT_le (zg0_le 6 xs) zk_o_116) ?_
    refine zT_here (pc2 := 10) rfl ?_
    refine zT_gos (f := 200000) (pc2 := 29) (ls2 := [(5, .int 2), (4, .int 0), (0, .ref 162), (1, .int 1), (2, .int (xs 2)), (3, .int (xs 3))]) (st2 := [.int (-2), .int (xs 2)]) (h2 := ((((zH0.set 106 (.inl (2, 2, [0, 1]))).set 105 (.inl (0, 2, [0, 0]))).set 107 (.inl (0, 132, [0, 0, 0, 0, 0, 0, 0, 0, 0, 0, 0, 0, 0, 0, 0, 0, 0, 0, 0, 0, 0, 0, 0, 0, 0, 0, 0, 0, 0, 0, 0, 0, 0, 0, 0, 0, 0, 0, 0, 0, 0, 0, 0, 0, 0, 0, 0, 0, 0, 0, 0, 0, 0, 0, 0, 0, 0, 0, 0, 0, 0, 0, 0, 0, 0, 0, 0, 0, 0, 0, 0, 0]))).set 109 (.inl (0, 22, [0, 0, 0, 0, 0, 0, 0, 0, 0, 0, 0, 0])))) (dc2 := 0) (ds2 := 0) 11 rfl ?_
    refine zT_if2 false rfl (zc_lt_f (by show ((xs 2) : Int32).toInt ≥ -2; omega)) ?_
    refine zT_here (pc2 := 32) rfl ?_
    refine zT_gos (f := 200000) (pc2 := 38) (ls2 := [(5, .int 2), (4, .int 0), (0, .ref 162), (1, .int 1), (2, .int (xs 2)), (3, .int (xs 3))]) (st2 := [.int 2, .int (xs 2)]) (h2 := ((((zH0.set 106 (.inl (2, 2, [0, 1]))).set 105 (.inl (0, 2, [0, 0]))).set 107 (.inl (0, 132, [0, 0, 0, 0, 0, 0, 0, 0, 0, 0, 0, 0, 0, 0, 0, 0, 0, 0, 0, 0, 0, 0, 0, 0, 0, 0, 0, 0, 0, 0, 0, 0, 0, 0, 0, 0, 0, 0, 0, 0, 0, 0, 0, 0, 0, 0, 0, 0, 0, 0, 0, 0, 0, 0, 0, 0, 0, 0, 0, 0, 0, 0, 0, 0, 0, 0, 0, 0, 0, 0, 0, 0]))).set 109 (.inl (0, 22, [0, 0, 0, 0, 0, 0, 0, 0, 0, 0, 0, 0])))) (dc2 := 0) (ds2 := 0) 4 rfl ?_
    refine zT_if2 false rfl (zc_gt_f (by show ((xs 2) : Int32).toInt ≤ 2; omega)) ?_
    refine zT_here (pc2 := 41) rfl ?_
    refine zT_gos (f := 200000) (pc2 := 42) (ls2 := [(5, .int 2), (4, .int 0), (0, .ref 162), (1, .int 1), (2, .int (xs 2)), (3, .int (xs 3))]) (st2 := [.int (xs 3)]) (h2 := ((((zH0.set 106 (.inl (2, 2, [0, 1]))).set 105 (.inl (0, 2, [0, 0]))).set 107 (.inl (0, 132, [0, 0, 0, 0, 0, 0, 0, 0, 0, 0, 0, 0, 0, 0, 0, 0, 0, 0, 0, 0, 0, 0, 0, 0, 0, 0, 0, 0, 0, 0, 0, 0, 0, 0, 0, 0, 0, 0, 0, 0, 0, 0, 0, 0, 0, 0, 0, 0, 0, 0, 0, 0, 0, 0, 0, 0, 0, 0, 0, 0, 0, 0, 0, 0, 0, 0, 0, 0, 0, 0, 0, 0]))).set 109 (.inl (0, 22, [0, 0, 0, 0, 0, 0, 0, 0, 0, 0, 0, 0])))) (dc2 := 0) (ds2 := 0) 1 rfl ?_
    refine zT_call (v := some (.int 0)) (h2 := ((((zH0.set 106 (.inl (2, 2, [0, 1]))).set 105 (.inl (0, 2, [0, 0]))).set 107 (.inl (0, 132, [0, 0, 0, 0, 0, 0, 0, 0, 0, 0, 0, 0, 0, 0, 0, 0, 0, 0, 0, 0, 0, 0, 0, 0, 0, 0, 0, 0, 0, 0, 0, 0, 0, 0, 0, 0, 0, 0, 0, 0, 0, 0, 0, 0, 0, 0, 0, 0, 0, 0, 0, 0, 0, 0, 0, 0, 0, 0, 0, 0, 0, 0, 0, 0, 0, 0, 0, 0, 0, 0, 0, 0]))).set 109 (.inl (0, 22, [0, 0, 0, 0, 0, 0, 0, 0, 0, 0, 0, 0])))) (d1 := 0) (s1 := 0) rfl rfl ?_ ?_
    · refine zT_gos (f := 200000) (pc2 := 1) (ls2 := [(0, .int (xs 3))]) (st2 := [.int (xs 3)]) (h2 := ((((zH0.set 106 (.inl (2, 2, [0, 1]))).set 105 (.inl (0, 2, [0, 0]))).set 107 (.inl (0, 132, [0, 0, 0, 0, 0, 0, 0, 0, 0, 0, 0, 0, 0, 0, 0, 0, 0, 0, 0, 0, 0, 0, 0, 0, 0, 0, 0, 0, 0, 0, 0, 0, 0, 0, 0, 0, 0, 0, 0, 0, 0, 0, 0, 0, 0, 0, 0, 0, 0, 0, 0, 0, 0, 0, 0, 0, 0, 0, 0, 0, 0, 0, 0, 0, 0, 0, 0, 0, 0, 0, 0, 0]))).set 109 (.inl (0, 22, [0, 0, 0, 0, 0, 0, 0, 0, 0, 0, 0, 0])))) (dc2 := 0) (ds2 := 0) 1 rfl ?_
      refine zT_if0 false rfl (zc_lt_f (by show ((xs 3) : Int32).toInt ≥ 0; omega)) ?_
      refine zT_here (pc2 := 4) rfl ?_
      refine zT_gos (f := 200000) (pc2 := 7) (ls2 := [(0, .int (xs 3))]) (st2 := [.int 6, .int (xs 3)]) (h2 := ((((zH0.set 106 (.inl (2, 2, [0, 1]))).set 105 (.inl (0, 2, [0, 0]))).set 107 (.inl (0, 132, [0, 0, 0, 0, 0, 0, 0, 0, 0, 0, 0, 0, 0, 0, 0, 0, 0, 0, 0, 0, 0, 0, 0, 0, 0, 0, 0, 0, 0, 0, 0, 0, 0, 0, 0, 0, 0, 0, 0, 0, 0, 0, 0, 0, 0, 0, 0, 0, 0, 0, 0, 0, 0, 0, 0, 0, 0, 0, 0, 0, 0, 0, 0, 0, 0, 0, 0, 0, 0, 0, 0, 0]))).set 109 (.inl (0, 22, [0, 0, 0, 0, 0, 0, 0, 0, 0, 0, 0, 0])))) (dc2 := 0) (ds2 := 0) 2 rfl ?_
      refine zT_if2 true rfl (zc_ge_t (by show ((xs 3) : Int32).toInt ≥ 6; omega)) ?_
      refine zT_here (pc2 := 14) rfl ?_
      refine zT_gos (f := 200000) (pc2 := 15) (ls2 := [(0, .int (xs 3))]) (st2 := [.int 0]) (h2 := ((((zH0.set 106 (.inl (2, 2, [0, 1]))).set 105 (.inl (0, 2, [0, 0]))).set 107 (.inl (0, 132, [0, 0, 0, 0, 0, 0, 0, 0, 0, 0, 0, 0, 0, 0, 0, 0, 0, 0, 0, 0, 0, 0, 0, 0, 0, 0, 0, 0, 0, 0, 0, 0, 0, 0, 0, 0, 0, 0, 0, 0, 0, 0, 0, 0, 0, 0, 0, 0, 0, 0, 0, 0, 0, 0, 0, 0, 0, 0, 0, 0, 0, 0, 0, 0, 0, 0, 0, 0, 0, 0, 0, 0]))).set 109 (.inl (0, 22, [0, 0, 0, 0, 0, 0, 0, 0, 0, 0, 0, 0])))) (dc2 := 0) (ds2 := 0) 1 rfl ?_
      exact zT_ret rfl rfl
    refine zT_here (pc2 := 45) rfl ?_
    refine zT_gos (f := 200000) (pc2 := 71) (ls2 := [(5, .int 2), (4, .int 0), (0, .ref 162), (1, .int 1), (2, .int (xs 2)), (3, .int (xs 3))]) (st2 := [.int (-9999)]) (h2 := ((((zH0.set 106 (.inl (2, 2, [0, 1]))).set 105 (.inl (0, 2, [0, 0]))).set 107 (.inl (0, 132, [0, 0, 0, 0, 0, 0, 0, 0, 0, 0, 0, 0, 0, 0, 0, 0, 0, 0, 0, 0, 0, 0, 0, 0, 0, 0, 0, 0, 0, 0, 0, 0, 0, 0, 0, 0, 0, 0, 0, 0, 0, 0, 0, 0, 0, 0, 0, 0, 0, 0, 0, 0, 0, 0, 0, 0, 0, 0, 0, 0, 0, 0, 0, 0, 0, 0, 0, 0, 0, 0, 0, 0]))).set 109 (.inl (0, 22, [0, 0, 0, 0, 0, 0, 0, 0, 0, 0, 0, 0])))) (dc2 := 0) (ds2 := 0) 3 rfl ?_
    exact zT_ret rfl rfl
  refine zT_here (pc2 := 1157) rfl ?_
  refine zT_gos (f := 200000) (pc2 := 1811) (ls2 := [(4, .int 6), (3, .ref 232), (2, .ref 162), (1, .ref 0), (0, .ref 11)]) (st2 := [.int 1]) (h2 := ((((zH0.set 106 (.inl (2, 2, [0, 1]))).set 105 (.inl (0, 2, [0, 0]))).set 107 (.inl (0, 132, [0, 0, 0, 0, 0, 0, 0, 0, 0, 0, 0, 0, 0, 0, 0, 0, 0, 0, 0, 0, 0, 0, 0, 0, 0, 0, 0, 0, 0, 0, 0, 0, 0, 0, 0, 0, 0, 0, 0, 0, 0, 0, 0, 0, 0, 0, 0, 0, 0, 0, 0, 0, 0, 0, 0, 0, 0, 0, 0, 0, 0, 0, 0, 0, 0, 0, 0, 0, 0, 0, 0, 0]))).set 109 (.inl (0, 22, [0, 0, 0, 0, 0, 0, 0, 0, 0, 0, 0, 0])))) (dc2 := 117) (ds2 := 29934) 10 rfl ?_
  exact zT_ret rfl rfl
set_option maxRecDepth 1000000 in
set_option maxHeartbeats 4000000 in
theorem zo_24_12 (xs : Nat → Int32) (h0 : xs 0 &&& 63 = 24) (h1 : xs 1 = 0) (h3 : xs 3 = 0) (h2 : (xs 2).toInt < -2) : zDone xs := by
  refine ⟨(((((((zH0.set 37 (.inr (.inr (.inr (3, [.ref 44, .ref 6, .ref 76, .ref 78, .ref 80, .ref 88, .int 1, .int 0, .ref 96, .int 0, .int 0, .int 0, .ref 98, .ref 100, .int 0]))))).set 40 (.inr (.inr (.inr (6, [.int 1, .long 70644700037184, .int 0, .ref 82, .ref 84, .ref 86]))))).set 43 (.inr (.inl (16, [70644700037184])))).set 106 (.inl (2, 2, [1, 0]))).set 105 (.inl (0, 2, [0]))).set 107 (.inl (0, 132, [0, 0, 0, 0, 0, 0]))).set 109 (.inl (0, 22, [0]))), 117, 29934, ?_, by decide, by decide⟩
  refine zT_gos (f := 200000) (pc2 := 37) (ls2 := [(4, .int 0), (3, .ref 232), (2, .ref 162), (1, .ref 0), (0, .ref 11)]) (st2 := [.int (xs 0)]) (h2 := zH0) (dc2 := 117) (ds2 := 29934) 9 rfl ?_
  refine zT_gos (f := 200000) (pc2 := 40) (ls2 := [(4, .int 0), (3, .ref 232), (2, .ref 162), (1, .ref 0), (0, .ref 11)]) (st2 := [.int ((xs 0) &&& (63 : Int32))]) (h2 := zH0) (dc2 := 117) (ds2 := 29934) 2 rfl ?_
  refine zT_val h0 ?_
  refine zT_gos (f := 200000) (pc2 := 1104) (ls2 := [(4, .int 0), (3, .ref 232), (2, .ref 162), (1, .ref 0), (0, .ref 11)]) (st2 := [.int (xs 1), .ref 0]) (h2 := zH0) (dc2 := 117) (ds2 := 29934) 7 rfl ?_
  refine zT_val h1 ?_
  refine zT_gos (f := 200000) (pc2 := 1118) (ls2 := [(4, .int 0), (3, .ref 232), (2, .ref 162), (1, .ref 0), (0, .ref 11)]) (st2 := [.int (xs 2), .int 0, .ref 0]) (h2 := zH0) (dc2 := 117) (ds2 := 29934) 7 rfl ?_
  refine zT_gos (f := 200000) (pc2 := 1124) (ls2 := [(4, .int 0), (3, .ref 232), (2, .ref 162), (1, .ref 0), (0, .ref 11)]) (st2 := [.int (xs 3), .int (xs 2), .int 0, .ref 0]) (h2 := zH0) (dc2 := 117) (ds2 := 29934) 5 rfl ?_
  refine zT_val h3 ?_
  refine zT_call (v := some (.int (-9999))) (h2 := (((zH0.set 37 (.inr (.inr (.inr (3, [.ref 44, .ref 6, .ref 76, .ref 78, .ref 80, .ref 88, .int 1, .int 0, .ref 96, .int 0, .int 0, .int 0, .ref 98, .ref 100, .int 0]))))).set 40 (.inr (.inr (.inr (6, [.int 1, .long 70644700037184, .int 0, .ref 82, .ref 84, .ref 86]))))).set 43 (.inr (.inl (16, [70644700037184]))))) (d1 := 0) (s1 := 0) rfl rfl ?_ ?_
  · refine zT_gos (f := 200000) (pc2 := 42) (ls2 := [(4, .ref 80), (0, .ref 0), (1, .int 0), (2, .int (xs 2)), (3, .int 0)]) (st2 := [.int (-2), .int (xs 2)]) (h2 := (((zH0.set 37 (.inr (.inr (.inr (3, [.ref 44, .ref 6, .ref 76, .ref 78, .ref 80, .ref 88, .int 1, .int 0, .ref 96, .int 0, .int 0, .int 0, .ref 98, .ref 100, .int 0]))))).set 40 (.inr (.inr (.inr (6, [.int 1, .long 70644700037184, .int 0, .ref 82, .ref 84, .ref 86]))))).set 43 (.inr (.inl (16, [70644700037184]))))) (dc2 := 0) (ds2 := 0) 18 rfl ?_
    refine zT_if2 true rfl (zc_lt_t (by show ((xs 2) : Int32).toInt < -2; omega)) ?_
    refine zT_here (pc2 := 62) rfl ?_
    refine zT_gos (f := 200000) (pc2 := 65) (ls2 := [(4, .ref 80), (0, .ref 0), (1, .int 0), (2, .int (xs 2)), (3, .int 0)]) (st2 := [.int (-9999)]) (h2 := (((zH0.set 37 (.inr (.inr (.inr (3, [.ref 44, .ref 6, .ref 76, .ref 78, .ref 80, .ref 88, .int 1, .int 0, .ref 96, .int 0, .int 0, .int 0, .ref 98, .ref 100, .int 0]))))).set 40 (.inr (.inr (.inr (6, [.int 1, .long 70644700037184, .int 0, .ref 82, .ref 84, .ref 86]))))).set 43 (.inr (.inl (16, [70644700037184]))))) (dc2 := 0) (ds2 := 0) 1 rfl ?_
    exact zT_ret rfl rfl
  refine zT_here (pc2 := 1127) rfl ?_
  refine zT_gos (f := 200000) (pc2 := 1134) (ls2 := [(4, .int 0), (3, .ref 232), (2, .ref 162), (1, .ref 0), (0, .ref 11)]) (st2 := [.int (xs 1), .ref 162, .int (-9999)]) (h2 := (((zH0.set 37 (.inr (.inr (.inr (3, [.ref 44, .ref 6, .ref 76, .ref 78, .ref 80, .ref 88, .int 1, .int 0, .ref 96, .int 0, .int 0, .int 0, .ref 98, .ref 100, .int 0]))))).set 40 (.inr (.inr (.inr (6, [.int 1, .long 70644700037184, .int 0, .ref 82, .ref 84, .ref 86]))))).set 43 (.inr (.inl (16, [70644700037184]))))) (dc2 := 117) (ds2 := 29934) 6 rfl ?_
  refine zT_val h1 ?_
  refine zT_gos (f := 200000) (pc2 := 1148) (ls2 := [(4, .int 0), (3, .ref 232), (2, .ref 162), (1, .ref 0), (0, .ref 11)]) (st2 := [.int (xs 2), .int 0, .ref 162, .int (-9999)]) (h2 := (((zH0.set 37 (.inr (.inr (.inr (3, [.ref 44, .ref 6, .ref 76, .ref 78, .ref 80, .ref 88, .int 1, .int 0, .ref 96, .int 0, .int 0, .int 0, .ref 98, .ref 100, .int 0]))))).set 40 (.inr (.inr (.inr (6, [.int 1, .long 70644700037184, .int 0, .ref 82, .ref 84, .ref 86]))))).set 43 (.inr (.inl (16, [70644700037184]))))) (dc2 := 117) (ds2 := 29934) 7 rfl ?_
  refine zT_gos (f := 200000) (pc2 := 1154) (ls2 := [(4, .int 0), (3, .ref 232), (2, .ref 162), (1, .ref 0), (0, .ref 11)]) (st2 := [.int (xs 3), .int (xs 2), .int 0, .ref 162, .int (-9999)]) (h2 := (((zH0.set 37 (.inr (.inr (.inr (3, [.ref 44, .ref 6, .ref 76, .ref 78, .ref 80, .ref 88, .int 1, .int 0, .ref 96, .int 0, .int 0, .int 0, .ref 98, .ref 100, .int 0]))))).set 40 (.inr (.inr (.inr (6, [.int 1, .long 70644700037184, .int 0, .ref 82, .ref 84, .ref 86]))))).set 43 (.inr (.inl (16, [70644700037184]))))) (dc2 := 117) (ds2 := 29934) 5 rfl ?_
  refine zT_val h3 ?_
  refine zT_call (v := some (.int (-9999))) (h2 := (((((((zH0.set 37 (.inr (.inr (.inr (3, [.ref 44, .ref 6, .ref 76, .ref 78, .ref 80, .ref 88, .int 1, .int 0, .ref 96, .int 0, .int 0, .int 0, .ref 98, .ref 100, .int 0]))))).set 40 (.inr (.inr (.inr (6, [.int 1, .long 70644700037184, .int 0, .ref 82, .ref 84, .ref 86]))))).set 43 (.inr (.inl (16, [70644700037184])))).set 106 (.inl (2, 2, [1, 0]))).set 105 (.inl (0, 2, [0]))).set 107 (.inl (0, 132, [0, 0, 0, 0, 0, 0]))).set 109 (.inl (0, 22, [0])))) (d1 := 0) (s1 := 0) rfl rfl ?_ ?_
  · refine zT_gos (f := 200000) (pc2 := 7) (ls2 := [(0, .ref 162), (1, .int 0), (2, .int (xs 2)), (3, .int 0)]) (st2 := [.int 0, .ref 162]) (h2 := (((zH0.set 37 (.inr (.inr (.inr (3, [.ref 44, .ref 6, .ref 76, .ref 78, .ref 80, .ref 88, .int 1, .int 0, .ref 96, .int 0, .int 0, .int 0, .ref 98, .ref 100, .int 0]))))).set 40 (.inr (.inr (.inr (6, [.int 1, .long 70644700037184, .int 0, .ref 82, .ref 84, .ref 86]))))).set 43 (.inr (.inl (16, [70644700037184]))))) (dc2 := 0) (ds2 := 0) 5 rfl ?_
    refine zT_call rfl rfl (zT_le (zg0_le 6 xs) zk_o_19) ?_
    refine zT_here (pc2 := 10) rfl ?_
    refine zT_gos (f := 200000) (pc2 := 29) (ls2 := [(5, .int 2), (4, .int 0), (0, .ref 162), (1, .int 0), (2, .int (xs 2)), (3, .int 0)]) (st2 := [.int (-2), .int (xs 2)]) (h2 := (((((((zH0.set 37 (.inr (.inr (.inr (3, [.ref 44, .ref 6, .ref 76, .ref 78, .ref 80, .ref 88, .int 1, .int 0, .ref 96, .int 0, .int 0, .int 0, .ref 98, .ref 100, .int 0]))))).set 40 (.inr (.inr (.inr (6, [.int 1, .long 70644700037184, .int 0, .ref 82, .ref 84, .ref 86]))))).set 43 (.inr (.inl (16, [70644700037184])))).set 106 (.inl (2, 2, [1, 0]))).set 105 (.inl (0, 2, [0]))).set 107 (.inl (0, 132, [0, 0, 0, 0, 0, 0]))).set 109 (.inl (0, 22, [0])))) (dc2 := 0) (ds2 := 0) 11 rfl ?_
    refine zT_if2 true rfl (zc_lt_t (by show ((xs 2) : Int32).toInt < -2; omega)) ?_
    refine zT_here (pc2 := 48) rfl ?_
    refine zT_gos (f := 200000) (pc2 := 71) (ls2 := [(5, .int 2), (4, .int 0), (0, .ref 162), (1, .int 0), (2, .int (xs 2)), (3, .int 0)]) (st2 := [.int (-9999)]) (h2 := (((((((zH0.set 37 (.inr (.inr (.inr (3, [.ref 44, .ref 6, .ref 76, .ref 78, .ref 80, .ref 88, .int 1, .int 0, .ref 96, .int 0, .int 0, .int 0, .ref 98, .ref 100, .int 0]))))).set 40 (.inr (.inr (.inr (6, [.int 1, .long 70644700037184, .int 0, .ref 82, .ref 84, .ref 86]))))).set 43 (.inr (.inl (16, [70644700037184])))).set 106 (.inl (2, 2, [1, 0]))).set 105 (.inl (0, 2, [0]))).set 107 (.inl (0, 132, [0, 0, 0, 0, 0, 0]))).set 109 (.inl (0, 22, [0])))) (dc2 := 0) (ds2 := 0) 2 rfl ?_
    exact zT_ret rfl rfl
  refine zT_here (pc2 := 1157) rfl ?_
  refine zT_gos (f := 200000) (pc2 := 1811) (ls2 := [(4, .int 6), (3, .ref 232), (2, .ref 162), (1, .ref 0), (0, .ref 11)]) (st2 := [.int 1]) (h2 := (((((((zH0.set 37 (.inr (.inr (.inr (3, [.ref 44, .ref 6, .ref 76, .ref 78, .ref 80, .ref 88, .int 1, .int 0, .ref 96, .int 0, .int 0, .int 0, .ref 98, .ref 100, .int 0]))))).set 40 (.inr (.inr (.inr (6, [.int 1, .long 70644700037184, .int 0, .ref 82, .ref 84, .ref 86]))))).set 43 (.inr (.inl (16, [70644700037184])))).set 106 (.inl (2, 2, [1, 0]))).set 105 (.inl (0, 2, [0]))).set 107 (.inl (0, 132, [0, 0, 0, 0, 0, 0]))).set 109 (.inl (0, 22, [0])))) (dc2 := 117) (ds2 := 29934) 10 rfl ?_
  exact zT_ret rfl rfl
set_option maxRecDepth 1000000 in
set_option maxHeartbeats 4000000 in
theorem zo_24_13 (xs : Nat → Int32) (h0 : xs 0 &&& 63 = 24) (h1 : xs 1 = 0) (h3 : xs 3 = 0) (h2 : 2 < (xs 2).toInt) : zDone xs := by
  refine ⟨(((((((zH0.set 37 (.inr (.inr (.inr (3, [.ref 44, .ref 6, .ref 76, .ref 78, .ref 80, .ref 88, .int 1, .int 0, .ref 96, .int 0, .int 0, .int 0, .ref 98, .ref 100, .int 0]))))).set 40 (.inr (.inr (.inr (6, [.int 1, .long 70644700037184, .int 0, .ref 82, .ref 84, .ref 86]))))).set 43 (.inr (.inl (16, [70644700037184])))).set 106 (.inl (2, 2, [1, 0]))).set 105 (.inl (0, 2, [0]))).set 107 (.inl (0, 132, [0, 0, 0, 0, 0, 0]))).set 109 (.inl (0, 22, [0]))), 117, 29934, ?_, by decide, by decide⟩
  refine zT_gos (f := 200000) (pc2 := 37) (ls2 := [(4, .int 0), (3, .ref 232), (2, .ref 162), (1, .ref 0), (0, .ref 11)]) (st2 := [.int (xs 0)]) (h2 := zH0) (dc2 := 117) (ds2 := 29934) 9 rfl ?_
  refine zT_gos (f := 200000) (pc2 := 40) (ls2 := [(4, .int 0), (3, .ref 232), (2, .ref 162), (1, .ref 0), (0, .ref 11)]) (st2 := [.int ((xs 0) &&& (63 : Int32))]) (h2 := zH0) (dc2 := 117) (ds2 := 29934) 2 rfl ?_
  refine zT_val h0 ?_
  refine zT_gos (f := 200000) (pc2 := 1104) (ls2 := [(4, .int 0), (3, .ref 232), (2, .ref 162), (1, .ref 0), (0, .ref 11)]) (st2 := [.int (xs 1), .ref 0]) (h2 := zH0) (dc2 := 117) (ds2 := 29934) 7 rfl ?_
  refine zT_val h1 ?_
  refine zT_gos (f := 200000) (pc2 := 1118) (ls2 := [(4, .int 0), (3, .ref 232), (2, .ref 162), (1, .ref 0), (0, .ref 11)]) (st2 := [.int (xs 2), .int 0, .ref 0]) (h2 := zH0) (dc2 := 117) (ds2 := 29934) 7 rfl ?_
  refine zT_gos (f := 200000) (pc2 := 1124) (ls2 := [(4, .int 0), (3, .ref 232), (2, .ref 162), (1, .ref 0), (0, .ref 11)]) (st2 := [.int (xs 3), .int (xs 2), .int 0, .ref 0]) (h2 := zH0) (dc2 := 117) (ds2 := 29934) 5 rfl ?_
  refine zT_val h3 ?_
  refine zT_call (v := some (.int (-9999))) (h2 := (((zH0.set 37 (.inr (.inr (.inr (3, [.ref 44, .ref 6, .ref 76, .ref 78, .ref 80, .ref 88, .int 1, .int 0, .ref 96, .int 0, .int 0, .int 0, .ref 98, .ref 100, .int 0]))))).set 40 (.inr (.inr (.inr (6, [.int 1, .long 70644700037184, .int 0, .ref 82, .ref 84, .ref 86]))))).set 43 (.inr (.inl (16, [70644700037184]))))) (d1 := 0) (s1 := 0) rfl rfl ?_ ?_
  · refine zT_gos (f := 200000) (pc2 := 42) (ls2 := [(4, .ref 80), (0, .ref 0), (1, .int 0), (2, .int (xs 2)), (3, .int 0)]) (st2 := [.int (-2), .int (xs 2)]) (h2 := (((zH0.set 37 (.inr (.inr (.inr (3, [.ref 44, .ref 6, .ref 76, .ref 78, .ref 80, .ref 88, .int 1, .int 0, .ref 96, .int 0, .int 0, .int 0, .ref 98, .ref 100, .int 0]))))).set 40 (.inr (.inr (.inr (6, [.int 1, .long 70644700037184, .int 0, .ref 82, .ref 84, .ref 86]))))).set 43 (.inr (.inl (16, [70644700037184]))))) (dc2 := 0) (ds2 := 0) 18 rfl ?_
    refine zT_if2 false rfl (zc_lt_f (by show ((xs 2) : Int32).toInt ≥ -2; omega)) ?_
    refine zT_here (pc2 := 45) rfl ?_
    refine zT_gos (f := 200000) (pc2 := 59) (ls2 := [(4, .ref 80), (0, .ref 0), (1, .int 0), (2, .int (xs 2)), (3, .int 0)]) (st2 := [.int 2, .int (xs 2)]) (h2 := (((zH0.set 37 (.inr (.inr (.inr (3, [.ref 44, .ref 6, .ref 76, .ref 78, .ref 80, .ref 88, .int 1, .int 0, .ref 96, .int 0, .int 0, .int 0, .ref 98, .ref 100, .int 0]))))).set 40 (.inr (.inr (.inr (6, [.int 1, .long 70644700037184, .int 0, .ref 82, .ref 84, .ref 86]))))).set 43 (.inr (.inl (16, [70644700037184]))))) (dc2 := 0) (ds2 := 0) 7 rfl ?_
    refine zT_if2 false rfl (zc_le_f (by show ((xs 2) : Int32).toInt > 2; omega)) ?_
    refine zT_here (pc2 := 62) rfl ?_
    refine zT_gos (f := 200000) (pc2 := 65) (ls2 := [(4, .ref 80), (0, .ref 0), (1, .int 0), (2, .int (xs 2)), (3, .int 0)]) (st2 := [.int (-9999)]) (h2 := (((zH0.set 37 (.inr (.inr (.inr (3, [.ref 44, .ref 6, .ref 76, .ref 78, .ref 80, .ref 88, .int 1, .int 0, .ref 96, .int 0, .int 0, .int 0, .ref 98, .ref 100, .int 0]))))).set 40 (.inr (.inr (.inr (6, [.int 1, .long 70644700037184, .int 0, .ref 82, .ref 84, .ref 86]))))).set 43 (.inr (.inl (16, [70644700037184]))))) (dc2 := 0) (ds2 := 0) 1 rfl ?_
    exact zT_ret rfl rfl
  refine zT_here (pc2 := 1127) rfl ?_
  refine zT_gos (f := 200000) (pc2 := 1134) (ls2 := [(4, .int 0), (3, .ref 232), (2, .ref 162), (1, .ref 0), (0, .ref 11)]) (st2 := [.int (xs 1), .ref 162, .int (-9999)]) (h2 := (((zH0.set 37 (.inr (.inr (.inr (3, [.ref 44, .ref 6, .ref 76, .ref 78, .ref 80, .ref 88, .int 1, .int 0, .ref 96, .int 0, .int 0, .int 0, .ref 98, .ref 100, .int 0]))))).set 40 (.inr (.inr (.inr (6, [.int 1, .long 70644700037184, .int 0, .ref 82, .ref 84, .ref 86]))))).set 43 (.inr (.inl (16, [70644700037184]))))) (dc2 := 117) (ds2 := 29934) 6 rfl ?_
  refine zT_val h1 ?_
  refine zT_gos (f := 200000) (pc2 := 1148) (ls2 := [(4, .int 0), (3, .ref 232), (2, .ref 162), (1, .ref 0), (0, .ref 11)]) (st2 := [.int (xs 2), .int 0, .ref 162, .int (-9999)]) (h2 := (((zH0.set 37 (.inr (.inr (.inr (3, [.ref 44, .ref 6, .ref 76, .ref 78, .ref 80, .ref 88, .int 1, .int 0, .ref 96, .int 0, .int 0, .int 0, .ref 98, .ref 100, .int 0]))))).set 40 (.inr (.inr (.inr (6, [.int 1, .long 70644700037184, .int 0, .ref 82, .ref 84, .ref 86]))))).set 43 (.inr (.inl (16, [70644700037184]))))) (dc2 := 117) (ds2 := 29934) 7 rfl ?_
  refine zT_gos (f := 200000) (pc2 := 1154) (ls2 := [(4, .int 0), (3, .ref 232), (2, .ref 162), (1, .ref 0), (0, .ref 11)]) (st2 := [.int (xs 3), .int (xs 2), .int 0, .ref 162, .int (-9999)]) (h2 := (((zH0.set 37 (.inr (.inr (.inr (3, [.ref 44, .ref 6, .ref 76, .ref 78, .ref 80, .ref 88, .int 1, .int 0, .ref 96, .int 0, .int 0, .int 0, .ref 98, .ref 100, .int 0]))))).set 40 (.inr (.inr (.inr (6, [.int 1, .long 70644700037184, .int 0, .ref 82, .ref 84, .ref 86]))))).set 43 (.inr (.inl (16, [70644700037184]))))) (dc2 := 117) (ds2 := 29934) 5 rfl ?_
  refine zT_val h3 ?_
  refine zT_call (v := some (.int (-9999))) (h2 := (((((((zH0.set 37 (.inr (.inr (.inr (3, [.ref 44, .ref 6, .ref 76, .ref 78, .ref 80, .ref 88, .int 1, .int 0, .ref 96, .int 0, .int 0, .int 0, .ref 98, .ref 100, .int 0]))))).set 40 (.inr (.inr (.inr (6, [.int 1, .long 70644700037184, .int 0, .ref 82, .ref 84, .ref 86]))))).set 43 (.inr (.inl (16, [70644700037184])))).set 106 (.inl (2, 2, [1, 0]))).set 105 (.inl (0, 2, [0]))).set 107 (.inl (0, 132, [0, 0, 0, 0, 0, 0]))).set 109 (.inl (0, 22, [0])))) (d1 := 0) (s1 := 0) rfl rfl ?_ ?_
  · refine zT_gos (f := 200000) (pc2 := 7) (ls2 := [(0, .ref 162), (1, .int 0), (2, .int (xs 2)), (3, .int 0)]) (st2 := [.int 0, .ref 162]) (h2 := (((zH0.set 37 (.inr (.inr (.inr (3, [.ref 44, .ref 6, .ref 76, .ref 78, .ref 80, .ref 88, .int 1, .int 0, .ref 96, .int 0, .int 0, .int 0, .ref 98, .ref 100, .int 0]))))).set 40 (.inr (.inr (.inr (6, [.int 1, .long 70644700037184, .int 0, .ref 82, .ref 84, .ref 86]))))).set 43 (.inr (.inl (16, [70644700037184]))))) (dc2 := 0) (ds2 := 0) 5 rfl ?_
    refine zT_call rfl rfl (zT_le (zg0_le 6 xs) zk_o_19) ?_
    refine zT_here (pc2 := 10) rfl ?_
    refine zT_gos (f := 200000) (pc2 := 29) (ls2 := [(5, .int 2), (4, .int 0), (0, .ref 162), (1, .int 0), (2, .int (xs 2)), (3, .int 0)]) (st2 := [.int (-2), .int (xs 2)]) (h2 := (((((((zH0.set 37 (.inr (.inr (.inr (3, [.ref 44, .ref 6, .ref 76, .ref 78, .ref 80, .ref 88, .int 1, .int 0, .ref 96, .int 0, .int 0, .int 0, .ref 98, .ref 100, .int 0]))))).set 40 (.inr (.inr (.inr (6, [.int 1, .long 70644700037184, .int 0, .ref 82, .ref 84, .ref 86]))))).set 43 (.inr (.inl (16, [70644700037184])))).set 106 (.inl (2, 2, [1, 0]))).set 105 (.inl (0, 2, [0]))).set 107 (.inl (0, 132, [0, 0, 0, 0, 0, 0]))).set 109 (.inl (0, 22, [0])))) (dc2 := 0) (ds2 := 0) 11 rfl ?_
    refine zT_if2 false rfl (zc_lt_f (by show ((xs 2) : Int32).toInt ≥ -2; omega)) ?_
    refine zT_here (pc2 := 32) rfl ?_
    refine zT_gos (f := 200000) (pc2 := 38) (ls2 := [(5, .int 2), (4, .int 0), (0, .ref 162), (1, .int 0), (2, .int (xs 2)), (3, .int 0)]) (st2 := [.int 2, .int (xs 2)]) (h2 := (((((((zH0.set 37 (.inr (.inr (.inr (3, [.ref 44, .ref 6, .ref 76, .ref 78, .ref 80, .ref 88, .int 1, .int 0, .ref 96, .int 0, .int 0, .int 0, .ref 98, .ref 100, .int 0]))))).set 40 (.inr (.inr (.inr (6, [.int 1, .long 70644700037184, .int 0, .ref 82, .ref 84, .ref 86]))))).set 43 (.inr (.inl (16, [70644700037184])))).set 106 (.inl (2, 2, [1, 0]))).set 105 (.inl (0, 2, [0]))).set 107 (.inl (0, 132, [0, 0, 0, 0, 0, 0]))).set 109 (.inl (0, 22, [0])))) (dc2 := 0) (ds2 := 0) 4 rfl ?_
    refine zT_if2 true rfl (zc_gt_t (by show ((xs 2) : Int32).toInt > 2; omega)) ?_
    refine zT_here (pc2 := 48) rfl ?_
    refine zT_gos (f := 200000) (pc2 := 71) (ls2 := [(5, .int 2), (4, .int 0), (0, .ref 162), (1, .int 0), (2, .int (xs 2)), (3, .int 0)]) (st2 := [.int (-9999)]) (h2 := (((((((zH0.set 37 (.inr (.inr (.inr (3, [.ref 44, .ref 6, .ref 76, .ref 78, .ref 80, .ref 88, .int 1, .int 0, .ref 96, .int 0, .int 0, .int 0, .ref 98, .ref 100, .int 0]))))).set 40 (.inr (.inr (.inr (6, [.int 1, .long 70644700037184, .int 0, .ref 82, .ref 84, .ref 86]))))).set 43 (.inr (.inl (16, [70644700037184])))).set 106 (.inl (2, 2, [1, 0]))).set 105 (.inl (0, 2, [0]))).set 107 (.inl (0, 132, [0, 0, 0, 0, 0, 0]))).set 109 (.inl (0, 22, [0])))) (dc2 := 0) (ds2 := 0) 2 rfl ?_
    exact zT_ret rfl rfl
  refine zT_here (pc2 := 1157) rfl ?_
  refine zT_gos (f := 200000) (pc2 := 1811) (ls2 := [(4, .int 6), (3, .ref 232), (2, .ref 162), (1, .ref 0), (0, .ref 11)]) (st2 := [.int 1]) (h2 := (((((((zH0.set 37 (.inr (.inr (.inr (3, [.ref 44, .ref 6, .ref 76, .ref 78, .ref 80, .ref 88, .int 1, .int 0, .ref 96, .int 0, .int 0, .int 0, .ref 98, .ref 100, .int 0]))))).set 40 (.inr (.inr (.inr (6, [.int 1, .long 70644700037184, .int 0, .ref 82, .ref 84, .ref 86]))))).set 43 (.inr (.inl (16, [70644700037184])))).set 106 (.inl (2, 2, [1, 0]))).set 105 (.inl (0, 2, [0]))).set 107 (.inl (0, 132, [0, 0, 0, 0, 0, 0]))).set 109 (.inl (0, 22, [0])))) (dc2 := 117) (ds2 := 29934) 10 rfl ?_
  exact zT_ret rfl rfl
set_option maxRecDepth 1000000 in
theorem zk_o_141 : zT zg0 zF zP 125 0 [(0, .ref 0), (1, .int 0), (2, .int (-2)), (3, .int 0)] [] zH0 0 0 (some (.int 0), (((zH0.set 37 (.inr (.inr (.inr (3, [.ref 44, .ref 6, .ref 76, .ref 78, .ref 80, .ref 88, .int 1, .int 0, .ref 96, .int 0, .int 0, .int 0, .ref 98, .ref 100, .int 0]))))).set 40 (.inr (.inr (.inr (6, [.int 1, .long 70644700037184, .int 0, .ref 82, .ref 84, .ref 86]))))).set 43 (.inr (.inl (16, [70644700037184])))), 0, 0) := zclosed (n := 339) (by decide +kernel)
set_option maxRecDepth 1000000 in
theorem zk_o_142 : zT zg0 zF zP 256 0 [(0, .ref 162), (1, .int 0), (2, .int (-2)), (3, .int 0)] [] (((zH0.set 37 (.inr (.inr (.inr (3, [.ref 44, .ref 6, .ref 76, .ref 78, .ref 80, .ref 88, .int 1, .int 0, .ref 96, .int 0, .int 0, .int 0, .ref 98, .ref 100, .int 0]))))).set 40 (.inr (.inr (.inr (6, [.int 1, .long 70644700037184, .int 0, .ref 82, .ref 84, .ref 86]))))).set 43 (.inr (.inl (16, [70644700037184])))) 0 0 (some (.int 0), (((((((zH0.set 37 (.inr (.inr (.inr (3, [.ref 44, .ref 6, .ref 76, .ref 78, .ref 80, .ref 88, .int 1, .int 0, .ref 96, .int 0, .int 0, .int 0, .ref 98, .ref 100, .int 0]))))).set 40 (.inr (.inr (.inr (6, [.int 1, .long 70644700037184, .int 0, .ref 82, .ref 84, .ref 86]))))).set 43 (.inr (.inl (16, [70644700037184])))).set 106 (.inl (2, 2, [1, 0]))).set 105 (.inl (0, 2, [0]))).set 107 (.inl (0, 132, [0, 0, 0, 0, 0, 0]))).set 109 (.inl (0, 22, [0]))), 0, 0) := zclosed (n := 377) (by decide +kernel)
set_option maxRecDepth 1000000 in
set_option maxHeartbeats 4000000 in
theorem zo_24_14 (xs : Nat → Int32) (h0 : xs 0 &&& 63 = 24) (h1 : xs 1 = 0) (h3 : xs 3 = 0) (h2 : xs 2 = (-2)) : zDone xs := by
  refine ⟨(((((((zH0.set 37 (.inr (.inr (.inr (3, [.ref 44, .ref 6, .ref 76, .ref 78, .ref 80, .ref 88, .int 1, .int 0, .ref 96, .int 0, .int 0, .int 0, .ref 98, .ref 100, .int 0]))))).set 40 (.inr (.inr (.inr (6, [.int 1, .long 70644700037184, .int 0, .ref 82, .ref 84, .ref 86]))))).set 43 (.inr (.inl (16, [70644700037184])))).set 106 (.inl (2, 2, [1, 0]))).set 105 (.inl (0, 2, [0]))).set 107 (.inl (0, 132, [0, 0, 0, 0, 0, 0]))).set 109 (.inl (0, 22, [0]))), 117, 29934, ?_, by decide, by decide⟩
  refine zT_gos (f := 200000) (pc2 := 37) (ls2 := [(4, .int 0), (3, .ref 232), (2, .ref 162), (1, .ref 0), (0, .ref 11)]) (st2 := [.int (xs 0)]) (h2 := zH0) (dc2 := 117) (ds2 := 29934) 9 rfl ?_
  refine zT_gos (f := 200000) (pc2 := 40) (ls2 := [(4, .int 0), (3, .ref 232), (2, .ref 162), (1, .ref 0), (0, .ref 11)]) (st2 := [.int ((xs 0) &&& (63 : Int32))]) (h2 := zH0) (dc2 := 117) (ds2 := 29934) 2 rfl ?_
  refine zT_val h0 ?_
  refine zT_gos (f := 200000) (pc2 := 1104) (ls2 := [(4, .int 0), (3, .ref 232), (2, .ref 162), (1, .ref 0), (0, .ref 11)]) (st2 := [.int (xs 1), .ref 0]) (h2 := zH0) (dc2 := 117) (ds2 := 29934) 7 rfl ?_
  refine zT_val h1 ?_
  refine zT_gos (f := 200000) (pc2 := 1118) (ls2 := [(4, .int 0), (3, .ref 232), (2, .ref 162), (1, .ref 0), (0, .ref 11)]) (st2 := [.int (xs 2), .int 0, .ref 0]) (h2 := zH0) (dc2 := 117) (ds2 := 29934) 7 rfl ?_
  refine zT_val h2 ?_
  refine zT_gos (f := 200000) (pc2 := 1124) (ls2 := [(4, .int 0), (3, .ref 232), (2, .ref 162), (1, .ref 0), (0, .ref 11)]) (st2 := [.int (xs 3), .int (-2), .int 0, .ref 0]) (h2 := zH0) (dc2 := 117) (ds2 := 29934) 5 rfl ?_
  refine zT_val h3 ?_
  refine zT_call rfl rfl (zT_le (zg0_le 6 xs) zk_o_141) ?_
  refine zT_here (pc2 := 1127) rfl ?_
  refine zT_gos (f := 200000) (pc2 := 1134) (ls2 := [(4, .int 0), (3, .ref 232), (2, .ref 162), (1, .ref 0), (0, .ref 11)]) (st2 := [.int (xs 1), .ref 162, .int 0]) (h2 := (((zH0.set 37 (.inr (.inr (.inr (3, [.ref 44, .ref 6, .ref 76, .ref 78, .ref 80, .ref 88, .int 1, .int 0, .ref 96, .int 0, .int 0, .int 0, .ref 98, .ref 100, .int 0]))))).set 40 (.inr (.inr (.inr (6, [.int 1, .long 70644700037184, .int 0, .ref 82, .ref 84, .ref 86]))))).set 43 (.inr (.inl (16, [70644700037184]))))) (dc2 := 117) (ds2 := 29934) 6 rfl ?_
  refine zT_val h1 ?_
  refine zT_gos (f := 200000) (pc2 := 1148) (ls2 := [(4, .int 0), (3, .ref 232), (2, .ref 162), (1, .ref 0), (0, .ref 11)]) (st2 := [.int (xs 2), .int 0, .ref 162, .int 0]) (h2 := (((zH0.set 37 (.inr (.inr (.inr (3, [.ref 44, .ref 6, .ref 76, .ref 78, .ref 80, .ref 88, .int 1, .int 0, .ref 96, .int 0, .int 0, .int 0, .ref 98, .ref 100, .int 0]))))).set 40 (.inr (.inr (.inr (6, [.int 1, .long 70644700037184, .int 0, .ref 82, .ref 84, .ref 86]))))).set 43 (.inr (.inl (16, [70644700037184]))))) (dc2 := 117) (ds2 := 29934) 7 rfl ?_
  refine zT_val h2 ?_
  refine zT_gos (f := 200000) (pc2 := 1154) (ls2 := [(4, .int 0), (3, .ref 232), (2, .ref 162), (1, .ref 0), (0, .ref 11)]) (st2 := [.int (xs 3), .int (-2), .int 0, .ref 162, .int 0]) (h2 := (((zH0.set 37 (.inr (.inr (.inr (3, [.ref 44, .ref 6, .ref 76, .ref 78, .ref 80, .ref 88, .int 1, .int 0, .ref 96, .int 0, .int 0, .int 0, .ref 98, .ref 100, .int 0]))))).set 40 (.inr (.inr (.inr (6, [.int 1, .long 70644700037184, .int 0, .ref 82, .ref 84, .ref 86]))))).set 43 (.inr (.inl (16, [70644700037184]))))) (dc2 := 117) (ds2 := 29934) 5 rfl ?_
  refine zT_val h3 ?_
  refine zT_call rfl rfl (zT_le (zg0_le 6 xs) zk_o_142) ?_
  refine zT_here (pc2 := 1157) rfl ?_
  refine zT_gos (f := 200000) (pc2 := 1811) (ls2 := [(4, .int 6), (3, .ref 232), (2, .ref 162), (1, .ref 0), (0, .ref 11)]) (st2 := [.int 1]) (h2 := (((((((zH0.set 37 (.inr (.inr (.inr (3, [.ref 44, .ref 6, .ref 76, .ref 78, .ref 80, .ref 88, .int 1, .int 0, .ref 96, .int 0, .int 0, .int 0, .ref 98, .ref 100, .int 0]))))).set 40 (.inr (.inr (.inr (6, [.int 1, .long 70644700037184, .int 0, .ref 82, .ref 84, .ref 86]))))).set 43 (.inr (.inl (16, [70644700037184])))).set 106 (.inl (2, 2, [1, 0]))).set 105 (.inl (0, 2, [0]))).set 107 (.inl (0, 132, [0, 0, 0, 0, 0, 0]))).set 109 (.inl (0, 22, [0])))) (dc2 := 117) (ds2 := 29934) 10 rfl ?_
  exact zT_ret rfl rfl
set_option maxRecDepth 1000000 in
theorem zk_o_143 : zT zg0 zF zP 125 0 [(0, .ref 0), (1, .int 0), (2, .int (-1)), (3, .int 0)] [] zH0 0 0 (some (.int 0), (((zH0.set 37 (.inr (.inr (.inr (3, [.ref 44, .ref 6, .ref 76, .ref 78, .ref 80, .ref 88, .int 1, .int 0, .ref 96, .int 0, .int 0, .int 0, .ref 98, .ref 100, .int 0]))))).set 40 (.inr (.inr (.inr (6, [.int 1, .long 70644700037184, .int 0, .ref 82, .ref 84, .ref 86]))))).set 43 (.inr (.inl (16, [70644700037184])))), 0, 0) := zclosed (n := 344) (by decide +kernel)
set_option maxRecDepth 1000000 in
theorem zk_o_144 : zT zg0 zF zP 256 0 [(0, .ref 162), (1, .int 0), (2, .int (-1)), (3, .int 0)] [] (((zH0.set 37 (.inr (.inr (.inr (3, [.ref 44, .ref 6, .ref 76, .ref 78, .ref 80, .ref 88, .int 1, .int 0, .ref 96, .int 0, .int 0, .int 0, .ref 98, .ref 100, .int 0]))))).set 40 (.inr (.inr (.inr (6, [.int 1, .long 70644700037184, .int 0, .ref 82, .ref 84, .ref 86]))))).set 43 (.inr (.inl (16, [70644700037184])))) 0 0 (some (.int 0), (((((((zH0.set 37 (.inr (.inr (.inr (3, [.ref 44, .ref 6, .ref 76, .ref 78, .ref 80, .ref 88, .int 1, .int 0, .ref 96, .int 0, .int 0, .int 0, .ref 98, .ref 100, .int 0]))))).set 40 (.inr (.inr (.inr (6, [.int 1, .long 70644700037184, .int 0, .ref 82, .ref 84, .ref 86]))))).set 43 (.inr (.inl (16, [70644700037184])))).set 106 (.inl (2, 2, [1, 0]))).set 105 (.inl (0, 2, [0]))).set 107 (.inl (0, 132, [0, 0, 0, 0, 0, 0]))).set 109 (.inl (0, 22, [0]))), 0, 0) := zclosed (n := 401) (by decide +kernel)
set_option maxRecDepth 1000000 in
set_option maxHeartbeats 4000000 in
theorem zo_24_15 (xs : Nat → Int32) (h0 : xs 0 &&& 63 = 24) (h1 : xs 1 = 0) (h3 : xs 3 = 0) (h2 : xs 2 = (-1)) : zDone xs := by
  refine ⟨(((((((zH0.set 37 (.inr (.inr (.inr (3, [.ref 44, .ref 6, .ref 76, .ref 78, .ref 80, .ref 88, .int 1, .int 0, .ref 96, .int 0, .int 0, .int 0, .ref 98, .ref 100, .int 0]))))).set 40 (.inr (.inr (.inr (6, [.int 1, .long 70644700037184, .int 0, .ref 82, .ref 84, .ref 86]))))).set 43 (.inr (.inl (16, [70644700037184])))).set 106 (.inl (2, 2, [1, 0]))).set 105 (.inl (0, 2, [0]))).set 107 (.inl (0, 132, [0, 0, 0, 0, 0, 0]))).set 109 (.inl (0, 22, [0]))), 117, 29934, ?_, by decide, by decide⟩
  refine zT_gos (f := 200000) (pc2 := 37) (ls2 := [(4, .int 0), (3, .ref 232), (2, .ref 162), (1, .ref 0), (0, .ref 11)]) (st2 := [.int (xs 0)]) (h2 := zH0) (dc2 := 117) (ds2 := 29934) 9 rfl ?_
  refine zT_gos (f := 200000) (pc2 := 40) (ls2 := [(4, .int 0), (3, .ref 232), (2, .ref 162), (1, .ref 0), (0, .ref 11)]) (st2 := [.int ((xs 0) &&& (63 : Int32))]) (h2 := zH0) (dc2 := 117) (ds2 := 29934) 2 rfl ?_
  refine zT_val h0 ?_
  refine zT_gos (f := 200000) (pc2 := 1104) (ls2 := [(4, .int 0), (3, .ref 232), (2, .ref 162), (1, .ref 0), (0, .ref 11)]) (st2 := [.int (xs 1), .ref 0]) (h2 := zH0) (dc2 := 117) (ds2 := 29934) 7 rfl ?_
  refine zT_val h1 ?_
  refine zT_gos (f := 200000) (pc2 := 1118) (ls2 := [(4, .int 0), (3, .ref 232), (2, .ref 162), (1, .ref 0), (0, .ref 11)]) (st2 := [.int (xs 2), .int 0, .ref 0]) (h2 := zH0) (dc2 := 117) (ds2 := 29934) 7 rfl ?_
  refine zT_val h2 ?_
  refine zT_gos (f := 200000) (pc2 := 1124) (ls2 := [(4, .int 0), (3, .ref 232), (2, .ref 162), (1, .ref 0), (0, .ref 11)]) (st2 := [.int (xs 3), .int (-1), .int 0, .ref 0]) (h2 := zH0) (dc2 := 117) (ds2 := 29934) 5 rfl ?_
  refine zT_val h3 ?_
  refine zT_call rfl rfl (zT_le (zg0_le 6 xs) zk_o_143) ?_
  refine zT_here (pc2 := 1127) rfl ?_
  refine zT_gos (f := 200000) (pc2 := 1134) (ls2 := [(4, .int 0), (3, .ref 232), (2, .ref 162), (1, .ref 0), (0, .ref 11)]) (st2 := [.int (xs 1), .ref 162, .int 0]) (h2 := (((zH0.set 37 (.inr (.inr (.inr (3, [.ref 44, .ref 6, .ref 76, .ref 78, .ref 80, .ref 88, .int 1, .int 0, .ref 96, .int 0, .int 0, .int 0, .ref 98, .ref 100, .int 0]))))).set 40 (.inr (.inr (.inr (6, [.int 1, .long 70644700037184, .int 0, .ref 82, .ref 84, .ref 86]))))).set 43 (.inr (.inl (16, [70644700037184]))))) (dc2 := 117) (ds2 := 29934) 6 rfl ?_
  refine zT_val h1 ?_
  refine zT_gos (f := 200000) (pc2 := 1148) (ls2 := [(4, .int 0), (3, .ref 232), (2, .ref 162), (1, .ref 0), (0, .ref 11)]) (st2 := [.int (xs 2), .int 0, .ref 162, .int 0]) (h2 := (((zH0.set 37 (.inr (.inr (.inr (3, [.ref 44, .ref 6, .ref 76, .ref 78, .ref 80, .ref 88, .int 1, .int 0, .ref 96, .int 0, .int 0, .int 0, .ref 98, .ref 100, .int 0]))))).set 40 (.inr (.inr (.inr (6, [.int 1, .long 70644700037184, .int 0, .ref 82, .ref 84, .ref 86]))))).set 43 (.inr (.inl (16, [70644700037184]))))) (dc2 := 117) (ds2 := 29934) 7 rfl ?_
  refine zT_val h2 ?_
  refine zT_gos (f := 200000) (pc2 := 1154) (ls2 := [(4, .int 0), (3, .ref 232), (2, .ref 162), (1, .ref 0), (0, .ref 11)]) (st2 := [.int (xs 3), .int (-1), .int 0, .ref 162, .int 0]) (h2 := (((zH0.set 37 (.inr (.inr (.inr (3, [.ref 44, .ref 6, .ref 76, .ref 78, .ref 80, .ref 88, .int 1, .int 0, .ref 96, .int 0, .int 0, .int 0, .ref 98, .ref 100, .int 0]))))).set 40 (.inr (.inr (.inr (6, [.int 1, .long 70644700037184, .int 0, .ref 82, .ref 84, .ref 86]))))).set 43 (.inr (.inl (16, [70644700037184]))))) (dc2 := 117) (ds2 := 29934) 5 rfl ?_
  refine zT_val h3 ?_
  refine zT_call rfl rfl (zT_le (zg0_le 6 xs) zk_o_144) ?_
  refine zT_here (pc2 := 1157) rfl ?_
  refine zT_gos (f := 200000) (pc2 := 1811) (ls2 := [(4, .int 6), (3, .ref 232), (2, .ref 162), (1, .ref 0), (0, .ref 11)]) (st2 := [.int 1]) (h2 := (((((((zH0.set 37 (.inr (.inr (.inr (3, [.ref 44, .ref 6, .ref 76, .ref 78, .ref 80, .ref 88, .int 1, .int 0, .ref 96, .int 0, .int 0, .int 0, .ref 98, .ref 100, .int 0]))))).set 40 (.inr (.inr (.inr (6, [.int 1, .long 70644700037184, .int 0, .ref 82, .ref 84, .ref 86]))))).set 43 (.inr (.inl (16, [70644700037184])))).set 106 (.inl (2, 2, [1, 0]))).set 105 (.inl (0, 2, [0]))).set 107 (.inl (0, 132, [0, 0, 0, 0, 0, 0]))).set 109 (.inl (0, 22, [0])))) (dc2 := 117) (ds2 := 29934) 10 rfl ?_
  exact zT_ret rfl rfl
set_option maxRecDepth 1000000 in
theorem zk_o_145 : zT zg0 zF zP 125 0 [(0, .ref 0), (1, .int 0), (2, .int 0), (3, .int 0)] [] zH0 0 0 (some (.int 0), (((zH0.set 37 (.inr (.inr (.inr (3, [.ref 44, .ref 6, .ref 76, .ref 78, .ref 80, .ref 88, .int 1, .int 0, .ref 96, .int 0, .int 0, .int 0, .ref 98, .ref 100, .int 0]))))).set 40 (.inr (.inr (.inr (6, [.int 1, .long 70644700037184, .int 0, .ref 82, .ref 84, .ref 86]))))).set 43 (.inr (.inl (16, [70644700037184])))), 0, 0) := zclosed (n := 349) (by decide +kernel)
set_option maxRecDepth 1000000 in
theorem zk_o_146 : zT zg0 zF zP 256 0 [(0, .ref 162), (1, .int 0), (2, .int 0), (3, .int 0)] [] (((zH0.set 37 (.inr (.inr (.inr (3, [.ref 44, .ref 6, .ref 76, .ref 78, .ref 80, .ref 88, .int 1, .int 0, .ref 96, .int 0, .int 0, .int 0, .ref 98, .ref 100, .int 0]))))).set 40 (.inr (.inr (.inr (6, [.int 1, .long 70644700037184, .int 0, .ref 82, .ref 84, .ref 86]))))).set 43 (.inr (.inl (16, [70644700037184])))) 0 0 (some (.int 0), (((((((zH0.set 37 (.inr (.inr (.inr (3, [.ref 44, .ref 6, .ref 76, .ref 78, .ref 80, .ref 88, .int 1, .int 0, .ref 96, .int 0, .int 0, .int 0, .ref 98, .ref 100, .int 0]))))).set 40 (.inr (.inr (.inr (6, [.int 1, .long 70644700037184, .int 0, .ref 82, .ref 84, .ref 86]))))).set 43 (.inr (.inl (16, [70644700037184])))).set 106 (.inl (2, 2, [1, 0]))).set 105 (.inl (0, 2, [0]))).set 107 (.inl (0, 132, [0, 0, 0, 0, 0, 0]))).set 109 (.inl (0, 22, [0]))), 0, 0) := zclosed (n := 425) (by decide +kernel)
set_option maxRecDepth 1000000 in
set_option maxHeartbeats 4000000 in
theorem zo_24_16 (xs : Nat → Int32) (h0 : xs 0 &&& 63 = 24) (h1 : xs 1 = 0) (h3 : xs 3 = 0) (h2 : xs 2 = 0) : zDone xs := by
  refine ⟨(((((((zH0.set 37 (.inr (.inr (.inr (3, [.ref 44, .ref 6, .ref 76, .ref 78, .ref 80, .ref 88, .int 1, .int 0, .ref 96, .int 0, .int 0, .int 0, .ref 98, .ref 100, .int 0]))))).set 40 (.inr (.inr (.inr (6, [.int 1, .long 70644700037184, .int 0, .ref 82, .ref 84, .ref 86]))))).set 43 (.inr (.inl (16, [70644700037184])))).set 106 (.inl (2, 2, [1, 0]))).set 105 (.inl (0, 2, [0]))).set 107 (.inl (0, 132, [0, 0, 0, 0, 0, 0]))).set 109 (.inl (0, 22, [0]))), 117, 29934, ?_, by decide, by decide⟩
  refine zT_gos (f := 200000) (pc2 := 37) (ls2 := [(4, .int 0), (3, .ref 232), (2, .ref 162), (1, .ref 0), (0, .ref 11)]) (st2 := [.int (xs 0)]) (h2 := zH0) (dc2 := 117) (ds2 := 29934) 9 rfl ?_
  refine zT_gos (f := 200000) (pc2 := 40) (ls2 := [(4, .int 0), (3, .ref 232), (2, .ref 162), (1, .ref 0), (0, .ref 11)]) (st2 := [.int ((xs 0) &&& (63 : Int32))]) (h2 := zH0) (dc2 := 117) (ds2 := 29934) 2 rfl ?_
  refine zT_val h0 ?_
  refine zT_gos (f := 200000) (pc2 := 1104) (ls2 := [(4, .int 0), (3, .ref 232), (2, .ref 162), (1, .ref 0), (0, .ref 11)]) (st2 := [.int (xs 1), .ref 0]) (h2 := zH0) (dc2 := 117) (ds2 := 29934) 7 rfl ?_
  refine zT_val h1 ?_
  refine zT_gos (f := 200000) (pc2 := 1118) (ls2 := [(4, .int 0), (3, .ref 232), (2, .ref 162), (1, .ref 0), (0, .ref 11)]) (st2 := [.int (xs 2), .int 0, .ref 0]) (h2 := zH0) (dc2 := 117) (ds2 := 29934) 7 rfl ?_
  refine zT_val h2 ?_
  refine zT_gos (f := 200000) (pc2 := 1124) (ls2 := [(4, .int 0), (3, .ref 232), (2, .ref 162), (1, .ref 0), (0, .ref 11)]) (st2 := [.int (xs 3), .int 0, .int 0, .ref 0]) (h2 := zH0) (dc2 := 117) (ds2 := 29934) 5 rfl ?_
  refine zT_val h3 ?_
  refine zT_call rfl rfl (zT_le (zg0_le 6 xs) zk_o_145) ?_
  refine zT_here (pc2 := 1127) rfl ?_
  refine zT_gos (f := 200000) (pc2 := 1134) (ls2 := [(4, .int 0), (3, .ref 232), (2, .ref 162), (1, .ref 0), (0, .ref 11)]) (st2 := [.int (xs 1), .ref 162, .int 0]) (h2 := (((zH0.set 37 (.inr (.inr (.inr (3, [.ref 44, .ref 6, .ref 76, .ref 78, .ref 80, .ref 88, .int 1, .int 0, .ref 96, .int 0, .int 0, .int 0, .ref 98, .ref 100, .int 0]))))).set 40 (.inr (.inr (.inr (6, [.int 1, .long 70644700037184, .int 0, .ref 82, .ref 84, .ref 86]))))).set 43 (.inr (.inl (16, [70644700037184]))))) (dc2 := 117) (ds2 := 29934) 6 rfl ?_
  refine zT_val h1 ?_
  refine zT_gos (f := 200000) (pc2 := 1148) (ls2 := [(4, .int 0), (3, .ref 232), (2, .ref 162), (1, .ref 0), (0, .ref 11)]) (st2 := [.int (xs 2), .int 0, .ref 162, .int 0]) (h2 := (((zH0.set 37 (.inr (.inr (.inr (3, [.ref 44, .ref 6, .ref 76, .ref 78, .ref 80, .ref 88, .int 1, .int 0, .ref 96, .int 0, .int 0, .int 0, .ref 98, .ref 100, .int 0]))))).set 40 (.inr (.inr (.inr (6, [.int 1, .long 70644700037184, .int 0, .ref 82, .ref 84, .ref 86]))))).set 43 (.inr (.inl (16, [70644700037184]))))) (dc2 := 117) (ds2 := 29934) 7 rfl ?_
  refine zT_val h2 ?_
  refine zT_gos (f := 200000) (pc2 := 1154) (ls2 := [(4, .int 0), (3, .ref 232), (2, .ref 162), (1, .ref 0), (0, .ref 11)]) (st2 := [.int (xs 3), .int 0, .int 0, .ref 162, .int 0]) (h2 := (((zH0.set 37 (.inr (.inr (.inr (3, [.ref 44, .ref 6, .ref 76, .ref 78, .ref 80, .ref 88, .int 1, .int 0, .ref 96, .int 0, .int 0, .int 0, .ref 98, .ref 100, .int 0]))))).set 40 (.inr (.inr (.inr (6, [.int 1, .long 70644700037184, .int 0, .ref 82, .ref 84, .ref 86]))))).set 43 (.inr (.inl (16, [70644700037184]))))) (dc2 := 117) (ds2 := 29934) 5 rfl ?_
  refine zT_val h3 ?_
  refine zT_call rfl rfl (zT_le (zg0_le 6 xs) zk_o_146) ?_
  refine zT_here (pc2 := 1157) rfl ?_
  refine zT_gos (f := 200000) (pc2 := 1811) (ls2 := [(4, .int 6), (3, .ref 232), (2, .ref 162), (1, .ref 0), (0, .ref 11)]) (st2 := [.int 1]) (h2 := (((((((zH0.set 37 (.inr (.inr (.inr (3, [.ref 44, .ref 6, .ref 76, .ref 78, .ref 80, .ref 88, .int 1, .int 0, .ref 96, .int 0, .int 0, .int 0, .ref 98, .ref 100, .int 0]))))).set 40 (.inr (.inr (.inr (6, [.int 1, .long 70644700037184, .int 0, .ref 82, .ref 84, .ref 86]))))).set 43 (.inr (.inl (16, [70644700037184])))).set 106 (.inl (2, 2, [1, 0]))).set 105 (.inl (0, 2, [0]))).set 107 (.inl (0, 132, [0, 0, 0, 0, 0, 0]))).set 109 (.inl (0, 22, [0])))) (dc2 := 117) (ds2 := 29934) 10 rfl ?_
  exact zT_ret rfl rfl
set_option maxRecDepth 1000000 in
theorem zk_o_147 : zT zg0 zF zP 125 0 [(0, .ref 0), (1, .int 0), (2, .int 1), (3, .int 0)] [] zH0 0 0 (some (.int 0), (((zH0.set 37 (.inr (.inr (.inr (3, [.ref 44, .ref 6, .ref 76, .ref 78, .ref 80, .ref 88, .int 1, .int 0, .ref 96, .int 0, .int 0, .int 0, .ref 98, .ref 100, .int 0]))))).set 40 (.inr (.inr (.inr (6, [.int 1, .long 70644700037184, .int 0, .ref 82, .ref 84, .ref 86]))))).set 43 (.inr (.inl (16, [70644700037184])))), 0, 0) := zclosed (n := 354) (by decide +kernel)
set_option maxRecDepth 1000000 in
theorem zk_o_148 : zT zg0 zF zP 256 0 [(0, .ref 162), (1, .int 0), (2, .int 1), (3, .int 0)] [] (((zH0.set 37 (.inr (.inr (.inr (3, [.ref 44, .ref 6, .ref 76, .ref 78, .ref 80, .ref 88, .int 1, .int 0, .ref 96, .int 0, .int 0, .int 0, .ref 98, .ref 100, .int 0]))))).set 40 (.inr (.inr (.inr (6, [.int 1, .long 70644700037184, .int 0, .ref 82, .ref 84, .ref 86]))))).set 43 (.inr (.inl (16, [70644700037184])))) 0 0 (some (.int 0), (((((((zH0.set 37 (.inr (.inr (.inr (3, [.ref 44, .ref 6, .ref 76, .ref 78, .ref 80, .ref 88, .int 1, .int 0, .ref 96, .int 0, .int 0, .int 0, .ref 98, .ref 100, .int 0]))))).set 40 (.inr (.inr (.inr (6, [.int 1, .long 70644700037184, .int 0, .ref 82, .ref 84, .ref 86]))))).set 43 (.inr (.inl (16, [70644700037184])))).set 106 (.inl (2, 2, [1, 0]))).set 105 (.inl (0, 2, [0]))).set 107 (.inl (0, 132, [0, 0, 0, 0, 0, 0]))).set 109 (.inl (0, 22, [0]))), 0, 0) := zclosed (n := 449) (by decide +kernel)
set_option maxRecDepth 1000000 in
set_option maxHeartbeats 4000000 in
theorem zo_24_17 (xs : Nat → Int32) (h0 : xs 0 &&& 63 = 24) (h1 : xs 1 = 0) (h3 : xs 3 = 0) (h2 : xs 2 = 1) : zDone xs := by
  refine ⟨(((((((zH0.set 37 (.inr (.inr (.inr (3, [.ref 44, .ref 6, .ref 76, .ref 78, .ref 80, .ref 88, .int 1, .int 0, .ref 96, .int 0, .int 0, .int 0, .ref 98, .ref 100, .int 0]))))).set 40 (.inr (.inr (.inr (6, [.int 1, .long 70644700037184, .int 0, .ref 82, .ref 84, .ref 86]))))).set 43 (.inr (.inl (16, [70644700037184])))).set 106 (.inl (2, 2, [1, 0]))).set 105 (.inl (0, 2, [0]))).set 107 (.inl (0, 132, [0, 0, 0, 0, 0, 0]))).set 109 (.inl (0, 22, [0]))), 117, 29934, ?_, by decide, by decide⟩
  refine zT_gos (f := 200000) (pc2 := 37) (ls2 := [(4, .int 0), (3, .ref 232), (2, .ref 162), (1, .ref 0), (0, .ref 11)]) (st2 := [.int (xs 0)]) (h2 := zH0) (dc2 := 117) (ds2 := 29934) 9 rfl ?_
  refine zT_gos (f := 200000) (pc2 := 40) (ls2 := [(4, .int 0), (3, .ref 232), (2, .ref 162), (1, .ref 0), (0, .ref 11)]) (st2 := [.int ((xs 0) &&& (63 : Int32))]) (h2 := zH0) (dc2 := 117) (ds2 := 29934) 2 rfl ?_
  refine zT_val h0 ?_
  refine zT_gos (f := 200000) (pc2 := 1104) (ls2 := [(4, .int 0), (3, .ref 232), (2, .ref 162), (1, .ref 0), (0, .ref 11)]) (st2 := [.int (xs 1), .ref 0]) (h2 := zH0) (dc2 := 117) (ds2 := 29934) 7 rfl ?_
  refine zT_val h1 ?_
  refine zT_gos (f := 200000) (pc2 := 1118) (ls2 := [(4, .int 0), (3, .ref 232), (2, .ref 162), (1, .ref 0), (0, .ref 11)]) (st2 := [.int (xs 2), .int 0, .ref 0]) (h2 := zH0) (dc2 := 117) (ds2 := 29934) 7 rfl ?_
  refine zT_val h2 ?_
  refine zT_gos (f := 200000) (pc2 := 1124) (ls2 := [(4, .int 0), (3, .ref 232), (2, .ref 162), (1, .ref 0), (0, .ref 11)]) (st2 := [.int (xs 3), .int 1, .int 0, .ref 0]) (h2 := zH0) (dc2 := 117) (ds2 := 29934) 5 rfl ?_
  refine zT_val h3 ?_
  refine zT_call rfl rfl (zT_le (zg0_le 6 xs) zk_o_147) ?_
  refine zT_here (pc2 := 1127) rfl ?_
  refine zT_gos (f := 200000) (pc2 := 1134) (ls2 := [(4, .int 0), (3, .ref 232), (2, .ref 162), (1, .ref 0), (0, .ref 11)]) (st2 := [.int (xs 1), .ref 162, .int 0]) (h2 := (((zH0.set 37 (.inr (.inr (.inr (3, [.ref 44, .ref 6, .ref 76, .ref 78, .ref 80, .ref 88, .int 1, .int 0, .ref 96, .int 0, .int 0, .int 0, .ref 98, .ref 100, .int 0]))))).set 40 (.inr (.inr (.inr (6, [.int 1, .long 70644700037184, .int 0, .ref 82, .ref 84, .ref 86]))))).set 43 (.inr (.inl (16, [70644700037184]))))) (dc2 := 117) (ds2 := 29934) 6 rfl ?_
  refine zT_val h1 ?_
  refine zT_gos (f := 200000) (pc2 := 1148) (ls2 := [(4, .int 0), (3, .ref 232), (2, .ref 162), (1, .ref 0), (0, .ref 11)]) (st2 := [.int (xs 2), .int 0, .ref 162, .int 0]) (h2 := (((zH0.set 37 (.inr (.inr (.inr (3, [.ref 44, .ref 6, .ref 76, .ref 78, .ref 80, .ref 88, .int 1, .int 0, .ref 96, .int 0, .int 0, .int 0, .ref 98, .ref 100, .int 0]))))).set 40 (.inr (.inr (.inr (6, [.int 1, .long 70644700037184, .int 0, .ref 82, .ref 84, .ref 86]))))).set 43 (.inr (.inl (16, [70644700037184]))))) (dc2 := 117) (ds2 := 29934) 7 rfl ?_
  refine zT_val h2 ?_
  refine zT_gos (f := 200000) (pc2 := 1154) (ls2 := [(4, .int 0), (3, .ref 232), (2, .ref 162), (1, .ref 0), (0, .ref 11)]) (st2 := [.int (xs 3), .int 1, .int 0, .ref 162, .int 0]) (h2 := (((zH0.set 37 (.inr (.inr (.inr (3, [.ref 44, .ref 6, .ref 76, .ref 78, .ref 80, .ref 88, .int 1, .int 0, .ref 96, .int 0, .int 0, .int 0, .ref 98, .ref 100, .int 0]))))).set 40 (.inr (.inr (.inr (6, [.int 1, .long 70644700037184, .int 0, .ref 82, .ref 84, .ref 86]))))).set 43 (.inr (.inl (16, [70644700037184]))))) (dc2 := 117) (ds2 := 29934) 5 rfl ?_
  refine zT_val h3 ?_
  refine zT_call rfl rfl (zT_le (zg0_le 6 xs) zk_o_148) ?_
  refine zT_here (pc2 := 1157) rfl ?_
  refine zT_gos (f := 200000) (pc2 := 1811) (ls2 := [(4, .int 6), (3, .ref 232), (2, .ref 162), (1, .ref 0), (0, .ref 11)]) (st2 := [.int 1]) (h2 := (((((((zH0.set 37 (.inr (.inr (.inr (3, [.ref 44, .ref 6, .ref 76, .ref 78, .ref 80, .ref 88, .int 1, .int 0, .ref 96, .int 0, .int 0, .int 0, .ref 98, .ref 100, .int 0]))))).set 40 (.inr (.inr (.inr (6, [.int 1, .long 70644700037184, .int 0, .ref 82, .ref 84, .ref 86]))))).set 43 (.inr (.inl (16, [70644700037184])))).set 106 (.inl (2, 2, [1, 0]))).set 105 (.inl (0, 2, [0]))).set 107 (.inl (0, 132, [0, 0, 0, 0, 0, 0]))).set 109 (.inl (0, 22, [0])))) (dc2 := 117) (ds2 := 29934) 10 rfl ?_
  exact zT_ret rfl rfl
set_option maxRecDepth 1000000 in
theorem zk_o_149 : zT zg0 zF zP 125 0 [(0, .ref 0), (1, .int 0), (2, .int 2), (3, .int 0)] [] zH0 0 0 (some (.int 0), (((zH0.set 37 (.inr (.inr (.inr (3, [.ref 44, .ref 6, .ref 76, .ref 78, .ref 80, .ref 88, .int 1, .int 0, .ref 96, .int 0, .int 0, .int 0, .ref 98, .ref 100, .int 0]))))).set 40 (.inr (.inr (.inr (6, [.int 1, .long 70644700037184, .int 0, .ref 82, .ref 84, .ref 86]))))).set 43 (.inr (.inl (16, [70644700037184])))), 0, 0) := zclosed (n := 359) (by decide +kernel)
set_option maxRecDepth 1000000 in
theorem zk_o_150 : zT zg0 zF zP 256 0 [(0, .ref 162), (1, .int 0), (2, .int 2), (3, .int 0)] [] (((zH0.set 37 (.inr (.inr (.inr (3, [.ref 44, .ref 6, .ref 76, .ref 78, .ref 80, .ref 88, .int 1, .int 0, .ref 96, .int 0, .int 0, .int 0, .ref 98, .ref 100, .int 0]))))).set 40 (.inr (.inr (.inr (6, [.int 1, .long 70644700037184, .int 0, .ref 82, .ref 84, .ref 86]))))).set 43 (.inr (.inl (16, [70644700037184])))) 0 0 (some (.int 0), (((((((zH0.set 37 (.inr (.inr (.inr (3, [.ref 44, .ref 6, .ref 76, .ref 78, .ref 80, .ref 88, .int 1, .int 0, .ref 96, .int 0, .int 0, .int 0, .ref 98, .ref 100, .int 0]))))).set 40 (.inr (.inr (.inr (6, [.int 1, .long 70644700037184, .int 0, .ref 82, .ref 84, .ref 86]))))).set 43 (.inr (.inl (16, [70644700037184])))).set 106 (.inl (2, 2, [1, 0]))).set 105 (.inl (0, 2, [0]))).set 107 (.inl (0, 132, [0, 0, 0, 0, 0, 0]))).set 109 (.inl (0, 22, [0]))), 0, 0) := zclosed (n := 473) (by decide +kernel)
set_option maxRecDepth 1000000 in
set_option maxHeartbeats 4000000 in
theorem zo_24_18 (xs : Nat → Int32) (h0 : xs 0 &&& 63 = 24) (h1 : xs 1 = 0) (h3 : xs 3 = 0) (h2 : xs 2 = 2) : zDone xs := by
  refine ⟨(((((((zH0.set 37 (.inr (.inr (.inr (3, [.ref 44, .ref 6, .ref 76, .ref 78, .ref 80, .ref 88, .int 1, .int 0, .ref 96, .int 0, .int 0, .int 0, .ref 98, .ref 100, .int 0]))))).set 40 (.inr (.inr (.inr (6, [.int 1, .long 70644700037184, .int 0, .ref 82, .ref 84, .ref 86]))))).set 43 (.inr (.inl (16, [70644700037184])))).set 106 (.inl (2, 2, [1, 0]))).set 105 (.inl (0, 2, [0]))).set 107 (.inl (0, 132, [0, 0, 0, 0, 0, 0]))).set 109 (.inl (0, 22, [0]))), 117, 29934, ?_, by decide, by decide⟩
  refine zT_gos (f := 200000) (pc2 := 37) (ls2 := [(4, .int 0), (3, .ref 232), (2, .ref 162), (1, .ref 0), (0, .ref 11)]) (st2 := [.int (xs 0)]) (h2 := zH0) (dc2 := 117) (ds2 := 29934) 9 rfl ?_
  refine zT_gos (f := 200000) (pc2 := 40) (ls2 := [(4, .int 0), (3, .ref 232), (2, .ref 162), (1, .ref 0), (0, .ref 11)]) (st2 := [.int ((xs 0) &&& (63 : Int32))]) (h2 := zH0) (dc2 := 117) (ds2 := 29934) 2 rfl ?_
  refine zT_val h0 ?_
  refine zT_gos (f := 200000) (pc2 := 1104) (ls2 := [(4, .int 0), (3, .ref 232), (2, .ref 162), (1, .ref 0), (0, .ref 11)]) (st2 := [.int (xs 1), .ref 0]) (h2 := zH0) (dc2 := 117) (ds2 := 29934) 7 rfl ?_
  refine zT_val h1 ?_
  refine zT_gos (f := 200000) (pc2 := 1118) (ls2 := [(4, .int 0), (3, .ref 232), (2, .ref 162), (1, .ref 0), (0, .ref 11)]) (st2 := [.int (xs 2), .int 0, .ref 0]) (h2 := zH0) (dc2 := 117) (ds2 := 29934) 7 rfl ?_
  refine zT_val h2 ?_
  refine zT_gos (f := 200000) (pc2 := 1124) (ls2 := [(4, .int 0), (3, .ref 232), (2, .ref 162), (1, .ref 0), (0, .ref 11)]) (st2 := [.int (xs 3), .int 2, .int 0, .ref 0]) (h2 := zH0) (dc2 := 117) (ds2 := 29934) 5 rfl ?_
  refine zT_val h3 ?_
  refine zT_call rfl rfl (zT_le (zg0_le 6 xs) zk_o_149) ?_
  refine zT_here (pc2 := 1127) rfl ?_
  refine zT_gos (f := 200000) (pc2 := 1134) (ls2 := [(4, .int 0), (3, .ref 232), (2, .ref 162), (1, .ref 0), (0, .ref 11)]) (st2 := [.int (xs 1), .ref 162, .int 0]) (h2 := (((zH0.set 37 (.inr (.inr (.inr (3, [.ref 44, .ref 6, .ref 76, .ref 78, .ref 80, .ref 88, .int 1, .int 0, .ref 96, .int 0, .int 0, .int 0, .ref 98, .ref 100, .int 0]))))).set 40 (.inr (.inr (.inr (6, [.int 1, .long 70644700037184, .int 0, .ref 82, .ref 84, .ref 86]))))).set 43 (.inr (.inl (16, [70644700037184]))))) (dc2 := 117) (ds2 := 29934) 6 rfl ?_
  refine zT_val h1 ?_
  refine zT_gos (f := 200000) (pc2 := 1148) (ls2 := [(4, .int 0), (3, .ref 232), (2, .ref 162), (1, .ref 0), (0, .ref 11)]) (st2 := [.int (xs 2), .int 0, .ref 162, .int 0]) (h2 := (((zH0.set 37 (.inr (.inr (.inr (3, [.ref 44, .ref 6, .ref 76, .ref 78, .ref 80, .ref 88, .int 1, .int 0, .ref 96, .int 0, .int 0, .int 0, .ref 98, .ref 100, .int 0]))))).set 40 (.inr (.inr (.inr (6, [.int 1, .long 70644700037184, .int 0, .ref 82, .ref 84, .ref 86]))))).set 43 (.inr (.inl (16, [70644700037184]))))) (dc2 := 117) (ds2 := 29934) 7 rfl ?_
  refine zT_val h2 ?_
  refine zT_gos (f := 200000) (pc2 := 1154) (ls2 := [(4, .int 0), (3, .ref 232), (2, .ref 162), (1, .ref 0), (0, .ref 11)]) (st2 := [.int (xs 3), .int 2, .int 0, .ref 162, .int 0]) (h2 := (((zH0.set 37 (.inr (.inr (.inr (3, [.ref 44, .ref 6, .ref 76, .ref 78, .ref 80, .ref 88, .int 1, .int 0, .ref 96, .int 0, .int 0, .int 0, .ref 98, .ref 100, .int 0]))))).set 40 (.inr (.inr (.inr (6, [.int 1, .long 70644700037184, .int 0, .ref 82, .ref 84, .ref 86]))))).set 43 (.inr (.inl (16, [70644700037184]))))) (dc2 := 117) (ds2 := 29934) 5 rfl ?_
  refine zT_val h3 ?_
  refine zT_call rfl rfl (zT_le (zg0_le 6 xs) zk_o_150) ?_
  refine zT_here (pc2 := 1157) rfl ?_
  refine zT_gos (f := 200000) (pc2 := 1811) (ls2 := [(4, .int 6), (3, .ref 232), (2, .ref 162), (1, .ref 0), (0, .ref 11)]) (st2 := [.int 1]) (h2 := (((((((zH0.set 37 (.inr (.inr (.inr (3, [.ref 44, .ref 6, .ref 76, .ref 78, .ref 80, .ref 88, .int 1, .int 0, .ref 96, .int 0, .int 0, .int 0, .ref 98, .ref 100, .int 0]))))).set 40 (.inr (.inr (.inr (6, [.int 1, .long 70644700037184, .int 0, .ref 82, .ref 84, .ref 86]))))).set 43 (.inr (.inl (16, [70644700037184])))).set 106 (.inl (2, 2, [1, 0]))).set 105 (.inl (0, 2, [0]))).set 107 (.inl (0, 132, [0, 0, 0, 0, 0, 0]))).set 109 (.inl (0, 22, [0])))) (dc2 := 117) (ds2 := 29934) 10 rfl ?_
  exact zT_ret rfl rfl
set_option maxRecDepth 1000000 in
set_option maxHeartbeats 4000000 in
theorem zo_24_19 (xs : Nat → Int32) (h0 : xs 0 &&& 63 = 24) (h1 : xs 1 = 0) (h3 : xs 3 = 1) (h2 : (xs 2).toInt < -2) : zDone xs := by
  refine ⟨(((((((zH0.set 37 (.inr (.inr (.inr (3, [.ref 44, .ref 6, .ref 76, .ref 78, .ref 80, .ref 88, .int 1, .int 0, .ref 96, .int 0, .int 0, .int 0, .ref 98, .ref 100, .int 0]))))).set 40 (.inr (.inr (.inr (6, [.int 1, .long 70644700037184, .int 0, .ref 82, .ref 84, .ref 86]))))).set 43 (.inr (.inl (16, [70644700037184])))).set 106 (.inl (2, 2, [1, 0]))).set 105 (.inl (0, 2, [0]))).set 107 (.inl (0, 132, [0, 0, 0, 0, 0, 0]))).set 109 (.inl (0, 22, [0]))), 117, 29934, ?_, by decide, by decide⟩
  refine zT_gos (f := 200000) (pc2 := 37) (ls2 := [(4, .int 0), (3, .ref 232), (2, .ref 162), (1, .ref 0), (0, .ref 11)]) (st2 := [.int (xs 0)]) (h2 := zH0) (dc2 := 117) (ds2 := 29934) 9 rfl ?_
  refine zT_gos (f := 200000) (pc2 := 40) (ls2 := [(4, .int 0), (3, .ref 232), (2, .ref 162), (1, .ref 0), (0, .ref 11)]) (st2 := [.int ((xs 0) &&& (63 : Int32))]) (h2 := zH0) (dc2 := 117) (ds2 := 29934) 2 rfl ?_
  refine zT_val h0 ?_
  refine zT_gos (f := 200000) (pc2 := 1104) (ls2 := [(4, .int 0), (3, .ref 232), (2, .ref 162), (1, .ref 0), (0, .ref 11)]) (st2 := [.int (xs 1), .ref 0]) (h2 := zH0) (dc2 := 117) (ds2 := 29934) 7 rfl ?_
  refine zT_val h1 ?_
  refine zT_gos (f := 200000) (pc2 := 1118) (ls2 := [(4, .int 0), (3, .ref 232), (2, .ref 162), (1, .ref 0), (0, .ref 11)]) (st2 := [.int (xs 2), .int 0, .ref 0]) (h2 := zH0) (dc2 := 117) (ds2 := 29934) 7 rfl ?_
  refine zT_gos (f := 200000) (pc2 := 1124) (ls2 := [(4, .int 0), (3, .ref 232), (2, .ref 162), (1, .ref 0), (0, .ref 11)]) (st2 := [.int (xs 3), .int (xs 2), .int 0, .ref 0]) (h2 := zH0) (dc2 := 117) (ds2 := 29934) 5 rfl ?_
  refine zT_val h3 ?_
  refine zT_call (v := some (.int (-9999))) (h2 := (((zH0.set 37 (.inr (.inr (.inr (3, [.ref 44, .ref 6, .ref 76, .ref 78, .ref 80, .ref 88, .int 1, .int 0, .ref 96, .int 0, .int 0, .int 0, .ref 98, .ref 100, .int 0]))))).set 40 (.inr (.inr (.inr (6, [.int 1, .long 70644700037184, .int 0, .ref 82, .ref 84, .ref 86]))))).set 43 (.inr (.inl (16, [70644700037184]))))) (d1 := 0) (s1 := 0) rfl rfl ?_ ?_
  · refine zT_gos (f := 200000) (pc2 := 42) (ls2 := [(4, .ref 80), (0, .ref 0), (1, .int 0), (2, .int (xs 2)), (3, .int 1)]) (st2 := [.int (-2), .int (xs 2)]) (h2 := (((zH0.set 37 (.inr (.inr (.inr (3, [.ref 44, .ref 6, .ref 76, .ref 78, .ref 80, .ref 88, .int 1, .int 0, .ref 96, .int 0, .int 0, .int 0, .ref 98, .ref 100, .int 0]))))).set 40 (.inr (.inr (.inr (6, [.int 1, .long 70644700037184, .int 0, .ref 82, .ref 84, .ref 86]))))).set 43 (.inr (.inl (16, [70644700037184]))))) (dc2 := 0) (ds2 := 0) 18 rfl ?_
    refine zT_if2 true rfl (zc_lt_t (by show ((xs 2) : Int32).toInt < -2; omega)) ?_
    refine zT_here (pc2 := 62) rfl ?_
    refine zT_gos (f := 200000) (pc2 := 65) (ls2 := [(4, .ref 80), (0, .ref 0), (1, .int 0), (2, .int (xs 2)), (3, .int 1)]) (st2 := [.int (-9999)]) (h2 := (((zH0.set 37 (.inr (.inr (.inr (3, [.ref 44, .ref 6, .ref 76, .ref 78, .ref 80, .ref 88, .int 1, .int 0, .ref 96, .int 0, .int 0, .int 0, .ref 98, .ref 100, .int 0]))))).set 40 (.inr (.inr (.inr (6, [.int 1, .long 70644700037184, .int 0, .ref 82, .ref 84, .ref 86]))))).set 43 (.inr (.inl (16, [70644700037184]))))) (dc2 := 0) (ds2 := 0) 1 rfl ?_
    exact zT_ret rfl rfl
  refine zT_here (pc2 := 1127) rfl ?_
  refine zT_gos (f := 200000) (pc2 := 1134) (ls2 := [(4, .int 0), (3, .ref 232), (2, .ref 162), (1, .ref 0), (0, .ref 11)]) (st2 := [.int (xs 1), .ref 162, .int (-9999)]) (h2 := (((zH0.set 37 (.inr (.inr (.inr (3, [.ref 44, .ref 6, .ref 76, .ref 78, .ref 80, .ref 88, .int 1, .int 0, .ref 96, .int 0, .int 0, .int 0, .ref 98, .ref 100, .int 0]))))).set 40 (.inr (.inr (.inr (6, [.int 1, .long 70644700037184, .int 0, .ref 82, .ref 84, .ref 86]))))).set 43 (.inr (.inl (16, [70644700037184]))))) (dc2 := 117) (ds2 := 29934) 6 rfl ?_
  refine zT_val h1 ?_
  refine zT_gos (f := 200000) (pc2 := 1148) (ls2 := [(4, .int 0), (3, .ref 232), (2, .ref 162), (1, .ref 0), (0, .ref 11)]) (st2 := [.int (xs 2), .int 0, .ref 162, .int (-9999)]) (h2 := (((zH0.set 37 (.inr (.inr (.inr (3, [.ref 44, .ref 6, .ref 76, .ref 78, .ref 80, .ref 88, .int 1, .int 0, .ref 96, .int 0, .int 0, .int 0, .ref 98, .ref 100, .int 0]))))).set 40 (.inr (.inr (.inr (6, [.int 1, .long 70644700037184, .int 0, .ref 82, .ref 84, .ref 86]))))).set 43 (.inr (.inl (16, [70644700037184]))))) (dc2 := 117) (ds2 := 29934) 7 rfl ?_
  refine zT_gos (f := 200000) (pc2 := 1154) (ls2 := [(4, .int 0), (3, .ref 232), (2, .ref 162), (1, .ref 0), (0, .ref 11)]) (st2 := [.int (xs 3), .int (xs 2), .int 0, .ref 162, .int (-9999)]) (h2 := (((zH0.set 37 (.inr (.inr (.inr (3, [.ref 44, .ref 6, .ref 76, .ref 78, .ref 80, .ref 88, .int 1, .int 0, .ref 96, .int 0, .int 0, .int 0, .ref 98, .ref 100, .int 0]))))).set 40 (.inr (.inr (.inr (6, [.int 1, .long 70644700037184, .int 0, .ref 82, .ref 84, .ref 86]))))).set 43 (.inr (.inl (16, [70644700037184]))))) (dc2 := 117) (ds2 := 29934) 5 rfl ?_
  refine zT_val h3 ?_
  refine zT_call (v := some (.int (-9999))) (h2 := (((((((zH0.set 37 (.inr (.inr (.inr (3, [.ref 44, .ref 6, .ref 76, .ref 78, .ref 80, .ref 88, .int 1, .int 0, .ref 96, .int 0, .int 0, .int 0, .ref 98, .ref 100, .int 0]))))).set 40 (.inr (.inr (.inr (6, [.int 1, .long 70644700037184, .int 0, .ref 82, .ref 84, .ref 86]))))).set 43 (.inr (.inl (16, [70644700037184])))).set 106 (.inl (2, 2, [1, 0]))).set 105 (.inl (0, 2, [0]))).set 107 (.inl (0, 132, [0, 0, 0, 0, 0, 0]))).set 109 (.inl (0, 22, [0])))) (d1 := 0) (s1 := 0) rfl rfl ?_ ?_
  · refine zT_gos (f := 200000) (pc2 := 7) (ls2 := [(0, .ref 162), (1, .int 0), (2, .int (xs 2)), (3, .int 1)]) (st2 := [.int 0, .ref 162]) (h2 := (((zH0.set 37 (.inr (.inr (.inr (3, [.ref 44, .ref 6, .ref 76, .ref 78, .ref 80, .ref 88, .int 1, .int 0, .ref 96, .int 0, .int 0, .int 0, .ref 98, .ref 100, .int 0]))))).set 40 (.inr (.inr (.inr (6, [.int 1, .long 70644700037184, .int 0, .ref 82, .ref 84, .ref 86]))))).set 43 (.inr (.inl (16, [70644700037184]))))) (dc2 := 0) (ds2 := 0) 5 rfl ?_
    refine zT_call rfl rfl (zT_le (zg0_le 6 xs) zk_o_19) ?_
    refine zT_here (pc2 := 10) rfl ?_
    refine zT_gos (f := 200000) (pc2 := 29) (ls2 := [(5, .int 2), (4, .int 0), (0, .ref 162), (1, .int 0), (2, .int (xs 2)), (3, .int 1)]) (st2 := [.int (-2), .int (xs 2)]) (h2 := (((((((zH0.set 37 (.inr (.inr (.inr (3, [.ref 44, .ref 6, .ref 76, .ref 78, .ref 80, .ref 88, .int 1, .int 0, .ref 96, .int 0, .int 0, .int 0, .ref 98, .ref 100, .int 0]))))).set 40 (.inr (.inr (.inr (6, [.int 1, .long 70644700037184, .int 0, .ref 82, .ref 84, .ref 86]))))).set 43 (.inr (.inl (16, [70644700037184])))).set 106 (.inl (2, 2, [1, 0]))).set 105 (.inl (0, 2, [0]))).set 107 (.inl (0, 132, [0, 0, 0, 0, 0, 0]))).set 109 (.inl (0, 22, [0])))) (dc2 := 0) (ds2 := 0) 11 rfl ?_
    refine zT_if2 true rfl (zc_lt_t (by show ((xs 2) : Int32).toInt < -2; omega)) ?_
    refine zT_here (pc2 := 48) rfl ?_
    refine zT_gos (f := 200000) (pc2 := 71) (ls2 := [(5, .int 2), (4, .int 0), (0, .ref 162), (1, .int 0), (2, .int (xs 2)), (3, .int 1)]) (st2 := [.int (-9999)]) (h2 := (((((((zH0.set 37 (.inr (.inr (.inr (3, [.ref 44, .ref 6, .ref 76, .ref 78, .ref 80, .ref 88, .int 1, .int 0, .ref 96, .int 0, .int 0, .int 0, .ref 98, .ref 100, .int 0]))))).set 40 (.inr (.inr (.inr (6, [.int 1, .long 70644700037184, .int 0, .ref 82, .ref 84, .ref 86]))))).set 43 (.inr (.inl (16, [70644700037184])))).set 106 (.inl (2, 2, [1, 0]))).set 105 (.inl (0, 2, [0]))).set 107 (.inl (0, 132, [0, 0, 0, 0, 0, 0]))).set 109 (.inl (0, 22, [0])))) (dc2 := 0) (ds2 := 0) 2 rfl ?_
    exact zT_ret rfl rfl
  refine zT_here (pc2 := 1157) rfl ?_
  refine zT_gos (f := 200000) (pc2 := 1811) (ls2 := [(4, .int 6), (3, .ref 232), (2, .ref 162), (1, .ref 0), (0, .ref 11)]) (st2 := [.int 1]) (h2 := (((((((zH0.set 37 (.inr (.inr (.inr (3, [.ref 44, .ref 6, .ref 76, .ref 78, .ref 80, .ref 88, .int 1, .int 0, .ref 96, .int 0, .int 0, .int 0, .ref 98, .ref 100, .int 0]))))).set 40 (.inr (.inr (.inr (6, [.int 1, .long 70644700037184, .int 0, .ref 82, .ref 84, .ref 86]))))).set 43 (.inr (.inl (16, [70644700037184])))).set 106 (.inl (2, 2, [1, 0]))).set 105 (.inl (0, 2, [0]))).set 107 (.inl (0, 132, [0, 0, 0, 0, 0, 0]))).set 109 (.inl (0, 22, [0])))) (dc2 := 117) (ds2 := 29934) 10 rfl ?_
  exact zT_ret rfl rfl
set_option maxRecDepth 1000000 in
set_option maxHeartbeats 4000000 in
theorem zo_24_20 (xs : Nat → Int32) (h0 : xs 0 &&& 63 = 24) (h1 : xs 1 = 0) (h3 : xs 3 = 1) (h2 : 2 < (xs 2).toInt) : zDone xs := by
  refine ⟨(((((((zH0.set 37 (.inr (.inr (.inr (3, [.ref 44, .ref 6, .ref 76, .ref 78, .ref 80, .ref 88, .int 1, .int 0, .ref 96, .int 0, .int 0, .int 0, .ref 98, .ref 100, .int 0]))))).set 40 (.inr (.inr (.inr (6, [.int 1, .long 70644700037184, .int 0, .ref 82, .ref 84, .ref 86]))))).set 43 (.inr (.inl (16, [70644700037184])))).set 106 (.inl (2, 2, [1, 0]))).set 105 (.inl (0, 2, [0]))).set 107 (.inl (0, 132, [0, 0, 0, 0, 0, 0]))).set 109 (.inl (0, 22, [0]))), 117, 29934, ?_, by decide, by decide⟩
  refine zT_gos (f := 200000) (pc2 := 37) (ls2 := [(4, .int 0), (3, .ref 232), (2, .ref 162), (1, .ref 0), (0, .ref 11)]) (st2 := [.int (xs 0)]) (h2 := zH0) (dc2 := 117) (ds2 := 29934) 9 rfl ?_
  refine zT_gos (f := 200000) (pc2 := 40) (ls2 := [(4, .int 0), (3, .ref 232), (2, .ref 162), (1, .ref 0), (0, .ref 11)]) (st2 := [.int ((xs 0) &&& (63 : Int32))]) (h2 := zH0) (dc2 := 117) (ds2 := 29934) 2 rfl ?_
  refine zT_val h0 ?_
  refine zT_gos (f := 200000) (pc2 := 1104) (ls2 := [(4, .int 0), (3, .ref 232), (2, .ref 162), (1, .ref 0), (0, .ref 11)]) (st2 := [.int (xs 1), .ref 0]) (h2 := zH0) (dc2 := 117) (ds2 := 29934) 7 rfl ?_
  refine zT_val h1 ?_
  refine zT_gos (f := 200000) (pc2 := 1118) (ls2 := [(4, .int 0), (3, .ref 232), (2, .ref 162), (1, .ref 0), (0, .ref 11)]) (st2 := [.int (xs 2), .int 0, .ref 0]) (h2 := zH0) (dc2 := 117) (ds2 := 29934) 7 rfl ?_
  refine zT_gos (f := 200000) (pc2 := 1124) (ls2 := [(4, .int 0), (3, .ref 232), (2, .ref 162), (1, .ref 0), (0, .ref 11)]) (st2 := [.int (xs 3), .int (xs 2), .int 0, .ref 0]) (h2 := zH0) (dc2 := 117) (ds2 := 29934) 5 rfl ?_
  refine zT_val h3 ?_
  refine zT_call (v := some (.int (-9999))) (h2 := (((zH0.set 37 (.inr (.inr (.inr (3, [.ref 44, .ref 6, .ref 76, .ref 78, .ref 80, .ref 88, .int 1, .int 0, .ref 96, .int 0, .int 0, .int 0, .ref 98, .ref 100, .int 0]))))).set 40 (.inr (.inr (.inr (6, [.int 1, .long 70644700037184, .int 0, .ref 82, .ref 84, .ref 86]))))).set 43 (.inr (.inl (16, [70644700037184]))))) (d1 := 0) (s1 := 0) rfl rfl ?_ ?_
  · refine zT_gos (f := 200000) (pc2 := 42) (ls2 := [(4, .ref 80), (0, .ref 0), (1, .int 0), (2, .int (xs 2)), (3, .int 1)]) (st2 := [.int (-2), .int (xs 2)]) (h2 := (((zH0.set 37 (.inr (.inr (.inr (3, [.ref 44, .ref 6, .ref 76, .ref 78, .ref 80, .ref 88, .int 1, .int 0, .ref 96, .int 0, .int 0, .int 0, .ref 98, .ref 100, .int 0]))))).set 40 (.inr (.inr (.inr (6, [.int 1, .long 70644700037184, .int 0, .ref 82, .ref 84, .ref 86]))))).set 43 (.inr (.inl (16, [70644700037184]))))) (dc2 := 0) (ds2 := 0) 18 rfl ?_
    refine zT_if2 false rfl (zc_lt_f (by show ((xs 2) : Int32).toInt ≥ -2; omega)) ?_
    refine zT_here (pc2 := 45) rfl ?_
    refine zT_gos (f := 200000) (pc2 := 59) (ls2 := [(4, .ref 80), (0, .ref 0), (1, .int 0), (2, .int (xs 2)), (3, .int 1)]) (st2 := [.int 2, .int (xs 2)]) (h2 := (((zH0.set 37 (.inr (.inr (.inr (3, [.ref 44, .ref 6, .ref 76, .ref 78, .ref 80, .ref 88, .int 1, .int 0, .ref 96, .int 0, .int 0, .int 0, .ref 98, .ref 100, .int 0]))))).set 40 (.inr (.inr (.inr (6, [.int 1, .long 70644700037184, .int 0, .ref 82, .ref 84, .ref 86]))))).set 43 (.inr (.inl (16, [70644700037184]))))) (dc2 := 0) (ds2 := 0) 7 rfl ?_
    refine zT_if2 false rfl (zc_le_f (by show ((xs 2) : Int32).toInt > 2; omega)) ?_
    refine zT_here (pc2 := 62) rfl ?_
    refine zT_gos (f := 200000) (pc2 := 65) (ls2 := [(4, .ref 80), (0, .ref 0), (1, .int 0), (2, .int (xs 2)), (3, .int 1)]) (st2 := [.int (-9999)]) (h2 := (((zH0.set 37 (.inr (.inr (.inr (3, [.ref 44, .ref 6, .ref 76, .ref 78, .ref 80, .ref 88, .int 1, .int 0, .ref 96, .int 0, .int 0, .int 0, .ref 98, .ref 100, .int 0]))))).set 40 (.inr (.inr (.inr (6, [.int 1, .long 70644700037184, .int 0, .ref 82, .ref 84, .ref 86]))))).set 43 (.inr (.inl (16, [70644700037184]))))) (dc2 := 0) (ds2 := 0) 1 rfl ?_
    exact zT_ret rfl rfl
  refine zT_here (pc2 := 1127) rfl ?_
  refine zT_gos (f := 200000) (pc2 := 1134) (ls2 := [(4, .int 0), (3, .ref 232), (2, .ref 162), (1, .ref 0), (0, .ref 11)]) (st2 := [.int (xs 1), .ref 162, .int (-9999)]) (h2 := (((zH0.set 37 (.inr (.inr (.inr (3, [.ref 44, .ref 6, .ref 76, .ref 78, .ref 80, .ref 88, .int 1, .int 0, .ref 96, .int 0, .int 0, .int 0, .ref 98, .ref 100, .int 0]))))).set 40 (.inr (.inr (.inr (6, [.int 1, .long 70644700037184, .int 0, .ref 82, .ref 84, .ref 86]))))).set 43 (.inr (.inl (16, [70644700037184]))))) (dc2 := 117) (ds2 := 29934) 6 rfl ?_
  refine zT_val h1 ?_
  refine zT_gos (f := 200000) (pc2 := 1148) (ls2 := [(4, .int 0), (3, .ref 232), (2, .ref 162), (1, .ref 0), (0, .ref 11)]) (st2 := [.int (xs 2), .int 0, .ref 162, .int (-9999)]) (h2 := (((zH0.set 37 (.inr (.inr (.inr (3, [.ref 44, .ref 6, .ref 76, .ref 78, .ref 80, .ref 88, .int 1, .int 0, .ref 96, .int 0, .int 0, .int 0, .ref 98, .ref 100, .int 0]))))).set 40 (.inr (.inr (.inr (6, [.int 1, .long 70644700037184, .int 0, .ref 82, .ref 84, .ref 86]))))).set 43 (.inr (.inl (16, [70644700037184]))))) (dc2 := 117) (ds2 := 29934) 7 rfl ?_
  refine zT_gos (f := 200000) (pc2 := 1154) (ls2 := [(4, .int 0), (3, .ref 232), (2, .ref 162), (1, .ref 0), (0, .ref 11)]) (st2 := [.int (xs 3), .int (xs 2), .int 0, .ref 162, .int (-9999)]) (h2 := (((zH0.set 37 (.inr (.inr (.inr (3, [.ref 44, .ref 6, .ref 76, .ref 78, .ref 80, .ref 88, .int 1, .int 0, .ref 96, .int 0, .int 0, .int 0, .ref 98, .ref 100, .int 0]))))).set 40 (.inr (.inr (.inr (6, [.int 1, .long 70644700037184, .int 0, .ref 82, .ref 84, .ref 86]))))).set 43 (.inr (.inl (16, [70644700037184]))))) (dc2 := 117) (ds2 := 29934) 5 rfl ?_
  refine zT_val h3 ?_
  refine zT_call (v := some (.int (-9999))) (h2 := (((((((zH0.set 37 (.inr (.inr (.inr (3, [.ref 44, .ref 6, .ref 76, .ref 78, .ref 80, .ref 88, .int 1, .int 0, .ref 96, .int 0, .int 0, .int 0, .ref 98, .ref 100, .int 0]))))).set 40 (.inr (.inr (.inr (6, [.int 1, .long 70644700037184, .int 0, .ref 82, .ref 84, .ref 86]))))).set 43 (.inr (.inl (16, [70644700037184])))).set 106 (.inl (2, 2, [1, 0]))).set 105 (.inl (0, 2, [0]))).set 107 (.inl (0, 132, [0, 0, 0, 0, 0, 0]))).set 109 (.inl (0, 22, [0])))) (d1 := 0) (s1 := 0) rfl rfl ?_ ?_
  · refine zT_gos (f := 200000) (pc2 := 7) (ls2 := [(0, .ref 162), (1, .int 0), (2, .int (xs 2)), (3, .int 1)]) (st2 := [.int 0, .ref 162]) (h2 := (((zH0.set 37 (.inr (.inr (.inr (3, [.ref 44, .ref 6, .ref 76, .ref 78, .ref 80, .ref 88, .int 1, .int 0, .ref 96, .int 0, .int 0, .int 0, .ref 98, .ref 100, .int 0]))))).set 40 (.inr (.inr (.inr (6, [.int 1, .long 70644700037184, .int 0, .ref 82, .ref 84, .ref 86]))))).set 43 (.inr (.inl (16, [70644700037184]))))) (dc2 := 0) (ds2 := 0) 5 rfl ?_
    refine zT_call rfl rfl (zT_le (zg0_le 6 xs) zk_o_19) ?_
    refine zT_here (pc2 := 10) rfl ?_
    refine zT_gos (f := 200000) (pc2 := 29) (ls2 := [(5, .int 2), (4, .int 0), (0, .ref 162), (1, .int 0), (2, .int (xs 2)), (3, .int 1)]) (st2 := [.int (-2), .int (xs 2)]) (h2 := (((((((zH0.set 37 (.inr (.inr (.inr (3, [.ref 44, .ref 6, .ref 76, .ref 78, .ref 80, .ref 88, .int 1, .int 0, .ref 96, .int 0, .int 0, .int 0, .ref 98, .ref 100, .int 0]))))).set 40 (.inr (.inr (.inr (6, [.int 1, .long 70644700037184, .int 0, .ref 82, .ref 84, .ref 86]))))).set 43 (.inr (.inl (16, [70644700037184])))).set 106 (.inl (2, 2, [1, 0]))).set 105 (.inl (0, 2, [0]))).set 107 (.inl (0, 132, [0, 0, 0, 0, 0, 0]))).set 109 (.inl (0, 22, [0])))) (dc2 := 0) (ds2 := 0) 11 rfl ?_
    refine zT_if2 false rfl (zc_lt_f (by show ((xs 2) : Int32).toInt ≥ -2; omega)) ?_
    refine zT_here (pc2 := 32) rfl ?_
    refine zT_gos (f := 200000) (pc2 := 38) (ls2 := [(5, .int 2), (4, .int 0), (0, .ref 162), (1, .int 0), (2, .int (xs 2)), (3, .int 1)]) (st2 := [.int 2, .int (xs 2)]) (h2 := (((((((zH0.set 37 (.inr (.inr (.inr (3, [.ref 44, .ref 6, .ref 76, .ref 78, .ref 80, .ref 88, .int 1, .int 0, .ref 96, .int 0, .int 0, .int 0, .ref 98, .ref 100, .int 0]))))).set 40 (.inr (.inr (.inr (6, [.int 1, .long 70644700037184, .int 0, .ref 82, .ref 84, .ref 86]))))).set 43 (.inr (.inl (16, [70644700037184])))).set 106 (.inl (2, 2, [1, 0]))).set 105 (.inl (0, 2, [0]))).set 107 (.inl (0, 132, [0, 0, 0, 0, 0, 0]))).set 109 (.inl (0, 22, [0])))) (dc2 := 0) (ds2 := 0) 4 rfl ?_
    refine zT_if2 true rfl (zc_gt_t (by show ((xs 2) : Int32).toInt > 2; omega)) ?_
    refine zT_here (pc2 := 48) rfl ?_
    refine zT_gos (f := 200000) (pc2 := 71) (ls2 := [(5, .int 2), (4, .int 0), (0, .ref 162), (1, .int 0), (2, .int (xs 2)), (3, .int 1)]) (st2 := [.int (-9999)]) (h2 := (((((((zH0.set 37 (.inr (.inr (.inr (3, [.ref 44, .ref 6, .ref 76, .ref 78, .ref 80, .ref 88, .int 1, .int 0, .ref 96, .int 0, .int 0, .int 0, .ref 98, .ref 100, .int 0]))))).set 40 (.inr (.inr (.inr (6, [.int 1, .long 70644700037184, .int 0, .ref 82, .ref 84, .ref 86]))))).set 43 (.inr (.inl (16, [70644700037184])))).set 106 (.inl (2, 2, [1, 0]))).set 105 (.inl (0, 2, [0]))).set 107 (.inl (0, 132, [0, 0, 0, 0, 0, 0]))).set 109 (.inl (0, 22, [0])))) (dc2 := 0) (ds2 := 0) 2 rfl ?_
    exact zT_ret rfl rfl
  refine zT_here (pc2 := 1157) rfl ?_
  refine zT_gos (f := 200000) (pc2 := 1811) (ls2 := [(4, .int 6), (3, .ref 232), (2, .ref 162), (1, .ref 0), (0, .ref 11)]) (st2 := [.int 1]) (h2 := (((((((zH0.set 37 (.inr (.inr (.inr (3, [.ref 44, .ref 6, .ref 76, .ref 78, .ref 80, .ref 88, .int 1, .int 0, .ref 96, .int 0, .int 0, .int 0, .ref 98, .ref 100, .int 0]))))).set 40 (.inr (.inr (.inr (6, [.int 1, .long 70644700037184, .int 0, .ref 82, .ref 84, .ref 86]))))).set 43 (.inr (.inl (16, [70644700037184])))).set 106 (.inl (2, 2, [1, 0]))).set 105 (.inl (0, 2, [0]))).set 107 (.inl (0, 132, [0, 0, 0, 0, 0, 0]))).set 109 (.inl (0, 22, [0])))) (dc2 := 117) (ds2 := 29934) 10 rfl ?_
  exact zT_ret rfl rfl
set_option maxRecDepth 1000000 in
theorem zk_o_151 : zT zg0 zF zP 125 0 [(0, .ref 0), (1, .int 0), (2, .int (-2)), (3, .int 1)] [] zH0 0 0 (some (.int 0), (((zH0.set 37 (.inr (.inr (.inr (3, [.ref 44, .ref 6, .ref 76, .ref 78, .ref 80, .ref 88, .int 1, .int 0, .ref 96, .int 0, .int 0, .int 0, .ref 98, .ref 100, .int 0]))))).set 40 (.inr (.inr (.inr (6, [.int 1, .long 70644700037184, .int 0, .ref 82, .ref 84, .ref 86]))))).set 43 (.inr (.inl (16, [70644700037184])))), 0, 0) := zclosed (n := 339) (by decide +kernel)
set_option maxRecDepth 1000000 in
theorem zk_o_152 : zT zg0 zF zP 256 0 [(0, .ref 162), (1, .int 0), (2, .int (-2)), (3, .int 1)] [] (((zH0.set 37 (.inr (.inr (.inr (3, [.ref 44, .ref 6, .ref 76, .ref 78, .ref 80, .ref 88, .int 1, .int 0, .ref 96, .int 0, .int 0, .int 0, .ref 98, .ref 100, .int 0]))))).set 40 (.inr (.inr (.inr (6, [.int 1, .long 70644700037184, .int 0, .ref 82, .ref 84, .ref 86]))))).set 43 (.inr (.inl (16, [70644700037184])))) 0 0 (some (.int 0), (((((((zH0.set 37 (.inr (.inr (.inr (3, [.ref 44, .ref 6, .ref 76, .ref 78, .ref 80, .ref 88, .int 1, .int 0, .ref 96, .int 0, .int 0, .int 0, .ref 98, .ref 100, .int 0]))))).set 40 (.inr (.inr (.inr (6, [.int 1, .long 70644700037184, .int 0, .ref 82, .ref 84, .ref 86]))))).set 43 (.inr (.inl (16, [70644700037184])))).set 106 (.inl (2, 2, [1, 0]))).set 105 (.inl (0, 2, [0]))).set 107 (.inl (0, 132, [0, 0, 0, 0, 0, 0]))).set 109 (.inl (0, 22, [0]))), 0, 0) := zclosed (n := 377) (by decide +kernel)
set_option maxRecDepth 1000000 in
set_option maxHeartbeats 4000000 in
theorem zo_24_21 (xs : Nat → Int32) (h0 : xs 0 &&& 63 = 24) (h1 : xs 1 = 0) (h3 : xs 3 = 1) (h2 : xs 2 = (-2)) : zDone xs := by
  refine ⟨(((((((zH0.set 37 (.inr (.inr (.inr (3, [.ref 44, .ref 6, .ref 76, .ref 78, .ref 80, .ref 88, .int 1, .int 0, .ref 96, .int 0, .int 0, .int 0, .ref 98, .ref 100, .int 0]))))).set 40 (.inr (.inr (.inr (6, [.int 1, .long 70644700037184, .int 0, .ref 82, .ref 84, .ref 86]))))).set 43 (.inr (.inl (16, [70644700037184])))).set 106 (.inl (2, 2, [1, 0]))).set 105 (.inl (0, 2, [0]))).set 107 (.inl (0, 132, [0, 0, 0, 0, 0, 0]))).set 109 (.inl (0, 22, [0]))), 117, 29934, ?_, by decide, by decide⟩
  refine zT_gos (f := 200000) (pc2 := 37) (ls2 := [(4, .int 0), (3, .ref 232), (2, .ref 162), (1, .ref 0), (0, .ref 11)]) (st2 := [.int (xs 0)]) (h2 := zH0) (dc2 := 117) (ds2 := 29934) 9 rfl ?_
  refine zT_gos (f := 200000) (pc2 := 40) (ls2 := [(4, .int 0), (3, .ref 232), (2, .ref 162), (1, .ref 0), (0, .ref 11)]) (st2 := [.int ((xs 0) &&& (63 : Int32))]) (h2 := zH0) (dc2 := 117) (ds2 := 29934) 2 rfl ?_
  refine zT_val h0 ?_
  refine zT_gos (f := 200000) (pc2 := 1104) (ls2 := [(4, .int 0), (3, .ref 232), (2, .ref 162), (1, .ref 0), (0, .ref 11)]) (st2 := [.int (xs 1), .ref 0]) (h2 := zH0) (dc2 := 117) (ds2 := 29934) 7 rfl ?_
  refine zT_val h1 ?_
  refine zT_gos (f := 200000) (pc2 := 1118) (ls2 := [(4, .int 0), (3, .ref 232), (2, .ref 162), (1, .ref 0), (0, .ref 11)]) (st2 := [.int (xs 2), .int 0, .ref 0]) (h2 := zH0) (dc2 := 117) (ds2 := 29934) 7 rfl ?_
  refine zT_val h2 ?_
  refine zT_gos (f := 200000) (pc2 := 1124) (ls2 := [(4, .int 0), (3, .ref 232), (2, .ref 162), (1, .ref 0), (0, .ref 11)]) (st2 := [.int (xs 3), .int (-2), .int 0, .ref 0]) (h2 := zH0) (dc2 := 117) (ds2 := 29934) 5 rfl ?_
  refine zT_val h3 ?_
  refine zT_call rfl rfl (zT_le (zg0_le 6 xs) zk_o_151) ?_
  refine zT_here (pc2 := 1127) rfl ?_
  refine zT_gos (f := 200000) (pc2 := 1134) (ls2 := [(4, .int 0), (3, .ref 232), (2, .ref 162), (1, .ref 0), (0, .ref 11)]) (st2 := [.int (xs 1), .ref 162, .int 0]) (h2 := (((zH0.set 37 (.inr (.inr (.inr (3, [.ref 44, .ref 6, .ref 76, .ref 78, .ref 80, .ref 88, .int 1, .int 0, .ref 96, .int 0, .int 0, .int 0, .ref 98, .ref 100, .int 0]))))).set 40 (.inr (.inr (.inr (6, [.int 1, .long 70644700037184, .int 0, .ref 82, .ref 84, .ref 86]))))).set 43 (.inr (.inl (16, [70644700037184]))))) (dc2 := 117) (ds2 := 29934) 6 rfl ?_
  refine zT_val h1 ?_
  refine zT_gos (f := 200000) (pc2 := 1148) (ls2 := [(4, .int 0), (3, .ref 232), (2, .ref 162), (1, .ref 0), (0, .ref 11)]) (st2 := [.int (xs 2), .int 0, .ref 162, .int 0]) (h2 := (((zH0.set 37 (.inr (.inr (.inr (3, [.ref 44, .ref 6, .ref 76, .ref 78, .ref 80, .ref 88, .int 1, .int 0, .ref 96, .int 0, .int 0, .int 0, .ref 98, .ref 100, .int 0]))))).set 40 (.inr (.inr (.inr (6, [.int 1, .long 70644700037184, .int 0, .ref 82, .ref 84, .ref 86]))))).set 43 (.inr (.inl (16, [70644700037184]))))) (dc2 := 117) (ds2 := 29934) 7 rfl ?_
  refine zT_val h2 ?_
  refine zT_gos (f := 200000) (pc2 := 1154) (ls2 := [(4, .int 0), (3, .ref 232), (2, .ref 162), (1, .ref 0), (0, .ref 11)]) (st2 := [.int (xs 3), .int (-2), .int 0, .ref 162, .int 0]) (h2 := (((zH0.set 37 (.inr (.inr (.inr (3, [.ref 44, .ref 6, .ref 76, .ref 78, .ref 80, .ref 88, .int 1, .int 0, .ref 96, .int 0, .int 0, .int 0, .ref 98, .ref 100, .int 0]))))).set 40 (.inr (.inr (.inr (6, [.int 1, .long 70644700037184, .int 0, .ref 82, .ref 84, .ref 86]))))).set 43 (.inr (.inl (16, [70644700037184]))))) (dc2 := 117) (ds2 := 29934) 5 rfl ?_
  refine zT_val h3 ?_
  refine zT_call rfl rfl (zT_le (zg0_le 6 xs) zk_o_152) ?_
  refine zT_here (pc2 := 1157) rfl ?_
  refine zT_gos (f := 200000) (pc2 := 1811) (ls2 := [(4, .int 6), (3, .ref 232), (2, .ref 162), (1, .ref 0), (0, .ref 11)]) (st2 := [.int 1]) (h2 := (((((((zH0.set 37 (.inr (.inr (.inr (3, [.ref 44, .ref 6, .ref 76, .ref 78, .ref 80, .ref 88, .int 1, .int 0, .ref 96, .int 0, .int 0, .int 0, .ref 98, .ref 100, .int 0]))))).set 40 (.inr (.inr (.inr (6, [.int 1, .long 70644700037184, .int 0, .ref 82, .ref 84, .ref 86]))))).set 43 (.inr (.inl (16, [70644700037184])))).set 106 (.inl (2, 2, [1, 0]))).set 105 (.inl (0, 2, [0]))).set 107 (.inl (0, 132, [0, 0, 0, 0, 0, 0]))).set 109 (.inl (0, 22, [0])))) (dc2 := 117) (ds2 := 29934) 10 rfl ?_
  exact zT_ret rfl rfl
set_option maxRecDepth 1000000 in
theorem zk_o_153 : zT zg0 zF zP 125 0 [(0, .ref 0), (1, .int 0), (2, .int (-1)), (3, .int 1)] [] zH0 0 0 (some (.int 0), (((zH0.set 37 (.inr (.inr (.inr (3, [.ref 44, .ref 6, .ref 76, .ref 78, .ref 80, .ref 88, .int 1, .int 0, .ref 96, .int 0, .int 0, .int 0, .ref 98, .ref 100, .int 0]))))).set 40 (.inr (.inr (.inr (6, [.int 1, .long 70644700037184, .int 0, .ref 82, .ref 84, .ref 86]))))).set 43 (.inr (.inl (16, [70644700037184])))), 0, 0) := zclosed (n := 344) (by decide +kernel)
set_option maxRecDepth 1000000 in
theorem zk_o_154 : zT zg0 zF zP 256 0 [(0, .ref 162), (1, .int 0), (2, .int (-1)), (3, .int 1)] [] (((zH0.set 37 (.inr (.inr (.inr (3, [.ref 44, .ref 6, .ref 76, .ref 78, .ref 80, .ref 88, .int 1, .int 0, .ref 96, .int 0, .int 0, .int 0, .ref 98, .ref 100, .int 0]))))).set 40 (.inr (.inr (.inr (6, [.int 1, .long 70644700037184, .int 0, .ref 82, .ref 84, .ref 86]))))).set 43 (.inr (.inl (16, [70644700037184])))) 0 0 (some (.int 0), (((((((zH0.set 37 (.inr (.inr (.inr (3, [.ref 44, .ref 6, .ref 76, .ref 78, .ref 80, .ref 88, .int 1, .int 0, .ref 96, .int 0, .int 0, .int 0, .ref 98, .ref 100, .int 0]))))).set 40 (.inr (.inr (.inr (6, [.int 1, .long 70644700037184, .int 0, .ref 82, .ref 84, .ref 86]))))).set 43 (.inr (.inl (16, [70644700037184])))).set 106 (.inl (2, 2, [1, 0]))).set 105 (.inl (0, 2, [0]))).set 107 (.inl (0, 132, [0, 0, 0, 0, 0, 0]))).set 109 (.inl (0, 22, [0]))), 0, 0) := zclosed (n := 401) (by decide +kernel)
set_option maxRecDepth 1000000 in
set_option maxHeartbeats 4000000 in
theorem zo_24_22 (xs : Nat → Int32) (h0 : xs 0 &&& 63 = 24) (h1 : xs 1 = 0) (h3 : xs 3 = 1) (h2 : xs 2 = (-1)) : zDone xs := by
  refine ⟨(((((((zH0.set 37 (.inr (.inr (.inr (3, [.ref 44, .ref 6, .ref 76, .ref 78, .ref 80, .ref 88, .int 1, .int 0, .ref 96, .int 0, .int 0, .int 0, .ref 98, .ref 100, .int 0]))))).set 40 (.inr (.inr (.inr (6, [.int 1, .long 70644700037184, .int 0, .ref 82, .ref 84, .ref 86]))))).set 43 (.inr (.inl (16, [70644700037184])))).set 106 (.inl (2, 2, [1, 0]))).set 105 (.inl (0, 2, [0]))).set 107 (.inl (0, 132, [0, 0, 0, 0, 0, 0]))).set 109 (.inl (0, 22, [0]))), 117, 29934, ?_, by decide, by decide⟩
  refine zT_gos (f := 200000) (pc2 := 37) (ls2 := [(4, .int 0), (3, .ref 232), (2, .ref 162), (1, .ref 0), (0, .ref 11)]) (st2 := [.int (xs 0)]) (h2 := zH0) (dc2 := 117) (ds2 := 29934) 9 rfl ?_
  refine zT_gos (f := 200000) (pc2 := 40) (ls2 := [(4, .int 0), (3, .ref 232), (2, .ref 162), (1, .ref 0), (0, .ref 11)]) (st2 := [.int ((xs 0) &&& (63 : Int32))]) (h2 := zH0) (dc2 := 117) (ds2 := 29934) 2 rfl ?_
  refine zT_val h0 ?_
  refine zT_gos (f := 200000) (pc2 := 1104) (ls2 := [(4, .int 0), (3, .ref 232), (2, .ref 162), (1, .ref 0), (0, .ref 11)]) (st2 := [.int (xs 1), .ref 0]) (h2 := zH0) (dc2 := 117) (ds2 := 29934) 7 rfl ?_
  refine zT_val h1 ?_
  refine zT_gos (f := 200000) (pc2 := 1118) (ls2 := [(4, .int 0), (3, .ref 232), (2, .ref 162), (1, .ref 0), (0, .ref 11)]) (st2 := [.int (xs 2), .int 0, .ref 0]) (h2 := zH0) (dc2 := 117) (ds2 := 29934) 7 rfl ?_
  refine zT_val h2 ?_
  refine zT_gos (f := 200000) (pc2 := 1124) (ls2 := [(4, .int 0), (3, .ref 232), (2, .ref 162), (1, .ref 0), (0, .ref 11)]) (st2 := [.int (xs 3), .int (-1), .int 0, .ref 0]) (h2 := zH0) (dc2 := 117) (ds2 := 29934) 5 rfl ?_
  refine zT_val h3 ?_
  refine zT_call rfl rfl (zT_le (zg0_le 6 xs) zk_o_153) ?_
  refine zT_here (pc2 := 1127) rfl ?_
  refine zT_gos (f := 200000) (pc2 := 1134) (ls2 := [(4, .int 0), (3, .ref 232), (2, .ref 162), (1, .ref 0), (0, .ref 11)]) (st2 := [.int (xs 1), .ref 162, .int 0]) (h2 := (((zH0.set 37 (.inr (.inr (.inr (3, [.ref 44, .ref 6, .ref 76, .ref 78, .ref 80, .ref 88, .int 1, .int 0, .ref 96, .int 0, .int 0, .int 0, .ref 98, .ref 100, .int 0]))))).set 40 (.inr (.inr (.inr (6, [.int 1, .long 70644700037184, .int 0, .ref 82, .ref 84, .ref 86]))))).set 43 (.inr (.inl (16, [70644700037184]))))) (dc2 := 117) (ds2 := 29934) 6 rfl ?_
  refine zT_val h1 ?_
  refine zT_gos (f := 200000) (pc2 := 1148) (ls2 := [(4, .int 0), (3, .ref 232), (2, .ref 162), (1, .ref 0), (0, .ref 11)]) (st2 := [.int (xs 2), .int 0, .ref 162, .int 0]) (h2 := (((zH0.set 37 (.inr (.inr (.inr (3, [.ref 44, .ref 6, .ref 76, .ref 78, .ref 80, .ref 88, .int 1, .int 0, .ref 96, .int 0, .int 0, .int 0, .ref 98, .ref 100, .int 0]))))).set 40 (.inr (.inr (.inr (6, [.int 1, .long 70644700037184, .int 0, .ref 82, .ref 84, .ref 86]))))).set 43 (.inr (.inl (16, [70644700037184]))))) (dc2 := 117) (ds2 := 29934) 7 rfl ?_
  refine zT_val h2 ?_
  refine zT_gos (f := 200000) (pc2 := 1154) (ls2 := [(4, .int 0), (3, .ref 232), (2, .ref 162), (1, .ref 0), (0, .ref 11)]) (st2 := [.int (xs 3), .int (-1), .int 0, .ref 162, .int 0]) (h2 := (((zH0.set 37 (.inr (.inr (.inr (3, [.ref 44, .ref 6, .ref 76, .ref 78, .ref 80, .ref 88, .int 1, .int 0, .ref 96, .int 0, .int 0, .int 0, .ref 98, .ref 100, .int 0]))))).set 40 (.inr (.inr (.inr (6, [.int 1, .long 70644700037184, .int 0, .ref 82, .ref 84, .ref 86]))))).set 43 (.inr (.inl (16, [70644700037184]))))) (dc2 := 117) (ds2 := 29934) 5 rfl ?_
  refine zT_val h3 ?_
  refine zT_call rfl rfl (zT_le (zg0_le 6 xs) zk_o_154) ?_
  refine zT_here (pc2 := 1157) rfl ?_
  refine zT_gos (f := 200000) (pc2 := 1811) (ls2 := [(4, .int 6), (3, .ref 232), (2, .ref 162), (1, .ref 0), (0, .ref 11)]) (st2 := [.int 1]) (h2 := (((((((zH0.set 37 (.inr (.inr (.inr (3, [.ref 44, .ref 6, .ref 76, .ref 78, .ref 80, .ref 88, .int 1, .int 0, .ref 96, .int 0, .int 0, .int 0, .ref 98, .ref 100, .int 0]))))).set 40 (.inr (.inr (.inr (6, [.int 1, .long 70644700037184, .int 0, .ref 82, .ref 84, .ref 86]))))).set 43 (.inr (.inl (16, [70644700037184])))).set 106 (.inl (2, 2, [1, 0]))).set 105 (.inl (0, 2, [0]))).set 107 (.inl (0, 132, [0, 0, 0, 0, 0, 0]))).set 109 (.inl (0, 22, [0])))) (dc2 := 117) (ds2 := 29934) 10 rfl ?_
  exact zT_ret rfl rfl
set_option maxRecDepth 1000000 in
theorem zk_o_155 : zT zg0 zF zP 125 0 [(0, .ref 0), (1, .int 0), (2, .int 0), (3, .int 1)] [] zH0 0 0 (some (.int 0), (((zH0.set 37 (.inr (.inr (.inr (3, [.ref 44, .ref 6, .ref 76, .ref 78, .ref 80, .ref 88, .int 1, .int 0, .ref 96, .int 0, .int 0, .int 0, .ref 98, .ref 100, .int 0]))))).set 40 (.inr (.inr (.inr (6, [.int 1, .long 70644700037184, .int 0, .ref 82, .ref 84, .ref 86]))))).set 43 (.inr (.inl (16, [70644700037184])))), 0, 0) := zclosed (n := 349) (by decide +kernel)
set_option maxRecDepth 1000000 in
theorem zk_o_156 : zT zg0 zF zP 256 0 [(0, .ref 162), (1, .int 0), (2, .int 0), (3, .int 1)] [] (((zH0.set 37 (.inr (.inr (.inr (3, [.ref 44, .ref 6, .ref 76, .ref 78, .ref 80, .ref 88, .int 1, .int 0, .ref 96, .int 0, .int 0, .int 0, .ref 98, .ref 100, .int 0]))))).set 40 (.inr (.inr (.inr (6, [.int 1, .long 70644700037184, .int 0, .ref 82, .ref 84, .ref 86]))))).set 43 (.inr (.inl (16, [70644700037184])))) 0 0 (some (.int 0), (((((((zH0.set 37 (.inr (.inr (.inr (3, [.ref 44, .ref 6, .ref 76, .ref 78, .ref 80, .ref 88, .int 1, .int 0, .ref 96, .int 0, .int 0, .int 0, .ref 98, .ref 100, .int 0]))))).set 40 (.inr (.inr (.inr (6, [.int 1, .long 70644700037184, .int 0, .ref 82, .ref 84, .ref 86]))))).set 43 (.inr (.inl (16, [70644700037184])))).set 106 (.inl (2, 2, [1, 0]))).set 105 (.inl (0, 2, [0]))).set 107 (.inl (0, 132, [0, 0, 0, 0, 0, 0]))).set 109 (.inl (0, 22, [0]))), 0, 0) := zclosed (n := 425) (by decide +kernel)
set_option maxRecDepth 1000000 in
set_option maxHeartbeats 4000000 in
theorem zo_24_23 (xs : Nat → Int32) (h0 : xs 0 &&& 63 = 24) (h1 : xs 1 = 0) (h3 : xs 3 = 1) (h2 : xs 2 = 0) : zDone xs := by
  refine ⟨(((((((zH0.set 37 (.inr (.inr (.inr (3, [.ref 44, .ref 6, .ref 76, .ref 78, .ref 80, .ref 88, .int 1, .int 0, .ref 96, .int 0, .int 0, .int 0, .ref 98, .ref 100, .int 0]))))).set 40 (.inr (.inr (.inr (6, [.int 1, .long 70644700037184, .int 0, .ref 82, .ref 84, .ref 86]))))).set 43 (.inr (.inl (16, [70644700037184])))).set 106 (.inl (2, 2, [1, 0]))).set 105 (.inl (0, 2, [0]))).set 107 (.inl (0, 132, [0, 0, 0, 0, 0, 0]))).set 109 (.inl (0, 22, [0]))), 117, 29934, ?_, by decide, by decide⟩
  refine zT_gos (f := 200000) (pc2 := 37) (ls2 := [(4, .int 0), (3, .ref 232), (2, .ref 162), (1, .ref 0), (0, .ref 11)]) (st2 := [.int (xs 0)]) (h2 := zH0) (dc2 := 117) (ds2 := 29934) 9 rfl ?_
  refine zT_gos (f := 200000) (pc2 := 40) (ls2 := [(4, .int 0), (3, .ref 232), (2, .ref 162), (1, .ref 0), (0, .ref 11)]) (st2 := [.int ((xs 0) &&& (63 : Int32))]) (h2 := zH0) (dc2 := 117) (ds2 := 29934) 2 rfl ?_
  refine zT_val h0 ?_
  refine zT_gos (f := 200000) (pc2 := 1104) (ls2 := [(4, .int 0), (3, .ref 232), (2, .ref 162), (1, .ref 0), (0, .ref 11)]) (st2 := [.int (xs 1), .ref 0]) (h2 := zH0) (dc2 := 117) (ds2 := 29934) 7 rfl ?_
  refine zT_val h1 ?_
  refine zT_gos (f := 200000) (pc2 := 1118) (ls2 := [(4, .int 0), (3, .ref 232), (2, .ref 162), (1, .ref 0), (0, .ref 11)]) (st2 := [.int (xs 2), .int 0, .ref 0]) (h2 := zH0) (dc2 := 117) (ds2 := 29934) 7 rfl ?_
  refine zT_val h2 ?_
  refine zT_gos (f := 200000) (pc2 := 1124) (ls2 := [(4, .int 0), (3, .ref 232), (2, .ref 162), (1, .ref 0), (0, .ref 11)]) (st2 := [.int (xs 3), .int 0, .int 0, .ref 0]) (h2 := zH0) (dc2 := 117) (ds2 := 29934) 5 rfl ?_
  refine zT_val h3 ?_
  refine zT_call rfl rfl (zT_le (zg0_le 6 xs) zk_o_155) ?_
  refine zT_here (pc2 := 1127) rfl ?_
  refine zT_gos (f := 200000) (pc2 := 1134) (ls2 := [(4, .int 0), (3, .ref 232), (2, .ref 162), (1, .ref 0), (0, .ref 11)]) (st2 := [.int (xs 1), .ref 162, .int 0]) (h2 := (((zH0.set 37 (.inr (.inr (.inr (3, [.ref 44, .ref 6, .ref 76, .ref 78, .ref 80, .ref 88, .int 1, .int 0, .ref 96, .int 0, .int 0, .int 0, .ref 98, .ref 100, .int 0]))))).set 40 (.inr (.inr (.inr (6, [.int 1, .long 70644700037184, .int 0, .ref 82, .ref 84, .ref 86]))))).set 43 (.inr (.inl (16, [70644700037184]))))) (dc2 := 117) (ds2 := 29934) 6 rfl ?_
  refine zT_val h1 ?_
  refine zT_gos (f := 200000) (pc2 := 1148) (ls2 := [(4, .int 0), (3, .ref 232), (2, .ref 162), (1, .ref 0), (0, .ref 11)]) (st2 := [.int (xs 2), .int 0, .ref 162, .int 0]) (h2 := (((zH0.set 37 (.inr (.inr (.inr (3, [.ref 44, .ref 6, .ref 76, .ref 78, .ref 80, .ref 88, .int 1, .int 0, .ref 96, .int 0, .int 0, .int 0, .ref 98, .ref 100, .int 0]))))).set 40 (.inr (.inr (.inr (6, [.int 1, .long 70644700037184, .int 0, .ref 82, .ref 84, .ref 86]))))).set 43 (.inr (.inl (16, [70644700037184]))))) (dc2 := 117) (ds2 := 29934) 7 rfl ?_
  refine zT_val h2 ?_
  refine zT_gos (f := 200000) (pc2 := 1154) (ls2 := [(4, .int 0), (3, .ref 232), (2, .ref 162), (1, .ref 0), (0, .ref 11)]) (st2 := [.int (xs 3), .int 0, .int 0, .ref 162, .int 0]) (h2 := (((zH0.set 37 (.inr (.inr (.inr (3, [.ref 44, .ref 6, .ref 76, .ref 78, .ref 80, .ref 88, .int 1, .int 0, .ref 96, .int 0, .int 0, .int 0, .ref 98, .ref 100, .int 0]))))).set 40 (.inr (.inr (.inr (6, [.int 1, .long 70644700037184, .int 0, .ref 82, .ref 84, .ref 86]))))).set 43 (.inr (.inl (16, [70644700037184]))))) (dc2 := 117) (ds2 := 29934) 5 rfl ?_
  refine zT_val h3 ?_
  refine zT_call rfl rfl (zT_le (zg0_le 6 xs) zk_o_156) ?_
  refine zT_here (pc2 := 1157) rfl ?_
  refine zT_gos (f := 200000) (pc2 := 1811) (ls2 := [(4, .int 6), (3, .ref 232), (2, .ref 162), (1, .ref 0), (0, .ref 11)]) (st2 := [.int 1]) (h2 := (((((((zH0.set 37 (.inr (.inr (.inr (3, [.ref 44, .ref 6, .ref 76, .ref 78, .ref 80, .ref 88, .int 1, .int 0, .ref 96, .int 0, .int 0, .int 0, .ref 98, .ref 100, .int 0]))))).set 40 (.inr (.inr (.inr (6, [.int 1, .long 70644700037184, .int 0, .ref 82, .ref 84, .ref 86]))))).set 43 (.inr (.inl (16, [70644700037184])))).set 106 (.inl (2, 2, [1, 0]))).set 105 (.inl (0, 2, [0]))).set 107 (.inl (0, 132, [0, 0, 0, 0, 0, 0]))).set 109 (.inl (0, 22, [0])))) (dc2 := 117) (ds2 := 29934) 10 rfl ?_
  exact zT_ret rfl rfl
set_option maxRecDepth 1000000 in
theorem zk_o_157 : zT zg0 zF zP 125 0 [(0, .ref 0), (1, .int 0), (2, .int 1), (3, .int 1)] [] zH0 0 0 (some (.int 0), (((zH0.set 37 (.inr (.inr (.inr (3, [.ref 44, .ref 6, .ref 76, .ref 78, .ref 80, .ref 88, .int 1, .int 0, .ref 96, .int 0, .int 0, .int 0, .ref 98, .ref 100, .int 0]))))).set 40 (.inr (.inr (.inr (6, [.int 1, .long 70644700037184, .int 0, .ref 82, .ref 84, .ref 86]))))).set 43 (.inr (.inl (16, [70644700037184])))), 0, 0) := zclosed (n := 354) (by decide +kernel)
set_option maxRecDepth 1000000 in
theorem zk_o_158 : zT zg0 zF zP 256 0 [(0, .ref 162), (1, .int 0), (2, .int 1), (3, .int 1)] [] (((zH0.set 37 (.inr (.inr (.inr (3, [.ref 44, .ref 6, .ref 76, .ref 78, .ref 80, .ref 88, .int 1, .int 0, .ref 96, .int 0, .int 0, .int 0, .ref 98, .ref 100, .int 0]))))).set 40 (.inr (.inr (.inr (6, [.int 1, .long 70644700037184, .int 0, .ref 82, .ref 84, .ref 86]))))).set 43 (.inr (.inl (16, [70644700037184])))) 0 0 (some (.int 0), (((((((zH0.set 37 (.inr (.inr (.inr (3, [.ref 44, .ref 6, .ref 76, .ref 78, .ref 80, .ref 88, .int 1, .int 0, .ref 96, .int 0, .int 0, .int 0, .ref 98, .ref 100, .int 0]))))).set 40 (.inr (.inr (.inr (6, [.int 1, .long 70644700037184, .int 0, .ref 82, .ref 84, .ref 86]))))).set 43 (.inr (.inl (16, [70644700037184])))).set 106 (.inl (2, 2, [1, 0]))).set 105 (.inl (0, 2, [0]))).set 107 (.inl (0, 132, [0, 0, 0, 0, 0, 0]))).set 109 (.inl (0, 22, [0]))), 0, 0) := zclosed (n := 449) (by decide +kernel)
set_option maxRecDepth 1000000 in
set_option maxHeartbeats 4000000 in
theorem zo_24_24 (xs : Nat → Int32) (h0 : xs 0 &&& 63 = 24) (h1 : xs 1 = 0) (h3 : xs 3 = 1) (h2 : xs 2 = 1) : zDone xs := by
  refine ⟨(((((((zH0.set 37 (.inr (.inr (.inr (3, [.ref 44, .ref 6, .ref 76, .ref 78, .ref 80, .ref 88, .int 1, .int 0, .ref 96, .int 0, .int 0, .int 0, .ref 98, .ref 100, .int 0]))))).set 40 (.inr (.inr (.inr (6, [.int 1, .long 70644700037184, .int 0, .ref 82, .ref 84, .ref 86]))))).set 43 (.inr (.inl (16, [70644700037184])))).set 106 (.inl (2, 2, [1, 0]))).set 105 (.inl (0, 2, [0]))).set 107 (.inl (0, 132, [0, 0, 0, 0, 0, 0]))).set 109 (.inl (0, 22, [0]))), 117, 29934, ?_, by decide, by decide⟩
  refine zT_gos (f := 200000) (pc2 := 37) (ls2 := [(4, .int 0), (3, .ref 232), (2, .ref 162), (1, .ref 0), (0, .ref 11)]) (st2 := [.int (xs 0)]) (h2 := zH0) (dc2 := 117) (ds2 := 29934) 9 rfl ?_
  refine zT_gos (f := 200000) (pc2 := 40) (ls2 := [(4, .int 0), (3, .ref 232), (2, .ref 162), (1, .ref 0), (0, .ref 11)]) (st2 := [.int ((xs 0) &&& (63 : Int32))]) (h2 := zH0) (dc2 := 117) (ds2 := 29934) 2 rfl ?_
  refine zT_val h0 ?_
  refine zT_gos (f := 200000) (pc2 := 1104) (ls2 := [(4, .int 0), (3, .ref 232), (2, .ref 162), (1, .ref 0), (0, .ref 11)]) (st2 := [.int (xs 1), .ref 0]) (h2 := zH0) (dc2 := 117) (ds2 := 29934) 7 rfl ?_
  refine zT_val h1 ?_
  refine zT_gos (f := 200000) (pc2 := 1118) (ls2 := [(4, .int 0), (3, .ref 232), (2, .ref 162), (1, .ref 0), (0, .ref 11)]) (st2 := [.int (xs 2), .int 0, .ref 0]) (h2 := zH0) (dc2 := 117) (ds2 := 29934) 7 rfl ?_
  refine zT_val h2 ?_
  refine zT_gos (f := 200000) (pc2 := 1124) (ls2 := [(4, .int 0), (3, .ref 232), (2, .ref 162), (1, .ref 0), (0, .ref 11)]) (st2 := [.int (xs 3), .int 1, .int 0, .ref 0]) (h2 := zH0) (dc2 := 117) (ds2 := 29934) 5 rfl ?_
  refine zT_val h3 ?_
  refine zT_call rfl rfl (zT_le (zg0_le 6 xs) zk_o_157) ?_
  refine zT_here (pc2 := 1127) rfl ?_
  refine zT_gos (f := 200000) (pc2 := 1134) (ls2 := [(4, .int 0), (3, .ref 232), (2, .ref 162), (1, .ref 0), (0, .ref 11)]) (st2 := [.int (xs 1), .ref 162, .int 0]) (h2 := (((zH0.set 37 (.inr (.inr (.inr (3, [.ref 44, .ref 6, .ref 76, .ref 78, .ref 80, .ref 88, .int 1, .int 0, .ref 96, .int 0, .int 0, .int 0, .ref 98, .ref 100, .int 0]))))).set 40 (.inr (.inr (.inr (6, [.int 1, .long 70644700037184, .int 0, .ref 82, .ref 84, .ref 86]))))).set 43 (.inr (.inl (16, [70644700037184]))))) (dc2 := 117) (ds2 := 29934) 6 rfl ?_
  refine zT_val h1 ?_
  refine zT_gos (f := 200000) (pc2 := 1148) (ls2 := [(4, .int 0), (3, .ref 232), (2, .ref 162), (1, .ref 0), (0, .ref 11)]) (st2 := [.int (xs 2), .int 0, .ref 162, .int 0]) (h2 := (((zH0.set 37 (.inr (.inr (.inr (3, [.ref 44, .ref 6, .ref 76, .ref 78, .ref 80, .ref 88, .int 1, .int 0, .ref 96, .int 0, .int 0, .int 0, .ref 98, .ref 100, .int 0]))))).set 40 (.inr (.inr (.inr (6, [.int 1, .long 70644700037184, .int 0, .ref 82, .ref 84, .ref 86]))))).set 43 (.inr (.inl (16, [70644700037184]))))) (dc2 := 117) (ds2 := 29934) 7 rfl ?_
  refine zT_val h2 ?_
  refine zT_gos (f := 200000) (pc2 := 1154) (ls2 := [(4, .int 0), (3, .ref 232), (2, .ref 162), (1, .ref 0), (0, .ref 11)]) (st2 := [.int (xs 3), .int 1, .int 0, .ref 162, .int 0]) (h2 := (((zH0.set 37 (.inr (.inr (.inr (3, [.ref 44, .ref 6, .ref 76, .ref 78, .ref 80, .ref 88, .int 1, .int 0, .ref 96, .int 0, .int 0, .int 0, .ref 98, .ref 100, .int 0]))))).set 40 (.inr (.inr (.inr (6, [.int 1, .long 70644700037184, .int 0, .ref 82, .ref 84, .ref 86]))))).set 43 (.inr (.inl (16, [70644700037184]))))) (dc2 := 117) (ds2 := 29934) 5 rfl ?_
  refine zT_val h3 ?_
  refine zT_call rfl rfl (zT_le (zg0_le 6 xs) zk_o_158) ?_
  refine zT_here (pc2 := 1157) rfl ?_
  refine zT_gos (f := 200000) (pc2 := 1811) (ls2 := [(4, .int 6), (3, .ref 232), (2, .ref 162), (1, .ref 0), (0, .ref 11)]) (st2 := [.int 1]) (h2 := (((((((zH0.set 37 (.inr (.inr (.inr (3, [.ref 44, .ref 6, .ref 76, .ref 78, .ref 80, .ref 88, .int 1, .int 0, .ref 96, .int 0, .int 0, .int 0, .ref 98, .ref 100, .int 0]))))).set 40 (.inr (.inr (.inr (6, [.int 1, .long 70644700037184, .int 0, .ref 82, .ref 84, .ref 86]))))).set 43 (.inr (.inl (16, [70644700037184])))).set 106 (.inl (2, 2, [1, 0]))).set 105 (.inl (0, 2, [0]))).set 107 (.inl (0, 132, [0, 0, 0, 0, 0, 0]))).set 109 (.inl (0, 22, [0])))) (dc2 := 117) (ds2 := 29934) 10 rfl ?_
  exact zT_ret rfl rfl
set_option maxRecDepth 1000000 in
theorem zk_o_159 : zT zg0 zF zP 125 0 [(0, .ref 0), (1, .int 0), (2, .int 2), (3, .int 1)] [] zH0 0 0 (some (.int 0), (((zH0.set 37 (.inr (.inr (.inr (3, [.ref 44, .ref 6, .ref 76, .ref 78, .ref 80, .ref 88, .int 1, .int 0, .ref 96, .int 0, .int 0, .int 0, .ref 98, .ref 100, .int 0]))))).set 40 (.inr (.inr (.inr (6, [.int 1, .long 70644700037184, .int 0, .ref 82, .ref 84, .ref 86]))))).set 43 (.inr (.inl (16, [70644700037184])))), 0, 0) := zclosed (n := 359) (by decide +kernel)
set_option maxRecDepth 1000000 in
theorem zk_o_160 : zT zg0 zF zP 256 0 [(0, .ref 162), (1, .int 0), (2, .int 2), (3, .int 1)] [] (((zH0.set 37 (.inr (.inr (.inr (3, [.ref 44, .ref 6, .ref 76, .ref 78, .ref 80, .ref 88, .int 1, .int 0, .ref 96, .int 0, .int 0, .int 0, .ref 98, .ref 100, .int 0]))))).set 40 (.inr (.inr (.inr (6, [.int 1, .long 70644700037184, .int 0, .ref 82, .ref 84, .ref 86]))))).set 43 (.inr (.inl (16, [70644700037184])))) 0 0 (some (.int 0), (((((((zH0.set 37 (.inr (.inr (.inr (3, [.ref 44, .ref 6, .ref 76, .ref 78, .ref 80, .ref 88, .int 1, .int 0, .ref 96, .int 0, .int 0, .int 0, .ref 98, .ref 100, .int 0]))))).set 40 (.inr (.inr (.inr (6, [.int 1, .long 70644700037184, .int 0, .ref 82, .ref 84, .ref 86]))))).set 43 (.inr (.inl (16, [70644700037184])))).set 106 (.inl (2, 2, [1, 0]))).set 105 (.inl (0, 2, [0]))).set 107 (.inl (0, 132, [0, 0, 0, 0, 0, 0]))).set 109 (.inl (0, 22, [0]))), 0, 0) := zclosed (n := 473) (by decide +kernel)
set_option maxRecDepth 1000000 in
set_option maxHeartbeats 4000000 in
theorem zo_24_25 (xs : Nat → Int32) (h0 : xs 0 &&& 63 = 24) (h1 : xs 1 = 0) (h3 : xs 3 = 1) (h2 : xs 2 = 2) : zDone xs := by
  refine ⟨(((((((zH0.set 37 (.inr (.inr (.inr (3, [.ref 44, .ref 6, .ref 76, .ref 78, .ref 80, .ref 88, .int 1, .int 0, .ref 96, .int 0, .int 0, .int 0, .ref 98, .ref 100, .int 0]))))).set 40 (.inr (.inr (.inr (6, [.int 1, .long 70644700037184, .int 0, .ref 82, .ref 84, .ref 86]))))).set 43 (.inr (.inl (16, [70644700037184])))).set 106 (.inl (2, 2, [1, 0]))).set 105 (.inl (0, 2, [0]))).set 107 (.inl (0, 132, [0, 0, 0, 0, 0, 0]))).set 109 (.inl (0, 22, [0]))), 117, 29934, ?_, by decide, by decide⟩
  refine zT_gos (f := 200000) (pc2 := 37) (ls2 := [(4, .int 0), (3, .ref 232), (2, .ref 162), (1, .ref 0), (0, .ref 11)]) (st2 := [.int (xs 0)]) (h2 := zH0) (dc2 := 117) (ds2 := 29934) 9 rfl ?_
  refine zT_gos (f := 200000) (pc2 := 40) (ls2 := [(4, .int 0), (3, .ref 232), (2, .ref 162), (1, .ref 0), (0, .ref 11)]) (st2 := [.int ((xs 0) &&& (63 : Int32))]) (h2 := zH0) (dc2 := 117) (ds2 := 29934) 2 rfl ?_
  refine zT_val h0 ?_
  refine zT_gos (f := 200000) (pc2 := 1104) (ls2 := [(4, .int 0), (3, .ref 232), (2, .ref 162), (1, .ref 0), (0, .ref 11)]) (st2 := [.int (xs 1), .ref 0]) (h2 := zH0) (dc2 := 117) (ds2 := 29934) 7 rfl ?_
  refine zT_val h1 ?_
  refine zT_gos (f := 200000) (pc2 := 1118) (ls2 := [(4, .int 0), (3, .ref 232), (2, .ref 162), (1, .ref 0), (0, .ref 11)]) (st2 := [.int (xs 2), .int 0, .ref 0]) (h2 := zH0) (dc2 := 117) (ds2 := 29934) 7 rfl ?_
  refine zT_val h2 ?_
  refine zT_gos (f := 200000) (pc2 := 1124) (ls2 := [(4, .int 0), (3, .ref 232), (2, .ref 162), (1, .ref 0), (0, .ref 11)]) (st2 := [.int (xs 3), .int 2, .int 0, .ref 0]) (h2 := zH0) (dc2 := 117) (ds2 := 29934) 5 rfl ?_
  refine zT_val h3 ?_
  refine zT_call rfl rfl (zT_le (zg0_le 6 xs) zk_o_159) ?_
  refine zT_here (pc2 := 1127) rfl ?_
  refine zT_gos (f := 200000) (pc2 := 1134) (ls2 := [(4, .int 0), (3, .ref 232), (2, .ref 162), (1, .ref 0), (0, .ref 11)]) (st2 := [.int (xs 1), .ref 162, .int 0]) (h2 := (((zH0.set 37 (.inr (.inr (.inr (3, [.ref 44, .ref 6, .ref 76, .ref 78, .ref 80, .ref 88, .int 1, .int 0, .ref 96, .int 0, .int 0, .int 0, .ref 98, .ref 100, .int 0]))))).set 40 (.inr (.inr (.inr (6, [.int 1, .long 70644700037184, .int 0, .ref 82, .ref 84, .ref 86]))))).set 43 (.inr (.inl (16, [70644700037184]))))) (dc2 := 117) (ds2 := 29934) 6 rfl ?_
  refine zT_val h1 ?_
  refine zT_gos (f := 200000) (pc2 := 1148) (ls2 := [(4, .int 0), (3, .ref 232), (2, .ref 162), (1, .ref 0), (0, .ref 11)]) (st2 := [.int (xs 2), .int 0, .ref 162, .int 0]) (h2 := (((zH0.set 37 (.inr (.inr (.inr (3, [.ref 44, .ref 6, .ref 76, .ref 78, .ref 80, .ref 88, .int 1, .int 0, .ref 96, .int 0, .int 0, .int 0, .ref 98, .ref 100, .int 0]))))).set 40 (.inr (.inr (.inr (6, [.int 1, .long 70644700037184, .int 0, .ref 82, .ref 84, .ref 86]))))).set 43 (.inr (.inl (16, [70644700037184]))))) (dc2 := 117) (ds2 := 29934) 7 rfl ?_
  refine zT_val h2 ?_
  refine zT_gos (f := 200000) (pc2 := 1154) (ls2 := [(4, .int 0), (3, .ref 232), (2, .ref 162), (1, .ref 0), (0, .ref 11)]) (st2 := [.int (xs 3), .int 2, .int 0, .ref 162, .int 0]) (h2 := (((zH0.set 37 (.inr (.inr (.inr (3, [.ref 44, .ref 6, .ref 76, .ref 78, .ref 80, .ref 88, .int 1, .int 0, .ref 96, .int 0, .int 0, .int 0, .ref 98, .ref 100, .int 0]))))).set 40 (.inr (.inr (.inr (6, [.int 1, .long 70644700037184, .int 0, .ref 82, .ref 84, .ref 86]))))).set 43 (.inr (.inl (16, [70644700037184]))))) (dc2 := 117) (ds2 := 29934) 5 rfl ?_
  refine zT_val h3 ?_
  refine zT_call rfl rfl (zT_le (zg0_le 6 xs) zk_o_160) ?_
  refine zT_here (pc2 := 1157) rfl ?_
  refine zT_gos (f := 200000) (pc2 := 1811) (ls2 := [(4, .int 6), (3, .ref 232), (2, .ref 162), (1, .ref 0), (0, .ref 11)]) (st2 := [.int 1]) (h2 := (((((((zH0.set 37 (.inr (.inr (.inr (3, [.ref 44, .ref 6, .ref 76, .ref 78, .ref 80, .ref 88, .int 1, .int 0, .ref 96, .int 0, .int 0, .int 0, .ref 98, .ref 100, .int 0]))))).set 40 (.inr (.inr (.inr (6, [.int 1, .long 70644700037184, .int 0, .ref 82, .ref 84, .ref 86]))))).set 43 (.inr (.inl (16, [70644700037184])))).set 106 (.inl (2, 2, [1, 0]))).set 105 (.inl (0, 2, [0]))).set 107 (.inl (0, 132, [0, 0, 0, 0, 0, 0]))).set 109 (.inl (0, 22, [0])))) (dc2 := 117) (ds2 := 29934) 10 rfl ?_
  exact zT_ret rfl rfl
set_option maxRecDepth 1000000 in
set_option maxHeartbeats 4000000 in
theorem zo_24_26 (xs : Nat → Int32) (h0 : xs 0 &&& 63 = 24) (h1 : xs 1 = 0) (h3 : xs 3 = 2) (h2 : (xs 2).toInt < -2) : zDone xs := by
  refine ⟨(((((((zH0.set 37 (.inr (.inr (.inr (3, [.ref 44, .ref 6, .ref 76, .ref 78, .ref 80, .ref 88, .int 1, .int 0, .ref 96, .int 0, .int 0, .int 0, .ref 98, .ref 100, .int 0]))))).set 40 (.inr (.inr (.inr (6, [.int 1, .long 70644700037184, .int 0, .ref 82, .ref 84, .ref 86]))))).set 43 (.inr (.inl (16, [70644700037184])))).set 106 (.inl (2, 2, [1, 0]))).set 105 (.inl (0, 2, [0]))).set 107 (.inl (0, 132, [0, 0, 0, 0, 0, 0]))).set 109 (.inl (0, 22, [0]))), 117, 29934, ?_, by decide, by decide⟩
  refine zT_gos (f := 200000) (pc2 := 37) (ls2 := [(4, .int 0), (3, .ref 232), (2, .ref 162), (1, .ref 0), (0, .ref 11)]) (st2 := [.int (xs 0)]) (h2 := zH0) (dc2 := 117) (ds2 := 29934) 9 rfl ?_
  refine zT_gos (f := 200000) (pc2 := 40) (ls2 := [(4, .int 0), (3, .ref 232), (2, .ref 162), (1, .ref 0), (0, .ref 11)]) (st2 := [.int ((xs 0) &&& (63 : Int32))]) (h2 := zH0) (dc2 := 117) (ds2 := 29934) 2 rfl ?_
  refine zT_val h0 ?_
  refine zT_gos (f := 200000) (pc2 := 1104) (ls2 := [(4, .int 0), (3, .ref 232), (2, .ref 162), (1, .ref 0), (0, .ref 11)]) (st2 := [.int (xs 1), .ref 0]) (h2 := zH0) (dc2 := 117) (ds2 := 29934) 7 rfl ?_
  refine zT_val h1 ?_
  refine zT_gos (f := 200000) (pc2 := 1118) (ls2 := [(4, .int 0), (3, .ref 232), (2, .ref 162), (1, .ref 0), (0, .ref 11)]) (st2 := [.int (xs 2), .int 0, .ref 0]) (h2 := zH0) (dc2 := 117) (ds2 := 29934) 7 rfl ?_
  refine zT_gos (f := 200000) (pc2 := 1124) (ls2 := [(4, .int 0), (3, .ref 232), (2, .ref 162), (1, .ref 0), (0, .ref 11)]) (st2 := [.int (xs 3), .int (xs 2), .int 0, .ref 0]) (h2 := zH0) (dc2 := 117) (ds2 := 29934) 5 rfl ?_
  refine zT_val h3 ?_
  refine zT_call (v := some (.int (-9999))) (h2 := (((zH0.set 37 (.inr (.inr (.inr (3, [.ref 44, .ref 6, .ref 76, .ref 78, .ref 80, .ref 88, .int 1, .int 0, .ref 96, .int 0, .int 0, .int 0, .ref 98, .ref 100, .int 0]))))).set 40 (.inr (.inr (.inr (6, [.int 1, .long 70644700037184, .int 0, .ref 82, .ref 84, .ref 86]))))).set 43 (.inr (.inl (16, [70644700037184]))))) (d1 := 0) (s1 := 0) rfl rfl ?_ ?_
  · refine zT_gos (f := 200000) (pc2 := 42) (ls2 := [(4, .ref 80), (0, .ref 0), (1, .int 0), (2, .int (xs 2)), (3, .int 2)]) (st2 := [.int (-2), .int (xs 2)]) (h2 := (((zH0.set 37 (.inr (.inr (.inr (3, [.ref 44, .ref 6, .ref 76, .ref 78, .ref 80, .ref 88, .int 1, .int 0, .ref 96, .int 0, .int 0, .int 0, .ref 98, .ref 100, .int 0]))))).set 40 (.inr (.inr (.inr (6, [.int 1, .long 70644700037184, .int 0, .ref 82, .ref 84, .ref 86]))))).set 43 (.inr (.inl (16, [70644700037184]))))) (dc2 := 0) (ds2 := 0) 18 rfl ?_
    refine zT_if2 true rfl (zc_lt_t (by show ((xs 2) : Int32).toInt < -2; omega)) ?_
    refine zT_here (pc2 := 62) rfl ?_
    refine zT_gos (f := 200000) (pc2 := 65) (ls2 := [(4, .ref 80), (0, .ref 0), (1, .int 0), (2, .int (xs 2)), (3, .int 2)]) (st2 := [.int (-9999)]) (h2 := (((zH0.set 37 (.inr (.inr (.inr (3, [.ref 44, .ref 6, .ref 76, .ref 78, .ref 80, .ref 88, .int 1, .int 0, .ref 96, .int 0, .int 0, .int 0, .ref 98, .ref 100, .int 0]))))).set 40 (.inr (.inr (.inr (6, [.int 1, .long 70644700037184, .int 0, .ref 82, .ref 84, .ref 86]))))).set 43 (.inr (.inl (16, [70644700037184]))))) (dc2 := 0) (ds2 := 0) 1 rfl ?_
    exact zT_ret rfl rfl
  refine zT_here (pc2 := 1127) rfl ?_
  refine zT_gos (f := 200000) (pc2 := 1134) (ls2 := [(4, .int 0), (3, .ref 232), (2, .ref 162), (1, .ref 0), (0, .ref 11)]) (st2 := [.int (xs 1), .ref 162, .int (-9999)]) (h2 := (((zH0.set 37 (.inr (.inr (.inr (3, [.ref 44, .ref 6, .ref 76, .ref 78, .ref 80, .ref 88, .int 1, .int 0, .ref 96, .int 0, .int 0, .int 0, .ref 98, .ref 100, .int 0]))))).set 40 (.inr (.inr (.inr (6, [.int 1, .long 70644700037184, .int 0, .ref 82, .ref 84, .ref 86]))))).set 43 (.inr (.inl (16, [70644700037184]))))) (dc2 := 117) (ds2 := 29934) 6 rfl ?_
  refine zT_val h1 ?_
  refine zT_gos (f := 200000) (pc2 := 1148) (ls2 := [(4, .int 0), (3, .ref 232), (2, .ref 162), (1, .ref 0), (0, .ref 11)]) (st2 := [.int (xs 2), .int 0, .ref 162, .int (-9999)]) (h2 := (((zH0.set 37 (.inr (.inr (.inr (3, [.ref 44, .ref 6, .ref 76, .ref 78, .ref 80, .ref 88, .int 1, .int 0, .ref 96, .int 0, .int 0, .int 0, .ref 98, .ref 100, .int 0]))))).set 40 (.inr (.inr (.inr (6, [.int 1, .long 70644700037184, .int 0, .ref 82, .ref 84, .ref 86]))))).set 43 (.inr (.inl (16, [70644700037184]))))) (dc2 := 117) (ds2 := 29934) 7 rfl ?_
  refine zT_gos (f := 200000) (pc2 := 1154) (ls2 := [(4, .int 0), (3, .ref 232), (2, .ref 162), (1, .ref 0), (0, .ref 11)]) (st2 := [.int (xs 3), .int (xs 2), .int 0, .ref 162, .int (-9999)]) (h2 := (((zH0.set 37 (.inr (.inr (.inr (3, [.ref 44, .ref 6, .ref 76, .ref 78, .ref 80, .ref 88, .int 1, .int 0, .ref 96, .int 0, .int 0, .int 0, .ref 98, .ref 100, .int 0]))))).set 40 (.inr (.inr (.inr (6, [.int 1, .long 70644700037184, .int 0, .ref 82, .ref 84, .ref 86]))))).set 43 (.inr (.inl (16, [70644700037184]))))) (dc2 := 117) (ds2 := 29934) 5 rfl ?_
  refine zT_val h3 ?_
  refine zT_call (v := some (.int (-9999))) (h2 := (((((((zH0.set 37 (.inr (.inr (.inr (3, [.ref 44, .ref 6, .ref 76, .ref 78, .ref 80, .ref 88, .int 1, .int 0, .ref 96, .int 0, .int 0, .int 0, .ref 98, .ref 100, .int 0]))))).set 40 (.inr (.inr (.inr (6, [.int 1, .long 70644700037184, .int 0, .ref 82, .ref 84, .ref 86]))))).set 43 (.inr (.inl (16, [70644700037184])))).set 106 (.inl (2, 2, [1, 0]))).set 105 (.inl (0, 2, [0]))).set 107 (.inl (0, 132, [0, 0, 0, 0, 0, 0]))).set 109 (.inl (0, 22, [0])))) (d1 := 0) (s1 := 0) rfl rfl ?_ ?_
  · refine zT_gos (f := 200000) (pc2 := 7) (ls2 := [(0, .ref 162), (1, .int 0), (2, .int (xs 2)), (3, .int 2)]) (st2 := [.int 0, .ref 162]) (h2 := (((zH0.set 37 (.inr (.inr (.inr (3, [.ref 44, .ref 6, .ref 76, .ref 78, .ref 80, .ref 88, .int 1, .int 0, .ref 96, .int 0, .int 0, .int 0, .ref 98, .ref 100, .int 0]))))).set 40 (.inr (.inr (.inr (6, [.int 1, .long 70644700037184, .int 0, .ref 82, .ref 84, .ref 86]))))).set 43 (.inr (.inl (16, [70644700037184]))))) (dc2 := 0) (ds2 := 0) 5 rfl ?_
    refine zT_call rfl rfl (zT_le (zg0_le 6 xs) zk_o_19) ?_
    refine zT_here (pc2 := 10) rfl ?_
    refine zT_gos (f := 200000) (pc2 := 29) (ls2 := [(5, .int 2), (4, .int 0), (0, .ref 162), (1, .int 0), (2, .int (xs 2)), (3, .int 2)]) (st2 := [.int (-2), .int (xs 2)]) (h2 := (((((((zH0.set 37 (.inr (.inr (.inr (3, [.ref 44, .ref 6, .ref 76, .ref 78, .ref 80, .ref 88, .int 1, .int 0, .ref 96, .int 0, .int 0, .int 0, .ref 98, .ref 100, .int 0]))))).set 40 (.inr (.inr (.inr (6, [.int 1, .long 70644700037184, .int 0, .ref 82, .ref 84, .ref 86]))))).set 43 (.inr (.inl (16, [70644700037184])))).set 106 (.inl (2, 2, [1, 0]))).set 105 (.inl (0, 2, [0]))).set 107 (.inl (0, 132, [0, 0, 0, 0, 0, 0]))).set 109 (.inl (0, 22, [0])))) (dc2 := 0) (ds2 := 0) 11 rfl ?_
    refine zT_if2 true rfl (zc_lt_t (by show ((xs 2) : Int32).toInt < -2; omega)) ?_
    refine zT_here (pc2 := 48) rfl ?_
    refine zT_gos (f := 200000) (pc2 := 71) (ls2 := [(5, .int 2), (4, .int 0), (0, .ref 162), (1, .int 0), (2, .int (xs 2)), (3, .int 2)]) (st2 := [.int (-9999)]) (h2 := (((((((zH0.set 37 (.inr (.inr (.inr (3, [.ref 44, .ref 6, .ref 76, .ref 78, .ref 80, .ref 88, .int 1, .int 0, .ref 96, .int 0, .int 0, .int 0, .ref 98, .ref 100, .int 0]))))).set 40 (.inr (.inr (.inr (6, [.int 1, .long 70644700037184, .int 0, .ref 82, .ref 84, .ref 86]))))).set 43 (.inr (.inl (16, [70644700037184])))).set 106 (.inl (2, 2, [1, 0]))).set 105 (.inl (0, 2, [0]))).set 107 (.inl (0, 132, [0, 0, 0, 0, 0, 0]))).set 109 (.inl (0, 22, [0])))) (dc2 := 0) (ds2 := 0) 2 rfl ?_
    exact zT_ret rfl rfl
  refine zT_here (pc2 := 1157) rfl ?_
  refine zT_gos (f := 200000) (pc2 := 1811) (ls2 := [(4, .int 6), (3, .ref 232), (2, .ref 162), (1, .ref 0), (0, .ref 11)]) (st2 := [.int 1]) (h2 := (((((((zH0.set 37 (.inr (.inr (.inr (3, [.ref 44, .ref 6, .ref 76, .ref 78, .ref 80, .ref 88, .int 1, .int 0, .ref 96, .int 0, .int 0, .int 0, .ref 98, .ref 100, .int 0]))))).set 40 (.inr (.inr (.inr (6, [.int 1, .long 70644700037184, .int 0, .ref 82, .ref 84, .ref 86]))))).set 43 (.inr (.inl (16, [70644700037184])))).set 106 (.inl (2, 2, [1, 0]))).set 105 (.inl (0, 2, [0]))).set 107 (.inl (0, 132, [0, 0, 0, 0, 0, 0]))).set 109 (.inl (0, 22, [0])))) (dc2 := 117) (ds2 := 29934) 10 rfl ?_
  exact zT_ret rfl rfl
set_option maxRecDepth 1000000 in
set_option maxHeartbeats 4000000 in
theorem zo_24_27 (xs : Nat → Int32) (h0 : xs 0 &&& 63 = 24) (h1 : xs 1 = 0) (h3 : xs 3 = 2) (h2 : 2 < (xs 2).toInt) : zDone xs := by
  refine ⟨(((((((zH0.set 37 (.inr (.inr (.inr (3, [.ref 44, .ref 6, .ref 76, .ref 78, .ref 80, .ref 88, .int 1, .int 0, .ref 96, .int 0, .int 0, .int 0, .ref 98, .ref 100, .int 0]))))).set 40 (.inr (.inr (.inr (6, [.int 1, .long 70644700037184, .int 0, .ref 82, .ref 84, .ref 86]))))).set 43 (.inr (.inl (16, [70644700037184])))).set 106 (.inl (2, 2, [1, 0]))).set 105 (.inl (0, 2, [0]))).set 107 (.inl (0, 132, [0, 0, 0, 0, 0, 0]))).set 109 (.inl (0, 22, [0]))), 117, 29934, ?_, by decide, by decide⟩
  refine zT_gos (f := 200000) (pc2 := 37) (ls2 := [(4, .int 0), (3, .ref 232), (2, .ref 162), (1, .ref 0), (0, .ref 11)]) (st2 := [.int (xs 0)]) (h2 := zH0) (dc2 := 117) (ds2 := 29934) 9 rfl ?_
  refine zT_gos (f := 200000) (pc2 := 40) (ls2 := [(4, .int 0), (3, .ref 232), (2, .ref 162), (1, .ref 0), (0, .ref 11)]) (st2 := [.int ((xs 0) &&& (63 : Int32))]) (h2 := zH0) (dc2 := 117) (ds2 := 29934) 2 rfl ?_
  refine zT_val h0 ?_
  refine zT_gos (f := 200000) (pc2 := 1104) (ls2 := [(4, .int 0), (3, .ref 232), (2, .ref 162), (1, .ref 0), (0, .ref 11)]) (st2 := [.int (xs 1), .ref 0]) (h2 := zH0) (dc2 := 117) (ds2 := 29934) 7 rfl ?_
  refine zT_val h1 ?_
  refine zT_gos (f := 200000) (pc2 := 1118) (ls2 := [(4, .int 0), (3, .ref 232), (2, .ref 162), (1, .ref 0), (0, .ref 11)]) (st2 := [.int (xs 2), .int 0, .ref 0]) (h2 := zH0) (dc2 := 117) (ds2 := 29934) 7 rfl ?_
  refine zT_gos (f := 200000) (pc2 := 1124) (ls2 := [(4, .int 0), (3, .ref 232), (2, .ref 162), (1, .ref 0), (0, .ref 11)]) (st2 := [.int (xs 3), .int (xs 2), .int 0, .ref 0]) (h2 := zH0) (dc2 := 117) (ds2 := 29934) 5 rfl ?_
  refine zT_val h3 ?_
  refine zT_call (v := some (.int (-9999))) (h2 := (((zH0.set 37 (.inr (.inr (.inr (3, [.ref 44, .ref 6, .ref 76, .ref 78, .ref 80, .ref 88, .int 1, .int 0, .ref 96, .int 0, .int 0, .int 0, .ref 98, .ref 100, .int 0]))))).set 40 (.inr (.inr (.inr (6, [.int 1, .long 70644700037184, .int 0, .ref 82, .ref 84, .ref 86]))))).set 43 (.inr (.inl (16, [70644700037184]))))) (d1 := 0) (s1 := 0) rfl rfl ?_ ?_
  · refine zT_gos (f := 200000) (pc2 := 42) (ls2 := [(4, .ref 80), (0, .ref 0), (1, .int 0), (2, .int (xs 2)), (3, .int 2)]) (st2 := [.int (-2), .int (xs 2)]) (h2 := (((zH0.set 37 (.inr (.inr (.inr (3, [.ref 44, .ref 6, .ref 76, .ref 78, .ref 80, .ref 88, .int 1, .int 0, .ref 96, .int 0, .int 0, .int 0, .ref 98, .ref 100, .int 0]))))).set 40 (.inr (.inr (.inr (6, [.int 1, .long 70644700037184, .int 0, .ref 82, .ref 84, .ref 86]))))).set 43 (.inr (.inl (16, [70644700037184]))))) (dc2 := 0) (ds2 := 0) 18 rfl ?_
    refine zT_if2 false rfl (zc_lt_f (by show ((xs 2) : Int32).toInt ≥ -2; omega)) ?_
    refine zT_here (pc2 := 45) rfl ?_
    refine zT_gos (f := 200000) (pc2 := 59) (ls2 := [(4, .ref 80), (0, .ref 0), (1, .int 0), (2, .int (xs 2)), (3, .int 2)]) (st2 := [.int 2, .int (xs 2)]) (h2 := (((zH0.set 37 (.inr (.inr (.inr (3, [.ref 44, .ref 6, .ref 76, .ref 78, .ref 80, .ref 88, .int 1, .int 0, .ref 96, .int 0, .int 0, .int 0, .ref 98, .ref 100, .int 0]))))).set 40 (.inr (.inr (.inr (6, [.int 1, .long 70644700037184, .int 0, .ref 82, .ref 84, .ref 86]))))).set 43 (.inr (.inl (16, [70644700037184]))))) (dc2 := 0) (ds2 := 0) 7 rfl ?_
    refine zT_if2 false rfl (zc_le_f (by show ((xs 2) : Int32).toInt > 2; omega)) ?_
    refine zT_here (pc2 := 62) rfl ?_
    refine zT_gos (f := 200000) (pc2 := 65) (ls2 := [(4, .ref 80), (0, .ref 0), (1, .int 0), (2, .int (xs 2)), (3, .int 2)]) (st2 := [.int (-9999)]) (h2 := (((zH0.set 37 (.inr (.inr (.inr (3, [.ref 44, .ref 6, .ref 76, .ref 78, .ref 80, .ref 88, .int 1, .int 0, .ref 96, .int 0, .int 0, .int 0, .ref 98, .ref 100, .int 0]))))).set 40 (.inr (.inr (.inr (6, [.int 1, .long 70644700037184, .int 0, .ref 82, .ref 84, .ref 86]))))).set 43 (.inr (.inl (16, [70644700037184]))))) (dc2 := 0) (ds2 := 0) 1 rfl ?_
    exact zT_ret rfl rfl
  refine zT_here (pc2 := 1127) rfl ?_
  refine zT_gos (f := 200000) (pc2 := 1134) (ls2 := [(4, .int 0), (3, .ref 232), (2, .ref 162), (1, .ref 0), (0, .ref 11)]) (st2 := [.int (xs 1), .ref 162, .int (-9999)]) (h2 := (((zH0.set 37 (.inr (.inr (.inr (3, [.ref 44, .ref 6, .ref 76, .ref 78, .ref 80, .ref 88, .int 1, .int 0, .ref 96, .int 0, .int 0, .int 0, .ref 98, .ref 100, .int 0]))))).set 40 (.inr (.inr (.inr (6, [.int 1, .long 70644700037184, .int 0, .ref 82, .ref 84, .ref 86]))))).set 43 (.inr (.inl (16, [70644700037184]))))) (dc2 := 117) (ds2 := 29934) 6 rfl ?_
  refine zT_val h1 ?_
  refine zT_gos (f := 200000) (pc2 := 1148) (ls2 := [(4, .int 0), (3, .ref 232), (2, .ref 162), (1, .ref 0), (0, .ref 11)]) (st2 := [.int (xs 2), .int 0, .ref 162, .int (-9999)]) (h2 := (((zH0.set 37 (.inr (.inr (.inr (3, [.ref 44, .ref 6, .ref 76, .ref 78, .ref 80, .ref 88, .int 1, .int 0, .ref 96, .int 0, .int 0, .int 0, .ref 98, .ref 100, .int 0]))))).set 40 (.inr (.inr (.inr (6, [.int 1, .long 70644700037184, .int 0, .ref 82, .ref 84, .ref 86]))))).set 43 (.inr (.inl (16, [70644700037184]))))) (dc2 := 117) (ds2 := 29934) 7 rfl ?_
  refine zT_gos (f := 200000) (pc2 := 1154) (ls2 := [(4, .int 0), (3, .ref 232), (2, .ref 162), (1, .ref 0), (0, .ref 11)]) (st2 := [.int (xs 3), .int (xs 2), .int 0, .ref 162, .int (-9999)]) (h2 := (((zH0.set 37 (.inr (.inr (.inr (3, [.ref 44, .ref 6, .ref 76, .ref 78, .ref 80, .ref 88, .int 1, .int 0, .ref 96, .int 0, .int 0, .int 0, .ref 98, .ref 100, .int 0]))))).set 40 (.inr (.inr (.inr (6, [.int 1, .long 70644700037184, .int 0, .ref 82, .ref 84, .ref 86]))))).set 43 (.inr (.inl (16, [70644700037184]))))) (dc2 := 117) (ds2 := 29934) 5 rfl ?_
  refine zT_val h3 ?_
  refine zT_call (v := some (.int (-9999))) (h2 := (((((((zH0.set 37 (.inr (.inr (.inr (3, [.ref 44, .ref 6, .ref 76, .ref 78, .ref 80, .ref 88, .int 1, .int 0, .ref 96, .int 0, .int 0, .int 0, .ref 98, .ref 100, .int 0]))))).set 40 (.inr (.inr (.inr (6, [.int 1, .long 70644700037184, .int 0, .ref 82, .ref 84, .ref 86]))))).set 43 (.inr (.inl (16, [70644700037184])))).set 106 (.inl (2, 2, [1, 0]))).set 105 (.inl (0, 2, [0]))).set 107 (.inl (0, 132, [0, 0, 0, 0, 0, 0]))).set 109 (.inl (0, 22, [0])))) (d1 := 0) (s1 := 0) rfl rfl ?_ ?_
  · refine zT_gos (f := 200000) (pc2 := 7) (ls2 := [(0, .ref 162), (1, .int 0), (2, .int (xs 2)), (3, .int 2)]) (st2 := [.int 0, .ref 162]) (h2 := (((zH0.set 37 (.inr (.inr (.inr (3, [.ref 44, .ref 6, .ref 76, .ref 78, .ref 80, .ref 88, .int 1, .int 0, .ref 96, .int 0, .int 0, .int 0, .ref 98, .ref 100, .int 0]))))).set 40 (.inr (.inr (.inr (6, [.int 1, .long 70644700037184, .int 0, .ref 82, .ref 84, .ref 86]))))).set 43 (.inr (.inl (16, [70644700037184]))))) (dc2 := 0) (ds2 := 0) 5 rfl ?_
    refine zT_call rfl rfl (zT_le (zg0_le 6 xs) zk_o_19) ?_
    refine zT_here (pc2 := 10) rfl ?_
    refine zT_gos (f := 200000) (pc2 := 29) (ls2 := [(5, .int 2), (4, .int 0), (0, .ref 162), (1, .int 0), (2, .int (xs 2)), (3, .int 2)]) (st2 := [.int (-2), .int (xs 2)]) (h2 := (((((((zH0.set 37 (.inr (.inr (.inr (3, [.ref 44, .ref 6, .ref 76, .ref 78, .ref 80, .ref 88, .int 1, .int 0, .ref 96, .int 0, .int 0, .int 0, .ref 98, .ref 100, .int 0]))))).set 40 (.inr (.inr (.inr (6, [.int 1, .long 70644700037184, .int 0, .ref 82, .ref 84, .ref 86]))))).set 43 (.inr (.inl (16, [70644700037184])))).set 106 (.inl (2, 2, [1, 0]))).set 105 (.inl (0, 2, [0]))).set 107 (.inl (0, 132, [0, 0, 0, 0, 0, 0]))).set 109 (.inl (0, 22, [0])))) (dc2 := 0) (ds2 := 0) 11 rfl ?_
    refine zT_if2 false rfl (zc_lt_f (by show ((xs 2) : Int32).toInt ≥ -2; omega)) ?_
    refine zT_here (pc2 := 32) rfl ?_
    refine zT_gos (f := 200000) (pc2 := 38) (ls2 := [(5, .int 2), (4, .int 0), (0, .ref 162), (1, .int 0), (2, .int (xs 2)), (3, .int 2)]) (st2 := [.int 2, .int (xs 2)]) (h2 := (((((((zH0.set 37 (.inr (.inr (.inr (3, [.ref 44, .ref 6, .ref 76, .ref 78, .ref 80, .ref 88, .int 1, .int 0, .ref 96, .int 0, .int 0, .int 0, .ref 98, .ref 100, .int 0]))))).set 40 (.inr (.inr (.inr (6, [.int 1, .long 70644700037184, .int 0, .ref 82, .ref 84, .ref 86]))))).set 43 (.inr (.inl (16, [70644700037184])))).set 106 (.inl (2, 2, [1, 0]))).set 105 (.inl (0, 2, [0]))).set 107 (.inl (0, 132, [0, 0, 0, 0, 0, 0]))).set 109 (.inl (0, 22, [0])))) (dc2 := 0) (ds2 := 0) 4 rfl ?_
    refine zT_if2 true rfl (zc_gt_t (by show ((xs 2) : Int32).toInt > 2; omega)) ?_
    refine zT_here (pc2 := 48) rfl ?_
    refine zT_gos (f := 200000) (pc2 := 71) (ls2 := [(5, .int 2), (4, .int 0), (0, .ref 162), (1, .int 0), (2, .int (xs 2)), (3, .int 2)]) (st2 := [.int (-9999)]) (h2 := (((((((zH0.set 37 (.inr (.inr (.inr (3, [.ref 44, .ref 6, .ref 76, .ref 78, .ref 80, .ref 88, .int 1, .int 0, .ref 96, .int 0, .int 0, .int 0, .ref 98, .ref 100, .int 0]))))).set 40 (.inr (.inr (.inr (6, [.int 1, .long 70644700037184, .int 0, .ref 82, .ref 84, .ref 86]))))).set 43 (.inr (.inl (16, [70644700037184])))).set 106 (.inl (2, 2, [1, 0]))).set 105 (.inl (0, 2, [0]))).set 107 (.inl (0, 132, [0, 0, 0, 0, 0, 0]))).set 109 (.inl (0, 22, [0])))) (dc2 := 0) (ds2 := 0) 2 rfl ?_
    exact zT_ret rfl rfl
  refine zT_here (pc2 := 1157) rfl ?_
  refine zT_gos (f := 200000) (pc2 := 1811) (ls2 := [(4, .int 6), (3, .ref 232), (2, .ref 162), (1, .ref 0), (0, .ref 11)]) (st2 := [.int 1]) (h2 := (((((((zH0.set 37 (.inr (.inr (.inr (3, [.ref 44, .ref 6, .ref 76, .ref 78, .ref 80, .ref 88, .int 1, .int 0, .ref 96, .int 0, .int 0, .int 0, .ref 98, .ref 100, .int 0]))))).set 40 (.inr (.inr (.inr (6, [.int 1, .long 70644700037184, .int 0, .ref 82, .ref 84, .ref 86]))))).set 43 (.inr (.inl (16, [70644700037184])))).set 106 (.inl (2, 2, [1, 0]))).set 105 (.inl (0, 2, [0]))).set 107 (.inl (0, 132, [0, 0, 0, 0, 0, 0]))).set 109 (.inl (0, 22, [0])))) (dc2 := 117) (ds2 := 29934) 10 rfl ?_
  exact zT_ret rfl rfl
set_option maxRecDepth 1000000 in
theorem zk_o_161 : zT zg0 zF zP 125 0 [(0, .ref 0), (1, .int 0), (2, .int (-2)), (3, .int 2)] [] zH0 0 0 (some (.int 0), (((zH0.set 37 (.inr (.inr (.inr (3, [.ref 44, .ref 6, .ref 76, .ref 78, .ref 80, .ref 88, .int 1, .int 0, .ref 96, .int 0, .int 0, .int 0, .ref 98, .ref 100, .int 0]))))).set 40 (.inr (.inr (.inr (6, [.int 1, .long 70644700037184, .int 0, .ref 82, .ref 84, .ref 86]))))).set 43 (.inr (.inl (16, [70644700037184])))), 0, 0) := zclosed (n := 339) (by decide +kernel)
set_option maxRecDepth 1000000 in
theorem zk_o_162 : zT zg0 zF zP 256 0 [(0, .ref 162), (1, .int 0), (2, .int (-2)), (3, .int 2)] [] (((zH0.set 37 (.inr (.inr (.inr (3, [.ref 44, .ref 6, .ref 76, .ref 78, .ref 80, .ref 88, .int 1, .int 0, .ref 96, .int 0, .int 0, .int 0, .ref 98, .ref 100, .int 0]))))).set 40 (.inr (.inr (.inr (6, [.int 1, .long 70644700037184, .int 0, .ref 82, .ref 84, .ref 86]))))).set 43 (.inr (.inl (16, [70644700037184])))) 0 0 (some (.int 0), (((((((zH0.set 37 (.inr (.inr (.inr (3, [.ref 44, .ref 6, .ref 76, .ref 78, .ref 80, .ref 88, .int 1, .int 0, .ref 96, .int 0, .int 0, .int 0, .ref 98, .ref 100, .int 0]))))).set 40 (.inr (.inr (.inr (6, [.int 1, .long 70644700037184, .int 0, .ref 82, .ref 84, .ref 86]))))).set 43 (.inr (.inl (16, [70644700037184])))).set 106 (.inl (2, 2, [1, 0]))).set 105 (.inl (0, 2, [0]))).set 107 (.inl (0, 132, [0, 0, 0, 0, 0, 0]))).set 109 (.inl (0, 22, [0]))), 0, 0) := zclosed (n := 377) (by decide +kernel)
set_option maxRecDepth 1000000 in
set_option maxHeartbeats 4000000 in
theorem zo_24_28 (xs : Nat → Int32) (h0 : xs 0 &&& 63 = 24) (h1 : xs 1 = 0) (h3 : xs 3 = 2) (h2 : xs 2 = (-2)) : zDone xs := by
  refine ⟨(((((((zH0.set 37 (.inr (.inr (.inr (3, [.ref 44, .ref 6, .ref 76, .ref 78, .ref 80, .ref 88, .int 1, .int 0, .ref 96, .int 0, .int 0, .int 0, .ref 98, .ref 100, .int 0]))))).set 40 (.inr (.inr (.inr (6, [.int 1, .long 70644700037184, .int 0, .ref 82, .ref 84, .ref 86]))))).set 43 (.inr (.inl (16, [70644700037184])))).set 106 (.inl (2, 2, [1, 0]))).set 105 (.inl (0, 2, [0]))).set 107 (.inl (0, 132, [0, 0, 0, 0, 0, 0]))).set 109 (.inl (0, 22, [0]))), 117, 29934, ?_, by decide, by decide⟩
  refine zT_gos (f := 200000) (pc2 := 37) (ls2 := [(4, .int 0), (3, .ref 232), (2, .ref 162), (1, .ref 0), (0, .ref 11)]) (st2 := [.int (xs 0)]) (h2 := zH0) (dc2 := 117) (ds2 := 29934) 9 rfl ?_
  refine zT_gos (f := 200000) (pc2 := 40) (ls2 := [(4, .int 0), (3, .ref 232), (2, .ref 162), (1, .ref 0), (0, .ref 11)]) (st2 := [.int ((xs 0) &&& (63 : Int32))]) (h2 := zH0) (dc2 := 117) (ds2 := 29934) 2 rfl ?_
  refine zT_val h0 ?_
  refine zT_gos (f := 200000) (pc2 := 1104) (ls2 := [(4, .int 0), (3, .ref 232), (2, .ref 162), (1, .ref 0), (0, .ref 11)]) (st2 := [.int (xs 1), .ref 0]) (h2 := zH0) (dc2 := 117) (ds2 := 29934) 7 rfl ?_
  refine zT_val h1 ?_
  refine zT_gos (f := 200000) (pc2 := 1118) (ls2 := [(4, .int 0), (3, .ref 232), (2, .ref 162), (1, .ref 0), (0, .ref 11)]) (st2 := [.int (xs 2), .int 0, .ref 0]) (h2 := zH0) (dc2 := 117) (ds2 := 29934) 7 rfl ?_
  refine zT_val h2 ?_
  refine zT_gos (f := 200000) (pc2 := 1124) (ls2 := [(4, .int 0), (3, .ref 232), (2, .ref 162), (1, .ref 0), (0, .ref 11)]) (st2 := [.int (xs 3), .int (-2), .int 0, .ref 0]) (h2 := zH0) (dc2 := 117) (ds2 := 29934) 5 rfl ?_
  refine zT_val h3 ?_
  refine zT_call rfl rfl (zT_le (zg0_le 6 xs) zk_o_161) ?_
  refine zT_here (pc2 := 1127) rfl ?_
  refine zT_gos (f := 200000) (pc2 := 1134) (ls2 := [(4, .int 0), (3, .ref 232), (2, .ref 162), (1, .ref 0), (0, .ref 11)]) (st2 := [.int (xs 1), .ref 162, .int 0]) (h2 := (((zH0.set 37 (.inr (.inr (.inr (3, [.ref 44, .ref 6, .ref 76, .ref 78, .ref 80, .ref 88, .int 1, .int 0, .ref 96, .int 0, .int 0, .int 0, .ref 98, .ref 100, .int 0]))))).set 40 (.inr (.inr (.inr (6, [.int 1, .long 70644700037184, .int 0, .ref 82, .ref 84, .ref 86]))))).set 43 (.inr (.inl (16, [70644700037184]))))) (dc2 := 117) (ds2 := 29934) 6 rfl ?_
  refine zT_val h1 ?_
  refine zT_gos (f := 200000) (pc2 := 1148) (ls2 := [(4, .int 0), (3, .ref 232), (2, .ref 162), (1, .ref 0), (0, .ref 11)]) (st2 := [.int (xs 2), .int 0, .ref 162, .int 0]) (h2 := (((zH0.set 37 (.inr (.inr (.inr (3, [.ref 44, .ref 6, .ref 76, .ref 78, .ref 80, .ref 88, .int 1, .int 0, .ref 96, .int 0, .int 0, .int 0, .ref 98, .ref 100, .int 0]))))).set 40 (.inr (.inr (.inr (6, [.int 1, .long 70644700037184, .int 0, .ref 82, .ref 84, .ref 86]))))).set 43 (.inr (.inl (16, [70644700037184]))))) (dc2 := 117) (ds2 := 29934) 7 rfl ?_
  refine zT_val h2 ?_
  refine zT_gos (f := 200000) (pc2 := 1154) (ls2 := [(4, .int 0), (3, .ref 232), (2, .ref 162), (1, .ref 0), (0, .ref 11)]) (st2 := [.int (xs 3), .int (-2), .int 0, .ref 162, .int 0]) (h2 := (((zH0.set 37 (.inr (.inr (.inr (3, [.ref 44, .ref 6, .ref 76, .ref 78, .ref 80, .ref 88, .int 1, .int 0, .ref 96, .int 0, .int 0, .int 0, .ref 98, .ref 100, .int 0]))))).set 40 (.inr (.inr (.inr (6, [.int 1, .long 70644700037184, .int 0, .ref 82, .ref 84, .ref 86]))))).set 43 (.inr (.inl (16, [70644700037184]))))) (dc2 := 117) (ds2 := 29934) 5 rfl ?_
  refine zT_val h3 ?_
  refine zT_call rfl rfl (zT_le (zg0_le 6 xs) zk_o_162) ?_
  refine zT_here (pc2 := 1157) rfl ?_
  refine zT_gos (f := 200000) (pc2 := 1811) (ls2 := [(4, .int 6), (3, .ref 232), (2, .ref 162), (1, .ref 0), (0, .ref 11)]) (st2 := [.int 1]) (h2 := (((((((zH0.set 37 (.inr (.inr (.inr (3, [.ref 44, .ref 6, .ref 76, .ref 78, .ref 80, .ref 88, .int 1, .int 0, .ref 96, .int 0, .int 0, .int 0, .ref 98, .ref 100, .int 0]))))).set 40 (.inr (.inr (.inr (6, [.int 1, .long 70644700037184, .int 0, .ref 82, .ref 84, .ref 86]))))).set 43 (.inr (.inl (16, [70644700037184])))).set 106 (.inl (2, 2, [1, 0]))).set 105 (.inl (0, 2, [0]))).set 107 (.inl (0, 132, [0, 0, 0, 0, 0, 0]))).set 109 (.inl (0, 22, [0])))) (dc2 := 117) (ds2 := 29934) 10 rfl ?_
  exact zT_ret rfl rfl
set_option maxRecDepth 1000000 in
theorem zk_o_163 : zT zg0 zF zP 125 0 [(0, .ref 0), (1, .int 0), (2, .int (-1)), (3, .int 2)] [] zH0 0 0 (some (.int 0), (((zH0.set 37 (.inr (.inr (.inr (3, [.ref 44, .ref 6, .ref 76, .ref 78, .ref 80, .ref 88, .int 1, .int 0, .ref 96, .int 0, .int 0, .int 0, .ref 98, .ref 100, .int 0]))))).set 40 (.inr (.inr (.inr (6, [.int 1, .long 70644700037184, .int 0, .ref 82, .ref 84, .ref 86]))))).set 43 (.inr (.inl (16, [70644700037184])))), 0, 0) := zclosed (n := 344) (by decide +kernel)
set_option maxRecDepth 1000000 in
theorem zk_o_164 : zT zg0 zF zP 256 0 [(0, .ref 162), (1, .int 0), (2, .int (-1)), (3, .int 2)] [] (((zH0.set 37 (.inr (.inr (.inr (3, [.ref 44, .ref 6, .ref 76, .ref 78, .ref 80, .ref 88, .int 1, .int 0, .ref 96, .int 0, .int 0, .int 0, .ref 98, .ref 100, .int 0]))))).set 40 (.inr (.inr (.inr (6, [.int 1, .long 70644700037184, .int 0, .ref 82, .ref 84, .ref 86]))))).set 43 (.inr (.inl (16, [70644700037184])))) 0 0 (some (.int 0), (((((((zH0.set 37 (.inr (.inr (.inr (3, [.ref 44, .ref 6, .ref 76, .ref 78, .ref 80, .ref 88, .int 1, .int 0, .ref 96, .int 0, .int 0, .int 0, .ref 98, .ref 100, .int 0]))))).set 40 (.inr (.inr (.inr (6, [.int 1, .long 70644700037184, .int 0, .ref 82, .ref 84, .ref 86]))))).set 43 (.inr (.inl (16, [70644700037184])))).set 106 (.inl (2, 2, [1, 0]))).set 105 (.inl (0, 2, [0]))).set 107 (.inl (0, 132, [0, 0, 0, 0, 0, 0]))).set 109 (.inl (0, 22, [0]))), 0, 0) := zclosed (n := 401) (by decide +kernel)
set_option maxRecDepth 1000000 in
set_option maxHeartbeats 4000000 in
theorem zo_24_29 (xs : Nat → Int32) (h0 : xs 0 &&& 63 = 24) (h1 : xs 1 = 0) (h3 : xs 3 = 2) (h2 : xs 2 = (-1)) : zDone xs := by
  refine ⟨(((((((zH0.set 37 (.inr (.inr (.inr (3, [.ref 44, .ref 6, .ref 76, .ref 78, .ref 80, .ref 88, .int 1, .int 0, .ref 96, .int 0, .int 0, .int 0, .ref 98, .ref 100, .int 0]))))).set 40 (.inr (.inr (.inr (6, [.int 1, .long 70644700037184, .int 0, .ref 82, .ref 84, .ref 86]))))).set 43 (.inr (.inl (16, [70644700037184])))).set 106 (.inl (2, 2, [1, 0]))).set 105 (.inl (0, 2, [0]))).set 107 (.inl (0, 132, [0, 0, 0, 0, 0, 0]))).set 109 (.inl (0, 22, [0]))), 117, 29934, ?_, by decide, by decide⟩
  refine zT_gos (f := 200000) (pc2 := 37) (ls2 := [(4, .int 0), (3, .ref 232), (2, .ref 162), (1, .ref 0), (0, .ref 11)]) (st2 := [.int (xs 0)]) (h2 := zH0) (dc2 := 117) (ds2 := 29934) 9 rfl ?_
  refine zT_gos (f := 200000) (pc2 := 40) (ls2 := [(4, .int 0), (3, .ref 232), (2, .ref 162), (1, .ref 0), (0, .ref 11)]) (st2 := [.int ((xs 0) &&& (63 : Int32))]) (h2 := zH0) (dc2 := 117) (ds2 := 29934) 2 rfl ?_
  refine zT_val h0 ?_
  refine zT_gos (f := 200000) (pc2 := 1104) (ls2 := [(4, .int 0), (3, .ref 232), (2, .ref 162), (1, .ref 0), (0, .ref 11)]) (st2 := [.int (xs 1), .ref 0]) (h2 := zH0) (dc2 := 117) (ds2 := 29934) 7 rfl ?_
  refine zT_val h1 ?_
  refine zT_gos (f := 200000) (pc2 := 1118) (ls2 := [(4, .int 0), (3, .ref 232), (2, .ref 162), (1, .ref 0), (0, .ref 11)]) (st2 := [.int (xs 2), .int 0, .ref 0]) (h2 := zH0) (dc2 := 117) (ds2 := 29934) 7 rfl ?_
  refine zT_val h2 ?_
  refine zT_gos (f := 200000) (pc2 := 1124) (ls2 := [(4, .int 0), (3, .ref 232), (2, .ref 162), (1, .ref 0), (0, .ref 11)]) (st2 := [.int (xs 3), .int (-1), .int 0, .ref 0]) (h2 := zH0) (dc2 := 117) (ds2 := 29934) 5 rfl ?_
  refine zT_val h3 ?_
  refine zT_call rfl rfl (zT_le (zg0_le 6 xs) zk_o_163) ?_
  refine zT_here (pc2 := 1127) rfl ?_
  refine zT_gos (f := 200000) (pc2 := 1134) (ls2 := [(4, .int 0), (3, .ref 232), (2, .ref 162), (1, .ref 0), (0, .ref 11)]) (st2 := [.int (xs 1), .ref 162, .int 0]) (h2 := (((zH0.set 37 (.inr (.inr (.inr (3, [.ref 44, .ref 6, .ref 76, .ref 78, .ref 80, .ref 88, .int 1, .int 0, .ref 96, .int 0, .int 0, .int 0, .ref 98, .ref 100, .int 0]))))).set 40 (.inr (.inr (.inr (6, [.int 1, .long 70644700037184, .int 0, .ref 82, .ref 84, .ref 86]))))).set 43 (.inr (.inl (16, [70644700037184]))))) (dc2 := 117) (ds2 := 29934) 6 rfl ?_
  refine zT_val h1 ?_
  refine zT_gos (f := 200000) (pc2 := 1148) (ls2 := [(4, .int 0), (3, .ref 232), (2, .ref 162), (1, .ref 0), (0, .ref 11)]) (st2 := [.int (xs 2), .int 0, .ref 162, .int 0]) (h2 := (((zH0.set 37 (.inr (.inr (.inr (3, [.ref 44, .ref 6, .ref 76, .ref 78, .ref 80, .ref 88, .int 1, .int 0, .ref 96, .int 0, .int 0, .int 0, .ref 98, .ref 100, .int 0]))))).set 40 (.inr (.inr (.inr (6, [.int 1, .long 70644700037184, .int 0, .ref 82, .ref 84, .ref 86]))))).set 43 (.inr (.inl (16, [70644700037184]))))) (dc2 := 117) (ds2 := 29934) 7 rfl ?_
  refine zT_val h2 ?_
  refine zT_gos (f := 200000) (pc2 := 1154) (ls2 := [(4, .int 0), (3, .ref 232), (2, .ref 162), (1, .ref 0), (0, .ref 11)]) (st2 := [.int (xs 3), .int (-1), .int 0, .ref 162, .int 0]) (h2 := (((zH0.set 37 (.inr (.inr (.inr (3, [.ref 44, .ref 6, .ref 76, .ref 78, .ref 80, .ref 88, .int 1, .int 0, .ref 96, .int 0, .int 0, .int 0, .ref 98, .ref 100, .int 0]))))).set 40 (.inr (.inr (.inr (6, [.int 1, .long 70644700037184, .int 0, .ref 82, .ref 84, .ref 86]))))).set 43 (.inr (.inl (16, [70644700037184]))))) (dc2 := 117) (ds2 := 29934) 5 rfl ?_
  refine zT_val h3 ?_
  refine zT_call rfl rfl (zT_le (zg0_le 6 xs) zk_o_164) ?_
  refine zT_here (pc2 := 1157) rfl ?_
  refine zT_gos (f := 200000) (pc2 := 1811) (ls2 := [(4, .int 6), (3, .ref 232), (2, .ref 162), (1, .ref 0), (0, .ref 11)]) (st2 := [.int 1]) (h2 := (((((((zH0.set 37 (.inr (.inr (.inr (3, [.ref 44, .ref 6, .ref 76, .ref 78, .ref 80, .ref 88, .int 1, .int 0, .ref 96, .int 0, .int 0, .int 0, .ref 98, .ref 100, .int 0]))))).set 40 (.inr (.inr (.inr (6, [.int 1, .long 70644700037184, .int 0, .ref 82, .ref 84, .ref 86]))))).set 43 (.inr (.inl (16, [70644700037184])))).set 106 (.inl (2, 2, [1, 0]))).set 105 (.inl (0, 2, [0]))).set 107 (.inl (0, 132, [0, 0, 0, 0, 0, 0]))).set 109 (.inl (0, 22, [0])))) (dc2 := 117) (ds2 := 29934) 10 rfl ?_
  exact zT_ret rfl rfl
set_option maxRecDepth 1000000 in
theorem zk_o_165 : zT zg0 zF zP 125 0 [(0, .ref 0), (1, .int 0), (2, .int 0), (3, .int 2)] [] zH0 0 0 (some (.int 0), (((zH0.set 37 (.inr (.inr (.inr (3, [.ref 44, .ref 6, .ref 76, .ref 78, .ref 80, .ref 88, .int 1, .int 0, .ref 96, .int 0, .int 0, .int 0, .ref 98, .ref 100, .int 0]))))).set 40 (.inr (.inr (.inr (6, [.int 1, .long 70644700037184, .int 0, .ref 82, .ref 84, .ref 86]))))).set 43 (.inr (.inl (16, [70644700037184])))), 0, 0) := zclosed (n := 349) (by decide +kernel)
set_option maxRecDepth 1000000 in
theorem zk_o_166 : zT zg0 zF zP 256 0 [(0, .ref 162), (1, .int 0), (2, .int 0), (3, .int 2)] [] (((zH0.set 37 (.inr (.inr (.inr (3, [.ref 44, .ref 6, .ref 76, .ref 78, .ref 80, .ref 88, .int 1, .int 0, .ref 96, .int 0, .int 0, .int 0, .ref 98, .ref 100, .int 0]))))).set 40 (.inr (.inr (.inr (6, [.int 1, .long 70644700037184, .int 0, .ref 82, .ref 84, .ref 86]))))).set 43 (.inr (.inl (16, [70644700037184])))) 0 0 (some (.int 0), (((((((zH0.set 37 (.inr (.inr (.inr (3, [.ref 44, .ref 6, .ref 76, .ref 78, .ref 80, .ref 88, .int 1, .int 0, .ref 96, .int 0, .int 0, .int 0, .ref 98, .ref 100, .int 0]))))).set 40 (.inr (.inr (.inr (6, [.int 1, .long 70644700037184, .int 0, .ref 82, .ref 84, .ref 86]))))).set 43 (.inr (.inl (16, [70644700037184])))).set 106 (.inl (2, 2, [1, 0]))).set 105 (.inl (0, 2, [0]))).set 107 (.inl (0, 132, [0, 0, 0, 0, 0, 0]))).set 109 (.inl (0, 22, [0]))), 0, 0) := zclosed (n := 425) (by decide +kernel)
set_option maxRecDepth 1000000 in
set_option maxHeartbeats 4000000 in
theorem zo_24_30 (xs : Nat → Int32) (h0 : xs 0 &&& 63 = 24) (h1 : xs 1 = 0) (h3 : xs 3 = 2) (h2 : xs 2 = 0) : zDone xs := by
  refine ⟨(((((((zH0.set 37 (.inr (.inr (.inr (3, [.ref 44, .ref 6, .ref 76, .ref 78, .ref 80, .ref 88, .int 1, .int 0, .ref 96, .int 0, .int 0, .int 0, .ref 98, .ref 100, .int 0]))))).set 40 (.inr (.inr (.inr (6, [.int 1, .long 70644700037184, .int 0, .ref 82, .ref 84, .ref 86]))))).set 43 (.inr (.inl (16, [70644700037184])))).set 106 (.inl (2, 2, [1, 0]))).set 105 (.inl (0, 2, [0]))).set 107 (.inl (0, 132, [0, 0, 0, 0, 0, 0]))).set 109 (.inl (0, 22, [0]))), 117, 29934, ?_, by decide, by decide⟩
  refine zT_gos (f := 200000) (pc2 := 37) (ls2 := [(4, .int 0), (3, .ref 232), (2, .ref 162), (1, .ref 0), (0, .ref 11)]) (st2 := [.int (xs 0)]) (h2 := zH0) (dc2 := 117) (ds2 := 29934) 9 rfl ?_
  refine zT_gos (f := 200000) (pc2 := 40) (ls2 := [(4, .int 0), (3, .ref 232), (2, .ref 162), (1, .ref 0), (0, .ref 11)]) (st2 := [.int ((xs 0) &&& (63 : Int32))]) (h2 := zH0) (dc2 := 117) (ds2 := 29934) 2 rfl ?_
  refine zT_val h0 ?_
  refine zT_gos (f := 200000) (pc2 := 1104) (ls2 := [(4, .int 0), (3, .ref 232), (2, .ref 162), (1, .ref 0), (0, .ref 11)]) (st2 := [.int (xs 1), .ref 0]) (h2 := zH0) (dc2 := 117) (ds2 := 29934) 7 rfl ?_
  refine zT_val h1 ?_
  refine zT_gos (f := 200000) (pc2 := 1118) (ls2 := [(4, .int 0), (3, .ref 232), (2, .ref 162), (1, .ref 0), (0, .ref 11)]) (st2 := [.int (xs 2), .int 0, .ref 0]) (h2 := zH0) (dc2 := 117) (ds2 := 29934) 7 rfl ?_
  refine zT_val h2 ?_
  refine zT_gos (f := 200000) (pc2 := 1124) (ls2 := [(4, .int 0), (3, .ref 232), (2, .ref 162), (1, .ref 0), (0, .ref 11)]) (st2 := [.int (xs 3), .int 0, .int 0, .ref 0]) (h2 := zH0) (dc2 := 117) (ds2 := 29934) 5 rfl ?_
  refine zT_val h3 ?_
  refine zT_call rfl rfl (zT_le (zg0_le 6 xs) zk_o_165) ?_
  refine zT_here (pc2 := 1127) rfl ?_
  refine zT_gos (f := 200000) (pc2 := 1134) (ls2 := [(4, .int 0), (3, .ref 232), (2, .ref 162), (1, .ref 0), (0, .ref 11)]) (st2 := [.int (xs 1), .ref 162, .int 0]) (h2 := (((zH0.set 37 (.inr (.inr (.inr (3, [.ref 44, .ref 6, .ref 76, .ref 78, .ref 80, .ref 88, .int 1, .int 0, .ref 96, .int 0, .int 0, .int 0, .ref 98, .ref 100, .int 0]))))).set 40 (.inr (.inr (.inr (6, [.int 1, .long 70644700037184, .int 0, .ref 82, .ref 84, .ref 86]))))).set 43 (.inr (.inl (16, [70644700037184]))))) (dc2 := 117) (ds2 := 29934) 6 rfl ?_
  refine zT_val h1 ?_
  refine zT_gos (f := 200000) (pc2 := 1148) (ls2 := [(4, .int 0), (3, .ref 232), (2, .ref 162), (1, .ref 0), (0, .ref 11)]) (st2 := [.int (xs 2), .int 0, .ref 162, .int 0]) (h2 := (((zH0.set 37 (.inr (.inr (.inr (3, [.ref 44, .ref 6, .ref 76, .ref 78, .ref 80, .ref 88, .int 1, .int 0, .ref 96, .int 0, .int 0, .int 0, .ref 98, .ref 100, .int 0]))))).set 40 (.inr (.inr (.inr (6, [.int 1, .long 70644700037184, .int 0, .ref 82, .ref 84, .ref 86]))))).set 43 (.inr (.inl (16, [70644700037184]))))) (dc2 := 117) (ds2 := 29934) 7 rfl ?_
  refine zT_val h2 ?_
  refine zT_gos (f := 200000) (pc2 := 1154) (ls2 := [(4, .int 0), (3, .ref 232), (2, .ref 162), (1, .ref 0), (0, .ref 11)]) (st2 := [.int (xs 3), .int 0, .int 0, .ref 162, .int 0]) (h2 := (((zH0.set 37 (.inr (.inr (.inr (3, [.ref 44, .ref 6, .ref 76, .ref 78, .ref 80, .ref 88, .int 1, .int 0, .ref 96, .int 0, .int 0, .int 0, .ref 98, .ref 100, .int 0]))))).set 40 (.inr (.inr (.inr (6, [.int 1, .long 70644700037184, .int 0, .ref 82, .ref 84, .ref 86]))))).set 43 (.inr (.inl (16, [70644700037184]))))) (dc2 := 117) (ds2 := 29934) 5 rfl ?_
  refine zT_val h3 ?_
  refine zT_call rfl rfl (zT_le (zg0_le 6 xs) zk_o_166) ?_
  refine zT_here (pc2 := 1157) rfl ?_
  refine zT_gos (f := 200000) (pc2 := 1811) (ls2 := [(4, .int 6), (3, .ref 232), (2, .ref 162), (1, .ref 0), (0, .ref 11)]) (st2 := [.int 1]) (h2 := (((((((zH0.set 37 (.inr (.inr (.inr (3, [.ref 44, .ref 6, .ref 76, .ref 78, .ref 80, .ref 88, .int 1, .int 0, .ref 96, .int 0, .int 0, .int 0, .ref 98, .ref 100, .int 0]))))).set 40 (.inr (.inr (.inr (6, [.int 1, .long 70644700037184, .int 0, .ref 82, .ref 84, .ref 86]))))).set 43 (.inr (.inl (16, [70644700037184])))).set 106 (.inl (2, 2, [1, 0]))).set 105 (.inl (0, 2, [0]))).set 107 (.inl (0, 132, [0, 0, 0, 0, 0, 0]))).set 109 (.inl (0, 22, [0])))) (dc2 := 117) (ds2 := 29934) 10 rfl ?_
  exact zT_ret rfl rfl
set_option maxRecDepth 1000000 in
theorem zk_o_167 : zT zg0 zF zP 125 0 [(0, .ref 0), (1, .int 0), (2, .int 1), (3, .int 2)] [] zH0 0 0 (some (.int 0), (((zH0.set 37 (.inr (.inr (.inr (3, [.ref 44, .ref 6, .ref 76, .ref 78, .ref 80, .ref 88, .int 1, .int 0, .ref 96, .int 0, .int 0, .int 0, .ref 98, .ref 100, .int 0]))))).set 40 (.inr (.inr (.inr (6, [.int 1, .long 70644700037184, .int 0, .ref 82, .ref 84, .ref 86]))))).set 43 (.inr (.inl (16, [70644700037184])))), 0, 0) := zclosed (n := 354) (by decide +kernel)
set_option maxRecDepth 1000000 in
theorem zk_o_168 : zT zg0 zF zP 256 0 [(0, .ref 162), (1, .int 0), (2, .int 1), (3, .int 2)] [] (((zH0.set 37 (.inr (.inr (.inr (3, [.ref 44, .ref 6, .ref 76, .ref 78, .ref 80, .ref 88, .int 1, .int 0, .ref 96, .int 0, .int 0, .int 0, .ref 98, .ref 100, .int 0]))))).set 40 (.inr (.inr (.inr (6, [.int 1, .long 70644700037184, .int 0, .ref 82, .ref 84, .ref 86]))))).set 43 (.inr (.inl (16, [70644700037184])))) 0 0 (some (.int 0), (((((((zH0.set 37 (.inr (.inr (.inr (3, [.ref 44, .ref 6, .ref 76, .ref 78, .ref 80, .ref 88, .int 1, .int 0, .ref 96, .int 0, .int 0, .int 0, .ref 98, .ref 100, .int 0]))))).set 40 (.inr (.inr (.inr (6, [.int 1, .long 70644700037184, .int 0, .ref 82, .ref 84, .ref 86]))))).set 43 (.inr (.inl (16, [70644700037184])))).set 106 (.inl (2, 2, [1, 0]))).set 105 (.inl (0, 2, [0]))).set 107 (.inl (0, 132, [0, 0, 0, 0, 0, 0]))).set 109 (.inl (0, 22, [0]))), 0, 0) := zclosed (n := 449) (by decide +kernel)
set_option maxRecDepth 1000000 in
set_option maxHeartbeats 4000000 in
theorem zo_24_31 (xs : Nat → Int32) (h0 : xs 0 &&& 63 = 24) (h1 : xs 1 = 0) (h3 : xs 3 = 2) (h2 : xs 2 = 1) : zDone xs := by
  refine ⟨(((((((zH0.set 37 (.inr (.inr (.inr (3, [.ref 44, .ref 6, .ref 76, .ref 78, .ref 80, .ref 88, .int 1, .int 0, .ref 96, .int 0, .int 0, .int 0, .ref 98, .ref 100, .int 0]))))).set 40 (.inr (.inr (.inr (6, [.int 1, .long 70644700037184, .int 0, .ref 82, .ref 84, .ref 86]))))).set 43 (.inr (.inl (16, [70644700037184])))).set 106 (.inl (2, 2, [1, 0]))).set 105 (.inl (0, 2, [0]))).set 107 (.inl (0, 132, [0, 0, 0, 0, 0, 0]))).set 109 (.inl (0, 22, [0]))), 117, 29934, ?_, by decide, by decide⟩
  refine zT_gos (f := 200000) (pc2 := 37) (ls2 := [(4, .int 0), (3, .ref 232), (2, .ref 162), (1, .ref 0), (0, .ref 11)]) (st2 := [.int (xs 0)]) (h2 := zH0) (dc2 := 117) (ds2 := 29934) 9 rfl ?_
  refine zT_gos (f := 200000) (pc2 := 40) (ls2 := [(4, .int 0), (3, .ref 232), (2, .ref 162), (1, .ref 0), (0, .ref 11)]) (st2 := [.int ((xs 0) &&& (63 : Int32))]) (h2 := zH0) (dc2 := 117) (ds2 := 29934) 2 rfl ?_
  refine zT_val h0 ?_
  refine zT_gos (f := 200000) (pc2 := 1104) (ls2 := [(4, .int 0), (3, .ref 232), (2, .ref 162), (1, .ref 0), (0, .ref 11)]) (st2 := [.int (xs 1), .ref 0]) (h2 := zH0) (dc2 := 117) (ds2 := 29934) 7 rfl ?_
  refine zT_val h1 ?_
  refine zT_gos (f := 200000) (pc2 := 1118) (ls2 := [(4, .int 0), (3, .ref 232), (2, .ref 162), (1, .ref 0), (0, .ref 11)]) (st2 := [.int (xs 2), .int 0, .ref 0]) (h2 := zH0) (dc2 := 117) (ds2 := 29934) 7 rfl ?_
  refine zT_val h2 ?_
  refine zT_gos (f := 200000) (pc2 := 1124) (ls2 := [(4, .int 0), (3, .ref 232), (2, .ref 162), (1, .ref 0), (0, .ref 11)]) (st2 := [.int (xs 3), .int 1, .int 0, .ref 0]) (h2 := zH0) (dc2 := 117) (ds2 := 29934) 5 rfl ?_
  refine zT_val h3 ?_
  refine zT_call rfl rfl (zT_le (zg0_le 6 xs) zk_o_167) ?_
  refine zT_here (pc2 := 1127) rfl ?_
  refine zT_gos (f := 200000) (pc2 := 1134) (ls2 := [(4, .int 0), (3, .ref 232), (2, .ref 162), (1, .ref 0), (0, .ref 11)]) (st2 := [.int (xs 1), .ref 162, .int 0]) (h2 := (((zH0.set 37 (.inr (.inr (.inr (3, [.ref 44, .ref 6, .ref 76, .ref 78, .ref 80, .ref 88, .int 1, .int 0, .ref 96, .int 0, .int 0, .int 0, .ref 98, .ref 100, .int 0]))))).set 40 (.inr (.inr (.inr (6, [.int 1, .long 70644700037184, .int 0, .ref 82, .ref 84, .ref 86]))))).set 43 (.inr (.inl (16, [70644700037184]))))) (dc2 := 117) (ds2 := 29934) 6 rfl ?_
  refine zT_val h1 ?_
  refine zT_gos (f := 200000) (pc2 := 1148) (ls2 := [(4, .int 0), (3, .ref 232), (2, .ref 162), (1, .ref 0), (0, .ref 11)]) (st2 := [.int (xs 2), .int 0, .ref 162, .int 0]) (h2 := (((zH0.set 37 (.inr (.inr (.inr (3, [.ref 44, .ref 6, .ref 76, .ref 78, .ref 80, .ref 88, .int 1, .int 0, .ref 96, .int 0, .int 0, .int 0, .ref 98, .ref 100, .int 0]))))).set 40 (.inr (.inr (.inr (6, [.int 1, .long 70644700037184, .int 0, .ref 82, .ref 84, .ref 86]))))).set 43 (.inr (.inl (16, [70644700037184]))))) (dc2 := 117) (ds2 := 29934) 7 rfl ?_
  refine zT_val h2 ?_
  refine zT_gos (f := 200000) (pc2 := 1154) (ls2 := [(4, .int 0), (3, .ref 232), (2, .ref 162), (1, .ref 0), (0, .ref 11)]) (st2 := [.int (xs 3), .int 1, .int 0, .ref 162, .int 0]) (h2 := (((zH0.set 37 (.inr (.inr (.inr (3, [.ref 44, .ref 6, .ref 76, .ref 78, .ref 80, .ref 88, .int 1, .int 0, .ref 96, .int 0, .int 0, .int 0, .ref 98, .ref 100, .int 0]))))).set 40 (.inr (.inr (.inr (6, [.int 1, .long 70644700037184, .int 0, .ref 82, .ref 84, .ref 86]))))).set 43 (.inr (.inl (16, [70644700037184]))))) (dc2 := 117) (ds2 := 29934) 5 rfl ?_
  refine zT_val h3 ?_
  refine zT_call rfl rfl (zT_le (zg0_le 6 xs) zk_o_168) ?_
  refine zT_here (pc2 := 1157) rfl ?_
  refine zT_gos (f := 200000) (pc2 := 1811) (ls2 := [(4, .int 6), (3, .ref 232), (2, .ref 162), (1, .ref 0), (0, .ref 11)]) (st2 := [.int 1]) (h2 := (((((((zH0.set 37 (.inr (.inr (.inr (3, [.ref 44, .ref 6, .ref 76, .ref 78, .ref 80, .ref 88, .int 1, .int 0, .ref 96, .int 0, .int 0, .int 0, .ref 98, .ref 100, .int 0]))))).set 40 (.inr (.inr (.inr (6, [.int 1, .long 70644700037184, .int 0, .ref 82, .ref 84, .ref 86]))))).set 43 (.inr (.inl (16, [70644700037184])))).set 106 (.inl (2, 2, [1, 0]))).set 105 (.inl (0, 2, [0]))).set 107 (.inl (0, 132, [0, 0, 0, 0, 0, 0]))).set 109 (.inl (0, 22, [0])))) (dc2 := 117) (ds2 := 29934) 10 rfl ?_
  exact zT_ret rfl rfl
set_option maxRecDepth 1000000 in
theorem zk_o_169 : zT zg0 zF zP 125 0 [(0, .ref 0), (1, .int 0), (2, .int 2), (3, .int 2)] [] zH0 0 0 (some (.int 0), (((zH0.set 37 (.inr (.inr (.inr (3, [.ref 44, .ref 6, .ref 76, .ref 78, .ref 80, .ref 88, .int 1, .int 0, .ref 96, .int 0, .int 0, .int 0, .ref 98, .ref 100, .int 0]))))).set 40 (.inr (.inr (.inr (6, [.int 1, .long 70644700037184, .int 0, .ref 82, .ref 84, .ref 86]))))).set 43 (.inr (.inl (16, [70644700037184])))), 0, 0) := zclosed (n := 359) (by decide +kernel)
set_option maxRecDepth 1000000 in
theorem zk_o_170 : zT zg0 zF zP 256 0 [(0, .ref 162), (1, .int 0), (2, .int 2), (3, .int 2)] [] (((zH0.set 37 (.inr (.inr (.inr (3, [.ref 44, .ref 6, .ref 76, .ref 78, .ref 80, .ref 88, .int 1, .int 0, .ref 96, .int 0, .int 0, .int 0, .ref 98, .ref 100, .int 0]))))).set 40 (.inr (.inr (.inr (6, [.int 1, .long 70644700037184, .int 0, .ref 82, .ref 84, .ref 86]))))).set 43 (.inr (.inl (16, [70644700037184])))) 0 0 (some (.int 0), (((((((zH0.set 37 (.inr (.inr (.inr (3, [.ref 44, .ref 6, .ref 76, .ref 78, .ref 80, .ref 88, .int 1, .int 0, .ref 96, .int 0, .int 0, .int 0, .ref 98, .ref 100, .int 0]))))).set 40 (.inr (.inr (.inr (6, [.int 1, .long 70644700037184, .int 0, .ref 82, .ref 84, .ref 86]))))).set 43 (.inr (.inl (16, [70644700037184])))).set 106 (.inl (2, 2, [1, 0]))).set 105 (.inl (0, 2, [0]))).set 107 (.inl (0, 132, [0, 0, 0, 0, 0, 0]))).set 109 (.inl (0, 22, [0]))), 0, 0) := zclosed (n := 473) (by decide +kernel)
set_option maxRecDepth 1000000 in
set_option maxHeartbeats 4000000 in
theorem zo_24_32 (xs : Nat → Int32) (h0 : xs 0 &&& 63 = 24) (h1 : xs 1 = 0) (h3 : xs 3 = 2) (h2 : xs 2 = 2) : zDone xs := by
  refine ⟨(((((((zH0.set 37 (.inr (.inr (.inr (3, [.ref 44, .ref 6, .ref 76, .ref 78, .ref 80, .ref 88, .int 1, .int 0, .ref 96, .int 0, .int 0, .int 0, .ref 98, .ref 100, .int 0]))))).set 40 (.inr (.inr (.inr (6, [.int 1, .long 70644700037184, .int 0, .ref 82, .ref 84, .ref 86]))))).set 43 (.inr (.inl (16, [70644700037184])))).set 106 (.inl (2, 2, [1, 0]))).set 105 (.inl (0, 2, [0]))).set 107 (.inl (0, 132, [0, 0, 0, 0, 0, 0]))).set 109 (.inl (0, 22, [0]))), 117, 29934, ?_, by decide, by decide⟩
  refine zT_gos (f := 200000) (pc2 := 37) (ls2 := [(4, .int 0), (3, .ref 232), (2, .ref 162), (1, .ref 0), (0, .ref 11)]) (st2 := [.int (xs 0)]) (h2 := zH0) (dc2 := 117) (ds2 := 29934) 9 rfl ?_
  refine zT_gos (f := 200000) (pc2 := 40) (ls2 := [(4, .int 0), (3, .ref 232), (2, .ref 162), (1, .ref 0), (0, .ref 11)]) (st2 := [.int ((xs 0) &&& (63 : Int32))]) (h2 := zH0) (dc2 := 117) (ds2 := 29934) 2 rfl ?_
  refine zT_val h0 ?_
  refine zT_gos (f := 200000) (pc2 := 1104) (ls2 := [(4, .int 0), (3, .ref 232), (2, .ref 162), (1, .ref 0), (0, .ref 11)]) (st2 := [.int (xs 1), .ref 0]) (h2 := zH0) (dc2 := 117) (ds2 := 29934) 7 rfl ?_
  refine zT_val h1 ?_
  refine zT_gos (f := 200000) (pc2 := 1118) (ls2 := [(4, .int 0), (3, .ref 232), (2, .ref 162), (1, .ref 0), (0, .ref 11)]) (st2 := [.int (xs 2), .int 0, .ref 0]) (h2 := zH0) (dc2 := 117) (ds2 := 29934) 7 rfl ?_
  refine zT_val h2 ?_
  refine zT_gos (f := 200000) (pc2 := 1124) (ls2 := [(4, .int 0), (3, .ref 232), (2, .ref 162), (1, .ref 0), (0, .ref 11)]) (st2 := [.int (xs 3), .int 2, .int 0, .ref 0]) (h2 := zH0) (dc2 := 117) (ds2 := 29934) 5 rfl ?_
  refine zT_val h3 ?_
  refine zT_call rfl rfl (zT_le (zg0_le 6 xs) zk_o_169) ?_
  refine zT_here (pc2 := 1127) rfl ?_
  refine zT_gos (f := 200000) (pc2 := 1134) (ls2 := [(4, .int 0), (3, .ref 232), (2, .ref 162), (1, .ref 0), (0, .ref 11)]) (st2 := [.int (xs 1), .ref 162, .int 0]) (h2 := (((zH0.set 37 (.inr (.inr (.inr (3, [.ref 44, .ref 6, .ref 76, .ref 78, .ref 80, .ref 88, .int 1, .int 0, .ref 96, .int 0, .int 0, .int 0, .ref 98, .ref 100, .int 0]))))).set 40 (.inr (.inr (.inr (6, [.int 1, .long 70644700037184, .int 0, .ref 82, .ref 84, .ref 86]))))).set 43 (.inr (.inl (16, [70644700037184]))))) (dc2 := 117) (ds2 := 29934) 6 rfl ?_
  refine zT_val h1 ?_
  refine zT_gos (f := 200000) (pc2 := 1148) (ls2 := [(4, .int 0), (3, .ref 232), (2, .ref 162), (1, .ref 0), (0, .ref 11)]) (st2 := [.int (xs 2), .int 0, .ref 162, .int 0]) (h2 := (((zH0.set 37 (.inr (.inr (.inr (3, [.ref 44, .ref 6, .ref 76, .ref 78, .ref 80, .ref 88, .int 1, .int 0, .ref 96, .int 0, .int 0, .int 0, .ref 98, .ref 100, .int 0]))))).set 40 (.inr (.inr (.inr (6, [.int 1, .long 70644700037184, .int 0, .ref 82, .ref 84, .ref 86]))))).set 43 (.inr (.inl (16, [70644700037184]))))) (dc2 := 117) (ds2 := 29934) 7 rfl ?_
  refine zT_val h2 ?_
  refine zT_gos (f := 200000) (pc2 := 1154) (ls2 := [(4, .int 0), (3, .ref 232), (2, .ref 162), (1, .ref 0), (0, .ref 11)]) (st2 := [.int (xs 3), .int 2, .int 0, .ref 162, .int 0]) (h2 := (((zH0.set 37 (.inr (.inr (.inr (3, [.ref 44, .ref 6, .ref 76, .ref 78, .ref 80, .ref 88, .int 1, .int 0, .ref 96, .int 0, .int 0, .int 0, .ref 98, .ref 100, .int 0]))))).set 40 (.inr (.inr (.inr (6, [.int 1, .long 70644700037184, .int 0, .ref 82, .ref 84, .ref 86]))))).set 43 (.inr (.inl (16, [70644700037184]))))) (dc2 := 117) (ds2 := 29934) 5 rfl ?_
  refine zT_val h3 ?_
  refine zT_call rfl rfl (zT_le (zg0_le 6 xs) zk_o_170) ?_
  refine zT_here (pc2 := 1157) rfl ?_
  refine zT_gos (f := 200000) (pc2 := 1811) (ls2 := [(4, .int 6), (3, .ref 232), (2, .ref 162), (1, .ref 0), (0, .ref 11)]) (st2 := [.int 1]) (h2 := (((((((zH0.set 37 (.inr (.inr (.inr (3, [.ref 44, .ref 6, .ref 76, .ref 78, .ref 80, .ref 88, .int 1, .int 0, .ref 96, .int 0, .int 0, .int 0, .ref 98, .ref 100, .int 0]))))).set 40 (.inr (.inr (.inr (6, [.int 1, .long 70644700037184, .int 0, .ref 82, .ref 84, .ref 86]))))).set 43 (.inr (.inl (16, [70644700037184])))).set 106 (.inl (2, 2, [1, 0]))).set 105 (.inl (0, 2, [0]))).set 107 (.inl (0, 132, [0, 0, 0, 0, 0, 0]))).set 109 (.inl (0, 22, [0])))) (dc2 := 117) (ds2 := 29934) 10 rfl ?_
  exact zT_ret rfl rfl
set_option maxRecDepth 1000000 in
set_option maxHeartbeats 4000000 in
theorem zo_24_33 (xs : Nat → Int32) (h0 : xs 0 &&& 63 = 24) (h1 : xs 1 = 0) (h3 : xs 3 = 3) (h2 : (xs 2).toInt < -2) : zDone xs := by
  refine ⟨(((((((zH0.set 37 (.inr (.inr (.inr (3, [.ref 44, .ref 6, .ref 76, .ref 78, .ref 80, .ref 88, .int 1, .int 0, .ref 96, .int 0, .int 0, .int 0, .ref 98, .ref 100, .int 0]))))).set 40 (.inr (.inr (.inr (6, [.int 1, .long 70644700037184, .int 0, .ref 82, .ref 84, .ref 86]))))).set 43 (.inr (.inl (16, [70644700037184])))).set 106 (.inl (2, 2, [1, 0]))).set 105 (.inl (0, 2, [0]))).set 107 (.inl (0, 132, [0, 0, 0, 0, 0, 0]))).set 109 (.inl (0, 22, [0]))), 117, 29934, ?_, by decide, by decide⟩
  refine zT_gos (f := 200000) (pc2 := 37) (ls2 := [(4, .int 0), (3, .ref 232), (2, .ref 162), (1, .ref 0), (0, .ref 11)]) (st2 := [.int (xs 0)]) (h2 := zH0) (dc2 := 117) (ds2 := 29934) 9 rfl ?_
  refine zT_gos (f := 200000) (pc2 := 40) (ls2 := [(4, .int 0), (3, .ref 232), (2, .ref 162), (1, .ref 0), (0, .ref 11)]) (st2 := [.int ((xs 0) &&& (63 : Int32))]) (h2 := zH0) (dc2 := 117) (ds2 := 29934) 2 rfl ?_
  refine zT_val h0 ?_
  refine zT_gos (f := 200000) (pc2 := 1104) (ls2 := [(4, .int 0), (3, .ref 232), (2, .ref 162), (1, .ref 0), (0, .ref 11)]) (st2 := [.int (xs 1), .ref 0]) (h2 := zH0) (dc2 := 117) (ds2 := 29934) 7 rfl ?_
  refine zT_val h1 ?_
  refine zT_gos (f := 200000) (pc2 := 1118) (ls2 := [(4, .int 0), (3, .ref 232), (2, .ref 162), (1, .ref 0), (0, .ref 11)]) (st2 := [.int (xs 2), .int 0, .ref 0]) (h2 := zH0) (dc2 := 117) (ds2 := 29934) 7 rfl ?_
  refine zT_gos (f := 200000) (pc2 := 1124) (ls2 := [(4, .int 0), (3, .ref 232), (2, .ref 162), (1, .ref 0), (0, .ref 11)]) (st2 := [.int (xs 3), .int (xs 2), .int 0, .ref 0]) (h2 := zH0) (dc2 := 117) (ds2 := 29934) 5 rfl ?_
  refine zT_val h3 ?_
  refine zT_call (v := some (.int (-9999))) (h2 := (((zH0.set 37 (.inr (.inr (.inr (3, [.ref 44, .ref 6, .ref 76, .ref 78, .ref 80, .ref 88, .int 1, .int 0, .ref 96, .int 0, .int 0, .int 0, .ref 98, .ref 100, .int 0]))))).set 40 (.inr (.inr (.inr (6, [.int 1, .long 70644700037184, .int 0, .ref 82, .ref 84, .ref 86]))))).set 43 (.inr (.inl (16, [70644700037184]))))) (d1 := 0) (s1 := 0) rfl rfl ?_ ?_
  · refine zT_gos (f := 200000) (pc2 := 42) (ls2 := [(4, .ref 80), (0, .ref 0), (1, .int 0), (2, .int (xs 2)), (3, .int 3)]) (st2 := [.int (-2), .int (xs 2)]) (h2 := (((zH0.set 37 (.inr (.inr (.inr (3, [.ref 44, .ref 6, .ref 76, .ref 78, .ref 80, .ref 88, .int 1, .int 0, .ref 96, .int 0, .int 0, .int 0, .ref 98, .ref 100, .int 0]))))).set 40 (.inr (.inr (.inr (6, [.int 1, .long 70644700037184, .int 0, .ref 82, .ref 84, .ref 86]))))).set 43 (.inr (.inl (16, [70644700037184]))))) (dc2 := 0) (ds2 := 0) 18 rfl ?_
    refine zT_if2 true rfl (zc_lt_t (by show ((xs 2) : Int32).toInt < -2; omega)) ?_
    refine zT_here (pc2 := 62) rfl ?_
    refine zT_gos (f := 200000) (pc2 := 65) (ls2 := [(4, .ref 80), (0, .ref 0), (1, .int 0), (2, .int (xs 2)), (3, .int 3)]) (st2 := [.int (-9999)]) (h2 := (((zH0.set 37 (.inr (.inr (.inr (3, [.ref 44, .ref 6, .ref 76, .ref 78, .ref 80, .ref 88, .int 1, .int 0, .ref 96, .int 0, .int 0, .int 0, .ref 98, .ref 100, .int 0]))))).set 40 (.inr (.inr (.inr (6, [.int 1, .long 70644700037184, .int 0, .ref 82, .ref 84, .ref 86]))))).set 43 (.inr (.inl (16, [70644700037184]))))) (dc2 := 0) (ds2 := 0) 1 rfl ?_
    exact zT_ret rfl rfl
  refine zT_here (pc2 := 1127) rfl ?_
  refine zT_gos (f := 200000) (pc2 := 1134) (ls2 := [(4, .int 0), (3, .ref 232), (2, .ref 162), (1, .ref 0), (0, .ref 11)]) (st2 := [.int (xs 1), .ref 162, .int (-9999)]) (h2 := (((zH0.set 37 (.inr (.inr (.inr (3, [.ref 44, .ref 6, .ref 76, .ref 78, .ref 80, .ref 88, .int 1, .int 0, .ref 96, .int 0, .int 0, .int 0, .ref 98, .ref 100, .int 0]))))).set 40 (.inr (.inr (.inr (6, [.int 1, .long 70644700037184, .int 0, .ref 82, .ref 84, .ref 86]))))).set 43 (.inr (.inl (16, [70644700037184]))))) (dc2 := 117) (ds2 := 29934) 6 rfl ?_
  refine zT_val h1 ?_
  refine zT_gos (f := 200000) (pc2 := 1148) (ls2 := [(4, .int 0), (3, .ref 232), (2, .ref 162), (1, .ref 0), (0, .ref 11)]) (st2 := [.int (xs 2), .int 0, .ref 162, .int (-9999)]) (h2 := (((zH0.set 37 (.inr (.inr (.inr (3, [.ref 44, .ref 6, .ref 76, .ref 78, .ref 80, .ref 88, .int 1, .int 0, .ref 96, .int 0, .int 0, .int 0, .ref 98, .ref 100, .int 0]))))).set 40 (.inr (.inr (.inr (6, [.int 1, .long 70644700037184, .int 0, .ref 82, .ref 84, .ref 86]))))).set 43 (.inr (.inl (16, [70644700037184]))))) (dc2 := 117) (ds2 := 29934) 7 rfl ?_
  refine zT_gos (f := 200000) (pc2 := 1154) (ls2 := [(4, .int 0), (3, .ref 232), (2, .ref 162), (1, .ref 0), (0, .ref 11)]) (st2 := [.int (xs 3), .int (xs 2), .int 0, .ref 162, .int (-9999)]) (h2 := (((zH0.set 37 (.inr (.inr (.inr (3, [.ref 44, .ref 6, .ref 76, .ref 78, .ref 80, .ref 88, .int 1, .int 0, .ref 96, .int 0, .int 0, .int 0, .ref 98, .ref 100, .int 0]))))).set 40 (.inr (.inr (.inr (6, [.int 1, .long 70644700037184, .int 0, .ref 82, .ref 84, .ref 86]))))).set 43 (.inr (.inl (16, [70644700037184]))))) (dc2 := 117) (ds2 := 29934) 5 rfl ?_
  refine zT_val h3 ?_
  refine zT_call (v := some (.int (-9999))) (h2 := (((((((zH0.set 37 (.inr (.inr (.inr (3, [.ref 44, .ref 6, .ref 76, .ref 78, .ref 80, .ref 88, .int 1, .int 0, .ref 96, .int 0, .int 0, .int 0, .ref 98, .ref 100, .int 0]))))).set 40 (.inr (.inr (.inr (6, [.int 1, .long 70644700037184, .int 0, .ref 82, .ref 84, .ref 86]))))).set 43 (.inr (.inl (16, [70644700037184])))).set 106 (.inl (2, 2, [1, 0]))).set 105 (.inl (0, 2, [0]))).set 107 (.inl (0, 132, [0, 0, 0, 0, 0, 0]))).set 109 (.inl (0, 22, [0])))) (d1 := 0) (s1 := 0) rfl rfl ?_ ?_
  · refine zT_gos (f := 200000) (pc2 := 7) (ls2 := [(0, .ref 162), (1, .int 0), (2, .int (xs 2)), (3, .int 3)]) (st2 := [.int 0, .ref 162]) (h2 := (((zH0.set 37 (.inr (.inr (.inr (3, [.ref 44, .ref 6, .ref 76, .ref 78, .ref 80, .ref 88, .int 1, .int 0, .ref 96, .int 0, .int 0, .int 0, .ref 98, .ref 100, .int 0]))))).set 40 (.inr (.inr (.inr (6, [.int 1, .long 70644700037184, .int 0, .ref 82, .ref 84, .ref 86]))))).set 43 (.inr (.inl (16, [70644700037184]))))) (dc2 := 0) (ds2 := 0) 5 rfl ?_
    refine zT_call rfl rfl (zT_le (zg0_le 6 xs) zk_o_19) ?_
    refine zT_here (pc2 := 10) rfl ?_
    refine zT_gos (f := 200000) (pc2 := 29) (ls2 := [(5, .int 2), (4, .int 0), (0, .ref 162), (1, .int 0), (2, .int (xs 2)), (3, .int 3)]) (st2 := [.int (-2), .int (xs 2)]) (h2 := (((((((zH0.set 37 (.inr (.inr (.inr (3, [.ref 44, .ref 6, .ref 76, .ref 78, .ref 80, .ref 88, .int 1, .int 0, .ref 96, .int 0, .int 0, .int 0, .ref 98, .ref 100, .int 0]))))).set 40 (.inr (.inr (.inr (6, [.int 1, .long 70644700037184, .int 0, .ref 82, .ref 84, .ref 86]))))).set 43 (.inr (.inl (16, [70644700037184])))).set 106 (.inl (2, 2, [1, 0]))).set 105 (.inl (0, 2, [0]))).set 107 (.inl (0, 132, [0, 0, 0, 0, 0, 0]))).set 109 (.inl (0, 22, [0])))) (dc2 := 0) (ds2 := 0) 11 rfl ?_
    refine zT_if2 true rfl (zc_lt_t (by show ((xs 2) : Int32).toInt < -2; omega)) ?_
    refine zT_here (pc2 := 48) rfl ?_
    refine zT_gos (f := 200000) (pc2 := 71) (ls2 := [(5, .int 2), (4, .int 0), (0, .ref 162), (1, .int 0), (2, .int (xs 2)), (3, .int 3)]) (st2 := [.int (-9999)]) (h2 := (((((((zH0.set 37 (.inr (.inr (.inr (3, [.ref 44, .ref 6, .ref 76, .ref 78, .ref 80, .ref 88, .int 1, .int 0, .ref 96, .int 0, .int 0, .int 0, .ref 98, .ref 100, .int 0]))))).set 40 (.inr (.inr (.inr (6, [.int 1, .long 70644700037184, .int 0, .ref 82, .ref 84, .ref 86]))))).set 43 (.inr (.inl (16, [70644700037184])))).set 106 (.inl (2, 2, [1, 0]))).set 105 (.inl (0, 2, [0]))).set 107 (.inl (0, 132, [0, 0, 0, 0, 0, 0]))).set 109 (.inl (0, 22, [0])))) (dc2 := 0) (ds2 := 0) 2 rfl ?_
    exact zT_ret rfl rfl
  refine zT_here (pc2 := 1157) rfl ?_
  refine zT_gos (f := 200000) (pc2 := 1811) (ls2 := [(4, .int 6), (3, .ref 232), (2, .ref 162), (1, .ref 0), (0, .ref 11)]) (st2 := [.int 1]) (h2 := (((((((zH0.set 37 (.inr (.inr (.inr (3, [.ref 44, .ref 6, .ref 76, .ref 78, .ref 80, .ref 88, .int 1, .int 0, .ref 96, .int 0, .int 0, .int 0, .ref 98, .ref 100, .int 0]))))).set 40 (.inr (.inr (.inr (6, [.int 1, .long 70644700037184, .int 0, .ref 82, .ref 84, .ref 86]))))).set 43 (.inr (.inl (16, [70644700037184])))).set 106 (.inl (2, 2, [1, 0]))).set 105 (.inl (0, 2, [0]))).set 107 (.inl (0, 132, [0, 0, 0, 0, 0, 0]))).set 109 (.inl (0, 22, [0])))) (dc2 := 117) (ds2 := 29934) 10 rfl ?_
  exact zT_ret rfl rfl
set_option maxRecDepth 1000000 in
set_option maxHeartbeats 4000000 in
theorem zo_24_34 (xs : Nat → Int32) (h0 : xs 0 &&& 63 = 24) (h1 : xs 1 = 0) (h3 : xs 3 = 3) (h2 : 2 < (xs 2).toInt) : zDone xs := by
  refine ⟨(((((((zH0.set 37 (.inr (.inr (.inr (3, [.ref 44, .ref 6, .ref 76, .ref 78, .ref 80, .ref 88, .int 1, .int 0, .ref 96, .int 0, .int 0, .int 0, .ref 98, .ref 100, .int 0]))))).set 40 (.inr (.inr (.inr (6, [.int 1, .long 70644700037184, .int 0, .ref 82, .ref 84, .ref 86]))))).set 43 (.inr (.inl (16, [70644700037184])))).set 106 (.inl (2, 2, [1, 0]))).set 105 (.inl (0, 2, [0]))).set 107 (.inl (0, 132, [0, 0, 0, 0, 0, 0]))).set 109 (.inl (0, 22, [0]))), 117, 29934, ?_, by decide, by decide⟩
  refine zT_gos (f := 200000) (pc2 := 37) (ls2 := [(4, .int 0), (3, .ref 232), (2, .ref 162), (1, .ref 0), (0, .ref 11)]) (st2 := [.int (xs 0)]) (h2 := zH0) (dc2 := 117) (ds2 := 29934) 9 rfl ?_
  refine zT_gos (f := 200000) (pc2 := 40) (ls2 := [(4, .int 0), (3, .ref 232), (2, .ref 162), (1, .ref 0), (0, .ref 11)]) (st2 := [.int ((xs 0) &&& (63 : Int32))]) (h2 := zH0) (dc2 := 117) (ds2 := 29934) 2 rfl ?_
  refine zT_val h0 ?_
  refine zT_gos (f := 200000) (pc2 := 1104) (ls2 := [(4, .int 0), (3, .ref 232), (2, .ref 162), (1, .ref 0), (0, .ref 11)]) (st2 := [.int (xs 1), .ref 0]) (h2 := zH0) (dc2 := 117) (ds2 := 29934) 7 rfl ?_
  refine zT_val h1 ?_
  refine zT_gos (f := 200000) (pc2 := 1118) (ls2 := [(4, .int 0), (3, .ref 232), (2, .ref 162), (1, .ref 0), (0, .ref 11)]) (st2 := [.int (xs 2), .int 0, .ref 0]) (h2 := zH0) (dc2 := 117) (ds2 := 29934) 7 rfl ?_
  refine zT_gos (f := 200000) (pc2 := 1124) (ls2 := [(4, .int 0), (3, .ref 232), (2, .ref 162), (1, .ref 0), (0, .ref 11)]) (st2 := [.int (xs 3), .int (xs 2), .int 0, .ref 0]) (h2 := zH0) (dc2 := 117) (ds2 := 29934) 5 rfl ?_
  refine zT_val h3 ?_
  refine zT_call (v := some (.int (-9999))) (h2 := (((zH0.set 37 (.inr (.inr (.inr (3, [.ref 44, .ref 6, .ref 76, .ref 78, .ref 80, .ref 88, .int 1, .int 0, .ref 96, .int 0, .int 0, .int 0, .ref 98, .ref 100, .int 0]))))).set 40 (.inr (.inr (.inr (6, [.int 1, .long 70644700037184, .int 0, .ref 82, .ref 84, .ref 86]))))).set 43 (.inr (.inl (16, [70644700037184]))))) (d1 := 0) (s1 := 0) rfl rfl ?_ ?_
  · refine zT_gos (f := 200000) (pc2 := 42) (ls2 := [(4, .ref 80), (0, .ref 0), (1, .int 0), (2, .int (xs 2)), (3, .int 3)]) (st2 := [.int (-2), .int (xs 2)]) (h2 := (((zH0.set 37 (.inr (.inr (.inr (3, [.ref 44, .ref 6, .ref 76, .ref 78, .ref 80, .ref 88, .int 1, .int 0, .ref 96, .int 0, .int 0, .int 0, .ref 98, .ref 100, .int 0]))))).set 40 (.inr (.inr (.inr (6, [.int 1, .long 70644700037184, .int 0, .ref 82, .ref 84, .ref 86]))))).set 43 (.inr (.inl (16, [70644700037184]))))) (dc2 := 0) (ds2 := 0) 18 rfl ?_
    refine zT_if2 false rfl (zc_lt_f (by show ((xs 2) : Int32).toInt ≥ -2; omega)) ?_
    refine zT_here (pc2 := 45) rfl ?_
    refine zT_gos (f := 200000) (pc2 := 59) (ls2 := [(4, .ref 80), (0, .ref 0), (1, .int 0), (2, .int (xs 2)), (3, .int 3)]) (st2 := [.int 2, .int (xs 2)]) (h2 := (((zH0.set 37 (.inr (.inr (.inr (3, [.ref 44, .ref 6, .ref 76, .ref 78, .ref 80, .ref 88, .int 1, .int 0, .ref 96, .int 0, .int 0, .int 0, .ref 98, .ref 100, .int 0]))))).set 40 (.inr (.inr (.inr (6, [.int 1, .long 70644700037184, .int 0, .ref 82, .ref 84, .ref 86]))))).set 43 (.inr (.inl (16, [70644700037184]))))) (dc2 := 0) (ds2 := 0) 7 rfl ?_
    refine zT_if2 false rfl (zc_le_f (by show ((xs 2) : Int32).toInt > 2; omega)) ?_
    refine zT_here (pc2 := 62) rfl ?_
    refine zT_gos (f := 200000) (pc2 := 65) (ls2 := [(4, .ref 80), (0, .ref 0), (1, .int 0), (2, .int (xs 2)), (3, .int 3)]) (st2 := [.int (-9999)]) (h2 := (((zH0.set 37 (.inr (.inr (.inr (3, [.ref 44, .ref 6, .ref 76, .ref 78, .ref 80, .ref 88, .int 1, .int 0, .ref 96, .int 0, .int 0, .int 0, .ref 98, .ref 100, .int 0]))))).set 40 (.inr (.inr (.inr (6, [.int 1, .long 70644700037184, .int 0, .ref 82, .ref 84, .ref 86]))))).set 43 (.inr (.inl (16, [70644700037184]))))) (dc2 := 0) (ds2 := 0) 1 rfl ?_
    exact zT_ret rfl rfl
  refine zT_here (pc2 := 1127) rfl ?_
  refine zT_gos (f := 200000) (pc2 := 1134) (ls2 := [(4, .int 0), (3, .ref 232), (2, .ref 162), (1, .ref 0), (0, .ref 11)]) (st2 := [.int (xs 1), .ref 162, .int (-9999)]) (h2 := (((zH0.set 37 (.inr (.inr (.inr (3, [.ref 44, .ref 6, .ref 76, .ref 78, .ref 80, .ref 88, .int 1, .int 0, .ref 96, .int 0, .int 0, .int 0, .ref 98, .ref 100, .int 0]))))).set 40 (.inr (.inr (.inr (6, [.int 1, .long 70644700037184, .int 0, .ref 82, .ref 84, .ref 86]))))).set 43 (.inr (.inl (16, [70644700037184]))))) (dc2 := 117) (ds2 := 29934) 6 rfl ?_
  refine zT_val h1 ?_
  refine zT_gos (f := 200000) (pc2 := 1148) (ls2 := [(4, .int 0), (3, .ref 232), (2, .ref 162), (1, .ref 0), (0, .ref 11)]) (st2 := [.int (xs 2), .int 0, .ref 162, .int (-9999)]) (h2 := (((zH0.set 37 (.inr (.inr (.inr (3, [.ref 44, .ref 6, .ref 76, .ref 78, .ref 80, .ref 88, .int 1, .int 0, .ref 96, .int 0, .int 0, .int 0, .ref 98, .ref 100, .int 0]))))).set 40 (.inr (.inr (.inr (6, [.int 1, .long 70644700037184, .int 0, .ref 82, .ref 84, .ref 86]))))).set 43 (.inr (.inl (16, [70644700037184]))))) (dc2 := 117) (ds2 := 29934) 7 rfl ?_
  refine zT_gos (f := 200000) (pc2 := 1154) (ls2 := [(4, .int 0), (3, .ref 232), (2, .ref 162), (1, .ref 0), (0, .ref 11)]) (st2 := [.int (xs 3), .int (xs 2), .int 0, .ref 162, .int (-9999)]) (h2 := (((zH0.set 37 (.inr (.inr (.inr (3, [.ref 44, .ref 6, .ref 76, .ref 78, .ref 80, .ref 88, .int 1, .int 0, .ref 96, .int 0, .int 0, .int 0, .ref 98, .ref 100, .int 0]))))).set 40 (.inr (.inr (.inr (6, [.int 1, .long 70644700037184, .int 0, .ref 82, .ref 84, .ref 86]))))).set 43 (.inr (.inl (16, [70644700037184]))))) (dc2 := 117) (ds2 := 29934) 5 rfl ?_
  refine zT_val h3 ?_
  refine zT_call (v := some (.int (-9999))) (h2 := (((((((zH0.set 37 (.inr (.inr (.inr (3, [.ref 44, .ref 6, .ref 76, .ref 78, .ref 80, .ref 88, .int 1, .int 0, .ref 96, .int 0, .int 0, .int 0, .ref 98, .ref 100, .int 0]))))).set 40 (.inr (.inr (.inr (6, [.int 1, .long 70644700037184, .int 0, .ref 82, .ref 84, .ref 86]))))).set 43 (.inr (.inl (16, [70644700037184])))).set 106 (.inl (2, 2, [1, 0]))).set 105 (.inl (0, 2, [0]))).set 107 (.inl (0, 132, [0, 0, 0, 0, 0, 0]))).set 109 (.inl (0, 22, [0])))) (d1 := 0) (s1 := 0) rfl rfl ?_ ?_
  · refine zT_gos (f := 200000) (pc2 := 7) (ls2 := [(0, .ref 162), (1, .int 0), (2, .int (xs 2)), (3, .int 3)]) (st2 := [.int 0, .ref 162]) (h2 := (((zH0.set 37 (.inr (.inr (.inr (3, [.ref 44, .ref 6, .ref 76, .ref 78, .ref 80, .ref 88, .int 1, .int 0, .ref 96, .int 0, .int 0, .int 0, .ref 98, .ref 100, .int 0]))))).set 40 (.inr (.inr (.inr (6, [.int 1, .long 70644700037184, .int 0, .ref 82, .ref 84, .ref 86]))))).set 43 (.inr (.inl (16, [70644700037184]))))) (dc2 := 0) (ds2 := 0) 5 rfl ?_
    refine zT_call rfl rfl (zT_le (zg0_le 6 xs) zk_o_19) ?_
    refine zT_here (pc2 := 10) rfl ?_
    refine zT_gos (f := 200000) (pc2 := 29) (ls2 := [(5, .int 2), (4, .int 0), (0, .ref 162), (1, .int 0), (2, .int (xs 2)), (3, .int 3)]) (st2 := [.int (-2), .int (xs 2)]) (h2 := (((((((zH0.set 37 (.inr (.inr (.inr (3, [.ref 44, .ref 6, .ref 76, .ref 78, .ref 80, .ref 88, .int 1, .int 0, .ref 96, .int 0, .int 0, .int 0, .ref 98, .ref 100, .int 0]))))).set 40 (.inr (.inr (.inr (6, [.int 1, .long 70644700037184, .int 0, .ref 82, .ref 84, .ref 86]))))).set 43 (.inr (.inl (16, [70644700037184])))).set 106 (.inl (2, 2, [1, 0]))).set 105 (.inl (0, 2, [0]))).set 107 (.inl (0, 132, [0, 0, 0, 0, 0, 0]))).set 109 (.inl (0, 22, [0])))) (dc2 := 0) (ds2 := 0) 11 rfl ?_
    refine zT_if2 false rfl (zc_lt_f (by show ((xs 2) : Int32).toInt ≥ -2; omega)) ?_
    refine zT_here (pc2 := 32) rfl ?_
    refine zT_gos (f := 200000) (pc2 := 38) (ls2 := [(5, .int 2), (4, .int 0), (0, .ref 162), (1, .int 0), (2, .int (xs 2)), (3, .int 3)]) (st2 := [.int 2, .int (xs 2)]) (h2 := (((((((zH0.set 37 (.inr (.inr (.inr (3, [.ref 44, .ref 6, .ref 76, .ref 78, .ref 80, .ref 88, .int 1, .int 0, .ref 96, .int 0, .int 0, .int 0, .ref 98, .ref 100, .int 0]))))).set 40 (.inr (.inr (.inr (6, [.int 1, .long 70644700037184, .int 0, .ref 82, .ref 84, .ref 86]))))).set 43 (.inr (.inl (16, [70644700037184])))).set 106 (.inl (2, 2, [1, 0]))).set 105 (.inl (0, 2, [0]))).set 107 (.inl (0, 132, [0, 0, 0, 0, 0, 0]))).set 109 (.inl (0, 22, [0])))) (dc2 := 0) (ds2 := 0) 4 rfl ?_
    refine zT_if2 true rfl (zc_gt_t (by show ((xs 2) : Int32).toInt > 2; omega)) ?_
    refine zT_here (pc2 := 48) rfl ?_
    refine zT_gos (f := 200000) (pc2 := 71) (ls2 := [(5, .int 2), (4, .int 0), (0, .ref 162), (1, .int 0), (2, .int (xs 2)), (3, .int 3)]) (st2 := [.int (-9999)]) (h2 := (((((((zH0.set 37 (.inr (.inr (.inr (3, [.ref 44, .ref 6, .ref 76, .ref 78, .ref 80, .ref 88, .int 1, .int 0, .ref 96, .int 0, .int 0, .int 0, .ref 98, .ref 100, .int 0]))))).set 40 (.inr (.inr (.inr (6, [.int 1, .long 70644700037184, .int 0, .ref 82, .ref 84, .ref 86]))))).set 43 (.inr (.inl (16, [70644700037184])))).set 106 (.inl (2, 2, [1, 0]))).set 105 (.inl (0, 2, [0]))).set 107 (.inl (0, 132, [0, 0, 0, 0, 0, 0]))).set 109 (.inl (0, 22, [0])))) (dc2 := 0) (ds2 := 0) 2 rfl ?_
    exact zT_ret rfl rfl
  refine zT_here (pc2 := 1157) rfl ?_
  refine zT_gos (f := 200000) (pc2 := 1811) (ls2 := [(4, .int 6), (3, .ref 232), (2, .ref 162), (1, .ref 0), (0, .ref 11)]) (st2 := [.int 1]) (h2 := (((((((zH0.set 37 (.inr (.inr (.inr (3, [.ref 44, .ref 6, .ref 76, .ref 78, .ref 80, .ref 88, .int 1, .int 0, .ref 96, .int 0, .int 0, .int 0, .ref 98, .ref 100, .int 0]))))).set 40 (.inr (.inr (.inr (6, [.int 1, .long 70644700037184, .int 0, .ref 82, .ref 84, .ref 86]))))).set 43 (.inr (.inl (16, [70644700037184])))).set 106 (.inl (2, 2, [1, 0]))).set 105 (.inl (0, 2, [0]))).set 107 (.inl (0, 132, [0, 0, 0, 0, 0, 0]))).set 109 (.inl (0, 22, [0])))) (dc2 := 117) (ds2 := 29934) 10 rfl ?_
  exact zT_ret rfl rfl
set_option maxRecDepth 1000000 in
theorem zk_o_171 : zT zg0 zF zP 125 0 [(0, .ref 0), (1, .int 0), (2, .int (-2)), (3, .int 3)] [] zH0 0 0 (some (.int 0), (((zH0.set 37 (.inr (.inr (.inr (3, [.ref 44, .ref 6, .ref 76, .ref 78, .ref 80, .ref 88, .int 1, .int 0, .ref 96, .int 0, .int 0, .int 0, .ref 98, .ref 100, .int 0]))))).set 40 (.inr (.inr (.inr (6, [.int 1, .long 70644700037184, .int 0, .ref 82, .ref 84, .ref 86]))))).set 43 (.inr (.inl (16, [70644700037184])))), 0, 0) := zclosed (n := 339) (by decide +kernel)
set_option maxRecDepth 1000000 in
theorem zk_o_172 : zT zg0 zF zP 256 0 [(0, .ref 162), (1, .int 0), (2, .int (-2)), (3, .int 3)] [] (((zH0.set 37 (.inr (.inr (.inr (3, [.ref 44, .ref 6, .ref 76, .ref 78, .ref 80, .ref 88, .int 1, .int 0, .ref 96, .int 0, .int 0, .int 0, .ref 98, .ref 100, .int 0]))))).set 40 (.inr (.inr (.inr (6, [.int 1, .long 70644700037184, .int 0, .ref 82, .ref 84, .ref 86]))))).set 43 (.inr (.inl (16, [70644700037184])))) 0 0 (some (.int 0), (((((((zH0.set 37 (.inr (.inr (.inr (3, [.ref 44, .ref 6, .ref 76, .ref 78, .ref 80, .ref 88, .int 1, .int 0, .ref 96, .int 0, .int 0, .int 0, .ref 98, .ref 100, .int 0]))))).set 40 (.inr (.inr (.inr (6, [.int 1, .long 70644700037184, .int 0, .ref 82, .ref 84, .ref 86]))))).set 43 (.inr (.inl (16, [70644700037184])))).set 106 (.inl (2, 2, [1, 0]))).set 105 (.inl (0, 2, [0]))).set 107 (.inl (0, 132, [0, 0, 0, 0, 0, 0]))).set 109 (.inl (0, 22, [0]))), 0, 0) := zclosed (n := 377) (by decide +kernel)
set_option maxRecDepth 1000000 in
set_option maxHeartbeats 4000000 in
theorem zo_24_35 (xs : Nat → Int32) (h0 : xs 0 &&& 63 = 24) (h1 : xs 1 = 0) (h3 : xs 3 = 3) (h2 : xs 2 = (-2)) : zDone xs := by
  refine ⟨(((((((zH0.set 37 (.inr (.inr (.inr (3, [.ref 44, .ref 6, .ref 76, .ref 78, .ref 80, .ref 88, .int 1, .int 0, .ref 96, .int 0, .int 0, .int 0, .ref 98, .ref 100, .int 0]))))).set 40 (.inr (.inr (.inr (6, [.int 1, .long 70644700037184, .int 0, .ref 82, .ref 84, .ref 86]))))).set 43 (.inr (.inl (16, [70644700037184])))).set 106 (.inl (2, 2, [1, 0]))).set 105 (.inl (0, 2, [0]))).set 107 (.inl (0, 132, [0, 0, 0, 0, 0, 0]))).set 109 (.inl (0, 22, [0]))), 117, 29934, ?_, by decide, by decide⟩
  refine zT_gos (f := 200000) (pc2 := 37) (ls2 := [(4, .int 0), (3, .ref 232), (2, .ref 162), (1, .ref 0), (0, .ref 11)]) (st2 := [.int (xs 0)]) (h2 := zH0) (dc2 := 117) (ds2 := 29934) 9 rfl ?_
  refine zT_gos (f := 200000) (pc2 := 40) (ls2 := [(4, .int 0), (3, .ref 232), (2, .ref 162), (1, .ref 0), (0, .ref 11)]) (st2 := [.int ((xs 0) &&& (63 : Int32))]) (h2 := zH0) (dc2 := 117) (ds2 := 29934) 2 rfl ?_
  refine zT_val h0 ?_
  refine zT_gos (f := 200000) (pc2 := 1104) (ls2 := [(4, .int 0), (3, .ref 232), (2, .ref 162), (1, .ref 0), (0, .ref 11)]) (st2 := [.int (xs 1), .ref 0]) (h2 := zH0) (dc2 := 117) (ds2 := 29934) 7 rfl ?_
  refine zT_val h1 ?_
  refine zT_gos (f := 200000) (pc2 := 1118) (ls2 := [(4, .int 0), (3, .ref 232), (2, .ref 162), (1, .ref 0), (0, .ref 11)]) (st2 := [.int (xs 2), .int 0, .ref 0]) (h2 := zH0) (dc2 := 117) (ds2 := 29934) 7 rfl ?_
  refine zT_val h2 ?_
  refine zT_gos (f := 200000) (pc2 := 1124) (ls2 := [(4, .int 0), (3, .ref 232), (2, .ref 162), (1, .ref 0), (0, .ref 11)]) (st2 := [.int (xs 3), .int (-2), .int 0, .ref 0]) (h2 := zH0) (dc2 := 117) (ds2 := 29934) 5 rfl ?_
  refine zT_val h3 ?_
  refine zT_call rfl rfl (zT_le (zg0_le 6 xs) zk_o_171) ?_
  refine zT_here (pc2 := 1127) rfl ?_
  refine zT_gos (f := 200000) (pc2 := 1134) (ls2 := [(4, .int 0), (3, .ref 232), (2, .ref 162), (1, .ref 0), (0, .ref 11)]) (st2 := [.int (xs 1), .ref 162, .int 0]) (h2 := (((zH0.set 37 (.inr (.inr (.inr (3, [.ref 44, .ref 6, .ref 76, .ref 78, .ref 80, .ref 88, .int 1, .int 0, .ref 96, .int 0, .int 0, .int 0, .ref 98, .ref 100, .int 0]))))).set 40 (.inr (.inr (.inr (6, [.int 1, .long 70644700037184, .int 0, .ref 82, .ref 84, .ref 86]))))).set 43 (.inr (.inl (16, [70644700037184]))))) (dc2 := 117) (ds2 := 29934) 6 rfl ?_
  refine zT_val h1 ?_
  refine zT_gos (f := 200000) (pc2 := 1148) (ls2 := [(4, .int 0), (3, .ref 232), (2, .ref 162), (1, .ref 0), (0, .ref 11)]) (st2 := [.int (xs 2), .int 0, .ref 162, .int 0]) (h2 := (((zH0.set 37 (.inr (.inr (.inr (3, [.ref 44, .ref 6, .ref 76, .ref 78, .ref 80, .ref 88, .int 1, .int 0, .ref 96, .int 0, .int 0, .int 0, .ref 98, .ref 100, .int 0]))))).set 40 (.inr (.inr (.inr (6, [.int 1, .long 70644700037184, .int 0, .ref 82, .ref 84, .ref 86]))))).set 43 (.inr (.inl (16, [70644700037184]))))) (dc2 := 117) (ds2 := 29934) 7 rfl ?_
  refine zT_val h2 ?_
  refine zT_gos (f := 200000) (pc2 := 1154) (ls2 := [(4, .int 0), (3, .ref 232), (2, .ref 162), (1, .ref 0), (0, .ref 11)]) (st2 := [.int (xs 3), .int (-2), .int 0, .ref 162, .int 0]) (h2 := (((zH0.set 37 (.inr (.inr (.inr (3, [.ref 44, .ref 6, .ref 76, .ref 78, .ref 80, .ref 88, .int 1, .int 0, .ref 96, .int 0, .int 0, .int 0, .ref 98, .ref 100, .int 0]))))).set 40 (.inr (.inr (.inr (6, [.int 1, .long 70644700037184, .int 0, .ref 82, .ref 84, .ref 86]))))).set 43 (.inr (.inl (16, [70644700037184]))))) (dc2 := 117) (ds2 := 29934) 5 rfl ?_
  refine zT_val h3 ?_
  refine zT_call rfl rfl (zT_le (zg0_le 6 xs) zk_o_172) ?_
  refine zT_here (pc2 := 1157) rfl ?_
  refine zT_gos (f := 200000) (pc2 := 1811) (ls2 := [(4, .int 6), (3, .ref 232), (2, .ref 162), (1, .ref 0), (0, .ref 11)]) (st2 := [.int 1]) (h2 := (((((((zH0.set 37 (.inr (.inr (.inr (3, [.ref 44, .ref 6, .ref 76, .ref 78, .ref 80, .ref 88, .int 1, .int 0, .ref 96, .int 0, .int 0, .int 0, .ref 98, .ref 100, .int 0]))))).set 40 (.inr (.inr (.inr (6, [.int 1, .long 70644700037184, .int 0, .ref 82, .ref 84, .ref 86]))))).set 43 (.inr (.inl (16, [70644700037184])))).set 106 (.inl (2, 2, [1, 0]))).set 105 (.inl (0, 2, [0]))).set 107 (.inl (0, 132, [0, 0, 0, 0, 0, 0]))).set 109 (.inl (0, 22, [0])))) (dc2 := 117) (ds2 := 29934) 10 rfl ?_
  exact zT_ret rfl rfl
set_option maxRecDepth 1000000 in
theorem zk_o_173 : zT zg0 zF zP 125 0 [(0, .ref 0), (1, .int 0), (2, .int (-1)), (3, .int 3)] [] zH0 0 0 (some (.int 0), (((zH0.set 37 (.inr (.inr (.inr (3, [.ref 44, .ref 6, .ref 76, .ref 78, .ref 80, .ref 88, .int 1, .int 0, .ref 96, .int 0, .int 0, .int 0, .ref 98, .ref 100, .int 0]))))).set 40 (.inr (.inr (.inr (6, [.int 1, .long 70644700037184, .int 0, .ref 82, .ref 84, .ref 86]))))).set 43 (.inr (.inl (16, [70644700037184])))), 0, 0) := zclosed (n := 344) (by decide +kernel)
set_option maxRecDepth 1000000 in
theorem zk_o_174 : zT zg0 zF zP 256 0 [(0, .ref 162), (1, .int 0), (2, .int (-1)), (3, .int 3)] [] (((zH0.set 37 (.inr (.inr (.inr (3, [.ref 44, .ref 6, .ref 76, .ref 78, .ref 80, .ref 88, .int 1, .int 0, .ref 96, .int 0, .int 0, .int 0, .ref 98, .ref 100, .int 0]))))).set 40 (.inr (.inr (.inr (6, [.int 1, .long 70644700037184, .int 0, .ref 82, .ref 84, .ref 86]))))).set 43 (.inr (.inl (16, [70644700037184])))) 0 0 (some (.int 0), (((((((zH0.set 37 (.inr (.inr (.inr (3, [.ref 44, .ref 6, .ref 76, .ref 78, .ref 80, .ref 88, .int 1, .int 0, .ref 96, .int 0, .int 0, .int 0, .ref 98, .ref 100, .int 0]))))).set 40 (.inr (.inr (.inr (6, [.int 1, .long 70644700037184, .int 0, .ref 82, .ref 84, .ref 86]))))).set 43 (.inr (.inl (16, [70644700037184])))).set 106 (.inl (2, 2, [1, 0]))).set 105 (.inl (0, 2, [0]))).set 107 (.inl (0, 132, [0, 0, 0, 0, 0, 0]))).set 109 (.inl (0, 22, [0]))), 0, 0) := zclosed (n := 401) (by decide +kernel)
set_option maxRecDepth 1000000 in
set_option maxHeartbeats 4000000 in
theorem zo_24_36 (xs : Nat → Int32) (h0 : xs 0 &&& 63 = 24) (h1 : xs 1 = 0) (h3 : xs 3 = 3) (h2 : xs 2 = (-1)) : zDone xs := by
  refine ⟨(((((((zH0.set 37 (.inr (.inr (.inr (3, [.ref 44, .ref 6, .ref 76, .ref 78, .ref 80, .ref 88, .int 1, .int 0, .ref 96, .int 0, .int 0, .int 0, .ref 98, .ref 100, .int 0]))))).set 40 (.inr (.inr (.inr (6, [.int 1, .long 70644700037184, .int 0, .ref 82, .ref 84, .ref 86]))))).set 43 (.inr (.inl (16, [70644700037184])))).set 106 (.inl (2, 2, [1, 0]))).set 105 (.inl (0, 2, [0]))).set 107 (.inl (0, 132, [0, 0, 0, 0, 0, 0]))).set 109 (.inl (0, 22, [0]))), 117, 29934, ?_, by decide, by decide⟩
  refine zT_gos (f := 200000) (pc2 := 37) (ls2 := [(4, .int 0), (3, .ref 232), (2, .ref 162), (1, .ref 0), (0, .ref 11)]) (st2 := [.int (xs 0)]) (h2 := zH0) (dc2 := 117) (ds2 := 29934) 9 rfl ?_
  refine zT_gos (f := 200000) (pc2 := 40) (ls2 := [(4, .int 0), (3, .ref 232), (2, .ref 162), (1, .ref 0), (0, .ref 11)]) (st2 := [.int ((xs 0) &&& (63 : Int32))]) (h2 := zH0) (dc2 := 117) (ds2 := 29934) 2 rfl ?_
  refine zT_val h0 ?_
  refine zT_gos (f := 200000) (pc2 := 1104) (ls2 := [(4, .int 0), (3, .ref 232), (2, .ref 162), (1, .ref 0), (0, .ref 11)]) (st2 := [.int (xs 1), .ref 0]) (h2 := zH0) (dc2 := 117) (ds2 := 29934) 7 rfl ?_
  refine zT_val h1 ?_
  refine zT_gos (f := 200000) (pc2 := 1118) (ls2 := [(4, .int 0), (3, .ref 232), (2, .ref 162), (1, .ref 0), (0, .ref 11)]) (st2 := [.int (xs 2), .int 0, .ref 0]) (h2 := zH0) (dc2 := 117) (ds2 := 29934) 7 rfl ?_
  refine zT_val h2 ?_
  refine zT_gos (f := 200000) (pc2 := 1124) (ls2 := [(4, .int 0), (3, .ref 232), (2, .ref 162), (1, .ref 0), (0, .ref 11)]) (st2 := [.int (xs 3), .int (-1), .int 0, .ref 0]) (h2 := zH0) (dc2 := 117) (ds2 := 29934) 5 rfl ?_
  refine zT_val h3 ?_
  refine zT_call rfl rfl (zT_le (zg0_le 6 xs) zk_o_173) ?_
  refine zT_here (pc2 := 1127) rfl ?_
  refine zT_gos (f := 200000) (pc2 := 1134) (ls2 := [(4, .int 0), (3, .ref 232), (2, .ref 162), (1, .ref 0), (0, .ref 11)]) (st2 := [.int (xs 1), .ref 162, .int 0]) (h2 := (((zH0.set 37 (.inr (.inr (.inr (3, [.ref 44, .ref 6, .ref 76, .ref 78, .ref 80, .ref 88, .int 1, .int 0, .ref 96, .int 0, .int 0, .int 0, .ref 98, .ref 100, .int 0]))))).set 40 (.inr (.inr (.inr (6, [.int 1, .long 70644700037184, .int 0, .ref 82, .ref 84, .ref 86]))))).set 43 (.inr (.inl (16, [70644700037184]))))) (dc2 := 117) (ds2 := 29934) 6 rfl ?_
  refine zT_val h1 ?_
  refine zT_gos (f := 200000) (pc2 := 1148) (ls2 := [(4, .int 0), (3, .ref 232), (2, .ref 162), (1, .ref 0), (0, .ref 11)]) (st2 := [.int (xs 2), .int 0, .ref 162, .int 0]) (h2 := (((zH0.set 37 (.inr (.inr (.inr (3, [.ref 44, .ref 6, .ref 76, .ref 78, .ref 80, .ref 88, .int 1, .int 0, .ref 96, .int 0, .int 0, .int 0, .ref 98, .ref 100, .int 0]))))).set 40 (.inr (.inr (.inr (6, [.int 1, .long 70644700037184, .int 0, .ref 82, .ref 84, .ref 86]))))).set 43 (.inr (.inl (16, [70644700037184]))))) (dc2 := 117) (ds2 := 29934) 7 rfl ?_
  refine zT_val h2 ?_
  refine zT_gos (f := 200000) (pc2 := 1154) (ls2 := [(4, .int 0), (3, .ref 232), (2, .ref 162), (1, .ref 0), (0, .ref 11)]) (st2 := [.int (xs 3), .int (-1), .int 0, .ref 162, .int 0]) (h2 := (((zH0.set 37 (.inr (.inr (.inr (3, [.ref 44, .ref 6, .ref 76, .ref 78, .ref 80, .ref 88, .int 1, .int 0, .ref 96, .int 0, .int 0, .int 0, .ref 98, .ref 100, .int 0]))))).set 40 (.inr (.inr (.inr (6, [.int 1, .long 70644700037184, .int 0, .ref 82, .ref 84, .ref 86]))))).set 43 (.inr (.inl (16, [70644700037184]))))) (dc2 := 117) (ds2 := 29934) 5 rfl ?_
  refine zT_val h3 ?_
  refine zT_call rfl rfl (zT_le (zg0_le 6 xs) zk_o_174) ?_
  refine zT_here (pc2 := 1157) rfl ?_
  refine zT_gos (f := 200000) (pc2 := 1811) (ls2 := [(4, .int 6), (3, .ref 232), (2, .ref 162), (1, .ref 0), (0, .ref 11)]) (st2 := [.int 1]) (h2 := (((((((zH0.set 37 (.inr (.inr (.inr (3, [.ref 44, .ref 6, .ref 76, .ref 78, .ref 80, .ref 88, .int 1, .int 0, .ref 96, .int 0, .int 0, .int 0, .ref 98, .ref 100, .int 0]))))).set 40 (.inr (.inr (.inr (6, [.int 1, .long 70644700037184, .int 0, .ref 82, .ref 84, .ref 86]))))).set 43 (.inr (.inl (16, [70644700037184])))).set 106 (.inl (2, 2, [1, 0]))).set 105 (.inl (0, 2, [0]))).set 107 (.inl (0, 132, [0, 0, 0, 0, 0, 0]))).set 109 (.inl (0, 22, [0])))) (dc2 := 117) (ds2 := 29934) 10 rfl ?_
  exact zT_ret rfl rfl
set_option maxRecDepth 1000000 in
theorem zk_o_175 : zT zg0 zF zP 125 0 [(0, .ref 0), (1, .int 0), (2, .int 0), (3, .int 3)] [] zH0 0 0 (some (.int 0), (((zH0.set 37 (.inr (.inr (.inr (3, [.ref 44, .ref 6, .ref 76, .ref 78, .ref 80, .ref 88, .int 1, .int 0, .ref 96, .int 0, .int 0, .int 0, .ref 98, .ref 100, .int 0]))))).set 40 (.inr (.inr (.inr (6, [.int 1, .long 70644700037184, .int 0, .ref 82, .ref 84, .ref 86]))))).set 43 (.inr (.inl (16, [70644700037184])))), 0, 0) := zclosed (n := 349) (by decide +kernel)
set_option maxRecDepth 1000000 in
theorem zk_o_176 : zT zg0 zF zP 256 0 [(0, .ref 162), (1, .int 0), (2, .int 0), (3, .int 3)] [] (((zH0.set 37 (.inr (.inr (.inr (3, [.ref 44, .ref 6, .ref 76, .ref 78, .ref 80, .ref 88, .int 1, .int 0, .ref 96, .int 0, .int 0, .int 0, .ref 98, .ref 100, .int 0]))))).set 40 (.inr (.inr (.inr (6, [.int 1, .long 70644700037184, .int 0, .ref 82, .ref 84, .ref 86]))))).set 43 (.inr (.inl (16, [70644700037184])))) 0 0 (some (.int 0), (((((((zH0.set 37 (.inr (.inr (.inr (3, [.ref 44, .ref 6, .ref 76, .ref 78, .ref 80, .ref 88, .int 1, .int 0, .ref 96, .int 0, .int 0, .int 0, .ref 98, .ref 100, .int 0]))))).set 40 (.inr (.inr (.inr (6, [.int 1, .long 70644700037184, .int 0, .ref 82, .ref 84, .ref 86]))))).set 43 (.inr (.inl (16, [70644700037184])))).set 106 (.inl (2, 2, [1, 0]))).set 105 (.inl (0, 2, [0]))).set 107 (.inl (0, 132, [0, 0, 0, 0, 0, 0]))).set 109 (.inl (0, 22, [0]))), 0, 0) := zclosed (n := 425) (by decide +kernel)
set_option maxRecDepth 1000000 in
set_option maxHeartbeats 4000000 in
theorem zo_24_37 (xs : Nat → Int32) (h0 : xs 0 &&& 63 = 24) (h1 : xs 1 = 0) (h3 : xs 3 = 3) (h2 : xs 2 = 0) : zDone xs := by
  refine ⟨(((((((zH0.set 37 (.inr (.inr (.inr (3, [.ref 44, .ref 6, .ref 76, .ref 78, .ref 80, .ref 88, .int 1, .int 0, .ref 96, .int 0, .int 0, .int 0, .ref 98, .ref 100, .int 0]))))).set 40 (.inr (.inr (.inr (6, [.int 1, .long 70644700037184, .int 0, .ref 82, .ref 84, .ref 86]))))).set 43 (.inr (.inl (16, [70644700037184])))).set 106 (.inl (2, 2, [1, 0]))).set 105 (.inl (0, 2, [0]))).set 107 (.inl (0, 132, [0, 0, 0, 0, 0, 0]))).set 109 (.inl (0, 22, [0]))), 117, 29934, ?_, by decide, by decide⟩
  refine zT_gos (f := 200000) (pc2 := 37) (ls2 := [(4, .int 0), (3, .ref 232), (2, .ref 162), (1, .ref 0), (0, .ref 11)]) (st2 := [.int (xs 0)]) (h2 := zH0) (dc2 := 117) (ds2 := 29934) 9 rfl ?_
  refine zT_gos (f := 200000) (pc2 := 40) (ls2 := [(4, .int 0), (3, .ref 232), (2, .ref 162), (1, .ref 0), (0, .ref 11)]) (st2 := [.int ((xs 0) &&& (63 : Int32))]) (h2 := zH0) (dc2 := 117) (ds2 := 29934) 2 rfl ?_
  refine zT_val h0 ?_
  refine zT_gos (f := 200000) (pc2 := 1104) (ls2 := [(4, .int 0), (3, .ref 232), (2, .ref 162), (1, .ref 0), (0, .ref 11)]) (st2 := [.int (xs 1), .ref 0]) (h2 := zH0) (dc2 := 117) (ds2 := 29934) 7 rfl ?_
  refine zT_val h1 ?_
  refine zT_gos (f := 200000) (pc2 := 1118) (ls2 := [(4, .int 0), (3, .ref 232), (2, .ref 162), (1, .ref 0), (0, .ref 11)]) (st2 := [.int (xs 2), .int 0, .ref 0]) (h2 := zH0) (dc2 := 117) (ds2 := 29934) 7 rfl ?_
  refine zT_val h2 ?_
  refine zT_gos (f := 200000) (pc2 := 1124) (ls2 := [(4, .int 0), (3, .ref 232), (2, .ref 162), (1, .ref 0), (0, .ref 11)]) (st2 := [.int (xs 3), .int 0, .int 0, .ref 0]) (h2 := zH0) (dc2 := 117) (ds2 := 29934) 5 rfl ?_
  refine zT_val h3 ?_
  refine zT_call rfl rfl (zT_le (zg0_le 6 xs) zk_o_175) ?_
  refine zT_here (pc2 := 1127) rfl ?_
  refine zT_gos (f := 200000) (pc2 := 1134) (ls2 := [(4, .int 0), (3, .ref 232), (2, .ref 162), (1, .ref 0), (0, .ref 11)]) (st2 := [.int (xs 1), .ref 162, .int 0]) (h2 := (((zH0.set 37 (.inr (.inr (.inr (3, [.ref 44, .ref 6, .ref 76, .ref 78, .ref 80, .ref 88, .int 1, .int 0, .ref 96, .int 0, .int 0, .int 0, .ref 98, .ref 100, .int 0]))))).set 40 (.inr (.inr (.inr (6, [.int 1, .long 70644700037184, .int 0, .ref 82, .ref 84, .ref 86]))))).set 43 (.inr (.inl (16, [70644700037184]))))) (dc2 := 117) (ds2 := 29934) 6 rfl ?_
  refine zT_val h1 ?_
  refine zT_gos (f := 200000) (pc2 := 1148) (ls2 := [(4, .int 0), (3, .ref 232), (2, .ref 162), (1, .ref 0), (0, .ref 11)]) (st2 := [.int (xs 2), .int 0, .ref 162, .int 0]) (h2 := (((zH0.set 37 (.inr (.inr (.inr (3, [.ref 44, .ref 6, .ref 76, .ref 78, .ref 80, .ref 88, .int 1, .int 0, .ref 96, .int 0, .int 0, .int 0, .ref 98, .ref 100, .int 0]))))).set 40 (.inr (.inr (.inr (6, [.int 1, .long 70644700037184, .int 0, .ref 82, .ref 84, .ref 86]))))).set 43 (.inr (.inl (16, [70644700037184]))))) (dc2 := 117) (ds2 := 29934) 7 rfl ?_
  refine zT_val h2 ?_
  refine zT_gos (f := 200000) (pc2 := 1154) (ls2 := [(4, .int 0), (3, .ref 232), (2, .ref 162), (1, .ref 0), (0, .ref 11)]) (st2 := [.int (xs 3), .int 0, .int 0, .ref 162, .int 0]) (h2 := (((zH0.set 37 (.inr (.inr (.inr (3, [.ref 44, .ref 6, .ref 76, .ref 78, .ref 80, .ref 88, .int 1, .int 0, .ref 96, .int 0, .int 0, .int 0, .ref 98, .ref 100, .int 0]))))).set 40 (.inr (.inr (.inr (6, [.int 1, .long 70644700037184, .int 0, .ref 82, .ref 84, .ref 86]))))).set 43 (.inr (.inl (16, [70644700037184]))))) (dc2 := 117) (ds2 := 29934) 5 rfl ?_
  refine zT_val h3 ?_
  refine zT_call rfl rfl (zT_le (zg0_le 6 xs) zk_o_176) ?_
  refine zT_here (pc2 := 1157) rfl ?_
  refine zT_gos (f := 200000) (pc2 := 1811) (ls2 := [(4, .int 6), (3, .ref 232), (2, .ref 162), (1, .ref 0), (0, .ref 11)]) (st2 := [.int 1]) (h2 := (((((((zH0.set 37 (.inr (.inr (.inr (3, [.ref 44, .ref 6, .ref 76, .ref 78, .ref 80, .ref 88, .int 1, .int 0, .ref 96, .int 0, .int 0, .int 0, .ref 98, .ref 100, .int 0]))))).set 40 (.inr (.inr (.inr (6, [.int 1, .long 70644700037184, .int 0, .ref 82, .ref 84, .ref 86]))))).set 43 (.inr (.inl (16, [70644700037184])))).set 106 (.inl (2, 2, [1, 0]))).set 105 (.inl (0, 2, [0]))).set 107 (.inl (0, 132, [0, 0, 0, 0, 0, 0]))).set 109 (.inl (0, 22, [0])))) (dc2 := 117) (ds2 := 29934) 10 rfl ?_
  exact zT_ret rfl rfl
set_option maxRecDepth 1000000 in
theorem zk_o_177 : zT zg0 zF zP 125 0 [(0, .ref 0), (1, .int 0), (2, .int 1), (3, .int 3)] [] zH0 0 0 (some (.int 0), (((zH0.set 37 (.inr (.inr (.inr (3, [.ref 44, .ref 6, .ref 76, .ref 78, .ref 80, .ref 88, .int 1, .int 0, .ref 96, .int 0, .int 0, .int 0, .ref 98, .ref 100, .int 0]))))).set 40 (.inr (.inr (.inr (6, [.int 1, .long 70644700037184, .int 0, .ref 82, .ref 84, .ref 86]))))).set 43 (.inr (.inl (16, [70644700037184])))), 0, 0) := zclosed (n := 354) (by decide +kernel)
set_option maxRecDepth 1000000 in
theorem zk_o_178 : zT zg0 zF zP 256 0 [(0, .ref 162), (1, .int 0), (2, .int 1), (3, .int 3)] [] (((zH0.set 37 (.inr (.inr (.inr (3, [.ref 44, .ref 6, .ref 76, .ref 78, .ref 80, .ref 88, .int 1, .int 0, .ref 96, .int 0, .int 0, .int 0, .ref 98, .ref 100, .int 0]))))).set 40 (.inr (.inr (.inr (6, [.int 1, .long 70644700037184, .int 0, .ref 82, .ref 84, .ref 86]))))).set 43 (.inr (.inl (16, [70644700037184])))) 0 0 (some (.int 0), (((((((zH0.set 37 (.inr (.inr (.inr (3, [.ref 44, .ref 6, .ref 76, .ref 78, .ref 80, .ref 88, .int 1, .int 0, .ref 96, .int 0, .int 0, .int 0, .ref 98, .ref 100, .int 0]))))).set 40 (.inr (.inr (.inr (6, [.int 1, .long 70644700037184, .int 0, .ref 82, .ref 84, .ref 86]))))).set 43 (.inr (.inl (16, [70644700037184])))).set 106 (.inl (2, 2, [1, 0]))).set 105 (.inl (0, 2, [0]))).set 107 (.inl (0, 132, [0, 0, 0, 0, 0, 0]))).set 109 (.inl (0, 22, [0]))), 0, 0) := zclosed (n := 449) (by decide +kernel)
set_option maxRecDepth 1000000 in
set_option maxHeartbeats 4000000 in
theorem zo_24_38 (xs : Nat → Int32) (h0 : xs 0 &&& 63 = 24) (h1 : xs 1 = 0) (h3 : xs 3 = 3) (h2 : xs 2 = 1) : zDone xs := by
  refine ⟨(((((((zH0.set 37 (.inr (.inr (.inr (3, [.ref 44, .ref 6, .ref 76, .ref 78, .ref 80, .ref 88, .int 1, .int 0, .ref 96, .int 0, .int 0, .int 0, .ref 98, .ref 100, .int 0]))))).set 40 (.inr (.inr (.inr (6, [.int 1, .long 70644700037184, .int 0, .ref 82, .ref 84, .ref 86]))))).set 43 (.inr (.inl (16, [70644700037184])))).set 106 (.inl (2, 2, [1, 0]))).set 105 (.inl (0, 2, [0]))).set 107 (.inl (0, 132, [0, 0, 0, 0, 0, 0]))).set 109 (.inl (0, 22, [0]))), 117, 29934, ?_, by decide, by decide⟩
  refine zT_gos (f := 200000) (pc2 := 37) (ls2 := [(4, .int 0), (3, .ref 232), (2, .ref 162), (1, .ref 0), (0, .ref 11)]) (st2 := [.int (xs 0)]) (h2 := zH0) (dc2 := 117) (ds2 := 29934) 9 rfl ?_
  refine zT_gos (f := 200000) (pc2 := 40) (ls2 := [(4, .int 0), (3, .ref 232), (2, .ref 162), (1, .ref 0), (0, .ref 11)]) (st2 := [.int ((xs 0) &&& (63 : Int32))]) (h2 := zH0) (dc2 := 117) (ds2 := 29934) 2 rfl ?_
  refine zT_val h0 ?_
  refine zT_gos (f := 200000) (pc2 := 1104) (ls2 := [(4, .int 0), (3, .ref 232), (2, .ref 162), (1, .ref 0), (0, .ref 11)]) (st2 := [.int (xs 1), .ref 0]) (h2 := zH0) (dc2 := 117) (ds2 := 29934) 7 rfl ?_
  refine zT_val h1 ?_
  refine zT_gos (f := 200000) (pc2 := 1118) (ls2 := [(4, .int 0), (3, .ref 232), (2, .ref 162), (1, .ref 0), (0, .ref 11)]) (st2 := [.int (xs 2), .int 0, .ref 0]) (h2 := zH0) (dc2 := 117) (ds2 := 29934) 7 rfl ?_
  refine zT_val h2 ?_
  refine zT_gos (f := 200000) (pc2 := 1124) (ls2 := [(4, .int 0), (3, .ref 232), (2, .ref 162), (1, .ref 0), (0, .ref 11)]) (st2 := [.int (xs 3), .int 1, .int 0, .ref 0]) (h2 := zH0) (dc2 := 117) (ds2 := 29934) 5 rfl ?_
  refine zT_val h3 ?_
  refine zT_call rfl rfl (zT_le (zg0_le 6 xs) zk_o_177) ?_
  refine zT_here (pc2 := 1127) rfl ?_
  refine zT_gos (f := 200000) (pc2 := 1134) (ls2 := [(4, .int 0), (3, .ref 232), (2, .ref 162), (1, .ref 0), (0, .ref 11)]) (st2 := [.int (xs 1), .ref 162, .int 0]) (h2 := (((zH0.set 37 (.inr (.inr (.inr (3, [.ref 44, .ref 6, .ref 76, .ref 78, .ref 80, .ref 88, .int 1, .int 0, .ref 96, .int 0, .int 0, .int 0, .ref 98, .ref 100, .int 0]))))).set 40 (.inr (.inr (.inr (6, [.int 1, .long 70644700037184, .int 0, .ref 82, .ref 84, .ref 86]))))).set 43 (.inr (.inl (16, [70644700037184]))))) (dc2 := 117) (ds2 := 29934) 6 rfl ?_
  refine zT_val h1 ?_
  refine zT_gos (f := 200000) (pc2 := 1148) (ls2 := [(4, .int 0), (3, .ref 232), (2, .ref 162), (1, .ref 0), (0, .ref 11)]) (st2 := [.int (xs 2), .int 0, .ref 162, .int 0]) (h2 := (((zH0.set 37 (.inr (.inr (.inr (3, [.ref 44, .ref 6, .ref 76, .ref 78, .ref 80, .ref 88, .int 1, .int 0, .ref 96, .int 0, .int 0, .int 0, .ref 98, .ref 100, .int 0]))))).set 40 (.inr (.inr (.inr (6, [.int 1, .long 70644700037184, .int 0, .ref 82, .ref 84, .ref 86]))))).set 43 (.inr (.inl (16, [70644700037184]))))) (dc2 := 117) (ds2 := 29934) 7 rfl ?_
  refine zT_val h2 ?_
  refine zT_gos (f := 200000) (pc2 := 1154) (ls2 := [(4, .int 0), (3, .ref 232), (2, .ref 162), (1, .ref 0), (0, .ref 11)]) (st2 := [.int (xs 3), .int 1, .int 0, .ref 162, .int 0]) (h2 := (((zH0.set 37 (.inr (.inr (.inr (3, [.ref 44, .ref 6, .ref 76, .ref 78, .ref 80, .ref 88, .int 1, .int 0, .ref 96, .int 0, .int 0, .int 0, .ref 98, .ref 100, .int 0]))))).set 40 (.inr (.inr (.inr (6, [.int 1, .long 70644700037184, .int 0, .ref 82, .ref 84, .ref 86]))))).set 43 (.inr (.inl (16, [70644700037184]))))) (dc2 := 117) (ds2 := 29934) 5 rfl ?_
  refine zT_val h3 ?_
  refine zT_call rfl rfl (zT_le (zg0_le 6 xs) zk_o_178) ?_
  refine zT_here (pc2 := 1157) rfl ?_
  refine zT_gos (f := 200000) (pc2 := 1811) (ls2 := [(4, .int 6), (3, .ref 232), (2, .ref 162), (1, .ref 0), (0, .ref 11)]) (st2 := [.int 1]) (h2 := (((((((zH0.set 37 (.inr (.inr (.inr (3, [.ref 44, .ref 6, .ref 76, .ref 78, .ref 80, .ref 88, .int 1, .int 0, .ref 96, .int 0, .int 0, .int 0, .ref 98, .ref 100, .int 0]))))).set 40 (.inr (.inr (.inr (6, [.int 1, .long 70644700037184, .int 0, .ref 82, .ref 84, .ref 86]))))).set 43 (.inr (.inl (16, [70644700037184])))).set 106 (.inl (2, 2, [1, 0]))).set 105 (.inl (0, 2, [0]))).set 107 (.inl (0, 132, [0, 0, 0, 0, 0, 0]))).set 109 (.inl (0, 22, [0])))) (dc2 := 117) (ds2 := 29934) 10 rfl ?_
  exact zT_ret rfl rfl
set_option maxRecDepth 1000000 in
theorem zk_o_179 : zT zg0 zF zP 125 0 [(0, .ref 0), (1, .int 0), (2, .int 2), (3, .int 3)] [] zH0 0 0 (some (.int 0), (((zH0.set 37 (.inr (.inr (.inr (3, [.ref 44, .ref 6, .ref 76, .ref 78, .ref 80, .ref 88, .int 1, .int 0, .ref 96, .int 0, .int 0, .int 0, .ref 98, .ref 100, .int 0]))))).set 40 (.inr (.inr (.inr (6, [.int 1, .long 70644700037184, .int 0, .ref 82, .ref 84, .ref 86]))))).set 43 (.inr (.inl (16, [70644700037184])))), 0, 0) := zclosed (n := 359) (by decide +kernel)
set_option maxRecDepth 1000000 in
theorem zk_o_180 : zT zg0 zF zP 256 0 [(0, .ref 162), (1, .int 0), (2, .int 2), (3, .int 3)] [] (((zH0.set 37 (.inr (.inr (.inr (3, [.ref 44, .ref 6, .ref 76, .ref 78, .ref 80, .ref 88, .int 1, .int 0, .ref 96, .int 0, .int 0, .int 0, .ref 98, .ref 100, .int 0]))))).set 40 (.inr (.inr (.inr (6, [.int 1, .long 70644700037184, .int 0, .ref 82, .ref 84, .ref 86]))))).set 43 (.inr (.inl (16, [70644700037184])))) 0 0 (some (.int 0), (((((((zH0.set 37 (.inr (.inr (.inr (3, [.ref 44, .ref 6, .ref 76, .ref 78, .ref 80, .ref 88, .int 1, .int 0, .ref 96, .int 0, .int 0, .int 0, .ref 98, .ref 100, .int 0]))))).set 40 (.inr (.inr (.inr (6, [.int 1, .long 70644700037184, .int 0, .ref 82, .ref 84, .ref 86]))))).set 43 (.inr (.inl (16, [70644700037184])))).set 106 (.inl (2, 2, [1, 0]))).set 105 (.inl (0, 2, [0]))).set 107 (.inl (0, 132, [0, 0, 0, 0, 0, 0]))).set 109 (.inl (0, 22, [0]))), 0, 0) := zclosed (n := 473) (by decide +kernel)
set_option maxRecDepth 1000000 in
set_option maxHeartbeats 4000000 in
theorem zo_24_39 (xs : Nat → Int32) (h0 : xs 0 &&& 63 = 24) (h1 : xs 1 = 0) (h3 : xs 3 = 3) (h2 : xs 2 = 2) : zDone xs := by
  refine ⟨(((((((zH0.set 37 (.inr (.inr (.inr (3, [.ref 44, .ref 6, .ref 76, .ref 78, .ref 80, .ref 88, .int 1, .int 0, .ref 96, .int 0, .int 0, .int 0, .ref 98, .ref 100, .int 0]))))).set 40 (.inr (.inr (.inr (6, [.int 1, .long 70644700037184, .int 0, .ref 82, .ref 84, .ref 86]))))).set 43 (.inr (.inl (16, [70644700037184])))).set 106 (.inl (2, 2, [1, 0]))).set 105 (.inl (0, 2, [0]))).set 107 (.inl (0, 132, [0, 0, 0, 0, 0, 0]))).set 109 (.inl (0, 22, [0]))), 117, 29934, ?_, by decide, by decide⟩
  refine zT_gos (f := 200000) (pc2 := 37) (ls2 := [(4, .int 0), (3, .ref 232), (2, .ref 162), (1, .ref 0), (0, .ref 11)]) (st2 := [.int (xs 0)]) (h2 := zH0) (dc2 := 117) (ds2 := 29934) 9 rfl ?_
  refine zT_gos (f := 200000) (pc2 := 40) (ls2 := [(4, .int 0), (3, .ref 232), (2, .ref 162), (1, .ref 0), (0, .ref 11)]) (st2 := [.int ((xs 0) &&& (63 : Int32))]) (h2 := zH0) (dc2 := 117) (ds2 := 29934) 2 rfl ?_
  refine zT_val h0 ?_
  refine zT_gos (f := 200000) (pc2 := 1104) (ls2 := [(4, .int 0), (3, .ref 232), (2, .ref 162), (1, .ref 0), (0, .ref 11)]) (st2 := [.int (xs 1), .ref 0]) (h2 := zH0) (dc2 := 117) (ds2 := 29934) 7 rfl ?_
  refine zT_val h1 ?_
  refine zT_gos (f := 200000) (pc2 := 1118) (ls2 := [(4, .int 0), (3, .ref 232), (2, .ref 162), (1, .ref 0), (0, .ref 11)]) (st2 := [.int (xs 2), .int 0, .ref 0]) (h2 := zH0) (dc2 := 117) (ds2 := 29934) 7 rfl ?_
  refine zT_val h2 ?_
  refine zT_gos (f := 200000) (pc2 := 1124) (ls2 := [(4, .int 0), (3, .ref 232), (2, .ref 162), (1, .ref 0), (0, .ref 11)]) (st2 := [.int (xs 3), .int 2, .int 0, .ref 0]) (h2 := zH0) (dc2 := 117) (ds2 := 29934) 5 rfl ?_
  refine zT_val h3 ?_
  refine zT_call rfl rfl (zT_le (zg0_le 6 xs) zk_o_179) ?_
  refine zT_here (pc2 := 1127) rfl ?_
  refine zT_gos (f := 200000) (pc2 := 1134) (ls2 := [(4, .int 0), (3, .ref 232), (2, .ref 162), (1, .ref 0), (0, .ref 11)]) (st2 := [.int (xs 1), .ref 162, .int 0]) (h2 := (((zH0.set 37 (.inr (.inr (.inr (3, [.ref 44, .ref 6, .ref 76, .ref 78, .ref 80, .ref 88, .int 1, .int 0, .ref 96, .int 0, .int 0, .int 0, .ref 98, .ref 100, .int 0]))))).set 40 (.inr (.inr (.inr (6, [.int 1, .long 70644700037184, .int 0, .ref 82, .ref 84, .ref 86]))))).set 43 (.inr (.inl (16, [70644700037184]))))) (dc2 := 117) (ds2 := 29934) 6 rfl ?_
  refine zT_val h1 ?_
  refine zT_gos (f := 200000) (pc2 := 1148) (ls2 := [(4, .int 0), (3, .ref 232), (2, .ref 162), (1, .ref 0), (0, .ref 11)]) (st2 := [.int (xs 2), .int 0, .ref 162, .int 0]) (h2 := (((zH0.set 37 (.inr (.inr (.inr (3, [.ref 44, .ref 6, .ref 76, .ref 78, .ref 80, .ref 88, .int 1, .int 0, .ref 96, .int 0, .int 0, .int 0, .ref 98, .ref 100, .int 0]))))).set 40 (.inr (.inr (.inr (6, [.int 1, .long 70644700037184, .int 0, .ref 82, .ref 84, .ref 86]))))).set 43 (.inr (.inl (16, [70644700037184]))))) (dc2 := 117) (ds2 := 29934) 7 rfl ?_
  refine zT_val h2 ?_
  refine zT_gos (f := 200000) (pc2 := 1154) (ls2 := [(4, .int 0), (3, .ref 232), (2, .ref 162), (1, .ref 0), (0, .ref 11)]) (st2 := [.int (xs 3), .int 2, .int 0, .ref 162, .int 0]) (h2 := (((zH0.set 37 (.inr (.inr (.inr (3, [.ref 44, .ref 6, .ref 76, .ref 78, .ref 80, .ref 88, .int 1, .int 0, .ref 96, .int 0, .int 0, .int 0, .ref 98, .ref 100, .int 0]))))).set 40 (.inr (.inr (.inr (6, [.int 1, .long 70644700037184, .int 0, .ref 82, .ref 84, .ref 86]))))).set 43 (.inr (.inl (16, [70644700037184]))))) (dc2 := 117) (ds2 := 29934) 5 rfl ?_
  refine zT_val h3 ?_
  refine zT_call rfl rfl (zT_le (zg0_le 6 xs) zk_o_180) ?_
  refine zT_here (pc2 := 1157) rfl ?_
  refine zT_gos (f := 200000) (pc2 := 1811) (ls2 := [(4, .int 6), (3, .ref 232), (2, .ref 162), (1, .ref 0), (0, .ref 11)]) (st2 := [.int 1]) (h2 := (((((((zH0.set 37 (.inr (.inr (.inr (3, [.ref 44, .ref 6, .ref 76, .ref 78, .ref 80, .ref 88, .int 1, .int 0, .ref 96, .int 0, .int 0, .int 0, .ref 98, .ref 100, .int 0]))))).set 40 (.inr (.inr (.inr (6, [.int 1, .long 70644700037184, .int 0, .ref 82, .ref 84, .ref 86]))))).set 43 (.inr (.inl (16, [70644700037184])))).set 106 (.inl (2, 2, [1, 0]))).set 105 (.inl (0, 2, [0]))).set 107 (.inl (0, 132, [0, 0, 0, 0, 0, 0]))).set 109 (.inl (0, 22, [0])))) (dc2 := 117) (ds2 := 29934) 10 rfl ?_
  exact zT_ret rfl rfl
set_option maxRecDepth 1000000 in
set_option maxHeartbeats 4000000 in
theorem zo_24_40 (xs : Nat → Int32) (h0 : xs 0 &&& 63 = 24) (h1 : xs 1 = 0) (h3 : xs 3 = 4) (h2 : (xs 2).toInt < -2) : zDone xs := by
  refine ⟨(((((((zH0.set 37 (.inr (.inr (.inr (3, [.ref 44, .ref 6, .ref 76, .ref 78, .ref 80, .ref 88, .int 1, .int 0, .ref 96, .int 0, .int 0, .int 0, .ref 98, .ref 100, .int 0]))))).set 40 (.inr (.inr (.inr (6, [.int 1, .long 70644700037184, .int 0, .ref 82, .ref 84, .ref 86]))))).set 43 (.inr (.inl (16, [70644700037184])))).set 106 (.inl (2, 2, [1, 0]))).set 105 (.inl (0, 2, [0]))).set 107 (.inl (0, 132, [0, 0, 0, 0, 0, 0]))).set 109 (.inl (0, 22, [0]))), 117, 29934, ?_, by decide, by decide⟩
  refine zT_gos (f := 200000) (pc2 := 37) (ls2 := [(4, .int 0), (3, .ref 232), (2, .ref 162), (1, .ref 0), (0, .ref 11)]) (st2 := [.int (xs 0)]) (h2 := zH0) (dc2 := 117) (ds2 := 29934) 9 rfl ?_
  refine zT_gos (f := 200000) (pc2 := 40) (ls2 := [(4, .int 0), (3, .ref 232), (2, .ref 162), (1, .ref 0), (0, .ref 11)]) (st2 := [.int ((xs 0) &&& (63 : Int32))]) (h2 := zH0) (dc2 := 117) (ds2 := 29934) 2 rfl ?_
  refine zT_val h0 ?_
  refine zT_gos (f := 200000) (pc2 := 1104) (ls2 := [(4, .int 0), (3, .ref 232), (2, .ref 162), (1, .ref 0), (0, .ref 11)]) (st2 := [.int (xs 1), .ref 0]) (h2 := zH0) (dc2 := 117) (ds2 := 29934) 7 rfl ?_
  refine zT_val h1 ?_
  refine zT_gos (f := 200000) (pc2 := 1118) (ls2 := [(4, .int 0), (3, .ref 232), (2, .ref 162), (1, .ref 0), (0, .ref 11)]) (st2 := [.int (xs 2), .int 0, .ref 0]) (h2 := zH0) (dc2 := 117) (ds2 := 29934) 7 rfl ?_
  refine zT_gos (f := 200000) (pc2 := 1124) (ls2 := [(4, .int 0), (3, .ref 232), (2, .ref 162), (1, .ref 0), (0, .ref 11)]) (st2 := [.int (xs 3), .int (xs 2), .int 0, .ref 0]) (h2 := zH0) (dc2 := 117) (ds2 := 29934) 5 rfl ?_
  refine zT_val h3 ?_
  refine zT_call (v := some (.int (-9999))) (h2 := (((zH0.set 37 (.inr (.inr (.inr (3, [.ref 44, .ref 6, .ref 76, .ref 78, .ref 80, .ref 88, .int 1, .int 0, .ref 96, .int 0, .int 0, .int 0, .ref 98, .ref 100, .int 0]))))).set 40 (.inr (.inr (.inr (6, [.int 1, .long 70644700037184, .int 0, .ref 82, .ref 84, .ref 86]))))).set 43 (.inr (.inl (16, [70644700037184]))))) (d1 := 0) (s1 := 0) rfl rfl ?_ ?_
  · refine zT_gos (f := 200000) (pc2 := 42) (ls2 := [(4, .ref 80), (0, .ref 0), (1, .int 0), (2, .int (xs 2)), (3, .int 4)]) (st2 := [.int (-2), .int (xs 2)]) (h2 := (((zH0.set 37 (.inr (.inr (.inr (3, [.ref 44, .ref 6, .ref 76, .ref 78, .ref 80, .ref 88, .int 1, .int 0, .ref 96, .int 0, .int 0, .int 0, .ref 98, .ref 100, .int 0]))))).set 40 (.inr (.inr (.inr (6, [.int 1, .long 70644700037184, .int 0, .ref 82, .ref 84, .ref 86]))))).set 43 (.inr (.inl (16, [70644700037184]))))) (dc2 := 0) (ds2 := 0) 18 rfl ?_
    refine zT_if2 true rfl (zc_lt_t (by show ((xs 2) : Int32).toInt < -2; omega)) ?_
    refine zT_here (pc2 := 62) rfl ?_
    refine zT_gos (f := 200000) (pc2 := 65) (ls2 := [(4, .ref 80), (0, .ref 0), (1, .int 0), (2, .int (xs 2)), (3, .int 4)]) (st2 := [.int (-9999)]) (h2 := (((zH0.set 37 (.inr (.inr (.inr (3, [.ref 44, .ref 6, .ref 76, .ref 78, .ref 80, .ref 88, .int 1, .int 0, .ref 96, .int 0, .int 0, .int 0, .ref 98, .ref 100, .int 0]))))).set 40 (.inr (.inr (.inr (6, [.int 1, .long 70644700037184, .int 0, .ref 82, .ref 84, .ref 86]))))).set 43 (.inr (.inl (16, [70644700037184]))))) (dc2 := 0) (ds2 := 0) 1 rfl ?_
    exact zT_ret rfl rfl
  refine zT_here (pc2 := 1127) rfl ?_
  refine zT_gos (f := 200000) (pc2 := 1134) (ls2 := [(4, .int 0), (3, .ref 232), (2, .ref 162), (1, .ref 0), (0, .ref 11)]) (st2 := [.int (xs 1), .ref 162, .int (-9999)]) (h2 := (((zH0.set 37 (.inr (.inr (.inr (3, [.ref 44, .ref 6, .ref 76, .ref 78, .ref 80, .ref 88, .int 1, .int 0, .ref 96, .int 0, .int 0, .int 0, .ref 98, .ref 100, .int 0]))))).set 40 (.inr (.inr (.inr (6, [.int 1, .long 70644700037184, .int 0, .ref 82, .ref 84, .ref 86]))))).set 43 (.inr (.inl (16, [70644700037184]))))) (dc2 := 117) (ds2 := 29934) 6 rfl ?_
  refine zT_val h1 ?_
  refine zT_gos (f := 200000) (pc2 := 1148) (ls2 := [(4, .int 0), (3, .ref 232), (2, .ref 162), (1, .ref 0), (0, .ref 11)]) (st2 := [.int (xs 2), .int 0, .ref 162, .int (-9999)]) (h2 := (((zH0.set 37 (.inr (.inr (.inr (3, [.ref 44, .ref 6, .ref 76, .ref 78, .ref 80, .ref 88, .int 1, .int 0, .ref 96, .int 0, .int 0, .int 0, .ref 98, .ref 100, .int 0]))))).set 40 (.inr (.inr (.inr (6, [.int 1, .long 70644700037184, .int 0, .ref 82, .ref 84, .ref 86]))))).set 43 (.inr (.inl (16, [70644700037184]))))) (dc2 := 117) (ds2 := 29934) 7 rfl ?_
  refine zT_gos (f := 200000) (pc2 := 1154) (ls2 := [(4, .int 0), (3, .ref 232), (2, .ref 162), (1, .ref 0), (0, .ref 11)]) (st2 := [.int (xs 3), .int (xs 2), .int 0, .ref 162, .int (-9999)]) (h2 := (((zH0.set 37 (.inr (.inr (.inr (3, [.ref 44, .ref 6, .ref 76, .ref 78, .ref 80, .ref 88, .int 1, .int 0, .ref 96, .int 0, .int 0, .int 0, .ref 98, .ref 100, .int 0]))))).set 40 (.inr (.inr (.inr (6, [.int 1, .long 70644700037184, .int 0, .ref 82, .ref 84, .ref 86]))))).set 43 (.inr (.inl (16, [70644700037184]))))) (dc2 := 117) (ds2 := 29934) 5 rfl ?_
  refine zT_val h3 ?_
  refine zT_call (v := some (.int (-9999))) (h2 := (((((((zH0.set 37 (.inr (.inr (.inr (3, [.ref 44, .ref 6, .ref 76, .ref 78, .ref 80, .ref 88, .int 1, .int 0, .ref 96, .int 0, .int 0, .int 0, .ref 98, .ref 100, .int 0]))))).set 40 (.inr (.inr (.inr (6, [.int 1, .long 70644700037184, .int 0, .ref 82, .ref 84, .ref 86]))))).set 43 (.inr (.inl (16, [70644700037184])))).set 106 (.inl (2, 2, [1, 0]))).set 105 (.inl (0, 2, [0]))).set 107 (.inl (0, 132, [0, 0, 0, 0, 0, 0]))).set 109 (.inl (0, 22, [0])))) (d1 := 0) (s1 := 0) rfl rfl ?_ ?_
  · refine zT_gos (f := 200000) (pc2 := 7) (ls2 := [(0, .ref 162), (1, .int 0), (2, .int (xs 2)), (3, .int 4)]) (st2 := [.int 0, .ref 162]) (h2 := (((zH0.set 37 (.inr (.inr (.inr (3, [.ref 44, .ref 6, .ref 76, .ref 78, .ref 80, .ref 88, .int 1, .int 0, .ref 96, .int 0, .int 0, .int 0, .ref 98, .ref 100, .int 0]))))).set 40 (.inr (.inr (.inr (6, [.int 1, .long 70644700037184, .int 0, .ref 82, .ref 84, .ref 86]))))).set 43 (.inr (.inl (16, [70644700037184]))))) (dc2 := 0) (ds2 := 0) 5 rfl ?_
    refine zT_call rfl rfl (zT_le (zg0_le 6 xs) zk_o_19) ?_
    refine zT_here (pc2 := 10) rfl ?_
    refine zT_gos (f := 200000) (pc2 := 29) (ls2 := [(5, .int 2), (4, .int 0), (0, .ref 162), (1, .int 0), (2, .int (xs 2)), (3, .int 4)]) (st2 := [.int (-2), .int (xs 2)]) (h2 := (((((((zH0.set 37 (.inr (.inr (.inr (3, [.ref 44, .ref 6, .ref 76, .ref 78, .ref 80, .ref 88, .int 1, .int 0, .ref 96, .int 0, .int 0, .int 0, .ref 98, .ref 100, .int 0]))))).set 40 (.inr (.inr (.inr (6, [.int 1, .long 70644700037184, .int 0, .ref 82, .ref 84, .ref 86]))))).set 43 (.inr (.inl (16, [70644700037184])))).set 106 (.inl (2, 2, [1, 0]))).set 105 (.inl (0, 2, [0]))).set 107 (.inl (0, 132, [0, 0, 0, 0, 0, 0]))).set 109 (.inl (0, 22, [0])))) (dc2 := 0) (ds2 := 0) 11 rfl ?_
    refine zT_if2 true rfl (zc_lt_t (by show ((xs 2) : Int32).toInt < -2; omega)) ?_
    refine zT_here (pc2 := 48) rfl ?_
    refine zT_gos (f := 200000) (pc2 := 71) (ls2 := [(5, .int 2), (4, .int 0), (0, .ref 162), (1, .int 0), (2, .int (xs 2)), (3, .int 4)]) (st2 := [.int (-9999)]) (h2 := (((((((zH0.set 37 (.inr (.inr (.inr (3, [.ref 44, .ref 6, .ref 76, .ref 78, .ref 80, .ref 88, .int 1, .int 0, .ref 96, .int 0, .int 0, .int 0, .ref 98, .ref 100, .int 0]))))).set 40 (.inr (.inr (.inr (6, [.int 1, .long 70644700037184, .int 0, .ref 82, .ref 84, .ref 86]))))).set 43 (.inr (.inl (16, [70644700037184])))).set 106 (.inl (2, 2, [1, 0]))).set 105 (.inl (0, 2, [0]))).set 107 (.inl (0, 132, [0, 0, 0, 0, 0, 0]))).set 109 (.inl (0, 22, [0])))) (dc2 := 0) (ds2 := 0) 2 rfl ?_
    exact zT_ret rfl rfl
  refine zT_here (pc2 := 1157) rfl ?_
  refine zT_gos (f := 200000) (pc2 := 1811) (ls2 := [(4, .int 6), (3, .ref 232), (2, .ref 162), (1, .ref 0), (0, .ref 11)]) (st2 := [.int 1]) (h2 := (((((((zH0.set 37 (.inr (.inr (.inr (3, [.ref 44, .ref 6, .ref 76, .ref 78, .ref 80, .ref 88, .int 1, .int 0, .ref 96, .int 0, .int 0, .int 0, .ref 98, .ref 100, .int 0]))))).set 40 (.inr (.inr (.inr (6, [.int 1, .long 70644700037184, .int 0, .ref 82, .ref 84, .ref 86]))))).set 43 (.inr (.inl (16, [70644700037184])))).set 106 (.inl (2, 2, [1, 0]))).set 105 (.inl (0, 2, [0]))).set 107 (.inl (0, 132, [0, 0, 0, 0, 0, 0]))).set 109 (.inl (0, 22, [0])))) (dc2 := 117) (ds2 := 29934) 10 rfl ?_
  exact zT_ret rfl rfl
set_option maxRecDepth 1000000 in
set_option maxHeartbeats 4000000 in
theorem zo_24_41 (xs : Nat → Int32) (h0 : xs 0 &&& 63 = 24) (h1 : xs 1 = 0) (h3 : xs 3 = 4) (h2 : 2 < (xs 2).toInt) : zDone xs := by
  refine ⟨(((((((zH0.set 37 (.inr (.inr (.inr (3, [.ref 44, .ref 6, .ref 76, .ref 78, .ref 80, .ref 88, .int 1, .int 0, .ref 96, .int 0, .int 0, .int 0, .ref 98, .ref 100, .int 0]))))).set 40 (.inr (.inr (.inr (6, [.int 1, .long 70644700037184, .int 0, .ref 82, .ref 84, .ref 86]))))).set 43 (.inr (.inl (16, [70644700037184])))).set 106 (.inl (2, 2, [1, 0]))).set 105 (.inl (0, 2, [0]))).set 107 (.inl (0, 132, [0, 0, 0, 0, 0, 0]))).set 109 (.inl (0, 22, [0]))), 117, 29934, ?_, by decide, by decide⟩
  refine zT_gos (f := 200000) (pc2 := 37) (ls2 := [(4, .int 0), (3, .ref 232), (2, .ref 162), (1, .ref 0), (0, .ref 11)]) (st2 := [.int (xs 0)]) (h2 := zH0) (dc2 := 117) (ds2 := 29934) 9 rfl ?_
  refine zT_gos (f := 200000) (pc2 := 40) (ls2 := [(4, .int 0), (3, .ref 232), (2, .ref 162), (1, .ref 0), (0, .ref 11)]) (st2 := [.int ((xs 0) &&& (63 : Int32))]) (h2 := zH0) (dc2 := 117) (ds2 := 29934) 2 rfl ?_
  refine zT_val h0 ?_
  refine zT_gos (f := 200000) (pc2 := 1104) (ls2 := [(4, .int 0), (3, .ref 232), (2, .ref 162), (1, .ref 0), (0, .ref 11)]) (st2 := [.int (xs 1), .ref 0]) (h2 := zH0) (dc2 := 117) (ds2 := 29934) 7 rfl ?_
  refine zT_val h1 ?_
  refine zT_gos (f := 200000) (pc2 := 1118) (ls2 := [(4, .int 0), (3, .ref 232), (2, .ref 162), (1, .ref 0), (0, .ref 11)]) (st2 := [.int (xs 2), .int 0, .ref 0]) (h2 := zH0) (dc2 := 117) (ds2 := 29934) 7 rfl ?_
  refine zT_gos (f := 200000) (pc2 := 1124) (ls2 := [(4, .int 0), (3, .ref 232), (2, .ref 162), (1, .ref 0), (0, .ref 11)]) (st2 := [.int (xs 3), .int (xs 2), .int 0, .ref 0]) (h2 := zH0) (dc2 := 117) (ds2 := 29934) 5 rfl ?_
  refine zT_val h3 ?_
  refine zT_call (v := some (.int (-9999))) (h2 := (((zH0.set 37 (.inr (.inr (.inr (3, [.ref 44, .ref 6, .ref 76, .ref 78, .ref 80, .ref 88, .int 1, .int 0, .ref 96, .int 0, .int 0, .int 0, .ref 98, .ref 100, .int 0]))))).set 40 (.inr (.inr (.inr (6, [.int 1, .long 70644700037184, .int 0, .ref 82, .ref 84, .ref 86]))))).set 43 (.inr (.inl (16, [70644700037184]))))) (d1 := 0) (s1 := 0) rfl rfl ?_ ?_
  · refine zT_gos (f := 200000) (pc2 := 42) (ls2 := [(4, .ref 80), (0, .ref 0), (1, .int 0), (2, .int (xs 2)), (3, .int 4)]) (st2 := [.int (-2), .int (xs 2)]) (h2 := (((zH0.set 37 (.inr (.inr (.inr (3, [.ref 44, .ref 6, .ref 76, .ref 78, .ref 80, .ref 88, .int 1, .int 0, .ref 96, .int 0, .int 0, .int 0, .ref 98, .ref 100, .int 0]))))).set 40 (.inr (.inr (.inr (6, [.int 1, .long 70644700037184, .int 0, .ref 82, .ref 84, .ref 86]))))).set 43 (.inr (.inl (16, [70644700037184]))))) (dc2 := 0) (ds2 := 0) 18 rfl ?_
    refine zT_if2 false rfl (zc_lt_f (by show ((xs 2) : Int32).toInt ≥ -2; omega)) ?_
    refine zT_here (pc2 := 45) rfl ?_
    refine zT_gos (f := 200000) (pc2 := 59) (ls2 := [(4, .ref 80), (0, .ref 0), (1, .int 0), (2, .int (xs 2)), (3, .int 4)]) (st2 := [.int 2, .int (xs 2)]) (h2 := (((zH0.set 37 (.inr (.inr (.inr (3, [.ref 44, .ref 6, .ref 76, .ref 78, .ref 80, .ref 88, .int 1, .int 0, .ref 96, .int 0, .int 0, .int 0, .ref 98, .ref 100, .int 0]))))).set 40 (.inr (.inr (.inr (6, [.int 1, .long 70644700037184, .int 0, .ref 82, .ref 84, .ref 86]))))).set 43 (.inr (.inl (16, [70644700037184]))))) (dc2 := 0) (ds2 := 0) 7 rfl ?_
    refine zT_if2 false rfl (zc_le_f (by show ((xs 2) : Int32).toInt > 2; omega)) ?_
    refine zT_here (pc2 := 62) rfl ?_
    refine zT_gos (f := 200000) (pc2 := 65) (ls2 := [(4, .ref 80), (0, .ref 0), (1, .int 0), (2, .int (xs 2)), (3, .int 4)]) (st2 := [.int (-9999)]) (h2 := (((zH0.set 37 (.inr (.inr (.inr (3, [.ref 44, .ref 6, .ref 76, .ref 78, .ref 80, .ref 88, .int 1, .int 0, .ref 96, .int 0, .int 0, .int 0, .ref 98, .ref 100, .int 0]))))).set 40 (.inr (.inr (.inr (6, [.int 1, .long 70644700037184, .int 0, .ref 82, .ref 84, .ref 86]))))).set 43 (.inr (.inl (16, [70644700037184]))))) (dc2 := 0) (ds2 := 0) 1 rfl ?_
    exact zT_ret rfl rfl
  refine zT_here (pc2 := 1127) rfl ?_
  refine zT_gos (f := 200000) (pc2 := 1134) (ls2 := [(4, .int 0), (3, .ref 232), (2, .ref 162), (1, .ref 0), (0, .ref 11)]) (st2 := [.int (xs 1), .ref 162, .int (-9999)]) (h2 := (((zH0.set 37 (.inr (.inr (.inr (3, [.ref 44, .ref 6, .ref 76, .ref 78, .ref 80, .ref 88, .int 1, .int 0, .ref 96, .int 0, .int 0, .int 0, .ref 98, .ref 100, .int 0]))))).set 40 (.inr (.inr (.inr (6, [.int 1, .long 70644700037184, .int 0, .ref 82, .ref 84, .ref 86]))))).set 43 (.inr (.inl (16, [70644700037184]))))) (dc2 := 117) (ds2 := 29934) 6 rfl ?_
  refine zT_val h1 ?_
  refine zT_gos (f := 200000) (pc2 := 1148) (ls2 := [(4, .int 0), (3, .ref 232), (2, .ref 162), (1, .ref 0), (0, .ref 11)]) (st2 := [.int (xs 2), .int 0, .ref 162, .int (-9999)]) (h2 := (((zH0.set 37 (.inr (.inr (.inr (3, [.ref 44, .ref 6, .ref 76, .ref 78, .ref 80, .ref 88, .int 1, .int 0, .ref 96, .int 0, .int 0, .int 0, .ref 98, .ref 100, .int 0]))))).set 40 (.inr (.inr (.inr (6, [.int 1, .long 70644700037184, .int 0, .ref 82, .ref 84, .ref 86]))))).set 43 (.inr (.inl (16, [70644700037184]))))) (dc2 := 117) (ds2 := 29934) 7 rfl ?_
  refine zT_gos (f := 200000) (pc2 := 1154) (ls2 := [(4, .int 0), (3, .ref 232), (2, .ref 162), (1, .ref 0), (0, .ref 11)]) (st2 := [.int (xs 3), .int (xs 2), .int 0, .ref 162, .int (-9999)]) (h2 := (((zH0.set 37 (.inr (.inr (.inr (3, [.ref 44, .ref 6, .ref 76, .ref 78, .ref 80, .ref 88, .int 1, .int 0, .ref 96, .int 0, .int 0, .int 0, .ref 98, .ref 100, .int 0]))))).set 40 (.inr (.inr (.inr (6, [.int 1, .long 70644700037184, .int 0, .ref 82, .ref 84, .ref 86]))))).set 43 (.inr (.inl (16, [70644700037184]))))) (dc2 := 117) (ds2 := 29934) 5 rfl ?_
  refine zT_val h3 ?_
  refine zT_call (v := some (.int (-9999))) (h2 := (((((((zH0.set 37 (.inr (.inr (.inr (3, [.ref 44, .ref 6, .ref 76, .ref 78, .ref 80, .ref 88, .int 1, .int 0, .ref 96, .int 0, .int 0, .int 0, .ref 98, .ref 100, .int 0]))))).set 40 (.inr (.inr (.inr (6, [.int 1, .long 70644700037184, .int 0, .ref 82, .ref 84, .ref 86]))))).set 43 (.inr (.inl (16, [70644700037184])))).set 106 (.inl (2, 2, [1, 0]))).set 105 (.inl (0, 2, [0]))).set 107 (.inl (0, 132, [0, 0, 0, 0, 0, 0]))).set 109 (.inl (0, 22, [0])))) (d1 := 0) (s1 := 0) rfl rfl ?_ ?_
  · refine zT_gos (f := 200000) (pc2 := 7) (ls2 := [(0, .ref 162), (1, .int 0), (2, .int (xs 2)), (3, .int 4)]) (st2 := [.int 0, .ref 162]) (h2 := (((zH0.set 37 (.inr (.inr (.inr (3, [.ref 44, .ref 6, .ref 76, .ref 78, .ref 80, .ref 88, .int 1, .int 0, .ref 96, .int 0, .int 0, .int 0, .ref 98, .ref 100, .int 0]))))).set 40 (.inr (.inr (.inr (6, [.int 1, .long 70644700037184, .int 0, .ref 82, .ref 84, .ref 86]))))).set 43 (.inr (.inl (16, [70644700037184]))))) (dc2 := 0) (ds2 := 0) 5 rfl ?_
    refine zT_call rfl rfl (zT_le (zg0_le 6 xs) zk_o_19) ?_
    refine zT_here (pc2 := 10) rfl ?_
    refine zT_gos (f := 200000) (pc2 := 29) (ls2 := [(5, .int 2), (4, .int 0), (0, .ref 162), (1, .int 0), (2, .int (xs 2)), (3, .int 4)]) (st2 := [.int (-2), .int (xs 2)]) (h2 := (((((((zH0.set 37 (.inr (.inr (.inr (3, [.ref 44, .ref 6, .ref 76, .ref 78, .ref 80, .ref 88, .int 1, .int 0, .ref 96, .int 0, .int 0, .int 0, .ref 98, .ref 100, .int 0]))))).set 40 (.inr (.inr (.inr (6, [.int 1, .long 70644700037184, .int 0, .ref 82, .ref 84, .ref 86]))))).set 43 (.inr (.inl (16, [70644700037184])))).set 106 (.inl (2, 2, [1, 0]))).set 105 (.inl (0, 2, [0]))).set 107 (.inl (0, 132, [0, 0, 0, 0, 0, 0]))).set 109 (.inl (0, 22, [0])))) (dc2 := 0) (ds2 := 0) 11 rfl ?_
    refine zT_if2 false rfl (zc_lt_f (by show ((xs 2) : Int32).toInt ≥ -2; omega)) ?_
    refine zT_here (pc2 := 32) rfl ?_
    refine zT_gos (f := 200000) (pc2 := 38) (ls2 := [(5, .int 2), (4, .int 0), (0, .ref 162), (1, .int 0), (2, .int (xs 2)), (3, .int 4)]) (st2 := [.int 2, .int (xs 2)]) (h2 := (((((((zH0.set 37 (.inr (.inr (.inr (3, [.ref 44, .ref 6, .ref 76, .ref 78, .ref 80, .ref 88, .int 1, .int 0, .ref 96, .int 0, .int 0, .int 0, .ref 98, .ref 100, .int 0]))))).set 40 (.inr (.inr (.inr (6, [.int 1, .long 70644700037184, .int 0, .ref 82, .ref 84, .ref 86]))))).set 43 (.inr (.inl (16, [70644700037184])))).set 106 (.inl (2, 2, [1, 0]))).set 105 (.inl (0, 2, [0]))).set 107 (.inl (0, 132, [0, 0, 0, 0, 0, 0]))).set 109 (.inl (0, 22, [0])))) (dc2 := 0) (ds2 := 0) 4 rfl ?_
    refine zT_if2 true rfl (zc_gt_t (by show ((xs 2) : Int32).toInt > 2; omega)) ?_
    refine zT_here (pc2 := 48) rfl ?_
    refine zT_gos (f := 200000) (pc2 := 71) (ls2 := [(5, .int 2), (4, .int 0), (0, .ref 162), (1, .int 0), (2, .int (xs 2)), (3, .int 4)]) (st2 := [.int (-9999)]) (h2 := (((((((zH0.set 37 (.inr (.inr (.inr (3, [.ref 44, .ref 6, .ref 76, .ref 78, .ref 80, .ref 88, .int 1, .int 0, .ref 96, .int 0, .int 0, .int 0, .ref 98, .ref 100, .int 0]))))).set 40 (.inr (.inr (.inr (6, [.int 1, .long 70644700037184, .int 0, .ref 82, .ref 84, .ref 86]))))).set 43 (.inr (.inl (16, [70644700037184])))).set 106 (.inl (2, 2, [1, 0]))).set 105 (.inl (0, 2, [0]))).set 107 (.inl (0, 132, [0, 0, 0, 0, 0, 0]))).set 109 (.inl (0, 22, [0])))) (dc2 := 0) (ds2 := 0) 2 rfl ?_
    exact zT_ret rfl rfl
  refine zT_here (pc2 := 1157) rfl ?_
  refine zT_gos (f := 200000) (pc2 := 1811) (ls2 := [(4, .int 6), (3, .ref 232), (2, .ref 162), (1, .ref 0), (0, .ref 11)]) (st2 := [.int 1]) (h2 := (((((((zH0.set 37 (.inr (.inr (.inr (3, [.ref 44, .ref 6, .ref 76, .ref 78, .ref 80, .ref 88, .int 1, .int 0, .ref 96, .int 0, .int 0, .int 0, .ref 98, .ref 100, .int 0]))))).set 40 (.inr (.inr (.inr (6, [.int 1, .long 70644700037184, .int 0, .ref 82, .ref 84, .ref 86]))))).set 43 (.inr (.inl (16, [70644700037184])))).set 106 (.inl (2, 2, [1, 0]))).set 105 (.inl (0, 2, [0]))).set 107 (.inl (0, 132, [0, 0, 0, 0, 0, 0]))).set 109 (.inl (0, 22, [0])))) (dc2 := 117) (ds2 := 29934) 10 rfl ?_
  exact zT_ret rfl rfl
set_option maxRecDepth 1000000 in
theorem zk_o_181 : zT zg0 zF zP 125 0 [(0, .ref 0), (1, .int 0), (2, .int (-2)), (3, .int 4)] [] zH0 0 0 (some (.int 0), (((zH0.set 37 (.inr (.inr (.inr (3, [.ref 44, .ref 6, .ref 76, .ref 78, .ref 80, .ref 88, .int 1, .int 0, .ref 96, .int 0, .int 0, .int 0, .ref 98, .ref 100, .int 0]))))).set 40 (.inr (.inr (.inr (6, [.int 1, .long 70644700037184, .int 0, .ref 82, .ref 84, .ref 86]))))).set 43 (.inr (.inl (16, [70644700037184])))), 0, 0) := zclosed (n := 339) (by decide +kernel)
set_option maxRecDepth 1000000 in
theorem zk_o_182 : zT zg0 zF zP 256 0 [(0, .ref 162), (1, .int 0), (2, .int (-2)), (3, .int 4)] [] (((zH0.set 37 (.inr (.inr (.inr (3, [.ref 44, .ref 6, .ref 76, .ref 78, .ref 80, .ref 88, .int 1, .int 0, .ref 96, .int 0, .int 0, .int 0, .ref 98, .ref 100, .int 0]))))).set 40 (.inr (.inr (.inr (6, [.int 1, .long 70644700037184, .int 0, .ref 82, .ref 84, .ref 86]))))).set 43 (.inr (.inl (16, [70644700037184])))) 0 0 (some (.int 0), (((((((zH0.set 37 (.inr (.inr (.inr (3, [.ref 44, .ref 6, .ref 76, .ref 78, .ref 80, .ref 88, .int 1, .int 0, .ref 96, .int 0, .int 0, .int 0, .ref 98, .ref 100, .int 0]))))).set 40 (.inr (.inr (.inr (6, [.int 1, .long 70644700037184, .int 0, .ref 82, .ref 84, .ref 86]))))).set 43 (.inr (.inl (16, [70644700037184])))).set 106 (.inl (2, 2, [1, 0]))).set 105 (.inl (0, 2, [0]))).set 107 (.inl (0, 132, [0, 0, 0, 0, 0, 0]))).set 109 (.inl (0, 22, [0]))), 0, 0) := zclosed (n := 377) (by decide +kernel)
set_option maxRecDepth 1000000 in
set_option maxHeartbeats 4000000 in
theorem zo_24_42 (xs : Nat → Int32) (h0 : xs 0 &&& 63 = 24) (h1 : xs 1 = 0) (h3 : xs 3 = 4) (h2 : xs 2 = (-2)) : zDone xs := by
  refine ⟨(((((((zH0.set 37 (.inr (.inr (.inr (3, [.ref 44, .ref 6, .ref 76, .ref 78, .ref 80, .ref 88, .int 1, .int 0, .ref 96, .int 0, .int 0, .int 0, .ref 98, .ref 100, .int 0]))))).set 40 (.inr (.inr (.inr (6, [.int 1, .long 70644700037184, .int 0, .ref 82, .ref 84, .ref 86]))))).set 43 (.inr (.inl (16, [70644700037184])))).set 106 (.inl (2, 2, [1, 0]))).set 105 (.inl (0, 2, [0]))).set 107 (.inl (0, 132, [0, 0, 0, 0, 0, 0]))).set 109 (.inl (0, 22, [0]))), 117, 29934, ?_, by decide, by decide⟩
  refine zT_gos (f := 200000) (pc2 := 37) (ls2 := [(4, .int 0), (3, .ref 232), (2, .ref 162), (1, .ref 0), (0, .ref 11)]) (st2 := [.int (xs 0)]) (h2 := zH0) (dc2 := 117) (ds2 := 29934) 9 rfl ?_
  refine zT_gos (f := 200000) (pc2 := 40) (ls2 := [(4, .int 0), (3, .ref 232), (2, .ref 162), (1, .ref 0), (0, .ref 11)]) (st2 := [.int ((xs 0) &&& (63 : Int32))]) (h2 := zH0) (dc2 := 117) (ds2 := 29934) 2 rfl ?_
  refine zT_val h0 ?_
  refine zT_gos (f := 200000) (pc2 := 1104) (ls2 := [(4, .int 0), (3, .ref 232), (2, .ref 162), (1, .ref 0), (0, .ref 11)]) (st2 := [.int (xs 1), .ref 0]) (h2 := zH0) (dc2 := 117) (ds2 := 29934) 7 rfl ?_
  refine zT_val h1 ?_
  refine zT_gos (f := 200000) (pc2 := 1118) (ls2 := [(4, .int 0), (3, .ref 232), (2, .ref 162), (1, .ref 0), (0, .ref 11)]) (st2 := [.int (xs 2), .int 0, .ref 0]) (h2 := zH0) (dc2 := 117) (ds2 := 29934) 7 rfl ?_
  refine zT_val h2 ?_
  refine zT_gos (f := 200000) (pc2 := 1124) (ls2 := [(4, .int 0), (3, .ref 232), (2, .ref 162), (1, .ref 0), (0, .ref 11)]) (st2 := [.int (xs 3), .int (-2), .int 0, .ref 0]) (h2 := zH0) (dc2 := 117) (ds2 := 29934) 5 rfl ?_
  refine zT_val h3 ?_
  refine zT_call rfl rfl (zT_le (zg0_le 6 xs) zk_o_181) ?_
  refine zT_here (pc2 := 1127) rfl ?_
  refine zT_gos (f := 200000) (pc2 := 1134) (ls2 := [(4, .int 0), (3, .ref 232), (2, .ref 162), (1, .ref 0), (0, .ref 11)]) (st2 := [.int (xs 1), .ref 162, .int 0]) (h2 := (((zH0.set 37 (.inr (.inr (.inr (3, [.ref 44, .ref 6, .ref 76, .ref 78, .ref 80, .ref 88, .int 1, .int 0, .ref 96, .int 0, .int 0, .int 0, .ref 98, .ref 100, .int 0]))))).set 40 (.inr (.inr (.inr (6, [.int 1, .long 70644700037184, .int 0, .ref 82, .ref 84, .ref 86]))))).set 43 (.inr (.inl (16, [70644700037184]))))) (dc2 := 117) (ds2 := 29934) 6 rfl ?_
  refine zT_val h1 ?_
  refine zT_gos (f := 200000) (pc2 := 1148) (ls2 := [(4, .int 0), (3, .ref 232), (2, .ref 162), (1, .ref 0), (0, .ref 11)]) (st2 := [.int (xs 2), .int 0, .ref 162, .int 0]) (h2 := (((zH0.set 37 (.inr (.inr (.inr (3, [.ref 44, .ref 6, .ref 76, .ref 78, .ref 80, .ref 88, .int 1, .int 0, .ref 96, .int 0, .int 0, .int 0, .ref 98, .ref 100, .int 0]))))).set 40 (.inr (.inr (.inr (6, [.int 1, .long 70644700037184, .int 0, .ref 82, .ref 84, .ref 86]))))).set 43 (.inr (.inl (16, [70644700037184]))))) (dc2 := 117) (ds2 := 29934) 7 rfl ?_
  refine zT_val h2 ?_
  refine zT_gos (f := 200000) (pc2 := 1154) (ls2 := [(4, .int 0), (3, .ref 232), (2, .ref 162), (1, .ref 0), (0, .ref 11)]) (st2 := [.int (xs 3), .int (-2), .int 0, .ref 162, .int 0]) (h2 := (((zH0.set 37 (.inr (.inr (.inr (3, [.ref 44, .ref 6, .ref 76, .ref 78, .ref 80, .ref 88, .int 1, .int 0, .ref 96, .int 0, .int 0, .int 0, .ref 98, .ref 100, .int 0]))))).set 40 (.inr (.inr (.inr (6, [.int 1, .long 70644700037184, .int 0, .ref 82, .ref 84, .ref 86]))))).set 43 (.inr (.inl (16, [70644700037184]))))) (dc2 := 117) (ds2 := 29934) 5 rfl ?_
  refine zT_val h3 ?_
  refine zT_call rfl rfl (zT_le (zg0_le 6 xs) zk_o_182) ?_
  refine zT_here (pc2 := 1157) rfl ?_
  refine zT_gos (f := 200000) (pc2 := 1811) (ls2 := [(4, .int 6), (3, .ref 232), (2, .ref 162), (1, .ref 0), (0, .ref 11)]) (st2 := [.int 1]) (h2 := (((((((zH0.set 37 (.inr (.inr (.inr (3, [.ref 44, .ref 6, .ref 76, .ref 78, .ref 80, .ref 88, .int 1, .int 0, .ref 96, .int 0, .int 0, .int 0, .ref 98, .ref 100, .int 0]))))).set 40 (.inr (.inr (.inr (6, [.int 1, .long 70644700037184, .int 0, .ref 82, .ref 84, .ref 86]))))).set 43 (.inr (.inl (16, [70644700037184])))).set 106 (.inl (2, 2, [1, 0]))).set 105 (.inl (0, 2, [0]))).set 107 (.inl (0, 132, [0, 0, 0, 0, 0, 0]))).set 109 (.inl (0, 22, [0])))) (dc2 := 117) (ds2 := 29934) 10 rfl ?_
  exact zT_ret rfl rfl
set_option maxRecDepth 1000000 in
theorem zk_o_183 : zT zg0 zF zP 125 0 [(0, .ref 0), (1, .int 0), (2, .int (-1)), (3, .int 4)] [] zH0 0 0 (some (.int 0), (((zH0.set 37 (.inr (.inr (.inr (3, [.ref 44, .ref 6, .ref 76, .ref 78, .ref 80, .ref 88, .int 1, .int 0, .ref 96, .int 0, .int 0, .int 0, .ref 98, .ref 100, .int 0]))))).set 40 (.inr (.inr (.inr (6, [.int 1, .long 70644700037184, .int 0, .ref 82, .ref 84, .ref 86]))))).set 43 (.inr (.inl (16, [70644700037184])))), 0, 0) := zclosed (n := 344) (by decide +kernel)
set_option maxRecDepth 1000000 in
theorem zk_o_184 : zT zg0 zF zP 256 0 [(0, .ref 162), (1, .int 0), (2, .int (-1)), (3, .int 4)] [] (((zH0.set 37 (.inr (.inr (.inr (3, [.ref 44, .ref 6, .ref 76, .ref 78, .ref 80, .ref 88, .int 1, .int 0, .ref 96, .int 0, .int 0, .int 0, .ref 98, .ref 100, .int 0]))))).set 40 (.inr (.inr (.inr (6, [.int 1, .long 70644700037184, .int 0, .ref 82, .ref 84, .ref 86]))))).set 43 (.inr (.inl (16, [70644700037184])))) 0 0 (some (.int 0), (((((((zH0.set 37 (.inr (.inr (.inr (3, [.ref 44, .ref 6, .ref 76, .ref 78, .ref 80, .ref 88, .int 1, .int 0, .ref 96, .int 0, .int 0, .int 0, .ref 98, .ref 100, .int 0]))))).set 40 (.inr (.inr (.inr (6, [.int 1, .long 70644700037184, .int 0, .ref 82, .ref 84, .ref 86]))))).set 43 (.inr (.inl (16, [70644700037184])))).set 106 (.inl (2, 2, [1, 0]))).set 105 (.inl (0, 2, [0]))).set 107 (.inl (0, 132, [0, 0, 0, 0, 0, 0]))).set 109 (.inl (0, 22, [0]))), 0, 0) := zclosed (n := 401) (by decide +kernel)
set_option maxRecDepth 1000000 in
set_option maxHeartbeats 4000000 in
theorem zo_24_43 (xs : Nat → Int32) (h0 : xs 0 &&& 63 = 24) (h1 : xs 1 = 0) (h3 : xs 3 = 4) (h2 : xs 2 = (-1)) : zDone xs := by
  refine ⟨(((((((zH0.set 37 (.inr (.inr (.inr (3, [.ref 44, .ref 6, .ref 76, .ref 78, .ref 80, .ref 88, .int 1, .int 0, .ref 96, .int 0, .int 0, .int 0, .ref 98, .ref 100, .int 0]))))).set 40 (.inr (.inr (.inr (6, [.int 1, .long 70644700037184, .int 0, .ref 82, .ref 84, .ref 86]))))).set 43 (.inr (.inl (16, [70644700037184])))).set 106 (.inl (2, 2, [1, 0]))).set 105 (.inl (0, 2, [0]))).set 107 (.inl (0, 132, [0, 0, 0, 0, 0, 0]))).set 109 (.inl (0, 22, [0]))), 117, 29934, ?_, by decide, by decide⟩
  refine zT_gos (f := 200000) (pc2 := 37) (ls2 := [(4, .int 0), (3, .ref 232), (2, .ref 162), (1, .ref 0), (0, .ref 11)]) (st2 := [.int (xs 0)]) (h2 := zH0) (dc2 := 117) (ds2 := 29934) 9 rfl ?_
  refine zT_gos (f := 200000) (pc2 := 40) (ls2 := [(4, .int 0), (3, .ref 232), (2, .ref 162), (1, .ref 0), (0, .ref 11)]) (st2 := [.int ((xs 0) &&& (63 : Int32))]) (h2 := zH0) (dc2 := 117) (ds2 := 29934) 2 rfl ?_
  refine zT_val h0 ?_
  refine zT_gos (f := 200000) (pc2 := 1104) (ls2 := [(4, .int 0), (3, .ref 232), (2, .ref 162), (1, .ref 0), (0, .ref 11)]) (st2 := [.int (xs 1), .ref 0]) (h2 := zH0) (dc2 := 117) (ds2 := 29934) 7 rfl ?_
  refine zT_val h1 ?_
  refine zT_gos (f := 200000) (pc2 := 1118) (ls2 := [(4, .int 0), (3, .ref 232), (2, .ref 162), (1, .ref 0), (0, .ref 11)]) (st2 := [.int (xs 2), .int 0, .ref 0]) (h2 := zH0) (dc2 := 117) (ds2 := 29934) 7 rfl ?_
  refine zT_val h2 ?_
  refine zT_gos (f := 200000) (pc2 := 1124) (ls2 := [(4, .int 0), (3, .ref 232), (2, .ref 162), (1, .ref 0), (0, .ref 11)]) (st2 := [.int (xs 3), .int (-1), .int 0, .ref 0]) (h2 := zH0) (dc2 := 117) (ds2 := 29934) 5 rfl ?_
  refine zT_val h3 ?_
  refine zT_call rfl rfl (zT_le (zg0_le 6 xs) zk_o_183) ?_
  refine zT_here (pc2 := 1127) rfl ?_
  refine zT_gos (f := 200000) (pc2 := 1134) (ls2 := [(4, .int 0), (3, .ref 232), (2, .ref 162), (1, .ref 0), (0, .ref 11)]) (st2 := [.int (xs 1), .ref 162, .int 0]) (h2 := (((zH0.set 37 (.inr (.inr (.inr (3, [.ref 44, .ref 6, .ref 76, .ref 78, .ref 80, .ref 88, .int 1, .int 0, .ref 96, .int 0, .int 0, .int 0, .ref 98, .ref 100, .int 0]))))).set 40 (.inr (.inr (.inr (6, [.int 1, .long 70644700037184, .int 0, .ref 82, .ref 84, .ref 86]))))).set 43 (.inr (.inl (16, [70644700037184]))))) (dc2 := 117) (ds2 := 29934) 6 rfl ?_
  refine zT_val h1 ?_
  refine zT_gos (f := 200000) (pc2 := 1148) (ls2 := [(4, .int 0), (3, .ref 232), (2, .ref 162), (1, .ref 0), (0, .ref 11)]) (st2 := [.int (xs 2), .int 0, .ref 162, .int 0]) (h2 := (((zH0.set 37 (.inr (.inr (.inr (3, [.ref 44, .ref 6, .ref 76, .ref 78, .ref 80, .ref 88, .int 1, .int 0, .ref 96, .int 0, .int 0, .int 0, .ref 98, .ref 100, .int 0]))))).set 40 (.inr (.inr (.inr (6, [.int 1, .long 70644700037184, .int 0, .ref 82, .ref 84, .ref 86]))))).set 43 (.inr (.inl (16, [70644700037184]))))) (dc2 := 117) (ds2 := 29934) 7 rfl ?_
  refine zT_val h2 ?_
  refine zT_gos (f := 200000) (pc2 := 1154) (ls2 := [(4, .int 0), (3, .ref 232), (2, .ref 162), (1, .ref 0), (0, .ref 11)]) (st2 := [.int (xs 3), .int (-1), .int 0, .ref 162, .int 0]) (h2 := (((zH0.set 37 (.inr (.inr (.inr (3, [.ref 44, .ref 6, .ref 76, .ref 78, .ref 80, .ref 88, .int 1, .int 0, .ref 96, .int 0, .int 0, .int 0, .ref 98, .ref 100, .int 0]))))).set 40 (.inr (.inr (.inr (6, [.int 1, .long 70644700037184, .int 0, .ref 82, .ref 84, .ref 86]))))).set 43 (.inr (.inl (16, [70644700037184]))))) (dc2 := 117) (ds2 := 29934) 5 rfl ?_
  refine zT_val h3 ?_
  refine zT_call rfl rfl (zT_le (zg0_le 6 xs) zk_o_184) ?_
  refine zT_here (pc2 := 1157) rfl ?_
  refine zT_gos (f := 200000) (pc2 := 1811) (ls2 := [(4, .int 6), (3, .ref 232), (2, .ref 162), (1, .ref 0), (0, .ref 11)]) (st2 := [.int 1]) (h2 := (((((((zH0.set 37 (.inr (.inr (.inr (3, [.ref 44, .ref 6, .ref 76, .ref 78, .ref 80, .ref 88, .int 1, .int 0, .ref 96, .int 0, .int 0, .int 0, .ref 98, .ref 100, .int 0]))))).set 40 (.inr (.inr (.inr (6, [.int 1, .long 70644700037184, .int 0, .ref 82, .ref 84, .ref 86]))))).set 43 (.inr (.inl (16, [70644700037184])))).set 106 (.inl (2, 2, [1, 0]))).set 105 (.inl (0, 2, [0]))).set 107 (.inl (0, 132, [0, 0, 0, 0, 0, 0]))).set 109 (.inl (0, 22, [0])))) (dc2 := 117) (ds2 := 29934) 10 rfl ?_
  exact zT_ret rfl rfl
set_option maxRecDepth 1000000 in
theorem zk_o_185 : zT zg0 zF zP 125 0 [(0, .ref 0), (1, .int 0), (2, .int 0), (3, .int 4)] [] zH0 0 0 (some (.int 0), (((zH0.set 37 (.inr (.inr (.inr (3, [.ref 44, .ref 6, .ref 76, .ref 78, .ref 80, .ref 88, .int 1, .int 0, .ref 96, .int 0, .int 0, .int 0, .ref 98, .ref 100, .int 0]))))).set 40 (.inr (.inr (.inr (6, [.int 1, .long 70644700037184, .int 0, .ref 82, .ref 84, .ref 86]))))).set 43 (.inr (.inl (16, [70644700037184])))), 0, 0) := zclosed (n := 349) (by decide +kernel)
set_option maxRecDepth 1000000 in
theorem zk_o_186 : zT zg0 zF zP 256 0 [(0, .ref 162), (1, .int 0), (2, .int 0), (3, .int 4)] [] (((zH0.set 37 (.inr (.inr (.inr (3, [.ref 44, .ref 6, .ref 76, .ref 78, .ref 80, .ref 88, .int 1, .int 0, .ref 96, .int 0, .int 0, .int 0, .ref 98, .ref 100, .int 0]))))).set 40 (.inr (.inr (.inr (6, [.int 1, .long 70644700037184, .int 0, .ref 82, .ref 84, .ref 86]))))).set 43 (.inr (.inl (16, [70644700037184])))) 0 0 (some (.int 0), (((((((zH0.set 37 (.inr (.inr (.inr (3, [.ref 44, .ref 6, .ref 76, .ref 78, .ref 80, .ref 88, .int 1, .int 0, .ref 96, .int 0, .int 0, .int 0, .ref 98, .ref 100, .int 0]))))).set 40 (.inr (.inr (.inr (6, [.int 1, .long 70644700037184, .int 0, .ref 82, .ref 84, .ref 86]))))).set 43 (.inr (.inl (16, [70644700037184])))).set 106 (.inl (2, 2, [1, 0]))).set 105 (.inl (0, 2, [0]))).set 107 (.inl (0, 132, [0, 0, 0, 0, 0, 0]))).set 109 (.inl (0, 22, [0]))), 0, 0) := zclosed (n := 425) (by decide +kernel)
set_option maxRecDepth 1000000 in
set_option maxHeartbeats 4000000 in
theorem zo_24_44 (xs : Nat → Int32) (h0 : xs 0 &&& 63 = 24) (h1 : xs 1 = 0) (h3 : xs 3 = 4) (h2 : xs 2 = 0) : zDone xs := by
  refine ⟨(((((((zH0.set 37 (.inr (.inr (.inr (3, [.ref 44, .ref 6, .ref 76, .ref 78, .ref 80, .ref 88, .int 1, .int 0, .ref 96, .int 0, .int 0, .int 0, .ref 98, .ref 100, .int 0]))))).set 40 (.inr (.inr (.inr (6, [.int 1, .long 70644700037184, .int 0, .ref 82, .ref 84, .ref 86]))))).set 43 (.inr (.inl (16, [70644700037184])))).set 106 (.inl (2, 2, [1, 0]))).set 105 (.inl (0, 2, [0]))).set 107 (.inl (0, 132, [0, 0, 0, 0, 0, 0]))).set 109 (.inl (0, 22, [0]))), 117, 29934, ?_, by decide, by decide⟩
  refine zT_gos (f := 200000) (pc2 := 37) (ls2 := [(4, .int 0), (3, .ref 232), (2, .ref 162), (1, .ref 0), (0, .ref 11)]) (st2 := [.int (xs 0)]) (h2 := zH0) (dc2 := 117) (ds2 := 29934) 9 rfl ?_
  refine zT_gos (f := 200000) (pc2 := 40) (ls2 := [(4, .int 0), (3, .ref 232), (2, .ref 162), (1, .ref 0), (0, .ref 11)]) (st2 := [.int ((xs 0) &&& (63 : Int32))]) (h2 := zH0) (dc2 := 117) (ds2 := 29934) 2 rfl ?_
  refine zT_val h0 ?_
  refine zT_gos (f := 200000) (pc2 := 1104) (ls2 := [(4, .int 0), (3, .ref 232), (2, .ref 162), (1, .ref 0), (0, .ref 11)]) (st2 := [.int (xs 1), .ref 0]) (h2 := zH0) (dc2 := 117) (ds2 := 29934) 7 rfl ?_
  refine zT_val h1 ?_
  refine zT_gos (f := 200000) (pc2 := 1118) (ls2 := [(4, .int 0), (3, .ref 232), (2, .ref 162), (1, .ref 0), (0, .ref 11)]) (st2 := [.int (xs 2), .int 0, .ref 0]) (h2 := zH0) (dc2 := 117) (ds2 := 29934) 7 rfl ?_
  refine zT_val h2 ?_
  refine zT_gos (f := 200000) (pc2 := 1124) (ls2 := [(4, .int 0), (3, .ref 232), (2, .ref 162), (1, .ref 0), (0, .ref 11)]) (st2 := [.int (xs 3), .int 0, .int 0, .ref 0]) (h2 := zH0) (dc2 := 117) (ds2 := 29934) 5 rfl ?_
  refine zT_val h3 ?_
  refine zT_call rfl rfl (zT_le (zg0_le 6 xs) zk_o_185) ?_
  refine zT_here (pc2 := 1127) rfl ?_
  refine zT_gos (f := 200000) (pc2 := 1134) (ls2 := [(4, .int 0), (3, .ref 232), (2, .ref 162), (1, .ref 0), (0, .ref 11)]) (st2 := [.int (xs 1), .ref 162, .int 0]) (h2 := (((zH0.set 37 (.inr (.inr (.inr (3, [.ref 44, .ref 6, .ref 76, .ref 78, .ref 80, .ref 88, .int 1, .int 0, .ref 96, .int 0, .int 0, .int 0, .ref 98, .ref 100, .int 0]))))).set 40 (.inr (.inr (.inr (6, [.int 1, .long 70644700037184, .int 0, .ref 82, .ref 84, .ref 86]))))).set 43 (.inr (.inl (16, [70644700037184]))))) (dc2 := 117) (ds2 := 29934) 6 rfl ?_
  refine zT_val h1 ?_
  refine zT_gos (f := 200000) (pc2 := 1148) (ls2 := [(4, .int 0), (3, .ref 232), (2, .ref 162), (1, .ref 0), (0, .ref 11)]) (st2 := [.int (xs 2), .int 0, .ref 162, .int 0]) (h2 := (((zH0.set 37 (.inr (.inr (.inr (3, [.ref 44, .ref 6, .ref 76, .ref 78, .ref 80, .ref 88, .int 1, .int 0, .ref 96, .int 0, .int 0, .int 0, .ref 98, .ref 100, .int 0]))))).set 40 (.inr (.inr (.inr (6, [.int 1, .long 70644700037184, .int 0, .ref 82, .ref 84, .ref 86]))))).set 43 (.inr (.inl (16, [70644700037184]))))) (dc2 := 117) (ds2 := 29934) 7 rfl ?_
  refine zT_val h2 ?_
  refine zT_gos (f := 200000) (pc2 := 1154) (ls2 := [(4, .int 0), (3, .ref 232), (2, .ref 162), (1, .ref 0), (0, .ref 11)]) (st2 := [.int (xs 3), .int 0, .int 0, .ref 162, .int 0]) (h2 := (((zH0.set 37 (.inr (.inr (.inr (3, [.ref 44, .ref 6, .ref 76, .ref 78, .ref 80, .ref 88, .int 1, .int 0, .ref 96, .int 0, .int 0, .int 0, .ref 98, .ref 100, .int 0]))))).set 40 (.inr (.inr (.inr (6, [.int 1, .long 70644700037184, .int 0, .ref 82, .ref 84, .ref 86]))))).set 43 (.inr (.inl (16, [70644700037184]))))) (dc2 := 117) (ds2 := 29934) 5 rfl ?_
  refine zT_val h3 ?_
  refine zT_call rfl rfl (zT_le (zg0_le 6 xs) zk_o_186) ?_
  refine zT_here (pc2 := 1157) rfl ?_
  refine zT_gos (f := 200000) (pc2 := 1811) (ls2 := [(4, .int 6), (3, .ref 232), (2, .ref 162), (1, .ref 0), (0, .ref 11)]) (st2 := [.int 1]) (h2 := (((((((zH0.set 37 (.inr (.inr (.inr (3, [.ref 44, .ref 6, .ref 76, .ref 78, .ref 80, .ref 88, .int 1, .int 0, .ref 96, .int 0, .int 0, .int 0, .ref 98, .ref 100, .int 0]))))).set 40 (.inr (.inr (.inr (6, [.int 1, .long 70644700037184, .int 0, .ref 82, .ref 84, .ref 86]))))).set 43 (.inr (.inl (16, [70644700037184])))).set 106 (.inl (2, 2, [1, 0]))).set 105 (.inl (0, 2, [0]))).set 107 (.inl (0, 132, [0, 0, 0, 0, 0, 0]))).set 109 (.inl (0, 22, [0])))) (dc2 := 117) (ds2 := 29934) 10 rfl ?_
  exact zT_ret rfl rfl
set_option maxRecDepth 1000000 in
theorem zk_o_187 : zT zg0 zF zP 125 0 [(0, .ref 0), (1, .int 0), (2, .int 1), (3, .int 4)] [] zH0 0 0 (some (.int 0), (((zH0.set 37 (.inr (.inr (.inr (3, [.ref 44, .ref 6, .ref 76, .ref 78, .ref 80, .ref 88, .int 1, .int 0, .ref 96, .int 0, .int 0, .int 0, .ref 98, .ref 100, .int 0]))))).set 40 (.inr (.inr (.inr (6, [.int 1, .long 70644700037184, .int 0, .ref 82, .ref 84, .ref 86]))))).set 43 (.inr (.inl (16, [70644700037184])))), 0, 0) := zclosed (n := 354) (by decide +kernel)
set_option maxRecDepth 1000000 in
theorem zk_o_188 : zT zg0 zF zP 256 0 [(0, .ref 162), (1, .int 0), (2, .int 1), (3, .int 4)] [] (((zH0.set 37 (.inr (.inr (.inr (3, [.ref 44, .ref 6, .ref 76, .ref 78, .ref 80, .ref 88, .int 1, .int 0, .ref 96, .int 0, .int 0, .int 0, .ref 98, .ref 100, .int 0]))))).set 40 (.inr (.inr (.inr (6, [.int 1, .long 70644700037184, .int 0, .ref 82, .ref 84, .ref 86]))))).set 43 (.inr (.inl (16, [70644700037184])))) 0 0 (some (.int 0), (((((((zH0.set 37 (.inr (.inr (.inr (3, [.ref 44, .ref 6, .ref 76, .ref 78, .ref 80, .ref 88, .int 1, .int 0, .ref 96, .int 0, .int 0, .int 0, .ref 98, .ref 100, .int 0]))))).set 40 (.inr (.inr (.inr (6, [.int 1, .long 70644700037184, .int 0, .ref 82, .ref 84, .ref 86]))))).set 43 (.inr (.inl (16, [70644700037184])))).set 106 (.inl (2, 2, [1, 0]))).set 105 (.inl (0, 2, [0]))).set 107 (.inl (0, 132, [0, 0, 0, 0, 0, 0]))).set 109 (.inl (0, 22, [0]))), 0, 0) := zclosed (n := 449) (by decide +kernel)
set_option maxRecDepth 1000000 in
set_option maxHeartbeats 4000000 in
theorem zo_24_45 (xs : Nat → Int32) (h0 : xs 0 &&& 63 = 24) (h1 : xs 1 = 0) (h3 : xs 3 = 4) (h2 : xs 2 = 1) : zDone xs := by
  refine ⟨(((((((zH0.set 37 (.inr (.inr (.inr (3, [.ref 44, .ref 6, .ref 76, .ref 78, .ref 80, .ref 88, .int 1, .int 0, .ref 96, .int 0, .int 0, .int 0, .ref 98, .ref 100, .int 0]))))).set 40 (.inr (.inr (.inr (6, [.int 1, .long 70644700037184, .int 0, .ref 82, .ref 84, .ref 86]))))).set 43 (.inr (.inl (16, [70644700037184])))).set 106 (.inl (2, 2, [1, 0]))).set 105 (.inl (0, 2, [0]))).set 107 (.inl (0, 132, [0, 0, 0, 0, 0, 0]))).set 109 (.inl (0, 22, [0]))), 117, 29934, ?_, by decide, by decide⟩
  refine zT_gos (f := 200000) (pc2 := 37) (ls2 := [(4, .int 0), (3, .ref 232), (2, .ref 162), (1, .ref 0), (0, .ref 11)]) (st2 := [.int (xs 0)]) (h2 := zH0) (dc2 := 117) (ds2 := 29934) 9 rfl ?_
  refine zT_gos (f := 200000) (pc2 := 40) (ls2 := [(4, .int 0), (3, .ref 232), (2, .ref 162), (1, .ref 0), (0, .ref 11)]) (st2 := [.int ((xs 0) &&& (63 : Int32))]) (h2 := zH0) (dc2 := 117) (ds2 := 29934) 2 rfl ?_
  refine zT_val h0 ?_
  refine zT_gos (f := 200000) (pc2 := 1104) (ls2 := [(4, .int 0), (3, .ref 232), (2, .ref 162), (1, .ref 0), (0, .ref 11)]) (st2 := [.int (xs 1), .ref 0]) (h2 := zH0) (dc2 := 117) (ds2 := 29934) 7 rfl ?_
  refine zT_val h1 ?_
  refine zT_gos (f := 200000) (pc2 := 1118) (ls2 := [(4, .int 0), (3, .ref 232), (2, .ref 162), (1, .ref 0), (0, .ref 11)]) (st2 := [.int (xs 2), .int 0, .ref 0]) (h2 := zH0) (dc2 := 117) (ds2 := 29934) 7 rfl ?_
  refine zT_val h2 ?_
  refine zT_gos (f := 200000) (pc2 := 1124) (ls2 := [(4, .int 0), (3, .ref 232), (2, .ref 162), (1, .ref 0), (0, .ref 11)]) (st2 := [.int (xs 3), .int 1, .int 0, .ref 0]) (h2 := zH0) (dc2 := 117) (ds2 := 29934) 5 rfl ?_
  refine zT_val h3 ?_
  refine zT_call rfl rfl (zT_le (zg0_le 6 xs) zk_o_187) ?_
  refine zT_here (pc2 := 1127) rfl ?_
  refine zT_gos (f := 200000) (pc2 := 1134) (ls2 := [(4, .int 0), (3, .ref 232), (2, .ref 162), (1, .ref 0), (0, .ref 11)]) (st2 := [.int (xs 1), .ref 162, .int 0]) (h2 := (((zH0.set 37 (.inr (.inr (.inr (3, [.ref 44, .ref 6, .ref 76, .ref 78, .ref 80, .ref 88, .int 1, .int 0, .ref 96, .int 0, .int 0, .int 0, .ref 98, .ref 100, .int 0]))))).set 40 (.inr (.inr (.inr (6, [.int 1, .long 70644700037184, .int 0, .ref 82, .ref 84, .ref 86]))))).set 43 (.inr (.inl (16, [70644700037184]))))) (dc2 := 117) (ds2 := 29934) 6 rfl ?_
  refine zT_val h1 ?_
  refine zT_gos (f := 200000) (pc2 := 1148) (ls2 := [(4, .int 0), (3, .ref 232), (2, .ref 162), (1, .ref 0), (0, .ref 11)]) (st2 := [.int (xs 2), .int 0, .ref 162, .int 0]) (h2 := (((zH0.set 37 (.inr (.inr (.inr (3, [.ref 44, .ref 6, .ref 76, .ref 78, .ref 80, .ref 88, .int 1, .int 0, .ref 96, .int 0, .int 0, .int 0, .ref 98, .ref 100, .int 0]))))).set 40 (.inr (.inr (.inr (6, [.int 1, .long 70644700037184, .int 0, .ref 82, .ref 84, .ref 86]))))).set 43 (.inr (.inl (16, [70644700037184]))))) (dc2 := 117) (ds2 := 29934) 7 rfl ?_
  refine zT_val h2 ?_
  refine zT_gos (f := 200000) (pc2 := 1154) (ls2 := [(4, .int 0), (3, .ref 232), (2, .ref 162), (1, .ref 0), (0, .ref 11)]) (st2 := [.int (xs 3), .int 1, .int 0, .ref 162, .int 0]) (h2 := (((zH0.set 37 (.inr (.inr (.inr (3, [.ref 44, .ref 6, .ref 76, .ref 78, .ref 80, .ref 88, .int 1, .int 0, .ref 96, .int 0, .int 0, .int 0, .ref 98, .ref 100, .int 0]))))).set 40 (.inr (.inr (.inr (6, [.int 1, .long 70644700037184, .int 0, .ref 82, .ref 84, .ref 86]))))).set 43 (.inr (.inl (16, [70644700037184]))))) (dc2 := 117) (ds2 := 29934) 5 rfl ?_
  refine zT_val h3 ?_
  refine zT_call rfl rfl (zT_le (zg0_le 6 xs) zk_o_188) ?_
  refine zT_here (pc2 := 1157) rfl ?_
  refine zT_gos (f := 200000) (pc2 := 1811) (ls2 := [(4, .int 6), (3, .ref 232), (2, .ref 162), (1, .ref 0), (0, .ref 11)]) (st2 := [.int 1]) (h2 := (((((((zH0.set 37 (.inr (.inr (.inr (3, [.ref 44, .ref 6, .ref 76, .ref 78, .ref 80, .ref 88, .int 1, .int 0, .ref 96, .int 0, .int 0, .int 0, .ref 98, .ref 100, .int 0]))))).set 40 (.inr (.inr (.inr (6, [.int 1, .long 70644700037184, .int 0, .ref 82, .ref 84, .ref 86]))))).set 43 (.inr (.inl (16, [70644700037184])))).set 106 (.inl (2, 2, [1, 0]))).set 105 (.inl (0, 2, [0]))).set 107 (.inl (0, 132, [0, 0, 0, 0, 0, 0]))).set 109 (.inl (0, 22, [0])))) (dc2 := 117) (ds2 := 29934) 10 rfl ?_
  exact zT_ret rfl rfl
set_option maxRecDepth 1000000 in
theorem zk_o_189 : zT zg0 zF zP 125 0 [(0, .ref 0), (1, .int 0), (2, .int 2), (3, .int 4)] [] zH0 0 0 (some (.int 0), (((zH0.set 37 (.inr (.inr (.inr (3, [.ref 44, .ref 6, .ref 76, .ref 78, .ref 80, .ref 88, .int 1, .int 0, .ref 96, .int 0, .int 0, .int 0, .ref 98, .ref 100, .int 0]))))).set 40 (.inr (.inr (.inr (6, [.int 1, .long 70644700037184, .int 0, .ref 82, .ref 84, .ref 86]))))).set 43 (.inr (.inl (16, [70644700037184])))), 0, 0) := zclosed (n := 359) (by decide +kernel)
set_option maxRecDepth 1000000 in
theorem zk_o_190 : zT zg0 zF zP 256 0 [(0, .ref 162), (1, .int 0), (2, .int 2), (3, .int 4)] [] (((zH0.set 37 (.inr (.inr (.inr (3, [.ref 44, .ref 6, .ref 76, .ref 78, .ref 80, .ref 88, .int 1, .int 0, .ref 96, .int 0, .int 0, .int 0, .ref 98, .ref 100, .int 0]))))).set 40 (.inr (.inr (.inr (6, [.int 1, .long 70644700037184, .int 0, .ref 82, .ref 84, .ref 86]))))).set 43 (.inr (.inl (16, [70644700037184])))) 0 0 (some (.int 0), (((((((zH0.set 37 (.inr (.inr (.inr (3, [.ref 44, .ref 6, .ref 76, .ref 78, .ref 80, .ref 88, .int 1, .int 0, .ref 96, .int 0, .int 0, .int 0, .ref 98, .ref 100, .int 0]))))).set 40 (.inr (.inr (.inr (6, [.int 1, .long 70644700037184, .int 0, .ref 82, .ref 84, .ref 86]))))).set 43 (.inr (.inl (16, [70644700037184])))).set 106 (.inl (2, 2, [1, 0]))).set 105 (.inl (0, 2, [0]))).set 107 (.inl (0, 132, [0, 0, 0, 0, 0, 0]))).set 109 (.inl (0, 22, [0]))), 0, 0) := zclosed (n := 473) (by decide +kernel)
set_option maxRecDepth 1000000 in
set_option maxHeartbeats 4000000 in
theorem zo_24_46 (xs : Nat → Int32) (h0 : xs 0 &&& 63 = 24) (h1 : xs 1 = 0) (h3 : xs 3 = 4) (h2 : xs 2 = 2) : zDone xs := by
  refine ⟨(((((((zH0.set 37 (.inr (.inr (.inr (3, [.ref 44, .ref 6, .ref 76, .ref 78, .ref 80, .ref 88, .int 1, .int 0, .ref 96, .int 0, .int 0, .int 0, .ref 98, .ref 100, .int 0]))))).set 40 (.inr (.inr (.inr (6, [.int 1, .long 70644700037184, .int 0, .ref 82, .ref 84, .ref 86]))))).set 43 (.inr (.inl (16, [70644700037184])))).set 106 (.inl (2, 2, [1, 0]))).set 105 (.inl (0, 2, [0]))).set 107 (.inl (0, 132, [0, 0, 0, 0, 0, 0]))).set 109 (.inl (0, 22, [0]))), 117, 29934, ?_, by decide, by decide⟩
  refine zT_gos (f := 200000) (pc2 := 37) (ls2 := [(4, .int 0), (3, .ref 232), (2, .ref 162), (1, .ref 0), (0, .ref 11)]) (st2 := [.int (xs 0)]) (h2 := zH0) (dc2 := 117) (ds2 := 29934) 9 rfl ?_
  refine zT_gos (f := 200000) (pc2 := 40) (ls2 := [(4, .int 0), (3, .ref 232), (2, .ref 162), (1, .ref 0), (0, .ref 11)]) (st2 := [.int ((xs 0) &&& (63 : Int32))]) (h2 := zH0) (dc2 := 117) (ds2 := 29934) 2 rfl ?_
  refine zT_val h0 ?_
  refine zT_gos (f := 200000) (pc2 := 1104) (ls2 := [(4, .int 0), (3, .ref 232), (2, .ref 162), (1, .ref 0), (0, .ref 11)]) (st2 := [.int (xs 1), .ref 0]) (h2 := zH0) (dc2 := 117) (ds2 := 29934) 7 rfl ?_
  refine zT_val h1 ?_
  refine zT_gos (f := 200000) (pc2 := 1118) (ls2 := [(4, .int 0), (3, .ref 232), (2, .ref 162), (1, .ref 0), (0, .ref 11)]) (st2 := [.int (xs 2), .int 0, .ref 0]) (h2 := zH0) (dc2 := 117) (ds2 := 29934) 7 rfl ?_
  refine zT_val h2 ?_
  refine zT_gos (f := 200000) (pc2 := 1124) (ls2 := [(4, .int 0), (3, .ref 232), (2, .ref 162), (1, .ref 0), (0, .ref 11)]) (st2 := [.int (xs 3), .int 2, .int 0, .ref 0]) (h2 := zH0) (dc2 := 117) (ds2 := 29934) 5 rfl ?_
  refine zT_val h3 ?_
  refine zT_call rfl rfl (zT_le (zg0_le 6 xs) zk_o_189) ?_
  refine zT_here (pc2 := 1127) rfl ?_
  refine zT_gos (f := 200000) (pc2 := 1134) (ls2 := [(4, .int 0), (3, .ref 232), (2, .ref 162), (1, .ref 0), (0, .ref 11)]) (st2 := [.int (xs 1), .ref 162, .int 0]) (h2 := (((zH0.set 37 (.inr (.inr (.inr (3, [.ref 44, .ref 6, .ref 76, .ref 78, .ref 80, .ref 88, .int 1, .int 0, .ref 96, .int 0, .int 0, .int 0, .ref 98, .ref 100, .int 0]))))).set 40 (.inr (.inr (.inr (6, [.int 1, .long 70644700037184, .int 0, .ref 82, .ref 84, .ref 86]))))).set 43 (.inr (.inl (16, [70644700037184]))))) (dc2 := 117) (ds2 := 29934) 6 rfl ?_
  refine zT_val h1 ?_
  refine zT_gos (f := 200000) (pc2 := 1148) (ls2 := [(4, .int 0), (3, .ref 232), (2, .ref 162), (1, .ref 0), (0, .ref 11)]) (st2 := [.int (xs 2), .int 0, .ref 162, .int 0]) (h2 := (((zH0.set 37 (.inr (.inr (.inr (3, [.ref 44, .ref 6, .ref 76, .ref 78, .ref 80, .ref 88, .int 1, .int 0, .ref 96, .int 0, .int 0, .int 0, .ref 98, .ref 100, .int 0]))))).set 40 (.inr (.inr (.inr (6, [.int 1, .long 70644700037184, .int 0, .ref 82, .ref 84, .ref 86]))))).set 43 (.inr (.inl (16, [70644700037184]))))) (dc2 := 117) (ds2 := 29934) 7 rfl ?_
  refine zT_val h2 ?_
  refine zT_gos (f := 200000) (pc2 := 1154) (ls2 := [(4, .int 0), (3, .ref 232), (2, .ref 162), (1, .ref 0), (0, .ref 11)]) (st2 := [.int (xs 3), .int 2, .int 0, .ref 162, .int 0]) (h2 := (((zH0.set 37 (.inr (.inr (.inr (3, [.ref 44, .ref 6, .ref 76, .ref 78, .ref 80, .ref 88, .int 1, .int 0, .ref 96, .int 0, .int 0, .int 0, .ref 98, .ref 100, .int 0]))))).set 40 (.inr (.inr (.inr (6, [.int 1, .long 70644700037184, .int 0, .ref 82, .ref 84, .ref 86]))))).set 43 (.inr (.inl (16, [70644700037184]))))) (dc2 := 117) (ds2 := 29934) 5 rfl ?_
  refine zT_val h3 ?_
  refine zT_call rfl rfl (zT_le (zg0_le 6 xs) zk_o_190) ?_
  refine zT_here (pc2 := 1157) rfl ?_
  refine zT_gos (f := 200000) (pc2 := 1811) (ls2 := [(4, .int 6), (3, .ref 232), (2, .ref 162), (1, .ref 0), (0, .ref 11)]) (st2 := [.int 1]) (h2 := (((((((zH0.set 37 (.inr (.inr (.inr (3, [.ref 44, .ref 6, .ref 76, .ref 78, .ref 80, .ref 88, .int 1, .int 0, .ref 96, .int 0, .int 0, .int 0, .ref 98, .ref 100, .int 0]))))).set 40 (.inr (.inr (.inr (6, [.int 1, .long 70644700037184, .int 0, .ref 82, .ref 84, .ref 86]))))).set 43 (.inr (.inl (16, [70644700037184])))).set 106 (.inl (2, 2, [1, 0]))).set 105 (.inl (0, 2, [0]))).set 107 (.inl (0, 132, [0, 0, 0, 0, 0, 0]))).set 109 (.inl (0, 22, [0])))) (dc2 := 117) (ds2 := 29934) 10 rfl ?_
  exact zT_ret rfl rfl
set_option maxRecDepth 1000000 in
set_option maxHeartbeats 4000000 in
theorem zo_24_47 (xs : Nat → Int32) (h0 : xs 0 &&& 63 = 24) (h1 : xs 1 = 0) (h3 : xs 3 = 5) (h2 : (xs 2).toInt < -2) : zDone xs := by
  refine ⟨(((((((zH0.set 37 (.inr (.inr (.inr (3, [.ref 44, .ref 6, .ref 76, .ref 78, .ref 80, .ref 88, .int 1, .int 0, .ref 96, .int 0, .int 0, .int 0, .ref 98, .ref 100, .int 0]))))).set 40 (.inr (.inr (.inr (6, [.int 1, .long 70644700037184, .int 0, .ref 82, .ref 84, .ref 86]))))).set 43 (.inr (.inl (16, [70644700037184])))).set 106 (.inl (2, 2, [1, 0]))).set 105 (.inl (0, 2, [0]))).set 107 (.inl (0, 132, [0, 0, 0, 0, 0, 0]))).set 109 (.inl (0, 22, [0]))), 117, 29934, ?_, by decide, by decide⟩
  refine zT_gos (f := 200000) (pc2 := 37) (ls2 := [(4, .int 0), (3, .ref 232), (2, .ref 162), (1, .ref 0), (0, .ref 11)]) (st2 := [.int (xs 0)]) (h2 := zH0) (dc2 := 117) (ds2 := 29934) 9 rfl ?_
  refine zT_gos (f := 200000) (pc2 := 40) (ls2 := [(4, .int 0), (3, .ref 232), (2, .ref 162), (1, .ref 0), (0, .ref 11)]) (st2 := [.int ((xs 0) &&& (63 : Int32))]) (h2 := zH0) (dc2 := 117) (ds2 := 29934) 2 rfl ?_
  refine zT_val h0 ?_
  refine zT_gos (f := 200000) (pc2 := 1104) (ls2 := [(4, .int 0), (3, .ref 232), (2, .ref 162), (1, .ref 0), (0, .ref 11)]) (st2 := [.int (xs 1), .ref 0]) (h2 := zH0) (dc2 := 117) (ds2 := 29934) 7 rfl ?_
  refine zT_val h1 ?_
  refine zT_gos (f := 200000) (pc2 := 1118) (ls2 := [(4, .int 0), (3, .ref 232), (2, .ref 162), (1, .ref 0), (0, .ref 11)]) (st2 := [.int (xs 2), .int 0, .ref 0]) (h2 := zH0) (dc2 := 117) (ds2 := 29934) 7 rfl ?_
  refine zT_gos (f := 200000) (pc2 := 1124) (ls2 := [(4, .int 0), (3, .ref 232), (2, .ref 162), (1, .ref 0), (0, .ref 11)]) (st2 := [.int (xs 3), .int (xs 2), .int 0, .ref 0]) (h2 := zH0) (dc2 := 117) (ds2 := 29934) 5 rfl ?_
  refine zT_val h3 ?_
  refine zT_call (v := some (.int (-9999))) (h2 := (((zH0.set 37 (.inr (.inr (.inr (3, [.ref 44, .ref 6, .ref 76, .ref 78, .ref 80, .ref 88, .int 1, .int 0, .ref 96, .int 0, .int 0, .int 0, .ref 98, .ref 100, .int 0]))))).set 40 (.inr (.inr (.inr (6, [.int 1, .long 70644700037184, .int 0, .ref 82, .ref 84, .ref 86]))))).set 43 (.inr (.inl (16, [70644700037184]))))) (d1 := 0) (s1 := 0) rfl rfl ?_ ?_
  · refine zT_gos (f := 200000) (pc2 := 42) (ls2 := [(4, .ref 80), (0, .ref 0), (1, .int 0), (2, .int (xs 2)), (3, .int 5)]) (st2 := [.int (-2), .int (xs 2)]) (h2 := (((zH0.set 37 (.inr (.inr (.inr (3, [.ref 44, .ref 6, .ref 76, .ref 78, .ref 80, .ref 88, .int 1, .int 0, .ref 96, .int 0, .int 0, .int 0, .ref 98, .ref 100, .int 0]))))).set 40 (.inr (.inr (.inr (6, [.int 1, .long 70644700037184, .int 0, .ref 82, .ref 84, .ref 86]))))).set 43 (.inr (.inl (16, [70644700037184]))))) (dc2 := 0) (ds2 := 0) 18 rfl ?_
    refine zT_if2 true rfl (zc_lt_t (by show ((xs 2) : Int32).toInt < -2; omega)) ?_
    refine zT_here (pc2 := 62) rfl ?_
    refine zT_gos (f := 200000) (pc2 := 65) (ls2 := [(4, .ref 80), (0, .ref 0), (1, .int 0), (2, .int (xs 2)), (3, .int 5)]) (st2 := [.int (-9999)]) (h2 := (((zH0.set 37 (.inr (.inr (.inr (3, [.ref 44, .ref 6, .ref 76, .ref 78, .ref 80, .ref 88, .int 1, .int 0, .ref 96, .int 0, .int 0, .int 0, .ref 98, .ref 100, .int 0]))))).set 40 (.inr (.inr (.inr (6, [.int 1, .long 70644700037184, .int 0, .ref 82, .ref 84, .ref 86]))))).set 43 (.inr (.inl (16, [70644700037184]))))) (dc2 := 0) (ds2 := 0) 1 rfl ?_
    exact zT_ret rfl rfl
  refine zT_here (pc2 := 1127) rfl ?_
  refine zT_gos (f := 200000) (pc2 := 1134) (ls2 := [(4, .int 0), (3, .ref 232), (2, .ref 162), (1, .ref 0), (0, .ref 11)]) (st2 := [.int (xs 1), .ref 162, .int (-9999)]) (h2 := (((zH0.set 37 (.inr (.inr (.inr (3, [.ref 44, .ref 6, .ref 76, .ref 78, .ref 80, .ref 88, .int 1, .int 0, .ref 96, .int 0, .int 0, .int 0, .ref 98, .ref 100, .int 0]))))).set 40 (.inr (.inr (.inr (6, [.int 1, .long 70644700037184, .int 0, .ref 82, .ref 84, .ref 86]))))).set 43 (.inr (.inl (16, [70644700037184]))))) (dc2 := 117) (ds2 := 29934) 6 rfl ?_
  refine zT_val h1 ?_
  refine zT_gos (f := 200000) (pc2 := 1148) (ls2 := [(4, .int 0), (3, .ref 232), (2, .ref 162), (1, .ref 0), (0, .ref 11)]) (st2 := [.int (xs 2), .int 0, .ref 162, .int (-9999)]) (h2 := (((zH0.set 37 (.inr (.inr (.inr (3, [.ref 44, .ref 6, .ref 76, .ref 78, .ref 80, .ref 88, .int 1, .int 0, .ref 96, .int 0, .int 0, .int 0, .ref 98, .ref 100, .int 0]))))).set 40 (.inr (.inr (.inr (6, [.int 1, .long 70644700037184, .int 0, .ref 82, .ref 84, .ref 86]))))).set 43 (.inr (.inl (16, [70644700037184]))))) (dc2 := 117) (ds2 := 29934) 7 rfl ?_
  refine zT_gos (f := 200000) (pc2 := 1154) (ls2 := [(4, .int 0), (3, .ref 232), (2, .ref 162), (1, .ref 0), (0, .ref 11)]) (st2 := [.int (xs 3), .int (xs 2), .int 0, .ref 162, .int (-9999)]) (h2 := (((zH0.set 37 (.inr (.inr (.inr (3, [.ref 44, .ref 6, .ref 76, .ref 78, .ref 80, .ref 88, .int 1, .int 0, .ref 96, .int 0, .int 0, .int 0, .ref 98, .ref 100, .int 0]))))).set 40 (.inr (.inr (.inr (6, [.int 1, .long 70644700037184, .int 0, .ref 82, .ref 84, .ref 86]))))).set 43 (.inr (.inl (16, [70644700037184]))))) (dc2 := 117) (ds2 := 29934) 5 rfl ?_
  refine zT_val h3 ?_
  refine zT_call (v := some (.int (-9999))) (h2 := (((((((zH0.set 37 (.inr (.inr (.inr (3, [.ref 44, .ref 6, .ref 76, .ref 78, .ref 80, .ref 88, .int 1, .int 0, .ref 96, .int 0, .int 0, .int 0, .ref 98, .ref 100, .int 0]))))).set 40 (.inr (.inr (.inr (6, [.int 1, .long 70644700037184, .int 0, .ref 82, .ref 84, .ref 86]))))).set 43 (.inr (.inl (16, [70644700037184])))).set 106 (.inl (2, 2, [1, 0]))).set 105 (.inl (0, 2, [0]))).set 107 (.inl (0, 132, [0, 0, 0, 0, 0, 0]))).set 109 (.inl (0, 22, [0])))) (d1 := 0) (s1 := 0) rfl rfl ?_ ?_
  · refine zT_gos (f := 200000) (pc2 := 7) (ls2 := [(0, .ref 162), (1, .int 0), (2, .int (xs 2)), (3, .int 5)]) (st2 := [.int 0, .ref 162]) (h2 := (((zH0.set 37 (.inr (.inr (.inr (3, [.ref 44, .ref 6, .ref 76, .ref 78, .ref 80, .ref 88, .int 1, .int 0, .ref 96, .int 0, .int 0, .int 0, .ref 98, .ref 100, .int 0]))))).set 40 (.inr (.inr (.inr (6, [.int 1, .long 70644700037184, .int 0, .ref 82, .ref 84, .ref 86]))))).set 43 (.inr (.inl (16, [70644700037184]))))) (dc2 := 0) (ds2 := 0) 5 rfl ?_
    refine zT_call rfl rfl (zT_le (zg0_le 6 xs) zk_o_19) ?_
    refine zT_here (pc2 := 10) rfl ?_
    refine zT_gos (f := 200000) (pc2 := 29) (ls2 := [(5, .int 2), (4, .int 0), (0, .ref 162), (1, .int 0), (2, .int (xs 2)), (3, .int 5)]) (st2 := [.int (-2), .int (xs 2)]) (h2 := (((((((zH0.set 37 (.inr (.inr (.inr (3, [.ref 44, .ref 6, .ref 76, .ref 78, .ref 80, .ref 88, .int 1, .int 0, .ref 96, .int 0, .int 0, .int 0, .ref 98, .ref 100, .int 0]))))).set 40 (.inr (.inr (.inr (6, [.int 1, .long 70644700037184, .int 0, .ref 82, .ref 84, .ref 86]))))).set 43 (.inr (.inl (16, [70644700037184])))).set 106 (.inl (2, 2, [1, 0]))).set 105 (.inl (0, 2, [0]))).set 107 (.inl (0, 132, [0, 0, 0, 0, 0, 0]))).set 109 (.inl (0, 22, [0])))) (dc2 := 0) (ds2 := 0) 11 rfl ?_
    refine zT_if2 true rfl (zc_lt_t (by show ((xs 2) : Int32).toInt < -2; omega)) ?_
    refine zT_here (pc2 := 48) rfl ?_
    refine zT_gos (f := 200000) (pc2 := 71) (ls2 := [(5, .int 2), (4, .int 0), (0, .ref 162), (1, .int 0), (2, .int (xs 2)), (3, .int 5)]) (st2 := [.int (-9999)]) (h2 := (((((((zH0.set 37 (.inr (.inr (.inr (3, [.ref 44, .ref 6, .ref 76, .ref 78, .ref 80, .ref 88, .int 1, .int 0, .ref 96, .int 0, .int 0, .int 0, .ref 98, .ref 100, .int 0]))))).set 40 (.inr (.inr (.inr (6, [.int 1, .long 70644700037184, .int 0, .ref 82, .ref 84, .ref 86]))))).set 43 (.inr (.inl (16, [70644700037184])))).set 106 (.inl (2, 2, [1, 0]))).set 105 (.inl (0, 2, [0]))).set 107 (.inl (0, 132, [0, 0, 0, 0, 0, 0]))).set 109 (.inl (0, 22, [0])))) (dc2 := 0) (ds2 := 0) 2 rfl ?_
    exact zT_ret rfl rfl
  refine zT_here (pc2 := 1157) rfl ?_
  refine zT_gos (f := 200000) (pc2 := 1811) (ls2 := [(4, .int 6), (3, .ref 232), (2, .ref 162), (1, .ref 0), (0, .ref 11)]) (st2 := [.int 1]) (h2 := (((((((zH0.set 37 (.inr (.inr (.inr (3, [.ref 44, .ref 6, .ref 76, .ref 78, .ref 80, .ref 88, .int 1, .int 0, .ref 96, .int 0, .int 0, .int 0, .ref 98, .ref 100, .int 0]))))).set 40 (.inr (.inr (.inr (6, [.int 1, .long 70644700037184, .int 0, .ref 82, .ref 84, .ref 86]))))).set 43 (.inr (.inl (16, [70644700037184])))).set 106 (.inl (2, 2, [1, 0]))).set 105 (.inl (0, 2, [0]))).set 107 (.inl (0, 132, [0, 0, 0, 0, 0, 0]))).set 109 (.inl (0, 22, [0])))) (dc2 := 117) (ds2 := 29934) 10 rfl ?_
  exact zT_ret rfl rfl
set_option maxRecDepth 1000000 in
set_option maxHeartbeats 4000000 in
theorem zo_24_48 (xs : Nat → Int32) (h0 : xs 0 &&& 63 = 24) (h1 : xs 1 = 0) (h3 : xs 3 = 5) (h2 : 2 < (xs 2).toInt) : zDone xs := by
  refine ⟨(((((((zH0.set 37 (.inr (.inr (.inr (3, [.ref 44, .ref 6, .ref 76, .ref 78, .ref 80, .ref 88, .int 1, .int 0, .ref 96, .int 0, .int 0, .int 0, .ref 98, .ref 100, .int 0]))))).set 40 (.inr (.inr (.inr (6, [.int 1, .long 70644700037184, .int 0, .ref 82, .ref 84, .ref 86]))))).set 43 (.inr (.inl (16, [70644700037184])))).set 106 (.inl (2, 2, [1, 0]))).set 105 (.inl (0, 2, [0]))).set 107 (.inl (0, 132, [0, 0, 0, 0, 0, 0]))).set 109 (.inl (0, 22, [0]))), 117, 29934, ?_, by decide, by decide⟩
  refine zT_gos (f := 200000) (pc2 := 37) (ls2 := [(4, .int 0), (3, .ref 232), (2, .ref 162), (1, .ref 0), (0, .ref 11)]) (st2 := [.int (xs 0)]) (h2 := zH0) (dc2 := 117) (ds2 := 29934) 9 rfl ?_
  refine zT_gos (f := 200000) (pc2 := 40) (ls2 := [(4, .int 0), (3, .ref 232), (2, .ref 162), (1, .ref 0), (0, .ref 11)]) (st2 := [.int ((xs 0) &&& (63 : Int32))]) (h2 := zH0) (dc2 := 117) (ds2 := 29934) 2 rfl ?_
  refine zT_val h0 ?_
  refine zT_gos (f := 200000) (pc2 := 1104) (ls2 := [(4, .int 0), (3, .ref 232), (2, .ref 162), (1, .ref 0), (0, .ref 11)]) (st2 := [.int (xs 1), .ref 0]) (h2 := zH0) (dc2 := 117) (ds2 := 29934) 7 rfl ?_
  refine zT_val h1 ?_
  refine zT_gos (f := 200000) (pc2 := 1118) (ls2 := [(4, .int 0), (3, .ref 232), (2, .ref 162), (1, .ref 0), (0, .ref 11)]) (st2 := [.int (xs 2), .int 0, .ref 0]) (h2 := zH0) (dc2 := 117) (ds2 := 29934) 7 rfl ?_
  refine zT_gos (f := 200000) (pc2 := 1124) (ls2 := [(4, .int 0), (3, .ref 232), (2, .ref 162), (1, .ref 0), (0, .ref 11)]) (st2 := [.int (xs 3), .int (xs 2), .int 0, .ref 0]) (h2 := zH0) (dc2 := 117) (ds2 := 29934) 5 rfl ?_
  refine zT_val h3 ?_
  refine zT_call (v := some (.int (-9999))) (h2 := (((zH0.set 37 (.inr (.inr (.inr (3, [.ref 44, .ref 6, .ref 76, .ref 78, .ref 80, .ref 88, .int 1, .int 0, .ref 96, .int 0, .int 0, .int 0, .ref 98, .ref 100, .int 0]))))).set 40 (.inr (.inr (.inr (6, [.int 1, .long 70644700037184, .int 0, .ref 82, .ref 84, .ref 86]))))).set 43 (.inr (.inl (16, [70644700037184]))))) (d1 := 0) (s1 := 0) rfl rfl ?_ ?_
  · refine zT_gos (f := 200000) (pc2 := 42) (ls2 := [(4, .ref 80), (0, .ref 0), (1, .int 0), (2, .int (xs 2)), (3, .int 5)]) (st2 := [.int (-2), .int (xs 2)]) (h2 := (((zH0.set 37 (.inr (.inr (.inr (3, [.ref 44, .ref 6, .ref 76, .ref 78, .ref 80, .ref 88, .int 1, .int 0, .ref 96, .int 0, .int 0, .int 0, .ref 98, .ref 100, .int 0]))))).set 40 (.inr (.inr (.inr (6, [.int 1, .long 70644700037184, .int 0, .ref 82, .ref 84, .ref 86]))))).set 43 (.inr (.inl (16, [70644700037184]))))) (dc2 := 0) (ds2 := 0) 18 rfl ?_
    refine zT_if2 false rfl (zc_lt_f (by show ((xs 2) : Int32).toInt ≥ -2; omega)) ?_
    refine zT_here (pc2 := 45) rfl ?_
    refine zT_gos (f := 200000) (pc2 := 59) (ls2 := [(4, .ref 80), (0, .ref 0), (1, .int 0), (2, .int (xs 2)), (3, .int 5)]) (st2 := [.int 2, .int (xs 2)]) (h2 := (((zH0.set 37 (.inr (.inr (.inr (3, [.ref 44, .ref 6, .ref 76, .ref 78, .ref 80, .ref 88, .int 1, .int 0, .ref 96, .int 0, .int 0, .int 0, .ref 98, .ref 100, .int 0]))))).set 40 (.inr (.inr (.inr (6, [.int 1, .long 70644700037184, .int 0, .ref 82, .ref 84, .ref 86]))))).set 43 (.inr (.inl (16, [70644700037184]))))) (dc2 := 0) (ds2 := 0) 7 rfl ?_
    refine zT_if2 false rfl (zc_le_f (by show ((xs 2) : Int32).toInt > 2; omega)) ?_
    refine zT_here (pc2 := 62) rfl ?_
    refine zT_gos (f := 200000) (pc2 := 65) (ls2 := [(4, .ref 80), (0, .ref 0), (1, .int 0), (2, .int (xs 2)), (3, .int 5)]) (st2 := [.int (-9999)]) (h2 := (((zH0.set 37 (.inr (.inr (.inr (3, [.ref 44, .ref 6, .ref 76, .ref 78, .ref 80, .ref 88, .int 1, .int 0, .ref 96, .int 0, .int 0, .int 0, .ref 98, .ref 100, .int 0]))))).set 40 (.inr (.inr (.inr (6, [.int 1, .long 70644700037184, .int 0, .ref 82, .ref 84, .ref 86]))))).set 43 (.inr (.inl (16, [70644700037184]))))) (dc2 := 0) (ds2 := 0) 1 rfl ?_
    exact zT_ret rfl rfl
  refine zT_here (pc2 := 1127) rfl ?_
  refine zT_gos (f := 200000) (pc2 := 1134) (ls2 := [(4, .int 0), (3, .ref 232), (2, .ref 162), (1, .ref 0), (0, .ref 11)]) (st2 := [.int (xs 1), .ref 162, .int (-9999)]) (h2 := (((zH0.set 37 (.inr (.inr (.inr (3, [.ref 44, .ref 6, .ref 76, .ref 78, .ref 80, .ref 88, .int 1, .int 0, .ref 96, .int 0, .int 0, .int 0, .ref 98, .ref 100, .int 0]))))).set 40 (.inr (.inr (.inr (6, [.int 1, .long 70644700037184, .int 0, .ref 82, .ref 84, .ref 86]))))).set 43 (.inr (.inl (16, [70644700037184]))))) (dc2 := 117) (ds2 := 29934) 6 rfl ?_
  refine zT_val h1 ?_
  refine zT_gos (f := 200000) (pc2 := 1148) (ls2 := [(4, .int 0), (3, .ref 232), (2, .ref 162), (1, .ref 0), (0, .ref 11)]) (st2 := [.int (xs 2), .int 0, .ref 162, .int (-9999)]) (h2 := (((zH0.set 37 (.inr (.inr (.inr (3, [.ref 44, .ref 6, .ref 76, .ref 78, .ref 80, .ref 88, .int 1, .int 0, .ref 96, .int 0, .int 0, .int 0, .ref 98, .ref 100, .int 0]))))).set 40 (.inr (.inr (.inr (6, [.int 1, .long 70644700037184, .int 0, .ref 82, .ref 84, .ref 86]))))).set 43 (.inr (.inl (16, [70644700037184]))))) (dc2 := 117) (ds2 := 29934) 7 rfl ?_
  refine zT_gos (f := 200000) (pc2 := 1154) (ls2 := [(4, .int 0), (3, .ref 232), (2, .ref 162), (1, .ref 0), (0, .ref 11)]) (st2 := [.int (xs 3), .int (xs 2), .int 0, .ref 162, .int (-9999)]) (h2 := (((zH0.set 37 (.inr (.inr (.inr (3, [.ref 44, .ref 6, .ref 76, .ref 78, .ref 80, .ref 88, .int 1, .int 0, .ref 96, .int 0, .int 0, .int 0, .ref 98, .ref 100, .int 0]))))).set 40 (.inr (.inr (.inr (6, [.int 1, .long 70644700037184, .int 0, .ref 82, .ref 84, .ref 86]))))).set 43 (.inr (.inl (16, [70644700037184]))))) (dc2 := 117) (ds2 := 29934) 5 rfl ?_
  refine zT_val h3 ?_
  refine zT_call (v := some (.int (-9999))) (h2 := (((((((zH0.set 37 (.inr (.inr (.inr (3, [.ref 44, .ref 6, .ref 76, .ref 78, .ref 80, .ref 88, .int 1, .int 0, .ref 96, .int 0, .int 0, .int 0, .ref 98, .ref 100, .int 0]))))).set 40 (.inr (.inr (.inr (6, [.int 1, .long 70644700037184, .int 0, .ref 82, .ref 84, .ref 86]))))).set 43 (.inr (.inl (16, [70644700037184])))).set 106 (.inl (2, 2, [1, 0]))).set 105 (.inl (0, 2, [0]))).set 107 (.inl (0, 132, [0, 0, 0, 0, 0, 0]))).set 109 (.inl (0, 22, [0])))) (d1 := 0) (s1 := 0) rfl rfl ?_ ?_
  · refine zT_gos (f := 200000) (pc2 := 7) (ls2 := [(0, .ref 162), (1, .int 0), (2, .int (xs 2)), (3, .int 5)]) (st2 := [.int 0, .ref 162]) (h2 := (((zH0.set 37 (.inr (.inr (.inr (3, [.ref 44, .ref 6, .ref 76, .ref 78, .ref 80, .ref 88, .int 1, .int 0, .ref 96, .int 0, .int 0, .int 0, .ref 98, .ref 100, .int 0]))))).set 40 (.inr (.inr (.inr (6, [.int 1, .long 70644700037184, .int 0, .ref 82, .ref 84, .ref 86]))))).set 43 (.inr (.inl (16, [70644700037184]))))) (dc2 := 0) (ds2 := 0) 5 rfl ?_
    refine zT_call rfl rfl (zT_le (zg0_le 6 xs) zk_o_19) ?_
    refine zT_here (pc2 := 10) rfl ?_
    refine zT_gos (f := 200000) (pc2 := 29) (ls2 := [(5, .int 2), (4, .int 0), (0, .ref 162), (1, .int 0), (2, .int (xs 2)), (3, .int 5)]) (st2 := [.int (-2), .int (xs 2)]) (h2 := (((((((zH0.set 37 (.inr (.inr (.inr (3, [.ref 44, .ref 6, .ref 76, .ref 78, .ref 80, .ref 88, .int 1, .int 0, .ref 96, .int 0, .int 0, .int 0, .ref 98, .ref 100, .int 0]))))).set 40 (.inr (.inr (.inr (6, [.int 1, .long 70644700037184, .int 0, .ref 82, .ref 84, .ref 86]))))).set 43 (.inr (.inl (16, [70644700037184])))).set 106 (.inl (2, 2, [1, 0]))).set 105 (.inl (0, 2, [0]))).set 107 (.inl (0, 132, [0, 0, 0, 0, 0, 0]))).set 109 (.inl (0, 22, [0])))) (dc2 := 0) (ds2 := 0) 11 rfl ?_
    refine zT_if2 false rfl (zc_lt_f (by show ((xs 2) : Int32).toInt ≥ -2; omega)) ?_
    refine zT_here (pc2 := 32) rfl ?_
    refine zT_gos (f := 200000) (pc2 := 38) (ls2 := [(5, .int 2), (4, .int 0), (0, .ref 162), (1, .int 0), (2, .int (xs 2)), (3, .int 5)]) (st2 := [.int 2, .int (xs 2)]) (h2 := (((((((zH0.set 37 (.inr (.inr (.inr (3, [.ref 44, .ref 6, .ref 76, .ref 78, .ref 80, .ref 88, .int 1, .int 0, .ref 96, .int 0, .int 0, .int 0, .ref 98, .ref 100, .int 0]))))).set 40 (.inr (.inr (.inr (6, [.int 1, .long 70644700037184, .int 0, .ref 82, .ref 84, .ref 86]))))).set 43 (.inr (.inl (16, [70644700037184])))).set 106 (.inl (2, 2, [1, 0]))).set 105 (.inl (0, 2, [0]))).set 107 (.inl (0, 132, [0, 0, 0, 0, 0, 0]))).set 109 (.inl (0, 22, [0])))) (dc2 := 0) (ds2 := 0) 4 rfl ?_
    refine zT_if2 true rfl (zc_gt_t (by show ((xs 2) : Int32).toInt > 2; omega)) ?_
    refine zT_here (pc2 := 48) rfl ?_
    refine zT_gos (f := 200000) (pc2 := 71) (ls2 := [(5, .int 2), (4, .int 0), (0, .ref 162), (1, .int 0), (2, .int (xs 2)), (3, .int 5)]) (st2 := [.int (-9999)]) (h2 := (((((((zH0.set 37 (.inr (.inr (.inr (3, [.ref 44, .ref 6, .ref 76, .ref 78, .ref 80, .ref 88, .int 1, .int 0, .ref 96, .int 0, .int 0, .int 0, .ref 98, .ref 100, .int 0]))))).set 40 (.inr (.inr (.inr (6, [.int 1, .long 70644700037184, .int 0, .ref 82, .ref 84, .ref 86]))))).set 43 (.inr (.inl (16, [70644700037184])))).set 106 (.inl (2, 2, [1, 0]))).set 105 (.inl (0, 2, [0]))).set 107 (.inl (0, 132, [0, 0, 0, 0, 0, 0]))).set 109 (.inl (0, 22, [0])))) (dc2 := 0) (ds2 := 0) 2 rfl ?_
    exact zT_ret rfl rfl
  refine zT_here (pc2 := 1157) rfl ?_
  refine zT_gos (f := 200000) (pc2 := 1811) (ls2 := [(4, .int 6), (3, .ref 232), (2, .ref 162), (1, .ref 0), (0, .ref 11)]) (st2 := [.int 1]) (h2 := (((((((zH0.set 37 (.inr (.inr (.inr (3, [.ref 44, .ref 6, .ref 76, .ref 78, .ref 80, .ref 88, .int 1, .int 0, .ref 96, .int 0, .int 0, .int 0, .ref 98, .ref 100, .int 0]))))).set 40 (.inr (.inr (.inr (6, [.int 1, .long 70644700037184, .int 0, .ref 82, .ref 84, .ref 86]))))).set 43 (.inr (.inl (16, [70644700037184])))).set 106 (.inl (2, 2, [1, 0]))).set 105 (.inl (0, 2, [0]))).set 107 (.inl (0, 132, [0, 0, 0, 0, 0, 0]))).set 109 (.inl (0, 22, [0])))) (dc2 := 117) (ds2 := 29934) 10 rfl ?_
  exact zT_ret rfl rfl
set_option maxRecDepth 1000000 in
theorem zk_o_191 : zT zg0 zF zP 125 0 [(0, .ref 0), (1, .int 0), (2, .int (-2)), (3, .int 5)] [] zH0 0 0 (some (.int 0), (((zH0.set 37 (.inr (.inr (.inr (3, [.ref 44, .ref 6, .ref 76, .ref 78, .ref 80, .ref 88, .int 1, .int 0, .ref 96, .int 0, .int 0, .int 0, .ref 98, .ref 100, .int 0]))))).set 40 (.inr (.inr (.inr (6, [.int 1, .long 70644700037184, .int 0, .ref 82, .ref 84, .ref 86]))))).set 43 (.inr (.inl (16, [70644700037184])))), 0, 0) := zclosed (n := 339) (by decide +kernel)
set_option maxRecDepth 1000000 in
theorem zk_o_192 : zT zg0 zF zP 256 0 [(0, .ref 162), (1, .int 0), (2, .int (-2)), (3, .int 5)] [] (((zH0.set 37 (.inr (.inr (.inr (3, [.ref 44, .ref 6, .ref 76, .ref 78, .ref 80, .ref 88, .int 1, .int 0, .ref 96, .int 0, .int 0, .int 0, .ref 98, .ref 100, .int 0]))))).set 40 (.inr (.inr (.inr (6, [.int 1, .long 70644700037184, .int 0, .ref 82, .ref 84, .ref 86]))))).set 43 (.inr (.inl (16, [70644700037184])))) 0 0 (some (.int 0), (((((((zH0.set 37 (.inr (.inr (.inr (3, [.ref 44, .ref 6, .ref 76, .ref 78, .ref 80, .ref 88, .int 1, .int 0, .ref 96, .int 0, .int 0, .int 0, .ref 98, .ref 100, .int 0]))))).set 40 (.inr (.inr (.inr (6, [.int 1, .long 70644700037184, .int 0, .ref 82, .ref 84, .ref 86]))))).set 43 (.inr (.inl (16, [70644700037184])))).set 106 (.inl (2, 2, [1, 0]))).set 105 (.inl (0, 2, [0]))).set 107 (.inl (0, 132, [0, 0, 0, 0, 0, 0]))).set 109 (.inl (0, 22, [0]))), 0, 0) := zclosed (n := 377) (by decide +kernel)
set_option maxRecDepth 1000000 in
set_option maxHeartbeats 4000000 in
theorem zo_24_49 (xs : Nat → Int32) (h0 : xs 0 &&& 63 = 24) (h1 : xs 1 = 0) (h3 : xs 3 = 5) (h2 : xs 2 = (-2)) : zDone xs := by
  refine ⟨(((((((zH0.set 37 (.inr (.inr (.inr (3, [.ref 44, .ref 6, .ref 76, .ref 78, .ref 80, .ref 88, .int 1, .int 0, .ref 96, .int 0, .int 0, .int 0, .ref 98, .ref 100, .int 0]))))).set 40 (.inr (.inr (.inr (6, [.int 1, .long 70644700037184, .int 0, .ref 82, .ref 84, .ref 86]))))).set 43 (.inr (.inl (16, [70644700037184])))).set 106 (.inl (2, 2, [1, 0]))).set 105 (.inl (0, 2, [0]))).set 107 (.inl (0, 132, [0, 0, 0, 0, 0, 0]))).set 109 (.inl (0, 22, [0]))), 117, 29934, ?_, by decide, by decide⟩
  refine zT_gos (f := 200000) (pc2 := 37) (ls2 := [(4, .int 0), (3, .ref 232), (2, .ref 162), (1, .ref 0), (0, .ref 11)]) (st2 := [.int (xs 0)]) (h2 := zH0) (dc2 := 117) (ds2 := 29934) 9 rfl ?_
  refine zT_gos (f := 200000) (pc2 := 40) (ls2 := [(4, .int 0), (3, .ref 232), (2, .ref 162), (1, .ref 0), (0, .ref 11)]) (st2 := [.int ((xs 0) &&& (63 : Int32))]) (h2 := zH0) (dc2 := 117) (ds2 := 29934) 2 rfl ?_
  refine zT_val h0 ?_
  refine zT_gos (f := 200000) (pc2 := 1104) (ls2 := [(4, .int 0), (3, .ref 232), (2, .ref 162), (1, .ref 0), (0, .ref 11)]) (st2 := [.int (xs 1), .ref 0]) (h2 := zH0) (dc2 := 117) (ds2 := 29934) 7 rfl ?_
  refine zT_val h1 ?_
  refine zT_gos (f := 200000) (pc2 := 1118) (ls2 := [(4, .int 0), (3, .ref 232), (2, .ref 162), (1, .ref 0), (0, .ref 11)]) (st2 := [.int (xs 2), .int 0, .ref 0]) (h2 := zH0) (dc2 := 117) (ds2 := 29934) 7 rfl ?_
  refine zT_val h2 ?_
  refine zT_gos (f := 200000) (pc2 := 1124) (ls2 := [(4, .int 0), (3, .ref 232), (2, .ref 162), (1, .ref 0), (0, .ref 11)]) (st2 := [.int (xs 3), .int (-2), .int 0, .ref 0]) (h2 := zH0) (dc2 := 117) (ds2 := 29934) 5 rfl ?_
  refine zT_val h3 ?_
  refine zT_call rfl rfl (zT_le (zg0_le 6 xs) zk_o_191) ?_
  refine zT_here (pc2 := 1127) rfl ?_
  refine zT_gos (f := 200000) (pc2 := 1134) (ls2 := [(4, .int 0), (3, .ref 232), (2, .ref 162), (1, .ref 0), (0, .ref 11)]) (st2 := [.int (xs 1), .ref 162, .int 0]) (h2 := (((zH0.set 37 (.inr (.inr (.inr (3, [.ref 44, .ref 6, .ref 76, .ref 78, .ref 80, .ref 88, .int 1, .int 0, .ref 96, .int 0, .int 0, .int 0, .ref 98, .ref 100, .int 0]))))).set 40 (.inr (.inr (.inr (6, [.int 1, .long 70644700037184, .int 0, .ref 82, .ref 84, .ref 86]))))).set 43 (.inr (.inl (16, [70644700037184]))))) (dc2 := 117) (ds2 := 29934) 6 rfl ?_
  refine zT_val h1 ?_
  refine zT_gos (f := 200000) (pc2 := 1148) (ls2 := [(4, .int 0), (3, .ref 232), (2, .ref 162), (1, .ref 0), (0, .ref 11)]) (st2 := [.int (xs 2), .int 0, .ref 162, .int 0]) (h2 := (((zH0.set 37 (.inr (.inr (.inr (3, [.ref 44, .ref 6, .ref 76, .ref 78, .ref 80, .ref 88, .int 1, .int 0, .ref 96, .int 0, .int 0, .int 0, .ref 98, .ref 100, .int 0]))))).set 40 (.inr (.inr (.inr (6, [.int 1, .long 70644700037184, .int 0, .ref 82, .ref 84, .ref 86]))))).set 43 (.inr (.inl (16, [70644700037184]))))) (dc2 := 117) (ds2 := 29934) 7 rfl ?_
  refine zT_val h2 ?_
  refine zT_gos (f := 200000) (pc2 := 1154) (ls2 := [(4, .int 0), (3, .ref 232), (2, .ref 162), (1, .ref 0), (0, .ref 11)]) (st2 := [.int (xs 3), .int (-2), .int 0, .ref 162, .int 0]) (h2 := (((zH0.set 37 (.inr (.inr (.inr (3, [.ref 44, .ref 6, .ref 76, .ref 78, .ref 80, .ref 88, .int 1, .int 0, .ref 96, .int 0, .int 0, .int 0, .ref 98, .ref 100, .int 0]))))).set 40 (.inr (.inr (.inr (6, [.int 1, .long 70644700037184, .int 0, .ref 82, .ref 84, .ref 86]))))).set 43 (.inr (.inl (16, [70644700037184]))))) (dc2 := 117) (ds2 := 29934) 5 rfl ?_
  refine zT_val h3 ?_
  refine zT_call rfl rfl (zT_le (zg0_le 6 xs) zk_o_192) ?_
  refine zT_here (pc2 := 1157) rfl ?_
  refine zT_gos (f := 200000) (pc2 := 1811) (ls2 := [(4, .int 6), (3, .ref 232), (2, .ref 162), (1, .ref 0), (0, .ref 11)]) (st2 := [.int 1]) (h2 := (((((((zH0.set 37 (.inr (.inr (.inr (3, [.ref 44, .ref 6, .ref 76, .ref 78, .ref 80, .ref 88, .int 1, .int 0, .ref 96, .int 0, .int 0, .int 0, .ref 98, .ref 100, .int 0]))))).set 40 (.inr (.inr (.inr (6, [.int 1, .long 70644700037184, .int 0, .ref 82, .ref 84, .ref 86]))))).set 43 (.inr (.inl (16, [70644700037184])))).set 106 (.inl (2, 2, [1, 0]))).set 105 (.inl (0, 2, [0]))).set 107 (.inl (0, 132, [0, 0, 0, 0, 0, 0]))).set 109 (.inl (0, 22, [0])))) (dc2 := 117) (ds2 := 29934) 10 rfl ?_
  exact zT_ret rfl rfl
set_option maxRecDepth 1000000 in
theorem zk_o_193 : zT zg0 zF zP 125 0 [(0, .ref 0), (1, .int 0), (2, .int (-1)), (3, .int 5)] [] zH0 0 0 (some (.int 0), (((zH0.set 37 (.inr (.inr (.inr (3, [.ref 44, .ref 6, .ref 76, .ref 78, .ref 80, .ref 88, .int 1, .int 0, .ref 96, .int 0, .int 0, .int 0, .ref 98, .ref 100, .int 0]))))).set 40 (.inr (.inr (.inr (6, [.int 1, .long 70644700037184, .int 0, .ref 82, .ref 84, .ref 86]))))).set 43 (.inr (.inl (16, [70644700037184])))), 0, 0) := zclosed (n := 344) (by decide +kernel)
set_option maxRecDepth 1000000 in
theorem zk_o_194 : zT zg0 zF zP 256 0 [(0, .ref 162), (1, .int 0), (2, .int (-1)), (3, .int 5)] [] (((zH0.set 37 (.inr (.inr (.inr (3, [.ref 44, .ref 6, .ref 76, .ref 78, .ref 80, .ref 88, .int 1, .int 0, .ref 96, .int 0, .int 0, .int 0, .ref 98, .ref 100, .int 0]))))).set 40 (.inr (.inr (.inr (6, [.int 1, .long 70644700037184, .int 0, .ref 82, .ref 84, .ref 86]))))).set 43 (.inr (.inl (16, [70644700037184])))) 0 0 (some (.int 0), (((((((zH0.set 37 (.inr (.inr (.inr (3, [.ref 44, .ref 6, .ref 76, .ref 78, .ref 80, .ref 88, .int 1, .int 0, .ref 96, .int 0, .int 0, .int 0, .ref 98, .ref 100, .int 0]))))).set 40 (.inr (.inr (.inr (6, [.int 1, .long 70644700037184, .int 0, .ref 82, .ref 84, .ref 86]))))).set 43 (.inr (.inl (16, [70644700037184])))).set 106 (.inl (2, 2, [1, 0]))).set 105 (.inl (0, 2, [0]))).set 107 (.inl (0, 132, [0, 0, 0, 0, 0, 0]))).set 109 (.inl (0, 22, [0]))), 0, 0) := zclosed (n := 401) (by decide +kernel)
set_option maxRecDepth 1000000 in
set_option maxHeartbeats 4000000 in
theorem zo_24_50 (xs : Nat → Int32) (h0 : xs 0 &&& 63 = 24) (h1 : xs 1 = 0) (h3 : xs 3 = 5) (h2 : xs 2 = (-1)) : zDone xs := by
  refine ⟨(((((((zH0.set 37 (.inr (.inr (.inr (3, [.ref 44, .ref 6, .ref 76, .ref 78, .ref 80, .ref 88, .int 1, .int 0, .ref 96, .int 0, .int 0, .int 0, .ref 98, .ref 100, .int 0]))))).set 40 (.inr (.inr (.inr (6, [.int 1, .long 70644700037184, .int 0, .ref 82, .ref 84, .ref 86]))))).set 43 (.inr (.inl (16, [70644700037184])))).set 106 (.inl (2, 2, [1, 0]))).set 105 (.inl (0, 2, [0]))).set 107 (.inl (0, 132, [0, 0, 0, 0, 0, 0]))).set 109 (.inl (0, 22, [0]))), 117, 29934, ?_, by decide, by decide⟩
  refine zT_gos (f := 200000) (pc2 := 37) (ls2 := [(4, .int 0), (3, .ref 232), (2, .ref 162), (1, .ref 0), (0, .ref 11)]) (st2 := [.int (xs 0)]) (h2 := zH0) (dc2 := 117) (ds2 := 29934) 9 rfl ?_
  refine zT_gos (f := 200000) (pc2 := 40) (ls2 := [(4, .int 0), (3, .ref 232), (2, .ref 162), (1, .ref 0), (0, .ref 11)]) (st2 := [.int ((xs 0) &&& (63 : Int32))]) (h2 := zH0) (dc2 := 117) (ds2 := 29934) 2 rfl ?_
  refine zT_val h0 ?_
  refine zT_gos (f := 200000) (pc2 := 1104) (ls2 := [(4, .int 0), (3, .ref 232), (2, .ref 162), (1, .ref 0), (0, .ref 11)]) (st2 := [.int (xs 1), .ref 0]) (h2 := zH0) (dc2 := 117) (ds2 := 29934) 7 rfl ?_
  refine zT_val h1 ?_
  refine zT_gos (f := 200000) (pc2 := 1118) (ls2 := [(4, .int 0), (3, .ref 232), (2, .ref 162), (1, .ref 0), (0, .ref 11)]) (st2 := [.int (xs 2), .int 0, .ref 0]) (h2 := zH0) (dc2 := 117) (ds2 := 29934) 7 rfl ?_
  refine zT_val h2 ?_
  refine zT_gos (f := 200000) (pc2 := 1124) (ls2 := [(4, .int 0), (3, .ref 232), (2, .ref 162), (1, .ref 0), (0, .ref 11)]) (st2 := [.int (xs 3), .int (-1), .int 0, .ref 0]) (h2 := zH0) (dc2 := 117) (ds2 := 29934) 5 rfl ?_
  refine zT_val h3 ?_
  refine zT_call rfl rfl (zT_le (zg0_le 6 xs) zk_o_193) ?_
  refine zT_here (pc2 := 1127) rfl ?_
  refine zT_gos (f := 200000) (pc2 := 1134) (ls2 := [(4, .int 0), (3, .ref 232), (2, .ref 162), (1, .ref 0), (0, .ref 11)]) (st2 := [.int (xs 1), .ref 162, .int 0]) (h2 := (((zH0.set 37 (.inr (.inr (.inr (3, [.ref 44, .ref 6, .ref 76, .ref 78, .ref 80, .ref 88, .int 1, .int 0, .ref 96, .int 0, .int 0, .int 0, .ref 98, .ref 100, .int 0]))))).set 40 (.inr (.inr (.inr (6, [.int 1, .long 70644700037184, .int 0, .ref 82, .ref 84, .ref 86]))))).set 43 (.inr (.inl (16, [70644700037184]))))) (dc2 := 117) (ds2 := 29934) 6 rfl ?_
  refine zT_val h1 ?_
  refine zT_gos (f := 200000) (pc2 := 1148) (ls2 := [(4, .int 0), (3, .ref 232), (2, .ref 162), (1, .ref 0), (0, .ref 11)]) (st2 := [.int (xs 2), .int 0, .ref 162, .int 0]) (h2 := (((zH0.set 37 (.inr (.inr (.inr (3, [.ref 44, .ref 6, .ref 76, .ref 78, .ref 80, .ref 88, .int 1, .int 0, .ref 96, .int 0, .int 0, .int 0, .ref 98, .ref 100, .int 0]))))).set 40 (.inr (.inr (.inr (6, [.int 1, .long 70644700037184, .int 0, .ref 82, .ref 84, .ref 86]))))).set 43 (.inr (.inl (16, [70644700037184]))))) (dc2 := 117) (ds2 := 29934) 7 rfl ?_
  refine zT_val h2 ?_
  refine zT_gos (f := 200000) (pc2 := 1154) (ls2 := [(4, .int 0), (3, .ref 232), (2, .ref 162), (1, .ref 0), (0, .ref 11)]) (st2 := [.int (xs 3), .int (-1), .int 0, .ref 162, .int 0]) (h2 := (((zH0.set 37 (.inr (.inr (.inr (3, [.ref 44, .ref 6, .ref 76, .ref 78, .ref 80, .ref 88, .int 1, .int 0, .ref 96, .int 0, .int 0, .int 0, .ref 98, .ref 100, .int 0]))))).set 40 (.inr (.inr (.inr (6, [.int 1, .long 70644700037184, .int 0, .ref 82, .ref 84, .ref 86]))))).set 43 (.inr (.inl (16, [70644700037184]))))) (dc2 := 117) (ds2 := 29934) 5 rfl ?_
  refine zT_val h3 ?_
  refine zT_call rfl rfl (zT_le (zg0_le 6 xs) zk_o_194) ?_
  refine zT_here (pc2 := 1157) rfl ?_
  refine zT_gos (f := 200000) (pc2 := 1811) (ls2 := [(4, .int 6), (3, .ref 232), (2, .ref 162), (1, .ref 0), (0, .ref 11)]) (st2 := [.int 1]) (h2 := (((((((zH0.set 37 (.inr (.inr (.inr (3, [.ref 44, .ref 6, .ref 76, .ref 78, .ref 80, .ref 88, .int 1, .int 0, .ref 96, .int 0, .int 0, .int 0, .ref 98, .ref 100, .int 0]))))).set 40 (.inr (.inr (.inr (6, [.int 1, .long 70644700037184, .int 0, .ref 82, .ref 84, .ref 86]))))).set 43 (.inr (.inl (16, [70644700037184])))).set 106 (.inl (2, 2, [1, 0]))).set 105 (.inl (0, 2, [0]))).set 107 (.inl (0, 132, [0, 0, 0, 0, 0, 0]))).set 109 (.inl (0, 22, [0])))) (dc2 := 117) (ds2 := 29934) 10 rfl ?_
  exact zT_ret rfl rfl
set_option maxRecDepth 1000000 in
theorem zk_o_195 : zT zg0 zF zP 125 0 [(0, .ref 0), (1, .int 0), (2, .int 0), (3, .int 5)] [] zH0 0 0 (some (.int 0), (((zH0.set 37 (.inr (.inr (.inr (3, [.ref 44, .ref 6, .ref 76, .ref 78, .ref 80, .ref 88, .int 1, .int 0, .ref 96, .int 0, .int 0, .int 0, .ref 98, .ref 100, .int 0]))))).set 40 (.inr (.inr (.inr (6, [.int 1, .long 70644700037184, .int 0, .ref 82, .ref 84, .ref 86]))))).set 43 (.inr (.inl (16, [70644700037184])))), 0, 0) := zclosed (n := 349) (by decide +kernel)
set_option maxRecDepth 1000000 in
theorem zk_o_196 : zT zg0 zF zP 256 0 [(0, .ref 162), (1, .int 0), (2, .int 0), (3, .int 5)] [] (((zH0.set 37 (.inr (.inr (.inr (3, [.ref 44, .ref 6, .ref 76, .ref 78, .ref 80, .ref 88, .int 1, .int 0, .ref 96, .int 0, .int 0, .int 0, .ref 98, .ref 100, .int 0]))))).set 40 (.inr (.inr (.inr (6, [.int 1, .long 70644700037184, .int 0, .ref 82, .ref 84, .ref 86]))))).set 43 (.inr (.inl (16, [70644700037184])))) 0 0 (some (.int 0), (((((((zH0.set 37 (.inr (.inr (.inr (3, [.ref 44, .ref 6, .ref 76, .ref 78, .ref 80, .ref 88, .int 1, .int 0, .ref 96, .int 0, .int 0, .int 0, .ref 98, .ref 100, .int 0]))))).set 40 (.inr (.inr (.inr (6, [.int 1, .long 70644700037184, .int 0, .ref 82, .ref 84, .ref 86]))))).set 43 (.inr (.inl (16, [70644700037184])))).set 106 (.inl (2, 2, [1, 0]))).set 105 (.inl (0, 2, [0]))).set 107 (.inl (0, 132, [0, 0, 0, 0, 0, 0]))).set 109 (.inl (0, 22, [0]))), 0, 0) := zclosed (n := 425) (by decide +kernel)
set_option maxRecDepth 1000000 in
set_option maxHeartbeats 4000000 in
theorem zo_24_51 (xs : Nat → Int32) (h0 : xs 0 &&& 63 = 24) (h1 : xs 1 = 0) (h3 : xs 3 = 5) (h2 : xs 2 = 0) : zDone xs := by
  refine ⟨(((((((zH0.set 37 (.inr (.inr (.inr (3, [.ref 44, .ref 6, .ref 76, .ref 78, .ref 80, .ref 88, .int 1, .int 0, .ref 96, .int 0, .int 0, .int 0, .ref 98, .ref 100, .int 0]))))).set 40 (.inr (.inr (.inr (6, [.int 1, .long 70644700037184, .int 0, .ref 82, .ref 84, .ref 86]))))).set 43 (.inr (.inl (16, [70644700037184])))).set 106 (.inl (2, 2, [1, 0]))).set 105 (.inl (0, 2, [0]))).set 107 (.inl (0, 132, [0, 0, 0, 0, 0, 0]))).set 109 (.inl (0, 22, [0]))), 117, 29934, ?_, by decide, by decide⟩
  refine zT_gos (f := 200000) (pc2 := 37) (ls2 := [(4, .int 0), (3, .ref 232), (2, .ref 162), (1, .ref 0), (0, .ref 11)]) (st2 := [.int (xs 0)]) (h2 := zH0) (dc2 := 117) (ds2 := 29934) 9 rfl ?_
  refine zT_gos (f := 200000) (pc2 := 40) (ls2 := [(4, .int 0), (3, .ref 232), (2, .ref 162), (1, .ref 0), (0, .ref 11)]) (st2 := [.int ((xs 0) &&& (63 : Int32))]) (h2 := zH0) (dc2 := 117) (ds2 := 29934) 2 rfl ?_
  refine zT_val h0 ?_
  refine zT_gos (f := 200000) (pc2 := 1104) (ls2 := [(4, .int 0), (3, .ref 232), (2, .ref 162), (1, .ref 0), (0, .ref 11)]) (st2 := [.int (xs 1), .ref 0]) (h2 := zH0) (dc2 := 117) (ds2 := 29934) 7 rfl ?_
  refine zT_val h1 ?_
  refine zT_gos (f := 200000) (pc2 := 1118) (ls2 := [(4, .int 0), (3, .ref 232), (2, .ref 162), (1, .ref 0), (0, .ref 11)]) (st2 := [.int (xs 2), .int 0, .ref 0]) (h2 := zH0) (dc2 := 117) (ds2 := 29934) 7 rfl ?_
  refine zT_val h2 ?_
  refine zT_gos (f := 200000) (pc2 := 1124) (ls2 := [(4, .int 0), (3, .ref 232), (2, .ref 162), (1, .ref 0), (0, .ref 11)]) (st2 := [.int (xs 3), .int 0, .int 0, .ref 0]) (h2 := zH0) (dc2 := 117) (ds2 := 29934) 5 rfl ?_
  refine zT_val h3 ?_
  refine zT_call rfl rfl (zT_le (zg0_le 6 xs) zk_o_195) ?_
  refine zT_here (pc2 := 1127) rfl ?_
  refine zT_gos (f := 200000) (pc2 := 1134) (ls2 := [(4, .int 0), (3, .ref 232), (2, .ref 162), (1, .ref 0), (0, .ref 11)]) (st2 := [.int (xs 1), .ref 162, .int 0]) (h2 := (((zH0.set 37 (.inr (.inr (.inr (3, [.ref 44, .ref 6, .ref 76, .ref 78, .ref 80, .ref 88, .int 1, .int 0, .ref 96, .int 0, .int 0, .int 0, .ref 98, .ref 100, .int 0]))))).set 40 (.inr (.inr (.inr (6, [.int 1, .long 70644700037184, .int 0, .ref 82, .ref 84, .ref 86]))))).set 43 (.inr (.inl (16, [70644700037184]))))) (dc2 := 117) (ds2 := 29934) 6 rfl ?_
  refine zT_val h1 ?_
  refine zT_gos (f := 200000) (pc2 := 1148) (ls2 := [(4, .int 0), (3, .ref 232), (2, .ref 162), (1, .ref 0), (0, .ref 11)]) (st2 := [.int (xs 2), .int 0, .ref 162, .int 0]) (h2 := (((zH0.set 37 (.inr (.inr (.inr (3, [.ref 44, .ref 6, .ref 76, .ref 78, .ref 80, .ref 88, .int 1, .int 0, .ref 96, .int 0, .int 0, .int 0, .ref 98, .ref 100, .int 0]))))).set 40 (.inr (.inr (.inr (6, [.int 1, .long 70644700037184, .int 0, .ref 82, .ref 84, .ref 86]))))).set 43 (.inr (.inl (16, [70644700037184]))))) (dc2 := 117) (ds2 := 29934) 7 rfl ?_
  refine zT_val h2 ?_
  refine zT_gos (f := 200000) (pc2 := 1154) (ls2 := [(4, .int 0), (3, .ref 232), (2, .ref 162), (1, .ref 0), (0, .ref 11)]) (st2 := [.int (xs 3), .int 0, .int 0, .ref 162, .int 0]) (h2 := (((zH0.set 37 (.inr (.inr (.inr (3, [.ref 44, .ref 6, .ref 76, .ref 78, .ref 80, .ref 88, .int 1, .int 0, .ref 96, .int 0, .int 0, .int 0, .ref 98, .ref 100, .int 0]))))).set 40 (.inr (.inr (.inr (6, [.int 1, .long 70644700037184, .int 0, .ref 82, .ref 84, .ref 86]))))).set 43 (.inr (.inl (16, [70644700037184]))))) (dc2 := 117) (ds2 := 29934) 5 rfl ?_
  refine zT_val h3 ?_
  refine zT_call rfl rfl (zT_le (zg0_le 6 xs) zk_o_196) ?_
  refine zT_here (pc2 := 1157) rfl ?_
  refine zT_gos (f := 200000) (pc2 := 1811) (ls2 := [(4, .int 6), (3, .ref 232), (2, .ref 162), (1, .ref 0), (0, .ref 11)]) (st2 := [.int 1]) (h2 := (((((((zH0.set 37 (.inr (.inr (.inr (3, [.ref 44, .ref 6, .ref 76, .ref 78, .ref 80, .ref 88, .int 1, .int 0, .ref 96, .int 0, .int 0, .int 0, .ref 98, .ref 100, .int 0]))))).set 40 (.inr (.inr (.inr (6, [.int 1, .long 70644700037184, .int 0, .ref 82, .ref 84, .ref 86]))))).set 43 (.inr (.inl (16, [70644700037184])))).set 106 (.inl (2, 2, [1, 0]))).set 105 (.inl (0, 2, [0]))).set 107 (.inl (0, 132, [0, 0, 0, 0, 0, 0]))).set 109 (.inl (0, 22, [0])))) (dc2 := 117) (ds2 := 29934) 10 rfl ?_
  exact zT_ret rfl rfl
set_option maxRecDepth 1000000 in
theorem zk_o_197 : zT zg0 zF zP 125 0 [(0, .ref 0), (1, .int 0), (2, .int 1), (3, .int 5)] [] zH0 0 0 (some (.int 0), (((zH0.set 37 (.inr (.inr (.inr (3, [.ref 44, .ref 6, .ref 76, .ref 78, .ref 80, .ref 88, .int 1, .int 0, .ref 96, .int 0, .int 0, .int 0, .ref 98, .ref 100, .int 0]))))).set 40 (.inr (.inr (.inr (6, [.int 1, .long 70644700037184, .int 0, .ref 82, .ref 84, .ref 86]))))).set 43 (.inr (.inl (16, [70644700037184])))), 0, 0) := zclosed (n := 354) (by decide +kernel)
set_option maxRecDepth 1000000 in
theorem zk_o_198 : zT zg0 zF zP 256 0 [(0, .ref 162), (1, .int 0), (2, .int 1), (3, .int 5)] [] (((zH0.set 37 (.inr (.inr (.inr (3, [.ref 44, .ref 6, .ref 76, .ref 78, .ref 80, .ref 88, .int 1, .int 0, .ref 96, .int 0, .int 0, .int 0, .ref 98, .ref 100, .int 0]))))).set 40 (.inr (.inr (.inr (6, [.int 1, .long 70644700037184, .int 0, .ref 82, .ref 84, .ref 86]))))).set 43 (.inr (.inl (16, [70644700037184])))) 0 0 (some (.int 0), (((((((zH0.set 37 (.inr (.inr (.inr (3, [.ref 44, .ref 6, .ref 76, .ref 78, .ref 80, .ref 88, .int 1, .int 0, .ref 96, .int 0, .int 0, .int 0, .ref 98, .ref 100, .int 0]))))).set 40 (.inr (.inr (.inr (6, [.int 1, .long 70644700037184, .int 0, .ref 82, .ref 84, .ref 86]))))).set 43 (.inr (.inl (16, [70644700037184])))).set 106 (.inl (2, 2, [1, 0]))).set 105 (.inl (0, 2, [0]))).set 107 (.inl (0, 132, [0, 0, 0, 0, 0, 0]))).set 109 (.inl (0, 22, [0]))), 0, 0) := zclosed (n := 449) (by decide +kernel)
set_option maxRecDepth 1000000 in
set_option maxHeartbeats 4000000 in
theorem zo_24_52 (xs : Nat → Int32) (h0 : xs 0 &&& 63 = 24) (h1 : xs 1 = 0) (h3 : xs 3 = 5) (h2 : xs 2 = 1) : zDone xs := by
  refine ⟨(((((((zH0.set 37 (.inr (.inr (.inr (3, [.ref 44, .ref 6, .ref 76, .ref 78, .ref 80, .ref 88, .int 1, .int 0, .ref 96, .int 0, .int 0, .int 0, .ref 98, .ref 100, .int 0]))))).set 40 (.inr (.inr (.inr (6, [.int 1, .long 70644700037184, .int 0, .ref 82, .ref 84, .ref 86]))))).set 43 (.inr (.inl (16, [70644700037184])))).set 106 (.inl (2, 2, [1, 0]))).set 105 (.inl (0, 2, [0]))).set 107 (.inl (0, 132, [0, 0, 0, 0, 0, 0]))).set 109 (.inl (0, 22, [0]))), 117, 29934, ?_, by decide, by decide⟩
  refine zT_gos (f := 200000) (pc2 := 37) (ls2 := [(4, .int 0), (3, .ref 232), (2, .ref 162), (1, .ref 0), (0, .ref 11)]) (st2 := [.int (xs 0)]) (h2 := zH0) (dc2 := 117) (ds2 := 29934) 9 rfl ?_
  refine zT_gos (f := 200000) (pc2 := 40) (ls2 := [(4, .int 0), (3, .ref 232), (2, .ref 162), (1, .ref 0), (0, .ref 11)]) (st2 := [.int ((xs 0) &&& (63 : Int32))]) (h2 := zH0) (dc2 := 117) (ds2 := 29934) 2 rfl ?_
  refine zT_val h0 ?_
  refine zT_gos (f := 200000) (pc2 := 1104) (ls2 := [(4, .int 0), (3, .ref 232), (2, .ref 162), (1, .ref 0), (0, .ref 11)]) (st2 := [.int (xs 1), .ref 0]) (h2 := zH0) (dc2 := 117) (ds2 := 29934) 7 rfl ?_
  refine zT_val h1 ?_
  refine zT_gos (f := 200000) (pc2 := 1118) (ls2 := [(4, .int 0), (3, .ref 232), (2, .ref 162), (1, .ref 0), (0, .ref 11)]) (st2 := [.int (xs 2), .int 0, .ref 0]) (h2 := zH0) (dc2 := 117) (ds2 := 29934) 7 rfl ?_
  refine zT_val h2 ?_
  refine zT_gos (f := 200000) (pc2 := 1124) (ls2 := [(4, .int 0), (3, .ref 232), (2, .ref 162), (1, .ref 0), (0, .ref 11)]) (st2 := [.int (xs 3), .int 1, .int 0, .ref 0]) (h2 := zH0) (dc2 := 117) (ds2 := 29934) 5 rfl ?_
  refine zT_val h3 ?_
  refine zT_call rfl rfl (zT_le (zg0_le 6 xs) zk_o_197) ?_
  refine zT_here (pc2 := 1127) rfl ?_
  refine zT_gos (f := 200000) (pc2 := 1134) (ls2 := [(4, .int 0), (3, .ref 232), (2, .ref 162), (1, .ref 0), (0, .ref 11)]) (st2 := [.int (xs 1), .ref 162, .int 0]) (h2 := (((zH0.set 37 (.inr (.inr (.inr (3, [.ref 44, .ref 6, .ref 76, .ref 78, .ref 80, .ref 88, .int 1, .int 0, .ref 96, .int 0, .int 0, .int 0, .ref 98, .ref 100, .int 0]))))).set 40 (.inr (.inr (.inr (6, [.int 1, .long 70644700037184, .int 0, .ref 82, .ref 84, .ref 86]))))).set 43 (.inr (.inl (16, [70644700037184]))))) (dc2 := 117) (ds2 := 29934) 6 rfl ?_
  refine zT_val h1 ?_
  refine zT_gos (f := 200000) (pc2 := 1148) (ls2 := [(4, .int 0), (3, .ref 232), (2, .ref 162), (1, .ref 0), (0, .ref 11)]) (st2 := [.int (xs 2), .int 0, .ref 162, .int 0]) (h2 := (((zH0.set 37 (.inr (.inr (.inr (3, [.ref 44, .ref 6, .ref 76, .ref 78, .ref 80, .ref 88, .int 1, .int 0, .ref 96, .int 0, .int 0, .int 0, .ref 98, .ref 100, .int 0]))))).set 40 (.inr (.inr (.inr (6, [.int 1, .long 70644700037184, .int 0, .ref 82, .ref 84, .ref 86]))))).set 43 (.inr (.inl (16, [70644700037184]))))) (dc2 := 117) (ds2 := 29934) 7 rfl ?_
  refine zT_val h2 ?_
  refine zT_gos (f := 200000) (pc2 := 1154) (ls2 := [(4, .int 0), (3, .ref 232), (2, .ref 162), (1, .ref 0), (0, .ref 11)]) (st2 := [.int (xs 3), .int 1, .int 0, .ref 162, .int 0]) (h2 := (((zH0.set 37 (.inr (.inr (.inr (3, [.ref 44, .ref 6, .ref 76, .ref 78, .ref 80, .ref 88, .int 1, .int 0, .ref 96, .int 0, .int 0, .int 0, .ref 98, .ref 100, .int 0]))))).set 40 (.inr (.inr (.inr (6, [.int 1, .long 70644700037184, .int 0, .ref 82, .ref 84, .ref 86]))))).set 43 (.inr (.inl (16, [70644700037184]))))) (dc2 := 117) (ds2 := 29934) 5 rfl ?_
  refine zT_val h3 ?_
  refine zT_call rfl rfl (zT_le (zg0_le 6 xs) zk_o_198) ?_
  refine zT_here (pc2 := 1157) rfl ?_
  refine zT_gos (f := 200000) (pc2 := 1811) (ls2 := [(4, .int 6), (3, .ref 232), (2, .ref 162), (1, .ref 0), (0, .ref 11)]) (st2 := [.int 1]) (h2 := (((((((zH0.set 37 (.inr (.inr (.inr (3, [.ref 44, .ref 6, .ref 76, .ref 78, .ref 80, .ref 88, .int 1, .int 0, .ref 96, .int 0, .int 0, .int 0, .ref 98, .ref 100, .int 0]))))).set 40 (.inr (.inr (.inr (6, [.int 1, .long 70644700037184, .int 0, .ref 82, .ref 84, .ref 86]))))).set 43 (.inr (.inl (16, [70644700037184])))).set 106 (.inl (2, 2, [1, 0]))).set 105 (.inl (0, 2, [0]))).set 107 (.inl (0, 132, [0, 0, 0, 0, 0, 0]))).set 109 (.inl (0, 22, [0])))) (dc2 := 117) (ds2 := 29934) 10 rfl ?_
  exact zT_ret rfl rfl
set_option maxRecDepth 1000000 in
theorem zk_o_199 : zT zg0 zF zP 125 0 [(0, .ref 0), (1, .int 0), (2, .int 2), (3, .int 5)] [] zH0 0 0 (some (.int 0), (((zH0.set 37 (.inr (.inr (.inr (3, [.ref 44, .ref 6, .ref 76, .ref 78, .ref 80, .ref 88, .int 1, .int 0, .ref 96, .int 0, .int 0, .int 0, .ref 98, .ref 100, .int 0]))))).set 40 (.inr (.inr (.inr (6, [.int 1, .long 70644700037184, .int 0, .ref 82, .ref 84, .ref 86]))))).set 43 (.inr (.inl (16, [70644700037184])))), 0, 0) := zclosed (n := 359) (by decide +kernel)
set_option maxRecDepth 1000000 in
theorem zk_o_200 : zT zg0 zF zP 256 0 [(0, .ref 162), (1, .int 0), (2, .int 2), (3, .int 5)] [] (((zH0.set 37 (.inr (.inr (.inr (3, [.ref 44, .ref 6, .ref 76, .ref 78, .ref 80, .ref 88, .int 1, .int 0, .ref 96, .int 0, .int 0, .int 0, .ref 98, .ref 100, .int 0]))))).set 40 (.inr (.inr (.inr (6, [.int 1, .long 70644700037184, .int 0, .ref 82, .ref 84, .ref 86]))))).set 43 (.inr (.inl (16, [70644700037184])))) 0 0 (some (.int 0), (((((((zH0.set 37 (.inr (.inr (.inr (3, [.ref 44, .ref 6, .ref 76, .ref 78, .ref 80, .ref 88, .int 1, .int 0, .ref 96, .int 0, .int 0, .int 0, .ref 98, .ref 100, .int 0]))))).set 40 (.inr (.inr (.inr (6, [.int 1, .long 70644700037184, .int 0, .ref 82, .ref 84, .ref 86]))))).set 43 (.inr (.inl (16, [70644700037184])))).set 106 (.inl (2, 2, [1, 0]))).set 105 (.inl (0, 2, [0]))).set 107 (.inl (0, 132, [0, 0, 0, 0, 0, 0]))).set 109 (.inl (0, 22, [0]))), 0, 0) := zclosed (n := 473) (by decide +kernel)
set_option maxRecDepth 1000000 in
set_option maxHeartbeats 4000000 in
theorem zo_24_53 (xs : Nat → Int32) (h0 : xs 0 &&& 63 = 24) (h1 : xs 1 = 0) (h3 : xs 3 = 5) (h2 : xs 2 = 2) : zDone xs := by
  refine ⟨(((((((zH0.set 37 (.inr (.inr (.inr (3, [.ref 44, .ref 6, .ref 76, .ref 78, .ref 80, .ref 88, .int 1, .int 0, .ref 96, .int 0, .int 0, .int 0, .ref 98, .ref 100, .int 0]))))).set 40 (.inr (.inr (.inr (6, [.int 1, .long 70644700037184, .int 0, .ref 82, .ref 84, .ref 86]))))).set 43 (.inr (.inl (16, [70644700037184])))).set 106 (.inl (2, 2, [1, 0]))).set 105 (.inl (0, 2, [0]))).set 107 (.inl (0, 132, [0, 0, 0, 0, 0, 0]))).set 109 (.inl (0, 22, [0]))), 117, 29934, ?_, by decide, by decide⟩
  refine zT_gos (f := 200000) (pc2 := 37) (ls2 := [(4, .int 0), (3, .ref 232), (2, .ref 162), (1, .ref 0), (0, .ref 11)]) (st2 := [.int (xs 0)]) (h2 := zH0) (dc2 := 117) (ds2 := 29934) 9 rfl ?_
  refine zT_gos (f := 200000) (pc2 := 40) (ls2 := [(4, .int 0), (3, .ref 232), (2, .ref 162), (1, .ref 0), (0, .ref 11)]) (st2 := [.int ((xs 0) &&& (63 : Int32))]) (h2 := zH0) (dc2 := 117) (ds2 := 29934) 2 rfl ?_
  refine zT_val h0 ?_
  refine zT_gos (f := 200000) (pc2 := 1104) (ls2 := [(4, .int 0), (3, .ref 232), (2, .ref 162), (1, .ref 0), (0, .ref 11)]) (st2 := [.int (xs 1), .ref 0]) (h2 := zH0) (dc2 := 117) (ds2 := 29934) 7 rfl ?_
  refine zT_val h1 ?_
  refine zT_gos (f := 200000) (pc2 := 1118) (ls2 := [(4, .int 0), (3, .ref 232), (2, .ref 162), (1, .ref 0), (0, .ref 11)]) (st2 := [.int (xs 2), .int 0, .ref 0]) (h2 := zH0) (dc2 := 117) (ds2 := 29934) 7 rfl ?_
  refine zT_val h2 ?_
  refine zT_gos (f := 200000) (pc2 := 1124) (ls2 := [(4, .int 0), (3, .ref 232), (2, .ref 162), (1, .ref 0), (0, .ref 11)]) (st2 := [.int (xs 3), .int 2, .int 0, .ref 0]) (h2 := zH0) (dc2 := 117) (ds2 := 29934) 5 rfl ?_
  refine zT_val h3 ?_
  refine zT_call rfl rfl (zT_le (zg0_le 6 xs) zk_o_199) ?_
  refine zT_here (pc2 := 1127) rfl ?_
  refine zT_gos (f := 200000) (pc2 := 1134) (ls2 := [(4, .int 0), (3, .ref 232), (2, .ref 162), (1, .ref 0), (0, .ref 11)]) (st2 := [.int (xs 1), .ref 162, .int 0]) (h2 := (((zH0.set 37 (.inr (.inr (.inr (3, [.ref 44, .ref 6, .ref 76, .ref 78, .ref 80, .ref 88, .int 1, .int 0, .ref 96, .int 0, .int 0, .int 0, .ref 98, .ref 100, .int 0]))))).set 40 (.inr (.inr (.inr (6, [.int 1, .long 70644700037184, .int 0, .ref 82, .ref 84, .ref 86]))))).set 43 (.inr (.inl (16, [70644700037184]))))) (dc2 := 117) (ds2 := 29934) 6 rfl ?_
  refine zT_val h1 ?_
  refine zT_gos (f := 200000) (pc2 := 1148) (ls2 := [(4, .int 0), (3, .ref 232), (2, .ref 162), (1, .ref 0), (0, .ref 11)]) (st2 := [.int (xs 2), .int 0, .ref 162, .int 0]) (h2 := (((zH0.set 37 (.inr (.inr (.inr (3, [.ref 44, .ref 6, .ref 76, .ref 78, .ref 80, .ref 88, .int 1, .int 0, .ref 96, .int 0, .int 0, .int 0, .ref 98, .ref 100, .int 0]))))).set 40 (.inr (.inr (.inr (6, [.int 1, .long 70644700037184, .int 0, .ref 82, .ref 84, .ref 86]))))).set 43 (.inr (.inl (16, [70644700037184]))))) (dc2 := 117) (ds2 := 29934) 7 rfl ?_
  refine zT_val h2 ?_
  refine zT_gos (f := 200000) (pc2 := 1154) (ls2 := [(4, .int 0), (3, .ref 232), (2, .ref 162), (1, .ref 0), (0, .ref 11)]) (st2 := [.int (xs 3), .int 2, .int 0, .ref 162, .int 0]) (h2 := (((zH0.set 37 (.inr (.inr (.inr (3, [.ref 44, .ref 6, .ref 76, .ref 78, .ref 80, .ref 88, .int 1, .int 0, .ref 96, .int 0, .int 0, .int 0, .ref 98, .ref 100, .int 0]))))).set 40 (.inr (.inr (.inr (6, [.int 1, .long 70644700037184, .int 0, .ref 82, .ref 84, .ref 86]))))).set 43 (.inr (.inl (16, [70644700037184]))))) (dc2 := 117) (ds2 := 29934) 5 rfl ?_
  refine zT_val h3 ?_
  refine zT_call rfl rfl (zT_le (zg0_le 6 xs) zk_o_200) ?_
  refine zT_here (pc2 := 1157) rfl ?_
  refine zT_gos (f := 200000) (pc2 := 1811) (ls2 := [(4, .int 6), (3, .ref 232), (2, .ref 162), (1, .ref 0), (0, .ref 11)]) (st2 := [.int 1]) (h2 := (((((((zH0.set 37 (.inr (.inr (.inr (3, [.ref 44, .ref 6, .ref 76, .ref 78, .ref 80, .ref 88, .int 1, .int 0, .ref 96, .int 0, .int 0, .int 0, .ref 98, .ref 100, .int 0]))))).set 40 (.inr (.inr (.inr (6, [.int 1, .long 70644700037184, .int 0, .ref 82, .ref 84, .ref 86]))))).set 43 (.inr (.inl (16, [70644700037184])))).set 106 (.inl (2, 2, [1, 0]))).set 105 (.inl (0, 2, [0]))).set 107 (.inl (0, 132, [0, 0, 0, 0, 0, 0]))).set 109 (.inl (0, 22, [0])))) (dc2 := 117) (ds2 := 29934) 10 rfl ?_
  exact zT_ret rfl rfl
set_option maxRecDepth 1000000 in
set_option maxHeartbeats 4000000 in
theorem zo_24_54 (xs : Nat → Int32) (h0 : xs 0 &&& 63 = 24) (h1 : (xs 1).toInt ≠ 0) (h3 : xs 3 = 0) (h2 : (xs 2).toInt < -2) : zDone xs := by
  refine ⟨(((((((zH0.set 37 (.inr (.inr (.inr (3, [.ref 44, .ref 6, .ref 76, .ref 78, .ref 80, .ref 88, .int 1, .int 0, .ref 96, .int 0, .int 0, .int 0, .ref 98, .ref 100, .int 0]))))).set 44 (.inr (.inr (.inr (6, [.int 1, .long 70644700037184, .int 0, .ref 90, .ref 92, .ref 94]))))).set 47 (.inr (.inl (16, [70644700037184])))).set 106 (.inl (2, 2, [0, 1]))).set 105 (.inl (0, 2, [0, 0]))).set 107 (.inl (0, 132, [0, 0, 0, 0, 0, 0, 0, 0, 0, 0, 0, 0, 0, 0, 0, 0, 0, 0, 0, 0, 0, 0, 0, 0, 0, 0, 0, 0, 0, 0, 0, 0, 0, 0, 0, 0, 0, 0, 0, 0, 0, 0, 0, 0, 0, 0, 0, 0, 0, 0, 0, 0, 0, 0, 0, 0, 0, 0, 0, 0, 0, 0, 0, 0, 0, 0, 0, 0, 0, 0, 0, 0]))).set 109 (.inl (0, 22, [0, 0, 0, 0, 0, 0, 0, 0, 0, 0, 0, 0]))), 117, 29934, ?_, by decide, by decide⟩
  refine zT_gos (f := 200000) (pc2 := 37) (ls2 := [(4, .int 0), (3, .ref 232), (2, .ref 162), (1, .ref 0), (0, .ref 11)]) (st2 := [.int (xs 0)]) (h2 := zH0) (dc2 := 117) (ds2 := 29934) 9 rfl ?_
  refine zT_gos (f := 200000) (pc2 := 40) (ls2 := [(4, .int 0), (3, .ref 232), (2, .ref 162), (1, .ref 0), (0, .ref 11)]) (st2 := [.int ((xs 0) &&& (63 : Int32))]) (h2 := zH0) (dc2 := 117) (ds2 := 29934) 2 rfl ?_
  refine zT_val h0 ?_
  refine zT_gos (f := 200000) (pc2 := 1104) (ls2 := [(4, .int 0), (3, .ref 232), (2, .ref 162), (1, .ref 0), (0, .ref 11)]) (st2 := [.int (xs 1), .ref 0]) (h2 := zH0) (dc2 := 117) (ds2 := 29934) 7 rfl ?_
  refine zT_if0 false rfl (zc_eq_f (by show ((xs 1) : Int32).toInt ≠ 0; omega)) ?_
  refine zT_here (pc2 := 1107) rfl ?_
  refine zT_gos (f := 200000) (pc2 := 1118) (ls2 := [(4, .int 0), (3, .ref 232), (2, .ref 162), (1, .ref 0), (0, .ref 11)]) (st2 := [.int (xs 2), .int 1, .ref 0]) (h2 := zH0) (dc2 := 117) (ds2 := 29934) 7 rfl ?_
  refine zT_gos (f := 200000) (pc2 := 1124) (ls2 := [(4, .int 0), (3, .ref 232), (2, .ref 162), (1, .ref 0), (0, .ref 11)]) (st2 := [.int (xs 3), .int (xs 2), .int 1, .ref 0]) (h2 := zH0) (dc2 := 117) (ds2 := 29934) 5 rfl ?_
  refine zT_val h3 ?_
  refine zT_call (v := some (.int (-9999))) (h2 := (((zH0.set 37 (.inr (.inr (.inr (3, [.ref 44, .ref 6, .ref 76, .ref 78, .ref 80, .ref 88, .int 1, .int 0, .ref 96, .int 0, .int 0, .int 0, .ref 98, .ref 100, .int 0]))))).set 44 (.inr (.inr (.inr (6, [.int 1, .long 70644700037184, .int 0, .ref 90, .ref 92, .ref 94]))))).set 47 (.inr (.inl (16, [70644700037184]))))) (d1 := 0) (s1 := 0) rfl rfl ?_ ?_
  · refine zT_gos (f := 200000) (pc2 := 42) (ls2 := [(4, .ref 88), (0, .ref 0), (1, .int 1), (2, .int (xs 2)), (3, .int 0)]) (st2 := [.int (-2), .int (xs 2)]) (h2 := (((zH0.set 37 (.inr (.inr (.inr (3, [.ref 44, .ref 6, .ref 76, .ref 78, .ref 80, .ref 88, .int 1, .int 0, .ref 96, .int 0, .int 0, .int 0, .ref 98, .ref 100, .int 0]))))).set 44 (.inr (.inr (.inr (6, [.int 1, .long 70644700037184, .int 0, .ref 90, .ref 92, .ref 94]))))).set 47 (.inr (.inl (16, [70644700037184]))))) (dc2 := 0) (ds2 := 0) 18 rfl ?_
    refine zT_if2 true rfl (zc_lt_t (by show ((xs 2) : Int32).toInt < -2; omega)) ?_
    refine zT_here (pc2 := 62) rfl ?_
    refine zT_gos (f := 200000) (pc2 := 65) (ls2 := [(4, .ref 88), (0, .ref 0), (1, .int 1), (2, .int (xs 2)), (3, .int 0)]) (st2 := [.int (-9999)]) (h2 := (((zH0.set 37 (.inr (.inr (.inr (3, [.ref 44, .ref 6, .ref 76, .ref 78, .ref 80, .ref 88, .int 1, .int 0, .ref 96, .int 0, .int 0, .int 0, .ref 98, .ref 100, .int 0]))))).set 44 (.inr (.inr (.inr (6, [.int 1, .long 70644700037184, .int 0, .ref 90, .ref 92, .ref 94]))))).set 47 (.inr (.inl (16, [70644700037184]))))) (dc2 := 0) (ds2 := 0) 1 rfl ?_
    exact zT_ret rfl rfl
  refine zT_here (pc2 := 1127) rfl ?_
  refine zT_gos (f := 200000) (pc2 := 1134) (ls2 := [(4, .int 0), (3, .ref 232), (2, .ref 162), (1, .ref 0), (0, .ref 11)]) (st2 := [.int (xs 1), .ref 162, .int (-9999)]) (h2 := (((zH0.set 37 (.inr (.inr (.inr (3, [.ref 44, .ref 6, .ref 76, .ref 78, .ref 80, .ref 88, .int 1, .int 0, .ref 96, .int 0, .int 0, .int 0, .ref 98, .ref 100, .int 0]))))).set 44 (.inr (.inr (.inr (6, [.int 1, .long 70644700037184, .int 0, .ref 90, .ref 92, .ref 94]))))).set 47 (.inr (.inl (16, [70644700037184]))))) (dc2 := 117) (ds2 := 29934) 6 rfl ?_
  refine zT_if0 false rfl (zc_eq_f (by show ((xs 1) : Int32).toInt ≠ 0; omega)) ?_
  refine zT_here (pc2 := 1137) rfl ?_
  refine zT_gos (f := 200000) (pc2 := 1148) (ls2 := [(4, .int 0), (3, .ref 232), (2, .ref 162), (1, .ref 0), (0, .ref 11)]) (st2 := [.int (xs 2), .int 1, .ref 162, .int (-9999)]) (h2 := (((zH0.set 37 (.inr (.inr (.inr (3, [.ref 44, .ref 6, .ref 76, .ref 78, .ref 80, .ref 88, .int 1, .int 0, .ref 96, .int 0, .int 0, .int 0, .ref 98, .ref 100, .int 0]))))).set 44 (.inr (.inr (.inr (6, [.int 1, .long 70644700037184, .int 0, .ref 90, .ref 92, .ref 94]))))).set 47 (.inr (.inl (16, [70644700037184]))))) (dc2 := 117) (ds2 := 29934) 7 rfl ?_
  refine zT_gos (f := 200000) (pc2 := 1154) (ls2 := [(4, .int 0), (3, .ref 232), (2, .ref 162), (1, .ref 0), (0, .ref 11)]) (st2 := [.int (xs 3), .int (xs 2), .int 1, .ref 162, .int (-9999)]) (h2 := (((zH0.set 37 (.inr (.inr (.inr (3, [.ref 44, .ref 6, .ref 76, .ref 78, .ref 80, .ref 88, .int 1, .int 0, .ref 96, .int 0, .int 0, .int 0, .ref 98, .ref 100, .int 0]))))).set 44 (.inr (.inr (.inr (6, [.int 1, .long 70644700037184, .int 0, .ref 90, .ref 92, .ref 94]))))).set 47 (.inr (.inl (16, [70644700037184]))))) (dc2 := 117) (ds2 := 29934) 5 rfl ?_
  refine zT_val h3 ?_
  refine zT_call (v := some (.int (-9999))) (h2 := (((((((zH0.set 37 (.inr (.inr (.inr (3, [.ref 44, .ref 6, .ref 76, .ref 78, .ref 80, .ref 88, .int 1, .int 0, .ref 96, .int 0, .int 0, .int 0, .ref 98, .ref 100, .int 0]))))).set 44 (.inr (.inr (.inr (6, [.int 1, .long 70644700037184, .int 0, .ref 90, .ref 92, .ref 94]))))).set 47 (.inr (.inl (16, [70644700037184])))).set 106 (.inl (2, 2, [0, 1]))).set 105 (.inl (0, 2, [0, 0]))).set 107 (.inl (0, 132, [0, 0, 0, 0, 0, 0, 0, 0, 0, 0, 0, 0, 0, 0, 0, 0, 0, 0, 0, 0, 0, 0, 0, 0, 0, 0, 0, 0, 0, 0, 0, 0, 0, 0, 0, 0, 0, 0, 0, 0, 0, 0, 0, 0, 0, 0, 0, 0, 0, 0, 0, 0, 0, 0, 0, 0, 0, 0, 0, 0, 0, 0, 0, 0, 0, 0, 0, 0, 0, 0, 0, 0]))).set 109 (.inl (0, 22, [0, 0, 0, 0, 0, 0, 0, 0, 0, 0, 0, 0])))) (d1 := 0) (s1 := 0) rfl rfl ?_ ?_
  · refine zT_gos (f := 200000) (pc2 := 7) (ls2 := [(0, .ref 162), (1, .int 1), (2, .int (xs 2)), (3, .int 0)]) (st2 := [.int 1, .ref 162]) (h2 := (((zH0.set 37 (.inr (.inr (.inr (3, [.ref 44, .ref 6, .ref 76, .ref 78, .ref 80, .ref 88, .int 1, .int 0, .ref 96, .int 0, .int 0, .int 0, .ref 98, .ref 100, .int 0]))))).set 44 (.inr (.inr (.inr (6, [.int 1, .long 70644700037184, .int 0, .ref 90, .ref 92, .ref 94]))))).set 47 (.inr (.inl (16, [70644700037184]))))) (dc2 := 0) (ds2 := 0) 5 rfl ?_
    refine zT_call rfl rfl (zT_le (zg0_le 6 xs) zk_o_20) ?_
    refine zT_here (pc2 := 10) rfl ?_
    refine zT_gos (f := 200000) (pc2 := 29) (ls2 := [(5, .int 2), (4, .int 0), (0, .ref 162), (1, .int 1), (2, .int (xs 2)), (3, .int 0)]) (st2 := [.int (-2), .int (xs 2)]) (h2 := (((((((zH0.set 37 (.inr (.inr (.inr (3, [.ref 44, .ref 6, .ref 76, .ref 78, .ref 80, .ref 88, .int 1, .int 0, .ref 96, .int 0, .int 0, .int 0, .ref 98, .ref 100, .int 0]))))).set 44 (.inr (.inr (.inr (6, [.int 1, .long 70644700037184, .int 0, .ref 90, .ref 92, .ref 94]))))).set 47 (.inr (.inl (16, [70644700037184])))).set 106 (.inl (2, 2, [0, 1]))).set 105 (.inl (0, 2, [0, 0]))).set 107 (.inl (0, 132, [0, 0, 0, 0, 0, 0, 0, 0, 0, 0, 0, 0, 0, 0, 0, 0, 0, 0, 0, 0, 0, 0, 0, 0, 0, 0, 0, 0, 0, 0, 0, 0, 0, 0, 0, 0, 0, 0, 0, 0, 0, 0, 0, 0, 0, 0, 0, 0, 0, 0, 0, 0, 0, 0, 0, 0, 0, 0, 0, 0, 0, 0, 0, 0, 0, 0, 0, 0, 0, 0, 0, 0]))).set 109 (.inl (0, 22, [0, 0, 0, 0, 0, 0, 0, 0, 0, 0, 0, 0])))) (dc2 := 0) (ds2 := 0) 11 rfl ?_
    refine zT_if2 true rfl (zc_lt_t (by show ((xs 2) : Int32).toInt < -2; omega)) ?_
    refine zT_here (pc2 := 48) rfl ?_
    refine zT_gos (f := 200000) (pc2 := 71) (ls2 := [(5, .int 2), (4, .int 0), (0, .ref 162), (1, .int 1), (2, .int (xs 2)), (3, .int 0)]) (st2 := [.int (-9999)]) (h2 := (((((((zH0.set 37 (.inr (.inr (.inr (3, [.ref 44, .ref 6, .ref 76, .ref 78, .ref 80, .ref 88, .int 1, .int 0, .ref 96, .int 0, .int 0, .int 0, .ref 98, .ref 100, .int 0]))))).set 44 (.inr (.inr (.inr (6, [.int 1, .long 70644700037184, .int 0, .ref 90, .ref 92, .ref 94]))))).set 47 (.inr (.inl (16, [70644700037184])))).set 106 (.inl (2, 2, [0, 1]))).set 105 (.inl (0, 2, [0, 0]))).set 107 (.inl (0, 132, [0, 0, 0, 0, 0, 0, 0, 0, 0, 0, 0, 0, 0, 0, 0, 0, 0, 0, 0, 0, 0, 0, 0, 0, 0, 0, 0, 0, 0, 0, 0, 0, 0, 0, 0, 0, 0, 0, 0, 0, 0, 0, 0, 0, 0, 0, 0, 0, 0, 0, 0, 0, 0, 0, 0, 0, 0, 0, 0, 0, 0, 0, 0, 0, 0, 0, 0, 0, 0, 0, 0, 0]))).set 109 (.inl (0, 22, [0, 0, 0, 0, 0, 0, 0, 0, 0, 0, 0, 0])))) (dc2 := 0) (ds2 := 0) 2 rfl ?_
    exact zT_ret rfl rfl
  refine zT_here (pc2 := 1157) rfl ?_
  refine zT_gos (f := 200000) (pc2 := 1811) (ls2 := [(4, .int 6), (3, .ref 232), (2, .ref 162), (1, .ref 0), (0, .ref 11)]) (st2 := [.int 1]) (h2 := (((((((zH0.set 37 (.inr (.inr (.inr (3, [.ref 44, .ref 6, .ref 76, .ref 78, .ref 80, .ref 88, .int 1, .int 0, .ref 96, .int 0, .int 0, .int 0, .ref 98, .ref 100, .int 0]))))).set 44 (.inr (.inr (.inr (6, [.int 1, .long 70644700037184, .int 0, .ref 90, .ref 92, .ref 94]))))).set 47 (.inr (.inl (16, [70644700037184])))).set 106 (.inl (2, 2, [0, 1]))).set 105 (.inl (0, 2, [0, 0]))).set 107 (.inl (0, 132, [0, 0, 0, 0, 0, 0, 0, 0, 0, 0, 0, 0, 0, 0, 0, 0, 0, 0, 0, 0, 0, 0, 0, 0, 0, 0, 0, 0, 0, 0, 0, 0, 0, 0, 0, 0, 0, 0, 0, 0, 0, 0, 0, 0, 0, 0, 0, 0, 0, 0, 0, 0, 0, 0, 0, 0, 0, 0, 0, 0, 0, 0, 0, 0, 0, 0, 0, 0, 0, 0, 0, 0]))).set 109 (.inl (0, 22, [0, 0, 0, 0, 0, 0, 0, 0, 0, 0, 0, 0])))) (dc2 := 117) (ds2 := 29934) 10 rfl ?_
  exact zT_ret rfl rfl
set_option maxRecDepth 1000000 in
set_option maxHeartbeats 4000000 in
theorem zo_24_55 (xs : Nat → Int32) (h0 : xs 0 &&& 63 = 24) (h1 : (xs 1).toInt ≠ 0) (h3 : xs 3 = 0) (h2 : 2 < (xs 2).toInt) : zDone xs := by
  refine ⟨(((((((zH0.set 37 (.inr (.inr (.inr (3, [.ref 44, .ref 6, .ref 76, .ref 78, .ref 80, .ref 88, .int 1, .int 0, .ref 96, .int 0, .int 0, .int 0, .ref 98, .ref 100, .int 0]))))).set 44 (.inr (.inr (.inr (6, [.int 1, .long 70644700037184, .int 0, .ref 90, .ref 92, .ref 94]))))).set 47 (.inr (.inl (16, [70644700037184])))).set 106 (.inl (2, 2, [0, 1]))).set 105 (.inl (0, 2, [0, 0]))).set 107 (.inl (0, 132, [0, 0, 0, 0, 0, 0, 0, 0, 0, 0, 0, 0, 0, 0, 0, 0, 0, 0, 0, 0, 0, 0, 0, 0, 0, 0, 0, 0, 0, 0, 0, 0, 0, 0, 0, 0, 0, 0, 0, 0, 0, 0, 0, 0, 0, 0, 0, 0, 0, 0, 0, 0, 0, 0, 0, 0, 0, 0, 0, 0, 0, 0, 0, 0, 0, 0, 0, 0, 0, 0, 0, 0]))).set 109 (.inl (0, 22, [0, 0, 0, 0, 0, 0, 0, 0, 0, 0, 0, 0]))), 117, 29934, ?_, by decide, by decide⟩
  refine zT_gos (f := 200000) (pc2 := 37) (ls2 := [(4, .int 0), (3, .ref 232), (2, .ref 162), (1, .ref 0), (0, .ref 11)]) (st2 := [.int (xs 0)]) (h2 := zH0) (dc2 := 117) (ds2 := 29934) 9 rfl ?_
  refine zT_gos (f := 200000) (pc2 := 40) (ls2 := [(4, .int 0), (3, .ref 232), (2, .ref 162), (1, .ref 0), (0, .ref 11)]) (st2 := [.int ((xs 0) &&& (63 : Int32))]) (h2 := zH0) (dc2 := 117) (ds2 := 29934) 2 rfl ?_
  refine zT_val h0 ?_
  refine zT_gos (f := 200000) (pc2 := 1104) (ls2 := [(4, .int 0), (3, .ref 232), (2, .ref 162), (1, .ref 0), (0, .ref 11)]) (st2 := [.int (xs 1), .ref 0]) (h2 := zH0) (dc2 := 117) (ds2 := 29934) 7 rfl ?_
  refine zT_if0 false rfl (zc_eq_f (by show ((xs 1) : Int32).toInt ≠ 0; omega)) ?_
  refine zT_here (pc2 := 1107) rfl ?_
  refine zT_gos (f := 200000) (pc2 := 1118) (ls2 := [(4, .int 0), (3, .ref 232), (2, .ref 162), (1, .ref 0), (0, .ref 11)]) (st2 := [.int (xs 2), .int 1, .ref 0]) (h2 := zH0) (dc2 := 117) (ds2 := 29934) 7 rfl ?_
  refine zT_gos (f := 200000) (pc2 := 1124) (ls2 := [(4, .int 0), (3, .ref 232), (2, .ref 162), (1, .ref 0), (0, .ref 11)]) (st2 := [.int (xs 3), .int (xs 2), .int 1, .ref 0]) (h2 := zH0) (dc2 := 117) (ds2 := 29934) 5 rfl ?_
  refine zT_val h3 ?_
  refine zT_call (v := some (.int (-9999))) (h2 := (((zH0.set 37 (.inr (.inr (.inr (3, [.ref 44, .ref 6, .ref 76, .ref 78, .ref 80, .ref 88, .int 1, .int 0, .ref 96, .int 0, .int 0, .int 0, .ref 98, .ref 100, .int 0]))))).set 44 (.inr (.inr (.inr (6, [.int 1, .long 70644700037184, .int 0, .ref 90, .ref 92, .ref 94]))))).set 47 (.inr (.inl (16, [70644700037184]))))) (d1 := 0) (s1 := 0) rfl rfl ?_ ?_
  · refine zT_gos (f := 200000) (pc2 := 42) (ls2 := [(4, .ref 88), (0, .ref 0), (1, .int 1), (2, .int (xs 2)), (3, .int 0)]) (st2 := [.int (-2), .int (xs 2)]) (h2 := (((zH0.set 37 (.inr (.inr (.inr (3, [.ref 44, .ref 6, .ref 76, .ref 78, .ref 80, .ref 88, .int 1, .int 0, .ref 96, .int 0, .int 0, .int 0, .ref 98, .ref 100, .int 0]))))).set 44 (.inr (.inr (.inr (6, [.int 1, .long 70644700037184, .int 0, .ref 90, .ref 92, .ref 94]))))).set 47 (.inr (.inl (16, [70644700037184]))))) (dc2 := 0) (ds2 := 0) 18 rfl ?_
    refine zT_if2 false rfl (zc_lt_f (by show ((xs 2) : Int32).toInt ≥ -2; omega)) ?_
    refine zT_here (pc2 := 45) rfl ?_
    refine zT_gos (f := 200000) (pc2 := 59) (ls2 := [(4, .ref 88), (0, .ref 0), (1, .int 1), (2, .int (xs 2)), (3, .int 0)]) (st2 := [.int 2, .int (xs 2)]) (h2 := (((zH0.set 37 (.inr (.inr (.inr (3, [.ref 44, .ref 6, .ref 76, .ref 78, .ref 80, .ref 88, .int 1, .int 0, .ref 96, .int 0, .int 0, .int 0, .ref 98, .ref 100, .int 0]))))).set 44 (.inr (.inr (.inr (6, [.int 1, .long 70644700037184, .int 0, .ref 90, .ref 92, .ref 94]))))).set 47 (.inr (.inl (16, [70644700037184]))))) (dc2 := 0) (ds2 := 0) 7 rfl ?_
    refine zT_if2 false rfl (zc_le_f (by show ((xs 2) : Int32).toInt > 2; omega)) ?_
    refine zT_here (pc2 := 62) rfl ?_
    refine zT_gos (f := 200000) (pc2 := 65) (ls2 := [(4, .ref 88), (0, .ref 0), (1, .int 1), (2, .int (xs 2)), (3, .int 0)]) (st2 := [.int (-9999)]) (h2 := (((zH0.set 37 (.inr (.inr (.inr (3, [.ref 44, .ref 6, .ref 76, .ref 78, .ref 80, .ref 88, .int 1, .int 0, .ref 96, .int 0, .int 0, .int 0, .ref 98, .ref 100, .int 0]))))).set 44 (.inr (.inr (.inr (6, [.int 1, .long 70644700037184, .int 0, .ref 90, .ref 92, .ref 94]))))).set 47 (.inr (.inl (16, [70644700037184]))))) (dc2 := 0) (ds2 := 0) 1 rfl ?_
    exact zT_ret rfl rfl
  refine zT_here (pc2 := 1127) rfl ?_
  refine zT_gos (f := 200000) (pc2 := 1134) (ls2 := [(4, .int 0), (3, .ref 232), (2, .ref 162), (1, .ref 0), (0, .ref 11)]) (st2 := [.int (xs 1), .ref 162, .int (-9999)]) (h2 := (((zH0.set 37 (.inr (.inr (.inr (3, [.ref 44, .ref 6, .ref 76, .ref 78, .ref 80, .ref 88, .int 1, .int 0, .ref 96, .int 0, .int 0, .int 0, .ref 98, .ref 100, .int 0]))))).set 44 (.inr (.inr (.inr (6, [.int 1, .long 70644700037184, .int 0, .ref 90, .ref 92, .ref 94]))))).set 47 (.inr (.inl (16, [70644700037184]))))) (dc2 := 117) (ds2 := 29934) 6 rfl ?_
  refine zT_if0 false rfl (zc_eq_f (by show ((xs 1) : Int32).toInt ≠ 0; omega)) ?_
  refine zT_here (pc2 := 1137) rfl ?_
  refine zT_gos (f := 200000) (pc2 := 1148) (ls2 := [(4, .int 0), (3, .ref 232), (2, .ref 162), (1, .ref 0), (0, .ref 11)]) (st2 := [.int (xs 2), .int 1, .ref 162, .int (-9999)]) (h2 := (((zH0.set 37 (.inr (.inr (.inr (3, [.ref 44, .ref 6, .ref 76, .ref 78, .ref 80, .ref 88, .int 1, .int 0, .ref 96, .int 0, .int 0, .int 0, .ref 98, .ref 100, .int 0]))))).set 44 (.inr (.inr (.inr (6, [.int 1, .long 70644700037184, .int 0, .ref 90, .ref 92, .ref 94]))))).set 47 (.inr (.inl (16, [70644700037184]))))) (dc2 := 117) (ds2 := 29934) 7 rfl ?_
  refine zT_gos (f := 200000) (pc2 := 1154) (ls2 := [(4, .int 0), (3, .ref 232), (2, .ref 162), (1, .ref 0), (0, .ref 11)]) (st2 := [.int (xs 3), .int (xs 2), .int 1, .ref 162, .int (-9999)]) (h2 := (((zH0.set 37 (.inr (.inr (.inr (3, [.ref 44, .ref 6, .ref 76, .ref 78, .ref 80, .ref 88, .int 1, .int 0, .ref 96, .int 0, .int 0, .int 0, .ref 98, .ref 100, .int 0]))))).set 44 (.inr (.inr (.inr (6, [.int 1, .long 70644700037184, .int 0, .ref 90, .ref 92, .ref 94]))))).set 47 (.inr (.inl (16, [70644700037184]))))) (dc2 := 117) (ds2 := 29934) 5 rfl ?_
  refine zT_val h3 ?_
  refine zT_call (v := some (.int (-9999))) (h2 := (((((((zH0.set 37 (.inr (.inr (.inr (3, [.ref 44, .ref 6, .ref 76, .ref 78, .ref 80, .ref 88, .int 1, .int 0, .ref 96, .int 0, .int 0, .int 0, .ref 98, .ref 100, .int 0]))))).set 44 (.inr (.inr (.inr (6, [.int 1, .long 70644700037184, .int 0, .ref 90, .ref 92, .ref 94]))))).set 47 (.inr (.inl (16, [70644700037184])))).set 106 (.inl (2, 2, [0, 1]))).set 105 (.inl (0, 2, [0, 0]))).set 107 (.inl (0, 132, [0, 0, 0, 0, 0, 0, 0, 0, 0, 0, 0, 0, 0, 0, 0, 0, 0, 0, 0, 0, 0, 0, 0, 0, 0, 0, 0, 0, 0, 0, 0, 0, 0, 0, 0, 0, 0, 0, 0, 0, 0, 0, 0, 0, 0, 0, 0, 0, 0, 0, 0, 0, 0, 0, 0, 0, 0, 0, 0, 0, 0, 0, 0, 0, 0, 0, 0, 0, 0, 0, 0, 0]))).set 109 (.inl (0, 22, [0, 0, 0, 0, 0, 0, 0, 0, 0, 0, 0, 0])))) (d1 := 0) (s1 := 0) rfl rfl ?_ ?_
  · refine zT_gos (f := 200000) (pc2 := 7) (ls2 := [(0, .ref 162), (1, .int 1), (2, .int (xs 2)), (3, .int 0)]) (st2 := [.int 1, .ref 162]) (h2 := (((zH0.set 37 (.inr (.inr (.inr (3, [.ref 44, .ref 6, .ref 76, .ref 78, .ref 80, .ref 88, .int 1, .int 0, .ref 96, .int 0, .int 0, .int 0, .ref 98, .ref 100, .int 0]))))).set 44 (.inr (.inr (.inr (6, [.int 1, .long 70644700037184, .int 0, .ref 90, .ref 92, .ref 94]))))).set 47 (.inr (.inl (16, [70644700037184]))))) (dc2 := 0) (ds2 := 0) 5 rfl ?_
    refine zT_call rfl rfl (zT_le (zg0_le 6 xs) zk_o_20) ?_
    refine zT_here (pc2 := 10) rfl ?_
    refine zT_gos (f := 200000) (pc2 := 29) (ls2 := [(5, .int 2), (4, .int 0), (0, .ref 162), (1, .int 1), (2, .int (xs 2)), (3, .int 0)]) (st2 := [.int (-2), .int (xs 2)]) (h2 := (((((((zH0.set 37 (.inr (.inr (.inr (3, [.ref 44, .ref 6, .ref 76, .ref 78, .ref 80, .ref 88, .int 1, .int 0, .ref 96, .int 0, .int 0, .int 0, .ref 98, .ref 100, .int 0]))))).set 44 (.inr (.inr (.inr (6, [.int 1, .long 70644700037184, .int 0, .ref 90, .ref 92, .ref 94]))))).set 47 (.inr (.inl (16, [70644700037184])))).set 106 (.inl (2, 2, [0, 1]))).set 105 (.inl (0, 2, [0, 0]))).set 107 (.inl (0, 132, [0, 0, 0, 0, 0, 0, 0, 0, 0, 0, 0, 0, 0, 0, 0, 0, 0, 0, 0, 0, 0, 0, 0, 0, 0, 0, 0, 0, 0, 0, 0, 0, 0, 0, 0, 0, 0, 0, 0, 0, 0, 0, 0, 0, 0, 0, 0, 0, 0, 0, 0, 0, 0, 0, 0, 0, 0, 0, 0, 0, 0, 0, 0, 0, 0, 0, 0, 0, 0, 0, 0, 0]))).set 109 (.inl (0, 22, [0, 0, 0, 0, 0, 0, 0, 0, 0, 0, 0, 0])))) (dc2 := 0) (ds2 := 0) 11 rfl ?_
    refine zT_if2 false rfl (zc_lt_f (by show ((xs 2) : Int32).toInt ≥ -2; omega)) ?_
    refine zT_here (pc2 := 32) rfl ?_
    refine zT_gos (f := 200000) (pc2 := 38) (ls2 := [(5, .int 2), (4, .int 0), (0, .ref 162), (1, .int 1), (2, .int (xs 2)), (3, .int 0)]) (st2 := [.int 2, .int (xs 2)]) (h2 := (((((((zH0.set 37 (.inr (.inr (.inr (3, [.ref 44, .ref 6, .ref 76, .ref 78, .ref 80, .ref 88, .int 1, .int 0, .ref 96, .int 0, .int 0, .int 0, .ref 98, .ref 100, .int 0]))))).set 44 (.inr (.inr (.inr (6, [.int 1, .long 70644700037184, .int 0, .ref 90, .ref 92, .ref 94]))))).set 47 (.inr (.inl (16, [70644700037184])))).set 106 (.inl (2, 2, [0, 1]))).set 105 (.inl (0, 2, [0, 0]))).set 107 (.inl (0, 132, [0, 0, 0, 0, 0, 0, 0, 0, 0, 0, 0, 0, 0, 0, 0, 0, 0, 0, 0, 0, 0, 0, 0, 0, 0, 0, 0, 0, 0, 0, 0, 0, 0, 0, 0, 0, 0, 0, 0, 0, 0, 0, 0, 0, 0, 0, 0, 0, 0, 0, 0, 0, 0, 0, 0, 0, 0, 0, 0, 0, 0, 0, 0, 0, 0, 0, 0, 0, 0, 0, 0, 0]))).set 109 (.inl (0, 22, [0, 0, 0, 0, 0, 0, 0, 0, 0, 0, 0, 0])))) (dc2 := 0) (ds2 := 0) 4 rfl ?_
    refine zT_if2 true rfl (zc_gt_t (by show ((xs 2) : Int32).toInt > 2; omega)) ?_
    refine zT_here (pc2 := 48) rfl ?_
    refine zT_gos (f := 200000) (pc2 := 71) (ls2 := [(5, .int 2), (4, .int 0), (0, .ref 162), (1, .int 1), (2, .int (xs 2)), (3, .int 0)]) (st2 := [.int (-9999)]) (h2 := (((((((zH0.set 37 (.inr (.inr (.inr (3, [.ref 44, .ref 6, .ref 76, .ref 78, .ref 80, .ref 88, .int 1, .int 0, .ref 96, .int 0, .int 0, .int 0, .ref 98, .ref 100, .int 0]))))).set 44 (.inr (.inr (.inr (6, [.int 1, .long 70644700037184, .int 0, .ref 90, .ref 92, .ref 94]))))).set 47 (.inr (.inl (16, [70644700037184])))).set 106 (.inl (2, 2, [0, 1]))).set 105 (.inl (0, 2, [0, 0]))).set 107 (.inl (0, 132, [0, 0, 0, 0, 0, 0, 0, 0, 0, 0, 0, 0, 0, 0, 0, 0, 0, 0, 0, 0, 0, 0, 0, 0, 0, 0, 0, 0, 0, 0, 0, 0, 0, 0, 0, 0, 0, 0, 0, 0, 0, 0, 0, 0, 0, 0, 0, 0, 0, 0, 0, 0, 0, 0, 0, 0, 0, 0, 0, 0, 0, 0, 0, 0, 0, 0, 0, 0, 0, 0, 0, 0]))).set 109 (.inl (0, 22, [0, 0, 0, 0, 0, 0, 0, 0, 0, 0, 0, 0])))) (dc2 := 0) (ds2 := 0) 2 rfl ?_
    exact zT_ret rfl rfl
  refine zT_here (pc2 := 1157) rfl ?_
  refine zT_gos (f := 200000) (pc2 := 1811) (ls2 := [(4, .int 6), (3, .ref 232), (2, .ref 162), (1, .ref 0), (0, .ref 11)]) (st2 := [.int 1]) (h2 := (((((((zH0.set 37 (.inr (.inr (.inr (3, [.ref 44, .ref 6, .ref 76, .ref 78, .ref 80, .ref 88, .int 1, .int 0, .ref 96, .int 0, .int 0, .int 0, .ref 98, .ref 100, .int 0]))))).set 44 (.inr (.inr (.inr (6, [.int 1, .long 70644700037184, .int 0, .ref 90, .ref 92, .ref 94]))))).set 47 (.inr (.inl (16, [70644700037184])))).set 106 (.inl (2, 2, [0, 1]))).set 105 (.inl (0, 2, [0, 0]))).set 107 (.inl (0, 132, [0, 0, 0, 0, 0, 0, 0, 0, 0, 0, 0, 0, 0, 0, 0, 0, 0, 0, 0, 0, 0, 0, 0, 0, 0, 0, 0, 0, 0, 0, 0, 0, 0, 0, 0, 0, 0, 0, 0, 0, 0, 0, 0, 0, 0, 0, 0, 0, 0, 0, 0, 0, 0, 0, 0, 0, 0, 0, 0, 0, 0, 0, 0, 0, 0, 0, 0, 0, 0, 0, 0, 0]))).set 109 (.inl (0, 22, [0, 0, 0, 0, 0, 0, 0, 0, 0, 0, 0, 0])))) (dc2 := 117) (ds2 := 29934) 10 rfl ?_
  exact zT_ret rfl rfl
set_option maxRecDepth 1000000 in
theorem zk_o_201 : zT zg0 zF zP 125 0 [(0, .ref 0), (1, .int 1), (2, .int (-2)), (3, .int 0)] [] zH0 0 0 (some (.int 0), (((zH0.set 37 (.inr (.inr (.inr (3, [.ref 44, .ref 6, .ref 76, .ref 78, .ref 80, .ref 88, .int 1, .int 0, .ref 96, .int 0, .int 0, .int 0, .ref 98, .ref 100, .int 0]))))).set 44 (.inr (.inr (.inr (6, [.int 1, .long 70644700037184, .int 0, .ref 90, .ref 92, .ref 94]))))).set 47 (.inr (.inl (16, [70644700037184])))), 0, 0) := zclosed (n := 340) (by decide +kernel)
set_option maxRecDepth 1000000 in
theorem zk_o_202 : zT zg0 zF zP 256 0 [(0, .ref 162), (1, .int 1), (2, .int (-2)), (3, .int 0)] [] (((zH0.set 37 (.inr (.inr (.inr (3, [.ref 44, .ref 6, .ref 76, .ref 78, .ref 80, .ref 88, .int 1, .int 0, .ref 96, .int 0, .int 0, .int 0, .ref 98, .ref 100, .int 0]))))).set 44 (.inr (.inr (.inr (6, [.int 1, .long 70644700037184, .int 0, .ref 90, .ref 92, .ref 94]))))).set 47 (.inr (.inl (16, [70644700037184])))) 0 0 (some (.int 0), (((((((zH0.set 37 (.inr (.inr (.inr (3, [.ref 44, .ref 6, .ref 76, .ref 78, .ref 80, .ref 88, .int 1, .int 0, .ref 96, .int 0, .int 0, .int 0, .ref 98, .ref 100, .int 0]))))).set 44 (.inr (.inr (.inr (6, [.int 1, .long 70644700037184, .int 0, .ref 90, .ref 92, .ref 94]))))).set 47 (.inr (.inl (16, [70644700037184])))).set 106 (.inl (2, 2, [0, 1]))).set 105 (.inl (0, 2, [0, 0]))).set 107 (.inl (0, 132, [0, 0, 0, 0, 0, 0, 0, 0, 0, 0, 0, 0, 0, 0, 0, 0, 0, 0, 0, 0, 0, 0, 0, 0, 0, 0, 0, 0, 0, 0, 0, 0, 0, 0, 0, 0, 0, 0, 0, 0, 0, 0, 0, 0, 0, 0, 0, 0, 0, 0, 0, 0, 0, 0, 0, 0, 0, 0, 0, 0, 0, 0, 0, 0, 0, 0, 0, 0, 0, 0, 0, 0]))).set 109 (.inl (0, 22, [0, 0, 0, 0, 0, 0, 0, 0, 0, 0, 0, 0]))), 0, 0) := zclosed (n := 380) (by decide +kernel)
set_option maxRecDepth 1000000 in
set_option maxHeartbeats 4000000 in
theorem zo_24_56 (xs : Nat → Int32) (h0 : xs 0 &&& 63 = 24) (h1 : (xs 1).toInt ≠ 0) (h3 : xs 3 = 0) (h2 : xs 2 = (-2)) : zDone xs := by
  refine ⟨(((((((zH0.set 37 (.inr (.inr (.inr (3, [.ref 44, .ref 6, .ref 76, .ref 78, .ref 80, .ref 88, .int 1, .int 0, .ref 96, .int 0, .int 0, .int 0, .ref 98, .ref 100, .int 0]))))).set 44 (.inr (.inr (.inr (6, [.int 1, .long 70644700037184, .int 0, .ref 90, .ref 92, .ref 94]))))).set 47 (.inr (.inl (16, [70644700037184])))).set 106 (.inl (2, 2, [0, 1]))).set 105 (.inl (0, 2, [0, 0]))).set 107 (.inl (0, 132, [0, 0, 0, 0, 0, 0, 0, 0, 0, 0, 0, 0, 0, 0, 0, 0, 0, 0, 0, 0, 0, 0, 0, 0, 0, 0, 0, 0, 0, 0, 0, 0, 0, 0, 0, 0, 0, 0, 0, 0, 0, 0, 0, 0, 0, 0, 0, 0, 0, 0, 0, 0, 0, 0, 0, 0, 0, 0, 0, 0, 0, 0, 0, 0, 0, 0, 0, 0, 0, 0, 0, 0]))).set 109 (.inl (0, 22, [0, 0, 0, 0, 0, 0, 0, 0, 0, 0, 0, 0]))), 117, 29934, ?_, by decide, by decide⟩
  refine zT_gos (f := 200000) (pc2 := 37) (ls2 := [(4, .int 0), (3, .ref 232), (2, .ref 162), (1, .ref 0), (0, .ref 11)]) (st2 := [.int (xs 0)]) (h2 := zH0) (dc2 := 117) (ds2 := 29934) 9 rfl ?_
  refine zT_gos (f := 200000) (pc2 := 40) (ls2 := [(4, .int 0), (3, .ref 232), (2, .ref 162), (1, .ref 0), (0, .ref 11)]) (st2 := [.int ((xs 0) &&& (63 : Int32))]) (h2 := zH0) (dc2 := 117) (ds2 := 29934) 2 rfl ?_
  refine zT_val h0 ?_
  refine zT_gos (f := 200000) (pc2 := 1104) (ls2 := [(4, .int 0), (3, .ref 232), (2, .ref 162), (1, .ref 0), (0, .ref 11)]) (st2 := [.int (xs 1), .ref 0]) (h2 := zH0) (dc2 := 117) (ds2 := 29934) 7 rfl ?_
  refine zT_if0 false rfl (zc_eq_f (by show ((xs 1) : Int32).toInt ≠ 0; omega)) ?_
  refine zT_here (pc2 := 1107) rfl ?_
  refine zT_gos (f := 200000) (pc2 := 1118) (ls2 := [(4, .int 0), (3, .ref 232), (2, .ref 162), (1, .ref 0), (0, .ref 11)]) (st2 := [.int (xs 2), .int 1, .ref 0]) (h2 := zH0) (dc2 := 117) (ds2 := 29934) 7 rfl ?_
  refine zT_val h2 ?_
  refine zT_gos (f := 200000) (pc2 := 1124) (ls2 := [(4, .int 0), (3, .ref 232), (2, .ref 162), (1, .ref 0), (0, .ref 11)]) (st2 := [.int (xs 3), .int (-2), .int 1, .ref 0]) (h2 := zH0) (dc2 := 117) (ds2 := 29934) 5 rfl ?_
  refine zT_val h3 ?_
  refine zT_call rfl rfl (zT_le (zg0_le 6 xs) zk_o_201) ?_
  refine zT_here (pc2 := 1127) rfl ?_
  refine zT_gos (f := 200000) (pc2 := 1134) (ls2 := [(4, .int 0), (3, .ref 232), (2, .ref 162), (1, .ref 0), (0, .ref 11)]) (st2 := [.int (xs 1), .ref 162, .int 0]) (h2 := (((zH0.set 37 (.inr (.inr (.inr (3, [.ref 44, .ref 6, .ref 76, .ref 78, .ref 80, .ref 88, .int 1, .int 0, .ref 96, .int 0, .int 0, .int 0, .ref 98, .ref 100, .int 0]))))).set 44 (.inr (.inr (.inr (6, [.int 1, .long 70644700037184, .int 0, .ref 90, .ref 92, .ref 94]))))).set 47 (.inr (.inl (16, [70644700037184]))))) (dc2 := 117) (ds2 := 29934) 6 rfl ?_
  refine zT_if0 false rfl (zc_eq_f (by show ((xs 1) : Int32).toInt ≠ 0; omega)) ?_
  refine zT_here (pc2 := 1137) rfl ?_
  refine zT_gos (f := 200000) (pc2 := 1148) (ls2 := [(4, .int 0), (3, .ref 232), (2, .ref 162), (1, .ref 0), (0, .ref 11)]) (st2 := [.int (xs 2), .int 1, .ref 162, .int 0]) (h2 := (((zH0.set 37 (.inr (.inr (.inr (3, [.ref 44, .ref 6, .ref 76, .ref 78, .ref 80, .ref 88, .int 1, .int 0, .ref 96, .int 0, .int 0, .int 0, .ref 98, .ref 100, .int 0]))))).set 44 (.inr (.inr (.inr (6, [.int 1, .long 70644700037184, .int 0, .ref 90, .ref 92, .ref 94]))))).set 47 (.inr (.inl (16, [70644700037184]))))) (dc2 := 117) (ds2 := 29934) 7 rfl ?_
  refine zT_val h2 ?_
  refine zT_gos (f := 200000) (pc2 := 1154) (ls2 := [(4, .int 0), (3, .ref 232), (2, .ref 162), (1, .ref 0), (0, .ref 11)]) (st2 := [.int (xs 3), .int (-2), .int 1, .ref 162, .int 0]) (h2 := (((zH0.set 37 (.inr (.inr (.inr (3, [.ref 44, .ref 6, .ref 76, .ref 78, .ref 80, .ref 88, .int 1, .int 0, .ref 96, .int 0, .int 0, .int 0, .ref 98, .ref 100, .int 0]))))).set 44 (.inr (.inr (.inr (6, [.int 1, .long 70644700037184, .int 0, .ref 90, .ref 92, .ref 94]))))).set 47 (.inr (.inl (16, [70644700037184]))))) (dc2 := 117) (ds2 := 29934) 5 rfl ?_
  refine zT_val h3 ?_
  refine zT_call rfl rfl (zT_le (zg0_le 6 xs) zk_o_202) ?_
  refine zT_here (pc2 := 1157) rfl ?_
  refine zT_gos (f := 200000) (pc2 := 1811) (ls2 := [(4, .int 6), (3, .ref 232), (2, .ref 162), (1, .ref 0), (0, .ref 11)]) (st2 := [.int 1]) (h2 := (((((((zH0.set 37 (.inr (.inr (.inr (3, [.ref 44, .ref 6, .ref 76, .ref 78, .ref 80, .ref 88, .int 1, .int 0, .ref 96, .int 0, .int 0, .int 0, .ref 98, .ref 100, .int 0]))))).set 44 (.inr (.inr (.inr (6, [.int 1, .long 70644700037184, .int 0, .ref 90, .ref 92, .ref 94]))))).set 47 (.inr (.inl (16, [70644700037184])))).set 106 (.inl (2, 2, [0, 1]))).set 105 (.inl (0, 2, [0, 0]))).set 107 (.inl (0, 132, [0, 0, 0, 0, 0, 0, 0, 0, 0, 0, 0, 0, 0, 0, 0, 0, 0, 0, 0, 0, 0, 0, 0, 0, 0, 0, 0, 0, 0, 0, 0, 0, 0, 0, 0, 0, 0, 0, 0, 0, 0, 0, 0, 0, 0, 0, 0, 0, 0, 0, 0, 0, 0, 0, 0, 0, 0, 0, 0, 0, 0, 0, 0, 0, 0, 0, 0, 0, 0, 0, 0, 0]))).set 109 (.inl (0, 22, [0, 0, 0, 0, 0, 0, 0, 0, 0, 0, 0, 0])))) (dc2 := 117) (ds2 := 29934) 10 rfl ?_
  exact zT_ret rfl rfl
set_option maxRecDepth 1000000 in
theorem zk_o_203 : zT zg0 zF zP 125 0 [(0, .ref 0), (1, .int 1), (2, .int (-1)), (3, .int 0)] [] zH0 0 0 (some (.int 0), (((zH0.set 37 (.inr (.inr (.inr (3, [.ref 44, .ref 6, .ref 76, .ref 78, .ref 80, .ref 88, .int 1, .int 0, .ref 96, .int 0, .int 0, .int 0, .ref 98, .ref 100, .int 0]))))).set 44 (.inr (.inr (.inr (6, [.int 1, .long 70644700037184, .int 0, .ref 90, .ref 92, .ref 94]))))).set 47 (.inr (.inl (16, [70644700037184])))), 0, 0) := zclosed (n := 345) (by decide +kernel)
set_option maxRecDepth 1000000 in
theorem zk_o_204 : zT zg0 zF zP 256 0 [(0, .ref 162), (1, .int 1), (2, .int (-1)), (3, .int 0)] [] (((zH0.set 37 (.inr (.inr (.inr (3, [.ref 44, .ref 6, .ref 76, .ref 78, .ref 80, .ref 88, .int 1, .int 0, .ref 96, .int 0, .int 0, .int 0, .ref 98, .ref 100, .int 0]))))).set 44 (.inr (.inr (.inr (6, [.int 1, .long 70644700037184, .int 0, .ref 90, .ref 92, .ref 94]))))).set 47 (.inr (.inl (16, [70644700037184])))) 0 0 (some (.int 0), (((((((zH0.set 37 (.inr (.inr (.inr (3, [.ref 44, .ref 6, .ref 76, .ref 78, .ref 80, .ref 88, .int 1, .int 0, .ref 96, .int 0, .int 0, .int 0, .ref 98, .ref 100, .int 0]))))).set 44 (.inr (.inr (.inr (6, [.int 1, .long 70644700037184, .int 0, .ref 90, .ref 92, .ref 94]))))).set 47 (.inr (.inl (16, [70644700037184])))).set 106 (.inl (2, 2, [0, 1]))).set 105 (.inl (0, 2, [0, 0]))).set 107 (.inl (0, 132, [0, 0, 0, 0, 0, 0, 0, 0, 0, 0, 0, 0, 0, 0, 0, 0, 0, 0, 0, 0, 0, 0, 0, 0, 0, 0, 0, 0, 0, 0, 0, 0, 0, 0, 0, 0, 0, 0, 0, 0, 0, 0, 0, 0, 0, 0, 0, 0, 0, 0, 0, 0, 0, 0, 0, 0, 0, 0, 0, 0, 0, 0, 0, 0, 0, 0, 0, 0, 0, 0, 0, 0]))).set 109 (.inl (0, 22, [0, 0, 0, 0, 0, 0, 0, 0, 0, 0, 0, 0]))), 0, 0) := zclosed (n := 404) (by decide +kernel)
set_option maxRecDepth 1000000 in
set_option maxHeartbeats 4000000 in
theorem zo_24_57 (xs : Nat → Int32) (h0 : xs 0 &&& 63 = 24) (h1 : (xs 1).toInt ≠ 0) (h3 : xs 3 = 0) (h2 : xs 2 = (-1)) : zDone xs := by
  refine ⟨(((((((zH0.set 37 (.inr (.inr (.inr (3, [.ref 44, .ref 6, .ref 76, .ref 78, .ref 80, .ref 88, .int 1, .int 0, .ref 96, .int 0, .int 0, .int 0, .ref 98, .ref 100, .int 0]))))).set 44 (.inr (.inr (.inr (6, [.int 1, .long 70644700037184, .int 0, .ref 90, .ref 92, .ref 94]))))).set 47 (.inr (.inl (16, [70644700037184])))).set 106 (.inl (2, 2, [0, 1]))).set 105 (.inl (0, 2, [0, 0]))).set 107 (.inl (0, 132, [0, 0, 0, 0, 0, 0, 0, 0, 0, 0, 0, 0, 0, 0, 0, 0, 0, 0, 0, 0, 0, 0, 0, 0, 0, 0, 0, 0, 0, 0, 0, 0, 0, 0, 0, 0, 0, 0, 0, 0, 0, 0, 0, 0, 0, 0, 0, 0, 0, 0, 0, 0, 0, 0, 0, 0, 0, 0, 0, 0, 0, 0, 0, 0, 0, 0, 0, 0, 0, 0, 0, 0]))).set 109 (.inl (0, 22, [0, 0, 0, 0, 0, 0, 0, 0, 0, 0, 0, 0]))), 117, 29934, ?_, by decide, by decide⟩
  refine zT_gos (f := 200000) (pc2 := 37) (ls2 := [(4, .int 0), (3, .ref 232), (2, .ref 162), (1, .ref 0), (0, .ref 11)]) (st2 := [.int (xs 0)]) (h2 := zH0) (dc2 := 117) (ds2 := 29934) 9 rfl ?_
  refine zT_gos (f := 200000) (pc2 := 40) (ls2 := [(4, .int 0), (3, .ref 232), (2, .ref 162), (1, .ref 0), (0, .ref 11)]) (st2 := [.int ((xs 0) &&& (63 : Int32))]) (h2 := zH0) (dc2 := 117) (ds2 := 29934) 2 rfl ?_
  refine zT_val h0 ?_
  refine zT_gos (f := 200000) (pc2 := 1104) (ls2 := [(4, .int 0), (3, .ref 232), (2, .ref 162), (1, .ref 0), (0, .ref 11)]) (st2 := [.int (xs 1), .ref 0]) (h2 := zH0) (dc2 := 117) (ds2 := 29934) 7 rfl ?_
  refine zT_if0 false rfl (zc_eq_f (by show ((xs 1) : Int32).toInt ≠ 0; omega)) ?_
  refine zT_here (pc2 := 1107) rfl ?_
  refine zT_gos (f := 200000) (pc2 := 1118) (ls2 := [(4, .int 0), (3, .ref 232), (2, .ref 162), (1, .ref 0), (0, .ref 11)]) (st2 := [.int (xs 2), .int 1, .ref 0]) (h2 := zH0) (dc2 := 117) (ds2 := 29934) 7 rfl ?_
  refine zT_val h2 ?_
  refine zT_gos (f := 200000) (pc2 := 1124) (ls2 := [(4, .int 0), (3, .ref 232), (2, .ref 162), (1, .ref 0), (0, .ref 11)]) (st2 := [.int (xs 3), .int (-1), .int 1, .ref 0]) (h2 := zH0) (dc2 := 117) (ds2 := 29934) 5 rfl ?_
  refine zT_val h3 ?_
  refine zT_call rfl rfl (zT_le (zg0_le 6 xs) zk_o_203) ?_
  refine zT_here (pc2 := 1127) rfl ?_
  refine zT_gos (f := 200000) (pc2 := 1134) (ls2 := [(4, .int 0), (3, .ref 232), (2, .ref 162), (1, .ref 0), (0, .ref 11)]) (st2 := [.int (xs 1), .ref 162, .int 0]) (h2 := (((zH0.set 37 (.inr (.inr (.inr (3, [.ref 44, .ref 6, .ref 76, .ref 78, .ref 80, .ref 88, .int 1, .int 0, .ref 96, .int 0, .int 0, .int 0, .ref 98, .ref 100, .int 0]))))).set 44 (.inr (.inr (.inr (6, [.int 1, .long 70644700037184, .int 0, .ref 90, .ref 92, .ref 94]))))).set 47 (.inr (.inl (16, [70644700037184]))))) (dc2 := 117) (ds2 := 29934) 6 rfl ?_
  refine zT_if0 false rfl (zc_eq_f (by show ((xs 1) : Int32).toInt ≠ 0; omega)) ?_
  refine zT_here (pc2 := 1137) rfl ?_
  refine zT_gos (f := 200000) (pc2 := 1148) (ls2 := [(4, .int 0), (3, .ref 232), (2, .ref 162), (1, .ref 0), (0, .ref 11)]) (st2 := [.int (xs 2), .int 1, .ref 162, .int 0]) (h2 := (((zH0.set 37 (.inr (.inr (.inr (3, [.ref 44, .ref 6, .ref 76, .ref 78, .ref 80, .ref 88, .int 1, .int 0, .ref 96, .int 0, .int 0, .int 0, .ref 98, .ref 100, .int 0]))))).set 44 (.inr (.inr (.inr (6, [.int 1, .long 70644700037184, .int 0, .ref 90, .ref 92, .ref 94]))))).set 47 (.inr (.inl (16, [70644700037184]))))) (dc2 := 117) (ds2 := 29934) 7 rfl ?_
  refine zT_val h2 ?_
  refine zT_gos (f := 200000) (pc2 := 1154) (ls2 := [(4, .int 0), (3, .ref 232), (2, .ref 162), (1, .ref 0), (0, .ref 11)]) (st2 := [.int (xs 3), .int (-1), .int 1, .ref 162, .int 0]) (h2 := (((zH0.set 37 (.inr (.inr (.inr (3, [.ref 44, .ref 6, .ref 76, .ref 78, .ref 80, .ref 88, .int 1, .int 0, .ref 96, .int 0, .int 0, .int 0, .ref 98, .ref 100, .int 0]))))).set 44 (.inr (.inr (.inr (6, [.int 1, .long 70644700037184, .int 0, .ref 90, .ref 92, .ref 94]))))).set 47 (.inr (.inl (16, [70644700037184]))))) (dc2 := 117) (ds2 := 29934) 5 rfl ?_
  refine zT_val h3 ?_
  refine zT_call rfl rfl (zT_le (zg0_le 6 xs) zk_o_204) ?_
  refine zT_here (pc2 := 1157) rfl ?_
  refine zT_gos (f := 200000) (pc2 := 1811) (ls2 := [(4, .int 6), (3, .ref 232), (2, .ref 162), (1, .ref 0), (0, .ref 11)]) (st2 := [.int 1]) (h2 := (((((((zH0.set 37 (.inr (.inr (.inr (3, [.ref 44, .ref 6, .ref 76, .ref 78, .ref 80, .ref 88, .int 1, .int 0, .ref 96, .int 0, .int 0, .int 0, .ref 98, .ref 100, .int 0]))))).set 44 (.inr (.inr (.inr (6, [.int 1, .long 70644700037184, .int 0, .ref 90, .ref 92, .ref 94]))))).set 47 (.inr (.inl (16, [70644700037184])))).set 106 (.inl (2, 2, [0, 1]))).set 105 (.inl (0, 2, [0, 0]))).set 107 (.inl (0, 132, [0, 0, 0, 0, 0, 0, 0, 0, 0, 0, 0, 0, 0, 0, 0, 0, 0, 0, 0, 0, 0, 0, 0, 0, 0, 0, 0, 0, 0, 0, 0, 0, 0, 0, 0, 0, 0, 0, 0, 0, 0, 0, 0, 0, 0, 0, 0, 0, 0, 0, 0, 0, 0, 0, 0, 0, 0, 0, 0, 0, 0, 0, 0, 0, 0, 0, 0, 0, 0, 0, 0, 0]))).set 109 (.inl (0, 22, [0, 0, 0, 0, 0, 0, 0, 0, 0, 0, 0, 0])))) (dc2 := 117) (ds2 := 29934) 10 rfl ?_
  exact zT_ret rfl rfl
set_option maxRecDepth 1000000 in
theorem zk_o_205 : zT zg0 zF zP 125 0 [(0, .ref 0), (1, .int 1), (2, .int 0), (3, .int 0)] [] zH0 0 0 (some (.int 0), (((zH0.set 37 (.inr (.inr (.inr (3, [.ref 44, .ref 6, .ref 76, .ref 78, .ref 80, .ref 88, .int 1, .int 0, .ref 96, .int 0, .int 0, .int 0, .ref 98, .ref 100, .int 0]))))).set 44 (.inr (.inr (.inr (6, [.int 1, .long 70644700037184, .int 0, .ref 90, .ref 92, .ref 94]))))).set 47 (.inr (.inl (16, [70644700037184])))), 0, 0) := zclosed (n := 350) (by decide +kernel)
set_option maxRecDepth 1000000 in
theorem zk_o_206 : zT zg0 zF zP 256 0 [(0, .ref 162), (1, .int 1), (2, .int 0), (3, .int 0)] [] (((zH0.set 37 (.inr (.inr (.inr (3, [.ref 44, .ref 6, .ref 76, .ref 78, .ref 80, .ref 88, .int 1, .int 0, .ref 96, .int 0, .int 0, .int 0, .ref 98, .ref 100, .int 0]))))).set 44 (.inr (.inr (.inr (6, [.int 1, .long 70644700037184, .int 0, .ref 90, .ref 92, .ref 94]))))).set 47 (.inr (.inl (16, [70644700037184])))) 0 0 (some (.int 0), (((((((zH0.set 37 (.inr (.inr (.inr (3, [.ref 44, .ref 6, .ref 76, .ref 78, .ref 80, .ref 88, .int 1, .int 0, .ref 96, .int 0, .int 0, .int 0, .ref 98, .ref 100, .int 0]))))).set 44 (.inr (.inr (.inr (6, [.int 1, .long 70644700037184, .int 0, .ref 90, .ref 92, .ref 94]))))).set 47 (.inr (.inl (16, [70644700037184])))).set 106 (.inl (2, 2, [0, 1]))).set 105 (.inl (0, 2, [0, 0]))).set 107 (.inl (0, 132, [0, 0, 0, 0, 0, 0, 0, 0, 0, 0, 0, 0, 0, 0, 0, 0, 0, 0, 0, 0, 0, 0, 0, 0, 0, 0, 0, 0, 0, 0, 0, 0, 0, 0, 0, 0, 0, 0, 0, 0, 0, 0, 0, 0, 0, 0, 0, 0, 0, 0, 0, 0, 0, 0, 0, 0, 0, 0, 0, 0, 0, 0, 0, 0, 0, 0, 0, 0, 0, 0, 0, 0]))).set 109 (.inl (0, 22, [0, 0, 0, 0, 0, 0, 0, 0, 0, 0, 0, 0]))), 0, 0) := zclosed (n := 428) (by decide +kernel)
set_option maxRecDepth 1000000 in
set_option maxHeartbeats 4000000 in
theorem zo_24_58 (xs : Nat → Int32) (h0 : xs 0 &&& 63 = 24) (h1 : (xs 1).toInt ≠ 0) (h3 : xs 3 = 0) (h2 : xs 2 = 0) : zDone xs := by
  refine ⟨(((((((zH0.set 37 (.inr (.inr (.inr (3, [.ref 44, .ref 6, .ref 76, .ref 78, .ref 80, .ref 88, .int 1, .int 0, .ref 96, .int 0, .int 0, .int 0, .ref 98, .ref 100, .int 0]))))).set 44 (.inr (.inr (.inr (6, [.int 1, .long 70644700037184, .int 0, .ref 90, .ref 92, .ref 94]))))).set 47 (.inr (.inl (16, [70644700037184])))).set 106 (.inl (2, 2, [0, 1]))).set 105 (.inl (0, 2, [0, 0]))).set 107 (.inl (0, 132, [0, 0, 0, 0, 0, 0, 0, 0, 0, 0, 0, 0, 0, 0, 0, 0, 0, 0, 0, 0, 0, 0, 0, 0, 0, 0, 0, 0, 0, 0, 0, 0, 0, 0, 0, 0, 0, 0, 0, 0, 0, 0, 0, 0, 0, 0, 0, 0, 0, 0, 0, 0, 0, 0, 0, 0, 0, 0, 0, 0, 0, 0, 0, 0, 0, 0, 0, 0, 0, 0, 0, 0]))).set 109 (.inl (0, 22, [0, 0, 0, 0, 0, 0, 0, 0, 0, 0, 0, 0]))), 117, 29934, ?_, by decide, by decide⟩
  refine zT_gos (f := 200000) (pc2 := 37) (ls2 := [(4, .int 0), (3, .ref 232), (2, .ref 162), (1, .ref 0), (0, .ref 11)]) (st2 := [.int (xs 0)]) (h2 := zH0) (dc2 := 117) (ds2 := 29934) 9 rfl ?_
  refine zT_gos (f := 200000) (pc2 := 40) (ls2 := [(4, .int 0), (3, .ref 232), (2, .ref 162), (1, .ref 0), (0, .ref 11)]) (st2 := [.int ((xs 0) &&& (63 : Int32))]) (h2 := zH0) (dc2 := 117) (ds2 := 29934) 2 rfl ?_
  refine zT_val h0 ?_
  refine zT_gos (f := 200000) (pc2 := 1104) (ls2 := [(4, .int 0), (3, .ref 232), (2, .ref 162), (1, .ref 0), (0, .ref 11)]) (st2 := [.int (xs 1), .ref 0]) (h2 := zH0) (dc2 := 117) (ds2 := 29934) 7 rfl ?_
  refine zT_if0 false rfl (zc_eq_f (by show ((xs 1) : Int32).toInt ≠ 0; omega)) ?_
  refine zT_here (pc2 := 1107) rfl ?_
  refine zT_gos (f := 200000) (pc2 := 1118) (ls2 := [(4, .int 0), (3, .ref 232), (2, .ref 162), (1, .ref 0), (0, .ref 11)]) (st2 := [.int (xs 2), .int 1, .ref 0]) (h2 := zH0) (dc2 := 117) (ds2 := 29934) 7 rfl ?_
  refine zT_val h2 ?_
  refine zT_gos (f := 200000) (pc2 := 1124) (ls2 := [(4, .int 0), (3, .ref 232), (2, .ref 162), (1, .ref 0), (0, .ref 11)]) (st2 := [.int (xs 3), .int 0, .int 1, .ref 0]) (h2 := zH0) (dc2 := 117) (ds2 := 29934) 5 rfl ?_
  refine zT_val h3 ?_
  refine zT_call rfl rfl (zT_le (zg0_le 6 xs) zk_o_205) ?_
  refine zT_here (pc2 := 1127) rfl ?_
  refine zT_gos (f := 200000) (pc2 := 1134) (ls2 := [(4, .int 0), (3, .ref 232), (2, .ref 162), (1, .ref 0), (0, .ref 11)]) (st2 := [.int (xs 1), .ref 162, .int 0]) (h2 := (((zH0.set 37 (.inr (.inr (.inr (3, [.ref 44, .ref 6, .ref 76, .ref 78, .ref 80, .ref 88, .int 1, .int 0, .ref 96, .int 0, .int 0, .int 0, .ref 98, .ref 100, .int 0]))))).set 44 (.inr (.inr (.inr (6, [.int 1, .long 70644700037184, .int 0, .ref 90, .ref 92, .ref 94]))))).set 47 (.inr (.inl (16, [70644700037184]))))) (dc2 := 117) (ds2 := 29934) 6 rfl ?_
  refine zT_if0 false rfl (zc_eq_f (by show ((xs 1) : Int32).toInt ≠ 0; omega)) ?_
  refine zT_here (pc2 := 1137) rfl ?_
  refine zT_gos (f := 200000) (pc2 := 1148) (ls2 := [(4, .int 0), (3, .ref 232), (2, .ref 162), (1, .ref 0), (0, .ref 11)]) (st2 := [.int (xs 2), .int 1, .ref 162, .int 0]) (h2 := (((zH0.set 37 (.inr (.inr (.inr (3, [.ref 44, .ref 6, .ref 76, .ref 78, .ref 80, .ref 88, .int 1, .int 0, .ref 96, .int 0, .int 0, .int 0, .ref 98, .ref 100, .int 0]))))).set 44 (.inr (.inr (.inr (6, [.int 1, .long 70644700037184, .int 0, .ref 90, .ref 92, .ref 94]))))).set 47 (.inr (.inl (16, [70644700037184]))))) (dc2 := 117) (ds2 := 29934) 7 rfl ?_
  refine zT_val h2 ?_
  refine zT_gos (f := 200000) (pc2 := 1154) (ls2 := [(4, .int 0), (3, .ref 232), (2, .ref 162), (1, .ref 0), (0, .ref 11)]) (st2 := [.int (xs 3), .int 0, .int 1, .ref 162, .int 0]) (h2 := (((zH0.set 37 (.inr (.inr (.inr (3, [.ref 44, .ref 6, .ref 76, .ref 78, .ref 80, .ref 88, .int 1, .int 0, .ref 96, .int 0, .int 0, .int 0, .ref 98, .ref 100, .int 0]))))).set 44 (.inr (.inr (.inr (6, [.int 1, .long 70644700037184, .int 0, .ref 90, .ref 92, .ref 94]))))).set 47 (.inr (.inl (16, [70644700037184]))))) (dc2 := 117) (ds2 := 29934) 5 rfl ?_
  refine zT_val h3 ?_
  refine zT_call rfl rfl (zT_le (zg0_le 6 xs) zk_o_206) ?_
  refine zT_here (pc2 := 1157) rfl ?_
  refine zT_gos (f := 200000) (pc2 := 1811) (ls2 := [(4, .int 6), (3, .ref 232), (2, .ref 162), (1, .ref 0), (0, .ref 11)]) (st2 := [.int 1]) (h2 := (((((((zH0.set 37 (.inr (.inr (.inr (3, [.ref 44, .ref 6, .ref 76, .ref 78, .ref 80, .ref 88, .int 1, .int 0, .ref 96, .int 0, .int 0, .int 0, .ref 98, .ref 100, .int 0]))))).set 44 (.inr (.inr (.inr (6, [.int 1, .long 70644700037184, .int 0, .ref 90, .ref 92, .ref 94]))))).set 47 (.inr (.inl (16, [70644700037184])))).set 106 (.inl (2, 2, [0, 1]))).set 105 (.inl (0, 2, [0, 0]))).set 107 (.inl (0, 132, [0, 0, 0, 0, 0, 0, 0, 0, 0, 0, 0, 0, 0, 0, 0, 0, 0, 0, 0, 0, 0, 0, 0, 0, 0, 0, 0, 0, 0, 0, 0, 0, 0, 0, 0, 0, 0, 0, 0, 0, 0, 0, 0, 0, 0, 0, 0, 0, 0, 0, 0, 0, 0, 0, 0, 0, 0, 0, 0, 0, 0, 0, 0, 0, 0, 0, 0, 0, 0, 0, 0, 0]))).set 109 (.inl (0, 22, [0, 0, 0, 0, 0, 0, 0, 0, 0, 0, 0, 0])))) (dc2 := 117) (ds2 := 29934) 10 rfl ?_
  exact zT_ret rfl rfl
set_option maxRecDepth 1000000 in
theorem zk_o_207 : zT zg0 zF zP 125 0 [(0, .ref 0), (1, .int 1), (2, .int 1), (3, .int 0)] [] zH0 0 0 (some (.int 0), (((zH0.set 37 (.inr (.inr (.inr (3, [.ref 44, .ref 6, .ref 76, .ref 78, .ref 80, .ref 88, .int 1, .int 0, .ref 96, .int 0, .int 0, .int 0, .ref 98, .ref 100, .int 0]))))).set 44 (.inr (.inr (.inr (6, [.int 1, .long 70644700037184, .int 0, .ref 90, .ref 92, .ref 94]))))).set 47 (.inr (.inl (16, [70644700037184])))), 0, 0) := zclosed (n := 355) (by decide +kernel)
set_option maxRecDepth 1000000 in
theorem zk_o_208 : zT zg0 zF zP 256 0 [(0, .ref 162), (1, .int 1), (2, .int 1), (3, .int 0)] [] (((zH0.set 37 (.inr (.inr (.inr (3, [.ref 44, .ref 6, .ref 76, .ref 78, .ref 80, .ref 88, .int 1, .int 0, .ref 96, .int 0, .int 0, .int 0, .ref 98, .ref 100, .int 0]))))).set 44 (.inr (.inr (.inr (6, [.int 1, .long 70644700037184, .int 0, .ref 90, .ref 92, .ref 94]))))).set 47 (.inr (.inl (16, [70644700037184])))) 0 0 (some (.int 0), (((((((zH0.set 37 (.inr (.inr (.inr (3, [.ref 44, .ref 6, .ref 76, .ref 78, .ref 80, .ref 88, .int 1, .int 0, .ref 96, .int 0, .int 0, .int 0, .ref 98, .ref 100, .int 0]))))).set 44 (.inr (.inr (.inr (6, [.int 1, .long 70644700037184, .int 0, .ref 90, .ref 92, .ref 94]))))).set 47 (.inr (.inl (16, [70644700037184])))).set 106 (.inl (2, 2, [0, 1]))).set 105 (.inl (0, 2, [0, 0]))).set 107 (.inl (0, 132, [0, 0, 0, 0, 0, 0, 0, 0, 0, 0, 0, 0, 0, 0, 0, 0, 0, 0, 0, 0, 0, 0, 0, 0, 0, 0, 0, 0, 0, 0, 0, 0, 0, 0, 0, 0, 0, 0, 0, 0, 0, 0, 0, 0, 0, 0, 0, 0, 0, 0, 0, 0, 0, 0, 0, 0, 0, 0, 0, 0, 0, 0, 0, 0, 0, 0, 0, 0, 0, 0, 0, 0]))).set 109 (.inl (0, 22, [0, 0, 0, 0, 0, 0, 0, 0, 0, 0, 0, 0]))), 0, 0) := zclosed (n := 452) (by decide +kernel)
set_option maxRecDepth 1000000 in
set_option maxHeartbeats 4000000 in
theorem zo_24_59 (xs : Nat → Int32) (h0 : xs 0 &&& 63 = 24) (h1 : (xs 1).toInt ≠ 0) (h3 : xs 3 = 0) (h2 : xs 2 = 1) : zDone xs := by
  refine ⟨(((((((zH0.set 37 (.inr (.inr (.inr (3, [.ref 44, .ref 6, .ref 76, .ref 78, .ref 80, .ref 88, .int 1, .int 0, .ref 96, .int 0, .int 0, .int 0, .ref 98, .ref 100, .int 0]))))).set 44 (.inr (.inr (.inr (6, [.int 1, .long 70644700037184, .int 0, .ref 90, .ref 92, .ref 94]))))).set 47 (.inr (.inl (16, [70644700037184])))).set 106 (.inl (2, 2, [0, 1]))).set 105 (.inl (0, 2, [0, 0]))).set 107 (.inl (0, 132, [0, 0, 0, 0, 0, 0, 0, 0, 0, 0, 0, 0, 0, 0, 0, 0, 0, 0, 0, 0, 0, 0, 0, 0, 0, 0, 0, 0, 0, 0, 0, 0, 0, 0, 0, 0, 0, 0, 0, 0, 0, 0, 0, 0, 0, 0, 0, 0, 0, 0, 0, 0, 0, 0, 0, 0, 0, 0, 0, 0, 0, 0, 0, 0, 0, 0, 0, 0, 0, 0, 0, 0]))).set 109 (.inl (0, 22, [0, 0, 0, 0, 0, 0, 0, 0, 0, 0, 0, 0]))), 117, 29934, ?_, by decide, by decide⟩
  refine zT_gos (f := 200000) (pc2 := 37) (ls2 := [(4, .int 0), (3, .ref 232), (2, .ref 162), (1, .ref 0), (0, .ref 11)]) (st2 := [.int (xs 0)]) (h2 := zH0) (dc2 := 117) (ds2 := 29934) 9 rfl ?_
  refine zT_gos (f := 200000) (pc2 := 40) (ls2 := [(4, .int 0), (3, .ref 232), (2, .ref 162), (1, .ref 0), (0, .ref 11)]) (st2 := [.int ((xs 0) &&& (63 : Int32))]) (h2 := zH0) (dc2 := 117) (ds2 := 29934) 2 rfl ?_
  refine zT_val h0 ?_
  refine zT_gos (f := 200000) (pc2 := 1104) (ls2 := [(4, .int 0), (3, .ref 232), (2, .ref 162), (1, .ref 0), (0, .ref 11)]) (st2 := [.int (xs 1), .ref 0]) (h2 := zH0) (dc2 := 117) (ds2 := 29934) 7 rfl ?_
  refine zT_if0 false rfl (zc_eq_f (by show ((xs 1) : Int32).toInt ≠ 0; omega)) ?_
  refine zT_here (pc2 := 1107) rfl ?_
  refine zT_gos (f := 200000) (pc2 := 1118) (ls2 := [(4, .int 0), (3, .ref 232), (2, .ref 162), (1, .ref 0), (0, .ref 11)]) (st2 := [.int (xs 2), .int 1, .ref 0]) (h2 := zH0) (dc2 := 117) (ds2 := 29934) 7 rfl ?_
  refine zT_val h2 ?_
  refine zT_gos (f := 200000) (pc2 := 1124) (ls2 := [(4, .int 0), (3, .ref 232), (2, .ref 162), (1, .ref 0), (0, .ref 11)]) (st2 := [.int (xs 3), .int 1, .int 1, .ref 0]) (h2 := zH0) (dc2 := 117) (ds2 := 29934) 5 rfl ?_
  refine zT_val h3 ?_
  refine zT_call rfl rfl (zT_le (zg0_le 6 xs) zk_o_207) ?_
  refine zT_here (pc2 := 1127) rfl ?_
  refine zT_gos (f := 200000) (pc2 := 1134) (ls2 := [(4, .int 0), (3, .ref 232), (2, .ref 162), (1, .ref 0), (0, .ref 11)]) (st2 := [.int (xs 1), .ref 162, .int 0]) (h2 := (((zH0.set 37 (.inr (.inr (.inr (3, [.ref 44, .ref 6, .ref 76, .ref 78, .ref 80, .ref 88, .int 1, .int 0, .ref 96, .int 0, .int 0, .int 0, .ref 98, .ref 100, .int 0]))))).set 44 (.inr (.inr (.inr (6, [.int 1, .long 70644700037184, .int 0, .ref 90, .ref 92, .ref 94]))))).set 47 (.inr (.inl (16, [70644700037184]))))) (dc2 := 117) (ds2 := 29934) 6 rfl ?_
  refine zT_if0 false rfl (zc_eq_f (by show ((xs 1) : Int32).toInt ≠ 0; omega)) ?_
  refine zT_here (pc2 := 1137) rfl ?_
  refine zT_gos (f := 200000) (pc2 := 1148) (ls2 := [(4, .int 0), (3, .ref 232), (2, .ref 162), (1, .ref 0), (0, .ref 11)]) (st2 := [.int (xs 2), .int 1, .ref 162, .int 0]) (h2 := (((zH0.set 37 (.inr (.inr (.inr (3, [.ref 44, .ref 6, .ref 76, .ref 78, .ref 80, .ref 88, .int 1, .int 0, .ref 96, .int 0, .int 0, .int 0, .ref 98, .ref 100, .int 0]))))).set 44 (.inr (.inr (.inr (6, [.int 1, .long 70644700037184, .int 0, .ref 90, .ref 92, .ref 94]))))).set 47 (.inr (.inl (16, [70644700037184]))))) (dc2 := 117) (ds2 := 29934) 7 rfl ?_
  refine zT_val h2 ?_
  refine zT_gos (f := 200000) (pc2 := 1154) (ls2 := [(4, .int 0), (3, .ref 232), (2, .ref 162), (1, .ref 0), (0, .ref 11)]) (st2 := [.int (xs 3), .int 1, .int 1, .ref 162, .int 0]) (h2 := (((zH0.set 37 (.inr (.inr (.inr (3, [.ref 44, .ref 6, .ref 76, .ref 78, .ref 80, .ref 88, .int 1, .int 0, .ref 96, .int 0, .int 0, .int 0, .ref 98, .ref 100, .int 0]))))).set 44 (.inr (.inr (.inr (6, [.int 1, .long 70644700037184, .int 0, .ref 90, .ref 92, .ref 94]))))).set 47 (.inr (.inl (16, [70644700037184]))))) (dc2 := 117) (ds2 := 29934) 5 rfl ?_
  refine zT_val h3 ?_
  refine zT_call rfl rfl (zT_le (zg0_le 6 xs) zk_o_208) ?_
  refine zT_here (pc2 := 1157) rfl ?_
  refine zT_gos (f := 200000) (pc2 := 1811) (ls2 := [(4, .int 6), (3, .ref 232), (2, .ref 162), (1, .ref 0), (0, .ref 11)]) (st2 := [.int 1]) (h2 := (((((((zH0.set 37 (.inr (.inr (.inr (3, [.ref 44, .ref 6, .ref 76, .ref 78, .ref 80, .ref 88, .int 1, .int 0, .ref 96, .int 0, .int 0, .int 0, .ref 98, .ref 100, .int 0]))))).set 44 (.inr (.inr (.inr (6, [.int 1, .long 70644700037184, .int 0, .ref 90, .ref 92, .ref 94]))))).set 47 (.inr (.inl (16, [70644700037184])))).set 106 (.inl (2, 2, [0, 1]))).set 105 (.inl (0, 2, [0, 0]))).set 107 (.inl (0, 132, [0, 0, 0, 0, 0, 0, 0, 0, 0, 0, 0, 0, 0, 0, 0, 0, 0, 0, 0, 0, 0, 0, 0, 0, 0, 0, 0, 0, 0, 0, 0, 0, 0, 0, 0, 0, 0, 0, 0, 0, 0, 0, 0, 0, 0, 0, 0, 0, 0, 0, 0, 0, 0, 0, 0, 0, 0, 0, 0, 0, 0, 0, 0, 0, 0, 0, 0, 0, 0, 0, 0, 0]))).set 109 (.inl (0, 22, [0, 0, 0, 0, 0, 0, 0, 0, 0, 0, 0, 0])))) (dc2 := 117) (ds2 := 29934) 10 rfl ?_
  exact zT_ret rfl rfl
set_option maxRecDepth 1000000 in
theorem zk_o_209 : zT zg0 zF zP 125 0 [(0, .ref 0), (1, .int 1), (2, .int 2), (3, .int 0)] [] zH0 0 0 (some (.int 0), (((zH0.set 37 (.inr (.inr (.inr (3, [.ref 44, .ref 6, .ref 76, .ref 78, .ref 80, .ref 88, .int 1, .int 0, .ref 96, .int 0, .int 0, .int 0, .ref 98, .ref 100, .int 0]))))).set 44 (.inr (.inr (.inr (6, [.int 1, .long 70644700037184, .int 0, .ref 90, .ref 92, .ref 94]))))).set 47 (.inr (.inl (16, [70644700037184])))), 0, 0) := zclosed (n := 360) (by decide +kernel)
set_option maxRecDepth 1000000 in
theorem zk_o_210 : zT zg0 zF zP 256 0 [(0, .ref 162), (1, .int 1), (2, .int 2), (3, .int 0)] [] (((zH0.set 37 (.inr (.inr (.inr (3, [.ref 44, .ref 6, .ref 76, .ref 78, .ref 80, .ref 88, .int 1, .int 0, .ref 96, .int 0, .int 0, .int 0, .ref 98, .ref 100, .int 0]))))).set 44 (.inr (.inr (.inr (6, [.int 1, .long 70644700037184, .int 0, .ref 90, .ref 92, .ref 94]))))).set 47 (.inr (.inl (16, [70644700037184])))) 0 0 (some (.int 0), (((((((zH0.set 37 (.inr (.inr (.inr (3, [.ref 44, .ref 6, .ref 76, .ref 78, .ref 80, .ref 88, .int 1, .int 0, .ref 96, .int 0, .int 0, .int 0, .ref 98, .ref 100, .int 0]))))).set 44 (.inr (.inr (.inr (6, [.int 1, .long 70644700037184, .int 0, .ref 90, .ref 92, .ref 94]))))).set 47 (.inr (.inl (16, [70644700037184])))).set 106 (.inl (2, 2, [0, 1]))).set 105 (.inl (0, 2, [0, 0]))).set 107 (.inl (0, 132, [0, 0, 0, 0, 0, 0, 0, 0, 0, 0, 0, 0, 0, 0, 0, 0, 0, 0, 0, 0, 0, 0, 0, 0, 0, 0, 0, 0, 0, 0, 0, 0, 0, 0, 0, 0, 0, 0, 0, 0, 0, 0, 0, 0, 0, 0, 0, 0, 0, 0, 0, 0, 0, 0, 0, 0, 0, 0, 0, 0, 0, 0, 0, 0, 0, 0, 0, 0, 0, 0, 0, 0]))).set 109 (.inl (0, 22, [0, 0, 0, 0, 0, 0, 0, 0, 0, 0, 0, 0]))), 0, 0) := zclosed (n := 476) (by decide +kernel)
set_option maxRecDepth 1000000 in
set_option maxHeartbeats 4000000 in
theorem zo_24_60 (xs : Nat → Int32) (h0 : xs 0 &&& 63 = 24) (h1 : (xs 1).toInt ≠ 0) (h3 : xs 3 = 0) (h2 : xs 2 = 2) : zDone xs := by
  refine ⟨(((((((zH0.set 37 (.inr (.inr (.inr (3, [.ref 44, .ref 6, .ref 76, .ref 78, .ref 80, .ref 88, .int 1, .int 0, .ref 96, .int 0, .int 0, .int 0, .ref 98, .ref 100, .int 0]))))).set 44 (.inr (.inr (.inr (6, [.int 1, .long 70644700037184, .int 0, .ref 90, .ref 92, .ref 94]))))).set 47 (.inr (.inl (16, [70644700037184])))).set 106 (.inl (2, 2, [0, 1]))).set 105 (.inl (0, 2, [0, 0]))).set 107 (.inl (0, 132, [0, 0, 0, 0, 0, 0, 0, 0, 0, 0, 0, 0, 0, 0, 0, 0, 0, 0, 0, 0, 0, 0, 0, 0, 0, 0, 0, 0, 0, 0, 0, 0, 0, 0, 0, 0, 0, 0, 0, 0, 0, 0, 0, 0, 0, 0, 0, 0, 0, 0, 0, 0, 0, 0, 0, 0, 0, 0, 0, 0, 0, 0, 0, 0, 0, 0, 0, 0, 0, 0, 0, 0]))).set 109 (.inl (0, 22, [0, 0, 0, 0, 0, 0, 0, 0, 0, 0, 0, 0]))), 117, 29934, ?_, by decide, by decide⟩
  refine zT_gos (f := 200000) (pc2 := 37) (ls2 := [(4, .int 0), (3, .ref 232), (2, .ref 162), (1, .ref 0), (0, .ref 11)]) (st2 := [.int (xs 0)]) (h2 := zH0) (dc2 := 117) (ds2 := 29934) 9 rfl ?_
  refine zT_gos (f := 200000) (pc2 := 40) (ls2 := [(4, .int 0), (3, .ref 232), (2, .ref 162), (1, .ref 0), (0, .ref 11)]) (st2 := [.int ((xs 0) &&& (63 : Int32))]) (h2 := zH0) (dc2 := 117) (ds2 := 29934) 2 rfl ?_
  refine zT_val h0 ?_
  refine zT_gos (f := 200000) (pc2 := 1104) (ls2 := [(4, .int 0), (3, .ref 232), (2, .ref 162), (1, .ref 0), (0, .ref 11)]) (st2 := [.int (xs 1), .ref 0]) (h2 := zH0) (dc2 := 117) (ds2 := 29934) 7 rfl ?_
  refine zT_if0 false rfl (zc_eq_f (by show ((xs 1) : Int32).toInt ≠ 0; omega)) ?_
  refine zT_here (pc2 := 1107) rfl ?_
  refine zT_gos (f := 200000) (pc2 := 1118) (ls2 := [(4, .int 0), (3, .ref 232), (2, .ref 162), (1, .ref 0), (0, .ref 11)]) (st2 := [.int (xs 2), .int 1, .ref 0]) (h2 := zH0) (dc2 := 117) (ds2 := 29934) 7 rfl ?_
  refine zT_val h2 ?_
  refine zT_gos (f := 200000) (pc2 := 1124) (ls2 := [(4, .int 0), (3, .ref 232), (2, .ref 162), (1, .ref 0), (0, .ref 11)]) (st2 := [.int (xs 3), .int 2, .int 1, .ref 0]) (h2 := zH0) (dc2 := 117) (ds2 := 29934) 5 rfl ?_
  refine zT_val h3 ?_
  refine zT_call rfl rfl (zT_le (zg0_le 6 xs) zk_o_209) ?_
  refine zT_here (pc2 := 1127) rfl ?_
  refine zT_gos (f := 200000) (pc2 := 1134) (ls2 := [(4, .int 0), (3, .ref 232), (2, .ref 162), (1, .ref 0), (0, .ref 11)]) (st2 := [.int (xs 1), .ref 162, .int 0]) (h2 := (((zH0.set 37 (.inr (.inr (.inr (3, [.ref 44, .ref 6, .ref 76, .ref 78, .ref 80, .ref 88, .int 1, .int 0, .ref 96, .int 0, .int 0, .int 0, .ref 98, .ref 100, .int 0]))))).set 44 (.inr (.inr (.inr (6, [.int 1, .long 70644700037184, .int 0, .ref 90, .ref 92, .ref 94]))))).set 47 (.inr (.inl (16, [70644700037184]))))) (dc2 := 117) (ds2 := 29934) 6 rfl ?_
  refine zT_if0 false rfl (zc_eq_f (by show ((xs 1) : Int32).toInt ≠ 0; omega)) ?_
  refine zT_here (pc2 := 1137) rfl ?_
  refine zT_gos (f := 200000) (pc2 := 1148) (ls2 := [(4, .int 0), (3, .ref 232), (2, .ref 162), (1, .ref 0), (0, .ref 11)]) (st2 := [.int (xs 2), .int 1, .ref 162, .int 0]) (h2 := (((zH0.set 37 (.inr (.inr (.inr (3, [.ref 44, .ref 6, .ref 76, .ref 78, .ref 80, .ref 88, .int 1, .int 0, .ref 96, .int 0, .int 0, .int 0, .ref 98, .ref 100, .int 0]))))).set 44 (.inr (.inr (.inr (6, [.int 1, .long 70644700037184, .int 0, .ref 90, .ref 92, .ref 94]))))).set 47 (.inr (.inl (16, [70644700037184]))))) (dc2 := 117) (ds2 := 29934) 7 rfl ?_
  refine zT_val h2 ?_
  refine zT_gos (f := 200000) (pc2 := 1154) (ls2 := [(4, .int 0), (3, .ref 232), (2, .ref 162), (1, .ref 0), (0, .ref 11)]) (st2 := [.int (xs 3), .int 2, .int 1, .ref 162, .int 0]) (h2 := (((zH0.set 37 (.inr (.inr (.inr (3, [.ref 44, .ref 6, .ref 76, .ref 78, .ref 80, .ref 88, .int 1, .int 0, .ref 96, .int 0, .int 0, .int 0, .ref 98, .ref 100, .int 0]))))).set 44 (.inr (.inr (.inr (6, [.int 1, .long 70644700037184, .int 0, .ref 90, .ref 92, .ref 94]))))).set 47 (.inr (.inl (16, [70644700037184]))))) (dc2 := 117) (ds2 := 29934) 5 rfl ?_
  refine zT_val h3 ?_
  refine zT_call rfl rfl (zT_le (zg0_le 6 xs) zk_o_210) ?_
  refine zT_here (pc2 := 1157) rfl ?_
  refine zT_gos (f := 200000) (pc2 := 1811) (ls2 := [(4, .int 6), (3, .ref 232), (2, .ref 162), (1, .ref 0), (0, .ref 11)]) (st2 := [.int 1]) (h2 := (((((((zH0.set 37 (.inr (.inr (.inr (3, [.ref 44, .ref 6, .ref 76, .ref 78, .ref 80, .ref 88, .int 1, .int 0, .ref 96, .int 0, .int 0, .int 0, .ref 98, .ref 100, .int 0]))))).set 44 (.inr (.inr (.inr (6, [.int 1, .long 70644700037184, .int 0, .ref 90, .ref 92, .ref 94]))))).set 47 (.inr (.inl (16, [70644700037184])))).set 106 (.inl (2, 2, [0, 1]))).set 105 (.inl (0, 2, [0, 0]))).set 107 (.inl (0, 132, [0, 0, 0, 0, 0, 0, 0, 0, 0, 0, 0, 0, 0, 0, 0, 0, 0, 0, 0, 0, 0, 0, 0, 0, 0, 0, 0, 0, 0, 0, 0, 0, 0, 0, 0, 0, 0, 0, 0, 0, 0, 0, 0, 0, 0, 0, 0, 0, 0, 0, 0, 0, 0, 0, 0, 0, 0, 0, 0, 0, 0, 0, 0, 0, 0, 0, 0, 0, 0, 0, 0, 0]))).set 109 (.inl (0, 22, [0, 0, 0, 0, 0, 0, 0, 0, 0, 0, 0, 0])))) (dc2 := 117) (ds2 := 29934) 10 rfl ?_
  exact zT_ret rfl rfl
set_option maxRecDepth 1000000 in
set_option maxHeartbeats 4000000 in
theorem zo_24_61 (xs : Nat → Int32) (h0 : xs 0 &&& 63 = 24) (h1 : (xs 1).toInt ≠ 0) (h3 : xs 3 = 1) (h2 : (xs 2).toInt < -2) : zDone xs := by
  refine ⟨(((((((zH0.set 37 (.inr (.inr (.inr (3, [.ref 44, .ref 6, .ref 76, .ref 78, .ref 80, .ref 88, .int 1, .int 0, .ref 96, .int 0, .int 0, .int 0, .ref 98, .ref 100, .int 0]))))).set 44 (.inr (.inr (.inr (6, [.int 1, .long 70644700037184, .int 0, .ref 90, .ref 92, .ref 94]))))).set 47 (.inr (.inl (16, [70644700037184])))).set 106 (.inl (2, 2, [0, 1]))).set 105 (.inl (0, 2, [0, 0]))).set 107 (.inl (0, 132, [0, 0, 0, 0, 0, 0, 0, 0, 0, 0, 0, 0, 0, 0, 0, 0, 0, 0, 0, 0, 0, 0, 0, 0, 0, 0, 0, 0, 0, 0, 0, 0, 0, 0, 0, 0, 0, 0, 0, 0, 0, 0, 0, 0, 0, 0, 0, 0, 0, 0, 0, 0, 0, 0, 0, 0, 0, 0, 0, 0, 0, 0, 0, 0, 0, 0, 0, 0, 0, 0, 0, 0]))).set 109 (.inl (0, 22, [0, 0, 0, 0, 0, 0, 0, 0, 0, 0, 0, 0]))), 117, 29934, ?_, by decide, by decide⟩
  refine zT_gos (f := 200000) (pc2 := 37) (ls2 := [(4, .int 0), (3, .ref 232), (2, .ref 162), (1, .ref 0), (0, .ref 11)]) (st2 := [.int (xs 0)]) (h2 := zH0) (dc2 := 117) (ds2 := 29934) 9 rfl ?_
  refine zT_gos (f := 200000) (pc2 := 40) (ls2 := [(4, .int 0), (3, .ref 232), (2, .ref 162), (1, .ref 0), (0, .ref 11)]) (st2 := [.int ((xs 0) &&& (63 : Int32))]) (h2 := zH0) (dc2 := 117) (ds2 := 29934) 2 rfl ?_
  refine zT_val h0 ?_
  refine zT_gos (f := 200000) (pc2 := 1104) (ls2 := [(4, .int 0), (3, .ref 232), (2, .ref 162), (1, .ref 0), (0, .ref 11)]) (st2 := [.int (xs 1), .ref 0]) (h2 := zH0) (dc2 := 117) (ds2 := 29934) 7 rfl ?_
  refine zT_if0 false rfl (zc_eq_f (by show ((xs 1) : Int32).toInt ≠ 0; omega)) ?_
  refine zT_here (pc2 := 1107) rfl ?_
  refine zT_gos (f := 200000) (pc2 := 1118) (ls2 := [(4, .int 0), (3, .ref 232), (2, .ref 162), (1, .ref 0), (0, .ref 11)]) (st2 := [.int (xs 2), .int 1, .ref 0]) (h2 := zH0) (dc2 := 117) (ds2 := 29934) 7 rfl ?_
  refine zT_gos (f := 200000) (pc2 := 1124) (ls2 := [(4, .int 0), (3, .ref 232), (2, .ref 162), (1, .ref 0), (0, .ref 11)]) (st2 := [.int (xs 3), .int (xs 2), .int 1, .ref 0]) (h2 := zH0) (dc2 := 117) (ds2 := 29934) 5 rfl ?_
  refine zT_val h3 ?_
  refine zT_call (v := some (.int (-9999))) (h2 := (((zH0.set 37 (.inr (.inr (.inr (3, [.ref 44, .ref 6, .ref 76, .ref 78, .ref 80, .ref 88, .int 1, .int 0, .ref 96, .int 0, .int 0, .int 0, .ref 98, .ref 100, .int 0]))))).set 44 (.inr (.inr (.inr (6, [.int 1, .long 70644700037184, .int 0, .ref 90, .ref 92, .ref 94]))))).set 47 (.inr (.inl (16, [70644700037184]))))) (d1 := 0) (s1 := 0) rfl rfl ?_ ?_
  · refine zT_gos (f := 200000) (pc2 := 42) (ls2 := [(4, .ref 88), (0, .ref 0), (1, .int 1), (2, .int (xs 2)), (3, .int 1)]) (st2 := [.int (-2), .int (xs 2)]) (h2 := (((zH0.set 37 (.inr (.inr (.inr (3, [.ref 44, .ref 6, .ref 76, .ref 78, .ref 80, .ref 88, .int 1, .int 0, .ref 96, .int 0, .int 0, .int 0, .ref 98, .ref 100, .int 0]))))).set 44 (.inr (.inr (.inr (6, [.int 1, .long 70644700037184, .int 0, .ref 90, .ref 92, .ref 94]))))).set 47 (.inr (.inl (16, [70644700037184]))))) (dc2 := 0) (ds2 := 0) 18 rfl ?_
    refine zT_if2 true rfl (zc_lt_t (by show ((xs 2) : Int32).toInt < -2; omega)) ?_
    refine zT_here (pc2 := 62) rfl ?_
    refine zT_gos (f := 200000) (pc2 := 65) (ls2 := [(4, .ref 88), (0, .ref 0), (1, .int 1), (2, .int (xs 2)), (3, .int 1)]) (st2 := [.int (-9999)]) (h2 := (((zH0.set 37 (.inr (.inr (.inr (3, [.ref 44, .ref 6, .ref 76, .ref 78, .ref 80, .ref 88, .int 1, .int 0, .ref 96, .int 0, .int 0, .int 0, .ref 98, .ref 100, .int 0]))))).set 44 (.inr (.inr (.inr (6, [.int 1, .long 70644700037184, .int 0, .ref 90, .ref 92, .ref 94]))))).set 47 (.inr (.inl (16, [70644700037184]))))) (dc2 := 0) (ds2 := 0) 1 rfl ?_
    exact zT_ret rfl rfl
  refine zT_here (pc2 := 1127) rfl ?_
  refine zT_gos (f := 200000) (pc2 := 1134) (ls2 := [(4, .int 0), (3, .ref 232), (2, .ref 162), (1, .ref 0), (0, .ref 11)]) (st2 := [.int (xs 1), .ref 162, .int (-9999)]) (h2 := (((zH0.set 37 (.inr (.inr (.inr (3, [.ref 44, .ref 6, .ref 76, .ref 78, .ref 80, .ref 88, .int 1, .int 0, .ref 96, .int 0, .int 0, .int 0, .ref 98, .ref 100, .int 0]))))).set 44 (.inr (.inr (.inr (6, [.int 1, .long 70644700037184, .int 0, .ref 90, .ref 92, .ref 94]))))).set 47 (.inr (.inl (16, [70644700037184]))))) (dc2 := 117) (ds2 := 29934) 6 rfl ?_
  refine zT_if0 false rfl (zc_eq_f (by show ((xs 1) : Int32).toInt ≠ 0; omega)) ?_
  refine zT_here (pc2 := 1137) rfl ?_
  refine zT_gos (f := 200000) (pc2 := 1148) (ls2 := [(4, .int 0), (3, .ref 232), (2, .ref 162), (1, .ref 0), (0, .ref 11)]) (st2 := [.int (xs 2), .int 1, .ref 162, .int (-9999)]) (h2 := (((zH0.set 37 (.inr (.inr (.inr (3, [.ref 44, .ref 6, .ref 76, .ref 78, .ref 80, .ref 88, .int 1, .int 0, .ref 96, .int 0, .int 0, .int 0, .ref 98, .ref 100, .int 0]))))).set 44 (.inr (.inr (.inr (6, [.int 1, .long 70644700037184, .int 0, .ref 90, .ref 92, .ref 94]))))).set 47 (.inr (.inl (16, [70644700037184]))))) (dc2 := 117) (ds2 := 29934) 7 rfl ?_
  refine zT_gos (f := 200000) (pc2 := 1154) (ls2 := [(4, .int 0), (3, .ref 232), (2, .ref 162), (1, .ref 0), (0, .ref 11)]) (st2 := [.int (xs 3), .int (xs 2), .int 1, .ref 162, .int (-9999)]) (h2 := (((zH0.set 37 (.inr (.inr (.inr (3, [.ref 44, .ref 6, .ref 76, .ref 78, .ref 80, .ref 88, .int 1, .int 0, .ref 96, .int 0, .int 0, .int 0, .ref 98, .ref 100, .int 0]))))).set 44 (.inr (.inr (.inr (6, [.int 1, .long 70644700037184, .int 0, .ref 90, .ref 92, .ref 94]))))).set 47 (.inr (.inl (16, [70644700037184]))))) (dc2 := 117) (ds2 := 29934) 5 rfl ?_
  refine zT_val h3 ?_
  refine zT_call (v := some (.int (-9999))) (h2 := (((((((zH0.set 37 (.inr (.inr (.inr (3, [.ref 44, .ref 6, .ref 76, .ref 78, .ref 80, .ref 88, .int 1, .int 0, .ref 96, .int 0, .int 0, .int 0, .ref 98, .ref 100, .int 0]))))).set 44 (.inr (.inr (.inr (6, [.int 1, .long 70644700037184, .int 0, .ref 90, .ref 92, .ref 94]))))).set 47 (.inr (.inl (16, [70644700037184])))).set 106 (.inl (2, 2, [0, 1]))).set 105 (.inl (0, 2, [0, 0]))).set 107 (.inl (0, 132, [0, 0, 0, 0, 0, 0, 0, 0, 0, 0, 0, 0, 0, 0, 0, 0, 0, 0, 0, 0, 0, 0, 0, 0, 0, 0, 0, 0, 0, 0, 0, 0, 0, 0, 0, 0, 0, 0, 0, 0, 0, 0, 0, 0, 0, 0, 0, 0, 0, 0, 0, 0, 0, 0, 0, 0, 0, 0, 0, 0, 0, 0, 0, 0, 0, 0, 0, 0, 0, 0, 0, 0]))).set 109 (.inl (0, 22, [0, 0, 0, 0, 0, 0, 0, 0, 0, 0, 0, 0])))) (d1 := 0) (s1 := 0) rfl rfl ?_ ?_
  · refine zT_gos (f := 200000) (pc2 := 7) (ls2 := [(0, .ref 162), (1, .int 1), (2, .int (xs 2)), (3, .int 1)]) (st2 := [.int 1, .ref 162]) (h2 := (((zH0.set 37 (.inr (.inr (.inr (3, [.ref 44, .ref 6, .ref 76, .ref 78, .ref 80, .ref 88, .int 1, .int 0, .ref 96, .int 0, .int 0, .int 0, .ref 98, .ref 100, .int 0]))))).set 44 (.inr (.inr (.inr (6, [.int 1, .long 70644700037184, .int 0, .ref 90, .ref 92, .ref 94]))))).set 47 (.inr (.inl (16, [70644700037184]))))) (dc2 := 0) (ds2 := 0) 5 rfl ?_
    refine zT_call rfl rfl (zT_le (zg0_le 6 xs) zk_o_20) ?_
    refine zT_here (pc2 := 10) rfl ?_
    refine zT_gos (f := 200000) (pc2 := 29) (ls2 := [(5, .int 2), (4, .int 0), (0, .ref 162), (1, .int 1), (2, .int (xs 2)), (3, .int 1)]) (st2 := [.int (-2), .int (xs 2)]) (h2 := (((((((zH0.set 37 (.inr (.inr (.inr (3, [.ref 44, .ref 6, .ref 76, .ref 78, .ref 80, .ref 88, .int 1, .int 0, .ref 96, .int 0, .int 0, .int 0, .ref 98, .ref 100, .int 0]))))).set 44 (.inr (.inr (.inr (6, [.int 1, .long 70644700037184, .int 0, .ref 90, .ref 92, .ref 94]))))).set 47 (.inr (.inl (16, [70644700037184])))).set 106 (.inl (2, 2, [0, 1]))).set 105 (.inl (0, 2, [0, 0]))).set 107 (.inl (0, 132, [0, 0, 0, 0, 0, 0, 0, 0, 0, 0, 0, 0, 0, 0, 0, 0, 0, 0, 0, 0, 0, 0, 0, 0, 0, 0, 0, 0, 0, 0, 0, 0, 0, 0, 0, 0, 0, 0, 0, 0, 0, 0, 0, 0, 0, 0, 0, 0, 0, 0, 0, 0, 0, 0, 0, 0, 0, 0, 0, 0, 0, 0, 0, 0, 0, 0, 0, 0, 0, 0, 0, 0]))).set 109 (.inl (0, 22, [0, 0, 0, 0, 0, 0, 0, 0, 0, 0, 0, 0])))) (dc2 := 0) (ds2 := 0) 11 rfl ?_
    refine zT_if2 true rfl (zc_lt_t (by show ((xs 2) : Int32).toInt < -2; omega)) ?_
    refine zT_here (pc2 := 48) rfl ?_
    refine zT_gos (f := 200000) (pc2 := 71) (ls2 := [(5, .int 2), (4, .int 0), (0, .ref 162), (1, .int 1), (2, .int (xs 2)), (3, .int 1)]) (st2 := [.int (-9999)]) (h2 := (((((((zH0.set 37 (.inr (.inr (.inr (3, [.ref 44, .ref 6, .ref 76, .ref 78, .ref 80, .ref 88, .int 1, .int 0, .ref 96, .int 0, .int 0, .int 0, .ref 98, .ref 100, .int 0]))))).set 44 (.inr (.inr (.inr (6, [.int 1, .long 70644700037184, .int 0, .ref 90, .ref 92, .ref 94]))))).set 47 (.inr (.inl (16, [70644700037184])))).set 106 (.inl (2, 2, [0, 1]))).set 105 (.inl (0, 2, [0, 0]))).set 107 (.inl (0, 132, [0, 0, 0, 0, 0, 0, 0, 0, 0, 0, 0, 0, 0, 0, 0, 0, 0, 0, 0, 0, 0, 0, 0, 0, 0, 0, 0, 0, 0, 0, 0, 0, 0, 0, 0, 0, 0, 0, 0, 0, 0, 0, 0, 0, 0, 0, 0, 0, 0, 0, 0, 0, 0, 0, 0, 0, 0, 0, 0, 0, 0, 0, 0, 0, 0, 0, 0, 0, 0, 0, 0, 0]))).set 109 (.inl (0, 22, [0, 0, 0, 0, 0, 0, 0, 0, 0, 0, 0, 0])))) (dc2 := 0) (ds2 := 0) 2 rfl ?_
    exact zT_ret rfl rfl
  refine zT_here (pc2 := 1157) rfl ?_
  refine zT_gos (f := 200000) (pc2 := 1811) (ls2 := [(4, .int 6), (3, .ref 232), (2, .ref 162), (1, .ref 0), (0, .ref 11)]) (st2 := [.int 1]) (h2 := (((((((zH0.set 37 (.inr (.inr (.inr (3, [.ref 44, .ref 6, .ref 76, .ref 78, .ref 80, .ref 88, .int 1, .int 0, .ref 96, .int 0, .int 0, .int 0, .ref 98, .ref 100, .int 0]))))).set 44 (.inr (.inr (.inr (6, [.int 1, .long 70644700037184, .int 0, .ref 90, .ref 92, .ref 94]))))).set 47 (.inr (.inl (16, [70644700037184])))).set 106 (.inl (2, 2, [0, 1]))).set 105 (.inl (0, 2, [0, 0]))).set 107 (.inl (0, 132, [0, 0, 0, 0, 0, 0, 0, 0, 0, 0, 0, 0, 0, 0, 0, 0, 0, 0, 0, 0, 0, 0, 0, 0, 0, 0, 0, 0, 0, 0, 0, 0, 0, 0, 0, 0, 0, 0, 0, 0, 0, 0, 0, 0, 0, 0, 0, 0, 0, 0, 0, 0, 0, 0, 0, 0, 0, 0, 0, 0, 0, 0, 0, 0, 0, 0, 0, 0, 0, 0, 0, 0]))).set 109 (.inl (0, 22, [0, 0, 0, 0, 0, 0, 0, 0, 0, 0, 0, 0])))) (dc2 := 117) (ds2 := 29934) 10 rfl ?_
  exact zT_ret rfl rfl
set_option maxRecDepth 1000000 in
set_option maxHeartbeats 4000000 in
theorem zo_24_62 (xs : Nat → Int32) (h0 : xs 0 &&& 63 = 24) (h1 : (xs 1).toInt ≠ 0) (h3 : xs 3 = 1) (h2 : 2 < (xs 2).toInt) : zDone xs := by
  refine ⟨(((((((zH0.set 37 (.inr (.inr (.inr (3, [.ref 44, .ref 6, .ref 76, .ref 78, .ref 80, .ref 88, .int 1, .int 0, .ref 96, .int 0, .int 0, .int 0, .ref 98, .ref 100, .int 0]))))).set 44 (.inr (.inr (.inr (6, [.int 1, .long 70644700037184, .int 0, .ref 90, .ref 92, .ref 94]))))).set 47 (.inr (.inl (16, [70644700037184])))).set 106 (.inl (2, 2, [0, 1]))).set 105 (.inl (0, 2, [0, 0]))).set 107 (.inl (0, 132, [0, 0, 0, 0, 0, 0, 0, 0, 0, 0, 0, 0, 0, 0, 0, 0, 0, 0, 0, 0, 0, 0, 0, 0, 0, 0, 0, 0, 0, 0, 0, 0, 0, 0, 0, 0, 0, 0, 0, 0, 0, 0, 0, 0, 0, 0, 0, 0, 0, 0, 0, 0, 0, 0, 0, 0, 0, 0, 0, 0, 0, 0, 0, 0, 0, 0, 0, 0, 0, 0, 0, 0]))).set 109 (.inl (0, 22, [0, 0, 0, 0, 0, 0, 0, 0, 0, 0, 0, 0]))), 117, 29934, ?_, by decide, by decide⟩
  refine zT_gos (f := 200000) (pc2 := 37) (ls2 := [(4, .int 0), (3, .ref 232), (2, .ref 162), (1, .ref 0), (0, .ref 11)]) (st2 := [.int (xs 0)]) (h2 := zH0) (dc2 := 117) (ds2 := 29934) 9 rfl ?_
  refine zT_gos (f := 200000) (pc2 := 40) (ls2 := [(4, .int 0), (3, .ref 232), (2, .ref 162), (1, .ref 0), (0, .ref 11)]) (st2 := [.int ((xs 0) &&& (63 : Int32))]) (h2 := zH0) (dc2 := 117) (ds2 := 29934) 2 rfl ?_
  refine zT_val h0 ?_
  refine zT_gos (f := 200000) (pc2 := 1104) (ls2 := [(4, .int 0), (3, .ref 232), (2, .ref 162), (1, .ref 0), (0, .ref 11)]) (st2 := [.int (xs 1), .ref 0]) (h2 := zH0) (dc2 := 117) (ds2 := 29934) 7 rfl ?_
  refine zT_if0 false rfl (zc_eq_f (by show ((xs 1) : Int32).toInt ≠ 0; omega)) ?_
  refine zT_here (pc2 := 1107) rfl ?_
  refine zT_gos (f := 200000) (pc2 := 1118) (ls2 := [(4, .int 0), (3, .ref 232), (2, .ref 162), (1, .ref 0), (0, .ref 11)]) (st2 := [.int (xs 2), .int 1, .ref 0]) (h2 := zH0) (dc2 := 117) (ds2 := 29934) 7 rfl ?_
  refine zT_gos (f := 200000) (pc2 := 1124) (ls2 := [(4, .int 0), (3, .ref 232), (2, .ref 162), (1, .ref 0), (0, .ref 11)]) (st2 := [.int (xs 3), .int (xs 2), .int 1, .ref 0]) (h2 := zH0) (dc2 := 117) (ds2 := 29934) 5 rfl ?_
  refine zT_val h3 ?_
  refine zT_call (v := some (.int (-9999))) (h2 := (((zH0.set 37 (.inr (.inr (.inr (3, [.ref 44, .ref 6, .ref 76, .ref 78, .ref 80, .ref 88, .int 1, .int 0, .ref 96, .int 0, .int 0, .int 0, .ref 98, .ref 100, .int 0]))))).set 44 (.inr (.inr (.inr (6, [.int 1, .long 70644700037184, .int 0, .ref 90, .ref 92, .ref 94]))))).set 47 (.inr (.inl (16, [70644700037184]))))) (d1 := 0) (s1 := 0) rfl rfl ?_ ?_
  · refine zT_gos (f := 200000) (pc2 := 42) (ls2 := [(4, .ref 88), (0, .ref 0), (1, .int 1), (2, .int (xs 2)), (3, .int 1)]) (st2 := [.int (-2), .int (xs 2)]) (h2 := (((zH0.set 37 (.inr (.inr (.inr (3, [.ref 44, .ref 6, .ref 76, .ref 78, .ref 80, .ref 88, .int 1, .int 0, .ref 96, .int 0, .int 0, .int 0, .ref 98, .ref 100, .int 0]))))).set 44 (.inr (.inr (.inr (6, [.int 1, .long 70644700037184, .int 0, .ref 90, .ref 92, .ref 94]))))).set 47 (.inr (.inl (16, [70644700037184]))))) (dc2 := 0) (ds2 := 0) 18 rfl ?_
    refine zT_if2 false rfl (zc_lt_f (by show ((xs 2) : Int32).toInt ≥ -2; omega)) ?_
    refine zT_here (pc2 := 45) rfl ?_
    refine zT_gos (f := 200000) (pc2 := 59) (ls2 := [(4, .ref 88), (0, .ref 0), (1, .int 1), (2, .int (xs 2)), (3, .int 1)]) (st2 := [.int 2, .int (xs 2)]) (h2 := (((zH0.set 37 (.inr (.inr (.inr (3, [.ref 44, .ref 6, .ref 76, .ref 78, .ref 80, .ref 88, .int 1, .int 0, .ref 96, .int 0, .int 0, .int 0, .ref 98, .ref 100, .int 0]))))).set 44 (.inr (.inr (.inr (6, [.int 1, .long 70644700037184, .int 0, .ref 90, .ref 92, .ref 94]))))).set 47 (.inr (.inl (16, [70644700037184]))))) (dc2 := 0) (ds2 := 0) 7 rfl ?_
    refine zT_if2 false rfl (zc_le_f (by show ((xs 2) : Int32).toInt > 2; omega)) ?_
    refine zT_here (pc2 := 62) rfl ?_
    refine zT_gos (f := 200000) (pc2 := 65) (ls2 := [(4, .ref 88), (0, .ref 0), (1, .int 1), (2, .int (xs 2)), (3, .int 1)]) (st2 := [.int (-9999)]) (h2 := (((zH0.set 37 (.inr (.inr (.inr (3, [.ref 44, .ref 6, .ref 76, .ref 78, .ref 80, .ref 88, .int 1, .int 0, .ref 96, .int 0, .int 0, .int 0, .ref 98, .ref 100, .int 0]))))).set 44 (.inr (.inr (.inr (6, [.int 1, .long 70644700037184, .int 0, .ref 90, .ref 92, .ref 94]))))).set 47 (.inr (.inl (16, [70644700037184]))))) (dc2 := 0) (ds2 := 0) 1 rfl ?_
    exact zT_ret rfl rfl
  refine zT_here (pc2 := 1127) rfl ?_
  refine zT_gos (f := 200000) (pc2 := 1134) (ls2 := [(4, .int 0), (3, .ref 232), (2, .ref 162), (1, .ref 0), (0, .ref 11)]) (st2 := [.int (xs 1), .ref 162, .int (-9999)]) (h2 := (((zH0.set 37 (.inr (.inr (.inr (3, [.ref 44, .ref 6, .ref 76, .ref 78, .ref 80, .ref 88, .int 1, .int 0, .ref 96, .int 0, .int 0, .int 0, .ref 98, .ref 100, .int 0]))))).set 44 (.inr (.inr (.inr (6, [.int 1, .long 70644700037184, .int 0, .ref 90, .ref 92, .ref 94]))))).set 47 (.inr (.inl (16, [70644700037184]))))) (dc2 := 117) (ds2 := 29934) 6 rfl ?_
  refine zT_if0 false rfl (zc_eq_f (by show ((xs 1) : Int32).toInt ≠ 0; omega)) ?_
  refine zT_here (pc2 := 1137) rfl ?_
  refine zT_gos (f := 200000) (pc2 := 1148) (ls2 := [(4, .int 0), (3, .ref 232), (2, .ref 162), (1, .ref 0), (0, .ref 11)]) (st2 := [.int (xs 2), .int 1, .ref 162, .int (-9999)]) (h2 := (((zH0.set 37 (.inr (.inr (.inr (3, [.ref 44, .ref 6, .ref 76, .ref 78, .ref 80, .ref 88, .int 1, .int 0, .ref 96, .int 0, .int 0, .int 0, .ref 98, .ref 100, .int 0]))))).set 44 (.inr (.inr (.inr (6, [.int 1, .long 70644700037184, .int 0, .ref 90, .ref 92, .ref 94]))))).set 47 (.inr (.inl (16, [70644700037184]))))) (dc2 := 117) (ds2 := 29934) 7 rfl ?_
  refine zT_gos (f := 200000) (pc2 := 1154) (ls2 := [(4, .int 0), (3, .ref 232), (2, .ref 162), (1, .ref 0), (0, .ref 11)]) (st2 := [.int (xs 3), .int (xs 2), .int 1, .ref 162, .int (-9999)]) (h2 := (((zH0.set 37 (.inr (.inr (.inr (3, [.ref 44, .ref 6, .ref 76, .ref 78, .ref 80, .ref 88, .int 1, .int 0, .ref 96, .int 0, .int 0, .int 0, .ref 98, .ref 100, .int 0]))))).set 44 (.inr (.inr (.inr (6, [.int 1, .long 70644700037184, .int 0, .ref 90, .ref 92, .ref 94]))))).set 47 (.inr (.inl (16, [70644700037184]))))) (dc2 := 117) (ds2 := 29934) 5 rfl ?_
  refine zT_val h3 ?_
  refine zT_call (v := some (.int (-9999))) (h2 := (((((((zH0.set 37 (.inr (.inr (.inr (3, [.ref 44, .ref 6, .ref 76, .ref 78, .ref 80, .ref 88, .int 1, .int 0, .ref 96, .int 0, .int 0, .int 0, .ref 98, .ref 100, .int 0]))))).set 44 (.inr (.inr (.inr (6, [.int 1, .long 70644700037184, .int 0, .ref 90, .ref 92, .ref 94]))))).set 47 (.inr (.inl (16, [70644700037184])))).set 106 (.inl (2, 2, [0, 1]))).set 105 (.inl (0, 2, [0, 0]))).set 107 (.inl (0, 132, [0, 0, 0, 0, 0, 0, 0, 0, 0, 0, 0, 0, 0, 0, 0, 0, 0, 0, 0, 0, 0, 0, 0, 0, 0, 0, 0, 0, 0, 0, 0, 0, 0, 0, 0, 0, 0, 0, 0, 0, 0, 0, 0, 0, 0, 0, 0, 0, 0, 0, 0, 0, 0, 0, 0, 0, 0, 0, 0, 0, 0, 0, 0, 0, 0, 0, 0, 0, 0, 0, 0, 0]))).set 109 (.inl (0, 22, [0, 0, 0, 0, 0, 0, 0, 0, 0, 0, 0, 0])))) (d1 := 0) (s1 := 0) rfl rfl ?_ ?_
  · refine zT_gos (f := 200000) (pc2 := 7) (ls2 := [(0, .ref 162), (1, .int 1), (2, .int (xs 2)), (3, .int 1)]) (st2 := [.int 1, .ref 162]) (h2 := (((zH0.set 37 (.inr (.inr (.inr (3, [.ref 44, .ref 6, .ref 76, .ref 78, .ref 80, .ref 88, .int 1, .int 0, .ref 96, .int 0, .int 0, .int 0, .ref 98, .ref 100, .int 0]))))).set 44 (.inr (.inr (.inr (6, [.int 1, .long 70644700037184, .int 0, .ref 90, .ref 92, .ref 94]))))).set 47 (.inr (.inl (16, [70644700037184]))))) (dc2 := 0) (ds2 := 0) 5 rfl ?_
    refine zT_call rfl rfl (zT_le (zg0_le 6 xs) zk_o_20) ?_
    refine zT_here (pc2 := 10) rfl ?_
    refine zT_gos (f := 200000) (pc2 := 29) (ls2 := [(5, .int 2), (4, .int 0), (0, .ref 162), (1, .int 1), (2, .int (xs 2)), (3, .int 1)]) (st2 := [.int (-2), .int (xs 2)]) (h2 := (((((((zH0.set 37 (.inr (.inr (.inr (3, [.ref 44, .ref 6, .ref 76, .ref 78, .ref 80, .ref 88, .int 1, .int 0, .ref 96, .int 0, .int 0, .int 0, .ref 98, .ref 100, .int 0]))))).set 44 (.inr (.inr (.inr (6, [.int 1, .long 70644700037184, .int 0, .ref 90, .ref 92, .ref 94]))))).set 47 (.inr (.inl (16, [70644700037184])))).set 106 (.inl (2, 2, [0, 1]))).set 105 (.inl (0, 2, [0, 0]))).set 107 (.inl (0, 132, [0, 0, 0, 0, 0, 0, 0, 0, 0, 0, 0, 0, 0, 0, 0, 0, 0, 0, 0, 0, 0, 0, 0, 0, 0, 0, 0, 0, 0, 0, 0, 0, 0, 0, 0, 0, 0, 0, 0, 0, 0, 0, 0, 0, 0, 0, 0, 0, 0, 0, 0, 0, 0, 0, 0, 0, 0, 0, 0, 0, 0, 0, 0, 0, 0, 0, 0, 0, 0, 0, 0, 0]))).set 109 (.inl (0, 22, [0, 0, 0, 0, 0, 0, 0, 0, 0, 0, 0, 0])))) (dc2 := 0) (ds2 := 0) 11 rfl ?_
    refine zT_if2 false rfl (zc_lt_f (by show ((xs 2) : Int32).toInt ≥ -2; omega)) ?_
    refine zT_here (pc2 := 32) rfl ?_
    refine zT_gos (f := 200000) (pc2 := 38) (ls2 := [(5, .int 2), (4, .int 0), (0, .ref 162), (1, .int 1), (2, .int (xs 2)), (3, .int 1)]) (st2 := [.int 2, .int (xs 2)]) (h2 := (((((((zH0.set 37 (.inr (.inr (.inr (3, [.ref 44, .ref 6, .ref 76, .ref 78, .ref 80, .ref 88, .int 1, .int 0, .ref 96, .int 0, .int 0, .int 0, .ref 98, .ref 100, .int 0]))))).set 44 (.inr (.inr (.inr (6, [.int 1, .long 70644700037184, .int 0, .ref 90, .ref 92, .ref 94]))))).set 47 (.inr (.inl (16, [70644700037184])))).set 106 (.inl (2, 2, [0, 1]))).set 105 (.inl (0, 2, [0, 0]))).set 107 (.inl (0, 132, [0, 0, 0, 0, 0, 0, 0, 0, 0, 0, 0, 0, 0, 0, 0, 0, 0, 0, 0, 0, 0, 0, 0, 0, 0, 0, 0, 0, 0, 0, 0, 0, 0, 0, 0, 0, 0, 0, 0, 0, 0, 0, 0, 0, 0, 0, 0, 0, 0, 0, 0, 0, 0, 0, 0, 0, 0, 0, 0, 0, 0, 0, 0, 0, 0, 0, 0, 0, 0, 0, 0, 0]))).set 109 (.inl (0, 22, [0, 0, 0, 0, 0, 0, 0, 0, 0, 0, 0, 0])))) (dc2 := 0) (ds2 := 0) 4 rfl ?_
    refine zT_if2 true rfl (zc_gt_t (by show ((xs 2) : Int32).toInt > 2; omega)) ?_
    refine zT_here (pc2 := 48) rfl ?_
    refine zT_gos (f := 200000) (pc2 := 71) (ls2 := [(5, .int 2), (4, .int 0), (0, .ref 162), (1, .int 1), (2, .int (xs 2)), (3, .int 1)]) (st2 := [.int (-9999)]) (h2 := (((((((zH0.set 37 (.inr (.inr (.inr (3, [.ref 44, .ref 6, .ref 76, .ref 78, .ref 80, .ref 88, .int 1, .int 0, .ref 96, .int 0, .int 0, .int 0, .ref 98, .ref 100, .int 0]))))).set 44 (.inr (.inr (.inr (6, [.int 1, .long 70644700037184, .int 0, .ref 90, .ref 92, .ref 94]))))).set 47 (.inr (.inl (16, [70644700037184])))).set 106 (.inl (2, 2, [0, 1]))).set 105 (.inl (0, 2, [0, 0]))).set 107 (.inl (0, 132, [0, 0, 0, 0, 0, 0, 0, 0, 0, 0, 0, 0, 0, 0, 0, 0, 0, 0, 0, 0, 0, 0, 0, 0, 0, 0, 0, 0, 0, 0, 0, 0, 0, 0, 0, 0, 0, 0, 0, 0, 0, 0, 0, 0, 0, 0, 0, 0, 0, 0, 0, 0, 0, 0, 0, 0, 0, 0, 0, 0, 0, 0, 0, 0, 0, 0, 0, 0, 0, 0, 0, 0]))).set 109 (.inl (0, 22, [0, 0, 0, 0, 0, 0, 0, 0, 0, 0, 0, 0])))) (dc2 := 0) (ds2 := 0) 2 rfl ?_
    exact zT_ret rfl rfl
  refine zT_here (pc2 := 1157) rfl ?_
  refine zT_gos (f := 200000) (pc2 := 1811) (ls2 := [(4, .int 6), (3, .ref 232), (2, .ref 162), (1, .ref 0), (0, .ref 11)]) (st2 := [.int 1]) (h2 := (((((((zH0.set 37 (.inr (.inr (.inr (3, [.ref 44, .ref 6, .ref 76, .ref 78, .ref 80, .ref 88, .int 1, .int 0, .ref 96, .int 0, .int 0, .int 0, .ref 98, .ref 100, .int 0]))))).set 44 (.inr (.inr (.inr (6, [.int 1, .long 70644700037184, .int 0, .ref 90, .ref 92, .ref 94]))))).set 47 (.inr (.inl (16, [70644700037184])))).set 106 (.inl (2, 2, [0, 1]))).set 105 (.inl (0, 2, [0, 0]))).set 107 (.inl (0, 132, [0, 0, 0, 0, 0, 0, 0, 0, 0, 0, 0, 0, 0, 0, 0, 0, 0, 0, 0, 0, 0, 0, 0, 0, 0, 0, 0, 0, 0, 0, 0, 0, 0, 0, 0, 0, 0, 0, 0, 0, 0, 0, 0, 0, 0, 0, 0, 0, 0, 0, 0, 0, 0, 0, 0, 0, 0, 0, 0, 0, 0, 0, 0, 0, 0, 0, 0, 0, 0, 0, 0, 0]))).set 109 (.inl (0, 22, [0, 0, 0, 0, 0, 0, 0, 0, 0, 0, 0, 0])))) (dc2 := 117) (ds2 := 29934) 10 rfl ?_
  exact zT_ret rfl rfl
set_option maxRecDepth 1000000 in
theorem zk_o_211 : zT zg0 zF zP 125 0 [(0, .ref 0), (1, .int 1), (2, .int (-2)), (3, .int 1)] [] zH0 0 0 (some (.int 0), (((zH0.set 37 (.inr (.inr (.inr (3, [.ref 44, .ref 6, .ref 76, .ref 78, .ref 80, .ref 88, .int 1, .int 0, .ref 96, .int 0, .int 0, .int 0, .ref 98, .ref 100, .int 0]))))).set 44 (.inr (.inr (.inr (6, [.int 1, .long 70644700037184, .int 0, .ref 90, .ref 92, .ref 94]))))).set 47 (.inr (.inl (16, [70644700037184])))), 0, 0) := zclosed (n := 340) (by decide +kernel)
set_option maxRecDepth 1000000 in
theorem zk_o_212 : zT zg0 zF zP 256 0 [(0, .ref 162), (1, .int 1), (2, .int (-2)), (3, .int 1)] [] (((zH0.set 37 (.inr (.inr (.inr (3, [.ref 44, .ref 6, .ref 76, .ref 78, .ref 80, .ref 88, .int 1, .int 0, .ref 96, .int 0, .int 0, .int 0, .ref 98, .ref 100, .int 0]))))).set 44 (.inr (.inr (.inr (6, [.int 1, .long 70644700037184, .int 0, .ref 90, .ref 92, .ref 94]))))).set 47 (.inr (.inl (16, [70644700037184])))) 0 0 (some (.int 0), (((((((zH0.set 37 (.inr (.inr (.inr (3, [.ref 44, .ref 6, .ref 76, .ref 78, .ref 80, .ref 88, .int 1, .int 0, .ref 96, .int 0, .int 0, .int 0, .ref 98, .ref 100, .int 0]))))).set 44 (.inr (.inr (.inr (6, [.int 1, .long 70644700037184, .int 0, .ref 90, .ref 92, .ref 94]))))).set 47 (.inr (.inl (16, [70644700037184])))).set 106 (.inl (2, 2, [0, 1]))).set 105 (.inl (0, 2, [0, 0]))).set 107 (.inl (0, 132, [0, 0, 0, 0, 0, 0, 0, 0, 0, 0, 0, 0, 0, 0, 0, 0, 0, 0, 0, 0, 0, 0, 0, 0, 0, 0, 0, 0, 0, 0, 0, 0, 0, 0, 0, 0, 0, 0, 0, 0, 0, 0, 0, 0, 0, 0, 0, 0, 0, 0, 0, 0, 0, 0, 0, 0, 0, 0, 0, 0, 0, 0, 0, 0, 0, 0, 0, 0, 0, 0, 0, 0]))).set 109 (.inl (0, 22, [0, 0, 0, 0, 0, 0, 0, 0, 0, 0, 0, 0]))), 0, 0) := zclosed (n := 380) (by decide +kernel)
set_option maxRecDepth 1000000 in
set_option maxHeartbeats 4000000 in
theorem zo_24_63 (xs : Nat → Int32) (h0 : xs 0 &&& 63 = 24) (h1 : (xs 1).toInt ≠ 0) (h3 : xs 3 = 1) (h2 : xs 2 = (-2)) : zDone xs := by
  refine ⟨(((((((zH0.set 37 (.inr (.inr (.inr (3, [.ref 44, .ref 6, .ref 76, .ref 78, .ref 80, .ref 88, .int 1, .int 0, .ref 96, .int 0, .int 0, .int 0, .ref 98, .ref 100, .int 0]))))).set 44 (.inr (.inr (.inr (6, [.int 1, .long 70644700037184, .int 0, .ref 90, .ref 92, .ref 94]))))).set 47 (.inr (.inl (16, [70644700037184])))).set 106 (.inl (2, 2, [0, 1]))).set 105 (.inl (0, 2, [0, 0]))).set 107 (.inl (0, 132, [0, 0, 0, 0, 0, 0, 0, 0, 0, 0, 0, 0, 0, 0, 0, 0, 0, 0, 0, 0, 0, 0, 0, 0, 0, 0, 0, 0, 0, 0, 0, 0, 0, 0, 0, 0, 0, 0, 0, 0, 0, 0, 0, 0, 0, 0, 0, 0, 0, 0, 0, 0, 0, 0, 0, 0, 0, 0, 0, 0, 0, 0, 0, 0, 0, 0, 0, 0, 0, 0, 0, 0]))).set 109 (.inl (0, 22, [0, 0, 0, 0, 0, 0, 0, 0, 0, 0, 0, 0]))), 117, 29934, ?_, by decide, by decide⟩
  refine zT_gos (f := 200000) (pc2 := 37) (ls2 := [(4, .int 0), (3, .ref 232), (2, .ref 162), (1, .ref 0), (0, .ref 11)]) (st2 := [.int (xs 0)]) (h2 := zH0) (dc2 := 117) (ds2 := 29934) 9 rfl ?_
  refine zT_gos (f := 200000) (pc2 := 40) (ls2 := [(4, .int 0), (3, .ref 232), (2, .ref 162), (1, .ref 0), (0, .ref 11)]) (st2 := [.int ((xs 0) &&& (63 : Int32))]) (h2 := zH0) (dc2 := 117) (ds2 := 29934) 2 rfl ?_
  refine zT_val h0 ?_
  refine zT_gos (f := 200000) (pc2 := 1104) (ls2 := [(4, .int 0), (3, .ref 232), (2, .ref 162), (1, .ref 0), (0, .ref 11)]) (st2 := [.int (xs 1), .ref 0]) (h2 := zH0) (dc2 := 117) (ds2 := 29934) 7 rfl ?_
  refine zT_if0 false rfl (zc_eq_f (by show ((xs 1) : Int32).toInt ≠ 0; omega)) ?_
  refine zT_here (pc2 := 1107) rfl ?_
  refine zT_gos (f := 200000) (pc2 := 1118) (ls2 := [(4, .int 0), (3, .ref 232), (2, .ref 162), (1, .ref 0), (0, .ref 11)]) (st2 := [.int (xs 2), .int 1, .ref 0]) (h2 := zH0) (dc2 := 117) (ds2 := 29934) 7 rfl ?_
  refine zT_val h2 ?_
  refine zT_gos (f := 200000) (pc2 := 1124) (ls2 := [(4, .int 0), (3, .ref 232), (2, .ref 162), (1, .ref 0), (0, .ref 11)]) (st2 := [.int (xs 3), .int (-2), .int 1, .ref 0]) (h2 := zH0) (dc2 := 117) (ds2 := 29934) 5 rfl ?_
  refine zT_val h3 ?_
  refine zT_call rfl rfl (zT_le (zg0_le 6 xs) zk_o_211) ?_
  refine zT_here (pc2 := 1127) rfl ?_
  refine zT_gos (f := 200000) (pc2 := 1134) (ls2 := [(4, .int 0), (3, .ref 232), (2, .ref 162), (1, .ref 0), (0, .ref 11)]) (st2 := [.int (xs 1), .ref 162, .int 0]) (h2 := (((zH0.set 37 (.inr (.inr (.inr (3, [.ref 44, .ref 6, .ref 76, .ref 78, .ref 80, .ref 88, .int 1, .int 0, .ref 96, .int 0, .int 0, .int 0, .ref 98, .ref 100, .int 0]))))).set 44 (.inr (.inr (.inr (6, [.int 1, .long 70644700037184, .int 0, .ref 90, .ref 92, .ref 94]))))).set 47 (.inr (.inl (16, [70644700037184]))))) (dc2 := 117) (ds2 := 29934) 6 rfl ?_
  refine zT_if0 false rfl (zc_eq_f (by show ((xs 1) : Int32).toInt ≠ 0; omega)) ?_
  refine zT_here (pc2 := 1137) rfl ?_
  refine zT_gos (f := 200000) (pc2 := 1148) (ls2 := [(4, .int 0), (3, .ref 232), (2, .ref 162), (1, .ref 0), (0, .ref 11)]) (st2 := [.int (xs 2), .int 1, .ref 162, .int 0]) (h2 := (((zH0.set 37 (.inr (.inr (.inr (3, [.ref 44, .ref 6, .ref 76, .ref 78, .ref 80, .ref 88, .int 1, .int 0, .ref 96, .int 0, .int 0, .int 0, .ref 98, .ref 100, .int 0]))))).set 44 (.inr (.inr (.inr (6, [.int 1, .long 70644700037184, .int 0, .ref 90, .ref 92, .ref 94]))))).set 47 (.inr (.inl (16, [70644700037184]))))) (dc2 := 117) (ds2 := 29934) 7 rfl ?_
  refine zT_val h2 ?_
  refine zT_gos (f := 200000) (pc2 := 1154) (ls2 := [(4, .int 0), (3, .ref 232), (2, .ref 162), (1, .ref 0), (0, .ref 11)]) (st2 := [.int (xs 3), .int (-2), .int 1, .ref 162, .int 0]) (h2 := (((zH0.set 37 (.inr (.inr (.inr (3, [.ref 44, .ref 6, .ref 76, .ref 78, .ref 80, .ref 88, .int 1, .int 0, .ref 96, .int 0, .int 0, .int 0, .ref 98, .ref 100, .int 0]))))).set 44 (.inr (.inr (.inr (6, [.int 1, .long 70644700037184, .int 0, .ref 90, .ref 92, .ref 94]))))).set 47 (.inr (.inl (16, [70644700037184]))))) (dc2 := 117) (ds2 := 29934) 5 rfl ?_
  refine zT_val h3 ?_
  refine zT_call rfl rfl (zT_le (zg0_le 6 xs) zk_o_212) ?_
  refine zT_here (pc2 := 1157) rfl ?_
  refine zT_gos (f := 200000) (pc2 := 1811) (ls2 := [(4, .int 6), (3, .ref 232), (2, .ref 162), (1, .ref 0), (0, .ref 11)]) (st2 := [.int 1]) (h2 := (((((((zH0.set 37 (.inr (.inr (.inr (3, [.ref 44, .ref 6, .ref 76, .ref 78, .ref 80, .ref 88, .int 1, .int 0, .ref 96, .int 0, .int 0, .int 0, .ref 98, .ref 100, .int 0]))))).set 44 (.inr (.inr (.inr (6, [.int 1, .long 70644700037184, .int 0, .ref 90, .ref 92, .ref 94]))))).set 47 (.inr (.inl (16, [70644700037184])))).set 106 (.inl (2, 2, [0, 1]))).set 105 (.inl (0, 2, [0, 0]))).set 107 (.inl (0, 132, [0, 0, 0, 0, 0, 0, 0, 0, 0, 0, 0, 0, 0, 0, 0, 0, 0, 0, 0, 0, 0, 0, 0, 0, 0, 0, 0, 0, 0, 0, 0, 0, 0, 0, 0, 0, 0, 0, 0, 0, 0, 0, 0, 0, 0, 0, 0, 0, 0, 0, 0, 0, 0, 0, 0, 0, 0, 0, 0, 0, 0, 0, 0, 0, 0, 0, 0, 0, 0, 0, 0, 0]))).set 109 (.inl (0, 22, [0, 0, 0, 0, 0, 0, 0, 0, 0, 0, 0, 0])))) (dc2 := 117) (ds2 := 29934) 10 rfl ?_
  exact zT_ret rfl rfl
set_option maxRecDepth 1000000 in
theorem zk_o_213 : zT zg0 zF zP 125 0 [(0, .ref 0), (1, .int 1), (2, .int (-1)), (3, .int 1)] [] zH0 0 0 (some (.int 0), (((zH0.set 37 (.inr (.inr (.inr (3, [.ref 44, .ref 6, .ref 76, .ref 78, .ref 80, .ref 88, .int 1, .int 0, .ref 96, .int 0, .int 0, .int 0, .ref 98, .ref 100, .int 0]))))).set 44 (.inr (.inr (.inr (6, [.int 1, .long 70644700037184, .int 0, .ref 90, .ref 92, .ref 94]))))).set 47 (.inr (.inl (16, [70644700037184])))), 0, 0) := zclosed (n := 345) (by decide +kernel)
set_option maxRecDepth 1000000 in
theorem zk_o_214 : zT zg0 zF zP 256 0 [(0, .ref 162), (1, .int 1), (2, .int (-1)), (3, .int 1)] [] (((zH0.set 37 (.inr (.inr (.inr (3, [.ref 44, .ref 6, .ref 76, .ref 78, .ref 80, .ref 88, .int 1, .int 0, .ref 96, .int 0, .int 0, .int 0, .ref 98, .ref 100, .int 0]))))).set 44 (.inr (.inr (.inr (6, [.int 1, .long 70644700037184, .int 0, .ref 90, .ref 92, .ref 94]))))).set 47 (.inr (.inl (16, [70644700037184])))) 0 0 (some (.int 0), (((((((zH0.set 37 (.inr (.inr (.inr (3, [.ref 44, .ref 6, .ref 76, .ref 78, .ref 80, .ref 88, .int 1, .int 0, .ref 96, .int 0, .int 0, .int 0, .ref 98, .ref 100, .int 0]))))).set 44 (.inr (.inr (.inr (6, [.int 1, .long 70644700037184, .int 0, .ref 90, .ref 92, .ref 94]))))).set 47 (.inr (.inl (16, [70644700037184])))).set 106 (.inl (2, 2, [0, 1]))).set 105 (.inl (0, 2, [0, 0]))).set 107 (.inl (0, 132, [0, 0, 0, 0, 0, 0, 0, 0, 0, 0, 0, 0, 0, 0, 0, 0, 0, 0, 0, 0, 0, 0, 0, 0, 0, 0, 0, 0, 0, 0, 0, 0, 0, 0, 0, 0, 0, 0, 0, 0, 0, 0, 0, 0, 0, 0, 0, 0, 0, 0, 0, 0, 0, 0, 0, 0, 0, 0, 0, 0, 0, 0, 0, 0, 0, 0, 0, 0, 0, 0, 0, 0]))).set 109 (.inl (0, 22, [0, 0, 0, 0, 0, 0, 0, 0, 0, 0, 0, 0]))), 0, 0) := zclosed (n := 404) (by decide +kernel)
set_option maxRecDepth 1000000 in
set_option maxHeartbeats 4000000 in
theorem zo_24_64 (xs : Nat → Int32) (h0 : xs 0 &&& 63 = 24) (h1 : (xs 1).toInt ≠ 0) (h3 : xs 3 = 1) (h2 : xs 2 = (-1)) : zDone xs := by
  refine ⟨(((((((zH0.set 37 (.inr (.inr (.inr (3, [.ref 44, .ref 6, .ref 76, .ref 78, .ref 80, .ref 88, .int 1, .int 0, .ref 96, .int 0, .int 0, .int 0, .ref 98, .ref 100, .int 0]))))).set 44 (.inr (.inr (.inr (6, [.int 1, .long 70644700037184, .int 0, .ref 90, .ref 92, .ref 94]))))).set 47 (.inr (.inl (16, [70644700037184])))).set 106 (.inl (2, 2, [0, 1]))).set 105 (.inl (0, 2, [0, 0]))).set 107 (.inl (0, 132, [0, 0, 0, 0, 0, 0, 0, 0, 0, 0, 0, 0, 0, 0, 0, 0, 0, 0, 0, 0, 0, 0, 0, 0, 0, 0, 0, 0, 0, 0, 0, 0, 0, 0, 0, 0, 0, 0, 0, 0, 0, 0, 0, 0, 0, 0, 0, 0, 0, 0, 0, 0, 0, 0, 0, 0, 0, 0, 0, 0, 0, 0, 0, 0, 0, 0, 0, 0, 0, 0, 0, 0]))).set 109 (.inl (0, 22, [0, 0, 0, 0, 0, 0, 0, 0, 0, 0, 0, 0]))), 117, 29934, ?_, by decide, by decide⟩
  refine zT_gos (f := 200000) (pc2 := 37) (ls2 := [(4, .int 0), (3, .ref 232), (2, .ref 162), (1, .ref 0), (0, .ref 11)]) (st2 := [.int (xs 0)]) (h2 := zH0) (dc2 := 117) (ds2 := 29934) 9 rfl ?_
  refine zT_gos (f := 200000) (pc2 := 40) (ls2 := [(4, .int 0), (3, .ref 232), (2, .ref 162), (1, .ref 0), (0, .ref 11)]) (st2 := [.int ((xs 0) &&& (63 : Int32))]) (h2 := zH0) (dc2 := 117) (ds2 := 29934) 2 rfl ?_
  refine zT_val h0 ?_
  refine zT_gos (f := 200000) (pc2 := 1104) (ls2 := [(4, .int 0), (3, .ref 232), (2, .ref 162), (1, .ref 0), (0, .ref 11)]) (st2 := [.int (xs 1), .ref 0]) (h2 := zH0) (dc2 := 117) (ds2 := 29934) 7 rfl ?_
  refine zT_if0 false rfl (zc_eq_f (by show ((xs 1) : Int32).toInt ≠ 0; omega)) ?_
  refine zT_here (pc2 := 1107) rfl ?_
  refine zT_gos (f := 200000) (pc2 := 1118) (ls2 := [(4, .int 0), (3, .ref 232), (2, .ref 162), (1, .ref 0), (0, .ref 11)]) (st2 := [.int (xs 2), .int 1, .ref 0]) (h2 := zH0) (dc2 := 117) (ds2 := 29934) 7 rfl ?_
  refine zT_val h2 ?_
  refine zT_gos (f := 200000) (pc2 := 1124) (ls2 := [(4, .int 0), (3, .ref 232), (2, .ref 162), (1, .ref 0), (0, .ref 11)]) (st2 := [.int (xs 3), .int (-1), .int 1, .ref 0]) (h2 := zH0) (dc2 := 117) (ds2 := 29934) 5 rfl ?_
  refine zT_val h3 ?_
  refine zT_call rfl rfl (zT_le (zg0_le 6 xs) zk_o_213) ?_
  refine zT_here (pc2 := 1127) rfl ?_
  refine zT_gos (f := 200000) (pc2 := 1134) (ls2 := [(4, .int 0), (3, .ref 232), (2, .ref 162), (1, .ref 0), (0, .ref 11)]) (st2 := [.int (xs 1), .ref 162, .int 0]) (h2 := (((zH0.set 37 (.inr (.inr (.inr (3, [.ref 44, .ref 6, .ref 76, .ref 78, .ref 80, .ref 88, .int 1, .int 0, .ref 96, .int 0, .int 0, .int 0, .ref 98, .ref 100, .int 0]))))).set 44 (.inr (.inr (.inr (6, [.int 1, .long 70644700037184, .int 0, .ref 90, .ref 92, .ref 94]))))).set 47 (.inr (.inl (16, [70644700037184]))))) (dc2 := 117) (ds2 := 29934) 6 rfl ?_
  refine zT_if0 false rfl (zc_eq_f (by show ((xs 1) : Int32).toInt ≠ 0; omega)) ?_
  refine zT_here (pc2 := 1137) rfl ?_
  refine zT_gos (f := 200000) (pc2 := 1148) (ls2 := [(4, .int 0), (3, .ref 232), (2, .ref 162), (1, .ref 0), (0, .ref 11)]) (st2 := [.int (xs 2), .int 1, .ref 162, .int 0]) (h2 := (((zH0.set 37 (.inr (.inr (.inr (3, [.ref 44, .ref 6, .ref 76, .ref 78, .ref 80, .ref 88, .int 1, .int 0, .ref 96, .int 0, .int 0, .int 0, .ref 98, .ref 100, .int 0]))))).set 44 (.inr (.inr (.inr (6, [.int 1, .long 70644700037184, .int 0, .ref 90, .ref 92, .ref 94]))))).set 47 (.inr (.inl (16, [70644700037184]))))) (dc2 := 117) (ds2 := 29934) 7 rfl ?_
  refine zT_val h2 ?_
  refine zT_gos (f := 200000) (pc2 := 1154) (ls2 := [(4, .int 0), (3, .ref 232), (2, .ref 162), (1, .ref 0), (0, .ref 11)]) (st2 := [.int (xs 3), .int (-1), .int 1, .ref 162, .int 0]) (h2 := (((zH0.set 37 (.inr (.inr (.inr (3, [.ref 44, .ref 6, .ref 76, .ref 78, .ref 80, .ref 88, .int 1, .int 0, .ref 96, .int 0, .int 0, .int 0, .ref 98, .ref 100, .int 0]))))).set 44 (.inr (.inr (.inr (6, [.int 1, .long 70644700037184, .int 0, .ref 90, .ref 92, .ref 94]))))).set 47 (.inr (.inl (16, [70644700037184]))))) (dc2 := 117) (ds2 := 29934) 5 rfl ?_
  refine zT_val h3 ?_
  refine zT_call rfl rfl (zT_le (zg0_le 6 xs) zk_o_214) ?_
  refine zT_here (pc2 := 1157) rfl ?_
  refine zT_gos (f := 200000) (pc2 := 1811) (ls2 := [(4, .int 6), (3, .ref 232), (2, .ref 162), (1, .ref 0), (0, .ref 11)]) (st2 := [.int 1]) (h2 := (((((((zH0.set 37 (.inr (.inr (.inr (3, [.ref 44, .ref 6, .ref 76, .ref 78, .ref 80, .ref 88, .int 1, .int 0, .ref 96, .int 0, .int 0, .int 0, .ref 98, .ref 100, .int 0]))))).set 44 (.inr (.inr (.inr (6, [.int 1, .long 70644700037184, .int 0, .ref 90, .ref 92, .ref 94]))))).set 47 (.inr (.inl (16, [70644700037184])))).set 106 (.inl (2, 2, [0, 1]))).set 105 (.inl (0, 2, [0, 0]))).set 107 (.inl (0, 132, [0, 0, 0, 0, 0, 0, 0, 0, 0, 0, 0, 0, 0, 0, 0, 0, 0, 0, 0, 0, 0, 0, 0, 0, 0, 0, 0, 0, 0, 0, 0, 0, 0, 0, 0, 0, 0, 0, 0, 0, 0, 0, 0, 0, 0, 0, 0, 0, 0, 0, 0, 0, 0, 0, 0, 0, 0, 0, 0, 0, 0, 0, 0, 0, 0, 0, 0, 0, 0, 0, 0, 0]))).set 109 (.inl (0, 22, [0, 0, 0, 0, 0, 0, 0, 0, 0, 0, 0, 0])))) (dc2 := 117) (ds2 := 29934) 10 rfl ?_
  exact zT_ret rfl rfl
set_option maxRecDepth 1000000 in
theorem zk_o_215 : zT zg0 zF zP 125 0 [(0, .ref 0), (1, .int 1), (2, .int 0), (3, .int 1)] [] zH0 0 0 (some (.int 0), (((zH0.set 37 (.inr (.inr (.inr (3, [.ref 44, .ref 6, .ref 76, .ref 78, .ref 80, .ref 88, .int 1, .int 0, .ref 96, .int 0, .int 0, .int 0, .ref 98, .ref 100, .int 0]))))).set 44 (.inr (.inr (.inr (6, [.int 1, .long 70644700037184, .int 0, .ref 90, .ref 92, .ref 94]))))).set 47 (.inr (.inl (16, [70644700037184])))), 0, 0) := zclosed (n := 350) (by decide +kernel)
set_option maxRecDepth 1000000 in
theorem zk_o_216 : zT zg0 zF zP 256 0 [(0, .ref 162), (1, .int 1), (2, .int 0), (3, .int 1)] [] (((zH0.set 37 (.inr (.inr (.inr (3, [.ref 44, .ref 6, .ref 76, .ref 78, .ref 80, .ref 88, .int 1, .int 0, .ref 96, .int 0, .int 0, .int 0, .ref 98, .ref 100, .int 0]))))).set 44 (.inr (.inr (.inr (6, [.int 1, .long 70644700037184, .int 0, .ref 90, .ref 92, .ref 94]))))).set 47 (.inr (.inl (16, [70644700037184])))) 0 0 (some (.int 0), (((((((zH0.set 37 (.inr (.inr (.inr (3, [.ref 44, .ref 6, .ref 76, .ref 78, .ref 80, .ref 88, .int 1, .int 0, .ref 96, .int 0, .int 0, .int 0, .ref 98, .ref 100, .int 0]))))).set 44 (.inr (.inr (.inr (6, [.int 1, .long 70644700037184, .int 0, .ref 90, .ref 92, .ref 94]))))).set 47 (.inr (.inl (16, [70644700037184])))).set 106 (.inl (2, 2, [0, 1]))).set 105 (.inl (0, 2, [0, 0]))).set 107 (.inl (0, 132, [0, 0, 0, 0, 0, 0, 0, 0, 0, 0, 0, 0, 0, 0, 0, 0, 0, 0, 0, 0, 0, 0, 0, 0, 0, 0, 0, 0, 0, 0, 0, 0, 0, 0, 0, 0, 0, 0, 0, 0, 0, 0, 0, 0, 0, 0, 0, 0, 0, 0, 0, 0, 0, 0, 0, 0, 0, 0, 0, 0, 0, 0, 0, 0, 0, 0, 0, 0, 0, 0, 0, 0]))).set 109 (.inl (0, 22, [0, 0, 0, 0, 0, 0, 0, 0, 0, 0, 0, 0]))), 0, 0) := zclosed (n := 428) (by decide +kernel)
set_option maxRecDepth 1000000 in
set_option maxHeartbeats 4000000 in
theorem zo_24_65 (xs : Nat → Int32) (h0 : xs 0 &&& 63 = 24) (h1 : (xs 1).toInt ≠ 0) (h3 : xs 3 = 1) (h2 : xs 2 = 0) : zDone xs := by
  refine ⟨(((((((zH0.set 37 (.inr (.inr (.inr (3, [.ref 44, .ref 6, .ref 76, .ref 78, .ref 80, .ref 88, .int 1, .int 0, .ref 96, .int 0, .int 0, .int 0, .ref 98, .ref 100, .int 0]))))).set 44 (.inr (.inr (.inr (6, [.int 1, .long 70644700037184, .int 0, .ref 90, .ref 92, .ref 94]))))).set 47 (.inr (.inl (16, [70644700037184])))).set 106 (.inl (2, 2, [0, 1]))).set 105 (.inl (0, 2, [0, 0]))).set 107 (.inl (0, 132, [0, 0, 0, 0, 0, 0, 0, 0, 0, 0, 0, 0, 0, 0, 0, 0, 0, 0, 0, 0, 0, 0, 0, 0, 0, 0, 0, 0, 0, 0, 0, 0, 0, 0, 0, 0, 0, 0, 0, 0, 0, 0, 0, 0, 0, 0, 0, 0, 0, 0, 0, 0, 0, 0, 0, 0, 0, 0, 0, 0, 0, 0, 0, 0, 0, 0, 0, 0, 0, 0, 0, 0]))).set 109 (.inl (0, 22, [0, 0, 0, 0, 0, 0, 0, 0, 0, 0, 0, 0]))), 117, 29934, ?_, by decide, by decide⟩
  refine zT_gos (f := 200000) (pc2 := 37) (ls2 := [(4, .int 0), (3, .ref 232), (2, .ref 162), (1, .ref 0), (0, .ref 11)]) (st2 := [.int (xs 0)]) (h2 := zH0) (dc2 := 117) (ds2 := 29934) 9 rfl ?_
  refine zT_gos (f := 200000) (pc2 := 40) (ls2 := [(4, .int 0), (3, .ref 232), (2, .ref 162), (1, .ref 0), (0, .ref 11)]) (st2 := [.int ((xs 0) &&& (63 : Int32))]) (h2 := zH0) (dc2 := 117) (ds2 := 29934) 2 rfl ?_
  refine zT_val h0 ?_
  refine zT_gos (f := 200000) (pc2 := 1104) (ls2 := [(4, .int 0), (3, .ref 232), (2, .ref 162), (1, .ref 0), (0, .ref 11)]) (st2 := [.int (xs 1), .ref 0]) (h2 := zH0) (dc2 := 117) (ds2 := 29934) 7 rfl ?_
  refine zT_if0 false rfl (zc_eq_f (by show ((xs 1) : Int32).toInt ≠ 0; omega)) ?_
  refine zT_here (pc2 := 1107) rfl ?_
  refine zT_gos (f := 200000) (pc2 := 1118) (ls2 := [(4, .int 0), (3, .ref 232), (2, .ref 162), (1, .ref 0), (0, .ref 11)]) (st2 := [.int (xs 2), .int 1, .ref 0]) (h2 := zH0) (dc2 := 117) (ds2 := 29934) 7 rfl ?_
  refine zT_val h2 ?_
  refine zT_gos (f := 200000) (pc2 := 1124) (ls2 := [(4, .int 0), (3, .ref 232), (2, .ref 162), (1, .ref 0), (0, .ref 11)]) (st2 := [.int (xs 3), .int 0, .int 1, .ref 0]) (h2 := zH0) (dc2 := 117) (ds2 := 29934) 5 rfl ?_
  refine zT_val h3 ?_
  refine zT_call rfl rfl (zT_le (zg0_le 6 xs) zk_o_215) ?_
  refine zT_here (pc2 := 1127) rfl ?_
  refine zT_gos (f := 200000) (pc2 := 1134) (ls2 := [(4, .int 0), (3, .ref 232), (2, .ref 162), (1, .ref 0), (0, .ref 11)]) (st2 := [.int (xs 1), .ref 162, .int 0]) (h2 := (((zH0.set 37 (.inr (.inr (.inr (3, [.ref 44, .ref 6, .ref 76, .ref 78, .ref 80, .ref 88, .int 1, .int 0, .ref 96, .int 0, .int 0, .int 0, .ref 98, .ref 100, .int 0]))))).set 44 (.inr (.inr (.inr (6, [.int 1, .long 70644700037184, .int 0, .ref 90, .ref 92, .ref 94]))))).set 47 (.inr (.inl (16, [70644700037184]))))) (dc2 := 117) (ds2 := 29934) 6 rfl ?_
  refine zT_if0 false rfl (zc_eq_f (by show ((xs 1) : Int32).toInt ≠ 0; omega)) ?_
  refine zT_here (pc2 := 1137) rfl ?_
  refine zT_gos (f := 200000) (pc2 := 1148) (ls2 := [(4, .int 0), (3, .ref 232), (2, .ref 162), (1, .ref 0), (0, .ref 11)]) (st2 := [.int (xs 2), .int 1, .ref 162, .int 0]) (h2 := (((zH0.set 37 (.inr (.inr (.inr (3, [.ref 44, .ref 6, .ref 76, .ref 78, .ref 80, .ref 88, .int 1, .int 0, .ref 96, .int 0, .int 0, .int 0, .ref 98, .ref 100, .int 0]))))).set 44 (.inr (.inr (.inr (6, [.int 1, .long 70644700037184, .int 0, .ref 90, .ref 92, .ref 94]))))).set 47 (.inr (.inl (16, [70644700037184]))))) (dc2 := 117) (ds2 := 29934) 7 rfl ?_
  refine zT_val h2 ?_
  refine zT_gos (f := 200000) (pc2 := 1154) (ls2 := [(4, .int 0), (3, .ref 232), (2, .ref 162), (1, .ref 0), (0, .ref 11)]) (st2 := [.int (xs 3), .int 0, .int 1, .ref 162, .int 0]) (h2 := (((zH0.set 37 (.inr (.inr (.inr (3, [.ref 44, .ref 6, .ref 76, .ref 78, .ref 80, .ref 88, .int 1, .int 0, .ref 96, .int 0, .int 0, .int 0, .ref 98, .ref 100, .int 0]))))).set 44 (.inr (.inr (.inr (6, [.int 1, .long 70644700037184, .int 0, .ref 90, .ref 92, .ref 94]))))).set 47 (.inr (.inl (16, [70644700037184]))))) (dc2 := 117) (ds2 := 29934) 5 rfl ?_
  refine zT_val h3 ?_
  refine zT_call rfl rfl (zT_le (zg0_le 6 xs) zk_o_216) ?_
  refine zT_here (pc2 := 1157) rfl ?_
  refine zT_gos (f := 200000) (pc2 := 1811) (ls2 := [(4, .int 6), (3, .ref 232), (2, .ref 162), (1, .ref 0), (0, .ref 11)]) (st2 := [.int 1]) (h2 := (((((((zH0.set 37 (.inr (.inr (.inr (3, [.ref 44, .ref 6, .ref 76, .ref 78, .ref 80, .ref 88, .int 1, .int 0, .ref 96, .int 0, .int 0, .int 0, .ref 98, .ref 100, .int 0]))))).set 44 (.inr (.inr (.inr (6, [.int 1, .long 70644700037184, .int 0, .ref 90, .ref 92, .ref 94]))))).set 47 (.inr (.inl (16, [70644700037184])))).set 106 (.inl (2, 2, [0, 1]))).set 105 (.inl (0, 2, [0, 0]))).set 107 (.inl (0, 132, [0, 0, 0, 0, 0, 0, 0, 0, 0, 0, 0, 0, 0, 0, 0, 0, 0, 0, 0, 0, 0, 0, 0, 0, 0, 0, 0, 0, 0, 0, 0, 0, 0, 0, 0, 0, 0, 0, 0, 0, 0, 0, 0, 0, 0, 0, 0, 0, 0, 0, 0, 0, 0, 0, 0, 0, 0, 0, 0, 0, 0, 0, 0, 0, 0, 0, 0, 0, 0, 0, 0, 0]))).set 109 (.inl (0, 22, [0, 0, 0, 0, 0, 0, 0, 0, 0, 0, 0, 0])))) (dc2 := 117) (ds2 := 29934) 10 rfl ?_
  exact zT_ret rfl rfl
set_option maxRecDepth 1000000 in
theorem zk_o_217 : zT zg0 zF zP 125 0 [(0, .ref 0), (1, .int 1), (2, .int 1), (3, .int 1)] [] zH0 0 0 (some (.int 0), (((zH0.set 37 (.inr (.inr (.inr (3, [.ref 44, .ref 6, .ref 76, .ref 78, .ref 80, .ref 88, .int 1, .int 0, .ref 96, .int 0, .int 0, .int 0, .ref 98, .ref 100, .int 0]))))).set 44 (.inr (.inr (.inr (6, [.int 1, .long 70644700037184, .int 0, .ref 90, .ref 92, .ref 94]))))).set 47 (.inr (.inl (16, [70644700037184])))), 0, 0) := zclosed (n := 355) (by decide +kernel)
set_option maxRecDepth 1000000 in
theorem zk_o_218 : zT zg0 zF zP 256 0 [(0, .ref 162), (1, .int 1), (2, .int 1), (3, .int 1)] [] (((zH0.set 37 (.inr (.inr (.inr (3, [.ref 44, .ref 6, .ref 76, .ref 78, .ref 80, .ref 88, .int 1, .int 0, .ref 96, .int 0, .int 0, .int 0, .ref 98, .ref 100, .int 0]))))).set 44 (.inr (.inr (.inr (6, [.int 1, .long 70644700037184, .int 0, .ref 90, .ref 92, .ref 94]))))).set 47 (.inr (.inl (16, [70644700037184])))) 0 0 (some (.int 0), (((((((zH0.set 37 (.inr (.inr (.inr (3, [.ref 44, .ref 6, .ref 76, .ref 78, .ref 80, .ref 88, .int 1, .int 0, .ref 96, .int 0, .int 0, .int 0, .ref 98, .ref 100, .int 0]))))).set 44 (.inr (.inr (.inr (6, [.int 1, .long 70644700037184, .int 0, .ref 90, .ref 92, .ref 94]))))).set 47 (.inr (.inl (16, [70644700037184])))).set 106 (.inl (2, 2, [0, 1]))).set 105 (.inl (0, 2, [0, 0]))).set 107 (.inl (0, 132, [0, 0, 0, 0, 0, 0, 0, 0, 0, 0, 0, 0, 0, 0, 0, 0, 0, 0, 0, 0, 0, 0, 0, 0, 0, 0, 0, 0, 0, 0, 0, 0, 0, 0, 0, 0, 0, 0, 0, 0, 0, 0, 0, 0, 0, 0, 0, 0, 0, 0, 0, 0, 0, 0, 0, 0, 0, 0, 0, 0, 0, 0, 0, 0, 0, 0, 0, 0, 0, 0, 0, 0]))).set 109 (.inl (0, 22, [0, 0, 0, 0, 0, 0, 0, 0, 0, 0, 0, 0]))), 0, 0) := zclosed (n := 452) (by decide +kernel)
set_option maxRecDepth 1000000 in
set_option maxHeartbeats 4000000 in
theorem zo_24_66 (xs : Nat → Int32) (h0 : xs 0 &&& 63 = 24) (h1 : (xs 1).toInt ≠ 0) (h3 : xs 3 = 1) (h2 : xs 2 = 1) : zDone xs := by
  refine ⟨(((((((zH0.set 37 (.inr (.inr (.inr (3, [.ref 44, .ref 6, .ref 76, .ref 78, .ref 80, .ref 88, .int 1, .int 0, .ref 96, .int 0, .int 0, .int 0, .ref 98, .ref 100, .int 0]))))).set 44 (.inr (.inr (.inr (6, [.int 1, .long 70644700037184, .int 0, .ref 90, .ref 92, .ref 94]))))).set 47 (.inr (.inl (16, [70644700037184])))).set 106 (.inl (2, 2, [0, 1]))).set 105 (.inl (0, 2, [0, 0]))).set 107 (.inl (0, 132, [0, 0, 0, 0, 0, 0, 0, 0, 0, 0, 0, 0, 0, 0, 0, 0, 0, 0, 0, 0, 0, 0, 0, 0, 0, 0, 0, 0, 0, 0, 0, 0, 0, 0, 0, 0, 0, 0, 0, 0, 0, 0, 0, 0, 0, 0, 0, 0, 0, 0, 0, 0, 0, 0, 0, 0, 0, 0, 0, 0, 0, 0, 0, 0, 0, 0, 0, 0, 0, 0, 0, 0]))).set 109 (.inl (0, 22, [0, 0, 0, 0, 0, 0, 0, 0, 0, 0, 0, 0]))), 117, 29934, ?_, by decide, by decide⟩
  refine zT_gos (f := 200000) (pc2 := 37) (ls2 := [(4, .int 0), (3, .ref 232), (2, .ref 162), (1, .ref 0), (0, .ref 11)]) (st2 := [.int (xs 0)]) (h2 := zH0) (dc2 := 117) (ds2 := 29934) 9 rfl ?_
  refine zT_gos (f := 200000) (pc2 := 40) (ls2 := [(4, .int 0), (3, .ref 232), (2, .ref 162), (1, .ref 0), (0, .ref 11)]) (st2 := [.int ((xs 0) &&& (63 : Int32))]) (h2 := zH0) (dc2 := 117) (ds2 := 29934) 2 rfl ?_
  refine zT_val h0 ?_
  refine zT_gos (f := 200000) (pc2 := 1104) (ls2 := [(4, .int 0), (3, .ref 232), (2, .ref 162), (1, .ref 0), (0, .ref 11)]) (st2 := [.int (xs 1), .ref 0]) (h2 := zH0) (dc2 := 117) (ds2 := 29934) 7 rfl ?_
  refine zT_if0 false rfl (zc_eq_f (by show ((xs 1) : Int32).toInt ≠ 0; omega)) ?_
  refine zT_here (pc2 := 1107) rfl ?_
  refine zT_gos (f := 200000) (pc2 := 1118) (ls2 := [(4, .int 0), (3, .ref 232), (2, .ref 162), (1, .ref 0), (0, .ref 11)]) (st2 := [.int (xs 2), .int 1, .ref 0]) (h2 := zH0) (dc2 := 117) (ds2 := 29934) 7 rfl ?_
  refine zT_val h2 ?_
  refine zT_gos (f := 200000) (pc2 := 1124) (ls2 := [(4, .int 0), (3, .ref 232), (2, .ref 162), (1, .ref 0), (0, .ref 11)]) (st2 := [.int (xs 3), .int 1, .int 1, .ref 0]) (h2 := zH0) (dc2 := 117) (ds2 := 29934) 5 rfl ?_
  refine zT_val h3 ?_
  refine zT_call rfl rfl (zT_le (zg0_le 6 xs) zk_o_217) ?_
  refine zT_here (pc2 := 1127) rfl ?_
  refine zT_gos (f := 200000) (pc2 := 1134) (ls2 := [(4, .int 0), (3, .ref 232), (2, .ref 162), (1, .ref 0), (0, .ref 11)]) (st2 := [.int (xs 1), .ref 162, .int 0]) (h2 := (((zH0.set 37 (.inr (.inr (.inr (3, [.ref 44, .ref 6, .ref 76, .ref 78, .ref 80, .ref 88, .int 1, .int 0, .ref 96, .int 0, .int 0, .int 0, .ref 98, .ref 100, .int 0]))))).set 44 (.inr (.inr (.inr (6, [.int 1, .long 70644700037184, .int 0, .ref 90, .ref 92, .ref 94]))))).set 47 (.inr (.inl (16, [70644700037184]))))) (dc2 := 117) (ds2 := 29934) 6 rfl ?_
  refine zT_if0 false rfl (zc_eq_f (by show ((xs 1) : Int32).toInt ≠ 0; omega)) ?_
  refine zT_here (pc2 := 1137) rfl ?_
  refine zT_gos (f := 200000) (pc2 := 1148) (ls2 := [(4, .int 0), (3, .ref 232), (2, .ref 162), (1, .ref 0), (0, .ref 11)]) (st2 := [.int (xs 2), .int 1, .ref 162, .int 0]) (h2 := (((zH0.set 37 (.inr (.inr (.inr (3, [.ref 44, .ref 6, .ref 76, .ref 78, .ref 80, .ref 88, .int 1, .int 0, .ref 96, .int 0, .int 0, .int 0, .ref 98, .ref 100, .int 0]))))).set 44 (.inr (.inr (.inr (6, [.int 1, .long 70644700037184, .int 0, .ref 90, .ref 92, .ref 94]))))).set 47 (.inr (.inl (16, [70644700037184]))))) (dc2 := 117) (ds2 := 29934) 7 rfl ?_
  refine zT_val h2 ?_
  refine zT_gos (f := 200000) (pc2 := 1154) (ls2 := [(4, .int 0), (3, .ref 232), (2, .ref 162), (1, .ref 0), (0, .ref 11)]) (st2 := [.int (xs 3), .int 1, .int 1, .ref 162, .int 0]) (h2 := (((zH0.set 37 (.inr (.inr (.inr (3, [.ref 44, .ref 6, .ref 76, .ref 78, .ref 80, .ref 88, .int 1, .int 0, .ref 96, .int 0, .int 0, .int 0, .ref 98, .ref 100, .int 0]))))).set 44 (.inr (.inr (.inr (6, [.int 1, .long 70644700037184, .int 0, .ref 90, .ref 92, .ref 94]))))).set 47 (.inr (.inl (16, [70644700037184]))))) (dc2 := 117) (ds2 := 29934) 5 rfl ?_
  refine zT_val h3 ?_
  refine zT_call rfl rfl (zT_le (zg0_le 6 xs) zk_o_218) ?_
  refine zT_here (pc2 := 1157) rfl ?_
  refine zT_gos (f := 200000) (pc2 := 1811) (ls2 := [(4, .int 6), (3, .ref 232), (2, .ref 162), (1, .ref 0), (0, .ref 11)]) (st2 := [.int 1]) (h2 := (((((((zH0.set 37 (.inr (.inr (.inr (3, [.ref 44, .ref 6, .ref 76, .ref 78, .ref 80, .ref 88, .int 1, .int 0, .ref 96, .int 0, .int 0, .int 0, .ref 98, .ref 100, .int 0]))))).set 44 (.inr (.inr (.inr (6, [.int 1, .long 70644700037184, .int 0, .ref 90, .ref 92, .ref 94]))))).set 47 (.inr (.inl (16, [70644700037184])))).set 106 (.inl (2, 2, [0, 1]))).set 105 (.inl (0, 2, [0, 0]))).set 107 (.inl (0, 132, [0, 0, 0, 0, 0, 0, 0, 0, 0, 0, 0, 0, 0, 0, 0, 0, 0, 0, 0, 0, 0, 0, 0, 0, 0, 0, 0, 0, 0, 0, 0, 0, 0, 0, 0, 0, 0, 0, 0, 0, 0, 0, 0, 0, 0, 0, 0, 0, 0, 0, 0, 0, 0, 0, 0, 0, 0, 0, 0, 0, 0, 0, 0, 0, 0, 0, 0, 0, 0, 0, 0, 0]))).set 109 (.inl (0, 22, [0, 0, 0, 0, 0, 0, 0, 0, 0, 0, 0, 0])))) (dc2 := 117) (ds2 := 29934) 10 rfl ?_
  exact zT_ret rfl rfl
set_option maxRecDepth 1000000 in
theorem zk_o_219 : zT zg0 zF zP 125 0 [(0, .ref 0), (1, .int 1), (2, .int 2), (3, .int 1)] [] zH0 0 0 (some (.int 0), (((zH0.set 37 (.inr (.inr (.inr (3, [.ref 44, .ref 6, .ref 76, .ref 78, .ref 80, .ref 88, .int 1, .int 0, .ref 96, .int 0, .int 0, .int 0, .ref 98, .ref 100, .int 0]))))).set 44 (.inr (.inr (.inr (6, [.int 1, .long 70644700037184, .int 0, .ref 90, .ref 92, .ref 94]))))).set 47 (.inr (.inl (16, [70644700037184])))), 0, 0) := zclosed (n := 360) (by decide +kernel)
set_option maxRecDepth 1000000 in
theorem zk_o_220 : zT zg0 zF zP 256 0 [(0, .ref 162), (1, .int 1), (2, .int 2), (3, .int 1)] [] (((zH0.set 37 (.inr (.inr (.inr (3, [.ref 44, .ref 6, .ref 76, .ref 78, .ref 80, .ref 88, .int 1, .int 0, .ref 96, .int 0, .int 0, .int 0, .ref 98, .ref 100, .int 0]))))).set 44 (.inr (.inr (.inr (6, [.int 1, .long 70644700037184, .int 0, .ref 90, .ref 92, .ref 94]))))).set 47 (.inr (.inl (16, [70644700037184])))) 0 0 (some (.int 0), (((((((zH0.set 37 (.inr (.inr (.inr (3, [.ref 44, .ref 6, .ref 76, .ref 78, .ref 80, .ref 88, .int 1, .int 0, .ref 96, .int 0, .int 0, .int 0, .ref 98, .ref 100, .int 0]))))).set 44 (.inr (.inr (.inr (6, [.int 1, .long 70644700037184, .int 0, .ref 90, .ref 92, .ref 94]))))).set 47 (.inr (.inl (16, [70644700037184])))).set 106 (.inl (2, 2, [0, 1]))).set 105 (.inl (0, 2, [0, 0]))).set 107 (.inl (0, 132, [0, 0, 0, 0, 0, 0, 0, 0, 0, 0, 0, 0, 0, 0, 0, 0, 0, 0, 0, 0, 0, 0, 0, 0, 0, 0, 0, 0, 0, 0, 0, 0, 0, 0, 0, 0, 0, 0, 0, 0, 0, 0, 0, 0, 0, 0, 0, 0, 0, 0, 0, 0, 0, 0, 0, 0, 0, 0, 0, 0, 0, 0, 0, 0, 0, 0, 0, 0, 0, 0, 0, 0]))).set 109 (.inl (0, 22, [0, 0, 0, 0, 0, 0, 0, 0, 0, 0, 0, 0]))), 0, 0) := zclosed (n := 476) (by decide +kernel)
set_option maxRecDepth 1000000 in
set_option maxHeartbeats 4000000 in
theorem zo_24_67 (xs : Nat → Int32) (h0 : xs 0 &&& 63 = 24) (h1 : (xs 1).toInt ≠ 0) (h3 : xs 3 = 1) (h2 : xs 2 = 2) : zDone xs := by
  refine ⟨(((((((zH0.set 37 (.inr (.inr (.inr (3, [.ref 44, .ref 6, .ref 76, .ref 78, .ref 80, .ref 88, .int 1, .int 0, .ref 96, .int 0, .int 0, .int 0, .ref 98, .ref 100, .int 0]))))).set 44 (.inr (.inr (.inr (6, [.int 1, .long 70644700037184, .int 0, .ref 90, .ref 92, .ref 94]))))).set 47 (.inr (.inl (16, [70644700037184])))).set 106 (.inl (2, 2, [0, 1]))).set 105 (.inl (0, 2, [0, 0]))).set 107 (.inl (0, 132, [0, 0, 0, 0, 0, 0, 0, 0, 0, 0, 0, 0, 0, 0, 0, 0, 0, 0, 0, 0, 0, 0, 0, 0, 0, 0, 0, 0, 0, 0, 0, 0, 0, 0, 0, 0, 0, 0, 0, 0, 0, 0, 0, 0, 0, 0, 0, 0, 0, 0, 0, 0, 0, 0, 0, 0, 0, 0, 0, 0, 0, 0, 0, 0, 0, 0, 0, 0, 0, 0, 0, 0]))).set 109 (.inl (0, 22, [0, 0, 0, 0, 0, 0, 0, 0, 0, 0, 0, 0]))), 117, 29934, ?_, by decide, by decide⟩
  refine zT_gos (f := 200000) (pc2 := 37) (ls2 := [(4, .int 0), (3, .ref 232), (2, .ref 162), (1, .ref 0), (0, .ref 11)]) (st2 := [.int (xs 0)]) (h2 := zH0) (dc2 := 117) (ds2 := 29934) 9 rfl ?_
  refine zT_gos (f := 200000) (pc2 := 40) (ls2 := [(4, .int 0), (3, .ref 232), (2, .ref 162), (1, .ref 0), (0, .ref 11)]) (st2 := [.int ((xs 0) &&& (63 : Int32))]) (h2 := zH0) (dc2 := 117) (ds2 := 29934) 2 rfl ?_
  refine zT_val h0 ?_
  refine zT_gos (f := 200000) (pc2 := 1104) (ls2 := [(4, .int 0), (3, .ref 232), (2, .ref 162), (1, .ref 0), (0, .ref 11)]) (st2 := [.int (xs 1), .ref 0]) (h2 := zH0) (dc2 := 117) (ds2 := 29934) 7 rfl ?_
  refine zT_if0 false rfl (zc_eq_f (by show ((xs 1) : Int32).toInt ≠ 0; omega)) ?_
  refine zT_here (pc2 := 1107) rfl ?_
  refine zT_gos (f := 200000) (pc2 := 1118) (ls2 := [(4, .int 0), (3, .ref 232), (2, .ref 162), (1, .ref 0), (0, .ref 11)]) (st2 := [.int (xs 2), .int 1, .ref 0]) (h2 := zH0) (dc2 := 117) (ds2 := 29934) 7 rfl ?_
  refine zT_val h2 ?_
  refine zT_gos (f := 200000) (pc2 := 1124) (ls2 := [(4, .int 0), (3, .ref 232), (2, .ref 162), (1, .ref 0), (0, .ref 11)]) (st2 := [.int (xs 3), .int 2, .int 1, .ref 0]) (h2 := zH0) (dc2 := 117) (ds2 := 29934) 5 rfl ?_
  refine zT_val h3 ?_
  refine zT_call rfl rfl (zT_le (zg0_le 6 xs) zk_o_219) ?_
  refine zT_here (pc2 := 1127) rfl ?_
  refine zT_gos (f := 200000) (pc2 := 1134) (ls2 := [(4, .int 0), (3, .ref 232), (2, .ref 162), (1, .ref 0), (0, .ref 11)]) (st2 := [.int (xs 1), .ref 162, .int 0]) (h2 := (((zH0.set 37 (.inr (.inr (.inr (3, [.ref 44, .ref 6, .ref 76, .ref 78, .ref 80, .ref 88, .int 1, .int 0, .ref 96, .int 0, .int 0, .int 0, .ref 98, .ref 100, .int 0]))))).set 44 (.inr (.inr (.inr (6, [.int 1, .long 70644700037184, .int 0, .ref 90, .ref 92, .ref 94]))))).set 47 (.inr (.inl (16, [70644700037184]))))) (dc2 := 117) (ds2 := 29934) 6 rfl ?_
  refine zT_if0 false rfl (zc_eq_f (by show ((xs 1) : Int32).toInt ≠ 0; omega)) ?_
  refine zT_here (pc2 := 1137) rfl ?_
  refine zT_gos (f := 200000) (pc2 := 1148) (ls2 := [(4, .int 0), (3, .ref 232), (2, .ref 162), (1, .ref 0), (0, .ref 11)]) (st2 := [.int (xs 2), .int 1, .ref 162, .int 0]) (h2 := (((zH0.set 37 (.inr (.inr (.inr (3, [.ref 44, .ref 6, .ref 76, .ref 78, .ref 80, .ref 88, .int 1, .int 0, .ref 96, .int 0, .int 0, .int 0, .ref 98, .ref 100, .int 0]))))).set 44 (.inr (.inr (.inr (6, [.int 1, .long 70644700037184, .int 0, .ref 90, .ref 92, .ref 94]))))).set 47 (.inr (.inl (16, [70644700037184]))))) (dc2 := 117) (ds2 := 29934) 7 rfl ?_
  refine zT_val h2 ?_
  refine zT_gos (f := 200000) (pc2 := 1154) (ls2 := [(4, .int 0), (3, .ref 232), (2, .ref 162), (1, .ref 0), (0, .ref 11)]) (st2 := [.int (xs 3), .int 2, .int 1, .ref 162, .int 0]) (h2 := (((zH0.set 37 (.inr (.inr (.inr (3, [.ref 44, .ref 6, .ref 76, .ref 78, .ref 80, .ref 88, .int 1, .int 0, .ref 96, .int 0, .int 0, .int 0, .ref 98, .ref 100, .int 0]))))).set 44 (.inr (.inr (.inr (6, [.int 1, .long 70644700037184, .int 0, .ref 90, .ref 92, .ref 94]))))).set 47 (.inr (.inl (16, [70644700037184]))))) (dc2 := 117) (ds2 := 29934) 5 rfl ?_
  refine zT_val h3 ?_
  refine zT_call rfl rfl (zT_le (zg0_le 6 xs) zk_o_220) ?_
  refine zT_here (pc2 := 1157) rfl ?_
  refine zT_gos (f := 200000) (pc2 := 1811) (ls2 := [(4, .int 6), (3, .ref 232), (2, .ref 162), (1, .ref 0), (0, .ref 11)]) (st2 := [.int 1]) (h2 := (((((((zH0.set 37 (.inr (.inr (.inr (3, [.ref 44, .ref 6, .ref 76, .ref 78, .ref 80, .ref 88, .int 1, .int 0, .ref 96, .int 0, .int 0, .int 0, .ref 98, .ref 100, .int 0]))))).set 44 (.inr (.inr (.inr (6, [.int 1, .long 70644700037184, .int 0, .ref 90, .ref 92, .ref 94]))))).set 47 (.inr (.inl (16, [70644700037184])))).set 106 (.inl (2, 2, [0, 1]))).set 105 (.inl (0, 2, [0, 0]))).set 107 (.inl (0, 132, [0, 0, 0, 0, 0, 0, 0, 0, 0, 0, 0, 0, 0, 0, 0, 0, 0, 0, 0, 0, 0, 0, 0, 0, 0, 0, 0, 0, 0, 0, 0, 0, 0, 0, 0, 0, 0, 0, 0, 0, 0, 0, 0, 0, 0, 0, 0, 0, 0, 0, 0, 0, 0, 0, 0, 0, 0, 0, 0, 0, 0, 0, 0, 0, 0, 0, 0, 0, 0, 0, 0, 0]))).set 109 (.inl (0, 22, [0, 0, 0, 0, 0, 0, 0, 0, 0, 0, 0, 0])))) (dc2 := 117) (ds2 := 29934) 10 rfl ?_
  exact zT_ret rfl rfl
set_option maxRecDepth 1000000 in
set_option maxHeartbeats 4000000 in
theorem zo_24_68 (xs : Nat → Int32) (h0 : xs 0 &&& 63 = 24) (h1 : (xs 1).toInt ≠ 0) (h3 : xs 3 = 2) (h2 : (xs 2).toInt < -2) : zDone xs := by
  refine ⟨(((((((zH0.set 37 (.inr (.inr (.inr (3, [.ref 44, .ref 6, .ref 76, .ref 78, .ref 80, .ref 88, .int 1, .int 0, .ref 96, .int 0, .int 0, .int 0, .ref 98, .ref 100, .int 0]))))).set 44 (.inr (.inr (.inr (6, [.int 1, .long 70644700037184, .int 0, .ref 90, .ref 92, .ref 94]))))).set 47 (.inr (.inl (16, [70644700037184])))).set 106 (.inl (2, 2, [0, 1]))).set 105 (.inl (0, 2, [0, 0]))).set 107 (.inl (0, 132, [0, 0, 0, 0, 0, 0, 0, 0, 0, 0, 0, 0, 0, 0, 0, 0, 0, 0, 0, 0, 0, 0, 0, 0, 0, 0, 0, 0, 0, 0, 0, 0, 0, 0, 0, 0, 0, 0, 0, 0, 0, 0, 0, 0, 0, 0, 0, 0, 0, 0, 0, 0, 0, 0, 0, 0, 0, 0, 0, 0, 0, 0, 0, 0, 0, 0, 0, 0, 0, 0, 0, 0]))).set 109 (.inl (0, 22, [0, 0, 0, 0, 0, 0, 0, 0, 0, 0, 0, 0]))), 117, 29934, ?_, by decide, by decide⟩
  refine zT_gos (f := 200000) (pc2 := 37) (ls2 := [(4, .int 0), (3, .ref 232), (2, .ref 162), (1, .ref 0), (0, .ref 11)]) (st2 := [.int (xs 0)]) (h2 := zH0) (dc2 := 117) (ds2 := 29934) 9 rfl ?_
  refine zT_gos (f := 200000) (pc2 := 40) (ls2 := [(4, .int 0), (3, .ref 232), (2, .ref 162), (1, .ref 0), (0, .ref 11)]) (st2 := [.int ((xs 0) &&& (63 : Int32))]) (h2 := zH0) (dc2 := 117) (ds2 := 29934) 2 rfl ?_
  refine zT_val h0 ?_
  refine zT_gos (f := 200000) (pc2 := 1104) (ls2 := [(4, .int 0), (3, .ref 232), (2, .ref 162), (1, .ref 0), (0, .ref 11)]) (st2 := [.int (xs 1), .ref 0]) (h2 := zH0) (dc2 := 117) (ds2 := 29934) 7 rfl ?_
  refine zT_if0 false rfl (zc_eq_f (by show ((xs 1) : Int32).toInt ≠ 0; omega)) ?_
  refine zT_here (pc2 := 1107) rfl ?_
  refine zT_gos (f := 200000) (pc2 := 1118) (ls2 := [(4, .int 0), (3, .ref 232), (2, .ref 162), (1, .ref 0), (0, .ref 11)]) (st2 := [.int (xs 2), .int 1, .ref 0]) (h2 := zH0) (dc2 := 117) (ds2 := 29934) 7 rfl ?_
  refine zT_gos (f := 200000) (pc2 := 1124) (ls2 := [(4, .int 0), (3, .ref 232), (2, .ref 162), (1, .ref 0), (0, .ref 11)]) (st2 := [.int (xs 3), .int (xs 2), .int 1, .ref 0]) (h2 := zH0) (dc2 := 117) (ds2 := 29934) 5 rfl ?_
  refine zT_val h3 ?_
  refine zT_call (v := some (.int (-9999))) (h2 := (((zH0.set 37 (.inr (.inr (.inr (3, [.ref 44, .ref 6, .ref 76, .ref 78, .ref 80, .ref 88, .int 1, .int 0, .ref 96, .int 0, .int 0, .int 0, .ref 98, .ref 100, .int 0]))))).set 44 (.inr (.inr (.inr (6, [.int 1, .long 70644700037184, .int 0, .ref 90, .ref 92, .ref 94]))))).set 47 (.inr (.inl (16, [70644700037184]))))) (d1 := 0) (s1 := 0) rfl rfl ?_ ?_
  · refine zT_gos (f := 200000) (pc2 := 42) (ls2 := [(4, .ref 88), (0, .ref 0), (1, .int 1), (2, .int (xs 2)), (3, .int 2)]) (st2 := [.int (-2), .int (xs 2)]) (h2 := (((zH0.set 37 (.inr (.inr (.inr (3, [.ref 44, .ref 6, .ref 76, .ref 78, .ref 80, .ref 88, .int 1, .int 0, .ref 96, .int 0, .int 0, .int 0, .ref 98, .ref 100, .int 0]))))).set 44 (.inr (.inr (.inr (6, [.int 1, .long 70644700037184, .int 0, .ref 90, .ref 92, .ref 94]))))).set 47 (.inr (.inl (16, [70644700037184]))))) (dc2 := 0) (ds2 := 0) 18 rfl ?_
    refine zT_if2 true rfl (zc_lt_t (by show ((xs 2) : Int32).toInt < -2; omega)) ?_
    refine zT_here (pc2 := 62) rfl ?_
    refine zT_gos (f := 200000) (pc2 := 65) (ls2 := [(4, .ref 88), (0, .ref 0), (1, .int 1), (2, .int (xs 2)), (3, .int 2)]) (st2 := [.int (-9999)]) (h2 := (((zH0.set 37 (.inr (.inr (.inr (3, [.ref 44, .ref 6, .ref 76, .ref 78, .ref 80, .ref 88, .int 1, .int 0, .ref 96, .int 0, .int 0, .int 0, .ref 98, .ref 100, .int 0]))))).set 44 (.inr (.inr (.inr (6, [.int 1, .long 70644700037184, .int 0, .ref 90, .ref 92, .ref 94]))))).set 47 (.inr (.inl (16, [70644700037184]))))) (dc2 := 0) (ds2 := 0) 1 rfl ?_
    exact zT_ret rfl rfl
  refine zT_here (pc2 := 1127) rfl ?_
  refine zT_gos (f := 200000) (pc2 := 1134) (ls2 := [(4, .int 0), (3, .ref 232), (2, .ref 162), (1, .ref 0), (0, .ref 11)]) (st2 := [.int (xs 1), .ref 162, .int (-9999)]) (h2 := (((zH0.set 37 (.inr (.inr (.inr (3, [.ref 44, .ref 6, .ref 76, .ref 78, .ref 80, .ref 88, .int 1, .int 0, .ref 96, .int 0, .int 0, .int 0, .ref 98, .ref 100, .int 0]))))).set 44 (.inr (.inr (.inr (6, [.int 1, .long 70644700037184, .int 0, .ref 90, .ref 92, .ref 94]))))).set 47 (.inr (.inl (16, [70644700037184]))))) (dc2 := 117) (ds2 := 29934) 6 rfl ?_
  refine zT_if0 false rfl (zc_eq_f (by show ((xs 1) : Int32).toInt ≠ 0; omega)) ?_
  refine zT_here (pc2 := 1137) rfl ?_
  refine zT_gos (f := 200000) (pc2 := 1148) (ls2 := [(4, .int 0), (3, .ref 232), (2, .ref 162), (1, .ref 0), (0, .ref 11)]) (st2 := [.int (xs 2), .int 1, .ref 162, .int (-9999)]) (h2 := (((zH0.set 37 (.inr (.inr (.inr (3, [.ref 44, .ref 6, .ref 76, .ref 78, .ref 80, .ref 88, .int 1, .int 0, .ref 96, .int 0, .int 0, .int 0, .ref 98, .ref 100, .int 0]))))).set 44 (.inr (.inr (.inr (6, [.int 1, .long 70644700037184, .int 0, .ref 90, .ref 92, .ref 94]))))).set 47 (.inr (.inl (16, [70644700037184]))))) (dc2 := 117) (ds2 := 29934) 7 rfl ?_
  refine zT_gos (f := 200000) (pc2 := 1154) (ls2 := [(4, .int 0), (3, .ref 232), (2, .ref 162), (1, .ref 0), (0, .ref 11)]) (st2 := [.int (xs 3), .int (xs 2), .int 1, .ref 162, .int (-9999)]) (h2 := (((zH0.set 37 (.inr (.inr (.inr (3, [.ref 44, .ref 6, .ref 76, .ref 78, .ref 80, .ref 88, .int 1, .int 0, .ref 96, .int 0, .int 0, .int 0, .ref 98, .ref 100, .int 0]))))).set 44 (.inr (.inr (.inr (6, [.int 1, .long 70644700037184, .int 0, .ref 90, .ref 92, .ref 94]))))).set 47 (.inr (.inl (16, [70644700037184]))))) (dc2 := 117) (ds2 := 29934) 5 rfl ?_
  refine zT_val h3 ?_
  refine zT_call (v := some (.int (-9999))) (h2 := (((((((zH0.set 37 (.inr (.inr (.inr (3, [.ref 44, .ref 6, .ref 76, .ref 78, .ref 80, .ref 88, .int 1, .int 0, .ref 96, .int 0, .int 0, .int 0, .ref 98, .ref 100, .int 0]))))).set 44 (.inr (.inr (.inr (6, [.int 1, .long 70644700037184, .int 0, .ref 90, .ref 92, .ref 94]))))).set 47 (.inr (.inl (16, [70644700037184])))).set 106 (.inl (2, 2, [0, 1]))).set 105 (.inl (0, 2, [0, 0]))).set 107 (.inl (0, 132, [0, 0, 0, 0, 0, 0, 0, 0, 0, 0, 0, 0, 0, 0, 0, 0, 0, 0, 0, 0, 0, 0, 0, 0, 0, 0, 0, 0, 0, 0, 0, 0, 0, 0, 0, 0, 0, 0, 0, 0, 0, 0, 0, 0, 0, 0, 0, 0, 0, 0, 0, 0, 0, 0, 0, 0, 0, 0, 0, 0, 0, 0, 0, 0, 0, 0, 0, 0, 0, 0, 0, 0]))).set 109 (.inl (0, 22, [0, 0, 0, 0, 0, 0, 0, 0, 0, 0, 0, 0])))) (d1 := 0) (s1 := 0) rfl rfl ?_ ?_
  · refine zT_gos (f := 200000) (pc2 := 7) (ls2 := [(0, .ref 162), (1, .int 1), (2, .int (xs 2)), (3, .int 2)]) (st2 := [.int 1, .ref 162]) (h2 := (((zH0.set 37 (.inr (.inr (.inr (3, [.ref 44, .ref 6, .ref 76, .ref 78, .ref 80, .ref 88, .int 1, .int 0, .ref 96, .int 0, .int 0, .int 0, .ref 98, .ref 100, .int 0]))))).set 44 (.inr (.inr (.inr (6, [.int 1, .long 70644700037184, .int 0, .ref 90, .ref 92, .ref 94]))))).set 47 (.inr (.inl (16, [70644700037184]))))) (dc2 := 0) (ds2 := 0) 5 rfl ?_
    refine zT_call rfl rfl (zT_le (zg0_le 6 xs) zk_o_20) ?_
    refine zT_here (pc2 := 10) rfl ?_
    refine zT_gos (f := 200000) (pc2 := 29) (ls2 := [(5, .int 2), (4, .int 0), (0, .ref 162), (1, .int 1), (2, .int (xs 2)), (3, .int 2)]) (st2 := [.int (-2), .int (xs 2)]) (h2 := (((((((zH0.set 37 (.inr (.inr (.inr (3, [.ref 44, .ref 6, .ref 76, .ref 78, .ref 80, .ref 88, .int 1, .int 0, .ref 96, .int 0, .int 0, .int 0, .ref 98, .ref 100, .int 0]))))).set 44 (.inr (.inr (.inr (6, [.int 1, .long 70644700037184, .int 0, .ref 90, .ref 92, .ref 94]))))).set 47 (.inr (.inl (16, [70644700037184])))).set 106 (.inl (2, 2, [0, 1]))).set 105 (.inl (0, 2, [0, 0]))).set 107 (.inl (0, 132, [0, 0, 0, 0, 0, 0, 0, 0, 0, 0, 0, 0, 0, 0, 0, 0, 0, 0, 0, 0, 0, 0, 0, 0, 0, 0, 0, 0, 0, 0, 0, 0, 0, 0, 0, 0, 0, 0, 0, 0, 0, 0, 0, 0, 0, 0, 0, 0, 0, 0, 0, 0, 0, 0, 0, 0, 0, 0, 0, 0, 0, 0, 0, 0, 0, 0, 0, 0, 0, 0, 0, 0]))).set 109 (.inl (0, 22, [0, 0, 0, 0, 0, 0, 0, 0, 0, 0, 0, 0])))) (dc2 := 0) (ds2 := 0) 11 rfl ?_
    refine zT_if2 true rfl (zc_lt_t (by show ((xs 2) : Int32).toInt < -2; omega)) ?_
    refine zT_here (pc2 := 48) rfl ?_
    refine zT_gos (f := 200000) (pc2 := 71) (ls2 := [(5, .int 2), (4, .int 0), (0, .ref 162), (1, .int 1), (2, .int (xs 2)), (3, .int 2)]) (st2 := [.int (-9999)]) (h2 := (((((((zH0.set 37 (.inr (.inr (.inr (3, [.ref 44, .ref 6, .ref 76, .ref 78, .ref 80, .ref 88, .int 1, .int 0, .ref 96, .int 0, .int 0, .int 0, .ref 98, .ref 100, .int 0]))))).set 44 (.inr (.inr (.inr (6, [.int 1, .long 70644700037184, .int 0, .ref 90, .ref 92, .ref 94]))))).set 47 (.inr (.inl (16, [70644700037184])))).set 106 (.inl (2, 2, [0, 1]))).set 105 (.inl (0, 2, [0, 0]))).set 107 (.inl (0, 132, [0, 0, 0, 0, 0, 0, 0, 0, 0, 0, 0, 0, 0, 0, 0, 0, 0, 0, 0, 0, 0, 0, 0, 0, 0, 0, 0, 0, 0, 0, 0, 0, 0, 0, 0, 0, 0, 0, 0, 0, 0, 0, 0, 0, 0, 0, 0, 0, 0, 0, 0, 0, 0, 0, 0, 0, 0, 0, 0, 0, 0, 0, 0, 0, 0, 0, 0, 0, 0, 0, 0, 0]))).set 109 (.inl (0, 22, [0, 0, 0, 0, 0, 0, 0, 0, 0, 0, 0, 0])))) (dc2 := 0) (ds2 := 0) 2 rfl ?_
    exact zT_ret rfl rfl
  refine zT_here (pc2 := 1157) rfl ?_
  refine zT_gos (f := 200000) (pc2 := 1811) (ls2 := [(4, .int 6), (3, .ref 232), (2, .ref 162), (1, .ref 0), (0, .ref 11)]) (st2 := [.int 1]) (h2 := (((((((zH0.set 37 (.inr (.inr (.inr (3, [.ref 44, .ref 6, .ref 76, .ref 78, .ref 80, .ref 88, .int 1, .int 0, .ref 96, .int 0, .int 0, .int 0, .ref 98, .ref 100, .int 0]))))).set 44 (.inr (.inr (.inr (6, [.int 1, .long 70644700037184, .int 0, .ref 90, .ref 92, .ref 94]))))).set 47 (.inr (.inl (16, [70644700037184])))).set 106 (.inl (2, 2, [0, 1]))).set 105 (.inl (0, 2, [0, 0]))).set 107 (.inl (0, 132, [0, 0, 0, 0, 0, 0, 0, 0, 0, 0, 0, 0, 0, 0, 0, 0, 0, 0, 0, 0, 0, 0, 0, 0, 0, 0, 0, 0, 0, 0, 0, 0, 0, 0, 0, 0, 0, 0, 0, 0, 0, 0, 0, 0, 0, 0, 0, 0, 0, 0, 0, 0, 0, 0, 0, 0, 0, 0, 0, 0, 0, 0, 0, 0, 0, 0, 0, 0, 0, 0, 0, 0]))).set 109 (.inl (0, 22, [0, 0, 0, 0, 0, 0, 0, 0, 0, 0, 0, 0])))) (dc2 := 117) (ds2 := 29934) 10 rfl ?_
  exact zT_ret rfl rfl
set_option maxRecDepth 1000000 in
set_option maxHeartbeats 4000000 in
theorem zo_24_69 (xs : Nat → Int32) (h0 : xs 0 &&& 63 = 24) (h1 : (xs 1).toInt ≠ 0) (h3 : xs 3 = 2) (h2 : 2 < (xs 2).toInt) : zDone xs := by
  refine ⟨(((((((zH0.set 37 (.inr (.inr (.inr (3, [.ref 44, .ref 6, .ref 76, .ref 78, .ref 80, .ref 88, .int 1, .int 0, .ref 96, .int 0, .int 0, .int 0, .ref 98, .ref 100, .int 0]))))).set 44 (.inr (.inr (.inr (6, [.int 1, .long 70644700037184, .int 0, .ref 90, .ref 92, .ref 94]))))).set 47 (.inr (.inl (16, [70644700037184])))).set 106 (.inl (2, 2, [0, 1]))).set 105 (.inl (0, 2, [0, 0]))).set 107 (.inl (0, 132, [0, 0, 0, 0, 0, 0, 0, 0, 0, 0, 0, 0, 0, 0, 0, 0, 0, 0, 0, 0, 0, 0, 0, 0, 0, 0, 0, 0, 0, 0, 0, 0, 0, 0, 0, 0, 0, 0, 0, 0, 0, 0, 0, 0, 0, 0, 0, 0, 0, 0, 0, 0, 0, 0, 0, 0, 0, 0, 0, 0, 0, 0, 0, 0, 0, 0, 0, 0, 0, 0, 0, 0]))).set 109 (.inl (0, 22, [0, 0, 0, 0, 0, 0, 0, 0, 0, 0, 0, 0]))), 117, 29934, ?_, by decide, by decide⟩
  refine zT_gos (f := 200000) (pc2 := 37) (ls2 := [(4, .int 0), (3, .ref 232), (2, .ref 162), (1, .ref 0), (0, .ref 11)]) (st2 := [.int (xs 0)]) (h2 := zH0) (dc2 := 117) (ds2 := 29934) 9 rfl ?_
  refine zT_gos (f := 200000) (pc2 := 40) (ls2 := [(4, .int 0), (3, .ref 232), (2, .ref 162), (1, .ref 0), (0, .ref 11)]) (st2 := [.int ((xs 0) &&& (63 : Int32))]) (h2 := zH0) (dc2 := 117) (ds2 := 29934) 2 rfl ?_
  refine zT_val h0 ?_
  refine zT_gos (f := 200000) (pc2 := 1104) (ls2 := [(4, .int 0), (3, .ref 232), (2, .ref 162), (1, .ref 0), (0, .ref 11)]) (st2 := [.int (xs 1), .ref 0]) (h2 := zH0) (dc2 := 117) (ds2 := 29934) 7 rfl ?_
  refine zT_if0 false rfl (zc_eq_f (by show ((xs 1) : Int32).toInt ≠ 0; omega)) ?_
  refine zT_here (pc2 := 1107) rfl ?_
  refine zT_gos (f := 200000) (pc2 := 1118) (ls2 := [(4, .int 0), (3, .ref 232), (2, .ref 162), (1, .ref 0), (0, .ref 11)]) (st2 := [.int (xs 2), .int 1, .ref 0]) (h2 := zH0) (dc2 := 117) (ds2 := 29934) 7 rfl ?_
  refine zT_gos (f := 200000) (pc2 := 1124) (ls2 := [(4, .int 0), (3, .ref 232), (2, .ref 162), (1, .ref 0), (0, .ref 11)]) (st2 := [.int (xs 3), .int (xs 2), .int 1, .ref 0]) (h2 := zH0) (dc2 := 117) (ds2 := 29934) 5 rfl ?_
  refine zT_val h3 ?_
  refine zT_call (v := some (.int (-9999))) (h2 := (((zH0.set 37 (.inr (.inr (.inr (3, [.ref 44, .ref 6, .ref 76, .ref 78, .ref 80, .ref 88, .int 1, .int 0, .ref 96, .int 0, .int 0, .int 0, .ref 98, .ref 100, .int 0]))))).set 44 (.inr (.inr (.inr (6, [.int 1, .long 70644700037184, .int 0, .ref 90, .ref 92, .ref 94]))))).set 47 (.inr (.inl (16, [70644700037184]))))) (d1 := 0) (s1 := 0) rfl rfl ?_ ?_
  · refine zT_gos (f := 200000) (pc2 := 42) (ls2 := [(4, .ref 88), (0, .ref 0), (1, .int 1), (2, .int (xs 2)), (3, .int 2)]) (st2 := [.int (-2), .int (xs 2)]) (h2 := (((zH0.set 37 (.inr (.inr (.inr (3, [.ref 44, .ref 6, .ref 76, .ref 78, .ref 80, .ref 88, .int 1, .int 0, .ref 96, .int 0, .int 0, .int 0, .ref 98, .ref 100, .int 0]))))).set 44 (.inr (.inr (.inr (6, [.int 1, .long 70644700037184, .int 0, .ref 90, .ref 92, .ref 94]))))).set 47 (.inr (.inl (16, [70644700037184]))))) (dc2 := 0) (ds2 := 0) 18 rfl ?_
    refine zT_if2 false rfl (zc_lt_f (by show ((xs 2) : Int32).toInt ≥ -2; omega)) ?_
    refine zT_here (pc2 := 45) rfl ?_
    refine zT_gos (f := 200000) (pc2 := 59) (ls2 := [(4, .ref 88), (0, .ref 0), (1, .int 1), (2, .int (xs 2)), (3, .int 2)]) (st2 := [.int 2, .int (xs 2)]) (h2 := (((zH0.set 37 (.inr (.inr (.inr (3, [.ref 44, .ref 6, .ref 76, .ref 78, .ref 80, .ref 88, .int 1, .int 0, .ref 96, .int 0, .int 0, .int 0, .ref 98, .ref 100, .int 0]))))).set 44 (.inr (.inr (.inr (6, [.int 1, .long 70644700037184, .int 0, .ref 90, .ref 92, .ref 94]))))).set 47 (.inr (.inl (16, [70644700037184]))))) (dc2 := 0) (ds2 := 0) 7 rfl ?_
    refine zT_if2 false rfl (zc_le_f (by show ((xs 2) : Int32).toInt > 2; omega)) ?_
    refine zT_here (pc2 := 62) rfl ?_
    refine zT_gos (f := 200000) (pc2 := 65) (ls2 := [(4, .ref 88), (0, .ref 0), (1, .int 1), (2, .int (xs 2)), (3, .int 2)]) (st2 := [.int (-9999)]) (h2 := (((zH0.set 37 (.inr (.inr (.inr (3, [.ref 44, .ref 6, .ref 76, .ref 78, .ref 80, .ref 88, .int 1, .int 0, .ref 96, .int 0, .int 0, .int 0, .ref 98, .ref 100, .int 0]))))).set 44 (.inr (.inr (.inr (6, [.int 1, .long 70644700037184, .int 0, .ref 90, .ref 92, .ref 94]))))).set 47 (.inr (.inl (16, [70644700037184]))))) (dc2 := 0) (ds2 := 0) 1 rfl ?_
    exact zT_ret rfl rfl
  refine zT_here (pc2 := 1127) rfl ?_
  refine zT_gos (f := 200000) (pc2 := 1134) (ls2 := [(4, .int 0), (3, .ref 232), (2, .ref 162), (1, .ref 0), (0, .ref 11)]) (st2 := [.int (xs 1), .ref 162, .int (-9999)]) (h2 := (((zH0.set 37 (.inr (.inr (.inr (3, [.ref 44, .ref 6, .ref 76, .ref 78, .ref 80, .ref 88, .int 1, .int 0, .ref 96, .int 0, .int 0, .int 0, .ref 98, .ref 100, .int 0]))))).set 44 (.inr (.inr (.inr (6, [.int 1, .long 70644700037184, .int 0, .ref 90, .ref 92, .ref 94]))))).set 47 (.inr (.inl (16, [70644700037184]))))) (dc2 := 117) (ds2 := 29934) 6 rfl ?_
  refine zT_if0 false rfl (zc_eq_f (by show ((xs 1) : Int32).toInt ≠ 0; omega)) ?_
  refine zT_here (pc2 := 1137) rfl ?_
  refine zT_gos (f := 200000) (pc2 := 1148) (ls2 := [(4, .int 0), (3, .ref 232), (2, .ref 162), (1, .ref 0), (0, .ref 11)]) (st2 := [.int (xs 2), .int 1, .ref 162, .int (-9999)]) (h2 := (((zH0.set 37 (.inr (.inr (.inr (3, [.ref 44, .ref 6, .ref 76, .ref 78, .ref 80, .ref 88, .int 1, .int 0, .ref 96, .int 0, .int 0, .int 0, .ref 98, .ref 100, .int 0]))))).set 44 (.inr (.inr (.inr (6, [.int 1, .long 70644700037184, .int 0, .ref 90, .ref 92, .ref 94]))))).set 47 (.inr (.inl (16, [70644700037184]))))) (dc2 := 117) (ds2 := 29934) 7 rfl ?_
  refine zT_gos (f := 200000) (pc2 := 1154) (ls2 := [(4, .int 0), (3, .ref 232), (2, .ref 162), (1, .ref 0), (0, .ref 11)]) (st2 := [.int (xs 3), .int (xs 2), .int 1, .ref 162, .int (-9999)]) (h2 := (((zH0.set 37 (.inr (.inr (.inr (3, [.ref 44, .ref 6, .ref 76, .ref 78, .ref 80, .ref 88, .int 1, .int 0, .ref 96, .int 0, .int 0, .int 0, .ref 98, .ref 100, .int 0]))))).set 44 (.inr (.inr (.inr (6, [.int 1, .long 70644700037184, .int 0, .ref 90, .ref 92, .ref 94]))))).set 47 (.inr (.inl (16, [70644700037184]))))) (dc2 := 117) (ds2 := 29934) 5 rfl ?_
  refine zT_val h3 ?_
  refine zT_call (v := some (.int (-9999))) (h2 := (((((((zH0.set 37 (.inr (.inr (.inr (3, [.ref 44, .ref 6, .ref 76, .ref 78, .ref 80, .ref 88, .int 1, .int 0, .ref 96, .int 0, .int 0, .int 0, .ref 98, .ref 100, .int 0]))))).set 44 (.inr (.inr (.inr (6, [.int 1, .long 70644700037184, .int 0, .ref 90, .ref 92, .ref 94]))))).set 47 (.inr (.inl (16, [70644700037184])))).set 106 (.inl (2, 2, [0, 1]))).set 105 (.inl (0, 2, [0, 0]))).set 107 (.inl (0, 132, [0, 0, 0, 0, 0, 0, 0, 0, 0, 0, 0, 0, 0, 0, 0, 0, 0, 0, 0, 0, 0, 0, 0, 0, 0, 0, 0, 0, 0, 0, 0, 0, 0, 0, 0, 0, 0, 0, 0, 0, 0, 0, 0, 0, 0, 0, 0, 0, 0, 0, 0, 0, 0, 0, 0, 0, 0, 0, 0, 0, 0, 0, 0, 0, 0, 0, 0, 0, 0, 0, 0, 0]))).set 109 (.inl (0, 22, [0, 0, 0, 0, 0, 0, 0, 0, 0, 0, 0, 0])))) (d1 := 0) (s1 := 0) rfl rfl ?_ ?_
  · refine zT_gos (f := 200000) (pc2 := 7) (ls2 := [(0, .ref 162), (1, .int 1), (2, .int (xs 2)), (3, .int 2)]) (st2 := [.int 1, .ref 162]) (h2 := (((zH0.set 37 (.inr (.inr (.inr (3, [.ref 44, .ref 6, .ref 76, .ref 78, .ref 80, .ref 88, .int 1, .int 0, .ref 96, .int 0, .int 0, .int 0, .ref 98, .ref 100, .int 0]))))).set 44 (.inr (.inr (.inr (6, [.int 1, .long 70644700037184, .int 0, .ref 90, .ref 92, .ref 94]))))).set 47 (.inr (.inl (16, [70644700037184]))))) (dc2 := 0) (ds2 := 0) 5 rfl ?_
    refine zT_call rfl rfl (zT_le (zg0_le 6 xs) zk_o_20) ?_
    refine zT_here (pc2 := 10) rfl ?_
    refine zT_gos (f := 200000) (pc2 := 29) (ls2 := [(5, .int 2), (4, .int 0), (0, .ref 162), (1, .int 1), (2, .int (xs 2)), (3, .int 2)]) (st2 := [.int (-2), .int (xs 2)]) (h2 := (((((((zH0.set 37 (.inr (.inr (.inr (3, [.ref 44, .ref 6, .ref 76, .ref 78, .ref 80, .ref 88, .int 1, .int 0, .ref 96, .int 0, .int 0, .int 0, .ref 98, .ref 100, .int 0]))))).set 44 (.inr (.inr (.inr (6, [.int 1, .long 70644700037184, .int 0, .ref 90, .ref 92, .ref 94]))))).set 47 (.inr (.inl (16, [70644700037184])))).set 106 (.inl (2, 2, [0, 1]))).set 105 (.inl (0, 2, [0, 0]))).set 107 (.inl (0, 132, [0, 0, 0, 0, 0, 0, 0, 0, 0, 0, 0, 0, 0, 0, 0, 0, 0, 0, 0, 0, 0, 0, 0, 0, 0, 0, 0, 0, 0, 0, 0, 0, 0, 0, 0, 0, 0, 0, 0, 0, 0, 0, 0, 0, 0, 0, 0, 0, 0, 0, 0, 0, 0, 0, 0, 0, 0, 0, 0, 0, 0, 0, 0, 0, 0, 0, 0, 0, 0, 0, 0, 0]))).set 109 (.inl (0, 22, [0, 0, 0, 0, 0, 0, 0, 0, 0, 0, 0, 0])))) (dc2 := 0) (ds2 := 0) 11 rfl ?_
    refine zT_if2 false rfl (zc_lt_f (by show ((xs 2) : Int32).toInt ≥ -2; omega)) ?_
    refine zT_here (pc2 := 32) rfl ?_
    refine zT_gos (f := 200000) (pc2 := 38) (ls2 := [(5, .int 2), (4, .int 0), (0, .ref 162), (1, .int 1), (2, .int (xs 2)), (3, .int 2)]) (st2 := [.int 2, .int (xs 2)]) (h2 := (((((((zH0.set 37 (.inr (.inr (.inr (3, [.ref 44, .ref 6, .ref 76, .ref 78, .ref 80, .ref 88, .int 1, .int 0, .ref 96, .int 0, .int 0, .int 0, .ref 98, .ref 100, .int 0]))))).set 44 (.inr (.inr (.inr (6, [.int 1, .long 70644700037184, .int 0, .ref 90, .ref 92, .ref 94]))))).set 47 (.inr (.inl (16, [70644700037184])))).set 106 (.inl (2, 2, [0, 1]))).set 105 (.inl (0, 2, [0, 0]))).set 107 (.inl (0, 132, [0, 0, 0, 0, 0, 0, 0, 0, 0, 0, 0, 0, 0, 0, 0, 0, 0, 0, 0, 0, 0, 0, 0, 0, 0, 0, 0, 0, 0, 0, 0, 0, 0, 0, 0, 0, 0, 0, 0, 0, 0, 0, 0, 0, 0, 0, 0, 0, 0, 0, 0, 0, 0, 0, 0, 0, 0, 0, 0, 0, 0, 0, 0, 0, 0, 0, 0, 0, 0, 0, 0, 0]))).set 109 (.inl (0, 22, [0, 0, 0, 0, 0, 0, 0, 0, 0, 0, 0, 0])))) (dc2 := 0) (ds2 := 0) 4 rfl ?_
    refine zT_if2 true rfl (zc_gt_t (by show ((xs 2) : Int32).toInt > 2; omega)) ?_
    refine zT_here (pc2 := 48) rfl ?_
    refine zT_gos (f := 200000) (pc2 := 71) (ls2 := [(5, .int 2), (4, .int 0), (0, .ref 162), (1, .int 1), (2, .int (xs 2)), (3, .int 2)]) (st2 := [.int (-9999)]) (h2 := (((((((zH0.set 37 (.inr (.inr (.inr (3, [.ref 44, .ref 6, .ref 76, .ref 78, .ref 80, .ref 88, .int 1, .int 0, .ref 96, .int 0, .int 0, .int 0, .ref 98, .ref 100, .int 0]))))).set 44 (.inr (.inr (.inr (6, [.int 1, .long 70644700037184, .int 0, .ref 90, .ref 92, .ref 94]))))).set 47 (.inr (.inl (16, [70644700037184])))).set 106 (.inl (2, 2, [0, 1]))).set 105 (.inl (0, 2, [0, 0]))).set 107 (.inl (0, 132, [0, 0, 0, 0, 0, 0, 0, 0, 0, 0, 0, 0, 0, 0, 0, 0, 0, 0, 0, 0, 0, 0, 0, 0, 0, 0, 0, 0, 0, 0, 0, 0, 0, 0, 0, 0, 0, 0, 0, 0, 0, 0, 0, 0, 0, 0, 0, 0, 0, 0, 0, 0, 0, 0, 0, 0, 0, 0, 0, 0, 0, 0, 0, 0, 0, 0, 0, 0, 0, 0, 0, 0]))).set 109 (.inl (0, 22, [0, 0, 0, 0, 0, 0, 0, 0, 0, 0, 0, 0])))) (dc2 := 0) (ds2 := 0) 2 rfl ?_
    exact zT_ret rfl rfl
  refine zT_here (pc2 := 1157) rfl ?_
  refine zT_gos (f := 200000) (pc2 := 1811) (ls2 := [(4, .int 6), (3, .ref 232), (2, .ref 162), (1, .ref 0), (0, .ref 11)]) (st2 := [.int 1]) (h2 := (((((((zH0.set 37 (.inr (.inr (.inr (3, [.ref 44, .ref 6, .ref 76, .ref 78, .ref 80, .ref 88, .int 1, .int 0, .ref 96, .int 0, .int 0, .int 0, .ref 98, .ref 100, .int 0]))))).set 44 (.inr (.inr (.inr (6, [.int 1, .long 70644700037184, .int 0, .ref 90, .ref 92, .ref 94]))))).set 47 (.inr (.inl (16, [70644700037184])))).set 106 (.inl (2, 2, [0, 1]))).set 105 (.inl (0, 2, [0, 0]))).set 107 (.inl (0, 132, [0, 0, 0, 0, 0, 0, 0, 0, 0, 0, 0, 0, 0, 0, 0, 0, 0, 0, 0, 0, 0, 0, 0, 0, 0, 0, 0, 0, 0, 0, 0, 0, 0, 0, 0, 0, 0, 0, 0, 0, 0, 0, 0, 0, 0, 0, 0, 0, 0, 0, 0, 0, 0, 0, 0, 0, 0, 0, 0, 0, 0, 0, 0, 0, 0, 0, 0, 0, 0, 0, 0, 0]))).set 109 (.inl (0, 22, [0, 0, 0, 0, 0, 0, 0, 0, 0, 0, 0, 0])))) (dc2 := 117) (ds2 := 29934) 10 rfl ?_
  exact zT_ret rfl rfl
set_option maxRecDepth 1000000 in
theorem zk_o_221 : zT zg0 zF zP 125 0 [(0, .ref 0), (1, .int 1), (2, .int (-2)), (3, .int 2)] [] zH0 0 0 (some (.int 0), (((zH0.set 37 (.inr (.inr (.inr (3, [.ref 44, .ref 6, .ref 76, .ref 78, .ref 80, .ref 88, .int 1, .int 0, .ref 96, .int 0, .int 0, .int 0, .ref 98, .ref 100, .int 0]))))).set 44 (.inr (.inr (.inr (6, [.int 1, .long 70644700037184, .int 0, .ref 90, .ref 92, .ref 94]))))).set 47 (.inr (.inl (16, [70644700037184])))), 0, 0) := zclosed (n := 340) (by decide +kernel)
set_option maxRecDepth 1000000 in
theorem zk_o_222 : zT zg0 zF zP 256 0 [(0, .ref 162), (1, .int 1), (2, .int (-2)), (3, .int 2)] [] (((zH0.set 37 (.inr (.inr (.inr (3, [.ref 44, .ref 6, .ref 76, .ref 78, .ref 80, .ref 88, .int 1, .int 0, .ref 96, .int 0, .int 0, .int 0, .ref 98, .ref 100, .int 0]))))).set 44 (.inr (.inr (.inr (6, [.int 1, .long 70644700037184, .int 0, .ref 90, .ref 92, .ref 94]))))).set 47 (.inr (.inl (16, [70644700037184])))) 0 0 (some (.int 0), (((((((zH0.set 37 (.inr (.inr (.inr (3, [.ref 44, .ref 6, .ref 76, .ref 78, .ref 80, .ref 88, .int 1, .int 0, .ref 96, .int 0, .int 0, .int 0, .ref 98, .ref 100, .int 0]))))).set 44 (.inr (.inr (.inr (6, [.int 1, .long 70644700037184, .int 0, .ref 90, .ref 92, .ref 94]))))).set 47 (.inr (.inl (16, [70644700037184])))).set 106 (.inl (2, 2, [0, 1]))).set 105 (.inl (0, 2, [0, 0]))).set 107 (.inl (0, 132, [0, 0, 0, 0, 0, 0, 0, 0, 0, 0, 0, 0, 0, 0, 0, 0, 0, 0, 0, 0, 0, 0, 0, 0, 0, 0, 0, 0, 0, 0, 0, 0, 0, 0, 0, 0, 0, 0, 0, 0, 0, 0, 0, 0, 0, 0, 0, 0, 0, 0, 0, 0, 0, 0, 0, 0, 0, 0, 0, 0, 0, 0, 0, 0, 0, 0, 0, 0, 0, 0, 0, 0]))).set 109 (.inl (0, 22, [0, 0, 0, 0, 0, 0, 0, 0, 0, 0, 0, 0]))), 0, 0) := zclosed (n := 380) (by decide +kernel)
set_option maxRecDepth 1000000 in
set_option maxHeartbeats 4000000 in
theorem zo_24_70 (xs : Nat → Int32) (h0 : xs 0 &&& 63 = 24) (h1 : (xs 1).toInt ≠ 0) (h3 : xs 3 = 2) (h2 : xs 2 = (-2)) : zDone xs := by
  refine ⟨(((((((zH0.set 37 (.inr (.inr (.inr (3, [.ref 44, .ref 6, .ref 76, .ref 78, .ref 80, .ref 88, .int 1, .int 0, .ref 96, .int 0, .int 0, .int 0, .ref 98, .ref 100, .int 0]))))).set 44 (.inr (.inr (.inr (6, [.int 1, .long 70644700037184, .int 0, .ref 90, .ref 92, .ref 94]))))).set 47 (.inr (.inl (16, [70644700037184])))).set 106 (.inl (2, 2, [0, 1]))).set 105 (.inl (0, 2, [0, 0]))).set 107 (.inl (0, 132, [0, 0, 0, 0, 0, 0, 0, 0, 0, 0, 0, 0, 0, 0, 0, 0, 0, 0, 0, 0, 0, 0, 0, 0, 0, 0, 0, 0, 0, 0, 0, 0, 0, 0, 0, 0, 0, 0, 0, 0, 0, 0, 0, 0, 0, 0, 0, 0, 0, 0, 0, 0, 0, 0, 0, 0, 0, 0, 0, 0, 0, 0, 0, 0, 0, 0, 0, 0, 0, 0, 0, 0]))).set 109 (.inl (0, 22, [0, 0, 0, 0, 0, 0, 0, 0, 0, 0, 0, 0]))), 117, 29934, ?_, by decide, by decide⟩
  refine zT_gos (f := 200000) (pc2 := 37) (ls2 := [(4, .int 0), (3, .ref 232), (2, .ref 162), (1, .ref 0), (0, .ref 11)]) (st2 := [.int (xs 0)]) (h2 := zH0) (dc2 := 117) (ds2 := 29934) 9 rfl ?_
  refine zT_gos (f := 200000) (pc2 := 40) (ls2 := [(4, .int 0), (3, .ref 232), (2, .ref 162), (1, .ref 0), (0, .ref 11)]) (st2 := [.int ((xs 0) &&& (63 : Int32))]) (h2 := zH0) (dc2 := 117) (ds2 := 29934) 2 rfl ?_
  refine zT_val h0 ?_
  refine zT_gos (f := 200000) (pc2 := 1104) (ls2 := [(4, .int 0), (3, .ref 232), (2, .ref 162), (1, .ref 0), (0, .ref 11)]) (st2 := [.int (xs 1), .ref 0]) (h2 := zH0) (dc2 := 117) (ds2 := 29934) 7 rfl ?_
  refine zT_if0 false rfl (zc_eq_f (by show ((xs 1) : Int32).toInt ≠ 0; omega)) ?_
  refine zT_here (pc2 := 1107) rfl ?_
  refine zT_gos (f := 200000) (pc2 := 1118) (ls2 := [(4, .int 0), (3, .ref 232), (2, .ref 162), (1, .ref 0), (0, .ref 11)]) (st2 := [.int (xs 2), .int 1, .ref 0]) (h2 := zH0) (dc2 := 117) (ds2 := 29934) 7 rfl ?_
  refine zT_val h2 ?_
  refine zT_gos (f := 200000) (pc2 := 1124) (ls2 := [(4, .int 0), (3, .ref 232), (2, .ref 162), (1, .ref 0), (0, .ref 11)]) (st2 := [.int (xs 3), .int (-2), .int 1, .ref 0]) (h2 := zH0) (dc2 := 117) (ds2 := 29934) 5 rfl ?_
  refine zT_val h3 ?_
  refine zT_call rfl rfl (zT_le (zg0_le 6 xs) zk_o_221) ?_
  refine zT_here (pc2 := 1127) rfl ?_
  refine zT_gos (f := 200000) (pc2 := 1134) (ls2 := [(4, .int 0), (3, .ref 232), (2, .ref 162), (1, .ref 0), (0, .ref 11)]) (st2 := [.int (xs 1), .ref 162, .int 0]) (h2 := (((zH0.set 37 (.inr (.inr (.inr (3, [.ref 44, .ref 6, .ref 76, .ref 78, .ref 80, .ref 88, .int 1, .int 0, .ref 96, .int 0, .int 0, .int 0, .ref 98, .ref 100, .int 0]))))).set 44 (.inr (.inr (.inr (6, [.int 1, .long 70644700037184, .int 0, .ref 90, .ref 92, .ref 94]))))).set 47 (.inr (.inl (16, [70644700037184]))))) (dc2 := 117) (ds2 := 29934) 6 rfl ?_
  refine zT_if0 false rfl (zc_eq_f (by show ((xs 1) : Int32).toInt ≠ 0; omega)) ?_
  refine zT_here (pc2 := 1137) rfl ?_
  refine zT_gos (f := 200000) (pc2 := 1148) (ls2 := [(4, .int 0), (3, .ref 232), (2, .ref 162), (1, .ref 0), (0, .ref 11)]) (st2 := [.int (xs 2), .int 1, .ref 162, .int 0]) (h2 := (((zH0.set 37 (.inr (.inr (.inr (3, [.ref 44, .ref 6, .ref 76, .ref 78, .ref 80, .ref 88, .int 1, .int 0, .ref 96, .int 0, .int 0, .int 0, .ref 98, .ref 100, .int 0]))))).set 44 (.inr (.inr (.inr (6, [.int 1, .long 70644700037184, .int 0, .ref 90, .ref 92, .ref 94]))))).set 47 (.inr (.inl (16, [70644700037184]))))) (dc2 := 117) (ds2 := 29934) 7 rfl ?_
  refine zT_val h2 ?_
  refine zT_gos (f := 200000) (pc2 := 1154) (ls2 := [(4, .int 0), (3, .ref 232), (2, .ref 162), (1, .ref 0), (0, .ref 11)]) (st2 := [.int (xs 3), .int (-2), .int 1, .ref 162, .int 0]) (h2 := (((zH0.set 37 (.inr (.inr (.inr (3, [.ref 44, .ref 6, .ref 76, .ref 78, .ref 80, .ref 88, .int 1, .int 0, .ref 96, .int 0, .int 0, .int 0, .ref 98, .ref 100, .int 0]))))).set 44 (.inr (.inr (.inr (6, [.int 1, .long 70644700037184, .int 0, .ref 90, .ref 92, .ref 94]))))).set 47 (.inr (.inl (16, [70644700037184]))))) (dc2 := 117) (ds2 := 29934) 5 rfl ?_
  refine zT_val h3 ?_
  refine zT_call rfl rfl (zT_le (zg0_le 6 xs) zk_o_222) ?_
  refine zT_here (pc2 := 1157) rfl ?_
  refine zT_gos (f := 200000) (pc2 := 1811) (ls2 := [(4, .int 6), (3, .ref 232), (2, .ref 162), (1, .ref 0), (0, .ref 11)]) (st2 := [.int 1]) (h2 := (((((((zH0.set 37 (.inr (.inr (.inr (3, [.ref 44, .ref 6, .ref 76, .ref 78, .ref 80, .ref 88, .int 1, .int 0, .ref 96, .int 0, .int 0, .int 0, .ref 98, .ref 100, .int 0]))))).set 44 (.inr (.inr (.inr (6, [.int 1, .long 70644700037184, .int 0, .ref 90, .ref 92, .ref 94]))))).set 47 (.inr (.inl (16, [70644700037184])))).set 106 (.inl (2, 2, [0, 1]))).set 105 (.inl (0, 2, [0, 0]))).set 107 (.inl (0, 132, [0, 0, 0, 0, 0, 0, 0, 0, 0, 0, 0, 0, 0, 0, 0, 0, 0, 0, 0, 0, 0, 0, 0, 0, 0, 0, 0, 0, 0, 0, 0, 0, 0, 0, 0, 0, 0, 0, 0, 0, 0, 0, 0, 0, 0, 0, 0, 0, 0, 0, 0, 0, 0, 0, 0, 0, 0, 0, 0, 0, 0, 0, 0, 0, 0, 0, 0, 0, 0, 0, 0, 0]))).set 109 (.inl (0, 22, [0, 0, 0, 0, 0, 0, 0, 0, 0, 0, 0, 0])))) (dc2 := 117) (ds2 := 29934) 10 rfl ?_
  exact zT_ret rfl rfl
set_option maxRecDepth 1000000 in
theorem zk_o_223 : zT zg0 zF zP 125 0 [(0, .ref 0), (1, .int 1), (2, .int (-1)), (3, .int 2)] [] zH0 0 0 (some (.int 0), (((zH0.set 37 (.inr (.inr (.inr (3, [.ref 44, .ref 6, .ref 76, .ref 78, .ref 80, .ref 88, .int 1, .int 0, .ref 96, .int 0, .int 0, .int 0, .ref 98, .ref 100, .int 0]))))).set 44 (.inr (.inr (.inr (6, [.int 1, .long 70644700037184, .int 0, .ref 90, .ref 92, .ref 94]))))).set 47 (.inr (.inl (16, [70644700037184])))), 0, 0) := zclosed (n := 345) (by decide +kernel)
set_option maxRecDepth 1000000 in
theorem zk_o_224 : zT zg0 zF zP 256 0 [(0, .ref 162), (1, .int 1), (2, .int (-1)), (3, .int 2)] [] (((zH0.set 37 (.inr (.inr (.inr (3, [.ref 44, .ref 6, .ref 76, .ref 78, .ref 80, .ref 88, .int 1, .int 0, .ref 96, .int 0, .int 0, .int 0, .ref 98, .ref 100, .int 0]))))).set 44 (.inr (.inr (.inr (6, [.int 1, .long 70644700037184, .int 0, .ref 90, .ref 92, .ref 94]))))).set 47 (.inr (.inl (16, [70644700037184])))) 0 0 (some (.int 0), (((((((zH0.set 37 (.inr (.inr (.inr (3, [.ref 44, .ref 6, .ref 76, .ref 78, .ref 80, .ref 88, .int 1, .int 0, .ref 96, .int 0, .int 0, .int 0, .ref 98, .ref 100, .int 0]))))).set 44 (.inr (.inr (.inr (6, [.int 1, .long 70644700037184, .int 0, .ref 90, .ref 92, .ref 94]))))).set 47 (.inr (.inl (16, [70644700037184])))).set 106 (.inl (2, 2, [0, 1]))).set 105 (.inl (0, 2, [0, 0]))).set 107 (.inl (0, 132, [0, 0, 0, 0, 0, 0, 0, 0, 0, 0, 0, 0, 0, 0, 0, 0, 0, 0, 0, 0, 0, 0, 0, 0, 0, 0, 0, 0, 0, 0, 0, 0, 0, 0, 0, 0, 0, 0, 0, 0, 0, 0, 0, 0, 0, 0, 0, 0, 0, 0, 0, 0, 0, 0, 0, 0, 0, 0, 0, 0, 0, 0, 0, 0, 0, 0, 0, 0, 0, 0, 0, 0]))).set 109 (.inl (0, 22, [0, 0, 0, 0, 0, 0, 0, 0, 0, 0, 0, 0]))), 0, 0) := zclosed (n := 404) (by decide +kernel)
set_option maxRecDepth 1000000 in
set_option maxHeartbeats 4000000 in
theorem zo_24_71 (xs : Nat → Int32) (h0 : xs 0 &&& 63 = 24) (h1 : (xs 1).toInt ≠ 0) (h3 : xs 3 = 2) (h2 : xs 2 = (-1)) : zDone xs := by
  refine ⟨(((((((zH0.set 37 (.inr (.inr (.inr (3, [.ref 44, .ref 6, .ref 76, .ref 78, .ref 80, .ref 88, .int 1, .int 0, .ref 96, .int 0, .int 0, .int 0, .ref 98, .ref 100, .int 0]))))).set 44 (.inr (.inr (.inr (6, [.int 1, .long 70644700037184, .int 0, .ref 90, .ref 92, .ref 94]))))).set 47 (.inr (.inl (16, [70644700037184])))).set 106 (.inl (2, 2, [0, 1]))).set 105 (.inl (0, 2, [0, 0]))).set 107 (.inl (0, 132, [0, 0, 0, 0, 0, 0, 0, 0, 0, 0, 0, 0, 0, 0, 0, 0, 0, 0, 0, 0, 0, 0, 0, 0, 0, 0, 0, 0, 0, 0, 0, 0, 0, 0, 0, 0, 0, 0, 0, 0, 0, 0, 0, 0, 0, 0, 0, 0, 0, 0, 0, 0, 0, 0, 0, 0, 0, 0, 0, 0, 0, 0, 0, 0, 0, 0, 0, 0, 0, 0, 0, 0]))).set 109 (.inl (0, 22, [0, 0, 0, 0, 0, 0, 0, 0, 0, 0, 0, 0]))), 117, 29934, ?_, by decide, by decide⟩
  refine zT_gos (f := 200000) (pc2 := 37) (ls2 := [(4, .int 0), (3, .ref 232), (2, .ref 162), (1, .ref 0), (0, .ref 11)]) (st2 := [.int (xs 0)]) (h2 := zH0) (dc2 := 117) (ds2 := 29934) 9 rfl ?_
  refine zT_gos (f := 200000) (pc2 := 40) (ls2 := [(4, .int 0), (3, .ref 232), (2, .ref 162), (1, .ref 0), (0, .ref 11)]) (st2 := [.int ((xs 0) &&& (63 : Int32))]) (h2 := zH0) (dc2 := 117) (ds2 := 29934) 2 rfl ?_
  refine zT_val h0 ?_
  refine zT_gos (f := 200000) (pc2 := 1104) (ls2 := [(4, .int 0), (3, .ref 232), (2, .ref 162), (1, .ref 0), (0, .ref 11)]) (st2 := [.int (xs 1), .ref 0]) (h2 := zH0) (dc2 := 117) (ds2 := 29934) 7 rfl ?_
  refine zT_if0 false rfl (zc_eq_f (by show ((xs 1) : Int32).toInt ≠ 0; omega)) ?_
  refine zT_here (pc2 := 1107) rfl ?_
  refine zT_gos (f := 200000) (pc2 := 1118) (ls2 := [(4, .int 0), (3, .ref 232), (2, .ref 162), (1, .ref 0), (0, .ref 11)]) (st2 := [.int (xs 2), .int 1, .ref 0]) (h2 := zH0) (dc2 := 117) (ds2 := 29934) 7 rfl ?_
  refine zT_val h2 ?_
  refine zT_gos (f := 200000) (pc2 := 1124) (ls2 := [(4, .int 0), (3, .ref 232), (2, .ref 162), (1, .ref 0), (0, .ref 11)]) (st2 := [.int (xs 3), .int (-1), .int 1, .ref 0]) (h2 := zH0) (dc2 := 117) (ds2 := 29934) 5 rfl ?_
  refine zT_val h3 ?_
  refine zT_call rfl rfl (zT_le (zg0_le 6 xs) zk_o_223) ?_
  refine zT_here (pc2 := 1127) rfl ?_
  refine zT_gos (f := 200000) (pc2 := 1134) (ls2 := [(4, .int 0), (3, .ref 232), (2, .ref 162), (1, .ref 0), (0, .ref 11)]) (st2 := [.int (xs 1), .ref 162, .int 0]) (h2 := (((zH0.set 37 (.inr (.inr (.inr (3, [.ref 44, .ref 6, .ref 76, .ref 78, .ref 80, .ref 88, .int 1, .int 0, .ref 96, .int 0, .int 0, .int 0, .ref 98, .ref 100, .int 0]))))).set 44 (.inr (.inr (.inr (6, [.int 1, .long 70644700037184, .int 0, .ref 90, .ref 92, .ref 94]))))).set 47 (.inr (.inl (16, [70644700037184]))))) (dc2 := 117) (ds2 := 29934) 6 rfl ?_
  refine zT_if0 false rfl (zc_eq_f (by show ((xs 1) : Int32).toInt ≠ 0; omega)) ?_
  refine zT_here (pc2 := 1137) rfl ?_
  refine zT_gos (f := 200000) (pc2 := 1148) (ls2 := [(4, .int 0), (3, .ref 232), (2, .ref 162), (1, .ref 0), (0, .ref 11)]) (st2 := [.int (xs 2), .int 1, .ref 162, .int 0]) (h2 := (((zH0.set 37 (.inr (.inr (.inr (3, [.ref 44, .ref 6, .ref 76, .ref 78, .ref 80, .ref 88, .int 1, .int 0, .ref 96, .int 0, .int 0, .int 0, .ref 98, .ref 100, .int 0]))))).set 44 (.inr (.inr (.inr (6, [.int 1, .long 70644700037184, .int 0, .ref 90, .ref 92, .ref 94]))))).set 47 (.inr (.inl (16, [70644700037184]))))) (dc2 := 117) (ds2 := 29934) 7 rfl ?_
  refine zT_val h2 ?_
  refine zT_gos (f := 200000) (pc2 := 1154) (ls2 := [(4, .int 0), (3, .ref 232), (2, .ref 162), (1, .ref 0), (0, .ref 11)]) (st2 := [.int (xs 3), .int (-1), .int 1, .ref 162, .int 0]) (h2 := (((zH0.set 37 (.inr (.inr (.inr (3, [.ref 44, .ref 6, .ref 76, .ref 78, .ref 80, .ref 88, .int 1, .int 0, .ref 96, .int 0, .int 0, .int 0, .ref 98, .ref 100, .int 0]))))).set 44 (.inr (.inr (.inr (6, [.int 1, .long 70644700037184, .int 0, .ref 90, .ref 92, .ref 94]))))).set 47 (.inr (.inl (16, [70644700037184]))))) (dc2 := 117) (ds2 := 29934) 5 rfl ?_
  refine zT_val h3 ?_
  refine zT_call rfl rfl (zT_le (zg0_le 6 xs) zk_o_224) ?_
  refine zT_here (pc2 := 1157) rfl ?_
  refine zT_gos (f := 200000) (pc2 := 1811) (ls2 := [(4, .int 6), (3, .ref 232), (2, .ref 162), (1, .ref 0), (0, .ref 11)]) (st2 := [.int 1]) (h2 := (((((((zH0.set 37 (.inr (.inr (.inr (3, [.ref 44, .ref 6, .ref 76, .ref 78, .ref 80, .ref 88, .int 1, .int 0, .ref 96, .int 0, .int 0, .int 0, .ref 98, .ref 100, .int 0]))))).set 44 (.inr (.inr (.inr (6, [.int 1, .long 70644700037184, .int 0, .ref 90, .ref 92, .ref 94]))))).set 47 (.inr (.inl (16, [70644700037184])))).set 106 (.inl (2, 2, [0, 1]))).set 105 (.inl (0, 2, [0, 0]))).set 107 (.inl (0, 132, [0, 0, 0, 0, 0, 0, 0, 0, 0, 0, 0, 0, 0, 0, 0, 0, 0, 0, 0, 0, 0, 0, 0, 0, 0, 0, 0, 0, 0, 0, 0, 0, 0, 0, 0, 0, 0, 0, 0, 0, 0, 0, 0, 0, 0, 0, 0, 0, 0, 0, 0, 0, 0, 0, 0, 0, 0, 0, 0, 0, 0, 0, 0, 0, 0, 0, 0, 0, 0, 0, 0, 0]))).set 109 (.inl (0, 22, [0, 0, 0, 0, 0, 0, 0, 0, 0, 0, 0, 0])))) (dc2 := 117) (ds2 := 29934) 10 rfl ?_
  exact zT_ret rfl rfl
set_option maxRecDepth 1000000 in
theorem zk_o_225 : zT zg0 zF zP 125 0 [(0, .ref 0), (1, .int 1), (2, .int 0), (3, .int 2)] [] zH0 0 0 (some (.int 0), (((zH0.set 37 (.inr (.inr (.inr (3, [.ref 44, .ref 6, .ref 76, .ref 78, .ref 80, .ref 88, .int 1, .int 0, .ref 96, .int 0, .int 0, .int 0, .ref 98, .ref 100, .int 0]))))).set 44 (.inr (.inr (.inr (6, [.int 1, .long 70644700037184, .int 0, .ref 90, .ref 92, .ref 94]))))).set 47 (.inr (.inl (16, [70644700037184])))), 0, 0) := zclosed (n := 350) (by decide +kernel)
set_option maxRecDepth 1000000 in
theorem zk_o_226 : zT zg0 zF zP 256 0 [(0, .ref 162), (1, .int 1), (2, .int 0), (3, .int 2)] [] (((zH0.set 37 (.inr (.inr (.inr (3, [.ref 44, .ref 6, .ref 76, .ref 78, .ref 80, .ref 88, .int 1, .int 0, .ref 96, .int 0, .int 0, .int 0, .ref 98, .ref 100, .int 0]))))).set 44 (.inr (.inr (.inr (6, [.int 1, .long 70644700037184, .int 0, .ref 90, .ref 92, .ref 94]))))).set 47 (.inr (.inl (16, [70644700037184])))) 0 0 (some (.int 0), (((((((zH0.set 37 (.inr (.inr (.inr (3, [.ref 44, .ref 6, .ref 76, .ref 78, .ref 80, .ref 88, .int 1, .int 0, .ref 96, .int 0, .int 0, .int 0, .ref 98, .ref 100, .int 0]))))).set 44 (.inr (.inr (.inr (6, [.int 1, .long 70644700037184, .int 0, .ref 90, .ref 92, .ref 94]))))).set 47 (.inr (.inl (16, [70644700037184])))).set 106 (.inl (2, 2, [0, 1]))).set 105 (.inl (0, 2, [0, 0]))).set 107 (.inl (0, 132, [0, 0, 0, 0, 0, 0, 0, 0, 0, 0, 0, 0, 0, 0, 0, 0, 0, 0, 0, 0, 0, 0, 0, 0, 0, 0, 0, 0, 0, 0, 0, 0, 0, 0, 0, 0, 0, 0, 0, 0, 0, 0, 0, 0, 0, 0, 0, 0, 0, 0, 0, 0, 0, 0, 0, 0, 0, 0, 0, 0, 0, 0, 0, 0, 0, 0, 0, 0, 0, 0, 0, 0]))).set 109 (.inl (0, 22, [0, 0, 0, 0, 0, 0, 0, 0, 0, 0, 0, 0]))), 0, 0) := zclosed (n := 428) (by decide +kernel)
set_option maxRecDepth 1000000 in
set_option maxHeartbeats 4000000 in
theorem zo_24_72 (xs : Nat → Int32) (h0 : xs 0 &&& 63 = 24) (h1 : (xs 1).toInt ≠ 0) (h3 : xs 3 = 2) (h2 : xs 2 = 0) : zDone xs := by
  refine ⟨(((((((zH0.set 37 (.inr (.inr (.inr (3, [.ref 44, .ref 6, .ref 76, .ref 78, .ref 80, .ref 88, .int 1, .int 0, .ref 96, .int 0, .int 0, .int 0, .ref 98, .ref 100, .int 0]))))).set 44 (.inr (.inr (.inr (6, [.int 1, .long 70644700037184, .int 0, .ref 90, .ref 92, .ref 94]))))).set 47 (.inr (.inl (16, [70644700037184])))).set 106 (.inl (2, 2, [0, 1]))).set 105 (.inl (0, 2, [0, 0]))).set 107 (.inl (0, 132, [0, 0, 0, 0, 0, 0, 0, 0, 0, 0, 0, 0, 0, 0, 0, 0, 0, 0, 0, 0, 0, 0, 0, 0, 0, 0, 0, 0, 0, 0, 0, 0, 0, 0, 0, 0, 0, 0, 0, 0, 0, 0, 0, 0, 0, 0, 0, 0, 0, 0, 0, 0, 0, 0, 0, 0, 0, 0, 0, 0, 0, 0, 0, 0, 0, 0, 0, 0, 0, 0, 0, 0]))).set 109 (.inl (0, 22, [0, 0, 0, 0, 0, 0, 0, 0, 0, 0, 0, 0]))), 117, 29934, ?_, by decide, by decide⟩
  refine zT_gos (f := 200000) (pc2 := 37) (ls2 := [(4, .int 0), (3, .ref 232), (2, .ref 162), (1, .ref 0), (0, .ref 11)]) (st2 := [.int (xs 0)]) (h2 := zH0) (dc2 := 117) (ds2 := 29934) 9 rfl ?_
  refine zT_gos (f := 200000) (pc2 := 40) (ls2 := [(4, .int 0), (3, .ref 232), (2, .ref 162), (1, .ref 0), (0, .ref 11)]) (st2 := [.int ((xs 0) &&& (63 : Int32))]) (h2 := zH0) (dc2 := 117) (ds2 := 29934) 2 rfl ?_
  refine zT_val h0 ?_
  refine zT_gos (f := 200000) (pc2 := 1104) (ls2 := [(4, .int 0), (3, .ref 232), (2, .ref 162), (1, .ref 0), (0, .ref 11)]) (st2 := [.int (xs 1), .ref 0]) (h2 := zH0) (dc2 := 117) (ds2 := 29934) 7 rfl ?_
  refine zT_if0 false rfl (zc_eq_f (by show ((xs 1) : Int32).toInt ≠ 0; omega)) ?_
  refine zT_here (pc2 := 1107) rfl ?_
  refine zT_gos (f := 200000) (pc2 := 1118) (ls2 := [(4, .int 0), (3, .ref 232), (2, .ref 162), (1, .ref 0), (0, .ref 11)]) (st2 := [.int (xs 2), .int 1, .ref 0]) (h2 := zH0) (dc2 := 117) (ds2 := 29934) 7 rfl ?_
  refine zT_val h2 ?_
  refine zT_gos (f := 200000) (pc2 := 1124) (ls2 := [(4, .int 0), (3, .ref 232), (2, .ref 162), (1, .ref 0), (0, .ref 11)]) (st2 := [.int (xs 3), .int 0, .int 1, .ref 0]) (h2 := zH0) (dc2 := 117) (ds2 := 29934) 5 rfl ?_
  refine zT_val h3 ?_
  refine zT_call rfl rfl (zT_le (zg0_le 6 xs) zk_o_225) ?_
  refine zT_here (pc2 := 1127) rfl ?_
  refine zT_gos (f := 200000) (pc2 := 1134) (ls2 := [(4, .int 0), (3, .ref 232), (2, .ref 162), (1, .ref 0), (0, .ref 11)]) (st2 := [.int (xs 1), .ref 162, .int 0]) (h2 := (((zH0.set 37 (.inr (.inr (.inr (3, [.ref 44, .ref 6, .ref 76, .ref 78, .ref 80, .ref 88, .int 1, .int 0, .ref 96, .int 0, .int 0, .int 0, .ref 98, .ref 100, .int 0]))))).set 44 (.inr (.inr (.inr (6, [.int 1, .long 70644700037184, .int 0, .ref 90, .ref 92, .ref 94]))))).set 47 (.inr (.inl (16, [70644700037184]))))) (dc2 := 117) (ds2 := 29934) 6 rfl ?_
  refine zT_if0 false rfl (zc_eq_f (by show ((xs 1) : Int32).toInt ≠ 0; omega)) ?_
  refine zT_here (pc2 := 1137) rfl ?_
  refine zT_gos (f := 200000) (pc2 := 1148) (ls2 := [(4, .int 0), (3, .ref 232), (2, .ref 162), (1, .ref 0), (0, .ref 11)]) (st2 := [.int (xs 2), .int 1, .ref 162, .int 0]) (h2 := (((zH0.set 37 (.inr (.inr (.inr (3, [.ref 44, .ref 6, .ref 76, .ref 78, .ref 80, .ref 88, .int 1, .int 0, .ref 96, .int 0, .int 0, .int 0, .ref 98, .ref 100, .int 0]))))).set 44 (.inr (.inr (.inr (6, [.int 1, .long 70644700037184, .int 0, .ref 90, .ref 92, .ref 94]))))).set 47 (.inr (.inl (16, [70644700037184]))))) (dc2 := 117) (ds2 := 29934) 7 rfl ?_
  refine zT_val h2 ?_
  refine zT_gos (f := 200000) (pc2 := 1154) (ls2 := [(4, .int 0), (3, .ref 232), (2, .ref 162), (1, .ref 0), (0, .ref 11)]) (st2 := [.int (xs 3), .int 0, .int 1, .ref 162, .int 0]) (h2 := (((zH0.set 37 (.inr (.inr (.inr (3, [.ref 44, .ref 6, .ref 76, .ref 78, .ref 80, .ref 88, .int 1, .int 0, .ref 96, .int 0, .int 0, .int 0, .ref 98, .ref 100, .int 0]))))).set 44 (.inr (.inr (.inr (6, [.int 1, .long 70644700037184, .int 0, .ref 90, .ref 92, .ref 94]))))).set 47 (.inr (.inl (16, [70644700037184]))))) (dc2 := 117) (ds2 := 29934) 5 rfl ?_
  refine zT_val h3 ?_
  refine zT_call rfl rfl (zT_le (zg0_le 6 xs) zk_o_226) ?_
  refine zT_here (pc2 := 1157) rfl ?_
  refine zT_gos (f := 200000) (pc2 := 1811) (ls2 := [(4, .int 6), (3, .ref 232), (2, .ref 162), (1, .ref 0), (0, .ref 11)]) (st2 := [.int 1]) (h2 := (((((((zH0.set 37 (.inr (.inr (.inr (3, [.ref 44, .ref 6, .ref 76, .ref 78, .ref 80, .ref 88, .int 1, .int 0, .ref 96, .int 0, .int 0, .int 0, .ref 98, .ref 100, .int 0]))))).set 44 (.inr (.inr (.inr (6, [.int 1, .long 70644700037184, .int 0, .ref 90, .ref 92, .ref 94]))))).set 47 (.inr (.inl (16, [70644700037184])))).set 106 (.inl (2, 2, [0, 1]))).set 105 (.inl (0, 2, [0, 0]))).set 107 (.inl (0, 132, [0, 0, 0, 0, 0, 0, 0, 0, 0, 0, 0, 0, 0, 0, 0, 0, 0, 0, 0, 0, 0, 0, 0, 0, 0, 0, 0, 0, 0, 0, 0, 0, 0, 0, 0, 0, 0, 0, 0, 0, 0, 0, 0, 0, 0, 0, 0, 0, 0, 0, 0, 0, 0, 0, 0, 0, 0, 0, 0, 0, 0, 0, 0, 0, 0, 0, 0, 0, 0, 0, 0, 0]))).set 109 (.inl (0, 22, [0, 0, 0, 0, 0, 0, 0, 0, 0, 0, 0, 0])))) (dc2 := 117) (ds2 := 29934) 10 rfl ?_
  exact zT_ret rfl rfl
set_option maxRecDepth 1000000 in
theorem zk_o_227 : zT zg0 zF zP 125 0 [(0, .ref 0), (1, .int 1), (2, .int 1), (3, .int 2)] [] zH0 0 0 (some (.int 0), (((zH0.set 37 (.inr (.inr (.inr (3, [.ref 44, .ref 6, .ref 76, .ref 78, .ref 80, .ref 88, .int 1, .int 0, .ref 96, .int 0, .int 0, .int 0, .ref 98, .ref 100, .int 0]))))).set 44 (.inr (.inr (.inr (6, [.int 1, .long 70644700037184, .int 0, .ref 90, .ref 92, .ref 94]))))).set 47 (.inr (.inl (16, [70644700037184])))), 0, 0) := zclosed (n := 355) (by decide +kernel)
set_option maxRecDepth 1000000 in
theorem zk_o_228 : zT zg0 zF zP 256 0 [(0, .ref 162), (1, .int 1), (2, .int 1), (3, .int 2)] [] (((zH0.set 37 (.inr (.inr (.inr (3, [.ref 44, .ref 6, .ref 76, .ref 78, .ref 80, .ref 88, .int 1, .int 0, .ref 96, .int 0, .int 0, .int 0, .ref 98, .ref 100, .int 0]))))).set 44 (.inr (.inr (.inr (6, [.int 1, .long 70644700037184, .int 0, .ref 90, .ref 92, .ref 94]))))).set 47 (.inr (.inl (16, [70644700037184])))) 0 0 (some (.int 0), (((((((zH0.set 37 (.inr (.inr (.inr (3, [.ref 44, .ref 6, .ref 76, .ref 78, .ref 80, .ref 88, .int 1, .int 0, .ref 96, .int 0, .int 0, .int 0, .ref 98, .ref 100, .int 0]))))).set 44 (.inr (.inr (.inr (6, [.int 1, .long 70644700037184, .int 0, .ref 90, .ref 92, .ref 94]))))).set 47 (.inr (.inl (16, [70644700037184])))).set 106 (.inl (2, 2, [0, 1]))).set 105 (.inl (0, 2, [0, 0]))).set 107 (.inl (0, 132, [0, 0, 0, 0, 0, 0, 0, 0, 0, 0, 0, 0, 0, 0, 0, 0, 0, 0, 0, 0, 0, 0, 0, 0, 0, 0, 0, 0, 0, 0, 0, 0, 0, 0, 0, 0, 0, 0, 0, 0, 0, 0, 0, 0, 0, 0, 0, 0, 0, 0, 0, 0, 0, 0, 0, 0, 0, 0, 0, 0, 0, 0, 0, 0, 0, 0, 0, 0, 0, 0, 0, 0]))).set 109 (.inl (0, 22, [0, 0, 0, 0, 0, 0, 0, 0, 0, 0, 0, 0]))), 0, 0) := zclosed (n := 452) (by decide +kernel)
set_option maxRecDepth 1000000 in
set_option maxHeartbeats 4000000 in
theorem zo_24_73 (xs : Nat → Int32) (h0 : xs 0 &&& 63 = 24) (h1 : (xs 1).toInt ≠ 0) (h3 : xs 3 = 2) (h2 : xs 2 = 1) : zDone xs := by
  refine ⟨(((((((zH0.set 37 (.inr (.inr (.inr (3, [.ref 44, .ref 6, .ref 76, .ref 78, .ref 80, .ref 88, .int 1, .int 0, .ref 96, .int 0, .int 0, .int 0, .ref 98, .ref 100, .int 0]))))).set 44 (.inr (.inr (.inr (6, [.int 1, .long 70644700037184, .int 0, .ref 90, .ref 92, .ref 94]))))).set 47 (.inr (.inl (16, [70644700037184])))).set 106 (.inl (2, 2, [0, 1]))).set 105 (.inl (0, 2, [0, 0]))).set 107 (.inl (0, 132, [0, 0, 0, 0, 0, 0, 0, 0, 0, 0, 0, 0, 0, 0, 0, 0, 0, 0, 0, 0, 0, 0, 0, 0, 0, 0, 0, 0, 0, 0, 0, 0, 0, 0, 0, 0, 0, 0, 0, 0, 0, 0, 0, 0, 0, 0, 0, 0, 0, 0, 0, 0, 0, 0, 0, 0, 0, 0, 0, 0, 0, 0, 0, 0, 0, 0, 0, 0, 0, 0, 0, 0]))).set 109 (.inl (0, 22, [0, 0, 0, 0, 0, 0, 0, 0, 0, 0, 0, 0]))), 117, 29934, ?_, by decide, by decide⟩
  refine zT_gos (f := 200000) (pc2 := 37) (ls2 := [(4, .int 0), (3, .ref 232), (2, .ref 162), (1, .ref 0), (0, .ref 11)]) (st2 := [.int (xs 0)]) (h2 := zH0) (dc2 := 117) (ds2 := 29934) 9 rfl ?_
  refine zT_gos (f := 200000) (pc2 := 40) (ls2 := [(4, .int 0), (3, .ref 232), (2, .ref 162), (1, .ref 0), (0, .ref 11)]) (st2 := [.int ((xs 0) &&& (63 : Int32))]) (h2 := zH0) (dc2 := 117) (ds2 := 29934) 2 rfl ?_
  refine zT_val h0 ?_
  refine zT_gos (f := 200000) (pc2 := 1104) (ls2 := [(4, .int 0), (3, .ref 232), (2, .ref 162), (1, .ref 0), (0, .ref 11)]) (st2 := [.int (xs 1), .ref 0]) (h2 := zH0) (dc2 := 117) (ds2 := 29934) 7 rfl ?_
  refine zT_if0 false rfl (zc_eq_f (by show ((xs 1) : Int32).toInt ≠ 0; omega)) ?_
  refine zT_here (pc2 := 1107) rfl ?_
  refine zT_gos (f := 200000) (pc2 := 1118) (ls2 := [(4, .int 0), (3, .ref 232), (2, .ref 162), (1, .ref 0), (0, .ref 11)]) (st2 := [.int (xs 2), .int 1, .ref 0]) (h2 := zH0) (dc2 := 117) (ds2 := 29934) 7 rfl ?_
  refine zT_val h2 ?_
  refine zT_gos (f := 200000) (pc2 := 1124) (ls2 := [(4, .int 0), (3, .ref 232), (2, .ref 162), (1, .ref 0), (0, .ref 11)]) (st2 := [.int (xs 3), .int 1, .int 1, .ref 0]) (h2 := zH0) (dc2 := 117) (ds2 := 29934) 5 rfl ?_
  refine zT_val h3 ?_
  refine zT_call rfl rfl (zT_le (zg0_le 6 xs) zk_o_227) ?_
  refine zT_here (pc2 := 1127) rfl ?_
  refine zT_gos (f := 200000) (pc2 := 1134) (ls2 := [(4, .int 0), (3, .ref 232), (2, .ref 162), (1, .ref 0), (0, .ref 11)]) (st2 := [.int (xs 1), .ref 162, .int 0]) (h2 := (((zH0.set 37 (.inr (.inr (.inr (3, [.ref 44, .ref 6, .ref 76, .ref 78, .ref 80, .ref 88, .int 1, .int 0, .ref 96, .int 0, .int 0, .int 0, .ref 98, .ref 100, .int 0]))))).set 44 (.inr (.inr (.inr (6, [.int 1, .long 70644700037184, .int 0, .ref 90, .ref 92, .ref 94]))))).set 47 (.inr (.inl (16, [70644700037184]))))) (dc2 := 117) (ds2 := 29934) 6 rfl ?_
  refine zT_if0 false rfl (zc_eq_f (by show ((xs 1) : Int32).toInt ≠ 0; omega)) ?_
  refine zT_here (pc2 := 1137) rfl ?_
  refine zT_gos (f := 200000) (pc2 := 1148) (ls2 := [(4, .int 0), (3, .ref 232), (2, .ref 162), (1, .ref 0), (0, .ref 11)]) (st2 := [.int (xs 2), .int 1, .ref 162, .int 0]) (h2 := (((zH0.set 37 (.inr (.inr (.inr (3, [.ref 44, .ref 6, .ref 76, .ref 78, .ref 80, .ref 88, .int 1, .int 0, .ref 96, .int 0, .int 0, .int 0, .ref 98, .ref 100, .int 0]))))).set 44 (.inr (.inr (.inr (6, [.int 1, .long 70644700037184, .int 0, .ref 90, .ref 92, .ref 94]))))).set 47 (.inr (.inl (16, [70644700037184]))))) (dc2 := 117) (ds2 := 29934) 7 rfl ?_
  refine zT_val h2 ?_
  refine zT_gos (f := 200000) (pc2 := 1154) (ls2 := [(4, .int 0), (3, .ref 232), (2, .ref 162), (1, .ref 0), (0, .ref 11)]) (st2 := [.int (xs 3), .int 1, .int 1, .ref 162, .int 0]) (h2 := (((zH0.set 37 (.inr (.inr (.inr (3, [.ref 44, .ref 6, .ref 76, .ref 78, .ref 80, .ref 88, .int 1, .int 0, .ref 96, .int 0, .int 0, .int 0, .ref 98, .ref 100, .int 0]))))).set 44 (.inr (.inr (.inr (6, [.int 1, .long 70644700037184, .int 0, .ref 90, .ref 92, .ref 94]))))).set 47 (.inr (.inl (16, [70644700037184]))))) (dc2 := 117) (ds2 := 29934) 5 rfl ?_
  refine zT_val h3 ?_
  refine zT_call rfl rfl (zT_le (zg0_le 6 xs) zk_o_228) ?_
  refine zT_here (pc2 := 1157) rfl ?_
  refine zT_gos (f := 200000) (pc2 := 1811) (ls2 := [(4, .int 6), (3, .ref 232), (2, .ref 162), (1, .ref 0), (0, .ref 11)]) (st2 := [.int 1]) (h2 := (((((((zH0.set 37 (.inr (.inr (.inr (3, [.ref 44, .ref 6, .ref 76, .ref 78, .ref 80, .ref 88, .int 1, .int 0, .ref 96, .int 0, .int 0, .int 0, .ref 98, .ref 100, .int 0]))))).set 44 (.inr (.inr (.inr (6, [.int 1, .long 70644700037184, .int 0, .ref 90, .ref 92, .ref 94]))))).set 47 (.inr (.inl (16, [70644700037184])))).set 106 (.inl (2, 2, [0, 1]))).set 105 (.inl (0, 2, [0, 0]))).set 107 (.inl (0, 132, [0, 0, 0, 0, 0, 0, 0, 0, 0, 0, 0, 0, 0, 0, 0, 0, 0, 0, 0, 0, 0, 0, 0, 0, 0, 0, 0, 0, 0, 0, 0, 0, 0, 0, 0, 0, 0, 0, 0, 0, 0, 0, 0, 0, 0, 0, 0, 0, 0, 0, 0, 0, 0, 0, 0, 0, 0, 0, 0, 0, 0, 0, 0, 0, 0, 0, 0, 0, 0, 0, 0, 0]))).set 109 (.inl (0, 22, [0, 0, 0, 0, 0, 0, 0, 0, 0, 0, 0, 0])))) (dc2 := 117) (ds2 := 29934) 10 rfl ?_
  exact zT_ret rfl rfl
set_option maxRecDepth 1000000 in
theorem zk_o_229 : zT zg0 zF zP 125 0 [(0, .ref 0), (1, .int 1), (2, .int 2), (3, .int 2)] [] zH0 0 0 (some (.int 0), (((zH0.set 37 (.inr (.inr (.inr (3, [.ref 44, .ref 6, .ref 76, .ref 78, .ref 80, .ref 88, .int 1, .int 0, .ref 96, .int 0, .int 0, .int 0, .ref 98, .ref 100, .int 0]))))).set 44 (.inr (.inr (.inr (6, [.int 1, .long 70644700037184, .int 0, .ref 90, .ref 92, .ref 94]))))).set 47 (.inr (.inl (16, [70644700037184])))), 0, 0) := zclosed (n := 360) (by decide +kernel)
set_option maxRecDepth 1000000 in
theorem zk_o_230 : zT zg0 zF zP 256 0 [(0, .ref 162), (1, .int 1), (2, .int 2), (3, .int 2)] [] (((zH0.set 37 (.inr (.inr (.inr (3, [.ref 44, .ref 6, .ref 76, .ref 78, .ref 80, .ref 88, .int 1, .int 0, .ref 96, .int 0, .int 0, .int 0, .ref 98, .ref 100, .int 0]))))).set 44 (.inr (.inr (.inr (6, [.int 1, .long 70644700037184, .int 0, .ref 90, .ref 92, .ref 94]))))).set 47 (.inr (.inl (16, [70644700037184])))) 0 0 (some (.int 0), (((((((zH0.set 37 (.inr (.inr (.inr (3, [.ref 44, .ref 6, .ref 76, .ref 78, .ref 80, .ref 88, .int 1, .int 0, .ref 96, .int 0, .int 0, .int 0, .ref 98, .ref 100, .int 0]))))).set 44 (.inr (.inr (.inr (6, [.int 1, .long 70644700037184, .int 0, .ref 90, .ref 92, .ref 94]))))).set 47 (.inr (.inl (16, [70644700037184])))).set 106 (.inl (2, 2, [0, 1]))).set 105 (.inl (0, 2, [0, 0]))).set 107 (.inl (0, 132, [0, 0, 0, 0, 0, 0, 0, 0, 0, 0, 0, 0, 0, 0, 0, 0, 0, 0, 0, 0, 0, 0, 0, 0, 0, 0, 0, 0, 0, 0, 0, 0, 0, 0, 0, 0, 0, 0, 0, 0, 0, 0, 0, 0, 0, 0, 0, 0, 0, 0, 0, 0, 0, 0, 0, 0, 0, 0, 0, 0, 0, 0, 0, 0, 0, 0, 0, 0, 0, 0, 0, 0]))).set 109 (.inl (0, 22, [0, 0, 0, 0, 0, 0, 0, 0, 0, 0, 0, 0]))), 0, 0) := zclosed (n := 476) (by decide +kernel)
set_option maxRecDepth 1000000 in
set_option maxHeartbeats 4000000 in
theorem zo_24_74 (xs : Nat → Int32) (h0 : xs 0 &&& 63 = 24) (h1 : (xs 1).toInt ≠ 0) (h3 : xs 3 = 2) (h2 : xs 2 = 2) : zDone xs := by
  refine ⟨(((((((zH0.set 37 (.inr (.inr (.inr (3, [.ref 44, .ref 6, .ref 76, .ref 78, .ref 80, .ref 88, .int 1, .int 0, .ref 96, .int 0, .int 0, .int 0, .ref 98, .ref 100, .int 0]))))).set 44 (.inr (.inr (.inr (6, [.int 1, .long 70644700037184, .int 0, .ref 90, .ref 92, .ref 94]))))).set 47 (.inr (.inl (16, [70644700037184])))).set 106 (.inl (2, 2, [0, 1]))).set 105 (.inl (0, 2, [0, 0]))).set 107 (.inl (0, 132, [0, 0, 0, 0, 0, 0, 0, 0, 0, 0, 0, 0, 0, 0, 0, 0, 0, 0, 0, 0, 0, 0, 0, 0, 0, 0, 0, 0, 0, 0, 0, 0, 0, 0, 0, 0, 0, 0, 0, 0, 0, 0, 0, 0, 0, 0, 0, 0, 0, 0, 0, 0, 0, 0, 0, 0, 0, 0, 0, 0, 0, 0, 0, 0, 0, 0, 0, 0, 0, 0, 0, 0]))).set 109 (.inl (0, 22, [0, 0, 0, 0, 0, 0, 0, 0, 0, 0, 0, 0]))), 117, 29934, ?_, by decide, by decide⟩
  refine zT_gos (f := 200000) (pc2 := 37) (ls2 := [(4, .int 0), (3, .ref 232), (2, .ref 162), (1, .ref 0), (0, .ref 11)]) (st2 := [.int (xs 0)]) (h2 := zH0) (dc2 := 117) (ds2 := 29934) 9 rfl ?_
  refine zT_gos (f := 200000) (pc2 := 40) (ls2 := [(4, .int 0), (3, .ref 232), (2, .ref 162), (1, .ref 0), (0, .ref 11)]) (st2 := [.int ((xs 0) &&& (63 : Int32))]) (h2 := zH0) (dc2 := 117) (ds2 := 29934) 2 rfl ?_
  refine zT_val h0 ?_
  refine zT_gos (f := 200000) (pc2 := 1104) (ls2 := [(4, .int 0), (3, .ref 232), (2, .ref 162), (1, .ref 0), (0, .ref 11)]) (st2 := [.int (xs 1), .ref 0]) (h2 := zH0) (dc2 := 117) (ds2 := 29934) 7 rfl ?_
  refine zT_if0 false rfl (zc_eq_f (by show ((xs 1) : Int32).toInt ≠ 0; omega)) ?_
  refine zT_here (pc2 := 1107) rfl ?_
  refine zT_gos (f := 200000) (pc2 := 1118) (ls2 := [(4, .int 0), (3, .ref 232), (2, .ref 162), (1, .ref 0), (0, .ref 11)]) (st2 := [.int (xs 2), .int 1, .ref 0]) (h2 := zH0) (dc2 := 117) (ds2 := 29934) 7 rfl ?_
  refine zT_val h2 ?_
  refine zT_gos (f := 200000) (pc2 := 1124) (ls2 := [(4, .int 0), (3, .ref 232), (2, .ref 162), (1, .ref 0), (0, .ref 11)]) (st2 := [.int (xs 3), .int 2, .int 1, .ref 0]) (h2 := zH0) (dc2 := 117) (ds2 := 29934) 5 rfl ?_
  refine zT_val h3 ?_
  refine zT_call rfl rfl (zT_le (zg0_le 6 xs) zk_o_229) ?_
  refine zT_here (pc2 := 1127) rfl ?_
  refine zT_gos (f := 200000) (pc2 := 1134) (ls2 := [(4, .int 0), (3, .ref 232), (2, .ref 162), (1, .ref 0), (0, .ref 11)]) (st2 := [.int (xs 1), .ref 162, .int 0]) (h2 := (((zH0.set 37 (.inr (.inr (.inr (3, [.ref 44, .ref 6, .ref 76, .ref 78, .ref 80, .ref 88, .int 1, .int 0, .ref 96, .int 0, .int 0, .int 0, .ref 98, .ref 100, .int 0]))))).set 44 (.inr (.inr (.inr (6, [.int 1, .long 70644700037184, .int 0, .ref 90, .ref 92, .ref 94]))))).set 47 (.inr (.inl (16, [70644700037184]))))) (dc2 := 117) (ds2 := 29934) 6 rfl ?_
  refine zT_if0 false rfl (zc_eq_f (by show ((xs 1) : Int32).toInt ≠ 0; omega)) ?_
  refine zT_here (pc2 := 1137) rfl ?_
  refine zT_gos (f := 200000) (pc2 := 1148) (ls2 := [(4, .int 0), (3, .ref 232), (2, .ref 162), (1, .ref 0), (0, .ref 11)]) (st2 := [.int (xs 2), .int 1, .ref 162, .int 0]) (h2 := (((zH0.set 37 (.inr (.inr (.inr (3, [.ref 44, .ref 6, .ref 76, .ref 78, .ref 80, .ref 88, .int 1, .int 0, .ref 96, .int 0, .int 0, .int 0, .ref 98, .ref 100, .int 0]))))).set 44 (.inr (.inr (.inr (6, [.int 1, .long 70644700037184, .int 0, .ref 90, .ref 92, .ref 94]))))).set 47 (.inr (.inl (16, [70644700037184]))))) (dc2 := 117) (ds2 := 29934) 7 rfl ?_
  refine zT_val h2 ?_
  refine zT_gos (f := 200000) (pc2 := 1154) (ls2 := [(4, .int 0), (3, .ref 232), (2, .ref 162), (1, .ref 0), (0, .ref 11)]) (st2 := [.int (xs 3), .int 2, .int 1, .ref 162, .int 0]) (h2 := (((zH0.set 37 (.inr (.inr (.inr (3, [.ref 44, .ref 6, .ref 76, .ref 78, .ref 80, .ref 88, .int 1, .int 0, .ref 96, .int 0, .int 0, .int 0, .ref 98, .ref 100, .int 0]))))).set 44 (.inr (.inr (.inr (6, [.int 1, .long 70644700037184, .int 0, .ref 90, .ref 92, .ref 94]))))).set 47 (.inr (.inl (16, [70644700037184]))))) (dc2 := 117) (ds2 := 29934) 5 rfl ?_
  refine zT_val h3 ?_
  refine zT_call rfl rfl (zT_le (zg0_le 6 xs) zk_o_230) ?_
  refine zT_here (pc2 := 1157) rfl ?_
  refine zT_gos (f := 200000) (pc2 := 1811) (ls2 := [(4, .int 6), (3, .ref 232), (2, .ref 162), (1, .ref 0), (0, .ref 11)]) (st2 := [.int 1]) (h2 := (((((((zH0.set 37 (.inr (.inr (.inr (3, [.ref 44, .ref 6, .ref 76, .ref 78, .ref 80, .ref 88, .int 1, .int 0, .ref 96, .int 0, .int 0, .int 0, .ref 98, .ref 100, .int 0]))))).set 44 (.inr (.inr (.inr (6, [.int 1, .long 70644700037184, .int 0, .ref 90, .ref 92, .ref 94]))))).set 47 (.inr (.inl (16, [70644700037184])))).set 106 (.inl (2, 2, [0, 1]))).set 105 (.inl (0, 2, [0, 0]))).set 107 (.inl (0, 132, [0, 0, 0, 0, 0, 0, 0, 0, 0, 0, 0, 0, 0, 0, 0, 0, 0, 0, 0, 0, 0, 0, 0, 0, 0, 0, 0, 0, 0, 0, 0, 0, 0, 0, 0, 0, 0, 0, 0, 0, 0, 0, 0, 0, 0, 0, 0, 0, 0, 0, 0, 0, 0, 0, 0, 0, 0, 0, 0, 0, 0, 0, 0, 0, 0, 0, 0, 0, 0, 0, 0, 0]))).set 109 (.inl (0, 22, [0, 0, 0, 0, 0, 0, 0, 0, 0, 0, 0, 0])))) (dc2 := 117) (ds2 := 29934) 10 rfl ?_
  exact zT_ret rfl rfl
set_option maxRecDepth 1000000 in
set_option maxHeartbeats 4000000 in
theorem zo_24_75 (xs : Nat → Int32) (h0 : xs 0 &&& 63 = 24) (h1 : (xs 1).toInt ≠ 0) (h3 : xs 3 = 3) (h2 : (xs 2).toInt < -2) : zDone xs := by
  refine ⟨(((((((zH0.set 37 (.inr (.inr (.inr (3, [.ref 44, .ref 6, .ref 76, .ref 78, .ref 80, .ref 88, .int 1, .int 0, .ref 96, .int 0, .int 0, .int 0, .ref 98, .ref 100, .int 0]))))).set 44 (.inr (.inr (.inr (6, [.int 1, .long 70644700037184, .int 0, .ref 90, .ref 92, .ref 94]))))).set 47 (.inr (.inl (16, [70644700037184])))).set 106 (.inl (2, 2, [0, 1]))).set 105 (.inl (0, 2, [0, 0]))).set 107 (.inl (0, 132, [0, 0, 0, 0, 0, 0, 0, 0, 0, 0, 0, 0, 0, 0, 0, 0, 0, 0, 0, 0, 0, 0, 0, 0, 0, 0, 0, 0, 0, 0, 0, 0, 0, 0, 0, 0, 0, 0, 0, 0, 0, 0, 0, 0, 0, 0, 0, 0, 0, 0, 0, 0, 0, 0, 0, 0, 0, 0, 0, 0, 0, 0, 0, 0, 0, 0, 0, 0, 0, 0, 0, 0]))).set 109 (.inl (0, 22, [0, 0, 0, 0, 0, 0, 0, 0, 0, 0, 0, 0]))), 117, 29934, ?_, by decide, by decide⟩
  refine zT_gos (f := 200000) (pc2 := 37) (ls2 := [(4, .int 0), (3, .ref 232), (2, .ref 162), (1, .ref 0), (0, .ref 11)]) (st2 := [.int (xs 0)]) (h2 := zH0) (dc2 := 117) (ds2 := 29934) 9 rfl ?_
  refine zT_gos (f := 200000) (pc2 := 40) (ls2 := [(4, .int 0), (3, .ref 232), (2, .ref 162), (1, .ref 0), (0, .ref 11)]) (st2 := [.int ((xs 0) &&& (63 : Int32))]) (h2 := zH0) (dc2 := 117) (ds2 := 29934) 2 rfl ?_
  refine zT_val h0 ?_
  refine zT_gos (f := 200000) (pc2 := 1104) (ls2 := [(4, .int 0), (3, .ref 232), (2, .ref 162), (1, .ref 0), (0, .ref 11)]) (st2 := [.int (xs 1), .ref 0]) (h2 := zH0) (dc2 := 117) (ds2 := 29934) 7 rfl ?_
  refine zT_if0 false rfl (zc_eq_f (by show ((xs 1) : Int32).toInt ≠ 0; omega)) ?_
  refine zT_here (pc2 := 1107) rfl ?_
  refine zT_gos (f := 200000) (pc2 := 1118) (ls2 := [(4, .int 0), (3, .ref 232), (2, .ref 162), (1, .ref 0), (0, .ref 11)]) (st2 := [.int (xs 2), .int 1, .ref 0]) (h2 := zH0) (dc2 := 117) (ds2 := 29934) 7 rfl ?_
  refine zT_gos (f := 200000) (pc2 := 1124) (ls2 := [(4, .int 0), (3, .ref 232), (2, .ref 162), (1, .ref 0), (0, .ref 11)]) (st2 := [.int (xs 3), .int (xs 2), .int 1, .ref 0]) (h2 := zH0) (dc2 := 117) (ds2 := 29934) 5 rfl ?_
  refine zT_val h3 ?_
  refine zT_call (v := some (.int (-9999))) (h2 := (((zH0.set 37 (.inr (.inr (.inr (3, [.ref 44, .ref 6, .ref 76, .ref 78, .ref 80, .ref 88, .int 1, .int 0, .ref 96, .int 0, .int 0, .int 0, .ref 98, .ref 100, .int 0]))))).set 44 (.inr (.inr (.inr (6, [.int 1, .long 70644700037184, .int 0, .ref 90, .ref 92, .ref 94]))))).set 47 (.inr (.inl (16, [70644700037184]))))) (d1 := 0) (s1 := 0) rfl rfl ?_ ?_
  · refine zT_gos (f := 200000) (pc2 := 42) (ls2 := [(4, .ref 88), (0, .ref 0), (1, .int 1), (2, .int (xs 2)), (3, .int 3)]) (st2 := [.int (-2), .int (xs 2)]) (h2 := (((zH0.set 37 (.inr (.inr (.inr (3, [.ref 44, .ref 6, .ref 76, .ref 78, .ref 80, .ref 88, .int 1, .int 0, .ref 96, .int 0, .int 0, .int 0, .ref 98, .ref 100, .int 0]))))).set 44 (.inr (.inr (.inr (6, [.int 1, .long 70644700037184, .int 0, .ref 90, .ref 92, .ref 94]))))).set 47 (.inr (.inl (16, [70644700037184]))))) (dc2 := 0) (ds2 := 0) 18 rfl ?_
    refine zT_if2 true rfl (zc_lt_t (by show ((xs 2) : Int32).toInt < -2; omega)) ?_
    refine zT_here (pc2 := 62) rfl ?_
    refine zT_gos (f := 200000) (pc2 := 65) (ls2 := [(4, .ref 88), (0, .ref 0), (1, .int 1), (2, .int (xs 2)), (3, .int 3)]) (st2 := [.int (-9999)]) (h2 := (((zH0.set 37 (.inr (.inr (.inr (3, [.ref 44, .ref 6, .ref 76, .ref 78, .ref 80, .ref 88, .int 1, .int 0, .ref 96, .int 0, .int 0, .int 0, .ref 98, .ref 100, .int 0]))))).set 44 (.inr (.inr (.inr (6, [.int 1, .long 70644700037184, .int 0, .ref 90, .ref 92, .ref 94]))))).set 47 (.inr (.inl (16, [70644700037184]))))) (dc2 := 0) (ds2 := 0) 1 rfl ?_
    exact zT_ret rfl rfl
  refine zT_here (pc2 := 1127) rfl ?_
  refine zT_gos (f := 200000) (pc2 := 1134) (ls2 := [(4, .int 0), (3, .ref 232), (2, .ref 162), (1, .ref 0), (0, .ref 11)]) (st2 := [.int (xs 1), .ref 162, .int (-9999)]) (h2 := (((zH0.set 37 (.inr (.inr (.inr (3, [.ref 44, .ref 6, .ref 76, .ref 78, .ref 80, .ref 88, .int 1, .int 0, .ref 96, .int 0, .int 0, .int 0, .ref 98, .ref 100, .int 0]))))).set 44 (.inr (.inr (.inr (6, [.int 1, .long 70644700037184, .int 0, .ref 90, .ref 92, .ref 94]))))).set 47 (.inr (.inl (16, [70644700037184]))))) (dc2 := 117) (ds2 := 29934) 6 rfl ?_
  refine zT_if0 false rfl (zc_eq_f (by show ((xs 1) : Int32).toInt ≠ 0; omega)) ?_
  refine zT_here (pc2 := 1137) rfl ?_
  refine zT_gos (f := 200000) (pc2 := 1148) (ls2 := [(4, .int 0), (3, .ref 232), (2, .ref 162), (1, .ref 0), (0, .ref 11)]) (st2 := [.int (xs 2), .int 1, .ref 162, .int (-9999)]) (h2 := (((zH0.set 37 (.inr (.inr (.inr (3, [.ref 44, .ref 6, .ref 76, .ref 78, .ref 80, .ref 88, .int 1, .int 0, .ref 96, .int 0, .int 0, .int 0, .ref 98, .ref 100, .int 0]))))).set 44 (.inr (.inr (.inr (6, [.int 1, .long 70644700037184, .int 0, .ref 90, .ref 92, .ref 94]))))).set 47 (.inr (.inl (16, [70644700037184]))))) (dc2 := 117) (ds2 := 29934) 7 rfl ?_
  refine zT_gos (f := 200000) (pc2 := 1154) (ls2 := [(4, .int 0), (3, .ref 232), (2, .ref 162), (1, .ref 0), (0, .ref 11)]) (st2 := [.int (xs 3), .int (xs 2), .int 1, .ref 162, .int (-9999)]) (h2 := (((zH0.set 37 (.inr (.inr (.inr (3, [.ref 44, .ref 6, .ref 76, .ref 78, .ref 80, .ref 88, .int 1, .int 0, .ref 96, .int 0, .int 0, .int 0, .ref 98, .ref 100, .int 0]))))).set 44 (.inr (.inr (.inr (6, [.int 1, .long 70644700037184, .int 0, .ref 90, .ref 92, .ref 94]))))).set 47 (.inr (.inl (16, [70644700037184]))))) (dc2 := 117) (ds2 := 29934) 5 rfl ?_
  refine zT_val h3 ?_
  refine zT_call (v := some (.int (-9999))) (h2 := (((((((zH0.set 37 (.inr (.inr (.inr (3, [.ref 44, .ref 6, .ref 76, .ref 78, .ref 80, .ref 88, .int 1, .int 0, .ref 96, .int 0, .int 0, .int 0, .ref 98, .ref 100, .int 0]))))).set 44 (.inr (.inr (.inr (6, [.int 1, .long 70644700037184, .int 0, .ref 90, .ref 92, .ref 94]))))).set 47 (.inr (.inl (16, [70644700037184])))).set 106 (.inl (2, 2, [0, 1]))).set 105 (.inl (0, 2, [0, 0]))).set 107 (.inl (0, 132, [0, 0, 0, 0, 0, 0, 0, 0, 0, 0, 0, 0, 0, 0, 0, 0, 0, 0, 0, 0, 0, 0, 0, 0, 0, 0, 0, 0, 0, 0, 0, 0, 0, 0, 0, 0, 0, 0, 0, 0, 0, 0, 0, 0, 0, 0, 0, 0, 0, 0, 0, 0, 0, 0, 0, 0, 0, 0, 0, 0, 0, 0, 0, 0, 0, 0, 0, 0, 0, 0, 0, 0]))).set 109 (.inl (0, 22, [0, 0, 0, 0, 0, 0, 0, 0, 0, 0, 0, 0])))) (d1 := 0) (s1 := 0) rfl rfl ?_ ?_
  · refine zT_gos (f := 200000) (pc2 := 7) (ls2 := [(0, .ref 162), (1, .int 1), (2, .int (xs 2)), (3, .int 3)]) (st2 := [.int 1, .ref 162]) (h2 := (((zH0.set 37 (.inr (.inr (.inr (3, [.ref 44, .ref 6, .ref 76, .ref 78, .ref 80, .ref 88, .int 1, .int 0, .ref 96, .int 0, .int 0, .int 0, .ref 98, .ref 100, .int 0]))))).set 44 (.inr (.inr (.inr (6, [.int 1, .long 70644700037184, .int 0, .ref 90, .ref 92, .ref 94]))))).set 47 (.inr (.inl (16, [70644700037184]))))) (dc2 := 0) (ds2 := 0) 5 rfl ?_
    refine zT_call rfl rfl (zT_le (zg0_le 6 xs) zk_o_20) ?_
    refine zT_here (pc2 := 10) rfl ?_
    refine zT_gos (f := 200000) (pc2 := 29) (ls2 := [(5, .int 2), (4, .int 0), (0, .ref 162), (1, .int 1), (2, .int (xs 2)), (3, .int 3)]) (st2 := [.int (-2), .int (xs 2)]) (h2 := (((((((zH0.set 37 (.inr (.inr (.inr (3, [.ref 44, .ref 6, .ref 76, .ref 78, .ref 80, .ref 88, .int 1, .int 0, .ref 96, .int 0, .int 0, .int 0, .ref 98, .ref 100, .int 0]))))).set 44 (.inr (.inr (.inr (6, [.int 1, .long 70644700037184, .int 0, .ref 90, .ref 92, .ref 94]))))).set 47 (.inr (.inl (16, [70644700037184])))).set 106 (.inl (2, 2, [0, 1]))).set 105 (.inl (0, 2, [0, 0]))).set 107 (.inl (0, 132, [0, 0, 0, 0, 0, 0, 0, 0, 0, 0, 0, 0, 0, 0, 0, 0, 0, 0, 0, 0, 0, 0, 0, 0, 0, 0, 0, 0, 0, 0, 0, 0, 0, 0, 0, 0, 0, 0, 0, 0, 0, 0, 0, 0, 0, 0, 0, 0, 0, 0, 0, 0, 0, 0, 0, 0, 0, 0, 0, 0, 0, 0, 0, 0, 0, 0, 0, 0, 0, 0, 0, 0]))).set 109 (.inl (0, 22, [0, 0, 0, 0, 0, 0, 0, 0, 0, 0, 0, 0])))) (dc2 := 0) (ds2 := 0) 11 rfl ?_
    refine zT_if2 true rfl (zc_lt_t (by show ((xs 2) : Int32).toInt < -2; omega)) ?_
    refine zT_here (pc2 := 48) rfl ?_
    refine zT_gos (f := 200000) (pc2 := 71) (ls2 := [(5, .int 2), (4, .int 0), (0, .ref 162), (1, .int 1), (2, .int (xs 2)), (3, .int 3)]) (st2 := [.int (-9999)]) (h2 := (((((((zH0.set 37 (.inr (.inr (.inr (3, [.ref 44, .ref 6, .ref 76, .ref 78, .ref 80, .ref 88, .int 1, .int 0, .ref 96, .int 0, .int 0, .int 0, .ref 98, .ref 100, .int 0]))))).set 44 (.inr (.inr (.inr (6, [.int 1, .long 70644700037184, .int 0, .ref 90, .ref 92, .ref 94]))))).set 47 (.inr (.inl (16, [70644700037184])))).set 106 (.inl (2, 2, [0, 1]))).set 105 (.inl (0, 2, [0, 0]))).set 107 (.inl (0, 132, [0, 0, 0, 0, 0, 0, 0, 0, 0, 0, 0, 0, 0, 0, 0, 0, 0, 0, 0, 0, 0, 0, 0, 0, 0, 0, 0, 0, 0, 0, 0, 0, 0, 0, 0, 0, 0, 0, 0, 0, 0, 0, 0, 0, 0, 0, 0, 0, 0, 0, 0, 0, 0, 0, 0, 0, 0, 0, 0, 0, 0, 0, 0, 0, 0, 0, 0, 0, 0, 0, 0, 0]))).set 109 (.inl (0, 22, [0, 0, 0, 0, 0, 0, 0, 0, 0, 0, 0, 0])))) (dc2 := 0) (ds2 := 0) 2 rfl ?_
    exact zT_ret rfl rfl
  refine zT_here (pc2 := 1157) rfl ?_
  refine zT_gos (f := 200000) (pc2 := 1811) (ls2 := [(4, .int 6), (3, .ref 232), (2, .ref 162), (1, .ref 0), (0, .ref 11)]) (st2 := [.int 1]) (h2 := (((((((zH0.set 37 (.inr (.inr (.inr (3, [.ref 44, .ref 6, .ref 76, .ref 78, .ref 80, .ref 88, .int 1, .int 0, .ref 96, .int 0, .int 0, .int 0, .ref 98, .ref 100, .int 0]))))).set 44 (.inr (.inr (.inr (6, [.int 1, .long 70644700037184, .int 0, .ref 90, .ref 92, .ref 94]))))).set 47 (.inr (.inl (16, [70644700037184])))).set 106 (.inl (2, 2, [0, 1]))).set 105 (.inl (0, 2, [0, 0]))).set 107 (.inl (0, 132, [0, 0, 0, 0, 0, 0, 0, 0, 0, 0, 0, 0, 0, 0, 0, 0, 0, 0, 0, 0, 0, 0, 0, 0, 0, 0, 0, 0, 0, 0, 0, 0, 0, 0, 0, 0, 0, 0, 0, 0, 0, 0, 0, 0, 0, 0, 0, 0, 0, 0, 0, 0, 0, 0, 0, 0, 0, 0, 0, 0, 0, 0, 0, 0, 0, 0, 0, 0, 0, 0, 0, 0]))).set 109 (.inl (0, 22, [0, 0, 0, 0, 0, 0, 0, 0, 0, 0, 0, 0])))) (dc2 := 117) (ds2 := 29934) 10 rfl ?_
  exact zT_ret rfl rfl
set_option maxRecDepth 1000000 in
set_option maxHeartbeats 4000000 in
theorem zo_24_76 (xs : Nat → Int32) (h0 : xs 0 &&& 63 = 24) (h1 : (xs 1).toInt ≠ 0) (h3 : xs 3 = 3) (h2 : 2 < (xs 2).toInt) : zDone xs := by
  refine ⟨(((((((zH0.set 37 (.inr (.inr (.inr (3, [.ref 44, .ref 6, .ref 76, .ref 78, .ref 80, .ref 88, .int 1, .int 0, .ref 96, .int 0, .int 0, .int 0, .ref 98, .ref 100, .int 0]))))).set 44 (.inr (.inr (.inr (6, [.int 1, .long 70644700037184, .int 0, .ref 90, .ref 92, .ref 94]))))).set 47 (.inr (.inl (16, [70644700037184])))).set 106 (.inl (2, 2, [0, 1]))).set 105 (.inl (0, 2, [0, 0]))).set 107 (.inl (0, 132, [0, 0, 0, 0, 0, 0, 0, 0, 0, 0, 0, 0, 0, 0, 0, 0, 0, 0, 0, 0, 0, 0, 0, 0, 0, 0, 0, 0, 0, 0, 0, 0, 0, 0, 0, 0, 0, 0, 0, 0, 0, 0, 0, 0, 0, 0, 0, 0, 0, 0, 0, 0, 0, 0, 0, 0, 0, 0, 0, 0, 0, 0, 0, 0, 0, 0, 0, 0, 0, 0, 0, 0]))).set 109 (.inl (0, 22, [0, 0, 0, 0, 0, 0, 0, 0, 0, 0, 0, 0]))), 117, 29934, ?_, by decide, by decide⟩
  refine zT_gos (f := 200000) (pc2 := 37) (ls2 := [(4, .int 0), (3, .ref 232), (2, .ref 162), (1, .ref 0), (0, .ref 11)]) (st2 := [.int (xs 0)]) (h2 := zH0) (dc2 := 117) (ds2 := 29934) 9 rfl ?_
  refine zT_gos (f := 200000) (pc2 := 40) (ls2 := [(4, .int 0), (3, .ref 232), (2, .ref 162), (1, .ref 0), (0, .ref 11)]) (st2 := [.int ((xs 0) &&& (63 : Int32))]) (h2 := zH0) (dc2 := 117) (ds2 := 29934) 2 rfl ?_
  refine zT_val h0 ?_
  refine zT_gos (f := 200000) (pc2 := 1104) (ls2 := [(4, .int 0), (3, .ref 232), (2, .ref 162), (1, .ref 0), (0, .ref 11)]) (st2 := [.int (xs 1), .ref 0]) (h2 := zH0) (dc2 := 117) (ds2 := 29934) 7 rfl ?_
  refine zT_if0 false rfl (zc_eq_f (by show ((xs 1) : Int32).toInt ≠ 0; omega)) ?_
  refine zT_here (pc2 := 1107) rfl ?_
  refine zT_gos (f := 200000) (pc2 := 1118) (ls2 := [(4, .int 0), (3, .ref 232), (2, .ref 162), (1, .ref 0), (0, .ref 11)]) (st2 := [.int (xs 2), .int 1, .ref 0]) (h2 := zH0) (dc2 := 117) (ds2 := 29934) 7 rfl ?_
  refine zT_gos (f := 200000) (pc2 := 1124) (ls2 := [(4, .int 0), (3, .ref 232), (2, .ref 162), (1, .ref 0), (0, .ref 11)]) (st2 := [.int (xs 3), .int (xs 2), .int 1, .ref 0]) (h2 := zH0) (dc2 := 117) (ds2 := 29934) 5 rfl ?_
  refine zT_val h3 ?_
  refine zT_call (v := some (.int (-9999))) (h2 := (((zH0.set 37 (.inr (.inr (.inr (3, [.ref 44, .ref 6, .ref 76, .ref 78, .ref 80, .ref 88, .int 1, .int 0, .ref 96, .int 0, .int 0, .int 0, .ref 98, .ref 100, .int 0]))))).set 44 (.inr (.inr (.inr (6, [.int 1, .long 70644700037184, .int 0, .ref 90, .ref 92, .ref 94]))))).set 47 (.inr (.inl (16, [70644700037184]))))) (d1 := 0) (s1 := 0) rfl rfl ?_ ?_
  · refine zT_gos (f := 200000) (pc2 := 42) (ls2 := [(4, .ref 88), (0, .ref 0), (1, .int 1), (2, .int (xs 2)), (3, .int 3)]) (st2 := [.int (-2), .int (xs 2)]) (h2 := (((zH0.set 37 (.inr (.inr (.inr (3, [.ref 44, .ref 6, .ref 76, .ref 78, .ref 80, .ref 88, .int 1, .int 0, .ref 96, .int 0, .int 0, .int 0, .ref 98, .ref 100, .int 0]))))).set 44 (.inr (.inr (.inr (6, [.int 1, .long 70644700037184, .int 0, .ref 90, .ref 92, .ref 94]))))).set 47 (.inr (.inl (16, [70644700037184]))))) (dc2 := 0) (ds2 := 0) 18 rfl ?_
    refine zT_if2 false rfl (zc_lt_f (by show ((xs 2) : Int32).toInt ≥ -2; omega)) ?_
    refine zT_here (pc2 := 45) rfl ?_
    refine zT_gos (f := 200000) (pc2 := 59) (ls2 := [(4, .ref 88), (0, .ref 0), (1, .int 1), (2, .int (xs 2)), (3, .int 3)]) (st2 := [.int 2, .int (xs 2)]) (h2 := (((zH0.set 37 (.inr (.inr (.inr (3, [.ref 44, .ref 6, .ref 76, .ref 78, .ref 80, .ref 88, .int 1, .int 0, .ref 96, .int 0, .int 0, .int 0, .ref 98, .ref 100, .int 0]))))).set 44 (.inr (.inr (.inr (6, [.int 1, .long 70644700037184, .int 0, .ref 90, .ref 92, .ref 94]))))).set 47 (.inr (.inl (16, [70644700037184]))))) (dc2 := 0) (ds2 := 0) 7 rfl ?_
    refine zT_if2 false rfl (zc_le_f (by show ((xs 2) : Int32).toInt > 2; omega)) ?_
    refine zT_here (pc2 := 62) rfl ?_
    refine zT_gos (f := 200000) (pc2 := 65) (ls2 := [(4, .ref 88), (0, .ref 0), (1, .int 1), (2, .int (xs 2)), (3, .int 3)]) (st2 := [.int (-9999)]) (h2 := (((zH0.set 37 (.inr (.inr (.inr (3, [.ref 44, .ref 6, .ref 76, .ref 78, .ref 80, .ref 88, .int 1, .int 0, .ref 96, .int 0, .int 0, .int 0, .ref 98, .ref 100, .int 0]))))).set 44 (.inr (.inr (.inr (6, [.int 1, .long 70644700037184, .int 0, .ref 90, .ref 92, .ref 94]))))).set 47 (.inr (.inl (16, [70644700037184]))))) (dc2 := 0) (ds2 := 0) 1 rfl ?_
    exact zT_ret rfl rfl
  refine zT_here (pc2 := 1127) rfl ?_
  refine zT_gos (f := 200000) (pc2 := 1134) (ls2 := [(4, .int 0), (3, .ref 232), (2, .ref 162), (1, .ref 0), (0, .ref 11)]) (st2 := [.int (xs 1), .ref 162, .int (-9999)]) (h2 := (((zH0.set 37 (.inr (.inr (.inr (3, [.ref 44, .ref 6, .ref 76, .ref 78, .ref 80, .ref 88, .int 1, .int 0, .ref 96, .int 0, .int 0, .int 0, .ref 98, .ref 100, .int 0]))))).set 44 (.inr (.inr (.inr (6, [.int 1, .long 70644700037184, .int 0, .ref 90, .ref 92, .ref 94]))))).set 47 (.inr (.inl (16, [70644700037184]))))) (dc2 := 117) (ds2 := 29934) 6 rfl ?_
  refine zT_if0 false rfl (zc_eq_f (by show ((xs 1) : Int32).toInt ≠ 0; omega)) ?_
  refine zT_here (pc2 := 1137) rfl ?_
  refine zT_gos (f := 200000) (pc2 := 1148) (ls2 := [(4, .int 0), (3, .ref 232), (2, .ref 162), (1, .ref 0), (0, .ref 11)]) (st2 := [.int (xs 2), .int 1, .ref 162, .int (-9999)]) (h2 := (((zH0.set 37 (.inr (.inr (.inr (3, [.ref 44, .ref 6, .ref 76, .ref 78, .ref 80, .ref 88, .int 1, .int 0, .ref 96, .int 0, .int 0, .int 0, .ref 98, .ref 100, .int 0]))))).set 44 (.inr (.inr (.inr (6, [.int 1, .long 70644700037184, .int 0, .ref 90, .ref 92, .ref 94]))))).set 47 (.inr (.inl (16, [70644700037184]))))) (dc2 := 117) (ds2 := 29934) 7 rfl ?_
  refine zT_gos (f := 200000) (pc2 := 1154) (ls2 := [(4, .int 0), (3, .ref 232), (2, .ref 162), (1, .ref 0), (0, .ref 11)]) (st2 := [.int (xs 3), .int (xs 2), .int 1, .ref 162, .int (-9999)]) (h2 := (((zH0.set 37 (.inr (.inr (.inr (3, [.ref 44, .ref 6, .ref 76, .ref 78, .ref 80, .ref 88, .int 1, .int 0, .ref 96, .int 0, .int 0, .int 0, .ref 98, .ref 100, .int 0]))))).set 44 (.inr (.inr (.inr (6, [.int 1, .long 70644700037184, .int 0, .ref 90, .ref 92, .ref 94]))))).set 47 (.inr (.inl (16, [70644700037184]))))) (dc2 := 117) (ds2 := 29934) 5 rfl ?_
  refine zT_val h3 ?_
  refine zT_call (v := some (.int (-9999))) (h2 := (((((((zH0.set 37 (.inr (.inr (.inr (3, [.ref 44, .ref 6, .ref 76, .ref 78, .ref 80, .ref 88, .int 1, .int 0, .ref 96, .int 0, .int 0, .int 0, .ref 98, .ref 100, .int 0]))))).set 44 (.inr (.inr (.inr (6, [.int 1, .long 70644700037184, .int 0, .ref 90, .ref 92, .ref 94]))))).set 47 (.inr (.inl (16, [70644700037184])))).set 106 (.inl (2, 2, [0, 1]))).set 105 (.inl (0, 2, [0, 0]))).set 107 (.inl (0, 132, [0, 0, 0, 0, 0, 0, 0, 0, 0, 0, 0, 0, 0, 0, 0, 0, 0, 0, 0, 0, 0, 0, 0, 0, 0, 0, 0, 0, 0, 0, 0, 0, 0, 0, 0, 0, 0, 0, 0, 0, 0, 0, 0, 0, 0, 0, 0, 0, 0, 0, 0, 0, 0, 0, 0, 0, 0, 0, 0, 0, 0, 0, 0, 0, 0, 0, 0, 0, 0, 0, 0, 0]))).set 109 (.inl (0, 22, [0, 0, 0, 0, 0, 0, 0, 0, 0, 0, 0, 0])))) (d1 := 0) (s1 := 0) rfl rfl ?_ ?_
  · refine zT_gos (f := 200000) (pc2 := 7) (ls2 := [(0, .ref 162), (1, .int 1), (2, .int (xs 2)), (3, .int 3)]) (st2 := [.int 1, .ref 162]) (h2 := (((zH0.set 37 (.inr (.inr (.inr (3, [.ref 44, .ref 6, .ref 76, .ref 78, .ref 80, .ref 88, .int 1, .int 0, .ref 96, .int 0, .int 0, .int 0, .ref 98, .ref 100, .int 0]))))).set 44 (.inr (.inr (.inr (6, [.int 1, .long 70644700037184, .int 0, .ref 90, .ref 92, .ref 94]))))).set 47 (.inr (.inl (16, [70644700037184]))))) (dc2 := 0) (ds2 := 0) 5 rfl ?_
    refine zT_call rfl rfl (zT_le (zg0_le 6 xs) zk_o_20) ?_
    refine zT_here (pc2 := 10) rfl ?_
    refine zT_gos (f := 200000) (pc2 := 29) (ls2 := [(5, .int 2), (4, .int 0), (0, .ref 162), (1, .int 1), (2, .int (xs 2)), (3, .int 3)]) (st2 := [.int (-2), .int (xs 2)]) (h2 := (((((((zH0.set 37 (.inr (.inr (.inr (3, [.ref 44, .ref 6, .ref 76, .ref 78, .ref 80, .ref 88, .int 1, .int 0, .ref 96, .int 0, .int 0, .int 0, .ref 98, .ref 100, .int 0]))))).set 44 (.inr (.inr (.inr (6, [.int 1, .long 70644700037184, .int 0, .ref 90, .ref 92, .ref 94]))))).set 47 (.inr (.inl (16, [70644700037184])))).set 106 (.inl (2, 2, [0, 1]))).set 105 (.inl (0, 2, [0, 0]))).set 107 (.inl (0, 132, [0, 0, 0, 0, 0, 0, 0, 0, 0, 0, 0, 0, 0, 0, 0, 0, 0, 0, 0, 0, 0, 0, 0, 0, 0, 0, 0, 0, 0, 0, 0, 0, 0, 0, 0, 0, 0, 0, 0, 0, 0, 0, 0, 0, 0, 0, 0, 0, 0, 0, 0, 0, 0, 0, 0, 0, 0, 0, 0, 0, 0, 0, 0, 0, 0, 0, 0, 0, 0, 0, 0, 0]))).set 109 (.inl (0, 22, [0, 0, 0, 0, 0, 0, 0, 0, 0, 0, 0, 0])))) (dc2 := 0) (ds2 := 0) 11 rfl ?_
    refine zT_if2 false rfl (zc_lt_f (by show ((xs 2) : Int32).toInt ≥ -2; omega)) ?_
    refine zT_here (pc2 := 32) rfl ?_
    refine zT_gos (f := 200000) (pc2 := 38) (ls2 := [(5, .int 2), (4, .int 0), (0, .ref 162), (1, .int 1), (2, .int (xs 2)), (3, .int 3)]) (st2 := [.int 2, .int (xs 2)]) (h2 := (((((((zH0.set 37 (.inr (.inr (.inr (3, [.ref 44, .ref 6, .ref 76, .ref 78, .ref 80, .ref 88, .int 1, .int 0, .ref 96, .int 0, .int 0, .int 0, .ref 98, .ref 100, .int 0]))))).set 44 (.inr (.inr (.inr (6, [.int 1, .long 70644700037184, .int 0, .ref 90, .ref 92, .ref 94]))))).set 47 (.inr (.inl (16, [70644700037184])))).set 106 (.inl (2, 2, [0, 1]))).set 105 (.inl (0, 2, [0, 0]))).set 107 (.inl (0, 132, [0, 0, 0, 0, 0, 0, 0, 0, 0, 0, 0, 0, 0, 0, 0, 0, 0, 0, 0, 0, 0, 0, 0, 0, 0, 0, 0, 0, 0, 0, 0, 0, 0, 0, 0, 0, 0, 0, 0, 0, 0, 0, 0, 0, 0, 0, 0, 0, 0, 0, 0, 0, 0, 0, 0, 0, 0, 0, 0, 0, 0, 0, 0, 0, 0, 0, 0, 0, 0, 0, 0, 0]))).set 109 (.inl (0, 22, [0, 0, 0, 0, 0, 0, 0, 0, 0, 0, 0, 0])))) (dc2 := 0) (ds2 := 0) 4 rfl ?_
    refine zT_if2 true rfl (zc_gt_t (by show ((xs 2) : Int32).toInt > 2; omega)) ?_
    refine zT_here (pc2 := 48) rfl ?_
    refine zT_gos (f := 200000) (pc2 := 71) (ls2 := [(5, .int 2), (4, .int 0), (0, .ref 162), (1, .int 1), (2, .int (xs 2)), (3, .int 3)]) (st2 := [.int (-9999)]) (h2 := (((((((zH0.set 37 (.inr (.inr (.inr (3, [.ref 44, .ref 6, .ref 76, .ref 78, .ref 80, .ref 88, .int 1, .int 0, .ref 96, .int 0, .int 0, .int 0, .ref 98, .ref 100, .int 0]))))).set 44 (.inr (.inr (.inr (6, [.int 1, .long 70644700037184, .int 0, .ref 90, .ref 92, .ref 94]))))).set 47 (.inr (.inl (16, [70644700037184])))).set 106 (.inl (2, 2, [0, 1]))).set 105 (.inl (0, 2, [0, 0]))).set 107 (.inl (0, 132, [0, 0, 0, 0, 0, 0, 0, 0, 0, 0, 0, 0, 0, 0, 0, 0, 0, 0, 0, 0, 0, 0, 0, 0, 0, 0, 0, 0, 0, 0, 0, 0, 0, 0, 0, 0, 0, 0, 0, 0, 0, 0, 0, 0, 0, 0, 0, 0, 0, 0, 0, 0, 0, 0, 0, 0, 0, 0, 0, 0, 0, 0, 0, 0, 0, 0, 0, 0, 0, 0, 0, 0]))).set 109 (.inl (0, 22, [0, 0, 0, 0, 0, 0, 0, 0, 0, 0, 0, 0])))) (dc2 := 0) (ds2 := 0) 2 rfl ?_
    exact zT_ret rfl rfl
  refine zT_here (pc2 := 1157) rfl ?_
  refine zT_gos (f := 200000) (pc2 := 1811) (ls2 := [(4, .int 6), (3, .ref 232), (2, .ref 162), (1, .ref 0), (0, .ref 11)]) (st2 := [.int 1]) (h2 := (((((((zH0.set 37 (.inr (.inr (.inr (3, [.ref 44, .ref 6, .ref 76, .ref 78, .ref 80, .ref 88, .int 1, .int 0, .ref 96, .int 0, .int 0, .int 0, .ref 98, .ref 100, .int 0]))))).set 44 (.inr (.inr (.inr (6, [.int 1, .long 70644700037184, .int 0, .ref 90, .ref 92, .ref 94]))))).set 47 (.inr (.inl (16, [70644700037184])))).set 106 (.inl (2, 2, [0, 1]))).set 105 (.inl (0, 2, [0, 0]))).set 107 (.inl (0, 132, [0, 0, 0, 0, 0, 0, 0, 0, 0, 0, 0, 0, 0, 0, 0, 0, 0, 0, 0, 0, 0, 0, 0, 0, 0, 0, 0, 0, 0, 0, 0, 0, 0, 0, 0, 0, 0, 0, 0, 0, 0, 0, 0, 0, 0, 0, 0, 0, 0, 0, 0, 0, 0, 0, 0, 0, 0, 0, 0, 0, 0, 0, 0, 0, 0, 0, 0, 0, 0, 0, 0, 0]))).set 109 (.inl (0, 22, [0, 0, 0, 0, 0, 0, 0, 0, 0, 0, 0, 0])))) (dc2 := 117) (ds2 := 29934) 10 rfl ?_
  exact zT_ret rfl rfl
set_option maxRecDepth 1000000 in
theorem zk_o_231 : zT zg0 zF zP 125 0 [(0, .ref 0), (1, .int 1), (2, .int (-2)), (3, .int 3)] [] zH0 0 0 (some (.int 0), (((zH0.set 37 (.inr (.inr (.inr (3, [.ref 44, .ref 6, .ref 76, .ref 78, .ref 80, .ref 88, .int 1, .int 0, .ref 96, .int 0, .int 0, .int 0, .ref 98, .ref 100, .int 0]))))).set 44 (.inr (.inr (.inr (6, [.int 1, .long 70644700037184, .int 0, .ref 90, .ref 92, .ref 94]))))).set 47 (.inr (.inl (16, [70644700037184])))), 0, 0) := zclosed (n := 340) (by decide +kernel)
set_option maxRecDepth 1000000 in
theorem zk_o_232 : zT zg0 zF zP 256 0 [(0, .ref 162), (1, .int 1), (2, .int (-2)), (3, .int 3)] [] (((zH0.set 37 (.inr (.inr (.inr (3, [.ref 44, .ref 6, .ref 76, .ref 78, .ref 80, .ref 88, .int 1, .int 0, .ref 96, .int 0, .int 0, .int 0, .ref 98, .ref 100, .int 0]))))).set 44 (.inr (.inr (.inr (6, [.int 1, .long 70644700037184, .int 0, .ref 90, .ref 92, .ref 94]))))).set 47 (.inr (.inl (16, [70644700037184])))) 0 0 (some (.int 0), (((((((zH0.set 37 (.inr (.inr (.inr (3, [.ref 44, .ref 6, .ref 76, .ref 78, .ref 80, .ref 88, .int 1, .int 0, .ref 96, .int 0, .int 0, .int 0, .ref 98, .ref 100, .int 0]))))).set 44 (.inr (.inr (.inr (6, [.int 1, .long 70644700037184, .int 0, .ref 90, .ref 92, .ref 94]))))).set 47 (.inr (.inl (16, [70644700037184])))).set 106 (.inl (2, 2, [0, 1]))).set 105 (.inl (0, 2, [0, 0]))).set 107 (.inl (0, 132, [0, 0, 0, 0, 0, 0, 0, 0, 0, 0, 0, 0, 0, 0, 0, 0, 0, 0, 0, 0, 0, 0, 0, 0, 0, 0, 0, 0, 0, 0, 0, 0, 0, 0, 0, 0, 0, 0, 0, 0, 0, 0, 0, 0, 0, 0, 0, 0, 0, 0, 0, 0, 0, 0, 0, 0, 0, 0, 0, 0, 0, 0, 0, 0, 0, 0, 0, 0, 0, 0, 0, 0]))).set 109 (.inl (0, 22, [0, 0, 0, 0, 0, 0, 0, 0, 0, 0, 0, 0]))), 0, 0) := zclosed (n := 380) (by decide +kernel)
set_option maxRecDepth 1000000 in
set_option maxHeartbeats 4000000 in
theorem zo_24_77 (xs : Nat → Int32) (h0 : xs 0 &&& 63 = 24) (h1 : (xs 1).toInt ≠ 0) (h3 : xs 3 = 3) (h2 : xs 2 = (-2)) : zDone xs := by
  refine ⟨(((((((zH0.set 37 (.inr (.inr (.inr (3, [.ref 44, .ref 6, .ref 76, .ref 78, .ref 80, .ref 88, .int 1, .int 0, .ref 96, .int 0, .int 0, .int 0, .ref 98, .ref 100, .int 0]))))).set 44 (.inr (.inr (.inr (6, [.int 1, .long 70644700037184, .int 0, .ref 90, .ref 92, .ref 94]))))).set 47 (.inr (.inl (16, [70644700037184])))).set 106 (.inl (2, 2, [0, 1]))).set 105 (.inl (0, 2, [0, 0]))).set 107 (.inl (0, 132, [0, 0, 0, 0, 0, 0, 0, 0, 0, 0, 0, 0, 0, 0, 0, 0, 0, 0, 0, 0, 0, 0, 0, 0, 0, 0, 0, 0, 0, 0, 0, 0, 0, 0, 0, 0, 0, 0, 0, 0, 0, 0, 0, 0, 0, 0, 0, 0, 0, 0, 0, 0, 0, 0, 0, 0, 0, 0, 0, 0, 0, 0, 0, 0, 0, 0, 0, 0, 0, 0, 0, 0]))).set 109 (.inl (0, 22, [0, 0, 0, 0, 0, 0, 0, 0, 0, 0, 0, 0]))), 117, 29934, ?_, by decide, by decide⟩
  refine zT_gos (f := 200000) (pc2 := 37) (ls2 := [(4, .int 0), (3, .ref 232), (2, .ref 162), (1, .ref 0), (0, .ref 11)]) (st2 := [.int (xs 0)]) (h2 := zH0) (dc2 := 117) (ds2 := 29934) 9 rfl ?_
  refine zT_gos (f := 200000) (pc2 := 40) (ls2 := [(4, .int 0), (3, .ref 232), (2, .ref 162), (1, .ref 0), (0, .ref 11)]) (st2 := [.int ((xs 0) &&& (63 : Int32))]) (h2 := zH0) (dc2 := 117) (ds2 := 29934) 2 rfl ?_
  refine zT_val h0 ?_
  refine zT_gos (f := 200000) (pc2 := 1104) (ls2 := [(4, .int 0), (3, .ref 232), (2, .ref 162), (1, .ref 0), (0, .ref 11)]) (st2 := [.int (xs 1), .ref 0]) (h2 := zH0) (dc2 := 117) (ds2 := 29934) 7 rfl ?_
  refine zT_if0 false rfl (zc_eq_f (by show ((xs 1) : Int32).toInt ≠ 0; omega)) ?_
  refine zT_here (pc2 := 1107) rfl ?_
  refine zT_gos (f := 200000) (pc2 := 1118) (ls2 := [(4, .int 0), (3, .ref 232), (2, .ref 162), (1, .ref 0), (0, .ref 11)]) (st2 := [.int (xs 2), .int 1, .ref 0]) (h2 := zH0) (dc2 := 117) (ds2 := 29934) 7 rfl ?_
  refine zT_val h2 ?_
  refine zT_gos (f := 200000) (pc2 := 1124) (ls2 := [(4, .int 0), (3, .ref 232), (2, .ref 162), (1, .ref 0), (0, .ref 11)]) (st2 := [.int (xs 3), .int (-2), .int 1, .ref 0]) (h2 := zH0) (dc2 := 117) (ds2 := 29934) 5 rfl ?_
  refine zT_val h3 ?_
  refine zT_call rfl rfl (zT_le (zg0_le 6 xs) zk_o_231) ?_
  refine zT_here (pc2 := 1127) rfl ?_
  refine zT_gos (f := 200000) (pc2 := 1134) (ls2 := [(4, .int 0), (3, .ref 232), (2, .ref 162), (1, .ref 0), (0, .ref 11)]) (st2 := [.int (xs 1), .ref 162, .int 0]) (h2 := (((zH0.set 37 (.inr (.inr (.inr (3, [.ref 44, .ref 6, .ref 76, .ref 78, .ref 80, .ref 88, .int 1, .int 0, .ref 96, .int 0, .int 0, .int 0, .ref 98, .ref 100, .int 0]))))).set 44 (.inr (.inr (.inr (6, [.int 1, .long 70644700037184, .int 0, .ref 90, .ref 92, .ref 94]))))).set 47 (.inr (.inl (16, [70644700037184]))))) (dc2 := 117) (ds2 := 29934) 6 rfl ?_
  refine zT_if0 false rfl (zc_eq_f (by show ((xs 1) : Int32).toInt ≠ 0; omega)) ?_
  refine zT_here (pc2 := 1137) rfl ?_
  refine zT_gos (f := 200000) (pc2 := 1148) (ls2 := [(4, .int 0), (3, .ref 232), (2, .ref 162), (1, .ref 0), (0, .ref 11)]) (st2 := [.int (xs 2), .int 1, .ref 162, .int 0]) (h2 := (((zH0.set 37 (.inr (.inr (.inr (3, [.ref 44, .ref 6, .ref 76, .ref 78, .ref 80, .ref 88, .int 1, .int 0, .ref 96, .int 0, .int 0, .int 0, .ref 98, .ref 100, .int 0]))))).set 44 (.inr (.inr (.inr (6, [.int 1, .long 70644700037184, .int 0, .ref 90, .ref 92, .ref 94]))))).set 47 (.inr (.inl (16, [70644700037184]))))) (dc2 := 117) (ds2 := 29934) 7 rfl ?_
  refine zT_val h2 ?_
  refine zT_gos (f := 200000) (pc2 := 1154) (ls2 := [(4, .int 0), (3, .ref 232), (2, .ref 162), (1, .ref 0), (0, .ref 11)]) (st2 := [.int (xs 3), .int (-2), .int 1, .ref 162, .int 0]) (h2 := (((zH0.set 37 (.inr (.inr (.inr (3, [.ref 44, .ref 6, .ref 76, .ref 78, .ref 80, .ref 88, .int 1, .int 0, .ref 96, .int 0, .int 0, .int 0, .ref 98, .ref 100, .int 0]))))).set 44 (.inr (.inr (.inr (6, [.int 1, .long 70644700037184, .int 0, .ref 90, .ref 92, .ref 94]))))).set 47 (.inr (.inl (16, [70644700037184]))))) (dc2 := 117) (ds2 := 29934) 5 rfl ?_
  refine zT_val h3 ?_
  refine zT_call rfl rfl (zT_le (zg0_le 6 xs) zk_o_232) ?_
  refine zT_here (pc2 := 1157) rfl ?_
  refine zT_gos (f := 200000) (pc2 := 1811) (ls2 := [(4, .int 6), (3, .ref 232), (2, .ref 162), (1, .ref 0), (0, .ref 11)]) (st2 := [.int 1]) (h2 := (((((((zH0.set 37 (.inr (.inr (.inr (3, [.ref 44, .ref 6, .ref 76, .ref 78, .ref 80, .ref 88, .int 1, .int 0, .ref 96, .int 0, .int 0, .int 0, .ref 98, .ref 100, .int 0]))))).set 44 (.inr (.inr (.inr (6, [.int 1, .long 70644700037184, .int 0, .ref 90, .ref 92, .ref 94]))))).set 47 (.inr (.inl (16, [70644700037184])))).set 106 (.inl (2, 2, [0, 1]))).set 105 (.inl (0, 2, [0, 0]))).set 107 (.inl (0, 132, [0, 0, 0, 0, 0, 0, 0, 0, 0, 0, 0, 0, 0, 0, 0, 0, 0, 0, 0, 0, 0, 0, 0, 0, 0, 0, 0, 0, 0, 0, 0, 0, 0, 0, 0, 0, 0, 0, 0, 0, 0, 0, 0, 0, 0, 0, 0, 0, 0, 0, 0, 0, 0, 0, 0, 0, 0, 0, 0, 0, 0, 0, 0, 0, 0, 0, 0, 0, 0, 0, 0, 0]))).set 109 (.inl (0, 22, [0, 0, 0, 0, 0, 0, 0, 0, 0, 0, 0, 0])))) (dc2 := 117) (ds2 := 29934) 10 rfl ?_
  exact zT_ret rfl rfl
set_option maxRecDepth 1000000 in
theorem zk_o_233 : zT zg0 zF zP 125 0 [(0, .ref 0), (1, .int 1), (2, .int (-1)), (3, .int 3)] [] zH0 0 0 (some (.int 0), (((zH0.set 37 (.inr (.inr (.inr (3, [.ref 44, .ref 6, .ref 76, .ref 78, .ref 80, .ref 88, .int 1, .int 0, .ref 96, .int 0, .int 0, .int 0, .ref 98, .ref 100, .int 0]))))).set 44 (.inr (.inr (.inr (6, [.int 1, .long 70644700037184, .int 0, .ref 90, .ref 92, .ref 94]))))).set 47 (.inr (.inl (16, [70644700037184])))), 0, 0) := zclosed (n := 345) (by decide +kernel)
set_option maxRecDepth 1000000 in
theorem zk_o_234 : zT zg0 zF zP 256 0 [(0, .ref 162), (1, .int 1), (2, .int (-1)), (3, .int 3)] [] (((zH0.set 37 (.inr (.inr (.inr (3, [.ref 44, .ref 6, .ref 76, .ref 78, .ref 80, .ref 88, .int 1, .int 0, .ref 96, .int 0, .int 0, .int 0, .ref 98, .ref 100, .int 0]))))).set 44 (.inr (.inr (.inr (6, [.int 1, .long 70644700037184, .int 0, .ref 90, .ref 92, .ref 94]))))).set 47 (.inr (.inl (16, [70644700037184])))) 0 0 (some (.int 0), (((((((zH0.set 37 (.inr (.inr (.inr (3, [.ref 44, .ref 6, .ref 76, .ref 78, .ref 80, .ref 88, .int 1, .int 0, .ref 96, .int 0, .int 0, .int 0, .ref 98, .ref 100, .int 0]))))).set 44 (.inr (.inr (.inr (6, [.int 1, .long 70644700037184, .int 0, .ref 90, .ref 92, .ref 94]))))).set 47 (.inr (.inl (16, [70644700037184])))).set 106 (.inl (2, 2, [0, 1]))).set 105 (.inl (0, 2, [0, 0]))).set 107 (.inl (0, 132, [0, 0, 0, 0, 0, 0, 0, 0, 0, 0, 0, 0, 0, 0, 0, 0, 0, 0, 0, 0, 0, 0, 0, 0, 0, 0, 0, 0, 0, 0, 0, 0, 0, 0, 0, 0, 0, 0, 0, 0, 0, 0, 0, 0, 0, 0, 0, 0, 0, 0, 0, 0, 0, 0, 0, 0, 0, 0, 0, 0, 0, 0, 0, 0, 0, 0, 0, 0, 0, 0, 0, 0]))).set 109 (.inl (0, 22, [0, 0, 0, 0, 0, 0, 0, 0, 0, 0, 0, 0]))), 0, 0) := zclosed (n := 404) (by decide +kernel)
set_option maxRecDepth 1000000 in
set_option maxHeartbeats 4000000 in
theorem zo_24_78 (xs : Nat → Int32) (h0 : xs 0 &&& 63 = 24) (h1 : (xs 1).toInt ≠ 0) (h3 : xs 3 = 3) (h2 : xs 2 = (-1)) : zDone xs := by
  refine ⟨(((((((zH0.set 37 (.inr (.inr (.inr (3, [.ref 44, .ref 6, .ref 76, .ref 78, .ref 80, .ref 88, .int 1, .int 0, .ref 96, .int 0, .int 0, .int 0, .ref 98, .ref 100, .int 0]))))).set 44 (.inr (.inr (.inr (6, [.int 1, .long 70644700037184, .int 0, .ref 90, .ref 92, .ref 94]))))).set 47 (.inr (.inl (16, [70644700037184])))).set 106 (.inl (2, 2, [0, 1]))).set 105 (.inl (0, 2, [0, 0]))).set 107 (.inl (0, 132, [0, 0, 0, 0, 0, 0, 0, 0, 0, 0, 0, 0, 0, 0, 0, 0, 0, 0, 0, 0, 0, 0, 0, 0, 0, 0, 0, 0, 0, 0, 0, 0, 0, 0, 0, 0, 0, 0, 0, 0, 0, 0, 0, 0, 0, 0, 0, 0, 0, 0, 0, 0, 0, 0, 0, 0, 0, 0, 0, 0, 0, 0, 0, 0, 0, 0, 0, 0, 0, 0, 0, 0]))).set 109 (.inl (0, 22, [0, 0, 0, 0, 0, 0, 0, 0, 0, 0, 0, 0]))), 117, 29934, ?_, by decide, by decide⟩
  refine zT_gos (f := 200000) (pc2 := 37) (ls2 := [(4, .int 0), (3, .ref 232), (2, .ref 162), (1, .ref 0), (0, .ref 11)]) (st2 := [.int (xs 0)]) (h2 := zH0) (dc2 := 117) (ds2 := 29934) 9 rfl ?_
  refine zT_gos (f := 200000) (pc2 := 40) (ls2 := [(4, .int 0), (3, .ref 232), (2, .ref 162), (1, .ref 0), (0, .ref 11)]) (st2 := [.int ((xs 0) &&& (63 : Int32))]) (h2 := zH0) (dc2 := 117) (ds2 := 29934) 2 rfl ?_
  refine zT_val h0 ?_
  refine zT_gos (f := 200000) (pc2 := 1104) (ls2 := [(4, .int 0), (3, .ref 232), (2, .ref 162), (1, .ref 0), (0, .ref 11)]) (st2 := [.int (xs 1), .ref 0]) (h2 := zH0) (dc2 := 117) (ds2 := 29934) 7 rfl ?_
  refine zT_if0 false rfl (zc_eq_f (by show ((xs 1) : Int32).toInt ≠ 0; omega)) ?_
  refine zT_here (pc2 := 1107) rfl ?_
  refine zT_gos (f := 200000) (pc2 := 1118) (ls2 := [(4, .int 0), (3, .ref 232), (2, .ref 162), (1, .ref 0), (0, .ref 11)]) (st2 := [.int (xs 2), .int 1, .ref 0]) (h2 := zH0) (dc2 := 117) (ds2 := 29934) 7 rfl ?_
  refine zT_val h2 ?_
  refine zT_gos (f := 200000) (pc2 := 1124) (ls2 := [(4, .int 0), (3, .ref 232), (2, .ref 162), (1, .ref 0), (0, .ref 11)]) (st2 := [.int (xs 3), .int (-1), .int 1, .ref 0]) (h2 := zH0) (dc2 := 117) (ds2 := 29934) 5 rfl ?_
  refine zT_val h3 ?_
  refine zT_call rfl rfl (zT_le (zg0_le 6 xs) zk_o_233) ?_
  refine zT_here (pc2 := 1127) rfl ?_
  refine zT_gos (f := 200000) (pc2 := 1134) (ls2 := [(4, .int 0), (3, .ref 232), (2, .ref 162), (1, .ref 0), (0, .ref 11)]) (st2 := [.int (xs 1), .ref 162, .int 0]) (h2 := (((zH0.set 37 (.inr (.inr (.inr (3, [.ref 44, .ref 6, .ref 76, .ref 78, .ref 80, .ref 88, .int 1, .int 0, .ref 96, .int 0, .int 0, .int 0, .ref 98, .ref 100, .int 0]))))).set 44 (.inr (.inr (.inr (6, [.int 1, .long 70644700037184, .int 0, .ref 90, .ref 92, .ref 94]))))).set 47 (.inr (.inl (16, [70644700037184]))))) (dc2 := 117) (ds2 := 29934) 6 rfl ?_
  refine zT_if0 false rfl (zc_eq_f (by show ((xs 1) : Int32).toInt ≠ 0; omega)) ?_
  refine zT_here (pc2 := 1137) rfl ?_
  refine zT_gos (f := 200000) (pc2 := 1148) (ls2 := [(4, .int 0), (3, .ref 232), (2, .ref 162), (1, .ref 0), (0, .ref 11)]) (st2 := [.int (xs 2), .int 1, .ref 162, .int 0]) (h2 := (((zH0.set 37 (.inr (.inr (.inr (3, [.ref 44, .ref 6, .ref 76, .ref 78, .ref 80, .ref 88, .int 1, .int 0, .ref 96, .int 0, .int 0, .int 0, .ref 98, .ref 100, .int 0]))))).set 44 (.inr (.inr (.inr (6, [.int 1, .long 70644700037184, .int 0, .ref 90, .ref 92, .ref 94]))))).set 47 (.inr (.inl (16, [70644700037184]))))) (dc2 := 117) (ds2 := 29934) 7 rfl ?_
  refine zT_val h2 ?_
  refine zT_gos (f := 200000) (pc2 := 1154) (ls2 := [(4, .int 0), (3, .ref 232), (2, .ref 162), (1, .ref 0), (0, .ref 11)]) (st2 := [.int (xs 3), .int (-1), .int 1, .ref 162, .int 0]) (h2 := (((zH0.set 37 (.inr (.inr (.inr (3, [.ref 44, .ref 6, .ref 76, .ref 78, .ref 80, .ref 88, .int 1, .int 0, .ref 96, .int 0, .int 0, .int 0, .ref 98, .ref 100, .int 0]))))).set 44 (.inr (.inr (.inr (6, [.int 1, .long 70644700037184, .int 0, .ref 90, .ref 92, .ref 94]))))).set 47 (.inr (.inl (16, [70644700037184]))))) (dc2 := 117) (ds2 := 29934) 5 rfl ?_
  refine zT_val h3 ?_
  refine zT_call rfl rfl (zT_le (zg0_le 6 xs) zk_o_234) ?_
  refine zT_here (pc2 := 1157) rfl ?_
  refine zT_gos (f := 200000) (pc2 := 1811) (ls2 := [(4, .int 6), (3, .ref 232), (2, .ref 162), (1, .ref 0), (0, .ref 11)]) (st2 := [.int 1]) (h2 := (((((((zH0.set 37 (.inr (.inr (.inr (3, [.ref 44, .ref 6, .ref 76, .ref 78, .ref 80, .ref 88, .int 1, .int 0, .ref 96, .int 0, .int 0, .int 0, .ref 98, .ref 100, .int 0]))))).set 44 (.inr (.inr (.inr (6, [.int 1, .long 70644700037184, .int 0, .ref 90, .ref 92, .ref 94]))))).set 47 (.inr (.inl (16, [70644700037184])))).set 106 (.inl (2, 2, [0, 1]))).set 105 (.inl (0, 2, [0, 0]))).set 107 (.inl (0, 132, [0, 0, 0, 0, 0, 0, 0, 0, 0, 0, 0, 0, 0, 0, 0, 0, 0, 0, 0, 0, 0, 0, 0, 0, 0, 0, 0, 0, 0, 0, 0, 0, 0, 0, 0, 0, 0, 0, 0, 0, 0, 0, 0, 0, 0, 0, 0, 0, 0, 0, 0, 0, 0, 0, 0, 0, 0, 0, 0, 0, 0, 0, 0, 0, 0, 0, 0, 0, 0, 0, 0, 0]))).set 109 (.inl (0, 22, [0, 0, 0, 0, 0, 0, 0, 0, 0, 0, 0, 0])))) (dc2 := 117) (ds2 := 29934) 10 rfl ?_
  exact zT_ret rfl rfl
set_option maxRecDepth 1000000 in
theorem zk_o_235 : zT zg0 zF zP 125 0 [(0, .ref 0), (1, .int 1), (2, .int 0), (3, .int 3)] [] zH0 0 0 (some (.int 0), (((zH0.set 37 (.inr (.inr (.inr (3, [.ref 44, .ref 6, .ref 76, .ref 78, .ref 80, .ref 88, .int 1, .int 0, .ref 96, .int 0, .int 0, .int 0, .ref 98, .ref 100, .int 0]))))).set 44 (.inr (.inr (.inr (6, [.int 1, .long 70644700037184, .int 0, .ref 90, .ref 92, .ref 94]))))).set 47 (.inr (.inl (16, [70644700037184])))), 0, 0) := zclosed (n := 350) (by decide +kernel)
set_option maxRecDepth 1000000 in
theorem zk_o_236 : zT zg0 zF zP 256 0 [(0, .ref 162), (1, .int 1), (2, .int 0), (3, .int 3)] [] (((zH0.set 37 (.inr (.inr (.inr (3, [.ref 44, .ref 6, .ref 76, .ref 78, .ref 80, .ref 88, .int 1, .int 0, .ref 96, .int 0, .int 0, .int 0, .ref 98, .ref 100, .int 0]))))).set 44 (.inr (.inr (.inr (6, [.int 1, .long 70644700037184, .int 0, .ref 90, .ref 92, .ref 94]))))).set 47 (.inr (.inl (16, [70644700037184])))) 0 0 (some (.int 0), (((((((zH0.set 37 (.inr (.inr (.inr (3, [.ref 44, .ref 6, .ref 76, .ref 78, .ref 80, .ref 88, .int 1, .int 0, .ref 96, .int 0, .int 0, .int 0, .ref 98, .ref 100, .int 0]))))).set 44 (.inr (.inr (.inr (6, [.int 1, .long 70644700037184, .int 0, .ref 90, .ref 92, .ref 94]))))).set 47 (.inr (.inl (16, [70644700037184])))).set 106 (.inl (2, 2, [0, 1]))).set 105 (.inl (0, 2, [0, 0]))).set 107 (.inl (0, 132, [0, 0, 0, 0, 0, 0, 0, 0, 0, 0, 0, 0, 0, 0, 0, 0, 0, 0, 0, 0, 0, 0, 0, 0, 0, 0, 0, 0, 0, 0, 0, 0, 0, 0, 0, 0, 0, 0, 0, 0, 0, 0, 0, 0, 0, 0, 0, 0, 0, 0, 0, 0, 0, 0, 0, 0, 0, 0, 0, 0, 0, 0, 0, 0, 0, 0, 0, 0, 0, 0, 0, 0]))).set 109 (.inl (0, 22, [0, 0, 0, 0, 0, 0, 0, 0, 0, 0, 0, 0]))), 0, 0) := zclosed (n := 428) (by decide +kernel)
set_option maxRecDepth 1000000 in
set_option maxHeartbeats 4000000 in
theorem zo_24_79 (xs : Nat → Int32) (h0 : xs 0 &&& 63 = 24) (h1 : (xs 1).toInt ≠ 0) (h3 : xs 3 = 3) (h2 : xs 2 = 0) : zDone xs := by
  refine ⟨(((((((zH0.set 37 (.inr (.inr (.inr (3, [.ref 44, .ref 6, .ref 76, .ref 78, .ref 80, .ref 88, .int 1, .int 0, .ref 96, .int 0, .int 0, .int 0, .ref 98, .ref 100, .int 0]))))).set 44 (.inr (.inr (.inr (6, [.int 1, .long 70644700037184, .int 0, .ref 90, .ref 92, .ref 94]))))).set 47 (.inr (.inl (16, [70644700037184])))).set 106 (.inl (2, 2, [0, 1]))).set 105 (.inl (0, 2, [0, 0]))).set 107 (.inl (0, 132, [0, 0, 0, 0, 0, 0, 0, 0, 0, 0, 0, 0, 0, 0, 0, 0, 0, 0, 0, 0, 0, 0, 0, 0, 0, 0, 0, 0, 0, 0, 0, 0, 0, 0, 0, 0, 0, 0, 0, 0, 0, 0, 0, 0, 0, 0, 0, 0, 0, 0, 0, 0, 0, 0, 0, 0, 0, 0, 0, 0, 0, 0, 0, 0, 0, 0, 0, 0, 0, 0, 0, 0]))).set 109 (.inl (0, 22, [0, 0, 0, 0, 0, 0, 0, 0, 0, 0, 0, 0]))), 117, 29934, ?_, by decide, by decide⟩
  refine zT_gos (f := 200000) (pc2 := 37) (ls2 := [(4, .int 0), (3, .ref 232), (2, .ref 162), (1, .ref 0), (0, .ref 11)]) (st2 := [.int (xs 0)]) (h2 := zH0) (dc2 := 117) (ds2 := 29934) 9 rfl ?_
  refine zT_gos (f := 200000) (pc2 := 40) (ls2 := [(4, .int 0), (3, .ref 232), (2, .ref 162), (1, .ref 0), (0, .ref 11)]) (st2 := [.int ((xs 0) &&& (63 : Int32))]) (h2 := zH0) (dc2 := 117) (ds2 := 29934) 2 rfl ?_
  refine zT_val h0 ?_
  refine zT_gos (f := 200000) (pc2 := 1104) (ls2 := [(4, .int 0), (3, .ref 232), (2, .ref 162), (1, .ref 0), (0, .ref 11)]) (st2 := [.int (xs 1), .ref 0]) (h2 := zH0) (dc2 := 117) (ds2 := 29934) 7 rfl ?_
  refine zT_if0 false rfl (zc_eq_f (by show ((xs 1) : Int32).toInt ≠ 0; omega)) ?_
  refine zT_here (pc2 := 1107) rfl ?_
  refine zT_gos (f := 200000) (pc2 := 1118) (ls2 := [(4, .int 0), (3, .ref 232), (2, .ref 162), (1, .ref 0), (0, .ref 11)]) (st2 := [.int (xs 2), .int 1, .ref 0]) (h2 := zH0) (dc2 := 117) (ds2 := 29934) 7 rfl ?_
  refine zT_val h2 ?_
  refine zT_gos (f := 200000) (pc2 := 1124) (ls2 := [(4, .int 0), (3, .ref 232), (2, .ref 162), (1, .ref 0), (0, .ref 11)]) (st2 := [.int (xs 3), .int 0, .int 1, .ref 0]) (h2 := zH0) (dc2 := 117) (ds2 := 29934) 5 rfl ?_
  refine zT_val h3 ?_
  refine zT_call rfl rfl (zT_le (zg0_le 6 xs) zk_o_235) ?_
  refine zT_here (pc2 := 1127) rfl ?_
  refine zT_gos (f := 200000) (pc2 := 1134) (ls2 := [(4, .int 0), (3, .ref 232), (2, .ref 162), (1, .ref 0), (0, .ref 11)]) (st2 := [.int (xs 1), .ref 162, .int 0]) (h2 := (((zH0.set 37 (.inr (.inr (.inr (3, [.ref 44, .ref 6, .ref 76, .ref 78, .ref 80, .ref 88, .int 1, .int 0, .ref 96, .int 0, .int 0, .int 0, .ref 98, .ref 100, .int 0]))))).set 44 (.inr (.inr (.inr (6, [.int 1, .long 70644700037184, .int 0, .ref 90, .ref 92, .ref 94]))))).set 47 (.inr (.inl (16, [70644700037184]))))) (dc2 := 117) (ds2 := 29934) 6 rfl ?_
  refine zT_if0 false rfl (zc_eq_f (by show ((xs 1) : Int32).toInt ≠ 0; omega)) ?_
  refine zT_here (pc2 := 1137) rfl ?_
  refine zT_gos (f := 200000) (pc2 := 1148) (ls2 := [(4, .int 0), (3, .ref 232), (2, .ref 162), (1, .ref 0), (0, .ref 11)]) (st2 := [.int (xs 2), .int 1, .ref 162, .int 0]) (h2 := (((zH0.set 37 (.inr (.inr (.inr (3, [.ref 44, .ref 6, .ref 76, .ref 78, .ref 80, .ref 88, .int 1, .int 0, .ref 96, .int 0, .int 0, .int 0, .ref 98, .ref 100, .int 0]))))).set 44 (.inr (.inr (.inr (6, [.int 1, .long 70644700037184, .int 0, .ref 90, .ref 92, .ref 94]))))).set 47 (.inr (.inl (16, [70644700037184]))))) (dc2 := 117) (ds2 := 29934) 7 rfl ?_
  refine zT_val h2 ?_
  refine zT_gos (f := 200000) (pc2 := 1154) (ls2 := [(4, .int 0), (3, .ref 232), (2, .ref 162), (1, .ref 0), (0, .ref 11)]) (st2 := [.int (xs 3), .int 0, .int 1, .ref 162, .int 0]) (h2 := (((zH0.set 37 (.inr (.inr (.inr (3, [.ref 44, .ref 6, .ref 76, .ref 78, .ref 80, .ref 88, .int 1, .int 0, .ref 96, .int 0, .int 0, .int 0, .ref 98, .ref 100, .int 0]))))).set 44 (.inr (.inr (.inr (6, [.int 1, .long 70644700037184, .int 0, .ref 90, .ref 92, .ref 94]))))).set 47 (.inr (.inl (16, [70644700037184]))))) (dc2 := 117) (ds2 := 29934) 5 rfl ?_
  refine zT_val h3 ?_
  refine zT_call rfl rfl (zT_le (zg0_le 6 xs) zk_o_236) ?_
  refine zT_here (pc2 := 1157) rfl ?_
  refine zT_gos (f := 200000) (pc2 := 1811) (ls2 := [(4, .int 6), (3, .ref 232), (2, .ref 162), (1, .ref 0), (0, .ref 11)]) (st2 := [.int 1]) (h2 := (((((((zH0.set 37 (.inr (.inr (.inr (3, [.ref 44, .ref 6, .ref 76, .ref 78, .ref 80, .ref 88, .int 1, .int 0, .ref 96, .int 0, .int 0, .int 0, .ref 98, .ref 100, .int 0]))))).set 44 (.inr (.inr (.inr (6, [.int 1, .long 70644700037184, .int 0, .ref 90, .ref 92, .ref 94]))))).set 47 (.inr (.inl (16, [70644700037184])))).set 106 (.inl (2, 2, [0, 1]))).set 105 (.inl (0, 2, [0, 0]))).set 107 (.inl (0, 132, [0, 0, 0, 0, 0, 0, 0, 0, 0, 0, 0, 0, 0, 0, 0, 0, 0, 0, 0, 0, 0, 0, 0, 0, 0, 0, 0, 0, 0, 0, 0, 0, 0, 0, 0, 0, 0, 0, 0, 0, 0, 0, 0, 0, 0, 0, 0, 0, 0, 0, 0, 0, 0, 0, 0, 0, 0, 0, 0, 0, 0, 0, 0, 0, 0, 0, 0, 0, 0, 0, 0, 0]))).set 109 (.inl (0, 22, [0, 0, 0, 0, 0, 0, 0, 0, 0, 0, 0, 0])))) (dc2 := 117) (ds2 := 29934) 10 rfl ?_
  exact zT_ret rfl rfl
set_option maxRecDepth 1000000 in
theorem zk_o_237 : zT zg0 zF zP 125 0 [(0, .ref 0), (1, .int 1), (2, .int 1), (3, .int 3)] [] zH0 0 0 (some (.int 0), (((zH0.set 37 (.inr (.inr (.inr (3, [.ref 44, .ref 6, .ref 76, .ref 78, .ref 80, .ref 88, .int 1, .int 0, .ref 96, .int 0, .int 0, .int 0, .ref 98, .ref 100, .int 0]))))).set 44 (.inr (.inr (.inr (6, [.int 1, .long 70644700037184, .int 0, .ref 90, .ref 92, .ref 94]))))).set 47 (.inr (.inl (16, [70644700037184])))), 0, 0) := zclosed (n := 355) (by decide +kernel)
set_option maxRecDepth 1000000 in
theorem zk_o_238 : zT zg0 zF zP 256 0 [(0, .ref 162), (1, .int 1), (2, .int 1), (3, .int 3)] [] (((zH0.set 37 (.inr (.inr (.inr (3, [.ref 44, .ref 6, .ref 76, .ref 78, .ref 80, .ref 88, .int 1, .int 0, .ref 96, .int 0, .int 0, .int 0, .ref 98, .ref 100, .int 0]))))).set 44 (.inr (.inr (.inr (6, [.int 1, .long 70644700037184, .int 0, .ref 90, .ref 92, .ref 94]))))).set 47 (.inr (.inl (16, [70644700037184])))) 0 0 (some (.int 0), (((((((zH0.set 37 (.inr (.inr (.inr (3, [.ref 44, .ref 6, .ref 76, .ref 78, .ref 80, .ref 88, .int 1, .int 0, .ref 96, .int 0, .int 0, .int 0, .ref 98, .ref 100, .int 0]))))).set 44 (.inr (.inr (.inr (6, [.int 1, .long 70644700037184, .int 0, .ref 90, .ref 92, .ref 94]))))).set 47 (.inr (.inl (16, [70644700037184])))).set 106 (.inl (2, 2, [0, 1]))).set 105 (.inl (0, 2, [0, 0]))).set 107 (.inl (0, 132, [0, 0, 0, 0, 0, 0, 0, 0, 0, 0, 0, 0, 0, 0, 0, 0, 0, 0, 0, 0, 0, 0, 0, 0, 0, 0, 0, 0, 0, 0, 0, 0, 0, 0, 0, 0, 0, 0, 0, 0, 0, 0, 0, 0, 0, 0, 0, 0, 0, 0, 0, 0, 0, 0, 0, 0, 0, 0, 0, 0, 0, 0, 0, 0, 0, 0, 0, 0, 0, 0, 0, 0]))).set 109 (.inl (0, 22, [0, 0, 0, 0, 0, 0, 0, 0, 0, 0, 0, 0]))), 0, 0) := zclosed (n := 452) (by decide +kernel)
set_option maxRecDepth 1000000 in
set_option maxHeartbeats 4000000 in
theorem zo_24_80 (xs : Nat → Int32) (h0 : xs 0 &&& 63 = 24) (h1 : (xs 1).toInt ≠ 0) (h3 : xs 3 = 3) (h2 : xs 2 = 1) : zDone xs := by
  refine ⟨(((((((zH0.set 37 (.inr (.inr (.inr (3, [.ref 44, .ref 6, .ref 76, .ref 78, .ref 80, .ref 88, .int 1, .int 0, .ref 96, .int 0, .int 0, .int 0, .ref 98, .ref 100, .int 0]))))).set 44 (.inr (.inr (.inr (6, [.int 1, .long 70644700037184, .int 0, .ref 90, .ref 92, .ref 94]))))).set 47 (.inr (.inl (16, [70644700037184])))).set 106 (.inl (2, 2, [0, 1]))).set 105 (.inl (0, 2, [0, 0]))).set 107 (.inl (0, 132, [0, 0, 0, 0, 0, 0, 0, 0, 0, 0, 0, 0, 0, 0, 0, 0, 0, 0, 0, 0, 0, 0, 0, 0, 0, 0, 0, 0, 0, 0, 0, 0, 0, 0, 0, 0, 0, 0, 0, 0, 0, 0, 0, 0, 0, 0, 0, 0, 0, 0, 0, 0, 0, 0, 0, 0, 0, 0, 0, 0, 0, 0, 0, 0, 0, 0, 0, 0, 0, 0, 0, 0]))).set 109 (.inl (0, 22, [0, 0, 0, 0, 0, 0, 0, 0, 0, 0, 0, 0]))), 117, 29934, ?_, by decide, by decide⟩
  refine zT_gos (f := 200000) (pc2 := 37) (ls2 := [(4, .int 0), (3, .ref 232), (2, .ref 162), (1, .ref 0), (0, .ref 11)]) (st2 := [.int (xs 0)]) (h2 := zH0) (dc2 := 117) (ds2 := 29934) 9 rfl ?_
  refine zT_gos (f := 200000) (pc2 := 40) (ls2 := [(4, .int 0), (3, .ref 232), (2, .ref 162), (1, .ref 0), (0, .ref 11)]) (st2 := [.int ((xs 0) &&& (63 : Int32))]) (h2 := zH0) (dc2 := 117) (ds2 := 29934) 2 rfl ?_
  refine zT_val h0 ?_
  refine zT_gos (f := 200000) (pc2 := 1104) (ls2 := [(4, .int 0), (3, .ref 232), (2, .ref 162), (1, .ref 0), (0, .ref 11)]) (st2 := [.int (xs 1), .ref 0]) (h2 := zH0) (dc2 := 117) (ds2 := 29934) 7 rfl ?_
  refine zT_if0 false rfl (zc_eq_f (by show ((xs 1) : Int32).toInt ≠ 0; omega)) ?_
  refine zT_here (pc2 := 1107) rfl ?_
  refine zT_gos (f := 200000) (pc2 := 1118) (ls2 := [(4, .int 0), (3, .ref 232), (2, .ref 162), (1, .ref 0), (0, .ref 11)]) (st2 := [.int (xs 2), .int 1, .ref 0]) (h2 := zH0) (dc2 := 117) (ds2 := 29934) 7 rfl ?_
  refine zT_val h2 ?_
  refine zT_gos (f := 200000) (pc2 := 1124) (ls2 := [(4, .int 0), (3, .ref 232), (2, .ref 162), (1, .ref 0), (0, .ref 11)]) (st2 := [.int (xs 3), .int 1, .int 1, .ref 0]) (h2 := zH0) (dc2 := 117) (ds2 := 29934) 5 rfl ?_
  refine zT_val h3 ?_
  refine zT_call rfl rfl (zT_le (zg0_le 6 xs) zk_o_237) ?_
  refine zT_here (pc2 := 1127) rfl ?_
  refine zT_gos (f := 200000) (pc2 := 1134) (ls2 := [(4, .int 0), (3, .ref 232), (2, .ref 162), (1, .ref 0), (0, .ref 11)]) (st2 := [.int (xs 1), .ref 162, .int 0]) (h2 := (((zH0.set 37 (.inr (.inr (.inr (3, [.ref 44, .ref 6, .ref 76, .ref 78, .ref 80, .ref 88, .int 1, .int 0, .ref 96, .int 0, .int 0, .int 0, .ref 98, .ref 100, .int 0]))))).set 44 (.inr (.inr (.inr (6, [.int 1, .long 70644700037184, .int 0, .ref 90, .ref 92, .ref 94]))))).set 47 (.inr (.inl (16, [70644700037184]))))) (dc2 := 117) (ds2 := 29934) 6 rfl ?_
  refine zT_if0 false rfl (zc_eq_f (by show ((xs 1) : Int32).toInt ≠ 0; omega)) ?_
  refine zT_here (pc2 := 1137) rfl ?_
  refine zT_gos (f := 200000) (pc2 := 1148) (ls2 := [(4, .int 0), (3, .ref 232), (2, .ref 162), (1, .ref 0), (0, .ref 11)]) (st2 := [.int (xs 2), .int 1, .ref 162, .int 0]) (h2 := (((zH0.set 37 (.inr (.inr (.inr (3, [.ref 44, .ref 6, .ref 76, .ref 78, .ref 80, .ref 88, .int 1, .int 0, .ref 96, .int 0, .int 0, .int 0, .ref 98, .ref 100, .int 0]))))).set 44 (.inr (.inr (.inr (6, [.int 1, .long 70644700037184, .int 0, .ref 90, .ref 92, .ref 94]))))).set 47 (.inr (.inl (16, [70644700037184]))))) (dc2 := 117) (ds2 := 29934) 7 rfl ?_
  refine zT_val h2 ?_
  refine zT_gos (f := 200000) (pc2 := 1154) (ls2 := [(4, .int 0), (3, .ref 232), (2, .ref 162), (1, .ref 0), (0, .ref 11)]) (st2 := [.int (xs 3), .int 1, .int 1, .ref 162, .int 0]) (h2 := (((zH0.set 37 (.inr (.inr (.inr (3, [.ref 44, .ref 6, .ref 76, .ref 78, .ref 80, .ref 88, .int 1, .int 0, .ref 96, .int 0, .int 0, .int 0, .ref 98, .ref 100, .int 0]))))).set 44 (.inr (.inr (.inr (6, [.int 1, .long 70644700037184, .int 0, .ref 90, .ref 92, .ref 94]))))).set 47 (.inr (.inl (16, [70644700037184]))))) (dc2 := 117) (ds2 := 29934) 5 rfl ?_
  refine zT_val h3 ?_
  refine zT_call rfl rfl (zT_le (zg0_le 6 xs) zk_o_238) ?_
  refine zT_here (pc2 := 1157) rfl ?_
  refine zT_gos (f := 200000) (pc2 := 1811) (ls2 := [(4, .int 6), (3, .ref 232), (2, .ref 162), (1, .ref 0), (0, .ref 11)]) (st2 := [.int 1]) (h2 := (((((((zH0.set 37 (.inr (.inr (.inr (3, [.ref 44, .ref 6, .ref 76, .ref 78, .ref 80, .ref 88, .int 1, .int 0, .ref 96, .int 0, .int 0, .int 0, .ref 98, .ref 100, .int 0]))))).set 44 (.inr (.inr (.inr (6, [.int 1, .long 70644700037184, .int 0, .ref 90, .ref 92, .ref 94]))))).set 47 (.inr (.inl (16, [70644700037184])))).set 106 (.inl (2, 2, [0, 1]))).set 105 (.inl (0, 2, [0, 0]))).set 107 (.inl (0, 132, [0, 0, 0, 0, 0, 0, 0, 0, 0, 0, 0, 0, 0, 0, 0, 0, 0, 0, 0, 0, 0, 0, 0, 0, 0, 0, 0, 0, 0, 0, 0, 0, 0, 0, 0, 0, 0, 0, 0, 0, 0, 0, 0, 0, 0, 0, 0, 0, 0, 0, 0, 0, 0, 0, 0, 0, 0, 0, 0, 0, 0, 0, 0, 0, 0, 0, 0, 0, 0, 0, 0, 0]))).set 109 (.inl (0, 22, [0, 0, 0, 0, 0, 0, 0, 0, 0, 0, 0, 0])))) (dc2 := 117) (ds2 := 29934) 10 rfl ?_
  exact zT_ret rfl rfl
set_option maxRecDepth 1000000 in
theorem zk_o_239 : zT zg0 zF zP 125 0 [(0, .ref 0), (1, .int 1), (2, .int 2), (3, .int 3)] [] zH0 0 0 (some (.int 0), (((zH0.set 37 (.inr (.inr (.inr (3, [.ref 44, .ref 6, .ref 76, .ref 78, .ref 80, .ref 88, .int 1, .int 0, .ref 96, .int 0, .int 0, .int 0, .ref 98, .ref 100, .int 0]))))).set 44 (.inr (.inr (.inr (6, [.int 1, .long 70644700037184, .int 0, .ref 90, .ref 92, .ref 94]))))).set 47 (.inr (.inl (16, [70644700037184])))), 0, 0) := zclosed (n := 360) (by decide +kernel)
set_option maxRecDepth 1000000 in
theorem zk_o_240 : zT zg0 zF zP 256 0 [(0, .ref 162), (1, .int 1), (2, .int 2), (3, .int 3)] [] (((zH0.set 37 (.inr (.inr (.inr (3, [.ref 44, .ref 6, .ref 76, .ref 78, .ref 80, .ref 88, .int 1, .int 0, .ref 96, .int 0, .int 0, .int 0, .ref 98, .ref 100, .int 0]))))).set 44 (.inr (.inr (.inr (6, [.int 1, .long 70644700037184, .int 0, .ref 90, .ref 92, .ref 94]))))).set 47 (.inr (.inl (16, [70644700037184])))) 0 0 (some (.int 0), (((((((zH0.set 37 (.inr (.inr (.inr (3, [.ref 44, .ref 6, .ref 76, .ref 78, .ref 80, .ref 88, .int 1, .int 0, .ref 96, .int 0, .int 0, .int 0, .ref 98, .ref 100, .int 0]))))).set 44 (.inr (.inr (.inr (6, [.int 1, .long 70644700037184, .int 0, .ref 90, .ref 92, .ref 94]))))).set 47 (.inr (.inl (16, [70644700037184])))).set 106 (.inl (2, 2, [0, 1]))).set 105 (.inl (0, 2, [0, 0]))).set 107 (.inl (0, 132, [0, 0, 0, 0, 0, 0, 0, 0, 0, 0, 0, 0, 0, 0, 0, 0, 0, 0, 0, 0, 0, 0, 0, 0, 0, 0, 0, 0, 0, 0, 0, 0, 0, 0, 0, 0, 0, 0, 0, 0, 0, 0, 0, 0, 0, 0, 0, 0, 0, 0, 0, 0, 0, 0, 0, 0, 0, 0, 0, 0, 0, 0, 0, 0, 0, 0, 0, 0, 0, 0, 0, 0]))).set 109 (.inl (0, 22, [0, 0, 0, 0, 0, 0, 0, 0, 0, 0, 0, 0]))), 0, 0) := zclosed (n := 476) (by decide +kernel)
set_option maxRecDepth 1000000 in
set_option maxHeartbeats 4000000 in
theorem zo_24_81 (xs : Nat → Int32) (h0 : xs 0 &&& 63 = 24) (h1 : (xs 1).toInt ≠ 0) (h3 : xs 3 = 3) (h2 : xs 2 = 2) : zDone xs := by
  refine ⟨(((((((zH0.set 37 (.inr (.inr (.inr (3, [.ref 44, .ref 6, .ref 76, .ref 78, .ref 80, .ref 88, .int 1, .int 0, .ref 96, .int 0, .int 0, .int 0, .ref 98, .ref 100, .int 0]))))).set 44 (.inr (.inr (.inr (6, [.int 1, .long 70644700037184, .int 0, .ref 90, .ref 92, .ref 94]))))).set 47 (.inr (.inl (16, [70644700037184])))).set 106 (.inl (2, 2, [0, 1]))).set 105 (.inl (0, 2, [0, 0]))).set 107 (.inl (0, 132, [0, 0, 0, 0, 0, 0, 0, 0, 0, 0, 0, 0, 0, 0, 0, 0, 0, 0, 0, 0, 0, 0, 0, 0, 0, 0, 0, 0, 0, 0, 0, 0, 0, 0, 0, 0, 0, 0, 0, 0, 0, 0, 0, 0, 0, 0, 0, 0, 0, 0, 0, 0, 0, 0, 0, 0, 0, 0, 0, 0, 0, 0, 0, 0, 0, 0, 0, 0, 0, 0, 0, 0]))).set 109 (.inl (0, 22, [0, 0, 0, 0, 0, 0, 0, 0, 0, 0, 0, 0]))), 117, 29934, ?_, by decide, by decide⟩
  refine zT_gos (f := 200000) (pc2 := 37) (ls2 := [(4, .int 0), (3, .ref 232), (2, .ref 162), (1, .ref 0), (0, .ref 11)]) (st2 := [.int (xs 0)]) (h2 := zH0) (dc2 := 117) (ds2 := 29934) 9 rfl ?_
  refine zT_gos (f := 200000) (pc2 := 40) (ls2 := [(4, .int 0), (3, .ref 232), (2, .ref 162), (1, .ref 0), (0, .ref 11)]) (st2 := [.int ((xs 0) &&& (63 : Int32))]) (h2 := zH0) (dc2 := 117) (ds2 := 29934) 2 rfl ?_
  refine zT_val h0 ?_
  refine zT_gos (f := 200000) (pc2 := 1104) (ls2 := [(4, .int 0), (3, .ref 232), (2, .ref 162), (1, .ref 0), (0, .ref 11)]) (st2 := [.int (xs 1), .ref 0]) (h2 := zH0) (dc2 := 117) (ds2 := 29934) 7 rfl ?_
  refine zT_if0 false rfl (zc_eq_f (by show ((xs 1) : Int32).toInt ≠ 0; omega)) ?_
  refine zT_here (pc2 := 1107) rfl ?_
  refine zT_gos (f := 200000) (pc2 := 1118) (ls2 := [(4, .int 0), (3, .ref 232), (2, .ref 162), (1, .ref 0), (0, .ref 11)]) (st2 := [.int (xs 2), .int 1, .ref 0]) (h2 := zH0) (dc2 := 117) (ds2 := 29934) 7 rfl ?_
  refine zT_val h2 ?_
  refine zT_gos (f := 200000) (pc2 := 1124) (ls2 := [(4, .int 0), (3, .ref 232), (2, .ref 162), (1, .ref 0), (0, .ref 11)]) (st2 := [.int (xs 3), .int 2, .int 1, .ref 0]) (h2 := zH0) (dc2 := 117) (ds2 := 29934) 5 rfl ?_
  refine zT_val h3 ?_
  refine zT_call rfl rfl (zT_le (zg0_le 6 xs) zk_o_239) ?_
  refine zT_here (pc2 := 1127) rfl ?_
  refine zT_gos (f := 200000) (pc2 := 1134) (ls2 := [(4, .int 0), (3, .ref 232), (2, .ref 162), (1, .ref 0), (0, .ref 11)]) (st2 := [.int (xs 1), .ref 162, .int 0]) (h2 := (((zH0.set 37 (.inr (.inr (.inr (3, [.ref 44, .ref 6, .ref 76, .ref 78, .ref 80, .ref 88, .int 1, .int 0, .ref 96, .int 0, .int 0, .int 0, .ref 98, .ref 100, .int 0]))))).set 44 (.inr (.inr (.inr (6, [.int 1, .long 70644700037184, .int 0, .ref 90, .ref 92, .ref 94]))))).set 47 (.inr (.inl (16, [70644700037184]))))) (dc2 := 117) (ds2 := 29934) 6 rfl ?_
  refine zT_if0 false rfl (zc_eq_f (by show ((xs 1) : Int32).toInt ≠ 0; omega)) ?_
  refine zT_here (pc2 := 1137) rfl ?_
  refine zT_gos (f := 200000) (pc2 := 1148) (ls2 := [(4, .int 0), (3, .ref 232), (2, .ref 162), (1, .ref 0), (0, .ref 11)]) (st2 := [.int (xs 2), .int 1, .ref 162, .int 0]) (h2 := (((zH0.set 37 (.inr (.inr (.inr (3, [.ref 44, .ref 6, .ref 76, .ref 78, .ref 80, .ref 88, .int 1, .int 0, .ref 96, .int 0, .int 0, .int 0, .ref 98, .ref 100, .int 0]))))).set 44 (.inr (.inr (.inr (6, [.int 1, .long 70644700037184, .int 0, .ref 90, .ref 92, .ref 94]))))).set 47 (.inr (.inl (16, [70644700037184]))))) (dc2 := 117) (ds2 := 29934) 7 rfl ?_
  refine zT_val h2 ?_
  refine zT_gos (f := 200000) (pc2 := 1154) (ls2 := [(4, .int 0), (3, .ref 232), (2, .ref 162), (1, .ref 0), (0, .ref 11)]) (st2 := [.int (xs 3), .int 2, .int 1, .ref 162, .int 0]) (h2 := (((zH0.set 37 (.inr (.inr (.inr (3, [.ref 44, .ref 6, .ref 76, .ref 78, .ref 80, .ref 88, .int 1, .int 0, .ref 96, .int 0, .int 0, .int 0, .ref 98, .ref 100, .int 0]))))).set 44 (.inr (.inr (.inr (6, [.int 1, .long 70644700037184, .int 0, .ref 90, .ref 92, .ref 94]))))).set 47 (.inr (.inl (16, [70644700037184]))))) (dc2 := 117) (ds2 := 29934) 5 rfl ?_
  refine zT_val h3 ?_
  refine zT_call rfl rfl (zT_le (zg0_le 6 xs) zk_o_240) ?_
  refine zT_here (pc2 := 1157) rfl ?_
  refine zT_gos (f := 200000) (pc2 := 1811) (ls2 := [(4, .int 6), (3, .ref 232), (2, .ref 162), (1, .ref 0), (0, .ref 11)]) (st2 := [.int 1]) (h2 := (((((((zH0.set 37 (.inr (.inr (.inr (3, [.ref 44, .ref 6, .ref 76, .ref 78, .ref 80, .ref 88, .int 1, .int 0, .ref 96, .int 0, .int 0, .int 0, .ref 98, .ref 100, .int 0]))))).set 44 (.inr (.inr (.inr (6, [.int 1, .long 70644700037184, .int 0, .ref 90, .ref 92, .ref 94]))))).set 47 (.inr (.inl (16, [70644700037184])))).set 106 (.inl (2, 2, [0, 1]))).set 105 (.inl (0, 2, [0, 0]))).set 107 (.inl (0, 132, [0, 0, 0, 0, 0, 0, 0, 0, 0, 0, 0, 0, 0, 0, 0, 0, 0, 0, 0, 0, 0, 0, 0, 0, 0, 0, 0, 0, 0, 0, 0, 0, 0, 0, 0, 0, 0, 0, 0, 0, 0, 0, 0, 0, 0, 0, 0, 0, 0, 0, 0, 0, 0, 0, 0, 0, 0, 0, 0, 0, 0, 0, 0, 0, 0, 0, 0, 0, 0, 0, 0, 0]))).set 109 (.inl (0, 22, [0, 0, 0, 0, 0, 0, 0, 0, 0, 0, 0, 0])))) (dc2 := 117) (ds2 := 29934) 10 rfl ?_
  exact zT_ret rfl rfl
set_option maxRecDepth 1000000 in
set_option maxHeartbeats 4000000 in
theorem zo_24_82 (xs : Nat → Int32) (h0 : xs 0 &&& 63 = 24) (h1 : (xs 1).toInt ≠ 0) (h3 : xs 3 = 4) (h2 : (xs 2).toInt < -2) : zDone xs := by
  refine ⟨(((((((zH0.set 37 (.inr (.inr (.inr (3, [.ref 44, .ref 6, .ref 76, .ref 78, .ref 80, .ref 88, .int 1, .int 0, .ref 96, .int 0, .int 0, .int 0, .ref 98, .ref 100, .int 0]))))).set 44 (.inr (.inr (.inr (6, [.int 1, .long 70644700037184, .int 0, .ref 90, .ref 92, .ref 94]))))).set 47 (.inr (.inl (16, [70644700037184])))).set 106 (.inl (2, 2, [0, 1]))).set 105 (.inl (0, 2, [0, 0]))).set 107 (.inl (0, 132, [0, 0, 0, 0, 0, 0, 0, 0, 0, 0, 0, 0, 0, 0, 0, 0, 0, 0, 0, 0, 0, 0, 0, 0, 0, 0, 0, 0, 0, 0, 0, 0, 0, 0, 0, 0, 0, 0, 0, 0, 0, 0, 0, 0, 0, 0, 0, 0, 0, 0, 0, 0, 0, 0, 0, 0, 0, 0, 0, 0, 0, 0, 0, 0, 0, 0, 0, 0, 0, 0, 0, 0]))).set 109 (.inl (0, 22, [0, 0, 0, 0, 0, 0, 0, 0, 0, 0, 0, 0]))), 117, 29934, ?_, by decide, by decide⟩
  refine zT_gos (f := 200000) (pc2 := 37) (ls2 := [(4, .int 0), (3, .ref 232), (2, .ref 162), (1, .ref 0), (0, .ref 11)]) (st2 := [.int (xs 0)]) (h2 := zH0) (dc2 := 117) (ds2 := 29934) 9 rfl ?_
  refine zT_gos (f := 200000) (pc2 := 40) (ls2 := [(4, .int 0), (3, .ref 232), (2, .ref 162), (1, .ref 0), (0, .ref 11)]) (st2 := [.int ((xs 0) &&& (63 : Int32))]) (h2 := zH0) (dc2 := 117) (ds2 := 29934) 2 rfl ?_
  refine zT_val h0 ?_
  refine zT_gos (f := 200000) (pc2 := 1104) (ls2 := [(4, .int 0), (3, .ref 232), (2, .ref 162), (1, .ref 0), (0, .ref 11)]) (st2 := [.int (xs 1), .ref 0]) (h2 := zH0) (dc2 := 117) (ds2 := 29934) 7 rfl ?_
  refine zT_if0 false rfl (zc_eq_f (by show ((xs 1) : Int32).toInt ≠ 0; omega)) ?_
  refine zT_here (pc2 := 1107) rfl ?_
  refine zT_gos (f := 200000) (pc2 := 1118) (ls2 := [(4, .int 0), (3, .ref 232), (2, .ref 162), (1, .ref 0), (0, .ref 11)]) (st2 := [.int (xs 2), .int 1, .ref 0]) (h2 := zH0) (dc2 := 117) (ds2 := 29934) 7 rfl ?_
  refine zT_gos (f := 200000) (pc2 := 1124) (ls2 := [(4, .int 0), (3, .ref 232), (2, .ref 162), (1, .ref 0), (0, .ref 11)]) (st2 := [.int (xs 3), .int (xs 2), .int 1, .ref 0]) (h2 := zH0) (dc2 := 117) (ds2 := 29934) 5 rfl ?_
  refine zT_val h3 ?_
  refine zT_call (v := some (.int (-9999))) (h2 := (((zH0.set 37 (.inr (.inr (.inr (3, [.ref 44, .ref 6, .ref 76, .ref 78, .ref 80, .ref 88, .int 1, .int 0, .ref 96, .int 0, .int 0, .int 0, .ref 98, .ref 100, .int 0]))))).set 44 (.inr (.inr (.inr (6, [.int 1, .long 70644700037184, .int 0, .ref 90, .ref 92, .ref 94]))))).set 47 (.inr (.inl (16, [70644700037184]))))) (d1 := 0) (s1 := 0) rfl rfl ?_ ?_
  · refine zT_gos (f := 200000) (pc2 := 42) (ls2 := [(4, .ref 88), (0, .ref 0), (1, .int 1), (2, .int (xs 2)), (3, .int 4)]) (st2 := [.int (-2), .int (xs 2)]) (h2 := (((zH0.set 37 (.inr (.inr (.inr (3, [.ref 44, .ref 6, .ref 76, .ref 78, .ref 80, .ref 88, .int 1, .int 0, .ref 96, .int 0, .int 0, .int 0, .ref 98, .ref 100, .int 0]))))).set 44 (.inr (.inr (.inr (6, [.int 1, .long 70644700037184, .int 0, .ref 90, .ref 92, .ref 94]))))).set 47 (.inr (.inl (16, [70644700037184]))))) (dc2 := 0) (ds2 := 0) 18 rfl ?_
    refine zT_if2 true rfl (zc_lt_t (by show ((xs 2) : Int32).toInt < -2; omega)) ?_
    refine zT_here (pc2 := 62) rfl ?_
    refine zT_gos (f := 200000) (pc2 := 65) (ls2 := [(4, .ref 88), (0, .ref 0), (1, .int 1), (2, .int (xs 2)), (3, .int 4)]) (st2 := [.int (-9999)]) (h2 := (((zH0.set 37 (.inr (.inr (.inr (3, [.ref 44, .ref 6, .ref 76, .ref 78, .ref 80, .ref 88, .int 1, .int 0, .ref 96, .int 0, .int 0, .int 0, .ref 98, .ref 100, .int 0]))))).set 44 (.inr (.inr (.inr (6, [.int 1, .long 70644700037184, .int 0, .ref 90, .ref 92, .ref 94]))))).set 47 (.inr (.inl (16, [70644700037184]))))) (dc2 := 0) (ds2 := 0) 1 rfl ?_
    exact zT_ret rfl rfl
  refine zT_here (pc2 := 1127) rfl ?_
  refine zT_gos (f := 200000) (pc2 := 1134) (ls2 := [(4, .int 0), (3, .ref 232), (2, .ref 162), (1, .ref 0), (0, .ref 11)]) (st2 := [.int (xs 1), .ref 162, .int (-9999)]) (h2 := (((zH0.set 37 (.inr (.inr (.inr (3, [.ref 44, .ref 6, .ref 76, .ref 78, .ref 80, .ref 88, .int 1, .int 0, .ref 96, .int 0, .int 0, .int 0, .ref 98, .ref 100, .int 0]))))).set 44 (.inr (.inr (.inr (6, [.int 1, .long 70644700037184, .int 0, .ref 90, .ref 92, .ref 94]))))).set 47 (.inr (.inl (16, [70644700037184]))))) (dc2 := 117) (ds2 := 29934) 6 rfl ?_
  refine zT_if0 false rfl (zc_eq_f (by show ((xs 1) : Int32).toInt ≠ 0; omega)) ?_
  refine zT_here (pc2 := 1137) rfl ?_
  refine zT_gos (f := 200000) (pc2 := 1148) (ls2 := [(4, .int 0), (3, .ref 232), (2, .ref 162), (1, .ref 0), (0, .ref 11)]) (st2 := [.int (xs 2), .int 1, .ref 162, .int (-9999)]) (h2 := (((zH0.set 37 (.inr (.inr (.inr (3, [.ref 44, .ref 6, .ref 76, .ref 78, .ref 80, .ref 88, .int 1, .int 0, .ref 96, .int 0, .int 0, .int 0, .ref 98, .ref 100, .int 0]))))).set 44 (.inr (.inr (.inr (6, [.int 1, .long 70644700037184, .int 0, .ref 90, .ref 92, .ref 94]))))).set 47 (.inr (.inl (16, [70644700037184]))))) (dc2 := 117) (ds2 := 29934) 7 rfl ?_
  refine zT_gos (f := 200000) (pc2 := 1154) (ls2 := [(4, .int 0), (3, .ref 232), (2, .ref 162), (1, .ref 0), (0, .ref 11)]) (st2 := [.int (xs 3), .int (xs 2), .int 1, .ref 162, .int (-9999)]) (h2 := (((zH0.set 37 (.inr (.inr (.inr (3, [.ref 44, .ref 6, .ref 76, .ref 78, .ref 80, .ref 88, .int 1, .int 0, .ref 96, .int 0, .int 0, .int 0, .ref 98, .ref 100, .int 0]))))).set 44 (.inr (.inr (.inr (6, [.int 1, .long 70644700037184, .int 0, .ref 90, .ref 92, .ref 94]))))).set 47 (.inr (.inl (16, [70644700037184]))))) (dc2 := 117) (ds2 := 29934) 5 rfl ?_
  refine zT_val h3 ?_
  refine zT_call (v := some (.int (-9999))) (h2 := (((((((zH0.set 37 (.inr (.inr (.inr (3, [.ref 44, .ref 6, .ref 76, .ref 78, .ref 80, .ref 88, .int 1, .int 0, .ref 96, .int 0, .int 0, .int 0, .ref 98, .ref 100, .int 0]))))).set 44 (.inr (.inr (.inr (6, [.int 1, .long 70644700037184, .int 0, .ref 90, .ref 92, .ref 94]))))).set 47 (.inr (.inl (16, [70644700037184])))).set 106 (.inl (2, 2, [0, 1]))).set 105 (.inl (0, 2, [0, 0]))).set 107 (.inl (0, 132, [0, 0, 0, 0, 0, 0, 0, 0, 0, 0, 0, 0, 0, 0, 0, 0, 0, 0, 0, 0, 0, 0, 0, 0, 0, 0, 0, 0, 0, 0, 0, 0, 0, 0, 0, 0, 0, 0, 0, 0, 0, 0, 0, 0, 0, 0, 0, 0, 0, 0, 0, 0, 0, 0, 0, 0, 0, 0, 0, 0, 0, 0, 0, 0, 0, 0, 0, 0, 0, 0, 0, 0]))).set 109 (.inl (0, 22, [0, 0, 0, 0, 0, 0, 0, 0, 0, 0, 0, 0])))) (d1 := 0) (s1 := 0) rfl rfl ?_ ?_
  · refine zT_gos (f := 200000) (pc2 := 7) (ls2 := [(0, .ref 162), (1, .int 1), (2, .int (xs 2)), (3, .int 4)]) (st2 := [.int 1, .ref 162]) (h2 := (((zH0.set 37 (.inr (.inr (.inr (3, [.ref 44, .ref 6, .ref 76, .ref 78, .ref 80, .ref 88, .int 1, .int 0, .ref 96, .int 0, .int 0, .int 0, .ref 98, .ref 100, .int 0]))))).set 44 (.inr (.inr (.inr (6, [.int 1, .long 70644700037184, .int 0, .ref 90, .ref 92, .ref 94]))))).set 47 (.inr (.inl (16, [70644700037184]))))) (dc2 := 0) (ds2 := 0) 5 rfl ?_
    refine zT_call rfl rfl (zT_le (zg0_le 6 xs) zk_o_20) ?_
    refine zT_here (pc2 := 10) rfl ?_
    refine zT_gos (f := 200000) (pc2 := 29) (ls2 := [(5, .int 2), (4, .int 0), (0, .ref 162), (1, .int 1), (2, .int (xs 2)), (3, .int 4)]) (st2 := [.int (-2), .int (xs 2)]) (h2 := (((((((zH0.set 37 (.inr (.inr (.inr (3, [.ref 44, .ref 6, .ref 76, .ref 78, .ref 80, .ref 88, .int 1, .int 0, .ref 96, .int 0, .int 0, .int 0, .ref 98, .ref 100, .int 0]))))).set 44 (.inr (.inr (.inr (6, [.int 1, .long 70644700037184, .int 0, .ref 90, .ref 92, .ref 94]))))).set 47 (.inr (.inl (16, [70644700037184])))).set 106 (.inl (2, 2, [0, 1]))).set 105 (.inl (0, 2, [0, 0]))).set 107 (.inl (0, 132, [0, 0, 0, 0, 0, 0, 0, 0, 0, 0, 0, 0, 0, 0, 0, 0, 0, 0, 0, 0, 0, 0, 0, 0, 0, 0, 0, 0, 0, 0, 0, 0, 0, 0, 0, 0, 0, 0, 0, 0, 0, 0, 0, 0, 0, 0, 0, 0, 0, 0, 0, 0, 0, 0, 0, 0, 0, 0, 0, 0, 0, 0, 0, 0, 0, 0, 0, 0, 0, 0, 0, 0]))).set 109 (.inl (0, 22, [0, 0, 0, 0, 0, 0, 0, 0, 0, 0, 0, 0])))) (dc2 := 0) (ds2 := 0) 11 rfl ?_
    refine zT_if2 true rfl (zc_lt_t (by show ((xs 2) : Int32).toInt < -2; omega)) ?_
    refine zT_here (pc2 := 48) rfl ?_
    refine zT_gos (f := 200000) (pc2 := 71) (ls2 := [(5, .int 2), (4, .int 0), (0, .ref 162), (1, .int 1), (2, .int (xs 2)), (3, .int 4)]) (st2 := [.int (-9999)]) (h2 := (((((((zH0.set 37 (.inr (.inr (.inr (3, [.ref 44, .ref 6, .ref 76, .ref 78, .ref 80, .ref 88, .int 1, .int 0, .ref 96, .int 0, .int 0, .int 0, .ref 98, .ref 100, .int 0]))))).set 44 (.inr (.inr (.inr (6, [.int 1, .long 70644700037184, .int 0, .ref 90, .ref 92, .ref 94]))))).set 47 (.inr (.inl (16, [70644700037184])))).set 106 (.inl (2, 2, [0, 1]))).set 105 (.inl (0, 2, [0, 0]))).set 107 (.inl (0, 132, [0, 0, 0, 0, 0, 0, 0, 0, 0, 0, 0, 0, 0, 0, 0, 0, 0, 0, 0, 0, 0, 0, 0, 0, 0, 0, 0, 0, 0, 0, 0, 0, 0, 0, 0, 0, 0, 0, 0, 0, 0, 0, 0, 0, 0, 0, 0, 0, 0, 0, 0, 0, 0, 0, 0, 0, 0, 0, 0, 0, 0, 0, 0, 0, 0, 0, 0, 0, 0, 0, 0, 0]))).set 109 (.inl (0, 22, [0, 0, 0, 0, 0, 0, 0, 0, 0, 0, 0, 0])))) (dc2 := 0) (ds2 := 0) 2 rfl ?_
    exact zT_ret rfl rfl
  refine zT_here (pc2 := 1157) rfl ?_
  refine zT_gos (f := 200000) (pc2 := 1811) (ls2 := [(4, .int 6), (3, .ref 232), (2, .ref 162), (1, .ref 0), (0, .ref 11)]) (st2 := [.int 1]) (h2 := (((((((zH0.set 37 (.inr (.inr (.inr (3, [.ref 44, .ref 6, .ref 76, .ref 78, .ref 80, .ref 88, .int 1, .int 0, .ref 96, .int 0, .int 0, .int 0, .ref 98, .ref 100, .int 0]))))).set 44 (.inr (.inr (.inr (6, [.int 1, .long 70644700037184, .int 0, .ref 90, .ref 92, .ref 94]))))).set 47 (.inr (.inl (16, [70644700037184])))).set 106 (.inl (2, 2, [0, 1]))).set 105 (.inl (0, 2, [0, 0]))).set 107 (.inl (0, 132, [0, 0, 0, 0, 0, 0, 0, 0, 0, 0, 0, 0, 0, 0, 0, 0, 0, 0, 0, 0, 0, 0, 0, 0, 0, 0, 0, 0, 0, 0, 0, 0, 0, 0, 0, 0, 0, 0, 0, 0, 0, 0, 0, 0, 0, 0, 0, 0, 0, 0, 0, 0, 0, 0, 0, 0, 0, 0, 0, 0, 0, 0, 0, 0, 0, 0, 0, 0, 0, 0, 0, 0]))).set 109 (.inl (0, 22, [0, 0, 0, 0, 0, 0, 0, 0, 0, 0, 0, 0])))) (dc2 := 117) (ds2 := 29934) 10 rfl ?_
  exact zT_ret rfl rfl
set_option maxRecDepth 1000000 in
set_option maxHeartbeats 4000000 in
theorem zo_24_83 (xs : Nat → Int32) (h0 : xs 0 &&& 63 = 24) (h1 : (xs 1).toInt ≠ 0) (h3 : xs 3 = 4) (h2 : 2 < (xs 2).toInt) : zDone xs := by
  refine ⟨(((((((zH0.set 37 (.inr (.inr (.inr (3, [.ref 44, .ref 6, .ref 76, .ref 78, .ref 80, .ref 88, .int 1, .int 0, .ref 96, .int 0, .int 0, .int 0, .ref 98, .ref 100, .int 0]))))).set 44 (.inr (.inr (.inr (6, [.int 1, .long 70644700037184, .int 0, .ref 90, .ref 92, .ref 94]))))).set 47 (.inr (.inl (16, [70644700037184])))).set 106 (.inl (2, 2, [0, 1]))).set 105 (.inl (0, 2, [0, 0]))).set 107 (.inl (0, 132, [0, 0, 0, 0, 0, 0, 0, 0, 0, 0, 0, 0, 0, 0, 0, 0, 0, 0, 0, 0, 0, 0, 0, 0, 0, 0, 0, 0, 0, 0, 0, 0, 0, 0, 0, 0, 0, 0, 0, 0, 0, 0, 0, 0, 0, 0, 0, 0, 0, 0, 0, 0, 0, 0, 0, 0, 0, 0, 0, 0, 0, 0, 0, 0, 0, 0, 0, 0, 0, 0, 0, 0]))).set 109 (.inl (0, 22, [0, 0, 0, 0, 0, 0, 0, 0, 0, 0, 0, 0]))), 117, 29934, ?_, by decide, by decide⟩
  refine zT_gos (f := 200000) (pc2 := 37) (ls2 := [(4, .int 0), (3, .ref 232), (2, .ref 162), (1, .ref 0), (0, .ref 11)]) (st2 := [.int (xs 0)]) (h2 := zH0) (dc2 := 117) (ds2 := 29934) 9 rfl ?_
  refine zT_gos (f := 200000) (pc2 := 40) (ls2 := [(4, .int 0), (3, .ref 232), (2, .ref 162), (1, .ref 0), (0, .ref 11)]) (st2 := [.int ((xs 0) &&& (63 : Int32))]) (h2 := zH0) (dc2 := 117) (ds2 := 29934) 2 rfl ?_
  refine zT_val h0 ?_
  refine zT_gos (f := 200000) (pc2 := 1104) (ls2 := [(4, .int 0), (3, .ref 232), (2, .ref 162), (1, .ref 0), (0, .ref 11)]) (st2 := [.int (xs 1), .ref 0]) (h2 := zH0) (dc2 := 117) (ds2 := 29934) 7 rfl ?_
  refine zT_if0 false rfl (zc_eq_f (by show ((xs 1) : Int32).toInt ≠ 0; omega)) ?_
  refine zT_here (pc2 := 1107) rfl ?_
  refine zT_gos (f := 200000) (pc2 := 1118) (ls2 := [(4, .int 0), (3, .ref 232), (2, .ref 162), (1, .ref 0), (0, .ref 11)]) (st2 := [.int (xs 2), .int 1, .ref 0]) (h2 := zH0) (dc2 := 117) (ds2 := 29934) 7 rfl ?_
  refine zT_gos (f := 200000) (pc2 := 1124) (ls2 := [(4, .int 0), (3, .ref 232), (2, .ref 162), (1, .ref 0), (0, .ref 11)]) (st2 := [.int (xs 3), .int (xs 2), .int 1, .ref 0]) (h2 := zH0) (dc2 := 117) (ds2 := 29934) 5 rfl ?_
  refine zT_val h3 ?_
  refine zT_call (v := some (.int (-9999))) (h2 := (((zH0.set 37 (.inr (.inr (.inr (3, [.ref 44, .ref 6, .ref 76, .ref 78, .ref 80, .ref 88, .int 1, .int 0, .ref 96, .int 0, .int 0, .int 0, .ref 98, .ref 100, .int 0]))))).set 44 (.inr (.inr (.inr (6, [.int 1, .long 70644700037184, .int 0, .ref 90, .ref 92, .ref 94]))))).set 47 (.inr (.inl (16, [70644700037184]))))) (d1 := 0) (s1 := 0) rfl rfl ?_ ?_
  · refine zT_gos (f := 200000) (pc2 := 42) (ls2 := [(4, .ref 88), (0, .ref 0), (1, .int 1), (2, .int (xs 2)), (3, .int 4)]) (st2 := [.int (-2), .int (xs 2)]) (h2 := (((zH0.set 37 (.inr (.inr (.inr (3, [.ref 44, .ref 6, .ref 76, .ref 78, .ref 80, .ref 88, .int 1, .int 0, .ref 96, .int 0, .int 0, .int 0, .ref 98, .ref 100, .int 0]))))).set 44 (.inr (.inr (.inr (6, [.int 1, .long 70644700037184, .int 0, .ref 90, .ref 92, .ref 94]))))).set 47 (.inr (.inl (16, [70644700037184]))))) (dc2 := 0) (ds2 := 0) 18 rfl ?_
    refine zT_if2 false rfl (zc_lt_f (by show ((xs 2) : Int32).toInt ≥ -2; omega)) ?_
    refine zT_here (pc2 := 45) rfl ?_
    refine zT_gos (f := 200000) (pc2 := 59) (ls2 := [(4, .ref 88), (0, .ref 0), (1, .int 1), (2, .int (xs 2)), (3, .int 4)]) (st2 := [.int 2, .int (xs 2)]) (h2 := (((zH0.set 37 (.inr (.inr (.inr (3, [.ref 44, .ref 6, .ref 76, .ref 78, .ref 80, .ref 88, .int 1, .int 0, .ref 96, .int 0, .int 0, .int 0, .ref 98, .ref 100, .int 0]))))).set 44 (.inr (.inr (.inr (6, [.int 1, .long 70644700037184, .int 0, .ref 90, .ref 92, .ref 94]))))).set 47 (.inr (.inl (16, [70644700037184]))))) (dc2 := 0) (ds2 := 0) 7 rfl ?_
    refine zT_if2 false rfl (zc_le_f (by show ((xs 2) : Int32).toInt > 2; omega)) ?_
    refine zT_here (pc2 := 62) rfl ?_
    refine zT_gos (f := 200000) (pc2 := 65) (ls2 := [(4, .ref 88), (0, .ref 0), (1, .int 1), (2, .int (xs 2)), (3, .int 4)]) (st2 := [.int (-9999)]) (h2 := (((zH0.set 37 (.inr (.inr (.inr (3, [.ref 44, .ref 6, .ref 76, .ref 78, .ref 80, .ref 88, .int 1, .int 0, .ref 96, .int 0, .int 0, .int 0, .ref 98, .ref 100, .int 0]))))).set 44 (.inr (.inr (.inr (6, [.int 1, .long 70644700037184, .int 0, .ref 90, .ref 92, .ref 94]))))).set 47 (.inr (.inl (16, [70644700037184]))))) (dc2 := 0) (ds2 := 0) 1 rfl ?_
    exact zT_ret rfl rfl
  refine zT_here (pc2 := 1127) rfl ?_
  refine zT_gos (f := 200000) (pc2 := 1134) (ls2 := [(4, .int 0), (3, .ref 232), (2, .ref 162), (1, .ref 0), (0, .ref 11)]) (st2 := [.int (xs 1), .ref 162, .int (-9999)]) (h2 := (((zH0.set 37 (.inr (.inr (.inr (3, [.ref 44, .ref 6, .ref 76, .ref 78, .ref 80, .ref 88, .int 1, .int 0, .ref 96, .int 0, .int 0, .int 0, .ref 98, .ref 100, .int 0]))))).set 44 (.inr (.inr (.inr (6, [.int 1, .long 70644700037184, .int 0, .ref 90, .ref 92, .ref 94]))))).set 47 (.inr (.inl (16, [70644700037184]))))) (dc2 := 117) (ds2 := 29934) 6 rfl ?_
  refine zT_if0 false rfl (zc_eq_f (by show ((xs 1) : Int32).toInt ≠ 0; omega)) ?_
  refine zT_here (pc2 := 1137) rfl ?_
  refine zT_gos (f := 200000) (pc2 := 1148) (ls2 := [(4, .int 0), (3, .ref 232), (2, .ref 162), (1, .ref 0), (0, .ref 11)]) (st2 := [.int (xs 2), .int 1, .ref 162, .int (-9999)]) (h2 := (((zH0.set 37 (.inr (.inr (.inr (3, [.ref 44, .ref 6, .ref 76, .ref 78, .ref 80, .ref 88, .int 1, .int 0, .ref 96, .int 0, .int 0, .int 0, .ref 98, .ref 100, .int 0]))))).set 44 (.inr (.inr (.inr (6, [.int 1, .long 70644700037184, .int 0, .ref 90, .ref 92, .ref 94]))))).set 47 (.inr (.inl (16, [70644700037184]))))) (dc2 := 117) (ds2 := 29934) 7 rfl ?_
  refine zT_gos (f := 200000) (pc2 := 1154) (ls2 := [(4, .int 0), (3, .ref 232), (2, .ref 162), (1, .ref 0), (0, .ref 11)]) (st2 := [.int (xs 3), .int (xs 2), .int 1, .ref 162, .int (-9999)]) (h2 := (((zH0.set 37 (.inr (.inr (.inr (3, [.ref 44, .ref 6, .ref 76, .ref 78, .ref 80, .ref 88, .int 1, .int 0, .ref 96, .int 0, .int 0, .int 0, .ref 98, .ref 100, .int 0]))))).set 44 (.inr (.inr (.inr (6, [.int 1, .long 70644700037184, .int 0, .ref 90, .ref 92, .ref 94]))))).set 47 (.inr (.inl (16, [70644700037184]))))) (dc2 := 117) (ds2 := 29934) 5 rfl ?_
  refine zT_val h3 ?_
  refine zT_call (v := some (.int (-9999))) (h2 := (((((((zH0.set 37 (.inr (.inr (.inr (3, [.ref 44, .ref 6, .ref 76, .ref 78, .ref 80, .ref 88, .int 1, .int 0, .ref 96, .int 0, .int 0, .int 0, .ref 98, .ref 100, .int 0]))))).set 44 (.inr (.inr (.inr (6, [.int 1, .long 70644700037184, .int 0, .ref 90, .ref 92, .ref 94]))))).set 47 (.inr (.inl (16, [70644700037184])))).set 106 (.inl (2, 2, [0, 1]))).set 105 (.inl (0, 2, [0, 0]))).set 107 (.inl (0, 132, [0, 0, 0, 0, 0, 0, 0, 0, 0, 0, 0, 0, 0, 0, 0, 0, 0, 0, 0, 0, 0, 0, 0, 0, 0, 0, 0, 0, 0, 0, 0, 0, 0, 0, 0, 0, 0, 0, 0, 0, 0, 0, 0, 0, 0, 0, 0, 0, 0, 0, 0, 0, 0, 0, 0, 0, 0, 0, 0, 0, 0, 0, 0, 0, 0, 0, 0, 0, 0, 0, 0, 0]))).set 109 (.inl (0, 22, [0, 0, 0, 0, 0, 0, 0, 0, 0, 0, 0, 0])))) (d1 := 0) (s1 := 0) rfl rfl ?_ ?_
  · refine zT_gos (f := 200000) (pc2 := 7) (ls2 := [(0, .ref 162), (1, .int 1), (2, .int (xs 2)), (3, .int 4)]) (st2 := [.int 1, .ref 162]) (h2 := (((zH0.set 37 (.inr (.inr (.inr (3, [.ref 44, .ref 6, .ref 76, .ref 78, .ref 80, .ref 88, .int 1, .int 0, .ref 96, .int 0, .int 0, .int 0, .ref 98, .ref 100, .int 0]))))).set 44 (.inr (.inr (.inr (6, [.int 1, .long 70644700037184, .int 0, .ref 90, .ref 92, .ref 94]))))).set 47 (.inr (.inl (16, [70644700037184]))))) (dc2 := 0) (ds2 := 0) 5 rfl ?_
    refine zT_call rfl rfl (zT_le (zg0_le 6 xs) zk_o_20) ?_
    refine zT_here (pc2 := 10) rfl ?_
    refine zT_gos (f := 200000) (pc2 := 29) (ls2 := [(5, .int 2), (4, .int 0), (0, .ref 162), (1, .int 1), (2, .int (xs 2)), (3, .int 4)]) (st2 := [.int (-2), .int (xs 2)]) (h2 := (((((((zH0.set 37 (.inr (.inr (.inr (3, [.ref 44, .ref 6, .ref 76, .ref 78, .ref 80, .ref 88, .int 1, .int 0, .ref 96, .int 0, .int 0, .int 0, .ref 98, .ref 100, .int 0]))))).set 44 (.inr (.inr (.inr (6, [.int 1, .long 70644700037184, .int 0, .ref 90, .ref 92, .ref 94]))))).set 47 (.inr (.inl (16, [70644700037184])))).set 106 (.inl (2, 2, [0, 1]))).set 105 (.inl (0, 2, [0, 0]))).set 107 (.inl (0, 132, [0, 0, 0, 0, 0, 0, 0, 0, 0, 0, 0, 0, 0, 0, 0, 0, 0, 0, 0, 0, 0, 0, 0, 0, 0, 0, 0, 0, 0, 0, 0, 0, 0, 0, 0, 0, 0, 0, 0, 0, 0, 0, 0, 0, 0, 0, 0, 0, 0, 0, 0, 0, 0, 0, 0, 0, 0, 0, 0, 0, 0, 0, 0, 0, 0, 0, 0, 0, 0, 0, 0, 0]))).set 109 (.inl (0, 22, [0, 0, 0, 0, 0, 0, 0, 0, 0, 0, 0, 0])))) (dc2 := 0) (ds2 := 0) 11 rfl ?_
    refine zT_if2 false rfl (zc_lt_f (by show ((xs 2) : Int32).toInt ≥ -2; omega)) ?_
    refine zT_here (pc2 := 32) rfl ?_
    refine zT_gos (f := 200000) (pc2 := 38) (ls2 := [(5, .int 2), (4, .int 0), (0, .ref 162), (1, .int 1), (2, .int (xs 2)), (3, .int 4)]) (st2 := [.int 2, .int (xs 2)]) (h2 := (((((((zH0.set 37 (.inr (.inr (.inr (3, [.ref 44, .ref 6, .ref 76, .ref 78, .ref 80, .ref 88, .int 1, .int 0, .ref 96, .int 0, .int 0, .int 0, .ref 98, .ref 100, .int 0]))))).set 44 (.inr (.inr (.inr (6, [.int 1, .long 70644700037184, .int 0, .ref 90, .ref 92, .ref 94]))))).set 47 (.inr (.inl (16, [70644700037184])))).set 106 (.inl (2, 2, [0, 1]))).set 105 (.inl (0, 2, [0, 0]))).set 107 (.inl (0, 132, [0, 0, 0, 0, 0, 0, 0, 0, 0, 0, 0, 0, 0, 0, 0, 0, 0, 0, 0, 0, 0, 0, 0, 0, 0, 0, 0, 0, 0, 0, 0, 0, 0, 0, 0, 0, 0, 0, 0, 0, 0, 0, 0, 0, 0, 0, 0, 0, 0, 0, 0, 0, 0, 0, 0, 0, 0, 0, 0, 0, 0, 0, 0, 0, 0, 0, 0, 0, 0, 0, 0, 0]))).set 109 (.inl (0, 22, [0, 0, 0, 0, 0, 0, 0, 0, 0, 0, 0, 0])))) (dc2 := 0) (ds2 := 0) 4 rfl ?_
    refine zT_if2 true rfl (zc_gt_t (by show ((xs 2) : Int32).toInt > 2; omega)) ?_
    refine zT_here (pc2 := 48) rfl ?_
    refine zT_gos (f := 200000) (pc2 := 71) (ls2 := [(5, .int 2), (4, .int 0), (0, .ref 162), (1, .int 1), (2, .int (xs 2)), (3, .int 4)]) (st2 := [.int (-9999)]) (h2 := (((((((zH0.set 37 (.inr (.inr (.inr (3, [.ref 44, .ref 6, .ref 76, .ref 78, .ref 80, .ref 88, .int 1, .int 0, .ref 96, .int 0, .int 0, .int 0, .ref 98, .ref 100, .int 0]))))).set 44 (.inr (.inr (.inr (6, [.int 1, .long 70644700037184, .int 0, .ref 90, .ref 92, .ref 94]))))).set 47 (.inr (.inl (16, [70644700037184])))).set 106 (.inl (2, 2, [0, 1]))).set 105 (.inl (0, 2, [0, 0]))).set 107 (.inl (0, 132, [0, 0, 0, 0, 0, 0, 0, 0, 0, 0, 0, 0, 0, 0, 0, 0, 0, 0, 0, 0, 0, 0, 0, 0, 0, 0, 0, 0, 0, 0, 0, 0, 0, 0, 0, 0, 0, 0, 0, 0, 0, 0, 0, 0, 0, 0, 0, 0, 0, 0, 0, 0, 0, 0, 0, 0, 0, 0, 0, 0, 0, 0, 0, 0, 0, 0, 0, 0, 0, 0, 0, 0]))).set 109 (.inl (0, 22, [0, 0, 0, 0, 0, 0, 0, 0, 0, 0, 0, 0])))) (dc2 := 0) (ds2 := 0) 2 rfl ?_
    exact zT_ret rfl rfl
  refine zT_here (pc2 := 1157) rfl ?_
  refine zT_gos (f := 200000) (pc2 := 1811) (ls2 := [(4, .int 6), (3, .ref 232), (2, .ref 162), (1, .ref 0), (0, .ref 11)]) (st2 := [.int 1]) (h2 := (((((((zH0.set 37 (.inr (.inr (.inr (3, [.ref 44, .ref 6, .ref 76, .ref 78, .ref 80, .ref 88, .int 1, .int 0, .ref 96, .int 0, .int 0, .int 0, .ref 98, .ref 100, .int 0]))))).set 44 (.inr (.inr (.inr (6, [.int 1, .long 70644700037184, .int 0, .ref 90, .ref 92, .ref 94]))))).set 47 (.inr (.inl (16, [70644700037184])))).set 106 (.inl (2, 2, [0, 1]))).set 105 (.inl (0, 2, [0, 0]))).set 107 (.inl (0, 132, [0, 0, 0, 0, 0, 0, 0, 0, 0, 0, 0, 0, 0, 0, 0, 0, 0, 0, 0, 0, 0, 0, 0, 0, 0, 0, 0, 0, 0, 0, 0, 0, 0, 0, 0, 0, 0, 0, 0, 0, 0, 0, 0, 0, 0, 0, 0, 0, 0, 0, 0, 0, 0, 0, 0, 0, 0, 0, 0, 0, 0, 0, 0, 0, 0, 0, 0, 0, 0, 0, 0, 0]))).set 109 (.inl (0, 22, [0, 0, 0, 0, 0, 0, 0, 0, 0, 0, 0, 0])))) (dc2 := 117) (ds2 := 29934) 10 rfl ?_
  exact zT_ret rfl rfl
set_option maxRecDepth 1000000 in
theorem zk_o_241 : zT zg0 zF zP 125 0 [(0, .ref 0), (1, .int 1), (2, .int (-2)), (3, .int 4)] [] zH0 0 0 (some (.int 0), (((zH0.set 37 (.inr (.inr (.inr (3, [.ref 44, .ref 6, .ref 76, .ref 78, .ref 80, .ref 88, .int 1, .int 0, .ref 96, .int 0, .int 0, .int 0, .ref 98, .ref 100, .int 0]))))).set 44 (.inr (.inr (.inr (6, [.int 1, .long 70644700037184, .int 0, .ref 90, .ref 92, .ref 94]))))).set 47 (.inr (.inl (16, [70644700037184])))), 0, 0) := zclosed (n := 340) (by decide +kernel)
set_option maxRecDepth 1000000 in
theorem zk_o_242 : zT zg0 zF zP 256 0 [(0, .ref 162), (1, .int 1), (2, .int (-2)), (3, .int 4)] [] (((zH0.set 37 (.inr (.inr (.inr (3, [.ref 44, .ref 6, .ref 76, .ref 78, .ref 80, .ref 88, .int 1, .int 0, .ref 96, .int 0, .int 0, .int 0, .ref 98, .ref 100, .int 0]))))).set 44 (.inr (.inr (.inr (6, [.int 1, .long 70644700037184, .int 0, .ref 90, .ref 92, .ref 94]))))).set 47 (.inr (.inl (16, [70644700037184])))) 0 0 (some (.int 0), (((((((zH0.set 37 (.inr (.inr (.inr (3, [.ref 44, .ref 6, .ref 76, .ref 78, .ref 80, .ref 88, .int 1, .int 0, .ref 96, .int 0, .int 0, .int 0, .ref 98, .ref 100, .int 0]))))).set 44 (.inr (.inr (.inr (6, [.int 1, .long 70644700037184, .int 0, .ref 90, .ref 92, .ref 94]))))).set 47 (.inr (.inl (16, [70644700037184])))).set 106 (.inl (2, 2, [0, 1]))).set 105 (.inl (0, 2, [0, 0]))).set 107 (.inl (0, 132, [0, 0, 0, 0, 0, 0, 0, 0, 0, 0, 0, 0, 0, 0, 0, 0, 0, 0, 0, 0, 0, 0, 0, 0, 0, 0, 0, 0, 0, 0, 0, 0, 0, 0, 0, 0, 0, 0, 0, 0, 0, 0, 0, 0, 0, 0, 0, 0, 0, 0, 0, 0, 0, 0, 0, 0, 0, 0, 0, 0, 0, 0, 0, 0, 0, 0, 0, 0, 0, 0, 0, 0]))).set 109 (.inl (0, 22, [0, 0, 0, 0, 0, 0, 0, 0, 0, 0, 0, 0]))), 0, 0) := zclosed (n := 380) (by decide +kernel)
set_option maxRecDepth 1000000 in
set_option maxHeartbeats 4000000 in
theorem zo_24_84 (xs : Nat → Int32) (h0 : xs 0 &&& 63 = 24) (h1 : (xs 1).toInt ≠ 0) (h3 : xs 3 = 4) (h2 : xs 2 = (-2)) : zDone xs := by
  refine ⟨(((((((zH0.set 37 (.inr (.inr (.inr (3, [.ref 44, .ref 6, .ref 76, .ref 78, .ref 80, .ref 88, .int 1, .int 0, .ref 96, .int 0, .int 0, .int 0, .ref 98, .ref 100, .int 0]))))).set 44 (.inr (.inr (.inr (6, [.int 1, .long 70644700037184, .int 0, .ref 90, .ref 92, .ref 94]))))).set 47 (.inr (.inl (16, [70644700037184])))).set 106 (.inl (2, 2, [0, 1]))).set 105 (.inl (0, 2, [0, 0]))).set 107 (.inl (0, 132, [0, 0, 0, 0, 0, 0, 0, 0, 0, 0, 0, 0, 0, 0, 0, 0, 0, 0, 0, 0, 0, 0, 0, 0, 0, 0, 0, 0, 0, 0, 0, 0, 0, 0, 0, 0, 0, 0, 0, 0, 0, 0, 0, 0, 0, 0, 0, 0, 0, 0, 0, 0, 0, 0, 0, 0, 0, 0, 0, 0, 0, 0, 0, 0, 0, 0, 0, 0, 0, 0, 0, 0]))).set 109 (.inl (0, 22, [0, 0, 0, 0, 0, 0, 0, 0, 0, 0, 0, 0]))), 117, 29934, ?_, by decide, by decide⟩
  refine zT_gos (f := 200000) (pc2 := 37) (ls2 := [(4, .int 0), (3, .ref 232), (2, .ref 162), (1, .ref 0), (0, .ref 11)]) (st2 := [.int (xs 0)]) (h2 := zH0) (dc2 := 117) (ds2 := 29934) 9 rfl ?_
  refine zT_gos (f := 200000) (pc2 := 40) (ls2 := [(4, .int 0), (3, .ref 232), (2, .ref 162), (1, .ref 0), (0, .ref 11)]) (st2 := [.int ((xs 0) &&& (63 : Int32))]) (h2 := zH0) (dc2 := 117) (ds2 := 29934) 2 rfl ?_
  refine zT_val h0 ?_
  refine zT_gos (f := 200000) (pc2 := 1104) (ls2 := [(4, .int 0), (3, .ref 232), (2, .ref 162), (1, .ref 0), (0, .ref 11)]) (st2 := [.int (xs 1), .ref 0]) (h2 := zH0) (dc2 := 117) (ds2 := 29934) 7 rfl ?_
  refine zT_if0 false rfl (zc_eq_f (by show ((xs 1) : Int32).toInt ≠ 0; omega)) ?_
  refine zT_here (pc2 := 1107) rfl ?_
  refine zT_gos (f := 200000) (pc2 := 1118) (ls2 := [(4, .int 0), (3, .ref 232), (2, .ref 162), (1, .ref 0), (0, .ref 11)]) (st2 := [.int (xs 2), .int 1, .ref 0]) (h2 := zH0) (dc2 := 117) (ds2 := 29934) 7 rfl ?_
  refine zT_val h2 ?_
  refine zT_gos (f := 200000) (pc2 := 1124) (ls2 := [(4, .int 0), (3, .ref 232), (2, .ref 162), (1, .ref 0), (0, .ref 11)]) (st2 := [.int (xs 3), .int (-2), .int 1, .ref 0]) (h2 := zH0) (dc2 := 117) (ds2 := 29934) 5 rfl ?_
  refine zT_val h3 ?_
  refine zT_call rfl rfl (zT_le (zg0_le 6 xs) zk_o_241) ?_
  refine zT_here (pc2 := 1127) rfl ?_
  refine zT_gos (f := 200000) (pc2 := 1134) (ls2 := [(4, .int 0), (3, .ref 232), (2, .ref 162), (1, .ref 0), (0, .ref 11)]) (st2 := [.int (xs 1), .ref 162, .int 0]) (h2 := (((zH0.set 37 (.inr (.inr (.inr (3, [.ref 44, .ref 6, .ref 76, .ref 78, .ref 80, .ref 88, .int 1, .int 0, .ref 96, .int 0, .int 0, .int 0, .ref 98, .ref 100, .int 0]))))).set 44 (.inr (.inr (.inr (6, [.int 1, .long 70644700037184, .int 0, .ref 90, .ref 92, .ref 94]))))).set 47 (.inr (.inl (16, [70644700037184]))))) (dc2 := 117) (ds2 := 29934) 6 rfl ?_
  refine zT_if0 false rfl (zc_eq_f (by show ((xs 1) : Int32).toInt ≠ 0; omega)) ?_
  refine zT_here (pc2 := 1137) rfl ?_
  refine zT_gos (f := 200000) (pc2 := 1148) (ls2 := [(4, .int 0), (3, .ref 232), (2, .ref 162), (1, .ref 0), (0, .ref 11)]) (st2 := [.int (xs 2), .int 1, .ref 162, .int 0]) (h2 := (((zH0.set 37 (.inr (.inr (.inr (3, [.ref 44, .ref 6, .ref 76, .ref 78, .ref 80, .ref 88, .int 1, .int 0, .ref 96, .int 0, .int 0, .int 0, .ref 98, .ref 100, .int 0]))))).set 44 (.inr (.inr (.inr (6, [.int 1, .long 70644700037184, .int 0, .ref 90, .ref 92, .ref 94]))))).set 47 (.inr (.inl (16, [70644700037184]))))) (dc2 := 117) (ds2 := 29934) 7 rfl ?_
  refine zT_val h2 ?_
  refine zT_gos (f := 200000) (pc2 := 1154) (ls2 := [(4, .int 0), (3, .ref 232), (2, .ref 162), (1, .ref 0), (0, .ref 11)]) (st2 := [.int (xs 3), .int (-2), .int 1, .ref 162, .int 0]) (h2 := (((zH0.set 37 (.inr (.inr (.inr (3, [.ref 44, .ref 6, .ref 76, .ref 78, .ref 80, .ref 88, .int 1, .int 0, .ref 96, .int 0, .int 0, .int 0, .ref 98, .ref 100, .int 0]))))).set 44 (.inr (.inr (.inr (6, [.int 1, .long 70644700037184, .int 0, .ref 90, .ref 92, .ref 94]))))).set 47 (.inr (.inl (16, [70644700037184]))))) (dc2 := 117) (ds2 := 29934) 5 rfl ?_
  refine zT_val h3 ?_
  refine zT_call rfl rfl (zT_le (zg0_le 6 xs) zk_o_242) ?_
  refine zT_here (pc2 := 1157) rfl ?_
  refine zT_gos (f := 200000) (pc2 := 1811) (ls2 := [(4, .int 6), (3, .ref 232), (2, .ref 162), (1, .ref 0), (0, .ref 11)]) (st2 := [.int 1]) (h2 := (((((((zH0.set 37 (.inr (.inr (.inr (3, [.ref 44, .ref 6, .ref 76, .ref 78, .ref 80, .ref 88, .int 1, .int 0, .ref 96, .int 0, .int 0, .int 0, .ref 98, .ref 100, .int 0]))))).set 44 (.inr (.inr (.inr (6, [.int 1, .long 70644700037184, .int 0, .ref 90, .ref 92, .ref 94]))))).set 47 (.inr (.inl (16, [70644700037184])))).set 106 (.inl (2, 2, [0, 1]))).set 105 (.inl (0, 2, [0, 0]))).set 107 (.inl (0, 132, [0, 0, 0, 0, 0, 0, 0, 0, 0, 0, 0, 0, 0, 0, 0, 0, 0, 0, 0, 0, 0, 0, 0, 0, 0, 0, 0, 0, 0, 0, 0, 0, 0, 0, 0, 0, 0, 0, 0, 0, 0, 0, 0, 0, 0, 0, 0, 0, 0, 0, 0, 0, 0, 0, 0, 0, 0, 0, 0, 0, 0, 0, 0, 0, 0, 0, 0, 0, 0, 0, 0, 0]))).set 109 (.inl (0, 22, [0, 0, 0, 0, 0, 0, 0, 0, 0, 0, 0, 0])))) (dc2 := 117) (ds2 := 29934) 10 rfl ?_
  exact zT_ret rfl rfl
set_option maxRecDepth 1000000 in
theorem zk_o_243 : zT zg0 zF zP 125 0 [(0, .ref 0), (1, .int 1), (2, .int (-1)), (3, .int 4)] [] zH0 0 0 (some (.int 0), (((zH0.set 37 (.inr (.inr (.inr (3, [.ref 44, .ref 6, .ref 76, .ref 78, .ref 80, .ref 88, .int 1, .int 0, .ref 96, .int 0, .int 0, .int 0, .ref 98, .ref 100, .int 0]))))).set 44 (.inr (.inr (.inr (6, [.int 1, .long 70644700037184, .int 0, .ref 90, .ref 92, .ref 94]))))).set 47 (.inr (.inl (16, [70644700037184])))), 0, 0) := zclosed (n := 345) (by decide +kernel)
set_option maxRecDepth 1000000 in
theorem zk_o_244 : zT zg0 zF zP 256 0 [(0, .ref 162), (1, .int 1), (2, .int (-1)), (3, .int 4)] [] (((zH0.set 37 (.inr (.inr (.inr (3, [.ref 44, .ref 6, .ref 76, .ref 78, .ref 80, .ref 88, .int 1, .int 0, .ref 96, .int 0, .int 0, .int 0, .ref 98, .ref 100, .int 0]))))).set 44 (.inr (.inr (.inr (6, [.int 1, .long 70644700037184, .int 0, .ref 90, .ref 92, .ref 94]))))).set 47 (.inr (.inl (16, [70644700037184])))) 0 0 (some (.int 0), (((((((zH0.set 37 (.inr (.inr (.inr (3, [.ref 44, .ref 6, .ref 76, .ref 78, .ref 80, .ref 88, .int 1, .int 0, .ref 96, .int 0, .int 0, .int 0, .ref 98, .ref 100, .int 0]))))).set 44 (.inr (.inr (.inr (6, [.int 1, .long 70644700037184, .int 0, .ref 90, .ref 92, .ref 94]))))).set 47 (.inr (.inl (16, [70644700037184])))).set 106 (.inl (2, 2, [0, 1]))).set 105 (.inl (0, 2, [0, 0]))).set 107 (.inl (0, 132, [0, 0, 0, 0, 0, 0, 0, 0, 0, 0, 0, 0, 0, 0, 0, 0, 0, 0, 0, 0, 0, 0, 0, 0, 0, 0, 0, 0, 0, 0, 0, 0, 0, 0, 0, 0, 0, 0, 0, 0, 0, 0, 0, 0, 0, 0, 0, 0, 0, 0, 0, 0, 0, 0, 0, 0, 0, 0, 0, 0, 0, 0, 0, 0, 0, 0, 0, 0, 0, 0, 0, 0]))).set 109 (.inl (0, 22, [0, 0, 0, 0, 0, 0, 0, 0, 0, 0, 0, 0]))), 0, 0) := zclosed (n := 404) (by decide +kernel)
set_option maxRecDepth 1000000 in
set_option maxHeartbeats 4000000 in
theorem zo_24_85 (xs : Nat → Int32) (h0 : xs 0 &&& 63 = 24) (h1 : (xs 1).toInt ≠ 0) (h3 : xs 3 = 4) (h2 : xs 2 = (-1)) : zDone xs := by
  refine ⟨(((((((zH0.set 37 (.inr (.inr (.inr (3, [.ref 44, .ref 6, .ref 76, .ref 78, .ref 80, .ref 88, .int 1, .int 0, .ref 96, .int 0, .int 0, .int 0, .ref 98, .ref 100, .int 0]))))).set 44 (.inr (.inr (.inr (6, [.int 1, .long 70644700037184, .int 0, .ref 90, .ref 92, .ref 94]))))).set 47 (.inr (.inl (16, [70644700037184])))).set 106 (.inl (2, 2, [0, 1]))).set 105 (.inl (0, 2, [0, 0]))).set 107 (.inl (0, 132, [0, 0, 0, 0, 0, 0, 0, 0, 0, 0, 0, 0, 0, 0, 0, 0, 0, 0, 0, 0, 0, 0, 0, 0, 0, 0, 0, 0, 0, 0, 0, 0, 0, 0, 0, 0, 0, 0, 0, 0, 0, 0, 0, 0, 0, 0, 0, 0, 0, 0, 0, 0, 0, 0, 0, 0, 0, 0, 0, 0, 0, 0, 0, 0, 0, 0, 0, 0, 0, 0, 0, 0]))).set 109 (.inl (0, 22, [0, 0, 0, 0, 0, 0, 0, 0, 0, 0, 0, 0]))), 117, 29934, ?_, by decide, by decide⟩
  refine zT_gos (f := 200000) (pc2 := 37) (ls2 := [(4, .int 0), (3, .ref 232), (2, .ref 162), (1, .ref 0), (0, .ref 11)]) (st2 := [.int (xs 0)]) (h2 := zH0) (dc2 := 117) (ds2 := 29934) 9 rfl ?_
  refine zT_gos (f := 200000) (pc2 := 40) (ls2 := [(4, .int 0), (3, .ref 232), (2, .ref 162), (1, .ref 0), (0, .ref 11)]) (st2 := [.int ((xs 0) &&& (63 : Int32))]) (h2 := zH0) (dc2 := 117) (ds2 := 29934) 2 rfl ?_
  refine zT_val h0 ?_
  refine zT_gos (f := 200000) (pc2 := 1104) (ls2 := [(4, .int 0), (3, .ref 232), (2, .ref 162), (1, .ref 0), (0, .ref 11)]) (st2 := [.int (xs 1), .ref 0]) (h2 := zH0) (dc2 := 117) (ds2 := 29934) 7 rfl ?_
  refine zT_if0 false rfl (zc_eq_f (by show ((xs 1) : Int32).toInt ≠ 0; omega)) ?_
  refine zT_here (pc2 := 1107) rfl ?_
  refine zT_gos (f := 200000) (pc2 := 1118) (ls2 := [(4, .int 0), (3, .ref 232), (2, .ref 162), (1, .ref 0), (0, .ref 11)]) (st2 := [.int (xs 2), .int 1, .ref 0]) (h2 := zH0) (dc2 := 117) (ds2 := 29934) 7 rfl ?_
  refine zT_val h2 ?_
  refine zT_gos (f := 200000) (pc2 := 1124) (ls2 := [(4, .int 0), (3, .ref 232), (2, .ref 162), (1, .ref 0), (0, .ref 11)]) (st2 := [.int (xs 3), .int (-1), .int 1, .ref 0]) (h2 := zH0) (dc2 := 117) (ds2 := 29934) 5 rfl ?_
  refine zT_val h3 ?_
  refine zT_call rfl rfl (zT_le (zg0_le 6 xs) zk_o_243) ?_
  refine zT_here (pc2 := 1127) rfl ?_
  refine zT_gos (f := 200000) (pc2 := 1134) (ls2 := [(4, .int 0), (3, .ref 232), (2, .ref 162), (1, .ref 0), (0, .ref 11)]) (st2 := [.int (xs 1), .ref 162, .int 0]) (h2 := (((zH0.set 37 (.inr (.inr (.inr (3, [.ref 44, .ref 6, .ref 76, .ref 78, .ref 80, .ref 88, .int 1, .int 0, .ref 96, .int 0, .int 0, .int 0, .ref 98, .ref 100, .int 0]))))).set 44 (.inr (.inr (.inr (6, [.int 1, .long 70644700037184, .int 0, .ref 90, .ref 92, .ref 94]))))).set 47 (.inr (.inl (16, [70644700037184]))))) (dc2 := 117) (ds2 := 29934) 6 rfl ?_
  refine zT_if0 false rfl (zc_eq_f (by show ((xs 1) : Int32).toInt ≠ 0; omega)) ?_
  refine zT_here (pc2 := 1137) rfl ?_
  refine zT_gos (f := 200000) (pc2 := 1148) (ls2 := [(4, .int 0), (3, .ref 232), (2, .ref 162), (1, .ref 0), (0, .ref 11)]) (st2 := [.int (xs 2), .int 1, .ref 162, .int 0]) (h2 := (((zH0.set 37 (.inr (.inr (.inr (3, [.ref 44, .ref 6, .ref 76, .ref 78, .ref 80, .ref 88, .int 1, .int 0, .ref 96, .int 0, .int 0, .int 0, .ref 98, .ref 100, .int 0]))))).set 44 (.inr (.inr (.inr (6, [.int 1, .long 70644700037184, .int 0, .ref 90, .ref 92, .ref 94]))))).set 47 (.inr (.inl (16, [70644700037184]))))) (dc2 := 117) (ds2 := 29934) 7 rfl ?_
  refine zT_val h2 ?_
  refine zT_gos (f := 200000) (pc2 := 1154) (ls2 := [(4, .int 0), (3, .ref 232), (2, .ref 162), (1, .ref 0), (0, .ref 11)]) (st2 := [.int (xs 3), .int (-1), .int 1, .ref 162, .int 0]) (h2 := (((zH0.set 37 (.inr (.inr (.inr (3, [.ref 44, .ref 6, .ref 76, .ref 78, .ref 80, .ref 88, .int 1, .int 0, .ref 96, .int 0, .int 0, .int 0, .ref 98, .ref 100, .int 0]))))).set 44 (.inr (.inr (.inr (6, [.int 1, .long 70644700037184, .int 0, .ref 90, .ref 92, .ref 94]))))).set 47 (.inr (.inl (16, [70644700037184]))))) (dc2 := 117) (ds2 := 29934) 5 rfl ?_
  refine zT_val h3 ?_
  refine zT_call rfl rfl (zT_le (zg0_le 6 xs) zk_o_244) ?_
  refine zT_here (pc2 := 1157) rfl ?_
  refine zT_gos (f := 200000) (pc2 := 1811) (ls2 := [(4, .int 6), (3, .ref 232), (2, .ref 162), (1, .ref 0), (0, .ref 11)]) (st2 := [.int 1]) (h2 := (((((((zH0.set 37 (.inr (.inr (.inr (3, [.ref 44, .ref 6, .ref 76, .ref 78, .ref 80, .ref 88, .int 1, .int 0, .ref 96, .int 0, .int 0, .int 0, .ref 98, .ref 100, .int 0]))))).set 44 (.inr (.inr (.inr (6, [.int 1, .long 70644700037184, .int 0, .ref 90, .ref 92, .ref 94]))))).set 47 (.inr (.inl (16, [70644700037184])))).set 106 (.inl (2, 2, [0, 1]))).set 105 (.inl (0, 2, [0, 0]))).set 107 (.inl (0, 132, [0, 0, 0, 0, 0, 0, 0, 0, 0, 0, 0, 0, 0, 0, 0, 0, 0, 0, 0, 0, 0, 0, 0, 0, 0, 0, 0, 0, 0, 0, 0, 0, 0, 0, 0, 0, 0, 0, 0, 0, 0, 0, 0, 0, 0, 0, 0, 0, 0, 0, 0, 0, 0, 0, 0, 0, 0, 0, 0, 0, 0, 0, 0, 0, 0, 0, 0, 0, 0, 0, 0, 0]))).set 109 (.inl (0, 22, [0, 0, 0, 0, 0, 0, 0, 0, 0, 0, 0, 0])))) (dc2 := 117) (ds2 := 29934) 10 rfl ?_
  exact zT_ret rfl rfl
set_option maxRecDepth 1000000 in
theorem zk_o_245 : zT zg0 zF zP 125 0 [(0, .ref 0), (1, .int 1), (2, .int 0), (3, .int 4)] [] zH0 0 0 (some (.int 0), (((zH0.set 37 (.inr (.inr (.inr (3, [.ref 44, .ref 6, .ref 76, .ref 78, .ref 80, .ref 88, .int 1, .int 0, .ref 96, .int 0, .int 0, .int 0, .ref 98, .ref 100, .int 0]))))).set 44 (.inr (.inr (.inr (6, [.int 1, .long 70644700037184, .int 0, .ref 90, .ref 92, .ref 94]))))).set 47 (.inr (.inl (16, [70644700037184])))), 0, 0) := zclosed (n := 350) (by decide +kernel)
set_option maxRecDepth 1000000 in
theorem zk_o_246 : zT zg0 zF zP 256 0 [(0, .ref 162), (1, .int 1), (2, .int 0), (3, .int 4)] [] (((zH0.set 37 (.inr (.inr (.inr (3, [.ref 44, .ref 6, .ref 76, .ref 78, .ref 80, .ref 88, .int 1, .int 0, .ref 96, .int 0, .int 0, .int 0, .ref 98, .ref 100, .int 0]))))).set 44 (.inr (.inr (.inr (6, [.int 1, .long 70644700037184, .int 0, .ref 90, .ref 92, .ref 94]))))).set 47 (.inr (.inl (16, [70644700037184])))) 0 0 (some (.int 0), (((((((zH0.set 37 (.inr (.inr (.inr (3, [.ref 44, .ref 6, .ref 76, .ref 78, .ref 80, .ref 88, .int 1, .int 0, .ref 96, .int 0, .int 0, .int 0, .ref 98, .ref 100, .int 0]))))).set 44 (.inr (.inr (.inr (6, [.int 1, .long 70644700037184, .int 0, .ref 90, .ref 92, .ref 94]))))).set 47 (.inr (.inl (16, [70644700037184])))).set 106 (.inl (2, 2, [0, 1]))).set 105 (.inl (0, 2, [0, 0]))).set 107 (.inl (0, 132, [0, 0, 0, 0, 0, 0, 0, 0, 0, 0, 0, 0, 0, 0, 0, 0, 0, 0, 0, 0, 0, 0, 0, 0, 0, 0, 0, 0, 0, 0, 0, 0, 0, 0, 0, 0, 0, 0, 0, 0, 0, 0, 0, 0, 0, 0, 0, 0, 0, 0, 0, 0, 0, 0, 0, 0, 0, 0, 0, 0, 0, 0, 0, 0, 0, 0, 0, 0, 0, 0, 0, 0]))).set 109 (.inl (0, 22, [0, 0, 0, 0, 0, 0, 0, 0, 0, 0, 0, 0]))), 0, 0) := zclosed (n := 428) (by decide +kernel)
set_option maxRecDepth 1000000 in
set_option maxHeartbeats 4000000 in
theorem zo_24_86 (xs : Nat → Int32) (h0 : xs 0 &&& 63 = 24) (h1 : (xs 1).toInt ≠ 0) (h3 : xs 3 = 4) (h2 : xs 2 = 0) : zDone xs := by
  refine ⟨(((((((zH0.set 37 (.inr (.inr (.inr (3, [.ref 44, .ref 6, .ref 76, .ref 78, .ref 80, .ref 88, .int 1, .int 0, .ref 96, .int 0, .int 0, .int 0, .ref 98, .ref 100, .int 0]))))).set 44 (.inr (.inr (.inr (6, [.int 1, .long 70644700037184, .int 0, .ref 90, .ref 92, .ref 94]))))).set 47 (.inr (.inl (16, [70644700037184])))).set 106 (.inl (2, 2, [0, 1]))).set 105 (.inl (0, 2, [0, 0]))).set 107 (.inl (0, 132, [0, 0, 0, 0, 0, 0, 0, 0, 0, 0, 0, 0, 0, 0, 0, 0, 0, 0, 0, 0, 0, 0, 0, 0, 0, 0, 0, 0, 0, 0, 0, 0, 0, 0, 0, 0, 0, 0, 0, 0, 0, 0, 0, 0, 0, 0, 0, 0, 0, 0, 0, 0, 0, 0, 0, 0, 0, 0, 0, 0, 0, 0, 0, 0, 0, 0, 0, 0, 0, 0, 0, 0]))).set 109 (.inl (0, 22, [0, 0, 0, 0, 0, 0, 0, 0, 0, 0, 0, 0]))), 117, 29934, ?_, by decide, by decide⟩
  refine zT_gos (f := 200000) (pc2 := 37) (ls2 := [(4, .int 0), (3, .ref 232), (2, .ref 162), (1, .ref 0), (0, .ref 11)]) (st2 := [.int (xs 0)]) (h2 := zH0) (dc2 := 117) (ds2 := 29934) 9 rfl ?_
  refine zT_gos (f := 200000) (pc2 := 40) (ls2 := [(4, .int 0), (3, .ref 232), (2, .ref 162), (1, .ref 0), (0, .ref 11)]) (st2 := [.int ((xs 0) &&& (63 : Int32))]) (h2 := zH0) (dc2 := 117) (ds2 := 29934) 2 rfl ?_
  refine zT_val h0 ?_
  refine zT_gos (f := 200000) (pc2 := 1104) (ls2 := [(4, .int 0), (3, .ref 232), (2, .ref 162), (1, .ref 0), (0, .ref 11)]) (st2 := [.int (xs 1), .ref 0]) (h2 := zH0) (dc2 := 117) (ds2 := 29934) 7 rfl ?_
  refine zT_if0 false rfl (zc_eq_f (by show ((xs 1) : Int32).toInt ≠ 0; omega)) ?_
  refine zT_here (pc2 := 1107) rfl ?_
  refine zT_gos (f := 200000) (pc2 := 1118) (ls2 := [(4, .int 0), (3, .ref 232), (2, .ref 162), (1, .ref 0), (0, .ref 11)]) (st2 := [.int (xs 2), .int 1, .ref 0]) (h2 := zH0) (dc2 := 117) (ds2 := 29934) 7 rfl ?_
  refine zT_val h2 ?_
  refine zT_gos (f := 200000) (pc2 := 1124) (ls2 := [(4, .int 0), (3, .ref 232), (2, .ref 162), (1, .ref 0), (0, .ref 11)]) (st2 := [.int (xs 3), .int 0, .int 1, .ref 0]) (h2 := zH0) (dc2 := 117) (ds2 := 29934) 5 rfl ?_
  refine zT_val h3 ?_
  refine zT_call rfl rfl (zT_le (zg0_le 6 xs) zk_o_245) ?_
  refine zT_here (pc2 := 1127) rfl ?_
  refine zT_gos (f := 200000) (pc2 := 1134) (ls2 := [(4, .int 0), (3, .ref 232), (2, .ref 162), (1, .ref 0), (0, .ref 11)]) (st2 := [.int (xs 1), .ref 162, .int 0]) (h2 := (((zH0.set 37 (.inr (.inr (.inr (3, [.ref 44, .ref 6, .ref 76, .ref 78, .ref 80, .ref 88, .int 1, .int 0, .ref 96, .int 0, .int 0, .int 0, .ref 98, .ref 100, .int 0]))))).set 44 (.inr (.inr (.inr (6, [.int 1, .long 70644700037184, .int 0, .ref 90, .ref 92, .ref 94]))))).set 47 (.inr (.inl (16, [70644700037184]))))) (dc2 := 117) (ds2 := 29934) 6 rfl ?_
  refine zT_if0 false rfl (zc_eq_f (by show ((xs 1) : Int32).toInt ≠ 0; omega)) ?_
  refine zT_here (pc2 := 1137) rfl ?_
  refine zT_gos (f := 200000) (pc2 := 1148) (ls2 := [(4, .int 0), (3, .ref 232), (2, .ref 162), (1, .ref 0), (0, .ref 11)]) (st2 := [.int (xs 2), .int 1, .ref 162, .int 0]) (h2 := (((zH0.set 37 (.inr (.inr (.inr (3, [.ref 44, .ref 6, .ref 76, .ref 78, .ref 80, .ref 88, .int 1, .int 0, .ref 96, .int 0, .int 0, .int 0, .ref 98, .ref 100, .int 0]))))).set 44 (.inr (.inr (.inr (6, [.int 1, .long 70644700037184, .int 0, .ref 90, .ref 92, .ref 94]))))).set 47 (.inr (.inl (16, [70644700037184]))))) (dc2 := 117) (ds2 := 29934) 7 rfl ?_
  refine zT_val h2 ?_
  refine zT_gos (f := 200000) (pc2 := 1154) (ls2 := [(4, .int 0), (3, .ref 232), (2, .ref 162), (1, .ref 0), (0, .ref 11)]) (st2 := [.int (xs 3), .int 0, .int 1, .ref 162, .int 0]) (h2 := (((zH0.set 37 (.inr (.inr (.inr (3, [.ref 44, .ref 6, .ref 76, .ref 78, .ref 80, .ref 88, .int 1, .int 0, .ref 96, .int 0, .int 0, .int 0, .ref 98, .ref 100, .int 0]))))).set 44 (.inr (.inr (.inr (6, [.int 1, .long 70644700037184, .int 0, .ref 90, .ref 92, .ref 94]))))).set 47 (.inr (.inl (16, [70644700037184]))))) (dc2 := 117) (ds2 := 29934) 5 rfl ?_
  refine zT_val h3 ?_
  refine zT_call rfl rfl (zT_le (zg0_le 6 xs) zk_o_246) ?_
  refine zT_here (pc2 := 1157) rfl ?_
  refine zT_gos (f := 200000) (pc2 := 1811) (ls2 := [(4, .int 6), (3, .ref 232), (2, .ref 162), (1, .ref 0), (0, .ref 11)]) (st2 := [.int 1]) (h2 := (((((((zH0.set 37 (.inr (.inr (.inr (3, [.ref 44, .ref 6, .ref 76, .ref 78, .ref 80, .ref 88, .int 1, .int 0, .ref 96, .int 0, .int 0, .int 0, .ref 98, .ref 100, .int 0]))))).set 44 (.inr (.inr (.inr (6, [.int 1, .long 70644700037184, .int 0, .ref 90, .ref 92, .ref 94]))))).set 47 (.inr (.inl (16, [70644700037184])))).set 106 (.inl (2, 2, [0, 1]))).set 105 (.inl (0, 2, [0, 0]))).set 107 (.inl (0, 132, [0, 0, 0, 0, 0, 0, 0, 0, 0, 0, 0, 0, 0, 0, 0, 0, 0, 0, 0, 0, 0, 0, 0, 0, 0, 0, 0, 0, 0, 0, 0, 0, 0, 0, 0, 0, 0, 0, 0, 0, 0, 0, 0, 0, 0, 0, 0, 0, 0, 0, 0, 0, 0, 0, 0, 0, 0, 0, 0, 0, 0, 0, 0, 0, 0, 0, 0, 0, 0, 0, 0, 0]))).set 109 (.inl (0, 22, [0, 0, 0, 0, 0, 0, 0, 0, 0, 0, 0, 0])))) (dc2 := 117) (ds2 := 29934) 10 rfl ?_
  exact zT_ret rfl rfl
set_option maxRecDepth 1000000 in
theorem zk_o_247 : zT zg0 zF zP 125 0 [(0, .ref 0), (1, .int 1), (2, .int 1), (3, .int 4)] [] zH0 0 0 (some (.int 0), (((zH0.set 37 (.inr (.inr (.inr (3, [.ref 44, .ref 6, .ref 76, .ref 78, .ref 80, .ref 88, .int 1, .int 0, .ref 96, .int 0, .int 0, .int 0, .ref 98, .ref 100, .int 0]))))).set 44 (.inr (.inr (.inr (6, [.int 1, .long 70644700037184, .int 0, .ref 90, .ref 92, .ref 94]))))).set 47 (.inr (.inl (16, [70644700037184])))), 0, 0) := zclosed (n := 355) (by decide +kernel)
set_option maxRecDepth 1000000 in
theorem zk_o_248 : zT zg0 zF zP 256 0 [(0, .ref 162), (1, .int 1), (2, .int 1), (3, .int 4)] [] (((zH0.set 37 (.inr (.inr (.inr (3, [.ref 44, .ref 6, .ref 76, .ref 78, .ref 80, .ref 88, .int 1, .int 0, .ref 96, .int 0, .int 0, .int 0, .ref 98, .ref 100, .int 0]))))).set 44 (.inr (.inr (.inr (6, [.int 1, .long 70644700037184, .int 0, .ref 90, .ref 92, .ref 94]))))).set 47 (.inr (.inl (16, [70644700037184])))) 0 0 (some (.int 0), (((((((zH0.set 37 (.inr (.inr (.inr (3, [.ref 44, .ref 6, .ref 76, .ref 78, .ref 80, .ref 88, .int 1, .int 0, .ref 96, .int 0, .int 0, .int 0, .ref 98, .ref 100, .int 0]))))).set 44 (.inr (.inr (.inr (6, [.int 1, .long 70644700037184, .int 0, .ref 90, .ref 92, .ref 94]))))).set 47 (.inr (.inl (16, [70644700037184])))).set 106 (.inl (2, 2, [0, 1]))).set 105 (.inl (0, 2, [0, 0]))).set 107 (.inl (0, 132, [0, 0, 0, 0, 0, 0, 0, 0, 0, 0, 0, 0, 0, 0, 0, 0, 0, 0, 0, 0, 0, 0, 0, 0, 0, 0, 0, 0, 0, 0, 0, 0, 0, 0, 0, 0, 0, 0, 0, 0, 0, 0, 0, 0, 0, 0, 0, 0, 0, 0, 0, 0, 0, 0, 0, 0, 0, 0, 0, 0, 0, 0, 0, 0, 0, 0, 0, 0, 0, 0, 0, 0]))).set 109 (.inl (0, 22, [0, 0, 0, 0, 0, 0, 0, 0, 0, 0, 0, 0]))), 0, 0) := zclosed (n := 452) (by decide +kernel)
set_option maxRecDepth 1000000 in
set_option maxHeartbeats 4000000 in
theorem zo_24_87 (xs : Nat → Int32) (h0 : xs 0 &&& 63 = 24) (h1 : (xs 1).toInt ≠ 0) (h3 : xs 3 = 4) (h2 : xs 2 = 1) : zDone xs := by
  refine ⟨(((((((zH0.set 37 (.inr (.inr (.inr (3, [.ref 44, .ref 6, .ref 76, .ref 78, .ref 80, .ref 88, .int 1, .int 0, .ref 96, .int 0, .int 0, .int 0, .ref 98, .ref 100, .int 0]))))).set 44 (.inr (.inr (.inr (6, [.int 1, .long 70644700037184, .int 0, .ref 90, .ref 92, .ref 94]))))).set 47 (.inr (.inl (16, [70644700037184])))).set 106 (.inl (2, 2, [0, 1]))).set 105 (.inl (0, 2, [0, 0]))).set 107 (.inl (0, 132, [0, 0, 0, 0, 0, 0, 0, 0, 0, 0, 0, 0, 0, 0, 0, 0, 0, 0, 0, 0, 0, 0, 0, 0, 0, 0, 0, 0, 0, 0, 0, 0, 0, 0, 0, 0, 0, 0, 0, 0, 0, 0, 0, 0, 0, 0, 0, 0, 0, 0, 0, 0, 0, 0, 0, 0, 0, 0, 0, 0, 0, 0, 0, 0, 0, 0, 0, 0, 0, 0, 0, 0]))).set 109 (.inl (0, 22, [0, 0, 0, 0, 0, 0, 0, 0, 0, 0, 0, 0]))), 117, 29934, ?_, by decide, by decide⟩
  refine zT_gos (f := 200000) (pc2 := 37) (ls2 := [(4, .int 0), (3, .ref 232), (2, .ref 162), (1, .ref 0), (0, .ref 11)]) (st2 := [.int (xs 0)]) (h2 := zH0) (dc2 := 117) (ds2 := 29934) 9 rfl ?_
  refine zT_gos (f := 200000) (pc2 := 40) (ls2 := [(4, .int 0), (3, .ref 232), (2, .ref 162), (1, .ref 0), (0, .ref 11)]) (st2 := [.int ((xs 0) &&& (63 : Int32))]) (h2 := zH0) (dc2 := 117) (ds2 := 29934) 2 rfl ?_
  refine zT_val h0 ?_
  refine zT_gos (f := 200000) (pc2 := 1104) (ls2 := [(4, .int 0), (3, .ref 232), (2, .ref 162), (1, .ref 0), (0, .ref 11)]) (st2 := [.int (xs 1), .ref 0]) (h2 := zH0) (dc2 := 117) (ds2 := 29934) 7 rfl ?_
  refine zT_if0 false rfl (zc_eq_f (by show ((xs 1) : Int32).toInt ≠ 0; omega)) ?_
  refine zT_here (pc2 := 1107) rfl ?_
  refine zT_gos (f := 200000) (pc2 := 1118) (ls2 := [(4, .int 0), (3, .ref 232), (2, .ref 162), (1, .ref 0), (0, .ref 11)]) (st2 := [.int (xs 2), .int 1, .ref 0]) (h2 := zH0) (dc2 := 117) (ds2 := 29934) 7 rfl ?_
  refine zT_val h2 ?_
  refine zT_gos (f := 200000) (pc2 := 1124) (ls2 := [(4, .int 0), (3, .ref 232), (2, .ref 162), (1, .ref 0), (0, .ref 11)]) (st2 := [.int (xs 3), .int 1, .int 1, .ref 0]) (h2 := zH0) (dc2 := 117) (ds2 := 29934) 5 rfl ?_
  refine zT_val h3 ?_
  refine zT_call rfl rfl (zT_le (zg0_le 6 xs) zk_o_247) ?_
  refine zT_here (pc2 := 1127) rfl ?_
  refine zT_gos (f := 200000) (pc2 := 1134) (ls2 := [(4, .int 0), (3, .ref 232), (2, .ref 162), (1, .ref 0), (0, .ref 11)]) (st2 := [.int (xs 1), .ref 162, .int 0]) (h2 := (((zH0.set 37 (.inr (.inr (.inr (3, [.ref 44, .ref 6, .ref 76, .ref 78, .ref 80, .ref 88, .int 1, .int 0, .ref 96, .int 0, .int 0, .int 0, .ref 98, .ref 100, .int 0]))))).set 44 (.inr (.inr (.inr (6, [.int 1, .long 70644700037184, .int 0, .ref 90, .ref 92, .ref 94]))))).set 47 (.inr (.inl (16, [70644700037184]))))) (dc2 := 117) (ds2 := 29934) 6 rfl ?_
  refine zT_if0 false rfl (zc_eq_f (by show ((xs 1) : Int32).toInt ≠ 0; omega)) ?_
  refine zT_here (pc2 := 1137) rfl ?_
  refine zT_gos (f := 200000) (pc2 := 1148) (ls2 := [(4, .int 0), (3, .ref 232), (2, .ref 162), (1, .ref 0), (0, .ref 11)]) (st2 := [.int (xs 2), .int 1, .ref 162, .int 0]) (h2 := (((zH0.set 37 (.inr (.inr (.inr (3, [.ref 44, .ref 6, .ref 76, .ref 78, .ref 80, .ref 88, .int 1, .int 0, .ref 96, .int 0, .int 0, .int 0, .ref 98, .ref 100, .int 0]))))).set 44 (.inr (.inr (.inr (6, [.int 1, .long 70644700037184, .int 0, .ref 90, .ref 92, .ref 94]))))).set 47 (.inr (.inl (16, [70644700037184]))))) (dc2 := 117) (ds2 := 29934) 7 rfl ?_
  refine zT_val h2 ?_
  refine zT_gos (f := 200000) (pc2 := 1154) (ls2 := [(4, .int 0), (3, .ref 232), (2, .ref 162), (1, .ref 0), (0, .ref 11)]) (st2 := [.int (xs 3), .int 1, .int 1, .ref 162, .int 0]) (h2 := (((zH0.set 37 (.inr (.inr (.inr (3, [.ref 44, .ref 6, .ref 76, .ref 78, .ref 80, .ref 88, .int 1, .int 0, .ref 96, .int 0, .int 0, .int 0, .ref 98, .ref 100, .int 0]))))).set 44 (.inr (.inr (.inr (6, [.int 1, .long 70644700037184, .int 0, .ref 90, .ref 92, .ref 94]))))).set 47 (.inr (.inl (16, [70644700037184]))))) (dc2 := 117) (ds2 := 29934) 5 rfl ?_
  refine zT_val h3 ?_
  refine zT_call rfl rfl (zT_le (zg0_le 6 xs) zk_o_248) ?_
  refine zT_here (pc2 := 1157) rfl ?_
  refine zT_gos (f := 200000) (pc2 := 1811) (ls2 := [(4, .int 6), (3, .ref 232), (2, .ref 162), (1, .ref 0), (0, .ref 11)]) (st2 := [.int 1]) (h2 := (((((((zH0.set 37 (.inr (.inr (.inr (3, [.ref 44, .ref 6, .ref 76, .ref 78, .ref 80, .ref 88, .int 1, .int 0, .ref 96, .int 0, .int 0, .int 0, .ref 98, .ref 100, .int 0]))))).set 44 (.inr (.inr (.inr (6, [.int 1, .long 70644700037184, .int 0, .ref 90, .ref 92, .ref 94]))))).set 47 (.inr (.inl (16, [70644700037184])))).set 106 (.inl (2, 2, [0, 1]))).set 105 (.inl (0, 2, [0, 0]))).set 107 (.inl (0, 132, [0, 0, 0, 0, 0, 0, 0, 0, 0, 0, 0, 0, 0, 0, 0, 0, 0, 0, 0, 0, 0, 0, 0, 0, 0, 0, 0, 0, 0, 0, 0, 0, 0, 0, 0, 0, 0, 0, 0, 0, 0, 0, 0, 0, 0, 0, 0, 0, 0, 0, 0, 0, 0, 0, 0, 0, 0, 0, 0, 0, 0, 0, 0, 0, 0, 0, 0, 0, 0, 0, 0, 0]))).set 109 (.inl (0, 22, [0, 0, 0, 0, 0, 0, 0, 0, 0, 0, 0, 0])))) (dc2 := 117) (ds2 := 29934) 10 rfl ?_
  exact zT_ret rfl rfl
set_option maxRecDepth 1000000 in
theorem zk_o_249 : zT zg0 zF zP 125 0 [(0, .ref 0), (1, .int 1), (2, .int 2), (3, .int 4)] [] zH0 0 0 (some (.int 0), (((zH0.set 37 (.inr (.inr (.inr (3, [.ref 44, .ref 6, .ref 76, .ref 78, .ref 80, .ref 88, .int 1, .int 0, .ref 96, .int 0, .int 0, .int 0, .ref 98, .ref 100, .int 0]))))).set 44 (.inr (.inr (.inr (6, [.int 1, .long 70644700037184, .int 0, .ref 90, .ref 92, .ref 94]))))).set 47 (.inr (.inl (16, [70644700037184])))), 0, 0) := zclosed (n := 360) (by decide +kernel)
set_option maxRecDepth 1000000 in
theorem zk_o_250 : zT zg0 zF zP 256 0 [(0, .ref 162), (1, .int 1), (2, .int 2), (3, .int 4)] [] (((zH0.set 37 (.inr (.inr (.inr (3, [.ref 44, .ref 6, .ref 76, .ref 78, .ref 80, .ref 88, .int 1, .int 0, .ref 96, .int 0, .int 0, .int 0, .ref 98, .ref 100, .int 0]))))).set 44 (.inr (.inr (.inr (6, [.int 1, .long 70644700037184, .int 0, .ref 90, .ref 92, .ref 94]))))).set 47 (.inr (.inl (16, [70644700037184])))) 0 0 (some (.int 0), (((((((zH0.set 37 (.inr (.inr (.inr (3, [.ref 44, .ref 6, .ref 76, .ref 78, .ref 80, .ref 88, .int 1, .int 0, .ref 96, .int 0, .int 0, .int 0, .ref 98, .ref 100, .int 0]))))).set 44 (.inr (.inr (.inr (6, [.int 1, .long 70644700037184, .int 0, .ref 90, .ref 92, .ref 94]))))).set 47 (.inr (.inl (16, [70644700037184])))).set 106 (.inl (2, 2, [0, 1]))).set 105 (.inl (0, 2, [0, 0]))).set 107 (.inl (0, 132, [0, 0, 0, 0, 0, 0, 0, 0, 0, 0, 0, 0, 0, 0, 0, 0, 0, 0, 0, 0, 0, 0, 0, 0, 0, 0, 0, 0, 0, 0, 0, 0, 0, 0, 0, 0, 0, 0, 0, 0, 0, 0, 0, 0, 0, 0, 0, 0, 0, 0, 0, 0, 0, 0, 0, 0, 0, 0, 0, 0, 0, 0, 0, 0, 0, 0, 0, 0, 0, 0, 0, 0]))).set 109 (.inl (0, 22, [0, 0, 0, 0, 0, 0, 0, 0, 0, 0, 0, 0]))), 0, 0) := zclosed (n := 476) (by decide +kernel)
set_option maxRecDepth 1000000 in
set_option maxHeartbeats 4000000 in
theorem zo_24_88 (xs : Nat → Int32) (h0 : xs 0 &&& 63 = 24) (h1 : (xs 1).toInt ≠ 0) (h3 : xs 3 = 4) (h2 : xs 2 = 2) : zDone xs := by
  refine ⟨(((((((zH0.set 37 (.inr (.inr (.inr (3, [.ref 44, .ref 6, .ref 76, .ref 78, .ref 80, .ref 88, .int 1, .int 0, .ref 96, .int 0, .int 0, .int 0, .ref 98, .ref 100, .int 0]))))).set 44 (.inr (.inr (.inr (6, [.int 1, .long 70644700037184, .int 0, .ref 90, .ref 92, .ref 94]))))).set 47 (.inr (.inl (16, [70644700037184])))).set 106 (.inl (2, 2, [0, 1]))).set 105 (.inl (0, 2, [0, 0]))).set 107 (.inl (0, 132, [0, 0, 0, 0, 0, 0, 0, 0, 0, 0, 0, 0, 0, 0, 0, 0, 0, 0, 0, 0, 0, 0, 0, 0, 0, 0, 0, 0, 0, 0, 0, 0, 0, 0, 0, 0, 0, 0, 0, 0, 0, 0, 0, 0, 0, 0, 0, 0, 0, 0, 0, 0, 0, 0, 0, 0, 0, 0, 0, 0, 0, 0, 0, 0, 0, 0, 0, 0, 0, 0, 0, 0]))).set 109 (.inl (0, 22, [0, 0, 0, 0, 0, 0, 0, 0, 0, 0, 0, 0]))), 117, 29934, ?_, by decide, by decide⟩
  refine zT_gos (f := 200000) (pc2 := 37) (ls2 := [(4, .int 0), (3, .ref 232), (2, .ref 162), (1, .ref 0), (0, .ref 11)]) (st2 := [.int (xs 0)]) (h2 := zH0) (dc2 := 117) (ds2 := 29934) 9 rfl ?_
  refine zT_gos (f := 200000) (pc2 := 40) (ls2 := [(4, .int 0), (3, .ref 232), (2, .ref 162), (1, .ref 0), (0, .ref 11)]) (st2 := [.int ((xs 0) &&& (63 : Int32))]) (h2 := zH0) (dc2 := 117) (ds2 := 29934) 2 rfl ?_
  refine zT_val h0 ?_
  refine zT_gos (f := 200000) (pc2 := 1104) (ls2 := [(4, .int 0), (3, .ref 232), (2, .ref 162), (1, .ref 0), (0, .ref 11)]) (st2 := [.int (xs 1), .ref 0]) (h2 := zH0) (dc2 := 117) (ds2 := 29934) 7 rfl ?_
  refine zT_if0 false rfl (zc_eq_f (by show ((xs 1) : Int32).toInt ≠ 0; omega)) ?_
  refine zT_here (pc2 := 1107) rfl ?_
  refine zT_gos (f := 200000) (pc2 := 1118) (ls2 := [(4, .int 0), (3, .ref 232), (2, .ref 162), (1, .ref 0), (0, .ref 11)]) (st2 := [.int (xs 2), .int 1, .ref 0]) (h2 := zH0) (dc2 := 117) (ds2 := 29934) 7 rfl ?_
  refine zT_val h2 ?_
  refine zT_gos (f := 200000) (pc2 := 1124) (ls2 := [(4, .int 0), (3, .ref 232), (2, .ref 162), (1, .ref 0), (0, .ref 11)]) (st2 := [.int (xs 3), .int 2, .int 1, .ref 0]) (h2 := zH0) (dc2 := 117) (ds2 := 29934) 5 rfl ?_
  refine zT_val h3 ?_
  refine zT_call rfl rfl (zT_le (zg0_le 6 xs) zk_o_249) ?_
  refine zT_here (pc2 := 1127) rfl ?_
  refine zT_gos (f := 200000) (pc2 := 1134) (ls2 := [(4, .int 0), (3, .ref 232), (2, .ref 162), (1, .ref 0), (0, .ref 11)]) (st2 := [.int (xs 1), .ref 162, .int 0]) (h2 := (((zH0.set 37 (.inr (.inr (.inr (3, [.ref 44, .ref 6, .ref 76, .ref 78, .ref 80, .ref 88, .int 1, .int 0, .ref 96, .int 0, .int 0, .int 0, .ref 98, .ref 100, .int 0]))))).set 44 (.inr (.inr (.inr (6, [.int 1, .long 70644700037184, .int 0, .ref 90, .ref 92, .ref 94]))))).set 47 (.inr (.inl (16, [70644700037184]))))) (dc2 := 117) (ds2 := 29934) 6 rfl ?_
  refine zT_if0 false rfl (zc_eq_f (by show ((xs 1) : Int32).toInt ≠ 0; omega)) ?_
  refine zT_here (pc2 := 1137) rfl ?_
  refine zT_gos (f := 200000) (pc2 := 1148) (ls2 := [(4, .int 0), (3, .ref 232), (2, .ref 162), (1, .ref 0), (0, .ref 11)]) (st2 := [.int (xs 2), .int 1, .ref 162, .int 0]) (h2 := (((zH0.set 37 (.inr (.inr (.inr (3, [.ref 44, .ref 6, .ref 76, .ref 78, .ref 80, .ref 88, .int 1, .int 0, .ref 96, .int 0, .int 0, .int 0, .ref 98, .ref 100, .int 0]))))).set 44 (.inr (.inr (.inr (6, [.int 1, .long 70644700037184, .int 0, .ref 90, .ref 92, .ref 94]))))).set 47 (.inr (.inl (16, [70644700037184]))))) (dc2 := 117) (ds2 := 29934) 7 rfl ?_
  refine zT_val h2 ?_
  refine zT_gos (f := 200000) (pc2 := 1154) (ls2 := [(4, .int 0), (3, .ref 232), (2, .ref 162), (1, .ref 0), (0, .ref 11)]) (st2 := [.int (xs 3), .int 2, .int 1, .ref 162, .int 0]) (h2 := (((zH0.set 37 (.inr (.inr (.inr (3, [.ref 44, .ref 6, .ref 76, .ref 78, .ref 80, .ref 88, .int 1, .int 0, .ref 96, .int 0, .int 0, .int 0, .ref 98, .ref 100, .int 0]))))).set 44 (.inr (.inr (.inr (6, [.int 1, .long 70644700037184, .int 0, .ref 90, .ref 92, .ref 94]))))).set 47 (.inr (.inl (16, [70644700037184]))))) (dc2 := 117) (ds2 := 29934) 5 rfl ?_
  refine zT_val h3 ?_
  refine zT_call rfl rfl (zT_le (zg0_le 6 xs) zk_o_250) ?_
  refine zT_here (pc2 := 1157) rfl ?_
  refine zT_gos (f := 200000) (pc2 := 1811) (ls2 := [(4, .int 6), (3, .ref 232), (2, .ref 162), (1, .ref 0), (0, .ref 11)]) (st2 := [.int 1]) (h2 := (((((((zH0.set 37 (.inr (.inr (.inr (3, [.ref 44, .ref 6, .ref 76, .ref 78, .ref 80, .ref 88, .int 1, .int 0, .ref 96, .int 0, .int 0, .int 0, .ref 98, .ref 100, .int 0]))))).set 44 (.inr (.inr (.inr (6, [.int 1, .long 70644700037184, .int 0, .ref 90, .ref 92, .ref 94]))))).set 47 (.inr (.inl (16, [70644700037184])))).set 106 (.inl (2, 2, [0, 1]))).set 105 (.inl (0, 2, [0, 0]))).set 107 (.inl (0, 132, [0, 0, 0, 0, 0, 0, 0, 0, 0, 0, 0, 0, 0, 0, 0, 0, 0, 0, 0, 0, 0, 0, 0, 0, 0, 0, 0, 0, 0, 0, 0, 0, 0, 0, 0, 0, 0, 0, 0, 0, 0, 0, 0, 0, 0, 0, 0, 0, 0, 0, 0, 0, 0, 0, 0, 0, 0, 0, 0, 0, 0, 0, 0, 0, 0, 0, 0, 0, 0, 0, 0, 0]))).set 109 (.inl (0, 22, [0, 0, 0, 0, 0, 0, 0, 0, 0, 0, 0, 0])))) (dc2 := 117) (ds2 := 29934) 10 rfl ?_
  exact zT_ret rfl rfl
set_option maxRecDepth 1000000 in
set_option maxHeartbeats 4000000 in
theorem zo_24_89 (xs : Nat → Int32) (h0 : xs 0 &&& 63 = 24) (h1 : (xs 1).toInt ≠ 0) (h3 : xs 3 = 5) (h2 : (xs 2).toInt < -2) : zDone xs := by
  refine ⟨(((((((zH0.set 37 (.inr (.inr (.inr (3, [.ref 44, .ref 6, .ref 76, .ref 78, .ref 80, .ref 88, .int 1, .int 0, .ref 96, .int 0, .int 0, .int 0, .ref 98, .ref 100, .int 0]))))).set 44 (.inr (.inr (.inr (6, [.int 1, .long 70644700037184, .int 0, .ref 90, .ref 92, .ref 94]))))).set 47 (.inr (.inl (16, [70644700037184])))).set 106 (.inl (2, 2, [0, 1]))).set 105 (.inl (0, 2, [0, 0]))).set 107 (.inl (0, 132, [0, 0, 0, 0, 0, 0, 0, 0, 0, 0, 0, 0, 0, 0, 0, 0, 0, 0, 0, 0, 0, 0, 0, 0, 0, 0, 0, 0, 0, 0, 0, 0, 0, 0, 0, 0, 0, 0, 0, 0, 0, 0, 0, 0, 0, 0, 0, 0, 0, 0, 0, 0, 0, 0, 0, 0, 0, 0, 0, 0, 0, 0, 0, 0, 0, 0, 0, 0, 0, 0, 0, 0]))).set 109 (.inl (0, 22, [0, 0, 0, 0, 0, 0, 0, 0, 0, 0, 0, 0]))), 117, 29934, ?_, by decide, by decide⟩
  refine zT_gos (f := 200000) (pc2 := 37) (ls2 := [(4, .int 0), (3, .ref 232), (2, .ref 162), (1, .ref 0), (0, .ref 11)]) (st2 := [.int (xs 0)]) (h2 := zH0) (dc2 := 117) (ds2 := 29934) 9 rfl ?_
  refine zT_gos (f := 200000) (pc2 := 40) (ls2 := [(4, .int 0), (3, .ref 232), (2, .ref 162), (1, .ref 0), (0, .ref 11)]) (st2 := [.int ((xs 0) &&& (63 : Int32))]) (h2 := zH0) (dc2 := 117) (ds2 := 29934) 2 rfl ?_
  refine zT_val h0 ?_
  refine zT_gos (f := 200000) (pc2 := 1104) (ls2 := [(4, .int 0), (3, .ref 232), (2, .ref 162), (1, .ref 0), (0, .ref 11)]) (st2 := [.int (xs 1), .ref 0]) (h2 := zH0) (dc2 := 117) (ds2 := 29934) 7 rfl ?_
  refine zT_if0 false rfl (zc_eq_f (by show ((xs 1) : Int32).toInt ≠ 0; omega)) ?_
  refine zT_here (pc2 := 1107) rfl ?_
  refine zT_gos (f := 200000) (pc2 := 1118) (ls2 := [(4, .int 0), (3, .ref 232), (2, .ref 162), (1, .ref 0), (0, .ref 11)]) (st2 := [.int (xs 2), .int 1, .ref 0]) (h2 := zH0) (dc2 := 117) (ds2 := 29934) 7 rfl ?_
  refine zT_gos (f := 200000) (pc2 := 1124) (ls2 := [(4, .int 0), (3, .ref 232), (2, .ref 162), (1, .ref 0), (0, .ref 11)]) (st2 := [.int (xs 3), .int (xs 2), .int 1, .ref 0]) (h2 := zH0) (dc2 := 117) (ds2 := 29934) 5 rfl ?_
  refine zT_val h3 ?_
  refine zT_call (v := some (.int (-9999))) (h2 := (((zH0.set 37 (.inr (.inr (.inr (3, [.ref 44, .ref 6, .ref 76, .ref 78, .ref 80, .ref 88, .int 1, .int 0, .ref 96, .int 0, .int 0, .int 0, .ref 98, .ref 100, .int 0]))))).set 44 (.inr (.inr (.inr (6, [.int 1, .long 70644700037184, .int 0, .ref 90, .ref 92, .ref 94]))))).set 47 (.inr (.inl (16, [70644700037184]))))) (d1 := 0) (s1 := 0) rfl rfl ?_ ?_
  · refine zT_gos (f := 200000) (pc2 := 42) (ls2 := [(4, .ref 88), (0, .ref 0), (1, .int 1), (2, .int (xs 2)), (3, .int 5)]) (st2 := [.int (-2), .int (xs 2)]) (h2 := (((zH0.set 37 (.inr (.inr (.inr (3, [.ref 44, .ref 6, .ref 76, .ref 78, .ref 80, .ref 88, .int 1, .int 0, .ref 96, .int 0, .int 0, .int 0, .ref 98, .ref 100, .int 0]))))).set 44 (.inr (.inr (.inr (6, [.int 1, .long 70644700037184, .int 0, .ref 90, .ref 92, .ref 94]))))).set 47 (.inr (.inl (16, [70644700037184]))))) (dc2 := 0) (ds2 := 0) 18 rfl ?_
    refine zT_if2 true rfl (zc_lt_t (by show ((xs 2) : Int32).toInt < -2; omega)) ?_
    refine zT_here (pc2 := 62) rfl ?_
    refine zT_gos (f := 200000) (pc2 := 65) (ls2 := [(4, .ref 88), (0, .ref 0), (1, .int 1), (2, .int (xs 2)), (3, .int 5)]) (st2 := [.int (-9999)]) (h2 := (((zH0.set 37 (.inr (.inr (.inr (3, [.ref 44, .ref 6, .ref 76, .ref 78, .ref 80, .ref 88, .int 1, .int 0, .ref 96, .int 0, .int 0, .int 0, .ref 98, .ref 100, .int 0]))))).set 44 (.inr (.inr (.inr (6, [.int 1, .long 70644700037184, .int 0, .ref 90, .ref 92, .ref 94]))))).set 47 (.inr (.inl (16, [70644700037184]))))) (dc2 := 0) (ds2 := 0) 1 rfl ?_
    exact zT_ret rfl rfl
  refine zT_here (pc2 := 1127) rfl ?_
  refine zT_gos (f := 200000) (pc2 := 1134) (ls2 := [(4, .int 0), (3, .ref 232), (2, .ref 162), (1, .ref 0), (0, .ref 11)]) (st2 := [.int (xs 1), .ref 162, .int (-9999)]) (h2 := (((zH0.set 37 (.inr (.inr (.inr (3, [.ref 44, .ref 6, .ref 76, .ref 78, .ref 80, .ref 88, .int 1, .int 0, .ref 96, .int 0, .int 0, .int 0, .ref 98, .ref 100, .int 0]))))).set 44 (.inr (.inr (.inr (6, [.int 1, .long 70644700037184, .int 0, .ref 90, .ref 92, .ref 94]))))).set 47 (.inr (.inl (16, [70644700037184]))))) (dc2 := 117) (ds2 := 29934) 6 rfl ?_
  refine zT_if0 false rfl (zc_eq_f (by show ((xs 1) : Int32).toInt ≠ 0; omega)) ?_
  refine zT_here (pc2 := 1137) rfl ?_
  refine zT_gos (f := 200000) (pc2 := 1148) (ls2 := [(4, .int 0), (3, .ref 232), (2, .ref 162), (1, .ref 0), (0, .ref 11)]) (st2 := [.int (xs 2), .int 1, .ref 162, .int (-9999)]) (h2 := (((zH0.set 37 (.inr (.inr (.inr (3, [.ref 44, .ref 6, .ref 76, .ref 78, .ref 80, .ref 88, .int 1, .int 0, .ref 96, .int 0, .int 0, .int 0, .ref 98, .ref 100, .int 0]))))).set 44 (.inr (.inr (.inr (6, [.int 1, .long 70644700037184, .int 0, .ref 90, .ref 92, .ref 94]))))).set 47 (.inr (.inl (16, [70644700037184]))))) (dc2 := 117) (ds2 := 29934) 7 rfl ?_
  refine zT_gos (f := 200000) (pc2 := 1154) (ls2 := [(4, .int 0), (3, .ref 232), (2, .ref 162), (1, .ref 0), (0, .ref 11)]) (st2 := [.int (xs 3), .int (xs 2), .int 1, .ref 162, .int (-9999)]) (h2 := (((zH0.set 37 (.inr (.inr (.inr (3, [.ref 44, .ref 6, .ref 76, .ref 78, .ref 80, .ref 88, .int 1, .int 0, .ref 96, .int 0, .int 0, .int 0, .ref 98, .ref 100, .int 0]))))).set 44 (.inr (.inr (.inr (6, [.int 1, .long 70644700037184, .int 0, .ref 90, .ref 92, .ref 94]))))).set 47 (.inr (.inl (16, [70644700037184]))))) (dc2 := 117) (ds2 := 29934) 5 rfl ?_
  refine zT_val h3 ?_
  refine zT_call (v := some (.int (-9999))) (h2 := (((((((zH0.set 37 (.inr (.inr (.inr (3, [.ref 44, .ref 6, .ref 76, .ref 78, .ref 80, .ref 88, .int 1, .int 0, .ref 96, .int 0, .int 0, .int 0, .ref 98, .ref 100, .int 0]))))).set 44 (.inr (.inr (.inr (6, [.int 1, .long 70644700037184, .int 0, .ref 90, .ref 92, .ref 94]))))).set 47 (.inr (.inl (16, [70644700037184])))).set 106 (.inl (2, 2, [0, 1]))).set 105 (.inl (0, 2, [0, 0]))).set 107 (.inl (0, 132, [0, 0, 0, 0, 0, 0, 0, 0, 0, 0, 0, 0, 0, 0, 0, 0, 0, 0, 0, 0, 0, 0, 0, 0, 0, 0, 0, 0, 0, 0, 0, 0, 0, 0, 0, 0, 0, 0, 0, 0, 0, 0, 0, 0, 0, 0, 0, 0, 0, 0, 0, 0, 0, 0, 0, 0, 0, 0, 0, 0, 0, 0, 0, 0, 0, 0, 0, 0, 0, 0, 0, 0]))).set 109 (.inl (0, 22, [0, 0, 0, 0, 0, 0, 0, 0, 0, 0, 0, 0])))) (d1 := 0) (s1 := 0) rfl rfl ?_ ?_
  · refine zT_gos (f := 200000) (pc2 := 7) (ls2 := [(0, .ref 162), (1, .int 1), (2, .int (xs 2)), (3, .int 5)]) (st2 := [.int 1, .ref 162]) (h2 := (((zH0.set 37 (.inr (.inr (.inr (3, [.ref 44, .ref 6, .ref 76, .ref 78, .ref 80, .ref 88, .int 1, .int 0, .ref 96, .int 0, .int 0, .int 0, .ref 98, .ref 100, .int 0]))))).set 44 (.inr (.inr (.inr (6, [.int 1, .long 70644700037184, .int 0, .ref 90, .ref 92, .ref 94]))))).set 47 (.inr (.inl (16, [70644700037184]))))) (dc2 := 0) (ds2 := 0) 5 rfl ?_
    refine zT_call rfl rfl (zT_le (zg0_le 6 xs) zk_o_20) ?_
    refine zT_here (pc2 := 10) rfl ?_
    refine zT_gos (f := 200000) (pc2 := 29) (ls2 := [(5, .int 2), (4, .int 0), (0, .ref 162), (1, .int 1), (2, .int (xs 2)), (3, .int 5)]) (st2 := [.int (-2), .int (xs 2)]) (h2 := (((((((zH0.set 37 (.inr (.inr (.inr (3, [.ref 44, .ref 6, .ref 76, .ref 78, .ref 80, .ref 88, .int 1, .int 0, .ref 96, .int 0, .int 0, .int 0, .ref 98, .ref 100, .int 0]))))).set 44 (.inr (.inr (.inr (6, [.int 1, .long 70644700037184, .int 0, .ref 90, .ref 92, .ref 94]))))).set 47 (.inr (.inl (16, [70644700037184])))).set 106 (.inl (2, 2, [0, 1]))).set 105 (.inl (0, 2, [0, 0]))).set 107 (.inl (0, 132, [0, 0, 0, 0, 0, 0, 0, 0, 0, 0, 0, 0, 0, 0, 0, 0, 0, 0, 0, 0, 0, 0, 0, 0, 0, 0, 0, 0, 0, 0, 0, 0, 0, 0, 0, 0, 0, 0, 0, 0, 0, 0, 0, 0, 0, 0, 0, 0, 0, 0, 0, 0, 0, 0, 0, 0, 0, 0, 0, 0, 0, 0, 0, 0, 0, 0, 0, 0, 0, 0, 0, 0]))).set 109 (.inl (0, 22, [0, 0, 0, 0, 0, 0, 0, 0, 0, 0, 0, 0])))) (dc2 := 0) (ds2 := 0) 11 rfl ?_
    refine zT_if2 true rfl (zc_lt_t (by show ((xs 2) : Int32).toInt < -2; omega)) ?_
    refine zT_here (pc2 := 48) rfl ?_
    refine zT_gos (f := 200000) (pc2 := 71) (ls2 := [(5, .int 2), (4, .int 0), (0, .ref 162), (1, .int 1), (2, .int (xs 2)), (3, .int 5)]) (st2 := [.int (-9999)]) (h2 := (((((((zH0.set 37 (.inr (.inr (.inr (3, [.ref 44, .ref 6, .ref 76, .ref 78, .ref 80, .ref 88, .int 1, .int 0, .ref 96, .int 0, .int 0, .int 0, .ref 98, .ref 100, .int 0]))))).set 44 (.inr (.inr (.inr (6, [.int 1, .long 70644700037184, .int 0, .ref 90, .ref 92, .ref 94]))))).set 47 (.inr (.inl (16, [70644700037184])))).set 106 (.inl (2, 2, [0, 1]))).set 105 (.inl (0, 2, [0, 0]))).set 107 (.inl (0, 132, [0, 0, 0, 0, 0, 0, 0, 0, 0, 0, 0, 0, 0, 0, 0, 0, 0, 0, 0, 0, 0, 0, 0, 0, 0, 0, 0, 0, 0, 0, 0, 0, 0, 0, 0, 0, 0, 0, 0, 0, 0, 0, 0, 0, 0, 0, 0, 0, 0, 0, 0, 0, 0, 0, 0, 0, 0, 0, 0, 0, 0, 0, 0, 0, 0, 0, 0, 0, 0, 0, 0, 0]))).set 109 (.inl (0, 22, [0, 0, 0, 0, 0, 0, 0, 0, 0, 0, 0, 0])))) (dc2 := 0) (ds2 := 0) 2 rfl ?_
    exact zT_ret rfl rfl
  refine zT_here (pc2 := 1157) rfl ?_
  refine zT_gos (f := 200000) (pc2 := 1811) (ls2 := [(4, .int 6), (3, .ref 232), (2, .ref 162), (1, .ref 0), (0, .ref 11)]) (st2 := [.int 1]) (h2 := (((((((zH0.set 37 (.inr (.inr (.inr (3, [.ref 44, .ref 6, .ref 76, .ref 78, .ref 80, .ref 88, .int 1, .int 0, .ref 96, .int 0, .int 0, .int 0, .ref 98, .ref 100, .int 0]))))).set 44 (.inr (.inr (.inr (6, [.int 1, .long 70644700037184, .int 0, .ref 90, .ref 92, .ref 94]))))).set 47 (.inr (.inl (16, [70644700037184])))).set 106 (.inl (2, 2, [0, 1]))).set 105 (.inl (0, 2, [0, 0]))).set 107 (.inl (0, 132, [0, 0, 0, 0, 0, 0, 0, 0, 0, 0, 0, 0, 0, 0, 0, 0, 0, 0, 0, 0, 0, 0, 0, 0, 0, 0, 0, 0, 0, 0, 0, 0, 0, 0, 0, 0, 0, 0, 0, 0, 0, 0, 0, 0, 0, 0, 0, 0, 0, 0, 0, 0, 0, 0, 0, 0, 0, 0, 0, 0, 0, 0, 0, 0, 0, 0, 0, 0, 0, 0, 0, 0]))).set 109 (.inl (0, 22, [0, 0, 0, 0, 0, 0, 0, 0, 0, 0, 0, 0])))) (dc2 := 117) (ds2 := 29934) 10 rfl ?_
  exact zT_ret rfl rfl
set_option maxRecDepth 1000000 in
set_option maxHeartbeats 4000000 in
theorem zo_24_90 (xs : Nat → Int32) (h0 : xs 0 &&& 63 = 24) (h1 : (xs 1).toInt ≠ 0) (h3 : xs 3 = 5) (h2 : 2 < (xs 2).toInt) : zDone xs := by
  refine ⟨(((((((zH0.set 37 (.inr (.inr (.inr (3, [.ref 44, .ref 6, .ref 76, .ref 78, .ref 80, .ref 88, .int 1, .int 0, .ref 96, .int 0, .int 0, .int 0, .ref 98, .ref 100, .int 0]))))).set 44 (.inr (.inr (.inr (6, [.int 1, .long 70644700037184, .int 0, .ref 90, .ref 92, .ref 94]))))).set 47 (.inr (.inl (16, [70644700037184])))).set 106 (.inl (2, 2, [0, 1]))).set 105 (.inl (0, 2, [0, 0]))).set 107 (.inl (0, 132, [0, 0, 0, 0, 0, 0, 0, 0, 0, 0, 0, 0, 0, 0, 0, 0, 0, 0, 0, 0, 0, 0, 0, 0, 0, 0, 0, 0, 0, 0, 0, 0, 0, 0, 0, 0, 0, 0, 0, 0, 0, 0, 0, 0, 0, 0, 0, 0, 0, 0, 0, 0, 0, 0, 0, 0, 0, 0, 0, 0, 0, 0, 0, 0, 0, 0, 0, 0, 0, 0, 0, 0]))).set 109 (.inl (0, 22, [0, 0, 0, 0, 0, 0, 0, 0, 0, 0, 0, 0]))), 117, 29934, ?_, by decide, by decide⟩
  refine zT_gos (f := 200000) (pc2 := 37) (ls2 := [(4, .int 0), (3, .ref 232), (2, .ref 162), (1, .ref 0), (0, .ref 11)]) (st2 := [.int (xs 0)]) (h2 := zH0) (dc2 := 117) (ds2 := 29934) 9 rfl ?_
  refine zT_gos (f := 200000) (pc2 := 40) (ls2 := [(4, .int 0), (3, .ref 232), (2, .ref 162), (1, .ref 0), (0, .ref 11)]) (st2 := [.int ((xs 0) &&& (63 : Int32))]) (h2 := zH0) (dc2 := 117) (ds2 := 29934) 2 rfl ?_
  refine zT_val h0 ?_
  refine zT_gos (f := 200000) (pc2 := 1104) (ls2 := [(4, .int 0), (3, .ref 232), (2, .ref 162), (1, .ref 0), (0, .ref 11)]) (st2 := [.int (xs 1), .ref 0]) (h2 := zH0) (dc2 := 117) (ds2 := 29934) 7 rfl ?_
  refine zT_if0 false rfl (zc_eq_f (by show ((xs 1) : Int32).toInt ≠ 0; omega)) ?_
  refine zT_here (pc2 := 1107) rfl ?_
  refine zT_gos (f := 200000) (pc2 := 1118) (ls2 := [(4, .int 0), (3, .ref 232), (2, .ref 162), (1, .ref 0), (0, .ref 11)]) (st2 := [.int (xs 2), .int 1, .ref 0]) (h2 := zH0) (dc2 := 117) (ds2 := 29934) 7 rfl ?_
  refine zT_gos (f := 200000) (pc2 := 1124) (ls2 := [(4, .int 0), (3, .ref 232), (2, .ref 162), (1, .ref 0), (0, .ref 11)]) (st2 := [.int (xs 3), .int (xs 2), .int 1, .ref 0]) (h2 := zH0) (dc2 := 117) (ds2 := 29934) 5 rfl ?_
  refine zT_val h3 ?_
  refine zT_call (v := some (.int (-9999))) (h2 := (((zH0.set 37 (.inr (.inr (.inr (3, [.ref 44, .ref 6, .ref 76, .ref 78, .ref 80, .ref 88, .int 1, .int 0, .ref 96, .int 0, .int 0, .int 0, .ref 98, .ref 100, .int 0]))))).set 44 (.inr (.inr (.inr (6, [.int 1, .long 70644700037184, .int 0, .ref 90, .ref 92, .ref 94]))))).set 47 (.inr (.inl (16, [70644700037184]))))) (d1 := 0) (s1 := 0) rfl rfl ?_ ?_
  · refine zT_gos (f := 200000) (pc2 := 42) (ls2 := [(4, .ref 88), (0, .ref 0), (1, .int 1), (2, .int (xs 2)), (3, .int 5)]) (st2 := [.int (-2), .int (xs 2)]) (h2 := (((zH0.set 37 (.inr (.inr (.inr (3, [.ref 44, .ref 6, .ref 76, .ref 78, .ref 80, .ref 88, .int 1, .int 0, .ref 96, .int 0, .int 0, .int 0, .ref 98, .ref 100, .int 0]))))).set 44 (.inr (.inr (.inr (6, [.int 1, .long 70644700037184, .int 0, .ref 90, .ref 92, .ref 94]))))).set 47 (.inr (.inl (16, [70644700037184]))))) (dc2 := 0) (ds2 := 0) 18 rfl ?_
    refine zT_if2 false rfl (zc_lt_f (by show ((xs 2) : Int32).toInt ≥ -2; omega)) ?_
    refine zT_here (pc2 := 45) rfl ?_
    refine zT_gos (f := 200000) (pc2 := 59) (ls2 := [(4, .ref 88), (0, .ref 0), (1, .int 1), (2, .int (xs 2)), (3, .int 5)]) (st2 := [.int 2, .int (xs 2)]) (h2 := (((zH0.set 37 (.inr (.inr (.inr (3, [.ref 44, .ref 6, .ref 76, .ref 78, .ref 80, .ref 88, .int 1, .int 0, .ref 96, .int 0, .int 0, .int 0, .ref 98, .ref 100, .int 0]))))).set 44 (.inr (.inr (.inr (6, [.int 1, .long 70644700037184, .int 0, .ref 90, .ref 92, .ref 94]))))).set 47 (.inr (.inl (16, [70644700037184]))))) (dc2 := 0) (ds2 := 0) 7 rfl ?_
    refine zT_if2 false rfl (zc_le_f (by show ((xs 2) : Int32).toInt > 2; omega)) ?_
    refine zT_here (pc2 := 62) rfl ?_
    refine zT_gos (f := 200000) (pc2 := 65) (ls2 := [(4, .ref 88), (0, .ref 0), (1, .int 1), (2, .int (xs 2)), (3, .int 5)]) (st2 := [.int (-9999)]) (h2 := (((zH0.set 37 (.inr (.inr (.inr (3, [.ref 44, .ref 6, .ref 76, .ref 78, .ref 80, .ref 88, .int 1, .int 0, .ref 96, .int 0, .int 0, .int 0, .ref 98, .ref 100, .int 0]))))).set 44 (.inr (.inr (.inr (6, [.int 1, .long 70644700037184, .int 0, .ref 90, .ref 92, .ref 94]))))).set 47 (.inr (.inl (16, [70644700037184]))))) (dc2 := 0) (ds2 := 0) 1 rfl ?_
    exact zT_ret rfl rfl
  refine zT_here (pc2 := 1127) rfl ?_
  refine zT_gos (f := 200000) (pc2 := 1134) (ls2 := [(4, .int 0), (3, .ref 232), (2, .ref 162), (1, .ref 0), (0, .ref 11)]) (st2 := [.int (xs 1), .ref 162, .int (-9999)]) (h2 := (((zH0.set 37 (.inr (.inr (.inr (3, [.ref 44, .ref 6, .ref 76, .ref 78, .ref 80, .ref 88, .int 1, .int 0, .ref 96, .int 0, .int 0, .int 0, .ref 98, .ref 100, .int 0]))))).set 44 (.inr (.inr (.inr (6, [.int 1, .long 70644700037184, .int 0, .ref 90, .ref 92, .ref 94]))))).set 47 (.inr (.inl (16, [70644700037184]))))) (dc2 := 117) (ds2 := 29934) 6 rfl ?_
  refine zT_if0 false rfl (zc_eq_f (by show ((xs 1) : Int32).toInt ≠ 0; omega)) ?_
  refine zT_here (pc2 := 1137) rfl ?_
  refine zT_gos (f := 200000) (pc2 := 1148) (ls2 := [(4, .int 0), (3, .ref 232), (2, .ref 162), (1, .ref 0), (0, .ref 11)]) (st2 := [.int (xs 2), .int 1, .ref 162, .int (-9999)]) (h2 := (((zH0.set 37 (.inr (.inr (.inr (3, [.ref 44, .ref 6, .ref 76, .ref 78, .ref 80, .ref 88, .int 1, .int 0, .ref 96, .int 0, .int 0, .int 0, .ref 98, .ref 100, .int 0]))))).set 44 (.inr (.inr (.inr (6, [.int 1, .long 70644700037184, .int 0, .ref 90, .ref 92, .ref 94]))))).set 47 (.inr (.inl (16, [70644700037184]))))) (dc2 := 117) (ds2 := 29934) 7 rfl ?_
  refine zT_gos (f := 200000) (pc2 := 1154) (ls2 := [(4, .int 0), (3, .ref 232), (2, .ref 162), (1, .ref 0), (0, .ref 11)]) (st2 := [.int (xs 3), .int (xs 2), .int 1, .ref 162, .int (-9999)]) (h2 := (((zH0.set 37 (.inr (.inr (.inr (3, [.ref 44, .ref 6, .ref 76, .ref 78, .ref 80, .ref 88, .int 1, .int 0, .ref 96, .int 0, .int 0, .int 0, .ref 98, .ref 100, .int 0]))))).set 44 (.inr (.inr (.inr (6, [.int 1, .long 70644700037184, .int 0, .ref 90, .ref 92, .ref 94]))))).set 47 (.inr (.inl (16, [70644700037184]))))) (dc2 := 117) (ds2 := 29934) 5 rfl ?_
  refine zT_val h3 ?_
  refine zT_call (v := some (.int (-9999))) (h2 := (((((((zH0.set 37 (.inr (.inr (.inr (3, [.ref 44, .ref 6, .ref 76, .ref 78, .ref 80, .ref 88, .int 1, .int 0, .ref 96, .int 0, .int 0, .int 0, .ref 98, .ref 100, .int 0]))))).set 44 (.inr (.inr (.inr (6, [.int 1, .long 70644700037184, .int 0, .ref 90, .ref 92, .ref 94]))))).set 47 (.inr (.inl (16, [70644700037184])))).set 106 (.inl (2, 2, [0, 1]))).set 105 (.inl (0, 2, [0, 0]))).set 107 (.inl (0, 132, [0, 0, 0, 0, 0, 0, 0, 0, 0, 0, 0, 0, 0, 0, 0, 0, 0, 0, 0, 0, 0, 0, 0, 0, 0, 0, 0, 0, 0, 0, 0, 0, 0, 0, 0, 0, 0, 0, 0, 0, 0, 0, 0, 0, 0, 0, 0, 0, 0, 0, 0, 0, 0, 0, 0, 0, 0, 0, 0, 0, 0, 0, 0, 0, 0, 0, 0, 0, 0, 0, 0, 0]))).set 109 (.inl (0, 22, [0, 0, 0, 0, 0, 0, 0, 0, 0, 0, 0, 0])))) (d1 := 0) (s1 := 0) rfl rfl ?_ ?_
  · refine zT_gos (f := 200000) (pc2 := 7) (ls2 := [(0, .ref 162), (1, .int 1), (2, .int (xs 2)), (3, .int 5)]) (st2 := [.int 1, .ref 162]) (h2 := (((zH0.set 37 (.inr (.inr (.inr (3, [.ref 44, .ref 6, .ref 76, .ref 78, .ref 80, .ref 88, .int 1, .int 0, .ref 96, .int 0, .int 0, .int 0, .ref 98, .ref 100, .int 0]))))).set 44 (.inr (.inr (.inr (6, [.int 1, .long 70644700037184, .int 0, .ref 90, .ref 92, .ref 94]))))).set 47 (.inr (.inl (16, [70644700037184]))))) (dc2 := 0) (ds2 := 0) 5 rfl ?_
    refine zT_call rfl rfl (zT_le (zg0_le 6 xs) zk_o_20) ?_
    refine zT_here (pc2 := 10) rfl ?_
    refine zT_gos (f := 200000) (pc2 := 29) (ls2 := [(5, .int 2), (4, .int 0), (0, .ref 162), (1, .int 1), (2, .int (xs 2)), (3, .int 5)]) (st2 := [.int (-2), .int (xs 2)]) (h2 := (((((((zH0.set 37 (.inr (.inr (.inr (3, [.ref 44, .ref 6, .ref 76, .ref 78, .ref 80, .ref 88, .int 1, .int 0, .ref 96, .int 0, .int 0, .int 0, .ref 98, .ref 100, .int 0]))))).set 44 (.inr (.inr (.inr (6, [.int 1, .long 70644700037184, .int 0, .ref 90, .ref 92, .ref 94]))))).set 47 (.inr (.inl (16, [70644700037184])))).set 106 (.inl (2, 2, [0, 1]))).set 105 (.inl (0, 2, [0, 0]))).set 107 (.inl (0, 132, [0, 0, 0, 0, 0, 0, 0, 0, 0, 0, 0, 0, 0, 0, 0, 0, 0, 0, 0, 0, 0, 0, 0, 0, 0, 0, 0, 0, 0, 0, 0, 0, 0, 0, 0, 0, 0, 0, 0, 0, 0, 0, 0, 0, 0, 0, 0, 0, 0, 0, 0, 0, 0, 0, 0, 0, 0, 0, 0, 0, 0, 0, 0, 0, 0, 0, 0, 0, 0, 0, 0, 0]))).set 109 (.inl (0, 22, [0, 0, 0, 0, 0, 0, 0, 0, 0, 0, 0, 0])))) (dc2 := 0) (ds2 := 0) 11 rfl ?_
    refine zT_if2 false rfl (zc_lt_f (by show ((xs 2) : Int32).toInt ≥ -2; omega)) ?_
    refine zT_here (pc2 := 32) rfl ?_
    refine zT_gos (f := 200000) (pc2 := 38) (ls2 := [(5, .int 2), (4, .int 0), (0, .ref 162), (1, .int 1), (2, .int (xs 2)), (3, .int 5)]) (st2 := [.int 2, .int (xs 2)]) (h2 := (((((((zH0.set 37 (.inr (.inr (.inr (3, [.ref 44, .ref 6, .ref 76, .ref 78, .ref 80, .ref 88, .int 1, .int 0, .ref 96, .int 0, .int 0, .int 0, .ref 98, .ref 100, .int 0]))))).set 44 (.inr (.inr (.inr (6, [.int 1, .long 70644700037184, .int 0, .ref 90, .ref 92, .ref 94]))))).set 47 (.inr (.inl (16, [70644700037184])))).set 106 (.inl (2, 2, [0, 1]))).set 105 (.inl (0, 2, [0, 0]))).set 107 (.inl (0, 132, [0, 0, 0, 0, 0, 0, 0, 0, 0, 0, 0, 0, 0, 0, 0, 0, 0, 0, 0, 0, 0, 0, 0, 0, 0, 0, 0, 0, 0, 0, 0, 0, 0, 0, 0, 0, 0, 0, 0, 0, 0, 0, 0, 0, 0, 0, 0, 0, 0, 0, 0, 0, 0, 0, 0, 0, 0, 0, 0, 0, 0, 0, 0, 0, 0, 0, 0, 0, 0, 0, 0, 0]))).set 109 (.inl (0, 22, [0, 0, 0, 0, 0, 0, 0, 0, 0, 0, 0, 0])))) (dc2 := 0) (ds2 := 0) 4 rfl ?_
    refine zT_if2 true rfl (zc_gt_t (by show ((xs 2) : Int32).toInt > 2; omega)) ?_
    refine zT_here (pc2 := 48) rfl ?_
    refine zT_gos (f := 200000) (pc2 := 71) (ls2 := [(5, .int 2), (4, .int 0), (0, .ref 162), (1, .int 1), (2, .int (xs 2)), (3, .int 5)]) (st2 := [.int (-9999)]) (h2 := (((((((zH0.set 37 (.inr (.inr (.inr (3, [.ref 44, .ref 6, .ref 76, .ref 78, .ref 80, .ref 88, .int 1, .int 0, .ref 96, .int 0, .int 0, .int 0, .ref 98, .ref 100, .int 0]))))).set 44 (.inr (.inr (.inr (6, [.int 1, .long 70644700037184, .int 0, .ref 90, .ref 92, .ref 94]))))).set 47 (.inr (.inl (16, [70644700037184])))).set 106 (.inl (2, 2, [0, 1]))).set 105 (.inl (0, 2, [0, 0]))).set 107 (.inl (0, 132, [0, 0, 0, 0, 0, 0, 0, 0, 0, 0, 0, 0, 0, 0, 0, 0, 0, 0, 0, 0, 0, 0, 0, 0, 0, 0, 0, 0, 0, 0, 0, 0, 0, 0, 0, 0, 0, 0, 0, 0, 0, 0, 0, 0, 0, 0, 0, 0, 0, 0, 0, 0, 0, 0, 0, 0, 0, 0, 0, 0, 0, 0, 0, 0, 0, 0, 0, 0, 0, 0, 0, 0]))).set 109 (.inl (0, 22, [0, 0, 0, 0, 0, 0, 0, 0, 0, 0, 0, 0])))) (dc2 := 0) (ds2 := 0) 2 rfl ?_
    exact zT_ret rfl rfl
  refine zT_here (pc2 := 1157) rfl ?_
  refine zT_gos (f := 200000) (pc2 := 1811) (ls2 := [(4, .int 6), (3, .ref 232), (2, .ref 162), (1, .ref 0), (0, .ref 11)]) (st2 := [.int 1]) (h2 := (((((((zH0.set 37 (.inr (.inr (.inr (3, [.ref 44, .ref 6, .ref 76, .ref 78, .ref 80, .ref 88, .int 1, .int 0, .ref 96, .int 0, .int 0, .int 0, .ref 98, .ref 100, .int 0]))))).set 44 (.inr (.inr (.inr (6, [.int 1, .long 70644700037184, .int 0, .ref 90, .ref 92, .ref 94]))))).set 47 (.inr (.inl (16, [70644700037184])))).set 106 (.inl (2, 2, [0, 1]))).set 105 (.inl (0, 2, [0, 0]))).set 107 (.inl (0, 132, [0, 0, 0, 0, 0, 0, 0, 0, 0, 0, 0, 0, 0, 0, 0, 0, 0, 0, 0, 0, 0, 0, 0, 0, 0, 0, 0, 0, 0, 0, 0, 0, 0, 0, 0, 0, 0, 0, 0, 0, 0, 0, 0, 0, 0, 0, 0, 0, 0, 0, 0, 0, 0, 0, 0, 0, 0, 0, 0, 0, 0, 0, 0, 0, 0, 0, 0, 0, 0, 0, 0, 0]))).set 109 (.inl (0, 22, [0, 0, 0, 0, 0, 0, 0, 0, 0, 0, 0, 0])))) (dc2 := 117) (ds2 := 29934) 10 rfl ?_
  exact zT_ret rfl rfl
set_option maxRecDepth 1000000 in
theorem zk_o_251 : zT zg0 zF zP 125 0 [(0, .ref 0), (1, .int 1), (2, .int (-2)), (3, .int 5)] [] zH0 0 0 (some (.int 0), (((zH0.set 37 (.inr (.inr (.inr (3, [.ref 44, .ref 6, .ref 76, .ref 78, .ref 80, .ref 88, .int 1, .int 0, .ref 96, .int 0, .int 0, .int 0, .ref 98, .ref 100, .int 0]))))).set 44 (.inr (.inr (.inr (6, [.int 1, .long 70644700037184, .int 0, .ref 90, .ref 92, .ref 94]))))).set 47 (.inr (.inl (16, [70644700037184])))), 0, 0) := zclosed (n := 340) (by decide +kernel)
set_option maxRecDepth 1000000 in
theorem zk_o_252 : zT zg0 zF zP 256 0 [(0, .ref 162), (1, .int 1), (2, .int (-2)), (3, .int 5)] [] (((zH0.set 37 (.inr (.inr (.inr (3, [.ref 44, .ref 6, .ref 76, .ref 78, .ref 80, .ref 88, .int 1, .int 0, .ref 96, .int 0, .int 0, .int 0, .ref 98, .ref 100, .int 0]))))).set 44 (.inr (.inr (.inr (6, [.int 1, .long 70644700037184, .int 0, .ref 90, .ref 92, .ref 94]))))).set 47 (.inr (.inl (16, [70644700037184])))) 0 0 (some (.int 0), (((((((zH0.set 37 (.inr (.inr (.inr (3, [.ref 44, .ref 6, .ref 76, .ref 78, .ref 80, .ref 88, .int 1, .int 0, .ref 96, .int 0, .int 0, .int 0, .ref 98, .ref 100, .int 0]))))).set 44 (.inr (.inr (.inr (6, [.int 1, .long 70644700037184, .int 0, .ref 90, .ref 92, .ref 94]))))).set 47 (.inr (.inl (16, [70644700037184])))).set 106 (.inl (2, 2, [0, 1]))).set 105 (.inl (0, 2, [0, 0]))).set 107 (.inl (0, 132, [0, 0, 0, 0, 0, 0, 0, 0, 0, 0, 0, 0, 0, 0, 0, 0, 0, 0, 0, 0, 0, 0, 0, 0, 0, 0, 0, 0, 0, 0, 0, 0, 0, 0, 0, 0, 0, 0, 0, 0, 0, 0, 0, 0, 0, 0, 0, 0, 0, 0, 0, 0, 0, 0, 0, 0, 0, 0, 0, 0, 0, 0, 0, 0, 0, 0, 0, 0, 0, 0, 0, 0]))).set 109 (.inl (0, 22, [0, 0, 0, 0, 0, 0, 0, 0, 0, 0, 0, 0]))), 0, 0) := zclosed (n := 380) (by decide +kernel)
set_option maxRecDepth 1000000 in
set_option maxHeartbeats 4000000 in
theorem zo_24_91 (xs : Nat → Int32) (h0 : xs 0 &&& 63 = 24) (h1 : (xs 1).toInt ≠ 0) (h3 : xs 3 = 5) (h2 : xs 2 = (-2)) : zDone xs := by
  refine ⟨(((((((zH0.set 37 (.inr (.inr (.inr (3, [.ref 44, .ref 6, .ref 76, .ref 78, .ref 80, .ref 88, .int 1, .int 0, .ref 96, .int 0, .int 0, .int 0, .ref 98, .ref 100, .int 0]))))).set 44 (.inr (.inr (.inr (6, [.int 1, .long 70644700037184, .int 0, .ref 90, .ref 92, .ref 94]))))).set 47 (.inr (.inl (16, [70644700037184])))).set 106 (.inl (2, 2, [0, 1]))).set 105 (.inl (0, 2, [0, 0]))).set 107 (.inl (0, 132, [0, 0, 0, 0, 0, 0, 0, 0, 0, 0, 0, 0, 0, 0, 0, 0, 0, 0, 0, 0, 0, 0, 0, 0, 0, 0, 0, 0, 0, 0, 0, 0, 0, 0, 0, 0, 0, 0, 0, 0, 0, 0, 0, 0, 0, 0, 0, 0, 0, 0, 0, 0, 0, 0, 0, 0, 0, 0, 0, 0, 0, 0, 0, 0, 0, 0, 0, 0, 0, 0, 0, 0]))).set 109 (.inl (0, 22, [0, 0, 0, 0, 0, 0, 0, 0, 0, 0, 0, 0]))), 117, 29934, ?_, by decide, by decide⟩
  refine zT_gos (f := 200000) (pc2 := 37) (ls2 := [(4, .int 0), (3, .ref 232), (2, .ref 162), (1, .ref 0), (0, .ref 11)]) (st2 := [.int (xs 0)]) (h2 := zH0) (dc2 := 117) (ds2 := 29934) 9 rfl ?_
  refine zT_gos (f := 200000) (pc2 := 40) (ls2 := [(4, .int 0), (3, .ref 232), (2, .ref 162), (1, .ref 0), (0, .ref 11)]) (st2 := [.int ((xs 0) &&& (63 : Int32))]) (h2 := zH0) (dc2 := 117) (ds2 := 29934) 2 rfl ?_
  refine zT_val h0 ?_
  refine zT_gos (f := 200000) (pc2 := 1104) (ls2 := [(4, .int 0), (3, .ref 232), (2, .ref 162), (1, .ref 0), (0, .ref 11)]) (st2 := [.int (xs 1), .ref 0]) (h2 := zH0) (dc2 := 117) (ds2 := 29934) 7 rfl ?_
  refine zT_if0 false rfl (zc_eq_f (by show ((xs 1) : Int32).toInt ≠ 0; omega)) ?_
  refine zT_here (pc2 := 1107) rfl ?_
  refine zT_gos (f := 200000) (pc2 := 1118) (ls2 := [(4, .int 0), (3, .ref 232), (2, .ref 162), (1, .ref 0), (0, .ref 11)]) (st2 := [.int (xs 2), .int 1, .ref 0]) (h2 := zH0) (dc2 := 117) (ds2 := 29934) 7 rfl ?_
  refine zT_val h2 ?_
  refine zT_gos (f := 200000) (pc2 := 1124) (ls2 := [(4, .int 0), (3, .ref 232), (2, .ref 162), (1, .ref 0), (0, .ref 11)]) (st2 := [.int (xs 3), .int (-2), .int 1, .ref 0]) (h2 := zH0) (dc2 := 117) (ds2 := 29934) 5 rfl ?_
  refine zT_val h3 ?_
  refine zT_call rfl rfl (zT_le (zg0_le 6 xs) zk_o_251) ?_
  refine zT_here (pc2 := 1127) rfl ?_
  refine zT_gos (f := 200000) (pc2 := 1134) (ls2 := [(4, .int 0), (3, .ref 232), (2, .ref 162), (1, .ref 0), (0, .ref 11)]) (st2 := [.int (xs 1), .ref 162, .int 0]) (h2 := (((zH0.set 37 (.inr (.inr (.inr (3, [.ref 44, .ref 6, .ref 76, .ref 78, .ref 80, .ref 88, .int 1, .int 0, .ref 96, .int 0, .int 0, .int 0, .ref 98, .ref 100, .int 0]))))).set 44 (.inr (.inr (.inr (6, [.int 1, .long 70644700037184, .int 0, .ref 90, .ref 92, .ref 94]))))).set 47 (.inr (.inl (16, [70644700037184]))))) (dc2 := 117) (ds2 := 29934) 6 rfl ?_
  refine zT_if0 false rfl (zc_eq_f (by show ((xs 1) : Int32).toInt ≠ 0; omega)) ?_
  refine zT_here (pc2 := 1137) rfl ?_
  refine zT_gos (f := 200000) (pc2 := 1148) (ls2 := [(4, .int 0), (3, .ref 232), (2, .ref 162), (1, .ref 0), (0, .ref 11)]) (st2 := [.int (xs 2), .int 1, .ref 162, .int 0]) (h2 := (((zH0.set 37 (.inr (.inr (.inr (3, [.ref 44, .ref 6, .ref 76, .ref 78, .ref 80, .ref 88, .int 1, .int 0, .ref 96, .int 0, .int 0, .int 0, .ref 98, .ref 100, .int 0]))))).set 44 (.inr (.inr (.inr (6, [.int 1, .long 70644700037184, .int 0, .ref 90, .ref 92, .ref 94]))))).set 47 (.inr (.inl (16, [70644700037184]))))) (dc2 := 117) (ds2 := 29934) 7 rfl ?_
  refine zT_val h2 ?_
  refine zT_gos (f := 200000) (pc2 := 1154) (ls2 := [(4, .int 0), (3, .ref 232), (2, .ref 162), (1, .ref 0), (0, .ref 11)]) (st2 := [.int (xs 3), .int (-2), .int 1, .ref 162, .int 0]) (h2 := (((zH0.set 37 (.inr (.inr (.inr (3, [.ref 44, .ref 6, .ref 76, .ref 78, .ref 80, .ref 88, .int 1, .int 0, .ref 96, .int 0, .int 0, .int 0, .ref 98, .ref 100, .int 0]))))).set 44 (.inr (.inr (.inr (6, [.int 1, .long 70644700037184, .int 0, .ref 90, .ref 92, .ref 94]))))).set 47 (.inr (.inl (16, [70644700037184]))))) (dc2 := 117) (ds2 := 29934) 5 rfl ?_
  refine zT_val h3 ?_
  refine zT_call rfl rfl (zT_le (zg0_le 6 xs) zk_o_252) ?_
  refine zT_here (pc2 := 1157) rfl ?_
  refine zT_gos (f := 200000) (pc2 := 1811) (ls2 := [(4, .int 6), (3, .ref 232), (2, .ref 162), (1, .ref 0), (0, .ref 11)]) (st2 := [.int 1]) (h2 := (((((((zH0.set 37 (.inr (.inr (.inr (3, [.ref 44, .ref 6, .ref 76, .ref 78, .ref 80, .ref 88, .int 1, .int 0, .ref 96, .int 0, .int 0, .int 0, .ref 98, .ref 100, .int 0]))))).set 44 (.inr (.inr (.inr (6, [.int 1, .long 70644700037184, .int 0, .ref 90, .ref 92, .ref 94]))))).set 47 (.inr (.inl (16, [70644700037184])))).set 106 (.inl (2, 2, [0, 1]))).set 105 (.inl (0, 2, [0, 0]))).set 107 (.inl (0, 132, [0, 0, 0, 0, 0, 0, 0, 0, 0, 0, 0, 0, 0, 0, 0, 0, 0, 0, 0, 0, 0, 0, 0, 0, 0, 0, 0, 0, 0, 0, 0, 0, 0, 0, 0, 0, 0, 0, 0, 0, 0, 0, 0, 0, 0, 0, 0, 0, 0, 0, 0, 0, 0, 0, 0, 0, 0, 0, 0, 0, 0, 0, 0, 0, 0, 0, 0, 0, 0, 0, 0, 0]))).set 109 (.inl (0, 22, [0, 0, 0, 0, 0, 0, 0, 0, 0, 0, 0, 0])))) (dc2 := 117) (ds2 := 29934) 10 rfl ?_
  exact zT_ret rfl rfl
set_option maxRecDepth 1000000 in
theorem zk_o_253 : zT zg0 zF zP 125 0 [(0, .ref 0), (1, .int 1), (2, .int (-1)), (3, .int 5)] [] zH0 0 0 (some (.int 0), (((zH0.set 37 (.inr (.inr (.inr (3, [.ref 44, .ref 6, .ref 76, .ref 78, .ref 80, .ref 88, .int 1, .int 0, .ref 96, .int 0, .int 0, .int 0, .ref 98, .ref 100, .int 0]))))).set 44 (.inr (.inr (.inr (6, [.int 1, .long 70644700037184, .int 0, .ref 90, .ref 92, .ref 94]))))).set 47 (.inr (.inl (16, [70644700037184])))), 0, 0) := zclosed (n := 345) (by decide +kernel)
set_option maxRecDepth 1000000 in
theorem zk_o_254 : zT zg0 zF zP 256 0 [(0, .ref 162), (1, .int 1), (2, .int (-1)), (3, .int 5)] [] (((zH0.set 37 (.inr (.inr (.inr (3, [.ref 44, .ref 6, .ref 76, .ref 78, .ref 80, .ref 88, .int 1, .int 0, .ref 96, .int 0, .int 0, .int 0, .ref 98, .ref 100, .int 0]))))).set 44 (.inr (.inr (.inr (6, [.int 1, .long 70644700037184, .int 0, .ref 90, .ref 92, .ref 94]))))).set 47 (.inr (.inl (16, [70644700037184])))) 0 0 (some (.int 0), (((((((zH0.set 37 (.inr (.inr (.inr (3, [.ref 44, .ref 6, .ref 76, .ref 78, .ref 80, .ref 88, .int 1, .int 0, .ref 96, .int 0, .int 0, .int 0, .ref 98, .ref 100, .int 0]))))).set 44 (.inr (.inr (.inr (6, [.int 1, .long 70644700037184, .int 0, .ref 90, .ref 92, .ref 94]))))).set 47 (.inr (.inl (16, [70644700037184])))).set 106 (.inl (2, 2, [0, 1]))).set 105 (.inl (0, 2, [0, 0]))).set 107 (.inl (0, 132, [0, 0, 0, 0, 0, 0, 0, 0, 0, 0, 0, 0, 0, 0, 0, 0, 0, 0, 0, 0, 0, 0, 0, 0, 0, 0, 0, 0, 0, 0, 0, 0, 0, 0, 0, 0, 0, 0, 0, 0, 0, 0, 0, 0, 0, 0, 0, 0, 0, 0, 0, 0, 0, 0, 0, 0, 0, 0, 0, 0, 0, 0, 0, 0, 0, 0, 0, 0, 0, 0, 0, 0]))).set 109 (.inl (0, 22, [0, 0, 0, 0, 0, 0, 0, 0, 0, 0, 0, 0]))), 0, 0) := zclosed (n := 404) (by decide +kernel)
set_option maxRecDepth 1000000 in
set_option maxHeartbeats 4000000 in
theorem zo_24_92 (xs : Nat → Int32) (h0 : xs 0 &&& 63 = 24) (h1 : (xs 1).toInt ≠ 0) (h3 : xs 3 = 5) (h2 : xs 2 = (-1)) : zDone xs := by
  refine ⟨(((((((zH0.set 37 (.inr (.inr (.inr (3, [.ref 44, .ref 6, .ref 76, .ref 78, .ref 80, .ref 88, .int 1, .int 0, .ref 96, .int 0, .int 0, .int 0, .ref 98, .ref 100, .int 0]))))).set 44 (.inr (.inr (.inr (6, [.int 1, .long 70644700037184, .int 0, .ref 90, .ref 92, .ref 94]))))).set 47 (.inr (.inl (16, [70644700037184])))).set 106 (.inl (2, 2, [0, 1]))).set 105 (.inl (0, 2, [0, 0]))).set 107 (.inl (0, 132, [0, 0, 0, 0, 0, 0, 0, 0, 0, 0, 0, 0, 0, 0, 0, 0, 0, 0, 0, 0, 0, 0, 0, 0, 0, 0, 0, 0, 0, 0, 0, 0, 0, 0, 0, 0, 0, 0, 0, 0, 0, 0, 0, 0, 0, 0, 0, 0, 0, 0, 0, 0, 0, 0, 0, 0, 0, 0, 0, 0, 0, 0, 0, 0, 0, 0, 0, 0, 0, 0, 0, 0]))).set 109 (.inl (0, 22, [0, 0, 0, 0, 0, 0, 0, 0, 0, 0, 0, 0]))), 117, 29934, ?_, by decide, by decide⟩
  refine zT_gos (f := 200000) (pc2 := 37) (ls2 := [(4, .int 0), (3, .ref 232), (2, .ref 162), (1, .ref 0), (0, .ref 11)]) (st2 := [.int (xs 0)]) (h2 := zH0) (dc2 := 117) (ds2 := 29934) 9 rfl ?_
  refine zT_gos (f := 200000) (pc2 := 40) (ls2 := [(4, .int 0), (3, .ref 232), (2, .ref 162), (1, .ref 0), (0, .ref 11)]) (st2 := [.int ((xs 0) &&& (63 : Int32))]) (h2 := zH0) (dc2 := 117) (ds2 := 29934) 2 rfl ?_
  refine zT_val h0 ?_
  refine zT_gos (f := 200000) (pc2 := 1104) (ls2 := [(4, .int 0), (3, .ref 232), (2, .ref 162), (1, .ref 0), (0, .ref 11)]) (st2 := [.int (xs 1), .ref 0]) (h2 := zH0) (dc2 := 117) (ds2 := 29934) 7 rfl ?_
  refine zT_if0 false rfl (zc_eq_f (by show ((xs 1) : Int32).toInt ≠ 0; omega)) ?_
  refine zT_here (pc2 := 1107) rfl ?_
  refine zT_gos (f := 200000) (pc2 := 1118) (ls2 := [(4, .int 0), (3, .ref 232), (2, .ref 162), (1, .ref 0), (0, .ref 11)]) (st2 := [.int (xs 2), .int 1, .ref 0]) (h2 := zH0) (dc2 := 117) (ds2 := 29934) 7 rfl ?_
  refine zT_val h2 ?_
  refine zT_gos (f := 200000) (pc2 := 1124) (ls2 := [(4, .int 0), (3, .ref 232), (2, .ref 162), (1, .ref 0), (0, .ref 11)]) (st2 := [.int (xs 3), .int (-1), .int 1, .ref 0]) (h2 := zH0) (dc2 := 117) (ds2 := 29934) 5 rfl ?_
  refine zT_val h3 ?_
  refine zT_call rfl rfl (zT_le (zg0_le 6 xs) zk_o_253) ?_
  refine zT_here (pc2 := 1127) rfl ?_
  refine zT_gos (f := 200000) (pc2 := 1134) (ls2 := [(4, .int 0), (3, .ref 232), (2, .ref 162), (1, .ref 0), (0, .ref 11)]) (st2 := [.int (xs 1), .ref 162, .int 0]) (h2 := (((zH0.set 37 (.inr (.inr (.inr (3, [.ref 44, .ref 6, .ref 76, .ref 78, .ref 80, .ref 88, .int 1, .int 0, .ref 96, .int 0, .int 0, .int 0, .ref 98, .ref 100, .int 0]))))).set 44 (.inr (.inr (.inr (6, [.int 1, .long 70644700037184, .int 0, .ref 90, .ref 92, .ref 94]))))).set 47 (.inr (.inl (16, [70644700037184]))))) (dc2 := 117) (ds2 := 29934) 6 rfl ?_
  refine zT_if0 false rfl (zc_eq_f (by show ((xs 1) : Int32).toInt ≠ 0; omega)) ?_
  refine zT_here (pc2 := 1137) rfl ?_
  refine zT_gos (f := 200000) (pc2 := 1148) (ls2 := [(4, .int 0), (3, .ref 232), (2, .ref 162), (1, .ref 0), (0, .ref 11)]) (st2 := [.int (xs 2), .int 1, .ref 162, .int 0]) (h2 := (((zH0.set 37 (.inr (.inr (.inr (3, [.ref 44, .ref 6, .ref 76, .ref 78, .ref 80, .ref 88, .int 1, .int 0, .ref 96, .int 0, .int 0, .int 0, .ref 98, .ref 100, .int 0]))))).set 44 (.inr (.inr (.inr (6, [.int 1, .long 70644700037184, .int 0, .ref 90, .ref 92, .ref 94]))))).set 47 (.inr (.inl (16, [70644700037184]))))) (dc2 := 117) (ds2 := 29934) 7 rfl ?_
  refine zT_val h2 ?_
  refine zT_gos (f := 200000) (pc2 := 1154) (ls2 := [(4, .int 0), (3, .ref 232), (2, .ref 162), (1, .ref 0), (0, .ref 11)]) (st2 := [.int (xs 3), .int (-1), .int 1, .ref 162, .int 0]) (h2 := (((zH0.set 37 (.inr (.inr (.inr (3, [.ref 44, .ref 6, .ref 76, .ref 78, .ref 80, .ref 88, .int 1, .int 0, .ref 96, .int 0, .int 0, .int 0, .ref 98, .ref 100, .int 0]))))).set 44 (.inr (.inr (.inr (6, [.int 1, .long 70644700037184, .int 0, .ref 90, .ref 92, .ref 94]))))).set 47 (.inr (.inl (16, [70644700037184]))))) (dc2 := 117) (ds2 := 29934) 5 rfl ?_
  refine zT_val h3 ?_
  refine zT_call rfl rfl (zT_le (zg0_le 6 xs) zk_o_254) ?_
  refine zT_here (pc2 := 1157) rfl ?_
  refine zT_gos (f := 200000) (pc2 := 1811) (ls2 := [(4, .int 6), (3, .ref 232), (2, .ref 162), (1, .ref 0), (0, .ref 11)]) (st2 := [.int 1]) (h2 := (((((((zH0.set 37 (.inr (.inr (.inr (3, [.ref 44, .ref 6, .ref 76, .ref 78, .ref 80, .ref 88, .int 1, .int 0, .ref 96, .int 0, .int 0, .int 0, .ref 98, .ref 100, .int 0]))))).set 44 (.inr (.inr (.inr (6, [.int 1, .long 70644700037184, .int 0, .ref 90, .ref 92, .ref 94]))))).set 47 (.inr (.inl (16, [70644700037184])))).set 106 (.inl (2, 2, [0, 1]))).set 105 (.inl (0, 2, [0, 0]))).set 107 (.inl (0, 132, [0, 0, 0, 0, 0, 0, 0, 0, 0, 0, 0, 0, 0, 0, 0, 0, 0, 0, 0, 0, 0, 0, 0, 0, 0, 0, 0, 0, 0, 0, 0, 0, 0, 0, 0, 0, 0, 0, 0, 0, 0, 0, 0, 0, 0, 0, 0, 0, 0, 0, 0, 0, 0, 0, 0, 0, 0, 0, 0, 0, 0, 0, 0, 0, 0, 0, 0, 0, 0, 0, 0, 0]))).set 109 (.inl (0, 22, [0, 0, 0, 0, 0, 0, 0, 0, 0, 0, 0, 0])))) (dc2 := 117) (ds2 := 29934) 10 rfl ?_
  exact zT_ret rfl rfl
set_option maxRecDepth 1000000 in
theorem zk_o_255 : zT zg0 zF zP 125 0 [(0, .ref 0), (1, .int 1), (2, .int 0), (3, .int 5)] [] zH0 0 0 (some (.int 0), (((zH0.set 37 (.inr (.inr (.inr (3, [.ref 44, .ref 6, .ref 76, .ref 78, .ref 80, .ref 88, .int 1, .int 0, .ref 96, .int 0, .int 0, .int 0, .ref 98, .ref 100, .int 0]))))).set 44 (.inr (.inr (.inr (6, [.int 1, .long 70644700037184, .int 0, .ref 90, .ref 92, .ref 94]))))).set 47 (.inr (.inl (16, [70644700037184])))), 0, 0) := zclosed (n := 350) (by decide +kernel)
set_option maxRecDepth 1000000 in
theorem zk_o_256 : zT zg0 zF zP 256 0 [(0, .ref 162), (1, .int 1), (2, .int 0), (3, .int 5)] [] (((zH0.set 37 (.inr (.inr (.inr (3, [.ref 44, .ref 6, .ref 76, .ref 78, .ref 80, .ref 88, .int 1, .int 0, .ref 96, .int 0, .int 0, .int 0, .ref 98, .ref 100, .int 0]))))).set 44 (.inr (.inr (.inr (6, [.int 1, .long 70644700037184, .int 0, .ref 90, .ref 92, .ref 94]))))).set 47 (.inr (.inl (16, [70644700037184])))) 0 0 (some (.int 0), (((((((zH0.set 37 (.inr (.inr (.inr (3, [.ref 44, .ref 6, .ref 76, .ref 78, .ref 80, .ref 88, .int 1, .int 0, .ref 96, .int 0, .int 0, .int 0, .ref 98, .ref 100, .int 0]))))).set 44 (.inr (.inr (.inr (6, [.int 1, .long 70644700037184, .int 0, .ref 90, .ref 92, .ref 94]))))).set 47 (.inr (.inl (16, [70644700037184])))).set 106 (.inl (2, 2, [0, 1]))).set 105 (.inl (0, 2, [0, 0]))).set 107 (.inl (0, 132, [0, 0, 0, 0, 0, 0, 0, 0, 0, 0, 0, 0, 0, 0, 0, 0, 0, 0, 0, 0, 0, 0, 0, 0, 0, 0, 0, 0, 0, 0, 0, 0, 0, 0, 0, 0, 0, 0, 0, 0, 0, 0, 0, 0, 0, 0, 0, 0, 0, 0, 0, 0, 0, 0, 0, 0, 0, 0, 0, 0, 0, 0, 0, 0, 0, 0, 0, 0, 0, 0, 0, 0]))).set 109 (.inl (0, 22, [0, 0, 0, 0, 0, 0, 0, 0, 0, 0, 0, 0]))), 0, 0) := zclosed (n := 428) (by decide +kernel)
set_option maxRecDepth 1000000 in
set_option maxHeartbeats 4000000 in
theorem zo_24_93 (xs : Nat → Int32) (h0 : xs 0 &&& 63 = 24) (h1 : (xs 1).toInt ≠ 0) (h3 : xs 3 = 5) (h2 : xs 2 = 0) : zDone xs := by
  refine ⟨(((((((zH0.set 37 (.inr (.inr (.inr (3, [.ref 44, .ref 6, .ref 76, .ref 78, .ref 80, .ref 88, .int 1, .int 0, .ref 96, .int 0, .int 0, .int 0, .ref 98, .ref 100, .int 0]))))).set 44 (.inr (.inr (.inr (6, [.int 1, .long 70644700037184, .int 0, .ref 90, .ref 92, .ref 94]))))).set 47 (.inr (.inl (16, [70644700037184])))).set 106 (.inl (2, 2, [0, 1]))).set 105 (.inl (0, 2, [0, 0]))).set 107 (.inl (0, 132, [0, 0, 0, 0, 0, 0, 0, 0, 0, 0, 0, 0, 0, 0, 0, 0, 0, 0, 0, 0, 0, 0, 0, 0, 0, 0, 0, 0, 0, 0, 0, 0, 0, 0, 0, 0, 0, 0, 0, 0, 0, 0, 0, 0, 0, 0, 0, 0, 0, 0, 0, 0, 0, 0, 0, 0, 0, 0, 0, 0, 0, 0, 0, 0, 0, 0, 0, 0, 0, 0, 0, 0]))).set 109 (.inl (0, 22, [0, 0, 0, 0, 0, 0, 0, 0, 0, 0, 0, 0]))), 117, 29934, ?_, by decide, by decide⟩
  refine zT_gos (f := 200000) (pc2 := 37) (ls2 := [(4, .int 0), (3, .ref 232), (2, .ref 162), (1, .ref 0), (0, .ref 11)]) (st2 := [.int (xs 0)]) (h2 := zH0) (dc2 := 117) (ds2 := 29934) 9 rfl ?_
  refine zT_gos (f := 200000) (pc2 := 40) (ls2 := [(4, .int 0), (3, .ref 232), (2, .ref 162), (1, .ref 0), (0, .ref 11)]) (st2 := [.int ((xs 0) &&& (63 : Int32))]) (h2 := zH0) (dc2 := 117) (ds2 := 29934) 2 rfl ?_
  refine zT_val h0 ?_
  refine zT_gos (f := 200000) (pc2 := 1104) (ls2 := [(4, .int 0), (3, .ref 232), (2, .ref 162), (1, .ref 0), (0, .ref 11)]) (st2 := [.int (xs 1), .ref 0]) (h2 := zH0) (dc2 := 117) (ds2 := 29934) 7 rfl ?_
  refine zT_if0 false rfl (zc_eq_f (by show ((xs 1) : Int32).toInt ≠ 0; omega)) ?_
  refine zT_here (pc2 := 1107) rfl ?_
  refine zT_gos (f := 200000) (pc2 := 1118) (ls2 := [(4, .int 0), (3, .ref 232), (2, .ref 162), (1, .ref 0), (0, .ref 11)]) (st2 := [.int (xs 2), .int 1, .ref 0]) (h2 := zH0) (dc2 := 117) (ds2 := 29934) 7 rfl ?_
  refine zT_val h2 ?_
  refine zT_gos (f := 200000) (pc2 := 1124) (ls2 := [(4, .int 0), (3, .ref 232), (2, .ref 162), (1, .ref 0), (0, .ref 11)]) (st2 := [.int (xs 3), .int 0, .int 1, .ref 0]) (h2 := zH0) (dc2 := 117) (ds2 := 29934) 5 rfl ?_
  refine zT_val h3 ?_
  refine zT_call rfl rfl (zT_le (zg0_le 6 xs) zk_o_255) ?_
  refine zT_here (pc2 := 1127) rfl ?_
  refine zT_gos (f := 200000) (pc2 := 1134) (ls2 := [(4, .int 0), (3, .ref 232), (2, .ref 162), (1, .ref 0), (0, .ref 11)]) (st2 := [.int (xs 1), .ref 162, .int 0]) (h2 := (((zH0.set 37 (.inr (.inr (.inr (3, [.ref 44, .ref 6, .ref 76, .ref 78, .ref 80, .ref 88, .int 1, .int 0, .ref 96, .int 0, .int 0, .int 0, .ref 98, .ref 100, .int 0]))))).set 44 (.inr (.inr (.inr (6, [.int 1, .long 70644700037184, .int 0, .ref 90, .ref 92, .ref 94]))))).set 47 (.inr (.inl (16, [70644700037184]))))) (dc2 := 117) (ds2 := 29934) 6 rfl ?_
  refine zT_if0 false rfl (zc_eq_f (by show ((xs 1) : Int32).toInt ≠ 0; omega)) ?_
  refine zT_here (pc2 := 1137) rfl ?_
  refine zT_gos (f := 200000) (pc2 := 1148) (ls2 := [(4, .int 0), (3, .ref 232), (2, .ref 162), (1, .ref 0), (0, .ref 11)]) (st2 := [.int (xs 2), .int 1, .ref 162, .int 0]) (h2 := (((zH0.set 37 (.inr (.inr (.inr (3, [.ref 44, .ref 6, .ref 76, .ref 78, .ref 80, .ref 88, .int 1, .int 0, .ref 96, .int 0, .int 0, .int 0, .ref 98, .ref 100, .int 0]))))).set 44 (.inr (.inr (.inr (6, [.int 1, .long 70644700037184, .int 0, .ref 90, .ref 92, .ref 94]))))).set 47 (.inr (.inl (16, [70644700037184]))))) (dc2 := 117) (ds2 := 29934) 7 rfl ?_
  refine zT_val h2 ?_
  refine zT_gos (f := 200000) (pc2 := 1154) (ls2 := [(4, .int 0), (3, .ref 232), (2, .ref 162), (1, .ref 0), (0, .ref 11)]) (st2 := [.int (xs 3), .int 0, .int 1, .ref 162, .int 0]) (h2 := (((zH0.set 37 (.inr (.inr (.inr (3, [.ref 44, .ref 6, .ref 76, .ref 78, .ref 80, .ref 88, .int 1, .int 0, .ref 96, .int 0, .int 0, .int 0, .ref 98, .ref 100, .int 0]))))).set 44 (.inr (.inr (.inr (6, [.int 1, .long 70644700037184, .int 0, .ref 90, .ref 92, .ref 94]))))).set 47 (.inr (.inl (16, [70644700037184]))))) (dc2 := 117) (ds2 := 29934) 5 rfl ?_
  refine zT_val h3 ?_
  refine zT_call rfl rfl (zT_le (zg0_le 6 xs) zk_o_256) ?_
  refine zT_here (pc2 := 1157) rfl ?_
  refine zT_gos (f := 200000) (pc2 := 1811) (ls2 := [(4, .int 6), (3, .ref 232), (2, .ref 162), (1, .ref 0), (0, .ref 11)]) (st2 := [.int 1]) (h2 := (((((((zH0.set 37 (.inr (.inr (.inr (3, [.ref 44, .ref 6, .ref 76, .ref 78, .ref 80, .ref 88, .int 1, .int 0, .ref 96, .int 0, .int 0, .int 0, .ref 98, .ref 100, .int 0]))))).set 44 (.inr (.inr (.inr (6, [.int 1, .long 70644700037184, .int 0, .ref 90, .ref 92, .ref 94]))))).set 47 (.inr (.inl (16, [70644700037184])))).set 106 (.inl (2, 2, [0, 1]))).set 105 (.inl (0, 2, [0, 0]))).set 107 (.inl (0, 132, [0, 0, 0, 0, 0, 0, 0, 0, 0, 0, 0, 0, 0, 0, 0, 0, 0, 0, 0, 0, 0, 0, 0, 0, 0, 0, 0, 0, 0, 0, 0, 0, 0, 0, 0, 0, 0, 0, 0, 0, 0, 0, 0, 0, 0, 0, 0, 0, 0, 0, 0, 0, 0, 0, 0, 0, 0, 0, 0, 0, 0, 0, 0, 0, 0, 0, 0, 0, 0, 0, 0, 0]))).set 109 (.inl (0, 22, [0, 0, 0, 0, 0, 0, 0, 0, 0, 0, 0, 0])))) (dc2 := 117) (ds2 := 29934) 10 rfl ?_
  exact zT_ret rfl rfl
set_option maxRecDepth 1000000 in
theorem zk_o_257 : zT zg0 zF zP 125 0 [(0, .ref 0), (1, .int 1), (2, .int 1), (3, .int 5)] [] zH0 0 0 (some (.int 0), (((zH0.set 37 (.inr (.inr (.inr (3, [.ref 44, .ref 6, .ref 76, .ref 78, .ref 80, .ref 88, .int 1, .int 0, .ref 96, .int 0, .int 0, .int 0, .ref 98, .ref 100, .int 0]))))).set 44 (.inr (.inr (.inr (6, [.int 1, .long 70644700037184, .int 0, .ref 90, .ref 92, .ref 94]))))).set 47 (.inr (.inl (16, [70644700037184])))), 0, 0) := zclosed (n := 355) (by decide +kernel)
set_option maxRecDepth 1000000 in
theorem zk_o_258 : zT zg0 zF zP 256 0 [(0, .ref 162), (1, .int 1), (2, .int 1), (3, .int 5)] [] (((zH0.set 37 (.inr (.inr (.inr (3, [.ref 44, .ref 6, .ref 76, .ref 78, .ref 80, .ref 88, .int 1, .int 0, .ref 96, .int 0, .int 0, .int 0, .ref 98, .ref 100, .int 0]))))).set 44 (.inr (.inr (.inr (6, [.int 1, .long 70644700037184, .int 0, .ref 90, .ref 92, .ref 94]))))).set 47 (.inr (.inl (16, [70644700037184])))) 0 0 (some (.int 0), (((((((zH0.set 37 (.inr (.inr (.inr (3, [.ref 44, .ref 6, .ref 76, .ref 78, .ref 80, .ref 88, .int 1, .int 0, .ref 96, .int 0, .int 0, .int 0, .ref 98, .ref 100, .int 0]))))).set 44 (.inr (.inr (.inr (6, [.int 1, .long 70644700037184, .int 0, .ref 90, .ref 92, .ref 94]))))).set 47 (.inr (.inl (16, [70644700037184])))).set 106 (.inl (2, 2, [0, 1]))).set 105 (.inl (0, 2, [0, 0]))).set 107 (.inl (0, 132, [0, 0, 0, 0, 0, 0, 0, 0, 0, 0, 0, 0, 0, 0, 0, 0, 0, 0, 0, 0, 0, 0, 0, 0, 0, 0, 0, 0, 0, 0, 0, 0, 0, 0, 0, 0, 0, 0, 0, 0, 0, 0, 0, 0, 0, 0, 0, 0, 0, 0, 0, 0, 0, 0, 0, 0, 0, 0, 0, 0, 0, 0, 0, 0, 0, 0, 0, 0, 0, 0, 0, 0]))).set 109 (.inl (0, 22, [0, 0, 0, 0, 0, 0, 0, 0, 0, 0, 0, 0]))), 0, 0) := zclosed (n := 452) (by decide +kernel)
set_option maxRecDepth 1000000 in
set_option maxHeartbeats 4000000 in
theorem zo_24_94 (xs : Nat → Int32) (h0 : xs 0 &&& 63 = 24) (h1 : (xs 1).toInt ≠ 0) (h3 : xs 3 = 5) (h2 : xs 2 = 1) : zDone xs := by
  refine ⟨(((((((zH0.set 37 (.inr (.inr (.inr (3, [.ref 44, .ref 6, .ref 76, .ref 78, .ref 80, .ref 88, .int 1, .int 0, .ref 96, .int 0, .int 0, .int 0, .ref 98, .ref 100, .int 0]))))).set 44 (.inr (.inr (.inr (6, [.int 1, .long 70644700037184, .int 0, .ref 90, .ref 92, .ref 94]))))).set 47 (.inr (.inl (16, [70644700037184])))).set 106 (.inl (2, 2, [0, 1]))).set 105 (.inl (0, 2, [0, 0]))).set 107 (.inl (0, 132, [0, 0, 0, 0, 0, 0, 0, 0, 0, 0, 0, 0, 0, 0, 0, 0, 0, 0, 0, 0, 0, 0, 0, 0, 0, 0, 0, 0, 0, 0, 0, 0, 0, 0, 0, 0, 0, 0, 0, 0, 0, 0, 0, 0, 0, 0, 0, 0, 0, 0, 0, 0, 0, 0, 0, 0, 0, 0, 0, 0, 0, 0, 0, 0, 0, 0, 0, 0, 0, 0, 0, 0]))).set 109 (.inl (0, 22, [0, 0, 0, 0, 0, 0, 0, 0, 0, 0, 0, 0]))), 117, 29934, ?_, by decide, by decide⟩
  refine zT_gos (f := 200000) (pc2 := 37) (ls2 := [(4, .int 0), (3, .ref 232), (2, .ref 162), (1, .ref 0), (0, .ref 11)]) (st2 := [.int (xs 0)]) (h2 := zH0) (dc2 := 117) (ds2 := 29934) 9 rfl ?_
  refine zT_gos (f := 200000) (pc2 := 40) (ls2 := [(4, .int 0), (3, .ref 232), (2, .ref 162), (1, .ref 0), (0, .ref 11)]) (st2 := [.int ((xs 0) &&& (63 : Int32))]) (h2 := zH0) (dc2 := 117) (ds2 := 29934) 2 rfl ?_
  refine zT_val h0 ?_
  refine zT_gos (f := 200000) (pc2 := 1104) (ls2 := [(4, .int 0), (3, .ref 232), (2, .ref 162), (1, .ref 0), (0, .ref 11)]) (st2 := [.int (xs 1), .ref 0]) (h2 := zH0) (dc2 := 117) (ds2 := 29934) 7 rfl ?_
  refine zT_if0 false rfl (zc_eq_f (by show ((xs 1) : Int32).toInt ≠ 0; omega)) ?_
  refine zT_here (pc2 := 1107) rfl ?_
  refine zT_gos (f := 200000) (pc2 := 1118) (ls2 := [(4, .int 0), (3, .ref 232), (2, .ref 162), (1, .ref 0), (0, .ref 11)]) (st2 := [.int (xs 2), .int 1, .ref 0]) (h2 := zH0) (dc2 := 117) (ds2 := 29934) 7 rfl ?_
  refine zT_val h2 ?_
  refine zT_gos (f := 200000) (pc2 := 1124) (ls2 := [(4, .int 0), (3, .ref 232), (2, .ref 162), (1, .ref 0), (0, .ref 11)]) (st2 := [.int (xs 3), .int 1, .int 1, .ref 0]) (h2 := zH0) (dc2 := 117) (ds2 := 29934) 5 rfl ?_
  refine zT_val h3 ?_
  refine zT_call rfl rfl (zT_le (zg0_le 6 xs) zk_o_257) ?_
  refine zT_here (pc2 := 1127) rfl ?_
  refine zT_gos (f := 200000) (pc2 := 1134) (ls2 := [(4, .int 0), (3, .ref 232), (2, .ref 162), (1, .ref 0), (0, .ref 11)]) (st2 := [.int (xs 1), .ref 162, .int 0]) (h2 := (((zH0.set 37 (.inr (.inr (.inr (3, [.ref 44, .ref 6, .ref 76, .ref 78, .ref 80, .ref 88, .int 1, .int 0, .ref 96, .int 0, .int 0, .int 0, .ref 98, .ref 100, .int 0]))))).set 44 (.inr (.inr (.inr (6, [.int 1, .long 70644700037184, .int 0, .ref 90, .ref 92, .ref 94]))))).set 47 (.inr (.inl (16, [70644700037184]))))) (dc2 := 117) (ds2 := 29934) 6 rfl ?_
  refine zT_if0 false rfl (zc_eq_f (by show ((xs 1) : Int32).toInt ≠ 0; omega)) ?_
  refine zT_here (pc2 := 1137) rfl ?_
  refine zT_gos (f := 200000) (pc2 := 1148) (ls2 := [(4, .int 0), (3, .ref 232), (2, .ref 162), (1, .ref 0), (0, .ref 11)]) (st2 := [.int (xs 2), .int 1, .ref 162, .int 0]) (h2 := (((zH0.set 37 (.inr (.inr (.inr (3, [.ref 44, .ref 6, .ref 76, .ref 78, .ref 80, .ref 88, .int 1, .int 0, .ref 96, .int 0, .int 0, .int 0, .ref 98, .ref 100, .int 0]))))).set 44 (.inr (.inr (.inr (6, [.int 1, .long 70644700037184, .int 0, .ref 90, .ref 92, .ref 94]))))).set 47 (.inr (.inl (16, [70644700037184]))))) (dc2 := 117) (ds2 := 29934) 7 rfl ?_
  refine zT_val h2 ?_
  refine zT_gos (f := 200000) (pc2 := 1154) (ls2 := [(4, .int 0), (3, .ref 232), (2, .ref 162), (1, .ref 0), (0, .ref 11)]) (st2 := [.int (xs 3), .int 1, .int 1, .ref 162, .int 0]) (h2 := (((zH0.set 37 (.inr (.inr (.inr (3, [.ref 44, .ref 6, .ref 76, .ref 78, .ref 80, .ref 88, .int 1, .int 0, .ref 96, .int 0, .int 0, .int 0, .ref 98, .ref 100, .int 0]))))).set 44 (.inr (.inr (.inr (6, [.int 1, .long 70644700037184, .int 0, .ref 90, .ref 92, .ref 94]))))).set 47 (.inr (.inl (16, [70644700037184]))))) (dc2 := 117) (ds2 := 29934) 5 rfl ?_
  refine zT_val h3 ?_
  refine zT_call rfl rfl (zT_le (zg0_le 6 xs) zk_o_258) ?_
  refine zT_here (pc2 := 1157) rfl ?_
  refine zT_gos (f := 200000) (pc2 := 1811) (ls2 := [(4, .int 6), (3, .ref 232), (2, .ref 162), (1, .ref 0), (0, .ref 11)]) (st2 := [.int 1]) (h2 := (((((((zH0.set 37 (.inr (.inr (.inr (3, [.ref 44, .ref 6, .ref 76, .ref 78, .ref 80, .ref 88, .int 1, .int 0, .ref 96, .int 0, .int 0, .int 0, .ref 98, .ref 100, .int 0]))))).set 44 (.inr (.inr (.inr (6, [.int 1, .long 70644700037184, .int 0, .ref 90, .ref 92, .ref 94]))))).set 47 (.inr (.inl (16, [70644700037184])))).set 106 (.inl (2, 2, [0, 1]))).set 105 (.inl (0, 2, [0, 0]))).set 107 (.inl (0, 132, [0, 0, 0, 0, 0, 0, 0, 0, 0, 0, 0, 0, 0, 0, 0, 0, 0, 0, 0, 0, 0, 0, 0, 0, 0, 0, 0, 0, 0, 0, 0, 0, 0, 0, 0, 0, 0, 0, 0, 0, 0, 0, 0, 0, 0, 0, 0, 0, 0, 0, 0, 0, 0, 0, 0, 0, 0, 0, 0, 0, 0, 0, 0, 0, 0, 0, 0, 0, 0, 0, 0, 0]))).set 109 (.inl (0, 22, [0, 0, 0, 0, 0, 0, 0, 0, 0, 0, 0, 0])))) (dc2 := 117) (ds2 := 29934) 10 rfl ?_
  exact zT_ret rfl rfl
set_option maxRecDepth 1000000 in
theorem zk_o_259 : zT zg0 zF zP 125 0 [(0, .ref 0), (1, .int 1), (2, .int 2), (3, .int 5)] [] zH0 0 0 (some (.int 0), (((zH0.set 37 (.inr (.inr (.inr (3, [.ref 44, .ref 6, .ref 76, .ref 78, .ref 80, .ref 88, .int 1, .int 0, .ref 96, .int 0, .int 0, .int 0, .ref 98, .ref 100, .int 0]))))).set 44 (.inr (.inr (.inr (6, [.int 1, .long 70644700037184, .int 0, .ref 90, .ref 92, .ref 94]))))).set 47 (.inr (.inl (16, [70644700037184])))), 0, 0) := zclosed (n := 360) (by decide +kernel)
set_option maxRecDepth 1000000 in
theorem zk_o_260 : zT zg0 zF zP 256 0 [(0, .ref 162), (1, .int 1), (2, .int 2), (3, .int 5)] [] (((zH0.set 37 (.inr (.inr (.inr (3, [.ref 44, .ref 6, .ref 76, .ref 78, .ref 80, .ref 88, .int 1, .int 0, .ref 96, .int 0, .int 0, .int 0, .ref 98, .ref 100, .int 0]))))).set 44 (.inr (.inr (.inr (6, [.int 1, .long 70644700037184, .int 0, .ref 90, .ref 92, .ref 94]))))).set 47 (.inr (.inl (16, [70644700037184])))) 0 0 (some (.int 0), (((((((zH0.set 37 (.inr (.inr (.inr (3, [.ref 44, .ref 6, .ref 76, .ref 78, .ref 80, .ref 88, .int 1, .int 0, .ref 96, .int 0, .int 0, .int 0, .ref 98, .ref 100, .int 0]))))).set 44 (.inr (.inr (.inr (6, [.int 1, .long 70644700037184, .int 0, .ref 90, .ref 92, .ref 94]))))).set 47 (.inr (.inl (16, [70644700037184])))).set 106 (.inl (2, 2, [0, 1]))).set 105 (.inl (0, 2, [0, 0]))).set 107 (.inl (0, 132, [0, 0, 0, 0, 0, 0, 0, 0, 0, 0, 0, 0, 0, 0, 0, 0, 0, 0, 0, 0, 0, 0, 0, 0, 0, 0, 0, 0, 0, 0, 0, 0, 0, 0, 0, 0, 0, 0, 0, 0, 0, 0, 0, 0, 0, 0, 0, 0, 0, 0, 0, 0, 0, 0, 0, 0, 0, 0, 0, 0, 0, 0, 0, 0, 0, 0, 0, 0, 0, 0, 0, 0]))).set 109 (.inl (0, 22, [0, 0, 0, 0, 0, 0, 0, 0, 0, 0, 0, 0]))), 0, 0) := zclosed (n := 476) (by decide +kernel)
set_option maxRecDepth 1000000 in
set_option maxHeartbeats 4000000 in
theorem zo_24_95 (xs : Nat → Int32) (h0 : xs 0 &&& 63 = 24) (h1 : (xs 1).toInt ≠ 0) (h3 : xs 3 = 5) (h2 : xs 2 = 2) : zDone xs := by
  refine ⟨(((((((zH0.set 37 (.inr (.inr (.inr (3, [.ref 44, .ref 6, .ref 76, .ref 78, .ref 80, .ref 88, .int 1, .int 0, .ref 96, .int 0, .int 0, .int 0, .ref 98, .ref 100, .int 0]))))).set 44 (.inr (.inr (.inr (6, [.int 1, .long 70644700037184, .int 0, .ref 90, .ref 92, .ref 94]))))).set 47 (.inr (.inl (16, [70644700037184])))).set 106 (.inl (2, 2, [0, 1]))).set 105 (.inl (0, 2, [0, 0]))).set 107 (.inl (0, 132, [0, 0, 0, 0, 0, 0, 0, 0, 0, 0, 0, 0, 0, 0, 0, 0, 0, 0, 0, 0, 0, 0, 0, 0, 0, 0, 0, 0, 0, 0, 0, 0, 0, 0, 0, 0, 0, 0, 0, 0, 0, 0, 0, 0, 0, 0, 0, 0, 0, 0, 0, 0, 0, 0, 0, 0, 0, 0, 0, 0, 0, 0, 0, 0, 0, 0, 0, 0, 0, 0, 0, 0]))).set 109 (.inl (0, 22, [0, 0, 0, 0, 0, 0, 0, 0, 0, 0, 0, 0]))), 117, 29934, ?_, by decide, by decide⟩
  refine zT_gos (f := 200000) (pc2 := 37) (ls2 := [(4, .int 0), (3, .ref 232), (2, .ref 162), (1, .ref 0), (0, .ref 11)]) (st2 := [.int (xs 0)]) (h2 := zH0) (dc2 := 117) (ds2 := 29934) 9 rfl ?_
  refine zT_gos (f := 200000) (pc2 := 40) (ls2 := [(4, .int 0), (3, .ref 232), (2, .ref 162), (1, .ref 0), (0, .ref 11)]) (st2 := [.int ((xs 0) &&& (63 : Int32))]) (h2 := zH0) (dc2 := 117) (ds2 := 29934) 2 rfl ?_
  refine zT_val h0 ?_
  refine zT_gos (f := 200000) (pc2 := 1104) (ls2 := [(4, .int 0), (3, .ref 232), (2, .ref 162), (1, .ref 0), (0, .ref 11)]) (st2 := [.int (xs 1), .ref 0]) (h2 := zH0) (dc2 := 117) (ds2 := 29934) 7 rfl ?_
  refine zT_if0 false rfl (zc_eq_f (by show ((xs 1) : Int32).toInt ≠ 0; omega)) ?_
  refine zT_here (pc2 := 1107) rfl ?_
  refine zT_gos (f := 200000) (pc2 := 1118) (ls2 := [(4, .int 0), (3, .ref 232), (2, .ref 162), (1, .ref 0), (0, .ref 11)]) (st2 := [.int (xs 2), .int 1, .ref 0]) (h2 := zH0) (dc2 := 117) (ds2 := 29934) 7 rfl ?_
  refine zT_val h2 ?_
  refine zT_gos (f := 200000) (pc2 := 1124) (ls2 := [(4, .int 0), (3, .ref 232), (2, .ref 162), (1, .ref 0), (0, .ref 11)]) (st2 := [.int (xs 3), .int 2, .int 1, .ref 0]) (h2 := zH0) (dc2 := 117) (ds2 := 29934) 5 rfl ?_
  refine zT_val h3 ?_
  refine zT_call rfl rfl (zT_le (zg0_le 6 xs) zk_o_259) ?_
  refine zT_here (pc2 := 1127) rfl ?_
  refine zT_gos (f := 200000) (pc2 := 1134) (ls2 := [(4, .int 0), (3, .ref 232), (2, .ref 162), (1, .ref 0), (0, .ref 11)]) (st2 := [.int (xs 1), .ref 162, .int 0]) (h2 := (((zH0.set 37 (.inr (.inr (.inr (3, [.ref 44, .ref 6, .ref 76, .ref 78, .ref 80, .ref 88, .int 1, .int 0, .ref 96, .int 0, .int 0, .int 0, .ref 98, .ref 100, .int 0]))))).set 44 (.inr (.inr (.inr (6, [.int 1, .long 70644700037184, .int 0, .ref 90, .ref 92, .ref 94]))))).set 47 (.inr (.inl (16, [70644700037184]))))) (dc2 := 117) (ds2 := 29934) 6 rfl ?_
  refine zT_if0 false rfl (zc_eq_f (by show ((xs 1) : Int32).toInt ≠ 0; omega)) ?_
  refine zT_here (pc2 := 1137) rfl ?_
  refine zT_gos (f := 200000) (pc2 := 1148) (ls2 := [(4, .int 0), (3, .ref 232), (2, .ref 162), (1, .ref 0), (0, .ref 11)]) (st2 := [.int (xs 2), .int 1, .ref 162, .int 0]) (h2 := (((zH0.set 37 (.inr (.inr (.inr (3, [.ref 44, .ref 6, .ref 76, .ref 78, .ref 80, .ref 88, .int 1, .int 0, .ref 96, .int 0, .int 0, .int 0, .ref 98, .ref 100, .int 0]))))).set 44 (.inr (.inr (.inr (6, [.int 1, .long 70644700037184, .int 0, .ref 90, .ref 92, .ref 94]))))).set 47 (.inr (.inl (16, [70644700037184]))))) (dc2 := 117) (ds2 := 29934) 7 rfl ?_
  refine zT_val h2 ?_
  refine zT_gos (f := 200000) (pc2 := 1154) (ls2 := [(4, .int 0), (3, .ref 232), (2, .ref 162), (1, .ref 0), (0, .ref 11)]) (st2 := [.int (xs 3), .int 2, .int 1, .ref 162, .int 0]) (h2 := (((zH0.set 37 (.inr (.inr (.inr (3, [.ref 44, .ref 6, .ref 76, .ref 78, .ref 80, .ref 88, .int 1, .int 0, .ref 96, .int 0, .int 0, .int 0, .ref 98, .ref 100, .int 0]))))).set 44 (.inr (.inr (.inr (6, [.int 1, .long 70644700037184, .int 0, .ref 90, .ref 92, .ref 94]))))).set 47 (.inr (.inl (16, [70644700037184]))))) (dc2 := 117) (ds2 := 29934) 5 rfl ?_
  refine zT_val h3 ?_
  refine zT_call rfl rfl (zT_le (zg0_le 6 xs) zk_o_260) ?_
  refine zT_here (pc2 := 1157) rfl ?_
  refine zT_gos (f := 200000) (pc2 := 1811) (ls2 := [(4, .int 6), (3, .ref 232), (2, .ref 162), (1, .ref 0), (0, .ref 11)]) (st2 := [.int 1]) (h2 := (((((((zH0.set 37 (.inr (.inr (.inr (3, [.ref 44, .ref 6, .ref 76, .ref 78, .ref 80, .ref 88, .int 1, .int 0, .ref 96, .int 0, .int 0, .int 0, .ref 98, .ref 100, .int 0]))))).set 44 (.inr (.inr (.inr (6, [.int 1, .long 70644700037184, .int 0, .ref 90, .ref 92, .ref 94]))))).set 47 (.inr (.inl (16, [70644700037184])))).set 106 (.inl (2, 2, [0, 1]))).set 105 (.inl (0, 2, [0, 0]))).set 107 (.inl (0, 132, [0, 0, 0, 0, 0, 0, 0, 0, 0, 0, 0, 0, 0, 0, 0, 0, 0, 0, 0, 0, 0, 0, 0, 0, 0, 0, 0, 0, 0, 0, 0, 0, 0, 0, 0, 0, 0, 0, 0, 0, 0, 0, 0, 0, 0, 0, 0, 0, 0, 0, 0, 0, 0, 0, 0, 0, 0, 0, 0, 0, 0, 0, 0, 0, 0, 0, 0, 0, 0, 0, 0, 0]))).set 109 (.inl (0, 22, [0, 0, 0, 0, 0, 0, 0, 0, 0, 0, 0, 0])))) (dc2 := 117) (ds2 := 29934) 10 rfl ?_
  exact zT_ret rfl rfl
theorem zop_24 (xs : Nat → Int32) (h0 : xs 0 &&& 63 = 24) : zDone xs := by
  rcases (show (xs 1).toInt = 0 ∨ (xs 1).toInt ≠ 0 by omega) with h1 | h1
  · have h1 : xs 1 = 0 := Int32.toInt_inj.mp h1
    rcases (show (xs 3).toInt < 0 ∨ 5 < (xs 3).toInt ∨ (xs 3).toInt = 0 ∨ (xs 3).toInt = 1 ∨ (xs 3).toInt = 2 ∨ (xs 3).toInt = 3 ∨ (xs 3).toInt = 4 ∨ (xs 3).toInt = 5 by omega) with h3 | h3 | h3 | h3 | h3 | h3 | h3 | h3
    · have h3 := h3
      rcases (show (xs 2).toInt < -2 ∨ 2 < (xs 2).toInt ∨ (-2 ≤ (xs 2).toInt ∧ (xs 2).toInt ≤ 2) by omega) with h2 | h2 | h2
      · have h2 := h2
        exact zo_24_0 xs h0 h1 h3 h2
      · have h2 := h2
        exact zo_24_1 xs h0 h1 h3 h2
      · have h2 := h2
        exact zo_24_2 xs h0 h1 h3 h2
    · have h3 := h3
      rcases (show (xs 2).toInt < -2 ∨ 2 < (xs 2).toInt ∨ (-2 ≤ (xs 2).toInt ∧ (xs 2).toInt ≤ 2) by omega) with h2 | h2 | h2
      · have h2 := h2
        exact zo_24_3 xs h0 h1 h3 h2
      · have h2 := h2
        exact zo_24_4 xs h0 h1 h3 h2
      · have h2 := h2
        exact zo_24_5 xs h0 h1 h3 h2
    · have h3 : xs 3 = 0 := Int32.toInt_inj.mp h3
      rcases (show (xs 2).toInt < -2 ∨ 2 < (xs 2).toInt ∨ (xs 2).toInt = -2 ∨ (xs 2).toInt = -1 ∨ (xs 2).toInt = 0 ∨ (xs 2).toInt = 1 ∨ (xs 2).toInt = 2 by omega) with h2 | h2 | h2 | h2 | h2 | h2 | h2
      · have h2 := h2
        exact zo_24_12 xs h0 h1 h3 h2
      · have h2 := h2
        exact zo_24_13 xs h0 h1 h3 h2
      · have h2 : xs 2 = (-2) := Int32.toInt_inj.mp h2
        exact zo_24_14 xs h0 h1 h3 h2
      · have h2 : xs 2 = (-1) := Int32.toInt_inj.mp h2
        exact zo_24_15 xs h0 h1 h3 h2
      · have h2 : xs 2 = 0 := Int32.toInt_inj.mp h2
        exact zo_24_16 xs h0 h1 h3 h2
      · have h2 : xs 2 = 1 := Int32.toInt_inj.mp h2
        exact zo_24_17 xs h0 h1 h3 h2
      · have h2 : xs 2 = 2 := Int32.toInt_inj.mp h2
        exact zo_24_18 xs h0 h1 h3 h2
    · have h3 : xs 3 = 1 := Int32.toInt_inj.mp h3
      rcases (show (xs 2).toInt < -2 ∨ 2 < (xs 2).toInt ∨ (xs 2).toInt = -2 ∨ (xs 2).toInt = -1 ∨ (xs 2).toInt = 0 ∨ (xs 2).toInt = 1 ∨ (xs 2).toInt = 2 by omega) with h2 | h2 | h2 | h2 | h2 | h2 | h2
      · have h2 := h2
        exact zo_24_19 xs h0 h1 h3 h2
      · have h2 := h2
        exact zo_24_20 xs h0 h1 h3 h2
      · have h2 : xs 2 = (-2) := Int32.toInt_inj.mp h2
        exact zo_24_21 xs h0 h1 h3 h2
      · have h2 : xs 2 = (-1) := Int32.toInt_inj.mp h2
        exact zo_24_22 xs h0 h1 h3 h2
      · have h2 : xs 2 = 0 := Int32.toInt_inj.mp h2
        exact zo_24_23 xs h0 h1 h3 h2
      · have h2 : xs 2 = 1 := Int32.toInt_inj.mp h2
        exact zo_24_24 xs h0 h1 h3 h2
      · have h2 : xs 2 = 2 := Int32.toInt_inj.mp h2
        exact zo_24_25 xs h0 h1 h3 h2
    · have h3 : xs 3 = 2 := Int32.toInt_inj.mp h3
      rcases (show (xs 2).toInt < -2 ∨ 2 < (xs 2).toInt ∨ (xs 2).toInt = -2 ∨ (xs 2).toInt = -1 ∨ (xs 2).toInt = 0 ∨ (xs 2).toInt = 1 ∨ (xs 2).toInt = 2 by omega) with h2 | h2 | h2 | h2 | h2 | h2 | h2
      · have h2 := h2
        exact zo_24_26 xs h0 h1 h3 h2
      · have h2 := h2
        exact zo_24_27 xs h0 h1 h3 h2
      · have h2 : xs 2 = (-2) := Int32.toInt_inj.mp h2
        exact zo_24_28 xs h0 h1 h3 h2
      · have h2 : xs 2 = (-1) := Int32.toInt_inj.mp h2
        exact zo_24_29 xs h0 h1 h3 h2
      · have h2 : xs 2 = 0 := Int32.toInt_inj.mp h2
        exact zo_24_30 xs h0 h1 h3 h2
      · have h2 : xs 2 = 1 := Int32.toInt_inj.mp h2
        exact zo_24_31 xs h0 h1 h3 h2
      · have h2 : xs 2 = 2 := Int32.toInt_inj.mp h2
        exact zo_24_32 xs h0 h1 h3 h2
    · have h3 : xs 3 = 3 := Int32.toInt_inj.mp h3
      rcases (show (xs 2).toInt < -2 ∨ 2 < (xs 2).toInt ∨ (xs 2).toInt = -2 ∨ (xs 2).toInt = -1 ∨ (xs 2).toInt = 0 ∨ (xs 2).toInt = 1 ∨ (xs 2).toInt = 2 by omega) with h2 | h2 | h2 | h2 | h2 | h2 | h2
      · have h2 := h2
        exact zo_24_33 xs h0 h1 h3 h2
      · have h2 := h2
        exact zo_24_34 xs h0 h1 h3 h2
      · have h2 : xs 2 = (-2) := Int32.toInt_inj.mp h2
        exact zo_24_35 xs h0 h1 h3 h2
      · have h2 : xs 2 = (-1) := Int32.toInt_inj.mp h2
        exact zo_24_36 xs h0 h1 h3 h2
      · have h2 : xs 2 = 0 := Int32.toInt_inj.mp h2
        exact zo_24_37 xs h0 h1 h3 h2
      · have h2 : xs 2 = 1 := Int32.toInt_inj.mp h2
        exact zo_24_38 xs h0 h1 h3 h2
      · have h2 : xs 2 = 2 := Int32.toInt_inj.mp h2
        exact zo_24_39 xs h0 h1 h3 h2
    · have h3 : xs 3 = 4 := Int32.toInt_inj.mp h3
      rcases (show (xs 2).toInt < -2 ∨ 2 < (xs 2).toInt ∨ (xs 2).toInt = -2 ∨ (xs 2).toInt = -1 ∨ (xs 2).toInt = 0 ∨ (xs 2).toInt = 1 ∨ (xs 2).toInt = 2 by omega) with h2 | h2 | h2 | h2 | h2 | h2 | h2
      · have h2 := h2
        exact zo_24_40 xs h0 h1 h3 h2
      · have h2 := h2
        exact zo_24_41 xs h0 h1 h3 h2
      · have h2 : xs 2 = (-2) := Int32.toInt_inj.mp h2
        exact zo_24_42 xs h0 h1 h3 h2
      · have h2 : xs 2 = (-1) := Int32.toInt_inj.mp h2
        exact zo_24_43 xs h0 h1 h3 h2
      · have h2 : xs 2 = 0 := Int32.toInt_inj.mp h2
        exact zo_24_44 xs h0 h1 h3 h2
      · have h2 : xs 2 = 1 := Int32.toInt_inj.mp h2
        exact zo_24_45 xs h0 h1 h3 h2
      · have h2 : xs 2 = 2 := Int32.toInt_inj.mp h2
        exact zo_24_46 xs h0 h1 h3 h2
    · have h3 : xs 3 = 5 := Int32.toInt_inj.mp h3
      rcases (show (xs 2).toInt < -2 ∨ 2 < (xs 2).toInt ∨ (xs 2).toInt = -2 ∨ (xs 2).toInt = -1 ∨ (xs 2).toInt = 0 ∨ (xs 2).toInt = 1 ∨ (xs 2).toInt = 2 by omega) with h2 | h2 | h2 | h2 | h2 | h2 | h2
      · have h2 := h2
        exact zo_24_47 xs h0 h1 h3 h2
      · have h2 := h2
        exact zo_24_48 xs h0 h1 h3 h2
      · have h2 : xs 2 = (-2) := Int32.toInt_inj.mp h2
        exact zo_24_49 xs h0 h1 h3 h2
      · have h2 : xs 2 = (-1) := Int32.toInt_inj.mp h2
        exact zo_24_50 xs h0 h1 h3 h2
      · have h2 : xs 2 = 0 := Int32.toInt_inj.mp h2
        exact zo_24_51 xs h0 h1 h3 h2
      · have h2 : xs 2 = 1 := Int32.toInt_inj.mp h2
        exact zo_24_52 xs h0 h1 h3 h2
      · have h2 : xs 2 = 2 := Int32.toInt_inj.mp h2
        exact zo_24_53 xs h0 h1 h3 h2
  · have h1 := h1
    rcases (show (xs 3).toInt < 0 ∨ 5 < (xs 3).toInt ∨ (xs 3).toInt = 0 ∨ (xs 3).toInt = 1 ∨ (xs 3).toInt = 2 ∨ (xs 3).toInt = 3 ∨ (xs 3).toInt = 4 ∨ (xs 3).toInt = 5 by omega) with h3 | h3 | h3 | h3 | h3 | h3 | h3 | h3
    · have h3 := h3
      rcases (show (xs 2).toInt < -2 ∨ 2 < (xs 2).toInt ∨ (-2 ≤ (xs 2).toInt ∧ (xs 2).toInt ≤ 2) by omega) with h2 | h2 | h2
      · have h2 := h2
        exact zo_24_6 xs h0 h1 h3 h2
      · have h2 := h2
        exact zo_24_7 xs h0 h1 h3 h2
      · have h2 := h2
        exact zo_24_8 xs h0 h1 h3 h2
    · have h3 := h3
      rcases (show (xs 2).toInt < -2 ∨ 2 < (xs 2).toInt ∨ (-2 ≤ (xs 2).toInt ∧ (xs 2).toInt ≤ 2) by omega) with h2 | h2 | h2
      · have h2 := h2
        exact zo_24_9 xs h0 h1 h3 h2
      · have h2 := h2
        exact zo_24_10 xs h0 h1 h3 h2
      · have h2 := h2
        exact zo_24_11 xs h0 h1 h3 h2
    · have h3 : xs 3 = 0 := Int32.toInt_inj.mp h3
      rcases (show (xs 2).toInt < -2 ∨ 2 < (xs 2).toInt ∨ (xs 2).toInt = -2 ∨ (xs 2).toInt = -1 ∨ (xs 2).toInt = 0 ∨ (xs 2).toInt = 1 ∨ (xs 2).toInt = 2 by omega) with h2 | h2 | h2 | h2 | h2 | h2 | h2
      · have h2 := h2
        exact zo_24_54 xs h0 h1 h3 h2
      · have h2 := h2
        exact zo_24_55 xs h0 h1 h3 h2
      · have h2 : xs 2 = (-2) := Int32.toInt_inj.mp h2
        exact zo_24_56 xs h0 h1 h3 h2
      · have h2 : xs 2 = (-1) := Int32.toInt_inj.mp h2
        exact zo_24_57 xs h0 h1 h3 h2
      · have h2 : xs 2 = 0 := Int32.toInt_inj.mp h2
        exact zo_24_58 xs h0 h1 h3 h2
      · have h2 : xs 2 = 1 := Int32.toInt_inj.mp h2
        exact zo_24_59 xs h0 h1 h3 h2
      · have h2 : xs 2 = 2 := Int32.toInt_inj.mp h2
        exact zo_24_60 xs h0 h1 h3 h2
    · have h3 : xs 3 = 1 := Int32.toInt_inj.mp h3
      rcases (show (xs 2).toInt < -2 ∨ 2 < (xs 2).toInt ∨ (xs 2).toInt = -2 ∨ (xs 2).toInt = -1 ∨ (xs 2).toInt = 0 ∨ (xs 2).toInt = 1 ∨ (xs 2).toInt = 2 by omega) with h2 | h2 | h2 | h2 | h2 | h2 | h2
      · have h2 := h2
        exact zo_24_61 xs h0 h1 h3 h2
      · have h2 := h2
        exact zo_24_62 xs h0 h1 h3 h2
      · have h2 : xs 2 = (-2) := Int32.toInt_inj.mp h2
        exact zo_24_63 xs h0 h1 h3 h2
      · have h2 : xs 2 = (-1) := Int32.toInt_inj.mp h2
        exact zo_24_64 xs h0 h1 h3 h2
      · have h2 : xs 2 = 0 := Int32.toInt_inj.mp h2
        exact zo_24_65 xs h0 h1 h3 h2
      · have h2 : xs 2 = 1 := Int32.toInt_inj.mp h2
        exact zo_24_66 xs h0 h1 h3 h2
      · have h2 : xs 2 = 2 := Int32.toInt_inj.mp h2
        exact zo_24_67 xs h0 h1 h3 h2
    · have h3 : xs 3 = 2 := Int32.toInt_inj.mp h3
      rcases (show (xs 2).toInt < -2 ∨ 2 < (xs 2).toInt ∨ (xs 2).toInt = -2 ∨ (xs 2).toInt = -1 ∨ (xs 2).toInt = 0 ∨ (xs 2).toInt = 1 ∨ (xs 2).toInt = 2 by omega) with h2 | h2 | h2 | h2 | h2 | h2 | h2
      · have h2 := h2
        exact zo_24_68 xs h0 h1 h3 h2
      · have h2 := h2
        exact zo_24_69 xs h0 h1 h3 h2
      · have h2 : xs 2 = (-2) := Int32.toInt_inj.mp h2
        exact zo_24_70 xs h0 h1 h3 h2
      · have h2 : xs 2 = (-1) := Int32.toInt_inj.mp h2
        exact zo_24_71 xs h0 h1 h3 h2
      · have h2 : xs 2 = 0 := Int32.toInt_inj.mp h2
        exact zo_24_72 xs h0 h1 h3 h2
      · have h2 : xs 2 = 1 := Int32.toInt_inj.mp h2
        exact zo_24_73 xs h0 h1 h3 h2
      · have h2 : xs 2 = 2 := Int32.toInt_inj.mp h2
        exact zo_24_74 xs h0 h1 h3 h2
    · have h3 : xs 3 = 3 := Int32.toInt_inj.mp h3
      rcases (show (xs 2).toInt < -2 ∨ 2 < (xs 2).toInt ∨ (xs 2).toInt = -2 ∨ (xs 2).toInt = -1 ∨ (xs 2).toInt = 0 ∨ (xs 2).toInt = 1 ∨ (xs 2).toInt = 2 by omega) with h2 | h2 | h2 | h2 | h2 | h2 | h2
      · have h2 := h2
        exact zo_24_75 xs h0 h1 h3 h2
      · have h2 := h2
        exact zo_24_76 xs h0 h1 h3 h2
      · have h2 : xs 2 = (-2) := Int32.toInt_inj.mp h2
        exact zo_24_77 xs h0 h1 h3 h2
      · have h2 : xs 2 = (-1) := Int32.toInt_inj.mp h2
        exact zo_24_78 xs h0 h1 h3 h2
      · have h2 : xs 2 = 0 := Int32.toInt_inj.mp h2
        exact zo_24_79 xs h0 h1 h3 h2
      · have h2 : xs 2 = 1 := Int32.toInt_inj.mp h2
        exact zo_24_80 xs h0 h1 h3 h2
      · have h2 : xs 2 = 2 := Int32.toInt_inj.mp h2
        exact zo_24_81 xs h0 h1 h3 h2
    · have h3 : xs 3 = 4 := Int32.toInt_inj.mp h3
      rcases (show (xs 2).toInt < -2 ∨ 2 < (xs 2).toInt ∨ (xs 2).toInt = -2 ∨ (xs 2).toInt = -1 ∨ (xs 2).toInt = 0 ∨ (xs 2).toInt = 1 ∨ (xs 2).toInt = 2 by omega) with h2 | h2 | h2 | h2 | h2 | h2 | h2
      · have h2 := h2
        exact zo_24_82 xs h0 h1 h3 h2
      · have h2 := h2
        exact zo_24_83 xs h0 h1 h3 h2
      · have h2 : xs 2 = (-2) := Int32.toInt_inj.mp h2
        exact zo_24_84 xs h0 h1 h3 h2
      · have h2 : xs 2 = (-1) := Int32.toInt_inj.mp h2
        exact zo_24_85 xs h0 h1 h3 h2
      · have h2 : xs 2 = 0 := Int32.toInt_inj.mp h2
        exact zo_24_86 xs h0 h1 h3 h2
      · have h2 : xs 2 = 1 := Int32.toInt_inj.mp h2
        exact zo_24_87 xs h0 h1 h3 h2
      · have h2 : xs 2 = 2 := Int32.toInt_inj.mp h2
        exact zo_24_88 xs h0 h1 h3 h2
    · have h3 : xs 3 = 5 := Int32.toInt_inj.mp h3
      rcases (show (xs 2).toInt < -2 ∨ 2 < (xs 2).toInt ∨ (xs 2).toInt = -2 ∨ (xs 2).toInt = -1 ∨ (xs 2).toInt = 0 ∨ (xs 2).toInt = 1 ∨ (xs 2).toInt = 2 by omega) with h2 | h2 | h2 | h2 | h2 | h2 | h2
      · have h2 := h2
        exact zo_24_89 xs h0 h1 h3 h2
      · have h2 := h2
        exact zo_24_90 xs h0 h1 h3 h2
      · have h2 : xs 2 = (-2) := Int32.toInt_inj.mp h2
        exact zo_24_91 xs h0 h1 h3 h2
      · have h2 : xs 2 = (-1) := Int32.toInt_inj.mp h2
        exact zo_24_92 xs h0 h1 h3 h2
      · have h2 : xs 2 = 0 := Int32.toInt_inj.mp h2
        exact zo_24_93 xs h0 h1 h3 h2
      · have h2 : xs 2 = 1 := Int32.toInt_inj.mp h2
        exact zo_24_94 xs h0 h1 h3 h2
      · have h2 : xs 2 = 2 := Int32.toInt_inj.mp h2
        exact zo_24_95 xs h0 h1 h3 h2
