/-! Ops of the law at the first state: printed by a program (wip/gen/ops_all.py). -/
set_option maxRecDepth 1000000 in
theorem zk_o_115 : zT zg0 zF zP 250 0 [(0, .ref 162), (1, .int 0)] [] zH0 0 0 (some (.int 0), ((((zH0.set 106 (.inl (2, 2, [1, 0]))).set 105 (.inl (0, 2, [0]))).set 107 (.inl (0, 132, [0, 0, 0, 0, 0, 0]))).set 109 (.inl (0, 22, [0]))), 0, 0) := zclosed (n := 181) (by decide +kernel)
set_option maxRecDepth 1000000 in
set_option maxHeartbeats 4000000 in
theorem zo_23_0 (xs : Nat → Int32) (h0 : xs 0 &&& 63 = 23) (h1 : xs 1 = 0) (h3 : (xs 3).toInt < 0) (h2 : (xs 2).toInt < 0) : zDone xs := by
  refine ⟨((((zH0.set 106 (.inl (2, 2, [1, 0]))).set 105 (.inl (0, 2, [0]))).set 107 (.inl (0, 132, [0, 0, 0, 0, 0, 0]))).set 109 (.inl (0, 22, [0]))), 117, 29934, ?_, by decide, by decide⟩
  refine zT_gos (f := 200000) (pc2 := 37) (ls2 := [(4, .int 0), (3, .ref 232), (2, .ref 162), (1, .ref 0), (0, .ref 11)]) (st2 := [.int (xs 0)]) (h2 := zH0) (dc2 := 117) (ds2 := 29934) 9 rfl ?_
  refine zT_gos (f := 200000) (pc2 := 40) (ls2 := [(4, .int 0), (3, .ref 232), (2, .ref 162), (1, .ref 0), (0, .ref 11)]) (st2 := [.int ((xs 0) &&& (63 : Int32))]) (h2 := zH0) (dc2 := 117) (ds2 := 29934) 2 rfl ?_
  refine zT_val h0 ?_
  refine zT_gos (f := 200000) (pc2 := 1039) (ls2 := [(4, .int 0), (3, .ref 232), (2, .ref 162), (1, .ref 0), (0, .ref 11)]) (st2 := [.int (xs 1), .ref 0]) (h2 := zH0) (dc2 := 117) (ds2 := 29934) 7 rfl ?_
  refine zT_val h1 ?_
  refine zT_gos (f := 200000) (pc2 := 1053) (ls2 := [(4, .int 0), (3, .ref 232), (2, .ref 162), (1, .ref 0), (0, .ref 11)]) (st2 := [.int (xs 2), .int 0, .ref 0]) (h2 := zH0) (dc2 := 117) (ds2 := 29934) 7 rfl ?_
  refine zT_gos (f := 200000) (pc2 := 1059) (ls2 := [(4, .int 0), (3, .ref 232), (2, .ref 162), (1, .ref 0), (0, .ref 11)]) (st2 := [.int (xs 3), .int (xs 2), .int 0, .ref 0]) (h2 := zH0) (dc2 := 117) (ds2 := 29934) 5 rfl ?_
  refine zT_call (v := some (.int (-99))) (h2 := zH0) (d1 := 0) (s1 := 0) rfl rfl ?_ ?_
  · refine zT_gos (f := 200000) (pc2 := 1) (ls2 := [(0, .ref 0), (1, .int 0), (2, .int (xs 2)), (3, .int (xs 3))]) (st2 := [.int (xs 3)]) (h2 := zH0) (dc2 := 0) (ds2 := 0) 1 rfl ?_
    refine zT_call (v := some (.int 1)) (h2 := zH0) (d1 := 0) (s1 := 0) rfl rfl ?_ ?_
    · refine zT_gos (f := 200000) (pc2 := 1) (ls2 := [(0, .int (xs 3))]) (st2 := [.int (xs 3)]) (h2 := zH0) (dc2 := 0) (ds2 := 0) 1 rfl ?_
      refine zT_if0 true rfl (zc_lt_t (by show ((xs 3) : Int32).toInt < 0; omega)) ?_
      refine zT_here (pc2 := 10) rfl ?_
      refine zT_gos (f := 200000) (pc2 := 15) (ls2 := [(0, .int (xs 3))]) (st2 := [.int 1]) (h2 := zH0) (dc2 := 0) (ds2 := 0) 2 rfl ?_
      exact zT_ret rfl rfl
    refine zT_here (pc2 := 4) rfl ?_
    refine zT_gos (f := 200000) (pc2 := 9) (ls2 := [(0, .ref 0), (1, .int 0), (2, .int (xs 2)), (3, .int (xs 3))]) (st2 := [.int (-99)]) (h2 := zH0) (dc2 := 0) (ds2 := 0) 2 rfl ?_
    exact zT_ret rfl rfl
  refine zT_here (pc2 := 1062) rfl ?_
  refine zT_gos (f := 200000) (pc2 := 1069) (ls2 := [(4, .int 0), (3, .ref 232), (2, .ref 162), (1, .ref 0), (0, .ref 11)]) (st2 := [.int (xs 1), .ref 162, .int (-99)]) (h2 := zH0) (dc2 := 117) (ds2 := 29934) 6 rfl ?_
  refine zT_val h1 ?_
  refine zT_gos (f := 200000) (pc2 := 1083) (ls2 := [(4, .int 0), (3, .ref 232), (2, .ref 162), (1, .ref 0), (0, .ref 11)]) (st2 := [.int (xs 2), .int 0, .ref 162, .int (-99)]) (h2 := zH0) (dc2 := 117) (ds2 := 29934) 7 rfl ?_
  refine zT_gos (f := 200000) (pc2 := 1089) (ls2 := [(4, .int 0), (3, .ref 232), (2, .ref 162), (1, .ref 0), (0, .ref 11)]) (st2 := [.int (xs 3), .int (xs 2), .int 0, .ref 162, .int (-99)]) (h2 := zH0) (dc2 := 117) (ds2 := 29934) 5 rfl ?_
  refine zT_call (v := some (.int (-99))) (h2 := ((((zH0.set 106 (.inl (2, 2, [1, 0]))).set 105 (.inl (0, 2, [0]))).set 107 (.inl (0, 132, [0, 0, 0, 0, 0, 0]))).set 109 (.inl (0, 22, [0])))) (d1 := 0) (s1 := 0) rfl rfl ?_ ?_
  · refine zT_gos (f := 200000) (pc2 := 7) (ls2 := [(0, .ref 162), (1, .int 0), (2, .int (xs 2)), (3, .int (xs 3))]) (st2 := [.int 0, .ref 162]) (h2 := zH0) (dc2 := 0) (ds2 := 0) 5 rfl ?_
    refine zT_call rfl rfl (zT_le (zg0_le 6 xs) zk_o_115) ?_
    refine zT_here (pc2 := 10) rfl ?_
    refine zT_gos (f := 200000) (pc2 := 18) (ls2 := [(4, .int 0), (0, .ref 162), (1, .int 0), (2, .int (xs 2)), (3, .int (xs 3))]) (st2 := [.int (xs 2)]) (h2 := ((((zH0.set 106 (.inl (2, 2, [1, 0]))).set 105 (.inl (0, 2, [0]))).set 107 (.inl (0, 132, [0, 0, 0, 0, 0, 0]))).set 109 (.inl (0, 22, [0])))) (dc2 := 0) (ds2 := 0) 4 rfl ?_
    refine zT_if0 true rfl (zc_lt_t (by show ((xs 2) : Int32).toInt < 0; omega)) ?_
    refine zT_here (pc2 := 34) rfl ?_
    refine zT_gos (f := 200000) (pc2 := 54) (ls2 := [(4, .int 0), (0, .ref 162), (1, .int 0), (2, .int (xs 2)), (3, .int (xs 3))]) (st2 := [.int (-99)]) (h2 := ((((zH0.set 106 (.inl (2, 2, [1, 0]))).set 105 (.inl (0, 2, [0]))).set 107 (.inl (0, 132, [0, 0, 0, 0, 0, 0]))).set 109 (.inl (0, 22, [0])))) (dc2 := 0) (ds2 := 0) 2 rfl ?_
    exact zT_ret rfl rfl
  refine zT_here (pc2 := 1092) rfl ?_
  refine zT_gos (f := 200000) (pc2 := 1811) (ls2 := [(4, .int 6), (3, .ref 232), (2, .ref 162), (1, .ref 0), (0, .ref 11)]) (st2 := [.int 1]) (h2 := ((((zH0.set 106 (.inl (2, 2, [1, 0]))).set 105 (.inl (0, 2, [0]))).set 107 (.inl (0, 132, [0, 0, 0, 0, 0, 0]))).set 109 (.inl (0, 22, [0])))) (dc2 := 117) (ds2 := 29934) 10 rfl ?_
  exact zT_ret rfl rfl
set_option maxRecDepth 1000000 in
set_option maxHeartbeats 4000000 in
theorem zo_23_1 (xs : Nat → Int32) (h0 : xs 0 &&& 63 = 23) (h1 : xs 1 = 0) (h3 : (xs 3).toInt < 0) (h2 : 0 < (xs 2).toInt) : zDone xs := by
  refine ⟨((((zH0.set 106 (.inl (2, 2, [1, 0]))).set 105 (.inl (0, 2, [0]))).set 107 (.inl (0, 132, [0, 0, 0, 0, 0, 0]))).set 109 (.inl (0, 22, [0]))), 117, 29934, ?_, by decide, by decide⟩
  refine zT_gos (f := 200000) (pc2 := 37) (ls2 := [(4, .int 0), (3, .ref 232), (2, .ref 162), (1, .ref 0), (0, .ref 11)]) (st2 := [.int (xs 0)]) (h2 := zH0) (dc2 := 117) (ds2 := 29934) 9 rfl ?_
  refine zT_gos (f := 200000) (pc2 := 40) (ls2 := [(4, .int 0), (3, .ref 232), (2, .ref 162), (1, .ref 0), (0, .ref 11)]) (st2 := [.int ((xs 0) &&& (63 : Int32))]) (h2 := zH0) (dc2 := 117) (ds2 := 29934) 2 rfl ?_
  refine zT_val h0 ?_
  refine zT_gos (f := 200000) (pc2 := 1039) (ls2 := [(4, .int 0), (3, .ref 232), (2, .ref 162), (1, .ref 0), (0, .ref 11)]) (st2 := [.int (xs 1), .ref 0]) (h2 := zH0) (dc2 := 117) (ds2 := 29934) 7 rfl ?_
  refine zT_val h1 ?_
  refine zT_gos (f := 200000) (pc2 := 1053) (ls2 := [(4, .int 0), (3, .ref 232), (2, .ref 162), (1, .ref 0), (0, .ref 11)]) (st2 := [.int (xs 2), .int 0, .ref 0]) (h2 := zH0) (dc2 := 117) (ds2 := 29934) 7 rfl ?_
  refine zT_gos (f := 200000) (pc2 := 1059) (ls2 := [(4, .int 0), (3, .ref 232), (2, .ref 162), (1, .ref 0), (0, .ref 11)]) (st2 := [.int (xs 3), .int (xs 2), .int 0, .ref 0]) (h2 := zH0) (dc2 := 117) (ds2 := 29934) 5 rfl ?_
  refine zT_call (v := some (.int (-99))) (h2 := zH0) (d1 := 0) (s1 := 0) rfl rfl ?_ ?_
  · refine zT_gos (f := 200000) (pc2 := 1) (ls2 := [(0, .ref 0), (1, .int 0), (2, .int (xs 2)), (3, .int (xs 3))]) (st2 := [.int (xs 3)]) (h2 := zH0) (dc2 := 0) (ds2 := 0) 1 rfl ?_
    refine zT_call (v := some (.int 1)) (h2 := zH0) (d1 := 0) (s1 := 0) rfl rfl ?_ ?_
    · refine zT_gos (f := 200000) (pc2 := 1) (ls2 := [(0, .int (xs 3))]) (st2 := [.int (xs 3)]) (h2 := zH0) (dc2 := 0) (ds2 := 0) 1 rfl ?_
      refine zT_if0 true rfl (zc_lt_t (by show ((xs 3) : Int32).toInt < 0; omega)) ?_
      refine zT_here (pc2 := 10) rfl ?_
      refine zT_gos (f := 200000) (pc2 := 15) (ls2 := [(0, .int (xs 3))]) (st2 := [.int 1]) (h2 := zH0) (dc2 := 0) (ds2 := 0) 2 rfl ?_
      exact zT_ret rfl rfl
    refine zT_here (pc2 := 4) rfl ?_
    refine zT_gos (f := 200000) (pc2 := 9) (ls2 := [(0, .ref 0), (1, .int 0), (2, .int (xs 2)), (3, .int (xs 3))]) (st2 := [.int (-99)]) (h2 := zH0) (dc2 := 0) (ds2 := 0) 2 rfl ?_
    exact zT_ret rfl rfl
  refine zT_here (pc2 := 1062) rfl ?_
  refine zT_gos (f := 200000) (pc2 := 1069) (ls2 := [(4, .int 0), (3, .ref 232), (2, .ref 162), (1, .ref 0), (0, .ref 11)]) (st2 := [.int (xs 1), .ref 162, .int (-99)]) (h2 := zH0) (dc2 := 117) (ds2 := 29934) 6 rfl ?_
  refine zT_val h1 ?_
  refine zT_gos (f := 200000) (pc2 := 1083) (ls2 := [(4, .int 0), (3, .ref 232), (2, .ref 162), (1, .ref 0), (0, .ref 11)]) (st2 := [.int (xs 2), .int 0, .ref 162, .int (-99)]) (h2 := zH0) (dc2 := 117) (ds2 := 29934) 7 rfl ?_
  refine zT_gos (f := 200000) (pc2 := 1089) (ls2 := [(4, .int 0), (3, .ref 232), (2, .ref 162), (1, .ref 0), (0, .ref 11)]) (st2 := [.int (xs 3), .int (xs 2), .int 0, .ref 162, .int (-99)]) (h2 := zH0) (dc2 := 117) (ds2 := 29934) 5 rfl ?_
  refine zT_call (v := some (.int (-99))) (h2 := ((((zH0.set 106 (.inl (2, 2, [1, 0]))).set 105 (.inl (0, 2, [0]))).set 107 (.inl (0, 132, [0, 0, 0, 0, 0, 0]))).set 109 (.inl (0, 22, [0])))) (d1 := 0) (s1 := 0) rfl rfl ?_ ?_
  · refine zT_gos (f := 200000) (pc2 := 7) (ls2 := [(0, .ref 162), (1, .int 0), (2, .int (xs 2)), (3, .int (xs 3))]) (st2 := [.int 0, .ref 162]) (h2 := zH0) (dc2 := 0) (ds2 := 0) 5 rfl ?_
    refine zT_call rfl rfl (zT_le (zg0_le 6 xs) zk_o_115) ?_
    refine zT_here (pc2 := 10) rfl ?_
    refine zT_gos (f := 200000) (pc2 := 18) (ls2 := [(4, .int 0), (0, .ref 162), (1, .int 0), (2, .int (xs 2)), (3, .int (xs 3))]) (st2 := [.int (xs 2)]) (h2 := ((((zH0.set 106 (.inl (2, 2, [1, 0]))).set 105 (.inl (0, 2, [0]))).set 107 (.inl (0, 132, [0, 0, 0, 0, 0, 0]))).set 109 (.inl (0, 22, [0])))) (dc2 := 0) (ds2 := 0) 4 rfl ?_
    refine zT_if0 false rfl (zc_lt_f (by show ((xs 2) : Int32).toInt ≥ 0; omega)) ?_
    refine zT_here (pc2 := 21) rfl ?_
    refine zT_gos (f := 200000) (pc2 := 24) (ls2 := [(4, .int 0), (0, .ref 162), (1, .int 0), (2, .int (xs 2)), (3, .int (xs 3))]) (st2 := [.int 0, .int (xs 2)]) (h2 := ((((zH0.set 106 (.inl (2, 2, [1, 0]))).set 105 (.inl (0, 2, [0]))).set 107 (.inl (0, 132, [0, 0, 0, 0, 0, 0]))).set 109 (.inl (0, 22, [0])))) (dc2 := 0) (ds2 := 0) 2 rfl ?_
    refine zT_if2 true rfl (zc_gt_t (by show ((xs 2) : Int32).toInt > 0; omega)) ?_
    refine zT_here (pc2 := 34) rfl ?_
    refine zT_gos (f := 200000) (pc2 := 54) (ls2 := [(4, .int 0), (0, .ref 162), (1, .int 0), (2, .int (xs 2)), (3, .int (xs 3))]) (st2 := [.int (-99)]) (h2 := ((((zH0.set 106 (.inl (2, 2, [1, 0]))).set 105 (.inl (0, 2, [0]))).set 107 (.inl (0, 132, [0, 0, 0, 0, 0, 0]))).set 109 (.inl (0, 22, [0])))) (dc2 := 0) (ds2 := 0) 2 rfl ?_
    exact zT_ret rfl rfl
  refine zT_here (pc2 := 1092) rfl ?_
  refine zT_gos (f := 200000) (pc2 := 1811) (ls2 := [(4, .int 6), (3, .ref 232), (2, .ref 162), (1, .ref 0), (0, .ref 11)]) (st2 := [.int 1]) (h2 := ((((zH0.set 106 (.inl (2, 2, [1, 0]))).set 105 (.inl (0, 2, [0]))).set 107 (.inl (0, 132, [0, 0, 0, 0, 0, 0]))).set 109 (.inl (0, 22, [0])))) (dc2 := 117) (ds2 := 29934) 10 rfl ?_
  exact zT_ret rfl rfl
set_option maxRecDepth 1000000 in
set_option maxHeartbeats 4000000 in
theorem zo_23_2 (xs : Nat → Int32) (h0 : xs 0 &&& 63 = 23) (h1 : xs 1 = 0) (h3 : (xs 3).toInt < 0) (h2 : xs 2 = 0) : zDone xs := by
  refine ⟨((((zH0.set 106 (.inl (2, 2, [1, 0]))).set 105 (.inl (0, 2, [0]))).set 107 (.inl (0, 132, [0, 0, 0, 0, 0, 0]))).set 109 (.inl (0, 22, [0]))), 117, 29934, ?_, by decide, by decide⟩
  refine zT_gos (f := 200000) (pc2 := 37) (ls2 := [(4, .int 0), (3, .ref 232), (2, .ref 162), (1, .ref 0), (0, .ref 11)]) (st2 := [.int (xs 0)]) (h2 := zH0) (dc2 := 117) (ds2 := 29934) 9 rfl ?_
  refine zT_gos (f := 200000) (pc2 := 40) (ls2 := [(4, .int 0), (3, .ref 232), (2, .ref 162), (1, .ref 0), (0, .ref 11)]) (st2 := [.int ((xs 0) &&& (63 : Int32))]) (h2 := zH0) (dc2 := 117) (ds2 := 29934) 2 rfl ?_
  refine zT_val h0 ?_
  refine zT_gos (f := 200000) (pc2 := 1039) (ls2 := [(4, .int 0), (3, .ref 232), (2, .ref 162), (1, .ref 0), (0, .ref 11)]) (st2 := [.int (xs 1), .ref 0]) (h2 := zH0) (dc2 := 117) (ds2 := 29934) 7 rfl ?_
  refine zT_val h1 ?_
  refine zT_gos (f := 200000) (pc2 := 1053) (ls2 := [(4, .int 0), (3, .ref 232), (2, .ref 162), (1, .ref 0), (0, .ref 11)]) (st2 := [.int (xs 2), .int 0, .ref 0]) (h2 := zH0) (dc2 := 117) (ds2 := 29934) 7 rfl ?_
  refine zT_val h2 ?_
  refine zT_gos (f := 200000) (pc2 := 1059) (ls2 := [(4, .int 0), (3, .ref 232), (2, .ref 162), (1, .ref 0), (0, .ref 11)]) (st2 := [.int (xs 3), .int 0, .int 0, .ref 0]) (h2 := zH0) (dc2 := 117) (ds2 := 29934) 5 rfl ?_
  refine zT_call (v := some (.int (-99))) (h2 := zH0) (d1 := 0) (s1 := 0) rfl rfl ?_ ?_
  · refine zT_gos (f := 200000) (pc2 := 1) (ls2 := [(0, .ref 0), (1, .int 0), (2, .int 0), (3, .int (xs 3))]) (st2 := [.int (xs 3)]) (h2 := zH0) (dc2 := 0) (ds2 := 0) 1 rfl ?_
    refine zT_call (v := some (.int 1)) (h2 := zH0) (d1 := 0) (s1 := 0) rfl rfl ?_ ?_
    · refine zT_gos (f := 200000) (pc2 := 1) (ls2 := [(0, .int (xs 3))]) (st2 := [.int (xs 3)]) (h2 := zH0) (dc2 := 0) (ds2 := 0) 1 rfl ?_
      refine zT_if0 true rfl (zc_lt_t (by show ((xs 3) : Int32).toInt < 0; omega)) ?_
      refine zT_here (pc2 := 10) rfl ?_
      refine zT_gos (f := 200000) (pc2 := 15) (ls2 := [(0, .int (xs 3))]) (st2 := [.int 1]) (h2 := zH0) (dc2 := 0) (ds2 := 0) 2 rfl ?_
      exact zT_ret rfl rfl
    refine zT_here (pc2 := 4) rfl ?_
    refine zT_gos (f := 200000) (pc2 := 9) (ls2 := [(0, .ref 0), (1, .int 0), (2, .int 0), (3, .int (xs 3))]) (st2 := [.int (-99)]) (h2 := zH0) (dc2 := 0) (ds2 := 0) 2 rfl ?_
    exact zT_ret rfl rfl
  refine zT_here (pc2 := 1062) rfl ?_
  refine zT_gos (f := 200000) (pc2 := 1069) (ls2 := [(4, .int 0), (3, .ref 232), (2, .ref 162), (1, .ref 0), (0, .ref 11)]) (st2 := [.int (xs 1), .ref 162, .int (-99)]) (h2 := zH0) (dc2 := 117) (ds2 := 29934) 6 rfl ?_
  refine zT_val h1 ?_
  refine zT_gos (f := 200000) (pc2 := 1083) (ls2 := [(4, .int 0), (3, .ref 232), (2, .ref 162), (1, .ref 0), (0, .ref 11)]) (st2 := [.int (xs 2), .int 0, .ref 162, .int (-99)]) (h2 := zH0) (dc2 := 117) (ds2 := 29934) 7 rfl ?_
  refine zT_val h2 ?_
  refine zT_gos (f := 200000) (pc2 := 1089) (ls2 := [(4, .int 0), (3, .ref 232), (2, .ref 162), (1, .ref 0), (0, .ref 11)]) (st2 := [.int (xs 3), .int 0, .int 0, .ref 162, .int (-99)]) (h2 := zH0) (dc2 := 117) (ds2 := 29934) 5 rfl ?_
  refine zT_call (v := some (.int (-99))) (h2 := ((((zH0.set 106 (.inl (2, 2, [1, 0]))).set 105 (.inl (0, 2, [0]))).set 107 (.inl (0, 132, [0, 0, 0, 0, 0, 0]))).set 109 (.inl (0, 22, [0])))) (d1 := 0) (s1 := 0) rfl rfl ?_ ?_
  · refine zT_gos (f := 200000) (pc2 := 7) (ls2 := [(0, .ref 162), (1, .int 0), (2, .int 0), (3, .int (xs 3))]) (st2 := [.int 0, .ref 162]) (h2 := zH0) (dc2 := 0) (ds2 := 0) 5 rfl ?_
    refine zT_call rfl rfl (zT_le (zg0_le 6 xs) zk_o_115) ?_
    refine zT_here (pc2 := 10) rfl ?_
    refine zT_gos (f := 200000) (pc2 := 28) (ls2 := [(4, .int 0), (0, .ref 162), (1, .int 0), (2, .int 0), (3, .int (xs 3))]) (st2 := [.int (xs 3)]) (h2 := ((((zH0.set 106 (.inl (2, 2, [1, 0]))).set 105 (.inl (0, 2, [0]))).set 107 (.inl (0, 132, [0, 0, 0, 0, 0, 0]))).set 109 (.inl (0, 22, [0])))) (dc2 := 0) (ds2 := 0) 9 rfl ?_
    refine zT_call (v := some (.int 0)) (h2 := ((((zH0.set 106 (.inl (2, 2, [1, 0]))).set 105 (.inl (0, 2, [0]))).set 107 (.inl (0, 132, [0, 0, 0, 0, 0, 0]))).set 109 (.inl (0, 22, [0])))) (d1 := 0) (s1 := 0) rfl rfl ?_ ?_
    · refine zT_gos (f := 200000) (pc2 := 1) (ls2 := [(0, .int (xs 3))]) (st2 := [.int (xs 3)]) (h2 := ((((zH0.set 106 (.inl (2, 2, [1, 0]))).set 105 (.inl (0, 2, [0]))).set 107 (.inl (0, 132, [0, 0, 0, 0, 0, 0]))).set 109 (.inl (0, 22, [0])))) (dc2 := 0) (ds2 := 0) 1 rfl ?_
      refine zT_if0 true rfl (zc_lt_t (by show ((xs 3) : Int32).toInt < 0; omega)) ?_
      refine zT_here (pc2 := 14) rfl ?_
      refine zT_gos (f := 200000) (pc2 := 15) (ls2 := [(0, .int (xs 3))]) (st2 := [.int 0]) (h2 := ((((zH0.set 106 (.inl (2, 2, [1, 0]))).set 105 (.inl (0, 2, [0]))).set 107 (.inl (0, 132, [0, 0, 0, 0, 0, 0]))).set 109 (.inl (0, 22, [0])))) (dc2 := 0) (ds2 := 0) 1 rfl ?_
      exact zT_ret rfl rfl
    refine zT_here (pc2 := 31) rfl ?_
    refine zT_gos (f := 200000) (pc2 := 54) (ls2 := [(4, .int 0), (0, .ref 162), (1, .int 0), (2, .int 0), (3, .int (xs 3))]) (st2 := [.int (-99)]) (h2 := ((((zH0.set 106 (.inl (2, 2, [1, 0]))).set 105 (.inl (0, 2, [0]))).set 107 (.inl (0, 132, [0, 0, 0, 0, 0, 0]))).set 109 (.inl (0, 22, [0])))) (dc2 := 0) (ds2 := 0) 3 rfl ?_
    exact zT_ret rfl rfl
  refine zT_here (pc2 := 1092) rfl ?_
  refine zT_gos (f := 200000) (pc2 := 1811) (ls2 := [(4, .int 6), (3, .ref 232), (2, .ref 162), (1, .ref 0), (0, .ref 11)]) (st2 := [.int 1]) (h2 := ((((zH0.set 106 (.inl (2, 2, [1, 0]))).set 105 (.inl (0, 2, [0]))).set 107 (.inl (0, 132, [0, 0, 0, 0, 0, 0]))).set 109 (.inl (0, 22, [0])))) (dc2 := 117) (ds2 := 29934) 10 rfl ?_
  exact zT_ret rfl rfl
set_option maxRecDepth 1000000 in
set_option maxHeartbeats 4000000 in
theorem zo_23_3 (xs : Nat → Int32) (h0 : xs 0 &&& 63 = 23) (h1 : xs 1 = 0) (h3 : 5 < (xs 3).toInt) (h2 : (xs 2).toInt < 0) : zDone xs := by
  refine ⟨((((zH0.set 106 (.inl (2, 2, [1, 0]))).set 105 (.inl (0, 2, [0]))).set 107 (.inl (0, 132, [0, 0, 0, 0, 0, 0]))).set 109 (.inl (0, 22, [0]))), 117, 29934, ?_, by decide, by decide⟩
  refine zT_gos (f := 200000) (pc2 := 37) (ls2 := [(4, .int 0), (3, .ref 232), (2, .ref 162), (1, .ref 0), (0, .ref 11)]) (st2 := [.int (xs 0)]) (h2 := zH0) (dc2 := 117) (ds2 := 29934) 9 rfl ?_
  refine zT_gos (f := 200000) (pc2 := 40) (ls2 := [(4, .int 0), (3, .ref 232), (2, .ref 162), (1, .ref 0), (0, .ref 11)]) (st2 := [.int ((xs 0) &&& (63 : Int32))]) (h2 := zH0) (dc2 := 117) (ds2 := 29934) 2 rfl ?_
  refine zT_val h0 ?_
  refine zT_gos (f := 200000) (pc2 := 1039) (ls2 := [(4, .int 0), (3, .ref 232), (2, .ref 162), (1, .ref 0), (0, .ref 11)]) (st2 := [.int (xs 1), .ref 0]) (h2 := zH0) (dc2 := 117) (ds2 := 29934) 7 rfl ?_
  refine zT_val h1 ?_
  refine zT_gos (f := 200000) (pc2 := 1053) (ls2 := [(4, .int 0), (3, .ref 232), (2, .ref 162), (1, .ref 0), (0, .ref 11)]) (st2 := [.int (xs 2), .int 0, .ref 0]) (h2 := zH0) (dc2 := 117) (ds2 := 29934) 7 rfl ?_
  refine zT_gos (f := 200000) (pc2 := 1059) (ls2 := [(4, .int 0), (3, .ref 232), (2, .ref 162), (1, .ref 0), (0, .ref 11)]) (st2 := [.int (xs 3), .int (xs 2), .int 0, .ref 0]) (h2 := zH0) (dc2 := 117) (ds2 := 29934) 5 rfl ?_
  refine zT_call (v := some (.int (-99))) (h2 := zH0) (d1 := 0) (s1 := 0) rfl rfl ?_ ?_
  · refine zT_gos (f := 200000) (pc2 := 1) (ls2 := [(0, .ref 0), (1, .int 0), (2, .int (xs 2)), (3, .int (xs 3))]) (st2 := [.int (xs 3)]) (h2 := zH0) (dc2 := 0) (ds2 := 0) 1 rfl ?_
    refine zT_call (v := some (.int 1)) (h2 := zH0) (d1 := 0) (s1 := 0) rfl rfl ?_ ?_
    · refine zT_gos (f := 200000) (pc2 := 1) (ls2 := [(0, .int (xs 3))]) (st2 := [.int (xs 3)]) (h2 := zH0) (dc2 := 0) (ds2 := 0) 1 rfl ?_
      refine zT_if0 false rfl (zc_lt_f (by show ((xs 3) : Int32).toInt ≥ 0; omega)) ?_
      refine zT_here (pc2 := 4) rfl ?_
      refine zT_gos (f := 200000) (pc2 := 7) (ls2 := [(0, .int (xs 3))]) (st2 := [.int 6, .int (xs 3)]) (h2 := zH0) (dc2 := 0) (ds2 := 0) 2 rfl ?_
      refine zT_if2 false rfl (zc_lt_f (by show ((xs 3) : Int32).toInt ≥ 6; omega)) ?_
      refine zT_here (pc2 := 10) rfl ?_
      refine zT_gos (f := 200000) (pc2 := 15) (ls2 := [(0, .int (xs 3))]) (st2 := [.int 1]) (h2 := zH0) (dc2 := 0) (ds2 := 0) 2 rfl ?_
      exact zT_ret rfl rfl
    refine zT_here (pc2 := 4) rfl ?_
    refine zT_gos (f := 200000) (pc2 := 9) (ls2 := [(0, .ref 0), (1, .int 0), (2, .int (xs 2)), (3, .int (xs 3))]) (st2 := [.int (-99)]) (h2 := zH0) (dc2 := 0) (ds2 := 0) 2 rfl ?_
    exact zT_ret rfl rfl
  refine zT_here (pc2 := 1062) rfl ?_
  refine zT_gos (f := 200000) (pc2 := 1069) (ls2 := [(4, .int 0), (3, .ref 232), (2, .ref 162), (1, .ref 0), (0, .ref 11)]) (st2 := [.int (xs 1), .ref 162, .int (-99)]) (h2 := zH0) (dc2 := 117) (ds2 := 29934) 6 rfl ?_
  refine zT_val h1 ?_
  refine zT_gos (f := 200000) (pc2 := 1083) (ls2 := [(4, .int 0), (3, .ref 232), (2, .ref 162), (1, .ref 0), (0, .ref 11)]) (st2 := [.int (xs 2), .int 0, .ref 162, .int (-99)]) (h2 := zH0) (dc2 := 117) (ds2 := 29934) 7 rfl ?_
  refine zT_gos (f := 200000) (pc2 := 1089) (ls2 := [(4, .int 0), (3, .ref 232), (2, .ref 162), (1, .ref 0), (0, .ref 11)]) (st2 := [.int (xs 3), .int (xs 2), .int 0, .ref 162, .int (-99)]) (h2 := zH0) (dc2 := 117) (ds2 := 29934) 5 rfl ?_
  refine zT_call (v := some (.int (-99))) (h2 := ((((zH0.set 106 (.inl (2, 2, [1, 0]))).set 105 (.inl (0, 2, [0]))).set 107 (.inl (0, 132, [0, 0, 0, 0, 0, 0]))).set 109 (.inl (0, 22, [0])))) (d1 := 0) (s1 := 0) rfl rfl ?_ ?_
  · refine zT_gos (f := 200000) (pc2 := 7) (ls2 := [(0, .ref 162), (1, .int 0), (2, .int (xs 2)), (3, .int (xs 3))]) (st2 := [.int 0, .ref 162]) (h2 := zH0) (dc2 := 0) (ds2 := 0) 5 rfl ?_
    refine zT_call rfl rfl (zT_le (zg0_le 6 xs) zk_o_115) ?_
    refine zT_here (pc2 := 10) rfl ?_
    refine zT_gos (f := 200000) (pc2 := 18) (ls2 := [(4, .int 0), (0, .ref 162), (1, .int 0), (2, .int (xs 2)), (3, .int (xs 3))]) (st2 := [.int (xs 2)]) (h2 := ((((zH0.set 106 (.inl (2, 2, [1, 0]))).set 105 (.inl (0, 2, [0]))).set 107 (.inl (0, 132, [0, 0, 0, 0, 0, 0]))).set 109 (.inl (0, 22, [0])))) (dc2 := 0) (ds2 := 0) 4 rfl ?_
    refine zT_if0 true rfl (zc_lt_t (by show ((xs 2) : Int32).toInt < 0; omega)) ?_
    refine zT_here (pc2 := 34) rfl ?_
    refine zT_gos (f := 200000) (pc2 := 54) (ls2 := [(4, .int 0), (0, .ref 162), (1, .int 0), (2, .int (xs 2)), (3, .int (xs 3))]) (st2 := [.int (-99)]) (h2 := ((((zH0.set 106 (.inl (2, 2, [1, 0]))).set 105 (.inl (0, 2, [0]))).set 107 (.inl (0, 132, [0, 0, 0, 0, 0, 0]))).set 109 (.inl (0, 22, [0])))) (dc2 := 0) (ds2 := 0) 2 rfl ?_
    exact zT_ret rfl rfl
  refine zT_here (pc2 := 1092) rfl ?_
  refine zT_gos (f := 200000) (pc2 := 1811) (ls2 := [(4, .int 6), (3, .ref 232), (2, .ref 162), (1, .ref 0), (0, .ref 11)]) (st2 := [.int 1]) (h2 := ((((zH0.set 106 (.inl (2, 2, [1, 0]))).set 105 (.inl (0, 2, [0]))).set 107 (.inl (0, 132, [0, 0, 0, 0, 0, 0]))).set 109 (.inl (0, 22, [0])))) (dc2 := 117) (ds2 := 29934) 10 rfl ?_
  exact zT_ret rfl rfl
set_option maxRecDepth 1000000 in
set_option maxHeartbeats 4000000 in
theorem zo_23_4 (xs : Nat → Int32) (h0 : xs 0 &&& 63 = 23) (h1 : xs 1 = 0) (h3 : 5 < (xs 3).toInt) (h2 : 0 < (xs 2).toInt) : zDone xs := by
  refine ⟨((((zH0.set 106 (.inl (2, 2, [1, 0]))).set 105 (.inl (0, 2, [0]))).set 107 (.inl (0, 132, [0, 0, 0, 0, 0, 0]))).set 109 (.inl (0, 22, [0]))), 117, 29934, ?_, by decide, by decide⟩
  refine zT_gos (f := 200000) (pc2 := 37) (ls2 := [(4, .int 0), (3, .ref 232), (2, .ref 162), (1, .ref 0), (0, .ref 11)]) (st2 := [.int (xs 0)]) (h2 := zH0) (dc2 := 117) (ds2 := 29934) 9 rfl ?_
  refine zT_gos (f := 200000) (pc2 := 40) (ls2 := [(4, .int 0), (3, .ref 232), (2, .ref 162), (1, .ref 0), (0, .ref 11)]) (st2 := [.int ((xs 0) &&& (63 : Int32))]) (h2 := zH0) (dc2 := 117) (ds2 := 29934) 2 rfl ?_
  refine zT_val h0 ?_
  refine zT_gos (f := 200000) (pc2 := 1039) (ls2 := [(4, .int 0), (3, .ref 232), (2, .ref 162), (1, .ref 0), (0, .ref 11)]) (st2 := [.int (xs 1), .ref 0]) (h2 := zH0) (dc2 := 117) (ds2 := 29934) 7 rfl ?_
  refine zT_val h1 ?_
  refine zT_gos (f := 200000) (pc2 := 1053) (ls2 := [(4, .int 0), (3, .ref 232), (2, .ref 162), (1, .ref 0), (0, .ref 11)]) (st2 := [.int (xs 2), .int 0, .ref 0]) (h2 := zH0) (dc2 := 117) (ds2 := 29934) 7 rfl ?_
  refine zT_gos (f := 200000) (pc2 := 1059) (ls2 := [(4, .int 0), (3, .ref 232), (2, .ref 162), (1, .ref 0), (0, .ref 11)]) (st2 := [.int (xs 3), .int (xs 2), .int 0, .ref 0]) (h2 := zH0) (dc2 := 117) (ds2 := 29934) 5 rfl ?_
  refine zT_call (v := some (.int (-99))) (h2 := zH0) (d1 := 0) (s1 := 0) rfl rfl ?_ ?_
  · refine zT_gos (f := 200000) (pc2 := 1) (ls2 := [(0, .ref 0), (1, .int 0), (2, .int (xs 2)), (3, .int (xs 3))]) (st2 := [.int (xs 3)]) (h2 := zH0) (dc2 := 0) (ds2 := 0) 1 rfl ?_
    refine zT_call (v := some (.int 1)) (h2 := zH0) (d1 := 0) (s1 := 0) rfl rfl ?_ ?_
    · refine zT_gos (f := 200000) (pc2 := 1) (ls2 := [(0, .int (xs 3))]) (st2 := [.int (xs 3)]) (h2 := zH0) (dc2 := 0) (ds2 := 0) 1 rfl ?_
      refine zT_if0 false rfl (zc_lt_f (by show ((xs 3) : Int32).toInt ≥ 0; omega)) ?_
      refine zT_here (pc2 := 4) rfl ?_
      refine zT_gos (f := 200000) (pc2 := 7) (ls2 := [(0, .int (xs 3))]) (st2 := [.int 6, .int (xs 3)]) (h2 := zH0) (dc2 := 0) (ds2 := 0) 2 rfl ?_
      refine zT_if2 false rfl (zc_lt_f (by show ((xs 3) : Int32).toInt ≥ 6; omega)) ?_
      refine zT_here (pc2 := 10) rfl ?_
      refine zT_gos (f := 200000) (pc2 := 15) (ls2 := [(0, .int (xs 3))]) (st2 := [.int 1]) (h2 := zH0) (dc2 := 0) (ds2 := 0) 2 rfl ?_
      exact zT_ret rfl rfl
    refine zT_here (pc2 := 4) rfl ?_
    refine zT_gos (f := 200000) (pc2 := 9) (ls2 := [(0, .ref 0), (1, .int 0), (2, .int (xs 2)), (3, .int (xs 3))]) (st2 := [.int (-99)]) (h2 := zH0) (dc2 := 0) (ds2 := 0) 2 rfl ?_
    exact zT_ret rfl rfl
  refine zT_here (pc2 := 1062) rfl ?_
  refine zT_gos (f := 200000) (pc2 := 1069) (ls2 := [(4, .int 0), (3, .ref 232), (2, .ref 162), (1, .ref 0), (0, .ref 11)]) (st2 := [.int (xs 1), .ref 162, .int (-99)]) (h2 := zH0) (dc2 := 117) (ds2 := 29934) 6 rfl ?_
  refine zT_val h1 ?_
  refine zT_gos (f := 200000) (pc2 := 1083) (ls2 := [(4, .int 0), (3, .ref 232), (2, .ref 162), (1, .ref 0), (0, .ref 11)]) (st2 := [.int (xs 2), .int 0, .ref 162, .int (-99)]) (h2 := zH0) (dc2 := 117) (ds2 := 29934) 7 rfl ?_
  refine zT_gos (f := 200000) (pc2 := 1089) (ls2 := [(4, .int 0), (3, .ref 232), (2, .ref 162), (1, .ref 0), (0, .ref 11)]) (st2 := [.int (xs 3), .int (xs 2), .int 0, .ref 162, .int (-99)]) (h2 := zH0) (dc2 := 117) (ds2 := 29934) 5 rfl ?_
  refine zT_call (v := some (.int (-99))) (h2 := ((((zH0.set 106 (.inl (2, 2, [1, 0]))).set 105 (.inl (0, 2, [0]))).set 107 (.inl (0, 132, [0, 0, 0, 0, 0, 0]))).set 109 (.inl (0, 22, [0])))) (d1 := 0) (s1 := 0) rfl rfl ?_ ?_
  · refine zT_gos (f := 200000) (pc2 := 7) (ls2 := [(0, .ref 162), (1, .int 0), (2, .int (xs 2)), (3, .int (xs 3))]) (st2 := [.int 0, .ref 162]) (h2 := zH0) (dc2 := 0) (ds2 := 0) 5 rfl ?_
    refine zT_call rfl rfl (zT_le (zg0_le 6 xs) zk_o_115) ?_
    refine zT_here (pc2 := 10) rfl ?_
    refine zT_gos (f := 200000) (pc2 := 18) (ls2 := [(4, .int 0), (0, .ref 162), (1, .int 0), (2, .int (xs 2)), (3, .int (xs 3))]) (st2 := [.int (xs 2)]) (h2 := ((((zH0.set 106 (.inl (2, 2, [1, 0]))).set 105 (.inl (0, 2, [0]))).set 107 (.inl (0, 132, [0, 0, 0, 0, 0, 0]))).set 109 (.inl (0, 22, [0])))) (dc2 := 0) (ds2 := 0) 4 rfl ?_
    refine zT_if0 false rfl (zc_lt_f (by show ((xs 2) : Int32).toInt ≥ 0; omega)) ?_
    refine zT_here (pc2 := 21) rfl ?_
    refine zT_gos (f := 200000) (pc2 := 24) (ls2 := [(4, .int 0), (0, .ref 162), (1, .int 0), (2, .int (xs 2)), (3, .int (xs 3))]) (st2 := [.int 0, .int (xs 2)]) (h2 := ((((zH0.set 106 (.inl (2, 2, [1, 0]))).set 105 (.inl (0, 2, [0]))).set 107 (.inl (0, 132, [0, 0, 0, 0, 0, 0]))).set 109 (.inl (0, 22, [0])))) (dc2 := 0) (ds2 := 0) 2 rfl ?_
    refine zT_if2 true rfl (zc_gt_t (by show ((xs 2) : Int32).toInt > 0; omega)) ?_
    refine zT_here (pc2 := 34) rfl ?_
    refine zT_gos (f := 200000) (pc2 := 54) (ls2 := [(4, .int 0), (0, .ref 162), (1, .int 0), (2, .int (xs 2)), (3, .int (xs 3))]) (st2 := [.int (-99)]) (h2 := ((((zH0.set 106 (.inl (2, 2, [1, 0]))).set 105 (.inl (0, 2, [0]))).set 107 (.inl (0, 132, [0, 0, 0, 0, 0, 0]))).set 109 (.inl (0, 22, [0])))) (dc2 := 0) (ds2 := 0) 2 rfl ?_
    exact zT_ret rfl rfl
  refine zT_here (pc2 := 1092) rfl ?_
  refine zT_gos (f := 200000) (pc2 := 1811) (ls2 := [(4, .int 6), (3, .ref 232), (2, .ref 162), (1, .ref 0), (0, .ref 11)]) (st2 := [.int 1]) (h2 := ((((zH0.set 106 (.inl (2, 2, [1, 0]))).set 105 (.inl (0, 2, [0]))).set 107 (.inl (0, 132, [0, 0, 0, 0, 0, 0]))).set 109 (.inl (0, 22, [0])))) (dc2 := 117) (ds2 := 29934) 10 rfl ?_
  exact zT_ret rfl rfl
set_option maxRecDepth 1000000 in
set_option maxHeartbeats 4000000 in
theorem zo_23_5 (xs : Nat → Int32) (h0 : xs 0 &&& 63 = 23) (h1 : xs 1 = 0) (h3 : 5 < (xs 3).toInt) (h2 : xs 2 = 0) : zDone xs := by
  refine ⟨((((zH0.set 106 (.inl (2, 2, [1, 0]))).set 105 (.inl (0, 2, [0]))).set 107 (.inl (0, 132, [0, 0, 0, 0, 0, 0]))).set 109 (.inl (0, 22, [0]))), 117, 29934, ?_, by decide, by decide⟩
  refine zT_gos (f := 200000) (pc2 := 37) (ls2 := [(4, .int 0), (3, .ref 232), (2, .ref 162), (1, .ref 0), (0, .ref 11)]) (st2 := [.int (xs 0)]) (h2 := zH0) (dc2 := 117) (ds2 := 29934) 9 rfl ?_
  refine zT_gos (f := 200000) (pc2 := 40) (ls2 := [(4, .int 0), (3, .ref 232), (2, .ref 162), (1, .ref 0), (0, .ref 11)]) (st2 := [.int ((xs 0) &&& (63 : Int32))]) (h2 := zH0) (dc2 := 117) (ds2 := 29934) 2 rfl ?_
  refine zT_val h0 ?_
  refine zT_gos (f := 200000) (pc2 := 1039) (ls2 := [(4, .int 0), (3, .ref 232), (2, .ref 162), (1, .ref 0), (0, .ref 11)]) (st2 := [.int (xs 1), .ref 0]) (h2 := zH0) (dc2 := 117) (ds2 := 29934) 7 rfl ?_
  refine zT_val h1 ?_
  refine zT_gos (f := 200000) (pc2 := 1053) (ls2 := [(4, .int 0), (3, .ref 232), (2, .ref 162), (1, .ref 0), (0, .ref 11)]) (st2 := [.int (xs 2), .int 0, .ref 0]) (h2 := zH0) (dc2 := 117) (ds2 := 29934) 7 rfl ?_
  refine zT_val h2 ?_
  refine zT_gos (f := 200000) (pc2 := 1059) (ls2 := [(4, .int 0), (3, .ref 232), (2, .ref 162), (1, .ref 0), (0, .ref 11)]) (st2 := [.int (xs 3), .int 0, .int 0, .ref 0]) (h2 := zH0) (dc2 := 117) (ds2 := 29934) 5 rfl ?_
  refine zT_call (v := some (.int (-99))) (h2 := zH0) (d1 := 0) (s1 := 0) rfl rfl ?_ ?_
  · refine zT_gos (f := 200000) (pc2 := 1) (ls2 := [(0, .ref 0), (1, .int 0), (2, .int 0), (3, .int (xs 3))]) (st2 := [.int (xs 3)]) (h2 := zH0) (dc2 := 0) (ds2 := 0) 1 rfl ?_
    refine zT_call (v := some (.int 1)) (h2 := zH0) (d1 := 0) (s1 := 0) rfl rfl ?_ ?_
    · refine zT_gos (f := 200000) (pc2 := 1) (ls2 := [(0, .int (xs 3))]) (st2 := [.int (xs 3)]) (h2 := zH0) (dc2 := 0) (ds2 := 0) 1 rfl ?_
      refine zT_if0 false rfl (zc_lt_f (by show ((xs 3) : Int32).toInt ≥ 0; omega)) ?_
      refine zT_here (pc2 := 4) rfl ?_
      refine zT_gos (f := 200000) (pc2 := 7) (ls2 := [(0, .int (xs 3))]) (st2 := [.int 6, .int (xs 3)]) (h2 := zH0) (dc2 := 0) (ds2 := 0) 2 rfl ?_
      refine zT_if2 false rfl (zc_lt_f (by show ((xs 3) : Int32).toInt ≥ 6; omega)) ?_
      refine zT_here (pc2 := 10) rfl ?_
      refine zT_gos (f := 200000) (pc2 := 15) (ls2 := [(0, .int (xs 3))]) (st2 := [.int 1]) (h2 := zH0) (dc2 := 0) (ds2 := 0) 2 rfl ?_
      exact zT_ret rfl rfl
    refine zT_here (pc2 := 4) rfl ?_
    refine zT_gos (f := 200000) (pc2 := 9) (ls2 := [(0, .ref 0), (1, .int 0), (2, .int 0), (3, .int (xs 3))]) (st2 := [.int (-99)]) (h2 := zH0) (dc2 := 0) (ds2 := 0) 2 rfl ?_
    exact zT_ret rfl rfl
  refine zT_here (pc2 := 1062) rfl ?_
  refine zT_gos (f := 200000) (pc2 := 1069) (ls2 := [(4, .int 0), (3, .ref 232), (2, .ref 162), (1, .ref 0), (0, .ref 11)]) (st2 := [.int (xs 1), .ref 162, .int (-99)]) (h2 := zH0) (dc2 := 117) (ds2 := 29934) 6 rfl ?_
  refine zT_val h1 ?_
  refine zT_gos (f := 200000) (pc2 := 1083) (ls2 := [(4, .int 0), (3, .ref 232), (2, .ref 162), (1, .ref 0), (0, .ref 11)]) (st2 := [.int (xs 2), .int 0, .ref 162, .int (-99)]) (h2 := zH0) (dc2 := 117) (ds2 := 29934) 7 rfl ?_
  refine zT_val h2 ?_
  refine zT_gos (f := 200000) (pc2 := 1089) (ls2 := [(4, .int 0), (3, .ref 232), (2, .ref 162), (1, .ref 0), (0, .ref 11)]) (st2 := [.int (xs 3), .int 0, .int 0, .ref 162, .int (-99)]) (h2 := zH0) (dc2 := 117) (ds2 := 29934) 5 rfl ?_
  refine zT_call (v := some (.int (-99))) (h2 := ((((zH0.set 106 (.inl (2, 2, [1, 0]))).set 105 (.inl (0, 2, [0]))).set 107 (.inl (0, 132, [0, 0, 0, 0, 0, 0]))).set 109 (.inl (0, 22, [0])))) (d1 := 0) (s1 := 0) rfl rfl ?_ ?_
  · refine zT_gos (f := 200000) (pc2 := 7) (ls2 := [(0, .ref 162), (1, .int 0), (2, .int 0), (3, .int (xs 3))]) (st2 := [.int 0, .ref 162]) (h2 := zH0) (dc2 := 0) (ds2 := 0) 5 rfl ?_
    refine zT_call rfl rfl (zT_le (zg0_le 6 xs) zk_o_115) ?_
    refine zT_here (pc2 := 10) rfl ?_
    refine zT_gos (f := 200000) (pc2 := 28) (ls2 := [(4, .int 0), (0, .ref 162), (1, .int 0), (2, .int 0), (3, .int (xs 3))]) (st2 := [.int (xs 3)]) (h2 := ((((zH0.set 106 (.inl (2, 2, [1, 0]))).set 105 (.inl (0, 2, [0]))).set 107 (.inl (0, 132, [0, 0, 0, 0, 0, 0]))).set 109 (.inl (0, 22, [0])))) (dc2 := 0) (ds2 := 0) 9 rfl ?_
    refine zT_call (v := some (.int 0)) (h2 := ((((zH0.set 106 (.inl (2, 2, [1, 0]))).set 105 (.inl (0, 2, [0]))).set 107 (.inl (0, 132, [0, 0, 0, 0, 0, 0]))).set 109 (.inl (0, 22, [0])))) (d1 := 0) (s1 := 0) rfl rfl ?_ ?_
    · refine zT_gos (f := 200000) (pc2 := 1) (ls2 := [(0, .int (xs 3))]) (st2 := [.int (xs 3)]) (h2 := ((((zH0.set 106 (.inl (2, 2, [1, 0]))).set 105 (.inl (0, 2, [0]))).set 107 (.inl (0, 132, [0, 0, 0, 0, 0, 0]))).set 109 (.inl (0, 22, [0])))) (dc2 := 0) (ds2 := 0) 1 rfl ?_
      refine zT_if0 false rfl (zc_lt_f (by show ((xs 3) : Int32).toInt ≥ 0; omega)) ?_
      refine zT_here (pc2 := 4) rfl ?_
      refine zT_gos (f := 200000) (pc2 := 7) (ls2 := [(0, .int (xs 3))]) (st2 := [.int 6, .int (xs 3)]) (h2 := ((((zH0.set 106 (.inl (2, 2, [1, 0]))).set 105 (.inl (0, 2, [0]))).set 107 (.inl (0, 132, [0, 0, 0, 0, 0, 0]))).set 109 (.inl (0, 22, [0])))) (dc2 := 0) (ds2 := 0) 2 rfl ?_
      refine zT_if2 true rfl (zc_ge_t (by show ((xs 3) : Int32).toInt ≥ 6; omega)) ?_
      refine zT_here (pc2 := 14) rfl ?_
      refine zT_gos (f := 200000) (pc2 := 15) (ls2 := [(0, .int (xs 3))]) (st2 := [.int 0]) (h2 := ((((zH0.set 106 (.inl (2, 2, [1, 0]))).set 105 (.inl (0, 2, [0]))).set 107 (.inl (0, 132, [0, 0, 0, 0, 0, 0]))).set 109 (.inl (0, 22, [0])))) (dc2 := 0) (ds2 := 0) 1 rfl ?_
      exact zT_ret rfl rfl
    refine zT_here (pc2 := 31) rfl ?_
    refine zT_gos (f := 200000) (pc2 := 54) (ls2 := [(4, .int 0), (0, .ref 162), (1, .int 0), (2, .int 0), (3, .int (xs 3))]) (st2 := [.int (-99)]) (h2 := ((((zH0.set 106 (.inl (2, 2, [1, 0]))).set 105 (.inl (0, 2, [0]))).set 107 (.inl (0, 132, [0, 0, 0, 0, 0, 0]))).set 109 (.inl (0, 22, [0])))) (dc2 := 0) (ds2 := 0) 3 rfl ?_
    exact zT_ret rfl rfl
  refine zT_here (pc2 := 1092) rfl ?_
  refine zT_gos (f := 200000) (pc2 := 1811) (ls2 := [(4, .int 6), (3, .ref 232), (2, .ref 162), (1, .ref 0), (0, .ref 11)]) (st2 := [.int 1]) (h2 := ((((zH0.set 106 (.inl (2, 2, [1, 0]))).set 105 (.inl (0, 2, [0]))).set 107 (.inl (0, 132, [0, 0, 0, 0, 0, 0]))).set 109 (.inl (0, 22, [0])))) (dc2 := 117) (ds2 := 29934) 10 rfl ?_
  exact zT_ret rfl rfl
set_option maxRecDepth 1000000 in
theorem zk_o_116 : zT zg0 zF zP 250 0 [(0, .ref 162), (1, .int 1)] [] zH0 0 0 (some (.int 0), ((((zH0.set 106 (.inl (2, 2, [0, 1]))).set 105 (.inl (0, 2, [0, 0]))).set 107 (.inl (0, 132, [0, 0, 0, 0, 0, 0, 0, 0, 0, 0, 0, 0, 0, 0, 0, 0, 0, 0, 0, 0, 0, 0, 0, 0, 0, 0, 0, 0, 0, 0, 0, 0, 0, 0, 0, 0, 0, 0, 0, 0, 0, 0, 0, 0, 0, 0, 0, 0, 0, 0, 0, 0, 0, 0, 0, 0, 0, 0, 0, 0, 0, 0, 0, 0, 0, 0, 0, 0, 0, 0, 0, 0]))).set 109 (.inl (0, 22, [0, 0, 0, 0, 0, 0, 0, 0, 0, 0, 0, 0]))), 0, 0) := zclosed (n := 183) (by decide +kernel)
set_option maxRecDepth 1000000 in
set_option maxHeartbeats 4000000 in
theorem zo_23_6 (xs : Nat → Int32) (h0 : xs 0 &&& 63 = 23) (h1 : (xs 1).toInt ≠ 0) (h3 : (xs 3).toInt < 0) (h2 : (xs 2).toInt < 0) : zDone xs := by
  refine ⟨((((zH0.set 106 (.inl (2, 2, [0, 1]))).set 105 (.inl (0, 2, [0, 0]))).set 107 (.inl (0, 132, [0, 0, 0, 0, 0, 0, 0, 0, 0, 0, 0, 0, 0, 0, 0, 0, 0, 0, 0, 0, 0, 0, 0, 0, 0, 0, 0, 0, 0, 0, 0, 0, 0, 0, 0, 0, 0, 0, 0, 0, 0, 0, 0, 0, 0, 0, 0, 0, 0, 0, 0, 0, 0, 0, 0, 0, 0, 0, 0, 0, 0, 0, 0, 0, 0, 0, 0, 0, 0, 0, 0, 0]))).set 109 (.inl (0, 22, [0, 0, 0, 0, 0, 0, 0, 0, 0, 0, 0, 0]))), 117, 29934, ?_, by decide, by decide⟩
  refine zT_gos (f := 200000) (pc2 := 37) (ls2 := [(4, .int 0), (3, .ref 232), (2, .ref 162), (1, .ref 0), (0, .ref 11)]) (st2 := [.int (xs 0)]) (h2 := zH0) (dc2 := 117) (ds2 := 29934) 9 rfl ?_
  refine zT_gos (f := 200000) (pc2 := 40) (ls2 := [(4, .int 0), (3, .ref 232), (2, .ref 162), (1, .ref 0), (0, .ref 11)]) (st2 := [.int ((xs 0) &&& (63 : Int32))]) (h2 := zH0) (dc2 := 117) (ds2 := 29934) 2 rfl ?_
  refine zT_val h0 ?_
  refine zT_gos (f := 200000) (pc2 := 1039) (ls2 := [(4, .int 0), (3, .ref 232), (2, .ref 162), (1, .ref 0), (0, .ref 11)]) (st2 := [.int (xs 1), .ref 0]) (h2 := zH0) (dc2 := 117) (ds2 := 29934) 7 rfl ?_
  refine zT_if0 false rfl (zc_eq_f (by show ((xs 1) : Int32).toInt ≠ 0; omega)) ?_
  refine zT_here (pc2 := 1042) rfl ?_
  refine zT_gos (f := 200000) (pc2 := 1053) (ls2 := [(4, .int 0), (3, .ref 232), (2, .ref 162), (1, .ref 0), (0, .ref 11)]) (st2 := [.int (xs 2), .int 1, .ref 0]) (h2 := zH0) (dc2 := 117) (ds2 := 29934) 7 rfl ?_
  refine zT_gos (f := 200000) (pc2 := 1059) (ls2 := [(4, .int 0), (3, .ref 232), (2, .ref 162), (1, .ref 0), (0, .ref 11)]) (st2 := [.int (xs 3), .int (xs 2), .int 1, .ref 0]) (h2 := zH0) (dc2 := 117) (ds2 := 29934) 5 rfl ?_
  refine zT_call (v := some (.int (-99))) (h2 := zH0) (d1 := 0) (s1 := 0) rfl rfl ?_ ?_
  · refine zT_gos (f := 200000) (pc2 := 1) (ls2 := [(0, .ref 0), (1, .int 1), (2, .int (xs 2)), (3, .int (xs 3))]) (st2 := [.int (xs 3)]) (h2 := zH0) (dc2 := 0) (ds2 := 0) 1 rfl ?_
    refine zT_call (v := some (.int 1)) (h2 := zH0) (d1 := 0) (s1 := 0) rfl rfl ?_ ?_
    · refine zT_gos (f := 200000) (pc2 := 1) (ls2 := [(0, .int (xs 3))]) (st2 := [.int (xs 3)]) (h2 := zH0) (dc2 := 0) (ds2 := 0) 1 rfl ?_
      refine zT_if0 true rfl (zc_lt_t (by show ((xs 3) : Int32).toInt < 0; omega)) ?_
      refine zT_here (pc2 := 10) rfl ?_
      refine zT_gos (f := 200000) (pc2 := 15) (ls2 := [(0, .int (xs 3))]) (st2 := [.int 1]) (h2 := zH0) (dc2 := 0) (ds2 := 0) 2 rfl ?_
      exact zT_ret rfl rfl
    refine zT_here (pc2 := 4) rfl ?_
    refine zT_gos (f := 200000) (pc2 := 9) (ls2 := [(0, .ref 0), (1, .int 1), (2, .int (xs 2)), (3, .int (xs 3))]) (st2 := [.int (-99)]) (h2 := zH0) (dc2 := 0) (ds2 := 0) 2 rfl ?_
    exact zT_ret rfl rfl
  refine zT_here (pc2 := 1062) rfl ?_
  refine zT_gos (f := 200000) (pc2 := 1069) (ls2 := [(4, .int 0), (3, .ref 232), (2, .ref 162), (1, .ref 0), (0, .ref 11)]) (st2 := [.int (xs 1), .ref 162, .int (-99)]) (h2 := zH0) (dc2 := 117) (ds2 := 29934) 6 rfl ?_
  refine zT_if0 false rfl (zc_eq_f (by show ((xs 1) : Int32).toInt ≠ 0; omega)) ?_
  refine zT_here (pc2 := 1072) rfl ?_
  refine zT_gos (f := 200000) (pc2 := 1083) (ls2 := [(4, .int 0), (3, .ref 232), (2, .ref 162), (1, .ref 0), (0, .ref 11)]) (st2 := [.int (xs 2), .int 1, .ref 162, .int (-99)]) (h2 := zH0) (dc2 := 117) (ds2 := 29934) 7 rfl ?_
  refine zT_gos (f := 200000) (pc2 := 1089) (ls2 := [(4, .int 0), (3, .ref 232), (2, .ref 162), (1, .ref 0), (0, .ref 11)]) (st2 := [.int (xs 3), .int (xs 2), .int 1, .ref 162, .int (-99)]) (h2 := zH0) (dc2 := 117) (ds2 := 29934) 5 rfl ?_
  refine zT_call (v := some (.int (-99))) (h2 := ((((zH0.set 106 (.inl (2, 2, [0, 1]))).set 105 (.inl (0, 2, [0, 0]))).set 107 (.inl (0, 132, [0, 0, 0, 0, 0, 0, 0, 0, 0, 0, 0, 0, 0, 0, 0, 0, 0, 0, 0, 0, 0, 0, 0, 0, 0, 0, 0, 0, 0, 0, 0, 0, 0, 0, 0, 0, 0, 0, 0, 0, 0, 0, 0, 0, 0, 0, 0, 0, 0, 0, 0, 0, 0, 0, 0, 0, 0, 0, 0, 0, 0, 0, 0, 0, 0, 0, 0, 0, 0, 0, 0, 0]))).set 109 (.inl (0, 22, [0, 0, 0, 0, 0, 0, 0, 0, 0, 0, 0, 0])))) (d1 := 0) (s1 := 0) rfl rfl ?_ ?_
  · refine zT_gos (f := 200000) (pc2 := 7) (ls2 := [(0, .ref 162), (1, .int 1), (2, .int (xs 2)), (3, .int (xs 3))]) (st2 := [.int 1, .ref 162]) (h2 := zH0) (dc2 := 0) (ds2 := 0) 5 rfl ?_
    refine zT_call rfl rfl (zT_le (zg0_le 6 xs) zk_o_116) ?_
    refine zT_here (pc2 := 10) rfl ?_
    refine zT_gos (f := 200000) (pc2 := 18) (ls2 := [(4, .int 0), (0, .ref 162), (1, .int 1), (2, .int (xs 2)), (3, .int (xs 3))]) (st2 := [.int (xs 2)]) (h2 := ((((zH0.set 106 (.inl (2, 2, [0, 1]))).set 105 (.inl (0, 2, [0, 0]))).set 107 (.inl (0, 132, [0, 0, 0, 0, 0, 0, 0, 0, 0, 0, 0, 0, 0, 0, 0, 0, 0, 0, 0, 0, 0, 0, 0, 0, 0, 0, 0, 0, 0, 0, 0, 0, 0, 0, 0, 0, 0, 0, 0, 0, 0, 0, 0, 0, 0, 0, 0, 0, 0, 0, 0, 0, 0, 0, 0, 0, 0, 0, 0, 0, 0, 0, 0, 0, 0, 0, 0, 0, 0, 0, 0, 0]))).set 109 (.inl (0, 22, [0, 0, 0, 0, 0, 0, 0, 0, 0, 0, 0, 0])))) (dc2 := 0) (ds2 := 0) 4 rfl ?_
    refine zT_if0 true rfl (zc_lt_t (by show ((xs 2) : Int32).toInt < 0; omega)) ?_
    refine zT_here (pc2 := 34) rfl ?_
    refine zT_gos (f := 200000) (pc2 := 54) (ls2 := [(4, .int 0), (0, .ref 162), (1, .int 1), (2, .int (xs 2)), (3, .int (xs 3))]) (st2 := [.int (-99)]) (h2 := ((((zH0.set 106 (.inl (2, 2, [0, 1]))).set 105 (.inl (0, 2, [0, 0]))).set 107 (.inl (0, 132, [0, 0, 0, 0, 0, 0, 0, 0, 0, 0, 0, 0, 0, 0, 0, 0, 0, 0, 0, 0, 0, 0, 0, 0, 0, 0, 0, 0, 0, 0, 0, 0, 0, 0, 0, 0, 0, 0, 0, 0, 0, 0, 0, 0, 0, 0, 0, 0, 0, 0, 0, 0, 0, 0, 0, 0, 0, 0, 0, 0, 0, 0, 0, 0, 0, 0, 0, 0, 0, 0, 0, 0]))).set 109 (.inl (0, 22, [0, 0, 0, 0, 0, 0, 0, 0, 0, 0, 0, 0])))) (dc2 := 0) (ds2 := 0) 2 rfl ?_
    exact zT_ret rfl rfl
  refine zT_here (pc2 := 1092) rfl ?_
  refine zT_gos (f := 200000) (pc2 := 1811) (ls2 := [(4, .int 6), (3, .ref 232), (2, .ref 162), (1, .ref 0), (0, .ref 11)]) (st2 := [.int 1]) (h2 := ((((zH0.set 106 (.inl (2, 2, [0, 1]))).set 105 (.inl (0, 2, [0, 0]))).set 107 (.inl (0, 132, [0, 0, 0, 0, 0, 0, 0, 0, 0, 0, 0, 0, 0, 0, 0, 0, 0, 0, 0, 0, 0, 0, 0, 0, 0, 0, 0, 0, 0, 0, 0, 0, 0, 0, 0, 0, 0, 0, 0, 0, 0, 0, 0, 0, 0, 0, 0, 0, 0, 0, 0, 0, 0, 0, 0, 0, 0, 0, 0, 0, 0, 0, 0, 0, 0, 0, 0, 0, 0, 0, 0, 0]))).set 109 (.inl (0, 22, [0, 0, 0, 0, 0, 0, 0, 0, 0, 0, 0, 0])))) (dc2 := 117) (ds2 := 29934) 10 rfl ?_
  exact zT_ret rfl rfl
set_option maxRecDepth 1000000 in
set_option maxHeartbeats 4000000 in
theorem zo_23_7 (xs : Nat → Int32) (h0 : xs 0 &&& 63 = 23) (h1 : (xs 1).toInt ≠ 0) (h3 : (xs 3).toInt < 0) (h2 : 0 < (xs 2).toInt) : zDone xs := by
  refine ⟨((((zH0.set 106 (.inl (2, 2, [0, 1]))).set 105 (.inl (0, 2, [0, 0]))).set 107 (.inl (0, 132, [0, 0, 0, 0, 0, 0, 0, 0, 0, 0, 0, 0, 0, 0, 0, 0, 0, 0, 0, 0, 0, 0, 0, 0, 0, 0, 0, 0, 0, 0, 0, 0, 0, 0, 0, 0, 0, 0, 0, 0, 0, 0, 0, 0, 0, 0, 0, 0, 0, 0, 0, 0, 0, 0, 0, 0, 0, 0, 0, 0, 0, 0, 0, 0, 0, 0, 0, 0, 0, 0, 0, 0]))).set 109 (.inl (0, 22, [0, 0, 0, 0, 0, 0, 0, 0, 0, 0, 0, 0]))), 117, 29934, ?_, by decide, by decide⟩
  refine zT_gos (f := 200000) (pc2 := 37) (ls2 := [(4, .int 0), (3, .ref 232), (2, .ref 162), (1, .ref 0), (0, .ref 11)]) (st2 := [.int (xs 0)]) (h2 := zH0) (dc2 := 117) (ds2 := 29934) 9 rfl ?_
  refine zT_gos (f := 200000) (pc2 := 40) (ls2 := [(4, .int 0), (3, .ref 232), (2, .ref 162), (1, .ref 0), (0, .ref 11)]) (st2 := [.int ((xs 0) &&& (63 : Int32))]) (h2 := zH0) (dc2 := 117) (ds2 := 29934) 2 rfl ?_
  refine zT_val h0 ?_
  refine zT_gos (f := 200000) (pc2 := 1039) (ls2 := [(4, .int 0), (3, .ref 232), (2, .ref 162), (1, .ref 0), (0, .ref 11)]) (st2 := [.int (xs 1), .ref 0]) (h2 := zH0) (dc2 := 117) (ds2 := 29934) 7 rfl ?_
  refine zT_if0 false rfl (zc_eq_f (by show ((xs 1) : Int32).toInt ≠ 0; omega)) ?_
  refine zT_here (pc2 := 1042) rfl ?_
  refine zT_gos (f := 200000) (pc2 := 1053) (ls2 := [(4, .int 0), (3, .ref 232), (2, .ref 162), (1, .ref 0), (0, .ref 11)]) (st2 := [.int (xs 2), .int 1, .ref 0]) (h2 := zH0) (dc2 := 117) (ds2 := 29934) 7 rfl ?_
  refine zT_gos (f := 200000) (pc2 := 1059) (ls2 := [(4, .int 0), (3, .ref 232), (2, .ref 162), (1, .ref 0), (0, .ref 11)]) (st2 := [.int (xs 3), .int (xs 2), .int 1, .ref 0]) (h2 := zH0) (dc2 := 117) (ds2 := 29934) 5 rfl ?_
  refine zT_call (v := some (.int (-99))) (h2 := zH0) (d1 := 0) (s1 := 0) rfl rfl ?_ ?_
  · refine zT_gos (f := 200000) (pc2 := 1) (ls2 := [(0, .ref 0), (1, .int 1), (2, .int (xs 2)), (3, .int (xs 3))]) (st2 := [.int (xs 3)]) (h2 := zH0) (dc2 := 0) (ds2 := 0) 1 rfl ?_
    refine zT_call (v := some (.int 1)) (h2 := zH0) (d1 := 0) (s1 := 0) rfl rfl ?_ ?_
    · refine zT_gos (f := 200000) (pc2 := 1) (ls2 := [(0, .int (xs 3))]) (st2 := [.int (xs 3)]) (h2 := zH0) (dc2 := 0) (ds2 := 0) 1 rfl ?_
      refine zT_if0 true rfl (zc_lt_t (by show ((xs 3) : Int32).toInt < 0; omega)) ?_
      refine zT_here (pc2 := 10) rfl ?_
      refine zT_gos (f := 200000) (pc2 := 15) (ls2 := [(0, .int (xs 3))]) (st2 := [.int 1]) (h2 := zH0) (dc2 := 0) (ds2 := 0) 2 rfl ?_
      exact zT_ret rfl rfl
    refine zT_here (pc2 := 4) rfl ?_
    refine zT_gos (f := 200000) (pc2 := 9) (ls2 := [(0, .ref 0), (1, .int 1), (2, .int (xs 2)), (3, .int (xs 3))]) (st2 := [.int (-99)]) (h2 := zH0) (dc2 := 0) (ds2 := 0) 2 rfl ?_
    exact zT_ret rfl rfl
  refine zT_here (pc2 := 1062) rfl ?_
  refine zT_gos (f := 200000) (pc2 := 1069) (ls2 := [(4, .int 0), (3, .ref 232), (2, .ref 162), (1, .ref 0), (0, .ref 11)]) (st2 := [.int (xs 1), .ref 162, .int (-99)]) (h2 := zH0) (dc2 := 117) (ds2 := 29934) 6 rfl ?_
  refine zT_if0 false rfl (zc_eq_f (by show ((xs 1) : Int32).toInt ≠ 0; omega)) ?_
  refine zT_here (pc2 := 1072) rfl ?_
  refine zT_gos (f := 200000) (pc2 := 1083) (ls2 := [(4, .int 0), (3, .ref 232), (2, .ref 162), (1, .ref 0), (0, .ref 11)]) (st2 := [.int (xs 2), .int 1, .ref 162, .int (-99)]) (h2 := zH0) (dc2 := 117) (ds2 := 29934) 7 rfl ?_
  refine zT_gos (f := 200000) (pc2 := 1089) (ls2 := [(4, .int 0), (3, .ref 232), (2, .ref 162), (1, .ref 0), (0, .ref 11)]) (st2 := [.int (xs 3), .int (xs 2), .int 1, .ref 162, .int (-99)]) (h2 := zH0) (dc2 := 117) (ds2 := 29934) 5 rfl ?_
  refine zT_call (v := some (.int (-99))) (h2 := ((((zH0.set 106 (.inl (2, 2, [0, 1]))).set 105 (.inl (0, 2, [0, 0]))).set 107 (.inl (0, 132, [0, 0, 0, 0, 0, 0, 0, 0, 0, 0, 0, 0, 0, 0, 0, 0, 0, 0, 0, 0, 0, 0, 0, 0, 0, 0, 0, 0, 0, 0, 0, 0, 0, 0, 0, 0, 0, 0, 0, 0, 0, 0, 0, 0, 0, 0, 0, 0, 0, 0, 0, 0, 0, 0, 0, 0, 0, 0, 0, 0, 0, 0, 0, 0, 0, 0, 0, 0, 0, 0, 0, 0]))).set 109 (.inl (0, 22, [0, 0, 0, 0, 0, 0, 0, 0, 0, 0, 0, 0])))) (d1 := 0) (s1 := 0) rfl rfl ?_ ?_
  · refine zT_gos (f := 200000) (pc2 := 7) (ls2 := [(0, .ref 162), (1, .int 1), (2, .int (xs 2)), (3, .int (xs 3))]) (st2 := [.int 1, .ref 162]) (h2 := zH0) (dc2 := 0) (ds2 := 0) 5 rfl ?_
    refine zT_call rfl rfl (zT_le (zg0_le 6 xs) zk_o_116) ?_
    refine zT_here (pc2 := 10) rfl ?_
    refine zT_gos (f := 200000) (pc2 := 18) (ls2 := [(4, .int 0), (0, .ref 162), (1, .int 1), (2, .int (xs 2)), (3, .int (xs 3))]) (st2 := [.int (xs 2)]) (h2 := ((((zH0.set 106 (.inl (2, 2, [0, 1]))).set 105 (.inl (0, 2, [0, 0]))).set 107 (.inl (0, 132, [0, 0, 0, 0, 0, 0, 0, 0, 0, 0, 0, 0, 0, 0, 0, 0, 0, 0, 0, 0, 0, 0, 0, 0, 0, 0, 0, 0, 0, 0, 0, 0, 0, 0, 0, 0, 0, 0, 0, 0, 0, 0, 0, 0, 0, 0, 0, 0, 0, 0, 0, 0, 0, 0, 0, 0, 0, 0, 0, 0, 0, 0, 0, 0, 0, 0, 0, 0, 0, 0, 0, 0]))).set 109 (.inl (0, 22, [0, 0, 0, 0, 0, 0, 0, 0, 0, 0, 0, 0])))) (dc2 := 0) (ds2 := 0) 4 rfl ?_
    refine zT_if0 false rfl (zc_lt_f (by show ((xs 2) : Int32).toInt ≥ 0; omega)) ?_
    refine zT_here (pc2 := 21) rfl ?_
    refine zT_gos (f := 200000) (pc2 := 24) (ls2 := [(4, .int 0), (0, .ref 162), (1, .int 1), (2, .int (xs 2)), (3, .int (xs 3))]) (st2 := [.int 0, .int (xs 2)]) (h2 := ((((zH0.set 106 (.inl (2, 2, [0, 1]))).set 105 (.inl (0, 2, [0, 0]))).set 107 (.inl (0, 132, [0, 0, 0, 0, 0, 0, 0, 0, 0, 0, 0, 0, 0, 0, 0, 0, 0, 0, 0, 0, 0, 0, 0, 0, 0, 0, 0, 0, 0, 0, 0, 0, 0, 0, 0, 0, 0, 0, 0, 0, 0, 0, 0, 0, 0, 0, 0, 0, 0, 0, 0, 0, 0, 0, 0, 0, 0, 0, 0, 0, 0, 0, 0, 0, 0, 0, 0, 0, 0, 0, 0, 0]))).set 109 (.inl (0, 22, [0, 0, 0, 0, 0, 0, 0, 0, 0, 0, 0, 0])))) (dc2 := 0) (ds2 := 0) 2 rfl ?_
    refine zT_if2 true rfl (zc_gt_t (by show ((xs 2) : Int32).toInt > 0; omega)) ?_
    refine zT_here (pc2 := 34) rfl ?_
    refine zT_gos (f := 200000) (pc2 := 54) (ls2 := [(4, .int 0), (0, .ref 162), (1, .int 1), (2, .int (xs 2)), (3, .int (xs 3))]) (st2 := [.int (-99)]) (h2 := ((((zH0.set 106 (.inl (2, 2, [0, 1]))).set 105 (.inl (0, 2, [0, 0]))).set 107 (.inl (0, 132, [0, 0, 0, 0, 0, 0, 0, 0, 0, 0, 0, 0, 0, 0, 0, 0, 0, 0, 0, 0, 0, 0, 0, 0, 0, 0, 0, 0, 0, 0, 0, 0, 0, 0, 0, 0, 0, 0, 0, 0, 0, 0, 0, 0, 0, 0, 0, 0, 0, 0, 0, 0, 0, 0, 0, 0, 0, 0, 0, 0, 0, 0, 0, 0, 0, 0, 0, 0, 0, 0, 0, 0]))).set 109 (.inl (0, 22, [0, 0, 0, 0, 0, 0, 0, 0, 0, 0, 0, 0])))) (dc2 := 0) (ds2 := 0) 2 rfl ?_
    exact zT_ret rfl rfl
  refine zT_here (pc2 := 1092) rfl ?_
  refine zT_gos (f := 200000) (pc2 := 1811) (ls2 := [(4, .int 6), (3, .ref 232), (2, .ref 162), (1, .ref 0), (0, .ref 11)]) (st2 := [.int 1]) (h2 := ((((zH0.set 106 (.inl (2, 2, [0, 1]))).set 105 (.inl (0, 2, [0, 0]))).set 107 (.inl (0, 132, [0, 0, 0, 0, 0, 0, 0, 0, 0, 0, 0, 0, 0, 0, 0, 0, 0, 0, 0, 0, 0, 0, 0, 0, 0, 0, 0, 0, 0, 0, 0, 0, 0, 0, 0, 0, 0, 0, 0, 0, 0, 0, 0, 0, 0, 0, 0, 0, 0, 0, 0, 0, 0, 0, 0, 0, 0, 0, 0, 0, 0, 0, 0, 0, 0, 0, 0, 0, 0, 0, 0, 0]))).set 109 (.inl (0, 22, [0, 0, 0, 0, 0, 0, 0, 0, 0, 0, 0, 0])))) (dc2 := 117) (ds2 := 29934) 10 rfl ?_
  exact zT_ret rfl rfl
set_option maxRecDepth 1000000 in
set_option maxHeartbeats 4000000 in
theorem zo_23_8 (xs : Nat → Int32) (h0 : xs 0 &&& 63 = 23) (h1 : (xs 1).toInt ≠ 0) (h3 : (xs 3).toInt < 0) (h2 : xs 2 = 0) : zDone xs := by
  refine ⟨((((zH0.set 106 (.inl (2, 2, [0, 1]))).set 105 (.inl (0, 2, [0, 0]))).set 107 (.inl (0, 132, [0, 0, 0, 0, 0, 0, 0, 0, 0, 0, 0, 0, 0, 0, 0, 0, 0, 0, 0, 0, 0, 0, 0, 0, 0, 0, 0, 0, 0, 0, 0, 0, 0, 0, 0, 0, 0, 0, 0, 0, 0, 0, 0, 0, 0, 0, 0, 0, 0, 0, 0, 0, 0, 0, 0, 0, 0, 0, 0, 0, 0, 0, 0, 0, 0, 0, 0, 0, 0, 0, 0, 0]))).set 109 (.inl (0, 22, [0, 0, 0, 0, 0, 0, 0, 0, 0, 0, 0, 0]))), 117, 29934, ?_, by decide, by decide⟩
  refine zT_gos (f := 200000) (pc2 := 37) (ls2 := [(4, .int 0), (3, .ref 232), (2, .ref 162), (1, .ref 0), (0, .ref 11)]) (st2 := [.int (xs 0)]) (h2 := zH0) (dc2 := 117) (ds2 := 29934) 9 rfl ?_
  refine zT_gos (f := 200000) (pc2 := 40) (ls2 := [(4, .int 0), (3, .ref 232), (2, .ref 162), (1, .ref 0), (0, .ref 11)]) (st2 := [.int ((xs 0) &&& (63 : Int32))]) (h2 := zH0) (dc2 := 117) (ds2 := 29934) 2 rfl ?_
  refine zT_val h0 ?_
  refine zT_gos (f := 200000) (pc2 := 1039) (ls2 := [(4, .int 0), (3, .ref 232), (2, .ref 162), (1, .ref 0), (0, .ref 11)]) (st2 := [.int (xs 1), .ref 0]) (h2 := zH0) (dc2 := 117) (ds2 := 29934) 7 rfl ?_
  refine zT_if0 false rfl (zc_eq_f (by show ((xs 1) : Int32).toInt ≠ 0; omega)) ?_
  refine zT_here (pc2 := 1042) rfl ?_
  refine zT_gos (f := 200000) (pc2 := 1053) (ls2 := [(4, .int 0), (3, .ref 232), (2, .ref 162), (1, .ref 0), (0, .ref 11)]) (st2 := [.int (xs 2), .int 1, .ref 0]) (h2 := zH0) (dc2 := 117) (ds2 := 29934) 7 rfl ?_
  refine zT_val h2 ?_
  refine zT_gos (f := 200000) (pc2 := 1059) (ls2 := [(4, .int 0), (3, .ref 232), (2, .ref 162), (1, .ref 0), (0, .ref 11)]) (st2 := [.int (xs 3), .int 0, .int 1, .ref 0]) (h2 := zH0) (dc2 := 117) (ds2 := 29934) 5 rfl ?_
  refine zT_call (v := some (.int (-99))) (h2 := zH0) (d1 := 0) (s1 := 0) rfl rfl ?_ ?_
  · refine zT_gos (f := 200000) (pc2 := 1) (ls2 := [(0, .ref 0), (1, .int 1), (2, .int 0), (3, .int (xs 3))]) (st2 := [.int (xs 3)]) (h2 := zH0) (dc2 := 0) (ds2 := 0) 1 rfl ?_
    refine zT_call (v := some (.int 1)) (h2 := zH0) (d1 := 0) (s1 := 0) rfl rfl ?_ ?_
    · refine zT_gos (f := 200000) (pc2 := 1) (ls2 := [(0, .int (xs 3))]) (st2 := [.int (xs 3)]) (h2 := zH0) (dc2 := 0) (ds2 := 0) 1 rfl ?_
      refine zT_if0 true rfl (zc_lt_t (by show ((xs 3) : Int32).toInt < 0; omega)) ?_
      refine zT_here (pc2 := 10) rfl ?_
      refine zT_gos (f := 200000) (pc2 := 15) (ls2 := [(0, .int (xs 3))]) (st2 := [.int 1]) (h2 := zH0) (dc2 := 0) (ds2 := 0) 2 rfl ?_
      exact zT_ret rfl rfl
    refine zT_here (pc2 := 4) rfl ?_
    refine zT_gos (f := 200000) (pc2 := 9) (ls2 := [(0, .ref 0), (1, .int 1), (2, .int 0), (3, .int (xs 3))]) (st2 := [.int (-99)]) (h2 := zH0) (dc2 := 0) (ds2 := 0) 2 rfl ?_
    exact zT_ret rfl rfl
  refine zT_here (pc2 := 1062) rfl ?_
  refine zT_gos (f := 200000) (pc2 := 1069) (ls2 := [(4, .int 0), (3, .ref 232), (2, .ref 162), (1, .ref 0), (0, .ref 11)]) (st2 := [.int (xs 1), .ref 162, .int (-99)]) (h2 := zH0) (dc2 := 117) (ds2 := 29934) 6 rfl ?_
  refine zT_if0 false rfl (zc_eq_f (by show ((xs 1) : Int32).toInt ≠ 0; omega)) ?_
  refine zT_here (pc2 := 1072) rfl ?_
  refine zT_gos (f := 200000) (pc2 := 1083) (ls2 := [(4, .int 0), (3, .ref 232), (2, .ref 162), (1, .ref 0), (0, .ref 11)]) (st2 := [.int (xs 2), .int 1, .ref 162, .int (-99)]) (h2 := zH0) (dc2 := 117) (ds2 := 29934) 7 rfl ?_
  refine zT_val h2 ?_
  refine zT_gos (f := 200000) (pc2 := 1089) (ls2 := [(4, .int 0), (3, .ref 232), (2, .ref 162), (1, .ref 0), (0, .ref 11)]) (st2 := [.int (xs 3), .int 0, .int 1, .ref 162, .int (-99)]) (h2 := zH0) (dc2 := 117) (ds2 := 29934) 5 rfl ?_
  refine zT_call (v := some (.int (-99))) (h2 := ((((zH0.set 106 (.inl (2, 2, [0, 1]))).set 105 (.inl (0, 2, [0, 0]))).set 107 (.inl (0, 132, [0, 0, 0, 0, 0, 0, 0, 0, 0, 0, 0, 0, 0, 0, 0, 0, 0, 0, 0, 0, 0, 0, 0, 0, 0, 0, 0, 0, 0, 0, 0, 0, 0, 0, 0, 0, 0, 0, 0, 0, 0, 0, 0, 0, 0, 0, 0, 0, 0, 0, 0, 0, 0, 0, 0, 0, 0, 0, 0, 0, 0, 0, 0, 0, 0, 0, 0, 0, 0, 0, 0, 0]))).set 109 (.inl (0, 22, [0, 0, 0, 0, 0, 0, 0, 0, 0, 0, 0, 0])))) (d1 := 0) (s1 := 0) rfl rfl ?_ ?_
  · refine zT_gos (f := 200000) (pc2 := 7) (ls2 := [(0, .ref 162), (1, .int 1), (2, .int 0), (3, .int (xs 3))]) (st2 := [.int 1, .ref 162]) (h2 := zH0) (dc2 := 0) (ds2 := 0) 5 rfl ?_
    refine zT_call rfl rfl (zT_le (zg0_le 6 xs) zk_o_116) ?_
    refine zT_here (pc2 := 10) rfl ?_
    refine zT_gos (f := 200000) (pc2 := 28) (ls2 := [(4, .int 0), (0, .ref 162), (1, .int 1), (2, .int 0), (3, .int (xs 3))]) (st2 := [.int (xs 3)]) (h2 := ((((zH0.set 106 (.inl (2, 2, [0, 1]))).set 105 (.inl (0, 2, [0, 0]))).set 107 (.inl (0, 132, [0, 0, 0, 0, 0, 0, 0, 0, 0, 0, 0, 0, 0, 0, 0, 0, 0, 0, 0, 0, 0, 0, 0, 0, 0, 0, 0, 0, 0, 0, 0, 0, 0, 0, 0, 0, 0, 0, 0, 0, 0, 0, 0, 0, 0, 0, 0, 0, 0, 0, 0, 0, 0, 0, 0, 0, 0, 0, 0, 0, 0, 0, 0, 0, 0, 0, 0, 0, 0, 0, 0, 0]))).set 109 (.inl (0, 22, [0, 0, 0, 0, 0, 0, 0, 0, 0, 0, 0, 0])))) (dc2 := 0) (ds2 := 0) 9 rfl ?_
    refine zT_call (v := some (.int 0)) (h2 := ((((zH0.set 106 (.inl (2, 2, [0, 1]))).set 105 (.inl (0, 2, [0, 0]))).set 107 (.inl (0, 132, [0, 0, 0, 0, 0, 0, 0, 0, 0, 0, 0, 0, 0, 0, 0, 0, 0, 0, 0, 0, 0, 0, 0, 0, 0, 0, 0, 0, 0, 0, 0, 0, 0, 0, 0, 0, 0, 0, 0, 0, 0, 0, 0, 0, 0, 0, 0, 0, 0, 0, 0, 0, 0, 0, 0, 0, 0, 0, 0, 0, 0, 0, 0, 0, 0, 0, 0, 0, 0, 0, 0, 0]))).set 109 (.inl (0, 22, [0, 0, 0, 0, 0, 0, 0, 0, 0, 0, 0, 0])))) (d1 := 0) (s1 := 0) rfl rfl ?_ ?_
    · refine zT_gos (f := 200000) (pc2 := 1) (ls2 := [(0, .int (xs 3))]) (st2 := [.int (xs 3)]) (h2 := ((((zH0.set 106 (.inl (2, 2, [0, 1]))).set 105 (.inl (0, 2, [0, 0]))).set 107 (.inl (0, 132, [0, 0, 0, 0, 0, 0, 0, 0, 0, 0, 0, 0, 0, 0, 0, 0, 0, 0, 0, 0, 0, 0, 0, 0, 0, 0, 0, 0, 0, 0, 0, 0, 0, 0, 0, 0, 0, 0, 0, 0, 0, 0, 0, 0, 0, 0, 0, 0, 0, 0, 0, 0, 0, 0, 0, 0, 0, 0, 0, 0, 0, 0, 0, 0, 0, 0, 0, 0, 0, 0, 0, 0]))).set 109 (.inl (0, 22, [0, 0, 0, 0, 0, 0, 0, 0, 0, 0, 0, 0])))) (dc2 := 0) (ds2 := 0) 1 rfl ?_
      refine zT_if0 true rfl (zc_lt_t (by show ((xs 3) : Int32).toInt < 0; omega)) ?_
      refine zT_here (pc2 := 14) rfl ?_
      refine zT_gos (f := 200000) (pc2 := 15) (ls2 := [(0, .int (xs 3))]) (st2 := [.int 0]) (h2 := ((((zH0.set 106 (.inl (2, 2, [0, 1]))).set 105 (.inl (0, 2, [0, 0]))).set 107 (.inl (0, 132, [0, 0, 0, 0, 0, 0, 0, 0, 0, 0, 0, 0, 0, 0, 0, 0, 0, 0, 0, 0, 0, 0, 0, 0, 0, 0, 0, 0, 0, 0, 0, 0, 0, 0, 0, 0, 0, 0, 0, 0, 0, 0, 0, 0, 0, 0, 0, 0, 0, 0, 0, 0, 0, 0, 0, 0, 0, 0, 0, 0, 0, 0, 0, 0, 0, 0, 0, 0, 0, 0, 0, 0]))).set 109 (.inl (0, 22, [0, 0, 0, 0, 0, 0, 0, 0, 0, 0, 0, 0])))) (dc2 := 0) (ds2 := 0) 1 rfl ?_
      exact zT_ret rfl rfl
    refine zT_here (pc2 := 31) rfl ?_
    refine zT_gos (f := 200000) (pc2 := 54) (ls2 := [(4, .int 0), (0, .ref 162), (1, .int 1), (2, .int 0), (3, .int (xs 3))]) (st2 := [.int (-99)]) (h2 := ((((zH0.set 106 (.inl (2, 2, [0, 1]))).set 105 (.inl (0, 2, [0, 0]))).set 107 (.inl (0, 132, [0, 0, 0, 0, 0, 0, 0, 0, 0, 0, 0, 0, 0, 0, 0, 0, 0, 0, 0, 0, 0, 0, 0, 0, 0, 0, 0, 0, 0, 0, 0, 0, 0, 0, 0, 0, 0, 0, 0, 0, 0, 0, 0, 0, 0, 0, 0, 0, 0, 0, 0, 0, 0, 0, 0, 0, 0, 0, 0, 0, 0, 0, 0, 0, 0, 0, 0, 0, 0, 0, 0, 0]))).set 109 (.inl (0, 22, [0, 0, 0, 0, 0, 0, 0, 0, 0, 0, 0, 0])))) (dc2 := 0) (ds2 := 0) 3 rfl ?_
    exact zT_ret rfl rfl
  refine zT_here (pc2 := 1092) rfl ?_
  refine zT_gos (f := 200000) (pc2 := 1811) (ls2 := [(4, .int 6), (3, .ref 232), (2, .ref 162), (1, .ref 0), (0, .ref 11)]) (st2 := [.int 1]) (h2 := ((((zH0.set 106 (.inl (2, 2, [0, 1]))).set 105 (.inl (0, 2, [0, 0]))).set 107 (.inl (0, 132, [0, 0, 0, 0, 0, 0, 0, 0, 0, 0, 0, 0, 0, 0, 0, 0, 0, 0, 0, 0, 0, 0, 0, 0, 0, 0, 0, 0, 0, 0, 0, 0, 0, 0, 0, 0, 0, 0, 0, 0, 0, 0, 0, 0, 0, 0, 0, 0, 0, 0, 0, 0, 0, 0, 0, 0, 0, 0, 0, 0, 0, 0, 0, 0, 0, 0, 0, 0, 0, 0, 0, 0]))).set 109 (.inl (0, 22, [0, 0, 0, 0, 0, 0, 0, 0, 0, 0, 0, 0])))) (dc2 := 117) (ds2 := 29934) 10 rfl ?_
  exact zT_ret rfl rfl
set_option maxRecDepth 1000000 in
set_option maxHeartbeats 4000000 in
theorem zo_23_9 (xs : Nat → Int32) (h0 : xs 0 &&& 63 = 23) (h1 : (xs 1).toInt ≠ 0) (h3 : 5 < (xs 3).toInt) (h2 : (xs 2).toInt < 0) : zDone xs := by
  refine ⟨((((zH0.set 106 (.inl (2, 2, [0, 1]))).set 105 (.inl (0, 2, [0, 0]))).set 107 (.inl (0, 132, [0, 0, 0, 0, 0, 0, 0, 0, 0, 0, 0, 0, 0, 0, 0, 0, 0, 0, 0, 0, 0, 0, 0, 0, 0, 0, 0, 0, 0, 0, 0, 0, 0, 0, 0, 0, 0, 0, 0, 0, 0, 0, 0, 0, 0, 0, 0, 0, 0, 0, 0, 0, 0, 0, 0, 0, 0, 0, 0, 0, 0, 0, 0, 0, 0, 0, 0, 0, 0, 0, 0, 0]))).set 109 (.inl (0, 22, [0, 0, 0, 0, 0, 0, 0, 0, 0, 0, 0, 0]))), 117, 29934, ?_, by decide, by decide⟩
  refine zT_gos (f := 200000) (pc2 := 37) (ls2 := [(4, .int 0), (3, .ref 232), (2, .ref 162), (1, .ref 0), (0, .ref 11)]) (st2 := [.int (xs 0)]) (h2 := zH0) (dc2 := 117) (ds2 := 29934) 9 rfl ?_
  refine zT_gos (f := 200000) (pc2 := 40) (ls2 := [(4, .int 0), (3, .ref 232), (2, .ref 162), (1, .ref 0), (0, .ref 11)]) (st2 := [.int ((xs 0) &&& (63 : Int32))]) (h2 := zH0) (dc2 := 117) (ds2 := 29934) 2 rfl ?_
  refine zT_val h0 ?_
  refine zT_gos (f := 200000) (pc2 := 1039) (ls2 := [(4, .int 0), (3, .ref 232), (2, .ref 162), (1, .ref 0), (0, .ref 11)]) (st2 := [.int (xs 1), .ref 0]) (h2 := zH0) (dc2 := 117) (ds2 := 29934) 7 rfl ?_
  refine zT_if0 false rfl (zc_eq_f (by show ((xs 1) : Int32).toInt ≠ 0; omega)) ?_
  refine zT_here (pc2 := 1042) rfl ?_
  refine zT_gos (f := 200000) (pc2 := 1053) (ls2 := [(4, .int 0), (3, .ref 232), (2, .ref 162), (1, .ref 0), (0, .ref 11)]) (st2 := [.int (xs 2), .int 1, .ref 0]) (h2 := zH0) (dc2 := 117) (ds2 := 29934) 7 rfl ?_
  refine zT_gos (f := 200000) (pc2 := 1059) (ls2 := [(4, .int 0), (3, .ref 232), (2, .ref 162), (1, .ref 0), (0, .ref 11)]) (st2 := [.int (xs 3), .int (xs 2), .int 1, .ref 0]) (h2 := zH0) (dc2 := 117) (ds2 := 29934) 5 rfl ?_
  refine zT_call (v := some (.int (-99))) (h2 := zH0) (d1 := 0) (s1 := 0) rfl rfl ?_ ?_
  · refine zT_gos (f := 200000) (pc2 := 1) (ls2 := [(0, .ref 0), (1, .int 1), (2, .int (xs 2)), (3, .int (xs 3))]) (st2 := [.int (xs 3)]) (h2 := zH0) (dc2 := 0) (ds2 := 0) 1 rfl ?_
    refine zT_call (v := some (.int 1)) (h2 := zH0) (d1 := 0) (s1 := 0) rfl rfl ?_ ?_
    · refine zT_gos (f := 200000) (pc2 := 1) (ls2 := [(0, .int (xs 3))]) (st2 := [.int (xs 3)]) (h2 := zH0) (dc2 := 0) (ds2 := 0) 1 rfl ?_
      refine zT_if0 false rfl (zc_lt_f (by show ((xs 3) : Int32).toInt ≥ 0; omega)) ?_
      refine zT_here (pc2 := 4) rfl ?_
      refine zT_gos (f := 200000) (pc2 := 7) (ls2 := [(0, .int (xs 3))]) (st2 := [.int 6, .int (xs 3)]) (h2 := zH0) (dc2 := 0) (ds2 := 0) 2 rfl ?_
      refine zT_if2 false rfl (zc_lt_f (by show ((xs 3) : Int32).toInt ≥ 6; omega)) ?_
      refine zT_here (pc2 := 10) rfl ?_
      refine zT_gos (f := 200000) (pc2 := 15) (ls2 := [(0, .int (xs 3))]) (st2 := [.int 1]) (h2 := zH0) (dc2 := 0) (ds2 := 0) 2 rfl ?_
      exact zT_ret rfl rfl
    refine zT_here (pc2 := 4) rfl ?_
    refine zT_gos (f := 200000) (pc2 := 9) (ls2 := [(0, .ref 0), (1, .int 1), (2, .int (xs 2)), (3, .int (xs 3))]) (st2 := [.int (-99)]) (h2 := zH0) (dc2 := 0) (ds2 := 0) 2 rfl ?_
    exact zT_ret rfl rfl
  refine zT_here (pc2 := 1062) rfl ?_
  refine zT_gos (f := 200000) (pc2 := 1069) (ls2 := [(4, .int 0), (3, .ref 232), (2, .ref 162), (1, .ref 0), (0, .ref 11)]) (st2 := [.int (xs 1), .ref 162, .int (-99)]) (h2 := zH0) (dc2 := 117) (ds2 := 29934) 6 rfl ?_
  refine zT_if0 false rfl (zc_eq_f (by show ((xs 1) : Int32).toInt ≠ 0; omega)) ?_
  refine zT_here (pc2 := 1072) rfl ?_
  refine zT_gos (f := 200000) (pc2 := 1083) (ls2 := [(4, .int 0), (3, .ref 232), (2, .ref 162), (1, .ref 0), (0, .ref 11)]) (st2 := [.int (xs 2), .int 1, .ref 162, .int (-99)]) (h2 := zH0) (dc2 := 117) (ds2 := 29934) 7 rfl ?_
  refine zT_gos (f := 200000) (pc2 := 1089) (ls2 := [(4, .int 0), (3, .ref 232), (2, .ref 162), (1, .ref 0), (0, .ref 11)]) (st2 := [.int (xs 3), .int (xs 2), .int 1, .ref 162, .int (-99)]) (h2 := zH0) (dc2 := 117) (ds2 := 29934) 5 rfl ?_
  refine zT_call (v := some (.int (-99))) (h2 := ((((zH0.set 106 (.inl (2, 2, [0, 1]))).set 105 (.inl (0, 2, [0, 0]))).set 107 (.inl (0, 132, [0, 0, 0, 0, 0, 0, 0, 0, 0, 0, 0, 0, 0, 0, 0, 0, 0, 0, 0, 0, 0, 0, 0, 0, 0, 0, 0, 0, 0, 0, 0, 0, 0, 0, 0, 0, 0, 0, 0, 0, 0, 0, 0, 0, 0, 0, 0, 0, 0, 0, 0, 0, 0, 0, 0, 0, 0, 0, 0, 0, 0, 0, 0, 0, 0, 0, 0, 0, 0, 0, 0, 0]))).set 109 (.inl (0, 22, [0, 0, 0, 0, 0, 0, 0, 0, 0, 0, 0, 0])))) (d1 := 0) (s1 := 0) rfl rfl ?_ ?_
  · refine zT_gos (f := 200000) (pc2 := 7) (ls2 := [(0, .ref 162), (1, .int 1), (2, .int (xs 2)), (3, .int (xs 3))]) (st2 := [.int 1, .ref 162]) (h2 := zH0) (dc2 := 0) (ds2 := 0) 5 rfl ?_
    refine zT_call rfl rfl (zT_le (zg0_le 6 xs) zk_o_116) ?_
    refine zT_here (pc2 := 10) rfl ?_
    refine zT_gos (f := 200000) (pc2 := 18) (ls2 := [(4, .int 0), (0, .ref 162), (1, .int 1), (2, .int (xs 2)), (3, .int (xs 3))]) (st2 := [.int (xs 2)]) (h2 := ((((zH0.set 106 (.inl (2, 2, [0, 1]))).set 105 (.inl (0, 2, [0, 0]))).set 107 (.inl (0, 132, [0, 0, 0, 0, 0, 0, 0, 0, 0, 0, 0, 0, 0, 0, 0, 0, 0, 0, 0, 0, 0, 0, 0, 0, 0, 0, 0, 0, 0, 0, 0, 0, 0, 0, 0, 0, 0, 0, 0, 0, 0, 0, 0, 0, 0, 0, 0, 0, 0, 0, 0, 0, 0, 0, 0, 0, 0, 0, 0, 0, 0, 0, 0, 0, 0, 0, 0, 0, 0, 0, 0, 0]))).set 109 (.inl (0, 22, [0, 0, 0, 0, 0, 0, 0, 0, 0, 0, 0, 0])))) (dc2 := 0) (ds2 := 0) 4 rfl ?_
    refine zT_if0 true rfl (zc_lt_t (by show ((xs 2) : Int32).toInt < 0; omega)) ?_
    refine zT_here (pc2 := 34) rfl ?_
    refine zT_gos (f := 200000) (pc2 := 54) (ls2 := [(4, .int 0), (0, .ref 162), (1, .int 1), (2, .int (xs 2)), (3, .int (xs 3))]) (st2 := [.int (-99)]) (h2 := ((((zH0.set 106 (.inl (2, 2, [0, 1]))).set 105 (.inl (0, 2, [0, 0]))).set 107 (.inl (0, 132, [0, 0, 0, 0, 0, 0, 0, 0, 0, 0, 0, 0, 0, 0, 0, 0, 0, 0, 0, 0, 0, 0, 0, 0, 0, 0, 0, 0, 0, 0, 0, 0, 0, 0, 0, 0, 0, 0, 0, 0, 0, 0, 0, 0, 0, 0, 0, 0, 0, 0, 0, 0, 0, 0, 0, 0, 0, 0, 0, 0, 0, 0, 0, 0, 0, 0, 0, 0, 0, 0, 0, 0]))).set 109 (.inl (0, 22, [0, 0, 0, 0, 0, 0, 0, 0, 0, 0, 0, 0])))) (dc2 := 0) (ds2 := 0) 2 rfl ?_
    exact zT_ret rfl rfl
  refine zT_here (pc2 := 1092) rfl ?_
  refine zT_gos (f := 200000) (pc2 := 1811) (ls2 := [(4, .int 6), (3, .ref 232), (2, .ref 162), (1, .ref 0), (0, .ref 11)]) (st2 := [.int 1]) (h2 := ((((zH0.set 106 (.inl (2, 2, [0, 1]))).set 105 (.inl (0, 2, [0, 0]))).set 107 (.inl (0, 132, [0, 0, 0, 0, 0, 0, 0, 0, 0, 0, 0, 0, 0, 0, 0, 0, 0, 0, 0, 0, 0, 0, 0, 0, 0, 0, 0, 0, 0, 0, 0, 0, 0, 0, 0, 0, 0, 0, 0, 0, 0, 0, 0, 0, 0, 0, 0, 0, 0, 0, 0, 0, 0, 0, 0, 0, 0, 0, 0, 0, 0, 0, 0, 0, 0, 0, 0, 0, 0, 0, 0, 0]))).set 109 (.inl (0, 22, [0, 0, 0, 0, 0, 0, 0, 0, 0, 0, 0, 0])))) (dc2 := 117) (ds2 := 29934) 10 rfl ?_
  exact zT_ret rfl rfl
set_option maxRecDepth 1000000 in
set_option maxHeartbeats 4000000 in
theorem zo_23_10 (xs : Nat → Int32) (h0 : xs 0 &&& 63 = 23) (h1 : (xs 1).toInt ≠ 0) (h3 : 5 < (xs 3).toInt) (h2 : 0 < (xs 2).toInt) : zDone xs := by
  refine ⟨((((zH0.set 106 (.inl (2, 2, [0, 1]))).set 105 (.inl (0, 2, [0, 0]))).set 107 (.inl (0, 132, [0, 0, 0, 0, 0, 0, 0, 0, 0, 0, 0, 0, 0, 0, 0, 0, 0, 0, 0, 0, 0, 0, 0, 0, 0, 0, 0, 0, 0, 0, 0, 0, 0, 0, 0, 0, 0, 0, 0, 0, 0, 0, 0, 0, 0, 0, 0, 0, 0, 0, 0, 0, 0, 0, 0, 0, 0, 0, 0, 0, 0, 0, 0, 0, 0, 0, 0, 0, 0, 0, 0, 0]))).set 109 (.inl (0, 22, [0, 0, 0, 0, 0, 0, 0, 0, 0, 0, 0, 0]))), 117, 29934, ?_, by decide, by decide⟩
  refine zT_gos (f := 200000) (pc2 := 37) (ls2 := [(4, .int 0), (3, .ref 232), (2, .ref 162), (1, .ref 0), (0, .ref 11)]) (st2 := [.int (xs 0)]) (h2 := zH0) (dc2 := 117) (ds2 := 29934) 9 rfl ?_
  refine zT_gos (f := 200000) (pc2 := 40) (ls2 := [(4, .int 0), (3, .ref 232), (2, .ref 162), (1, .ref 0), (0, .ref 11)]) (st2 := [.int ((xs 0) &&& (63 : Int32))]) (h2 := zH0) (dc2 := 117) (ds2 := 29934) 2 rfl ?_
  refine zT_val h0 ?_
  refine zT_gos (f := 200000) (pc2 := 1039) (ls2 := [(4, .int 0), (3, .ref 232), (2, .ref 162), (1, .ref 0), (0, .ref 11)]) (st2 := [.int (xs 1), .ref 0]) (h2 := zH0) (dc2 := 117) (ds2 := 29934) 7 rfl ?_
  refine zT_if0 false rfl (zc_eq_f (by show ((xs 1) : Int32).toInt ≠ 0; omega)) ?_
  refine zT_here (pc2 := 1042) rfl ?_
  refine zT_gos (f := 200000) (pc2 := 1053) (ls2 := [(4, .int 0), (3, .ref 232), (2, .ref 162), (1, .ref 0), (0, .ref 11)]) (st2 := [.int (xs 2), .int 1, .ref 0]) (h2 := zH0) (dc2 := 117) (ds2 := 29934) 7 rfl ?_
  refine zT_gos (f := 200000) (pc2 := 1059) (ls2 := [(4, .int 0), (3, .ref 232), (2, .ref 162), (1, .ref 0), (0, .ref 11)]) (st2 := [.int (xs 3), .int (xs 2), .int 1, .ref 0]) (h2 := zH0) (dc2 := 117) (ds2 := 29934) 5 rfl ?_
  refine zT_call (v := some (.int (-99))) (h2 := zH0) (d1 := 0) (s1 := 0) rfl rfl ?_ ?_
  · refine zT_gos (f := 200000) (pc2 := 1) (ls2 := [(0, .ref 0), (1, .int 1), (2, .int (xs 2)), (3, .int (xs 3))]) (st2 := [.int (xs 3)]) (h2 := zH0) (dc2 := 0) (ds2 := 0) 1 rfl ?_
    refine zT_call (v := some (.int 1)) (h2 := zH0) (d1 := 0) (s1 := 0) rfl rfl ?_ ?_
    · refine zT_gos (f := 200000) (pc2 := 1) (ls2 := [(0, .int (xs 3))]) (st2 := [.int (xs 3)]) (h2 := zH0) (dc2 := 0) (ds2 := 0) 1 rfl ?_
      refine zT_if0 false rfl (zc_lt_f (by show ((xs 3) : Int32).toInt ≥ 0; omega)) ?_
      refine zT_here (pc2 := 4) rfl ?_
      refine zT_gos (f := 200000) (pc2 := 7) (ls2 := [(0, .int (xs 3))]) (st2 := [.int 6, .int (xs 3)]) (h2 := zH0) (dc2 := 0) (ds2 := 0) 2 rfl ?_
      refine zT_if2 false rfl (zc_lt_f (by show ((xs 3) : Int32).toInt ≥ 6; omega)) ?_
      refine zT_here (pc2 := 10) rfl ?_
      refine zT_gos (f := 200000) (pc2 := 15) (ls2 := [(0, .int (xs 3))]) (st2 := [.int 1]) (h2 := zH0) (dc2 := 0) (ds2 := 0) 2 rfl ?_
      exact zT_ret rfl rfl
    refine zT_here (pc2 := 4) rfl ?_
    refine zT_gos (f := 200000) (pc2 := 9) (ls2 := [(0, .ref 0), (1, .int 1), (2, .int (xs 2)), (3, .int (xs 3))]) (st2 := [.int (-99)]) (h2 := zH0) (dc2 := 0) (ds2 := 0) 2 rfl ?_
    exact zT_ret rfl rfl
  refine zT_here (pc2 := 1062) rfl ?_
  refine zT_gos (f := 200000) (pc2 := 1069) (ls2 := [(4, .int 0), (3, .ref 232), (2, .ref 162), (1, .ref 0), (0, .ref 11)]) (st2 := [.int (xs 1), .ref 162, .int (-99)]) (h2 := zH0) (dc2 := 117) (ds2 := 29934) 6 rfl ?_
  refine zT_if0 false rfl (zc_eq_f (by show ((xs 1) : Int32).toInt ≠ 0; omega)) ?_
  refine zT_here (pc2 := 1072) rfl ?_
  refine zT_gos (f := 200000) (pc2 := 1083) (ls2 := [(4, .int 0), (3, .ref 232), (2, .ref 162), (1, .ref 0), (0, .ref 11)]) (st2 := [.int (xs 2), .int 1, .ref 162, .int (-99)]) (h2 := zH0) (dc2 := 117) (ds2 := 29934) 7 rfl ?_
  refine zT_gos (f := 200000) (pc2 := 1089) (ls2 := [(4, .int 0), (3, .ref 232), (2, .ref 162), (1, .ref 0), (0, .ref 11)]) (st2 := [.int (xs 3), .int (xs 2), .int 1, .ref 162, .int (-99)]) (h2 := zH0) (dc2 := 117) (ds2 := 29934) 5 rfl ?_
  refine zT_call (v := some (.int (-99))) (h2 := ((((zH0.set 106 (.inl (2, 2, [0, 1]))).set 105 (.inl (0, 2, [0, 0]))).set 107 (.inl (0, 132, [0, 0, 0, 0, 0, 0, 0, 0, 0, 0, 0, 0, 0, 0, 0, 0, 0, 0, 0, 0, 0, 0, 0, 0, 0, 0, 0, 0, 0, 0, 0, 0, 0, 0, 0, 0, 0, 0, 0, 0, 0, 0, 0, 0, 0, 0, 0, 0, 0, 0, 0, 0, 0, 0, 0, 0, 0, 0, 0, 0, 0, 0, 0, 0, 0, 0, 0, 0, 0, 0, 0, 0]))).set 109 (.inl (0, 22, [0, 0, 0, 0, 0, 0, 0, 0, 0, 0, 0, 0])))) (d1 := 0) (s1 := 0) rfl rfl ?_ ?_
  · refine zT_gos (f := 200000) (pc2 := 7) (ls2 := [(0, .ref 162), (1, .int 1), (2, .int (xs 2)), (3, .int (xs 3))]) (st2 := [.int 1, .ref 162]) (h2 := zH0) (dc2 := 0) (ds2 := 0) 5 rfl ?_
    refine zT_call rfl rfl (zT_le (zg0_le 6 xs) zk_o_116) ?_
    refine zT_here (pc2 := 10) rfl ?_
    refine zT_gos (f := 200000) (pc2 := 18) (ls2 := [(4, .int 0), (0, .ref 162), (1, .int 1), (2, .int (xs 2)), (3, .int (xs 3))]) (st2 := [.int (xs 2)]) (h2 := ((((zH0.set 106 (.inl (2, 2, [0, 1]))).set 105 (.inl (0, 2, [0, 0]))).set 107 (.inl (0, 132, [0, 0, 0, 0, 0, 0, 0, 0, 0, 0, 0, 0, 0, 0, 0, 0, 0, 0, 0, 0, 0, 0, 0, 0, 0, 0, 0, 0, 0, 0, 0, 0, 0, 0, 0, 0, 0, 0, 0, 0, 0, 0, 0, 0, 0, 0, 0, 0, 0, 0, 0, 0, 0, 0, 0, 0, 0, 0, 0, 0, 0, 0, 0, 0, 0, 0, 0, 0, 0, 0, 0, 0]))).set 109 (.inl (0, 22, [0, 0, 0, 0, 0, 0, 0, 0, 0, 0, 0, 0])))) (dc2 := 0) (ds2 := 0) 4 rfl ?_
    refine zT_if0 false rfl (zc_lt_f (by show ((xs 2) : Int32).toInt ≥ 0; omega)) ?_
    refine zT_here (pc2 := 21) rfl ?_
    refine zT_gos (f := 200000) (pc2 := 24) (ls2 := [(4, .int 0), (0, .ref 162), (1, .int 1), (2, .int (xs 2)), (3, .int (xs 3))]) (st2 := [.int 0, .int (xs 2)]) (h2 := ((((zH0.set 106 (.inl (2, 2, [0, 1]))).set 105 (.inl (0, 2, [0, 0]))).set 107 (.inl (0, 132, [0, 0, 0, 0, 0, 0, 0, 0, 0, 0, 0, 0, 0, 0, 0, 0, 0, 0, 0, 0, 0, 0, 0, 0, 0, 0, 0, 0, 0, 0, 0, 0, 0, 0, 0, 0, 0, 0, 0, 0, 0, 0, 0, 0, 0, 0, 0, 0, 0, 0, 0, 0, 0, 0, 0, 0, 0, 0, 0, 0, 0, 0, 0, 0, 0, 0, 0, 0, 0, 0, 0, 0]))).set 109 (.inl (0, 22, [0, 0, 0, 0, 0, 0, 0, 0, 0, 0, 0, 0])))) (dc2 := 0) (ds2 := 0) 2 rfl ?_
    refine zT_if2 true rfl (zc_gt_t (by show ((xs 2) : Int32).toInt > 0; omega)) ?_
    refine zT_here (pc2 := 34) rfl ?_
    refine zT_gos (f := 200000) (pc2 := 54) (ls2 := [(4, .int 0), (0, .ref 162), (1, .int 1), (2, .int (xs 2)), (3, .int (xs 3))]) (st2 := [.int (-99)]) (h2 := ((((zH0.set 106 (.inl (2, 2, [0, 1]))).set 105 (.inl (0, 2, [0, 0]))).set 107 (.inl (0, 132, [0, 0, 0, 0, 0, 0, 0, 0, 0, 0, 0, 0, 0, 0, 0, 0, 0, 0, 0, 0, 0, 0, 0, 0, 0, 0, 0, 0, 0, 0, 0, 0, 0, 0, 0, 0, 0, 0, 0, 0, 0, 0, 0, 0, 0, 0, 0, 0, 0, 0, 0, 0, 0, 0, 0, 0, 0, 0, 0, 0, 0, 0, 0, 0, 0, 0, 0, 0, 0, 0, 0, 0]))).set 109 (.inl (0, 22, [0, 0, 0, 0, 0, 0, 0, 0, 0, 0, 0, 0])))) (dc2 := 0) (ds2 := 0) 2 rfl ?_
    exact zT_ret rfl rfl
  refine zT_here (pc2 := 1092) rfl ?_
  refine zT_gos (f := 200000) (pc2 := 1811) (ls2 := [(4, .int 6), (3, .ref 232), (2, .ref 162), (1, .ref 0), (0, .ref 11)]) (st2 := [.int 1]) (h2 := ((((zH0.set 106 (.inl (2, 2, [0, 1]))).set 105 (.inl (0, 2, [0, 0]))).set 107 (.inl (0, 132, [0, 0, 0, 0, 0, 0, 0, 0, 0, 0, 0, 0, 0, 0, 0, 0, 0, 0, 0, 0, 0, 0, 0, 0, 0, 0, 0, 0, 0, 0, 0, 0, 0, 0, 0, 0, 0, 0, 0, 0, 0, 0, 0, 0, 0, 0, 0, 0, 0, 0, 0, 0, 0, 0, 0, 0, 0, 0, 0, 0, 0, 0, 0, 0, 0, 0, 0, 0, 0, 0, 0, 0]))).set 109 (.inl (0, 22, [0, 0, 0, 0, 0, 0, 0, 0, 0, 0, 0, 0])))) (dc2 := 117) (ds2 := 29934) 10 rfl ?_
  exact zT_ret rfl rfl
set_option maxRecDepth 1000000 in
set_option maxHeartbeats 4000000 in
theorem zo_23_11 (xs : Nat → Int32) (h0 : xs 0 &&& 63 = 23) (h1 : (xs 1).toInt ≠ 0) (h3 : 5 < (xs 3).toInt) (h2 : xs 2 = 0) : zDone xs := by
  refine ⟨((((zH0.set 106 (.inl (2, 2, [0, 1]))).set 105 (.inl (0, 2, [0, 0]))).set 107 (.inl (0, 132, [0, 0, 0, 0, 0, 0, 0, 0, 0, 0, 0, 0, 0, 0, 0, 0, 0, 0, 0, 0, 0, 0, 0, 0, 0, 0, 0, 0, 0, 0, 0, 0, 0, 0, 0, 0, 0, 0, 0, 0, 0, 0, 0, 0, 0, 0, 0, 0, 0, 0, 0, 0, 0, 0, 0, 0, 0, 0, 0, 0, 0, 0, 0, 0, 0, 0, 0, 0, 0, 0, 0, 0]))).set 109 (.inl (0, 22, [0, 0, 0, 0, 0, 0, 0, 0, 0, 0, 0, 0]))), 117, 29934, ?_, by decide, by decide⟩
  refine zT_gos (f := 200000) (pc2 := 37) (ls2 := [(4, .int 0), (3, .ref 232), (2, .ref 162), (1, .ref 0), (0, .ref 11)]) (st2 := [.int (xs 0)]) (h2 := zH0) (dc2 := 117) (ds2 := 29934) 9 rfl ?_
  refine zT_gos (f := 200000) (pc2 := 40) (ls2 := [(4, .int 0), (3, .ref 232), (2, .ref 162), (1, .ref 0), (0, .ref 11)]) (st2 := [.int ((xs 0) &&& (63 : Int32))]) (h2 := zH0) (dc2 := 117) (ds2 := 29934) 2 rfl ?_
  refine zT_val h0 ?_
  refine zT_gos (f := 200000) (pc2 := 1039) (ls2 := [(4, .int 0), (3, .ref 232), (2, .ref 162), (1, .ref 0), (0, .ref 11)]) (st2 := [.int (xs 1), .ref 0]) (h2 := zH0) (dc2 := 117) (ds2 := 29934) 7 rfl ?_
  refine zT_if0 false rfl (zc_eq_f (by show ((xs 1) : Int32).toInt ≠ 0; omega)) ?_
  refine zT_here (pc2 := 1042) rfl ?_
  refine zT_gos (f := 200000) (pc2 := 1053) (ls2 := [(4, .int 0), (3, .ref 232), (2, .ref 162), (1, .ref 0), (0, .ref 11)]) (st2 := [.int (xs 2), .int 1, .ref 0]) (h2 := zH0) (dc2 := 117) (ds2 := 29934) 7 rfl ?_
  refine zT_val h2 ?_
  refine zT_gos (f := 200000) (pc2 := 1059) (ls2 := [(4, .int 0), (3, .ref 232), (2, .ref 162), (1, .ref 0), (0, .ref 11)]) (st2 := [.int (xs 3), .int 0, .int 1, .ref 0]) (h2 := zH0) (dc2 := 117) (ds2 := 29934) 5 rfl ?_
  refine zT_call (v := some (.int (-99))) (h2 := zH0) (d1 := 0) (s1 := 0) rfl rfl ?_ ?_
  · refine zT_gos (f := 200000) (pc2 := 1) (ls2 := [(0, .ref 0), (1, .int 1), (2, .int 0), (3, .int (xs 3))]) (st2 := [.int (xs 3)]) (h2 := zH0) (dc2 := 0) (ds2 := 0) 1 rfl ?_
    refine zT_call (v := some (.int 1)) (h2 := zH0) (d1 := 0) (s1 := 0) rfl rfl ?_ ?_
    · refine zT_gos (f := 200000) (pc2 := 1) (ls2 := [(0, .int (xs 3))]) (st2 := [.int (xs 3)]) (h2 := zH0) (dc2 := 0) (ds2 := 0) 1 rfl ?_
      refine zT_if0 false rfl (zc_lt_f (by show ((xs 3) : Int32).toInt ≥ 0; omega)) ?_
      refine zT_here (pc2 := 4) rfl ?_
      refine zT_gos (f := 200000) (pc2 := 7) (ls2 := [(0, .int (xs 3))]) (st2 := [.int 6, .int (xs 3)]) (h2 := zH0) (dc2 := 0) (ds2 := 0) 2 rfl ?_
      refine zT_if2 false rfl (zc_lt_f (by show ((xs 3) : Int32).toInt ≥ 6; omega)) ?_
      refine zT_here (pc2 := 10) rfl ?_
      refine zT_gos (f := 200000) (pc2 := 15) (ls2 := [(0, .int (xs 3))]) (st2 := [.int 1]) (h2 := zH0) (dc2 := 0) (ds2 := 0) 2 rfl ?_
      exact zT_ret rfl rfl
    refine zT_here (pc2 := 4) rfl ?_
    refine zT_gos (f := 200000) (pc2 := 9) (ls2 := [(0, .ref 0), (1, .int 1), (2, .int 0), (3, .int (xs 3))]) (st2 := [.int (-99)]) (h2 := zH0) (dc2 := 0) (ds2 := 0) 2 rfl ?_
    exact zT_ret rfl rfl
  refine zT_here (pc2 := 1062) rfl ?_
  refine zT_gos (f := 200000) (pc2 := 1069) (ls2 := [(4, .int 0), (3, .ref 232), (2, .ref 162), (1, .ref 0), (0, .ref 11)]) (st2 := [.int (xs 1), .ref 162, .int (-99)]) (h2 := zH0) (dc2 := 117) (ds2 := 29934) 6 rfl ?_
  refine zT_if0 false rfl (zc_eq_f (by show ((xs 1) : Int32).toInt ≠ 0; omega)) ?_
  refine zT_here (pc2 := 1072) rfl ?_
  refine zT_gos (f := 200000) (pc2 := 1083) (ls2 := [(4, .int 0), (3, .ref 232), (2, .ref 162), (1, .ref 0), (0, .ref 11)]) (st2 := [.int (xs 2), .int 1, .ref 162, .int (-99)]) (h2 := zH0) (dc2 := 117) (ds2 := 29934) 7 rfl ?_
  refine zT_val h2 ?_
  refine zT_gos (f := 200000) (pc2 := 1089) (ls2 := [(4, .int 0), (3, .ref 232), (2, .ref 162), (1, .ref 0), (0, .ref 11)]) (st2 := [.int (xs 3), .int 0, .int 1, .ref 162, .int (-99)]) (h2 := zH0) (dc2 := 117) (ds2 := 29934) 5 rfl ?_
  refine zT_call (v := some (.int (-99))) (h2 := ((((zH0.set 106 (.inl (2, 2, [0, 1]))).set 105 (.inl (0, 2, [0, 0]))).set 107 (.inl (0, 132, [0, 0, 0, 0, 0, 0, 0, 0, 0, 0, 0, 0, 0, 0, 0, 0, 0, 0, 0, 0, 0, 0, 0, 0, 0, 0, 0, 0, 0, 0, 0, 0, 0, 0, 0, 0, 0, 0, 0, 0, 0, 0, 0, 0, 0, 0, 0, 0, 0, 0, 0, 0, 0, 0, 0, 0, 0, 0, 0, 0, 0, 0, 0, 0, 0, 0, 0, 0, 0, 0, 0, 0]))).set 109 (.inl (0, 22, [0, 0, 0, 0, 0, 0, 0, 0, 0, 0, 0, 0])))) (d1 := 0) (s1 := 0) rfl rfl ?_ ?_
  · refine zT_gos (f := 200000) (pc2 := 7) (ls2 := [(0, .ref 162), (1, .int 1), (2, .int 0), (3, .int (xs 3))]) (st2 := [.int 1, .ref 162]) (h2 := zH0) (dc2 := 0) (ds2 := 0) 5 rfl ?_
    refine zT_call rfl rfl (zT_le (zg0_le 6 xs) zk_o_116) ?_
    refine zT_here (pc2 := 10) rfl ?_
    refine zT_gos (f := 200000) (pc2 := 28) (ls2 := [(4, .int 0), (0, .ref 162), (1, .int 1), (2, .int 0), (3, .int (xs 3))]) (st2 := [.int (xs 3)]) (h2 := ((((zH0.set 106 (.inl (2, 2, [0, 1]))).set 105 (.inl (0, 2, [0, 0]))).set 107 (.inl (0, 132, [0, 0, 0, 0, 0, 0, 0, 0, 0, 0, 0, 0, 0, 0, 0, 0, 0, 0, 0, 0, 0, 0, 0, 0, 0, 0, 0, 0, 0, 0, 0, 0, 0, 0, 0, 0, 0, 0, 0, 0, 0, 0, 0, 0, 0, 0, 0, 0, 0, 0, 0, 0, 0, 0, 0, 0, 0, 0, 0, 0, 0, 0, 0, 0, 0, 0, 0, 0, 0, 0, 0, 0]))).set 109 (.inl (0, 22, [0, 0, 0, 0, 0, 0, 0, 0, 0, 0, 0, 0])))) (dc2 := 0) (ds2 := 0) 9 rfl ?_
    refine zT_call (v := some (.int 0)) (h2 := ((((zH0.set 106 (.inl (2, 2, [0, 1]))).set 105 (.inl (0, 2, [0, 0]))).set 107 (.inl (0, 132, [0, 0, 0, 0, 0, 0, 0, 0, 0, 0, 0, 0, 0, 0, 0, 0, 0, 0, 0, 0, 0, 0, 0, 0, 0, 0, 0, 0, 0, 0, 0, 0, 0, 0, 0, 0, 0, 0, 0, 0, 0, 0, 0, 0, 0, 0, 0, 0, 0, 0, 0, 0, 0, 0, 0, 0, 0, 0, 0, 0, 0, 0, 0, 0, 0, 0, 0, 0, 0, 0, 0, 0]))).set 109 (.inl (0, 22, [0, 0, 0, 0, 0, 0, 0, 0, 0, 0, 0, 0])))) (d1 := 0) (s1 := 0) rfl rfl ?_ ?_
    · refine zT_gos (f := 200000) (pc2 := 1) (ls2 := [(0, .int (xs 3))]) (st2 := [.int (xs 3)]) (h2 := ((((zH0.set 106 (.inl (2, 2, [0, 1]))).set 105 (.inl (0, 2, [0, 0]))).set 107 (.inl (0, 132, [0, 0, 0, 0, 0, 0, 0, 0, 0, 0, 0, 0, 0, 0, 0, 0, 0, 0, 0, 0, 0, 0, 0, 0, 0, 0, 0, 0, 0, 0, 0, 0, 0, 0, 0, 0, 0, 0, 0, 0, 0, 0, 0, 0, 0, 0, 0, 0, 0, 0, 0, 0, 0, 0, 0, 0, 0, 0, 0, 0, 0, 0, 0, 0, 0, 0, 0, 0, 0, 0, 0, 0]))).set 109 (.inl (0, 22, [0, 0, 0, 0, 0, 0, 0, 0, 0, 0, 0, 0])))) (dc2 := 0) (ds2 := 0) 1 rfl ?_
      refine zT_if0 false rfl (zc_lt_f (by show ((xs 3) : Int32).toInt ≥ 0; omega)) ?_
      refine zT_here (pc2 := 4) rfl ?_
      refine zT_gos (f := 200000) (pc2 := 7) (ls2 := [(0, .int (xs 3))]) (st2 := [.int 6, .int (xs 3)]) (h2 := ((((zH0.set 106 (.inl (2, 2, [0, 1]))).set 105 (.inl (0, 2, [0, 0]))).set 107 (.inl (0, 132, [0, 0, 0, 0, 0, 0, 0, 0, 0, 0, 0, 0, 0, 0, 0, 0, 0, 0, 0, 0, 0, 0, 0, 0, 0, 0, 0, 0, 0, 0, 0, 0, 0, 0, 0, 0, 0, 0, 0, 0, 0, 0, 0, 0, 0, 0, 0, 0, 0, 0, 0, 0, 0, 0, 0, 0, 0, 0, 0, 0, 0, 0, 0, 0, 0, 0, 0, 0, 0, 0, 0, 0]))).set 109 (.inl (0, 22, [0, 0, 0, 0, 0, 0, 0, 0, 0, 0, 0, 0])))) (dc2 := 0) (ds2 := 0) 2 rfl ?_
      refine zT_if2 true rfl (zc_ge_t (by show ((xs 3) : Int32).toInt ≥ 6; omega)) ?_
      refine zT_here (pc2 := 14) rfl ?_
      refine zT_gos (f := 200000) (pc2 := 15) (ls2 := [(0, .int (xs 3))]) (st2 := [.int 0]) (h2 := ((((zH0.set 106 (.inl (2, 2, [0, 1]))).set 105 (.inl (0, 2, [0, 0]))).set 107 (.inl (0, 132, [0, 0, 0, 0, 0, 0, 0, 0, 0, 0, 0, 0, 0, 0, 0, 0, 0, 0, 0, 0, 0, 0, 0, 0, 0, 0, 0, 0, 0, 0, 0, 0, 0, 0, 0, 0, 0, 0, 0, 0, 0, 0, 0, 0, 0, 0, 0, 0, 0, 0, 0, 0, 0, 0, 0, 0, 0, 0, 0, 0, 0, 0, 0, 0, 0, 0, 0, 0, 0, 0, 0, 0]))).set 109 (.inl (0, 22, [0, 0, 0, 0, 0, 0, 0, 0, 0, 0, 0, 0])))) (dc2 := 0) (ds2 := 0) 1 rfl ?_
      exact zT_ret rfl rfl
    refine zT_here (pc2 := 31) rfl ?_
    refine zT_gos (f := 200000) (pc2 := 54) (ls2 := [(4, .int 0), (0, .ref 162), (1, .int 1), (2, .int 0), (3, .int (xs 3))]) (st2 := [.int (-99)]) (h2 := ((((zH0.set 106 (.inl (2, 2, [0, 1]))).set 105 (.inl (0, 2, [0, 0]))).set 107 (.inl (0, 132, [0, 0, 0, 0, 0, 0, 0, 0, 0, 0, 0, 0, 0, 0, 0, 0, 0, 0, 0, 0, 0, 0, 0, 0, 0, 0, 0, 0, 0, 0, 0, 0, 0, 0, 0, 0, 0, 0, 0, 0, 0, 0, 0, 0, 0, 0, 0, 0, 0, 0, 0, 0, 0, 0, 0, 0, 0, 0, 0, 0, 0, 0, 0, 0, 0, 0, 0, 0, 0, 0, 0, 0]))).set 109 (.inl (0, 22, [0, 0, 0, 0, 0, 0, 0, 0, 0, 0, 0, 0])))) (dc2 := 0) (ds2 := 0) 3 rfl ?_
    exact zT_ret rfl rfl
  refine zT_here (pc2 := 1092) rfl ?_
  refine zT_gos (f := 200000) (pc2 := 1811) (ls2 := [(4, .int 6), (3, .ref 232), (2, .ref 162), (1, .ref 0), (0, .ref 11)]) (st2 := [.int 1]) (h2 := ((((zH0.set 106 (.inl (2, 2, [0, 1]))).set 105 (.inl (0, 2, [0, 0]))).set 107 (.inl (0, 132, [0, 0, 0, 0, 0, 0, 0, 0, 0, 0, 0, 0, 0, 0, 0, 0, 0, 0, 0, 0, 0, 0, 0, 0, 0, 0, 0, 0, 0, 0, 0, 0, 0, 0, 0, 0, 0, 0, 0, 0, 0, 0, 0, 0, 0, 0, 0, 0, 0, 0, 0, 0, 0, 0, 0, 0, 0, 0, 0, 0, 0, 0, 0, 0, 0, 0, 0, 0, 0, 0, 0, 0]))).set 109 (.inl (0, 22, [0, 0, 0, 0, 0, 0, 0, 0, 0, 0, 0, 0])))) (dc2 := 117) (ds2 := 29934) 10 rfl ?_
  exact zT_ret rfl rfl
set_option maxRecDepth 1000000 in
set_option maxHeartbeats 4000000 in
theorem zo_23_12 (xs : Nat → Int32) (h0 : xs 0 &&& 63 = 23) (h1 : xs 1 = 0) (h3 : xs 3 = 0) (h2 : (xs 2).toInt < 0) : zDone xs := by
  refine ⟨(((((((zH0.set 37 (.inr (.inr (.inr (3, [.ref 44, .ref 6, .ref 76, .ref 78, .ref 80, .ref 88, .int 1, .int 0, .ref 96, .int 0, .int 0, .int 0, .ref 98, .ref 100, .int 0]))))).set 40 (.inr (.inr (.inr (6, [.int 1, .long 70644700037184, .int 0, .ref 82, .ref 84, .ref 86]))))).set 43 (.inr (.inl (16, [70644700037184])))).set 106 (.inl (2, 2, [1, 0]))).set 105 (.inl (0, 2, [0]))).set 107 (.inl (0, 132, [0, 0, 0, 0, 0, 0]))).set 109 (.inl (0, 22, [0]))), 117, 29934, ?_, by decide, by decide⟩
  refine zT_gos (f := 200000) (pc2 := 37) (ls2 := [(4, .int 0), (3, .ref 232), (2, .ref 162), (1, .ref 0), (0, .ref 11)]) (st2 := [.int (xs 0)]) (h2 := zH0) (dc2 := 117) (ds2 := 29934) 9 rfl ?_
  refine zT_gos (f := 200000) (pc2 := 40) (ls2 := [(4, .int 0), (3, .ref 232), (2, .ref 162), (1, .ref 0), (0, .ref 11)]) (st2 := [.int ((xs 0) &&& (63 : Int32))]) (h2 := zH0) (dc2 := 117) (ds2 := 29934) 2 rfl ?_
  refine zT_val h0 ?_
  refine zT_gos (f := 200000) (pc2 := 1039) (ls2 := [(4, .int 0), (3, .ref 232), (2, .ref 162), (1, .ref 0), (0, .ref 11)]) (st2 := [.int (xs 1), .ref 0]) (h2 := zH0) (dc2 := 117) (ds2 := 29934) 7 rfl ?_
  refine zT_val h1 ?_
  refine zT_gos (f := 200000) (pc2 := 1053) (ls2 := [(4, .int 0), (3, .ref 232), (2, .ref 162), (1, .ref 0), (0, .ref 11)]) (st2 := [.int (xs 2), .int 0, .ref 0]) (h2 := zH0) (dc2 := 117) (ds2 := 29934) 7 rfl ?_
  refine zT_gos (f := 200000) (pc2 := 1059) (ls2 := [(4, .int 0), (3, .ref 232), (2, .ref 162), (1, .ref 0), (0, .ref 11)]) (st2 := [.int (xs 3), .int (xs 2), .int 0, .ref 0]) (h2 := zH0) (dc2 := 117) (ds2 := 29934) 5 rfl ?_
  refine zT_val h3 ?_
  refine zT_call (v := some (.int (-99))) (h2 := (((zH0.set 37 (.inr (.inr (.inr (3, [.ref 44, .ref 6, .ref 76, .ref 78, .ref 80, .ref 88, .int 1, .int 0, .ref 96, .int 0, .int 0, .int 0, .ref 98, .ref 100, .int 0]))))).set 40 (.inr (.inr (.inr (6, [.int 1, .long 70644700037184, .int 0, .ref 82, .ref 84, .ref 86]))))).set 43 (.inr (.inl (16, [70644700037184]))))) (d1 := 0) (s1 := 0) rfl rfl ?_ ?_
  · refine zT_gos (f := 200000) (pc2 := 33) (ls2 := [(4, .ref 80), (0, .ref 0), (1, .int 0), (2, .int (xs 2)), (3, .int 0)]) (st2 := [.int (xs 2)]) (h2 := (((zH0.set 37 (.inr (.inr (.inr (3, [.ref 44, .ref 6, .ref 76, .ref 78, .ref 80, .ref 88, .int 1, .int 0, .ref 96, .int 0, .int 0, .int 0, .ref 98, .ref 100, .int 0]))))).set 40 (.inr (.inr (.inr (6, [.int 1, .long 70644700037184, .int 0, .ref 82, .ref 84, .ref 86]))))).set 43 (.inr (.inl (16, [70644700037184]))))) (dc2 := 0) (ds2 := 0) 14 rfl ?_
    refine zT_if0 true rfl (zc_lt_t (by show ((xs 2) : Int32).toInt < 0; omega)) ?_
    refine zT_here (pc2 := 45) rfl ?_
    refine zT_gos (f := 200000) (pc2 := 57) (ls2 := [(4, .ref 80), (0, .ref 0), (1, .int 0), (2, .int (xs 2)), (3, .int 0)]) (st2 := [.int (-99)]) (h2 := (((zH0.set 37 (.inr (.inr (.inr (3, [.ref 44, .ref 6, .ref 76, .ref 78, .ref 80, .ref 88, .int 1, .int 0, .ref 96, .int 0, .int 0, .int 0, .ref 98, .ref 100, .int 0]))))).set 40 (.inr (.inr (.inr (6, [.int 1, .long 70644700037184, .int 0, .ref 82, .ref 84, .ref 86]))))).set 43 (.inr (.inl (16, [70644700037184]))))) (dc2 := 0) (ds2 := 0) 2 rfl ?_
    exact zT_ret rfl rfl
  refine zT_here (pc2 := 1062) rfl ?_
  refine zT_gos (f := 200000) (pc2 := 1069) (ls2 := [(4, .int 0), (3, .ref 232), (2, .ref 162), (1, .ref 0), (0, .ref 11)]) (st2 := [.int (xs 1), .ref 162, .int (-99)]) (h2 := (((zH0.set 37 (.inr (.inr (.inr (3, [.ref 44, .ref 6, .ref 76, .ref 78, .ref 80, .ref 88, .int 1, .int 0, .ref 96, .int 0, .int 0, .int 0, .ref 98, .ref 100, .int 0]))))).set 40 (.inr (.inr (.inr (6, [.int 1, .long 70644700037184, .int 0, .ref 82, .ref 84, .ref 86]))))).set 43 (.inr (.inl (16, [70644700037184]))))) (dc2 := 117) (ds2 := 29934) 6 rfl ?_
  refine zT_val h1 ?_
  refine zT_gos (f := 200000) (pc2 := 1083) (ls2 := [(4, .int 0), (3, .ref 232), (2, .ref 162), (1, .ref 0), (0, .ref 11)]) (st2 := [.int (xs 2), .int 0, .ref 162, .int (-99)]) (h2 := (((zH0.set 37 (.inr (.inr (.inr (3, [.ref 44, .ref 6, .ref 76, .ref 78, .ref 80, .ref 88, .int 1, .int 0, .ref 96, .int 0, .int 0, .int 0, .ref 98, .ref 100, .int 0]))))).set 40 (.inr (.inr (.inr (6, [.int 1, .long 70644700037184, .int 0, .ref 82, .ref 84, .ref 86]))))).set 43 (.inr (.inl (16, [70644700037184]))))) (dc2 := 117) (ds2 := 29934) 7 rfl ?_
  refine zT_gos (f := 200000) (pc2 := 1089) (ls2 := [(4, .int 0), (3, .ref 232), (2, .ref 162), (1, .ref 0), (0, .ref 11)]) (st2 := [.int (xs 3), .int (xs 2), .int 0, .ref 162, .int (-99)]) (h2 := (((zH0.set 37 (.inr (.inr (.inr (3, [.ref 44, .ref 6, .ref 76, .ref 78, .ref 80, .ref 88, .int 1, .int 0, .ref 96, .int 0, .int 0, .int 0, .ref 98, .ref 100, .int 0]))))).set 40 (.inr (.inr (.inr (6, [.int 1, .long 70644700037184, .int 0, .ref 82, .ref 84, .ref 86]))))).set 43 (.inr (.inl (16, [70644700037184]))))) (dc2 := 117) (ds2 := 29934) 5 rfl ?_
  refine zT_val h3 ?_
  refine zT_call (v := some (.int (-99))) (h2 := (((((((zH0.set 37 (.inr (.inr (.inr (3, [.ref 44, .ref 6, .ref 76, .ref 78, .ref 80, .ref 88, .int 1, .int 0, .ref 96, .int 0, .int 0, .int 0, .ref 98, .ref 100, .int 0]))))).set 40 (.inr (.inr (.inr (6, [.int 1, .long 70644700037184, .int 0, .ref 82, .ref 84, .ref 86]))))).set 43 (.inr (.inl (16, [70644700037184])))).set 106 (.inl (2, 2, [1, 0]))).set 105 (.inl (0, 2, [0]))).set 107 (.inl (0, 132, [0, 0, 0, 0, 0, 0]))).set 109 (.inl (0, 22, [0])))) (d1 := 0) (s1 := 0) rfl rfl ?_ ?_
  · refine zT_gos (f := 200000) (pc2 := 7) (ls2 := [(0, .ref 162), (1, .int 0), (2, .int (xs 2)), (3, .int 0)]) (st2 := [.int 0, .ref 162]) (h2 := (((zH0.set 37 (.inr (.inr (.inr (3, [.ref 44, .ref 6, .ref 76, .ref 78, .ref 80, .ref 88, .int 1, .int 0, .ref 96, .int 0, .int 0, .int 0, .ref 98, .ref 100, .int 0]))))).set 40 (.inr (.inr (.inr (6, [.int 1, .long 70644700037184, .int 0, .ref 82, .ref 84, .ref 86]))))).set 43 (.inr (.inl (16, [70644700037184]))))) (dc2 := 0) (ds2 := 0) 5 rfl ?_
    refine zT_call rfl rfl (zT_le (zg0_le 6 xs) zk_o_19) ?_
    refine zT_here (pc2 := 10) rfl ?_
    refine zT_gos (f := 200000) (pc2 := 18) (ls2 := [(4, .int 0), (0, .ref 162), (1, .int 0), (2, .int (xs 2)), (3, .int 0)]) (st2 := [.int (xs 2)]) (h2 := (((((((zH0.set 37 (.inr (.inr (.inr (3, [.ref 44, .ref 6, .ref 76, .ref 78, .ref 80, .ref 88, .int 1, .int 0, .ref 96, .int 0, .int 0, .int 0, .ref 98, .ref 100, .int 0]))))).set 40 (.inr (.inr (.inr (6, [.int 1, .long 70644700037184, .int 0, .ref 82, .ref 84, .ref 86]))))).set 43 (.inr (.inl (16, [70644700037184])))).set 106 (.inl (2, 2, [1, 0]))).set 105 (.inl (0, 2, [0]))).set 107 (.inl (0, 132, [0, 0, 0, 0, 0, 0]))).set 109 (.inl (0, 22, [0])))) (dc2 := 0) (ds2 := 0) 4 rfl ?_
    refine zT_if0 true rfl (zc_lt_t (by show ((xs 2) : Int32).toInt < 0; omega)) ?_
    refine zT_here (pc2 := 34) rfl ?_
    refine zT_gos (f := 200000) (pc2 := 54) (ls2 := [(4, .int 0), (0, .ref 162), (1, .int 0), (2, .int (xs 2)), (3, .int 0)]) (st2 := [.int (-99)]) (h2 := (((((((zH0.set 37 (.inr (.inr (.inr (3, [.ref 44, .ref 6, .ref 76, .ref 78, .ref 80, .ref 88, .int 1, .int 0, .ref 96, .int 0, .int 0, .int 0, .ref 98, .ref 100, .int 0]))))).set 40 (.inr (.inr (.inr (6, [.int 1, .long 70644700037184, .int 0, .ref 82, .ref 84, .ref 86]))))).set 43 (.inr (.inl (16, [70644700037184])))).set 106 (.inl (2, 2, [1, 0]))).set 105 (.inl (0, 2, [0]))).set 107 (.inl (0, 132, [0, 0, 0, 0, 0, 0]))).set 109 (.inl (0, 22, [0])))) (dc2 := 0) (ds2 := 0) 2 rfl ?_
    exact zT_ret rfl rfl
  refine zT_here (pc2 := 1092) rfl ?_
  refine zT_gos (f := 200000) (pc2 := 1811) (ls2 := [(4, .int 6), (3, .ref 232), (2, .ref 162), (1, .ref 0), (0, .ref 11)]) (st2 := [.int 1]) (h2 := (((((((zH0.set 37 (.inr (.inr (.inr (3, [.ref 44, .ref 6, .ref 76, .ref 78, .ref 80, .ref 88, .int 1, .int 0, .ref 96, .int 0, .int 0, .int 0, .ref 98, .ref 100, .int 0]))))).set 40 (.inr (.inr (.inr (6, [.int 1, .long 70644700037184, .int 0, .ref 82, .ref 84, .ref 86]))))).set 43 (.inr (.inl (16, [70644700037184])))).set 106 (.inl (2, 2, [1, 0]))).set 105 (.inl (0, 2, [0]))).set 107 (.inl (0, 132, [0, 0, 0, 0, 0, 0]))).set 109 (.inl (0, 22, [0])))) (dc2 := 117) (ds2 := 29934) 10 rfl ?_
  exact zT_ret rfl rfl
set_option maxRecDepth 1000000 in
set_option maxHeartbeats 4000000 in
theorem zo_23_13 (xs : Nat → Int32) (h0 : xs 0 &&& 63 = 23) (h1 : xs 1 = 0) (h3 : xs 3 = 0) (h2 : 0 < (xs 2).toInt) : zDone xs := by
  refine ⟨(((((((zH0.set 37 (.inr (.inr (.inr (3, [.ref 44, .ref 6, .ref 76, .ref 78, .ref 80, .ref 88, .int 1, .int 0, .ref 96, .int 0, .int 0, .int 0, .ref 98, .ref 100, .int 0]))))).set 40 (.inr (.inr (.inr (6, [.int 1, .long 70644700037184, .int 0, .ref 82, .ref 84, .ref 86]))))).set 43 (.inr (.inl (16, [70644700037184])))).set 106 (.inl (2, 2, [1, 0]))).set 105 (.inl (0, 2, [0]))).set 107 (.inl (0, 132, [0, 0, 0, 0, 0, 0]))).set 109 (.inl (0, 22, [0]))), 117, 29934, ?_, by decide, by decide⟩
  refine zT_gos (f := 200000) (pc2 := 37) (ls2 := [(4, .int 0), (3, .ref 232), (2, .ref 162), (1, .ref 0), (0, .ref 11)]) (st2 := [.int (xs 0)]) (h2 := zH0) (dc2 := 117) (ds2 := 29934) 9 rfl ?_
  refine zT_gos (f := 200000) (pc2 := 40) (ls2 := [(4, .int 0), (3, .ref 232), (2, .ref 162), (1, .ref 0), (0, .ref 11)]) (st2 := [.int ((xs 0) &&& (63 : Int32))]) (h2 := zH0) (dc2 := 117) (ds2 := 29934) 2 rfl ?_
  refine zT_val h0 ?_
  refine zT_gos (f := 200000) (pc2 := 1039) (ls2 := [(4, .int 0), (3, .ref 232), (2, .ref 162), (1, .ref 0), (0, .ref 11)]) (st2 := [.int (xs 1), .ref 0]) (h2 := zH0) (dc2 := 117) (ds2 := 29934) 7 rfl ?_
  refine zT_val h1 ?_
  refine zT_gos (f := 200000) (pc2 := 1053) (ls2 := [(4, .int 0), (3, .ref 232), (2, .ref 162), (1, .ref 0), (0, .ref 11)]) (st2 := [.int (xs 2), .int 0, .ref 0]) (h2 := zH0) (dc2 := 117) (ds2 := 29934) 7 rfl ?_
  refine zT_gos (f := 200000) (pc2 := 1059) (ls2 := [(4, .int 0), (3, .ref 232), (2, .ref 162), (1, .ref 0), (0, .ref 11)]) (st2 := [.int (xs 3), .int (xs 2), .int 0, .ref 0]) (h2 := zH0) (dc2 := 117) (ds2 := 29934) 5 rfl ?_
  refine zT_val h3 ?_
  refine zT_call (v := some (.int (-99))) (h2 := (((zH0.set 37 (.inr (.inr (.inr (3, [.ref 44, .ref 6, .ref 76, .ref 78, .ref 80, .ref 88, .int 1, .int 0, .ref 96, .int 0, .int 0, .int 0, .ref 98, .ref 100, .int 0]))))).set 40 (.inr (.inr (.inr (6, [.int 1, .long 70644700037184, .int 0, .ref 82, .ref 84, .ref 86]))))).set 43 (.inr (.inl (16, [70644700037184]))))) (d1 := 0) (s1 := 0) rfl rfl ?_ ?_
  · refine zT_gos (f := 200000) (pc2 := 33) (ls2 := [(4, .ref 80), (0, .ref 0), (1, .int 0), (2, .int (xs 2)), (3, .int 0)]) (st2 := [.int (xs 2)]) (h2 := (((zH0.set 37 (.inr (.inr (.inr (3, [.ref 44, .ref 6, .ref 76, .ref 78, .ref 80, .ref 88, .int 1, .int 0, .ref 96, .int 0, .int 0, .int 0, .ref 98, .ref 100, .int 0]))))).set 40 (.inr (.inr (.inr (6, [.int 1, .long 70644700037184, .int 0, .ref 82, .ref 84, .ref 86]))))).set 43 (.inr (.inl (16, [70644700037184]))))) (dc2 := 0) (ds2 := 0) 14 rfl ?_
    refine zT_if0 false rfl (zc_lt_f (by show ((xs 2) : Int32).toInt ≥ 0; omega)) ?_
    refine zT_here (pc2 := 36) rfl ?_
    refine zT_gos (f := 200000) (pc2 := 42) (ls2 := [(4, .ref 80), (0, .ref 0), (1, .int 0), (2, .int (xs 2)), (3, .int 0)]) (st2 := [.int 0, .int (xs 2)]) (h2 := (((zH0.set 37 (.inr (.inr (.inr (3, [.ref 44, .ref 6, .ref 76, .ref 78, .ref 80, .ref 88, .int 1, .int 0, .ref 96, .int 0, .int 0, .int 0, .ref 98, .ref 100, .int 0]))))).set 40 (.inr (.inr (.inr (6, [.int 1, .long 70644700037184, .int 0, .ref 82, .ref 84, .ref 86]))))).set 43 (.inr (.inl (16, [70644700037184]))))) (dc2 := 0) (ds2 := 0) 3 rfl ?_
    refine zT_if2 false rfl (zc_le_f (by show ((xs 2) : Int32).toInt > 0; omega)) ?_
    refine zT_here (pc2 := 45) rfl ?_
    refine zT_gos (f := 200000) (pc2 := 57) (ls2 := [(4, .ref 80), (0, .ref 0), (1, .int 0), (2, .int (xs 2)), (3, .int 0)]) (st2 := [.int (-99)]) (h2 := (((zH0.set 37 (.inr (.inr (.inr (3, [.ref 44, .ref 6, .ref 76, .ref 78, .ref 80, .ref 88, .int 1, .int 0, .ref 96, .int 0, .int 0, .int 0, .ref 98, .ref 100, .int 0]))))).set 40 (.inr (.inr (.inr (6, [.int 1, .long 70644700037184, .int 0, .ref 82, .ref 84, .ref 86]))))).set 43 (.inr (.inl (16, [70644700037184]))))) (dc2 := 0) (ds2 := 0) 2 rfl ?_
    exact zT_ret rfl rfl
  refine zT_here (pc2 := 1062) rfl ?_
  refine zT_gos (f := 200000) (pc2 := 1069) (ls2 := [(4, .int 0), (3, .ref 232), (2, .ref 162), (1, .ref 0), (0, .ref 11)]) (st2 := [.int (xs 1), .ref 162, .int (-99)]) (h2 := (((zH0.set 37 (.inr (.inr (.inr (3, [.ref 44, .ref 6, .ref 76, .ref 78, .ref 80, .ref 88, .int 1, .int 0, .ref 96, .int 0, .int 0, .int 0, .ref 98, .ref 100, .int 0]))))).set 40 (.inr (.inr (.inr (6, [.int 1, .long 70644700037184, .int 0, .ref 82, .ref 84, .ref 86]))))).set 43 (.inr (.inl (16, [70644700037184]))))) (dc2 := 117) (ds2 := 29934) 6 rfl ?_
  refine zT_val h1 ?_
  refine zT_gos (f := 200000) (pc2 := 1083) (ls2 := [(4, .int 0), (3, .ref 232), (2, .ref 162), (1, .ref 0), (0, .ref 11)]) (st2 := [.int (xs 2), .int 0, .ref 162, .int (-99)]) (h2 := (((zH0.set 37 (.inr (.inr (.inr (3, [.ref 44, .ref 6, .ref 76, .ref 78, .ref 80, .ref 88, .int 1, .int 0, .ref 96, .int 0, .int 0, .int 0, .ref 98, .ref 100, .int 0]))))).set 40 (.inr (.inr (.inr (6, [.int 1, .long 70644700037184, .int 0, .ref 82, .ref 84, .ref 86]))))).set 43 (.inr (.inl (16, [70644700037184]))))) (dc2 := 117) (ds2 := 29934) 7 rfl ?_
  refine zT_gos (f := 200000) (pc2 := 1089) (ls2 := [(4, .int 0), (3, .ref 232), (2, .ref 162), (1, .ref 0), (0, .ref 11)]) (st2 := [.int (xs 3), .int (xs 2), .int 0, .ref 162, .int (-99)]) (h2 := (((zH0.set 37 (.inr (.inr (.inr (3, [.ref 44, .ref 6, .ref 76, .ref 78, .ref 80, .ref 88, .int 1, .int 0, .ref 96, .int 0, .int 0, .int 0, .ref 98, .ref 100, .int 0]))))).set 40 (.inr (.inr (.inr (6, [.int 1, .long 70644700037184, .int 0, .ref 82, .ref 84, .ref 86]))))).set 43 (.inr (.inl (16, [70644700037184]))))) (dc2 := 117) (ds2 := 29934) 5 rfl ?_
  refine zT_val h3 ?_
  refine zT_call (v := some (.int (-99))) (h2 := (((((((zH0.set 37 (.inr (.inr (.inr (3, [.ref 44, .ref 6, .ref 76, .ref 78, .ref 80, .ref 88, .int 1, .int 0, .ref 96, .int 0, .int 0, .int 0, .ref 98, .ref 100, .int 0]))))).set 40 (.inr (.inr (.inr (6, [.int 1, .long 70644700037184, .int 0, .ref 82, .ref 84, .ref 86]))))).set 43 (.inr (.inl (16, [70644700037184])))).set 106 (.inl (2, 2, [1, 0]))).set 105 (.inl (0, 2, [0]))).set 107 (.inl (0, 132, [0, 0, 0, 0, 0, 0]))).set 109 (.inl (0, 22, [0])))) (d1 := 0) (s1 := 0) rfl rfl ?_ ?_
  · refine zT_gos (f := 200000) (pc2 := 7) (ls2 := [(0, .ref 162), (1, .int 0), (2, .int (xs 2)), (3, .int 0)]) (st2 := [.int 0, .ref 162]) (h2 := (((zH0.set 37 (.inr (.inr (.inr (3, [.ref 44, .ref 6, .ref 76, .ref 78, .ref 80, .ref 88, .int 1, .int 0, .ref 96, .int 0, .int 0, .int 0, .ref 98, .ref 100, .int 0]))))).set 40 (.inr (.inr (.inr (6, [.int 1, .long 70644700037184, .int 0, .ref 82, .ref 84, .ref 86]))))).set 43 (.inr (.inl (16, [70644700037184]))))) (dc2 := 0) (ds2 := 0) 5 rfl ?_
    refine zT_call rfl rfl (zT_le (zg0_le 6 xs) zk_o_19) ?_
    refine zT_here (pc2 := 10) rfl ?_
    refine zT_gos (f := 200000) (pc2 := 18) (ls2 := [(4, .int 0), (0, .ref 162), (1, .int 0), (2, .int (xs 2)), (3, .int 0)]) (st2 := [.int (xs 2)]) (h2 := (((((((zH0.set 37 (.inr (.inr (.inr (3, [.ref 44, .ref 6, .ref 76, .ref 78, .ref 80, .ref 88, .int 1, .int 0, .ref 96, .int 0, .int 0, .int 0, .ref 98, .ref 100, .int 0]))))).set 40 (.inr (.inr (.inr (6, [.int 1, .long 70644700037184, .int 0, .ref 82, .ref 84, .ref 86]))))).set 43 (.inr (.inl (16, [70644700037184])))).set 106 (.inl (2, 2, [1, 0]))).set 105 (.inl (0, 2, [0]))).set 107 (.inl (0, 132, [0, 0, 0, 0, 0, 0]))).set 109 (.inl (0, 22, [0])))) (dc2 := 0) (ds2 := 0) 4 rfl ?_
    refine zT_if0 false rfl (zc_lt_f (by show ((xs 2) : Int32).toInt ≥ 0; omega)) ?_
    refine zT_here (pc2 := 21) rfl ?_
    refine zT_gos (f := 200000) (pc2 := 24) (ls2 := [(4, .int 0), (0, .ref 162), (1, .int 0), (2, .int (xs 2)), (3, .int 0)]) (st2 := [.int 0, .int (xs 2)]) (h2 := (((((((zH0.set 37 (.inr (.inr (.inr (3, [.ref 44, .ref 6, .ref 76, .ref 78, .ref 80, .ref 88, .int 1, .int 0, .ref 96, .int 0, .int 0, .int 0, .ref 98, .ref 100, .int 0]))))).set 40 (.inr (.inr (.inr (6, [.int 1, .long 70644700037184, .int 0, .ref 82, .ref 84, .ref 86]))))).set 43 (.inr (.inl (16, [70644700037184])))).set 106 (.inl (2, 2, [1, 0]))).set 105 (.inl (0, 2, [0]))).set 107 (.inl (0, 132, [0, 0, 0, 0, 0, 0]))).set 109 (.inl (0, 22, [0])))) (dc2 := 0) (ds2 := 0) 2 rfl ?_
    refine zT_if2 true rfl (zc_gt_t (by show ((xs 2) : Int32).toInt > 0; omega)) ?_
    refine zT_here (pc2 := 34) rfl ?_
    refine zT_gos (f := 200000) (pc2 := 54) (ls2 := [(4, .int 0), (0, .ref 162), (1, .int 0), (2, .int (xs 2)), (3, .int 0)]) (st2 := [.int (-99)]) (h2 := (((((((zH0.set 37 (.inr (.inr (.inr (3, [.ref 44, .ref 6, .ref 76, .ref 78, .ref 80, .ref 88, .int 1, .int 0, .ref 96, .int 0, .int 0, .int 0, .ref 98, .ref 100, .int 0]))))).set 40 (.inr (.inr (.inr (6, [.int 1, .long 70644700037184, .int 0, .ref 82, .ref 84, .ref 86]))))).set 43 (.inr (.inl (16, [70644700037184])))).set 106 (.inl (2, 2, [1, 0]))).set 105 (.inl (0, 2, [0]))).set 107 (.inl (0, 132, [0, 0, 0, 0, 0, 0]))).set 109 (.inl (0, 22, [0])))) (dc2 := 0) (ds2 := 0) 2 rfl ?_
    exact zT_ret rfl rfl
  refine zT_here (pc2 := 1092) rfl ?_
  refine zT_gos (f := 200000) (pc2 := 1811) (ls2 := [(4, .int 6), (3, .ref 232), (2, .ref 162), (1, .ref 0), (0, .ref 11)]) (st2 := [.int 1]) (h2 := (((((((zH0.set 37 (.inr (.inr (.inr (3, [.ref 44, .ref 6, .ref 76, .ref 78, .ref 80, .ref 88, .int 1, .int 0, .ref 96, .int 0, .int 0, .int 0, .ref 98, .ref 100, .int 0]))))).set 40 (.inr (.inr (.inr (6, [.int 1, .long 70644700037184, .int 0, .ref 82, .ref 84, .ref 86]))))).set 43 (.inr (.inl (16, [70644700037184])))).set 106 (.inl (2, 2, [1, 0]))).set 105 (.inl (0, 2, [0]))).set 107 (.inl (0, 132, [0, 0, 0, 0, 0, 0]))).set 109 (.inl (0, 22, [0])))) (dc2 := 117) (ds2 := 29934) 10 rfl ?_
  exact zT_ret rfl rfl
set_option maxRecDepth 1000000 in
theorem zk_o_117 : zT zg0 zF zP 124 0 [(0, .ref 0), (1, .int 0), (2, .int 0), (3, .int 0)] [] zH0 0 0 (some (.int 0), (((zH0.set 37 (.inr (.inr (.inr (3, [.ref 44, .ref 6, .ref 76, .ref 78, .ref 80, .ref 88, .int 1, .int 0, .ref 96, .int 0, .int 0, .int 0, .ref 98, .ref 100, .int 0]))))).set 40 (.inr (.inr (.inr (6, [.int 1, .long 70644700037184, .int 0, .ref 82, .ref 84, .ref 86]))))).set 43 (.inr (.inl (16, [70644700037184])))), 0, 0) := zclosed (n := 148) (by decide +kernel)
set_option maxRecDepth 1000000 in
theorem zk_o_118 : zT zg0 zF zP 255 0 [(0, .ref 162), (1, .int 0), (2, .int 0), (3, .int 0)] [] (((zH0.set 37 (.inr (.inr (.inr (3, [.ref 44, .ref 6, .ref 76, .ref 78, .ref 80, .ref 88, .int 1, .int 0, .ref 96, .int 0, .int 0, .int 0, .ref 98, .ref 100, .int 0]))))).set 40 (.inr (.inr (.inr (6, [.int 1, .long 70644700037184, .int 0, .ref 82, .ref 84, .ref 86]))))).set 43 (.inr (.inl (16, [70644700037184])))) 0 0 (some (.int 0), (((((((zH0.set 37 (.inr (.inr (.inr (3, [.ref 44, .ref 6, .ref 76, .ref 78, .ref 80, .ref 88, .int 1, .int 0, .ref 96, .int 0, .int 0, .int 0, .ref 98, .ref 100, .int 0]))))).set 40 (.inr (.inr (.inr (6, [.int 1, .long 70644700037184, .int 0, .ref 82, .ref 84, .ref 86]))))).set 43 (.inr (.inl (16, [70644700037184])))).set 106 (.inl (2, 2, [1, 0]))).set 105 (.inl (0, 2, [0]))).set 107 (.inl (0, 132, [0, 0, 0, 0, 0, 0]))).set 109 (.inl (0, 22, [0]))), 0, 0) := zclosed (n := 227) (by decide +kernel)
set_option maxRecDepth 1000000 in
set_option maxHeartbeats 4000000 in
theorem zo_23_14 (xs : Nat → Int32) (h0 : xs 0 &&& 63 = 23) (h1 : xs 1 = 0) (h3 : xs 3 = 0) (h2 : xs 2 = 0) : zDone xs := by
  refine ⟨(((((((zH0.set 37 (.inr (.inr (.inr (3, [.ref 44, .ref 6, .ref 76, .ref 78, .ref 80, .ref 88, .int 1, .int 0, .ref 96, .int 0, .int 0, .int 0, .ref 98, .ref 100, .int 0]))))).set 40 (.inr (.inr (.inr (6, [.int 1, .long 70644700037184, .int 0, .ref 82, .ref 84, .ref 86]))))).set 43 (.inr (.inl (16, [70644700037184])))).set 106 (.inl (2, 2, [1, 0]))).set 105 (.inl (0, 2, [0]))).set 107 (.inl (0, 132, [0, 0, 0, 0, 0, 0]))).set 109 (.inl (0, 22, [0]))), 117, 29934, ?_, by decide, by decide⟩
  refine zT_gos (f := 200000) (pc2 := 37) (ls2 := [(4, .int 0), (3, .ref 232), (2, .ref 162), (1, .ref 0), (0, .ref 11)]) (st2 := [.int (xs 0)]) (h2 := zH0) (dc2 := 117) (ds2 := 29934) 9 rfl ?_
  refine zT_gos (f := 200000) (pc2 := 40) (ls2 := [(4, .int 0), (3, .ref 232), (2, .ref 162), (1, .ref 0), (0, .ref 11)]) (st2 := [.int ((xs 0) &&& (63 : Int32))]) (h2 := zH0) (dc2 := 117) (ds2 := 29934) 2 rfl ?_
  refine zT_val h0 ?_
  refine zT_gos (f := 200000) (pc2 := 1039) (ls2 := [(4, .int 0), (3, .ref 232), (2, .ref 162), (1, .ref 0), (0, .ref 11)]) (st2 := [.int (xs 1), .ref 0]) (h2 := zH0) (dc2 := 117) (ds2 := 29934) 7 rfl ?_
  refine zT_val h1 ?_
  refine zT_gos (f := 200000) (pc2 := 1053) (ls2 := [(4, .int 0), (3, .ref 232), (2, .ref 162), (1, .ref 0), (0, .ref 11)]) (st2 := [.int (xs 2), .int 0, .ref 0]) (h2 := zH0) (dc2 := 117) (ds2 := 29934) 7 rfl ?_
  refine zT_val h2 ?_
  refine zT_gos (f := 200000) (pc2 := 1059) (ls2 := [(4, .int 0), (3, .ref 232), (2, .ref 162), (1, .ref 0), (0, .ref 11)]) (st2 := [.int (xs 3), .int 0, .int 0, .ref 0]) (h2 := zH0) (dc2 := 117) (ds2 := 29934) 5 rfl ?_
  refine zT_val h3 ?_
  refine zT_call rfl rfl (zT_le (zg0_le 6 xs) zk_o_117) ?_
  refine zT_here (pc2 := 1062) rfl ?_
  refine zT_gos (f := 200000) (pc2 := 1069) (ls2 := [(4, .int 0), (3, .ref 232), (2, .ref 162), (1, .ref 0), (0, .ref 11)]) (st2 := [.int (xs 1), .ref 162, .int 0]) (h2 := (((zH0.set 37 (.inr (.inr (.inr (3, [.ref 44, .ref 6, .ref 76, .ref 78, .ref 80, .ref 88, .int 1, .int 0, .ref 96, .int 0, .int 0, .int 0, .ref 98, .ref 100, .int 0]))))).set 40 (.inr (.inr (.inr (6, [.int 1, .long 70644700037184, .int 0, .ref 82, .ref 84, .ref 86]))))).set 43 (.inr (.inl (16, [70644700037184]))))) (dc2 := 117) (ds2 := 29934) 6 rfl ?_
  refine zT_val h1 ?_
  refine zT_gos (f := 200000) (pc2 := 1083) (ls2 := [(4, .int 0), (3, .ref 232), (2, .ref 162), (1, .ref 0), (0, .ref 11)]) (st2 := [.int (xs 2), .int 0, .ref 162, .int 0]) (h2 := (((zH0.set 37 (.inr (.inr (.inr (3, [.ref 44, .ref 6, .ref 76, .ref 78, .ref 80, .ref 88, .int 1, .int 0, .ref 96, .int 0, .int 0, .int 0, .ref 98, .ref 100, .int 0]))))).set 40 (.inr (.inr (.inr (6, [.int 1, .long 70644700037184, .int 0, .ref 82, .ref 84, .ref 86]))))).set 43 (.inr (.inl (16, [70644700037184]))))) (dc2 := 117) (ds2 := 29934) 7 rfl ?_
  refine zT_val h2 ?_
  refine zT_gos (f := 200000) (pc2 := 1089) (ls2 := [(4, .int 0), (3, .ref 232), (2, .ref 162), (1, .ref 0), (0, .ref 11)]) (st2 := [.int (xs 3), .int 0, .int 0, .ref 162, .int 0]) (h2 := (((zH0.set 37 (.inr (.inr (.inr (3, [.ref 44, .ref 6, .ref 76, .ref 78, .ref 80, .ref 88, .int 1, .int 0, .ref 96, .int 0, .int 0, .int 0, .ref 98, .ref 100, .int 0]))))).set 40 (.inr (.inr (.inr (6, [.int 1, .long 70644700037184, .int 0, .ref 82, .ref 84, .ref 86]))))).set 43 (.inr (.inl (16, [70644700037184]))))) (dc2 := 117) (ds2 := 29934) 5 rfl ?_
  refine zT_val h3 ?_
  refine zT_call rfl rfl (zT_le (zg0_le 6 xs) zk_o_118) ?_
  refine zT_here (pc2 := 1092) rfl ?_
  refine zT_gos (f := 200000) (pc2 := 1811) (ls2 := [(4, .int 6), (3, .ref 232), (2, .ref 162), (1, .ref 0), (0, .ref 11)]) (st2 := [.int 1]) (h2 := (((((((zH0.set 37 (.inr (.inr (.inr (3, [.ref 44, .ref 6, .ref 76, .ref 78, .ref 80, .ref 88, .int 1, .int 0, .ref 96, .int 0, .int 0, .int 0, .ref 98, .ref 100, .int 0]))))).set 40 (.inr (.inr (.inr (6, [.int 1, .long 70644700037184, .int 0, .ref 82, .ref 84, .ref 86]))))).set 43 (.inr (.inl (16, [70644700037184])))).set 106 (.inl (2, 2, [1, 0]))).set 105 (.inl (0, 2, [0]))).set 107 (.inl (0, 132, [0, 0, 0, 0, 0, 0]))).set 109 (.inl (0, 22, [0])))) (dc2 := 117) (ds2 := 29934) 10 rfl ?_
  exact zT_ret rfl rfl
set_option maxRecDepth 1000000 in
set_option maxHeartbeats 4000000 in
theorem zo_23_15 (xs : Nat → Int32) (h0 : xs 0 &&& 63 = 23) (h1 : xs 1 = 0) (h3 : xs 3 = 1) (h2 : (xs 2).toInt < 0) : zDone xs := by
  refine ⟨(((((((zH0.set 37 (.inr (.inr (.inr (3, [.ref 44, .ref 6, .ref 76, .ref 78, .ref 80, .ref 88, .int 1, .int 0, .ref 96, .int 0, .int 0, .int 0, .ref 98, .ref 100, .int 0]))))).set 40 (.inr (.inr (.inr (6, [.int 1, .long 70644700037184, .int 0, .ref 82, .ref 84, .ref 86]))))).set 43 (.inr (.inl (16, [70644700037184])))).set 106 (.inl (2, 2, [1, 0]))).set 105 (.inl (0, 2, [0]))).set 107 (.inl (0, 132, [0, 0, 0, 0, 0, 0]))).set 109 (.inl (0, 22, [0]))), 117, 29934, ?_, by decide, by decide⟩
  refine zT_gos (f := 200000) (pc2 := 37) (ls2 := [(4, .int 0), (3, .ref 232), (2, .ref 162), (1, .ref 0), (0, .ref 11)]) (st2 := [.int (xs 0)]) (h2 := zH0) (dc2 := 117) (ds2 := 29934) 9 rfl ?_
  refine zT_gos (f := 200000) (pc2 := 40) (ls2 := [(4, .int 0), (3, .ref 232), (2, .ref 162), (1, .ref 0), (0, .ref 11)]) (st2 := [.int ((xs 0) &&& (63 : Int32))]) (h2 := zH0) (dc2 := 117) (ds2 := 29934) 2 rfl ?_
  refine zT_val h0 ?_
  refine zT_gos (f := 200000) (pc2 := 1039) (ls2 := [(4, .int 0), (3, .ref 232), (2, .ref 162), (1, .ref 0), (0, .ref 11)]) (st2 := [.int (xs 1), .ref 0]) (h2 := zH0) (dc2 := 117) (ds2 := 29934) 7 rfl ?_
  refine zT_val h1 ?_
  refine zT_gos (f := 200000) (pc2 := 1053) (ls2 := [(4, .int 0), (3, .ref 232), (2, .ref 162), (1, .ref 0), (0, .ref 11)]) (st2 := [.int (xs 2), .int 0, .ref 0]) (h2 := zH0) (dc2 := 117) (ds2 := 29934) 7 rfl ?_
  refine zT_gos (f := 200000) (pc2 := 1059) (ls2 := [(4, .int 0), (3, .ref 232), (2, .ref 162), (1, .ref 0), (0, .ref 11)]) (st2 := [.int (xs 3), .int (xs 2), .int 0, .ref 0]) (h2 := zH0) (dc2 := 117) (ds2 := 29934) 5 rfl ?_
  refine zT_val h3 ?_
  refine zT_call (v := some (.int (-99))) (h2 := (((zH0.set 37 (.inr (.inr (.inr (3, [.ref 44, .ref 6, .ref 76, .ref 78, .ref 80, .ref 88, .int 1, .int 0, .ref 96, .int 0, .int 0, .int 0, .ref 98, .ref 100, .int 0]))))).set 40 (.inr (.inr (.inr (6, [.int 1, .long 70644700037184, .int 0, .ref 82, .ref 84, .ref 86]))))).set 43 (.inr (.inl (16, [70644700037184]))))) (d1 := 0) (s1 := 0) rfl rfl ?_ ?_
  · refine zT_gos (f := 200000) (pc2 := 33) (ls2 := [(4, .ref 80), (0, .ref 0), (1, .int 0), (2, .int (xs 2)), (3, .int 1)]) (st2 := [.int (xs 2)]) (h2 := (((zH0.set 37 (.inr (.inr (.inr (3, [.ref 44, .ref 6, .ref 76, .ref 78, .ref 80, .ref 88, .int 1, .int 0, .ref 96, .int 0, .int 0, .int 0, .ref 98, .ref 100, .int 0]))))).set 40 (.inr (.inr (.inr (6, [.int 1, .long 70644700037184, .int 0, .ref 82, .ref 84, .ref 86]))))).set 43 (.inr (.inl (16, [70644700037184]))))) (dc2 := 0) (ds2 := 0) 14 rfl ?_
    refine zT_if0 true rfl (zc_lt_t (by show ((xs 2) : Int32).toInt < 0; omega)) ?_
    refine zT_here (pc2 := 45) rfl ?_
    refine zT_gos (f := 200000) (pc2 := 57) (ls2 := [(4, .ref 80), (0, .ref 0), (1, .int 0), (2, .int (xs 2)), (3, .int 1)]) (st2 := [.int (-99)]) (h2 := (((zH0.set 37 (.inr (.inr (.inr (3, [.ref 44, .ref 6, .ref 76, .ref 78, .ref 80, .ref 88, .int 1, .int 0, .ref 96, .int 0, .int 0, .int 0, .ref 98, .ref 100, .int 0]))))).set 40 (.inr (.inr (.inr (6, [.int 1, .long 70644700037184, .int 0, .ref 82, .ref 84, .ref 86]))))).set 43 (.inr (.inl (16, [70644700037184]))))) (dc2 := 0) (ds2 := 0) 2 rfl ?_
    exact zT_ret rfl rfl
  refine zT_here (pc2 := 1062) rfl ?_
  refine zT_gos (f := 200000) (pc2 := 1069) (ls2 := [(4, .int 0), (3, .ref 232), (2, .ref 162), (1, .ref 0), (0, .ref 11)]) (st2 := [.int (xs 1), .ref 162, .int (-99)]) (h2 := (((zH0.set 37 (.inr (.inr (.inr (3, [.ref 44, .ref 6, .ref 76, .ref 78, .ref 80, .ref 88, .int 1, .int 0, .ref 96, .int 0, .int 0, .int 0, .ref 98, .ref 100, .int 0]))))).set 40 (.inr (.inr (.inr (6, [.int 1, .long 70644700037184, .int 0, .ref 82, .ref 84, .ref 86]))))).set 43 (.inr (.inl (16, [70644700037184]))))) (dc2 := 117) (ds2 := 29934) 6 rfl ?_
  refine zT_val h1 ?_
  refine zT_gos (f := 200000) (pc2 := 1083) (ls2 := [(4, .int 0), (3, .ref 232), (2, .ref 162), (1, .ref 0), (0, .ref 11)]) (st2 := [.int (xs 2), .int 0, .ref 162, .int (-99)]) (h2 := (((zH0.set 37 (.inr (.inr (.inr (3, [.ref 44, .ref 6, .ref 76, .ref 78, .ref 80, .ref 88, .int 1, .int 0, .ref 96, .int 0, .int 0, .int 0, .ref 98, .ref 100, .int 0]))))).set 40 (.inr (.inr (.inr (6, [.int 1, .long 70644700037184, .int 0, .ref 82, .ref 84, .ref 86]))))).set 43 (.inr (.inl (16, [70644700037184]))))) (dc2 := 117) (ds2 := 29934) 7 rfl ?_
  refine zT_gos (f := 200000) (pc2 := 1089) (ls2 := [(4, .int 0), (3, .ref 232), (2, .ref 162), (1, .ref 0), (0, .ref 11)]) (st2 := [.int (xs 3), .int (xs 2), .int 0, .ref 162, .int (-99)]) (h2 := (((zH0.set 37 (.inr (.inr (.inr (3, [.ref 44, .ref 6, .ref 76, .ref 78, .ref 80, .ref 88, .int 1, .int 0, .ref 96, .int 0, .int 0, .int 0, .ref 98, .ref 100, .int 0]))))).set 40 (.inr (.inr (.inr (6, [.int 1, .long 70644700037184, .int 0, .ref 82, .ref 84, .ref 86]))))).set 43 (.inr (.inl (16, [70644700037184]))))) (dc2 := 117) (ds2 := 29934) 5 rfl ?_
  refine zT_val h3 ?_
  refine zT_call (v := some (.int (-99))) (h2 := (((((((zH0.set 37 (.inr (.inr (.inr (3, [.ref 44, .ref 6, .ref 76, .ref 78, .ref 80, .ref 88, .int 1, .int 0, .ref 96, .int 0, .int 0, .int 0, .ref 98, .ref 100, .int 0]))))).set 40 (.inr (.inr (.inr (6, [.int 1, .long 70644700037184, .int 0, .ref 82, .ref 84, .ref 86]))))).set 43 (.inr (.inl (16, [70644700037184])))).set 106 (.inl (2, 2, [1, 0]))).set 105 (.inl (0, 2, [0]))).set 107 (.inl (0, 132, [0, 0, 0, 0, 0, 0]))).set 109 (.inl (0, 22, [0])))) (d1 := 0) (s1 := 0) rfl rfl ?_ ?_
  · refine zT_gos (f := 200000) (pc2 := 7) (ls2 := [(0, .ref 162), (1, .int 0), (2, .int (xs 2)), (3, .int 1)]) (st2 := [.int 0, .ref 162]) (h2 := (((zH0.set 37 (.inr (.inr (.inr (3, [.ref 44, .ref 6, .ref 76, .ref 78, .ref 80, .ref 88, .int 1, .int 0, .ref 96, .int 0, .int 0, .int 0, .ref 98, .ref 100, .int 0]))))).set 40 (.inr (.inr (.inr (6, [.int 1, .long 70644700037184, .int 0, .ref 82, .ref 84, .ref 86]))))).set 43 (.inr (.inl (16, [70644700037184]))))) (dc2 := 0) (ds2 := 0) 5 rfl ?_
    refine zT_call rfl rfl (zT_le (zg0_le 6 xs) zk_o_19) ?_
    refine zT_here (pc2 := 10) rfl ?_
    refine zT_gos (f := 200000) (pc2 := 18) (ls2 := [(4, .int 0), (0, .ref 162), (1, .int 0), (2, .int (xs 2)), (3, .int 1)]) (st2 := [.int (xs 2)]) (h2 := (((((((zH0.set 37 (.inr (.inr (.inr (3, [.ref 44, .ref 6, .ref 76, .ref 78, .ref 80, .ref 88, .int 1, .int 0, .ref 96, .int 0, .int 0, .int 0, .ref 98, .ref 100, .int 0]))))).set 40 (.inr (.inr (.inr (6, [.int 1, .long 70644700037184, .int 0, .ref 82, .ref 84, .ref 86]))))).set 43 (.inr (.inl (16, [70644700037184])))).set 106 (.inl (2, 2, [1, 0]))).set 105 (.inl (0, 2, [0]))).set 107 (.inl (0, 132, [0, 0, 0, 0, 0, 0]))).set 109 (.inl (0, 22, [0])))) (dc2 := 0) (ds2 := 0) 4 rfl ?_
    refine zT_if0 true rfl (zc_lt_t (by show ((xs 2) : Int32).toInt < 0; omega)) ?_
    refine zT_here (pc2 := 34) rfl ?_
    refine zT_gos (f := 200000) (pc2 := 54) (ls2 := [(4, .int 0), (0, .ref 162), (1, .int 0), (2, .int (xs 2)), (3, .int 1)]) (st2 := [.int (-99)]) (h2 := (((((((zH0.set 37 (.inr (.inr (.inr (3, [.ref 44, .ref 6, .ref 76, .ref 78, .ref 80, .ref 88, .int 1, .int 0, .ref 96, .int 0, .int 0, .int 0, .ref 98, .ref 100, .int 0]))))).set 40 (.inr (.inr (.inr (6, [.int 1, .long 70644700037184, .int 0, .ref 82, .ref 84, .ref 86]))))).set 43 (.inr (.inl (16, [70644700037184])))).set 106 (.inl (2, 2, [1, 0]))).set 105 (.inl (0, 2, [0]))).set 107 (.inl (0, 132, [0, 0, 0, 0, 0, 0]))).set 109 (.inl (0, 22, [0])))) (dc2 := 0) (ds2 := 0) 2 rfl ?_
    exact zT_ret rfl rfl
  refine zT_here (pc2 := 1092) rfl ?_
  refine zT_gos (f := 200000) (pc2 := 1811) (ls2 := [(4, .int 6), (3, .ref 232), (2, .ref 162), (1, .ref 0), (0, .ref 11)]) (st2 := [.int 1]) (h2 := (((((((zH0.set 37 (.inr (.inr (.inr (3, [.ref 44, .ref 6, .ref 76, .ref 78, .ref 80, .ref 88, .int 1, .int 0, .ref 96, .int 0, .int 0, .int 0, .ref 98, .ref 100, .int 0]))))).set 40 (.inr (.inr (.inr (6, [.int 1, .long 70644700037184, .int 0, .ref 82, .ref 84, .ref 86]))))).set 43 (.inr (.inl (16, [70644700037184])))).set 106 (.inl (2, 2, [1, 0]))).set 105 (.inl (0, 2, [0]))).set 107 (.inl (0, 132, [0, 0, 0, 0, 0, 0]))).set 109 (.inl (0, 22, [0])))) (dc2 := 117) (ds2 := 29934) 10 rfl ?_
  exact zT_ret rfl rfl
set_option maxRecDepth 1000000 in
set_option maxHeartbeats 4000000 in
theorem zo_23_16 (xs : Nat → Int32) (h0 : xs 0 &&& 63 = 23) (h1 : xs 1 = 0) (h3 : xs 3 = 1) (h2 : 0 < (xs 2).toInt) : zDone xs := by
  refine ⟨(((((((zH0.set 37 (.inr (.inr (.inr (3, [.ref 44, .ref 6, .ref 76, .ref 78, .ref 80, .ref 88, .int 1, .int 0, .ref 96, .int 0, .int 0, .int 0, .ref 98, .ref 100, .int 0]))))).set 40 (.inr (.inr (.inr (6, [.int 1, .long 70644700037184, .int 0, .ref 82, .ref 84, .ref 86]))))).set 43 (.inr (.inl (16, [70644700037184])))).set 106 (.inl (2, 2, [1, 0]))).set 105 (.inl (0, 2, [0]))).set 107 (.inl (0, 132, [0, 0, 0, 0, 0, 0]))).set 109 (.inl (0, 22, [0]))), 117, 29934, ?_, by decide, by decide⟩
  refine zT_gos (f := 200000) (pc2 := 37) (ls2 := [(4, .int 0), (3, .ref 232), (2, .ref 162), (1, .ref 0), (0, .ref 11)]) (st2 := [.int (xs 0)]) (h2 := zH0) (dc2 := 117) (ds2 := 29934) 9 rfl ?_
  refine zT_gos (f := 200000) (pc2 := 40) (ls2 := [(4, .int 0), (3, .ref 232), (2, .ref 162), (1, .ref 0), (0, .ref 11)]) (st2 := [.int ((xs 0) &&& (63 : Int32))]) (h2 := zH0) (dc2 := 117) (ds2 := 29934) 2 rfl ?_
  refine zT_val h0 ?_
  refine zT_gos (f := 200000) (pc2 := 1039) (ls2 := [(4, .int 0), (3, .ref 232), (2, .ref 162), (1, .ref 0), (0, .ref 11)]) (st2 := [.int (xs 1), .ref 0]) (h2 := zH0) (dc2 := 117) (ds2 := 29934) 7 rfl ?_
  refine zT_val h1 ?_
  refine zT_gos (f := 200000) (pc2 := 1053) (ls2 := [(4, .int 0), (3, .ref 232), (2, .ref 162), (1, .ref 0), (0, .ref 11)]) (st2 := [.int (xs 2), .int 0, .ref 0]) (h2 := zH0) (dc2 := 117) (ds2 := 29934) 7 rfl ?_
  refine zT_gos (f := 200000) (pc2 := 1059) (ls2 := [(4, .int 0), (3, .ref 232), (2, .ref 162), (1, .ref 0), (0, .ref 11)]) (st2 := [.int (xs 3), .int (xs 2), .int 0, .ref 0]) (h2 := zH0) (dc2 := 117) (ds2 := 29934) 5 rfl ?_
  refine zT_val h3 ?_
  refine zT_call (v := some (.int (-99))) (h2 := (((zH0.set 37 (.inr (.inr (.inr (3, [.ref 44, .ref 6, .ref 76, .ref 78, .ref 80, .ref 88, .int 1, .int 0, .ref 96, .int 0, .int 0, .int 0, .ref 98, .ref 100, .int 0]))))).set 40 (.inr (.inr (.inr (6, [.int 1, .long 70644700037184, .int 0, .ref 82, .ref 84, .ref 86]))))).set 43 (.inr (.inl (16, [70644700037184]))))) (d1 := 0) (s1 := 0) rfl rfl ?_ ?_
  · refine zT_gos (f := 200000) (pc2 := 33) (ls2 := [(4, .ref 80), (0, .ref 0), (1, .int 0), (2, .int (xs 2)), (3, .int 1)]) (st2 := [.int (xs 2)]) (h2 := (((zH0.set 37 (.inr (.inr (.inr (3, [.ref 44, .ref 6, .ref 76, .ref 78, .ref 80, .ref 88, .int 1, .int 0, .ref 96, .int 0, .int 0, .int 0, .ref 98, .ref 100, .int 0]))))).set 40 (.inr (.inr (.inr (6, [.int 1, .long 70644700037184, .int 0, .ref 82, .ref 84, .ref 86]))))).set 43 (.inr (.inl (16, [70644700037184]))))) (dc2 := 0) (ds2 := 0) 14 rfl ?_
    refine zT_if0 false rfl (zc_lt_f (by show ((xs 2) : Int32).toInt ≥ 0; omega)) ?_
    refine zT_here (pc2 := 36) rfl ?_
    refine zT_gos (f := 200000) (pc2 := 42) (ls2 := [(4, .ref 80), (0, .ref 0), (1, .int 0), (2, .int (xs 2)), (3, .int 1)]) (st2 := [.int 0, .int (xs 2)]) (h2 := (((zH0.set 37 (.inr (.inr (.inr (3, [.ref 44, .ref 6, .ref 76, .ref 78, .ref 80, .ref 88, .int 1, .int 0, .ref 96, .int 0, .int 0, .int 0, .ref 98, .ref 100, .int 0]))))).set 40 (.inr (.inr (.inr (6, [.int 1, .long 70644700037184, .int 0, .ref 82, .ref 84, .ref 86]))))).set 43 (.inr (.inl (16, [70644700037184]))))) (dc2 := 0) (ds2 := 0) 3 rfl ?_
    refine zT_if2 false rfl (zc_le_f (by show ((xs 2) : Int32).toInt > 0; omega)) ?_
    refine zT_here (pc2 := 45) rfl ?_
    refine zT_gos (f := 200000) (pc2 := 57) (ls2 := [(4, .ref 80), (0, .ref 0), (1, .int 0), (2, .int (xs 2)), (3, .int 1)]) (st2 := [.int (-99)]) (h2 := (((zH0.set 37 (.inr (.inr (.inr (3, [.ref 44, .ref 6, .ref 76, .ref 78, .ref 80, .ref 88, .int 1, .int 0, .ref 96, .int 0, .int 0, .int 0, .ref 98, .ref 100, .int 0]))))).set 40 (.inr (.inr (.inr (6, [.int 1, .long 70644700037184, .int 0, .ref 82, .ref 84, .ref 86]))))).set 43 (.inr (.inl (16, [70644700037184]))))) (dc2 := 0) (ds2 := 0) 2 rfl ?_
    exact zT_ret rfl rfl
  refine zT_here (pc2 := 1062) rfl ?_
  refine zT_gos (f := 200000) (pc2 := 1069) (ls2 := [(4, .int 0), (3, .ref 232), (2, .ref 162), (1, .ref 0), (0, .ref 11)]) (st2 := [.int (xs 1), .ref 162, .int (-99)]) (h2 := (((zH0.set 37 (.inr (.inr (.inr (3, [.ref 44, .ref 6, .ref 76, .ref 78, .ref 80, .ref 88, .int 1, .int 0, .ref 96, .int 0, .int 0, .int 0, .ref 98, .ref 100, .int 0]))))).set 40 (.inr (.inr (.inr (6, [.int 1, .long 70644700037184, .int 0, .ref 82, .ref 84, .ref 86]))))).set 43 (.inr (.inl (16, [70644700037184]))))) (dc2 := 117) (ds2 := 29934) 6 rfl ?_
  refine zT_val h1 ?_
  refine zT_gos (f := 200000) (pc2 := 1083) (ls2 := [(4, .int 0), (3, .ref 232), (2, .ref 162), (1, .ref 0), (0, .ref 11)]) (st2 := [.int (xs 2), .int 0, .ref 162, .int (-99)]) (h2 := (((zH0.set 37 (.inr (.inr (.inr (3, [.ref 44, .ref 6, .ref 76, .ref 78, .ref 80, .ref 88, .int 1, .int 0, .ref 96, .int 0, .int 0, .int 0, .ref 98, .ref 100, .int 0]))))).set 40 (.inr (.inr (.inr (6, [.int 1, .long 70644700037184, .int 0, .ref 82, .ref 84, .ref 86]))))).set 43 (.inr (.inl (16, [70644700037184]))))) (dc2 := 117) (ds2 := 29934) 7 rfl ?_
  refine zT_gos (f := 200000) (pc2 := 1089) (ls2 := [(4, .int 0), (3, .ref 232), (2, .ref 162), (1, .ref 0), (0, .ref 11)]) (st2 := [.int (xs 3), .int (xs 2), .int 0, .ref 162, .int (-99)]) (h2 := (((zH0.set 37 (.inr (.inr (.inr (3, [.ref 44, .ref 6, .ref 76, .ref 78, .ref 80, .ref 88, .int 1, .int 0, .ref 96, .int 0, .int 0, .int 0, .ref 98, .ref 100, .int 0]))))).set 40 (.inr (.inr (.inr (6, [.int 1, .long 70644700037184, .int 0, .ref 82, .ref 84, .ref 86]))))).set 43 (.inr (.inl (16, [70644700037184]))))) (dc2 := 117) (ds2 := 29934) 5 rfl ?_
  refine zT_val h3 ?_
  refine zT_call (v := some (.int (-99))) (h2 := (((((((zH0.set 37 (.inr (.inr (.inr (3, [.ref 44, .ref 6, .ref 76, .ref 78, .ref 80, .ref 88, .int 1, .int 0, .ref 96, .int 0, .int 0, .int 0, .ref 98, .ref 100, .int 0]))))).set 40 (.inr (.inr (.inr (6, [.int 1, .long 70644700037184, .int 0, .ref 82, .ref 84, .ref 86]))))).set 43 (.inr (.inl (16, [70644700037184])))).set 106 (.inl (2, 2, [1, 0]))).set 105 (.inl (0, 2, [0]))).set 107 (.inl (0, 132, [0, 0, 0, 0, 0, 0]))).set 109 (.inl (0, 22, [0])))) (d1 := 0) (s1 := 0) rfl rfl ?_ ?_
  · refine zT_gos (f := 200000) (pc2 := 7) (ls2 := [(0, .ref 162), (1, .int 0), (2, .int (xs 2)), (3, .int 1)]) (st2 := [.int 0, .ref 162]) (h2 := (((zH0.set 37 (.inr (.inr (.inr (3, [.ref 44, .ref 6, .ref 76, .ref 78, .ref 80, .ref 88, .int 1, .int 0, .ref 96, .int 0, .int 0, .int 0, .ref 98, .ref 100, .int 0]))))).set 40 (.inr (.inr (.inr (6, [.int 1, .long 70644700037184, .int 0, .ref 82, .ref 84, .ref 86]))))).set 43 (.inr (.inl (16, [70644700037184]))))) (dc2 := 0) (ds2 := 0) 5 rfl ?_
    refine zT_call rfl rfl (zT_le (zg0_le 6 xs) zk_o_19) ?_
    refine zT_here (pc2 := 10) rfl ?_
    refine zT_gos (f := 200000) (pc2 := 18) (ls2 := [(4, .int 0), (0, .ref 162), (1, .int 0), (2, .int (xs 2)), (3, .int 1)]) (st2 := [.int (xs 2)]) (h2 := (((((((zH0.set 37 (.inr (.inr (.inr (3, [.ref 44, .ref 6, .ref 76, .ref 78, .ref 80, .ref 88, .int 1, .int 0, .ref 96, .int 0, .int 0, .int 0, .ref 98, .ref 100, .int 0]))))).set 40 (.inr (.inr (.inr (6, [.int 1, .long 70644700037184, .int 0, .ref 82, .ref 84, .ref 86]))))).set 43 (.inr (.inl (16, [70644700037184])))).set 106 (.inl (2, 2, [1, 0]))).set 105 (.inl (0, 2, [0]))).set 107 (.inl (0, 132, [0, 0, 0, 0, 0, 0]))).set 109 (.inl (0, 22, [0])))) (dc2 := 0) (ds2 := 0) 4 rfl ?_
    refine zT_if0 false rfl (zc_lt_f (by show ((xs 2) : Int32).toInt ≥ 0; omega)) ?_
    refine zT_here (pc2 := 21) rfl ?_
    refine zT_gos (f := 200000) (pc2 := 24) (ls2 := [(4, .int 0), (0, .ref 162), (1, .int 0), (2, .int (xs 2)), (3, .int 1)]) (st2 := [.int 0, .int (xs 2)]) (h2 := (((((((zH0.set 37 (.inr (.inr (.inr (3, [.ref 44, .ref 6, .ref 76, .ref 78, .ref 80, .ref 88, .int 1, .int 0, .ref 96, .int 0, .int 0, .int 0, .ref 98, .ref 100, .int 0]))))).set 40 (.inr (.inr (.inr (6, [.int 1, .long 70644700037184, .int 0, .ref 82, .ref 84, .ref 86]))))).set 43 (.inr (.inl (16, [70644700037184])))).set 106 (.inl (2, 2, [1, 0]))).set 105 (.inl (0, 2, [0]))).set 107 (.inl (0, 132, [0, 0, 0, 0, 0, 0]))).set 109 (.inl (0, 22, [0])))) (dc2 := 0) (ds2 := 0) 2 rfl ?_
    refine zT_if2 true rfl (zc_gt_t (by show ((xs 2) : Int32).toInt > 0; omega)) ?_
    refine zT_here (pc2 := 34) rfl ?_
    refine zT_gos (f := 200000) (pc2 := 54) (ls2 := [(4, .int 0), (0, .ref 162), (1, .int 0), (2, .int (xs 2)), (3, .int 1)]) (st2 := [.int (-99)]) (h2 := (((((((zH0.set 37 (.inr (.inr (.inr (3, [.ref 44, .ref 6, .ref 76, .ref 78, .ref 80, .ref 88, .int 1, .int 0, .ref 96, .int 0, .int 0, .int 0, .ref 98, .ref 100, .int 0]))))).set 40 (.inr (.inr (.inr (6, [.int 1, .long 70644700037184, .int 0, .ref 82, .ref 84, .ref 86]))))).set 43 (.inr (.inl (16, [70644700037184])))).set 106 (.inl (2, 2, [1, 0]))).set 105 (.inl (0, 2, [0]))).set 107 (.inl (0, 132, [0, 0, 0, 0, 0, 0]))).set 109 (.inl (0, 22, [0])))) (dc2 := 0) (ds2 := 0) 2 rfl ?_
    exact zT_ret rfl rfl
  refine zT_here (pc2 := 1092) rfl ?_
  refine zT_gos (f := 200000) (pc2 := 1811) (ls2 := [(4, .int 6), (3, .ref 232), (2, .ref 162), (1, .ref 0), (0, .ref 11)]) (st2 := [.int 1]) (h2 := (((((((zH0.set 37 (.inr (.inr (.inr (3, [.ref 44, .ref 6, .ref 76, .ref 78, .ref 80, .ref 88, .int 1, .int 0, .ref 96, .int 0, .int 0, .int 0, .ref 98, .ref 100, .int 0]))))).set 40 (.inr (.inr (.inr (6, [.int 1, .long 70644700037184, .int 0, .ref 82, .ref 84, .ref 86]))))).set 43 (.inr (.inl (16, [70644700037184])))).set 106 (.inl (2, 2, [1, 0]))).set 105 (.inl (0, 2, [0]))).set 107 (.inl (0, 132, [0, 0, 0, 0, 0, 0]))).set 109 (.inl (0, 22, [0])))) (dc2 := 117) (ds2 := 29934) 10 rfl ?_
  exact zT_ret rfl rfl
set_option maxRecDepth 1000000 in
theorem zk_o_119 : zT zg0 zF zP 124 0 [(0, .ref 0), (1, .int 0), (2, .int 0), (3, .int 1)] [] zH0 0 0 (some (.int 0), (((zH0.set 37 (.inr (.inr (.inr (3, [.ref 44, .ref 6, .ref 76, .ref 78, .ref 80, .ref 88, .int 1, .int 0, .ref 96, .int 0, .int 0, .int 0, .ref 98, .ref 100, .int 0]))))).set 40 (.inr (.inr (.inr (6, [.int 1, .long 70644700037184, .int 0, .ref 82, .ref 84, .ref 86]))))).set 43 (.inr (.inl (16, [70644700037184])))), 0, 0) := zclosed (n := 148) (by decide +kernel)
set_option maxRecDepth 1000000 in
theorem zk_o_120 : zT zg0 zF zP 255 0 [(0, .ref 162), (1, .int 0), (2, .int 0), (3, .int 1)] [] (((zH0.set 37 (.inr (.inr (.inr (3, [.ref 44, .ref 6, .ref 76, .ref 78, .ref 80, .ref 88, .int 1, .int 0, .ref 96, .int 0, .int 0, .int 0, .ref 98, .ref 100, .int 0]))))).set 40 (.inr (.inr (.inr (6, [.int 1, .long 70644700037184, .int 0, .ref 82, .ref 84, .ref 86]))))).set 43 (.inr (.inl (16, [70644700037184])))) 0 0 (some (.int 0), (((((((zH0.set 37 (.inr (.inr (.inr (3, [.ref 44, .ref 6, .ref 76, .ref 78, .ref 80, .ref 88, .int 1, .int 0, .ref 96, .int 0, .int 0, .int 0, .ref 98, .ref 100, .int 0]))))).set 40 (.inr (.inr (.inr (6, [.int 1, .long 70644700037184, .int 0, .ref 82, .ref 84, .ref 86]))))).set 43 (.inr (.inl (16, [70644700037184])))).set 106 (.inl (2, 2, [1, 0]))).set 105 (.inl (0, 2, [0]))).set 107 (.inl (0, 132, [0, 0, 0, 0, 0, 0]))).set 109 (.inl (0, 22, [0]))), 0, 0) := zclosed (n := 227) (by decide +kernel)
set_option maxRecDepth 1000000 in
set_option maxHeartbeats 4000000 in
theorem zo_23_17 (xs : Nat → Int32) (h0 : xs 0 &&& 63 = 23) (h1 : xs 1 = 0) (h3 : xs 3 = 1) (h2 : xs 2 = 0) : zDone xs := by
  refine ⟨(((((((zH0.set 37 (.inr (.inr (.inr (3, [.ref 44, .ref 6, .ref 76, .ref 78, .ref 80, .ref 88, .int 1, .int 0, .ref 96, .int 0, .int 0, .int 0, .ref 98, .ref 100, .int 0]))))).set 40 (.inr (.inr (.inr (6, [.int 1, .long 70644700037184, .int 0, .ref 82, .ref 84, .ref 86]))))).set 43 (.inr (.inl (16, [70644700037184])))).set 106 (.inl (2, 2, [1, 0]))).set 105 (.inl (0, 2, [0]))).set 107 (.inl (0, 132, [0, 0, 0, 0, 0, 0]))).set 109 (.inl (0, 22, [0]))), 117, 29934, ?_, by decide, by decide⟩
  refine zT_gos (f := 200000) (pc2 := 37) (ls2 := [(4, .int 0), (3, .ref 232), (2, .ref 162), (1, .ref 0), (0, .ref 11)]) (st2 := [.int (xs 0)]) (h2 := zH0) (dc2 := 117) (ds2 := 29934) 9 rfl ?_
  refine zT_gos (f := 200000) (pc2 := 40) (ls2 := [(4, .int 0), (3, .ref 232), (2, .ref 162), (1, .ref 0), (0, .ref 11)]) (st2 := [.int ((xs 0) &&& (63 : Int32))]) (h2 := zH0) (dc2 := 117) (ds2 := 29934) 2 rfl ?_
  refine zT_val h0 ?_
  refine zT_gos (f := 200000) (pc2 := 1039) (ls2 := [(4, .int 0), (3, .ref 232), (2, .ref 162), (1, .ref 0), (0, .ref 11)]) (st2 := [.int (xs 1), .ref 0]) (h2 := zH0) (dc2 := 117) (ds2 := 29934) 7 rfl ?_
  refine zT_val h1 ?_
  refine zT_gos (f := 200000) (pc2 := 1053) (ls2 := [(4, .int 0), (3, .ref 232), (2, .ref 162), (1, .ref 0), (0, .ref 11)]) (st2 := [.int (xs 2), .int 0, .ref 0]) (h2 := zH0) (dc2 := 117) (ds2 := 29934) 7 rfl ?_
  refine zT_val h2 ?_
  refine zT_gos (f := 200000) (pc2 := 1059) (ls2 := [(4, .int 0), (3, .ref 232), (2, .ref 162), (1, .ref 0), (0, .ref 11)]) (st2 := [.int (xs 3), .int 0, .int 0, .ref 0]) (h2 := zH0) (dc2 := 117) (ds2 := 29934) 5 rfl ?_
  refine zT_val h3 ?_
  refine zT_call rfl rfl (zT_le (zg0_le 6 xs) zk_o_119) ?_
  refine zT_here (pc2 := 1062) rfl ?_
  refine zT_gos (f := 200000) (pc2 := 1069) (ls2 := [(4, .int 0), (3, .ref 232), (2, .ref 162), (1, .ref 0), (0, .ref 11)]) (st2 := [.int (xs 1), .ref 162, .int 0]) (h2 := (((zH0.set 37 (.inr (.inr (.inr (3, [.ref 44, .ref 6, .ref 76, .ref 78, .ref 80, .ref 88, .int 1, .int 0, .ref 96, .int 0, .int 0, .int 0, .ref 98, .ref 100, .int 0]))))).set 40 (.inr (.inr (.inr (6, [.int 1, .long 70644700037184, .int 0, .ref 82, .ref 84, .ref 86]))))).set 43 (.inr (.inl (16, [70644700037184]))))) (dc2 := 117) (ds2 := 29934) 6 rfl ?_
  refine zT_val h1 ?_
  refine zT_gos (f := 200000) (pc2 := 1083) (ls2 := [(4, .int 0), (3, .ref 232), (2, .ref 162), (1, .ref 0), (0, .ref 11)]) (st2 := [.int (xs 2), .int 0, .ref 162, .int 0]) (h2 := (((zH0.set 37 (.inr (.inr (.inr (3, [.ref 44, .ref 6, .ref 76, .ref 78, .ref 80, .ref 88, .int 1, .int 0, .ref 96, .int 0, .int 0, .int 0, .ref 98, .ref 100, .int 0]))))).set 40 (.inr (.inr (.inr (6, [.int 1, .long 70644700037184, .int 0, .ref 82, .ref 84, .ref 86]))))).set 43 (.inr (.inl (16, [70644700037184]))))) (dc2 := 117) (ds2 := 29934) 7 rfl ?_
  refine zT_val h2 ?_
  refine zT_gos (f := 200000) (pc2 := 1089) (ls2 := [(4, .int 0), (3, .ref 232), (2, .ref 162), (1, .ref 0), (0, .ref 11)]) (st2 := [.int (xs 3), .int 0, .int 0, .ref 162, .int 0]) (h2 := (((zH0.set 37 (.inr (.inr (.inr (3, [.ref 44, .ref 6, .ref 76, .ref 78, .ref 80, .ref 88, .int 1, .int 0, .ref 96, .int 0, .int 0, .int 0, .ref 98, .ref 100, .int 0]))))).set 40 (.inr (.inr (.inr (6, [.int 1, .long 70644700037184, .int 0, .ref 82, .ref 84, .ref 86]))))).set 43 (.inr (.inl (16, [70644700037184]))))) (dc2 := 117) (ds2 := 29934) 5 rfl ?_
  refine zT_val h3 ?_
  refine zT_call rfl rfl (zT_le (zg0_le 6 xs) zk_o_120) ?_
  refine zT_here (pc2 := 1092) rfl ?_
  refine zT_gos (f := 200000) (pc2 := 1811) (ls2 := [(4, .int 6), (3, .ref 232), (2, .ref 162), (1, .ref 0), (0, .ref 11)]) (st2 := [.int 1]) (h2 := (((((((zH0.set 37 (.inr (.inr (.inr (3, [.ref 44, .ref 6, .ref 76, .ref 78, .ref 80, .ref 88, .int 1, .int 0, .ref 96, .int 0, .int 0, .int 0, .ref 98, .ref 100, .int 0]))))).set 40 (.inr (.inr (.inr (6, [.int 1, .long 70644700037184, .int 0, .ref 82, .ref 84, .ref 86]))))).set 43 (.inr (.inl (16, [70644700037184])))).set 106 (.inl (2, 2, [1, 0]))).set 105 (.inl (0, 2, [0]))).set 107 (.inl (0, 132, [0, 0, 0, 0, 0, 0]))).set 109 (.inl (0, 22, [0])))) (dc2 := 117) (ds2 := 29934) 10 rfl ?_
  exact zT_ret rfl rfl
set_option maxRecDepth 1000000 in
set_option maxHeartbeats 4000000 in
theorem zo_23_18 (xs : Nat → Int32) (h0 : xs 0 &&& 63 = 23) (h1 : xs 1 = 0) (h3 : xs 3 = 2) (h2 : (xs 2).toInt < 0) : zDone xs := by
  refine ⟨(((((((zH0.set 37 (.inr (.inr (.inr (3, [.ref 44, .ref 6, .ref 76, .ref 78, .ref 80, .ref 88, .int 1, .int 0, .ref 96, .int 0, .int 0, .int 0, .ref 98, .ref 100, .int 0]))))).set 40 (.inr (.inr (.inr (6, [.int 1, .long 70644700037184, .int 0, .ref 82, .ref 84, .ref 86]))))).set 43 (.inr (.inl (16, [70644700037184])))).set 106 (.inl (2, 2, [1, 0]))).set 105 (.inl (0, 2, [0]))).set 107 (.inl (0, 132, [0, 0, 0, 0, 0, 0]))).set 109 (.inl (0, 22, [0]))), 117, 29934, ?_, by decide, by decide⟩
  refine zT_gos (f := 200000) (pc2 := 37) (ls2 := [(4, .int 0), (3, .ref 232), (2, .ref 162), (1, .ref 0), (0, .ref 11)]) (st2 := [.int (xs 0)]) (h2 := zH0) (dc2 := 117) (ds2 := 29934) 9 rfl ?_
  refine zT_gos (f := 200000) (pc2 := 40) (ls2 := [(4, .int 0), (3, .ref 232), (2, .ref 162), (1, .ref 0), (0, .ref 11)]) (st2 := [.int ((xs 0) &&& (63 : Int32))]) (h2 := zH0) (dc2 := 117) (ds2 := 29934) 2 rfl ?_
  refine zT_val h0 ?_
  refine zT_gos (f := 200000) (pc2 := 1039) (ls2 := [(4, .int 0), (3, .ref 232), (2, .ref 162), (1, .ref 0), (0, .ref 11)]) (st2 := [.int (xs 1), .ref 0]) (h2 := zH0) (dc2 := 117) (ds2 := 29934) 7 rfl ?_
  refine zT_val h1 ?_
  refine zT_gos (f := 200000) (pc2 := 1053) (ls2 := [(4, .int 0), (3, .ref 232), (2, .ref 162), (1, .ref 0), (0, .ref 11)]) (st2 := [.int (xs 2), .int 0, .ref 0]) (h2 := zH0) (dc2 := 117) (ds2 := 29934) 7 rfl ?_
  refine zT_gos (f := 200000) (pc2 := 1059) (ls2 := [(4, .int 0), (3, .ref 232), (2, .ref 162), (1, .ref 0), (0, .ref 11)]) (st2 := [.int (xs 3), .int (xs 2), .int 0, .ref 0]) (h2 := zH0) (dc2 := 117) (ds2 := 29934) 5 rfl ?_
  refine zT_val h3 ?_
  refine zT_call (v := some (.int (-99))) (h2 := (((zH0.set 37 (.inr (.inr (.inr (3, [.ref 44, .ref 6, .ref 76, .ref 78, .ref 80, .ref 88, .int 1, .int 0, .ref 96, .int 0, .int 0, .int 0, .ref 98, .ref 100, .int 0]))))).set 40 (.inr (.inr (.inr (6, [.int 1, .long 70644700037184, .int 0, .ref 82, .ref 84, .ref 86]))))).set 43 (.inr (.inl (16, [70644700037184]))))) (d1 := 0) (s1 := 0) rfl rfl ?_ ?_
  · refine zT_gos (f := 200000) (pc2 := 33) (ls2 := [(4, .ref 80), (0, .ref 0), (1, .int 0), (2, .int (xs 2)), (3, .int 2)]) (st2 := [.int (xs 2)]) (h2 := (((zH0.set 37 (.inr (.inr (.inr (3, [.ref 44, .ref 6, .ref 76, .ref 78, .ref 80, .ref 88, .int 1, .int 0, .ref 96, .int 0, .int 0, .int 0, .ref 98, .ref 100, .int 0]))))).set 40 (.inr (.inr (.inr (6, [.int 1, .long 70644700037184, .int 0, .ref 82, .ref 84, .ref 86]))))).set 43 (.inr (.inl (16, [70644700037184]))))) (dc2 := 0) (ds2 := 0) 14 rfl ?_
    refine zT_if0 true rfl (zc_lt_t (by show ((xs 2) : Int32).toInt < 0; omega)) ?_
    refine zT_here (pc2 := 45) rfl ?_
    refine zT_gos (f := 200000) (pc2 := 57) (ls2 := [(4, .ref 80), (0, .ref 0), (1, .int 0), (2, .int (xs 2)), (3, .int 2)]) (st2 := [.int (-99)]) (h2 := (((zH0.set 37 (.inr (.inr (.inr (3, [.ref 44, .ref 6, .ref 76, .ref 78, .ref 80, .ref 88, .int 1, .int 0, .ref 96, .int 0, .int 0, .int 0, .ref 98, .ref 100, .int 0]))))).set 40 (.inr (.inr (.inr (6, [.int 1, .long 70644700037184, .int 0, .ref 82, .ref 84, .ref 86]))))).set 43 (.inr (.inl (16, [70644700037184]))))) (dc2 := 0) (ds2 := 0) 2 rfl ?_
    exact zT_ret rfl rfl
  refine zT_here (pc2 := 1062) rfl ?_
  refine zT_gos (f := 200000) (pc2 := 1069) (ls2 := [(4, .int 0), (3, .ref 232), (2, .ref 162), (1, .ref 0), (0, .ref 11)]) (st2 := [.int (xs 1), .ref 162, .int (-99)]) (h2 := (((zH0.set 37 (.inr (.inr (.inr (3, [.ref 44, .ref 6, .ref 76, .ref 78, .ref 80, .ref 88, .int 1, .int 0, .ref 96, .int 0, .int 0, .int 0, .ref 98, .ref 100, .int 0]))))).set 40 (.inr (.inr (.inr (6, [.int 1, .long 70644700037184, .int 0, .ref 82, .ref 84, .ref 86]))))).set 43 (.inr (.inl (16, [70644700037184]))))) (dc2 := 117) (ds2 := 29934) 6 rfl ?_
  refine zT_val h1 ?_
  refine zT_gos (f := 200000) (pc2 := 1083) (ls2 := [(4, .int 0), (3, .ref 232), (2, .ref 162), (1, .ref 0), (0, .ref 11)]) (st2 := [.int (xs 2), .int 0, .ref 162, .int (-99)]) (h2 := (((zH0.set 37 (.inr (.inr (.inr (3, [.ref 44, .ref 6, .ref 76, .ref 78, .ref 80, .ref 88, .int 1, .int 0, .ref 96, .int 0, .int 0, .int 0, .ref 98, .ref 100, .int 0]))))).set 40 (.inr (.inr (.inr (6, [.int 1, .long 70644700037184, .int 0, .ref 82, .ref 84, .ref 86]))))).set 43 (.inr (.inl (16, [70644700037184]))))) (dc2 := 117) (ds2 := 29934) 7 rfl ?_
  refine zT_gos (f := 200000) (pc2 := 1089) (ls2 := [(4, .int 0), (3, .ref 232), (2, .ref 162), (1, .ref 0), (0, .ref 11)]) (st2 := [.int (xs 3), .int (xs 2), .int 0, .ref 162, .int (-99)]) (h2 := (((zH0.set 37 (.inr (.inr (.inr (3, [.ref 44, .ref 6, .ref 76, .ref 78, .ref 80, .ref 88, .int 1, .int 0, .ref 96, .int 0, .int 0, .int 0, .ref 98, .ref 100, .int 0]))))).set 40 (.inr (.inr (.inr (6, [.int 1, .long 70644700037184, .int 0, .ref 82, .ref 84, .ref 86]))))).set 43 (.inr (.inl (16, [70644700037184]))))) (dc2 := 117) (ds2 := 29934) 5 rfl ?_
  refine zT_val h3 ?_
  refine zT_call (v := some (.int (-99))) (h2 := (((((((zH0.set 37 (.inr (.inr (.inr (3, [.ref 44, .ref 6, .ref 76, .ref 78, .ref 80, .ref 88, .int 1, .int 0, .ref 96, .int 0, .int 0, .int 0, .ref 98, .ref 100, .int 0]))))).set 40 (.inr (.inr (.inr (6, [.int 1, .long 70644700037184, .int 0, .ref 82, .ref 84, .ref 86]))))).set 43 (.inr (.inl (16, [70644700037184])))).set 106 (.inl (2, 2, [1, 0]))).set 105 (.inl (0, 2, [0]))).set 107 (.inl (0, 132, [0, 0, 0, 0, 0, 0]))).set 109 (.inl (0, 22, [0])))) (d1 := 0) (s1 := 0) rfl rfl ?_ ?_
  · refine zT_gos (f := 200000) (pc2 := 7) (ls2 := [(0, .ref 162), (1, .int 0), (2, .int (xs 2)), (3, .int 2)]) (st2 := [.int 0, .ref 162]) (h2 := (((zH0.set 37 (.inr (.inr (.inr (3, [.ref 44, .ref 6, .ref 76, .ref 78, .ref 80, .ref 88, .int 1, .int 0, .ref 96, .int 0, .int 0, .int 0, .ref 98, .ref 100, .int 0]))))).set 40 (.inr (.inr (.inr (6, [.int 1, .long 70644700037184, .int 0, .ref 82, .ref 84, .ref 86]))))).set 43 (.inr (.inl (16, [70644700037184]))))) (dc2 := 0) (ds2 := 0) 5 rfl ?_
    refine zT_call rfl rfl (zT_le (zg0_le 6 xs) zk_o_19) ?_
    refine zT_here (pc2 := 10) rfl ?_
    refine zT_gos (f := 200000) (pc2 := 18) (ls2 := [(4, .int 0), (0, .ref 162), (1, .int 0), (2, .int (xs 2)), (3, .int 2)]) (st2 := [.int (xs 2)]) (h2 := (((((((zH0.set 37 (.inr (.inr (.inr (3, [.ref 44, .ref 6, .ref 76, .ref 78, .ref 80, .ref 88, .int 1, .int 0, .ref 96, .int 0, .int 0, .int 0, .ref 98, .ref 100, .int 0]))))).set 40 (.inr (.inr (.inr (6, [.int 1, .long 70644700037184, .int 0, .ref 82, .ref 84, .ref 86]))))).set 43 (.inr (.inl (16, [70644700037184])))).set 106 (.inl (2, 2, [1, 0]))).set 105 (.inl (0, 2, [0]))).set 107 (.inl (0, 132, [0, 0, 0, 0, 0, 0]))).set 109 (.inl (0, 22, [0])))) (dc2 := 0) (ds2 := 0) 4 rfl ?_
    refine zT_if0 true rfl (zc_lt_t (by show ((xs 2) : Int32).toInt < 0; omega)) ?_
    refine zT_here (pc2 := 34) rfl ?_
    refine zT_gos (f := 200000) (pc2 := 54) (ls2 := [(4, .int 0), (0, .ref 162), (1, .int 0), (2, .int (xs 2)), (3, .int 2)]) (st2 := [.int (-99)]) (h2 := (((((((zH0.set 37 (.inr (.inr (.inr (3, [.ref 44, .ref 6, .ref 76, .ref 78, .ref 80, .ref 88, .int 1, .int 0, .ref 96, .int 0, .int 0, .int 0, .ref 98, .ref 100, .int 0]))))).set 40 (.inr (.inr (.inr (6, [.int 1, .long 70644700037184, .int 0, .ref 82, .ref 84, .ref 86]))))).set 43 (.inr (.inl (16, [70644700037184])))).set 106 (.inl (2, 2, [1, 0]))).set 105 (.inl (0, 2, [0]))).set 107 (.inl (0, 132, [0, 0, 0, 0, 0, 0]))).set 109 (.inl (0, 22, [0])))) (dc2 := 0) (ds2 := 0) 2 rfl ?_
    exact zT_ret rfl rfl
  refine zT_here (pc2 := 1092) rfl ?_
  refine zT_gos (f := 200000) (pc2 := 1811) (ls2 := [(4, .int 6), (3, .ref 232), (2, .ref 162), (1, .ref 0), (0, .ref 11)]) (st2 := [.int 1]) (h2 := (((((((zH0.set 37 (.inr (.inr (.inr (3, [.ref 44, .ref 6, .ref 76, .ref 78, .ref 80, .ref 88, .int 1, .int 0, .ref 96, .int 0, .int 0, .int 0, .ref 98, .ref 100, .int 0]))))).set 40 (.inr (.inr (.inr (6, [.int 1, .long 70644700037184, .int 0, .ref 82, .ref 84, .ref 86]))))).set 43 (.inr (.inl (16, [70644700037184])))).set 106 (.inl (2, 2, [1, 0]))).set 105 (.inl (0, 2, [0]))).set 107 (.inl (0, 132, [0, 0, 0, 0, 0, 0]))).set 109 (.inl (0, 22, [0])))) (dc2 := 117) (ds2 := 29934) 10 rfl ?_
  exact zT_ret rfl rfl
set_option maxRecDepth 1000000 in
set_option maxHeartbeats 4000000 in
theorem zo_23_19 (xs : Nat → Int32) (h0 : xs 0 &&& 63 = 23) (h1 : xs 1 = 0) (h3 : xs 3 = 2) (h2 : 0 < (xs 2).toInt) : zDone xs := by
  refine ⟨(((((((zH0.set 37 (.inr (.inr (.inr (3, [.ref 44, .ref 6, .ref 76, .ref 78, .ref 80, .ref 88, .int 1, .int 0, .ref 96, .int 0, .int 0, .int 0, .ref 98, .ref 100, .int 0]))))).set 40 (.inr (.inr (.inr (6, [.int 1, .long 70644700037184, .int 0, .ref 82, .ref 84, .ref 86]))))).set 43 (.inr (.inl (16, [70644700037184])))).set 106 (.inl (2, 2, [1, 0]))).set 105 (.inl (0, 2, [0]))).set 107 (.inl (0, 132, [0, 0, 0, 0, 0, 0]))).set 109 (.inl (0, 22, [0]))), 117, 29934, ?_, by decide, by decide⟩
  refine zT_gos (f := 200000) (pc2 := 37) (ls2 := [(4, .int 0), (3, .ref 232), (2, .ref 162), (1, .ref 0), (0, .ref 11)]) (st2 := [.int (xs 0)]) (h2 := zH0) (dc2 := 117) (ds2 := 29934) 9 rfl ?_
  refine zT_gos (f := 200000) (pc2 := 40) (ls2 := [(4, .int 0), (3, .ref 232), (2, .ref 162), (1, .ref 0), (0, .ref 11)]) (st2 := [.int ((xs 0) &&& (63 : Int32))]) (h2 := zH0) (dc2 := 117) (ds2 := 29934) 2 rfl ?_
  refine zT_val h0 ?_
  refine zT_gos (f := 200000) (pc2 := 1039) (ls2 := [(4, .int 0), (3, .ref 232), (2, .ref 162), (1, .ref 0), (0, .ref 11)]) (st2 := [.int (xs 1), .ref 0]) (h2 := zH0) (dc2 := 117) (ds2 := 29934) 7 rfl ?_
  refine zT_val h1 ?_
  refine zT_gos (f := 200000) (pc2 := 1053) (ls2 := [(4, .int 0), (3, .ref 232), (2, .ref 162), (1, .ref 0), (0, .ref 11)]) (st2 := [.int (xs 2), .int 0, .ref 0]) (h2 := zH0) (dc2 := 117) (ds2 := 29934) 7 rfl ?_
  refine zT_gos (f := 200000) (pc2 := 1059) (ls2 := [(4, .int 0), (3, .ref 232), (2, .ref 162), (1, .ref 0), (0, .ref 11)]) (st2 := [.int (xs 3), .int (xs 2), .int 0, .ref 0]) (h2 := zH0) (dc2 := 117) (ds2 := 29934) 5 rfl ?_
  refine zT_val h3 ?_
  refine zT_call (v := some (.int (-99))) (h2 := (((zH0.set 37 (.inr (.inr (.inr (3, [.ref 44, .ref 6, .ref 76, .ref 78, .ref 80, .ref 88, .int 1, .int 0, .ref 96, .int 0, .int 0, .int 0, .ref 98, .ref 100, .int 0]))))).set 40 (.inr (.inr (.inr (6, [.int 1, .long 70644700037184, .int 0, .ref 82, .ref 84, .ref 86]))))).set 43 (.inr (.inl (16, [70644700037184]))))) (d1 := 0) (s1 := 0) rfl rfl ?_ ?_
  · refine zT_gos (f := 200000) (pc2 := 33) (ls2 := [(4, .ref 80), (0, .ref 0), (1, .int 0), (2, .int (xs 2)), (3, .int 2)]) (st2 := [.int (xs 2)]) (h2 := (((zH0.set 37 (.inr (.inr (.inr (3, [.ref 44, .ref 6, .ref 76, .ref 78, .ref 80, .ref 88, .int 1, .int 0, .ref 96, .int 0, .int 0, .int 0, .ref 98, .ref 100, .int 0]))))).set 40 (.inr (.inr (.inr (6, [.int 1, .long 70644700037184, .int 0, .ref 82, .ref 84, .ref 86]))))).set 43 (.inr (.inl (16, [70644700037184]))))) (dc2 := 0) (ds2 := 0) 14 rfl ?_
    refine zT_if0 false rfl (zc_lt_f (by show ((xs 2) : Int32).toInt ≥ 0; omega)) ?_
    refine zT_here (pc2 := 36) rfl ?_
    refine zT_gos (f := 200000) (pc2 := 42) (ls2 := [(4, .ref 80), (0, .ref 0), (1, .int 0), (2, .int (xs 2)), (3, .int 2)]) (st2 := [.int 0, .int (xs 2)]) (h2 := (((zH0.set 37 (.inr (.inr (.inr (3, [.ref 44, .ref 6, .ref 76, .ref 78, .ref 80, .ref 88, .int 1, .int 0, .ref 96, .int 0, .int 0, .int 0, .ref 98, .ref 100, .int 0]))))).set 40 (.inr (.inr (.inr (6, [.int 1, .long 70644700037184, .int 0, .ref 82, .ref 84, .ref 86]))))).set 43 (.inr (.inl (16, [70644700037184]))))) (dc2 := 0) (ds2 := 0) 3 rfl ?_
    refine zT_if2 false rfl (zc_le_f (by show ((xs 2) : Int32).toInt > 0; omega)) ?_
    refine zT_here (pc2 := 45) rfl ?_
    refine zT_gos (f := 200000) (pc2 := 57) (ls2 := [(4, .ref 80), (0, .ref 0), (1, .int 0), (2, .int (xs 2)), (3, .int 2)]) (st2 := [.int (-99)]) (h2 := (((zH0.set 37 (.inr (.inr (.inr (3, [.ref 44, .ref 6, .ref 76, .ref 78, .ref 80, .ref 88, .int 1, .int 0, .ref 96, .int 0, .int 0, .int 0, .ref 98, .ref 100, .int 0]))))).set 40 (.inr (.inr (.inr (6, [.int 1, .long 70644700037184, .int 0, .ref 82, .ref 84, .ref 86]))))).set 43 (.inr (.inl (16, [70644700037184]))))) (dc2 := 0) (ds2 := 0) 2 rfl ?_
    exact zT_ret rfl rfl
  refine zT_here (pc2 := 1062) rfl ?_
  refine zT_gos (f := 200000) (pc2 := 1069) (ls2 := [(4, .int 0), (3, .ref 232), (2, .ref 162), (1, .ref 0), (0, .ref 11)]) (st2 := [.int (xs 1), .ref 162, .int (-99)]) (h2 := (((zH0.set 37 (.inr (.inr (.inr (3, [.ref 44, .ref 6, .ref 76, .ref 78, .ref 80, .ref 88, .int 1, .int 0, .ref 96, .int 0, .int 0, .int 0, .ref 98, .ref 100, .int 0]))))).set 40 (.inr (.inr (.inr (6, [.int 1, .long 70644700037184, .int 0, .ref 82, .ref 84, .ref 86]))))).set 43 (.inr (.inl (16, [70644700037184]))))) (dc2 := 117) (ds2 := 29934) 6 rfl ?_
  refine zT_val h1 ?_
  refine zT_gos (f := 200000) (pc2 := 1083) (ls2 := [(4, .int 0), (3, .ref 232), (2, .ref 162), (1, .ref 0), (0, .ref 11)]) (st2 := [.int (xs 2), .int 0, .ref 162, .int (-99)]) (h2 := (((zH0.set 37 (.inr (.inr (.inr (3, [.ref 44, .ref 6, .ref 76, .ref 78, .ref 80, .ref 88, .int 1, .int 0, .ref 96, .int 0, .int 0, .int 0, .ref 98, .ref 100, .int 0]))))).set 40 (.inr (.inr (.inr (6, [.int 1, .long 70644700037184, .int 0, .ref 82, .ref 84, .ref 86]))))).set 43 (.inr (.inl (16, [70644700037184]))))) (dc2 := 117) (ds2 := 29934) 7 rfl ?_
  refine zT_gos (f := 200000) (pc2 := 1089) (ls2 := [(4, .int 0), (3, .ref 232), (2, .ref 162), (1, .ref 0), (0, .ref 11)]) (st2 := [.int (xs 3), .int (xs 2), .int 0, .ref 162, .int (-99)]) (h2 := (((zH0.set 37 (.inr (.inr (.inr (3, [.ref 44, .ref 6, .ref 76, .ref 78, .ref 80, .ref 88, .int 1, .int 0, .ref 96, .int 0, .int 0, .int 0, .ref 98, .ref 100, .int 0]))))).set 40 (.inr (.inr (.inr (6, [.int 1, .long 70644700037184, .int 0, .ref 82, .ref 84, .ref 86]))))).set 43 (.inr (.inl (16, [70644700037184]))))) (dc2 := 117) (ds2 := 29934) 5 rfl ?_
  refine zT_val h3 ?_
  refine zT_call (v := some (.int (-99))) (h2 := (((((((zH0.set 37 (.inr (.inr (.inr (3, [.ref 44, .ref 6, .ref 76, .ref 78, .ref 80, .ref 88, .int 1, .int 0, .ref 96, .int 0, .int 0, .int 0, .ref 98, .ref 100, .int 0]))))).set 40 (.inr (.inr (.inr (6, [.int 1, .long 70644700037184, .int 0, .ref 82, .ref 84, .ref 86]))))).set 43 (.inr (.inl (16, [70644700037184])))).set 106 (.inl (2, 2, [1, 0]))).set 105 (.inl (0, 2, [0]))).set 107 (.inl (0, 132, [0, 0, 0, 0, 0, 0]))).set 109 (.inl (0, 22, [0])))) (d1 := 0) (s1 := 0) rfl rfl ?_ ?_
  · refine zT_gos (f := 200000) (pc2 := 7) (ls2 := [(0, .ref 162), (1, .int 0), (2, .int (xs 2)), (3, .int 2)]) (st2 := [.int 0, .ref 162]) (h2 := (((zH0.set 37 (.inr (.inr (.inr (3, [.ref 44, .ref 6, .ref 76, .ref 78, .ref 80, .ref 88, .int 1, .int 0, .ref 96, .int 0, .int 0, .int 0, .ref 98, .ref 100, .int 0]))))).set 40 (.inr (.inr (.inr (6, [.int 1, .long 70644700037184, .int 0, .ref 82, .ref 84, .ref 86]))))).set 43 (.inr (.inl (16, [70644700037184]))))) (dc2 := 0) (ds2 := 0) 5 rfl ?_
    refine zT_call rfl rfl (zT_le (zg0_le 6 xs) zk_o_19) ?_
    refine zT_here (pc2 := 10) rfl ?_
    refine zT_gos (f := 200000) (pc2 := 18) (ls2 := [(4, .int 0), (0, .ref 162), (1, .int 0), (2, .int (xs 2)), (3, .int 2)]) (st2 := [.int (xs 2)]) (h2 := (((((((zH0.set 37 (.inr (.inr (.inr (3, [.ref 44, .ref 6, .ref 76, .ref 78, .ref 80, .ref 88, .int 1, .int 0, .ref 96, .int 0, .int 0, .int 0, .ref 98, .ref 100, .int 0]))))).set 40 (.inr (.inr (.inr (6, [.int 1, .long 70644700037184, .int 0, .ref 82, .ref 84, .ref 86]))))).set 43 (.inr (.inl (16, [70644700037184])))).set 106 (.inl (2, 2, [1, 0]))).set 105 (.inl (0, 2, [0]))).set 107 (.inl (0, 132, [0, 0, 0, 0, 0, 0]))).set 109 (.inl (0, 22, [0])))) (dc2 := 0) (ds2 := 0) 4 rfl ?_
    refine zT_if0 false rfl (zc_lt_f (by show ((xs 2) : Int32).toInt ≥ 0; omega)) ?_
    refine zT_here (pc2 := 21) rfl ?_
    refine zT_gos (f := 200000) (pc2 := 24) (ls2 := [(4, .int 0), (0, .ref 162), (1, .int 0), (2, .int (xs 2)), (3, .int 2)]) (st2 := [.int 0, .int (xs 2)]) (h2 := (((((((zH0.set 37 (.inr (.inr (.inr (3, [.ref 44, .ref 6, .ref 76, .ref 78, .ref 80, .ref 88, .int 1, .int 0, .ref 96, .int 0, .int 0, .int 0, .ref 98, .ref 100, .int 0]))))).set 40 (.inr (.inr (.inr (6, [.int 1, .long 70644700037184, .int 0, .ref 82, .ref 84, .ref 86]))))).set 43 (.inr (.inl (16, [70644700037184])))).set 106 (.inl (2, 2, [1, 0]))).set 105 (.inl (0, 2, [0]))).set 107 (.inl (0, 132, [0, 0, 0, 0, 0, 0]))).set 109 (.inl (0, 22, [0])))) (dc2 := 0) (ds2 := 0) 2 rfl ?_
    refine zT_if2 true rfl (zc_gt_t (by show ((xs 2) : Int32).toInt > 0; omega)) ?_
    refine zT_here (pc2 := 34) rfl ?_
    refine zT_gos (f := 200000) (pc2 := 54) (ls2 := [(4, .int 0), (0, .ref 162), (1, .int 0), (2, .int (xs 2)), (3, .int 2)]) (st2 := [.int (-99)]) (h2 := (((((((zH0.set 37 (.inr (.inr (.inr (3, [.ref 44, .ref 6, .ref 76, .ref 78, .ref 80, .ref 88, .int 1, .int 0, .ref 96, .int 0, .int 0, .int 0, .ref 98, .ref 100, .int 0]))))).set 40 (.inr (.inr (.inr (6, [.int 1, .long 70644700037184, .int 0, .ref 82, .ref 84, .ref 86]))))).set 43 (.inr (.inl (16, [70644700037184])))).set 106 (.inl (2, 2, [1, 0]))).set 105 (.inl (0, 2, [0]))).set 107 (.inl (0, 132, [0, 0, 0, 0, 0, 0]))).set 109 (.inl (0, 22, [0])))) (dc2 := 0) (ds2 := 0) 2 rfl ?_
    exact zT_ret rfl rfl
  refine zT_here (pc2 := 1092) rfl ?_
  refine zT_gos (f := 200000) (pc2 := 1811) (ls2 := [(4, .int 6), (3, .ref 232), (2, .ref 162), (1, .ref 0), (0, .ref 11)]) (st2 := [.int 1]) (h2 := (((((((zH0.set 37 (.inr (.inr (.inr (3, [.ref 44, .ref 6, .ref 76, .ref 78, .ref 80, .ref 88, .int 1, .int 0, .ref 96, .int 0, .int 0, .int 0, .ref 98, .ref 100, .int 0]))))).set 40 (.inr (.inr (.inr (6, [.int 1, .long 70644700037184, .int 0, .ref 82, .ref 84, .ref 86]))))).set 43 (.inr (.inl (16, [70644700037184])))).set 106 (.inl (2, 2, [1, 0]))).set 105 (.inl (0, 2, [0]))).set 107 (.inl (0, 132, [0, 0, 0, 0, 0, 0]))).set 109 (.inl (0, 22, [0])))) (dc2 := 117) (ds2 := 29934) 10 rfl ?_
  exact zT_ret rfl rfl
set_option maxRecDepth 1000000 in
theorem zk_o_121 : zT zg0 zF zP 124 0 [(0, .ref 0), (1, .int 0), (2, .int 0), (3, .int 2)] [] zH0 0 0 (some (.int 0), (((zH0.set 37 (.inr (.inr (.inr (3, [.ref 44, .ref 6, .ref 76, .ref 78, .ref 80, .ref 88, .int 1, .int 0, .ref 96, .int 0, .int 0, .int 0, .ref 98, .ref 100, .int 0]))))).set 40 (.inr (.inr (.inr (6, [.int 1, .long 70644700037184, .int 0, .ref 82, .ref 84, .ref 86]))))).set 43 (.inr (.inl (16, [70644700037184])))), 0, 0) := zclosed (n := 148) (by decide +kernel)
set_option maxRecDepth 1000000 in
theorem zk_o_122 : zT zg0 zF zP 255 0 [(0, .ref 162), (1, .int 0), (2, .int 0), (3, .int 2)] [] (((zH0.set 37 (.inr (.inr (.inr (3, [.ref 44, .ref 6, .ref 76, .ref 78, .ref 80, .ref 88, .int 1, .int 0, .ref 96, .int 0, .int 0, .int 0, .ref 98, .ref 100, .int 0]))))).set 40 (.inr (.inr (.inr (6, [.int 1, .long 70644700037184, .int 0, .ref 82, .ref 84, .ref 86]))))).set 43 (.inr (.inl (16, [70644700037184])))) 0 0 (some (.int 0), (((((((zH0.set 37 (.inr (.inr (.inr (3, [.ref 44, .ref 6, .ref 76, .ref 78, .ref 80, .ref 88, .int 1, .int 0, .ref 96, .int 0, .int 0, .int 0, .ref 98, .ref 100, .int 0]))))).set 40 (.inr (.inr (.inr (6, [.int 1, .long 70644700037184, .int 0, .ref 82, .ref 84, .ref 86]))))).set 43 (.inr (.inl (16, [70644700037184])))).set 106 (.inl (2, 2, [1, 0]))).set 105 (.inl (0, 2, [0]))).set 107 (.inl (0, 132, [0, 0, 0, 0, 0, 0]))).set 109 (.inl (0, 22, [0]))), 0, 0) := zclosed (n := 227) (by decide +kernel)
set_option maxRecDepth 1000000 in
set_option maxHeartbeats 4000000 in
theorem zo_23_20 (xs : Nat → Int32) (h0 : xs 0 &&& 63 = 23) (h1 : xs 1 = 0) (h3 : xs 3 = 2) (h2 : xs 2 = 0) : zDone xs := by
  refine ⟨(((((((zH0.set 37 (.inr (.inr (.inr (3, [.ref 44, .ref 6, .ref 76, .ref 78, .ref 80, .ref 88, .int 1, .int 0, .ref 96, .int 0, .int 0, .int 0, .ref 98, .ref 100, .int 0]))))).set 40 (.inr (.inr (.inr (6, [.int 1, .long 70644700037184, .int 0, .ref 82, .ref 84, .ref 86]))))).set 43 (.inr (.inl (16, [70644700037184])))).set 106 (.inl (2, 2, [1, 0]))).set 105 (.inl (0, 2, [0]))).set 107 (.inl (0, 132, [0, 0, 0, 0, 0, 0]))).set 109 (.inl (0, 22, [0]))), 117, 29934, ?_, by decide, by decide⟩
  refine zT_gos (f := 200000) (pc2 := 37) (ls2 := [(4, .int 0), (3, .ref 232), (2, .ref 162), (1, .ref 0), (0, .ref 11)]) (st2 := [.int (xs 0)]) (h2 := zH0) (dc2 := 117) (ds2 := 29934) 9 rfl ?_
  refine zT_gos (f := 200000) (pc2 := 40) (ls2 := [(4, .int 0), (3, .ref 232), (2, .ref 162), (1, .ref 0), (0, .ref 11)]) (st2 := [.int ((xs 0) &&& (63 : Int32))]) (h2 := zH0) (dc2 := 117) (ds2 := 29934) 2 rfl ?_
  refine zT_val h0 ?_
  refine zT_gos (f := 200000) (pc2 := 1039) (ls2 := [(4, .int 0), (3, .ref 232), (2, .ref 162), (1, .ref 0), (0, .ref 11)]) (st2 := [.int (xs 1), .ref 0]) (h2 := zH0) (dc2 := 117) (ds2 := 29934) 7 rfl ?_
  refine zT_val h1 ?_
  refine zT_gos (f := 200000) (pc2 := 1053) (ls2 := [(4, .int 0), (3, .ref 232), (2, .ref 162), (1, .ref 0), (0, .ref 11)]) (st2 := [.int (xs 2), .int 0, .ref 0]) (h2 := zH0) (dc2 := 117) (ds2 := 29934) 7 rfl ?_
  refine zT_val h2 ?_
  refine zT_gos (f := 200000) (pc2 := 1059) (ls2 := [(4, .int 0), (3, .ref 232), (2, .ref 162), (1, .ref 0), (0, .ref 11)]) (st2 := [.int (xs 3), .int 0, .int 0, .ref 0]) (h2 := zH0) (dc2 := 117) (ds2 := 29934) 5 rfl ?_
  refine zT_val h3 ?_
  refine zT_call rfl rfl (zT_le (zg0_le 6 xs) zk_o_121) ?_
  refine zT_here (pc2 := 1062) rfl ?_
  refine zT_gos (f := 200000) (pc2 := 1069) (ls2 := [(4, .int 0), (3, .ref 232), (2, .ref 162), (1, .ref 0), (0, .ref 11)]) (st2 := [.int (xs 1), .ref 162, .int 0]) (h2 := (((zH0.set 37 (.inr (.inr (.inr (3, [.ref 44, .ref 6, .ref 76, .ref 78, .ref 80, .ref 88, .int 1, .int 0, .ref 96, .int 0, .int 0, .int 0, .ref 98, .ref 100, .int 0]))))).set 40 (.inr (.inr (.inr (6, [.int 1, .long 70644700037184, .int 0, .ref 82, .ref 84, .ref 86]))))).set 43 (.inr (.inl (16, [70644700037184]))))) (dc2 := 117) (ds2 := 29934) 6 rfl ?_
  refine zT_val h1 ?_
  refine zT_gos (f := 200000) (pc2 := 1083) (ls2 := [(4, .int 0), (3, .ref 232), (2, .ref 162), (1, .ref 0), (0, .ref 11)]) (st2 := [.int (xs 2), .int 0, .ref 162, .int 0]) (h2 := (((zH0.set 37 (.inr (.inr (.inr (3, [.ref 44, .ref 6, .ref 76, .ref 78, .ref 80, .ref 88, .int 1, .int 0, .ref 96, .int 0, .int 0, .int 0, .ref 98, .ref 100, .int 0]))))).set 40 (.inr (.inr (.inr (6, [.int 1, .long 70644700037184, .int 0, .ref 82, .ref 84, .ref 86]))))).set 43 (.inr (.inl (16, [70644700037184]))))) (dc2 := 117) (ds2 := 29934) 7 rfl ?_
  refine zT_val h2 ?_
  refine zT_gos (f := 200000) (pc2 := 1089) (ls2 := [(4, .int 0), (3, .ref 232), (2, .ref 162), (1, .ref 0), (0, .ref 11)]) (st2 := [.int (xs 3), .int 0, .int 0, .ref 162, .int 0]) (h2 := (((zH0.set 37 (.inr (.inr (.inr (3, [.ref 44, .ref 6, .ref 76, .ref 78, .ref 80, .ref 88, .int 1, .int 0, .ref 96, .int 0, .int 0, .int 0, .ref 98, .ref 100, .int 0]))))).set 40 (.inr (.inr (.inr (6, [.int 1, .long 70644700037184, .int 0, .ref 82, .ref 84, .ref 86]))))).set 43 (.inr (.inl (16, [70644700037184]))))) (dc2 := 117) (ds2 := 29934) 5 rfl ?_
  refine zT_val h3 ?_
  refine zT_call rfl rfl (zT_le (zg0_le 6 xs) zk_o_122) ?_
  refine zT_here (pc2 := 1092) rfl ?_
  refine zT_gos (f := 200000) (pc2 := 1811) (ls2 := [(4, .int 6), (3, .ref 232), (2, .ref 162), (1, .ref 0), (0, .ref 11)]) (st2 := [.int 1]) (h2 := (((((((zH0.set 37 (.inr (.inr (.inr (3, [.ref 44, .ref 6, .ref 76, .ref 78, .ref 80, .ref 88, .int 1, .int 0, .ref 96, .int 0, .int 0, .int 0, .ref 98, .ref 100, .int 0]))))).set 40 (.inr (.inr (.inr (6, [.int 1, .long 70644700037184, .int 0, .ref 82, .ref 84, .ref 86]))))).set 43 (.inr (.inl (16, [70644700037184])))).set 106 (.inl (2, 2, [1, 0]))).set 105 (.inl (0, 2, [0]))).set 107 (.inl (0, 132, [0, 0, 0, 0, 0, 0]))).set 109 (.inl (0, 22, [0])))) (dc2 := 117) (ds2 := 29934) 10 rfl ?_
  exact zT_ret rfl rfl
set_option maxRecDepth 1000000 in
set_option maxHeartbeats 4000000 in
theorem zo_23_21 (xs : Nat → Int32) (h0 : xs 0 &&& 63 = 23) (h1 : xs 1 = 0) (h3 : xs 3 = 3) (h2 : (xs 2).toInt < 0) : zDone xs := by
  refine ⟨(((((((zH0.set 37 (.inr (.inr (.inr (3, [.ref 44, .ref 6, .ref 76, .ref 78, .ref 80, .ref 88, .int 1, .int 0, .ref 96, .int 0, .int 0, .int 0, .ref 98, .ref 100, .int 0]))))).set 40 (.inr (.inr (.inr (6, [.int 1, .long 70644700037184, .int 0, .ref 82, .ref 84, .ref 86]))))).set 43 (.inr (.inl (16, [70644700037184])))).set 106 (.inl (2, 2, [1, 0]))).set 105 (.inl (0, 2, [0]))).set 107 (.inl (0, 132, [0, 0, 0, 0, 0, 0]))).set 109 (.inl (0, 22, [0]))), 117, 29934, ?_, by decide, by decide⟩
  refine zT_gos (f := 200000) (pc2 := 37) (ls2 := [(4, .int 0), (3, .ref 232), (2, .ref 162), (1, .ref 0), (0, .ref 11)]) (st2 := [.int (xs 0)]) (h2 := zH0) (dc2 := 117) (ds2 := 29934) 9 rfl ?_
  refine zT_gos (f := 200000) (pc2 := 40) (ls2 := [(4, .int 0), (3, .ref 232), (2, .ref 162), (1, .ref 0), (0, .ref 11)]) (st2 := [.int ((xs 0) &&& (63 : Int32))]) (h2 := zH0) (dc2 := 117) (ds2 := 29934) 2 rfl ?_
  refine zT_val h0 ?_
  refine zT_gos (f := 200000) (pc2 := 1039) (ls2 := [(4, .int 0), (3, .ref 232), (2, .ref 162), (1, .ref 0), (0, .ref 11)]) (st2 := [.int (xs 1), .ref 0]) (h2 := zH0) (dc2 := 117) (ds2 := 29934) 7 rfl ?_
  refine zT_val h1 ?_
  refine zT_gos (f := 200000) (pc2 := 1053) (ls2 := [(4, .int 0), (3, .ref 232), (2, .ref 162), (1, .ref 0), (0, .ref 11)]) (st2 := [.int (xs 2), .int 0, .ref 0]) (h2 := zH0) (dc2 := 117) (ds2 := 29934) 7 rfl ?_
  refine zT_gos (f := 200000) (pc2 := 1059) (ls2 := [(4, .int 0), (3, .ref 232), (2, .ref 162), (1, .ref 0), (0, .ref 11)]) (st2 := [.int (xs 3), .int (xs 2), .int 0, .ref 0]) (h2 := zH0) (dc2 := 117) (ds2 := 29934) 5 rfl ?_
  refine zT_val h3 ?_
  refine zT_call (v := some (.int (-99))) (h2 := (((zH0.set 37 (.inr (.inr (.inr (3, [.ref 44, .ref 6, .ref 76, .ref 78, .ref 80, .ref 88, .int 1, .int 0, .ref 96, .int 0, .int 0, .int 0, .ref 98, .ref 100, .int 0]))))).set 40 (.inr (.inr (.inr (6, [.int 1, .long 70644700037184, .int 0, .ref 82, .ref 84, .ref 86]))))).set 43 (.inr (.inl (16, [70644700037184]))))) (d1 := 0) (s1 := 0) rfl rfl ?_ ?_
  · refine zT_gos (f := 200000) (pc2 := 33) (ls2 := [(4, .ref 80), (0, .ref 0), (1, .int 0), (2, .int (xs 2)), (3, .int 3)]) (st2 := [.int (xs 2)]) (h2 := (((zH0.set 37 (.inr (.inr (.inr (3, [.ref 44, .ref 6, .ref 76, .ref 78, .ref 80, .ref 88, .int 1, .int 0, .ref 96, .int 0, .int 0, .int 0, .ref 98, .ref 100, .int 0]))))).set 40 (.inr (.inr (.inr (6, [.int 1, .long 70644700037184, .int 0, .ref 82, .ref 84, .ref 86]))))).set 43 (.inr (.inl (16, [70644700037184]))))) (dc2 := 0) (ds2 := 0) 14 rfl ?_
    refine zT_if0 true rfl (zc_lt_t (by show ((xs 2) : Int32).toInt < 0; omega)) ?_
    refine zT_here (pc2 := 45) rfl ?_
    refine zT_gos (f := 200000) (pc2 := 57) (ls2 := [(4, .ref 80), (0, .ref 0), (1, .int 0), (2, .int (xs 2)), (3, .int 3)]) (st2 := [.int (-99)]) (h2 := (((zH0.set 37 (.inr (.inr (.inr (3, [.ref 44, .ref 6, .ref 76, .ref 78, .ref 80, .ref 88, .int 1, .int 0, .ref 96, .int 0, .int 0, .int 0, .ref 98, .ref 100, .int 0]))))).set 40 (.inr (.inr (.inr (6, [.int 1, .long 70644700037184, .int 0, .ref 82, .ref 84, .ref 86]))))).set 43 (.inr (.inl (16, [70644700037184]))))) (dc2 := 0) (ds2 := 0) 2 rfl ?_
    exact zT_ret rfl rfl
  refine zT_here (pc2 := 1062) rfl ?_
  refine zT_gos (f := 200000) (pc2 := 1069) (ls2 := [(4, .int 0), (3, .ref 232), (2, .ref 162), (1, .ref 0), (0, .ref 11)]) (st2 := [.int (xs 1), .ref 162, .int (-99)]) (h2 := (((zH0.set 37 (.inr (.inr (.inr (3, [.ref 44, .ref 6, .ref 76, .ref 78, .ref 80, .ref 88, .int 1, .int 0, .ref 96, .int 0, .int 0, .int 0, .ref 98, .ref 100, .int 0]))))).set 40 (.inr (.inr (.inr (6, [.int 1, .long 70644700037184, .int 0, .ref 82, .ref 84, .ref 86]))))).set 43 (.inr (.inl (16, [70644700037184]))))) (dc2 := 117) (ds2 := 29934) 6 rfl ?_
  refine zT_val h1 ?_
  refine zT_gos (f := 200000) (pc2 := 1083) (ls2 := [(4, .int 0), (3, .ref 232), (2, .ref 162), (1, .ref 0), (0, .ref 11)]) (st2 := [.int (xs 2), .int 0, .ref 162, .int (-99)]) (h2 := (((zH0.set 37 (.inr (.inr (.inr (3, [.ref 44, .ref 6, .ref 76, .ref 78, .ref 80, .ref 88, .int 1, .int 0, .ref 96, .int 0, .int 0, .int 0, .ref 98, .ref 100, .int 0]))))).set 40 (.inr (.inr (.inr (6, [.int 1, .long 70644700037184, .int 0, .ref 82, .ref 84, .ref 86]))))).set 43 (.inr (.inl (16, [70644700037184]))))) (dc2 := 117) (ds2 := 29934) 7 rfl ?_
  refine zT_gos (f := 200000) (pc2 := 1089) (ls2 := [(4, .int 0), (3, .ref 232), (2, .ref 162), (1, .ref 0), (0, .ref 11)]) (st2 := [.int (xs 3), .int (xs 2), .int 0, .ref 162, .int (-99)]) (h2 := (((zH0.set 37 (.inr (.inr (.inr (3, [.ref 44, .ref 6, .ref 76, .ref 78, .ref 80, .ref 88, .int 1, .int 0, .ref 96, .int 0, .int 0, .int 0, .ref 98, .ref 100, .int 0]))))).set 40 (.inr (.inr (.inr (6, [.int 1, .long 70644700037184, .int 0, .ref 82, .ref 84, .ref 86]))))).set 43 (.inr (.inl (16, [70644700037184]))))) (dc2 := 117) (ds2 := 29934) 5 rfl ?_
  refine zT_val h3 ?_
  refine zT_call (v := some (.int (-99))) (h2 := (((((((zH0.set 37 (.inr (.inr (.inr (3, [.ref 44, .ref 6, .ref 76, .ref 78, .ref 80, .ref 88, .int 1, .int 0, .ref 96, .int 0, .int 0, .int 0, .ref 98, .ref 100, .int 0]))))).set 40 (.inr (.inr (.inr (6, [.int 1, .long 70644700037184, .int 0, .ref 82, .ref 84, .ref 86]))))).set 43 (.inr (.inl (16, [70644700037184])))).set 106 (.inl (2, 2, [1, 0]))).set 105 (.inl (0, 2, [0]))).set 107 (.inl (0, 132, [0, 0, 0, 0, 0, 0]))).set 109 (.inl (0, 22, [0])))) (d1 := 0) (s1 := 0) rfl rfl ?_ ?_
  · refine zT_gos (f := 200000) (pc2 := 7) (ls2 := [(0, .ref 162), (1, .int 0), (2, .int (xs 2)), (3, .int 3)]) (st2 := [.int 0, .ref 162]) (h2 := (((zH0.set 37 (.inr (.inr (.inr (3, [.ref 44, .ref 6, .ref 76, .ref 78, .ref 80, .ref 88, .int 1, .int 0, .ref 96, .int 0, .int 0, .int 0, .ref 98, .ref 100, .int 0]))))).set 40 (.inr (.inr (.inr (6, [.int 1, .long 70644700037184, .int 0, .ref 82, .ref 84, .ref 86]))))).set 43 (.inr (.inl (16, [70644700037184]))))) (dc2 := 0) (ds2 := 0) 5 rfl ?_
    refine zT_call rfl rfl (zT_le (zg0_le 6 xs) zk_o_19) ?_
    refine zT_here (pc2 := 10) rfl ?_
    refine zT_gos (f := 200000) (pc2 := 18) (ls2 := [(4, .int 0), (0, .ref 162), (1, .int 0), (2, .int (xs 2)), (3, .int 3)]) (st2 := [.int (xs 2)]) (h2 := (((((((zH0.set 37 (.inr (.inr (.inr (3, [.ref 44, .ref 6, .ref 76, .ref 78, .ref 80, .ref 88, .int 1, .int 0, .ref 96, .int 0, .int 0, .int 0, .ref 98, .ref 100, .int 0]))))).set 40 (.inr (.inr (.inr (6, [.int 1, .long 70644700037184, .int 0, .ref 82, .ref 84, .ref 86]))))).set 43 (.inr (.inl (16, [70644700037184])))).set 106 (.inl (2, 2, [1, 0]))).set 105 (.inl (0, 2, [0]))).set 107 (.inl (0, 132, [0, 0, 0, 0, 0, 0]))).set 109 (.inl (0, 22, [0])))) (dc2 := 0) (ds2 := 0) 4 rfl ?_
    refine zT_if0 true rfl (zc_lt_t (by show ((xs 2) : Int32).toInt < 0; omega)) ?_
    refine zT_here (pc2 := 34) rfl ?_
    refine zT_gos (f := 200000) (pc2 := 54) (ls2 := [(4, .int 0), (0, .ref 162), (1, .int 0), (2, .int (xs 2)), (3, .int 3)]) (st2 := [.int (-99)]) (h2 := (((((((zH0.set 37 (.inr (.inr (.inr (3, [.ref 44, .ref 6, .ref 76, .ref 78, .ref 80, .ref 88, .int 1, .int 0, .ref 96, .int 0, .int 0, .int 0, .ref 98, .ref 100, .int 0]))))).set 40 (.inr (.inr (.inr (6, [.int 1, .long 70644700037184, .int 0, .ref 82, .ref 84, .ref 86]))))).set 43 (.inr (.inl (16, [70644700037184])))).set 106 (.inl (2, 2, [1, 0]))).set 105 (.inl (0, 2, [0]))).set 107 (.inl (0, 132, [0, 0, 0, 0, 0, 0]))).set 109 (.inl (0, 22, [0])))) (dc2 := 0) (ds2 := 0) 2 rfl ?_
    exact zT_ret rfl rfl
  refine zT_here (pc2 := 1092) rfl ?_
  refine zT_gos (f := 200000) (pc2 := 1811) (ls2 := [(4, .int 6), (3, .ref 232), (2, .ref 162), (1, .ref 0), (0, .ref 11)]) (st2 := [.int 1]) (h2 := (((((((zH0.set 37 (.inr (.inr (.inr (3, [.ref 44, .ref 6, .ref 76, .ref 78, .ref 80, .ref 88, .int 1, .int 0, .ref 96, .int 0, .int 0, .int 0, .ref 98, .ref 100, .int 0]))))).set 40 (.inr (.inr (.inr (6, [.int 1, .long 70644700037184, .int 0, .ref 82, .ref 84, .ref 86]))))).set 43 (.inr (.inl (16, [70644700037184])))).set 106 (.inl (2, 2, [1, 0]))).set 105 (.inl (0, 2, [0]))).set 107 (.inl (0, 132, [0, 0, 0, 0, 0, 0]))).set 109 (.inl (0, 22, [0])))) (dc2 := 117) (ds2 := 29934) 10 rfl ?_
  exact zT_ret rfl rfl
set_option maxRecDepth 1000000 in
set_option maxHeartbeats 4000000 in
theorem zo_23_22 (xs : Nat → Int32) (h0 : xs 0 &&& 63 = 23) (h1 : xs 1 = 0) (h3 : xs 3 = 3) (h2 : 0 < (xs 2).toInt) : zDone xs := by
  refine ⟨(((((((zH0.set 37 (.inr (.inr (.inr (3, [.ref 44, .ref 6, .ref 76, .ref 78, .ref 80, .ref 88, .int 1, .int 0, .ref 96, .int 0, .int 0, .int 0, .ref 98, .ref 100, .int 0]))))).set 40 (.inr (.inr (.inr (6, [.int 1, .long 70644700037184, .int 0, .ref 82, .ref 84, .ref 86]))))).set 43 (.inr (.inl (16, [70644700037184])))).set 106 (.inl (2, 2, [1, 0]))).set 105 (.inl (0, 2, [0]))).set 107 (.inl (0, 132, [0, 0, 0, 0, 0, 0]))).set 109 (.inl (0, 22, [0]))), 117, 29934, ?_, by decide, by decide⟩
  refine zT_gos (f := 200000) (pc2 := 37) (ls2 := [(4, .int 0), (3, .ref 232), (2, .ref 162), (1, .ref 0), (0, .ref 11)]) (st2 := [.int (xs 0)]) (h2 := zH0) (dc2 := 117) (ds2 := 29934) 9 rfl ?_
  refine zT_gos (f := 200000) (pc2 := 40) (ls2 := [(4, .int 0), (3, .ref 232), (2, .ref 162), (1, .ref 0), (0, .ref 11)]) (st2 := [.int ((xs 0) &&& (63 : Int32))]) (h2 := zH0) (dc2 := 117) (ds2 := 29934) 2 rfl ?_
  refine zT_val h0 ?_
  refine zT_gos (f := 200000) (pc2 := 1039) (ls2 := [(4, .int 0), (3, .ref 232), (2, .ref 162), (1, .ref 0), (0, .ref 11)]) (st2 := [.int (xs 1), .ref 0]) (h2 := zH0) (dc2 := 117) (ds2 := 29934) 7 rfl ?_
  refine zT_val h1 ?_
  refine zT_gos (f := 200000) (pc2 := 1053) (ls2 := [(4, .int 0), (3, .ref 232), (2, .ref 162), (1, .ref 0), (0, .ref 11)]) (st2 := [.int (xs 2), .int 0, .ref 0]) (h2 := zH0) (dc2 := 117) (ds2 := 29934) 7 rfl ?_
  refine zT_gos (f := 200000) (pc2 := 1059) (ls2 := [(4, .int 0), (3, .ref 232), (2, .ref 162), (1, .ref 0), (0, .ref 11)]) (st2 := [.int (xs 3), .int (xs 2), .int 0, .ref 0]) (h2 := zH0) (dc2 := 117) (ds2 := 29934) 5 rfl ?_
  refine zT_val h3 ?_
  refine zT_call (v := some (.int (-99))) (h2 := (((zH0.set 37 (.inr (.inr (.inr (3, [.ref 44, .ref 6, .ref 76, .ref 78, .ref 80, .ref 88, .int 1, .int 0, .ref 96, .int 0, .int 0, .int 0, .ref 98, .ref 100, .int 0]))))).set 40 (.inr (.inr (.inr (6, [.int 1, .long 70644700037184, .int 0, .ref 82, .ref 84, .ref 86]))))).set 43 (.inr (.inl (16, [70644700037184]))))) (d1 := 0) (s1 := 0) rfl rfl ?_ ?_
  · refine zT_gos (f := 200000) (pc2 := 33) (ls2 := [(4, .ref 80), (0, .ref 0), (1, .int 0), (2, .int (xs 2)), (3, .int 3)]) (st2 := [.int (xs 2)]) (h2 := (((zH0.set 37 (.inr (.inr (.inr (3, [.ref 44, .ref 6, .ref 76, .ref 78, .ref 80, .ref 88, .int 1, .int 0, .ref 96, .int 0, .int 0, .int 0, .ref 98, .ref 100, .int 0]))))).set 40 (.inr (.inr (.inr (6, [.int 1, .long 70644700037184, .int 0, .ref 82, .ref 84, .ref 86]))))).set 43 (.inr (.inl (16, [70644700037184]))))) (dc2 := 0) (ds2 := 0) 14 rfl ?_
    refine zT_if0 false rfl (zc_lt_f (by show ((xs 2) : Int32).toInt ≥ 0; omega)) ?_
    refine zT_here (pc2 := 36) rfl ?_
    refine zT_gos (f := 200000) (pc2 := 42) (ls2 := [(4, .ref 80), (0, .ref 0), (1, .int 0), (2, .int (xs 2)), (3, .int 3)]) (st2 := [.int 0, .int (xs 2)]) (h2 := (((zH0.set 37 (.inr (.inr (.inr (3, [.ref 44, .ref 6, .ref 76, .ref 78, .ref 80, .ref 88, .int 1, .int 0, .ref 96, .int 0, .int 0, .int 0, .ref 98, .ref 100, .int 0]))))).set 40 (.inr (.inr (.inr (6, [.int 1, .long 70644700037184, .int 0, .ref 82, .ref 84, .ref 86]))))).set 43 (.inr (.inl (16, [70644700037184]))))) (dc2 := 0) (ds2 := 0) 3 rfl ?_
    refine zT_if2 false rfl (zc_le_f (by show ((xs 2) : Int32).toInt > 0; omega)) ?_
    refine zT_here (pc2 := 45) rfl ?_
    refine zT_gos (f := 200000) (pc2 := 57) (ls2 := [(4, .ref 80), (0, .ref 0), (1, .int 0), (2, .int (xs 2)), (3, .int 3)]) (st2 := [.int (-99)]) (h2 := (((zH0.set 37 (.inr (.inr (.inr (3, [.ref 44, .ref 6, .ref 76, .ref 78, .ref 80, .ref 88, .int 1, .int 0, .ref 96, .int 0, .int 0, .int 0, .ref 98, .ref 100, .int 0]))))).set 40 (.inr (.inr (.inr (6, [.int 1, .long 70644700037184, .int 0, .ref 82, .ref 84, .ref 86]))))).set 43 (.inr (.inl (16, [70644700037184]))))) (dc2 := 0) (ds2 := 0) 2 rfl ?_
    exact zT_ret rfl rfl
  refine zT_here (pc2 := 1062) rfl ?_
  refine zT_gos (f := 200000) (pc2 := 1069) (ls2 := [(4, .int 0), (3, .ref 232), (2, .ref 162), (1, .ref 0), (0, .ref 11)]) (st2 := [.int (xs 1), .ref 162, .int (-99)]) (h2 := (((zH0.set 37 (.inr (.inr (.inr (3, [.ref 44, .ref 6, .ref 76, .ref 78, .ref 80, .ref 88, .int 1, .int 0, .ref 96, .int 0, .int 0, .int 0, .ref 98, .ref 100, .int 0]))))).set 40 (.inr (.inr (.inr (6, [.int 1, .long 70644700037184, .int 0, .ref 82, .ref 84, .ref 86]))))).set 43 (.inr (.inl (16, [70644700037184]))))) (dc2 := 117) (ds2 := 29934) 6 rfl ?_
  refine zT_val h1 ?_
  refine zT_gos (f := 200000) (pc2 := 1083) (ls2 := [(4, .int 0), (3, .ref 232), (2, .ref 162), (1, .ref 0), (0, .ref 11)]) (st2 := [.int (xs 2), .int 0, .ref 162, .int (-99)]) (h2 := (((zH0.set 37 (.inr (.inr (.inr (3, [.ref 44, .ref 6, .ref 76, .ref 78, .ref 80, .ref 88, .int 1, .int 0, .ref 96, .int 0, .int 0, .int 0, .ref 98, .ref 100, .int 0]))))).set 40 (.inr (.inr (.inr (6, [.int 1, .long 70644700037184, .int 0, .ref 82, .ref 84, .ref 86]))))).set 43 (.inr (.inl (16, [70644700037184]))))) (dc2 := 117) (ds2 := 29934) 7 rfl ?_
  refine zT_gos (f := 200000) (pc2 := 1089) (ls2 := [(4, .int 0), (3, .ref 232), (2, .ref 162), (1, .ref 0), (0, .ref 11)]) (st2 := [.int (xs 3), .int (xs 2), .int 0, .ref 162, .int (-99)]) (h2 := (((zH0.set 37 (.inr (.inr (.inr (3, [.ref 44, .ref 6, .ref 76, .ref 78, .ref 80, .ref 88, .int 1, .int 0, .ref 96, .int 0, .int 0, .int 0, .ref 98, .ref 100, .int 0]))))).set 40 (.inr (.inr (.inr (6, [.int 1, .long 70644700037184, .int 0, .ref 82, .ref 84, .ref 86]))))).set 43 (.inr (.inl (16, [70644700037184]))))) (dc2 := 117) (ds2 := 29934) 5 rfl ?_
  refine zT_val h3 ?_
  refine zT_call (v := some (.int (-99))) (h2 := (((((((zH0.set 37 (.inr (.inr (.inr (3, [.ref 44, .ref 6, .ref 76, .ref 78, .ref 80, .ref 88, .int 1, .int 0, .ref 96, .int 0, .int 0, .int 0, .ref 98, .ref 100, .int 0]))))).set 40 (.inr (.inr (.inr (6, [.int 1, .long 70644700037184, .int 0, .ref 82, .ref 84, .ref 86]))))).set 43 (.inr (.inl (16, [70644700037184])))).set 106 (.inl (2, 2, [1, 0]))).set 105 (.inl (0, 2, [0]))).set 107 (.inl (0, 132, [0, 0, 0, 0, 0, 0]))).set 109 (.inl (0, 22, [0])))) (d1 := 0) (s1 := 0) rfl rfl ?_ ?_
  · refine zT_gos (f := 200000) (pc2 := 7) (ls2 := [(0, .ref 162), (1, .int 0), (2, .int (xs 2)), (3, .int 3)]) (st2 := [.int 0, .ref 162]) (h2 := (((zH0.set 37 (.inr (.inr (.inr (3, [.ref 44, .ref 6, .ref 76, .ref 78, .ref 80, .ref 88, .int 1, .int 0, .ref 96, .int 0, .int 0, .int 0, .ref 98, .ref 100, .int 0]))))).set 40 (.inr (.inr (.inr (6, [.int 1, .long 70644700037184, .int 0, .ref 82, .ref 84, .ref 86]))))).set 43 (.inr (.inl (16, [70644700037184]))))) (dc2 := 0) (ds2 := 0) 5 rfl ?_
    refine zT_call rfl rfl (zT_le (zg0_le 6 xs) zk_o_19) ?_
    refine zT_here (pc2 := 10) rfl ?_
    refine zT_gos (f := 200000) (pc2 := 18) (ls2 := [(4, .int 0), (0, .ref 162), (1, .int 0), (2, .int (xs 2)), (3, .int 3)]) (st2 := [.int (xs 2)]) (h2 := (((((((zH0.set 37 (.inr (.inr (.inr (3, [.ref 44, .ref 6, .ref 76, .ref 78, .ref 80, .ref 88, .int 1, .int 0, .ref 96, .int 0, .int 0, .int 0, .ref 98, .ref 100, .int 0]))))).set 40 (.inr (.inr (.inr (6, [.int 1, .long 70644700037184, .int 0, .ref 82, .ref 84, .ref 86]))))).set 43 (.inr (.inl (16, [70644700037184])))).set 106 (.inl (2, 2, [1, 0]))).set 105 (.inl (0, 2, [0]))).set 107 (.inl (0, 132, [0, 0, 0, 0, 0, 0]))).set 109 (.inl (0, 22, [0])))) (dc2 := 0) (ds2 := 0) 4 rfl ?_
    refine zT_if0 false rfl (zc_lt_f (by show ((xs 2) : Int32).toInt ≥ 0; omega)) ?_
    refine zT_here (pc2 := 21) rfl ?_
    refine zT_gos (f := 200000) (pc2 := 24) (ls2 := [(4, .int 0), (0, .ref 162), (1, .int 0), (2, .int (xs 2)), (3, .int 3)]) (st2 := [.int 0, .int (xs 2)]) (h2 := (((((((zH0.set 37 (.inr (.inr (.inr (3, [.ref 44, .ref 6, .ref 76, .ref 78, .ref 80, .ref 88, .int 1, .int 0, .ref 96, .int 0, .int 0, .int 0, .ref 98, .ref 100, .int 0]))))).set 40 (.inr (.inr (.inr (6, [.int 1, .long 70644700037184, .int 0, .ref 82, .ref 84, .ref 86]))))).set 43 (.inr (.inl (16, [70644700037184])))).set 106 (.inl (2, 2, [1, 0]))).set 105 (.inl (0, 2, [0]))).set 107 (.inl (0, 132, [0, 0, 0, 0, 0, 0]))).set 109 (.inl (0, 22, [0])))) (dc2 := 0) (ds2 := 0) 2 rfl ?_
    refine zT_if2 true rfl (zc_gt_t (by show ((xs 2) : Int32).toInt > 0; omega)) ?_
    refine zT_here (pc2 := 34) rfl ?_
    refine zT_gos (f := 200000) (pc2 := 54) (ls2 := [(4, .int 0), (0, .ref 162), (1, .int 0), (2, .int (xs 2)), (3, .int 3)]) (st2 := [.int (-99)]) (h2 := (((((((zH0.set 37 (.inr (.inr (.inr (3, [.ref 44, .ref 6, .ref 76, .ref 78, .ref 80, .ref 88, .int 1, .int 0, .ref 96, .int 0, .int 0, .int 0, .ref 98, .ref 100, .int 0]))))).set 40 (.inr (.inr (.inr (6, [.int 1, .long 70644700037184, .int 0, .ref 82, .ref 84, .ref 86]))))).set 43 (.inr (.inl (16, [70644700037184])))).set 106 (.inl (2, 2, [1, 0]))).set 105 (.inl (0, 2, [0]))).set 107 (.inl (0, 132, [0, 0, 0, 0, 0, 0]))).set 109 (.inl (0, 22, [0])))) (dc2 := 0) (ds2 := 0) 2 rfl ?_
    exact zT_ret rfl rfl
  refine zT_here (pc2 := 1092) rfl ?_
  refine zT_gos (f := 200000) (pc2 := 1811) (ls2 := [(4, .int 6), (3, .ref 232), (2, .ref 162), (1, .ref 0), (0, .ref 11)]) (st2 := [.int 1]) (h2 := (((((((zH0.set 37 (.inr (.inr (.inr (3, [.ref 44, .ref 6, .ref 76, .ref 78, .ref 80, .ref 88, .int 1, .int 0, .ref 96, .int 0, .int 0, .int 0, .ref 98, .ref 100, .int 0]))))).set 40 (.inr (.inr (.inr (6, [.int 1, .long 70644700037184, .int 0, .ref 82, .ref 84, .ref 86]))))).set 43 (.inr (.inl (16, [70644700037184])))).set 106 (.inl (2, 2, [1, 0]))).set 105 (.inl (0, 2, [0]))).set 107 (.inl (0, 132, [0, 0, 0, 0, 0, 0]))).set 109 (.inl (0, 22, [0])))) (dc2 := 117) (ds2 := 29934) 10 rfl ?_
  exact zT_ret rfl rfl
set_option maxRecDepth 1000000 in
theorem zk_o_123 : zT zg0 zF zP 124 0 [(0, .ref 0), (1, .int 0), (2, .int 0), (3, .int 3)] [] zH0 0 0 (some (.int 0), (((zH0.set 37 (.inr (.inr (.inr (3, [.ref 44, .ref 6, .ref 76, .ref 78, .ref 80, .ref 88, .int 1, .int 0, .ref 96, .int 0, .int 0, .int 0, .ref 98, .ref 100, .int 0]))))).set 40 (.inr (.inr (.inr (6, [.int 1, .long 70644700037184, .int 0, .ref 82, .ref 84, .ref 86]))))).set 43 (.inr (.inl (16, [70644700037184])))), 0, 0) := zclosed (n := 148) (by decide +kernel)
set_option maxRecDepth 1000000 in
theorem zk_o_124 : zT zg0 zF zP 255 0 [(0, .ref 162), (1, .int 0), (2, .int 0), (3, .int 3)] [] (((zH0.set 37 (.inr (.inr (.inr (3, [.ref 44, .ref 6, .ref 76, .ref 78, .ref 80, .ref 88, .int 1, .int 0, .ref 96, .int 0, .int 0, .int 0, .ref 98, .ref 100, .int 0]))))).set 40 (.inr (.inr (.inr (6, [.int 1, .long 70644700037184, .int 0, .ref 82, .ref 84, .ref 86]))))).set 43 (.inr (.inl (16, [70644700037184])))) 0 0 (some (.int 0), (((((((zH0.set 37 (.inr (.inr (.inr (3, [.ref 44, .ref 6, .ref 76, .ref 78, .ref 80, .ref 88, .int 1, .int 0, .ref 96, .int 0, .int 0, .int 0, .ref 98, .ref 100, .int 0]))))).set 40 (.inr (.inr (.inr (6, [.int 1, .long 70644700037184, .int 0, .ref 82, .ref 84, .ref 86]))))).set 43 (.inr (.inl (16, [70644700037184])))).set 106 (.inl (2, 2, [1, 0]))).set 105 (.inl (0, 2, [0]))).set 107 (.inl (0, 132, [0, 0, 0, 0, 0, 0]))).set 109 (.inl (0, 22, [0]))), 0, 0) := zclosed (n := 227) (by decide +kernel)
set_option maxRecDepth 1000000 in
set_option maxHeartbeats 4000000 in
theorem zo_23_23 (xs : Nat → Int32) (h0 : xs 0 &&& 63 = 23) (h1 : xs 1 = 0) (h3 : xs 3 = 3) (h2 : xs 2 = 0) : zDone xs := by
  refine ⟨(((((((zH0.set 37 (.inr (.inr (.inr (3, [.ref 44, .ref 6, .ref 76, .ref 78, .ref 80, .ref 88, .int 1, .int 0, .ref 96, .int 0, .int 0, .int 0, .ref 98, .ref 100, .int 0]))))).set 40 (.inr (.inr (.inr (6, [.int 1, .long 70644700037184, .int 0, .ref 82, .ref 84, .ref 86]))))).set 43 (.inr (.inl (16, [70644700037184])))).set 106 (.inl (2, 2, [1, 0]))).set 105 (.inl (0, 2, [0]))).set 107 (.inl (0, 132, [0, 0, 0, 0, 0, 0]))).set 109 (.inl (0, 22, [0]))), 117, 29934, ?_, by decide, by decide⟩
  refine zT_gos (f := 200000) (pc2 := 37) (ls2 := [(4, .int 0), (3, .ref 232), (2, .ref 162), (1, .ref 0), (0, .ref 11)]) (st2 := [.int (xs 0)]) (h2 := zH0) (dc2 := 117) (ds2 := 29934) 9 rfl ?_
  refine zT_gos (f := 200000) (pc2 := 40) (ls2 := [(4, .int 0), (3, .ref 232), (2, .ref 162), (1, .ref 0), (0, .ref 11)]) (st2 := [.int ((xs 0) &&& (63 : Int32))]) (h2 := zH0) (dc2 := 117) (ds2 := 29934) 2 rfl ?_
  refine zT_val h0 ?_
  refine zT_gos (f := 200000) (pc2 := 1039) (ls2 := [(4, .int 0), (3, .ref 232), (2, .ref 162), (1, .ref 0), (0, .ref 11)]) (st2 := [.int (xs 1), .ref 0]) (h2 := zH0) (dc2 := 117) (ds2 := 29934) 7 rfl ?_
  refine zT_val h1 ?_
  refine zT_gos (f := 200000) (pc2 := 1053) (ls2 := [(4, .int 0), (3, .ref 232), (2, .ref 162), (1, .ref 0), (0, .ref 11)]) (st2 := [.int (xs 2), .int 0, .ref 0]) (h2 := zH0) (dc2 := 117) (ds2 := 29934) 7 rfl ?_
  refine zT_val h2 ?_
  refine zT_gos (f := 200000) (pc2 := 1059) (ls2 := [(4, .int 0), (3, .ref 232), (2, .ref 162), (1, .ref 0), (0, .ref 11)]) (st2 := [.int (xs 3), .int 0, .int 0, .ref 0]) (h2 := zH0) (dc2 := 117) (ds2 := 29934) 5 rfl ?_
  refine zT_val h3 ?_
  refine zT_call rfl rfl (zT_le (zg0_le 6 xs) zk_o_123) ?_
  refine zT_here (pc2 := 1062) rfl ?_
  refine zT_gos (f := 200000) (pc2 := 1069) (ls2 := [(4, .int 0), (3, .ref 232), (2, .ref 162), (1, .ref 0), (0, .ref 11)]) (st2 := [.int (xs 1), .ref 162, .int 0]) (h2 := (((zH0.set 37 (.inr (.inr (.inr (3, [.ref 44, .ref 6, .ref 76, .ref 78, .ref 80, .ref 88, .int 1, .int 0, .ref 96, .int 0, .int 0, .int 0, .ref 98, .ref 100, .int 0]))))).set 40 (.inr (.inr (.inr (6, [.int 1, .long 70644700037184, .int 0, .ref 82, .ref 84, .ref 86]))))).set 43 (.inr (.inl (16, [70644700037184]))))) (dc2 := 117) (ds2 := 29934) 6 rfl ?_
  refine zT_val h1 ?_
  refine zT_gos (f := 200000) (pc2 := 1083) (ls2 := [(4, .int 0), (3, .ref 232), (2, .ref 162), (1, .ref 0), (0, .ref 11)]) (st2 := [.int (xs 2), .int 0, .ref 162, .int 0]) (h2 := (((zH0.set 37 (.inr (.inr (.inr (3, [.ref 44, .ref 6, .ref 76, .ref 78, .ref 80, .ref 88, .int 1, .int 0, .ref 96, .int 0, .int 0, .int 0, .ref 98, .ref 100, .int 0]))))).set 40 (.inr (.inr (.inr (6, [.int 1, .long 70644700037184, .int 0, .ref 82, .ref 84, .ref 86]))))).set 43 (.inr (.inl (16, [70644700037184]))))) (dc2 := 117) (ds2 := 29934) 7 rfl ?_
  refine zT_val h2 ?_
  refine zT_gos (f := 200000) (pc2 := 1089) (ls2 := [(4, .int 0), (3, .ref 232), (2, .ref 162), (1, .ref 0), (0, .ref 11)]) (st2 := [.int (xs 3), .int 0, .int 0, .ref 162, .int 0]) (h2 := (((zH0.set 37 (.inr (.inr (.inr (3, [.ref 44, .ref 6, .ref 76, .ref 78, .ref 80, .ref 88, .int 1, .int 0, .ref 96, .int 0, .int 0, .int 0, .ref 98, .ref 100, .int 0]))))).set 40 (.inr (.inr (.inr (6, [.int 1, .long 70644700037184, .int 0, .ref 82, .ref 84, .ref 86]))))).set 43 (.inr (.inl (16, [70644700037184]))))) (dc2 := 117) (ds2 := 29934) 5 rfl ?_
  refine zT_val h3 ?_
  refine zT_call rfl rfl (zT_le (zg0_le 6 xs) zk_o_124) ?_
  refine zT_here (pc2 := 1092) rfl ?_
  refine zT_gos (f := 200000) (pc2 := 1811) (ls2 := [(4, .int 6), (3, .ref 232), (2, .ref 162), (1, .ref 0), (0, .ref 11)]) (st2 := [.int 1]) (h2 := (((((((zH0.set 37 (.inr (.inr (.inr (3, [.ref 44, .ref 6, .ref 76, .ref 78, .ref 80, .ref 88, .int 1, .int 0, .ref 96, .int 0, .int 0, .int 0, .ref 98, .ref 100, .int 0]))))).set 40 (.inr (.inr (.inr (6, [.int 1, .long 70644700037184, .int 0, .ref 82, .ref 84, .ref 86]))))).set 43 (.inr (.inl (16, [70644700037184])))).set 106 (.inl (2, 2, [1, 0]))).set 105 (.inl (0, 2, [0]))).set 107 (.inl (0, 132, [0, 0, 0, 0, 0, 0]))).set 109 (.inl (0, 22, [0])))) (dc2 := 117) (ds2 := 29934) 10 rfl ?_
  exact zT_ret rfl rfl
set_option maxRecDepth 1000000 in
set_option maxHeartbeats 4000000 in
theorem zo_23_24 (xs : Nat → Int32) (h0 : xs 0 &&& 63 = 23) (h1 : xs 1 = 0) (h3 : xs 3 = 4) (h2 : (xs 2).toInt < 0) : zDone xs := by
  refine ⟨(((((((zH0.set 37 (.inr (.inr (.inr (3, [.ref 44, .ref 6, .ref 76, .ref 78, .ref 80, .ref 88, .int 1, .int 0, .ref 96, .int 0, .int 0, .int 0, .ref 98, .ref 100, .int 0]))))).set 40 (.inr (.inr (.inr (6, [.int 1, .long 70644700037184, .int 0, .ref 82, .ref 84, .ref 86]))))).set 43 (.inr (.inl (16, [70644700037184])))).set 106 (.inl (2, 2, [1, 0]))).set 105 (.inl (0, 2, [0]))).set 107 (.inl (0, 132, [0, 0, 0, 0, 0, 0]))).set 109 (.inl (0, 22, [0]))), 117, 29934, ?_, by decide, by decide⟩
  refine zT_gos (f := 200000) (pc2 := 37) (ls2 := [(4, .int 0), (3, .ref 232), (2, .ref 162), (1, .ref 0), (0, .ref 11)]) (st2 := [.int (xs 0)]) (h2 := zH0) (dc2 := 117) (ds2 := 29934) 9 rfl ?_
  refine zT_gos (f := 200000) (pc2 := 40) (ls2 := [(4, .int 0), (3, .ref 232), (2, .ref 162), (1, .ref 0), (0, .ref 11)]) (st2 := [.int ((xs 0) &&& (63 : Int32))]) (h2 := zH0) (dc2 := 117) (ds2 := 29934) 2 rfl ?_
  refine zT_val h0 ?_
  refine zT_gos (f := 200000) (pc2 := 1039) (ls2 := [(4, .int 0), (3, .ref 232), (2, .ref 162), (1, .ref 0), (0, .ref 11)]) (st2 := [.int (xs 1), .ref 0]) (h2 := zH0) (dc2 := 117) (ds2 := 29934) 7 rfl ?_
  refine zT_val h1 ?_
  refine zT_gos (f := 200000) (pc2 := 1053) (ls2 := [(4, .int 0), (3, .ref 232), (2, .ref 162), (1, .ref 0), (0, .ref 11)]) (st2 := [.int (xs 2), .int 0, .ref 0]) (h2 := zH0) (dc2 := 117) (ds2 := 29934) 7 rfl ?_
  refine zT_gos (f := 200000) (pc2 := 1059) (ls2 := [(4, .int 0), (3, .ref 232), (2, .ref 162), (1, .ref 0), (0, .ref 11)]) (st2 := [.int (xs 3), .int (xs 2), .int 0, .ref 0]) (h2 := zH0) (dc2 := 117) (ds2 := 29934) 5 rfl ?_
  refine zT_val h3 ?_
  refine zT_call (v := some (.int (-99))) (h2 := (((zH0.set 37 (.inr (.inr (.inr (3, [.ref 44, .ref 6, .ref 76, .ref 78, .ref 80, .ref 88, .int 1, .int 0, .ref 96, .int 0, .int 0, .int 0, .ref 98, .ref 100, .int 0]))))).set 40 (.inr (.inr (.inr (6, [.int 1, .long 70644700037184, .int 0, .ref 82, .ref 84, .ref 86]))))).set 43 (.inr (.inl (16, [70644700037184]))))) (d1 := 0) (s1 := 0) rfl rfl ?_ ?_
  · refine zT_gos (f := 200000) (pc2 := 33) (ls2 := [(4, .ref 80), (0, .ref 0), (1, .int 0), (2, .int (xs 2)), (3, .int 4)]) (st2 := [.int (xs 2)]) (h2 := (((zH0.set 37 (.inr (.inr (.inr (3, [.ref 44, .ref 6, .ref 76, .ref 78, .ref 80, .ref 88, .int 1, .int 0, .ref 96, .int 0, .int 0, .int 0, .ref 98, .ref 100, .int 0]))))).set 40 (.inr (.inr (.inr (6, [.int 1, .long 70644700037184, .int 0, .ref 82, .ref 84, .ref 86]))))).set 43 (.inr (.inl (16, [70644700037184]))))) (dc2 := 0) (ds2 := 0) 14 rfl ?_
    refine zT_if0 true rfl (zc_lt_t (by show ((xs 2) : Int32).toInt < 0; omega)) ?_
    refine zT_here (pc2 := 45) rfl ?_
    refine zT_gos (f := 200000) (pc2 := 57) (ls2 := [(4, .ref 80), (0, .ref 0), (1, .int 0), (2, .int (xs 2)), (3, .int 4)]) (st2 := [.int (-99)]) (h2 := (((zH0.set 37 (.inr (.inr (.inr (3, [.ref 44, .ref 6, .ref 76, .ref 78, .ref 80, .ref 88, .int 1, .int 0, .ref 96, .int 0, .int 0, .int 0, .ref 98, .ref 100, .int 0]))))).set 40 (.inr (.inr (.inr (6, [.int 1, .long 70644700037184, .int 0, .ref 82, .ref 84, .ref 86]))))).set 43 (.inr (.inl (16, [70644700037184]))))) (dc2 := 0) (ds2 := 0) 2 rfl ?_
    exact zT_ret rfl rfl
  refine zT_here (pc2 := 1062) rfl ?_
  refine zT_gos (f := 200000) (pc2 := 1069) (ls2 := [(4, .int 0), (3, .ref 232), (2, .ref 162), (1, .ref 0), (0, .ref 11)]) (st2 := [.int (xs 1), .ref 162, .int (-99)]) (h2 := (((zH0.set 37 (.inr (.inr (.inr (3, [.ref 44, .ref 6, .ref 76, .ref 78, .ref 80, .ref 88, .int 1, .int 0, .ref 96, .int 0, .int 0, .int 0, .ref 98, .ref 100, .int 0]))))).set 40 (.inr (.inr (.inr (6, [.int 1, .long 70644700037184, .int 0, .ref 82, .ref 84, .ref 86]))))).set 43 (.inr (.inl (16, [70644700037184]))))) (dc2 := 117) (ds2 := 29934) 6 rfl ?_
  refine zT_val h1 ?_
  refine zT_gos (f := 200000) (pc2 := 1083) (ls2 := [(4, .int 0), (3, .ref 232), (2, .ref 162), (1, .ref 0), (0, .ref 11)]) (st2 := [.int (xs 2), .int 0, .ref 162, .int (-99)]) (h2 := (((zH0.set 37 (.inr (.inr (.inr (3, [.ref 44, .ref 6, .ref 76, .ref 78, .ref 80, .ref 88, .int 1, .int 0, .ref 96, .int 0, .int 0, .int 0, .ref 98, .ref 100, .int 0]))))).set 40 (.inr (.inr (.inr (6, [.int 1, .long 70644700037184, .int 0, .ref 82, .ref 84, .ref 86]))))).set 43 (.inr (.inl (16, [70644700037184]))))) (dc2 := 117) (ds2 := 29934) 7 rfl ?_
  refine zT_gos (f := 200000) (pc2 := 1089) (ls2 := [(4, .int 0), (3, .ref 232), (2, .ref 162), (1, .ref 0), (0, .ref 11)]) (st2 := [.int (xs 3), .int (xs 2), .int 0, .ref 162, .int (-99)]) (h2 := (((zH0.set 37 (.inr (.inr (.inr (3, [.ref 44, .ref 6, .ref 76, .ref 78, .ref 80, .ref 88, .int 1, .int 0, .ref 96, .int 0, .int 0, .int 0, .ref 98, .ref 100, .int 0]))))).set 40 (.inr (.inr (.inr (6, [.int 1, .long 70644700037184, .int 0, .ref 82, .ref 84, .ref 86]))))).set 43 (.inr (.inl (16, [70644700037184]))))) (dc2 := 117) (ds2 := 29934) 5 rfl ?_
  refine zT_val h3 ?_
  refine zT_call (v := some (.int (-99))) (h2 := (((((((zH0.set 37 (.inr (.inr (.inr (3, [.ref 44, .ref 6, .ref 76, .ref 78, .ref 80, .ref 88, .int 1, .int 0, .ref 96, .int 0, .int 0, .int 0, .ref 98, .ref 100, .int 0]))))).set 40 (.inr (.inr (.inr (6, [.int 1, .long 70644700037184, .int 0, .ref 82, .ref 84, .ref 86]))))).set 43 (.inr (.inl (16, [70644700037184])))).set 106 (.inl (2, 2, [1, 0]))).set 105 (.inl (0, 2, [0]))).set 107 (.inl (0, 132, [0, 0, 0, 0, 0, 0]))).set 109 (.inl (0, 22, [0])))) (d1 := 0) (s1 := 0) rfl rfl ?_ ?_
  · refine zT_gos (f := 200000) (pc2 := 7) (ls2 := [(0, .ref 162), (1, .int 0), (2, .int (xs 2)), (3, .int 4)]) (st2 := [.int 0, .ref 162]) (h2 := (((zH0.set 37 (.inr (.inr (.inr (3, [.ref 44, .ref 6, .ref 76, .ref 78, .ref 80, .ref 88, .int 1, .int 0, .ref 96, .int 0, .int 0, .int 0, .ref 98, .ref 100, .int 0]))))).set 40 (.inr (.inr (.inr (6, [.int 1, .long 70644700037184, .int 0, .ref 82, .ref 84, .ref 86]))))).set 43 (.inr (.inl (16, [70644700037184]))))) (dc2 := 0) (ds2 := 0) 5 rfl ?_
    refine zT_call rfl rfl (zT_le (zg0_le 6 xs) zk_o_19) ?_
    refine zT_here (pc2 := 10) rfl ?_
    refine zT_gos (f := 200000) (pc2 := 18) (ls2 := [(4, .int 0), (0, .ref 162), (1, .int 0), (2, .int (xs 2)), (3, .int 4)]) (st2 := [.int (xs 2)]) (h2 := (((((((zH0.set 37 (.inr (.inr (.inr (3, [.ref 44, .ref 6, .ref 76, .ref 78, .ref 80, .ref 88, .int 1, .int 0, .ref 96, .int 0, .int 0, .int 0, .ref 98, .ref 100, .int 0]))))).set 40 (.inr (.inr (.inr (6, [.int 1, .long 70644700037184, .int 0, .ref 82, .ref 84, .ref 86]))))).set 43 (.inr (.inl (16, [70644700037184])))).set 106 (.inl (2, 2, [1, 0]))).set 105 (.inl (0, 2, [0]))).set 107 (.inl (0, 132, [0, 0, 0, 0, 0, 0]))).set 109 (.inl (0, 22, [0])))) (dc2 := 0) (ds2 := 0) 4 rfl ?_
    refine zT_if0 true rfl (zc_lt_t (by show ((xs 2) : Int32).toInt < 0; omega)) ?_
    refine zT_here (pc2 := 34) rfl ?_
    refine zT_gos (f := 200000) (pc2 := 54) (ls2 := [(4, .int 0), (0, .ref 162), (1, .int 0), (2, .int (xs 2)), (3, .int 4)]) (st2 := [.int (-99)]) (h2 := (((((((zH0.set 37 (.inr (.inr (.inr (3, [.ref 44, .ref 6, .ref 76, .ref 78, .ref 80, .ref 88, .int 1, .int 0, .ref 96, .int 0, .int 0, .int 0, .ref 98, .ref 100, .int 0]))))).set 40 (.inr (.inr (.inr (6, [.int 1, .long 70644700037184, .int 0, .ref 82, .ref 84, .ref 86]))))).set 43 (.inr (.inl (16, [70644700037184])))).set 106 (.inl (2, 2, [1, 0]))).set 105 (.inl (0, 2, [0]))).set 107 (.inl (0, 132, [0, 0, 0, 0, 0, 0]))).set 109 (.inl (0, 22, [0])))) (dc2 := 0) (ds2 := 0) 2 rfl ?_
    exact zT_ret rfl rfl
  refine zT_here (pc2 := 1092) rfl ?_
  refine zT_gos (f := 200000) (pc2 := 1811) (ls2 := [(4, .int 6), (3, .ref 232), (2, .ref 162), (1, .ref 0), (0, .ref 11)]) (st2 := [.int 1]) (h2 := (((((((zH0.set 37 (.inr (.inr (.inr (3, [.ref 44, .ref 6, .ref 76, .ref 78, .ref 80, .ref 88, .int 1, .int 0, .ref 96, .int 0, .int 0, .int 0, .ref 98, .ref 100, .int 0]))))).set 40 (.inr (.inr (.inr (6, [.int 1, .long 70644700037184, .int 0, .ref 82, .ref 84, .ref 86]))))).set 43 (.inr (.inl (16, [70644700037184])))).set 106 (.inl (2, 2, [1, 0]))).set 105 (.inl (0, 2, [0]))).set 107 (.inl (0, 132, [0, 0, 0, 0, 0, 0]))).set 109 (.inl (0, 22, [0])))) (dc2 := 117) (ds2 := 29934) 10 rfl ?_
  exact zT_ret rfl rfl
set_option maxRecDepth 1000000 in
set_option maxHeartbeats 4000000 in
theorem zo_23_25 (xs : Nat → Int32) (h0 : xs 0 &&& 63 = 23) (h1 : xs 1 = 0) (h3 : xs 3 = 4) (h2 : 0 < (xs 2).toInt) : zDone xs := by
  refine ⟨(((((((zH0.set 37 (.inr (.inr (.inr (3, [.ref 44, .ref 6, .ref 76, .ref 78, .ref 80, .ref 88, .int 1, .int 0, .ref 96, .int 0, .int 0, .int 0, .ref 98, .ref 100, .int 0]))))).set 40 (.inr (.inr (.inr (6, [.int 1, .long 70644700037184, .int 0, .ref 82, .ref 84, .ref 86]))))).set 43 (.inr (.inl (16, [70644700037184])))).set 106 (.inl (2, 2, [1, 0]))).set 105 (.inl (0, 2, [0]))).set 107 (.inl (0, 132, [0, 0, 0, 0, 0, 0]))).set 109 (.inl (0, 22, [0]))), 117, 29934, ?_, by decide, by decide⟩
  refine zT_gos (f := 200000) (pc2 := 37) (ls2 := [(4, .int 0), (3, .ref 232), (2, .ref 162), (1, .ref 0), (0, .ref 11)]) (st2 := [.int (xs 0)]) (h2 := zH0) (dc2 := 117) (ds2 := 29934) 9 rfl ?_
  refine zT_gos (f := 200000) (pc2 := 40) (ls2 := [(4, .int 0), (3, .ref 232), (2, .ref 162), (1, .ref 0), (0, .ref 11)]) (st2 := [.int ((xs 0) &&& (63 : Int32))]) (h2 := zH0) (dc2 := 117) (ds2 := 29934) 2 rfl ?_
  refine zT_val h0 ?_
  refine zT_gos (f := 200000) (pc2 := 1039) (ls2 := [(4, .int 0), (3, .ref 232), (2, .ref 162), (1, .ref 0), (0, .ref 11)]) (st2 := [.int (xs 1), .ref 0]) (h2 := zH0) (dc2 := 117) (ds2 := 29934) 7 rfl ?_
  refine zT_val h1 ?_
  refine zT_gos (f := 200000) (pc2 := 1053) (ls2 := [(4, .int 0), (3, .ref 232), (2, .ref 162), (1, .ref 0), (0, .ref 11)]) (st2 := [.int (xs 2), .int 0, .ref 0]) (h2 := zH0) (dc2 := 117) (ds2 := 29934) 7 rfl ?_
  refine zT_gos (f := 200000) (pc2 := 1059) (ls2 := [(4, .int 0), (3, .ref 232), (2, .ref 162), (1, .ref 0), (0, .ref 11)]) (st2 := [.int (xs 3), .int (xs 2), .int 0, .ref 0]) (h2 := zH0) (dc2 := 117) (ds2 := 29934) 5 rfl ?_
  refine zT_val h3 ?_
  refine zT_call (v := some (.int (-99))) (h2 := (((zH0.set 37 (.inr (.inr (.inr (3, [.ref 44, .ref 6, .ref 76, .ref 78, .ref 80, .ref 88, .int 1, .int 0, .ref 96, .int 0, .int 0, .int 0, .ref 98, .ref 100, .int 0]))))).set 40 (.inr (.inr (.inr (6, [.int 1, .long 70644700037184, .int 0, .ref 82, .ref 84, .ref 86]))))).set 43 (.inr (.inl (16, [70644700037184]))))) (d1 := 0) (s1 := 0) rfl rfl ?_ ?_
  · refine zT_gos (f := 200000) (pc2 := 33) (ls2 := [(4, .ref 80), (0, .ref 0), (1, .int 0), (2, .int (xs 2)), (3, .int 4)]) (st2 := [.int (xs 2)]) (h2 := (((zH0.set 37 (.inr (.inr (.inr (3, [.ref 44, .ref 6, .ref 76, .ref 78, .ref 80, .ref 88, .int 1, .int 0, .ref 96, .int 0, .int 0, .int 0, .ref 98, .ref 100, .int 0]))))).set 40 (.inr (.inr (.inr (6, [.int 1, .long 70644700037184, .int 0, .ref 82, .ref 84, .ref 86]))))).set 43 (.inr (.inl (16, [70644700037184]))))) (dc2 := 0) (ds2 := 0) 14 rfl ?_
    refine zT_if0 false rfl (zc_lt_f (by show ((xs 2) : Int32).toInt ≥ 0; omega)) ?_
    refine zT_here (pc2 := 36) rfl ?_
    refine zT_gos (f := 200000) (pc2 := 42) (ls2 := [(4, .ref 80), (0, .ref 0), (1, .int 0), (2, .int (xs 2)), (3, .int 4)]) (st2 := [.int 0, .int (xs 2)]) (h2 := (((zH0.set 37 (.inr (.inr (.inr (3, [.ref 44, .ref 6, .ref 76, .ref 78, .ref 80, .ref 88, .int 1, .int 0, .ref 96, .int 0, .int 0, .int 0, .ref 98, .ref 100, .int 0]))))).set 40 (.inr (.inr (.inr (6, [.int 1, .long 70644700037184, .int 0, .ref 82, .ref 84, .ref 86]))))).set 43 (.inr (.inl (16, [70644700037184]))))) (dc2 := 0) (ds2 := 0) 3 rfl ?_
    refine zT_if2 false rfl (zc_le_f (by show ((xs 2) : Int32).toInt > 0; omega)) ?_
    refine zT_here (pc2 := 45) rfl ?_
    refine zT_gos (f := 200000) (pc2 := 57) (ls2 := [(4, .ref 80), (0, .ref 0), (1, .int 0), (2, .int (xs 2)), (3, .int 4)]) (st2 := [.int (-99)]) (h2 := (((zH0.set 37 (.inr (.inr (.inr (3, [.ref 44, .ref 6, .ref 76, .ref 78, .ref 80, .ref 88, .int 1, .int 0, .ref 96, .int 0, .int 0, .int 0, .ref 98, .ref 100, .int 0]))))).set 40 (.inr (.inr (.inr (6, [.int 1, .long 70644700037184, .int 0, .ref 82, .ref 84, .ref 86]))))).set 43 (.inr (.inl (16, [70644700037184]))))) (dc2 := 0) (ds2 := 0) 2 rfl ?_
    exact zT_ret rfl rfl
  refine zT_here (pc2 := 1062) rfl ?_
  refine zT_gos (f := 200000) (pc2 := 1069) (ls2 := [(4, .int 0), (3, .ref 232), (2, .ref 162), (1, .ref 0), (0, .ref 11)]) (st2 := [.int (xs 1), .ref 162, .int (-99)]) (h2 := (((zH0.set 37 (.inr (.inr (.inr (3, [.ref 44, .ref 6, .ref 76, .ref 78, .ref 80, .ref 88, .int 1, .int 0, .ref 96, .int 0, .int 0, .int 0, .ref 98, .ref 100, .int 0]))))).set 40 (.inr (.inr (.inr (6, [.int 1, .long 70644700037184, .int 0, .ref 82, .ref 84, .ref 86]))))).set 43 (.inr (.inl (16, [70644700037184]))))) (dc2 := 117) (ds2 := 29934) 6 rfl ?_
  refine zT_val h1 ?_
  refine zT_gos (f := 200000) (pc2 := 1083) (ls2 := [(4, .int 0), (3, .ref 232), (2, .ref 162), (1, .ref 0), (0, .ref 11)]) (st2 := [.int (xs 2), .int 0, .ref 162, .int (-99)]) (h2 := (((zH0.set 37 (.inr (.inr (.inr (3, [.ref 44, .ref 6, .ref 76, .ref 78, .ref 80, .ref 88, .int 1, .int 0, .ref 96, .int 0, .int 0, .int 0, .ref 98, .ref 100, .int 0]))))).set 40 (.inr (.inr (.inr (6, [.int 1, .long 70644700037184, .int 0, .ref 82, .ref 84, .ref 86]))))).set 43 (.inr (.inl (16, [70644700037184]))))) (dc2 := 117) (ds2 := 29934) 7 rfl ?_
  refine zT_gos (f := 200000) (pc2 := 1089) (ls2 := [(4, .int 0), (3, .ref 232), (2, .ref 162), (1, .ref 0), (0, .ref 11)]) (st2 := [.int (xs 3), .int (xs 2), .int 0, .ref 162, .int (-99)]) (h2 := (((zH0.set 37 (.inr (.inr (.inr (3, [.ref 44, .ref 6, .ref 76, .ref 78, .ref 80, .ref 88, .int 1, .int 0, .ref 96, .int 0, .int 0, .int 0, .ref 98, .ref 100, .int 0]))))).set 40 (.inr (.inr (.inr (6, [.int 1, .long 70644700037184, .int 0, .ref 82, .ref 84, .ref 86]))))).set 43 (.inr (.inl (16, [70644700037184]))))) (dc2 := 117) (ds2 := 29934) 5 rfl ?_
  refine zT_val h3 ?_
  refine zT_call (v := some (.int (-99))) (h2 := (((((((zH0.set 37 (.inr (.inr (.inr (3, [.ref 44, .ref 6, .ref 76, .ref 78, .ref 80, .ref 88, .int 1, .int 0, .ref 96, .int 0, .int 0, .int 0, .ref 98, .ref 100, .int 0]))))).set 40 (.inr (.inr (.inr (6, [.int 1, .long 70644700037184, .int 0, .ref 82, .ref 84, .ref 86]))))).set 43 (.inr (.inl (16, [70644700037184])))).set 106 (.inl (2, 2, [1, 0]))).set 105 (.inl (0, 2, [0]))).set 107 (.inl (0, 132, [0, 0, 0, 0, 0, 0]))).set 109 (.inl (0, 22, [0])))) (d1 := 0) (s1 := 0) rfl rfl ?_ ?_
  · refine zT_gos (f := 200000) (pc2 := 7) (ls2 := [(0, .ref 162), (1, .int 0), (2, .int (xs 2)), (3, .int 4)]) (st2 := [.int 0, .ref 162]) (h2 := (((zH0.set 37 (.inr (.inr (.inr (3, [.ref 44, .ref 6, .ref 76, .ref 78, .ref 80, .ref 88, .int 1, .int 0, .ref 96, .int 0, .int 0, .int 0, .ref 98, .ref 100, .int 0]))))).set 40 (.inr (.inr (.inr (6, [.int 1, .long 70644700037184, .int 0, .ref 82, .ref 84, .ref 86]))))).set 43 (.inr (.inl (16, [70644700037184]))))) (dc2 := 0) (ds2 := 0) 5 rfl ?_
    refine zT_call rfl rfl (zT_le (zg0_le 6 xs) zk_o_19) ?_
    refine zT_here (pc2 := 10) rfl ?_
    refine zT_gos (f := 200000) (pc2 := 18) (ls2 := [(4, .int 0), (0, .ref 162), (1, .int 0), (2, .int (xs 2)), (3, .int 4)]) (st2 := [.int (xs 2)]) (h2 := (((((((zH0.set 37 (.inr (.inr (.inr (3, [.ref 44, .ref 6, .ref 76, .ref 78, .ref 80, .ref 88, .int 1, .int 0, .ref 96, .int 0, .int 0, .int 0, .ref 98, .ref 100, .int 0]))))).set 40 (.inr (.inr (.inr (6, [.int 1, .long 70644700037184, .int 0, .ref 82, .ref 84, .ref 86]))))).set 43 (.inr (.inl (16, [70644700037184])))).set 106 (.inl (2, 2, [1, 0]))).set 105 (.inl (0, 2, [0]))).set 107 (.inl (0, 132, [0, 0, 0, 0, 0, 0]))).set 109 (.inl (0, 22, [0])))) (dc2 := 0) (ds2 := 0) 4 rfl ?_
    refine zT_if0 false rfl (zc_lt_f (by show ((xs 2) : Int32).toInt ≥ 0; omega)) ?_
    refine zT_here (pc2 := 21) rfl ?_
    refine zT_gos (f := 200000) (pc2 := 24) (ls2 := [(4, .int 0), (0, .ref 162), (1, .int 0), (2, .int (xs 2)), (3, .int 4)]) (st2 := [.int 0, .int (xs 2)]) (h2 := (((((((zH0.set 37 (.inr (.inr (.inr (3, [.ref 44, .ref 6, .ref 76, .ref 78, .ref 80, .ref 88, .int 1, .int 0, .ref 96, .int 0, .int 0, .int 0, .ref 98, .ref 100, .int 0]))))).set 40 (.inr (.inr (.inr (6, [.int 1, .long 70644700037184, .int 0, .ref 82, .ref 84, .ref 86]))))).set 43 (.inr (.inl (16, [70644700037184])))).set 106 (.inl (2, 2, [1, 0]))).set 105 (.inl (0, 2, [0]))).set 107 (.inl (0, 132, [0, 0, 0, 0, 0, 0]))).set 109 (.inl (0, 22, [0])))) (dc2 := 0) (ds2 := 0) 2 rfl ?_
    refine zT_if2 true rfl (zc_gt_t (by show ((xs 2) : Int32).toInt > 0; omega)) ?_
    refine zT_here (pc2 := 34) rfl ?_
    refine zT_gos (f := 200000) (pc2 := 54) (ls2 := [(4, .int 0), (0, .ref 162), (1, .int 0), (2, .int (xs 2)), (3, .int 4)]) (st2 := [.int (-99)]) (h2 := (((((((zH0.set 37 (.inr (.inr (.inr (3, [.ref 44, .ref 6, .ref 76, .ref 78, .ref 80, .ref 88, .int 1, .int 0, .ref 96, .int 0, .int 0, .int 0, .ref 98, .ref 100, .int 0]))))).set 40 (.inr (.inr (.inr (6, [.int 1, .long 70644700037184, .int 0, .ref 82, .ref 84, .ref 86]))))).set 43 (.inr (.inl (16, [70644700037184])))).set 106 (.inl (2, 2, [1, 0]))).set 105 (.inl (0, 2, [0]))).set 107 (.inl (0, 132, [0, 0, 0, 0, 0, 0]))).set 109 (.inl (0, 22, [0])))) (dc2 := 0) (ds2 := 0) 2 rfl ?_
    exact zT_ret rfl rfl
  refine zT_here (pc2 := 1092) rfl ?_
  refine zT_gos (f := 200000) (pc2 := 1811) (ls2 := [(4, .int 6), (3, .ref 232), (2, .ref 162), (1, .ref 0), (0, .ref 11)]) (st2 := [.int 1]) (h2 := (((((((zH0.set 37 (.inr (.inr (.inr (3, [.ref 44, .ref 6, .ref 76, .ref 78, .ref 80, .ref 88, .int 1, .int 0, .ref 96, .int 0, .int 0, .int 0, .ref 98, .ref 100, .int 0]))))).set 40 (.inr (.inr (.inr (6, [.int 1, .long 70644700037184, .int 0, .ref 82, .ref 84, .ref 86]))))).set 43 (.inr (.inl (16, [70644700037184])))).set 106 (.inl (2, 2, [1, 0]))).set 105 (.inl (0, 2, [0]))).set 107 (.inl (0, 132, [0, 0, 0, 0, 0, 0]))).set 109 (.inl (0, 22, [0])))) (dc2 := 117) (ds2 := 29934) 10 rfl ?_
  exact zT_ret rfl rfl
set_option maxRecDepth 1000000 in
theorem zk_o_125 : zT zg0 zF zP 124 0 [(0, .ref 0), (1, .int 0), (2, .int 0), (3, .int 4)] [] zH0 0 0 (some (.int 0), (((zH0.set 37 (.inr (.inr (.inr (3, [.ref 44, .ref 6, .ref 76, .ref 78, .ref 80, .ref 88, .int 1, .int 0, .ref 96, .int 0, .int 0, .int 0, .ref 98, .ref 100, .int 0]))))).set 40 (.inr (.inr (.inr (6, [.int 1, .long 70644700037184, .int 0, .ref 82, .ref 84, .ref 86]))))).set 43 (.inr (.inl (16, [70644700037184])))), 0, 0) := zclosed (n := 148) (by decide +kernel)
set_option maxRecDepth 1000000 in
theorem zk_o_126 : zT zg0 zF zP 255 0 [(0, .ref 162), (1, .int 0), (2, .int 0), (3, .int 4)] [] (((zH0.set 37 (.inr (.inr (.inr (3, [.ref 44, .ref 6, .ref 76, .ref 78, .ref 80, .ref 88, .int 1, .int 0, .ref 96, .int 0, .int 0, .int 0, .ref 98, .ref 100, .int 0]))))).set 40 (.inr (.inr (.inr (6, [.int 1, .long 70644700037184, .int 0, .ref 82, .ref 84, .ref 86]))))).set 43 (.inr (.inl (16, [70644700037184])))) 0 0 (some (.int 0), (((((((zH0.set 37 (.inr (.inr (.inr (3, [.ref 44, .ref 6, .ref 76, .ref 78, .ref 80, .ref 88, .int 1, .int 0, .ref 96, .int 0, .int 0, .int 0, .ref 98, .ref 100, .int 0]))))).set 40 (.inr (.inr (.inr (6, [.int 1, .long 70644700037184, .int 0, .ref 82, .ref 84, .ref 86]))))).set 43 (.inr (.inl (16, [70644700037184])))).set 106 (.inl (2, 2, [1, 0]))).set 105 (.inl (0, 2, [0]))).set 107 (.inl (0, 132, [0, 0, 0, 0, 0, 0]))).set 109 (.inl (0, 22, [0]))), 0, 0) := zclosed (n := 227) (by decide +kernel)
set_option maxRecDepth 1000000 in
set_option maxHeartbeats 4000000 in
theorem zo_23_26 (xs : Nat → Int32) (h0 : xs 0 &&& 63 = 23) (h1 : xs 1 = 0) (h3 : xs 3 = 4) (h2 : xs 2 = 0) : zDone xs := by
  refine ⟨(((((((zH0.set 37 (.inr (.inr (.inr (3, [.ref 44, .ref 6, .ref 76, .ref 78, .ref 80, .ref 88, .int 1, .int 0, .ref 96, .int 0, .int 0, .int 0, .ref 98, .ref 100, .int 0]))))).set 40 (.inr (.inr (.inr (6, [.int 1, .long 70644700037184, .int 0, .ref 82, .ref 84, .ref 86]))))).set 43 (.inr (.inl (16, [70644700037184])))).set 106 (.inl (2, 2, [1, 0]))).set 105 (.inl (0, 2, [0]))).set 107 (.inl (0, 132, [0, 0, 0, 0, 0, 0]))).set 109 (.inl (0, 22, [0]))), 117, 29934, ?_, by decide, by decide⟩
  refine zT_gos (f := 200000) (pc2 := 37) (ls2 := [(4, .int 0), (3, .ref 232), (2, .ref 162), (1, .ref 0), (0, .ref 11)]) (st2 := [.int (xs 0)]) (h2 := zH0) (dc2 := 117) (ds2 := 29934) 9 rfl ?_
  refine zT_gos (f := 200000) (pc2 := 40) (ls2 := [(4, .int 0), (3, .ref 232), (2, .ref 162), (1, .ref 0), (0, .ref 11)]) (st2 := [.int ((xs 0) &&& (63 : Int32))]) (h2 := zH0) (dc2 := 117) (ds2 := 29934) 2 rfl ?_
  refine zT_val h0 ?_
  refine zT_gos (f := 200000) (pc2 := 1039) (ls2 := [(4, .int 0), (3, .ref 232), (2, .ref 162), (1, .ref 0), (0, .ref 11)]) (st2 := [.int (xs 1), .ref 0]) (h2 := zH0) (dc2 := 117) (ds2 := 29934) 7 rfl ?_
  refine zT_val h1 ?_
  refine zT_gos (f := 200000) (pc2 := 1053) (ls2 := [(4, .int 0), (3, .ref 232), (2, .ref 162), (1, .ref 0), (0, .ref 11)]) (st2 := [.int (xs 2), .int 0, .ref 0]) (h2 := zH0) (dc2 := 117) (ds2 := 29934) 7 rfl ?_
  refine zT_val h2 ?_
  refine zT_gos (f := 200000) (pc2 := 1059) (ls2 := [(4, .int 0), (3, .ref 232), (2, .ref 162), (1, .ref 0), (0, .ref 11)]) (st2 := [.int (xs 3), .int 0, .int 0, .ref 0]) (h2 := zH0) (dc2 := 117) (ds2 := 29934) 5 rfl ?_
  refine zT_val h3 ?_
  refine zT_call rfl rfl (zT_le (zg0_le 6 xs) zk_o_125) ?_
  refine zT_here (pc2 := 1062) rfl ?_
  refine zT_gos (f := 200000) (pc2 := 1069) (ls2 := [(4, .int 0), (3, .ref 232), (2, .ref 162), (1, .ref 0), (0, .ref 11)]) (st2 := [.int (xs 1), .ref 162, .int 0]) (h2 := (((zH0.set 37 (.inr (.inr (.inr (3, [.ref 44, .ref 6, .ref 76, .ref 78, .ref 80, .ref 88, .int 1, .int 0, .ref 96, .int 0, .int 0, .int 0, .ref 98, .ref 100, .int 0]))))).set 40 (.inr (.inr (.inr (6, [.int 1, .long 70644700037184, .int 0, .ref 82, .ref 84, .ref 86]))))).set 43 (.inr (.inl (16, [70644700037184]))))) (dc2 := 117) (ds2 := 29934) 6 rfl ?_
  refine zT_val h1 ?_
  refine zT_gos (f := 200000) (pc2 := 1083) (ls2 := [(4, .int 0), (3, .ref 232), (2, .ref 162), (1, .ref 0), (0, .ref 11)]) (st2 := [.int (xs 2), .int 0, .ref 162, .int 0]) (h2 := (((zH0.set 37 (.inr (.inr (.inr (3, [.ref 44, .ref 6, .ref 76, .ref 78, .ref 80, .ref 88, .int 1, .int 0, .ref 96, .int 0, .int 0, .int 0, .ref 98, .ref 100, .int 0]))))).set 40 (.inr (.inr (.inr (6, [.int 1, .long 70644700037184, .int 0, .ref 82, .ref 84, .ref 86]))))).set 43 (.inr (.inl (16, [70644700037184]))))) (dc2 := 117) (ds2 := 29934) 7 rfl ?_
  refine zT_val h2 ?_
  refine zT_gos (f := 200000) (pc2 := 1089) (ls2 := [(4, .int 0), (3, .ref 232), (2, .ref 162), (1, .ref 0), (0, .ref 11)]) (st2 := [.int (xs 3), .int 0, .int 0, .ref 162, .int 0]) (h2 := (((zH0.set 37 (.inr (.inr (.inr (3, [.ref 44, .ref 6, .ref 76, .ref 78, .ref 80, .ref 88, .int 1, .int 0, .ref 96, .int 0, .int 0, .int 0, .ref 98, .ref 100, .int 0]))))).set 40 (.inr (.inr (.inr (6, [.int 1, .long 70644700037184, .int 0, .ref 82, .ref 84, .ref 86]))))).set 43 (.inr (.inl (16, [70644700037184]))))) (dc2 := 117) (ds2 := 29934) 5 rfl ?_
  refine zT_val h3 ?_
  refine zT_call rfl rfl (zT_le (zg0_le 6 xs) zk_o_126) ?_
  refine zT_here (pc2 := 1092) rfl ?_
  refine zT_gos (f := 200000) (pc2 := 1811) (ls2 := [(4, .int 6), (3, .ref 232), (2, .ref 162), (1, .ref 0), (0, .ref 11)]) (st2 := [.int 1]) (h2 := (((((((zH0.set 37 (.inr (.inr (.inr (3, [.ref 44, .ref 6, .ref 76, .ref 78, .ref 80, .ref 88, .int 1, .int 0, .ref 96, .int 0, .int 0, .int 0, .ref 98, .ref 100, .int 0]))))).set 40 (.inr (.inr (.inr (6, [.int 1, .long 70644700037184, .int 0, .ref 82, .ref 84, .ref 86]))))).set 43 (.inr (.inl (16, [70644700037184])))).set 106 (.inl (2, 2, [1, 0]))).set 105 (.inl (0, 2, [0]))).set 107 (.inl (0, 132, [0, 0, 0, 0, 0, 0]))).set 109 (.inl (0, 22, [0])))) (dc2 := 117) (ds2 := 29934) 10 rfl ?_
  exact zT_ret rfl rfl
set_option maxRecDepth 1000000 in
set_option maxHeartbeats 4000000 in
theorem zo_23_27 (xs : Nat → Int32) (h0 : xs 0 &&& 63 = 23) (h1 : xs 1 = 0) (h3 : xs 3 = 5) (h2 : (xs 2).toInt < 0) : zDone xs := by
  refine ⟨(((((((zH0.set 37 (.inr (.inr (.inr (3, [.ref 44, .ref 6, .ref 76, .ref 78, .ref 80, .ref 88, .int 1, .int 0, .ref 96, .int 0, .int 0, .int 0, .ref 98, .ref 100, .int 0]))))).set 40 (.inr (.inr (.inr (6, [.int 1, .long 70644700037184, .int 0, .ref 82, .ref 84, .ref 86]))))).set 43 (.inr (.inl (16, [70644700037184])))).set 106 (.inl (2, 2, [1, 0]))).set 105 (.inl (0, 2, [0]))).set 107 (.inl (0, 132, [0, 0, 0, 0, 0, 0]))).set 109 (.inl (0, 22, [0]))), 117, 29934, ?_, by decide, by decide⟩
  refine zT_gos (f := 200000) (pc2 := 37) (ls2 := [(4, .int 0), (3, .ref 232), (2, .ref 162), (1, .ref 0), (0, .ref 11)]) (st2 := [.int (xs 0)]) (h2 := zH0) (dc2 := 117) (ds2 := 29934) 9 rfl ?_
  refine zT_gos (f := 200000) (pc2 := 40) (ls2 := [(4, .int 0), (3, .ref 232), (2, .ref 162), (1, .ref 0), (0, .ref 11)]) (st2 := [.int ((xs 0) &&& (63 : Int32))]) (h2 := zH0) (dc2 := 117) (ds2 := 29934) 2 rfl ?_
  refine zT_val h0 ?_
  refine zT_gos (f := 200000) (pc2 := 1039) (ls2 := [(4, .int 0), (3, .ref 232), (2, .ref 162), (1, .ref 0), (0, .ref 11)]) (st2 := [.int (xs 1), .ref 0]) (h2 := zH0) (dc2 := 117) (ds2 := 29934) 7 rfl ?_
  refine zT_val h1 ?_
  refine zT_gos (f := 200000) (pc2 := 1053) (ls2 := [(4, .int 0), (3, .ref 232), (2, .ref 162), (1, .ref 0), (0, .ref 11)]) (st2 := [.int (xs 2), .int 0, .ref 0]) (h2 := zH0) (dc2 := 117) (ds2 := 29934) 7 rfl ?_
  refine zT_gos (f := 200000) (pc2 := 1059) (ls2 := [(4, .int 0), (3, .ref 232), (2, .ref 162), (1, .ref 0), (0, .ref 11)]) (st2 := [.int (xs 3), .int (xs 2), .int 0, .ref 0]) (h2 := zH0) (dc2 := 117) (ds2 := 29934) 5 rfl ?_
  refine zT_val h3 ?_
  refine zT_call (v := some (.int (-99))) (h2 := (((zH0.set 37 (.inr (.inr (.inr (3, [.ref 44, .ref 6, .ref 76, .ref 78, .ref 80, .ref 88, .int 1, .int 0, .ref 96, .int 0, .int 0, .int 0, .ref 98, .ref 100, .int 0]))))).set 40 (.inr (.inr (.inr (6, [.int 1, .long 70644700037184, .int 0, .ref 82, .ref 84, .ref 86]))))).set 43 (.inr (.inl (16, [70644700037184]))))) (d1 := 0) (s1 := 0) rfl rfl ?_ ?_
  · refine zT_gos (f := 200000) (pc2 := 33) (ls2 := [(4, .ref 80), (0, .ref 0), (1, .int 0), (2, .int (xs 2)), (3, .int 5)]) (st2 := [.int (xs 2)]) (h2 := (((zH0.set 37 (.inr (.inr (.inr (3, [.ref 44, .ref 6, .ref 76, .ref 78, .ref 80, .ref 88, .int 1, .int 0, .ref 96, .int 0, .int 0, .int 0, .ref 98, .ref 100, .int 0]))))).set 40 (.inr (.inr (.inr (6, [.int 1, .long 70644700037184, .int 0, .ref 82, .ref 84, .ref 86]))))).set 43 (.inr (.inl (16, [70644700037184]))))) (dc2 := 0) (ds2 := 0) 14 rfl ?_
    refine zT_if0 true rfl (zc_lt_t (by show ((xs 2) : Int32).toInt < 0; omega)) ?_
    refine zT_here (pc2 := 45) rfl ?_
    refine zT_gos (f := 200000) (pc2 := 57) (ls2 := [(4, .ref 80), (0, .ref 0), (1, .int 0), (2, .int (xs 2)), (3, .int 5)]) (st2 := [.int (-99)]) (h2 := (((zH0.set 37 (.inr (.inr (.inr (3, [.ref 44, .ref 6, .ref 76, .ref 78, .ref 80, .ref 88, .int 1, .int 0, .ref 96, .int 0, .int 0, .int 0, .ref 98, .ref 100, .int 0]))))).set 40 (.inr (.inr (.inr (6, [.int 1, .long 70644700037184, .int 0, .ref 82, .ref 84, .ref 86]))))).set 43 (.inr (.inl (16, [70644700037184]))))) (dc2 := 0) (ds2 := 0) 2 rfl ?_
    exact zT_ret rfl rfl
  refine zT_here (pc2 := 1062) rfl ?_
  refine zT_gos (f := 200000) (pc2 := 1069) (ls2 := [(4, .int 0), (3, .ref 232), (2, .ref 162), (1, .ref 0), (0, .ref 11)]) (st2 := [.int (xs 1), .ref 162, .int (-99)]) (h2 := (((zH0.set 37 (.inr (.inr (.inr (3, [.ref 44, .ref 6, .ref 76, .ref 78, .ref 80, .ref 88, .int 1, .int 0, .ref 96, .int 0, .int 0, .int 0, .ref 98, .ref 100, .int 0]))))).set 40 (.inr (.inr (.inr (6, [.int 1, .long 70644700037184, .int 0, .ref 82, .ref 84, .ref 86]))))).set 43 (.inr (.inl (16, [70644700037184]))))) (dc2 := 117) (ds2 := 29934) 6 rfl ?_
  refine zT_val h1 ?_
  refine zT_gos (f := 200000) (pc2 := 1083) (ls2 := [(4, .int 0), (3, .ref 232), (2, .ref 162), (1, .ref 0), (0, .ref 11)]) (st2 := [.int (xs 2), .int 0, .ref 162, .int (-99)]) (h2 := (((zH0.set 37 (.inr (.inr (.inr (3, [.ref 44, .ref 6, .ref 76, .ref 78, .ref 80, .ref 88, .int 1, .int 0, .ref 96, .int 0, .int 0, .int 0, .ref 98, .ref 100, .int 0]))))).set 40 (.inr (.inr (.inr (6, [.int 1, .long 70644700037184, .int 0, .ref 82, .ref 84, .ref 86]))))).set 43 (.inr (.inl (16, [70644700037184]))))) (dc2 := 117) (ds2 := 29934) 7 rfl ?_
  refine zT_gos (f := 200000) (pc2 := 1089) (ls2 := [(4, .int 0), (3, .ref 232), (2, .ref 162), (1, .ref 0), (0, .ref 11)]) (st2 := [.int (xs 3), .int (xs 2), .int 0, .ref 162, .int (-99)]) (h2 := (((zH0.set 37 (.inr (.inr (.inr (3, [.ref 44, .ref 6, .ref 76, .ref 78, .ref 80, .ref 88, .int 1, .int 0, .ref 96, .int 0, .int 0, .int 0, .ref 98, .ref 100, .int 0]))))).set 40 (.inr (.inr (.inr (6, [.int 1, .long 70644700037184, .int 0, .ref 82, .ref 84, .ref 86]))))).set 43 (.inr (.inl (16, [70644700037184]))))) (dc2 := 117) (ds2 := 29934) 5 rfl ?_
  refine zT_val h3 ?_
  refine zT_call (v := some (.int (-99))) (h2 := (((((((zH0.set 37 (.inr (.inr (.inr (3, [.ref 44, .ref 6, .ref 76, .ref 78, .ref 80, .ref 88, .int 1, .int 0, .ref 96, .int 0, .int 0, .int 0, .ref 98, .ref 100, .int 0]))))).set 40 (.inr (.inr (.inr (6, [.int 1, .long 70644700037184, .int 0, .ref 82, .ref 84, .ref 86]))))).set 43 (.inr (.inl (16, [70644700037184])))).set 106 (.inl (2, 2, [1, 0]))).set 105 (.inl (0, 2, [0]))).set 107 (.inl (0, 132, [0, 0, 0, 0, 0, 0]))).set 109 (.inl (0, 22, [0])))) (d1 := 0) (s1 := 0) rfl rfl ?_ ?_
  · refine zT_gos (f := 200000) (pc2 := 7) (ls2 := [(0, .ref 162), (1, .int 0), (2, .int (xs 2)), (3, .int 5)]) (st2 := [.int 0, .ref 162]) (h2 := (((zH0.set 37 (.inr (.inr (.inr (3, [.ref 44, .ref 6, .ref 76, .ref 78, .ref 80, .ref 88, .int 1, .int 0, .ref 96, .int 0, .int 0, .int 0, .ref 98, .ref 100, .int 0]))))).set 40 (.inr (.inr (.inr (6, [.int 1, .long 70644700037184, .int 0, .ref 82, .ref 84, .ref 86]))))).set 43 (.inr (.inl (16, [70644700037184]))))) (dc2 := 0) (ds2 := 0) 5 rfl ?_
    refine zT_call rfl rfl (zT_le (zg0_le 6 xs) zk_o_19) ?_
    refine zT_here (pc2 := 10) rfl ?_
    refine zT_gos (f := 200000) (pc2 := 18) (ls2 := [(4, .int 0), (0, .ref 162), (1, .int 0), (2, .int (xs 2)), (3, .int 5)]) (st2 := [.int (xs 2)]) (h2 := (((((((zH0.set 37 (.inr (.inr (.inr (3, [.ref 44, .ref 6, .ref 76, .ref 78, .ref 80, .ref 88, .int 1, .int 0, .ref 96, .int 0, .int 0, .int 0, .ref 98, .ref 100, .int 0]))))).set 40 (.inr (.inr (.inr (6, [.int 1, .long 70644700037184, .int 0, .ref 82, .ref 84, .ref 86]))))).set 43 (.inr (.inl (16, [70644700037184])))).set 106 (.inl (2, 2, [1, 0]))).set 105 (.inl (0, 2, [0]))).set 107 (.inl (0, 132, [0, 0, 0, 0, 0, 0]))).set 109 (.inl (0, 22, [0])))) (dc2 := 0) (ds2 := 0) 4 rfl ?_
    refine zT_if0 true rfl (zc_lt_t (by show ((xs 2) : Int32).toInt < 0; omega)) ?_
    refine zT_here (pc2 := 34) rfl ?_
    refine zT_gos (f := 200000) (pc2 := 54) (ls2 := [(4, .int 0), (0, .ref 162), (1, .int 0), (2, .int (xs 2)), (3, .int 5)]) (st2 := [.int (-99)]) (h2 := (((((((zH0.set 37 (.inr (.inr (.inr (3, [.ref 44, .ref 6, .ref 76, .ref 78, .ref 80, .ref 88, .int 1, .int 0, .ref 96, .int 0, .int 0, .int 0, .ref 98, .ref 100, .int 0]))))).set 40 (.inr (.inr (.inr (6, [.int 1, .long 70644700037184, .int 0, .ref 82, .ref 84, .ref 86]))))).set 43 (.inr (.inl (16, [70644700037184])))).set 106 (.inl (2, 2, [1, 0]))).set 105 (.inl (0, 2, [0]))).set 107 (.inl (0, 132, [0, 0, 0, 0, 0, 0]))).set 109 (.inl (0, 22, [0])))) (dc2 := 0) (ds2 := 0) 2 rfl ?_
    exact zT_ret rfl rfl
  refine zT_here (pc2 := 1092) rfl ?_
  refine zT_gos (f := 200000) (pc2 := 1811) (ls2 := [(4, .int 6), (3, .ref 232), (2, .ref 162), (1, .ref 0), (0, .ref 11)]) (st2 := [.int 1]) (h2 := (((((((zH0.set 37 (.inr (.inr (.inr (3, [.ref 44, .ref 6, .ref 76, .ref 78, .ref 80, .ref 88, .int 1, .int 0, .ref 96, .int 0, .int 0, .int 0, .ref 98, .ref 100, .int 0]))))).set 40 (.inr (.inr (.inr (6, [.int 1, .long 70644700037184, .int 0, .ref 82, .ref 84, .ref 86]))))).set 43 (.inr (.inl (16, [70644700037184])))).set 106 (.inl (2, 2, [1, 0]))).set 105 (.inl (0, 2, [0]))).set 107 (.inl (0, 132, [0, 0, 0, 0, 0, 0]))).set 109 (.inl (0, 22, [0])))) (dc2 := 117) (ds2 := 29934) 10 rfl ?_
  exact zT_ret rfl rfl
set_option maxRecDepth 1000000 in
set_option maxHeartbeats 4000000 in
theorem zo_23_28 (xs : Nat → Int32) (h0 : xs 0 &&& 63 = 23) (h1 : xs 1 = 0) (h3 : xs 3 = 5) (h2 : 0 < (xs 2).toInt) : zDone xs := by
  refine ⟨(((((((zH0.set 37 (.inr (.inr (.inr (3, [.ref 44, .ref 6, .ref 76, .ref 78, .ref 80, .ref 88, .int 1, .int 0, .ref 96, .int 0, .int 0, .int 0, .ref 98, .ref 100, .int 0]))))).set 40 (.inr (.inr (.inr (6, [.int 1, .long 70644700037184, .int 0, .ref 82, .ref 84, .ref 86]))))).set 43 (.inr (.inl (16, [70644700037184])))).set 106 (.inl (2, 2, [1, 0]))).set 105 (.inl (0, 2, [0]))).set 107 (.inl (0, 132, [0, 0, 0, 0, 0, 0]))).set 109 (.inl (0, 22, [0]))), 117, 29934, ?_, by decide, by decide⟩
  refine zT_gos (f := 200000) (pc2 := 37) (ls2 := [(4, .int 0), (3, .ref 232), (2, .ref 162), (1, .ref 0), (0, .ref 11)]) (st2 := [.int (xs 0)]) (h2 := zH0) (dc2 := 117) (ds2 := 29934) 9 rfl ?_
  refine zT_gos (f := 200000) (pc2 := 40) (ls2 := [(4, .int 0), (3, .ref 232), (2, .ref 162), (1, .ref 0), (0, .ref 11)]) (st2 := [.int ((xs 0) &&& (63 : Int32))]) (h2 := zH0) (dc2 := 117) (ds2 := 29934) 2 rfl ?_
  refine zT_val h0 ?_
  refine zT_gos (f := 200000) (pc2 := 1039) (ls2 := [(4, .int 0), (3, .ref 232), (2, .ref 162), (1, .ref 0), (0, .ref 11)]) (st2 := [.int (xs 1), .ref 0]) (h2 := zH0) (dc2 := 117) (ds2 := 29934) 7 rfl ?_
  refine zT_val h1 ?_
  refine zT_gos (f := 200000) (pc2 := 1053) (ls2 := [(4, .int 0), (3, .ref 232), (2, .ref 162), (1, .ref 0), (0, .ref 11)]) (st2 := [.int (xs 2), .int 0, .ref 0]) (h2 := zH0) (dc2 := 117) (ds2 := 29934) 7 rfl ?_
  refine zT_gos (f := 200000) (pc2 := 1059) (ls2 := [(4, .int 0), (3, .ref 232), (2, .ref 162), (1, .ref 0), (0, .ref 11)]) (st2 := [.int (xs 3), .int (xs 2), .int 0, .ref 0]) (h2 := zH0) (dc2 := 117) (ds2 := 29934) 5 rfl ?_
  refine zT_val h3 ?_
  refine zT_call (v := some (.int (-99))) (h2 := (((zH0.set 37 (.inr (.inr (.inr (3, [.ref 44, .ref 6, .ref 76, .ref 78, .ref 80, .ref 88, .int 1, .int 0, .ref 96, .int 0, .int 0, .int 0, .ref 98, .ref 100, .int 0]))))).set 40 (.inr (.inr (.inr (6, [.int 1, .long 70644700037184, .int 0, .ref 82, .ref 84, .ref 86]))))).set 43 (.inr (.inl (16, [70644700037184]))))) (d1 := 0) (s1 := 0) rfl rfl ?_ ?_
  · refine zT_gos (f := 200000) (pc2 := 33) (ls2 := [(4, .ref 80), (0, .ref 0), (1, .int 0), (2, .int (xs 2)), (3, .int 5)]) (st2 := [.int (xs 2)]) (h2 := (((zH0.set 37 (.inr (.inr (.inr (3, [.ref 44, .ref 6, .ref 76, .ref 78, .ref 80, .ref 88, .int 1, .int 0, .ref 96, .int 0, .int 0, .int 0, .ref 98, .ref 100, .int 0]))))).set 40 (.inr (.inr (.inr (6, [.int 1, .long 70644700037184, .int 0, .ref 82, .ref 84, .ref 86]))))).set 43 (.inr (.inl (16, [70644700037184]))))) (dc2 := 0) (ds2 := 0) 14 rfl ?_
    refine zT_if0 false rfl (zc_lt_f (by show ((xs 2) : Int32).toInt ≥ 0; omega)) ?_
    refine zT_here (pc2 := 36) rfl ?_
    refine zT_gos (f := 200000) (pc2 := 42) (ls2 := [(4, .ref 80), (0, .ref 0), (1, .int 0), (2, .int (xs 2)), (3, .int 5)]) (st2 := [.int 0, .int (xs 2)]) (h2 := (((zH0.set 37 (.inr (.inr (.inr (3, [.ref 44, .ref 6, .ref 76, .ref 78, .ref 80, .ref 88, .int 1, .int 0, .ref 96, .int 0, .int 0, .int 0, .ref 98, .ref 100, .int 0]))))).set 40 (.inr (.inr (.inr (6, [.int 1, .long 70644700037184, .int 0, .ref 82, .ref 84, .ref 86]))))).set 43 (.inr (.inl (16, [70644700037184]))))) (dc2 := 0) (ds2 := 0) 3 rfl ?_
    refine zT_if2 false rfl (zc_le_f (by show ((xs 2) : Int32).toInt > 0; omega)) ?_
    refine zT_here (pc2 := 45) rfl ?_
    refine zT_gos (f := 200000) (pc2 := 57) (ls2 := [(4, .ref 80), (0, .ref 0), (1, .int 0), (2, .int (xs 2)), (3, .int 5)]) (st2 := [.int (-99)]) (h2 := (((zH0.set 37 (.inr (.inr (.inr (3, [.ref 44, .ref 6, .ref 76, .ref 78, .ref 80, .ref 88, .int 1, .int 0, .ref 96, .int 0, .int 0, .int 0, .ref 98, .ref 100, .int 0]))))).set 40 (.inr (.inr (.inr (6, [.int 1, .long 70644700037184, .int 0, .ref 82, .ref 84, .ref 86]))))).set 43 (.inr (.inl (16, [70644700037184]))))) (dc2 := 0) (ds2 := 0) 2 rfl ?_
    exact zT_ret rfl rfl
  refine zT_here (pc2 := 1062) rfl ?_
  refine zT_gos (f := 200000) (pc2 := 1069) (ls2 := [(4, .int 0), (3, .ref 232), (2, .ref 162), (1, .ref 0), (0, .ref 11)]) (st2 := [.int (xs 1), .ref 162, .int (-99)]) (h2 := (((zH0.set 37 (.inr (.inr (.inr (3, [.ref 44, .ref 6, .ref 76, .ref 78, .ref 80, .ref 88, .int 1, .int 0, .ref 96, .int 0, .int 0, .int 0, .ref 98, .ref 100, .int 0]))))).set 40 (.inr (.inr (.inr (6, [.int 1, .long 70644700037184, .int 0, .ref 82, .ref 84, .ref 86]))))).set 43 (.inr (.inl (16, [70644700037184]))))) (dc2 := 117) (ds2 := 29934) 6 rfl ?_
  refine zT_val h1 ?_
  refine zT_gos (f := 200000) (pc2 := 1083) (ls2 := [(4, .int 0), (3, .ref 232), (2, .ref 162), (1, .ref 0), (0, .ref 11)]) (st2 := [.int (xs 2), .int 0, .ref 162, .int (-99)]) (h2 := (((zH0.set 37 (.inr (.inr (.inr (3, [.ref 44, .ref 6, .ref 76, .ref 78, .ref 80, .ref 88, .int 1, .int 0, .ref 96, .int 0, .int 0, .int 0, .ref 98, .ref 100, .int 0]))))).set 40 (.inr (.inr (.inr (6, [.int 1, .long 70644700037184, .int 0, .ref 82, .ref 84, .ref 86]))))).set 43 (.inr (.inl (16, [70644700037184]))))) (dc2 := 117) (ds2 := 29934) 7 rfl ?_
  refine zT_gos (f := 200000) (pc2 := 1089) (ls2 := [(4, .int 0), (3, .ref 232), (2, .ref 162), (1, .ref 0), (0, .ref 11)]) (st2 := [.int (xs 3), .int (xs 2), .int 0, .ref 162, .int (-99)]) (h2 := (((zH0.set 37 (.inr (.inr (.inr (3, [.ref 44, .ref 6, .ref 76, .ref 78, .ref 80, .ref 88, .int 1, .int 0, .ref 96, .int 0, .int 0, .int 0, .ref 98, .ref 100, .int 0]))))).set 40 (.inr (.inr (.inr (6, [.int 1, .long 70644700037184, .int 0, .ref 82, .ref 84, .ref 86]))))).set 43 (.inr (.inl (16, [70644700037184]))))) (dc2 := 117) (ds2 := 29934) 5 rfl ?_
  refine zT_val h3 ?_
  refine zT_call (v := some (.int (-99))) (h2 := (((((((zH0.set 37 (.inr (.inr (.inr (3, [.ref 44, .ref 6, .ref 76, .ref 78, .ref 80, .ref 88, .int 1, .int 0, .ref 96, .int 0, .int 0, .int 0, .ref 98, .ref 100, .int 0]))))).set 40 (.inr (.inr (.inr (6, [.int 1, .long 70644700037184, .int 0, .ref 82, .ref 84, .ref 86]))))).set 43 (.inr (.inl (16, [70644700037184])))).set 106 (.inl (2, 2, [1, 0]))).set 105 (.inl (0, 2, [0]))).set 107 (.inl (0, 132, [0, 0, 0, 0, 0, 0]))).set 109 (.inl (0, 22, [0])))) (d1 := 0) (s1 := 0) rfl rfl ?_ ?_
  · refine zT_gos (f := 200000) (pc2 := 7) (ls2 := [(0, .ref 162), (1, .int 0), (2, .int (xs 2)), (3, .int 5)]) (st2 := [.int 0, .ref 162]) (h2 := (((zH0.set 37 (.inr (.inr (.inr (3, [.ref 44, .ref 6, .ref 76, .ref 78, .ref 80, .ref 88, .int 1, .int 0, .ref 96, .int 0, .int 0, .int 0, .ref 98, .ref 100, .int 0]))))).set 40 (.inr (.inr (.inr (6, [.int 1, .long 70644700037184, .int 0, .ref 82, .ref 84, .ref 86]))))).set 43 (.inr (.inl (16, [70644700037184]))))) (dc2 := 0) (ds2 := 0) 5 rfl ?_
    refine zT_call rfl rfl (zT_le (zg0_le 6 xs) zk_o_19) ?_
    refine zT_here (pc2 := 10) rfl ?_
    refine zT_gos (f := 200000) (pc2 := 18) (ls2 := [(4, .int 0), (0, .ref 162), (1, .int 0), (2, .int (xs 2)), (3, .int 5)]) (st2 := [.int (xs 2)]) (h2 := (((((((zH0.set 37 (.inr (.inr (.inr (3, [.ref 44, .ref 6, .ref 76, .ref 78, .ref 80, .ref 88, .int 1, .int 0, .ref 96, .int 0, .int 0, .int 0, .ref 98, .ref 100, .int 0]))))).set 40 (.inr (.inr (.inr (6, [.int 1, .long 70644700037184, .int 0, .ref 82, .ref 84, .ref 86]))))).set 43 (.inr (.inl (16, [70644700037184])))).set 106 (.inl (2, 2, [1, 0]))).set 105 (.inl (0, 2, [0]))).set 107 (.inl (0, 132, [0, 0, 0, 0, 0, 0]))).set 109 (.inl (0, 22, [0])))) (dc2 := 0) (ds2 := 0) 4 rfl ?_
    refine zT_if0 false rfl (zc_lt_f (by show ((xs 2) : Int32).toInt ≥ 0; omega)) ?_
    refine zT_here (pc2 := 21) rfl ?_
    refine zT_gos (f := 200000) (pc2 := 24) (ls2 := [(4, .int 0), (0, .ref 162), (1, .int 0), (2, .int (xs 2)), (3, .int 5)]) (st2 := [.int 0, .int (xs 2)]) (h2 := (((((((zH0.set 37 (.inr (.inr (.inr (3, [.ref 44, .ref 6, .ref 76, .ref 78, .ref 80, .ref 88, .int 1, .int 0, .ref 96, .int 0, .int 0, .int 0, .ref 98, .ref 100, .int 0]))))).set 40 (.inr (.inr (.inr (6, [.int 1, .long 70644700037184, .int 0, .ref 82, .ref 84, .ref 86]))))).set 43 (.inr (.inl (16, [70644700037184])))).set 106 (.inl (2, 2, [1, 0]))).set 105 (.inl (0, 2, [0]))).set 107 (.inl (0, 132, [0, 0, 0, 0, 0, 0]))).set 109 (.inl (0, 22, [0])))) (dc2 := 0) (ds2 := 0) 2 rfl ?_
    refine zT_if2 true rfl (zc_gt_t (by show ((xs 2) : Int32).toInt > 0; omega)) ?_
    refine zT_here (pc2 := 34) rfl ?_
    refine zT_gos (f := 200000) (pc2 := 54) (ls2 := [(4, .int 0), (0, .ref 162), (1, .int 0), (2, .int (xs 2)), (3, .int 5)]) (st2 := [.int (-99)]) (h2 := (((((((zH0.set 37 (.inr (.inr (.inr (3, [.ref 44, .ref 6, .ref 76, .ref 78, .ref 80, .ref 88, .int 1, .int 0, .ref 96, .int 0, .int 0, .int 0, .ref 98, .ref 100, .int 0]))))).set 40 (.inr (.inr (.inr (6, [.int 1, .long 70644700037184, .int 0, .ref 82, .ref 84, .ref 86]))))).set 43 (.inr (.inl (16, [70644700037184])))).set 106 (.inl (2, 2, [1, 0]))).set 105 (.inl (0, 2, [0]))).set 107 (.inl (0, 132, [0, 0, 0, 0, 0, 0]))).set 109 (.inl (0, 22, [0])))) (dc2 := 0) (ds2 := 0) 2 rfl ?_
    exact zT_ret rfl rfl
  refine zT_here (pc2 := 1092) rfl ?_
  refine zT_gos (f := 200000) (pc2 := 1811) (ls2 := [(4, .int 6), (3, .ref 232), (2, .ref 162), (1, .ref 0), (0, .ref 11)]) (st2 := [.int 1]) (h2 := (((((((zH0.set 37 (.inr (.inr (.inr (3, [.ref 44, .ref 6, .ref 76, .ref 78, .ref 80, .ref 88, .int 1, .int 0, .ref 96, .int 0, .int 0, .int 0, .ref 98, .ref 100, .int 0]))))).set 40 (.inr (.inr (.inr (6, [.int 1, .long 70644700037184, .int 0, .ref 82, .ref 84, .ref 86]))))).set 43 (.inr (.inl (16, [70644700037184])))).set 106 (.inl (2, 2, [1, 0]))).set 105 (.inl (0, 2, [0]))).set 107 (.inl (0, 132, [0, 0, 0, 0, 0, 0]))).set 109 (.inl (0, 22, [0])))) (dc2 := 117) (ds2 := 29934) 10 rfl ?_
  exact zT_ret rfl rfl
set_option maxRecDepth 1000000 in
theorem zk_o_127 : zT zg0 zF zP 124 0 [(0, .ref 0), (1, .int 0), (2, .int 0), (3, .int 5)] [] zH0 0 0 (some (.int 0), (((zH0.set 37 (.inr (.inr (.inr (3, [.ref 44, .ref 6, .ref 76, .ref 78, .ref 80, .ref 88, .int 1, .int 0, .ref 96, .int 0, .int 0, .int 0, .ref 98, .ref 100, .int 0]))))).set 40 (.inr (.inr (.inr (6, [.int 1, .long 70644700037184, .int 0, .ref 82, .ref 84, .ref 86]))))).set 43 (.inr (.inl (16, [70644700037184])))), 0, 0) := zclosed (n := 148) (by decide +kernel)
set_option maxRecDepth 1000000 in
theorem zk_o_128 : zT zg0 zF zP 255 0 [(0, .ref 162), (1, .int 0), (2, .int 0), (3, .int 5)] [] (((zH0.set 37 (.inr (.inr (.inr (3, [.ref 44, .ref 6, .ref 76, .ref 78, .ref 80, .ref 88, .int 1, .int 0, .ref 96, .int 0, .int 0, .int 0, .ref 98, .ref 100, .int 0]))))).set 40 (.inr (.inr (.inr (6, [.int 1, .long 70644700037184, .int 0, .ref 82, .ref 84, .ref 86]))))).set 43 (.inr (.inl (16, [70644700037184])))) 0 0 (some (.int 0), (((((((zH0.set 37 (.inr (.inr (.inr (3, [.ref 44, .ref 6, .ref 76, .ref 78, .ref 80, .ref 88, .int 1, .int 0, .ref 96, .int 0, .int 0, .int 0, .ref 98, .ref 100, .int 0]))))).set 40 (.inr (.inr (.inr (6, [.int 1, .long 70644700037184, .int 0, .ref 82, .ref 84, .ref 86]))))).set 43 (.inr (.inl (16, [70644700037184])))).set 106 (.inl (2, 2, [1, 0]))).set 105 (.inl (0, 2, [0]))).set 107 (.inl (0, 132, [0, 0, 0, 0, 0, 0]))).set 109 (.inl (0, 22, [0]))), 0, 0) := zclosed (n := 227) (by decide +kernel)
set_option maxRecDepth 1000000 in
set_option maxHeartbeats 4000000 in
theorem zo_23_29 (xs : Nat → Int32) (h0 : xs 0 &&& 63 = 23) (h1 : xs 1 = 0) (h3 : xs 3 = 5) (h2 : xs 2 = 0) : zDone xs := by
  refine ⟨(((((((zH0.set 37 (.inr (.inr (.inr (3, [.ref 44, .ref 6, .ref 76, .ref 78, .ref 80, .ref 88, .int 1, .int 0, .ref 96, .int 0, .int 0, .int 0, .ref 98, .ref 100, .int 0]))))).set 40 (.inr (.inr (.inr (6, [.int 1, .long 70644700037184, .int 0, .ref 82, .ref 84, .ref 86]))))).set 43 (.inr (.inl (16, [70644700037184])))).set 106 (.inl (2, 2, [1, 0]))).set 105 (.inl (0, 2, [0]))).set 107 (.inl (0, 132, [0, 0, 0, 0, 0, 0]))).set 109 (.inl (0, 22, [0]))), 117, 29934, ?_, by decide, by decide⟩
  refine zT_gos (f := 200000) (pc2 := 37) (ls2 := [(4, .int 0), (3, .ref 232), (2, .ref 162), (1, .ref 0), (0, .ref 11)]) (st2 := [.int (xs 0)]) (h2 := zH0) (dc2 := 117) (ds2 := 29934) 9 rfl ?_
  refine zT_gos (f := 200000) (pc2 := 40) (ls2 := [(4, .int 0), (3, .ref 232), (2, .ref 162), (1, .ref 0), (0, .ref 11)]) (st2 := [.int ((xs 0) &&& (63 : Int32))]) (h2 := zH0) (dc2 := 117) (ds2 := 29934) 2 rfl ?_
  refine zT_val h0 ?_
  refine zT_gos (f := 200000) (pc2 := 1039) (ls2 := [(4, .int 0), (3, .ref 232), (2, .ref 162), (1, .ref 0), (0, .ref 11)]) (st2 := [.int (xs 1), .ref 0]) (h2 := zH0) (dc2 := 117) (ds2 := 29934) 7 rfl ?_
  refine zT_val h1 ?_
  refine zT_gos (f := 200000) (pc2 := 1053) (ls2 := [(4, .int 0), (3, .ref 232), (2, .ref 162), (1, .ref 0), (0, .ref 11)]) (st2 := [.int (xs 2), .int 0, .ref 0]) (h2 := zH0) (dc2 := 117) (ds2 := 29934) 7 rfl ?_
  refine zT_val h2 ?_
  refine zT_gos (f := 200000) (pc2 := 1059) (ls2 := [(4, .int 0), (3, .ref 232), (2, .ref 162), (1, .ref 0), (0, .ref 11)]) (st2 := [.int (xs 3), .int 0, .int 0, .ref 0]) (h2 := zH0) (dc2 := 117) (ds2 := 29934) 5 rfl ?_
  refine zT_val h3 ?_
  refine zT_call rfl rfl (zT_le (zg0_le 6 xs) zk_o_127) ?_
  refine zT_here (pc2 := 1062) rfl ?_
  refine zT_gos (f := 200000) (pc2 := 1069) (ls2 := [(4, .int 0), (3, .ref 232), (2, .ref 162), (1, .ref 0), (0, .ref 11)]) (st2 := [.int (xs 1), .ref 162, .int 0]) (h2 := (((zH0.set 37 (.inr (.inr (.inr (3, [.ref 44, .ref 6, .ref 76, .ref 78, .ref 80, .ref 88, .int 1, .int 0, .ref 96, .int 0, .int 0, .int 0, .ref 98, .ref 100, .int 0]))))).set 40 (.inr (.inr (.inr (6, [.int 1, .long 70644700037184, .int 0, .ref 82, .ref 84, .ref 86]))))).set 43 (.inr (.inl (16, [70644700037184]))))) (dc2 := 117) (ds2 := 29934) 6 rfl ?_
  refine zT_val h1 ?_
  refine zT_gos (f := 200000) (pc2 := 1083) (ls2 := [(4, .int 0), (3, .ref 232), (2, .ref 162), (1, .ref 0), (0, .ref 11)]) (st2 := [.int (xs 2), .int 0, .ref 162, .int 0]) (h2 := (((zH0.set 37 (.inr (.inr (.inr (3, [.ref 44, .ref 6, .ref 76, .ref 78, .ref 80, .ref 88, .int 1, .int 0, .ref 96, .int 0, .int 0, .int 0, .ref 98, .ref 100, .int 0]))))).set 40 (.inr (.inr (.inr (6, [.int 1, .long 70644700037184, .int 0, .ref 82, .ref 84, .ref 86]))))).set 43 (.inr (.inl (16, [70644700037184]))))) (dc2 := 117) (ds2 := 29934) 7 rfl ?_
  refine zT_val h2 ?_
  refine zT_gos (f := 200000) (pc2 := 1089) (ls2 := [(4, .int 0), (3, .ref 232), (2, .ref 162), (1, .ref 0), (0, .ref 11)]) (st2 := [.int (xs 3), .int 0, .int 0, .ref 162, .int 0]) (h2 := (((zH0.set 37 (.inr (.inr (.inr (3, [.ref 44, .ref 6, .ref 76, .ref 78, .ref 80, .ref 88, .int 1, .int 0, .ref 96, .int 0, .int 0, .int 0, .ref 98, .ref 100, .int 0]))))).set 40 (.inr (.inr (.inr (6, [.int 1, .long 70644700037184, .int 0, .ref 82, .ref 84, .ref 86]))))).set 43 (.inr (.inl (16, [70644700037184]))))) (dc2 := 117) (ds2 := 29934) 5 rfl ?_
  refine zT_val h3 ?_
  refine zT_call rfl rfl (zT_le (zg0_le 6 xs) zk_o_128) ?_
  refine zT_here (pc2 := 1092) rfl ?_
  refine zT_gos (f := 200000) (pc2 := 1811) (ls2 := [(4, .int 6), (3, .ref 232), (2, .ref 162), (1, .ref 0), (0, .ref 11)]) (st2 := [.int 1]) (h2 := (((((((zH0.set 37 (.inr (.inr (.inr (3, [.ref 44, .ref 6, .ref 76, .ref 78, .ref 80, .ref 88, .int 1, .int 0, .ref 96, .int 0, .int 0, .int 0, .ref 98, .ref 100, .int 0]))))).set 40 (.inr (.inr (.inr (6, [.int 1, .long 70644700037184, .int 0, .ref 82, .ref 84, .ref 86]))))).set 43 (.inr (.inl (16, [70644700037184])))).set 106 (.inl (2, 2, [1, 0]))).set 105 (.inl (0, 2, [0]))).set 107 (.inl (0, 132, [0, 0, 0, 0, 0, 0]))).set 109 (.inl (0, 22, [0])))) (dc2 := 117) (ds2 := 29934) 10 rfl ?_
  exact zT_ret rfl rfl
set_option maxRecDepth 1000000 in
set_option maxHeartbeats 4000000 in
theorem zo_23_30 (xs : Nat → Int32) (h0 : xs 0 &&& 63 = 23) (h1 : (xs 1).toInt ≠ 0) (h3 : xs 3 = 0) (h2 : (xs 2).toInt < 0) : zDone xs := by
  refine ⟨(((((((zH0.set 37 (.inr (.inr (.inr (3, [.ref 44, .ref 6, .ref 76, .ref 78, .ref 80, .ref 88, .int 1, .int 0, .ref 96, .int 0, .int 0, .int 0, .ref 98, .ref 100, .int 0]))))).set 44 (.inr (.inr (.inr (6, [.int 1, .long 70644700037184, .int 0, .ref 90, .ref 92, .ref 94]))))).set 47 (.inr (.inl (16, [70644700037184])))).set 106 (.inl (2, 2, [0, 1]))).set 105 (.inl (0, 2, [0, 0]))).set 107 (.inl (0, 132, [0, 0, 0, 0, 0, 0, 0, 0, 0, 0, 0, 0, 0, 0, 0, 0, 0, 0, 0, 0, 0, 0, 0, 0, 0, 0, 0, 0, 0, 0, 0, 0, 0, 0, 0, 0, 0, 0, 0, 0, 0, 0, 0, 0, 0, 0, 0, 0, 0, 0, 0, 0, 0, 0, 0, 0, 0, 0, 0, 0, 0, 0, 0, 0, 0, 0, 0, 0, 0, 0, 0, 0]))).set 109 (.inl (0, 22, [0, 0, 0, 0, 0, 0, 0, 0, 0, 0, 0, 0]))), 117, 29934, ?_, by decide, by decide⟩
  refine zT_gos (f := 200000) (pc2 := 37) (ls2 := [(4, .int 0), (3, .ref 232), (2, .ref 162), (1, .ref 0), (0, .ref 11)]) (st2 := [.int (xs 0)]) (h2 := zH0) (dc2 := 117) (ds2 := 29934) 9 rfl ?_
  refine zT_gos (f := 200000) (pc2 := 40) (ls2 := [(4, .int 0), (3, .ref 232), (2, .ref 162), (1, .ref 0), (0, .ref 11)]) (st2 := [.int ((xs 0) &&& (63 : Int32))]) (h2 := zH0) (dc2 := 117) (ds2 := 29934) 2 rfl ?_
  refine zT_val h0 ?_
  refine zT_gos (f := 200000) (pc2 := 1039) (ls2 := [(4, .int 0), (3, .ref 232), (2, .ref 162), (1, .ref 0), (0, .ref 11)]) (st2 := [.int (xs 1), .ref 0]) (h2 := zH0) (dc2 := 117) (ds2 := 29934) 7 rfl ?_
  refine zT_if0 false rfl (zc_eq_f (by show ((xs 1) : Int32).toInt ≠ 0; omega)) ?_
  refine zT_here (pc2 := 1042) rfl ?_
  refine zT_gos (f := 200000) (pc2 := 1053) (ls2 := [(4, .int 0), (3, .ref 232), (2, .ref 162), (1, .ref 0), (0, .ref 11)]) (st2 := [.int (xs 2), .int 1, .ref 0]) (h2 := zH0) (dc2 := 117) (ds2 := 29934) 7 rfl ?_
  refine zT_gos (f := 200000) (pc2 := 1059) (ls2 := [(4, .int 0), (3, .ref 232), (2, .ref 162), (1, .ref 0), (0, .ref 11)]) (st2 := [.int (xs 3), .int (xs 2), .int 1, .ref 0]) (h2 := zH0) (dc2 := 117) (ds2 := 29934) 5 rfl ?_
  refine zT_val h3 ?_
  refine zT_call (v := some (.int (-99))) (h2 := (((zH0.set 37 (.inr (.inr (.inr (3, [.ref 44, .ref 6, .ref 76, .ref 78, .ref 80, .ref 88, .int 1, .int 0, .ref 96, .int 0, .int 0, .int 0, .ref 98, .ref 100, .int 0]))))).set 44 (.inr (.inr (.inr (6, [.int 1, .long 70644700037184, .int 0, .ref 90, .ref 92, .ref 94]))))).set 47 (.inr (.inl (16, [70644700037184]))))) (d1 := 0) (s1 := 0) rfl rfl ?_ ?_
  · refine zT_gos (f := 200000) (pc2 := 33) (ls2 := [(4, .ref 88), (0, .ref 0), (1, .int 1), (2, .int (xs 2)), (3, .int 0)]) (st2 := [.int (xs 2)]) (h2 := (((zH0.set 37 (.inr (.inr (.inr (3, [.ref 44, .ref 6, .ref 76, .ref 78, .ref 80, .ref 88, .int 1, .int 0, .ref 96, .int 0, .int 0, .int 0, .ref 98, .ref 100, .int 0]))))).set 44 (.inr (.inr (.inr (6, [.int 1, .long 70644700037184, .int 0, .ref 90, .ref 92, .ref 94]))))).set 47 (.inr (.inl (16, [70644700037184]))))) (dc2 := 0) (ds2 := 0) 14 rfl ?_
    refine zT_if0 true rfl (zc_lt_t (by show ((xs 2) : Int32).toInt < 0; omega)) ?_
    refine zT_here (pc2 := 45) rfl ?_
    refine zT_gos (f := 200000) (pc2 := 57) (ls2 := [(4, .ref 88), (0, .ref 0), (1, .int 1), (2, .int (xs 2)), (3, .int 0)]) (st2 := [.int (-99)]) (h2 := (((zH0.set 37 (.inr (.inr (.inr (3, [.ref 44, .ref 6, .ref 76, .ref 78, .ref 80, .ref 88, .int 1, .int 0, .ref 96, .int 0, .int 0, .int 0, .ref 98, .ref 100, .int 0]))))).set 44 (.inr (.inr (.inr (6, [.int 1, .long 70644700037184, .int 0, .ref 90, .ref 92, .ref 94]))))).set 47 (.inr (.inl (16, [70644700037184]))))) (dc2 := 0) (ds2 := 0) 2 rfl ?_
    exact zT_ret rfl rfl
  refine zT_here (pc2 := 1062) rfl ?_
  refine zT_gos (f := 200000) (pc2 := 1069) (ls2 := [(4, .int 0), (3, .ref 232), (2, .ref 162), (1, .ref 0), (0, .ref 11)]) (st2 := [.int (xs 1), .ref 162, .int (-99)]) (h2 := (((zH0.set 37 (.inr (.inr (.inr (3, [.ref 44, .ref 6, .ref 76, .ref 78, .ref 80, .ref 88, .int 1, .int 0, .ref 96, .int 0, .int 0, .int 0, .ref 98, .ref 100, .int 0]))))).set 44 (.inr (.inr (.inr (6, [.int 1, .long 70644700037184, .int 0, .ref 90, .ref 92, .ref 94]))))).set 47 (.inr (.inl (16, [70644700037184]))))) (dc2 := 117) (ds2 := 29934) 6 rfl ?_
  refine zT_if0 false rfl (zc_eq_f (by show ((xs 1) : Int32).toInt ≠ 0; omega)) ?_
  refine zT_here (pc2 := 1072) rfl ?_
  refine zT_gos (f := 200000) (pc2 := 1083) (ls2 := [(4, .int 0), (3, .ref 232), (2, .ref 162), (1, .ref 0), (0, .ref 11)]) (st2 := [.int (xs 2), .int 1, .ref 162, .int (-99)]) (h2 := (((zH0.set 37 (.inr (.inr (.inr (3, [.ref 44, .ref 6, .ref 76, .ref 78, .ref 80, .ref 88, .int 1, .int 0, .ref 96, .int 0, .int 0, .int 0, .ref 98, .ref 100, .int 0]))))).set 44 (.inr (.inr (.inr (6, [.int 1, .long 70644700037184, .int 0, .ref 90, .ref 92, .ref 94]))))).set 47 (.inr (.inl (16, [70644700037184]))))) (dc2 := 117) (ds2 := 29934) 7 rfl ?_
  refine zT_gos (f := 200000) (pc2 := 1089) (ls2 := [(4, .int 0), (3, .ref 232), (2, .ref 162), (1, .ref 0), (0, .ref 11)]) (st2 := [.int (xs 3), .int (xs 2), .int 1, .ref 162, .int (-99)]) (h2 := (((zH0.set 37 (.inr (.inr (.inr (3, [.ref 44, .ref 6, .ref 76, .ref 78, .ref 80, .ref 88, .int 1, .int 0, .ref 96, .int 0, .int 0, .int 0, .ref 98, .ref 100, .int 0]))))).set 44 (.inr (.inr (.inr (6, [.int 1, .long 70644700037184, .int 0, .ref 90, .ref 92, .ref 94]))))).set 47 (.inr (.inl (16, [70644700037184]))))) (dc2 := 117) (ds2 := 29934) 5 rfl ?_
  refine zT_val h3 ?_
  refine zT_call (v := some (.int (-99))) (h2 := (((((((zH0.set 37 (.inr (.inr (.inr (3, [.ref 44, .ref 6, .ref 76, .ref 78, .ref 80, .ref 88, .int 1, .int 0, .ref 96, .int 0, .int 0, .int 0, .ref 98, .ref 100, .int 0]))))).set 44 (.inr (.inr (.inr (6, [.int 1, .long 70644700037184, .int 0, .ref 90, .ref 92, .ref 94]))))).set 47 (.inr (.inl (16, [70644700037184])))).set 106 (.inl (2, 2, [0, 1]))).set 105 (.inl (0, 2, [0, 0]))).set 107 (.inl (0, 132, [0, 0, 0, 0, 0, 0, 0, 0, 0, 0, 0, 0, 0, 0, 0, 0, 0, 0, 0, 0, 0, 0, 0, 0, 0, 0, 0, 0, 0, 0, 0, 0, 0, 0, 0, 0, 0, 0, 0, 0, 0, 0, 0, 0, 0, 0, 0, 0, 0, 0, 0, 0, 0, 0, 0, 0, 0, 0, 0, 0, 0, 0, 0, 0, 0, 0, 0, 0, 0, 0, 0, 0]))).set 109 (.inl (0, 22, [0, 0, 0, 0, 0, 0, 0, 0, 0, 0, 0, 0])))) (d1 := 0) (s1 := 0) rfl rfl ?_ ?_
  · refine zT_gos (f := 200000) (pc2 := 7) (ls2 := [(0, .ref 162), (1, .int 1), (2, .int (xs 2)), (3, .int 0)]) (st2 := [.int 1, .ref 162]) (h2 := (((zH0.set 37 (.inr (.inr (.inr (3, [.ref 44, .ref 6, .ref 76, .ref 78, .ref 80, .ref 88, .int 1, .int 0, .ref 96, .int 0, .int 0, .int 0, .ref 98, .ref 100, .int 0]))))).set 44 (.inr (.inr (.inr (6, [.int 1, .long 70644700037184, .int 0, .ref 90, .ref 92, .ref 94]))))).set 47 (.inr (.inl (16, [70644700037184]))))) (dc2 := 0) (ds2 := 0) 5 rfl ?_
    refine zT_call rfl rfl (zT_le (zg0_le 6 xs) zk_o_20) ?_
    refine zT_here (pc2 := 10) rfl ?_
    refine zT_gos (f := 200000) (pc2 := 18) (ls2 := [(4, .int 0), (0, .ref 162), (1, .int 1), (2, .int (xs 2)), (3, .int 0)]) (st2 := [.int (xs 2)]) (h2 := (((((((zH0.set 37 (.inr (.inr (.inr (3, [.ref 44, .ref 6, .ref 76, .ref 78, .ref 80, .ref 88, .int 1, .int 0, .ref 96, .int 0, .int 0, .int 0, .ref 98, .ref 100, .int 0]))))).set 44 (.inr (.inr (.inr (6, [.int 1, .long 70644700037184, .int 0, .ref 90, .ref 92, .ref 94]))))).set 47 (.inr (.inl (16, [70644700037184])))).set 106 (.inl (2, 2, [0, 1]))).set 105 (.inl (0, 2, [0, 0]))).set 107 (.inl (0, 132, [0, 0, 0, 0, 0, 0, 0, 0, 0, 0, 0, 0, 0, 0, 0, 0, 0, 0, 0, 0, 0, 0, 0, 0, 0, 0, 0, 0, 0, 0, 0, 0, 0, 0, 0, 0, 0, 0, 0, 0, 0, 0, 0, 0, 0, 0, 0, 0, 0, 0, 0, 0, 0, 0, 0, 0, 0, 0, 0, 0, 0, 0, 0, 0, 0, 0, 0, 0, 0, 0, 0, 0]))).set 109 (.inl (0, 22, [0, 0, 0, 0, 0, 0, 0, 0, 0, 0, 0, 0])))) (dc2 := 0) (ds2 := 0) 4 rfl ?_
    refine zT_if0 true rfl (zc_lt_t (by show ((xs 2) : Int32).toInt < 0; omega)) ?_
    refine zT_here (pc2 := 34) rfl ?_
    refine zT_gos (f := 200000) (pc2 := 54) (ls2 := [(4, .int 0), (0, .ref 162), (1, .int 1), (2, .int (xs 2)), (3, .int 0)]) (st2 := [.int (-99)]) (h2 := (((((((zH0.set 37 (.inr (.inr (.inr (3, [.ref 44, .ref 6, .ref 76, .ref 78, .ref 80, .ref 88, .int 1, .int 0, .ref 96, .int 0, .int 0, .int 0, .ref 98, .ref 100, .int 0]))))).set 44 (.inr (.inr (.inr (6, [.int 1, .long 70644700037184, .int 0, .ref 90, .ref 92, .ref 94]))))).set 47 (.inr (.inl (16, [70644700037184])))).set 106 (.inl (2, 2, [0, 1]))).set 105 (.inl (0, 2, [0, 0]))).set 107 (.inl (0, 132, [0, 0, 0, 0, 0, 0, 0, 0, 0, 0, 0, 0, 0, 0, 0, 0, 0, 0, 0, 0, 0, 0, 0, 0, 0, 0, 0, 0, 0, 0, 0, 0, 0, 0, 0, 0, 0, 0, 0, 0, 0, 0, 0, 0, 0, 0, 0, 0, 0, 0, 0, 0, 0, 0, 0, 0, 0, 0, 0, 0, 0, 0, 0, 0, 0, 0, 0, 0, 0, 0, 0, 0]))).set 109 (.inl (0, 22, [0, 0, 0, 0, 0, 0, 0, 0, 0, 0, 0, 0])))) (dc2 := 0) (ds2 := 0) 2 rfl ?_
    exact zT_ret rfl rfl
  refine zT_here (pc2 := 1092) rfl ?_
  refine zT_gos (f := 200000) (pc2 := 1811) (ls2 := [(4, .int 6), (3, .ref 232), (2, .ref 162), (1, .ref 0), (0, .ref 11)]) (st2 := [.int 1]) (h2 := (((((((zH0.set 37 (.inr (.inr (.inr (3, [.ref 44, .ref 6, .ref 76, .ref 78, .ref 80, .ref 88, .int 1, .int 0, .ref 96, .int 0, .int 0, .int 0, .ref 98, .ref 100, .int 0]))))).set 44 (.inr (.inr (.inr (6, [.int 1, .long 70644700037184, .int 0, .ref 90, .ref 92, .ref 94]))))).set 47 (.inr (.inl (16, [70644700037184])))).set 106 (.inl (2, 2, [0, 1]))).set 105 (.inl (0, 2, [0, 0]))).set 107 (.inl (0, 132, [0, 0, 0, 0, 0, 0, 0, 0, 0, 0, 0, 0, 0, 0, 0, 0, 0, 0, 0, 0, 0, 0, 0, 0, 0, 0, 0, 0, 0, 0, 0, 0, 0, 0, 0, 0, 0, 0, 0, 0, 0, 0, 0, 0, 0, 0, 0, 0, 0, 0, 0, 0, 0, 0, 0, 0, 0, 0, 0, 0, 0, 0, 0, 0, 0, 0, 0, 0, 0, 0, 0, 0]))).set 109 (.inl (0, 22, [0, 0, 0, 0, 0, 0, 0, 0, 0, 0, 0, 0])))) (dc2 := 117) (ds2 := 29934) 10 rfl ?_
  exact zT_ret rfl rfl
set_option maxRecDepth 1000000 in
set_option maxHeartbeats 4000000 in
theorem zo_23_31 (xs : Nat → Int32) (h0 : xs 0 &&& 63 = 23) (h1 : (xs 1).toInt ≠ 0) (h3 : xs 3 = 0) (h2 : 0 < (xs 2).toInt) : zDone xs := by
  refine ⟨(((((((zH0.set 37 (.inr (.inr (.inr (3, [.ref 44, .ref 6, .ref 76, .ref 78, .ref 80, .ref 88, .int 1, .int 0, .ref 96, .int 0, .int 0, .int 0, .ref 98, .ref 100, .int 0]))))).set 44 (.inr (.inr (.inr (6, [.int 1, .long 70644700037184, .int 0, .ref 90, .ref 92, .ref 94]))))).set 47 (.inr (.inl (16, [70644700037184])))).set 106 (.inl (2, 2, [0, 1]))).set 105 (.inl (0, 2, [0, 0]))).set 107 (.inl (0, 132, [0, 0, 0, 0, 0, 0, 0, 0, 0, 0, 0, 0, 0, 0, 0, 0, 0, 0, 0, 0, 0, 0, 0, 0, 0, 0, 0, 0, 0, 0, 0, 0, 0, 0, 0, 0, 0, 0, 0, 0, 0, 0, 0, 0, 0, 0, 0, 0, 0, 0, 0, 0, 0, 0, 0, 0, 0, 0, 0, 0, 0, 0, 0, 0, 0, 0, 0, 0, 0, 0, 0, 0]))).set 109 (.inl (0, 22, [0, 0, 0, 0, 0, 0, 0, 0, 0, 0, 0, 0]))), 117, 29934, ?_, by decide, by decide⟩
  refine zT_gos (f := 200000) (pc2 := 37) (ls2 := [(4, .int 0), (3, .ref 232), (2, .ref 162), (1, .ref 0), (0, .ref 11)]) (st2 := [.int (xs 0)]) (h2 := zH0) (dc2 := 117) (ds2 := 29934) 9 rfl ?_
  refine zT_gos (f := 200000) (pc2 := 40) (ls2 := [(4, .int 0), (3, .ref 232), (2, .ref 162), (1, .ref 0), (0, .ref 11)]) (st2 := [.int ((xs 0) &&& (63 : Int32))]) (h2 := zH0) (dc2 := 117) (ds2 := 29934) 2 rfl ?_
  refine zT_val h0 ?_
  refine zT_gos (f := 200000) (pc2 := 1039) (ls2 := [(4, .int 0), (3, .ref 232), (2, .ref 162), (1, .ref 0), (0, .ref 11)]) (st2 := [.int (xs 1), .ref 0]) (h2 := zH0) (dc2 := 117) (ds2 := 29934) 7 rfl ?_
  refine zT_if0 false rfl (zc_eq_f (by show ((xs 1) : Int32).toInt ≠ 0; omega)) ?_
  refine zT_here (pc2 := 1042) rfl ?_
  refine zT_gos (f := 200000) (pc2 := 1053) (ls2 := [(4, .int 0), (3, .ref 232), (2, .ref 162), (1, .ref 0), (0, .ref 11)]) (st2 := [.int (xs 2), .int 1, .ref 0]) (h2 := zH0) (dc2 := 117) (ds2 := 29934) 7 rfl ?_
  refine zT_gos (f := 200000) (pc2 := 1059) (ls2 := [(4, .int 0), (3, .ref 232), (2, .ref 162), (1, .ref 0), (0, .ref 11)]) (st2 := [.int (xs 3), .int (xs 2), .int 1, .ref 0]) (h2 := zH0) (dc2 := 117) (ds2 := 29934) 5 rfl ?_
  refine zT_val h3 ?_
  refine zT_call (v := some (.int (-99))) (h2 := (((zH0.set 37 (.inr (.inr (.inr (3, [.ref 44, .ref 6, .ref 76, .ref 78, .ref 80, .ref 88, .int 1, .int 0, .ref 96, .int 0, .int 0, .int 0, .ref 98, .ref 100, .int 0]))))).set 44 (.inr (.inr (.inr (6, [.int 1, .long 70644700037184, .int 0, .ref 90, .ref 92, .ref 94]))))).set 47 (.inr (.inl (16, [70644700037184]))))) (d1 := 0) (s1 := 0) rfl rfl ?_ ?_
  · refine zT_gos (f := 200000) (pc2 := 33) (ls2 := [(4, .ref 88), (0, .ref 0), (1, .int 1), (2, .int (xs 2)), (3, .int 0)]) (st2 := [.int (xs 2)]) (h2 := (((zH0.set 37 (.inr (.inr (.inr (3, [.ref 44, .ref 6, .ref 76, .ref 78, .ref 80, .ref 88, .int 1, .int 0, .ref 96, .int 0, .int 0, .int 0, .ref 98, .ref 100, .int 0]))))).set 44 (.inr (.inr (.inr (6, [.int 1, .long 70644700037184, .int 0, .ref 90, .ref 92, .ref 94]))))).set 47 (.inr (.inl (16, [70644700037184]))))) (dc2 := 0) (ds2 := 0) 14 rfl ?_
    refine zT_if0 false rfl (zc_lt_f (by show ((xs 2) : Int32).toInt ≥ 0; omega)) ?_
    refine zT_here (pc2 := 36) rfl ?_
    refine zT_gos (f := 200000) (pc2 := 42) (ls2 := [(4, .ref 88), (0, .ref 0), (1, .int 1), (2, .int (xs 2)), (3, .int 0)]) (st2 := [.int 0, .int (xs 2)]) (h2 := (((zH0.set 37 (.inr (.inr (.inr (3, [.ref 44, .ref 6, .ref 76, .ref 78, .ref 80, .ref 88, .int 1, .int 0, .ref 96, .int 0, .int 0, .int 0, .ref 98, .ref 100, .int 0]))))).set 44 (.inr (.inr (.inr (6, [.int 1, .long 70644700037184, .int 0, .ref 90, .ref 92, .ref 94]))))).set 47 (.inr (.inl (16, [70644700037184]))))) (dc2 := 0) (ds2 := 0) 3 rfl ?_
    refine zT_if2 false rfl (zc_le_f (by show ((xs 2) : Int32).toInt > 0; omega)) ?_
    refine zT_here (pc2 := 45) rfl ?_
    refine zT_gos (f := 200000) (pc2 := 57) (ls2 := [(4, .ref 88), (0, .ref 0), (1, .int 1), (2, .int (xs 2)), (3, .int 0)]) (st2 := [.int (-99)]) (h2 := (((zH0.set 37 (.inr (.inr (.inr (3, [.ref 44, .ref 6, .ref 76, .ref 78, .ref 80, .ref 88, .int 1, .int 0, .ref 96, .int 0, .int 0, .int 0, .ref 98, .ref 100, .int 0]))))).set 44 (.inr (.inr (.inr (6, [.int 1, .long 70644700037184, .int 0, .ref 90, .ref 92, .ref 94]))))).set 47 (.inr (.inl (16, [70644700037184]))))) (dc2 := 0) (ds2 := 0) 2 rfl ?_
    exact zT_ret rfl rfl
  refine zT_here (pc2 := 1062) rfl ?_
  refine zT_gos (f := 200000) (pc2 := 1069) (ls2 := [(4, .int 0), (3, .ref 232), (2, .ref 162), (1, .ref 0), (0, .ref 11)]) (st2 := [.int (xs 1), .ref 162, .int (-99)]) (h2 := (((zH0.set 37 (.inr (.inr (.inr (3, [.ref 44, .ref 6, .ref 76, .ref 78, .ref 80, .ref 88, .int 1, .int 0, .ref 96, .int 0, .int 0, .int 0, .ref 98, .ref 100, .int 0]))))).set 44 (.inr (.inr (.inr (6, [.int 1, .long 70644700037184, .int 0, .ref 90, .ref 92, .ref 94]))))).set 47 (.inr (.inl (16, [70644700037184]))))) (dc2 := 117) (ds2 := 29934) 6 rfl ?_
  refine zT_if0 false rfl (zc_eq_f (by show ((xs 1) : Int32).toInt ≠ 0; omega)) ?_
  refine zT_here (pc2 := 1072) rfl ?_
  refine zT_gos (f := 200000) (pc2 := 1083) (ls2 := [(4, .int 0), (3, .ref 232), (2, .ref 162), (1, .ref 0), (0, .ref 11)]) (st2 := [.int (xs 2), .int 1, .ref 162, .int (-99)]) (h2 := (((zH0.set 37 (.inr (.inr (.inr (3, [.ref 44, .ref 6, .ref 76, .ref 78, .ref 80, .ref 88, .int 1, .int 0, .ref 96, .int 0, .int 0, .int 0, .ref 98, .ref 100, .int 0]))))).set 44 (.inr (.inr (.inr (6, [.int 1, .long 70644700037184, .int 0, .ref 90, .ref 92, .ref 94]))))).set 47 (.inr (.inl (16, [70644700037184]))))) (dc2 := 117) (ds2 := 29934) 7 rfl ?_
  refine zT_gos (f := 200000) (pc2 := 1089) (ls2 := [(4, .int 0), (3, .ref 232), (2, .ref 162), (1, .ref 0), (0, .ref 11)]) (st2 := [.int (xs 3), .int (xs 2), .int 1, .ref 162, .int (-99)]) (h2 := (((zH0.set 37 (.inr (.inr (.inr (3, [.ref 44, .ref 6, .ref 76, .ref 78, .ref 80, .ref 88, .int 1, .int 0, .ref 96, .int 0, .int 0, .int 0, .ref 98, .ref 100, .int 0]))))).set 44 (.inr (.inr (.inr (6, [.int 1, .long 70644700037184, .int 0, .ref 90, .ref 92, .ref 94]))))).set 47 (.inr (.inl (16, [70644700037184]))))) (dc2 := 117) (ds2 := 29934) 5 rfl ?_
  refine zT_val h3 ?_
  refine zT_call (v := some (.int (-99))) (h2 := (((((((zH0.set 37 (.inr (.inr (.inr (3, [.ref 44, .ref 6, .ref 76, .ref 78, .ref 80, .ref 88, .int 1, .int 0, .ref 96, .int 0, .int 0, .int 0, .ref 98, .ref 100, .int 0]))))).set 44 (.inr (.inr (.inr (6, [.int 1, .long 70644700037184, .int 0, .ref 90, .ref 92, .ref 94]))))).set 47 (.inr (.inl (16, [70644700037184])))).set 106 (.inl (2, 2, [0, 1]))).set 105 (.inl (0, 2, [0, 0]))).set 107 (.inl (0, 132, [0, 0, 0, 0, 0, 0, 0, 0, 0, 0, 0, 0, 0, 0, 0, 0, 0, 0, 0, 0, 0, 0, 0, 0, 0, 0, 0, 0, 0, 0, 0, 0, 0, 0, 0, 0, 0, 0, 0, 0, 0, 0, 0, 0, 0, 0, 0, 0, 0, 0, 0, 0, 0, 0, 0, 0, 0, 0, 0, 0, 0, 0, 0, 0, 0, 0, 0, 0, 0, 0, 0, 0]))).set 109 (.inl (0, 22, [0, 0, 0, 0, 0, 0, 0, 0, 0, 0, 0, 0])))) (d1 := 0) (s1 := 0) rfl rfl ?_ ?_
  · refine zT_gos (f := 200000) (pc2 := 7) (ls2 := [(0, .ref 162), (1, .int 1), (2, .int (xs 2)), (3, .int 0)]) (st2 := [.int 1, .ref 162]) (h2 := (((zH0.set 37 (.inr (.inr (.inr (3, [.ref 44, .ref 6, .ref 76, .ref 78, .ref 80, .ref 88, .int 1, .int 0, .ref 96, .int 0, .int 0, .int 0, .ref 98, .ref 100, .int 0]))))).set 44 (.inr (.inr (.inr (6, [.int 1, .long 70644700037184, .int 0, .ref 90, .ref 92, .ref 94]))))).set 47 (.inr (.inl (16, [70644700037184]))))) (dc2 := 0) (ds2 := 0) 5 rfl ?_
    refine zT_call rfl rfl (zT_le (zg0_le 6 xs) zk_o_20) ?_
    refine zT_here (pc2 := 10) rfl ?_
    refine zT_gos (f := 200000) (pc2 := 18) (ls2 := [(4, .int 0), (0, .ref 162), (1, .int 1), (2, .int (xs 2)), (3, .int 0)]) (st2 := [.int (xs 2)]) (h2 := (((((((zH0.set 37 (.inr (.inr (.inr (3, [.ref 44, .ref 6, .ref 76, .ref 78, .ref 80, .ref 88, .int 1, .int 0, .ref 96, .int 0, .int 0, .int 0, .ref 98, .ref 100, .int 0]))))).set 44 (.inr (.inr (.inr (6, [.int 1, .long 70644700037184, .int 0, .ref 90, .ref 92, .ref 94]))))).set 47 (.inr (.inl (16, [70644700037184])))).set 106 (.inl (2, 2, [0, 1]))).set 105 (.inl (0, 2, [0, 0]))).set 107 (.inl (0, 132, [0, 0, 0, 0, 0, 0, 0, 0, 0, 0, 0, 0, 0, 0, 0, 0, 0, 0, 0, 0, 0, 0, 0, 0, 0, 0, 0, 0, 0, 0, 0, 0, 0, 0, 0, 0, 0, 0, 0, 0, 0, 0, 0, 0, 0, 0, 0, 0, 0, 0, 0, 0, 0, 0, 0, 0, 0, 0, 0, 0, 0, 0, 0, 0, 0, 0, 0, 0, 0, 0, 0, 0]))).set 109 (.inl (0, 22, [0, 0, 0, 0, 0, 0, 0, 0, 0, 0, 0, 0])))) (dc2 := 0) (ds2 := 0) 4 rfl ?_
    refine zT_if0 false rfl (zc_lt_f (by show ((xs 2) : Int32).toInt ≥ 0; omega)) ?_
    refine zT_here (pc2 := 21) rfl ?_
    refine zT_gos (f := 200000) (pc2 := 24) (ls2 := [(4, .int 0), (0, .ref 162), (1, .int 1), (2, .int (xs 2)), (3, .int 0)]) (st2 := [.int 0, .int (xs 2)]) (h2 := (((((((zH0.set 37 (.inr (.inr (.inr (3, [.ref 44, .ref 6, .ref 76, .ref 78, .ref 80, .ref 88, .int 1, .int 0, .ref 96, .int 0, .int 0, .int 0, .ref 98, .ref 100, .int 0]))))).set 44 (.inr (.inr (.inr (6, [.int 1, .long 70644700037184, .int 0, .ref 90, .ref 92, .ref 94]))))).set 47 (.inr (.inl (16, [70644700037184])))).set 106 (.inl (2, 2, [0, 1]))).set 105 (.inl (0, 2, [0, 0]))).set 107 (.inl (0, 132, [0, 0, 0, 0, 0, 0, 0, 0, 0, 0, 0, 0, 0, 0, 0, 0, 0, 0, 0, 0, 0, 0, 0, 0, 0, 0, 0, 0, 0, 0, 0, 0, 0, 0, 0, 0, 0, 0, 0, 0, 0, 0, 0, 0, 0, 0, 0, 0, 0, 0, 0, 0, 0, 0, 0, 0, 0, 0, 0, 0, 0, 0, 0, 0, 0, 0, 0, 0, 0, 0, 0, 0]))).set 109 (.inl (0, 22, [0, 0, 0, 0, 0, 0, 0, 0, 0, 0, 0, 0])))) (dc2 := 0) (ds2 := 0) 2 rfl ?_
    refine zT_if2 true rfl (zc_gt_t (by show ((xs 2) : Int32).toInt > 0; omega)) ?_
    refine zT_here (pc2 := 34) rfl ?_
    refine zT_gos (f := 200000) (pc2 := 54) (ls2 := [(4, .int 0), (0, .ref 162), (1, .int 1), (2, .int (xs 2)), (3, .int 0)]) (st2 := [.int (-99)]) (h2 := (((((((zH0.set 37 (.inr (.inr (.inr (3, [.ref 44, .ref 6, .ref 76, .ref 78, .ref 80, .ref 88, .int 1, .int 0, .ref 96, .int 0, .int 0, .int 0, .ref 98, .ref 100, .int 0]))))).set 44 (.inr (.inr (.inr (6, [.int 1, .long 70644700037184, .int 0, .ref 90, .ref 92, .ref 94]))))).set 47 (.inr (.inl (16, [70644700037184])))).set 106 (.inl (2, 2, [0, 1]))).set 105 (.inl (0, 2, [0, 0]))).set 107 (.inl (0, 132, [0, 0, 0, 0, 0, 0, 0, 0, 0, 0, 0, 0, 0, 0, 0, 0, 0, 0, 0, 0, 0, 0, 0, 0, 0, 0, 0, 0, 0, 0, 0, 0, 0, 0, 0, 0, 0, 0, 0, 0, 0, 0, 0, 0, 0, 0, 0, 0, 0, 0, 0, 0, 0, 0, 0, 0, 0, 0, 0, 0, 0, 0, 0, 0, 0, 0, 0, 0, 0, 0, 0, 0]))).set 109 (.inl (0, 22, [0, 0, 0, 0, 0, 0, 0, 0, 0, 0, 0, 0])))) (dc2 := 0) (ds2 := 0) 2 rfl ?_
    exact zT_ret rfl rfl
  refine zT_here (pc2 := 1092) rfl ?_
  refine zT_gos (f := 200000) (pc2 := 1811) (ls2 := [(4, .int 6), (3, .ref 232), (2, .ref 162), (1, .ref 0), (0, .ref 11)]) (st2 := [.int 1]) (h2 := (((((((zH0.set 37 (.inr (.inr (.inr (3, [.ref 44, .ref 6, .ref 76, .ref 78, .ref 80, .ref 88, .int 1, .int 0, .ref 96, .int 0, .int 0, .int 0, .ref 98, .ref 100, .int 0]))))).set 44 (.inr (.inr (.inr (6, [.int 1, .long 70644700037184, .int 0, .ref 90, .ref 92, .ref 94]))))).set 47 (.inr (.inl (16, [70644700037184])))).set 106 (.inl (2, 2, [0, 1]))).set 105 (.inl (0, 2, [0, 0]))).set 107 (.inl (0, 132, [0, 0, 0, 0, 0, 0, 0, 0, 0, 0, 0, 0, 0, 0, 0, 0, 0, 0, 0, 0, 0, 0, 0, 0, 0, 0, 0, 0, 0, 0, 0, 0, 0, 0, 0, 0, 0, 0, 0, 0, 0, 0, 0, 0, 0, 0, 0, 0, 0, 0, 0, 0, 0, 0, 0, 0, 0, 0, 0, 0, 0, 0, 0, 0, 0, 0, 0, 0, 0, 0, 0, 0]))).set 109 (.inl (0, 22, [0, 0, 0, 0, 0, 0, 0, 0, 0, 0, 0, 0])))) (dc2 := 117) (ds2 := 29934) 10 rfl ?_
  exact zT_ret rfl rfl
set_option maxRecDepth 1000000 in
theorem zk_o_129 : zT zg0 zF zP 124 0 [(0, .ref 0), (1, .int 1), (2, .int 0), (3, .int 0)] [] zH0 0 0 (some (.int 0), (((zH0.set 37 (.inr (.inr (.inr (3, [.ref 44, .ref 6, .ref 76, .ref 78, .ref 80, .ref 88, .int 1, .int 0, .ref 96, .int 0, .int 0, .int 0, .ref 98, .ref 100, .int 0]))))).set 44 (.inr (.inr (.inr (6, [.int 1, .long 70644700037184, .int 0, .ref 90, .ref 92, .ref 94]))))).set 47 (.inr (.inl (16, [70644700037184])))), 0, 0) := zclosed (n := 149) (by decide +kernel)
set_option maxRecDepth 1000000 in
theorem zk_o_130 : zT zg0 zF zP 255 0 [(0, .ref 162), (1, .int 1), (2, .int 0), (3, .int 0)] [] (((zH0.set 37 (.inr (.inr (.inr (3, [.ref 44, .ref 6, .ref 76, .ref 78, .ref 80, .ref 88, .int 1, .int 0, .ref 96, .int 0, .int 0, .int 0, .ref 98, .ref 100, .int 0]))))).set 44 (.inr (.inr (.inr (6, [.int 1, .long 70644700037184, .int 0, .ref 90, .ref 92, .ref 94]))))).set 47 (.inr (.inl (16, [70644700037184])))) 0 0 (some (.int 0), (((((((zH0.set 37 (.inr (.inr (.inr (3, [.ref 44, .ref 6, .ref 76, .ref 78, .ref 80, .ref 88, .int 1, .int 0, .ref 96, .int 0, .int 0, .int 0, .ref 98, .ref 100, .int 0]))))).set 44 (.inr (.inr (.inr (6, [.int 1, .long 70644700037184, .int 0, .ref 90, .ref 92, .ref 94]))))).set 47 (.inr (.inl (16, [70644700037184])))).set 106 (.inl (2, 2, [0, 1]))).set 105 (.inl (0, 2, [0, 0]))).set 107 (.inl (0, 132, [0, 0, 0, 0, 0, 0, 0, 0, 0, 0, 0, 0, 0, 0, 0, 0, 0, 0, 0, 0, 0, 0, 0, 0, 0, 0, 0, 0, 0, 0, 0, 0, 0, 0, 0, 0, 0, 0, 0, 0, 0, 0, 0, 0, 0, 0, 0, 0, 0, 0, 0, 0, 0, 0, 0, 0, 0, 0, 0, 0, 0, 0, 0, 0, 0, 0, 0, 0, 0, 0, 0, 0]))).set 109 (.inl (0, 22, [0, 0, 0, 0, 0, 0, 0, 0, 0, 0, 0, 0]))), 0, 0) := zclosed (n := 230) (by decide +kernel)
set_option maxRecDepth 1000000 in
set_option maxHeartbeats 4000000 in
theorem zo_23_32 (xs : Nat → Int32) (h0 : xs 0 &&& 63 = 23) (h1 : (xs 1).toInt ≠ 0) (h3 : xs 3 = 0) (h2 : xs 2 = 0) : zDone xs := by
  refine ⟨(((((((zH0.set 37 (.inr (.inr (.inr (3, [.ref 44, .ref 6, .ref 76, .ref 78, .ref 80, .ref 88, .int 1, .int 0, .ref 96, .int 0, .int 0, .int 0, .ref 98, .ref 100, .int 0]))))).set 44 (.inr (.inr (.inr (6, [.int 1, .long 70644700037184, .int 0, .ref 90, .ref 92, .ref 94]))))).set 47 (.inr (.inl (16, [70644700037184])))).set 106 (.inl (2, 2, [0, 1]))).set 105 (.inl (0, 2, [0, 0]))).set 107 (.inl (0, 132, [0, 0, 0, 0, 0, 0, 0, 0, 0, 0, 0, 0, 0, 0, 0, 0, 0, 0, 0, 0, 0, 0, 0, 0, 0, 0, 0, 0, 0, 0, 0, 0, 0, 0, 0, 0, 0, 0, 0, 0, 0, 0, 0, 0, 0, 0, 0, 0, 0, 0, 0, 0, 0, 0, 0, 0, 0, 0, 0, 0, 0, 0, 0, 0, 0, 0, 0, 0, 0, 0, 0, 0]))).set 109 (.inl (0, 22, [0, 0, 0, 0, 0, 0, 0, 0, 0, 0, 0, 0]))), 117, 29934, ?_, by decide, by decide⟩
  refine zT_gos (f := 200000) (pc2 := 37) (ls2 := [(4, .int 0), (3, .ref 232), (2, .ref 162), (1, .ref 0), (0, .ref 11)]) (st2 := [.int (xs 0)]) (h2 := zH0) (dc2 := 117) (ds2 := 29934) 9 rfl ?_
  refine zT_gos (f := 200000) (pc2 := 40) (ls2 := [(4, .int 0), (3, .ref 232), (2, .ref 162), (1, .ref 0), (0, .ref 11)]) (st2 := [.int ((xs 0) &&& (63 : Int32))]) (h2 := zH0) (dc2 := 117) (ds2 := 29934) 2 rfl ?_
  refine zT_val h0 ?_
  refine zT_gos (f := 200000) (pc2 := 1039) (ls2 := [(4, .int 0), (3, .ref 232), (2, .ref 162), (1, .ref 0), (0, .ref 11)]) (st2 := [.int (xs 1), .ref 0]) (h2 := zH0) (dc2 := 117) (ds2 := 29934) 7 rfl ?_
  refine zT_if0 false rfl (zc_eq_f (by show ((xs 1) : Int32).toInt ≠ 0; omega)) ?_
  refine zT_here (pc2 := 1042) rfl ?_
  refine zT_gos (f := 200000) (pc2 := 1053) (ls2 := [(4, .int 0), (3, .ref 232), (2, .ref 162), (1, .ref 0), (0, .ref 11)]) (st2 := [.int (xs 2), .int 1, .ref 0]) (h2 := zH0) (dc2 := 117) (ds2 := 29934) 7 rfl ?_
  refine zT_val h2 ?_
  refine zT_gos (f := 200000) (pc2 := 1059) (ls2 := [(4, .int 0), (3, .ref 232), (2, .ref 162), (1, .ref 0), (0, .ref 11)]) (st2 := [.int (xs 3), .int 0, .int 1, .ref 0]) (h2 := zH0) (dc2 := 117) (ds2 := 29934) 5 rfl ?_
  refine zT_val h3 ?_
  refine zT_call rfl rfl (zT_le (zg0_le 6 xs) zk_o_129) ?_
  refine zT_here (pc2 := 1062) rfl ?_
  refine zT_gos (f := 200000) (pc2 := 1069) (ls2 := [(4, .int 0), (3, .ref 232), (2, .ref 162), (1, .ref 0), (0, .ref 11)]) (st2 := [.int (xs 1), .ref 162, .int 0]) (h2 := (((zH0.set 37 (.inr (.inr (.inr (3, [.ref 44, .ref 6, .ref 76, .ref 78, .ref 80, .ref 88, .int 1, .int 0, .ref 96, .int 0, .int 0, .int 0, .ref 98, .ref 100, .int 0]))))).set 44 (.inr (.inr (.inr (6, [.int 1, .long 70644700037184, .int 0, .ref 90, .ref 92, .ref 94]))))).set 47 (.inr (.inl (16, [70644700037184]))))) (dc2 := 117) (ds2 := 29934) 6 rfl ?_
  refine zT_if0 false rfl (zc_eq_f (by show ((xs 1) : Int32).toInt ≠ 0; omega)) ?_
  refine zT_here (pc2 := 1072) rfl ?_
  refine zT_gos (f := 200000) (pc2 := 1083) (ls2 := [(4, .int 0), (3, .ref 232), (2, .ref 162), (1, .ref 0), (0, .ref 11)]) (st2 := [.int (xs 2), .int 1, .ref 162, .int 0]) (h2 := (((zH0.set 37 (.inr (.inr (.inr (3, [.ref 44, .ref 6, .ref 76, .ref 78, .ref 80, .ref 88, .int 1, .int 0, .ref 96, .int 0, .int 0, .int 0, .ref 98, .ref 100, .int 0]))))).set 44 (.inr (.inr (.inr (6, [.int 1, .long 70644700037184, .int 0, .ref 90, .ref 92, .ref 94]))))).set 47 (.inr (.inl (16, [70644700037184]))))) (dc2 := 117) (ds2 := 29934) 7 rfl ?_
  refine zT_val h2 ?_
  refine zT_gos (f := 200000) (pc2 := 1089) (ls2 := [(4, .int 0), (3, .ref 232), (2, .ref 162), (1, .ref 0), (0, .ref 11)]) (st2 := [.int (xs 3), .int 0, .int 1, .ref 162, .int 0]) (h2 := (((zH0.set 37 (.inr (.inr (.inr (3, [.ref 44, .ref 6, .ref 76, .ref 78, .ref 80, .ref 88, .int 1, .int 0, .ref 96, .int 0, .int 0, .int 0, .ref 98, .ref 100, .int 0]))))).set 44 (.inr (.inr (.inr (6, [.int 1, .long 70644700037184, .int 0, .ref 90, .ref 92, .ref 94]))))).set 47 (.inr (.inl (16, [70644700037184]))))) (dc2 := 117) (ds2 := 29934) 5 rfl ?_
  refine zT_val h3 ?_
  refine zT_call rfl rfl (zT_le (zg0_le 6 xs) zk_o_130) ?_
  refine zT_here (pc2 := 1092) rfl ?_
  refine zT_gos (f := 200000) (pc2 := 1811) (ls2 := [(4, .int 6), (3, .ref 232), (2, .ref 162), (1, .ref 0), (0, .ref 11)]) (st2 := [.int 1]) (h2 := (((((((zH0.set 37 (.inr (.inr (.inr (3, [.ref 44, .ref 6, .ref 76, .ref 78, .ref 80, .ref 88, .int 1, .int 0, .ref 96, .int 0, .int 0, .int 0, .ref 98, .ref 100, .int 0]))))).set 44 (.inr (.inr (.inr (6, [.int 1, .long 70644700037184, .int 0, .ref 90, .ref 92, .ref 94]))))).set 47 (.inr (.inl (16, [70644700037184])))).set 106 (.inl (2, 2, [0, 1]))).set 105 (.inl (0, 2, [0, 0]))).set 107 (.inl (0, 132, [0, 0, 0, 0, 0, 0, 0, 0, 0, 0, 0, 0, 0, 0, 0, 0, 0, 0, 0, 0, 0, 0, 0, 0, 0, 0, 0, 0, 0, 0, 0, 0, 0, 0, 0, 0, 0, 0, 0, 0, 0, 0, 0, 0, 0, 0, 0, 0, 0, 0, 0, 0, 0, 0, 0, 0, 0, 0, 0, 0, 0, 0, 0, 0, 0, 0, 0, 0, 0, 0, 0, 0]))).set 109 (.inl (0, 22, [0, 0, 0, 0, 0, 0, 0, 0, 0, 0, 0, 0])))) (dc2 := 117) (ds2 := 29934) 10 rfl ?_
  exact zT_ret rfl rfl
set_option maxRecDepth 1000000 in
set_option maxHeartbeats 4000000 in
theorem zo_23_33 (xs : Nat → Int32) (h0 : xs 0 &&& 63 = 23) (h1 : (xs 1).toInt ≠ 0) (h3 : xs 3 = 1) (h2 : (xs 2).toInt < 0) : zDone xs := by
  refine ⟨(((((((zH0.set 37 (.inr (.inr (.inr (3, [.ref 44, .ref 6, .ref 76, .ref 78, .ref 80, .ref 88, .int 1, .int 0, .ref 96, .int 0, .int 0, .int 0, .ref 98, .ref 100, .int 0]))))).set 44 (.inr (.inr (.inr (6, [.int 1, .long 70644700037184, .int 0, .ref 90, .ref 92, .ref 94]))))).set 47 (.inr (.inl (16, [70644700037184])))).set 106 (.inl (2, 2, [0, 1]))).set 105 (.inl (0, 2, [0, 0]))).set 107 (.inl (0, 132, [0, 0, 0, 0, 0, 0, 0, 0, 0, 0, 0, 0, 0, 0, 0, 0, 0, 0, 0, 0, 0, 0, 0, 0, 0, 0, 0, 0, 0, 0, 0, 0, 0, 0, 0, 0, 0, 0, 0, 0, 0, 0, 0, 0, 0, 0, 0, 0, 0, 0, 0, 0, 0, 0, 0, 0, 0, 0, 0, 0, 0, 0, 0, 0, 0, 0, 0, 0, 0, 0, 0, 0]))).set 109 (.inl (0, 22, [0, 0, 0, 0, 0, 0, 0, 0, 0, 0, 0, 0]))), 117, 29934, ?_, by decide, by decide⟩
  refine zT_gos (f := 200000) (pc2 := 37) (ls2 := [(4, .int 0), (3, .ref 232), (2, .ref 162), (1, .ref 0), (0, .ref 11)]) (st2 := [.int (xs 0)]) (h2 := zH0) (dc2 := 117) (ds2 := 29934) 9 rfl ?_
  refine zT_gos (f := 200000) (pc2 := 40) (ls2 := [(4, .int 0), (3, .ref 232), (2, .ref 162), (1, .ref 0), (0, .ref 11)]) (st2 := [.int ((xs 0) &&& (63 : Int32))]) (h2 := zH0) (dc2 := 117) (ds2 := 29934) 2 rfl ?_
  refine zT_val h0 ?_
  refine zT_gos (f := 200000) (pc2 := 1039) (ls2 := [(4, .int 0), (3, .ref 232), (2, .ref 162), (1, .ref 0), (0, .ref 11)]) (st2 := [.int (xs 1), .ref 0]) (h2 := zH0) (dc2 := 117) (ds2 := 29934) 7 rfl ?_
  refine zT_if0 false rfl (zc_eq_f (by show ((xs 1) : Int32).toInt ≠ 0; omega)) ?_
  refine zT_here (pc2 := 1042) rfl ?_
  refine zT_gos (f := 200000) (pc2 := 1053) (ls2 := [(4, .int 0), (3, .ref 232), (2, .ref 162), (1, .ref 0), (0, .ref 11)]) (st2 := [.int (xs 2), .int 1, .ref 0]) (h2 := zH0) (dc2 := 117) (ds2 := 29934) 7 rfl ?_
  refine zT_gos (f := 200000) (pc2 := 1059) (ls2 := [(4, .int 0), (3, .ref 232), (2, .ref 162), (1, .ref 0), (0, .ref 11)]) (st2 := [.int (xs 3), .int (xs 2), .int 1, .ref 0]) (h2 := zH0) (dc2 := 117) (ds2 := 29934) 5 rfl ?_
  refine zT_val h3 ?_
  refine zT_call (v := some (.int (-99))) (h2 := (((zH0.set 37 (.inr (.inr (.inr (3, [.ref 44, .ref 6, .ref 76, .ref 78, .ref 80, .ref 88, .int 1, .int 0, .ref 96, .int 0, .int 0, .int 0, .ref 98, .ref 100, .int 0]))))).set 44 (.inr (.inr (.inr (6, [.int 1, .long 70644700037184, .int 0, .ref 90, .ref 92, .ref 94]))))).set 47 (.inr (.inl (16, [70644700037184]))))) (d1 := 0) (s1 := 0) rfl rfl ?_ ?_
  · refine zT_gos (f := 200000) (pc2 := 33) (ls2 := [(4, .ref 88), (0, .ref 0), (1, .int 1), (2, .int (xs 2)), (3, .int 1)]) (st2 := [.int (xs 2)]) (h2 := (((zH0.set 37 (.inr (.inr (.inr (3, [.ref 44, .ref 6, .ref 76, .ref 78, .ref 80, .ref 88, .int 1, .int 0, .ref 96, .int 0, .int 0, .int 0, .ref 98, .ref 100, .int 0]))))).set 44 (.inr (.inr (.inr (6, [.int 1, .long 70644700037184, .int 0, .ref 90, .ref 92, .ref 94]))))).set 47 (.inr (.inl (16, [70644700037184]))))) (dc2 := 0) (ds2 := 0) 14 rfl ?_
    refine zT_if0 true rfl (zc_lt_t (by show ((xs 2) : Int32).toInt < 0; omega)) ?_
    refine zT_here (pc2 := 45) rfl ?_
    refine zT_gos (f := 200000) (pc2 := 57) (ls2 := [(4, .ref 88), (0, .ref 0), (1, .int 1), (2, .int (xs 2)), (3, .int 1)]) (st2 := [.int (-99)]) (h2 := (((zH0.set 37 (.inr (.inr (.inr (3, [.ref 44, .ref 6, .ref 76, .ref 78, .ref 80, .ref 88, .int 1, .int 0, .ref 96, .int 0, .int 0, .int 0, .ref 98, .ref 100, .int 0]))))).set 44 (.inr (.inr (.inr (6, [.int 1, .long 70644700037184, .int 0, .ref 90, .ref 92, .ref 94]))))).set 47 (.inr (.inl (16, [70644700037184]))))) (dc2 := 0) (ds2 := 0) 2 rfl ?_
    exact zT_ret rfl rfl
  refine zT_here (pc2 := 1062) rfl ?_
  refine zT_gos (f := 200000) (pc2 := 1069) (ls2 := [(4, .int 0), (3, .ref 232), (2, .ref 162), (1, .ref 0), (0, .ref 11)]) (st2 := [.int (xs 1), .ref 162, .int (-99)]) (h2 := (((zH0.set 37 (.inr (.inr (.inr (3, [.ref 44, .ref 6, .ref 76, .ref 78, .ref 80, .ref 88, .int 1, .int 0, .ref 96, .int 0, .int 0, .int 0, .ref 98, .ref 100, .int 0]))))).set 44 (.inr (.inr (.inr (6, [.int 1, .long 70644700037184, .int 0, .ref 90, .ref 92, .ref 94]))))).set 47 (.inr (.inl (16, [70644700037184]))))) (dc2 := 117) (ds2 := 29934) 6 rfl ?_
  refine zT_if0 false rfl (zc_eq_f (by show ((xs 1) : Int32).toInt ≠ 0; omega)) ?_
  refine zT_here (pc2 := 1072) rfl ?_
  refine zT_gos (f := 200000) (pc2 := 1083) (ls2 := [(4, .int 0), (3, .ref 232), (2, .ref 162), (1, .ref 0), (0, .ref 11)]) (st2 := [.int (xs 2), .int 1, .ref 162, .int (-99)]) (h2 := (((zH0.set 37 (.inr (.inr (.inr (3, [.ref 44, .ref 6, .ref 76, .ref 78, .ref 80, .ref 88, .int 1, .int 0, .ref 96, .int 0, .int 0, .int 0, .ref 98, .ref 100, .int 0]))))).set 44 (.inr (.inr (.inr (6, [.int 1, .long 70644700037184, .int 0, .ref 90, .ref 92, .ref 94]))))).set 47 (.inr (.inl (16, [70644700037184]))))) (dc2 := 117) (ds2 := 29934) 7 rfl ?_
  refine zT_gos (f := 200000) (pc2 := 1089) (ls2 := [(4, .int 0), (3, .ref 232), (2, .ref 162), (1, .ref 0), (0, .ref 11)]) (st2 := [.int (xs 3), .int (xs 2), .int 1, .ref 162, .int (-99)]) (h2 := (((zH0.set 37 (.inr (.inr (.inr (3, [.ref 44, .ref 6, .ref 76, .ref 78, .ref 80, .ref 88, .int 1, .int 0, .ref 96, .int 0, .int 0, .int 0, .ref 98, .ref 100, .int 0]))))).set 44 (.inr (.inr (.inr (6, [.int 1, .long 70644700037184, .int 0, .ref 90, .ref 92, .ref 94]))))).set 47 (.inr (.inl (16, [70644700037184]))))) (dc2 := 117) (ds2 := 29934) 5 rfl ?_
  refine zT_val h3 ?_
  refine zT_call (v := some (.int (-99))) (h2 := (((((((zH0.set 37 (.inr (.inr (.inr (3, [.ref 44, .ref 6, .ref 76, .ref 78, .ref 80, .ref 88, .int 1, .int 0, .ref 96, .int 0, .int 0, .int 0, .ref 98, .ref 100, .int 0]))))).set 44 (.inr (.inr (.inr (6, [.int 1, .long 70644700037184, .int 0, .ref 90, .ref 92, .ref 94]))))).set 47 (.inr (.inl (16, [70644700037184])))).set 106 (.inl (2, 2, [0, 1]))).set 105 (.inl (0, 2, [0, 0]))).set 107 (.inl (0, 132, [0, 0, 0, 0, 0, 0, 0, 0, 0, 0, 0, 0, 0, 0, 0, 0, 0, 0, 0, 0, 0, 0, 0, 0, 0, 0, 0, 0, 0, 0, 0, 0, 0, 0, 0, 0, 0, 0, 0, 0, 0, 0, 0, 0, 0, 0, 0, 0, 0, 0, 0, 0, 0, 0, 0, 0, 0, 0, 0, 0, 0, 0, 0, 0, 0, 0, 0, 0, 0, 0, 0, 0]))).set 109 (.inl (0, 22, [0, 0, 0, 0, 0, 0, 0, 0, 0, 0, 0, 0])))) (d1 := 0) (s1 := 0) rfl rfl ?_ ?_
  · refine zT_gos (f := 200000) (pc2 := 7) (ls2 := [(0, .ref 162), (1, .int 1), (2, .int (xs 2)), (3, .int 1)]) (st2 := [.int 1, .ref 162]) (h2 := (((zH0.set 37 (.inr (.inr (.inr (3, [.ref 44, .ref 6, .ref 76, .ref 78, .ref 80, .ref 88, .int 1, .int 0, .ref 96, .int 0, .int 0, .int 0, .ref 98, .ref 100, .int 0]))))).set 44 (.inr (.inr (.inr (6, [.int 1, .long 70644700037184, .int 0, .ref 90, .ref 92, .ref 94]))))).set 47 (.inr (.inl (16, [70644700037184]))))) (dc2 := 0) (ds2 := 0) 5 rfl ?_
    refine zT_call rfl rfl (zT_le (zg0_le 6 xs) zk_o_20) ?_
    refine zT_here (pc2 := 10) rfl ?_
    refine zT_gos (f := 200000) (pc2 := 18) (ls2 := [(4, .int 0), (0, .ref 162), (1, .int 1), (2, .int (xs 2)), (3, .int 1)]) (st2 := [.int (xs 2)]) (h2 := (((((((zH0.set 37 (.inr (.inr (.inr (3, [.ref 44, .ref 6, .ref 76, .ref 78, .ref 80, .ref 88, .int 1, .int 0, .ref 96, .int 0, .int 0, .int 0, .ref 98, .ref 100, .int 0]))))).set 44 (.inr (.inr (.inr (6, [.int 1, .long 70644700037184, .int 0, .ref 90, .ref 92, .ref 94]))))).set 47 (.inr (.inl (16, [70644700037184])))).set 106 (.inl (2, 2, [0, 1]))).set 105 (.inl (0, 2, [0, 0]))).set 107 (.inl (0, 132, [0, 0, 0, 0, 0, 0, 0, 0, 0, 0, 0, 0, 0, 0, 0, 0, 0, 0, 0, 0, 0, 0, 0, 0, 0, 0, 0, 0, 0, 0, 0, 0, 0, 0, 0, 0, 0, 0, 0, 0, 0, 0, 0, 0, 0, 0, 0, 0, 0, 0, 0, 0, 0, 0, 0, 0, 0, 0, 0, 0, 0, 0, 0, 0, 0, 0, 0, 0, 0, 0, 0, 0]))).set 109 (.inl (0, 22, [0, 0, 0, 0, 0, 0, 0, 0, 0, 0, 0, 0])))) (dc2 := 0) (ds2 := 0) 4 rfl ?_
    refine zT_if0 true rfl (zc_lt_t (by show ((xs 2) : Int32).toInt < 0; omega)) ?_
    refine zT_here (pc2 := 34) rfl ?_
    refine zT_gos (f := 200000) (pc2 := 54) (ls2 := [(4, .int 0), (0, .ref 162), (1, .int 1), (2, .int (xs 2)), (3, .int 1)]) (st2 := [.int (-99)]) (h2 := (((((((zH0.set 37 (.inr (.inr (.inr (3, [.ref 44, .ref 6, .ref 76, .ref 78, .ref 80, .ref 88, .int 1, .int 0, .ref 96, .int 0, .int 0, .int 0, .ref 98, .ref 100, .int 0]))))).set 44 (.inr (.inr (.inr (6, [.int 1, .long 70644700037184, .int 0, .ref 90, .ref 92, .ref 94]))))).set 47 (.inr (.inl (16, [70644700037184])))).set 106 (.inl (2, 2, [0, 1]))).set 105 (.inl (0, 2, [0, 0]))).set 107 (.inl (0, 132, [0, 0, 0, 0, 0, 0, 0, 0, 0, 0, 0, 0, 0, 0, 0, 0, 0, 0, 0, 0, 0, 0, 0, 0, 0, 0, 0, 0, 0, 0, 0, 0, 0, 0, 0, 0, 0, 0, 0, 0, 0, 0, 0, 0, 0, 0, 0, 0, 0, 0, 0, 0, 0, 0, 0, 0, 0, 0, 0, 0, 0, 0, 0, 0, 0, 0, 0, 0, 0, 0, 0, 0]))).set 109 (.inl (0, 22, [0, 0, 0, 0, 0, 0, 0, 0, 0, 0, 0, 0])))) (dc2 := 0) (ds2 := 0) 2 rfl ?_
    exact zT_ret rfl rfl
  refine zT_here (pc2 := 1092) rfl ?_
  refine zT_gos (f := 200000) (pc2 := 1811) (ls2 := [(4, .int 6), (3, .ref 232), (2, .ref 162), (1, .ref 0), (0, .ref 11)]) (st2 := [.int 1]) (h2 := (((((((zH0.set 37 (.inr (.inr (.inr (3, [.ref 44, .ref 6, .ref 76, .ref 78, .ref 80, .ref 88, .int 1, .int 0, .ref 96, .int 0, .int 0, .int 0, .ref 98, .ref 100, .int 0]))))).set 44 (.inr (.inr (.inr (6, [.int 1, .long 70644700037184, .int 0, .ref 90, .ref 92, .ref 94]))))).set 47 (.inr (.inl (16, [70644700037184])))).set 106 (.inl (2, 2, [0, 1]))).set 105 (.inl (0, 2, [0, 0]))).set 107 (.inl (0, 132, [0, 0, 0, 0, 0, 0, 0, 0, 0, 0, 0, 0, 0, 0, 0, 0, 0, 0, 0, 0, 0, 0, 0, 0, 0, 0, 0, 0, 0, 0, 0, 0, 0, 0, 0, 0, 0, 0, 0, 0, 0, 0, 0, 0, 0, 0, 0, 0, 0, 0, 0, 0, 0, 0, 0, 0, 0, 0, 0, 0, 0, 0, 0, 0, 0, 0, 0, 0, 0, 0, 0, 0]))).set 109 (.inl (0, 22, [0, 0, 0, 0, 0, 0, 0, 0, 0, 0, 0, 0])))) (dc2 := 117) (ds2 := 29934) 10 rfl ?_
  exact zT_ret rfl rfl
set_option maxRecDepth 1000000 in
set_option maxHeartbeats 4000000 in
theorem zo_23_34 (xs : Nat → Int32) (h0 : xs 0 &&& 63 = 23) (h1 : (xs 1).toInt ≠ 0) (h3 : xs 3 = 1) (h2 : 0 < (xs 2).toInt) : zDone xs := by
  refine ⟨(((((((zH0.set 37 (.inr (.inr (.inr (3, [.ref 44, .ref 6, .ref 76, .ref 78, .ref 80, .ref 88, .int 1, .int 0, .ref 96, .int 0, .int 0, .int 0, .ref 98, .ref 100, .int 0]))))).set 44 (.inr (.inr (.inr (6, [.int 1, .long 70644700037184, .int 0, .ref 90, .ref 92, .ref 94]))))).set 47 (.inr (.inl (16, [70644700037184])))).set 106 (.inl (2, 2, [0, 1]))).set 105 (.inl (0, 2, [0, 0]))).set 107 (.inl (0, 132, [0, 0, 0, 0, 0, 0, 0, 0, 0, 0, 0, 0, 0, 0, 0, 0, 0, 0, 0, 0, 0, 0, 0, 0, 0, 0, 0, 0, 0, 0, 0, 0, 0, 0, 0, 0, 0, 0, 0, 0, 0, 0, 0, 0, 0, 0, 0, 0, 0, 0, 0, 0, 0, 0, 0, 0, 0, 0, 0, 0, 0, 0, 0, 0, 0, 0, 0, 0, 0, 0, 0, 0]))).set 109 (.inl (0, 22, [0, 0, 0, 0, 0, 0, 0, 0, 0, 0, 0, 0]))), 117, 29934, ?_, by decide, by decide⟩
  refine zT_gos (f := 200000) (pc2 := 37) (ls2 := [(4, .int 0), (3, .ref 232), (2, .ref 162), (1, .ref 0), (0, .ref 11)]) (st2 := [.int (xs 0)]) (h2 := zH0) (dc2 := 117) (ds2 := 29934) 9 rfl ?_
  refine zT_gos (f := 200000) (pc2 := 40) (ls2 := [(4, .int 0), (3, .ref 232), (2, .ref 162), (1, .ref 0), (0, .ref 11)]) (st2 := [.int ((xs 0) &&& (63 : Int32))]) (h2 := zH0) (dc2 := 117) (ds2 := 29934) 2 rfl ?_
  refine zT_val h0 ?_
  refine zT_gos (f := 200000) (pc2 := 1039) (ls2 := [(4, .int 0), (3, .ref 232), (2, .ref 162), (1, .ref 0), (0, .ref 11)]) (st2 := [.int (xs 1), .ref 0]) (h2 := zH0) (dc2 := 117) (ds2 := 29934) 7 rfl ?_
  refine zT_if0 false rfl (zc_eq_f (by show ((xs 1) : Int32).toInt ≠ 0; omega)) ?_
  refine zT_here (pc2 := 1042) rfl ?_
  refine zT_gos (f := 200000) (pc2 := 1053) (ls2 := [(4, .int 0), (3, .ref 232), (2, .ref 162), (1, .ref 0), (0, .ref 11)]) (st2 := [.int (xs 2), .int 1, .ref 0]) (h2 := zH0) (dc2 := 117) (ds2 := 29934) 7 rfl ?_
  refine zT_gos (f := 200000) (pc2 := 1059) (ls2 := [(4, .int 0), (3, .ref 232), (2, .ref 162), (1, .ref 0), (0, .ref 11)]) (st2 := [.int (xs 3), .int (xs 2), .int 1, .ref 0]) (h2 := zH0) (dc2 := 117) (ds2 := 29934) 5 rfl ?_
  refine zT_val h3 ?_
  refine zT_call (v := some (.int (-99))) (h2 := (((zH0.set 37 (.inr (.inr (.inr (3, [.ref 44, .ref 6, .ref 76, .ref 78, .ref 80, .ref 88, .int 1, .int 0, .ref 96, .int 0, .int 0, .int 0, .ref 98, .ref 100, .int 0]))))).set 44 (.inr (.inr (.inr (6, [.int 1, .long 70644700037184, .int 0, .ref 90, .ref 92, .ref 94]))))).set 47 (.inr (.inl (16, [70644700037184]))))) (d1 := 0) (s1 := 0) rfl rfl ?_ ?_
  · refine zT_gos (f := 200000) (pc2 := 33) (ls2 := [(4, .ref 88), (0, .ref 0), (1, .int 1), (2, .int (xs 2)), (3, .int 1)]) (st2 := [.int (xs 2)]) (h2 := (((zH0.set 37 (.inr (.inr (.inr (3, [.ref 44, .ref 6, .ref 76, .ref 78, .ref 80, .ref 88, .int 1, .int 0, .ref 96, .int 0, .int 0, .int 0, .ref 98, .ref 100, .int 0]))))).set 44 (.inr (.inr (.inr (6, [.int 1, .long 70644700037184, .int 0, .ref 90, .ref 92, .ref 94]))))).set 47 (.inr (.inl (16, [70644700037184]))))) (dc2 := 0) (ds2 := 0) 14 rfl ?_
    refine zT_if0 false rfl (zc_lt_f (by show ((xs 2) : Int32).toInt ≥ 0; omega)) ?_
    refine zT_here (pc2 := 36) rfl ?_
    refine zT_gos (f := 200000) (pc2 := 42) (ls2 := [(4, .ref 88), (0, .ref 0), (1, .int 1), (2, .int (xs 2)), (3, .int 1)]) (st2 := [.int 0, .int (xs 2)]) (h2 := (((zH0.set 37 (.inr (.inr (.inr (3, [.ref 44, .ref 6, .ref 76, .ref 78, .ref 80, .ref 88, .int 1, .int 0, .ref 96, .int 0, .int 0, .int 0, .ref 98, .ref 100, .int 0]))))).set 44 (.inr (.inr (.inr (6, [.int 1, .long 70644700037184, .int 0, .ref 90, .ref 92, .ref 94]))))).set 47 (.inr (.inl (16, [70644700037184]))))) (dc2 := 0) (ds2 := 0) 3 rfl ?_
    refine zT_if2 false rfl (zc_le_f (by show ((xs 2) : Int32).toInt > 0; omega)) ?_
    refine zT_here (pc2 := 45) rfl ?_
    refine zT_gos (f := 200000) (pc2 := 57) (ls2 := [(4, .ref 88), (0, .ref 0), (1, .int 1), (2, .int (xs 2)), (3, .int 1)]) (st2 := [.int (-99)]) (h2 := (((zH0.set 37 (.inr (.inr (.inr (3, [.ref 44, .ref 6, .ref 76, .ref 78, .ref 80, .ref 88, .int 1, .int 0, .ref 96, .int 0, .int 0, .int 0, .ref 98, .ref 100, .int 0]))))).set 44 (.inr (.inr (.inr (6, [.int 1, .long 70644700037184, .int 0, .ref 90, .ref 92, .ref 94]))))).set 47 (.inr (.inl (16, [70644700037184]))))) (dc2 := 0) (ds2 := 0) 2 rfl ?_
    exact zT_ret rfl rfl
  refine zT_here (pc2 := 1062) rfl ?_
  refine zT_gos (f := 200000) (pc2 := 1069) (ls2 := [(4, .int 0), (3, .ref 232), (2, .ref 162), (1, .ref 0), (0, .ref 11)]) (st2 := [.int (xs 1), .ref 162, .int (-99)]) (h2 := (((zH0.set 37 (.inr (.inr (.inr (3, [.ref 44, .ref 6, .ref 76, .ref 78, .ref 80, .ref 88, .int 1, .int 0, .ref 96, .int 0, .int 0, .int 0, .ref 98, .ref 100, .int 0]))))).set 44 (.inr (.inr (.inr (6, [.int 1, .long 70644700037184, .int 0, .ref 90, .ref 92, .ref 94]))))).set 47 (.inr (.inl (16, [70644700037184]))))) (dc2 := 117) (ds2 := 29934) 6 rfl ?_
  refine zT_if0 false rfl (zc_eq_f (by show ((xs 1) : Int32).toInt ≠ 0; omega)) ?_
  refine zT_here (pc2 := 1072) rfl ?_
  refine zT_gos (f := 200000) (pc2 := 1083) (ls2 := [(4, .int 0), (3, .ref 232), (2, .ref 162), (1, .ref 0), (0, .ref 11)]) (st2 := [.int (xs 2), .int 1, .ref 162, .int (-99)]) (h2 := (((zH0.set 37 (.inr (.inr (.inr (3, [.ref 44, .ref 6, .ref 76, .ref 78, .ref 80, .ref 88, .int 1, .int 0, .ref 96, .int 0, .int 0, .int 0, .ref 98, .ref 100, .int 0]))))).set 44 (.inr (.inr (.inr (6, [.int 1, .long 70644700037184, .int 0, .ref 90, .ref 92, .ref 94]))))).set 47 (.inr (.inl (16, [70644700037184]))))) (dc2 := 117) (ds2 := 29934) 7 rfl ?_
  refine zT_gos (f := 200000) (pc2 := 1089) (ls2 := [(4, .int 0), (3, .ref 232), (2, .ref 162), (1, .ref 0), (0, .ref 11)]) (st2 := [.int (xs 3), .int (xs 2), .int 1, .ref 162, .int (-99)]) (h2 := (((zH0.set 37 (.inr (.inr (.inr (3, [.ref 44, .ref 6, .ref 76, .ref 78, .ref 80, .ref 88, .int 1, .int 0, .ref 96, .int 0, .int 0, .int 0, .ref 98, .ref 100, .int 0]))))).set 44 (.inr (.inr (.inr (6, [.int 1, .long 70644700037184, .int 0, .ref 90, .ref 92, .ref 94]))))).set 47 (.inr (.inl (16, [70644700037184]))))) (dc2 := 117) (ds2 := 29934) 5 rfl ?_
  refine zT_val h3 ?_
  refine zT_call (v := some (.int (-99))) (h2 := (((((((zH0.set 37 (.inr (.inr (.inr (3, [.ref 44, .ref 6, .ref 76, .ref 78, .ref 80, .ref 88, .int 1, .int 0, .ref 96, .int 0, .int 0, .int 0, .ref 98, .ref 100, .int 0]))))).set 44 (.inr (.inr (.inr (6, [.int 1, .long 70644700037184, .int 0, .ref 90, .ref 92, .ref 94]))))).set 47 (.inr (.inl (16, [70644700037184])))).set 106 (.inl (2, 2, [0, 1]))).set 105 (.inl (0, 2, [0, 0]))).set 107 (.inl (0, 132, [0, 0, 0, 0, 0, 0, 0, 0, 0, 0, 0, 0, 0, 0, 0, 0, 0, 0, 0, 0, 0, 0, 0, 0, 0, 0, 0, 0, 0, 0, 0, 0, 0, 0, 0, 0, 0, 0, 0, 0, 0, 0, 0, 0, 0, 0, 0, 0, 0, 0, 0, 0, 0, 0, 0, 0, 0, 0, 0, 0, 0, 0, 0, 0, 0, 0, 0, 0, 0, 0, 0, 0]))).set 109 (.inl (0, 22, [0, 0, 0, 0, 0, 0, 0, 0, 0, 0, 0, 0])))) (d1 := 0) (s1 := 0) rfl rfl ?_ ?_
  · refine zT_gos (f := 200000) (pc2 := 7) (ls2 := [(0, .ref 162), (1, .int 1), (2, .int (xs 2)), (3, .int 1)]) (st2 := [.int 1, .ref 162]) (h2 := (((zH0.set 37 (.inr (.inr (.inr (3, [.ref 44, .ref 6, .ref 76, .ref 78, .ref 80, .ref 88, .int 1, .int 0, .ref 96, .int 0, .int 0, .int 0, .ref 98, .ref 100, .int 0]))))).set 44 (.inr (.inr (.inr (6, [.int 1, .long 70644700037184, .int 0, .ref 90, .ref 92, .ref 94]))))).set 47 (.inr (.inl (16, [70644700037184]))))) (dc2 := 0) (ds2 := 0) 5 rfl ?_
    refine zT_call rfl rfl (zT_le (zg0_le 6 xs) zk_o_20) ?_
    refine zT_here (pc2 := 10) rfl ?_
    refine zT_gos (f := 200000) (pc2 := 18) (ls2 := [(4, .int 0), (0, .ref 162), (1, .int 1), (2, .int (xs 2)), (3, .int 1)]) (st2 := [.int (xs 2)]) (h2 := (((((((zH0.set 37 (.inr (.inr (.inr (3, [.ref 44, .ref 6, .ref 76, .ref 78, .ref 80, .ref 88, .int 1, .int 0, .ref 96, .int 0, .int 0, .int 0, .ref 98, .ref 100, .int 0]))))).set 44 (.inr (.inr (.inr (6, [.int 1, .long 70644700037184, .int 0, .ref 90, .ref 92, .ref 94]))))).set 47 (.inr (.inl (16, [70644700037184])))).set 106 (.inl (2, 2, [0, 1]))).set 105 (.inl (0, 2, [0, 0]))).set 107 (.inl (0, 132, [0, 0, 0, 0, 0, 0, 0, 0, 0, 0, 0, 0, 0, 0, 0, 0, 0, 0, 0, 0, 0, 0, 0, 0, 0, 0, 0, 0, 0, 0, 0, 0, 0, 0, 0, 0, 0, 0, 0, 0, 0, 0, 0, 0, 0, 0, 0, 0, 0, 0, 0, 0, 0, 0, 0, 0, 0, 0, 0, 0, 0, 0, 0, 0, 0, 0, 0, 0, 0, 0, 0, 0]))).set 109 (.inl (0, 22, [0, 0, 0, 0, 0, 0, 0, 0, 0, 0, 0, 0])))) (dc2 := 0) (ds2 := 0) 4 rfl ?_
    refine zT_if0 false rfl (zc_lt_f (by show ((xs 2) : Int32).toInt ≥ 0; omega)) ?_
    refine zT_here (pc2 := 21) rfl ?_
    refine zT_gos (f := 200000) (pc2 := 24) (ls2 := [(4, .int 0), (0, .ref 162), (1, .int 1), (2, .int (xs 2)), (3, .int 1)]) (st2 := [.int 0, .int (xs 2)]) (h2 := (((((((zH0.set 37 (.inr (.inr (.inr (3, [.ref 44, .ref 6, .ref 76, .ref 78, .ref 80, .ref 88, .int 1, .int 0, .ref 96, .int 0, .int 0, .int 0, .ref 98, .ref 100, .int 0]))))).set 44 (.inr (.inr (.inr (6, [.int 1, .long 70644700037184, .int 0, .ref 90, .ref 92, .ref 94]))))).set 47 (.inr (.inl (16, [70644700037184])))).set 106 (.inl (2, 2, [0, 1]))).set 105 (.inl (0, 2, [0, 0]))).set 107 (.inl (0, 132, [0, 0, 0, 0, 0, 0, 0, 0, 0, 0, 0, 0, 0, 0, 0, 0, 0, 0, 0, 0, 0, 0, 0, 0, 0, 0, 0, 0, 0, 0, 0, 0, 0, 0, 0, 0, 0, 0, 0, 0, 0, 0, 0, 0, 0, 0, 0, 0, 0, 0, 0, 0, 0, 0, 0, 0, 0, 0, 0, 0, 0, 0, 0, 0, 0, 0, 0, 0, 0, 0, 0, 0]))).set 109 (.inl (0, 22, [0, 0, 0, 0, 0, 0, 0, 0, 0, 0, 0, 0])))) (dc2 := 0) (ds2 := 0) 2 rfl ?_
    refine zT_if2 true rfl (zc_gt_t (by show ((xs 2) : Int32).toInt > 0; omega)) ?_
    refine zT_here (pc2 := 34) rfl ?_
    refine zT_gos (f := 200000) (pc2 := 54) (ls2 := [(4, .int 0), (0, .ref 162), (1, .int 1), (2, .int (xs 2)), (3, .int 1)]) (st2 := [.int (-99)]) (h2 := (((((((zH0.set 37 (.inr (.inr (.inr (3, [.ref 44, .ref 6, .ref 76, .ref 78, .ref 80, .ref 88, .int 1, .int 0, .ref 96, .int 0, .int 0, .int 0, .ref 98, .ref 100, .int 0]))))).set 44 (.inr (.inr (.inr (6, [.int 1, .long 70644700037184, .int 0, .ref 90, .ref 92, .ref 94]))))).set 47 (.inr (.inl (16, [70644700037184])))).set 106 (.inl (2, 2, [0, 1]))).set 105 (.inl (0, 2, [0, 0]))).set 107 (.inl (0, 132, [0, 0, 0, 0, 0, 0, 0, 0, 0, 0, 0, 0, 0, 0, 0, 0, 0, 0, 0, 0, 0, 0, 0, 0, 0, 0, 0, 0, 0, 0, 0, 0, 0, 0, 0, 0, 0, 0, 0, 0, 0, 0, 0, 0, 0, 0, 0, 0, 0, 0, 0, 0, 0, 0, 0, 0, 0, 0, 0, 0, 0, 0, 0, 0, 0, 0, 0, 0, 0, 0, 0, 0]))).set 109 (.inl (0, 22, [0, 0, 0, 0, 0, 0, 0, 0, 0, 0, 0, 0])))) (dc2 := 0) (ds2 := 0) 2 rfl ?_
    exact zT_ret rfl rfl
  refine zT_here (pc2 := 1092) rfl ?_
  refine zT_gos (f := 200000) (pc2 := 1811) (ls2 := [(4, .int 6), (3, .ref 232), (2, .ref 162), (1, .ref 0), (0, .ref 11)]) (st2 := [.int 1]) (h2 := (((((((zH0.set 37 (.inr (.inr (.inr (3, [.ref 44, .ref 6, .ref 76, .ref 78, .ref 80, .ref 88, .int 1, .int 0, .ref 96, .int 0, .int 0, .int 0, .ref 98, .ref 100, .int 0]))))).set 44 (.inr (.inr (.inr (6, [.int 1, .long 70644700037184, .int 0, .ref 90, .ref 92, .ref 94]))))).set 47 (.inr (.inl (16, [70644700037184])))).set 106 (.inl (2, 2, [0, 1]))).set 105 (.inl (0, 2, [0, 0]))).set 107 (.inl (0, 132, [0, 0, 0, 0, 0, 0, 0, 0, 0, 0, 0, 0, 0, 0, 0, 0, 0, 0, 0, 0, 0, 0, 0, 0, 0, 0, 0, 0, 0, 0, 0, 0, 0, 0, 0, 0, 0, 0, 0, 0, 0, 0, 0, 0, 0, 0, 0, 0, 0, 0, 0, 0, 0, 0, 0, 0, 0, 0, 0, 0, 0, 0, 0, 0, 0, 0, 0, 0, 0, 0, 0, 0]))).set 109 (.inl (0, 22, [0, 0, 0, 0, 0, 0, 0, 0, 0, 0, 0, 0])))) (dc2 := 117) (ds2 := 29934) 10 rfl ?_
  exact zT_ret rfl rfl
set_option maxRecDepth 1000000 in
theorem zk_o_131 : zT zg0 zF zP 124 0 [(0, .ref 0), (1, .int 1), (2, .int 0), (3, .int 1)] [] zH0 0 0 (some (.int 0), (((zH0.set 37 (.inr (.inr (.inr (3, [.ref 44, .ref 6, .ref 76, .ref 78, .ref 80, .ref 88, .int 1, .int 0, .ref 96, .int 0, .int 0, .int 0, .ref 98, .ref 100, .int 0]))))).set 44 (.inr (.inr (.inr (6, [.int 1, .long 70644700037184, .int 0, .ref 90, .ref 92, .ref 94]))))).set 47 (.inr (.inl (16, [70644700037184])))), 0, 0) := zclosed (n := 149) (by decide +kernel)
set_option maxRecDepth 1000000 in
theorem zk_o_132 : zT zg0 zF zP 255 0 [(0, .ref 162), (1, .int 1), (2, .int 0), (3, .int 1)] [] (((zH0.set 37 (.inr (.inr (.inr (3, [.ref 44, .ref 6, .ref 76, .ref 78, .ref 80, .ref 88, .int 1, .int 0, .ref 96, .int 0, .int 0, .int 0, .ref 98, .ref 100, .int 0]))))).set 44 (.inr (.inr (.inr (6, [.int 1, .long 70644700037184, .int 0, .ref 90, .ref 92, .ref 94]))))).set 47 (.inr (.inl (16, [70644700037184])))) 0 0 (some (.int 0), (((((((zH0.set 37 (.inr (.inr (.inr (3, [.ref 44, .ref 6, .ref 76, .ref 78, .ref 80, .ref 88, .int 1, .int 0, .ref 96, .int 0, .int 0, .int 0, .ref 98, .ref 100, .int 0]))))).set 44 (.inr (.inr (.inr (6, [.int 1, .long 70644700037184, .int 0, .ref 90, .ref 92, .ref 94]))))).set 47 (.inr (.inl (16, [70644700037184])))).set 106 (.inl (2, 2, [0, 1]))).set 105 (.inl (0, 2, [0, 0]))).set 107 (.inl (0, 132, [0, 0, 0, 0, 0, 0, 0, 0, 0, 0, 0, 0, 0, 0, 0, 0, 0, 0, 0, 0, 0, 0, 0, 0, 0, 0, 0, 0, 0, 0, 0, 0, 0, 0, 0, 0, 0, 0, 0, 0, 0, 0, 0, 0, 0, 0, 0, 0, 0, 0, 0, 0, 0, 0, 0, 0, 0, 0, 0, 0, 0, 0, 0, 0, 0, 0, 0, 0, 0, 0, 0, 0]))).set 109 (.inl (0, 22, [0, 0, 0, 0, 0, 0, 0, 0, 0, 0, 0, 0]))), 0, 0) := zclosed (n := 230) (by decide +kernel)
set_option maxRecDepth 1000000 in
set_option maxHeartbeats 4000000 in
theorem zo_23_35 (xs : Nat → Int32) (h0 : xs 0 &&& 63 = 23) (h1 : (xs 1).toInt ≠ 0) (h3 : xs 3 = 1) (h2 : xs 2 = 0) : zDone xs := by
  refine ⟨(((((((zH0.set 37 (.inr (.inr (.inr (3, [.ref 44, .ref 6, .ref 76, .ref 78, .ref 80, .ref 88, .int 1, .int 0, .ref 96, .int 0, .int 0, .int 0, .ref 98, .ref 100, .int 0]))))).set 44 (.inr (.inr (.inr (6, [.int 1, .long 70644700037184, .int 0, .ref 90, .ref 92, .ref 94]))))).set 47 (.inr (.inl (16, [70644700037184])))).set 106 (.inl (2, 2, [0, 1]))).set 105 (.inl (0, 2, [0, 0]))).set 107 (.inl (0, 132, [0, 0, 0, 0, 0, 0, 0, 0, 0, 0, 0, 0, 0, 0, 0, 0, 0, 0, 0, 0, 0, 0, 0, 0, 0, 0, 0, 0, 0, 0, 0, 0, 0, 0, 0, 0, 0, 0, 0, 0, 0, 0, 0, 0, 0, 0, 0, 0, 0, 0, 0, 0, 0, 0, 0, 0, 0, 0, 0, 0, 0, 0, 0, 0, 0, 0, 0, 0, 0, 0, 0, 0]))).set 109 (.inl (0, 22, [0, 0, 0, 0, 0, 0, 0, 0, 0, 0, 0, 0]))), 117, 29934, ?_, by decide, by decide⟩
  refine zT_gos (f := 200000) (pc2 := 37) (ls2 := [(4, .int 0), (3, .ref 232), (2, .ref 162), (1, .ref 0), (0, .ref 11)]) (st2 := [.int (xs 0)]) (h2 := zH0) (dc2 := 117) (ds2 := 29934) 9 rfl ?_
  refine zT_gos (f := 200000) (pc2 := 40) (ls2 := [(4, .int 0), (3, .ref 232), (2, .ref 162), (1, .ref 0), (0, .ref 11)]) (st2 := [.int ((xs 0) &&& (63 : Int32))]) (h2 := zH0) (dc2 := 117) (ds2 := 29934) 2 rfl ?_
  refine zT_val h0 ?_
  refine zT_gos (f := 200000) (pc2 := 1039) (ls2 := [(4, .int 0), (3, .ref 232), (2, .ref 162), (1, .ref 0), (0, .ref 11)]) (st2 := [.int (xs 1), .ref 0]) (h2 := zH0) (dc2 := 117) (ds2 := 29934) 7 rfl ?_
  refine zT_if0 false rfl (zc_eq_f (by show ((xs 1) : Int32).toInt ≠ 0; omega)) ?_
  refine zT_here (pc2 := 1042) rfl ?_
  refine zT_gos (f := 200000) (pc2 := 1053) (ls2 := [(4, .int 0), (3, .ref 232), (2, .ref 162), (1, .ref 0), (0, .ref 11)]) (st2 := [.int (xs 2), .int 1, .ref 0]) (h2 := zH0) (dc2 := 117) (ds2 := 29934) 7 rfl ?_
  refine zT_val h2 ?_
  refine zT_gos (f := 200000) (pc2 := 1059) (ls2 := [(4, .int 0), (3, .ref 232), (2, .ref 162), (1, .ref 0), (0, .ref 11)]) (st2 := [.int (xs 3), .int 0, .int 1, .ref 0]) (h2 := zH0) (dc2 := 117) (ds2 := 29934) 5 rfl ?_
  refine zT_val h3 ?_
  refine zT_call rfl rfl (zT_le (zg0_le 6 xs) zk_o_131) ?_
  refine zT_here (pc2 := 1062) rfl ?_
  refine zT_gos (f := 200000) (pc2 := 1069) (ls2 := [(4, .int 0), (3, .ref 232), (2, .ref 162), (1, .ref 0), (0, .ref 11)]) (st2 := [.int (xs 1), .ref 162, .int 0]) (h2 := (((zH0.set 37 (.inr (.inr (.inr (3, [.ref 44, .ref 6, .ref 76, .ref 78, .ref 80, .ref 88, .int 1, .int 0, .ref 96, .int 0, .int 0, .int 0, .ref 98, .ref 100, .int 0]))))).set 44 (.inr (.inr (.inr (6, [.int 1, .long 70644700037184, .int 0, .ref 90, .ref 92, .ref 94]))))).set 47 (.inr (.inl (16, [70644700037184]))))) (dc2 := 117) (ds2 := 29934) 6 rfl ?_
  refine zT_if0 false rfl (zc_eq_f (by show ((xs 1) : Int32).toInt ≠ 0; omega)) ?_
  refine zT_here (pc2 := 1072) rfl ?_
  refine zT_gos (f := 200000) (pc2 := 1083) (ls2 := [(4, .int 0), (3, .ref 232), (2, .ref 162), (1, .ref 0), (0, .ref 11)]) (st2 := [.int (xs 2), .int 1, .ref 162, .int 0]) (h2 := (((zH0.set 37 (.inr (.inr (.inr (3, [.ref 44, .ref 6, .ref 76, .ref 78, .ref 80, .ref 88, .int 1, .int 0, .ref 96, .int 0, .int 0, .int 0, .ref 98, .ref 100, .int 0]))))).set 44 (.inr (.inr (.inr (6, [.int 1, .long 70644700037184, .int 0, .ref 90, .ref 92, .ref 94]))))).set 47 (.inr (.inl (16, [70644700037184]))))) (dc2 := 117) (ds2 := 29934) 7 rfl ?_
  refine zT_val h2 ?_
  refine zT_gos (f := 200000) (pc2 := 1089) (ls2 := [(4, .int 0), (3, .ref 232), (2, .ref 162), (1, .ref 0), (0, .ref 11)]) (st2 := [.int (xs 3), .int 0, .int 1, .ref 162, .int 0]) (h2 := (((zH0.set 37 (.inr (.inr (.inr (3, [.ref 44, .ref 6, .ref 76, .ref 78, .ref 80, .ref 88, .int 1, .int 0, .ref 96, .int 0, .int 0, .int 0, .ref 98, .ref 100, .int 0]))))).set 44 (.inr (.inr (.inr (6, [.int 1, .long 70644700037184, .int 0, .ref 90, .ref 92, .ref 94]))))).set 47 (.inr (.inl (16, [70644700037184]))))) (dc2 := 117) (ds2 := 29934) 5 rfl ?_
  refine zT_val h3 ?_
  refine zT_call rfl rfl (zT_le (zg0_le 6 xs) zk_o_132) ?_
  refine zT_here (pc2 := 1092) rfl ?_
  refine zT_gos (f := 200000) (pc2 := 1811) (ls2 := [(4, .int 6), (3, .ref 232), (2, .ref 162), (1, .ref 0), (0, .ref 11)]) (st2 := [.int 1]) (h2 := (((((((zH0.set 37 (.inr (.inr (.inr (3, [.ref 44, .ref 6, .ref 76, .ref 78, .ref 80, .ref 88, .int 1, .int 0, .ref 96, .int 0, .int 0, .int 0, .ref 98, .ref 100, .int 0]))))).set 44 (.inr (.inr (.inr (6, [.int 1, .long 70644700037184, .int 0, .ref 90, .ref 92, .ref 94]))))).set 47 (.inr (.inl (16, [70644700037184])))).set 106 (.inl (2, 2, [0, 1]))).set 105 (.inl (0, 2, [0, 0]))).set 107 (.inl (0, 132, [0, 0, 0, 0, 0, 0, 0, 0, 0, 0, 0, 0, 0, 0, 0, 0, 0, 0, 0, 0, 0, 0, 0, 0, 0, 0, 0, 0, 0, 0, 0, 0, 0, 0, 0, 0, 0, 0, 0, 0, 0, 0, 0, 0, 0, 0, 0, 0, 0, 0, 0, 0, 0, 0, 0, 0, 0, 0, 0, 0, 0, 0, 0, 0, 0, 0, 0, 0, 0, 0, 0, 0]))).set 109 (.inl (0, 22, [0, 0, 0, 0, 0, 0, 0, 0, 0, 0, 0, 0])))) (dc2 := 117) (ds2 := 29934) 10 rfl ?_
  exact zT_ret rfl rfl
set_option maxRecDepth 1000000 in
set_option maxHeartbeats 4000000 in
theorem zo_23_36 (xs : Nat → Int32) (h0 : xs 0 &&& 63 = 23) (h1 : (xs 1).toInt ≠ 0) (h3 : xs 3 = 2) (h2 : (xs 2).toInt < 0) : zDone xs := by
  refine ⟨(((((((zH0.set 37 (.inr (.inr (.inr (3, [.ref 44, .ref 6, .ref 76, .ref 78, .ref 80, .ref 88, .int 1, .int 0, .ref 96, .int 0, .int 0, .int 0, .ref 98, .ref 100, .int 0]))))).set 44 (.inr (.inr (.inr (6, [.int 1, .long 70644700037184, .int 0, .ref 90, .ref 92, .ref 94]))))).set 47 (.inr (.inl (16, [70644700037184])))).set 106 (.inl (2, 2, [0, 1]))).set 105 (.inl (0, 2, [0, 0]))).set 107 (.inl (0, 132, [0, 0, 0, 0, 0, 0, 0, 0, 0, 0, 0, 0, 0, 0, 0, 0, 0, 0, 0, 0, 0, 0, 0, 0, 0, 0, 0, 0, 0, 0, 0, 0, 0, 0, 0, 0, 0, 0, 0, 0, 0, 0, 0, 0, 0, 0, 0, 0, 0, 0, 0, 0, 0, 0, 0, 0, 0, 0, 0, 0, 0, 0, 0, 0, 0, 0, 0, 0, 0, 0, 0, 0]))).set 109 (.inl (0, 22, [0, 0, 0, 0, 0, 0, 0, 0, 0, 0, 0, 0]))), 117, 29934, ?_, by decide, by decide⟩
  refine zT_gos (f := 200000) (pc2 := 37) (ls2 := [(4, .int 0), (3, .ref 232), (2, .ref 162), (1, .ref 0), (0, .ref 11)]) (st2 := [.int (xs 0)]) (h2 := zH0) (dc2 := 117) (ds2 := 29934) 9 rfl ?_
  refine zT_gos (f := 200000) (pc2 := 40) (ls2 := [(4, .int 0), (3, .ref 232), (2, .ref 162), (1, .ref 0), (0, .ref 11)]) (st2 := [.int ((xs 0) &&& (63 : Int32))]) (h2 := zH0) (dc2 := 117) (ds2 := 29934) 2 rfl ?_
  refine zT_val h0 ?_
  refine zT_gos (f := 200000) (pc2 := 1039) (ls2 := [(4, .int 0), (3, .ref 232), (2, .ref 162), (1, .ref 0), (0, .ref 11)]) (st2 := [.int (xs 1), .ref 0]) (h2 := zH0) (dc2 := 117) (ds2 := 29934) 7 rfl ?_
  refine zT_if0 false rfl (zc_eq_f (by show ((xs 1) : Int32).toInt ≠ 0; omega)) ?_
  refine zT_here (pc2 := 1042) rfl ?_
  refine zT_gos (f := 200000) (pc2 := 1053) (ls2 := [(4, .int 0), (3, .ref 232), (2, .ref 162), (1, .ref 0), (0, .ref 11)]) (st2 := [.int (xs 2), .int 1, .ref 0]) (h2 := zH0) (dc2 := 117) (ds2 := 29934) 7 rfl ?_
  refine zT_gos (f := 200000) (pc2 := 1059) (ls2 := [(4, .int 0), (3, .ref 232), (2, .ref 162), (1, .ref 0), (0, .ref 11)]) (st2 := [.int (xs 3), .int (xs 2), .int 1, .ref 0]) (h2 := zH0) (dc2 := 117) (ds2 := 29934) 5 rfl ?_
  refine zT_val h3 ?_
  refine zT_call (v := some (.int (-99))) (h2 := (((zH0.set 37 (.inr (.inr (.inr (3, [.ref 44, .ref 6, .ref 76, .ref 78, .ref 80, .ref 88, .int 1, .int 0, .ref 96, .int 0, .int 0, .int 0, .ref 98, .ref 100, .int 0]))))).set 44 (.inr (.inr (.inr (6, [.int 1, .long 70644700037184, .int 0, .ref 90, .ref 92, .ref 94]))))).set 47 (.inr (.inl (16, [70644700037184]))))) (d1 := 0) (s1 := 0) rfl rfl ?_ ?_
  · refine zT_gos (f := 200000) (pc2 := 33) (ls2 := [(4, .ref 88), (0, .ref 0), (1, .int 1), (2, .int (xs 2)), (3, .int 2)]) (st2 := [.int (xs 2)]) (h2 := (((zH0.set 37 (.inr (.inr (.inr (3, [.ref 44, .ref 6, .ref 76, .ref 78, .ref 80, .ref 88, .int 1, .int 0, .ref 96, .int 0, .int 0, .int 0, .ref 98, .ref 100, .int 0]))))).set 44 (.inr (.inr (.inr (6, [.int 1, .long 70644700037184, .int 0, .ref 90, .ref 92, .ref 94]))))).set 47 (.inr (.inl (16, [70644700037184]))))) (dc2 := 0) (ds2 := 0) 14 rfl ?_
    refine zT_if0 true rfl (zc_lt_t (by show ((xs 2) : Int32).toInt < 0; omega)) ?_
    refine zT_here (pc2 := 45) rfl ?_
    refine zT_gos (f := 200000) (pc2 := 57) (ls2 := [(4, .ref 88), (0, .ref 0), (1, .int 1), (2, .int (xs 2)), (3, .int 2)]) (st2 := [.int (-99)]) (h2 := (((zH0.set 37 (.inr (.inr (.inr (3, [.ref 44, .ref 6, .ref 76, .ref 78, .ref 80, .ref 88, .int 1, .int 0, .ref 96, .int 0, .int 0, .int 0, .ref 98, .ref 100, .int 0]))))).set 44 (.inr (.inr (.inr (6, [.int 1, .long 70644700037184, .int 0, .ref 90, .ref 92, .ref 94]))))).set 47 (.inr (.inl (16, [70644700037184]))))) (dc2 := 0) (ds2 := 0) 2 rfl ?_
    exact zT_ret rfl rfl
  refine zT_here (pc2 := 1062) rfl ?_
  refine zT_gos (f := 200000) (pc2 := 1069) (ls2 := [(4, .int 0), (3, .ref 232), (2, .ref 162), (1, .ref 0), (0, .ref 11)]) (st2 := [.int (xs 1), .ref 162, .int (-99)]) (h2 := (((zH0.set 37 (.inr (.inr (.inr (3, [.ref 44, .ref 6, .ref 76, .ref 78, .ref 80, .ref 88, .int 1, .int 0, .ref 96, .int 0, .int 0, .int 0, .ref 98, .ref 100, .int 0]))))).set 44 (.inr (.inr (.inr (6, [.int 1, .long 70644700037184, .int 0, .ref 90, .ref 92, .ref 94]))))).set 47 (.inr (.inl (16, [70644700037184]))))) (dc2 := 117) (ds2 := 29934) 6 rfl ?_
  refine zT_if0 false rfl (zc_eq_f (by show ((xs 1) : Int32).toInt ≠ 0; omega)) ?_
  refine zT_here (pc2 := 1072) rfl ?_
  refine zT_gos (f := 200000) (pc2 := 1083) (ls2 := [(4, .int 0), (3, .ref 232), (2, .ref 162), (1, .ref 0), (0, .ref 11)]) (st2 := [.int (xs 2), .int 1, .ref 162, .int (-99)]) (h2 := (((zH0.set 37 (.inr (.inr (.inr (3, [.ref 44, .ref 6, .ref 76, .ref 78, .ref 80, .ref 88, .int 1, .int 0, .ref 96, .int 0, .int 0, .int 0, .ref 98, .ref 100, .int 0]))))).set 44 (.inr (.inr (.inr (6, [.int 1, .long 70644700037184, .int 0, .ref 90, .ref 92, .ref 94]))))).set 47 (.inr (.inl (16, [70644700037184]))))) (dc2 := 117) (ds2 := 29934) 7 rfl ?_
  refine zT_gos (f := 200000) (pc2 := 1089) (ls2 := [(4, .int 0), (3, .ref 232), (2, .ref 162), (1, .ref 0), (0, .ref 11)]) (st2 := [.int (xs 3), .int (xs 2), .int 1, .ref 162, .int (-99)]) (h2 := (((zH0.set 37 (.inr (.inr (.inr (3, [.ref 44, .ref 6, .ref 76, .ref 78, .ref 80, .ref 88, .int 1, .int 0, .ref 96, .int 0, .int 0, .int 0, .ref 98, .ref 100, .int 0]))))).set 44 (.inr (.inr (.inr (6, [.int 1, .long 70644700037184, .int 0, .ref 90, .ref 92, .ref 94]))))).set 47 (.inr (.inl (16, [70644700037184]))))) (dc2 := 117) (ds2 := 29934) 5 rfl ?_
  refine zT_val h3 ?_
  refine zT_call (v := some (.int (-99))) (h2 := (((((((zH0.set 37 (.inr (.inr (.inr (3, [.ref 44, .ref 6, .ref 76, .ref 78, .ref 80, .ref 88, .int 1, .int 0, .ref 96, .int 0, .int 0, .int 0, .ref 98, .ref 100, .int 0]))))).set 44 (.inr (.inr (.inr (6, [.int 1, .long 70644700037184, .int 0, .ref 90, .ref 92, .ref 94]))))).set 47 (.inr (.inl (16, [70644700037184])))).set 106 (.inl (2, 2, [0, 1]))).set 105 (.inl (0, 2, [0, 0]))).set 107 (.inl (0, 132, [0, 0, 0, 0, 0, 0, 0, 0, 0, 0, 0, 0, 0, 0, 0, 0, 0, 0, 0, 0, 0, 0, 0, 0, 0, 0, 0, 0, 0, 0, 0, 0, 0, 0, 0, 0, 0, 0, 0, 0, 0, 0, 0, 0, 0, 0, 0, 0, 0, 0, 0, 0, 0, 0, 0, 0, 0, 0, 0, 0, 0, 0, 0, 0, 0, 0, 0, 0, 0, 0, 0, 0]))).set 109 (.inl (0, 22, [0, 0, 0, 0, 0, 0, 0, 0, 0, 0, 0, 0])))) (d1 := 0) (s1 := 0) rfl rfl ?_ ?_
  · refine zT_gos (f := 200000) (pc2 := 7) (ls2 := [(0, .ref 162), (1, .int 1), (2, .int (xs 2)), (3, .int 2)]) (st2 := [.int 1, .ref 162]) (h2 := (((zH0.set 37 (.inr (.inr (.inr (3, [.ref 44, .ref 6, .ref 76, .ref 78, .ref 80, .ref 88, .int 1, .int 0, .ref 96, .int 0, .int 0, .int 0, .ref 98, .ref 100, .int 0]))))).set 44 (.inr (.inr (.inr (6, [.int 1, .long 70644700037184, .int 0, .ref 90, .ref 92, .ref 94]))))).set 47 (.inr (.inl (16, [70644700037184]))))) (dc2 := 0) (ds2 := 0) 5 rfl ?_
    refine zT_call rfl rfl (zT_le (zg0_le 6 xs) zk_o_20) ?_
    refine zT_here (pc2 := 10) rfl ?_
    refine zT_gos (f := 200000) (pc2 := 18) (ls2 := [(4, .int 0), (0, .ref 162), (1, .int 1), (2, .int (xs 2)), (3, .int 2)]) (st2 := [.int (xs 2)]) (h2 := (((((((zH0.set 37 (.inr (.inr (.inr (3, [.ref 44, .ref 6, .ref 76, .ref 78, .ref 80, .ref 88, .int 1, .int 0, .ref 96, .int 0, .int 0, .int 0, .ref 98, .ref 100, .int 0]))))).set 44 (.inr (.inr (.inr (6, [.int 1, .long 70644700037184, .int 0, .ref 90, .ref 92, .ref 94]))))).set 47 (.inr (.inl (16, [70644700037184])))).set 106 (.inl (2, 2, [0, 1]))).set 105 (.inl (0, 2, [0, 0]))).set 107 (.inl (0, 132, [0, 0, 0, 0, 0, 0, 0, 0, 0, 0, 0, 0, 0, 0, 0, 0, 0, 0, 0, 0, 0, 0, 0, 0, 0, 0, 0, 0, 0, 0, 0, 0, 0, 0, 0, 0, 0, 0, 0, 0, 0, 0, 0, 0, 0, 0, 0, 0, 0, 0, 0, 0, 0, 0, 0, 0, 0, 0, 0, 0, 0, 0, 0, 0, 0, 0, 0, 0, 0, 0, 0, 0]))).set 109 (.inl (0, 22, [0, 0, 0, 0, 0, 0, 0, 0, 0, 0, 0, 0])))) (dc2 := 0) (ds2 := 0) 4 rfl ?_
    refine zT_if0 true rfl (zc_lt_t (by show ((xs 2) : Int32).toInt < 0; omega)) ?_
    refine zT_here (pc2 := 34) rfl ?_
    refine zT_gos (f := 200000) (pc2 := 54) (ls2 := [(4, .int 0), (0, .ref 162), (1, .int 1), (2, .int (xs 2)), (3, .int 2)]) (st2 := [.int (-99)]) (h2 := (((((((zH0.set 37 (.inr (.inr (.inr (3, [.ref 44, .ref 6, .ref 76, .ref 78, .ref 80, .ref 88, .int 1, .int 0, .ref 96, .int 0, .int 0, .int 0, .ref 98, .ref 100, .int 0]))))).set 44 (.inr (.inr (.inr (6, [.int 1, .long 70644700037184, .int 0, .ref 90, .ref 92, .ref 94]))))).set 47 (.inr (.inl (16, [70644700037184])))).set 106 (.inl (2, 2, [0, 1]))).set 105 (.inl (0, 2, [0, 0]))).set 107 (.inl (0, 132, [0, 0, 0, 0, 0, 0, 0, 0, 0, 0, 0, 0, 0, 0, 0, 0, 0, 0, 0, 0, 0, 0, 0, 0, 0, 0, 0, 0, 0, 0, 0, 0, 0, 0, 0, 0, 0, 0, 0, 0, 0, 0, 0, 0, 0, 0, 0, 0, 0, 0, 0, 0, 0, 0, 0, 0, 0, 0, 0, 0, 0, 0, 0, 0, 0, 0, 0, 0, 0, 0, 0, 0]))).set 109 (.inl (0, 22, [0, 0, 0, 0, 0, 0, 0, 0, 0, 0, 0, 0])))) (dc2 := 0) (ds2 := 0) 2 rfl ?_
    exact zT_ret rfl rfl
  refine zT_here (pc2 := 1092) rfl ?_
  refine zT_gos (f := 200000) (pc2 := 1811) (ls2 := [(4, .int 6), (3, .ref 232), (2, .ref 162), (1, .ref 0), (0, .ref 11)]) (st2 := [.int 1]) (h2 := (((((((zH0.set 37 (.inr (.inr (.inr (3, [.ref 44, .ref 6, .ref 76, .ref 78, .ref 80, .ref 88, .int 1, .int 0, .ref 96, .int 0, .int 0, .int 0, .ref 98, .ref 100, .int 0]))))).set 44 (.inr (.inr (.inr (6, [.int 1, .long 70644700037184, .int 0, .ref 90, .ref 92, .ref 94]))))).set 47 (.inr (.inl (16, [70644700037184])))).set 106 (.inl (2, 2, [0, 1]))).set 105 (.inl (0, 2, [0, 0]))).set 107 (.inl (0, 132, [0, 0, 0, 0, 0, 0, 0, 0, 0, 0, 0, 0, 0, 0, 0, 0, 0, 0, 0, 0, 0, 0, 0, 0, 0, 0, 0, 0, 0, 0, 0, 0, 0, 0, 0, 0, 0, 0, 0, 0, 0, 0, 0, 0, 0, 0, 0, 0, 0, 0, 0, 0, 0, 0, 0, 0, 0, 0, 0, 0, 0, 0, 0, 0, 0, 0, 0, 0, 0, 0, 0, 0]))).set 109 (.inl (0, 22, [0, 0, 0, 0, 0, 0, 0, 0, 0, 0, 0, 0])))) (dc2 := 117) (ds2 := 29934) 10 rfl ?_
  exact zT_ret rfl rfl
set_option maxRecDepth 1000000 in
set_option maxHeartbeats 4000000 in
theorem zo_23_37 (xs : Nat → Int32) (h0 : xs 0 &&& 63 = 23) (h1 : (xs 1).toInt ≠ 0) (h3 : xs 3 = 2) (h2 : 0 < (xs 2).toInt) : zDone xs := by
  refine ⟨(((((((zH0.set 37 (.inr (.inr (.inr (3, [.ref 44, .ref 6, .ref 76, .ref 78, .ref 80, .ref 88, .int 1, .int 0, .ref 96, .int 0, .int 0, .int 0, .ref 98, .ref 100, .int 0]))))).set 44 (.inr (.inr (.inr (6, [.int 1, .long 70644700037184, .int 0, .ref 90, .ref 92, .ref 94]))))).set 47 (.inr (.inl (16, [70644700037184])))).set 106 (.inl (2, 2, [0, 1]))).set 105 (.inl (0, 2, [0, 0]))).set 107 (.inl (0, 132, [0, 0, 0, 0, 0, 0, 0, 0, 0, 0, 0, 0, 0, 0, 0, 0, 0, 0, 0, 0, 0, 0, 0, 0, 0, 0, 0, 0, 0, 0, 0, 0, 0, 0, 0, 0, 0, 0, 0, 0, 0, 0, 0, 0, 0, 0, 0, 0, 0, 0, 0, 0, 0, 0, 0, 0, 0, 0, 0, 0, 0, 0, 0, 0, 0, 0, 0, 0, 0, 0, 0, 0]))).set 109 (.inl (0, 22, [0, 0, 0, 0, 0, 0, 0, 0, 0, 0, 0, 0]))), 117, 29934, ?_, by decide, by decide⟩
  refine zT_gos (f := 200000) (pc2 := 37) (ls2 := [(4, .int 0), (3, .ref 232), (2, .ref 162), (1, .ref 0), (0, .ref 11)]) (st2 := [.int (xs 0)]) (h2 := zH0) (dc2 := 117) (ds2 := 29934) 9 rfl ?_
  refine zT_gos (f := 200000) (pc2 := 40) (ls2 := [(4, .int 0), (3, .ref 232), (2, .ref 162), (1, .ref 0), (0, .ref 11)]) (st2 := [.int ((xs 0) &&& (63 : Int32))]) (h2 := zH0) (dc2 := 117) (ds2 := 29934) 2 rfl ?_
  refine zT_val h0 ?_
  refine zT_gos (f := 200000) (pc2 := 1039) (ls2 := [(4, .int 0), (3, .ref 232), (2, .ref 162), (1, .ref 0), (0, .ref 11)]) (st2 := [.int (xs 1), .ref 0]) (h2 := zH0) (dc2 := 117) (ds2 := 29934) 7 rfl ?_
  refine zT_if0 false rfl (zc_eq_f (by show ((xs 1) : Int32).toInt ≠ 0; omega)) ?_
  refine zT_here (pc2 := 1042) rfl ?_
  refine zT_gos (f := 200000) (pc2 := 1053) (ls2 := [(4, .int 0), (3, .ref 232), (2, .ref 162), (1, .ref 0), (0, .ref 11)]) (st2 := [.int (xs 2), .int 1, .ref 0]) (h2 := zH0) (dc2 := 117) (ds2 := 29934) 7 rfl ?_
  refine zT_gos (f := 200000) (pc2 := 1059) (ls2 := [(4, .int 0), (3, .ref 232), (2, .ref 162), (1, .ref 0), (0, .ref 11)]) (st2 := [.int (xs 3), .int (xs 2), .int 1, .ref 0]) (h2 := zH0) (dc2 := 117) (ds2 := 29934) 5 rfl ?_
  refine zT_val h3 ?_
  refine zT_call (v := some (.int (-99))) (h2 := (((zH0.set 37 (.inr (.inr (.inr (3, [.ref 44, .ref 6, .ref 76, .ref 78, .ref 80, .ref 88, .int 1, .int 0, .ref 96, .int 0, .int 0, .int 0, .ref 98, .ref 100, .int 0]))))).set 44 (.inr (.inr (.inr (6, [.int 1, .long 70644700037184, .int 0, .ref 90, .ref 92, .ref 94]))))).set 47 (.inr (.inl (16, [70644700037184]))))) (d1 := 0) (s1 := 0) rfl rfl ?_ ?_
  · refine zT_gos (f := 200000) (pc2 := 33) (ls2 := [(4, .ref 88), (0, .ref 0), (1, .int 1), (2, .int (xs 2)), (3, .int 2)]) (st2 := [.int (xs 2)]) (h2 := (((zH0.set 37 (.inr (.inr (.inr (3, [.ref 44, .ref 6, .ref 76, .ref 78, .ref 80, .ref 88, .int 1, .int 0, .ref 96, .int 0, .int 0, .int 0, .ref 98, .ref 100, .int 0]))))).set 44 (.inr (.inr (.inr (6, [.int 1, .long 70644700037184, .int 0, .ref 90, .ref 92, .ref 94]))))).set 47 (.inr (.inl (16, [70644700037184]))))) (dc2 := 0) (ds2 := 0) 14 rfl ?_
    refine zT_if0 false rfl (zc_lt_f (by show ((xs 2) : Int32).toInt ≥ 0; omega)) ?_
    refine zT_here (pc2 := 36) rfl ?_
    refine zT_gos (f := 200000) (pc2 := 42) (ls2 := [(4, .ref 88), (0, .ref 0), (1, .int 1), (2, .int (xs 2)), (3, .int 2)]) (st2 := [.int 0, .int (xs 2)]) (h2 := (((zH0.set 37 (.inr (.inr (.inr (3, [.ref 44, .ref 6, .ref 76, .ref 78, .ref 80, .ref 88, .int 1, .int 0, .ref 96, .int 0, .int 0, .int 0, .ref 98, .ref 100, .int 0]))))).set 44 (.inr (.inr (.inr (6, [.int 1, .long 70644700037184, .int 0, .ref 90, .ref 92, .ref 94]))))).set 47 (.inr (.inl (16, [70644700037184]))))) (dc2 := 0) (ds2 := 0) 3 rfl ?_
    refine zT_if2 false rfl (zc_le_f (by show ((xs 2) : Int32).toInt > 0; omega)) ?_
    refine zT_here (pc2 := 45) rfl ?_
    refine zT_gos (f := 200000) (pc2 := 57) (ls2 := [(4, .ref 88), (0, .ref 0), (1, .int 1), (2, .int (xs 2)), (3, .int 2)]) (st2 := [.int (-99)]) (h2 := (((zH0.set 37 (.inr (.inr (.inr (3, [.ref 44, .ref 6, .ref 76, .ref 78, .ref 80, .ref 88, .int 1, .int 0, .ref 96, .int 0, .int 0, .int 0, .ref 98, .ref 100, .int 0]))))).set 44 (.inr (.inr (.inr (6, [.int 1, .long 70644700037184, .int 0, .ref 90, .ref 92, .ref 94]))))).set 47 (.inr (.inl (16, [70644700037184]))))) (dc2 := 0) (ds2 := 0) 2 rfl ?_
    exact zT_ret rfl rfl
  refine zT_here (pc2 := 1062) rfl ?_
  refine zT_gos (f := 200000) (pc2 := 1069) (ls2 := [(4, .int 0), (3, .ref 232), (2, .ref 162), (1, .ref 0), (0, .ref 11)]) (st2 := [.int (xs 1), .ref 162, .int (-99)]) (h2 := (((zH0.set 37 (.inr (.inr (.inr (3, [.ref 44, .ref 6, .ref 76, .ref 78, .ref 80, .ref 88, .int 1, .int 0, .ref 96, .int 0, .int 0, .int 0, .ref 98, .ref 100, .int 0]))))).set 44 (.inr (.inr (.inr (6, [.int 1, .long 70644700037184, .int 0, .ref 90, .ref 92, .ref 94]))))).set 47 (.inr (.inl (16, [70644700037184]))))) (dc2 := 117) (ds2 := 29934) 6 rfl ?_
  refine zT_if0 false rfl (zc_eq_f (by show ((xs 1) : Int32).toInt ≠ 0; omega)) ?_
  refine zT_here (pc2 := 1072) rfl ?_
  refine zT_gos (f := 200000) (pc2 := 1083) (ls2 := [(4, .int 0), (3, .ref 232), (2, .ref 162), (1, .ref 0), (0, .ref 11)]) (st2 := [.int (xs 2), .int 1, .ref 162, .int (-99)]) (h2 := (((zH0.set 37 (.inr (.inr (.inr (3, [.ref 44, .ref 6, .ref 76, .ref 78, .ref 80, .ref 88, .int 1, .int 0, .ref 96, .int 0, .int 0, .int 0, .ref 98, .ref 100, .int 0]))))).set 44 (.inr (.inr (.inr (6, [.int 1, .long 70644700037184, .int 0, .ref 90, .ref 92, .ref 94]))))).set 47 (.inr (.inl (16, [70644700037184]))))) (dc2 := 117) (ds2 := 29934) 7 rfl ?_
  refine zT_gos (f := 200000) (pc2 := 1089) (ls2 := [(4, .int 0), (3, .ref 232), (2, .ref 162), (1, .ref 0), (0, .ref 11)]) (st2 := [.int (xs 3), .int (xs 2), .int 1, .ref 162, .int (-99)]) (h2 := (((zH0.set 37 (.inr (.inr (.inr (3, [.ref 44, .ref 6, .ref 76, .ref 78, .ref 80, .ref 88, .int 1, .int 0, .ref 96, .int 0, .int 0, .int 0, .ref 98, .ref 100, .int 0]))))).set 44 (.inr (.inr (.inr (6, [.int 1, .long 70644700037184, .int 0, .ref 90, .ref 92, .ref 94]))))).set 47 (.inr (.inl (16, [70644700037184]))))) (dc2 := 117) (ds2 := 29934) 5 rfl ?_
  refine zT_val h3 ?_
  refine zT_call (v := some (.int (-99))) (h2 := (((((((zH0.set 37 (.inr (.inr (.inr (3, [.ref 44, .ref 6, .ref 76, .ref 78, .ref 80, .ref 88, .int 1, .int 0, .ref 96, .int 0, .int 0, .int 0, .ref 98, .ref 100, .int 0]))))).set 44 (.inr (.inr (.inr (6, [.int 1, .long 70644700037184, .int 0, .ref 90, .ref 92, .ref 94]))))).set 47 (.inr (.inl (16, [70644700037184])))).set 106 (.inl (2, 2, [0, 1]))).set 105 (.inl (0, 2, [0, 0]))).set 107 (.inl (0, 132, [0, 0, 0, 0, 0, 0, 0, 0, 0, 0, 0, 0, 0, 0, 0, 0, 0, 0, 0, 0, 0, 0, 0, 0, 0, 0, 0, 0, 0, 0, 0, 0, 0, 0, 0, 0, 0, 0, 0, 0, 0, 0, 0, 0, 0, 0, 0, 0, 0, 0, 0, 0, 0, 0, 0, 0, 0, 0, 0, 0, 0, 0, 0, 0, 0, 0, 0, 0, 0, 0, 0, 0]))).set 109 (.inl (0, 22, [0, 0, 0, 0, 0, 0, 0, 0, 0, 0, 0, 0])))) (d1 := 0) (s1 := 0) rfl rfl ?_ ?_
  · refine zT_gos (f := 200000) (pc2 := 7) (ls2 := [(0, .ref 162), (1, .int 1), (2, .int (xs 2)), (3, .int 2)]) (st2 := [.int 1, .ref 162]) (h2 := (((zH0.set 37 (.inr (.inr (.inr (3, [.ref 44, .ref 6, .ref 76, .ref 78, .ref 80, .ref 88, .int 1, .int 0, .ref 96, .int 0, .int 0, .int 0, .ref 98, .ref 100, .int 0]))))).set 44 (.inr (.inr (.inr (6, [.int 1, .long 70644700037184, .int 0, .ref 90, .ref 92, .ref 94]))))).set 47 (.inr (.inl (16, [70644700037184]))))) (dc2 := 0) (ds2 := 0) 5 rfl ?_
    refine zT_call rfl rfl (zT_le (zg0_le 6 xs) zk_o_20) ?_
    refine zT_here (pc2 := 10) rfl ?_
    refine zT_gos (f := 200000) (pc2 := 18) (ls2 := [(4, .int 0), (0, .ref 162), (1, .int 1), (2, .int (xs 2)), (3, .int 2)]) (st2 := [.int (xs 2)]) (h2 := (((((((zH0.set 37 (.inr (.inr (.inr (3, [.ref 44, .ref 6, .ref 76, .ref 78, .ref 80, .ref 88, .int 1, .int 0, .ref 96, .int 0, .int 0, .int 0, .ref 98, .ref 100, .int 0]))))).set 44 (.inr (.inr (.inr (6, [.int 1, .long 70644700037184, .int 0, .ref 90, .ref 92, .ref 94]))))).set 47 (.inr (.inl (16, [70644700037184])))).set 106 (.inl (2, 2, [0, 1]))).set 105 (.inl (0, 2, [0, 0]))).set 107 (.inl (0, 132, [0, 0, 0, 0, 0, 0, 0, 0, 0, 0, 0, 0, 0, 0, 0, 0, 0, 0, 0, 0, 0, 0, 0, 0, 0, 0, 0, 0, 0, 0, 0, 0, 0, 0, 0, 0, 0, 0, 0, 0, 0, 0, 0, 0, 0, 0, 0, 0, 0, 0, 0, 0, 0, 0, 0, 0, 0, 0, 0, 0, 0, 0, 0, 0, 0, 0, 0, 0, 0, 0, 0, 0]))).set 109 (.inl (0, 22, [0, 0, 0, 0, 0, 0, 0, 0, 0, 0, 0, 0])))) (dc2 := 0) (ds2 := 0) 4 rfl ?_
    refine zT_if0 false rfl (zc_lt_f (by show ((xs 2) : Int32).toInt ≥ 0; omega)) ?_
    refine zT_here (pc2 := 21) rfl ?_
    refine zT_gos (f := 200000) (pc2 := 24) (ls2 := [(4, .int 0), (0, .ref 162), (1, .int 1), (2, .int (xs 2)), (3, .int 2)]) (st2 := [.int 0, .int (xs 2)]) (h2 := (((((((zH0.set 37 (.inr (.inr (.inr (3, [.ref 44, .ref 6, .ref 76, .ref 78, .ref 80, .ref 88, .int 1, .int 0, .ref 96, .int 0, .int 0, .int 0, .ref 98, .ref 100, .int 0]))))).set 44 (.inr (.inr (.inr (6, [.int 1, .long 70644700037184, .int 0, .ref 90, .ref 92, .ref 94]))))).set 47 (.inr (.inl (16, [70644700037184])))).set 106 (.inl (2, 2, [0, 1]))).set 105 (.inl (0, 2, [0, 0]))).set 107 (.inl (0, 132, [0, 0, 0, 0, 0, 0, 0, 0, 0, 0, 0, 0, 0, 0, 0, 0, 0, 0, 0, 0, 0, 0, 0, 0, 0, 0, 0, 0, 0, 0, 0, 0, 0, 0, 0, 0, 0, 0, 0, 0, 0, 0, 0, 0, 0, 0, 0, 0, 0, 0, 0, 0, 0, 0, 0, 0, 0, 0, 0, 0, 0, 0, 0, 0, 0, 0, 0, 0, 0, 0, 0, 0]))).set 109 (.inl (0, 22, [0, 0, 0, 0, 0, 0, 0, 0, 0, 0, 0, 0])))) (dc2 := 0) (ds2 := 0) 2 rfl ?_
    refine zT_if2 true rfl (zc_gt_t (by show ((xs 2) : Int32).toInt > 0; omega)) ?_
    refine zT_here (pc2 := 34) rfl ?_
    refine zT_gos (f := 200000) (pc2 := 54) (ls2 := [(4, .int 0), (0, .ref 162), (1, .int 1), (2, .int (xs 2)), (3, .int 2)]) (st2 := [.int (-99)]) (h2 := (((((((zH0.set 37 (.inr (.inr (.inr (3, [.ref 44, .ref 6, .ref 76, .ref 78, .ref 80, .ref 88, .int 1, .int 0, .ref 96, .int 0, .int 0, .int 0, .ref 98, .ref 100, .int 0]))))).set 44 (.inr (.inr (.inr (6, [.int 1, .long 70644700037184, .int 0, .ref 90, .ref 92, .ref 94]))))).set 47 (.inr (.inl (16, [70644700037184])))).set 106 (.inl (2, 2, [0, 1]))).set 105 (.inl (0, 2, [0, 0]))).set 107 (.inl (0, 132, [0, 0, 0, 0, 0, 0, 0, 0, 0, 0, 0, 0, 0, 0, 0, 0, 0, 0, 0, 0, 0, 0, 0, 0, 0, 0, 0, 0, 0, 0, 0, 0, 0, 0, 0, 0, 0, 0, 0, 0, 0, 0, 0, 0, 0, 0, 0, 0, 0, 0, 0, 0, 0, 0, 0, 0, 0, 0, 0, 0, 0, 0, 0, 0, 0, 0, 0, 0, 0, 0, 0, 0]))).set 109 (.inl (0, 22, [0, 0, 0, 0, 0, 0, 0, 0, 0, 0, 0, 0])))) (dc2 := 0) (ds2 := 0) 2 rfl ?_
    exact zT_ret rfl rfl
  refine zT_here (pc2 := 1092) rfl ?_
  refine zT_gos (f := 200000) (pc2 := 1811) (ls2 := [(4, .int 6), (3, .ref 232), (2, .ref 162), (1, .ref 0), (0, .ref 11)]) (st2 := [.int 1]) (h2 := (((((((zH0.set 37 (.inr (.inr (.inr (3, [.ref 44, .ref 6, .ref 76, .ref 78, .ref 80, .ref 88, .int 1, .int 0, .ref 96, .int 0, .int 0, .int 0, .ref 98, .ref 100, .int 0]))))).set 44 (.inr (.inr (.inr (6, [.int 1, .long 70644700037184, .int 0, .ref 90, .ref 92, .ref 94]))))).set 47 (.inr (.inl (16, [70644700037184])))).set 106 (.inl (2, 2, [0, 1]))).set 105 (.inl (0, 2, [0, 0]))).set 107 (.inl (0, 132, [0, 0, 0, 0, 0, 0, 0, 0, 0, 0, 0, 0, 0, 0, 0, 0, 0, 0, 0, 0, 0, 0, 0, 0, 0, 0, 0, 0, 0, 0, 0, 0, 0, 0, 0, 0, 0, 0, 0, 0, 0, 0, 0, 0, 0, 0, 0, 0, 0, 0, 0, 0, 0, 0, 0, 0, 0, 0, 0, 0, 0, 0, 0, 0, 0, 0, 0, 0, 0, 0, 0, 0]))).set 109 (.inl (0, 22, [0, 0, 0, 0, 0, 0, 0, 0, 0, 0, 0, 0])))) (dc2 := 117) (ds2 := 29934) 10 rfl ?_
  exact zT_ret rfl rfl
set_option maxRecDepth 1000000 in
theorem zk_o_133 : zT zg0 zF zP 124 0 [(0, .ref 0), (1, .int 1), (2, .int 0), (3, .int 2)] [] zH0 0 0 (some (.int 0), (((zH0.set 37 (.inr (.inr (.inr (3, [.ref 44, .ref 6, .ref 76, .ref 78, .ref 80, .ref 88, .int 1, .int 0, .ref 96, .int 0, .int 0, .int 0, .ref 98, .ref 100, .int 0]))))).set 44 (.inr (.inr (.inr (6, [.int 1, .long 70644700037184, .int 0, .ref 90, .ref 92, .ref 94]))))).set 47 (.inr (.inl (16, [70644700037184])))), 0, 0) := zclosed (n := 149) (by decide +kernel)
set_option maxRecDepth 1000000 in
theorem zk_o_134 : zT zg0 zF zP 255 0 [(0, .ref 162), (1, .int 1), (2, .int 0), (3, .int 2)] [] (((zH0.set 37 (.inr (.inr (.inr (3, [.ref 44, .ref 6, .ref 76, .ref 78, .ref 80, .ref 88, .int 1, .int 0, .ref 96, .int 0, .int 0, .int 0, .ref 98, .ref 100, .int 0]))))).set 44 (.inr (.inr (.inr (6, [.int 1, .long 70644700037184, .int 0, .ref 90, .ref 92, .ref 94]))))).set 47 (.inr (.inl (16, [70644700037184])))) 0 0 (some (.int 0), (((((((zH0.set 37 (.inr (.inr (.inr (3, [.ref 44, .ref 6, .ref 76, .ref 78, .ref 80, .ref 88, .int 1, .int 0, .ref 96, .int 0, .int 0, .int 0, .ref 98, .ref 100, .int 0]))))).set 44 (.inr (.inr (.inr (6, [.int 1, .long 70644700037184, .int 0, .ref 90, .ref 92, .ref 94]))))).set 47 (.inr (.inl (16, [70644700037184])))).set 106 (.inl (2, 2, [0, 1]))).set 105 (.inl (0, 2, [0, 0]))).set 107 (.inl (0, 132, [0, 0, 0, 0, 0, 0, 0, 0, 0, 0, 0, 0, 0, 0, 0, 0, 0, 0, 0, 0, 0, 0, 0, 0, 0, 0, 0, 0, 0, 0, 0, 0, 0, 0, 0, 0, 0, 0, 0, 0, 0, 0, 0, 0, 0, 0, 0, 0, 0, 0, 0, 0, 0, 0, 0, 0, 0, 0, 0, 0, 0, 0, 0, 0, 0, 0, 0, 0, 0, 0, 0, 0]))).set 109 (.inl (0, 22, [0, 0, 0, 0, 0, 0, 0, 0, 0, 0, 0, 0]))), 0, 0) := zclosed (n := 230) (by decide +kernel)
set_option maxRecDepth 1000000 in
set_option maxHeartbeats 4000000 in
theorem zo_23_38 (xs : Nat → Int32) (h0 : xs 0 &&& 63 = 23) (h1 : (xs 1).toInt ≠ 0) (h3 : xs 3 = 2) (h2 : xs 2 = 0) : zDone xs := by
  refine ⟨(((((((zH0.set 37 (.inr (.inr (.inr (3, [.ref 44, .ref 6, .ref 76, .ref 78, .ref 80, .ref 88, .int 1, .int 0, .ref 96, .int 0, .int 0, .int 0, .ref 98, .ref 100, .int 0]))))).set 44 (.inr (.inr (.inr (6, [.int 1, .long 70644700037184, .int 0, .ref 90, .ref 92, .ref 94]))))).set 47 (.inr (.inl (16, [70644700037184])))).set 106 (.inl (2, 2, [0, 1]))).set 105 (.inl (0, 2, [0, 0]))).set 107 (.inl (0, 132, [0, 0, 0, 0, 0, 0, 0, 0, 0, 0, 0, 0, 0, 0, 0, 0, 0, 0, 0, 0, 0, 0, 0, 0, 0, 0, 0, 0, 0, 0, 0, 0, 0, 0, 0, 0, 0, 0, 0, 0, 0, 0, 0, 0, 0, 0, 0, 0, 0, 0, 0, 0, 0, 0, 0, 0, 0, 0, 0, 0, 0, 0, 0, 0, 0, 0, 0, 0, 0, 0, 0, 0]))).set 109 (.inl (0, 22, [0, 0, 0, 0, 0, 0, 0, 0, 0, 0, 0, 0]))), 117, 29934, ?_, by decide, by decide⟩
  refine zT_gos (f := 200000) (pc2 := 37) (ls2 := [(4, .int 0), (3, .ref 232), (2, .ref 162), (1, .ref 0), (0, .ref 11)]) (st2 := [.int (xs 0)]) (h2 := zH0) (dc2 := 117) (ds2 := 29934) 9 rfl ?_
  refine zT_gos (f := 200000) (pc2 := 40) (ls2 := [(4, .int 0), (3, .ref 232), (2, .ref 162), (1, .ref 0), (0, .ref 11)]) (st2 := [.int ((xs 0) &&& (63 : Int32))]) (h2 := zH0) (dc2 := 117) (ds2 := 29934) 2 rfl ?_
  refine zT_val h0 ?_
  refine zT_gos (f := 200000) (pc2 := 1039) (ls2 := [(4, .int 0), (3, .ref 232), (2, .ref 162), (1, .ref 0), (0, .ref 11)]) (st2 := [.int (xs 1), .ref 0]) (h2 := zH0) (dc2 := 117) (ds2 := 29934) 7 rfl ?_
  refine zT_if0 false rfl (zc_eq_f (by show ((xs 1) : Int32).toInt ≠ 0; omega)) ?_
  refine zT_here (pc2 := 1042) rfl ?_
  refine zT_gos (f := 200000) (pc2 := 1053) (ls2 := [(4, .int 0), (3, .ref 232), (2, .ref 162), (1, .ref 0), (0, .ref 11)]) (st2 := [.int (xs 2), .int 1, .ref 0]) (h2 := zH0) (dc2 := 117) (ds2 := 29934) 7 rfl ?_
  refine zT_val h2 ?_
  refine zT_gos (f := 200000) (pc2 := 1059) (ls2 := [(4, .int 0), (3, .ref 232), (2, .ref 162), (1, .ref 0), (0, .ref 11)]) (st2 := [.int (xs 3), .int 0, .int 1, .ref 0]) (h2 := zH0) (dc2 := 117) (ds2 := 29934) 5 rfl ?_
  refine zT_val h3 ?_
  refine zT_call rfl rfl (zT_le (zg0_le 6 xs) zk_o_133) ?_
  refine zT_here (pc2 := 1062) rfl ?_
  refine zT_gos (f := 200000) (pc2 := 1069) (ls2 := [(4, .int 0), (3, .ref 232), (2, .ref 162), (1, .ref 0), (0, .ref 11)]) (st2 := [.int (xs 1), .ref 162, .int 0]) (h2 := (((zH0.set 37 (.inr (.inr (.inr (3, [.ref 44, .ref 6, .ref 76, .ref 78, .ref 80, .ref 88, .int 1, .int 0, .ref 96, .int 0, .int 0, .int 0, .ref 98, .ref 100, .int 0]))))).set 44 (.inr (.inr (.inr (6, [.int 1, .long 70644700037184, .int 0, .ref 90, .ref 92, .ref 94]))))).set 47 (.inr (.inl (16, [70644700037184]))))) (dc2 := 117) (ds2 := 29934) 6 rfl ?_
  refine zT_if0 false rfl (zc_eq_f (by show ((xs 1) : Int32).toInt ≠ 0; omega)) ?_
  refine zT_here (pc2 := 1072) rfl ?_
  refine zT_gos (f := 200000) (pc2 := 1083) (ls2 := [(4, .int 0), (3, .ref 232), (2, .ref 162), (1, .ref 0), (0, .ref 11)]) (st2 := [.int (xs 2), .int 1, .ref 162, .int 0]) (h2 := (((zH0.set 37 (.inr (.inr (.inr (3, [.ref 44, .ref 6, .ref 76, .ref 78, .ref 80, .ref 88, .int 1, .int 0, .ref 96, .int 0, .int 0, .int 0, .ref 98, .ref 100, .int 0]))))).set 44 (.inr (.inr (.inr (6, [.int 1, .long 70644700037184, .int 0, .ref 90, .ref 92, .ref 94]))))).set 47 (.inr (.inl (16, [70644700037184]))))) (dc2 := 117) (ds2 := 29934) 7 rfl ?_
  refine zT_val h2 ?_
  refine zT_gos (f := 200000) (pc2 := 1089) (ls2 := [(4, .int 0), (3, .ref 232), (2, .ref 162), (1, .ref 0), (0, .ref 11)]) (st2 := [.int (xs 3), .int 0, .int 1, .ref 162, .int 0]) (h2 := (((zH0.set 37 (.inr (.inr (.inr (3, [.ref 44, .ref 6, .ref 76, .ref 78, .ref 80, .ref 88, .int 1, .int 0, .ref 96, .int 0, .int 0, .int 0, .ref 98, .ref 100, .int 0]))))).set 44 (.inr (.inr (.inr (6, [.int 1, .long 70644700037184, .int 0, .ref 90, .ref 92, .ref 94]))))).set 47 (.inr (.inl (16, [70644700037184]))))) (dc2 := 117) (ds2 := 29934) 5 rfl ?_
  refine zT_val h3 ?_
  refine zT_call rfl rfl (zT_le (zg0_le 6 xs) zk_o_134) ?_
  refine zT_here (pc2 := 1092) rfl ?_
  refine zT_gos (f := 200000) (pc2 := 1811) (ls2 := [(4, .int 6), (3, .ref 232), (2, .ref 162), (1, .ref 0), (0, .ref 11)]) (st2 := [.int 1]) (h2 := (((((((zH0.set 37 (.inr (.inr (.inr (3, [.ref 44, .ref 6, .ref 76, .ref 78, .ref 80, .ref 88, .int 1, .int 0, .ref 96, .int 0, .int 0, .int 0, .ref 98, .ref 100, .int 0]))))).set 44 (.inr (.inr (.inr (6, [.int 1, .long 70644700037184, .int 0, .ref 90, .ref 92, .ref 94]))))).set 47 (.inr (.inl (16, [70644700037184])))).set 106 (.inl (2, 2, [0, 1]))).set 105 (.inl (0, 2, [0, 0]))).set 107 (.inl (0, 132, [0, 0, 0, 0, 0, 0, 0, 0, 0, 0, 0, 0, 0, 0, 0, 0, 0, 0, 0, 0, 0, 0, 0, 0, 0, 0, 0, 0, 0, 0, 0, 0, 0, 0, 0, 0, 0, 0, 0, 0, 0, 0, 0, 0, 0, 0, 0, 0, 0, 0, 0, 0, 0, 0, 0, 0, 0, 0, 0, 0, 0, 0, 0, 0, 0, 0, 0, 0, 0, 0, 0, 0]))).set 109 (.inl (0, 22, [0, 0, 0, 0, 0, 0, 0, 0, 0, 0, 0, 0])))) (dc2 := 117) (ds2 := 29934) 10 rfl ?_
  exact zT_ret rfl rfl
set_option maxRecDepth 1000000 in
set_option maxHeartbeats 4000000 in
theorem zo_23_39 (xs : Nat → Int32) (h0 : xs 0 &&& 63 = 23) (h1 : (xs 1).toInt ≠ 0) (h3 : xs 3 = 3) (h2 : (xs 2).toInt < 0) : zDone xs := by
  refine ⟨(((((((zH0.set 37 (.inr (.inr (.inr (3, [.ref 44, .ref 6, .ref 76, .ref 78, .ref 80, .ref 88, .int 1, .int 0, .ref 96, .int 0, .int 0, .int 0, .ref 98, .ref 100, .int 0]))))).set 44 (.inr (.inr (.inr (6, [.int 1, .long 70644700037184, .int 0, .ref 90, .ref 92, .ref 94]))))).set 47 (.inr (.inl (16, [70644700037184])))).set 106 (.inl (2, 2, [0, 1]))).set 105 (.inl (0, 2, [0, 0]))).set 107 (.inl (0, 132, [0, 0, 0, 0, 0, 0, 0, 0, 0, 0, 0, 0, 0, 0, 0, 0, 0, 0, 0, 0, 0, 0, 0, 0, 0, 0, 0, 0, 0, 0, 0, 0, 0, 0, 0, 0, 0, 0, 0, 0, 0, 0, 0, 0, 0, 0, 0, 0, 0, 0, 0, 0, 0, 0, 0, 0, 0, 0, 0, 0, 0, 0, 0, 0, 0, 0, 0, 0, 0, 0, 0, 0]))).set 109 (.inl (0, 22, [0, 0, 0, 0, 0, 0, 0, 0, 0, 0, 0, 0]))), 117, 29934, ?_, by decide, by decide⟩
  refine zT_gos (f := 200000) (pc2 := 37) (ls2 := [(4, .int 0), (3, .ref 232), (2, .ref 162), (1, .ref 0), (0, .ref 11)]) (st2 := [.int (xs 0)]) (h2 := zH0) (dc2 := 117) (ds2 := 29934) 9 rfl ?_
  refine zT_gos (f := 200000) (pc2 := 40) (ls2 := [(4, .int 0), (3, .ref 232), (2, .ref 162), (1, .ref 0), (0, .ref 11)]) (st2 := [.int ((xs 0) &&& (63 : Int32))]) (h2 := zH0) (dc2 := 117) (ds2 := 29934) 2 rfl ?_
  refine zT_val h0 ?_
  refine zT_gos (f := 200000) (pc2 := 1039) (ls2 := [(4, .int 0), (3, .ref 232), (2, .ref 162), (1, .ref 0), (0, .ref 11)]) (st2 := [.int (xs 1), .ref 0]) (h2 := zH0) (dc2 := 117) (ds2 := 29934) 7 rfl ?_
  refine zT_if0 false rfl (zc_eq_f (by show ((xs 1) : Int32).toInt ≠ 0; omega)) ?_
  refine zT_here (pc2 := 1042) rfl ?_
  refine zT_gos (f := 200000) (pc2 := 1053) (ls2 := [(4, .int 0), (3, .ref 232), (2, .ref 162), (1, .ref 0), (0, .ref 11)]) (st2 := [.int (xs 2), .int 1, .ref 0]) (h2 := zH0) (dc2 := 117) (ds2 := 29934) 7 rfl ?_
  refine zT_gos (f := 200000) (pc2 := 1059) (ls2 := [(4, .int 0), (3, .ref 232), (2, .ref 162), (1, .ref 0), (0, .ref 11)]) (st2 := [.int (xs 3), .int (xs 2), .int 1, .ref 0]) (h2 := zH0) (dc2 := 117) (ds2 := 29934) 5 rfl ?_
  refine zT_val h3 ?_
  refine zT_call (v := some (.int (-99))) (h2 := (((zH0.set 37 (.inr (.inr (.inr (3, [.ref 44, .ref 6, .ref 76, .ref 78, .ref 80, .ref 88, .int 1, .int 0, .ref 96, .int 0, .int 0, .int 0, .ref 98, .ref 100, .int 0]))))).set 44 (.inr (.inr (.inr (6, [.int 1, .long 70644700037184, .int 0, .ref 90, .ref 92, .ref 94]))))).set 47 (.inr (.inl (16, [70644700037184]))))) (d1 := 0) (s1 := 0) rfl rfl ?_ ?_
  · refine zT_gos (f := 200000) (pc2 := 33) (ls2 := [(4, .ref 88), (0, .ref 0), (1, .int 1), (2, .int (xs 2)), (3, .int 3)]) (st2 := [.int (xs 2)]) (h2 := (((zH0.set 37 (.inr (.inr (.inr (3, [.ref 44, .ref 6, .ref 76, .ref 78, .ref 80, .ref 88, .int 1, .int 0, .ref 96, .int 0, .int 0, .int 0, .ref 98, .ref 100, .int 0]))))).set 44 (.inr (.inr (.inr (6, [.int 1, .long 70644700037184, .int 0, .ref 90, .ref 92, .ref 94]))))).set 47 (.inr (.inl (16, [70644700037184]))))) (dc2 := 0) (ds2 := 0) 14 rfl ?_
    refine zT_if0 true rfl (zc_lt_t (by show ((xs 2) : Int32).toInt < 0; omega)) ?_
    refine zT_here (pc2 := 45) rfl ?_
    refine zT_gos (f := 200000) (pc2 := 57) (ls2 := [(4, .ref 88), (0, .ref 0), (1, .int 1), (2, .int (xs 2)), (3, .int 3)]) (st2 := [.int (-99)]) (h2 := (((zH0.set 37 (.inr (.inr (.inr (3, [.ref 44, .ref 6, .ref 76, .ref 78, .ref 80, .ref 88, .int 1, .int 0, .ref 96, .int 0, .int 0, .int 0, .ref 98, .ref 100, .int 0]))))).set 44 (.inr (.inr (.inr (6, [.int 1, .long 70644700037184, .int 0, .ref 90, .ref 92, .ref 94]))))).set 47 (.inr (.inl (16, [70644700037184]))))) (dc2 := 0) (ds2 := 0) 2 rfl ?_
    exact zT_ret rfl rfl
  refine zT_here (pc2 := 1062) rfl ?_
  refine zT_gos (f := 200000) (pc2 := 1069) (ls2 := [(4, .int 0), (3, .ref 232), (2, .ref 162), (1, .ref 0), (0, .ref 11)]) (st2 := [.int (xs 1), .ref 162, .int (-99)]) (h2 := (((zH0.set 37 (.inr (.inr (.inr (3, [.ref 44, .ref 6, .ref 76, .ref 78, .ref 80, .ref 88, .int 1, .int 0, .ref 96, .int 0, .int 0, .int 0, .ref 98, .ref 100, .int 0]))))).set 44 (.inr (.inr (.inr (6, [.int 1, .long 70644700037184, .int 0, .ref 90, .ref 92, .ref 94]))))).set 47 (.inr (.inl (16, [70644700037184]))))) (dc2 := 117) (ds2 := 29934) 6 rfl ?_
  refine zT_if0 false rfl (zc_eq_f (by show ((xs 1) : Int32).toInt ≠ 0; omega)) ?_
  refine zT_here (pc2 := 1072) rfl ?_
  refine zT_gos (f := 200000) (pc2 := 1083) (ls2 := [(4, .int 0), (3, .ref 232), (2, .ref 162), (1, .ref 0), (0, .ref 11)]) (st2 := [.int (xs 2), .int 1, .ref 162, .int (-99)]) (h2 := (((zH0.set 37 (.inr (.inr (.inr (3, [.ref 44, .ref 6, .ref 76, .ref 78, .ref 80, .ref 88, .int 1, .int 0, .ref 96, .int 0, .int 0, .int 0, .ref 98, .ref 100, .int 0]))))).set 44 (.inr (.inr (.inr (6, [.int 1, .long 70644700037184, .int 0, .ref 90, .ref 92, .ref 94]))))).set 47 (.inr (.inl (16, [70644700037184]))))) (dc2 := 117) (ds2 := 29934) 7 rfl ?_
  refine zT_gos (f := 200000) (pc2 := 1089) (ls2 := [(4, .int 0), (3, .ref 232), (2, .ref 162), (1, .ref 0), (0, .ref 11)]) (st2 := [.int (xs 3), .int (xs 2), .int 1, .ref 162, .int (-99)]) (h2 := (((zH0.set 37 (.inr (.inr (.inr (3, [.ref 44, .ref 6, .ref 76, .ref 78, .ref 80, .ref 88, .int 1, .int 0, .ref 96, .int 0, .int 0, .int 0, .ref 98, .ref 100, .int 0]))))).set 44 (.inr (.inr (.inr (6, [.int 1, .long 70644700037184, .int 0, .ref 90, .ref 92, .ref 94]))))).set 47 (.inr (.inl (16, [70644700037184]))))) (dc2 := 117) (ds2 := 29934) 5 rfl ?_
  refine zT_val h3 ?_
  refine zT_call (v := some (.int (-99))) (h2 := (((((((zH0.set 37 (.inr (.inr (.inr (3, [.ref 44, .ref 6, .ref 76, .ref 78, .ref 80, .ref 88, .int 1, .int 0, .ref 96, .int 0, .int 0, .int 0, .ref 98, .ref 100, .int 0]))))).set 44 (.inr (.inr (.inr (6, [.int 1, .long 70644700037184, .int 0, .ref 90, .ref 92, .ref 94]))))).set 47 (.inr (.inl (16, [70644700037184])))).set 106 (.inl (2, 2, [0, 1]))).set 105 (.inl (0, 2, [0, 0]))).set 107 (.inl (0, 132, [0, 0, 0, 0, 0, 0, 0, 0, 0, 0, 0, 0, 0, 0, 0, 0, 0, 0, 0, 0, 0, 0, 0, 0, 0, 0, 0, 0, 0, 0, 0, 0, 0, 0, 0, 0, 0, 0, 0, 0, 0, 0, 0, 0, 0, 0, 0, 0, 0, 0, 0, 0, 0, 0, 0, 0, 0, 0, 0, 0, 0, 0, 0, 0, 0, 0, 0, 0, 0, 0, 0, 0]))).set 109 (.inl (0, 22, [0, 0, 0, 0, 0, 0, 0, 0, 0, 0, 0, 0])))) (d1 := 0) (s1 := 0) rfl rfl ?_ ?_
  · refine zT_gos (f := 200000) (pc2 := 7) (ls2 := [(0, .ref 162), (1, .int 1), (2, .int (xs 2)), (3, .int 3)]) (st2 := [.int 1, .ref 162]) (h2 := (((zH0.set 37 (.inr (.inr (.inr (3, [.ref 44, .ref 6, .ref 76, .ref 78, .ref 80, .ref 88, .int 1, .int 0, .ref 96, .int 0, .int 0, .int 0, .ref 98, .ref 100, .int 0]))))).set 44 (.inr (.inr (.inr (6, [.int 1, .long 70644700037184, .int 0, .ref 90, .ref 92, .ref 94]))))).set 47 (.inr (.inl (16, [70644700037184]))))) (dc2 := 0) (ds2 := 0) 5 rfl ?_
    refine zT_call rfl rfl (zT_le (zg0_le 6 xs) zk_o_20) ?_
    refine zT_here (pc2 := 10) rfl ?_
    refine zT_gos (f := 200000) (pc2 := 18) (ls2 := [(4, .int 0), (0, .ref 162), (1, .int 1), (2, .int (xs 2)), (3, .int 3)]) (st2 := [.int (xs 2)]) (h2 := (((((((zH0.set 37 (.inr (.inr (.inr (3, [.ref 44, .ref 6, .ref 76, .ref 78, .ref 80, .ref 88, .int 1, .int 0, .ref 96, .int 0, .int 0, .int 0, .ref 98, .ref 100, .int 0]))))).set 44 (.inr (.inr (.inr (6, [.int 1, .long 70644700037184, .int 0, .ref 90, .ref 92, .ref 94]))))).set 47 (.inr (.inl (16, [70644700037184])))).set 106 (.inl (2, 2, [0, 1]))).set 105 (.inl (0, 2, [0, 0]))).set 107 (.inl (0, 132, [0, 0, 0, 0, 0, 0, 0, 0, 0, 0, 0, 0, 0, 0, 0, 0, 0, 0, 0, 0, 0, 0, 0, 0, 0, 0, 0, 0, 0, 0, 0, 0, 0, 0, 0, 0, 0, 0, 0, 0, 0, 0, 0, 0, 0, 0, 0, 0, 0, 0, 0, 0, 0, 0, 0, 0, 0, 0, 0, 0, 0, 0, 0, 0, 0, 0, 0, 0, 0, 0, 0, 0]))).set 109 (.inl (0, 22, [0, 0, 0, 0, 0, 0, 0, 0, 0, 0, 0, 0])))) (dc2 := 0) (ds2 := 0) 4 rfl ?_
    refine zT_if0 true rfl (zc_lt_t (by show ((xs 2) : Int32).toInt < 0; omega)) ?_
    refine zT_here (pc2 := 34) rfl ?_
    refine zT_gos (f := 200000) (pc2 := 54) (ls2 := [(4, .int 0), (0, .ref 162), (1, .int 1), (2, .int (xs 2)), (3, .int 3)]) (st2 := [.int (-99)]) (h2 := (((((((zH0.set 37 (.inr (.inr (.inr (3, [.ref 44, .ref 6, .ref 76, .ref 78, .ref 80, .ref 88, .int 1, .int 0, .ref 96, .int 0, .int 0, .int 0, .ref 98, .ref 100, .int 0]))))).set 44 (.inr (.inr (.inr (6, [.int 1, .long 70644700037184, .int 0, .ref 90, .ref 92, .ref 94]))))).set 47 (.inr (.inl (16, [70644700037184])))).set 106 (.inl (2, 2, [0, 1]))).set 105 (.inl (0, 2, [0, 0]))).set 107 (.inl (0, 132, [0, 0, 0, 0, 0, 0, 0, 0, 0, 0, 0, 0, 0, 0, 0, 0, 0, 0, 0, 0, 0, 0, 0, 0, 0, 0, 0, 0, 0, 0, 0, 0, 0, 0, 0, 0, 0, 0, 0, 0, 0, 0, 0, 0, 0, 0, 0, 0, 0, 0, 0, 0, 0, 0, 0, 0, 0, 0, 0, 0, 0, 0, 0, 0, 0, 0, 0, 0, 0, 0, 0, 0]))).set 109 (.inl (0, 22, [0, 0, 0, 0, 0, 0, 0, 0, 0, 0, 0, 0])))) (dc2 := 0) (ds2 := 0) 2 rfl ?_
    exact zT_ret rfl rfl
  refine zT_here (pc2 := 1092) rfl ?_
  refine zT_gos (f := 200000) (pc2 := 1811) (ls2 := [(4, .int 6), (3, .ref 232), (2, .ref 162), (1, .ref 0), (0, .ref 11)]) (st2 := [.int 1]) (h2 := (((((((zH0.set 37 (.inr (.inr (.inr (3, [.ref 44, .ref 6, .ref 76, .ref 78, .ref 80, .ref 88, .int 1, .int 0, .ref 96, .int 0, .int 0, .int 0, .ref 98, .ref 100, .int 0]))))).set 44 (.inr (.inr (.inr (6, [.int 1, .long 70644700037184, .int 0, .ref 90, .ref 92, .ref 94]))))).set 47 (.inr (.inl (16, [70644700037184])))).set 106 (.inl (2, 2, [0, 1]))).set 105 (.inl (0, 2, [0, 0]))).set 107 (.inl (0, 132, [0, 0, 0, 0, 0, 0, 0, 0, 0, 0, 0, 0, 0, 0, 0, 0, 0, 0, 0, 0, 0, 0, 0, 0, 0, 0, 0, 0, 0, 0, 0, 0, 0, 0, 0, 0, 0, 0, 0, 0, 0, 0, 0, 0, 0, 0, 0, 0, 0, 0, 0, 0, 0, 0, 0, 0, 0, 0, 0, 0, 0, 0, 0, 0, 0, 0, 0, 0, 0, 0, 0, 0]))).set 109 (.inl (0, 22, [0, 0, 0, 0, 0, 0, 0, 0, 0, 0, 0, 0])))) (dc2 := 117) (ds2 := 29934) 10 rfl ?_
  exact zT_ret rfl rfl
set_option maxRecDepth 1000000 in
set_option maxHeartbeats 4000000 in
theorem zo_23_40 (xs : Nat → Int32) (h0 : xs 0 &&& 63 = 23) (h1 : (xs 1).toInt ≠ 0) (h3 : xs 3 = 3) (h2 : 0 < (xs 2).toInt) : zDone xs := by
  refine ⟨(((((((zH0.set 37 (.inr (.inr (.inr (3, [.ref 44, .ref 6, .ref 76, .ref 78, .ref 80, .ref 88, .int 1, .int 0, .ref 96, .int 0, .int 0, .int 0, .ref 98, .ref 100, .int 0]))))).set 44 (.inr (.inr (.inr (6, [.int 1, .long 70644700037184, .int 0, .ref 90, .ref 92, .ref 94]))))).set 47 (.inr (.inl (16, [70644700037184])))).set 106 (.inl (2, 2, [0, 1]))).set 105 (.inl (0, 2, [0, 0]))).set 107 (.inl (0, 132, [0, 0, 0, 0, 0, 0, 0, 0, 0, 0, 0, 0, 0, 0, 0, 0, 0, 0, 0, 0, 0, 0, 0, 0, 0, 0, 0, 0, 0, 0, 0, 0, 0, 0, 0, 0, 0, 0, 0, 0, 0, 0, 0, 0, 0, 0, 0, 0, 0, 0, 0, 0, 0, 0, 0, 0, 0, 0, 0, 0, 0, 0, 0, 0, 0, 0, 0, 0, 0, 0, 0, 0]))).set 109 (.inl (0, 22, [0, 0, 0, 0, 0, 0, 0, 0, 0, 0, 0, 0]))), 117, 29934, ?_, by decide, by decide⟩
  refine zT_gos (f := 200000) (pc2 := 37) (ls2 := [(4, .int 0), (3, .ref 232), (2, .ref 162), (1, .ref 0), (0, .ref 11)]) (st2 := [.int (xs 0)]) (h2 := zH0) (dc2 := 117) (ds2 := 29934) 9 rfl ?_
  refine zT_gos (f := 200000) (pc2 := 40) (ls2 := [(4, .int 0), (3, .ref 232), (2, .ref 162), (1, .ref 0), (0, .ref 11)]) (st2 := [.int ((xs 0) &&& (63 : Int32))]) (h2 := zH0) (dc2 := 117) (ds2 := 29934) 2 rfl ?_
  refine zT_val h0 ?_
  refine zT_gos (f := 200000) (pc2 := 1039) (ls2 := [(4, .int 0), (3, .ref 232), (2, .ref 162), (1, .ref 0), (0, .ref 11)]) (st2 := [.int (xs 1), .ref 0]) (h2 := zH0) (dc2 := 117) (ds2 := 29934) 7 rfl ?_
  refine zT_if0 false rfl (zc_eq_f (by show ((xs 1) : Int32).toInt ≠ 0; omega)) ?_
  refine zT_here (pc2 := 1042) rfl ?_
  refine zT_gos (f := 200000) (pc2 := 1053) (ls2 := [(4, .int 0), (3, .ref 232), (2, .ref 162), (1, .ref 0), (0, .ref 11)]) (st2 := [.int (xs 2), .int 1, .ref 0]) (h2 := zH0) (dc2 := 117) (ds2 := 29934) 7 rfl ?_
  refine zT_gos (f := 200000) (pc2 := 1059) (ls2 := [(4, .int 0), (3, .ref 232), (2, .ref 162), (1, .ref 0), (0, .ref 11)]) (st2 := [.int (xs 3), .int (xs 2), .int 1, .ref 0]) (h2 := zH0) (dc2 := 117) (ds2 := 29934) 5 rfl ?_
  refine zT_val h3 ?_
  refine zT_call (v := some (.int (-99))) (h2 := (((zH0.set 37 (.inr (.inr (.inr (3, [.ref 44, .ref 6, .ref 76, .ref 78, .ref 80, .ref 88, .int 1, .int 0, .ref 96, .int 0, .int 0, .int 0, .ref 98, .ref 100, .int 0]))))).set 44 (.inr (.inr (.inr (6, [.int 1, .long 70644700037184, .int 0, .ref 90, .ref 92, .ref 94]))))).set 47 (.inr (.inl (16, [70644700037184]))))) (d1 := 0) (s1 := 0) rfl rfl ?_ ?_
  · refine zT_gos (f := 200000) (pc2 := 33) (ls2 := [(4, .ref 88), (0, .ref 0), (1, .int 1), (2, .int (xs 2)), (3, .int 3)]) (st2 := [.int (xs 2)]) (h2 := (((zH0.set 37 (.inr (.inr (.inr (3, [.ref 44, .ref 6, .ref 76, .ref 78, .ref 80, .ref 88, .int 1, .int 0, .ref 96, .int 0, .int 0, .int 0, .ref 98, .ref 100, .int 0]))))).set 44 (.inr (.inr (.inr (6, [.int 1, .long 70644700037184, .int 0, .ref 90, .ref 92, .ref 94]))))).set 47 (.inr (.inl (16, [70644700037184]))))) (dc2 := 0) (ds2 := 0) 14 rfl ?_
    refine zT_if0 false rfl (zc_lt_f (by show ((xs 2) : Int32).toInt ≥ 0; omega)) ?_
    refine zT_here (pc2 := 36) rfl ?_
    refine zT_gos (f := 200000) (pc2 := 42) (ls2 := [(4, .ref 88), (0, .ref 0), (1, .int 1), (2, .int (xs 2)), (3, .int 3)]) (st2 := [.int 0, .int (xs 2)]) (h2 := (((zH0.set 37 (.inr (.inr (.inr (3, [.ref 44, .ref 6, .ref 76, .ref 78, .ref 80, .ref 88, .int 1, .int 0, .ref 96, .int 0, .int 0, .int 0, .ref 98, .ref 100, .int 0]))))).set 44 (.inr (.inr (.inr (6, [.int 1, .long 70644700037184, .int 0, .ref 90, .ref 92, .ref 94]))))).set 47 (.inr (.inl (16, [70644700037184]))))) (dc2 := 0) (ds2 := 0) 3 rfl ?_
    refine zT_if2 false rfl (zc_le_f (by show ((xs 2) : Int32).toInt > 0; omega)) ?_
    refine zT_here (pc2 := 45) rfl ?_
    refine zT_gos (f := 200000) (pc2 := 57) (ls2 := [(4, .ref 88), (0, .ref 0), (1, .int 1), (2, .int (xs 2)), (3, .int 3)]) (st2 := [.int (-99)]) (h2 := (((zH0.set 37 (.inr (.inr (.inr (3, [.ref 44, .ref 6, .ref 76, .ref 78, .ref 80, .ref 88, .int 1, .int 0, .ref 96, .int 0, .int 0, .int 0, .ref 98, .ref 100, .int 0]))))).set 44 (.inr (.inr (.inr (6, [.int 1, .long 70644700037184, .int 0, .ref 90, .ref 92, .ref 94]))))).set 47 (.inr (.inl (16, [70644700037184]))))) (dc2 := 0) (ds2 := 0) 2 rfl ?_
    exact zT_ret rfl rfl
  refine zT_here (pc2 := 1062) rfl ?_
  refine zT_gos (f := 200000) (pc2 := 1069) (ls2 := [(4, .int 0), (3, .ref 232), (2, .ref 162), (1, .ref 0), (0, .ref 11)]) (st2 := [.int (xs 1), .ref 162, .int (-99)]) (h2 := (((zH0.set 37 (.inr (.inr (.inr (3, [.ref 44, .ref 6, .ref 76, .ref 78, .ref 80, .ref 88, .int 1, .int 0, .ref 96, .int 0, .int 0, .int 0, .ref 98, .ref 100, .int 0]))))).set 44 (.inr (.inr (.inr (6, [.int 1, .long 70644700037184, .int 0, .ref 90, .ref 92, .ref 94]))))).set 47 (.inr (.inl (16, [70644700037184]))))) (dc2 := 117) (ds2 := 29934) 6 rfl ?_
  refine zT_if0 false rfl (zc_eq_f (by show ((xs 1) : Int32).toInt ≠ 0; omega)) ?_
  refine zT_here (pc2 := 1072) rfl ?_
  refine zT_gos (f := 200000) (pc2 := 1083) (ls2 := [(4, .int 0), (3, .ref 232), (2, .ref 162), (1, .ref 0), (0, .ref 11)]) (st2 := [.int (xs 2), .int 1, .ref 162, .int (-99)]) (h2 := (((zH0.set 37 (.inr (.inr (.inr (3, [.ref 44, .ref 6, .ref 76, .ref 78, .ref 80, .ref 88, .int 1, .int 0, .ref 96, .int 0, .int 0, .int 0, .ref 98, .ref 100, .int 0]))))).set 44 (.inr (.inr (.inr (6, [.int 1, .long 70644700037184, .int 0, .ref 90, .ref 92, .ref 94]))))).set 47 (.inr (.inl (16, [70644700037184]))))) (dc2 := 117) (ds2 := 29934) 7 rfl ?_
  refine zT_gos (f := 200000) (pc2 := 1089) (ls2 := [(4, .int 0), (3, .ref 232), (2, .ref 162), (1, .ref 0), (0, .ref 11)]) (st2 := [.int (xs 3), .int (xs 2), .int 1, .ref 162, .int (-99)]) (h2 := (((zH0.set 37 (.inr (.inr (.inr (3, [.ref 44, .ref 6, .ref 76, .ref 78, .ref 80, .ref 88, .int 1, .int 0, .ref 96, .int 0, .int 0, .int 0, .ref 98, .ref 100, .int 0]))))).set 44 (.inr (.inr (.inr (6, [.int 1, .long 70644700037184, .int 0, .ref 90, .ref 92, .ref 94]))))).set 47 (.inr (.inl (16, [70644700037184]))))) (dc2 := 117) (ds2 := 29934) 5 rfl ?_
  refine zT_val h3 ?_
  refine zT_call (v := some (.int (-99))) (h2 := (((((((zH0.set 37 (.inr (.inr (.inr (3, [.ref 44, .ref 6, .ref 76, .ref 78, .ref 80, .ref 88, .int 1, .int 0, .ref 96, .int 0, .int 0, .int 0, .ref 98, .ref 100, .int 0]))))).set 44 (.inr (.inr (.inr (6, [.int 1, .long 70644700037184, .int 0, .ref 90, .ref 92, .ref 94]))))).set 47 (.inr (.inl (16, [70644700037184])))).set 106 (.inl (2, 2, [0, 1]))).set 105 (.inl (0, 2, [0, 0]))).set 107 (.inl (0, 132, [0, 0, 0, 0, 0, 0, 0, 0, 0, 0, 0, 0, 0, 0, 0, 0, 0, 0, 0, 0, 0, 0, 0, 0, 0, 0, 0, 0, 0, 0, 0, 0, 0, 0, 0, 0, 0, 0, 0, 0, 0, 0, 0, 0, 0, 0, 0, 0, 0, 0, 0, 0, 0, 0, 0, 0, 0, 0, 0, 0, 0, 0, 0, 0, 0, 0, 0, 0, 0, 0, 0, 0]))).set 109 (.inl (0, 22, [0, 0, 0, 0, 0, 0, 0, 0, 0, 0, 0, 0])))) (d1 := 0) (s1 := 0) rfl rfl ?_ ?_
  · refine zT_gos (f := 200000) (pc2 := 7) (ls2 := [(0, .ref 162), (1, .int 1), (2, .int (xs 2)), (3, .int 3)]) (st2 := [.int 1, .ref 162]) (h2 := (((zH0.set 37 (.inr (.inr (.inr (3, [.ref 44, .ref 6, .ref 76, .ref 78, .ref 80, .ref 88, .int 1, .int 0, .ref 96, .int 0, .int 0, .int 0, .ref 98, .ref 100, .int 0]))))).set 44 (.inr (.inr (.inr (6, [.int 1, .long 70644700037184, .int 0, .ref 90, .ref 92, .ref 94]))))).set 47 (.inr (.inl (16, [70644700037184]))))) (dc2 := 0) (ds2 := 0) 5 rfl ?_
    refine zT_call rfl rfl (zT_le (zg0_le 6 xs) zk_o_20) ?_
    refine zT_here (pc2 := 10) rfl ?_
    refine zT_gos (f := 200000) (pc2 := 18) (ls2 := [(4, .int 0), (0, .ref 162), (1, .int 1), (2, .int (xs 2)), (3, .int 3)]) (st2 := [.int (xs 2)]) (h2 := (((((((zH0.set 37 (.inr (.inr (.inr (3, [.ref 44, .ref 6, .ref 76, .ref 78, .ref 80, .ref 88, .int 1, .int 0, .ref 96, .int 0, .int 0, .int 0, .ref 98, .ref 100, .int 0]))))).set 44 (.inr (.inr (.inr (6, [.int 1, .long 70644700037184, .int 0, .ref 90, .ref 92, .ref 94]))))).set 47 (.inr (.inl (16, [70644700037184])))).set 106 (.inl (2, 2, [0, 1]))).set 105 (.inl (0, 2, [0, 0]))).set 107 (.inl (0, 132, [0, 0, 0, 0, 0, 0, 0, 0, 0, 0, 0, 0, 0, 0, 0, 0, 0, 0, 0, 0, 0, 0, 0, 0, 0, 0, 0, 0, 0, 0, 0, 0, 0, 0, 0, 0, 0, 0, 0, 0, 0, 0, 0, 0, 0, 0, 0, 0, 0, 0, 0, 0, 0, 0, 0, 0, 0, 0, 0, 0, 0, 0, 0, 0, 0, 0, 0, 0, 0, 0, 0, 0]))).set 109 (.inl (0, 22, [0, 0, 0, 0, 0, 0, 0, 0, 0, 0, 0, 0])))) (dc2 := 0) (ds2 := 0) 4 rfl ?_
    refine zT_if0 false rfl (zc_lt_f (by show ((xs 2) : Int32).toInt ≥ 0; omega)) ?_
    refine zT_here (pc2 := 21) rfl ?_
    refine zT_gos (f := 200000) (pc2 := 24) (ls2 := [(4, .int 0), (0, .ref 162), (1, .int 1), (2, .int (xs 2)), (3, .int 3)]) (st2 := [.int 0, .int (xs 2)]) (h2 := (((((((zH0.set 37 (.inr (.inr (.inr (3, [.ref 44, .ref 6, .ref 76, .ref 78, .ref 80, .ref 88, .int 1, .int 0, .ref 96, .int 0, .int 0, .int 0, .ref 98, .ref 100, .int 0]))))).set 44 (.inr (.inr (.inr (6, [.int 1, .long 70644700037184, .int 0, .ref 90, .ref 92, .ref 94]))))).set 47 (.inr (.inl (16, [70644700037184])))).set 106 (.inl (2, 2, [0, 1]))).set 105 (.inl (0, 2, [0, 0]))).set 107 (.inl (0, 132, [0, 0, 0, 0, 0, 0, 0, 0, 0, 0, 0, 0, 0, 0, 0, 0, 0, 0, 0, 0, 0, 0, 0, 0, 0, 0, 0, 0, 0, 0, 0, 0, 0, 0, 0, 0, 0, 0, 0, 0, 0, 0, 0, 0, 0, 0, 0, 0, 0, 0, 0, 0, 0, 0, 0, 0, 0, 0, 0, 0, 0, 0, 0, 0, 0, 0, 0, 0, 0, 0, 0, 0]))).set 109 (.inl (0, 22, [0, 0, 0, 0, 0, 0, 0, 0, 0, 0, 0, 0])))) (dc2 := 0) (ds2 := 0) 2 rfl ?_
    refine zT_if2 true rfl (zc_gt_t (by show ((xs 2) : Int32).toInt > 0; omega)) ?_
    refine zT_here (pc2 := 34) rfl ?_
    refine zT_gos (f := 200000) (pc2 := 54) (ls2 := [(4, .int 0), (0, .ref 162), (1, .int 1), (2, .int (xs 2)), (3, .int 3)]) (st2 := [.int (-99)]) (h2 := (((((((zH0.set 37 (.inr (.inr (.inr (3, [.ref 44, .ref 6, .ref 76, .ref 78, .ref 80, .ref 88, .int 1, .int 0, .ref 96, .int 0, .int 0, .int 0, .ref 98, .ref 100, .int 0]))))).set 44 (.inr (.inr (.inr (6, [.int 1, .long 70644700037184, .int 0, .ref 90, .ref 92, .ref 94]))))).set 47 (.inr (.inl (16, [70644700037184])))).set 106 (.inl (2, 2, [0, 1]))).set 105 (.inl (0, 2, [0, 0]))).set 107 (.inl (0, 132, [0, 0, 0, 0, 0, 0, 0, 0, 0, 0, 0, 0, 0, 0, 0, 0, 0, 0, 0, 0, 0, 0, 0, 0, 0, 0, 0, 0, 0, 0, 0, 0, 0, 0, 0, 0, 0, 0, 0, 0, 0, 0, 0, 0, 0, 0, 0, 0, 0, 0, 0, 0, 0, 0, 0, 0, 0, 0, 0, 0, 0, 0, 0, 0, 0, 0, 0, 0, 0, 0, 0, 0]))).set 109 (.inl (0, 22, [0, 0, 0, 0, 0, 0, 0, 0, 0, 0, 0, 0])))) (dc2 := 0) (ds2 := 0) 2 rfl ?_
    exact zT_ret rfl rfl
  refine zT_here (pc2 := 1092) rfl ?_
  refine zT_gos (f := 200000) (pc2 := 1811) (ls2 := [(4, .int 6), (3, .ref 232), (2, .ref 162), (1, .ref 0), (0, .ref 11)]) (st2 := [.int 1]) (h2 := (((((((zH0.set 37 (.inr (.inr (.inr (3, [.ref 44, .ref 6, .ref 76, .ref 78, .ref 80, .ref 88, .int 1, .int 0, .ref 96, .int 0, .int 0, .int 0, .ref 98, .ref 100, .int 0]))))).set 44 (.inr (.inr (.inr (6, [.int 1, .long 70644700037184, .int 0, .ref 90, .ref 92, .ref 94]))))).set 47 (.inr (.inl (16, [70644700037184])))).set 106 (.inl (2, 2, [0, 1]))).set 105 (.inl (0, 2, [0, 0]))).set 107 (.inl (0, 132, [0, 0, 0, 0, 0, 0, 0, 0, 0, 0, 0, 0, 0, 0, 0, 0, 0, 0, 0, 0, 0, 0, 0, 0, 0, 0, 0, 0, 0, 0, 0, 0, 0, 0, 0, 0, 0, 0, 0, 0, 0, 0, 0, 0, 0, 0, 0, 0, 0, 0, 0, 0, 0, 0, 0, 0, 0, 0, 0, 0, 0, 0, 0, 0, 0, 0, 0, 0, 0, 0, 0, 0]))).set 109 (.inl (0, 22, [0, 0, 0, 0, 0, 0, 0, 0, 0, 0, 0, 0])))) (dc2 := 117) (ds2 := 29934) 10 rfl ?_
  exact zT_ret rfl rfl
set_option maxRecDepth 1000000 in
theorem zk_o_135 : zT zg0 zF zP 124 0 [(0, .ref 0), (1, .int 1), (2, .int 0), (3, .int 3)] [] zH0 0 0 (some (.int 0), (((zH0.set 37 (.inr (.inr (.inr (3, [.ref 44, .ref 6, .ref 76, .ref 78, .ref 80, .ref 88, .int 1, .int 0, .ref 96, .int 0, .int 0, .int 0, .ref 98, .ref 100, .int 0]))))).set 44 (.inr (.inr (.inr (6, [.int 1, .long 70644700037184, .int 0, .ref 90, .ref 92, .ref 94]))))).set 47 (.inr (.inl (16, [70644700037184])))), 0, 0) := zclosed (n := 149) (by decide +kernel)
set_option maxRecDepth 1000000 in
theorem zk_o_136 : zT zg0 zF zP 255 0 [(0, .ref 162), (1, .int 1), (2, .int 0), (3, .int 3)] [] (((zH0.set 37 (.inr (.inr (.inr (3, [.ref 44, .ref 6, .ref 76, .ref 78, .ref 80, .ref 88, .int 1, .int 0, .ref 96, .int 0, .int 0, .int 0, .ref 98, .ref 100, .int 0]))))).set 44 (.inr (.inr (.inr (6, [.int 1, .long 70644700037184, .int 0, .ref 90, .ref 92, .ref 94]))))).set 47 (.inr (.inl (16, [70644700037184])))) 0 0 (some (.int 0), (((((((zH0.set 37 (.inr (.inr (.inr (3, [.ref 44, .ref 6, .ref 76, .ref 78, .ref 80, .ref 88, .int 1, .int 0, .ref 96, .int 0, .int 0, .int 0, .ref 98, .ref 100, .int 0]))))).set 44 (.inr (.inr (.inr (6, [.int 1, .long 70644700037184, .int 0, .ref 90, .ref 92, .ref 94]))))).set 47 (.inr (.inl (16, [70644700037184])))).set 106 (.inl (2, 2, [0, 1]))).set 105 (.inl (0, 2, [0, 0]))).set 107 (.inl (0, 132, [0, 0, 0, 0, 0, 0, 0, 0, 0, 0, 0, 0, 0, 0, 0, 0, 0, 0, 0, 0, 0, 0, 0, 0, 0, 0, 0, 0, 0, 0, 0, 0, 0, 0, 0, 0, 0, 0, 0, 0, 0, 0, 0, 0, 0, 0, 0, 0, 0, 0, 0, 0, 0, 0, 0, 0, 0, 0, 0, 0, 0, 0, 0, 0, 0, 0, 0, 0, 0, 0, 0, 0]))).set 109 (.inl (0, 22, [0, 0, 0, 0, 0, 0, 0, 0, 0, 0, 0, 0]))), 0, 0) := zclosed (n := 230) (by decide +kernel)
set_option maxRecDepth 1000000 in
set_option maxHeartbeats 4000000 in
theorem zo_23_41 (xs : Nat → Int32) (h0 : xs 0 &&& 63 = 23) (h1 : (xs 1).toInt ≠ 0) (h3 : xs 3 = 3) (h2 : xs 2 = 0) : zDone xs := by
  refine ⟨(((((((zH0.set 37 (.inr (.inr (.inr (3, [.ref 44, .ref 6, .ref 76, .ref 78, .ref 80, .ref 88, .int 1, .int 0, .ref 96, .int 0, .int 0, .int 0, .ref 98, .ref 100, .int 0]))))).set 44 (.inr (.inr (.inr (6, [.int 1, .long 70644700037184, .int 0, .ref 90, .ref 92, .ref 94]))))).set 47 (.inr (.inl (16, [70644700037184])))).set 106 (.inl (2, 2, [0, 1]))).set 105 (.inl (0, 2, [0, 0]))).set 107 (.inl (0, 132, [0, 0, 0, 0, 0, 0, 0, 0, 0, 0, 0, 0, 0, 0, 0, 0, 0, 0, 0, 0, 0, 0, 0, 0, 0, 0, 0, 0, 0, 0, 0, 0, 0, 0, 0, 0, 0, 0, 0, 0, 0, 0, 0, 0, 0, 0, 0, 0, 0, 0, 0, 0, 0, 0, 0, 0, 0, 0, 0, 0, 0, 0, 0, 0, 0, 0, 0, 0, 0, 0, 0, 0]))).set 109 (.inl (0, 22, [0, 0, 0, 0, 0, 0, 0, 0, 0, 0, 0, 0]))), 117, 29934, ?_, by decide, by decide⟩
  refine zT_gos (f := 200000) (pc2 := 37) (ls2 := [(4, .int 0), (3, .ref 232), (2, .ref 162), (1, .ref 0), (0, .ref 11)]) (st2 := [.int (xs 0)]) (h2 := zH0) (dc2 := 117) (ds2 := 29934) 9 rfl ?_
  refine zT_gos (f := 200000) (pc2 := 40) (ls2 := [(4, .int 0), (3, .ref 232), (2, .ref 162), (1, .ref 0), (0, .ref 11)]) (st2 := [.int ((xs 0) &&& (63 : Int32))]) (h2 := zH0) (dc2 := 117) (ds2 := 29934) 2 rfl ?_
  refine zT_val h0 ?_
  refine zT_gos (f := 200000) (pc2 := 1039) (ls2 := [(4, .int 0), (3, .ref 232), (2, .ref 162), (1, .ref 0), (0, .ref 11)]) (st2 := [.int (xs 1), .ref 0]) (h2 := zH0) (dc2 := 117) (ds2 := 29934) 7 rfl ?_
  refine zT_if0 false rfl (zc_eq_f (by show ((xs 1) : Int32).toInt ≠ 0; omega)) ?_
  refine zT_here (pc2 := 1042) rfl ?_
  refine zT_gos (f := 200000) (pc2 := 1053) (ls2 := [(4, .int 0), (3, .ref 232), (2, .ref 162), (1, .ref 0), (0, .ref 11)]) (st2 := [.int (xs 2), .int 1, .ref 0]) (h2 := zH0) (dc2 := 117) (ds2 := 29934) 7 rfl ?_
  refine zT_val h2 ?_
  refine zT_gos (f := 200000) (pc2 := 1059) (ls2 := [(4, .int 0), (3, .ref 232), (2, .ref 162), (1, .ref 0), (0, .ref 11)]) (st2 := [.int (xs 3), .int 0, .int 1, .ref 0]) (h2 := zH0) (dc2 := 117) (ds2 := 29934) 5 rfl ?_
  refine zT_val h3 ?_
  refine zT_call rfl rfl (zT_le (zg0_le 6 xs) zk_o_135) ?_
  refine zT_here (pc2 := 1062) rfl ?_
  refine zT_gos (f := 200000) (pc2 := 1069) (ls2 := [(4, .int 0), (3, .ref 232), (2, .ref 162), (1, .ref 0), (0, .ref 11)]) (st2 := [.int (xs 1), .ref 162, .int 0]) (h2 := (((zH0.set 37 (.inr (.inr (.inr (3, [.ref 44, .ref 6, .ref 76, .ref 78, .ref 80, .ref 88, .int 1, .int 0, .ref 96, .int 0, .int 0, .int 0, .ref 98, .ref 100, .int 0]))))).set 44 (.inr (.inr (.inr (6, [.int 1, .long 70644700037184, .int 0, .ref 90, .ref 92, .ref 94]))))).set 47 (.inr (.inl (16, [70644700037184]))))) (dc2 := 117) (ds2 := 29934) 6 rfl ?_
  refine zT_if0 false rfl (zc_eq_f (by show ((xs 1) : Int32).toInt ≠ 0; omega)) ?_
  refine zT_here (pc2 := 1072) rfl ?_
  refine zT_gos (f := 200000) (pc2 := 1083) (ls2 := [(4, .int 0), (3, .ref 232), (2, .ref 162), (1, .ref 0), (0, .ref 11)]) (st2 := [.int (xs 2), .int 1, .ref 162, .int 0]) (h2 := (((zH0.set 37 (.inr (.inr (.inr (3, [.ref 44, .ref 6, .ref 76, .ref 78, .ref 80, .ref 88, .int 1, .int 0, .ref 96, .int 0, .int 0, .int 0, .ref 98, .ref 100, .int 0]))))).set 44 (.inr (.inr (.inr (6, [.int 1, .long 70644700037184, .int 0, .ref 90, .ref 92, .ref 94]))))).set 47 (.inr (.inl (16, [70644700037184]))))) (dc2 := 117) (ds2 := 29934) 7 rfl ?_
  refine zT_val h2 ?_
  refine zT_gos (f := 200000) (pc2 := 1089) (ls2 := [(4, .int 0), (3, .ref 232), (2, .ref 162), (1, .ref 0), (0, .ref 11)]) (st2 := [.int (xs 3), .int 0, .int 1, .ref 162, .int 0]) (h2 := (((zH0.set 37 (.inr (.inr (.inr (3, [.ref 44, .ref 6, .ref 76, .ref 78, .ref 80, .ref 88, .int 1, .int 0, .ref 96, .int 0, .int 0, .int 0, .ref 98, .ref 100, .int 0]))))).set 44 (.inr (.inr (.inr (6, [.int 1, .long 70644700037184, .int 0, .ref 90, .ref 92, .ref 94]))))).set 47 (.inr (.inl (16, [70644700037184]))))) (dc2 := 117) (ds2 := 29934) 5 rfl ?_
  refine zT_val h3 ?_
  refine zT_call rfl rfl (zT_le (zg0_le 6 xs) zk_o_136) ?_
  refine zT_here (pc2 := 1092) rfl ?_
  refine zT_gos (f := 200000) (pc2 := 1811) (ls2 := [(4, .int 6), (3, .ref 232), (2, .ref 162), (1, .ref 0), (0, .ref 11)]) (st2 := [.int 1]) (h2 := (((((((zH0.set 37 (.inr (.inr (.inr (3, [.ref 44, .ref 6, .ref 76, .ref 78, .ref 80, .ref 88, .int 1, .int 0, .ref 96, .int 0, .int 0, .int 0, .ref 98, .ref 100, .int 0]))))).set 44 (.inr (.inr (.inr (6, [.int 1, .long 70644700037184, .int 0, .ref 90, .ref 92, .ref 94]))))).set 47 (.inr (.inl (16, [70644700037184])))).set 106 (.inl (2, 2, [0, 1]))).set 105 (.inl (0, 2, [0, 0]))).set 107 (.inl (0, 132, [0, 0, 0, 0, 0, 0, 0, 0, 0, 0, 0, 0, 0, 0, 0, 0, 0, 0, 0, 0, 0, 0, 0, 0, 0, 0, 0, 0, 0, 0, 0, 0, 0, 0, 0, 0, 0, 0, 0, 0, 0, 0, 0, 0, 0, 0, 0, 0, 0, 0, 0, 0, 0, 0, 0, 0, 0, 0, 0, 0, 0, 0, 0, 0, 0, 0, 0, 0, 0, 0, 0, 0]))).set 109 (.inl (0, 22, [0, 0, 0, 0, 0, 0, 0, 0, 0, 0, 0, 0])))) (dc2 := 117) (ds2 := 29934) 10 rfl ?_
  exact zT_ret rfl rfl
set_option maxRecDepth 1000000 in
set_option maxHeartbeats 4000000 in
theorem zo_23_42 (xs : Nat → Int32) (h0 : xs 0 &&& 63 = 23) (h1 : (xs 1).toInt ≠ 0) (h3 : xs 3 = 4) (h2 : (xs 2).toInt < 0) : zDone xs := by
  refine ⟨(((((((zH0.set 37 (.inr (.inr (.inr (3, [.ref 44, .ref 6, .ref 76, .ref 78, .ref 80, .ref 88, .int 1, .int 0, .ref 96, .int 0, .int 0, .int 0, .ref 98, .ref 100, .int 0]))))).set 44 (.inr (.inr (.inr (6, [.int 1, .long 70644700037184, .int 0, .ref 90, .ref 92, .ref 94]))))).set 47 (.inr (.inl (16, [70644700037184])))).set 106 (.inl (2, 2, [0, 1]))).set 105 (.inl (0, 2, [0, 0]))).set 107 (.inl (0, 132, [0, 0, 0, 0, 0, 0, 0, 0, 0, 0, 0, 0, 0, 0, 0, 0, 0, 0, 0, 0, 0, 0, 0, 0, 0, 0, 0, 0, 0, 0, 0, 0, 0, 0, 0, 0, 0, 0, 0, 0, 0, 0, 0, 0, 0, 0, 0, 0, 0, 0, 0, 0, 0, 0, 0, 0, 0, 0, 0, 0, 0, 0, 0, 0, 0, 0, 0, 0, 0, 0, 0, 0]))).set 109 (.inl (0, 22, [0, 0, 0, 0, 0, 0, 0, 0, 0, 0, 0, 0]))), 117, 29934, ?_, by decide, by decide⟩
  refine zT_gos (f := 200000) (pc2 := 37) (ls2 := [(4, .int 0), (3, .ref 232), (2, .ref 162), (1, .ref 0), (0, .ref 11)]) (st2 := [.int (xs 0)]) (h2 := zH0) (dc2 := 117) (ds2 := 29934) 9 rfl ?_
  refine zT_gos (f := 200000) (pc2 := 40) (ls2 := [(4, .int 0), (3, .ref 232), (2, .ref 162), (1, .ref 0), (0, .ref 11)]) (st2 := [.int ((xs 0) &&& (63 : Int32))]) (h2 := zH0) (dc2 := 117) (ds2 := 29934) 2 rfl ?_
  refine zT_val h0 ?_
  refine zT_gos (f := 200000) (pc2 := 1039) (ls2 := [(4, .int 0), (3, .ref 232), (2, .ref 162), (1, .ref 0), (0, .ref 11)]) (st2 := [.int (xs 1), .ref 0]) (h2 := zH0) (dc2 := 117) (ds2 := 29934) 7 rfl ?_
  refine zT_if0 false rfl (zc_eq_f (by show ((xs 1) : Int32).toInt ≠ 0; omega)) ?_
  refine zT_here (pc2 := 1042) rfl ?_
  refine zT_gos (f := 200000) (pc2 := 1053) (ls2 := [(4, .int 0), (3, .ref 232), (2, .ref 162), (1, .ref 0), (0, .ref 11)]) (st2 := [.int (xs 2), .int 1, .ref 0]) (h2 := zH0) (dc2 := 117) (ds2 := 29934) 7 rfl ?_
  refine zT_gos (f := 200000) (pc2 := 1059) (ls2 := [(4, .int 0), (3, .ref 232), (2, .ref 162), (1, .ref 0), (0, .ref 11)]) (st2 := [.int (xs 3), .int (xs 2), .int 1, .ref 0]) (h2 := zH0) (dc2 := 117) (ds2 := 29934) 5 rfl ?_
  refine zT_val h3 ?_
  refine zT_call (v := some (.int (-99))) (h2 := (((zH0.set 37 (.inr (.inr (.inr (3, [.ref 44, .ref 6, .ref 76, .ref 78, .ref 80, .ref 88, .int 1, .int 0, .ref 96, .int 0, .int 0, .int 0, .ref 98, .ref 100, .int 0]))))).set 44 (.inr (.inr (.inr (6, [.int 1, .long 70644700037184, .int 0, .ref 90, .ref 92, .ref 94]))))).set 47 (.inr (.inl (16, [70644700037184]))))) (d1 := 0) (s1 := 0) rfl rfl ?_ ?_
  · refine zT_gos (f := 200000) (pc2 := 33) (ls2 := [(4, .ref 88), (0, .ref 0), (1, .int 1), (2, .int (xs 2)), (3, .int 4)]) (st2 := [.int (xs 2)]) (h2 := (((zH0.set 37 (.inr (.inr (.inr (3, [.ref 44, .ref 6, .ref 76, .ref 78, .ref 80, .ref 88, .int 1, .int 0, .ref 96, .int 0, .int 0, .int 0, .ref 98, .ref 100, .int 0]))))).set 44 (.inr (.inr (.inr (6, [.int 1, .long 70644700037184, .int 0, .ref 90, .ref 92, .ref 94]))))).set 47 (.inr (.inl (16, [70644700037184]))))) (dc2 := 0) (ds2 := 0) 14 rfl ?_
    refine zT_if0 true rfl (zc_lt_t (by show ((xs 2) : Int32).toInt < 0; omega)) ?_
    refine zT_here (pc2 := 45) rfl ?_
    refine zT_gos (f := 200000) (pc2 := 57) (ls2 := [(4, .ref 88), (0, .ref 0), (1, .int 1), (2, .int (xs 2)), (3, .int 4)]) (st2 := [.int (-99)]) (h2 := (((zH0.set 37 (.inr (.inr (.inr (3, [.ref 44, .ref 6, .ref 76, .ref 78, .ref 80, .ref 88, .int 1, .int 0, .ref 96, .int 0, .int 0, .int 0, .ref 98, .ref 100, .int 0]))))).set 44 (.inr (.inr (.inr (6, [.int 1, .long 70644700037184, .int 0, .ref 90, .ref 92, .ref 94]))))).set 47 (.inr (.inl (16, [70644700037184]))))) (dc2 := 0) (ds2 := 0) 2 rfl ?_
    exact zT_ret rfl rfl
  refine zT_here (pc2 := 1062) rfl ?_
  refine zT_gos (f := 200000) (pc2 := 1069) (ls2 := [(4, .int 0), (3, .ref 232), (2, .ref 162), (1, .ref 0), (0, .ref 11)]) (st2 := [.int (xs 1), .ref 162, .int (-99)]) (h2 := (((zH0.set 37 (.inr (.inr (.inr (3, [.ref 44, .ref 6, .ref 76, .ref 78, .ref 80, .ref 88, .int 1, .int 0, .ref 96, .int 0, .int 0, .int 0, .ref 98, .ref 100, .int 0]))))).set 44 (.inr (.inr (.inr (6, [.int 1, .long 70644700037184, .int 0, .ref 90, .ref 92, .ref 94]))))).set 47 (.inr (.inl (16, [70644700037184]))))) (dc2 := 117) (ds2 := 29934) 6 rfl ?_
  refine zT_if0 false rfl (zc_eq_f (by show ((xs 1) : Int32).toInt ≠ 0; omega)) ?_
  refine zT_here (pc2 := 1072) rfl ?_
  refine zT_gos (f := 200000) (pc2 := 1083) (ls2 := [(4, .int 0), (3, .ref 232), (2, .ref 162), (1, .ref 0), (0, .ref 11)]) (st2 := [.int (xs 2), .int 1, .ref 162, .int (-99)]) (h2 := (((zH0.set 37 (.inr (.inr (.inr (3, [.ref 44, .ref 6, .ref 76, .ref 78, .ref 80, .ref 88, .int 1, .int 0, .ref 96, .int 0, .int 0, .int 0, .ref 98, .ref 100, .int 0]))))).set 44 (.inr (.inr (.inr (6, [.int 1, .long 70644700037184, .int 0, .ref 90, .ref 92, .ref 94]))))).set 47 (.inr (.inl (16, [70644700037184]))))) (dc2 := 117) (ds2 := 29934) 7 rfl ?_
  refine zT_gos (f := 200000) (pc2 := 1089) (ls2 := [(4, .int 0), (3, .ref 232), (2, .ref 162), (1, .ref 0), (0, .ref 11)]) (st2 := [.int (xs 3), .int (xs 2), .int 1, .ref 162, .int (-99)]) (h2 := (((zH0.set 37 (.inr (.inr (.inr (3, [.ref 44, .ref 6, .ref 76, .ref 78, .ref 80, .ref 88, .int 1, .int 0, .ref 96, .int 0, .int 0, .int 0, .ref 98, .ref 100, .int 0]))))).set 44 (.inr (.inr (.inr (6, [.int 1, .long 70644700037184, .int 0, .ref 90, .ref 92, .ref 94]))))).set 47 (.inr (.inl (16, [70644700037184]))))) (dc2 := 117) (ds2 := 29934) 5 rfl ?_
  refine zT_val h3 ?_
  refine zT_call (v := some (.int (-99))) (h2 := (((((((zH0.set 37 (.inr (.inr (.inr (3, [.ref 44, .ref 6, .ref 76, .ref 78, .ref 80, .ref 88, .int 1, .int 0, .ref 96, .int 0, .int 0, .int 0, .ref 98, .ref 100, .int 0]))))).set 44 (.inr (.inr (.inr (6, [.int 1, .long 70644700037184, .int 0, .ref 90, .ref 92, .ref 94]))))).set 47 (.inr (.inl (16, [70644700037184])))).set 106 (.inl (2, 2, [0, 1]))).set 105 (.inl (0, 2, [0, 0]))).set 107 (.inl (0, 132, [0, 0, 0, 0, 0, 0, 0, 0, 0, 0, 0, 0, 0, 0, 0, 0, 0, 0, 0, 0, 0, 0, 0, 0, 0, 0, 0, 0, 0, 0, 0, 0, 0, 0, 0, 0, 0, 0, 0, 0, 0, 0, 0, 0, 0, 0, 0, 0, 0, 0, 0, 0, 0, 0, 0, 0, 0, 0, 0, 0, 0, 0, 0, 0, 0, 0, 0, 0, 0, 0, 0, 0]))).set 109 (.inl (0, 22, [0, 0, 0, 0, 0, 0, 0, 0, 0, 0, 0, 0])))) (d1 := 0) (s1 := 0) rfl rfl ?_ ?_
  · refine zT_gos (f := 200000) (pc2 := 7) (ls2 := [(0, .ref 162), (1, .int 1), (2, .int (xs 2)), (3, .int 4)]) (st2 := [.int 1, .ref 162]) (h2 := (((zH0.set 37 (.inr (.inr (.inr (3, [.ref 44, .ref 6, .ref 76, .ref 78, .ref 80, .ref 88, .int 1, .int 0, .ref 96, .int 0, .int 0, .int 0, .ref 98, .ref 100, .int 0]))))).set 44 (.inr (.inr (.inr (6, [.int 1, .long 70644700037184, .int 0, .ref 90, .ref 92, .ref 94]))))).set 47 (.inr (.inl (16, [70644700037184]))))) (dc2 := 0) (ds2 := 0) 5 rfl ?_
    refine zT_call rfl rfl (zT_le (zg0_le 6 xs) zk_o_20) ?_
    refine zT_here (pc2 := 10) rfl ?_
    refine zT_gos (f := 200000) (pc2 := 18) (ls2 := [(4, .int 0), (0, .ref 162), (1, .int 1), (2, .int (xs 2)), (3, .int 4)]) (st2 := [.int (xs 2)]) (h2 := (((((((zH0.set 37 (.inr (.inr (.inr (3, [.ref 44, .ref 6, .ref 76, .ref 78, .ref 80, .ref 88, .int 1, .int 0, .ref 96, .int 0, .int 0, .int 0, .ref 98, .ref 100, .int 0]))))).set 44 (.inr (.inr (.inr (6, [.int 1, .long 70644700037184, .int 0, .ref 90, .ref 92, .ref 94]))))).set 47 (.inr (.inl (16, [70644700037184])))).set 106 (.inl (2, 2, [0, 1]))).set 105 (.inl (0, 2, [0, 0]))).set 107 (.inl (0, 132, [0, 0, 0, 0, 0, 0, 0, 0, 0, 0, 0, 0, 0, 0, 0, 0, 0, 0, 0, 0, 0, 0, 0, 0, 0, 0, 0, 0, 0, 0, 0, 0, 0, 0, 0, 0, 0, 0, 0, 0, 0, 0, 0, 0, 0, 0, 0, 0, 0, 0, 0, 0, 0, 0, 0, 0, 0, 0, 0, 0, 0, 0, 0, 0, 0, 0, 0, 0, 0, 0, 0, 0]))).set 109 (.inl (0, 22, [0, 0, 0, 0, 0, 0, 0, 0, 0, 0, 0, 0])))) (dc2 := 0) (ds2 := 0) 4 rfl ?_
    refine zT_if0 true rfl (zc_lt_t (by show ((xs 2) : Int32).toInt < 0; omega)) ?_
    refine zT_here (pc2 := 34) rfl ?_
    refine zT_gos (f := 200000) (pc2 := 54) (ls2 := [(4, .int 0), (0, .ref 162), (1, .int 1), (2, .int (xs 2)), (3, .int 4)]) (st2 := [.int (-99)]) (h2 := (((((((zH0.set 37 (.inr (.inr (.inr (3, [.ref 44, .ref 6, .ref 76, .ref 78, .ref 80, .ref 88, .int 1, .int 0, .ref 96, .int 0, .int 0, .int 0, .ref 98, .ref 100, .int 0]))))).set 44 (.inr (.inr (.inr (6, [.int 1, .long 70644700037184, .int 0, .ref 90, .ref 92, .ref 94]))))).set 47 (.inr (.inl (16, [70644700037184])))).set 106 (.inl (2, 2, [0, 1]))).set 105 (.inl (0, 2, [0, 0]))).set 107 (.inl (0, 132, [0, 0, 0, 0, 0, 0, 0, 0, 0, 0, 0, 0, 0, 0, 0, 0, 0, 0, 0, 0, 0, 0, 0, 0, 0, 0, 0, 0, 0, 0, 0, 0, 0, 0, 0, 0, 0, 0, 0, 0, 0, 0, 0, 0, 0, 0, 0, 0, 0, 0, 0, 0, 0, 0, 0, 0, 0, 0, 0, 0, 0, 0, 0, 0, 0, 0, 0, 0, 0, 0, 0, 0]))).set 109 (.inl (0, 22, [0, 0, 0, 0, 0, 0, 0, 0, 0, 0, 0, 0])))) (dc2 := 0) (ds2 := 0) 2 rfl ?_
    exact zT_ret rfl rfl
  refine zT_here (pc2 := 1092) rfl ?_
  refine zT_gos (f := 200000) (pc2 := 1811) (ls2 := [(4, .int 6), (3, .ref 232), (2, .ref 162), (1, .ref 0), (0, .ref 11)]) (st2 := [.int 1]) (h2 := (((((((zH0.set 37 (.inr (.inr (.inr (3, [.ref 44, .ref 6, .ref 76, .ref 78, .ref 80, .ref 88, .int 1, .int 0, .ref 96, .int 0, .int 0, .int 0, .ref 98, .ref 100, .int 0]))))).set 44 (.inr (.inr (.inr (6, [.int 1, .long 70644700037184, .int 0, .ref 90, .ref 92, .ref 94]))))).set 47 (.inr (.inl (16, [70644700037184])))).set 106 (.inl (2, 2, [0, 1]))).set 105 (.inl (0, 2, [0, 0]))).set 107 (.inl (0, 132, [0, 0, 0, 0, 0, 0, 0, 0, 0, 0, 0, 0, 0, 0, 0, 0, 0, 0, 0, 0, 0, 0, 0, 0, 0, 0, 0, 0, 0, 0, 0, 0, 0, 0, 0, 0, 0, 0, 0, 0, 0, 0, 0, 0, 0, 0, 0, 0, 0, 0, 0, 0, 0, 0, 0, 0, 0, 0, 0, 0, 0, 0, 0, 0, 0, 0, 0, 0, 0, 0, 0, 0]))).set 109 (.inl (0, 22, [0, 0, 0, 0, 0, 0, 0, 0, 0, 0, 0, 0])))) (dc2 := 117) (ds2 := 29934) 10 rfl ?_
  exact zT_ret rfl rfl
set_option maxRecDepth 1000000 in
set_option maxHeartbeats 4000000 in
theorem zo_23_43 (xs : Nat → Int32) (h0 : xs 0 &&& 63 = 23) (h1 : (xs 1).toInt ≠ 0) (h3 : xs 3 = 4) (h2 : 0 < (xs 2).toInt) : zDone xs := by
  refine ⟨(((((((zH0.set 37 (.inr (.inr (.inr (3, [.ref 44, .ref 6, .ref 76, .ref 78, .ref 80, .ref 88, .int 1, .int 0, .ref 96, .int 0, .int 0, .int 0, .ref 98, .ref 100, .int 0]))))).set 44 (.inr (.inr (.inr (6, [.int 1, .long 70644700037184, .int 0, .ref 90, .ref 92, .ref 94]))))).set 47 (.inr (.inl (16, [70644700037184])))).set 106 (.inl (2, 2, [0, 1]))).set 105 (.inl (0, 2, [0, 0]))).set 107 (.inl (0, 132, [0, 0, 0, 0, 0, 0, 0, 0, 0, 0, 0, 0, 0, 0, 0, 0, 0, 0, 0, 0, 0, 0, 0, 0, 0, 0, 0, 0, 0, 0, 0, 0, 0, 0, 0, 0, 0, 0, 0, 0, 0, 0, 0, 0, 0, 0, 0, 0, 0, 0, 0, 0, 0, 0, 0, 0, 0, 0, 0, 0, 0, 0, 0, 0, 0, 0, 0, 0, 0, 0, 0, 0]))).set 109 (.inl (0, 22, [0, 0, 0, 0, 0, 0, 0, 0, 0, 0, 0, 0]))), 117, 29934, ?_, by decide, by decide⟩
  refine zT_gos (f := 200000) (pc2 := 37) (ls2 := [(4, .int 0), (3, .ref 232), (2, .ref 162), (1, .ref 0), (0, .ref 11)]) (st2 := [.int (xs 0)]) (h2 := zH0) (dc2 := 117) (ds2 := 29934) 9 rfl ?_
  refine zT_gos (f := 200000) (pc2 := 40) (ls2 := [(4, .int 0), (3, .ref 232), (2, .ref 162), (1, .ref 0), (0, .ref 11)]) (st2 := [.int ((xs 0) &&& (63 : Int32))]) (h2 := zH0) (dc2 := 117) (ds2 := 29934) 2 rfl ?_
  refine zT_val h0 ?_
  refine zT_gos (f := 200000) (pc2 := 1039) (ls2 := [(4, .int 0), (3, .ref 232), (2, .ref 162), (1, .ref 0), (0, .ref 11)]) (st2 := [.int (xs 1), .ref 0]) (h2 := zH0) (dc2 := 117) (ds2 := 29934) 7 rfl ?_
  refine zT_if0 false rfl (zc_eq_f (by show ((xs 1) : Int32).toInt ≠ 0; omega)) ?_
  refine zT_here (pc2 := 1042) rfl ?_
  refine zT_gos (f := 200000) (pc2 := 1053) (ls2 := [(4, .int 0), (3, .ref 232), (2, .ref 162), (1, .ref 0), (0, .ref 11)]) (st2 := [.int (xs 2), .int 1, .ref 0]) (h2 := zH0) (dc2 := 117) (ds2 := 29934) 7 rfl ?_
  refine zT_gos (f := 200000) (pc2 := 1059) (ls2 := [(4, .int 0), (3, .ref 232), (2, .ref 162), (1, .ref 0), (0, .ref 11)]) (st2 := [.int (xs 3), .int (xs 2), .int 1, .ref 0]) (h2 := zH0) (dc2 := 117) (ds2 := 29934) 5 rfl ?_
  refine zT_val h3 ?_
  refine zT_call (v := some (.int (-99))) (h2 := (((zH0.set 37 (.inr (.inr (.inr (3, [.ref 44, .ref 6, .ref 76, .ref 78, .ref 80, .ref 88, .int 1, .int 0, .ref 96, .int 0, .int 0, .int 0, .ref 98, .ref 100, .int 0]))))).set 44 (.inr (.inr (.inr (6, [.int 1, .long 70644700037184, .int 0, .ref 90, .ref 92, .ref 94]))))).set 47 (.inr (.inl (16, [70644700037184]))))) (d1 := 0) (s1 := 0) rfl rfl ?_ ?_
  · refine zT_gos (f := 200000) (pc2 := 33) (ls2 := [(4, .ref 88), (0, .ref 0), (1, .int 1), (2, .int (xs 2)), (3, .int 4)]) (st2 := [.int (xs 2)]) (h2 := (((zH0.set 37 (.inr (.inr (.inr (3, [.ref 44, .ref 6, .ref 76, .ref 78, .ref 80, .ref 88, .int 1, .int 0, .ref 96, .int 0, .int 0, .int 0, .ref 98, .ref 100, .int 0]))))).set 44 (.inr (.inr (.inr (6, [.int 1, .long 70644700037184, .int 0, .ref 90, .ref 92, .ref 94]))))).set 47 (.inr (.inl (16, [70644700037184]))))) (dc2 := 0) (ds2 := 0) 14 rfl ?_
    refine zT_if0 false rfl (zc_lt_f (by show ((xs 2) : Int32).toInt ≥ 0; omega)) ?_
    refine zT_here (pc2 := 36) rfl ?_
    refine zT_gos (f := 200000) (pc2 := 42) (ls2 := [(4, .ref 88), (0, .ref 0), (1, .int 1), (2, .int (xs 2)), (3, .int 4)]) (st2 := [.int 0, .int (xs 2)]) (h2 := (((zH0.set 37 (.inr (.inr (.inr (3, [.ref 44, .ref 6, .ref 76, .ref 78, .ref 80, .ref 88, .int 1, .int 0, .ref 96, .int 0, .int 0, .int 0, .ref 98, .ref 100, .int 0]))))).set 44 (.inr (.inr (.inr (6, [.int 1, .long 70644700037184, .int 0, .ref 90, .ref 92, .ref 94]))))).set 47 (.inr (.inl (16, [70644700037184]))))) (dc2 := 0) (ds2 := 0) 3 rfl ?_
    refine zT_if2 false rfl (zc_le_f (by show ((xs 2) : Int32).toInt > 0; omega)) ?_
    refine zT_here (pc2 := 45) rfl ?_
    refine zT_gos (f := 200000) (pc2 := 57) (ls2 := [(4, .ref 88), (0, .ref 0), (1, .int 1), (2, .int (xs 2)), (3, .int 4)]) (st2 := [.int (-99)]) (h2 := (((zH0.set 37 (.inr (.inr (.inr (3, [.ref 44, .ref 6, .ref 76, .ref 78, .ref 80, .ref 88, .int 1, .int 0, .ref 96, .int 0, .int 0, .int 0, .ref 98, .ref 100, .int 0]))))).set 44 (.inr (.inr (.inr (6, [.int 1, .long 70644700037184, .int 0, .ref 90, .ref 92, .ref 94]))))).set 47 (.inr (.inl (16, [70644700037184]))))) (dc2 := 0) (ds2 := 0) 2 rfl ?_
    exact zT_ret rfl rfl
  refine zT_here (pc2 := 1062) rfl ?_
  refine zT_gos (f := 200000) (pc2 := 1069) (ls2 := [(4, .int 0), (3, .ref 232), (2, .ref 162), (1, .ref 0), (0, .ref 11)]) (st2 := [.int (xs 1), .ref 162, .int (-99)]) (h2 := (((zH0.set 37 (.inr (.inr (.inr (3, [.ref 44, .ref 6, .ref 76, .ref 78, .ref 80, .ref 88, .int 1, .int 0, .ref 96, .int 0, .int 0, .int 0, .ref 98, .ref 100, .int 0]))))).set 44 (.inr (.inr (.inr (6, [.int 1, .long 70644700037184, .int 0, .ref 90, .ref 92, .ref 94]))))).set 47 (.inr (.inl (16, [70644700037184]))))) (dc2 := 117) (ds2 := 29934) 6 rfl ?_
  refine zT_if0 false rfl (zc_eq_f (by show ((xs 1) : Int32).toInt ≠ 0; omega)) ?_
  refine zT_here (pc2 := 1072) rfl ?_
  refine zT_gos (f := 200000) (pc2 := 1083) (ls2 := [(4, .int 0), (3, .ref 232), (2, .ref 162), (1, .ref 0), (0, .ref 11)]) (st2 := [.int (xs 2), .int 1, .ref 162, .int (-99)]) (h2 := (((zH0.set 37 (.inr (.inr (.inr (3, [.ref 44, .ref 6, .ref 76, .ref 78, .ref 80, .ref 88, .int 1, .int 0, .ref 96, .int 0, .int 0, .int 0, .ref 98, .ref 100, .int 0]))))).set 44 (.inr (.inr (.inr (6, [.int 1, .long 70644700037184, .int 0, .ref 90, .ref 92, .ref 94]))))).set 47 (.inr (.inl (16, [70644700037184]))))) (dc2 := 117) (ds2 := 29934) 7 rfl ?_
  refine zT_gos (f := 200000) (pc2 := 1089) (ls2 := [(4, .int 0), (3, .ref 232), (2, .ref 162), (1, .ref 0), (0, .ref 11)]) (st2 := [.int (xs 3), .int (xs 2), .int 1, .ref 162, .int (-99)]) (h2 := (((zH0.set 37 (.inr (.inr (.inr (3, [.ref 44, .ref 6, .ref 76, .ref 78, .ref 80, .ref 88, .int 1, .int 0, .ref 96, .int 0, .int 0, .int 0, .ref 98, .ref 100, .int 0]))))).set 44 (.inr (.inr (.inr (6, [.int 1, .long 70644700037184, .int 0, .ref 90, .ref 92, .ref 94]))))).set 47 (.inr (.inl (16, [70644700037184]))))) (dc2 := 117) (ds2 := 29934) 5 rfl ?_
  refine zT_val h3 ?_
  refine zT_call (v := some (.int (-99))) (h2 := (((((((zH0.set 37 (.inr (.inr (.inr (3, [.ref 44, .ref 6, .ref 76, .ref 78, .ref 80, .ref 88, .int 1, .int 0, .ref 96, .int 0, .int 0, .int 0, .ref 98, .ref 100, .int 0]))))).set 44 (.inr (.inr (.inr (6, [.int 1, .long 70644700037184, .int 0, .ref 90, .ref 92, .ref 94]))))).set 47 (.inr (.inl (16, [70644700037184])))).set 106 (.inl (2, 2, [0, 1]))).set 105 (.inl (0, 2, [0, 0]))).set 107 (.inl (0, 132, [0, 0, 0, 0, 0, 0, 0, 0, 0, 0, 0, 0, 0, 0, 0, 0, 0, 0, 0, 0, 0, 0, 0, 0, 0, 0, 0, 0, 0, 0, 0, 0, 0, 0, 0, 0, 0, 0, 0, 0, 0, 0, 0, 0, 0, 0, 0, 0, 0, 0, 0, 0, 0, 0, 0, 0, 0, 0, 0, 0, 0, 0, 0, 0, 0, 0, 0, 0, 0, 0, 0, 0]))).set 109 (.inl (0, 22, [0, 0, 0, 0, 0, 0, 0, 0, 0, 0, 0, 0])))) (d1 := 0) (s1 := 0) rfl rfl ?_ ?_
  · refine zT_gos (f := 200000) (pc2 := 7) (ls2 := [(0, .ref 162), (1, .int 1), (2, .int (xs 2)), (3, .int 4)]) (st2 := [.int 1, .ref 162]) (h2 := (((zH0.set 37 (.inr (.inr (.inr (3, [.ref 44, .ref 6, .ref 76, .ref 78, .ref 80, .ref 88, .int 1, .int 0, .ref 96, .int 0, .int 0, .int 0, .ref 98, .ref 100, .int 0]))))).set 44 (.inr (.inr (.inr (6, [.int 1, .long 70644700037184, .int 0, .ref 90, .ref 92, .ref 94]))))).set 47 (.inr (.inl (16, [70644700037184]))))) (dc2 := 0) (ds2 := 0) 5 rfl ?_
    refine zT_call rfl rfl (zT_le (zg0_le 6 xs) zk_o_20) ?_
    refine zT_here (pc2 := 10) rfl ?_
    refine zT_gos (f := 200000) (pc2 := 18) (ls2 := [(4, .int 0), (0, .ref 162), (1, .int 1), (2, .int (xs 2)), (3, .int 4)]) (st2 := [.int (xs 2)]) (h2 := (((((((zH0.set 37 (.inr (.inr (.inr (3, [.ref 44, .ref 6, .ref 76, .ref 78, .ref 80, .ref 88, .int 1, .int 0, .ref 96, .int 0, .int 0, .int 0, .ref 98, .ref 100, .int 0]))))).set 44 (.inr (.inr (.inr (6, [.int 1, .long 70644700037184, .int 0, .ref 90, .ref 92, .ref 94]))))).set 47 (.inr (.inl (16, [70644700037184])))).set 106 (.inl (2, 2, [0, 1]))).set 105 (.inl (0, 2, [0, 0]))).set 107 (.inl (0, 132, [0, 0, 0, 0, 0, 0, 0, 0, 0, 0, 0, 0, 0, 0, 0, 0, 0, 0, 0, 0, 0, 0, 0, 0, 0, 0, 0, 0, 0, 0, 0, 0, 0, 0, 0, 0, 0, 0, 0, 0, 0, 0, 0, 0, 0, 0, 0, 0, 0, 0, 0, 0, 0, 0, 0, 0, 0, 0, 0, 0, 0, 0, 0, 0, 0, 0, 0, 0, 0, 0, 0, 0]))).set 109 (.inl (0, 22, [0, 0, 0, 0, 0, 0, 0, 0, 0, 0, 0, 0])))) (dc2 := 0) (ds2 := 0) 4 rfl ?_
    refine zT_if0 false rfl (zc_lt_f (by show ((xs 2) : Int32).toInt ≥ 0; omega)) ?_
    refine zT_here (pc2 := 21) rfl ?_
    refine zT_gos (f := 200000) (pc2 := 24) (ls2 := [(4, .int 0), (0, .ref 162), (1, .int 1), (2, .int (xs 2)), (3, .int 4)]) (st2 := [.int 0, .int (xs 2)]) (h2 := (((((((zH0.set 37 (.inr (.inr (.inr (3, [.ref 44, .ref 6, .ref 76, .ref 78, .ref 80, .ref 88, .int 1, .int 0, .ref 96, .int 0, .int 0, .int 0, .ref 98, .ref 100, .int 0]))))).set 44 (.inr (.inr (.inr (6, [.int 1, .long 70644700037184, .int 0, .ref 90, .ref 92, .ref 94]))))).set 47 (.inr (.inl (16, [70644700037184])))).set 106 (.inl (2, 2, [0, 1]))).set 105 (.inl (0, 2, [0, 0]))).set 107 (.inl (0, 132, [0, 0, 0, 0, 0, 0, 0, 0, 0, 0, 0, 0, 0, 0, 0, 0, 0, 0, 0, 0, 0, 0, 0, 0, 0, 0, 0, 0, 0, 0, 0, 0, 0, 0, 0, 0, 0, 0, 0, 0, 0, 0, 0, 0, 0, 0, 0, 0, 0, 0, 0, 0, 0, 0, 0, 0, 0, 0, 0, 0, 0, 0, 0, 0, 0, 0, 0, 0, 0, 0, 0, 0]))).set 109 (.inl (0, 22, [0, 0, 0, 0, 0, 0, 0, 0, 0, 0, 0, 0])))) (dc2 := 0) (ds2 := 0) 2 rfl ?_
    refine zT_if2 true rfl (zc_gt_t (by show ((xs 2) : Int32).toInt > 0; omega)) ?_
    refine zT_here (pc2 := 34) rfl ?_
    refine zT_gos (f := 200000) (pc2 := 54) (ls2 := [(4, .int 0), (0, .ref 162), (1, .int 1), (2, .int (xs 2)), (3, .int 4)]) (st2 := [.int (-99)]) (h2 := (((((((zH0.set 37 (.inr (.inr (.inr (3, [.ref 44, .ref 6, .ref 76, .ref 78, .ref 80, .ref 88, .int 1, .int 0, .ref 96, .int 0, .int 0, .int 0, .ref 98, .ref 100, .int 0]))))).set 44 (.inr (.inr (.inr (6, [.int 1, .long 70644700037184, .int 0, .ref 90, .ref 92, .ref 94]))))).set 47 (.inr (.inl (16, [70644700037184])))).set 106 (.inl (2, 2, [0, 1]))).set 105 (.inl (0, 2, [0, 0]))).set 107 (.inl (0, 132, [0, 0, 0, 0, 0, 0, 0, 0, 0, 0, 0, 0, 0, 0, 0, 0, 0, 0, 0, 0, 0, 0, 0, 0, 0, 0, 0, 0, 0, 0, 0, 0, 0, 0, 0, 0, 0, 0, 0, 0, 0, 0, 0, 0, 0, 0, 0, 0, 0, 0, 0, 0, 0, 0, 0, 0, 0, 0, 0, 0, 0, 0, 0, 0, 0, 0, 0, 0, 0, 0, 0, 0]))).set 109 (.inl (0, 22, [0, 0, 0, 0, 0, 0, 0, 0, 0, 0, 0, 0])))) (dc2 := 0) (ds2 := 0) 2 rfl ?_
    exact zT_ret rfl rfl
  refine zT_here (pc2 := 1092) rfl ?_
  refine zT_gos (f := 200000) (pc2 := 1811) (ls2 := [(4, .int 6), (3, .ref 232), (2, .ref 162), (1, .ref 0), (0, .ref 11)]) (st2 := [.int 1]) (h2 := (((((((zH0.set 37 (.inr (.inr (.inr (3, [.ref 44, .ref 6, .ref 76, .ref 78, .ref 80, .ref 88, .int 1, .int 0, .ref 96, .int 0, .int 0, .int 0, .ref 98, .ref 100, .int 0]))))).set 44 (.inr (.inr (.inr (6, [.int 1, .long 70644700037184, .int 0, .ref 90, .ref 92, .ref 94]))))).set 47 (.inr (.inl (16, [70644700037184])))).set 106 (.inl (2, 2, [0, 1]))).set 105 (.inl (0, 2, [0, 0]))).set 107 (.inl (0, 132, [0, 0, 0, 0, 0, 0, 0, 0, 0, 0, 0, 0, 0, 0, 0, 0, 0, 0, 0, 0, 0, 0, 0, 0, 0, 0, 0, 0, 0, 0, 0, 0, 0, 0, 0, 0, 0, 0, 0, 0, 0, 0, 0, 0, 0, 0, 0, 0, 0, 0, 0, 0, 0, 0, 0, 0, 0, 0, 0, 0, 0, 0, 0, 0, 0, 0, 0, 0, 0, 0, 0, 0]))).set 109 (.inl (0, 22, [0, 0, 0, 0, 0, 0, 0, 0, 0, 0, 0, 0])))) (dc2 := 117) (ds2 := 29934) 10 rfl ?_
  exact zT_ret rfl rfl
set_option maxRecDepth 1000000 in
theorem zk_o_137 : zT zg0 zF zP 124 0 [(0, .ref 0), (1, .int 1), (2, .int 0), (3, .int 4)] [] zH0 0 0 (some (.int 0), (((zH0.set 37 (.inr (.inr (.inr (3, [.ref 44, .ref 6, .ref 76, .ref 78, .ref 80, .ref 88, .int 1, .int 0, .ref 96, .int 0, .int 0, .int 0, .ref 98, .ref 100, .int 0]))))).set 44 (.inr (.inr (.inr (6, [.int 1, .long 70644700037184, .int 0, .ref 90, .ref 92, .ref 94]))))).set 47 (.inr (.inl (16, [70644700037184])))), 0, 0) := zclosed (n := 149) (by decide +kernel)
set_option maxRecDepth 1000000 in
theorem zk_o_138 : zT zg0 zF zP 255 0 [(0, .ref 162), (1, .int 1), (2, .int 0), (3, .int 4)] [] (((zH0.set 37 (.inr (.inr (.inr (3, [.ref 44, .ref 6, .ref 76, .ref 78, .ref 80, .ref 88, .int 1, .int 0, .ref 96, .int 0, .int 0, .int 0, .ref 98, .ref 100, .int 0]))))).set 44 (.inr (.inr (.inr (6, [.int 1, .long 70644700037184, .int 0, .ref 90, .ref 92, .ref 94]))))).set 47 (.inr (.inl (16, [70644700037184])))) 0 0 (some (.int 0), (((((((zH0.set 37 (.inr (.inr (.inr (3, [.ref 44, .ref 6, .ref 76, .ref 78, .ref 80, .ref 88, .int 1, .int 0, .ref 96, .int 0, .int 0, .int 0, .ref 98, .ref 100, .int 0]))))).set 44 (.inr (.inr (.inr (6, [.int 1, .long 70644700037184, .int 0, .ref 90, .ref 92, .ref 94]))))).set 47 (.inr (.inl (16, [70644700037184])))).set 106 (.inl (2, 2, [0, 1]))).set 105 (.inl (0, 2, [0, 0]))).set 107 (.inl (0, 132, [0, 0, 0, 0, 0, 0, 0, 0, 0, 0, 0, 0, 0, 0, 0, 0, 0, 0, 0, 0, 0, 0, 0, 0, 0, 0, 0, 0, 0, 0, 0, 0, 0, 0, 0, 0, 0, 0, 0, 0, 0, 0, 0, 0, 0, 0, 0, 0, 0, 0, 0, 0, 0, 0, 0, 0, 0, 0, 0, 0, 0, 0, 0, 0, 0, 0, 0, 0, 0, 0, 0, 0]))).set 109 (.inl (0, 22, [0, 0, 0, 0, 0, 0, 0, 0, 0, 0, 0, 0]))), 0, 0) := zclosed (n := 230) (by decide +kernel)
set_option maxRecDepth 1000000 in
set_option maxHeartbeats 4000000 in
theorem zo_23_44 (xs : Nat → Int32) (h0 : xs 0 &&& 63 = 23) (h1 : (xs 1).toInt ≠ 0) (h3 : xs 3 = 4) (h2 : xs 2 = 0) : zDone xs := by
  refine ⟨(((((((zH0.set 37 (.inr (.inr (.inr (3, [.ref 44, .ref 6, .ref 76, .ref 78, .ref 80, .ref 88, .int 1, .int 0, .ref 96, .int 0, .int 0, .int 0, .ref 98, .ref 100, .int 0]))))).set 44 (.inr (.inr (.inr (6, [.int 1, .long 70644700037184, .int 0, .ref 90, .ref 92, .ref 94]))))).set 47 (.inr (.inl (16, [70644700037184])))).set 106 (.inl (2, 2, [0, 1]))).set 105 (.inl (0, 2, [0, 0]))).set 107 (.inl (0, 132, [0, 0, 0, 0, 0, 0, 0, 0, 0, 0, 0, 0, 0, 0, 0, 0, 0, 0, 0, 0, 0, 0, 0, 0, 0, 0, 0, 0, 0, 0, 0, 0, 0, 0, 0, 0, 0, 0, 0, 0, 0, 0, 0, 0, 0, 0, 0, 0, 0, 0, 0, 0, 0, 0, 0, 0, 0, 0, 0, 0, 0, 0, 0, 0, 0, 0, 0, 0, 0, 0, 0, 0]))).set 109 (.inl (0, 22, [0, 0, 0, 0, 0, 0, 0, 0, 0, 0, 0, 0]))), 117, 29934, ?_, by decide, by decide⟩
  refine zT_gos (f := 200000) (pc2 := 37) (ls2 := [(4, .int 0), (3, .ref 232), (2, .ref 162), (1, .ref 0), (0, .ref 11)]) (st2 := [.int (xs 0)]) (h2 := zH0) (dc2 := 117) (ds2 := 29934) 9 rfl ?_
  refine zT_gos (f := 200000) (pc2 := 40) (ls2 := [(4, .int 0), (3, .ref 232), (2, .ref 162), (1, .ref 0), (0, .ref 11)]) (st2 := [.int ((xs 0) &&& (63 : Int32))]) (h2 := zH0) (dc2 := 117) (ds2 := 29934) 2 rfl ?_
  refine zT_val h0 ?_
  refine zT_gos (f := 200000) (pc2 := 1039) (ls2 := [(4, .int 0), (3, .ref 232), (2, .ref 162), (1, .ref 0), (0, .ref 11)]) (st2 := [.int (xs 1), .ref 0]) (h2 := zH0) (dc2 := 117) (ds2 := 29934) 7 rfl ?_
  refine zT_if0 false rfl (zc_eq_f (by show ((xs 1) : Int32).toInt ≠ 0; omega)) ?_
  refine zT_here (pc2 := 1042) rfl ?_
  refine zT_gos (f := 200000) (pc2 := 1053) (ls2 := [(4, .int 0), (3, .ref 232), (2, .ref 162), (1, .ref 0), (0, .ref 11)]) (st2 := [.int (xs 2), .int 1, .ref 0]) (h2 := zH0) (dc2 := 117) (ds2 := 29934) 7 rfl ?_
  refine zT_val h2 ?_
  refine zT_gos (f := 200000) (pc2 := 1059) (ls2 := [(4, .int 0), (3, .ref 232), (2, .ref 162), (1, .ref 0), (0, .ref 11)]) (st2 := [.int (xs 3), .int 0, .int 1, .ref 0]) (h2 := zH0) (dc2 := 117) (ds2 := 29934) 5 rfl ?_
  refine zT_val h3 ?_
  refine zT_call rfl rfl (zT_le (zg0_le 6 xs) zk_o_137) ?_
  refine zT_here (pc2 := 1062) rfl ?_
  refine zT_gos (f := 200000) (pc2 := 1069) (ls2 := [(4, .int 0), (3, .ref 232), (2, .ref 162), (1, .ref 0), (0, .ref 11)]) (st2 := [.int (xs 1), .ref 162, .int 0]) (h2 := (((zH0.set 37 (.inr (.inr (.inr (3, [.ref 44, .ref 6, .ref 76, .ref 78, .ref 80, .ref 88, .int 1, .int 0, .ref 96, .int 0, .int 0, .int 0, .ref 98, .ref 100, .int 0]))))).set 44 (.inr (.inr (.inr (6, [.int 1, .long 70644700037184, .int 0, .ref 90, .ref 92, .ref 94]))))).set 47 (.inr (.inl (16, [70644700037184]))))) (dc2 := 117) (ds2 := 29934) 6 rfl ?_
  refine zT_if0 false rfl (zc_eq_f (by show ((xs 1) : Int32).toInt ≠ 0; omega)) ?_
  refine zT_here (pc2 := 1072) rfl ?_
  refine zT_gos (f := 200000) (pc2 := 1083) (ls2 := [(4, .int 0), (3, .ref 232), (2, .ref 162), (1, .ref 0), (0, .ref 11)]) (st2 := [.int (xs 2), .int 1, .ref 162, .int 0]) (h2 := (((zH0.set 37 (.inr (.inr (.inr (3, [.ref 44, .ref 6, .ref 76, .ref 78, .ref 80, .ref 88, .int 1, .int 0, .ref 96, .int 0, .int 0, .int 0, .ref 98, .ref 100, .int 0]))))).set 44 (.inr (.inr (.inr (6, [.int 1, .long 70644700037184, .int 0, .ref 90, .ref 92, .ref 94]))))).set 47 (.inr (.inl (16, [70644700037184]))))) (dc2 := 117) (ds2 := 29934) 7 rfl ?_
  refine zT_val h2 ?_
  refine zT_gos (f := 200000) (pc2 := 1089) (ls2 := [(4, .int 0), (3, .ref 232), (2, .ref 162), (1, .ref 0), (0, .ref 11)]) (st2 := [.int (xs 3), .int 0, .int 1, .ref 162, .int 0]) (h2 := (((zH0.set 37 (.inr (.inr (.inr (3, [.ref 44, .ref 6, .ref 76, .ref 78, .ref 80, .ref 88, .int 1, .int 0, .ref 96, .int 0, .int 0, .int 0, .ref 98, .ref 100, .int 0]))))).set 44 (.inr (.inr (.inr (6, [.int 1, .long 70644700037184, .int 0, .ref 90, .ref 92, .ref 94]))))).set 47 (.inr (.inl (16, [70644700037184]))))) (dc2 := 117) (ds2 := 29934) 5 rfl ?_
  refine zT_val h3 ?_
  refine zT_call rfl rfl (zT_le (zg0_le 6 xs) zk_o_138) ?_
  refine zT_here (pc2 := 1092) rfl ?_
  refine zT_gos (f := 200000) (pc2 := 1811) (ls2 := [(4, .int 6), (3, .ref 232), (2, .ref 162), (1, .ref 0), (0, .ref 11)]) (st2 := [.int 1]) (h2 := (((((((zH0.set 37 (.inr (.inr (.inr (3, [.ref 44, .ref 6, .ref 76, .ref 78, .ref 80, .ref 88, .int 1, .int 0, .ref 96, .int 0, .int 0, .int 0, .ref 98, .ref 100, .int 0]))))).set 44 (.inr (.inr (.inr (6, [.int 1, .long 70644700037184, .int 0, .ref 90, .ref 92, .ref 94]))))).set 47 (.inr (.inl (16, [70644700037184])))).set 106 (.inl (2, 2, [0, 1]))).set 105 (.inl (0, 2, [0, 0]))).set 107 (.inl (0, 132, [0, 0, 0, 0, 0, 0, 0, 0, 0, 0, 0, 0, 0, 0, 0, 0, 0, 0, 0, 0, 0, 0, 0, 0, 0, 0, 0, 0, 0, 0, 0, 0, 0, 0, 0, 0, 0, 0, 0, 0, 0, 0, 0, 0, 0, 0, 0, 0, 0, 0, 0, 0, 0, 0, 0, 0, 0, 0, 0, 0, 0, 0, 0, 0, 0, 0, 0, 0, 0, 0, 0, 0]))).set 109 (.inl (0, 22, [0, 0, 0, 0, 0, 0, 0, 0, 0, 0, 0, 0])))) (dc2 := 117) (ds2 := 29934) 10 rfl ?_
  exact zT_ret rfl rfl
set_option maxRecDepth 1000000 in
set_option maxHeartbeats 4000000 in
theorem zo_23_45 (xs : Nat → Int32) (h0 : xs 0 &&& 63 = 23) (h1 : (xs 1).toInt ≠ 0) (h3 : xs 3 = 5) (h2 : (xs 2).toInt < 0) : zDone xs := by
  refine ⟨(((((((zH0.set 37 (.inr (.inr (.inr (3, [.ref 44, .ref 6, .ref 76, .ref 78, .ref 80, .ref 88, .int 1, .int 0, .ref 96, .int 0, .int 0, .int 0, .ref 98, .ref 100, .int 0]))))).set 44 (.inr (.inr (.inr (6, [.int 1, .long 70644700037184, .int 0, .ref 90, .ref 92, .ref 94]))))).set 47 (.inr (.inl (16, [70644700037184])))).set 106 (.inl (2, 2, [0, 1]))).set 105 (.inl (0, 2, [0, 0]))).set 107 (.inl (0, 132, [0, 0, 0, 0, 0, 0, 0, 0, 0, 0, 0, 0, 0, 0, 0, 0, 0, 0, 0, 0, 0, 0, 0, 0, 0, 0, 0, 0, 0, 0, 0, 0, 0, 0, 0, 0, 0, 0, 0, 0, 0, 0, 0, 0, 0, 0, 0, 0, 0, 0, 0, 0, 0, 0, 0, 0, 0, 0, 0, 0, 0, 0, 0, 0, 0, 0, 0, 0, 0, 0, 0, 0]))).set 109 (.inl (0, 22, [0, 0, 0, 0, 0, 0, 0, 0, 0, 0, 0, 0]))), 117, 29934, ?_, by decide, by decide⟩
  refine zT_gos (f := 200000) (pc2 := 37) (ls2 := [(4, .int 0), (3, .ref 232), (2, .ref 162), (1, .ref 0), (0, .ref 11)]) (st2 := [.int (xs 0)]) (h2 := zH0) (dc2 := 117) (ds2 := 29934) 9 rfl ?_
  refine zT_gos (f := 200000) (pc2 := 40) (ls2 := [(4, .int 0), (3, .ref 232), (2, .ref 162), (1, .ref 0), (0, .ref 11)]) (st2 := [.int ((xs 0) &&& (63 : Int32))]) (h2 := zH0) (dc2 := 117) (ds2 := 29934) 2 rfl ?_
  refine zT_val h0 ?_
  refine zT_gos (f := 200000) (pc2 := 1039) (ls2 := [(4, .int 0), (3, .ref 232), (2, .ref 162), (1, .ref 0), (0, .ref 11)]) (st2 := [.int (xs 1), .ref 0]) (h2 := zH0) (dc2 := 117) (ds2 := 29934) 7 rfl ?_
  refine zT_if0 false rfl (zc_eq_f (by show ((xs 1) : Int32).toInt ≠ 0; omega)) ?_
  refine zT_here (pc2 := 1042) rfl ?_
  refine zT_gos (f := 200000) (pc2 := 1053) (ls2 := [(4, .int 0), (3, .ref 232), (2, .ref 162), (1, .ref 0), (0, .ref 11)]) (st2 := [.int (xs 2), .int 1, .ref 0]) (h2 := zH0) (dc2 := 117) (ds2 := 29934) 7 rfl ?_
  refine zT_gos (f := 200000) (pc2 := 1059) (ls2 := [(4, .int 0), (3, .ref 232), (2, .ref 162), (1, .ref 0), (0, .ref 11)]) (st2 := [.int (xs 3), .int (xs 2), .int 1, .ref 0]) (h2 := zH0) (dc2 := 117) (ds2 := 29934) 5 rfl ?_
  refine zT_val h3 ?_
  refine zT_call (v := some (.int (-99))) (h2 := (((zH0.set 37 (.inr (.inr (.inr (3, [.ref 44, .ref 6, .ref 76, .ref 78, .ref 80, .ref 88, .int 1, .int 0, .ref 96, .int 0, .int 0, .int 0, .ref 98, .ref 100, .int 0]))))).set 44 (.inr (.inr (.inr (6, [.int 1, .long 70644700037184, .int 0, .ref 90, .ref 92, .ref 94]))))).set 47 (.inr (.inl (16, [70644700037184]))))) (d1 := 0) (s1 := 0) rfl rfl ?_ ?_
  · refine zT_gos (f := 200000) (pc2 := 33) (ls2 := [(4, .ref 88), (0, .ref 0), (1, .int 1), (2, .int (xs 2)), (3, .int 5)]) (st2 := [.int (xs 2)]) (h2 := (((zH0.set 37 (.inr (.inr (.inr (3, [.ref 44, .ref 6, .ref 76, .ref 78, .ref 80, .ref 88, .int 1, .int 0, .ref 96, .int 0, .int 0, .int 0, .ref 98, .ref 100, .int 0]))))).set 44 (.inr (.inr (.inr (6, [.int 1, .long 70644700037184, .int 0, .ref 90, .ref 92, .ref 94]))))).set 47 (.inr (.inl (16, [70644700037184]))))) (dc2 := 0) (ds2 := 0) 14 rfl ?_
    refine zT_if0 true rfl (zc_lt_t (by show ((xs 2) : Int32).toInt < 0; omega)) ?_
    refine zT_here (pc2 := 45) rfl ?_
    refine zT_gos (f := 200000) (pc2 := 57) (ls2 := [(4, .ref 88), (0, .ref 0), (1, .int 1), (2, .int (xs 2)), (3, .int 5)]) (st2 := [.int (-99)]) (h2 := (((zH0.set 37 (.inr (.inr (.inr (3, [.ref 44, .ref 6, .ref 76, .ref 78, .ref 80, .ref 88, .int 1, .int 0, .ref 96, .int 0, .int 0, .int 0, .ref 98, .ref 100, .int 0]))))).set 44 (.inr (.inr (.inr (6, [.int 1, .long 70644700037184, .int 0, .ref 90, .ref 92, .ref 94]))))).set 47 (.inr (.inl (16, [70644700037184]))))) (dc2 := 0) (ds2 := 0) 2 rfl ?_
    exact zT_ret rfl rfl
  refine zT_here (pc2 := 1062) rfl ?_
  refine zT_gos (f := 200000) (pc2 := 1069) (ls2 := [(4, .int 0), (3, .ref 232), (2, .ref 162), (1, .ref 0), (0, .ref 11)]) (st2 := [.int (xs 1), .ref 162, .int (-99)]) (h2 := (((zH0.set 37 (.inr (.inr (.inr (3, [.ref 44, .ref 6, .ref 76, .ref 78, .ref 80, .ref 88, .int 1, .int 0, .ref 96, .int 0, .int 0, .int 0, .ref 98, .ref 100, .int 0]))))).set 44 (.inr (.inr (.inr (6, [.int 1, .long 70644700037184, .int 0, .ref 90, .ref 92, .ref 94]))))).set 47 (.inr (.inl (16, [70644700037184]))))) (dc2 := 117) (ds2 := 29934) 6 rfl ?_
  refine zT_if0 false rfl (zc_eq_f (by show ((xs 1) : Int32).toInt ≠ 0; omega)) ?_
  refine zT_here (pc2 := 1072) rfl ?_
  refine zT_gos (f := 200000) (pc2 := 1083) (ls2 := [(4, .int 0), (3, .ref 232), (2, .ref 162), (1, .ref 0), (0, .ref 11)]) (st2 := [.int (xs 2), .int 1, .ref 162, .int (-99)]) (h2 := (((zH0.set 37 (.inr (.inr (.inr (3, [.ref 44, .ref 6, .ref 76, .ref 78, .ref 80, .ref 88, .int 1, .int 0, .ref 96, .int 0, .int 0, .int 0, .ref 98, .ref 100, .int 0]))))).set 44 (.inr (.inr (.inr (6, [.int 1, .long 70644700037184, .int 0, .ref 90, .ref 92, .ref 94]))))).set 47 (.inr (.inl (16, [70644700037184]))))) (dc2 := 117) (ds2 := 29934) 7 rfl ?_
  refine zT_gos (f := 200000) (pc2 := 1089) (ls2 := [(4, .int 0), (3, .ref 232), (2, .ref 162), (1, .ref 0), (0, .ref 11)]) (st2 := [.int (xs 3), .int (xs 2), .int 1, .ref 162, .int (-99)]) (h2 := (((zH0.set 37 (.inr (.inr (.inr (3, [.ref 44, .ref 6, .ref 76, .ref 78, .ref 80, .ref 88, .int 1, .int 0, .ref 96, .int 0, .int 0, .int 0, .ref 98, .ref 100, .int 0]))))).set 44 (.inr (.inr (.inr (6, [.int 1, .long 70644700037184, .int 0, .ref 90, .ref 92, .ref 94]))))).set 47 (.inr (.inl (16, [70644700037184]))))) (dc2 := 117) (ds2 := 29934) 5 rfl ?_
  refine zT_val h3 ?_
  refine zT_call (v := some (.int (-99))) (h2 := (((((((zH0.set 37 (.inr (.inr (.inr (3, [.ref 44, .ref 6, .ref 76, .ref 78, .ref 80, .ref 88, .int 1, .int 0, .ref 96, .int 0, .int 0, .int 0, .ref 98, .ref 100, .int 0]))))).set 44 (.inr (.inr (.inr (6, [.int 1, .long 70644700037184, .int 0, .ref 90, .ref 92, .ref 94]))))).set 47 (.inr (.inl (16, [70644700037184])))).set 106 (.inl (2, 2, [0, 1]))).set 105 (.inl (0, 2, [0, 0]))).set 107 (.inl (0, 132, [0, 0, 0, 0, 0, 0, 0, 0, 0, 0, 0, 0, 0, 0, 0, 0, 0, 0, 0, 0, 0, 0, 0, 0, 0, 0, 0, 0, 0, 0, 0, 0, 0, 0, 0, 0, 0, 0, 0, 0, 0, 0, 0, 0, 0, 0, 0, 0, 0, 0, 0, 0, 0, 0, 0, 0, 0, 0, 0, 0, 0, 0, 0, 0, 0, 0, 0, 0, 0, 0, 0, 0]))).set 109 (.inl (0, 22, [0, 0, 0, 0, 0, 0, 0, 0, 0, 0, 0, 0])))) (d1 := 0) (s1 := 0) rfl rfl ?_ ?_
  · refine zT_gos (f := 200000) (pc2 := 7) (ls2 := [(0, .ref 162), (1, .int 1), (2, .int (xs 2)), (3, .int 5)]) (st2 := [.int 1, .ref 162]) (h2 := (((zH0.set 37 (.inr (.inr (.inr (3, [.ref 44, .ref 6, .ref 76, .ref 78, .ref 80, .ref 88, .int 1, .int 0, .ref 96, .int 0, .int 0, .int 0, .ref 98, .ref 100, .int 0]))))).set 44 (.inr (.inr (.inr (6, [.int 1, .long 70644700037184, .int 0, .ref 90, .ref 92, .ref 94]))))).set 47 (.inr (.inl (16, [70644700037184]))))) (dc2 := 0) (ds2 := 0) 5 rfl ?_
    refine zT_call rfl rfl (zT_le (zg0_le 6 xs) zk_o_20) ?_
    refine zT_here (pc2 := 10) rfl ?_
    refine zT_gos (f := 200000) (pc2 := 18) (ls2 := [(4, .int 0), (0, .ref 162), (1, .int 1), (2, .int (xs 2)), (3, .int 5)]) (st2 := [.int (xs 2)]) (h2 := (((((((zH0.set 37 (.inr (.inr (.inr (3, [.ref 44, .ref 6, .ref 76, .ref 78, .ref 80, .ref 88, .int 1, .int 0, .ref 96, .int 0, .int 0, .int 0, .ref 98, .ref 100, .int 0]))))).set 44 (.inr (.inr (.inr (6, [.int 1, .long 70644700037184, .int 0, .ref 90, .ref 92, .ref 94]))))).set 47 (.inr (.inl (16, [70644700037184])))).set 106 (.inl (2, 2, [0, 1]))).set 105 (.inl (0, 2, [0, 0]))).set 107 (.inl (0, 132, [0, 0, 0, 0, 0, 0, 0, 0, 0, 0, 0, 0, 0, 0, 0, 0, 0, 0, 0, 0, 0, 0, 0, 0, 0, 0, 0, 0, 0, 0, 0, 0, 0, 0, 0, 0, 0, 0, 0, 0, 0, 0, 0, 0, 0, 0, 0, 0, 0, 0, 0, 0, 0, 0, 0, 0, 0, 0, 0, 0, 0, 0, 0, 0, 0, 0, 0, 0, 0, 0, 0, 0]))).set 109 (.inl (0, 22, [0, 0, 0, 0, 0, 0, 0, 0, 0, 0, 0, 0])))) (dc2 := 0) (ds2 := 0) 4 rfl ?_
    refine zT_if0 true rfl (zc_lt_t (by show ((xs 2) : Int32).toInt < 0; omega)) ?_
    refine zT_here (pc2 := 34) rfl ?_
    refine zT_gos (f := 200000) (pc2 := 54) (ls2 := [(4, .int 0), (0, .ref 162), (1, .int 1), (2, .int (xs 2)), (3, .int 5)]) (st2 := [.int (-99)]) (h2 := (((((((zH0.set 37 (.inr (.inr (.inr (3, [.ref 44, .ref 6, .ref 76, .ref 78, .ref 80, .ref 88, .int 1, .int 0, .ref 96, .int 0, .int 0, .int 0, .ref 98, .ref 100, .int 0]))))).set 44 (.inr (.inr (.inr (6, [.int 1, .long 70644700037184, .int 0, .ref 90, .ref 92, .ref 94]))))).set 47 (.inr (.inl (16, [70644700037184])))).set 106 (.inl (2, 2, [0, 1]))).set 105 (.inl (0, 2, [0, 0]))).set 107 (.inl (0, 132, [0, 0, 0, 0, 0, 0, 0, 0, 0, 0, 0, 0, 0, 0, 0, 0, 0, 0, 0, 0, 0, 0, 0, 0, 0, 0, 0, 0, 0, 0, 0, 0, 0, 0, 0, 0, 0, 0, 0, 0, 0, 0, 0, 0, 0, 0, 0, 0, 0, 0, 0, 0, 0, 0, 0, 0, 0, 0, 0, 0, 0, 0, 0, 0, 0, 0, 0, 0, 0, 0, 0, 0]))).set 109 (.inl (0, 22, [0, 0, 0, 0, 0, 0, 0, 0, 0, 0, 0, 0])))) (dc2 := 0) (ds2 := 0) 2 rfl ?_
    exact zT_ret rfl rfl
  refine zT_here (pc2 := 1092) rfl ?_
  refine zT_gos (f := 200000) (pc2 := 1811) (ls2 := [(4, .int 6), (3, .ref 232), (2, .ref 162), (1, .ref 0), (0, .ref 11)]) (st2 := [.int 1]) (h2 := (((((((zH0.set 37 (.inr (.inr (.inr (3, [.ref 44, .ref 6, .ref 76, .ref 78, .ref 80, .ref 88, .int 1, .int 0, .ref 96, .int 0, .int 0, .int 0, .ref 98, .ref 100, .int 0]))))).set 44 (.inr (.inr (.inr (6, [.int 1, .long 70644700037184, .int 0, .ref 90, .ref 92, .ref 94]))))).set 47 (.inr (.inl (16, [70644700037184])))).set 106 (.inl (2, 2, [0, 1]))).set 105 (.inl (0, 2, [0, 0]))).set 107 (.inl (0, 132, [0, 0, 0, 0, 0, 0, 0, 0, 0, 0, 0, 0, 0, 0, 0, 0, 0, 0, 0, 0, 0, 0, 0, 0, 0, 0, 0, 0, 0, 0, 0, 0, 0, 0, 0, 0, 0, 0, 0, 0, 0, 0, 0, 0, 0, 0, 0, 0, 0, 0, 0, 0, 0, 0, 0, 0, 0, 0, 0, 0, 0, 0, 0, 0, 0, 0, 0, 0, 0, 0, 0, 0]))).set 109 (.inl (0, 22, [0, 0, 0, 0, 0, 0, 0, 0, 0, 0, 0, 0])))) (dc2 := 117) (ds2 := 29934) 10 rfl ?_
  exact zT_ret rfl rfl
set_option maxRecDepth 1000000 in
set_option maxHeartbeats 4000000 in
theorem zo_23_46 (xs : Nat → Int32) (h0 : xs 0 &&& 63 = 23) (h1 : (xs 1).toInt ≠ 0) (h3 : xs 3 = 5) (h2 : 0 < (xs 2).toInt) : zDone xs := by
  refine ⟨(((((((zH0.set 37 (.inr (.inr (.inr (3, [.ref 44, .ref 6, .ref 76, .ref 78, .ref 80, .ref 88, .int 1, .int 0, .ref 96, .int 0, .int 0, .int 0, .ref 98, .ref 100, .int 0]))))).set 44 (.inr (.inr (.inr (6, [.int 1, .long 70644700037184, .int 0, .ref 90, .ref 92, .ref 94]))))).set 47 (.inr (.inl (16, [70644700037184])))).set 106 (.inl (2, 2, [0, 1]))).set 105 (.inl (0, 2, [0, 0]))).set 107 (.inl (0, 132, [0, 0, 0, 0, 0, 0, 0, 0, 0, 0, 0, 0, 0, 0, 0, 0, 0, 0, 0, 0, 0, 0, 0, 0, 0, 0, 0, 0, 0, 0, 0, 0, 0, 0, 0, 0, 0, 0, 0, 0, 0, 0, 0, 0, 0, 0, 0, 0, 0, 0, 0, 0, 0, 0, 0, 0, 0, 0, 0, 0, 0, 0, 0, 0, 0, 0, 0, 0, 0, 0, 0, 0]))).set 109 (.inl (0, 22, [0, 0, 0, 0, 0, 0, 0, 0, 0, 0, 0, 0]))), 117, 29934, ?_, by decide, by decide⟩
  refine zT_gos (f := 200000) (pc2 := 37) (ls2 := [(4, .int 0), (3, .ref 232), (2, .ref 162), (1, .ref 0), (0, .ref 11)]) (st2 := [.int (xs 0)]) (h2 := zH0) (dc2 := 117) (ds2 := 29934) 9 rfl ?_
  refine zT_gos (f := 200000) (pc2 := 40) (ls2 := [(4, .int 0), (3, .ref 232), (2, .ref 162), (1, .ref 0), (0, .ref 11)]) (st2 := [.int ((xs 0) &&& (63 : Int32))]) (h2 := zH0) (dc2 := 117) (ds2 := 29934) 2 rfl ?_
  refine zT_val h0 ?_
  refine zT_gos (f := 200000) (pc2 := 1039) (ls2 := [(4, .int 0), (3, .ref 232), (2, .ref 162), (1, .ref 0), (0, .ref 11)]) (st2 := [.int (xs 1), .ref 0]) (h2 := zH0) (dc2 := 117) (ds2 := 29934) 7 rfl ?_
  refine zT_if0 false rfl (zc_eq_f (by show ((xs 1) : Int32).toInt ≠ 0; omega)) ?_
  refine zT_here (pc2 := 1042) rfl ?_
  refine zT_gos (f := 200000) (pc2 := 1053) (ls2 := [(4, .int 0), (3, .ref 232), (2, .ref 162), (1, .ref 0), (0, .ref 11)]) (st2 := [.int (xs 2), .int 1, .ref 0]) (h2 := zH0) (dc2 := 117) (ds2 := 29934) 7 rfl ?_
  refine zT_gos (f := 200000) (pc2 := 1059) (ls2 := [(4, .int 0), (3, .ref 232), (2, .ref 162), (1, .ref 0), (0, .ref 11)]) (st2 := [.int (xs 3), .int (xs 2), .int 1, .ref 0]) (h2 := zH0) (dc2 := 117) (ds2 := 29934) 5 rfl ?_
  refine zT_val h3 ?_
  refine zT_call (v := some (.int (-99))) (h2 := (((zH0.set 37 (.inr (.inr (.inr (3, [.ref 44, .ref 6, .ref 76, .ref 78, .ref 80, .ref 88, .int 1, .int 0, .ref 96, .int 0, .int 0, .int 0, .ref 98, .ref 100, .int 0]))))).set 44 (.inr (.inr (.inr (6, [.int 1, .long 70644700037184, .int 0, .ref 90, .ref 92, .ref 94]))))).set 47 (.inr (.inl (16, [70644700037184]))))) (d1 := 0) (s1 := 0) rfl rfl ?_ ?_
  · refine zT_gos (f := 200000) (pc2 := 33) (ls2 := [(4, .ref 88), (0, .ref 0), (1, .int 1), (2, .int (xs 2)), (3, .int 5)]) (st2 := [.int (xs 2)]) (h2 := (((zH0.set 37 (.inr (.inr (.inr (3, [.ref 44, .ref 6, .ref 76, .ref 78, .ref 80, .ref 88, .int 1, .int 0, .ref 96, .int 0, .int 0, .int 0, .ref 98, .ref 100, .int 0]))))).set 44 (.inr (.inr (.inr (6, [.int 1, .long 70644700037184, .int 0, .ref 90, .ref 92, .ref 94]))))).set 47 (.inr (.inl (16, [70644700037184]))))) (dc2 := 0) (ds2 := 0) 14 rfl ?_
    refine zT_if0 false rfl (zc_lt_f (by show ((xs 2) : Int32).toInt ≥ 0; omega)) ?_
    refine zT_here (pc2 := 36) rfl ?_
    refine zT_gos (f := 200000) (pc2 := 42) (ls2 := [(4, .ref 88), (0, .ref 0), (1, .int 1), (2, .int (xs 2)), (3, .int 5)]) (st2 := [.int 0, .int (xs 2)]) (h2 := (((zH0.set 37 (.inr (.inr (.inr (3, [.ref 44, .ref 6, .ref 76, .ref 78, .ref 80, .ref 88, .int 1, .int 0, .ref 96, .int 0, .int 0, .int 0, .ref 98, .ref 100, .int 0]))))).set 44 (.inr (.inr (.inr (6, [.int 1, .long 70644700037184, .int 0, .ref 90, .ref 92, .ref 94]))))).set 47 (.inr (.inl (16, [70644700037184]))))) (dc2 := 0) (ds2 := 0) 3 rfl ?_
    refine zT_if2 false rfl (zc_le_f (by show ((xs 2) : Int32).toInt > 0; omega)) ?_
    refine zT_here (pc2 := 45) rfl ?_
    refine zT_gos (f := 200000) (pc2 := 57) (ls2 := [(4, .ref 88), (0, .ref 0), (1, .int 1), (2, .int (xs 2)), (3, .int 5)]) (st2 := [.int (-99)]) (h2 := (((zH0.set 37 (.inr (.inr (.inr (3, [.ref 44, .ref 6, .ref 76, .ref 78, .ref 80, .ref 88, .int 1, .int 0, .ref 96, .int 0, .int 0, .int 0, .ref 98, .ref 100, .int 0]))))).set 44 (.inr (.inr (.inr (6, [.int 1, .long 70644700037184, .int 0, .ref 90, .ref 92, .ref 94]))))).set 47 (.inr (.inl (16, [70644700037184]))))) (dc2 := 0) (ds2 := 0) 2 rfl ?_
    exact zT_ret rfl rfl
  refine zT_here (pc2 := 1062) rfl ?_
  refine zT_gos (f := 200000) (pc2 := 1069) (ls2 := [(4, .int 0), (3, .ref 232), (2, .ref 162), (1, .ref 0), (0, .ref 11)]) (st2 := [.int (xs 1), .ref 162, .int (-99)]) (h2 := (((zH0.set 37 (.inr (.inr (.inr (3, [.ref 44, .ref 6, .ref 76, .ref 78, .ref 80, .ref 88, .int 1, .int 0, .ref 96, .int 0, .int 0, .int 0, .ref 98, .ref 100, .int 0]))))).set 44 (.inr (.inr (.inr (6, [.int 1, .long 70644700037184, .int 0, .ref 90, .ref 92, .ref 94]))))).set 47 (.inr (.inl (16, [70644700037184]))))) (dc2 := 117) (ds2 := 29934) 6 rfl ?_
  refine zT_if0 false rfl (zc_eq_f (by show ((xs 1) : Int32).toInt ≠ 0; omega)) ?_
  refine zT_here (pc2 := 1072) rfl ?_
  refine zT_gos (f := 200000) (pc2 := 1083) (ls2 := [(4, .int 0), (3, .ref 232), (2, .ref 162), (1, .ref 0), (0, .ref 11)]) (st2 := [.int (xs 2), .int 1, .ref 162, .int (-99)]) (h2 := (((zH0.set 37 (.inr (.inr (.inr (3, [.ref 44, .ref 6, .ref 76, .ref 78, .ref 80, .ref 88, .int 1, .int 0, .ref 96, .int 0, .int 0, .int 0, .ref 98, .ref 100, .int 0]))))).set 44 (.inr (.inr (.inr (6, [.int 1, .long 70644700037184, .int 0, .ref 90, .ref 92, .ref 94]))))).set 47 (.inr (.inl (16, [70644700037184]))))) (dc2 := 117) (ds2 := 29934) 7 rfl ?_
  refine zT_gos (f := 200000) (pc2 := 1089) (ls2 := [(4, .int 0), (3, .ref 232), (2, .ref 162), (1, .ref 0), (0, .ref 11)]) (st2 := [.int (xs 3), .int (xs 2), .int 1, .ref 162, .int (-99)]) (h2 := (((zH0.set 37 (.inr (.inr (.inr (3, [.ref 44, .ref 6, .ref 76, .ref 78, .ref 80, .ref 88, .int 1, .int 0, .ref 96, .int 0, .int 0, .int 0, .ref 98, .ref 100, .int 0]))))).set 44 (.inr (.inr (.inr (6, [.int 1, .long 70644700037184, .int 0, .ref 90, .ref 92, .ref 94]))))).set 47 (.inr (.inl (16, [70644700037184]))))) (dc2 := 117) (ds2 := 29934) 5 rfl ?_
  refine zT_val h3 ?_
  refine zT_call (v := some (.int (-99))) (h2 := (((((((zH0.set 37 (.inr (.inr (.inr (3, [.ref 44, .ref 6, .ref 76, .ref 78, .ref 80, .ref 88, .int 1, .int 0, .ref 96, .int 0, .int 0, .int 0, .ref 98, .ref 100, .int 0]))))).set 44 (.inr (.inr (.inr (6, [.int 1, .long 70644700037184, .int 0, .ref 90, .ref 92, .ref 94]))))).set 47 (.inr (.inl (16, [70644700037184])))).set 106 (.inl (2, 2, [0, 1]))).set 105 (.inl (0, 2, [0, 0]))).set 107 (.inl (0, 132, [0, 0, 0, 0, 0, 0, 0, 0, 0, 0, 0, 0, 0, 0, 0, 0, 0, 0, 0, 0, 0, 0, 0, 0, 0, 0, 0, 0, 0, 0, 0, 0, 0, 0, 0, 0, 0, 0, 0, 0, 0, 0, 0, 0, 0, 0, 0, 0, 0, 0, 0, 0, 0, 0, 0, 0, 0, 0, 0, 0, 0, 0, 0, 0, 0, 0, 0, 0, 0, 0, 0, 0]))).set 109 (.inl (0, 22, [0, 0, 0, 0, 0, 0, 0, 0, 0, 0, 0, 0])))) (d1 := 0) (s1 := 0) rfl rfl ?_ ?_
  · refine zT_gos (f := 200000) (pc2 := 7) (ls2 := [(0, .ref 162), (1, .int 1), (2, .int (xs 2)), (3, .int 5)]) (st2 := [.int 1, .ref 162]) (h2 := (((zH0.set 37 (.inr (.inr (.inr (3, [.ref 44, .ref 6, .ref 76, .ref 78, .ref 80, .ref 88, .int 1, .int 0, .ref 96, .int 0, .int 0, .int 0, .ref 98, .ref 100, .int 0]))))).set 44 (.inr (.inr (.inr (6, [.int 1, .long 70644700037184, .int 0, .ref 90, .ref 92, .ref 94]))))).set 47 (.inr (.inl (16, [70644700037184]))))) (dc2 := 0) (ds2 := 0) 5 rfl ?_
    refine zT_call rfl rfl (zT_le (zg0_le 6 xs) zk_o_20) ?_
    refine zT_here (pc2 := 10) rfl ?_
    refine zT_gos (f := 200000) (pc2 := 18) (ls2 := [(4, .int 0), (0, .ref 162), (1, .int 1), (2, .int (xs 2)), (3, .int 5)]) (st2 := [.int (xs 2)]) (h2 := (((((((zH0.set 37 (.inr (.inr (.inr (3, [.ref 44, .ref 6, .ref 76, .ref 78, .ref 80, .ref 88, .int 1, .int 0, .ref 96, .int 0, .int 0, .int 0, .ref 98, .ref 100, .int 0]))))).set 44 (.inr (.inr (.inr (6, [.int 1, .long 70644700037184, .int 0, .ref 90, .ref 92, .ref 94]))))).set 47 (.inr (.inl (16, [70644700037184])))).set 106 (.inl (2, 2, [0, 1]))).set 105 (.inl (0, 2, [0, 0]))).set 107 (.inl (0, 132, [0, 0, 0, 0, 0, 0, 0, 0, 0, 0, 0, 0, 0, 0, 0, 0, 0, 0, 0, 0, 0, 0, 0, 0, 0, 0, 0, 0, 0, 0, 0, 0, 0, 0, 0, 0, 0, 0, 0, 0, 0, 0, 0, 0, 0, 0, 0, 0, 0, 0, 0, 0, 0, 0, 0, 0, 0, 0, 0, 0, 0, 0, 0, 0, 0, 0, 0, 0, 0, 0, 0, 0]))).set 109 (.inl (0, 22, [0, 0, 0, 0, 0, 0, 0, 0, 0, 0, 0, 0])))) (dc2 := 0) (ds2 := 0) 4 rfl ?_
    refine zT_if0 false rfl (zc_lt_f (by show ((xs 2) : Int32).toInt ≥ 0; omega)) ?_
    refine zT_here (pc2 := 21) rfl ?_
    refine zT_gos (f := 200000) (pc2 := 24) (ls2 := [(4, .int 0), (0, .ref 162), (1, .int 1), (2, .int (xs 2)), (3, .int 5)]) (st2 := [.int 0, .int (xs 2)]) (h2 := (((((((zH0.set 37 (.inr (.inr (.inr (3, [.ref 44, .ref 6, .ref 76, .ref 78, .ref 80, .ref 88, .int 1, .int 0, .ref 96, .int 0, .int 0, .int 0, .ref 98, .ref 100, .int 0]))))).set 44 (.inr (.inr (.inr (6, [.int 1, .long 70644700037184, .int 0, .ref 90, .ref 92, .ref 94]))))).set 47 (.inr (.inl (16, [70644700037184])))).set 106 (.inl (2, 2, [0, 1]))).set 105 (.inl (0, 2, [0, 0]))).set 107 (.inl (0, 132, [0, 0, 0, 0, 0, 0, 0, 0, 0, 0, 0, 0, 0, 0, 0, 0, 0, 0, 0, 0, 0, 0, 0, 0, 0, 0, 0, 0, 0, 0, 0, 0, 0, 0, 0, 0, 0, 0, 0, 0, 0, 0, 0, 0, 0, 0, 0, 0, 0, 0, 0, 0, 0, 0, 0, 0, 0, 0, 0, 0, 0, 0, 0, 0, 0, 0, 0, 0, 0, 0, 0, 0]))).set 109 (.inl (0, 22, [0, 0, 0, 0, 0, 0, 0, 0, 0, 0, 0, 0])))) (dc2 := 0) (ds2 := 0) 2 rfl ?_
    refine zT_if2 true rfl (zc_gt_t (by show ((xs 2) : Int32).toInt > 0; omega)) ?_
    refine zT_here (pc2 := 34) rfl ?_
    refine zT_gos (f := 200000) (pc2 := 54) (ls2 := [(4, .int 0), (0, .ref 162), (1, .int 1), (2, .int (xs 2)), (3, .int 5)]) (st2 := [.int (-99)]) (h2 := (((((((zH0.set 37 (.inr (.inr (.inr (3, [.ref 44, .ref 6, .ref 76, .ref 78, .ref 80, .ref 88, .int 1, .int 0, .ref 96, .int 0, .int 0, .int 0, .ref 98, .ref 100, .int 0]))))).set 44 (.inr (.inr (.inr (6, [.int 1, .long 70644700037184, .int 0, .ref 90, .ref 92, .ref 94]))))).set 47 (.inr (.inl (16, [70644700037184])))).set 106 (.inl (2, 2, [0, 1]))).set 105 (.inl (0, 2, [0, 0]))).set 107 (.inl (0, 132, [0, 0, 0, 0, 0, 0, 0, 0, 0, 0, 0, 0, 0, 0, 0, 0, 0, 0, 0, 0, 0, 0, 0, 0, 0, 0, 0, 0, 0, 0, 0, 0, 0, 0, 0, 0, 0, 0, 0, 0, 0, 0, 0, 0, 0, 0, 0, 0, 0, 0, 0, 0, 0, 0, 0, 0, 0, 0, 0, 0, 0, 0, 0, 0, 0, 0, 0, 0, 0, 0, 0, 0]))).set 109 (.inl (0, 22, [0, 0, 0, 0, 0, 0, 0, 0, 0, 0, 0, 0])))) (dc2 := 0) (ds2 := 0) 2 rfl ?_
    exact zT_ret rfl rfl
  refine zT_here (pc2 := 1092) rfl ?_
  refine zT_gos (f := 200000) (pc2 := 1811) (ls2 := [(4, .int 6), (3, .ref 232), (2, .ref 162), (1, .ref 0), (0, .ref 11)]) (st2 := [.int 1]) (h2 := (((((((zH0.set 37 (.inr (.inr (.inr (3, [.ref 44, .ref 6, .ref 76, .ref 78, .ref 80, .ref 88, .int 1, .int 0, .ref 96, .int 0, .int 0, .int 0, .ref 98, .ref 100, .int 0]))))).set 44 (.inr (.inr (.inr (6, [.int 1, .long 70644700037184, .int 0, .ref 90, .ref 92, .ref 94]))))).set 47 (.inr (.inl (16, [70644700037184])))).set 106 (.inl (2, 2, [0, 1]))).set 105 (.inl (0, 2, [0, 0]))).set 107 (.inl (0, 132, [0, 0, 0, 0, 0, 0, 0, 0, 0, 0, 0, 0, 0, 0, 0, 0, 0, 0, 0, 0, 0, 0, 0, 0, 0, 0, 0, 0, 0, 0, 0, 0, 0, 0, 0, 0, 0, 0, 0, 0, 0, 0, 0, 0, 0, 0, 0, 0, 0, 0, 0, 0, 0, 0, 0, 0, 0, 0, 0, 0, 0, 0, 0, 0, 0, 0, 0, 0, 0, 0, 0, 0]))).set 109 (.inl (0, 22, [0, 0, 0, 0, 0, 0, 0, 0, 0, 0, 0, 0])))) (dc2 := 117) (ds2 := 29934) 10 rfl ?_
  exact zT_ret rfl rfl
set_option maxRecDepth 1000000 in
theorem zk_o_139 : zT zg0 zF zP 124 0 [(0, .ref 0), (1, .int 1), (2, .int 0), (3, .int 5)] [] zH0 0 0 (some (.int 0), (((zH0.set 37 (.inr (.inr (.inr (3, [.ref 44, .ref 6, .ref 76, .ref 78, .ref 80, .ref 88, .int 1, .int 0, .ref 96, .int 0, .int 0, .int 0, .ref 98, .ref 100, .int 0]))))).set 44 (.inr (.inr (.inr (6, [.int 1, .long 70644700037184, .int 0, .ref 90, .ref 92, .ref 94]))))).set 47 (.inr (.inl (16, [70644700037184])))), 0, 0) := zclosed (n := 149) (by decide +kernel)
set_option maxRecDepth 1000000 in
theorem zk_o_140 : zT zg0 zF zP 255 0 [(0, .ref 162), (1, .int 1), (2, .int 0), (3, .int 5)] [] (((zH0.set 37 (.inr (.inr (.inr (3, [.ref 44, .ref 6, .ref 76, .ref 78, .ref 80, .ref 88, .int 1, .int 0, .ref 96, .int 0, .int 0, .int 0, .ref 98, .ref 100, .int 0]))))).set 44 (.inr (.inr (.inr (6, [.int 1, .long 70644700037184, .int 0, .ref 90, .ref 92, .ref 94]))))).set 47 (.inr (.inl (16, [70644700037184])))) 0 0 (some (.int 0), (((((((zH0.set 37 (.inr (.inr (.inr (3, [.ref 44, .ref 6, .ref 76, .ref 78, .ref 80, .ref 88, .int 1, .int 0, .ref 96, .int 0, .int 0, .int 0, .ref 98, .ref 100, .int 0]))))).set 44 (.inr (.inr (.inr (6, [.int 1, .long 70644700037184, .int 0, .ref 90, .ref 92, .ref 94]))))).set 47 (.inr (.inl (16, [70644700037184])))).set 106 (.inl (2, 2, [0, 1]))).set 105 (.inl (0, 2, [0, 0]))).set 107 (.inl (0, 132, [0, 0, 0, 0, 0, 0, 0, 0, 0, 0, 0, 0, 0, 0, 0, 0, 0, 0, 0, 0, 0, 0, 0, 0, 0, 0, 0, 0, 0, 0, 0, 0, 0, 0, 0, 0, 0, 0, 0, 0, 0, 0, 0, 0, 0, 0, 0, 0, 0, 0, 0, 0, 0, 0, 0, 0, 0, 0, 0, 0, 0, 0, 0, 0, 0, 0, 0, 0, 0, 0, 0, 0]))).set 109 (.inl (0, 22, [0, 0, 0, 0, 0, 0, 0, 0, 0, 0, 0, 0]))), 0, 0) := zclosed (n := 230) (by decide +kernel)
set_option maxRecDepth 1000000 in
set_option maxHeartbeats 4000000 in
theorem zo_23_47 (xs : Nat → Int32) (h0 : xs 0 &&& 63 = 23) (h1 : (xs 1).toInt ≠ 0) (h3 : xs 3 = 5) (h2 : xs 2 = 0) : zDone xs := by
  refine ⟨(((((((zH0.set 37 (.inr (.inr (.inr (3, [.ref 44, .ref 6, .ref 76, .ref 78, .ref 80, .ref 88, .int 1, .int 0, .ref 96, .int 0, .int 0, .int 0, .ref 98, .ref 100, .int 0]))))).set 44 (.inr (.inr (.inr (6, [.int 1, .long 70644700037184, .int 0, .ref 90, .ref 92, .ref 94]))))).set 47 (.inr (.inl (16, [70644700037184])))).set 106 (.inl (2, 2, [0, 1]))).set 105 (.inl (0, 2, [0, 0]))).set 107 (.inl (0, 132, [0, 0, 0, 0, 0, 0, 0, 0, 0, 0, 0, 0, 0, 0, 0, 0, 0, 0, 0, 0, 0, 0, 0, 0, 0, 0, 0, 0, 0, 0, 0, 0, 0, 0, 0, 0, 0, 0, 0, 0, 0, 0, 0, 0, 0, 0, 0, 0, 0, 0, 0, 0, 0, 0, 0, 0, 0, 0, 0, 0, 0, 0, 0, 0, 0, 0, 0, 0, 0, 0, 0, 0]))).set 109 (.inl (0, 22, [0, 0, 0, 0, 0, 0, 0, 0, 0, 0, 0, 0]))), 117, 29934, ?_, by decide, by decide⟩
  refine zT_gos (f := 200000) (pc2 := 37) (ls2 := [(4, .int 0), (3, .ref 232), (2, .ref 162), (1, .ref 0), (0, .ref 11)]) (st2 := [.int (xs 0)]) (h2 := zH0) (dc2 := 117) (ds2 := 29934) 9 rfl ?_
  refine zT_gos (f := 200000) (pc2 := 40) (ls2 := [(4, .int 0), (3, .ref 232), (2, .ref 162), (1, .ref 0), (0, .ref 11)]) (st2 := [.int ((xs 0) &&& (63 : Int32))]) (h2 := zH0) (dc2 := 117) (ds2 := 29934) 2 rfl ?_
  refine zT_val h0 ?_
  refine zT_gos (f := 200000) (pc2 := 1039) (ls2 := [(4, .int 0), (3, .ref 232), (2, .ref 162), (1, .ref 0), (0, .ref 11)]) (st2 := [.int (xs 1), .ref 0]) (h2 := zH0) (dc2 := 117) (ds2 := 29934) 7 rfl ?_
  refine zT_if0 false rfl (zc_eq_f (by show ((xs 1) : Int32).toInt ≠ 0; omega)) ?_
  refine zT_here (pc2 := 1042) rfl ?_
  refine zT_gos (f := 200000) (pc2 := 1053) (ls2 := [(4, .int 0), (3, .ref 232), (2, .ref 162), (1, .ref 0), (0, .ref 11)]) (st2 := [.int (xs 2), .int 1, .ref 0]) (h2 := zH0) (dc2 := 117) (ds2 := 29934) 7 rfl ?_
  refine zT_val h2 ?_
  refine zT_gos (f := 200000) (pc2 := 1059) (ls2 := [(4, .int 0), (3, .ref 232), (2, .ref 162), (1, .ref 0), (0, .ref 11)]) (st2 := [.int (xs 3), .int 0, .int 1, .ref 0]) (h2 := zH0) (dc2 := 117) (ds2 := 29934) 5 rfl ?_
  refine zT_val h3 ?_
  refine zT_call rfl rfl (zT_le (zg0_le 6 xs) zk_o_139) ?_
  refine zT_here (pc2 := 1062) rfl ?_
  refine zT_gos (f := 200000) (pc2 := 1069) (ls2 := [(4, .int 0), (3, .ref 232), (2, .ref 162), (1, .ref 0), (0, .ref 11)]) (st2 := [.int (xs 1), .ref 162, .int 0]) (h2 := (((zH0.set 37 (.inr (.inr (.inr (3, [.ref 44, .ref 6, .ref 76, .ref 78, .ref 80, .ref 88, .int 1, .int 0, .ref 96, .int 0, .int 0, .int 0, .ref 98, .ref 100, .int 0]))))).set 44 (.inr (.inr (.inr (6, [.int 1, .long 70644700037184, .int 0, .ref 90, .ref 92, .ref 94]))))).set 47 (.inr (.inl (16, [70644700037184]))))) (dc2 := 117) (ds2 := 29934) 6 rfl ?_
  refine zT_if0 false rfl (zc_eq_f (by show ((xs 1) : Int32).toInt ≠ 0; omega)) ?_
  refine zT_here (pc2 := 1072) rfl ?_
  refine zT_gos (f := 200000) (pc2 := 1083) (ls2 := [(4, .int 0), (3, .ref 232), (2, .ref 162), (1, .ref 0), (0, .ref 11)]) (st2 := [.int (xs 2), .int 1, .ref 162, .int 0]) (h2 := (((zH0.set 37 (.inr (.inr (.inr (3, [.ref 44, .ref 6, .ref 76, .ref 78, .ref 80, .ref 88, .int 1, .int 0, .ref 96, .int 0, .int 0, .int 0, .ref 98, .ref 100, .int 0]))))).set 44 (.inr (.inr (.inr (6, [.int 1, .long 70644700037184, .int 0, .ref 90, .ref 92, .ref 94]))))).set 47 (.inr (.inl (16, [70644700037184]))))) (dc2 := 117) (ds2 := 29934) 7 rfl ?_
  refine zT_val h2 ?_
  refine zT_gos (f := 200000) (pc2 := 1089) (ls2 := [(4, .int 0), (3, .ref 232), (2, .ref 162), (1, .ref 0), (0, .ref 11)]) (st2 := [.int (xs 3), .int 0, .int 1, .ref 162, .int 0]) (h2 := (((zH0.set 37 (.inr (.inr (.inr (3, [.ref 44, .ref 6, .ref 76, .ref 78, .ref 80, .ref 88, .int 1, .int 0, .ref 96, .int 0, .int 0, .int 0, .ref 98, .ref 100, .int 0]))))).set 44 (.inr (.inr (.inr (6, [.int 1, .long 70644700037184, .int 0, .ref 90, .ref 92, .ref 94]))))).set 47 (.inr (.inl (16, [70644700037184]))))) (dc2 := 117) (ds2 := 29934) 5 rfl ?_
  refine zT_val h3 ?_
  refine zT_call rfl rfl (zT_le (zg0_le 6 xs) zk_o_140) ?_
  refine zT_here (pc2 := 1092) rfl ?_
  refine zT_gos (f := 200000) (pc2 := 1811) (ls2 := [(4, .int 6), (3, .ref 232), (2, .ref 162), (1, .ref 0), (0, .ref 11)]) (st2 := [.int 1]) (h2 := (((((((zH0.set 37 (.inr (.inr (.inr (3, [.ref 44, .ref 6, .ref 76, .ref 78, .ref 80, .ref 88, .int 1, .int 0, .ref 96, .int 0, .int 0, .int 0, .ref 98, .ref 100, .int 0]))))).set 44 (.inr (.inr (.inr (6, [.int 1, .long 70644700037184, .int 0, .ref 90, .ref 92, .ref 94]))))).set 47 (.inr (.inl (16, [70644700037184])))).set 106 (.inl (2, 2, [0, 1]))).set 105 (.inl (0, 2, [0, 0]))).set 107 (.inl (0, 132, [0, 0, 0, 0, 0, 0, 0, 0, 0, 0, 0, 0, 0, 0, 0, 0, 0, 0, 0, 0, 0, 0, 0, 0, 0, 0, 0, 0, 0, 0, 0, 0, 0, 0, 0, 0, 0, 0, 0, 0, 0, 0, 0, 0, 0, 0, 0, 0, 0, 0, 0, 0, 0, 0, 0, 0, 0, 0, 0, 0, 0, 0, 0, 0, 0, 0, 0, 0, 0, 0, 0, 0]))).set 109 (.inl (0, 22, [0, 0, 0, 0, 0, 0, 0, 0, 0, 0, 0, 0])))) (dc2 := 117) (ds2 := 29934) 10 rfl ?_
  exact zT_ret rfl rfl
theorem zop_23 (xs : Nat → Int32) (h0 : xs 0 &&& 63 = 23) : zDone xs := by
  rcases (show (xs 1).toInt = 0 ∨ (xs 1).toInt ≠ 0 by omega) with h1 | h1
  · have h1 : xs 1 = 0 := Int32.toInt_inj.mp h1
    rcases (show (xs 3).toInt < 0 ∨ 5 < (xs 3).toInt ∨ (xs 3).toInt = 0 ∨ (xs 3).toInt = 1 ∨ (xs 3).toInt = 2 ∨ (xs 3).toInt = 3 ∨ (xs 3).toInt = 4 ∨ (xs 3).toInt = 5 by omega) with h3 | h3 | h3 | h3 | h3 | h3 | h3 | h3
    · have h3 := h3
      rcases (show (xs 2).toInt < 0 ∨ 0 < (xs 2).toInt ∨ (xs 2).toInt = 0 by omega) with h2 | h2 | h2
      · have h2 := h2
        exact zo_23_0 xs h0 h1 h3 h2
      · have h2 := h2
        exact zo_23_1 xs h0 h1 h3 h2
      · have h2 : xs 2 = 0 := Int32.toInt_inj.mp h2
        exact zo_23_2 xs h0 h1 h3 h2
    · have h3 := h3
      rcases (show (xs 2).toInt < 0 ∨ 0 < (xs 2).toInt ∨ (xs 2).toInt = 0 by omega) with h2 | h2 | h2
      · have h2 := h2
        exact zo_23_3 xs h0 h1 h3 h2
      · have h2 := h2
        exact zo_23_4 xs h0 h1 h3 h2
      · have h2 : xs 2 = 0 := Int32.toInt_inj.mp h2
        exact zo_23_5 xs h0 h1 h3 h2
    · have h3 : xs 3 = 0 := Int32.toInt_inj.mp h3
      rcases (show (xs 2).toInt < 0 ∨ 0 < (xs 2).toInt ∨ (xs 2).toInt = 0 by omega) with h2 | h2 | h2
      · have h2 := h2
        exact zo_23_12 xs h0 h1 h3 h2
      · have h2 := h2
        exact zo_23_13 xs h0 h1 h3 h2
      · have h2 : xs 2 = 0 := Int32.toInt_inj.mp h2
        exact zo_23_14 xs h0 h1 h3 h2
    · have h3 : xs 3 = 1 := Int32.toInt_inj.mp h3
      rcases (show (xs 2).toInt < 0 ∨ 0 < (xs 2).toInt ∨ (xs 2).toInt = 0 by omega) with h2 | h2 | h2
      · have h2 := h2
        exact zo_23_15 xs h0 h1 h3 h2
      · have h2 := h2
        exact zo_23_16 xs h0 h1 h3 h2
      · have h2 : xs 2 = 0 := Int32.toInt_inj.mp h2
        exact zo_23_17 xs h0 h1 h3 h2
    · have h3 : xs 3 = 2 := Int32.toInt_inj.mp h3
      rcases (show (xs 2).toInt < 0 ∨ 0 < (xs 2).toInt ∨ (xs 2).toInt = 0 by omega) with h2 | h2 | h2
      · have h2 := h2
        exact zo_23_18 xs h0 h1 h3 h2
      · have h2 := h2
        exact zo_23_19 xs h0 h1 h3 h2
      · have h2 : xs 2 = 0 := Int32.toInt_inj.mp h2
        exact zo_23_20 xs h0 h1 h3 h2
    · have h3 : xs 3 = 3 := Int32.toInt_inj.mp h3
      rcases (show (xs 2).toInt < 0 ∨ 0 < (xs 2).toInt ∨ (xs 2).toInt = 0 by omega) with h2 | h2 | h2
      · have h2 := h2
        exact zo_23_21 xs h0 h1 h3 h2
      · have h2 := h2
        exact zo_23_22 xs h0 h1 h3 h2
      · have h2 : xs 2 = 0 := Int32.toInt_inj.mp h2
        exact zo_23_23 xs h0 h1 h3 h2
    · have h3 : xs 3 = 4 := Int32.toInt_inj.mp h3
      rcases (show (xs 2).toInt < 0 ∨ 0 < (xs 2).toInt ∨ (xs 2).toInt = 0 by omega) with h2 | h2 | h2
      · have h2 := h2
        exact zo_23_24 xs h0 h1 h3 h2
      · have h2 := h2
        exact zo_23_25 xs h0 h1 h3 h2
      · have h2 : xs 2 = 0 := Int32.toInt_inj.mp h2
        exact zo_23_26 xs h0 h1 h3 h2
    · have h3 : xs 3 = 5 := Int32.toInt_inj.mp h3
      rcases (show (xs 2).toInt < 0 ∨ 0 < (xs 2).toInt ∨ (xs 2).toInt = 0 by omega) with h2 | h2 | h2
      · have h2 := h2
        exact zo_23_27 xs h0 h1 h3 h2
      · have h2 := h2
        exact zo_23_28 xs h0 h1 h3 h2
      · have h2 : xs 2 = 0 := Int32.toInt_inj.mp h2
        exact zo_23_29 xs h0 h1 h3 h2
  · have h1 := h1
    rcases (show (xs 3).toInt < 0 ∨ 5 < (xs 3).toInt ∨ (xs 3).toInt = 0 ∨ (xs 3).toInt = 1 ∨ (xs 3).toInt = 2 ∨ (xs 3).toInt = 3 ∨ (xs 3).toInt = 4 ∨ (xs 3).toInt = 5 by omega) with h3 | h3 | h3 | h3 | h3 | h3 | h3 | h3
    · have h3 := h3
      rcases (show (xs 2).toInt < 0 ∨ 0 < (xs 2).toInt ∨ (xs 2).toInt = 0 by omega) with h2 | h2 | h2
      · have h2 := h2
        exact zo_23_6 xs h0 h1 h3 h2
      · have h2 := h2
        exact zo_23_7 xs h0 h1 h3 h2
      · have h2 : xs 2 = 0 := Int32.toInt_inj.mp h2
        exact zo_23_8 xs h0 h1 h3 h2
    · have h3 := h3
      rcases (show (xs 2).toInt < 0 ∨ 0 < (xs 2).toInt ∨ (xs 2).toInt = 0 by omega) with h2 | h2 | h2
      · have h2 := h2
        exact zo_23_9 xs h0 h1 h3 h2
      · have h2 := h2
        exact zo_23_10 xs h0 h1 h3 h2
      · have h2 : xs 2 = 0 := Int32.toInt_inj.mp h2
        exact zo_23_11 xs h0 h1 h3 h2
    · have h3 : xs 3 = 0 := Int32.toInt_inj.mp h3
      rcases (show (xs 2).toInt < 0 ∨ 0 < (xs 2).toInt ∨ (xs 2).toInt = 0 by omega) with h2 | h2 | h2
      · have h2 := h2
        exact zo_23_30 xs h0 h1 h3 h2
      · have h2 := h2
        exact zo_23_31 xs h0 h1 h3 h2
      · have h2 : xs 2 = 0 := Int32.toInt_inj.mp h2
        exact zo_23_32 xs h0 h1 h3 h2
    · have h3 : xs 3 = 1 := Int32.toInt_inj.mp h3
      rcases (show (xs 2).toInt < 0 ∨ 0 < (xs 2).toInt ∨ (xs 2).toInt = 0 by omega) with h2 | h2 | h2
      · have h2 := h2
        exact zo_23_33 xs h0 h1 h3 h2
      · have h2 := h2
        exact zo_23_34 xs h0 h1 h3 h2
      · have h2 : xs 2 = 0 := Int32.toInt_inj.mp h2
        exact zo_23_35 xs h0 h1 h3 h2
    · have h3 : xs 3 = 2 := Int32.toInt_inj.mp h3
      rcases (show (xs 2).toInt < 0 ∨ 0 < (xs 2).toInt ∨ (xs 2).toInt = 0 by omega) with h2 | h2 | h2
      · have h2 := h2
        exact zo_23_36 xs h0 h1 h3 h2
      · have h2 := h2
        exact zo_23_37 xs h0 h1 h3 h2
      · have h2 : xs 2 = 0 := Int32.toInt_inj.mp h2
        exact zo_23_38 xs h0 h1 h3 h2
    · have h3 : xs 3 = 3 := Int32.toInt_inj.mp h3
      rcases (show (xs 2).toInt < 0 ∨ 0 < (xs 2).toInt ∨ (xs 2).toInt = 0 by omega) with h2 | h2 | h2
      · have h2 := h2
        exact zo_23_39 xs h0 h1 h3 h2
      · have h2 := h2
        exact zo_23_40 xs h0 h1 h3 h2
      · have h2 : xs 2 = 0 := Int32.toInt_inj.mp h2
        exact zo_23_41 xs h0 h1 h3 h2
    · have h3 : xs 3 = 4 := Int32.toInt_inj.mp h3
      rcases (show (xs 2).toInt < 0 ∨ 0 < (xs 2).toInt ∨ (xs 2).toInt = 0 by omega) with h2 | h2 | h2
      · have h2 := h2
        exact zo_23_42 xs h0 h1 h3 h2
      · have h2 := h2
        exact zo_23_43 xs h0 h1 h3 h2
      · have h2 : xs 2 = 0 := Int32.toInt_inj.mp h2
        exact zo_23_44 xs h0 h1 h3 h2
    · have h3 : xs 3 = 5 := Int32.toInt_inj.mp h3
      rcases (show (xs 2).toInt < 0 ∨ 0 < (xs 2).toInt ∨ (xs 2).toInt = 0 by omega) with h2 | h2 | h2
      · have h2 := h2
        exact zo_23_45 xs h0 h1 h3 h2
      · have h2 := h2
        exact zo_23_46 xs h0 h1 h3 h2
      · have h2 : xs 2 = 0 := Int32.toInt_inj.mp h2
        exact zo_23_47 xs h0 h1 h3 h2
