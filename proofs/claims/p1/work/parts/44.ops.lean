/-! Ops of the law at the first state: printed by a program (wip/gen/ops_all.py). -/
set_option maxRecDepth 1000000 in
set_option maxHeartbeats 4000000 in
theorem zo_25_0 (xs : Nat → Int32) (h0 : xs 0 &&& 63 = 25) (h1 : xs 1 = 0) (h3 : xs 3 = 0) (h2 : (xs 2).toInt < 0) : zDone xs := by
  refine ⟨zH0, 117, 29934, ?_, by decide, by decide⟩
  refine zT_gos (f := 200000) (pc2 := 37) (ls2 := [(4, .int 0), (3, .ref 232), (2, .ref 162), (1, .ref 0), (0, .ref 11)]) (st2 := [.int (xs 0)]) (h2 := zH0) (dc2 := 117) (ds2 := 29934) 9 rfl ?_
  refine zT_gos (f := 200000) (pc2 := 40) (ls2 := [(4, .int 0), (3, .ref 232), (2, .ref 162), (1, .ref 0), (0, .ref 11)]) (st2 := [.int ((xs 0) &&& (63 : Int32))]) (h2 := zH0) (dc2 := 117) (ds2 := 29934) 2 rfl ?_
  refine zT_val h0 ?_
  refine zT_gos (f := 200000) (pc2 := 1169) (ls2 := [(4, .int 0), (3, .ref 232), (2, .ref 162), (1, .ref 0), (0, .ref 11)]) (st2 := [.int (xs 1), .ref 0]) (h2 := zH0) (dc2 := 117) (ds2 := 29934) 7 rfl ?_
  refine zT_val h1 ?_
  refine zT_gos (f := 200000) (pc2 := 1183) (ls2 := [(4, .int 0), (3, .ref 232), (2, .ref 162), (1, .ref 0), (0, .ref 11)]) (st2 := [.int (xs 2), .int 0, .ref 0]) (h2 := zH0) (dc2 := 117) (ds2 := 29934) 7 rfl ?_
  refine zT_gos (f := 200000) (pc2 := 1189) (ls2 := [(4, .int 0), (3, .ref 232), (2, .ref 162), (1, .ref 0), (0, .ref 11)]) (st2 := [.int (xs 3), .int (xs 2), .int 0, .ref 0]) (h2 := zH0) (dc2 := 117) (ds2 := 29934) 5 rfl ?_
  refine zT_val h3 ?_
  refine zT_gos (f := 200000) (pc2 := 1197) (ls2 := [(4, .int 0), (3, .ref 232), (2, .ref 162), (1, .ref 0), (0, .ref 11)]) (st2 := [.int 0, .int (xs 2), .int 0, .ref 0]) (h2 := zH0) (dc2 := 117) (ds2 := 29934) 2 rfl ?_
  refine zT_call (v := some (.int (-1))) (h2 := zH0) (d1 := 0) (s1 := 0) rfl rfl ?_ ?_
  · refine zT_gos (f := 200000) (pc2 := 1) (ls2 := [(0, .ref 0), (1, .int 0), (2, .int (xs 2)), (3, .int 0)]) (st2 := [.int (xs 2)]) (h2 := zH0) (dc2 := 0) (ds2 := 0) 1 rfl ?_
    refine zT_call (v := some (.int 1)) (h2 := zH0) (d1 := 0) (s1 := 0) rfl rfl ?_ ?_
    · refine zT_gos (f := 200000) (pc2 := 1) (ls2 := [(0, .int (xs 2))]) (st2 := [.int (xs 2)]) (h2 := zH0) (dc2 := 0) (ds2 := 0) 1 rfl ?_
      refine zT_if0 true rfl (zc_lt_t (by show ((xs 2) : Int32).toInt < 0; omega)) ?_
      refine zT_here (pc2 := 10) rfl ?_
      refine zT_gos (f := 200000) (pc2 := 15) (ls2 := [(0, .int (xs 2))]) (st2 := [.int 1]) (h2 := zH0) (dc2 := 0) (ds2 := 0) 2 rfl ?_
      exact zT_ret rfl rfl
    refine zT_here (pc2 := 4) rfl ?_
    refine zT_gos (f := 200000) (pc2 := 8) (ls2 := [(0, .ref 0), (1, .int 0), (2, .int (xs 2)), (3, .int 0)]) (st2 := [.int (-1)]) (h2 := zH0) (dc2 := 0) (ds2 := 0) 2 rfl ?_
    exact zT_ret rfl rfl
  refine zT_here (pc2 := 1200) rfl ?_
  refine zT_gos (f := 200000) (pc2 := 1207) (ls2 := [(4, .int 0), (3, .ref 232), (2, .ref 162), (1, .ref 0), (0, .ref 11)]) (st2 := [.int (xs 1), .ref 162, .int (-1)]) (h2 := zH0) (dc2 := 117) (ds2 := 29934) 6 rfl ?_
  refine zT_val h1 ?_
  refine zT_gos (f := 200000) (pc2 := 1221) (ls2 := [(4, .int 0), (3, .ref 232), (2, .ref 162), (1, .ref 0), (0, .ref 11)]) (st2 := [.int (xs 2), .int 0, .ref 162, .int (-1)]) (h2 := zH0) (dc2 := 117) (ds2 := 29934) 7 rfl ?_
  refine zT_gos (f := 200000) (pc2 := 1227) (ls2 := [(4, .int 0), (3, .ref 232), (2, .ref 162), (1, .ref 0), (0, .ref 11)]) (st2 := [.int (xs 3), .int (xs 2), .int 0, .ref 162, .int (-1)]) (h2 := zH0) (dc2 := 117) (ds2 := 29934) 5 rfl ?_
  refine zT_val h3 ?_
  refine zT_gos (f := 200000) (pc2 := 1235) (ls2 := [(4, .int 0), (3, .ref 232), (2, .ref 162), (1, .ref 0), (0, .ref 11)]) (st2 := [.int 0, .int (xs 2), .int 0, .ref 162, .int (-1)]) (h2 := zH0) (dc2 := 117) (ds2 := 29934) 2 rfl ?_
  refine zT_call (v := some (.int (-1))) (h2 := zH0) (d1 := 0) (s1 := 0) rfl rfl ?_ ?_
  · refine zT_gos (f := 200000) (pc2 := 6) (ls2 := [(0, .ref 162), (1, .int 0), (2, .int (xs 2)), (3, .int 0)]) (st2 := [.int (xs 2)]) (h2 := zH0) (dc2 := 0) (ds2 := 0) 4 rfl ?_
    refine zT_call (v := some (.int 0)) (h2 := zH0) (d1 := 0) (s1 := 0) rfl rfl ?_ ?_
    · refine zT_gos (f := 200000) (pc2 := 1) (ls2 := [(0, .int (xs 2))]) (st2 := [.int (xs 2)]) (h2 := zH0) (dc2 := 0) (ds2 := 0) 1 rfl ?_
      refine zT_if0 true rfl (zc_lt_t (by show ((xs 2) : Int32).toInt < 0; omega)) ?_
      refine zT_here (pc2 := 14) rfl ?_
      refine zT_gos (f := 200000) (pc2 := 15) (ls2 := [(0, .int (xs 2))]) (st2 := [.int 0]) (h2 := zH0) (dc2 := 0) (ds2 := 0) 1 rfl ?_
      exact zT_ret rfl rfl
    refine zT_here (pc2 := 9) rfl ?_
    refine zT_gos (f := 200000) (pc2 := 13) (ls2 := [(0, .ref 162), (1, .int 0), (2, .int (xs 2)), (3, .int 0)]) (st2 := [.int (-1)]) (h2 := zH0) (dc2 := 0) (ds2 := 0) 2 rfl ?_
    exact zT_ret rfl rfl
  refine zT_here (pc2 := 1238) rfl ?_
  refine zT_gos (f := 200000) (pc2 := 1811) (ls2 := [(4, .int 6), (3, .ref 232), (2, .ref 162), (1, .ref 0), (0, .ref 11)]) (st2 := [.int 1]) (h2 := zH0) (dc2 := 117) (ds2 := 29934) 10 rfl ?_
  exact zT_ret rfl rfl
set_option maxRecDepth 1000000 in
set_option maxHeartbeats 4000000 in
theorem zo_25_1 (xs : Nat → Int32) (h0 : xs 0 &&& 63 = 25) (h1 : xs 1 = 0) (h3 : xs 3 = 0) (h2 : 5 < (xs 2).toInt) : zDone xs := by
  refine ⟨zH0, 117, 29934, ?_, by decide, by decide⟩
  refine zT_gos (f := 200000) (pc2 := 37) (ls2 := [(4, .int 0), (3, .ref 232), (2, .ref 162), (1, .ref 0), (0, .ref 11)]) (st2 := [.int (xs 0)]) (h2 := zH0) (dc2 := 117) (ds2 := 29934) 9 rfl ?_
  refine zT_gos (f := 200000) (pc2 := 40) (ls2 := [(4, .int 0), (3, .ref 232), (2, .ref 162), (1, .ref 0), (0, .ref 11)]) (st2 := [.int ((xs 0) &&& (63 : Int32))]) (h2 := zH0) (dc2 := 117) (ds2 := 29934) 2 rfl ?_
  refine zT_val h0 ?_
  refine zT_gos (f := 200000) (pc2 := 1169) (ls2 := [(4, .int 0), (3, .ref 232), (2, .ref 162), (1, .ref 0), (0, .ref 11)]) (st2 := [.int (xs 1), .ref 0]) (h2 := zH0) (dc2 := 117) (ds2 := 29934) 7 rfl ?_
  refine zT_val h1 ?_
  refine zT_gos (f := 200000) (pc2 := 1183) (ls2 := [(4, .int 0), (3, .ref 232), (2, .ref 162), (1, .ref 0), (0, .ref 11)]) (st2 := [.int (xs 2), .int 0, .ref 0]) (h2 := zH0) (dc2 := 117) (ds2 := 29934) 7 rfl ?_
  refine zT_gos (f := 200000) (pc2 := 1189) (ls2 := [(4, .int 0), (3, .ref 232), (2, .ref 162), (1, .ref 0), (0, .ref 11)]) (st2 := [.int (xs 3), .int (xs 2), .int 0, .ref 0]) (h2 := zH0) (dc2 := 117) (ds2 := 29934) 5 rfl ?_
  refine zT_val h3 ?_
  refine zT_gos (f := 200000) (pc2 := 1197) (ls2 := [(4, .int 0), (3, .ref 232), (2, .ref 162), (1, .ref 0), (0, .ref 11)]) (st2 := [.int 0, .int (xs 2), .int 0, .ref 0]) (h2 := zH0) (dc2 := 117) (ds2 := 29934) 2 rfl ?_
  refine zT_call (v := some (.int (-1))) (h2 := zH0) (d1 := 0) (s1 := 0) rfl rfl ?_ ?_
  · refine zT_gos (f := 200000) (pc2 := 1) (ls2 := [(0, .ref 0), (1, .int 0), (2, .int (xs 2)), (3, .int 0)]) (st2 := [.int (xs 2)]) (h2 := zH0) (dc2 := 0) (ds2 := 0) 1 rfl ?_
    refine zT_call (v := some (.int 1)) (h2 := zH0) (d1 := 0) (s1 := 0) rfl rfl ?_ ?_
    · refine zT_gos (f := 200000) (pc2 := 1) (ls2 := [(0, .int (xs 2))]) (st2 := [.int (xs 2)]) (h2 := zH0) (dc2 := 0) (ds2 := 0) 1 rfl ?_
      refine zT_if0 false rfl (zc_lt_f (by show ((xs 2) : Int32).toInt ≥ 0; omega)) ?_
      refine zT_here (pc2 := 4) rfl ?_
      refine zT_gos (f := 200000) (pc2 := 7) (ls2 := [(0, .int (xs 2))]) (st2 := [.int 6, .int (xs 2)]) (h2 := zH0) (dc2 := 0) (ds2 := 0) 2 rfl ?_
      refine zT_if2 false rfl (zc_lt_f (by show ((xs 2) : Int32).toInt ≥ 6; omega)) ?_
      refine zT_here (pc2 := 10) rfl ?_
      refine zT_gos (f := 200000) (pc2 := 15) (ls2 := [(0, .int (xs 2))]) (st2 := [.int 1]) (h2 := zH0) (dc2 := 0) (ds2 := 0) 2 rfl ?_
      exact zT_ret rfl rfl
    refine zT_here (pc2 := 4) rfl ?_
    refine zT_gos (f := 200000) (pc2 := 8) (ls2 := [(0, .ref 0), (1, .int 0), (2, .int (xs 2)), (3, .int 0)]) (st2 := [.int (-1)]) (h2 := zH0) (dc2 := 0) (ds2 := 0) 2 rfl ?_
    exact zT_ret rfl rfl
  refine zT_here (pc2 := 1200) rfl ?_
  refine zT_gos (f := 200000) (pc2 := 1207) (ls2 := [(4, .int 0), (3, .ref 232), (2, .ref 162), (1, .ref 0), (0, .ref 11)]) (st2 := [.int (xs 1), .ref 162, .int (-1)]) (h2 := zH0) (dc2 := 117) (ds2 := 29934) 6 rfl ?_
  refine zT_val h1 ?_
  refine zT_gos (f := 200000) (pc2 := 1221) (ls2 := [(4, .int 0), (3, .ref 232), (2, .ref 162), (1, .ref 0), (0, .ref 11)]) (st2 := [.int (xs 2), .int 0, .ref 162, .int (-1)]) (h2 := zH0) (dc2 := 117) (ds2 := 29934) 7 rfl ?_
  refine zT_gos (f := 200000) (pc2 := 1227) (ls2 := [(4, .int 0), (3, .ref 232), (2, .ref 162), (1, .ref 0), (0, .ref 11)]) (st2 := [.int (xs 3), .int (xs 2), .int 0, .ref 162, .int (-1)]) (h2 := zH0) (dc2 := 117) (ds2 := 29934) 5 rfl ?_
  refine zT_val h3 ?_
  refine zT_gos (f := 200000) (pc2 := 1235) (ls2 := [(4, .int 0), (3, .ref 232), (2, .ref 162), (1, .ref 0), (0, .ref 11)]) (st2 := [.int 0, .int (xs 2), .int 0, .ref 162, .int (-1)]) (h2 := zH0) (dc2 := 117) (ds2 := 29934) 2 rfl ?_
  refine zT_call (v := some (.int (-1))) (h2 := zH0) (d1 := 0) (s1 := 0) rfl rfl ?_ ?_
  · refine zT_gos (f := 200000) (pc2 := 6) (ls2 := [(0, .ref 162), (1, .int 0), (2, .int (xs 2)), (3, .int 0)]) (st2 := [.int (xs 2)]) (h2 := zH0) (dc2 := 0) (ds2 := 0) 4 rfl ?_
    refine zT_call (v := some (.int 0)) (h2 := zH0) (d1 := 0) (s1 := 0) rfl rfl ?_ ?_
    · refine zT_gos (f := 200000) (pc2 := 1) (ls2 := [(0, .int (xs 2))]) (st2 := [.int (xs 2)]) (h2 := zH0) (dc2 := 0) (ds2 := 0) 1 rfl ?_
      refine zT_if0 false rfl (zc_lt_f (by show ((xs 2) : Int32).toInt ≥ 0; omega)) ?_
      refine zT_here (pc2 := 4) rfl ?_
      refine zT_gos (f := 200000) (pc2 := 7) (ls2 := [(0, .int (xs 2))]) (st2 := [.int 6, .int (xs 2)]) (h2 := zH0) (dc2 := 0) (ds2 := 0) 2 rfl ?_
      refine zT_if2 true rfl (zc_ge_t (by show ((xs 2) : Int32).toInt ≥ 6; omega)) ?_
      refine zT_here (pc2 := 14) rfl ?_
      refine zT_gos (f := 200000) (pc2 := 15) (ls2 := [(0, .int (xs 2))]) (st2 := [.int 0]) (h2 := zH0) (dc2 := 0) (ds2 := 0) 1 rfl ?_
      exact zT_ret rfl rfl
    refine zT_here (pc2 := 9) rfl ?_
    refine zT_gos (f := 200000) (pc2 := 13) (ls2 := [(0, .ref 162), (1, .int 0), (2, .int (xs 2)), (3, .int 0)]) (st2 := [.int (-1)]) (h2 := zH0) (dc2 := 0) (ds2 := 0) 2 rfl ?_
    exact zT_ret rfl rfl
  refine zT_here (pc2 := 1238) rfl ?_
  refine zT_gos (f := 200000) (pc2 := 1811) (ls2 := [(4, .int 6), (3, .ref 232), (2, .ref 162), (1, .ref 0), (0, .ref 11)]) (st2 := [.int 1]) (h2 := zH0) (dc2 := 117) (ds2 := 29934) 10 rfl ?_
  exact zT_ret rfl rfl
set_option maxRecDepth 1000000 in
theorem zk_o_66 : zT zg0 zF zP 126 0 [(0, .ref 0), (1, .int 0), (2, .int 0), (3, .int 0)] [] zH0 0 0 (some (.int 0), (((zH0.set 37 (.inr (.inr (.inr (3, [.ref 44, .ref 6, .ref 76, .ref 78, .ref 80, .ref 88, .int 1, .int 0, .ref 96, .int 0, .int 0, .int 0, .ref 98, .ref 100, .int 0]))))).set 40 (.inr (.inr (.inr (6, [.int 1, .long 70644700037184, .int 0, .ref 82, .ref 84, .ref 86]))))).set 43 (.inr (.inl (16, [70644700037184])))), 0, 0) := zclosed (n := 129) (by decide +kernel)
set_option maxRecDepth 1000000 in
theorem zk_o_67 : zT zg0 zF zP 257 0 [(0, .ref 162), (1, .int 0), (2, .int 0), (3, .int 0)] [] (((zH0.set 37 (.inr (.inr (.inr (3, [.ref 44, .ref 6, .ref 76, .ref 78, .ref 80, .ref 88, .int 1, .int 0, .ref 96, .int 0, .int 0, .int 0, .ref 98, .ref 100, .int 0]))))).set 40 (.inr (.inr (.inr (6, [.int 1, .long 70644700037184, .int 0, .ref 82, .ref 84, .ref 86]))))).set 43 (.inr (.inl (16, [70644700037184])))) 0 0 (some (.int 0), (((((((zH0.set 37 (.inr (.inr (.inr (3, [.ref 44, .ref 6, .ref 76, .ref 78, .ref 80, .ref 88, .int 1, .int 0, .ref 96, .int 0, .int 0, .int 0, .ref 98, .ref 100, .int 0]))))).set 40 (.inr (.inr (.inr (6, [.int 1, .long 70644700037184, .int 0, .ref 82, .ref 84, .ref 86]))))).set 43 (.inr (.inl (16, [70644700037184])))).set 106 (.inl (2, 2, [1, 0]))).set 105 (.inl (0, 2, [0]))).set 107 (.inl (0, 132, [0, 0, 0, 0, 0, 0]))).set 109 (.inl (0, 22, [0]))), 0, 0) := zclosed (n := 221) (by decide +kernel)
set_option maxRecDepth 1000000 in
set_option maxHeartbeats 4000000 in
theorem zo_25_2 (xs : Nat → Int32) (h0 : xs 0 &&& 63 = 25) (h1 : xs 1 = 0) (h3 : xs 3 = 0) (h2 : xs 2 = 0) : zDone xs := by
  refine ⟨(((((((zH0.set 37 (.inr (.inr (.inr (3, [.ref 44, .ref 6, .ref 76, .ref 78, .ref 80, .ref 88, .int 1, .int 0, .ref 96, .int 0, .int 0, .int 0, .ref 98, .ref 100, .int 0]))))).set 40 (.inr (.inr (.inr (6, [.int 1, .long 70644700037184, .int 0, .ref 82, .ref 84, .ref 86]))))).set 43 (.inr (.inl (16, [70644700037184])))).set 106 (.inl (2, 2, [1, 0]))).set 105 (.inl (0, 2, [0]))).set 107 (.inl (0, 132, [0, 0, 0, 0, 0, 0]))).set 109 (.inl (0, 22, [0]))), 117, 29934, ?_, by decide, by decide⟩
  refine zT_gos (f := 200000) (pc2 := 37) (ls2 := [(4, .int 0), (3, .ref 232), (2, .ref 162), (1, .ref 0), (0, .ref 11)]) (st2 := [.int (xs 0)]) (h2 := zH0) (dc2 := 117) (ds2 := 29934) 9 rfl ?_
  refine zT_gos (f := 200000) (pc2 := 40) (ls2 := [(4, .int 0), (3, .ref 232), (2, .ref 162), (1, .ref 0), (0, .ref 11)]) (st2 := [.int ((xs 0) &&& (63 : Int32))]) (h2 := zH0) (dc2 := 117) (ds2 := 29934) 2 rfl ?_
  refine zT_val h0 ?_
  refine zT_gos (f := 200000) (pc2 := 1169) (ls2 := [(4, .int 0), (3, .ref 232), (2, .ref 162), (1, .ref 0), (0, .ref 11)]) (st2 := [.int (xs 1), .ref 0]) (h2 := zH0) (dc2 := 117) (ds2 := 29934) 7 rfl ?_
  refine zT_val h1 ?_
  refine zT_gos (f := 200000) (pc2 := 1183) (ls2 := [(4, .int 0), (3, .ref 232), (2, .ref 162), (1, .ref 0), (0, .ref 11)]) (st2 := [.int (xs 2), .int 0, .ref 0]) (h2 := zH0) (dc2 := 117) (ds2 := 29934) 7 rfl ?_
  refine zT_val h2 ?_
  refine zT_gos (f := 200000) (pc2 := 1189) (ls2 := [(4, .int 0), (3, .ref 232), (2, .ref 162), (1, .ref 0), (0, .ref 11)]) (st2 := [.int (xs 3), .int 0, .int 0, .ref 0]) (h2 := zH0) (dc2 := 117) (ds2 := 29934) 5 rfl ?_
  refine zT_val h3 ?_
  refine zT_gos (f := 200000) (pc2 := 1197) (ls2 := [(4, .int 0), (3, .ref 232), (2, .ref 162), (1, .ref 0), (0, .ref 11)]) (st2 := [.int 0, .int 0, .int 0, .ref 0]) (h2 := zH0) (dc2 := 117) (ds2 := 29934) 2 rfl ?_
  refine zT_call rfl rfl (zT_le (zg0_le 6 xs) zk_o_66) ?_
  refine zT_here (pc2 := 1200) rfl ?_
  refine zT_gos (f := 200000) (pc2 := 1207) (ls2 := [(4, .int 0), (3, .ref 232), (2, .ref 162), (1, .ref 0), (0, .ref 11)]) (st2 := [.int (xs 1), .ref 162, .int 0]) (h2 := (((zH0.set 37 (.inr (.inr (.inr (3, [.ref 44, .ref 6, .ref 76, .ref 78, .ref 80, .ref 88, .int 1, .int 0, .ref 96, .int 0, .int 0, .int 0, .ref 98, .ref 100, .int 0]))))).set 40 (.inr (.inr (.inr (6, [.int 1, .long 70644700037184, .int 0, .ref 82, .ref 84, .ref 86]))))).set 43 (.inr (.inl (16, [70644700037184]))))) (dc2 := 117) (ds2 := 29934) 6 rfl ?_
  refine zT_val h1 ?_
  refine zT_gos (f := 200000) (pc2 := 1221) (ls2 := [(4, .int 0), (3, .ref 232), (2, .ref 162), (1, .ref 0), (0, .ref 11)]) (st2 := [.int (xs 2), .int 0, .ref 162, .int 0]) (h2 := (((zH0.set 37 (.inr (.inr (.inr (3, [.ref 44, .ref 6, .ref 76, .ref 78, .ref 80, .ref 88, .int 1, .int 0, .ref 96, .int 0, .int 0, .int 0, .ref 98, .ref 100, .int 0]))))).set 40 (.inr (.inr (.inr (6, [.int 1, .long 70644700037184, .int 0, .ref 82, .ref 84, .ref 86]))))).set 43 (.inr (.inl (16, [70644700037184]))))) (dc2 := 117) (ds2 := 29934) 7 rfl ?_
  refine zT_val h2 ?_
  refine zT_gos (f := 200000) (pc2 := 1227) (ls2 := [(4, .int 0), (3, .ref 232), (2, .ref 162), (1, .ref 0), (0, .ref 11)]) (st2 := [.int (xs 3), .int 0, .int 0, .ref 162, .int 0]) (h2 := (((zH0.set 37 (.inr (.inr (.inr (3, [.ref 44, .ref 6, .ref 76, .ref 78, .ref 80, .ref 88, .int 1, .int 0, .ref 96, .int 0, .int 0, .int 0, .ref 98, .ref 100, .int 0]))))).set 40 (.inr (.inr (.inr (6, [.int 1, .long 70644700037184, .int 0, .ref 82, .ref 84, .ref 86]))))).set 43 (.inr (.inl (16, [70644700037184]))))) (dc2 := 117) (ds2 := 29934) 5 rfl ?_
  refine zT_val h3 ?_
  refine zT_gos (f := 200000) (pc2 := 1235) (ls2 := [(4, .int 0), (3, .ref 232), (2, .ref 162), (1, .ref 0), (0, .ref 11)]) (st2 := [.int 0, .int 0, .int 0, .ref 162, .int 0]) (h2 := (((zH0.set 37 (.inr (.inr (.inr (3, [.ref 44, .ref 6, .ref 76, .ref 78, .ref 80, .ref 88, .int 1, .int 0, .ref 96, .int 0, .int 0, .int 0, .ref 98, .ref 100, .int 0]))))).set 40 (.inr (.inr (.inr (6, [.int 1, .long 70644700037184, .int 0, .ref 82, .ref 84, .ref 86]))))).set 43 (.inr (.inl (16, [70644700037184]))))) (dc2 := 117) (ds2 := 29934) 2 rfl ?_
  refine zT_call rfl rfl (zT_le (zg0_le 6 xs) zk_o_67) ?_
  refine zT_here (pc2 := 1238) rfl ?_
  refine zT_gos (f := 200000) (pc2 := 1811) (ls2 := [(4, .int 6), (3, .ref 232), (2, .ref 162), (1, .ref 0), (0, .ref 11)]) (st2 := [.int 1]) (h2 := (((((((zH0.set 37 (.inr (.inr (.inr (3, [.ref 44, .ref 6, .ref 76, .ref 78, .ref 80, .ref 88, .int 1, .int 0, .ref 96, .int 0, .int 0, .int 0, .ref 98, .ref 100, .int 0]))))).set 40 (.inr (.inr (.inr (6, [.int 1, .long 70644700037184, .int 0, .ref 82, .ref 84, .ref 86]))))).set 43 (.inr (.inl (16, [70644700037184])))).set 106 (.inl (2, 2, [1, 0]))).set 105 (.inl (0, 2, [0]))).set 107 (.inl (0, 132, [0, 0, 0, 0, 0, 0]))).set 109 (.inl (0, 22, [0])))) (dc2 := 117) (ds2 := 29934) 10 rfl ?_
  exact zT_ret rfl rfl
set_option maxRecDepth 1000000 in
theorem zk_o_68 : zT zg0 zF zP 126 0 [(0, .ref 0), (1, .int 0), (2, .int 1), (3, .int 0)] [] zH0 0 0 (some (.int 0), (((zH0.set 37 (.inr (.inr (.inr (3, [.ref 44, .ref 6, .ref 76, .ref 78, .ref 80, .ref 88, .int 1, .int 0, .ref 96, .int 0, .int 0, .int 0, .ref 98, .ref 100, .int 0]))))).set 40 (.inr (.inr (.inr (6, [.int 1, .long 70644700037184, .int 0, .ref 82, .ref 84, .ref 86]))))).set 43 (.inr (.inl (16, [70644700037184])))), 0, 0) := zclosed (n := 129) (by decide +kernel)
set_option maxRecDepth 1000000 in
theorem zk_o_69 : zT zg0 zF zP 257 0 [(0, .ref 162), (1, .int 0), (2, .int 1), (3, .int 0)] [] (((zH0.set 37 (.inr (.inr (.inr (3, [.ref 44, .ref 6, .ref 76, .ref 78, .ref 80, .ref 88, .int 1, .int 0, .ref 96, .int 0, .int 0, .int 0, .ref 98, .ref 100, .int 0]))))).set 40 (.inr (.inr (.inr (6, [.int 1, .long 70644700037184, .int 0, .ref 82, .ref 84, .ref 86]))))).set 43 (.inr (.inl (16, [70644700037184])))) 0 0 (some (.int 0), (((((((zH0.set 37 (.inr (.inr (.inr (3, [.ref 44, .ref 6, .ref 76, .ref 78, .ref 80, .ref 88, .int 1, .int 0, .ref 96, .int 0, .int 0, .int 0, .ref 98, .ref 100, .int 0]))))).set 40 (.inr (.inr (.inr (6, [.int 1, .long 70644700037184, .int 0, .ref 82, .ref 84, .ref 86]))))).set 43 (.inr (.inl (16, [70644700037184])))).set 106 (.inl (2, 2, [1, 0]))).set 105 (.inl (0, 2, [0]))).set 107 (.inl (0, 132, [0, 0, 0, 0, 0, 0]))).set 109 (.inl (0, 22, [0]))), 0, 0) := zclosed (n := 221) (by decide +kernel)
set_option maxRecDepth 1000000 in
set_option maxHeartbeats 4000000 in
theorem zo_25_3 (xs : Nat → Int32) (h0 : xs 0 &&& 63 = 25) (h1 : xs 1 = 0) (h3 : xs 3 = 0) (h2 : xs 2 = 1) : zDone xs := by
  refine ⟨(((((((zH0.set 37 (.inr (.inr (.inr (3, [.ref 44, .ref 6, .ref 76, .ref 78, .ref 80, .ref 88, .int 1, .int 0, .ref 96, .int 0, .int 0, .int 0, .ref 98, .ref 100, .int 0]))))).set 40 (.inr (.inr (.inr (6, [.int 1, .long 70644700037184, .int 0, .ref 82, .ref 84, .ref 86]))))).set 43 (.inr (.inl (16, [70644700037184])))).set 106 (.inl (2, 2, [1, 0]))).set 105 (.inl (0, 2, [0]))).set 107 (.inl (0, 132, [0, 0, 0, 0, 0, 0]))).set 109 (.inl (0, 22, [0]))), 117, 29934, ?_, by decide, by decide⟩
  refine zT_gos (f := 200000) (pc2 := 37) (ls2 := [(4, .int 0), (3, .ref 232), (2, .ref 162), (1, .ref 0), (0, .ref 11)]) (st2 := [.int (xs 0)]) (h2 := zH0) (dc2 := 117) (ds2 := 29934) 9 rfl ?_
  refine zT_gos (f := 200000) (pc2 := 40) (ls2 := [(4, .int 0), (3, .ref 232), (2, .ref 162), (1, .ref 0), (0, .ref 11)]) (st2 := [.int ((xs 0) &&& (63 : Int32))]) (h2 := zH0) (dc2 := 117) (ds2 := 29934) 2 rfl ?_
  refine zT_val h0 ?_
  refine zT_gos (f := 200000) (pc2 := 1169) (ls2 := [(4, .int 0), (3, .ref 232), (2, .ref 162), (1, .ref 0), (0, .ref 11)]) (st2 := [.int (xs 1), .ref 0]) (h2 := zH0) (dc2 := 117) (ds2 := 29934) 7 rfl ?_
  refine zT_val h1 ?_
  refine zT_gos (f := 200000) (pc2 := 1183) (ls2 := [(4, .int 0), (3, .ref 232), (2, .ref 162), (1, .ref 0), (0, .ref 11)]) (st2 := [.int (xs 2), .int 0, .ref 0]) (h2 := zH0) (dc2 := 117) (ds2 := 29934) 7 rfl ?_
  refine zT_val h2 ?_
  refine zT_gos (f := 200000) (pc2 := 1189) (ls2 := [(4, .int 0), (3, .ref 232), (2, .ref 162), (1, .ref 0), (0, .ref 11)]) (st2 := [.int (xs 3), .int 1, .int 0, .ref 0]) (h2 := zH0) (dc2 := 117) (ds2 := 29934) 5 rfl ?_
  refine zT_val h3 ?_
  refine zT_gos (f := 200000) (pc2 := 1197) (ls2 := [(4, .int 0), (3, .ref 232), (2, .ref 162), (1, .ref 0), (0, .ref 11)]) (st2 := [.int 0, .int 1, .int 0, .ref 0]) (h2 := zH0) (dc2 := 117) (ds2 := 29934) 2 rfl ?_
  refine zT_call rfl rfl (zT_le (zg0_le 6 xs) zk_o_68) ?_
  refine zT_here (pc2 := 1200) rfl ?_
  refine zT_gos (f := 200000) (pc2 := 1207) (ls2 := [(4, .int 0), (3, .ref 232), (2, .ref 162), (1, .ref 0), (0, .ref 11)]) (st2 := [.int (xs 1), .ref 162, .int 0]) (h2 := (((zH0.set 37 (.inr (.inr (.inr (3, [.ref 44, .ref 6, .ref 76, .ref 78, .ref 80, .ref 88, .int 1, .int 0, .ref 96, .int 0, .int 0, .int 0, .ref 98, .ref 100, .int 0]))))).set 40 (.inr (.inr (.inr (6, [.int 1, .long 70644700037184, .int 0, .ref 82, .ref 84, .ref 86]))))).set 43 (.inr (.inl (16, [70644700037184]))))) (dc2 := 117) (ds2 := 29934) 6 rfl ?_
  refine zT_val h1 ?_
  refine zT_gos (f := 200000) (pc2 := 1221) (ls2 := [(4, .int 0), (3, .ref 232), (2, .ref 162), (1, .ref 0), (0, .ref 11)]) (st2 := [.int (xs 2), .int 0, .ref 162, .int 0]) (h2 := (((zH0.set 37 (.inr (.inr (.inr (3, [.ref 44, .ref 6, .ref 76, .ref 78, .ref 80, .ref 88, .int 1, .int 0, .ref 96, .int 0, .int 0, .int 0, .ref 98, .ref 100, .int 0]))))).set 40 (.inr (.inr (.inr (6, [.int 1, .long 70644700037184, .int 0, .ref 82, .ref 84, .ref 86]))))).set 43 (.inr (.inl (16, [70644700037184]))))) (dc2 := 117) (ds2 := 29934) 7 rfl ?_
  refine zT_val h2 ?_
  refine zT_gos (f := 200000) (pc2 := 1227) (ls2 := [(4, .int 0), (3, .ref 232), (2, .ref 162), (1, .ref 0), (0, .ref 11)]) (st2 := [.int (xs 3), .int 1, .int 0, .ref 162, .int 0]) (h2 := (((zH0.set 37 (.inr (.inr (.inr (3, [.ref 44, .ref 6, .ref 76, .ref 78, .ref 80, .ref 88, .int 1, .int 0, .ref 96, .int 0, .int 0, .int 0, .ref 98, .ref 100, .int 0]))))).set 40 (.inr (.inr (.inr (6, [.int 1, .long 70644700037184, .int 0, .ref 82, .ref 84, .ref 86]))))).set 43 (.inr (.inl (16, [70644700037184]))))) (dc2 := 117) (ds2 := 29934) 5 rfl ?_
  refine zT_val h3 ?_
  refine zT_gos (f := 200000) (pc2 := 1235) (ls2 := [(4, .int 0), (3, .ref 232), (2, .ref 162), (1, .ref 0), (0, .ref 11)]) (st2 := [.int 0, .int 1, .int 0, .ref 162, .int 0]) (h2 := (((zH0.set 37 (.inr (.inr (.inr (3, [.ref 44, .ref 6, .ref 76, .ref 78, .ref 80, .ref 88, .int 1, .int 0, .ref 96, .int 0, .int 0, .int 0, .ref 98, .ref 100, .int 0]))))).set 40 (.inr (.inr (.inr (6, [.int 1, .long 70644700037184, .int 0, .ref 82, .ref 84, .ref 86]))))).set 43 (.inr (.inl (16, [70644700037184]))))) (dc2 := 117) (ds2 := 29934) 2 rfl ?_
  refine zT_call rfl rfl (zT_le (zg0_le 6 xs) zk_o_69) ?_
  refine zT_here (pc2 := 1238) rfl ?_
  refine zT_gos (f := 200000) (pc2 := 1811) (ls2 := [(4, .int 6), (3, .ref 232), (2, .ref 162), (1, .ref 0), (0, .ref 11)]) (st2 := [.int 1]) (h2 := (((((((zH0.set 37 (.inr (.inr (.inr (3, [.ref 44, .ref 6, .ref 76, .ref 78, .ref 80, .ref 88, .int 1, .int 0, .ref 96, .int 0, .int 0, .int 0, .ref 98, .ref 100, .int 0]))))).set 40 (.inr (.inr (.inr (6, [.int 1, .long 70644700037184, .int 0, .ref 82, .ref 84, .ref 86]))))).set 43 (.inr (.inl (16, [70644700037184])))).set 106 (.inl (2, 2, [1, 0]))).set 105 (.inl (0, 2, [0]))).set 107 (.inl (0, 132, [0, 0, 0, 0, 0, 0]))).set 109 (.inl (0, 22, [0])))) (dc2 := 117) (ds2 := 29934) 10 rfl ?_
  exact zT_ret rfl rfl
set_option maxRecDepth 1000000 in
theorem zk_o_70 : zT zg0 zF zP 126 0 [(0, .ref 0), (1, .int 0), (2, .int 2), (3, .int 0)] [] zH0 0 0 (some (.int 0), (((zH0.set 37 (.inr (.inr (.inr (3, [.ref 44, .ref 6, .ref 76, .ref 78, .ref 80, .ref 88, .int 1, .int 0, .ref 96, .int 0, .int 0, .int 0, .ref 98, .ref 100, .int 0]))))).set 40 (.inr (.inr (.inr (6, [.int 1, .long 70644700037184, .int 0, .ref 82, .ref 84, .ref 86]))))).set 43 (.inr (.inl (16, [70644700037184])))), 0, 0) := zclosed (n := 129) (by decide +kernel)
set_option maxRecDepth 1000000 in
theorem zk_o_71 : zT zg0 zF zP 257 0 [(0, .ref 162), (1, .int 0), (2, .int 2), (3, .int 0)] [] (((zH0.set 37 (.inr (.inr (.inr (3, [.ref 44, .ref 6, .ref 76, .ref 78, .ref 80, .ref 88, .int 1, .int 0, .ref 96, .int 0, .int 0, .int 0, .ref 98, .ref 100, .int 0]))))).set 40 (.inr (.inr (.inr (6, [.int 1, .long 70644700037184, .int 0, .ref 82, .ref 84, .ref 86]))))).set 43 (.inr (.inl (16, [70644700037184])))) 0 0 (some (.int 0), (((((((zH0.set 37 (.inr (.inr (.inr (3, [.ref 44, .ref 6, .ref 76, .ref 78, .ref 80, .ref 88, .int 1, .int 0, .ref 96, .int 0, .int 0, .int 0, .ref 98, .ref 100, .int 0]))))).set 40 (.inr (.inr (.inr (6, [.int 1, .long 70644700037184, .int 0, .ref 82, .ref 84, .ref 86]))))).set 43 (.inr (.inl (16, [70644700037184])))).set 106 (.inl (2, 2, [1, 0]))).set 105 (.inl (0, 2, [0]))).set 107 (.inl (0, 132, [0, 0, 0, 0, 0, 0]))).set 109 (.inl (0, 22, [0]))), 0, 0) := zclosed (n := 221) (by decide +kernel)
set_option maxRecDepth 1000000 in
set_option maxHeartbeats 4000000 in
theorem zo_25_4 (xs : Nat → Int32) (h0 : xs 0 &&& 63 = 25) (h1 : xs 1 = 0) (h3 : xs 3 = 0) (h2 : xs 2 = 2) : zDone xs := by
  refine ⟨(((((((zH0.set 37 (.inr (.inr (.inr (3, [.ref 44, .ref 6, .ref 76, .ref 78, .ref 80, .ref 88, .int 1, .int 0, .ref 96, .int 0, .int 0, .int 0, .ref 98, .ref 100, .int 0]))))).set 40 (.inr (.inr (.inr (6, [.int 1, .long 70644700037184, .int 0, .ref 82, .ref 84, .ref 86]))))).set 43 (.inr (.inl (16, [70644700037184])))).set 106 (.inl (2, 2, [1, 0]))).set 105 (.inl (0, 2, [0]))).set 107 (.inl (0, 132, [0, 0, 0, 0, 0, 0]))).set 109 (.inl (0, 22, [0]))), 117, 29934, ?_, by decide, by decide⟩
  refine zT_gos (f := 200000) (pc2 := 37) (ls2 := [(4, .int 0), (3, .ref 232), (2, .ref 162), (1, .ref 0), (0, .ref 11)]) (st2 := [.int (xs 0)]) (h2 := zH0) (dc2 := 117) (ds2 := 29934) 9 rfl ?_
  refine zT_gos (f := 200000) (pc2 := 40) (ls2 := [(4, .int 0), (3, .ref 232), (2, .ref 162), (1, .ref 0), (0, .ref 11)]) (st2 := [.int ((xs 0) &&& (63 : Int32))]) (h2 := zH0) (dc2 := 117) (ds2 := 29934) 2 rfl ?_
  refine zT_val h0 ?_
  refine zT_gos (f := 200000) (pc2 := 1169) (ls2 := [(4, .int 0), (3, .ref 232), (2, .ref 162), (1, .ref 0), (0, .ref 11)]) (st2 := [.int (xs 1), .ref 0]) (h2 := zH0) (dc2 := 117) (ds2 := 29934) 7 rfl ?_
  refine zT_val h1 ?_
  refine zT_gos (f := 200000) (pc2 := 1183) (ls2 := [(4, .int 0), (3, .ref 232), (2, .ref 162), (1, .ref 0), (0, .ref 11)]) (st2 := [.int (xs 2), .int 0, .ref 0]) (h2 := zH0) (dc2 := 117) (ds2 := 29934) 7 rfl ?_
  refine zT_val h2 ?_
  refine zT_gos (f := 200000) (pc2 := 1189) (ls2 := [(4, .int 0), (3, .ref 232), (2, .ref 162), (1, .ref 0), (0, .ref 11)]) (st2 := [.int (xs 3), .int 2, .int 0, .ref 0]) (h2 := zH0) (dc2 := 117) (ds2 := 29934) 5 rfl ?_
  refine zT_val h3 ?_
  refine zT_gos (f := 200000) (pc2 := 1197) (ls2 := [(4, .int 0), (3, .ref 232), (2, .ref 162), (1, .ref 0), (0, .ref 11)]) (st2 := [.int 0, .int 2, .int 0, .ref 0]) (h2 := zH0) (dc2 := 117) (ds2 := 29934) 2 rfl ?_
  refine zT_call rfl rfl (zT_le (zg0_le 6 xs) zk_o_70) ?_
  refine zT_here (pc2 := 1200) rfl ?_
  refine zT_gos (f := 200000) (pc2 := 1207) (ls2 := [(4, .int 0), (3, .ref 232), (2, .ref 162), (1, .ref 0), (0, .ref 11)]) (st2 := [.int (xs 1), .ref 162, .int 0]) (h2 := (((zH0.set 37 (.inr (.inr (.inr (3, [.ref 44, .ref 6, .ref 76, .ref 78, .ref 80, .ref 88, .int 1, .int 0, .ref 96, .int 0, .int 0, .int 0, .ref 98, .ref 100, .int 0]))))).set 40 (.inr (.inr (.inr (6, [.int 1, .long 70644700037184, .int 0, .ref 82, .ref 84, .ref 86]))))).set 43 (.inr (.inl (16, [70644700037184]))))) (dc2 := 117) (ds2 := 29934) 6 rfl ?_
  refine zT_val h1 ?_
  refine zT_gos (f := 200000) (pc2 := 1221) (ls2 := [(4, .int 0), (3, .ref 232), (2, .ref 162), (1, .ref 0), (0, .ref 11)]) (st2 := [.int (xs 2), .int 0, .ref 162, .int 0]) (h2 := (((zH0.set 37 (.inr (.inr (.inr (3, [.ref 44, .ref 6, .ref 76, .ref 78, .ref 80, .ref 88, .int 1, .int 0, .ref 96, .int 0, .int 0, .int 0, .ref 98, .ref 100, .int 0]))))).set 40 (.inr (.inr (.inr (6, [.int 1, .long 70644700037184, .int 0, .ref 82, .ref 84, .ref 86]))))).set 43 (.inr (.inl (16, [70644700037184]))))) (dc2 := 117) (ds2 := 29934) 7 rfl ?_
  refine zT_val h2 ?_
  refine zT_gos (f := 200000) (pc2 := 1227) (ls2 := [(4, .int 0), (3, .ref 232), (2, .ref 162), (1, .ref 0), (0, .ref 11)]) (st2 := [.int (xs 3), .int 2, .int 0, .ref 162, .int 0]) (h2 := (((zH0.set 37 (.inr (.inr (.inr (3, [.ref 44, .ref 6, .ref 76, .ref 78, .ref 80, .ref 88, .int 1, .int 0, .ref 96, .int 0, .int 0, .int 0, .ref 98, .ref 100, .int 0]))))).set 40 (.inr (.inr (.inr (6, [.int 1, .long 70644700037184, .int 0, .ref 82, .ref 84, .ref 86]))))).set 43 (.inr (.inl (16, [70644700037184]))))) (dc2 := 117) (ds2 := 29934) 5 rfl ?_
  refine zT_val h3 ?_
  refine zT_gos (f := 200000) (pc2 := 1235) (ls2 := [(4, .int 0), (3, .ref 232), (2, .ref 162), (1, .ref 0), (0, .ref 11)]) (st2 := [.int 0, .int 2, .int 0, .ref 162, .int 0]) (h2 := (((zH0.set 37 (.inr (.inr (.inr (3, [.ref 44, .ref 6, .ref 76, .ref 78, .ref 80, .ref 88, .int 1, .int 0, .ref 96, .int 0, .int 0, .int 0, .ref 98, .ref 100, .int 0]))))).set 40 (.inr (.inr (.inr (6, [.int 1, .long 70644700037184, .int 0, .ref 82, .ref 84, .ref 86]))))).set 43 (.inr (.inl (16, [70644700037184]))))) (dc2 := 117) (ds2 := 29934) 2 rfl ?_
  refine zT_call rfl rfl (zT_le (zg0_le 6 xs) zk_o_71) ?_
  refine zT_here (pc2 := 1238) rfl ?_
  refine zT_gos (f := 200000) (pc2 := 1811) (ls2 := [(4, .int 6), (3, .ref 232), (2, .ref 162), (1, .ref 0), (0, .ref 11)]) (st2 := [.int 1]) (h2 := (((((((zH0.set 37 (.inr (.inr (.inr (3, [.ref 44, .ref 6, .ref 76, .ref 78, .ref 80, .ref 88, .int 1, .int 0, .ref 96, .int 0, .int 0, .int 0, .ref 98, .ref 100, .int 0]))))).set 40 (.inr (.inr (.inr (6, [.int 1, .long 70644700037184, .int 0, .ref 82, .ref 84, .ref 86]))))).set 43 (.inr (.inl (16, [70644700037184])))).set 106 (.inl (2, 2, [1, 0]))).set 105 (.inl (0, 2, [0]))).set 107 (.inl (0, 132, [0, 0, 0, 0, 0, 0]))).set 109 (.inl (0, 22, [0])))) (dc2 := 117) (ds2 := 29934) 10 rfl ?_
  exact zT_ret rfl rfl
set_option maxRecDepth 1000000 in
theorem zk_o_72 : zT zg0 zF zP 126 0 [(0, .ref 0), (1, .int 0), (2, .int 3), (3, .int 0)] [] zH0 0 0 (some (.int 0), (((zH0.set 37 (.inr (.inr (.inr (3, [.ref 44, .ref 6, .ref 76, .ref 78, .ref 80, .ref 88, .int 1, .int 0, .ref 96, .int 0, .int 0, .int 0, .ref 98, .ref 100, .int 0]))))).set 40 (.inr (.inr (.inr (6, [.int 1, .long 70644700037184, .int 0, .ref 82, .ref 84, .ref 86]))))).set 43 (.inr (.inl (16, [70644700037184])))), 0, 0) := zclosed (n := 129) (by decide +kernel)
set_option maxRecDepth 1000000 in
theorem zk_o_73 : zT zg0 zF zP 257 0 [(0, .ref 162), (1, .int 0), (2, .int 3), (3, .int 0)] [] (((zH0.set 37 (.inr (.inr (.inr (3, [.ref 44, .ref 6, .ref 76, .ref 78, .ref 80, .ref 88, .int 1, .int 0, .ref 96, .int 0, .int 0, .int 0, .ref 98, .ref 100, .int 0]))))).set 40 (.inr (.inr (.inr (6, [.int 1, .long 70644700037184, .int 0, .ref 82, .ref 84, .ref 86]))))).set 43 (.inr (.inl (16, [70644700037184])))) 0 0 (some (.int 0), (((((((zH0.set 37 (.inr (.inr (.inr (3, [.ref 44, .ref 6, .ref 76, .ref 78, .ref 80, .ref 88, .int 1, .int 0, .ref 96, .int 0, .int 0, .int 0, .ref 98, .ref 100, .int 0]))))).set 40 (.inr (.inr (.inr (6, [.int 1, .long 70644700037184, .int 0, .ref 82, .ref 84, .ref 86]))))).set 43 (.inr (.inl (16, [70644700037184])))).set 106 (.inl (2, 2, [1, 0]))).set 105 (.inl (0, 2, [0]))).set 107 (.inl (0, 132, [0, 0, 0, 0, 0, 0]))).set 109 (.inl (0, 22, [0]))), 0, 0) := zclosed (n := 221) (by decide +kernel)
set_option maxRecDepth 1000000 in
set_option maxHeartbeats 4000000 in
theorem zo_25_5 (xs : Nat → Int32) (h0 : xs 0 &&& 63 = 25) (h1 : xs 1 = 0) (h3 : xs 3 = 0) (h2 : xs 2 = 3) : zDone xs := by
  refine ⟨(((((((zH0.set 37 (.inr (.inr (.inr (3, [.ref 44, .ref 6, .ref 76, .ref 78, .ref 80, .ref 88, .int 1, .int 0, .ref 96, .int 0, .int 0, .int 0, .ref 98, .ref 100, .int 0]))))).set 40 (.inr (.inr (.inr (6, [.int 1, .long 70644700037184, .int 0, .ref 82, .ref 84, .ref 86]))))).set 43 (.inr (.inl (16, [70644700037184])))).set 106 (.inl (2, 2, [1, 0]))).set 105 (.inl (0, 2, [0]))).set 107 (.inl (0, 132, [0, 0, 0, 0, 0, 0]))).set 109 (.inl (0, 22, [0]))), 117, 29934, ?_, by decide, by decide⟩
  refine zT_gos (f := 200000) (pc2 := 37) (ls2 := [(4, .int 0), (3, .ref 232), (2, .ref 162), (1, .ref 0), (0, .ref 11)]) (st2 := [.int (xs 0)]) (h2 := zH0) (dc2 := 117) (ds2 := 29934) 9 rfl ?_
  refine zT_gos (f := 200000) (pc2 := 40) (ls2 := [(4, .int 0), (3, .ref 232), (2, .ref 162), (1, .ref 0), (0, .ref 11)]) (st2 := [.int ((xs 0) &&& (63 : Int32))]) (h2 := zH0) (dc2 := 117) (ds2 := 29934) 2 rfl ?_
  refine zT_val h0 ?_
  refine zT_gos (f := 200000) (pc2 := 1169) (ls2 := [(4, .int 0), (3, .ref 232), (2, .ref 162), (1, .ref 0), (0, .ref 11)]) (st2 := [.int (xs 1), .ref 0]) (h2 := zH0) (dc2 := 117) (ds2 := 29934) 7 rfl ?_
  refine zT_val h1 ?_
  refine zT_gos (f := 200000) (pc2 := 1183) (ls2 := [(4, .int 0), (3, .ref 232), (2, .ref 162), (1, .ref 0), (0, .ref 11)]) (st2 := [.int (xs 2), .int 0, .ref 0]) (h2 := zH0) (dc2 := 117) (ds2 := 29934) 7 rfl ?_
  refine zT_val h2 ?_
  refine zT_gos (f := 200000) (pc2 := 1189) (ls2 := [(4, .int 0), (3, .ref 232), (2, .ref 162), (1, .ref 0), (0, .ref 11)]) (st2 := [.int (xs 3), .int 3, .int 0, .ref 0]) (h2 := zH0) (dc2 := 117) (ds2 := 29934) 5 rfl ?_
  refine zT_val h3 ?_
  refine zT_gos (f := 200000) (pc2 := 1197) (ls2 := [(4, .int 0), (3, .ref 232), (2, .ref 162), (1, .ref 0), (0, .ref 11)]) (st2 := [.int 0, .int 3, .int 0, .ref 0]) (h2 := zH0) (dc2 := 117) (ds2 := 29934) 2 rfl ?_
  refine zT_call rfl rfl (zT_le (zg0_le 6 xs) zk_o_72) ?_
  refine zT_here (pc2 := 1200) rfl ?_
  refine zT_gos (f := 200000) (pc2 := 1207) (ls2 := [(4, .int 0), (3, .ref 232), (2, .ref 162), (1, .ref 0), (0, .ref 11)]) (st2 := [.int (xs 1), .ref 162, .int 0]) (h2 := (((zH0.set 37 (.inr (.inr (.inr (3, [.ref 44, .ref 6, .ref 76, .ref 78, .ref 80, .ref 88, .int 1, .int 0, .ref 96, .int 0, .int 0, .int 0, .ref 98, .ref 100, .int 0]))))).set 40 (.inr (.inr (.inr (6, [.int 1, .long 70644700037184, .int 0, .ref 82, .ref 84, .ref 86]))))).set 43 (.inr (.inl (16, [70644700037184]))))) (dc2 := 117) (ds2 := 29934) 6 rfl ?_
  refine zT_val h1 ?_
  refine zT_gos (f := 200000) (pc2 := 1221) (ls2 := [(4, .int 0), (3, .ref 232), (2, .ref 162), (1, .ref 0), (0, .ref 11)]) (st2 := [.int (xs 2), .int 0, .ref 162, .int 0]) (h2 := (((zH0.set 37 (.inr (.inr (.inr (3, [.ref 44, .ref 6, .ref 76, .ref 78, .ref 80, .ref 88, .int 1, .int 0, .ref 96, .int 0, .int 0, .int 0, .ref 98, .ref 100, .int 0]))))).set 40 (.inr (.inr (.inr (6, [.int 1, .long 70644700037184, .int 0, .ref 82, .ref 84, .ref 86]))))).set 43 (.inr (.inl (16, [70644700037184]))))) (dc2 := 117) (ds2 := 29934) 7 rfl ?_
  refine zT_val h2 ?_
  refine zT_gos (f := 200000) (pc2 := 1227) (ls2 := [(4, .int 0), (3, .ref 232), (2, .ref 162), (1, .ref 0), (0, .ref 11)]) (st2 := [.int (xs 3), .int 3, .int 0, .ref 162, .int 0]) (h2 := (((zH0.set 37 (.inr (.inr (.inr (3, [.ref 44, .ref 6, .ref 76, .ref 78, .ref 80, .ref 88, .int 1, .int 0, .ref 96, .int 0, .int 0, .int 0, .ref 98, .ref 100, .int 0]))))).set 40 (.inr (.inr (.inr (6, [.int 1, .long 70644700037184, .int 0, .ref 82, .ref 84, .ref 86]))))).set 43 (.inr (.inl (16, [70644700037184]))))) (dc2 := 117) (ds2 := 29934) 5 rfl ?_
  refine zT_val h3 ?_
  refine zT_gos (f := 200000) (pc2 := 1235) (ls2 := [(4, .int 0), (3, .ref 232), (2, .ref 162), (1, .ref 0), (0, .ref 11)]) (st2 := [.int 0, .int 3, .int 0, .ref 162, .int 0]) (h2 := (((zH0.set 37 (.inr (.inr (.inr (3, [.ref 44, .ref 6, .ref 76, .ref 78, .ref 80, .ref 88, .int 1, .int 0, .ref 96, .int 0, .int 0, .int 0, .ref 98, .ref 100, .int 0]))))).set 40 (.inr (.inr (.inr (6, [.int 1, .long 70644700037184, .int 0, .ref 82, .ref 84, .ref 86]))))).set 43 (.inr (.inl (16, [70644700037184]))))) (dc2 := 117) (ds2 := 29934) 2 rfl ?_
  refine zT_call rfl rfl (zT_le (zg0_le 6 xs) zk_o_73) ?_
  refine zT_here (pc2 := 1238) rfl ?_
  refine zT_gos (f := 200000) (pc2 := 1811) (ls2 := [(4, .int 6), (3, .ref 232), (2, .ref 162), (1, .ref 0), (0, .ref 11)]) (st2 := [.int 1]) (h2 := (((((((zH0.set 37 (.inr (.inr (.inr (3, [.ref 44, .ref 6, .ref 76, .ref 78, .ref 80, .ref 88, .int 1, .int 0, .ref 96, .int 0, .int 0, .int 0, .ref 98, .ref 100, .int 0]))))).set 40 (.inr (.inr (.inr (6, [.int 1, .long 70644700037184, .int 0, .ref 82, .ref 84, .ref 86]))))).set 43 (.inr (.inl (16, [70644700037184])))).set 106 (.inl (2, 2, [1, 0]))).set 105 (.inl (0, 2, [0]))).set 107 (.inl (0, 132, [0, 0, 0, 0, 0, 0]))).set 109 (.inl (0, 22, [0])))) (dc2 := 117) (ds2 := 29934) 10 rfl ?_
  exact zT_ret rfl rfl
set_option maxRecDepth 1000000 in
theorem zk_o_74 : zT zg0 zF zP 126 0 [(0, .ref 0), (1, .int 0), (2, .int 4), (3, .int 0)] [] zH0 0 0 (some (.int 0), (((zH0.set 37 (.inr (.inr (.inr (3, [.ref 44, .ref 6, .ref 76, .ref 78, .ref 80, .ref 88, .int 1, .int 0, .ref 96, .int 0, .int 0, .int 0, .ref 98, .ref 100, .int 0]))))).set 40 (.inr (.inr (.inr (6, [.int 1, .long 70644700037184, .int 0, .ref 82, .ref 84, .ref 86]))))).set 43 (.inr (.inl (16, [70644700037184])))), 0, 0) := zclosed (n := 129) (by decide +kernel)
set_option maxRecDepth 1000000 in
theorem zk_o_75 : zT zg0 zF zP 257 0 [(0, .ref 162), (1, .int 0), (2, .int 4), (3, .int 0)] [] (((zH0.set 37 (.inr (.inr (.inr (3, [.ref 44, .ref 6, .ref 76, .ref 78, .ref 80, .ref 88, .int 1, .int 0, .ref 96, .int 0, .int 0, .int 0, .ref 98, .ref 100, .int 0]))))).set 40 (.inr (.inr (.inr (6, [.int 1, .long 70644700037184, .int 0, .ref 82, .ref 84, .ref 86]))))).set 43 (.inr (.inl (16, [70644700037184])))) 0 0 (some (.int 0), (((((((zH0.set 37 (.inr (.inr (.inr (3, [.ref 44, .ref 6, .ref 76, .ref 78, .ref 80, .ref 88, .int 1, .int 0, .ref 96, .int 0, .int 0, .int 0, .ref 98, .ref 100, .int 0]))))).set 40 (.inr (.inr (.inr (6, [.int 1, .long 70644700037184, .int 0, .ref 82, .ref 84, .ref 86]))))).set 43 (.inr (.inl (16, [70644700037184])))).set 106 (.inl (2, 2, [1, 0]))).set 105 (.inl (0, 2, [0]))).set 107 (.inl (0, 132, [0, 0, 0, 0, 0, 0]))).set 109 (.inl (0, 22, [0]))), 0, 0) := zclosed (n := 221) (by decide +kernel)
set_option maxRecDepth 1000000 in
set_option maxHeartbeats 4000000 in
theorem zo_25_6 (xs : Nat → Int32) (h0 : xs 0 &&& 63 = 25) (h1 : xs 1 = 0) (h3 : xs 3 = 0) (h2 : xs 2 = 4) : zDone xs := by
  refine ⟨(((((((zH0.set 37 (.inr (.inr (.inr (3, [.ref 44, .ref 6, .ref 76, .ref 78, .ref 80, .ref 88, .int 1, .int 0, .ref 96, .int 0, .int 0, .int 0, .ref 98, .ref 100, .int 0]))))).set 40 (.inr (.inr (.inr (6, [.int 1, .long 70644700037184, .int 0, .ref 82, .ref 84, .ref 86]))))).set 43 (.inr (.inl (16, [70644700037184])))).set 106 (.inl (2, 2, [1, 0]))).set 105 (.inl (0, 2, [0]))).set 107 (.inl (0, 132, [0, 0, 0, 0, 0, 0]))).set 109 (.inl (0, 22, [0]))), 117, 29934, ?_, by decide, by decide⟩
  refine zT_gos (f := 200000) (pc2 := 37) (ls2 := [(4, .int 0), (3, .ref 232), (2, .ref 162), (1, .ref 0), (0, .ref 11)]) (st2 := [.int (xs 0)]) (h2 := zH0) (dc2 := 117) (ds2 := 29934) 9 rfl ?_
  refine zT_gos (f := 200000) (pc2 := 40) (ls2 := [(4, .int 0), (3, .ref 232), (2, .ref 162), (1, .ref 0), (0, .ref 11)]) (st2 := [.int ((xs 0) &&& (63 : Int32))]) (h2 := zH0) (dc2 := 117) (ds2 := 29934) 2 rfl ?_
  refine zT_val h0 ?_
  refine zT_gos (f := 200000) (pc2 := 1169) (ls2 := [(4, .int 0), (3, .ref 232), (2, .ref 162), (1, .ref 0), (0, .ref 11)]) (st2 := [.int (xs 1), .ref 0]) (h2 := zH0) (dc2 := 117) (ds2 := 29934) 7 rfl ?_
  refine zT_val h1 ?_
  refine zT_gos (f := 200000) (pc2 := 1183) (ls2 := [(4, .int 0), (3, .ref 232), (2, .ref 162), (1, .ref 0), (0, .ref 11)]) (st2 := [.int (xs 2), .int 0, .ref 0]) (h2 := zH0) (dc2 := 117) (ds2 := 29934) 7 rfl ?_
  refine zT_val h2 ?_
  refine zT_gos (f := 200000) (pc2 := 1189) (ls2 := [(4, .int 0), (3, .ref 232), (2, .ref 162), (1, .ref 0), (0, .ref 11)]) (st2 := [.int (xs 3), .int 4, .int 0, .ref 0]) (h2 := zH0) (dc2 := 117) (ds2 := 29934) 5 rfl ?_
  refine zT_val h3 ?_
  refine zT_gos (f := 200000) (pc2 := 1197) (ls2 := [(4, .int 0), (3, .ref 232), (2, .ref 162), (1, .ref 0), (0, .ref 11)]) (st2 := [.int 0, .int 4, .int 0, .ref 0]) (h2 := zH0) (dc2 := 117) (ds2 := 29934) 2 rfl ?_
  refine zT_call rfl rfl (zT_le (zg0_le 6 xs) zk_o_74) ?_
  refine zT_here (pc2 := 1200) rfl ?_
  refine zT_gos (f := 200000) (pc2 := 1207) (ls2 := [(4, .int 0), (3, .ref 232), (2, .ref 162), (1, .ref 0), (0, .ref 11)]) (st2 := [.int (xs 1), .ref 162, .int 0]) (h2 := (((zH0.set 37 (.inr (.inr (.inr (3, [.ref 44, .ref 6, .ref 76, .ref 78, .ref 80, .ref 88, .int 1, .int 0, .ref 96, .int 0, .int 0, .int 0, .ref 98, .ref 100, .int 0]))))).set 40 (.inr (.inr (.inr (6, [.int 1, .long 70644700037184, .int 0, .ref 82, .ref 84, .ref 86]))))).set 43 (.inr (.inl (16, [70644700037184]))))) (dc2 := 117) (ds2 := 29934) 6 rfl ?_
  refine zT_val h1 ?_
  refine zT_gos (f := 200000) (pc2 := 1221) (ls2 := [(4, .int 0), (3, .ref 232), (2, .ref 162), (1, .ref 0), (0, .ref 11)]) (st2 := [.int (xs 2), .int 0, .ref 162, .int 0]) (h2 := (((zH0.set 37 (.inr (.inr (.inr (3, [.ref 44, .ref 6, .ref 76, .ref 78, .ref 80, .ref 88, .int 1, .int 0, .ref 96, .int 0, .int 0, .int 0, .ref 98, .ref 100, .int 0]))))).set 40 (.inr (.inr (.inr (6, [.int 1, .long 70644700037184, .int 0, .ref 82, .ref 84, .ref 86]))))).set 43 (.inr (.inl (16, [70644700037184]))))) (dc2 := 117) (ds2 := 29934) 7 rfl ?_
  refine zT_val h2 ?_
  refine zT_gos (f := 200000) (pc2 := 1227) (ls2 := [(4, .int 0), (3, .ref 232), (2, .ref 162), (1, .ref 0), (0, .ref 11)]) (st2 := [.int (xs 3), .int 4, .int 0, .ref 162, .int 0]) (h2 := (((zH0.set 37 (.inr (.inr (.inr (3, [.ref 44, .ref 6, .ref 76, .ref 78, .ref 80, .ref 88, .int 1, .int 0, .ref 96, .int 0, .int 0, .int 0, .ref 98, .ref 100, .int 0]))))).set 40 (.inr (.inr (.inr (6, [.int 1, .long 70644700037184, .int 0, .ref 82, .ref 84, .ref 86]))))).set 43 (.inr (.inl (16, [70644700037184]))))) (dc2 := 117) (ds2 := 29934) 5 rfl ?_
  refine zT_val h3 ?_
  refine zT_gos (f := 200000) (pc2 := 1235) (ls2 := [(4, .int 0), (3, .ref 232), (2, .ref 162), (1, .ref 0), (0, .ref 11)]) (st2 := [.int 0, .int 4, .int 0, .ref 162, .int 0]) (h2 := (((zH0.set 37 (.inr (.inr (.inr (3, [.ref 44, .ref 6, .ref 76, .ref 78, .ref 80, .ref 88, .int 1, .int 0, .ref 96, .int 0, .int 0, .int 0, .ref 98, .ref 100, .int 0]))))).set 40 (.inr (.inr (.inr (6, [.int 1, .long 70644700037184, .int 0, .ref 82, .ref 84, .ref 86]))))).set 43 (.inr (.inl (16, [70644700037184]))))) (dc2 := 117) (ds2 := 29934) 2 rfl ?_
  refine zT_call rfl rfl (zT_le (zg0_le 6 xs) zk_o_75) ?_
  refine zT_here (pc2 := 1238) rfl ?_
  refine zT_gos (f := 200000) (pc2 := 1811) (ls2 := [(4, .int 6), (3, .ref 232), (2, .ref 162), (1, .ref 0), (0, .ref 11)]) (st2 := [.int 1]) (h2 := (((((((zH0.set 37 (.inr (.inr (.inr (3, [.ref 44, .ref 6, .ref 76, .ref 78, .ref 80, .ref 88, .int 1, .int 0, .ref 96, .int 0, .int 0, .int 0, .ref 98, .ref 100, .int 0]))))).set 40 (.inr (.inr (.inr (6, [.int 1, .long 70644700037184, .int 0, .ref 82, .ref 84, .ref 86]))))).set 43 (.inr (.inl (16, [70644700037184])))).set 106 (.inl (2, 2, [1, 0]))).set 105 (.inl (0, 2, [0]))).set 107 (.inl (0, 132, [0, 0, 0, 0, 0, 0]))).set 109 (.inl (0, 22, [0])))) (dc2 := 117) (ds2 := 29934) 10 rfl ?_
  exact zT_ret rfl rfl
set_option maxRecDepth 1000000 in
theorem zk_o_76 : zT zg0 zF zP 126 0 [(0, .ref 0), (1, .int 0), (2, .int 5), (3, .int 0)] [] zH0 0 0 (some (.int 0), (((zH0.set 37 (.inr (.inr (.inr (3, [.ref 44, .ref 6, .ref 76, .ref 78, .ref 80, .ref 88, .int 1, .int 0, .ref 96, .int 0, .int 0, .int 0, .ref 98, .ref 100, .int 0]))))).set 40 (.inr (.inr (.inr (6, [.int 1, .long 70644700037184, .int 0, .ref 82, .ref 84, .ref 86]))))).set 43 (.inr (.inl (16, [70644700037184])))), 0, 0) := zclosed (n := 129) (by decide +kernel)
set_option maxRecDepth 1000000 in
theorem zk_o_77 : zT zg0 zF zP 257 0 [(0, .ref 162), (1, .int 0), (2, .int 5), (3, .int 0)] [] (((zH0.set 37 (.inr (.inr (.inr (3, [.ref 44, .ref 6, .ref 76, .ref 78, .ref 80, .ref 88, .int 1, .int 0, .ref 96, .int 0, .int 0, .int 0, .ref 98, .ref 100, .int 0]))))).set 40 (.inr (.inr (.inr (6, [.int 1, .long 70644700037184, .int 0, .ref 82, .ref 84, .ref 86]))))).set 43 (.inr (.inl (16, [70644700037184])))) 0 0 (some (.int 0), (((((((zH0.set 37 (.inr (.inr (.inr (3, [.ref 44, .ref 6, .ref 76, .ref 78, .ref 80, .ref 88, .int 1, .int 0, .ref 96, .int 0, .int 0, .int 0, .ref 98, .ref 100, .int 0]))))).set 40 (.inr (.inr (.inr (6, [.int 1, .long 70644700037184, .int 0, .ref 82, .ref 84, .ref 86]))))).set 43 (.inr (.inl (16, [70644700037184])))).set 106 (.inl (2, 2, [1, 0]))).set 105 (.inl (0, 2, [0]))).set 107 (.inl (0, 132, [0, 0, 0, 0, 0, 0]))).set 109 (.inl (0, 22, [0]))), 0, 0) := zclosed (n := 221) (by decide +kernel)
set_option maxRecDepth 1000000 in
set_option maxHeartbeats 4000000 in
theorem zo_25_7 (xs : Nat → Int32) (h0 : xs 0 &&& 63 = 25) (h1 : xs 1 = 0) (h3 : xs 3 = 0) (h2 : xs 2 = 5) : zDone xs := by
  refine ⟨(((((((zH0.set 37 (.inr (.inr (.inr (3, [.ref 44, .ref 6, .ref 76, .ref 78, .ref 80, .ref 88, .int 1, .int 0, .ref 96, .int 0, .int 0, .int 0, .ref 98, .ref 100, .int 0]))))).set 40 (.inr (.inr (.inr (6, [.int 1, .long 70644700037184, .int 0, .ref 82, .ref 84, .ref 86]))))).set 43 (.inr (.inl (16, [70644700037184])))).set 106 (.inl (2, 2, [1, 0]))).set 105 (.inl (0, 2, [0]))).set 107 (.inl (0, 132, [0, 0, 0, 0, 0, 0]))).set 109 (.inl (0, 22, [0]))), 117, 29934, ?_, by decide, by decide⟩
  refine zT_gos (f := 200000) (pc2 := 37) (ls2 := [(4, .int 0), (3, .ref 232), (2, .ref 162), (1, .ref 0), (0, .ref 11)]) (st2 := [.int (xs 0)]) (h2 := zH0) (dc2 := 117) (ds2 := 29934) 9 rfl ?_
  refine zT_gos (f := 200000) (pc2 := 40) (ls2 := [(4, .int 0), (3, .ref 232), (2, .ref 162), (1, .ref 0), (0, .ref 11)]) (st2 := [.int ((xs 0) &&& (63 : Int32))]) (h2 := zH0) (dc2 := 117) (ds2 := 29934) 2 rfl ?_
  refine zT_val h0 ?_
  refine zT_gos (f := 200000) (pc2 := 1169) (ls2 := [(4, .int 0), (3, .ref 232), (2, .ref 162), (1, .ref 0), (0, .ref 11)]) (st2 := [.int (xs 1), .ref 0]) (h2 := zH0) (dc2 := 117) (ds2 := 29934) 7 rfl ?_
  refine zT_val h1 ?_
  refine zT_gos (f := 200000) (pc2 := 1183) (ls2 := [(4, .int 0), (3, .ref 232), (2, .ref 162), (1, .ref 0), (0, .ref 11)]) (st2 := [.int (xs 2), .int 0, .ref 0]) (h2 := zH0) (dc2 := 117) (ds2 := 29934) 7 rfl ?_
  refine zT_val h2 ?_
  refine zT_gos (f := 200000) (pc2 := 1189) (ls2 := [(4, .int 0), (3, .ref 232), (2, .ref 162), (1, .ref 0), (0, .ref 11)]) (st2 := [.int (xs 3), .int 5, .int 0, .ref 0]) (h2 := zH0) (dc2 := 117) (ds2 := 29934) 5 rfl ?_
  refine zT_val h3 ?_
  refine zT_gos (f := 200000) (pc2 := 1197) (ls2 := [(4, .int 0), (3, .ref 232), (2, .ref 162), (1, .ref 0), (0, .ref 11)]) (st2 := [.int 0, .int 5, .int 0, .ref 0]) (h2 := zH0) (dc2 := 117) (ds2 := 29934) 2 rfl ?_
  refine zT_call rfl rfl (zT_le (zg0_le 6 xs) zk_o_76) ?_
  refine zT_here (pc2 := 1200) rfl ?_
  refine zT_gos (f := 200000) (pc2 := 1207) (ls2 := [(4, .int 0), (3, .ref 232), (2, .ref 162), (1, .ref 0), (0, .ref 11)]) (st2 := [.int (xs 1), .ref 162, .int 0]) (h2 := (((zH0.set 37 (.inr (.inr (.inr (3, [.ref 44, .ref 6, .ref 76, .ref 78, .ref 80, .ref 88, .int 1, .int 0, .ref 96, .int 0, .int 0, .int 0, .ref 98, .ref 100, .int 0]))))).set 40 (.inr (.inr (.inr (6, [.int 1, .long 70644700037184, .int 0, .ref 82, .ref 84, .ref 86]))))).set 43 (.inr (.inl (16, [70644700037184]))))) (dc2 := 117) (ds2 := 29934) 6 rfl ?_
  refine zT_val h1 ?_
  refine zT_gos (f := 200000) (pc2 := 1221) (ls2 := [(4, .int 0), (3, .ref 232), (2, .ref 162), (1, .ref 0), (0, .ref 11)]) (st2 := [.int (xs 2), .int 0, .ref 162, .int 0]) (h2 := (((zH0.set 37 (.inr (.inr (.inr (3, [.ref 44, .ref 6, .ref 76, .ref 78, .ref 80, .ref 88, .int 1, .int 0, .ref 96, .int 0, .int 0, .int 0, .ref 98, .ref 100, .int 0]))))).set 40 (.inr (.inr (.inr (6, [.int 1, .long 70644700037184, .int 0, .ref 82, .ref 84, .ref 86]))))).set 43 (.inr (.inl (16, [70644700037184]))))) (dc2 := 117) (ds2 := 29934) 7 rfl ?_
  refine zT_val h2 ?_
  refine zT_gos (f := 200000) (pc2 := 1227) (ls2 := [(4, .int 0), (3, .ref 232), (2, .ref 162), (1, .ref 0), (0, .ref 11)]) (st2 := [.int (xs 3), .int 5, .int 0, .ref 162, .int 0]) (h2 := (((zH0.set 37 (.inr (.inr (.inr (3, [.ref 44, .ref 6, .ref 76, .ref 78, .ref 80, .ref 88, .int 1, .int 0, .ref 96, .int 0, .int 0, .int 0, .ref 98, .ref 100, .int 0]))))).set 40 (.inr (.inr (.inr (6, [.int 1, .long 70644700037184, .int 0, .ref 82, .ref 84, .ref 86]))))).set 43 (.inr (.inl (16, [70644700037184]))))) (dc2 := 117) (ds2 := 29934) 5 rfl ?_
  refine zT_val h3 ?_
  refine zT_gos (f := 200000) (pc2 := 1235) (ls2 := [(4, .int 0), (3, .ref 232), (2, .ref 162), (1, .ref 0), (0, .ref 11)]) (st2 := [.int 0, .int 5, .int 0, .ref 162, .int 0]) (h2 := (((zH0.set 37 (.inr (.inr (.inr (3, [.ref 44, .ref 6, .ref 76, .ref 78, .ref 80, .ref 88, .int 1, .int 0, .ref 96, .int 0, .int 0, .int 0, .ref 98, .ref 100, .int 0]))))).set 40 (.inr (.inr (.inr (6, [.int 1, .long 70644700037184, .int 0, .ref 82, .ref 84, .ref 86]))))).set 43 (.inr (.inl (16, [70644700037184]))))) (dc2 := 117) (ds2 := 29934) 2 rfl ?_
  refine zT_call rfl rfl (zT_le (zg0_le 6 xs) zk_o_77) ?_
  refine zT_here (pc2 := 1238) rfl ?_
  refine zT_gos (f := 200000) (pc2 := 1811) (ls2 := [(4, .int 6), (3, .ref 232), (2, .ref 162), (1, .ref 0), (0, .ref 11)]) (st2 := [.int 1]) (h2 := (((((((zH0.set 37 (.inr (.inr (.inr (3, [.ref 44, .ref 6, .ref 76, .ref 78, .ref 80, .ref 88, .int 1, .int 0, .ref 96, .int 0, .int 0, .int 0, .ref 98, .ref 100, .int 0]))))).set 40 (.inr (.inr (.inr (6, [.int 1, .long 70644700037184, .int 0, .ref 82, .ref 84, .ref 86]))))).set 43 (.inr (.inl (16, [70644700037184])))).set 106 (.inl (2, 2, [1, 0]))).set 105 (.inl (0, 2, [0]))).set 107 (.inl (0, 132, [0, 0, 0, 0, 0, 0]))).set 109 (.inl (0, 22, [0])))) (dc2 := 117) (ds2 := 29934) 10 rfl ?_
  exact zT_ret rfl rfl
set_option maxRecDepth 1000000 in
set_option maxHeartbeats 4000000 in
theorem zo_25_8 (xs : Nat → Int32) (h0 : xs 0 &&& 63 = 25) (h1 : xs 1 = 0) (h3 : (xs 3).toInt ≠ 0) (h2 : (xs 2).toInt < 0) : zDone xs := by
  refine ⟨zH0, 117, 29934, ?_, by decide, by decide⟩
  refine zT_gos (f := 200000) (pc2 := 37) (ls2 := [(4, .int 0), (3, .ref 232), (2, .ref 162), (1, .ref 0), (0, .ref 11)]) (st2 := [.int (xs 0)]) (h2 := zH0) (dc2 := 117) (ds2 := 29934) 9 rfl ?_
  refine zT_gos (f := 200000) (pc2 := 40) (ls2 := [(4, .int 0), (3, .ref 232), (2, .ref 162), (1, .ref 0), (0, .ref 11)]) (st2 := [.int ((xs 0) &&& (63 : Int32))]) (h2 := zH0) (dc2 := 117) (ds2 := 29934) 2 rfl ?_
  refine zT_val h0 ?_
  refine zT_gos (f := 200000) (pc2 := 1169) (ls2 := [(4, .int 0), (3, .ref 232), (2, .ref 162), (1, .ref 0), (0, .ref 11)]) (st2 := [.int (xs 1), .ref 0]) (h2 := zH0) (dc2 := 117) (ds2 := 29934) 7 rfl ?_
  refine zT_val h1 ?_
  refine zT_gos (f := 200000) (pc2 := 1183) (ls2 := [(4, .int 0), (3, .ref 232), (2, .ref 162), (1, .ref 0), (0, .ref 11)]) (st2 := [.int (xs 2), .int 0, .ref 0]) (h2 := zH0) (dc2 := 117) (ds2 := 29934) 7 rfl ?_
  refine zT_gos (f := 200000) (pc2 := 1189) (ls2 := [(4, .int 0), (3, .ref 232), (2, .ref 162), (1, .ref 0), (0, .ref 11)]) (st2 := [.int (xs 3), .int (xs 2), .int 0, .ref 0]) (h2 := zH0) (dc2 := 117) (ds2 := 29934) 5 rfl ?_
  refine zT_if0 false rfl (zc_eq_f (by show ((xs 3) : Int32).toInt ≠ 0; omega)) ?_
  refine zT_here (pc2 := 1192) rfl ?_
  refine zT_gos (f := 200000) (pc2 := 1197) (ls2 := [(4, .int 0), (3, .ref 232), (2, .ref 162), (1, .ref 0), (0, .ref 11)]) (st2 := [.int 1, .int (xs 2), .int 0, .ref 0]) (h2 := zH0) (dc2 := 117) (ds2 := 29934) 2 rfl ?_
  refine zT_call (v := some (.int (-1))) (h2 := zH0) (d1 := 0) (s1 := 0) rfl rfl ?_ ?_
  · refine zT_gos (f := 200000) (pc2 := 1) (ls2 := [(0, .ref 0), (1, .int 0), (2, .int (xs 2)), (3, .int 1)]) (st2 := [.int (xs 2)]) (h2 := zH0) (dc2 := 0) (ds2 := 0) 1 rfl ?_
    refine zT_call (v := some (.int 1)) (h2 := zH0) (d1 := 0) (s1 := 0) rfl rfl ?_ ?_
    · refine zT_gos (f := 200000) (pc2 := 1) (ls2 := [(0, .int (xs 2))]) (st2 := [.int (xs 2)]) (h2 := zH0) (dc2 := 0) (ds2 := 0) 1 rfl ?_
      refine zT_if0 true rfl (zc_lt_t (by show ((xs 2) : Int32).toInt < 0; omega)) ?_
      refine zT_here (pc2 := 10) rfl ?_
      refine zT_gos (f := 200000) (pc2 := 15) (ls2 := [(0, .int (xs 2))]) (st2 := [.int 1]) (h2 := zH0) (dc2 := 0) (ds2 := 0) 2 rfl ?_
      exact zT_ret rfl rfl
    refine zT_here (pc2 := 4) rfl ?_
    refine zT_gos (f := 200000) (pc2 := 8) (ls2 := [(0, .ref 0), (1, .int 0), (2, .int (xs 2)), (3, .int 1)]) (st2 := [.int (-1)]) (h2 := zH0) (dc2 := 0) (ds2 := 0) 2 rfl ?_
    exact zT_ret rfl rfl
  refine zT_here (pc2 := 1200) rfl ?_
  refine zT_gos (f := 200000) (pc2 := 1207) (ls2 := [(4, .int 0), (3, .ref 232), (2, .ref 162), (1, .ref 0), (0, .ref 11)]) (st2 := [.int (xs 1), .ref 162, .int (-1)]) (h2 := zH0) (dc2 := 117) (ds2 := 29934) 6 rfl ?_
  refine zT_val h1 ?_
  refine zT_gos (f := 200000) (pc2 := 1221) (ls2 := [(4, .int 0), (3, .ref 232), (2, .ref 162), (1, .ref 0), (0, .ref 11)]) (st2 := [.int (xs 2), .int 0, .ref 162, .int (-1)]) (h2 := zH0) (dc2 := 117) (ds2 := 29934) 7 rfl ?_
  refine zT_gos (f := 200000) (pc2 := 1227) (ls2 := [(4, .int 0), (3, .ref 232), (2, .ref 162), (1, .ref 0), (0, .ref 11)]) (st2 := [.int (xs 3), .int (xs 2), .int 0, .ref 162, .int (-1)]) (h2 := zH0) (dc2 := 117) (ds2 := 29934) 5 rfl ?_
  refine zT_if0 false rfl (zc_eq_f (by show ((xs 3) : Int32).toInt ≠ 0; omega)) ?_
  refine zT_here (pc2 := 1230) rfl ?_
  refine zT_gos (f := 200000) (pc2 := 1235) (ls2 := [(4, .int 0), (3, .ref 232), (2, .ref 162), (1, .ref 0), (0, .ref 11)]) (st2 := [.int 1, .int (xs 2), .int 0, .ref 162, .int (-1)]) (h2 := zH0) (dc2 := 117) (ds2 := 29934) 2 rfl ?_
  refine zT_call (v := some (.int (-1))) (h2 := zH0) (d1 := 0) (s1 := 0) rfl rfl ?_ ?_
  · refine zT_gos (f := 200000) (pc2 := 6) (ls2 := [(0, .ref 162), (1, .int 0), (2, .int (xs 2)), (3, .int 1)]) (st2 := [.int (xs 2)]) (h2 := zH0) (dc2 := 0) (ds2 := 0) 4 rfl ?_
    refine zT_call (v := some (.int 0)) (h2 := zH0) (d1 := 0) (s1 := 0) rfl rfl ?_ ?_
    · refine zT_gos (f := 200000) (pc2 := 1) (ls2 := [(0, .int (xs 2))]) (st2 := [.int (xs 2)]) (h2 := zH0) (dc2 := 0) (ds2 := 0) 1 rfl ?_
      refine zT_if0 true rfl (zc_lt_t (by show ((xs 2) : Int32).toInt < 0; omega)) ?_
      refine zT_here (pc2 := 14) rfl ?_
      refine zT_gos (f := 200000) (pc2 := 15) (ls2 := [(0, .int (xs 2))]) (st2 := [.int 0]) (h2 := zH0) (dc2 := 0) (ds2 := 0) 1 rfl ?_
      exact zT_ret rfl rfl
    refine zT_here (pc2 := 9) rfl ?_
    refine zT_gos (f := 200000) (pc2 := 13) (ls2 := [(0, .ref 162), (1, .int 0), (2, .int (xs 2)), (3, .int 1)]) (st2 := [.int (-1)]) (h2 := zH0) (dc2 := 0) (ds2 := 0) 2 rfl ?_
    exact zT_ret rfl rfl
  refine zT_here (pc2 := 1238) rfl ?_
  refine zT_gos (f := 200000) (pc2 := 1811) (ls2 := [(4, .int 6), (3, .ref 232), (2, .ref 162), (1, .ref 0), (0, .ref 11)]) (st2 := [.int 1]) (h2 := zH0) (dc2 := 117) (ds2 := 29934) 10 rfl ?_
  exact zT_ret rfl rfl
set_option maxRecDepth 1000000 in
set_option maxHeartbeats 4000000 in
theorem zo_25_9 (xs : Nat → Int32) (h0 : xs 0 &&& 63 = 25) (h1 : xs 1 = 0) (h3 : (xs 3).toInt ≠ 0) (h2 : 5 < (xs 2).toInt) : zDone xs := by
  refine ⟨zH0, 117, 29934, ?_, by decide, by decide⟩
  refine zT_gos (f := 200000) (pc2 := 37) (ls2 := [(4, .int 0), (3, .ref 232), (2, .ref 162), (1, .ref 0), (0, .ref 11)]) (st2 := [.int (xs 0)]) (h2 := zH0) (dc2 := 117) (ds2 := 29934) 9 rfl ?_
  refine zT_gos (f := 200000) (pc2 := 40) (ls2 := [(4, .int 0), (3, .ref 232), (2, .ref 162), (1, .ref 0), (0, .ref 11)]) (st2 := [.int ((xs 0) &&& (63 : Int32))]) (h2 := zH0) (dc2 := 117) (ds2 := 29934) 2 rfl ?_
  refine zT_val h0 ?_
  refine zT_gos (f := 200000) (pc2 := 1169) (ls2 := [(4, .int 0), (3, .ref 232), (2, .ref 162), (1, .ref 0), (0, .ref 11)]) (st2 := [.int (xs 1), .ref 0]) (h2 := zH0) (dc2 := 117) (ds2 := 29934) 7 rfl ?_
  refine zT_val h1 ?_
  refine zT_gos (f := 200000) (pc2 := 1183) (ls2 := [(4, .int 0), (3, .ref 232), (2, .ref 162), (1, .ref 0), (0, .ref 11)]) (st2 := [.int (xs 2), .int 0, .ref 0]) (h2 := zH0) (dc2 := 117) (ds2 := 29934) 7 rfl ?_
  refine zT_gos (f := 200000) (pc2 := 1189) (ls2 := [(4, .int 0), (3, .ref 232), (2, .ref 162), (1, .ref 0), (0, .ref 11)]) (st2 := [.int (xs 3), .int (xs 2), .int 0, .ref 0]) (h2 := zH0) (dc2 := 117) (ds2 := 29934) 5 rfl ?_
  refine zT_if0 false rfl (zc_eq_f (by show ((xs 3) : Int32).toInt ≠ 0; omega)) ?_
  refine zT_here (pc2 := 1192) rfl ?_
  refine zT_gos (f := 200000) (pc2 := 1197) (ls2 := [(4, .int 0), (3, .ref 232), (2, .ref 162), (1, .ref 0), (0, .ref 11)]) (st2 := [.int 1, .int (xs 2), .int 0, .ref 0]) (h2 := zH0) (dc2 := 117) (ds2 := 29934) 2 rfl ?_
  refine zT_call (v := some (.int (-1))) (h2 := zH0) (d1 := 0) (s1 := 0) rfl rfl ?_ ?_
  · refine zT_gos (f := 200000) (pc2 := 1) (ls2 := [(0, .ref 0), (1, .int 0), (2, .int (xs 2)), (3, .int 1)]) (st2 := [.int (xs 2)]) (h2 := zH0) (dc2 := 0) (ds2 := 0) 1 rfl ?_
    refine zT_call (v := some (.int 1)) (h2 := zH0) (d1 := 0) (s1 := 0) rfl rfl ?_ ?_
    · refine zT_gos (f := 200000) (pc2 := 1) (ls2 := [(0, .int (xs 2))]) (st2 := [.int (xs 2)]) (h2 := zH0) (dc2 := 0) (ds2 := 0) 1 rfl ?_
      refine zT_if0 false rfl (zc_lt_f (by show ((xs 2) : Int32).toInt ≥ 0; omega)) ?_
      refine zT_here (pc2 := 4) rfl ?_
      refine zT_gos (f := 200000) (pc2 := 7) (ls2 := [(0, .int (xs 2))]) (st2 := [.int 6, .int (xs 2)]) (h2 := zH0) (dc2 := 0) (ds2 := 0) 2 rfl ?_
      refine zT_if2 false rfl (zc_lt_f (by show ((xs 2) : Int32).toInt ≥ 6; omega)) ?_
      refine zT_here (pc2 := 10) rfl ?_
      refine zT_gos (f := 200000) (pc2 := 15) (ls2 := [(0, .int (xs 2))]) (st2 := [.int 1]) (h2 := zH0) (dc2 := 0) (ds2 := 0) 2 rfl ?_
      exact zT_ret rfl rfl
    refine zT_here (pc2 := 4) rfl ?_
    refine zT_gos (f := 200000) (pc2 := 8) (ls2 := [(0, .ref 0), (1, .int 0), (2, .int (xs 2)), (3, .int 1)]) (st2 := [.int (-1)]) (h2 := zH0) (dc2 := 0) (ds2 := 0) 2 rfl ?_
    exact zT_ret rfl rfl
  refine zT_here (pc2 := 1200) rfl ?_
  refine zT_gos (f := 200000) (pc2 := 1207) (ls2 := [(4, .int 0), (3, .ref 232), (2, .ref 162), (1, .ref 0), (0, .ref 11)]) (st2 := [.int (xs 1), .ref 162, .int (-1)]) (h2 := zH0) (dc2 := 117) (ds2 := 29934) 6 rfl ?_
  refine zT_val h1 ?_
  refine zT_gos (f := 200000) (pc2 := 1221) (ls2 := [(4, .int 0), (3, .ref 232), (2, .ref 162), (1, .ref 0), (0, .ref 11)]) (st2 := [.int (xs 2), .int 0, .ref 162, .int (-1)]) (h2 := zH0) (dc2 := 117) (ds2 := 29934) 7 rfl ?_
  refine zT_gos (f := 200000) (pc2 := 1227) (ls2 := [(4, .int 0), (3, .ref 232), (2, .ref 162), (1, .ref 0), (0, .ref 11)]) (st2 := [.int (xs 3), .int (xs 2), .int 0, .ref 162, .int (-1)]) (h2 := zH0) (dc2 := 117) (ds2 := 29934) 5 rfl ?_
  refine zT_if0 false rfl (zc_eq_f (by show ((xs 3) : Int32).toInt ≠ 0; omega)) ?_
  refine zT_here (pc2 := 1230) rfl ?_
  refine zT_gos (f := 200000) (pc2 := 1235) (ls2 := [(4, .int 0), (3, .ref 232), (2, .ref 162), (1, .ref 0), (0, .ref 11)]) (st2 := [.int 1, .int (xs 2), .int 0, .ref 162, .int (-1)]) (h2 := zH0) (dc2 := 117) (ds2 := 29934) 2 rfl ?_
  refine zT_call (v := some (.int (-1))) (h2 := zH0) (d1 := 0) (s1 := 0) rfl rfl ?_ ?_
  · refine zT_gos (f := 200000) (pc2 := 6) (ls2 := [(0, .ref 162), (1, .int 0), (2, .int (xs 2)), (3, .int 1)]) (st2 := [.int (xs 2)]) (h2 := zH0) (dc2 := 0) (ds2 := 0) 4 rfl ?_
    refine zT_call (v := some (.int 0)) (h2 := zH0) (d1 := 0) (s1 := 0) rfl rfl ?_ ?_
    · refine zT_gos (f := 200000) (pc2 := 1) (ls2 := [(0, .int (xs 2))]) (st2 := [.int (xs 2)]) (h2 := zH0) (dc2 := 0) (ds2 := 0) 1 rfl ?_
      refine zT_if0 false rfl (zc_lt_f (by show ((xs 2) : Int32).toInt ≥ 0; omega)) ?_
      refine zT_here (pc2 := 4) rfl ?_
      refine zT_gos (f := 200000) (pc2 := 7) (ls2 := [(0, .int (xs 2))]) (st2 := [.int 6, .int (xs 2)]) (h2 := zH0) (dc2 := 0) (ds2 := 0) 2 rfl ?_
      refine zT_if2 true rfl (zc_ge_t (by show ((xs 2) : Int32).toInt ≥ 6; omega)) ?_
      refine zT_here (pc2 := 14) rfl ?_
      refine zT_gos (f := 200000) (pc2 := 15) (ls2 := [(0, .int (xs 2))]) (st2 := [.int 0]) (h2 := zH0) (dc2 := 0) (ds2 := 0) 1 rfl ?_
      exact zT_ret rfl rfl
    refine zT_here (pc2 := 9) rfl ?_
    refine zT_gos (f := 200000) (pc2 := 13) (ls2 := [(0, .ref 162), (1, .int 0), (2, .int (xs 2)), (3, .int 1)]) (st2 := [.int (-1)]) (h2 := zH0) (dc2 := 0) (ds2 := 0) 2 rfl ?_
    exact zT_ret rfl rfl
  refine zT_here (pc2 := 1238) rfl ?_
  refine zT_gos (f := 200000) (pc2 := 1811) (ls2 := [(4, .int 6), (3, .ref 232), (2, .ref 162), (1, .ref 0), (0, .ref 11)]) (st2 := [.int 1]) (h2 := zH0) (dc2 := 117) (ds2 := 29934) 10 rfl ?_
  exact zT_ret rfl rfl
set_option maxRecDepth 1000000 in
theorem zk_o_78 : zT zg0 zF zP 126 0 [(0, .ref 0), (1, .int 0), (2, .int 0), (3, .int 1)] [] zH0 0 0 (some (.int 0), (((zH0.set 37 (.inr (.inr (.inr (3, [.ref 44, .ref 6, .ref 76, .ref 78, .ref 80, .ref 88, .int 1, .int 0, .ref 96, .int 0, .int 0, .int 0, .ref 98, .ref 100, .int 0]))))).set 40 (.inr (.inr (.inr (6, [.int 1, .long 70644700037184, .int 0, .ref 82, .ref 84, .ref 86]))))).set 43 (.inr (.inl (16, [70644700037184])))), 0, 0) := zclosed (n := 508) (by decide +kernel)
set_option maxRecDepth 1000000 in
theorem zk_o_79 : zT zg0 zF zP 257 0 [(0, .ref 162), (1, .int 0), (2, .int 0), (3, .int 1)] [] (((zH0.set 37 (.inr (.inr (.inr (3, [.ref 44, .ref 6, .ref 76, .ref 78, .ref 80, .ref 88, .int 1, .int 0, .ref 96, .int 0, .int 0, .int 0, .ref 98, .ref 100, .int 0]))))).set 40 (.inr (.inr (.inr (6, [.int 1, .long 70644700037184, .int 0, .ref 82, .ref 84, .ref 86]))))).set 43 (.inr (.inl (16, [70644700037184])))) 0 0 (some (.int 0), (((((((zH0.set 37 (.inr (.inr (.inr (3, [.ref 44, .ref 6, .ref 76, .ref 78, .ref 80, .ref 88, .int 1, .int 0, .ref 96, .int 0, .int 0, .int 0, .ref 98, .ref 100, .int 0]))))).set 40 (.inr (.inr (.inr (6, [.int 1, .long 70644700037184, .int 0, .ref 82, .ref 84, .ref 86]))))).set 43 (.inr (.inl (16, [70644700037184])))).set 106 (.inl (2, 2, [1, 0]))).set 105 (.inl (0, 2, [0]))).set 107 (.inl (0, 132, [0, 0, 0, 0, 0, 0]))).set 109 (.inl (0, 22, [0]))), 0, 0) := zclosed (n := 1965) (by decide +kernel)
set_option maxRecDepth 1000000 in
set_option maxHeartbeats 4000000 in
theorem zo_25_10 (xs : Nat → Int32) (h0 : xs 0 &&& 63 = 25) (h1 : xs 1 = 0) (h3 : (xs 3).toInt ≠ 0) (h2 : xs 2 = 0) : zDone xs := by
  refine ⟨(((((((zH0.set 37 (.inr (.inr (.inr (3, [.ref 44, .ref 6, .ref 76, .ref 78, .ref 80, .ref 88, .int 1, .int 0, .ref 96, .int 0, .int 0, .int 0, .ref 98, .ref 100, .int 0]))))).set 40 (.inr (.inr (.inr (6, [.int 1, .long 70644700037184, .int 0, .ref 82, .ref 84, .ref 86]))))).set 43 (.inr (.inl (16, [70644700037184])))).set 106 (.inl (2, 2, [1, 0]))).set 105 (.inl (0, 2, [0]))).set 107 (.inl (0, 132, [0, 0, 0, 0, 0, 0]))).set 109 (.inl (0, 22, [0]))), 117, 29934, ?_, by decide, by decide⟩
  refine zT_gos (f := 200000) (pc2 := 37) (ls2 := [(4, .int 0), (3, .ref 232), (2, .ref 162), (1, .ref 0), (0, .ref 11)]) (st2 := [.int (xs 0)]) (h2 := zH0) (dc2 := 117) (ds2 := 29934) 9 rfl ?_
  refine zT_gos (f := 200000) (pc2 := 40) (ls2 := [(4, .int 0), (3, .ref 232), (2, .ref 162), (1, .ref 0), (0, .ref 11)]) (st2 := [.int ((xs 0) &&& (63 : Int32))]) (h2 := zH0) (dc2 := 117) (ds2 := 29934) 2 rfl ?_
  refine zT_val h0 ?_
  refine zT_gos (f := 200000) (pc2 := 1169) (ls2 := [(4, .int 0), (3, .ref 232), (2, .ref 162), (1, .ref 0), (0, .ref 11)]) (st2 := [.int (xs 1), .ref 0]) (h2 := zH0) (dc2 := 117) (ds2 := 29934) 7 rfl ?_
  refine zT_val h1 ?_
  refine zT_gos (f := 200000) (pc2 := 1183) (ls2 := [(4, .int 0), (3, .ref 232), (2, .ref 162), (1, .ref 0), (0, .ref 11)]) (st2 := [.int (xs 2), .int 0, .ref 0]) (h2 := zH0) (dc2 := 117) (ds2 := 29934) 7 rfl ?_
  refine zT_val h2 ?_
  refine zT_gos (f := 200000) (pc2 := 1189) (ls2 := [(4, .int 0), (3, .ref 232), (2, .ref 162), (1, .ref 0), (0, .ref 11)]) (st2 := [.int (xs 3), .int 0, .int 0, .ref 0]) (h2 := zH0) (dc2 := 117) (ds2 := 29934) 5 rfl ?_
  refine zT_if0 false rfl (zc_eq_f (by show ((xs 3) : Int32).toInt ≠ 0; omega)) ?_
  refine zT_here (pc2 := 1192) rfl ?_
  refine zT_gos (f := 200000) (pc2 := 1197) (ls2 := [(4, .int 0), (3, .ref 232), (2, .ref 162), (1, .ref 0), (0, .ref 11)]) (st2 := [.int 1, .int 0, .int 0, .ref 0]) (h2 := zH0) (dc2 := 117) (ds2 := 29934) 2 rfl ?_
  refine zT_call rfl rfl (zT_le (zg0_le 6 xs) zk_o_78) ?_
  refine zT_here (pc2 := 1200) rfl ?_
  refine zT_gos (f := 200000) (pc2 := 1207) (ls2 := [(4, .int 0), (3, .ref 232), (2, .ref 162), (1, .ref 0), (0, .ref 11)]) (st2 := [.int (xs 1), .ref 162, .int 0]) (h2 := (((zH0.set 37 (.inr (.inr (.inr (3, [.ref 44, .ref 6, .ref 76, .ref 78, .ref 80, .ref 88, .int 1, .int 0, .ref 96, .int 0, .int 0, .int 0, .ref 98, .ref 100, .int 0]))))).set 40 (.inr (.inr (.inr (6, [.int 1, .long 70644700037184, .int 0, .ref 82, .ref 84, .ref 86]))))).set 43 (.inr (.inl (16, [70644700037184]))))) (dc2 := 117) (ds2 := 29934) 6 rfl ?_
  refine zT_val h1 ?_
  refine zT_gos (f := 200000) (pc2 := 1221) (ls2 := [(4, .int 0), (3, .ref 232), (2, .ref 162), (1, .ref 0), (0, .ref 11)]) (st2 := [.int (xs 2), .int 0, .ref 162, .int 0]) (h2 := (((zH0.set 37 (.inr (.inr (.inr (3, [.ref 44, .ref 6, .ref 76, .ref 78, .ref 80, .ref 88, .int 1, .int 0, .ref 96, .int 0, .int 0, .int 0, .ref 98, .ref 100, .int 0]))))).set 40 (.inr (.inr (.inr (6, [.int 1, .long 70644700037184, .int 0, .ref 82, .ref 84, .ref 86]))))).set 43 (.inr (.inl (16, [70644700037184]))))) (dc2 := 117) (ds2 := 29934) 7 rfl ?_
  refine zT_val h2 ?_
  refine zT_gos (f := 200000) (pc2 := 1227) (ls2 := [(4, .int 0), (3, .ref 232), (2, .ref 162), (1, .ref 0), (0, .ref 11)]) (st2 := [.int (xs 3), .int 0, .int 0, .ref 162, .int 0]) (h2 := (((zH0.set 37 (.inr (.inr (.inr (3, [.ref 44, .ref 6, .ref 76, .ref 78, .ref 80, .ref 88, .int 1, .int 0, .ref 96, .int 0, .int 0, .int 0, .ref 98, .ref 100, .int 0]))))).set 40 (.inr (.inr (.inr (6, [.int 1, .long 70644700037184, .int 0, .ref 82, .ref 84, .ref 86]))))).set 43 (.inr (.inl (16, [70644700037184]))))) (dc2 := 117) (ds2 := 29934) 5 rfl ?_
  refine zT_if0 false rfl (zc_eq_f (by show ((xs 3) : Int32).toInt ≠ 0; omega)) ?_
  refine zT_here (pc2 := 1230) rfl ?_
  refine zT_gos (f := 200000) (pc2 := 1235) (ls2 := [(4, .int 0), (3, .ref 232), (2, .ref 162), (1, .ref 0), (0, .ref 11)]) (st2 := [.int 1, .int 0, .int 0, .ref 162, .int 0]) (h2 := (((zH0.set 37 (.inr (.inr (.inr (3, [.ref 44, .ref 6, .ref 76, .ref 78, .ref 80, .ref 88, .int 1, .int 0, .ref 96, .int 0, .int 0, .int 0, .ref 98, .ref 100, .int 0]))))).set 40 (.inr (.inr (.inr (6, [.int 1, .long 70644700037184, .int 0, .ref 82, .ref 84, .ref 86]))))).set 43 (.inr (.inl (16, [70644700037184]))))) (dc2 := 117) (ds2 := 29934) 2 rfl ?_
  refine zT_call rfl rfl (zT_le (zg0_le 6 xs) zk_o_79) ?_
  refine zT_here (pc2 := 1238) rfl ?_
  refine zT_gos (f := 200000) (pc2 := 1811) (ls2 := [(4, .int 6), (3, .ref 232), (2, .ref 162), (1, .ref 0), (0, .ref 11)]) (st2 := [.int 1]) (h2 := (((((((zH0.set 37 (.inr (.inr (.inr (3, [.ref 44, .ref 6, .ref 76, .ref 78, .ref 80, .ref 88, .int 1, .int 0, .ref 96, .int 0, .int 0, .int 0, .ref 98, .ref 100, .int 0]))))).set 40 (.inr (.inr (.inr (6, [.int 1, .long 70644700037184, .int 0, .ref 82, .ref 84, .ref 86]))))).set 43 (.inr (.inl (16, [70644700037184])))).set 106 (.inl (2, 2, [1, 0]))).set 105 (.inl (0, 2, [0]))).set 107 (.inl (0, 132, [0, 0, 0, 0, 0, 0]))).set 109 (.inl (0, 22, [0])))) (dc2 := 117) (ds2 := 29934) 10 rfl ?_
  exact zT_ret rfl rfl
set_option maxRecDepth 1000000 in
theorem zk_o_80 : zT zg0 zF zP 126 0 [(0, .ref 0), (1, .int 0), (2, .int 1), (3, .int 1)] [] zH0 0 0 (some (.int 0), (((zH0.set 37 (.inr (.inr (.inr (3, [.ref 44, .ref 6, .ref 76, .ref 78, .ref 80, .ref 88, .int 1, .int 0, .ref 96, .int 0, .int 0, .int 0, .ref 98, .ref 100, .int 0]))))).set 40 (.inr (.inr (.inr (6, [.int 1, .long 70644700037184, .int 0, .ref 82, .ref 84, .ref 86]))))).set 43 (.inr (.inl (16, [70644700037184])))), 0, 0) := zclosed (n := 508) (by decide +kernel)
set_option maxRecDepth 1000000 in
theorem zk_o_81 : zT zg0 zF zP 257 0 [(0, .ref 162), (1, .int 0), (2, .int 1), (3, .int 1)] [] (((zH0.set 37 (.inr (.inr (.inr (3, [.ref 44, .ref 6, .ref 76, .ref 78, .ref 80, .ref 88, .int 1, .int 0, .ref 96, .int 0, .int 0, .int 0, .ref 98, .ref 100, .int 0]))))).set 40 (.inr (.inr (.inr (6, [.int 1, .long 70644700037184, .int 0, .ref 82, .ref 84, .ref 86]))))).set 43 (.inr (.inl (16, [70644700037184])))) 0 0 (some (.int 0), (((((((zH0.set 37 (.inr (.inr (.inr (3, [.ref 44, .ref 6, .ref 76, .ref 78, .ref 80, .ref 88, .int 1, .int 0, .ref 96, .int 0, .int 0, .int 0, .ref 98, .ref 100, .int 0]))))).set 40 (.inr (.inr (.inr (6, [.int 1, .long 70644700037184, .int 0, .ref 82, .ref 84, .ref 86]))))).set 43 (.inr (.inl (16, [70644700037184])))).set 106 (.inl (2, 2, [1, 0]))).set 105 (.inl (0, 2, [0]))).set 107 (.inl (0, 132, [0, 0, 0, 0, 0, 0]))).set 109 (.inl (0, 22, [0]))), 0, 0) := zclosed (n := 1965) (by decide +kernel)
set_option maxRecDepth 1000000 in
set_option maxHeartbeats 4000000 in
theorem zo_25_11 (xs : Nat → Int32) (h0 : xs 0 &&& 63 = 25) (h1 : xs 1 = 0) (h3 : (xs 3).toInt ≠ 0) (h2 : xs 2 = 1) : zDone xs := by
  refine ⟨(((((((zH0.set 37 (.inr (.inr (.inr (3, [.ref 44, .ref 6, .ref 76, .ref 78, .ref 80, .ref 88, .int 1, .int 0, .ref 96, .int 0, .int 0, .int 0, .ref 98, .ref 100, .int 0]))))).set 40 (.inr (.inr (.inr (6, [.int 1, .long 70644700037184, .int 0, .ref 82, .ref 84, .ref 86]))))).set 43 (.inr (.inl (16, [70644700037184])))).set 106 (.inl (2, 2, [1, 0]))).set 105 (.inl (0, 2, [0]))).set 107 (.inl (0, 132, [0, 0, 0, 0, 0, 0]))).set 109 (.inl (0, 22, [0]))), 117, 29934, ?_, by decide, by decide⟩
  refine zT_gos (f := 200000) (pc2 := 37) (ls2 := [(4, .int 0), (3, .ref 232), (2, .ref 162), (1, .ref 0), (0, .ref 11)]) (st2 := [.int (xs 0)]) (h2 := zH0) (dc2 := 117) (ds2 := 29934) 9 rfl ?_
  refine zT_gos (f := 200000) (pc2 := 40) (ls2 := [(4, .int 0), (3, .ref 232), (2, .ref 162), (1, .ref 0), (0, .ref 11)]) (st2 := [.int ((xs 0) &&& (63 : Int32))]) (h2 := zH0) (dc2 := 117) (ds2 := 29934) 2 rfl ?_
  refine zT_val h0 ?_
  refine zT_gos (f := 200000) (pc2 := 1169) (ls2 := [(4, .int 0), (3, .ref 232), (2, .ref 162), (1, .ref 0), (0, .ref 11)]) (st2 := [.int (xs 1), .ref 0]) (h2 := zH0) (dc2 := 117) (ds2 := 29934) 7 rfl ?_
  refine zT_val h1 ?_
  refine zT_gos (f := 200000) (pc2 := 1183) (ls2 := [(4, .int 0), (3, .ref 232), (2, .ref 162), (1, .ref 0), (0, .ref 11)]) (st2 := [.int (xs 2), .int 0, .ref 0]) (h2 := zH0) (dc2 := 117) (ds2 := 29934) 7 rfl ?_
  refine zT_val h2 ?_
  refine zT_gos (f := 200000) (pc2 := 1189) (ls2 := [(4, .int 0), (3, .ref 232), (2, .ref 162), (1, .ref 0), (0, .ref 11)]) (st2 := [.int (xs 3), .int 1, .int 0, .ref 0]) (h2 := zH0) (dc2 := 117) (ds2 := 29934) 5 rfl ?_
  refine zT_if0 false rfl (zc_eq_f (by show ((xs 3) : Int32).toInt ≠ 0; omega)) ?_
  refine zT_here (pc2 := 1192) rfl ?_
  refine zT_gos (f := 200000) (pc2 := 1197) (ls2 := [(4, .int 0), (3, .ref 232), (2, .ref 162), (1, .ref 0), (0, .ref 11)]) (st2 := [.int 1, .int 1, .int 0, .ref 0]) (h2 := zH0) (dc2 := 117) (ds2 := 29934) 2 rfl ?_
  refine zT_call rfl rfl (zT_le (zg0_le 6 xs) zk_o_80) ?_
  refine zT_here (pc2 := 1200) rfl ?_
  refine zT_gos (f := 200000) (pc2 := 1207) (ls2 := [(4, .int 0), (3, .ref 232), (2, .ref 162), (1, .ref 0), (0, .ref 11)]) (st2 := [.int (xs 1), .ref 162, .int 0]) (h2 := (((zH0.set 37 (.inr (.inr (.inr (3, [.ref 44, .ref 6, .ref 76, .ref 78, .ref 80, .ref 88, .int 1, .int 0, .ref 96, .int 0, .int 0, .int 0, .ref 98, .ref 100, .int 0]))))).set 40 (.inr (.inr (.inr (6, [.int 1, .long 70644700037184, .int 0, .ref 82, .ref 84, .ref 86]))))).set 43 (.inr (.inl (16, [70644700037184]))))) (dc2 := 117) (ds2 := 29934) 6 rfl ?_
  refine zT_val h1 ?_
  refine zT_gos (f := 200000) (pc2 := 1221) (ls2 := [(4, .int 0), (3, .ref 232), (2, .ref 162), (1, .ref 0), (0, .ref 11)]) (st2 := [.int (xs 2), .int 0, .ref 162, .int 0]) (h2 := (((zH0.set 37 (.inr (.inr (.inr (3, [.ref 44, .ref 6, .ref 76, .ref 78, .ref 80, .ref 88, .int 1, .int 0, .ref 96, .int 0, .int 0, .int 0, .ref 98, .ref 100, .int 0]))))).set 40 (.inr (.inr (.inr (6, [.int 1, .long 70644700037184, .int 0, .ref 82, .ref 84, .ref 86]))))).set 43 (.inr (.inl (16, [70644700037184]))))) (dc2 := 117) (ds2 := 29934) 7 rfl ?_
  refine zT_val h2 ?_
  refine zT_gos (f := 200000) (pc2 := 1227) (ls2 := [(4, .int 0), (3, .ref 232), (2, .ref 162), (1, .ref 0), (0, .ref 11)]) (st2 := [.int (xs 3), .int 1, .int 0, .ref 162, .int 0]) (h2 := (((zH0.set 37 (.inr (.inr (.inr (3, [.ref 44, .ref 6, .ref 76, .ref 78, .ref 80, .ref 88, .int 1, .int 0, .ref 96, .int 0, .int 0, .int 0, .ref 98, .ref 100, .int 0]))))).set 40 (.inr (.inr (.inr (6, [.int 1, .long 70644700037184, .int 0, .ref 82, .ref 84, .ref 86]))))).set 43 (.inr (.inl (16, [70644700037184]))))) (dc2 := 117) (ds2 := 29934) 5 rfl ?_
  refine zT_if0 false rfl (zc_eq_f (by show ((xs 3) : Int32).toInt ≠ 0; omega)) ?_
  refine zT_here (pc2 := 1230) rfl ?_
  refine zT_gos (f := 200000) (pc2 := 1235) (ls2 := [(4, .int 0), (3, .ref 232), (2, .ref 162), (1, .ref 0), (0, .ref 11)]) (st2 := [.int 1, .int 1, .int 0, .ref 162, .int 0]) (h2 := (((zH0.set 37 (.inr (.inr (.inr (3, [.ref 44, .ref 6, .ref 76, .ref 78, .ref 80, .ref 88, .int 1, .int 0, .ref 96, .int 0, .int 0, .int 0, .ref 98, .ref 100, .int 0]))))).set 40 (.inr (.inr (.inr (6, [.int 1, .long 70644700037184, .int 0, .ref 82, .ref 84, .ref 86]))))).set 43 (.inr (.inl (16, [70644700037184]))))) (dc2 := 117) (ds2 := 29934) 2 rfl ?_
  refine zT_call rfl rfl (zT_le (zg0_le 6 xs) zk_o_81) ?_
  refine zT_here (pc2 := 1238) rfl ?_
  refine zT_gos (f := 200000) (pc2 := 1811) (ls2 := [(4, .int 6), (3, .ref 232), (2, .ref 162), (1, .ref 0), (0, .ref 11)]) (st2 := [.int 1]) (h2 := (((((((zH0.set 37 (.inr (.inr (.inr (3, [.ref 44, .ref 6, .ref 76, .ref 78, .ref 80, .ref 88, .int 1, .int 0, .ref 96, .int 0, .int 0, .int 0, .ref 98, .ref 100, .int 0]))))).set 40 (.inr (.inr (.inr (6, [.int 1, .long 70644700037184, .int 0, .ref 82, .ref 84, .ref 86]))))).set 43 (.inr (.inl (16, [70644700037184])))).set 106 (.inl (2, 2, [1, 0]))).set 105 (.inl (0, 2, [0]))).set 107 (.inl (0, 132, [0, 0, 0, 0, 0, 0]))).set 109 (.inl (0, 22, [0])))) (dc2 := 117) (ds2 := 29934) 10 rfl ?_
  exact zT_ret rfl rfl
set_option maxRecDepth 1000000 in
theorem zk_o_82 : zT zg0 zF zP 126 0 [(0, .ref 0), (1, .int 0), (2, .int 2), (3, .int 1)] [] zH0 0 0 (some (.int 0), (((zH0.set 37 (.inr (.inr (.inr (3, [.ref 44, .ref 6, .ref 76, .ref 78, .ref 80, .ref 88, .int 1, .int 0, .ref 96, .int 0, .int 0, .int 0, .ref 98, .ref 100, .int 0]))))).set 40 (.inr (.inr (.inr (6, [.int 1, .long 70644700037184, .int 0, .ref 82, .ref 84, .ref 86]))))).set 43 (.inr (.inl (16, [70644700037184])))), 0, 0) := zclosed (n := 508) (by decide +kernel)
set_option maxRecDepth 1000000 in
theorem zk_o_83 : zT zg0 zF zP 257 0 [(0, .ref 162), (1, .int 0), (2, .int 2), (3, .int 1)] [] (((zH0.set 37 (.inr (.inr (.inr (3, [.ref 44, .ref 6, .ref 76, .ref 78, .ref 80, .ref 88, .int 1, .int 0, .ref 96, .int 0, .int 0, .int 0, .ref 98, .ref 100, .int 0]))))).set 40 (.inr (.inr (.inr (6, [.int 1, .long 70644700037184, .int 0, .ref 82, .ref 84, .ref 86]))))).set 43 (.inr (.inl (16, [70644700037184])))) 0 0 (some (.int 0), (((((((zH0.set 37 (.inr (.inr (.inr (3, [.ref 44, .ref 6, .ref 76, .ref 78, .ref 80, .ref 88, .int 1, .int 0, .ref 96, .int 0, .int 0, .int 0, .ref 98, .ref 100, .int 0]))))).set 40 (.inr (.inr (.inr (6, [.int 1, .long 70644700037184, .int 0, .ref 82, .ref 84, .ref 86]))))).set 43 (.inr (.inl (16, [70644700037184])))).set 106 (.inl (2, 2, [1, 0]))).set 105 (.inl (0, 2, [0]))).set 107 (.inl (0, 132, [0, 0, 0, 0, 0, 0]))).set 109 (.inl (0, 22, [0]))), 0, 0) := zclosed (n := 1965) (by decide +kernel)
set_option maxRecDepth 1000000 in
set_option maxHeartbeats 4000000 in
theorem zo_25_12 (xs : Nat → Int32) (h0 : xs 0 &&& 63 = 25) (h1 : xs 1 = 0) (h3 : (xs 3).toInt ≠ 0) (h2 : xs 2 = 2) : zDone xs := by
  refine ⟨(((((((zH0.set 37 (.inr (.inr (.inr (3, [.ref 44, .ref 6, .ref 76, .ref 78, .ref 80, .ref 88, .int 1, .int 0, .ref 96, .int 0, .int 0, .int 0, .ref 98, .ref 100, .int 0]))))).set 40 (.inr (.inr (.inr (6, [.int 1, .long 70644700037184, .int 0, .ref 82, .ref 84, .ref 86]))))).set 43 (.inr (.inl (16, [70644700037184])))).set 106 (.inl (2, 2, [1, 0]))).set 105 (.inl (0, 2, [0]))).set 107 (.inl (0, 132, [0, 0, 0, 0, 0, 0]))).set 109 (.inl (0, 22, [0]))), 117, 29934, ?_, by decide, by decide⟩
  refine zT_gos (f := 200000) (pc2 := 37) (ls2 := [(4, .int 0), (3, .ref 232), (2, .ref 162), (1, .ref 0), (0, .ref 11)]) (st2 := [.int (xs 0)]) (h2 := zH0) (dc2 := 117) (ds2 := 29934) 9 rfl ?_
  refine zT_gos (f := 200000) (pc2 := 40) (ls2 := [(4, .int 0), (3, .ref 232), (2, .ref 162), (1, .ref 0), (0, .ref 11)]) (st2 := [.int ((xs 0) &&& (63 : Int32))]) (h2 := zH0) (dc2 := 117) (ds2 := 29934) 2 rfl ?_
  refine zT_val h0 ?_
  refine zT_gos (f := 200000) (pc2 := 1169) (ls2 := [(4, .int 0), (3, .ref 232), (2, .ref 162), (1, .ref 0), (0, .ref 11)]) (st2 := [.int (xs 1), .ref 0]) (h2 := zH0) (dc2 := 117) (ds2 := 29934) 7 rfl ?_
  refine zT_val h1 ?_
  refine zT_gos (f := 200000) (pc2 := 1183) (ls2 := [(4, .int 0), (3, .ref 232), (2, .ref 162), (1, .ref 0), (0, .ref 11)]) (st2 := [.int (xs 2), .int 0, .ref 0]) (h2 := zH0) (dc2 := 117) (ds2 := 29934) 7 rfl ?_
  refine zT_val h2 ?_
  refine zT_gos (f := 200000) (pc2 := 1189) (ls2 := [(4, .int 0), (3, .ref 232), (2, .ref 162), (1, .ref 0), (0, .ref 11)]) (st2 := [.int (xs 3), .int 2, .int 0, .ref 0]) (h2 := zH0) (dc2 := 117) (ds2 := 29934) 5 rfl ?_
  refine zT_if0 false rfl (zc_eq_f (by show ((xs 3) : Int32).toInt ≠ 0; omega)) ?_
  refine zT_here (pc2 := 1192) rfl ?_
  refine zT_gos (f := 200000) (pc2 := 1197) (ls2 := [(4, .int 0), (3, .ref 232), (2, .ref 162), (1, .ref 0), (0, .ref 11)]) (st2 := [.int 1, .int 2, .int 0, .ref 0]) (h2 := zH0) (dc2 := 117) (ds2 := 29934) 2 rfl ?_
  refine zT_call rfl rfl (zT_le (zg0_le 6 xs) zk_o_82) ?_
  refine zT_here (pc2 := 1200) rfl ?_
  refine zT_gos (f := 200000) (pc2 := 1207) (ls2 := [(4, .int 0), (3, .ref 232), (2, .ref 162), (1, .ref 0), (0, .ref 11)]) (st2 := [.int (xs 1), .ref 162, .int 0]) (h2 := (((zH0.set 37 (.inr (.inr (.inr (3, [.ref 44, .ref 6, .ref 76, .ref 78, .ref 80, .ref 88, .int 1, .int 0, .ref 96, .int 0, .int 0, .int 0, .ref 98, .ref 100, .int 0]))))).set 40 (.inr (.inr (.inr (6, [.int 1, .long 70644700037184, .int 0, .ref 82, .ref 84, .ref 86]))))).set 43 (.inr (.inl (16, [70644700037184]))))) (dc2 := 117) (ds2 := 29934) 6 rfl ?_
  refine zT_val h1 ?_
  refine zT_gos (f := 200000) (pc2 := 1221) (ls2 := [(4, .int 0), (3, .ref 232), (2, .ref 162), (1, .ref 0), (0, .ref 11)]) (st2 := [.int (xs 2), .int 0, .ref 162, .int 0]) (h2 := (((zH0.set 37 (.inr (.inr (.inr (3, [.ref 44, .ref 6, .ref 76, .ref 78, .ref 80, .ref 88, .int 1, .int 0, .ref 96, .int 0, .int 0, .int 0, .ref 98, .ref 100, .int 0]))))).set 40 (.inr (.inr (.inr (6, [.int 1, .long 70644700037184, .int 0, .ref 82, .ref 84, .ref 86]))))).set 43 (.inr (.inl (16, [70644700037184]))))) (dc2 := 117) (ds2 := 29934) 7 rfl ?_
  refine zT_val h2 ?_
  refine zT_gos (f := 200000) (pc2 := 1227) (ls2 := [(4, .int 0), (3, .ref 232), (2, .ref 162), (1, .ref 0), (0, .ref 11)]) (st2 := [.int (xs 3), .int 2, .int 0, .ref 162, .int 0]) (h2 := (((zH0.set 37 (.inr (.inr (.inr (3, [.ref 44, .ref 6, .ref 76, .ref 78, .ref 80, .ref 88, .int 1, .int 0, .ref 96, .int 0, .int 0, .int 0, .ref 98, .ref 100, .int 0]))))).set 40 (.inr (.inr (.inr (6, [.int 1, .long 70644700037184, .int 0, .ref 82, .ref 84, .ref 86]))))).set 43 (.inr (.inl (16, [70644700037184]))))) (dc2 := 117) (ds2 := 29934) 5 rfl ?_
  refine zT_if0 false rfl (zc_eq_f (by show ((xs 3) : Int32).toInt ≠ 0; omega)) ?_
  refine zT_here (pc2 := 1230) rfl ?_
  refine zT_gos (f := 200000) (pc2 := 1235) (ls2 := [(4, .int 0), (3, .ref 232), (2, .ref 162), (1, .ref 0), (0, .ref 11)]) (st2 := [.int 1, .int 2, .int 0, .ref 162, .int 0]) (h2 := (((zH0.set 37 (.inr (.inr (.inr (3, [.ref 44, .ref 6, .ref 76, .ref 78, .ref 80, .ref 88, .int 1, .int 0, .ref 96, .int 0, .int 0, .int 0, .ref 98, .ref 100, .int 0]))))).set 40 (.inr (.inr (.inr (6, [.int 1, .long 70644700037184, .int 0, .ref 82, .ref 84, .ref 86]))))).set 43 (.inr (.inl (16, [70644700037184]))))) (dc2 := 117) (ds2 := 29934) 2 rfl ?_
  refine zT_call rfl rfl (zT_le (zg0_le 6 xs) zk_o_83) ?_
  refine zT_here (pc2 := 1238) rfl ?_
  refine zT_gos (f := 200000) (pc2 := 1811) (ls2 := [(4, .int 6), (3, .ref 232), (2, .ref 162), (1, .ref 0), (0, .ref 11)]) (st2 := [.int 1]) (h2 := (((((((zH0.set 37 (.inr (.inr (.inr (3, [.ref 44, .ref 6, .ref 76, .ref 78, .ref 80, .ref 88, .int 1, .int 0, .ref 96, .int 0, .int 0, .int 0, .ref 98, .ref 100, .int 0]))))).set 40 (.inr (.inr (.inr (6, [.int 1, .long 70644700037184, .int 0, .ref 82, .ref 84, .ref 86]))))).set 43 (.inr (.inl (16, [70644700037184])))).set 106 (.inl (2, 2, [1, 0]))).set 105 (.inl (0, 2, [0]))).set 107 (.inl (0, 132, [0, 0, 0, 0, 0, 0]))).set 109 (.inl (0, 22, [0])))) (dc2 := 117) (ds2 := 29934) 10 rfl ?_
  exact zT_ret rfl rfl
set_option maxRecDepth 1000000 in
theorem zk_o_84 : zT zg0 zF zP 126 0 [(0, .ref 0), (1, .int 0), (2, .int 3), (3, .int 1)] [] zH0 0 0 (some (.int 0), (((zH0.set 37 (.inr (.inr (.inr (3, [.ref 44, .ref 6, .ref 76, .ref 78, .ref 80, .ref 88, .int 1, .int 0, .ref 96, .int 0, .int 0, .int 0, .ref 98, .ref 100, .int 0]))))).set 40 (.inr (.inr (.inr (6, [.int 1, .long 70644700037184, .int 0, .ref 82, .ref 84, .ref 86]))))).set 43 (.inr (.inl (16, [70644700037184])))), 0, 0) := zclosed (n := 508) (by decide +kernel)
set_option maxRecDepth 1000000 in
theorem zk_o_85 : zT zg0 zF zP 257 0 [(0, .ref 162), (1, .int 0), (2, .int 3), (3, .int 1)] [] (((zH0.set 37 (.inr (.inr (.inr (3, [.ref 44, .ref 6, .ref 76, .ref 78, .ref 80, .ref 88, .int 1, .int 0, .ref 96, .int 0, .int 0, .int 0, .ref 98, .ref 100, .int 0]))))).set 40 (.inr (.inr (.inr (6, [.int 1, .long 70644700037184, .int 0, .ref 82, .ref 84, .ref 86]))))).set 43 (.inr (.inl (16, [70644700037184])))) 0 0 (some (.int 0), (((((((zH0.set 37 (.inr (.inr (.inr (3, [.ref 44, .ref 6, .ref 76, .ref 78, .ref 80, .ref 88, .int 1, .int 0, .ref 96, .int 0, .int 0, .int 0, .ref 98, .ref 100, .int 0]))))).set 40 (.inr (.inr (.inr (6, [.int 1, .long 70644700037184, .int 0, .ref 82, .ref 84, .ref 86]))))).set 43 (.inr (.inl (16, [70644700037184])))).set 106 (.inl (2, 2, [1, 0]))).set 105 (.inl (0, 2, [0]))).set 107 (.inl (0, 132, [0, 0, 0, 0, 0, 0]))).set 109 (.inl (0, 22, [0]))), 0, 0) := zclosed (n := 1965) (by decide +kernel)
set_option maxRecDepth 1000000 in
set_option maxHeartbeats 4000000 in
theorem zo_25_13 (xs : Nat → Int32) (h0 : xs 0 &&& 63 = 25) (h1 : xs 1 = 0) (h3 : (xs 3).toInt ≠ 0) (h2 : xs 2 = 3) : zDone xs := by
  refine ⟨(((((((zH0.set 37 (.inr (.inr (.inr (3, [.ref 44, .ref 6, .ref 76, .ref 78, .ref 80, .ref 88, .int 1, .int 0, .ref 96, .int 0, .int 0, .int 0, .ref 98, .ref 100, .int 0]))))).set 40 (.inr (.inr (.inr (6, [.int 1, .long 70644700037184, .int 0, .ref 82, .ref 84, .ref 86]))))).set 43 (.inr (.inl (16, [70644700037184])))).set 106 (.inl (2, 2, [1, 0]))).set 105 (.inl (0, 2, [0]))).set 107 (.inl (0, 132, [0, 0, 0, 0, 0, 0]))).set 109 (.inl (0, 22, [0]))), 117, 29934, ?_, by decide, by decide⟩
  refine zT_gos (f := 200000) (pc2 := 37) (ls2 := [(4, .int 0), (3, .ref 232), (2, .ref 162), (1, .ref 0), (0, .ref 11)]) (st2 := [.int (xs 0)]) (h2 := zH0) (dc2 := 117) (ds2 := 29934) 9 rfl ?_
  refine zT_gos (f := 200000) (pc2 := 40) (ls2 := [(4, .int 0), (3, .ref 232), (2, .ref 162), (1, .ref 0), (0, .ref 11)]) (st2 := [.int ((xs 0) &&& (63 : Int32))]) (h2 := zH0) (dc2 := 117) (ds2 := 29934) 2 rfl ?_
  refine zT_val h0 ?_
  refine zT_gos (f := 200000) (pc2 := 1169) (ls2 := [(4, .int 0), (3, .ref 232), (2, .ref 162), (1, .ref 0), (0, .ref 11)]) (st2 := [.int (xs 1), .ref 0]) (h2 := zH0) (dc2 := 117) (ds2 := 29934) 7 rfl ?_
  refine zT_val h1 ?_
  refine zT_gos (f := 200000) (pc2 := 1183) (ls2 := [(4, .int 0), (3, .ref 232), (2, .ref 162), (1, .ref 0), (0, .ref 11)]) (st2 := [.int (xs 2), .int 0, .ref 0]) (h2 := zH0) (dc2 := 117) (ds2 := 29934) 7 rfl ?_
  refine zT_val h2 ?_
  refine zT_gos (f := 200000) (pc2 := 1189) (ls2 := [(4, .int 0), (3, .ref 232), (2, .ref 162), (1, .ref 0), (0, .ref 11)]) (st2 := [.int (xs 3), .int 3, .int 0, .ref 0]) (h2 := zH0) (dc2 := 117) (ds2 := 29934) 5 rfl ?_
  refine zT_if0 false rfl (zc_eq_f (by show ((xs 3) : Int32).toInt ≠ 0; omega)) ?_
  refine zT_here (pc2 := 1192) rfl ?_
  refine zT_gos (f := 200000) (pc2 := 1197) (ls2 := [(4, .int 0), (3, .ref 232), (2, .ref 162), (1, .ref 0), (0, .ref 11)]) (st2 := [.int 1, .int 3, .int 0, .ref 0]) (h2 := zH0) (dc2 := 117) (ds2 := 29934) 2 rfl ?_
  refine zT_call rfl rfl (zT_le (zg0_le 6 xs) zk_o_84) ?_
  refine zT_here (pc2 := 1200) rfl ?_
  refine zT_gos (f := 200000) (pc2 := 1207) (ls2 := [(4, .int 0), (3, .ref 232), (2, .ref 162), (1, .ref 0), (0, .ref 11)]) (st2 := [.int (xs 1), .ref 162, .int 0]) (h2 := (((zH0.set 37 (.inr (.inr (.inr (3, [.ref 44, .ref 6, .ref 76, .ref 78, .ref 80, .ref 88, .int 1, .int 0, .ref 96, .int 0, .int 0, .int 0, .ref 98, .ref 100, .int 0]))))).set 40 (.inr (.inr (.inr (6, [.int 1, .long 70644700037184, .int 0, .ref 82, .ref 84, .ref 86]))))).set 43 (.inr (.inl (16, [70644700037184]))))) (dc2 := 117) (ds2 := 29934) 6 rfl ?_
  refine zT_val h1 ?_
  refine zT_gos (f := 200000) (pc2 := 1221) (ls2 := [(4, .int 0), (3, .ref 232), (2, .ref 162), (1, .ref 0), (0, .ref 11)]) (st2 := [.int (xs 2), .int 0, .ref 162, .int 0]) (h2 := (((zH0.set 37 (.inr (.inr (.inr (3, [.ref 44, .ref 6, .ref 76, .ref 78, .ref 80, .ref 88, .int 1, .int 0, .ref 96, .int 0, .int 0, .int 0, .ref 98, .ref 100, .int 0]))))).set 40 (.inr (.inr (.inr (6, [.int 1, .long 70644700037184, .int 0, .ref 82, .ref 84, .ref 86]))))).set 43 (.inr (.inl (16, [70644700037184]))))) (dc2 := 117) (ds2 := 29934) 7 rfl ?_
  refine zT_val h2 ?_
  refine zT_gos (f := 200000) (pc2 := 1227) (ls2 := [(4, .int 0), (3, .ref 232), (2, .ref 162), (1, .ref 0), (0, .ref 11)]) (st2 := [.int (xs 3), .int 3, .int 0, .ref 162, .int 0]) (h2 := (((zH0.set 37 (.inr (.inr (.inr (3, [.ref 44, .ref 6, .ref 76, .ref 78, .ref 80, .ref 88, .int 1, .int 0, .ref 96, .int 0, .int 0, .int 0, .ref 98, .ref 100, .int 0]))))).set 40 (.inr (.inr (.inr (6, [.int 1, .long 70644700037184, .int 0, .ref 82, .ref 84, .ref 86]))))).set 43 (.inr (.inl (16, [70644700037184]))))) (dc2 := 117) (ds2 := 29934) 5 rfl ?_
  refine zT_if0 false rfl (zc_eq_f (by show ((xs 3) : Int32).toInt ≠ 0; omega)) ?_
  refine zT_here (pc2 := 1230) rfl ?_
  refine zT_gos (f := 200000) (pc2 := 1235) (ls2 := [(4, .int 0), (3, .ref 232), (2, .ref 162), (1, .ref 0), (0, .ref 11)]) (st2 := [.int 1, .int 3, .int 0, .ref 162, .int 0]) (h2 := (((zH0.set 37 (.inr (.inr (.inr (3, [.ref 44, .ref 6, .ref 76, .ref 78, .ref 80, .ref 88, .int 1, .int 0, .ref 96, .int 0, .int 0, .int 0, .ref 98, .ref 100, .int 0]))))).set 40 (.inr (.inr (.inr (6, [.int 1, .long 70644700037184, .int 0, .ref 82, .ref 84, .ref 86]))))).set 43 (.inr (.inl (16, [70644700037184]))))) (dc2 := 117) (ds2 := 29934) 2 rfl ?_
  refine zT_call rfl rfl (zT_le (zg0_le 6 xs) zk_o_85) ?_
  refine zT_here (pc2 := 1238) rfl ?_
  refine zT_gos (f := 200000) (pc2 := 1811) (ls2 := [(4, .int 6), (3, .ref 232), (2, .ref 162), (1, .ref 0), (0, .ref 11)]) (st2 := [.int 1]) (h2 := (((((((zH0.set 37 (.inr (.inr (.inr (3, [.ref 44, .ref 6, .ref 76, .ref 78, .ref 80, .ref 88, .int 1, .int 0, .ref 96, .int 0, .int 0, .int 0, .ref 98, .ref 100, .int 0]))))).set 40 (.inr (.inr (.inr (6, [.int 1, .long 70644700037184, .int 0, .ref 82, .ref 84, .ref 86]))))).set 43 (.inr (.inl (16, [70644700037184])))).set 106 (.inl (2, 2, [1, 0]))).set 105 (.inl (0, 2, [0]))).set 107 (.inl (0, 132, [0, 0, 0, 0, 0, 0]))).set 109 (.inl (0, 22, [0])))) (dc2 := 117) (ds2 := 29934) 10 rfl ?_
  exact zT_ret rfl rfl
set_option maxRecDepth 1000000 in
theorem zk_o_86 : zT zg0 zF zP 126 0 [(0, .ref 0), (1, .int 0), (2, .int 4), (3, .int 1)] [] zH0 0 0 (some (.int 0), (((zH0.set 37 (.inr (.inr (.inr (3, [.ref 44, .ref 6, .ref 76, .ref 78, .ref 80, .ref 88, .int 1, .int 0, .ref 96, .int 0, .int 0, .int 0, .ref 98, .ref 100, .int 0]))))).set 40 (.inr (.inr (.inr (6, [.int 1, .long 70644700037184, .int 0, .ref 82, .ref 84, .ref 86]))))).set 43 (.inr (.inl (16, [70644700037184])))), 0, 0) := zclosed (n := 508) (by decide +kernel)
set_option maxRecDepth 1000000 in
theorem zk_o_87 : zT zg0 zF zP 257 0 [(0, .ref 162), (1, .int 0), (2, .int 4), (3, .int 1)] [] (((zH0.set 37 (.inr (.inr (.inr (3, [.ref 44, .ref 6, .ref 76, .ref 78, .ref 80, .ref 88, .int 1, .int 0, .ref 96, .int 0, .int 0, .int 0, .ref 98, .ref 100, .int 0]))))).set 40 (.inr (.inr (.inr (6, [.int 1, .long 70644700037184, .int 0, .ref 82, .ref 84, .ref 86]))))).set 43 (.inr (.inl (16, [70644700037184])))) 0 0 (some (.int 0), (((((((zH0.set 37 (.inr (.inr (.inr (3, [.ref 44, .ref 6, .ref 76, .ref 78, .ref 80, .ref 88, .int 1, .int 0, .ref 96, .int 0, .int 0, .int 0, .ref 98, .ref 100, .int 0]))))).set 40 (.inr (.inr (.inr (6, [.int 1, .long 70644700037184, .int 0, .ref 82, .ref 84, .ref 86]))))).set 43 (.inr (.inl (16, [70644700037184])))).set 106 (.inl (2, 2, [1, 0]))).set 105 (.inl (0, 2, [0]))).set 107 (.inl (0, 132, [0, 0, 0, 0, 0, 0]))).set 109 (.inl (0, 22, [0]))), 0, 0) := zclosed (n := 1965) (by decide +kernel)
set_option maxRecDepth 1000000 in
set_option maxHeartbeats 4000000 in
theorem zo_25_14 (xs : Nat → Int32) (h0 : xs 0 &&& 63 = 25) (h1 : xs 1 = 0) (h3 : (xs 3).toInt ≠ 0) (h2 : xs 2 = 4) : zDone xs := by
  refine ⟨(((((((zH0.set 37 (.inr (.inr (.inr (3, [.ref 44, .ref 6, .ref 76, .ref 78, .ref 80, .ref 88, .int 1, .int 0, .ref 96, .int 0, .int 0, .int 0, .ref 98, .ref 100, .int 0]))))).set 40 (.inr (.inr (.inr (6, [.int 1, .long 70644700037184, .int 0, .ref 82, .ref 84, .ref 86]))))).set 43 (.inr (.inl (16, [70644700037184])))).set 106 (.inl (2, 2, [1, 0]))).set 105 (.inl (0, 2, [0]))).set 107 (.inl (0, 132, [0, 0, 0, 0, 0, 0]))).set 109 (.inl (0, 22, [0]))), 117, 29934, ?_, by decide, by decide⟩
  refine zT_gos (f := 200000) (pc2 := 37) (ls2 := [(4, .int 0), (3, .ref 232), (2, .ref 162), (1, .ref 0), (0, .ref 11)]) (st2 := [.int (xs 0)]) (h2 := zH0) (dc2 := 117) (ds2 := 29934) 9 rfl ?_
  refine zT_gos (f := 200000) (pc2 := 40) (ls2 := [(4, .int 0), (3, .ref 232), (2, .ref 162), (1, .ref 0), (0, .ref 11)]) (st2 := [.int ((xs 0) &&& (63 : Int32))]) (h2 := zH0) (dc2 := 117) (ds2 := 29934) 2 rfl ?_
  refine zT_val h0 ?_
  refine zT_gos (f := 200000) (pc2 := 1169) (ls2 := [(4, .int 0), (3, .ref 232), (2, .ref 162), (1, .ref 0), (0, .ref 11)]) (st2 := [.int (xs 1), .ref 0]) (h2 := zH0) (dc2 := 117) (ds2 := 29934) 7 rfl ?_
  refine zT_val h1 ?_
  refine zT_gos (f := 200000) (pc2 := 1183) (ls2 := [(4, .int 0), (3, .ref 232), (2, .ref 162), (1, .ref 0), (0, .ref 11)]) (st2 := [.int (xs 2), .int 0, .ref 0]) (h2 := zH0) (dc2 := 117) (ds2 := 29934) 7 rfl ?_
  refine zT_val h2 ?_
  refine zT_gos (f := 200000) (pc2 := 1189) (ls2 := [(4, .int 0), (3, .ref 232), (2, .ref 162), (1, .ref 0), (0, .ref 11)]) (st2 := [.int (xs 3), .int 4, .int 0, .ref 0]) (h2 := zH0) (dc2 := 117) (ds2 := 29934) 5 rfl ?_
  refine zT_if0 false rfl (zc_eq_f (by show ((xs 3) : Int32).toInt ≠ 0; omega)) ?_
  refine zT_here (pc2 := 1192) rfl ?_
  refine zT_gos (f := 200000) (pc2 := 1197) (ls2 := [(4, .int 0), (3, .ref 232), (2, .ref 162), (1, .ref 0), (0, .ref 11)]) (st2 := [.int 1, .int 4, .int 0, .ref 0]) (h2 := zH0) (dc2 := 117) (ds2 := 29934) 2 rfl ?_
  refine zT_call rfl rfl (zT_le (zg0_le 6 xs) zk_o_86) ?_
  refine zT_here (pc2 := 1200) rfl ?_
  refine zT_gos (f := 200000) (pc2 := 1207) (ls2 := [(4, .int 0), (3, .ref 232), (2, .ref 162), (1, .ref 0), (0, .ref 11)]) (st2 := [.int (xs 1), .ref 162, .int 0]) (h2 := (((zH0.set 37 (.inr (.inr (.inr (3, [.ref 44, .ref 6, .ref 76, .ref 78, .ref 80, .ref 88, .int 1, .int 0, .ref 96, .int 0, .int 0, .int 0, .ref 98, .ref 100, .int 0]))))).set 40 (.inr (.inr (.inr (6, [.int 1, .long 70644700037184, .int 0, .ref 82, .ref 84, .ref 86]))))).set 43 (.inr (.inl (16, [70644700037184]))))) (dc2 := 117) (ds2 := 29934) 6 rfl ?_
  refine zT_val h1 ?_
  refine zT_gos (f := 200000) (pc2 := 1221) (ls2 := [(4, .int 0), (3, .ref 232), (2, .ref 162), (1, .ref 0), (0, .ref 11)]) (st2 := [.int (xs 2), .int 0, .ref 162, .int 0]) (h2 := (((zH0.set 37 (.inr (.inr (.inr (3, [.ref 44, .ref 6, .ref 76, .ref 78, .ref 80, .ref 88, .int 1, .int 0, .ref 96, .int 0, .int 0, .int 0, .ref 98, .ref 100, .int 0]))))).set 40 (.inr (.inr (.inr (6, [.int 1, .long 70644700037184, .int 0, .ref 82, .ref 84, .ref 86]))))).set 43 (.inr (.inl (16, [70644700037184]))))) (dc2 := 117) (ds2 := 29934) 7 rfl ?_
  refine zT_val h2 ?_
  refine zT_gos (f := 200000) (pc2 := 1227) (ls2 := [(4, .int 0), (3, .ref 232), (2, .ref 162), (1, .ref 0), (0, .ref 11)]) (st2 := [.int (xs 3), .int 4, .int 0, .ref 162, .int 0]) (h2 := (((zH0.set 37 (.inr (.inr (.inr (3, [.ref 44, .ref 6, .ref 76, .ref 78, .ref 80, .ref 88, .int 1, .int 0, .ref 96, .int 0, .int 0, .int 0, .ref 98, .ref 100, .int 0]))))).set 40 (.inr (.inr (.inr (6, [.int 1, .long 70644700037184, .int 0, .ref 82, .ref 84, .ref 86]))))).set 43 (.inr (.inl (16, [70644700037184]))))) (dc2 := 117) (ds2 := 29934) 5 rfl ?_
  refine zT_if0 false rfl (zc_eq_f (by show ((xs 3) : Int32).toInt ≠ 0; omega)) ?_
  refine zT_here (pc2 := 1230) rfl ?_
  refine zT_gos (f := 200000) (pc2 := 1235) (ls2 := [(4, .int 0), (3, .ref 232), (2, .ref 162), (1, .ref 0), (0, .ref 11)]) (st2 := [.int 1, .int 4, .int 0, .ref 162, .int 0]) (h2 := (((zH0.set 37 (.inr (.inr (.inr (3, [.ref 44, .ref 6, .ref 76, .ref 78, .ref 80, .ref 88, .int 1, .int 0, .ref 96, .int 0, .int 0, .int 0, .ref 98, .ref 100, .int 0]))))).set 40 (.inr (.inr (.inr (6, [.int 1, .long 70644700037184, .int 0, .ref 82, .ref 84, .ref 86]))))).set 43 (.inr (.inl (16, [70644700037184]))))) (dc2 := 117) (ds2 := 29934) 2 rfl ?_
  refine zT_call rfl rfl (zT_le (zg0_le 6 xs) zk_o_87) ?_
  refine zT_here (pc2 := 1238) rfl ?_
  refine zT_gos (f := 200000) (pc2 := 1811) (ls2 := [(4, .int 6), (3, .ref 232), (2, .ref 162), (1, .ref 0), (0, .ref 11)]) (st2 := [.int 1]) (h2 := (((((((zH0.set 37 (.inr (.inr (.inr (3, [.ref 44, .ref 6, .ref 76, .ref 78, .ref 80, .ref 88, .int 1, .int 0, .ref 96, .int 0, .int 0, .int 0, .ref 98, .ref 100, .int 0]))))).set 40 (.inr (.inr (.inr (6, [.int 1, .long 70644700037184, .int 0, .ref 82, .ref 84, .ref 86]))))).set 43 (.inr (.inl (16, [70644700037184])))).set 106 (.inl (2, 2, [1, 0]))).set 105 (.inl (0, 2, [0]))).set 107 (.inl (0, 132, [0, 0, 0, 0, 0, 0]))).set 109 (.inl (0, 22, [0])))) (dc2 := 117) (ds2 := 29934) 10 rfl ?_
  exact zT_ret rfl rfl
set_option maxRecDepth 1000000 in
theorem zk_o_88 : zT zg0 zF zP 126 0 [(0, .ref 0), (1, .int 0), (2, .int 5), (3, .int 1)] [] zH0 0 0 (some (.int 0), (((zH0.set 37 (.inr (.inr (.inr (3, [.ref 44, .ref 6, .ref 76, .ref 78, .ref 80, .ref 88, .int 1, .int 0, .ref 96, .int 0, .int 0, .int 0, .ref 98, .ref 100, .int 0]))))).set 40 (.inr (.inr (.inr (6, [.int 1, .long 70644700037184, .int 0, .ref 82, .ref 84, .ref 86]))))).set 43 (.inr (.inl (16, [70644700037184])))), 0, 0) := zclosed (n := 508) (by decide +kernel)
set_option maxRecDepth 1000000 in
theorem zk_o_89 : zT zg0 zF zP 257 0 [(0, .ref 162), (1, .int 0), (2, .int 5), (3, .int 1)] [] (((zH0.set 37 (.inr (.inr (.inr (3, [.ref 44, .ref 6, .ref 76, .ref 78, .ref 80, .ref 88, .int 1, .int 0, .ref 96, .int 0, .int 0, .int 0, .ref 98, .ref 100, .int 0]))))).set 40 (.inr (.inr (.inr (6, [.int 1, .long 70644700037184, .int 0, .ref 82, .ref 84, .ref 86]))))).set 43 (.inr (.inl (16, [70644700037184])))) 0 0 (some (.int 0), (((((((zH0.set 37 (.inr (.inr (.inr (3, [.ref 44, .ref 6, .ref 76, .ref 78, .ref 80, .ref 88, .int 1, .int 0, .ref 96, .int 0, .int 0, .int 0, .ref 98, .ref 100, .int 0]))))).set 40 (.inr (.inr (.inr (6, [.int 1, .long 70644700037184, .int 0, .ref 82, .ref 84, .ref 86]))))).set 43 (.inr (.inl (16, [70644700037184])))).set 106 (.inl (2, 2, [1, 0]))).set 105 (.inl (0, 2, [0]))).set 107 (.inl (0, 132, [0, 0, 0, 0, 0, 0]))).set 109 (.inl (0, 22, [0]))), 0, 0) := zclosed (n := 1965) (by decide +kernel)
set_option maxRecDepth 1000000 in
set_option maxHeartbeats 4000000 in
theorem zo_25_15 (xs : Nat → Int32) (h0 : xs 0 &&& 63 = 25) (h1 : xs 1 = 0) (h3 : (xs 3).toInt ≠ 0) (h2 : xs 2 = 5) : zDone xs := by
  refine ⟨(((((((zH0.set 37 (.inr (.inr (.inr (3, [.ref 44, .ref 6, .ref 76, .ref 78, .ref 80, .ref 88, .int 1, .int 0, .ref 96, .int 0, .int 0, .int 0, .ref 98, .ref 100, .int 0]))))).set 40 (.inr (.inr (.inr (6, [.int 1, .long 70644700037184, .int 0, .ref 82, .ref 84, .ref 86]))))).set 43 (.inr (.inl (16, [70644700037184])))).set 106 (.inl (2, 2, [1, 0]))).set 105 (.inl (0, 2, [0]))).set 107 (.inl (0, 132, [0, 0, 0, 0, 0, 0]))).set 109 (.inl (0, 22, [0]))), 117, 29934, ?_, by decide, by decide⟩
  refine zT_gos (f := 200000) (pc2 := 37) (ls2 := [(4, .int 0), (3, .ref 232), (2, .ref 162), (1, .ref 0), (0, .ref 11)]) (st2 := [.int (xs 0)]) (h2 := zH0) (dc2 := 117) (ds2 := 29934) 9 rfl ?_
  refine zT_gos (f := 200000) (pc2 := 40) (ls2 := [(4, .int 0), (3, .ref 232), (2, .ref 162), (1, .ref 0), (0, .ref 11)]) (st2 := [.int ((xs 0) &&& (63 : Int32))]) (h2 := zH0) (dc2 := 117) (ds2 := 29934) 2 rfl ?_
  refine zT_val h0 ?_
  refine zT_gos (f := 200000) (pc2 := 1169) (ls2 := [(4, .int 0), (3, .ref 232), (2, .ref 162), (1, .ref 0), (0, .ref 11)]) (st2 := [.int (xs 1), .ref 0]) (h2 := zH0) (dc2 := 117) (ds2 := 29934) 7 rfl ?_
  refine zT_val h1 ?_
  refine zT_gos (f := 200000) (pc2 := 1183) (ls2 := [(4, .int 0), (3, .ref 232), (2, .ref 162), (1, .ref 0), (0, .ref 11)]) (st2 := [.int (xs 2), .int 0, .ref 0]) (h2 := zH0) (dc2 := 117) (ds2 := 29934) 7 rfl ?_
  refine zT_val h2 ?_
  refine zT_gos (f := 200000) (pc2 := 1189) (ls2 := [(4, .int 0), (3, .ref 232), (2, .ref 162), (1, .ref 0), (0, .ref 11)]) (st2 := [.int (xs 3), .int 5, .int 0, .ref 0]) (h2 := zH0) (dc2 := 117) (ds2 := 29934) 5 rfl ?_
  refine zT_if0 false rfl (zc_eq_f (by show ((xs 3) : Int32).toInt ≠ 0; omega)) ?_
  refine zT_here (pc2 := 1192) rfl ?_
  refine zT_gos (f := 200000) (pc2 := 1197) (ls2 := [(4, .int 0), (3, .ref 232), (2, .ref 162), (1, .ref 0), (0, .ref 11)]) (st2 := [.int 1, .int 5, .int 0, .ref 0]) (h2 := zH0) (dc2 := 117) (ds2 := 29934) 2 rfl ?_
  refine zT_call rfl rfl (zT_le (zg0_le 6 xs) zk_o_88) ?_
  refine zT_here (pc2 := 1200) rfl ?_
  refine zT_gos (f := 200000) (pc2 := 1207) (ls2 := [(4, .int 0), (3, .ref 232), (2, .ref 162), (1, .ref 0), (0, .ref 11)]) (st2 := [.int (xs 1), .ref 162, .int 0]) (h2 := (((zH0.set 37 (.inr (.inr (.inr (3, [.ref 44, .ref 6, .ref 76, .ref 78, .ref 80, .ref 88, .int 1, .int 0, .ref 96, .int 0, .int 0, .int 0, .ref 98, .ref 100, .int 0]))))).set 40 (.inr (.inr (.inr (6, [.int 1, .long 70644700037184, .int 0, .ref 82, .ref 84, .ref 86]))))).set 43 (.inr (.inl (16, [70644700037184]))))) (dc2 := 117) (ds2 := 29934) 6 rfl ?_
  refine zT_val h1 ?_
  refine zT_gos (f := 200000) (pc2 := 1221) (ls2 := [(4, .int 0), (3, .ref 232), (2, .ref 162), (1, .ref 0), (0, .ref 11)]) (st2 := [.int (xs 2), .int 0, .ref 162, .int 0]) (h2 := (((zH0.set 37 (.inr (.inr (.inr (3, [.ref 44, .ref 6, .ref 76, .ref 78, .ref 80, .ref 88, .int 1, .int 0, .ref 96, .int 0, .int 0, .int 0, .ref 98, .ref 100, .int 0]))))).set 40 (.inr (.inr (.inr (6, [.int 1, .long 70644700037184, .int 0, .ref 82, .ref 84, .ref 86]))))).set 43 (.inr (.inl (16, [70644700037184]))))) (dc2 := 117) (ds2 := 29934) 7 rfl ?_
  refine zT_val h2 ?_
  refine zT_gos (f := 200000) (pc2 := 1227) (ls2 := [(4, .int 0), (3, .ref 232), (2, .ref 162), (1, .ref 0), (0, .ref 11)]) (st2 := [.int (xs 3), .int 5, .int 0, .ref 162, .int 0]) (h2 := (((zH0.set 37 (.inr (.inr (.inr (3, [.ref 44, .ref 6, .ref 76, .ref 78, .ref 80, .ref 88, .int 1, .int 0, .ref 96, .int 0, .int 0, .int 0, .ref 98, .ref 100, .int 0]))))).set 40 (.inr (.inr (.inr (6, [.int 1, .long 70644700037184, .int 0, .ref 82, .ref 84, .ref 86]))))).set 43 (.inr (.inl (16, [70644700037184]))))) (dc2 := 117) (ds2 := 29934) 5 rfl ?_
  refine zT_if0 false rfl (zc_eq_f (by show ((xs 3) : Int32).toInt ≠ 0; omega)) ?_
  refine zT_here (pc2 := 1230) rfl ?_
  refine zT_gos (f := 200000) (pc2 := 1235) (ls2 := [(4, .int 0), (3, .ref 232), (2, .ref 162), (1, .ref 0), (0, .ref 11)]) (st2 := [.int 1, .int 5, .int 0, .ref 162, .int 0]) (h2 := (((zH0.set 37 (.inr (.inr (.inr (3, [.ref 44, .ref 6, .ref 76, .ref 78, .ref 80, .ref 88, .int 1, .int 0, .ref 96, .int 0, .int 0, .int 0, .ref 98, .ref 100, .int 0]))))).set 40 (.inr (.inr (.inr (6, [.int 1, .long 70644700037184, .int 0, .ref 82, .ref 84, .ref 86]))))).set 43 (.inr (.inl (16, [70644700037184]))))) (dc2 := 117) (ds2 := 29934) 2 rfl ?_
  refine zT_call rfl rfl (zT_le (zg0_le 6 xs) zk_o_89) ?_
  refine zT_here (pc2 := 1238) rfl ?_
  refine zT_gos (f := 200000) (pc2 := 1811) (ls2 := [(4, .int 6), (3, .ref 232), (2, .ref 162), (1, .ref 0), (0, .ref 11)]) (st2 := [.int 1]) (h2 := (((((((zH0.set 37 (.inr (.inr (.inr (3, [.ref 44, .ref 6, .ref 76, .ref 78, .ref 80, .ref 88, .int 1, .int 0, .ref 96, .int 0, .int 0, .int 0, .ref 98, .ref 100, .int 0]))))).set 40 (.inr (.inr (.inr (6, [.int 1, .long 70644700037184, .int 0, .ref 82, .ref 84, .ref 86]))))).set 43 (.inr (.inl (16, [70644700037184])))).set 106 (.inl (2, 2, [1, 0]))).set 105 (.inl (0, 2, [0]))).set 107 (.inl (0, 132, [0, 0, 0, 0, 0, 0]))).set 109 (.inl (0, 22, [0])))) (dc2 := 117) (ds2 := 29934) 10 rfl ?_
  exact zT_ret rfl rfl
set_option maxRecDepth 1000000 in
set_option maxHeartbeats 4000000 in
theorem zo_25_16 (xs : Nat → Int32) (h0 : xs 0 &&& 63 = 25) (h1 : (xs 1).toInt ≠ 0) (h3 : xs 3 = 0) (h2 : (xs 2).toInt < 0) : zDone xs := by
  refine ⟨zH0, 117, 29934, ?_, by decide, by decide⟩
  refine zT_gos (f := 200000) (pc2 := 37) (ls2 := [(4, .int 0), (3, .ref 232), (2, .ref 162), (1, .ref 0), (0, .ref 11)]) (st2 := [.int (xs 0)]) (h2 := zH0) (dc2 := 117) (ds2 := 29934) 9 rfl ?_
  refine zT_gos (f := 200000) (pc2 := 40) (ls2 := [(4, .int 0), (3, .ref 232), (2, .ref 162), (1, .ref 0), (0, .ref 11)]) (st2 := [.int ((xs 0) &&& (63 : Int32))]) (h2 := zH0) (dc2 := 117) (ds2 := 29934) 2 rfl ?_
  refine zT_val h0 ?_
  refine zT_gos (f := 200000) (pc2 := 1169) (ls2 := [(4, .int 0), (3, .ref 232), (2, .ref 162), (1, .ref 0), (0, .ref 11)]) (st2 := [.int (xs 1), .ref 0]) (h2 := zH0) (dc2 := 117) (ds2 := 29934) 7 rfl ?_
  refine zT_if0 false rfl (zc_eq_f (by show ((xs 1) : Int32).toInt ≠ 0; omega)) ?_
  refine zT_here (pc2 := 1172) rfl ?_
  refine zT_gos (f := 200000) (pc2 := 1183) (ls2 := [(4, .int 0), (3, .ref 232), (2, .ref 162), (1, .ref 0), (0, .ref 11)]) (st2 := [.int (xs 2), .int 1, .ref 0]) (h2 := zH0) (dc2 := 117) (ds2 := 29934) 7 rfl ?_
  refine zT_gos (f := 200000) (pc2 := 1189) (ls2 := [(4, .int 0), (3, .ref 232), (2, .ref 162), (1, .ref 0), (0, .ref 11)]) (st2 := [.int (xs 3), .int (xs 2), .int 1, .ref 0]) (h2 := zH0) (dc2 := 117) (ds2 := 29934) 5 rfl ?_
  refine zT_val h3 ?_
  refine zT_gos (f := 200000) (pc2 := 1197) (ls2 := [(4, .int 0), (3, .ref 232), (2, .ref 162), (1, .ref 0), (0, .ref 11)]) (st2 := [.int 0, .int (xs 2), .int 1, .ref 0]) (h2 := zH0) (dc2 := 117) (ds2 := 29934) 2 rfl ?_
  refine zT_call (v := some (.int (-1))) (h2 := zH0) (d1 := 0) (s1 := 0) rfl rfl ?_ ?_
  · refine zT_gos (f := 200000) (pc2 := 1) (ls2 := [(0, .ref 0), (1, .int 1), (2, .int (xs 2)), (3, .int 0)]) (st2 := [.int (xs 2)]) (h2 := zH0) (dc2 := 0) (ds2 := 0) 1 rfl ?_
    refine zT_call (v := some (.int 1)) (h2 := zH0) (d1 := 0) (s1 := 0) rfl rfl ?_ ?_
    · refine zT_gos (f := 200000) (pc2 := 1) (ls2 := [(0, .int (xs 2))]) (st2 := [.int (xs 2)]) (h2 := zH0) (dc2 := 0) (ds2 := 0) 1 rfl ?_
      refine zT_if0 true rfl (zc_lt_t (by show ((xs 2) : Int32).toInt < 0; omega)) ?_
      refine zT_here (pc2 := 10) rfl ?_
      refine zT_gos (f := 200000) (pc2 := 15) (ls2 := [(0, .int (xs 2))]) (st2 := [.int 1]) (h2 := zH0) (dc2 := 0) (ds2 := 0) 2 rfl ?_
      exact zT_ret rfl rfl
    refine zT_here (pc2 := 4) rfl ?_
    refine zT_gos (f := 200000) (pc2 := 8) (ls2 := [(0, .ref 0), (1, .int 1), (2, .int (xs 2)), (3, .int 0)]) (st2 := [.int (-1)]) (h2 := zH0) (dc2 := 0) (ds2 := 0) 2 rfl ?_
    exact zT_ret rfl rfl
  refine zT_here (pc2 := 1200) rfl ?_
  refine zT_gos (f := 200000) (pc2 := 1207) (ls2 := [(4, .int 0), (3, .ref 232), (2, .ref 162), (1, .ref 0), (0, .ref 11)]) (st2 := [.int (xs 1), .ref 162, .int (-1)]) (h2 := zH0) (dc2 := 117) (ds2 := 29934) 6 rfl ?_
  refine zT_if0 false rfl (zc_eq_f (by show ((xs 1) : Int32).toInt ≠ 0; omega)) ?_
  refine zT_here (pc2 := 1210) rfl ?_
  refine zT_gos (f := 200000) (pc2 := 1221) (ls2 := [(4, .int 0), (3, .ref 232), (2, .ref 162), (1, .ref 0), (0, .ref 11)]) (st2 := [.int (xs 2), .int 1, .ref 162, .int (-1)]) (h2 := zH0) (dc2 := 117) (ds2 := 29934) 7 rfl ?_
  refine zT_gos (f := 200000) (pc2 := 1227) (ls2 := [(4, .int 0), (3, .ref 232), (2, .ref 162), (1, .ref 0), (0, .ref 11)]) (st2 := [.int (xs 3), .int (xs 2), .int 1, .ref 162, .int (-1)]) (h2 := zH0) (dc2 := 117) (ds2 := 29934) 5 rfl ?_
  refine zT_val h3 ?_
  refine zT_gos (f := 200000) (pc2 := 1235) (ls2 := [(4, .int 0), (3, .ref 232), (2, .ref 162), (1, .ref 0), (0, .ref 11)]) (st2 := [.int 0, .int (xs 2), .int 1, .ref 162, .int (-1)]) (h2 := zH0) (dc2 := 117) (ds2 := 29934) 2 rfl ?_
  refine zT_call (v := some (.int (-1))) (h2 := zH0) (d1 := 0) (s1 := 0) rfl rfl ?_ ?_
  · refine zT_gos (f := 200000) (pc2 := 6) (ls2 := [(0, .ref 162), (1, .int 1), (2, .int (xs 2)), (3, .int 0)]) (st2 := [.int (xs 2)]) (h2 := zH0) (dc2 := 0) (ds2 := 0) 4 rfl ?_
    refine zT_call (v := some (.int 0)) (h2 := zH0) (d1 := 0) (s1 := 0) rfl rfl ?_ ?_
    · refine zT_gos (f := 200000) (pc2 := 1) (ls2 := [(0, .int (xs 2))]) (st2 := [.int (xs 2)]) (h2 := zH0) (dc2 := 0) (ds2 := 0) 1 rfl ?_
      refine zT_if0 true rfl (zc_lt_t (by show ((xs 2) : Int32).toInt < 0; omega)) ?_
      refine zT_here (pc2 := 14) rfl ?_
      refine zT_gos (f := 200000) (pc2 := 15) (ls2 := [(0, .int (xs 2))]) (st2 := [.int 0]) (h2 := zH0) (dc2 := 0) (ds2 := 0) 1 rfl ?_
      exact zT_ret rfl rfl
    refine zT_here (pc2 := 9) rfl ?_
    refine zT_gos (f := 200000) (pc2 := 13) (ls2 := [(0, .ref 162), (1, .int 1), (2, .int (xs 2)), (3, .int 0)]) (st2 := [.int (-1)]) (h2 := zH0) (dc2 := 0) (ds2 := 0) 2 rfl ?_
    exact zT_ret rfl rfl
  refine zT_here (pc2 := 1238) rfl ?_
  refine zT_gos (f := 200000) (pc2 := 1811) (ls2 := [(4, .int 6), (3, .ref 232), (2, .ref 162), (1, .ref 0), (0, .ref 11)]) (st2 := [.int 1]) (h2 := zH0) (dc2 := 117) (ds2 := 29934) 10 rfl ?_
  exact zT_ret rfl rfl
set_option maxRecDepth 1000000 in
set_option maxHeartbeats 4000000 in
theorem zo_25_17 (xs : Nat → Int32) (h0 : xs 0 &&& 63 = 25) (h1 : (xs 1).toInt ≠ 0) (h3 : xs 3 = 0) (h2 : 5 < (xs 2).toInt) : zDone xs := by
  refine ⟨zH0, 117, 29934, ?_, by decide, by decide⟩
  refine zT_gos (f := 200000) (pc2 := 37) (ls2 := [(4, .int 0), (3, .ref 232), (2, .ref 162), (1, .ref 0), (0, .ref 11)]) (st2 := [.int (xs 0)]) (h2 := zH0) (dc2 := 117) (ds2 := 29934) 9 rfl ?_
  refine zT_gos (f := 200000) (pc2 := 40) (ls2 := [(4, .int 0), (3, .ref 232), (2, .ref 162), (1, .ref 0), (0, .ref 11)]) (st2 := [.int ((xs 0) &&& (63 : Int32))]) (h2 := zH0) (dc2 := 117) (ds2 := 29934) 2 rfl ?_
  refine zT_val h0 ?_
  refine zT_gos (f := 200000) (pc2 := 1169) (ls2 := [(4, .int 0), (3, .ref 232), (2, .ref 162), (1, .ref 0), (0, .ref 11)]) (st2 := [.int (xs 1), .ref 0]) (h2 := zH0) (dc2 := 117) (ds2 := 29934) 7 rfl ?_
  refine zT_if0 false rfl (zc_eq_f (by show ((xs 1) : Int32).toInt ≠ 0; omega)) ?_
  refine zT_here (pc2 := 1172) rfl ?_
  refine zT_gos (f := 200000) (pc2 := 1183) (ls2 := [(4, .int 0), (3, .ref 232), (2, .ref 162), (1, .ref 0), (0, .ref 11)]) (st2 := [.int (xs 2), .int 1, .ref 0]) (h2 := zH0) (dc2 := 117) (ds2 := 29934) 7 rfl ?_
  refine zT_gos (f := 200000) (pc2 := 1189) (ls2 := [(4, .int 0), (3, .ref 232), (2, .ref 162), (1, .ref 0), (0, .ref 11)]) (st2 := [.int (xs 3), .int (xs 2), .int 1, .ref 0]) (h2 := zH0) (dc2 := 117) (ds2 := 29934) 5 rfl ?_
  refine zT_val h3 ?_
  refine zT_gos (f := 200000) (pc2 := 1197) (ls2 := [(4, .int 0), (3, .ref 232), (2, .ref 162), (1, .ref 0), (0, .ref 11)]) (st2 := [.int 0, .int (xs 2), .int 1, .ref 0]) (h2 := zH0) (dc2 := 117) (ds2 := 29934) 2 rfl ?_
  refine zT_call (v := some (.int (-1))) (h2 := zH0) (d1 := 0) (s1 := 0) rfl rfl ?_ ?_
  · refine zT_gos (f := 200000) (pc2 := 1) (ls2 := [(0, .ref 0), (1, .int 1), (2, .int (xs 2)), (3, .int 0)]) (st2 := [.int (xs 2)]) (h2 := zH0) (dc2 := 0) (ds2 := 0) 1 rfl ?_
    refine zT_call (v := some (.int 1)) (h2 := zH0) (d1 := 0) (s1 := 0) rfl rfl ?_ ?_
    · refine zT_gos (f := 200000) (pc2 := 1) (ls2 := [(0, .int (xs 2))]) (st2 := [.int (xs 2)]) (h2 := zH0) (dc2 := 0) (ds2 := 0) 1 rfl ?_
      refine zT_if0 false rfl (zc_lt_f (by show ((xs 2) : Int32).toInt ≥ 0; omega)) ?_
      refine zT_here (pc2 := 4) rfl ?_
      refine zT_gos (f := 200000) (pc2 := 7) (ls2 := [(0, .int (xs 2))]) (st2 := [.int 6, .int (xs 2)]) (h2 := zH0) (dc2 := 0) (ds2 := 0) 2 rfl ?_
      refine zT_if2 false rfl (zc_lt_f (by show ((xs 2) : Int32).toInt ≥ 6; omega)) ?_
      refine zT_here (pc2 := 10) rfl ?_
      refine zT_gos (f := 200000) (pc2 := 15) (ls2 := [(0, .int (xs 2))]) (st2 := [.int 1]) (h2 := zH0) (dc2 := 0) (ds2 := 0) 2 rfl ?_
      exact zT_ret rfl rfl
    refine zT_here (pc2 := 4) rfl ?_
    refine zT_gos (f := 200000) (pc2 := 8) (ls2 := [(0, .ref 0), (1, .int 1), (2, .int (xs 2)), (3, .int 0)]) (st2 := [.int (-1)]) (h2 := zH0) (dc2 := 0) (ds2 := 0) 2 rfl ?_
    exact zT_ret rfl rfl
  refine zT_here (pc2 := 1200) rfl ?_
  refine zT_gos (f := 200000) (pc2 := 1207) (ls2 := [(4, .int 0), (3, .ref 232), (2, .ref 162), (1, .ref 0), (0, .ref 11)]) (st2 := [.int (xs 1), .ref 162, .int (-1)]) (h2 := zH0) (dc2 := 117) (ds2 := 29934) 6 rfl ?_
  refine zT_if0 false rfl (zc_eq_f (by show ((xs 1) : Int32).toInt ≠ 0; omega)) ?_
  refine zT_here (pc2 := 1210) rfl ?_
  refine zT_gos (f := 200000) (pc2 := 1221) (ls2 := [(4, .int 0), (3, .ref 232), (2, .ref 162), (1, .ref 0), (0, .ref 11)]) (st2 := [.int (xs 2), .int 1, .ref 162, .int (-1)]) (h2 := zH0) (dc2 := 117) (ds2 := 29934) 7 rfl ?_
  refine zT_gos (f := 200000) (pc2 := 1227) (ls2 := [(4, .int 0), (3, .ref 232), (2, .ref 162), (1, .ref 0), (0, .ref 11)]) (st2 := [.int (xs 3), .int (xs 2), .int 1, .ref 162, .int (-1)]) (h2 := zH0) (dc2 := 117) (ds2 := 29934) 5 rfl ?_
  refine zT_val h3 ?_
  refine zT_gos (f := 200000) (pc2 := 1235) (ls2 := [(4, .int 0), (3, .ref 232), (2, .ref 162), (1, .ref 0), (0, .ref 11)]) (st2 := [.int 0, .int (xs 2), .int 1, .ref 162, .int (-1)]) (h2 := zH0) (dc2 := 117) (ds2 := 29934) 2 rfl ?_
  refine zT_call (v := some (.int (-1))) (h2 := zH0) (d1 := 0) (s1 := 0) rfl rfl ?_ ?_
  · refine zT_gos (f := 200000) (pc2 := 6) (ls2 := [(0, .ref 162), (1, .int 1), (2, .int (xs 2)), (3, .int 0)]) (st2 := [.int (xs 2)]) (h2 := zH0) (dc2 := 0) (ds2 := 0) 4 rfl ?_
    refine zT_call (v := some (.int 0)) (h2 := zH0) (d1 := 0) (s1 := 0) rfl rfl ?_ ?_
    · refine zT_gos (f := 200000) (pc2 := 1) (ls2 := [(0, .int (xs 2))]) (st2 := [.int (xs 2)]) (h2 := zH0) (dc2 := 0) (ds2 := 0) 1 rfl ?_
      refine zT_if0 false rfl (zc_lt_f (by show ((xs 2) : Int32).toInt ≥ 0; omega)) ?_
      refine zT_here (pc2 := 4) rfl ?_
      refine zT_gos (f := 200000) (pc2 := 7) (ls2 := [(0, .int (xs 2))]) (st2 := [.int 6, .int (xs 2)]) (h2 := zH0) (dc2 := 0) (ds2 := 0) 2 rfl ?_
      refine zT_if2 true rfl (zc_ge_t (by show ((xs 2) : Int32).toInt ≥ 6; omega)) ?_
      refine zT_here (pc2 := 14) rfl ?_
      refine zT_gos (f := 200000) (pc2 := 15) (ls2 := [(0, .int (xs 2))]) (st2 := [.int 0]) (h2 := zH0) (dc2 := 0) (ds2 := 0) 1 rfl ?_
      exact zT_ret rfl rfl
    refine zT_here (pc2 := 9) rfl ?_
    refine zT_gos (f := 200000) (pc2 := 13) (ls2 := [(0, .ref 162), (1, .int 1), (2, .int (xs 2)), (3, .int 0)]) (st2 := [.int (-1)]) (h2 := zH0) (dc2 := 0) (ds2 := 0) 2 rfl ?_
    exact zT_ret rfl rfl
  refine zT_here (pc2 := 1238) rfl ?_
  refine zT_gos (f := 200000) (pc2 := 1811) (ls2 := [(4, .int 6), (3, .ref 232), (2, .ref 162), (1, .ref 0), (0, .ref 11)]) (st2 := [.int 1]) (h2 := zH0) (dc2 := 117) (ds2 := 29934) 10 rfl ?_
  exact zT_ret rfl rfl
set_option maxRecDepth 1000000 in
theorem zk_o_90 : zT zg0 zF zP 126 0 [(0, .ref 0), (1, .int 1), (2, .int 0), (3, .int 0)] [] zH0 0 0 (some (.int 0), (((zH0.set 37 (.inr (.inr (.inr (3, [.ref 44, .ref 6, .ref 76, .ref 78, .ref 80, .ref 88, .int 1, .int 0, .ref 96, .int 0, .int 0, .int 0, .ref 98, .ref 100, .int 0]))))).set 44 (.inr (.inr (.inr (6, [.int 1, .long 70644700037184, .int 0, .ref 90, .ref 92, .ref 94]))))).set 47 (.inr (.inl (16, [70644700037184])))), 0, 0) := zclosed (n := 130) (by decide +kernel)
set_option maxRecDepth 1000000 in
theorem zk_o_91 : zT zg0 zF zP 257 0 [(0, .ref 162), (1, .int 1), (2, .int 0), (3, .int 0)] [] (((zH0.set 37 (.inr (.inr (.inr (3, [.ref 44, .ref 6, .ref 76, .ref 78, .ref 80, .ref 88, .int 1, .int 0, .ref 96, .int 0, .int 0, .int 0, .ref 98, .ref 100, .int 0]))))).set 44 (.inr (.inr (.inr (6, [.int 1, .long 70644700037184, .int 0, .ref 90, .ref 92, .ref 94]))))).set 47 (.inr (.inl (16, [70644700037184])))) 0 0 (some (.int 0), (((((((zH0.set 37 (.inr (.inr (.inr (3, [.ref 44, .ref 6, .ref 76, .ref 78, .ref 80, .ref 88, .int 1, .int 0, .ref 96, .int 0, .int 0, .int 0, .ref 98, .ref 100, .int 0]))))).set 44 (.inr (.inr (.inr (6, [.int 1, .long 70644700037184, .int 0, .ref 90, .ref 92, .ref 94]))))).set 47 (.inr (.inl (16, [70644700037184])))).set 106 (.inl (2, 2, [0, 1]))).set 105 (.inl (0, 2, [0, 0]))).set 107 (.inl (0, 132, [0, 0, 0, 0, 0, 0, 0, 0, 0, 0, 0, 0, 0, 0, 0, 0, 0, 0, 0, 0, 0, 0, 0, 0, 0, 0, 0, 0, 0, 0, 0, 0, 0, 0, 0, 0, 0, 0, 0, 0, 0, 0, 0, 0, 0, 0, 0, 0, 0, 0, 0, 0, 0, 0, 0, 0, 0, 0, 0, 0, 0, 0, 0, 0, 0, 0, 0, 0, 0, 0, 0, 0]))).set 109 (.inl (0, 22, [0, 0, 0, 0, 0, 0, 0, 0, 0, 0, 0, 0]))), 0, 0) := zclosed (n := 224) (by decide +kernel)
set_option maxRecDepth 1000000 in
set_option maxHeartbeats 4000000 in
theorem zo_25_18 (xs : Nat → Int32) (h0 : xs 0 &&& 63 = 25) (h1 : (xs 1).toInt ≠ 0) (h3 : xs 3 = 0) (h2 : xs 2 = 0) : zDone xs := by
  refine ⟨(((((((zH0.set 37 (.inr (.inr (.inr (3, [.ref 44, .ref 6, .ref 76, .ref 78, .ref 80, .ref 88, .int 1, .int 0, .ref 96, .int 0, .int 0, .int 0, .ref 98, .ref 100, .int 0]))))).set 44 (.inr (.inr (.inr (6, [.int 1, .long 70644700037184, .int 0, .ref 90, .ref 92, .ref 94]))))).set 47 (.inr (.inl (16, [70644700037184])))).set 106 (.inl (2, 2, [0, 1]))).set 105 (.inl (0, 2, [0, 0]))).set 107 (.inl (0, 132, [0, 0, 0, 0, 0, 0, 0, 0, 0, 0, 0, 0, 0, 0, 0, 0, 0, 0, 0, 0, 0, 0, 0, 0, 0, 0, 0, 0, 0, 0, 0, 0, 0, 0, 0, 0, 0, 0, 0, 0, 0, 0, 0, 0, 0, 0, 0, 0, 0, 0, 0, 0, 0, 0, 0, 0, 0, 0, 0, 0, 0, 0, 0, 0, 0, 0, 0, 0, 0, 0, 0, 0]))).set 109 (.inl (0, 22, [0, 0, 0, 0, 0, 0, 0, 0, 0, 0, 0, 0]))), 117, 29934, ?_, by decide, by decide⟩
  refine zT_gos (f := 200000) (pc2 := 37) (ls2 := [(4, .int 0), (3, .ref 232), (2, .ref 162), (1, .ref 0), (0, .ref 11)]) (st2 := [.int (xs 0)]) (h2 := zH0) (dc2 := 117) (ds2 := 29934) 9 rfl ?_
  refine zT_gos (f := 200000) (pc2 := 40) (ls2 := [(4, .int 0), (3, .ref 232), (2, .ref 162), (1, .ref 0), (0, .ref 11)]) (st2 := [.int ((xs 0) &&& (63 : Int32))]) (h2 := zH0) (dc2 := 117) (ds2 := 29934) 2 rfl ?_
  refine zT_val h0 ?_
  refine zT_gos (f := 200000) (pc2 := 1169) (ls2 := [(4, .int 0), (3, .ref 232), (2, .ref 162), (1, .ref 0), (0, .ref 11)]) (st2 := [.int (xs 1), .ref 0]) (h2 := zH0) (dc2 := 117) (ds2 := 29934) 7 rfl ?_
  refine zT_if0 false rfl (zc_eq_f (by show ((xs 1) : Int32).toInt ≠ 0; omega)) ?_
  refine zT_here (pc2 := 1172) rfl ?_
  refine zT_gos (f := 200000) (pc2 := 1183) (ls2 := [(4, .int 0), (3, .ref 232), (2, .ref 162), (1, .ref 0), (0, .ref 11)]) (st2 := [.int (xs 2), .int 1, .ref 0]) (h2 := zH0) (dc2 := 117) (ds2 := 29934) 7 rfl ?_
  refine zT_val h2 ?_
  refine zT_gos (f := 200000) (pc2 := 1189) (ls2 := [(4, .int 0), (3, .ref 232), (2, .ref 162), (1, .ref 0), (0, .ref 11)]) (st2 := [.int (xs 3), .int 0, .int 1, .ref 0]) (h2 := zH0) (dc2 := 117) (ds2 := 29934) 5 rfl ?_
  refine zT_val h3 ?_
  refine zT_gos (f := 200000) (pc2 := 1197) (ls2 := [(4, .int 0), (3, .ref 232), (2, .ref 162), (1, .ref 0), (0, .ref 11)]) (st2 := [.int 0, .int 0, .int 1, .ref 0]) (h2 := zH0) (dc2 := 117) (ds2 := 29934) 2 rfl ?_
  refine zT_call rfl rfl (zT_le (zg0_le 6 xs) zk_o_90) ?_
  refine zT_here (pc2 := 1200) rfl ?_
  refine zT_gos (f := 200000) (pc2 := 1207) (ls2 := [(4, .int 0), (3, .ref 232), (2, .ref 162), (1, .ref 0), (0, .ref 11)]) (st2 := [.int (xs 1), .ref 162, .int 0]) (h2 := (((zH0.set 37 (.inr (.inr (.inr (3, [.ref 44, .ref 6, .ref 76, .ref 78, .ref 80, .ref 88, .int 1, .int 0, .ref 96, .int 0, .int 0, .int 0, .ref 98, .ref 100, .int 0]))))).set 44 (.inr (.inr (.inr (6, [.int 1, .long 70644700037184, .int 0, .ref 90, .ref 92, .ref 94]))))).set 47 (.inr (.inl (16, [70644700037184]))))) (dc2 := 117) (ds2 := 29934) 6 rfl ?_
  refine zT_if0 false rfl (zc_eq_f (by show ((xs 1) : Int32).toInt ≠ 0; omega)) ?_
  refine zT_here (pc2 := 1210) rfl ?_
  refine zT_gos (f := 200000) (pc2 := 1221) (ls2 := [(4, .int 0), (3, .ref 232), (2, .ref 162), (1, .ref 0), (0, .ref 11)]) (st2 := [.int (xs 2), .int 1, .ref 162, .int 0]) (h2 := (((zH0.set 37 (.inr (.inr (.inr (3, [.ref 44, .ref 6, .ref 76, .ref 78, .ref 80, .ref 88, .int 1, .int 0, .ref 96, .int 0, .int 0, .int 0, .ref 98, .ref 100, .int 0]))))).set 44 (.inr (.inr (.inr (6, [.int 1, .long 70644700037184, .int 0, .ref 90, .ref 92, .ref 94]))))).set 47 (.inr (.inl (16, [70644700037184]))))) (dc2 := 117) (ds2 := 29934) 7 rfl ?_
  refine zT_val h2 ?_
  refine zT_gos (f := 200000) (pc2 := 1227) (ls2 := [(4, .int 0), (3, .ref 232), (2, .ref 162), (1, .ref 0), (0, .ref 11)]) (st2 := [.int (xs 3), .int 0, .int 1, .ref 162, .int 0]) (h2 := (((zH0.set 37 (.inr (.inr (.inr (3, [.ref 44, .ref 6, .ref 76, .ref 78, .ref 80, .ref 88, .int 1, .int 0, .ref 96, .int 0, .int 0, .int 0, .ref 98, .ref 100, .int 0]))))).set 44 (.inr (.inr (.inr (6, [.int 1, .long 70644700037184, .int 0, .ref 90, .ref 92, .ref 94]))))).set 47 (.inr (.inl (16, [70644700037184]))))) (dc2 := 117) (ds2 := 29934) 5 rfl ?_
  refine zT_val h3 ?_
  refine zT_gos (f := 200000) (pc2 := 1235) (ls2 := [(4, .int 0), (3, .ref 232), (2, .ref 162), (1, .ref 0), (0, .ref 11)]) (st2 := [.int 0, .int 0, .int 1, .ref 162, .int 0]) (h2 := (((zH0.set 37 (.inr (.inr (.inr (3, [.ref 44, .ref 6, .ref 76, .ref 78, .ref 80, .ref 88, .int 1, .int 0, .ref 96, .int 0, .int 0, .int 0, .ref 98, .ref 100, .int 0]))))).set 44 (.inr (.inr (.inr (6, [.int 1, .long 70644700037184, .int 0, .ref 90, .ref 92, .ref 94]))))).set 47 (.inr (.inl (16, [70644700037184]))))) (dc2 := 117) (ds2 := 29934) 2 rfl ?_
  refine zT_call rfl rfl (zT_le (zg0_le 6 xs) zk_o_91) ?_
  refine zT_here (pc2 := 1238) rfl ?_
  refine zT_gos (f := 200000) (pc2 := 1811) (ls2 := [(4, .int 6), (3, .ref 232), (2, .ref 162), (1, .ref 0), (0, .ref 11)]) (st2 := [.int 1]) (h2 := (((((((zH0.set 37 (.inr (.inr (.inr (3, [.ref 44, .ref 6, .ref 76, .ref 78, .ref 80, .ref 88, .int 1, .int 0, .ref 96, .int 0, .int 0, .int 0, .ref 98, .ref 100, .int 0]))))).set 44 (.inr (.inr (.inr (6, [.int 1, .long 70644700037184, .int 0, .ref 90, .ref 92, .ref 94]))))).set 47 (.inr (.inl (16, [70644700037184])))).set 106 (.inl (2, 2, [0, 1]))).set 105 (.inl (0, 2, [0, 0]))).set 107 (.inl (0, 132, [0, 0, 0, 0, 0, 0, 0, 0, 0, 0, 0, 0, 0, 0, 0, 0, 0, 0, 0, 0, 0, 0, 0, 0, 0, 0, 0, 0, 0, 0, 0, 0, 0, 0, 0, 0, 0, 0, 0, 0, 0, 0, 0, 0, 0, 0, 0, 0, 0, 0, 0, 0, 0, 0, 0, 0, 0, 0, 0, 0, 0, 0, 0, 0, 0, 0, 0, 0, 0, 0, 0, 0]))).set 109 (.inl (0, 22, [0, 0, 0, 0, 0, 0, 0, 0, 0, 0, 0, 0])))) (dc2 := 117) (ds2 := 29934) 10 rfl ?_
  exact zT_ret rfl rfl
set_option maxRecDepth 1000000 in
theorem zk_o_92 : zT zg0 zF zP 126 0 [(0, .ref 0), (1, .int 1), (2, .int 1), (3, .int 0)] [] zH0 0 0 (some (.int 0), (((zH0.set 37 (.inr (.inr (.inr (3, [.ref 44, .ref 6, .ref 76, .ref 78, .ref 80, .ref 88, .int 1, .int 0, .ref 96, .int 0, .int 0, .int 0, .ref 98, .ref 100, .int 0]))))).set 44 (.inr (.inr (.inr (6, [.int 1, .long 70644700037184, .int 0, .ref 90, .ref 92, .ref 94]))))).set 47 (.inr (.inl (16, [70644700037184])))), 0, 0) := zclosed (n := 130) (by decide +kernel)
set_option maxRecDepth 1000000 in
theorem zk_o_93 : zT zg0 zF zP 257 0 [(0, .ref 162), (1, .int 1), (2, .int 1), (3, .int 0)] [] (((zH0.set 37 (.inr (.inr (.inr (3, [.ref 44, .ref 6, .ref 76, .ref 78, .ref 80, .ref 88, .int 1, .int 0, .ref 96, .int 0, .int 0, .int 0, .ref 98, .ref 100, .int 0]))))).set 44 (.inr (.inr (.inr (6, [.int 1, .long 70644700037184, .int 0, .ref 90, .ref 92, .ref 94]))))).set 47 (.inr (.inl (16, [70644700037184])))) 0 0 (some (.int 0), (((((((zH0.set 37 (.inr (.inr (.inr (3, [.ref 44, .ref 6, .ref 76, .ref 78, .ref 80, .ref 88, .int 1, .int 0, .ref 96, .int 0, .int 0, .int 0, .ref 98, .ref 100, .int 0]))))).set 44 (.inr (.inr (.inr (6, [.int 1, .long 70644700037184, .int 0, .ref 90, .ref 92, .ref 94]))))).set 47 (.inr (.inl (16, [70644700037184])))).set 106 (.inl (2, 2, [0, 1]))).set 105 (.inl (0, 2, [0, 0]))).set 107 (.inl (0, 132, [0, 0, 0, 0, 0, 0, 0, 0, 0, 0, 0, 0, 0, 0, 0, 0, 0, 0, 0, 0, 0, 0, 0, 0, 0, 0, 0, 0, 0, 0, 0, 0, 0, 0, 0, 0, 0, 0, 0, 0, 0, 0, 0, 0, 0, 0, 0, 0, 0, 0, 0, 0, 0, 0, 0, 0, 0, 0, 0, 0, 0, 0, 0, 0, 0, 0, 0, 0, 0, 0, 0, 0]))).set 109 (.inl (0, 22, [0, 0, 0, 0, 0, 0, 0, 0, 0, 0, 0, 0]))), 0, 0) := zclosed (n := 224) (by decide +kernel)
set_option maxRecDepth 1000000 in
set_option maxHeartbeats 4000000 in
theorem zo_25_19 (xs : Nat → Int32) (h0 : xs 0 &&& 63 = 25) (h1 : (xs 1).toInt ≠ 0) (h3 : xs 3 = 0) (h2 : xs 2 = 1) : zDone xs := by
  refine ⟨(((((((zH0.set 37 (.inr (.inr (.inr (3, [.ref 44, .ref 6, .ref 76, .ref 78, .ref 80, .ref 88, .int 1, .int 0, .ref 96, .int 0, .int 0, .int 0, .ref 98, .ref 100, .int 0]))))).set 44 (.inr (.inr (.inr (6, [.int 1, .long 70644700037184, .int 0, .ref 90, .ref 92, .ref 94]))))).set 47 (.inr (.inl (16, [70644700037184])))).set 106 (.inl (2, 2, [0, 1]))).set 105 (.inl (0, 2, [0, 0]))).set 107 (.inl (0, 132, [0, 0, 0, 0, 0, 0, 0, 0, 0, 0, 0, 0, 0, 0, 0, 0, 0, 0, 0, 0, 0, 0, 0, 0, 0, 0, 0, 0, 0, 0, 0, 0, 0, 0, 0, 0, 0, 0, 0, 0, 0, 0, 0, 0, 0, 0, 0, 0, 0, 0, 0, 0, 0, 0, 0, 0, 0, 0, 0, 0, 0, 0, 0, 0, 0, 0, 0, 0, 0, 0, 0, 0]))).set 109 (.inl (0, 22, [0, 0, 0, 0, 0, 0, 0, 0, 0, 0, 0, 0]))), 117, 29934, ?_, by decide, by decide⟩
  refine zT_gos (f := 200000) (pc2 := 37) (ls2 := [(4, .int 0), (3, .ref 232), (2, .ref 162), (1, .ref 0), (0, .ref 11)]) (st2 := [.int (xs 0)]) (h2 := zH0) (dc2 := 117) (ds2 := 29934) 9 rfl ?_
  refine zT_gos (f := 200000) (pc2 := 40) (ls2 := [(4, .int 0), (3, .ref 232), (2, .ref 162), (1, .ref 0), (0, .ref 11)]) (st2 := [.int ((xs 0) &&& (63 : Int32))]) (h2 := zH0) (dc2 := 117) (ds2 := 29934) 2 rfl ?_
  refine zT_val h0 ?_
  refine zT_gos (f := 200000) (pc2 := 1169) (ls2 := [(4, .int 0), (3, .ref 232), (2, .ref 162), (1, .ref 0), (0, .ref 11)]) (st2 := [.int (xs 1), .ref 0]) (h2 := zH0) (dc2 := 117) (ds2 := 29934) 7 rfl ?_
  refine zT_if0 false rfl (zc_eq_f (by show ((xs 1) : Int32).toInt ≠ 0; omega)) ?_
  refine zT_here (pc2 := 1172) rfl ?_
  refine zT_gos (f := 200000) (pc2 := 1183) (ls2 := [(4, .int 0), (3, .ref 232), (2, .ref 162), (1, .ref 0), (0, .ref 11)]) (st2 := [.int (xs 2), .int 1, .ref 0]) (h2 := zH0) (dc2 := 117) (ds2 := 29934) 7 rfl ?_
  refine zT_val h2 ?_
  refine zT_gos (f := 200000) (pc2 := 1189) (ls2 := [(4, .int 0), (3, .ref 232), (2, .ref 162), (1, .ref 0), (0, .ref 11)]) (st2 := [.int (xs 3), .int 1, .int 1, .ref 0]) (h2 := zH0) (dc2 := 117) (ds2 := 29934) 5 rfl ?_
  refine zT_val h3 ?_
  refine zT_gos (f := 200000) (pc2 := 1197) (ls2 := [(4, .int 0), (3, .ref 232), (2, .ref 162), (1, .ref 0), (0, .ref 11)]) (st2 := [.int 0, .int 1, .int 1, .ref 0]) (h2 := zH0) (dc2 := 117) (ds2 := 29934) 2 rfl ?_
  refine zT_call rfl rfl (zT_le (zg0_le 6 xs) zk_o_92) ?_
  refine zT_here (pc2 := 1200) rfl ?_
  refine zT_gos (f := 200000) (pc2 := 1207) (ls2 := [(4, .int 0), (3, .ref 232), (2, .ref 162), (1, .ref 0), (0, .ref 11)]) (st2 := [.int (xs 1), .ref 162, .int 0]) (h2 := (((zH0.set 37 (.inr (.inr (.inr (3, [.ref 44, .ref 6, .ref 76, .ref 78, .ref 80, .ref 88, .int 1, .int 0, .ref 96, .int 0, .int 0, .int 0, .ref 98, .ref 100, .int 0]))))).set 44 (.inr (.inr (.inr (6, [.int 1, .long 70644700037184, .int 0, .ref 90, .ref 92, .ref 94]))))).set 47 (.inr (.inl (16, [70644700037184]))))) (dc2 := 117) (ds2 := 29934) 6 rfl ?_
  refine zT_if0 false rfl (zc_eq_f (by show ((xs 1) : Int32).toInt ≠ 0; omega)) ?_
  refine zT_here (pc2 := 1210) rfl ?_
  refine zT_gos (f := 200000) (pc2 := 1221) (ls2 := [(4, .int 0), (3, .ref 232), (2, .ref 162), (1, .ref 0), (0, .ref 11)]) (st2 := [.int (xs 2), .int 1, .ref 162, .int 0]) (h2 := (((zH0.set 37 (.inr (.inr (.inr (3, [.ref 44, .ref 6, .ref 76, .ref 78, .ref 80, .ref 88, .int 1, .int 0, .ref 96, .int 0, .int 0, .int 0, .ref 98, .ref 100, .int 0]))))).set 44 (.inr (.inr (.inr (6, [.int 1, .long 70644700037184, .int 0, .ref 90, .ref 92, .ref 94]))))).set 47 (.inr (.inl (16, [70644700037184]))))) (dc2 := 117) (ds2 := 29934) 7 rfl ?_
  refine zT_val h2 ?_
  refine zT_gos (f := 200000) (pc2 := 1227) (ls2 := [(4, .int 0), (3, .ref 232), (2, .ref 162), (1, .ref 0), (0, .ref 11)]) (st2 := [.int (xs 3), .int 1, .int 1, .ref 162, .int 0]) (h2 := (((zH0.set 37 (.inr (.inr (.inr (3, [.ref 44, .ref 6, .ref 76, .ref 78, .ref 80, .ref 88, .int 1, .int 0, .ref 96, .int 0, .int 0, .int 0, .ref 98, .ref 100, .int 0]))))).set 44 (.inr (.inr (.inr (6, [.int 1, .long 70644700037184, .int 0, .ref 90, .ref 92, .ref 94]))))).set 47 (.inr (.inl (16, [70644700037184]))))) (dc2 := 117) (ds2 := 29934) 5 rfl ?_
  refine zT_val h3 ?_
  refine zT_gos (f := 200000) (pc2 := 1235) (ls2 := [(4, .int 0), (3, .ref 232), (2, .ref 162), (1, .ref 0), (0, .ref 11)]) (st2 := [.int 0, .int 1, .int 1, .ref 162, .int 0]) (h2 := (((zH0.set 37 (.inr (.inr (.inr (3, [.ref 44, .ref 6, .ref 76, .ref 78, .ref 80, .ref 88, .int 1, .int 0, .ref 96, .int 0, .int 0, .int 0, .ref 98, .ref 100, .int 0]))))).set 44 (.inr (.inr (.inr (6, [.int 1, .long 70644700037184, .int 0, .ref 90, .ref 92, .ref 94]))))).set 47 (.inr (.inl (16, [70644700037184]))))) (dc2 := 117) (ds2 := 29934) 2 rfl ?_
  refine zT_call rfl rfl (zT_le (zg0_le 6 xs) zk_o_93) ?_
  refine zT_here (pc2 := 1238) rfl ?_
  refine zT_gos (f := 200000) (pc2 := 1811) (ls2 := [(4, .int 6), (3, .ref 232), (2, .ref 162), (1, .ref 0), (0, .ref 11)]) (st2 := [.int 1]) (h2 := (((((((zH0.set 37 (.inr (.inr (.inr (3, [.ref 44, .ref 6, .ref 76, .ref 78, .ref 80, .ref 88, .int 1, .int 0, .ref 96, .int 0, .int 0, .int 0, .ref 98, .ref 100, .int 0]))))).set 44 (.inr (.inr (.inr (6, [.int 1, .long 70644700037184, .int 0, .ref 90, .ref 92, .ref 94]))))).set 47 (.inr (.inl (16, [70644700037184])))).set 106 (.inl (2, 2, [0, 1]))).set 105 (.inl (0, 2, [0, 0]))).set 107 (.inl (0, 132, [0, 0, 0, 0, 0, 0, 0, 0, 0, 0, 0, 0, 0, 0, 0, 0, 0, 0, 0, 0, 0, 0, 0, 0, 0, 0, 0, 0, 0, 0, 0, 0, 0, 0, 0, 0, 0, 0, 0, 0, 0, 0, 0, 0, 0, 0, 0, 0, 0, 0, 0, 0, 0, 0, 0, 0, 0, 0, 0, 0, 0, 0, 0, 0, 0, 0, 0, 0, 0, 0, 0, 0]))).set 109 (.inl (0, 22, [0, 0, 0, 0, 0, 0, 0, 0, 0, 0, 0, 0])))) (dc2 := 117) (ds2 := 29934) 10 rfl ?_
  exact zT_ret rfl rfl
set_option maxRecDepth 1000000 in
theorem zk_o_94 : zT zg0 zF zP 126 0 [(0, .ref 0), (1, .int 1), (2, .int 2), (3, .int 0)] [] zH0 0 0 (some (.int 0), (((zH0.set 37 (.inr (.inr (.inr (3, [.ref 44, .ref 6, .ref 76, .ref 78, .ref 80, .ref 88, .int 1, .int 0, .ref 96, .int 0, .int 0, .int 0, .ref 98, .ref 100, .int 0]))))).set 44 (.inr (.inr (.inr (6, [.int 1, .long 70644700037184, .int 0, .ref 90, .ref 92, .ref 94]))))).set 47 (.inr (.inl (16, [70644700037184])))), 0, 0) := zclosed (n := 130) (by decide +kernel)
set_option maxRecDepth 1000000 in
theorem zk_o_95 : zT zg0 zF zP 257 0 [(0, .ref 162), (1, .int 1), (2, .int 2), (3, .int 0)] [] (((zH0.set 37 (.inr (.inr (.inr (3, [.ref 44, .ref 6, .ref 76, .ref 78, .ref 80, .ref 88, .int 1, .int 0, .ref 96, .int 0, .int 0, .int 0, .ref 98, .ref 100, .int 0]))))).set 44 (.inr (.inr (.inr (6, [.int 1, .long 70644700037184, .int 0, .ref 90, .ref 92, .ref 94]))))).set 47 (.inr (.inl (16, [70644700037184])))) 0 0 (some (.int 0), (((((((zH0.set 37 (.inr (.inr (.inr (3, [.ref 44, .ref 6, .ref 76, .ref 78, .ref 80, .ref 88, .int 1, .int 0, .ref 96, .int 0, .int 0, .int 0, .ref 98, .ref 100, .int 0]))))).set 44 (.inr (.inr (.inr (6, [.int 1, .long 70644700037184, .int 0, .ref 90, .ref 92, .ref 94]))))).set 47 (.inr (.inl (16, [70644700037184])))).set 106 (.inl (2, 2, [0, 1]))).set 105 (.inl (0, 2, [0, 0]))).set 107 (.inl (0, 132, [0, 0, 0, 0, 0, 0, 0, 0, 0, 0, 0, 0, 0, 0, 0, 0, 0, 0, 0, 0, 0, 0, 0, 0, 0, 0, 0, 0, 0, 0, 0, 0, 0, 0, 0, 0, 0, 0, 0, 0, 0, 0, 0, 0, 0, 0, 0, 0, 0, 0, 0, 0, 0, 0, 0, 0, 0, 0, 0, 0, 0, 0, 0, 0, 0, 0, 0, 0, 0, 0, 0, 0]))).set 109 (.inl (0, 22, [0, 0, 0, 0, 0, 0, 0, 0, 0, 0, 0, 0]))), 0, 0) := zclosed (n := 224) (by decide +kernel)
set_option maxRecDepth 1000000 in
set_option maxHeartbeats 4000000 in
theorem zo_25_20 (xs : Nat → Int32) (h0 : xs 0 &&& 63 = 25) (h1 : (xs 1).toInt ≠ 0) (h3 : xs 3 = 0) (h2 : xs 2 = 2) : zDone xs := by
  refine ⟨(((((((zH0.set 37 (.inr (.inr (.inr (3, [.ref 44, .ref 6, .ref 76, .ref 78, .ref 80, .ref 88, .int 1, .int 0, .ref 96, .int 0, .int 0, .int 0, .ref 98, .ref 100, .int 0]))))).set 44 (.inr (.inr (.inr (6, [.int 1, .long 70644700037184, .int 0, .ref 90, .ref 92, .ref 94]))))).set 47 (.inr (.inl (16, [70644700037184])))).set 106 (.inl (2, 2, [0, 1]))).set 105 (.inl (0, 2, [0, 0]))).set 107 (.inl (0, 132, [0, 0, 0, 0, 0, 0, 0, 0, 0, 0, 0, 0, 0, 0, 0, 0, 0, 0, 0, 0, 0, 0, 0, 0, 0, 0, 0, 0, 0, 0, 0, 0, 0, 0, 0, 0, 0, 0, 0, 0, 0, 0, 0, 0, 0, 0, 0, 0, 0, 0, 0, 0, 0, 0, 0, 0, 0, 0, 0, 0, 0, 0, 0, 0, 0, 0, 0, 0, 0, 0, 0, 0]))).set 109 (.inl (0, 22, [0, 0, 0, 0, 0, 0, 0, 0, 0, 0, 0, 0]))), 117, 29934, ?_, by decide, by decide⟩
  refine zT_gos (f := 200000) (pc2 := 37) (ls2 := [(4, .int 0), (3, .ref 232), (2, .ref 162), (1, .ref 0), (0, .ref 11)]) (st2 := [.int (xs 0)]) (h2 := zH0) (dc2 := 117) (ds2 := 29934) 9 rfl ?_
  refine zT_gos (f := 200000) (pc2 := 40) (ls2 := [(4, .int 0), (3, .ref 232), (2, .ref 162), (1, .ref 0), (0, .ref 11)]) (st2 := [.int ((xs 0) &&& (63 : Int32))]) (h2 := zH0) (dc2 := 117) (ds2 := 29934) 2 rfl ?_
  refine zT_val h0 ?_
  refine zT_gos (f := 200000) (pc2 := 1169) (ls2 := [(4, .int 0), (3, .ref 232), (2, .ref 162), (1, .ref 0), (0, .ref 11)]) (st2 := [.int (xs 1), .ref 0]) (h2 := zH0) (dc2 := 117) (ds2 := 29934) 7 rfl ?_
  refine zT_if0 false rfl (zc_eq_f (by show ((xs 1) : Int32).toInt ≠ 0; omega)) ?_
  refine zT_here (pc2 := 1172) rfl ?_
  refine zT_gos (f := 200000) (pc2 := 1183) (ls2 := [(4, .int 0), (3, .ref 232), (2, .ref 162), (1, .ref 0), (0, .ref 11)]) (st2 := [.int (xs 2), .int 1, .ref 0]) (h2 := zH0) (dc2 := 117) (ds2 := 29934) 7 rfl ?_
  refine zT_val h2 ?_
  refine zT_gos (f := 200000) (pc2 := 1189) (ls2 := [(4, .int 0), (3, .ref 232), (2, .ref 162), (1, .ref 0), (0, .ref 11)]) (st2 := [.int (xs 3), .int 2, .int 1, .ref 0]) (h2 := zH0) (dc2 := 117) (ds2 := 29934) 5 rfl ?_
  refine zT_val h3 ?_
  refine zT_gos (f := 200000) (pc2 := 1197) (ls2 := [(4, .int 0), (3, .ref 232), (2, .ref 162), (1, .ref 0), (0, .ref 11)]) (st2 := [.int 0, .int 2, .int 1, .ref 0]) (h2 := zH0) (dc2 := 117) (ds2 := 29934) 2 rfl ?_
  refine zT_call rfl rfl (zT_le (zg0_le 6 xs) zk_o_94) ?_
  refine zT_here (pc2 := 1200) rfl ?_
  refine zT_gos (f := 200000) (pc2 := 1207) (ls2 := [(4, .int 0), (3, .ref 232), (2, .ref 162), (1, .ref 0), (0, .ref 11)]) (st2 := [.int (xs 1), .ref 162, .int 0]) (h2 := (((zH0.set 37 (.inr (.inr (.inr (3, [.ref 44, .ref 6, .ref 76, .ref 78, .ref 80, .ref 88, .int 1, .int 0, .ref 96, .int 0, .int 0, .int 0, .ref 98, .ref 100, .int 0]))))).set 44 (.inr (.inr (.inr (6, [.int 1, .long 70644700037184, .int 0, .ref 90, .ref 92, .ref 94]))))).set 47 (.inr (.inl (16, [70644700037184]))))) (dc2 := 117) (ds2 := 29934) 6 rfl ?_
  refine zT_if0 false rfl (zc_eq_f (by show ((xs 1) : Int32).toInt ≠ 0; omega)) ?_
  refine zT_here (pc2 := 1210) rfl ?_
  refine zT_gos (f := 200000) (pc2 := 1221) (ls2 := [(4, .int 0), (3, .ref 232), (2, .ref 162), (1, .ref 0), (0, .ref 11)]) (st2 := [.int (xs 2), .int 1, .ref 162, .int 0]) (h2 := (((zH0.set 37 (.inr (.inr (.inr (3, [.ref 44, .ref 6, .ref 76, .ref 78, .ref 80, .ref 88, .int 1, .int 0, .ref 96, .int 0, .int 0, .int 0, .ref 98, .ref 100, .int 0]))))).set 44 (.inr (.inr (.inr (6, [.int 1, .long 70644700037184, .int 0, .ref 90, .ref 92, .ref 94]))))).set 47 (.inr (.inl (16, [70644700037184]))))) (dc2 := 117) (ds2 := 29934) 7 rfl ?_
  refine zT_val h2 ?_
  refine zT_gos (f := 200000) (pc2 := 1227) (ls2 := [(4, .int 0), (3, .ref 232), (2, .ref 162), (1, .ref 0), (0, .ref 11)]) (st2 := [.int (xs 3), .int 2, .int 1, .ref 162, .int 0]) (h2 := (((zH0.set 37 (.inr (.inr (.inr (3, [.ref 44, .ref 6, .ref 76, .ref 78, .ref 80, .ref 88, .int 1, .int 0, .ref 96, .int 0, .int 0, .int 0, .ref 98, .ref 100, .int 0]))))).set 44 (.inr (.inr (.inr (6, [.int 1, .long 70644700037184, .int 0, .ref 90, .ref 92, .ref 94]))))).set 47 (.inr (.inl (16, [70644700037184]))))) (dc2 := 117) (ds2 := 29934) 5 rfl ?_
  refine zT_val h3 ?_
  refine zT_gos (f := 200000) (pc2 := 1235) (ls2 := [(4, .int 0), (3, .ref 232), (2, .ref 162), (1, .ref 0), (0, .ref 11)]) (st2 := [.int 0, .int 2, .int 1, .ref 162, .int 0]) (h2 := (((zH0.set 37 (.inr (.inr (.inr (3, [.ref 44, .ref 6, .ref 76, .ref 78, .ref 80, .ref 88, .int 1, .int 0, .ref 96, .int 0, .int 0, .int 0, .ref 98, .ref 100, .int 0]))))).set 44 (.inr (.inr (.inr (6, [.int 1, .long 70644700037184, .int 0, .ref 90, .ref 92, .ref 94]))))).set 47 (.inr (.inl (16, [70644700037184]))))) (dc2 := 117) (ds2 := 29934) 2 rfl ?_
  refine zT_call rfl rfl (zT_le (zg0_le 6 xs) zk_o_95) ?_
  refine zT_here (pc2 := 1238) rfl ?_
  refine zT_gos (f := 200000) (pc2 := 1811) (ls2 := [(4, .int 6), (3, .ref 232), (2, .ref 162), (1, .ref 0), (0, .ref 11)]) (st2 := [.int 1]) (h2 := (((((((zH0.set 37 (.inr (.inr (.inr (3, [.ref 44, .ref 6, .ref 76, .ref 78, .ref 80, .ref 88, .int 1, .int 0, .ref 96, .int 0, .int 0, .int 0, .ref 98, .ref 100, .int 0]))))).set 44 (.inr (.inr (.inr (6, [.int 1, .long 70644700037184, .int 0, .ref 90, .ref 92, .ref 94]))))).set 47 (.inr (.inl (16, [70644700037184])))).set 106 (.inl (2, 2, [0, 1]))).set 105 (.inl (0, 2, [0, 0]))).set 107 (.inl (0, 132, [0, 0, 0, 0, 0, 0, 0, 0, 0, 0, 0, 0, 0, 0, 0, 0, 0, 0, 0, 0, 0, 0, 0, 0, 0, 0, 0, 0, 0, 0, 0, 0, 0, 0, 0, 0, 0, 0, 0, 0, 0, 0, 0, 0, 0, 0, 0, 0, 0, 0, 0, 0, 0, 0, 0, 0, 0, 0, 0, 0, 0, 0, 0, 0, 0, 0, 0, 0, 0, 0, 0, 0]))).set 109 (.inl (0, 22, [0, 0, 0, 0, 0, 0, 0, 0, 0, 0, 0, 0])))) (dc2 := 117) (ds2 := 29934) 10 rfl ?_
  exact zT_ret rfl rfl
set_option maxRecDepth 1000000 in
theorem zk_o_96 : zT zg0 zF zP 126 0 [(0, .ref 0), (1, .int 1), (2, .int 3), (3, .int 0)] [] zH0 0 0 (some (.int 0), (((zH0.set 37 (.inr (.inr (.inr (3, [.ref 44, .ref 6, .ref 76, .ref 78, .ref 80, .ref 88, .int 1, .int 0, .ref 96, .int 0, .int 0, .int 0, .ref 98, .ref 100, .int 0]))))).set 44 (.inr (.inr (.inr (6, [.int 1, .long 70644700037184, .int 0, .ref 90, .ref 92, .ref 94]))))).set 47 (.inr (.inl (16, [70644700037184])))), 0, 0) := zclosed (n := 130) (by decide +kernel)
set_option maxRecDepth 1000000 in
theorem zk_o_97 : zT zg0 zF zP 257 0 [(0, .ref 162), (1, .int 1), (2, .int 3), (3, .int 0)] [] (((zH0.set 37 (.inr (.inr (.inr (3, [.ref 44, .ref 6, .ref 76, .ref 78, .ref 80, .ref 88, .int 1, .int 0, .ref 96, .int 0, .int 0, .int 0, .ref 98, .ref 100, .int 0]))))).set 44 (.inr (.inr (.inr (6, [.int 1, .long 70644700037184, .int 0, .ref 90, .ref 92, .ref 94]))))).set 47 (.inr (.inl (16, [70644700037184])))) 0 0 (some (.int 0), (((((((zH0.set 37 (.inr (.inr (.inr (3, [.ref 44, .ref 6, .ref 76, .ref 78, .ref 80, .ref 88, .int 1, .int 0, .ref 96, .int 0, .int 0, .int 0, .ref 98, .ref 100, .int 0]))))).set 44 (.inr (.inr (.inr (6, [.int 1, .long 70644700037184, .int 0, .ref 90, .ref 92, .ref 94]))))).set 47 (.inr (.inl (16, [70644700037184])))).set 106 (.inl (2, 2, [0, 1]))).set 105 (.inl (0, 2, [0, 0]))).set 107 (.inl (0, 132, [0, 0, 0, 0, 0, 0, 0, 0, 0, 0, 0, 0, 0, 0, 0, 0, 0, 0, 0, 0, 0, 0, 0, 0, 0, 0, 0, 0, 0, 0, 0, 0, 0, 0, 0, 0, 0, 0, 0, 0, 0, 0, 0, 0, 0, 0, 0, 0, 0, 0, 0, 0, 0, 0, 0, 0, 0, 0, 0, 0, 0, 0, 0, 0, 0, 0, 0, 0, 0, 0, 0, 0]))).set 109 (.inl (0, 22, [0, 0, 0, 0, 0, 0, 0, 0, 0, 0, 0, 0]))), 0, 0) := zclosed (n := 224) (by decide +kernel)
set_option maxRecDepth 1000000 in
set_option maxHeartbeats 4000000 in
theorem zo_25_21 (xs : Nat → Int32) (h0 : xs 0 &&& 63 = 25) (h1 : (xs 1).toInt ≠ 0) (h3 : xs 3 = 0) (h2 : xs 2 = 3) : zDone xs := by
  refine ⟨(((((((zH0.set 37 (.inr (.inr (.inr (3, [.ref 44, .ref 6, .ref 76, .ref 78, .ref 80, .ref 88, .int 1, .int 0, .ref 96, .int 0, .int 0, .int 0, .ref 98, .ref 100, .int 0]))))).set 44 (.inr (.inr (.inr (6, [.int 1, .long 70644700037184, .int 0, .ref 90, .ref 92, .ref 94]))))).set 47 (.inr (.inl (16, [70644700037184])))).set 106 (.inl (2, 2, [0, 1]))).set 105 (.inl (0, 2, [0, 0]))).set 107 (.inl (0, 132, [0, 0, 0, 0, 0, 0, 0, 0, 0, 0, 0, 0, 0, 0, 0, 0, 0, 0, 0, 0, 0, 0, 0, 0, 0, 0, 0, 0, 0, 0, 0, 0, 0, 0, 0, 0, 0, 0, 0, 0, 0, 0, 0, 0, 0, 0, 0, 0, 0, 0, 0, 0, 0, 0, 0, 0, 0, 0, 0, 0, 0, 0, 0, 0, 0, 0, 0, 0, 0, 0, 0, 0]))).set 109 (.inl (0, 22, [0, 0, 0, 0, 0, 0, 0, 0, 0, 0, 0, 0]))), 117, 29934, ?_, by decide, by decide⟩
  refine zT_gos (f := 200000) (pc2 := 37) (ls2 := [(4, .int 0), (3, .ref 232), (2, .ref 162), (1, .ref 0), (0, .ref 11)]) (st2 := [.int (xs 0)]) (h2 := zH0) (dc2 := 117) (ds2 := 29934) 9 rfl ?_
  refine zT_gos (f := 200000) (pc2 := 40) (ls2 := [(4, .int 0), (3, .ref 232), (2, .ref 162), (1, .ref 0), (0, .ref 11)]) (st2 := [.int ((xs 0) &&& (63 : Int32))]) (h2 := zH0) (dc2 := 117) (ds2 := 29934) 2 rfl ?_
  refine zT_val h0 ?_
  refine zT_gos (f := 200000) (pc2 := 1169) (ls2 := [(4, .int 0), (3, .ref 232), (2, .ref 162), (1, .ref 0), (0, .ref 11)]) (st2 := [.int (xs 1), .ref 0]) (h2 := zH0) (dc2 := 117) (ds2 := 29934) 7 rfl ?_
  refine zT_if0 false rfl (zc_eq_f (by show ((xs 1) : Int32).toInt ≠ 0; omega)) ?_
  refine zT_here (pc2 := 1172) rfl ?_
  refine zT_gos (f := 200000) (pc2 := 1183) (ls2 := [(4, .int 0), (3, .ref 232), (2, .ref 162), (1, .ref 0), (0, .ref 11)]) (st2 := [.int (xs 2), .int 1, .ref 0]) (h2 := zH0) (dc2 := 117) (ds2 := 29934) 7 rfl ?_
  refine zT_val h2 ?_
  refine zT_gos (f := 200000) (pc2 := 1189) (ls2 := [(4, .int 0), (3, .ref 232), (2, .ref 162), (1, .ref 0), (0, .ref 11)]) (st2 := [.int (xs 3), .int 3, .int 1, .ref 0]) (h2 := zH0) (dc2 := 117) (ds2 := 29934) 5 rfl ?_
  refine zT_val h3 ?_
  refine zT_gos (f := 200000) (pc2 := 1197) (ls2 := [(4, .int 0), (3, .ref 232), (2, .ref 162), (1, .ref 0), (0, .ref 11)]) (st2 := [.int 0, .int 3, .int 1, .ref 0]) (h2 := zH0) (dc2 := 117) (ds2 := 29934) 2 rfl ?_
  refine zT_call rfl rfl (zT_le (zg0_le 6 xs) zk_o_96) ?_
  refine zT_here (pc2 := 1200) rfl ?_
  refine zT_gos (f := 200000) (pc2 := 1207) (ls2 := [(4, .int 0), (3, .ref 232), (2, .ref 162), (1, .ref 0), (0, .ref 11)]) (st2 := [.int (xs 1), .ref 162, .int 0]) (h2 := (((zH0.set 37 (.inr (.inr (.inr (3, [.ref 44, .ref 6, .ref 76, .ref 78, .ref 80, .ref 88, .int 1, .int 0, .ref 96, .int 0, .int 0, .int 0, .ref 98, .ref 100, .int 0]))))).set 44 (.inr (.inr (.inr (6, [.int 1, .long 70644700037184, .int 0, .ref 90, .ref 92, .ref 94]))))).set 47 (.inr (.inl (16, [70644700037184]))))) (dc2 := 117) (ds2 := 29934) 6 rfl ?_
  refine zT_if0 false rfl (zc_eq_f (by show ((xs 1) : Int32).toInt ≠ 0; omega)) ?_
  refine zT_here (pc2 := 1210) rfl ?_
  refine zT_gos (f := 200000) (pc2 := 1221) (ls2 := [(4, .int 0), (3, .ref 232), (2, .ref 162), (1, .ref 0), (0, .ref 11)]) (st2 := [.int (xs 2), .int 1, .ref 162, .int 0]) (h2 := (((zH0.set 37 (.inr (.inr (.inr (3, [.ref 44, .ref 6, .ref 76, .ref 78, .ref 80, .ref 88, .int 1, .int 0, .ref 96, .int 0, .int 0, .int 0, .ref 98, .ref 100, .int 0]))))).set 44 (.inr (.inr (.inr (6, [.int 1, .long 70644700037184, .int 0, .ref 90, .ref 92, .ref 94]))))).set 47 (.inr (.inl (16, [70644700037184]))))) (dc2 := 117) (ds2 := 29934) 7 rfl ?_
  refine zT_val h2 ?_
  refine zT_gos (f := 200000) (pc2 := 1227) (ls2 := [(4, .int 0), (3, .ref 232), (2, .ref 162), (1, .ref 0), (0, .ref 11)]) (st2 := [.int (xs 3), .int 3, .int 1, .ref 162, .int 0]) (h2 := (((zH0.set 37 (.inr (.inr (.inr (3, [.ref 44, .ref 6, .ref 76, .ref 78, .ref 80, .ref 88, .int 1, .int 0, .ref 96, .int 0, .int 0, .int 0, .ref 98, .ref 100, .int 0]))))).set 44 (.inr (.inr (.inr (6, [.int 1, .long 70644700037184, .int 0, .ref 90, .ref 92, .ref 94]))))).set 47 (.inr (.inl (16, [70644700037184]))))) (dc2 := 117) (ds2 := 29934) 5 rfl ?_
  refine zT_val h3 ?_
  refine zT_gos (f := 200000) (pc2 := 1235) (ls2 := [(4, .int 0), (3, .ref 232), (2, .ref 162), (1, .ref 0), (0, .ref 11)]) (st2 := [.int 0, .int 3, .int 1, .ref 162, .int 0]) (h2 := (((zH0.set 37 (.inr (.inr (.inr (3, [.ref 44, .ref 6, .ref 76, .ref 78, .ref 80, .ref 88, .int 1, .int 0, .ref 96, .int 0, .int 0, .int 0, .ref 98, .ref 100, .int 0]))))).set 44 (.inr (.inr (.inr (6, [.int 1, .long 70644700037184, .int 0, .ref 90, .ref 92, .ref 94]))))).set 47 (.inr (.inl (16, [70644700037184]))))) (dc2 := 117) (ds2 := 29934) 2 rfl ?_
  refine zT_call rfl rfl (zT_le (zg0_le 6 xs) zk_o_97) ?_
  refine zT_here (pc2 := 1238) rfl ?_
  refine zT_gos (f := 200000) (pc2 := 1811) (ls2 := [(4, .int 6), (3, .ref 232), (2, .ref 162), (1, .ref 0), (0, .ref 11)]) (st2 := [.int 1]) (h2 := (((((((zH0.set 37 (.inr (.inr (.inr (3, [.ref 44, .ref 6, .ref 76, .ref 78, .ref 80, .ref 88, .int 1, .int 0, .ref 96, .int 0, .int 0, .int 0, .ref 98, .ref 100, .int 0]))))).set 44 (.inr (.inr (.inr (6, [.int 1, .long 70644700037184, .int 0, .ref 90, .ref 92, .ref 94]))))).set 47 (.inr (.inl (16, [70644700037184])))).set 106 (.inl (2, 2, [0, 1]))).set 105 (.inl (0, 2, [0, 0]))).set 107 (.inl (0, 132, [0, 0, 0, 0, 0, 0, 0, 0, 0, 0, 0, 0, 0, 0, 0, 0, 0, 0, 0, 0, 0, 0, 0, 0, 0, 0, 0, 0, 0, 0, 0, 0, 0, 0, 0, 0, 0, 0, 0, 0, 0, 0, 0, 0, 0, 0, 0, 0, 0, 0, 0, 0, 0, 0, 0, 0, 0, 0, 0, 0, 0, 0, 0, 0, 0, 0, 0, 0, 0, 0, 0, 0]))).set 109 (.inl (0, 22, [0, 0, 0, 0, 0, 0, 0, 0, 0, 0, 0, 0])))) (dc2 := 117) (ds2 := 29934) 10 rfl ?_
  exact zT_ret rfl rfl
set_option maxRecDepth 1000000 in
theorem zk_o_98 : zT zg0 zF zP 126 0 [(0, .ref 0), (1, .int 1), (2, .int 4), (3, .int 0)] [] zH0 0 0 (some (.int 0), (((zH0.set 37 (.inr (.inr (.inr (3, [.ref 44, .ref 6, .ref 76, .ref 78, .ref 80, .ref 88, .int 1, .int 0, .ref 96, .int 0, .int 0, .int 0, .ref 98, .ref 100, .int 0]))))).set 44 (.inr (.inr (.inr (6, [.int 1, .long 70644700037184, .int 0, .ref 90, .ref 92, .ref 94]))))).set 47 (.inr (.inl (16, [70644700037184])))), 0, 0) := zclosed (n := 130) (by decide +kernel)
set_option maxRecDepth 1000000 in
theorem zk_o_99 : zT zg0 zF zP 257 0 [(0, .ref 162), (1, .int 1), (2, .int 4), (3, .int 0)] [] (((zH0.set 37 (.inr (.inr (.inr (3, [.ref 44, .ref 6, .ref 76, .ref 78, .ref 80, .ref 88, .int 1, .int 0, .ref 96, .int 0, .int 0, .int 0, .ref 98, .ref 100, .int 0]))))).set 44 (.inr (.inr (.inr (6, [.int 1, .long 70644700037184, .int 0, .ref 90, .ref 92, .ref 94]))))).set 47 (.inr (.inl (16, [70644700037184])))) 0 0 (some (.int 0), (((((((zH0.set 37 (.inr (.inr (.inr (3, [.ref 44, .ref 6, .ref 76, .ref 78, .ref 80, .ref 88, .int 1, .int 0, .ref 96, .int 0, .int 0, .int 0, .ref 98, .ref 100, .int 0]))))).set 44 (.inr (.inr (.inr (6, [.int 1, .long 70644700037184, .int 0, .ref 90, .ref 92, .ref 94]))))).set 47 (.inr (.inl (16, [70644700037184])))).set 106 (.inl (2, 2, [0, 1]))).set 105 (.inl (0, 2, [0, 0]))).set 107 (.inl (0, 132, [0, 0, 0, 0, 0, 0, 0, 0, 0, 0, 0, 0, 0, 0, 0, 0, 0, 0, 0, 0, 0, 0, 0, 0, 0, 0, 0, 0, 0, 0, 0, 0, 0, 0, 0, 0, 0, 0, 0, 0, 0, 0, 0, 0, 0, 0, 0, 0, 0, 0, 0, 0, 0, 0, 0, 0, 0, 0, 0, 0, 0, 0, 0, 0, 0, 0, 0, 0, 0, 0, 0, 0]))).set 109 (.inl (0, 22, [0, 0, 0, 0, 0, 0, 0, 0, 0, 0, 0, 0]))), 0, 0) := zclosed (n := 224) (by decide +kernel)
set_option maxRecDepth 1000000 in
set_option maxHeartbeats 4000000 in
theorem zo_25_22 (xs : Nat → Int32) (h0 : xs 0 &&& 63 = 25) (h1 : (xs 1).toInt ≠ 0) (h3 : xs 3 = 0) (h2 : xs 2 = 4) : zDone xs := by
  refine ⟨(((((((zH0.set 37 (.inr (.inr (.inr (3, [.ref 44, .ref 6, .ref 76, .ref 78, .ref 80, .ref 88, .int 1, .int 0, .ref 96, .int 0, .int 0, .int 0, .ref 98, .ref 100, .int 0]))))).set 44 (.inr (.inr (.inr (6, [.int 1, .long 70644700037184, .int 0, .ref 90, .ref 92, .ref 94]))))).set 47 (.inr (.inl (16, [70644700037184])))).set 106 (.inl (2, 2, [0, 1]))).set 105 (.inl (0, 2, [0, 0]))).set 107 (.inl (0, 132, [0, 0, 0, 0, 0, 0, 0, 0, 0, 0, 0, 0, 0, 0, 0, 0, 0, 0, 0, 0, 0, 0, 0, 0, 0, 0, 0, 0, 0, 0, 0, 0, 0, 0, 0, 0, 0, 0, 0, 0, 0, 0, 0, 0, 0, 0, 0, 0, 0, 0, 0, 0, 0, 0, 0, 0, 0, 0, 0, 0, 0, 0, 0, 0, 0, 0, 0, 0, 0, 0, 0, 0]))).set 109 (.inl (0, 22, [0, 0, 0, 0, 0, 0, 0, 0, 0, 0, 0, 0]))), 117, 29934, ?_, by decide, by decide⟩
  refine zT_gos (f := 200000) (pc2 := 37) (ls2 := [(4, .int 0), (3, .ref 232), (2, .ref 162), (1, .ref 0), (0, .ref 11)]) (st2 := [.int (xs 0)]) (h2 := zH0) (dc2 := 117) (ds2 := 29934) 9 rfl ?_
  refine zT_gos (f := 200000) (pc2 := 40) (ls2 := [(4, .int 0), (3, .ref 232), (2, .ref 162), (1, .ref 0), (0, .ref 11)]) (st2 := [.int ((xs 0) &&& (63 : Int32))]) (h2 := zH0) (dc2 := 117) (ds2 := 29934) 2 rfl ?_
  refine zT_val h0 ?_
  refine zT_gos (f := 200000) (pc2 := 1169) (ls2 := [(4, .int 0), (3, .ref 232), (2, .ref 162), (1, .ref 0), (0, .ref 11)]) (st2 := [.int (xs 1), .ref 0]) (h2 := zH0) (dc2 := 117) (ds2 := 29934) 7 rfl ?_
  refine zT_if0 false rfl (zc_eq_f (by show ((xs 1) : Int32).toInt ≠ 0; omega)) ?_
  refine zT_here (pc2 := 1172) rfl ?_
  refine zT_gos (f := 200000) (pc2 := 1183) (ls2 := [(4, .int 0), (3, .ref 232), (2, .ref 162), (1, .ref 0), (0, .ref 11)]) (st2 := [.int (xs 2), .int 1, .ref 0]) (h2 := zH0) (dc2 := 117) (ds2 := 29934) 7 rfl ?_
  refine zT_val h2 ?_
  refine zT_gos (f := 200000) (pc2 := 1189) (ls2 := [(4, .int 0), (3, .ref 232), (2, .ref 162), (1, .ref 0), (0, .ref 11)]) (st2 := [.int (xs 3), .int 4, .int 1, .ref 0]) (h2 := zH0) (dc2 := 117) (ds2 := 29934) 5 rfl ?_
  refine zT_val h3 ?_
  refine zT_gos (f := 200000) (pc2 := 1197) (ls2 := [(4, .int 0), (3, .ref 232), (2, .ref 162), (1, .ref 0), (0, .ref 11)]) (st2 := [.int 0, .int 4, .int 1, .ref 0]) (h2 := zH0) (dc2 := 117) (ds2 := 29934) 2 rfl ?_
  refine zT_call rfl rfl (zT_le (zg0_le 6 xs) zk_o_98) ?_
  refine zT_here (pc2 := 1200) rfl ?_
  refine zT_gos (f := 200000) (pc2 := 1207) (ls2 := [(4, .int 0), (3, .ref 232), (2, .ref 162), (1, .ref 0), (0, .ref 11)]) (st2 := [.int (xs 1), .ref 162, .int 0]) (h2 := (((zH0.set 37 (.inr (.inr (.inr (3, [.ref 44, .ref 6, .ref 76, .ref 78, .ref 80, .ref 88, .int 1, .int 0, .ref 96, .int 0, .int 0, .int 0, .ref 98, .ref 100, .int 0]))))).set 44 (.inr (.inr (.inr (6, [.int 1, .long 70644700037184, .int 0, .ref 90, .ref 92, .ref 94]))))).set 47 (.inr (.inl (16, [70644700037184]))))) (dc2 := 117) (ds2 := 29934) 6 rfl ?_
  refine zT_if0 false rfl (zc_eq_f (by show ((xs 1) : Int32).toInt ≠ 0; omega)) ?_
  refine zT_here (pc2 := 1210) rfl ?_
  refine zT_gos (f := 200000) (pc2 := 1221) (ls2 := [(4, .int 0), (3, .ref 232), (2, .ref 162), (1, .ref 0), (0, .ref 11)]) (st2 := [.int (xs 2), .int 1, .ref 162, .int 0]) (h2 := (((zH0.set 37 (.inr (.inr (.inr (3, [.ref 44, .ref 6, .ref 76, .ref 78, .ref 80, .ref 88, .int 1, .int 0, .ref 96, .int 0, .int 0, .int 0, .ref 98, .ref 100, .int 0]))))).set 44 (.inr (.inr (.inr (6, [.int 1, .long 70644700037184, .int 0, .ref 90, .ref 92, .ref 94]))))).set 47 (.inr (.inl (16, [70644700037184]))))) (dc2 := 117) (ds2 := 29934) 7 rfl ?_
  refine zT_val h2 ?_
  refine zT_gos (f := 200000) (pc2 := 1227) (ls2 := [(4, .int 0), (3, .ref 232), (2, .ref 162), (1, .ref 0), (0, .ref 11)]) (st2 := [.int (xs 3), .int 4, .int 1, .ref 162, .int 0]) (h2 := (((zH0.set 37 (.inr (.inr (.inr (3, [.ref 44, .ref 6, .ref 76, .ref 78, .ref 80, .ref 88, .int 1, .int 0, .ref 96, .int 0, .int 0, .int 0, .ref 98, .ref 100, .int 0]))))).set 44 (.inr (.inr (.inr (6, [.int 1, .long 70644700037184, .int 0, .ref 90, .ref 92, .ref 94]))))).set 47 (.inr (.inl (16, [70644700037184]))))) (dc2 := 117) (ds2 := 29934) 5 rfl ?_
  refine zT_val h3 ?_
  refine zT_gos (f := 200000) (pc2 := 1235) (ls2 := [(4, .int 0), (3, .ref 232), (2, .ref 162), (1, .ref 0), (0, .ref 11)]) (st2 := [.int 0, .int 4, .int 1, .ref 162, .int 0]) (h2 := (((zH0.set 37 (.inr (.inr (.inr (3, [.ref 44, .ref 6, .ref 76, .ref 78, .ref 80, .ref 88, .int 1, .int 0, .ref 96, .int 0, .int 0, .int 0, .ref 98, .ref 100, .int 0]))))).set 44 (.inr (.inr (.inr (6, [.int 1, .long 70644700037184, .int 0, .ref 90, .ref 92, .ref 94]))))).set 47 (.inr (.inl (16, [70644700037184]))))) (dc2 := 117) (ds2 := 29934) 2 rfl ?_
  refine zT_call rfl rfl (zT_le (zg0_le 6 xs) zk_o_99) ?_
  refine zT_here (pc2 := 1238) rfl ?_
  refine zT_gos (f := 200000) (pc2 := 1811) (ls2 := [(4, .int 6), (3, .ref 232), (2, .ref 162), (1, .ref 0), (0, .ref 11)]) (st2 := [.int 1]) (h2 := (((((((zH0.set 37 (.inr (.inr (.inr (3, [.ref 44, .ref 6, .ref 76, .ref 78, .ref 80, .ref 88, .int 1, .int 0, .ref 96, .int 0, .int 0, .int 0, .ref 98, .ref 100, .int 0]))))).set 44 (.inr (.inr (.inr (6, [.int 1, .long 70644700037184, .int 0, .ref 90, .ref 92, .ref 94]))))).set 47 (.inr (.inl (16, [70644700037184])))).set 106 (.inl (2, 2, [0, 1]))).set 105 (.inl (0, 2, [0, 0]))).set 107 (.inl (0, 132, [0, 0, 0, 0, 0, 0, 0, 0, 0, 0, 0, 0, 0, 0, 0, 0, 0, 0, 0, 0, 0, 0, 0, 0, 0, 0, 0, 0, 0, 0, 0, 0, 0, 0, 0, 0, 0, 0, 0, 0, 0, 0, 0, 0, 0, 0, 0, 0, 0, 0, 0, 0, 0, 0, 0, 0, 0, 0, 0, 0, 0, 0, 0, 0, 0, 0, 0, 0, 0, 0, 0, 0]))).set 109 (.inl (0, 22, [0, 0, 0, 0, 0, 0, 0, 0, 0, 0, 0, 0])))) (dc2 := 117) (ds2 := 29934) 10 rfl ?_
  exact zT_ret rfl rfl
set_option maxRecDepth 1000000 in
theorem zk_o_100 : zT zg0 zF zP 126 0 [(0, .ref 0), (1, .int 1), (2, .int 5), (3, .int 0)] [] zH0 0 0 (some (.int 0), (((zH0.set 37 (.inr (.inr (.inr (3, [.ref 44, .ref 6, .ref 76, .ref 78, .ref 80, .ref 88, .int 1, .int 0, .ref 96, .int 0, .int 0, .int 0, .ref 98, .ref 100, .int 0]))))).set 44 (.inr (.inr (.inr (6, [.int 1, .long 70644700037184, .int 0, .ref 90, .ref 92, .ref 94]))))).set 47 (.inr (.inl (16, [70644700037184])))), 0, 0) := zclosed (n := 130) (by decide +kernel)
set_option maxRecDepth 1000000 in
theorem zk_o_101 : zT zg0 zF zP 257 0 [(0, .ref 162), (1, .int 1), (2, .int 5), (3, .int 0)] [] (((zH0.set 37 (.inr (.inr (.inr (3, [.ref 44, .ref 6, .ref 76, .ref 78, .ref 80, .ref 88, .int 1, .int 0, .ref 96, .int 0, .int 0, .int 0, .ref 98, .ref 100, .int 0]))))).set 44 (.inr (.inr (.inr (6, [.int 1, .long 70644700037184, .int 0, .ref 90, .ref 92, .ref 94]))))).set 47 (.inr (.inl (16, [70644700037184])))) 0 0 (some (.int 0), (((((((zH0.set 37 (.inr (.inr (.inr (3, [.ref 44, .ref 6, .ref 76, .ref 78, .ref 80, .ref 88, .int 1, .int 0, .ref 96, .int 0, .int 0, .int 0, .ref 98, .ref 100, .int 0]))))).set 44 (.inr (.inr (.inr (6, [.int 1, .long 70644700037184, .int 0, .ref 90, .ref 92, .ref 94]))))).set 47 (.inr (.inl (16, [70644700037184])))).set 106 (.inl (2, 2, [0, 1]))).set 105 (.inl (0, 2, [0, 0]))).set 107 (.inl (0, 132, [0, 0, 0, 0, 0, 0, 0, 0, 0, 0, 0, 0, 0, 0, 0, 0, 0, 0, 0, 0, 0, 0, 0, 0, 0, 0, 0, 0, 0, 0, 0, 0, 0, 0, 0, 0, 0, 0, 0, 0, 0, 0, 0, 0, 0, 0, 0, 0, 0, 0, 0, 0, 0, 0, 0, 0, 0, 0, 0, 0, 0, 0, 0, 0, 0, 0, 0, 0, 0, 0, 0, 0]))).set 109 (.inl (0, 22, [0, 0, 0, 0, 0, 0, 0, 0, 0, 0, 0, 0]))), 0, 0) := zclosed (n := 224) (by decide +kernel)
set_option maxRecDepth 1000000 in
set_option maxHeartbeats 4000000 in
theorem zo_25_23 (xs : Nat → Int32) (h0 : xs 0 &&& 63 = 25) (h1 : (xs 1).toInt ≠ 0) (h3 : xs 3 = 0) (h2 : xs 2 = 5) : zDone xs := by
  refine ⟨(((((((zH0.set 37 (.inr (.inr (.inr (3, [.ref 44, .ref 6, .ref 76, .ref 78, .ref 80, .ref 88, .int 1, .int 0, .ref 96, .int 0, .int 0, .int 0, .ref 98, .ref 100, .int 0]))))).set 44 (.inr (.inr (.inr (6, [.int 1, .long 70644700037184, .int 0, .ref 90, .ref 92, .ref 94]))))).set 47 (.inr (.inl (16, [70644700037184])))).set 106 (.inl (2, 2, [0, 1]))).set 105 (.inl (0, 2, [0, 0]))).set 107 (.inl (0, 132, [0, 0, 0, 0, 0, 0, 0, 0, 0, 0, 0, 0, 0, 0, 0, 0, 0, 0, 0, 0, 0, 0, 0, 0, 0, 0, 0, 0, 0, 0, 0, 0, 0, 0, 0, 0, 0, 0, 0, 0, 0, 0, 0, 0, 0, 0, 0, 0, 0, 0, 0, 0, 0, 0, 0, 0, 0, 0, 0, 0, 0, 0, 0, 0, 0, 0, 0, 0, 0, 0, 0, 0]))).set 109 (.inl (0, 22, [0, 0, 0, 0, 0, 0, 0, 0, 0, 0, 0, 0]))), 117, 29934, ?_, by decide, by decide⟩
  refine zT_gos (f := 200000) (pc2 := 37) (ls2 := [(4, .int 0), (3, .ref 232), (2, .ref 162), (1, .ref 0), (0, .ref 11)]) (st2 := [.int (xs 0)]) (h2 := zH0) (dc2 := 117) (ds2 := 29934) 9 rfl ?_
  refine zT_gos (f := 200000) (pc2 := 40) (ls2 := [(4, .int 0), (3, .ref 232), (2, .ref 162), (1, .ref 0), (0, .ref 11)]) (st2 := [.int ((xs 0) &&& (63 : Int32))]) (h2 := zH0) (dc2 := 117) (ds2 := 29934) 2 rfl ?_
  refine zT_val h0 ?_
  refine zT_gos (f := 200000) (pc2 := 1169) (ls2 := [(4, .int 0), (3, .ref 232), (2, .ref 162), (1, .ref 0), (0, .ref 11)]) (st2 := [.int (xs 1), .ref 0]) (h2 := zH0) (dc2 := 117) (ds2 := 29934) 7 rfl ?_
  refine zT_if0 false rfl (zc_eq_f (by show ((xs 1) : Int32).toInt ≠ 0; omega)) ?_
  refine zT_here (pc2 := 1172) rfl ?_
  refine zT_gos (f := 200000) (pc2 := 1183) (ls2 := [(4, .int 0), (3, .ref 232), (2, .ref 162), (1, .ref 0), (0, .ref 11)]) (st2 := [.int (xs 2), .int 1, .ref 0]) (h2 := zH0) (dc2 := 117) (ds2 := 29934) 7 rfl ?_
  refine zT_val h2 ?_
  refine zT_gos (f := 200000) (pc2 := 1189) (ls2 := [(4, .int 0), (3, .ref 232), (2, .ref 162), (1, .ref 0), (0, .ref 11)]) (st2 := [.int (xs 3), .int 5, .int 1, .ref 0]) (h2 := zH0) (dc2 := 117) (ds2 := 29934) 5 rfl ?_
  refine zT_val h3 ?_
  refine zT_gos (f := 200000) (pc2 := 1197) (ls2 := [(4, .int 0), (3, .ref 232), (2, .ref 162), (1, .ref 0), (0, .ref 11)]) (st2 := [.int 0, .int 5, .int 1, .ref 0]) (h2 := zH0) (dc2 := 117) (ds2 := 29934) 2 rfl ?_
  refine zT_call rfl rfl (zT_le (zg0_le 6 xs) zk_o_100) ?_
  refine zT_here (pc2 := 1200) rfl ?_
  refine zT_gos (f := 200000) (pc2 := 1207) (ls2 := [(4, .int 0), (3, .ref 232), (2, .ref 162), (1, .ref 0), (0, .ref 11)]) (st2 := [.int (xs 1), .ref 162, .int 0]) (h2 := (((zH0.set 37 (.inr (.inr (.inr (3, [.ref 44, .ref 6, .ref 76, .ref 78, .ref 80, .ref 88, .int 1, .int 0, .ref 96, .int 0, .int 0, .int 0, .ref 98, .ref 100, .int 0]))))).set 44 (.inr (.inr (.inr (6, [.int 1, .long 70644700037184, .int 0, .ref 90, .ref 92, .ref 94]))))).set 47 (.inr (.inl (16, [70644700037184]))))) (dc2 := 117) (ds2 := 29934) 6 rfl ?_
  refine zT_if0 false rfl (zc_eq_f (by show ((xs 1) : Int32).toInt ≠ 0; omega)) ?_
  refine zT_here (pc2 := 1210) rfl ?_
  refine zT_gos (f := 200000) (pc2 := 1221) (ls2 := [(4, .int 0), (3, .ref 232), (2, .ref 162), (1, .ref 0), (0, .ref 11)]) (st2 := [.int (xs 2), .int 1, .ref 162, .int 0]) (h2 := (((zH0.set 37 (.inr (.inr (.inr (3, [.ref 44, .ref 6, .ref 76, .ref 78, .ref 80, .ref 88, .int 1, .int 0, .ref 96, .int 0, .int 0, .int 0, .ref 98, .ref 100, .int 0]))))).set 44 (.inr (.inr (.inr (6, [.int 1, .long 70644700037184, .int 0, .ref 90, .ref 92, .ref 94]))))).set 47 (.inr (.inl (16, [70644700037184]))))) (dc2 := 117) (ds2 := 29934) 7 rfl ?_
  refine zT_val h2 ?_
  refine zT_gos (f := 200000) (pc2 := 1227) (ls2 := [(4, .int 0), (3, .ref 232), (2, .ref 162), (1, .ref 0), (0, .ref 11)]) (st2 := [.int (xs 3), .int 5, .int 1, .ref 162, .int 0]) (h2 := (((zH0.set 37 (.inr (.inr (.inr (3, [.ref 44, .ref 6, .ref 76, .ref 78, .ref 80, .ref 88, .int 1, .int 0, .ref 96, .int 0, .int 0, .int 0, .ref 98, .ref 100, .int 0]))))).set 44 (.inr (.inr (.inr (6, [.int 1, .long 70644700037184, .int 0, .ref 90, .ref 92, .ref 94]))))).set 47 (.inr (.inl (16, [70644700037184]))))) (dc2 := 117) (ds2 := 29934) 5 rfl ?_
  refine zT_val h3 ?_
  refine zT_gos (f := 200000) (pc2 := 1235) (ls2 := [(4, .int 0), (3, .ref 232), (2, .ref 162), (1, .ref 0), (0, .ref 11)]) (st2 := [.int 0, .int 5, .int 1, .ref 162, .int 0]) (h2 := (((zH0.set 37 (.inr (.inr (.inr (3, [.ref 44, .ref 6, .ref 76, .ref 78, .ref 80, .ref 88, .int 1, .int 0, .ref 96, .int 0, .int 0, .int 0, .ref 98, .ref 100, .int 0]))))).set 44 (.inr (.inr (.inr (6, [.int 1, .long 70644700037184, .int 0, .ref 90, .ref 92, .ref 94]))))).set 47 (.inr (.inl (16, [70644700037184]))))) (dc2 := 117) (ds2 := 29934) 2 rfl ?_
  refine zT_call rfl rfl (zT_le (zg0_le 6 xs) zk_o_101) ?_
  refine zT_here (pc2 := 1238) rfl ?_
  refine zT_gos (f := 200000) (pc2 := 1811) (ls2 := [(4, .int 6), (3, .ref 232), (2, .ref 162), (1, .ref 0), (0, .ref 11)]) (st2 := [.int 1]) (h2 := (((((((zH0.set 37 (.inr (.inr (.inr (3, [.ref 44, .ref 6, .ref 76, .ref 78, .ref 80, .ref 88, .int 1, .int 0, .ref 96, .int 0, .int 0, .int 0, .ref 98, .ref 100, .int 0]))))).set 44 (.inr (.inr (.inr (6, [.int 1, .long 70644700037184, .int 0, .ref 90, .ref 92, .ref 94]))))).set 47 (.inr (.inl (16, [70644700037184])))).set 106 (.inl (2, 2, [0, 1]))).set 105 (.inl (0, 2, [0, 0]))).set 107 (.inl (0, 132, [0, 0, 0, 0, 0, 0, 0, 0, 0, 0, 0, 0, 0, 0, 0, 0, 0, 0, 0, 0, 0, 0, 0, 0, 0, 0, 0, 0, 0, 0, 0, 0, 0, 0, 0, 0, 0, 0, 0, 0, 0, 0, 0, 0, 0, 0, 0, 0, 0, 0, 0, 0, 0, 0, 0, 0, 0, 0, 0, 0, 0, 0, 0, 0, 0, 0, 0, 0, 0, 0, 0, 0]))).set 109 (.inl (0, 22, [0, 0, 0, 0, 0, 0, 0, 0, 0, 0, 0, 0])))) (dc2 := 117) (ds2 := 29934) 10 rfl ?_
  exact zT_ret rfl rfl
set_option maxRecDepth 1000000 in
set_option maxHeartbeats 4000000 in
theorem zo_25_24 (xs : Nat → Int32) (h0 : xs 0 &&& 63 = 25) (h1 : (xs 1).toInt ≠ 0) (h3 : (xs 3).toInt ≠ 0) (h2 : (xs 2).toInt < 0) : zDone xs := by
  refine ⟨zH0, 117, 29934, ?_, by decide, by decide⟩
  refine zT_gos (f := 200000) (pc2 := 37) (ls2 := [(4, .int 0), (3, .ref 232), (2, .ref 162), (1, .ref 0), (0, .ref 11)]) (st2 := [.int (xs 0)]) (h2 := zH0) (dc2 := 117) (ds2 := 29934) 9 rfl ?_
  refine zT_gos (f := 200000) (pc2 := 40) (ls2 := [(4, .int 0), (3, .ref 232), (2, .ref 162), (1, .ref 0), (0, .ref 11)]) (st2 := [.int ((xs 0) &&& (63 : Int32))]) (h2 := zH0) (dc2 := 117) (ds2 := 29934) 2 rfl ?_
  refine zT_val h0 ?_
  refine zT_gos (f := 200000) (pc2 := 1169) (ls2 := [(4, .int 0), (3, .ref 232), (2, .ref 162), (1, .ref 0), (0, .ref 11)]) (st2 := [.int (xs 1), .ref 0]) (h2 := zH0) (dc2 := 117) (ds2 := 29934) 7 rfl ?_
  refine zT_if0 false rfl (zc_eq_f (by show ((xs 1) : Int32).toInt ≠ 0; omega)) ?_
  refine zT_here (pc2 := 1172) rfl ?_
  refine zT_gos (f := 200000) (pc2 := 1183) (ls2 := [(4, .int 0), (3, .ref 232), (2, .ref 162), (1, .ref 0), (0, .ref 11)]) (st2 := [.int (xs 2), .int 1, .ref 0]) (h2 := zH0) (dc2 := 117) (ds2 := 29934) 7 rfl ?_
  refine zT_gos (f := 200000) (pc2 := 1189) (ls2 := [(4, .int 0), (3, .ref 232), (2, .ref 162), (1, .ref 0), (0, .ref 11)]) (st2 := [.int (xs 3), .int (xs 2), .int 1, .ref 0]) (h2 := zH0) (dc2 := 117) (ds2 := 29934) 5 rfl ?_
  refine zT_if0 false rfl (zc_eq_f (by show ((xs 3) : Int32).toInt ≠ 0; omega)) ?_
  refine zT_here (pc2 := 1192) rfl ?_
  refine zT_gos (f := 200000) (pc2 := 1197) (ls2 := [(4, .int 0), (3, .ref 232), (2, .ref 162), (1, .ref 0), (0, .ref 11)]) (st2 := [.int 1, .int (xs 2), .int 1, .ref 0]) (h2 := zH0) (dc2 := 117) (ds2 := 29934) 2 rfl ?_
  refine zT_call (v := some (.int (-1))) (h2 := zH0) (d1 := 0) (s1 := 0) rfl rfl ?_ ?_
  · refine zT_gos (f := 200000) (pc2 := 1) (ls2 := [(0, .ref 0), (1, .int 1), (2, .int (xs 2)), (3, .int 1)]) (st2 := [.int (xs 2)]) (h2 := zH0) (dc2 := 0) (ds2 := 0) 1 rfl ?_
    refine zT_call (v := some (.int 1)) (h2 := zH0) (d1 := 0) (s1 := 0) rfl rfl ?_ ?_
    · refine zT_gos (f := 200000) (pc2 := 1) (ls2 := [(0, .int (xs 2))]) (st2 := [.int (xs 2)]) (h2 := zH0) (dc2 := 0) (ds2 := 0) 1 rfl ?_
      refine zT_if0 true rfl (zc_lt_t (by show ((xs 2) : Int32).toInt < 0; omega)) ?_
      refine zT_here (pc2 := 10) rfl ?_
      refine zT_gos (f := 200000) (pc2 := 15) (ls2 := [(0, .int (xs 2))]) (st2 := [.int 1]) (h2 := zH0) (dc2 := 0) (ds2 := 0) 2 rfl ?_
      exact zT_ret rfl rfl
    refine zT_here (pc2 := 4) rfl ?_
    refine zT_gos (f := 200000) (pc2 := 8) (ls2 := [(0, .ref 0), (1, .int 1), (2, .int (xs 2)), (3, .int 1)]) (st2 := [.int (-1)]) (h2 := zH0) (dc2 := 0) (ds2 := 0) 2 rfl ?_
    exact zT_ret rfl rfl
  refine zT_here (pc2 := 1200) rfl ?_
  refine zT_gos (f := 200000) (pc2 := 1207) (ls2 := [(4, .int 0), (3, .ref 232), (2, .ref 162), (1, .ref 0), (0, .ref 11)]) (st2 := [.int (xs 1), .ref 162, .int (-1)]) (h2 := zH0) (dc2 := 117) (ds2 := 29934) 6 rfl ?_
  refine zT_if0 false rfl (zc_eq_f (by show ((xs 1) : Int32).toInt ≠ 0; omega)) ?_
  refine zT_here (pc2 := 1210) rfl ?_
  refine zT_gos (f := 200000) (pc2 := 1221) (ls2 := [(4, .int 0), (3, .ref 232), (2, .ref 162), (1, .ref 0), (0, .ref 11)]) (st2 := [.int (xs 2), .int 1, .ref 162, .int (-1)]) (h2 := zH0) (dc2 := 117) (ds2 := 29934) 7 rfl ?_
  refine zT_gos (f := 200000) (pc2 := 1227) (ls2 := [(4, .int 0), (3, .ref 232), (2, .ref 162), (1, .ref 0), (0, .ref 11)]) (st2 := [.int (xs 3), .int (xs 2), .int 1, .ref 162, .int (-1)]) (h2 := zH0) (dc2 := 117) (ds2 := 29934) 5 rfl ?_
  refine zT_if0 false rfl (zc_eq_f (by show ((xs 3) : Int32).toInt ≠ 0; omega)) ?_
  refine zT_here (pc2 := 1230) rfl ?_
  refine zT_gos (f := 200000) (pc2 := 1235) (ls2 := [(4, .int 0), (3, .ref 232), (2, .ref 162), (1, .ref 0), (0, .ref 11)]) (st2 := [.int 1, .int (xs 2), .int 1, .ref 162, .int (-1)]) (h2 := zH0) (dc2 := 117) (ds2 := 29934) 2 rfl ?_
  refine zT_call (v := some (.int (-1))) (h2 := zH0) (d1 := 0) (s1 := 0) rfl rfl ?_ ?_
  · refine zT_gos (f := 200000) (pc2 := 6) (ls2 := [(0, .ref 162), (1, .int 1), (2, .int (xs 2)), (3, .int 1)]) (st2 := [.int (xs 2)]) (h2 := zH0) (dc2 := 0) (ds2 := 0) 4 rfl ?_
    refine zT_call (v := some (.int 0)) (h2 := zH0) (d1 := 0) (s1 := 0) rfl rfl ?_ ?_
    · refine zT_gos (f := 200000) (pc2 := 1) (ls2 := [(0, .int (xs 2))]) (st2 := [.int (xs 2)]) (h2 := zH0) (dc2 := 0) (ds2 := 0) 1 rfl ?_
      refine zT_if0 true rfl (zc_lt_t (by show ((xs 2) : Int32).toInt < 0; omega)) ?_
      refine zT_here (pc2 := 14) rfl ?_
      refine zT_gos (f := 200000) (pc2 := 15) (ls2 := [(0, .int (xs 2))]) (st2 := [.int 0]) (h2 := zH0) (dc2 := 0) (ds2 := 0) 1 rfl ?_
      exact zT_ret rfl rfl
    refine zT_here (pc2 := 9) rfl ?_
    refine zT_gos (f := 200000) (pc2 := 13) (ls2 := [(0, .ref 162), (1, .int 1), (2, .int (xs 2)), (3, .int 1)]) (st2 := [.int (-1)]) (h2 := zH0) (dc2 := 0) (ds2 := 0) 2 rfl ?_
    exact zT_ret rfl rfl
  refine zT_here (pc2 := 1238) rfl ?_
  refine zT_gos (f := 200000) (pc2 := 1811) (ls2 := [(4, .int 6), (3, .ref 232), (2, .ref 162), (1, .ref 0), (0, .ref 11)]) (st2 := [.int 1]) (h2 := zH0) (dc2 := 117) (ds2 := 29934) 10 rfl ?_
  exact zT_ret rfl rfl
set_option maxRecDepth 1000000 in
set_option maxHeartbeats 4000000 in
theorem zo_25_25 (xs : Nat → Int32) (h0 : xs 0 &&& 63 = 25) (h1 : (xs 1).toInt ≠ 0) (h3 : (xs 3).toInt ≠ 0) (h2 : 5 < (xs 2).toInt) : zDone xs := by
  refine ⟨zH0, 117, 29934, ?_, by decide, by decide⟩
  refine zT_gos (f := 200000) (pc2 := 37) (ls2 := [(4, .int 0), (3, .ref 232), (2, .ref 162), (1, .ref 0), (0, .ref 11)]) (st2 := [.int (xs 0)]) (h2 := zH0) (dc2 := 117) (ds2 := 29934) 9 rfl ?_
  refine zT_gos (f := 200000) (pc2 := 40) (ls2 := [(4, .int 0), (3, .ref 232), (2, .ref 162), (1, .ref 0), (0, .ref 11)]) (st2 := [.int ((xs 0) &&& (63 : Int32))]) (h2 := zH0) (dc2 := 117) (ds2 := 29934) 2 rfl ?_
  refine zT_val h0 ?_
  refine zT_gos (f := 200000) (pc2 := 1169) (ls2 := [(4, .int 0), (3, .ref 232), (2, .ref 162), (1, .ref 0), (0, .ref 11)]) (st2 := [.int (xs 1), .ref 0]) (h2 := zH0) (dc2 := 117) (ds2 := 29934) 7 rfl ?_
  refine zT_if0 false rfl (zc_eq_f (by show ((xs 1) : Int32).toInt ≠ 0; omega)) ?_
  refine zT_here (pc2 := 1172) rfl ?_
  refine zT_gos (f := 200000) (pc2 := 1183) (ls2 := [(4, .int 0), (3, .ref 232), (2, .ref 162), (1, .ref 0), (0, .ref 11)]) (st2 := [.int (xs 2), .int 1, .ref 0]) (h2 := zH0) (dc2 := 117) (ds2 := 29934) 7 rfl ?_
  refine zT_gos (f := 200000) (pc2 := 1189) (ls2 := [(4, .int 0), (3, .ref 232), (2, .ref 162), (1, .ref 0), (0, .ref 11)]) (st2 := [.int (xs 3), .int (xs 2), .int 1, .ref 0]) (h2 := zH0) (dc2 := 117) (ds2 := 29934) 5 rfl ?_
  refine zT_if0 false rfl (zc_eq_f (by show ((xs 3) : Int32).toInt ≠ 0; omega)) ?_
  refine zT_here (pc2 := 1192) rfl ?_
  refine zT_gos (f := 200000) (pc2 := 1197) (ls2 := [(4, .int 0), (3, .ref 232), (2, .ref 162), (1, .ref 0), (0, .ref 11)]) (st2 := [.int 1, .int (xs 2), .int 1, .ref 0]) (h2 := zH0) (dc2 := 117) (ds2 := 29934) 2 rfl ?_
  refine zT_call (v := some (.int (-1))) (h2 := zH0) (d1 := 0) (s1 := 0) rfl rfl ?_ ?_
  · refine zT_gos (f := 200000) (pc2 := 1) (ls2 := [(0, .ref 0), (1, .int 1), (2, .int (xs 2)), (3, .int 1)]) (st2 := [.int (xs 2)]) (h2 := zH0) (dc2 := 0) (ds2 := 0) 1 rfl ?_
    refine zT_call (v := some (.int 1)) (h2 := zH0) (d1 := 0) (s1 := 0) rfl rfl ?_ ?_
    · refine zT_gos (f := 200000) (pc2 := 1) (ls2 := [(0, .int (xs 2))]) (st2 := [.int (xs 2)]) (h2 := zH0) (dc2 := 0) (ds2 := 0) 1 rfl ?_
      refine zT_if0 false rfl (zc_lt_f (by show ((xs 2) : Int32).toInt ≥ 0; omega)) ?_
      refine zT_here (pc2 := 4) rfl ?_
      refine zT_gos (f := 200000) (pc2 := 7) (ls2 := [(0, .int (xs 2))]) (st2 := [.int 6, .int (xs 2)]) (h2 := zH0) (dc2 := 0) (ds2 := 0) 2 rfl ?_
      refine zT_if2 false rfl (zc_lt_f (by show ((xs 2) : Int32).toInt ≥ 6; omega)) ?_
      refine zT_here (pc2 := 10) rfl ?_
      refine zT_gos (f := 200000) (pc2 := 15) (ls2 := [(0, .int (xs 2))]) (st2 := [.int 1]) (h2 := zH0) (dc2 := 0) (ds2 := 0) 2 rfl ?_
      exact zT_ret rfl rfl
    refine zT_here (pc2 := 4) rfl ?_
    refine zT_gos (f := 200000) (pc2 := 8) (ls2 := [(0, .ref 0), (1, .int 1), (2, .int (xs 2)), (3, .int 1)]) (st2 := [.int (-1)]) (h2 := zH0) (dc2 := 0) (ds2 := 0) 2 rfl ?_
    exact zT_ret rfl rfl
  refine zT_here (pc2 := 1200) rfl ?_
  refine zT_gos (f := 200000) (pc2 := 1207) (ls2 := [(4, .int 0), (3, .ref 232), (2, .ref 162), (1, .ref 0), (0, .ref 11)]) (st2 := [.int (xs 1), .ref 162, .int (-1)]) (h2 := zH0) (dc2 := 117) (ds2 := 29934) 6 rfl ?_
  refine zT_if0 false rfl (zc_eq_f (by show ((xs 1) : Int32).toInt ≠ 0; omega)) ?_
  refine zT_here (pc2 := 1210) rfl ?_
  refine zT_gos (f := 200000) (pc2 := 1221) (ls2 := [(4, .int 0), (3, .ref 232), (2, .ref 162), (1, .ref 0), (0, .ref 11)]) (st2 := [.int (xs 2), .int 1, .ref 162, .int (-1)]) (h2 := zH0) (dc2 := 117) (ds2 := 29934) 7 rfl ?_
  refine zT_gos (f := 200000) (pc2 := 1227) (ls2 := [(4, .int 0), (3, .ref 232), (2, .ref 162), (1, .ref 0), (0, .ref 11)]) (st2 := [.int (xs 3), .int (xs 2), .int 1, .ref 162, .int (-1)]) (h2 := zH0) (dc2 := 117) (ds2 := 29934) 5 rfl ?_
  refine zT_if0 false rfl (zc_eq_f (by show ((xs 3) : Int32).toInt ≠ 0; omega)) ?_
  refine zT_here (pc2 := 1230) rfl ?_
  refine zT_gos (f := 200000) (pc2 := 1235) (ls2 := [(4, .int 0), (3, .ref 232), (2, .ref 162), (1, .ref 0), (0, .ref 11)]) (st2 := [.int 1, .int (xs 2), .int 1, .ref 162, .int (-1)]) (h2 := zH0) (dc2 := 117) (ds2 := 29934) 2 rfl ?_
  refine zT_call (v := some (.int (-1))) (h2 := zH0) (d1 := 0) (s1 := 0) rfl rfl ?_ ?_
  · refine zT_gos (f := 200000) (pc2 := 6) (ls2 := [(0, .ref 162), (1, .int 1), (2, .int (xs 2)), (3, .int 1)]) (st2 := [.int (xs 2)]) (h2 := zH0) (dc2 := 0) (ds2 := 0) 4 rfl ?_
    refine zT_call (v := some (.int 0)) (h2 := zH0) (d1 := 0) (s1 := 0) rfl rfl ?_ ?_
    · refine zT_gos (f := 200000) (pc2 := 1) (ls2 := [(0, .int (xs 2))]) (st2 := [.int (xs 2)]) (h2 := zH0) (dc2 := 0) (ds2 := 0) 1 rfl ?_
      refine zT_if0 false rfl (zc_lt_f (by show ((xs 2) : Int32).toInt ≥ 0; omega)) ?_
      refine zT_here (pc2 := 4) rfl ?_
      refine zT_gos (f := 200000) (pc2 := 7) (ls2 := [(0, .int (xs 2))]) (st2 := [.int 6, .int (xs 2)]) (h2 := zH0) (dc2 := 0) (ds2 := 0) 2 rfl ?_
      refine zT_if2 true rfl (zc_ge_t (by show ((xs 2) : Int32).toInt ≥ 6; omega)) ?_
      refine zT_here (pc2 := 14) rfl ?_
      refine zT_gos (f := 200000) (pc2 := 15) (ls2 := [(0, .int (xs 2))]) (st2 := [.int 0]) (h2 := zH0) (dc2 := 0) (ds2 := 0) 1 rfl ?_
      exact zT_ret rfl rfl
    refine zT_here (pc2 := 9) rfl ?_
    refine zT_gos (f := 200000) (pc2 := 13) (ls2 := [(0, .ref 162), (1, .int 1), (2, .int (xs 2)), (3, .int 1)]) (st2 := [.int (-1)]) (h2 := zH0) (dc2 := 0) (ds2 := 0) 2 rfl ?_
    exact zT_ret rfl rfl
  refine zT_here (pc2 := 1238) rfl ?_
  refine zT_gos (f := 200000) (pc2 := 1811) (ls2 := [(4, .int 6), (3, .ref 232), (2, .ref 162), (1, .ref 0), (0, .ref 11)]) (st2 := [.int 1]) (h2 := zH0) (dc2 := 117) (ds2 := 29934) 10 rfl ?_
  exact zT_ret rfl rfl
set_option maxRecDepth 1000000 in
theorem zk_o_102 : zT zg0 zF zP 126 0 [(0, .ref 0), (1, .int 1), (2, .int 0), (3, .int 1)] [] zH0 0 0 (some (.int 0), (((zH0.set 37 (.inr (.inr (.inr (3, [.ref 44, .ref 6, .ref 76, .ref 78, .ref 80, .ref 88, .int 1, .int 0, .ref 96, .int 0, .int 0, .int 0, .ref 98, .ref 100, .int 0]))))).set 44 (.inr (.inr (.inr (6, [.int 1, .long 70644700037184, .int 0, .ref 90, .ref 92, .ref 94]))))).set 47 (.inr (.inl (16, [70644700037184])))), 0, 0) := zclosed (n := 509) (by decide +kernel)
set_option maxRecDepth 1000000 in
theorem zk_o_103 : zT zg0 zF zP 257 0 [(0, .ref 162), (1, .int 1), (2, .int 0), (3, .int 1)] [] (((zH0.set 37 (.inr (.inr (.inr (3, [.ref 44, .ref 6, .ref 76, .ref 78, .ref 80, .ref 88, .int 1, .int 0, .ref 96, .int 0, .int 0, .int 0, .ref 98, .ref 100, .int 0]))))).set 44 (.inr (.inr (.inr (6, [.int 1, .long 70644700037184, .int 0, .ref 90, .ref 92, .ref 94]))))).set 47 (.inr (.inl (16, [70644700037184])))) 0 0 (some (.int 0), (((((((zH0.set 37 (.inr (.inr (.inr (3, [.ref 44, .ref 6, .ref 76, .ref 78, .ref 80, .ref 88, .int 1, .int 0, .ref 96, .int 0, .int 0, .int 0, .ref 98, .ref 100, .int 0]))))).set 44 (.inr (.inr (.inr (6, [.int 1, .long 70644700037184, .int 0, .ref 90, .ref 92, .ref 94]))))).set 47 (.inr (.inl (16, [70644700037184])))).set 106 (.inl (2, 2, [0, 1]))).set 105 (.inl (0, 2, [0, 0]))).set 107 (.inl (0, 132, [0, 0, 0, 0, 0, 0, 0, 0, 0, 0, 0, 0, 0, 0, 0, 0, 0, 0, 0, 0, 0, 0, 0, 0, 0, 0, 0, 0, 0, 0, 0, 0, 0, 0, 0, 0, 0, 0, 0, 0, 0, 0, 0, 0, 0, 0, 0, 0, 0, 0, 0, 0, 0, 0, 0, 0, 0, 0, 0, 0, 0, 0, 0, 0, 0, 0, 0, 0, 0, 0, 0, 0]))).set 109 (.inl (0, 22, [0, 0, 0, 0, 0, 0, 0, 0, 0, 0, 0, 0]))), 0, 0) := zclosed (n := 1968) (by decide +kernel)
set_option maxRecDepth 1000000 in
set_option maxHeartbeats 4000000 in
theorem zo_25_26 (xs : Nat → Int32) (h0 : xs 0 &&& 63 = 25) (h1 : (xs 1).toInt ≠ 0) (h3 : (xs 3).toInt ≠ 0) (h2 : xs 2 = 0) : zDone xs := by
  refine ⟨(((((((zH0.set 37 (.inr (.inr (.inr (3, [.ref 44, .ref 6, .ref 76, .ref 78, .ref 80, .ref 88, .int 1, .int 0, .ref 96, .int 0, .int 0, .int 0, .ref 98, .ref 100, .int 0]))))).set 44 (.inr (.inr (.inr (6, [.int 1, .long 70644700037184, .int 0, .ref 90, .ref 92, .ref 94]))))).set 47 (.inr (.inl (16, [70644700037184])))).set 106 (.inl (2, 2, [0, 1]))).set 105 (.inl (0, 2, [0, 0]))).set 107 (.inl (0, 132, [0, 0, 0, 0, 0, 0, 0, 0, 0, 0, 0, 0, 0, 0, 0, 0, 0, 0, 0, 0, 0, 0, 0, 0, 0, 0, 0, 0, 0, 0, 0, 0, 0, 0, 0, 0, 0, 0, 0, 0, 0, 0, 0, 0, 0, 0, 0, 0, 0, 0, 0, 0, 0, 0, 0, 0, 0, 0, 0, 0, 0, 0, 0, 0, 0, 0, 0, 0, 0, 0, 0, 0]))).set 109 (.inl (0, 22, [0, 0, 0, 0, 0, 0, 0, 0, 0, 0, 0, 0]))), 117, 29934, ?_, by decide, by decide⟩
  refine zT_gos (f := 200000) (pc2 := 37) (ls2 := [(4, .int 0), (3, .ref 232), (2, .ref 162), (1, .ref 0), (0, .ref 11)]) (st2 := [.int (xs 0)]) (h2 := zH0) (dc2 := 117) (ds2 := 29934) 9 rfl ?_
  refine zT_gos (f := 200000) (pc2 := 40) (ls2 := [(4, .int 0), (3, .ref 232), (2, .ref 162), (1, .ref 0), (0, .ref 11)]) (st2 := [.int ((xs 0) &&& (63 : Int32))]) (h2 := zH0) (dc2 := 117) (ds2 := 29934) 2 rfl ?_
  refine zT_val h0 ?_
  refine zT_gos (f := 200000) (pc2 := 1169) (ls2 := [(4, .int 0), (3, .ref 232), (2, .ref 162), (1, .ref 0), (0, .ref 11)]) (st2 := [.int (xs 1), .ref 0]) (h2 := zH0) (dc2 := 117) (ds2 := 29934) 7 rfl ?_
  refine zT_if0 false rfl (zc_eq_f (by show ((xs 1) : Int32).toInt ≠ 0; omega)) ?_
  refine zT_here (pc2 := 1172) rfl ?_
  refine zT_gos (f := 200000) (pc2 := 1183) (ls2 := [(4, .int 0), (3, .ref 232), (2, .ref 162), (1, .ref 0), (0, .ref 11)]) (st2 := [.int (xs 2), .int 1, .ref 0]) (h2 := zH0) (dc2 := 117) (ds2 := 29934) 7 rfl ?_
  refine zT_val h2 ?_
  refine zT_gos (f := 200000) (pc2 := 1189) (ls2 := [(4, .int 0), (3, .ref 232), (2, .ref 162), (1, .ref 0), (0, .ref 11)]) (st2 := [.int (xs 3), .int 0, .int 1, .ref 0]) (h2 := zH0) (dc2 := 117) (ds2 := 29934) 5 rfl ?_
  refine zT_if0 false rfl (zc_eq_f (by show ((xs 3) : Int32).toInt ≠ 0; omega)) ?_
  refine zT_here (pc2 := 1192) rfl ?_
  refine zT_gos (f := 200000) (pc2 := 1197) (ls2 := [(4, .int 0), (3, .ref 232), (2, .ref 162), (1, .ref 0), (0, .ref 11)]) (st2 := [.int 1, .int 0, .int 1, .ref 0]) (h2 := zH0) (dc2 := 117) (ds2 := 29934) 2 rfl ?_
  refine zT_call rfl rfl (zT_le (zg0_le 6 xs) zk_o_102) ?_
  refine zT_here (pc2 := 1200) rfl ?_
  refine zT_gos (f := 200000) (pc2 := 1207) (ls2 := [(4, .int 0), (3, .ref 232), (2, .ref 162), (1, .ref 0), (0, .ref 11)]) (st2 := [.int (xs 1), .ref 162, .int 0]) (h2 := (((zH0.set 37 (.inr (.inr (.inr (3, [.ref 44, .ref 6, .ref 76, .ref 78, .ref 80, .ref 88, .int 1, .int 0, .ref 96, .int 0, .int 0, .int 0, .ref 98, .ref 100, .int 0]))))).set 44 (.inr (.inr (.inr (6, [.int 1, .long 70644700037184, .int 0, .ref 90, .ref 92, .ref 94]))))).set 47 (.inr (.inl (16, [70644700037184]))))) (dc2 := 117) (ds2 := 29934) 6 rfl ?_
  refine zT_if0 false rfl (zc_eq_f (by show ((xs 1) : Int32).toInt ≠ 0; omega)) ?_
  refine zT_here (pc2 := 1210) rfl ?_
  refine zT_gos (f := 200000) (pc2 := 1221) (ls2 := [(4, .int 0), (3, .ref 232), (2, .ref 162), (1, .ref 0), (0, .ref 11)]) (st2 := [.int (xs 2), .int 1, .ref 162, .int 0]) (h2 := (((zH0.set 37 (.inr (.inr (.inr (3, [.ref 44, .ref 6, .ref 76, .ref 78, .ref 80, .ref 88, .int 1, .int 0, .ref 96, .int 0, .int 0, .int 0, .ref 98, .ref 100, .int 0]))))).set 44 (.inr (.inr (.inr (6, [.int 1, .long 70644700037184, .int 0, .ref 90, .ref 92, .ref 94]))))).set 47 (.inr (.inl (16, [70644700037184]))))) (dc2 := 117) (ds2 := 29934) 7 rfl ?_
  refine zT_val h2 ?_
  refine zT_gos (f := 200000) (pc2 := 1227) (ls2 := [(4, .int 0), (3, .ref 232), (2, .ref 162), (1, .ref 0), (0, .ref 11)]) (st2 := [.int (xs 3), .int 0, .int 1, .ref 162, .int 0]) (h2 := (((zH0.set 37 (.inr (.inr (.inr (3, [.ref 44, .ref 6, .ref 76, .ref 78, .ref 80, .ref 88, .int 1, .int 0, .ref 96, .int 0, .int 0, .int 0, .ref 98, .ref 100, .int 0]))))).set 44 (.inr (.inr (.inr (6, [.int 1, .long 70644700037184, .int 0, .ref 90, .ref 92, .ref 94]))))).set 47 (.inr (.inl (16, [70644700037184]))))) (dc2 := 117) (ds2 := 29934) 5 rfl ?_
  refine zT_if0 false rfl (zc_eq_f (by show ((xs 3) : Int32).toInt ≠ 0; omega)) ?_
  refine zT_here (pc2 := 1230) rfl ?_
  refine zT_gos (f := 200000) (pc2 := 1235) (ls2 := [(4, .int 0), (3, .ref 232), (2, .ref 162), (1, .ref 0), (0, .ref 11)]) (st2 := [.int 1, .int 0, .int 1, .ref 162, .int 0]) (h2 := (((zH0.set 37 (.inr (.inr (.inr (3, [.ref 44, .ref 6, .ref 76, .ref 78, .ref 80, .ref 88, .int 1, .int 0, .ref 96, .int 0, .int 0, .int 0, .ref 98, .ref 100, .int 0]))))).set 44 (.inr (.inr (.inr (6, [.int 1, .long 70644700037184, .int 0, .ref 90, .ref 92, .ref 94]))))).set 47 (.inr (.inl (16, [70644700037184]))))) (dc2 := 117) (ds2 := 29934) 2 rfl ?_
  refine zT_call rfl rfl (zT_le (zg0_le 6 xs) zk_o_103) ?_
  refine zT_here (pc2 := 1238) rfl ?_
  refine zT_gos (f := 200000) (pc2 := 1811) (ls2 := [(4, .int 6), (3, .ref 232), (2, .ref 162), (1, .ref 0), (0, .ref 11)]) (st2 := [.int 1]) (h2 := (((((((zH0.set 37 (.inr (.inr (.inr (3, [.ref 44, .ref 6, .ref 76, .ref 78, .ref 80, .ref 88, .int 1, .int 0, .ref 96, .int 0, .int 0, .int 0, .ref 98, .ref 100, .int 0]))))).set 44 (.inr (.inr (.inr (6, [.int 1, .long 70644700037184, .int 0, .ref 90, .ref 92, .ref 94]))))).set 47 (.inr (.inl (16, [70644700037184])))).set 106 (.inl (2, 2, [0, 1]))).set 105 (.inl (0, 2, [0, 0]))).set 107 (.inl (0, 132, [0, 0, 0, 0, 0, 0, 0, 0, 0, 0, 0, 0, 0, 0, 0, 0, 0, 0, 0, 0, 0, 0, 0, 0, 0, 0, 0, 0, 0, 0, 0, 0, 0, 0, 0, 0, 0, 0, 0, 0, 0, 0, 0, 0, 0, 0, 0, 0, 0, 0, 0, 0, 0, 0, 0, 0, 0, 0, 0, 0, 0, 0, 0, 0, 0, 0, 0, 0, 0, 0, 0, 0]))).set 109 (.inl (0, 22, [0, 0, 0, 0, 0, 0, 0, 0, 0, 0, 0, 0])))) (dc2 := 117) (ds2 := 29934) 10 rfl ?_
  exact zT_ret rfl rfl
set_option maxRecDepth 1000000 in
theorem zk_o_104 : zT zg0 zF zP 126 0 [(0, .ref 0), (1, .int 1), (2, .int 1), (3, .int 1)] [] zH0 0 0 (some (.int 0), (((zH0.set 37 (.inr (.inr (.inr (3, [.ref 44, .ref 6, .ref 76, .ref 78, .ref 80, .ref 88, .int 1, .int 0, .ref 96, .int 0, .int 0, .int 0, .ref 98, .ref 100, .int 0]))))).set 44 (.inr (.inr (.inr (6, [.int 1, .long 70644700037184, .int 0, .ref 90, .ref 92, .ref 94]))))).set 47 (.inr (.inl (16, [70644700037184])))), 0, 0) := zclosed (n := 509) (by decide +kernel)
set_option maxRecDepth 1000000 in
theorem zk_o_105 : zT zg0 zF zP 257 0 [(0, .ref 162), (1, .int 1), (2, .int 1), (3, .int 1)] [] (((zH0.set 37 (.inr (.inr (.inr (3, [.ref 44, .ref 6, .ref 76, .ref 78, .ref 80, .ref 88, .int 1, .int 0, .ref 96, .int 0, .int 0, .int 0, .ref 98, .ref 100, .int 0]))))).set 44 (.inr (.inr (.inr (6, [.int 1, .long 70644700037184, .int 0, .ref 90, .ref 92, .ref 94]))))).set 47 (.inr (.inl (16, [70644700037184])))) 0 0 (some (.int 0), (((((((zH0.set 37 (.inr (.inr (.inr (3, [.ref 44, .ref 6, .ref 76, .ref 78, .ref 80, .ref 88, .int 1, .int 0, .ref 96, .int 0, .int 0, .int 0, .ref 98, .ref 100, .int 0]))))).set 44 (.inr (.inr (.inr (6, [.int 1, .long 70644700037184, .int 0, .ref 90, .ref 92, .ref 94]))))).set 47 (.inr (.inl (16, [70644700037184])))).set 106 (.inl (2, 2, [0, 1]))).set 105 (.inl (0, 2, [0, 0]))).set 107 (.inl (0, 132, [0, 0, 0, 0, 0, 0, 0, 0, 0, 0, 0, 0, 0, 0, 0, 0, 0, 0, 0, 0, 0, 0, 0, 0, 0, 0, 0, 0, 0, 0, 0, 0, 0, 0, 0, 0, 0, 0, 0, 0, 0, 0, 0, 0, 0, 0, 0, 0, 0, 0, 0, 0, 0, 0, 0, 0, 0, 0, 0, 0, 0, 0, 0, 0, 0, 0, 0, 0, 0, 0, 0, 0]))).set 109 (.inl (0, 22, [0, 0, 0, 0, 0, 0, 0, 0, 0, 0, 0, 0]))), 0, 0) := zclosed (n := 1968) (by decide +kernel)
set_option maxRecDepth 1000000 in
set_option maxHeartbeats 4000000 in
theorem zo_25_27 (xs : Nat → Int32) (h0 : xs 0 &&& 63 = 25) (h1 : (xs 1).toInt ≠ 0) (h3 : (xs 3).toInt ≠ 0) (h2 : xs 2 = 1) : zDone xs := by
  refine ⟨(((((((zH0.set 37 (.inr (.inr (.inr (3, [.ref 44, .ref 6, .ref 76, .ref 78, .ref 80, .ref 88, .int 1, .int 0, .ref 96, .int 0, .int 0, .int 0, .ref 98, .ref 100, .int 0]))))).set 44 (.inr (.inr (.inr (6, [.int 1, .long 70644700037184, .int 0, .ref 90, .ref 92, .ref 94]))))).set 47 (.inr (.inl (16, [70644700037184])))).set 106 (.inl (2, 2, [0, 1]))).set 105 (.inl (0, 2, [0, 0]))).set 107 (.inl (0, 132, [0, 0, 0, 0, 0, 0, 0, 0, 0, 0, 0, 0, 0, 0, 0, 0, 0, 0, 0, 0, 0, 0, 0, 0, 0, 0, 0, 0, 0, 0, 0, 0, 0, 0, 0, 0, 0, 0, 0, 0, 0, 0, 0, 0, 0, 0, 0, 0, 0, 0, 0, 0, 0, 0, 0, 0, 0, 0, 0, 0, 0, 0, 0, 0, 0, 0, 0, 0, 0, 0, 0, 0]))).set 109 (.inl (0, 22, [0, 0, 0, 0, 0, 0, 0, 0, 0, 0, 0, 0]))), 117, 29934, ?_, by decide, by decide⟩
  refine zT_gos (f := 200000) (pc2 := 37) (ls2 := [(4, .int 0), (3, .ref 232), (2, .ref 162), (1, .ref 0), (0, .ref 11)]) (st2 := [.int (xs 0)]) (h2 := zH0) (dc2 := 117) (ds2 := 29934) 9 rfl ?_
  refine zT_gos (f := 200000) (pc2 := 40) (ls2 := [(4, .int 0), (3, .ref 232), (2, .ref 162), (1, .ref 0), (0, .ref 11)]) (st2 := [.int ((xs 0) &&& (63 : Int32))]) (h2 := zH0) (dc2 := 117) (ds2 := 29934) 2 rfl ?_
  refine zT_val h0 ?_
  refine zT_gos (f := 200000) (pc2 := 1169) (ls2 := [(4, .int 0), (3, .ref 232), (2, .ref 162), (1, .ref 0), (0, .ref 11)]) (st2 := [.int (xs 1), .ref 0]) (h2 := zH0) (dc2 := 117) (ds2 := 29934) 7 rfl ?_
  refine zT_if0 false rfl (zc_eq_f (by show ((xs 1) : Int32).toInt ≠ 0; omega)) ?_
  refine zT_here (pc2 := 1172) rfl ?_
  refine zT_gos (f := 200000) (pc2 := 1183) (ls2 := [(4, .int 0), (3, .ref 232), (2, .ref 162), (1, .ref 0), (0, .ref 11)]) (st2 := [.int (xs 2), .int 1, .ref 0]) (h2 := zH0) (dc2 := 117) (ds2 := 29934) 7 rfl ?_
  refine zT_val h2 ?_
  refine zT_gos (f := 200000) (pc2 := 1189) (ls2 := [(4, .int 0), (3, .ref 232), (2, .ref 162), (1, .ref 0), (0, .ref 11)]) (st2 := [.int (xs 3), .int 1, .int 1, .ref 0]) (h2 := zH0) (dc2 := 117) (ds2 := 29934) 5 rfl ?_
  refine zT_if0 false rfl (zc_eq_f (by show ((xs 3) : Int32).toInt ≠ 0; omega)) ?_
  refine zT_here (pc2 := 1192) rfl ?_
  refine zT_gos (f := 200000) (pc2 := 1197) (ls2 := [(4, .int 0), (3, .ref 232), (2, .ref 162), (1, .ref 0), (0, .ref 11)]) (st2 := [.int 1, .int 1, .int 1, .ref 0]) (h2 := zH0) (dc2 := 117) (ds2 := 29934) 2 rfl ?_
  refine zT_call rfl rfl (zT_le (zg0_le 6 xs) zk_o_104) ?_
  refine zT_here (pc2 := 1200) rfl ?_
  refine zT_gos (f := 200000) (pc2 := 1207) (ls2 := [(4, .int 0), (3, .ref 232), (2, .ref 162), (1, .ref 0), (0, .ref 11)]) (st2 := [.int (xs 1), .ref 162, .int 0]) (h2 := (((zH0.set 37 (.inr (.inr (.inr (3, [.ref 44, .ref 6, .ref 76, .ref 78, .ref 80, .ref 88, .int 1, .int 0, .ref 96, .int 0, .int 0, .int 0, .ref 98, .ref 100, .int 0]))))).set 44 (.inr (.inr (.inr (6, [.int 1, .long 70644700037184, .int 0, .ref 90, .ref 92, .ref 94]))))).set 47 (.inr (.inl (16, [70644700037184]))))) (dc2 := 117) (ds2 := 29934) 6 rfl ?_
  refine zT_if0 false rfl (zc_eq_f (by show ((xs 1) : Int32).toInt ≠ 0; omega)) ?_
  refine zT_here (pc2 := 1210) rfl ?_
  refine zT_gos (f := 200000) (pc2 := 1221) (ls2 := [(4, .int 0), (3, .ref 232), (2, .ref 162), (1, .ref 0), (0, .ref 11)]) (st2 := [.int (xs 2), .int 1, .ref 162, .int 0]) (h2 := (((zH0.set 37 (.inr (.inr (.inr (3, [.ref 44, .ref 6, .ref 76, .ref 78, .ref 80, .ref 88, .int 1, .int 0, .ref 96, .int 0, .int 0, .int 0, .ref 98, .ref 100, .int 0]))))).set 44 (.inr (.inr (.inr (6, [.int 1, .long 70644700037184, .int 0, .ref 90, .ref 92, .ref 94]))))).set 47 (.inr (.inl (16, [70644700037184]))))) (dc2 := 117) (ds2 := 29934) 7 rfl ?_
  refine zT_val h2 ?_
  refine zT_gos (f := 200000) (pc2 := 1227) (ls2 := [(4, .int 0), (3, .ref 232), (2, .ref 162), (1, .ref 0), (0, .ref 11)]) (st2 := [.int (xs 3), .int 1, .int 1, .ref 162, .int 0]) (h2 := (((zH0.set 37 (.inr (.inr (.inr (3, [.ref 44, .ref 6, .ref 76, .ref 78, .ref 80, .ref 88, .int 1, .int 0, .ref 96, .int 0, .int 0, .int 0, .ref 98, .ref 100, .int 0]))))).set 44 (.inr (.inr (.inr (6, [.int 1, .long 70644700037184, .int 0, .ref 90, .ref 92, .ref 94]))))).set 47 (.inr (.inl (16, [70644700037184]))))) (dc2 := 117) (ds2 := 29934) 5 rfl ?_
  refine zT_if0 false rfl (zc_eq_f (by show ((xs 3) : Int32).toInt ≠ 0; omega)) ?_
  refine zT_here (pc2 := 1230) rfl ?_
  refine zT_gos (f := 200000) (pc2 := 1235) (ls2 := [(4, .int 0), (3, .ref 232), (2, .ref 162), (1, .ref 0), (0, .ref 11)]) (st2 := [.int 1, .int 1, .int 1, .ref 162, .int 0]) (h2 := (((zH0.set 37 (.inr (.inr (.inr (3, [.ref 44, .ref 6, .ref 76, .ref 78, .ref 80, .ref 88, .int 1, .int 0, .ref 96, .int 0, .int 0, .int 0, .ref 98, .ref 100, .int 0]))))).set 44 (.inr (.inr (.inr (6, [.int 1, .long 70644700037184, .int 0, .ref 90, .ref 92, .ref 94]))))).set 47 (.inr (.inl (16, [70644700037184]))))) (dc2 := 117) (ds2 := 29934) 2 rfl ?_
  refine zT_call rfl rfl (zT_le (zg0_le 6 xs) zk_o_105) ?_
  refine zT_here (pc2 := 1238) rfl ?_
  refine zT_gos (f := 200000) (pc2 := 1811) (ls2 := [(4, .int 6), (3, .ref 232), (2, .ref 162), (1, .ref 0), (0, .ref 11)]) (st2 := [.int 1]) (h2 := (((((((zH0.set 37 (.inr (.inr (.inr (3, [.ref 44, .ref 6, .ref 76, .ref 78, .ref 80, .ref 88, .int 1, .int 0, .ref 96, .int 0, .int 0, .int 0, .ref 98, .ref 100, .int 0]))))).set 44 (.inr (.inr (.inr (6, [.int 1, .long 70644700037184, .int 0, .ref 90, .ref 92, .ref 94]))))).set 47 (.inr (.inl (16, [70644700037184])))).set 106 (.inl (2, 2, [0, 1]))).set 105 (.inl (0, 2, [0, 0]))).set 107 (.inl (0, 132, [0, 0, 0, 0, 0, 0, 0, 0, 0, 0, 0, 0, 0, 0, 0, 0, 0, 0, 0, 0, 0, 0, 0, 0, 0, 0, 0, 0, 0, 0, 0, 0, 0, 0, 0, 0, 0, 0, 0, 0, 0, 0, 0, 0, 0, 0, 0, 0, 0, 0, 0, 0, 0, 0, 0, 0, 0, 0, 0, 0, 0, 0, 0, 0, 0, 0, 0, 0, 0, 0, 0, 0]))).set 109 (.inl (0, 22, [0, 0, 0, 0, 0, 0, 0, 0, 0, 0, 0, 0])))) (dc2 := 117) (ds2 := 29934) 10 rfl ?_
  exact zT_ret rfl rfl
set_option maxRecDepth 1000000 in
theorem zk_o_106 : zT zg0 zF zP 126 0 [(0, .ref 0), (1, .int 1), (2, .int 2), (3, .int 1)] [] zH0 0 0 (some (.int 0), (((zH0.set 37 (.inr (.inr (.inr (3, [.ref 44, .ref 6, .ref 76, .ref 78, .ref 80, .ref 88, .int 1, .int 0, .ref 96, .int 0, .int 0, .int 0, .ref 98, .ref 100, .int 0]))))).set 44 (.inr (.inr (.inr (6, [.int 1, .long 70644700037184, .int 0, .ref 90, .ref 92, .ref 94]))))).set 47 (.inr (.inl (16, [70644700037184])))), 0, 0) := zclosed (n := 509) (by decide +kernel)
set_option maxRecDepth 1000000 in
theorem zk_o_107 : zT zg0 zF zP 257 0 [(0, .ref 162), (1, .int 1), (2, .int 2), (3, .int 1)] [] (((zH0.set 37 (.inr (.inr (.inr (3, [.ref 44, .ref 6, .ref 76, .ref 78, .ref 80, .ref 88, .int 1, .int 0, .ref 96, .int 0, .int 0, .int 0, .ref 98, .ref 100, .int 0]))))).set 44 (.inr (.inr (.inr (6, [.int 1, .long 70644700037184, .int 0, .ref 90, .ref 92, .ref 94]))))).set 47 (.inr (.inl (16, [70644700037184])))) 0 0 (some (.int 0), (((((((zH0.set 37 (.inr (.inr (.inr (3, [.ref 44, .ref 6, .ref 76, .ref 78, .ref 80, .ref 88, .int 1, .int 0, .ref 96, .int 0, .int 0, .int 0, .ref 98, .ref 100, .int 0]))))).set 44 (.inr (.inr (.inr (6, [.int 1, .long 70644700037184, .int 0, .ref 90, .ref 92, .ref 94]))))).set 47 (.inr (.inl (16, [70644700037184])))).set 106 (.inl (2, 2, [0, 1]))).set 105 (.inl (0, 2, [0, 0]))).set 107 (.inl (0, 132, [0, 0, 0, 0, 0, 0, 0, 0, 0, 0, 0, 0, 0, 0, 0, 0, 0, 0, 0, 0, 0, 0, 0, 0, 0, 0, 0, 0, 0, 0, 0, 0, 0, 0, 0, 0, 0, 0, 0, 0, 0, 0, 0, 0, 0, 0, 0, 0, 0, 0, 0, 0, 0, 0, 0, 0, 0, 0, 0, 0, 0, 0, 0, 0, 0, 0, 0, 0, 0, 0, 0, 0]))).set 109 (.inl (0, 22, [0, 0, 0, 0, 0, 0, 0, 0, 0, 0, 0, 0]))), 0, 0) := zclosed (n := 1968) (by decide +kernel)
set_option maxRecDepth 1000000 in
set_option maxHeartbeats 4000000 in
theorem zo_25_28 (xs : Nat → Int32) (h0 : xs 0 &&& 63 = 25) (h1 : (xs 1).toInt ≠ 0) (h3 : (xs 3).toInt ≠ 0) (h2 : xs 2 = 2) : zDone xs := by
  refine ⟨(((((((zH0.set 37 (.inr (.inr (.inr (3, [.ref 44, .ref 6, .ref 76, .ref 78, .ref 80, .ref 88, .int 1, .int 0, .ref 96, .int 0, .int 0, .int 0, .ref 98, .ref 100, .int 0]))))).set 44 (.inr (.inr (.inr (6, [.int 1, .long 70644700037184, .int 0, .ref 90, .ref 92, .ref 94]))))).set 47 (.inr (.inl (16, [70644700037184])))).set 106 (.inl (2, 2, [0, 1]))).set 105 (.inl (0, 2, [0, 0]))).set 107 (.inl (0, 132, [0, 0, 0, 0, 0, 0, 0, 0, 0, 0, 0, 0, 0, 0, 0, 0, 0, 0, 0, 0, 0, 0, 0, 0, 0, 0, 0, 0, 0, 0, 0, 0, 0, 0, 0, 0, 0, 0, 0, 0, 0, 0, 0, 0, 0, 0, 0, 0, 0, 0, 0, 0, 0, 0, 0, 0, 0, 0, 0, 0, 0, 0, 0, 0, 0, 0, 0, 0, 0, 0, 0, 0]))).set 109 (.inl (0, 22, [0, 0, 0, 0, 0, 0, 0, 0, 0, 0, 0, 0]))), 117, 29934, ?_, by decide, by decide⟩
  refine zT_gos (f := 200000) (pc2 := 37) (ls2 := [(4, .int 0), (3, .ref 232), (2, .ref 162), (1, .ref 0), (0, .ref 11)]) (st2 := [.int (xs 0)]) (h2 := zH0) (dc2 := 117) (ds2 := 29934) 9 rfl ?_
  refine zT_gos (f := 200000) (pc2 := 40) (ls2 := [(4, .int 0), (3, .ref 232), (2, .ref 162), (1, .ref 0), (0, .ref 11)]) (st2 := [.int ((xs 0) &&& (63 : Int32))]) (h2 := zH0) (dc2 := 117) (ds2 := 29934) 2 rfl ?_
  refine zT_val h0 ?_
  refine zT_gos (f := 200000) (pc2 := 1169) (ls2 := [(4, .int 0), (3, .ref 232), (2, .ref 162), (1, .ref 0), (0, .ref 11)]) (st2 := [.int (xs 1), .ref 0]) (h2 := zH0) (dc2 := 117) (ds2 := 29934) 7 rfl ?_
  refine zT_if0 false rfl (zc_eq_f (by show ((xs 1) : Int32).toInt ≠ 0; omega)) ?_
  refine zT_here (pc2 := 1172) rfl ?_
  refine zT_gos (f := 200000) (pc2 := 1183) (ls2 := [(4, .int 0), (3, .ref 232), (2, .ref 162), (1, .ref 0), (0, .ref 11)]) (st2 := [.int (xs 2), .int 1, .ref 0]) (h2 := zH0) (dc2 := 117) (ds2 := 29934) 7 rfl ?_
  refine zT_val h2 ?_
  refine zT_gos (f := 200000) (pc2 := 1189) (ls2 := [(4, .int 0), (3, .ref 232), (2, .ref 162), (1, .ref 0), (0, .ref 11)]) (st2 := [.int (xs 3), .int 2, .int 1, .ref 0]) (h2 := zH0) (dc2 := 117) (ds2 := 29934) 5 rfl ?_
  refine zT_if0 false rfl (zc_eq_f (by show ((xs 3) : Int32).toInt ≠ 0; omega)) ?_
  refine zT_here (pc2 := 1192) rfl ?_
  refine zT_gos (f := 200000) (pc2 := 1197) (ls2 := [(4, .int 0), (3, .ref 232), (2, .ref 162), (1, .ref 0), (0, .ref 11)]) (st2 := [.int 1, .int 2, .int 1, .ref 0]) (h2 := zH0) (dc2 := 117) (ds2 := 29934) 2 rfl ?_
  refine zT_call rfl rfl (zT_le (zg0_le 6 xs) zk_o_106) ?_
  refine zT_here (pc2 := 1200) rfl ?_
  refine zT_gos (f := 200000) (pc2 := 1207) (ls2 := [(4, .int 0), (3, .ref 232), (2, .ref 162), (1, .ref 0), (0, .ref 11)]) (st2 := [.int (xs 1), .ref 162, .int 0]) (h2 := (((zH0.set 37 (.inr (.inr (.inr (3, [.ref 44, .ref 6, .ref 76, .ref 78, .ref 80, .ref 88, .int 1, .int 0, .ref 96, .int 0, .int 0, .int 0, .ref 98, .ref 100, .int 0]))))).set 44 (.inr (.inr (.inr (6, [.int 1, .long 70644700037184, .int 0, .ref 90, .ref 92, .ref 94]))))).set 47 (.inr (.inl (16, [70644700037184]))))) (dc2 := 117) (ds2 := 29934) 6 rfl ?_
  refine zT_if0 false rfl (zc_eq_f (by show ((xs 1) : Int32).toInt ≠ 0; omega)) ?_
  refine zT_here (pc2 := 1210) rfl ?_
  refine zT_gos (f := 200000) (pc2 := 1221) (ls2 := [(4, .int 0), (3, .ref 232), (2, .ref 162), (1, .ref 0), (0, .ref 11)]) (st2 := [.int (xs 2), .int 1, .ref 162, .int 0]) (h2 := (((zH0.set 37 (.inr (.inr (.inr (3, [.ref 44, .ref 6, .ref 76, .ref 78, .ref 80, .ref 88, .int 1, .int 0, .ref 96, .int 0, .int 0, .int 0, .ref 98, .ref 100, .int 0]))))).set 44 (.inr (.inr (.inr (6, [.int 1, .long 70644700037184, .int 0, .ref 90, .ref 92, .ref 94]))))).set 47 (.inr (.inl (16, [70644700037184]))))) (dc2 := 117) (ds2 := 29934) 7 rfl ?_
  refine zT_val h2 ?_
  refine zT_gos (f := 200000) (pc2 := 1227) (ls2 := [(4, .int 0), (3, .ref 232), (2, .ref 162), (1, .ref 0), (0, .ref 11)]) (st2 := [.int (xs 3), .int 2, .int 1, .ref 162, .int 0]) (h2 := (((zH0.set 37 (.inr (.inr (.inr (3, [.ref 44, .ref 6, .ref 76, .ref 78, .ref 80, .ref 88, .int 1, .int 0, .ref 96, .int 0, .int 0, .int 0, .ref 98, .ref 100, .int 0]))))).set 44 (.inr (.inr (.inr (6, [.int 1, .long 70644700037184, .int 0, .ref 90, .ref 92, .ref 94]))))).set 47 (.inr (.inl (16, [70644700037184]))))) (dc2 := 117) (ds2 := 29934) 5 rfl ?_
  refine zT_if0 false rfl (zc_eq_f (by show ((xs 3) : Int32).toInt ≠ 0; omega)) ?_
  refine zT_here (pc2 := 1230) rfl ?_
  refine zT_gos (f := 200000) (pc2 := 1235) (ls2 := [(4, .int 0), (3, .ref 232), (2, .ref 162), (1, .ref 0), (0, .ref 11)]) (st2 := [.int 1, .int 2, .int 1, .ref 162, .int 0]) (h2 := (((zH0.set 37 (.inr (.inr (.inr (3, [.ref 44, .ref 6, .ref 76, .ref 78, .ref 80, .ref 88, .int 1, .int 0, .ref 96, .int 0, .int 0, .int 0, .ref 98, .ref 100, .int 0]))))).set 44 (.inr (.inr (.inr (6, [.int 1, .long 70644700037184, .int 0, .ref 90, .ref 92, .ref 94]))))).set 47 (.inr (.inl (16, [70644700037184]))))) (dc2 := 117) (ds2 := 29934) 2 rfl ?_
  refine zT_call rfl rfl (zT_le (zg0_le 6 xs) zk_o_107) ?_
  refine zT_here (pc2 := 1238) rfl ?_
  refine zT_gos (f := 200000) (pc2 := 1811) (ls2 := [(4, .int 6), (3, .ref 232), (2, .ref 162), (1, .ref 0), (0, .ref 11)]) (st2 := [.int 1]) (h2 := (((((((zH0.set 37 (.inr (.inr (.inr (3, [.ref 44, .ref 6, .ref 76, .ref 78, .ref 80, .ref 88, .int 1, .int 0, .ref 96, .int 0, .int 0, .int 0, .ref 98, .ref 100, .int 0]))))).set 44 (.inr (.inr (.inr (6, [.int 1, .long 70644700037184, .int 0, .ref 90, .ref 92, .ref 94]))))).set 47 (.inr (.inl (16, [70644700037184])))).set 106 (.inl (2, 2, [0, 1]))).set 105 (.inl (0, 2, [0, 0]))).set 107 (.inl (0, 132, [0, 0, 0, 0, 0, 0, 0, 0, 0, 0, 0, 0, 0, 0, 0, 0, 0, 0, 0, 0, 0, 0, 0, 0, 0, 0, 0, 0, 0, 0, 0, 0, 0, 0, 0, 0, 0, 0, 0, 0, 0, 0, 0, 0, 0, 0, 0, 0, 0, 0, 0, 0, 0, 0, 0, 0, 0, 0, 0, 0, 0, 0, 0, 0, 0, 0, 0, 0, 0, 0, 0, 0]))).set 109 (.inl (0, 22, [0, 0, 0, 0, 0, 0, 0, 0, 0, 0, 0, 0])))) (dc2 := 117) (ds2 := 29934) 10 rfl ?_
  exact zT_ret rfl rfl
set_option maxRecDepth 1000000 in
theorem zk_o_108 : zT zg0 zF zP 126 0 [(0, .ref 0), (1, .int 1), (2, .int 3), (3, .int 1)] [] zH0 0 0 (some (.int 0), (((zH0.set 37 (.inr (.inr (.inr (3, [.ref 44, .ref 6, .ref 76, .ref 78, .ref 80, .ref 88, .int 1, .int 0, .ref 96, .int 0, .int 0, .int 0, .ref 98, .ref 100, .int 0]))))).set 44 (.inr (.inr (.inr (6, [.int 1, .long 70644700037184, .int 0, .ref 90, .ref 92, .ref 94]))))).set 47 (.inr (.inl (16, [70644700037184])))), 0, 0) := zclosed (n := 509) (by decide +kernel)
set_option maxRecDepth 1000000 in
theorem zk_o_109 : zT zg0 zF zP 257 0 [(0, .ref 162), (1, .int 1), (2, .int 3), (3, .int 1)] [] (((zH0.set 37 (.inr (.inr (.inr (3, [.ref 44, .ref 6, .ref 76, .ref 78, .ref 80, .ref 88, .int 1, .int 0, .ref 96, .int 0, .int 0, .int 0, .ref 98, .ref 100, .int 0]))))).set 44 (.inr (.inr (.inr (6, [.int 1, .long 70644700037184, .int 0, .ref 90, .ref 92, .ref 94]))))).set 47 (.inr (.inl (16, [70644700037184])))) 0 0 (some (.int 0), (((((((zH0.set 37 (.inr (.inr (.inr (3, [.ref 44, .ref 6, .ref 76, .ref 78, .ref 80, .ref 88, .int 1, .int 0, .ref 96, .int 0, .int 0, .int 0, .ref 98, .ref 100, .int 0]))))).set 44 (.inr (.inr (.inr (6, [.int 1, .long 70644700037184, .int 0, .ref 90, .ref 92, .ref 94]))))).set 47 (.inr (.inl (16, [70644700037184])))).set 106 (.inl (2, 2, [0, 1]))).set 105 (.inl (0, 2, [0, 0]))).set 107 (.inl (0, 132, [0, 0, 0, 0, 0, 0, 0, 0, 0, 0, 0, 0, 0, 0, 0, 0, 0, 0, 0, 0, 0, 0, 0, 0, 0, 0, 0, 0, 0, 0, 0, 0, 0, 0, 0, 0, 0, 0, 0, 0, 0, 0, 0, 0, 0, 0, 0, 0, 0, 0, 0, 0, 0, 0, 0, 0, 0, 0, 0, 0, 0, 0, 0, 0, 0, 0, 0, 0, 0, 0, 0, 0]))).set 109 (.inl (0, 22, [0, 0, 0, 0, 0, 0, 0, 0, 0, 0, 0, 0]))), 0, 0) := zclosed (n := 1968) (by decide +kernel)
set_option maxRecDepth 1000000 in
set_option maxHeartbeats 4000000 in
theorem zo_25_29 (xs : Nat → Int32) (h0 : xs 0 &&& 63 = 25) (h1 : (xs 1).toInt ≠ 0) (h3 : (xs 3).toInt ≠ 0) (h2 : xs 2 = 3) : zDone xs := by
  refine ⟨(((((((zH0.set 37 (.inr (.inr (.inr (3, [.ref 44, .ref 6, .ref 76, .ref 78, .ref 80, .ref 88, .int 1, .int 0, .ref 96, .int 0, .int 0, .int 0, .ref 98, .ref 100, .int 0]))))).set 44 (.inr (.inr (.inr (6, [.int 1, .long 70644700037184, .int 0, .ref 90, .ref 92, .ref 94]))))).set 47 (.inr (.inl (16, [70644700037184])))).set 106 (.inl (2, 2, [0, 1]))).set 105 (.inl (0, 2, [0, 0]))).set 107 (.inl (0, 132, [0, 0, 0, 0, 0, 0, 0, 0, 0, 0, 0, 0, 0, 0, 0, 0, 0, 0, 0, 0, 0, 0, 0, 0, 0, 0, 0, 0, 0, 0, 0, 0, 0, 0, 0, 0, 0, 0, 0, 0, 0, 0, 0, 0, 0, 0, 0, 0, 0, 0, 0, 0, 0, 0, 0, 0, 0, 0, 0, 0, 0, 0, 0, 0, 0, 0, 0, 0, 0, 0, 0, 0]))).set 109 (.inl (0, 22, [0, 0, 0, 0, 0, 0, 0, 0, 0, 0, 0, 0]))), 117, 29934, ?_, by decide, by decide⟩
  refine zT_gos (f := 200000) (pc2 := 37) (ls2 := [(4, .int 0), (3, .ref 232), (2, .ref 162), (1, .ref 0), (0, .ref 11)]) (st2 := [.int (xs 0)]) (h2 := zH0) (dc2 := 117) (ds2 := 29934) 9 rfl ?_
  refine zT_gos (f := 200000) (pc2 := 40) (ls2 := [(4, .int 0), (3, .ref 232), (2, .ref 162), (1, .ref 0), (0, .ref 11)]) (st2 := [.int ((xs 0) &&& (63 : Int32))]) (h2 := zH0) (dc2 := 117) (ds2 := 29934) 2 rfl ?_
  refine zT_val h0 ?_
  refine zT_gos (f := 200000) (pc2 := 1169) (ls2 := [(4, .int 0), (3, .ref 232), (2, .ref 162), (1, .ref 0), (0, .ref 11)]) (st2 := [.int (xs 1), .ref 0]) (h2 := zH0) (dc2 := 117) (ds2 := 29934) 7 rfl ?_
  refine zT_if0 false rfl (zc_eq_f (by show ((xs 1) : Int32).toInt ≠ 0; omega)) ?_
  refine zT_here (pc2 := 1172) rfl ?_
  refine zT_gos (f := 200000) (pc2 := 1183) (ls2 := [(4, .int 0), (3, .ref 232), (2, .ref 162), (1, .ref 0), (0, .ref 11)]) (st2 := [.int (xs 2), .int 1, .ref 0]) (h2 := zH0) (dc2 := 117) (ds2 := 29934) 7 rfl ?_
  refine zT_val h2 ?_
  refine zT_gos (f := 200000) (pc2 := 1189) (ls2 := [(4, .int 0), (3, .ref 232), (2, .ref 162), (1, .ref 0), (0, .ref 11)]) (st2 := [.int (xs 3), .int 3, .int 1, .ref 0]) (h2 := zH0) (dc2 := 117) (ds2 := 29934) 5 rfl ?_
  refine zT_if0 false rfl (zc_eq_f (by show ((xs 3) : Int32).toInt ≠ 0; omega)) ?_
  refine zT_here (pc2 := 1192) rfl ?_
  refine zT_gos (f := 200000) (pc2 := 1197) (ls2 := [(4, .int 0), (3, .ref 232), (2, .ref 162), (1, .ref 0), (0, .ref 11)]) (st2 := [.int 1, .int 3, .int 1, .ref 0]) (h2 := zH0) (dc2 := 117) (ds2 := 29934) 2 rfl ?_
  refine zT_call rfl rfl (zT_le (zg0_le 6 xs) zk_o_108) ?_
  refine zT_here (pc2 := 1200) rfl ?_
  refine zT_gos (f := 200000) (pc2 := 1207) (ls2 := [(4, .int 0), (3, .ref 232), (2, .ref 162), (1, .ref 0), (0, .ref 11)]) (st2 := [.int (xs 1), .ref 162, .int 0]) (h2 := (((zH0.set 37 (.inr (.inr (.inr (3, [.ref 44, .ref 6, .ref 76, .ref 78, .ref 80, .ref 88, .int 1, .int 0, .ref 96, .int 0, .int 0, .int 0, .ref 98, .ref 100, .int 0]))))).set 44 (.inr (.inr (.inr (6, [.int 1, .long 70644700037184, .int 0, .ref 90, .ref 92, .ref 94]))))).set 47 (.inr (.inl (16, [70644700037184]))))) (dc2 := 117) (ds2 := 29934) 6 rfl ?_
  refine zT_if0 false rfl (zc_eq_f (by show ((xs 1) : Int32).toInt ≠ 0; omega)) ?_
  refine zT_here (pc2 := 1210) rfl ?_
  refine zT_gos (f := 200000) (pc2 := 1221) (ls2 := [(4, .int 0), (3, .ref 232), (2, .ref 162), (1, .ref 0), (0, .ref 11)]) (st2 := [.int (xs 2), .int 1, .ref 162, .int 0]) (h2 := (((zH0.set 37 (.inr (.inr (.inr (3, [.ref 44, .ref 6, .ref 76, .ref 78, .ref 80, .ref 88, .int 1, .int 0, .ref 96, .int 0, .int 0, .int 0, .ref 98, .ref 100, .int 0]))))).set 44 (.inr (.inr (.inr (6, [.int 1, .long 70644700037184, .int 0, .ref 90, .ref 92, .ref 94]))))).set 47 (.inr (.inl (16, [70644700037184]))))) (dc2 := 117) (ds2 := 29934) 7 rfl ?_
  refine zT_val h2 ?_
  refine zT_gos (f := 200000) (pc2 := 1227) (ls2 := [(4, .int 0), (3, .ref 232), (2, .ref 162), (1, .ref 0), (0, .ref 11)]) (st2 := [.int (xs 3), .int 3, .int 1, .ref 162, .int 0]) (h2 := (((zH0.set 37 (.inr (.inr (.inr (3, [.ref 44, .ref 6, .ref 76, .ref 78, .ref 80, .ref 88, .int 1, .int 0, .ref 96, .int 0, .int 0, .int 0, .ref 98, .ref 100, .int 0]))))).set 44 (.inr (.inr (.inr (6, [.int 1, .long 70644700037184, .int 0, .ref 90, .ref 92, .ref 94]))))).set 47 (.inr (.inl (16, [70644700037184]))))) (dc2 := 117) (ds2 := 29934) 5 rfl ?_
  refine zT_if0 false rfl (zc_eq_f (by show ((xs 3) : Int32).toInt ≠ 0; omega)) ?_
  refine zT_here (pc2 := 1230) rfl ?_
  refine zT_gos (f := 200000) (pc2 := 1235) (ls2 := [(4, .int 0), (3, .ref 232), (2, .ref 162), (1, .ref 0), (0, .ref 11)]) (st2 := [.int 1, .int 3, .int 1, .ref 162, .int 0]) (h2 := (((zH0.set 37 (.inr (.inr (.inr (3, [.ref 44, .ref 6, .ref 76, .ref 78, .ref 80, .ref 88, .int 1, .int 0, .ref 96, .int 0, .int 0, .int 0, .ref 98, .ref 100, .int 0]))))).set 44 (.inr (.inr (.inr (6, [.int 1, .long 70644700037184, .int 0, .ref 90, .ref 92, .ref 94]))))).set 47 (.inr (.inl (16, [70644700037184]))))) (dc2 := 117) (ds2 := 29934) 2 rfl ?_
  refine zT_call rfl rfl (zT_le (zg0_le 6 xs) zk_o_109) ?_
  refine zT_here (pc2 := 1238) rfl ?_
  refine zT_gos (f := 200000) (pc2 := 1811) (ls2 := [(4, .int 6), (3, .ref 232), (2, .ref 162), (1, .ref 0), (0, .ref 11)]) (st2 := [.int 1]) (h2 := (((((((zH0.set 37 (.inr (.inr (.inr (3, [.ref 44, .ref 6, .ref 76, .ref 78, .ref 80, .ref 88, .int 1, .int 0, .ref 96, .int 0, .int 0, .int 0, .ref 98, .ref 100, .int 0]))))).set 44 (.inr (.inr (.inr (6, [.int 1, .long 70644700037184, .int 0, .ref 90, .ref 92, .ref 94]))))).set 47 (.inr (.inl (16, [70644700037184])))).set 106 (.inl (2, 2, [0, 1]))).set 105 (.inl (0, 2, [0, 0]))).set 107 (.inl (0, 132, [0, 0, 0, 0, 0, 0, 0, 0, 0, 0, 0, 0, 0, 0, 0, 0, 0, 0, 0, 0, 0, 0, 0, 0, 0, 0, 0, 0, 0, 0, 0, 0, 0, 0, 0, 0, 0, 0, 0, 0, 0, 0, 0, 0, 0, 0, 0, 0, 0, 0, 0, 0, 0, 0, 0, 0, 0, 0, 0, 0, 0, 0, 0, 0, 0, 0, 0, 0, 0, 0, 0, 0]))).set 109 (.inl (0, 22, [0, 0, 0, 0, 0, 0, 0, 0, 0, 0, 0, 0])))) (dc2 := 117) (ds2 := 29934) 10 rfl ?_
  exact zT_ret rfl rfl
set_option maxRecDepth 1000000 in
theorem zk_o_110 : zT zg0 zF zP 126 0 [(0, .ref 0), (1, .int 1), (2, .int 4), (3, .int 1)] [] zH0 0 0 (some (.int 0), (((zH0.set 37 (.inr (.inr (.inr (3, [.ref 44, .ref 6, .ref 76, .ref 78, .ref 80, .ref 88, .int 1, .int 0, .ref 96, .int 0, .int 0, .int 0, .ref 98, .ref 100, .int 0]))))).set 44 (.inr (.inr (.inr (6, [.int 1, .long 70644700037184, .int 0, .ref 90, .ref 92, .ref 94]))))).set 47 (.inr (.inl (16, [70644700037184])))), 0, 0) := zclosed (n := 509) (by decide +kernel)
set_option maxRecDepth 1000000 in
theorem zk_o_111 : zT zg0 zF zP 257 0 [(0, .ref 162), (1, .int 1), (2, .int 4), (3, .int 1)] [] (((zH0.set 37 (.inr (.inr (.inr (3, [.ref 44, .ref 6, .ref 76, .ref 78, .ref 80, .ref 88, .int 1, .int 0, .ref 96, .int 0, .int 0, .int 0, .ref 98, .ref 100, .int 0]))))).set 44 (.inr (.inr (.inr (6, [.int 1, .long 70644700037184, .int 0, .ref 90, .ref 92, .ref 94]))))).set 47 (.inr (.inl (16, [70644700037184])))) 0 0 (some (.int 0), (((((((zH0.set 37 (.inr (.inr (.inr (3, [.ref 44, .ref 6, .ref 76, .ref 78, .ref 80, .ref 88, .int 1, .int 0, .ref 96, .int 0, .int 0, .int 0, .ref 98, .ref 100, .int 0]))))).set 44 (.inr (.inr (.inr (6, [.int 1, .long 70644700037184, .int 0, .ref 90, .ref 92, .ref 94]))))).set 47 (.inr (.inl (16, [70644700037184])))).set 106 (.inl (2, 2, [0, 1]))).set 105 (.inl (0, 2, [0, 0]))).set 107 (.inl (0, 132, [0, 0, 0, 0, 0, 0, 0, 0, 0, 0, 0, 0, 0, 0, 0, 0, 0, 0, 0, 0, 0, 0, 0, 0, 0, 0, 0, 0, 0, 0, 0, 0, 0, 0, 0, 0, 0, 0, 0, 0, 0, 0, 0, 0, 0, 0, 0, 0, 0, 0, 0, 0, 0, 0, 0, 0, 0, 0, 0, 0, 0, 0, 0, 0, 0, 0, 0, 0, 0, 0, 0, 0]))).set 109 (.inl (0, 22, [0, 0, 0, 0, 0, 0, 0, 0, 0, 0, 0, 0]))), 0, 0) := zclosed (n := 1968) (by decide +kernel)
set_option maxRecDepth 1000000 in
set_option maxHeartbeats 4000000 in
theorem zo_25_30 (xs : Nat → Int32) (h0 : xs 0 &&& 63 = 25) (h1 : (xs 1).toInt ≠ 0) (h3 : (xs 3).toInt ≠ 0) (h2 : xs 2 = 4) : zDone xs := by
  refine ⟨(((((((zH0.set 37 (.inr (.inr (.inr (3, [.ref 44, .ref 6, .ref 76, .ref 78, .ref 80, .ref 88, .int 1, .int 0, .ref 96, .int 0, .int 0, .int 0, .ref 98, .ref 100, .int 0]))))).set 44 (.inr (.inr (.inr (6, [.int 1, .long 70644700037184, .int 0, .ref 90, .ref 92, .ref 94]))))).set 47 (.inr (.inl (16, [70644700037184])))).set 106 (.inl (2, 2, [0, 1]))).set 105 (.inl (0, 2, [0, 0]))).set 107 (.inl (0, 132, [0, 0, 0, 0, 0, 0, 0, 0, 0, 0, 0, 0, 0, 0, 0, 0, 0, 0, 0, 0, 0, 0, 0, 0, 0, 0, 0, 0, 0, 0, 0, 0, 0, 0, 0, 0, 0, 0, 0, 0, 0, 0, 0, 0, 0, 0, 0, 0, 0, 0, 0, 0, 0, 0, 0, 0, 0, 0, 0, 0, 0, 0, 0, 0, 0, 0, 0, 0, 0, 0, 0, 0]))).set 109 (.inl (0, 22, [0, 0, 0, 0, 0, 0, 0, 0, 0, 0, 0, 0]))), 117, 29934, ?_, by decide, by decide⟩
  refine zT_gos (f := 200000) (pc2 := 37) (ls2 := [(4, .int 0), (3, .ref 232), (2, .ref 162), (1, .ref 0), (0, .ref 11)]) (st2 := [.int (xs 0)]) (h2 := zH0) (dc2 := 117) (ds2 := 29934) 9 rfl ?_
  refine zT_gos (f := 200000) (pc2 := 40) (ls2 := [(4, .int 0), (3, .ref 232), (2, .ref 162), (1, .ref 0), (0, .ref 11)]) (st2 := [.int ((xs 0) &&& (63 : Int32))]) (h2 := zH0) (dc2 := 117) (ds2 := 29934) 2 rfl ?_
  refine zT_val h0 ?_
  refine zT_gos (f := 200000) (pc2 := 1169) (ls2 := [(4, .int 0), (3, .ref 232), (2, .ref 162), (1, .ref 0), (0, .ref 11)]) (st2 := [.int (xs 1), .ref 0]) (h2 := zH0) (dc2 := 117) (ds2 := 29934) 7 rfl ?_
  refine zT_if0 false rfl (zc_eq_f (by show ((xs 1) : Int32).toInt ≠ 0; omega)) ?_
  refine zT_here (pc2 := 1172) rfl ?_
  refine zT_gos (f := 200000) (pc2 := 1183) (ls2 := [(4, .int 0), (3, .ref 232), (2, .ref 162), (1, .ref 0), (0, .ref 11)]) (st2 := [.int (xs 2), .int 1, .ref 0]) (h2 := zH0) (dc2 := 117) (ds2 := 29934) 7 rfl ?_
  refine zT_val h2 ?_
  refine zT_gos (f := 200000) (pc2 := 1189) (ls2 := [(4, .int 0), (3, .ref 232), (2, .ref 162), (1, .ref 0), (0, .ref 11)]) (st2 := [.int (xs 3), .int 4, .int 1, .ref 0]) (h2 := zH0) (dc2 := 117) (ds2 := 29934) 5 rfl ?_
  refine zT_if0 false rfl (zc_eq_f (by show ((xs 3) : Int32).toInt ≠ 0; omega)) ?_
  refine zT_here (pc2 := 1192) rfl ?_
  refine zT_gos (f := 200000) (pc2 := 1197) (ls2 := [(4, .int 0), (3, .ref 232), (2, .ref 162), (1, .ref 0), (0, .ref 11)]) (st2 := [.int 1, .int 4, .int 1, .ref 0]) (h2 := zH0) (dc2 := 117) (ds2 := 29934) 2 rfl ?_
  refine zT_call rfl rfl (zT_le (zg0_le 6 xs) zk_o_110) ?_
  refine zT_here (pc2 := 1200) rfl ?_
  refine zT_gos (f := 200000) (pc2 := 1207) (ls2 := [(4, .int 0), (3, .ref 232), (2, .ref 162), (1, .ref 0), (0, .ref 11)]) (st2 := [.int (xs 1), .ref 162, .int 0]) (h2 := (((zH0.set 37 (.inr (.inr (.inr (3, [.ref 44, .ref 6, .ref 76, .ref 78, .ref 80, .ref 88, .int 1, .int 0, .ref 96, .int 0, .int 0, .int 0, .ref 98, .ref 100, .int 0]))))).set 44 (.inr (.inr (.inr (6, [.int 1, .long 70644700037184, .int 0, .ref 90, .ref 92, .ref 94]))))).set 47 (.inr (.inl (16, [70644700037184]))))) (dc2 := 117) (ds2 := 29934) 6 rfl ?_
  refine zT_if0 false rfl (zc_eq_f (by show ((xs 1) : Int32).toInt ≠ 0; omega)) ?_
  refine zT_here (pc2 := 1210) rfl ?_
  refine zT_gos (f := 200000) (pc2 := 1221) (ls2 := [(4, .int 0), (3, .ref 232), (2, .ref 162), (1, .ref 0), (0, .ref 11)]) (st2 := [.int (xs 2), .int 1, .ref 162, .int 0]) (h2 := (((zH0.set 37 (.inr (.inr (.inr (3, [.ref 44, .ref 6, .ref 76, .ref 78, .ref 80, .ref 88, .int 1, .int 0, .ref 96, .int 0, .int 0, .int 0, .ref 98, .ref 100, .int 0]))))).set 44 (.inr (.inr (.inr (6, [.int 1, .long 70644700037184, .int 0, .ref 90, .ref 92, .ref 94]))))).set 47 (.inr (.inl (16, [70644700037184]))))) (dc2 := 117) (ds2 := 29934) 7 rfl ?_
  refine zT_val h2 ?_
  refine zT_gos (f := 200000) (pc2 := 1227) (ls2 := [(4, .int 0), (3, .ref 232), (2, .ref 162), (1, .ref 0), (0, .ref 11)]) (st2 := [.int (xs 3), .int 4, .int 1, .ref 162, .int 0]) (h2 := (((zH0.set 37 (.inr (.inr (.inr (3, [.ref 44, .ref 6, .ref 76, .ref 78, .ref 80, .ref 88, .int 1, .int 0, .ref 96, .int 0, .int 0, .int 0, .ref 98, .ref 100, .int 0]))))).set 44 (.inr (.inr (.inr (6, [.int 1, .long 70644700037184, .int 0, .ref 90, .ref 92, .ref 94]))))).set 47 (.inr (.inl (16, [70644700037184]))))) (dc2 := 117) (ds2 := 29934) 5 rfl ?_
  refine zT_if0 false rfl (zc_eq_f (by show ((xs 3) : Int32).toInt ≠ 0; omega)) ?_
  refine zT_here (pc2 := 1230) rfl ?_
  refine zT_gos (f := 200000) (pc2 := 1235) (ls2 := [(4, .int 0), (3, .ref 232), (2, .ref 162), (1, .ref 0), (0, .ref 11)]) (st2 := [.int 1, .int 4, .int 1, .ref 162, .int 0]) (h2 := (((zH0.set 37 (.inr (.inr (.inr (3, [.ref 44, .ref 6, .ref 76, .ref 78, .ref 80, .ref 88, .int 1, .int 0, .ref 96, .int 0, .int 0, .int 0, .ref 98, .ref 100, .int 0]))))).set 44 (.inr (.inr (.inr (6, [.int 1, .long 70644700037184, .int 0, .ref 90, .ref 92, .ref 94]))))).set 47 (.inr (.inl (16, [70644700037184]))))) (dc2 := 117) (ds2 := 29934) 2 rfl ?_
  refine zT_call rfl rfl (zT_le (zg0_le 6 xs) zk_o_111) ?_
  refine zT_here (pc2 := 1238) rfl ?_
  refine zT_gos (f := 200000) (pc2 := 1811) (ls2 := [(4, .int 6), (3, .ref 232), (2, .ref 162), (1, .ref 0), (0, .ref 11)]) (st2 := [.int 1]) (h2 := (((((((zH0.set 37 (.inr (.inr (.inr (3, [.ref 44, .ref 6, .ref 76, .ref 78, .ref 80, .ref 88, .int 1, .int 0, .ref 96, .int 0, .int 0, .int 0, .ref 98, .ref 100, .int 0]))))).set 44 (.inr (.inr (.inr (6, [.int 1, .long 70644700037184, .int 0, .ref 90, .ref 92, .ref 94]))))).set 47 (.inr (.inl (16, [70644700037184])))).set 106 (.inl (2, 2, [0, 1]))).set 105 (.inl (0, 2, [0, 0]))).set 107 (.inl (0, 132, [0, 0, 0, 0, 0, 0, 0, 0, 0, 0, 0, 0, 0, 0, 0, 0, 0, 0, 0, 0, 0, 0, 0, 0, 0, 0, 0, 0, 0, 0, 0, 0, 0, 0, 0, 0, 0, 0, 0, 0, 0, 0, 0, 0, 0, 0, 0, 0, 0, 0, 0, 0, 0, 0, 0, 0, 0, 0, 0, 0, 0, 0, 0, 0, 0, 0, 0, 0, 0, 0, 0, 0]))).set 109 (.inl (0, 22, [0, 0, 0, 0, 0, 0, 0, 0, 0, 0, 0, 0])))) (dc2 := 117) (ds2 := 29934) 10 rfl ?_
  exact zT_ret rfl rfl
set_option maxRecDepth 1000000 in
theorem zk_o_112 : zT zg0 zF zP 126 0 [(0, .ref 0), (1, .int 1), (2, .int 5), (3, .int 1)] [] zH0 0 0 (some (.int 0), (((zH0.set 37 (.inr (.inr (.inr (3, [.ref 44, .ref 6, .ref 76, .ref 78, .ref 80, .ref 88, .int 1, .int 0, .ref 96, .int 0, .int 0, .int 0, .ref 98, .ref 100, .int 0]))))).set 44 (.inr (.inr (.inr (6, [.int 1, .long 70644700037184, .int 0, .ref 90, .ref 92, .ref 94]))))).set 47 (.inr (.inl (16, [70644700037184])))), 0, 0) := zclosed (n := 509) (by decide +kernel)
set_option maxRecDepth 1000000 in
theorem zk_o_113 : zT zg0 zF zP 257 0 [(0, .ref 162), (1, .int 1), (2, .int 5), (3, .int 1)] [] (((zH0.set 37 (.inr (.inr (.inr (3, [.ref 44, .ref 6, .ref 76, .ref 78, .ref 80, .ref 88, .int 1, .int 0, .ref 96, .int 0, .int 0, .int 0, .ref 98, .ref 100, .int 0]))))).set 44 (.inr (.inr (.inr (6, [.int 1, .long 70644700037184, .int 0, .ref 90, .ref 92, .ref 94]))))).set 47 (.inr (.inl (16, [70644700037184])))) 0 0 (some (.int 0), (((((((zH0.set 37 (.inr (.inr (.inr (3, [.ref 44, .ref 6, .ref 76, .ref 78, .ref 80, .ref 88, .int 1, .int 0, .ref 96, .int 0, .int 0, .int 0, .ref 98, .ref 100, .int 0]))))).set 44 (.inr (.inr (.inr (6, [.int 1, .long 70644700037184, .int 0, .ref 90, .ref 92, .ref 94]))))).set 47 (.inr (.inl (16, [70644700037184])))).set 106 (.inl (2, 2, [0, 1]))).set 105 (.inl (0, 2, [0, 0]))).set 107 (.inl (0, 132, [0, 0, 0, 0, 0, 0, 0, 0, 0, 0, 0, 0, 0, 0, 0, 0, 0, 0, 0, 0, 0, 0, 0, 0, 0, 0, 0, 0, 0, 0, 0, 0, 0, 0, 0, 0, 0, 0, 0, 0, 0, 0, 0, 0, 0, 0, 0, 0, 0, 0, 0, 0, 0, 0, 0, 0, 0, 0, 0, 0, 0, 0, 0, 0, 0, 0, 0, 0, 0, 0, 0, 0]))).set 109 (.inl (0, 22, [0, 0, 0, 0, 0, 0, 0, 0, 0, 0, 0, 0]))), 0, 0) := zclosed (n := 1968) (by decide +kernel)
set_option maxRecDepth 1000000 in
set_option maxHeartbeats 4000000 in
theorem zo_25_31 (xs : Nat → Int32) (h0 : xs 0 &&& 63 = 25) (h1 : (xs 1).toInt ≠ 0) (h3 : (xs 3).toInt ≠ 0) (h2 : xs 2 = 5) : zDone xs := by
  refine ⟨(((((((zH0.set 37 (.inr (.inr (.inr (3, [.ref 44, .ref 6, .ref 76, .ref 78, .ref 80, .ref 88, .int 1, .int 0, .ref 96, .int 0, .int 0, .int 0, .ref 98, .ref 100, .int 0]))))).set 44 (.inr (.inr (.inr (6, [.int 1, .long 70644700037184, .int 0, .ref 90, .ref 92, .ref 94]))))).set 47 (.inr (.inl (16, [70644700037184])))).set 106 (.inl (2, 2, [0, 1]))).set 105 (.inl (0, 2, [0, 0]))).set 107 (.inl (0, 132, [0, 0, 0, 0, 0, 0, 0, 0, 0, 0, 0, 0, 0, 0, 0, 0, 0, 0, 0, 0, 0, 0, 0, 0, 0, 0, 0, 0, 0, 0, 0, 0, 0, 0, 0, 0, 0, 0, 0, 0, 0, 0, 0, 0, 0, 0, 0, 0, 0, 0, 0, 0, 0, 0, 0, 0, 0, 0, 0, 0, 0, 0, 0, 0, 0, 0, 0, 0, 0, 0, 0, 0]))).set 109 (.inl (0, 22, [0, 0, 0, 0, 0, 0, 0, 0, 0, 0, 0, 0]))), 117, 29934, ?_, by decide, by decide⟩
  refine zT_gos (f := 200000) (pc2 := 37) (ls2 := [(4, .int 0), (3, .ref 232), (2, .ref 162), (1, .ref 0), (0, .ref 11)]) (st2 := [.int (xs 0)]) (h2 := zH0) (dc2 := 117) (ds2 := 29934) 9 rfl ?_
  refine zT_gos (f := 200000) (pc2 := 40) (ls2 := [(4, .int 0), (3, .ref 232), (2, .ref 162), (1, .ref 0), (0, .ref 11)]) (st2 := [.int ((xs 0) &&& (63 : Int32))]) (h2 := zH0) (dc2 := 117) (ds2 := 29934) 2 rfl ?_
  refine zT_val h0 ?_
  refine zT_gos (f := 200000) (pc2 := 1169) (ls2 := [(4, .int 0), (3, .ref 232), (2, .ref 162), (1, .ref 0), (0, .ref 11)]) (st2 := [.int (xs 1), .ref 0]) (h2 := zH0) (dc2 := 117) (ds2 := 29934) 7 rfl ?_
  refine zT_if0 false rfl (zc_eq_f (by show ((xs 1) : Int32).toInt ≠ 0; omega)) ?_
  refine zT_here (pc2 := 1172) rfl ?_
  refine zT_gos (f := 200000) (pc2 := 1183) (ls2 := [(4, .int 0), (3, .ref 232), (2, .ref 162), (1, .ref 0), (0, .ref 11)]) (st2 := [.int (xs 2), .int 1, .ref 0]) (h2 := zH0) (dc2 := 117) (ds2 := 29934) 7 rfl ?_
  refine zT_val h2 ?_
  refine zT_gos (f := 200000) (pc2 := 1189) (ls2 := [(4, .int 0), (3, .ref 232), (2, .ref 162), (1, .ref 0), (0, .ref 11)]) (st2 := [.int (xs 3), .int 5, .int 1, .ref 0]) (h2 := zH0) (dc2 := 117) (ds2 := 29934) 5 rfl ?_
  refine zT_if0 false rfl (zc_eq_f (by show ((xs 3) : Int32).toInt ≠ 0; omega)) ?_
  refine zT_here (pc2 := 1192) rfl ?_
  refine zT_gos (f := 200000) (pc2 := 1197) (ls2 := [(4, .int 0), (3, .ref 232), (2, .ref 162), (1, .ref 0), (0, .ref 11)]) (st2 := [.int 1, .int 5, .int 1, .ref 0]) (h2 := zH0) (dc2 := 117) (ds2 := 29934) 2 rfl ?_
  refine zT_call rfl rfl (zT_le (zg0_le 6 xs) zk_o_112) ?_
  refine zT_here (pc2 := 1200) rfl ?_
  refine zT_gos (f := 200000) (pc2 := 1207) (ls2 := [(4, .int 0), (3, .ref 232), (2, .ref 162), (1, .ref 0), (0, .ref 11)]) (st2 := [.int (xs 1), .ref 162, .int 0]) (h2 := (((zH0.set 37 (.inr (.inr (.inr (3, [.ref 44, .ref 6, .ref 76, .ref 78, .ref 80, .ref 88, .int 1, .int 0, .ref 96, .int 0, .int 0, .int 0, .ref 98, .ref 100, .int 0]))))).set 44 (.inr (.inr (.inr (6, [.int 1, .long 70644700037184, .int 0, .ref 90, .ref 92, .ref 94]))))).set 47 (.inr (.inl (16, [70644700037184]))))) (dc2 := 117) (ds2 := 29934) 6 rfl ?_
  refine zT_if0 false rfl (zc_eq_f (by show ((xs 1) : Int32).toInt ≠ 0; omega)) ?_
  refine zT_here (pc2 := 1210) rfl ?_
  refine zT_gos (f := 200000) (pc2 := 1221) (ls2 := [(4, .int 0), (3, .ref 232), (2, .ref 162), (1, .ref 0), (0, .ref 11)]) (st2 := [.int (xs 2), .int 1, .ref 162, .int 0]) (h2 := (((zH0.set 37 (.inr (.inr (.inr (3, [.ref 44, .ref 6, .ref 76, .ref 78, .ref 80, .ref 88, .int 1, .int 0, .ref 96, .int 0, .int 0, .int 0, .ref 98, .ref 100, .int 0]))))).set 44 (.inr (.inr (.inr (6, [.int 1, .long 70644700037184, .int 0, .ref 90, .ref 92, .ref 94]))))).set 47 (.inr (.inl (16, [70644700037184]))))) (dc2 := 117) (ds2 := 29934) 7 rfl ?_
  refine zT_val h2 ?_
  refine zT_gos (f := 200000) (pc2 := 1227) (ls2 := [(4, .int 0), (3, .ref 232), (2, .ref 162), (1, .ref 0), (0, .ref 11)]) (st2 := [.int (xs 3), .int 5, .int 1, .ref 162, .int 0]) (h2 := (((zH0.set 37 (.inr (.inr (.inr (3, [.ref 44, .ref 6, .ref 76, .ref 78, .ref 80, .ref 88, .int 1, .int 0, .ref 96, .int 0, .int 0, .int 0, .ref 98, .ref 100, .int 0]))))).set 44 (.inr (.inr (.inr (6, [.int 1, .long 70644700037184, .int 0, .ref 90, .ref 92, .ref 94]))))).set 47 (.inr (.inl (16, [70644700037184]))))) (dc2 := 117) (ds2 := 29934) 5 rfl ?_
  refine zT_if0 false rfl (zc_eq_f (by show ((xs 3) : Int32).toInt ≠ 0; omega)) ?_
  refine zT_here (pc2 := 1230) rfl ?_
  refine zT_gos (f := 200000) (pc2 := 1235) (ls2 := [(4, .int 0), (3, .ref 232), (2, .ref 162), (1, .ref 0), (0, .ref 11)]) (st2 := [.int 1, .int 5, .int 1, .ref 162, .int 0]) (h2 := (((zH0.set 37 (.inr (.inr (.inr (3, [.ref 44, .ref 6, .ref 76, .ref 78, .ref 80, .ref 88, .int 1, .int 0, .ref 96, .int 0, .int 0, .int 0, .ref 98, .ref 100, .int 0]))))).set 44 (.inr (.inr (.inr (6, [.int 1, .long 70644700037184, .int 0, .ref 90, .ref 92, .ref 94]))))).set 47 (.inr (.inl (16, [70644700037184]))))) (dc2 := 117) (ds2 := 29934) 2 rfl ?_
  refine zT_call rfl rfl (zT_le (zg0_le 6 xs) zk_o_113) ?_
  refine zT_here (pc2 := 1238) rfl ?_
  refine zT_gos (f := 200000) (pc2 := 1811) (ls2 := [(4, .int 6), (3, .ref 232), (2, .ref 162), (1, .ref 0), (0, .ref 11)]) (st2 := [.int 1]) (h2 := (((((((zH0.set 37 (.inr (.inr (.inr (3, [.ref 44, .ref 6, .ref 76, .ref 78, .ref 80, .ref 88, .int 1, .int 0, .ref 96, .int 0, .int 0, .int 0, .ref 98, .ref 100, .int 0]))))).set 44 (.inr (.inr (.inr (6, [.int 1, .long 70644700037184, .int 0, .ref 90, .ref 92, .ref 94]))))).set 47 (.inr (.inl (16, [70644700037184])))).set 106 (.inl (2, 2, [0, 1]))).set 105 (.inl (0, 2, [0, 0]))).set 107 (.inl (0, 132, [0, 0, 0, 0, 0, 0, 0, 0, 0, 0, 0, 0, 0, 0, 0, 0, 0, 0, 0, 0, 0, 0, 0, 0, 0, 0, 0, 0, 0, 0, 0, 0, 0, 0, 0, 0, 0, 0, 0, 0, 0, 0, 0, 0, 0, 0, 0, 0, 0, 0, 0, 0, 0, 0, 0, 0, 0, 0, 0, 0, 0, 0, 0, 0, 0, 0, 0, 0, 0, 0, 0, 0]))).set 109 (.inl (0, 22, [0, 0, 0, 0, 0, 0, 0, 0, 0, 0, 0, 0])))) (dc2 := 117) (ds2 := 29934) 10 rfl ?_
  exact zT_ret rfl rfl
theorem zop_25 (xs : Nat → Int32) (h0 : xs 0 &&& 63 = 25) : zDone xs := by
  rcases (show (xs 1).toInt = 0 ∨ (xs 1).toInt ≠ 0 by omega) with h1 | h1
  · have h1 : xs 1 = 0 := Int32.toInt_inj.mp h1
    rcases (show (xs 3).toInt = 0 ∨ (xs 3).toInt ≠ 0 by omega) with h3 | h3
    · have h3 : xs 3 = 0 := Int32.toInt_inj.mp h3
      rcases (show (xs 2).toInt < 0 ∨ 5 < (xs 2).toInt ∨ (xs 2).toInt = 0 ∨ (xs 2).toInt = 1 ∨ (xs 2).toInt = 2 ∨ (xs 2).toInt = 3 ∨ (xs 2).toInt = 4 ∨ (xs 2).toInt = 5 by omega) with h2 | h2 | h2 | h2 | h2 | h2 | h2 | h2
      · have h2 := h2
        exact zo_25_0 xs h0 h1 h3 h2
      · have h2 := h2
        exact zo_25_1 xs h0 h1 h3 h2
      · have h2 : xs 2 = 0 := Int32.toInt_inj.mp h2
        exact zo_25_2 xs h0 h1 h3 h2
      · have h2 : xs 2 = 1 := Int32.toInt_inj.mp h2
        exact zo_25_3 xs h0 h1 h3 h2
      · have h2 : xs 2 = 2 := Int32.toInt_inj.mp h2
        exact zo_25_4 xs h0 h1 h3 h2
      · have h2 : xs 2 = 3 := Int32.toInt_inj.mp h2
        exact zo_25_5 xs h0 h1 h3 h2
      · have h2 : xs 2 = 4 := Int32.toInt_inj.mp h2
        exact zo_25_6 xs h0 h1 h3 h2
      · have h2 : xs 2 = 5 := Int32.toInt_inj.mp h2
        exact zo_25_7 xs h0 h1 h3 h2
    · have h3 := h3
      rcases (show (xs 2).toInt < 0 ∨ 5 < (xs 2).toInt ∨ (xs 2).toInt = 0 ∨ (xs 2).toInt = 1 ∨ (xs 2).toInt = 2 ∨ (xs 2).toInt = 3 ∨ (xs 2).toInt = 4 ∨ (xs 2).toInt = 5 by omega) with h2 | h2 | h2 | h2 | h2 | h2 | h2 | h2
      · have h2 := h2
        exact zo_25_8 xs h0 h1 h3 h2
      · have h2 := h2
        exact zo_25_9 xs h0 h1 h3 h2
      · have h2 : xs 2 = 0 := Int32.toInt_inj.mp h2
        exact zo_25_10 xs h0 h1 h3 h2
      · have h2 : xs 2 = 1 := Int32.toInt_inj.mp h2
        exact zo_25_11 xs h0 h1 h3 h2
      · have h2 : xs 2 = 2 := Int32.toInt_inj.mp h2
        exact zo_25_12 xs h0 h1 h3 h2
      · have h2 : xs 2 = 3 := Int32.toInt_inj.mp h2
        exact zo_25_13 xs h0 h1 h3 h2
      · have h2 : xs 2 = 4 := Int32.toInt_inj.mp h2
        exact zo_25_14 xs h0 h1 h3 h2
      · have h2 : xs 2 = 5 := Int32.toInt_inj.mp h2
        exact zo_25_15 xs h0 h1 h3 h2
  · have h1 := h1
    rcases (show (xs 3).toInt = 0 ∨ (xs 3).toInt ≠ 0 by omega) with h3 | h3
    · have h3 : xs 3 = 0 := Int32.toInt_inj.mp h3
      rcases (show (xs 2).toInt < 0 ∨ 5 < (xs 2).toInt ∨ (xs 2).toInt = 0 ∨ (xs 2).toInt = 1 ∨ (xs 2).toInt = 2 ∨ (xs 2).toInt = 3 ∨ (xs 2).toInt = 4 ∨ (xs 2).toInt = 5 by omega) with h2 | h2 | h2 | h2 | h2 | h2 | h2 | h2
      · have h2 := h2
        exact zo_25_16 xs h0 h1 h3 h2
      · have h2 := h2
        exact zo_25_17 xs h0 h1 h3 h2
      · have h2 : xs 2 = 0 := Int32.toInt_inj.mp h2
        exact zo_25_18 xs h0 h1 h3 h2
      · have h2 : xs 2 = 1 := Int32.toInt_inj.mp h2
        exact zo_25_19 xs h0 h1 h3 h2
      · have h2 : xs 2 = 2 := Int32.toInt_inj.mp h2
        exact zo_25_20 xs h0 h1 h3 h2
      · have h2 : xs 2 = 3 := Int32.toInt_inj.mp h2
        exact zo_25_21 xs h0 h1 h3 h2
      · have h2 : xs 2 = 4 := Int32.toInt_inj.mp h2
        exact zo_25_22 xs h0 h1 h3 h2
      · have h2 : xs 2 = 5 := Int32.toInt_inj.mp h2
        exact zo_25_23 xs h0 h1 h3 h2
    · have h3 := h3
      rcases (show (xs 2).toInt < 0 ∨ 5 < (xs 2).toInt ∨ (xs 2).toInt = 0 ∨ (xs 2).toInt = 1 ∨ (xs 2).toInt = 2 ∨ (xs 2).toInt = 3 ∨ (xs 2).toInt = 4 ∨ (xs 2).toInt = 5 by omega) with h2 | h2 | h2 | h2 | h2 | h2 | h2 | h2
      · have h2 := h2
        exact zo_25_24 xs h0 h1 h3 h2
      · have h2 := h2
        exact zo_25_25 xs h0 h1 h3 h2
      · have h2 : xs 2 = 0 := Int32.toInt_inj.mp h2
        exact zo_25_26 xs h0 h1 h3 h2
      · have h2 : xs 2 = 1 := Int32.toInt_inj.mp h2
        exact zo_25_27 xs h0 h1 h3 h2
      · have h2 : xs 2 = 2 := Int32.toInt_inj.mp h2
        exact zo_25_28 xs h0 h1 h3 h2
      · have h2 : xs 2 = 3 := Int32.toInt_inj.mp h2
        exact zo_25_29 xs h0 h1 h3 h2
      · have h2 : xs 2 = 4 := Int32.toInt_inj.mp h2
        exact zo_25_30 xs h0 h1 h3 h2
      · have h2 : xs 2 = 5 := Int32.toInt_inj.mp h2
        exact zo_25_31 xs h0 h1 h3 h2
set_option maxRecDepth 1000000 in
set_option maxHeartbeats 4000000 in
theorem zo_38_0 (xs : Nat → Int32) (h0 : xs 0 &&& 63 = 38)  : zDone xs := by
  refine ⟨zH0, 117, 29934, ?_, by decide, by decide⟩
  refine zT_gos (f := 200000) (pc2 := 37) (ls2 := [(4, .int 0), (3, .ref 232), (2, .ref 162), (1, .ref 0), (0, .ref 11)]) (st2 := [.int (xs 0)]) (h2 := zH0) (dc2 := 117) (ds2 := 29934) 9 rfl ?_
  refine zT_gos (f := 200000) (pc2 := 40) (ls2 := [(4, .int 0), (3, .ref 232), (2, .ref 162), (1, .ref 0), (0, .ref 11)]) (st2 := [.int ((xs 0) &&& (63 : Int32))]) (h2 := zH0) (dc2 := 117) (ds2 := 29934) 2 rfl ?_
  refine zT_val h0 ?_
  refine zT_gos (f := 200000) (pc2 := 1811) (ls2 := [(4, .int 6), (3, .ref 232), (2, .ref 162), (1, .ref 0), (0, .ref 11)]) (st2 := [.int 1]) (h2 := zH0) (dc2 := 117) (ds2 := 29934) 15 rfl ?_
  exact zT_ret rfl rfl
theorem zop_38 (xs : Nat → Int32) (h0 : xs 0 &&& 63 = 38) : zDone xs := by
  exact zo_38_0 xs h0 
set_option maxRecDepth 1000000 in
theorem zk_o_114 : zT zg0 zF zP 193 0 [(0, .ref 162)] [] ((zH0.set 0 (.inr (.inr (.inr (9, [.ref 2, .int 0, .ref 4, .ref 6, .ref 20, .long 70644700037184, .ref 34, .ref 36, .int 1, .long 70644700037184, .ref 42, .ref 44, .ref 60, .ref 66, .ref 72, .ref 74, .ref 150, .ref 158]))))).set 21 (.inl (0, 6, [22000000, 0, 10000, 0, 0, 0]))) 0 0 (some (.int 1), ((((zH0.set 0 (.inr (.inr (.inr (9, [.ref 2, .int 0, .ref 4, .ref 6, .ref 20, .long 70644700037184, .ref 34, .ref 36, .int 1, .long 70644700037184, .ref 42, .ref 44, .ref 60, .ref 66, .ref 72, .ref 74, .ref 150, .ref 158]))))).set 21 (.inl (0, 6, [22000000, 0, 10000, 0, 0, 0]))).set 81 (.inr (.inr (.inr (10, [.int 0, .ref 164, .int 0, .ref 166, .ref 168, .ref 170, .ref 172, .ref 174, .ref 176, .ref 178, .ref 180, .ref 182, .ref 184, .ref 186, .int 0, .int 0, .int 0, .int 0, .int 0, .int 0, .int 0, .int 0, .int 0, .int (-1), .ref 188, .ref 190, .ref 192, .int 0, .int 1, .ref 194, .ref 196, .ref 198, .int 0, .int 0, .int 0, .int 0, .ref 200, .ref 202, .ref 204, .int 0, .ref 206, .ref 208, .ref 210, .ref 212, .ref 214, .ref 216, .ref 218, .ref 220, .ref 222, .ref 224, .ref 226, .ref 228, .int 0, .ref 230]))))).set 96 (.inl (0, 252, [0, 0, 0, 0, 0, 0, 0, 0, 0, 0, 0, 0, 0, 0, 0, 0, 0, 0, 0, 0, 0, 0, 0, 0, 0, 0, 0, 0, 0, 0, 0, 0, 0, 0, 0, 0, 0, 0, 0, 0, 0, 0, 0, 0, 0, 0, 0, 0, 0, 0, 0, 0, 0, 0, 0, 0, 0, 0, 0, 0, 0, 0, 0, 0, 0, 0, 0, 0, 0, 0, 0, 0, 0, 0, 0, 0, 0, 0, 0, 0, 0, 0, 0, 0, 0, 0, 0, 0, 0, 0, 0, 0, 0, 0, 0, 0, 0, 0, 0, 0, 0, 0, 0, 0, 0, 0, 0, 0, 0, 0, 0, 0, 0, 0, 0, 0, 0, 0, 0, 0, 0, 0, 0, 0, 0, 0, 0, 0, 0, 0, 0, 0, 0, 0, 0, 0, 0, 0, 0, 0, 0, 0, 0, 0, 0, 0, 0, 0, 0, 0, 0, 0, 0, 0, 0, 0, 0, 0, 0, 0, 0, 0, 0, 0, 0, 0, 0, 0, 0, 0, 0, 0, 0, 0, 0, 0, 0, 0, 0, 0, 0, 0, 0, 0, 0, 0, 0, 0, 0, 0, 0, 0, 0, 0, 0, 0, 0, 0, 0, 0, 0, 0, 0, 0, 0, 0, 0, 0, 0, 0, 0, 0, 0, 0, 0, 0, 0, 0, 0, 0, 0, 0, 0, 0, 0, 0, 0, 0, 0, 0, 0, 0, 0, 0, 0, 0, 0, 0, 0, 0, 0, 0, 0, 0, 0, 0, 22000000, 0, 10000, 0, 0, 0]))), 0, 0) := zclosed (n := 223) (by decide +kernel)
set_option maxRecDepth 1000000 in
set_option maxHeartbeats 4000000 in
theorem zo_39_0 (xs : Nat → Int32) (h0 : xs 0 &&& 63 = 39)  : zDone xs := by
  refine ⟨((((zH0.set 0 (.inr (.inr (.inr (9, [.ref 2, .int 0, .ref 4, .ref 6, .ref 20, .long 70644700037184, .ref 34, .ref 36, .int 1, .long 70644700037184, .ref 42, .ref 44, .ref 60, .ref 66, .ref 72, .ref 74, .ref 150, .ref 158]))))).set 21 (.inl (0, 6, [22000000, 0, 10000, 0, 0, 0]))).set 81 (.inr (.inr (.inr (10, [.int 0, .ref 164, .int 0, .ref 166, .ref 168, .ref 170, .ref 172, .ref 174, .ref 176, .ref 178, .ref 180, .ref 182, .ref 184, .ref 186, .int 0, .int 0, .int 0, .int 0, .int 0, .int 0, .int 0, .int 0, .int 0, .int (-1), .ref 188, .ref 190, .ref 192, .int 0, .int 1, .ref 194, .ref 196, .ref 198, .int 0, .int 0, .int 0, .int 0, .ref 200, .ref 202, .ref 204, .int 0, .ref 206, .ref 208, .ref 210, .ref 212, .ref 214, .ref 216, .ref 218, .ref 220, .ref 222, .ref 224, .ref 226, .ref 228, .int 0, .ref 230]))))).set 96 (.inl (0, 252, [0, 0, 0, 0, 0, 0, 0, 0, 0, 0, 0, 0, 0, 0, 0, 0, 0, 0, 0, 0, 0, 0, 0, 0, 0, 0, 0, 0, 0, 0, 0, 0, 0, 0, 0, 0, 0, 0, 0, 0, 0, 0, 0, 0, 0, 0, 0, 0, 0, 0, 0, 0, 0, 0, 0, 0, 0, 0, 0, 0, 0, 0, 0, 0, 0, 0, 0, 0, 0, 0, 0, 0, 0, 0, 0, 0, 0, 0, 0, 0, 0, 0, 0, 0, 0, 0, 0, 0, 0, 0, 0, 0, 0, 0, 0, 0, 0, 0, 0, 0, 0, 0, 0, 0, 0, 0, 0, 0, 0, 0, 0, 0, 0, 0, 0, 0, 0, 0, 0, 0, 0, 0, 0, 0, 0, 0, 0, 0, 0, 0, 0, 0, 0, 0, 0, 0, 0, 0, 0, 0, 0, 0, 0, 0, 0, 0, 0, 0, 0, 0, 0, 0, 0, 0, 0, 0, 0, 0, 0, 0, 0, 0, 0, 0, 0, 0, 0, 0, 0, 0, 0, 0, 0, 0, 0, 0, 0, 0, 0, 0, 0, 0, 0, 0, 0, 0, 0, 0, 0, 0, 0, 0, 0, 0, 0, 0, 0, 0, 0, 0, 0, 0, 0, 0, 0, 0, 0, 0, 0, 0, 0, 0, 0, 0, 0, 0, 0, 0, 0, 0, 0, 0, 0, 0, 0, 0, 0, 0, 0, 0, 0, 0, 0, 0, 0, 0, 0, 0, 0, 0, 0, 0, 0, 0, 0, 0, 22000000, 0, 10000, 0, 0, 0]))), 117, 29934, ?_, by decide, by decide⟩
  refine zT_gos (f := 200000) (pc2 := 37) (ls2 := [(4, .int 0), (3, .ref 232), (2, .ref 162), (1, .ref 0), (0, .ref 11)]) (st2 := [.int (xs 0)]) (h2 := zH0) (dc2 := 117) (ds2 := 29934) 9 rfl ?_
  refine zT_gos (f := 200000) (pc2 := 40) (ls2 := [(4, .int 0), (3, .ref 232), (2, .ref 162), (1, .ref 0), (0, .ref 11)]) (st2 := [.int ((xs 0) &&& (63 : Int32))]) (h2 := zH0) (dc2 := 117) (ds2 := 29934) 2 rfl ?_
  refine zT_val h0 ?_
  refine zT_gos (f := 200000) (pc2 := 1758) (ls2 := [(4, .int 0), (3, .ref 232), (2, .ref 162), (1, .ref 0), (0, .ref 11)]) (st2 := [.ref 162, .int 1]) (h2 := ((zH0.set 0 (.inr (.inr (.inr (9, [.ref 2, .int 0, .ref 4, .ref 6, .ref 20, .long 70644700037184, .ref 34, .ref 36, .int 1, .long 70644700037184, .ref 42, .ref 44, .ref 60, .ref 66, .ref 72, .ref 74, .ref 150, .ref 158]))))).set 21 (.inl (0, 6, [22000000, 0, 10000, 0, 0, 0])))) (dc2 := 117) (ds2 := 29934) 4 rfl ?_
  refine zT_call rfl rfl (zT_le (zg0_le 6 xs) zk_o_114) ?_
  refine zT_here (pc2 := 1761) rfl ?_
  refine zT_gos (f := 200000) (pc2 := 1811) (ls2 := [(4, .int 6), (3, .ref 232), (2, .ref 162), (1, .ref 0), (0, .ref 11)]) (st2 := [.int 1]) (h2 := ((((zH0.set 0 (.inr (.inr (.inr (9, [.ref 2, .int 0, .ref 4, .ref 6, .ref 20, .long 70644700037184, .ref 34, .ref 36, .int 1, .long 70644700037184, .ref 42, .ref 44, .ref 60, .ref 66, .ref 72, .ref 74, .ref 150, .ref 158]))))).set 21 (.inl (0, 6, [22000000, 0, 10000, 0, 0, 0]))).set 81 (.inr (.inr (.inr (10, [.int 0, .ref 164, .int 0, .ref 166, .ref 168, .ref 170, .ref 172, .ref 174, .ref 176, .ref 178, .ref 180, .ref 182, .ref 184, .ref 186, .int 0, .int 0, .int 0, .int 0, .int 0, .int 0, .int 0, .int 0, .int 0, .int (-1), .ref 188, .ref 190, .ref 192, .int 0, .int 1, .ref 194, .ref 196, .ref 198, .int 0, .int 0, .int 0, .int 0, .ref 200, .ref 202, .ref 204, .int 0, .ref 206, .ref 208, .ref 210, .ref 212, .ref 214, .ref 216, .ref 218, .ref 220, .ref 222, .ref 224, .ref 226, .ref 228, .int 0, .ref 230]))))).set 96 (.inl (0, 252, [0, 0, 0, 0, 0, 0, 0, 0, 0, 0, 0, 0, 0, 0, 0, 0, 0, 0, 0, 0, 0, 0, 0, 0, 0, 0, 0, 0, 0, 0, 0, 0, 0, 0, 0, 0, 0, 0, 0, 0, 0, 0, 0, 0, 0, 0, 0, 0, 0, 0, 0, 0, 0, 0, 0, 0, 0, 0, 0, 0, 0, 0, 0, 0, 0, 0, 0, 0, 0, 0, 0, 0, 0, 0, 0, 0, 0, 0, 0, 0, 0, 0, 0, 0, 0, 0, 0, 0, 0, 0, 0, 0, 0, 0, 0, 0, 0, 0, 0, 0, 0, 0, 0, 0, 0, 0, 0, 0, 0, 0, 0, 0, 0, 0, 0, 0, 0, 0, 0, 0, 0, 0, 0, 0, 0, 0, 0, 0, 0, 0, 0, 0, 0, 0, 0, 0, 0, 0, 0, 0, 0, 0, 0, 0, 0, 0, 0, 0, 0, 0, 0, 0, 0, 0, 0, 0, 0, 0, 0, 0, 0, 0, 0, 0, 0, 0, 0, 0, 0, 0, 0, 0, 0, 0, 0, 0, 0, 0, 0, 0, 0, 0, 0, 0, 0, 0, 0, 0, 0, 0, 0, 0, 0, 0, 0, 0, 0, 0, 0, 0, 0, 0, 0, 0, 0, 0, 0, 0, 0, 0, 0, 0, 0, 0, 0, 0, 0, 0, 0, 0, 0, 0, 0, 0, 0, 0, 0, 0, 0, 0, 0, 0, 0, 0, 0, 0, 0, 0, 0, 0, 0, 0, 0, 0, 0, 0, 22000000, 0, 10000, 0, 0, 0])))) (dc2 := 117) (ds2 := 29934) 10 rfl ?_
  exact zT_ret rfl rfl
theorem zop_39 (xs : Nat → Int32) (h0 : xs 0 &&& 63 = 39) : zDone xs := by
  exact zo_39_0 xs h0 
set_option maxRecDepth 1000000 in
set_option maxHeartbeats 4000000 in
theorem zo_40_0 (xs : Nat → Int32) (h0 : xs 0 &&& 63 = 40)  : zDone xs := by
  refine ⟨zH0, 117, 29934, ?_, by decide, by decide⟩
  refine zT_gos (f := 200000) (pc2 := 37) (ls2 := [(4, .int 0), (3, .ref 232), (2, .ref 162), (1, .ref 0), (0, .ref 11)]) (st2 := [.int (xs 0)]) (h2 := zH0) (dc2 := 117) (ds2 := 29934) 9 rfl ?_
  refine zT_gos (f := 200000) (pc2 := 40) (ls2 := [(4, .int 0), (3, .ref 232), (2, .ref 162), (1, .ref 0), (0, .ref 11)]) (st2 := [.int ((xs 0) &&& (63 : Int32))]) (h2 := zH0) (dc2 := 117) (ds2 := 29934) 2 rfl ?_
  refine zT_val h0 ?_
  refine zT_gos (f := 200000) (pc2 := 1811) (ls2 := [(4, .int 6), (3, .ref 232), (2, .ref 162), (1, .ref 0), (0, .ref 11)]) (st2 := [.int 1]) (h2 := zH0) (dc2 := 117) (ds2 := 29934) 15 rfl ?_
  exact zT_ret rfl rfl
theorem zop_40 (xs : Nat → Int32) (h0 : xs 0 &&& 63 = 40) : zDone xs := by
  exact zo_40_0 xs h0 
set_option maxRecDepth 1000000 in
set_option maxHeartbeats 4000000 in
theorem zo_41_0 (xs : Nat → Int32) (h0 : xs 0 &&& 63 = 41) (h1 : (xs 1).toInt < 0) : zDone xs := by
  refine ⟨zH0, 117, 29934, ?_, by decide, by decide⟩
  refine zT_gos (f := 200000) (pc2 := 37) (ls2 := [(4, .int 0), (3, .ref 232), (2, .ref 162), (1, .ref 0), (0, .ref 11)]) (st2 := [.int (xs 0)]) (h2 := zH0) (dc2 := 117) (ds2 := 29934) 9 rfl ?_
  refine zT_gos (f := 200000) (pc2 := 40) (ls2 := [(4, .int 0), (3, .ref 232), (2, .ref 162), (1, .ref 0), (0, .ref 11)]) (st2 := [.int ((xs 0) &&& (63 : Int32))]) (h2 := zH0) (dc2 := 117) (ds2 := 29934) 2 rfl ?_
  refine zT_val h0 ?_
  refine zT_gos (f := 200000) (pc2 := 1786) (ls2 := [(4, .int 0), (3, .ref 232), (2, .ref 162), (1, .ref 0), (0, .ref 11)]) (st2 := [.int (xs 1), .ref 0]) (h2 := zH0) (dc2 := 117) (ds2 := 29934) 7 rfl ?_
  refine zT_call (v := some (.int (-1))) (h2 := zH0) (d1 := 0) (s1 := 0) rfl rfl ?_ ?_
  · refine zT_gos (f := 200000) (pc2 := 1) (ls2 := [(0, .ref 0), (1, .int (xs 1))]) (st2 := [.int (xs 1)]) (h2 := zH0) (dc2 := 0) (ds2 := 0) 1 rfl ?_
    refine zT_tabo rfl (by show ((xs 1)).toInt < 0 ∨ 7 < ((xs 1)).toInt; omega) ?_
    refine zT_here (pc2 := 109) rfl ?_
    refine zT_gos (f := 200000) (pc2 := 110) (ls2 := [(0, .ref 0), (1, .int (xs 1))]) (st2 := [.int (-1)]) (h2 := zH0) (dc2 := 0) (ds2 := 0) 1 rfl ?_
    exact zT_ret rfl rfl
  refine zT_here (pc2 := 1789) rfl ?_
  refine zT_gos (f := 200000) (pc2 := 1796) (ls2 := [(4, .int 0), (3, .ref 232), (2, .ref 162), (1, .ref 0), (0, .ref 11)]) (st2 := [.int (xs 1), .ref 162, .int (-1)]) (h2 := zH0) (dc2 := 117) (ds2 := 29934) 6 rfl ?_
  refine zT_call (v := some (.int (-1))) (h2 := zH0) (d1 := 0) (s1 := 0) rfl rfl ?_ ?_
  · refine zT_gos (f := 200000) (pc2 := 6) (ls2 := [(0, .ref 162), (1, .int (xs 1))]) (st2 := [.int (xs 1)]) (h2 := zH0) (dc2 := 0) (ds2 := 0) 4 rfl ?_
    refine zT_tabo rfl (by show ((xs 1)).toInt < 0 ∨ 7 < ((xs 1)).toInt; omega) ?_
    refine zT_here (pc2 := 105) rfl ?_
    refine zT_gos (f := 200000) (pc2 := 106) (ls2 := [(0, .ref 162), (1, .int (xs 1))]) (st2 := [.int (-1)]) (h2 := zH0) (dc2 := 0) (ds2 := 0) 1 rfl ?_
    exact zT_ret rfl rfl
  refine zT_here (pc2 := 1799) rfl ?_
  refine zT_gos (f := 200000) (pc2 := 1811) (ls2 := [(4, .int 6), (3, .ref 232), (2, .ref 162), (1, .ref 0), (0, .ref 11)]) (st2 := [.int 1]) (h2 := zH0) (dc2 := 117) (ds2 := 29934) 10 rfl ?_
  exact zT_ret rfl rfl
set_option maxRecDepth 1000000 in
set_option maxHeartbeats 4000000 in
theorem zo_41_1 (xs : Nat → Int32) (h0 : xs 0 &&& 63 = 41) (h1 : 7 < (xs 1).toInt) : zDone xs := by
  refine ⟨zH0, 117, 29934, ?_, by decide, by decide⟩
  refine zT_gos (f := 200000) (pc2 := 37) (ls2 := [(4, .int 0), (3, .ref 232), (2, .ref 162), (1, .ref 0), (0, .ref 11)]) (st2 := [.int (xs 0)]) (h2 := zH0) (dc2 := 117) (ds2 := 29934) 9 rfl ?_
  refine zT_gos (f := 200000) (pc2 := 40) (ls2 := [(4, .int 0), (3, .ref 232), (2, .ref 162), (1, .ref 0), (0, .ref 11)]) (st2 := [.int ((xs 0) &&& (63 : Int32))]) (h2 := zH0) (dc2 := 117) (ds2 := 29934) 2 rfl ?_
  refine zT_val h0 ?_
  refine zT_gos (f := 200000) (pc2 := 1786) (ls2 := [(4, .int 0), (3, .ref 232), (2, .ref 162), (1, .ref 0), (0, .ref 11)]) (st2 := [.int (xs 1), .ref 0]) (h2 := zH0) (dc2 := 117) (ds2 := 29934) 7 rfl ?_
  refine zT_call (v := some (.int (-1))) (h2 := zH0) (d1 := 0) (s1 := 0) rfl rfl ?_ ?_
  · refine zT_gos (f := 200000) (pc2 := 1) (ls2 := [(0, .ref 0), (1, .int (xs 1))]) (st2 := [.int (xs 1)]) (h2 := zH0) (dc2 := 0) (ds2 := 0) 1 rfl ?_
    refine zT_tabo rfl (by show ((xs 1)).toInt < 0 ∨ 7 < ((xs 1)).toInt; omega) ?_
    refine zT_here (pc2 := 109) rfl ?_
    refine zT_gos (f := 200000) (pc2 := 110) (ls2 := [(0, .ref 0), (1, .int (xs 1))]) (st2 := [.int (-1)]) (h2 := zH0) (dc2 := 0) (ds2 := 0) 1 rfl ?_
    exact zT_ret rfl rfl
  refine zT_here (pc2 := 1789) rfl ?_
  refine zT_gos (f := 200000) (pc2 := 1796) (ls2 := [(4, .int 0), (3, .ref 232), (2, .ref 162), (1, .ref 0), (0, .ref 11)]) (st2 := [.int (xs 1), .ref 162, .int (-1)]) (h2 := zH0) (dc2 := 117) (ds2 := 29934) 6 rfl ?_
  refine zT_call (v := some (.int (-1))) (h2 := zH0) (d1 := 0) (s1 := 0) rfl rfl ?_ ?_
  · refine zT_gos (f := 200000) (pc2 := 6) (ls2 := [(0, .ref 162), (1, .int (xs 1))]) (st2 := [.int (xs 1)]) (h2 := zH0) (dc2 := 0) (ds2 := 0) 4 rfl ?_
    refine zT_tabo rfl (by show ((xs 1)).toInt < 0 ∨ 7 < ((xs 1)).toInt; omega) ?_
    refine zT_here (pc2 := 105) rfl ?_
    refine zT_gos (f := 200000) (pc2 := 106) (ls2 := [(0, .ref 162), (1, .int (xs 1))]) (st2 := [.int (-1)]) (h2 := zH0) (dc2 := 0) (ds2 := 0) 1 rfl ?_
    exact zT_ret rfl rfl
  refine zT_here (pc2 := 1799) rfl ?_
  refine zT_gos (f := 200000) (pc2 := 1811) (ls2 := [(4, .int 6), (3, .ref 232), (2, .ref 162), (1, .ref 0), (0, .ref 11)]) (st2 := [.int 1]) (h2 := zH0) (dc2 := 117) (ds2 := 29934) 10 rfl ?_
  exact zT_ret rfl rfl
set_option maxRecDepth 1000000 in
set_option maxHeartbeats 4000000 in
theorem zo_41_2 (xs : Nat → Int32) (h0 : xs 0 &&& 63 = 41) (h1 : xs 1 = 0) : zDone xs := by
  refine ⟨zH0, 117, 29934, ?_, by decide, by decide⟩
  refine zT_gos (f := 200000) (pc2 := 37) (ls2 := [(4, .int 0), (3, .ref 232), (2, .ref 162), (1, .ref 0), (0, .ref 11)]) (st2 := [.int (xs 0)]) (h2 := zH0) (dc2 := 117) (ds2 := 29934) 9 rfl ?_
  refine zT_gos (f := 200000) (pc2 := 40) (ls2 := [(4, .int 0), (3, .ref 232), (2, .ref 162), (1, .ref 0), (0, .ref 11)]) (st2 := [.int ((xs 0) &&& (63 : Int32))]) (h2 := zH0) (dc2 := 117) (ds2 := 29934) 2 rfl ?_
  refine zT_val h0 ?_
  refine zT_gos (f := 200000) (pc2 := 1786) (ls2 := [(4, .int 0), (3, .ref 232), (2, .ref 162), (1, .ref 0), (0, .ref 11)]) (st2 := [.int (xs 1), .ref 0]) (h2 := zH0) (dc2 := 117) (ds2 := 29934) 7 rfl ?_
  refine zT_val h1 ?_
  refine zT_gos (f := 200000) (pc2 := 1796) (ls2 := [(4, .int 0), (3, .ref 232), (2, .ref 162), (1, .ref 0), (0, .ref 11)]) (st2 := [.int (xs 1), .ref 162, .int 9]) (h2 := zH0) (dc2 := 117) (ds2 := 29934) 7 rfl ?_
  refine zT_val h1 ?_
  refine zT_gos (f := 200000) (pc2 := 1811) (ls2 := [(4, .int 6), (3, .ref 232), (2, .ref 162), (1, .ref 0), (0, .ref 11)]) (st2 := [.int 1]) (h2 := zH0) (dc2 := 117) (ds2 := 29934) 11 rfl ?_
  exact zT_ret rfl rfl
set_option maxRecDepth 1000000 in
set_option maxHeartbeats 4000000 in
theorem zo_41_3 (xs : Nat → Int32) (h0 : xs 0 &&& 63 = 41) (h1 : xs 1 = 1) : zDone xs := by
  refine ⟨zH0, 117, 29934, ?_, by decide, by decide⟩
  refine zT_gos (f := 200000) (pc2 := 37) (ls2 := [(4, .int 0), (3, .ref 232), (2, .ref 162), (1, .ref 0), (0, .ref 11)]) (st2 := [.int (xs 0)]) (h2 := zH0) (dc2 := 117) (ds2 := 29934) 9 rfl ?_
  refine zT_gos (f := 200000) (pc2 := 40) (ls2 := [(4, .int 0), (3, .ref 232), (2, .ref 162), (1, .ref 0), (0, .ref 11)]) (st2 := [.int ((xs 0) &&& (63 : Int32))]) (h2 := zH0) (dc2 := 117) (ds2 := 29934) 2 rfl ?_
  refine zT_val h0 ?_
  refine zT_gos (f := 200000) (pc2 := 1786) (ls2 := [(4, .int 0), (3, .ref 232), (2, .ref 162), (1, .ref 0), (0, .ref 11)]) (st2 := [.int (xs 1), .ref 0]) (h2 := zH0) (dc2 := 117) (ds2 := 29934) 7 rfl ?_
  refine zT_val h1 ?_
  refine zT_gos (f := 200000) (pc2 := 1796) (ls2 := [(4, .int 0), (3, .ref 232), (2, .ref 162), (1, .ref 0), (0, .ref 11)]) (st2 := [.int (xs 1), .ref 162, .int 4]) (h2 := zH0) (dc2 := 117) (ds2 := 29934) 7 rfl ?_
  refine zT_val h1 ?_
  refine zT_gos (f := 200000) (pc2 := 1811) (ls2 := [(4, .int 6), (3, .ref 232), (2, .ref 162), (1, .ref 0), (0, .ref 11)]) (st2 := [.int 1]) (h2 := zH0) (dc2 := 117) (ds2 := 29934) 11 rfl ?_
  exact zT_ret rfl rfl
set_option maxRecDepth 1000000 in
set_option maxHeartbeats 4000000 in
theorem zo_41_4 (xs : Nat → Int32) (h0 : xs 0 &&& 63 = 41) (h1 : xs 1 = 2) : zDone xs := by
  refine ⟨zH0, 117, 29934, ?_, by decide, by decide⟩
  refine zT_gos (f := 200000) (pc2 := 37) (ls2 := [(4, .int 0), (3, .ref 232), (2, .ref 162), (1, .ref 0), (0, .ref 11)]) (st2 := [.int (xs 0)]) (h2 := zH0) (dc2 := 117) (ds2 := 29934) 9 rfl ?_
  refine zT_gos (f := 200000) (pc2 := 40) (ls2 := [(4, .int 0), (3, .ref 232), (2, .ref 162), (1, .ref 0), (0, .ref 11)]) (st2 := [.int ((xs 0) &&& (63 : Int32))]) (h2 := zH0) (dc2 := 117) (ds2 := 29934) 2 rfl ?_
  refine zT_val h0 ?_
  refine zT_gos (f := 200000) (pc2 := 1786) (ls2 := [(4, .int 0), (3, .ref 232), (2, .ref 162), (1, .ref 0), (0, .ref 11)]) (st2 := [.int (xs 1), .ref 0]) (h2 := zH0) (dc2 := 117) (ds2 := 29934) 7 rfl ?_
  refine zT_val h1 ?_
  refine zT_gos (f := 200000) (pc2 := 1796) (ls2 := [(4, .int 0), (3, .ref 232), (2, .ref 162), (1, .ref 0), (0, .ref 11)]) (st2 := [.int (xs 1), .ref 162, .int 10]) (h2 := zH0) (dc2 := 117) (ds2 := 29934) 7 rfl ?_
  refine zT_val h1 ?_
  refine zT_gos (f := 200000) (pc2 := 1811) (ls2 := [(4, .int 6), (3, .ref 232), (2, .ref 162), (1, .ref 0), (0, .ref 11)]) (st2 := [.int 1]) (h2 := zH0) (dc2 := 117) (ds2 := 29934) 11 rfl ?_
  exact zT_ret rfl rfl
set_option maxRecDepth 1000000 in
set_option maxHeartbeats 4000000 in
theorem zo_41_5 (xs : Nat → Int32) (h0 : xs 0 &&& 63 = 41) (h1 : xs 1 = 3) : zDone xs := by
  refine ⟨zH0, 117, 29934, ?_, by decide, by decide⟩
  refine zT_gos (f := 200000) (pc2 := 37) (ls2 := [(4, .int 0), (3, .ref 232), (2, .ref 162), (1, .ref 0), (0, .ref 11)]) (st2 := [.int (xs 0)]) (h2 := zH0) (dc2 := 117) (ds2 := 29934) 9 rfl ?_
  refine zT_gos (f := 200000) (pc2 := 40) (ls2 := [(4, .int 0), (3, .ref 232), (2, .ref 162), (1, .ref 0), (0, .ref 11)]) (st2 := [.int ((xs 0) &&& (63 : Int32))]) (h2 := zH0) (dc2 := 117) (ds2 := 29934) 2 rfl ?_
  refine zT_val h0 ?_
  refine zT_gos (f := 200000) (pc2 := 1786) (ls2 := [(4, .int 0), (3, .ref 232), (2, .ref 162), (1, .ref 0), (0, .ref 11)]) (st2 := [.int (xs 1), .ref 0]) (h2 := zH0) (dc2 := 117) (ds2 := 29934) 7 rfl ?_
  refine zT_val h1 ?_
  refine zT_gos (f := 200000) (pc2 := 1796) (ls2 := [(4, .int 0), (3, .ref 232), (2, .ref 162), (1, .ref 0), (0, .ref 11)]) (st2 := [.int (xs 1), .ref 162, .int 2]) (h2 := zH0) (dc2 := 117) (ds2 := 29934) 7 rfl ?_
  refine zT_val h1 ?_
  refine zT_gos (f := 200000) (pc2 := 1811) (ls2 := [(4, .int 6), (3, .ref 232), (2, .ref 162), (1, .ref 0), (0, .ref 11)]) (st2 := [.int 1]) (h2 := zH0) (dc2 := 117) (ds2 := 29934) 11 rfl ?_
  exact zT_ret rfl rfl
set_option maxRecDepth 1000000 in
set_option maxHeartbeats 4000000 in
theorem zo_41_6 (xs : Nat → Int32) (h0 : xs 0 &&& 63 = 41) (h1 : xs 1 = 4) : zDone xs := by
  refine ⟨zH0, 117, 29934, ?_, by decide, by decide⟩
  refine zT_gos (f := 200000) (pc2 := 37) (ls2 := [(4, .int 0), (3, .ref 232), (2, .ref 162), (1, .ref 0), (0, .ref 11)]) (st2 := [.int (xs 0)]) (h2 := zH0) (dc2 := 117) (ds2 := 29934) 9 rfl ?_
  refine zT_gos (f := 200000) (pc2 := 40) (ls2 := [(4, .int 0), (3, .ref 232), (2, .ref 162), (1, .ref 0), (0, .ref 11)]) (st2 := [.int ((xs 0) &&& (63 : Int32))]) (h2 := zH0) (dc2 := 117) (ds2 := 29934) 2 rfl ?_
  refine zT_val h0 ?_
  refine zT_gos (f := 200000) (pc2 := 1786) (ls2 := [(4, .int 0), (3, .ref 232), (2, .ref 162), (1, .ref 0), (0, .ref 11)]) (st2 := [.int (xs 1), .ref 0]) (h2 := zH0) (dc2 := 117) (ds2 := 29934) 7 rfl ?_
  refine zT_val h1 ?_
  refine zT_gos (f := 200000) (pc2 := 1796) (ls2 := [(4, .int 0), (3, .ref 232), (2, .ref 162), (1, .ref 0), (0, .ref 11)]) (st2 := [.int (xs 1), .ref 162, .int 0]) (h2 := zH0) (dc2 := 117) (ds2 := 29934) 7 rfl ?_
  refine zT_val h1 ?_
  refine zT_gos (f := 200000) (pc2 := 1811) (ls2 := [(4, .int 6), (3, .ref 232), (2, .ref 162), (1, .ref 0), (0, .ref 11)]) (st2 := [.int 1]) (h2 := zH0) (dc2 := 117) (ds2 := 29934) 11 rfl ?_
  exact zT_ret rfl rfl
set_option maxRecDepth 1000000 in
set_option maxHeartbeats 4000000 in
theorem zo_41_7 (xs : Nat → Int32) (h0 : xs 0 &&& 63 = 41) (h1 : xs 1 = 5) : zDone xs := by
  refine ⟨zH0, 117, 29934, ?_, by decide, by decide⟩
  refine zT_gos (f := 200000) (pc2 := 37) (ls2 := [(4, .int 0), (3, .ref 232), (2, .ref 162), (1, .ref 0), (0, .ref 11)]) (st2 := [.int (xs 0)]) (h2 := zH0) (dc2 := 117) (ds2 := 29934) 9 rfl ?_
  refine zT_gos (f := 200000) (pc2 := 40) (ls2 := [(4, .int 0), (3, .ref 232), (2, .ref 162), (1, .ref 0), (0, .ref 11)]) (st2 := [.int ((xs 0) &&& (63 : Int32))]) (h2 := zH0) (dc2 := 117) (ds2 := 29934) 2 rfl ?_
  refine zT_val h0 ?_
  refine zT_gos (f := 200000) (pc2 := 1786) (ls2 := [(4, .int 0), (3, .ref 232), (2, .ref 162), (1, .ref 0), (0, .ref 11)]) (st2 := [.int (xs 1), .ref 0]) (h2 := zH0) (dc2 := 117) (ds2 := 29934) 7 rfl ?_
  refine zT_val h1 ?_
  refine zT_gos (f := 200000) (pc2 := 1796) (ls2 := [(4, .int 0), (3, .ref 232), (2, .ref 162), (1, .ref 0), (0, .ref 11)]) (st2 := [.int (xs 1), .ref 162, .int 0]) (h2 := zH0) (dc2 := 117) (ds2 := 29934) 7 rfl ?_
  refine zT_val h1 ?_
  refine zT_gos (f := 200000) (pc2 := 1811) (ls2 := [(4, .int 6), (3, .ref 232), (2, .ref 162), (1, .ref 0), (0, .ref 11)]) (st2 := [.int 1]) (h2 := zH0) (dc2 := 117) (ds2 := 29934) 11 rfl ?_
  exact zT_ret rfl rfl
set_option maxRecDepth 1000000 in
set_option maxHeartbeats 4000000 in
theorem zo_41_8 (xs : Nat → Int32) (h0 : xs 0 &&& 63 = 41) (h1 : xs 1 = 6) : zDone xs := by
  refine ⟨zH0, 117, 29934, ?_, by decide, by decide⟩
  refine zT_gos (f := 200000) (pc2 := 37) (ls2 := [(4, .int 0), (3, .ref 232), (2, .ref 162), (1, .ref 0), (0, .ref 11)]) (st2 := [.int (xs 0)]) (h2 := zH0) (dc2 := 117) (ds2 := 29934) 9 rfl ?_
  refine zT_gos (f := 200000) (pc2 := 40) (ls2 := [(4, .int 0), (3, .ref 232), (2, .ref 162), (1, .ref 0), (0, .ref 11)]) (st2 := [.int ((xs 0) &&& (63 : Int32))]) (h2 := zH0) (dc2 := 117) (ds2 := 29934) 2 rfl ?_
  refine zT_val h0 ?_
  refine zT_gos (f := 200000) (pc2 := 1786) (ls2 := [(4, .int 0), (3, .ref 232), (2, .ref 162), (1, .ref 0), (0, .ref 11)]) (st2 := [.int (xs 1), .ref 0]) (h2 := zH0) (dc2 := 117) (ds2 := 29934) 7 rfl ?_
  refine zT_val h1 ?_
  refine zT_gos (f := 200000) (pc2 := 1796) (ls2 := [(4, .int 0), (3, .ref 232), (2, .ref 162), (1, .ref 0), (0, .ref 11)]) (st2 := [.int (xs 1), .ref 162, .int 0]) (h2 := zH0) (dc2 := 117) (ds2 := 29934) 7 rfl ?_
  refine zT_val h1 ?_
  refine zT_gos (f := 200000) (pc2 := 1811) (ls2 := [(4, .int 6), (3, .ref 232), (2, .ref 162), (1, .ref 0), (0, .ref 11)]) (st2 := [.int 1]) (h2 := zH0) (dc2 := 117) (ds2 := 29934) 11 rfl ?_
  exact zT_ret rfl rfl
set_option maxRecDepth 1000000 in
set_option maxHeartbeats 4000000 in
theorem zo_41_9 (xs : Nat → Int32) (h0 : xs 0 &&& 63 = 41) (h1 : xs 1 = 7) : zDone xs := by
  refine ⟨zH0, 117, 29934, ?_, by decide, by decide⟩
  refine zT_gos (f := 200000) (pc2 := 37) (ls2 := [(4, .int 0), (3, .ref 232), (2, .ref 162), (1, .ref 0), (0, .ref 11)]) (st2 := [.int (xs 0)]) (h2 := zH0) (dc2 := 117) (ds2 := 29934) 9 rfl ?_
  refine zT_gos (f := 200000) (pc2 := 40) (ls2 := [(4, .int 0), (3, .ref 232), (2, .ref 162), (1, .ref 0), (0, .ref 11)]) (st2 := [.int ((xs 0) &&& (63 : Int32))]) (h2 := zH0) (dc2 := 117) (ds2 := 29934) 2 rfl ?_
  refine zT_val h0 ?_
  refine zT_gos (f := 200000) (pc2 := 1786) (ls2 := [(4, .int 0), (3, .ref 232), (2, .ref 162), (1, .ref 0), (0, .ref 11)]) (st2 := [.int (xs 1), .ref 0]) (h2 := zH0) (dc2 := 117) (ds2 := 29934) 7 rfl ?_
  refine zT_val h1 ?_
  refine zT_gos (f := 200000) (pc2 := 1796) (ls2 := [(4, .int 0), (3, .ref 232), (2, .ref 162), (1, .ref 0), (0, .ref 11)]) (st2 := [.int (xs 1), .ref 162, .int 0]) (h2 := zH0) (dc2 := 117) (ds2 := 29934) 7 rfl ?_
  refine zT_val h1 ?_
  refine zT_gos (f := 200000) (pc2 := 1811) (ls2 := [(4, .int 6), (3, .ref 232), (2, .ref 162), (1, .ref 0), (0, .ref 11)]) (st2 := [.int 1]) (h2 := zH0) (dc2 := 117) (ds2 := 29934) 11 rfl ?_
  exact zT_ret rfl rfl
theorem zop_41 (xs : Nat → Int32) (h0 : xs 0 &&& 63 = 41) : zDone xs := by
  rcases (show (xs 1).toInt < 0 ∨ 7 < (xs 1).toInt ∨ (xs 1).toInt = 0 ∨ (xs 1).toInt = 1 ∨ (xs 1).toInt = 2 ∨ (xs 1).toInt = 3 ∨ (xs 1).toInt = 4 ∨ (xs 1).toInt = 5 ∨ (xs 1).toInt = 6 ∨ (xs 1).toInt = 7 by omega) with h1 | h1 | h1 | h1 | h1 | h1 | h1 | h1 | h1 | h1
  · have h1 := h1
    exact zo_41_0 xs h0 h1
  · have h1 := h1
    exact zo_41_1 xs h0 h1
  · have h1 : xs 1 = 0 := Int32.toInt_inj.mp h1
    exact zo_41_2 xs h0 h1
  · have h1 : xs 1 = 1 := Int32.toInt_inj.mp h1
    exact zo_41_3 xs h0 h1
  · have h1 : xs 1 = 2 := Int32.toInt_inj.mp h1
    exact zo_41_4 xs h0 h1
  · have h1 : xs 1 = 3 := Int32.toInt_inj.mp h1
    exact zo_41_5 xs h0 h1
  · have h1 : xs 1 = 4 := Int32.toInt_inj.mp h1
    exact zo_41_6 xs h0 h1
  · have h1 : xs 1 = 5 := Int32.toInt_inj.mp h1
    exact zo_41_7 xs h0 h1
  · have h1 : xs 1 = 6 := Int32.toInt_inj.mp h1
    exact zo_41_8 xs h0 h1
  · have h1 : xs 1 = 7 := Int32.toInt_inj.mp h1
    exact zo_41_9 xs h0 h1
