/-! Ops of the law at the first state: printed by a program (wip/gen/ops_all.py). -/
set_option maxRecDepth 1000000 in
set_option maxHeartbeats 4000000 in
theorem zo_1_0 (xs : Nat → Int32) (h0 : xs 0 &&& 63 = 1) (h1 : (xs 1).toInt < 0) : zDone xs := by
  refine ⟨zH0, 117, 29934, ?_, by decide, by decide⟩
  refine zT_gos (f := 200000) (pc2 := 37) (ls2 := [(4, .int 0), (3, .ref 232), (2, .ref 162), (1, .ref 0), (0, .ref 11)]) (st2 := [.int (xs 0)]) (h2 := zH0) (dc2 := 117) (ds2 := 29934) 9 rfl ?_
  refine zT_gos (f := 200000) (pc2 := 40) (ls2 := [(4, .int 0), (3, .ref 232), (2, .ref 162), (1, .ref 0), (0, .ref 11)]) (st2 := [.int ((xs 0) &&& (63 : Int32))]) (h2 := zH0) (dc2 := 117) (ds2 := 29934) 2 rfl ?_
  refine zT_val h0 ?_
  refine zT_gos (f := 200000) (pc2 := 304) (ls2 := [(4, .int 0), (3, .ref 232), (2, .ref 162), (1, .ref 0), (0, .ref 11)]) (st2 := [.int (xs 1), .ref 0]) (h2 := zH0) (dc2 := 117) (ds2 := 29934) 7 rfl ?_
  refine zT_call (v := some (.int (-2))) (h2 := zH0) (d1 := 0) (s1 := 0) rfl rfl ?_ ?_
  · refine zT_gos (f := 200000) (pc2 := 1) (ls2 := [(0, .ref 0), (1, .int (xs 1))]) (st2 := [.int (xs 1)]) (h2 := zH0) (dc2 := 0) (ds2 := 0) 1 rfl ?_
    refine zT_if0 true rfl (zc_lt_t (by show ((xs 1) : Int32).toInt < 0; omega)) ?_
    refine zT_here (pc2 := 12) rfl ?_
    refine zT_gos (f := 200000) (pc2 := 14) (ls2 := [(0, .ref 0), (1, .int (xs 1))]) (st2 := [.int (-2)]) (h2 := zH0) (dc2 := 0) (ds2 := 0) 1 rfl ?_
    exact zT_ret rfl rfl
  refine zT_here (pc2 := 307) rfl ?_
  refine zT_gos (f := 200000) (pc2 := 314) (ls2 := [(4, .int 0), (3, .ref 232), (2, .ref 162), (1, .ref 0), (0, .ref 11)]) (st2 := [.int (xs 1), .ref 162, .int (-2)]) (h2 := zH0) (dc2 := 117) (ds2 := 29934) 6 rfl ?_
  refine zT_call (v := some (.int (-2))) (h2 := zH0) (d1 := 0) (s1 := 0) rfl rfl ?_ ?_
  · refine zT_gos (f := 200000) (pc2 := 6) (ls2 := [(0, .ref 162), (1, .int (xs 1))]) (st2 := [.int (xs 1)]) (h2 := zH0) (dc2 := 0) (ds2 := 0) 4 rfl ?_
    refine zT_if0 true rfl (zc_lt_t (by show ((xs 1) : Int32).toInt < 0; omega)) ?_
    refine zT_here (pc2 := 17) rfl ?_
    refine zT_gos (f := 200000) (pc2 := 19) (ls2 := [(0, .ref 162), (1, .int (xs 1))]) (st2 := [.int (-2)]) (h2 := zH0) (dc2 := 0) (ds2 := 0) 1 rfl ?_
    exact zT_ret rfl rfl
  refine zT_here (pc2 := 317) rfl ?_
  refine zT_gos (f := 200000) (pc2 := 1811) (ls2 := [(4, .int 6), (3, .ref 232), (2, .ref 162), (1, .ref 0), (0, .ref 11)]) (st2 := [.int 1]) (h2 := zH0) (dc2 := 117) (ds2 := 29934) 10 rfl ?_
  exact zT_ret rfl rfl
set_option maxRecDepth 1000000 in
set_option maxHeartbeats 4000000 in
theorem zo_1_1 (xs : Nat → Int32) (h0 : xs 0 &&& 63 = 1) (h1 : 0 < (xs 1).toInt) : zDone xs := by
  refine ⟨zH0, 117, 29934, ?_, by decide, by decide⟩
  refine zT_gos (f := 200000) (pc2 := 37) (ls2 := [(4, .int 0), (3, .ref 232), (2, .ref 162), (1, .ref 0), (0, .ref 11)]) (st2 := [.int (xs 0)]) (h2 := zH0) (dc2 := 117) (ds2 := 29934) 9 rfl ?_
  refine zT_gos (f := 200000) (pc2 := 40) (ls2 := [(4, .int 0), (3, .ref 232), (2, .ref 162), (1, .ref 0), (0, .ref 11)]) (st2 := [.int ((xs 0) &&& (63 : Int32))]) (h2 := zH0) (dc2 := 117) (ds2 := 29934) 2 rfl ?_
  refine zT_val h0 ?_
  refine zT_gos (f := 200000) (pc2 := 304) (ls2 := [(4, .int 0), (3, .ref 232), (2, .ref 162), (1, .ref 0), (0, .ref 11)]) (st2 := [.int (xs 1), .ref 0]) (h2 := zH0) (dc2 := 117) (ds2 := 29934) 7 rfl ?_
  refine zT_call (v := some (.int (-2))) (h2 := zH0) (d1 := 0) (s1 := 0) rfl rfl ?_ ?_
  · refine zT_gos (f := 200000) (pc2 := 1) (ls2 := [(0, .ref 0), (1, .int (xs 1))]) (st2 := [.int (xs 1)]) (h2 := zH0) (dc2 := 0) (ds2 := 0) 1 rfl ?_
    refine zT_if0 false rfl (zc_lt_f (by show ((xs 1) : Int32).toInt ≥ 0; omega)) ?_
    refine zT_here (pc2 := 4) rfl ?_
    refine zT_gos (f := 200000) (pc2 := 9) (ls2 := [(0, .ref 0), (1, .int (xs 1))]) (st2 := [.int 0, .int (xs 1)]) (h2 := zH0) (dc2 := 0) (ds2 := 0) 3 rfl ?_
    refine zT_if2 false rfl (zc_le_f (by show ((xs 1) : Int32).toInt > 0; omega)) ?_
    refine zT_here (pc2 := 12) rfl ?_
    refine zT_gos (f := 200000) (pc2 := 14) (ls2 := [(0, .ref 0), (1, .int (xs 1))]) (st2 := [.int (-2)]) (h2 := zH0) (dc2 := 0) (ds2 := 0) 1 rfl ?_
    exact zT_ret rfl rfl
  refine zT_here (pc2 := 307) rfl ?_
  refine zT_gos (f := 200000) (pc2 := 314) (ls2 := [(4, .int 0), (3, .ref 232), (2, .ref 162), (1, .ref 0), (0, .ref 11)]) (st2 := [.int (xs 1), .ref 162, .int (-2)]) (h2 := zH0) (dc2 := 117) (ds2 := 29934) 6 rfl ?_
  refine zT_call (v := some (.int (-2))) (h2 := zH0) (d1 := 0) (s1 := 0) rfl rfl ?_ ?_
  · refine zT_gos (f := 200000) (pc2 := 6) (ls2 := [(0, .ref 162), (1, .int (xs 1))]) (st2 := [.int (xs 1)]) (h2 := zH0) (dc2 := 0) (ds2 := 0) 4 rfl ?_
    refine zT_if0 false rfl (zc_lt_f (by show ((xs 1) : Int32).toInt ≥ 0; omega)) ?_
    refine zT_here (pc2 := 9) rfl ?_
    refine zT_gos (f := 200000) (pc2 := 14) (ls2 := [(0, .ref 162), (1, .int (xs 1))]) (st2 := [.int 0, .int (xs 1)]) (h2 := zH0) (dc2 := 0) (ds2 := 0) 3 rfl ?_
    refine zT_if2 false rfl (zc_le_f (by show ((xs 1) : Int32).toInt > 0; omega)) ?_
    refine zT_here (pc2 := 17) rfl ?_
    refine zT_gos (f := 200000) (pc2 := 19) (ls2 := [(0, .ref 162), (1, .int (xs 1))]) (st2 := [.int (-2)]) (h2 := zH0) (dc2 := 0) (ds2 := 0) 1 rfl ?_
    exact zT_ret rfl rfl
  refine zT_here (pc2 := 317) rfl ?_
  refine zT_gos (f := 200000) (pc2 := 1811) (ls2 := [(4, .int 6), (3, .ref 232), (2, .ref 162), (1, .ref 0), (0, .ref 11)]) (st2 := [.int 1]) (h2 := zH0) (dc2 := 117) (ds2 := 29934) 10 rfl ?_
  exact zT_ret rfl rfl
set_option maxRecDepth 1000000 in
theorem zk_o_0 : zT zg0 zF zP 102 0 [(0, .ref 0), (1, .int 0)] [] zH0 0 0 (some (.int 0), ((((((((zH0.set 0 (.inr (.inr (.inr (9, [.ref 2, .int 0, .ref 4, .ref 20, .ref 6, .long 70644700037184, .ref 34, .ref 36, .int 0, .long 0, .ref 42, .ref 44, .ref 60, .ref 66, .ref 72, .ref 74, .ref 150, .ref 158]))))).set 2 (.inr (.inr (.inr (4, [.int 0, .int (-1), .ref 2, .int 0, .int 0, .int 0, .int 0, .int 0, .int 0, .ref 20]))))).set 10 (.inr (.inr (.inr (0, [.int 9, .int 4, .int 10, .int 2, .int 0, .long 70644700037184, .ref 22, .ref 24, .ref 26, .int 0, .ref 28, .ref 30, .int 0, .ref 32]))))).set 11 (.inl (0, 6, [0, (-32), (-32), (-32), (-32), (-64)]))).set 12 (.inl (0, 6, [99, 31, 31, 31, 31, 63]))).set 13 (.inl (0, 6, [4, 4, 4, 4, 4, 4]))).set 37 (.inr (.inr (.inr (3, [.ref 44, .ref 20, .ref 76, .ref 78, .ref 80, .ref 88, .int 0, .int 0, .ref 96, .int 0, .int 0, .int 0, .ref 98, .ref 100, .int 0]))))).set 75 (.inr (.inr (.inr (5, [.ref 152, .ref 20, .ref 154, .ref 156, .int 0, .int 0, .long 0, .int 0]))))), 0, 0) := zclosed (n := 1157) (by decide +kernel)
set_option maxRecDepth 1000000 in
theorem zk_o_1 : zT zg0 zF zP 185 0 [(0, .ref 162), (1, .int 0)] [] ((((((((zH0.set 0 (.inr (.inr (.inr (9, [.ref 2, .int 0, .ref 4, .ref 20, .ref 6, .long 70644700037184, .ref 34, .ref 36, .int 0, .long 0, .ref 42, .ref 44, .ref 60, .ref 66, .ref 72, .ref 74, .ref 150, .ref 158]))))).set 2 (.inr (.inr (.inr (4, [.int 0, .int (-1), .ref 2, .int 0, .int 0, .int 0, .int 0, .int 0, .int 0, .ref 20]))))).set 10 (.inr (.inr (.inr (0, [.int 9, .int 4, .int 10, .int 2, .int 0, .long 70644700037184, .ref 22, .ref 24, .ref 26, .int 0, .ref 28, .ref 30, .int 0, .ref 32]))))).set 11 (.inl (0, 6, [0, (-32), (-32), (-32), (-32), (-64)]))).set 12 (.inl (0, 6, [99, 31, 31, 31, 31, 63]))).set 13 (.inl (0, 6, [4, 4, 4, 4, 4, 4]))).set 37 (.inr (.inr (.inr (3, [.ref 44, .ref 20, .ref 76, .ref 78, .ref 80, .ref 88, .int 0, .int 0, .ref 96, .int 0, .int 0, .int 0, .ref 98, .ref 100, .int 0]))))).set 75 (.inr (.inr (.inr (5, [.ref 152, .ref 20, .ref 154, .ref 156, .int 0, .int 0, .long 0, .int 0]))))) 0 0 (some (.int 0), (((((((((zH0.set 0 (.inr (.inr (.inr (9, [.ref 2, .int 0, .ref 4, .ref 20, .ref 6, .long 70644700037184, .ref 34, .ref 36, .int 0, .long 0, .ref 42, .ref 44, .ref 60, .ref 66, .ref 72, .ref 74, .ref 150, .ref 158]))))).set 2 (.inr (.inr (.inr (4, [.int 0, .int (-1), .ref 2, .int 0, .int 0, .int 0, .int 0, .int 0, .int 0, .ref 20]))))).set 10 (.inr (.inr (.inr (0, [.int 9, .int 4, .int 10, .int 2, .int 0, .long 70644700037184, .ref 22, .ref 24, .ref 26, .int 0, .ref 28, .ref 30, .int 0, .ref 32]))))).set 11 (.inl (0, 6, [0, (-32), (-32), (-32), (-32), (-64)]))).set 12 (.inl (0, 6, [99, 31, 31, 31, 31, 63]))).set 13 (.inl (0, 6, [4, 4, 4, 4, 4, 4]))).set 37 (.inr (.inr (.inr (3, [.ref 44, .ref 20, .ref 76, .ref 78, .ref 80, .ref 88, .int 0, .int 0, .ref 96, .int 0, .int 0, .int 0, .ref 98, .ref 100, .int 0]))))).set 75 (.inr (.inr (.inr (5, [.ref 152, .ref 20, .ref 154, .ref 156, .int 0, .int 0, .long 0, .int 0]))))).set 81 (.inr (.inr (.inr (10, [.int 0, .ref 164, .int 0, .ref 166, .ref 168, .ref 170, .ref 172, .ref 174, .ref 176, .ref 178, .ref 180, .ref 182, .ref 184, .ref 186, .int 0, .int 0, .int 0, .int 0, .int 5, .int 0, .int 0, .int 0, .int 0, .int (-1), .ref 188, .ref 190, .ref 192, .int 0, .int 0, .ref 194, .ref 196, .ref 198, .int 0, .int 0, .int 0, .int 0, .ref 200, .ref 202, .ref 204, .int 0, .ref 206, .ref 208, .ref 210, .ref 212, .ref 214, .ref 216, .ref 218, .ref 220, .ref 222, .ref 224, .ref 226, .ref 228, .int 0, .ref 230]))))), 0, 0) := zclosed (n := 2791) (by decide +kernel)
set_option maxRecDepth 1000000 in
set_option maxHeartbeats 4000000 in
theorem zo_1_2 (xs : Nat → Int32) (h0 : xs 0 &&& 63 = 1) (h1 : xs 1 = 0) : zDone xs := by
  refine ⟨(((((((((zH0.set 0 (.inr (.inr (.inr (9, [.ref 2, .int 0, .ref 4, .ref 20, .ref 6, .long 70644700037184, .ref 34, .ref 36, .int 0, .long 0, .ref 42, .ref 44, .ref 60, .ref 66, .ref 72, .ref 74, .ref 150, .ref 158]))))).set 2 (.inr (.inr (.inr (4, [.int 0, .int (-1), .ref 2, .int 0, .int 0, .int 0, .int 0, .int 0, .int 0, .ref 20]))))).set 10 (.inr (.inr (.inr (0, [.int 9, .int 4, .int 10, .int 2, .int 0, .long 70644700037184, .ref 22, .ref 24, .ref 26, .int 0, .ref 28, .ref 30, .int 0, .ref 32]))))).set 11 (.inl (0, 6, [0, (-32), (-32), (-32), (-32), (-64)]))).set 12 (.inl (0, 6, [99, 31, 31, 31, 31, 63]))).set 13 (.inl (0, 6, [4, 4, 4, 4, 4, 4]))).set 37 (.inr (.inr (.inr (3, [.ref 44, .ref 20, .ref 76, .ref 78, .ref 80, .ref 88, .int 0, .int 0, .ref 96, .int 0, .int 0, .int 0, .ref 98, .ref 100, .int 0]))))).set 75 (.inr (.inr (.inr (5, [.ref 152, .ref 20, .ref 154, .ref 156, .int 0, .int 0, .long 0, .int 0]))))).set 81 (.inr (.inr (.inr (10, [.int 0, .ref 164, .int 0, .ref 166, .ref 168, .ref 170, .ref 172, .ref 174, .ref 176, .ref 178, .ref 180, .ref 182, .ref 184, .ref 186, .int 0, .int 0, .int 0, .int 0, .int 5, .int 0, .int 0, .int 0, .int 0, .int (-1), .ref 188, .ref 190, .ref 192, .int 0, .int 0, .ref 194, .ref 196, .ref 198, .int 0, .int 0, .int 0, .int 0, .ref 200, .ref 202, .ref 204, .int 0, .ref 206, .ref 208, .ref 210, .ref 212, .ref 214, .ref 216, .ref 218, .ref 220, .ref 222, .ref 224, .ref 226, .ref 228, .int 0, .ref 230]))))), 117, 29934, ?_, by decide, by decide⟩
  refine zT_gos (f := 200000) (pc2 := 37) (ls2 := [(4, .int 0), (3, .ref 232), (2, .ref 162), (1, .ref 0), (0, .ref 11)]) (st2 := [.int (xs 0)]) (h2 := zH0) (dc2 := 117) (ds2 := 29934) 9 rfl ?_
  refine zT_gos (f := 200000) (pc2 := 40) (ls2 := [(4, .int 0), (3, .ref 232), (2, .ref 162), (1, .ref 0), (0, .ref 11)]) (st2 := [.int ((xs 0) &&& (63 : Int32))]) (h2 := zH0) (dc2 := 117) (ds2 := 29934) 2 rfl ?_
  refine zT_val h0 ?_
  refine zT_gos (f := 200000) (pc2 := 304) (ls2 := [(4, .int 0), (3, .ref 232), (2, .ref 162), (1, .ref 0), (0, .ref 11)]) (st2 := [.int (xs 1), .ref 0]) (h2 := zH0) (dc2 := 117) (ds2 := 29934) 7 rfl ?_
  refine zT_val h1 ?_
  refine zT_call rfl rfl (zT_le (zg0_le 6 xs) zk_o_0) ?_
  refine zT_here (pc2 := 307) rfl ?_
  refine zT_gos (f := 200000) (pc2 := 314) (ls2 := [(4, .int 0), (3, .ref 232), (2, .ref 162), (1, .ref 0), (0, .ref 11)]) (st2 := [.int (xs 1), .ref 162, .int 0]) (h2 := ((((((((zH0.set 0 (.inr (.inr (.inr (9, [.ref 2, .int 0, .ref 4, .ref 20, .ref 6, .long 70644700037184, .ref 34, .ref 36, .int 0, .long 0, .ref 42, .ref 44, .ref 60, .ref 66, .ref 72, .ref 74, .ref 150, .ref 158]))))).set 2 (.inr (.inr (.inr (4, [.int 0, .int (-1), .ref 2, .int 0, .int 0, .int 0, .int 0, .int 0, .int 0, .ref 20]))))).set 10 (.inr (.inr (.inr (0, [.int 9, .int 4, .int 10, .int 2, .int 0, .long 70644700037184, .ref 22, .ref 24, .ref 26, .int 0, .ref 28, .ref 30, .int 0, .ref 32]))))).set 11 (.inl (0, 6, [0, (-32), (-32), (-32), (-32), (-64)]))).set 12 (.inl (0, 6, [99, 31, 31, 31, 31, 63]))).set 13 (.inl (0, 6, [4, 4, 4, 4, 4, 4]))).set 37 (.inr (.inr (.inr (3, [.ref 44, .ref 20, .ref 76, .ref 78, .ref 80, .ref 88, .int 0, .int 0, .ref 96, .int 0, .int 0, .int 0, .ref 98, .ref 100, .int 0]))))).set 75 (.inr (.inr (.inr (5, [.ref 152, .ref 20, .ref 154, .ref 156, .int 0, .int 0, .long 0, .int 0])))))) (dc2 := 117) (ds2 := 29934) 6 rfl ?_
  refine zT_val h1 ?_
  refine zT_call rfl rfl (zT_le (zg0_le 6 xs) zk_o_1) ?_
  refine zT_here (pc2 := 317) rfl ?_
  refine zT_gos (f := 200000) (pc2 := 1811) (ls2 := [(4, .int 6), (3, .ref 232), (2, .ref 162), (1, .ref 0), (0, .ref 11)]) (st2 := [.int 1]) (h2 := (((((((((zH0.set 0 (.inr (.inr (.inr (9, [.ref 2, .int 0, .ref 4, .ref 20, .ref 6, .long 70644700037184, .ref 34, .ref 36, .int 0, .long 0, .ref 42, .ref 44, .ref 60, .ref 66, .ref 72, .ref 74, .ref 150, .ref 158]))))).set 2 (.inr (.inr (.inr (4, [.int 0, .int (-1), .ref 2, .int 0, .int 0, .int 0, .int 0, .int 0, .int 0, .ref 20]))))).set 10 (.inr (.inr (.inr (0, [.int 9, .int 4, .int 10, .int 2, .int 0, .long 70644700037184, .ref 22, .ref 24, .ref 26, .int 0, .ref 28, .ref 30, .int 0, .ref 32]))))).set 11 (.inl (0, 6, [0, (-32), (-32), (-32), (-32), (-64)]))).set 12 (.inl (0, 6, [99, 31, 31, 31, 31, 63]))).set 13 (.inl (0, 6, [4, 4, 4, 4, 4, 4]))).set 37 (.inr (.inr (.inr (3, [.ref 44, .ref 20, .ref 76, .ref 78, .ref 80, .ref 88, .int 0, .int 0, .ref 96, .int 0, .int 0, .int 0, .ref 98, .ref 100, .int 0]))))).set 75 (.inr (.inr (.inr (5, [.ref 152, .ref 20, .ref 154, .ref 156, .int 0, .int 0, .long 0, .int 0]))))).set 81 (.inr (.inr (.inr (10, [.int 0, .ref 164, .int 0, .ref 166, .ref 168, .ref 170, .ref 172, .ref 174, .ref 176, .ref 178, .ref 180, .ref 182, .ref 184, .ref 186, .int 0, .int 0, .int 0, .int 0, .int 5, .int 0, .int 0, .int 0, .int 0, .int (-1), .ref 188, .ref 190, .ref 192, .int 0, .int 0, .ref 194, .ref 196, .ref 198, .int 0, .int 0, .int 0, .int 0, .ref 200, .ref 202, .ref 204, .int 0, .ref 206, .ref 208, .ref 210, .ref 212, .ref 214, .ref 216, .ref 218, .ref 220, .ref 222, .ref 224, .ref 226, .ref 228, .int 0, .ref 230])))))) (dc2 := 117) (ds2 := 29934) 10 rfl ?_
  exact zT_ret rfl rfl
theorem zop_1 (xs : Nat → Int32) (h0 : xs 0 &&& 63 = 1) : zDone xs := by
  rcases (show (xs 1).toInt < 0 ∨ 0 < (xs 1).toInt ∨ (xs 1).toInt = 0 by omega) with h1 | h1 | h1
  · have h1 := h1
    exact zo_1_0 xs h0 h1
  · have h1 := h1
    exact zo_1_1 xs h0 h1
  · have h1 : xs 1 = 0 := Int32.toInt_inj.mp h1
    exact zo_1_2 xs h0 h1
set_option maxRecDepth 1000000 in
set_option maxHeartbeats 4000000 in
theorem zo_2_0 (xs : Nat → Int32) (h0 : xs 0 &&& 63 = 2) (h1 : xs 1 = 0) : zDone xs := by
  refine ⟨zH0, 117, 29934, ?_, by decide, by decide⟩
  refine zT_gos (f := 200000) (pc2 := 37) (ls2 := [(4, .int 0), (3, .ref 232), (2, .ref 162), (1, .ref 0), (0, .ref 11)]) (st2 := [.int (xs 0)]) (h2 := zH0) (dc2 := 117) (ds2 := 29934) 9 rfl ?_
  refine zT_gos (f := 200000) (pc2 := 40) (ls2 := [(4, .int 0), (3, .ref 232), (2, .ref 162), (1, .ref 0), (0, .ref 11)]) (st2 := [.int ((xs 0) &&& (63 : Int32))]) (h2 := zH0) (dc2 := 117) (ds2 := 29934) 2 rfl ?_
  refine zT_val h0 ?_
  refine zT_gos (f := 200000) (pc2 := 329) (ls2 := [(4, .int 0), (3, .ref 232), (2, .ref 162), (1, .ref 0), (0, .ref 11)]) (st2 := [.int (xs 1), .ref 0]) (h2 := zH0) (dc2 := 117) (ds2 := 29934) 7 rfl ?_
  refine zT_val h1 ?_
  refine zT_gos (f := 200000) (pc2 := 339) (ls2 := [(4, .int 0), (3, .ref 232), (2, .ref 162), (1, .ref 0), (0, .ref 11)]) (st2 := [.int (xs 1), .ref 162, .int 0]) (h2 := zH0) (dc2 := 117) (ds2 := 29934) 7 rfl ?_
  refine zT_val h1 ?_
  refine zT_gos (f := 200000) (pc2 := 1811) (ls2 := [(4, .int 6), (3, .ref 232), (2, .ref 162), (1, .ref 0), (0, .ref 11)]) (st2 := [.int 1]) (h2 := zH0) (dc2 := 117) (ds2 := 29934) 11 rfl ?_
  exact zT_ret rfl rfl
set_option maxRecDepth 1000000 in
set_option maxHeartbeats 4000000 in
theorem zo_2_1 (xs : Nat → Int32) (h0 : xs 0 &&& 63 = 2) (h1 : xs 1 = 1) : zDone xs := by
  refine ⟨zH0, 117, 29934, ?_, by decide, by decide⟩
  refine zT_gos (f := 200000) (pc2 := 37) (ls2 := [(4, .int 0), (3, .ref 232), (2, .ref 162), (1, .ref 0), (0, .ref 11)]) (st2 := [.int (xs 0)]) (h2 := zH0) (dc2 := 117) (ds2 := 29934) 9 rfl ?_
  refine zT_gos (f := 200000) (pc2 := 40) (ls2 := [(4, .int 0), (3, .ref 232), (2, .ref 162), (1, .ref 0), (0, .ref 11)]) (st2 := [.int ((xs 0) &&& (63 : Int32))]) (h2 := zH0) (dc2 := 117) (ds2 := 29934) 2 rfl ?_
  refine zT_val h0 ?_
  refine zT_gos (f := 200000) (pc2 := 329) (ls2 := [(4, .int 0), (3, .ref 232), (2, .ref 162), (1, .ref 0), (0, .ref 11)]) (st2 := [.int (xs 1), .ref 0]) (h2 := zH0) (dc2 := 117) (ds2 := 29934) 7 rfl ?_
  refine zT_val h1 ?_
  refine zT_gos (f := 200000) (pc2 := 339) (ls2 := [(4, .int 0), (3, .ref 232), (2, .ref 162), (1, .ref 0), (0, .ref 11)]) (st2 := [.int (xs 1), .ref 162, .int (-1)]) (h2 := zH0) (dc2 := 117) (ds2 := 29934) 7 rfl ?_
  refine zT_val h1 ?_
  refine zT_gos (f := 200000) (pc2 := 1811) (ls2 := [(4, .int 6), (3, .ref 232), (2, .ref 162), (1, .ref 0), (0, .ref 11)]) (st2 := [.int 1]) (h2 := zH0) (dc2 := 117) (ds2 := 29934) 11 rfl ?_
  exact zT_ret rfl rfl
set_option maxRecDepth 1000000 in
set_option maxHeartbeats 4000000 in
theorem zo_2_2 (xs : Nat → Int32) (h0 : xs 0 &&& 63 = 2) (h1 : (xs 1).toInt < 0) : zDone xs := by
  refine ⟨zH0, 117, 29934, ?_, by decide, by decide⟩
  refine zT_gos (f := 200000) (pc2 := 37) (ls2 := [(4, .int 0), (3, .ref 232), (2, .ref 162), (1, .ref 0), (0, .ref 11)]) (st2 := [.int (xs 0)]) (h2 := zH0) (dc2 := 117) (ds2 := 29934) 9 rfl ?_
  refine zT_gos (f := 200000) (pc2 := 40) (ls2 := [(4, .int 0), (3, .ref 232), (2, .ref 162), (1, .ref 0), (0, .ref 11)]) (st2 := [.int ((xs 0) &&& (63 : Int32))]) (h2 := zH0) (dc2 := 117) (ds2 := 29934) 2 rfl ?_
  refine zT_val h0 ?_
  refine zT_gos (f := 200000) (pc2 := 329) (ls2 := [(4, .int 0), (3, .ref 232), (2, .ref 162), (1, .ref 0), (0, .ref 11)]) (st2 := [.int (xs 1), .ref 0]) (h2 := zH0) (dc2 := 117) (ds2 := 29934) 7 rfl ?_
  refine zT_call (v := some (.int (-1))) (h2 := zH0) (d1 := 0) (s1 := 0) rfl rfl ?_ ?_
  · refine zT_gos (f := 200000) (pc2 := 1) (ls2 := [(0, .ref 0), (1, .int (xs 1))]) (st2 := [.int (xs 1)]) (h2 := zH0) (dc2 := 0) (ds2 := 0) 1 rfl ?_
    refine zT_if0 true rfl (zc_ne_t (by show ((xs 1) : Int32).toInt ≠ 0; omega)) ?_
    refine zT_here (pc2 := 12) rfl ?_
    refine zT_gos (f := 200000) (pc2 := 14) (ls2 := [(0, .ref 0), (1, .int (xs 1))]) (st2 := [.int 1, .int (xs 1)]) (h2 := zH0) (dc2 := 0) (ds2 := 0) 2 rfl ?_
    refine zT_if2 true rfl (zc_ne_t (by show ((xs 1) : Int32).toInt ≠ 1; omega)) ?_
    refine zT_here (pc2 := 27) rfl ?_
    refine zT_gos (f := 200000) (pc2 := 28) (ls2 := [(0, .ref 0), (1, .int (xs 1))]) (st2 := [.int (-1)]) (h2 := zH0) (dc2 := 0) (ds2 := 0) 1 rfl ?_
    exact zT_ret rfl rfl
  refine zT_here (pc2 := 332) rfl ?_
  refine zT_gos (f := 200000) (pc2 := 339) (ls2 := [(4, .int 0), (3, .ref 232), (2, .ref 162), (1, .ref 0), (0, .ref 11)]) (st2 := [.int (xs 1), .ref 162, .int (-1)]) (h2 := zH0) (dc2 := 117) (ds2 := 29934) 6 rfl ?_
  refine zT_call (v := some (.int (-1))) (h2 := zH0) (d1 := 0) (s1 := 0) rfl rfl ?_ ?_
  · refine zT_gos (f := 200000) (pc2 := 6) (ls2 := [(0, .ref 162), (1, .int (xs 1))]) (st2 := [.int (xs 1)]) (h2 := zH0) (dc2 := 0) (ds2 := 0) 4 rfl ?_
    refine zT_if0 true rfl (zc_ne_t (by show ((xs 1) : Int32).toInt ≠ 0; omega)) ?_
    refine zT_here (pc2 := 16) rfl ?_
    refine zT_gos (f := 200000) (pc2 := 18) (ls2 := [(0, .ref 162), (1, .int (xs 1))]) (st2 := [.int 1, .int (xs 1)]) (h2 := zH0) (dc2 := 0) (ds2 := 0) 2 rfl ?_
    refine zT_if2 true rfl (zc_ne_t (by show ((xs 1) : Int32).toInt ≠ 1; omega)) ?_
    refine zT_here (pc2 := 28) rfl ?_
    refine zT_gos (f := 200000) (pc2 := 29) (ls2 := [(0, .ref 162), (1, .int (xs 1))]) (st2 := [.int (-1)]) (h2 := zH0) (dc2 := 0) (ds2 := 0) 1 rfl ?_
    exact zT_ret rfl rfl
  refine zT_here (pc2 := 342) rfl ?_
  refine zT_gos (f := 200000) (pc2 := 1811) (ls2 := [(4, .int 6), (3, .ref 232), (2, .ref 162), (1, .ref 0), (0, .ref 11)]) (st2 := [.int 1]) (h2 := zH0) (dc2 := 117) (ds2 := 29934) 10 rfl ?_
  exact zT_ret rfl rfl
set_option maxRecDepth 1000000 in
set_option maxHeartbeats 4000000 in
theorem zo_2_3 (xs : Nat → Int32) (h0 : xs 0 &&& 63 = 2) (h1 : 1 < (xs 1).toInt) : zDone xs := by
  refine ⟨zH0, 117, 29934, ?_, by decide, by decide⟩
  refine zT_gos (f := 200000) (pc2 := 37) (ls2 := [(4, .int 0), (3, .ref 232), (2, .ref 162), (1, .ref 0), (0, .ref 11)]) (st2 := [.int (xs 0)]) (h2 := zH0) (dc2 := 117) (ds2 := 29934) 9 rfl ?_
  refine zT_gos (f := 200000) (pc2 := 40) (ls2 := [(4, .int 0), (3, .ref 232), (2, .ref 162), (1, .ref 0), (0, .ref 11)]) (st2 := [.int ((xs 0) &&& (63 : Int32))]) (h2 := zH0) (dc2 := 117) (ds2 := 29934) 2 rfl ?_
  refine zT_val h0 ?_
  refine zT_gos (f := 200000) (pc2 := 329) (ls2 := [(4, .int 0), (3, .ref 232), (2, .ref 162), (1, .ref 0), (0, .ref 11)]) (st2 := [.int (xs 1), .ref 0]) (h2 := zH0) (dc2 := 117) (ds2 := 29934) 7 rfl ?_
  refine zT_call (v := some (.int (-1))) (h2 := zH0) (d1 := 0) (s1 := 0) rfl rfl ?_ ?_
  · refine zT_gos (f := 200000) (pc2 := 1) (ls2 := [(0, .ref 0), (1, .int (xs 1))]) (st2 := [.int (xs 1)]) (h2 := zH0) (dc2 := 0) (ds2 := 0) 1 rfl ?_
    refine zT_if0 true rfl (zc_ne_t (by show ((xs 1) : Int32).toInt ≠ 0; omega)) ?_
    refine zT_here (pc2 := 12) rfl ?_
    refine zT_gos (f := 200000) (pc2 := 14) (ls2 := [(0, .ref 0), (1, .int (xs 1))]) (st2 := [.int 1, .int (xs 1)]) (h2 := zH0) (dc2 := 0) (ds2 := 0) 2 rfl ?_
    refine zT_if2 true rfl (zc_ne_t (by show ((xs 1) : Int32).toInt ≠ 1; omega)) ?_
    refine zT_here (pc2 := 27) rfl ?_
    refine zT_gos (f := 200000) (pc2 := 28) (ls2 := [(0, .ref 0), (1, .int (xs 1))]) (st2 := [.int (-1)]) (h2 := zH0) (dc2 := 0) (ds2 := 0) 1 rfl ?_
    exact zT_ret rfl rfl
  refine zT_here (pc2 := 332) rfl ?_
  refine zT_gos (f := 200000) (pc2 := 339) (ls2 := [(4, .int 0), (3, .ref 232), (2, .ref 162), (1, .ref 0), (0, .ref 11)]) (st2 := [.int (xs 1), .ref 162, .int (-1)]) (h2 := zH0) (dc2 := 117) (ds2 := 29934) 6 rfl ?_
  refine zT_call (v := some (.int (-1))) (h2 := zH0) (d1 := 0) (s1 := 0) rfl rfl ?_ ?_
  · refine zT_gos (f := 200000) (pc2 := 6) (ls2 := [(0, .ref 162), (1, .int (xs 1))]) (st2 := [.int (xs 1)]) (h2 := zH0) (dc2 := 0) (ds2 := 0) 4 rfl ?_
    refine zT_if0 true rfl (zc_ne_t (by show ((xs 1) : Int32).toInt ≠ 0; omega)) ?_
    refine zT_here (pc2 := 16) rfl ?_
    refine zT_gos (f := 200000) (pc2 := 18) (ls2 := [(0, .ref 162), (1, .int (xs 1))]) (st2 := [.int 1, .int (xs 1)]) (h2 := zH0) (dc2 := 0) (ds2 := 0) 2 rfl ?_
    refine zT_if2 true rfl (zc_ne_t (by show ((xs 1) : Int32).toInt ≠ 1; omega)) ?_
    refine zT_here (pc2 := 28) rfl ?_
    refine zT_gos (f := 200000) (pc2 := 29) (ls2 := [(0, .ref 162), (1, .int (xs 1))]) (st2 := [.int (-1)]) (h2 := zH0) (dc2 := 0) (ds2 := 0) 1 rfl ?_
    exact zT_ret rfl rfl
  refine zT_here (pc2 := 342) rfl ?_
  refine zT_gos (f := 200000) (pc2 := 1811) (ls2 := [(4, .int 6), (3, .ref 232), (2, .ref 162), (1, .ref 0), (0, .ref 11)]) (st2 := [.int 1]) (h2 := zH0) (dc2 := 117) (ds2 := 29934) 10 rfl ?_
  exact zT_ret rfl rfl
theorem zop_2 (xs : Nat → Int32) (h0 : xs 0 &&& 63 = 2) : zDone xs := by
  rcases (show (xs 1).toInt = 0 ∨ (xs 1).toInt = 1 ∨ (xs 1).toInt < 0 ∨ 1 < (xs 1).toInt by omega) with h1 | h1 | h1 | h1
  · have h1 : xs 1 = 0 := Int32.toInt_inj.mp h1
    exact zo_2_0 xs h0 h1
  · have h1 : xs 1 = 1 := Int32.toInt_inj.mp h1
    exact zo_2_1 xs h0 h1
  · have h1 := h1
    exact zo_2_2 xs h0 h1
  · have h1 := h1
    exact zo_2_3 xs h0 h1
set_option maxRecDepth 1000000 in
set_option maxHeartbeats 4000000 in
theorem zo_3_0 (xs : Nat → Int32) (h0 : xs 0 &&& 63 = 3)  : zDone xs := by
  refine ⟨zH0, 117, 29934, ?_, by decide, by decide⟩
  refine zT_gos (f := 200000) (pc2 := 37) (ls2 := [(4, .int 0), (3, .ref 232), (2, .ref 162), (1, .ref 0), (0, .ref 11)]) (st2 := [.int (xs 0)]) (h2 := zH0) (dc2 := 117) (ds2 := 29934) 9 rfl ?_
  refine zT_gos (f := 200000) (pc2 := 40) (ls2 := [(4, .int 0), (3, .ref 232), (2, .ref 162), (1, .ref 0), (0, .ref 11)]) (st2 := [.int ((xs 0) &&& (63 : Int32))]) (h2 := zH0) (dc2 := 117) (ds2 := 29934) 2 rfl ?_
  refine zT_val h0 ?_
  refine zT_gos (f := 200000) (pc2 := 354) (ls2 := [(4, .int 0), (3, .ref 232), (2, .ref 162), (1, .ref 0), (0, .ref 11)]) (st2 := [.int (xs 1), .ref 0]) (h2 := zH0) (dc2 := 117) (ds2 := 29934) 7 rfl ?_
  refine zT_gos (f := 200000) (pc2 := 364) (ls2 := [(4, .int 0), (3, .ref 232), (2, .ref 162), (1, .ref 0), (0, .ref 11)]) (st2 := [.int (xs 1), .ref 162, .int (-1)]) (h2 := zH0) (dc2 := 117) (ds2 := 29934) 7 rfl ?_
  refine zT_gos (f := 200000) (pc2 := 1811) (ls2 := [(4, .int 6), (3, .ref 232), (2, .ref 162), (1, .ref 0), (0, .ref 11)]) (st2 := [.int 1]) (h2 := zH0) (dc2 := 117) (ds2 := 29934) 11 rfl ?_
  exact zT_ret rfl rfl
theorem zop_3 (xs : Nat → Int32) (h0 : xs 0 &&& 63 = 3) : zDone xs := by
  exact zo_3_0 xs h0 
set_option maxRecDepth 1000000 in
set_option maxHeartbeats 4000000 in
theorem zo_5_0 (xs : Nat → Int32) (h0 : xs 0 &&& 63 = 5) (h1 : (xs 1).toInt < 0) : zDone xs := by
  refine ⟨zH0, 117, 29934, ?_, by decide, by decide⟩
  refine zT_gos (f := 200000) (pc2 := 37) (ls2 := [(4, .int 0), (3, .ref 232), (2, .ref 162), (1, .ref 0), (0, .ref 11)]) (st2 := [.int (xs 0)]) (h2 := zH0) (dc2 := 117) (ds2 := 29934) 9 rfl ?_
  refine zT_gos (f := 200000) (pc2 := 40) (ls2 := [(4, .int 0), (3, .ref 232), (2, .ref 162), (1, .ref 0), (0, .ref 11)]) (st2 := [.int ((xs 0) &&& (63 : Int32))]) (h2 := zH0) (dc2 := 117) (ds2 := 29934) 2 rfl ?_
  refine zT_val h0 ?_
  refine zT_gos (f := 200000) (pc2 := 447) (ls2 := [(4, .int 0), (3, .ref 232), (2, .ref 162), (1, .ref 0), (0, .ref 11)]) (st2 := [.int (xs 1), .ref 0]) (h2 := zH0) (dc2 := 117) (ds2 := 29934) 7 rfl ?_
  refine zT_gos (f := 200000) (pc2 := 453) (ls2 := [(4, .int 0), (3, .ref 232), (2, .ref 162), (1, .ref 0), (0, .ref 11)]) (st2 := [.int (xs 2), .int (xs 1), .ref 0]) (h2 := zH0) (dc2 := 117) (ds2 := 29934) 5 rfl ?_
  refine zT_call (v := some (.int 0)) (h2 := zH0) (d1 := 0) (s1 := 0) rfl rfl ?_ ?_
  · refine zT_gos (f := 200000) (pc2 := 2) (ls2 := [(0, .ref 0), (1, .int (xs 1)), (2, .int (xs 2))]) (st2 := [.int (xs 1), .ref 0]) (h2 := zH0) (dc2 := 0) (ds2 := 0) 2 rfl ?_
    refine zT_call (v := some (.int 1)) (h2 := zH0) (d1 := 0) (s1 := 0) rfl rfl ?_ ?_
    · refine zT_gos (f := 200000) (pc2 := 1) (ls2 := [(0, .ref 0), (1, .int (xs 1))]) (st2 := [.int (xs 1)]) (h2 := zH0) (dc2 := 0) (ds2 := 0) 1 rfl ?_
      refine zT_if0 true rfl (zc_lt_t (by show ((xs 1) : Int32).toInt < 0; omega)) ?_
      refine zT_here (pc2 := 15) rfl ?_
      refine zT_gos (f := 200000) (pc2 := 20) (ls2 := [(0, .ref 0), (1, .int (xs 1))]) (st2 := [.int 1]) (h2 := zH0) (dc2 := 0) (ds2 := 0) 2 rfl ?_
      exact zT_ret rfl rfl
    refine zT_here (pc2 := 5) rfl ?_
    refine zT_gos (f := 200000) (pc2 := 32) (ls2 := [(0, .ref 0), (1, .int (xs 1)), (2, .int (xs 2))]) (st2 := [.int 0]) (h2 := zH0) (dc2 := 0) (ds2 := 0) 3 rfl ?_
    exact zT_ret rfl rfl
  refine zT_here (pc2 := 456) rfl ?_
  refine zT_gos (f := 200000) (pc2 := 463) (ls2 := [(4, .int 0), (3, .ref 232), (2, .ref 162), (1, .ref 0), (0, .ref 11)]) (st2 := [.int (xs 1), .ref 162, .int 0]) (h2 := zH0) (dc2 := 117) (ds2 := 29934) 6 rfl ?_
  refine zT_gos (f := 200000) (pc2 := 469) (ls2 := [(4, .int 0), (3, .ref 232), (2, .ref 162), (1, .ref 0), (0, .ref 11)]) (st2 := [.int (xs 2), .int (xs 1), .ref 162, .int 0]) (h2 := zH0) (dc2 := 117) (ds2 := 29934) 5 rfl ?_
  refine zT_call (v := some (.int 0)) (h2 := zH0) (d1 := 0) (s1 := 0) rfl rfl ?_ ?_
  · refine zT_gos (f := 200000) (pc2 := 7) (ls2 := [(0, .ref 162), (1, .int (xs 1)), (2, .int (xs 2))]) (st2 := [.int (xs 1), .ref 162]) (h2 := zH0) (dc2 := 0) (ds2 := 0) 5 rfl ?_
    refine zT_call (v := some (.int 0)) (h2 := zH0) (d1 := 0) (s1 := 0) rfl rfl ?_ ?_
    · refine zT_gos (f := 200000) (pc2 := 1) (ls2 := [(0, .ref 162), (1, .int (xs 1))]) (st2 := [.int (xs 1)]) (h2 := zH0) (dc2 := 0) (ds2 := 0) 1 rfl ?_
      refine zT_if0 true rfl (zc_lt_t (by show ((xs 1) : Int32).toInt < 0; omega)) ?_
      refine zT_here (pc2 := 18) rfl ?_
      refine zT_gos (f := 200000) (pc2 := 19) (ls2 := [(0, .ref 162), (1, .int (xs 1))]) (st2 := [.int 0]) (h2 := zH0) (dc2 := 0) (ds2 := 0) 1 rfl ?_
      exact zT_ret rfl rfl
    refine zT_here (pc2 := 10) rfl ?_
    refine zT_gos (f := 200000) (pc2 := 35) (ls2 := [(0, .ref 162), (1, .int (xs 1)), (2, .int (xs 2))]) (st2 := [.int 0]) (h2 := zH0) (dc2 := 0) (ds2 := 0) 2 rfl ?_
    exact zT_ret rfl rfl
  refine zT_here (pc2 := 472) rfl ?_
  refine zT_gos (f := 200000) (pc2 := 1811) (ls2 := [(4, .int 6), (3, .ref 232), (2, .ref 162), (1, .ref 0), (0, .ref 11)]) (st2 := [.int 1]) (h2 := zH0) (dc2 := 117) (ds2 := 29934) 10 rfl ?_
  exact zT_ret rfl rfl
set_option maxRecDepth 1000000 in
set_option maxHeartbeats 4000000 in
theorem zo_5_1 (xs : Nat → Int32) (h0 : xs 0 &&& 63 = 5) (h1 : -1 < (xs 1).toInt) : zDone xs := by
  refine ⟨zH0, 117, 29934, ?_, by decide, by decide⟩
  refine zT_gos (f := 200000) (pc2 := 37) (ls2 := [(4, .int 0), (3, .ref 232), (2, .ref 162), (1, .ref 0), (0, .ref 11)]) (st2 := [.int (xs 0)]) (h2 := zH0) (dc2 := 117) (ds2 := 29934) 9 rfl ?_
  refine zT_gos (f := 200000) (pc2 := 40) (ls2 := [(4, .int 0), (3, .ref 232), (2, .ref 162), (1, .ref 0), (0, .ref 11)]) (st2 := [.int ((xs 0) &&& (63 : Int32))]) (h2 := zH0) (dc2 := 117) (ds2 := 29934) 2 rfl ?_
  refine zT_val h0 ?_
  refine zT_gos (f := 200000) (pc2 := 447) (ls2 := [(4, .int 0), (3, .ref 232), (2, .ref 162), (1, .ref 0), (0, .ref 11)]) (st2 := [.int (xs 1), .ref 0]) (h2 := zH0) (dc2 := 117) (ds2 := 29934) 7 rfl ?_
  refine zT_gos (f := 200000) (pc2 := 453) (ls2 := [(4, .int 0), (3, .ref 232), (2, .ref 162), (1, .ref 0), (0, .ref 11)]) (st2 := [.int (xs 2), .int (xs 1), .ref 0]) (h2 := zH0) (dc2 := 117) (ds2 := 29934) 5 rfl ?_
  refine zT_call (v := some (.int 0)) (h2 := zH0) (d1 := 0) (s1 := 0) rfl rfl ?_ ?_
  · refine zT_gos (f := 200000) (pc2 := 2) (ls2 := [(0, .ref 0), (1, .int (xs 1)), (2, .int (xs 2))]) (st2 := [.int (xs 1), .ref 0]) (h2 := zH0) (dc2 := 0) (ds2 := 0) 2 rfl ?_
    refine zT_call (v := some (.int 1)) (h2 := zH0) (d1 := 0) (s1 := 0) rfl rfl ?_ ?_
    · refine zT_gos (f := 200000) (pc2 := 1) (ls2 := [(0, .ref 0), (1, .int (xs 1))]) (st2 := [.int (xs 1)]) (h2 := zH0) (dc2 := 0) (ds2 := 0) 1 rfl ?_
      refine zT_if0 false rfl (zc_lt_f (by show ((xs 1) : Int32).toInt ≥ 0; omega)) ?_
      refine zT_here (pc2 := 4) rfl ?_
      refine zT_gos (f := 200000) (pc2 := 12) (ls2 := [(0, .ref 0), (1, .int (xs 1))]) (st2 := [.int 0, .int (xs 1)]) (h2 := zH0) (dc2 := 0) (ds2 := 0) 4 rfl ?_
      refine zT_if2 false rfl (zc_lt_f (by show ((xs 1) : Int32).toInt ≥ 0; omega)) ?_
      refine zT_here (pc2 := 15) rfl ?_
      refine zT_gos (f := 200000) (pc2 := 20) (ls2 := [(0, .ref 0), (1, .int (xs 1))]) (st2 := [.int 1]) (h2 := zH0) (dc2 := 0) (ds2 := 0) 2 rfl ?_
      exact zT_ret rfl rfl
    refine zT_here (pc2 := 5) rfl ?_
    refine zT_gos (f := 200000) (pc2 := 32) (ls2 := [(0, .ref 0), (1, .int (xs 1)), (2, .int (xs 2))]) (st2 := [.int 0]) (h2 := zH0) (dc2 := 0) (ds2 := 0) 3 rfl ?_
    exact zT_ret rfl rfl
  refine zT_here (pc2 := 456) rfl ?_
  refine zT_gos (f := 200000) (pc2 := 463) (ls2 := [(4, .int 0), (3, .ref 232), (2, .ref 162), (1, .ref 0), (0, .ref 11)]) (st2 := [.int (xs 1), .ref 162, .int 0]) (h2 := zH0) (dc2 := 117) (ds2 := 29934) 6 rfl ?_
  refine zT_gos (f := 200000) (pc2 := 469) (ls2 := [(4, .int 0), (3, .ref 232), (2, .ref 162), (1, .ref 0), (0, .ref 11)]) (st2 := [.int (xs 2), .int (xs 1), .ref 162, .int 0]) (h2 := zH0) (dc2 := 117) (ds2 := 29934) 5 rfl ?_
  refine zT_call (v := some (.int 0)) (h2 := zH0) (d1 := 0) (s1 := 0) rfl rfl ?_ ?_
  · refine zT_gos (f := 200000) (pc2 := 7) (ls2 := [(0, .ref 162), (1, .int (xs 1)), (2, .int (xs 2))]) (st2 := [.int (xs 1), .ref 162]) (h2 := zH0) (dc2 := 0) (ds2 := 0) 5 rfl ?_
    refine zT_call (v := some (.int 0)) (h2 := zH0) (d1 := 0) (s1 := 0) rfl rfl ?_ ?_
    · refine zT_gos (f := 200000) (pc2 := 1) (ls2 := [(0, .ref 162), (1, .int (xs 1))]) (st2 := [.int (xs 1)]) (h2 := zH0) (dc2 := 0) (ds2 := 0) 1 rfl ?_
      refine zT_if0 false rfl (zc_lt_f (by show ((xs 1) : Int32).toInt ≥ 0; omega)) ?_
      refine zT_here (pc2 := 4) rfl ?_
      refine zT_gos (f := 200000) (pc2 := 11) (ls2 := [(0, .ref 162), (1, .int (xs 1))]) (st2 := [.int 0, .int (xs 1)]) (h2 := zH0) (dc2 := 0) (ds2 := 0) 5 rfl ?_
      refine zT_if2 true rfl (zc_ge_t (by show ((xs 1) : Int32).toInt ≥ 0; omega)) ?_
      refine zT_here (pc2 := 18) rfl ?_
      refine zT_gos (f := 200000) (pc2 := 19) (ls2 := [(0, .ref 162), (1, .int (xs 1))]) (st2 := [.int 0]) (h2 := zH0) (dc2 := 0) (ds2 := 0) 1 rfl ?_
      exact zT_ret rfl rfl
    refine zT_here (pc2 := 10) rfl ?_
    refine zT_gos (f := 200000) (pc2 := 35) (ls2 := [(0, .ref 162), (1, .int (xs 1)), (2, .int (xs 2))]) (st2 := [.int 0]) (h2 := zH0) (dc2 := 0) (ds2 := 0) 2 rfl ?_
    exact zT_ret rfl rfl
  refine zT_here (pc2 := 472) rfl ?_
  refine zT_gos (f := 200000) (pc2 := 1811) (ls2 := [(4, .int 6), (3, .ref 232), (2, .ref 162), (1, .ref 0), (0, .ref 11)]) (st2 := [.int 1]) (h2 := zH0) (dc2 := 117) (ds2 := 29934) 10 rfl ?_
  exact zT_ret rfl rfl
theorem zop_5 (xs : Nat → Int32) (h0 : xs 0 &&& 63 = 5) : zDone xs := by
  rcases (show (xs 1).toInt < 0 ∨ -1 < (xs 1).toInt by omega) with h1 | h1
  · have h1 := h1
    exact zo_5_0 xs h0 h1
  · have h1 := h1
    exact zo_5_1 xs h0 h1
set_option maxRecDepth 1000000 in
theorem zk_o_2 : zT zg0 zF zP 200 0 [(0, .ref 162), (1, .ref 188), (2, .int 0)] [] zH0 0 0 (none, zH0, 0, 0) := zclosed (n := 349) (by decide +kernel)
set_option maxRecDepth 1000000 in
set_option maxHeartbeats 4000000 in
theorem zo_7_0 (xs : Nat → Int32) (h0 : xs 0 &&& 63 = 7) (h1 : (xs 1).toInt < 0) : zDone xs := by
  refine ⟨zH0, 117, 29934, ?_, by decide, by decide⟩
  refine zT_gos (f := 200000) (pc2 := 37) (ls2 := [(4, .int 0), (3, .ref 232), (2, .ref 162), (1, .ref 0), (0, .ref 11)]) (st2 := [.int (xs 0)]) (h2 := zH0) (dc2 := 117) (ds2 := 29934) 9 rfl ?_
  refine zT_gos (f := 200000) (pc2 := 40) (ls2 := [(4, .int 0), (3, .ref 232), (2, .ref 162), (1, .ref 0), (0, .ref 11)]) (st2 := [.int ((xs 0) &&& (63 : Int32))]) (h2 := zH0) (dc2 := 117) (ds2 := 29934) 2 rfl ?_
  refine zT_val h0 ?_
  refine zT_gos (f := 200000) (pc2 := 521) (ls2 := [(4, .int 0), (3, .ref 232), (2, .ref 162), (1, .ref 0), (0, .ref 11)]) (st2 := [.int (xs 1), .ref 0]) (h2 := zH0) (dc2 := 117) (ds2 := 29934) 7 rfl ?_
  refine zT_call (v := some (.long 0)) (h2 := zH0) (d1 := 0) (s1 := 0) rfl rfl ?_ ?_
  · refine zT_gos (f := 200000) (pc2 := 3) (ls2 := [(0, .ref 0), (1, .int (xs 1))]) (st2 := [.int 6, .int (xs 1)]) (h2 := zH0) (dc2 := 0) (ds2 := 0) 2 rfl ?_
    refine zT_if2 true rfl (zc_ne_t (by show ((xs 1) : Int32).toInt ≠ 6; omega)) ?_
    refine zT_here (pc2 := 21) rfl ?_
    refine zT_gos (f := 200000) (pc2 := 30) (ls2 := [(0, .ref 0), (1, .int (xs 1))]) (st2 := [.int (xs 1), .long 70644700037184, .ref 6]) (h2 := zH0) (dc2 := 0) (ds2 := 0) 5 rfl ?_
    refine zT_call (v := some (.int 0)) (h2 := zH0) (d1 := 0) (s1 := 0) rfl rfl ?_ ?_
    · refine zT_gos (f := 200000) (pc2 := 8) (ls2 := [(4, .int 0), (0, .ref 6), (1, .long 70644700037184), (3, .int (xs 1))]) (st2 := [.int (xs 1)]) (h2 := zH0) (dc2 := 0) (ds2 := 0) 5 rfl ?_
      refine zT_tabo rfl (by show ((xs 1)).toInt < 0 ∨ 5 < ((xs 1)).toInt; omega) ?_
      refine zT_here (pc2 := 123) rfl ?_
      refine zT_gos (f := 200000) (pc2 := 124) (ls2 := [(4, .int 0), (0, .ref 6), (1, .long 70644700037184), (3, .int (xs 1))]) (st2 := [.int 0]) (h2 := zH0) (dc2 := 0) (ds2 := 0) 1 rfl ?_
      exact zT_ret rfl rfl
    refine zT_here (pc2 := 33) rfl ?_
    refine zT_gos (f := 200000) (pc2 := 34) (ls2 := [(0, .ref 0), (1, .int (xs 1))]) (st2 := [.long 0]) (h2 := zH0) (dc2 := 0) (ds2 := 0) 1 rfl ?_
    exact zT_ret rfl rfl
  refine zT_here (pc2 := 524) rfl ?_
  refine zT_gos (f := 200000) (pc2 := 531) (ls2 := [(4, .int 0), (3, .ref 232), (2, .ref 162), (1, .ref 0), (0, .ref 11)]) (st2 := [.int (xs 1), .ref 162, .long 0]) (h2 := zH0) (dc2 := 117) (ds2 := 29934) 6 rfl ?_
  refine zT_call (v := some (.long 0)) (h2 := zH0) (d1 := 0) (s1 := 0) rfl rfl ?_ ?_
  · refine zT_gos (f := 200000) (pc2 := 11) (ls2 := [(0, .ref 162), (1, .int (xs 1))]) (st2 := [.int 0, .ref 188, .ref 162]) (h2 := zH0) (dc2 := 0) (ds2 := 0) 7 rfl ?_
    refine zT_call rfl rfl (zT_le (zg0_le 6 xs) zk_o_2) ?_
    refine zT_here (pc2 := 14) rfl ?_
    refine zT_gos (f := 200000) (pc2 := 15) (ls2 := [(0, .ref 162), (1, .int (xs 1))]) (st2 := [.int (xs 1)]) (h2 := zH0) (dc2 := 0) (ds2 := 0) 1 rfl ?_
    refine zT_if0 true rfl (zc_lt_t (by show ((xs 1) : Int32).toInt < 0; omega)) ?_
    refine zT_here (pc2 := 34) rfl ?_
    refine zT_gos (f := 200000) (pc2 := 37) (ls2 := [(0, .ref 162), (1, .int (xs 1))]) (st2 := [.int 6, .int (xs 1)]) (h2 := zH0) (dc2 := 0) (ds2 := 0) 2 rfl ?_
    refine zT_if2 true rfl (zc_ne_t (by show ((xs 1) : Int32).toInt ≠ 6; omega)) ?_
    refine zT_here (pc2 := 53) rfl ?_
    refine zT_gos (f := 200000) (pc2 := 54) (ls2 := [(0, .ref 162), (1, .int (xs 1))]) (st2 := [.long 0]) (h2 := zH0) (dc2 := 0) (ds2 := 0) 1 rfl ?_
    exact zT_ret rfl rfl
  refine zT_here (pc2 := 534) rfl ?_
  refine zT_gos (f := 200000) (pc2 := 1811) (ls2 := [(4, .int 6), (3, .ref 232), (2, .ref 162), (1, .ref 0), (0, .ref 11)]) (st2 := [.int 1]) (h2 := zH0) (dc2 := 117) (ds2 := 29934) 11 rfl ?_
  exact zT_ret rfl rfl
set_option maxRecDepth 1000000 in
set_option maxHeartbeats 4000000 in
theorem zo_7_1 (xs : Nat → Int32) (h0 : xs 0 &&& 63 = 7) (h1 : 6 < (xs 1).toInt) : zDone xs := by
  refine ⟨zH0, 117, 29934, ?_, by decide, by decide⟩
  refine zT_gos (f := 200000) (pc2 := 37) (ls2 := [(4, .int 0), (3, .ref 232), (2, .ref 162), (1, .ref 0), (0, .ref 11)]) (st2 := [.int (xs 0)]) (h2 := zH0) (dc2 := 117) (ds2 := 29934) 9 rfl ?_
  refine zT_gos (f := 200000) (pc2 := 40) (ls2 := [(4, .int 0), (3, .ref 232), (2, .ref 162), (1, .ref 0), (0, .ref 11)]) (st2 := [.int ((xs 0) &&& (63 : Int32))]) (h2 := zH0) (dc2 := 117) (ds2 := 29934) 2 rfl ?_
  refine zT_val h0 ?_
  refine zT_gos (f := 200000) (pc2 := 521) (ls2 := [(4, .int 0), (3, .ref 232), (2, .ref 162), (1, .ref 0), (0, .ref 11)]) (st2 := [.int (xs 1), .ref 0]) (h2 := zH0) (dc2 := 117) (ds2 := 29934) 7 rfl ?_
  refine zT_call (v := some (.long 0)) (h2 := zH0) (d1 := 0) (s1 := 0) rfl rfl ?_ ?_
  · refine zT_gos (f := 200000) (pc2 := 3) (ls2 := [(0, .ref 0), (1, .int (xs 1))]) (st2 := [.int 6, .int (xs 1)]) (h2 := zH0) (dc2 := 0) (ds2 := 0) 2 rfl ?_
    refine zT_if2 true rfl (zc_ne_t (by show ((xs 1) : Int32).toInt ≠ 6; omega)) ?_
    refine zT_here (pc2 := 21) rfl ?_
    refine zT_gos (f := 200000) (pc2 := 30) (ls2 := [(0, .ref 0), (1, .int (xs 1))]) (st2 := [.int (xs 1), .long 70644700037184, .ref 6]) (h2 := zH0) (dc2 := 0) (ds2 := 0) 5 rfl ?_
    refine zT_call (v := some (.int 0)) (h2 := zH0) (d1 := 0) (s1 := 0) rfl rfl ?_ ?_
    · refine zT_gos (f := 200000) (pc2 := 8) (ls2 := [(4, .int 0), (0, .ref 6), (1, .long 70644700037184), (3, .int (xs 1))]) (st2 := [.int (xs 1)]) (h2 := zH0) (dc2 := 0) (ds2 := 0) 5 rfl ?_
      refine zT_tabo rfl (by show ((xs 1)).toInt < 0 ∨ 5 < ((xs 1)).toInt; omega) ?_
      refine zT_here (pc2 := 123) rfl ?_
      refine zT_gos (f := 200000) (pc2 := 124) (ls2 := [(4, .int 0), (0, .ref 6), (1, .long 70644700037184), (3, .int (xs 1))]) (st2 := [.int 0]) (h2 := zH0) (dc2 := 0) (ds2 := 0) 1 rfl ?_
      exact zT_ret rfl rfl
    refine zT_here (pc2 := 33) rfl ?_
    refine zT_gos (f := 200000) (pc2 := 34) (ls2 := [(0, .ref 0), (1, .int (xs 1))]) (st2 := [.long 0]) (h2 := zH0) (dc2 := 0) (ds2 := 0) 1 rfl ?_
    exact zT_ret rfl rfl
  refine zT_here (pc2 := 524) rfl ?_
  refine zT_gos (f := 200000) (pc2 := 531) (ls2 := [(4, .int 0), (3, .ref 232), (2, .ref 162), (1, .ref 0), (0, .ref 11)]) (st2 := [.int (xs 1), .ref 162, .long 0]) (h2 := zH0) (dc2 := 117) (ds2 := 29934) 6 rfl ?_
  refine zT_call (v := some (.long 0)) (h2 := zH0) (d1 := 0) (s1 := 0) rfl rfl ?_ ?_
  · refine zT_gos (f := 200000) (pc2 := 11) (ls2 := [(0, .ref 162), (1, .int (xs 1))]) (st2 := [.int 0, .ref 188, .ref 162]) (h2 := zH0) (dc2 := 0) (ds2 := 0) 7 rfl ?_
    refine zT_call rfl rfl (zT_le (zg0_le 6 xs) zk_o_2) ?_
    refine zT_here (pc2 := 14) rfl ?_
    refine zT_gos (f := 200000) (pc2 := 15) (ls2 := [(0, .ref 162), (1, .int (xs 1))]) (st2 := [.int (xs 1)]) (h2 := zH0) (dc2 := 0) (ds2 := 0) 1 rfl ?_
    refine zT_if0 false rfl (zc_lt_f (by show ((xs 1) : Int32).toInt ≥ 0; omega)) ?_
    refine zT_here (pc2 := 18) rfl ?_
    refine zT_gos (f := 200000) (pc2 := 21) (ls2 := [(0, .ref 162), (1, .int (xs 1))]) (st2 := [.int 6, .int (xs 1)]) (h2 := zH0) (dc2 := 0) (ds2 := 0) 2 rfl ?_
    refine zT_if2 true rfl (zc_ge_t (by show ((xs 1) : Int32).toInt ≥ 6; omega)) ?_
    refine zT_here (pc2 := 34) rfl ?_
    refine zT_gos (f := 200000) (pc2 := 37) (ls2 := [(0, .ref 162), (1, .int (xs 1))]) (st2 := [.int 6, .int (xs 1)]) (h2 := zH0) (dc2 := 0) (ds2 := 0) 2 rfl ?_
    refine zT_if2 true rfl (zc_ne_t (by show ((xs 1) : Int32).toInt ≠ 6; omega)) ?_
    refine zT_here (pc2 := 53) rfl ?_
    refine zT_gos (f := 200000) (pc2 := 54) (ls2 := [(0, .ref 162), (1, .int (xs 1))]) (st2 := [.long 0]) (h2 := zH0) (dc2 := 0) (ds2 := 0) 1 rfl ?_
    exact zT_ret rfl rfl
  refine zT_here (pc2 := 534) rfl ?_
  refine zT_gos (f := 200000) (pc2 := 1811) (ls2 := [(4, .int 6), (3, .ref 232), (2, .ref 162), (1, .ref 0), (0, .ref 11)]) (st2 := [.int 1]) (h2 := zH0) (dc2 := 117) (ds2 := 29934) 11 rfl ?_
  exact zT_ret rfl rfl
set_option maxRecDepth 1000000 in
theorem zk_o_3 : zT zg0 zF zP 108 0 [(0, .ref 0), (1, .int 0)] [] zH0 0 0 (some (.long 22000000), zH0, 0, 0) := zclosed (n := 168) (by decide +kernel)
set_option maxRecDepth 1000000 in
theorem zk_o_4 : zT zg0 zF zP 213 0 [(0, .ref 162), (1, .int 0)] [] zH0 0 0 (some (.long 22000000), zH0, 0, 0) := zclosed (n := 369) (by decide +kernel)
set_option maxRecDepth 1000000 in
set_option maxHeartbeats 4000000 in
theorem zo_7_2 (xs : Nat → Int32) (h0 : xs 0 &&& 63 = 7) (h1 : xs 1 = 0) : zDone xs := by
  refine ⟨zH0, 117, 29934, ?_, by decide, by decide⟩
  refine zT_gos (f := 200000) (pc2 := 37) (ls2 := [(4, .int 0), (3, .ref 232), (2, .ref 162), (1, .ref 0), (0, .ref 11)]) (st2 := [.int (xs 0)]) (h2 := zH0) (dc2 := 117) (ds2 := 29934) 9 rfl ?_
  refine zT_gos (f := 200000) (pc2 := 40) (ls2 := [(4, .int 0), (3, .ref 232), (2, .ref 162), (1, .ref 0), (0, .ref 11)]) (st2 := [.int ((xs 0) &&& (63 : Int32))]) (h2 := zH0) (dc2 := 117) (ds2 := 29934) 2 rfl ?_
  refine zT_val h0 ?_
  refine zT_gos (f := 200000) (pc2 := 521) (ls2 := [(4, .int 0), (3, .ref 232), (2, .ref 162), (1, .ref 0), (0, .ref 11)]) (st2 := [.int (xs 1), .ref 0]) (h2 := zH0) (dc2 := 117) (ds2 := 29934) 7 rfl ?_
  refine zT_val h1 ?_
  refine zT_call rfl rfl (zT_le (zg0_le 6 xs) zk_o_3) ?_
  refine zT_here (pc2 := 524) rfl ?_
  refine zT_gos (f := 200000) (pc2 := 531) (ls2 := [(4, .int 0), (3, .ref 232), (2, .ref 162), (1, .ref 0), (0, .ref 11)]) (st2 := [.int (xs 1), .ref 162, .long 22000000]) (h2 := zH0) (dc2 := 117) (ds2 := 29934) 6 rfl ?_
  refine zT_val h1 ?_
  refine zT_call rfl rfl (zT_le (zg0_le 6 xs) zk_o_4) ?_
  refine zT_here (pc2 := 534) rfl ?_
  refine zT_gos (f := 200000) (pc2 := 1811) (ls2 := [(4, .int 6), (3, .ref 232), (2, .ref 162), (1, .ref 0), (0, .ref 11)]) (st2 := [.int 1]) (h2 := zH0) (dc2 := 117) (ds2 := 29934) 11 rfl ?_
  exact zT_ret rfl rfl
set_option maxRecDepth 1000000 in
theorem zk_o_5 : zT zg0 zF zP 108 0 [(0, .ref 0), (1, .int 1)] [] zH0 0 0 (some (.long 0), zH0, 0, 0) := zclosed (n := 151) (by decide +kernel)
set_option maxRecDepth 1000000 in
theorem zk_o_6 : zT zg0 zF zP 213 0 [(0, .ref 162), (1, .int 1)] [] zH0 0 0 (some (.long 0), zH0, 0, 0) := zclosed (n := 369) (by decide +kernel)
set_option maxRecDepth 1000000 in
set_option maxHeartbeats 4000000 in
theorem zo_7_3 (xs : Nat → Int32) (h0 : xs 0 &&& 63 = 7) (h1 : xs 1 = 1) : zDone xs := by
  refine ⟨zH0, 117, 29934, ?_, by decide, by decide⟩
  refine zT_gos (f := 200000) (pc2 := 37) (ls2 := [(4, .int 0), (3, .ref 232), (2, .ref 162), (1, .ref 0), (0, .ref 11)]) (st2 := [.int (xs 0)]) (h2 := zH0) (dc2 := 117) (ds2 := 29934) 9 rfl ?_
  refine zT_gos (f := 200000) (pc2 := 40) (ls2 := [(4, .int 0), (3, .ref 232), (2, .ref 162), (1, .ref 0), (0, .ref 11)]) (st2 := [.int ((xs 0) &&& (63 : Int32))]) (h2 := zH0) (dc2 := 117) (ds2 := 29934) 2 rfl ?_
  refine zT_val h0 ?_
  refine zT_gos (f := 200000) (pc2 := 521) (ls2 := [(4, .int 0), (3, .ref 232), (2, .ref 162), (1, .ref 0), (0, .ref 11)]) (st2 := [.int (xs 1), .ref 0]) (h2 := zH0) (dc2 := 117) (ds2 := 29934) 7 rfl ?_
  refine zT_val h1 ?_
  refine zT_call rfl rfl (zT_le (zg0_le 6 xs) zk_o_5) ?_
  refine zT_here (pc2 := 524) rfl ?_
  refine zT_gos (f := 200000) (pc2 := 531) (ls2 := [(4, .int 0), (3, .ref 232), (2, .ref 162), (1, .ref 0), (0, .ref 11)]) (st2 := [.int (xs 1), .ref 162, .long 0]) (h2 := zH0) (dc2 := 117) (ds2 := 29934) 6 rfl ?_
  refine zT_val h1 ?_
  refine zT_call rfl rfl (zT_le (zg0_le 6 xs) zk_o_6) ?_
  refine zT_here (pc2 := 534) rfl ?_
  refine zT_gos (f := 200000) (pc2 := 1811) (ls2 := [(4, .int 6), (3, .ref 232), (2, .ref 162), (1, .ref 0), (0, .ref 11)]) (st2 := [.int 1]) (h2 := zH0) (dc2 := 117) (ds2 := 29934) 11 rfl ?_
  exact zT_ret rfl rfl
set_option maxRecDepth 1000000 in
theorem zk_o_7 : zT zg0 zF zP 108 0 [(0, .ref 0), (1, .int 2)] [] zH0 0 0 (some (.long 10000), zH0, 0, 0) := zclosed (n := 151) (by decide +kernel)
set_option maxRecDepth 1000000 in
theorem zk_o_8 : zT zg0 zF zP 213 0 [(0, .ref 162), (1, .int 2)] [] zH0 0 0 (some (.long 10000), zH0, 0, 0) := zclosed (n := 369) (by decide +kernel)
set_option maxRecDepth 1000000 in
set_option maxHeartbeats 4000000 in
theorem zo_7_4 (xs : Nat → Int32) (h0 : xs 0 &&& 63 = 7) (h1 : xs 1 = 2) : zDone xs := by
  refine ⟨zH0, 117, 29934, ?_, by decide, by decide⟩
  refine zT_gos (f := 200000) (pc2 := 37) (ls2 := [(4, .int 0), (3, .ref 232), (2, .ref 162), (1, .ref 0), (0, .ref 11)]) (st2 := [.int (xs 0)]) (h2 := zH0) (dc2 := 117) (ds2 := 29934) 9 rfl ?_
  refine zT_gos (f := 200000) (pc2 := 40) (ls2 := [(4, .int 0), (3, .ref 232), (2, .ref 162), (1, .ref 0), (0, .ref 11)]) (st2 := [.int ((xs 0) &&& (63 : Int32))]) (h2 := zH0) (dc2 := 117) (ds2 := 29934) 2 rfl ?_
  refine zT_val h0 ?_
  refine zT_gos (f := 200000) (pc2 := 521) (ls2 := [(4, .int 0), (3, .ref 232), (2, .ref 162), (1, .ref 0), (0, .ref 11)]) (st2 := [.int (xs 1), .ref 0]) (h2 := zH0) (dc2 := 117) (ds2 := 29934) 7 rfl ?_
  refine zT_val h1 ?_
  refine zT_call rfl rfl (zT_le (zg0_le 6 xs) zk_o_7) ?_
  refine zT_here (pc2 := 524) rfl ?_
  refine zT_gos (f := 200000) (pc2 := 531) (ls2 := [(4, .int 0), (3, .ref 232), (2, .ref 162), (1, .ref 0), (0, .ref 11)]) (st2 := [.int (xs 1), .ref 162, .long 10000]) (h2 := zH0) (dc2 := 117) (ds2 := 29934) 6 rfl ?_
  refine zT_val h1 ?_
  refine zT_call rfl rfl (zT_le (zg0_le 6 xs) zk_o_8) ?_
  refine zT_here (pc2 := 534) rfl ?_
  refine zT_gos (f := 200000) (pc2 := 1811) (ls2 := [(4, .int 6), (3, .ref 232), (2, .ref 162), (1, .ref 0), (0, .ref 11)]) (st2 := [.int 1]) (h2 := zH0) (dc2 := 117) (ds2 := 29934) 11 rfl ?_
  exact zT_ret rfl rfl
set_option maxRecDepth 1000000 in
theorem zk_o_9 : zT zg0 zF zP 213 0 [(0, .ref 162), (1, .int 3)] [] zH0 0 0 (some (.long 0), zH0, 0, 0) := zclosed (n := 369) (by decide +kernel)
set_option maxRecDepth 1000000 in
set_option maxHeartbeats 4000000 in
theorem zo_7_5 (xs : Nat → Int32) (h0 : xs 0 &&& 63 = 7) (h1 : xs 1 = 3) : zDone xs := by
  refine ⟨zH0, 117, 29934, ?_, by decide, by decide⟩
  refine zT_gos (f := 200000) (pc2 := 37) (ls2 := [(4, .int 0), (3, .ref 232), (2, .ref 162), (1, .ref 0), (0, .ref 11)]) (st2 := [.int (xs 0)]) (h2 := zH0) (dc2 := 117) (ds2 := 29934) 9 rfl ?_
  refine zT_gos (f := 200000) (pc2 := 40) (ls2 := [(4, .int 0), (3, .ref 232), (2, .ref 162), (1, .ref 0), (0, .ref 11)]) (st2 := [.int ((xs 0) &&& (63 : Int32))]) (h2 := zH0) (dc2 := 117) (ds2 := 29934) 2 rfl ?_
  refine zT_val h0 ?_
  refine zT_gos (f := 200000) (pc2 := 521) (ls2 := [(4, .int 0), (3, .ref 232), (2, .ref 162), (1, .ref 0), (0, .ref 11)]) (st2 := [.int (xs 1), .ref 0]) (h2 := zH0) (dc2 := 117) (ds2 := 29934) 7 rfl ?_
  refine zT_val h1 ?_
  refine zT_gos (f := 200000) (pc2 := 531) (ls2 := [(4, .int 0), (3, .ref 232), (2, .ref 162), (1, .ref 0), (0, .ref 11)]) (st2 := [.int (xs 1), .ref 162, .long 0]) (h2 := zH0) (dc2 := 117) (ds2 := 29934) 7 rfl ?_
  refine zT_val h1 ?_
  refine zT_call rfl rfl (zT_le (zg0_le 6 xs) zk_o_9) ?_
  refine zT_here (pc2 := 534) rfl ?_
  refine zT_gos (f := 200000) (pc2 := 1811) (ls2 := [(4, .int 6), (3, .ref 232), (2, .ref 162), (1, .ref 0), (0, .ref 11)]) (st2 := [.int 1]) (h2 := zH0) (dc2 := 117) (ds2 := 29934) 11 rfl ?_
  exact zT_ret rfl rfl
set_option maxRecDepth 1000000 in
theorem zk_o_10 : zT zg0 zF zP 213 0 [(0, .ref 162), (1, .int 4)] [] zH0 0 0 (some (.long 0), zH0, 0, 0) := zclosed (n := 369) (by decide +kernel)
set_option maxRecDepth 1000000 in
set_option maxHeartbeats 4000000 in
theorem zo_7_6 (xs : Nat → Int32) (h0 : xs 0 &&& 63 = 7) (h1 : xs 1 = 4) : zDone xs := by
  refine ⟨zH0, 117, 29934, ?_, by decide, by decide⟩
  refine zT_gos (f := 200000) (pc2 := 37) (ls2 := [(4, .int 0), (3, .ref 232), (2, .ref 162), (1, .ref 0), (0, .ref 11)]) (st2 := [.int (xs 0)]) (h2 := zH0) (dc2 := 117) (ds2 := 29934) 9 rfl ?_
  refine zT_gos (f := 200000) (pc2 := 40) (ls2 := [(4, .int 0), (3, .ref 232), (2, .ref 162), (1, .ref 0), (0, .ref 11)]) (st2 := [.int ((xs 0) &&& (63 : Int32))]) (h2 := zH0) (dc2 := 117) (ds2 := 29934) 2 rfl ?_
  refine zT_val h0 ?_
  refine zT_gos (f := 200000) (pc2 := 521) (ls2 := [(4, .int 0), (3, .ref 232), (2, .ref 162), (1, .ref 0), (0, .ref 11)]) (st2 := [.int (xs 1), .ref 0]) (h2 := zH0) (dc2 := 117) (ds2 := 29934) 7 rfl ?_
  refine zT_val h1 ?_
  refine zT_gos (f := 200000) (pc2 := 531) (ls2 := [(4, .int 0), (3, .ref 232), (2, .ref 162), (1, .ref 0), (0, .ref 11)]) (st2 := [.int (xs 1), .ref 162, .long 0]) (h2 := zH0) (dc2 := 117) (ds2 := 29934) 7 rfl ?_
  refine zT_val h1 ?_
  refine zT_call rfl rfl (zT_le (zg0_le 6 xs) zk_o_10) ?_
  refine zT_here (pc2 := 534) rfl ?_
  refine zT_gos (f := 200000) (pc2 := 1811) (ls2 := [(4, .int 6), (3, .ref 232), (2, .ref 162), (1, .ref 0), (0, .ref 11)]) (st2 := [.int 1]) (h2 := zH0) (dc2 := 117) (ds2 := 29934) 11 rfl ?_
  exact zT_ret rfl rfl
set_option maxRecDepth 1000000 in
theorem zk_o_11 : zT zg0 zF zP 213 0 [(0, .ref 162), (1, .int 5)] [] zH0 0 0 (some (.long 0), zH0, 0, 0) := zclosed (n := 369) (by decide +kernel)
set_option maxRecDepth 1000000 in
set_option maxHeartbeats 4000000 in
theorem zo_7_7 (xs : Nat → Int32) (h0 : xs 0 &&& 63 = 7) (h1 : xs 1 = 5) : zDone xs := by
  refine ⟨zH0, 117, 29934, ?_, by decide, by decide⟩
  refine zT_gos (f := 200000) (pc2 := 37) (ls2 := [(4, .int 0), (3, .ref 232), (2, .ref 162), (1, .ref 0), (0, .ref 11)]) (st2 := [.int (xs 0)]) (h2 := zH0) (dc2 := 117) (ds2 := 29934) 9 rfl ?_
  refine zT_gos (f := 200000) (pc2 := 40) (ls2 := [(4, .int 0), (3, .ref 232), (2, .ref 162), (1, .ref 0), (0, .ref 11)]) (st2 := [.int ((xs 0) &&& (63 : Int32))]) (h2 := zH0) (dc2 := 117) (ds2 := 29934) 2 rfl ?_
  refine zT_val h0 ?_
  refine zT_gos (f := 200000) (pc2 := 521) (ls2 := [(4, .int 0), (3, .ref 232), (2, .ref 162), (1, .ref 0), (0, .ref 11)]) (st2 := [.int (xs 1), .ref 0]) (h2 := zH0) (dc2 := 117) (ds2 := 29934) 7 rfl ?_
  refine zT_val h1 ?_
  refine zT_gos (f := 200000) (pc2 := 531) (ls2 := [(4, .int 0), (3, .ref 232), (2, .ref 162), (1, .ref 0), (0, .ref 11)]) (st2 := [.int (xs 1), .ref 162, .long 0]) (h2 := zH0) (dc2 := 117) (ds2 := 29934) 7 rfl ?_
  refine zT_val h1 ?_
  refine zT_call rfl rfl (zT_le (zg0_le 6 xs) zk_o_11) ?_
  refine zT_here (pc2 := 534) rfl ?_
  refine zT_gos (f := 200000) (pc2 := 1811) (ls2 := [(4, .int 6), (3, .ref 232), (2, .ref 162), (1, .ref 0), (0, .ref 11)]) (st2 := [.int 1]) (h2 := zH0) (dc2 := 117) (ds2 := 29934) 11 rfl ?_
  exact zT_ret rfl rfl
set_option maxRecDepth 1000000 in
theorem zk_o_12 : zT zg0 zF zP 213 0 [(0, .ref 162), (1, .int 6)] [] zH0 0 0 (some (.long 22000), zH0, 0, 0) := zclosed (n := 465) (by decide +kernel)
set_option maxRecDepth 1000000 in
set_option maxHeartbeats 4000000 in
theorem zo_7_8 (xs : Nat → Int32) (h0 : xs 0 &&& 63 = 7) (h1 : xs 1 = 6) : zDone xs := by
  refine ⟨zH0, 117, 29934, ?_, by decide, by decide⟩
  refine zT_gos (f := 200000) (pc2 := 37) (ls2 := [(4, .int 0), (3, .ref 232), (2, .ref 162), (1, .ref 0), (0, .ref 11)]) (st2 := [.int (xs 0)]) (h2 := zH0) (dc2 := 117) (ds2 := 29934) 9 rfl ?_
  refine zT_gos (f := 200000) (pc2 := 40) (ls2 := [(4, .int 0), (3, .ref 232), (2, .ref 162), (1, .ref 0), (0, .ref 11)]) (st2 := [.int ((xs 0) &&& (63 : Int32))]) (h2 := zH0) (dc2 := 117) (ds2 := 29934) 2 rfl ?_
  refine zT_val h0 ?_
  refine zT_gos (f := 200000) (pc2 := 521) (ls2 := [(4, .int 0), (3, .ref 232), (2, .ref 162), (1, .ref 0), (0, .ref 11)]) (st2 := [.int (xs 1), .ref 0]) (h2 := zH0) (dc2 := 117) (ds2 := 29934) 7 rfl ?_
  refine zT_val h1 ?_
  refine zT_gos (f := 200000) (pc2 := 531) (ls2 := [(4, .int 0), (3, .ref 232), (2, .ref 162), (1, .ref 0), (0, .ref 11)]) (st2 := [.int (xs 1), .ref 162, .long 22000]) (h2 := zH0) (dc2 := 117) (ds2 := 29934) 7 rfl ?_
  refine zT_val h1 ?_
  refine zT_call rfl rfl (zT_le (zg0_le 6 xs) zk_o_12) ?_
  refine zT_here (pc2 := 534) rfl ?_
  refine zT_gos (f := 200000) (pc2 := 1811) (ls2 := [(4, .int 6), (3, .ref 232), (2, .ref 162), (1, .ref 0), (0, .ref 11)]) (st2 := [.int 1]) (h2 := zH0) (dc2 := 117) (ds2 := 29934) 11 rfl ?_
  exact zT_ret rfl rfl
theorem zop_7 (xs : Nat → Int32) (h0 : xs 0 &&& 63 = 7) : zDone xs := by
  rcases (show (xs 1).toInt < 0 ∨ 6 < (xs 1).toInt ∨ (xs 1).toInt = 0 ∨ (xs 1).toInt = 1 ∨ (xs 1).toInt = 2 ∨ (xs 1).toInt = 3 ∨ (xs 1).toInt = 4 ∨ (xs 1).toInt = 5 ∨ (xs 1).toInt = 6 by omega) with h1 | h1 | h1 | h1 | h1 | h1 | h1 | h1 | h1
  · have h1 := h1
    exact zo_7_0 xs h0 h1
  · have h1 := h1
    exact zo_7_1 xs h0 h1
  · have h1 : xs 1 = 0 := Int32.toInt_inj.mp h1
    exact zo_7_2 xs h0 h1
  · have h1 : xs 1 = 1 := Int32.toInt_inj.mp h1
    exact zo_7_3 xs h0 h1
  · have h1 : xs 1 = 2 := Int32.toInt_inj.mp h1
    exact zo_7_4 xs h0 h1
  · have h1 : xs 1 = 3 := Int32.toInt_inj.mp h1
    exact zo_7_5 xs h0 h1
  · have h1 : xs 1 = 4 := Int32.toInt_inj.mp h1
    exact zo_7_6 xs h0 h1
  · have h1 : xs 1 = 5 := Int32.toInt_inj.mp h1
    exact zo_7_7 xs h0 h1
  · have h1 : xs 1 = 6 := Int32.toInt_inj.mp h1
    exact zo_7_8 xs h0 h1
set_option maxRecDepth 1000000 in
set_option maxHeartbeats 4000000 in
theorem zo_8_0 (xs : Nat → Int32) (h0 : xs 0 &&& 63 = 8) (h1 : (xs 1).toInt < 0) : zDone xs := by
  refine ⟨zH0, 117, 29934, ?_, by decide, by decide⟩
  refine zT_gos (f := 200000) (pc2 := 37) (ls2 := [(4, .int 0), (3, .ref 232), (2, .ref 162), (1, .ref 0), (0, .ref 11)]) (st2 := [.int (xs 0)]) (h2 := zH0) (dc2 := 117) (ds2 := 29934) 9 rfl ?_
  refine zT_gos (f := 200000) (pc2 := 40) (ls2 := [(4, .int 0), (3, .ref 232), (2, .ref 162), (1, .ref 0), (0, .ref 11)]) (st2 := [.int ((xs 0) &&& (63 : Int32))]) (h2 := zH0) (dc2 := 117) (ds2 := 29934) 2 rfl ?_
  refine zT_val h0 ?_
  refine zT_gos (f := 200000) (pc2 := 547) (ls2 := [(4, .int 0), (3, .ref 232), (2, .ref 162), (1, .ref 0), (0, .ref 11)]) (st2 := [.int (xs 1), .ref 0]) (h2 := zH0) (dc2 := 117) (ds2 := 29934) 7 rfl ?_
  refine zT_call (v := some (.int (-9))) (h2 := zH0) (d1 := 0) (s1 := 0) rfl rfl ?_ ?_
  · refine zT_gos (f := 200000) (pc2 := 2) (ls2 := [(0, .ref 0), (1, .int (xs 1))]) (st2 := [.int 3, .int (xs 1)]) (h2 := zH0) (dc2 := 0) (ds2 := 0) 2 rfl ?_
    refine zT_if2 true rfl (zc_ne_t (by show ((xs 1) : Int32).toInt ≠ 3; omega)) ?_
    refine zT_here (pc2 := 19) rfl ?_
    refine zT_gos (f := 200000) (pc2 := 24) (ls2 := [(0, .ref 0), (1, .int (xs 1))]) (st2 := [.int (xs 1), .long 70644700037184]) (h2 := zH0) (dc2 := 0) (ds2 := 0) 3 rfl ?_
    refine zT_call (v := some (.int (-9))) (h2 := zH0) (d1 := 0) (s1 := 0) rfl rfl ?_ ?_
    · refine zT_gos (f := 200000) (pc2 := 1) (ls2 := [(0, .long 70644700037184), (2, .int (xs 1))]) (st2 := [.int (xs 1)]) (h2 := zH0) (dc2 := 0) (ds2 := 0) 1 rfl ?_
      refine zT_tabo rfl (by show ((xs 1)).toInt < 0 ∨ 2 < ((xs 1)).toInt; omega) ?_
      refine zT_here (pc2 := 43) rfl ?_
      refine zT_gos (f := 200000) (pc2 := 45) (ls2 := [(0, .long 70644700037184), (2, .int (xs 1))]) (st2 := [.int (-9)]) (h2 := zH0) (dc2 := 0) (ds2 := 0) 1 rfl ?_
      exact zT_ret rfl rfl
    refine zT_here (pc2 := 27) rfl ?_
    exact zT_ret rfl rfl
  refine zT_here (pc2 := 550) rfl ?_
  refine zT_gos (f := 200000) (pc2 := 557) (ls2 := [(4, .int 0), (3, .ref 232), (2, .ref 162), (1, .ref 0), (0, .ref 11)]) (st2 := [.int (xs 1), .ref 162, .int (-9)]) (h2 := zH0) (dc2 := 117) (ds2 := 29934) 6 rfl ?_
  refine zT_call (v := some (.int (-9))) (h2 := zH0) (d1 := 0) (s1 := 0) rfl rfl ?_ ?_
  · refine zT_gos (f := 200000) (pc2 := 6) (ls2 := [(0, .ref 162), (1, .int (xs 1))]) (st2 := [.int (xs 1)]) (h2 := zH0) (dc2 := 0) (ds2 := 0) 4 rfl ?_
    refine zT_if0 true rfl (zc_ne_t (by show ((xs 1) : Int32).toInt ≠ 0; omega)) ?_
    refine zT_here (pc2 := 20) rfl ?_
    refine zT_gos (f := 200000) (pc2 := 22) (ls2 := [(0, .ref 162), (1, .int (xs 1))]) (st2 := [.int 1, .int (xs 1)]) (h2 := zH0) (dc2 := 0) (ds2 := 0) 2 rfl ?_
    refine zT_if2 true rfl (zc_ne_t (by show ((xs 1) : Int32).toInt ≠ 1; omega)) ?_
    refine zT_here (pc2 := 36) rfl ?_
    refine zT_gos (f := 200000) (pc2 := 38) (ls2 := [(0, .ref 162), (1, .int (xs 1))]) (st2 := [.int 2, .int (xs 1)]) (h2 := zH0) (dc2 := 0) (ds2 := 0) 2 rfl ?_
    refine zT_if2 true rfl (zc_ne_t (by show ((xs 1) : Int32).toInt ≠ 2; omega)) ?_
    refine zT_here (pc2 := 52) rfl ?_
    refine zT_gos (f := 200000) (pc2 := 54) (ls2 := [(0, .ref 162), (1, .int (xs 1))]) (st2 := [.int 3, .int (xs 1)]) (h2 := zH0) (dc2 := 0) (ds2 := 0) 2 rfl ?_
    refine zT_if2 true rfl (zc_ne_t (by show ((xs 1) : Int32).toInt ≠ 3; omega)) ?_
    refine zT_here (pc2 := 64) rfl ?_
    refine zT_gos (f := 200000) (pc2 := 66) (ls2 := [(0, .ref 162), (1, .int (xs 1))]) (st2 := [.int (-9)]) (h2 := zH0) (dc2 := 0) (ds2 := 0) 1 rfl ?_
    exact zT_ret rfl rfl
  refine zT_here (pc2 := 560) rfl ?_
  refine zT_gos (f := 200000) (pc2 := 1811) (ls2 := [(4, .int 6), (3, .ref 232), (2, .ref 162), (1, .ref 0), (0, .ref 11)]) (st2 := [.int 1]) (h2 := zH0) (dc2 := 117) (ds2 := 29934) 10 rfl ?_
  exact zT_ret rfl rfl
set_option maxRecDepth 1000000 in
set_option maxHeartbeats 4000000 in
theorem zo_8_1 (xs : Nat → Int32) (h0 : xs 0 &&& 63 = 8) (h1 : 3 < (xs 1).toInt) : zDone xs := by
  refine ⟨zH0, 117, 29934, ?_, by decide, by decide⟩
  refine zT_gos (f := 200000) (pc2 := 37) (ls2 := [(4, .int 0), (3, .ref 232), (2, .ref 162), (1, .ref 0), (0, .ref 11)]) (st2 := [.int (xs 0)]) (h2 := zH0) (dc2 := 117) (ds2 := 29934) 9 rfl ?_
  refine zT_gos (f := 200000) (pc2 := 40) (ls2 := [(4, .int 0), (3, .ref 232), (2, .ref 162), (1, .ref 0), (0, .ref 11)]) (st2 := [.int ((xs 0) &&& (63 : Int32))]) (h2 := zH0) (dc2 := 117) (ds2 := 29934) 2 rfl ?_
  refine zT_val h0 ?_
  refine zT_gos (f := 200000) (pc2 := 547) (ls2 := [(4, .int 0), (3, .ref 232), (2, .ref 162), (1, .ref 0), (0, .ref 11)]) (st2 := [.int (xs 1), .ref 0]) (h2 := zH0) (dc2 := 117) (ds2 := 29934) 7 rfl ?_
  refine zT_call (v := some (.int (-9))) (h2 := zH0) (d1 := 0) (s1 := 0) rfl rfl ?_ ?_
  · refine zT_gos (f := 200000) (pc2 := 2) (ls2 := [(0, .ref 0), (1, .int (xs 1))]) (st2 := [.int 3, .int (xs 1)]) (h2 := zH0) (dc2 := 0) (ds2 := 0) 2 rfl ?_
    refine zT_if2 true rfl (zc_ne_t (by show ((xs 1) : Int32).toInt ≠ 3; omega)) ?_
    refine zT_here (pc2 := 19) rfl ?_
    refine zT_gos (f := 200000) (pc2 := 24) (ls2 := [(0, .ref 0), (1, .int (xs 1))]) (st2 := [.int (xs 1), .long 70644700037184]) (h2 := zH0) (dc2 := 0) (ds2 := 0) 3 rfl ?_
    refine zT_call (v := some (.int (-9))) (h2 := zH0) (d1 := 0) (s1 := 0) rfl rfl ?_ ?_
    · refine zT_gos (f := 200000) (pc2 := 1) (ls2 := [(0, .long 70644700037184), (2, .int (xs 1))]) (st2 := [.int (xs 1)]) (h2 := zH0) (dc2 := 0) (ds2 := 0) 1 rfl ?_
      refine zT_tabo rfl (by show ((xs 1)).toInt < 0 ∨ 2 < ((xs 1)).toInt; omega) ?_
      refine zT_here (pc2 := 43) rfl ?_
      refine zT_gos (f := 200000) (pc2 := 45) (ls2 := [(0, .long 70644700037184), (2, .int (xs 1))]) (st2 := [.int (-9)]) (h2 := zH0) (dc2 := 0) (ds2 := 0) 1 rfl ?_
      exact zT_ret rfl rfl
    refine zT_here (pc2 := 27) rfl ?_
    exact zT_ret rfl rfl
  refine zT_here (pc2 := 550) rfl ?_
  refine zT_gos (f := 200000) (pc2 := 557) (ls2 := [(4, .int 0), (3, .ref 232), (2, .ref 162), (1, .ref 0), (0, .ref 11)]) (st2 := [.int (xs 1), .ref 162, .int (-9)]) (h2 := zH0) (dc2 := 117) (ds2 := 29934) 6 rfl ?_
  refine zT_call (v := some (.int (-9))) (h2 := zH0) (d1 := 0) (s1 := 0) rfl rfl ?_ ?_
  · refine zT_gos (f := 200000) (pc2 := 6) (ls2 := [(0, .ref 162), (1, .int (xs 1))]) (st2 := [.int (xs 1)]) (h2 := zH0) (dc2 := 0) (ds2 := 0) 4 rfl ?_
    refine zT_if0 true rfl (zc_ne_t (by show ((xs 1) : Int32).toInt ≠ 0; omega)) ?_
    refine zT_here (pc2 := 20) rfl ?_
    refine zT_gos (f := 200000) (pc2 := 22) (ls2 := [(0, .ref 162), (1, .int (xs 1))]) (st2 := [.int 1, .int (xs 1)]) (h2 := zH0) (dc2 := 0) (ds2 := 0) 2 rfl ?_
    refine zT_if2 true rfl (zc_ne_t (by show ((xs 1) : Int32).toInt ≠ 1; omega)) ?_
    refine zT_here (pc2 := 36) rfl ?_
    refine zT_gos (f := 200000) (pc2 := 38) (ls2 := [(0, .ref 162), (1, .int (xs 1))]) (st2 := [.int 2, .int (xs 1)]) (h2 := zH0) (dc2 := 0) (ds2 := 0) 2 rfl ?_
    refine zT_if2 true rfl (zc_ne_t (by show ((xs 1) : Int32).toInt ≠ 2; omega)) ?_
    refine zT_here (pc2 := 52) rfl ?_
    refine zT_gos (f := 200000) (pc2 := 54) (ls2 := [(0, .ref 162), (1, .int (xs 1))]) (st2 := [.int 3, .int (xs 1)]) (h2 := zH0) (dc2 := 0) (ds2 := 0) 2 rfl ?_
    refine zT_if2 true rfl (zc_ne_t (by show ((xs 1) : Int32).toInt ≠ 3; omega)) ?_
    refine zT_here (pc2 := 64) rfl ?_
    refine zT_gos (f := 200000) (pc2 := 66) (ls2 := [(0, .ref 162), (1, .int (xs 1))]) (st2 := [.int (-9)]) (h2 := zH0) (dc2 := 0) (ds2 := 0) 1 rfl ?_
    exact zT_ret rfl rfl
  refine zT_here (pc2 := 560) rfl ?_
  refine zT_gos (f := 200000) (pc2 := 1811) (ls2 := [(4, .int 6), (3, .ref 232), (2, .ref 162), (1, .ref 0), (0, .ref 11)]) (st2 := [.int 1]) (h2 := zH0) (dc2 := 117) (ds2 := 29934) 10 rfl ?_
  exact zT_ret rfl rfl
set_option maxRecDepth 1000000 in
set_option maxHeartbeats 4000000 in
theorem zo_8_2 (xs : Nat → Int32) (h0 : xs 0 &&& 63 = 8) (h1 : xs 1 = 0) : zDone xs := by
  refine ⟨zH0, 117, 29934, ?_, by decide, by decide⟩
  refine zT_gos (f := 200000) (pc2 := 37) (ls2 := [(4, .int 0), (3, .ref 232), (2, .ref 162), (1, .ref 0), (0, .ref 11)]) (st2 := [.int (xs 0)]) (h2 := zH0) (dc2 := 117) (ds2 := 29934) 9 rfl ?_
  refine zT_gos (f := 200000) (pc2 := 40) (ls2 := [(4, .int 0), (3, .ref 232), (2, .ref 162), (1, .ref 0), (0, .ref 11)]) (st2 := [.int ((xs 0) &&& (63 : Int32))]) (h2 := zH0) (dc2 := 117) (ds2 := 29934) 2 rfl ?_
  refine zT_val h0 ?_
  refine zT_gos (f := 200000) (pc2 := 547) (ls2 := [(4, .int 0), (3, .ref 232), (2, .ref 162), (1, .ref 0), (0, .ref 11)]) (st2 := [.int (xs 1), .ref 0]) (h2 := zH0) (dc2 := 117) (ds2 := 29934) 7 rfl ?_
  refine zT_val h1 ?_
  refine zT_gos (f := 200000) (pc2 := 557) (ls2 := [(4, .int 0), (3, .ref 232), (2, .ref 162), (1, .ref 0), (0, .ref 11)]) (st2 := [.int (xs 1), .ref 162, .int 0]) (h2 := zH0) (dc2 := 117) (ds2 := 29934) 7 rfl ?_
  refine zT_val h1 ?_
  refine zT_gos (f := 200000) (pc2 := 1811) (ls2 := [(4, .int 6), (3, .ref 232), (2, .ref 162), (1, .ref 0), (0, .ref 11)]) (st2 := [.int 1]) (h2 := zH0) (dc2 := 117) (ds2 := 29934) 11 rfl ?_
  exact zT_ret rfl rfl
set_option maxRecDepth 1000000 in
set_option maxHeartbeats 4000000 in
theorem zo_8_3 (xs : Nat → Int32) (h0 : xs 0 &&& 63 = 8) (h1 : xs 1 = 1) : zDone xs := by
  refine ⟨zH0, 117, 29934, ?_, by decide, by decide⟩
  refine zT_gos (f := 200000) (pc2 := 37) (ls2 := [(4, .int 0), (3, .ref 232), (2, .ref 162), (1, .ref 0), (0, .ref 11)]) (st2 := [.int (xs 0)]) (h2 := zH0) (dc2 := 117) (ds2 := 29934) 9 rfl ?_
  refine zT_gos (f := 200000) (pc2 := 40) (ls2 := [(4, .int 0), (3, .ref 232), (2, .ref 162), (1, .ref 0), (0, .ref 11)]) (st2 := [.int ((xs 0) &&& (63 : Int32))]) (h2 := zH0) (dc2 := 117) (ds2 := 29934) 2 rfl ?_
  refine zT_val h0 ?_
  refine zT_gos (f := 200000) (pc2 := 547) (ls2 := [(4, .int 0), (3, .ref 232), (2, .ref 162), (1, .ref 0), (0, .ref 11)]) (st2 := [.int (xs 1), .ref 0]) (h2 := zH0) (dc2 := 117) (ds2 := 29934) 7 rfl ?_
  refine zT_val h1 ?_
  refine zT_gos (f := 200000) (pc2 := 557) (ls2 := [(4, .int 0), (3, .ref 232), (2, .ref 162), (1, .ref 0), (0, .ref 11)]) (st2 := [.int (xs 1), .ref 162, .int 0]) (h2 := zH0) (dc2 := 117) (ds2 := 29934) 7 rfl ?_
  refine zT_val h1 ?_
  refine zT_gos (f := 200000) (pc2 := 1811) (ls2 := [(4, .int 6), (3, .ref 232), (2, .ref 162), (1, .ref 0), (0, .ref 11)]) (st2 := [.int 1]) (h2 := zH0) (dc2 := 117) (ds2 := 29934) 11 rfl ?_
  exact zT_ret rfl rfl
set_option maxRecDepth 1000000 in
set_option maxHeartbeats 4000000 in
theorem zo_8_4 (xs : Nat → Int32) (h0 : xs 0 &&& 63 = 8) (h1 : xs 1 = 2) : zDone xs := by
  refine ⟨zH0, 117, 29934, ?_, by decide, by decide⟩
  refine zT_gos (f := 200000) (pc2 := 37) (ls2 := [(4, .int 0), (3, .ref 232), (2, .ref 162), (1, .ref 0), (0, .ref 11)]) (st2 := [.int (xs 0)]) (h2 := zH0) (dc2 := 117) (ds2 := 29934) 9 rfl ?_
  refine zT_gos (f := 200000) (pc2 := 40) (ls2 := [(4, .int 0), (3, .ref 232), (2, .ref 162), (1, .ref 0), (0, .ref 11)]) (st2 := [.int ((xs 0) &&& (63 : Int32))]) (h2 := zH0) (dc2 := 117) (ds2 := 29934) 2 rfl ?_
  refine zT_val h0 ?_
  refine zT_gos (f := 200000) (pc2 := 547) (ls2 := [(4, .int 0), (3, .ref 232), (2, .ref 162), (1, .ref 0), (0, .ref 11)]) (st2 := [.int (xs 1), .ref 0]) (h2 := zH0) (dc2 := 117) (ds2 := 29934) 7 rfl ?_
  refine zT_val h1 ?_
  refine zT_gos (f := 200000) (pc2 := 557) (ls2 := [(4, .int 0), (3, .ref 232), (2, .ref 162), (1, .ref 0), (0, .ref 11)]) (st2 := [.int (xs 1), .ref 162, .int 0]) (h2 := zH0) (dc2 := 117) (ds2 := 29934) 7 rfl ?_
  refine zT_val h1 ?_
  refine zT_gos (f := 200000) (pc2 := 1811) (ls2 := [(4, .int 6), (3, .ref 232), (2, .ref 162), (1, .ref 0), (0, .ref 11)]) (st2 := [.int 1]) (h2 := zH0) (dc2 := 117) (ds2 := 29934) 11 rfl ?_
  exact zT_ret rfl rfl
set_option maxRecDepth 1000000 in
theorem zk_o_13 : zT zg0 zF zP 109 0 [(0, .ref 0), (1, .int 3)] [] zH0 0 0 (some (.int 0), zH0, 0, 0) := zclosed (n := 279) (by decide +kernel)
set_option maxRecDepth 1000000 in
theorem zk_o_14 : zT zg0 zF zP 215 0 [(0, .ref 162), (1, .int 3)] [] zH0 0 0 (some (.int 0), zH0, 0, 0) := zclosed (n := 245) (by decide +kernel)
set_option maxRecDepth 1000000 in
set_option maxHeartbeats 4000000 in
theorem zo_8_5 (xs : Nat → Int32) (h0 : xs 0 &&& 63 = 8) (h1 : xs 1 = 3) : zDone xs := by
  refine ⟨zH0, 117, 29934, ?_, by decide, by decide⟩
  refine zT_gos (f := 200000) (pc2 := 37) (ls2 := [(4, .int 0), (3, .ref 232), (2, .ref 162), (1, .ref 0), (0, .ref 11)]) (st2 := [.int (xs 0)]) (h2 := zH0) (dc2 := 117) (ds2 := 29934) 9 rfl ?_
  refine zT_gos (f := 200000) (pc2 := 40) (ls2 := [(4, .int 0), (3, .ref 232), (2, .ref 162), (1, .ref 0), (0, .ref 11)]) (st2 := [.int ((xs 0) &&& (63 : Int32))]) (h2 := zH0) (dc2 := 117) (ds2 := 29934) 2 rfl ?_
  refine zT_val h0 ?_
  refine zT_gos (f := 200000) (pc2 := 547) (ls2 := [(4, .int 0), (3, .ref 232), (2, .ref 162), (1, .ref 0), (0, .ref 11)]) (st2 := [.int (xs 1), .ref 0]) (h2 := zH0) (dc2 := 117) (ds2 := 29934) 7 rfl ?_
  refine zT_val h1 ?_
  refine zT_call rfl rfl (zT_le (zg0_le 6 xs) zk_o_13) ?_
  refine zT_here (pc2 := 550) rfl ?_
  refine zT_gos (f := 200000) (pc2 := 557) (ls2 := [(4, .int 0), (3, .ref 232), (2, .ref 162), (1, .ref 0), (0, .ref 11)]) (st2 := [.int (xs 1), .ref 162, .int 0]) (h2 := zH0) (dc2 := 117) (ds2 := 29934) 6 rfl ?_
  refine zT_val h1 ?_
  refine zT_call rfl rfl (zT_le (zg0_le 6 xs) zk_o_14) ?_
  refine zT_here (pc2 := 560) rfl ?_
  refine zT_gos (f := 200000) (pc2 := 1811) (ls2 := [(4, .int 6), (3, .ref 232), (2, .ref 162), (1, .ref 0), (0, .ref 11)]) (st2 := [.int 1]) (h2 := zH0) (dc2 := 117) (ds2 := 29934) 10 rfl ?_
  exact zT_ret rfl rfl
theorem zop_8 (xs : Nat → Int32) (h0 : xs 0 &&& 63 = 8) : zDone xs := by
  rcases (show (xs 1).toInt < 0 ∨ 3 < (xs 1).toInt ∨ (xs 1).toInt = 0 ∨ (xs 1).toInt = 1 ∨ (xs 1).toInt = 2 ∨ (xs 1).toInt = 3 by omega) with h1 | h1 | h1 | h1 | h1 | h1
  · have h1 := h1
    exact zo_8_0 xs h0 h1
  · have h1 := h1
    exact zo_8_1 xs h0 h1
  · have h1 : xs 1 = 0 := Int32.toInt_inj.mp h1
    exact zo_8_2 xs h0 h1
  · have h1 : xs 1 = 1 := Int32.toInt_inj.mp h1
    exact zo_8_3 xs h0 h1
  · have h1 : xs 1 = 2 := Int32.toInt_inj.mp h1
    exact zo_8_4 xs h0 h1
  · have h1 : xs 1 = 3 := Int32.toInt_inj.mp h1
    exact zo_8_5 xs h0 h1
set_option maxRecDepth 1000000 in
set_option maxHeartbeats 4000000 in
theorem zo_9_0 (xs : Nat → Int32) (h0 : xs 0 &&& 63 = 9) (h1 : (xs 1).toInt < 0) : zDone xs := by
  refine ⟨zH0, 117, 29934, ?_, by decide, by decide⟩
  refine zT_gos (f := 200000) (pc2 := 37) (ls2 := [(4, .int 0), (3, .ref 232), (2, .ref 162), (1, .ref 0), (0, .ref 11)]) (st2 := [.int (xs 0)]) (h2 := zH0) (dc2 := 117) (ds2 := 29934) 9 rfl ?_
  refine zT_gos (f := 200000) (pc2 := 40) (ls2 := [(4, .int 0), (3, .ref 232), (2, .ref 162), (1, .ref 0), (0, .ref 11)]) (st2 := [.int ((xs 0) &&& (63 : Int32))]) (h2 := zH0) (dc2 := 117) (ds2 := 29934) 2 rfl ?_
  refine zT_val h0 ?_
  refine zT_gos (f := 200000) (pc2 := 572) (ls2 := [(4, .int 0), (3, .ref 232), (2, .ref 162), (1, .ref 0), (0, .ref 11)]) (st2 := [.int (xs 1), .ref 0]) (h2 := zH0) (dc2 := 117) (ds2 := 29934) 7 rfl ?_
  refine zT_call (v := some (.long 0)) (h2 := zH0) (d1 := 0) (s1 := 0) rfl rfl ?_ ?_
  · refine zT_gos (f := 200000) (pc2 := 1) (ls2 := [(0, .ref 0), (1, .int (xs 1))]) (st2 := [.int (xs 1)]) (h2 := zH0) (dc2 := 0) (ds2 := 0) 1 rfl ?_
    refine zT_if0 true rfl (zc_lt_t (by show ((xs 1) : Int32).toInt < 0; omega)) ?_
    refine zT_here (pc2 := 9) rfl ?_
    refine zT_gos (f := 200000) (pc2 := 20) (ls2 := [(0, .ref 0), (1, .int (xs 1))]) (st2 := [.long 0]) (h2 := zH0) (dc2 := 0) (ds2 := 0) 2 rfl ?_
    exact zT_ret rfl rfl
  refine zT_here (pc2 := 575) rfl ?_
  refine zT_gos (f := 200000) (pc2 := 582) (ls2 := [(4, .int 0), (3, .ref 232), (2, .ref 162), (1, .ref 0), (0, .ref 11)]) (st2 := [.int (xs 1), .ref 162, .long 0]) (h2 := zH0) (dc2 := 117) (ds2 := 29934) 6 rfl ?_
  refine zT_call (v := some (.long 0)) (h2 := zH0) (d1 := 0) (s1 := 0) rfl rfl ?_ ?_
  · refine zT_gos (f := 200000) (pc2 := 6) (ls2 := [(0, .ref 162), (1, .int (xs 1))]) (st2 := [.int (xs 1)]) (h2 := zH0) (dc2 := 0) (ds2 := 0) 4 rfl ?_
    refine zT_if0 true rfl (zc_lt_t (by show ((xs 1) : Int32).toInt < 0; omega)) ?_
    refine zT_here (pc2 := 25) rfl ?_
    refine zT_gos (f := 200000) (pc2 := 26) (ls2 := [(0, .ref 162), (1, .int (xs 1))]) (st2 := [.long 0]) (h2 := zH0) (dc2 := 0) (ds2 := 0) 1 rfl ?_
    exact zT_ret rfl rfl
  refine zT_here (pc2 := 585) rfl ?_
  refine zT_gos (f := 200000) (pc2 := 1811) (ls2 := [(4, .int 6), (3, .ref 232), (2, .ref 162), (1, .ref 0), (0, .ref 11)]) (st2 := [.int 1]) (h2 := zH0) (dc2 := 117) (ds2 := 29934) 11 rfl ?_
  exact zT_ret rfl rfl
set_option maxRecDepth 1000000 in
set_option maxHeartbeats 4000000 in
theorem zo_9_1 (xs : Nat → Int32) (h0 : xs 0 &&& 63 = 9) (h1 : 5 < (xs 1).toInt) : zDone xs := by
  refine ⟨zH0, 117, 29934, ?_, by decide, by decide⟩
  refine zT_gos (f := 200000) (pc2 := 37) (ls2 := [(4, .int 0), (3, .ref 232), (2, .ref 162), (1, .ref 0), (0, .ref 11)]) (st2 := [.int (xs 0)]) (h2 := zH0) (dc2 := 117) (ds2 := 29934) 9 rfl ?_
  refine zT_gos (f := 200000) (pc2 := 40) (ls2 := [(4, .int 0), (3, .ref 232), (2, .ref 162), (1, .ref 0), (0, .ref 11)]) (st2 := [.int ((xs 0) &&& (63 : Int32))]) (h2 := zH0) (dc2 := 117) (ds2 := 29934) 2 rfl ?_
  refine zT_val h0 ?_
  refine zT_gos (f := 200000) (pc2 := 572) (ls2 := [(4, .int 0), (3, .ref 232), (2, .ref 162), (1, .ref 0), (0, .ref 11)]) (st2 := [.int (xs 1), .ref 0]) (h2 := zH0) (dc2 := 117) (ds2 := 29934) 7 rfl ?_
  refine zT_call (v := some (.long 0)) (h2 := zH0) (d1 := 0) (s1 := 0) rfl rfl ?_ ?_
  · refine zT_gos (f := 200000) (pc2 := 1) (ls2 := [(0, .ref 0), (1, .int (xs 1))]) (st2 := [.int (xs 1)]) (h2 := zH0) (dc2 := 0) (ds2 := 0) 1 rfl ?_
    refine zT_if0 false rfl (zc_lt_f (by show ((xs 1) : Int32).toInt ≥ 0; omega)) ?_
    refine zT_here (pc2 := 4) rfl ?_
    refine zT_gos (f := 200000) (pc2 := 6) (ls2 := [(0, .ref 0), (1, .int (xs 1))]) (st2 := [.int 5, .int (xs 1)]) (h2 := zH0) (dc2 := 0) (ds2 := 0) 2 rfl ?_
    refine zT_if2 false rfl (zc_le_f (by show ((xs 1) : Int32).toInt > 5; omega)) ?_
    refine zT_here (pc2 := 9) rfl ?_
    refine zT_gos (f := 200000) (pc2 := 20) (ls2 := [(0, .ref 0), (1, .int (xs 1))]) (st2 := [.long 0]) (h2 := zH0) (dc2 := 0) (ds2 := 0) 2 rfl ?_
    exact zT_ret rfl rfl
  refine zT_here (pc2 := 575) rfl ?_
  refine zT_gos (f := 200000) (pc2 := 582) (ls2 := [(4, .int 0), (3, .ref 232), (2, .ref 162), (1, .ref 0), (0, .ref 11)]) (st2 := [.int (xs 1), .ref 162, .long 0]) (h2 := zH0) (dc2 := 117) (ds2 := 29934) 6 rfl ?_
  refine zT_call (v := some (.long 0)) (h2 := zH0) (d1 := 0) (s1 := 0) rfl rfl ?_ ?_
  · refine zT_gos (f := 200000) (pc2 := 6) (ls2 := [(0, .ref 162), (1, .int (xs 1))]) (st2 := [.int (xs 1)]) (h2 := zH0) (dc2 := 0) (ds2 := 0) 4 rfl ?_
    refine zT_if0 false rfl (zc_lt_f (by show ((xs 1) : Int32).toInt ≥ 0; omega)) ?_
    refine zT_here (pc2 := 9) rfl ?_
    refine zT_gos (f := 200000) (pc2 := 12) (ls2 := [(0, .ref 162), (1, .int (xs 1))]) (st2 := [.int 6, .int (xs 1)]) (h2 := zH0) (dc2 := 0) (ds2 := 0) 2 rfl ?_
    refine zT_if2 true rfl (zc_ge_t (by show ((xs 1) : Int32).toInt ≥ 6; omega)) ?_
    refine zT_here (pc2 := 25) rfl ?_
    refine zT_gos (f := 200000) (pc2 := 26) (ls2 := [(0, .ref 162), (1, .int (xs 1))]) (st2 := [.long 0]) (h2 := zH0) (dc2 := 0) (ds2 := 0) 1 rfl ?_
    exact zT_ret rfl rfl
  refine zT_here (pc2 := 585) rfl ?_
  refine zT_gos (f := 200000) (pc2 := 1811) (ls2 := [(4, .int 6), (3, .ref 232), (2, .ref 162), (1, .ref 0), (0, .ref 11)]) (st2 := [.int 1]) (h2 := zH0) (dc2 := 117) (ds2 := 29934) 11 rfl ?_
  exact zT_ret rfl rfl
set_option maxRecDepth 1000000 in
set_option maxHeartbeats 4000000 in
theorem zo_9_2 (xs : Nat → Int32) (h0 : xs 0 &&& 63 = 9) (h1 : xs 1 = 0) : zDone xs := by
  refine ⟨zH0, 117, 29934, ?_, by decide, by decide⟩
  refine zT_gos (f := 200000) (pc2 := 37) (ls2 := [(4, .int 0), (3, .ref 232), (2, .ref 162), (1, .ref 0), (0, .ref 11)]) (st2 := [.int (xs 0)]) (h2 := zH0) (dc2 := 117) (ds2 := 29934) 9 rfl ?_
  refine zT_gos (f := 200000) (pc2 := 40) (ls2 := [(4, .int 0), (3, .ref 232), (2, .ref 162), (1, .ref 0), (0, .ref 11)]) (st2 := [.int ((xs 0) &&& (63 : Int32))]) (h2 := zH0) (dc2 := 117) (ds2 := 29934) 2 rfl ?_
  refine zT_val h0 ?_
  refine zT_gos (f := 200000) (pc2 := 572) (ls2 := [(4, .int 0), (3, .ref 232), (2, .ref 162), (1, .ref 0), (0, .ref 11)]) (st2 := [.int (xs 1), .ref 0]) (h2 := zH0) (dc2 := 117) (ds2 := 29934) 7 rfl ?_
  refine zT_val h1 ?_
  refine zT_gos (f := 200000) (pc2 := 582) (ls2 := [(4, .int 0), (3, .ref 232), (2, .ref 162), (1, .ref 0), (0, .ref 11)]) (st2 := [.int (xs 1), .ref 162, .long 22000000]) (h2 := zH0) (dc2 := 117) (ds2 := 29934) 7 rfl ?_
  refine zT_val h1 ?_
  refine zT_gos (f := 200000) (pc2 := 1811) (ls2 := [(4, .int 6), (3, .ref 232), (2, .ref 162), (1, .ref 0), (0, .ref 11)]) (st2 := [.int 1]) (h2 := zH0) (dc2 := 117) (ds2 := 29934) 12 rfl ?_
  exact zT_ret rfl rfl
set_option maxRecDepth 1000000 in
set_option maxHeartbeats 4000000 in
theorem zo_9_3 (xs : Nat → Int32) (h0 : xs 0 &&& 63 = 9) (h1 : xs 1 = 1) : zDone xs := by
  refine ⟨zH0, 117, 29934, ?_, by decide, by decide⟩
  refine zT_gos (f := 200000) (pc2 := 37) (ls2 := [(4, .int 0), (3, .ref 232), (2, .ref 162), (1, .ref 0), (0, .ref 11)]) (st2 := [.int (xs 0)]) (h2 := zH0) (dc2 := 117) (ds2 := 29934) 9 rfl ?_
  refine zT_gos (f := 200000) (pc2 := 40) (ls2 := [(4, .int 0), (3, .ref 232), (2, .ref 162), (1, .ref 0), (0, .ref 11)]) (st2 := [.int ((xs 0) &&& (63 : Int32))]) (h2 := zH0) (dc2 := 117) (ds2 := 29934) 2 rfl ?_
  refine zT_val h0 ?_
  refine zT_gos (f := 200000) (pc2 := 572) (ls2 := [(4, .int 0), (3, .ref 232), (2, .ref 162), (1, .ref 0), (0, .ref 11)]) (st2 := [.int (xs 1), .ref 0]) (h2 := zH0) (dc2 := 117) (ds2 := 29934) 7 rfl ?_
  refine zT_val h1 ?_
  refine zT_gos (f := 200000) (pc2 := 582) (ls2 := [(4, .int 0), (3, .ref 232), (2, .ref 162), (1, .ref 0), (0, .ref 11)]) (st2 := [.int (xs 1), .ref 162, .long 0]) (h2 := zH0) (dc2 := 117) (ds2 := 29934) 7 rfl ?_
  refine zT_val h1 ?_
  refine zT_gos (f := 200000) (pc2 := 1811) (ls2 := [(4, .int 6), (3, .ref 232), (2, .ref 162), (1, .ref 0), (0, .ref 11)]) (st2 := [.int 1]) (h2 := zH0) (dc2 := 117) (ds2 := 29934) 12 rfl ?_
  exact zT_ret rfl rfl
set_option maxRecDepth 1000000 in
set_option maxHeartbeats 4000000 in
theorem zo_9_4 (xs : Nat → Int32) (h0 : xs 0 &&& 63 = 9) (h1 : xs 1 = 2) : zDone xs := by
  refine ⟨zH0, 117, 29934, ?_, by decide, by decide⟩
  refine zT_gos (f := 200000) (pc2 := 37) (ls2 := [(4, .int 0), (3, .ref 232), (2, .ref 162), (1, .ref 0), (0, .ref 11)]) (st2 := [.int (xs 0)]) (h2 := zH0) (dc2 := 117) (ds2 := 29934) 9 rfl ?_
  refine zT_gos (f := 200000) (pc2 := 40) (ls2 := [(4, .int 0), (3, .ref 232), (2, .ref 162), (1, .ref 0), (0, .ref 11)]) (st2 := [.int ((xs 0) &&& (63 : Int32))]) (h2 := zH0) (dc2 := 117) (ds2 := 29934) 2 rfl ?_
  refine zT_val h0 ?_
  refine zT_gos (f := 200000) (pc2 := 572) (ls2 := [(4, .int 0), (3, .ref 232), (2, .ref 162), (1, .ref 0), (0, .ref 11)]) (st2 := [.int (xs 1), .ref 0]) (h2 := zH0) (dc2 := 117) (ds2 := 29934) 7 rfl ?_
  refine zT_val h1 ?_
  refine zT_gos (f := 200000) (pc2 := 582) (ls2 := [(4, .int 0), (3, .ref 232), (2, .ref 162), (1, .ref 0), (0, .ref 11)]) (st2 := [.int (xs 1), .ref 162, .long 10000]) (h2 := zH0) (dc2 := 117) (ds2 := 29934) 7 rfl ?_
  refine zT_val h1 ?_
  refine zT_gos (f := 200000) (pc2 := 1811) (ls2 := [(4, .int 6), (3, .ref 232), (2, .ref 162), (1, .ref 0), (0, .ref 11)]) (st2 := [.int 1]) (h2 := zH0) (dc2 := 117) (ds2 := 29934) 12 rfl ?_
  exact zT_ret rfl rfl
set_option maxRecDepth 1000000 in
set_option maxHeartbeats 4000000 in
theorem zo_9_5 (xs : Nat → Int32) (h0 : xs 0 &&& 63 = 9) (h1 : xs 1 = 3) : zDone xs := by
  refine ⟨zH0, 117, 29934, ?_, by decide, by decide⟩
  refine zT_gos (f := 200000) (pc2 := 37) (ls2 := [(4, .int 0), (3, .ref 232), (2, .ref 162), (1, .ref 0), (0, .ref 11)]) (st2 := [.int (xs 0)]) (h2 := zH0) (dc2 := 117) (ds2 := 29934) 9 rfl ?_
  refine zT_gos (f := 200000) (pc2 := 40) (ls2 := [(4, .int 0), (3, .ref 232), (2, .ref 162), (1, .ref 0), (0, .ref 11)]) (st2 := [.int ((xs 0) &&& (63 : Int32))]) (h2 := zH0) (dc2 := 117) (ds2 := 29934) 2 rfl ?_
  refine zT_val h0 ?_
  refine zT_gos (f := 200000) (pc2 := 572) (ls2 := [(4, .int 0), (3, .ref 232), (2, .ref 162), (1, .ref 0), (0, .ref 11)]) (st2 := [.int (xs 1), .ref 0]) (h2 := zH0) (dc2 := 117) (ds2 := 29934) 7 rfl ?_
  refine zT_val h1 ?_
  refine zT_gos (f := 200000) (pc2 := 582) (ls2 := [(4, .int 0), (3, .ref 232), (2, .ref 162), (1, .ref 0), (0, .ref 11)]) (st2 := [.int (xs 1), .ref 162, .long 0]) (h2 := zH0) (dc2 := 117) (ds2 := 29934) 7 rfl ?_
  refine zT_val h1 ?_
  refine zT_gos (f := 200000) (pc2 := 1811) (ls2 := [(4, .int 6), (3, .ref 232), (2, .ref 162), (1, .ref 0), (0, .ref 11)]) (st2 := [.int 1]) (h2 := zH0) (dc2 := 117) (ds2 := 29934) 12 rfl ?_
  exact zT_ret rfl rfl
set_option maxRecDepth 1000000 in
set_option maxHeartbeats 4000000 in
theorem zo_9_6 (xs : Nat → Int32) (h0 : xs 0 &&& 63 = 9) (h1 : xs 1 = 4) : zDone xs := by
  refine ⟨zH0, 117, 29934, ?_, by decide, by decide⟩
  refine zT_gos (f := 200000) (pc2 := 37) (ls2 := [(4, .int 0), (3, .ref 232), (2, .ref 162), (1, .ref 0), (0, .ref 11)]) (st2 := [.int (xs 0)]) (h2 := zH0) (dc2 := 117) (ds2 := 29934) 9 rfl ?_
  refine zT_gos (f := 200000) (pc2 := 40) (ls2 := [(4, .int 0), (3, .ref 232), (2, .ref 162), (1, .ref 0), (0, .ref 11)]) (st2 := [.int ((xs 0) &&& (63 : Int32))]) (h2 := zH0) (dc2 := 117) (ds2 := 29934) 2 rfl ?_
  refine zT_val h0 ?_
  refine zT_gos (f := 200000) (pc2 := 572) (ls2 := [(4, .int 0), (3, .ref 232), (2, .ref 162), (1, .ref 0), (0, .ref 11)]) (st2 := [.int (xs 1), .ref 0]) (h2 := zH0) (dc2 := 117) (ds2 := 29934) 7 rfl ?_
  refine zT_val h1 ?_
  refine zT_gos (f := 200000) (pc2 := 582) (ls2 := [(4, .int 0), (3, .ref 232), (2, .ref 162), (1, .ref 0), (0, .ref 11)]) (st2 := [.int (xs 1), .ref 162, .long 0]) (h2 := zH0) (dc2 := 117) (ds2 := 29934) 7 rfl ?_
  refine zT_val h1 ?_
  refine zT_gos (f := 200000) (pc2 := 1811) (ls2 := [(4, .int 6), (3, .ref 232), (2, .ref 162), (1, .ref 0), (0, .ref 11)]) (st2 := [.int 1]) (h2 := zH0) (dc2 := 117) (ds2 := 29934) 12 rfl ?_
  exact zT_ret rfl rfl
set_option maxRecDepth 1000000 in
set_option maxHeartbeats 4000000 in
theorem zo_9_7 (xs : Nat → Int32) (h0 : xs 0 &&& 63 = 9) (h1 : xs 1 = 5) : zDone xs := by
  refine ⟨zH0, 117, 29934, ?_, by decide, by decide⟩
  refine zT_gos (f := 200000) (pc2 := 37) (ls2 := [(4, .int 0), (3, .ref 232), (2, .ref 162), (1, .ref 0), (0, .ref 11)]) (st2 := [.int (xs 0)]) (h2 := zH0) (dc2 := 117) (ds2 := 29934) 9 rfl ?_
  refine zT_gos (f := 200000) (pc2 := 40) (ls2 := [(4, .int 0), (3, .ref 232), (2, .ref 162), (1, .ref 0), (0, .ref 11)]) (st2 := [.int ((xs 0) &&& (63 : Int32))]) (h2 := zH0) (dc2 := 117) (ds2 := 29934) 2 rfl ?_
  refine zT_val h0 ?_
  refine zT_gos (f := 200000) (pc2 := 572) (ls2 := [(4, .int 0), (3, .ref 232), (2, .ref 162), (1, .ref 0), (0, .ref 11)]) (st2 := [.int (xs 1), .ref 0]) (h2 := zH0) (dc2 := 117) (ds2 := 29934) 7 rfl ?_
  refine zT_val h1 ?_
  refine zT_gos (f := 200000) (pc2 := 582) (ls2 := [(4, .int 0), (3, .ref 232), (2, .ref 162), (1, .ref 0), (0, .ref 11)]) (st2 := [.int (xs 1), .ref 162, .long 0]) (h2 := zH0) (dc2 := 117) (ds2 := 29934) 7 rfl ?_
  refine zT_val h1 ?_
  refine zT_gos (f := 200000) (pc2 := 1811) (ls2 := [(4, .int 6), (3, .ref 232), (2, .ref 162), (1, .ref 0), (0, .ref 11)]) (st2 := [.int 1]) (h2 := zH0) (dc2 := 117) (ds2 := 29934) 12 rfl ?_
  exact zT_ret rfl rfl
theorem zop_9 (xs : Nat → Int32) (h0 : xs 0 &&& 63 = 9) : zDone xs := by
  rcases (show (xs 1).toInt < 0 ∨ 5 < (xs 1).toInt ∨ (xs 1).toInt = 0 ∨ (xs 1).toInt = 1 ∨ (xs 1).toInt = 2 ∨ (xs 1).toInt = 3 ∨ (xs 1).toInt = 4 ∨ (xs 1).toInt = 5 by omega) with h1 | h1 | h1 | h1 | h1 | h1 | h1 | h1
  · have h1 := h1
    exact zo_9_0 xs h0 h1
  · have h1 := h1
    exact zo_9_1 xs h0 h1
  · have h1 : xs 1 = 0 := Int32.toInt_inj.mp h1
    exact zo_9_2 xs h0 h1
  · have h1 : xs 1 = 1 := Int32.toInt_inj.mp h1
    exact zo_9_3 xs h0 h1
  · have h1 : xs 1 = 2 := Int32.toInt_inj.mp h1
    exact zo_9_4 xs h0 h1
  · have h1 : xs 1 = 3 := Int32.toInt_inj.mp h1
    exact zo_9_5 xs h0 h1
  · have h1 : xs 1 = 4 := Int32.toInt_inj.mp h1
    exact zo_9_6 xs h0 h1
  · have h1 : xs 1 = 5 := Int32.toInt_inj.mp h1
    exact zo_9_7 xs h0 h1
set_option maxRecDepth 1000000 in
set_option maxHeartbeats 4000000 in
theorem zo_10_0 (xs : Nat → Int32) (h0 : xs 0 &&& 63 = 10) (h1 : (xs 1).toInt < -1) : zDone xs := by
  refine ⟨zH0, 117, 29934, ?_, by decide, by decide⟩
  refine zT_gos (f := 200000) (pc2 := 37) (ls2 := [(4, .int 0), (3, .ref 232), (2, .ref 162), (1, .ref 0), (0, .ref 11)]) (st2 := [.int (xs 0)]) (h2 := zH0) (dc2 := 117) (ds2 := 29934) 9 rfl ?_
  refine zT_gos (f := 200000) (pc2 := 40) (ls2 := [(4, .int 0), (3, .ref 232), (2, .ref 162), (1, .ref 0), (0, .ref 11)]) (st2 := [.int ((xs 0) &&& (63 : Int32))]) (h2 := zH0) (dc2 := 117) (ds2 := 29934) 2 rfl ?_
  refine zT_val h0 ?_
  refine zT_gos (f := 200000) (pc2 := 598) (ls2 := [(4, .int 0), (3, .ref 232), (2, .ref 162), (1, .ref 0), (0, .ref 11)]) (st2 := [.int (xs 1), .ref 0]) (h2 := zH0) (dc2 := 117) (ds2 := 29934) 7 rfl ?_
  refine zT_call (v := some (.int 0)) (h2 := zH0) (d1 := 0) (s1 := 0) rfl rfl ?_ ?_
  · refine zT_gos (f := 200000) (pc2 := 2) (ls2 := [(0, .ref 0), (1, .int (xs 1))]) (st2 := [.int (-1), .int (xs 1)]) (h2 := zH0) (dc2 := 0) (ds2 := 0) 2 rfl ?_
    refine zT_if2 false rfl (zc_eq_f (by show ((xs 1) : Int32).toInt ≠ -1; omega)) ?_
    refine zT_here (pc2 := 5) rfl ?_
    refine zT_gos (f := 200000) (pc2 := 7) (ls2 := [(0, .ref 0), (1, .int (xs 1))]) (st2 := [.int (xs 1), .ref 0]) (h2 := zH0) (dc2 := 0) (ds2 := 0) 2 rfl ?_
    refine zT_call (v := some (.int 1)) (h2 := zH0) (d1 := 0) (s1 := 0) rfl rfl ?_ ?_
    · refine zT_gos (f := 200000) (pc2 := 1) (ls2 := [(0, .ref 0), (1, .int (xs 1))]) (st2 := [.int (xs 1)]) (h2 := zH0) (dc2 := 0) (ds2 := 0) 1 rfl ?_
      refine zT_if0 true rfl (zc_lt_t (by show ((xs 1) : Int32).toInt < 0; omega)) ?_
      refine zT_here (pc2 := 15) rfl ?_
      refine zT_gos (f := 200000) (pc2 := 20) (ls2 := [(0, .ref 0), (1, .int (xs 1))]) (st2 := [.int 1]) (h2 := zH0) (dc2 := 0) (ds2 := 0) 2 rfl ?_
      exact zT_ret rfl rfl
    refine zT_here (pc2 := 10) rfl ?_
    refine zT_gos (f := 200000) (pc2 := 14) (ls2 := [(0, .ref 0), (1, .int (xs 1))]) (st2 := [.int 0]) (h2 := zH0) (dc2 := 0) (ds2 := 0) 2 rfl ?_
    exact zT_ret rfl rfl
  refine zT_here (pc2 := 601) rfl ?_
  refine zT_gos (f := 200000) (pc2 := 608) (ls2 := [(4, .int 0), (3, .ref 232), (2, .ref 162), (1, .ref 0), (0, .ref 11)]) (st2 := [.int (xs 1), .ref 162, .int 0]) (h2 := zH0) (dc2 := 117) (ds2 := 29934) 6 rfl ?_
  refine zT_call (v := some (.int 0)) (h2 := zH0) (d1 := 0) (s1 := 0) rfl rfl ?_ ?_
  · refine zT_gos (f := 200000) (pc2 := 7) (ls2 := [(0, .ref 162), (1, .int (xs 1))]) (st2 := [.int (-1), .int (xs 1)]) (h2 := zH0) (dc2 := 0) (ds2 := 0) 5 rfl ?_
    refine zT_if2 false rfl (zc_eq_f (by show ((xs 1) : Int32).toInt ≠ -1; omega)) ?_
    refine zT_here (pc2 := 10) rfl ?_
    refine zT_gos (f := 200000) (pc2 := 12) (ls2 := [(0, .ref 162), (1, .int (xs 1))]) (st2 := [.int (xs 1), .ref 162]) (h2 := zH0) (dc2 := 0) (ds2 := 0) 2 rfl ?_
    refine zT_call (v := some (.int 0)) (h2 := zH0) (d1 := 0) (s1 := 0) rfl rfl ?_ ?_
    · refine zT_gos (f := 200000) (pc2 := 1) (ls2 := [(0, .ref 162), (1, .int (xs 1))]) (st2 := [.int (xs 1)]) (h2 := zH0) (dc2 := 0) (ds2 := 0) 1 rfl ?_
      refine zT_if0 true rfl (zc_lt_t (by show ((xs 1) : Int32).toInt < 0; omega)) ?_
      refine zT_here (pc2 := 18) rfl ?_
      refine zT_gos (f := 200000) (pc2 := 19) (ls2 := [(0, .ref 162), (1, .int (xs 1))]) (st2 := [.int 0]) (h2 := zH0) (dc2 := 0) (ds2 := 0) 1 rfl ?_
      exact zT_ret rfl rfl
    refine zT_here (pc2 := 15) rfl ?_
    refine zT_gos (f := 200000) (pc2 := 19) (ls2 := [(0, .ref 162), (1, .int (xs 1))]) (st2 := [.int 0]) (h2 := zH0) (dc2 := 0) (ds2 := 0) 2 rfl ?_
    exact zT_ret rfl rfl
  refine zT_here (pc2 := 611) rfl ?_
  refine zT_gos (f := 200000) (pc2 := 1811) (ls2 := [(4, .int 6), (3, .ref 232), (2, .ref 162), (1, .ref 0), (0, .ref 11)]) (st2 := [.int 1]) (h2 := zH0) (dc2 := 117) (ds2 := 29934) 10 rfl ?_
  exact zT_ret rfl rfl
set_option maxRecDepth 1000000 in
set_option maxHeartbeats 4000000 in
theorem zo_10_1 (xs : Nat → Int32) (h0 : xs 0 &&& 63 = 10) (h1 : -1 < (xs 1).toInt) : zDone xs := by
  refine ⟨zH0, 117, 29934, ?_, by decide, by decide⟩
  refine zT_gos (f := 200000) (pc2 := 37) (ls2 := [(4, .int 0), (3, .ref 232), (2, .ref 162), (1, .ref 0), (0, .ref 11)]) (st2 := [.int (xs 0)]) (h2 := zH0) (dc2 := 117) (ds2 := 29934) 9 rfl ?_
  refine zT_gos (f := 200000) (pc2 := 40) (ls2 := [(4, .int 0), (3, .ref 232), (2, .ref 162), (1, .ref 0), (0, .ref 11)]) (st2 := [.int ((xs 0) &&& (63 : Int32))]) (h2 := zH0) (dc2 := 117) (ds2 := 29934) 2 rfl ?_
  refine zT_val h0 ?_
  refine zT_gos (f := 200000) (pc2 := 598) (ls2 := [(4, .int 0), (3, .ref 232), (2, .ref 162), (1, .ref 0), (0, .ref 11)]) (st2 := [.int (xs 1), .ref 0]) (h2 := zH0) (dc2 := 117) (ds2 := 29934) 7 rfl ?_
  refine zT_call (v := some (.int 0)) (h2 := zH0) (d1 := 0) (s1 := 0) rfl rfl ?_ ?_
  · refine zT_gos (f := 200000) (pc2 := 2) (ls2 := [(0, .ref 0), (1, .int (xs 1))]) (st2 := [.int (-1), .int (xs 1)]) (h2 := zH0) (dc2 := 0) (ds2 := 0) 2 rfl ?_
    refine zT_if2 false rfl (zc_eq_f (by show ((xs 1) : Int32).toInt ≠ -1; omega)) ?_
    refine zT_here (pc2 := 5) rfl ?_
    refine zT_gos (f := 200000) (pc2 := 7) (ls2 := [(0, .ref 0), (1, .int (xs 1))]) (st2 := [.int (xs 1), .ref 0]) (h2 := zH0) (dc2 := 0) (ds2 := 0) 2 rfl ?_
    refine zT_call (v := some (.int 1)) (h2 := zH0) (d1 := 0) (s1 := 0) rfl rfl ?_ ?_
    · refine zT_gos (f := 200000) (pc2 := 1) (ls2 := [(0, .ref 0), (1, .int (xs 1))]) (st2 := [.int (xs 1)]) (h2 := zH0) (dc2 := 0) (ds2 := 0) 1 rfl ?_
      refine zT_if0 false rfl (zc_lt_f (by show ((xs 1) : Int32).toInt ≥ 0; omega)) ?_
      refine zT_here (pc2 := 4) rfl ?_
      refine zT_gos (f := 200000) (pc2 := 12) (ls2 := [(0, .ref 0), (1, .int (xs 1))]) (st2 := [.int 0, .int (xs 1)]) (h2 := zH0) (dc2 := 0) (ds2 := 0) 4 rfl ?_
      refine zT_if2 false rfl (zc_lt_f (by show ((xs 1) : Int32).toInt ≥ 0; omega)) ?_
      refine zT_here (pc2 := 15) rfl ?_
      refine zT_gos (f := 200000) (pc2 := 20) (ls2 := [(0, .ref 0), (1, .int (xs 1))]) (st2 := [.int 1]) (h2 := zH0) (dc2 := 0) (ds2 := 0) 2 rfl ?_
      exact zT_ret rfl rfl
    refine zT_here (pc2 := 10) rfl ?_
    refine zT_gos (f := 200000) (pc2 := 14) (ls2 := [(0, .ref 0), (1, .int (xs 1))]) (st2 := [.int 0]) (h2 := zH0) (dc2 := 0) (ds2 := 0) 2 rfl ?_
    exact zT_ret rfl rfl
  refine zT_here (pc2 := 601) rfl ?_
  refine zT_gos (f := 200000) (pc2 := 608) (ls2 := [(4, .int 0), (3, .ref 232), (2, .ref 162), (1, .ref 0), (0, .ref 11)]) (st2 := [.int (xs 1), .ref 162, .int 0]) (h2 := zH0) (dc2 := 117) (ds2 := 29934) 6 rfl ?_
  refine zT_call (v := some (.int 0)) (h2 := zH0) (d1 := 0) (s1 := 0) rfl rfl ?_ ?_
  · refine zT_gos (f := 200000) (pc2 := 7) (ls2 := [(0, .ref 162), (1, .int (xs 1))]) (st2 := [.int (-1), .int (xs 1)]) (h2 := zH0) (dc2 := 0) (ds2 := 0) 5 rfl ?_
    refine zT_if2 false rfl (zc_eq_f (by show ((xs 1) : Int32).toInt ≠ -1; omega)) ?_
    refine zT_here (pc2 := 10) rfl ?_
    refine zT_gos (f := 200000) (pc2 := 12) (ls2 := [(0, .ref 162), (1, .int (xs 1))]) (st2 := [.int (xs 1), .ref 162]) (h2 := zH0) (dc2 := 0) (ds2 := 0) 2 rfl ?_
    refine zT_call (v := some (.int 0)) (h2 := zH0) (d1 := 0) (s1 := 0) rfl rfl ?_ ?_
    · refine zT_gos (f := 200000) (pc2 := 1) (ls2 := [(0, .ref 162), (1, .int (xs 1))]) (st2 := [.int (xs 1)]) (h2 := zH0) (dc2 := 0) (ds2 := 0) 1 rfl ?_
      refine zT_if0 false rfl (zc_lt_f (by show ((xs 1) : Int32).toInt ≥ 0; omega)) ?_
      refine zT_here (pc2 := 4) rfl ?_
      refine zT_gos (f := 200000) (pc2 := 11) (ls2 := [(0, .ref 162), (1, .int (xs 1))]) (st2 := [.int 0, .int (xs 1)]) (h2 := zH0) (dc2 := 0) (ds2 := 0) 5 rfl ?_
      refine zT_if2 true rfl (zc_ge_t (by show ((xs 1) : Int32).toInt ≥ 0; omega)) ?_
      refine zT_here (pc2 := 18) rfl ?_
      refine zT_gos (f := 200000) (pc2 := 19) (ls2 := [(0, .ref 162), (1, .int (xs 1))]) (st2 := [.int 0]) (h2 := zH0) (dc2 := 0) (ds2 := 0) 1 rfl ?_
      exact zT_ret rfl rfl
    refine zT_here (pc2 := 15) rfl ?_
    refine zT_gos (f := 200000) (pc2 := 19) (ls2 := [(0, .ref 162), (1, .int (xs 1))]) (st2 := [.int 0]) (h2 := zH0) (dc2 := 0) (ds2 := 0) 2 rfl ?_
    exact zT_ret rfl rfl
  refine zT_here (pc2 := 611) rfl ?_
  refine zT_gos (f := 200000) (pc2 := 1811) (ls2 := [(4, .int 6), (3, .ref 232), (2, .ref 162), (1, .ref 0), (0, .ref 11)]) (st2 := [.int 1]) (h2 := zH0) (dc2 := 117) (ds2 := 29934) 10 rfl ?_
  exact zT_ret rfl rfl
set_option maxRecDepth 1000000 in
theorem zk_o_15 : zT zg0 zF zP 111 0 [(0, .ref 0), (1, .int (-1))] [] zH0 0 0 (some (.int 1), (((zH0.set 19 (.inr (.inl (20, [70644700037184])))).set 20 (.inl (0, 120, [22000000, 0, 10000, 0, 0, 0]))).set 18 (.inr (.inr (.inr (2, [.int 1, .int 1, .ref 38, .ref 40]))))), 0, 0) := zclosed (n := 698) (by decide +kernel)
set_option maxRecDepth 1000000 in
theorem zk_o_16 : zT zg0 zF zP 217 0 [(0, .ref 162), (1, .int (-1))] [] (((zH0.set 19 (.inr (.inl (20, [70644700037184])))).set 20 (.inl (0, 120, [22000000, 0, 10000, 0, 0, 0]))).set 18 (.inr (.inr (.inr (2, [.int 1, .int 1, .ref 38, .ref 40]))))) 0 0 (some (.int 1), (((((zH0.set 19 (.inr (.inl (20, [70644700037184])))).set 20 (.inl (0, 120, [22000000, 0, 10000, 0, 0, 0]))).set 18 (.inr (.inr (.inr (2, [.int 1, .int 1, .ref 38, .ref 40]))))).set 81 (.inr (.inr (.inr (10, [.int 0, .ref 164, .int 0, .ref 166, .ref 168, .ref 170, .ref 172, .ref 174, .ref 176, .ref 178, .ref 180, .ref 182, .ref 184, .ref 186, .int 0, .int 0, .int 0, .int 0, .int 0, .int 0, .int 0, .int 0, .int 0, .int (-1), .ref 188, .ref 190, .ref 192, .int 1, .int 0, .ref 194, .ref 196, .ref 198, .int 0, .int 0, .int 0, .int 0, .ref 200, .ref 202, .ref 204, .int 0, .ref 206, .ref 208, .ref 210, .ref 212, .ref 214, .ref 216, .ref 218, .ref 220, .ref 222, .ref 224, .ref 226, .ref 228, .int 0, .ref 230]))))).set 96 (.inl (0, 252, [0, 0, 0, 0, 0, 0, 22000000, 0, 10000, 0, 0, 0]))), 0, 0) := zclosed (n := 666) (by decide +kernel)
set_option maxRecDepth 1000000 in
set_option maxHeartbeats 4000000 in
theorem zo_10_2 (xs : Nat → Int32) (h0 : xs 0 &&& 63 = 10) (h1 : xs 1 = (-1)) : zDone xs := by
  refine ⟨(((((zH0.set 19 (.inr (.inl (20, [70644700037184])))).set 20 (.inl (0, 120, [22000000, 0, 10000, 0, 0, 0]))).set 18 (.inr (.inr (.inr (2, [.int 1, .int 1, .ref 38, .ref 40]))))).set 81 (.inr (.inr (.inr (10, [.int 0, .ref 164, .int 0, .ref 166, .ref 168, .ref 170, .ref 172, .ref 174, .ref 176, .ref 178, .ref 180, .ref 182, .ref 184, .ref 186, .int 0, .int 0, .int 0, .int 0, .int 0, .int 0, .int 0, .int 0, .int 0, .int (-1), .ref 188, .ref 190, .ref 192, .int 1, .int 0, .ref 194, .ref 196, .ref 198, .int 0, .int 0, .int 0, .int 0, .ref 200, .ref 202, .ref 204, .int 0, .ref 206, .ref 208, .ref 210, .ref 212, .ref 214, .ref 216, .ref 218, .ref 220, .ref 222, .ref 224, .ref 226, .ref 228, .int 0, .ref 230]))))).set 96 (.inl (0, 252, [0, 0, 0, 0, 0, 0, 22000000, 0, 10000, 0, 0, 0]))), 117, 29934, ?_, by decide, by decide⟩
  refine zT_gos (f := 200000) (pc2 := 37) (ls2 := [(4, .int 0), (3, .ref 232), (2, .ref 162), (1, .ref 0), (0, .ref 11)]) (st2 := [.int (xs 0)]) (h2 := zH0) (dc2 := 117) (ds2 := 29934) 9 rfl ?_
  refine zT_gos (f := 200000) (pc2 := 40) (ls2 := [(4, .int 0), (3, .ref 232), (2, .ref 162), (1, .ref 0), (0, .ref 11)]) (st2 := [.int ((xs 0) &&& (63 : Int32))]) (h2 := zH0) (dc2 := 117) (ds2 := 29934) 2 rfl ?_
  refine zT_val h0 ?_
  refine zT_gos (f := 200000) (pc2 := 598) (ls2 := [(4, .int 0), (3, .ref 232), (2, .ref 162), (1, .ref 0), (0, .ref 11)]) (st2 := [.int (xs 1), .ref 0]) (h2 := zH0) (dc2 := 117) (ds2 := 29934) 7 rfl ?_
  refine zT_val h1 ?_
  refine zT_call rfl rfl (zT_le (zg0_le 6 xs) zk_o_15) ?_
  refine zT_here (pc2 := 601) rfl ?_
  refine zT_gos (f := 200000) (pc2 := 608) (ls2 := [(4, .int 0), (3, .ref 232), (2, .ref 162), (1, .ref 0), (0, .ref 11)]) (st2 := [.int (xs 1), .ref 162, .int 1]) (h2 := (((zH0.set 19 (.inr (.inl (20, [70644700037184])))).set 20 (.inl (0, 120, [22000000, 0, 10000, 0, 0, 0]))).set 18 (.inr (.inr (.inr (2, [.int 1, .int 1, .ref 38, .ref 40])))))) (dc2 := 117) (ds2 := 29934) 6 rfl ?_
  refine zT_val h1 ?_
  refine zT_call rfl rfl (zT_le (zg0_le 6 xs) zk_o_16) ?_
  refine zT_here (pc2 := 611) rfl ?_
  refine zT_gos (f := 200000) (pc2 := 1811) (ls2 := [(4, .int 6), (3, .ref 232), (2, .ref 162), (1, .ref 0), (0, .ref 11)]) (st2 := [.int 1]) (h2 := (((((zH0.set 19 (.inr (.inl (20, [70644700037184])))).set 20 (.inl (0, 120, [22000000, 0, 10000, 0, 0, 0]))).set 18 (.inr (.inr (.inr (2, [.int 1, .int 1, .ref 38, .ref 40]))))).set 81 (.inr (.inr (.inr (10, [.int 0, .ref 164, .int 0, .ref 166, .ref 168, .ref 170, .ref 172, .ref 174, .ref 176, .ref 178, .ref 180, .ref 182, .ref 184, .ref 186, .int 0, .int 0, .int 0, .int 0, .int 0, .int 0, .int 0, .int 0, .int 0, .int (-1), .ref 188, .ref 190, .ref 192, .int 1, .int 0, .ref 194, .ref 196, .ref 198, .int 0, .int 0, .int 0, .int 0, .ref 200, .ref 202, .ref 204, .int 0, .ref 206, .ref 208, .ref 210, .ref 212, .ref 214, .ref 216, .ref 218, .ref 220, .ref 222, .ref 224, .ref 226, .ref 228, .int 0, .ref 230]))))).set 96 (.inl (0, 252, [0, 0, 0, 0, 0, 0, 22000000, 0, 10000, 0, 0, 0])))) (dc2 := 117) (ds2 := 29934) 10 rfl ?_
  exact zT_ret rfl rfl
theorem zop_10 (xs : Nat → Int32) (h0 : xs 0 &&& 63 = 10) : zDone xs := by
  rcases (show (xs 1).toInt < -1 ∨ -1 < (xs 1).toInt ∨ (xs 1).toInt = -1 by omega) with h1 | h1 | h1
  · have h1 := h1
    exact zo_10_0 xs h0 h1
  · have h1 := h1
    exact zo_10_1 xs h0 h1
  · have h1 : xs 1 = (-1) := Int32.toInt_inj.mp h1
    exact zo_10_2 xs h0 h1
