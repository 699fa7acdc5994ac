set_option maxRecDepth 1000000 in
theorem zk_m_0 : zT zg0 zF zP 191 0 [(0, .ref 162)] [] zHm 0 0 (none, ((zHm.set 81 (.inr (.inr (.inr (10, [.int 0, .ref 164, .int 0, .ref 166, .ref 168, .ref 170, .ref 172, .ref 174, .ref 176, .ref 178, .ref 180, .ref 182, .ref 184, .ref 186, .int 0, .int 0, .int 0, .int 0, .int 0, .int 0, .int 0, .int 0, .int 0, .int (-1), .ref 188, .ref 190, .ref 192, .int 1, .int 0, .ref 194, .ref 196, .ref 198, .int 0, .int 0, .int 0, .int 0, .ref 200, .ref 202, .ref 204, .int 0, .ref 206, .ref 208, .ref 210, .ref 212, .ref 214, .ref 216, .ref 218, .ref 220, .ref 222, .ref 224, .ref 226, .ref 228, .int 0, .ref 230]))))).set 96 (.inl (0, 252, [0, 0, 0, 0, 0, 0, 22000000, 0, 10000, 0, 0, 0]))), 0, 0) := zclosed (n := 227) (by decide +kernel)
set_option maxRecDepth 1000000 in
set_option maxHeartbeats 4000000 in
theorem r_mset0 {xs : Nat → Int32} {v : Int32} (h2 : 0 ≤ v.toInt ∧ v.toInt ≤ 99) : zT (zg 6 xs) zF zP 212 0 [(0, .ref 162), (1, .int 0), (2, .int v)] [] zHm 0 0 (some (.int 1), (((zHm.set 81 (.inr (.inr (.inr (10, [.int 0, .ref 164, .int 0, .ref 166, .ref 168, .ref 170, .ref 172, .ref 174, .ref 176, .ref 178, .ref 180, .ref 182, .ref 184, .ref 186, .int 0, .int 0, .int 0, .int 0, .int 0, .int 0, .int 0, .int 0, .int 0, .int (-1), .ref 188, .ref 190, .ref 192, .int 1, .int 0, .ref 194, .ref 196, .ref 198, .int 0, .int 0, .int 0, .int 0, .ref 200, .ref 202, .ref 204, .int 0, .ref 206, .ref 208, .ref 210, .ref 212, .ref 214, .ref 216, .ref 218, .ref 220, .ref 222, .ref 224, .ref 226, .ref 228, .int 0, .ref 230]))))).set 96 (.inl (0, 252, [0, 0, 0, 0, 0, 0, 22000000, 0, 10000, 0, 0, 0]))).set 94 (.inl (0, 6, [v, 0, 0, 0, 0, 0]))), 0, 0) := by
  refine zT_gos (f := 200000) (pc2 := 15) (ls2 := [(0, .ref 162), (1, .int 0), (2, .int v)]) (st2 := [.int v, .int 0, .ref 162]) (h2 := zHm) (dc2 := 0) (ds2 := 0) 9 rfl ?_
  refine zT_call (v := some (.int 1)) (h2 := zHm) (d1 := 0) (s1 := 0) rfl rfl ?_ ?_
  · refine zT_gos (f := 200000) (pc2 := 7) (ls2 := [(0, .ref 162), (1, .int 0), (2, .int v)]) (st2 := [.int 0, .int v]) (h2 := zHm) (dc2 := 0) (ds2 := 0) 5 rfl ?_
    refine zT_if2 false rfl (zc_lt_f (by show (v : Int32).toInt ≥ 0; omega)) ?_
    refine zT_here (pc2 := 10) rfl ?_
    refine zT_gos (f := 200000) (pc2 := 17) (ls2 := [(0, .ref 162), (1, .int 0), (2, .int v)]) (st2 := [.int 99, .int v]) (h2 := zHm) (dc2 := 0) (ds2 := 0) 5 rfl ?_
    refine zT_if2 false rfl (zc_gt_f (by show (v : Int32).toInt ≤ 99; omega)) ?_
    refine zT_here (pc2 := 20) rfl ?_
    refine zT_gos (f := 200000) (pc2 := 25) (ls2 := [(0, .ref 162), (1, .int 0), (2, .int v)]) (st2 := [.int 1]) (h2 := zHm) (dc2 := 0) (ds2 := 0) 2 rfl ?_
    exact zT_ret rfl rfl
  refine zT_here (pc2 := 18) rfl ?_
  refine zT_gos (f := 200000) (pc2 := 24) (ls2 := [(0, .ref 162), (1, .int 0), (2, .int v)]) (st2 := [.ref 162]) (h2 := zHm) (dc2 := 0) (ds2 := 0) 2 rfl ?_
  refine zT_call rfl rfl (zT_le (zg0_le 6 xs) zk_m_0) ?_
  refine zT_here (pc2 := 27) rfl ?_
  refine zT_gos (f := 200000) (pc2 := 39) (ls2 := [(0, .ref 162), (1, .int 0), (2, .int v)]) (st2 := [.int 1]) (h2 := (((zHm.set 81 (.inr (.inr (.inr (10, [.int 0, .ref 164, .int 0, .ref 166, .ref 168, .ref 170, .ref 172, .ref 174, .ref 176, .ref 178, .ref 180, .ref 182, .ref 184, .ref 186, .int 0, .int 0, .int 0, .int 0, .int 0, .int 0, .int 0, .int 0, .int 0, .int (-1), .ref 188, .ref 190, .ref 192, .int 1, .int 0, .ref 194, .ref 196, .ref 198, .int 0, .int 0, .int 0, .int 0, .ref 200, .ref 202, .ref 204, .int 0, .ref 206, .ref 208, .ref 210, .ref 212, .ref 214, .ref 216, .ref 218, .ref 220, .ref 222, .ref 224, .ref 226, .ref 228, .int 0, .ref 230]))))).set 96 (.inl (0, 252, [0, 0, 0, 0, 0, 0, 22000000, 0, 10000, 0, 0, 0]))).set 94 (.inl (0, 6, [v, 0, 0, 0, 0, 0])))) (dc2 := 0) (ds2 := 0) 8 rfl ?_
  exact zT_ret rfl rfl
