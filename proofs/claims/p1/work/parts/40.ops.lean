/-! Ops of the law at the first state. -/
def zDone (xs : Nat → Int32) : Prop := ∃ (h : zH) (dc ds : Nat), zT (zg 6 xs) zF zP 288 23 [(4, .int 0), (3, .ref 232), (2, .ref 162), (1, .ref 0), (0, .ref 11)] [] zH0 117 29934 (some (.int 1), h, dc, ds) ∧ dc ≤ 600002 ∧ ds ≤ 7302232
set_option maxRecDepth 1000000 in
set_option maxHeartbeats 4000000 in
theorem zo_2_0 (xs : Nat → Int32) (h0 : xs 0 &&& 63 = 2) (h1 : xs 1 = 0) : zDone xs := by
  refine ⟨zH0, 117, 29934, ?_, by decide, by decide⟩
  refine zT_gos (f := 200000) (pc2 := 37) (ls2 := [(4, .int 0), (3, .ref 232), (2, .ref 162), (1, .ref 0), (0, .ref 11)]) (st2 := [.int (xs 0)]) (h2 := zH0) (dc2 := 117) (ds2 := 29934) 9 rfl ?_
  refine zT_gos (f := 200000) (pc2 := 40) (ls2 := [(4, .int 0), (3, .ref 232), (2, .ref 162), (1, .ref 0), (0, .ref 11)]) (st2 := [.int ((xs 0) &&& (63 : Int32))]) (h2 := zH0) (dc2 := 117) (ds2 := 29934) 2 rfl ?_
  refine zT_val h0 ?_
  refine zT_gos (f := 200000) (pc2 := 329) (ls2 := [(4, .int 0), (3, .ref 232), (2, .ref 162), (1, .ref 0), (0, .ref 11)]) (st2 := [.int (xs 1), .ref 0]) (h2 := zH0) (dc2 := 117) (ds2 := 29934) 7 rfl ?_
  refine zT_val h1 ?_
  refine zT_gos (f := 200000) (pc2 := 339) (ls2 := [(4, .int 0), (3, .ref 232), (2, .ref 162), (1, .ref 0), (0, .ref 11)]) (st2 := [.int (xs 1), .ref 162, .int 0]) (h2 := zH0) (dc2 := 117) (ds2 := 29934) 7 rfl ?_
  refine zT_val h1 ?_
  refine zT_gos (f := 200000) (pc2 := 1811) (ls2 := [(4, .int 6), (3, .ref 232), (2, .ref 162), (1, .ref 0), (0, .ref 11)]) (st2 := [.int 1]) (h2 := zH0) (dc2 := 117) (ds2 := 29934) 11 rfl ?_
  exact zT_ret rfl rfl

set_option maxRecDepth 1000000 in
set_option maxHeartbeats 4000000 in
theorem zo_2_2 (xs : Nat → Int32) (h0 : xs 0 &&& 63 = 2) (h1 : (xs 1).toInt ≠ 0) (h2 : (xs 1).toInt ≠ 1) : zDone xs := by
  refine ⟨zH0, 117, 29934, ?_, by decide, by decide⟩
  refine zT_gos (f := 200000) (pc2 := 37) (ls2 := [(4, .int 0), (3, .ref 232), (2, .ref 162), (1, .ref 0), (0, .ref 11)]) (st2 := [.int (xs 0)]) (h2 := zH0) (dc2 := 117) (ds2 := 29934) 9 rfl ?_
  refine zT_gos (f := 200000) (pc2 := 40) (ls2 := [(4, .int 0), (3, .ref 232), (2, .ref 162), (1, .ref 0), (0, .ref 11)]) (st2 := [.int ((xs 0) &&& (63 : Int32))]) (h2 := zH0) (dc2 := 117) (ds2 := 29934) 2 rfl ?_
  refine zT_val h0 ?_
  refine zT_gos (f := 200000) (pc2 := 329) (ls2 := [(4, .int 0), (3, .ref 232), (2, .ref 162), (1, .ref 0), (0, .ref 11)]) (st2 := [.int (xs 1), .ref 0]) (h2 := zH0) (dc2 := 117) (ds2 := 29934) 7 rfl ?_
  refine zT_call (v := some (.int (-1))) (h2 := zH0) (d1 := 0) (s1 := 0) rfl rfl ?_ ?_
  · refine zT_gos (f := 200000) (pc2 := 1) (ls2 := [(0, .ref 0), (1, .int (xs 1))]) (st2 := [.int (xs 1)]) (h2 := zH0) (dc2 := 0) (ds2 := 0) 1 rfl ?_
    refine zT_if0 true rfl (zc_ne_t (by show ((xs 1) : Int32).toInt ≠ 0; omega)) ?_
    refine zT_here (pc2 := 12) rfl ?_
    refine zT_gos (f := 200000) (pc2 := 14) (ls2 := [(0, .ref 0), (1, .int (xs 1))]) (st2 := [.int 1, .int (xs 1)]) (h2 := zH0) (dc2 := 0) (ds2 := 0) 2 rfl ?_
    refine zT_if2 true rfl (zc_ne_t (by show ((xs 1) : Int32).toInt ≠ 1; omega)) ?_
    refine zT_here (pc2 := 27) rfl ?_
    refine zT_gos (f := 200000) (pc2 := 28) (ls2 := [(0, .ref 0), (1, .int (xs 1))]) (st2 := [.int (-1)]) (h2 := zH0) (dc2 := 0) (ds2 := 0) 1 rfl ?_
    exact zT_ret rfl rfl
  refine zT_here (pc2 := 332) rfl ?_
  refine zT_gos (f := 200000) (pc2 := 339) (ls2 := [(4, .int 0), (3, .ref 232), (2, .ref 162), (1, .ref 0), (0, .ref 11)]) (st2 := [.int (xs 1), .ref 162, .int (-1)]) (h2 := zH0) (dc2 := 117) (ds2 := 29934) 6 rfl ?_
  refine zT_call (v := some (.int (-1))) (h2 := zH0) (d1 := 0) (s1 := 0) rfl rfl ?_ ?_
  · refine zT_gos (f := 200000) (pc2 := 6) (ls2 := [(0, .ref 162), (1, .int (xs 1))]) (st2 := [.int (xs 1)]) (h2 := zH0) (dc2 := 0) (ds2 := 0) 4 rfl ?_
    refine zT_if0 true rfl (zc_ne_t (by show ((xs 1) : Int32).toInt ≠ 0; omega)) ?_
    refine zT_here (pc2 := 16) rfl ?_
    refine zT_gos (f := 200000) (pc2 := 18) (ls2 := [(0, .ref 162), (1, .int (xs 1))]) (st2 := [.int 1, .int (xs 1)]) (h2 := zH0) (dc2 := 0) (ds2 := 0) 2 rfl ?_
    refine zT_if2 true rfl (zc_ne_t (by show ((xs 1) : Int32).toInt ≠ 1; omega)) ?_
    refine zT_here (pc2 := 28) rfl ?_
    refine zT_gos (f := 200000) (pc2 := 29) (ls2 := [(0, .ref 162), (1, .int (xs 1))]) (st2 := [.int (-1)]) (h2 := zH0) (dc2 := 0) (ds2 := 0) 1 rfl ?_
    exact zT_ret rfl rfl
  refine zT_here (pc2 := 342) rfl ?_
  refine zT_gos (f := 200000) (pc2 := 1811) (ls2 := [(4, .int 6), (3, .ref 232), (2, .ref 162), (1, .ref 0), (0, .ref 11)]) (st2 := [.int 1]) (h2 := zH0) (dc2 := 117) (ds2 := 29934) 10 rfl ?_
  exact zT_ret rfl rfl

