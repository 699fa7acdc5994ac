/-! The law's ops at the first state, out of the two callees' runs. -/
set_option maxRecDepth 1000000 in
set_option maxHeartbeats 4000000 in
theorem lw_6 (xs : Nat → Int32) (h0 : xs 0 &&& 63 = 6) {v : Int32} {h1 h2 : zH} {d1 s1 d2 s2 : Nat} {fs : List Value} (hc : zT zg0 zF zP 107 0 [(0, .ref 0), (1, .int (xs 1)), (2, .int (xs 2))] [] zH0 0 0 (some (.int v), h1, d1, s1)) (hX : zat h1 162 = some (.inr (.inr (.inr (10, fs))))) (hm : zT zg0 zF zP 212 0 [(0, .ref 162), (1, .int (xs 1)), (2, .int (xs 2))] [] h1 0 0 (some (.int v), h2, d2, s2)) (hd : 117 + d1 + d2 ≤ 600002) (hs : 29934 + s1 + s2 ≤ 7302232) : zDone xs := by
  refine ⟨h2, 117 + d1 + d2, 29934 + s1 + s2, ?_, hd, hs⟩
  refine zT_gos (f := 200000) (pc2 := 37) (ls2 := [(4, .int 0), (3, .ref 232), (2, .ref 162), (1, .ref 0), (0, .ref 11)]) (st2 := [.int (xs 0)]) (h2 := zH0) (dc2 := 117) (ds2 := 29934) 9 rfl ?_
  refine zT_gos (f := 200000) (pc2 := 40) (ls2 := [(4, .int 0), (3, .ref 232), (2, .ref 162), (1, .ref 0), (0, .ref 11)]) (st2 := [.int ((xs 0) &&& (63 : Int32))]) (h2 := zH0) (dc2 := 117) (ds2 := 29934) 2 rfl ?_
  refine zT_val h0 ?_
  refine zT_gos (f := 200000) (pc2 := 490) (ls2 := [(4, .int 0), (3, .ref 232), (2, .ref 162), (1, .ref 0), (0, .ref 11)]) (st2 := [.int (xs 2), .int (xs 1), .ref 0]) (h2 := zH0) (dc2 := 117) (ds2 := 29934) 12 rfl ?_
  refine zT_call (y2 := 107) (as := [.ref 0, .int (xs 1), .int (xs 2)]) rfl rfl (zT_le (zg0_le 6 xs) hc) ?_
  refine zT_here (pc2 := 493) rfl ?_
  refine zT_gos (f := 200000) (pc2 := 506) (ls2 := [(4, .int 0), (3, .ref 232), (2, .ref 162), (1, .ref 0), (0, .ref 11)]) (st2 := [.int (xs 2), .int (xs 1), .ref 162, .int v]) (h2 := h1) (dc2 := 117 + d1) (ds2 := 29934 + s1) 11 rfl ?_
  refine zT_calv (y2 := 212) (as := [.int (xs 1), .int (xs 2)]) rfl rfl hX rfl (zT_le (zg0_le 6 xs) hm) ?_
  refine zT_here (pc2 := 509) rfl ?_
  refine zT_if2 true rfl (zc_eq_t rfl) ?_
  refine zT_here (pc2 := 1804) rfl ?_
  refine zT_gos (f := 200000) (pc2 := 1811) (ls2 := [(4, .int 6), (3, .ref 232), (2, .ref 162), (1, .ref 0), (0, .ref 11)]) (st2 := [.int 1]) (h2 := h2) (dc2 := 117 + d1 + d2) (ds2 := 29934 + s1 + s2) 9 rfl ?_
  exact zT_ret rfl rfl
set_option maxRecDepth 1000000 in
set_option maxHeartbeats 4000000 in
theorem lw_12 (xs : Nat → Int32) (h0 : xs 0 &&& 63 = 12) {v : Int32} {h1 h2 : zH} {d1 s1 d2 s2 : Nat} {fs : List Value} (hc : zT zg0 zF zP 113 0 [(0, .ref 0)] [] zH0 0 0 (some (.int v), h1, d1, s1)) (hX : zat h1 162 = some (.inr (.inr (.inr (10, fs))))) (hm : zT zg0 zF zP 229 0 [(0, .ref 162)] [] h1 0 0 (some (.int v), h2, d2, s2)) (hd : 117 + d1 + d2 ≤ 600002) (hs : 29934 + s1 + s2 ≤ 7302232) : zDone xs := by
  refine ⟨h2, 117 + d1 + d2, 29934 + s1 + s2, ?_, hd, hs⟩
  refine zT_gos (f := 200000) (pc2 := 37) (ls2 := [(4, .int 0), (3, .ref 232), (2, .ref 162), (1, .ref 0), (0, .ref 11)]) (st2 := [.int (xs 0)]) (h2 := zH0) (dc2 := 117) (ds2 := 29934) 9 rfl ?_
  refine zT_gos (f := 200000) (pc2 := 40) (ls2 := [(4, .int 0), (3, .ref 232), (2, .ref 162), (1, .ref 0), (0, .ref 11)]) (st2 := [.int ((xs 0) &&& (63 : Int32))]) (h2 := zH0) (dc2 := 117) (ds2 := 29934) 2 rfl ?_
  refine zT_val h0 ?_
  refine zT_gos (f := 200000) (pc2 := 686) (ls2 := [(4, .int 0), (3, .ref 232), (2, .ref 162), (1, .ref 0), (0, .ref 11)]) (st2 := [.ref 0]) (h2 := zH0) (dc2 := 117) (ds2 := 29934) 2 rfl ?_
  refine zT_call (y2 := 113) (as := [.ref 0]) rfl rfl (zT_le (zg0_le 6 xs) hc) ?_
  refine zT_here (pc2 := 689) rfl ?_
  refine zT_gos (f := 200000) (pc2 := 690) (ls2 := [(4, .int 0), (3, .ref 232), (2, .ref 162), (1, .ref 0), (0, .ref 11)]) (st2 := [.ref 162, .int v]) (h2 := h1) (dc2 := 117 + d1) (ds2 := 29934 + s1) 1 rfl ?_
  refine zT_calv (y2 := 229) (as := []) rfl rfl hX rfl (zT_le (zg0_le 6 xs) hm) ?_
  refine zT_here (pc2 := 693) rfl ?_
  refine zT_if2 true rfl (zc_eq_t rfl) ?_
  refine zT_here (pc2 := 1804) rfl ?_
  refine zT_gos (f := 200000) (pc2 := 1811) (ls2 := [(4, .int 6), (3, .ref 232), (2, .ref 162), (1, .ref 0), (0, .ref 11)]) (st2 := [.int 1]) (h2 := h2) (dc2 := 117 + d1 + d2) (ds2 := 29934 + s1 + s2) 9 rfl ?_
  exact zT_ret rfl rfl
set_option maxRecDepth 1000000 in
set_option maxHeartbeats 4000000 in
theorem lw_13 (xs : Nat → Int32) (h0 : xs 0 &&& 63 = 13) {v : Int32} {h1 h2 : zH} {d1 s1 d2 s2 : Nat} {fs : List Value} (hc : zT zg0 zF zP 114 0 [(0, .ref 0), (1, .int (xs 1)), (2, .int (xs 2))] [] zH0 0 0 (some (.int v), h1, d1, s1)) (hX : zat h1 162 = some (.inr (.inr (.inr (10, fs))))) (hm : zT zg0 zF zP 231 0 [(0, .ref 162), (1, .int (xs 1)), (2, .int (xs 2))] [] h1 0 0 (some (.int v), h2, d2, s2)) (hd : 117 + d1 + d2 ≤ 600002) (hs : 29934 + s1 + s2 ≤ 7302232) : zDone xs := by
  refine ⟨h2, 117 + d1 + d2, 29934 + s1 + s2, ?_, hd, hs⟩
  refine zT_gos (f := 200000) (pc2 := 37) (ls2 := [(4, .int 0), (3, .ref 232), (2, .ref 162), (1, .ref 0), (0, .ref 11)]) (st2 := [.int (xs 0)]) (h2 := zH0) (dc2 := 117) (ds2 := 29934) 9 rfl ?_
  refine zT_gos (f := 200000) (pc2 := 40) (ls2 := [(4, .int 0), (3, .ref 232), (2, .ref 162), (1, .ref 0), (0, .ref 11)]) (st2 := [.int ((xs 0) &&& (63 : Int32))]) (h2 := zH0) (dc2 := 117) (ds2 := 29934) 2 rfl ?_
  refine zT_val h0 ?_
  refine zT_gos (f := 200000) (pc2 := 711) (ls2 := [(4, .int 0), (3, .ref 232), (2, .ref 162), (1, .ref 0), (0, .ref 11)]) (st2 := [.int (xs 2), .int (xs 1), .ref 0]) (h2 := zH0) (dc2 := 117) (ds2 := 29934) 12 rfl ?_
  refine zT_call (y2 := 114) (as := [.ref 0, .int (xs 1), .int (xs 2)]) rfl rfl (zT_le (zg0_le 6 xs) hc) ?_
  refine zT_here (pc2 := 714) rfl ?_
  refine zT_gos (f := 200000) (pc2 := 727) (ls2 := [(4, .int 0), (3, .ref 232), (2, .ref 162), (1, .ref 0), (0, .ref 11)]) (st2 := [.int (xs 2), .int (xs 1), .ref 162, .int v]) (h2 := h1) (dc2 := 117 + d1) (ds2 := 29934 + s1) 11 rfl ?_
  refine zT_calv (y2 := 231) (as := [.int (xs 1), .int (xs 2)]) rfl rfl hX rfl (zT_le (zg0_le 6 xs) hm) ?_
  refine zT_here (pc2 := 730) rfl ?_
  refine zT_if2 true rfl (zc_eq_t rfl) ?_
  refine zT_here (pc2 := 1804) rfl ?_
  refine zT_gos (f := 200000) (pc2 := 1811) (ls2 := [(4, .int 6), (3, .ref 232), (2, .ref 162), (1, .ref 0), (0, .ref 11)]) (st2 := [.int 1]) (h2 := h2) (dc2 := 117 + d1 + d2) (ds2 := 29934 + s1 + s2) 9 rfl ?_
  exact zT_ret rfl rfl
set_option maxRecDepth 1000000 in
set_option maxHeartbeats 4000000 in
theorem lw_14 (xs : Nat → Int32) (h0 : xs 0 &&& 63 = 14) {v : Int32} {h1 h2 : zH} {d1 s1 d2 s2 : Nat} {fs : List Value} (hc : zT zg0 zF zP 115 0 [(0, .ref 0), (1, .int (xs 1)), (2, .int (xs 2))] [] zH0 0 0 (some (.int v), h1, d1, s1)) (hX : zat h1 162 = some (.inr (.inr (.inr (10, fs))))) (hm : zT zg0 zF zP 236 0 [(0, .ref 162), (1, .int (xs 1)), (2, .int (xs 2))] [] h1 0 0 (some (.int v), h2, d2, s2)) (hd : 117 + d1 + d2 ≤ 600002) (hs : 29934 + s1 + s2 ≤ 7302232) : zDone xs := by
  refine ⟨h2, 117 + d1 + d2, 29934 + s1 + s2, ?_, hd, hs⟩
  refine zT_gos (f := 200000) (pc2 := 37) (ls2 := [(4, .int 0), (3, .ref 232), (2, .ref 162), (1, .ref 0), (0, .ref 11)]) (st2 := [.int (xs 0)]) (h2 := zH0) (dc2 := 117) (ds2 := 29934) 9 rfl ?_
  refine zT_gos (f := 200000) (pc2 := 40) (ls2 := [(4, .int 0), (3, .ref 232), (2, .ref 162), (1, .ref 0), (0, .ref 11)]) (st2 := [.int ((xs 0) &&& (63 : Int32))]) (h2 := zH0) (dc2 := 117) (ds2 := 29934) 2 rfl ?_
  refine zT_val h0 ?_
  refine zT_gos (f := 200000) (pc2 := 748) (ls2 := [(4, .int 0), (3, .ref 232), (2, .ref 162), (1, .ref 0), (0, .ref 11)]) (st2 := [.int (xs 2), .int (xs 1), .ref 0]) (h2 := zH0) (dc2 := 117) (ds2 := 29934) 12 rfl ?_
  refine zT_call (y2 := 115) (as := [.ref 0, .int (xs 1), .int (xs 2)]) rfl rfl (zT_le (zg0_le 6 xs) hc) ?_
  refine zT_here (pc2 := 751) rfl ?_
  refine zT_gos (f := 200000) (pc2 := 764) (ls2 := [(4, .int 0), (3, .ref 232), (2, .ref 162), (1, .ref 0), (0, .ref 11)]) (st2 := [.int (xs 2), .int (xs 1), .ref 162, .int v]) (h2 := h1) (dc2 := 117 + d1) (ds2 := 29934 + s1) 11 rfl ?_
  refine zT_calv (y2 := 236) (as := [.int (xs 1), .int (xs 2)]) rfl rfl hX rfl (zT_le (zg0_le 6 xs) hm) ?_
  refine zT_here (pc2 := 767) rfl ?_
  refine zT_if2 true rfl (zc_eq_t rfl) ?_
  refine zT_here (pc2 := 1804) rfl ?_
  refine zT_gos (f := 200000) (pc2 := 1811) (ls2 := [(4, .int 6), (3, .ref 232), (2, .ref 162), (1, .ref 0), (0, .ref 11)]) (st2 := [.int 1]) (h2 := h2) (dc2 := 117 + d1 + d2) (ds2 := 29934 + s1 + s2) 9 rfl ?_
  exact zT_ret rfl rfl
set_option maxRecDepth 1000000 in
set_option maxHeartbeats 4000000 in
theorem lw_15 (xs : Nat → Int32) (h0 : xs 0 &&& 63 = 15) {v : Int32} {h1 h2 : zH} {d1 s1 d2 s2 : Nat} {fs : List Value} (hc : zT zg0 zF zP 116 0 [(0, .ref 0)] [] zH0 0 0 (some (.int v), h1, d1, s1)) (hX : zat h1 162 = some (.inr (.inr (.inr (10, fs))))) (hm : zT zg0 zF zP 232 0 [(0, .ref 162)] [] h1 0 0 (some (.int v), h2, d2, s2)) (hd : 117 + d1 + d2 ≤ 600002) (hs : 29934 + s1 + s2 ≤ 7302232) : zDone xs := by
  refine ⟨h2, 117 + d1 + d2, 29934 + s1 + s2, ?_, hd, hs⟩
  refine zT_gos (f := 200000) (pc2 := 37) (ls2 := [(4, .int 0), (3, .ref 232), (2, .ref 162), (1, .ref 0), (0, .ref 11)]) (st2 := [.int (xs 0)]) (h2 := zH0) (dc2 := 117) (ds2 := 29934) 9 rfl ?_
  refine zT_gos (f := 200000) (pc2 := 40) (ls2 := [(4, .int 0), (3, .ref 232), (2, .ref 162), (1, .ref 0), (0, .ref 11)]) (st2 := [.int ((xs 0) &&& (63 : Int32))]) (h2 := zH0) (dc2 := 117) (ds2 := 29934) 2 rfl ?_
  refine zT_val h0 ?_
  refine zT_gos (f := 200000) (pc2 := 773) (ls2 := [(4, .int 0), (3, .ref 232), (2, .ref 162), (1, .ref 0), (0, .ref 11)]) (st2 := [.ref 0]) (h2 := zH0) (dc2 := 117) (ds2 := 29934) 2 rfl ?_
  refine zT_call (y2 := 116) (as := [.ref 0]) rfl rfl (zT_le (zg0_le 6 xs) hc) ?_
  refine zT_here (pc2 := 776) rfl ?_
  refine zT_gos (f := 200000) (pc2 := 777) (ls2 := [(4, .int 0), (3, .ref 232), (2, .ref 162), (1, .ref 0), (0, .ref 11)]) (st2 := [.ref 162, .int v]) (h2 := h1) (dc2 := 117 + d1) (ds2 := 29934 + s1) 1 rfl ?_
  refine zT_calv (y2 := 232) (as := []) rfl rfl hX rfl (zT_le (zg0_le 6 xs) hm) ?_
  refine zT_here (pc2 := 780) rfl ?_
  refine zT_if2 true rfl (zc_eq_t rfl) ?_
  refine zT_here (pc2 := 1804) rfl ?_
  refine zT_gos (f := 200000) (pc2 := 1811) (ls2 := [(4, .int 6), (3, .ref 232), (2, .ref 162), (1, .ref 0), (0, .ref 11)]) (st2 := [.int 1]) (h2 := h2) (dc2 := 117 + d1 + d2) (ds2 := 29934 + s1 + s2) 9 rfl ?_
  exact zT_ret rfl rfl
set_option maxRecDepth 1000000 in
set_option maxHeartbeats 4000000 in
theorem lw_17 (xs : Nat → Int32) (h0 : xs 0 &&& 63 = 17) {v : Int32} {h1 h2 : zH} {d1 s1 d2 s2 : Nat} {fs : List Value} (hc : zT zg0 zF zP 118 0 [(0, .ref 0)] [] zH0 0 0 (some (.int v), h1, d1, s1)) (hX : zat h1 162 = some (.inr (.inr (.inr (10, fs))))) (hm : zT zg0 zF zP 238 0 [(0, .ref 162)] [] h1 0 0 (some (.int v), h2, d2, s2)) (hd : 117 + d1 + d2 ≤ 600002) (hs : 29934 + s1 + s2 ≤ 7302232) : zDone xs := by
  refine ⟨h2, 117 + d1 + d2, 29934 + s1 + s2, ?_, hd, hs⟩
  refine zT_gos (f := 200000) (pc2 := 37) (ls2 := [(4, .int 0), (3, .ref 232), (2, .ref 162), (1, .ref 0), (0, .ref 11)]) (st2 := [.int (xs 0)]) (h2 := zH0) (dc2 := 117) (ds2 := 29934) 9 rfl ?_
  refine zT_gos (f := 200000) (pc2 := 40) (ls2 := [(4, .int 0), (3, .ref 232), (2, .ref 162), (1, .ref 0), (0, .ref 11)]) (st2 := [.int ((xs 0) &&& (63 : Int32))]) (h2 := zH0) (dc2 := 117) (ds2 := 29934) 2 rfl ?_
  refine zT_val h0 ?_
  refine zT_gos (f := 200000) (pc2 := 827) (ls2 := [(4, .int 0), (3, .ref 232), (2, .ref 162), (1, .ref 0), (0, .ref 11)]) (st2 := [.ref 0]) (h2 := zH0) (dc2 := 117) (ds2 := 29934) 2 rfl ?_
  refine zT_call (y2 := 118) (as := [.ref 0]) rfl rfl (zT_le (zg0_le 6 xs) hc) ?_
  refine zT_here (pc2 := 830) rfl ?_
  refine zT_gos (f := 200000) (pc2 := 831) (ls2 := [(4, .int 0), (3, .ref 232), (2, .ref 162), (1, .ref 0), (0, .ref 11)]) (st2 := [.ref 162, .int v]) (h2 := h1) (dc2 := 117 + d1) (ds2 := 29934 + s1) 1 rfl ?_
  refine zT_calv (y2 := 238) (as := []) rfl rfl hX rfl (zT_le (zg0_le 6 xs) hm) ?_
  refine zT_here (pc2 := 834) rfl ?_
  refine zT_if2 true rfl (zc_eq_t rfl) ?_
  refine zT_here (pc2 := 1804) rfl ?_
  refine zT_gos (f := 200000) (pc2 := 1811) (ls2 := [(4, .int 6), (3, .ref 232), (2, .ref 162), (1, .ref 0), (0, .ref 11)]) (st2 := [.int 1]) (h2 := h2) (dc2 := 117 + d1 + d2) (ds2 := 29934 + s1 + s2) 9 rfl ?_
  exact zT_ret rfl rfl
set_option maxRecDepth 1000000 in
set_option maxHeartbeats 4000000 in
theorem lw_18 (xs : Nat → Int32) (h0 : xs 0 &&& 63 = 18) {v : Int32} {h1 h2 : zH} {d1 s1 d2 s2 : Nat} {fs : List Value} (hc : zT zg0 zF zP 119 0 [(0, .ref 0), (1, .int (xs 1))] [] zH0 0 0 (some (.int v), h1, d1, s1)) (hX : zat h1 162 = some (.inr (.inr (.inr (10, fs))))) (hm : zT zg0 zF zP 239 0 [(0, .ref 162), (1, .int (xs 1))] [] h1 0 0 (some (.int v), h2, d2, s2)) (hd : 117 + d1 + d2 ≤ 600002) (hs : 29934 + s1 + s2 ≤ 7302232) : zDone xs := by
  refine ⟨h2, 117 + d1 + d2, 29934 + s1 + s2, ?_, hd, hs⟩
  refine zT_gos (f := 200000) (pc2 := 37) (ls2 := [(4, .int 0), (3, .ref 232), (2, .ref 162), (1, .ref 0), (0, .ref 11)]) (st2 := [.int (xs 0)]) (h2 := zH0) (dc2 := 117) (ds2 := 29934) 9 rfl ?_
  refine zT_gos (f := 200000) (pc2 := 40) (ls2 := [(4, .int 0), (3, .ref 232), (2, .ref 162), (1, .ref 0), (0, .ref 11)]) (st2 := [.int ((xs 0) &&& (63 : Int32))]) (h2 := zH0) (dc2 := 117) (ds2 := 29934) 2 rfl ?_
  refine zT_val h0 ?_
  refine zT_gos (f := 200000) (pc2 := 846) (ls2 := [(4, .int 0), (3, .ref 232), (2, .ref 162), (1, .ref 0), (0, .ref 11)]) (st2 := [.int (xs 1), .ref 0]) (h2 := zH0) (dc2 := 117) (ds2 := 29934) 7 rfl ?_
  refine zT_call (y2 := 119) (as := [.ref 0, .int (xs 1)]) rfl rfl (zT_le (zg0_le 6 xs) hc) ?_
  refine zT_here (pc2 := 849) rfl ?_
  refine zT_gos (f := 200000) (pc2 := 856) (ls2 := [(4, .int 0), (3, .ref 232), (2, .ref 162), (1, .ref 0), (0, .ref 11)]) (st2 := [.int (xs 1), .ref 162, .int v]) (h2 := h1) (dc2 := 117 + d1) (ds2 := 29934 + s1) 6 rfl ?_
  refine zT_calv (y2 := 239) (as := [.int (xs 1)]) rfl rfl hX rfl (zT_le (zg0_le 6 xs) hm) ?_
  refine zT_here (pc2 := 859) rfl ?_
  refine zT_if2 true rfl (zc_eq_t rfl) ?_
  refine zT_here (pc2 := 1804) rfl ?_
  refine zT_gos (f := 200000) (pc2 := 1811) (ls2 := [(4, .int 6), (3, .ref 232), (2, .ref 162), (1, .ref 0), (0, .ref 11)]) (st2 := [.int 1]) (h2 := h2) (dc2 := 117 + d1 + d2) (ds2 := 29934 + s1 + s2) 9 rfl ?_
  exact zT_ret rfl rfl
set_option maxRecDepth 1000000 in
set_option maxHeartbeats 4000000 in
theorem lw_35 (xs : Nat → Int32) (h0 : xs 0 &&& 63 = 35) {v : Int32} {h1 h2 : zH} {d1 s1 d2 s2 : Nat} {fs : List Value} (hc : zT zg0 zF zP 136 0 [(0, .ref 0), (1, .int (xs 1)), (2, .int (xs 2))] [] zH0 0 0 (some (.int v), h1, d1, s1)) (hX : zat h1 162 = some (.inr (.inr (.inr (10, fs))))) (hm : zT zg0 zF zP 276 0 [(0, .ref 162), (1, .int (xs 1)), (2, .int (xs 2))] [] h1 0 0 (some (.int v), h2, d2, s2)) (hd : 117 + d1 + d2 ≤ 600002) (hs : 29934 + s1 + s2 ≤ 7302232) : zDone xs := by
  refine ⟨h2, 117 + d1 + d2, 29934 + s1 + s2, ?_, hd, hs⟩
  refine zT_gos (f := 200000) (pc2 := 37) (ls2 := [(4, .int 0), (3, .ref 232), (2, .ref 162), (1, .ref 0), (0, .ref 11)]) (st2 := [.int (xs 0)]) (h2 := zH0) (dc2 := 117) (ds2 := 29934) 9 rfl ?_
  refine zT_gos (f := 200000) (pc2 := 40) (ls2 := [(4, .int 0), (3, .ref 232), (2, .ref 162), (1, .ref 0), (0, .ref 11)]) (st2 := [.int ((xs 0) &&& (63 : Int32))]) (h2 := zH0) (dc2 := 117) (ds2 := 29934) 2 rfl ?_
  refine zT_val h0 ?_
  refine zT_gos (f := 200000) (pc2 := 1642) (ls2 := [(4, .int 0), (3, .ref 232), (2, .ref 162), (1, .ref 0), (0, .ref 11)]) (st2 := [.int (xs 2), .int (xs 1), .ref 0]) (h2 := zH0) (dc2 := 117) (ds2 := 29934) 12 rfl ?_
  refine zT_call (y2 := 136) (as := [.ref 0, .int (xs 1), .int (xs 2)]) rfl rfl (zT_le (zg0_le 6 xs) hc) ?_
  refine zT_here (pc2 := 1645) rfl ?_
  refine zT_gos (f := 200000) (pc2 := 1658) (ls2 := [(4, .int 0), (3, .ref 232), (2, .ref 162), (1, .ref 0), (0, .ref 11)]) (st2 := [.int (xs 2), .int (xs 1), .ref 162, .int v]) (h2 := h1) (dc2 := 117 + d1) (ds2 := 29934 + s1) 11 rfl ?_
  refine zT_calv (y2 := 276) (as := [.int (xs 1), .int (xs 2)]) rfl rfl hX rfl (zT_le (zg0_le 6 xs) hm) ?_
  refine zT_here (pc2 := 1661) rfl ?_
  refine zT_if2 true rfl (zc_eq_t rfl) ?_
  refine zT_here (pc2 := 1804) rfl ?_
  refine zT_gos (f := 200000) (pc2 := 1811) (ls2 := [(4, .int 6), (3, .ref 232), (2, .ref 162), (1, .ref 0), (0, .ref 11)]) (st2 := [.int 1]) (h2 := h2) (dc2 := 117 + d1 + d2) (ds2 := 29934 + s1 + s2) 9 rfl ?_
  exact zT_ret rfl rfl
set_option maxRecDepth 1000000 in
set_option maxHeartbeats 4000000 in
theorem lw_36 (xs : Nat → Int32) (h0 : xs 0 &&& 63 = 36) {v : Int32} {h1 h2 : zH} {d1 s1 d2 s2 : Nat} {fs : List Value} (hc : zT zg0 zF zP 137 0 [(0, .ref 0), (1, .int (xs 1))] [] zH0 0 0 (some (.int v), h1, d1, s1)) (hX : zat h1 162 = some (.inr (.inr (.inr (10, fs))))) (hm : zT zg0 zF zP 277 0 [(0, .ref 162), (1, .int (xs 1))] [] h1 0 0 (some (.int v), h2, d2, s2)) (hd : 117 + d1 + d2 ≤ 600002) (hs : 29934 + s1 + s2 ≤ 7302232) : zDone xs := by
  refine ⟨h2, 117 + d1 + d2, 29934 + s1 + s2, ?_, hd, hs⟩
  refine zT_gos (f := 200000) (pc2 := 37) (ls2 := [(4, .int 0), (3, .ref 232), (2, .ref 162), (1, .ref 0), (0, .ref 11)]) (st2 := [.int (xs 0)]) (h2 := zH0) (dc2 := 117) (ds2 := 29934) 9 rfl ?_
  refine zT_gos (f := 200000) (pc2 := 40) (ls2 := [(4, .int 0), (3, .ref 232), (2, .ref 162), (1, .ref 0), (0, .ref 11)]) (st2 := [.int ((xs 0) &&& (63 : Int32))]) (h2 := zH0) (dc2 := 117) (ds2 := 29934) 2 rfl ?_
  refine zT_val h0 ?_
  refine zT_gos (f := 200000) (pc2 := 1673) (ls2 := [(4, .int 0), (3, .ref 232), (2, .ref 162), (1, .ref 0), (0, .ref 11)]) (st2 := [.int (xs 1), .ref 0]) (h2 := zH0) (dc2 := 117) (ds2 := 29934) 7 rfl ?_
  refine zT_call (y2 := 137) (as := [.ref 0, .int (xs 1)]) rfl rfl (zT_le (zg0_le 6 xs) hc) ?_
  refine zT_here (pc2 := 1676) rfl ?_
  refine zT_gos (f := 200000) (pc2 := 1683) (ls2 := [(4, .int 0), (3, .ref 232), (2, .ref 162), (1, .ref 0), (0, .ref 11)]) (st2 := [.int (xs 1), .ref 162, .int v]) (h2 := h1) (dc2 := 117 + d1) (ds2 := 29934 + s1) 6 rfl ?_
  refine zT_calv (y2 := 277) (as := [.int (xs 1)]) rfl rfl hX rfl (zT_le (zg0_le 6 xs) hm) ?_
  refine zT_here (pc2 := 1686) rfl ?_
  refine zT_if2 true rfl (zc_eq_t rfl) ?_
  refine zT_here (pc2 := 1804) rfl ?_
  refine zT_gos (f := 200000) (pc2 := 1811) (ls2 := [(4, .int 6), (3, .ref 232), (2, .ref 162), (1, .ref 0), (0, .ref 11)]) (st2 := [.int 1]) (h2 := h2) (dc2 := 117 + d1 + d2) (ds2 := 29934 + s1 + s2) 9 rfl ?_
  exact zT_ret rfl rfl
set_option maxRecDepth 1000000 in
set_option maxHeartbeats 4000000 in
theorem lw_37 (xs : Nat → Int32) (h0 : xs 0 &&& 63 = 37) {v : Int32} {h1 h2 : zH} {d1 s1 d2 s2 : Nat} {fs : List Value} (hc : zT zg0 zF zP 138 0 [(0, .ref 0), (1, .int (xs 1)), (2, .int (xs 2)), (3, .int (xs 3))] [] zH0 0 0 (some (.int v), h1, d1, s1)) (hX : zat h1 162 = some (.inr (.inr (.inr (10, fs))))) (hm : zT zg0 zF zP 280 0 [(0, .ref 162), (1, .int (xs 1)), (2, .int (xs 2)), (3, .int (xs 3))] [] h1 0 0 (some (.int v), h2, d2, s2)) (hd : 117 + d1 + d2 ≤ 600002) (hs : 29934 + s1 + s2 ≤ 7302232) : zDone xs := by
  refine ⟨h2, 117 + d1 + d2, 29934 + s1 + s2, ?_, hd, hs⟩
  refine zT_gos (f := 200000) (pc2 := 37) (ls2 := [(4, .int 0), (3, .ref 232), (2, .ref 162), (1, .ref 0), (0, .ref 11)]) (st2 := [.int (xs 0)]) (h2 := zH0) (dc2 := 117) (ds2 := 29934) 9 rfl ?_
  refine zT_gos (f := 200000) (pc2 := 40) (ls2 := [(4, .int 0), (3, .ref 232), (2, .ref 162), (1, .ref 0), (0, .ref 11)]) (st2 := [.int ((xs 0) &&& (63 : Int32))]) (h2 := zH0) (dc2 := 117) (ds2 := 29934) 2 rfl ?_
  refine zT_val h0 ?_
  refine zT_gos (f := 200000) (pc2 := 1710) (ls2 := [(4, .int 0), (3, .ref 232), (2, .ref 162), (1, .ref 0), (0, .ref 11)]) (st2 := [.int (xs 3), .int (xs 2), .int (xs 1), .ref 0]) (h2 := zH0) (dc2 := 117) (ds2 := 29934) 17 rfl ?_
  refine zT_call (y2 := 138) (as := [.ref 0, .int (xs 1), .int (xs 2), .int (xs 3)]) rfl rfl (zT_le (zg0_le 6 xs) hc) ?_
  refine zT_here (pc2 := 1713) rfl ?_
  refine zT_gos (f := 200000) (pc2 := 1732) (ls2 := [(4, .int 0), (3, .ref 232), (2, .ref 162), (1, .ref 0), (0, .ref 11)]) (st2 := [.int (xs 3), .int (xs 2), .int (xs 1), .ref 162, .int v]) (h2 := h1) (dc2 := 117 + d1) (ds2 := 29934 + s1) 16 rfl ?_
  refine zT_calv (y2 := 280) (as := [.int (xs 1), .int (xs 2), .int (xs 3)]) rfl rfl hX rfl (zT_le (zg0_le 6 xs) hm) ?_
  refine zT_here (pc2 := 1735) rfl ?_
  refine zT_if2 true rfl (zc_eq_t rfl) ?_
  refine zT_here (pc2 := 1804) rfl ?_
  refine zT_gos (f := 200000) (pc2 := 1811) (ls2 := [(4, .int 6), (3, .ref 232), (2, .ref 162), (1, .ref 0), (0, .ref 11)]) (st2 := [.int 1]) (h2 := h2) (dc2 := 117 + d1 + d2) (ds2 := 29934 + s1 + s2) 9 rfl ?_
  exact zT_ret rfl rfl
set_option maxRecDepth 1000000 in
set_option maxHeartbeats 4000000 in
theorem lw_16t (xs : Nat → Int32) (h0 : xs 0 &&& 63 = 16) (hb1 : xs 1 ≠ 0) {v : Int32} {h1 h2 : zH} {d1 s1 d2 s2 : Nat} {fs : List Value} (hc : zT zg0 zF zP 117 0 [(0, .ref 0), (1, .int 1)] [] zH0 0 0 (some (.int v), h1, d1, s1)) (hX : zat h1 162 = some (.inr (.inr (.inr (10, fs))))) (hm : zT zg0 zF zP 237 0 [(0, .ref 162), (1, .int 1)] [] h1 0 0 (some (.int v), h2, d2, s2)) (hd : 117 + d1 + d2 ≤ 600002) (hs : 29934 + s1 + s2 ≤ 7302232) : zDone xs := by
  refine ⟨h2, 117 + d1 + d2, 29934 + s1 + s2, ?_, hd, hs⟩
  refine zT_gos (f := 200000) (pc2 := 37) (ls2 := [(4, .int 0), (3, .ref 232), (2, .ref 162), (1, .ref 0), (0, .ref 11)]) (st2 := [.int (xs 0)]) (h2 := zH0) (dc2 := 117) (ds2 := 29934) 9 rfl ?_
  refine zT_gos (f := 200000) (pc2 := 40) (ls2 := [(4, .int 0), (3, .ref 232), (2, .ref 162), (1, .ref 0), (0, .ref 11)]) (st2 := [.int ((xs 0) &&& (63 : Int32))]) (h2 := zH0) (dc2 := 117) (ds2 := 29934) 2 rfl ?_
  refine zT_val h0 ?_
  refine zT_gos (f := 200000) (pc2 := 792) (ls2 := [(4, .int 0), (3, .ref 232), (2, .ref 162), (1, .ref 0), (0, .ref 11)]) (st2 := [.int (xs 1), .ref 0]) (h2 := zH0) (dc2 := 117) (ds2 := 29934) 7 rfl ?_
  refine zT_if0 false rfl (zc_eq_f (fun q => hb1 (Int32.toInt_inj.mp q))) ?_
  refine zT_here (pc2 := 795) rfl ?_
  refine zT_gos (f := 200000) (pc2 := 800) (ls2 := [(4, .int 0), (3, .ref 232), (2, .ref 162), (1, .ref 0), (0, .ref 11)]) (st2 := [.int 1, .ref 0]) (h2 := zH0) (dc2 := 117) (ds2 := 29934) 2 rfl ?_
  refine zT_call (y2 := 117) (as := [.ref 0, .int 1]) rfl rfl (zT_le (zg0_le 6 xs) hc) ?_
  refine zT_here (pc2 := 803) rfl ?_
  refine zT_gos (f := 200000) (pc2 := 810) (ls2 := [(4, .int 0), (3, .ref 232), (2, .ref 162), (1, .ref 0), (0, .ref 11)]) (st2 := [.int (xs 1), .ref 162, .int v]) (h2 := h1) (dc2 := 117 + d1) (ds2 := 29934 + s1) 6 rfl ?_
  refine zT_if0 false rfl (zc_eq_f (fun q => hb1 (Int32.toInt_inj.mp q))) ?_
  refine zT_here (pc2 := 813) rfl ?_
  refine zT_gos (f := 200000) (pc2 := 818) (ls2 := [(4, .int 0), (3, .ref 232), (2, .ref 162), (1, .ref 0), (0, .ref 11)]) (st2 := [.int 1, .ref 162, .int v]) (h2 := h1) (dc2 := 117 + d1) (ds2 := 29934 + s1) 2 rfl ?_
  refine zT_calv (y2 := 237) (as := [.int 1]) rfl rfl hX rfl (zT_le (zg0_le 6 xs) hm) ?_
  refine zT_here (pc2 := 821) rfl ?_
  refine zT_if2 true rfl (zc_eq_t rfl) ?_
  refine zT_here (pc2 := 1804) rfl ?_
  refine zT_gos (f := 200000) (pc2 := 1811) (ls2 := [(4, .int 6), (3, .ref 232), (2, .ref 162), (1, .ref 0), (0, .ref 11)]) (st2 := [.int 1]) (h2 := h2) (dc2 := 117 + d1 + d2) (ds2 := 29934 + s1 + s2) 9 rfl ?_
  exact zT_ret rfl rfl
set_option maxRecDepth 1000000 in
set_option maxHeartbeats 4000000 in
theorem lw_16f (xs : Nat → Int32) (h0 : xs 0 &&& 63 = 16) (hb1 : xs 1 = 0) {v : Int32} {h1 h2 : zH} {d1 s1 d2 s2 : Nat} {fs : List Value} (hc : zT zg0 zF zP 117 0 [(0, .ref 0), (1, .int 0)] [] zH0 0 0 (some (.int v), h1, d1, s1)) (hX : zat h1 162 = some (.inr (.inr (.inr (10, fs))))) (hm : zT zg0 zF zP 237 0 [(0, .ref 162), (1, .int 0)] [] h1 0 0 (some (.int v), h2, d2, s2)) (hd : 117 + d1 + d2 ≤ 600002) (hs : 29934 + s1 + s2 ≤ 7302232) : zDone xs := by
  refine ⟨h2, 117 + d1 + d2, 29934 + s1 + s2, ?_, hd, hs⟩
  refine zT_gos (f := 200000) (pc2 := 37) (ls2 := [(4, .int 0), (3, .ref 232), (2, .ref 162), (1, .ref 0), (0, .ref 11)]) (st2 := [.int (xs 0)]) (h2 := zH0) (dc2 := 117) (ds2 := 29934) 9 rfl ?_
  refine zT_gos (f := 200000) (pc2 := 40) (ls2 := [(4, .int 0), (3, .ref 232), (2, .ref 162), (1, .ref 0), (0, .ref 11)]) (st2 := [.int ((xs 0) &&& (63 : Int32))]) (h2 := zH0) (dc2 := 117) (ds2 := 29934) 2 rfl ?_
  refine zT_val h0 ?_
  refine zT_gos (f := 200000) (pc2 := 792) (ls2 := [(4, .int 0), (3, .ref 232), (2, .ref 162), (1, .ref 0), (0, .ref 11)]) (st2 := [.int (xs 1), .ref 0]) (h2 := zH0) (dc2 := 117) (ds2 := 29934) 7 rfl ?_
  refine zT_if0 true rfl (zc_eq_t (by rw [hb1])) ?_
  refine zT_here (pc2 := 799) rfl ?_
  refine zT_gos (f := 200000) (pc2 := 800) (ls2 := [(4, .int 0), (3, .ref 232), (2, .ref 162), (1, .ref 0), (0, .ref 11)]) (st2 := [.int 0, .ref 0]) (h2 := zH0) (dc2 := 117) (ds2 := 29934) 1 rfl ?_
  refine zT_call (y2 := 117) (as := [.ref 0, .int 0]) rfl rfl (zT_le (zg0_le 6 xs) hc) ?_
  refine zT_here (pc2 := 803) rfl ?_
  refine zT_gos (f := 200000) (pc2 := 810) (ls2 := [(4, .int 0), (3, .ref 232), (2, .ref 162), (1, .ref 0), (0, .ref 11)]) (st2 := [.int (xs 1), .ref 162, .int v]) (h2 := h1) (dc2 := 117 + d1) (ds2 := 29934 + s1) 6 rfl ?_
  refine zT_if0 true rfl (zc_eq_t (by rw [hb1])) ?_
  refine zT_here (pc2 := 817) rfl ?_
  refine zT_gos (f := 200000) (pc2 := 818) (ls2 := [(4, .int 0), (3, .ref 232), (2, .ref 162), (1, .ref 0), (0, .ref 11)]) (st2 := [.int 0, .ref 162, .int v]) (h2 := h1) (dc2 := 117 + d1) (ds2 := 29934 + s1) 1 rfl ?_
  refine zT_calv (y2 := 237) (as := [.int 0]) rfl rfl hX rfl (zT_le (zg0_le 6 xs) hm) ?_
  refine zT_here (pc2 := 821) rfl ?_
  refine zT_if2 true rfl (zc_eq_t rfl) ?_
  refine zT_here (pc2 := 1804) rfl ?_
  refine zT_gos (f := 200000) (pc2 := 1811) (ls2 := [(4, .int 6), (3, .ref 232), (2, .ref 162), (1, .ref 0), (0, .ref 11)]) (st2 := [.int 1]) (h2 := h2) (dc2 := 117 + d1 + d2) (ds2 := 29934 + s1 + s2) 9 rfl ?_
  exact zT_ret rfl rfl
