/-! The class: what changes nothing: numbers, places, ticks, a route's answers. -/
noncomputable def jnumv (p : Int64) (j : Int32) : Int32 := (((((p).toUInt64 >>> ((((40 : Int32) - ((8 : Int32) * j))).toInt64.toUInt64 &&& Int64.toUInt64 63)).toInt64 &&& (255 : Int64))).toInt32 - (64 : Int32))
set_option maxRecDepth 100000 in
set_option maxHeartbeats 4000000 in
theorem c_numv {h : zH} {p : Int64} {j : Int32}   : wq 33 0 [(0, .long p), (2, .int j)] [] h 0 0 (fun rr9 => rr9 = (some (.int (jnumv p j)), h, 0, 0)) := by
  refine wq_gos (f := 1) (pc2 := 17) (ls2 := [(0, .long p), (2, .int j)]) (st2 := [.int (((((p).toUInt64 >>> ((((40 : Int32) - ((8 : Int32) * j))).toInt64.toUInt64 &&& Int64.toUInt64 63)).toInt64 &&& (255 : Int64))).toInt32 - (64 : Int32))]) (h2 := h) (dc2 := 0) (ds2 := 0) 12 rfl ?_
  have w1x : (jnumv p j) = (((((p).toUInt64 >>> ((((40 : Int32) - ((8 : Int32) * j))).toInt64.toUInt64 &&& Int64.toUInt64 63)).toInt64 &&& (255 : Int64))).toInt32 - (64 : Int32)) := by unfold jnumv; rfl
  rw [w1x]
  exact wq_ret rfl rfl rfl
noncomputable def jwithv (p : Int64) (j v : Int32) : Int64 := ((p &&& (((255 : Int64) <<< ((((40 : Int32) - ((8 : Int32) * j))).toInt64 &&& 63)) ^^^ (-1 : Int64))) ||| ((((v + (64 : Int32)) &&& (255 : Int32))).toInt64 <<< ((((40 : Int32) - ((8 : Int32) * j))).toInt64 &&& 63)))
set_option maxRecDepth 100000 in
set_option maxHeartbeats 4000000 in
theorem c_withv {h : zH} {p : Int64} {j v : Int32}   : wq 34 0 [(0, .long p), (2, .int j), (3, .int v)] [] h 0 0 (fun rr9 => rr9 = (some (.long (jwithv p j v)), h, 0, 0)) := by
  refine wq_gos (f := 1) (pc2 := 34) (ls2 := [(4, .int ((40 : Int32) - ((8 : Int32) * j))), (0, .long p), (2, .int j), (3, .int v)]) (st2 := [.long ((p &&& (((255 : Int64) <<< ((((40 : Int32) - ((8 : Int32) * j))).toInt64 &&& 63)) ^^^ (-1 : Int64))) ||| ((((v + (64 : Int32)) &&& (255 : Int32))).toInt64 <<< ((((40 : Int32) - ((8 : Int32) * j))).toInt64 &&& 63)))]) (h2 := h) (dc2 := 0) (ds2 := 0) 22 rfl ?_
  have w1x : (jwithv p j v) = ((p &&& (((255 : Int64) <<< ((((40 : Int32) - ((8 : Int32) * j))).toInt64 &&& 63)) ^^^ (-1 : Int64))) ||| ((((v + (64 : Int32)) &&& (255 : Int32))).toInt64 <<< ((((40 : Int32) - ((8 : Int32) * j))).toInt64 &&& 63))) := by unfold jwithv; rfl
  rw [w1x]
  exact wq_ret rfl rfl rfl
noncomputable def jOut (lk hd : Int32) (p : Int64) : Int32 := ((lk * ((jcos (jnum p 24)) + (jcos ((jnum p 24) + (jnum p 16))))) + (hd * (jcos (((jnum p 24) + (jnum p 16)) + (jnum p 8)))))
set_option maxRecDepth 100000 in
set_option maxHeartbeats 4000000 in
theorem c_outOf {h : zH} {ra : Nat} {lk hd ht bl sd sp so : Int32} {rt : Int64} {p : Int64} (hA : zat h ra = some (.inr (.inr (.inr (0, [.int lk, .int hd, .int ht, .int bl, .int sd, .long rt, .ref (ra + 2), .ref (ra + 4), .ref (ra + 6), .int sp, .ref (ra + 8), .ref (ra + 10), .int so, .ref (ra + 12)])))))  : wq 5 0 [(0, .ref ra), (1, .long p)] [] h 0 0 (fun rr9 => rr9 = (some (.int (jOut lk hd p)), h, 0, 0)) := by
  refine wq_gos (f := 1) (pc2 := 2) (ls2 := [(0, .ref ra), (1, .long p)]) (st2 := [.int 2, .long p]) (h2 := h) (dc2 := 0) (ds2 := 0) 2 rfl ?_
  refine wq_inl (y2 := 33) (as := [.long p, .int 2]) rfl rfl rfl (wq_T (c_num_2 p h) ?_)
  show wq 5 5 [(0, .ref ra), (1, .long p)] [.int (jnum p 24)] h 0 0 _
  refine wq_gos (f := 1) (pc2 := 9) (ls2 := [(3, .int (jnum p 24)), (0, .ref ra), (1, .long p)]) (st2 := [.int 3, .long p, .int (jnum p 24)]) (h2 := h) (dc2 := 0) (ds2 := 0) 4 rfl ?_
  refine wq_inl (y2 := 33) (as := [.long p, .int 3]) rfl rfl rfl (wq_T (c_num_3 p h) ?_)
  show wq 5 12 [(3, .int (jnum p 24)), (0, .ref ra), (1, .long p)] [.int (jnum p 16), .int (jnum p 24)] h 0 0 _
  refine wq_gos (f := 1) (pc2 := 16) (ls2 := [(4, .int ((jnum p 24) + (jnum p 16))), (3, .int (jnum p 24)), (0, .ref ra), (1, .long p)]) (st2 := [.ref ra]) (h2 := h) (dc2 := 0) (ds2 := 0) 3 rfl ?_
  refine wq_getf rfl hA rfl rfl ?_
  refine wq_gos (f := 1) (pc2 := 20) (ls2 := [(4, .int ((jnum p 24) + (jnum p 16))), (3, .int (jnum p 24)), (0, .ref ra), (1, .long p)]) (st2 := [.int (jnum p 24), .int lk]) (h2 := h) (dc2 := 0) (ds2 := 0) 1 rfl ?_
  refine wq_inl (y2 := 149) (as := [.int (jnum p 24)]) rfl rfl rfl (wq_T (c_cos (jnum p 24) h) ?_)
  show wq 5 23 [(4, .int ((jnum p 24) + (jnum p 16))), (3, .int (jnum p 24)), (0, .ref ra), (1, .long p)] [.int (jcos (jnum p 24)), .int lk] h 0 0 _
  refine wq_gos (f := 1) (pc2 := 25) (ls2 := [(4, .int ((jnum p 24) + (jnum p 16))), (3, .int (jnum p 24)), (0, .ref ra), (1, .long p)]) (st2 := [.int ((jnum p 24) + (jnum p 16)), .int (jcos (jnum p 24)), .int lk]) (h2 := h) (dc2 := 0) (ds2 := 0) 1 rfl ?_
  refine wq_inl (y2 := 149) (as := [.int ((jnum p 24) + (jnum p 16))]) rfl rfl rfl (wq_T (c_cos ((jnum p 24) + (jnum p 16)) h) ?_)
  show wq 5 28 [(4, .int ((jnum p 24) + (jnum p 16))), (3, .int (jnum p 24)), (0, .ref ra), (1, .long p)] [.int (jcos ((jnum p 24) + (jnum p 16))), .int (jcos (jnum p 24)), .int lk] h 0 0 _
  refine wq_gos (f := 1) (pc2 := 31) (ls2 := [(4, .int ((jnum p 24) + (jnum p 16))), (3, .int (jnum p 24)), (0, .ref ra), (1, .long p)]) (st2 := [.ref ra, .int (lk * ((jcos (jnum p 24)) + (jcos ((jnum p 24) + (jnum p 16)))))]) (h2 := h) (dc2 := 0) (ds2 := 0) 3 rfl ?_
  refine wq_getf rfl hA rfl rfl ?_
  refine wq_gos (f := 1) (pc2 := 38) (ls2 := [(4, .int ((jnum p 24) + (jnum p 16))), (3, .int (jnum p 24)), (0, .ref ra), (1, .long p)]) (st2 := [.int 4, .long p, .int ((jnum p 24) + (jnum p 16)), .int hd, .int (lk * ((jcos (jnum p 24)) + (jcos ((jnum p 24) + (jnum p 16)))))]) (h2 := h) (dc2 := 0) (ds2 := 0) 3 rfl ?_
  refine wq_inl (y2 := 33) (as := [.long p, .int 4]) rfl rfl rfl (wq_T (c_num_4 p h) ?_)
  show wq 5 41 [(4, .int ((jnum p 24) + (jnum p 16))), (3, .int (jnum p 24)), (0, .ref ra), (1, .long p)] [.int (jnum p 8), .int ((jnum p 24) + (jnum p 16)), .int hd, .int (lk * ((jcos (jnum p 24)) + (jcos ((jnum p 24) + (jnum p 16)))))] h 0 0 _
  refine wq_gos (f := 1) (pc2 := 42) (ls2 := [(4, .int ((jnum p 24) + (jnum p 16))), (3, .int (jnum p 24)), (0, .ref ra), (1, .long p)]) (st2 := [.int (((jnum p 24) + (jnum p 16)) + (jnum p 8)), .int hd, .int (lk * ((jcos (jnum p 24)) + (jcos ((jnum p 24) + (jnum p 16)))))]) (h2 := h) (dc2 := 0) (ds2 := 0) 1 rfl ?_
  refine wq_inl (y2 := 149) (as := [.int (((jnum p 24) + (jnum p 16)) + (jnum p 8))]) rfl rfl rfl (wq_T (c_cos (((jnum p 24) + (jnum p 16)) + (jnum p 8)) h) ?_)
  show wq 5 45 [(4, .int ((jnum p 24) + (jnum p 16))), (3, .int (jnum p 24)), (0, .ref ra), (1, .long p)] [.int (jcos (((jnum p 24) + (jnum p 16)) + (jnum p 8))), .int hd, .int (lk * ((jcos (jnum p 24)) + (jcos ((jnum p 24) + (jnum p 16)))))] h 0 0 _
  refine wq_gos (f := 1) (pc2 := 47) (ls2 := [(4, .int ((jnum p 24) + (jnum p 16))), (3, .int (jnum p 24)), (0, .ref ra), (1, .long p)]) (st2 := [.int ((lk * ((jcos (jnum p 24)) + (jcos ((jnum p 24) + (jnum p 16))))) + (hd * (jcos (((jnum p 24) + (jnum p 16)) + (jnum p 8)))))]) (h2 := h) (dc2 := 0) (ds2 := 0) 2 rfl ?_
  have w1x : (jOut lk hd p) = ((lk * ((jcos (jnum p 24)) + (jcos ((jnum p 24) + (jnum p 16))))) + (hd * (jcos (((jnum p 24) + (jnum p 16)) + (jnum p 8))))) := by unfold jOut; rfl
  rw [w1x]
  exact wq_ret rfl rfl rfl
noncomputable def jRise (lk hd ht : Int32) (p : Int64) : Int32 := ((((1000 : Int32) * ht) + (lk * ((jsin (jnum p 24)) + (jsin ((jnum p 24) + (jnum p 16)))))) + (hd * (jsin (((jnum p 24) + (jnum p 16)) + (jnum p 8)))))
set_option maxRecDepth 100000 in
set_option maxHeartbeats 4000000 in
theorem c_riseOf {h : zH} {ra : Nat} {lk hd ht bl sd sp so : Int32} {rt : Int64} {p : Int64} (hA : zat h ra = some (.inr (.inr (.inr (0, [.int lk, .int hd, .int ht, .int bl, .int sd, .long rt, .ref (ra + 2), .ref (ra + 4), .ref (ra + 6), .int sp, .ref (ra + 8), .ref (ra + 10), .int so, .ref (ra + 12)])))))  : wq 6 0 [(0, .ref ra), (1, .long p)] [] h 0 0 (fun rr9 => rr9 = (some (.int (jRise lk hd ht p)), h, 0, 0)) := by
  refine wq_gos (f := 1) (pc2 := 2) (ls2 := [(0, .ref ra), (1, .long p)]) (st2 := [.int 2, .long p]) (h2 := h) (dc2 := 0) (ds2 := 0) 2 rfl ?_
  refine wq_inl (y2 := 33) (as := [.long p, .int 2]) rfl rfl rfl (wq_T (c_num_2 p h) ?_)
  show wq 6 5 [(0, .ref ra), (1, .long p)] [.int (jnum p 24)] h 0 0 _
  refine wq_gos (f := 1) (pc2 := 9) (ls2 := [(3, .int (jnum p 24)), (0, .ref ra), (1, .long p)]) (st2 := [.int 3, .long p, .int (jnum p 24)]) (h2 := h) (dc2 := 0) (ds2 := 0) 4 rfl ?_
  refine wq_inl (y2 := 33) (as := [.long p, .int 3]) rfl rfl rfl (wq_T (c_num_3 p h) ?_)
  show wq 6 12 [(3, .int (jnum p 24)), (0, .ref ra), (1, .long p)] [.int (jnum p 16), .int (jnum p 24)] h 0 0 _
  refine wq_gos (f := 1) (pc2 := 19) (ls2 := [(4, .int ((jnum p 24) + (jnum p 16))), (3, .int (jnum p 24)), (0, .ref ra), (1, .long p)]) (st2 := [.ref ra, .int 1000]) (h2 := h) (dc2 := 0) (ds2 := 0) 4 rfl ?_
  refine wq_getf rfl hA rfl rfl ?_
  refine wq_gos (f := 1) (pc2 := 24) (ls2 := [(4, .int ((jnum p 24) + (jnum p 16))), (3, .int (jnum p 24)), (0, .ref ra), (1, .long p)]) (st2 := [.ref ra, .int ((1000 : Int32) * ht)]) (h2 := h) (dc2 := 0) (ds2 := 0) 2 rfl ?_
  refine wq_getf rfl hA rfl rfl ?_
  refine wq_gos (f := 1) (pc2 := 28) (ls2 := [(4, .int ((jnum p 24) + (jnum p 16))), (3, .int (jnum p 24)), (0, .ref ra), (1, .long p)]) (st2 := [.int (jnum p 24), .int lk, .int ((1000 : Int32) * ht)]) (h2 := h) (dc2 := 0) (ds2 := 0) 1 rfl ?_
  refine wq_inl (y2 := 150) (as := [.int (jnum p 24)]) rfl rfl rfl (wq_T (c_sin (jnum p 24) h) ?_)
  show wq 6 31 [(4, .int ((jnum p 24) + (jnum p 16))), (3, .int (jnum p 24)), (0, .ref ra), (1, .long p)] [.int (jsin (jnum p 24)), .int lk, .int ((1000 : Int32) * ht)] h 0 0 _
  refine wq_gos (f := 1) (pc2 := 33) (ls2 := [(4, .int ((jnum p 24) + (jnum p 16))), (3, .int (jnum p 24)), (0, .ref ra), (1, .long p)]) (st2 := [.int ((jnum p 24) + (jnum p 16)), .int (jsin (jnum p 24)), .int lk, .int ((1000 : Int32) * ht)]) (h2 := h) (dc2 := 0) (ds2 := 0) 1 rfl ?_
  refine wq_inl (y2 := 150) (as := [.int ((jnum p 24) + (jnum p 16))]) rfl rfl rfl (wq_T (c_sin ((jnum p 24) + (jnum p 16)) h) ?_)
  show wq 6 36 [(4, .int ((jnum p 24) + (jnum p 16))), (3, .int (jnum p 24)), (0, .ref ra), (1, .long p)] [.int (jsin ((jnum p 24) + (jnum p 16))), .int (jsin (jnum p 24)), .int lk, .int ((1000 : Int32) * ht)] h 0 0 _
  refine wq_gos (f := 1) (pc2 := 40) (ls2 := [(4, .int ((jnum p 24) + (jnum p 16))), (3, .int (jnum p 24)), (0, .ref ra), (1, .long p)]) (st2 := [.ref ra, .int (((1000 : Int32) * ht) + (lk * ((jsin (jnum p 24)) + (jsin ((jnum p 24) + (jnum p 16))))))]) (h2 := h) (dc2 := 0) (ds2 := 0) 4 rfl ?_
  refine wq_getf rfl hA rfl rfl ?_
  refine wq_gos (f := 1) (pc2 := 47) (ls2 := [(4, .int ((jnum p 24) + (jnum p 16))), (3, .int (jnum p 24)), (0, .ref ra), (1, .long p)]) (st2 := [.int 4, .long p, .int ((jnum p 24) + (jnum p 16)), .int hd, .int (((1000 : Int32) * ht) + (lk * ((jsin (jnum p 24)) + (jsin ((jnum p 24) + (jnum p 16))))))]) (h2 := h) (dc2 := 0) (ds2 := 0) 3 rfl ?_
  refine wq_inl (y2 := 33) (as := [.long p, .int 4]) rfl rfl rfl (wq_T (c_num_4 p h) ?_)
  show wq 6 50 [(4, .int ((jnum p 24) + (jnum p 16))), (3, .int (jnum p 24)), (0, .ref ra), (1, .long p)] [.int (jnum p 8), .int ((jnum p 24) + (jnum p 16)), .int hd, .int (((1000 : Int32) * ht) + (lk * ((jsin (jnum p 24)) + (jsin ((jnum p 24) + (jnum p 16))))))] h 0 0 _
  refine wq_gos (f := 1) (pc2 := 51) (ls2 := [(4, .int ((jnum p 24) + (jnum p 16))), (3, .int (jnum p 24)), (0, .ref ra), (1, .long p)]) (st2 := [.int (((jnum p 24) + (jnum p 16)) + (jnum p 8)), .int hd, .int (((1000 : Int32) * ht) + (lk * ((jsin (jnum p 24)) + (jsin ((jnum p 24) + (jnum p 16))))))]) (h2 := h) (dc2 := 0) (ds2 := 0) 1 rfl ?_
  refine wq_inl (y2 := 150) (as := [.int (((jnum p 24) + (jnum p 16)) + (jnum p 8))]) rfl rfl rfl (wq_T (c_sin (((jnum p 24) + (jnum p 16)) + (jnum p 8)) h) ?_)
  show wq 6 54 [(4, .int ((jnum p 24) + (jnum p 16))), (3, .int (jnum p 24)), (0, .ref ra), (1, .long p)] [.int (jsin (((jnum p 24) + (jnum p 16)) + (jnum p 8))), .int hd, .int (((1000 : Int32) * ht) + (lk * ((jsin (jnum p 24)) + (jsin ((jnum p 24) + (jnum p 16))))))] h 0 0 _
  refine wq_gos (f := 1) (pc2 := 56) (ls2 := [(4, .int ((jnum p 24) + (jnum p 16))), (3, .int (jnum p 24)), (0, .ref ra), (1, .long p)]) (st2 := [.int ((((1000 : Int32) * ht) + (lk * ((jsin (jnum p 24)) + (jsin ((jnum p 24) + (jnum p 16)))))) + (hd * (jsin (((jnum p 24) + (jnum p 16)) + (jnum p 8)))))]) (h2 := h) (dc2 := 0) (ds2 := 0) 2 rfl ?_
  have w1x : (jRise lk hd ht p) = ((((1000 : Int32) * ht) + (lk * ((jsin (jnum p 24)) + (jsin ((jnum p 24) + (jnum p 16)))))) + (hd * (jsin (((jnum p 24) + (jnum p 16)) + (jnum p 8))))) := by unfold jRise; rfl
  rw [w1x]
  exact wq_ret rfl rfl rfl
noncomputable def jPart (lk hd ht : Int32) (p : Int64) (w : Int32) : Int32 := (if w = (0 : Int32) then (((1000000 : Int32) * (jnum p 40)) + ((jOut lk hd p) * (jcos (jnum p 32)))) else (if w = (1 : Int32) then ((jOut lk hd p) * (jsin (jnum p 32))) else (if w = (2 : Int32) then (jRise lk hd ht p) else (if w = (3 : Int32) then ((jnum p 32) &&& (63 : Int32)) else (if w = (4 : Int32) then ((((jnum p 24) + (jnum p 16)) + (jnum p 8)) &&& (63 : Int32)) else (if w = (5 : Int32) then ((jnum p 0) &&& (63 : Int32)) else 0))))))
set_option maxRecDepth 100000 in
set_option maxHeartbeats 4000000 in
theorem c_part {h : zH} {ra : Nat} {lk hd ht bl sd sp so : Int32} {rt : Int64} {p : Int64} {w : Int32} (hA : zat h ra = some (.inr (.inr (.inr (0, [.int lk, .int hd, .int ht, .int bl, .int sd, .long rt, .ref (ra + 2), .ref (ra + 4), .ref (ra + 6), .int sp, .ref (ra + 8), .ref (ra + 10), .int so, .ref (ra + 12)])))))  : wq 7 0 [(0, .ref ra), (1, .long p), (3, .int w)] [] h 0 0 (fun rr9 => rr9 = (some (.int (jPart lk hd ht p w)), h, 0, 0)) := by
  refine wq_gos (f := 1) (pc2 := 2) (ls2 := [(0, .ref ra), (1, .long p), (3, .int w)]) (st2 := [.int 1, .long p]) (h2 := h) (dc2 := 0) (ds2 := 0) 2 rfl ?_
  refine wq_inl (y2 := 33) (as := [.long p, .int 1]) rfl rfl rfl (wq_T (c_num_1 p h) ?_)
  show wq 7 5 [(0, .ref ra), (1, .long p), (3, .int w)] [.int (jnum p 32)] h 0 0 _
  refine wq_gos (f := 1) (pc2 := 8) (ls2 := [(4, .int (jnum p 32)), (0, .ref ra), (1, .long p), (3, .int w)]) (st2 := [.int w]) (h2 := h) (dc2 := 0) (ds2 := 0) 2 rfl ?_
  by_cases b1x : w = (0 : Int32)
  · refine wq_tabc rfl b1x rfl ?_
    refine wq_gos (f := 1) (pc2 := 52) (ls2 := [(4, .int (jnum p 32)), (0, .ref ra), (1, .long p), (3, .int w)]) (st2 := [.int 0, .long p, .int 1000000]) (h2 := h) (dc2 := 0) (ds2 := 0) 3 rfl ?_
    refine wq_inl (y2 := 33) (as := [.long p, .int 0]) rfl rfl rfl (wq_T (c_num_0 p h) ?_)
    show wq 7 55 [(4, .int (jnum p 32)), (0, .ref ra), (1, .long p), (3, .int w)] [.int (jnum p 40), .int 1000000] h 0 0 _
    refine wq_gos (f := 1) (pc2 := 58) (ls2 := [(4, .int (jnum p 32)), (0, .ref ra), (1, .long p), (3, .int w)]) (st2 := [.long p, .ref ra, .int ((1000000 : Int32) * (jnum p 40))]) (h2 := h) (dc2 := 0) (ds2 := 0) 3 rfl ?_
    refine wq_inlv (y2 := 5) (as := [.long p]) rfl rfl rfl hA rfl (wq_mono (c_outOf hA) ?_)
    rintro _ rfl
    show wq 7 61 [(4, .int (jnum p 32)), (0, .ref ra), (1, .long p), (3, .int w)] [.int (jOut lk hd p), .int ((1000000 : Int32) * (jnum p 40))] h 0 0 _
    refine wq_gos (f := 1) (pc2 := 63) (ls2 := [(4, .int (jnum p 32)), (0, .ref ra), (1, .long p), (3, .int w)]) (st2 := [.int (jnum p 32), .int (jOut lk hd p), .int ((1000000 : Int32) * (jnum p 40))]) (h2 := h) (dc2 := 0) (ds2 := 0) 1 rfl ?_
    refine wq_inl (y2 := 149) (as := [.int (jnum p 32)]) rfl rfl rfl (wq_T (c_cos (jnum p 32) h) ?_)
    show wq 7 66 [(4, .int (jnum p 32)), (0, .ref ra), (1, .long p), (3, .int w)] [.int (jcos (jnum p 32)), .int (jOut lk hd p), .int ((1000000 : Int32) * (jnum p 40))] h 0 0 _
    refine wq_gos (f := 1) (pc2 := 68) (ls2 := [(4, .int (jnum p 32)), (0, .ref ra), (1, .long p), (3, .int w)]) (st2 := [.int (((1000000 : Int32) * (jnum p 40)) + ((jOut lk hd p) * (jcos (jnum p 32))))]) (h2 := h) (dc2 := 0) (ds2 := 0) 2 rfl ?_
    have w3x : (jPart lk hd ht p w) = (((1000000 : Int32) * (jnum p 40)) + ((jOut lk hd p) * (jcos (jnum p 32)))) := by unfold jPart; rw [if_pos b1x]
    rw [w3x]
    exact wq_ret rfl rfl rfl
  have q4x : (w).toInt ≠ 0 := fun q => b1x (Int32.toInt_inj.mp q)
  by_cases b5x : w = (1 : Int32)
  · refine wq_tabc rfl b5x rfl ?_
    refine wq_gos (f := 1) (pc2 := 71) (ls2 := [(4, .int (jnum p 32)), (0, .ref ra), (1, .long p), (3, .int w)]) (st2 := [.long p, .ref ra]) (h2 := h) (dc2 := 0) (ds2 := 0) 2 rfl ?_
    refine wq_inlv (y2 := 5) (as := [.long p]) rfl rfl rfl hA rfl (wq_mono (c_outOf hA) ?_)
    rintro _ rfl
    show wq 7 74 [(4, .int (jnum p 32)), (0, .ref ra), (1, .long p), (3, .int w)] [.int (jOut lk hd p)] h 0 0 _
    refine wq_gos (f := 1) (pc2 := 76) (ls2 := [(4, .int (jnum p 32)), (0, .ref ra), (1, .long p), (3, .int w)]) (st2 := [.int (jnum p 32), .int (jOut lk hd p)]) (h2 := h) (dc2 := 0) (ds2 := 0) 1 rfl ?_
    refine wq_inl (y2 := 150) (as := [.int (jnum p 32)]) rfl rfl rfl (wq_T (c_sin (jnum p 32) h) ?_)
    show wq 7 79 [(4, .int (jnum p 32)), (0, .ref ra), (1, .long p), (3, .int w)] [.int (jsin (jnum p 32)), .int (jOut lk hd p)] h 0 0 _
    refine wq_gos (f := 1) (pc2 := 80) (ls2 := [(4, .int (jnum p 32)), (0, .ref ra), (1, .long p), (3, .int w)]) (st2 := [.int ((jOut lk hd p) * (jsin (jnum p 32)))]) (h2 := h) (dc2 := 0) (ds2 := 0) 1 rfl ?_
    have w7x : (jPart lk hd ht p w) = ((jOut lk hd p) * (jsin (jnum p 32))) := by unfold jPart; rw [if_neg b1x, if_pos b5x]
    rw [w7x]
    exact wq_ret rfl rfl rfl
  have q8x : (w).toInt ≠ 1 := fun q => b5x (Int32.toInt_inj.mp q)
  by_cases b9x : w = (2 : Int32)
  · refine wq_tabc rfl b9x rfl ?_
    refine wq_gos (f := 1) (pc2 := 83) (ls2 := [(4, .int (jnum p 32)), (0, .ref ra), (1, .long p), (3, .int w)]) (st2 := [.long p, .ref ra]) (h2 := h) (dc2 := 0) (ds2 := 0) 2 rfl ?_
    refine wq_inlv (y2 := 6) (as := [.long p]) rfl rfl rfl hA rfl (wq_mono (c_riseOf hA) ?_)
    rintro _ rfl
    show wq 7 86 [(4, .int (jnum p 32)), (0, .ref ra), (1, .long p), (3, .int w)] [.int (jRise lk hd ht p)] h 0 0 _
    have w11x : (jPart lk hd ht p w) = (jRise lk hd ht p) := by unfold jPart; rw [if_neg b1x, if_neg b5x, if_pos b9x]
    rw [w11x]
    exact wq_ret rfl rfl rfl
  have q12x : (w).toInt ≠ 2 := fun q => b9x (Int32.toInt_inj.mp q)
  by_cases b13x : w = (3 : Int32)
  · refine wq_tabc rfl b13x rfl ?_
    refine wq_gos (f := 1) (pc2 := 92) (ls2 := [(4, .int (jnum p 32)), (0, .ref ra), (1, .long p), (3, .int w)]) (st2 := [.int ((jnum p 32) &&& (63 : Int32))]) (h2 := h) (dc2 := 0) (ds2 := 0) 3 rfl ?_
    have w14x : (jPart lk hd ht p w) = ((jnum p 32) &&& (63 : Int32)) := by unfold jPart; rw [if_neg b1x, if_neg b5x, if_neg b9x, if_pos b13x]
    rw [w14x]
    exact wq_ret rfl rfl rfl
  have q15x : (w).toInt ≠ 3 := fun q => b13x (Int32.toInt_inj.mp q)
  by_cases b16x : w = (4 : Int32)
  · refine wq_tabc rfl b16x rfl ?_
    refine wq_gos (f := 1) (pc2 := 95) (ls2 := [(4, .int (jnum p 32)), (0, .ref ra), (1, .long p), (3, .int w)]) (st2 := [.int 2, .long p]) (h2 := h) (dc2 := 0) (ds2 := 0) 2 rfl ?_
    refine wq_inl (y2 := 33) (as := [.long p, .int 2]) rfl rfl rfl (wq_T (c_num_2 p h) ?_)
    show wq 7 98 [(4, .int (jnum p 32)), (0, .ref ra), (1, .long p), (3, .int w)] [.int (jnum p 24)] h 0 0 _
    refine wq_gos (f := 1) (pc2 := 100) (ls2 := [(4, .int (jnum p 32)), (0, .ref ra), (1, .long p), (3, .int w)]) (st2 := [.int 3, .long p, .int (jnum p 24)]) (h2 := h) (dc2 := 0) (ds2 := 0) 2 rfl ?_
    refine wq_inl (y2 := 33) (as := [.long p, .int 3]) rfl rfl rfl (wq_T (c_num_3 p h) ?_)
    show wq 7 103 [(4, .int (jnum p 32)), (0, .ref ra), (1, .long p), (3, .int w)] [.int (jnum p 16), .int (jnum p 24)] h 0 0 _
    refine wq_gos (f := 1) (pc2 := 106) (ls2 := [(4, .int (jnum p 32)), (0, .ref ra), (1, .long p), (3, .int w)]) (st2 := [.int 4, .long p, .int ((jnum p 24) + (jnum p 16))]) (h2 := h) (dc2 := 0) (ds2 := 0) 3 rfl ?_
    refine wq_inl (y2 := 33) (as := [.long p, .int 4]) rfl rfl rfl (wq_T (c_num_4 p h) ?_)
    show wq 7 109 [(4, .int (jnum p 32)), (0, .ref ra), (1, .long p), (3, .int w)] [.int (jnum p 8), .int ((jnum p 24) + (jnum p 16))] h 0 0 _
    refine wq_gos (f := 1) (pc2 := 113) (ls2 := [(4, .int (jnum p 32)), (0, .ref ra), (1, .long p), (3, .int w)]) (st2 := [.int ((((jnum p 24) + (jnum p 16)) + (jnum p 8)) &&& (63 : Int32))]) (h2 := h) (dc2 := 0) (ds2 := 0) 3 rfl ?_
    have w17x : (jPart lk hd ht p w) = ((((jnum p 24) + (jnum p 16)) + (jnum p 8)) &&& (63 : Int32)) := by unfold jPart; rw [if_neg b1x, if_neg b5x, if_neg b9x, if_neg b13x, if_pos b16x]
    rw [w17x]
    exact wq_ret rfl rfl rfl
  have q18x : (w).toInt ≠ 4 := fun q => b16x (Int32.toInt_inj.mp q)
  by_cases b19x : w = (5 : Int32)
  · refine wq_tabc rfl b19x rfl ?_
    refine wq_gos (f := 1) (pc2 := 116) (ls2 := [(4, .int (jnum p 32)), (0, .ref ra), (1, .long p), (3, .int w)]) (st2 := [.int 5, .long p]) (h2 := h) (dc2 := 0) (ds2 := 0) 2 rfl ?_
    refine wq_inl (y2 := 33) (as := [.long p, .int 5]) rfl rfl rfl (wq_T (c_num_5 p h) ?_)
    show wq 7 119 [(4, .int (jnum p 32)), (0, .ref ra), (1, .long p), (3, .int w)] [.int (jnum p 0)] h 0 0 _
    refine wq_gos (f := 1) (pc2 := 122) (ls2 := [(4, .int (jnum p 32)), (0, .ref ra), (1, .long p), (3, .int w)]) (st2 := [.int ((jnum p 0) &&& (63 : Int32))]) (h2 := h) (dc2 := 0) (ds2 := 0) 2 rfl ?_
    have w20x : (jPart lk hd ht p w) = ((jnum p 0) &&& (63 : Int32)) := by unfold jPart; rw [if_neg b1x, if_neg b5x, if_neg b9x, if_neg b13x, if_neg b16x, if_pos b19x]
    rw [w20x]
    exact wq_ret rfl rfl rfl
  have q21x : (w).toInt ≠ 5 := fun q => b19x (Int32.toInt_inj.mp q)
  refine wq_tabo rfl (by omega) ?_
  refine wq_gos (f := 1) (pc2 := 124) (ls2 := [(4, .int (jnum p 32)), (0, .ref ra), (1, .long p), (3, .int w)]) (st2 := [.int 0]) (h2 := h) (dc2 := 0) (ds2 := 0) 1 rfl ?_
  have w22x : (jPart lk hd ht p w) = (0 : Int32) := by unfold jPart; rw [if_neg b1x, if_neg b5x, if_neg b9x, if_neg b13x, if_neg b16x, if_neg b19x]
  rw [w22x]
  exact wq_ret rfl rfl rfl
noncomputable def jAlw (ll lg : List Int32) (j : Nat) (v : Int32) : Int32 := (if v.toInt < (ll.getD j 0).toInt then 0 else (if (lg.getD j 0).toInt < v.toInt then 0 else 1))
set_option maxRecDepth 100000 in
set_option maxHeartbeats 4000000 in
theorem c_allowv {h : zH} {ra : Nat} {lk hd ht bl sd sp so : Int32} {rt : Int64} {ll lg : List Int32} {j : Nat} {v : Int32} (hA : zat h ra = some (.inr (.inr (.inr (0, [.int lk, .int hd, .int ht, .int bl, .int sd, .long rt, .ref (ra + 2), .ref (ra + 4), .ref (ra + 6), .int sp, .ref (ra + 8), .ref (ra + 10), .int so, .ref (ra + 12)]))))) (hL : zat h (ra + 2) = some (.inl (0, 6, ll))) (hG : zat h (ra + 4) = some (.inl (0, 6, lg))) (hj : j < 6) : wq 3 0 [(0, .ref ra), (1, .int (nI j)), (2, .int v)] [] h 0 0 (fun rr9 => rr9 = (some (.int (jAlw ll lg j v)), h, 0, 0)) := by
  have qnj := nI_toInt (n := j) (by omega)
  refine wq_gos (f := 1) (pc2 := 2) (ls2 := [(0, .ref ra), (1, .int (nI j)), (2, .int v)]) (st2 := [.ref ra, .int v]) (h2 := h) (dc2 := 0) (ds2 := 0) 2 rfl ?_
  refine wq_getf rfl hA rfl rfl ?_
  refine wq_gos (f := 1) (pc2 := 6) (ls2 := [(0, .ref ra), (1, .int (nI j)), (2, .int v)]) (st2 := [.int (nI j), .ref (ra + 2), .int v]) (h2 := h) (dc2 := 0) (ds2 := 0) 1 rfl ?_
  try have q1x := nI_toInt (n := j) (by omega)
  refine wq_ialdn rfl hL (by omega) (by decide) rfl ?_
  refine wq_lt2 rfl rfl (fun b2x => ?_) (fun b2x => ?_)
  · refine wq_gos (f := 1) (pc2 := 25) (ls2 := [(0, .ref ra), (1, .int (nI j)), (2, .int v)]) (st2 := [.int 0]) (h2 := h) (dc2 := 0) (ds2 := 0) 1 rfl ?_
    have w3x : (jAlw ll lg j v) = (0 : Int32) := by unfold jAlw; rw [if_pos b2x]
    rw [w3x]
    exact wq_ret rfl rfl rfl
  · refine wq_gos (f := 1) (pc2 := 12) (ls2 := [(0, .ref ra), (1, .int (nI j)), (2, .int v)]) (st2 := [.ref ra, .int v]) (h2 := h) (dc2 := 0) (ds2 := 0) 2 rfl ?_
    refine wq_getf rfl hA rfl rfl ?_
    refine wq_gos (f := 1) (pc2 := 16) (ls2 := [(0, .ref ra), (1, .int (nI j)), (2, .int v)]) (st2 := [.int (nI j), .ref (ra + 4), .int v]) (h2 := h) (dc2 := 0) (ds2 := 0) 1 rfl ?_
    refine wq_ialdn rfl hG (by omega) (by decide) rfl ?_
    refine wq_gt2 rfl rfl (fun b4x => ?_) (fun b4x => ?_)
    · refine wq_gos (f := 1) (pc2 := 25) (ls2 := [(0, .ref ra), (1, .int (nI j)), (2, .int v)]) (st2 := [.int 0]) (h2 := h) (dc2 := 0) (ds2 := 0) 1 rfl ?_
      have w5x : (jAlw ll lg j v) = (0 : Int32) := by unfold jAlw; rw [if_neg (Int.not_lt.mpr b2x), if_pos b4x]
      rw [w5x]
      exact wq_ret rfl rfl rfl
    · refine wq_gos (f := 1) (pc2 := 25) (ls2 := [(0, .ref ra), (1, .int (nI j)), (2, .int v)]) (st2 := [.int 1]) (h2 := h) (dc2 := 0) (ds2 := 0) 2 rfl ?_
      have w6x : (jAlw ll lg j v) = (1 : Int32) := by unfold jAlw; rw [if_neg (Int.not_lt.mpr b2x), if_neg (Int.not_lt.mpr b4x)]
      rw [w6x]
      exact wq_ret rfl rfl rfl
noncomputable def beyF (ll lg : List Int32) (p : Int64) : Nat → Int32 → Nat → Int32
  | 0, _, _ => 0
  | m + 1, b, k => (if (6 : Int32).toInt ≤ (nI k).toInt then b else (if (jAlw ll lg k (jnumv p (nI k))) ≠ (0 : Int32) then (beyF ll lg p m b (k + 1)) else (beyF ll lg p m (b + 1) (k + 1))))
set_option maxRecDepth 100000 in
set_option maxHeartbeats 4000000 in
theorem c_beyL {h : zH} {ra : Nat} {lk hd ht bl sd sp so : Int32} {rt : Int64} {ll lg : List Int32} {p : Int64} (hA : zat h ra = some (.inr (.inr (.inr (0, [.int lk, .int hd, .int ht, .int bl, .int sd, .long rt, .ref (ra + 2), .ref (ra + 4), .ref (ra + 6), .int sp, .ref (ra + 8), .ref (ra + 10), .int so, .ref (ra + 12)]))))) (hL : zat h (ra + 2) = some (.inl (0, 6, ll))) (hG : zat h (ra + 4) = some (.inl (0, 6, lg)))  : ∀ (m : Nat) (b : Int32) (k : Nat), (k ≤ 6) → (6 - k) < m → ∀ (dc ds : Nat), wq 4 5 [(0, .ref ra), (1, .long p), (3, .int b), (4, .int (nI k))] [] h dc ds (fun rr9 => rr9 = (some (Value.int (beyF ll lg p m b k)), h, dc, ds)) := by
  intro m
  induction m with
  | zero => intro b k hk hms dc ds; omega
  | succ m ih =>
    intro b k hk hms dc ds
    have qnk := nI_toInt (n := k) (by omega)
    refine wq_gos (f := 1) (pc2 := 9) (ls2 := [(0, .ref ra), (1, .long p), (3, .int b), (4, .int (nI k))]) (st2 := [.int 6, .int (nI k)]) (h2 := h) (dc2 := dc) (ds2 := ds) 2 rfl ?_
    try have q1x := nI_toInt (n := k) (by omega)
    have q2x : (6 : Int32).toInt = 6 := rfl
    refine wq_ge2 rfl rfl (fun b3x => ?_) (fun b3x => ?_)
    · refine wq_gos (f := 1) (pc2 := 37) (ls2 := [(0, .ref ra), (1, .long p), (3, .int b), (4, .int (nI k))]) (st2 := [.int b]) (h2 := h) (dc2 := dc) (ds2 := ds) 1 rfl ?_
      have hx : (beyF ll lg p (m + 1) b k) = b := by show (if _ then _ else _) = _; rw [if_pos b3x]
      refine wq_ret rfl rfl ?_
      show (some (Value.int b), h, dc, ds) = (some (Value.int (beyF ll lg p (m + 1) b k)), h, dc, ds)
      rw [hx]
    · refine wq_gos (f := 1) (pc2 := 18) (ls2 := [(0, .ref ra), (1, .long p), (3, .int b), (4, .int (nI k))]) (st2 := [.int (nI k), .long p, .int (nI k), .ref ra]) (h2 := h) (dc2 := dc) (ds2 := ds) 4 rfl ?_
      refine wq_inl (y2 := 33) (as := [.long p, .int (nI k)]) rfl rfl rfl (wq_mono c_numv ?_)
      rintro _ rfl
      show wq 4 21 [(0, .ref ra), (1, .long p), (3, .int b), (4, .int (nI k))] [.int (jnumv p (nI k)), .int (nI k), .ref ra] h dc ds _
      refine wq_inlv (y2 := 3) (as := [.int (nI k), .int (jnumv p (nI k))]) rfl rfl rfl hA rfl (wq_mono (c_allowv hA hL hG (by first | omega | assumption | decide)) ?_)
      rintro _ rfl
      show wq 4 24 [(0, .ref ra), (1, .long p), (3, .int b), (4, .int (nI k))] [.int (jAlw ll lg k (jnumv p (nI k)))] h dc ds _
      refine wq_ne0 rfl rfl (fun b6x => ?_) (fun b6x => ?_)
      · have q7x : (jAlw ll lg k (jnumv p (nI k))).toInt ≠ 0 := fun q => b6x (Int32.toInt_inj.mp q)
        refine wq_gos (f := 1) (pc2 := 33) (ls2 := [(4, .int ((nI k) + 1)), (0, .ref ra), (1, .long p), (3, .int b)]) (st2 := []) (h2 := h) (dc2 := dc) (ds2 := ds) 1 rfl ?_
        rw [nI_1]
        refine wq_gos (f := 1) (pc2 := 5) (ls2 := [(4, .int (nI (k + 1))), (0, .ref ra), (1, .long p), (3, .int b)]) (st2 := []) (h2 := h) (dc2 := dc) (ds2 := ds) 1 rfl ?_
        try have q8x := nI_toInt (n := (k + 1)) (by omega)
        have hx : (beyF ll lg p (m + 1) b k) = (beyF ll lg p m b (k + 1)) := by show (if _ then _ else _) = _; rw [if_neg (Int.not_le.mpr b3x), if_pos b6x]
        rw [hx]
        refine wq_ls [(0, .ref ra), (1, .long p), (3, .int b), (4, .int (nI (k + 1)))] (show ([0, 1, 3, 4] : List Nat).Nodup by decide) ⟨rfl, rfl, rfl, rfl, trivial⟩ ?_
        exact ih b (k + 1) (by first | omega | assumption | decide) (by omega) dc ds
      · have q9x : (jAlw ll lg k (jnumv p (nI k))).toInt = 0 := congrArg Int32.toInt b6x
        refine wq_gos (f := 1) (pc2 := 33) (ls2 := [(4, .int ((nI k) + 1)), (3, .int (b + 1)), (0, .ref ra), (1, .long p)]) (st2 := []) (h2 := h) (dc2 := dc) (ds2 := ds) 2 rfl ?_
        rw [nI_1]
        refine wq_gos (f := 1) (pc2 := 5) (ls2 := [(4, .int (nI (k + 1))), (3, .int (b + 1)), (0, .ref ra), (1, .long p)]) (st2 := []) (h2 := h) (dc2 := dc) (ds2 := ds) 1 rfl ?_
        try have q10x := nI_toInt (n := (k + 1)) (by omega)
        have q11x : (1 : Int32).toInt = 1 := rfl
        try have q12x : ((b + 1)).toInt = b.toInt + (1 : Int32).toInt := e_add (by omega) (by omega)
        have hx : (beyF ll lg p (m + 1) b k) = (beyF ll lg p m (b + 1) (k + 1)) := by show (if _ then _ else _) = _; rw [if_neg (Int.not_le.mpr b3x), if_neg (fun q => q b6x)]
        rw [hx]
        refine wq_ls [(0, .ref ra), (1, .long p), (3, .int (b + 1)), (4, .int (nI (k + 1)))] (show ([0, 1, 3, 4] : List Nat).Nodup by decide) ⟨rfl, rfl, rfl, rfl, trivial⟩ ?_
        exact ih (b + 1) (k + 1) (by first | omega | assumption | decide) (by omega) dc ds
set_option maxRecDepth 100000 in
set_option maxHeartbeats 4000000 in
theorem c_bey {h : zH} {ra : Nat} {lk hd ht bl sd sp so : Int32} {rt : Int64} {ll lg : List Int32} {p : Int64} (hA : zat h ra = some (.inr (.inr (.inr (0, [.int lk, .int hd, .int ht, .int bl, .int sd, .long rt, .ref (ra + 2), .ref (ra + 4), .ref (ra + 6), .int sp, .ref (ra + 8), .ref (ra + 10), .int so, .ref (ra + 12)]))))) (hL : zat h (ra + 2) = some (.inl (0, 6, ll))) (hG : zat h (ra + 4) = some (.inl (0, 6, lg)))  : wq 4 0 [(0, .ref ra), (1, .long p)] [] h 0 0 (fun rr9 => rr9 = (some (.int (beyF ll lg p (6 - 0 + 1) 0 0)), h, 0, 0)) := by
  refine wq_gos (f := 1) (pc2 := 5) (ls2 := [(4, .int 0), (3, .int 0), (0, .ref ra), (1, .long p)]) (st2 := []) (h2 := h) (dc2 := 0) (ds2 := 0) 4 rfl ?_
  refine wq_ls [(0, .ref ra), (1, .long p), (3, .int (0 : Int32)), (4, .int (nI 0))] (show ([0, 1, 3, 4] : List Nat).Nodup by decide) ⟨rfl, rfl, rfl, rfl, trivial⟩ ?_
  refine wq_mono (c_beyL hA hL hG ((6 - 0) + 1) (0 : Int32) 0 (by first | omega | assumption | decide) (by omega) 0 0) ?_
  rintro _ rfl
  all_goals exact rfl
noncomputable def tkF (sv : List Int32) (a b : Int64) (bd : Int32) : Nat → Int32 → Nat → Int32
  | 0, _, _ => 0
  | m + 1, mo, k => (if (6 : Int32).toInt ≤ (nI k).toInt then mo else (if bd.toInt ≤ mo.toInt then mo else (if (sv.getD k 0).toInt ≤ 0 then (tkF sv a b bd m mo (k + 1)) else (if (jabs (((((a).toUInt64 >>> ((((40 : Int32) - ((8 : Int32) * (nI k)))).toInt64.toUInt64 &&& Int64.toUInt64 63)).toInt64 &&& (255 : Int64))).toInt32 - ((((b).toUInt64 >>> ((((40 : Int32) - ((8 : Int32) * (nI k)))).toInt64.toUInt64 &&& Int64.toUInt64 63)).toInt64 &&& (255 : Int64))).toInt32)).toInt ≤ (mo * (sv.getD k 0)).toInt then (tkF sv a b bd m mo (k + 1)) else (tkF sv a b bd m ((((jabs (((((a).toUInt64 >>> ((((40 : Int32) - ((8 : Int32) * (nI k)))).toInt64.toUInt64 &&& Int64.toUInt64 63)).toInt64 &&& (255 : Int64))).toInt32 - ((((b).toUInt64 >>> ((((40 : Int32) - ((8 : Int32) * (nI k)))).toInt64.toUInt64 &&& Int64.toUInt64 63)).toInt64 &&& (255 : Int64))).toInt32)) + (sv.getD k 0)) - (1 : Int32)) / (sv.getD k 0)) (k + 1))))))
set_option maxRecDepth 100000 in
set_option maxHeartbeats 4000000 in
theorem c_tkL {h : zH} {ra : Nat} {lk hd ht bl sd sp so : Int32} {rt : Int64} {sv : List Int32} {a b : Int64} {bd : Int32} (hA : zat h ra = some (.inr (.inr (.inr (0, [.int lk, .int hd, .int ht, .int bl, .int sd, .long rt, .ref (ra + 2), .ref (ra + 4), .ref (ra + 6), .int sp, .ref (ra + 8), .ref (ra + 10), .int so, .ref (ra + 12)]))))) (hV : zat h (ra + 6) = some (.inl (0, 6, sv)))  : ∀ (m : Nat) (mo : Int32) (k : Nat), (k ≤ 6) → (6 - k) < m → ∀ (dc ds : Nat), wq 10 6 [(0, .ref ra), (1, .long a), (3, .long b), (5, .int bd), (6, .int mo), (7, .int (nI k))] [] h dc ds (fun rr9 => rr9 = (some (Value.int (tkF sv a b bd m mo k)), h, dc, ds)) := by
  intro m
  induction m with
  | zero => intro mo k hk hms dc ds; omega
  | succ m ih =>
    intro mo k hk hms dc ds
    have qnk := nI_toInt (n := k) (by omega)
    refine wq_gos (f := 1) (pc2 := 10) (ls2 := [(0, .ref ra), (1, .long a), (3, .long b), (5, .int bd), (6, .int mo), (7, .int (nI k))]) (st2 := [.int 6, .int (nI k)]) (h2 := h) (dc2 := dc) (ds2 := ds) 2 rfl ?_
    try have q1x := nI_toInt (n := k) (by omega)
    have q2x : (6 : Int32).toInt = 6 := rfl
    refine wq_ge2 rfl rfl (fun b3x => ?_) (fun b3x => ?_)
    · refine wq_gos (f := 1) (pc2 := 98) (ls2 := [(0, .ref ra), (1, .long a), (3, .long b), (5, .int bd), (6, .int mo), (7, .int (nI k))]) (st2 := [.int mo]) (h2 := h) (dc2 := dc) (ds2 := ds) 1 rfl ?_
      have hx : (tkF sv a b bd (m + 1) mo k) = mo := by show (if _ then _ else _) = _; rw [if_pos b3x]
      refine wq_ret rfl rfl ?_
      show (some (Value.int mo), h, dc, ds) = (some (Value.int (tkF sv a b bd (m + 1) mo k)), h, dc, ds)
      rw [hx]
    · refine wq_gos (f := 1) (pc2 := 17) (ls2 := [(0, .ref ra), (1, .long a), (3, .long b), (5, .int bd), (6, .int mo), (7, .int (nI k))]) (st2 := [.int bd, .int mo]) (h2 := h) (dc2 := dc) (ds2 := ds) 2 rfl ?_
      refine wq_ge2 rfl rfl (fun b4x => ?_) (fun b4x => ?_)
      · refine wq_gos (f := 1) (pc2 := 98) (ls2 := [(0, .ref ra), (1, .long a), (3, .long b), (5, .int bd), (6, .int mo), (7, .int (nI k))]) (st2 := [.int mo]) (h2 := h) (dc2 := dc) (ds2 := ds) 1 rfl ?_
        have hx : (tkF sv a b bd (m + 1) mo k) = mo := by show (if _ then _ else _) = _; rw [if_neg (Int.not_le.mpr b3x), if_pos b4x]
        refine wq_ret rfl rfl ?_
        show (some (Value.int mo), h, dc, ds) = (some (Value.int (tkF sv a b bd (m + 1) mo k)), h, dc, ds)
        rw [hx]
      · refine wq_gos (f := 1) (pc2 := 49) (ls2 := [(8, .int ((40 : Int32) - ((8 : Int32) * (nI k)))), (0, .ref ra), (1, .long a), (3, .long b), (5, .int bd), (6, .int mo), (7, .int (nI k))]) (st2 := [.int (((((a).toUInt64 >>> ((((40 : Int32) - ((8 : Int32) * (nI k)))).toInt64.toUInt64 &&& Int64.toUInt64 63)).toInt64 &&& (255 : Int64))).toInt32 - ((((b).toUInt64 >>> ((((40 : Int32) - ((8 : Int32) * (nI k)))).toInt64.toUInt64 &&& Int64.toUInt64 63)).toInt64 &&& (255 : Int64))).toInt32)]) (h2 := h) (dc2 := dc) (ds2 := ds) 19 rfl ?_
        refine wq_inl (y2 := 283) (as := [.int (((((a).toUInt64 >>> ((((40 : Int32) - ((8 : Int32) * (nI k)))).toInt64.toUInt64 &&& Int64.toUInt64 63)).toInt64 &&& (255 : Int64))).toInt32 - ((((b).toUInt64 >>> ((((40 : Int32) - ((8 : Int32) * (nI k)))).toInt64.toUInt64 &&& Int64.toUInt64 63)).toInt64 &&& (255 : Int64))).toInt32)]) rfl rfl rfl (wq_T (c_abs (((((a).toUInt64 >>> ((((40 : Int32) - ((8 : Int32) * (nI k)))).toInt64.toUInt64 &&& Int64.toUInt64 63)).toInt64 &&& (255 : Int64))).toInt32 - ((((b).toUInt64 >>> ((((40 : Int32) - ((8 : Int32) * (nI k)))).toInt64.toUInt64 &&& Int64.toUInt64 63)).toInt64 &&& (255 : Int64))).toInt32) h) ?_)
        show wq 10 52 [(8, .int ((40 : Int32) - ((8 : Int32) * (nI k)))), (0, .ref ra), (1, .long a), (3, .long b), (5, .int bd), (6, .int mo), (7, .int (nI k))] [.int (jabs (((((a).toUInt64 >>> ((((40 : Int32) - ((8 : Int32) * (nI k)))).toInt64.toUInt64 &&& Int64.toUInt64 63)).toInt64 &&& (255 : Int64))).toInt32 - ((((b).toUInt64 >>> ((((40 : Int32) - ((8 : Int32) * (nI k)))).toInt64.toUInt64 &&& Int64.toUInt64 63)).toInt64 &&& (255 : Int64))).toInt32))] h dc ds _
        refine wq_gos (f := 1) (pc2 := 55) (ls2 := [(9, .int (jabs (((((a).toUInt64 >>> ((((40 : Int32) - ((8 : Int32) * (nI k)))).toInt64.toUInt64 &&& Int64.toUInt64 63)).toInt64 &&& (255 : Int64))).toInt32 - ((((b).toUInt64 >>> ((((40 : Int32) - ((8 : Int32) * (nI k)))).toInt64.toUInt64 &&& Int64.toUInt64 63)).toInt64 &&& (255 : Int64))).toInt32))), (8, .int ((40 : Int32) - ((8 : Int32) * (nI k)))), (0, .ref ra), (1, .long a), (3, .long b), (5, .int bd), (6, .int mo), (7, .int (nI k))]) (st2 := [.ref ra]) (h2 := h) (dc2 := dc) (ds2 := ds) 2 rfl ?_
        refine wq_getf rfl hA rfl rfl ?_
        refine wq_gos (f := 1) (pc2 := 60) (ls2 := [(9, .int (jabs (((((a).toUInt64 >>> ((((40 : Int32) - ((8 : Int32) * (nI k)))).toInt64.toUInt64 &&& Int64.toUInt64 63)).toInt64 &&& (255 : Int64))).toInt32 - ((((b).toUInt64 >>> ((((40 : Int32) - ((8 : Int32) * (nI k)))).toInt64.toUInt64 &&& Int64.toUInt64 63)).toInt64 &&& (255 : Int64))).toInt32))), (8, .int ((40 : Int32) - ((8 : Int32) * (nI k)))), (0, .ref ra), (1, .long a), (3, .long b), (5, .int bd), (6, .int mo), (7, .int (nI k))]) (st2 := [.int (nI k), .ref (ra + 6)]) (h2 := h) (dc2 := dc) (ds2 := ds) 1 rfl ?_
        refine wq_ialdn rfl hV (by omega) (by decide) rfl ?_
        refine wq_gos (f := 1) (pc2 := 65) (ls2 := [(10, .int (sv.getD k 0)), (9, .int (jabs (((((a).toUInt64 >>> ((((40 : Int32) - ((8 : Int32) * (nI k)))).toInt64.toUInt64 &&& Int64.toUInt64 63)).toInt64 &&& (255 : Int64))).toInt32 - ((((b).toUInt64 >>> ((((40 : Int32) - ((8 : Int32) * (nI k)))).toInt64.toUInt64 &&& Int64.toUInt64 63)).toInt64 &&& (255 : Int64))).toInt32))), (8, .int ((40 : Int32) - ((8 : Int32) * (nI k)))), (0, .ref ra), (1, .long a), (3, .long b), (5, .int bd), (6, .int mo), (7, .int (nI k))]) (st2 := [.int (sv.getD k 0)]) (h2 := h) (dc2 := dc) (ds2 := ds) 2 rfl ?_
        refine wq_le0 rfl rfl (fun b5x => ?_) (fun b5x => ?_)
        · refine wq_gos (f := 1) (pc2 := 93) (ls2 := [(7, .int ((nI k) + 1)), (10, .int (sv.getD k 0)), (9, .int (jabs (((((a).toUInt64 >>> ((((40 : Int32) - ((8 : Int32) * (nI k)))).toInt64.toUInt64 &&& Int64.toUInt64 63)).toInt64 &&& (255 : Int64))).toInt32 - ((((b).toUInt64 >>> ((((40 : Int32) - ((8 : Int32) * (nI k)))).toInt64.toUInt64 &&& Int64.toUInt64 63)).toInt64 &&& (255 : Int64))).toInt32))), (8, .int ((40 : Int32) - ((8 : Int32) * (nI k)))), (0, .ref ra), (1, .long a), (3, .long b), (5, .int bd), (6, .int mo)]) (st2 := []) (h2 := h) (dc2 := dc) (ds2 := ds) 1 rfl ?_
          rw [nI_1]
          refine wq_gos (f := 1) (pc2 := 6) (ls2 := [(7, .int (nI (k + 1))), (10, .int (sv.getD k 0)), (9, .int (jabs (((((a).toUInt64 >>> ((((40 : Int32) - ((8 : Int32) * (nI k)))).toInt64.toUInt64 &&& Int64.toUInt64 63)).toInt64 &&& (255 : Int64))).toInt32 - ((((b).toUInt64 >>> ((((40 : Int32) - ((8 : Int32) * (nI k)))).toInt64.toUInt64 &&& Int64.toUInt64 63)).toInt64 &&& (255 : Int64))).toInt32))), (8, .int ((40 : Int32) - ((8 : Int32) * (nI k)))), (0, .ref ra), (1, .long a), (3, .long b), (5, .int bd), (6, .int mo)]) (st2 := []) (h2 := h) (dc2 := dc) (ds2 := ds) 1 rfl ?_
          try have q6x := nI_toInt (n := (k + 1)) (by omega)
          have q7x : (40 : Int32).toInt = 40 := rfl
          have q8x : (8 : Int32).toInt = 8 := rfl
          try have q9x : (((8 : Int32) * (nI k))).toInt = 8 * (nI k).toInt := e_mull rfl (by omega) (by omega)
          try have q10x : (((40 : Int32) - ((8 : Int32) * (nI k)))).toInt = (40 : Int32).toInt - ((8 : Int32) * (nI k)).toInt := e_sub (by omega) (by omega)
          have hx : (tkF sv a b bd (m + 1) mo k) = (tkF sv a b bd m mo (k + 1)) := by show (if _ then _ else _) = _; rw [if_neg (Int.not_le.mpr b3x), if_neg (Int.not_le.mpr b4x), if_pos b5x]
          rw [hx]
          refine wq_ls [(0, .ref ra), (1, .long a), (3, .long b), (5, .int bd), (6, .int mo), (7, .int (nI (k + 1)))] (show ([0, 1, 3, 5, 6, 7] : List Nat).Nodup by decide) ⟨rfl, rfl, rfl, rfl, rfl, rfl, trivial⟩ ?_
          exact ih mo (k + 1) (by first | omega | assumption | decide) (by omega) dc ds
        · refine wq_gos (f := 1) (pc2 := 75) (ls2 := [(10, .int (sv.getD k 0)), (9, .int (jabs (((((a).toUInt64 >>> ((((40 : Int32) - ((8 : Int32) * (nI k)))).toInt64.toUInt64 &&& Int64.toUInt64 63)).toInt64 &&& (255 : Int64))).toInt32 - ((((b).toUInt64 >>> ((((40 : Int32) - ((8 : Int32) * (nI k)))).toInt64.toUInt64 &&& Int64.toUInt64 63)).toInt64 &&& (255 : Int64))).toInt32))), (8, .int ((40 : Int32) - ((8 : Int32) * (nI k)))), (0, .ref ra), (1, .long a), (3, .long b), (5, .int bd), (6, .int mo), (7, .int (nI k))]) (st2 := [.int (mo * (sv.getD k 0)), .int (jabs (((((a).toUInt64 >>> ((((40 : Int32) - ((8 : Int32) * (nI k)))).toInt64.toUInt64 &&& Int64.toUInt64 63)).toInt64 &&& (255 : Int64))).toInt32 - ((((b).toUInt64 >>> ((((40 : Int32) - ((8 : Int32) * (nI k)))).toInt64.toUInt64 &&& Int64.toUInt64 63)).toInt64 &&& (255 : Int64))).toInt32))]) (h2 := h) (dc2 := dc) (ds2 := ds) 4 rfl ?_
          refine wq_le2 rfl rfl (fun b12x => ?_) (fun b12x => ?_)
          · refine wq_gos (f := 1) (pc2 := 93) (ls2 := [(7, .int ((nI k) + 1)), (10, .int (sv.getD k 0)), (9, .int (jabs (((((a).toUInt64 >>> ((((40 : Int32) - ((8 : Int32) * (nI k)))).toInt64.toUInt64 &&& Int64.toUInt64 63)).toInt64 &&& (255 : Int64))).toInt32 - ((((b).toUInt64 >>> ((((40 : Int32) - ((8 : Int32) * (nI k)))).toInt64.toUInt64 &&& Int64.toUInt64 63)).toInt64 &&& (255 : Int64))).toInt32))), (8, .int ((40 : Int32) - ((8 : Int32) * (nI k)))), (0, .ref ra), (1, .long a), (3, .long b), (5, .int bd), (6, .int mo)]) (st2 := []) (h2 := h) (dc2 := dc) (ds2 := ds) 1 rfl ?_
            rw [nI_1]
            refine wq_gos (f := 1) (pc2 := 6) (ls2 := [(7, .int (nI (k + 1))), (10, .int (sv.getD k 0)), (9, .int (jabs (((((a).toUInt64 >>> ((((40 : Int32) - ((8 : Int32) * (nI k)))).toInt64.toUInt64 &&& Int64.toUInt64 63)).toInt64 &&& (255 : Int64))).toInt32 - ((((b).toUInt64 >>> ((((40 : Int32) - ((8 : Int32) * (nI k)))).toInt64.toUInt64 &&& Int64.toUInt64 63)).toInt64 &&& (255 : Int64))).toInt32))), (8, .int ((40 : Int32) - ((8 : Int32) * (nI k)))), (0, .ref ra), (1, .long a), (3, .long b), (5, .int bd), (6, .int mo)]) (st2 := []) (h2 := h) (dc2 := dc) (ds2 := ds) 1 rfl ?_
            try have q13x := nI_toInt (n := (k + 1)) (by omega)
            have q14x : (40 : Int32).toInt = 40 := rfl
            have q15x : (8 : Int32).toInt = 8 := rfl
            try have q16x : (((8 : Int32) * (nI k))).toInt = 8 * (nI k).toInt := e_mull rfl (by omega) (by omega)
            try have q17x : (((40 : Int32) - ((8 : Int32) * (nI k)))).toInt = (40 : Int32).toInt - ((8 : Int32) * (nI k)).toInt := e_sub (by omega) (by omega)
            have hx : (tkF sv a b bd (m + 1) mo k) = (tkF sv a b bd m mo (k + 1)) := by show (if _ then _ else _) = _; rw [if_neg (Int.not_le.mpr b3x), if_neg (Int.not_le.mpr b4x), if_neg (Int.not_le.mpr b5x), if_pos b12x]
            rw [hx]
            refine wq_ls [(0, .ref ra), (1, .long a), (3, .long b), (5, .int bd), (6, .int mo), (7, .int (nI (k + 1)))] (show ([0, 1, 3, 5, 6, 7] : List Nat).Nodup by decide) ⟨rfl, rfl, rfl, rfl, rfl, rfl, trivial⟩ ?_
            exact ih mo (k + 1) (by first | omega | assumption | decide) (by omega) dc ds
          · refine wq_gos (f := 1) (pc2 := 87) (ls2 := [(10, .int (sv.getD k 0)), (9, .int (jabs (((((a).toUInt64 >>> ((((40 : Int32) - ((8 : Int32) * (nI k)))).toInt64.toUInt64 &&& Int64.toUInt64 63)).toInt64 &&& (255 : Int64))).toInt32 - ((((b).toUInt64 >>> ((((40 : Int32) - ((8 : Int32) * (nI k)))).toInt64.toUInt64 &&& Int64.toUInt64 63)).toInt64 &&& (255 : Int64))).toInt32))), (8, .int ((40 : Int32) - ((8 : Int32) * (nI k)))), (0, .ref ra), (1, .long a), (3, .long b), (5, .int bd), (6, .int mo), (7, .int (nI k))]) (st2 := [.int (sv.getD k 0), .int (((jabs (((((a).toUInt64 >>> ((((40 : Int32) - ((8 : Int32) * (nI k)))).toInt64.toUInt64 &&& Int64.toUInt64 63)).toInt64 &&& (255 : Int64))).toInt32 - ((((b).toUInt64 >>> ((((40 : Int32) - ((8 : Int32) * (nI k)))).toInt64.toUInt64 &&& Int64.toUInt64 63)).toInt64 &&& (255 : Int64))).toInt32)) + (sv.getD k 0)) - (1 : Int32))]) (h2 := h) (dc2 := dc) (ds2 := ds) 6 rfl ?_
            refine wq_idiv rfl (by intro q; have q9 := congrArg Int32.toInt q; have q8 : (0 : Int32).toInt = 0 := rfl; omega) ?_
            refine wq_gos (f := 1) (pc2 := 93) (ls2 := [(7, .int ((nI k) + 1)), (6, .int ((((jabs (((((a).toUInt64 >>> ((((40 : Int32) - ((8 : Int32) * (nI k)))).toInt64.toUInt64 &&& Int64.toUInt64 63)).toInt64 &&& (255 : Int64))).toInt32 - ((((b).toUInt64 >>> ((((40 : Int32) - ((8 : Int32) * (nI k)))).toInt64.toUInt64 &&& Int64.toUInt64 63)).toInt64 &&& (255 : Int64))).toInt32)) + (sv.getD k 0)) - (1 : Int32)) / (sv.getD k 0))), (10, .int (sv.getD k 0)), (9, .int (jabs (((((a).toUInt64 >>> ((((40 : Int32) - ((8 : Int32) * (nI k)))).toInt64.toUInt64 &&& Int64.toUInt64 63)).toInt64 &&& (255 : Int64))).toInt32 - ((((b).toUInt64 >>> ((((40 : Int32) - ((8 : Int32) * (nI k)))).toInt64.toUInt64 &&& Int64.toUInt64 63)).toInt64 &&& (255 : Int64))).toInt32))), (8, .int ((40 : Int32) - ((8 : Int32) * (nI k)))), (0, .ref ra), (1, .long a), (3, .long b), (5, .int bd)]) (st2 := []) (h2 := h) (dc2 := dc) (ds2 := ds) 2 rfl ?_
            rw [nI_1]
            refine wq_gos (f := 1) (pc2 := 6) (ls2 := [(7, .int (nI (k + 1))), (6, .int ((((jabs (((((a).toUInt64 >>> ((((40 : Int32) - ((8 : Int32) * (nI k)))).toInt64.toUInt64 &&& Int64.toUInt64 63)).toInt64 &&& (255 : Int64))).toInt32 - ((((b).toUInt64 >>> ((((40 : Int32) - ((8 : Int32) * (nI k)))).toInt64.toUInt64 &&& Int64.toUInt64 63)).toInt64 &&& (255 : Int64))).toInt32)) + (sv.getD k 0)) - (1 : Int32)) / (sv.getD k 0))), (10, .int (sv.getD k 0)), (9, .int (jabs (((((a).toUInt64 >>> ((((40 : Int32) - ((8 : Int32) * (nI k)))).toInt64.toUInt64 &&& Int64.toUInt64 63)).toInt64 &&& (255 : Int64))).toInt32 - ((((b).toUInt64 >>> ((((40 : Int32) - ((8 : Int32) * (nI k)))).toInt64.toUInt64 &&& Int64.toUInt64 63)).toInt64 &&& (255 : Int64))).toInt32))), (8, .int ((40 : Int32) - ((8 : Int32) * (nI k)))), (0, .ref ra), (1, .long a), (3, .long b), (5, .int bd)]) (st2 := []) (h2 := h) (dc2 := dc) (ds2 := ds) 1 rfl ?_
            try have q18x := nI_toInt (n := (k + 1)) (by omega)
            have q19x : (40 : Int32).toInt = 40 := rfl
            have q20x : (8 : Int32).toInt = 8 := rfl
            try have q21x : (((8 : Int32) * (nI k))).toInt = 8 * (nI k).toInt := e_mull rfl (by omega) (by omega)
            try have q22x : (((40 : Int32) - ((8 : Int32) * (nI k)))).toInt = (40 : Int32).toInt - ((8 : Int32) * (nI k)).toInt := e_sub (by omega) (by omega)
            have hx : (tkF sv a b bd (m + 1) mo k) = (tkF sv a b bd m ((((jabs (((((a).toUInt64 >>> ((((40 : Int32) - ((8 : Int32) * (nI k)))).toInt64.toUInt64 &&& Int64.toUInt64 63)).toInt64 &&& (255 : Int64))).toInt32 - ((((b).toUInt64 >>> ((((40 : Int32) - ((8 : Int32) * (nI k)))).toInt64.toUInt64 &&& Int64.toUInt64 63)).toInt64 &&& (255 : Int64))).toInt32)) + (sv.getD k 0)) - (1 : Int32)) / (sv.getD k 0)) (k + 1)) := by show (if _ then _ else _) = _; rw [if_neg (Int.not_le.mpr b3x), if_neg (Int.not_le.mpr b4x), if_neg (Int.not_le.mpr b5x), if_neg (Int.not_le.mpr b12x)]
            rw [hx]
            refine wq_ls [(0, .ref ra), (1, .long a), (3, .long b), (5, .int bd), (6, .int ((((jabs (((((a).toUInt64 >>> ((((40 : Int32) - ((8 : Int32) * (nI k)))).toInt64.toUInt64 &&& Int64.toUInt64 63)).toInt64 &&& (255 : Int64))).toInt32 - ((((b).toUInt64 >>> ((((40 : Int32) - ((8 : Int32) * (nI k)))).toInt64.toUInt64 &&& Int64.toUInt64 63)).toInt64 &&& (255 : Int64))).toInt32)) + (sv.getD k 0)) - (1 : Int32)) / (sv.getD k 0))), (7, .int (nI (k + 1)))] (show ([0, 1, 3, 5, 6, 7] : List Nat).Nodup by decide) ⟨rfl, rfl, rfl, rfl, rfl, rfl, trivial⟩ ?_
            exact ih ((((jabs (((((a).toUInt64 >>> ((((40 : Int32) - ((8 : Int32) * (nI k)))).toInt64.toUInt64 &&& Int64.toUInt64 63)).toInt64 &&& (255 : Int64))).toInt32 - ((((b).toUInt64 >>> ((((40 : Int32) - ((8 : Int32) * (nI k)))).toInt64.toUInt64 &&& Int64.toUInt64 63)).toInt64 &&& (255 : Int64))).toInt32)) + (sv.getD k 0)) - (1 : Int32)) / (sv.getD k 0)) (k + 1) (by first | omega | assumption | decide) (by omega) dc ds
set_option maxRecDepth 100000 in
set_option maxHeartbeats 4000000 in
theorem c_tkb {h : zH} {ra : Nat} {lk hd ht bl sd sp so : Int32} {rt : Int64} {sv : List Int32} {a b : Int64} {bd : Int32} (hA : zat h ra = some (.inr (.inr (.inr (0, [.int lk, .int hd, .int ht, .int bl, .int sd, .long rt, .ref (ra + 2), .ref (ra + 4), .ref (ra + 6), .int sp, .ref (ra + 8), .ref (ra + 10), .int so, .ref (ra + 12)]))))) (hV : zat h (ra + 6) = some (.inl (0, 6, sv)))  : wq 10 0 [(0, .ref ra), (1, .long a), (3, .long b), (5, .int bd)] [] h 0 0 (fun rr9 => rr9 = (some (.int (tkF sv a b bd (6 - 0 + 1) 0 0)), h, 0, 0)) := by
  refine wq_gos (f := 1) (pc2 := 6) (ls2 := [(7, .int 0), (6, .int 0), (0, .ref ra), (1, .long a), (3, .long b), (5, .int bd)]) (st2 := []) (h2 := h) (dc2 := 0) (ds2 := 0) 4 rfl ?_
  refine wq_ls [(0, .ref ra), (1, .long a), (3, .long b), (5, .int bd), (6, .int (0 : Int32)), (7, .int (nI 0))] (show ([0, 1, 3, 5, 6, 7] : List Nat).Nodup by decide) ⟨rfl, rfl, rfl, rfl, rfl, rfl, trivial⟩ ?_
  refine wq_mono (c_tkL hA hV ((6 - 0) + 1) (0 : Int32) 0 (by first | omega | assumption | decide) (by omega) 0 0) ?_
  rintro _ rfl
  all_goals exact rfl
set_option maxRecDepth 100000 in
set_option maxHeartbeats 4000000 in
theorem c_tks {h : zH} {ra : Nat} {lk hd ht bl sd sp so : Int32} {rt : Int64} {sv : List Int32} {a b : Int64} (hA : zat h ra = some (.inr (.inr (.inr (0, [.int lk, .int hd, .int ht, .int bl, .int sd, .long rt, .ref (ra + 2), .ref (ra + 4), .ref (ra + 6), .int sp, .ref (ra + 8), .ref (ra + 10), .int so, .ref (ra + 12)]))))) (hV : zat h (ra + 6) = some (.inl (0, 6, sv)))  : wq 9 0 [(0, .ref ra), (1, .long a), (3, .long b)] [] h 0 0 (fun rr9 => rr9 = (some (.int (tkF sv a b (1000000 : Int32) (6 - 0 + 1) 0 0)), h, 0, 0)) := by
  refine wq_gos (f := 1) (pc2 := 5) (ls2 := [(0, .ref ra), (1, .long a), (3, .long b)]) (st2 := [.int 1000000, .long b, .long a, .ref ra]) (h2 := h) (dc2 := 0) (ds2 := 0) 4 rfl ?_
  have q1x : (1000000 : Int32).toInt = 1000000 := rfl
  refine wq_inlv (y2 := 10) (as := [.long a, .long b, .int 1000000]) rfl rfl rfl hA rfl (wq_mono (c_tkb hA hV) ?_)
  rintro _ rfl
  show wq 9 8 [(0, .ref ra), (1, .long a), (3, .long b)] [.int (tkF sv a b (1000000 : Int32) (6 - 0 + 1) 0 0)] h 0 0 _
  exact wq_ret rfl rfl rfl
noncomputable def jNal (a b : Int64) (j n m : Int32) : Int32 := (if (1 : Int32).toInt ≤ m.toInt then ((jnumv a j) + ((((jnumv b j) - (jnumv a j)) * n) / m)) else (jnumv a j))
set_option maxRecDepth 100000 in
set_option maxHeartbeats 4000000 in
theorem c_nal {h : zH} {a b : Int64} {j n m : Int32}   : wq 40 0 [(0, .long a), (2, .long b), (4, .int j), (5, .int n), (6, .int m)] [] h 0 0 (fun rr9 => rr9 = (some (.int (jNal a b j n m)), h, 0, 0)) := by
  refine wq_gos (f := 1) (pc2 := 3) (ls2 := [(0, .long a), (2, .long b), (4, .int j), (5, .int n), (6, .int m)]) (st2 := [.int j, .long a]) (h2 := h) (dc2 := 0) (ds2 := 0) 2 rfl ?_
  refine wq_inl (y2 := 33) (as := [.long a, .int j]) rfl rfl rfl (wq_mono c_numv ?_)
  rintro _ rfl
  show wq 40 6 [(0, .long a), (2, .long b), (4, .int j), (5, .int n), (6, .int m)] [.int (jnumv a j)] h 0 0 _
  refine wq_gos (f := 1) (pc2 := 11) (ls2 := [(7, .int (jnumv a j)), (0, .long a), (2, .long b), (4, .int j), (5, .int n), (6, .int m)]) (st2 := [.int 1, .int m]) (h2 := h) (dc2 := 0) (ds2 := 0) 3 rfl ?_
  have q2x : (1 : Int32).toInt = 1 := rfl
  refine wq_ge2 rfl rfl (fun b3x => ?_) (fun b3x => ?_)
  · refine wq_gos (f := 1) (pc2 := 24) (ls2 := [(7, .int (jnumv a j)), (0, .long a), (2, .long b), (4, .int j), (5, .int n), (6, .int m)]) (st2 := [.int j, .long b, .int (jnumv a j)]) (h2 := h) (dc2 := 0) (ds2 := 0) 3 rfl ?_
    refine wq_inl (y2 := 33) (as := [.long b, .int j]) rfl rfl rfl (wq_mono c_numv ?_)
    rintro _ rfl
    show wq 40 27 [(7, .int (jnumv a j)), (0, .long a), (2, .long b), (4, .int j), (5, .int n), (6, .int m)] [.int (jnumv b j), .int (jnumv a j)] h 0 0 _
    refine wq_gos (f := 1) (pc2 := 35) (ls2 := [(7, .int (jnumv a j)), (0, .long a), (2, .long b), (4, .int j), (5, .int n), (6, .int m)]) (st2 := [.int m, .int (((jnumv b j) - (jnumv a j)) * n), .int (jnumv a j)]) (h2 := h) (dc2 := 0) (ds2 := 0) 5 rfl ?_
    refine wq_idiv rfl (by intro q; have q9 := congrArg Int32.toInt q; have q8 : (0 : Int32).toInt = 0 := rfl; omega) ?_
    refine wq_gos (f := 1) (pc2 := 37) (ls2 := [(7, .int (jnumv a j)), (0, .long a), (2, .long b), (4, .int j), (5, .int n), (6, .int m)]) (st2 := [.int ((jnumv a j) + ((((jnumv b j) - (jnumv a j)) * n) / m))]) (h2 := h) (dc2 := 0) (ds2 := 0) 1 rfl ?_
    have w5x : (jNal a b j n m) = ((jnumv a j) + ((((jnumv b j) - (jnumv a j)) * n) / m)) := by unfold jNal; rw [if_pos b3x]
    rw [w5x]
    exact wq_ret rfl rfl rfl
  · refine wq_gos (f := 1) (pc2 := 37) (ls2 := [(7, .int (jnumv a j)), (0, .long a), (2, .long b), (4, .int j), (5, .int n), (6, .int m)]) (st2 := [.int (jnumv a j)]) (h2 := h) (dc2 := 0) (ds2 := 0) 2 rfl ?_
    have w6x : (jNal a b j n m) = (jnumv a j) := by unfold jNal; rw [if_neg (Int.not_le.mpr b3x)]
    rw [w6x]
    exact wq_ret rfl rfl rfl
