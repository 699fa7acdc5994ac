/-! The class: calls that refuse. -/
set_option maxRecDepth 100000 in
set_option maxHeartbeats 4000000 in
theorem c_setN {h : zH} {t ra rd : Nat} {ps ip : Int64} {im : Int32} {j v : Int32} (hX : zat h 0 = some (.inr (.inr (.inr (9, [.ref 2, .int (nI t), .ref 4, .ref ra, .ref rd, .long ps, .ref 34, .ref 36, .int im, .long ip, .ref 42, .ref 44, .ref 60, .ref 66, .ref 72, .ref 74, .ref 150, .ref 158]))))) (hj : j.toInt < 0 ∨ 5 < j.toInt) : wq 107 0 [(0, .ref 0), (1, .int j), (2, .int v)] [] h 0 0 (fun rr9 => rr9 = (some (.int 0), h, 0, 0)) := by
  have z0 : (0 : Int32).toInt = 0 := rfl
  have z1 : (1 : Int32).toInt = 1 := rfl
  have z5 : (5 : Int32).toInt = 5 := rfl
  have z6 : (6 : Int32).toInt = 6 := rfl
  refine wq_gos (f := 1) (pc2 := 1) (ls2 := [(0, .ref 0), (1, .int j), (2, .int v)]) (st2 := [.int j]) (h2 := h) (dc2 := 0) (ds2 := 0) 1 rfl ?_
  refine wq_inl (y2 := 144) (as := [.int j]) rfl rfl rfl ?_
  show wq 144 0 [(0, .int j)] [] h 0 0 _
  refine wq_gos (f := 1) (pc2 := 1) (ls2 := [(0, .int j)]) (st2 := [.int j]) (h2 := h) (dc2 := 0) (ds2 := 0) 1 rfl ?_
  refine wq_lt0 rfl rfl (fun b1x => ?_) (fun b1x => ?_)
  · refine wq_gos (f := 1) (pc2 := 15) (ls2 := [(0, .int j)]) (st2 := [.int 1]) (h2 := h) (dc2 := 0) (ds2 := 0) 2 rfl ?_
    refine wq_ret rfl rfl ?_
    show wq 107 4 [(0, .ref 0), (1, .int j), (2, .int v)] [.int 1] h 0 0 _
    refine wq_gos (f := 1) (pc2 := 20) (ls2 := [(0, .ref 0), (1, .int j), (2, .int v)]) (st2 := [.int 0]) (h2 := h) (dc2 := 0) (ds2 := 0) 2 rfl ?_
    exact wq_ret rfl rfl rfl
  · refine wq_gos (f := 1) (pc2 := 7) (ls2 := [(0, .int j)]) (st2 := [.int 6, .int j]) (h2 := h) (dc2 := 0) (ds2 := 0) 2 rfl ?_
    have q2x : (6 : Int32).toInt = 6 := rfl
    refine wq_lt2f rfl rfl (by omega) ?_
    refine wq_gos (f := 1) (pc2 := 15) (ls2 := [(0, .int j)]) (st2 := [.int 1]) (h2 := h) (dc2 := 0) (ds2 := 0) 2 rfl ?_
    refine wq_ret rfl rfl ?_
    show wq 107 4 [(0, .ref 0), (1, .int j), (2, .int v)] [.int 1] h 0 0 _
    refine wq_gos (f := 1) (pc2 := 20) (ls2 := [(0, .ref 0), (1, .int j), (2, .int v)]) (st2 := [.int 0]) (h2 := h) (dc2 := 0) (ds2 := 0) 2 rfl ?_
    exact wq_ret rfl rfl rfl
set_option maxRecDepth 100000 in
set_option maxHeartbeats 4000000 in
theorem c_freeN {h : zH} {t ra rd : Nat} {ps ip : Int64} {im : Int32} {j u : Int32} (hX : zat h 0 = some (.inr (.inr (.inr (9, [.ref 2, .int (nI t), .ref 4, .ref ra, .ref rd, .long ps, .ref 34, .ref 36, .int im, .long ip, .ref 42, .ref 44, .ref 60, .ref 66, .ref 72, .ref 74, .ref 150, .ref 158]))))) (hj : j.toInt < 0 ∨ 5 < j.toInt) : wq 133 0 [(0, .ref 0), (1, .int j), (2, .int u)] [] h 0 0 (fun rr9 => rr9 = (some (.int (-1)), h, 0, 0)) := by
  have z0 : (0 : Int32).toInt = 0 := rfl
  have z1 : (1 : Int32).toInt = 1 := rfl
  have z5 : (5 : Int32).toInt = 5 := rfl
  have z6 : (6 : Int32).toInt = 6 := rfl
  refine wq_gos (f := 1) (pc2 := 1) (ls2 := [(0, .ref 0), (1, .int j), (2, .int u)]) (st2 := [.int j]) (h2 := h) (dc2 := 0) (ds2 := 0) 1 rfl ?_
  refine wq_inl (y2 := 144) (as := [.int j]) rfl rfl rfl ?_
  show wq 144 0 [(0, .int j)] [] h 0 0 _
  refine wq_gos (f := 1) (pc2 := 1) (ls2 := [(0, .int j)]) (st2 := [.int j]) (h2 := h) (dc2 := 0) (ds2 := 0) 1 rfl ?_
  refine wq_lt0 rfl rfl (fun b1x => ?_) (fun b1x => ?_)
  · refine wq_gos (f := 1) (pc2 := 15) (ls2 := [(0, .int j)]) (st2 := [.int 1]) (h2 := h) (dc2 := 0) (ds2 := 0) 2 rfl ?_
    refine wq_ret rfl rfl ?_
    show wq 133 4 [(0, .ref 0), (1, .int j), (2, .int u)] [.int 1] h 0 0 _
    refine wq_gos (f := 1) (pc2 := 8) (ls2 := [(0, .ref 0), (1, .int j), (2, .int u)]) (st2 := [.int (-1)]) (h2 := h) (dc2 := 0) (ds2 := 0) 2 rfl ?_
    exact wq_ret rfl rfl rfl
  · refine wq_gos (f := 1) (pc2 := 7) (ls2 := [(0, .int j)]) (st2 := [.int 6, .int j]) (h2 := h) (dc2 := 0) (ds2 := 0) 2 rfl ?_
    have q2x : (6 : Int32).toInt = 6 := rfl
    refine wq_lt2f rfl rfl (by omega) ?_
    refine wq_gos (f := 1) (pc2 := 15) (ls2 := [(0, .int j)]) (st2 := [.int 1]) (h2 := h) (dc2 := 0) (ds2 := 0) 2 rfl ?_
    refine wq_ret rfl rfl ?_
    show wq 133 4 [(0, .ref 0), (1, .int j), (2, .int u)] [.int 1] h 0 0 _
    refine wq_gos (f := 1) (pc2 := 8) (ls2 := [(0, .ref 0), (1, .int j), (2, .int u)]) (st2 := [.int (-1)]) (h2 := h) (dc2 := 0) (ds2 := 0) 2 rfl ?_
    exact wq_ret rfl rfl rfl
set_option maxRecDepth 100000 in
set_option maxHeartbeats 4000000 in
theorem c_stopN {h : zH} {t ra rd : Nat} {ps ip : Int64} {im : Int32} {sp so : Nat} {lk hd ht bl sd : Int32} {rt : Int64} {i : Int32} (hX : zat h 0 = some (.inr (.inr (.inr (9, [.ref 2, .int (nI t), .ref 4, .ref ra, .ref rd, .long ps, .ref 34, .ref 36, .int im, .long ip, .ref 42, .ref 44, .ref 60, .ref 66, .ref 72, .ref 74, .ref 150, .ref 158]))))) (hA : zat h ra = some (.inr (.inr (.inr (0, [.int lk, .int hd, .int ht, .int bl, .int sd, .long rt, .ref (ra + 2), .ref (ra + 4), .ref (ra + 6), .int (nI sp), .ref (ra + 8), .ref (ra + 10), .int (nI so), .ref (ra + 12)]))))) (hra : ra = 6 ∨ ra = 20) (hsp : sp ≤ 8) (hi : i.toInt < 0 ∨ sp ≤ i.toInt) : wq 132 0 [(0, .ref 0), (1, .int i)] [] h 0 0 (fun rr9 => rr9 = (some (.int (-1)), h, 0, 0)) := by
  have qnsp := nI_toInt (n := sp) (by omega)
  have z0 : (0 : Int32).toInt = 0 := rfl
  have z1 : (1 : Int32).toInt = 1 := rfl
  have z5 : (5 : Int32).toInt = 5 := rfl
  have z6 : (6 : Int32).toInt = 6 := rfl
  refine wq_gos (f := 1) (pc2 := 2) (ls2 := [(0, .ref 0), (1, .int i)]) (st2 := [.int i, .ref 0]) (h2 := h) (dc2 := 0) (ds2 := 0) 2 rfl ?_
  refine wq_inlv (y2 := 145) (as := [.int i]) rfl rfl rfl hX rfl ?_
  show wq 145 0 [(0, .ref 0), (1, .int i)] [] h 0 0 _
  refine wq_gos (f := 1) (pc2 := 1) (ls2 := [(0, .ref 0), (1, .int i)]) (st2 := [.int i]) (h2 := h) (dc2 := 0) (ds2 := 0) 1 rfl ?_
  refine wq_lt0 rfl rfl (fun b1x => ?_) (fun b1x => ?_)
  · refine wq_gos (f := 1) (pc2 := 20) (ls2 := [(0, .ref 0), (1, .int i)]) (st2 := [.int 1]) (h2 := h) (dc2 := 0) (ds2 := 0) 2 rfl ?_
    refine wq_ret rfl rfl ?_
    show wq 132 5 [(0, .ref 0), (1, .int i)] [.int 1] h 0 0 _
    refine wq_gos (f := 1) (pc2 := 9) (ls2 := [(0, .ref 0), (1, .int i)]) (st2 := [.int (-1)]) (h2 := h) (dc2 := 0) (ds2 := 0) 2 rfl ?_
    exact wq_ret rfl rfl rfl
  · refine wq_gos (f := 1) (pc2 := 6) (ls2 := [(0, .ref 0), (1, .int i)]) (st2 := [.ref 0, .int i]) (h2 := h) (dc2 := 0) (ds2 := 0) 2 rfl ?_
    refine wq_getf rfl hX rfl rfl ?_
    refine wq_getf rfl hA rfl rfl ?_
    try have q2x := nI_toInt (n := sp) (by omega)
    refine wq_lt2f rfl rfl (by omega) ?_
    refine wq_gos (f := 1) (pc2 := 20) (ls2 := [(0, .ref 0), (1, .int i)]) (st2 := [.int 1]) (h2 := h) (dc2 := 0) (ds2 := 0) 2 rfl ?_
    refine wq_ret rfl rfl ?_
    show wq 132 5 [(0, .ref 0), (1, .int i)] [.int 1] h 0 0 _
    refine wq_gos (f := 1) (pc2 := 9) (ls2 := [(0, .ref 0), (1, .int i)]) (st2 := [.int (-1)]) (h2 := h) (dc2 := 0) (ds2 := 0) 2 rfl ?_
    exact wq_ret rfl rfl rfl
