/-! Drawing by chance: the class's side. -/
noncomputable def jabs (x : Int32) : Int32 := if (0 : Int32).toInt ≤ x.toInt then x else (-x)
noncomputable def jme (t e : Int32) : Int32 := jabs (jsin t * jsin e) / 1000
theorem c_abs (x : Int32) (h : zH) : zT zg0 zF zP 283 0 [(0, .int x)] [] h 0 0 (some (.int (jabs x)), h, 0, 0) := by
  apply wq_toT
  refine wq_gos (f := 1) (pc2 := 1) (ls2 := [(0, .int x)]) (st2 := [.int x]) (h2 := h) (dc2 := 0) (ds2 := 0) 1 rfl ?_
  refine wq_ge0 rfl rfl (fun b1x => ?_) (fun b1x => ?_)
  · refine wq_gos (f := 1) (pc2 := 10) (ls2 := [(0, .int x)]) (st2 := [.int x]) (h2 := h) (dc2 := 0) (ds2 := 0) 1 rfl ?_
    refine wq_ret rfl rfl ?_
    show (some (Value.int x), h, 0, 0) = (some (Value.int (jabs x)), h, 0, 0)
    rw [show jabs x = x from if_pos b1x]
  · refine wq_gos (f := 1) (pc2 := 10) (ls2 := [(0, .int x)]) (st2 := [.int (-x)]) (h2 := h) (dc2 := 0) (ds2 := 0) 3 rfl ?_
    refine wq_ret rfl rfl ?_
    show (some (Value.int (-x)), h, 0, 0) = (some (Value.int (jabs x)), h, 0, 0)
    rw [show jabs x = (-x) from if_neg (Int.not_le.mpr b1x)]
theorem m_abs (x : Int32) (h : zH) : zT zg0 zF zP 203 0 [(0, .int x)] [] h 0 0 (some (.int (jabs x)), h, 0, 0) := by
  apply wq_toT
  refine wq_gos (f := 1) (pc2 := 1) (ls2 := [(0, .int x)]) (st2 := [.int x]) (h2 := h) (dc2 := 0) (ds2 := 0) 1 rfl ?_
  refine wq_ge0 rfl rfl (fun b1x => ?_) (fun b1x => ?_)
  · refine wq_gos (f := 1) (pc2 := 10) (ls2 := [(0, .int x)]) (st2 := [.int x]) (h2 := h) (dc2 := 0) (ds2 := 0) 1 rfl ?_
    refine wq_ret rfl rfl ?_
    show (some (Value.int x), h, 0, 0) = (some (Value.int (jabs x)), h, 0, 0)
    rw [show jabs x = x from if_pos b1x]
  · refine wq_gos (f := 1) (pc2 := 10) (ls2 := [(0, .int x)]) (st2 := [.int (-x)]) (h2 := h) (dc2 := 0) (ds2 := 0) 3 rfl ?_
    refine wq_ret rfl rfl ?_
    show (some (Value.int (-x)), h, 0, 0) = (some (Value.int (jabs x)), h, 0, 0)
    rw [show jabs x = (-x) from if_neg (Int.not_le.mpr b1x)]
theorem c_meas {po : Int64} {v0 v1 v2 v3 v4 v5 : Int32} (hn0 : jnum po 40 = v0) (hn1 : jnum po 32 = v1) (hn2 : jnum po 24 = v2) (hn3 : jnum po 16 = v3) (hn4 : jnum po 8 = v4) (hn5 : jnum po 0 = v5) (h : zH) : zT zg0 zF zP 37 0 [(0, .long po)] [] h 0 0 (some (.int (jme v1 v3)), h, 0, 0) := by
  apply wq_toT
  refine wq_gos (f := 1) (pc2 := 2) (ls2 := [(0, .long po)]) (st2 := [.int 1, .long po]) (h2 := h) (dc2 := 0) (ds2 := 0) 2 rfl ?_
  refine wq_inl (y2 := 33) (as := [.long po, .int 1]) rfl rfl rfl (wq_T (show zT zg0 zF zP 33 0 [(0, .long po), (2, .int 1)] [] h 0 0 (some (.int v1), h, 0, 0) from by rw [← hn1]; exact c_num_1 po h) ?_)
  show wq 37 5 [(0, .long po)] [.int v1] h 0 0 _
  refine wq_inl (y2 := 150) (as := [.int v1]) rfl rfl rfl (wq_T (c_sin v1 h) ?_)
  show wq 37 8 [(0, .long po)] [.int (jsin v1)] h 0 0 _
  refine wq_gos (f := 1) (pc2 := 10) (ls2 := [(0, .long po)]) (st2 := [.int 3, .long po, .int (jsin v1)]) (h2 := h) (dc2 := 0) (ds2 := 0) 2 rfl ?_
  refine wq_inl (y2 := 33) (as := [.long po, .int 3]) rfl rfl rfl (wq_T (show zT zg0 zF zP 33 0 [(0, .long po), (2, .int 3)] [] h 0 0 (some (.int v3), h, 0, 0) from by rw [← hn3]; exact c_num_3 po h) ?_)
  show wq 37 13 [(0, .long po)] [.int v3, .int (jsin v1)] h 0 0 _
  refine wq_inl (y2 := 150) (as := [.int v3]) rfl rfl rfl (wq_T (c_sin v3 h) ?_)
  show wq 37 16 [(0, .long po)] [.int (jsin v3), .int (jsin v1)] h 0 0 _
  refine wq_gos (f := 1) (pc2 := 17) (ls2 := [(0, .long po)]) (st2 := [.int ((jsin v1) * (jsin v3))]) (h2 := h) (dc2 := 0) (ds2 := 0) 1 rfl ?_
  refine wq_inl (y2 := 283) (as := [.int ((jsin v1) * (jsin v3))]) rfl rfl rfl (wq_T (c_abs ((jsin v1) * (jsin v3)) h) ?_)
  show wq 37 20 [(0, .long po)] [.int (jabs ((jsin v1) * (jsin v3)))] h 0 0 _
  refine wq_gos (f := 1) (pc2 := 24) (ls2 := [(0, .long po)]) (st2 := [.int ((jabs ((jsin v1) * (jsin v3))) / (1000 : Int32))]) (h2 := h) (dc2 := 0) (ds2 := 0) 2 rfl ?_
  exact wq_ret rfl rfl rfl
noncomputable def jpl (lk hd ht v0 v1 v2 v3 v4 v5 : Int32) : List Int32 := [1000000 * v0 + jout lk hd v2 (v2 + v3) ((v2 + v3) + v4) * jcos v1, jout lk hd v2 (v2 + v3) ((v2 + v3) + v4) * jsin v1, jhgt ht lk hd v2 (v2 + v3) ((v2 + v3) + v4), v1 &&& 63, ((v2 + v3) + v4) &&& 63, v5 &&& 63]
theorem lt6 {P : Nat → Prop} (h0 : P 0) (h1 : P 1) (h2 : P 2) (h3 : P 3) (h4 : P 4) (h5 : P 5) : ∀ i, i < 6 → P i := fun i hi => by
  rcases (show i = 0 ∨ i = 1 ∨ i = 2 ∨ i = 3 ∨ i = 4 ∨ i = 5 by omega) with rfl | rfl | rfl | rfl | rfl | rfl
  · exact h0
  · exact h1
  · exact h2
  · exact h3
  · exact h4
  · exact h5
set_option maxHeartbeats 4000000 in
theorem c_placeOf {h : zH} {ra rl rg rv rn rp rw : Nat} {lk hd ht bl sd sp so : Int32} {rt : Int64} {ll lg : List Int32} {rq : Nat} {pq : List Int32} {po : Int64} {v0 v1 v2 v3 v4 v5 : Int32} (hA : zat h ra = some (.inr (.inr (.inr (0, [.int lk, .int hd, .int ht, .int bl, .int sd, .long rt, .ref rl, .ref rg, .ref rv, .int sp, .ref rn, .ref rp, .int so, .ref rw]))))) (hL : zat h rl = some (.inl (0, 6, ll))) (hG : zat h rg = some (.inl (0, 6, lg))) (hQ : zat h rq = some (.inl (0, 6, pq))) (hq : 34 ≤ rq ∧ ra < 34 ∧ rl < 34 ∧ rg < 34) (hn0 : jnum po 40 = v0) (hn1 : jnum po 32 = v1) (hn2 : jnum po 24 = v2) (hn3 : jnum po 16 = v3) (hn4 : jnum po 8 = v4) (hn5 : jnum po 0 = v5) : wq 8 0 [(0, .ref ra), (1, .long po), (3, .ref rq)] [] h 0 0 (fun r => ∃ (h2 : zH) (pq2 : List Int32), r = (none, h2, 0, 0) ∧ wFr [rq] h h2 ∧ h2.length = h.length ∧ zat h2 rq = some (.inl (0, 6, pq2)) ∧ ∀ i, i < 6 → pq2.getD i 0 = (jpl lk hd ht v0 v1 v2 v3 v4 v5).getD i 0) := by
  refine wq_gos (f := 1) (pc2 := 13) (ls2 := [(4, .int 0), (0, .ref ra), (1, .long po), (3, .ref rq)]) (st2 := [.ref rq, .int 0]) (h2 := h) (dc2 := 0) (ds2 := 0) 7 rfl ?_
  refine wq_alen rfl hQ rfl ?_
  refine wq_gos (f := 1) (pc2 := 24) (ls2 := [(4, .int 0), (0, .ref ra), (1, .long po), (3, .ref rq)]) (st2 := [.int 0, .long po, .ref ra, .int 0, .ref rq]) (h2 := h) (dc2 := 0) (ds2 := 0) 6 rfl ?_
  refine wq_inlv (y2 := 7) (as := [.long po, .int 0]) rfl rfl rfl hA rfl ?_
  show wq 7 0 [(0, .ref ra), (1, .long po), (3, .int 0)] [] h 0 0 _
  refine wq_gos (f := 1) (pc2 := 2) (ls2 := [(0, .ref ra), (1, .long po), (3, .int 0)]) (st2 := [.int 1, .long po]) (h2 := h) (dc2 := 0) (ds2 := 0) 2 rfl ?_
  refine wq_inl (y2 := 33) (as := [.long po, .int 1]) rfl rfl rfl (wq_T (show zT zg0 zF zP 33 0 [(0, .long po), (2, .int 1)] [] h 0 0 (some (.int v1), h, 0, 0) from by rw [← hn1]; exact c_num_1 po h) ?_)
  show wq 7 5 [(0, .ref ra), (1, .long po), (3, .int 0)] [.int v1] h 0 0 _
  refine wq_gos (f := 1) (pc2 := 52) (ls2 := [(4, .int v1), (0, .ref ra), (1, .long po), (3, .int 0)]) (st2 := [.int 0, .long po, .int 1000000]) (h2 := h) (dc2 := 0) (ds2 := 0) 6 rfl ?_
  refine wq_inl (y2 := 33) (as := [.long po, .int 0]) rfl rfl rfl (wq_T (show zT zg0 zF zP 33 0 [(0, .long po), (2, .int 0)] [] h 0 0 (some (.int v0), h, 0, 0) from by rw [← hn0]; exact c_num_0 po h) ?_)
  show wq 7 55 [(4, .int v1), (0, .ref ra), (1, .long po), (3, .int 0)] [.int v0, .int 1000000] h 0 0 _
  refine wq_gos (f := 1) (pc2 := 58) (ls2 := [(4, .int v1), (0, .ref ra), (1, .long po), (3, .int 0)]) (st2 := [.long po, .ref ra, .int ((1000000 : Int32) * v0)]) (h2 := h) (dc2 := 0) (ds2 := 0) 3 rfl ?_
  refine wq_inlv (y2 := 5) (as := [.long po]) rfl rfl rfl hA rfl ?_
  show wq 5 0 [(0, .ref ra), (1, .long po)] [] h 0 0 _
  refine wq_gos (f := 1) (pc2 := 2) (ls2 := [(0, .ref ra), (1, .long po)]) (st2 := [.int 2, .long po]) (h2 := h) (dc2 := 0) (ds2 := 0) 2 rfl ?_
  refine wq_inl (y2 := 33) (as := [.long po, .int 2]) rfl rfl rfl (wq_T (show zT zg0 zF zP 33 0 [(0, .long po), (2, .int 2)] [] h 0 0 (some (.int v2), h, 0, 0) from by rw [← hn2]; exact c_num_2 po h) ?_)
  show wq 5 5 [(0, .ref ra), (1, .long po)] [.int v2] h 0 0 _
  refine wq_gos (f := 1) (pc2 := 9) (ls2 := [(3, .int v2), (0, .ref ra), (1, .long po)]) (st2 := [.int 3, .long po, .int v2]) (h2 := h) (dc2 := 0) (ds2 := 0) 4 rfl ?_
  refine wq_inl (y2 := 33) (as := [.long po, .int 3]) rfl rfl rfl (wq_T (show zT zg0 zF zP 33 0 [(0, .long po), (2, .int 3)] [] h 0 0 (some (.int v3), h, 0, 0) from by rw [← hn3]; exact c_num_3 po h) ?_)
  show wq 5 12 [(3, .int v2), (0, .ref ra), (1, .long po)] [.int v3, .int v2] h 0 0 _
  refine wq_gos (f := 1) (pc2 := 16) (ls2 := [(4, .int (v2 + v3)), (3, .int v2), (0, .ref ra), (1, .long po)]) (st2 := [.ref ra]) (h2 := h) (dc2 := 0) (ds2 := 0) 3 rfl ?_
  refine wq_getf rfl hA rfl rfl ?_
  refine wq_gos (f := 1) (pc2 := 20) (ls2 := [(4, .int (v2 + v3)), (3, .int v2), (0, .ref ra), (1, .long po)]) (st2 := [.int v2, .int lk]) (h2 := h) (dc2 := 0) (ds2 := 0) 1 rfl ?_
  refine wq_inl (y2 := 149) (as := [.int v2]) rfl rfl rfl (wq_T (c_cos v2 h) ?_)
  show wq 5 23 [(4, .int (v2 + v3)), (3, .int v2), (0, .ref ra), (1, .long po)] [.int (jcos v2), .int lk] h 0 0 _
  refine wq_gos (f := 1) (pc2 := 25) (ls2 := [(4, .int (v2 + v3)), (3, .int v2), (0, .ref ra), (1, .long po)]) (st2 := [.int (v2 + v3), .int (jcos v2), .int lk]) (h2 := h) (dc2 := 0) (ds2 := 0) 1 rfl ?_
  refine wq_inl (y2 := 149) (as := [.int (v2 + v3)]) rfl rfl rfl (wq_T (c_cos (v2 + v3) h) ?_)
  show wq 5 28 [(4, .int (v2 + v3)), (3, .int v2), (0, .ref ra), (1, .long po)] [.int (jcos (v2 + v3)), .int (jcos v2), .int lk] h 0 0 _
  refine wq_gos (f := 1) (pc2 := 31) (ls2 := [(4, .int (v2 + v3)), (3, .int v2), (0, .ref ra), (1, .long po)]) (st2 := [.ref ra, .int (lk * ((jcos v2) + (jcos (v2 + v3))))]) (h2 := h) (dc2 := 0) (ds2 := 0) 3 rfl ?_
  refine wq_getf rfl hA rfl rfl ?_
  refine wq_gos (f := 1) (pc2 := 38) (ls2 := [(4, .int (v2 + v3)), (3, .int v2), (0, .ref ra), (1, .long po)]) (st2 := [.int 4, .long po, .int (v2 + v3), .int hd, .int (lk * ((jcos v2) + (jcos (v2 + v3))))]) (h2 := h) (dc2 := 0) (ds2 := 0) 3 rfl ?_
  refine wq_inl (y2 := 33) (as := [.long po, .int 4]) rfl rfl rfl (wq_T (show zT zg0 zF zP 33 0 [(0, .long po), (2, .int 4)] [] h 0 0 (some (.int v4), h, 0, 0) from by rw [← hn4]; exact c_num_4 po h) ?_)
  show wq 5 41 [(4, .int (v2 + v3)), (3, .int v2), (0, .ref ra), (1, .long po)] [.int v4, .int (v2 + v3), .int hd, .int (lk * ((jcos v2) + (jcos (v2 + v3))))] h 0 0 _
  refine wq_gos (f := 1) (pc2 := 42) (ls2 := [(4, .int (v2 + v3)), (3, .int v2), (0, .ref ra), (1, .long po)]) (st2 := [.int ((v2 + v3) + v4), .int hd, .int (lk * ((jcos v2) + (jcos (v2 + v3))))]) (h2 := h) (dc2 := 0) (ds2 := 0) 1 rfl ?_
  refine wq_inl (y2 := 149) (as := [.int ((v2 + v3) + v4)]) rfl rfl rfl (wq_T (c_cos ((v2 + v3) + v4) h) ?_)
  show wq 5 45 [(4, .int (v2 + v3)), (3, .int v2), (0, .ref ra), (1, .long po)] [.int (jcos ((v2 + v3) + v4)), .int hd, .int (lk * ((jcos v2) + (jcos (v2 + v3))))] h 0 0 _
  refine wq_gos (f := 1) (pc2 := 47) (ls2 := [(4, .int (v2 + v3)), (3, .int v2), (0, .ref ra), (1, .long po)]) (st2 := [.int ((lk * ((jcos v2) + (jcos (v2 + v3)))) + (hd * (jcos ((v2 + v3) + v4))))]) (h2 := h) (dc2 := 0) (ds2 := 0) 2 rfl ?_
  refine wq_ret rfl rfl ?_
  show wq 7 61 [(4, .int v1), (0, .ref ra), (1, .long po), (3, .int 0)] [.int ((lk * ((jcos v2) + (jcos (v2 + v3)))) + (hd * (jcos ((v2 + v3) + v4)))), .int ((1000000 : Int32) * v0)] h 0 0 _
  refine wq_gos (f := 1) (pc2 := 63) (ls2 := [(4, .int v1), (0, .ref ra), (1, .long po), (3, .int 0)]) (st2 := [.int v1, .int ((lk * ((jcos v2) + (jcos (v2 + v3)))) + (hd * (jcos ((v2 + v3) + v4)))), .int ((1000000 : Int32) * v0)]) (h2 := h) (dc2 := 0) (ds2 := 0) 1 rfl ?_
  refine wq_inl (y2 := 149) (as := [.int v1]) rfl rfl rfl (wq_T (c_cos v1 h) ?_)
  show wq 7 66 [(4, .int v1), (0, .ref ra), (1, .long po), (3, .int 0)] [.int (jcos v1), .int ((lk * ((jcos v2) + (jcos (v2 + v3)))) + (hd * (jcos ((v2 + v3) + v4)))), .int ((1000000 : Int32) * v0)] h 0 0 _
  refine wq_gos (f := 1) (pc2 := 68) (ls2 := [(4, .int v1), (0, .ref ra), (1, .long po), (3, .int 0)]) (st2 := [.int (((1000000 : Int32) * v0) + (((lk * ((jcos v2) + (jcos (v2 + v3)))) + (hd * (jcos ((v2 + v3) + v4)))) * (jcos v1)))]) (h2 := h) (dc2 := 0) (ds2 := 0) 2 rfl ?_
  refine wq_ret rfl rfl ?_
  show wq 8 27 [(4, .int 0), (0, .ref ra), (1, .long po), (3, .ref rq)] [.int (((1000000 : Int32) * v0) + (((lk * ((jcos v2) + (jcos (v2 + v3)))) + (hd * (jcos ((v2 + v3) + v4)))) * (jcos v1))), .int 0, .ref rq] h 0 0 _
  refine wq_iast rfl hQ rfl rfl ?_
  intro h1x e2x f3x l4x
  have e2x : zat h1x rq = some (.inl (0, 6, (zset 0 pq 0 (((1000000 : Int32) * v0) + (((lk * ((jcos v2) + (jcos (v2 + v3)))) + (hd * (jcos ((v2 + v3) + v4)))) * (jcos v1)))))) := e2x
  refine wq_gos (f := 1) (pc2 := 13) (ls2 := [(4, .int 1), (0, .ref ra), (1, .long po), (3, .ref rq)]) (st2 := [.ref rq, .int 1]) (h2 := h1x) (dc2 := 0) (ds2 := 0) 7 rfl ?_
  refine wq_alen rfl e2x rfl ?_
  refine wq_gos (f := 1) (pc2 := 24) (ls2 := [(4, .int 1), (0, .ref ra), (1, .long po), (3, .ref rq)]) (st2 := [.int 1, .long po, .ref ra, .int 1, .ref rq]) (h2 := h1x) (dc2 := 0) (ds2 := 0) 6 rfl ?_
  have e5x := (f3x.2 _ _ (wnc (by omega) wn0) hA)
  refine wq_inlv (y2 := 7) (as := [.long po, .int 1]) rfl rfl rfl e5x rfl ?_
  show wq 7 0 [(0, .ref ra), (1, .long po), (3, .int 1)] [] h1x 0 0 _
  refine wq_gos (f := 1) (pc2 := 2) (ls2 := [(0, .ref ra), (1, .long po), (3, .int 1)]) (st2 := [.int 1, .long po]) (h2 := h1x) (dc2 := 0) (ds2 := 0) 2 rfl ?_
  refine wq_inl (y2 := 33) (as := [.long po, .int 1]) rfl rfl rfl (wq_T (show zT zg0 zF zP 33 0 [(0, .long po), (2, .int 1)] [] h1x 0 0 (some (.int v1), h1x, 0, 0) from by rw [← hn1]; exact c_num_1 po h1x) ?_)
  show wq 7 5 [(0, .ref ra), (1, .long po), (3, .int 1)] [.int v1] h1x 0 0 _
  refine wq_gos (f := 1) (pc2 := 71) (ls2 := [(4, .int v1), (0, .ref ra), (1, .long po), (3, .int 1)]) (st2 := [.long po, .ref ra]) (h2 := h1x) (dc2 := 0) (ds2 := 0) 5 rfl ?_
  refine wq_inlv (y2 := 5) (as := [.long po]) rfl rfl rfl e5x rfl ?_
  show wq 5 0 [(0, .ref ra), (1, .long po)] [] h1x 0 0 _
  refine wq_gos (f := 1) (pc2 := 2) (ls2 := [(0, .ref ra), (1, .long po)]) (st2 := [.int 2, .long po]) (h2 := h1x) (dc2 := 0) (ds2 := 0) 2 rfl ?_
  refine wq_inl (y2 := 33) (as := [.long po, .int 2]) rfl rfl rfl (wq_T (show zT zg0 zF zP 33 0 [(0, .long po), (2, .int 2)] [] h1x 0 0 (some (.int v2), h1x, 0, 0) from by rw [← hn2]; exact c_num_2 po h1x) ?_)
  show wq 5 5 [(0, .ref ra), (1, .long po)] [.int v2] h1x 0 0 _
  refine wq_gos (f := 1) (pc2 := 9) (ls2 := [(3, .int v2), (0, .ref ra), (1, .long po)]) (st2 := [.int 3, .long po, .int v2]) (h2 := h1x) (dc2 := 0) (ds2 := 0) 4 rfl ?_
  refine wq_inl (y2 := 33) (as := [.long po, .int 3]) rfl rfl rfl (wq_T (show zT zg0 zF zP 33 0 [(0, .long po), (2, .int 3)] [] h1x 0 0 (some (.int v3), h1x, 0, 0) from by rw [← hn3]; exact c_num_3 po h1x) ?_)
  show wq 5 12 [(3, .int v2), (0, .ref ra), (1, .long po)] [.int v3, .int v2] h1x 0 0 _
  refine wq_gos (f := 1) (pc2 := 16) (ls2 := [(4, .int (v2 + v3)), (3, .int v2), (0, .ref ra), (1, .long po)]) (st2 := [.ref ra]) (h2 := h1x) (dc2 := 0) (ds2 := 0) 3 rfl ?_
  refine wq_getf rfl e5x rfl rfl ?_
  refine wq_gos (f := 1) (pc2 := 20) (ls2 := [(4, .int (v2 + v3)), (3, .int v2), (0, .ref ra), (1, .long po)]) (st2 := [.int v2, .int lk]) (h2 := h1x) (dc2 := 0) (ds2 := 0) 1 rfl ?_
  refine wq_inl (y2 := 149) (as := [.int v2]) rfl rfl rfl (wq_T (c_cos v2 h1x) ?_)
  show wq 5 23 [(4, .int (v2 + v3)), (3, .int v2), (0, .ref ra), (1, .long po)] [.int (jcos v2), .int lk] h1x 0 0 _
  refine wq_gos (f := 1) (pc2 := 25) (ls2 := [(4, .int (v2 + v3)), (3, .int v2), (0, .ref ra), (1, .long po)]) (st2 := [.int (v2 + v3), .int (jcos v2), .int lk]) (h2 := h1x) (dc2 := 0) (ds2 := 0) 1 rfl ?_
  refine wq_inl (y2 := 149) (as := [.int (v2 + v3)]) rfl rfl rfl (wq_T (c_cos (v2 + v3) h1x) ?_)
  show wq 5 28 [(4, .int (v2 + v3)), (3, .int v2), (0, .ref ra), (1, .long po)] [.int (jcos (v2 + v3)), .int (jcos v2), .int lk] h1x 0 0 _
  refine wq_gos (f := 1) (pc2 := 31) (ls2 := [(4, .int (v2 + v3)), (3, .int v2), (0, .ref ra), (1, .long po)]) (st2 := [.ref ra, .int (lk * ((jcos v2) + (jcos (v2 + v3))))]) (h2 := h1x) (dc2 := 0) (ds2 := 0) 3 rfl ?_
  refine wq_getf rfl e5x rfl rfl ?_
  refine wq_gos (f := 1) (pc2 := 38) (ls2 := [(4, .int (v2 + v3)), (3, .int v2), (0, .ref ra), (1, .long po)]) (st2 := [.int 4, .long po, .int (v2 + v3), .int hd, .int (lk * ((jcos v2) + (jcos (v2 + v3))))]) (h2 := h1x) (dc2 := 0) (ds2 := 0) 3 rfl ?_
  refine wq_inl (y2 := 33) (as := [.long po, .int 4]) rfl rfl rfl (wq_T (show zT zg0 zF zP 33 0 [(0, .long po), (2, .int 4)] [] h1x 0 0 (some (.int v4), h1x, 0, 0) from by rw [← hn4]; exact c_num_4 po h1x) ?_)
  show wq 5 41 [(4, .int (v2 + v3)), (3, .int v2), (0, .ref ra), (1, .long po)] [.int v4, .int (v2 + v3), .int hd, .int (lk * ((jcos v2) + (jcos (v2 + v3))))] h1x 0 0 _
  refine wq_gos (f := 1) (pc2 := 42) (ls2 := [(4, .int (v2 + v3)), (3, .int v2), (0, .ref ra), (1, .long po)]) (st2 := [.int ((v2 + v3) + v4), .int hd, .int (lk * ((jcos v2) + (jcos (v2 + v3))))]) (h2 := h1x) (dc2 := 0) (ds2 := 0) 1 rfl ?_
  refine wq_inl (y2 := 149) (as := [.int ((v2 + v3) + v4)]) rfl rfl rfl (wq_T (c_cos ((v2 + v3) + v4) h1x) ?_)
  show wq 5 45 [(4, .int (v2 + v3)), (3, .int v2), (0, .ref ra), (1, .long po)] [.int (jcos ((v2 + v3) + v4)), .int hd, .int (lk * ((jcos v2) + (jcos (v2 + v3))))] h1x 0 0 _
  refine wq_gos (f := 1) (pc2 := 47) (ls2 := [(4, .int (v2 + v3)), (3, .int v2), (0, .ref ra), (1, .long po)]) (st2 := [.int ((lk * ((jcos v2) + (jcos (v2 + v3)))) + (hd * (jcos ((v2 + v3) + v4))))]) (h2 := h1x) (dc2 := 0) (ds2 := 0) 2 rfl ?_
  refine wq_ret rfl rfl ?_
  show wq 7 74 [(4, .int v1), (0, .ref ra), (1, .long po), (3, .int 1)] [.int ((lk * ((jcos v2) + (jcos (v2 + v3)))) + (hd * (jcos ((v2 + v3) + v4))))] h1x 0 0 _
  refine wq_gos (f := 1) (pc2 := 76) (ls2 := [(4, .int v1), (0, .ref ra), (1, .long po), (3, .int 1)]) (st2 := [.int v1, .int ((lk * ((jcos v2) + (jcos (v2 + v3)))) + (hd * (jcos ((v2 + v3) + v4))))]) (h2 := h1x) (dc2 := 0) (ds2 := 0) 1 rfl ?_
  refine wq_inl (y2 := 150) (as := [.int v1]) rfl rfl rfl (wq_T (c_sin v1 h1x) ?_)
  show wq 7 79 [(4, .int v1), (0, .ref ra), (1, .long po), (3, .int 1)] [.int (jsin v1), .int ((lk * ((jcos v2) + (jcos (v2 + v3)))) + (hd * (jcos ((v2 + v3) + v4))))] h1x 0 0 _
  refine wq_gos (f := 1) (pc2 := 80) (ls2 := [(4, .int v1), (0, .ref ra), (1, .long po), (3, .int 1)]) (st2 := [.int (((lk * ((jcos v2) + (jcos (v2 + v3)))) + (hd * (jcos ((v2 + v3) + v4)))) * (jsin v1))]) (h2 := h1x) (dc2 := 0) (ds2 := 0) 1 rfl ?_
  refine wq_ret rfl rfl ?_
  show wq 8 27 [(4, .int 1), (0, .ref ra), (1, .long po), (3, .ref rq)] [.int (((lk * ((jcos v2) + (jcos (v2 + v3)))) + (hd * (jcos ((v2 + v3) + v4)))) * (jsin v1)), .int 1, .ref rq] h1x 0 0 _
  refine wq_iast rfl e2x rfl rfl ?_
  intro h6x e7x f8x l9x
  have e7x : zat h6x rq = some (.inl (0, 6, (zset 0 (zset 0 pq 0 (((1000000 : Int32) * v0) + (((lk * ((jcos v2) + (jcos (v2 + v3)))) + (hd * (jcos ((v2 + v3) + v4)))) * (jcos v1)))) 1 (((lk * ((jcos v2) + (jcos (v2 + v3)))) + (hd * (jcos ((v2 + v3) + v4)))) * (jsin v1))))) := e7x
  refine wq_gos (f := 1) (pc2 := 13) (ls2 := [(4, .int 2), (0, .ref ra), (1, .long po), (3, .ref rq)]) (st2 := [.ref rq, .int 2]) (h2 := h6x) (dc2 := 0) (ds2 := 0) 7 rfl ?_
  refine wq_alen rfl e7x rfl ?_
  refine wq_gos (f := 1) (pc2 := 24) (ls2 := [(4, .int 2), (0, .ref ra), (1, .long po), (3, .ref rq)]) (st2 := [.int 2, .long po, .ref ra, .int 2, .ref rq]) (h2 := h6x) (dc2 := 0) (ds2 := 0) 6 rfl ?_
  have e10x := (f8x.2 _ _ (wnc (by omega) wn0) e5x)
  refine wq_inlv (y2 := 7) (as := [.long po, .int 2]) rfl rfl rfl e10x rfl ?_
  show wq 7 0 [(0, .ref ra), (1, .long po), (3, .int 2)] [] h6x 0 0 _
  refine wq_gos (f := 1) (pc2 := 2) (ls2 := [(0, .ref ra), (1, .long po), (3, .int 2)]) (st2 := [.int 1, .long po]) (h2 := h6x) (dc2 := 0) (ds2 := 0) 2 rfl ?_
  refine wq_inl (y2 := 33) (as := [.long po, .int 1]) rfl rfl rfl (wq_T (show zT zg0 zF zP 33 0 [(0, .long po), (2, .int 1)] [] h6x 0 0 (some (.int v1), h6x, 0, 0) from by rw [← hn1]; exact c_num_1 po h6x) ?_)
  show wq 7 5 [(0, .ref ra), (1, .long po), (3, .int 2)] [.int v1] h6x 0 0 _
  refine wq_gos (f := 1) (pc2 := 83) (ls2 := [(4, .int v1), (0, .ref ra), (1, .long po), (3, .int 2)]) (st2 := [.long po, .ref ra]) (h2 := h6x) (dc2 := 0) (ds2 := 0) 5 rfl ?_
  refine wq_inlv (y2 := 6) (as := [.long po]) rfl rfl rfl e10x rfl ?_
  show wq 6 0 [(0, .ref ra), (1, .long po)] [] h6x 0 0 _
  refine wq_gos (f := 1) (pc2 := 2) (ls2 := [(0, .ref ra), (1, .long po)]) (st2 := [.int 2, .long po]) (h2 := h6x) (dc2 := 0) (ds2 := 0) 2 rfl ?_
  refine wq_inl (y2 := 33) (as := [.long po, .int 2]) rfl rfl rfl (wq_T (show zT zg0 zF zP 33 0 [(0, .long po), (2, .int 2)] [] h6x 0 0 (some (.int v2), h6x, 0, 0) from by rw [← hn2]; exact c_num_2 po h6x) ?_)
  show wq 6 5 [(0, .ref ra), (1, .long po)] [.int v2] h6x 0 0 _
  refine wq_gos (f := 1) (pc2 := 9) (ls2 := [(3, .int v2), (0, .ref ra), (1, .long po)]) (st2 := [.int 3, .long po, .int v2]) (h2 := h6x) (dc2 := 0) (ds2 := 0) 4 rfl ?_
  refine wq_inl (y2 := 33) (as := [.long po, .int 3]) rfl rfl rfl (wq_T (show zT zg0 zF zP 33 0 [(0, .long po), (2, .int 3)] [] h6x 0 0 (some (.int v3), h6x, 0, 0) from by rw [← hn3]; exact c_num_3 po h6x) ?_)
  show wq 6 12 [(3, .int v2), (0, .ref ra), (1, .long po)] [.int v3, .int v2] h6x 0 0 _
  refine wq_gos (f := 1) (pc2 := 19) (ls2 := [(4, .int (v2 + v3)), (3, .int v2), (0, .ref ra), (1, .long po)]) (st2 := [.ref ra, .int 1000]) (h2 := h6x) (dc2 := 0) (ds2 := 0) 4 rfl ?_
  refine wq_getf rfl e10x rfl rfl ?_
  refine wq_gos (f := 1) (pc2 := 24) (ls2 := [(4, .int (v2 + v3)), (3, .int v2), (0, .ref ra), (1, .long po)]) (st2 := [.ref ra, .int ((1000 : Int32) * ht)]) (h2 := h6x) (dc2 := 0) (ds2 := 0) 2 rfl ?_
  refine wq_getf rfl e10x rfl rfl ?_
  refine wq_gos (f := 1) (pc2 := 28) (ls2 := [(4, .int (v2 + v3)), (3, .int v2), (0, .ref ra), (1, .long po)]) (st2 := [.int v2, .int lk, .int ((1000 : Int32) * ht)]) (h2 := h6x) (dc2 := 0) (ds2 := 0) 1 rfl ?_
  refine wq_inl (y2 := 150) (as := [.int v2]) rfl rfl rfl (wq_T (c_sin v2 h6x) ?_)
  show wq 6 31 [(4, .int (v2 + v3)), (3, .int v2), (0, .ref ra), (1, .long po)] [.int (jsin v2), .int lk, .int ((1000 : Int32) * ht)] h6x 0 0 _
  refine wq_gos (f := 1) (pc2 := 33) (ls2 := [(4, .int (v2 + v3)), (3, .int v2), (0, .ref ra), (1, .long po)]) (st2 := [.int (v2 + v3), .int (jsin v2), .int lk, .int ((1000 : Int32) * ht)]) (h2 := h6x) (dc2 := 0) (ds2 := 0) 1 rfl ?_
  refine wq_inl (y2 := 150) (as := [.int (v2 + v3)]) rfl rfl rfl (wq_T (c_sin (v2 + v3) h6x) ?_)
  show wq 6 36 [(4, .int (v2 + v3)), (3, .int v2), (0, .ref ra), (1, .long po)] [.int (jsin (v2 + v3)), .int (jsin v2), .int lk, .int ((1000 : Int32) * ht)] h6x 0 0 _
  refine wq_gos (f := 1) (pc2 := 40) (ls2 := [(4, .int (v2 + v3)), (3, .int v2), (0, .ref ra), (1, .long po)]) (st2 := [.ref ra, .int (((1000 : Int32) * ht) + (lk * ((jsin v2) + (jsin (v2 + v3)))))]) (h2 := h6x) (dc2 := 0) (ds2 := 0) 4 rfl ?_
  refine wq_getf rfl e10x rfl rfl ?_
  refine wq_gos (f := 1) (pc2 := 47) (ls2 := [(4, .int (v2 + v3)), (3, .int v2), (0, .ref ra), (1, .long po)]) (st2 := [.int 4, .long po, .int (v2 + v3), .int hd, .int (((1000 : Int32) * ht) + (lk * ((jsin v2) + (jsin (v2 + v3)))))]) (h2 := h6x) (dc2 := 0) (ds2 := 0) 3 rfl ?_
  refine wq_inl (y2 := 33) (as := [.long po, .int 4]) rfl rfl rfl (wq_T (show zT zg0 zF zP 33 0 [(0, .long po), (2, .int 4)] [] h6x 0 0 (some (.int v4), h6x, 0, 0) from by rw [← hn4]; exact c_num_4 po h6x) ?_)
  show wq 6 50 [(4, .int (v2 + v3)), (3, .int v2), (0, .ref ra), (1, .long po)] [.int v4, .int (v2 + v3), .int hd, .int (((1000 : Int32) * ht) + (lk * ((jsin v2) + (jsin (v2 + v3)))))] h6x 0 0 _
  refine wq_gos (f := 1) (pc2 := 51) (ls2 := [(4, .int (v2 + v3)), (3, .int v2), (0, .ref ra), (1, .long po)]) (st2 := [.int ((v2 + v3) + v4), .int hd, .int (((1000 : Int32) * ht) + (lk * ((jsin v2) + (jsin (v2 + v3)))))]) (h2 := h6x) (dc2 := 0) (ds2 := 0) 1 rfl ?_
  refine wq_inl (y2 := 150) (as := [.int ((v2 + v3) + v4)]) rfl rfl rfl (wq_T (c_sin ((v2 + v3) + v4) h6x) ?_)
  show wq 6 54 [(4, .int (v2 + v3)), (3, .int v2), (0, .ref ra), (1, .long po)] [.int (jsin ((v2 + v3) + v4)), .int hd, .int (((1000 : Int32) * ht) + (lk * ((jsin v2) + (jsin (v2 + v3)))))] h6x 0 0 _
  refine wq_gos (f := 1) (pc2 := 56) (ls2 := [(4, .int (v2 + v3)), (3, .int v2), (0, .ref ra), (1, .long po)]) (st2 := [.int ((((1000 : Int32) * ht) + (lk * ((jsin v2) + (jsin (v2 + v3))))) + (hd * (jsin ((v2 + v3) + v4))))]) (h2 := h6x) (dc2 := 0) (ds2 := 0) 2 rfl ?_
  refine wq_ret rfl rfl ?_
  show wq 7 86 [(4, .int v1), (0, .ref ra), (1, .long po), (3, .int 2)] [.int ((((1000 : Int32) * ht) + (lk * ((jsin v2) + (jsin (v2 + v3))))) + (hd * (jsin ((v2 + v3) + v4))))] h6x 0 0 _
  refine wq_ret rfl rfl ?_
  show wq 8 27 [(4, .int 2), (0, .ref ra), (1, .long po), (3, .ref rq)] [.int ((((1000 : Int32) * ht) + (lk * ((jsin v2) + (jsin (v2 + v3))))) + (hd * (jsin ((v2 + v3) + v4)))), .int 2, .ref rq] h6x 0 0 _
  refine wq_iast rfl e7x rfl rfl ?_
  intro h11x e12x f13x l14x
  have e12x : zat h11x rq = some (.inl (0, 6, (zset 0 (zset 0 (zset 0 pq 0 (((1000000 : Int32) * v0) + (((lk * ((jcos v2) + (jcos (v2 + v3)))) + (hd * (jcos ((v2 + v3) + v4)))) * (jcos v1)))) 1 (((lk * ((jcos v2) + (jcos (v2 + v3)))) + (hd * (jcos ((v2 + v3) + v4)))) * (jsin v1))) 2 ((((1000 : Int32) * ht) + (lk * ((jsin v2) + (jsin (v2 + v3))))) + (hd * (jsin ((v2 + v3) + v4))))))) := e12x
  refine wq_gos (f := 1) (pc2 := 13) (ls2 := [(4, .int 3), (0, .ref ra), (1, .long po), (3, .ref rq)]) (st2 := [.ref rq, .int 3]) (h2 := h11x) (dc2 := 0) (ds2 := 0) 7 rfl ?_
  refine wq_alen rfl e12x rfl ?_
  refine wq_gos (f := 1) (pc2 := 24) (ls2 := [(4, .int 3), (0, .ref ra), (1, .long po), (3, .ref rq)]) (st2 := [.int 3, .long po, .ref ra, .int 3, .ref rq]) (h2 := h11x) (dc2 := 0) (ds2 := 0) 6 rfl ?_
  have e15x := (f13x.2 _ _ (wnc (by omega) wn0) e10x)
  refine wq_inlv (y2 := 7) (as := [.long po, .int 3]) rfl rfl rfl e15x rfl ?_
  show wq 7 0 [(0, .ref ra), (1, .long po), (3, .int 3)] [] h11x 0 0 _
  refine wq_gos (f := 1) (pc2 := 2) (ls2 := [(0, .ref ra), (1, .long po), (3, .int 3)]) (st2 := [.int 1, .long po]) (h2 := h11x) (dc2 := 0) (ds2 := 0) 2 rfl ?_
  refine wq_inl (y2 := 33) (as := [.long po, .int 1]) rfl rfl rfl (wq_T (show zT zg0 zF zP 33 0 [(0, .long po), (2, .int 1)] [] h11x 0 0 (some (.int v1), h11x, 0, 0) from by rw [← hn1]; exact c_num_1 po h11x) ?_)
  show wq 7 5 [(0, .ref ra), (1, .long po), (3, .int 3)] [.int v1] h11x 0 0 _
  refine wq_gos (f := 1) (pc2 := 92) (ls2 := [(4, .int v1), (0, .ref ra), (1, .long po), (3, .int 3)]) (st2 := [.int (v1 &&& (63 : Int32))]) (h2 := h11x) (dc2 := 0) (ds2 := 0) 6 rfl ?_
  refine wq_ret rfl rfl ?_
  show wq 8 27 [(4, .int 3), (0, .ref ra), (1, .long po), (3, .ref rq)] [.int (v1 &&& (63 : Int32)), .int 3, .ref rq] h11x 0 0 _
  refine wq_iast rfl e12x rfl rfl ?_
  intro h16x e17x f18x l19x
  have e17x : zat h16x rq = some (.inl (0, 6, (zset 0 (zset 0 (zset 0 (zset 0 pq 0 (((1000000 : Int32) * v0) + (((lk * ((jcos v2) + (jcos (v2 + v3)))) + (hd * (jcos ((v2 + v3) + v4)))) * (jcos v1)))) 1 (((lk * ((jcos v2) + (jcos (v2 + v3)))) + (hd * (jcos ((v2 + v3) + v4)))) * (jsin v1))) 2 ((((1000 : Int32) * ht) + (lk * ((jsin v2) + (jsin (v2 + v3))))) + (hd * (jsin ((v2 + v3) + v4))))) 3 (v1 &&& (63 : Int32))))) := e17x
  refine wq_gos (f := 1) (pc2 := 13) (ls2 := [(4, .int 4), (0, .ref ra), (1, .long po), (3, .ref rq)]) (st2 := [.ref rq, .int 4]) (h2 := h16x) (dc2 := 0) (ds2 := 0) 7 rfl ?_
  refine wq_alen rfl e17x rfl ?_
  refine wq_gos (f := 1) (pc2 := 24) (ls2 := [(4, .int 4), (0, .ref ra), (1, .long po), (3, .ref rq)]) (st2 := [.int 4, .long po, .ref ra, .int 4, .ref rq]) (h2 := h16x) (dc2 := 0) (ds2 := 0) 6 rfl ?_
  have e20x := (f18x.2 _ _ (wnc (by omega) wn0) e15x)
  refine wq_inlv (y2 := 7) (as := [.long po, .int 4]) rfl rfl rfl e20x rfl ?_
  show wq 7 0 [(0, .ref ra), (1, .long po), (3, .int 4)] [] h16x 0 0 _
  refine wq_gos (f := 1) (pc2 := 2) (ls2 := [(0, .ref ra), (1, .long po), (3, .int 4)]) (st2 := [.int 1, .long po]) (h2 := h16x) (dc2 := 0) (ds2 := 0) 2 rfl ?_
  refine wq_inl (y2 := 33) (as := [.long po, .int 1]) rfl rfl rfl (wq_T (show zT zg0 zF zP 33 0 [(0, .long po), (2, .int 1)] [] h16x 0 0 (some (.int v1), h16x, 0, 0) from by rw [← hn1]; exact c_num_1 po h16x) ?_)
  show wq 7 5 [(0, .ref ra), (1, .long po), (3, .int 4)] [.int v1] h16x 0 0 _
  refine wq_gos (f := 1) (pc2 := 95) (ls2 := [(4, .int v1), (0, .ref ra), (1, .long po), (3, .int 4)]) (st2 := [.int 2, .long po]) (h2 := h16x) (dc2 := 0) (ds2 := 0) 5 rfl ?_
  refine wq_inl (y2 := 33) (as := [.long po, .int 2]) rfl rfl rfl (wq_T (show zT zg0 zF zP 33 0 [(0, .long po), (2, .int 2)] [] h16x 0 0 (some (.int v2), h16x, 0, 0) from by rw [← hn2]; exact c_num_2 po h16x) ?_)
  show wq 7 98 [(4, .int v1), (0, .ref ra), (1, .long po), (3, .int 4)] [.int v2] h16x 0 0 _
  refine wq_gos (f := 1) (pc2 := 100) (ls2 := [(4, .int v1), (0, .ref ra), (1, .long po), (3, .int 4)]) (st2 := [.int 3, .long po, .int v2]) (h2 := h16x) (dc2 := 0) (ds2 := 0) 2 rfl ?_
  refine wq_inl (y2 := 33) (as := [.long po, .int 3]) rfl rfl rfl (wq_T (show zT zg0 zF zP 33 0 [(0, .long po), (2, .int 3)] [] h16x 0 0 (some (.int v3), h16x, 0, 0) from by rw [← hn3]; exact c_num_3 po h16x) ?_)
  show wq 7 103 [(4, .int v1), (0, .ref ra), (1, .long po), (3, .int 4)] [.int v3, .int v2] h16x 0 0 _
  refine wq_gos (f := 1) (pc2 := 106) (ls2 := [(4, .int v1), (0, .ref ra), (1, .long po), (3, .int 4)]) (st2 := [.int 4, .long po, .int (v2 + v3)]) (h2 := h16x) (dc2 := 0) (ds2 := 0) 3 rfl ?_
  refine wq_inl (y2 := 33) (as := [.long po, .int 4]) rfl rfl rfl (wq_T (show zT zg0 zF zP 33 0 [(0, .long po), (2, .int 4)] [] h16x 0 0 (some (.int v4), h16x, 0, 0) from by rw [← hn4]; exact c_num_4 po h16x) ?_)
  show wq 7 109 [(4, .int v1), (0, .ref ra), (1, .long po), (3, .int 4)] [.int v4, .int (v2 + v3)] h16x 0 0 _
  refine wq_gos (f := 1) (pc2 := 113) (ls2 := [(4, .int v1), (0, .ref ra), (1, .long po), (3, .int 4)]) (st2 := [.int (((v2 + v3) + v4) &&& (63 : Int32))]) (h2 := h16x) (dc2 := 0) (ds2 := 0) 3 rfl ?_
  refine wq_ret rfl rfl ?_
  show wq 8 27 [(4, .int 4), (0, .ref ra), (1, .long po), (3, .ref rq)] [.int (((v2 + v3) + v4) &&& (63 : Int32)), .int 4, .ref rq] h16x 0 0 _
  refine wq_iast rfl e17x rfl rfl ?_
  intro h21x e22x f23x l24x
  have e22x : zat h21x rq = some (.inl (0, 6, (zset 0 (zset 0 (zset 0 (zset 0 (zset 0 pq 0 (((1000000 : Int32) * v0) + (((lk * ((jcos v2) + (jcos (v2 + v3)))) + (hd * (jcos ((v2 + v3) + v4)))) * (jcos v1)))) 1 (((lk * ((jcos v2) + (jcos (v2 + v3)))) + (hd * (jcos ((v2 + v3) + v4)))) * (jsin v1))) 2 ((((1000 : Int32) * ht) + (lk * ((jsin v2) + (jsin (v2 + v3))))) + (hd * (jsin ((v2 + v3) + v4))))) 3 (v1 &&& (63 : Int32))) 4 (((v2 + v3) + v4) &&& (63 : Int32))))) := e22x
  refine wq_gos (f := 1) (pc2 := 13) (ls2 := [(4, .int 5), (0, .ref ra), (1, .long po), (3, .ref rq)]) (st2 := [.ref rq, .int 5]) (h2 := h21x) (dc2 := 0) (ds2 := 0) 7 rfl ?_
  refine wq_alen rfl e22x rfl ?_
  refine wq_gos (f := 1) (pc2 := 24) (ls2 := [(4, .int 5), (0, .ref ra), (1, .long po), (3, .ref rq)]) (st2 := [.int 5, .long po, .ref ra, .int 5, .ref rq]) (h2 := h21x) (dc2 := 0) (ds2 := 0) 6 rfl ?_
  have e25x := (f23x.2 _ _ (wnc (by omega) wn0) e20x)
  refine wq_inlv (y2 := 7) (as := [.long po, .int 5]) rfl rfl rfl e25x rfl ?_
  show wq 7 0 [(0, .ref ra), (1, .long po), (3, .int 5)] [] h21x 0 0 _
  refine wq_gos (f := 1) (pc2 := 2) (ls2 := [(0, .ref ra), (1, .long po), (3, .int 5)]) (st2 := [.int 1, .long po]) (h2 := h21x) (dc2 := 0) (ds2 := 0) 2 rfl ?_
  refine wq_inl (y2 := 33) (as := [.long po, .int 1]) rfl rfl rfl (wq_T (show zT zg0 zF zP 33 0 [(0, .long po), (2, .int 1)] [] h21x 0 0 (some (.int v1), h21x, 0, 0) from by rw [← hn1]; exact c_num_1 po h21x) ?_)
  show wq 7 5 [(0, .ref ra), (1, .long po), (3, .int 5)] [.int v1] h21x 0 0 _
  refine wq_gos (f := 1) (pc2 := 116) (ls2 := [(4, .int v1), (0, .ref ra), (1, .long po), (3, .int 5)]) (st2 := [.int 5, .long po]) (h2 := h21x) (dc2 := 0) (ds2 := 0) 5 rfl ?_
  refine wq_inl (y2 := 33) (as := [.long po, .int 5]) rfl rfl rfl (wq_T (show zT zg0 zF zP 33 0 [(0, .long po), (2, .int 5)] [] h21x 0 0 (some (.int v5), h21x, 0, 0) from by rw [← hn5]; exact c_num_5 po h21x) ?_)
  show wq 7 119 [(4, .int v1), (0, .ref ra), (1, .long po), (3, .int 5)] [.int v5] h21x 0 0 _
  refine wq_gos (f := 1) (pc2 := 122) (ls2 := [(4, .int v1), (0, .ref ra), (1, .long po), (3, .int 5)]) (st2 := [.int (v5 &&& (63 : Int32))]) (h2 := h21x) (dc2 := 0) (ds2 := 0) 2 rfl ?_
  refine wq_ret rfl rfl ?_
  show wq 8 27 [(4, .int 5), (0, .ref ra), (1, .long po), (3, .ref rq)] [.int (v5 &&& (63 : Int32)), .int 5, .ref rq] h21x 0 0 _
  refine wq_iast rfl e22x rfl rfl ?_
  intro h26x e27x f28x l29x
  have e27x : zat h26x rq = some (.inl (0, 6, (zset 0 (zset 0 (zset 0 (zset 0 (zset 0 (zset 0 pq 0 (((1000000 : Int32) * v0) + (((lk * ((jcos v2) + (jcos (v2 + v3)))) + (hd * (jcos ((v2 + v3) + v4)))) * (jcos v1)))) 1 (((lk * ((jcos v2) + (jcos (v2 + v3)))) + (hd * (jcos ((v2 + v3) + v4)))) * (jsin v1))) 2 ((((1000 : Int32) * ht) + (lk * ((jsin v2) + (jsin (v2 + v3))))) + (hd * (jsin ((v2 + v3) + v4))))) 3 (v1 &&& (63 : Int32))) 4 (((v2 + v3) + v4) &&& (63 : Int32))) 5 (v5 &&& (63 : Int32))))) := e27x
  refine wq_gos (f := 1) (pc2 := 34) (ls2 := [(4, .int 6), (0, .ref ra), (1, .long po), (3, .ref rq)]) (st2 := []) (h2 := h26x) (dc2 := 0) (ds2 := 0) 5 rfl ?_
  refine wq_ret rfl rfl ⟨h26x, _, rfl, (wFr_tr (wFr_sub f3x (by simp)) (wFr_tr (wFr_sub f8x (by simp)) (wFr_tr (wFr_sub f13x (by simp)) (wFr_tr (wFr_sub f18x (by simp)) (wFr_tr (wFr_sub f23x (by simp)) (wFr_sub f28x (by simp))))))), by omega, e27x, lt6 ?_ ?_ ?_ ?_ ?_ ?_⟩ <;> (simp only [zset_get]; rfl)
set_option maxHeartbeats 4000000 in
theorem c_holdsL {h : zH} {rh rL cap n : Nat} {kn ks fa : Int32} {li : List Int64} {x : Int64} (hH : zat h rh = some (.inr (.inr (.inr (1, [.int kn, .int (nI n), .ref rL, .ref (rh + 4), .int ks, .int fa]))))) (hI : zat h rL = some (.inr (.inl (cap, li)))) (hn : n ≤ cap ∧ cap ≤ 600) {j : Nat} (hj : j < n) (hx : li.getD j 0 = x) : ∀ (m k : Nat), k + m = j → zT zg0 zF zP 19 2 [(0, .ref rh), (1, .long x), (3, .int (nI k))] [] h 0 0 (some (.int 1), h, 0, 0) := by
  intro m
  induction m with
  | zero =>
    intro k hk
    have q1 := nI_toInt (n := k) (by omega)
    have q2 := nI_toInt (n := n) (by omega)
    have q3 := nI_toInt (n := cap) (by omega)
    apply wq_toT
    refine wq_gos (f := 1) (pc2 := 4) (ls2 := [(0, .ref rh), (1, .long x), (3, .int (nI k))]) (st2 := [.ref rh, .int (nI k)]) (h2 := h) (dc2 := 0) (ds2 := 0) 2 rfl ?_
    refine wq_getf rfl hH rfl rfl ?_
    refine wq_ge2f rfl rfl (by omega) ?_
    refine wq_gos (f := 1) (pc2 := 12) (ls2 := [(0, .ref rh), (1, .long x), (3, .int (nI k))]) (st2 := [.ref rh, .int (nI k)]) (h2 := h) (dc2 := 0) (ds2 := 0) 2 rfl ?_
    refine wq_getf rfl hH rfl rfl ?_
    refine wq_alenl rfl hI rfl ?_
    refine wq_ge2f rfl rfl (by omega) ?_
    refine wq_gos (f := 1) (pc2 := 20) (ls2 := [(0, .ref rh), (1, .long x), (3, .int (nI k))]) (st2 := [.ref rh]) (h2 := h) (dc2 := 0) (ds2 := 0) 1 rfl ?_
    refine wq_getf rfl hH rfl rfl ?_
    refine wq_gos (f := 1) (pc2 := 24) (ls2 := [(0, .ref rh), (1, .long x), (3, .int (nI k))]) (st2 := [.int (nI k), .ref rL]) (h2 := h) (dc2 := 0) (ds2 := 0) 1 rfl ?_
    refine wq_laldn rfl hI (by omega) (by omega) rfl ?_
    refine wq_gos (f := 1) (pc2 := 27) (ls2 := [(0, .ref rh), (1, .long x), (3, .int (nI k))]) (st2 := [.int (lg_cmp (li.getD k 0) x)]) (h2 := h) (dc2 := 0) (ds2 := 0) 2 rfl ?_
    refine wq_ne0f rfl rfl ((lg_cmp_eq _ _).mpr (by rw [show k = j by omega]; exact hx)) ?_
    refine wq_gos (f := 1) (pc2 := 31) (ls2 := [(0, .ref rh), (1, .long x), (3, .int (nI k))]) (st2 := [.int 1]) (h2 := h) (dc2 := 0) (ds2 := 0) 1 rfl ?_
    exact wq_ret rfl rfl rfl
  | succ m ih =>
    intro k hk
    have q1 := nI_toInt (n := k) (by omega)
    have q2 := nI_toInt (n := n) (by omega)
    have q3 := nI_toInt (n := cap) (by omega)
    apply wq_toT
    refine wq_gos (f := 1) (pc2 := 4) (ls2 := [(0, .ref rh), (1, .long x), (3, .int (nI k))]) (st2 := [.ref rh, .int (nI k)]) (h2 := h) (dc2 := 0) (ds2 := 0) 2 rfl ?_
    refine wq_getf rfl hH rfl rfl ?_
    refine wq_ge2f rfl rfl (by omega) ?_
    refine wq_gos (f := 1) (pc2 := 12) (ls2 := [(0, .ref rh), (1, .long x), (3, .int (nI k))]) (st2 := [.ref rh, .int (nI k)]) (h2 := h) (dc2 := 0) (ds2 := 0) 2 rfl ?_
    refine wq_getf rfl hH rfl rfl ?_
    refine wq_alenl rfl hI rfl ?_
    refine wq_ge2f rfl rfl (by omega) ?_
    refine wq_gos (f := 1) (pc2 := 20) (ls2 := [(0, .ref rh), (1, .long x), (3, .int (nI k))]) (st2 := [.ref rh]) (h2 := h) (dc2 := 0) (ds2 := 0) 1 rfl ?_
    refine wq_getf rfl hH rfl rfl ?_
    refine wq_gos (f := 1) (pc2 := 24) (ls2 := [(0, .ref rh), (1, .long x), (3, .int (nI k))]) (st2 := [.int (nI k), .ref rL]) (h2 := h) (dc2 := 0) (ds2 := 0) 1 rfl ?_
    refine wq_laldn rfl hI (by omega) (by omega) rfl ?_
    refine wq_gos (f := 1) (pc2 := 27) (ls2 := [(0, .ref rh), (1, .long x), (3, .int (nI k))]) (st2 := [.int (lg_cmp (li.getD k 0) x)]) (h2 := h) (dc2 := 0) (ds2 := 0) 2 rfl ?_
    refine wq_ne0 rfl rfl (fun b1x => ?_) (fun b1x => ?_)
    · refine wq_gos (f := 1) (pc2 := 35) (ls2 := [(3, .int ((nI k) + 1)), (0, .ref rh), (1, .long x)]) (st2 := []) (h2 := h) (dc2 := 0) (ds2 := 0) 1 rfl ?_
      rw [nI_1]
      refine wq_gos (f := 1) (pc2 := 2) (ls2 := [(3, .int (nI (k + 1))), (0, .ref rh), (1, .long x)]) (st2 := []) (h2 := h) (dc2 := 0) (ds2 := 0) 1 rfl ?_
      refine wq_ls [(0, .ref rh), (1, .long x), (3, .int (nI (k + 1)))] (show ([0, 1, 3] : List Nat).Nodup by decide) ⟨rfl, rfl, rfl, trivial⟩ ?_
      exact wq_T (ih (k + 1) (by omega)) rfl
    · refine wq_gos (f := 1) (pc2 := 31) (ls2 := [(0, .ref rh), (1, .long x), (3, .int (nI k))]) (st2 := [.int 1]) (h2 := h) (dc2 := 0) (ds2 := 0) 1 rfl ?_
      exact wq_ret rfl rfl rfl
theorem c_holds {h : zH} {rh rL cap n : Nat} {kn ks fa : Int32} {li : List Int64} {x : Int64} (hH : zat h rh = some (.inr (.inr (.inr (1, [.int kn, .int (nI n), .ref rL, .ref (rh + 4), .int ks, .int fa]))))) (hI : zat h rL = some (.inr (.inl (cap, li)))) (hn : n ≤ cap ∧ cap ≤ 600) {j : Nat} (hj : j < n) (hx : li.getD j 0 = x) : zT zg0 zF zP 19 0 [(0, .ref rh), (1, .long x)] [] h 0 0 (some (.int 1), h, 0, 0) := by
  apply wq_toT
  refine wq_gos (f := 1) (pc2 := 2) (ls2 := [(3, .int 0), (0, .ref rh), (1, .long x)]) (st2 := []) (h2 := h) (dc2 := 0) (ds2 := 0) 2 rfl ?_
  refine wq_ls [(0, .ref rh), (1, .long x), (3, .int (nI 0))] (show ([0, 1, 3] : List Nat).Nodup by decide) ⟨rfl, rfl, rfl, trivial⟩ ?_
  exact wq_T (c_holdsL hH hI hn hj hx j 0 (by omega)) rfl
