/-! The reference: a fresh text, a text. -/
noncomputable def mFrs (kn lo hi sv rt hl hs it : List Int32) : List Int32 × List Int32 × List Int32 × List Int32 × List Int32 × List Int32 × List Int32 × List Int32 := ((zset 0 (zset 0 (zset 0 (zset 0 (zset 0 (zset 0 (zset 0 (zset 0 (zset 0 (zset 0 (zset 0 kn 7 (0 : Int32)) 8 (0 : Int32)) 9 (0 : Int32)) 10 (0 : Int32)) 11 (0 : Int32)) 12 (0 : Int32)) 13 (0 : Int32)) 7 (9 : Int32)) 8 (4 : Int32)) 9 (10 : Int32)) 10 (2 : Int32)), (zset 0 (zset 0 (zset 0 (zset 0 (zset 0 (zset 0 lo 6 (mLeO (0 : Int32))) 7 (mLeO (1 : Int32))) 8 (mLeO (2 : Int32))) 9 (mLeO (3 : Int32))) 10 (mLeO (4 : Int32))) 11 (mLeO (5 : Int32))), (zset 0 (zset 0 (zset 0 (zset 0 (zset 0 (zset 0 hi 6 (mMoO (0 : Int32))) 7 (mMoO (1 : Int32))) 8 (mMoO (2 : Int32))) 9 (mMoO (3 : Int32))) 10 (mMoO (4 : Int32))) 11 (mMoO (5 : Int32))), (zset 0 (zset 0 (zset 0 (zset 0 (zset 0 (zset 0 sv 6 (4 : Int32)) 7 (4 : Int32)) 8 (4 : Int32)) 9 (4 : Int32)) 10 (4 : Int32)) 11 (4 : Int32)), (zset 0 (zset 0 (zset 0 (zset 0 (zset 0 (zset 0 rt 6 (0 : Int32)) 7 (0 : Int32)) 8 (0 : Int32)) 9 (0 : Int32)) 10 (0 : Int32)) 11 (0 : Int32)), (zset 0 (zset 0 (zset 0 (zset 0 (zset 0 (zset 0 hl 0 (vp_nar .boolean (0 : Int32))) 1 (vp_nar .boolean (0 : Int32))) 2 (vp_nar .boolean (0 : Int32))) 3 (vp_nar .boolean (0 : Int32))) 4 (vp_nar .boolean (0 : Int32))) 5 (vp_nar .boolean (0 : Int32))), (zset 0 (zset 0 (zset 0 (zset 0 (zset 0 (zset 0 hs 0 (vp_nar .boolean (0 : Int32))) 1 (vp_nar .boolean (0 : Int32))) 2 (vp_nar .boolean (0 : Int32))) 3 (vp_nar .boolean (0 : Int32))) 4 (vp_nar .boolean (0 : Int32))) 5 (vp_nar .boolean (0 : Int32))), (zset 0 (zset 0 (zset 0 (zset 0 (zset 0 (zset 0 (zset 0 (zset 0 (zset 0 (zset 0 it 0 (vp_nar .boolean (0 : Int32))) 1 (vp_nar .boolean (0 : Int32))) 2 (vp_nar .boolean (0 : Int32))) 3 (vp_nar .boolean (0 : Int32))) 4 (vp_nar .boolean (0 : Int32))) 5 (vp_nar .boolean (0 : Int32))) 6 (vp_nar .boolean (0 : Int32))) 7 (vp_nar .boolean (0 : Int32))) 8 (vp_nar .boolean (0 : Int32))) 9 (vp_nar .boolean (0 : Int32))))
set_option maxRecDepth 100000 in
set_option maxHeartbeats 4000000 in
theorem m_frs {h : zH} {n0 n2 n14 n15 n16 n17 n18 n19 n20 n21 n22 n23 n27 n28 n32 n33 n34 n35 n39 n52 : Int32} {kn lo hi sv rt hl hs it : List Int32} (hM : zat h 162 = some (.inr (.inr (.inr (10, mO n0 n2 n14 n15 n16 n17 n18 n19 n20 n21 n22 n23 n27 n28 n32 n33 n34 n35 n39 n52))))) (hKn : zat h 166 = some (.inl (0, 14, kn))) (hLo : zat h 168 = some (.inl (0, 12, lo))) (hHi : zat h 170 = some (.inl (0, 12, hi))) (hSv : zat h 172 = some (.inl (0, 12, sv))) (hRt : zat h 174 = some (.inl (0, 12, rt))) (hHd : zat h 184 = some (.inl (2, 6, hl))) (hHs : zat h 186 = some (.inl (2, 6, hs))) (hIt : zat h 182 = some (.inl (2, 10, it)))  : wq 182 0 [(0, .ref 162)] [] h 0 0 (fun rr9 => ∃ (h2 : zH), rr9 = (none, h2, 0, 0) ∧ wFr [166, 168, 170, 172, 174, 184, 186, 182] h h2 ∧ h2.length = h.length ∧ zat h2 166 = some (.inl (0, 14, ((mFrs kn lo hi sv rt hl hs it).1))) ∧ zat h2 168 = some (.inl (0, 12, ((mFrs kn lo hi sv rt hl hs it).2.1))) ∧ zat h2 170 = some (.inl (0, 12, ((mFrs kn lo hi sv rt hl hs it).2.2.1))) ∧ zat h2 172 = some (.inl (0, 12, ((mFrs kn lo hi sv rt hl hs it).2.2.2.1))) ∧ zat h2 174 = some (.inl (0, 12, ((mFrs kn lo hi sv rt hl hs it).2.2.2.2.1))) ∧ zat h2 184 = some (.inl (2, 6, ((mFrs kn lo hi sv rt hl hs it).2.2.2.2.2.1))) ∧ zat h2 186 = some (.inl (2, 6, ((mFrs kn lo hi sv rt hl hs it).2.2.2.2.2.2.1))) ∧ zat h2 182 = some (.inl (2, 10, ((mFrs kn lo hi sv rt hl hs it).2.2.2.2.2.2.2)))) := by
  refine wq_gos (f := 1) (pc2 := 11) (ls2 := [(1, .int 0), (0, .ref 162)]) (st2 := [.int 0, .int 0, .ref 162]) (h2 := h) (dc2 := 0) (ds2 := 0) 8 rfl ?_
  refine wq_inlv (y2 := 170) (as := [.int 0, .int 0]) rfl rfl rfl hM rfl ?_
  show wq 170 0 [(0, .ref 162), (1, .int 0), (2, .int 0)] [] h 0 0 _
  refine wq_gos (f := 1) (pc2 := 1) (ls2 := [(0, .ref 162), (1, .int 0), (2, .int 0)]) (st2 := [.ref 162]) (h2 := h) (dc2 := 0) (ds2 := 0) 1 rfl ?_
  refine wq_getf rfl hM rfl rfl ?_
  refine wq_gos (f := 1) (pc2 := 9) (ls2 := [(0, .ref 162), (1, .int 0), (2, .int 0)]) (st2 := [.int 0, .int 7, .ref 166]) (h2 := h) (dc2 := 0) (ds2 := 0) 4 rfl ?_
  have q1x : (7 : Int32).toInt = 7 := rfl
  refine wq_iast rfl hKn rfl rfl ?_
  intro hh2x e3x ff4x lh5x
  have e3x : zat hh2x 166 = some (.inl (0, 14, (zset 0 kn 7 (0 : Int32)))) := e3x
  refine wq_ret rfl rfl ?_
  show wq 182 14 [(1, .int 0), (0, .ref 162)] [] hh2x 0 0 _
  refine wq_gos (f := 1) (pc2 := 11) (ls2 := [(1, .int 1), (0, .ref 162)]) (st2 := [.int 0, .int 1, .ref 162]) (h2 := hh2x) (dc2 := 0) (ds2 := 0) 8 rfl ?_
  have e6x := (ff4x.2 _ _ (wnc (by decide) wn0) hM)
  refine wq_inlv (y2 := 170) (as := [.int 1, .int 0]) rfl rfl rfl e6x rfl ?_
  show wq 170 0 [(0, .ref 162), (1, .int 1), (2, .int 0)] [] hh2x 0 0 _
  refine wq_gos (f := 1) (pc2 := 1) (ls2 := [(0, .ref 162), (1, .int 1), (2, .int 0)]) (st2 := [.ref 162]) (h2 := hh2x) (dc2 := 0) (ds2 := 0) 1 rfl ?_
  refine wq_getf rfl e6x rfl rfl ?_
  refine wq_gos (f := 1) (pc2 := 9) (ls2 := [(0, .ref 162), (1, .int 1), (2, .int 0)]) (st2 := [.int 0, .int 8, .ref 166]) (h2 := hh2x) (dc2 := 0) (ds2 := 0) 4 rfl ?_
  have q7x : (8 : Int32).toInt = 8 := rfl
  refine wq_iast rfl e3x rfl rfl ?_
  intro hh8x e9x ff10x lh11x
  have e9x : zat hh8x 166 = some (.inl (0, 14, (zset 0 (zset 0 kn 7 (0 : Int32)) 8 (0 : Int32)))) := e9x
  refine wq_ret rfl rfl ?_
  show wq 182 14 [(1, .int 1), (0, .ref 162)] [] hh8x 0 0 _
  refine wq_gos (f := 1) (pc2 := 11) (ls2 := [(1, .int 2), (0, .ref 162)]) (st2 := [.int 0, .int 2, .ref 162]) (h2 := hh8x) (dc2 := 0) (ds2 := 0) 8 rfl ?_
  have e12x := (ff10x.2 _ _ (wnc (by decide) wn0) e6x)
  refine wq_inlv (y2 := 170) (as := [.int 2, .int 0]) rfl rfl rfl e12x rfl ?_
  show wq 170 0 [(0, .ref 162), (1, .int 2), (2, .int 0)] [] hh8x 0 0 _
  refine wq_gos (f := 1) (pc2 := 1) (ls2 := [(0, .ref 162), (1, .int 2), (2, .int 0)]) (st2 := [.ref 162]) (h2 := hh8x) (dc2 := 0) (ds2 := 0) 1 rfl ?_
  refine wq_getf rfl e12x rfl rfl ?_
  refine wq_gos (f := 1) (pc2 := 9) (ls2 := [(0, .ref 162), (1, .int 2), (2, .int 0)]) (st2 := [.int 0, .int 9, .ref 166]) (h2 := hh8x) (dc2 := 0) (ds2 := 0) 4 rfl ?_
  have q13x : (9 : Int32).toInt = 9 := rfl
  refine wq_iast rfl e9x rfl rfl ?_
  intro hh14x e15x ff16x lh17x
  have e15x : zat hh14x 166 = some (.inl (0, 14, (zset 0 (zset 0 (zset 0 kn 7 (0 : Int32)) 8 (0 : Int32)) 9 (0 : Int32)))) := e15x
  refine wq_ret rfl rfl ?_
  show wq 182 14 [(1, .int 2), (0, .ref 162)] [] hh14x 0 0 _
  refine wq_gos (f := 1) (pc2 := 11) (ls2 := [(1, .int 3), (0, .ref 162)]) (st2 := [.int 0, .int 3, .ref 162]) (h2 := hh14x) (dc2 := 0) (ds2 := 0) 8 rfl ?_
  have e18x := (ff16x.2 _ _ (wnc (by decide) wn0) e12x)
  refine wq_inlv (y2 := 170) (as := [.int 3, .int 0]) rfl rfl rfl e18x rfl ?_
  show wq 170 0 [(0, .ref 162), (1, .int 3), (2, .int 0)] [] hh14x 0 0 _
  refine wq_gos (f := 1) (pc2 := 1) (ls2 := [(0, .ref 162), (1, .int 3), (2, .int 0)]) (st2 := [.ref 162]) (h2 := hh14x) (dc2 := 0) (ds2 := 0) 1 rfl ?_
  refine wq_getf rfl e18x rfl rfl ?_
  refine wq_gos (f := 1) (pc2 := 9) (ls2 := [(0, .ref 162), (1, .int 3), (2, .int 0)]) (st2 := [.int 0, .int 10, .ref 166]) (h2 := hh14x) (dc2 := 0) (ds2 := 0) 4 rfl ?_
  have q19x : (10 : Int32).toInt = 10 := rfl
  refine wq_iast rfl e15x rfl rfl ?_
  intro hh20x e21x ff22x lh23x
  have e21x : zat hh20x 166 = some (.inl (0, 14, (zset 0 (zset 0 (zset 0 (zset 0 kn 7 (0 : Int32)) 8 (0 : Int32)) 9 (0 : Int32)) 10 (0 : Int32)))) := e21x
  refine wq_ret rfl rfl ?_
  show wq 182 14 [(1, .int 3), (0, .ref 162)] [] hh20x 0 0 _
  refine wq_gos (f := 1) (pc2 := 11) (ls2 := [(1, .int 4), (0, .ref 162)]) (st2 := [.int 0, .int 4, .ref 162]) (h2 := hh20x) (dc2 := 0) (ds2 := 0) 8 rfl ?_
  have e24x := (ff22x.2 _ _ (wnc (by decide) wn0) e18x)
  refine wq_inlv (y2 := 170) (as := [.int 4, .int 0]) rfl rfl rfl e24x rfl ?_
  show wq 170 0 [(0, .ref 162), (1, .int 4), (2, .int 0)] [] hh20x 0 0 _
  refine wq_gos (f := 1) (pc2 := 1) (ls2 := [(0, .ref 162), (1, .int 4), (2, .int 0)]) (st2 := [.ref 162]) (h2 := hh20x) (dc2 := 0) (ds2 := 0) 1 rfl ?_
  refine wq_getf rfl e24x rfl rfl ?_
  refine wq_gos (f := 1) (pc2 := 9) (ls2 := [(0, .ref 162), (1, .int 4), (2, .int 0)]) (st2 := [.int 0, .int 11, .ref 166]) (h2 := hh20x) (dc2 := 0) (ds2 := 0) 4 rfl ?_
  have q25x : (11 : Int32).toInt = 11 := rfl
  refine wq_iast rfl e21x rfl rfl ?_
  intro hh26x e27x ff28x lh29x
  have e27x : zat hh26x 166 = some (.inl (0, 14, (zset 0 (zset 0 (zset 0 (zset 0 (zset 0 kn 7 (0 : Int32)) 8 (0 : Int32)) 9 (0 : Int32)) 10 (0 : Int32)) 11 (0 : Int32)))) := e27x
  refine wq_ret rfl rfl ?_
  show wq 182 14 [(1, .int 4), (0, .ref 162)] [] hh26x 0 0 _
  refine wq_gos (f := 1) (pc2 := 11) (ls2 := [(1, .int 5), (0, .ref 162)]) (st2 := [.int 0, .int 5, .ref 162]) (h2 := hh26x) (dc2 := 0) (ds2 := 0) 8 rfl ?_
  have e30x := (ff28x.2 _ _ (wnc (by decide) wn0) e24x)
  refine wq_inlv (y2 := 170) (as := [.int 5, .int 0]) rfl rfl rfl e30x rfl ?_
  show wq 170 0 [(0, .ref 162), (1, .int 5), (2, .int 0)] [] hh26x 0 0 _
  refine wq_gos (f := 1) (pc2 := 1) (ls2 := [(0, .ref 162), (1, .int 5), (2, .int 0)]) (st2 := [.ref 162]) (h2 := hh26x) (dc2 := 0) (ds2 := 0) 1 rfl ?_
  refine wq_getf rfl e30x rfl rfl ?_
  refine wq_gos (f := 1) (pc2 := 9) (ls2 := [(0, .ref 162), (1, .int 5), (2, .int 0)]) (st2 := [.int 0, .int 12, .ref 166]) (h2 := hh26x) (dc2 := 0) (ds2 := 0) 4 rfl ?_
  have q31x : (12 : Int32).toInt = 12 := rfl
  refine wq_iast rfl e27x rfl rfl ?_
  intro hh32x e33x ff34x lh35x
  have e33x : zat hh32x 166 = some (.inl (0, 14, (zset 0 (zset 0 (zset 0 (zset 0 (zset 0 (zset 0 kn 7 (0 : Int32)) 8 (0 : Int32)) 9 (0 : Int32)) 10 (0 : Int32)) 11 (0 : Int32)) 12 (0 : Int32)))) := e33x
  refine wq_ret rfl rfl ?_
  show wq 182 14 [(1, .int 5), (0, .ref 162)] [] hh32x 0 0 _
  refine wq_gos (f := 1) (pc2 := 11) (ls2 := [(1, .int 6), (0, .ref 162)]) (st2 := [.int 0, .int 6, .ref 162]) (h2 := hh32x) (dc2 := 0) (ds2 := 0) 8 rfl ?_
  have e36x := (ff34x.2 _ _ (wnc (by decide) wn0) e30x)
  refine wq_inlv (y2 := 170) (as := [.int 6, .int 0]) rfl rfl rfl e36x rfl ?_
  show wq 170 0 [(0, .ref 162), (1, .int 6), (2, .int 0)] [] hh32x 0 0 _
  refine wq_gos (f := 1) (pc2 := 1) (ls2 := [(0, .ref 162), (1, .int 6), (2, .int 0)]) (st2 := [.ref 162]) (h2 := hh32x) (dc2 := 0) (ds2 := 0) 1 rfl ?_
  refine wq_getf rfl e36x rfl rfl ?_
  refine wq_gos (f := 1) (pc2 := 9) (ls2 := [(0, .ref 162), (1, .int 6), (2, .int 0)]) (st2 := [.int 0, .int 13, .ref 166]) (h2 := hh32x) (dc2 := 0) (ds2 := 0) 4 rfl ?_
  have q37x : (13 : Int32).toInt = 13 := rfl
  refine wq_iast rfl e33x rfl rfl ?_
  intro hh38x e39x ff40x lh41x
  have e39x : zat hh38x 166 = some (.inl (0, 14, (zset 0 (zset 0 (zset 0 (zset 0 (zset 0 (zset 0 (zset 0 kn 7 (0 : Int32)) 8 (0 : Int32)) 9 (0 : Int32)) 10 (0 : Int32)) 11 (0 : Int32)) 12 (0 : Int32)) 13 (0 : Int32)))) := e39x
  refine wq_ret rfl rfl ?_
  show wq 182 14 [(1, .int 6), (0, .ref 162)] [] hh38x 0 0 _
  refine wq_gos (f := 1) (pc2 := 24) (ls2 := [(1, .int 7), (0, .ref 162)]) (st2 := [.int 9, .int 0, .ref 162]) (h2 := hh38x) (dc2 := 0) (ds2 := 0) 8 rfl ?_
  have e42x := (ff40x.2 _ _ (wnc (by decide) wn0) e36x)
  refine wq_inlv (y2 := 170) (as := [.int 0, .int 9]) rfl rfl rfl e42x rfl ?_
  show wq 170 0 [(0, .ref 162), (1, .int 0), (2, .int 9)] [] hh38x 0 0 _
  refine wq_gos (f := 1) (pc2 := 1) (ls2 := [(0, .ref 162), (1, .int 0), (2, .int 9)]) (st2 := [.ref 162]) (h2 := hh38x) (dc2 := 0) (ds2 := 0) 1 rfl ?_
  refine wq_getf rfl e42x rfl rfl ?_
  refine wq_gos (f := 1) (pc2 := 9) (ls2 := [(0, .ref 162), (1, .int 0), (2, .int 9)]) (st2 := [.int 9, .int 7, .ref 166]) (h2 := hh38x) (dc2 := 0) (ds2 := 0) 4 rfl ?_
  refine wq_iast rfl e39x rfl rfl ?_
  intro hh43x e44x ff45x lh46x
  have e44x : zat hh43x 166 = some (.inl (0, 14, (zset 0 (zset 0 (zset 0 (zset 0 (zset 0 (zset 0 (zset 0 (zset 0 kn 7 (0 : Int32)) 8 (0 : Int32)) 9 (0 : Int32)) 10 (0 : Int32)) 11 (0 : Int32)) 12 (0 : Int32)) 13 (0 : Int32)) 7 (9 : Int32)))) := e44x
  refine wq_ret rfl rfl ?_
  show wq 182 27 [(1, .int 7), (0, .ref 162)] [] hh43x 0 0 _
  refine wq_gos (f := 1) (pc2 := 30) (ls2 := [(1, .int 7), (0, .ref 162)]) (st2 := [.int 4, .int 1, .ref 162]) (h2 := hh43x) (dc2 := 0) (ds2 := 0) 3 rfl ?_
  have e47x := (ff45x.2 _ _ (wnc (by decide) wn0) e42x)
  refine wq_inlv (y2 := 170) (as := [.int 1, .int 4]) rfl rfl rfl e47x rfl ?_
  show wq 170 0 [(0, .ref 162), (1, .int 1), (2, .int 4)] [] hh43x 0 0 _
  refine wq_gos (f := 1) (pc2 := 1) (ls2 := [(0, .ref 162), (1, .int 1), (2, .int 4)]) (st2 := [.ref 162]) (h2 := hh43x) (dc2 := 0) (ds2 := 0) 1 rfl ?_
  refine wq_getf rfl e47x rfl rfl ?_
  refine wq_gos (f := 1) (pc2 := 9) (ls2 := [(0, .ref 162), (1, .int 1), (2, .int 4)]) (st2 := [.int 4, .int 8, .ref 166]) (h2 := hh43x) (dc2 := 0) (ds2 := 0) 4 rfl ?_
  refine wq_iast rfl e44x rfl rfl ?_
  intro hh48x e49x ff50x lh51x
  have e49x : zat hh48x 166 = some (.inl (0, 14, (zset 0 (zset 0 (zset 0 (zset 0 (zset 0 (zset 0 (zset 0 (zset 0 (zset 0 kn 7 (0 : Int32)) 8 (0 : Int32)) 9 (0 : Int32)) 10 (0 : Int32)) 11 (0 : Int32)) 12 (0 : Int32)) 13 (0 : Int32)) 7 (9 : Int32)) 8 (4 : Int32)))) := e49x
  refine wq_ret rfl rfl ?_
  show wq 182 33 [(1, .int 7), (0, .ref 162)] [] hh48x 0 0 _
  refine wq_gos (f := 1) (pc2 := 37) (ls2 := [(1, .int 7), (0, .ref 162)]) (st2 := [.int 10, .int 2, .ref 162]) (h2 := hh48x) (dc2 := 0) (ds2 := 0) 3 rfl ?_
  have e52x := (ff50x.2 _ _ (wnc (by decide) wn0) e47x)
  refine wq_inlv (y2 := 170) (as := [.int 2, .int 10]) rfl rfl rfl e52x rfl ?_
  show wq 170 0 [(0, .ref 162), (1, .int 2), (2, .int 10)] [] hh48x 0 0 _
  refine wq_gos (f := 1) (pc2 := 1) (ls2 := [(0, .ref 162), (1, .int 2), (2, .int 10)]) (st2 := [.ref 162]) (h2 := hh48x) (dc2 := 0) (ds2 := 0) 1 rfl ?_
  refine wq_getf rfl e52x rfl rfl ?_
  refine wq_gos (f := 1) (pc2 := 9) (ls2 := [(0, .ref 162), (1, .int 2), (2, .int 10)]) (st2 := [.int 10, .int 9, .ref 166]) (h2 := hh48x) (dc2 := 0) (ds2 := 0) 4 rfl ?_
  refine wq_iast rfl e49x rfl rfl ?_
  intro hh53x e54x ff55x lh56x
  have e54x : zat hh53x 166 = some (.inl (0, 14, (zset 0 (zset 0 (zset 0 (zset 0 (zset 0 (zset 0 (zset 0 (zset 0 (zset 0 (zset 0 kn 7 (0 : Int32)) 8 (0 : Int32)) 9 (0 : Int32)) 10 (0 : Int32)) 11 (0 : Int32)) 12 (0 : Int32)) 13 (0 : Int32)) 7 (9 : Int32)) 8 (4 : Int32)) 9 (10 : Int32)))) := e54x
  refine wq_ret rfl rfl ?_
  show wq 182 40 [(1, .int 7), (0, .ref 162)] [] hh53x 0 0 _
  refine wq_gos (f := 1) (pc2 := 43) (ls2 := [(1, .int 7), (0, .ref 162)]) (st2 := [.int 2, .int 3, .ref 162]) (h2 := hh53x) (dc2 := 0) (ds2 := 0) 3 rfl ?_
  have e57x := (ff55x.2 _ _ (wnc (by decide) wn0) e52x)
  refine wq_inlv (y2 := 170) (as := [.int 3, .int 2]) rfl rfl rfl e57x rfl ?_
  show wq 170 0 [(0, .ref 162), (1, .int 3), (2, .int 2)] [] hh53x 0 0 _
  refine wq_gos (f := 1) (pc2 := 1) (ls2 := [(0, .ref 162), (1, .int 3), (2, .int 2)]) (st2 := [.ref 162]) (h2 := hh53x) (dc2 := 0) (ds2 := 0) 1 rfl ?_
  refine wq_getf rfl e57x rfl rfl ?_
  refine wq_gos (f := 1) (pc2 := 9) (ls2 := [(0, .ref 162), (1, .int 3), (2, .int 2)]) (st2 := [.int 2, .int 10, .ref 166]) (h2 := hh53x) (dc2 := 0) (ds2 := 0) 4 rfl ?_
  refine wq_iast rfl e54x rfl rfl ?_
  intro hh58x e59x ff60x lh61x
  have e59x : zat hh58x 166 = some (.inl (0, 14, (zset 0 (zset 0 (zset 0 (zset 0 (zset 0 (zset 0 (zset 0 (zset 0 (zset 0 (zset 0 (zset 0 kn 7 (0 : Int32)) 8 (0 : Int32)) 9 (0 : Int32)) 10 (0 : Int32)) 11 (0 : Int32)) 12 (0 : Int32)) 13 (0 : Int32)) 7 (9 : Int32)) 8 (4 : Int32)) 9 (10 : Int32)) 10 (2 : Int32)))) := e59x
  refine wq_ret rfl rfl ?_
  show wq 182 46 [(1, .int 7), (0, .ref 162)] [] hh58x 0 0 _
  refine wq_gos (f := 1) (pc2 := 55) (ls2 := [(1, .int 0), (0, .ref 162)]) (st2 := [.ref 162]) (h2 := hh58x) (dc2 := 0) (ds2 := 0) 6 rfl ?_
  have e62x := (ff60x.2 _ _ (wnc (by decide) wn0) e57x)
  refine wq_getf rfl e62x rfl rfl ?_
  refine wq_gos (f := 1) (pc2 := 63) (ls2 := [(1, .int 0), (0, .ref 162)]) (st2 := [.int 0, .int 6, .ref 168]) (h2 := hh58x) (dc2 := 0) (ds2 := 0) 4 rfl ?_
  have q63x : (0 : Int32).toInt = 0 := rfl
  refine wq_inl (y2 := 167) (as := [.int 0]) rfl rfl rfl (wq_mono m_leO ?_)
  rintro _ ⟨rfl, p064x⟩
  show wq 182 66 [(1, .int 0), (0, .ref 162)] [.int (mLeO (0 : Int32)), .int 6, .ref 168] hh58x 0 0 _
  have e65x := (ff60x.2 _ _ (wnc (by decide) wn0) (ff55x.2 _ _ (wnc (by decide) wn0) (ff50x.2 _ _ (wnc (by decide) wn0) (ff45x.2 _ _ (wnc (by decide) wn0) (ff40x.2 _ _ (wnc (by decide) wn0) (ff34x.2 _ _ (wnc (by decide) wn0) (ff28x.2 _ _ (wnc (by decide) wn0) (ff22x.2 _ _ (wnc (by decide) wn0) (ff16x.2 _ _ (wnc (by decide) wn0) (ff10x.2 _ _ (wnc (by decide) wn0) (ff4x.2 _ _ (wnc (by decide) wn0) hLo)))))))))))
  have q66x : (6 : Int32).toInt = 6 := rfl
  refine wq_iast rfl e65x rfl rfl ?_
  intro hh67x e68x ff69x lh70x
  have e68x : zat hh67x 168 = some (.inl (0, 12, (zset 0 lo 6 (mLeO (0 : Int32))))) := e68x
  refine wq_gos (f := 1) (pc2 := 68) (ls2 := [(1, .int 0), (0, .ref 162)]) (st2 := [.ref 162]) (h2 := hh67x) (dc2 := 0) (ds2 := 0) 1 rfl ?_
  have e71x := (ff69x.2 _ _ (wnc (by decide) wn0) e62x)
  refine wq_getf rfl e71x rfl rfl ?_
  refine wq_gos (f := 1) (pc2 := 76) (ls2 := [(1, .int 0), (0, .ref 162)]) (st2 := [.int 0, .int 6, .ref 170]) (h2 := hh67x) (dc2 := 0) (ds2 := 0) 4 rfl ?_
  refine wq_inl (y2 := 168) (as := [.int 0]) rfl rfl rfl (wq_mono m_moO ?_)
  rintro _ ⟨rfl, p072x⟩
  show wq 182 79 [(1, .int 0), (0, .ref 162)] [.int (mMoO (0 : Int32)), .int 6, .ref 170] hh67x 0 0 _
  have e73x := (ff69x.2 _ _ (wnc (by decide) wn0) (ff60x.2 _ _ (wnc (by decide) wn0) (ff55x.2 _ _ (wnc (by decide) wn0) (ff50x.2 _ _ (wnc (by decide) wn0) (ff45x.2 _ _ (wnc (by decide) wn0) (ff40x.2 _ _ (wnc (by decide) wn0) (ff34x.2 _ _ (wnc (by decide) wn0) (ff28x.2 _ _ (wnc (by decide) wn0) (ff22x.2 _ _ (wnc (by decide) wn0) (ff16x.2 _ _ (wnc (by decide) wn0) (ff10x.2 _ _ (wnc (by decide) wn0) (ff4x.2 _ _ (wnc (by decide) wn0) hHi))))))))))))
  refine wq_iast rfl e73x rfl rfl ?_
  intro hh74x e75x ff76x lh77x
  have e75x : zat hh74x 170 = some (.inl (0, 12, (zset 0 hi 6 (mMoO (0 : Int32))))) := e75x
  refine wq_gos (f := 1) (pc2 := 81) (ls2 := [(1, .int 0), (0, .ref 162)]) (st2 := [.ref 162]) (h2 := hh74x) (dc2 := 0) (ds2 := 0) 1 rfl ?_
  have e78x := (ff76x.2 _ _ (wnc (by decide) wn0) e71x)
  refine wq_getf rfl e78x rfl rfl ?_
  refine wq_gos (f := 1) (pc2 := 89) (ls2 := [(1, .int 0), (0, .ref 162)]) (st2 := [.int 4, .int 6, .ref 172]) (h2 := hh74x) (dc2 := 0) (ds2 := 0) 4 rfl ?_
  have e79x := (ff76x.2 _ _ (wnc (by decide) wn0) (ff69x.2 _ _ (wnc (by decide) wn0) (ff60x.2 _ _ (wnc (by decide) wn0) (ff55x.2 _ _ (wnc (by decide) wn0) (ff50x.2 _ _ (wnc (by decide) wn0) (ff45x.2 _ _ (wnc (by decide) wn0) (ff40x.2 _ _ (wnc (by decide) wn0) (ff34x.2 _ _ (wnc (by decide) wn0) (ff28x.2 _ _ (wnc (by decide) wn0) (ff22x.2 _ _ (wnc (by decide) wn0) (ff16x.2 _ _ (wnc (by decide) wn0) (ff10x.2 _ _ (wnc (by decide) wn0) (ff4x.2 _ _ (wnc (by decide) wn0) hSv)))))))))))))
  refine wq_iast rfl e79x rfl rfl ?_
  intro hh80x e81x ff82x lh83x
  have e81x : zat hh80x 172 = some (.inl (0, 12, (zset 0 sv 6 (4 : Int32)))) := e81x
  refine wq_gos (f := 1) (pc2 := 91) (ls2 := [(1, .int 0), (0, .ref 162)]) (st2 := [.ref 162]) (h2 := hh80x) (dc2 := 0) (ds2 := 0) 1 rfl ?_
  have e84x := (ff82x.2 _ _ (wnc (by decide) wn0) e78x)
  refine wq_getf rfl e84x rfl rfl ?_
  refine wq_gos (f := 1) (pc2 := 99) (ls2 := [(1, .int 0), (0, .ref 162)]) (st2 := [.int 0, .int 6, .ref 174]) (h2 := hh80x) (dc2 := 0) (ds2 := 0) 4 rfl ?_
  have e85x := (ff82x.2 _ _ (wnc (by decide) wn0) (ff76x.2 _ _ (wnc (by decide) wn0) (ff69x.2 _ _ (wnc (by decide) wn0) (ff60x.2 _ _ (wnc (by decide) wn0) (ff55x.2 _ _ (wnc (by decide) wn0) (ff50x.2 _ _ (wnc (by decide) wn0) (ff45x.2 _ _ (wnc (by decide) wn0) (ff40x.2 _ _ (wnc (by decide) wn0) (ff34x.2 _ _ (wnc (by decide) wn0) (ff28x.2 _ _ (wnc (by decide) wn0) (ff22x.2 _ _ (wnc (by decide) wn0) (ff16x.2 _ _ (wnc (by decide) wn0) (ff10x.2 _ _ (wnc (by decide) wn0) (ff4x.2 _ _ (wnc (by decide) wn0) hRt))))))))))))))
  refine wq_iast rfl e85x rfl rfl ?_
  intro hh86x e87x ff88x lh89x
  have e87x : zat hh86x 174 = some (.inl (0, 12, (zset 0 rt 6 (0 : Int32)))) := e87x
  refine wq_gos (f := 1) (pc2 := 101) (ls2 := [(1, .int 0), (0, .ref 162)]) (st2 := [.ref 162]) (h2 := hh86x) (dc2 := 0) (ds2 := 0) 1 rfl ?_
  have e90x := (ff88x.2 _ _ (wnc (by decide) wn0) e84x)
  refine wq_getf rfl e90x rfl rfl ?_
  refine wq_gos (f := 1) (pc2 := 106) (ls2 := [(1, .int 0), (0, .ref 162)]) (st2 := [.int 0, .int 0, .ref 184]) (h2 := hh86x) (dc2 := 0) (ds2 := 0) 2 rfl ?_
  have e91x := (ff88x.2 _ _ (wnc (by decide) wn0) (ff82x.2 _ _ (wnc (by decide) wn0) (ff76x.2 _ _ (wnc (by decide) wn0) (ff69x.2 _ _ (wnc (by decide) wn0) (ff60x.2 _ _ (wnc (by decide) wn0) (ff55x.2 _ _ (wnc (by decide) wn0) (ff50x.2 _ _ (wnc (by decide) wn0) (ff45x.2 _ _ (wnc (by decide) wn0) (ff40x.2 _ _ (wnc (by decide) wn0) (ff34x.2 _ _ (wnc (by decide) wn0) (ff28x.2 _ _ (wnc (by decide) wn0) (ff22x.2 _ _ (wnc (by decide) wn0) (ff16x.2 _ _ (wnc (by decide) wn0) (ff10x.2 _ _ (wnc (by decide) wn0) (ff4x.2 _ _ (wnc (by decide) wn0) hHd)))))))))))))))
  refine wq_bastz rfl e91x rfl rfl ?_
  intro hh92x e93x ff94x lh95x
  have e93x : zat hh92x 184 = some (.inl (2, 6, (zset 0 hl 0 (vp_nar .boolean (0 : Int32))))) := e93x
  refine wq_gos (f := 1) (pc2 := 108) (ls2 := [(1, .int 0), (0, .ref 162)]) (st2 := [.ref 162]) (h2 := hh92x) (dc2 := 0) (ds2 := 0) 1 rfl ?_
  have e96x := (ff94x.2 _ _ (wnc (by decide) wn0) e90x)
  refine wq_getf rfl e96x rfl rfl ?_
  refine wq_gos (f := 1) (pc2 := 113) (ls2 := [(1, .int 0), (0, .ref 162)]) (st2 := [.int 0, .int 0, .ref 186]) (h2 := hh92x) (dc2 := 0) (ds2 := 0) 2 rfl ?_
  have e97x := (ff94x.2 _ _ (wnc (by decide) wn0) (ff88x.2 _ _ (wnc (by decide) wn0) (ff82x.2 _ _ (wnc (by decide) wn0) (ff76x.2 _ _ (wnc (by decide) wn0) (ff69x.2 _ _ (wnc (by decide) wn0) (ff60x.2 _ _ (wnc (by decide) wn0) (ff55x.2 _ _ (wnc (by decide) wn0) (ff50x.2 _ _ (wnc (by decide) wn0) (ff45x.2 _ _ (wnc (by decide) wn0) (ff40x.2 _ _ (wnc (by decide) wn0) (ff34x.2 _ _ (wnc (by decide) wn0) (ff28x.2 _ _ (wnc (by decide) wn0) (ff22x.2 _ _ (wnc (by decide) wn0) (ff16x.2 _ _ (wnc (by decide) wn0) (ff10x.2 _ _ (wnc (by decide) wn0) (ff4x.2 _ _ (wnc (by decide) wn0) hHs))))))))))))))))
  refine wq_bastz rfl e97x rfl rfl ?_
  intro hh98x e99x ff100x lh101x
  have e99x : zat hh98x 186 = some (.inl (2, 6, (zset 0 hs 0 (vp_nar .boolean (0 : Int32))))) := e99x
  refine wq_gos (f := 1) (pc2 := 55) (ls2 := [(1, .int 1), (0, .ref 162)]) (st2 := [.ref 162]) (h2 := hh98x) (dc2 := 0) (ds2 := 0) 6 rfl ?_
  have e102x := (ff100x.2 _ _ (wnc (by decide) wn0) e96x)
  refine wq_getf rfl e102x rfl rfl ?_
  refine wq_gos (f := 1) (pc2 := 63) (ls2 := [(1, .int 1), (0, .ref 162)]) (st2 := [.int 1, .int 7, .ref 168]) (h2 := hh98x) (dc2 := 0) (ds2 := 0) 4 rfl ?_
  have q103x : (1 : Int32).toInt = 1 := rfl
  refine wq_inl (y2 := 167) (as := [.int 1]) rfl rfl rfl (wq_mono m_leO ?_)
  rintro _ ⟨rfl, p0104x⟩
  show wq 182 66 [(1, .int 1), (0, .ref 162)] [.int (mLeO (1 : Int32)), .int 7, .ref 168] hh98x 0 0 _
  have e105x := (ff100x.2 _ _ (wnc (by decide) wn0) (ff94x.2 _ _ (wnc (by decide) wn0) (ff88x.2 _ _ (wnc (by decide) wn0) (ff82x.2 _ _ (wnc (by decide) wn0) (ff76x.2 _ _ (wnc (by decide) wn0) e68x)))))
  refine wq_iast rfl e105x rfl rfl ?_
  intro hh106x e107x ff108x lh109x
  have e107x : zat hh106x 168 = some (.inl (0, 12, (zset 0 (zset 0 lo 6 (mLeO (0 : Int32))) 7 (mLeO (1 : Int32))))) := e107x
  refine wq_gos (f := 1) (pc2 := 68) (ls2 := [(1, .int 1), (0, .ref 162)]) (st2 := [.ref 162]) (h2 := hh106x) (dc2 := 0) (ds2 := 0) 1 rfl ?_
  have e110x := (ff108x.2 _ _ (wnc (by decide) wn0) e102x)
  refine wq_getf rfl e110x rfl rfl ?_
  refine wq_gos (f := 1) (pc2 := 76) (ls2 := [(1, .int 1), (0, .ref 162)]) (st2 := [.int 1, .int 7, .ref 170]) (h2 := hh106x) (dc2 := 0) (ds2 := 0) 4 rfl ?_
  refine wq_inl (y2 := 168) (as := [.int 1]) rfl rfl rfl (wq_mono m_moO ?_)
  rintro _ ⟨rfl, p0111x⟩
  show wq 182 79 [(1, .int 1), (0, .ref 162)] [.int (mMoO (1 : Int32)), .int 7, .ref 170] hh106x 0 0 _
  have e112x := (ff108x.2 _ _ (wnc (by decide) wn0) (ff100x.2 _ _ (wnc (by decide) wn0) (ff94x.2 _ _ (wnc (by decide) wn0) (ff88x.2 _ _ (wnc (by decide) wn0) (ff82x.2 _ _ (wnc (by decide) wn0) e75x)))))
  refine wq_iast rfl e112x rfl rfl ?_
  intro hh113x e114x ff115x lh116x
  have e114x : zat hh113x 170 = some (.inl (0, 12, (zset 0 (zset 0 hi 6 (mMoO (0 : Int32))) 7 (mMoO (1 : Int32))))) := e114x
  refine wq_gos (f := 1) (pc2 := 81) (ls2 := [(1, .int 1), (0, .ref 162)]) (st2 := [.ref 162]) (h2 := hh113x) (dc2 := 0) (ds2 := 0) 1 rfl ?_
  have e117x := (ff115x.2 _ _ (wnc (by decide) wn0) e110x)
  refine wq_getf rfl e117x rfl rfl ?_
  refine wq_gos (f := 1) (pc2 := 89) (ls2 := [(1, .int 1), (0, .ref 162)]) (st2 := [.int 4, .int 7, .ref 172]) (h2 := hh113x) (dc2 := 0) (ds2 := 0) 4 rfl ?_
  have e118x := (ff115x.2 _ _ (wnc (by decide) wn0) (ff108x.2 _ _ (wnc (by decide) wn0) (ff100x.2 _ _ (wnc (by decide) wn0) (ff94x.2 _ _ (wnc (by decide) wn0) (ff88x.2 _ _ (wnc (by decide) wn0) e81x)))))
  refine wq_iast rfl e118x rfl rfl ?_
  intro hh119x e120x ff121x lh122x
  have e120x : zat hh119x 172 = some (.inl (0, 12, (zset 0 (zset 0 sv 6 (4 : Int32)) 7 (4 : Int32)))) := e120x
  refine wq_gos (f := 1) (pc2 := 91) (ls2 := [(1, .int 1), (0, .ref 162)]) (st2 := [.ref 162]) (h2 := hh119x) (dc2 := 0) (ds2 := 0) 1 rfl ?_
  have e123x := (ff121x.2 _ _ (wnc (by decide) wn0) e117x)
  refine wq_getf rfl e123x rfl rfl ?_
  refine wq_gos (f := 1) (pc2 := 99) (ls2 := [(1, .int 1), (0, .ref 162)]) (st2 := [.int 0, .int 7, .ref 174]) (h2 := hh119x) (dc2 := 0) (ds2 := 0) 4 rfl ?_
  have e124x := (ff121x.2 _ _ (wnc (by decide) wn0) (ff115x.2 _ _ (wnc (by decide) wn0) (ff108x.2 _ _ (wnc (by decide) wn0) (ff100x.2 _ _ (wnc (by decide) wn0) (ff94x.2 _ _ (wnc (by decide) wn0) e87x)))))
  refine wq_iast rfl e124x rfl rfl ?_
  intro hh125x e126x ff127x lh128x
  have e126x : zat hh125x 174 = some (.inl (0, 12, (zset 0 (zset 0 rt 6 (0 : Int32)) 7 (0 : Int32)))) := e126x
  refine wq_gos (f := 1) (pc2 := 101) (ls2 := [(1, .int 1), (0, .ref 162)]) (st2 := [.ref 162]) (h2 := hh125x) (dc2 := 0) (ds2 := 0) 1 rfl ?_
  have e129x := (ff127x.2 _ _ (wnc (by decide) wn0) e123x)
  refine wq_getf rfl e129x rfl rfl ?_
  refine wq_gos (f := 1) (pc2 := 106) (ls2 := [(1, .int 1), (0, .ref 162)]) (st2 := [.int 0, .int 1, .ref 184]) (h2 := hh125x) (dc2 := 0) (ds2 := 0) 2 rfl ?_
  have e130x := (ff127x.2 _ _ (wnc (by decide) wn0) (ff121x.2 _ _ (wnc (by decide) wn0) (ff115x.2 _ _ (wnc (by decide) wn0) (ff108x.2 _ _ (wnc (by decide) wn0) (ff100x.2 _ _ (wnc (by decide) wn0) e93x)))))
  refine wq_bastz rfl e130x rfl rfl ?_
  intro hh131x e132x ff133x lh134x
  have e132x : zat hh131x 184 = some (.inl (2, 6, (zset 0 (zset 0 hl 0 (vp_nar .boolean (0 : Int32))) 1 (vp_nar .boolean (0 : Int32))))) := e132x
  refine wq_gos (f := 1) (pc2 := 108) (ls2 := [(1, .int 1), (0, .ref 162)]) (st2 := [.ref 162]) (h2 := hh131x) (dc2 := 0) (ds2 := 0) 1 rfl ?_
  have e135x := (ff133x.2 _ _ (wnc (by decide) wn0) e129x)
  refine wq_getf rfl e135x rfl rfl ?_
  refine wq_gos (f := 1) (pc2 := 113) (ls2 := [(1, .int 1), (0, .ref 162)]) (st2 := [.int 0, .int 1, .ref 186]) (h2 := hh131x) (dc2 := 0) (ds2 := 0) 2 rfl ?_
  have e136x := (ff133x.2 _ _ (wnc (by decide) wn0) (ff127x.2 _ _ (wnc (by decide) wn0) (ff121x.2 _ _ (wnc (by decide) wn0) (ff115x.2 _ _ (wnc (by decide) wn0) (ff108x.2 _ _ (wnc (by decide) wn0) e99x)))))
  refine wq_bastz rfl e136x rfl rfl ?_
  intro hh137x e138x ff139x lh140x
  have e138x : zat hh137x 186 = some (.inl (2, 6, (zset 0 (zset 0 hs 0 (vp_nar .boolean (0 : Int32))) 1 (vp_nar .boolean (0 : Int32))))) := e138x
  refine wq_gos (f := 1) (pc2 := 55) (ls2 := [(1, .int 2), (0, .ref 162)]) (st2 := [.ref 162]) (h2 := hh137x) (dc2 := 0) (ds2 := 0) 6 rfl ?_
  have e141x := (ff139x.2 _ _ (wnc (by decide) wn0) e135x)
  refine wq_getf rfl e141x rfl rfl ?_
  refine wq_gos (f := 1) (pc2 := 63) (ls2 := [(1, .int 2), (0, .ref 162)]) (st2 := [.int 2, .int 8, .ref 168]) (h2 := hh137x) (dc2 := 0) (ds2 := 0) 4 rfl ?_
  have q142x : (2 : Int32).toInt = 2 := rfl
  refine wq_inl (y2 := 167) (as := [.int 2]) rfl rfl rfl (wq_mono m_leO ?_)
  rintro _ ⟨rfl, p0143x⟩
  show wq 182 66 [(1, .int 2), (0, .ref 162)] [.int (mLeO (2 : Int32)), .int 8, .ref 168] hh137x 0 0 _
  have e144x := (ff139x.2 _ _ (wnc (by decide) wn0) (ff133x.2 _ _ (wnc (by decide) wn0) (ff127x.2 _ _ (wnc (by decide) wn0) (ff121x.2 _ _ (wnc (by decide) wn0) (ff115x.2 _ _ (wnc (by decide) wn0) e107x)))))
  refine wq_iast rfl e144x rfl rfl ?_
  intro hh145x e146x ff147x lh148x
  have e146x : zat hh145x 168 = some (.inl (0, 12, (zset 0 (zset 0 (zset 0 lo 6 (mLeO (0 : Int32))) 7 (mLeO (1 : Int32))) 8 (mLeO (2 : Int32))))) := e146x
  refine wq_gos (f := 1) (pc2 := 68) (ls2 := [(1, .int 2), (0, .ref 162)]) (st2 := [.ref 162]) (h2 := hh145x) (dc2 := 0) (ds2 := 0) 1 rfl ?_
  have e149x := (ff147x.2 _ _ (wnc (by decide) wn0) e141x)
  refine wq_getf rfl e149x rfl rfl ?_
  refine wq_gos (f := 1) (pc2 := 76) (ls2 := [(1, .int 2), (0, .ref 162)]) (st2 := [.int 2, .int 8, .ref 170]) (h2 := hh145x) (dc2 := 0) (ds2 := 0) 4 rfl ?_
  refine wq_inl (y2 := 168) (as := [.int 2]) rfl rfl rfl (wq_mono m_moO ?_)
  rintro _ ⟨rfl, p0150x⟩
  show wq 182 79 [(1, .int 2), (0, .ref 162)] [.int (mMoO (2 : Int32)), .int 8, .ref 170] hh145x 0 0 _
  have e151x := (ff147x.2 _ _ (wnc (by decide) wn0) (ff139x.2 _ _ (wnc (by decide) wn0) (ff133x.2 _ _ (wnc (by decide) wn0) (ff127x.2 _ _ (wnc (by decide) wn0) (ff121x.2 _ _ (wnc (by decide) wn0) e114x)))))
  refine wq_iast rfl e151x rfl rfl ?_
  intro hh152x e153x ff154x lh155x
  have e153x : zat hh152x 170 = some (.inl (0, 12, (zset 0 (zset 0 (zset 0 hi 6 (mMoO (0 : Int32))) 7 (mMoO (1 : Int32))) 8 (mMoO (2 : Int32))))) := e153x
  refine wq_gos (f := 1) (pc2 := 81) (ls2 := [(1, .int 2), (0, .ref 162)]) (st2 := [.ref 162]) (h2 := hh152x) (dc2 := 0) (ds2 := 0) 1 rfl ?_
  have e156x := (ff154x.2 _ _ (wnc (by decide) wn0) e149x)
  refine wq_getf rfl e156x rfl rfl ?_
  refine wq_gos (f := 1) (pc2 := 89) (ls2 := [(1, .int 2), (0, .ref 162)]) (st2 := [.int 4, .int 8, .ref 172]) (h2 := hh152x) (dc2 := 0) (ds2 := 0) 4 rfl ?_
  have e157x := (ff154x.2 _ _ (wnc (by decide) wn0) (ff147x.2 _ _ (wnc (by decide) wn0) (ff139x.2 _ _ (wnc (by decide) wn0) (ff133x.2 _ _ (wnc (by decide) wn0) (ff127x.2 _ _ (wnc (by decide) wn0) e120x)))))
  refine wq_iast rfl e157x rfl rfl ?_
  intro hh158x e159x ff160x lh161x
  have e159x : zat hh158x 172 = some (.inl (0, 12, (zset 0 (zset 0 (zset 0 sv 6 (4 : Int32)) 7 (4 : Int32)) 8 (4 : Int32)))) := e159x
  refine wq_gos (f := 1) (pc2 := 91) (ls2 := [(1, .int 2), (0, .ref 162)]) (st2 := [.ref 162]) (h2 := hh158x) (dc2 := 0) (ds2 := 0) 1 rfl ?_
  have e162x := (ff160x.2 _ _ (wnc (by decide) wn0) e156x)
  refine wq_getf rfl e162x rfl rfl ?_
  refine wq_gos (f := 1) (pc2 := 99) (ls2 := [(1, .int 2), (0, .ref 162)]) (st2 := [.int 0, .int 8, .ref 174]) (h2 := hh158x) (dc2 := 0) (ds2 := 0) 4 rfl ?_
  have e163x := (ff160x.2 _ _ (wnc (by decide) wn0) (ff154x.2 _ _ (wnc (by decide) wn0) (ff147x.2 _ _ (wnc (by decide) wn0) (ff139x.2 _ _ (wnc (by decide) wn0) (ff133x.2 _ _ (wnc (by decide) wn0) e126x)))))
  refine wq_iast rfl e163x rfl rfl ?_
  intro hh164x e165x ff166x lh167x
  have e165x : zat hh164x 174 = some (.inl (0, 12, (zset 0 (zset 0 (zset 0 rt 6 (0 : Int32)) 7 (0 : Int32)) 8 (0 : Int32)))) := e165x
  refine wq_gos (f := 1) (pc2 := 101) (ls2 := [(1, .int 2), (0, .ref 162)]) (st2 := [.ref 162]) (h2 := hh164x) (dc2 := 0) (ds2 := 0) 1 rfl ?_
  have e168x := (ff166x.2 _ _ (wnc (by decide) wn0) e162x)
  refine wq_getf rfl e168x rfl rfl ?_
  refine wq_gos (f := 1) (pc2 := 106) (ls2 := [(1, .int 2), (0, .ref 162)]) (st2 := [.int 0, .int 2, .ref 184]) (h2 := hh164x) (dc2 := 0) (ds2 := 0) 2 rfl ?_
  have e169x := (ff166x.2 _ _ (wnc (by decide) wn0) (ff160x.2 _ _ (wnc (by decide) wn0) (ff154x.2 _ _ (wnc (by decide) wn0) (ff147x.2 _ _ (wnc (by decide) wn0) (ff139x.2 _ _ (wnc (by decide) wn0) e132x)))))
  refine wq_bastz rfl e169x rfl rfl ?_
  intro hh170x e171x ff172x lh173x
  have e171x : zat hh170x 184 = some (.inl (2, 6, (zset 0 (zset 0 (zset 0 hl 0 (vp_nar .boolean (0 : Int32))) 1 (vp_nar .boolean (0 : Int32))) 2 (vp_nar .boolean (0 : Int32))))) := e171x
  refine wq_gos (f := 1) (pc2 := 108) (ls2 := [(1, .int 2), (0, .ref 162)]) (st2 := [.ref 162]) (h2 := hh170x) (dc2 := 0) (ds2 := 0) 1 rfl ?_
  have e174x := (ff172x.2 _ _ (wnc (by decide) wn0) e168x)
  refine wq_getf rfl e174x rfl rfl ?_
  refine wq_gos (f := 1) (pc2 := 113) (ls2 := [(1, .int 2), (0, .ref 162)]) (st2 := [.int 0, .int 2, .ref 186]) (h2 := hh170x) (dc2 := 0) (ds2 := 0) 2 rfl ?_
  have e175x := (ff172x.2 _ _ (wnc (by decide) wn0) (ff166x.2 _ _ (wnc (by decide) wn0) (ff160x.2 _ _ (wnc (by decide) wn0) (ff154x.2 _ _ (wnc (by decide) wn0) (ff147x.2 _ _ (wnc (by decide) wn0) e138x)))))
  refine wq_bastz rfl e175x rfl rfl ?_
  intro hh176x e177x ff178x lh179x
  have e177x : zat hh176x 186 = some (.inl (2, 6, (zset 0 (zset 0 (zset 0 hs 0 (vp_nar .boolean (0 : Int32))) 1 (vp_nar .boolean (0 : Int32))) 2 (vp_nar .boolean (0 : Int32))))) := e177x
  refine wq_gos (f := 1) (pc2 := 55) (ls2 := [(1, .int 3), (0, .ref 162)]) (st2 := [.ref 162]) (h2 := hh176x) (dc2 := 0) (ds2 := 0) 6 rfl ?_
  have e180x := (ff178x.2 _ _ (wnc (by decide) wn0) e174x)
  refine wq_getf rfl e180x rfl rfl ?_
  refine wq_gos (f := 1) (pc2 := 63) (ls2 := [(1, .int 3), (0, .ref 162)]) (st2 := [.int 3, .int 9, .ref 168]) (h2 := hh176x) (dc2 := 0) (ds2 := 0) 4 rfl ?_
  have q181x : (3 : Int32).toInt = 3 := rfl
  refine wq_inl (y2 := 167) (as := [.int 3]) rfl rfl rfl (wq_mono m_leO ?_)
  rintro _ ⟨rfl, p0182x⟩
  show wq 182 66 [(1, .int 3), (0, .ref 162)] [.int (mLeO (3 : Int32)), .int 9, .ref 168] hh176x 0 0 _
  have e183x := (ff178x.2 _ _ (wnc (by decide) wn0) (ff172x.2 _ _ (wnc (by decide) wn0) (ff166x.2 _ _ (wnc (by decide) wn0) (ff160x.2 _ _ (wnc (by decide) wn0) (ff154x.2 _ _ (wnc (by decide) wn0) e146x)))))
  refine wq_iast rfl e183x rfl rfl ?_
  intro hh184x e185x ff186x lh187x
  have e185x : zat hh184x 168 = some (.inl (0, 12, (zset 0 (zset 0 (zset 0 (zset 0 lo 6 (mLeO (0 : Int32))) 7 (mLeO (1 : Int32))) 8 (mLeO (2 : Int32))) 9 (mLeO (3 : Int32))))) := e185x
  refine wq_gos (f := 1) (pc2 := 68) (ls2 := [(1, .int 3), (0, .ref 162)]) (st2 := [.ref 162]) (h2 := hh184x) (dc2 := 0) (ds2 := 0) 1 rfl ?_
  have e188x := (ff186x.2 _ _ (wnc (by decide) wn0) e180x)
  refine wq_getf rfl e188x rfl rfl ?_
  refine wq_gos (f := 1) (pc2 := 76) (ls2 := [(1, .int 3), (0, .ref 162)]) (st2 := [.int 3, .int 9, .ref 170]) (h2 := hh184x) (dc2 := 0) (ds2 := 0) 4 rfl ?_
  refine wq_inl (y2 := 168) (as := [.int 3]) rfl rfl rfl (wq_mono m_moO ?_)
  rintro _ ⟨rfl, p0189x⟩
  show wq 182 79 [(1, .int 3), (0, .ref 162)] [.int (mMoO (3 : Int32)), .int 9, .ref 170] hh184x 0 0 _
  have e190x := (ff186x.2 _ _ (wnc (by decide) wn0) (ff178x.2 _ _ (wnc (by decide) wn0) (ff172x.2 _ _ (wnc (by decide) wn0) (ff166x.2 _ _ (wnc (by decide) wn0) (ff160x.2 _ _ (wnc (by decide) wn0) e153x)))))
  refine wq_iast rfl e190x rfl rfl ?_
  intro hh191x e192x ff193x lh194x
  have e192x : zat hh191x 170 = some (.inl (0, 12, (zset 0 (zset 0 (zset 0 (zset 0 hi 6 (mMoO (0 : Int32))) 7 (mMoO (1 : Int32))) 8 (mMoO (2 : Int32))) 9 (mMoO (3 : Int32))))) := e192x
  refine wq_gos (f := 1) (pc2 := 81) (ls2 := [(1, .int 3), (0, .ref 162)]) (st2 := [.ref 162]) (h2 := hh191x) (dc2 := 0) (ds2 := 0) 1 rfl ?_
  have e195x := (ff193x.2 _ _ (wnc (by decide) wn0) e188x)
  refine wq_getf rfl e195x rfl rfl ?_
  refine wq_gos (f := 1) (pc2 := 89) (ls2 := [(1, .int 3), (0, .ref 162)]) (st2 := [.int 4, .int 9, .ref 172]) (h2 := hh191x) (dc2 := 0) (ds2 := 0) 4 rfl ?_
  have e196x := (ff193x.2 _ _ (wnc (by decide) wn0) (ff186x.2 _ _ (wnc (by decide) wn0) (ff178x.2 _ _ (wnc (by decide) wn0) (ff172x.2 _ _ (wnc (by decide) wn0) (ff166x.2 _ _ (wnc (by decide) wn0) e159x)))))
  refine wq_iast rfl e196x rfl rfl ?_
  intro hh197x e198x ff199x lh200x
  have e198x : zat hh197x 172 = some (.inl (0, 12, (zset 0 (zset 0 (zset 0 (zset 0 sv 6 (4 : Int32)) 7 (4 : Int32)) 8 (4 : Int32)) 9 (4 : Int32)))) := e198x
  refine wq_gos (f := 1) (pc2 := 91) (ls2 := [(1, .int 3), (0, .ref 162)]) (st2 := [.ref 162]) (h2 := hh197x) (dc2 := 0) (ds2 := 0) 1 rfl ?_
  have e201x := (ff199x.2 _ _ (wnc (by decide) wn0) e195x)
  refine wq_getf rfl e201x rfl rfl ?_
  refine wq_gos (f := 1) (pc2 := 99) (ls2 := [(1, .int 3), (0, .ref 162)]) (st2 := [.int 0, .int 9, .ref 174]) (h2 := hh197x) (dc2 := 0) (ds2 := 0) 4 rfl ?_
  have e202x := (ff199x.2 _ _ (wnc (by decide) wn0) (ff193x.2 _ _ (wnc (by decide) wn0) (ff186x.2 _ _ (wnc (by decide) wn0) (ff178x.2 _ _ (wnc (by decide) wn0) (ff172x.2 _ _ (wnc (by decide) wn0) e165x)))))
  refine wq_iast rfl e202x rfl rfl ?_
  intro hh203x e204x ff205x lh206x
  have e204x : zat hh203x 174 = some (.inl (0, 12, (zset 0 (zset 0 (zset 0 (zset 0 rt 6 (0 : Int32)) 7 (0 : Int32)) 8 (0 : Int32)) 9 (0 : Int32)))) := e204x
  refine wq_gos (f := 1) (pc2 := 101) (ls2 := [(1, .int 3), (0, .ref 162)]) (st2 := [.ref 162]) (h2 := hh203x) (dc2 := 0) (ds2 := 0) 1 rfl ?_
  have e207x := (ff205x.2 _ _ (wnc (by decide) wn0) e201x)
  refine wq_getf rfl e207x rfl rfl ?_
  refine wq_gos (f := 1) (pc2 := 106) (ls2 := [(1, .int 3), (0, .ref 162)]) (st2 := [.int 0, .int 3, .ref 184]) (h2 := hh203x) (dc2 := 0) (ds2 := 0) 2 rfl ?_
  have e208x := (ff205x.2 _ _ (wnc (by decide) wn0) (ff199x.2 _ _ (wnc (by decide) wn0) (ff193x.2 _ _ (wnc (by decide) wn0) (ff186x.2 _ _ (wnc (by decide) wn0) (ff178x.2 _ _ (wnc (by decide) wn0) e171x)))))
  refine wq_bastz rfl e208x rfl rfl ?_
  intro hh209x e210x ff211x lh212x
  have e210x : zat hh209x 184 = some (.inl (2, 6, (zset 0 (zset 0 (zset 0 (zset 0 hl 0 (vp_nar .boolean (0 : Int32))) 1 (vp_nar .boolean (0 : Int32))) 2 (vp_nar .boolean (0 : Int32))) 3 (vp_nar .boolean (0 : Int32))))) := e210x
  refine wq_gos (f := 1) (pc2 := 108) (ls2 := [(1, .int 3), (0, .ref 162)]) (st2 := [.ref 162]) (h2 := hh209x) (dc2 := 0) (ds2 := 0) 1 rfl ?_
  have e213x := (ff211x.2 _ _ (wnc (by decide) wn0) e207x)
  refine wq_getf rfl e213x rfl rfl ?_
  refine wq_gos (f := 1) (pc2 := 113) (ls2 := [(1, .int 3), (0, .ref 162)]) (st2 := [.int 0, .int 3, .ref 186]) (h2 := hh209x) (dc2 := 0) (ds2 := 0) 2 rfl ?_
  have e214x := (ff211x.2 _ _ (wnc (by decide) wn0) (ff205x.2 _ _ (wnc (by decide) wn0) (ff199x.2 _ _ (wnc (by decide) wn0) (ff193x.2 _ _ (wnc (by decide) wn0) (ff186x.2 _ _ (wnc (by decide) wn0) e177x)))))
  refine wq_bastz rfl e214x rfl rfl ?_
  intro hh215x e216x ff217x lh218x
  have e216x : zat hh215x 186 = some (.inl (2, 6, (zset 0 (zset 0 (zset 0 (zset 0 hs 0 (vp_nar .boolean (0 : Int32))) 1 (vp_nar .boolean (0 : Int32))) 2 (vp_nar .boolean (0 : Int32))) 3 (vp_nar .boolean (0 : Int32))))) := e216x
  refine wq_gos (f := 1) (pc2 := 55) (ls2 := [(1, .int 4), (0, .ref 162)]) (st2 := [.ref 162]) (h2 := hh215x) (dc2 := 0) (ds2 := 0) 6 rfl ?_
  have e219x := (ff217x.2 _ _ (wnc (by decide) wn0) e213x)
  refine wq_getf rfl e219x rfl rfl ?_
  refine wq_gos (f := 1) (pc2 := 63) (ls2 := [(1, .int 4), (0, .ref 162)]) (st2 := [.int 4, .int 10, .ref 168]) (h2 := hh215x) (dc2 := 0) (ds2 := 0) 4 rfl ?_
  have q220x : (4 : Int32).toInt = 4 := rfl
  refine wq_inl (y2 := 167) (as := [.int 4]) rfl rfl rfl (wq_mono m_leO ?_)
  rintro _ ⟨rfl, p0221x⟩
  show wq 182 66 [(1, .int 4), (0, .ref 162)] [.int (mLeO (4 : Int32)), .int 10, .ref 168] hh215x 0 0 _
  have e222x := (ff217x.2 _ _ (wnc (by decide) wn0) (ff211x.2 _ _ (wnc (by decide) wn0) (ff205x.2 _ _ (wnc (by decide) wn0) (ff199x.2 _ _ (wnc (by decide) wn0) (ff193x.2 _ _ (wnc (by decide) wn0) e185x)))))
  refine wq_iast rfl e222x rfl rfl ?_
  intro hh223x e224x ff225x lh226x
  have e224x : zat hh223x 168 = some (.inl (0, 12, (zset 0 (zset 0 (zset 0 (zset 0 (zset 0 lo 6 (mLeO (0 : Int32))) 7 (mLeO (1 : Int32))) 8 (mLeO (2 : Int32))) 9 (mLeO (3 : Int32))) 10 (mLeO (4 : Int32))))) := e224x
  refine wq_gos (f := 1) (pc2 := 68) (ls2 := [(1, .int 4), (0, .ref 162)]) (st2 := [.ref 162]) (h2 := hh223x) (dc2 := 0) (ds2 := 0) 1 rfl ?_
  have e227x := (ff225x.2 _ _ (wnc (by decide) wn0) e219x)
  refine wq_getf rfl e227x rfl rfl ?_
  refine wq_gos (f := 1) (pc2 := 76) (ls2 := [(1, .int 4), (0, .ref 162)]) (st2 := [.int 4, .int 10, .ref 170]) (h2 := hh223x) (dc2 := 0) (ds2 := 0) 4 rfl ?_
  refine wq_inl (y2 := 168) (as := [.int 4]) rfl rfl rfl (wq_mono m_moO ?_)
  rintro _ ⟨rfl, p0228x⟩
  show wq 182 79 [(1, .int 4), (0, .ref 162)] [.int (mMoO (4 : Int32)), .int 10, .ref 170] hh223x 0 0 _
  have e229x := (ff225x.2 _ _ (wnc (by decide) wn0) (ff217x.2 _ _ (wnc (by decide) wn0) (ff211x.2 _ _ (wnc (by decide) wn0) (ff205x.2 _ _ (wnc (by decide) wn0) (ff199x.2 _ _ (wnc (by decide) wn0) e192x)))))
  refine wq_iast rfl e229x rfl rfl ?_
  intro hh230x e231x ff232x lh233x
  have e231x : zat hh230x 170 = some (.inl (0, 12, (zset 0 (zset 0 (zset 0 (zset 0 (zset 0 hi 6 (mMoO (0 : Int32))) 7 (mMoO (1 : Int32))) 8 (mMoO (2 : Int32))) 9 (mMoO (3 : Int32))) 10 (mMoO (4 : Int32))))) := e231x
  refine wq_gos (f := 1) (pc2 := 81) (ls2 := [(1, .int 4), (0, .ref 162)]) (st2 := [.ref 162]) (h2 := hh230x) (dc2 := 0) (ds2 := 0) 1 rfl ?_
  have e234x := (ff232x.2 _ _ (wnc (by decide) wn0) e227x)
  refine wq_getf rfl e234x rfl rfl ?_
  refine wq_gos (f := 1) (pc2 := 89) (ls2 := [(1, .int 4), (0, .ref 162)]) (st2 := [.int 4, .int 10, .ref 172]) (h2 := hh230x) (dc2 := 0) (ds2 := 0) 4 rfl ?_
  have e235x := (ff232x.2 _ _ (wnc (by decide) wn0) (ff225x.2 _ _ (wnc (by decide) wn0) (ff217x.2 _ _ (wnc (by decide) wn0) (ff211x.2 _ _ (wnc (by decide) wn0) (ff205x.2 _ _ (wnc (by decide) wn0) e198x)))))
  refine wq_iast rfl e235x rfl rfl ?_
  intro hh236x e237x ff238x lh239x
  have e237x : zat hh236x 172 = some (.inl (0, 12, (zset 0 (zset 0 (zset 0 (zset 0 (zset 0 sv 6 (4 : Int32)) 7 (4 : Int32)) 8 (4 : Int32)) 9 (4 : Int32)) 10 (4 : Int32)))) := e237x
  refine wq_gos (f := 1) (pc2 := 91) (ls2 := [(1, .int 4), (0, .ref 162)]) (st2 := [.ref 162]) (h2 := hh236x) (dc2 := 0) (ds2 := 0) 1 rfl ?_
  have e240x := (ff238x.2 _ _ (wnc (by decide) wn0) e234x)
  refine wq_getf rfl e240x rfl rfl ?_
  refine wq_gos (f := 1) (pc2 := 99) (ls2 := [(1, .int 4), (0, .ref 162)]) (st2 := [.int 0, .int 10, .ref 174]) (h2 := hh236x) (dc2 := 0) (ds2 := 0) 4 rfl ?_
  have e241x := (ff238x.2 _ _ (wnc (by decide) wn0) (ff232x.2 _ _ (wnc (by decide) wn0) (ff225x.2 _ _ (wnc (by decide) wn0) (ff217x.2 _ _ (wnc (by decide) wn0) (ff211x.2 _ _ (wnc (by decide) wn0) e204x)))))
  refine wq_iast rfl e241x rfl rfl ?_
  intro hh242x e243x ff244x lh245x
  have e243x : zat hh242x 174 = some (.inl (0, 12, (zset 0 (zset 0 (zset 0 (zset 0 (zset 0 rt 6 (0 : Int32)) 7 (0 : Int32)) 8 (0 : Int32)) 9 (0 : Int32)) 10 (0 : Int32)))) := e243x
  refine wq_gos (f := 1) (pc2 := 101) (ls2 := [(1, .int 4), (0, .ref 162)]) (st2 := [.ref 162]) (h2 := hh242x) (dc2 := 0) (ds2 := 0) 1 rfl ?_
  have e246x := (ff244x.2 _ _ (wnc (by decide) wn0) e240x)
  refine wq_getf rfl e246x rfl rfl ?_
  refine wq_gos (f := 1) (pc2 := 106) (ls2 := [(1, .int 4), (0, .ref 162)]) (st2 := [.int 0, .int 4, .ref 184]) (h2 := hh242x) (dc2 := 0) (ds2 := 0) 2 rfl ?_
  have e247x := (ff244x.2 _ _ (wnc (by decide) wn0) (ff238x.2 _ _ (wnc (by decide) wn0) (ff232x.2 _ _ (wnc (by decide) wn0) (ff225x.2 _ _ (wnc (by decide) wn0) (ff217x.2 _ _ (wnc (by decide) wn0) e210x)))))
  refine wq_bastz rfl e247x rfl rfl ?_
  intro hh248x e249x ff250x lh251x
  have e249x : zat hh248x 184 = some (.inl (2, 6, (zset 0 (zset 0 (zset 0 (zset 0 (zset 0 hl 0 (vp_nar .boolean (0 : Int32))) 1 (vp_nar .boolean (0 : Int32))) 2 (vp_nar .boolean (0 : Int32))) 3 (vp_nar .boolean (0 : Int32))) 4 (vp_nar .boolean (0 : Int32))))) := e249x
  refine wq_gos (f := 1) (pc2 := 108) (ls2 := [(1, .int 4), (0, .ref 162)]) (st2 := [.ref 162]) (h2 := hh248x) (dc2 := 0) (ds2 := 0) 1 rfl ?_
  have e252x := (ff250x.2 _ _ (wnc (by decide) wn0) e246x)
  refine wq_getf rfl e252x rfl rfl ?_
  refine wq_gos (f := 1) (pc2 := 113) (ls2 := [(1, .int 4), (0, .ref 162)]) (st2 := [.int 0, .int 4, .ref 186]) (h2 := hh248x) (dc2 := 0) (ds2 := 0) 2 rfl ?_
  have e253x := (ff250x.2 _ _ (wnc (by decide) wn0) (ff244x.2 _ _ (wnc (by decide) wn0) (ff238x.2 _ _ (wnc (by decide) wn0) (ff232x.2 _ _ (wnc (by decide) wn0) (ff225x.2 _ _ (wnc (by decide) wn0) e216x)))))
  refine wq_bastz rfl e253x rfl rfl ?_
  intro hh254x e255x ff256x lh257x
  have e255x : zat hh254x 186 = some (.inl (2, 6, (zset 0 (zset 0 (zset 0 (zset 0 (zset 0 hs 0 (vp_nar .boolean (0 : Int32))) 1 (vp_nar .boolean (0 : Int32))) 2 (vp_nar .boolean (0 : Int32))) 3 (vp_nar .boolean (0 : Int32))) 4 (vp_nar .boolean (0 : Int32))))) := e255x
  refine wq_gos (f := 1) (pc2 := 55) (ls2 := [(1, .int 5), (0, .ref 162)]) (st2 := [.ref 162]) (h2 := hh254x) (dc2 := 0) (ds2 := 0) 6 rfl ?_
  have e258x := (ff256x.2 _ _ (wnc (by decide) wn0) e252x)
  refine wq_getf rfl e258x rfl rfl ?_
  refine wq_gos (f := 1) (pc2 := 63) (ls2 := [(1, .int 5), (0, .ref 162)]) (st2 := [.int 5, .int 11, .ref 168]) (h2 := hh254x) (dc2 := 0) (ds2 := 0) 4 rfl ?_
  have q259x : (5 : Int32).toInt = 5 := rfl
  refine wq_inl (y2 := 167) (as := [.int 5]) rfl rfl rfl (wq_mono m_leO ?_)
  rintro _ ⟨rfl, p0260x⟩
  show wq 182 66 [(1, .int 5), (0, .ref 162)] [.int (mLeO (5 : Int32)), .int 11, .ref 168] hh254x 0 0 _
  have e261x := (ff256x.2 _ _ (wnc (by decide) wn0) (ff250x.2 _ _ (wnc (by decide) wn0) (ff244x.2 _ _ (wnc (by decide) wn0) (ff238x.2 _ _ (wnc (by decide) wn0) (ff232x.2 _ _ (wnc (by decide) wn0) e224x)))))
  refine wq_iast rfl e261x rfl rfl ?_
  intro hh262x e263x ff264x lh265x
  have e263x : zat hh262x 168 = some (.inl (0, 12, (zset 0 (zset 0 (zset 0 (zset 0 (zset 0 (zset 0 lo 6 (mLeO (0 : Int32))) 7 (mLeO (1 : Int32))) 8 (mLeO (2 : Int32))) 9 (mLeO (3 : Int32))) 10 (mLeO (4 : Int32))) 11 (mLeO (5 : Int32))))) := e263x
  refine wq_gos (f := 1) (pc2 := 68) (ls2 := [(1, .int 5), (0, .ref 162)]) (st2 := [.ref 162]) (h2 := hh262x) (dc2 := 0) (ds2 := 0) 1 rfl ?_
  have e266x := (ff264x.2 _ _ (wnc (by decide) wn0) e258x)
  refine wq_getf rfl e266x rfl rfl ?_
  refine wq_gos (f := 1) (pc2 := 76) (ls2 := [(1, .int 5), (0, .ref 162)]) (st2 := [.int 5, .int 11, .ref 170]) (h2 := hh262x) (dc2 := 0) (ds2 := 0) 4 rfl ?_
  refine wq_inl (y2 := 168) (as := [.int 5]) rfl rfl rfl (wq_mono m_moO ?_)
  rintro _ ⟨rfl, p0267x⟩
  show wq 182 79 [(1, .int 5), (0, .ref 162)] [.int (mMoO (5 : Int32)), .int 11, .ref 170] hh262x 0 0 _
  have e268x := (ff264x.2 _ _ (wnc (by decide) wn0) (ff256x.2 _ _ (wnc (by decide) wn0) (ff250x.2 _ _ (wnc (by decide) wn0) (ff244x.2 _ _ (wnc (by decide) wn0) (ff238x.2 _ _ (wnc (by decide) wn0) e231x)))))
  refine wq_iast rfl e268x rfl rfl ?_
  intro hh269x e270x ff271x lh272x
  have e270x : zat hh269x 170 = some (.inl (0, 12, (zset 0 (zset 0 (zset 0 (zset 0 (zset 0 (zset 0 hi 6 (mMoO (0 : Int32))) 7 (mMoO (1 : Int32))) 8 (mMoO (2 : Int32))) 9 (mMoO (3 : Int32))) 10 (mMoO (4 : Int32))) 11 (mMoO (5 : Int32))))) := e270x
  refine wq_gos (f := 1) (pc2 := 81) (ls2 := [(1, .int 5), (0, .ref 162)]) (st2 := [.ref 162]) (h2 := hh269x) (dc2 := 0) (ds2 := 0) 1 rfl ?_
  have e273x := (ff271x.2 _ _ (wnc (by decide) wn0) e266x)
  refine wq_getf rfl e273x rfl rfl ?_
  refine wq_gos (f := 1) (pc2 := 89) (ls2 := [(1, .int 5), (0, .ref 162)]) (st2 := [.int 4, .int 11, .ref 172]) (h2 := hh269x) (dc2 := 0) (ds2 := 0) 4 rfl ?_
  have e274x := (ff271x.2 _ _ (wnc (by decide) wn0) (ff264x.2 _ _ (wnc (by decide) wn0) (ff256x.2 _ _ (wnc (by decide) wn0) (ff250x.2 _ _ (wnc (by decide) wn0) (ff244x.2 _ _ (wnc (by decide) wn0) e237x)))))
  refine wq_iast rfl e274x rfl rfl ?_
  intro hh275x e276x ff277x lh278x
  have e276x : zat hh275x 172 = some (.inl (0, 12, (zset 0 (zset 0 (zset 0 (zset 0 (zset 0 (zset 0 sv 6 (4 : Int32)) 7 (4 : Int32)) 8 (4 : Int32)) 9 (4 : Int32)) 10 (4 : Int32)) 11 (4 : Int32)))) := e276x
  refine wq_gos (f := 1) (pc2 := 91) (ls2 := [(1, .int 5), (0, .ref 162)]) (st2 := [.ref 162]) (h2 := hh275x) (dc2 := 0) (ds2 := 0) 1 rfl ?_
  have e279x := (ff277x.2 _ _ (wnc (by decide) wn0) e273x)
  refine wq_getf rfl e279x rfl rfl ?_
  refine wq_gos (f := 1) (pc2 := 99) (ls2 := [(1, .int 5), (0, .ref 162)]) (st2 := [.int 0, .int 11, .ref 174]) (h2 := hh275x) (dc2 := 0) (ds2 := 0) 4 rfl ?_
  have e280x := (ff277x.2 _ _ (wnc (by decide) wn0) (ff271x.2 _ _ (wnc (by decide) wn0) (ff264x.2 _ _ (wnc (by decide) wn0) (ff256x.2 _ _ (wnc (by decide) wn0) (ff250x.2 _ _ (wnc (by decide) wn0) e243x)))))
  refine wq_iast rfl e280x rfl rfl ?_
  intro hh281x e282x ff283x lh284x
  have e282x : zat hh281x 174 = some (.inl (0, 12, (zset 0 (zset 0 (zset 0 (zset 0 (zset 0 (zset 0 rt 6 (0 : Int32)) 7 (0 : Int32)) 8 (0 : Int32)) 9 (0 : Int32)) 10 (0 : Int32)) 11 (0 : Int32)))) := e282x
  refine wq_gos (f := 1) (pc2 := 101) (ls2 := [(1, .int 5), (0, .ref 162)]) (st2 := [.ref 162]) (h2 := hh281x) (dc2 := 0) (ds2 := 0) 1 rfl ?_
  have e285x := (ff283x.2 _ _ (wnc (by decide) wn0) e279x)
  refine wq_getf rfl e285x rfl rfl ?_
  refine wq_gos (f := 1) (pc2 := 106) (ls2 := [(1, .int 5), (0, .ref 162)]) (st2 := [.int 0, .int 5, .ref 184]) (h2 := hh281x) (dc2 := 0) (ds2 := 0) 2 rfl ?_
  have e286x := (ff283x.2 _ _ (wnc (by decide) wn0) (ff277x.2 _ _ (wnc (by decide) wn0) (ff271x.2 _ _ (wnc (by decide) wn0) (ff264x.2 _ _ (wnc (by decide) wn0) (ff256x.2 _ _ (wnc (by decide) wn0) e249x)))))
  refine wq_bastz rfl e286x rfl rfl ?_
  intro hh287x e288x ff289x lh290x
  have e288x : zat hh287x 184 = some (.inl (2, 6, (zset 0 (zset 0 (zset 0 (zset 0 (zset 0 (zset 0 hl 0 (vp_nar .boolean (0 : Int32))) 1 (vp_nar .boolean (0 : Int32))) 2 (vp_nar .boolean (0 : Int32))) 3 (vp_nar .boolean (0 : Int32))) 4 (vp_nar .boolean (0 : Int32))) 5 (vp_nar .boolean (0 : Int32))))) := e288x
  refine wq_gos (f := 1) (pc2 := 108) (ls2 := [(1, .int 5), (0, .ref 162)]) (st2 := [.ref 162]) (h2 := hh287x) (dc2 := 0) (ds2 := 0) 1 rfl ?_
  have e291x := (ff289x.2 _ _ (wnc (by decide) wn0) e285x)
  refine wq_getf rfl e291x rfl rfl ?_
  refine wq_gos (f := 1) (pc2 := 113) (ls2 := [(1, .int 5), (0, .ref 162)]) (st2 := [.int 0, .int 5, .ref 186]) (h2 := hh287x) (dc2 := 0) (ds2 := 0) 2 rfl ?_
  have e292x := (ff289x.2 _ _ (wnc (by decide) wn0) (ff283x.2 _ _ (wnc (by decide) wn0) (ff277x.2 _ _ (wnc (by decide) wn0) (ff271x.2 _ _ (wnc (by decide) wn0) (ff264x.2 _ _ (wnc (by decide) wn0) e255x)))))
  refine wq_bastz rfl e292x rfl rfl ?_
  intro hh293x e294x ff295x lh296x
  have e294x : zat hh293x 186 = some (.inl (2, 6, (zset 0 (zset 0 (zset 0 (zset 0 (zset 0 (zset 0 hs 0 (vp_nar .boolean (0 : Int32))) 1 (vp_nar .boolean (0 : Int32))) 2 (vp_nar .boolean (0 : Int32))) 3 (vp_nar .boolean (0 : Int32))) 4 (vp_nar .boolean (0 : Int32))) 5 (vp_nar .boolean (0 : Int32))))) := e294x
  refine wq_gos (f := 1) (pc2 := 129) (ls2 := [(1, .int 0), (0, .ref 162)]) (st2 := [.ref 162]) (h2 := hh293x) (dc2 := 0) (ds2 := 0) 11 rfl ?_
  have e297x := (ff295x.2 _ _ (wnc (by decide) wn0) e291x)
  refine wq_getf rfl e297x rfl rfl ?_
  refine wq_gos (f := 1) (pc2 := 134) (ls2 := [(1, .int 0), (0, .ref 162)]) (st2 := [.int 0, .int 0, .ref 182]) (h2 := hh293x) (dc2 := 0) (ds2 := 0) 2 rfl ?_
  have e298x := (ff295x.2 _ _ (wnc (by decide) wn0) (ff289x.2 _ _ (wnc (by decide) wn0) (ff283x.2 _ _ (wnc (by decide) wn0) (ff277x.2 _ _ (wnc (by decide) wn0) (ff271x.2 _ _ (wnc (by decide) wn0) (ff264x.2 _ _ (wnc (by decide) wn0) (ff256x.2 _ _ (wnc (by decide) wn0) (ff250x.2 _ _ (wnc (by decide) wn0) (ff244x.2 _ _ (wnc (by decide) wn0) (ff238x.2 _ _ (wnc (by decide) wn0) (ff232x.2 _ _ (wnc (by decide) wn0) (ff225x.2 _ _ (wnc (by decide) wn0) (ff217x.2 _ _ (wnc (by decide) wn0) (ff211x.2 _ _ (wnc (by decide) wn0) (ff205x.2 _ _ (wnc (by decide) wn0) (ff199x.2 _ _ (wnc (by decide) wn0) (ff193x.2 _ _ (wnc (by decide) wn0) (ff186x.2 _ _ (wnc (by decide) wn0) (ff178x.2 _ _ (wnc (by decide) wn0) (ff172x.2 _ _ (wnc (by decide) wn0) (ff166x.2 _ _ (wnc (by decide) wn0) (ff160x.2 _ _ (wnc (by decide) wn0) (ff154x.2 _ _ (wnc (by decide) wn0) (ff147x.2 _ _ (wnc (by decide) wn0) (ff139x.2 _ _ (wnc (by decide) wn0) (ff133x.2 _ _ (wnc (by decide) wn0) (ff127x.2 _ _ (wnc (by decide) wn0) (ff121x.2 _ _ (wnc (by decide) wn0) (ff115x.2 _ _ (wnc (by decide) wn0) (ff108x.2 _ _ (wnc (by decide) wn0) (ff100x.2 _ _ (wnc (by decide) wn0) (ff94x.2 _ _ (wnc (by decide) wn0) (ff88x.2 _ _ (wnc (by decide) wn0) (ff82x.2 _ _ (wnc (by decide) wn0) (ff76x.2 _ _ (wnc (by decide) wn0) (ff69x.2 _ _ (wnc (by decide) wn0) (ff60x.2 _ _ (wnc (by decide) wn0) (ff55x.2 _ _ (wnc (by decide) wn0) (ff50x.2 _ _ (wnc (by decide) wn0) (ff45x.2 _ _ (wnc (by decide) wn0) (ff40x.2 _ _ (wnc (by decide) wn0) (ff34x.2 _ _ (wnc (by decide) wn0) (ff28x.2 _ _ (wnc (by decide) wn0) (ff22x.2 _ _ (wnc (by decide) wn0) (ff16x.2 _ _ (wnc (by decide) wn0) (ff10x.2 _ _ (wnc (by decide) wn0) (ff4x.2 _ _ (wnc (by decide) wn0) hIt)))))))))))))))))))))))))))))))))))))))))))))))
  refine wq_bastz rfl e298x rfl rfl ?_
  intro hh299x e300x ff301x lh302x
  have e300x : zat hh299x 182 = some (.inl (2, 10, (zset 0 it 0 (vp_nar .boolean (0 : Int32))))) := e300x
  refine wq_gos (f := 1) (pc2 := 129) (ls2 := [(1, .int 1), (0, .ref 162)]) (st2 := [.ref 162]) (h2 := hh299x) (dc2 := 0) (ds2 := 0) 6 rfl ?_
  have e303x := (ff301x.2 _ _ (wnc (by decide) wn0) e297x)
  refine wq_getf rfl e303x rfl rfl ?_
  refine wq_gos (f := 1) (pc2 := 134) (ls2 := [(1, .int 1), (0, .ref 162)]) (st2 := [.int 0, .int 1, .ref 182]) (h2 := hh299x) (dc2 := 0) (ds2 := 0) 2 rfl ?_
  refine wq_bastz rfl e300x rfl rfl ?_
  intro hh304x e305x ff306x lh307x
  have e305x : zat hh304x 182 = some (.inl (2, 10, (zset 0 (zset 0 it 0 (vp_nar .boolean (0 : Int32))) 1 (vp_nar .boolean (0 : Int32))))) := e305x
  refine wq_gos (f := 1) (pc2 := 129) (ls2 := [(1, .int 2), (0, .ref 162)]) (st2 := [.ref 162]) (h2 := hh304x) (dc2 := 0) (ds2 := 0) 6 rfl ?_
  have e308x := (ff306x.2 _ _ (wnc (by decide) wn0) e303x)
  refine wq_getf rfl e308x rfl rfl ?_
  refine wq_gos (f := 1) (pc2 := 134) (ls2 := [(1, .int 2), (0, .ref 162)]) (st2 := [.int 0, .int 2, .ref 182]) (h2 := hh304x) (dc2 := 0) (ds2 := 0) 2 rfl ?_
  refine wq_bastz rfl e305x rfl rfl ?_
  intro hh309x e310x ff311x lh312x
  have e310x : zat hh309x 182 = some (.inl (2, 10, (zset 0 (zset 0 (zset 0 it 0 (vp_nar .boolean (0 : Int32))) 1 (vp_nar .boolean (0 : Int32))) 2 (vp_nar .boolean (0 : Int32))))) := e310x
  refine wq_gos (f := 1) (pc2 := 129) (ls2 := [(1, .int 3), (0, .ref 162)]) (st2 := [.ref 162]) (h2 := hh309x) (dc2 := 0) (ds2 := 0) 6 rfl ?_
  have e313x := (ff311x.2 _ _ (wnc (by decide) wn0) e308x)
  refine wq_getf rfl e313x rfl rfl ?_
  refine wq_gos (f := 1) (pc2 := 134) (ls2 := [(1, .int 3), (0, .ref 162)]) (st2 := [.int 0, .int 3, .ref 182]) (h2 := hh309x) (dc2 := 0) (ds2 := 0) 2 rfl ?_
  refine wq_bastz rfl e310x rfl rfl ?_
  intro hh314x e315x ff316x lh317x
  have e315x : zat hh314x 182 = some (.inl (2, 10, (zset 0 (zset 0 (zset 0 (zset 0 it 0 (vp_nar .boolean (0 : Int32))) 1 (vp_nar .boolean (0 : Int32))) 2 (vp_nar .boolean (0 : Int32))) 3 (vp_nar .boolean (0 : Int32))))) := e315x
  refine wq_gos (f := 1) (pc2 := 129) (ls2 := [(1, .int 4), (0, .ref 162)]) (st2 := [.ref 162]) (h2 := hh314x) (dc2 := 0) (ds2 := 0) 6 rfl ?_
  have e318x := (ff316x.2 _ _ (wnc (by decide) wn0) e313x)
  refine wq_getf rfl e318x rfl rfl ?_
  refine wq_gos (f := 1) (pc2 := 134) (ls2 := [(1, .int 4), (0, .ref 162)]) (st2 := [.int 0, .int 4, .ref 182]) (h2 := hh314x) (dc2 := 0) (ds2 := 0) 2 rfl ?_
  refine wq_bastz rfl e315x rfl rfl ?_
  intro hh319x e320x ff321x lh322x
  have e320x : zat hh319x 182 = some (.inl (2, 10, (zset 0 (zset 0 (zset 0 (zset 0 (zset 0 it 0 (vp_nar .boolean (0 : Int32))) 1 (vp_nar .boolean (0 : Int32))) 2 (vp_nar .boolean (0 : Int32))) 3 (vp_nar .boolean (0 : Int32))) 4 (vp_nar .boolean (0 : Int32))))) := e320x
  refine wq_gos (f := 1) (pc2 := 129) (ls2 := [(1, .int 5), (0, .ref 162)]) (st2 := [.ref 162]) (h2 := hh319x) (dc2 := 0) (ds2 := 0) 6 rfl ?_
  have e323x := (ff321x.2 _ _ (wnc (by decide) wn0) e318x)
  refine wq_getf rfl e323x rfl rfl ?_
  refine wq_gos (f := 1) (pc2 := 134) (ls2 := [(1, .int 5), (0, .ref 162)]) (st2 := [.int 0, .int 5, .ref 182]) (h2 := hh319x) (dc2 := 0) (ds2 := 0) 2 rfl ?_
  refine wq_bastz rfl e320x rfl rfl ?_
  intro hh324x e325x ff326x lh327x
  have e325x : zat hh324x 182 = some (.inl (2, 10, (zset 0 (zset 0 (zset 0 (zset 0 (zset 0 (zset 0 it 0 (vp_nar .boolean (0 : Int32))) 1 (vp_nar .boolean (0 : Int32))) 2 (vp_nar .boolean (0 : Int32))) 3 (vp_nar .boolean (0 : Int32))) 4 (vp_nar .boolean (0 : Int32))) 5 (vp_nar .boolean (0 : Int32))))) := e325x
  refine wq_gos (f := 1) (pc2 := 129) (ls2 := [(1, .int 6), (0, .ref 162)]) (st2 := [.ref 162]) (h2 := hh324x) (dc2 := 0) (ds2 := 0) 6 rfl ?_
  have e328x := (ff326x.2 _ _ (wnc (by decide) wn0) e323x)
  refine wq_getf rfl e328x rfl rfl ?_
  refine wq_gos (f := 1) (pc2 := 134) (ls2 := [(1, .int 6), (0, .ref 162)]) (st2 := [.int 0, .int 6, .ref 182]) (h2 := hh324x) (dc2 := 0) (ds2 := 0) 2 rfl ?_
  refine wq_bastz rfl e325x rfl rfl ?_
  intro hh329x e330x ff331x lh332x
  have e330x : zat hh329x 182 = some (.inl (2, 10, (zset 0 (zset 0 (zset 0 (zset 0 (zset 0 (zset 0 (zset 0 it 0 (vp_nar .boolean (0 : Int32))) 1 (vp_nar .boolean (0 : Int32))) 2 (vp_nar .boolean (0 : Int32))) 3 (vp_nar .boolean (0 : Int32))) 4 (vp_nar .boolean (0 : Int32))) 5 (vp_nar .boolean (0 : Int32))) 6 (vp_nar .boolean (0 : Int32))))) := e330x
  refine wq_gos (f := 1) (pc2 := 129) (ls2 := [(1, .int 7), (0, .ref 162)]) (st2 := [.ref 162]) (h2 := hh329x) (dc2 := 0) (ds2 := 0) 6 rfl ?_
  have e333x := (ff331x.2 _ _ (wnc (by decide) wn0) e328x)
  refine wq_getf rfl e333x rfl rfl ?_
  refine wq_gos (f := 1) (pc2 := 134) (ls2 := [(1, .int 7), (0, .ref 162)]) (st2 := [.int 0, .int 7, .ref 182]) (h2 := hh329x) (dc2 := 0) (ds2 := 0) 2 rfl ?_
  refine wq_bastz rfl e330x rfl rfl ?_
  intro hh334x e335x ff336x lh337x
  have e335x : zat hh334x 182 = some (.inl (2, 10, (zset 0 (zset 0 (zset 0 (zset 0 (zset 0 (zset 0 (zset 0 (zset 0 it 0 (vp_nar .boolean (0 : Int32))) 1 (vp_nar .boolean (0 : Int32))) 2 (vp_nar .boolean (0 : Int32))) 3 (vp_nar .boolean (0 : Int32))) 4 (vp_nar .boolean (0 : Int32))) 5 (vp_nar .boolean (0 : Int32))) 6 (vp_nar .boolean (0 : Int32))) 7 (vp_nar .boolean (0 : Int32))))) := e335x
  refine wq_gos (f := 1) (pc2 := 129) (ls2 := [(1, .int 8), (0, .ref 162)]) (st2 := [.ref 162]) (h2 := hh334x) (dc2 := 0) (ds2 := 0) 6 rfl ?_
  have e338x := (ff336x.2 _ _ (wnc (by decide) wn0) e333x)
  refine wq_getf rfl e338x rfl rfl ?_
  refine wq_gos (f := 1) (pc2 := 134) (ls2 := [(1, .int 8), (0, .ref 162)]) (st2 := [.int 0, .int 8, .ref 182]) (h2 := hh334x) (dc2 := 0) (ds2 := 0) 2 rfl ?_
  refine wq_bastz rfl e335x rfl rfl ?_
  intro hh339x e340x ff341x lh342x
  have e340x : zat hh339x 182 = some (.inl (2, 10, (zset 0 (zset 0 (zset 0 (zset 0 (zset 0 (zset 0 (zset 0 (zset 0 (zset 0 it 0 (vp_nar .boolean (0 : Int32))) 1 (vp_nar .boolean (0 : Int32))) 2 (vp_nar .boolean (0 : Int32))) 3 (vp_nar .boolean (0 : Int32))) 4 (vp_nar .boolean (0 : Int32))) 5 (vp_nar .boolean (0 : Int32))) 6 (vp_nar .boolean (0 : Int32))) 7 (vp_nar .boolean (0 : Int32))) 8 (vp_nar .boolean (0 : Int32))))) := e340x
  refine wq_gos (f := 1) (pc2 := 129) (ls2 := [(1, .int 9), (0, .ref 162)]) (st2 := [.ref 162]) (h2 := hh339x) (dc2 := 0) (ds2 := 0) 6 rfl ?_
  have e343x := (ff341x.2 _ _ (wnc (by decide) wn0) e338x)
  refine wq_getf rfl e343x rfl rfl ?_
  refine wq_gos (f := 1) (pc2 := 134) (ls2 := [(1, .int 9), (0, .ref 162)]) (st2 := [.int 0, .int 9, .ref 182]) (h2 := hh339x) (dc2 := 0) (ds2 := 0) 2 rfl ?_
  refine wq_bastz rfl e340x rfl rfl ?_
  intro hh344x e345x ff346x lh347x
  have e345x : zat hh344x 182 = some (.inl (2, 10, (zset 0 (zset 0 (zset 0 (zset 0 (zset 0 (zset 0 (zset 0 (zset 0 (zset 0 (zset 0 it 0 (vp_nar .boolean (0 : Int32))) 1 (vp_nar .boolean (0 : Int32))) 2 (vp_nar .boolean (0 : Int32))) 3 (vp_nar .boolean (0 : Int32))) 4 (vp_nar .boolean (0 : Int32))) 5 (vp_nar .boolean (0 : Int32))) 6 (vp_nar .boolean (0 : Int32))) 7 (vp_nar .boolean (0 : Int32))) 8 (vp_nar .boolean (0 : Int32))) 9 (vp_nar .boolean (0 : Int32))))) := e345x
  refine wq_gos (f := 1) (pc2 := 141) (ls2 := [(1, .int 10), (0, .ref 162)]) (st2 := []) (h2 := hh344x) (dc2 := 0) (ds2 := 0) 5 rfl ?_
  have e348x := (ff346x.2 _ _ (wnc (by decide) wn0) (ff341x.2 _ _ (wnc (by decide) wn0) (ff336x.2 _ _ (wnc (by decide) wn0) (ff331x.2 _ _ (wnc (by decide) wn0) (ff326x.2 _ _ (wnc (by decide) wn0) (ff321x.2 _ _ (wnc (by decide) wn0) (ff316x.2 _ _ (wnc (by decide) wn0) (ff311x.2 _ _ (wnc (by decide) wn0) (ff306x.2 _ _ (wnc (by decide) wn0) (ff301x.2 _ _ (wnc (by decide) wn0) (ff295x.2 _ _ (wnc (by decide) wn0) (ff289x.2 _ _ (wnc (by decide) wn0) (ff283x.2 _ _ (wnc (by decide) wn0) (ff277x.2 _ _ (wnc (by decide) wn0) (ff271x.2 _ _ (wnc (by decide) wn0) (ff264x.2 _ _ (wnc (by decide) wn0) (ff256x.2 _ _ (wnc (by decide) wn0) (ff250x.2 _ _ (wnc (by decide) wn0) (ff244x.2 _ _ (wnc (by decide) wn0) (ff238x.2 _ _ (wnc (by decide) wn0) (ff232x.2 _ _ (wnc (by decide) wn0) (ff225x.2 _ _ (wnc (by decide) wn0) (ff217x.2 _ _ (wnc (by decide) wn0) (ff211x.2 _ _ (wnc (by decide) wn0) (ff205x.2 _ _ (wnc (by decide) wn0) (ff199x.2 _ _ (wnc (by decide) wn0) (ff193x.2 _ _ (wnc (by decide) wn0) (ff186x.2 _ _ (wnc (by decide) wn0) (ff178x.2 _ _ (wnc (by decide) wn0) (ff172x.2 _ _ (wnc (by decide) wn0) (ff166x.2 _ _ (wnc (by decide) wn0) (ff160x.2 _ _ (wnc (by decide) wn0) (ff154x.2 _ _ (wnc (by decide) wn0) (ff147x.2 _ _ (wnc (by decide) wn0) (ff139x.2 _ _ (wnc (by decide) wn0) (ff133x.2 _ _ (wnc (by decide) wn0) (ff127x.2 _ _ (wnc (by decide) wn0) (ff121x.2 _ _ (wnc (by decide) wn0) (ff115x.2 _ _ (wnc (by decide) wn0) (ff108x.2 _ _ (wnc (by decide) wn0) (ff100x.2 _ _ (wnc (by decide) wn0) (ff94x.2 _ _ (wnc (by decide) wn0) (ff88x.2 _ _ (wnc (by decide) wn0) (ff82x.2 _ _ (wnc (by decide) wn0) (ff76x.2 _ _ (wnc (by decide) wn0) (ff69x.2 _ _ (wnc (by decide) wn0) e59x))))))))))))))))))))))))))))))))))))))))))))))
  have e349x := (ff346x.2 _ _ (wnc (by decide) wn0) (ff341x.2 _ _ (wnc (by decide) wn0) (ff336x.2 _ _ (wnc (by decide) wn0) (ff331x.2 _ _ (wnc (by decide) wn0) (ff326x.2 _ _ (wnc (by decide) wn0) (ff321x.2 _ _ (wnc (by decide) wn0) (ff316x.2 _ _ (wnc (by decide) wn0) (ff311x.2 _ _ (wnc (by decide) wn0) (ff306x.2 _ _ (wnc (by decide) wn0) (ff301x.2 _ _ (wnc (by decide) wn0) (ff295x.2 _ _ (wnc (by decide) wn0) (ff289x.2 _ _ (wnc (by decide) wn0) (ff283x.2 _ _ (wnc (by decide) wn0) (ff277x.2 _ _ (wnc (by decide) wn0) (ff271x.2 _ _ (wnc (by decide) wn0) e263x)))))))))))))))
  have e350x := (ff346x.2 _ _ (wnc (by decide) wn0) (ff341x.2 _ _ (wnc (by decide) wn0) (ff336x.2 _ _ (wnc (by decide) wn0) (ff331x.2 _ _ (wnc (by decide) wn0) (ff326x.2 _ _ (wnc (by decide) wn0) (ff321x.2 _ _ (wnc (by decide) wn0) (ff316x.2 _ _ (wnc (by decide) wn0) (ff311x.2 _ _ (wnc (by decide) wn0) (ff306x.2 _ _ (wnc (by decide) wn0) (ff301x.2 _ _ (wnc (by decide) wn0) (ff295x.2 _ _ (wnc (by decide) wn0) (ff289x.2 _ _ (wnc (by decide) wn0) (ff283x.2 _ _ (wnc (by decide) wn0) (ff277x.2 _ _ (wnc (by decide) wn0) e270x))))))))))))))
  have e351x := (ff346x.2 _ _ (wnc (by decide) wn0) (ff341x.2 _ _ (wnc (by decide) wn0) (ff336x.2 _ _ (wnc (by decide) wn0) (ff331x.2 _ _ (wnc (by decide) wn0) (ff326x.2 _ _ (wnc (by decide) wn0) (ff321x.2 _ _ (wnc (by decide) wn0) (ff316x.2 _ _ (wnc (by decide) wn0) (ff311x.2 _ _ (wnc (by decide) wn0) (ff306x.2 _ _ (wnc (by decide) wn0) (ff301x.2 _ _ (wnc (by decide) wn0) (ff295x.2 _ _ (wnc (by decide) wn0) (ff289x.2 _ _ (wnc (by decide) wn0) (ff283x.2 _ _ (wnc (by decide) wn0) e276x)))))))))))))
  have e352x := (ff346x.2 _ _ (wnc (by decide) wn0) (ff341x.2 _ _ (wnc (by decide) wn0) (ff336x.2 _ _ (wnc (by decide) wn0) (ff331x.2 _ _ (wnc (by decide) wn0) (ff326x.2 _ _ (wnc (by decide) wn0) (ff321x.2 _ _ (wnc (by decide) wn0) (ff316x.2 _ _ (wnc (by decide) wn0) (ff311x.2 _ _ (wnc (by decide) wn0) (ff306x.2 _ _ (wnc (by decide) wn0) (ff301x.2 _ _ (wnc (by decide) wn0) (ff295x.2 _ _ (wnc (by decide) wn0) (ff289x.2 _ _ (wnc (by decide) wn0) e282x))))))))))))
  have e353x := (ff346x.2 _ _ (wnc (by decide) wn0) (ff341x.2 _ _ (wnc (by decide) wn0) (ff336x.2 _ _ (wnc (by decide) wn0) (ff331x.2 _ _ (wnc (by decide) wn0) (ff326x.2 _ _ (wnc (by decide) wn0) (ff321x.2 _ _ (wnc (by decide) wn0) (ff316x.2 _ _ (wnc (by decide) wn0) (ff311x.2 _ _ (wnc (by decide) wn0) (ff306x.2 _ _ (wnc (by decide) wn0) (ff301x.2 _ _ (wnc (by decide) wn0) (ff295x.2 _ _ (wnc (by decide) wn0) e288x)))))))))))
  have e354x := (ff346x.2 _ _ (wnc (by decide) wn0) (ff341x.2 _ _ (wnc (by decide) wn0) (ff336x.2 _ _ (wnc (by decide) wn0) (ff331x.2 _ _ (wnc (by decide) wn0) (ff326x.2 _ _ (wnc (by decide) wn0) (ff321x.2 _ _ (wnc (by decide) wn0) (ff316x.2 _ _ (wnc (by decide) wn0) (ff311x.2 _ _ (wnc (by decide) wn0) (ff306x.2 _ _ (wnc (by decide) wn0) (ff301x.2 _ _ (wnc (by decide) wn0) e294x))))))))))
  have hx : (mFrs kn lo hi sv rt hl hs it) = ((zset 0 (zset 0 (zset 0 (zset 0 (zset 0 (zset 0 (zset 0 (zset 0 (zset 0 (zset 0 (zset 0 kn 7 (0 : Int32)) 8 (0 : Int32)) 9 (0 : Int32)) 10 (0 : Int32)) 11 (0 : Int32)) 12 (0 : Int32)) 13 (0 : Int32)) 7 (9 : Int32)) 8 (4 : Int32)) 9 (10 : Int32)) 10 (2 : Int32)), (zset 0 (zset 0 (zset 0 (zset 0 (zset 0 (zset 0 lo 6 (mLeO (0 : Int32))) 7 (mLeO (1 : Int32))) 8 (mLeO (2 : Int32))) 9 (mLeO (3 : Int32))) 10 (mLeO (4 : Int32))) 11 (mLeO (5 : Int32))), (zset 0 (zset 0 (zset 0 (zset 0 (zset 0 (zset 0 hi 6 (mMoO (0 : Int32))) 7 (mMoO (1 : Int32))) 8 (mMoO (2 : Int32))) 9 (mMoO (3 : Int32))) 10 (mMoO (4 : Int32))) 11 (mMoO (5 : Int32))), (zset 0 (zset 0 (zset 0 (zset 0 (zset 0 (zset 0 sv 6 (4 : Int32)) 7 (4 : Int32)) 8 (4 : Int32)) 9 (4 : Int32)) 10 (4 : Int32)) 11 (4 : Int32)), (zset 0 (zset 0 (zset 0 (zset 0 (zset 0 (zset 0 rt 6 (0 : Int32)) 7 (0 : Int32)) 8 (0 : Int32)) 9 (0 : Int32)) 10 (0 : Int32)) 11 (0 : Int32)), (zset 0 (zset 0 (zset 0 (zset 0 (zset 0 (zset 0 hl 0 (vp_nar .boolean (0 : Int32))) 1 (vp_nar .boolean (0 : Int32))) 2 (vp_nar .boolean (0 : Int32))) 3 (vp_nar .boolean (0 : Int32))) 4 (vp_nar .boolean (0 : Int32))) 5 (vp_nar .boolean (0 : Int32))), (zset 0 (zset 0 (zset 0 (zset 0 (zset 0 (zset 0 hs 0 (vp_nar .boolean (0 : Int32))) 1 (vp_nar .boolean (0 : Int32))) 2 (vp_nar .boolean (0 : Int32))) 3 (vp_nar .boolean (0 : Int32))) 4 (vp_nar .boolean (0 : Int32))) 5 (vp_nar .boolean (0 : Int32))), (zset 0 (zset 0 (zset 0 (zset 0 (zset 0 (zset 0 (zset 0 (zset 0 (zset 0 (zset 0 it 0 (vp_nar .boolean (0 : Int32))) 1 (vp_nar .boolean (0 : Int32))) 2 (vp_nar .boolean (0 : Int32))) 3 (vp_nar .boolean (0 : Int32))) 4 (vp_nar .boolean (0 : Int32))) 5 (vp_nar .boolean (0 : Int32))) 6 (vp_nar .boolean (0 : Int32))) 7 (vp_nar .boolean (0 : Int32))) 8 (vp_nar .boolean (0 : Int32))) 9 (vp_nar .boolean (0 : Int32)))) := by unfold mFrs; rfl
  rw [hx]
  exact wq_ret rfl rfl ⟨hh344x, rfl, (wFr_tr (wFr_sub ff4x (by simp)) (wFr_tr (wFr_sub ff10x (by simp)) (wFr_tr (wFr_sub ff16x (by simp)) (wFr_tr (wFr_sub ff22x (by simp)) (wFr_tr (wFr_sub ff28x (by simp)) (wFr_tr (wFr_sub ff34x (by simp)) (wFr_tr (wFr_sub ff40x (by simp)) (wFr_tr (wFr_sub ff45x (by simp)) (wFr_tr (wFr_sub ff50x (by simp)) (wFr_tr (wFr_sub ff55x (by simp)) (wFr_tr (wFr_sub ff60x (by simp)) (wFr_tr (wFr_sub ff69x (by simp)) (wFr_tr (wFr_sub ff76x (by simp)) (wFr_tr (wFr_sub ff82x (by simp)) (wFr_tr (wFr_sub ff88x (by simp)) (wFr_tr (wFr_sub ff94x (by simp)) (wFr_tr (wFr_sub ff100x (by simp)) (wFr_tr (wFr_sub ff108x (by simp)) (wFr_tr (wFr_sub ff115x (by simp)) (wFr_tr (wFr_sub ff121x (by simp)) (wFr_tr (wFr_sub ff127x (by simp)) (wFr_tr (wFr_sub ff133x (by simp)) (wFr_tr (wFr_sub ff139x (by simp)) (wFr_tr (wFr_sub ff147x (by simp)) (wFr_tr (wFr_sub ff154x (by simp)) (wFr_tr (wFr_sub ff160x (by simp)) (wFr_tr (wFr_sub ff166x (by simp)) (wFr_tr (wFr_sub ff172x (by simp)) (wFr_tr (wFr_sub ff178x (by simp)) (wFr_tr (wFr_sub ff186x (by simp)) (wFr_tr (wFr_sub ff193x (by simp)) (wFr_tr (wFr_sub ff199x (by simp)) (wFr_tr (wFr_sub ff205x (by simp)) (wFr_tr (wFr_sub ff211x (by simp)) (wFr_tr (wFr_sub ff217x (by simp)) (wFr_tr (wFr_sub ff225x (by simp)) (wFr_tr (wFr_sub ff232x (by simp)) (wFr_tr (wFr_sub ff238x (by simp)) (wFr_tr (wFr_sub ff244x (by simp)) (wFr_tr (wFr_sub ff250x (by simp)) (wFr_tr (wFr_sub ff256x (by simp)) (wFr_tr (wFr_sub ff264x (by simp)) (wFr_tr (wFr_sub ff271x (by simp)) (wFr_tr (wFr_sub ff277x (by simp)) (wFr_tr (wFr_sub ff283x (by simp)) (wFr_tr (wFr_sub ff289x (by simp)) (wFr_tr (wFr_sub ff295x (by simp)) (wFr_tr (wFr_sub ff301x (by simp)) (wFr_tr (wFr_sub ff306x (by simp)) (wFr_tr (wFr_sub ff311x (by simp)) (wFr_tr (wFr_sub ff316x (by simp)) (wFr_tr (wFr_sub ff321x (by simp)) (wFr_tr (wFr_sub ff326x (by simp)) (wFr_tr (wFr_sub ff331x (by simp)) (wFr_tr (wFr_sub ff336x (by simp)) (wFr_tr (wFr_sub ff341x (by simp)) (wFr_sub ff346x (by simp)))))))))))))))))))))))))))))))))))))))))))))))))))))))))), by omega, e348x, e349x, e350x, e351x, e352x, e353x, e354x, e345x⟩
theorem zs6at (a0 a1 a2 a3 a4 a5 : Int32) (l : List Int32) (j : Nat) (hj : j < 6) : (zset 0 (zset 0 (zset 0 (zset 0 (zset 0 (zset 0 l 6 a0) 7 a1) 8 a2) 9 a3) 10 a4) 11 a5).getD (6 + j) 0 = [a0, a1, a2, a3, a4, a5].getD j 0 := by
  rw [zset_get, zset_get, zset_get, zset_get, zset_get, zset_get]
  rcases j with _ | _ | _ | _ | _ | _ | j
  all_goals first | rfl | omega
theorem zs11 (kn : List Int32) : (zset 0 (zset 0 (zset 0 (zset 0 (zset 0 (zset 0 (zset 0 (zset 0 (zset 0 (zset 0 (zset 0 kn 7 (0 : Int32)) 8 (0 : Int32)) 9 (0 : Int32)) 10 (0 : Int32)) 11 (0 : Int32)) 12 (0 : Int32)) 13 (0 : Int32)) 7 (9 : Int32)) 8 (4 : Int32)) 9 (10 : Int32)) 10 (2 : Int32)).getD 7 0 = (9 : Int32) ∧ (zset 0 (zset 0 (zset 0 (zset 0 (zset 0 (zset 0 (zset 0 (zset 0 (zset 0 (zset 0 (zset 0 kn 7 (0 : Int32)) 8 (0 : Int32)) 9 (0 : Int32)) 10 (0 : Int32)) 11 (0 : Int32)) 12 (0 : Int32)) 13 (0 : Int32)) 7 (9 : Int32)) 8 (4 : Int32)) 9 (10 : Int32)) 10 (2 : Int32)).getD 8 0 = (4 : Int32) ∧ (zset 0 (zset 0 (zset 0 (zset 0 (zset 0 (zset 0 (zset 0 (zset 0 (zset 0 (zset 0 (zset 0 kn 7 (0 : Int32)) 8 (0 : Int32)) 9 (0 : Int32)) 10 (0 : Int32)) 11 (0 : Int32)) 12 (0 : Int32)) 13 (0 : Int32)) 7 (9 : Int32)) 8 (4 : Int32)) 9 (10 : Int32)) 10 (2 : Int32)).getD 9 0 = (10 : Int32) ∧ (zset 0 (zset 0 (zset 0 (zset 0 (zset 0 (zset 0 (zset 0 (zset 0 (zset 0 (zset 0 (zset 0 kn 7 (0 : Int32)) 8 (0 : Int32)) 9 (0 : Int32)) 10 (0 : Int32)) 11 (0 : Int32)) 12 (0 : Int32)) 13 (0 : Int32)) 7 (9 : Int32)) 8 (4 : Int32)) 9 (10 : Int32)) 10 (2 : Int32)).getD 10 0 = (2 : Int32) ∧ (zset 0 (zset 0 (zset 0 (zset 0 (zset 0 (zset 0 (zset 0 (zset 0 (zset 0 (zset 0 (zset 0 kn 7 (0 : Int32)) 8 (0 : Int32)) 9 (0 : Int32)) 10 (0 : Int32)) 11 (0 : Int32)) 12 (0 : Int32)) 13 (0 : Int32)) 7 (9 : Int32)) 8 (4 : Int32)) 9 (10 : Int32)) 10 (2 : Int32)).getD 11 0 = (0 : Int32) ∧ (zset 0 (zset 0 (zset 0 (zset 0 (zset 0 (zset 0 (zset 0 (zset 0 (zset 0 (zset 0 (zset 0 kn 7 (0 : Int32)) 8 (0 : Int32)) 9 (0 : Int32)) 10 (0 : Int32)) 11 (0 : Int32)) 12 (0 : Int32)) 13 (0 : Int32)) 7 (9 : Int32)) 8 (4 : Int32)) 9 (10 : Int32)) 10 (2 : Int32)).getD 12 0 = (0 : Int32) ∧ (zset 0 (zset 0 (zset 0 (zset 0 (zset 0 (zset 0 (zset 0 (zset 0 (zset 0 (zset 0 (zset 0 kn 7 (0 : Int32)) 8 (0 : Int32)) 9 (0 : Int32)) 10 (0 : Int32)) 11 (0 : Int32)) 12 (0 : Int32)) 13 (0 : Int32)) 7 (9 : Int32)) 8 (4 : Int32)) 9 (10 : Int32)) 10 (2 : Int32)).getD 13 0 = (0 : Int32) := by
  refine ⟨?_, ?_, ?_, ?_, ?_, ?_, ?_⟩
  all_goals (rw [zset_get, zset_get, zset_get, zset_get, zset_get, zset_get, zset_get, zset_get, zset_get, zset_get, zset_get]; rfl)
theorem frs_MT (kn lo hi sv rt hl hs it sq wy : List Int32) : wMT (mFrs kn lo hi sv rt hl hs it).1 (mFrs kn lo hi sv rt hl hs it).2.1 (mFrs kn lo hi sv rt hl hs it).2.2.1 (mFrs kn lo hi sv rt hl hs it).2.2.2.1 (mFrs kn lo hi sv rt hl hs it).2.2.2.2.1 sq wy := by
  refine ⟨0, 0, ?_, ?_, ?_, ?_, fun k hk => absurd hk (Nat.not_lt_zero k), fun i hi => absurd hi (Nat.not_lt_zero i)⟩
  · obtain ⟨z7, z8, z9, z10, z11, z12, z13⟩ := zs11 kn
    unfold wNm mFrs
    (try dsimp only)
    rw [z7, z8, z9, z10, z11, z12, z13]
    decide
  · intro j hj
    unfold mFrs
    (try dsimp only)
    rw [zs6at _ _ _ _ _ _ _ _ hj, zs6at _ _ _ _ _ _ _ _ hj]
    revert j
    decide
  · intro j hj
    unfold mFrs
    (try dsimp only)
    rw [zs6at _ _ _ _ _ _ _ _ hj]
    revert j
    decide
  · intro j hj
    unfold mFrs
    (try dsimp only)
    rw [zs6at _ _ _ _ _ _ _ _ hj]
    revert j
    decide
theorem frs_Fz {k0 l0 u0 s0 r0 w0 : List Int32} (kn lo hi sv rt hl hs it sq wy : List Int32) (hz : wFz k0 l0 u0 s0 r0 w0 kn lo hi sv sq wy) : wFz k0 l0 u0 s0 r0 w0 (mFrs kn lo hi sv rt hl hs it).1 (mFrs kn lo hi sv rt hl hs it).2.1 (mFrs kn lo hi sv rt hl hs it).2.2.1 (mFrs kn lo hi sv rt hl hs it).2.2.2.1 sq wy := by
  obtain ⟨h1, h2, h3, h4, h5⟩ := hz
  unfold mFrs
  refine ⟨?_, ?_, ?_, ?_, h5⟩
  all_goals (try dsimp only)
  · repeat (first | exact h1 | refine wFh_set ?_ (by decide))
  · repeat (first | exact h2 | refine wFh_set ?_ (by decide))
  · repeat (first | exact h3 | refine wFh_set ?_ (by decide))
  · repeat (first | exact h4 | refine wFh_set ?_ (by decide))
noncomputable def mrtF (tb : List Int32) (sz : Nat) : Nat → Int32 → Int32 → Nat → Nat → Int32 → Int32 → Int32 → List Int32 → List Int32 → List Int32 → List Int32 → List Int32 → List Int32 → List Int32 → List Int32 → List Int32 → List Int32 → List Int32 → Int32 × Int32 × Nat × Nat × Int32 × Int32 × Int32 × List Int32 × List Int32 × List Int32 × List Int32 × List Int32 × List Int32 × List Int32 × List Int32 × List Int32 × List Int32 × List Int32
  | 0, ft, fp, at9, pl, so, va, n14, kn, lo, hi, sv, rt, sn, sq, wy, it, hl, hs => (ft, fp, at9, pl, so, va, n14, kn, lo, hi, sv, rt, sn, sq, wy, it, hl, hs)
  | m + 1, ft, fp, at9, pl, so, va, n14, kn, lo, hi, sv, rt, sn, sq, wy, it, hl, hs => (if ft ≠ (0 : Int32) then (ft, fp, at9, pl, so, va, n14, kn, lo, hi, sv, rt, sn, sq, wy, it, hl, hs) else (if so = (5 : Int32) then (ft, fp, at9, pl, so, va, n14, kn, lo, hi, sv, rt, sn, sq, wy, it, hl, hs) else (zlet (mLin tb sz at9 pl so va ft fp n14 ((kn.getD 12 0).toNatClampNeg) ((kn.getD 13 0).toNatClampNeg) kn lo hi sv rt sn sq wy it hl hs) (fun v9x => (mrtF tb sz m (v9x.1) (v9x.2.1) (v9x.2.2.1) (v9x.2.2.2.1) (v9x.2.2.2.2.1) (v9x.2.2.2.2.2.1) (v9x.2.2.2.2.2.2.1) (v9x.2.2.2.2.2.2.2.1) (v9x.2.2.2.2.2.2.2.2.1) (v9x.2.2.2.2.2.2.2.2.2.1) (v9x.2.2.2.2.2.2.2.2.2.2.1) (v9x.2.2.2.2.2.2.2.2.2.2.2.1) (v9x.2.2.2.2.2.2.2.2.2.2.2.2.1) (v9x.2.2.2.2.2.2.2.2.2.2.2.2.2.1) (v9x.2.2.2.2.2.2.2.2.2.2.2.2.2.2.1) (v9x.2.2.2.2.2.2.2.2.2.2.2.2.2.2.2.1) (v9x.2.2.2.2.2.2.2.2.2.2.2.2.2.2.2.2.1) (v9x.2.2.2.2.2.2.2.2.2.2.2.2.2.2.2.2.2))))))
set_option maxRecDepth 100000 in
set_option maxHeartbeats 4000000 in
theorem m_rtL {n0 n2 n22 n23 n27 n28 n32 n33 n34 n35 n39 n52 : Int32} {sz : Nat} {tb k0 l0 u0 s0 r0 w0 : List Int32} (hsz : sz ≤ 700) : ∀ (m : Nat) (ft : Int32) (fp : Int32) (at9 : Nat) (pl : Nat) (so : Int32) (va : Int32) (n14 : Int32) (kn : List Int32) (lo : List Int32) (hi : List Int32) (sv : List Int32) (rt : List Int32) (sn : List Int32) (sq : List Int32) (wy : List Int32) (it : List Int32) (hl : List Int32) (hs : List Int32) (h : zH) , (zat h 162 = some (.inr (.inr (.inr (10, mO n0 n2 n14 (nI sz) (nI at9) (nI pl) so va ft fp n22 n23 n27 n28 n32 n33 n34 n35 n39 n52))))) → (zat h 164 = some (.inl (0, 700, tb))) → (zat h 166 = some (.inl (0, 14, kn))) → (zat h 168 = some (.inl (0, 12, lo))) → (zat h 170 = some (.inl (0, 12, hi))) → (zat h 172 = some (.inl (0, 12, sv))) → (zat h 174 = some (.inl (0, 12, rt))) → (zat h 176 = some (.inl (0, 16, sn))) → (zat h 178 = some (.inl (0, 96, sq))) → (zat h 180 = some (.inl (0, 20, wy))) → (zat h 182 = some (.inl (2, 10, it))) → (zat h 184 = some (.inl (2, 6, hl))) → (zat h 186 = some (.inl (2, 6, hs))) → (at9 ≤ sz ∧ pl ≤ at9 ∧ 0 ≤ ft.toInt) → (ft.toInt = 0 → wMT kn lo hi sv rt sq wy) → (wFz k0 l0 u0 s0 r0 w0 kn lo hi sv sq wy) → (2 * (sz - at9) + (1 - ft.toInt.toNat)) < m → ∀ (dc ds : Nat), wq 183 28 [(0, .ref 162)] [] h dc ds (fun rr9 => ∃ (h2 : zH) , rr9 = (none, h2, dc, ds) ∧ wFr [162, 166, 168, 170, 172, 174, 176, 178, 180, 182, 184, 186] h h2 ∧ h2.length = h.length ∧ zat h2 162 = some (.inr (.inr (.inr (10, mO n0 n2 ((mrtF tb sz m ft fp at9 pl so va n14 kn lo hi sv rt sn sq wy it hl hs).2.2.2.2.2.2.1) (nI sz) (nI ((mrtF tb sz m ft fp at9 pl so va n14 kn lo hi sv rt sn sq wy it hl hs).2.2.1)) (nI ((mrtF tb sz m ft fp at9 pl so va n14 kn lo hi sv rt sn sq wy it hl hs).2.2.2.1)) ((mrtF tb sz m ft fp at9 pl so va n14 kn lo hi sv rt sn sq wy it hl hs).2.2.2.2.1) ((mrtF tb sz m ft fp at9 pl so va n14 kn lo hi sv rt sn sq wy it hl hs).2.2.2.2.2.1) ((mrtF tb sz m ft fp at9 pl so va n14 kn lo hi sv rt sn sq wy it hl hs).1) ((mrtF tb sz m ft fp at9 pl so va n14 kn lo hi sv rt sn sq wy it hl hs).2.1) n22 n23 n27 n28 n32 n33 n34 n35 n39 n52)))) ∧ zat h2 166 = some (.inl (0, 14, ((mrtF tb sz m ft fp at9 pl so va n14 kn lo hi sv rt sn sq wy it hl hs).2.2.2.2.2.2.2.1))) ∧ zat h2 168 = some (.inl (0, 12, ((mrtF tb sz m ft fp at9 pl so va n14 kn lo hi sv rt sn sq wy it hl hs).2.2.2.2.2.2.2.2.1))) ∧ zat h2 170 = some (.inl (0, 12, ((mrtF tb sz m ft fp at9 pl so va n14 kn lo hi sv rt sn sq wy it hl hs).2.2.2.2.2.2.2.2.2.1))) ∧ zat h2 172 = some (.inl (0, 12, ((mrtF tb sz m ft fp at9 pl so va n14 kn lo hi sv rt sn sq wy it hl hs).2.2.2.2.2.2.2.2.2.2.1))) ∧ zat h2 174 = some (.inl (0, 12, ((mrtF tb sz m ft fp at9 pl so va n14 kn lo hi sv rt sn sq wy it hl hs).2.2.2.2.2.2.2.2.2.2.2.1))) ∧ zat h2 176 = some (.inl (0, 16, ((mrtF tb sz m ft fp at9 pl so va n14 kn lo hi sv rt sn sq wy it hl hs).2.2.2.2.2.2.2.2.2.2.2.2.1))) ∧ zat h2 178 = some (.inl (0, 96, ((mrtF tb sz m ft fp at9 pl so va n14 kn lo hi sv rt sn sq wy it hl hs).2.2.2.2.2.2.2.2.2.2.2.2.2.1))) ∧ zat h2 180 = some (.inl (0, 20, ((mrtF tb sz m ft fp at9 pl so va n14 kn lo hi sv rt sn sq wy it hl hs).2.2.2.2.2.2.2.2.2.2.2.2.2.2.1))) ∧ zat h2 182 = some (.inl (2, 10, ((mrtF tb sz m ft fp at9 pl so va n14 kn lo hi sv rt sn sq wy it hl hs).2.2.2.2.2.2.2.2.2.2.2.2.2.2.2.1))) ∧ zat h2 184 = some (.inl (2, 6, ((mrtF tb sz m ft fp at9 pl so va n14 kn lo hi sv rt sn sq wy it hl hs).2.2.2.2.2.2.2.2.2.2.2.2.2.2.2.2.1))) ∧ zat h2 186 = some (.inl (2, 6, ((mrtF tb sz m ft fp at9 pl so va n14 kn lo hi sv rt sn sq wy it hl hs).2.2.2.2.2.2.2.2.2.2.2.2.2.2.2.2.2))) ∧ (0 ≤ ((mrtF tb sz m ft fp at9 pl so va n14 kn lo hi sv rt sn sq wy it hl hs).1).toInt) ∧ ((((mrtF tb sz m ft fp at9 pl so va n14 kn lo hi sv rt sn sq wy it hl hs).1)).toInt = 0 → wMT (((mrtF tb sz m ft fp at9 pl so va n14 kn lo hi sv rt sn sq wy it hl hs).2.2.2.2.2.2.2.1)) (((mrtF tb sz m ft fp at9 pl so va n14 kn lo hi sv rt sn sq wy it hl hs).2.2.2.2.2.2.2.2.1)) (((mrtF tb sz m ft fp at9 pl so va n14 kn lo hi sv rt sn sq wy it hl hs).2.2.2.2.2.2.2.2.2.1)) (((mrtF tb sz m ft fp at9 pl so va n14 kn lo hi sv rt sn sq wy it hl hs).2.2.2.2.2.2.2.2.2.2.1)) (((mrtF tb sz m ft fp at9 pl so va n14 kn lo hi sv rt sn sq wy it hl hs).2.2.2.2.2.2.2.2.2.2.2.1)) (((mrtF tb sz m ft fp at9 pl so va n14 kn lo hi sv rt sn sq wy it hl hs).2.2.2.2.2.2.2.2.2.2.2.2.2.1)) (((mrtF tb sz m ft fp at9 pl so va n14 kn lo hi sv rt sn sq wy it hl hs).2.2.2.2.2.2.2.2.2.2.2.2.2.2.1))) ∧ (wFz k0 l0 u0 s0 r0 w0 (((mrtF tb sz m ft fp at9 pl so va n14 kn lo hi sv rt sn sq wy it hl hs).2.2.2.2.2.2.2.1)) (((mrtF tb sz m ft fp at9 pl so va n14 kn lo hi sv rt sn sq wy it hl hs).2.2.2.2.2.2.2.2.1)) (((mrtF tb sz m ft fp at9 pl so va n14 kn lo hi sv rt sn sq wy it hl hs).2.2.2.2.2.2.2.2.2.1)) (((mrtF tb sz m ft fp at9 pl so va n14 kn lo hi sv rt sn sq wy it hl hs).2.2.2.2.2.2.2.2.2.2.1)) (((mrtF tb sz m ft fp at9 pl so va n14 kn lo hi sv rt sn sq wy it hl hs).2.2.2.2.2.2.2.2.2.2.2.2.2.1)) (((mrtF tb sz m ft fp at9 pl so va n14 kn lo hi sv rt sn sq wy it hl hs).2.2.2.2.2.2.2.2.2.2.2.2.2.2.1)))) := by
  intro m
  induction m with
  | zero => intro ft fp at9 pl so va n14 kn lo hi sv rt sn sq wy it hl hs h hM hT hKn hLo hHi hSv hRt hSn hSq hWy hIt hHd hHs ha hMT hz hms dc ds; omega
  | succ m ih =>
    intro ft fp at9 pl so va n14 kn lo hi sv rt sn sq wy it hl hs h hM hT hKn hLo hHi hSv hRt hSn hSq hWy hIt hHd hHs ha hMT hz hms dc ds
    have zm1 : (-1 : Int32).toInt = -1 := rfl
    have z0 : (0 : Int32).toInt = 0 := rfl
    have z1 : (1 : Int32).toInt = 1 := rfl
    have z2 : (2 : Int32).toInt = 2 := rfl
    have z3 : (3 : Int32).toInt = 3 := rfl
    have z4 : (4 : Int32).toInt = 4 := rfl
    have z5 : (5 : Int32).toInt = 5 := rfl
    have z6 : (6 : Int32).toInt = 6 := rfl
    have z8 : (8 : Int32).toInt = 8 := rfl
    have z9 : (9 : Int32).toInt = 9 := rfl
    have z10 : (10 : Int32).toInt = 10 := rfl
    have z32 : (32 : Int32).toInt = 32 := rfl
    have z99 : (99 : Int32).toInt = 99 := rfl
    have z99999 : (99999 : Int32).toInt = 99999 := rfl
    refine wq_gos (f := 1) (pc2 := 29) (ls2 := [(0, .ref 162)]) (st2 := [.ref 162]) (h2 := h) (dc2 := dc) (ds2 := ds) 1 rfl ?_
    refine wq_getf rfl hM rfl rfl ?_
    refine wq_ne0 rfl rfl (fun b1x => ?_) (fun b1x => ?_)
    · have q2x : ft.toInt ≠ 0 := fun q => b1x (Int32.toInt_inj.mp q)
      have hx : (mrtF tb sz (m + 1) ft fp at9 pl so va n14 kn lo hi sv rt sn sq wy it hl hs) = (ft, fp, at9, pl, so, va, n14, kn, lo, hi, sv, rt, sn, sq, wy, it, hl, hs) := by show (if _ then _ else _) = _; rw [if_pos b1x]
      rw [hx]
      exact wq_ret rfl rfl ⟨h, rfl, (wFr_rf _ _), by omega, hM, hKn, hLo, hHi, hSv, hRt, hSn, hSq, hWy, hIt, hHd, hHs, (by (try dsimp only); omega), (by (try dsimp only); first | assumption | (intro q9; omega)), (by (try dsimp only); exact hz)⟩
    · have q3x : ft.toInt = 0 := congrArg Int32.toInt b1x
      refine wq_gos (f := 1) (pc2 := 36) (ls2 := [(0, .ref 162)]) (st2 := [.ref 162]) (h2 := h) (dc2 := dc) (ds2 := ds) 1 rfl ?_
      refine wq_getf rfl hM rfl rfl ?_
      refine wq_gos (f := 1) (pc2 := 40) (ls2 := [(0, .ref 162)]) (st2 := [.int 5, .int so]) (h2 := h) (dc2 := dc) (ds2 := ds) 1 rfl ?_
      have q4x : (5 : Int32).toInt = 5 := rfl
      refine wq_eq2 rfl rfl (fun b5x => ?_) (fun b5x => ?_)
      · have q6x : so.toInt = 5 := congrArg Int32.toInt b5x
        have hx : (mrtF tb sz (m + 1) ft fp at9 pl so va n14 kn lo hi sv rt sn sq wy it hl hs) = (ft, fp, at9, pl, so, va, n14, kn, lo, hi, sv, rt, sn, sq, wy, it, hl, hs) := by show (if _ then _ else _) = _; rw [if_neg (fun q => q b1x), if_pos b5x]
        rw [hx]
        exact wq_ret rfl rfl ⟨h, rfl, (wFr_rf _ _), by omega, hM, hKn, hLo, hHi, hSv, hRt, hSn, hSq, hWy, hIt, hHd, hHs, (by (try dsimp only); omega), (by (try dsimp only); first | assumption | (intro q9; omega)), (by (try dsimp only); exact hz)⟩
      · have q7x : so.toInt ≠ 5 := fun q => b5x (Int32.toInt_inj.mp q)
        obtain ⟨ns9, nw9, hN9, hL9, hS9, hR9, hQ9, hW9⟩ := hMT (by omega)
        have en1 : (kn.getD 12 0).toNatClampNeg = ns9 := by rw [hN9.1]; exact nI_clamp (by have := hN9.2.2.1; omega)
        have en2 : (kn.getD 13 0).toNatClampNeg = nw9 := by rw [hN9.2.1]; exact nI_clamp (by have := hN9.2.2.2.1; omega)
        subst en1; subst en2
        refine wq_gos (f := 1) (pc2 := 44) (ls2 := [(0, .ref 162)]) (st2 := [.ref 162]) (h2 := h) (dc2 := dc) (ds2 := ds) 1 rfl ?_
        refine wq_inlv (y2 := 180) (as := []) rfl rfl rfl hM rfl (wq_mono (m_lin hM hT hKn hLo hHi hSv hRt hSn hSq hWy hIt hHd hHs (by first | assumption | omega | decide | solve_by_elim) ⟨Nat.le_refl _, ha.1⟩ (by first | assumption | omega | decide | solve_by_elim) (by first | assumption | omega | decide | solve_by_elim) hN9 (by first | assumption | omega | decide | solve_by_elim) (by first | assumption | omega | decide | solve_by_elim) (by first | assumption | omega | decide | solve_by_elim) (by first | assumption | omega | decide | solve_by_elim) (by first | assumption | omega | decide | solve_by_elim) hz) ?_)
        rintro _ ⟨h88x, rfl, f88x, l88x, c08x, c18x, c28x, c38x, c48x, c58x, c68x, c78x, c88x, c98x, c108x, c118x, p08x, p18x, p28x, p38x, p48x, p58x, p68x⟩
        show wq 183 47 [(0, .ref 162)] [] h88x dc ds _
        obtain ⟨v9x, hv10x⟩ : ∃ x, x = (mLin tb sz at9 pl so va ft fp n14 ((kn.getD 12 0).toNatClampNeg) ((kn.getD 13 0).toNatClampNeg) kn lo hi sv rt sn sq wy it hl hs) := ⟨_, rfl⟩
        try rw [← hv10x] at c08x
        try rw [← hv10x] at c18x
        try rw [← hv10x] at c28x
        try rw [← hv10x] at c38x
        try rw [← hv10x] at c48x
        try rw [← hv10x] at c58x
        try rw [← hv10x] at c68x
        try rw [← hv10x] at c78x
        try rw [← hv10x] at c88x
        try rw [← hv10x] at c98x
        try rw [← hv10x] at c108x
        try rw [← hv10x] at c118x
        try rw [← hv10x] at p08x
        try rw [← hv10x] at p18x
        try rw [← hv10x] at p28x
        try rw [← hv10x] at p38x
        try rw [← hv10x] at p48x
        try rw [← hv10x] at p58x
        try rw [← hv10x] at p68x
        try rw [← hv10x]
        refine wq_gos (f := 1) (pc2 := 28) (ls2 := [(0, .ref 162)]) (st2 := []) (h2 := h88x) (dc2 := dc) (ds2 := ds) 1 rfl ?_
        have e11x := (f88x.2 _ _ (wnc (by decide) (wnc (by decide) (wnc (by decide) (wnc (by decide) (wnc (by decide) (wnc (by decide) (wnc (by decide) (wnc (by decide) (wnc (by decide) (wnc (by decide) (wnc (by decide) (wnc (by decide) wn0)))))))))))) hT)
        have hx : (mrtF tb sz (m + 1) ft fp at9 pl so va n14 kn lo hi sv rt sn sq wy it hl hs) = (mrtF tb sz m (v9x.1) (v9x.2.1) (v9x.2.2.1) (v9x.2.2.2.1) (v9x.2.2.2.2.1) (v9x.2.2.2.2.2.1) (v9x.2.2.2.2.2.2.1) (v9x.2.2.2.2.2.2.2.1) (v9x.2.2.2.2.2.2.2.2.1) (v9x.2.2.2.2.2.2.2.2.2.1) (v9x.2.2.2.2.2.2.2.2.2.2.1) (v9x.2.2.2.2.2.2.2.2.2.2.2.1) (v9x.2.2.2.2.2.2.2.2.2.2.2.2.1) (v9x.2.2.2.2.2.2.2.2.2.2.2.2.2.1) (v9x.2.2.2.2.2.2.2.2.2.2.2.2.2.2.1) (v9x.2.2.2.2.2.2.2.2.2.2.2.2.2.2.2.1) (v9x.2.2.2.2.2.2.2.2.2.2.2.2.2.2.2.2.1) (v9x.2.2.2.2.2.2.2.2.2.2.2.2.2.2.2.2.2)) := by show (if _ then _ else _) = _; rw [if_neg (fun q => q b1x), if_neg b5x, zlet_eq hv10x]
        rw [hx]
        refine wq_ls [(0, .ref 162)] (show ([0] : List Nat).Nodup by decide) ⟨rfl, trivial⟩ ?_
        refine wq_mono (ih (v9x.1) (v9x.2.1) (v9x.2.2.1) (v9x.2.2.2.1) (v9x.2.2.2.2.1) (v9x.2.2.2.2.2.1) (v9x.2.2.2.2.2.2.1) (v9x.2.2.2.2.2.2.2.1) (v9x.2.2.2.2.2.2.2.2.1) (v9x.2.2.2.2.2.2.2.2.2.1) (v9x.2.2.2.2.2.2.2.2.2.2.1) (v9x.2.2.2.2.2.2.2.2.2.2.2.1) (v9x.2.2.2.2.2.2.2.2.2.2.2.2.1) (v9x.2.2.2.2.2.2.2.2.2.2.2.2.2.1) (v9x.2.2.2.2.2.2.2.2.2.2.2.2.2.2.1) (v9x.2.2.2.2.2.2.2.2.2.2.2.2.2.2.2.1) (v9x.2.2.2.2.2.2.2.2.2.2.2.2.2.2.2.2.1) (v9x.2.2.2.2.2.2.2.2.2.2.2.2.2.2.2.2.2) h88x c08x e11x c18x c28x c38x c48x c58x c68x c78x c88x c98x c108x c118x (by first | assumption | omega | decide | solve_by_elim) (by first | assumption | (intro q9; omega)) (by assumption) (by omega) dc ds) ?_
        rintro _ ⟨h9, rfl, f9, l9, y0, y1, y2, y3, y4, y5, y6, y7, y8, y9, y10, y11, y12, y13, y14⟩
        exact ⟨h9, rfl, wFr_tr (wFr_sub f88x (by simp)) f9, by omega, y0, y1, y2, y3, y4, y5, y6, y7, y8, y9, y10, y11, y12, y13, y14⟩
