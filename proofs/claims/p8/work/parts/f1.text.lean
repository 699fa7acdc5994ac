/-! The class: a text is begun, read, taken. -/
noncomputable def jPlo (lk hd ht : Int32) (p : Int64) (al : List Int32) : List Int32 := (zset 0 (zset 0 (zset 0 (zset 0 (zset 0 (zset 0 al 0 (jPart lk hd ht p (0 : Int32))) 1 (jPart lk hd ht p (1 : Int32))) 2 (jPart lk hd ht p (2 : Int32))) 3 (jPart lk hd ht p (3 : Int32))) 4 (jPart lk hd ht p (4 : Int32))) 5 (jPart lk hd ht p (5 : Int32)))
set_option maxRecDepth 100000 in
set_option maxHeartbeats 4000000 in
theorem c_plo {h : zH} {ra rq : Nat} {lk hd ht bl sd : Int32} {rt p : Int64} {sp so : Nat} {al : List Int32} (hA : zat h ra = some (.inr (.inr (.inr (0, [.int lk, .int hd, .int ht, .int bl, .int sd, .long rt, .ref (ra + 2), .ref (ra + 4), .ref (ra + 6), .int (nI sp), .ref (ra + 8), .ref (ra + 10), .int (nI so), .ref (ra + 12)]))))) (hB : zat h rq = some (.inl (0, 6, al))) (hra : ra = 6 ∨ ra = 20) (hrq : 34 ≤ rq) : wq 8 0 [(0, .ref ra), (1, .long p), (3, .ref rq)] [] h 0 0 (fun rr9 => ∃ (h2 : zH), rr9 = (none, h2, 0, 0) ∧ wFr [rq] h h2 ∧ h2.length = h.length ∧ zat h2 rq = some (.inl (0, 6, ((jPlo lk hd ht p al))))) := by
  refine wq_gos (f := 1) (pc2 := 13) (ls2 := [(4, .int 0), (0, .ref ra), (1, .long p), (3, .ref rq)]) (st2 := [.ref rq, .int 0]) (h2 := h) (dc2 := 0) (ds2 := 0) 7 rfl ?_
  refine wq_alen rfl hB rfl ?_
  refine wq_gos (f := 1) (pc2 := 24) (ls2 := [(4, .int 0), (0, .ref ra), (1, .long p), (3, .ref rq)]) (st2 := [.int 0, .long p, .ref ra, .int 0, .ref rq]) (h2 := h) (dc2 := 0) (ds2 := 0) 6 rfl ?_
  have q1x : (0 : Int32).toInt = 0 := rfl
  refine wq_inlv (y2 := 7) (as := [.long p, .int 0]) rfl rfl rfl hA rfl (wq_mono (c_part hA) ?_)
  rintro _ rfl
  show wq 8 27 [(4, .int 0), (0, .ref ra), (1, .long p), (3, .ref rq)] [.int (jPart lk hd ht p (0 : Int32)), .int 0, .ref rq] h 0 0 _
  refine wq_iast rfl hB rfl rfl ?_
  intro h3x e4x f5x l6x
  have e4x : zat h3x rq = some (.inl (0, 6, (zset 0 al 0 (jPart lk hd ht p (0 : Int32))))) := e4x
  refine wq_gos (f := 1) (pc2 := 13) (ls2 := [(4, .int 1), (0, .ref ra), (1, .long p), (3, .ref rq)]) (st2 := [.ref rq, .int 1]) (h2 := h3x) (dc2 := 0) (ds2 := 0) 7 rfl ?_
  refine wq_alen rfl e4x rfl ?_
  refine wq_gos (f := 1) (pc2 := 24) (ls2 := [(4, .int 1), (0, .ref ra), (1, .long p), (3, .ref rq)]) (st2 := [.int 1, .long p, .ref ra, .int 1, .ref rq]) (h2 := h3x) (dc2 := 0) (ds2 := 0) 6 rfl ?_
  have e7x := (f5x.2 _ _ (wnc (by omega) wn0) hA)
  have q8x : (1 : Int32).toInt = 1 := rfl
  refine wq_inlv (y2 := 7) (as := [.long p, .int 1]) rfl rfl rfl e7x rfl (wq_mono (c_part e7x) ?_)
  rintro _ rfl
  show wq 8 27 [(4, .int 1), (0, .ref ra), (1, .long p), (3, .ref rq)] [.int (jPart lk hd ht p (1 : Int32)), .int 1, .ref rq] h3x 0 0 _
  refine wq_iast rfl e4x rfl rfl ?_
  intro h10x e11x f12x l13x
  have e11x : zat h10x rq = some (.inl (0, 6, (zset 0 (zset 0 al 0 (jPart lk hd ht p (0 : Int32))) 1 (jPart lk hd ht p (1 : Int32))))) := e11x
  refine wq_gos (f := 1) (pc2 := 13) (ls2 := [(4, .int 2), (0, .ref ra), (1, .long p), (3, .ref rq)]) (st2 := [.ref rq, .int 2]) (h2 := h10x) (dc2 := 0) (ds2 := 0) 7 rfl ?_
  refine wq_alen rfl e11x rfl ?_
  refine wq_gos (f := 1) (pc2 := 24) (ls2 := [(4, .int 2), (0, .ref ra), (1, .long p), (3, .ref rq)]) (st2 := [.int 2, .long p, .ref ra, .int 2, .ref rq]) (h2 := h10x) (dc2 := 0) (ds2 := 0) 6 rfl ?_
  have e14x := (f12x.2 _ _ (wnc (by omega) wn0) e7x)
  have q15x : (2 : Int32).toInt = 2 := rfl
  refine wq_inlv (y2 := 7) (as := [.long p, .int 2]) rfl rfl rfl e14x rfl (wq_mono (c_part e14x) ?_)
  rintro _ rfl
  show wq 8 27 [(4, .int 2), (0, .ref ra), (1, .long p), (3, .ref rq)] [.int (jPart lk hd ht p (2 : Int32)), .int 2, .ref rq] h10x 0 0 _
  refine wq_iast rfl e11x rfl rfl ?_
  intro h17x e18x f19x l20x
  have e18x : zat h17x rq = some (.inl (0, 6, (zset 0 (zset 0 (zset 0 al 0 (jPart lk hd ht p (0 : Int32))) 1 (jPart lk hd ht p (1 : Int32))) 2 (jPart lk hd ht p (2 : Int32))))) := e18x
  refine wq_gos (f := 1) (pc2 := 13) (ls2 := [(4, .int 3), (0, .ref ra), (1, .long p), (3, .ref rq)]) (st2 := [.ref rq, .int 3]) (h2 := h17x) (dc2 := 0) (ds2 := 0) 7 rfl ?_
  refine wq_alen rfl e18x rfl ?_
  refine wq_gos (f := 1) (pc2 := 24) (ls2 := [(4, .int 3), (0, .ref ra), (1, .long p), (3, .ref rq)]) (st2 := [.int 3, .long p, .ref ra, .int 3, .ref rq]) (h2 := h17x) (dc2 := 0) (ds2 := 0) 6 rfl ?_
  have e21x := (f19x.2 _ _ (wnc (by omega) wn0) e14x)
  have q22x : (3 : Int32).toInt = 3 := rfl
  refine wq_inlv (y2 := 7) (as := [.long p, .int 3]) rfl rfl rfl e21x rfl (wq_mono (c_part e21x) ?_)
  rintro _ rfl
  show wq 8 27 [(4, .int 3), (0, .ref ra), (1, .long p), (3, .ref rq)] [.int (jPart lk hd ht p (3 : Int32)), .int 3, .ref rq] h17x 0 0 _
  refine wq_iast rfl e18x rfl rfl ?_
  intro h24x e25x f26x l27x
  have e25x : zat h24x rq = some (.inl (0, 6, (zset 0 (zset 0 (zset 0 (zset 0 al 0 (jPart lk hd ht p (0 : Int32))) 1 (jPart lk hd ht p (1 : Int32))) 2 (jPart lk hd ht p (2 : Int32))) 3 (jPart lk hd ht p (3 : Int32))))) := e25x
  refine wq_gos (f := 1) (pc2 := 13) (ls2 := [(4, .int 4), (0, .ref ra), (1, .long p), (3, .ref rq)]) (st2 := [.ref rq, .int 4]) (h2 := h24x) (dc2 := 0) (ds2 := 0) 7 rfl ?_
  refine wq_alen rfl e25x rfl ?_
  refine wq_gos (f := 1) (pc2 := 24) (ls2 := [(4, .int 4), (0, .ref ra), (1, .long p), (3, .ref rq)]) (st2 := [.int 4, .long p, .ref ra, .int 4, .ref rq]) (h2 := h24x) (dc2 := 0) (ds2 := 0) 6 rfl ?_
  have e28x := (f26x.2 _ _ (wnc (by omega) wn0) e21x)
  have q29x : (4 : Int32).toInt = 4 := rfl
  refine wq_inlv (y2 := 7) (as := [.long p, .int 4]) rfl rfl rfl e28x rfl (wq_mono (c_part e28x) ?_)
  rintro _ rfl
  show wq 8 27 [(4, .int 4), (0, .ref ra), (1, .long p), (3, .ref rq)] [.int (jPart lk hd ht p (4 : Int32)), .int 4, .ref rq] h24x 0 0 _
  refine wq_iast rfl e25x rfl rfl ?_
  intro h31x e32x f33x l34x
  have e32x : zat h31x rq = some (.inl (0, 6, (zset 0 (zset 0 (zset 0 (zset 0 (zset 0 al 0 (jPart lk hd ht p (0 : Int32))) 1 (jPart lk hd ht p (1 : Int32))) 2 (jPart lk hd ht p (2 : Int32))) 3 (jPart lk hd ht p (3 : Int32))) 4 (jPart lk hd ht p (4 : Int32))))) := e32x
  refine wq_gos (f := 1) (pc2 := 13) (ls2 := [(4, .int 5), (0, .ref ra), (1, .long p), (3, .ref rq)]) (st2 := [.ref rq, .int 5]) (h2 := h31x) (dc2 := 0) (ds2 := 0) 7 rfl ?_
  refine wq_alen rfl e32x rfl ?_
  refine wq_gos (f := 1) (pc2 := 24) (ls2 := [(4, .int 5), (0, .ref ra), (1, .long p), (3, .ref rq)]) (st2 := [.int 5, .long p, .ref ra, .int 5, .ref rq]) (h2 := h31x) (dc2 := 0) (ds2 := 0) 6 rfl ?_
  have e35x := (f33x.2 _ _ (wnc (by omega) wn0) e28x)
  have q36x : (5 : Int32).toInt = 5 := rfl
  refine wq_inlv (y2 := 7) (as := [.long p, .int 5]) rfl rfl rfl e35x rfl (wq_mono (c_part e35x) ?_)
  rintro _ rfl
  show wq 8 27 [(4, .int 5), (0, .ref ra), (1, .long p), (3, .ref rq)] [.int (jPart lk hd ht p (5 : Int32)), .int 5, .ref rq] h31x 0 0 _
  refine wq_iast rfl e32x rfl rfl ?_
  intro h38x e39x f40x l41x
  have e39x : zat h38x rq = some (.inl (0, 6, (zset 0 (zset 0 (zset 0 (zset 0 (zset 0 (zset 0 al 0 (jPart lk hd ht p (0 : Int32))) 1 (jPart lk hd ht p (1 : Int32))) 2 (jPart lk hd ht p (2 : Int32))) 3 (jPart lk hd ht p (3 : Int32))) 4 (jPart lk hd ht p (4 : Int32))) 5 (jPart lk hd ht p (5 : Int32))))) := e39x
  refine wq_gos (f := 1) (pc2 := 34) (ls2 := [(4, .int 6), (0, .ref ra), (1, .long p), (3, .ref rq)]) (st2 := []) (h2 := h38x) (dc2 := 0) (ds2 := 0) 5 rfl ?_
  have hx : (jPlo lk hd ht p al) = (zset 0 (zset 0 (zset 0 (zset 0 (zset 0 (zset 0 al 0 (jPart lk hd ht p (0 : Int32))) 1 (jPart lk hd ht p (1 : Int32))) 2 (jPart lk hd ht p (2 : Int32))) 3 (jPart lk hd ht p (3 : Int32))) 4 (jPart lk hd ht p (4 : Int32))) 5 (jPart lk hd ht p (5 : Int32))) := by unfold jPlo; rfl
  rw [hx]
  exact wq_ret rfl rfl ⟨h38x, rfl, (wFr_tr (wFr_sub f5x (by simp)) (wFr_tr (wFr_sub f12x (by simp)) (wFr_tr (wFr_sub f19x (by simp)) (wFr_tr (wFr_sub f26x (by simp)) (wFr_tr (wFr_sub f33x (by simp)) (wFr_sub f40x (by simp))))))), by omega, e39x⟩
set_option maxRecDepth 100000 in
set_option maxHeartbeats 4000000 in
theorem c_pfo {h : zH} {us un : Int32} (hP : zat h 36 = some (.inr (.inr (.inr (2, [.int us, .int un, .ref 38, .ref 40])))))  : wq 22 0 [(0, .ref 36)] [] h 0 0 (fun rr9 => ∃ (h2 : zH), rr9 = (none, h2, 0, 0) ∧ wFr [36] h h2 ∧ h2.length = h.length ∧ zat h2 36 = some (.inr (.inr (.inr (2, [.int 0, .int 0, .ref 38, .ref 40]))))) := by
  refine wq_gos (f := 1) (pc2 := 2) (ls2 := [(0, .ref 36)]) (st2 := [.int 0, .ref 36]) (h2 := h) (dc2 := 0) (ds2 := 0) 2 rfl ?_
  refine wq_putf rfl hP rfl rfl rfl ?_
  intro h1x e2x f3x l4x
  have e2x : zat h1x 36 = some (.inr (.inr (.inr (2, [.int 0, .int un, .ref 38, .ref 40])))) := e2x
  refine wq_gos (f := 1) (pc2 := 7) (ls2 := [(0, .ref 36)]) (st2 := [.int 0, .ref 36]) (h2 := h1x) (dc2 := 0) (ds2 := 0) 2 rfl ?_
  refine wq_putf rfl e2x rfl rfl rfl ?_
  intro h5x e6x f7x l8x
  have e6x : zat h5x 36 = some (.inr (.inr (.inr (2, [.int 0, .int 0, .ref 38, .ref 40])))) := e6x
  exact wq_ret rfl rfl ⟨h5x, rfl, (wFr_tr (wFr_sub f3x (by simp)) (wFr_sub f7x (by simp))), (by omega), e6x⟩
set_option maxRecDepth 100000 in
set_option maxHeartbeats 4000000 in
theorem c_pbe {h : zH} {ra : Nat} {rq rp rs : Nat} {wg ob al9 pr9 sr9 fw : Int32} {rSa rSb : Nat} {kna knb T9a T9b : Int32} {fra frb : Int64} (hPl : zat h 74 = some (.inr (.inr (.inr (3, [.ref 44, .ref rq, .ref 76, .ref 78, .ref 80, .ref 88, .int wg, .int ob, .ref 96, .int al9, .int pr9, .int sr9, .ref rp, .ref rs, .int fw]))))) (hR1 : zat h 80 = some (.inr (.inr (.inr (6, [.int kna, .long fra, .int T9a, .ref 82, .ref 84, .ref rSa]))))) (hR2 : zat h 88 = some (.inr (.inr (.inr (6, [.int knb, .long frb, .int T9b, .ref 90, .ref 92, .ref rSb])))))  : wq 26 0 [(0, .ref 74), (1, .ref ra)] [] h 0 0 (fun rr9 => ∃ (h2 : zH), rr9 = (none, h2, 0, 0) ∧ wFr [74, 80, 88] h h2 ∧ h2.length = h.length ∧ zat h2 74 = some (.inr (.inr (.inr (3, [.ref 44, .ref ra, .ref 76, .ref 78, .ref 80, .ref 88, .int 0, .int ob, .ref 96, .int al9, .int 0, .int 0, .ref rp, .ref rs, .int fw])))) ∧ zat h2 80 = some (.inr (.inr (.inr (6, [.int 0, .long fra, .int T9a, .ref 82, .ref 84, .ref rSa])))) ∧ zat h2 88 = some (.inr (.inr (.inr (6, [.int 0, .long frb, .int T9b, .ref 90, .ref 92, .ref rSb]))))) := by
  refine wq_gos (f := 1) (pc2 := 2) (ls2 := [(0, .ref 74), (1, .ref ra)]) (st2 := [.ref ra, .ref 74]) (h2 := h) (dc2 := 0) (ds2 := 0) 2 rfl ?_
  refine wq_putf rfl hPl rfl rfl rfl ?_
  intro h1x e2x f3x l4x
  have e2x : zat h1x 74 = some (.inr (.inr (.inr (3, [.ref 44, .ref ra, .ref 76, .ref 78, .ref 80, .ref 88, .int wg, .int ob, .ref 96, .int al9, .int pr9, .int sr9, .ref rp, .ref rs, .int fw])))) := e2x
  refine wq_gos (f := 1) (pc2 := 6) (ls2 := [(0, .ref 74), (1, .ref ra)]) (st2 := [.ref 74]) (h2 := h1x) (dc2 := 0) (ds2 := 0) 1 rfl ?_
  refine wq_getf rfl e2x rfl rfl ?_
  refine wq_gos (f := 1) (pc2 := 10) (ls2 := [(0, .ref 74), (1, .ref ra)]) (st2 := [.int 0, .ref 80]) (h2 := h1x) (dc2 := 0) (ds2 := 0) 1 rfl ?_
  have e5x := (f3x.2 _ _ (wnc (by decide) wn0) hR1)
  refine wq_putf rfl e5x rfl rfl rfl ?_
  intro h6x e7x f8x l9x
  have e7x : zat h6x 80 = some (.inr (.inr (.inr (6, [.int 0, .long fra, .int T9a, .ref 82, .ref 84, .ref rSa])))) := e7x
  refine wq_gos (f := 1) (pc2 := 14) (ls2 := [(0, .ref 74), (1, .ref ra)]) (st2 := [.ref 74]) (h2 := h6x) (dc2 := 0) (ds2 := 0) 1 rfl ?_
  have e10x := (f8x.2 _ _ (wnc (by decide) wn0) e2x)
  refine wq_getf rfl e10x rfl rfl ?_
  refine wq_gos (f := 1) (pc2 := 18) (ls2 := [(0, .ref 74), (1, .ref ra)]) (st2 := [.int 0, .ref 88]) (h2 := h6x) (dc2 := 0) (ds2 := 0) 1 rfl ?_
  have e11x := (f8x.2 _ _ (wnc (by decide) wn0) (f3x.2 _ _ (wnc (by decide) wn0) hR2))
  refine wq_putf rfl e11x rfl rfl rfl ?_
  intro h12x e13x f14x l15x
  have e13x : zat h12x 88 = some (.inr (.inr (.inr (6, [.int 0, .long frb, .int T9b, .ref 90, .ref 92, .ref rSb])))) := e13x
  refine wq_gos (f := 1) (pc2 := 23) (ls2 := [(0, .ref 74), (1, .ref ra)]) (st2 := [.int 0, .ref 74]) (h2 := h12x) (dc2 := 0) (ds2 := 0) 2 rfl ?_
  have e16x := (f14x.2 _ _ (wnc (by decide) wn0) e10x)
  refine wq_putf rfl e16x rfl rfl rfl ?_
  intro h17x e18x f19x l20x
  have e18x : zat h17x 74 = some (.inr (.inr (.inr (3, [.ref 44, .ref ra, .ref 76, .ref 78, .ref 80, .ref 88, .int 0, .int ob, .ref 96, .int al9, .int pr9, .int sr9, .ref rp, .ref rs, .int fw])))) := e18x
  refine wq_gos (f := 1) (pc2 := 28) (ls2 := [(0, .ref 74), (1, .ref ra)]) (st2 := [.int 0, .ref 74]) (h2 := h17x) (dc2 := 0) (ds2 := 0) 2 rfl ?_
  refine wq_putf rfl e18x rfl rfl rfl ?_
  intro h21x e22x f23x l24x
  have e22x : zat h21x 74 = some (.inr (.inr (.inr (3, [.ref 44, .ref ra, .ref 76, .ref 78, .ref 80, .ref 88, .int 0, .int ob, .ref 96, .int al9, .int 0, .int sr9, .ref rp, .ref rs, .int fw])))) := e22x
  refine wq_gos (f := 1) (pc2 := 33) (ls2 := [(0, .ref 74), (1, .ref ra)]) (st2 := [.int 0, .ref 74]) (h2 := h21x) (dc2 := 0) (ds2 := 0) 2 rfl ?_
  refine wq_putf rfl e22x rfl rfl rfl ?_
  intro h25x e26x f27x l28x
  have e26x : zat h25x 74 = some (.inr (.inr (.inr (3, [.ref 44, .ref ra, .ref 76, .ref 78, .ref 80, .ref 88, .int 0, .int ob, .ref 96, .int al9, .int 0, .int 0, .ref rp, .ref rs, .int fw])))) := e26x
  have e29x := (f27x.2 _ _ (wnc (by decide) wn0) (f23x.2 _ _ (wnc (by decide) wn0) (f19x.2 _ _ (wnc (by decide) wn0) (f14x.2 _ _ (wnc (by decide) wn0) e7x))))
  have e30x := (f27x.2 _ _ (wnc (by decide) wn0) (f23x.2 _ _ (wnc (by decide) wn0) (f19x.2 _ _ (wnc (by decide) wn0) e13x)))
  exact wq_ret rfl rfl ⟨h25x, rfl, (wFr_tr (wFr_sub f3x (by simp)) (wFr_tr (wFr_sub f8x (by simp)) (wFr_tr (wFr_sub f14x (by simp)) (wFr_tr (wFr_sub f19x (by simp)) (wFr_tr (wFr_sub f23x (by simp)) (wFr_sub f27x (by simp))))))), (by omega), e26x, e29x, e30x⟩
set_option maxRecDepth 100000 in
set_option maxHeartbeats 4000000 in
theorem c_rbe {h : zH} {ra : Nat} {rq2 rf : Nat} {fi9 kn9 fw9 : Int32} {fr9 : Int64} (hRo : zat h 150 = some (.inr (.inr (.inr (5, [.ref 152, .ref rq2, .ref 154, .ref rf, .int fi9, .int kn9, .long fr9, .int fw9])))))  : wq 62 0 [(0, .ref 150), (1, .ref ra)] [] h 0 0 (fun rr9 => ∃ (h2 : zH), rr9 = (none, h2, 0, 0) ∧ wFr [150] h h2 ∧ h2.length = h.length ∧ zat h2 150 = some (.inr (.inr (.inr (5, [.ref 152, .ref ra, .ref 154, .ref rf, .int 0, .int 0, .long fr9, .int fw9]))))) := by
  refine wq_gos (f := 1) (pc2 := 2) (ls2 := [(0, .ref 150), (1, .ref ra)]) (st2 := [.ref ra, .ref 150]) (h2 := h) (dc2 := 0) (ds2 := 0) 2 rfl ?_
  refine wq_putf rfl hRo rfl rfl rfl ?_
  intro h1x e2x f3x l4x
  have e2x : zat h1x 150 = some (.inr (.inr (.inr (5, [.ref 152, .ref ra, .ref 154, .ref rf, .int fi9, .int kn9, .long fr9, .int fw9])))) := e2x
  refine wq_gos (f := 1) (pc2 := 7) (ls2 := [(0, .ref 150), (1, .ref ra)]) (st2 := [.int 0, .ref 150]) (h2 := h1x) (dc2 := 0) (ds2 := 0) 2 rfl ?_
  refine wq_putf rfl e2x rfl rfl rfl ?_
  intro h5x e6x f7x l8x
  have e6x : zat h5x 150 = some (.inr (.inr (.inr (5, [.ref 152, .ref ra, .ref 154, .ref rf, .int 0, .int kn9, .long fr9, .int fw9])))) := e6x
  refine wq_gos (f := 1) (pc2 := 12) (ls2 := [(0, .ref 150), (1, .ref ra)]) (st2 := [.int 0, .ref 150]) (h2 := h5x) (dc2 := 0) (ds2 := 0) 2 rfl ?_
  refine wq_putf rfl e6x rfl rfl rfl ?_
  intro h9x e10x f11x l12x
  have e10x : zat h9x 150 = some (.inr (.inr (.inr (5, [.ref 152, .ref ra, .ref 154, .ref rf, .int 0, .int 0, .long fr9, .int fw9])))) := e10x
  exact wq_ret rfl rfl ⟨h9x, rfl, (wFr_tr (wFr_sub f3x (by simp)) (wFr_tr (wFr_sub f7x (by simp)) (wFr_sub f11x (by simp)))), (by omega), e10x⟩
set_option maxRecDepth 100000 in
set_option maxHeartbeats 4000000 in
theorem c_beg {h : zH} {t ra rd : Nat} {ps ip : Int64} {im : Int32} {rq rp rs : Nat} {wg ob al9 pr9 sr9 fw : Int32} {rSa rSb : Nat} {kna knb T9a T9b : Int32} {fra frb : Int64} {rq2 rf : Nat} {fi9 kn9 fw9 : Int32} {fr9 : Int64} {hrL : Nat} {hkn hto hks hfa : Int32} {us un : Int32} {pl : List Int32} {lk hd ht bl sd : Int32} {rt : Int64} {sp so : Nat} (hX : zat h 0 = some (.inr (.inr (.inr (9, [.ref 2, .int (nI t), .ref 4, .ref ra, .ref rd, .long ps, .ref 34, .ref 36, .int im, .long ip, .ref 42, .ref 44, .ref 60, .ref 66, .ref 72, .ref 74, .ref 150, .ref 158]))))) (hA : zat h ra = some (.inr (.inr (.inr (0, [.int lk, .int hd, .int ht, .int bl, .int sd, .long rt, .ref (ra + 2), .ref (ra + 4), .ref (ra + 6), .int (nI sp), .ref (ra + 8), .ref (ra + 10), .int (nI so), .ref (ra + 12)]))))) (hP : zat h 36 = some (.inr (.inr (.inr (2, [.int us, .int un, .ref 38, .ref 40]))))) (hAi : zat h 34 = some (.inl (0, 6, pl))) (hH60 : zat h 60 = some (.inr (.inr (.inr (1, [.int hkn, .int hto, .ref hrL, .ref 64, .int hks, .int hfa]))))) (hPl : zat h 74 = some (.inr (.inr (.inr (3, [.ref 44, .ref rq, .ref 76, .ref 78, .ref 80, .ref 88, .int wg, .int ob, .ref 96, .int al9, .int pr9, .int sr9, .ref rp, .ref rs, .int fw]))))) (hR1 : zat h 80 = some (.inr (.inr (.inr (6, [.int kna, .long fra, .int T9a, .ref 82, .ref 84, .ref rSa]))))) (hR2 : zat h 88 = some (.inr (.inr (.inr (6, [.int knb, .long frb, .int T9b, .ref 90, .ref 92, .ref rSb]))))) (hRo : zat h 150 = some (.inr (.inr (.inr (5, [.ref 152, .ref rq2, .ref 154, .ref rf, .int fi9, .int kn9, .long fr9, .int fw9]))))) (hra : ra = 6 ∨ ra = 20) : wq 99 0 [(0, .ref 0)] [] h 0 0 (fun rr9 => ∃ (h2 : zH), rr9 = (none, h2, 0, 0) ∧ wFr [0, 34, 36, 60, 74, 80, 88, 150] h h2 ∧ h2.length = h.length ∧ zat h2 0 = some (.inr (.inr (.inr (9, [.ref 2, .int (nI t), .ref 4, .ref ra, .ref rd, .long rt, .ref 34, .ref 36, .int 0, .long ip, .ref 42, .ref 44, .ref 60, .ref 66, .ref 72, .ref 74, .ref 150, .ref 158])))) ∧ zat h2 34 = some (.inl (0, 6, (jPlo lk hd ht rt pl))) ∧ zat h2 36 = some (.inr (.inr (.inr (2, [.int 0, .int 0, .ref 38, .ref 40])))) ∧ zat h2 60 = some (.inr (.inr (.inr (1, [.int 0, .int hto, .ref hrL, .ref 64, .int hks, .int hfa])))) ∧ zat h2 74 = some (.inr (.inr (.inr (3, [.ref 44, .ref ra, .ref 76, .ref 78, .ref 80, .ref 88, .int 0, .int ob, .ref 96, .int al9, .int 0, .int 0, .ref rp, .ref rs, .int fw])))) ∧ zat h2 80 = some (.inr (.inr (.inr (6, [.int 0, .long fra, .int T9a, .ref 82, .ref 84, .ref rSa])))) ∧ zat h2 88 = some (.inr (.inr (.inr (6, [.int 0, .long frb, .int T9b, .ref 90, .ref 92, .ref rSb])))) ∧ zat h2 150 = some (.inr (.inr (.inr (5, [.ref 152, .ref ra, .ref 154, .ref rf, .int 0, .int 0, .long fr9, .int fw9]))))) := by
  refine wq_gos (f := 1) (pc2 := 2) (ls2 := [(0, .ref 0)]) (st2 := [.ref 0, .ref 0]) (h2 := h) (dc2 := 0) (ds2 := 0) 2 rfl ?_
  refine wq_getf rfl hX rfl rfl ?_
  refine wq_getf rfl hA rfl rfl ?_
  refine wq_putf rfl hX rfl rfl rfl ?_
  intro h1x e2x f3x l4x
  have e2x : zat h1x 0 = some (.inr (.inr (.inr (9, [.ref 2, .int (nI t), .ref 4, .ref ra, .ref rd, .long rt, .ref 34, .ref 36, .int im, .long ip, .ref 42, .ref 44, .ref 60, .ref 66, .ref 72, .ref 74, .ref 150, .ref 158])))) := e2x
  refine wq_gos (f := 1) (pc2 := 12) (ls2 := [(0, .ref 0)]) (st2 := [.ref 0]) (h2 := h1x) (dc2 := 0) (ds2 := 0) 1 rfl ?_
  refine wq_getf rfl e2x rfl rfl ?_
  refine wq_gos (f := 1) (pc2 := 16) (ls2 := [(0, .ref 0)]) (st2 := [.ref 0, .ref ra]) (h2 := h1x) (dc2 := 0) (ds2 := 0) 1 rfl ?_
  refine wq_getf rfl e2x rfl rfl ?_
  refine wq_gos (f := 1) (pc2 := 20) (ls2 := [(0, .ref 0)]) (st2 := [.ref 0, .long rt, .ref ra]) (h2 := h1x) (dc2 := 0) (ds2 := 0) 1 rfl ?_
  refine wq_getf rfl e2x rfl rfl ?_
  have e5x := (f3x.2 _ _ (wnc (by omega) wn0) hA)
  have e6x := (f3x.2 _ _ (wnc (by decide) wn0) hAi)
  refine wq_inlv (y2 := 8) (as := [.long rt, .ref 34]) rfl rfl rfl e5x rfl (wq_mono (c_plo e5x e6x (by first | omega | assumption | decide | solve_by_elim) (by first | omega | assumption | decide | solve_by_elim)) ?_)
  rintro _ ⟨h87x, rfl, f87x, l87x, c07x⟩
  show wq 99 26 [(0, .ref 0)] [] h87x 0 0 _
  obtain ⟨v8x, hv9x⟩ : ∃ x, x = (jPlo lk hd ht rt pl) := ⟨_, rfl⟩
  try rw [← hv9x] at c07x
  try rw [← hv9x]
  refine wq_gos (f := 1) (pc2 := 27) (ls2 := [(0, .ref 0)]) (st2 := [.ref 0]) (h2 := h87x) (dc2 := 0) (ds2 := 0) 1 rfl ?_
  have e10x := (f87x.2 _ _ (wnc (by decide) wn0) e2x)
  refine wq_getf rfl e10x rfl rfl ?_
  have e11x := (f87x.2 _ _ (wnc (by decide) wn0) (f3x.2 _ _ (wnc (by decide) wn0) hP))
  refine wq_inlv (y2 := 22) (as := []) rfl rfl rfl e11x rfl (wq_mono (c_pfo e11x) ?_)
  rintro _ ⟨h812x, rfl, f812x, l812x, c012x⟩
  show wq 99 33 [(0, .ref 0)] [] h812x 0 0 _
  refine wq_gos (f := 1) (pc2 := 35) (ls2 := [(0, .ref 0)]) (st2 := [.int 0, .ref 0]) (h2 := h812x) (dc2 := 0) (ds2 := 0) 2 rfl ?_
  have e13x := (f812x.2 _ _ (wnc (by decide) wn0) e10x)
  refine wq_putf rfl e13x rfl rfl rfl ?_
  intro h14x e15x f16x l17x
  have e15x : zat h14x 0 = some (.inr (.inr (.inr (9, [.ref 2, .int (nI t), .ref 4, .ref ra, .ref rd, .long rt, .ref 34, .ref 36, .int 0, .long ip, .ref 42, .ref 44, .ref 60, .ref 66, .ref 72, .ref 74, .ref 150, .ref 158])))) := e15x
  refine wq_gos (f := 1) (pc2 := 39) (ls2 := [(0, .ref 0)]) (st2 := [.ref 0]) (h2 := h14x) (dc2 := 0) (ds2 := 0) 1 rfl ?_
  refine wq_getf rfl e15x rfl rfl ?_
  refine wq_gos (f := 1) (pc2 := 43) (ls2 := [(0, .ref 0)]) (st2 := [.int 0, .ref 60]) (h2 := h14x) (dc2 := 0) (ds2 := 0) 1 rfl ?_
  have e18x := (f16x.2 _ _ (wnc (by decide) wn0) (f812x.2 _ _ (wnc (by decide) wn0) (f87x.2 _ _ (wnc (by decide) wn0) (f3x.2 _ _ (wnc (by decide) wn0) hH60))))
  refine wq_putf rfl e18x rfl rfl rfl ?_
  intro h19x e20x f21x l22x
  have e20x : zat h19x 60 = some (.inr (.inr (.inr (1, [.int 0, .int hto, .ref hrL, .ref 64, .int hks, .int hfa])))) := e20x
  refine wq_gos (f := 1) (pc2 := 47) (ls2 := [(0, .ref 0)]) (st2 := [.ref 0]) (h2 := h19x) (dc2 := 0) (ds2 := 0) 1 rfl ?_
  have e23x := (f21x.2 _ _ (wnc (by decide) wn0) e15x)
  refine wq_getf rfl e23x rfl rfl ?_
  refine wq_gos (f := 1) (pc2 := 51) (ls2 := [(0, .ref 0)]) (st2 := [.ref 0, .ref 74]) (h2 := h19x) (dc2 := 0) (ds2 := 0) 1 rfl ?_
  refine wq_getf rfl e23x rfl rfl ?_
  have e24x := (f21x.2 _ _ (wnc (by decide) wn0) (f16x.2 _ _ (wnc (by decide) wn0) (f812x.2 _ _ (wnc (by decide) wn0) (f87x.2 _ _ (wnc (by decide) wn0) (f3x.2 _ _ (wnc (by decide) wn0) hPl)))))
  have e25x := (f21x.2 _ _ (wnc (by decide) wn0) (f16x.2 _ _ (wnc (by decide) wn0) (f812x.2 _ _ (wnc (by decide) wn0) (f87x.2 _ _ (wnc (by decide) wn0) (f3x.2 _ _ (wnc (by decide) wn0) hR1)))))
  have e26x := (f21x.2 _ _ (wnc (by decide) wn0) (f16x.2 _ _ (wnc (by decide) wn0) (f812x.2 _ _ (wnc (by decide) wn0) (f87x.2 _ _ (wnc (by decide) wn0) (f3x.2 _ _ (wnc (by decide) wn0) hR2)))))
  refine wq_inlv (y2 := 26) (as := [.ref ra]) rfl rfl rfl e24x rfl (wq_mono (c_pbe e24x e25x e26x) ?_)
  rintro _ ⟨h827x, rfl, f827x, l827x, c027x, c127x, c227x⟩
  show wq 99 57 [(0, .ref 0)] [] h827x 0 0 _
  refine wq_gos (f := 1) (pc2 := 58) (ls2 := [(0, .ref 0)]) (st2 := [.ref 0]) (h2 := h827x) (dc2 := 0) (ds2 := 0) 1 rfl ?_
  have e28x := (f827x.2 _ _ (wnc (by decide) (wnc (by decide) (wnc (by decide) wn0))) e23x)
  refine wq_getf rfl e28x rfl rfl ?_
  refine wq_gos (f := 1) (pc2 := 62) (ls2 := [(0, .ref 0)]) (st2 := [.ref 0, .ref 150]) (h2 := h827x) (dc2 := 0) (ds2 := 0) 1 rfl ?_
  refine wq_getf rfl e28x rfl rfl ?_
  have e29x := (f827x.2 _ _ (wnc (by decide) (wnc (by decide) (wnc (by decide) wn0))) (f21x.2 _ _ (wnc (by decide) wn0) (f16x.2 _ _ (wnc (by decide) wn0) (f812x.2 _ _ (wnc (by decide) wn0) (f87x.2 _ _ (wnc (by decide) wn0) (f3x.2 _ _ (wnc (by decide) wn0) hRo))))))
  refine wq_inlv (y2 := 62) (as := [.ref ra]) rfl rfl rfl e29x rfl (wq_mono (c_rbe e29x) ?_)
  rintro _ ⟨h830x, rfl, f830x, l830x, c030x⟩
  show wq 99 68 [(0, .ref 0)] [] h830x 0 0 _
  have e31x := (f830x.2 _ _ (wnc (by decide) wn0) e28x)
  have e32x := (f830x.2 _ _ (wnc (by decide) wn0) (f827x.2 _ _ (wnc (by decide) (wnc (by decide) (wnc (by decide) wn0))) (f21x.2 _ _ (wnc (by decide) wn0) (f16x.2 _ _ (wnc (by decide) wn0) (f812x.2 _ _ (wnc (by decide) wn0) c07x)))))
  have e33x := (f830x.2 _ _ (wnc (by decide) wn0) (f827x.2 _ _ (wnc (by decide) (wnc (by decide) (wnc (by decide) wn0))) (f21x.2 _ _ (wnc (by decide) wn0) (f16x.2 _ _ (wnc (by decide) wn0) c012x))))
  have e34x := (f830x.2 _ _ (wnc (by decide) wn0) (f827x.2 _ _ (wnc (by decide) (wnc (by decide) (wnc (by decide) wn0))) e20x))
  have e35x := (f830x.2 _ _ (wnc (by decide) wn0) c027x)
  have e36x := (f830x.2 _ _ (wnc (by decide) wn0) c127x)
  have e37x := (f830x.2 _ _ (wnc (by decide) wn0) c227x)
  subst hv9x
  exact wq_ret rfl rfl ⟨h830x, rfl, (wFr_tr (wFr_sub f3x (by simp)) (wFr_tr (wFr_sub f87x (by simp)) (wFr_tr (wFr_sub f812x (by simp)) (wFr_tr (wFr_sub f16x (by simp)) (wFr_tr (wFr_sub f21x (by simp)) (wFr_tr (wFr_sub f827x (by simp)) (wFr_sub f830x (by simp)))))))), (by omega), e31x, e32x, e33x, e34x, e35x, e36x, e37x, c030x⟩
noncomputable def fgRt : Int64 := (jput (jput (jput (jput (jput (jput (0 : Int64) (-280375465082881) 40 (0 : Int32)) (-1095216660481) 32 (0 : Int32)) (-4278190081) 24 (0 : Int32)) (-16711681) 16 (0 : Int32)) (-65281) 8 (0 : Int32)) (-256) 0 (0 : Int32))
noncomputable def fgL (l : List Int32) : List Int32 := (zset 0 (zset 0 (zset 0 (zset 0 (zset 0 (zset 0 l 0 0) 1 (-32)) 2 (-32)) 3 (-32)) 4 (-32)) 5 (-64))
noncomputable def fgG (l : List Int32) : List Int32 := (zset 0 (zset 0 (zset 0 (zset 0 (zset 0 (zset 0 l 0 99) 1 31) 2 31) 3 31) 4 31) 5 63)
noncomputable def fgV (l : List Int32) : List Int32 := (zset 0 (zset 0 (zset 0 (zset 0 (zset 0 (zset 0 l 0 4) 1 4) 2 4) 3 4) 4 4) 5 4)
set_option maxRecDepth 100000 in
set_option maxHeartbeats 4000000 in
theorem c_fgt {h : zH} {ra : Nat} {lk hd ht bl sd sp9 so9 : Int32} {rt : Int64} {ll lg sv : List Int32} (hA : zat h ra = some (.inr (.inr (.inr (0, [.int lk, .int hd, .int ht, .int bl, .int sd, .long rt, .ref (ra + 2), .ref (ra + 4), .ref (ra + 6), .int sp9, .ref (ra + 8), .ref (ra + 10), .int so9, .ref (ra + 12)]))))) (hL : zat h (ra + 2) = some (.inl (0, 6, ll))) (hG : zat h (ra + 4) = some (.inl (0, 6, lg))) (hV : zat h (ra + 6) = some (.inl (0, 6, sv))) (hra : ra = 6 ∨ ra = 20) : wq 1 0 [(0, .ref ra)] [] h 0 0 (fun rr9 => ∃ (h2 : zH), rr9 = (none, h2, 0, 0) ∧ wFr [ra, (ra + 2), (ra + 4), (ra + 6)] h h2 ∧ h2.length = h.length ∧ zat h2 ra = some (.inr (.inr (.inr (0, [.int 9, .int 4, .int 10, .int 2, .int 0, .long fgRt, .ref (ra + 2), .ref (ra + 4), .ref (ra + 6), .int 0, .ref (ra + 8), .ref (ra + 10), .int 0, .ref (ra + 12)])))) ∧ zat h2 (ra + 2) = some (.inl (0, 6, (fgL ll))) ∧ zat h2 (ra + 4) = some (.inl (0, 6, (fgG lg))) ∧ zat h2 (ra + 6) = some (.inl (0, 6, (fgV sv)))) := by
  refine wq_gos (f := 1) (pc2 := 3) (ls2 := [(0, .ref ra)]) (st2 := [.int 9, .ref ra]) (h2 := h) (dc2 := 0) (ds2 := 0) 2 rfl ?_
  refine wq_putf rfl hA rfl rfl rfl ?_
  intro h1x e2x f3x l4x
  have e2x : zat h1x ra = some (.inr (.inr (.inr (0, [.int 9, .int hd, .int ht, .int bl, .int sd, .long rt, .ref (ra + 2), .ref (ra + 4), .ref (ra + 6), .int sp9, .ref (ra + 8), .ref (ra + 10), .int so9, .ref (ra + 12)])))) := e2x
  refine wq_gos (f := 1) (pc2 := 8) (ls2 := [(0, .ref ra)]) (st2 := [.int 4, .ref ra]) (h2 := h1x) (dc2 := 0) (ds2 := 0) 2 rfl ?_
  refine wq_putf rfl e2x rfl rfl rfl ?_
  intro h5x e6x f7x l8x
  have e6x : zat h5x ra = some (.inr (.inr (.inr (0, [.int 9, .int 4, .int ht, .int bl, .int sd, .long rt, .ref (ra + 2), .ref (ra + 4), .ref (ra + 6), .int sp9, .ref (ra + 8), .ref (ra + 10), .int so9, .ref (ra + 12)])))) := e6x
  refine wq_gos (f := 1) (pc2 := 14) (ls2 := [(0, .ref ra)]) (st2 := [.int 10, .ref ra]) (h2 := h5x) (dc2 := 0) (ds2 := 0) 2 rfl ?_
  refine wq_putf rfl e6x rfl rfl rfl ?_
  intro h9x e10x f11x l12x
  have e10x : zat h9x ra = some (.inr (.inr (.inr (0, [.int 9, .int 4, .int 10, .int bl, .int sd, .long rt, .ref (ra + 2), .ref (ra + 4), .ref (ra + 6), .int sp9, .ref (ra + 8), .ref (ra + 10), .int so9, .ref (ra + 12)])))) := e10x
  refine wq_gos (f := 1) (pc2 := 19) (ls2 := [(0, .ref ra)]) (st2 := [.int 2, .ref ra]) (h2 := h9x) (dc2 := 0) (ds2 := 0) 2 rfl ?_
  refine wq_putf rfl e10x rfl rfl rfl ?_
  intro h13x e14x f15x l16x
  have e14x : zat h13x ra = some (.inr (.inr (.inr (0, [.int 9, .int 4, .int 10, .int 2, .int sd, .long rt, .ref (ra + 2), .ref (ra + 4), .ref (ra + 6), .int sp9, .ref (ra + 8), .ref (ra + 10), .int so9, .ref (ra + 12)])))) := e14x
  refine wq_gos (f := 1) (pc2 := 24) (ls2 := [(0, .ref ra)]) (st2 := [.int 0, .ref ra]) (h2 := h13x) (dc2 := 0) (ds2 := 0) 2 rfl ?_
  refine wq_putf rfl e14x rfl rfl rfl ?_
  intro h17x e18x f19x l20x
  have e18x : zat h17x ra = some (.inr (.inr (.inr (0, [.int 9, .int 4, .int 10, .int 2, .int 0, .long rt, .ref (ra + 2), .ref (ra + 4), .ref (ra + 6), .int sp9, .ref (ra + 8), .ref (ra + 10), .int so9, .ref (ra + 12)])))) := e18x
  refine wq_gos (f := 1) (pc2 := 29) (ls2 := [(0, .ref ra)]) (st2 := [.long 0, .ref ra]) (h2 := h17x) (dc2 := 0) (ds2 := 0) 2 rfl ?_
  refine wq_putf rfl e18x rfl rfl rfl ?_
  intro h21x e22x f23x l24x
  have e22x : zat h21x ra = some (.inr (.inr (.inr (0, [.int 9, .int 4, .int 10, .int 2, .int 0, .long 0, .ref (ra + 2), .ref (ra + 4), .ref (ra + 6), .int sp9, .ref (ra + 8), .ref (ra + 10), .int so9, .ref (ra + 12)])))) := e22x
  refine wq_gos (f := 1) (pc2 := 41) (ls2 := [(1, .int 0), (0, .ref ra)]) (st2 := [.ref ra]) (h2 := h21x) (dc2 := 0) (ds2 := 0) 6 rfl ?_
  refine wq_getf rfl e22x rfl rfl ?_
  refine wq_gos (f := 1) (pc2 := 50) (ls2 := [(1, .int 0), (0, .ref ra)]) (st2 := [.int 0, .int 0, .ref (ra + 2)]) (h2 := h21x) (dc2 := 0) (ds2 := 0) 4 rfl ?_
  have e25x := (f23x.2 _ _ (wnc (by omega) wn0) (f19x.2 _ _ (wnc (by omega) wn0) (f15x.2 _ _ (wnc (by omega) wn0) (f11x.2 _ _ (wnc (by omega) wn0) (f7x.2 _ _ (wnc (by omega) wn0) (f3x.2 _ _ (wnc (by omega) wn0) hL))))))
  have q26x : (0 : Int32).toInt = 0 := rfl
  refine wq_iast rfl e25x rfl rfl ?_
  intro h27x e28x f29x l30x
  have e28x : zat h27x (ra + 2) = some (.inl (0, 6, (zset 0 ll 0 (0 : Int32)))) := e28x
  refine wq_gos (f := 1) (pc2 := 52) (ls2 := [(1, .int 0), (0, .ref ra)]) (st2 := [.ref ra]) (h2 := h27x) (dc2 := 0) (ds2 := 0) 1 rfl ?_
  have e31x := (f29x.2 _ _ (wnc (by omega) wn0) e22x)
  refine wq_getf rfl e31x rfl rfl ?_
  refine wq_gos (f := 1) (pc2 := 61) (ls2 := [(1, .int 0), (0, .ref ra)]) (st2 := [.int 99, .int 0, .ref (ra + 4)]) (h2 := h27x) (dc2 := 0) (ds2 := 0) 4 rfl ?_
  have e32x := (f29x.2 _ _ (wnc (by omega) wn0) (f23x.2 _ _ (wnc (by omega) wn0) (f19x.2 _ _ (wnc (by omega) wn0) (f15x.2 _ _ (wnc (by omega) wn0) (f11x.2 _ _ (wnc (by omega) wn0) (f7x.2 _ _ (wnc (by omega) wn0) (f3x.2 _ _ (wnc (by omega) wn0) hG)))))))
  refine wq_iast rfl e32x rfl rfl ?_
  intro h33x e34x f35x l36x
  have e34x : zat h33x (ra + 4) = some (.inl (0, 6, (zset 0 lg 0 (99 : Int32)))) := e34x
  refine wq_gos (f := 1) (pc2 := 63) (ls2 := [(1, .int 0), (0, .ref ra)]) (st2 := [.ref ra]) (h2 := h33x) (dc2 := 0) (ds2 := 0) 1 rfl ?_
  have e37x := (f35x.2 _ _ (wnc (by omega) wn0) e31x)
  refine wq_getf rfl e37x rfl rfl ?_
  refine wq_gos (f := 1) (pc2 := 68) (ls2 := [(1, .int 0), (0, .ref ra)]) (st2 := [.int 4, .int 0, .ref (ra + 6)]) (h2 := h33x) (dc2 := 0) (ds2 := 0) 2 rfl ?_
  have e38x := (f35x.2 _ _ (wnc (by omega) wn0) (f29x.2 _ _ (wnc (by omega) wn0) (f23x.2 _ _ (wnc (by omega) wn0) (f19x.2 _ _ (wnc (by omega) wn0) (f15x.2 _ _ (wnc (by omega) wn0) (f11x.2 _ _ (wnc (by omega) wn0) (f7x.2 _ _ (wnc (by omega) wn0) (f3x.2 _ _ (wnc (by omega) wn0) hV))))))))
  refine wq_iast rfl e38x rfl rfl ?_
  intro h39x e40x f41x l42x
  have e40x : zat h39x (ra + 6) = some (.inl (0, 6, (zset 0 sv 0 (4 : Int32)))) := e40x
  refine wq_gos (f := 1) (pc2 := 71) (ls2 := [(1, .int 0), (0, .ref ra)]) (st2 := [.ref ra, .ref ra]) (h2 := h39x) (dc2 := 0) (ds2 := 0) 2 rfl ?_
  have e43x := (f41x.2 _ _ (wnc (by omega) wn0) e37x)
  refine wq_getf rfl e43x rfl rfl ?_
  refine wq_gos (f := 1) (pc2 := 76) (ls2 := [(1, .int 0), (0, .ref ra)]) (st2 := [.int 0, .int 0, .long 0, .ref ra]) (h2 := h39x) (dc2 := 0) (ds2 := 0) 2 rfl ?_
  refine wq_inl (y2 := 34) (as := [.long 0, .int 0, .int 0]) rfl rfl rfl (wq_T (c_with0 (0 : Int64) (0 : Int32) h39x) ?_)
  show wq 1 79 [(1, .int 0), (0, .ref ra)] [.long (jput (0 : Int64) (-280375465082881) 40 (0 : Int32)), .ref ra] h39x 0 0 _
  refine wq_putf rfl e43x rfl rfl rfl ?_
  intro h44x e45x f46x l47x
  have e45x : zat h44x ra = some (.inr (.inr (.inr (0, [.int 9, .int 4, .int 10, .int 2, .int 0, .long (jput (0 : Int64) (-280375465082881) 40 (0 : Int32)), .ref (ra + 2), .ref (ra + 4), .ref (ra + 6), .int sp9, .ref (ra + 8), .ref (ra + 10), .int so9, .ref (ra + 12)])))) := e45x
  refine wq_gos (f := 1) (pc2 := 41) (ls2 := [(1, .int 1), (0, .ref ra)]) (st2 := [.ref ra]) (h2 := h44x) (dc2 := 0) (ds2 := 0) 6 rfl ?_
  refine wq_getf rfl e45x rfl rfl ?_
  refine wq_gos (f := 1) (pc2 := 50) (ls2 := [(1, .int 1), (0, .ref ra)]) (st2 := [.int (-32), .int 1, .ref (ra + 2)]) (h2 := h44x) (dc2 := 0) (ds2 := 0) 4 rfl ?_
  have e48x := (f46x.2 _ _ (wnc (by omega) wn0) (f41x.2 _ _ (wnc (by omega) wn0) (f35x.2 _ _ (wnc (by omega) wn0) e28x)))
  have q49x : (1 : Int32).toInt = 1 := rfl
  refine wq_iast rfl e48x rfl rfl ?_
  intro h50x e51x f52x l53x
  have e51x : zat h50x (ra + 2) = some (.inl (0, 6, (zset 0 (zset 0 ll 0 (0 : Int32)) 1 (-32 : Int32)))) := e51x
  refine wq_gos (f := 1) (pc2 := 52) (ls2 := [(1, .int 1), (0, .ref ra)]) (st2 := [.ref ra]) (h2 := h50x) (dc2 := 0) (ds2 := 0) 1 rfl ?_
  have e54x := (f52x.2 _ _ (wnc (by omega) wn0) e45x)
  refine wq_getf rfl e54x rfl rfl ?_
  refine wq_gos (f := 1) (pc2 := 61) (ls2 := [(1, .int 1), (0, .ref ra)]) (st2 := [.int 31, .int 1, .ref (ra + 4)]) (h2 := h50x) (dc2 := 0) (ds2 := 0) 4 rfl ?_
  have e55x := (f52x.2 _ _ (wnc (by omega) wn0) (f46x.2 _ _ (wnc (by omega) wn0) (f41x.2 _ _ (wnc (by omega) wn0) e34x)))
  refine wq_iast rfl e55x rfl rfl ?_
  intro h56x e57x f58x l59x
  have e57x : zat h56x (ra + 4) = some (.inl (0, 6, (zset 0 (zset 0 lg 0 (99 : Int32)) 1 (31 : Int32)))) := e57x
  refine wq_gos (f := 1) (pc2 := 63) (ls2 := [(1, .int 1), (0, .ref ra)]) (st2 := [.ref ra]) (h2 := h56x) (dc2 := 0) (ds2 := 0) 1 rfl ?_
  have e60x := (f58x.2 _ _ (wnc (by omega) wn0) e54x)
  refine wq_getf rfl e60x rfl rfl ?_
  refine wq_gos (f := 1) (pc2 := 68) (ls2 := [(1, .int 1), (0, .ref ra)]) (st2 := [.int 4, .int 1, .ref (ra + 6)]) (h2 := h56x) (dc2 := 0) (ds2 := 0) 2 rfl ?_
  have e61x := (f58x.2 _ _ (wnc (by omega) wn0) (f52x.2 _ _ (wnc (by omega) wn0) (f46x.2 _ _ (wnc (by omega) wn0) e40x)))
  refine wq_iast rfl e61x rfl rfl ?_
  intro h62x e63x f64x l65x
  have e63x : zat h62x (ra + 6) = some (.inl (0, 6, (zset 0 (zset 0 sv 0 (4 : Int32)) 1 (4 : Int32)))) := e63x
  refine wq_gos (f := 1) (pc2 := 71) (ls2 := [(1, .int 1), (0, .ref ra)]) (st2 := [.ref ra, .ref ra]) (h2 := h62x) (dc2 := 0) (ds2 := 0) 2 rfl ?_
  have e66x := (f64x.2 _ _ (wnc (by omega) wn0) e60x)
  refine wq_getf rfl e66x rfl rfl ?_
  refine wq_gos (f := 1) (pc2 := 76) (ls2 := [(1, .int 1), (0, .ref ra)]) (st2 := [.int 0, .int 1, .long (jput (0 : Int64) (-280375465082881) 40 (0 : Int32)), .ref ra]) (h2 := h62x) (dc2 := 0) (ds2 := 0) 2 rfl ?_
  refine wq_inl (y2 := 34) (as := [.long (jput (0 : Int64) (-280375465082881) 40 (0 : Int32)), .int 1, .int 0]) rfl rfl rfl (wq_T (c_with1 (jput (0 : Int64) (-280375465082881) 40 (0 : Int32)) (0 : Int32) h62x) ?_)
  show wq 1 79 [(1, .int 1), (0, .ref ra)] [.long (jput (jput (0 : Int64) (-280375465082881) 40 (0 : Int32)) (-1095216660481) 32 (0 : Int32)), .ref ra] h62x 0 0 _
  refine wq_putf rfl e66x rfl rfl rfl ?_
  intro h67x e68x f69x l70x
  have e68x : zat h67x ra = some (.inr (.inr (.inr (0, [.int 9, .int 4, .int 10, .int 2, .int 0, .long (jput (jput (0 : Int64) (-280375465082881) 40 (0 : Int32)) (-1095216660481) 32 (0 : Int32)), .ref (ra + 2), .ref (ra + 4), .ref (ra + 6), .int sp9, .ref (ra + 8), .ref (ra + 10), .int so9, .ref (ra + 12)])))) := e68x
  refine wq_gos (f := 1) (pc2 := 41) (ls2 := [(1, .int 2), (0, .ref ra)]) (st2 := [.ref ra]) (h2 := h67x) (dc2 := 0) (ds2 := 0) 6 rfl ?_
  refine wq_getf rfl e68x rfl rfl ?_
  refine wq_gos (f := 1) (pc2 := 50) (ls2 := [(1, .int 2), (0, .ref ra)]) (st2 := [.int (-32), .int 2, .ref (ra + 2)]) (h2 := h67x) (dc2 := 0) (ds2 := 0) 4 rfl ?_
  have e71x := (f69x.2 _ _ (wnc (by omega) wn0) (f64x.2 _ _ (wnc (by omega) wn0) (f58x.2 _ _ (wnc (by omega) wn0) e51x)))
  have q72x : (2 : Int32).toInt = 2 := rfl
  refine wq_iast rfl e71x rfl rfl ?_
  intro h73x e74x f75x l76x
  have e74x : zat h73x (ra + 2) = some (.inl (0, 6, (zset 0 (zset 0 (zset 0 ll 0 (0 : Int32)) 1 (-32 : Int32)) 2 (-32 : Int32)))) := e74x
  refine wq_gos (f := 1) (pc2 := 52) (ls2 := [(1, .int 2), (0, .ref ra)]) (st2 := [.ref ra]) (h2 := h73x) (dc2 := 0) (ds2 := 0) 1 rfl ?_
  have e77x := (f75x.2 _ _ (wnc (by omega) wn0) e68x)
  refine wq_getf rfl e77x rfl rfl ?_
  refine wq_gos (f := 1) (pc2 := 61) (ls2 := [(1, .int 2), (0, .ref ra)]) (st2 := [.int 31, .int 2, .ref (ra + 4)]) (h2 := h73x) (dc2 := 0) (ds2 := 0) 4 rfl ?_
  have e78x := (f75x.2 _ _ (wnc (by omega) wn0) (f69x.2 _ _ (wnc (by omega) wn0) (f64x.2 _ _ (wnc (by omega) wn0) e57x)))
  refine wq_iast rfl e78x rfl rfl ?_
  intro h79x e80x f81x l82x
  have e80x : zat h79x (ra + 4) = some (.inl (0, 6, (zset 0 (zset 0 (zset 0 lg 0 (99 : Int32)) 1 (31 : Int32)) 2 (31 : Int32)))) := e80x
  refine wq_gos (f := 1) (pc2 := 63) (ls2 := [(1, .int 2), (0, .ref ra)]) (st2 := [.ref ra]) (h2 := h79x) (dc2 := 0) (ds2 := 0) 1 rfl ?_
  have e83x := (f81x.2 _ _ (wnc (by omega) wn0) e77x)
  refine wq_getf rfl e83x rfl rfl ?_
  refine wq_gos (f := 1) (pc2 := 68) (ls2 := [(1, .int 2), (0, .ref ra)]) (st2 := [.int 4, .int 2, .ref (ra + 6)]) (h2 := h79x) (dc2 := 0) (ds2 := 0) 2 rfl ?_
  have e84x := (f81x.2 _ _ (wnc (by omega) wn0) (f75x.2 _ _ (wnc (by omega) wn0) (f69x.2 _ _ (wnc (by omega) wn0) e63x)))
  refine wq_iast rfl e84x rfl rfl ?_
  intro h85x e86x f87x l88x
  have e86x : zat h85x (ra + 6) = some (.inl (0, 6, (zset 0 (zset 0 (zset 0 sv 0 (4 : Int32)) 1 (4 : Int32)) 2 (4 : Int32)))) := e86x
  refine wq_gos (f := 1) (pc2 := 71) (ls2 := [(1, .int 2), (0, .ref ra)]) (st2 := [.ref ra, .ref ra]) (h2 := h85x) (dc2 := 0) (ds2 := 0) 2 rfl ?_
  have e89x := (f87x.2 _ _ (wnc (by omega) wn0) e83x)
  refine wq_getf rfl e89x rfl rfl ?_
  refine wq_gos (f := 1) (pc2 := 76) (ls2 := [(1, .int 2), (0, .ref ra)]) (st2 := [.int 0, .int 2, .long (jput (jput (0 : Int64) (-280375465082881) 40 (0 : Int32)) (-1095216660481) 32 (0 : Int32)), .ref ra]) (h2 := h85x) (dc2 := 0) (ds2 := 0) 2 rfl ?_
  refine wq_inl (y2 := 34) (as := [.long (jput (jput (0 : Int64) (-280375465082881) 40 (0 : Int32)) (-1095216660481) 32 (0 : Int32)), .int 2, .int 0]) rfl rfl rfl (wq_T (c_with2 (jput (jput (0 : Int64) (-280375465082881) 40 (0 : Int32)) (-1095216660481) 32 (0 : Int32)) (0 : Int32) h85x) ?_)
  show wq 1 79 [(1, .int 2), (0, .ref ra)] [.long (jput (jput (jput (0 : Int64) (-280375465082881) 40 (0 : Int32)) (-1095216660481) 32 (0 : Int32)) (-4278190081) 24 (0 : Int32)), .ref ra] h85x 0 0 _
  refine wq_putf rfl e89x rfl rfl rfl ?_
  intro h90x e91x f92x l93x
  have e91x : zat h90x ra = some (.inr (.inr (.inr (0, [.int 9, .int 4, .int 10, .int 2, .int 0, .long (jput (jput (jput (0 : Int64) (-280375465082881) 40 (0 : Int32)) (-1095216660481) 32 (0 : Int32)) (-4278190081) 24 (0 : Int32)), .ref (ra + 2), .ref (ra + 4), .ref (ra + 6), .int sp9, .ref (ra + 8), .ref (ra + 10), .int so9, .ref (ra + 12)])))) := e91x
  refine wq_gos (f := 1) (pc2 := 41) (ls2 := [(1, .int 3), (0, .ref ra)]) (st2 := [.ref ra]) (h2 := h90x) (dc2 := 0) (ds2 := 0) 6 rfl ?_
  refine wq_getf rfl e91x rfl rfl ?_
  refine wq_gos (f := 1) (pc2 := 50) (ls2 := [(1, .int 3), (0, .ref ra)]) (st2 := [.int (-32), .int 3, .ref (ra + 2)]) (h2 := h90x) (dc2 := 0) (ds2 := 0) 4 rfl ?_
  have e94x := (f92x.2 _ _ (wnc (by omega) wn0) (f87x.2 _ _ (wnc (by omega) wn0) (f81x.2 _ _ (wnc (by omega) wn0) e74x)))
  have q95x : (3 : Int32).toInt = 3 := rfl
  refine wq_iast rfl e94x rfl rfl ?_
  intro h96x e97x f98x l99x
  have e97x : zat h96x (ra + 2) = some (.inl (0, 6, (zset 0 (zset 0 (zset 0 (zset 0 ll 0 (0 : Int32)) 1 (-32 : Int32)) 2 (-32 : Int32)) 3 (-32 : Int32)))) := e97x
  refine wq_gos (f := 1) (pc2 := 52) (ls2 := [(1, .int 3), (0, .ref ra)]) (st2 := [.ref ra]) (h2 := h96x) (dc2 := 0) (ds2 := 0) 1 rfl ?_
  have e100x := (f98x.2 _ _ (wnc (by omega) wn0) e91x)
  refine wq_getf rfl e100x rfl rfl ?_
  refine wq_gos (f := 1) (pc2 := 61) (ls2 := [(1, .int 3), (0, .ref ra)]) (st2 := [.int 31, .int 3, .ref (ra + 4)]) (h2 := h96x) (dc2 := 0) (ds2 := 0) 4 rfl ?_
  have e101x := (f98x.2 _ _ (wnc (by omega) wn0) (f92x.2 _ _ (wnc (by omega) wn0) (f87x.2 _ _ (wnc (by omega) wn0) e80x)))
  refine wq_iast rfl e101x rfl rfl ?_
  intro h102x e103x f104x l105x
  have e103x : zat h102x (ra + 4) = some (.inl (0, 6, (zset 0 (zset 0 (zset 0 (zset 0 lg 0 (99 : Int32)) 1 (31 : Int32)) 2 (31 : Int32)) 3 (31 : Int32)))) := e103x
  refine wq_gos (f := 1) (pc2 := 63) (ls2 := [(1, .int 3), (0, .ref ra)]) (st2 := [.ref ra]) (h2 := h102x) (dc2 := 0) (ds2 := 0) 1 rfl ?_
  have e106x := (f104x.2 _ _ (wnc (by omega) wn0) e100x)
  refine wq_getf rfl e106x rfl rfl ?_
  refine wq_gos (f := 1) (pc2 := 68) (ls2 := [(1, .int 3), (0, .ref ra)]) (st2 := [.int 4, .int 3, .ref (ra + 6)]) (h2 := h102x) (dc2 := 0) (ds2 := 0) 2 rfl ?_
  have e107x := (f104x.2 _ _ (wnc (by omega) wn0) (f98x.2 _ _ (wnc (by omega) wn0) (f92x.2 _ _ (wnc (by omega) wn0) e86x)))
  refine wq_iast rfl e107x rfl rfl ?_
  intro h108x e109x f110x l111x
  have e109x : zat h108x (ra + 6) = some (.inl (0, 6, (zset 0 (zset 0 (zset 0 (zset 0 sv 0 (4 : Int32)) 1 (4 : Int32)) 2 (4 : Int32)) 3 (4 : Int32)))) := e109x
  refine wq_gos (f := 1) (pc2 := 71) (ls2 := [(1, .int 3), (0, .ref ra)]) (st2 := [.ref ra, .ref ra]) (h2 := h108x) (dc2 := 0) (ds2 := 0) 2 rfl ?_
  have e112x := (f110x.2 _ _ (wnc (by omega) wn0) e106x)
  refine wq_getf rfl e112x rfl rfl ?_
  refine wq_gos (f := 1) (pc2 := 76) (ls2 := [(1, .int 3), (0, .ref ra)]) (st2 := [.int 0, .int 3, .long (jput (jput (jput (0 : Int64) (-280375465082881) 40 (0 : Int32)) (-1095216660481) 32 (0 : Int32)) (-4278190081) 24 (0 : Int32)), .ref ra]) (h2 := h108x) (dc2 := 0) (ds2 := 0) 2 rfl ?_
  refine wq_inl (y2 := 34) (as := [.long (jput (jput (jput (0 : Int64) (-280375465082881) 40 (0 : Int32)) (-1095216660481) 32 (0 : Int32)) (-4278190081) 24 (0 : Int32)), .int 3, .int 0]) rfl rfl rfl (wq_T (c_with3 (jput (jput (jput (0 : Int64) (-280375465082881) 40 (0 : Int32)) (-1095216660481) 32 (0 : Int32)) (-4278190081) 24 (0 : Int32)) (0 : Int32) h108x) ?_)
  show wq 1 79 [(1, .int 3), (0, .ref ra)] [.long (jput (jput (jput (jput (0 : Int64) (-280375465082881) 40 (0 : Int32)) (-1095216660481) 32 (0 : Int32)) (-4278190081) 24 (0 : Int32)) (-16711681) 16 (0 : Int32)), .ref ra] h108x 0 0 _
  refine wq_putf rfl e112x rfl rfl rfl ?_
  intro h113x e114x f115x l116x
  have e114x : zat h113x ra = some (.inr (.inr (.inr (0, [.int 9, .int 4, .int 10, .int 2, .int 0, .long (jput (jput (jput (jput (0 : Int64) (-280375465082881) 40 (0 : Int32)) (-1095216660481) 32 (0 : Int32)) (-4278190081) 24 (0 : Int32)) (-16711681) 16 (0 : Int32)), .ref (ra + 2), .ref (ra + 4), .ref (ra + 6), .int sp9, .ref (ra + 8), .ref (ra + 10), .int so9, .ref (ra + 12)])))) := e114x
  refine wq_gos (f := 1) (pc2 := 41) (ls2 := [(1, .int 4), (0, .ref ra)]) (st2 := [.ref ra]) (h2 := h113x) (dc2 := 0) (ds2 := 0) 6 rfl ?_
  refine wq_getf rfl e114x rfl rfl ?_
  refine wq_gos (f := 1) (pc2 := 50) (ls2 := [(1, .int 4), (0, .ref ra)]) (st2 := [.int (-32), .int 4, .ref (ra + 2)]) (h2 := h113x) (dc2 := 0) (ds2 := 0) 4 rfl ?_
  have e117x := (f115x.2 _ _ (wnc (by omega) wn0) (f110x.2 _ _ (wnc (by omega) wn0) (f104x.2 _ _ (wnc (by omega) wn0) e97x)))
  have q118x : (4 : Int32).toInt = 4 := rfl
  refine wq_iast rfl e117x rfl rfl ?_
  intro h119x e120x f121x l122x
  have e120x : zat h119x (ra + 2) = some (.inl (0, 6, (zset 0 (zset 0 (zset 0 (zset 0 (zset 0 ll 0 (0 : Int32)) 1 (-32 : Int32)) 2 (-32 : Int32)) 3 (-32 : Int32)) 4 (-32 : Int32)))) := e120x
  refine wq_gos (f := 1) (pc2 := 52) (ls2 := [(1, .int 4), (0, .ref ra)]) (st2 := [.ref ra]) (h2 := h119x) (dc2 := 0) (ds2 := 0) 1 rfl ?_
  have e123x := (f121x.2 _ _ (wnc (by omega) wn0) e114x)
  refine wq_getf rfl e123x rfl rfl ?_
  refine wq_gos (f := 1) (pc2 := 61) (ls2 := [(1, .int 4), (0, .ref ra)]) (st2 := [.int 31, .int 4, .ref (ra + 4)]) (h2 := h119x) (dc2 := 0) (ds2 := 0) 4 rfl ?_
  have e124x := (f121x.2 _ _ (wnc (by omega) wn0) (f115x.2 _ _ (wnc (by omega) wn0) (f110x.2 _ _ (wnc (by omega) wn0) e103x)))
  refine wq_iast rfl e124x rfl rfl ?_
  intro h125x e126x f127x l128x
  have e126x : zat h125x (ra + 4) = some (.inl (0, 6, (zset 0 (zset 0 (zset 0 (zset 0 (zset 0 lg 0 (99 : Int32)) 1 (31 : Int32)) 2 (31 : Int32)) 3 (31 : Int32)) 4 (31 : Int32)))) := e126x
  refine wq_gos (f := 1) (pc2 := 63) (ls2 := [(1, .int 4), (0, .ref ra)]) (st2 := [.ref ra]) (h2 := h125x) (dc2 := 0) (ds2 := 0) 1 rfl ?_
  have e129x := (f127x.2 _ _ (wnc (by omega) wn0) e123x)
  refine wq_getf rfl e129x rfl rfl ?_
  refine wq_gos (f := 1) (pc2 := 68) (ls2 := [(1, .int 4), (0, .ref ra)]) (st2 := [.int 4, .int 4, .ref (ra + 6)]) (h2 := h125x) (dc2 := 0) (ds2 := 0) 2 rfl ?_
  have e130x := (f127x.2 _ _ (wnc (by omega) wn0) (f121x.2 _ _ (wnc (by omega) wn0) (f115x.2 _ _ (wnc (by omega) wn0) e109x)))
  refine wq_iast rfl e130x rfl rfl ?_
  intro h131x e132x f133x l134x
  have e132x : zat h131x (ra + 6) = some (.inl (0, 6, (zset 0 (zset 0 (zset 0 (zset 0 (zset 0 sv 0 (4 : Int32)) 1 (4 : Int32)) 2 (4 : Int32)) 3 (4 : Int32)) 4 (4 : Int32)))) := e132x
  refine wq_gos (f := 1) (pc2 := 71) (ls2 := [(1, .int 4), (0, .ref ra)]) (st2 := [.ref ra, .ref ra]) (h2 := h131x) (dc2 := 0) (ds2 := 0) 2 rfl ?_
  have e135x := (f133x.2 _ _ (wnc (by omega) wn0) e129x)
  refine wq_getf rfl e135x rfl rfl ?_
  refine wq_gos (f := 1) (pc2 := 76) (ls2 := [(1, .int 4), (0, .ref ra)]) (st2 := [.int 0, .int 4, .long (jput (jput (jput (jput (0 : Int64) (-280375465082881) 40 (0 : Int32)) (-1095216660481) 32 (0 : Int32)) (-4278190081) 24 (0 : Int32)) (-16711681) 16 (0 : Int32)), .ref ra]) (h2 := h131x) (dc2 := 0) (ds2 := 0) 2 rfl ?_
  refine wq_inl (y2 := 34) (as := [.long (jput (jput (jput (jput (0 : Int64) (-280375465082881) 40 (0 : Int32)) (-1095216660481) 32 (0 : Int32)) (-4278190081) 24 (0 : Int32)) (-16711681) 16 (0 : Int32)), .int 4, .int 0]) rfl rfl rfl (wq_T (c_with4 (jput (jput (jput (jput (0 : Int64) (-280375465082881) 40 (0 : Int32)) (-1095216660481) 32 (0 : Int32)) (-4278190081) 24 (0 : Int32)) (-16711681) 16 (0 : Int32)) (0 : Int32) h131x) ?_)
  show wq 1 79 [(1, .int 4), (0, .ref ra)] [.long (jput (jput (jput (jput (jput (0 : Int64) (-280375465082881) 40 (0 : Int32)) (-1095216660481) 32 (0 : Int32)) (-4278190081) 24 (0 : Int32)) (-16711681) 16 (0 : Int32)) (-65281) 8 (0 : Int32)), .ref ra] h131x 0 0 _
  refine wq_putf rfl e135x rfl rfl rfl ?_
  intro h136x e137x f138x l139x
  have e137x : zat h136x ra = some (.inr (.inr (.inr (0, [.int 9, .int 4, .int 10, .int 2, .int 0, .long (jput (jput (jput (jput (jput (0 : Int64) (-280375465082881) 40 (0 : Int32)) (-1095216660481) 32 (0 : Int32)) (-4278190081) 24 (0 : Int32)) (-16711681) 16 (0 : Int32)) (-65281) 8 (0 : Int32)), .ref (ra + 2), .ref (ra + 4), .ref (ra + 6), .int sp9, .ref (ra + 8), .ref (ra + 10), .int so9, .ref (ra + 12)])))) := e137x
  refine wq_gos (f := 1) (pc2 := 41) (ls2 := [(1, .int 5), (0, .ref ra)]) (st2 := [.ref ra]) (h2 := h136x) (dc2 := 0) (ds2 := 0) 6 rfl ?_
  refine wq_getf rfl e137x rfl rfl ?_
  refine wq_gos (f := 1) (pc2 := 50) (ls2 := [(1, .int 5), (0, .ref ra)]) (st2 := [.int (-64), .int 5, .ref (ra + 2)]) (h2 := h136x) (dc2 := 0) (ds2 := 0) 4 rfl ?_
  have e140x := (f138x.2 _ _ (wnc (by omega) wn0) (f133x.2 _ _ (wnc (by omega) wn0) (f127x.2 _ _ (wnc (by omega) wn0) e120x)))
  have q141x : (5 : Int32).toInt = 5 := rfl
  refine wq_iast rfl e140x rfl rfl ?_
  intro h142x e143x f144x l145x
  have e143x : zat h142x (ra + 2) = some (.inl (0, 6, (zset 0 (zset 0 (zset 0 (zset 0 (zset 0 (zset 0 ll 0 (0 : Int32)) 1 (-32 : Int32)) 2 (-32 : Int32)) 3 (-32 : Int32)) 4 (-32 : Int32)) 5 (-64 : Int32)))) := e143x
  refine wq_gos (f := 1) (pc2 := 52) (ls2 := [(1, .int 5), (0, .ref ra)]) (st2 := [.ref ra]) (h2 := h142x) (dc2 := 0) (ds2 := 0) 1 rfl ?_
  have e146x := (f144x.2 _ _ (wnc (by omega) wn0) e137x)
  refine wq_getf rfl e146x rfl rfl ?_
  refine wq_gos (f := 1) (pc2 := 61) (ls2 := [(1, .int 5), (0, .ref ra)]) (st2 := [.int 63, .int 5, .ref (ra + 4)]) (h2 := h142x) (dc2 := 0) (ds2 := 0) 4 rfl ?_
  have e147x := (f144x.2 _ _ (wnc (by omega) wn0) (f138x.2 _ _ (wnc (by omega) wn0) (f133x.2 _ _ (wnc (by omega) wn0) e126x)))
  refine wq_iast rfl e147x rfl rfl ?_
  intro h148x e149x f150x l151x
  have e149x : zat h148x (ra + 4) = some (.inl (0, 6, (zset 0 (zset 0 (zset 0 (zset 0 (zset 0 (zset 0 lg 0 (99 : Int32)) 1 (31 : Int32)) 2 (31 : Int32)) 3 (31 : Int32)) 4 (31 : Int32)) 5 (63 : Int32)))) := e149x
  refine wq_gos (f := 1) (pc2 := 63) (ls2 := [(1, .int 5), (0, .ref ra)]) (st2 := [.ref ra]) (h2 := h148x) (dc2 := 0) (ds2 := 0) 1 rfl ?_
  have e152x := (f150x.2 _ _ (wnc (by omega) wn0) e146x)
  refine wq_getf rfl e152x rfl rfl ?_
  refine wq_gos (f := 1) (pc2 := 68) (ls2 := [(1, .int 5), (0, .ref ra)]) (st2 := [.int 4, .int 5, .ref (ra + 6)]) (h2 := h148x) (dc2 := 0) (ds2 := 0) 2 rfl ?_
  have e153x := (f150x.2 _ _ (wnc (by omega) wn0) (f144x.2 _ _ (wnc (by omega) wn0) (f138x.2 _ _ (wnc (by omega) wn0) e132x)))
  refine wq_iast rfl e153x rfl rfl ?_
  intro h154x e155x f156x l157x
  have e155x : zat h154x (ra + 6) = some (.inl (0, 6, (zset 0 (zset 0 (zset 0 (zset 0 (zset 0 (zset 0 sv 0 (4 : Int32)) 1 (4 : Int32)) 2 (4 : Int32)) 3 (4 : Int32)) 4 (4 : Int32)) 5 (4 : Int32)))) := e155x
  refine wq_gos (f := 1) (pc2 := 71) (ls2 := [(1, .int 5), (0, .ref ra)]) (st2 := [.ref ra, .ref ra]) (h2 := h154x) (dc2 := 0) (ds2 := 0) 2 rfl ?_
  have e158x := (f156x.2 _ _ (wnc (by omega) wn0) e152x)
  refine wq_getf rfl e158x rfl rfl ?_
  refine wq_gos (f := 1) (pc2 := 76) (ls2 := [(1, .int 5), (0, .ref ra)]) (st2 := [.int 0, .int 5, .long (jput (jput (jput (jput (jput (0 : Int64) (-280375465082881) 40 (0 : Int32)) (-1095216660481) 32 (0 : Int32)) (-4278190081) 24 (0 : Int32)) (-16711681) 16 (0 : Int32)) (-65281) 8 (0 : Int32)), .ref ra]) (h2 := h154x) (dc2 := 0) (ds2 := 0) 2 rfl ?_
  refine wq_inl (y2 := 34) (as := [.long (jput (jput (jput (jput (jput (0 : Int64) (-280375465082881) 40 (0 : Int32)) (-1095216660481) 32 (0 : Int32)) (-4278190081) 24 (0 : Int32)) (-16711681) 16 (0 : Int32)) (-65281) 8 (0 : Int32)), .int 5, .int 0]) rfl rfl rfl (wq_T (c_with5 (jput (jput (jput (jput (jput (0 : Int64) (-280375465082881) 40 (0 : Int32)) (-1095216660481) 32 (0 : Int32)) (-4278190081) 24 (0 : Int32)) (-16711681) 16 (0 : Int32)) (-65281) 8 (0 : Int32)) (0 : Int32) h154x) ?_)
  show wq 1 79 [(1, .int 5), (0, .ref ra)] [.long (jput (jput (jput (jput (jput (jput (0 : Int64) (-280375465082881) 40 (0 : Int32)) (-1095216660481) 32 (0 : Int32)) (-4278190081) 24 (0 : Int32)) (-16711681) 16 (0 : Int32)) (-65281) 8 (0 : Int32)) (-256) 0 (0 : Int32)), .ref ra] h154x 0 0 _
  refine wq_putf rfl e158x rfl rfl rfl ?_
  intro h159x e160x f161x l162x
  have e160x : zat h159x ra = some (.inr (.inr (.inr (0, [.int 9, .int 4, .int 10, .int 2, .int 0, .long (jput (jput (jput (jput (jput (jput (0 : Int64) (-280375465082881) 40 (0 : Int32)) (-1095216660481) 32 (0 : Int32)) (-4278190081) 24 (0 : Int32)) (-16711681) 16 (0 : Int32)) (-65281) 8 (0 : Int32)) (-256) 0 (0 : Int32)), .ref (ra + 2), .ref (ra + 4), .ref (ra + 6), .int sp9, .ref (ra + 8), .ref (ra + 10), .int so9, .ref (ra + 12)])))) := e160x
  refine wq_gos (f := 1) (pc2 := 90) (ls2 := [(1, .int 6), (0, .ref ra)]) (st2 := [.int 0, .ref ra]) (h2 := h159x) (dc2 := 0) (ds2 := 0) 7 rfl ?_
  refine wq_putf rfl e160x rfl rfl rfl ?_
  intro h163x e164x f165x l166x
  have e164x : zat h163x ra = some (.inr (.inr (.inr (0, [.int 9, .int 4, .int 10, .int 2, .int 0, .long (jput (jput (jput (jput (jput (jput (0 : Int64) (-280375465082881) 40 (0 : Int32)) (-1095216660481) 32 (0 : Int32)) (-4278190081) 24 (0 : Int32)) (-16711681) 16 (0 : Int32)) (-65281) 8 (0 : Int32)) (-256) 0 (0 : Int32)), .ref (ra + 2), .ref (ra + 4), .ref (ra + 6), .int 0, .ref (ra + 8), .ref (ra + 10), .int so9, .ref (ra + 12)])))) := e164x
  refine wq_gos (f := 1) (pc2 := 95) (ls2 := [(1, .int 6), (0, .ref ra)]) (st2 := [.int 0, .ref ra]) (h2 := h163x) (dc2 := 0) (ds2 := 0) 2 rfl ?_
  refine wq_putf rfl e164x rfl rfl rfl ?_
  intro h167x e168x f169x l170x
  have e168x : zat h167x ra = some (.inr (.inr (.inr (0, [.int 9, .int 4, .int 10, .int 2, .int 0, .long (jput (jput (jput (jput (jput (jput (0 : Int64) (-280375465082881) 40 (0 : Int32)) (-1095216660481) 32 (0 : Int32)) (-4278190081) 24 (0 : Int32)) (-16711681) 16 (0 : Int32)) (-65281) 8 (0 : Int32)) (-256) 0 (0 : Int32)), .ref (ra + 2), .ref (ra + 4), .ref (ra + 6), .int 0, .ref (ra + 8), .ref (ra + 10), .int 0, .ref (ra + 12)])))) := e168x
  have e171x := (f169x.2 _ _ (wnc (by omega) wn0) (f165x.2 _ _ (wnc (by omega) wn0) (f161x.2 _ _ (wnc (by omega) wn0) (f156x.2 _ _ (wnc (by omega) wn0) (f150x.2 _ _ (wnc (by omega) wn0) e143x)))))
  have e172x := (f169x.2 _ _ (wnc (by omega) wn0) (f165x.2 _ _ (wnc (by omega) wn0) (f161x.2 _ _ (wnc (by omega) wn0) (f156x.2 _ _ (wnc (by omega) wn0) e149x))))
  have e173x := (f169x.2 _ _ (wnc (by omega) wn0) (f165x.2 _ _ (wnc (by omega) wn0) (f161x.2 _ _ (wnc (by omega) wn0) e155x)))
  exact wq_ret rfl rfl ⟨h167x, rfl, (wFr_tr (wFr_sub f3x (by simp)) (wFr_tr (wFr_sub f7x (by simp)) (wFr_tr (wFr_sub f11x (by simp)) (wFr_tr (wFr_sub f15x (by simp)) (wFr_tr (wFr_sub f19x (by simp)) (wFr_tr (wFr_sub f23x (by simp)) (wFr_tr (wFr_sub f29x (by simp)) (wFr_tr (wFr_sub f35x (by simp)) (wFr_tr (wFr_sub f41x (by simp)) (wFr_tr (wFr_sub f46x (by simp)) (wFr_tr (wFr_sub f52x (by simp)) (wFr_tr (wFr_sub f58x (by simp)) (wFr_tr (wFr_sub f64x (by simp)) (wFr_tr (wFr_sub f69x (by simp)) (wFr_tr (wFr_sub f75x (by simp)) (wFr_tr (wFr_sub f81x (by simp)) (wFr_tr (wFr_sub f87x (by simp)) (wFr_tr (wFr_sub f92x (by simp)) (wFr_tr (wFr_sub f98x (by simp)) (wFr_tr (wFr_sub f104x (by simp)) (wFr_tr (wFr_sub f110x (by simp)) (wFr_tr (wFr_sub f115x (by simp)) (wFr_tr (wFr_sub f121x (by simp)) (wFr_tr (wFr_sub f127x (by simp)) (wFr_tr (wFr_sub f133x (by simp)) (wFr_tr (wFr_sub f138x (by simp)) (wFr_tr (wFr_sub f144x (by simp)) (wFr_tr (wFr_sub f150x (by simp)) (wFr_tr (wFr_sub f156x (by simp)) (wFr_tr (wFr_sub f161x (by simp)) (wFr_tr (wFr_sub f165x (by simp)) (wFr_sub f169x (by simp))))))))))))))))))))))))))))))))), (by omega), (by rw [show (.inr (.inr (.inr (0, [.int 9, .int 4, .int 10, .int 2, .int 0, .long fgRt, .ref (ra + 2), .ref (ra + 4), .ref (ra + 6), .int 0, .ref (ra + 8), .ref (ra + 10), .int 0, .ref (ra + 12)]))) : zE) = .inr (.inr (.inr (0, [.int 9, .int 4, .int 10, .int 2, .int 0, .long (jput (jput (jput (jput (jput (jput (0 : Int64) (-280375465082881) 40 (0 : Int32)) (-1095216660481) 32 (0 : Int32)) (-4278190081) 24 (0 : Int32)) (-16711681) 16 (0 : Int32)) (-65281) 8 (0 : Int32)) (-256) 0 (0 : Int32)), .ref (ra + 2), .ref (ra + 4), .ref (ra + 6), .int 0, .ref (ra + 8), .ref (ra + 10), .int 0, .ref (ra + 12)]))) from rfl]; exact e168x), (by rw [show (.inl (0, 6, (fgL ll)) : zE) = .inl (0, 6, (zset 0 (zset 0 (zset 0 (zset 0 (zset 0 (zset 0 ll 0 (0 : Int32)) 1 (-32 : Int32)) 2 (-32 : Int32)) 3 (-32 : Int32)) 4 (-32 : Int32)) 5 (-64 : Int32))) from rfl]; exact e171x), (by rw [show (.inl (0, 6, (fgG lg)) : zE) = .inl (0, 6, (zset 0 (zset 0 (zset 0 (zset 0 (zset 0 (zset 0 lg 0 (99 : Int32)) 1 (31 : Int32)) 2 (31 : Int32)) 3 (31 : Int32)) 4 (31 : Int32)) 5 (63 : Int32))) from rfl]; exact e172x), (by rw [show (.inl (0, 6, (fgV sv)) : zE) = .inl (0, 6, (zset 0 (zset 0 (zset 0 (zset 0 (zset 0 (zset 0 sv 0 (4 : Int32)) 1 (4 : Int32)) 2 (4 : Int32)) 3 (4 : Int32)) 4 (4 : Int32)) 5 (4 : Int32))) from rfl]; exact e173x)⟩
theorem zset6 (a0 a1 a2 a3 a4 a5 : Int32) (l : List Int32) (j : Nat) (hj : j < 6) : (zset 0 (zset 0 (zset 0 (zset 0 (zset 0 (zset 0 l 0 a0) 1 a1) 2 a2) 3 a3) 4 a4) 5 a5).getD j 0 = [a0, a1, a2, a3, a4, a5].getD j 0 := by
  rw [zset_get, zset_get, zset_get, zset_get, zset_get, zset_get]
  rcases j with _ | _ | _ | _ | _ | _ | j
  all_goals first | rfl | omega
theorem fg_lim (ll lg : List Int32) : wLm (fgL ll) (fgG lg) := by
  intro j hj
  unfold fgL fgG
  rw [zset6 _ _ _ _ _ _ _ _ hj, zset6 _ _ _ _ _ _ _ _ hj]
  have : ∀ j, j < 6 → (zLow.getD j 0).toInt ≤ (([0, -32, -32, -32, -32, -64] : List Int32).getD j 0).toInt ∧ (([0, -32, -32, -32, -32, -64] : List Int32).getD j 0).toInt ≤ (([99, 31, 31, 31, 31, 63] : List Int32).getD j 0).toInt ∧ (([99, 31, 31, 31, 31, 63] : List Int32).getD j 0).toInt ≤ (zHigh.getD j 0).toInt := by decide
  exact this j hj
theorem fg_spd (sv : List Int32) : wSpd (fgV sv) := by
  intro j hj
  unfold fgV
  rw [zset6 _ _ _ _ _ _ _ _ hj]
  have : ∀ j, j < 6 → 1 ≤ (([4, 4, 4, 4, 4, 4] : List Int32).getD j 0).toInt ∧ (([4, 4, 4, 4, 4, 4] : List Int32).getD j 0).toInt ≤ 32 := by decide
  exact this j hj
theorem fg_scl : wScl 9 4 10 2 0 := by unfold wScl; decide
theorem fg_way (wy : List Int32) : wWay wy 0 0 := ⟨by decide, fun i hi => absurd hi (Nat.not_lt_zero i)⟩
theorem jmin_le {n : Nat} (h : n ≤ 700) : jmin (nI n) (700 : Int32) = nI n := by
  unfold jmin
  have q := nI_toInt (n := n) (by omega)
  have q2 : (700 : Int32).toInt = 700 := rfl
  by_cases q3 : (700 : Int32).toInt < (nI n).toInt
  · omega
  · rw [if_neg q3]
set_option maxRecDepth 100000 in
set_option maxHeartbeats 4000000 in
theorem c_rbg {h : zH} {wr9 wa9 ln9 nx9 kd sta va tld9 : Int32} {b9 a9 : Value} {ra ln : Nat} {lk hd ht bl sd sp9 so9 : Int32} {rt : Int64} {ll lg sv : List Int32} {tb : List Int32} (hR : zat h 4 = some (.inr (.inr (.inr (4, [.int wr9, .int wa9, b9, .int ln9, .int nx9, .int kd, .int sta, .int va, .int tld9, a9]))))) (hT : zat h 2 = some (.inl (1, 700, tb))) (hA : zat h ra = some (.inr (.inr (.inr (0, [.int lk, .int hd, .int ht, .int bl, .int sd, .long rt, .ref (ra + 2), .ref (ra + 4), .ref (ra + 6), .int sp9, .ref (ra + 8), .ref (ra + 10), .int so9, .ref (ra + 12)]))))) (hL : zat h (ra + 2) = some (.inl (0, 6, ll))) (hG : zat h (ra + 4) = some (.inl (0, 6, lg))) (hV : zat h (ra + 6) = some (.inl (0, 6, sv))) (hra : ra = 6 ∨ ra = 20) (hln : ln ≤ 700) : wq 43 0 [(0, .ref 4), (1, .ref 2), (2, .int (nI ln)), (3, .ref ra)] [] h 0 0 (fun rr9 => ∃ (h2 : zH), rr9 = (none, h2, 0, 0) ∧ wFr [4, ra, (ra + 2), (ra + 4), (ra + 6)] h h2 ∧ h2.length = h.length ∧ zat h2 4 = some (.inr (.inr (.inr (4, [.int 0, .int (-1), .ref 2, .int (nI ln), .int 0, .int kd, .int sta, .int va, .int 0, .ref ra])))) ∧ zat h2 ra = some (.inr (.inr (.inr (0, [.int 9, .int 4, .int 10, .int 2, .int 0, .long fgRt, .ref (ra + 2), .ref (ra + 4), .ref (ra + 6), .int 0, .ref (ra + 8), .ref (ra + 10), .int 0, .ref (ra + 12)])))) ∧ zat h2 (ra + 2) = some (.inl (0, 6, (fgL ll))) ∧ zat h2 (ra + 4) = some (.inl (0, 6, (fgG lg))) ∧ zat h2 (ra + 6) = some (.inl (0, 6, (fgV sv)))) := by
  refine wq_gos (f := 1) (pc2 := 2) (ls2 := [(0, .ref 4), (1, .ref 2), (2, .int (nI ln)), (3, .ref ra)]) (st2 := [.ref 2, .ref 4]) (h2 := h) (dc2 := 0) (ds2 := 0) 2 rfl ?_
  refine wq_putf rfl hR rfl rfl rfl ?_
  intro h1x e2x f3x l4x
  have e2x : zat h1x 4 = some (.inr (.inr (.inr (4, [.int wr9, .int wa9, .ref 2, .int ln9, .int nx9, .int kd, .int sta, .int va, .int tld9, a9])))) := e2x
  refine wq_gos (f := 1) (pc2 := 8) (ls2 := [(0, .ref 4), (1, .ref 2), (2, .int (nI ln)), (3, .ref ra)]) (st2 := [.ref 2, .int (nI ln), .ref 4]) (h2 := h1x) (dc2 := 0) (ds2 := 0) 3 rfl ?_
  have e5x := (f3x.2 _ _ (wnc (by decide) wn0) hT)
  refine wq_alenb rfl e5x rfl ?_
  refine wq_inl (y2 := 285) (as := [.int (nI ln), .int 700]) rfl rfl rfl (wq_T (c_min (nI ln) (700 : Int32) h1x) ?_)
  show wq 43 12 [(0, .ref 4), (1, .ref 2), (2, .int (nI ln)), (3, .ref ra)] [.int (jmin (nI ln) (700 : Int32)), .ref 4] h1x 0 0 _
  refine wq_vi (jmin_le (by omega)) ?_
  refine wq_putf rfl e2x rfl rfl rfl ?_
  intro h6x e7x f8x l9x
  have e7x : zat h6x 4 = some (.inr (.inr (.inr (4, [.int wr9, .int wa9, .ref 2, .int (nI ln), .int nx9, .int kd, .int sta, .int va, .int tld9, a9])))) := e7x
  refine wq_gos (f := 1) (pc2 := 17) (ls2 := [(0, .ref 4), (1, .ref 2), (2, .int (nI ln)), (3, .ref ra)]) (st2 := [.int 0, .ref 4]) (h2 := h6x) (dc2 := 0) (ds2 := 0) 2 rfl ?_
  refine wq_putf rfl e7x rfl rfl rfl ?_
  intro h10x e11x f12x l13x
  have e11x : zat h10x 4 = some (.inr (.inr (.inr (4, [.int wr9, .int wa9, .ref 2, .int (nI ln), .int 0, .int kd, .int sta, .int va, .int tld9, a9])))) := e11x
  refine wq_gos (f := 1) (pc2 := 22) (ls2 := [(0, .ref 4), (1, .ref 2), (2, .int (nI ln)), (3, .ref ra)]) (st2 := [.int 0, .ref 4]) (h2 := h10x) (dc2 := 0) (ds2 := 0) 2 rfl ?_
  refine wq_putf rfl e11x rfl rfl rfl ?_
  intro h14x e15x f16x l17x
  have e15x : zat h14x 4 = some (.inr (.inr (.inr (4, [.int wr9, .int wa9, .ref 2, .int (nI ln), .int 0, .int kd, .int sta, .int va, .int 0, a9])))) := e15x
  refine wq_gos (f := 1) (pc2 := 27) (ls2 := [(0, .ref 4), (1, .ref 2), (2, .int (nI ln)), (3, .ref ra)]) (st2 := [.int 0, .ref 4]) (h2 := h14x) (dc2 := 0) (ds2 := 0) 2 rfl ?_
  refine wq_putf rfl e15x rfl rfl rfl ?_
  intro h18x e19x f20x l21x
  have e19x : zat h18x 4 = some (.inr (.inr (.inr (4, [.int 0, .int wa9, .ref 2, .int (nI ln), .int 0, .int kd, .int sta, .int va, .int 0, a9])))) := e19x
  refine wq_gos (f := 1) (pc2 := 32) (ls2 := [(0, .ref 4), (1, .ref 2), (2, .int (nI ln)), (3, .ref ra)]) (st2 := [.int (-1), .ref 4]) (h2 := h18x) (dc2 := 0) (ds2 := 0) 2 rfl ?_
  refine wq_putf rfl e19x rfl rfl rfl ?_
  intro h22x e23x f24x l25x
  have e23x : zat h22x 4 = some (.inr (.inr (.inr (4, [.int 0, .int (-1), .ref 2, .int (nI ln), .int 0, .int kd, .int sta, .int va, .int 0, a9])))) := e23x
  refine wq_gos (f := 1) (pc2 := 37) (ls2 := [(0, .ref 4), (1, .ref 2), (2, .int (nI ln)), (3, .ref ra)]) (st2 := [.ref ra, .ref 4]) (h2 := h22x) (dc2 := 0) (ds2 := 0) 2 rfl ?_
  refine wq_putf rfl e23x rfl rfl rfl ?_
  intro h26x e27x f28x l29x
  have e27x : zat h26x 4 = some (.inr (.inr (.inr (4, [.int 0, .int (-1), .ref 2, .int (nI ln), .int 0, .int kd, .int sta, .int va, .int 0, .ref ra])))) := e27x
  refine wq_gos (f := 1) (pc2 := 41) (ls2 := [(0, .ref 4), (1, .ref 2), (2, .int (nI ln)), (3, .ref ra)]) (st2 := [.ref 4]) (h2 := h26x) (dc2 := 0) (ds2 := 0) 1 rfl ?_
  refine wq_getf rfl e27x rfl rfl ?_
  have e30x := (f28x.2 _ _ (wnc (by omega) wn0) (f24x.2 _ _ (wnc (by omega) wn0) (f20x.2 _ _ (wnc (by omega) wn0) (f16x.2 _ _ (wnc (by omega) wn0) (f12x.2 _ _ (wnc (by omega) wn0) (f8x.2 _ _ (wnc (by omega) wn0) (f3x.2 _ _ (wnc (by omega) wn0) hA)))))))
  have e31x := (f28x.2 _ _ (wnc (by omega) wn0) (f24x.2 _ _ (wnc (by omega) wn0) (f20x.2 _ _ (wnc (by omega) wn0) (f16x.2 _ _ (wnc (by omega) wn0) (f12x.2 _ _ (wnc (by omega) wn0) (f8x.2 _ _ (wnc (by omega) wn0) (f3x.2 _ _ (wnc (by omega) wn0) hL)))))))
  have e32x := (f28x.2 _ _ (wnc (by omega) wn0) (f24x.2 _ _ (wnc (by omega) wn0) (f20x.2 _ _ (wnc (by omega) wn0) (f16x.2 _ _ (wnc (by omega) wn0) (f12x.2 _ _ (wnc (by omega) wn0) (f8x.2 _ _ (wnc (by omega) wn0) (f3x.2 _ _ (wnc (by omega) wn0) hG)))))))
  have e33x := (f28x.2 _ _ (wnc (by omega) wn0) (f24x.2 _ _ (wnc (by omega) wn0) (f20x.2 _ _ (wnc (by omega) wn0) (f16x.2 _ _ (wnc (by omega) wn0) (f12x.2 _ _ (wnc (by omega) wn0) (f8x.2 _ _ (wnc (by omega) wn0) (f3x.2 _ _ (wnc (by omega) wn0) hV)))))))
  refine wq_inlv (y2 := 1) (as := []) rfl rfl rfl e30x rfl (wq_mono (c_fgt e30x e31x e32x e33x (by first | omega | assumption | decide | solve_by_elim)) ?_)
  rintro _ ⟨h834x, rfl, f834x, l834x, c034x, c134x, c234x, c334x⟩
  show wq 43 47 [(0, .ref 4), (1, .ref 2), (2, .int (nI ln)), (3, .ref ra)] [] h834x 0 0 _
  have e35x := (f834x.2 _ _ (wnc (by omega) (wnc (by omega) (wnc (by omega) (wnc (by omega) wn0)))) e27x)
  exact wq_ret rfl rfl ⟨h834x, rfl, (wFr_tr (wFr_sub f3x (by simp)) (wFr_tr (wFr_sub f8x (by simp)) (wFr_tr (wFr_sub f12x (by simp)) (wFr_tr (wFr_sub f16x (by simp)) (wFr_tr (wFr_sub f20x (by simp)) (wFr_tr (wFr_sub f24x (by simp)) (wFr_tr (wFr_sub f28x (by simp)) (wFr_sub f834x (by simp))))))))), (by omega), e35x, c034x, c134x, c234x, c334x⟩
noncomputable def stG (tb : List Int32) (ln nx : Nat) (kd sta va : Int32) : Int32 × Nat × Int32 × Int32 × Int32 := (zlet (adG tb ln nx kd sta va) (fun v2x => (if (v2x.2.1) = (0 : Int32) then ((0 : Int32), (v2x.1), (v2x.2.1), (v2x.2.2.1), (v2x.2.2.2)) else ((1 : Int32), (v2x.1), (v2x.2.1), (v2x.2.2.1), (v2x.2.2.2)))))
set_option maxRecDepth 100000 in
set_option maxHeartbeats 4000000 in
theorem c_stl {h : zH} {ln nx rd : Nat} {wr wa kd sta va tld : Int32} {tb : List Int32} (hR : zat h 4 = some (.inr (.inr (.inr (4, [.int wr, .int wa, .ref 2, .int (nI ln), .int (nI nx), .int kd, .int sta, .int va, .int tld, .ref rd]))))) (hT : zat h 2 = some (.inl (1, 700, tb))) (hln : ln ≤ 700) (hn : nx ≤ ln) : wq 44 0 [(0, .ref 4)] [] h 0 0 (fun rr9 => ∃ (h2 : zH), rr9 = (some (.int ((stG tb ln nx kd sta va).1)), h2, 0, 0) ∧ wFr [4] h h2 ∧ h2.length = h.length ∧ zat h2 4 = some (.inr (.inr (.inr (4, [.int wr, .int wa, .ref 2, .int (nI ln), .int (nI ((stG tb ln nx kd sta va).2.1)), .int ((stG tb ln nx kd sta va).2.2.1), .int ((stG tb ln nx kd sta va).2.2.2.1), .int ((stG tb ln nx kd sta va).2.2.2.2), .int tld, .ref rd])))) ∧ ((((stG tb ln nx kd sta va).2.1) ≤ ln))) := by
  have z0 : (0 : Int32).toInt = 0 := rfl
  have z1 : (1 : Int32).toInt = 1 := rfl
  refine wq_gos (f := 1) (pc2 := 1) (ls2 := [(0, .ref 4)]) (st2 := [.ref 4]) (h2 := h) (dc2 := 0) (ds2 := 0) 1 rfl ?_
  refine wq_inlv (y2 := 58) (as := []) rfl rfl rfl hR rfl (wq_mono (c_adv hR hT (by first | omega | assumption | decide | solve_by_elim) (by first | omega | assumption | decide | solve_by_elim)) ?_)
  rintro _ ⟨h81x, rfl, f81x, l81x, c01x, p01x⟩
  show wq 44 4 [(0, .ref 4)] [] h81x 0 0 _
  obtain ⟨v2x, hv3x⟩ : ∃ x, x = (adG tb ln nx kd sta va) := ⟨_, rfl⟩
  try rw [← hv3x] at c01x
  try rw [← hv3x] at p01x
  try rw [← hv3x]
  refine wq_gos (f := 1) (pc2 := 5) (ls2 := [(0, .ref 4)]) (st2 := [.ref 4]) (h2 := h81x) (dc2 := 0) (ds2 := 0) 1 rfl ?_
  refine wq_getf rfl c01x rfl rfl ?_
  refine wq_eq0 rfl rfl (fun b4x => ?_) (fun b4x => ?_)
  · have q5x : (v2x.2.1).toInt = 0 := congrArg Int32.toInt b4x
    refine wq_gos (f := 1) (pc2 := 16) (ls2 := [(0, .ref 4)]) (st2 := [.int 0]) (h2 := h81x) (dc2 := 0) (ds2 := 0) 1 rfl ?_
    have hx : (stG tb ln nx kd sta va) = ((0 : Int32), (v2x.1), (v2x.2.1), (v2x.2.2.1), (v2x.2.2.2)) := by unfold stG; rw [zlet_eq hv3x, if_pos b4x]
    rw [hx]
    exact wq_ret rfl rfl ⟨h81x, rfl, (wFr_sub f81x (by simp)), by omega, c01x, (by first | ((try dsimp only); omega) | assumption)⟩
  · have q6x : (v2x.2.1).toInt ≠ 0 := fun q => b4x (Int32.toInt_inj.mp q)
    refine wq_gos (f := 1) (pc2 := 16) (ls2 := [(0, .ref 4)]) (st2 := [.int 1]) (h2 := h81x) (dc2 := 0) (ds2 := 0) 2 rfl ?_
    have hx : (stG tb ln nx kd sta va) = ((1 : Int32), (v2x.1), (v2x.2.1), (v2x.2.2.1), (v2x.2.2.2)) := by unfold stG; rw [zlet_eq hv3x, if_neg b4x]
    rw [hx]
    exact wq_ret rfl rfl ⟨h81x, rfl, (wFr_sub f81x (by simp)), by omega, c01x, (by first | ((try dsimp only); omega) | assumption)⟩
noncomputable def txF (tb : List Int32) (ln : Nat) : Nat → Nat → Int32 → Int32 → Nat → Int32 → Int32 → Int32 → Int32 → Int32 → Int32 → Int32 → Int32 → Int32 → Int64 → List Int32 → List Int32 → List Int32 → Nat → List Int32 → List Int64 → Nat → List Int32 → Nat × Int32 × Nat × Int32 × Int32 × Nat × Int32 × Int32 × Int32 × Int32 × Int32 × Int32 × Int32 × Int32 × Int32 × Int64 × List Int32 × List Int32 × List Int32 × Nat × List Int32 × List Int64 × Nat × List Int32
  | 0, l, wr, wa, nx, kd, sta, va, tld, lk, hd, ht, bl, sd, rt, ll, lg, sv, sp, nm, po, so, wy => (0, 0, l, wr, wa, nx, kd, sta, va, tld, lk, hd, ht, bl, sd, rt, ll, lg, sv, sp, nm, po, so, wy)
  | m + 1, l, wr, wa, nx, kd, sta, va, tld, lk, hd, ht, bl, sd, rt, ll, lg, sv, sp, nm, po, so, wy => (if (nI ln).toInt < (nI l).toInt then (0, 0, l, wr, wa, nx, kd, sta, va, tld, lk, hd, ht, bl, sd, rt, ll, lg, sv, sp, nm, po, so, wy) else (zlet (stG tb ln nx kd sta va) (fun v5x => (if (v5x.1) = (0 : Int32) then (0, 0, l, wr, wa, (v5x.2.1), (v5x.2.2.1), (v5x.2.2.2.1), (v5x.2.2.2.2), tld, lk, hd, ht, bl, sd, rt, ll, lg, sv, sp, nm, po, so, wy) else (zlet (liG tb ln wr wa (v5x.2.1) (v5x.2.2.1) (v5x.2.2.2.1) (v5x.2.2.2.2) tld lk hd ht bl sd rt ll lg sv sp nm po so wy) (fun v27x => (if (v27x.1) ≠ (0 : Int32) then (txF tb ln m (l + 1) (v27x.2.1) (v27x.2.2.1) (v27x.2.2.2.1) (v27x.2.2.2.2.1) (v27x.2.2.2.2.2.1) (v27x.2.2.2.2.2.2.1) (v27x.2.2.2.2.2.2.2.1) (v27x.2.2.2.2.2.2.2.2.1) (v27x.2.2.2.2.2.2.2.2.2.1) (v27x.2.2.2.2.2.2.2.2.2.2.1) (v27x.2.2.2.2.2.2.2.2.2.2.2.1) (v27x.2.2.2.2.2.2.2.2.2.2.2.2.1) (v27x.2.2.2.2.2.2.2.2.2.2.2.2.2.1) (v27x.2.2.2.2.2.2.2.2.2.2.2.2.2.2.1) (v27x.2.2.2.2.2.2.2.2.2.2.2.2.2.2.2.1) (v27x.2.2.2.2.2.2.2.2.2.2.2.2.2.2.2.2.1) (v27x.2.2.2.2.2.2.2.2.2.2.2.2.2.2.2.2.2.1) (v27x.2.2.2.2.2.2.2.2.2.2.2.2.2.2.2.2.2.2.1) (v27x.2.2.2.2.2.2.2.2.2.2.2.2.2.2.2.2.2.2.2.1) (v27x.2.2.2.2.2.2.2.2.2.2.2.2.2.2.2.2.2.2.2.2.1) (v27x.2.2.2.2.2.2.2.2.2.2.2.2.2.2.2.2.2.2.2.2.2)) else (1, (-1 : Int32), l, (v27x.2.1), (v27x.2.2.1), (v27x.2.2.2.1), (v27x.2.2.2.2.1), (v27x.2.2.2.2.2.1), (v27x.2.2.2.2.2.2.1), (v27x.2.2.2.2.2.2.2.1), (v27x.2.2.2.2.2.2.2.2.1), (v27x.2.2.2.2.2.2.2.2.2.1), (v27x.2.2.2.2.2.2.2.2.2.2.1), (v27x.2.2.2.2.2.2.2.2.2.2.2.1), (v27x.2.2.2.2.2.2.2.2.2.2.2.2.1), (v27x.2.2.2.2.2.2.2.2.2.2.2.2.2.1), (v27x.2.2.2.2.2.2.2.2.2.2.2.2.2.2.1), (v27x.2.2.2.2.2.2.2.2.2.2.2.2.2.2.2.1), (v27x.2.2.2.2.2.2.2.2.2.2.2.2.2.2.2.2.1), (v27x.2.2.2.2.2.2.2.2.2.2.2.2.2.2.2.2.2.1), (v27x.2.2.2.2.2.2.2.2.2.2.2.2.2.2.2.2.2.2.1), (v27x.2.2.2.2.2.2.2.2.2.2.2.2.2.2.2.2.2.2.2.1), (v27x.2.2.2.2.2.2.2.2.2.2.2.2.2.2.2.2.2.2.2.2.1), (v27x.2.2.2.2.2.2.2.2.2.2.2.2.2.2.2.2.2.2.2.2.2)))))))))
set_option maxRecDepth 100000 in
set_option maxHeartbeats 4000000 in
theorem c_txL {t ra rd ln : Nat} {ps ip : Int64} {im : Int32} {tb : List Int32} (hln : ln ≤ 700) (hrd : rd = 6 ∨ rd = 20) {dc ds : Nat} {Q : zR → Prop} : ∀ (m : Nat) (l : Nat) (wr : Int32) (wa : Int32) (nx : Nat) (kd : Int32) (sta : Int32) (va : Int32) (tld : Int32) (lk : Int32) (hd : Int32) (ht : Int32) (bl : Int32) (sd : Int32) (rt : Int64) (ll : List Int32) (lg : List Int32) (sv : List Int32) (sp : Nat) (nm : List Int32) (po : List Int64) (so : Nat) (wy : List Int32) (h : zH) , (zat h 0 = some (.inr (.inr (.inr (9, [.ref 2, .int (nI t), .ref 4, .ref ra, .ref rd, .long ps, .ref 34, .ref 36, .int im, .long ip, .ref 42, .ref 44, .ref 60, .ref 66, .ref 72, .ref 74, .ref 150, .ref 158]))))) → (zat h 4 = some (.inr (.inr (.inr (4, [.int wr, .int wa, .ref 2, .int (nI ln), .int (nI nx), .int kd, .int sta, .int va, .int tld, .ref rd]))))) → (zat h 2 = some (.inl (1, 700, tb))) → (zat h rd = some (.inr (.inr (.inr (0, [.int lk, .int hd, .int ht, .int bl, .int sd, .long rt, .ref (rd + 2), .ref (rd + 4), .ref (rd + 6), .int (nI sp), .ref (rd + 8), .ref (rd + 10), .int (nI so), .ref (rd + 12)]))))) → (zat h (rd + 2) = some (.inl (0, 6, ll))) → (zat h (rd + 4) = some (.inl (0, 6, lg))) → (zat h (rd + 6) = some (.inl (0, 6, sv))) → (zat h (rd + 8) = some (.inl (0, 8, nm))) → (zat h (rd + 10) = some (.inr (.inl (8, po)))) → (zat h (rd + 12) = some (.inl (0, 10, wy))) → (nx ≤ ln ∧ l ≤ ln + 1) → (wScl lk hd ht bl sd) → (wLm ll lg) → (wSpd sv) → (sp ≤ 8) → (wWay wy sp so) → (ln + 2 - l) < m → (∀ (h2 : zH) , (wFr [4, rd, (rd + 2), (rd + 4), (rd + 6), (rd + 8), (rd + 10), (rd + 12)] h h2) → (h2.length = h.length) → (zat h2 4 = some (.inr (.inr (.inr (4, [.int ((txF tb ln m l wr wa nx kd sta va tld lk hd ht bl sd rt ll lg sv sp nm po so wy).2.2.2.1), .int ((txF tb ln m l wr wa nx kd sta va tld lk hd ht bl sd rt ll lg sv sp nm po so wy).2.2.2.2.1), .ref 2, .int (nI ln), .int (nI ((txF tb ln m l wr wa nx kd sta va tld lk hd ht bl sd rt ll lg sv sp nm po so wy).2.2.2.2.2.1)), .int ((txF tb ln m l wr wa nx kd sta va tld lk hd ht bl sd rt ll lg sv sp nm po so wy).2.2.2.2.2.2.1), .int ((txF tb ln m l wr wa nx kd sta va tld lk hd ht bl sd rt ll lg sv sp nm po so wy).2.2.2.2.2.2.2.1), .int ((txF tb ln m l wr wa nx kd sta va tld lk hd ht bl sd rt ll lg sv sp nm po so wy).2.2.2.2.2.2.2.2.1), .int ((txF tb ln m l wr wa nx kd sta va tld lk hd ht bl sd rt ll lg sv sp nm po so wy).2.2.2.2.2.2.2.2.2.1), .ref rd]))))) → (zat h2 rd = some (.inr (.inr (.inr (0, [.int ((txF tb ln m l wr wa nx kd sta va tld lk hd ht bl sd rt ll lg sv sp nm po so wy).2.2.2.2.2.2.2.2.2.2.1), .int ((txF tb ln m l wr wa nx kd sta va tld lk hd ht bl sd rt ll lg sv sp nm po so wy).2.2.2.2.2.2.2.2.2.2.2.1), .int ((txF tb ln m l wr wa nx kd sta va tld lk hd ht bl sd rt ll lg sv sp nm po so wy).2.2.2.2.2.2.2.2.2.2.2.2.1), .int ((txF tb ln m l wr wa nx kd sta va tld lk hd ht bl sd rt ll lg sv sp nm po so wy).2.2.2.2.2.2.2.2.2.2.2.2.2.1), .int ((txF tb ln m l wr wa nx kd sta va tld lk hd ht bl sd rt ll lg sv sp nm po so wy).2.2.2.2.2.2.2.2.2.2.2.2.2.2.1), .long ((txF tb ln m l wr wa nx kd sta va tld lk hd ht bl sd rt ll lg sv sp nm po so wy).2.2.2.2.2.2.2.2.2.2.2.2.2.2.2.1), .ref (rd + 2), .ref (rd + 4), .ref (rd + 6), .int (nI ((txF tb ln m l wr wa nx kd sta va tld lk hd ht bl sd rt ll lg sv sp nm po so wy).2.2.2.2.2.2.2.2.2.2.2.2.2.2.2.2.2.2.2.1)), .ref (rd + 8), .ref (rd + 10), .int (nI ((txF tb ln m l wr wa nx kd sta va tld lk hd ht bl sd rt ll lg sv sp nm po so wy).2.2.2.2.2.2.2.2.2.2.2.2.2.2.2.2.2.2.2.2.2.2.1)), .ref (rd + 12)]))))) → (zat h2 (rd + 2) = some (.inl (0, 6, ((txF tb ln m l wr wa nx kd sta va tld lk hd ht bl sd rt ll lg sv sp nm po so wy).2.2.2.2.2.2.2.2.2.2.2.2.2.2.2.2.1)))) → (zat h2 (rd + 4) = some (.inl (0, 6, ((txF tb ln m l wr wa nx kd sta va tld lk hd ht bl sd rt ll lg sv sp nm po so wy).2.2.2.2.2.2.2.2.2.2.2.2.2.2.2.2.2.1)))) → (zat h2 (rd + 6) = some (.inl (0, 6, ((txF tb ln m l wr wa nx kd sta va tld lk hd ht bl sd rt ll lg sv sp nm po so wy).2.2.2.2.2.2.2.2.2.2.2.2.2.2.2.2.2.2.1)))) → (zat h2 (rd + 8) = some (.inl (0, 8, ((txF tb ln m l wr wa nx kd sta va tld lk hd ht bl sd rt ll lg sv sp nm po so wy).2.2.2.2.2.2.2.2.2.2.2.2.2.2.2.2.2.2.2.2.1)))) → (zat h2 (rd + 10) = some (.inr (.inl (8, ((txF tb ln m l wr wa nx kd sta va tld lk hd ht bl sd rt ll lg sv sp nm po so wy).2.2.2.2.2.2.2.2.2.2.2.2.2.2.2.2.2.2.2.2.2.1))))) → (zat h2 (rd + 12) = some (.inl (0, 10, ((txF tb ln m l wr wa nx kd sta va tld lk hd ht bl sd rt ll lg sv sp nm po so wy).2.2.2.2.2.2.2.2.2.2.2.2.2.2.2.2.2.2.2.2.2.2.2)))) → ((((txF tb ln m l wr wa nx kd sta va tld lk hd ht bl sd rt ll lg sv sp nm po so wy).2.2.2.2.2.1) ≤ ln)) → ((((txF tb ln m l wr wa nx kd sta va tld lk hd ht bl sd rt ll lg sv sp nm po so wy).1) = 0 → wScl (((txF tb ln m l wr wa nx kd sta va tld lk hd ht bl sd rt ll lg sv sp nm po so wy).2.2.2.2.2.2.2.2.2.2.1)) (((txF tb ln m l wr wa nx kd sta va tld lk hd ht bl sd rt ll lg sv sp nm po so wy).2.2.2.2.2.2.2.2.2.2.2.1)) (((txF tb ln m l wr wa nx kd sta va tld lk hd ht bl sd rt ll lg sv sp nm po so wy).2.2.2.2.2.2.2.2.2.2.2.2.1)) (((txF tb ln m l wr wa nx kd sta va tld lk hd ht bl sd rt ll lg sv sp nm po so wy).2.2.2.2.2.2.2.2.2.2.2.2.2.1)) (((txF tb ln m l wr wa nx kd sta va tld lk hd ht bl sd rt ll lg sv sp nm po so wy).2.2.2.2.2.2.2.2.2.2.2.2.2.2.1)))) → ((((txF tb ln m l wr wa nx kd sta va tld lk hd ht bl sd rt ll lg sv sp nm po so wy).1) = 0 → wLm (((txF tb ln m l wr wa nx kd sta va tld lk hd ht bl sd rt ll lg sv sp nm po so wy).2.2.2.2.2.2.2.2.2.2.2.2.2.2.2.2.1)) (((txF tb ln m l wr wa nx kd sta va tld lk hd ht bl sd rt ll lg sv sp nm po so wy).2.2.2.2.2.2.2.2.2.2.2.2.2.2.2.2.2.1)))) → ((((txF tb ln m l wr wa nx kd sta va tld lk hd ht bl sd rt ll lg sv sp nm po so wy).1) = 0 → wSpd (((txF tb ln m l wr wa nx kd sta va tld lk hd ht bl sd rt ll lg sv sp nm po so wy).2.2.2.2.2.2.2.2.2.2.2.2.2.2.2.2.2.2.1)))) → ((((txF tb ln m l wr wa nx kd sta va tld lk hd ht bl sd rt ll lg sv sp nm po so wy).1) = 0 → (((txF tb ln m l wr wa nx kd sta va tld lk hd ht bl sd rt ll lg sv sp nm po so wy).2.2.2.2.2.2.2.2.2.2.2.2.2.2.2.2.2.2.2.1)) ≤ 8)) → ((((txF tb ln m l wr wa nx kd sta va tld lk hd ht bl sd rt ll lg sv sp nm po so wy).1) = 0 → wWay (((txF tb ln m l wr wa nx kd sta va tld lk hd ht bl sd rt ll lg sv sp nm po so wy).2.2.2.2.2.2.2.2.2.2.2.2.2.2.2.2.2.2.2.2.2.2.2)) (((txF tb ln m l wr wa nx kd sta va tld lk hd ht bl sd rt ll lg sv sp nm po so wy).2.2.2.2.2.2.2.2.2.2.2.2.2.2.2.2.2.2.2.1)) (((txF tb ln m l wr wa nx kd sta va tld lk hd ht bl sd rt ll lg sv sp nm po so wy).2.2.2.2.2.2.2.2.2.2.2.2.2.2.2.2.2.2.2.2.2.2.1)))) → ((txF tb ln m l wr wa nx kd sta va tld lk hd ht bl sd rt ll lg sv sp nm po so wy).1 = 0 → wq 102 71 [(0, .ref 0), (2, .int (nI ((txF tb ln m l wr wa nx kd sta va tld lk hd ht bl sd rt ll lg sv sp nm po so wy).2.2.1)))] [] h2 dc ds Q) ∧ ((txF tb ln m l wr wa nx kd sta va tld lk hd ht bl sd rt ll lg sv sp nm po so wy).1 ≠ 0 → Q (some (Value.int ((txF tb ln m l wr wa nx kd sta va tld lk hd ht bl sd rt ll lg sv sp nm po so wy).2.1)), h2, dc, ds))) → wq 102 38 [(0, .ref 0), (1, .int (nI ln)), (2, .int (nI l))] [] h dc ds Q := by
  intro m
  induction m with
  | zero => intro l wr wa nx kd sta va tld lk hd ht bl sd rt ll lg sv sp nm po so wy h hX hR hT hA hL hG hV hN hQ hW hk hS0 hS1 hS2 hS3 hS4 hms kk; omega
  | succ m ih =>
    intro l wr wa nx kd sta va tld lk hd ht bl sd rt ll lg sv sp nm po so wy h hX hR hT hA hL hG hV hN hQ hW hk hS0 hS1 hS2 hS3 hS4 hms kk
    have qnl := nI_toInt (n := l) (by omega)
    have qnln := nI_toInt (n := ln) (by omega)
    have z0 : (0 : Int32).toInt = 0 := rfl
    have z1 : (1 : Int32).toInt = 1 := rfl
    refine wq_gos (f := 1) (pc2 := 40) (ls2 := [(0, .ref 0), (1, .int (nI ln)), (2, .int (nI l))]) (st2 := [.int (nI ln), .int (nI l)]) (h2 := h) (dc2 := dc) (ds2 := ds) 2 rfl ?_
    try have q1x := nI_toInt (n := l) (by omega)
    try have q2x := nI_toInt (n := ln) (by omega)
    refine wq_gt2 rfl rfl (fun b3x => ?_) (fun b3x => ?_)
    · have hx : (txF tb ln (m + 1) l wr wa nx kd sta va tld lk hd ht bl sd rt ll lg sv sp nm po so wy) = (0, 0, l, wr, wa, nx, kd, sta, va, tld, lk, hd, ht, bl, sd, rt, ll, lg, sv, sp, nm, po, so, wy) := by show (if _ then _ else _) = _; rw [if_pos b3x]
      rw [hx] at kk
      refine wq_ls [(0, .ref 0), (2, .int (nI l))] (show ([0, 2] : List Nat).Nodup by decide) ⟨rfl, rfl, trivial⟩ ?_
      exact (kk h (wFr_rf _ _) (by omega) hR hA hL hG hV hN hQ hW (by first | ((try dsimp only); omega) | ((try dsimp only); intro q9; first | assumption | exact absurd q9 (by decide) | omega)) (by first | ((try dsimp only); omega) | ((try dsimp only); intro q9; first | assumption | exact absurd q9 (by decide) | omega)) (by first | ((try dsimp only); omega) | ((try dsimp only); intro q9; first | assumption | exact absurd q9 (by decide) | omega)) (by first | ((try dsimp only); omega) | ((try dsimp only); intro q9; first | assumption | exact absurd q9 (by decide) | omega)) (by first | ((try dsimp only); omega) | ((try dsimp only); intro q9; first | assumption | exact absurd q9 (by decide) | omega)) (by first | ((try dsimp only); omega) | ((try dsimp only); intro q9; first | assumption | exact absurd q9 (by decide) | omega))).1 rfl
    · refine wq_gos (f := 1) (pc2 := 44) (ls2 := [(0, .ref 0), (1, .int (nI ln)), (2, .int (nI l))]) (st2 := [.ref 0]) (h2 := h) (dc2 := dc) (ds2 := ds) 1 rfl ?_
      refine wq_getf rfl hX rfl rfl ?_
      refine wq_inlv (y2 := 44) (as := []) rfl rfl rfl hR rfl (wq_mono (c_stl hR hT (by first | omega | assumption | decide | solve_by_elim) (by first | omega | assumption | decide | solve_by_elim)) ?_)
      rintro _ ⟨h84x, rfl, f84x, l84x, c04x, p04x⟩
      show wq 102 50 [(0, .ref 0), (1, .int (nI ln)), (2, .int (nI l))] [.int ((stG tb ln nx kd sta va).1)] h84x dc ds _
      obtain ⟨v5x, hv6x⟩ : ∃ x, x = (stG tb ln nx kd sta va) := ⟨_, rfl⟩
      try rw [← hv6x] at c04x
      try rw [← hv6x] at p04x
      try rw [← hv6x]
      refine wq_eq0 rfl rfl (fun b7x => ?_) (fun b7x => ?_)
      · have q8x : (v5x.1).toInt = 0 := congrArg Int32.toInt b7x
        have e9x := (f84x.2 _ _ (wnc (by omega) wn0) hA)
        have e10x := (f84x.2 _ _ (wnc (by omega) wn0) hL)
        have e11x := (f84x.2 _ _ (wnc (by omega) wn0) hG)
        have e12x := (f84x.2 _ _ (wnc (by omega) wn0) hV)
        have e13x := (f84x.2 _ _ (wnc (by omega) wn0) hN)
        have e14x := (f84x.2 _ _ (wnc (by omega) wn0) hQ)
        have e15x := (f84x.2 _ _ (wnc (by omega) wn0) hW)
        have hx : (txF tb ln (m + 1) l wr wa nx kd sta va tld lk hd ht bl sd rt ll lg sv sp nm po so wy) = (0, 0, l, wr, wa, (v5x.2.1), (v5x.2.2.1), (v5x.2.2.2.1), (v5x.2.2.2.2), tld, lk, hd, ht, bl, sd, rt, ll, lg, sv, sp, nm, po, so, wy) := by show (if _ then _ else _) = _; rw [if_neg (Int.not_lt.mpr b3x), zlet_eq hv6x, if_pos b7x]
        rw [hx] at kk
        refine wq_ls [(0, .ref 0), (2, .int (nI l))] (show ([0, 2] : List Nat).Nodup by decide) ⟨rfl, rfl, trivial⟩ ?_
        exact (kk h84x (wFr_sub f84x (by simp)) (by omega) c04x e9x e10x e11x e12x e13x e14x e15x (by first | ((try dsimp only); omega) | ((try dsimp only); intro q9; first | assumption | exact absurd q9 (by decide) | omega)) (by first | ((try dsimp only); omega) | ((try dsimp only); intro q9; first | assumption | exact absurd q9 (by decide) | omega)) (by first | ((try dsimp only); omega) | ((try dsimp only); intro q9; first | assumption | exact absurd q9 (by decide) | omega)) (by first | ((try dsimp only); omega) | ((try dsimp only); intro q9; first | assumption | exact absurd q9 (by decide) | omega)) (by first | ((try dsimp only); omega) | ((try dsimp only); intro q9; first | assumption | exact absurd q9 (by decide) | omega)) (by first | ((try dsimp only); omega) | ((try dsimp only); intro q9; first | assumption | exact absurd q9 (by decide) | omega))).1 rfl
      · have q16x : (v5x.1).toInt ≠ 0 := fun q => b7x (Int32.toInt_inj.mp q)
        refine wq_gos (f := 1) (pc2 := 54) (ls2 := [(0, .ref 0), (1, .int (nI ln)), (2, .int (nI l))]) (st2 := [.ref 0]) (h2 := h84x) (dc2 := dc) (ds2 := ds) 1 rfl ?_
        have e17x := (f84x.2 _ _ (wnc (by decide) wn0) hX)
        refine wq_getf rfl e17x rfl rfl ?_
        have e18x := (f84x.2 _ _ (wnc (by decide) wn0) hT)
        have e19x := (f84x.2 _ _ (wnc (by omega) wn0) hA)
        have e20x := (f84x.2 _ _ (wnc (by omega) wn0) hL)
        have e21x := (f84x.2 _ _ (wnc (by omega) wn0) hG)
        have e22x := (f84x.2 _ _ (wnc (by omega) wn0) hV)
        have e23x := (f84x.2 _ _ (wnc (by omega) wn0) hN)
        have e24x := (f84x.2 _ _ (wnc (by omega) wn0) hQ)
        have e25x := (f84x.2 _ _ (wnc (by omega) wn0) hW)
        refine wq_inlv (y2 := 46) (as := []) rfl rfl rfl c04x rfl (wq_mono (c_li c04x e18x e19x e20x e21x e22x e23x e24x e25x (by first | omega | assumption | decide | solve_by_elim) (by first | omega | assumption | decide | solve_by_elim) (by first | omega | assumption | decide | solve_by_elim) (by first | omega | assumption | decide | solve_by_elim) (by first | omega | assumption | decide | solve_by_elim) (by first | omega | assumption | decide | solve_by_elim) (by first | omega | assumption | decide | solve_by_elim) (by first | omega | assumption | decide | solve_by_elim)) ?_)
        rintro _ ⟨h826x, rfl, f826x, l826x, c026x, c126x, c226x, c326x, c426x, c526x, c626x, c726x, p026x, p126x, p226x, p326x, p426x, p526x⟩
        show wq 102 60 [(0, .ref 0), (1, .int (nI ln)), (2, .int (nI l))] [.int ((liG tb ln wr wa (v5x.2.1) (v5x.2.2.1) (v5x.2.2.2.1) (v5x.2.2.2.2) tld lk hd ht bl sd rt ll lg sv sp nm po so wy).1)] h826x dc ds _
        obtain ⟨v27x, hv28x⟩ : ∃ x, x = (liG tb ln wr wa (v5x.2.1) (v5x.2.2.1) (v5x.2.2.2.1) (v5x.2.2.2.2) tld lk hd ht bl sd rt ll lg sv sp nm po so wy) := ⟨_, rfl⟩
        try rw [← hv28x] at c026x
        try rw [← hv28x] at c126x
        try rw [← hv28x] at c226x
        try rw [← hv28x] at c326x
        try rw [← hv28x] at c426x
        try rw [← hv28x] at c526x
        try rw [← hv28x] at c626x
        try rw [← hv28x] at c726x
        try rw [← hv28x] at p026x
        try rw [← hv28x] at p126x
        try rw [← hv28x] at p226x
        try rw [← hv28x] at p326x
        try rw [← hv28x] at p426x
        try rw [← hv28x] at p526x
        try rw [← hv28x]
        refine wq_ne0 rfl rfl (fun b29x => ?_) (fun b29x => ?_)
        · have q30x : (v27x.1).toInt ≠ 0 := fun q => b29x (Int32.toInt_inj.mp q)
          refine wq_gos (f := 1) (pc2 := 68) (ls2 := [(2, .int ((nI l) + 1)), (0, .ref 0), (1, .int (nI ln))]) (st2 := []) (h2 := h826x) (dc2 := dc) (ds2 := ds) 1 rfl ?_
          rw [nI_1]
          refine wq_gos (f := 1) (pc2 := 38) (ls2 := [(2, .int (nI (l + 1))), (0, .ref 0), (1, .int (nI ln))]) (st2 := []) (h2 := h826x) (dc2 := dc) (ds2 := ds) 1 rfl ?_
          try have q31x := nI_toInt (n := (l + 1)) (by omega)
          have e32x := (f826x.2 _ _ (wnc (by decide) (wnc (by omega) (wnc (by omega) (wnc (by omega) (wnc (by omega) (wnc (by omega) (wnc (by omega) (wnc (by omega) wn0)))))))) e17x)
          have e33x := (f826x.2 _ _ (wnc (by decide) (wnc (by omega) (wnc (by omega) (wnc (by omega) (wnc (by omega) (wnc (by omega) (wnc (by omega) (wnc (by omega) wn0)))))))) e18x)
          have hx : (txF tb ln (m + 1) l wr wa nx kd sta va tld lk hd ht bl sd rt ll lg sv sp nm po so wy) = (txF tb ln m (l + 1) (v27x.2.1) (v27x.2.2.1) (v27x.2.2.2.1) (v27x.2.2.2.2.1) (v27x.2.2.2.2.2.1) (v27x.2.2.2.2.2.2.1) (v27x.2.2.2.2.2.2.2.1) (v27x.2.2.2.2.2.2.2.2.1) (v27x.2.2.2.2.2.2.2.2.2.1) (v27x.2.2.2.2.2.2.2.2.2.2.1) (v27x.2.2.2.2.2.2.2.2.2.2.2.1) (v27x.2.2.2.2.2.2.2.2.2.2.2.2.1) (v27x.2.2.2.2.2.2.2.2.2.2.2.2.2.1) (v27x.2.2.2.2.2.2.2.2.2.2.2.2.2.2.1) (v27x.2.2.2.2.2.2.2.2.2.2.2.2.2.2.2.1) (v27x.2.2.2.2.2.2.2.2.2.2.2.2.2.2.2.2.1) (v27x.2.2.2.2.2.2.2.2.2.2.2.2.2.2.2.2.2.1) (v27x.2.2.2.2.2.2.2.2.2.2.2.2.2.2.2.2.2.2.1) (v27x.2.2.2.2.2.2.2.2.2.2.2.2.2.2.2.2.2.2.2.1) (v27x.2.2.2.2.2.2.2.2.2.2.2.2.2.2.2.2.2.2.2.2.1) (v27x.2.2.2.2.2.2.2.2.2.2.2.2.2.2.2.2.2.2.2.2.2)) := by show (if _ then _ else _) = _; rw [if_neg (Int.not_lt.mpr b3x), zlet_eq hv6x, if_neg b7x, zlet_eq hv28x, if_pos b29x]
          rw [hx] at kk
          refine wq_ls [(0, .ref 0), (1, .int (nI ln)), (2, .int (nI (l + 1)))] (show ([0, 1, 2] : List Nat).Nodup by decide) ⟨rfl, rfl, rfl, trivial⟩ ?_
          exact ih (l + 1) (v27x.2.1) (v27x.2.2.1) (v27x.2.2.2.1) (v27x.2.2.2.2.1) (v27x.2.2.2.2.2.1) (v27x.2.2.2.2.2.2.1) (v27x.2.2.2.2.2.2.2.1) (v27x.2.2.2.2.2.2.2.2.1) (v27x.2.2.2.2.2.2.2.2.2.1) (v27x.2.2.2.2.2.2.2.2.2.2.1) (v27x.2.2.2.2.2.2.2.2.2.2.2.1) (v27x.2.2.2.2.2.2.2.2.2.2.2.2.1) (v27x.2.2.2.2.2.2.2.2.2.2.2.2.2.1) (v27x.2.2.2.2.2.2.2.2.2.2.2.2.2.2.1) (v27x.2.2.2.2.2.2.2.2.2.2.2.2.2.2.2.1) (v27x.2.2.2.2.2.2.2.2.2.2.2.2.2.2.2.2.1) (v27x.2.2.2.2.2.2.2.2.2.2.2.2.2.2.2.2.2.1) (v27x.2.2.2.2.2.2.2.2.2.2.2.2.2.2.2.2.2.2.1) (v27x.2.2.2.2.2.2.2.2.2.2.2.2.2.2.2.2.2.2.2.1) (v27x.2.2.2.2.2.2.2.2.2.2.2.2.2.2.2.2.2.2.2.2.1) (v27x.2.2.2.2.2.2.2.2.2.2.2.2.2.2.2.2.2.2.2.2.2) h826x e32x c026x e33x c126x c226x c326x c426x c526x c626x c726x (by first | omega | assumption | decide | solve_by_elim) (by first | omega | assumption | decide | solve_by_elim) (by first | omega | assumption | decide | solve_by_elim) (by first | omega | assumption | decide | solve_by_elim) (by first | omega | assumption | decide | solve_by_elim) (by first | omega | assumption | decide | solve_by_elim) (by omega) (fun h9 f9 l9 y0 y1 y2 y3 y4 y5 y6 y7 y8 y9 y10 y11 y12 y13 => kk h9 (wFr_tr (wFr_tr (wFr_sub f84x (by simp)) (wFr_sub f826x (by simp))) f9) (by omega) y0 y1 y2 y3 y4 y5 y6 y7 y8 y9 y10 y11 y12 y13)
        · have q34x : (v27x.1).toInt = 0 := congrArg Int32.toInt b29x
          refine wq_gos (f := 1) (pc2 := 64) (ls2 := [(0, .ref 0), (1, .int (nI ln)), (2, .int (nI l))]) (st2 := [.int (-1)]) (h2 := h826x) (dc2 := dc) (ds2 := ds) 1 rfl ?_
          have hx : (txF tb ln (m + 1) l wr wa nx kd sta va tld lk hd ht bl sd rt ll lg sv sp nm po so wy) = (1, (-1 : Int32), l, (v27x.2.1), (v27x.2.2.1), (v27x.2.2.2.1), (v27x.2.2.2.2.1), (v27x.2.2.2.2.2.1), (v27x.2.2.2.2.2.2.1), (v27x.2.2.2.2.2.2.2.1), (v27x.2.2.2.2.2.2.2.2.1), (v27x.2.2.2.2.2.2.2.2.2.1), (v27x.2.2.2.2.2.2.2.2.2.2.1), (v27x.2.2.2.2.2.2.2.2.2.2.2.1), (v27x.2.2.2.2.2.2.2.2.2.2.2.2.1), (v27x.2.2.2.2.2.2.2.2.2.2.2.2.2.1), (v27x.2.2.2.2.2.2.2.2.2.2.2.2.2.2.1), (v27x.2.2.2.2.2.2.2.2.2.2.2.2.2.2.2.1), (v27x.2.2.2.2.2.2.2.2.2.2.2.2.2.2.2.2.1), (v27x.2.2.2.2.2.2.2.2.2.2.2.2.2.2.2.2.2.1), (v27x.2.2.2.2.2.2.2.2.2.2.2.2.2.2.2.2.2.2.1), (v27x.2.2.2.2.2.2.2.2.2.2.2.2.2.2.2.2.2.2.2.1), (v27x.2.2.2.2.2.2.2.2.2.2.2.2.2.2.2.2.2.2.2.2.1), (v27x.2.2.2.2.2.2.2.2.2.2.2.2.2.2.2.2.2.2.2.2.2)) := by show (if _ then _ else _) = _; rw [if_neg (Int.not_lt.mpr b3x), zlet_eq hv6x, if_neg b7x, zlet_eq hv28x, if_neg (fun q => q b29x)]
          rw [hx] at kk
          exact wq_ret rfl rfl ((kk h826x (wFr_tr (wFr_sub f84x (by simp)) (wFr_sub f826x (by simp))) (by omega) c026x c126x c226x c326x c426x c526x c626x c726x (by first | ((try dsimp only); omega) | ((try dsimp only); intro q9; first | assumption | exact absurd q9 (by decide) | omega)) (by first | ((try dsimp only); omega) | ((try dsimp only); intro q9; first | assumption | exact absurd q9 (by decide) | omega)) (by first | ((try dsimp only); omega) | ((try dsimp only); intro q9; first | assumption | exact absurd q9 (by decide) | omega)) (by first | ((try dsimp only); omega) | ((try dsimp only); intro q9; first | assumption | exact absurd q9 (by decide) | omega)) (by first | ((try dsimp only); omega) | ((try dsimp only); intro q9; first | assumption | exact absurd q9 (by decide) | omega)) (by first | ((try dsimp only); omega) | ((try dsimp only); intro q9; first | assumption | exact absurd q9 (by decide) | omega))).2 Nat.one_ne_zero)
set_option maxRecDepth 100000 in
set_option maxHeartbeats 4000000 in
theorem c_txN {h : zH} {t ra rd : Nat} {ps ip : Int64} {im n : Int32} (hX : zat h 0 = some (.inr (.inr (.inr (9, [.ref 2, .int (nI t), .ref 4, .ref ra, .ref rd, .long ps, .ref 34, .ref 36, .int im, .long ip, .ref 42, .ref 44, .ref 60, .ref 66, .ref 72, .ref 74, .ref 150, .ref 158]))))) (hn : n.toInt < 0 ∨ t < n.toInt) (ht : t ≤ 700) : wq 102 0 [(0, .ref 0), (1, .int n)] [] h 0 0 (fun rr9 => rr9 = (some (.int (-2)), h, 0, 0)) := by
  have qnt := nI_toInt (n := t) (by omega)
  refine wq_gos (f := 1) (pc2 := 1) (ls2 := [(0, .ref 0), (1, .int n)]) (st2 := [.int n]) (h2 := h) (dc2 := 0) (ds2 := 0) 1 rfl ?_
  refine wq_lt0 rfl rfl (fun b1x => ?_) (fun b1x => ?_)
  · refine wq_gos (f := 1) (pc2 := 14) (ls2 := [(0, .ref 0), (1, .int n)]) (st2 := [.int (-2)]) (h2 := h) (dc2 := 0) (ds2 := 0) 1 rfl ?_
    exact wq_ret rfl rfl rfl
  · refine wq_gos (f := 1) (pc2 := 6) (ls2 := [(0, .ref 0), (1, .int n)]) (st2 := [.ref 0, .int n]) (h2 := h) (dc2 := 0) (ds2 := 0) 2 rfl ?_
    refine wq_getf rfl hX rfl rfl ?_
    try have q2x := nI_toInt (n := t) (by omega)
    refine wq_le2f rfl rfl (by omega) ?_
    refine wq_gos (f := 1) (pc2 := 14) (ls2 := [(0, .ref 0), (1, .int n)]) (st2 := [.int (-2)]) (h2 := h) (dc2 := 0) (ds2 := 0) 1 rfl ?_
    exact wq_ret rfl rfl rfl
set_option maxRecDepth 100000 in
set_option maxHeartbeats 4000000 in
theorem c_text {h : zH} {Q : zR → Prop} {t ra rd ln : Nat} {ps ip : Int64} {im : Int32} {wr9 wa9 ln9 nx9 kd sta va tld9 : Int32} {b9 a9 : Value} {tb : List Int32} {lk hd ht bl sd sp9 so9 : Int32} {rt : Int64} {ll lg sv nm wy : List Int32} {po : List Int64} {rq rp rs : Nat} {wg ob al9 pr9 sr9 fw : Int32} {rSa rSb : Nat} {kna knb T9a T9b : Int32} {fra frb : Int64} {rq2 rf : Nat} {fi9 kn9 fw9 : Int32} {fr9 : Int64} {hrL : Nat} {hkn hto hks hfa : Int32} {us un : Int32} {pl : List Int32} {T9 : Nat × Int32 × Nat × Int32 × Int32 × Nat × Int32 × Int32 × Int32 × Int32 × Int32 × Int32 × Int32 × Int32 × Int32 × Int64 × List Int32 × List Int32 × List Int32 × Nat × List Int32 × List Int64 × Nat × List Int32} (hX : zat h 0 = some (.inr (.inr (.inr (9, [.ref 2, .int (nI t), .ref 4, .ref ra, .ref rd, .long ps, .ref 34, .ref 36, .int im, .long ip, .ref 42, .ref 44, .ref 60, .ref 66, .ref 72, .ref 74, .ref 150, .ref 158]))))) (hR : zat h 4 = some (.inr (.inr (.inr (4, [.int wr9, .int wa9, b9, .int ln9, .int nx9, .int kd, .int sta, .int va, .int tld9, a9]))))) (hT : zat h 2 = some (.inl (1, 700, tb))) (hA : zat h rd = some (.inr (.inr (.inr (0, [.int lk, .int hd, .int ht, .int bl, .int sd, .long rt, .ref (rd + 2), .ref (rd + 4), .ref (rd + 6), .int sp9, .ref (rd + 8), .ref (rd + 10), .int so9, .ref (rd + 12)]))))) (hL : zat h (rd + 2) = some (.inl (0, 6, ll))) (hG : zat h (rd + 4) = some (.inl (0, 6, lg))) (hV : zat h (rd + 6) = some (.inl (0, 6, sv))) (hN : zat h (rd + 8) = some (.inl (0, 8, nm))) (hQ : zat h (rd + 10) = some (.inr (.inl (8, po)))) (hW : zat h (rd + 12) = some (.inl (0, 10, wy))) (hP : zat h 36 = some (.inr (.inr (.inr (2, [.int us, .int un, .ref 38, .ref 40]))))) (hAi : zat h 34 = some (.inl (0, 6, pl))) (hH60 : zat h 60 = some (.inr (.inr (.inr (1, [.int hkn, .int hto, .ref hrL, .ref 64, .int hks, .int hfa]))))) (hPl : zat h 74 = some (.inr (.inr (.inr (3, [.ref 44, .ref rq, .ref 76, .ref 78, .ref 80, .ref 88, .int wg, .int ob, .ref 96, .int al9, .int pr9, .int sr9, .ref rp, .ref rs, .int fw]))))) (hR1 : zat h 80 = some (.inr (.inr (.inr (6, [.int kna, .long fra, .int T9a, .ref 82, .ref 84, .ref rSa]))))) (hR2 : zat h 88 = some (.inr (.inr (.inr (6, [.int knb, .long frb, .int T9b, .ref 90, .ref 92, .ref rSb]))))) (hRo : zat h 150 = some (.inr (.inr (.inr (5, [.ref 152, .ref rq2, .ref 154, .ref rf, .int fi9, .int kn9, .long fr9, .int fw9]))))) (hrd : rd = 6 ∨ rd = 20) (hra : ra = 26 - rd) (ht : ln ≤ t ∧ t ≤ 700) (hT9 : T9 = (txF tb ln (ln + 2 - 0 + 1) 0 0 (-1) 0 kd sta va 0 9 4 10 2 0 fgRt (fgL ll) (fgG lg) (fgV sv) 0 nm po 0 wy)) (kF : ∀ (h2 : zH), (wFr [0, 4, rd, (rd + 2), (rd + 4), (rd + 6), (rd + 8), (rd + 10), (rd + 12)] h h2) → (h2.length = h.length) → (zat h2 0 = some (.inr (.inr (.inr (9, [.ref 2, .int 0, .ref 4, .ref ra, .ref rd, .long ps, .ref 34, .ref 36, .int im, .long ip, .ref 42, .ref 44, .ref 60, .ref 66, .ref 72, .ref 74, .ref 150, .ref 158]))))) → (zat h2 4 = some (.inr (.inr (.inr (4, [.int (T9.2.2.2.1), .int (T9.2.2.2.2.1), .ref 2, .int (nI ln), .int (nI (T9.2.2.2.2.2.1)), .int (T9.2.2.2.2.2.2.1), .int (T9.2.2.2.2.2.2.2.1), .int (T9.2.2.2.2.2.2.2.2.1), .int (T9.2.2.2.2.2.2.2.2.2.1), .ref rd]))))) → (zat h2 rd = some (.inr (.inr (.inr (0, [.int (T9.2.2.2.2.2.2.2.2.2.2.1), .int (T9.2.2.2.2.2.2.2.2.2.2.2.1), .int (T9.2.2.2.2.2.2.2.2.2.2.2.2.1), .int (T9.2.2.2.2.2.2.2.2.2.2.2.2.2.1), .int (T9.2.2.2.2.2.2.2.2.2.2.2.2.2.2.1), .long (T9.2.2.2.2.2.2.2.2.2.2.2.2.2.2.2.1), .ref (rd + 2), .ref (rd + 4), .ref (rd + 6), .int (nI (T9.2.2.2.2.2.2.2.2.2.2.2.2.2.2.2.2.2.2.2.1)), .ref (rd + 8), .ref (rd + 10), .int (nI (T9.2.2.2.2.2.2.2.2.2.2.2.2.2.2.2.2.2.2.2.2.2.2.1)), .ref (rd + 12)]))))) → (zat h2 (rd + 2) = some (.inl (0, 6, (T9.2.2.2.2.2.2.2.2.2.2.2.2.2.2.2.2.1)))) → (zat h2 (rd + 4) = some (.inl (0, 6, (T9.2.2.2.2.2.2.2.2.2.2.2.2.2.2.2.2.2.1)))) → (zat h2 (rd + 6) = some (.inl (0, 6, (T9.2.2.2.2.2.2.2.2.2.2.2.2.2.2.2.2.2.2.1)))) → (zat h2 (rd + 8) = some (.inl (0, 8, (T9.2.2.2.2.2.2.2.2.2.2.2.2.2.2.2.2.2.2.2.2.1)))) → (zat h2 (rd + 10) = some (.inr (.inl (8, (T9.2.2.2.2.2.2.2.2.2.2.2.2.2.2.2.2.2.2.2.2.2.1))))) → (zat h2 (rd + 12) = some (.inl (0, 10, (T9.2.2.2.2.2.2.2.2.2.2.2.2.2.2.2.2.2.2.2.2.2.2.2)))) → (T9.1 ≠ 0) → Q (some (.int (T9.2.1)), h2, 0, 0)) (kS : ∀ (h2 : zH), (wFr [0, 34, 36, 60, 74, 80, 88, 150, 4, rd, (rd + 2), (rd + 4), (rd + 6), (rd + 8), (rd + 10), (rd + 12)] h h2) → (h2.length = h.length) → (zat h2 0 = some (.inr (.inr (.inr (9, [.ref 2, .int 0, .ref 4, .ref rd, .ref ra, .long (T9.2.2.2.2.2.2.2.2.2.2.2.2.2.2.2.1), .ref 34, .ref 36, .int 0, .long ip, .ref 42, .ref 44, .ref 60, .ref 66, .ref 72, .ref 74, .ref 150, .ref 158]))))) → (zat h2 34 = some (.inl (0, 6, (jPlo (T9.2.2.2.2.2.2.2.2.2.2.1) (T9.2.2.2.2.2.2.2.2.2.2.2.1) (T9.2.2.2.2.2.2.2.2.2.2.2.2.1) (T9.2.2.2.2.2.2.2.2.2.2.2.2.2.2.2.1) pl)))) → (zat h2 36 = some (.inr (.inr (.inr (2, [.int 0, .int 0, .ref 38, .ref 40]))))) → (zat h2 60 = some (.inr (.inr (.inr (1, [.int 0, .int hto, .ref hrL, .ref 64, .int hks, .int hfa]))))) → (zat h2 74 = some (.inr (.inr (.inr (3, [.ref 44, .ref rd, .ref 76, .ref 78, .ref 80, .ref 88, .int 0, .int ob, .ref 96, .int al9, .int 0, .int 0, .ref rp, .ref rs, .int fw]))))) → (zat h2 80 = some (.inr (.inr (.inr (6, [.int 0, .long fra, .int T9a, .ref 82, .ref 84, .ref rSa]))))) → (zat h2 88 = some (.inr (.inr (.inr (6, [.int 0, .long frb, .int T9b, .ref 90, .ref 92, .ref rSb]))))) → (zat h2 150 = some (.inr (.inr (.inr (5, [.ref 152, .ref rd, .ref 154, .ref rf, .int 0, .int 0, .long fr9, .int fw9]))))) → (zat h2 4 = some (.inr (.inr (.inr (4, [.int (T9.2.2.2.1), .int (T9.2.2.2.2.1), .ref 2, .int (nI ln), .int (nI (T9.2.2.2.2.2.1)), .int (T9.2.2.2.2.2.2.1), .int (T9.2.2.2.2.2.2.2.1), .int (T9.2.2.2.2.2.2.2.2.1), .int (T9.2.2.2.2.2.2.2.2.2.1), .ref rd]))))) → (zat h2 rd = some (.inr (.inr (.inr (0, [.int (T9.2.2.2.2.2.2.2.2.2.2.1), .int (T9.2.2.2.2.2.2.2.2.2.2.2.1), .int (T9.2.2.2.2.2.2.2.2.2.2.2.2.1), .int (T9.2.2.2.2.2.2.2.2.2.2.2.2.2.1), .int (T9.2.2.2.2.2.2.2.2.2.2.2.2.2.2.1), .long (T9.2.2.2.2.2.2.2.2.2.2.2.2.2.2.2.1), .ref (rd + 2), .ref (rd + 4), .ref (rd + 6), .int (nI (T9.2.2.2.2.2.2.2.2.2.2.2.2.2.2.2.2.2.2.2.1)), .ref (rd + 8), .ref (rd + 10), .int (nI (T9.2.2.2.2.2.2.2.2.2.2.2.2.2.2.2.2.2.2.2.2.2.2.1)), .ref (rd + 12)]))))) → (zat h2 (rd + 2) = some (.inl (0, 6, (T9.2.2.2.2.2.2.2.2.2.2.2.2.2.2.2.2.1)))) → (zat h2 (rd + 4) = some (.inl (0, 6, (T9.2.2.2.2.2.2.2.2.2.2.2.2.2.2.2.2.2.1)))) → (zat h2 (rd + 6) = some (.inl (0, 6, (T9.2.2.2.2.2.2.2.2.2.2.2.2.2.2.2.2.2.2.1)))) → (zat h2 (rd + 8) = some (.inl (0, 8, (T9.2.2.2.2.2.2.2.2.2.2.2.2.2.2.2.2.2.2.2.2.1)))) → (zat h2 (rd + 10) = some (.inr (.inl (8, (T9.2.2.2.2.2.2.2.2.2.2.2.2.2.2.2.2.2.2.2.2.2.1))))) → (zat h2 (rd + 12) = some (.inl (0, 10, (T9.2.2.2.2.2.2.2.2.2.2.2.2.2.2.2.2.2.2.2.2.2.2.2)))) → (T9.1 = 0) → (wScl ((T9.2.2.2.2.2.2.2.2.2.2.1)) ((T9.2.2.2.2.2.2.2.2.2.2.2.1)) ((T9.2.2.2.2.2.2.2.2.2.2.2.2.1)) ((T9.2.2.2.2.2.2.2.2.2.2.2.2.2.1)) ((T9.2.2.2.2.2.2.2.2.2.2.2.2.2.2.1))) → (wLm ((T9.2.2.2.2.2.2.2.2.2.2.2.2.2.2.2.2.1)) ((T9.2.2.2.2.2.2.2.2.2.2.2.2.2.2.2.2.2.1))) → (wSpd ((T9.2.2.2.2.2.2.2.2.2.2.2.2.2.2.2.2.2.2.1))) → (((T9.2.2.2.2.2.2.2.2.2.2.2.2.2.2.2.2.2.2.2.1)) ≤ 8) → (wWay ((T9.2.2.2.2.2.2.2.2.2.2.2.2.2.2.2.2.2.2.2.2.2.2.2)) ((T9.2.2.2.2.2.2.2.2.2.2.2.2.2.2.2.2.2.2.2.1)) ((T9.2.2.2.2.2.2.2.2.2.2.2.2.2.2.2.2.2.2.2.2.2.2.1))) → Q (some (.int (nI (T9.2.2.1))), h2, 0, 0)) : wq 102 0 [(0, .ref 0), (1, .int (nI ln))] [] h 0 0 Q := by
  have qnt := nI_toInt (n := t) (by omega)
  have qnln := nI_toInt (n := ln) (by omega)
  have z0 : (0 : Int32).toInt = 0 := rfl
  have z1 : (1 : Int32).toInt = 1 := rfl
  refine wq_gos (f := 1) (pc2 := 1) (ls2 := [(0, .ref 0), (1, .int (nI ln))]) (st2 := [.int (nI ln)]) (h2 := h) (dc2 := 0) (ds2 := 0) 1 rfl ?_
  try have q1x := nI_toInt (n := ln) (by omega)
  refine wq_lt0f rfl rfl (by omega) ?_
  refine wq_gos (f := 1) (pc2 := 6) (ls2 := [(0, .ref 0), (1, .int (nI ln))]) (st2 := [.ref 0, .int (nI ln)]) (h2 := h) (dc2 := 0) (ds2 := 0) 2 rfl ?_
  refine wq_getf rfl hX rfl rfl ?_
  try have q2x := nI_toInt (n := t) (by omega)
  refine wq_le2t rfl (by omega) ?_
  refine wq_gos (f := 1) (pc2 := 17) (ls2 := [(0, .ref 0), (1, .int (nI ln))]) (st2 := [.int 0, .ref 0]) (h2 := h) (dc2 := 0) (ds2 := 0) 2 rfl ?_
  refine wq_putf rfl hX rfl rfl rfl ?_
  intro h3x e4x f5x l6x
  have e4x : zat h3x 0 = some (.inr (.inr (.inr (9, [.ref 2, .int 0, .ref 4, .ref ra, .ref rd, .long ps, .ref 34, .ref 36, .int im, .long ip, .ref 42, .ref 44, .ref 60, .ref 66, .ref 72, .ref 74, .ref 150, .ref 158])))) := e4x
  refine wq_gos (f := 1) (pc2 := 21) (ls2 := [(0, .ref 0), (1, .int (nI ln))]) (st2 := [.ref 0]) (h2 := h3x) (dc2 := 0) (ds2 := 0) 1 rfl ?_
  refine wq_getf rfl e4x rfl rfl ?_
  refine wq_gos (f := 1) (pc2 := 25) (ls2 := [(0, .ref 0), (1, .int (nI ln))]) (st2 := [.ref 0, .ref 4]) (h2 := h3x) (dc2 := 0) (ds2 := 0) 1 rfl ?_
  refine wq_getf rfl e4x rfl rfl ?_
  refine wq_gos (f := 1) (pc2 := 30) (ls2 := [(0, .ref 0), (1, .int (nI ln))]) (st2 := [.ref 0, .int (nI ln), .ref 2, .ref 4]) (h2 := h3x) (dc2 := 0) (ds2 := 0) 2 rfl ?_
  refine wq_getf rfl e4x rfl rfl ?_
  have e7x := (f5x.2 _ _ (wnc (by decide) wn0) hR)
  have e8x := (f5x.2 _ _ (wnc (by decide) wn0) hT)
  have e9x := (f5x.2 _ _ (wnc (by omega) wn0) hA)
  have e10x := (f5x.2 _ _ (wnc (by omega) wn0) hL)
  have e11x := (f5x.2 _ _ (wnc (by omega) wn0) hG)
  have e12x := (f5x.2 _ _ (wnc (by omega) wn0) hV)
  refine wq_inlv (y2 := 43) (as := [.ref 2, .int (nI ln), .ref rd]) rfl rfl rfl e7x rfl (wq_mono (c_rbg e7x e8x e9x e10x e11x e12x (by first | omega | assumption | decide | solve_by_elim) (by first | omega | assumption | decide | solve_by_elim)) ?_)
  rintro _ ⟨h813x, rfl, f813x, l813x, c013x, c113x, c213x, c313x, c413x⟩
  show wq 102 36 [(0, .ref 0), (1, .int (nI ln))] [] h813x 0 0 _
  refine wq_gos (f := 1) (pc2 := 38) (ls2 := [(2, .int 0), (0, .ref 0), (1, .int (nI ln))]) (st2 := []) (h2 := h813x) (dc2 := 0) (ds2 := 0) 2 rfl ?_
  have e14x := (f813x.2 _ _ (wnc (by decide) (wnc (by omega) (wnc (by omega) (wnc (by omega) (wnc (by omega) wn0))))) e4x)
  have e15x := (f813x.2 _ _ (wnc (by decide) (wnc (by omega) (wnc (by omega) (wnc (by omega) (wnc (by omega) wn0))))) e8x)
  have e16x := (f813x.2 _ _ (wnc (by omega) (wnc (by omega) (wnc (by omega) (wnc (by omega) (wnc (by omega) wn0))))) (f5x.2 _ _ (wnc (by omega) wn0) hN))
  have e17x := (f813x.2 _ _ (wnc (by omega) (wnc (by omega) (wnc (by omega) (wnc (by omega) (wnc (by omega) wn0))))) (f5x.2 _ _ (wnc (by omega) wn0) hQ))
  have e18x := (f813x.2 _ _ (wnc (by omega) (wnc (by omega) (wnc (by omega) (wnc (by omega) (wnc (by omega) wn0))))) (f5x.2 _ _ (wnc (by omega) wn0) hW))
  refine wq_ls [(0, .ref 0), (1, .int (nI ln)), (2, .int (nI 0))] (show ([0, 1, 2] : List Nat).Nodup by decide) ⟨rfl, rfl, rfl, trivial⟩ ?_
  refine c_txL (by first | omega | assumption | decide | solve_by_elim) (by first | omega | assumption | decide | solve_by_elim) ((ln + 2 - 0) + 1) 0 (0 : Int32) (-1 : Int32) 0 kd sta va (0 : Int32) (9 : Int32) (4 : Int32) (10 : Int32) (2 : Int32) (0 : Int32) fgRt (fgL ll) (fgG lg) (fgV sv) 0 nm po 0 wy h813x e14x c013x e15x c113x c213x c313x c413x e16x e17x e18x (by first | omega | assumption | decide | solve_by_elim) fg_scl (fg_lim _ _) (fg_spd _) (by decide) (fg_way _) (by omega) ?_
  intro h819x f819x l819x c019x c119x c219x c319x c419x c519x c619x c719x p019x p119x p219x p319x p419x p519x
  obtain ⟨v20x, hv21x⟩ : ∃ x, x = (txF tb ln ((ln + 2 - 0) + 1) 0 (0 : Int32) (-1 : Int32) 0 kd sta va (0 : Int32) (9 : Int32) (4 : Int32) (10 : Int32) (2 : Int32) (0 : Int32) fgRt (fgL ll) (fgG lg) (fgV sv) 0 nm po 0 wy) := ⟨_, rfl⟩
  try rw [← hv21x] at c019x
  try rw [← hv21x] at c119x
  try rw [← hv21x] at c219x
  try rw [← hv21x] at c319x
  try rw [← hv21x] at c419x
  try rw [← hv21x] at c519x
  try rw [← hv21x] at c619x
  try rw [← hv21x] at c719x
  try rw [← hv21x] at p019x
  try rw [← hv21x] at p119x
  try rw [← hv21x] at p219x
  try rw [← hv21x] at p319x
  try rw [← hv21x] at p419x
  try rw [← hv21x] at p519x
  try rw [← hv21x]
  refine ⟨fun b22x => ?_, fun b22x => ?_⟩
  · show wq 102 71 [(0, .ref 0), (2, .int (nI (v20x.2.2.1)))] [] h819x 0 0 _
    refine wq_gos (f := 1) (pc2 := 72) (ls2 := [(0, .ref 0), (2, .int (nI (v20x.2.2.1)))]) (st2 := [.ref 0]) (h2 := h819x) (dc2 := 0) (ds2 := 0) 1 rfl ?_
    have e23x := (f819x.2 _ _ (wnc (by decide) (wnc (by omega) (wnc (by omega) (wnc (by omega) (wnc (by omega) (wnc (by omega) (wnc (by omega) (wnc (by omega) wn0)))))))) e14x)
    refine wq_getf rfl e23x rfl rfl ?_
    refine wq_gos (f := 1) (pc2 := 78) (ls2 := [(3, .ref ra), (0, .ref 0), (2, .int (nI (v20x.2.2.1)))]) (st2 := [.ref 0, .ref 0]) (h2 := h819x) (dc2 := 0) (ds2 := 0) 3 rfl ?_
    refine wq_getf rfl e23x rfl rfl ?_
    refine wq_putf rfl e23x rfl rfl rfl ?_
    intro h24x e25x f26x l27x
    have e25x : zat h24x 0 = some (.inr (.inr (.inr (9, [.ref 2, .int 0, .ref 4, .ref rd, .ref rd, .long ps, .ref 34, .ref 36, .int im, .long ip, .ref 42, .ref 44, .ref 60, .ref 66, .ref 72, .ref 74, .ref 150, .ref 158])))) := e25x
    refine wq_gos (f := 1) (pc2 := 86) (ls2 := [(3, .ref ra), (0, .ref 0), (2, .int (nI (v20x.2.2.1)))]) (st2 := [.ref ra, .ref 0]) (h2 := h24x) (dc2 := 0) (ds2 := 0) 2 rfl ?_
    refine wq_putf rfl e25x rfl rfl rfl ?_
    intro h28x e29x f30x l31x
    have e29x : zat h28x 0 = some (.inr (.inr (.inr (9, [.ref 2, .int 0, .ref 4, .ref rd, .ref ra, .long ps, .ref 34, .ref 36, .int im, .long ip, .ref 42, .ref 44, .ref 60, .ref 66, .ref 72, .ref 74, .ref 150, .ref 158])))) := e29x
    refine wq_gos (f := 1) (pc2 := 90) (ls2 := [(3, .ref ra), (0, .ref 0), (2, .int (nI (v20x.2.2.1)))]) (st2 := [.ref 0]) (h2 := h28x) (dc2 := 0) (ds2 := 0) 1 rfl ?_
    have e32x := (f30x.2 _ _ (wnc (by omega) wn0) (f26x.2 _ _ (wnc (by omega) wn0) c119x))
    have e33x := (f30x.2 _ _ (wnc (by decide) wn0) (f26x.2 _ _ (wnc (by decide) wn0) (f819x.2 _ _ (wnc (by decide) (wnc (by omega) (wnc (by omega) (wnc (by omega) (wnc (by omega) (wnc (by omega) (wnc (by omega) (wnc (by omega) wn0)))))))) (f813x.2 _ _ (wnc (by decide) (wnc (by omega) (wnc (by omega) (wnc (by omega) (wnc (by omega) wn0))))) (f5x.2 _ _ (wnc (by decide) wn0) hP)))))
    have e34x := (f30x.2 _ _ (wnc (by decide) wn0) (f26x.2 _ _ (wnc (by decide) wn0) (f819x.2 _ _ (wnc (by decide) (wnc (by omega) (wnc (by omega) (wnc (by omega) (wnc (by omega) (wnc (by omega) (wnc (by omega) (wnc (by omega) wn0)))))))) (f813x.2 _ _ (wnc (by decide) (wnc (by omega) (wnc (by omega) (wnc (by omega) (wnc (by omega) wn0))))) (f5x.2 _ _ (wnc (by decide) wn0) hAi)))))
    have e35x := (f30x.2 _ _ (wnc (by decide) wn0) (f26x.2 _ _ (wnc (by decide) wn0) (f819x.2 _ _ (wnc (by decide) (wnc (by omega) (wnc (by omega) (wnc (by omega) (wnc (by omega) (wnc (by omega) (wnc (by omega) (wnc (by omega) wn0)))))))) (f813x.2 _ _ (wnc (by decide) (wnc (by omega) (wnc (by omega) (wnc (by omega) (wnc (by omega) wn0))))) (f5x.2 _ _ (wnc (by decide) wn0) hH60)))))
    have e36x := (f30x.2 _ _ (wnc (by decide) wn0) (f26x.2 _ _ (wnc (by decide) wn0) (f819x.2 _ _ (wnc (by decide) (wnc (by omega) (wnc (by omega) (wnc (by omega) (wnc (by omega) (wnc (by omega) (wnc (by omega) (wnc (by omega) wn0)))))))) (f813x.2 _ _ (wnc (by decide) (wnc (by omega) (wnc (by omega) (wnc (by omega) (wnc (by omega) wn0))))) (f5x.2 _ _ (wnc (by decide) wn0) hPl)))))
    have e37x := (f30x.2 _ _ (wnc (by decide) wn0) (f26x.2 _ _ (wnc (by decide) wn0) (f819x.2 _ _ (wnc (by decide) (wnc (by omega) (wnc (by omega) (wnc (by omega) (wnc (by omega) (wnc (by omega) (wnc (by omega) (wnc (by omega) wn0)))))))) (f813x.2 _ _ (wnc (by decide) (wnc (by omega) (wnc (by omega) (wnc (by omega) (wnc (by omega) wn0))))) (f5x.2 _ _ (wnc (by decide) wn0) hR1)))))
    have e38x := (f30x.2 _ _ (wnc (by decide) wn0) (f26x.2 _ _ (wnc (by decide) wn0) (f819x.2 _ _ (wnc (by decide) (wnc (by omega) (wnc (by omega) (wnc (by omega) (wnc (by omega) (wnc (by omega) (wnc (by omega) (wnc (by omega) wn0)))))))) (f813x.2 _ _ (wnc (by decide) (wnc (by omega) (wnc (by omega) (wnc (by omega) (wnc (by omega) wn0))))) (f5x.2 _ _ (wnc (by decide) wn0) hR2)))))
    have e39x := (f30x.2 _ _ (wnc (by decide) wn0) (f26x.2 _ _ (wnc (by decide) wn0) (f819x.2 _ _ (wnc (by decide) (wnc (by omega) (wnc (by omega) (wnc (by omega) (wnc (by omega) (wnc (by omega) (wnc (by omega) (wnc (by omega) wn0)))))))) (f813x.2 _ _ (wnc (by decide) (wnc (by omega) (wnc (by omega) (wnc (by omega) (wnc (by omega) wn0))))) (f5x.2 _ _ (wnc (by decide) wn0) hRo)))))
    refine wq_inlv (y2 := 99) (as := []) rfl rfl rfl e29x rfl (wq_mono (c_beg e29x e32x e33x e34x e35x e36x e37x e38x e39x (by first | omega | assumption | decide | solve_by_elim)) ?_)
    rintro _ ⟨h840x, rfl, f840x, l840x, c040x, c140x, c240x, c340x, c440x, c540x, c640x, c740x⟩
    show wq 102 93 [(3, .ref ra), (0, .ref 0), (2, .int (nI (v20x.2.2.1)))] [] h840x 0 0 _
    refine wq_gos (f := 1) (pc2 := 94) (ls2 := [(3, .ref ra), (0, .ref 0), (2, .int (nI (v20x.2.2.1)))]) (st2 := [.int (nI (v20x.2.2.1))]) (h2 := h840x) (dc2 := 0) (ds2 := 0) 1 rfl ?_
    have e41x := (f840x.2 _ _ (wnc (by decide) (wnc (by decide) (wnc (by decide) (wnc (by decide) (wnc (by decide) (wnc (by decide) (wnc (by decide) (wnc (by decide) wn0)))))))) (f30x.2 _ _ (wnc (by decide) wn0) (f26x.2 _ _ (wnc (by decide) wn0) c019x)))
    have e42x := (f840x.2 _ _ (wnc (by omega) (wnc (by omega) (wnc (by omega) (wnc (by omega) (wnc (by omega) (wnc (by omega) (wnc (by omega) (wnc (by omega) wn0)))))))) e32x)
    have e43x := (f840x.2 _ _ (wnc (by omega) (wnc (by omega) (wnc (by omega) (wnc (by omega) (wnc (by omega) (wnc (by omega) (wnc (by omega) (wnc (by omega) wn0)))))))) (f30x.2 _ _ (wnc (by omega) wn0) (f26x.2 _ _ (wnc (by omega) wn0) c219x)))
    have e44x := (f840x.2 _ _ (wnc (by omega) (wnc (by omega) (wnc (by omega) (wnc (by omega) (wnc (by omega) (wnc (by omega) (wnc (by omega) (wnc (by omega) wn0)))))))) (f30x.2 _ _ (wnc (by omega) wn0) (f26x.2 _ _ (wnc (by omega) wn0) c319x)))
    have e45x := (f840x.2 _ _ (wnc (by omega) (wnc (by omega) (wnc (by omega) (wnc (by omega) (wnc (by omega) (wnc (by omega) (wnc (by omega) (wnc (by omega) wn0)))))))) (f30x.2 _ _ (wnc (by omega) wn0) (f26x.2 _ _ (wnc (by omega) wn0) c419x)))
    have e46x := (f840x.2 _ _ (wnc (by omega) (wnc (by omega) (wnc (by omega) (wnc (by omega) (wnc (by omega) (wnc (by omega) (wnc (by omega) (wnc (by omega) wn0)))))))) (f30x.2 _ _ (wnc (by omega) wn0) (f26x.2 _ _ (wnc (by omega) wn0) c519x)))
    have e47x := (f840x.2 _ _ (wnc (by omega) (wnc (by omega) (wnc (by omega) (wnc (by omega) (wnc (by omega) (wnc (by omega) (wnc (by omega) (wnc (by omega) wn0)))))))) (f30x.2 _ _ (wnc (by omega) wn0) (f26x.2 _ _ (wnc (by omega) wn0) c619x)))
    have e48x := (f840x.2 _ _ (wnc (by omega) (wnc (by omega) (wnc (by omega) (wnc (by omega) (wnc (by omega) (wnc (by omega) (wnc (by omega) (wnc (by omega) wn0)))))))) (f30x.2 _ _ (wnc (by omega) wn0) (f26x.2 _ _ (wnc (by omega) wn0) c719x)))
    first | (obtain rfl : v20x = T9 := hv21x.trans hT9.symm) | subst hv21x
    exact wq_ret rfl rfl (kS h840x (wFr_tr (wFr_sub f5x (by simp)) (wFr_tr (wFr_sub f813x (by simp)) (wFr_tr (wFr_sub f819x (by simp)) (wFr_tr (wFr_sub f26x (by simp)) (wFr_tr (wFr_sub f30x (by simp)) (wFr_sub f840x (by simp))))))) (by omega) c040x c140x c240x c340x c440x c540x c640x c740x e41x e42x e43x e44x e45x e46x e47x e48x (by first | assumption | omega | solve_by_elim) (by first | assumption | omega | solve_by_elim) (by first | assumption | omega | solve_by_elim) (by first | assumption | omega | solve_by_elim) (by first | assumption | omega | solve_by_elim) (by first | assumption | omega | solve_by_elim))
  · have e49x := (f819x.2 _ _ (wnc (by decide) (wnc (by omega) (wnc (by omega) (wnc (by omega) (wnc (by omega) (wnc (by omega) (wnc (by omega) (wnc (by omega) wn0)))))))) e14x)
    first | (obtain rfl : v20x = T9 := hv21x.trans hT9.symm) | subst hv21x
    exact (kF h819x (wFr_tr (wFr_sub f5x (by simp)) (wFr_tr (wFr_sub f813x (by simp)) (wFr_sub f819x (by simp)))) (by omega) e49x c019x c119x c219x c319x c419x c519x c619x c719x (by first | assumption | omega | solve_by_elim))
