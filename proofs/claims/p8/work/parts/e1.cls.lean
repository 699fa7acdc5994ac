/-! The class: feed, fault, aim, keep, back, undo, count. -/
set_option maxRecDepth 100000 in
set_option maxHeartbeats 4000000 in
theorem c_feedN {h : zH} {t ra rd : Nat} {ps ip : Int64} {im : Int32} {a b c d e : Int32} (hX : zat h 0 = some (.inr (.inr (.inr (9, [.ref 2, .int (nI t), .ref 4, .ref ra, .ref rd, .long ps, .ref 34, .ref 36, .int im, .long ip, .ref 42, .ref 44, .ref 60, .ref 66, .ref 72, .ref 74, .ref 150, .ref 158]))))) (ht : 680 < t ∧ t ≤ 700) : wq 100 0 [(0, .ref 0), (1, .int a), (2, .int b), (3, .int c), (4, .int d), (5, .int e)] [] h 0 0 (fun rr9 => rr9 = (some (.int (-1)), h, 0, 0)) := by
  have qnt := nI_toInt (n := t) (by omega)
  refine wq_gos (f := 1) (pc2 := 1) (ls2 := [(0, .ref 0), (1, .int a), (2, .int b), (3, .int c), (4, .int d), (5, .int e)]) (st2 := [.ref 0]) (h2 := h) (dc2 := 0) (ds2 := 0) 1 rfl ?_
  refine wq_getf rfl hX rfl rfl ?_
  refine wq_gos (f := 1) (pc2 := 10) (ls2 := [(0, .ref 0), (1, .int a), (2, .int b), (3, .int c), (4, .int d), (5, .int e)]) (st2 := [.int 700, .int ((nI t) + (20 : Int32))]) (h2 := h) (dc2 := 0) (ds2 := 0) 3 rfl ?_
  try have q1x := nI_toInt (n := t) (by omega)
  have q2x : (20 : Int32).toInt = 20 := rfl
  try have q3x : (((nI t) + (20 : Int32))).toInt = (nI t).toInt + (20 : Int32).toInt := e_add (by omega) (by omega)
  have q4x : (700 : Int32).toInt = 700 := rfl
  refine wq_le2f rfl rfl (by omega) ?_
  refine wq_gos (f := 1) (pc2 := 14) (ls2 := [(0, .ref 0), (1, .int a), (2, .int b), (3, .int c), (4, .int d), (5, .int e)]) (st2 := [.int (-1)]) (h2 := h) (dc2 := 0) (ds2 := 0) 1 rfl ?_
  exact wq_ret rfl rfl rfl
set_option maxRecDepth 100000 in
set_option maxHeartbeats 4000000 in
theorem c_put4 {h : zH} {t ra rd : Nat} {ps ip : Int64} {im : Int32} {a : Int32} {tb : List Int32} (hX : zat h 0 = some (.inr (.inr (.inr (9, [.ref 2, .int (nI t), .ref 4, .ref ra, .ref rd, .long ps, .ref 34, .ref 36, .int im, .long ip, .ref 42, .ref 44, .ref 60, .ref 66, .ref 72, .ref 74, .ref 150, .ref 158]))))) (hT : zat h 2 = some (.inl (1, 700, tb))) (ht : t + 4 ≤ 700) : wq 101 0 [(0, .ref 0), (1, .int a)] [] h 0 0 (fun rr9 => ∃ (h2 : zH) (tb2 : List Int32), rr9 = (none, h2, 0, 0) ∧ wFr [0, 2] h h2 ∧ h2.length = h.length ∧ zat h2 0 = some (.inr (.inr (.inr (9, [.ref 2, .int (nI (t + 4)), .ref 4, .ref ra, .ref rd, .long ps, .ref 34, .ref 36, .int im, .long ip, .ref 42, .ref 44, .ref 60, .ref 66, .ref 72, .ref 74, .ref 150, .ref 158])))) ∧ zat h2 2 = some (.inl (1, 700, tb2)) ∧ ∀ i, i < t → tb2.getD i 0 = tb.getD i 0) := by
  have q1 := nI_toInt (n := t) (by omega)
  have q2 := nI_toInt (n := t + 1) (by omega)
  have q3 := nI_toInt (n := t + 1 + 1) (by omega)
  have q4 := nI_toInt (n := t + 1 + 1 + 1) (by omega)
  refine wq_gos (f := 1) (pc2 := 8) (ls2 := [(2, .int 24), (0, .ref 0), (1, .int a)]) (st2 := [.ref 0]) (h2 := h) (dc2 := 0) (ds2 := 0) 5 rfl ?_
  refine wq_getf rfl hX rfl rfl ?_
  refine wq_gos (f := 1) (pc2 := 14) (ls2 := [(2, .int 24), (0, .ref 0), (1, .int a)]) (st2 := [.int 700, .int (nI t)]) (h2 := h) (dc2 := 0) (ds2 := 0) 1 rfl ?_
  try have q1x := nI_toInt (n := t) (by omega)
  have q2x : (700 : Int32).toInt = 700 := rfl
  refine wq_ge2f rfl rfl (by omega) ?_
  refine wq_gos (f := 1) (pc2 := 18) (ls2 := [(2, .int 24), (0, .ref 0), (1, .int a)]) (st2 := [.ref 0]) (h2 := h) (dc2 := 0) (ds2 := 0) 1 rfl ?_
  refine wq_getf rfl hX rfl rfl ?_
  refine wq_gos (f := 1) (pc2 := 22) (ls2 := [(2, .int 24), (0, .ref 0), (1, .int a)]) (st2 := [.ref 0, .ref 2]) (h2 := h) (dc2 := 0) (ds2 := 0) 1 rfl ?_
  refine wq_getf rfl hX rfl rfl ?_
  refine wq_gos (f := 1) (pc2 := 29) (ls2 := [(2, .int 24), (0, .ref 0), (1, .int a)]) (st2 := [.int (((a).toUInt32 >>> (((24 : Int32)).toUInt32 &&& Int32.toUInt32 31)).toInt32).toInt8.toInt32, .int (nI t), .ref 2]) (h2 := h) (dc2 := 0) (ds2 := 0) 4 rfl ?_
  refine wq_bast rfl hT (by first | omega | exact zin_t (by omega) (by omega)) rfl ?_
  intro h3x e4x f5x l6x
  have e4x : zat h3x 2 = some (.inl (1, 700, (zset 0 tb ((nI t)).toNatClampNeg (vp_nar .byte (((a).toUInt32 >>> (((24 : Int32)).toUInt32 &&& Int32.toUInt32 31)).toInt32).toInt8.toInt32)))) := e4x
  refine wq_gos (f := 1) (pc2 := 32) (ls2 := [(2, .int 24), (0, .ref 0), (1, .int a)]) (st2 := [.ref 0, .ref 0]) (h2 := h3x) (dc2 := 0) (ds2 := 0) 2 rfl ?_
  have e7x := (f5x.2 _ _ (wnc (by decide) wn0) hX)
  refine wq_getf rfl e7x rfl rfl ?_
  refine wq_gos (f := 1) (pc2 := 37) (ls2 := [(2, .int 24), (0, .ref 0), (1, .int a)]) (st2 := [.int ((nI t) + (1 : Int32)), .ref 0]) (h2 := h3x) (dc2 := 0) (ds2 := 0) 2 rfl ?_
  rw [nI_1]
  refine wq_putf rfl e7x rfl rfl rfl ?_
  intro h8x e9x f10x l11x
  have e9x : zat h8x 0 = some (.inr (.inr (.inr (9, [.ref 2, .int (nI (t + 1)), .ref 4, .ref ra, .ref rd, .long ps, .ref 34, .ref 36, .int im, .long ip, .ref 42, .ref 44, .ref 60, .ref 66, .ref 72, .ref 74, .ref 150, .ref 158])))) := e9x
  refine wq_gos (f := 1) (pc2 := 8) (ls2 := [(2, .int 16), (0, .ref 0), (1, .int a)]) (st2 := [.ref 0]) (h2 := h8x) (dc2 := 0) (ds2 := 0) 5 rfl ?_
  refine wq_getf rfl e9x rfl rfl ?_
  refine wq_gos (f := 1) (pc2 := 14) (ls2 := [(2, .int 16), (0, .ref 0), (1, .int a)]) (st2 := [.int 700, .int (nI (t + 1))]) (h2 := h8x) (dc2 := 0) (ds2 := 0) 1 rfl ?_
  try have q12x := nI_toInt (n := (t + 1)) (by omega)
  refine wq_ge2f rfl rfl (by omega) ?_
  refine wq_gos (f := 1) (pc2 := 18) (ls2 := [(2, .int 16), (0, .ref 0), (1, .int a)]) (st2 := [.ref 0]) (h2 := h8x) (dc2 := 0) (ds2 := 0) 1 rfl ?_
  refine wq_getf rfl e9x rfl rfl ?_
  refine wq_gos (f := 1) (pc2 := 22) (ls2 := [(2, .int 16), (0, .ref 0), (1, .int a)]) (st2 := [.ref 0, .ref 2]) (h2 := h8x) (dc2 := 0) (ds2 := 0) 1 rfl ?_
  refine wq_getf rfl e9x rfl rfl ?_
  refine wq_gos (f := 1) (pc2 := 29) (ls2 := [(2, .int 16), (0, .ref 0), (1, .int a)]) (st2 := [.int (((a).toUInt32 >>> (((16 : Int32)).toUInt32 &&& Int32.toUInt32 31)).toInt32).toInt8.toInt32, .int (nI (t + 1)), .ref 2]) (h2 := h8x) (dc2 := 0) (ds2 := 0) 4 rfl ?_
  have e13x := (f10x.2 _ _ (wnc (by decide) wn0) e4x)
  refine wq_bast rfl e13x (by first | omega | exact zin_t (by omega) (by omega)) rfl ?_
  intro h14x e15x f16x l17x
  have e15x : zat h14x 2 = some (.inl (1, 700, (zset 0 (zset 0 tb ((nI t)).toNatClampNeg (vp_nar .byte (((a).toUInt32 >>> (((24 : Int32)).toUInt32 &&& Int32.toUInt32 31)).toInt32).toInt8.toInt32)) ((nI (t + 1))).toNatClampNeg (vp_nar .byte (((a).toUInt32 >>> (((16 : Int32)).toUInt32 &&& Int32.toUInt32 31)).toInt32).toInt8.toInt32)))) := e15x
  refine wq_gos (f := 1) (pc2 := 32) (ls2 := [(2, .int 16), (0, .ref 0), (1, .int a)]) (st2 := [.ref 0, .ref 0]) (h2 := h14x) (dc2 := 0) (ds2 := 0) 2 rfl ?_
  have e18x := (f16x.2 _ _ (wnc (by decide) wn0) e9x)
  refine wq_getf rfl e18x rfl rfl ?_
  refine wq_gos (f := 1) (pc2 := 37) (ls2 := [(2, .int 16), (0, .ref 0), (1, .int a)]) (st2 := [.int ((nI (t + 1)) + (1 : Int32)), .ref 0]) (h2 := h14x) (dc2 := 0) (ds2 := 0) 2 rfl ?_
  rw [nI_1]
  refine wq_putf rfl e18x rfl rfl rfl ?_
  intro h19x e20x f21x l22x
  have e20x : zat h19x 0 = some (.inr (.inr (.inr (9, [.ref 2, .int (nI ((t + 1) + 1)), .ref 4, .ref ra, .ref rd, .long ps, .ref 34, .ref 36, .int im, .long ip, .ref 42, .ref 44, .ref 60, .ref 66, .ref 72, .ref 74, .ref 150, .ref 158])))) := e20x
  refine wq_gos (f := 1) (pc2 := 8) (ls2 := [(2, .int 8), (0, .ref 0), (1, .int a)]) (st2 := [.ref 0]) (h2 := h19x) (dc2 := 0) (ds2 := 0) 5 rfl ?_
  refine wq_getf rfl e20x rfl rfl ?_
  refine wq_gos (f := 1) (pc2 := 14) (ls2 := [(2, .int 8), (0, .ref 0), (1, .int a)]) (st2 := [.int 700, .int (nI ((t + 1) + 1))]) (h2 := h19x) (dc2 := 0) (ds2 := 0) 1 rfl ?_
  try have q23x := nI_toInt (n := ((t + 1) + 1)) (by omega)
  refine wq_ge2f rfl rfl (by omega) ?_
  refine wq_gos (f := 1) (pc2 := 18) (ls2 := [(2, .int 8), (0, .ref 0), (1, .int a)]) (st2 := [.ref 0]) (h2 := h19x) (dc2 := 0) (ds2 := 0) 1 rfl ?_
  refine wq_getf rfl e20x rfl rfl ?_
  refine wq_gos (f := 1) (pc2 := 22) (ls2 := [(2, .int 8), (0, .ref 0), (1, .int a)]) (st2 := [.ref 0, .ref 2]) (h2 := h19x) (dc2 := 0) (ds2 := 0) 1 rfl ?_
  refine wq_getf rfl e20x rfl rfl ?_
  refine wq_gos (f := 1) (pc2 := 29) (ls2 := [(2, .int 8), (0, .ref 0), (1, .int a)]) (st2 := [.int (((a).toUInt32 >>> (((8 : Int32)).toUInt32 &&& Int32.toUInt32 31)).toInt32).toInt8.toInt32, .int (nI ((t + 1) + 1)), .ref 2]) (h2 := h19x) (dc2 := 0) (ds2 := 0) 4 rfl ?_
  have e24x := (f21x.2 _ _ (wnc (by decide) wn0) e15x)
  refine wq_bast rfl e24x (by first | omega | exact zin_t (by omega) (by omega)) rfl ?_
  intro h25x e26x f27x l28x
  have e26x : zat h25x 2 = some (.inl (1, 700, (zset 0 (zset 0 (zset 0 tb ((nI t)).toNatClampNeg (vp_nar .byte (((a).toUInt32 >>> (((24 : Int32)).toUInt32 &&& Int32.toUInt32 31)).toInt32).toInt8.toInt32)) ((nI (t + 1))).toNatClampNeg (vp_nar .byte (((a).toUInt32 >>> (((16 : Int32)).toUInt32 &&& Int32.toUInt32 31)).toInt32).toInt8.toInt32)) ((nI ((t + 1) + 1))).toNatClampNeg (vp_nar .byte (((a).toUInt32 >>> (((8 : Int32)).toUInt32 &&& Int32.toUInt32 31)).toInt32).toInt8.toInt32)))) := e26x
  refine wq_gos (f := 1) (pc2 := 32) (ls2 := [(2, .int 8), (0, .ref 0), (1, .int a)]) (st2 := [.ref 0, .ref 0]) (h2 := h25x) (dc2 := 0) (ds2 := 0) 2 rfl ?_
  have e29x := (f27x.2 _ _ (wnc (by decide) wn0) e20x)
  refine wq_getf rfl e29x rfl rfl ?_
  refine wq_gos (f := 1) (pc2 := 37) (ls2 := [(2, .int 8), (0, .ref 0), (1, .int a)]) (st2 := [.int ((nI ((t + 1) + 1)) + (1 : Int32)), .ref 0]) (h2 := h25x) (dc2 := 0) (ds2 := 0) 2 rfl ?_
  rw [nI_1]
  refine wq_putf rfl e29x rfl rfl rfl ?_
  intro h30x e31x f32x l33x
  have e31x : zat h30x 0 = some (.inr (.inr (.inr (9, [.ref 2, .int (nI (((t + 1) + 1) + 1)), .ref 4, .ref ra, .ref rd, .long ps, .ref 34, .ref 36, .int im, .long ip, .ref 42, .ref 44, .ref 60, .ref 66, .ref 72, .ref 74, .ref 150, .ref 158])))) := e31x
  refine wq_gos (f := 1) (pc2 := 8) (ls2 := [(2, .int 0), (0, .ref 0), (1, .int a)]) (st2 := [.ref 0]) (h2 := h30x) (dc2 := 0) (ds2 := 0) 5 rfl ?_
  refine wq_getf rfl e31x rfl rfl ?_
  refine wq_gos (f := 1) (pc2 := 14) (ls2 := [(2, .int 0), (0, .ref 0), (1, .int a)]) (st2 := [.int 700, .int (nI (((t + 1) + 1) + 1))]) (h2 := h30x) (dc2 := 0) (ds2 := 0) 1 rfl ?_
  try have q34x := nI_toInt (n := (((t + 1) + 1) + 1)) (by omega)
  refine wq_ge2f rfl rfl (by omega) ?_
  refine wq_gos (f := 1) (pc2 := 18) (ls2 := [(2, .int 0), (0, .ref 0), (1, .int a)]) (st2 := [.ref 0]) (h2 := h30x) (dc2 := 0) (ds2 := 0) 1 rfl ?_
  refine wq_getf rfl e31x rfl rfl ?_
  refine wq_gos (f := 1) (pc2 := 22) (ls2 := [(2, .int 0), (0, .ref 0), (1, .int a)]) (st2 := [.ref 0, .ref 2]) (h2 := h30x) (dc2 := 0) (ds2 := 0) 1 rfl ?_
  refine wq_getf rfl e31x rfl rfl ?_
  refine wq_gos (f := 1) (pc2 := 29) (ls2 := [(2, .int 0), (0, .ref 0), (1, .int a)]) (st2 := [.int (((a).toUInt32 >>> (((0 : Int32)).toUInt32 &&& Int32.toUInt32 31)).toInt32).toInt8.toInt32, .int (nI (((t + 1) + 1) + 1)), .ref 2]) (h2 := h30x) (dc2 := 0) (ds2 := 0) 4 rfl ?_
  have e35x := (f32x.2 _ _ (wnc (by decide) wn0) e26x)
  refine wq_bast rfl e35x (by first | omega | exact zin_t (by omega) (by omega)) rfl ?_
  intro h36x e37x f38x l39x
  have e37x : zat h36x 2 = some (.inl (1, 700, (zset 0 (zset 0 (zset 0 (zset 0 tb ((nI t)).toNatClampNeg (vp_nar .byte (((a).toUInt32 >>> (((24 : Int32)).toUInt32 &&& Int32.toUInt32 31)).toInt32).toInt8.toInt32)) ((nI (t + 1))).toNatClampNeg (vp_nar .byte (((a).toUInt32 >>> (((16 : Int32)).toUInt32 &&& Int32.toUInt32 31)).toInt32).toInt8.toInt32)) ((nI ((t + 1) + 1))).toNatClampNeg (vp_nar .byte (((a).toUInt32 >>> (((8 : Int32)).toUInt32 &&& Int32.toUInt32 31)).toInt32).toInt8.toInt32)) ((nI (((t + 1) + 1) + 1))).toNatClampNeg (vp_nar .byte (((a).toUInt32 >>> (((0 : Int32)).toUInt32 &&& Int32.toUInt32 31)).toInt32).toInt8.toInt32)))) := e37x
  refine wq_gos (f := 1) (pc2 := 32) (ls2 := [(2, .int 0), (0, .ref 0), (1, .int a)]) (st2 := [.ref 0, .ref 0]) (h2 := h36x) (dc2 := 0) (ds2 := 0) 2 rfl ?_
  have e40x := (f38x.2 _ _ (wnc (by decide) wn0) e31x)
  refine wq_getf rfl e40x rfl rfl ?_
  refine wq_gos (f := 1) (pc2 := 37) (ls2 := [(2, .int 0), (0, .ref 0), (1, .int a)]) (st2 := [.int ((nI (((t + 1) + 1) + 1)) + (1 : Int32)), .ref 0]) (h2 := h36x) (dc2 := 0) (ds2 := 0) 2 rfl ?_
  rw [nI_1]
  refine wq_putf rfl e40x rfl rfl rfl ?_
  intro h41x e42x f43x l44x
  have e42x : zat h41x 0 = some (.inr (.inr (.inr (9, [.ref 2, .int (nI ((((t + 1) + 1) + 1) + 1)), .ref 4, .ref ra, .ref rd, .long ps, .ref 34, .ref 36, .int im, .long ip, .ref 42, .ref 44, .ref 60, .ref 66, .ref 72, .ref 74, .ref 150, .ref 158])))) := e42x
  refine wq_gos (f := 1) (pc2 := 46) (ls2 := [(2, .int (-8)), (0, .ref 0), (1, .int a)]) (st2 := []) (h2 := h41x) (dc2 := 0) (ds2 := 0) 4 rfl ?_
  have e45x := (f43x.2 _ _ (wnc (by decide) wn0) e37x)
  exact wq_ret rfl rfl ⟨h41x, (zset 0 (zset 0 (zset 0 (zset 0 tb ((nI t)).toNatClampNeg (vp_nar .byte (((a).toUInt32 >>> (((24 : Int32)).toUInt32 &&& Int32.toUInt32 31)).toInt32).toInt8.toInt32)) ((nI (t + 1))).toNatClampNeg (vp_nar .byte (((a).toUInt32 >>> (((16 : Int32)).toUInt32 &&& Int32.toUInt32 31)).toInt32).toInt8.toInt32)) ((nI ((t + 1) + 1))).toNatClampNeg (vp_nar .byte (((a).toUInt32 >>> (((8 : Int32)).toUInt32 &&& Int32.toUInt32 31)).toInt32).toInt8.toInt32)) ((nI (((t + 1) + 1) + 1))).toNatClampNeg (vp_nar .byte (((a).toUInt32 >>> (((0 : Int32)).toUInt32 &&& Int32.toUInt32 31)).toInt32).toInt8.toInt32)), rfl, (wFr_tr (wFr_sub f5x (by simp)) (wFr_tr (wFr_sub f10x (by simp)) (wFr_tr (wFr_sub f16x (by simp)) (wFr_tr (wFr_sub f21x (by simp)) (wFr_tr (wFr_sub f27x (by simp)) (wFr_tr (wFr_sub f32x (by simp)) (wFr_tr (wFr_sub f38x (by simp)) (wFr_sub f43x (by simp))))))))), (by omega), (by rw [show (.inr (.inr (.inr (9, [.ref 2, .int (nI (t + 4)), .ref 4, .ref ra, .ref rd, .long ps, .ref 34, .ref 36, .int im, .long ip, .ref 42, .ref 44, .ref 60, .ref 66, .ref 72, .ref 74, .ref 150, .ref 158]))) : zE) = .inr (.inr (.inr (9, [.ref 2, .int (nI ((((t + 1) + 1) + 1) + 1)), .ref 4, .ref ra, .ref rd, .long ps, .ref 34, .ref 36, .int im, .long ip, .ref 42, .ref 44, .ref 60, .ref 66, .ref 72, .ref 74, .ref 150, .ref 158]))) from rfl]; exact e42x), e45x, (fun i hi => by rw [zset_get, if_neg (by rw [nI_clamp (by omega)]; omega)]; rw [zset_get, if_neg (by rw [nI_clamp (by omega)]; omega)]; rw [zset_get, if_neg (by rw [nI_clamp (by omega)]; omega)]; rw [zset_get, if_neg (by rw [nI_clamp (by omega)]; omega)])⟩
set_option maxRecDepth 100000 in
set_option maxHeartbeats 4000000 in
theorem c_feed {h : zH} {t ra rd : Nat} {ps ip : Int64} {im : Int32} {a b c d e : Int32} {tb : List Int32} (hX : zat h 0 = some (.inr (.inr (.inr (9, [.ref 2, .int (nI t), .ref 4, .ref ra, .ref rd, .long ps, .ref 34, .ref 36, .int im, .long ip, .ref 42, .ref 44, .ref 60, .ref 66, .ref 72, .ref 74, .ref 150, .ref 158]))))) (hT : zat h 2 = some (.inl (1, 700, tb))) (ht : t ≤ 680) : wq 100 0 [(0, .ref 0), (1, .int a), (2, .int b), (3, .int c), (4, .int d), (5, .int e)] [] h 0 0 (fun rr9 => ∃ (h2 : zH) (tb2 : List Int32), rr9 = (some (.int (nI (t + 20))), h2, 0, 0) ∧ wFr [0, 2] h h2 ∧ h2.length = h.length ∧ zat h2 0 = some (.inr (.inr (.inr (9, [.ref 2, .int (nI (t + 20)), .ref 4, .ref ra, .ref rd, .long ps, .ref 34, .ref 36, .int im, .long ip, .ref 42, .ref 44, .ref 60, .ref 66, .ref 72, .ref 74, .ref 150, .ref 158])))) ∧ zat h2 2 = some (.inl (1, 700, tb2)) ∧ ∀ i, i < t → tb2.getD i 0 = tb.getD i 0) := by
  have qnt := nI_toInt (n := t) (by omega)
  refine wq_gos (f := 1) (pc2 := 1) (ls2 := [(0, .ref 0), (1, .int a), (2, .int b), (3, .int c), (4, .int d), (5, .int e)]) (st2 := [.ref 0]) (h2 := h) (dc2 := 0) (ds2 := 0) 1 rfl ?_
  refine wq_getf rfl hX rfl rfl ?_
  refine wq_gos (f := 1) (pc2 := 10) (ls2 := [(0, .ref 0), (1, .int a), (2, .int b), (3, .int c), (4, .int d), (5, .int e)]) (st2 := [.int 700, .int ((nI t) + (20 : Int32))]) (h2 := h) (dc2 := 0) (ds2 := 0) 3 rfl ?_
  try have q1x := nI_toInt (n := t) (by omega)
  have q2x : (20 : Int32).toInt = 20 := rfl
  try have q3x : (((nI t) + (20 : Int32))).toInt = (nI t).toInt + (20 : Int32).toInt := e_add (by omega) (by omega)
  have q4x : (700 : Int32).toInt = 700 := rfl
  refine wq_le2t rfl (by omega) ?_
  refine wq_gos (f := 1) (pc2 := 17) (ls2 := [(0, .ref 0), (1, .int a), (2, .int b), (3, .int c), (4, .int d), (5, .int e)]) (st2 := [.int a, .ref 0]) (h2 := h) (dc2 := 0) (ds2 := 0) 2 rfl ?_
  refine wq_inlv (y2 := 101) (as := [.int a]) rfl rfl rfl hX rfl (wq_mono (c_put4 hX hT (by first | omega | assumption | decide)) ?_)
  rintro _ ⟨h85x, tb25x, rfl, f85x, l85x, c05x, c15x, p05x⟩
  show wq 100 20 [(0, .ref 0), (1, .int a), (2, .int b), (3, .int c), (4, .int d), (5, .int e)] [] h85x 0 0 _
  refine wq_gos (f := 1) (pc2 := 22) (ls2 := [(0, .ref 0), (1, .int a), (2, .int b), (3, .int c), (4, .int d), (5, .int e)]) (st2 := [.int b, .ref 0]) (h2 := h85x) (dc2 := 0) (ds2 := 0) 2 rfl ?_
  refine wq_inlv (y2 := 101) (as := [.int b]) rfl rfl rfl c05x rfl (wq_mono (c_put4 c05x c15x (by first | omega | assumption | decide)) ?_)
  rintro _ ⟨h86x, tb26x, rfl, f86x, l86x, c06x, c16x, p06x⟩
  show wq 100 25 [(0, .ref 0), (1, .int a), (2, .int b), (3, .int c), (4, .int d), (5, .int e)] [] h86x 0 0 _
  refine wq_gos (f := 1) (pc2 := 27) (ls2 := [(0, .ref 0), (1, .int a), (2, .int b), (3, .int c), (4, .int d), (5, .int e)]) (st2 := [.int c, .ref 0]) (h2 := h86x) (dc2 := 0) (ds2 := 0) 2 rfl ?_
  refine wq_inlv (y2 := 101) (as := [.int c]) rfl rfl rfl c06x rfl (wq_mono (c_put4 c06x c16x (by first | omega | assumption | decide)) ?_)
  rintro _ ⟨h87x, tb27x, rfl, f87x, l87x, c07x, c17x, p07x⟩
  show wq 100 30 [(0, .ref 0), (1, .int a), (2, .int b), (3, .int c), (4, .int d), (5, .int e)] [] h87x 0 0 _
  refine wq_gos (f := 1) (pc2 := 33) (ls2 := [(0, .ref 0), (1, .int a), (2, .int b), (3, .int c), (4, .int d), (5, .int e)]) (st2 := [.int d, .ref 0]) (h2 := h87x) (dc2 := 0) (ds2 := 0) 2 rfl ?_
  refine wq_inlv (y2 := 101) (as := [.int d]) rfl rfl rfl c07x rfl (wq_mono (c_put4 c07x c17x (by first | omega | assumption | decide)) ?_)
  rintro _ ⟨h88x, tb28x, rfl, f88x, l88x, c08x, c18x, p08x⟩
  show wq 100 36 [(0, .ref 0), (1, .int a), (2, .int b), (3, .int c), (4, .int d), (5, .int e)] [] h88x 0 0 _
  refine wq_gos (f := 1) (pc2 := 39) (ls2 := [(0, .ref 0), (1, .int a), (2, .int b), (3, .int c), (4, .int d), (5, .int e)]) (st2 := [.int e, .ref 0]) (h2 := h88x) (dc2 := 0) (ds2 := 0) 2 rfl ?_
  refine wq_inlv (y2 := 101) (as := [.int e]) rfl rfl rfl c08x rfl (wq_mono (c_put4 c08x c18x (by first | omega | assumption | decide)) ?_)
  rintro _ ⟨h89x, tb29x, rfl, f89x, l89x, c09x, c19x, p09x⟩
  show wq 100 42 [(0, .ref 0), (1, .int a), (2, .int b), (3, .int c), (4, .int d), (5, .int e)] [] h89x 0 0 _
  refine wq_gos (f := 1) (pc2 := 43) (ls2 := [(0, .ref 0), (1, .int a), (2, .int b), (3, .int c), (4, .int d), (5, .int e)]) (st2 := [.ref 0]) (h2 := h89x) (dc2 := 0) (ds2 := 0) 1 rfl ?_
  refine wq_getf rfl c09x rfl rfl ?_
  have w10x : (nI (t + 20)) = (nI (((((t + 4) + 4) + 4) + 4) + 4)) := by first | rfl | assumption | omega
  rw [w10x]
  exact wq_ret rfl rfl ⟨h89x, tb29x, rfl, (wFr_tr (wFr_sub f85x (by simp)) (wFr_tr (wFr_sub f86x (by simp)) (wFr_tr (wFr_sub f87x (by simp)) (wFr_tr (wFr_sub f88x (by simp)) (wFr_sub f89x (by simp)))))), (by omega), (by rw [show (.inr (.inr (.inr (9, [.ref 2, .int (nI (t + 20)), .ref 4, .ref ra, .ref rd, .long ps, .ref 34, .ref 36, .int im, .long ip, .ref 42, .ref 44, .ref 60, .ref 66, .ref 72, .ref 74, .ref 150, .ref 158]))) : zE) = .inr (.inr (.inr (9, [.ref 2, .int (nI (((((t + 4) + 4) + 4) + 4) + 4)), .ref 4, .ref ra, .ref rd, .long ps, .ref 34, .ref 36, .int im, .long ip, .ref 42, .ref 44, .ref 60, .ref 66, .ref 72, .ref 74, .ref 150, .ref 158]))) from rfl]; exact c09x), c19x, (fun i hi => (p09x i (by omega)).trans ((p08x i (by omega)).trans ((p07x i (by omega)).trans ((p06x i (by omega)).trans (p05x i hi)))))⟩
set_option maxRecDepth 100000 in
set_option maxHeartbeats 4000000 in
theorem c_fault {h : zH} {t ra rd : Nat} {ps ip : Int64} {im : Int32} {wr wa : Int32} {r2 r3 r4 r5 r6 r7 r8 r9 : Value} {w : Int32} (hX : zat h 0 = some (.inr (.inr (.inr (9, [.ref 2, .int (nI t), .ref 4, .ref ra, .ref rd, .long ps, .ref 34, .ref 36, .int im, .long ip, .ref 42, .ref 44, .ref 60, .ref 66, .ref 72, .ref 74, .ref 150, .ref 158]))))) (hR : zat h 4 = some (.inr (.inr (.inr (4, [.int wr, .int wa, r2, r3, r4, r5, r6, r7, r8, r9])))))  : wq 103 0 [(0, .ref 0), (1, .int w)] [] h 0 0 (fun rr9 => rr9 = (some (.int (if w = 0 then wr else if w = 1 then wa else (-1))), h, 0, 0)) := by
  refine wq_gos (f := 1) (pc2 := 1) (ls2 := [(0, .ref 0), (1, .int w)]) (st2 := [.int w]) (h2 := h) (dc2 := 0) (ds2 := 0) 1 rfl ?_
  refine wq_ne0 rfl rfl (fun b1x => ?_) (fun b1x => ?_)
  · have q2x : w.toInt ≠ 0 := fun q => b1x (Int32.toInt_inj.mp q)
    refine wq_gos (f := 1) (pc2 := 14) (ls2 := [(0, .ref 0), (1, .int w)]) (st2 := [.int 1, .int w]) (h2 := h) (dc2 := 0) (ds2 := 0) 2 rfl ?_
    have q3x : (1 : Int32).toInt = 1 := rfl
    refine wq_ne2 rfl rfl (fun b4x => ?_) (fun b4x => ?_)
    · have q5x : w.toInt ≠ 1 := fun q => b4x (Int32.toInt_inj.mp q)
      refine wq_gos (f := 1) (pc2 := 28) (ls2 := [(0, .ref 0), (1, .int w)]) (st2 := [.int (-1)]) (h2 := h) (dc2 := 0) (ds2 := 0) 1 rfl ?_
      have w6x : (if w = 0 then wr else if w = 1 then wa else (-1)) = (-1 : Int32) := by rw [if_neg b1x, if_neg b4x]
      rw [w6x]
      exact wq_ret rfl rfl rfl
    · have q7x : w.toInt = 1 := congrArg Int32.toInt b4x
      refine wq_gos (f := 1) (pc2 := 18) (ls2 := [(0, .ref 0), (1, .int w)]) (st2 := [.ref 0]) (h2 := h) (dc2 := 0) (ds2 := 0) 1 rfl ?_
      refine wq_getf rfl hX rfl rfl ?_
      refine wq_getf rfl hR rfl rfl ?_
      refine wq_gos (f := 1) (pc2 := 28) (ls2 := [(0, .ref 0), (1, .int w)]) (st2 := [.int wa]) (h2 := h) (dc2 := 0) (ds2 := 0) 1 rfl ?_
      have w8x : (if w = 0 then wr else if w = 1 then wa else (-1)) = wa := by rw [if_neg b1x, if_pos b4x]
      rw [w8x]
      exact wq_ret rfl rfl rfl
  · have q9x : w.toInt = 0 := congrArg Int32.toInt b1x
    refine wq_gos (f := 1) (pc2 := 5) (ls2 := [(0, .ref 0), (1, .int w)]) (st2 := [.ref 0]) (h2 := h) (dc2 := 0) (ds2 := 0) 1 rfl ?_
    refine wq_getf rfl hX rfl rfl ?_
    refine wq_getf rfl hR rfl rfl ?_
    have w10x : (if w = 0 then wr else if w = 1 then wa else (-1)) = wr := by rw [if_pos b1x]
    rw [w10x]
    exact wq_ret rfl rfl rfl
set_option maxRecDepth 100000 in
set_option maxHeartbeats 4000000 in
theorem c_aimO {h : zH} {t ra rd : Nat} {ps ip : Int64} {im : Int32} {w : Int32} (hX : zat h 0 = some (.inr (.inr (.inr (9, [.ref 2, .int (nI t), .ref 4, .ref ra, .ref rd, .long ps, .ref 34, .ref 36, .int im, .long ip, .ref 42, .ref 44, .ref 60, .ref 66, .ref 72, .ref 74, .ref 150, .ref 158]))))) (hw : w.toInt < 0 ∨ 5 < w.toInt) : wq 110 0 [(0, .ref 0), (1, .int w)] [] h 0 0 (fun rr9 => rr9 = (some (.long 0), h, 0, 0)) := by
  refine wq_gos (f := 1) (pc2 := 1) (ls2 := [(0, .ref 0), (1, .int w)]) (st2 := [.int w]) (h2 := h) (dc2 := 0) (ds2 := 0) 1 rfl ?_
  refine wq_lt0 rfl rfl (fun b1x => ?_) (fun b1x => ?_)
  · refine wq_gos (f := 1) (pc2 := 20) (ls2 := [(0, .ref 0), (1, .int w)]) (st2 := [.long 0]) (h2 := h) (dc2 := 0) (ds2 := 0) 2 rfl ?_
    exact wq_ret rfl rfl rfl
  · refine wq_gos (f := 1) (pc2 := 6) (ls2 := [(0, .ref 0), (1, .int w)]) (st2 := [.int 5, .int w]) (h2 := h) (dc2 := 0) (ds2 := 0) 2 rfl ?_
    have q2x : (5 : Int32).toInt = 5 := rfl
    refine wq_le2f rfl rfl (by omega) ?_
    refine wq_gos (f := 1) (pc2 := 20) (ls2 := [(0, .ref 0), (1, .int w)]) (st2 := [.long 0]) (h2 := h) (dc2 := 0) (ds2 := 0) 2 rfl ?_
    exact wq_ret rfl rfl rfl
set_option maxRecDepth 100000 in
set_option maxHeartbeats 4000000 in
theorem c_aimI {h : zH} {t ra rd : Nat} {ps ip : Int64} {im : Int32} {w : Nat} {pl : List Int32} (hX : zat h 0 = some (.inr (.inr (.inr (9, [.ref 2, .int (nI t), .ref 4, .ref ra, .ref rd, .long ps, .ref 34, .ref 36, .int im, .long ip, .ref 42, .ref 44, .ref 60, .ref 66, .ref 72, .ref 74, .ref 150, .ref 158]))))) (hA : zat h 34 = some (.inl (0, 6, pl))) (hw : w ≤ 5) : wq 110 0 [(0, .ref 0), (1, .int (nI w))] [] h 0 0 (fun rr9 => rr9 = (some (.long (pl.getD w 0).toInt64), h, 0, 0)) := by
  have qnw := nI_toInt (n := w) (by omega)
  refine wq_gos (f := 1) (pc2 := 1) (ls2 := [(0, .ref 0), (1, .int (nI w))]) (st2 := [.int (nI w)]) (h2 := h) (dc2 := 0) (ds2 := 0) 1 rfl ?_
  try have q1x := nI_toInt (n := w) (by omega)
  refine wq_lt0f rfl rfl (by omega) ?_
  refine wq_gos (f := 1) (pc2 := 6) (ls2 := [(0, .ref 0), (1, .int (nI w))]) (st2 := [.int 5, .int (nI w)]) (h2 := h) (dc2 := 0) (ds2 := 0) 2 rfl ?_
  have q2x : (5 : Int32).toInt = 5 := rfl
  refine wq_le2t rfl (by omega) ?_
  refine wq_gos (f := 1) (pc2 := 14) (ls2 := [(0, .ref 0), (1, .int (nI w))]) (st2 := [.ref 0]) (h2 := h) (dc2 := 0) (ds2 := 0) 1 rfl ?_
  refine wq_getf rfl hX rfl rfl ?_
  refine wq_gos (f := 1) (pc2 := 18) (ls2 := [(0, .ref 0), (1, .int (nI w))]) (st2 := [.int (nI w), .ref 34]) (h2 := h) (dc2 := 0) (ds2 := 0) 1 rfl ?_
  refine wq_ialdn rfl hA (by omega) (by decide) rfl ?_
  refine wq_gos (f := 1) (pc2 := 20) (ls2 := [(0, .ref 0), (1, .int (nI w))]) (st2 := [.long ((pl.getD w 0)).toInt64]) (h2 := h) (dc2 := 0) (ds2 := 0) 1 rfl ?_
  exact wq_ret rfl rfl rfl
set_option maxRecDepth 100000 in
set_option maxHeartbeats 4000000 in
theorem c_keep {h : zH} {t ra rd : Nat} {ps ip : Int64} {im : Int32} {pl ia : List Int32} (hX : zat h 0 = some (.inr (.inr (.inr (9, [.ref 2, .int (nI t), .ref 4, .ref ra, .ref rd, .long ps, .ref 34, .ref 36, .int im, .long ip, .ref 42, .ref 44, .ref 60, .ref 66, .ref 72, .ref 74, .ref 150, .ref 158]))))) (hA : zat h 34 = some (.inl (0, 6, pl))) (hI : zat h 42 = some (.inl (0, 6, ia)))  : wq 141 0 [(0, .ref 0)] [] h 0 0 (fun rr9 => ∃ (h2 : zH), rr9 = (some (.int 1), h2, 0, 0) ∧ wFr [0, 42] h h2 ∧ h2.length = h.length ∧ zat h2 0 = some (.inr (.inr (.inr (9, [.ref 2, .int (nI t), .ref 4, .ref ra, .ref rd, .long ps, .ref 34, .ref 36, .int 1, .long ps, .ref 42, .ref 44, .ref 60, .ref 66, .ref 72, .ref 74, .ref 150, .ref 158])))) ∧ zat h2 42 = some (.inl (0, 6, (zcpy 0 pl ia 0 0 6)))) := by
  refine wq_gos (f := 1) (pc2 := 2) (ls2 := [(0, .ref 0)]) (st2 := [.int 1, .ref 0]) (h2 := h) (dc2 := 0) (ds2 := 0) 2 rfl ?_
  refine wq_putf rfl hX rfl rfl rfl ?_
  intro h1x e2x f3x l4x
  have e2x : zat h1x 0 = some (.inr (.inr (.inr (9, [.ref 2, .int (nI t), .ref 4, .ref ra, .ref rd, .long ps, .ref 34, .ref 36, .int 1, .long ip, .ref 42, .ref 44, .ref 60, .ref 66, .ref 72, .ref 74, .ref 150, .ref 158])))) := e2x
  refine wq_gos (f := 1) (pc2 := 7) (ls2 := [(0, .ref 0)]) (st2 := [.ref 0, .ref 0]) (h2 := h1x) (dc2 := 0) (ds2 := 0) 2 rfl ?_
  refine wq_getf rfl e2x rfl rfl ?_
  refine wq_putf rfl e2x rfl rfl rfl ?_
  intro h5x e6x f7x l8x
  have e6x : zat h5x 0 = some (.inr (.inr (.inr (9, [.ref 2, .int (nI t), .ref 4, .ref ra, .ref rd, .long ps, .ref 34, .ref 36, .int 1, .long ps, .ref 42, .ref 44, .ref 60, .ref 66, .ref 72, .ref 74, .ref 150, .ref 158])))) := e6x
  refine wq_gos (f := 1) (pc2 := 14) (ls2 := [(0, .ref 0)]) (st2 := [.ref 0]) (h2 := h5x) (dc2 := 0) (ds2 := 0) 1 rfl ?_
  refine wq_getf rfl e6x rfl rfl ?_
  refine wq_gos (f := 1) (pc2 := 19) (ls2 := [(0, .ref 0)]) (st2 := [.ref 0, .int 0, .ref 34]) (h2 := h5x) (dc2 := 0) (ds2 := 0) 2 rfl ?_
  refine wq_getf rfl e6x rfl rfl ?_
  refine wq_gos (f := 1) (pc2 := 25) (ls2 := [(0, .ref 0)]) (st2 := [.int 6, .int 0, .ref 42, .int 0, .ref 34]) (h2 := h5x) (dc2 := 0) (ds2 := 0) 2 rfl ?_
  have e9x := (f7x.2 _ _ (wnc (by decide) wn0) (f3x.2 _ _ (wnc (by decide) wn0) hI))
  have e10x := (f7x.2 _ _ (wnc (by decide) wn0) (f3x.2 _ _ (wnc (by decide) wn0) hA))
  have q11x : (0 : Int32).toInt = 0 := rfl
  have q12x : (6 : Int32).toInt = 6 := rfl
  refine wq_cpi rfl e10x e9x (by decide) (by decide) (by decide) (by decide) (by decide) rfl ?_
  intro h13x e14x f15x l16x
  have e14x : zat h13x 42 = some (.inl (0, 6, (zcpy 0 pl ia 0 0 6))) := e14x
  refine wq_gos (f := 1) (pc2 := 29) (ls2 := [(0, .ref 0)]) (st2 := [.int 1]) (h2 := h13x) (dc2 := 0) (ds2 := 0) 1 rfl ?_
  have e17x := (f15x.2 _ _ (wnc (by decide) wn0) e6x)
  exact wq_ret rfl rfl ⟨h13x, rfl, (wFr_tr (wFr_sub f3x (by simp)) (wFr_tr (wFr_sub f7x (by simp)) (wFr_sub f15x (by simp)))), (by omega), e17x, e14x⟩
set_option maxRecDepth 100000 in
set_option maxHeartbeats 4000000 in
theorem c_backN {h : zH} {t ra rd : Nat} {ps ip : Int64} {im : Int32} (hX : zat h 0 = some (.inr (.inr (.inr (9, [.ref 2, .int (nI t), .ref 4, .ref ra, .ref rd, .long ps, .ref 34, .ref 36, .int im, .long ip, .ref 42, .ref 44, .ref 60, .ref 66, .ref 72, .ref 74, .ref 150, .ref 158]))))) (hi : im = 0) : wq 142 0 [(0, .ref 0)] [] h 0 0 (fun rr9 => rr9 = (some (.int 0), h, 0, 0)) := by
  refine wq_gos (f := 1) (pc2 := 1) (ls2 := [(0, .ref 0)]) (st2 := [.ref 0]) (h2 := h) (dc2 := 0) (ds2 := 0) 1 rfl ?_
  refine wq_getf rfl hX rfl rfl ?_
  refine wq_ne0f rfl rfl hi ?_
  refine wq_gos (f := 1) (pc2 := 8) (ls2 := [(0, .ref 0)]) (st2 := [.int 0]) (h2 := h) (dc2 := 0) (ds2 := 0) 1 rfl ?_
  exact wq_ret rfl rfl rfl
set_option maxRecDepth 100000 in
set_option maxHeartbeats 4000000 in
theorem c_back {h : zH} {t ra rd : Nat} {ps ip : Int64} {im : Int32} {us un : Nat} {pl ia : List Int32} (hX : zat h 0 = some (.inr (.inr (.inr (9, [.ref 2, .int (nI t), .ref 4, .ref ra, .ref rd, .long ps, .ref 34, .ref 36, .int im, .long ip, .ref 42, .ref 44, .ref 60, .ref 66, .ref 72, .ref 74, .ref 150, .ref 158]))))) (hP : zat h 36 = some (.inr (.inr (.inr (2, [.int (nI us), .int (nI un), .ref 38, .ref 40]))))) (hA : zat h 34 = some (.inl (0, 6, pl))) (hI : zat h 42 = some (.inl (0, 6, ia))) (hi : im ≠ 0) : wq 142 0 [(0, .ref 0)] [] h 0 0 (fun rr9 => ∃ (h2 : zH), rr9 = (some (.int 1), h2, 0, 0) ∧ wFr [0, 34, 36] h h2 ∧ h2.length = h.length ∧ zat h2 0 = some (.inr (.inr (.inr (9, [.ref 2, .int (nI t), .ref 4, .ref ra, .ref rd, .long ip, .ref 34, .ref 36, .int im, .long ip, .ref 42, .ref 44, .ref 60, .ref 66, .ref 72, .ref 74, .ref 150, .ref 158])))) ∧ zat h2 34 = some (.inl (0, 6, (zcpy 0 ia pl 0 0 6))) ∧ zat h2 36 = some (.inr (.inr (.inr (2, [.int 0, .int 0, .ref 38, .ref 40]))))) := by
  refine wq_gos (f := 1) (pc2 := 1) (ls2 := [(0, .ref 0)]) (st2 := [.ref 0]) (h2 := h) (dc2 := 0) (ds2 := 0) 1 rfl ?_
  refine wq_getf rfl hX rfl rfl ?_
  refine wq_ne0t rfl hi ?_
  refine wq_gos (f := 1) (pc2 := 11) (ls2 := [(0, .ref 0)]) (st2 := [.ref 0, .ref 0]) (h2 := h) (dc2 := 0) (ds2 := 0) 2 rfl ?_
  refine wq_getf rfl hX rfl rfl ?_
  refine wq_putf rfl hX rfl rfl rfl ?_
  intro h1x e2x f3x l4x
  have e2x : zat h1x 0 = some (.inr (.inr (.inr (9, [.ref 2, .int (nI t), .ref 4, .ref ra, .ref rd, .long ip, .ref 34, .ref 36, .int im, .long ip, .ref 42, .ref 44, .ref 60, .ref 66, .ref 72, .ref 74, .ref 150, .ref 158])))) := e2x
  refine wq_gos (f := 1) (pc2 := 18) (ls2 := [(0, .ref 0)]) (st2 := [.ref 0]) (h2 := h1x) (dc2 := 0) (ds2 := 0) 1 rfl ?_
  refine wq_getf rfl e2x rfl rfl ?_
  refine wq_gos (f := 1) (pc2 := 23) (ls2 := [(0, .ref 0)]) (st2 := [.ref 0, .int 0, .ref 42]) (h2 := h1x) (dc2 := 0) (ds2 := 0) 2 rfl ?_
  refine wq_getf rfl e2x rfl rfl ?_
  refine wq_gos (f := 1) (pc2 := 29) (ls2 := [(0, .ref 0)]) (st2 := [.int 6, .int 0, .ref 34, .int 0, .ref 42]) (h2 := h1x) (dc2 := 0) (ds2 := 0) 2 rfl ?_
  have e5x := (f3x.2 _ _ (wnc (by decide) wn0) hA)
  have e6x := (f3x.2 _ _ (wnc (by decide) wn0) hI)
  have q7x : (0 : Int32).toInt = 0 := rfl
  have q8x : (6 : Int32).toInt = 6 := rfl
  refine wq_cpi rfl e6x e5x (by decide) (by decide) (by decide) (by decide) (by decide) rfl ?_
  intro h9x e10x f11x l12x
  have e10x : zat h9x 34 = some (.inl (0, 6, (zcpy 0 ia pl 0 0 6))) := e10x
  refine wq_gos (f := 1) (pc2 := 33) (ls2 := [(0, .ref 0)]) (st2 := [.ref 0]) (h2 := h9x) (dc2 := 0) (ds2 := 0) 1 rfl ?_
  have e13x := (f11x.2 _ _ (wnc (by decide) wn0) e2x)
  refine wq_getf rfl e13x rfl rfl ?_
  have e14x := (f11x.2 _ _ (wnc (by decide) wn0) (f3x.2 _ _ (wnc (by decide) wn0) hP))
  refine wq_inlv (y2 := 22) (as := []) rfl rfl rfl e14x rfl ?_
  show wq 22 0 [(0, .ref 36)] [] h9x 0 0 _
  refine wq_gos (f := 1) (pc2 := 2) (ls2 := [(0, .ref 36)]) (st2 := [.int 0, .ref 36]) (h2 := h9x) (dc2 := 0) (ds2 := 0) 2 rfl ?_
  refine wq_putf rfl e14x rfl rfl rfl ?_
  intro h15x e16x f17x l18x
  have e16x : zat h15x 36 = some (.inr (.inr (.inr (2, [.int 0, .int (nI un), .ref 38, .ref 40])))) := e16x
  refine wq_gos (f := 1) (pc2 := 7) (ls2 := [(0, .ref 36)]) (st2 := [.int 0, .ref 36]) (h2 := h15x) (dc2 := 0) (ds2 := 0) 2 rfl ?_
  refine wq_putf rfl e16x rfl rfl rfl ?_
  intro h19x e20x f21x l22x
  have e20x : zat h19x 36 = some (.inr (.inr (.inr (2, [.int 0, .int 0, .ref 38, .ref 40])))) := e20x
  refine wq_ret rfl rfl ?_
  show wq 142 39 [(0, .ref 0)] [] h19x 0 0 _
  refine wq_gos (f := 1) (pc2 := 40) (ls2 := [(0, .ref 0)]) (st2 := [.int 1]) (h2 := h19x) (dc2 := 0) (ds2 := 0) 1 rfl ?_
  have e23x := (f21x.2 _ _ (wnc (by decide) wn0) (f17x.2 _ _ (wnc (by decide) wn0) e13x))
  have e24x := (f21x.2 _ _ (wnc (by decide) wn0) (f17x.2 _ _ (wnc (by decide) wn0) e10x))
  exact wq_ret rfl rfl ⟨h19x, rfl, (wFr_tr (wFr_sub f3x (by simp)) (wFr_tr (wFr_sub f11x (by simp)) (wFr_tr (wFr_sub f17x (by simp)) (wFr_sub f21x (by simp))))), (by omega), e23x, e24x, e20x⟩
theorem cl6 {n : Nat} (h : n ≤ 40) : ((nI n) * (6 : Int32)).toNatClampNeg = 6 * n := by
  have q := nI_toInt (n := n) (by omega)
  have q2 : ((nI n) * (6 : Int32)).toInt = (nI n).toInt * 6 := e_mulr rfl (by omega) (by omega)
  show ((nI n) * (6 : Int32)).toInt.toNat = 6 * n
  omega
set_option maxRecDepth 100000 in
set_option maxHeartbeats 4000000 in
theorem c_push {h : zH} {us un : Nat} {pp : List Int64} {ua : List Int32} {ps : Int64} {pl : List Int32} (hP : zat h 36 = some (.inr (.inr (.inr (2, [.int (nI us), .int (nI un), .ref 38, .ref 40]))))) (hP8 : zat h 38 = some (.inr (.inl (20, pp)))) (hP0 : zat h 40 = some (.inl (0, 120, ua))) (hA : zat h 34 = some (.inl (0, 6, pl))) (hu : un < 20 ∧ us ≤ 20) : wq 23 0 [(0, .ref 36), (1, .long ps), (3, .ref 34)] [] h 0 0 (fun rr9 => ∃ (h2 : zH) (un2 : Nat) (us2 : Nat), rr9 = (none, h2, 0, 0) ∧ wFr [36, 38, 40] h h2 ∧ h2.length = h.length ∧ zat h2 36 = some (.inr (.inr (.inr (2, [.int (nI us2), .int (nI un2), .ref 38, .ref 40])))) ∧ zat h2 38 = some (.inr (.inl (20, (zset 0 pp un ps)))) ∧ zat h2 40 = some (.inl (0, 120, (zcpy 0 pl ua 0 (6 * un) 6))) ∧ un2 = (un + 1) % 20 ∧ us2 = min (us + 1) 20) := by
  have qnun := nI_toInt (n := un) (by omega)
  have qnus := nI_toInt (n := us) (by omega)
  refine wq_gos (f := 1) (pc2 := 1) (ls2 := [(0, .ref 36), (1, .long ps), (3, .ref 34)]) (st2 := [.ref 36]) (h2 := h) (dc2 := 0) (ds2 := 0) 1 rfl ?_
  refine wq_getf rfl hP rfl rfl ?_
  refine wq_gos (f := 1) (pc2 := 5) (ls2 := [(0, .ref 36), (1, .long ps), (3, .ref 34)]) (st2 := [.ref 36, .ref 38]) (h2 := h) (dc2 := 0) (ds2 := 0) 1 rfl ?_
  refine wq_getf rfl hP rfl rfl ?_
  refine wq_gos (f := 1) (pc2 := 9) (ls2 := [(0, .ref 36), (1, .long ps), (3, .ref 34)]) (st2 := [.long ps, .int (nI un), .ref 38]) (h2 := h) (dc2 := 0) (ds2 := 0) 1 rfl ?_
  try have q1x := nI_toInt (n := un) (by omega)
  refine wq_lastn rfl hP8 (by omega) (by decide) rfl ?_
  intro h2x e3x f4x l5x
  have e3x : zat h2x 38 = some (.inr (.inl (20, (zset 0 pp un ps)))) := e3x
  refine wq_gos (f := 1) (pc2 := 13) (ls2 := [(0, .ref 36), (1, .long ps), (3, .ref 34)]) (st2 := [.ref 36, .int 0, .ref 34]) (h2 := h2x) (dc2 := 0) (ds2 := 0) 3 rfl ?_
  have e6x := (f4x.2 _ _ (wnc (by decide) wn0) hP)
  refine wq_getf rfl e6x rfl rfl ?_
  refine wq_gos (f := 1) (pc2 := 17) (ls2 := [(0, .ref 36), (1, .long ps), (3, .ref 34)]) (st2 := [.ref 36, .ref 40, .int 0, .ref 34]) (h2 := h2x) (dc2 := 0) (ds2 := 0) 1 rfl ?_
  refine wq_getf rfl e6x rfl rfl ?_
  refine wq_gos (f := 1) (pc2 := 25) (ls2 := [(0, .ref 36), (1, .long ps), (3, .ref 34)]) (st2 := [.int 6, .int ((nI un) * (6 : Int32)), .ref 40, .int 0, .ref 34]) (h2 := h2x) (dc2 := 0) (ds2 := 0) 3 rfl ?_
  have e7x := (f4x.2 _ _ (wnc (by decide) wn0) hP0)
  have e8x := (f4x.2 _ _ (wnc (by decide) wn0) hA)
  have q9x : (0 : Int32).toInt = 0 := rfl
  have q10x : (6 : Int32).toInt = 6 := rfl
  try have q11x : (((nI un) * (6 : Int32))).toInt = (nI un).toInt * 6 := e_mulr rfl (by omega) (by omega)
  refine wq_cpi rfl e8x e7x (by first | decide | omega) (by first | decide | omega) (by first | decide | omega) (by first | decide | omega) (by first | decide | omega) rfl ?_
  intro h12x e13x f14x l15x
  have e13x : zat h12x 40 = some (.inl (0, 120, (zcpy 0 pl ua 0 (((nI un) * (6 : Int32))).toNatClampNeg 6))) := e13x
  refine wq_gos (f := 1) (pc2 := 30) (ls2 := [(0, .ref 36), (1, .long ps), (3, .ref 34)]) (st2 := [.ref 36, .ref 36]) (h2 := h12x) (dc2 := 0) (ds2 := 0) 2 rfl ?_
  have e16x := (f14x.2 _ _ (wnc (by decide) wn0) e6x)
  refine wq_getf rfl e16x rfl rfl ?_
  refine wq_gos (f := 1) (pc2 := 35) (ls2 := [(0, .ref 36), (1, .long ps), (3, .ref 34)]) (st2 := [.int ((nI un) + (1 : Int32)), .ref 36]) (h2 := h12x) (dc2 := 0) (ds2 := 0) 2 rfl ?_
  rw [nI_1]
  refine wq_gos (f := 1) (pc2 := 37) (ls2 := [(0, .ref 36), (1, .long ps), (3, .ref 34)]) (st2 := [.int 20, .int (nI (un + 1)), .ref 36]) (h2 := h12x) (dc2 := 0) (ds2 := 0) 1 rfl ?_
  try have q17x := nI_toInt (n := (un + 1)) (by omega)
  have q18x : (20 : Int32).toInt = 20 := rfl
  refine wq_ne2 rfl rfl (fun b19x => ?_) (fun b19x => ?_)
  · have q20x : (nI (un + 1)).toInt ≠ 20 := fun q => b19x (Int32.toInt_inj.mp q)
    refine wq_gos (f := 1) (pc2 := 45) (ls2 := [(0, .ref 36), (1, .long ps), (3, .ref 34)]) (st2 := [.ref 36, .ref 36]) (h2 := h12x) (dc2 := 0) (ds2 := 0) 1 rfl ?_
    refine wq_getf rfl e16x rfl rfl ?_
    refine wq_gos (f := 1) (pc2 := 50) (ls2 := [(0, .ref 36), (1, .long ps), (3, .ref 34)]) (st2 := [.int ((nI un) + (1 : Int32)), .ref 36]) (h2 := h12x) (dc2 := 0) (ds2 := 0) 2 rfl ?_
    rw [nI_1]
    refine wq_putf rfl e16x rfl rfl rfl ?_
    intro h21x e22x f23x l24x
    have e22x : zat h21x 36 = some (.inr (.inr (.inr (2, [.int (nI us), .int (nI (un + 1)), .ref 38, .ref 40])))) := e22x
    refine wq_gos (f := 1) (pc2 := 55) (ls2 := [(0, .ref 36), (1, .long ps), (3, .ref 34)]) (st2 := [.ref 36, .ref 36]) (h2 := h21x) (dc2 := 0) (ds2 := 0) 2 rfl ?_
    refine wq_getf rfl e22x rfl rfl ?_
    refine wq_gos (f := 1) (pc2 := 60) (ls2 := [(0, .ref 36), (1, .long ps), (3, .ref 34)]) (st2 := [.int ((nI us) + (1 : Int32)), .ref 36]) (h2 := h21x) (dc2 := 0) (ds2 := 0) 2 rfl ?_
    rw [nI_1]
    refine wq_gos (f := 1) (pc2 := 62) (ls2 := [(0, .ref 36), (1, .long ps), (3, .ref 34)]) (st2 := [.int 20, .int (nI (us + 1)), .ref 36]) (h2 := h21x) (dc2 := 0) (ds2 := 0) 1 rfl ?_
    refine wq_inl (y2 := 285) (as := [.int (nI (us + 1)), .int 20]) rfl rfl rfl ?_
    show wq 285 0 [(0, .int (nI (us + 1))), (1, .int 20)] [] h21x 0 0 _
    refine wq_gos (f := 1) (pc2 := 2) (ls2 := [(0, .int (nI (us + 1))), (1, .int 20)]) (st2 := [.int 20, .int (nI (us + 1))]) (h2 := h21x) (dc2 := 0) (ds2 := 0) 2 rfl ?_
    try have q25x := nI_toInt (n := (us + 1)) (by omega)
    refine wq_gt2 rfl rfl (fun b26x => ?_) (fun b26x => ?_)
    · refine wq_gos (f := 1) (pc2 := 10) (ls2 := [(0, .int (nI (us + 1))), (1, .int 20)]) (st2 := [.int 20]) (h2 := h21x) (dc2 := 0) (ds2 := 0) 1 rfl ?_
      refine wq_ret rfl rfl ?_
      show wq 23 65 [(0, .ref 36), (1, .long ps), (3, .ref 34)] [.int 20, .ref 36] h21x 0 0 _
      refine wq_putf rfl e22x rfl rfl rfl ?_
      intro h27x e28x f29x l30x
      have e28x : zat h27x 36 = some (.inr (.inr (.inr (2, [.int 20, .int (nI (un + 1)), .ref 38, .ref 40])))) := e28x
      have e31x := (f29x.2 _ _ (wnc (by decide) wn0) (f23x.2 _ _ (wnc (by decide) wn0) (f14x.2 _ _ (wnc (by decide) wn0) e3x)))
      have e32x := (f29x.2 _ _ (wnc (by decide) wn0) (f23x.2 _ _ (wnc (by decide) wn0) e13x))
      exact wq_ret rfl rfl ⟨h27x, (un + 1), 20, rfl, (wFr_tr (wFr_sub f4x (by simp)) (wFr_tr (wFr_sub f14x (by simp)) (wFr_tr (wFr_sub f23x (by simp)) (wFr_sub f29x (by simp))))), (by omega), e28x, e31x, (by rw [← cl6 (n := un) (by omega)]; exact e32x), (by first | omega | assumption | decide), (by first | omega | assumption | decide)⟩
    · refine wq_gos (f := 1) (pc2 := 10) (ls2 := [(0, .int (nI (us + 1))), (1, .int 20)]) (st2 := [.int (nI (us + 1))]) (h2 := h21x) (dc2 := 0) (ds2 := 0) 2 rfl ?_
      refine wq_ret rfl rfl ?_
      show wq 23 65 [(0, .ref 36), (1, .long ps), (3, .ref 34)] [.int (nI (us + 1)), .ref 36] h21x 0 0 _
      refine wq_putf rfl e22x rfl rfl rfl ?_
      intro h33x e34x f35x l36x
      have e34x : zat h33x 36 = some (.inr (.inr (.inr (2, [.int (nI (us + 1)), .int (nI (un + 1)), .ref 38, .ref 40])))) := e34x
      have e37x := (f35x.2 _ _ (wnc (by decide) wn0) (f23x.2 _ _ (wnc (by decide) wn0) (f14x.2 _ _ (wnc (by decide) wn0) e3x)))
      have e38x := (f35x.2 _ _ (wnc (by decide) wn0) (f23x.2 _ _ (wnc (by decide) wn0) e13x))
      exact wq_ret rfl rfl ⟨h33x, (un + 1), (us + 1), rfl, (wFr_tr (wFr_sub f4x (by simp)) (wFr_tr (wFr_sub f14x (by simp)) (wFr_tr (wFr_sub f23x (by simp)) (wFr_sub f35x (by simp))))), (by omega), e34x, e37x, (by rw [← cl6 (n := un) (by omega)]; exact e38x), (by first | omega | assumption | decide), (by first | omega | assumption | decide)⟩
  · have q39x : (nI (un + 1)).toInt = 20 := congrArg Int32.toInt b19x
    refine wq_gos (f := 1) (pc2 := 50) (ls2 := [(0, .ref 36), (1, .long ps), (3, .ref 34)]) (st2 := [.int 0, .ref 36]) (h2 := h12x) (dc2 := 0) (ds2 := 0) 2 rfl ?_
    refine wq_putf rfl e16x rfl rfl rfl ?_
    intro h40x e41x f42x l43x
    have e41x : zat h40x 36 = some (.inr (.inr (.inr (2, [.int (nI us), .int 0, .ref 38, .ref 40])))) := e41x
    refine wq_gos (f := 1) (pc2 := 55) (ls2 := [(0, .ref 36), (1, .long ps), (3, .ref 34)]) (st2 := [.ref 36, .ref 36]) (h2 := h40x) (dc2 := 0) (ds2 := 0) 2 rfl ?_
    refine wq_getf rfl e41x rfl rfl ?_
    refine wq_gos (f := 1) (pc2 := 60) (ls2 := [(0, .ref 36), (1, .long ps), (3, .ref 34)]) (st2 := [.int ((nI us) + (1 : Int32)), .ref 36]) (h2 := h40x) (dc2 := 0) (ds2 := 0) 2 rfl ?_
    rw [nI_1]
    refine wq_gos (f := 1) (pc2 := 62) (ls2 := [(0, .ref 36), (1, .long ps), (3, .ref 34)]) (st2 := [.int 20, .int (nI (us + 1)), .ref 36]) (h2 := h40x) (dc2 := 0) (ds2 := 0) 1 rfl ?_
    refine wq_inl (y2 := 285) (as := [.int (nI (us + 1)), .int 20]) rfl rfl rfl ?_
    show wq 285 0 [(0, .int (nI (us + 1))), (1, .int 20)] [] h40x 0 0 _
    refine wq_gos (f := 1) (pc2 := 2) (ls2 := [(0, .int (nI (us + 1))), (1, .int 20)]) (st2 := [.int 20, .int (nI (us + 1))]) (h2 := h40x) (dc2 := 0) (ds2 := 0) 2 rfl ?_
    try have q44x := nI_toInt (n := (us + 1)) (by omega)
    refine wq_gt2 rfl rfl (fun b45x => ?_) (fun b45x => ?_)
    · refine wq_gos (f := 1) (pc2 := 10) (ls2 := [(0, .int (nI (us + 1))), (1, .int 20)]) (st2 := [.int 20]) (h2 := h40x) (dc2 := 0) (ds2 := 0) 1 rfl ?_
      refine wq_ret rfl rfl ?_
      show wq 23 65 [(0, .ref 36), (1, .long ps), (3, .ref 34)] [.int 20, .ref 36] h40x 0 0 _
      refine wq_putf rfl e41x rfl rfl rfl ?_
      intro h46x e47x f48x l49x
      have e47x : zat h46x 36 = some (.inr (.inr (.inr (2, [.int 20, .int 0, .ref 38, .ref 40])))) := e47x
      have e50x := (f48x.2 _ _ (wnc (by decide) wn0) (f42x.2 _ _ (wnc (by decide) wn0) (f14x.2 _ _ (wnc (by decide) wn0) e3x)))
      have e51x := (f48x.2 _ _ (wnc (by decide) wn0) (f42x.2 _ _ (wnc (by decide) wn0) e13x))
      exact wq_ret rfl rfl ⟨h46x, 0, 20, rfl, (wFr_tr (wFr_sub f4x (by simp)) (wFr_tr (wFr_sub f14x (by simp)) (wFr_tr (wFr_sub f42x (by simp)) (wFr_sub f48x (by simp))))), (by omega), e47x, e50x, (by rw [← cl6 (n := un) (by omega)]; exact e51x), (by first | omega | assumption | decide), (by first | omega | assumption | decide)⟩
    · refine wq_gos (f := 1) (pc2 := 10) (ls2 := [(0, .int (nI (us + 1))), (1, .int 20)]) (st2 := [.int (nI (us + 1))]) (h2 := h40x) (dc2 := 0) (ds2 := 0) 2 rfl ?_
      refine wq_ret rfl rfl ?_
      show wq 23 65 [(0, .ref 36), (1, .long ps), (3, .ref 34)] [.int (nI (us + 1)), .ref 36] h40x 0 0 _
      refine wq_putf rfl e41x rfl rfl rfl ?_
      intro h52x e53x f54x l55x
      have e53x : zat h52x 36 = some (.inr (.inr (.inr (2, [.int (nI (us + 1)), .int 0, .ref 38, .ref 40])))) := e53x
      have e56x := (f54x.2 _ _ (wnc (by decide) wn0) (f42x.2 _ _ (wnc (by decide) wn0) (f14x.2 _ _ (wnc (by decide) wn0) e3x)))
      have e57x := (f54x.2 _ _ (wnc (by decide) wn0) (f42x.2 _ _ (wnc (by decide) wn0) e13x))
      exact wq_ret rfl rfl ⟨h52x, 0, (us + 1), rfl, (wFr_tr (wFr_sub f4x (by simp)) (wFr_tr (wFr_sub f14x (by simp)) (wFr_tr (wFr_sub f42x (by simp)) (wFr_sub f54x (by simp))))), (by omega), e53x, e56x, (by rw [← cl6 (n := un) (by omega)]; exact e57x), (by first | omega | assumption | decide), (by first | omega | assumption | decide)⟩
set_option maxRecDepth 100000 in
set_option maxHeartbeats 4000000 in
theorem c_pop {h : zH} {us un : Nat} {pp : List Int64} {ua : List Int32} {pl : List Int32} (hP : zat h 36 = some (.inr (.inr (.inr (2, [.int (nI us), .int (nI un), .ref 38, .ref 40]))))) (hP8 : zat h 38 = some (.inr (.inl (20, pp)))) (hP0 : zat h 40 = some (.inl (0, 120, ua))) (hA : zat h 34 = some (.inl (0, 6, pl))) (hu : un < 20 ∧ 1 ≤ us ∧ us ≤ 20) : wq 24 0 [(0, .ref 36), (1, .ref 34)] [] h 0 0 (fun rr9 => ∃ (h2 : zH) (un2 : Nat), rr9 = (some (.long (pp.getD un2 0)), h2, 0, 0) ∧ wFr [36, 34] h h2 ∧ h2.length = h.length ∧ zat h2 36 = some (.inr (.inr (.inr (2, [.int (nI (us - 1)), .int (nI un2), .ref 38, .ref 40])))) ∧ zat h2 34 = some (.inl (0, 6, (zcpy 0 ua pl (6 * un2) 0 6))) ∧ un2 = (un + 19) % 20) := by
  have qnun := nI_toInt (n := un) (by omega)
  have qnus := nI_toInt (n := us) (by omega)
  refine wq_gos (f := 1) (pc2 := 2) (ls2 := [(0, .ref 36), (1, .ref 34)]) (st2 := [.ref 36, .ref 36]) (h2 := h) (dc2 := 0) (ds2 := 0) 2 rfl ?_
  refine wq_getf rfl hP rfl rfl ?_
  try have q1x := nI_toInt (n := un) (by omega)
  refine wq_ne0 rfl rfl (fun b2x => ?_) (fun b2x => ?_)
  · have q3x : (nI un).toInt ≠ 0 := fun q => b2x (Int32.toInt_inj.mp q)
    refine wq_gos (f := 1) (pc2 := 14) (ls2 := [(0, .ref 36), (1, .ref 34)]) (st2 := [.ref 36, .ref 36]) (h2 := h) (dc2 := 0) (ds2 := 0) 1 rfl ?_
    refine wq_getf rfl hP rfl rfl ?_
    refine wq_gos (f := 1) (pc2 := 19) (ls2 := [(0, .ref 36), (1, .ref 34)]) (st2 := [.int ((nI un) - (1 : Int32)), .ref 36]) (h2 := h) (dc2 := 0) (ds2 := 0) 2 rfl ?_
    refine wq_vi (nI_predn (a := un) (by omega)) ?_
    refine wq_putf rfl hP rfl rfl rfl ?_
    intro h4x e5x f6x l7x
    have e5x : zat h4x 36 = some (.inr (.inr (.inr (2, [.int (nI us), .int (nI (un - 1)), .ref 38, .ref 40])))) := e5x
    refine wq_gos (f := 1) (pc2 := 24) (ls2 := [(0, .ref 36), (1, .ref 34)]) (st2 := [.ref 36, .ref 36]) (h2 := h4x) (dc2 := 0) (ds2 := 0) 2 rfl ?_
    refine wq_getf rfl e5x rfl rfl ?_
    refine wq_gos (f := 1) (pc2 := 29) (ls2 := [(0, .ref 36), (1, .ref 34)]) (st2 := [.int ((nI us) - (1 : Int32)), .ref 36]) (h2 := h4x) (dc2 := 0) (ds2 := 0) 2 rfl ?_
    refine wq_vi (nI_predn (a := us) (by omega)) ?_
    refine wq_putf rfl e5x rfl rfl rfl ?_
    intro h8x e9x f10x l11x
    have e9x : zat h8x 36 = some (.inr (.inr (.inr (2, [.int (nI (us - 1)), .int (nI (un - 1)), .ref 38, .ref 40])))) := e9x
    refine wq_gos (f := 1) (pc2 := 33) (ls2 := [(0, .ref 36), (1, .ref 34)]) (st2 := [.ref 36]) (h2 := h8x) (dc2 := 0) (ds2 := 0) 1 rfl ?_
    refine wq_getf rfl e9x rfl rfl ?_
    refine wq_gos (f := 1) (pc2 := 37) (ls2 := [(0, .ref 36), (1, .ref 34)]) (st2 := [.ref 36, .ref 40]) (h2 := h8x) (dc2 := 0) (ds2 := 0) 1 rfl ?_
    refine wq_getf rfl e9x rfl rfl ?_
    refine wq_gos (f := 1) (pc2 := 47) (ls2 := [(0, .ref 36), (1, .ref 34)]) (st2 := [.int 6, .int 0, .ref 34, .int ((nI (un - 1)) * (6 : Int32)), .ref 40]) (h2 := h8x) (dc2 := 0) (ds2 := 0) 5 rfl ?_
    have e12x := (f10x.2 _ _ (wnc (by decide) wn0) (f6x.2 _ _ (wnc (by decide) wn0) hA))
    have e13x := (f10x.2 _ _ (wnc (by decide) wn0) (f6x.2 _ _ (wnc (by decide) wn0) hP0))
    try have q14x := nI_toInt (n := (un - 1)) (by omega)
    have q15x : (6 : Int32).toInt = 6 := rfl
    try have q16x : (((nI (un - 1)) * (6 : Int32))).toInt = (nI (un - 1)).toInt * 6 := e_mulr rfl (by omega) (by omega)
    have q17x : (0 : Int32).toInt = 0 := rfl
    refine wq_cpi rfl e13x e12x (by first | decide | omega) (by first | decide | omega) (by first | decide | omega) (by first | decide | omega) (by first | decide | omega) rfl ?_
    intro h18x e19x f20x l21x
    have e19x : zat h18x 34 = some (.inl (0, 6, (zcpy 0 ua pl (((nI (un - 1)) * (6 : Int32))).toNatClampNeg 0 6))) := e19x
    refine wq_gos (f := 1) (pc2 := 51) (ls2 := [(0, .ref 36), (1, .ref 34)]) (st2 := [.ref 36]) (h2 := h18x) (dc2 := 0) (ds2 := 0) 1 rfl ?_
    have e22x := (f20x.2 _ _ (wnc (by decide) wn0) e9x)
    refine wq_getf rfl e22x rfl rfl ?_
    refine wq_gos (f := 1) (pc2 := 55) (ls2 := [(0, .ref 36), (1, .ref 34)]) (st2 := [.ref 36, .ref 38]) (h2 := h18x) (dc2 := 0) (ds2 := 0) 1 rfl ?_
    refine wq_getf rfl e22x rfl rfl ?_
    have e23x := (f20x.2 _ _ (wnc (by decide) wn0) (f10x.2 _ _ (wnc (by decide) wn0) (f6x.2 _ _ (wnc (by decide) wn0) hP8)))
    refine wq_laldn rfl e23x (by omega) (by decide) rfl ?_
    exact wq_ret rfl rfl ⟨h18x, (un - 1), rfl, (wFr_tr (wFr_sub f6x (by simp)) (wFr_tr (wFr_sub f10x (by simp)) (wFr_sub f20x (by simp)))), (by omega), e22x, (by rw [← cl6 (n := (un - 1)) (by omega)]; first | exact e19x | (rw [← nI_predn (a := un) (by omega)]; exact e19x)), (by first | omega | assumption | decide)⟩
  · have q25x : (nI un).toInt = 0 := congrArg Int32.toInt b2x
    refine wq_gos (f := 1) (pc2 := 19) (ls2 := [(0, .ref 36), (1, .ref 34)]) (st2 := [.int 19, .ref 36]) (h2 := h) (dc2 := 0) (ds2 := 0) 2 rfl ?_
    refine wq_putf rfl hP rfl rfl rfl ?_
    intro h26x e27x f28x l29x
    have e27x : zat h26x 36 = some (.inr (.inr (.inr (2, [.int (nI us), .int 19, .ref 38, .ref 40])))) := e27x
    refine wq_gos (f := 1) (pc2 := 24) (ls2 := [(0, .ref 36), (1, .ref 34)]) (st2 := [.ref 36, .ref 36]) (h2 := h26x) (dc2 := 0) (ds2 := 0) 2 rfl ?_
    refine wq_getf rfl e27x rfl rfl ?_
    refine wq_gos (f := 1) (pc2 := 29) (ls2 := [(0, .ref 36), (1, .ref 34)]) (st2 := [.int ((nI us) - (1 : Int32)), .ref 36]) (h2 := h26x) (dc2 := 0) (ds2 := 0) 2 rfl ?_
    refine wq_vi (nI_predn (a := us) (by omega)) ?_
    refine wq_putf rfl e27x rfl rfl rfl ?_
    intro h30x e31x f32x l33x
    have e31x : zat h30x 36 = some (.inr (.inr (.inr (2, [.int (nI (us - 1)), .int 19, .ref 38, .ref 40])))) := e31x
    refine wq_gos (f := 1) (pc2 := 33) (ls2 := [(0, .ref 36), (1, .ref 34)]) (st2 := [.ref 36]) (h2 := h30x) (dc2 := 0) (ds2 := 0) 1 rfl ?_
    refine wq_getf rfl e31x rfl rfl ?_
    refine wq_gos (f := 1) (pc2 := 37) (ls2 := [(0, .ref 36), (1, .ref 34)]) (st2 := [.ref 36, .ref 40]) (h2 := h30x) (dc2 := 0) (ds2 := 0) 1 rfl ?_
    refine wq_getf rfl e31x rfl rfl ?_
    refine wq_gos (f := 1) (pc2 := 47) (ls2 := [(0, .ref 36), (1, .ref 34)]) (st2 := [.int 6, .int 0, .ref 34, .int 114, .ref 40]) (h2 := h30x) (dc2 := 0) (ds2 := 0) 5 rfl ?_
    have e34x := (f32x.2 _ _ (wnc (by decide) wn0) (f28x.2 _ _ (wnc (by decide) wn0) hA))
    have e35x := (f32x.2 _ _ (wnc (by decide) wn0) (f28x.2 _ _ (wnc (by decide) wn0) hP0))
    have q36x : (114 : Int32).toInt = 114 := rfl
    have q37x : (0 : Int32).toInt = 0 := rfl
    have q38x : (6 : Int32).toInt = 6 := rfl
    refine wq_cpi rfl e35x e34x (by decide) (by decide) (by decide) (by decide) (by decide) rfl ?_
    intro h39x e40x f41x l42x
    have e40x : zat h39x 34 = some (.inl (0, 6, (zcpy 0 ua pl 114 0 6))) := e40x
    refine wq_gos (f := 1) (pc2 := 51) (ls2 := [(0, .ref 36), (1, .ref 34)]) (st2 := [.ref 36]) (h2 := h39x) (dc2 := 0) (ds2 := 0) 1 rfl ?_
    have e43x := (f41x.2 _ _ (wnc (by decide) wn0) e31x)
    refine wq_getf rfl e43x rfl rfl ?_
    refine wq_gos (f := 1) (pc2 := 55) (ls2 := [(0, .ref 36), (1, .ref 34)]) (st2 := [.ref 36, .ref 38]) (h2 := h39x) (dc2 := 0) (ds2 := 0) 1 rfl ?_
    refine wq_getf rfl e43x rfl rfl ?_
    have e44x := (f41x.2 _ _ (wnc (by decide) wn0) (f32x.2 _ _ (wnc (by decide) wn0) (f28x.2 _ _ (wnc (by decide) wn0) hP8)))
    have q45x : (19 : Int32).toInt = 19 := rfl
    refine wq_lald rfl e44x rfl rfl ?_
    exact wq_ret rfl rfl ⟨h39x, 19, rfl, (wFr_tr (wFr_sub f28x (by simp)) (wFr_tr (wFr_sub f32x (by simp)) (wFr_sub f41x (by simp)))), (by omega), e43x, (by rw [← cl6 (n := 19) (by omega)]; first | exact e40x | (rw [← nI_predn (a := un) (by omega)]; exact e40x)), (by first | omega | assumption | decide)⟩
set_option maxRecDepth 100000 in
set_option maxHeartbeats 4000000 in
theorem c_undoN {h : zH} {t ra rd : Nat} {ps ip : Int64} {im : Int32} {us un : Nat} {pp : List Int64} {ua : List Int32} (hX : zat h 0 = some (.inr (.inr (.inr (9, [.ref 2, .int (nI t), .ref 4, .ref ra, .ref rd, .long ps, .ref 34, .ref 36, .int im, .long ip, .ref 42, .ref 44, .ref 60, .ref 66, .ref 72, .ref 74, .ref 150, .ref 158]))))) (hP : zat h 36 = some (.inr (.inr (.inr (2, [.int (nI us), .int (nI un), .ref 38, .ref 40]))))) (hu : us = 0) : wq 140 0 [(0, .ref 0)] [] h 0 0 (fun rr9 => rr9 = (some (.int (-1)), h, 0, 0)) := by
  refine wq_gos (f := 1) (pc2 := 1) (ls2 := [(0, .ref 0)]) (st2 := [.ref 0]) (h2 := h) (dc2 := 0) (ds2 := 0) 1 rfl ?_
  refine wq_getf rfl hX rfl rfl ?_
  refine wq_getf rfl hP rfl rfl ?_
  try have q1x := nI_toInt (n := us) (by omega)
  refine wq_ne0f rfl rfl (by rw [hu]; rfl) ?_
  refine wq_gos (f := 1) (pc2 := 11) (ls2 := [(0, .ref 0)]) (st2 := [.int (-1)]) (h2 := h) (dc2 := 0) (ds2 := 0) 1 rfl ?_
  exact wq_ret rfl rfl rfl
set_option maxRecDepth 100000 in
set_option maxHeartbeats 4000000 in
theorem c_undo {h : zH} {t ra rd : Nat} {ps ip : Int64} {im : Int32} {us un : Nat} {pp : List Int64} {ua : List Int32} {pl : List Int32} (hX : zat h 0 = some (.inr (.inr (.inr (9, [.ref 2, .int (nI t), .ref 4, .ref ra, .ref rd, .long ps, .ref 34, .ref 36, .int im, .long ip, .ref 42, .ref 44, .ref 60, .ref 66, .ref 72, .ref 74, .ref 150, .ref 158]))))) (hP : zat h 36 = some (.inr (.inr (.inr (2, [.int (nI us), .int (nI un), .ref 38, .ref 40]))))) (hP8 : zat h 38 = some (.inr (.inl (20, pp)))) (hP0 : zat h 40 = some (.inl (0, 120, ua))) (hA : zat h 34 = some (.inl (0, 6, pl))) (hu : un < 20 ∧ 1 ≤ us ∧ us ≤ 20) : wq 140 0 [(0, .ref 0)] [] h 0 0 (fun rr9 => ∃ (h2 : zH) (un2 : Nat), rr9 = (some (.int (nI (us - 1))), h2, 0, 0) ∧ wFr [0, 36, 34] h h2 ∧ h2.length = h.length ∧ zat h2 0 = some (.inr (.inr (.inr (9, [.ref 2, .int (nI t), .ref 4, .ref ra, .ref rd, .long (pp.getD un2 0), .ref 34, .ref 36, .int im, .long ip, .ref 42, .ref 44, .ref 60, .ref 66, .ref 72, .ref 74, .ref 150, .ref 158])))) ∧ zat h2 36 = some (.inr (.inr (.inr (2, [.int (nI (us - 1)), .int (nI un2), .ref 38, .ref 40])))) ∧ zat h2 34 = some (.inl (0, 6, (zcpy 0 ua pl (6 * un2) 0 6))) ∧ un2 = (un + 19) % 20) := by
  have qnus := nI_toInt (n := us) (by omega)
  refine wq_gos (f := 1) (pc2 := 1) (ls2 := [(0, .ref 0)]) (st2 := [.ref 0]) (h2 := h) (dc2 := 0) (ds2 := 0) 1 rfl ?_
  refine wq_getf rfl hX rfl rfl ?_
  refine wq_getf rfl hP rfl rfl ?_
  try have q1x := nI_toInt (n := us) (by omega)
  refine wq_ne0t rfl (fun q => by have q9 := congrArg Int32.toInt q; have q8 : (0 : Int32).toInt = 0 := rfl; omega) ?_
  refine wq_gos (f := 1) (pc2 := 14) (ls2 := [(0, .ref 0)]) (st2 := [.ref 0, .ref 0]) (h2 := h) (dc2 := 0) (ds2 := 0) 2 rfl ?_
  refine wq_getf rfl hX rfl rfl ?_
  refine wq_gos (f := 1) (pc2 := 18) (ls2 := [(0, .ref 0)]) (st2 := [.ref 0, .ref 36, .ref 0]) (h2 := h) (dc2 := 0) (ds2 := 0) 1 rfl ?_
  refine wq_getf rfl hX rfl rfl ?_
  refine wq_inlv (y2 := 24) (as := [.ref 34]) rfl rfl rfl hP rfl (wq_mono (c_pop hP hP8 hP0 hA (by first | omega | assumption | decide)) ?_)
  rintro _ ⟨h82x, un22x, rfl, f82x, l82x, c02x, c12x, p02x⟩
  show wq 140 24 [(0, .ref 0)] [.long (pp.getD un22x 0), .ref 0] h82x 0 0 _
  have e3x := (f82x.2 _ _ (wnc (by decide) (wnc (by decide) wn0)) hX)
  refine wq_putf rfl e3x rfl rfl rfl ?_
  intro h4x e5x f6x l7x
  have e5x : zat h4x 0 = some (.inr (.inr (.inr (9, [.ref 2, .int (nI t), .ref 4, .ref ra, .ref rd, .long (pp.getD un22x 0), .ref 34, .ref 36, .int im, .long ip, .ref 42, .ref 44, .ref 60, .ref 66, .ref 72, .ref 74, .ref 150, .ref 158])))) := e5x
  refine wq_gos (f := 1) (pc2 := 28) (ls2 := [(0, .ref 0)]) (st2 := [.ref 0]) (h2 := h4x) (dc2 := 0) (ds2 := 0) 1 rfl ?_
  refine wq_getf rfl e5x rfl rfl ?_
  have e8x := (f6x.2 _ _ (wnc (by decide) wn0) c02x)
  refine wq_getf rfl e8x rfl rfl ?_
  have e9x := (f6x.2 _ _ (wnc (by decide) wn0) c12x)
  exact wq_ret rfl rfl ⟨h4x, un22x, rfl, (wFr_tr (wFr_sub f82x (by simp)) (wFr_sub f6x (by simp))), (by omega), (by rw [show (.inr (.inr (.inr (9, [.ref 2, .int (nI t), .ref 4, .ref ra, .ref rd, .long (pp.getD un22x 0), .ref 34, .ref 36, .int im, .long ip, .ref 42, .ref 44, .ref 60, .ref 66, .ref 72, .ref 74, .ref 150, .ref 158]))) : zE) = .inr (.inr (.inr (9, [.ref 2, .int (nI t), .ref 4, .ref ra, .ref rd, .long (pp.getD un22x 0), .ref 34, .ref 36, .int im, .long ip, .ref 42, .ref 44, .ref 60, .ref 66, .ref 72, .ref 74, .ref 150, .ref 158]))) from rfl]; exact e5x), e8x, (by rw [show (.inl (0, 6, (zcpy 0 ua pl (6 * un22x) 0 6)) : zE) = .inl (0, 6, (zcpy 0 ua pl (6 * un22x) 0 6)) from rfl]; exact e9x), (by first | omega | assumption | decide)⟩
noncomputable def snF (ns : Nat) (nm : List Int32) (x : Int32) : Nat → Nat → Int32
  | 0, _ => 0
  | m + 1, k => (if (nI ns).toInt ≤ (nI k).toInt then (-1) else (if (nm.getD k 0) ≠ x then (snF ns nm x m (k + 1)) else (nI k)))
set_option maxRecDepth 100000 in
set_option maxHeartbeats 4000000 in
theorem c_snL {h : zH} {ra ns : Nat} {lk hd ht bl sd so : Int32} {rt : Int64} {nm : List Int32} {x : Int32} (hA : zat h ra = some (.inr (.inr (.inr (0, [.int lk, .int hd, .int ht, .int bl, .int sd, .long rt, .ref (ra + 2), .ref (ra + 4), .ref (ra + 6), .int (nI ns), .ref (ra + 8), .ref (ra + 10), .int so, .ref (ra + 12)]))))) (hN : zat h (ra + 8) = some (.inl (0, 8, nm))) (hns : ns ≤ 8) : ∀ (m : Nat) (k : Nat), (k ≤ ns) → (ns - k) < m → ∀ (dc ds : Nat), wq 2 2 [(0, .ref ra), (1, .int x), (2, .int (nI k))] [] h dc ds (fun rr9 => rr9 = (some (Value.int (snF ns nm x m k)), h, dc, ds)) := by
  intro m
  induction m with
  | zero => intro k hk hms dc ds; omega
  | succ m ih =>
    intro k hk hms dc ds
    have qnk := nI_toInt (n := k) (by omega)
    have qnns := nI_toInt (n := ns) (by omega)
    refine wq_gos (f := 1) (pc2 := 4) (ls2 := [(0, .ref ra), (1, .int x), (2, .int (nI k))]) (st2 := [.ref ra, .int (nI k)]) (h2 := h) (dc2 := dc) (ds2 := ds) 2 rfl ?_
    refine wq_getf rfl hA rfl rfl ?_
    try have q1x := nI_toInt (n := k) (by omega)
    try have q2x := nI_toInt (n := ns) (by omega)
    refine wq_ge2 rfl rfl (fun b3x => ?_) (fun b3x => ?_)
    · refine wq_gos (f := 1) (pc2 := 29) (ls2 := [(0, .ref ra), (1, .int x), (2, .int (nI k))]) (st2 := [.int (-1)]) (h2 := h) (dc2 := dc) (ds2 := ds) 1 rfl ?_
      have hx : (snF ns nm x (m + 1) k) = (-1) := by show (if _ then _ else _) = _; rw [if_pos b3x]
      refine wq_ret rfl rfl ?_
      show (some (Value.int (-1)), h, dc, ds) = (some (Value.int (snF ns nm x (m + 1) k)), h, dc, ds)
      rw [hx]
    · refine wq_gos (f := 1) (pc2 := 11) (ls2 := [(0, .ref ra), (1, .int x), (2, .int (nI k))]) (st2 := [.ref ra]) (h2 := h) (dc2 := dc) (ds2 := ds) 1 rfl ?_
      refine wq_getf rfl hA rfl rfl ?_
      refine wq_gos (f := 1) (pc2 := 15) (ls2 := [(0, .ref ra), (1, .int x), (2, .int (nI k))]) (st2 := [.int (nI k), .ref (ra + 8)]) (h2 := h) (dc2 := dc) (ds2 := ds) 1 rfl ?_
      refine wq_ialdn rfl hN (by omega) (by decide) rfl ?_
      refine wq_gos (f := 1) (pc2 := 17) (ls2 := [(0, .ref ra), (1, .int x), (2, .int (nI k))]) (st2 := [.int x, .int (nm.getD k 0)]) (h2 := h) (dc2 := dc) (ds2 := ds) 1 rfl ?_
      refine wq_ne2 rfl rfl (fun b4x => ?_) (fun b4x => ?_)
      · have q5x : (nm.getD k 0).toInt ≠ x.toInt := fun q => b4x (Int32.toInt_inj.mp q)
        refine wq_gos (f := 1) (pc2 := 25) (ls2 := [(2, .int ((nI k) + 1)), (0, .ref ra), (1, .int x)]) (st2 := []) (h2 := h) (dc2 := dc) (ds2 := ds) 1 rfl ?_
        rw [nI_1]
        refine wq_gos (f := 1) (pc2 := 2) (ls2 := [(2, .int (nI (k + 1))), (0, .ref ra), (1, .int x)]) (st2 := []) (h2 := h) (dc2 := dc) (ds2 := ds) 1 rfl ?_
        try have q6x := nI_toInt (n := (k + 1)) (by omega)
        have hx : (snF ns nm x (m + 1) k) = (snF ns nm x m (k + 1)) := by show (if _ then _ else _) = _; rw [if_neg (Int.not_le.mpr b3x), if_pos b4x]
        rw [hx]
        refine wq_ls [(0, .ref ra), (1, .int x), (2, .int (nI (k + 1)))] (show ([0, 1, 2] : List Nat).Nodup by decide) ⟨rfl, rfl, rfl, trivial⟩ ?_
        exact ih (k + 1) (by first | omega | assumption | decide) (by omega) dc ds
      · have q7x : (nm.getD k 0).toInt = x.toInt := congrArg Int32.toInt b4x
        refine wq_gos (f := 1) (pc2 := 21) (ls2 := [(0, .ref ra), (1, .int x), (2, .int (nI k))]) (st2 := [.int (nI k)]) (h2 := h) (dc2 := dc) (ds2 := ds) 1 rfl ?_
        have hx : (snF ns nm x (m + 1) k) = (nI k) := by show (if _ then _ else _) = _; rw [if_neg (Int.not_le.mpr b3x), if_neg (fun q => q b4x)]
        refine wq_ret rfl rfl ?_
        show (some (Value.int (nI k)), h, dc, ds) = (some (Value.int (snF ns nm x (m + 1) k)), h, dc, ds)
        rw [hx]
set_option maxRecDepth 100000 in
set_option maxHeartbeats 4000000 in
theorem c_sn {h : zH} {ra ns : Nat} {lk hd ht bl sd so : Int32} {rt : Int64} {nm : List Int32} {x : Int32} (hA : zat h ra = some (.inr (.inr (.inr (0, [.int lk, .int hd, .int ht, .int bl, .int sd, .long rt, .ref (ra + 2), .ref (ra + 4), .ref (ra + 6), .int (nI ns), .ref (ra + 8), .ref (ra + 10), .int so, .ref (ra + 12)]))))) (hN : zat h (ra + 8) = some (.inl (0, 8, nm))) (hns : ns ≤ 8) : wq 2 0 [(0, .ref ra), (1, .int x)] [] h 0 0 (fun rr9 => rr9 = (some (.int (snF ns nm x (ns - 0 + 1) 0)), h, 0, 0)) := by
  refine wq_gos (f := 1) (pc2 := 2) (ls2 := [(2, .int 0), (0, .ref ra), (1, .int x)]) (st2 := []) (h2 := h) (dc2 := 0) (ds2 := 0) 2 rfl ?_
  refine wq_ls [(0, .ref ra), (1, .int x), (2, .int (nI 0))] (show ([0, 1, 2] : List Nat).Nodup by decide) ⟨rfl, rfl, rfl, trivial⟩ ?_
  refine wq_mono (c_snL hA hN (by first | omega | assumption | decide) ((ns - 0) + 1) 0 (by first | omega | assumption | decide) (by omega) 0 0) ?_
  rintro _ rfl
  all_goals exact rfl
set_option maxRecDepth 100000 in
set_option maxHeartbeats 4000000 in
theorem c_named {h : zH} {t ra rd : Nat} {ps ip : Int64} {im : Int32} {ns : Nat} {lk hd ht bl sd so : Int32} {rt : Int64} {nm : List Int32} {x : Int32} (hX : zat h 0 = some (.inr (.inr (.inr (9, [.ref 2, .int (nI t), .ref 4, .ref ra, .ref rd, .long ps, .ref 34, .ref 36, .int im, .long ip, .ref 42, .ref 44, .ref 60, .ref 66, .ref 72, .ref 74, .ref 150, .ref 158]))))) (hA : zat h ra = some (.inr (.inr (.inr (0, [.int lk, .int hd, .int ht, .int bl, .int sd, .long rt, .ref (ra + 2), .ref (ra + 4), .ref (ra + 6), .int (nI ns), .ref (ra + 8), .ref (ra + 10), .int so, .ref (ra + 12)]))))) (hN : zat h (ra + 8) = some (.inl (0, 8, nm))) (hns : ns ≤ 8) : wq 104 0 [(0, .ref 0), (1, .int x)] [] h 0 0 (fun rr9 => rr9 = (some (.int (snF ns nm x (ns - 0 + 1) 0)), h, 0, 0)) := by
  refine wq_gos (f := 1) (pc2 := 1) (ls2 := [(0, .ref 0), (1, .int x)]) (st2 := [.ref 0]) (h2 := h) (dc2 := 0) (ds2 := 0) 1 rfl ?_
  refine wq_getf rfl hX rfl rfl ?_
  refine wq_gos (f := 1) (pc2 := 5) (ls2 := [(0, .ref 0), (1, .int x)]) (st2 := [.int x, .ref ra]) (h2 := h) (dc2 := 0) (ds2 := 0) 1 rfl ?_
  refine wq_inlv (y2 := 2) (as := [.int x]) rfl rfl rfl hA rfl (wq_mono (c_sn hA hN (by first | omega | assumption | decide)) ?_)
  rintro _ rfl
  show wq 104 8 [(0, .ref 0), (1, .int x)] [.int (snF ns nm x (ns - 0 + 1) 0)] h 0 0 _
  exact wq_ret rfl rfl rfl
