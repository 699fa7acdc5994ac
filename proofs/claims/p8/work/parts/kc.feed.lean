/-! feed once more, with what the tape holds then. -/
noncomputable def p4F (t : Nat) (a : Int32) (tb : List Int32) : List Int32 := (zset 0 (zset 0 (zset 0 (zset 0 tb ((nI t)).toNatClampNeg (vp_nar .byte (((a).toUInt32 >>> (((24 : Int32)).toUInt32 &&& Int32.toUInt32 31)).toInt32).toInt8.toInt32)) ((nI (t + 1))).toNatClampNeg (vp_nar .byte (((a).toUInt32 >>> (((16 : Int32)).toUInt32 &&& Int32.toUInt32 31)).toInt32).toInt8.toInt32)) ((nI ((t + 1) + 1))).toNatClampNeg (vp_nar .byte (((a).toUInt32 >>> (((8 : Int32)).toUInt32 &&& Int32.toUInt32 31)).toInt32).toInt8.toInt32)) ((nI (((t + 1) + 1) + 1))).toNatClampNeg (vp_nar .byte (((a).toUInt32 >>> (((0 : Int32)).toUInt32 &&& Int32.toUInt32 31)).toInt32).toInt8.toInt32))
set_option maxRecDepth 100000 in
set_option maxHeartbeats 4000000 in
theorem c_put4C {h : zH} {t ra rd : Nat} {ps ip : Int64} {im : Int32} {a : Int32} {tb : List Int32} (hX : zat h 0 = some (.inr (.inr (.inr (9, [.ref 2, .int (nI t), .ref 4, .ref ra, .ref rd, .long ps, .ref 34, .ref 36, .int im, .long ip, .ref 42, .ref 44, .ref 60, .ref 66, .ref 72, .ref 74, .ref 150, .ref 158]))))) (hT : zat h 2 = some (.inl (1, 700, tb))) (ht : t + 4 ≤ 700) : wq 101 0 [(0, .ref 0), (1, .int a)] [] h 0 0 (fun rr9 => ∃ (h2 : zH), rr9 = (none, h2, 0, 0) ∧ wFr [0, 2] h h2 ∧ h2.length = h.length ∧ zat h2 0 = some (.inr (.inr (.inr (9, [.ref 2, .int (nI (t + 4)), .ref 4, .ref ra, .ref rd, .long ps, .ref 34, .ref 36, .int im, .long ip, .ref 42, .ref 44, .ref 60, .ref 66, .ref 72, .ref 74, .ref 150, .ref 158])))) ∧ zat h2 2 = some (.inl (1, 700, p4F t a tb))) := by
  have q1 := nI_toInt (n := t) (by omega)
  have q2 := nI_toInt (n := t + 1) (by omega)
  have q3 := nI_toInt (n := t + 1 + 1) (by omega)
  have q4 := nI_toInt (n := t + 1 + 1 + 1) (by omega)
  refine wq_gos (f := 1) (pc2 := 8) (ls2 := [(2, .int 24), (0, .ref 0), (1, .int a)]) (st2 := [.ref 0]) (h2 := h) (dc2 := 0) (ds2 := 0) 5 rfl ?_
  refine wq_getf rfl hX rfl rfl ?_
  refine wq_gos (f := 1) (pc2 := 14) (ls2 := [(2, .int 24), (0, .ref 0), (1, .int a)]) (st2 := [.int 700, .int (nI t)]) (h2 := h) (dc2 := 0) (ds2 := 0) 1 rfl ?_
  try have q1x := nI_toInt (n := t) (by omega)
  have q2x : (700 : Int32).toInt = 700 := rfl
  refine wq_ge2f rfl rfl (by omega) ?_
  refine wq_gos (f := 1) (pc2 := 18) (ls2 := [(2, .int 24), (0, .ref 0), (1, .int a)]) (st2 := [.ref 0]) (h2 := h) (dc2 := 0) (ds2 := 0) 1 rfl ?_
  refine wq_getf rfl hX rfl rfl ?_
  refine wq_gos (f := 1) (pc2 := 22) (ls2 := [(2, .int 24), (0, .ref 0), (1, .int a)]) (st2 := [.ref 0, .ref 2]) (h2 := h) (dc2 := 0) (ds2 := 0) 1 rfl ?_
  refine wq_getf rfl hX rfl rfl ?_
  refine wq_gos (f := 1) (pc2 := 29) (ls2 := [(2, .int 24), (0, .ref 0), (1, .int a)]) (st2 := [.int (((a).toUInt32 >>> (((24 : Int32)).toUInt32 &&& Int32.toUInt32 31)).toInt32).toInt8.toInt32, .int (nI t), .ref 2]) (h2 := h) (dc2 := 0) (ds2 := 0) 4 rfl ?_
  refine wq_bast rfl hT (by first | omega | exact zin_t (by omega) (by omega)) rfl ?_
  intro h3x e4x f5x l6x
  have e4x : zat h3x 2 = some (.inl (1, 700, (zset 0 tb ((nI t)).toNatClampNeg (vp_nar .byte (((a).toUInt32 >>> (((24 : Int32)).toUInt32 &&& Int32.toUInt32 31)).toInt32).toInt8.toInt32)))) := e4x
  refine wq_gos (f := 1) (pc2 := 32) (ls2 := [(2, .int 24), (0, .ref 0), (1, .int a)]) (st2 := [.ref 0, .ref 0]) (h2 := h3x) (dc2 := 0) (ds2 := 0) 2 rfl ?_
  have e7x := (f5x.2 _ _ (wnc (by decide) wn0) hX)
  refine wq_getf rfl e7x rfl rfl ?_
  refine wq_gos (f := 1) (pc2 := 37) (ls2 := [(2, .int 24), (0, .ref 0), (1, .int a)]) (st2 := [.int ((nI t) + (1 : Int32)), .ref 0]) (h2 := h3x) (dc2 := 0) (ds2 := 0) 2 rfl ?_
  rw [nI_1]
  refine wq_putf rfl e7x rfl rfl rfl ?_
  intro h8x e9x f10x l11x
  have e9x : zat h8x 0 = some (.inr (.inr (.inr (9, [.ref 2, .int (nI (t + 1)), .ref 4, .ref ra, .ref rd, .long ps, .ref 34, .ref 36, .int im, .long ip, .ref 42, .ref 44, .ref 60, .ref 66, .ref 72, .ref 74, .ref 150, .ref 158])))) := e9x
  refine wq_gos (f := 1) (pc2 := 8) (ls2 := [(2, .int 16), (0, .ref 0), (1, .int a)]) (st2 := [.ref 0]) (h2 := h8x) (dc2 := 0) (ds2 := 0) 5 rfl ?_
  refine wq_getf rfl e9x rfl rfl ?_
  refine wq_gos (f := 1) (pc2 := 14) (ls2 := [(2, .int 16), (0, .ref 0), (1, .int a)]) (st2 := [.int 700, .int (nI (t + 1))]) (h2 := h8x) (dc2 := 0) (ds2 := 0) 1 rfl ?_
  try have q12x := nI_toInt (n := (t + 1)) (by omega)
  refine wq_ge2f rfl rfl (by omega) ?_
  refine wq_gos (f := 1) (pc2 := 18) (ls2 := [(2, .int 16), (0, .ref 0), (1, .int a)]) (st2 := [.ref 0]) (h2 := h8x) (dc2 := 0) (ds2 := 0) 1 rfl ?_
  refine wq_getf rfl e9x rfl rfl ?_
  refine wq_gos (f := 1) (pc2 := 22) (ls2 := [(2, .int 16), (0, .ref 0), (1, .int a)]) (st2 := [.ref 0, .ref 2]) (h2 := h8x) (dc2 := 0) (ds2 := 0) 1 rfl ?_
  refine wq_getf rfl e9x rfl rfl ?_
  refine wq_gos (f := 1) (pc2 := 29) (ls2 := [(2, .int 16), (0, .ref 0), (1, .int a)]) (st2 := [.int (((a).toUInt32 >>> (((16 : Int32)).toUInt32 &&& Int32.toUInt32 31)).toInt32).toInt8.toInt32, .int (nI (t + 1)), .ref 2]) (h2 := h8x) (dc2 := 0) (ds2 := 0) 4 rfl ?_
  have e13x := (f10x.2 _ _ (wnc (by decide) wn0) e4x)
  refine wq_bast rfl e13x (by first | omega | exact zin_t (by omega) (by omega)) rfl ?_
  intro h14x e15x f16x l17x
  have e15x : zat h14x 2 = some (.inl (1, 700, (zset 0 (zset 0 tb ((nI t)).toNatClampNeg (vp_nar .byte (((a).toUInt32 >>> (((24 : Int32)).toUInt32 &&& Int32.toUInt32 31)).toInt32).toInt8.toInt32)) ((nI (t + 1))).toNatClampNeg (vp_nar .byte (((a).toUInt32 >>> (((16 : Int32)).toUInt32 &&& Int32.toUInt32 31)).toInt32).toInt8.toInt32)))) := e15x
  refine wq_gos (f := 1) (pc2 := 32) (ls2 := [(2, .int 16), (0, .ref 0), (1, .int a)]) (st2 := [.ref 0, .ref 0]) (h2 := h14x) (dc2 := 0) (ds2 := 0) 2 rfl ?_
  have e18x := (f16x.2 _ _ (wnc (by decide) wn0) e9x)
  refine wq_getf rfl e18x rfl rfl ?_
  refine wq_gos (f := 1) (pc2 := 37) (ls2 := [(2, .int 16), (0, .ref 0), (1, .int a)]) (st2 := [.int ((nI (t + 1)) + (1 : Int32)), .ref 0]) (h2 := h14x) (dc2 := 0) (ds2 := 0) 2 rfl ?_
  rw [nI_1]
  refine wq_putf rfl e18x rfl rfl rfl ?_
  intro h19x e20x f21x l22x
  have e20x : zat h19x 0 = some (.inr (.inr (.inr (9, [.ref 2, .int (nI ((t + 1) + 1)), .ref 4, .ref ra, .ref rd, .long ps, .ref 34, .ref 36, .int im, .long ip, .ref 42, .ref 44, .ref 60, .ref 66, .ref 72, .ref 74, .ref 150, .ref 158])))) := e20x
  refine wq_gos (f := 1) (pc2 := 8) (ls2 := [(2, .int 8), (0, .ref 0), (1, .int a)]) (st2 := [.ref 0]) (h2 := h19x) (dc2 := 0) (ds2 := 0) 5 rfl ?_
  refine wq_getf rfl e20x rfl rfl ?_
  refine wq_gos (f := 1) (pc2 := 14) (ls2 := [(2, .int 8), (0, .ref 0), (1, .int a)]) (st2 := [.int 700, .int (nI ((t + 1) + 1))]) (h2 := h19x) (dc2 := 0) (ds2 := 0) 1 rfl ?_
  try have q23x := nI_toInt (n := ((t + 1) + 1)) (by omega)
  refine wq_ge2f rfl rfl (by omega) ?_
  refine wq_gos (f := 1) (pc2 := 18) (ls2 := [(2, .int 8), (0, .ref 0), (1, .int a)]) (st2 := [.ref 0]) (h2 := h19x) (dc2 := 0) (ds2 := 0) 1 rfl ?_
  refine wq_getf rfl e20x rfl rfl ?_
  refine wq_gos (f := 1) (pc2 := 22) (ls2 := [(2, .int 8), (0, .ref 0), (1, .int a)]) (st2 := [.ref 0, .ref 2]) (h2 := h19x) (dc2 := 0) (ds2 := 0) 1 rfl ?_
  refine wq_getf rfl e20x rfl rfl ?_
  refine wq_gos (f := 1) (pc2 := 29) (ls2 := [(2, .int 8), (0, .ref 0), (1, .int a)]) (st2 := [.int (((a).toUInt32 >>> (((8 : Int32)).toUInt32 &&& Int32.toUInt32 31)).toInt32).toInt8.toInt32, .int (nI ((t + 1) + 1)), .ref 2]) (h2 := h19x) (dc2 := 0) (ds2 := 0) 4 rfl ?_
  have e24x := (f21x.2 _ _ (wnc (by decide) wn0) e15x)
  refine wq_bast rfl e24x (by first | omega | exact zin_t (by omega) (by omega)) rfl ?_
  intro h25x e26x f27x l28x
  have e26x : zat h25x 2 = some (.inl (1, 700, (zset 0 (zset 0 (zset 0 tb ((nI t)).toNatClampNeg (vp_nar .byte (((a).toUInt32 >>> (((24 : Int32)).toUInt32 &&& Int32.toUInt32 31)).toInt32).toInt8.toInt32)) ((nI (t + 1))).toNatClampNeg (vp_nar .byte (((a).toUInt32 >>> (((16 : Int32)).toUInt32 &&& Int32.toUInt32 31)).toInt32).toInt8.toInt32)) ((nI ((t + 1) + 1))).toNatClampNeg (vp_nar .byte (((a).toUInt32 >>> (((8 : Int32)).toUInt32 &&& Int32.toUInt32 31)).toInt32).toInt8.toInt32)))) := e26x
  refine wq_gos (f := 1) (pc2 := 32) (ls2 := [(2, .int 8), (0, .ref 0), (1, .int a)]) (st2 := [.ref 0, .ref 0]) (h2 := h25x) (dc2 := 0) (ds2 := 0) 2 rfl ?_
  have e29x := (f27x.2 _ _ (wnc (by decide) wn0) e20x)
  refine wq_getf rfl e29x rfl rfl ?_
  refine wq_gos (f := 1) (pc2 := 37) (ls2 := [(2, .int 8), (0, .ref 0), (1, .int a)]) (st2 := [.int ((nI ((t + 1) + 1)) + (1 : Int32)), .ref 0]) (h2 := h25x) (dc2 := 0) (ds2 := 0) 2 rfl ?_
  rw [nI_1]
  refine wq_putf rfl e29x rfl rfl rfl ?_
  intro h30x e31x f32x l33x
  have e31x : zat h30x 0 = some (.inr (.inr (.inr (9, [.ref 2, .int (nI (((t + 1) + 1) + 1)), .ref 4, .ref ra, .ref rd, .long ps, .ref 34, .ref 36, .int im, .long ip, .ref 42, .ref 44, .ref 60, .ref 66, .ref 72, .ref 74, .ref 150, .ref 158])))) := e31x
  refine wq_gos (f := 1) (pc2 := 8) (ls2 := [(2, .int 0), (0, .ref 0), (1, .int a)]) (st2 := [.ref 0]) (h2 := h30x) (dc2 := 0) (ds2 := 0) 5 rfl ?_
  refine wq_getf rfl e31x rfl rfl ?_
  refine wq_gos (f := 1) (pc2 := 14) (ls2 := [(2, .int 0), (0, .ref 0), (1, .int a)]) (st2 := [.int 700, .int (nI (((t + 1) + 1) + 1))]) (h2 := h30x) (dc2 := 0) (ds2 := 0) 1 rfl ?_
  try have q34x := nI_toInt (n := (((t + 1) + 1) + 1)) (by omega)
  refine wq_ge2f rfl rfl (by omega) ?_
  refine wq_gos (f := 1) (pc2 := 18) (ls2 := [(2, .int 0), (0, .ref 0), (1, .int a)]) (st2 := [.ref 0]) (h2 := h30x) (dc2 := 0) (ds2 := 0) 1 rfl ?_
  refine wq_getf rfl e31x rfl rfl ?_
  refine wq_gos (f := 1) (pc2 := 22) (ls2 := [(2, .int 0), (0, .ref 0), (1, .int a)]) (st2 := [.ref 0, .ref 2]) (h2 := h30x) (dc2 := 0) (ds2 := 0) 1 rfl ?_
  refine wq_getf rfl e31x rfl rfl ?_
  refine wq_gos (f := 1) (pc2 := 29) (ls2 := [(2, .int 0), (0, .ref 0), (1, .int a)]) (st2 := [.int (((a).toUInt32 >>> (((0 : Int32)).toUInt32 &&& Int32.toUInt32 31)).toInt32).toInt8.toInt32, .int (nI (((t + 1) + 1) + 1)), .ref 2]) (h2 := h30x) (dc2 := 0) (ds2 := 0) 4 rfl ?_
  have e35x := (f32x.2 _ _ (wnc (by decide) wn0) e26x)
  refine wq_bast rfl e35x (by first | omega | exact zin_t (by omega) (by omega)) rfl ?_
  intro h36x e37x f38x l39x
  have e37x : zat h36x 2 = some (.inl (1, 700, (zset 0 (zset 0 (zset 0 (zset 0 tb ((nI t)).toNatClampNeg (vp_nar .byte (((a).toUInt32 >>> (((24 : Int32)).toUInt32 &&& Int32.toUInt32 31)).toInt32).toInt8.toInt32)) ((nI (t + 1))).toNatClampNeg (vp_nar .byte (((a).toUInt32 >>> (((16 : Int32)).toUInt32 &&& Int32.toUInt32 31)).toInt32).toInt8.toInt32)) ((nI ((t + 1) + 1))).toNatClampNeg (vp_nar .byte (((a).toUInt32 >>> (((8 : Int32)).toUInt32 &&& Int32.toUInt32 31)).toInt32).toInt8.toInt32)) ((nI (((t + 1) + 1) + 1))).toNatClampNeg (vp_nar .byte (((a).toUInt32 >>> (((0 : Int32)).toUInt32 &&& Int32.toUInt32 31)).toInt32).toInt8.toInt32)))) := e37x
  refine wq_gos (f := 1) (pc2 := 32) (ls2 := [(2, .int 0), (0, .ref 0), (1, .int a)]) (st2 := [.ref 0, .ref 0]) (h2 := h36x) (dc2 := 0) (ds2 := 0) 2 rfl ?_
  have e40x := (f38x.2 _ _ (wnc (by decide) wn0) e31x)
  refine wq_getf rfl e40x rfl rfl ?_
  refine wq_gos (f := 1) (pc2 := 37) (ls2 := [(2, .int 0), (0, .ref 0), (1, .int a)]) (st2 := [.int ((nI (((t + 1) + 1) + 1)) + (1 : Int32)), .ref 0]) (h2 := h36x) (dc2 := 0) (ds2 := 0) 2 rfl ?_
  rw [nI_1]
  refine wq_putf rfl e40x rfl rfl rfl ?_
  intro h41x e42x f43x l44x
  have e42x : zat h41x 0 = some (.inr (.inr (.inr (9, [.ref 2, .int (nI ((((t + 1) + 1) + 1) + 1)), .ref 4, .ref ra, .ref rd, .long ps, .ref 34, .ref 36, .int im, .long ip, .ref 42, .ref 44, .ref 60, .ref 66, .ref 72, .ref 74, .ref 150, .ref 158])))) := e42x
  refine wq_gos (f := 1) (pc2 := 46) (ls2 := [(2, .int (-8)), (0, .ref 0), (1, .int a)]) (st2 := []) (h2 := h41x) (dc2 := 0) (ds2 := 0) 4 rfl ?_
  have e45x := (f43x.2 _ _ (wnc (by decide) wn0) e37x)
  exact wq_ret rfl rfl ⟨h41x, rfl, (wFr_tr (wFr_sub f5x (by simp)) (wFr_tr (wFr_sub f10x (by simp)) (wFr_tr (wFr_sub f16x (by simp)) (wFr_tr (wFr_sub f21x (by simp)) (wFr_tr (wFr_sub f27x (by simp)) (wFr_tr (wFr_sub f32x (by simp)) (wFr_tr (wFr_sub f38x (by simp)) (wFr_sub f43x (by simp))))))))), (by omega), (by rw [show (.inr (.inr (.inr (9, [.ref 2, .int (nI (t + 4)), .ref 4, .ref ra, .ref rd, .long ps, .ref 34, .ref 36, .int im, .long ip, .ref 42, .ref 44, .ref 60, .ref 66, .ref 72, .ref 74, .ref 150, .ref 158]))) : zE) = .inr (.inr (.inr (9, [.ref 2, .int (nI ((((t + 1) + 1) + 1) + 1)), .ref 4, .ref ra, .ref rd, .long ps, .ref 34, .ref 36, .int im, .long ip, .ref 42, .ref 44, .ref 60, .ref 66, .ref 72, .ref 74, .ref 150, .ref 158]))) from rfl]; exact e42x), e45x⟩
noncomputable def fdF (a b c d e : Int32) (t : Nat) (tb : List Int32) : List Int32 := p4F (t + 4 + 4 + 4 + 4) e (p4F (t + 4 + 4 + 4) d (p4F (t + 4 + 4) c (p4F (t + 4) b (p4F t a tb))))
set_option maxRecDepth 100000 in
set_option maxHeartbeats 4000000 in
theorem c_feedC {h : zH} {t ra rd : Nat} {ps ip : Int64} {im : Int32} {a b c d e : Int32} {tb : List Int32} (hX : zat h 0 = some (.inr (.inr (.inr (9, [.ref 2, .int (nI t), .ref 4, .ref ra, .ref rd, .long ps, .ref 34, .ref 36, .int im, .long ip, .ref 42, .ref 44, .ref 60, .ref 66, .ref 72, .ref 74, .ref 150, .ref 158]))))) (hT : zat h 2 = some (.inl (1, 700, tb))) (ht : t ≤ 680) : wq 100 0 [(0, .ref 0), (1, .int a), (2, .int b), (3, .int c), (4, .int d), (5, .int e)] [] h 0 0 (fun rr9 => ∃ (h2 : zH), rr9 = (some (.int (nI (t + 20))), h2, 0, 0) ∧ wFr [0, 2] h h2 ∧ h2.length = h.length ∧ zat h2 0 = some (.inr (.inr (.inr (9, [.ref 2, .int (nI (t + 20)), .ref 4, .ref ra, .ref rd, .long ps, .ref 34, .ref 36, .int im, .long ip, .ref 42, .ref 44, .ref 60, .ref 66, .ref 72, .ref 74, .ref 150, .ref 158])))) ∧ zat h2 2 = some (.inl (1, 700, fdF a b c d e t tb))) := by
  have qnt := nI_toInt (n := t) (by omega)
  refine wq_gos (f := 1) (pc2 := 1) (ls2 := [(0, .ref 0), (1, .int a), (2, .int b), (3, .int c), (4, .int d), (5, .int e)]) (st2 := [.ref 0]) (h2 := h) (dc2 := 0) (ds2 := 0) 1 rfl ?_
  refine wq_getf rfl hX rfl rfl ?_
  refine wq_gos (f := 1) (pc2 := 10) (ls2 := [(0, .ref 0), (1, .int a), (2, .int b), (3, .int c), (4, .int d), (5, .int e)]) (st2 := [.int 700, .int ((nI t) + (20 : Int32))]) (h2 := h) (dc2 := 0) (ds2 := 0) 3 rfl ?_
  try have q1x := nI_toInt (n := t) (by omega)
  have q2x : (20 : Int32).toInt = 20 := rfl
  try have q3x : (((nI t) + (20 : Int32))).toInt = (nI t).toInt + (20 : Int32).toInt := e_add (by omega) (by omega)
  have q4x : (700 : Int32).toInt = 700 := rfl
  refine wq_le2t rfl (by omega) ?_
  refine wq_gos (f := 1) (pc2 := 17) (ls2 := [(0, .ref 0), (1, .int a), (2, .int b), (3, .int c), (4, .int d), (5, .int e)]) (st2 := [.int a, .ref 0]) (h2 := h) (dc2 := 0) (ds2 := 0) 2 rfl ?_
  refine wq_inlv (y2 := 101) (as := [.int a]) rfl rfl rfl hX rfl (wq_mono (c_put4C hX hT (by first | omega | assumption | decide)) ?_)
  rintro _ ⟨h85x, rfl, f85x, l85x, c05x, c15x⟩
  show wq 100 20 [(0, .ref 0), (1, .int a), (2, .int b), (3, .int c), (4, .int d), (5, .int e)] [] h85x 0 0 _
  refine wq_gos (f := 1) (pc2 := 22) (ls2 := [(0, .ref 0), (1, .int a), (2, .int b), (3, .int c), (4, .int d), (5, .int e)]) (st2 := [.int b, .ref 0]) (h2 := h85x) (dc2 := 0) (ds2 := 0) 2 rfl ?_
  refine wq_inlv (y2 := 101) (as := [.int b]) rfl rfl rfl c05x rfl (wq_mono (c_put4C c05x c15x (by first | omega | assumption | decide)) ?_)
  rintro _ ⟨h86x, rfl, f86x, l86x, c06x, c16x⟩
  show wq 100 25 [(0, .ref 0), (1, .int a), (2, .int b), (3, .int c), (4, .int d), (5, .int e)] [] h86x 0 0 _
  refine wq_gos (f := 1) (pc2 := 27) (ls2 := [(0, .ref 0), (1, .int a), (2, .int b), (3, .int c), (4, .int d), (5, .int e)]) (st2 := [.int c, .ref 0]) (h2 := h86x) (dc2 := 0) (ds2 := 0) 2 rfl ?_
  refine wq_inlv (y2 := 101) (as := [.int c]) rfl rfl rfl c06x rfl (wq_mono (c_put4C c06x c16x (by first | omega | assumption | decide)) ?_)
  rintro _ ⟨h87x, rfl, f87x, l87x, c07x, c17x⟩
  show wq 100 30 [(0, .ref 0), (1, .int a), (2, .int b), (3, .int c), (4, .int d), (5, .int e)] [] h87x 0 0 _
  refine wq_gos (f := 1) (pc2 := 33) (ls2 := [(0, .ref 0), (1, .int a), (2, .int b), (3, .int c), (4, .int d), (5, .int e)]) (st2 := [.int d, .ref 0]) (h2 := h87x) (dc2 := 0) (ds2 := 0) 2 rfl ?_
  refine wq_inlv (y2 := 101) (as := [.int d]) rfl rfl rfl c07x rfl (wq_mono (c_put4C c07x c17x (by first | omega | assumption | decide)) ?_)
  rintro _ ⟨h88x, rfl, f88x, l88x, c08x, c18x⟩
  show wq 100 36 [(0, .ref 0), (1, .int a), (2, .int b), (3, .int c), (4, .int d), (5, .int e)] [] h88x 0 0 _
  refine wq_gos (f := 1) (pc2 := 39) (ls2 := [(0, .ref 0), (1, .int a), (2, .int b), (3, .int c), (4, .int d), (5, .int e)]) (st2 := [.int e, .ref 0]) (h2 := h88x) (dc2 := 0) (ds2 := 0) 2 rfl ?_
  refine wq_inlv (y2 := 101) (as := [.int e]) rfl rfl rfl c08x rfl (wq_mono (c_put4C c08x c18x (by first | omega | assumption | decide)) ?_)
  rintro _ ⟨h89x, rfl, f89x, l89x, c09x, c19x⟩
  show wq 100 42 [(0, .ref 0), (1, .int a), (2, .int b), (3, .int c), (4, .int d), (5, .int e)] [] h89x 0 0 _
  refine wq_gos (f := 1) (pc2 := 43) (ls2 := [(0, .ref 0), (1, .int a), (2, .int b), (3, .int c), (4, .int d), (5, .int e)]) (st2 := [.ref 0]) (h2 := h89x) (dc2 := 0) (ds2 := 0) 1 rfl ?_
  refine wq_getf rfl c09x rfl rfl ?_
  have w10x : (nI (t + 20)) = (nI (((((t + 4) + 4) + 4) + 4) + 4)) := by first | rfl | assumption | omega
  rw [w10x]
  exact wq_ret rfl rfl ⟨h89x, rfl, (wFr_tr (wFr_sub f85x (by simp)) (wFr_tr (wFr_sub f86x (by simp)) (wFr_tr (wFr_sub f87x (by simp)) (wFr_tr (wFr_sub f88x (by simp)) (wFr_sub f89x (by simp)))))), (by omega), (by rw [show (.inr (.inr (.inr (9, [.ref 2, .int (nI (t + 20)), .ref 4, .ref ra, .ref rd, .long ps, .ref 34, .ref 36, .int im, .long ip, .ref 42, .ref 44, .ref 60, .ref 66, .ref 72, .ref 74, .ref 150, .ref 158]))) : zE) = .inr (.inr (.inr (9, [.ref 2, .int (nI (((((t + 4) + 4) + 4) + 4) + 4)), .ref 4, .ref ra, .ref rd, .long ps, .ref 34, .ref 36, .int im, .long ip, .ref 42, .ref 44, .ref 60, .ref 66, .ref 72, .ref 74, .ref 150, .ref 158]))) from rfl]; exact c09x), c19x⟩
