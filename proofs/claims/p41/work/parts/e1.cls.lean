/-! The class: feed, fault, aim, keep, back, undo, count. -/
set_option maxRecDepth 100000 in
set_option maxHeartbeats 4000000 in
theorem c_feedN {h : zH} {t ra rd : Nat} {ps ip : Int64} {im : Int32} {a b c d e : Int32} (hX : zat h 0 = some (.inr (.inr (.inr (9, [.ref 2, .int (nI t), .ref 4, .ref ra, .ref rd, .long ps, .ref 34, .ref 36, .int im, .long ip, .ref 42, .ref 44, .ref 60, .ref 66, .ref 72, .ref 74, .ref 150, .ref 158]))))) (ht : 680 < t ∧ t ≤ 700) : wq 100 0 [(0, .ref 0), (1, .int a), (2, .int b), (3, .int c), (4, .int d), (5, .int e)] [] h 0 0 (fun r => r = (some (.int (-1)), h, 0, 0)) := by
  have qnt := nI_toInt (n := t) (by omega)
  refine wq_gos (f := 1) (pc2 := 1) (ls2 := [(0, .ref 0), (1, .int a), (2, .int b), (3, .int c), (4, .int d), (5, .int e)]) (st2 := [.ref 0]) (h2 := h) (dc2 := 0) (ds2 := 0) 1 rfl ?_
  refine wq_getf rfl hX rfl rfl ?_
  refine wq_gos (f := 1) (pc2 := 10) (ls2 := [(0, .ref 0), (1, .int a), (2, .int b), (3, .int c), (4, .int d), (5, .int e)]) (st2 := [.int 700, .int ((nI t) + (20 : Int32))]) (h2 := h) (dc2 := 0) (ds2 := 0) 3 rfl ?_
  try have q1x := nI_toInt (n := t) (by omega)
  have q2x : (20 : Int32).toInt = 20 := rfl
  try have q3x : (((nI t) + (20 : Int32))).toInt = (nI t).toInt + (20 : Int32).toInt := e_add (by omega) (by omega)
  refine wq_le2f rfl rfl (by omega) ?_
  refine wq_gos (f := 1) (pc2 := 14) (ls2 := [(0, .ref 0), (1, .int a), (2, .int b), (3, .int c), (4, .int d), (5, .int e)]) (st2 := [.int (-1)]) (h2 := h) (dc2 := 0) (ds2 := 0) 1 rfl ?_
  exact wq_ret rfl rfl rfl
set_option maxRecDepth 100000 in
set_option maxHeartbeats 4000000 in
theorem c_put4 {h : zH} {t ra rd : Nat} {ps ip : Int64} {im : Int32} {a : Int32} {tb : List Int32} (hX : zat h 0 = some (.inr (.inr (.inr (9, [.ref 2, .int (nI t), .ref 4, .ref ra, .ref rd, .long ps, .ref 34, .ref 36, .int im, .long ip, .ref 42, .ref 44, .ref 60, .ref 66, .ref 72, .ref 74, .ref 150, .ref 158]))))) (hT : zat h 2 = some (.inl (1, 700, tb))) (ht : t + 4 ≤ 700) : wq 101 0 [(0, .ref 0), (1, .int a)] [] h 0 0 (fun r => ∃ (h2 : zH) (tb2 : List Int32), r = (none, h2, 0, 0) ∧ wFr [0, 2] h h2 ∧ h2.length = h.length ∧ zat h2 0 = some (.inr (.inr (.inr (9, [.ref 2, .int (nI (t + 4)), .ref 4, .ref ra, .ref rd, .long ps, .ref 34, .ref 36, .int im, .long ip, .ref 42, .ref 44, .ref 60, .ref 66, .ref 72, .ref 74, .ref 150, .ref 158])))) ∧ zat h2 2 = some (.inl (1, 700, tb2)) ∧ ∀ i, i < t → tb2.getD i 0 = tb.getD i 0) := by
  have q1 := nI_toInt (n := t) (by omega)
  have q2 := nI_toInt (n := t + 1) (by omega)
  have q3 := nI_toInt (n := t + 1 + 1) (by omega)
  have q4 := nI_toInt (n := t + 1 + 1 + 1) (by omega)
  refine wq_gos (f := 1) (pc2 := 8) (ls2 := [(2, .int 24), (0, .ref 0), (1, .int a)]) (st2 := [.ref 0]) (h2 := h) (dc2 := 0) (ds2 := 0) 5 rfl ?_
  refine wq_getf rfl hX rfl rfl ?_
  refine wq_gos (f := 1) (pc2 := 14) (ls2 := [(2, .int 24), (0, .ref 0), (1, .int a)]) (st2 := [.int 700, .int (nI t)]) (h2 := h) (dc2 := 0) (ds2 := 0) 1 rfl ?_
  try have q1x := nI_toInt (n := t) (by omega)
  refine wq_ge2f rfl rfl (by omega) ?_
  refine wq_gos (f := 1) (pc2 := 18) (ls2 := [(2, .int 24), (0, .ref 0), (1, .int a)]) (st2 := [.ref 0]) (h2 := h) (dc2 := 0) (ds2 := 0) 1 rfl ?_
  refine wq_getf rfl hX rfl rfl ?_
  refine wq_gos (f := 1) (pc2 := 22) (ls2 := [(2, .int 24), (0, .ref 0), (1, .int a)]) (st2 := [.ref 0, .ref 2]) (h2 := h) (dc2 := 0) (ds2 := 0) 1 rfl ?_
  refine wq_getf rfl hX rfl rfl ?_
  refine wq_gos (f := 1) (pc2 := 29) (ls2 := [(2, .int 24), (0, .ref 0), (1, .int a)]) (st2 := [.int (((a).toUInt32 >>> (((24 : Int32)).toUInt32 &&& Int32.toUInt32 31)).toInt32).toInt8.toInt32, .int (nI t), .ref 2]) (h2 := h) (dc2 := 0) (ds2 := 0) 4 rfl ?_
  refine wq_bast rfl hT (zin_t (by omega) (by omega)) rfl ?_
  intro h2x e3x f4x l5x
  have e3x : zat h2x 2 = some (.inl (1, 700, (zset 0 tb ((nI t)).toNatClampNeg (vp_nar .byte (((a).toUInt32 >>> (((24 : Int32)).toUInt32 &&& Int32.toUInt32 31)).toInt32).toInt8.toInt32)))) := e3x
  refine wq_gos (f := 1) (pc2 := 32) (ls2 := [(2, .int 24), (0, .ref 0), (1, .int a)]) (st2 := [.ref 0, .ref 0]) (h2 := h2x) (dc2 := 0) (ds2 := 0) 2 rfl ?_
  have e6x := (f4x.2 _ _ (wnc (by decide) wn0) hX)
  refine wq_getf rfl e6x rfl rfl ?_
  refine wq_gos (f := 1) (pc2 := 37) (ls2 := [(2, .int 24), (0, .ref 0), (1, .int a)]) (st2 := [.int ((nI t) + (1 : Int32)), .ref 0]) (h2 := h2x) (dc2 := 0) (ds2 := 0) 2 rfl ?_
  rw [nI_1]
  refine wq_putf rfl e6x rfl rfl rfl ?_
  intro h7x e8x f9x l10x
  have e8x : zat h7x 0 = some (.inr (.inr (.inr (9, [.ref 2, .int (nI (t + 1)), .ref 4, .ref ra, .ref rd, .long ps, .ref 34, .ref 36, .int im, .long ip, .ref 42, .ref 44, .ref 60, .ref 66, .ref 72, .ref 74, .ref 150, .ref 158])))) := e8x
  refine wq_gos (f := 1) (pc2 := 8) (ls2 := [(2, .int 16), (0, .ref 0), (1, .int a)]) (st2 := [.ref 0]) (h2 := h7x) (dc2 := 0) (ds2 := 0) 5 rfl ?_
  refine wq_getf rfl e8x rfl rfl ?_
  refine wq_gos (f := 1) (pc2 := 14) (ls2 := [(2, .int 16), (0, .ref 0), (1, .int a)]) (st2 := [.int 700, .int (nI (t + 1))]) (h2 := h7x) (dc2 := 0) (ds2 := 0) 1 rfl ?_
  try have q11x := nI_toInt (n := (t + 1)) (by omega)
  refine wq_ge2f rfl rfl (by omega) ?_
  refine wq_gos (f := 1) (pc2 := 18) (ls2 := [(2, .int 16), (0, .ref 0), (1, .int a)]) (st2 := [.ref 0]) (h2 := h7x) (dc2 := 0) (ds2 := 0) 1 rfl ?_
  refine wq_getf rfl e8x rfl rfl ?_
  refine wq_gos (f := 1) (pc2 := 22) (ls2 := [(2, .int 16), (0, .ref 0), (1, .int a)]) (st2 := [.ref 0, .ref 2]) (h2 := h7x) (dc2 := 0) (ds2 := 0) 1 rfl ?_
  refine wq_getf rfl e8x rfl rfl ?_
  refine wq_gos (f := 1) (pc2 := 29) (ls2 := [(2, .int 16), (0, .ref 0), (1, .int a)]) (st2 := [.int (((a).toUInt32 >>> (((16 : Int32)).toUInt32 &&& Int32.toUInt32 31)).toInt32).toInt8.toInt32, .int (nI (t + 1)), .ref 2]) (h2 := h7x) (dc2 := 0) (ds2 := 0) 4 rfl ?_
  have e12x := (f9x.2 _ _ (wnc (by decide) wn0) e3x)
  refine wq_bast rfl e12x (zin_t (by omega) (by omega)) rfl ?_
  intro h13x e14x f15x l16x
  have e14x : zat h13x 2 = some (.inl (1, 700, (zset 0 (zset 0 tb ((nI t)).toNatClampNeg (vp_nar .byte (((a).toUInt32 >>> (((24 : Int32)).toUInt32 &&& Int32.toUInt32 31)).toInt32).toInt8.toInt32)) ((nI (t + 1))).toNatClampNeg (vp_nar .byte (((a).toUInt32 >>> (((16 : Int32)).toUInt32 &&& Int32.toUInt32 31)).toInt32).toInt8.toInt32)))) := e14x
  refine wq_gos (f := 1) (pc2 := 32) (ls2 := [(2, .int 16), (0, .ref 0), (1, .int a)]) (st2 := [.ref 0, .ref 0]) (h2 := h13x) (dc2 := 0) (ds2 := 0) 2 rfl ?_
  have e17x := (f15x.2 _ _ (wnc (by decide) wn0) e8x)
  refine wq_getf rfl e17x rfl rfl ?_
  refine wq_gos (f := 1) (pc2 := 37) (ls2 := [(2, .int 16), (0, .ref 0), (1, .int a)]) (st2 := [.int ((nI (t + 1)) + (1 : Int32)), .ref 0]) (h2 := h13x) (dc2 := 0) (ds2 := 0) 2 rfl ?_
  rw [nI_1]
  refine wq_putf rfl e17x rfl rfl rfl ?_
  intro h18x e19x f20x l21x
  have e19x : zat h18x 0 = some (.inr (.inr (.inr (9, [.ref 2, .int (nI ((t + 1) + 1)), .ref 4, .ref ra, .ref rd, .long ps, .ref 34, .ref 36, .int im, .long ip, .ref 42, .ref 44, .ref 60, .ref 66, .ref 72, .ref 74, .ref 150, .ref 158])))) := e19x
  refine wq_gos (f := 1) (pc2 := 8) (ls2 := [(2, .int 8), (0, .ref 0), (1, .int a)]) (st2 := [.ref 0]) (h2 := h18x) (dc2 := 0) (ds2 := 0) 5 rfl ?_
  refine wq_getf rfl e19x rfl rfl ?_
  refine wq_gos (f := 1) (pc2 := 14) (ls2 := [(2, .int 8), (0, .ref 0), (1, .int a)]) (st2 := [.int 700, .int (nI ((t + 1) + 1))]) (h2 := h18x) (dc2 := 0) (ds2 := 0) 1 rfl ?_
  try have q22x := nI_toInt (n := ((t + 1) + 1)) (by omega)
  refine wq_ge2f rfl rfl (by omega) ?_
  refine wq_gos (f := 1) (pc2 := 18) (ls2 := [(2, .int 8), (0, .ref 0), (1, .int a)]) (st2 := [.ref 0]) (h2 := h18x) (dc2 := 0) (ds2 := 0) 1 rfl ?_
  refine wq_getf rfl e19x rfl rfl ?_
  refine wq_gos (f := 1) (pc2 := 22) (ls2 := [(2, .int 8), (0, .ref 0), (1, .int a)]) (st2 := [.ref 0, .ref 2]) (h2 := h18x) (dc2 := 0) (ds2 := 0) 1 rfl ?_
  refine wq_getf rfl e19x rfl rfl ?_
  refine wq_gos (f := 1) (pc2 := 29) (ls2 := [(2, .int 8), (0, .ref 0), (1, .int a)]) (st2 := [.int (((a).toUInt32 >>> (((8 : Int32)).toUInt32 &&& Int32.toUInt32 31)).toInt32).toInt8.toInt32, .int (nI ((t + 1) + 1)), .ref 2]) (h2 := h18x) (dc2 := 0) (ds2 := 0) 4 rfl ?_
  have e23x := (f20x.2 _ _ (wnc (by decide) wn0) e14x)
  refine wq_bast rfl e23x (zin_t (by omega) (by omega)) rfl ?_
  intro h24x e25x f26x l27x
  have e25x : zat h24x 2 = some (.inl (1, 700, (zset 0 (zset 0 (zset 0 tb ((nI t)).toNatClampNeg (vp_nar .byte (((a).toUInt32 >>> (((24 : Int32)).toUInt32 &&& Int32.toUInt32 31)).toInt32).toInt8.toInt32)) ((nI (t + 1))).toNatClampNeg (vp_nar .byte (((a).toUInt32 >>> (((16 : Int32)).toUInt32 &&& Int32.toUInt32 31)).toInt32).toInt8.toInt32)) ((nI ((t + 1) + 1))).toNatClampNeg (vp_nar .byte (((a).toUInt32 >>> (((8 : Int32)).toUInt32 &&& Int32.toUInt32 31)).toInt32).toInt8.toInt32)))) := e25x
  refine wq_gos (f := 1) (pc2 := 32) (ls2 := [(2, .int 8), (0, .ref 0), (1, .int a)]) (st2 := [.ref 0, .ref 0]) (h2 := h24x) (dc2 := 0) (ds2 := 0) 2 rfl ?_
  have e28x := (f26x.2 _ _ (wnc (by decide) wn0) e19x)
  refine wq_getf rfl e28x rfl rfl ?_
  refine wq_gos (f := 1) (pc2 := 37) (ls2 := [(2, .int 8), (0, .ref 0), (1, .int a)]) (st2 := [.int ((nI ((t + 1) + 1)) + (1 : Int32)), .ref 0]) (h2 := h24x) (dc2 := 0) (ds2 := 0) 2 rfl ?_
  rw [nI_1]
  refine wq_putf rfl e28x rfl rfl rfl ?_
  intro h29x e30x f31x l32x
  have e30x : zat h29x 0 = some (.inr (.inr (.inr (9, [.ref 2, .int (nI (((t + 1) + 1) + 1)), .ref 4, .ref ra, .ref rd, .long ps, .ref 34, .ref 36, .int im, .long ip, .ref 42, .ref 44, .ref 60, .ref 66, .ref 72, .ref 74, .ref 150, .ref 158])))) := e30x
  refine wq_gos (f := 1) (pc2 := 8) (ls2 := [(2, .int 0), (0, .ref 0), (1, .int a)]) (st2 := [.ref 0]) (h2 := h29x) (dc2 := 0) (ds2 := 0) 5 rfl ?_
  refine wq_getf rfl e30x rfl rfl ?_
  refine wq_gos (f := 1) (pc2 := 14) (ls2 := [(2, .int 0), (0, .ref 0), (1, .int a)]) (st2 := [.int 700, .int (nI (((t + 1) + 1) + 1))]) (h2 := h29x) (dc2 := 0) (ds2 := 0) 1 rfl ?_
  try have q33x := nI_toInt (n := (((t + 1) + 1) + 1)) (by omega)
  refine wq_ge2f rfl rfl (by omega) ?_
  refine wq_gos (f := 1) (pc2 := 18) (ls2 := [(2, .int 0), (0, .ref 0), (1, .int a)]) (st2 := [.ref 0]) (h2 := h29x) (dc2 := 0) (ds2 := 0) 1 rfl ?_
  refine wq_getf rfl e30x rfl rfl ?_
  refine wq_gos (f := 1) (pc2 := 22) (ls2 := [(2, .int 0), (0, .ref 0), (1, .int a)]) (st2 := [.ref 0, .ref 2]) (h2 := h29x) (dc2 := 0) (ds2 := 0) 1 rfl ?_
  refine wq_getf rfl e30x rfl rfl ?_
  refine wq_gos (f := 1) (pc2 := 29) (ls2 := [(2, .int 0), (0, .ref 0), (1, .int a)]) (st2 := [.int (((a).toUInt32 >>> (((0 : Int32)).toUInt32 &&& Int32.toUInt32 31)).toInt32).toInt8.toInt32, .int (nI (((t + 1) + 1) + 1)), .ref 2]) (h2 := h29x) (dc2 := 0) (ds2 := 0) 4 rfl ?_
  have e34x := (f31x.2 _ _ (wnc (by decide) wn0) e25x)
  refine wq_bast rfl e34x (zin_t (by omega) (by omega)) rfl ?_
  intro h35x e36x f37x l38x
  have e36x : zat h35x 2 = some (.inl (1, 700, (zset 0 (zset 0 (zset 0 (zset 0 tb ((nI t)).toNatClampNeg (vp_nar .byte (((a).toUInt32 >>> (((24 : Int32)).toUInt32 &&& Int32.toUInt32 31)).toInt32).toInt8.toInt32)) ((nI (t + 1))).toNatClampNeg (vp_nar .byte (((a).toUInt32 >>> (((16 : Int32)).toUInt32 &&& Int32.toUInt32 31)).toInt32).toInt8.toInt32)) ((nI ((t + 1) + 1))).toNatClampNeg (vp_nar .byte (((a).toUInt32 >>> (((8 : Int32)).toUInt32 &&& Int32.toUInt32 31)).toInt32).toInt8.toInt32)) ((nI (((t + 1) + 1) + 1))).toNatClampNeg (vp_nar .byte (((a).toUInt32 >>> (((0 : Int32)).toUInt32 &&& Int32.toUInt32 31)).toInt32).toInt8.toInt32)))) := e36x
  refine wq_gos (f := 1) (pc2 := 32) (ls2 := [(2, .int 0), (0, .ref 0), (1, .int a)]) (st2 := [.ref 0, .ref 0]) (h2 := h35x) (dc2 := 0) (ds2 := 0) 2 rfl ?_
  have e39x := (f37x.2 _ _ (wnc (by decide) wn0) e30x)
  refine wq_getf rfl e39x rfl rfl ?_
  refine wq_gos (f := 1) (pc2 := 37) (ls2 := [(2, .int 0), (0, .ref 0), (1, .int a)]) (st2 := [.int ((nI (((t + 1) + 1) + 1)) + (1 : Int32)), .ref 0]) (h2 := h35x) (dc2 := 0) (ds2 := 0) 2 rfl ?_
  rw [nI_1]
  refine wq_putf rfl e39x rfl rfl rfl ?_
  intro h40x e41x f42x l43x
  have e41x : zat h40x 0 = some (.inr (.inr (.inr (9, [.ref 2, .int (nI ((((t + 1) + 1) + 1) + 1)), .ref 4, .ref ra, .ref rd, .long ps, .ref 34, .ref 36, .int im, .long ip, .ref 42, .ref 44, .ref 60, .ref 66, .ref 72, .ref 74, .ref 150, .ref 158])))) := e41x
  refine wq_gos (f := 1) (pc2 := 46) (ls2 := [(2, .int (-8)), (0, .ref 0), (1, .int a)]) (st2 := []) (h2 := h40x) (dc2 := 0) (ds2 := 0) 4 rfl ?_
  have e44x := (f42x.2 _ _ (wnc (by decide) wn0) e36x)
  exact wq_ret rfl rfl ⟨h40x, (zset 0 (zset 0 (zset 0 (zset 0 tb ((nI t)).toNatClampNeg (vp_nar .byte (((a).toUInt32 >>> (((24 : Int32)).toUInt32 &&& Int32.toUInt32 31)).toInt32).toInt8.toInt32)) ((nI (t + 1))).toNatClampNeg (vp_nar .byte (((a).toUInt32 >>> (((16 : Int32)).toUInt32 &&& Int32.toUInt32 31)).toInt32).toInt8.toInt32)) ((nI ((t + 1) + 1))).toNatClampNeg (vp_nar .byte (((a).toUInt32 >>> (((8 : Int32)).toUInt32 &&& Int32.toUInt32 31)).toInt32).toInt8.toInt32)) ((nI (((t + 1) + 1) + 1))).toNatClampNeg (vp_nar .byte (((a).toUInt32 >>> (((0 : Int32)).toUInt32 &&& Int32.toUInt32 31)).toInt32).toInt8.toInt32)), rfl, (wFr_tr (wFr_sub f4x (by simp)) (wFr_tr (wFr_sub f9x (by simp)) (wFr_tr (wFr_sub f15x (by simp)) (wFr_tr (wFr_sub f20x (by simp)) (wFr_tr (wFr_sub f26x (by simp)) (wFr_tr (wFr_sub f31x (by simp)) (wFr_tr (wFr_sub f37x (by simp)) (wFr_sub f42x (by simp))))))))), (by omega), (by rw [show (.inr (.inr (.inr (9, [.ref 2, .int (nI (t + 4)), .ref 4, .ref ra, .ref rd, .long ps, .ref 34, .ref 36, .int im, .long ip, .ref 42, .ref 44, .ref 60, .ref 66, .ref 72, .ref 74, .ref 150, .ref 158]))) : zE) = .inr (.inr (.inr (9, [.ref 2, .int (nI ((((t + 1) + 1) + 1) + 1)), .ref 4, .ref ra, .ref rd, .long ps, .ref 34, .ref 36, .int im, .long ip, .ref 42, .ref 44, .ref 60, .ref 66, .ref 72, .ref 74, .ref 150, .ref 158]))) from rfl]; exact e41x), e44x, (fun i hi => by rw [zset_get, if_neg (by rw [nI_clamp (by omega)]; omega)]; rw [zset_get, if_neg (by rw [nI_clamp (by omega)]; omega)]; rw [zset_get, if_neg (by rw [nI_clamp (by omega)]; omega)]; rw [zset_get, if_neg (by rw [nI_clamp (by omega)]; omega)])⟩
set_option maxRecDepth 100000 in
set_option maxHeartbeats 4000000 in
theorem c_feed {h : zH} {t ra rd : Nat} {ps ip : Int64} {im : Int32} {a b c d e : Int32} {tb : List Int32} (hX : zat h 0 = some (.inr (.inr (.inr (9, [.ref 2, .int (nI t), .ref 4, .ref ra, .ref rd, .long ps, .ref 34, .ref 36, .int im, .long ip, .ref 42, .ref 44, .ref 60, .ref 66, .ref 72, .ref 74, .ref 150, .ref 158]))))) (hT : zat h 2 = some (.inl (1, 700, tb))) (ht : t ≤ 680) : wq 100 0 [(0, .ref 0), (1, .int a), (2, .int b), (3, .int c), (4, .int d), (5, .int e)] [] h 0 0 (fun r => ∃ (h2 : zH) (tb2 : List Int32), r = (some (.int (nI (t + 20))), h2, 0, 0) ∧ wFr [0, 2] h h2 ∧ h2.length = h.length ∧ zat h2 0 = some (.inr (.inr (.inr (9, [.ref 2, .int (nI (t + 20)), .ref 4, .ref ra, .ref rd, .long ps, .ref 34, .ref 36, .int im, .long ip, .ref 42, .ref 44, .ref 60, .ref 66, .ref 72, .ref 74, .ref 150, .ref 158])))) ∧ zat h2 2 = some (.inl (1, 700, tb2)) ∧ ∀ i, i < t → tb2.getD i 0 = tb.getD i 0) := by
  have qnt := nI_toInt (n := t) (by omega)
  refine wq_gos (f := 1) (pc2 := 1) (ls2 := [(0, .ref 0), (1, .int a), (2, .int b), (3, .int c), (4, .int d), (5, .int e)]) (st2 := [.ref 0]) (h2 := h) (dc2 := 0) (ds2 := 0) 1 rfl ?_
  refine wq_getf rfl hX rfl rfl ?_
  refine wq_gos (f := 1) (pc2 := 10) (ls2 := [(0, .ref 0), (1, .int a), (2, .int b), (3, .int c), (4, .int d), (5, .int e)]) (st2 := [.int 700, .int ((nI t) + (20 : Int32))]) (h2 := h) (dc2 := 0) (ds2 := 0) 3 rfl ?_
  try have q1x := nI_toInt (n := t) (by omega)
  have q2x : (20 : Int32).toInt = 20 := rfl
  try have q3x : (((nI t) + (20 : Int32))).toInt = (nI t).toInt + (20 : Int32).toInt := e_add (by omega) (by omega)
  refine wq_le2t rfl (by omega) ?_
  refine wq_gos (f := 1) (pc2 := 17) (ls2 := [(0, .ref 0), (1, .int a), (2, .int b), (3, .int c), (4, .int d), (5, .int e)]) (st2 := [.int a, .ref 0]) (h2 := h) (dc2 := 0) (ds2 := 0) 2 rfl ?_
  refine wq_inlv (y2 := 101) (as := [.int a]) rfl rfl rfl hX rfl (wq_mono (c_put4 hX hT (by first | assumption | omega | decide | (refine ⟨?_, ?_⟩ <;> omega) | (refine ⟨?_, ?_, ?_⟩ <;> omega))) ?_)
  rintro _ ⟨h84x, tb24x, rfl, f84x, l84x, c04x, c14x, p04x⟩
  show wq 100 20 [(0, .ref 0), (1, .int a), (2, .int b), (3, .int c), (4, .int d), (5, .int e)] [] h84x 0 0 _
  refine wq_gos (f := 1) (pc2 := 22) (ls2 := [(0, .ref 0), (1, .int a), (2, .int b), (3, .int c), (4, .int d), (5, .int e)]) (st2 := [.int b, .ref 0]) (h2 := h84x) (dc2 := 0) (ds2 := 0) 2 rfl ?_
  refine wq_inlv (y2 := 101) (as := [.int b]) rfl rfl rfl c04x rfl (wq_mono (c_put4 c04x c14x (by first | assumption | omega | decide | (refine ⟨?_, ?_⟩ <;> omega) | (refine ⟨?_, ?_, ?_⟩ <;> omega))) ?_)
  rintro _ ⟨h85x, tb25x, rfl, f85x, l85x, c05x, c15x, p05x⟩
  show wq 100 25 [(0, .ref 0), (1, .int a), (2, .int b), (3, .int c), (4, .int d), (5, .int e)] [] h85x 0 0 _
  refine wq_gos (f := 1) (pc2 := 27) (ls2 := [(0, .ref 0), (1, .int a), (2, .int b), (3, .int c), (4, .int d), (5, .int e)]) (st2 := [.int c, .ref 0]) (h2 := h85x) (dc2 := 0) (ds2 := 0) 2 rfl ?_
  refine wq_inlv (y2 := 101) (as := [.int c]) rfl rfl rfl c05x rfl (wq_mono (c_put4 c05x c15x (by first | assumption | omega | decide | (refine ⟨?_, ?_⟩ <;> omega) | (refine ⟨?_, ?_, ?_⟩ <;> omega))) ?_)
  rintro _ ⟨h86x, tb26x, rfl, f86x, l86x, c06x, c16x, p06x⟩
  show wq 100 30 [(0, .ref 0), (1, .int a), (2, .int b), (3, .int c), (4, .int d), (5, .int e)] [] h86x 0 0 _
  refine wq_gos (f := 1) (pc2 := 33) (ls2 := [(0, .ref 0), (1, .int a), (2, .int b), (3, .int c), (4, .int d), (5, .int e)]) (st2 := [.int d, .ref 0]) (h2 := h86x) (dc2 := 0) (ds2 := 0) 2 rfl ?_
  refine wq_inlv (y2 := 101) (as := [.int d]) rfl rfl rfl c06x rfl (wq_mono (c_put4 c06x c16x (by first | assumption | omega | decide | (refine ⟨?_, ?_⟩ <;> omega) | (refine ⟨?_, ?_, ?_⟩ <;> omega))) ?_)
  rintro _ ⟨h87x, tb27x, rfl, f87x, l87x, c07x, c17x, p07x⟩
  show wq 100 36 [(0, .ref 0), (1, .int a), (2, .int b), (3, .int c), (4, .int d), (5, .int e)] [] h87x 0 0 _
  refine wq_gos (f := 1) (pc2 := 39) (ls2 := [(0, .ref 0), (1, .int a), (2, .int b), (3, .int c), (4, .int d), (5, .int e)]) (st2 := [.int e, .ref 0]) (h2 := h87x) (dc2 := 0) (ds2 := 0) 2 rfl ?_
  refine wq_inlv (y2 := 101) (as := [.int e]) rfl rfl rfl c07x rfl (wq_mono (c_put4 c07x c17x (by first | assumption | omega | decide | (refine ⟨?_, ?_⟩ <;> omega) | (refine ⟨?_, ?_, ?_⟩ <;> omega))) ?_)
  rintro _ ⟨h88x, tb28x, rfl, f88x, l88x, c08x, c18x, p08x⟩
  show wq 100 42 [(0, .ref 0), (1, .int a), (2, .int b), (3, .int c), (4, .int d), (5, .int e)] [] h88x 0 0 _
  refine wq_gos (f := 1) (pc2 := 43) (ls2 := [(0, .ref 0), (1, .int a), (2, .int b), (3, .int c), (4, .int d), (5, .int e)]) (st2 := [.ref 0]) (h2 := h88x) (dc2 := 0) (ds2 := 0) 1 rfl ?_
  refine wq_getf rfl c08x rfl rfl ?_
  have w9x : (nI (t + 20)) = (nI (((((t + 4) + 4) + 4) + 4) + 4)) := by first | rfl | assumption | omega
  rw [w9x]
  exact wq_ret rfl rfl ⟨h88x, tb28x, rfl, (wFr_tr (wFr_sub f84x (by simp)) (wFr_tr (wFr_sub f85x (by simp)) (wFr_tr (wFr_sub f86x (by simp)) (wFr_tr (wFr_sub f87x (by simp)) (wFr_sub f88x (by simp)))))), (by omega), (by rw [show (.inr (.inr (.inr (9, [.ref 2, .int (nI (t + 20)), .ref 4, .ref ra, .ref rd, .long ps, .ref 34, .ref 36, .int im, .long ip, .ref 42, .ref 44, .ref 60, .ref 66, .ref 72, .ref 74, .ref 150, .ref 158]))) : zE) = .inr (.inr (.inr (9, [.ref 2, .int (nI (((((t + 4) + 4) + 4) + 4) + 4)), .ref 4, .ref ra, .ref rd, .long ps, .ref 34, .ref 36, .int im, .long ip, .ref 42, .ref 44, .ref 60, .ref 66, .ref 72, .ref 74, .ref 150, .ref 158]))) from rfl]; exact c08x), c18x, (fun i hi => (p08x i (by omega)).trans ((p07x i (by omega)).trans ((p06x i (by omega)).trans ((p05x i (by omega)).trans (p04x i hi)))))⟩
set_option maxRecDepth 100000 in
set_option maxHeartbeats 4000000 in
theorem c_fault {h : zH} {t ra rd : Nat} {ps ip : Int64} {im : Int32} {wr wa : Int32} {r2 r3 r4 r5 r6 r7 r8 r9 : Value} {w : Int32} (hX : zat h 0 = some (.inr (.inr (.inr (9, [.ref 2, .int (nI t), .ref 4, .ref ra, .ref rd, .long ps, .ref 34, .ref 36, .int im, .long ip, .ref 42, .ref 44, .ref 60, .ref 66, .ref 72, .ref 74, .ref 150, .ref 158]))))) (hR : zat h 4 = some (.inr (.inr (.inr (4, [.int wr, .int wa, r2, r3, r4, r5, r6, r7, r8, r9])))))  : wq 103 0 [(0, .ref 0), (1, .int w)] [] h 0 0 (fun r => r = (some (.int (if w = 0 then wr else if w = 1 then wa else (-1))), h, 0, 0)) := by
  refine wq_gos (f := 1) (pc2 := 1) (ls2 := [(0, .ref 0), (1, .int w)]) (st2 := [.int w]) (h2 := h) (dc2 := 0) (ds2 := 0) 1 rfl ?_
  refine wq_ne0 rfl rfl (fun b1x => ?_) (fun b1x => ?_)
  · refine wq_gos (f := 1) (pc2 := 14) (ls2 := [(0, .ref 0), (1, .int w)]) (st2 := [.int 1, .int w]) (h2 := h) (dc2 := 0) (ds2 := 0) 2 rfl ?_
    refine wq_ne2 rfl rfl (fun b2x => ?_) (fun b2x => ?_)
    · refine wq_gos (f := 1) (pc2 := 28) (ls2 := [(0, .ref 0), (1, .int w)]) (st2 := [.int (-1)]) (h2 := h) (dc2 := 0) (ds2 := 0) 1 rfl ?_
      have w3x : (if w = 0 then wr else if w = 1 then wa else (-1)) = (-1 : Int32) := by rw [if_neg b1x, if_neg b2x]
      rw [w3x]
      exact wq_ret rfl rfl rfl
    · refine wq_gos (f := 1) (pc2 := 18) (ls2 := [(0, .ref 0), (1, .int w)]) (st2 := [.ref 0]) (h2 := h) (dc2 := 0) (ds2 := 0) 1 rfl ?_
      refine wq_getf rfl hX rfl rfl ?_
      refine wq_getf rfl hR rfl rfl ?_
      refine wq_gos (f := 1) (pc2 := 28) (ls2 := [(0, .ref 0), (1, .int w)]) (st2 := [.int wa]) (h2 := h) (dc2 := 0) (ds2 := 0) 1 rfl ?_
      have w4x : (if w = 0 then wr else if w = 1 then wa else (-1)) = wa := by rw [if_neg b1x, if_pos b2x]
      rw [w4x]
      exact wq_ret rfl rfl rfl
  · refine wq_gos (f := 1) (pc2 := 5) (ls2 := [(0, .ref 0), (1, .int w)]) (st2 := [.ref 0]) (h2 := h) (dc2 := 0) (ds2 := 0) 1 rfl ?_
    refine wq_getf rfl hX rfl rfl ?_
    refine wq_getf rfl hR rfl rfl ?_
    have w5x : (if w = 0 then wr else if w = 1 then wa else (-1)) = wr := by rw [if_pos b1x]
    rw [w5x]
    exact wq_ret rfl rfl rfl
set_option maxRecDepth 100000 in
set_option maxHeartbeats 4000000 in
theorem c_aimO {h : zH} {t ra rd : Nat} {ps ip : Int64} {im : Int32} {w : Int32} (hX : zat h 0 = some (.inr (.inr (.inr (9, [.ref 2, .int (nI t), .ref 4, .ref ra, .ref rd, .long ps, .ref 34, .ref 36, .int im, .long ip, .ref 42, .ref 44, .ref 60, .ref 66, .ref 72, .ref 74, .ref 150, .ref 158]))))) (hw : w.toInt < 0 ∨ 5 < w.toInt) : wq 110 0 [(0, .ref 0), (1, .int w)] [] h 0 0 (fun r => r = (some (.long 0), h, 0, 0)) := by
  refine wq_gos (f := 1) (pc2 := 1) (ls2 := [(0, .ref 0), (1, .int w)]) (st2 := [.int w]) (h2 := h) (dc2 := 0) (ds2 := 0) 1 rfl ?_
  refine wq_lt0 rfl rfl (fun b1x => ?_) (fun b1x => ?_)
  · refine wq_gos (f := 1) (pc2 := 20) (ls2 := [(0, .ref 0), (1, .int w)]) (st2 := [.long 0]) (h2 := h) (dc2 := 0) (ds2 := 0) 2 rfl ?_
    exact wq_ret rfl rfl rfl
  · refine wq_gos (f := 1) (pc2 := 6) (ls2 := [(0, .ref 0), (1, .int w)]) (st2 := [.int 5, .int w]) (h2 := h) (dc2 := 0) (ds2 := 0) 2 rfl ?_
    refine wq_le2f rfl rfl (by omega) ?_
    refine wq_gos (f := 1) (pc2 := 20) (ls2 := [(0, .ref 0), (1, .int w)]) (st2 := [.long 0]) (h2 := h) (dc2 := 0) (ds2 := 0) 2 rfl ?_
    exact wq_ret rfl rfl rfl
set_option maxRecDepth 100000 in
set_option maxHeartbeats 4000000 in
theorem c_aimI {h : zH} {t ra rd : Nat} {ps ip : Int64} {im : Int32} {w : Nat} {pl : List Int32} (hX : zat h 0 = some (.inr (.inr (.inr (9, [.ref 2, .int (nI t), .ref 4, .ref ra, .ref rd, .long ps, .ref 34, .ref 36, .int im, .long ip, .ref 42, .ref 44, .ref 60, .ref 66, .ref 72, .ref 74, .ref 150, .ref 158]))))) (hA : zat h 34 = some (.inl (0, 6, pl))) (hw : w ≤ 5) : wq 110 0 [(0, .ref 0), (1, .int (nI w))] [] h 0 0 (fun r => r = (some (.long (pl.getD w 0).toInt64), h, 0, 0)) := by
  have qnw := nI_toInt (n := w) (by omega)
  refine wq_gos (f := 1) (pc2 := 1) (ls2 := [(0, .ref 0), (1, .int (nI w))]) (st2 := [.int (nI w)]) (h2 := h) (dc2 := 0) (ds2 := 0) 1 rfl ?_
  try have q1x := nI_toInt (n := w) (by omega)
  refine wq_lt0f rfl rfl (by omega) ?_
  refine wq_gos (f := 1) (pc2 := 6) (ls2 := [(0, .ref 0), (1, .int (nI w))]) (st2 := [.int 5, .int (nI w)]) (h2 := h) (dc2 := 0) (ds2 := 0) 2 rfl ?_
  refine wq_le2t rfl (by omega) ?_
  refine wq_gos (f := 1) (pc2 := 14) (ls2 := [(0, .ref 0), (1, .int (nI w))]) (st2 := [.ref 0]) (h2 := h) (dc2 := 0) (ds2 := 0) 1 rfl ?_
  refine wq_getf rfl hX rfl rfl ?_
  refine wq_gos (f := 1) (pc2 := 18) (ls2 := [(0, .ref 0), (1, .int (nI w))]) (st2 := [.int (nI w), .ref 34]) (h2 := h) (dc2 := 0) (ds2 := 0) 1 rfl ?_
  refine wq_ialdn rfl hA (by omega) (by decide) rfl ?_
  refine wq_gos (f := 1) (pc2 := 20) (ls2 := [(0, .ref 0), (1, .int (nI w))]) (st2 := [.long ((pl.getD w 0)).toInt64]) (h2 := h) (dc2 := 0) (ds2 := 0) 1 rfl ?_
  have w2x : (pl.getD w 0).toInt64 = ((pl.getD w 0)).toInt64 := by first | rfl | assumption | omega
  rw [w2x]
  exact wq_ret rfl rfl rfl
set_option maxRecDepth 100000 in
set_option maxHeartbeats 4000000 in
theorem c_keep {h : zH} {t ra rd : Nat} {ps ip : Int64} {im : Int32} {pl ia : List Int32} (hX : zat h 0 = some (.inr (.inr (.inr (9, [.ref 2, .int (nI t), .ref 4, .ref ra, .ref rd, .long ps, .ref 34, .ref 36, .int im, .long ip, .ref 42, .ref 44, .ref 60, .ref 66, .ref 72, .ref 74, .ref 150, .ref 158]))))) (hA : zat h 34 = some (.inl (0, 6, pl))) (hI : zat h 42 = some (.inl (0, 6, ia)))  : wq 141 0 [(0, .ref 0)] [] h 0 0 (fun r => ∃ (h2 : zH), r = (some (.int 1), h2, 0, 0) ∧ wFr [0, 42] h h2 ∧ h2.length = h.length ∧ zat h2 0 = some (.inr (.inr (.inr (9, [.ref 2, .int (nI t), .ref 4, .ref ra, .ref rd, .long ps, .ref 34, .ref 36, .int 1, .long ps, .ref 42, .ref 44, .ref 60, .ref 66, .ref 72, .ref 74, .ref 150, .ref 158])))) ∧ zat h2 42 = some (.inl (0, 6, (zcpy 0 pl ia 0 0 6)))) := by
  refine wq_gos (f := 1) (pc2 := 2) (ls2 := [(0, .ref 0)]) (st2 := [.int 1, .ref 0]) (h2 := h) (dc2 := 0) (ds2 := 0) 2 rfl ?_
  refine wq_putf rfl hX rfl rfl rfl ?_
  intro h1x e2x f3x l4x
  have e2x : zat h1x 0 = some (.inr (.inr (.inr (9, [.ref 2, .int (nI t), .ref 4, .ref ra, .ref rd, .long ps, .ref 34, .ref 36, .int 1, .long ip, .ref 42, .ref 44, .ref 60, .ref 66, .ref 72, .ref 74, .ref 150, .ref 158])))) := e2x
  refine wq_gos (f := 1) (pc2 := 7) (ls2 := [(0, .ref 0)]) (st2 := [.ref 0, .ref 0]) (h2 := h1x) (dc2 := 0) (ds2 := 0) 2 rfl ?_
  refine wq_getf rfl e2x rfl rfl ?_
  refine wq_putf rfl e2x rfl rfl rfl ?_
  intro h5x e6x f7x l8x
  have e6x : zat h5x 0 = some (.inr (.inr (.inr (9, [.ref 2, .int (nI t), .ref 4, .ref ra, .ref rd, .long ps, .ref 34, .ref 36, .int 1, .long ps, .ref 42, .ref 44, .ref 60, .ref 66, .ref 72, .ref 74, .ref 150, .ref 158])))) := e6x
  refine wq_gos (f := 1) (pc2 := 14) (ls2 := [(0, .ref 0)]) (st2 := [.ref 0]) (h2 := h5x) (dc2 := 0) (ds2 := 0) 1 rfl ?_
  refine wq_getf rfl e6x rfl rfl ?_
  refine wq_gos (f := 1) (pc2 := 19) (ls2 := [(0, .ref 0)]) (st2 := [.ref 0, .int 0, .ref 34]) (h2 := h5x) (dc2 := 0) (ds2 := 0) 2 rfl ?_
  refine wq_getf rfl e6x rfl rfl ?_
  refine wq_gos (f := 1) (pc2 := 25) (ls2 := [(0, .ref 0)]) (st2 := [.int 6, .int 0, .ref 42, .int 0, .ref 34]) (h2 := h5x) (dc2 := 0) (ds2 := 0) 2 rfl ?_
  have e9x := (f7x.2 _ _ (wnc (by decide) wn0) (f3x.2 _ _ (wnc (by decide) wn0) hI))
  have e10x := (f7x.2 _ _ (wnc (by decide) wn0) (f3x.2 _ _ (wnc (by decide) wn0) hA))
  refine wq_cpi rfl e10x e9x (by decide) (by decide) (by decide) (by decide) (by decide) rfl ?_
  intro h11x e12x f13x l14x
  have e12x : zat h11x 42 = some (.inl (0, 6, (zcpy 0 pl ia 0 0 6))) := e12x
  refine wq_gos (f := 1) (pc2 := 29) (ls2 := [(0, .ref 0)]) (st2 := [.int 1]) (h2 := h11x) (dc2 := 0) (ds2 := 0) 1 rfl ?_
  have e15x := (f13x.2 _ _ (wnc (by decide) wn0) e6x)
  exact wq_ret rfl rfl ⟨h11x, rfl, (wFr_tr (wFr_sub f3x (by simp)) (wFr_tr (wFr_sub f7x (by simp)) (wFr_sub f13x (by simp)))), (by omega), e15x, e12x⟩
set_option maxRecDepth 100000 in
set_option maxHeartbeats 4000000 in
theorem c_backN {h : zH} {t ra rd : Nat} {ps ip : Int64} {im : Int32} (hX : zat h 0 = some (.inr (.inr (.inr (9, [.ref 2, .int (nI t), .ref 4, .ref ra, .ref rd, .long ps, .ref 34, .ref 36, .int im, .long ip, .ref 42, .ref 44, .ref 60, .ref 66, .ref 72, .ref 74, .ref 150, .ref 158]))))) (hi : im = 0) : wq 142 0 [(0, .ref 0)] [] h 0 0 (fun r => r = (some (.int 0), h, 0, 0)) := by
  refine wq_gos (f := 1) (pc2 := 1) (ls2 := [(0, .ref 0)]) (st2 := [.ref 0]) (h2 := h) (dc2 := 0) (ds2 := 0) 1 rfl ?_
  refine wq_getf rfl hX rfl rfl ?_
  refine wq_ne0f rfl rfl hi ?_
  refine wq_gos (f := 1) (pc2 := 8) (ls2 := [(0, .ref 0)]) (st2 := [.int 0]) (h2 := h) (dc2 := 0) (ds2 := 0) 1 rfl ?_
  exact wq_ret rfl rfl rfl
set_option maxRecDepth 100000 in
set_option maxHeartbeats 4000000 in
theorem c_back {h : zH} {t ra rd : Nat} {ps ip : Int64} {im : Int32} {us un : Nat} {pl ia : List Int32} (hX : zat h 0 = some (.inr (.inr (.inr (9, [.ref 2, .int (nI t), .ref 4, .ref ra, .ref rd, .long ps, .ref 34, .ref 36, .int im, .long ip, .ref 42, .ref 44, .ref 60, .ref 66, .ref 72, .ref 74, .ref 150, .ref 158]))))) (hP : zat h 36 = some (.inr (.inr (.inr (2, [.int (nI us), .int (nI un), .ref 38, .ref 40]))))) (hA : zat h 34 = some (.inl (0, 6, pl))) (hI : zat h 42 = some (.inl (0, 6, ia))) (hi : im ≠ 0) : wq 142 0 [(0, .ref 0)] [] h 0 0 (fun r => ∃ (h2 : zH), r = (some (.int 1), h2, 0, 0) ∧ wFr [0, 34, 36] h h2 ∧ h2.length = h.length ∧ zat h2 0 = some (.inr (.inr (.inr (9, [.ref 2, .int (nI t), .ref 4, .ref ra, .ref rd, .long ip, .ref 34, .ref 36, .int im, .long ip, .ref 42, .ref 44, .ref 60, .ref 66, .ref 72, .ref 74, .ref 150, .ref 158])))) ∧ zat h2 34 = some (.inl (0, 6, (zcpy 0 ia pl 0 0 6))) ∧ zat h2 36 = some (.inr (.inr (.inr (2, [.int 0, .int 0, .ref 38, .ref 40]))))) := by
  refine wq_gos (f := 1) (pc2 := 1) (ls2 := [(0, .ref 0)]) (st2 := [.ref 0]) (h2 := h) (dc2 := 0) (ds2 := 0) 1 rfl ?_
  refine wq_getf rfl hX rfl rfl ?_
  refine wq_ne0t rfl hi ?_
  refine wq_gos (f := 1) (pc2 := 11) (ls2 := [(0, .ref 0)]) (st2 := [.ref 0, .ref 0]) (h2 := h) (dc2 := 0) (ds2 := 0) 2 rfl ?_
  refine wq_getf rfl hX rfl rfl ?_
  refine wq_putf rfl hX rfl rfl rfl ?_
  intro h1x e2x f3x l4x
  have e2x : zat h1x 0 = some (.inr (.inr (.inr (9, [.ref 2, .int (nI t), .ref 4, .ref ra, .ref rd, .long ip, .ref 34, .ref 36, .int im, .long ip, .ref 42, .ref 44, .ref 60, .ref 66, .ref 72, .ref 74, .ref 150, .ref 158])))) := e2x
  refine wq_gos (f := 1) (pc2 := 18) (ls2 := [(0, .ref 0)]) (st2 := [.ref 0]) (h2 := h1x) (dc2 := 0) (ds2 := 0) 1 rfl ?_
  refine wq_getf rfl e2x rfl rfl ?_
  refine wq_gos (f := 1) (pc2 := 23) (ls2 := [(0, .ref 0)]) (st2 := [.ref 0, .int 0, .ref 42]) (h2 := h1x) (dc2 := 0) (ds2 := 0) 2 rfl ?_
  refine wq_getf rfl e2x rfl rfl ?_
  refine wq_gos (f := 1) (pc2 := 29) (ls2 := [(0, .ref 0)]) (st2 := [.int 6, .int 0, .ref 34, .int 0, .ref 42]) (h2 := h1x) (dc2 := 0) (ds2 := 0) 2 rfl ?_
  have e5x := (f3x.2 _ _ (wnc (by decide) wn0) hA)
  have e6x := (f3x.2 _ _ (wnc (by decide) wn0) hI)
  refine wq_cpi rfl e6x e5x (by decide) (by decide) (by decide) (by decide) (by decide) rfl ?_
  intro h7x e8x f9x l10x
  have e8x : zat h7x 34 = some (.inl (0, 6, (zcpy 0 ia pl 0 0 6))) := e8x
  refine wq_gos (f := 1) (pc2 := 33) (ls2 := [(0, .ref 0)]) (st2 := [.ref 0]) (h2 := h7x) (dc2 := 0) (ds2 := 0) 1 rfl ?_
  have e11x := (f9x.2 _ _ (wnc (by decide) wn0) e2x)
  refine wq_getf rfl e11x rfl rfl ?_
  have e12x := (f9x.2 _ _ (wnc (by decide) wn0) (f3x.2 _ _ (wnc (by decide) wn0) hP))
  refine wq_inlv (y2 := 22) (as := []) rfl rfl rfl e12x rfl ?_
  show wq 22 0 [(0, .ref 36)] [] h7x 0 0 _
  refine wq_gos (f := 1) (pc2 := 2) (ls2 := [(0, .ref 36)]) (st2 := [.int 0, .ref 36]) (h2 := h7x) (dc2 := 0) (ds2 := 0) 2 rfl ?_
  refine wq_putf rfl e12x rfl rfl rfl ?_
  intro h13x e14x f15x l16x
  have e14x : zat h13x 36 = some (.inr (.inr (.inr (2, [.int 0, .int (nI un), .ref 38, .ref 40])))) := e14x
  refine wq_gos (f := 1) (pc2 := 7) (ls2 := [(0, .ref 36)]) (st2 := [.int 0, .ref 36]) (h2 := h13x) (dc2 := 0) (ds2 := 0) 2 rfl ?_
  refine wq_putf rfl e14x rfl rfl rfl ?_
  intro h17x e18x f19x l20x
  have e18x : zat h17x 36 = some (.inr (.inr (.inr (2, [.int 0, .int 0, .ref 38, .ref 40])))) := e18x
  refine wq_ret rfl rfl ?_
  show wq 142 39 [(0, .ref 0)] [] h17x 0 0 _
  refine wq_gos (f := 1) (pc2 := 40) (ls2 := [(0, .ref 0)]) (st2 := [.int 1]) (h2 := h17x) (dc2 := 0) (ds2 := 0) 1 rfl ?_
  have e21x := (f19x.2 _ _ (wnc (by decide) wn0) (f15x.2 _ _ (wnc (by decide) wn0) e11x))
  have e22x := (f19x.2 _ _ (wnc (by decide) wn0) (f15x.2 _ _ (wnc (by decide) wn0) e8x))
  exact wq_ret rfl rfl ⟨h17x, rfl, (wFr_tr (wFr_sub f3x (by simp)) (wFr_tr (wFr_sub f9x (by simp)) (wFr_tr (wFr_sub f15x (by simp)) (wFr_sub f19x (by simp))))), (by omega), e21x, e22x, e18x⟩
