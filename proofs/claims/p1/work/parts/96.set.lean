/-! set and aimBy at the first state. -/
theorem wq_zast {y pc pf : Nat} {ls : zL} {rest : List Value} {h : zH} {dc ds : Nat} {Q : zR → Prop} {len : Nat} {K : zK} {tg : List Nat} {x i : Int32} {a n : Nat} {f : List Int32} (hP : zP y pc = some (.bastore, len, K, tg)) (hat : zat h a = some (.inl (2, n, f))) (hin : zin i n = true) (hpf : pc + 1 = pf) (k : ∀ h2 : zH, zat h2 a = some (.inl (2, n, zset 0 f i.toNatClampNeg (vp_nar .boolean x))) → wFr [a] h h2 → h2.length = h.length → wq y pf ls rest h2 dc ds Q) : wq y pc ls (.int x :: .int i :: .ref a :: rest) h dc ds Q := by
  subst hpf
  have kk := k _ (zatE hat) (wFr_set hat) List.length_set
  refine wq_step hP ?_ kk
  show zbast pc ls (.int x :: .int i :: .ref a :: rest) h = _
  unfold zbast
  (try dsimp only)
  rw [hat]
  show (bif zin i n then zs (pc + 1) ls rest (h.set (a / 2) (.inl (2, n, zset 0 f i.toNatClampNeg (vp_nar .boolean x)))) else none) = _
  rw [hin]
  rfl
set_option maxHeartbeats 4000000 in
theorem c_set0 {h : zH} {ra rl rg rv rn rp rw : Nat} {lk hd ht bl sd sp so : Int32} {rt : Int64} {ll lg : List Int32} {rd : Nat} {ta im : Int32} {ps ip : Int64} {pp : List Int64} {pa am : List Int32} (hX : zat h 0 = some (.inr (.inr (.inr (9, [.ref 2, .int ta, .ref 4, .ref ra, .ref rd, .long ps, .ref 34, .ref 36, .int im, .long ip, .ref 42, .ref 44, .ref 60, .ref 66, .ref 72, .ref 74, .ref 150, .ref 158]))))) (hA : zat h ra = some (.inr (.inr (.inr (0, [.int lk, .int hd, .int ht, .int bl, .int sd, .long rt, .ref rl, .ref rg, .ref rv, .int sp, .ref rn, .ref rp, .int so, .ref rw]))))) (hL : zat h rl = some (.inl (0, 6, ll))) (hG : zat h rg = some (.inl (0, 6, lg))) (hP : zat h 36 = some (.inr (.inr (.inr (2, [.int 0, .int 0, .ref 38, .ref 40]))))) (hPp : zat h 38 = some (.inr (.inl (20, pp)))) (hPa : zat h 40 = some (.inl (0, 120, pa))) (hAm : zat h 34 = some (.inl (0, 6, am))) (ha : ra < 34 ∧ rl < 34 ∧ rg < 34) (v : Int32) (hal : jallow ll lg 0 v = true) : wq 107 0 [(0, .ref 0), (1, .int 0), (2, .int v)] [] h 0 0 (fun r => ∃ h2, r = (some (.int 1), h2, 0, 0) ∧ wFr [0, 36, 38, 40] h h2) := by
  refine wq_gos (f := 1) (pc2 := 1) (ls2 := [(0, .ref 0), (1, .int 0), (2, .int v)]) (st2 := [.int 0]) (h2 := h) (dc2 := 0) (ds2 := 0) 1 rfl ?_
  refine wq_inl (y2 := 144) (as := [.int 0]) rfl rfl rfl ?_
  show wq 144 0 [(0, .int 0)] [] h 0 0 _
  refine wq_gos (f := 1) (pc2 := 15) (ls2 := [(0, .int 0)]) (st2 := [.int 0]) (h2 := h) (dc2 := 0) (ds2 := 0) 6 rfl ?_
  refine wq_ret rfl rfl ?_
  show wq 107 4 [(0, .ref 0), (1, .int 0), (2, .int v)] [.int 0] h 0 0 _
  refine wq_gos (f := 1) (pc2 := 8) (ls2 := [(0, .ref 0), (1, .int 0), (2, .int v)]) (st2 := [.ref 0]) (h2 := h) (dc2 := 0) (ds2 := 0) 2 rfl ?_
  refine wq_getf rfl hX rfl rfl ?_
  refine wq_gos (f := 1) (pc2 := 13) (ls2 := [(0, .ref 0), (1, .int 0), (2, .int v)]) (st2 := [.int v, .int 0, .ref ra]) (h2 := h) (dc2 := 0) (ds2 := 0) 2 rfl ?_
  cases q1x : jallow ll lg (0 : Int32) v with
  | false =>
    refine wq_inlv (y2 := 3) (as := [.int 0, .int v]) rfl rfl rfl hA rfl (wq_T (show zT zg0 zF zP 3 0 [(0, .ref ra), (1, .int 0), (2, .int v)] [] h 0 0 (some (.int 0), h, 0, 0) from by have q9 := c_allows hA hL hG (j := (0 : Int32)) rfl v; rw [q1x] at q9; exact q9) ?_)
    show wq 107 16 [(0, .ref 0), (1, .int 0), (2, .int v)] [.int 0] h 0 0 _
    refine wq_gos (f := 1) (pc2 := 20) (ls2 := [(0, .ref 0), (1, .int 0), (2, .int v)]) (st2 := [.int 0]) (h2 := h) (dc2 := 0) (ds2 := 0) 2 rfl ?_
    exfalso; rw [hal] at q1x; exact absurd q1x (by decide)
  | true =>
    refine wq_inlv (y2 := 3) (as := [.int 0, .int v]) rfl rfl rfl hA rfl (wq_T (show zT zg0 zF zP 3 0 [(0, .ref ra), (1, .int 0), (2, .int v)] [] h 0 0 (some (.int 1), h, 0, 0) from by have q9 := c_allows hA hL hG (j := (0 : Int32)) rfl v; rw [q1x] at q9; exact q9) ?_)
    show wq 107 16 [(0, .ref 0), (1, .int 0), (2, .int v)] [.int 1] h 0 0 _
    refine wq_gos (f := 1) (pc2 := 22) (ls2 := [(0, .ref 0), (1, .int 0), (2, .int v)]) (st2 := [.ref 0]) (h2 := h) (dc2 := 0) (ds2 := 0) 2 rfl ?_
    refine wq_getf rfl hX rfl rfl ?_
    refine wq_gos (f := 1) (pc2 := 26) (ls2 := [(0, .ref 0), (1, .int 0), (2, .int v)]) (st2 := [.ref 0, .ref 36]) (h2 := h) (dc2 := 0) (ds2 := 0) 1 rfl ?_
    refine wq_getf rfl hX rfl rfl ?_
    refine wq_gos (f := 1) (pc2 := 30) (ls2 := [(0, .ref 0), (1, .int 0), (2, .int v)]) (st2 := [.ref 0, .long ps, .ref 36]) (h2 := h) (dc2 := 0) (ds2 := 0) 1 rfl ?_
    refine wq_getf rfl hX rfl rfl ?_
    refine wq_inlv (y2 := 23) (as := [.long ps, .ref 34]) rfl rfl rfl hP rfl ?_
    show wq 23 0 [(0, .ref 36), (1, .long ps), (3, .ref 34)] [] h 0 0 _
    refine wq_gos (f := 1) (pc2 := 1) (ls2 := [(0, .ref 36), (1, .long ps), (3, .ref 34)]) (st2 := [.ref 36]) (h2 := h) (dc2 := 0) (ds2 := 0) 1 rfl ?_
    refine wq_getf rfl hP rfl rfl ?_
    refine wq_gos (f := 1) (pc2 := 5) (ls2 := [(0, .ref 36), (1, .long ps), (3, .ref 34)]) (st2 := [.ref 36, .ref 38]) (h2 := h) (dc2 := 0) (ds2 := 0) 1 rfl ?_
    refine wq_getf rfl hP rfl rfl ?_
    refine wq_gos (f := 1) (pc2 := 9) (ls2 := [(0, .ref 36), (1, .long ps), (3, .ref 34)]) (st2 := [.long ps, .int 0, .ref 38]) (h2 := h) (dc2 := 0) (ds2 := 0) 1 rfl ?_
    refine wq_last rfl hPp rfl rfl ?_
    intro h2x e3x f4x l5x
    have e3x : zat h2x 38 = some (.inr (.inl (20, (zset 0 pp 0 ps)))) := e3x
    refine wq_gos (f := 1) (pc2 := 13) (ls2 := [(0, .ref 36), (1, .long ps), (3, .ref 34)]) (st2 := [.ref 36, .int 0, .ref 34]) (h2 := h2x) (dc2 := 0) (ds2 := 0) 3 rfl ?_
    have e6x := (f4x.2 _ _ (wnc (by decide) wn0) hP)
    refine wq_getf rfl e6x rfl rfl ?_
    refine wq_gos (f := 1) (pc2 := 17) (ls2 := [(0, .ref 36), (1, .long ps), (3, .ref 34)]) (st2 := [.ref 36, .ref 40, .int 0, .ref 34]) (h2 := h2x) (dc2 := 0) (ds2 := 0) 1 rfl ?_
    refine wq_getf rfl e6x rfl rfl ?_
    refine wq_gos (f := 1) (pc2 := 25) (ls2 := [(0, .ref 36), (1, .long ps), (3, .ref 34)]) (st2 := [.int 6, .int 0, .ref 40, .int 0, .ref 34]) (h2 := h2x) (dc2 := 0) (ds2 := 0) 3 rfl ?_
    have e7x := (f4x.2 _ _ (wnc (by decide) wn0) hPa)
    have e8x := (f4x.2 _ _ (wnc (by decide) wn0) hAm)
    refine wq_cpi rfl e8x e7x (by decide) (by decide) (by decide) (by decide) (by decide) rfl ?_
    intro h9x e10x f11x l12x
    have e10x : zat h9x 40 = some (.inl (0, 120, (zcpy 0 am pa 0 0 6))) := e10x
    refine wq_gos (f := 1) (pc2 := 30) (ls2 := [(0, .ref 36), (1, .long ps), (3, .ref 34)]) (st2 := [.ref 36, .ref 36]) (h2 := h9x) (dc2 := 0) (ds2 := 0) 2 rfl ?_
    have e13x := (f11x.2 _ _ (wnc (by decide) wn0) e6x)
    refine wq_getf rfl e13x rfl rfl ?_
    refine wq_gos (f := 1) (pc2 := 45) (ls2 := [(0, .ref 36), (1, .long ps), (3, .ref 34)]) (st2 := [.ref 36, .ref 36]) (h2 := h9x) (dc2 := 0) (ds2 := 0) 5 rfl ?_
    refine wq_getf rfl e13x rfl rfl ?_
    refine wq_gos (f := 1) (pc2 := 50) (ls2 := [(0, .ref 36), (1, .long ps), (3, .ref 34)]) (st2 := [.int 1, .ref 36]) (h2 := h9x) (dc2 := 0) (ds2 := 0) 2 rfl ?_
    refine wq_putf rfl e13x rfl rfl rfl ?_
    intro h14x e15x f16x l17x
    have e15x : zat h14x 36 = some (.inr (.inr (.inr (2, [.int 0, .int 1, .ref 38, .ref 40])))) := e15x
    refine wq_gos (f := 1) (pc2 := 55) (ls2 := [(0, .ref 36), (1, .long ps), (3, .ref 34)]) (st2 := [.ref 36, .ref 36]) (h2 := h14x) (dc2 := 0) (ds2 := 0) 2 rfl ?_
    refine wq_getf rfl e15x rfl rfl ?_
    refine wq_gos (f := 1) (pc2 := 62) (ls2 := [(0, .ref 36), (1, .long ps), (3, .ref 34)]) (st2 := [.int 20, .int 1, .ref 36]) (h2 := h14x) (dc2 := 0) (ds2 := 0) 3 rfl ?_
    refine wq_inl (y2 := 285) (as := [.int 1, .int 20]) rfl rfl rfl (wq_T (c_min (1 : Int32) (20 : Int32) h14x) ?_)
    show wq 23 65 [(0, .ref 36), (1, .long ps), (3, .ref 34)] [.int (jmin (1 : Int32) (20 : Int32)), .ref 36] h14x 0 0 _
    refine wq_putf rfl e15x rfl rfl rfl ?_
    intro h18x e19x f20x l21x
    have e19x : zat h18x 36 = some (.inr (.inr (.inr (2, [.int (jmin (1 : Int32) (20 : Int32)), .int 1, .ref 38, .ref 40])))) := e19x
    refine wq_ret rfl rfl ?_
    show wq 107 36 [(0, .ref 0), (1, .int 0), (2, .int v)] [] h18x 0 0 _
    refine wq_gos (f := 1) (pc2 := 38) (ls2 := [(0, .ref 0), (1, .int 0), (2, .int v)]) (st2 := [.ref 0, .ref 0]) (h2 := h18x) (dc2 := 0) (ds2 := 0) 2 rfl ?_
    have e22x := (f20x.2 _ _ (wnc (by decide) wn0) (f16x.2 _ _ (wnc (by decide) wn0) (f11x.2 _ _ (wnc (by decide) wn0) (f4x.2 _ _ (wnc (by decide) wn0) hX))))
    refine wq_getf rfl e22x rfl rfl ?_
    refine wq_gos (f := 1) (pc2 := 43) (ls2 := [(0, .ref 0), (1, .int 0), (2, .int v)]) (st2 := [.int v, .int 0, .long ps, .ref 0]) (h2 := h18x) (dc2 := 0) (ds2 := 0) 2 rfl ?_
    refine wq_inl (y2 := 34) (as := [.long ps, .int 0, .int v]) rfl rfl rfl (wq_T (c_with0 ps v h18x) ?_)
    show wq 107 46 [(0, .ref 0), (1, .int 0), (2, .int v)] [.long (jput ps (-280375465082881) 40 v), .ref 0] h18x 0 0 _
    refine wq_putf rfl e22x rfl rfl rfl ?_
    intro h23x e24x f25x l26x
    have e24x : zat h23x 0 = some (.inr (.inr (.inr (9, [.ref 2, .int ta, .ref 4, .ref ra, .ref rd, .long (jput ps (-280375465082881) 40 v), .ref 34, .ref 36, .int im, .long ip, .ref 42, .ref 44, .ref 60, .ref 66, .ref 72, .ref 74, .ref 150, .ref 158])))) := e24x
    refine wq_gos (f := 1) (pc2 := 50) (ls2 := [(0, .ref 0), (1, .int 0), (2, .int v)]) (st2 := [.int 1]) (h2 := h23x) (dc2 := 0) (ds2 := 0) 1 rfl ?_
    exact wq_ret rfl rfl ⟨h23x, rfl, (wFr_tr (wFr_sub f4x (by simp)) (wFr_tr (wFr_sub f11x (by simp)) (wFr_tr (wFr_sub f16x (by simp)) (wFr_tr (wFr_sub f20x (by simp)) (wFr_sub f25x (by simp))))))⟩
set_option maxHeartbeats 4000000 in
theorem c_set1 {h : zH} {ra rl rg rv rn rp rw : Nat} {lk hd ht bl sd sp so : Int32} {rt : Int64} {ll lg : List Int32} {rd : Nat} {ta im : Int32} {ps ip : Int64} {pp : List Int64} {pa am : List Int32} (hX : zat h 0 = some (.inr (.inr (.inr (9, [.ref 2, .int ta, .ref 4, .ref ra, .ref rd, .long ps, .ref 34, .ref 36, .int im, .long ip, .ref 42, .ref 44, .ref 60, .ref 66, .ref 72, .ref 74, .ref 150, .ref 158]))))) (hA : zat h ra = some (.inr (.inr (.inr (0, [.int lk, .int hd, .int ht, .int bl, .int sd, .long rt, .ref rl, .ref rg, .ref rv, .int sp, .ref rn, .ref rp, .int so, .ref rw]))))) (hL : zat h rl = some (.inl (0, 6, ll))) (hG : zat h rg = some (.inl (0, 6, lg))) (hP : zat h 36 = some (.inr (.inr (.inr (2, [.int 0, .int 0, .ref 38, .ref 40]))))) (hPp : zat h 38 = some (.inr (.inl (20, pp)))) (hPa : zat h 40 = some (.inl (0, 120, pa))) (hAm : zat h 34 = some (.inl (0, 6, am))) (ha : ra < 34 ∧ rl < 34 ∧ rg < 34) (v : Int32) (hal : jallow ll lg 1 v = true) : wq 107 0 [(0, .ref 0), (1, .int 1), (2, .int v)] [] h 0 0 (fun r => ∃ h2, r = (some (.int 1), h2, 0, 0) ∧ wFr [0, 36, 38, 40] h h2) := by
  refine wq_gos (f := 1) (pc2 := 1) (ls2 := [(0, .ref 0), (1, .int 1), (2, .int v)]) (st2 := [.int 1]) (h2 := h) (dc2 := 0) (ds2 := 0) 1 rfl ?_
  refine wq_inl (y2 := 144) (as := [.int 1]) rfl rfl rfl ?_
  show wq 144 0 [(0, .int 1)] [] h 0 0 _
  refine wq_gos (f := 1) (pc2 := 15) (ls2 := [(0, .int 1)]) (st2 := [.int 0]) (h2 := h) (dc2 := 0) (ds2 := 0) 6 rfl ?_
  refine wq_ret rfl rfl ?_
  show wq 107 4 [(0, .ref 0), (1, .int 1), (2, .int v)] [.int 0] h 0 0 _
  refine wq_gos (f := 1) (pc2 := 8) (ls2 := [(0, .ref 0), (1, .int 1), (2, .int v)]) (st2 := [.ref 0]) (h2 := h) (dc2 := 0) (ds2 := 0) 2 rfl ?_
  refine wq_getf rfl hX rfl rfl ?_
  refine wq_gos (f := 1) (pc2 := 13) (ls2 := [(0, .ref 0), (1, .int 1), (2, .int v)]) (st2 := [.int v, .int 1, .ref ra]) (h2 := h) (dc2 := 0) (ds2 := 0) 2 rfl ?_
  cases q1x : jallow ll lg (1 : Int32) v with
  | false =>
    refine wq_inlv (y2 := 3) (as := [.int 1, .int v]) rfl rfl rfl hA rfl (wq_T (show zT zg0 zF zP 3 0 [(0, .ref ra), (1, .int 1), (2, .int v)] [] h 0 0 (some (.int 0), h, 0, 0) from by have q9 := c_allows hA hL hG (j := (1 : Int32)) rfl v; rw [q1x] at q9; exact q9) ?_)
    show wq 107 16 [(0, .ref 0), (1, .int 1), (2, .int v)] [.int 0] h 0 0 _
    refine wq_gos (f := 1) (pc2 := 20) (ls2 := [(0, .ref 0), (1, .int 1), (2, .int v)]) (st2 := [.int 0]) (h2 := h) (dc2 := 0) (ds2 := 0) 2 rfl ?_
    exfalso; rw [hal] at q1x; exact absurd q1x (by decide)
  | true =>
    refine wq_inlv (y2 := 3) (as := [.int 1, .int v]) rfl rfl rfl hA rfl (wq_T (show zT zg0 zF zP 3 0 [(0, .ref ra), (1, .int 1), (2, .int v)] [] h 0 0 (some (.int 1), h, 0, 0) from by have q9 := c_allows hA hL hG (j := (1 : Int32)) rfl v; rw [q1x] at q9; exact q9) ?_)
    show wq 107 16 [(0, .ref 0), (1, .int 1), (2, .int v)] [.int 1] h 0 0 _
    refine wq_gos (f := 1) (pc2 := 22) (ls2 := [(0, .ref 0), (1, .int 1), (2, .int v)]) (st2 := [.ref 0]) (h2 := h) (dc2 := 0) (ds2 := 0) 2 rfl ?_
    refine wq_getf rfl hX rfl rfl ?_
    refine wq_gos (f := 1) (pc2 := 26) (ls2 := [(0, .ref 0), (1, .int 1), (2, .int v)]) (st2 := [.ref 0, .ref 36]) (h2 := h) (dc2 := 0) (ds2 := 0) 1 rfl ?_
    refine wq_getf rfl hX rfl rfl ?_
    refine wq_gos (f := 1) (pc2 := 30) (ls2 := [(0, .ref 0), (1, .int 1), (2, .int v)]) (st2 := [.ref 0, .long ps, .ref 36]) (h2 := h) (dc2 := 0) (ds2 := 0) 1 rfl ?_
    refine wq_getf rfl hX rfl rfl ?_
    refine wq_inlv (y2 := 23) (as := [.long ps, .ref 34]) rfl rfl rfl hP rfl ?_
    show wq 23 0 [(0, .ref 36), (1, .long ps), (3, .ref 34)] [] h 0 0 _
    refine wq_gos (f := 1) (pc2 := 1) (ls2 := [(0, .ref 36), (1, .long ps), (3, .ref 34)]) (st2 := [.ref 36]) (h2 := h) (dc2 := 0) (ds2 := 0) 1 rfl ?_
    refine wq_getf rfl hP rfl rfl ?_
    refine wq_gos (f := 1) (pc2 := 5) (ls2 := [(0, .ref 36), (1, .long ps), (3, .ref 34)]) (st2 := [.ref 36, .ref 38]) (h2 := h) (dc2 := 0) (ds2 := 0) 1 rfl ?_
    refine wq_getf rfl hP rfl rfl ?_
    refine wq_gos (f := 1) (pc2 := 9) (ls2 := [(0, .ref 36), (1, .long ps), (3, .ref 34)]) (st2 := [.long ps, .int 0, .ref 38]) (h2 := h) (dc2 := 0) (ds2 := 0) 1 rfl ?_
    refine wq_last rfl hPp rfl rfl ?_
    intro h2x e3x f4x l5x
    have e3x : zat h2x 38 = some (.inr (.inl (20, (zset 0 pp 0 ps)))) := e3x
    refine wq_gos (f := 1) (pc2 := 13) (ls2 := [(0, .ref 36), (1, .long ps), (3, .ref 34)]) (st2 := [.ref 36, .int 0, .ref 34]) (h2 := h2x) (dc2 := 0) (ds2 := 0) 3 rfl ?_
    have e6x := (f4x.2 _ _ (wnc (by decide) wn0) hP)
    refine wq_getf rfl e6x rfl rfl ?_
    refine wq_gos (f := 1) (pc2 := 17) (ls2 := [(0, .ref 36), (1, .long ps), (3, .ref 34)]) (st2 := [.ref 36, .ref 40, .int 0, .ref 34]) (h2 := h2x) (dc2 := 0) (ds2 := 0) 1 rfl ?_
    refine wq_getf rfl e6x rfl rfl ?_
    refine wq_gos (f := 1) (pc2 := 25) (ls2 := [(0, .ref 36), (1, .long ps), (3, .ref 34)]) (st2 := [.int 6, .int 0, .ref 40, .int 0, .ref 34]) (h2 := h2x) (dc2 := 0) (ds2 := 0) 3 rfl ?_
    have e7x := (f4x.2 _ _ (wnc (by decide) wn0) hPa)
    have e8x := (f4x.2 _ _ (wnc (by decide) wn0) hAm)
    refine wq_cpi rfl e8x e7x (by decide) (by decide) (by decide) (by decide) (by decide) rfl ?_
    intro h9x e10x f11x l12x
    have e10x : zat h9x 40 = some (.inl (0, 120, (zcpy 0 am pa 0 0 6))) := e10x
    refine wq_gos (f := 1) (pc2 := 30) (ls2 := [(0, .ref 36), (1, .long ps), (3, .ref 34)]) (st2 := [.ref 36, .ref 36]) (h2 := h9x) (dc2 := 0) (ds2 := 0) 2 rfl ?_
    have e13x := (f11x.2 _ _ (wnc (by decide) wn0) e6x)
    refine wq_getf rfl e13x rfl rfl ?_
    refine wq_gos (f := 1) (pc2 := 45) (ls2 := [(0, .ref 36), (1, .long ps), (3, .ref 34)]) (st2 := [.ref 36, .ref 36]) (h2 := h9x) (dc2 := 0) (ds2 := 0) 5 rfl ?_
    refine wq_getf rfl e13x rfl rfl ?_
    refine wq_gos (f := 1) (pc2 := 50) (ls2 := [(0, .ref 36), (1, .long ps), (3, .ref 34)]) (st2 := [.int 1, .ref 36]) (h2 := h9x) (dc2 := 0) (ds2 := 0) 2 rfl ?_
    refine wq_putf rfl e13x rfl rfl rfl ?_
    intro h14x e15x f16x l17x
    have e15x : zat h14x 36 = some (.inr (.inr (.inr (2, [.int 0, .int 1, .ref 38, .ref 40])))) := e15x
    refine wq_gos (f := 1) (pc2 := 55) (ls2 := [(0, .ref 36), (1, .long ps), (3, .ref 34)]) (st2 := [.ref 36, .ref 36]) (h2 := h14x) (dc2 := 0) (ds2 := 0) 2 rfl ?_
    refine wq_getf rfl e15x rfl rfl ?_
    refine wq_gos (f := 1) (pc2 := 62) (ls2 := [(0, .ref 36), (1, .long ps), (3, .ref 34)]) (st2 := [.int 20, .int 1, .ref 36]) (h2 := h14x) (dc2 := 0) (ds2 := 0) 3 rfl ?_
    refine wq_inl (y2 := 285) (as := [.int 1, .int 20]) rfl rfl rfl (wq_T (c_min (1 : Int32) (20 : Int32) h14x) ?_)
    show wq 23 65 [(0, .ref 36), (1, .long ps), (3, .ref 34)] [.int (jmin (1 : Int32) (20 : Int32)), .ref 36] h14x 0 0 _
    refine wq_putf rfl e15x rfl rfl rfl ?_
    intro h18x e19x f20x l21x
    have e19x : zat h18x 36 = some (.inr (.inr (.inr (2, [.int (jmin (1 : Int32) (20 : Int32)), .int 1, .ref 38, .ref 40])))) := e19x
    refine wq_ret rfl rfl ?_
    show wq 107 36 [(0, .ref 0), (1, .int 1), (2, .int v)] [] h18x 0 0 _
    refine wq_gos (f := 1) (pc2 := 38) (ls2 := [(0, .ref 0), (1, .int 1), (2, .int v)]) (st2 := [.ref 0, .ref 0]) (h2 := h18x) (dc2 := 0) (ds2 := 0) 2 rfl ?_
    have e22x := (f20x.2 _ _ (wnc (by decide) wn0) (f16x.2 _ _ (wnc (by decide) wn0) (f11x.2 _ _ (wnc (by decide) wn0) (f4x.2 _ _ (wnc (by decide) wn0) hX))))
    refine wq_getf rfl e22x rfl rfl ?_
    refine wq_gos (f := 1) (pc2 := 43) (ls2 := [(0, .ref 0), (1, .int 1), (2, .int v)]) (st2 := [.int v, .int 1, .long ps, .ref 0]) (h2 := h18x) (dc2 := 0) (ds2 := 0) 2 rfl ?_
    refine wq_inl (y2 := 34) (as := [.long ps, .int 1, .int v]) rfl rfl rfl (wq_T (c_with1 ps v h18x) ?_)
    show wq 107 46 [(0, .ref 0), (1, .int 1), (2, .int v)] [.long (jput ps (-1095216660481) 32 v), .ref 0] h18x 0 0 _
    refine wq_putf rfl e22x rfl rfl rfl ?_
    intro h23x e24x f25x l26x
    have e24x : zat h23x 0 = some (.inr (.inr (.inr (9, [.ref 2, .int ta, .ref 4, .ref ra, .ref rd, .long (jput ps (-1095216660481) 32 v), .ref 34, .ref 36, .int im, .long ip, .ref 42, .ref 44, .ref 60, .ref 66, .ref 72, .ref 74, .ref 150, .ref 158])))) := e24x
    refine wq_gos (f := 1) (pc2 := 50) (ls2 := [(0, .ref 0), (1, .int 1), (2, .int v)]) (st2 := [.int 1]) (h2 := h23x) (dc2 := 0) (ds2 := 0) 1 rfl ?_
    exact wq_ret rfl rfl ⟨h23x, rfl, (wFr_tr (wFr_sub f4x (by simp)) (wFr_tr (wFr_sub f11x (by simp)) (wFr_tr (wFr_sub f16x (by simp)) (wFr_tr (wFr_sub f20x (by simp)) (wFr_sub f25x (by simp))))))⟩
set_option maxHeartbeats 4000000 in
theorem c_set2 {h : zH} {ra rl rg rv rn rp rw : Nat} {lk hd ht bl sd sp so : Int32} {rt : Int64} {ll lg : List Int32} {rd : Nat} {ta im : Int32} {ps ip : Int64} {pp : List Int64} {pa am : List Int32} (hX : zat h 0 = some (.inr (.inr (.inr (9, [.ref 2, .int ta, .ref 4, .ref ra, .ref rd, .long ps, .ref 34, .ref 36, .int im, .long ip, .ref 42, .ref 44, .ref 60, .ref 66, .ref 72, .ref 74, .ref 150, .ref 158]))))) (hA : zat h ra = some (.inr (.inr (.inr (0, [.int lk, .int hd, .int ht, .int bl, .int sd, .long rt, .ref rl, .ref rg, .ref rv, .int sp, .ref rn, .ref rp, .int so, .ref rw]))))) (hL : zat h rl = some (.inl (0, 6, ll))) (hG : zat h rg = some (.inl (0, 6, lg))) (hP : zat h 36 = some (.inr (.inr (.inr (2, [.int 0, .int 0, .ref 38, .ref 40]))))) (hPp : zat h 38 = some (.inr (.inl (20, pp)))) (hPa : zat h 40 = some (.inl (0, 120, pa))) (hAm : zat h 34 = some (.inl (0, 6, am))) (ha : ra < 34 ∧ rl < 34 ∧ rg < 34) (v : Int32) (hal : jallow ll lg 2 v = true) : wq 107 0 [(0, .ref 0), (1, .int 2), (2, .int v)] [] h 0 0 (fun r => ∃ h2, r = (some (.int 1), h2, 0, 0) ∧ wFr [0, 36, 38, 40] h h2) := by
  refine wq_gos (f := 1) (pc2 := 1) (ls2 := [(0, .ref 0), (1, .int 2), (2, .int v)]) (st2 := [.int 2]) (h2 := h) (dc2 := 0) (ds2 := 0) 1 rfl ?_
  refine wq_inl (y2 := 144) (as := [.int 2]) rfl rfl rfl ?_
  show wq 144 0 [(0, .int 2)] [] h 0 0 _
  refine wq_gos (f := 1) (pc2 := 15) (ls2 := [(0, .int 2)]) (st2 := [.int 0]) (h2 := h) (dc2 := 0) (ds2 := 0) 6 rfl ?_
  refine wq_ret rfl rfl ?_
  show wq 107 4 [(0, .ref 0), (1, .int 2), (2, .int v)] [.int 0] h 0 0 _
  refine wq_gos (f := 1) (pc2 := 8) (ls2 := [(0, .ref 0), (1, .int 2), (2, .int v)]) (st2 := [.ref 0]) (h2 := h) (dc2 := 0) (ds2 := 0) 2 rfl ?_
  refine wq_getf rfl hX rfl rfl ?_
  refine wq_gos (f := 1) (pc2 := 13) (ls2 := [(0, .ref 0), (1, .int 2), (2, .int v)]) (st2 := [.int v, .int 2, .ref ra]) (h2 := h) (dc2 := 0) (ds2 := 0) 2 rfl ?_
  cases q1x : jallow ll lg (2 : Int32) v with
  | false =>
    refine wq_inlv (y2 := 3) (as := [.int 2, .int v]) rfl rfl rfl hA rfl (wq_T (show zT zg0 zF zP 3 0 [(0, .ref ra), (1, .int 2), (2, .int v)] [] h 0 0 (some (.int 0), h, 0, 0) from by have q9 := c_allows hA hL hG (j := (2 : Int32)) rfl v; rw [q1x] at q9; exact q9) ?_)
    show wq 107 16 [(0, .ref 0), (1, .int 2), (2, .int v)] [.int 0] h 0 0 _
    refine wq_gos (f := 1) (pc2 := 20) (ls2 := [(0, .ref 0), (1, .int 2), (2, .int v)]) (st2 := [.int 0]) (h2 := h) (dc2 := 0) (ds2 := 0) 2 rfl ?_
    exfalso; rw [hal] at q1x; exact absurd q1x (by decide)
  | true =>
    refine wq_inlv (y2 := 3) (as := [.int 2, .int v]) rfl rfl rfl hA rfl (wq_T (show zT zg0 zF zP 3 0 [(0, .ref ra), (1, .int 2), (2, .int v)] [] h 0 0 (some (.int 1), h, 0, 0) from by have q9 := c_allows hA hL hG (j := (2 : Int32)) rfl v; rw [q1x] at q9; exact q9) ?_)
    show wq 107 16 [(0, .ref 0), (1, .int 2), (2, .int v)] [.int 1] h 0 0 _
    refine wq_gos (f := 1) (pc2 := 22) (ls2 := [(0, .ref 0), (1, .int 2), (2, .int v)]) (st2 := [.ref 0]) (h2 := h) (dc2 := 0) (ds2 := 0) 2 rfl ?_
    refine wq_getf rfl hX rfl rfl ?_
    refine wq_gos (f := 1) (pc2 := 26) (ls2 := [(0, .ref 0), (1, .int 2), (2, .int v)]) (st2 := [.ref 0, .ref 36]) (h2 := h) (dc2 := 0) (ds2 := 0) 1 rfl ?_
    refine wq_getf rfl hX rfl rfl ?_
    refine wq_gos (f := 1) (pc2 := 30) (ls2 := [(0, .ref 0), (1, .int 2), (2, .int v)]) (st2 := [.ref 0, .long ps, .ref 36]) (h2 := h) (dc2 := 0) (ds2 := 0) 1 rfl ?_
    refine wq_getf rfl hX rfl rfl ?_
    refine wq_inlv (y2 := 23) (as := [.long ps, .ref 34]) rfl rfl rfl hP rfl ?_
    show wq 23 0 [(0, .ref 36), (1, .long ps), (3, .ref 34)] [] h 0 0 _
    refine wq_gos (f := 1) (pc2 := 1) (ls2 := [(0, .ref 36), (1, .long ps), (3, .ref 34)]) (st2 := [.ref 36]) (h2 := h) (dc2 := 0) (ds2 := 0) 1 rfl ?_
    refine wq_getf rfl hP rfl rfl ?_
    refine wq_gos (f := 1) (pc2 := 5) (ls2 := [(0, .ref 36), (1, .long ps), (3, .ref 34)]) (st2 := [.ref 36, .ref 38]) (h2 := h) (dc2 := 0) (ds2 := 0) 1 rfl ?_
    refine wq_getf rfl hP rfl rfl ?_
    refine wq_gos (f := 1) (pc2 := 9) (ls2 := [(0, .ref 36), (1, .long ps), (3, .ref 34)]) (st2 := [.long ps, .int 0, .ref 38]) (h2 := h) (dc2 := 0) (ds2 := 0) 1 rfl ?_
    refine wq_last rfl hPp rfl rfl ?_
    intro h2x e3x f4x l5x
    have e3x : zat h2x 38 = some (.inr (.inl (20, (zset 0 pp 0 ps)))) := e3x
    refine wq_gos (f := 1) (pc2 := 13) (ls2 := [(0, .ref 36), (1, .long ps), (3, .ref 34)]) (st2 := [.ref 36, .int 0, .ref 34]) (h2 := h2x) (dc2 := 0) (ds2 := 0) 3 rfl ?_
    have e6x := (f4x.2 _ _ (wnc (by decide) wn0) hP)
    refine wq_getf rfl e6x rfl rfl ?_
    refine wq_gos (f := 1) (pc2 := 17) (ls2 := [(0, .ref 36), (1, .long ps), (3, .ref 34)]) (st2 := [.ref 36, .ref 40, .int 0, .ref 34]) (h2 := h2x) (dc2 := 0) (ds2 := 0) 1 rfl ?_
    refine wq_getf rfl e6x rfl rfl ?_
    refine wq_gos (f := 1) (pc2 := 25) (ls2 := [(0, .ref 36), (1, .long ps), (3, .ref 34)]) (st2 := [.int 6, .int 0, .ref 40, .int 0, .ref 34]) (h2 := h2x) (dc2 := 0) (ds2 := 0) 3 rfl ?_
    have e7x := (f4x.2 _ _ (wnc (by decide) wn0) hPa)
    have e8x := (f4x.2 _ _ (wnc (by decide) wn0) hAm)
    refine wq_cpi rfl e8x e7x (by decide) (by decide) (by decide) (by decide) (by decide) rfl ?_
    intro h9x e10x f11x l12x
    have e10x : zat h9x 40 = some (.inl (0, 120, (zcpy 0 am pa 0 0 6))) := e10x
    refine wq_gos (f := 1) (pc2 := 30) (ls2 := [(0, .ref 36), (1, .long ps), (3, .ref 34)]) (st2 := [.ref 36, .ref 36]) (h2 := h9x) (dc2 := 0) (ds2 := 0) 2 rfl ?_
    have e13x := (f11x.2 _ _ (wnc (by decide) wn0) e6x)
    refine wq_getf rfl e13x rfl rfl ?_
    refine wq_gos (f := 1) (pc2 := 45) (ls2 := [(0, .ref 36), (1, .long ps), (3, .ref 34)]) (st2 := [.ref 36, .ref 36]) (h2 := h9x) (dc2 := 0) (ds2 := 0) 5 rfl ?_
    refine wq_getf rfl e13x rfl rfl ?_
    refine wq_gos (f := 1) (pc2 := 50) (ls2 := [(0, .ref 36), (1, .long ps), (3, .ref 34)]) (st2 := [.int 1, .ref 36]) (h2 := h9x) (dc2 := 0) (ds2 := 0) 2 rfl ?_
    refine wq_putf rfl e13x rfl rfl rfl ?_
    intro h14x e15x f16x l17x
    have e15x : zat h14x 36 = some (.inr (.inr (.inr (2, [.int 0, .int 1, .ref 38, .ref 40])))) := e15x
    refine wq_gos (f := 1) (pc2 := 55) (ls2 := [(0, .ref 36), (1, .long ps), (3, .ref 34)]) (st2 := [.ref 36, .ref 36]) (h2 := h14x) (dc2 := 0) (ds2 := 0) 2 rfl ?_
    refine wq_getf rfl e15x rfl rfl ?_
    refine wq_gos (f := 1) (pc2 := 62) (ls2 := [(0, .ref 36), (1, .long ps), (3, .ref 34)]) (st2 := [.int 20, .int 1, .ref 36]) (h2 := h14x) (dc2 := 0) (ds2 := 0) 3 rfl ?_
    refine wq_inl (y2 := 285) (as := [.int 1, .int 20]) rfl rfl rfl (wq_T (c_min (1 : Int32) (20 : Int32) h14x) ?_)
    show wq 23 65 [(0, .ref 36), (1, .long ps), (3, .ref 34)] [.int (jmin (1 : Int32) (20 : Int32)), .ref 36] h14x 0 0 _
    refine wq_putf rfl e15x rfl rfl rfl ?_
    intro h18x e19x f20x l21x
    have e19x : zat h18x 36 = some (.inr (.inr (.inr (2, [.int (jmin (1 : Int32) (20 : Int32)), .int 1, .ref 38, .ref 40])))) := e19x
    refine wq_ret rfl rfl ?_
    show wq 107 36 [(0, .ref 0), (1, .int 2), (2, .int v)] [] h18x 0 0 _
    refine wq_gos (f := 1) (pc2 := 38) (ls2 := [(0, .ref 0), (1, .int 2), (2, .int v)]) (st2 := [.ref 0, .ref 0]) (h2 := h18x) (dc2 := 0) (ds2 := 0) 2 rfl ?_
    have e22x := (f20x.2 _ _ (wnc (by decide) wn0) (f16x.2 _ _ (wnc (by decide) wn0) (f11x.2 _ _ (wnc (by decide) wn0) (f4x.2 _ _ (wnc (by decide) wn0) hX))))
    refine wq_getf rfl e22x rfl rfl ?_
    refine wq_gos (f := 1) (pc2 := 43) (ls2 := [(0, .ref 0), (1, .int 2), (2, .int v)]) (st2 := [.int v, .int 2, .long ps, .ref 0]) (h2 := h18x) (dc2 := 0) (ds2 := 0) 2 rfl ?_
    refine wq_inl (y2 := 34) (as := [.long ps, .int 2, .int v]) rfl rfl rfl (wq_T (c_with2 ps v h18x) ?_)
    show wq 107 46 [(0, .ref 0), (1, .int 2), (2, .int v)] [.long (jput ps (-4278190081) 24 v), .ref 0] h18x 0 0 _
    refine wq_putf rfl e22x rfl rfl rfl ?_
    intro h23x e24x f25x l26x
    have e24x : zat h23x 0 = some (.inr (.inr (.inr (9, [.ref 2, .int ta, .ref 4, .ref ra, .ref rd, .long (jput ps (-4278190081) 24 v), .ref 34, .ref 36, .int im, .long ip, .ref 42, .ref 44, .ref 60, .ref 66, .ref 72, .ref 74, .ref 150, .ref 158])))) := e24x
    refine wq_gos (f := 1) (pc2 := 50) (ls2 := [(0, .ref 0), (1, .int 2), (2, .int v)]) (st2 := [.int 1]) (h2 := h23x) (dc2 := 0) (ds2 := 0) 1 rfl ?_
    exact wq_ret rfl rfl ⟨h23x, rfl, (wFr_tr (wFr_sub f4x (by simp)) (wFr_tr (wFr_sub f11x (by simp)) (wFr_tr (wFr_sub f16x (by simp)) (wFr_tr (wFr_sub f20x (by simp)) (wFr_sub f25x (by simp))))))⟩
set_option maxHeartbeats 4000000 in
theorem c_set3 {h : zH} {ra rl rg rv rn rp rw : Nat} {lk hd ht bl sd sp so : Int32} {rt : Int64} {ll lg : List Int32} {rd : Nat} {ta im : Int32} {ps ip : Int64} {pp : List Int64} {pa am : List Int32} (hX : zat h 0 = some (.inr (.inr (.inr (9, [.ref 2, .int ta, .ref 4, .ref ra, .ref rd, .long ps, .ref 34, .ref 36, .int im, .long ip, .ref 42, .ref 44, .ref 60, .ref 66, .ref 72, .ref 74, .ref 150, .ref 158]))))) (hA : zat h ra = some (.inr (.inr (.inr (0, [.int lk, .int hd, .int ht, .int bl, .int sd, .long rt, .ref rl, .ref rg, .ref rv, .int sp, .ref rn, .ref rp, .int so, .ref rw]))))) (hL : zat h rl = some (.inl (0, 6, ll))) (hG : zat h rg = some (.inl (0, 6, lg))) (hP : zat h 36 = some (.inr (.inr (.inr (2, [.int 0, .int 0, .ref 38, .ref 40]))))) (hPp : zat h 38 = some (.inr (.inl (20, pp)))) (hPa : zat h 40 = some (.inl (0, 120, pa))) (hAm : zat h 34 = some (.inl (0, 6, am))) (ha : ra < 34 ∧ rl < 34 ∧ rg < 34) (v : Int32) (hal : jallow ll lg 3 v = true) : wq 107 0 [(0, .ref 0), (1, .int 3), (2, .int v)] [] h 0 0 (fun r => ∃ h2, r = (some (.int 1), h2, 0, 0) ∧ wFr [0, 36, 38, 40] h h2) := by
  refine wq_gos (f := 1) (pc2 := 1) (ls2 := [(0, .ref 0), (1, .int 3), (2, .int v)]) (st2 := [.int 3]) (h2 := h) (dc2 := 0) (ds2 := 0) 1 rfl ?_
  refine wq_inl (y2 := 144) (as := [.int 3]) rfl rfl rfl ?_
  show wq 144 0 [(0, .int 3)] [] h 0 0 _
  refine wq_gos (f := 1) (pc2 := 15) (ls2 := [(0, .int 3)]) (st2 := [.int 0]) (h2 := h) (dc2 := 0) (ds2 := 0) 6 rfl ?_
  refine wq_ret rfl rfl ?_
  show wq 107 4 [(0, .ref 0), (1, .int 3), (2, .int v)] [.int 0] h 0 0 _
  refine wq_gos (f := 1) (pc2 := 8) (ls2 := [(0, .ref 0), (1, .int 3), (2, .int v)]) (st2 := [.ref 0]) (h2 := h) (dc2 := 0) (ds2 := 0) 2 rfl ?_
  refine wq_getf rfl hX rfl rfl ?_
  refine wq_gos (f := 1) (pc2 := 13) (ls2 := [(0, .ref 0), (1, .int 3), (2, .int v)]) (st2 := [.int v, .int 3, .ref ra]) (h2 := h) (dc2 := 0) (ds2 := 0) 2 rfl ?_
  cases q1x : jallow ll lg (3 : Int32) v with
  | false =>
    refine wq_inlv (y2 := 3) (as := [.int 3, .int v]) rfl rfl rfl hA rfl (wq_T (show zT zg0 zF zP 3 0 [(0, .ref ra), (1, .int 3), (2, .int v)] [] h 0 0 (some (.int 0), h, 0, 0) from by have q9 := c_allows hA hL hG (j := (3 : Int32)) rfl v; rw [q1x] at q9; exact q9) ?_)
    show wq 107 16 [(0, .ref 0), (1, .int 3), (2, .int v)] [.int 0] h 0 0 _
    refine wq_gos (f := 1) (pc2 := 20) (ls2 := [(0, .ref 0), (1, .int 3), (2, .int v)]) (st2 := [.int 0]) (h2 := h) (dc2 := 0) (ds2 := 0) 2 rfl ?_
    exfalso; rw [hal] at q1x; exact absurd q1x (by decide)
  | true =>
    refine wq_inlv (y2 := 3) (as := [.int 3, .int v]) rfl rfl rfl hA rfl (wq_T (show zT zg0 zF zP 3 0 [(0, .ref ra), (1, .int 3), (2, .int v)] [] h 0 0 (some (.int 1), h, 0, 0) from by have q9 := c_allows hA hL hG (j := (3 : Int32)) rfl v; rw [q1x] at q9; exact q9) ?_)
    show wq 107 16 [(0, .ref 0), (1, .int 3), (2, .int v)] [.int 1] h 0 0 _
    refine wq_gos (f := 1) (pc2 := 22) (ls2 := [(0, .ref 0), (1, .int 3), (2, .int v)]) (st2 := [.ref 0]) (h2 := h) (dc2 := 0) (ds2 := 0) 2 rfl ?_
    refine wq_getf rfl hX rfl rfl ?_
    refine wq_gos (f := 1) (pc2 := 26) (ls2 := [(0, .ref 0), (1, .int 3), (2, .int v)]) (st2 := [.ref 0, .ref 36]) (h2 := h) (dc2 := 0) (ds2 := 0) 1 rfl ?_
    refine wq_getf rfl hX rfl rfl ?_
    refine wq_gos (f := 1) (pc2 := 30) (ls2 := [(0, .ref 0), (1, .int 3), (2, .int v)]) (st2 := [.ref 0, .long ps, .ref 36]) (h2 := h) (dc2 := 0) (ds2 := 0) 1 rfl ?_
    refine wq_getf rfl hX rfl rfl ?_
    refine wq_inlv (y2 := 23) (as := [.long ps, .ref 34]) rfl rfl rfl hP rfl ?_
    show wq 23 0 [(0, .ref 36), (1, .long ps), (3, .ref 34)] [] h 0 0 _
    refine wq_gos (f := 1) (pc2 := 1) (ls2 := [(0, .ref 36), (1, .long ps), (3, .ref 34)]) (st2 := [.ref 36]) (h2 := h) (dc2 := 0) (ds2 := 0) 1 rfl ?_
    refine wq_getf rfl hP rfl rfl ?_
    refine wq_gos (f := 1) (pc2 := 5) (ls2 := [(0, .ref 36), (1, .long ps), (3, .ref 34)]) (st2 := [.ref 36, .ref 38]) (h2 := h) (dc2 := 0) (ds2 := 0) 1 rfl ?_
    refine wq_getf rfl hP rfl rfl ?_
    refine wq_gos (f := 1) (pc2 := 9) (ls2 := [(0, .ref 36), (1, .long ps), (3, .ref 34)]) (st2 := [.long ps, .int 0, .ref 38]) (h2 := h) (dc2 := 0) (ds2 := 0) 1 rfl ?_
    refine wq_last rfl hPp rfl rfl ?_
    intro h2x e3x f4x l5x
    have e3x : zat h2x 38 = some (.inr (.inl (20, (zset 0 pp 0 ps)))) := e3x
    refine wq_gos (f := 1) (pc2 := 13) (ls2 := [(0, .ref 36), (1, .long ps), (3, .ref 34)]) (st2 := [.ref 36, .int 0, .ref 34]) (h2 := h2x) (dc2 := 0) (ds2 := 0) 3 rfl ?_
    have e6x := (f4x.2 _ _ (wnc (by decide) wn0) hP)
    refine wq_getf rfl e6x rfl rfl ?_
    refine wq_gos (f := 1) (pc2 := 17) (ls2 := [(0, .ref 36), (1, .long ps), (3, .ref 34)]) (st2 := [.ref 36, .ref 40, .int 0, .ref 34]) (h2 := h2x) (dc2 := 0) (ds2 := 0) 1 rfl ?_
    refine wq_getf rfl e6x rfl rfl ?_
    refine wq_gos (f := 1) (pc2 := 25) (ls2 := [(0, .ref 36), (1, .long ps), (3, .ref 34)]) (st2 := [.int 6, .int 0, .ref 40, .int 0, .ref 34]) (h2 := h2x) (dc2 := 0) (ds2 := 0) 3 rfl ?_
    have e7x := (f4x.2 _ _ (wnc (by decide) wn0) hPa)
    have e8x := (f4x.2 _ _ (wnc (by decide) wn0) hAm)
    refine wq_cpi rfl e8x e7x (by decide) (by decide) (by decide) (by decide) (by decide) rfl ?_
    intro h9x e10x f11x l12x
    have e10x : zat h9x 40 = some (.inl (0, 120, (zcpy 0 am pa 0 0 6))) := e10x
    refine wq_gos (f := 1) (pc2 := 30) (ls2 := [(0, .ref 36), (1, .long ps), (3, .ref 34)]) (st2 := [.ref 36, .ref 36]) (h2 := h9x) (dc2 := 0) (ds2 := 0) 2 rfl ?_
    have e13x := (f11x.2 _ _ (wnc (by decide) wn0) e6x)
    refine wq_getf rfl e13x rfl rfl ?_
    refine wq_gos (f := 1) (pc2 := 45) (ls2 := [(0, .ref 36), (1, .long ps), (3, .ref 34)]) (st2 := [.ref 36, .ref 36]) (h2 := h9x) (dc2 := 0) (ds2 := 0) 5 rfl ?_
    refine wq_getf rfl e13x rfl rfl ?_
    refine wq_gos (f := 1) (pc2 := 50) (ls2 := [(0, .ref 36), (1, .long ps), (3, .ref 34)]) (st2 := [.int 1, .ref 36]) (h2 := h9x) (dc2 := 0) (ds2 := 0) 2 rfl ?_
    refine wq_putf rfl e13x rfl rfl rfl ?_
    intro h14x e15x f16x l17x
    have e15x : zat h14x 36 = some (.inr (.inr (.inr (2, [.int 0, .int 1, .ref 38, .ref 40])))) := e15x
    refine wq_gos (f := 1) (pc2 := 55) (ls2 := [(0, .ref 36), (1, .long ps), (3, .ref 34)]) (st2 := [.ref 36, .ref 36]) (h2 := h14x) (dc2 := 0) (ds2 := 0) 2 rfl ?_
    refine wq_getf rfl e15x rfl rfl ?_
    refine wq_gos (f := 1) (pc2 := 62) (ls2 := [(0, .ref 36), (1, .long ps), (3, .ref 34)]) (st2 := [.int 20, .int 1, .ref 36]) (h2 := h14x) (dc2 := 0) (ds2 := 0) 3 rfl ?_
    refine wq_inl (y2 := 285) (as := [.int 1, .int 20]) rfl rfl rfl (wq_T (c_min (1 : Int32) (20 : Int32) h14x) ?_)
    show wq 23 65 [(0, .ref 36), (1, .long ps), (3, .ref 34)] [.int (jmin (1 : Int32) (20 : Int32)), .ref 36] h14x 0 0 _
    refine wq_putf rfl e15x rfl rfl rfl ?_
    intro h18x e19x f20x l21x
    have e19x : zat h18x 36 = some (.inr (.inr (.inr (2, [.int (jmin (1 : Int32) (20 : Int32)), .int 1, .ref 38, .ref 40])))) := e19x
    refine wq_ret rfl rfl ?_
    show wq 107 36 [(0, .ref 0), (1, .int 3), (2, .int v)] [] h18x 0 0 _
    refine wq_gos (f := 1) (pc2 := 38) (ls2 := [(0, .ref 0), (1, .int 3), (2, .int v)]) (st2 := [.ref 0, .ref 0]) (h2 := h18x) (dc2 := 0) (ds2 := 0) 2 rfl ?_
    have e22x := (f20x.2 _ _ (wnc (by decide) wn0) (f16x.2 _ _ (wnc (by decide) wn0) (f11x.2 _ _ (wnc (by decide) wn0) (f4x.2 _ _ (wnc (by decide) wn0) hX))))
    refine wq_getf rfl e22x rfl rfl ?_
    refine wq_gos (f := 1) (pc2 := 43) (ls2 := [(0, .ref 0), (1, .int 3), (2, .int v)]) (st2 := [.int v, .int 3, .long ps, .ref 0]) (h2 := h18x) (dc2 := 0) (ds2 := 0) 2 rfl ?_
    refine wq_inl (y2 := 34) (as := [.long ps, .int 3, .int v]) rfl rfl rfl (wq_T (c_with3 ps v h18x) ?_)
    show wq 107 46 [(0, .ref 0), (1, .int 3), (2, .int v)] [.long (jput ps (-16711681) 16 v), .ref 0] h18x 0 0 _
    refine wq_putf rfl e22x rfl rfl rfl ?_
    intro h23x e24x f25x l26x
    have e24x : zat h23x 0 = some (.inr (.inr (.inr (9, [.ref 2, .int ta, .ref 4, .ref ra, .ref rd, .long (jput ps (-16711681) 16 v), .ref 34, .ref 36, .int im, .long ip, .ref 42, .ref 44, .ref 60, .ref 66, .ref 72, .ref 74, .ref 150, .ref 158])))) := e24x
    refine wq_gos (f := 1) (pc2 := 50) (ls2 := [(0, .ref 0), (1, .int 3), (2, .int v)]) (st2 := [.int 1]) (h2 := h23x) (dc2 := 0) (ds2 := 0) 1 rfl ?_
    exact wq_ret rfl rfl ⟨h23x, rfl, (wFr_tr (wFr_sub f4x (by simp)) (wFr_tr (wFr_sub f11x (by simp)) (wFr_tr (wFr_sub f16x (by simp)) (wFr_tr (wFr_sub f20x (by simp)) (wFr_sub f25x (by simp))))))⟩
set_option maxHeartbeats 4000000 in
theorem c_set4 {h : zH} {ra rl rg rv rn rp rw : Nat} {lk hd ht bl sd sp so : Int32} {rt : Int64} {ll lg : List Int32} {rd : Nat} {ta im : Int32} {ps ip : Int64} {pp : List Int64} {pa am : List Int32} (hX : zat h 0 = some (.inr (.inr (.inr (9, [.ref 2, .int ta, .ref 4, .ref ra, .ref rd, .long ps, .ref 34, .ref 36, .int im, .long ip, .ref 42, .ref 44, .ref 60, .ref 66, .ref 72, .ref 74, .ref 150, .ref 158]))))) (hA : zat h ra = some (.inr (.inr (.inr (0, [.int lk, .int hd, .int ht, .int bl, .int sd, .long rt, .ref rl, .ref rg, .ref rv, .int sp, .ref rn, .ref rp, .int so, .ref rw]))))) (hL : zat h rl = some (.inl (0, 6, ll))) (hG : zat h rg = some (.inl (0, 6, lg))) (hP : zat h 36 = some (.inr (.inr (.inr (2, [.int 0, .int 0, .ref 38, .ref 40]))))) (hPp : zat h 38 = some (.inr (.inl (20, pp)))) (hPa : zat h 40 = some (.inl (0, 120, pa))) (hAm : zat h 34 = some (.inl (0, 6, am))) (ha : ra < 34 ∧ rl < 34 ∧ rg < 34) (v : Int32) (hal : jallow ll lg 4 v = true) : wq 107 0 [(0, .ref 0), (1, .int 4), (2, .int v)] [] h 0 0 (fun r => ∃ h2, r = (some (.int 1), h2, 0, 0) ∧ wFr [0, 36, 38, 40] h h2) := by
  refine wq_gos (f := 1) (pc2 := 1) (ls2 := [(0, .ref 0), (1, .int 4), (2, .int v)]) (st2 := [.int 4]) (h2 := h) (dc2 := 0) (ds2 := 0) 1 rfl ?_
  refine wq_inl (y2 := 144) (as := [.int 4]) rfl rfl rfl ?_
  show wq 144 0 [(0, .int 4)] [] h 0 0 _
  refine wq_gos (f := 1) (pc2 := 15) (ls2 := [(0, .int 4)]) (st2 := [.int 0]) (h2 := h) (dc2 := 0) (ds2 := 0) 6 rfl ?_
  refine wq_ret rfl rfl ?_
  show wq 107 4 [(0, .ref 0), (1, .int 4), (2, .int v)] [.int 0] h 0 0 _
  refine wq_gos (f := 1) (pc2 := 8) (ls2 := [(0, .ref 0), (1, .int 4), (2, .int v)]) (st2 := [.ref 0]) (h2 := h) (dc2 := 0) (ds2 := 0) 2 rfl ?_
  refine wq_getf rfl hX rfl rfl ?_
  refine wq_gos (f := 1) (pc2 := 13) (ls2 := [(0, .ref 0), (1, .int 4), (2, .int v)]) (st2 := [.int v, .int 4, .ref ra]) (h2 := h) (dc2 := 0) (ds2 := 0) 2 rfl ?_
  cases q1x : jallow ll lg (4 : Int32) v with
  | false =>
    refine wq_inlv (y2 := 3) (as := [.int 4, .int v]) rfl rfl rfl hA rfl (wq_T (show zT zg0 zF zP 3 0 [(0, .ref ra), (1, .int 4), (2, .int v)] [] h 0 0 (some (.int 0), h, 0, 0) from by have q9 := c_allows hA hL hG (j := (4 : Int32)) rfl v; rw [q1x] at q9; exact q9) ?_)
    show wq 107 16 [(0, .ref 0), (1, .int 4), (2, .int v)] [.int 0] h 0 0 _
    refine wq_gos (f := 1) (pc2 := 20) (ls2 := [(0, .ref 0), (1, .int 4), (2, .int v)]) (st2 := [.int 0]) (h2 := h) (dc2 := 0) (ds2 := 0) 2 rfl ?_
    exfalso; rw [hal] at q1x; exact absurd q1x (by decide)
  | true =>
    refine wq_inlv (y2 := 3) (as := [.int 4, .int v]) rfl rfl rfl hA rfl (wq_T (show zT zg0 zF zP 3 0 [(0, .ref ra), (1, .int 4), (2, .int v)] [] h 0 0 (some (.int 1), h, 0, 0) from by have q9 := c_allows hA hL hG (j := (4 : Int32)) rfl v; rw [q1x] at q9; exact q9) ?_)
    show wq 107 16 [(0, .ref 0), (1, .int 4), (2, .int v)] [.int 1] h 0 0 _
    refine wq_gos (f := 1) (pc2 := 22) (ls2 := [(0, .ref 0), (1, .int 4), (2, .int v)]) (st2 := [.ref 0]) (h2 := h) (dc2 := 0) (ds2 := 0) 2 rfl ?_
    refine wq_getf rfl hX rfl rfl ?_
    refine wq_gos (f := 1) (pc2 := 26) (ls2 := [(0, .ref 0), (1, .int 4), (2, .int v)]) (st2 := [.ref 0, .ref 36]) (h2 := h) (dc2 := 0) (ds2 := 0) 1 rfl ?_
    refine wq_getf rfl hX rfl rfl ?_
    refine wq_gos (f := 1) (pc2 := 30) (ls2 := [(0, .ref 0), (1, .int 4), (2, .int v)]) (st2 := [.ref 0, .long ps, .ref 36]) (h2 := h) (dc2 := 0) (ds2 := 0) 1 rfl ?_
    refine wq_getf rfl hX rfl rfl ?_
    refine wq_inlv (y2 := 23) (as := [.long ps, .ref 34]) rfl rfl rfl hP rfl ?_
    show wq 23 0 [(0, .ref 36), (1, .long ps), (3, .ref 34)] [] h 0 0 _
    refine wq_gos (f := 1) (pc2 := 1) (ls2 := [(0, .ref 36), (1, .long ps), (3, .ref 34)]) (st2 := [.ref 36]) (h2 := h) (dc2 := 0) (ds2 := 0) 1 rfl ?_
    refine wq_getf rfl hP rfl rfl ?_
    refine wq_gos (f := 1) (pc2 := 5) (ls2 := [(0, .ref 36), (1, .long ps), (3, .ref 34)]) (st2 := [.ref 36, .ref 38]) (h2 := h) (dc2 := 0) (ds2 := 0) 1 rfl ?_
    refine wq_getf rfl hP rfl rfl ?_
    refine wq_gos (f := 1) (pc2 := 9) (ls2 := [(0, .ref 36), (1, .long ps), (3, .ref 34)]) (st2 := [.long ps, .int 0, .ref 38]) (h2 := h) (dc2 := 0) (ds2 := 0) 1 rfl ?_
    refine wq_last rfl hPp rfl rfl ?_
    intro h2x e3x f4x l5x
    have e3x : zat h2x 38 = some (.inr (.inl (20, (zset 0 pp 0 ps)))) := e3x
    refine wq_gos (f := 1) (pc2 := 13) (ls2 := [(0, .ref 36), (1, .long ps), (3, .ref 34)]) (st2 := [.ref 36, .int 0, .ref 34]) (h2 := h2x) (dc2 := 0) (ds2 := 0) 3 rfl ?_
    have e6x := (f4x.2 _ _ (wnc (by decide) wn0) hP)
    refine wq_getf rfl e6x rfl rfl ?_
    refine wq_gos (f := 1) (pc2 := 17) (ls2 := [(0, .ref 36), (1, .long ps), (3, .ref 34)]) (st2 := [.ref 36, .ref 40, .int 0, .ref 34]) (h2 := h2x) (dc2 := 0) (ds2 := 0) 1 rfl ?_
    refine wq_getf rfl e6x rfl rfl ?_
    refine wq_gos (f := 1) (pc2 := 25) (ls2 := [(0, .ref 36), (1, .long ps), (3, .ref 34)]) (st2 := [.int 6, .int 0, .ref 40, .int 0, .ref 34]) (h2 := h2x) (dc2 := 0) (ds2 := 0) 3 rfl ?_
    have e7x := (f4x.2 _ _ (wnc (by decide) wn0) hPa)
    have e8x := (f4x.2 _ _ (wnc (by decide) wn0) hAm)
    refine wq_cpi rfl e8x e7x (by decide) (by decide) (by decide) (by decide) (by decide) rfl ?_
    intro h9x e10x f11x l12x
    have e10x : zat h9x 40 = some (.inl (0, 120, (zcpy 0 am pa 0 0 6))) := e10x
    refine wq_gos (f := 1) (pc2 := 30) (ls2 := [(0, .ref 36), (1, .long ps), (3, .ref 34)]) (st2 := [.ref 36, .ref 36]) (h2 := h9x) (dc2 := 0) (ds2 := 0) 2 rfl ?_
    have e13x := (f11x.2 _ _ (wnc (by decide) wn0) e6x)
    refine wq_getf rfl e13x rfl rfl ?_
    refine wq_gos (f := 1) (pc2 := 45) (ls2 := [(0, .ref 36), (1, .long ps), (3, .ref 34)]) (st2 := [.ref 36, .ref 36]) (h2 := h9x) (dc2 := 0) (ds2 := 0) 5 rfl ?_
    refine wq_getf rfl e13x rfl rfl ?_
    refine wq_gos (f := 1) (pc2 := 50) (ls2 := [(0, .ref 36), (1, .long ps), (3, .ref 34)]) (st2 := [.int 1, .ref 36]) (h2 := h9x) (dc2 := 0) (ds2 := 0) 2 rfl ?_
    refine wq_putf rfl e13x rfl rfl rfl ?_
    intro h14x e15x f16x l17x
    have e15x : zat h14x 36 = some (.inr (.inr (.inr (2, [.int 0, .int 1, .ref 38, .ref 40])))) := e15x
    refine wq_gos (f := 1) (pc2 := 55) (ls2 := [(0, .ref 36), (1, .long ps), (3, .ref 34)]) (st2 := [.ref 36, .ref 36]) (h2 := h14x) (dc2 := 0) (ds2 := 0) 2 rfl ?_
    refine wq_getf rfl e15x rfl rfl ?_
    refine wq_gos (f := 1) (pc2 := 62) (ls2 := [(0, .ref 36), (1, .long ps), (3, .ref 34)]) (st2 := [.int 20, .int 1, .ref 36]) (h2 := h14x) (dc2 := 0) (ds2 := 0) 3 rfl ?_
    refine wq_inl (y2 := 285) (as := [.int 1, .int 20]) rfl rfl rfl (wq_T (c_min (1 : Int32) (20 : Int32) h14x) ?_)
    show wq 23 65 [(0, .ref 36), (1, .long ps), (3, .ref 34)] [.int (jmin (1 : Int32) (20 : Int32)), .ref 36] h14x 0 0 _
    refine wq_putf rfl e15x rfl rfl rfl ?_
    intro h18x e19x f20x l21x
    have e19x : zat h18x 36 = some (.inr (.inr (.inr (2, [.int (jmin (1 : Int32) (20 : Int32)), .int 1, .ref 38, .ref 40])))) := e19x
    refine wq_ret rfl rfl ?_
    show wq 107 36 [(0, .ref 0), (1, .int 4), (2, .int v)] [] h18x 0 0 _
    refine wq_gos (f := 1) (pc2 := 38) (ls2 := [(0, .ref 0), (1, .int 4), (2, .int v)]) (st2 := [.ref 0, .ref 0]) (h2 := h18x) (dc2 := 0) (ds2 := 0) 2 rfl ?_
    have e22x := (f20x.2 _ _ (wnc (by decide) wn0) (f16x.2 _ _ (wnc (by decide) wn0) (f11x.2 _ _ (wnc (by decide) wn0) (f4x.2 _ _ (wnc (by decide) wn0) hX))))
    refine wq_getf rfl e22x rfl rfl ?_
    refine wq_gos (f := 1) (pc2 := 43) (ls2 := [(0, .ref 0), (1, .int 4), (2, .int v)]) (st2 := [.int v, .int 4, .long ps, .ref 0]) (h2 := h18x) (dc2 := 0) (ds2 := 0) 2 rfl ?_
    refine wq_inl (y2 := 34) (as := [.long ps, .int 4, .int v]) rfl rfl rfl (wq_T (c_with4 ps v h18x) ?_)
    show wq 107 46 [(0, .ref 0), (1, .int 4), (2, .int v)] [.long (jput ps (-65281) 8 v), .ref 0] h18x 0 0 _
    refine wq_putf rfl e22x rfl rfl rfl ?_
    intro h23x e24x f25x l26x
    have e24x : zat h23x 0 = some (.inr (.inr (.inr (9, [.ref 2, .int ta, .ref 4, .ref ra, .ref rd, .long (jput ps (-65281) 8 v), .ref 34, .ref 36, .int im, .long ip, .ref 42, .ref 44, .ref 60, .ref 66, .ref 72, .ref 74, .ref 150, .ref 158])))) := e24x
    refine wq_gos (f := 1) (pc2 := 50) (ls2 := [(0, .ref 0), (1, .int 4), (2, .int v)]) (st2 := [.int 1]) (h2 := h23x) (dc2 := 0) (ds2 := 0) 1 rfl ?_
    exact wq_ret rfl rfl ⟨h23x, rfl, (wFr_tr (wFr_sub f4x (by simp)) (wFr_tr (wFr_sub f11x (by simp)) (wFr_tr (wFr_sub f16x (by simp)) (wFr_tr (wFr_sub f20x (by simp)) (wFr_sub f25x (by simp))))))⟩
set_option maxHeartbeats 4000000 in
theorem c_set5 {h : zH} {ra rl rg rv rn rp rw : Nat} {lk hd ht bl sd sp so : Int32} {rt : Int64} {ll lg : List Int32} {rd : Nat} {ta im : Int32} {ps ip : Int64} {pp : List Int64} {pa am : List Int32} (hX : zat h 0 = some (.inr (.inr (.inr (9, [.ref 2, .int ta, .ref 4, .ref ra, .ref rd, .long ps, .ref 34, .ref 36, .int im, .long ip, .ref 42, .ref 44, .ref 60, .ref 66, .ref 72, .ref 74, .ref 150, .ref 158]))))) (hA : zat h ra = some (.inr (.inr (.inr (0, [.int lk, .int hd, .int ht, .int bl, .int sd, .long rt, .ref rl, .ref rg, .ref rv, .int sp, .ref rn, .ref rp, .int so, .ref rw]))))) (hL : zat h rl = some (.inl (0, 6, ll))) (hG : zat h rg = some (.inl (0, 6, lg))) (hP : zat h 36 = some (.inr (.inr (.inr (2, [.int 0, .int 0, .ref 38, .ref 40]))))) (hPp : zat h 38 = some (.inr (.inl (20, pp)))) (hPa : zat h 40 = some (.inl (0, 120, pa))) (hAm : zat h 34 = some (.inl (0, 6, am))) (ha : ra < 34 ∧ rl < 34 ∧ rg < 34) (v : Int32) (hal : jallow ll lg 5 v = true) : wq 107 0 [(0, .ref 0), (1, .int 5), (2, .int v)] [] h 0 0 (fun r => ∃ h2, r = (some (.int 1), h2, 0, 0) ∧ wFr [0, 36, 38, 40] h h2) := by
  refine wq_gos (f := 1) (pc2 := 1) (ls2 := [(0, .ref 0), (1, .int 5), (2, .int v)]) (st2 := [.int 5]) (h2 := h) (dc2 := 0) (ds2 := 0) 1 rfl ?_
  refine wq_inl (y2 := 144) (as := [.int 5]) rfl rfl rfl ?_
  show wq 144 0 [(0, .int 5)] [] h 0 0 _
  refine wq_gos (f := 1) (pc2 := 15) (ls2 := [(0, .int 5)]) (st2 := [.int 0]) (h2 := h) (dc2 := 0) (ds2 := 0) 6 rfl ?_
  refine wq_ret rfl rfl ?_
  show wq 107 4 [(0, .ref 0), (1, .int 5), (2, .int v)] [.int 0] h 0 0 _
  refine wq_gos (f := 1) (pc2 := 8) (ls2 := [(0, .ref 0), (1, .int 5), (2, .int v)]) (st2 := [.ref 0]) (h2 := h) (dc2 := 0) (ds2 := 0) 2 rfl ?_
  refine wq_getf rfl hX rfl rfl ?_
  refine wq_gos (f := 1) (pc2 := 13) (ls2 := [(0, .ref 0), (1, .int 5), (2, .int v)]) (st2 := [.int v, .int 5, .ref ra]) (h2 := h) (dc2 := 0) (ds2 := 0) 2 rfl ?_
  cases q1x : jallow ll lg (5 : Int32) v with
  | false =>
    refine wq_inlv (y2 := 3) (as := [.int 5, .int v]) rfl rfl rfl hA rfl (wq_T (show zT zg0 zF zP 3 0 [(0, .ref ra), (1, .int 5), (2, .int v)] [] h 0 0 (some (.int 0), h, 0, 0) from by have q9 := c_allows hA hL hG (j := (5 : Int32)) rfl v; rw [q1x] at q9; exact q9) ?_)
    show wq 107 16 [(0, .ref 0), (1, .int 5), (2, .int v)] [.int 0] h 0 0 _
    refine wq_gos (f := 1) (pc2 := 20) (ls2 := [(0, .ref 0), (1, .int 5), (2, .int v)]) (st2 := [.int 0]) (h2 := h) (dc2 := 0) (ds2 := 0) 2 rfl ?_
    exfalso; rw [hal] at q1x; exact absurd q1x (by decide)
  | true =>
    refine wq_inlv (y2 := 3) (as := [.int 5, .int v]) rfl rfl rfl hA rfl (wq_T (show zT zg0 zF zP 3 0 [(0, .ref ra), (1, .int 5), (2, .int v)] [] h 0 0 (some (.int 1), h, 0, 0) from by have q9 := c_allows hA hL hG (j := (5 : Int32)) rfl v; rw [q1x] at q9; exact q9) ?_)
    show wq 107 16 [(0, .ref 0), (1, .int 5), (2, .int v)] [.int 1] h 0 0 _
    refine wq_gos (f := 1) (pc2 := 22) (ls2 := [(0, .ref 0), (1, .int 5), (2, .int v)]) (st2 := [.ref 0]) (h2 := h) (dc2 := 0) (ds2 := 0) 2 rfl ?_
    refine wq_getf rfl hX rfl rfl ?_
    refine wq_gos (f := 1) (pc2 := 26) (ls2 := [(0, .ref 0), (1, .int 5), (2, .int v)]) (st2 := [.ref 0, .ref 36]) (h2 := h) (dc2 := 0) (ds2 := 0) 1 rfl ?_
    refine wq_getf rfl hX rfl rfl ?_
    refine wq_gos (f := 1) (pc2 := 30) (ls2 := [(0, .ref 0), (1, .int 5), (2, .int v)]) (st2 := [.ref 0, .long ps, .ref 36]) (h2 := h) (dc2 := 0) (ds2 := 0) 1 rfl ?_
    refine wq_getf rfl hX rfl rfl ?_
    refine wq_inlv (y2 := 23) (as := [.long ps, .ref 34]) rfl rfl rfl hP rfl ?_
    show wq 23 0 [(0, .ref 36), (1, .long ps), (3, .ref 34)] [] h 0 0 _
    refine wq_gos (f := 1) (pc2 := 1) (ls2 := [(0, .ref 36), (1, .long ps), (3, .ref 34)]) (st2 := [.ref 36]) (h2 := h) (dc2 := 0) (ds2 := 0) 1 rfl ?_
    refine wq_getf rfl hP rfl rfl ?_
    refine wq_gos (f := 1) (pc2 := 5) (ls2 := [(0, .ref 36), (1, .long ps), (3, .ref 34)]) (st2 := [.ref 36, .ref 38]) (h2 := h) (dc2 := 0) (ds2 := 0) 1 rfl ?_
    refine wq_getf rfl hP rfl rfl ?_
    refine wq_gos (f := 1) (pc2 := 9) (ls2 := [(0, .ref 36), (1, .long ps), (3, .ref 34)]) (st2 := [.long ps, .int 0, .ref 38]) (h2 := h) (dc2 := 0) (ds2 := 0) 1 rfl ?_
    refine wq_last rfl hPp rfl rfl ?_
    intro h2x e3x f4x l5x
    have e3x : zat h2x 38 = some (.inr (.inl (20, (zset 0 pp 0 ps)))) := e3x
    refine wq_gos (f := 1) (pc2 := 13) (ls2 := [(0, .ref 36), (1, .long ps), (3, .ref 34)]) (st2 := [.ref 36, .int 0, .ref 34]) (h2 := h2x) (dc2 := 0) (ds2 := 0) 3 rfl ?_
    have e6x := (f4x.2 _ _ (wnc (by decide) wn0) hP)
    refine wq_getf rfl e6x rfl rfl ?_
    refine wq_gos (f := 1) (pc2 := 17) (ls2 := [(0, .ref 36), (1, .long ps), (3, .ref 34)]) (st2 := [.ref 36, .ref 40, .int 0, .ref 34]) (h2 := h2x) (dc2 := 0) (ds2 := 0) 1 rfl ?_
    refine wq_getf rfl e6x rfl rfl ?_
    refine wq_gos (f := 1) (pc2 := 25) (ls2 := [(0, .ref 36), (1, .long ps), (3, .ref 34)]) (st2 := [.int 6, .int 0, .ref 40, .int 0, .ref 34]) (h2 := h2x) (dc2 := 0) (ds2 := 0) 3 rfl ?_
    have e7x := (f4x.2 _ _ (wnc (by decide) wn0) hPa)
    have e8x := (f4x.2 _ _ (wnc (by decide) wn0) hAm)
    refine wq_cpi rfl e8x e7x (by decide) (by decide) (by decide) (by decide) (by decide) rfl ?_
    intro h9x e10x f11x l12x
    have e10x : zat h9x 40 = some (.inl (0, 120, (zcpy 0 am pa 0 0 6))) := e10x
    refine wq_gos (f := 1) (pc2 := 30) (ls2 := [(0, .ref 36), (1, .long ps), (3, .ref 34)]) (st2 := [.ref 36, .ref 36]) (h2 := h9x) (dc2 := 0) (ds2 := 0) 2 rfl ?_
    have e13x := (f11x.2 _ _ (wnc (by decide) wn0) e6x)
    refine wq_getf rfl e13x rfl rfl ?_
    refine wq_gos (f := 1) (pc2 := 45) (ls2 := [(0, .ref 36), (1, .long ps), (3, .ref 34)]) (st2 := [.ref 36, .ref 36]) (h2 := h9x) (dc2 := 0) (ds2 := 0) 5 rfl ?_
    refine wq_getf rfl e13x rfl rfl ?_
    refine wq_gos (f := 1) (pc2 := 50) (ls2 := [(0, .ref 36), (1, .long ps), (3, .ref 34)]) (st2 := [.int 1, .ref 36]) (h2 := h9x) (dc2 := 0) (ds2 := 0) 2 rfl ?_
    refine wq_putf rfl e13x rfl rfl rfl ?_
    intro h14x e15x f16x l17x
    have e15x : zat h14x 36 = some (.inr (.inr (.inr (2, [.int 0, .int 1, .ref 38, .ref 40])))) := e15x
    refine wq_gos (f := 1) (pc2 := 55) (ls2 := [(0, .ref 36), (1, .long ps), (3, .ref 34)]) (st2 := [.ref 36, .ref 36]) (h2 := h14x) (dc2 := 0) (ds2 := 0) 2 rfl ?_
    refine wq_getf rfl e15x rfl rfl ?_
    refine wq_gos (f := 1) (pc2 := 62) (ls2 := [(0, .ref 36), (1, .long ps), (3, .ref 34)]) (st2 := [.int 20, .int 1, .ref 36]) (h2 := h14x) (dc2 := 0) (ds2 := 0) 3 rfl ?_
    refine wq_inl (y2 := 285) (as := [.int 1, .int 20]) rfl rfl rfl (wq_T (c_min (1 : Int32) (20 : Int32) h14x) ?_)
    show wq 23 65 [(0, .ref 36), (1, .long ps), (3, .ref 34)] [.int (jmin (1 : Int32) (20 : Int32)), .ref 36] h14x 0 0 _
    refine wq_putf rfl e15x rfl rfl rfl ?_
    intro h18x e19x f20x l21x
    have e19x : zat h18x 36 = some (.inr (.inr (.inr (2, [.int (jmin (1 : Int32) (20 : Int32)), .int 1, .ref 38, .ref 40])))) := e19x
    refine wq_ret rfl rfl ?_
    show wq 107 36 [(0, .ref 0), (1, .int 5), (2, .int v)] [] h18x 0 0 _
    refine wq_gos (f := 1) (pc2 := 38) (ls2 := [(0, .ref 0), (1, .int 5), (2, .int v)]) (st2 := [.ref 0, .ref 0]) (h2 := h18x) (dc2 := 0) (ds2 := 0) 2 rfl ?_
    have e22x := (f20x.2 _ _ (wnc (by decide) wn0) (f16x.2 _ _ (wnc (by decide) wn0) (f11x.2 _ _ (wnc (by decide) wn0) (f4x.2 _ _ (wnc (by decide) wn0) hX))))
    refine wq_getf rfl e22x rfl rfl ?_
    refine wq_gos (f := 1) (pc2 := 43) (ls2 := [(0, .ref 0), (1, .int 5), (2, .int v)]) (st2 := [.int v, .int 5, .long ps, .ref 0]) (h2 := h18x) (dc2 := 0) (ds2 := 0) 2 rfl ?_
    refine wq_inl (y2 := 34) (as := [.long ps, .int 5, .int v]) rfl rfl rfl (wq_T (c_with5 ps v h18x) ?_)
    show wq 107 46 [(0, .ref 0), (1, .int 5), (2, .int v)] [.long (jput ps (-256) 0 v), .ref 0] h18x 0 0 _
    refine wq_putf rfl e22x rfl rfl rfl ?_
    intro h23x e24x f25x l26x
    have e24x : zat h23x 0 = some (.inr (.inr (.inr (9, [.ref 2, .int ta, .ref 4, .ref ra, .ref rd, .long (jput ps (-256) 0 v), .ref 34, .ref 36, .int im, .long ip, .ref 42, .ref 44, .ref 60, .ref 66, .ref 72, .ref 74, .ref 150, .ref 158])))) := e24x
    refine wq_gos (f := 1) (pc2 := 50) (ls2 := [(0, .ref 0), (1, .int 5), (2, .int v)]) (st2 := [.int 1]) (h2 := h23x) (dc2 := 0) (ds2 := 0) 1 rfl ?_
    exact wq_ret rfl rfl ⟨h23x, rfl, (wFr_tr (wFr_sub f4x (by simp)) (wFr_tr (wFr_sub f11x (by simp)) (wFr_tr (wFr_sub f16x (by simp)) (wFr_tr (wFr_sub f20x (by simp)) (wFr_sub f25x (by simp))))))⟩
set_option maxHeartbeats 4000000 in
theorem m_set0 {h : zH} {fs : List Value} {kn lo hi : List Int32} {nw ai ke hr : List Int32} (hM : zat h 162 = some (.inr (.inr (.inr (10, fs))))) (hC : mC fs) (hK : zat h 166 = some (.inl (0, 14, kn))) (hO : zat h 168 = some (.inl (0, 12, lo))) (hG : zat h 170 = some (.inl (0, 12, hi))) (h27 : fs[27]? = some (.int 0)) (hNw : zat h 188 = some (.inl (0, 6, nw))) (hAi : zat h 190 = some (.inl (0, 6, ai))) (hKe : zat h 192 = some (.inl (0, 252, ke))) (hHr : zat h 212 = some (.inl (2, 2, hr))) (v : Int32) (hal : jallow lo hi 0 v = true) : wq 212 0 [(0, .ref 162), (1, .int 0), (2, .int v)] [] h 0 0 (fun r => ∃ h2, r = (some (.int 1), h2, 0, 0)) := by
  refine wq_gos (f := 1) (pc2 := 2) (ls2 := [(0, .ref 162), (1, .int 0), (2, .int v)]) (st2 := [.int 0, .ref 162]) (h2 := h) (dc2 := 0) (ds2 := 0) 2 rfl ?_
  refine wq_putf rfl hM rfl (by rw [hC.1]; rfl) rfl ?_
  intro h1x e2x f3x l4x
  obtain ⟨fs5x, hf6x⟩ : ∃ x, x = fs.set 0 (.int 0) := ⟨_, rfl⟩
  rw [← hf6x] at e2x
  have hC7x : mC fs5x := by rw [hf6x]; exact mC_set hC (by decide) _
  have p8x : fs5x[27]? = some (.int 0) := by rw [hf6x, List.getElem?_set_ne (by decide)]; exact h27
  have p9x : fs5x[0]? = some (.int 0) := by rw [hf6x]; exact List.getElem?_set_self (by rw [hC.1]; decide)
  refine wq_gos (f := 1) (pc2 := 6) (ls2 := [(0, .ref 162), (1, .int 0), (2, .int v)]) (st2 := [.int 0]) (h2 := h1x) (dc2 := 0) (ds2 := 0) 1 rfl ?_
  refine wq_inl (y2 := 208) (as := [.int 0]) rfl rfl rfl ?_
  show wq 208 0 [(0, .int 0)] [] h1x 0 0 _
  refine wq_gos (f := 1) (pc2 := 15) (ls2 := [(0, .int 0)]) (st2 := [.int 1]) (h2 := h1x) (dc2 := 0) (ds2 := 0) 7 rfl ?_
  refine wq_ret rfl rfl ?_
  show wq 212 9 [(0, .ref 162), (1, .int 0), (2, .int v)] [.int 1] h1x 0 0 _
  refine wq_gos (f := 1) (pc2 := 15) (ls2 := [(0, .ref 162), (1, .int 0), (2, .int v)]) (st2 := [.int v, .int 0, .ref 162]) (h2 := h1x) (dc2 := 0) (ds2 := 0) 4 rfl ?_
  have e10x := (f3x.2 _ _ (wnc (by decide) wn0) hK)
  have e11x := (f3x.2 _ _ (wnc (by decide) wn0) hO)
  have e12x := (f3x.2 _ _ (wnc (by decide) wn0) hG)
  cases q13x : jallow lo hi (0 : Int32) v with
  | false =>
    refine wq_inlv (y2 := 207) (as := [.int 0, .int v]) rfl rfl rfl e2x rfl (wq_T (show zT zg0 zF zP 207 0 [(0, .ref 162), (1, .int 0), (2, .int v)] [] h1x 0 0 (some (.int 0), h1x, 0, 0) from by have q9 := c_within e2x (hC7x.2 (3, 166) (by decide)) (hC7x.2 (4, 168) (by decide)) (hC7x.2 (5, 170) (by decide)) e10x e11x e12x (j := (0 : Int32)) rfl v; rw [q13x] at q9; exact q9) ?_)
    show wq 212 18 [(0, .ref 162), (1, .int 0), (2, .int v)] [.int 0] h1x 0 0 _
    refine wq_gos (f := 1) (pc2 := 22) (ls2 := [(0, .ref 162), (1, .int 0), (2, .int v)]) (st2 := [.int 0]) (h2 := h1x) (dc2 := 0) (ds2 := 0) 2 rfl ?_
    exfalso; rw [hal] at q13x; exact absurd q13x (by decide)
  | true =>
    refine wq_inlv (y2 := 207) (as := [.int 0, .int v]) rfl rfl rfl e2x rfl (wq_T (show zT zg0 zF zP 207 0 [(0, .ref 162), (1, .int 0), (2, .int v)] [] h1x 0 0 (some (.int 1), h1x, 0, 0) from by have q9 := c_within e2x (hC7x.2 (3, 166) (by decide)) (hC7x.2 (4, 168) (by decide)) (hC7x.2 (5, 170) (by decide)) e10x e11x e12x (j := (0 : Int32)) rfl v; rw [q13x] at q9; exact q9) ?_)
    show wq 212 18 [(0, .ref 162), (1, .int 0), (2, .int v)] [.int 1] h1x 0 0 _
    refine wq_gos (f := 1) (pc2 := 24) (ls2 := [(0, .ref 162), (1, .int 0), (2, .int v)]) (st2 := [.ref 162]) (h2 := h1x) (dc2 := 0) (ds2 := 0) 2 rfl ?_
    refine wq_inlv (y2 := 191) (as := []) rfl rfl rfl e2x rfl ?_
    show wq 191 0 [(0, .ref 162)] [] h1x 0 0 _
    refine wq_gos (f := 1) (pc2 := 1) (ls2 := [(0, .ref 162)]) (st2 := [.ref 162]) (h2 := h1x) (dc2 := 0) (ds2 := 0) 1 rfl ?_
    refine wq_getf rfl e2x p8x rfl ?_
    refine wq_gos (f := 1) (pc2 := 51) (ls2 := [(0, .ref 162)]) (st2 := [.ref 162, .ref 162]) (h2 := h1x) (dc2 := 0) (ds2 := 0) 4 rfl ?_
    refine wq_getf rfl e2x p8x rfl ?_
    refine wq_inlv (y2 := 189) (as := [.int 0]) rfl rfl rfl e2x rfl ?_
    show wq 189 0 [(0, .ref 162), (1, .int 0)] [] h1x 0 0 _
    refine wq_gos (f := 1) (pc2 := 9) (ls2 := [(2, .int 0), (0, .ref 162), (1, .int 0)]) (st2 := [.ref 162]) (h2 := h1x) (dc2 := 0) (ds2 := 0) 6 rfl ?_
    refine wq_getf rfl e2x (hC7x.2 (26, 192) (by decide)) rfl ?_
    refine wq_gos (f := 1) (pc2 := 19) (ls2 := [(2, .int 0), (0, .ref 162), (1, .int 0)]) (st2 := [.ref 162, .int 0, .ref 192]) (h2 := h1x) (dc2 := 0) (ds2 := 0) 6 rfl ?_
    refine wq_getf rfl e2x (hC7x.2 (24, 188) (by decide)) rfl ?_
    refine wq_gos (f := 1) (pc2 := 23) (ls2 := [(2, .int 0), (0, .ref 162), (1, .int 0)]) (st2 := [.int 0, .ref 188, .int 0, .ref 192]) (h2 := h1x) (dc2 := 0) (ds2 := 0) 1 rfl ?_
    have e14x := (f3x.2 _ _ (wnc (by decide) wn0) hNw)
    refine wq_ialdk (k := 0) rfl e14x rfl rfl rfl ?_
    have e15x := (f3x.2 _ _ (wnc (by decide) wn0) hKe)
    refine wq_iast rfl e15x rfl rfl ?_
    intro h16x e17x f18x l19x
    have e17x : zat h16x 192 = some (.inl (0, 252, (zset 0 ke 0 (nw.getD 0 0)))) := e17x
    refine wq_gos (f := 1) (pc2 := 26) (ls2 := [(2, .int 0), (0, .ref 162), (1, .int 0)]) (st2 := [.ref 162]) (h2 := h16x) (dc2 := 0) (ds2 := 0) 1 rfl ?_
    have e20x := (f18x.2 _ _ (wnc (by decide) wn0) e2x)
    refine wq_getf rfl e20x (hC7x.2 (26, 192) (by decide)) rfl ?_
    refine wq_gos (f := 1) (pc2 := 39) (ls2 := [(2, .int 0), (0, .ref 162), (1, .int 0)]) (st2 := [.ref 162, .int 6, .ref 192]) (h2 := h16x) (dc2 := 0) (ds2 := 0) 8 rfl ?_
    refine wq_getf rfl e20x (hC7x.2 (25, 190) (by decide)) rfl ?_
    refine wq_gos (f := 1) (pc2 := 43) (ls2 := [(2, .int 0), (0, .ref 162), (1, .int 0)]) (st2 := [.int 0, .ref 190, .int 6, .ref 192]) (h2 := h16x) (dc2 := 0) (ds2 := 0) 1 rfl ?_
    have e21x := (f18x.2 _ _ (wnc (by decide) wn0) (f3x.2 _ _ (wnc (by decide) wn0) hAi))
    refine wq_ialdk (k := 0) rfl e21x rfl rfl rfl ?_
    refine wq_iast rfl e17x rfl rfl ?_
    intro h22x e23x f24x l25x
    have e23x : zat h22x 192 = some (.inl (0, 252, (zset 0 (zset 0 ke 0 (nw.getD 0 0)) 6 (ai.getD 0 0)))) := e23x
    refine wq_gos (f := 1) (pc2 := 9) (ls2 := [(2, .int 1), (0, .ref 162), (1, .int 0)]) (st2 := [.ref 162]) (h2 := h22x) (dc2 := 0) (ds2 := 0) 6 rfl ?_
    have e26x := (f24x.2 _ _ (wnc (by decide) wn0) e20x)
    refine wq_getf rfl e26x (hC7x.2 (26, 192) (by decide)) rfl ?_
    refine wq_gos (f := 1) (pc2 := 19) (ls2 := [(2, .int 1), (0, .ref 162), (1, .int 0)]) (st2 := [.ref 162, .int 1, .ref 192]) (h2 := h22x) (dc2 := 0) (ds2 := 0) 6 rfl ?_
    refine wq_getf rfl e26x (hC7x.2 (24, 188) (by decide)) rfl ?_
    refine wq_gos (f := 1) (pc2 := 23) (ls2 := [(2, .int 1), (0, .ref 162), (1, .int 0)]) (st2 := [.int 1, .ref 188, .int 1, .ref 192]) (h2 := h22x) (dc2 := 0) (ds2 := 0) 1 rfl ?_
    have e27x := (f24x.2 _ _ (wnc (by decide) wn0) (f18x.2 _ _ (wnc (by decide) wn0) e14x))
    refine wq_ialdk (k := 1) rfl e27x rfl rfl rfl ?_
    refine wq_iast rfl e23x rfl rfl ?_
    intro h28x e29x f30x l31x
    have e29x : zat h28x 192 = some (.inl (0, 252, (zset 0 (zset 0 (zset 0 ke 0 (nw.getD 0 0)) 6 (ai.getD 0 0)) 1 (nw.getD 1 0)))) := e29x
    refine wq_gos (f := 1) (pc2 := 26) (ls2 := [(2, .int 1), (0, .ref 162), (1, .int 0)]) (st2 := [.ref 162]) (h2 := h28x) (dc2 := 0) (ds2 := 0) 1 rfl ?_
    have e32x := (f30x.2 _ _ (wnc (by decide) wn0) e26x)
    refine wq_getf rfl e32x (hC7x.2 (26, 192) (by decide)) rfl ?_
    refine wq_gos (f := 1) (pc2 := 39) (ls2 := [(2, .int 1), (0, .ref 162), (1, .int 0)]) (st2 := [.ref 162, .int 7, .ref 192]) (h2 := h28x) (dc2 := 0) (ds2 := 0) 8 rfl ?_
    refine wq_getf rfl e32x (hC7x.2 (25, 190) (by decide)) rfl ?_
    refine wq_gos (f := 1) (pc2 := 43) (ls2 := [(2, .int 1), (0, .ref 162), (1, .int 0)]) (st2 := [.int 1, .ref 190, .int 7, .ref 192]) (h2 := h28x) (dc2 := 0) (ds2 := 0) 1 rfl ?_
    have e33x := (f30x.2 _ _ (wnc (by decide) wn0) (f24x.2 _ _ (wnc (by decide) wn0) e21x))
    refine wq_ialdk (k := 1) rfl e33x rfl rfl rfl ?_
    refine wq_iast rfl e29x rfl rfl ?_
    intro h34x e35x f36x l37x
    have e35x : zat h34x 192 = some (.inl (0, 252, (zset 0 (zset 0 (zset 0 (zset 0 ke 0 (nw.getD 0 0)) 6 (ai.getD 0 0)) 1 (nw.getD 1 0)) 7 (ai.getD 1 0)))) := e35x
    refine wq_gos (f := 1) (pc2 := 9) (ls2 := [(2, .int 2), (0, .ref 162), (1, .int 0)]) (st2 := [.ref 162]) (h2 := h34x) (dc2 := 0) (ds2 := 0) 6 rfl ?_
    have e38x := (f36x.2 _ _ (wnc (by decide) wn0) e32x)
    refine wq_getf rfl e38x (hC7x.2 (26, 192) (by decide)) rfl ?_
    refine wq_gos (f := 1) (pc2 := 19) (ls2 := [(2, .int 2), (0, .ref 162), (1, .int 0)]) (st2 := [.ref 162, .int 2, .ref 192]) (h2 := h34x) (dc2 := 0) (ds2 := 0) 6 rfl ?_
    refine wq_getf rfl e38x (hC7x.2 (24, 188) (by decide)) rfl ?_
    refine wq_gos (f := 1) (pc2 := 23) (ls2 := [(2, .int 2), (0, .ref 162), (1, .int 0)]) (st2 := [.int 2, .ref 188, .int 2, .ref 192]) (h2 := h34x) (dc2 := 0) (ds2 := 0) 1 rfl ?_
    have e39x := (f36x.2 _ _ (wnc (by decide) wn0) (f30x.2 _ _ (wnc (by decide) wn0) e27x))
    refine wq_ialdk (k := 2) rfl e39x rfl rfl rfl ?_
    refine wq_iast rfl e35x rfl rfl ?_
    intro h40x e41x f42x l43x
    have e41x : zat h40x 192 = some (.inl (0, 252, (zset 0 (zset 0 (zset 0 (zset 0 (zset 0 ke 0 (nw.getD 0 0)) 6 (ai.getD 0 0)) 1 (nw.getD 1 0)) 7 (ai.getD 1 0)) 2 (nw.getD 2 0)))) := e41x
    refine wq_gos (f := 1) (pc2 := 26) (ls2 := [(2, .int 2), (0, .ref 162), (1, .int 0)]) (st2 := [.ref 162]) (h2 := h40x) (dc2 := 0) (ds2 := 0) 1 rfl ?_
    have e44x := (f42x.2 _ _ (wnc (by decide) wn0) e38x)
    refine wq_getf rfl e44x (hC7x.2 (26, 192) (by decide)) rfl ?_
    refine wq_gos (f := 1) (pc2 := 39) (ls2 := [(2, .int 2), (0, .ref 162), (1, .int 0)]) (st2 := [.ref 162, .int 8, .ref 192]) (h2 := h40x) (dc2 := 0) (ds2 := 0) 8 rfl ?_
    refine wq_getf rfl e44x (hC7x.2 (25, 190) (by decide)) rfl ?_
    refine wq_gos (f := 1) (pc2 := 43) (ls2 := [(2, .int 2), (0, .ref 162), (1, .int 0)]) (st2 := [.int 2, .ref 190, .int 8, .ref 192]) (h2 := h40x) (dc2 := 0) (ds2 := 0) 1 rfl ?_
    have e45x := (f42x.2 _ _ (wnc (by decide) wn0) (f36x.2 _ _ (wnc (by decide) wn0) e33x))
    refine wq_ialdk (k := 2) rfl e45x rfl rfl rfl ?_
    refine wq_iast rfl e41x rfl rfl ?_
    intro h46x e47x f48x l49x
    have e47x : zat h46x 192 = some (.inl (0, 252, (zset 0 (zset 0 (zset 0 (zset 0 (zset 0 (zset 0 ke 0 (nw.getD 0 0)) 6 (ai.getD 0 0)) 1 (nw.getD 1 0)) 7 (ai.getD 1 0)) 2 (nw.getD 2 0)) 8 (ai.getD 2 0)))) := e47x
    refine wq_gos (f := 1) (pc2 := 9) (ls2 := [(2, .int 3), (0, .ref 162), (1, .int 0)]) (st2 := [.ref 162]) (h2 := h46x) (dc2 := 0) (ds2 := 0) 6 rfl ?_
    have e50x := (f48x.2 _ _ (wnc (by decide) wn0) e44x)
    refine wq_getf rfl e50x (hC7x.2 (26, 192) (by decide)) rfl ?_
    refine wq_gos (f := 1) (pc2 := 19) (ls2 := [(2, .int 3), (0, .ref 162), (1, .int 0)]) (st2 := [.ref 162, .int 3, .ref 192]) (h2 := h46x) (dc2 := 0) (ds2 := 0) 6 rfl ?_
    refine wq_getf rfl e50x (hC7x.2 (24, 188) (by decide)) rfl ?_
    refine wq_gos (f := 1) (pc2 := 23) (ls2 := [(2, .int 3), (0, .ref 162), (1, .int 0)]) (st2 := [.int 3, .ref 188, .int 3, .ref 192]) (h2 := h46x) (dc2 := 0) (ds2 := 0) 1 rfl ?_
    have e51x := (f48x.2 _ _ (wnc (by decide) wn0) (f42x.2 _ _ (wnc (by decide) wn0) e39x))
    refine wq_ialdk (k := 3) rfl e51x rfl rfl rfl ?_
    refine wq_iast rfl e47x rfl rfl ?_
    intro h52x e53x f54x l55x
    have e53x : zat h52x 192 = some (.inl (0, 252, (zset 0 (zset 0 (zset 0 (zset 0 (zset 0 (zset 0 (zset 0 ke 0 (nw.getD 0 0)) 6 (ai.getD 0 0)) 1 (nw.getD 1 0)) 7 (ai.getD 1 0)) 2 (nw.getD 2 0)) 8 (ai.getD 2 0)) 3 (nw.getD 3 0)))) := e53x
    refine wq_gos (f := 1) (pc2 := 26) (ls2 := [(2, .int 3), (0, .ref 162), (1, .int 0)]) (st2 := [.ref 162]) (h2 := h52x) (dc2 := 0) (ds2 := 0) 1 rfl ?_
    have e56x := (f54x.2 _ _ (wnc (by decide) wn0) e50x)
    refine wq_getf rfl e56x (hC7x.2 (26, 192) (by decide)) rfl ?_
    refine wq_gos (f := 1) (pc2 := 39) (ls2 := [(2, .int 3), (0, .ref 162), (1, .int 0)]) (st2 := [.ref 162, .int 9, .ref 192]) (h2 := h52x) (dc2 := 0) (ds2 := 0) 8 rfl ?_
    refine wq_getf rfl e56x (hC7x.2 (25, 190) (by decide)) rfl ?_
    refine wq_gos (f := 1) (pc2 := 43) (ls2 := [(2, .int 3), (0, .ref 162), (1, .int 0)]) (st2 := [.int 3, .ref 190, .int 9, .ref 192]) (h2 := h52x) (dc2 := 0) (ds2 := 0) 1 rfl ?_
    have e57x := (f54x.2 _ _ (wnc (by decide) wn0) (f48x.2 _ _ (wnc (by decide) wn0) e45x))
    refine wq_ialdk (k := 3) rfl e57x rfl rfl rfl ?_
    refine wq_iast rfl e53x rfl rfl ?_
    intro h58x e59x f60x l61x
    have e59x : zat h58x 192 = some (.inl (0, 252, (zset 0 (zset 0 (zset 0 (zset 0 (zset 0 (zset 0 (zset 0 (zset 0 ke 0 (nw.getD 0 0)) 6 (ai.getD 0 0)) 1 (nw.getD 1 0)) 7 (ai.getD 1 0)) 2 (nw.getD 2 0)) 8 (ai.getD 2 0)) 3 (nw.getD 3 0)) 9 (ai.getD 3 0)))) := e59x
    refine wq_gos (f := 1) (pc2 := 9) (ls2 := [(2, .int 4), (0, .ref 162), (1, .int 0)]) (st2 := [.ref 162]) (h2 := h58x) (dc2 := 0) (ds2 := 0) 6 rfl ?_
    have e62x := (f60x.2 _ _ (wnc (by decide) wn0) e56x)
    refine wq_getf rfl e62x (hC7x.2 (26, 192) (by decide)) rfl ?_
    refine wq_gos (f := 1) (pc2 := 19) (ls2 := [(2, .int 4), (0, .ref 162), (1, .int 0)]) (st2 := [.ref 162, .int 4, .ref 192]) (h2 := h58x) (dc2 := 0) (ds2 := 0) 6 rfl ?_
    refine wq_getf rfl e62x (hC7x.2 (24, 188) (by decide)) rfl ?_
    refine wq_gos (f := 1) (pc2 := 23) (ls2 := [(2, .int 4), (0, .ref 162), (1, .int 0)]) (st2 := [.int 4, .ref 188, .int 4, .ref 192]) (h2 := h58x) (dc2 := 0) (ds2 := 0) 1 rfl ?_
    have e63x := (f60x.2 _ _ (wnc (by decide) wn0) (f54x.2 _ _ (wnc (by decide) wn0) e51x))
    refine wq_ialdk (k := 4) rfl e63x rfl rfl rfl ?_
    refine wq_iast rfl e59x rfl rfl ?_
    intro h64x e65x f66x l67x
    have e65x : zat h64x 192 = some (.inl (0, 252, (zset 0 (zset 0 (zset 0 (zset 0 (zset 0 (zset 0 (zset 0 (zset 0 (zset 0 ke 0 (nw.getD 0 0)) 6 (ai.getD 0 0)) 1 (nw.getD 1 0)) 7 (ai.getD 1 0)) 2 (nw.getD 2 0)) 8 (ai.getD 2 0)) 3 (nw.getD 3 0)) 9 (ai.getD 3 0)) 4 (nw.getD 4 0)))) := e65x
    refine wq_gos (f := 1) (pc2 := 26) (ls2 := [(2, .int 4), (0, .ref 162), (1, .int 0)]) (st2 := [.ref 162]) (h2 := h64x) (dc2 := 0) (ds2 := 0) 1 rfl ?_
    have e68x := (f66x.2 _ _ (wnc (by decide) wn0) e62x)
    refine wq_getf rfl e68x (hC7x.2 (26, 192) (by decide)) rfl ?_
    refine wq_gos (f := 1) (pc2 := 39) (ls2 := [(2, .int 4), (0, .ref 162), (1, .int 0)]) (st2 := [.ref 162, .int 10, .ref 192]) (h2 := h64x) (dc2 := 0) (ds2 := 0) 8 rfl ?_
    refine wq_getf rfl e68x (hC7x.2 (25, 190) (by decide)) rfl ?_
    refine wq_gos (f := 1) (pc2 := 43) (ls2 := [(2, .int 4), (0, .ref 162), (1, .int 0)]) (st2 := [.int 4, .ref 190, .int 10, .ref 192]) (h2 := h64x) (dc2 := 0) (ds2 := 0) 1 rfl ?_
    have e69x := (f66x.2 _ _ (wnc (by decide) wn0) (f60x.2 _ _ (wnc (by decide) wn0) e57x))
    refine wq_ialdk (k := 4) rfl e69x rfl rfl rfl ?_
    refine wq_iast rfl e65x rfl rfl ?_
    intro h70x e71x f72x l73x
    have e71x : zat h70x 192 = some (.inl (0, 252, (zset 0 (zset 0 (zset 0 (zset 0 (zset 0 (zset 0 (zset 0 (zset 0 (zset 0 (zset 0 ke 0 (nw.getD 0 0)) 6 (ai.getD 0 0)) 1 (nw.getD 1 0)) 7 (ai.getD 1 0)) 2 (nw.getD 2 0)) 8 (ai.getD 2 0)) 3 (nw.getD 3 0)) 9 (ai.getD 3 0)) 4 (nw.getD 4 0)) 10 (ai.getD 4 0)))) := e71x
    refine wq_gos (f := 1) (pc2 := 9) (ls2 := [(2, .int 5), (0, .ref 162), (1, .int 0)]) (st2 := [.ref 162]) (h2 := h70x) (dc2 := 0) (ds2 := 0) 6 rfl ?_
    have e74x := (f72x.2 _ _ (wnc (by decide) wn0) e68x)
    refine wq_getf rfl e74x (hC7x.2 (26, 192) (by decide)) rfl ?_
    refine wq_gos (f := 1) (pc2 := 19) (ls2 := [(2, .int 5), (0, .ref 162), (1, .int 0)]) (st2 := [.ref 162, .int 5, .ref 192]) (h2 := h70x) (dc2 := 0) (ds2 := 0) 6 rfl ?_
    refine wq_getf rfl e74x (hC7x.2 (24, 188) (by decide)) rfl ?_
    refine wq_gos (f := 1) (pc2 := 23) (ls2 := [(2, .int 5), (0, .ref 162), (1, .int 0)]) (st2 := [.int 5, .ref 188, .int 5, .ref 192]) (h2 := h70x) (dc2 := 0) (ds2 := 0) 1 rfl ?_
    have e75x := (f72x.2 _ _ (wnc (by decide) wn0) (f66x.2 _ _ (wnc (by decide) wn0) e63x))
    refine wq_ialdk (k := 5) rfl e75x rfl rfl rfl ?_
    refine wq_iast rfl e71x rfl rfl ?_
    intro h76x e77x f78x l79x
    have e77x : zat h76x 192 = some (.inl (0, 252, (zset 0 (zset 0 (zset 0 (zset 0 (zset 0 (zset 0 (zset 0 (zset 0 (zset 0 (zset 0 (zset 0 ke 0 (nw.getD 0 0)) 6 (ai.getD 0 0)) 1 (nw.getD 1 0)) 7 (ai.getD 1 0)) 2 (nw.getD 2 0)) 8 (ai.getD 2 0)) 3 (nw.getD 3 0)) 9 (ai.getD 3 0)) 4 (nw.getD 4 0)) 10 (ai.getD 4 0)) 5 (nw.getD 5 0)))) := e77x
    refine wq_gos (f := 1) (pc2 := 26) (ls2 := [(2, .int 5), (0, .ref 162), (1, .int 0)]) (st2 := [.ref 162]) (h2 := h76x) (dc2 := 0) (ds2 := 0) 1 rfl ?_
    have e80x := (f78x.2 _ _ (wnc (by decide) wn0) e74x)
    refine wq_getf rfl e80x (hC7x.2 (26, 192) (by decide)) rfl ?_
    refine wq_gos (f := 1) (pc2 := 39) (ls2 := [(2, .int 5), (0, .ref 162), (1, .int 0)]) (st2 := [.ref 162, .int 11, .ref 192]) (h2 := h76x) (dc2 := 0) (ds2 := 0) 8 rfl ?_
    refine wq_getf rfl e80x (hC7x.2 (25, 190) (by decide)) rfl ?_
    refine wq_gos (f := 1) (pc2 := 43) (ls2 := [(2, .int 5), (0, .ref 162), (1, .int 0)]) (st2 := [.int 5, .ref 190, .int 11, .ref 192]) (h2 := h76x) (dc2 := 0) (ds2 := 0) 1 rfl ?_
    have e81x := (f78x.2 _ _ (wnc (by decide) wn0) (f72x.2 _ _ (wnc (by decide) wn0) e69x))
    refine wq_ialdk (k := 5) rfl e81x rfl rfl rfl ?_
    refine wq_iast rfl e77x rfl rfl ?_
    intro h82x e83x f84x l85x
    have e83x : zat h82x 192 = some (.inl (0, 252, (zset 0 (zset 0 (zset 0 (zset 0 (zset 0 (zset 0 (zset 0 (zset 0 (zset 0 (zset 0 (zset 0 (zset 0 ke 0 (nw.getD 0 0)) 6 (ai.getD 0 0)) 1 (nw.getD 1 0)) 7 (ai.getD 1 0)) 2 (nw.getD 2 0)) 8 (ai.getD 2 0)) 3 (nw.getD 3 0)) 9 (ai.getD 3 0)) 4 (nw.getD 4 0)) 10 (ai.getD 4 0)) 5 (nw.getD 5 0)) 11 (ai.getD 5 0)))) := e83x
    refine wq_gos (f := 1) (pc2 := 51) (ls2 := [(2, .int 6), (0, .ref 162), (1, .int 0)]) (st2 := []) (h2 := h82x) (dc2 := 0) (ds2 := 0) 5 rfl ?_
    refine wq_ret rfl rfl ?_
    show wq 191 57 [(0, .ref 162)] [] h82x 0 0 _
    refine wq_gos (f := 1) (pc2 := 59) (ls2 := [(0, .ref 162)]) (st2 := [.ref 162, .ref 162]) (h2 := h82x) (dc2 := 0) (ds2 := 0) 2 rfl ?_
    have e86x := (f84x.2 _ _ (wnc (by decide) wn0) e80x)
    refine wq_getf rfl e86x p8x rfl ?_
    refine wq_gos (f := 1) (pc2 := 64) (ls2 := [(0, .ref 162)]) (st2 := [.int 1, .ref 162]) (h2 := h82x) (dc2 := 0) (ds2 := 0) 2 rfl ?_
    refine wq_putf rfl e86x rfl (by rw [hC7x.1]; rfl) rfl ?_
    intro h87x e88x f89x l90x
    obtain ⟨fs91x, hf92x⟩ : ∃ x, x = fs5x.set 27 (.int 1) := ⟨_, rfl⟩
    rw [← hf92x] at e88x
    have hC93x : mC fs91x := by rw [hf92x]; exact mC_set hC7x (by decide) _
    have p94x : fs91x[0]? = some (.int 0) := by rw [hf92x, List.getElem?_set_ne (by decide)]; exact p9x
    have p95x : fs91x[27]? = some (.int 1) := by rw [hf92x]; exact List.getElem?_set_self (by rw [hC7x.1]; decide)
    refine wq_ret rfl rfl ?_
    show wq 212 27 [(0, .ref 162), (1, .int 0), (2, .int v)] [] h87x 0 0 _
    refine wq_gos (f := 1) (pc2 := 28) (ls2 := [(0, .ref 162), (1, .int 0), (2, .int v)]) (st2 := [.ref 162]) (h2 := h87x) (dc2 := 0) (ds2 := 0) 1 rfl ?_
    refine wq_getf rfl e88x (hC93x.2 (24, 188) (by decide)) rfl ?_
    refine wq_gos (f := 1) (pc2 := 33) (ls2 := [(0, .ref 162), (1, .int 0), (2, .int v)]) (st2 := [.int v, .int 0, .ref 188]) (h2 := h87x) (dc2 := 0) (ds2 := 0) 2 rfl ?_
    have e96x := (f89x.2 _ _ (wnc (by decide) wn0) (f84x.2 _ _ (wnc (by decide) wn0) (f78x.2 _ _ (wnc (by decide) wn0) e75x)))
    refine wq_iast rfl e96x rfl rfl ?_
    intro h97x e98x f99x l100x
    have e98x : zat h97x 188 = some (.inl (0, 6, (zset 0 nw 0 v))) := e98x
    refine wq_gos (f := 1) (pc2 := 35) (ls2 := [(0, .ref 162), (1, .int 0), (2, .int v)]) (st2 := [.ref 162]) (h2 := h97x) (dc2 := 0) (ds2 := 0) 1 rfl ?_
    have e101x := (f99x.2 _ _ (wnc (by decide) wn0) e88x)
    refine wq_inlv (y2 := 242) (as := []) rfl rfl rfl e101x rfl ?_
    show wq 242 0 [(0, .ref 162)] [] h97x 0 0 _
    refine wq_gos (f := 1) (pc2 := 2) (ls2 := [(0, .ref 162)]) (st2 := [.int 0, .ref 162]) (h2 := h97x) (dc2 := 0) (ds2 := 0) 2 rfl ?_
    refine wq_putf rfl e101x rfl (by rw [hC93x.1]; rfl) rfl ?_
    intro h102x e103x f104x l105x
    obtain ⟨fs106x, hf107x⟩ : ∃ x, x = fs91x.set 33 (.int 0) := ⟨_, rfl⟩
    rw [← hf107x] at e103x
    have hC108x : mC fs106x := by rw [hf107x]; exact mC_set hC93x (by decide) _
    have p109x : fs106x[0]? = some (.int 0) := by rw [hf107x, List.getElem?_set_ne (by decide)]; exact p94x
    have p110x : fs106x[27]? = some (.int 1) := by rw [hf107x, List.getElem?_set_ne (by decide)]; exact p95x
    have p111x : fs106x[33]? = some (.int 0) := by rw [hf107x]; exact List.getElem?_set_self (by rw [hC93x.1]; decide)
    refine wq_gos (f := 1) (pc2 := 6) (ls2 := [(0, .ref 162)]) (st2 := [.ref 162]) (h2 := h102x) (dc2 := 0) (ds2 := 0) 1 rfl ?_
    refine wq_getf rfl e103x (hC108x.2 (43, 212) (by decide)) rfl ?_
    refine wq_gos (f := 1) (pc2 := 11) (ls2 := [(0, .ref 162)]) (st2 := [.int 0, .int 0, .ref 212]) (h2 := h102x) (dc2 := 0) (ds2 := 0) 2 rfl ?_
    have e112x := (f104x.2 _ _ (wnc (by decide) wn0) (f99x.2 _ _ (wnc (by decide) wn0) (f89x.2 _ _ (wnc (by decide) wn0) (f84x.2 _ _ (wnc (by decide) wn0) (f78x.2 _ _ (wnc (by decide) wn0) (f72x.2 _ _ (wnc (by decide) wn0) (f66x.2 _ _ (wnc (by decide) wn0) (f60x.2 _ _ (wnc (by decide) wn0) (f54x.2 _ _ (wnc (by decide) wn0) (f48x.2 _ _ (wnc (by decide) wn0) (f42x.2 _ _ (wnc (by decide) wn0) (f36x.2 _ _ (wnc (by decide) wn0) (f30x.2 _ _ (wnc (by decide) wn0) (f24x.2 _ _ (wnc (by decide) wn0) (f18x.2 _ _ (wnc (by decide) wn0) (f3x.2 _ _ (wnc (by decide) wn0) hHr))))))))))))))))
    refine wq_zast rfl e112x rfl rfl ?_
    intro h113x e114x f115x l116x
    have e114x : zat h113x 212 = some (.inl (2, 2, (zset 0 hr 0 (vp_nar .boolean (0 : Int32))))) := e114x
    refine wq_gos (f := 1) (pc2 := 13) (ls2 := [(0, .ref 162)]) (st2 := [.ref 162]) (h2 := h113x) (dc2 := 0) (ds2 := 0) 1 rfl ?_
    have e117x := (f115x.2 _ _ (wnc (by decide) wn0) e103x)
    refine wq_getf rfl e117x (hC108x.2 (43, 212) (by decide)) rfl ?_
    refine wq_gos (f := 1) (pc2 := 18) (ls2 := [(0, .ref 162)]) (st2 := [.int 0, .int 1, .ref 212]) (h2 := h113x) (dc2 := 0) (ds2 := 0) 2 rfl ?_
    refine wq_zast rfl e114x rfl rfl ?_
    intro h118x e119x f120x l121x
    have e119x : zat h118x 212 = some (.inl (2, 2, (zset 0 (zset 0 hr 0 (vp_nar .boolean (0 : Int32))) 1 (vp_nar .boolean (0 : Int32))))) := e119x
    refine wq_ret rfl rfl ?_
    show wq 212 38 [(0, .ref 162), (1, .int 0), (2, .int v)] [] h118x 0 0 _
    refine wq_gos (f := 1) (pc2 := 39) (ls2 := [(0, .ref 162), (1, .int 0), (2, .int v)]) (st2 := [.int 1]) (h2 := h118x) (dc2 := 0) (ds2 := 0) 1 rfl ?_
    exact wq_ret rfl rfl ⟨h118x, rfl⟩
set_option maxHeartbeats 4000000 in
theorem m_set1 {h : zH} {fs : List Value} {kn lo hi : List Int32} {nw ai ke hr : List Int32} (hM : zat h 162 = some (.inr (.inr (.inr (10, fs))))) (hC : mC fs) (hK : zat h 166 = some (.inl (0, 14, kn))) (hO : zat h 168 = some (.inl (0, 12, lo))) (hG : zat h 170 = some (.inl (0, 12, hi))) (h27 : fs[27]? = some (.int 0)) (hNw : zat h 188 = some (.inl (0, 6, nw))) (hAi : zat h 190 = some (.inl (0, 6, ai))) (hKe : zat h 192 = some (.inl (0, 252, ke))) (hHr : zat h 212 = some (.inl (2, 2, hr))) (v : Int32) (hal : jallow lo hi 1 v = true) : wq 212 0 [(0, .ref 162), (1, .int 1), (2, .int v)] [] h 0 0 (fun r => ∃ h2, r = (some (.int 1), h2, 0, 0)) := by
  refine wq_gos (f := 1) (pc2 := 2) (ls2 := [(0, .ref 162), (1, .int 1), (2, .int v)]) (st2 := [.int 0, .ref 162]) (h2 := h) (dc2 := 0) (ds2 := 0) 2 rfl ?_
  refine wq_putf rfl hM rfl (by rw [hC.1]; rfl) rfl ?_
  intro h1x e2x f3x l4x
  obtain ⟨fs5x, hf6x⟩ : ∃ x, x = fs.set 0 (.int 0) := ⟨_, rfl⟩
  rw [← hf6x] at e2x
  have hC7x : mC fs5x := by rw [hf6x]; exact mC_set hC (by decide) _
  have p8x : fs5x[27]? = some (.int 0) := by rw [hf6x, List.getElem?_set_ne (by decide)]; exact h27
  have p9x : fs5x[0]? = some (.int 0) := by rw [hf6x]; exact List.getElem?_set_self (by rw [hC.1]; decide)
  refine wq_gos (f := 1) (pc2 := 6) (ls2 := [(0, .ref 162), (1, .int 1), (2, .int v)]) (st2 := [.int 1]) (h2 := h1x) (dc2 := 0) (ds2 := 0) 1 rfl ?_
  refine wq_inl (y2 := 208) (as := [.int 1]) rfl rfl rfl ?_
  show wq 208 0 [(0, .int 1)] [] h1x 0 0 _
  refine wq_gos (f := 1) (pc2 := 15) (ls2 := [(0, .int 1)]) (st2 := [.int 1]) (h2 := h1x) (dc2 := 0) (ds2 := 0) 7 rfl ?_
  refine wq_ret rfl rfl ?_
  show wq 212 9 [(0, .ref 162), (1, .int 1), (2, .int v)] [.int 1] h1x 0 0 _
  refine wq_gos (f := 1) (pc2 := 15) (ls2 := [(0, .ref 162), (1, .int 1), (2, .int v)]) (st2 := [.int v, .int 1, .ref 162]) (h2 := h1x) (dc2 := 0) (ds2 := 0) 4 rfl ?_
  have e10x := (f3x.2 _ _ (wnc (by decide) wn0) hK)
  have e11x := (f3x.2 _ _ (wnc (by decide) wn0) hO)
  have e12x := (f3x.2 _ _ (wnc (by decide) wn0) hG)
  cases q13x : jallow lo hi (1 : Int32) v with
  | false =>
    refine wq_inlv (y2 := 207) (as := [.int 1, .int v]) rfl rfl rfl e2x rfl (wq_T (show zT zg0 zF zP 207 0 [(0, .ref 162), (1, .int 1), (2, .int v)] [] h1x 0 0 (some (.int 0), h1x, 0, 0) from by have q9 := c_within e2x (hC7x.2 (3, 166) (by decide)) (hC7x.2 (4, 168) (by decide)) (hC7x.2 (5, 170) (by decide)) e10x e11x e12x (j := (1 : Int32)) rfl v; rw [q13x] at q9; exact q9) ?_)
    show wq 212 18 [(0, .ref 162), (1, .int 1), (2, .int v)] [.int 0] h1x 0 0 _
    refine wq_gos (f := 1) (pc2 := 22) (ls2 := [(0, .ref 162), (1, .int 1), (2, .int v)]) (st2 := [.int 0]) (h2 := h1x) (dc2 := 0) (ds2 := 0) 2 rfl ?_
    exfalso; rw [hal] at q13x; exact absurd q13x (by decide)
  | true =>
    refine wq_inlv (y2 := 207) (as := [.int 1, .int v]) rfl rfl rfl e2x rfl (wq_T (show zT zg0 zF zP 207 0 [(0, .ref 162), (1, .int 1), (2, .int v)] [] h1x 0 0 (some (.int 1), h1x, 0, 0) from by have q9 := c_within e2x (hC7x.2 (3, 166) (by decide)) (hC7x.2 (4, 168) (by decide)) (hC7x.2 (5, 170) (by decide)) e10x e11x e12x (j := (1 : Int32)) rfl v; rw [q13x] at q9; exact q9) ?_)
    show wq 212 18 [(0, .ref 162), (1, .int 1), (2, .int v)] [.int 1] h1x 0 0 _
    refine wq_gos (f := 1) (pc2 := 24) (ls2 := [(0, .ref 162), (1, .int 1), (2, .int v)]) (st2 := [.ref 162]) (h2 := h1x) (dc2 := 0) (ds2 := 0) 2 rfl ?_
    refine wq_inlv (y2 := 191) (as := []) rfl rfl rfl e2x rfl ?_
    show wq 191 0 [(0, .ref 162)] [] h1x 0 0 _
    refine wq_gos (f := 1) (pc2 := 1) (ls2 := [(0, .ref 162)]) (st2 := [.ref 162]) (h2 := h1x) (dc2 := 0) (ds2 := 0) 1 rfl ?_
    refine wq_getf rfl e2x p8x rfl ?_
    refine wq_gos (f := 1) (pc2 := 51) (ls2 := [(0, .ref 162)]) (st2 := [.ref 162, .ref 162]) (h2 := h1x) (dc2 := 0) (ds2 := 0) 4 rfl ?_
    refine wq_getf rfl e2x p8x rfl ?_
    refine wq_inlv (y2 := 189) (as := [.int 0]) rfl rfl rfl e2x rfl ?_
    show wq 189 0 [(0, .ref 162), (1, .int 0)] [] h1x 0 0 _
    refine wq_gos (f := 1) (pc2 := 9) (ls2 := [(2, .int 0), (0, .ref 162), (1, .int 0)]) (st2 := [.ref 162]) (h2 := h1x) (dc2 := 0) (ds2 := 0) 6 rfl ?_
    refine wq_getf rfl e2x (hC7x.2 (26, 192) (by decide)) rfl ?_
    refine wq_gos (f := 1) (pc2 := 19) (ls2 := [(2, .int 0), (0, .ref 162), (1, .int 0)]) (st2 := [.ref 162, .int 0, .ref 192]) (h2 := h1x) (dc2 := 0) (ds2 := 0) 6 rfl ?_
    refine wq_getf rfl e2x (hC7x.2 (24, 188) (by decide)) rfl ?_
    refine wq_gos (f := 1) (pc2 := 23) (ls2 := [(2, .int 0), (0, .ref 162), (1, .int 0)]) (st2 := [.int 0, .ref 188, .int 0, .ref 192]) (h2 := h1x) (dc2 := 0) (ds2 := 0) 1 rfl ?_
    have e14x := (f3x.2 _ _ (wnc (by decide) wn0) hNw)
    refine wq_ialdk (k := 0) rfl e14x rfl rfl rfl ?_
    have e15x := (f3x.2 _ _ (wnc (by decide) wn0) hKe)
    refine wq_iast rfl e15x rfl rfl ?_
    intro h16x e17x f18x l19x
    have e17x : zat h16x 192 = some (.inl (0, 252, (zset 0 ke 0 (nw.getD 0 0)))) := e17x
    refine wq_gos (f := 1) (pc2 := 26) (ls2 := [(2, .int 0), (0, .ref 162), (1, .int 0)]) (st2 := [.ref 162]) (h2 := h16x) (dc2 := 0) (ds2 := 0) 1 rfl ?_
    have e20x := (f18x.2 _ _ (wnc (by decide) wn0) e2x)
    refine wq_getf rfl e20x (hC7x.2 (26, 192) (by decide)) rfl ?_
    refine wq_gos (f := 1) (pc2 := 39) (ls2 := [(2, .int 0), (0, .ref 162), (1, .int 0)]) (st2 := [.ref 162, .int 6, .ref 192]) (h2 := h16x) (dc2 := 0) (ds2 := 0) 8 rfl ?_
    refine wq_getf rfl e20x (hC7x.2 (25, 190) (by decide)) rfl ?_
    refine wq_gos (f := 1) (pc2 := 43) (ls2 := [(2, .int 0), (0, .ref 162), (1, .int 0)]) (st2 := [.int 0, .ref 190, .int 6, .ref 192]) (h2 := h16x) (dc2 := 0) (ds2 := 0) 1 rfl ?_
    have e21x := (f18x.2 _ _ (wnc (by decide) wn0) (f3x.2 _ _ (wnc (by decide) wn0) hAi))
    refine wq_ialdk (k := 0) rfl e21x rfl rfl rfl ?_
    refine wq_iast rfl e17x rfl rfl ?_
    intro h22x e23x f24x l25x
    have e23x : zat h22x 192 = some (.inl (0, 252, (zset 0 (zset 0 ke 0 (nw.getD 0 0)) 6 (ai.getD 0 0)))) := e23x
    refine wq_gos (f := 1) (pc2 := 9) (ls2 := [(2, .int 1), (0, .ref 162), (1, .int 0)]) (st2 := [.ref 162]) (h2 := h22x) (dc2 := 0) (ds2 := 0) 6 rfl ?_
    have e26x := (f24x.2 _ _ (wnc (by decide) wn0) e20x)
    refine wq_getf rfl e26x (hC7x.2 (26, 192) (by decide)) rfl ?_
    refine wq_gos (f := 1) (pc2 := 19) (ls2 := [(2, .int 1), (0, .ref 162), (1, .int 0)]) (st2 := [.ref 162, .int 1, .ref 192]) (h2 := h22x) (dc2 := 0) (ds2 := 0) 6 rfl ?_
    refine wq_getf rfl e26x (hC7x.2 (24, 188) (by decide)) rfl ?_
    refine wq_gos (f := 1) (pc2 := 23) (ls2 := [(2, .int 1), (0, .ref 162), (1, .int 0)]) (st2 := [.int 1, .ref 188, .int 1, .ref 192]) (h2 := h22x) (dc2 := 0) (ds2 := 0) 1 rfl ?_
    have e27x := (f24x.2 _ _ (wnc (by decide) wn0) (f18x.2 _ _ (wnc (by decide) wn0) e14x))
    refine wq_ialdk (k := 1) rfl e27x rfl rfl rfl ?_
    refine wq_iast rfl e23x rfl rfl ?_
    intro h28x e29x f30x l31x
    have e29x : zat h28x 192 = some (.inl (0, 252, (zset 0 (zset 0 (zset 0 ke 0 (nw.getD 0 0)) 6 (ai.getD 0 0)) 1 (nw.getD 1 0)))) := e29x
    refine wq_gos (f := 1) (pc2 := 26) (ls2 := [(2, .int 1), (0, .ref 162), (1, .int 0)]) (st2 := [.ref 162]) (h2 := h28x) (dc2 := 0) (ds2 := 0) 1 rfl ?_
    have e32x := (f30x.2 _ _ (wnc (by decide) wn0) e26x)
    refine wq_getf rfl e32x (hC7x.2 (26, 192) (by decide)) rfl ?_
    refine wq_gos (f := 1) (pc2 := 39) (ls2 := [(2, .int 1), (0, .ref 162), (1, .int 0)]) (st2 := [.ref 162, .int 7, .ref 192]) (h2 := h28x) (dc2 := 0) (ds2 := 0) 8 rfl ?_
    refine wq_getf rfl e32x (hC7x.2 (25, 190) (by decide)) rfl ?_
    refine wq_gos (f := 1) (pc2 := 43) (ls2 := [(2, .int 1), (0, .ref 162), (1, .int 0)]) (st2 := [.int 1, .ref 190, .int 7, .ref 192]) (h2 := h28x) (dc2 := 0) (ds2 := 0) 1 rfl ?_
    have e33x := (f30x.2 _ _ (wnc (by decide) wn0) (f24x.2 _ _ (wnc (by decide) wn0) e21x))
    refine wq_ialdk (k := 1) rfl e33x rfl rfl rfl ?_
    refine wq_iast rfl e29x rfl rfl ?_
    intro h34x e35x f36x l37x
    have e35x : zat h34x 192 = some (.inl (0, 252, (zset 0 (zset 0 (zset 0 (zset 0 ke 0 (nw.getD 0 0)) 6 (ai.getD 0 0)) 1 (nw.getD 1 0)) 7 (ai.getD 1 0)))) := e35x
    refine wq_gos (f := 1) (pc2 := 9) (ls2 := [(2, .int 2), (0, .ref 162), (1, .int 0)]) (st2 := [.ref 162]) (h2 := h34x) (dc2 := 0) (ds2 := 0) 6 rfl ?_
    have e38x := (f36x.2 _ _ (wnc (by decide) wn0) e32x)
    refine wq_getf rfl e38x (hC7x.2 (26, 192) (by decide)) rfl ?_
    refine wq_gos (f := 1) (pc2 := 19) (ls2 := [(2, .int 2), (0, .ref 162), (1, .int 0)]) (st2 := [.ref 162, .int 2, .ref 192]) (h2 := h34x) (dc2 := 0) (ds2 := 0) 6 rfl ?_
    refine wq_getf rfl e38x (hC7x.2 (24, 188) (by decide)) rfl ?_
    refine wq_gos (f := 1) (pc2 := 23) (ls2 := [(2, .int 2), (0, .ref 162), (1, .int 0)]) (st2 := [.int 2, .ref 188, .int 2, .ref 192]) (h2 := h34x) (dc2 := 0) (ds2 := 0) 1 rfl ?_
    have e39x := (f36x.2 _ _ (wnc (by decide) wn0) (f30x.2 _ _ (wnc (by decide) wn0) e27x))
    refine wq_ialdk (k := 2) rfl e39x rfl rfl rfl ?_
    refine wq_iast rfl e35x rfl rfl ?_
    intro h40x e41x f42x l43x
    have e41x : zat h40x 192 = some (.inl (0, 252, (zset 0 (zset 0 (zset 0 (zset 0 (zset 0 ke 0 (nw.getD 0 0)) 6 (ai.getD 0 0)) 1 (nw.getD 1 0)) 7 (ai.getD 1 0)) 2 (nw.getD 2 0)))) := e41x
    refine wq_gos (f := 1) (pc2 := 26) (ls2 := [(2, .int 2), (0, .ref 162), (1, .int 0)]) (st2 := [.ref 162]) (h2 := h40x) (dc2 := 0) (ds2 := 0) 1 rfl ?_
    have e44x := (f42x.2 _ _ (wnc (by decide) wn0) e38x)
    refine wq_getf rfl e44x (hC7x.2 (26, 192) (by decide)) rfl ?_
    refine wq_gos (f := 1) (pc2 := 39) (ls2 := [(2, .int 2), (0, .ref 162), (1, .int 0)]) (st2 := [.ref 162, .int 8, .ref 192]) (h2 := h40x) (dc2 := 0) (ds2 := 0) 8 rfl ?_
    refine wq_getf rfl e44x (hC7x.2 (25, 190) (by decide)) rfl ?_
    refine wq_gos (f := 1) (pc2 := 43) (ls2 := [(2, .int 2), (0, .ref 162), (1, .int 0)]) (st2 := [.int 2, .ref 190, .int 8, .ref 192]) (h2 := h40x) (dc2 := 0) (ds2 := 0) 1 rfl ?_
    have e45x := (f42x.2 _ _ (wnc (by decide) wn0) (f36x.2 _ _ (wnc (by decide) wn0) e33x))
    refine wq_ialdk (k := 2) rfl e45x rfl rfl rfl ?_
    refine wq_iast rfl e41x rfl rfl ?_
    intro h46x e47x f48x l49x
    have e47x : zat h46x 192 = some (.inl (0, 252, (zset 0 (zset 0 (zset 0 (zset 0 (zset 0 (zset 0 ke 0 (nw.getD 0 0)) 6 (ai.getD 0 0)) 1 (nw.getD 1 0)) 7 (ai.getD 1 0)) 2 (nw.getD 2 0)) 8 (ai.getD 2 0)))) := e47x
    refine wq_gos (f := 1) (pc2 := 9) (ls2 := [(2, .int 3), (0, .ref 162), (1, .int 0)]) (st2 := [.ref 162]) (h2 := h46x) (dc2 := 0) (ds2 := 0) 6 rfl ?_
    have e50x := (f48x.2 _ _ (wnc (by decide) wn0) e44x)
    refine wq_getf rfl e50x (hC7x.2 (26, 192) (by decide)) rfl ?_
    refine wq_gos (f := 1) (pc2 := 19) (ls2 := [(2, .int 3), (0, .ref 162), (1, .int 0)]) (st2 := [.ref 162, .int 3, .ref 192]) (h2 := h46x) (dc2 := 0) (ds2 := 0) 6 rfl ?_
    refine wq_getf rfl e50x (hC7x.2 (24, 188) (by decide)) rfl ?_
    refine wq_gos (f := 1) (pc2 := 23) (ls2 := [(2, .int 3), (0, .ref 162), (1, .int 0)]) (st2 := [.int 3, .ref 188, .int 3, .ref 192]) (h2 := h46x) (dc2 := 0) (ds2 := 0) 1 rfl ?_
    have e51x := (f48x.2 _ _ (wnc (by decide) wn0) (f42x.2 _ _ (wnc (by decide) wn0) e39x))
    refine wq_ialdk (k := 3) rfl e51x rfl rfl rfl ?_
    refine wq_iast rfl e47x rfl rfl ?_
    intro h52x e53x f54x l55x
    have e53x : zat h52x 192 = some (.inl (0, 252, (zset 0 (zset 0 (zset 0 (zset 0 (zset 0 (zset 0 (zset 0 ke 0 (nw.getD 0 0)) 6 (ai.getD 0 0)) 1 (nw.getD 1 0)) 7 (ai.getD 1 0)) 2 (nw.getD 2 0)) 8 (ai.getD 2 0)) 3 (nw.getD 3 0)))) := e53x
    refine wq_gos (f := 1) (pc2 := 26) (ls2 := [(2, .int 3), (0, .ref 162), (1, .int 0)]) (st2 := [.ref 162]) (h2 := h52x) (dc2 := 0) (ds2 := 0) 1 rfl ?_
    have e56x := (f54x.2 _ _ (wnc (by decide) wn0) e50x)
    refine wq_getf rfl e56x (hC7x.2 (26, 192) (by decide)) rfl ?_
    refine wq_gos (f := 1) (pc2 := 39) (ls2 := [(2, .int 3), (0, .ref 162), (1, .int 0)]) (st2 := [.ref 162, .int 9, .ref 192]) (h2 := h52x) (dc2 := 0) (ds2 := 0) 8 rfl ?_
    refine wq_getf rfl e56x (hC7x.2 (25, 190) (by decide)) rfl ?_
    refine wq_gos (f := 1) (pc2 := 43) (ls2 := [(2, .int 3), (0, .ref 162), (1, .int 0)]) (st2 := [.int 3, .ref 190, .int 9, .ref 192]) (h2 := h52x) (dc2 := 0) (ds2 := 0) 1 rfl ?_
    have e57x := (f54x.2 _ _ (wnc (by decide) wn0) (f48x.2 _ _ (wnc (by decide) wn0) e45x))
    refine wq_ialdk (k := 3) rfl e57x rfl rfl rfl ?_
    refine wq_iast rfl e53x rfl rfl ?_
    intro h58x e59x f60x l61x
    have e59x : zat h58x 192 = some (.inl (0, 252, (zset 0 (zset 0 (zset 0 (zset 0 (zset 0 (zset 0 (zset 0 (zset 0 ke 0 (nw.getD 0 0)) 6 (ai.getD 0 0)) 1 (nw.getD 1 0)) 7 (ai.getD 1 0)) 2 (nw.getD 2 0)) 8 (ai.getD 2 0)) 3 (nw.getD 3 0)) 9 (ai.getD 3 0)))) := e59x
    refine wq_gos (f := 1) (pc2 := 9) (ls2 := [(2, .int 4), (0, .ref 162), (1, .int 0)]) (st2 := [.ref 162]) (h2 := h58x) (dc2 := 0) (ds2 := 0) 6 rfl ?_
    have e62x := (f60x.2 _ _ (wnc (by decide) wn0) e56x)
    refine wq_getf rfl e62x (hC7x.2 (26, 192) (by decide)) rfl ?_
    refine wq_gos (f := 1) (pc2 := 19) (ls2 := [(2, .int 4), (0, .ref 162), (1, .int 0)]) (st2 := [.ref 162, .int 4, .ref 192]) (h2 := h58x) (dc2 := 0) (ds2 := 0) 6 rfl ?_
    refine wq_getf rfl e62x (hC7x.2 (24, 188) (by decide)) rfl ?_
    refine wq_gos (f := 1) (pc2 := 23) (ls2 := [(2, .int 4), (0, .ref 162), (1, .int 0)]) (st2 := [.int 4, .ref 188, .int 4, .ref 192]) (h2 := h58x) (dc2 := 0) (ds2 := 0) 1 rfl ?_
    have e63x := (f60x.2 _ _ (wnc (by decide) wn0) (f54x.2 _ _ (wnc (by decide) wn0) e51x))
    refine wq_ialdk (k := 4) rfl e63x rfl rfl rfl ?_
    refine wq_iast rfl e59x rfl rfl ?_
    intro h64x e65x f66x l67x
    have e65x : zat h64x 192 = some (.inl (0, 252, (zset 0 (zset 0 (zset 0 (zset 0 (zset 0 (zset 0 (zset 0 (zset 0 (zset 0 ke 0 (nw.getD 0 0)) 6 (ai.getD 0 0)) 1 (nw.getD 1 0)) 7 (ai.getD 1 0)) 2 (nw.getD 2 0)) 8 (ai.getD 2 0)) 3 (nw.getD 3 0)) 9 (ai.getD 3 0)) 4 (nw.getD 4 0)))) := e65x
    refine wq_gos (f := 1) (pc2 := 26) (ls2 := [(2, .int 4), (0, .ref 162), (1, .int 0)]) (st2 := [.ref 162]) (h2 := h64x) (dc2 := 0) (ds2 := 0) 1 rfl ?_
    have e68x := (f66x.2 _ _ (wnc (by decide) wn0) e62x)
    refine wq_getf rfl e68x (hC7x.2 (26, 192) (by decide)) rfl ?_
    refine wq_gos (f := 1) (pc2 := 39) (ls2 := [(2, .int 4), (0, .ref 162), (1, .int 0)]) (st2 := [.ref 162, .int 10, .ref 192]) (h2 := h64x) (dc2 := 0) (ds2 := 0) 8 rfl ?_
    refine wq_getf rfl e68x (hC7x.2 (25, 190) (by decide)) rfl ?_
    refine wq_gos (f := 1) (pc2 := 43) (ls2 := [(2, .int 4), (0, .ref 162), (1, .int 0)]) (st2 := [.int 4, .ref 190, .int 10, .ref 192]) (h2 := h64x) (dc2 := 0) (ds2 := 0) 1 rfl ?_
    have e69x := (f66x.2 _ _ (wnc (by decide) wn0) (f60x.2 _ _ (wnc (by decide) wn0) e57x))
    refine wq_ialdk (k := 4) rfl e69x rfl rfl rfl ?_
    refine wq_iast rfl e65x rfl rfl ?_
    intro h70x e71x f72x l73x
    have e71x : zat h70x 192 = some (.inl (0, 252, (zset 0 (zset 0 (zset 0 (zset 0 (zset 0 (zset 0 (zset 0 (zset 0 (zset 0 (zset 0 ke 0 (nw.getD 0 0)) 6 (ai.getD 0 0)) 1 (nw.getD 1 0)) 7 (ai.getD 1 0)) 2 (nw.getD 2 0)) 8 (ai.getD 2 0)) 3 (nw.getD 3 0)) 9 (ai.getD 3 0)) 4 (nw.getD 4 0)) 10 (ai.getD 4 0)))) := e71x
    refine wq_gos (f := 1) (pc2 := 9) (ls2 := [(2, .int 5), (0, .ref 162), (1, .int 0)]) (st2 := [.ref 162]) (h2 := h70x) (dc2 := 0) (ds2 := 0) 6 rfl ?_
    have e74x := (f72x.2 _ _ (wnc (by decide) wn0) e68x)
    refine wq_getf rfl e74x (hC7x.2 (26, 192) (by decide)) rfl ?_
    refine wq_gos (f := 1) (pc2 := 19) (ls2 := [(2, .int 5), (0, .ref 162), (1, .int 0)]) (st2 := [.ref 162, .int 5, .ref 192]) (h2 := h70x) (dc2 := 0) (ds2 := 0) 6 rfl ?_
    refine wq_getf rfl e74x (hC7x.2 (24, 188) (by decide)) rfl ?_
    refine wq_gos (f := 1) (pc2 := 23) (ls2 := [(2, .int 5), (0, .ref 162), (1, .int 0)]) (st2 := [.int 5, .ref 188, .int 5, .ref 192]) (h2 := h70x) (dc2 := 0) (ds2 := 0) 1 rfl ?_
    have e75x := (f72x.2 _ _ (wnc (by decide) wn0) (f66x.2 _ _ (wnc (by decide) wn0) e63x))
    refine wq_ialdk (k := 5) rfl e75x rfl rfl rfl ?_
    refine wq_iast rfl e71x rfl rfl ?_
    intro h76x e77x f78x l79x
    have e77x : zat h76x 192 = some (.inl (0, 252, (zset 0 (zset 0 (zset 0 (zset 0 (zset 0 (zset 0 (zset 0 (zset 0 (zset 0 (zset 0 (zset 0 ke 0 (nw.getD 0 0)) 6 (ai.getD 0 0)) 1 (nw.getD 1 0)) 7 (ai.getD 1 0)) 2 (nw.getD 2 0)) 8 (ai.getD 2 0)) 3 (nw.getD 3 0)) 9 (ai.getD 3 0)) 4 (nw.getD 4 0)) 10 (ai.getD 4 0)) 5 (nw.getD 5 0)))) := e77x
    refine wq_gos (f := 1) (pc2 := 26) (ls2 := [(2, .int 5), (0, .ref 162), (1, .int 0)]) (st2 := [.ref 162]) (h2 := h76x) (dc2 := 0) (ds2 := 0) 1 rfl ?_
    have e80x := (f78x.2 _ _ (wnc (by decide) wn0) e74x)
    refine wq_getf rfl e80x (hC7x.2 (26, 192) (by decide)) rfl ?_
    refine wq_gos (f := 1) (pc2 := 39) (ls2 := [(2, .int 5), (0, .ref 162), (1, .int 0)]) (st2 := [.ref 162, .int 11, .ref 192]) (h2 := h76x) (dc2 := 0) (ds2 := 0) 8 rfl ?_
    refine wq_getf rfl e80x (hC7x.2 (25, 190) (by decide)) rfl ?_
    refine wq_gos (f := 1) (pc2 := 43) (ls2 := [(2, .int 5), (0, .ref 162), (1, .int 0)]) (st2 := [.int 5, .ref 190, .int 11, .ref 192]) (h2 := h76x) (dc2 := 0) (ds2 := 0) 1 rfl ?_
    have e81x := (f78x.2 _ _ (wnc (by decide) wn0) (f72x.2 _ _ (wnc (by decide) wn0) e69x))
    refine wq_ialdk (k := 5) rfl e81x rfl rfl rfl ?_
    refine wq_iast rfl e77x rfl rfl ?_
    intro h82x e83x f84x l85x
    have e83x : zat h82x 192 = some (.inl (0, 252, (zset 0 (zset 0 (zset 0 (zset 0 (zset 0 (zset 0 (zset 0 (zset 0 (zset 0 (zset 0 (zset 0 (zset 0 ke 0 (nw.getD 0 0)) 6 (ai.getD 0 0)) 1 (nw.getD 1 0)) 7 (ai.getD 1 0)) 2 (nw.getD 2 0)) 8 (ai.getD 2 0)) 3 (nw.getD 3 0)) 9 (ai.getD 3 0)) 4 (nw.getD 4 0)) 10 (ai.getD 4 0)) 5 (nw.getD 5 0)) 11 (ai.getD 5 0)))) := e83x
    refine wq_gos (f := 1) (pc2 := 51) (ls2 := [(2, .int 6), (0, .ref 162), (1, .int 0)]) (st2 := []) (h2 := h82x) (dc2 := 0) (ds2 := 0) 5 rfl ?_
    refine wq_ret rfl rfl ?_
    show wq 191 57 [(0, .ref 162)] [] h82x 0 0 _
    refine wq_gos (f := 1) (pc2 := 59) (ls2 := [(0, .ref 162)]) (st2 := [.ref 162, .ref 162]) (h2 := h82x) (dc2 := 0) (ds2 := 0) 2 rfl ?_
    have e86x := (f84x.2 _ _ (wnc (by decide) wn0) e80x)
    refine wq_getf rfl e86x p8x rfl ?_
    refine wq_gos (f := 1) (pc2 := 64) (ls2 := [(0, .ref 162)]) (st2 := [.int 1, .ref 162]) (h2 := h82x) (dc2 := 0) (ds2 := 0) 2 rfl ?_
    refine wq_putf rfl e86x rfl (by rw [hC7x.1]; rfl) rfl ?_
    intro h87x e88x f89x l90x
    obtain ⟨fs91x, hf92x⟩ : ∃ x, x = fs5x.set 27 (.int 1) := ⟨_, rfl⟩
    rw [← hf92x] at e88x
    have hC93x : mC fs91x := by rw [hf92x]; exact mC_set hC7x (by decide) _
    have p94x : fs91x[0]? = some (.int 0) := by rw [hf92x, List.getElem?_set_ne (by decide)]; exact p9x
    have p95x : fs91x[27]? = some (.int 1) := by rw [hf92x]; exact List.getElem?_set_self (by rw [hC7x.1]; decide)
    refine wq_ret rfl rfl ?_
    show wq 212 27 [(0, .ref 162), (1, .int 1), (2, .int v)] [] h87x 0 0 _
    refine wq_gos (f := 1) (pc2 := 28) (ls2 := [(0, .ref 162), (1, .int 1), (2, .int v)]) (st2 := [.ref 162]) (h2 := h87x) (dc2 := 0) (ds2 := 0) 1 rfl ?_
    refine wq_getf rfl e88x (hC93x.2 (24, 188) (by decide)) rfl ?_
    refine wq_gos (f := 1) (pc2 := 33) (ls2 := [(0, .ref 162), (1, .int 1), (2, .int v)]) (st2 := [.int v, .int 1, .ref 188]) (h2 := h87x) (dc2 := 0) (ds2 := 0) 2 rfl ?_
    have e96x := (f89x.2 _ _ (wnc (by decide) wn0) (f84x.2 _ _ (wnc (by decide) wn0) (f78x.2 _ _ (wnc (by decide) wn0) e75x)))
    refine wq_iast rfl e96x rfl rfl ?_
    intro h97x e98x f99x l100x
    have e98x : zat h97x 188 = some (.inl (0, 6, (zset 0 nw 1 v))) := e98x
    refine wq_gos (f := 1) (pc2 := 35) (ls2 := [(0, .ref 162), (1, .int 1), (2, .int v)]) (st2 := [.ref 162]) (h2 := h97x) (dc2 := 0) (ds2 := 0) 1 rfl ?_
    have e101x := (f99x.2 _ _ (wnc (by decide) wn0) e88x)
    refine wq_inlv (y2 := 242) (as := []) rfl rfl rfl e101x rfl ?_
    show wq 242 0 [(0, .ref 162)] [] h97x 0 0 _
    refine wq_gos (f := 1) (pc2 := 2) (ls2 := [(0, .ref 162)]) (st2 := [.int 0, .ref 162]) (h2 := h97x) (dc2 := 0) (ds2 := 0) 2 rfl ?_
    refine wq_putf rfl e101x rfl (by rw [hC93x.1]; rfl) rfl ?_
    intro h102x e103x f104x l105x
    obtain ⟨fs106x, hf107x⟩ : ∃ x, x = fs91x.set 33 (.int 0) := ⟨_, rfl⟩
    rw [← hf107x] at e103x
    have hC108x : mC fs106x := by rw [hf107x]; exact mC_set hC93x (by decide) _
    have p109x : fs106x[0]? = some (.int 0) := by rw [hf107x, List.getElem?_set_ne (by decide)]; exact p94x
    have p110x : fs106x[27]? = some (.int 1) := by rw [hf107x, List.getElem?_set_ne (by decide)]; exact p95x
    have p111x : fs106x[33]? = some (.int 0) := by rw [hf107x]; exact List.getElem?_set_self (by rw [hC93x.1]; decide)
    refine wq_gos (f := 1) (pc2 := 6) (ls2 := [(0, .ref 162)]) (st2 := [.ref 162]) (h2 := h102x) (dc2 := 0) (ds2 := 0) 1 rfl ?_
    refine wq_getf rfl e103x (hC108x.2 (43, 212) (by decide)) rfl ?_
    refine wq_gos (f := 1) (pc2 := 11) (ls2 := [(0, .ref 162)]) (st2 := [.int 0, .int 0, .ref 212]) (h2 := h102x) (dc2 := 0) (ds2 := 0) 2 rfl ?_
    have e112x := (f104x.2 _ _ (wnc (by decide) wn0) (f99x.2 _ _ (wnc (by decide) wn0) (f89x.2 _ _ (wnc (by decide) wn0) (f84x.2 _ _ (wnc (by decide) wn0) (f78x.2 _ _ (wnc (by decide) wn0) (f72x.2 _ _ (wnc (by decide) wn0) (f66x.2 _ _ (wnc (by decide) wn0) (f60x.2 _ _ (wnc (by decide) wn0) (f54x.2 _ _ (wnc (by decide) wn0) (f48x.2 _ _ (wnc (by decide) wn0) (f42x.2 _ _ (wnc (by decide) wn0) (f36x.2 _ _ (wnc (by decide) wn0) (f30x.2 _ _ (wnc (by decide) wn0) (f24x.2 _ _ (wnc (by decide) wn0) (f18x.2 _ _ (wnc (by decide) wn0) (f3x.2 _ _ (wnc (by decide) wn0) hHr))))))))))))))))
    refine wq_zast rfl e112x rfl rfl ?_
    intro h113x e114x f115x l116x
    have e114x : zat h113x 212 = some (.inl (2, 2, (zset 0 hr 0 (vp_nar .boolean (0 : Int32))))) := e114x
    refine wq_gos (f := 1) (pc2 := 13) (ls2 := [(0, .ref 162)]) (st2 := [.ref 162]) (h2 := h113x) (dc2 := 0) (ds2 := 0) 1 rfl ?_
    have e117x := (f115x.2 _ _ (wnc (by decide) wn0) e103x)
    refine wq_getf rfl e117x (hC108x.2 (43, 212) (by decide)) rfl ?_
    refine wq_gos (f := 1) (pc2 := 18) (ls2 := [(0, .ref 162)]) (st2 := [.int 0, .int 1, .ref 212]) (h2 := h113x) (dc2 := 0) (ds2 := 0) 2 rfl ?_
    refine wq_zast rfl e114x rfl rfl ?_
    intro h118x e119x f120x l121x
    have e119x : zat h118x 212 = some (.inl (2, 2, (zset 0 (zset 0 hr 0 (vp_nar .boolean (0 : Int32))) 1 (vp_nar .boolean (0 : Int32))))) := e119x
    refine wq_ret rfl rfl ?_
    show wq 212 38 [(0, .ref 162), (1, .int 1), (2, .int v)] [] h118x 0 0 _
    refine wq_gos (f := 1) (pc2 := 39) (ls2 := [(0, .ref 162), (1, .int 1), (2, .int v)]) (st2 := [.int 1]) (h2 := h118x) (dc2 := 0) (ds2 := 0) 1 rfl ?_
    exact wq_ret rfl rfl ⟨h118x, rfl⟩
set_option maxHeartbeats 4000000 in
theorem m_set2 {h : zH} {fs : List Value} {kn lo hi : List Int32} {nw ai ke hr : List Int32} (hM : zat h 162 = some (.inr (.inr (.inr (10, fs))))) (hC : mC fs) (hK : zat h 166 = some (.inl (0, 14, kn))) (hO : zat h 168 = some (.inl (0, 12, lo))) (hG : zat h 170 = some (.inl (0, 12, hi))) (h27 : fs[27]? = some (.int 0)) (hNw : zat h 188 = some (.inl (0, 6, nw))) (hAi : zat h 190 = some (.inl (0, 6, ai))) (hKe : zat h 192 = some (.inl (0, 252, ke))) (hHr : zat h 212 = some (.inl (2, 2, hr))) (v : Int32) (hal : jallow lo hi 2 v = true) : wq 212 0 [(0, .ref 162), (1, .int 2), (2, .int v)] [] h 0 0 (fun r => ∃ h2, r = (some (.int 1), h2, 0, 0)) := by
  refine wq_gos (f := 1) (pc2 := 2) (ls2 := [(0, .ref 162), (1, .int 2), (2, .int v)]) (st2 := [.int 0, .ref 162]) (h2 := h) (dc2 := 0) (ds2 := 0) 2 rfl ?_
  refine wq_putf rfl hM rfl (by rw [hC.1]; rfl) rfl ?_
  intro h1x e2x f3x l4x
  obtain ⟨fs5x, hf6x⟩ : ∃ x, x = fs.set 0 (.int 0) := ⟨_, rfl⟩
  rw [← hf6x] at e2x
  have hC7x : mC fs5x := by rw [hf6x]; exact mC_set hC (by decide) _
  have p8x : fs5x[27]? = some (.int 0) := by rw [hf6x, List.getElem?_set_ne (by decide)]; exact h27
  have p9x : fs5x[0]? = some (.int 0) := by rw [hf6x]; exact List.getElem?_set_self (by rw [hC.1]; decide)
  refine wq_gos (f := 1) (pc2 := 6) (ls2 := [(0, .ref 162), (1, .int 2), (2, .int v)]) (st2 := [.int 2]) (h2 := h1x) (dc2 := 0) (ds2 := 0) 1 rfl ?_
  refine wq_inl (y2 := 208) (as := [.int 2]) rfl rfl rfl ?_
  show wq 208 0 [(0, .int 2)] [] h1x 0 0 _
  refine wq_gos (f := 1) (pc2 := 15) (ls2 := [(0, .int 2)]) (st2 := [.int 1]) (h2 := h1x) (dc2 := 0) (ds2 := 0) 7 rfl ?_
  refine wq_ret rfl rfl ?_
  show wq 212 9 [(0, .ref 162), (1, .int 2), (2, .int v)] [.int 1] h1x 0 0 _
  refine wq_gos (f := 1) (pc2 := 15) (ls2 := [(0, .ref 162), (1, .int 2), (2, .int v)]) (st2 := [.int v, .int 2, .ref 162]) (h2 := h1x) (dc2 := 0) (ds2 := 0) 4 rfl ?_
  have e10x := (f3x.2 _ _ (wnc (by decide) wn0) hK)
  have e11x := (f3x.2 _ _ (wnc (by decide) wn0) hO)
  have e12x := (f3x.2 _ _ (wnc (by decide) wn0) hG)
  cases q13x : jallow lo hi (2 : Int32) v with
  | false =>
    refine wq_inlv (y2 := 207) (as := [.int 2, .int v]) rfl rfl rfl e2x rfl (wq_T (show zT zg0 zF zP 207 0 [(0, .ref 162), (1, .int 2), (2, .int v)] [] h1x 0 0 (some (.int 0), h1x, 0, 0) from by have q9 := c_within e2x (hC7x.2 (3, 166) (by decide)) (hC7x.2 (4, 168) (by decide)) (hC7x.2 (5, 170) (by decide)) e10x e11x e12x (j := (2 : Int32)) rfl v; rw [q13x] at q9; exact q9) ?_)
    show wq 212 18 [(0, .ref 162), (1, .int 2), (2, .int v)] [.int 0] h1x 0 0 _
    refine wq_gos (f := 1) (pc2 := 22) (ls2 := [(0, .ref 162), (1, .int 2), (2, .int v)]) (st2 := [.int 0]) (h2 := h1x) (dc2 := 0) (ds2 := 0) 2 rfl ?_
    exfalso; rw [hal] at q13x; exact absurd q13x (by decide)
  | true =>
    refine wq_inlv (y2 := 207) (as := [.int 2, .int v]) rfl rfl rfl e2x rfl (wq_T (show zT zg0 zF zP 207 0 [(0, .ref 162), (1, .int 2), (2, .int v)] [] h1x 0 0 (some (.int 1), h1x, 0, 0) from by have q9 := c_within e2x (hC7x.2 (3, 166) (by decide)) (hC7x.2 (4, 168) (by decide)) (hC7x.2 (5, 170) (by decide)) e10x e11x e12x (j := (2 : Int32)) rfl v; rw [q13x] at q9; exact q9) ?_)
    show wq 212 18 [(0, .ref 162), (1, .int 2), (2, .int v)] [.int 1] h1x 0 0 _
    refine wq_gos (f := 1) (pc2 := 24) (ls2 := [(0, .ref 162), (1, .int 2), (2, .int v)]) (st2 := [.ref 162]) (h2 := h1x) (dc2 := 0) (ds2 := 0) 2 rfl ?_
    refine wq_inlv (y2 := 191) (as := []) rfl rfl rfl e2x rfl ?_
    show wq 191 0 [(0, .ref 162)] [] h1x 0 0 _
    refine wq_gos (f := 1) (pc2 := 1) (ls2 := [(0, .ref 162)]) (st2 := [.ref 162]) (h2 := h1x) (dc2 := 0) (ds2 := 0) 1 rfl ?_
    refine wq_getf rfl e2x p8x rfl ?_
    refine wq_gos (f := 1) (pc2 := 51) (ls2 := [(0, .ref 162)]) (st2 := [.ref 162, .ref 162]) (h2 := h1x) (dc2 := 0) (ds2 := 0) 4 rfl ?_
    refine wq_getf rfl e2x p8x rfl ?_
    refine wq_inlv (y2 := 189) (as := [.int 0]) rfl rfl rfl e2x rfl ?_
    show wq 189 0 [(0, .ref 162), (1, .int 0)] [] h1x 0 0 _
    refine wq_gos (f := 1) (pc2 := 9) (ls2 := [(2, .int 0), (0, .ref 162), (1, .int 0)]) (st2 := [.ref 162]) (h2 := h1x) (dc2 := 0) (ds2 := 0) 6 rfl ?_
    refine wq_getf rfl e2x (hC7x.2 (26, 192) (by decide)) rfl ?_
    refine wq_gos (f := 1) (pc2 := 19) (ls2 := [(2, .int 0), (0, .ref 162), (1, .int 0)]) (st2 := [.ref 162, .int 0, .ref 192]) (h2 := h1x) (dc2 := 0) (ds2 := 0) 6 rfl ?_
    refine wq_getf rfl e2x (hC7x.2 (24, 188) (by decide)) rfl ?_
    refine wq_gos (f := 1) (pc2 := 23) (ls2 := [(2, .int 0), (0, .ref 162), (1, .int 0)]) (st2 := [.int 0, .ref 188, .int 0, .ref 192]) (h2 := h1x) (dc2 := 0) (ds2 := 0) 1 rfl ?_
    have e14x := (f3x.2 _ _ (wnc (by decide) wn0) hNw)
    refine wq_ialdk (k := 0) rfl e14x rfl rfl rfl ?_
    have e15x := (f3x.2 _ _ (wnc (by decide) wn0) hKe)
    refine wq_iast rfl e15x rfl rfl ?_
    intro h16x e17x f18x l19x
    have e17x : zat h16x 192 = some (.inl (0, 252, (zset 0 ke 0 (nw.getD 0 0)))) := e17x
    refine wq_gos (f := 1) (pc2 := 26) (ls2 := [(2, .int 0), (0, .ref 162), (1, .int 0)]) (st2 := [.ref 162]) (h2 := h16x) (dc2 := 0) (ds2 := 0) 1 rfl ?_
    have e20x := (f18x.2 _ _ (wnc (by decide) wn0) e2x)
    refine wq_getf rfl e20x (hC7x.2 (26, 192) (by decide)) rfl ?_
    refine wq_gos (f := 1) (pc2 := 39) (ls2 := [(2, .int 0), (0, .ref 162), (1, .int 0)]) (st2 := [.ref 162, .int 6, .ref 192]) (h2 := h16x) (dc2 := 0) (ds2 := 0) 8 rfl ?_
    refine wq_getf rfl e20x (hC7x.2 (25, 190) (by decide)) rfl ?_
    refine wq_gos (f := 1) (pc2 := 43) (ls2 := [(2, .int 0), (0, .ref 162), (1, .int 0)]) (st2 := [.int 0, .ref 190, .int 6, .ref 192]) (h2 := h16x) (dc2 := 0) (ds2 := 0) 1 rfl ?_
    have e21x := (f18x.2 _ _ (wnc (by decide) wn0) (f3x.2 _ _ (wnc (by decide) wn0) hAi))
    refine wq_ialdk (k := 0) rfl e21x rfl rfl rfl ?_
    refine wq_iast rfl e17x rfl rfl ?_
    intro h22x e23x f24x l25x
    have e23x : zat h22x 192 = some (.inl (0, 252, (zset 0 (zset 0 ke 0 (nw.getD 0 0)) 6 (ai.getD 0 0)))) := e23x
    refine wq_gos (f := 1) (pc2 := 9) (ls2 := [(2, .int 1), (0, .ref 162), (1, .int 0)]) (st2 := [.ref 162]) (h2 := h22x) (dc2 := 0) (ds2 := 0) 6 rfl ?_
    have e26x := (f24x.2 _ _ (wnc (by decide) wn0) e20x)
    refine wq_getf rfl e26x (hC7x.2 (26, 192) (by decide)) rfl ?_
    refine wq_gos (f := 1) (pc2 := 19) (ls2 := [(2, .int 1), (0, .ref 162), (1, .int 0)]) (st2 := [.ref 162, .int 1, .ref 192]) (h2 := h22x) (dc2 := 0) (ds2 := 0) 6 rfl ?_
    refine wq_getf rfl e26x (hC7x.2 (24, 188) (by decide)) rfl ?_
    refine wq_gos (f := 1) (pc2 := 23) (ls2 := [(2, .int 1), (0, .ref 162), (1, .int 0)]) (st2 := [.int 1, .ref 188, .int 1, .ref 192]) (h2 := h22x) (dc2 := 0) (ds2 := 0) 1 rfl ?_
    have e27x := (f24x.2 _ _ (wnc (by decide) wn0) (f18x.2 _ _ (wnc (by decide) wn0) e14x))
    refine wq_ialdk (k := 1) rfl e27x rfl rfl rfl ?_
    refine wq_iast rfl e23x rfl rfl ?_
    intro h28x e29x f30x l31x
    have e29x : zat h28x 192 = some (.inl (0, 252, (zset 0 (zset 0 (zset 0 ke 0 (nw.getD 0 0)) 6 (ai.getD 0 0)) 1 (nw.getD 1 0)))) := e29x
    refine wq_gos (f := 1) (pc2 := 26) (ls2 := [(2, .int 1), (0, .ref 162), (1, .int 0)]) (st2 := [.ref 162]) (h2 := h28x) (dc2 := 0) (ds2 := 0) 1 rfl ?_
    have e32x := (f30x.2 _ _ (wnc (by decide) wn0) e26x)
    refine wq_getf rfl e32x (hC7x.2 (26, 192) (by decide)) rfl ?_
    refine wq_gos (f := 1) (pc2 := 39) (ls2 := [(2, .int 1), (0, .ref 162), (1, .int 0)]) (st2 := [.ref 162, .int 7, .ref 192]) (h2 := h28x) (dc2 := 0) (ds2 := 0) 8 rfl ?_
    refine wq_getf rfl e32x (hC7x.2 (25, 190) (by decide)) rfl ?_
    refine wq_gos (f := 1) (pc2 := 43) (ls2 := [(2, .int 1), (0, .ref 162), (1, .int 0)]) (st2 := [.int 1, .ref 190, .int 7, .ref 192]) (h2 := h28x) (dc2 := 0) (ds2 := 0) 1 rfl ?_
    have e33x := (f30x.2 _ _ (wnc (by decide) wn0) (f24x.2 _ _ (wnc (by decide) wn0) e21x))
    refine wq_ialdk (k := 1) rfl e33x rfl rfl rfl ?_
    refine wq_iast rfl e29x rfl rfl ?_
    intro h34x e35x f36x l37x
    have e35x : zat h34x 192 = some (.inl (0, 252, (zset 0 (zset 0 (zset 0 (zset 0 ke 0 (nw.getD 0 0)) 6 (ai.getD 0 0)) 1 (nw.getD 1 0)) 7 (ai.getD 1 0)))) := e35x
    refine wq_gos (f := 1) (pc2 := 9) (ls2 := [(2, .int 2), (0, .ref 162), (1, .int 0)]) (st2 := [.ref 162]) (h2 := h34x) (dc2 := 0) (ds2 := 0) 6 rfl ?_
    have e38x := (f36x.2 _ _ (wnc (by decide) wn0) e32x)
    refine wq_getf rfl e38x (hC7x.2 (26, 192) (by decide)) rfl ?_
    refine wq_gos (f := 1) (pc2 := 19) (ls2 := [(2, .int 2), (0, .ref 162), (1, .int 0)]) (st2 := [.ref 162, .int 2, .ref 192]) (h2 := h34x) (dc2 := 0) (ds2 := 0) 6 rfl ?_
    refine wq_getf rfl e38x (hC7x.2 (24, 188) (by decide)) rfl ?_
    refine wq_gos (f := 1) (pc2 := 23) (ls2 := [(2, .int 2), (0, .ref 162), (1, .int 0)]) (st2 := [.int 2, .ref 188, .int 2, .ref 192]) (h2 := h34x) (dc2 := 0) (ds2 := 0) 1 rfl ?_
    have e39x := (f36x.2 _ _ (wnc (by decide) wn0) (f30x.2 _ _ (wnc (by decide) wn0) e27x))
    refine wq_ialdk (k := 2) rfl e39x rfl rfl rfl ?_
    refine wq_iast rfl e35x rfl rfl ?_
    intro h40x e41x f42x l43x
    have e41x : zat h40x 192 = some (.inl (0, 252, (zset 0 (zset 0 (zset 0 (zset 0 (zset 0 ke 0 (nw.getD 0 0)) 6 (ai.getD 0 0)) 1 (nw.getD 1 0)) 7 (ai.getD 1 0)) 2 (nw.getD 2 0)))) := e41x
    refine wq_gos (f := 1) (pc2 := 26) (ls2 := [(2, .int 2), (0, .ref 162), (1, .int 0)]) (st2 := [.ref 162]) (h2 := h40x) (dc2 := 0) (ds2 := 0) 1 rfl ?_
    have e44x := (f42x.2 _ _ (wnc (by decide) wn0) e38x)
    refine wq_getf rfl e44x (hC7x.2 (26, 192) (by decide)) rfl ?_
    refine wq_gos (f := 1) (pc2 := 39) (ls2 := [(2, .int 2), (0, .ref 162), (1, .int 0)]) (st2 := [.ref 162, .int 8, .ref 192]) (h2 := h40x) (dc2 := 0) (ds2 := 0) 8 rfl ?_
    refine wq_getf rfl e44x (hC7x.2 (25, 190) (by decide)) rfl ?_
    refine wq_gos (f := 1) (pc2 := 43) (ls2 := [(2, .int 2), (0, .ref 162), (1, .int 0)]) (st2 := [.int 2, .ref 190, .int 8, .ref 192]) (h2 := h40x) (dc2 := 0) (ds2 := 0) 1 rfl ?_
    have e45x := (f42x.2 _ _ (wnc (by decide) wn0) (f36x.2 _ _ (wnc (by decide) wn0) e33x))
    refine wq_ialdk (k := 2) rfl e45x rfl rfl rfl ?_
    refine wq_iast rfl e41x rfl rfl ?_
    intro h46x e47x f48x l49x
    have e47x : zat h46x 192 = some (.inl (0, 252, (zset 0 (zset 0 (zset 0 (zset 0 (zset 0 (zset 0 ke 0 (nw.getD 0 0)) 6 (ai.getD 0 0)) 1 (nw.getD 1 0)) 7 (ai.getD 1 0)) 2 (nw.getD 2 0)) 8 (ai.getD 2 0)))) := e47x
    refine wq_gos (f := 1) (pc2 := 9) (ls2 := [(2, .int 3), (0, .ref 162), (1, .int 0)]) (st2 := [.ref 162]) (h2 := h46x) (dc2 := 0) (ds2 := 0) 6 rfl ?_
    have e50x := (f48x.2 _ _ (wnc (by decide) wn0) e44x)
    refine wq_getf rfl e50x (hC7x.2 (26, 192) (by decide)) rfl ?_
    refine wq_gos (f := 1) (pc2 := 19) (ls2 := [(2, .int 3), (0, .ref 162), (1, .int 0)]) (st2 := [.ref 162, .int 3, .ref 192]) (h2 := h46x) (dc2 := 0) (ds2 := 0) 6 rfl ?_
    refine wq_getf rfl e50x (hC7x.2 (24, 188) (by decide)) rfl ?_
    refine wq_gos (f := 1) (pc2 := 23) (ls2 := [(2, .int 3), (0, .ref 162), (1, .int 0)]) (st2 := [.int 3, .ref 188, .int 3, .ref 192]) (h2 := h46x) (dc2 := 0) (ds2 := 0) 1 rfl ?_
    have e51x := (f48x.2 _ _ (wnc (by decide) wn0) (f42x.2 _ _ (wnc (by decide) wn0) e39x))
    refine wq_ialdk (k := 3) rfl e51x rfl rfl rfl ?_
    refine wq_iast rfl e47x rfl rfl ?_
    intro h52x e53x f54x l55x
    have e53x : zat h52x 192 = some (.inl (0, 252, (zset 0 (zset 0 (zset 0 (zset 0 (zset 0 (zset 0 (zset 0 ke 0 (nw.getD 0 0)) 6 (ai.getD 0 0)) 1 (nw.getD 1 0)) 7 (ai.getD 1 0)) 2 (nw.getD 2 0)) 8 (ai.getD 2 0)) 3 (nw.getD 3 0)))) := e53x
    refine wq_gos (f := 1) (pc2 := 26) (ls2 := [(2, .int 3), (0, .ref 162), (1, .int 0)]) (st2 := [.ref 162]) (h2 := h52x) (dc2 := 0) (ds2 := 0) 1 rfl ?_
    have e56x := (f54x.2 _ _ (wnc (by decide) wn0) e50x)
    refine wq_getf rfl e56x (hC7x.2 (26, 192) (by decide)) rfl ?_
    refine wq_gos (f := 1) (pc2 := 39) (ls2 := [(2, .int 3), (0, .ref 162), (1, .int 0)]) (st2 := [.ref 162, .int 9, .ref 192]) (h2 := h52x) (dc2 := 0) (ds2 := 0) 8 rfl ?_
    refine wq_getf rfl e56x (hC7x.2 (25, 190) (by decide)) rfl ?_
    refine wq_gos (f := 1) (pc2 := 43) (ls2 := [(2, .int 3), (0, .ref 162), (1, .int 0)]) (st2 := [.int 3, .ref 190, .int 9, .ref 192]) (h2 := h52x) (dc2 := 0) (ds2 := 0) 1 rfl ?_
    have e57x := (f54x.2 _ _ (wnc (by decide) wn0) (f48x.2 _ _ (wnc (by decide) wn0) e45x))
    refine wq_ialdk (k := 3) rfl e57x rfl rfl rfl ?_
    refine wq_iast rfl e53x rfl rfl ?_
    intro h58x e59x f60x l61x
    have e59x : zat h58x 192 = some (.inl (0, 252, (zset 0 (zset 0 (zset 0 (zset 0 (zset 0 (zset 0 (zset 0 (zset 0 ke 0 (nw.getD 0 0)) 6 (ai.getD 0 0)) 1 (nw.getD 1 0)) 7 (ai.getD 1 0)) 2 (nw.getD 2 0)) 8 (ai.getD 2 0)) 3 (nw.getD 3 0)) 9 (ai.getD 3 0)))) := e59x
    refine wq_gos (f := 1) (pc2 := 9) (ls2 := [(2, .int 4), (0, .ref 162), (1, .int 0)]) (st2 := [.ref 162]) (h2 := h58x) (dc2 := 0) (ds2 := 0) 6 rfl ?_
    have e62x := (f60x.2 _ _ (wnc (by decide) wn0) e56x)
    refine wq_getf rfl e62x (hC7x.2 (26, 192) (by decide)) rfl ?_
    refine wq_gos (f := 1) (pc2 := 19) (ls2 := [(2, .int 4), (0, .ref 162), (1, .int 0)]) (st2 := [.ref 162, .int 4, .ref 192]) (h2 := h58x) (dc2 := 0) (ds2 := 0) 6 rfl ?_
    refine wq_getf rfl e62x (hC7x.2 (24, 188) (by decide)) rfl ?_
    refine wq_gos (f := 1) (pc2 := 23) (ls2 := [(2, .int 4), (0, .ref 162), (1, .int 0)]) (st2 := [.int 4, .ref 188, .int 4, .ref 192]) (h2 := h58x) (dc2 := 0) (ds2 := 0) 1 rfl ?_
    have e63x := (f60x.2 _ _ (wnc (by decide) wn0) (f54x.2 _ _ (wnc (by decide) wn0) e51x))
    refine wq_ialdk (k := 4) rfl e63x rfl rfl rfl ?_
    refine wq_iast rfl e59x rfl rfl ?_
    intro h64x e65x f66x l67x
    have e65x : zat h64x 192 = some (.inl (0, 252, (zset 0 (zset 0 (zset 0 (zset 0 (zset 0 (zset 0 (zset 0 (zset 0 (zset 0 ke 0 (nw.getD 0 0)) 6 (ai.getD 0 0)) 1 (nw.getD 1 0)) 7 (ai.getD 1 0)) 2 (nw.getD 2 0)) 8 (ai.getD 2 0)) 3 (nw.getD 3 0)) 9 (ai.getD 3 0)) 4 (nw.getD 4 0)))) := e65x
    refine wq_gos (f := 1) (pc2 := 26) (ls2 := [(2, .int 4), (0, .ref 162), (1, .int 0)]) (st2 := [.ref 162]) (h2 := h64x) (dc2 := 0) (ds2 := 0) 1 rfl ?_
    have e68x := (f66x.2 _ _ (wnc (by decide) wn0) e62x)
    refine wq_getf rfl e68x (hC7x.2 (26, 192) (by decide)) rfl ?_
    refine wq_gos (f := 1) (pc2 := 39) (ls2 := [(2, .int 4), (0, .ref 162), (1, .int 0)]) (st2 := [.ref 162, .int 10, .ref 192]) (h2 := h64x) (dc2 := 0) (ds2 := 0) 8 rfl ?_
    refine wq_getf rfl e68x (hC7x.2 (25, 190) (by decide)) rfl ?_
    refine wq_gos (f := 1) (pc2 := 43) (ls2 := [(2, .int 4), (0, .ref 162), (1, .int 0)]) (st2 := [.int 4, .ref 190, .int 10, .ref 192]) (h2 := h64x) (dc2 := 0) (ds2 := 0) 1 rfl ?_
    have e69x := (f66x.2 _ _ (wnc (by decide) wn0) (f60x.2 _ _ (wnc (by decide) wn0) e57x))
    refine wq_ialdk (k := 4) rfl e69x rfl rfl rfl ?_
    refine wq_iast rfl e65x rfl rfl ?_
    intro h70x e71x f72x l73x
    have e71x : zat h70x 192 = some (.inl (0, 252, (zset 0 (zset 0 (zset 0 (zset 0 (zset 0 (zset 0 (zset 0 (zset 0 (zset 0 (zset 0 ke 0 (nw.getD 0 0)) 6 (ai.getD 0 0)) 1 (nw.getD 1 0)) 7 (ai.getD 1 0)) 2 (nw.getD 2 0)) 8 (ai.getD 2 0)) 3 (nw.getD 3 0)) 9 (ai.getD 3 0)) 4 (nw.getD 4 0)) 10 (ai.getD 4 0)))) := e71x
    refine wq_gos (f := 1) (pc2 := 9) (ls2 := [(2, .int 5), (0, .ref 162), (1, .int 0)]) (st2 := [.ref 162]) (h2 := h70x) (dc2 := 0) (ds2 := 0) 6 rfl ?_
    have e74x := (f72x.2 _ _ (wnc (by decide) wn0) e68x)
    refine wq_getf rfl e74x (hC7x.2 (26, 192) (by decide)) rfl ?_
    refine wq_gos (f := 1) (pc2 := 19) (ls2 := [(2, .int 5), (0, .ref 162), (1, .int 0)]) (st2 := [.ref 162, .int 5, .ref 192]) (h2 := h70x) (dc2 := 0) (ds2 := 0) 6 rfl ?_
    refine wq_getf rfl e74x (hC7x.2 (24, 188) (by decide)) rfl ?_
    refine wq_gos (f := 1) (pc2 := 23) (ls2 := [(2, .int 5), (0, .ref 162), (1, .int 0)]) (st2 := [.int 5, .ref 188, .int 5, .ref 192]) (h2 := h70x) (dc2 := 0) (ds2 := 0) 1 rfl ?_
    have e75x := (f72x.2 _ _ (wnc (by decide) wn0) (f66x.2 _ _ (wnc (by decide) wn0) e63x))
    refine wq_ialdk (k := 5) rfl e75x rfl rfl rfl ?_
    refine wq_iast rfl e71x rfl rfl ?_
    intro h76x e77x f78x l79x
    have e77x : zat h76x 192 = some (.inl (0, 252, (zset 0 (zset 0 (zset 0 (zset 0 (zset 0 (zset 0 (zset 0 (zset 0 (zset 0 (zset 0 (zset 0 ke 0 (nw.getD 0 0)) 6 (ai.getD 0 0)) 1 (nw.getD 1 0)) 7 (ai.getD 1 0)) 2 (nw.getD 2 0)) 8 (ai.getD 2 0)) 3 (nw.getD 3 0)) 9 (ai.getD 3 0)) 4 (nw.getD 4 0)) 10 (ai.getD 4 0)) 5 (nw.getD 5 0)))) := e77x
    refine wq_gos (f := 1) (pc2 := 26) (ls2 := [(2, .int 5), (0, .ref 162), (1, .int 0)]) (st2 := [.ref 162]) (h2 := h76x) (dc2 := 0) (ds2 := 0) 1 rfl ?_
    have e80x := (f78x.2 _ _ (wnc (by decide) wn0) e74x)
    refine wq_getf rfl e80x (hC7x.2 (26, 192) (by decide)) rfl ?_
    refine wq_gos (f := 1) (pc2 := 39) (ls2 := [(2, .int 5), (0, .ref 162), (1, .int 0)]) (st2 := [.ref 162, .int 11, .ref 192]) (h2 := h76x) (dc2 := 0) (ds2 := 0) 8 rfl ?_
    refine wq_getf rfl e80x (hC7x.2 (25, 190) (by decide)) rfl ?_
    refine wq_gos (f := 1) (pc2 := 43) (ls2 := [(2, .int 5), (0, .ref 162), (1, .int 0)]) (st2 := [.int 5, .ref 190, .int 11, .ref 192]) (h2 := h76x) (dc2 := 0) (ds2 := 0) 1 rfl ?_
    have e81x := (f78x.2 _ _ (wnc (by decide) wn0) (f72x.2 _ _ (wnc (by decide) wn0) e69x))
    refine wq_ialdk (k := 5) rfl e81x rfl rfl rfl ?_
    refine wq_iast rfl e77x rfl rfl ?_
    intro h82x e83x f84x l85x
    have e83x : zat h82x 192 = some (.inl (0, 252, (zset 0 (zset 0 (zset 0 (zset 0 (zset 0 (zset 0 (zset 0 (zset 0 (zset 0 (zset 0 (zset 0 (zset 0 ke 0 (nw.getD 0 0)) 6 (ai.getD 0 0)) 1 (nw.getD 1 0)) 7 (ai.getD 1 0)) 2 (nw.getD 2 0)) 8 (ai.getD 2 0)) 3 (nw.getD 3 0)) 9 (ai.getD 3 0)) 4 (nw.getD 4 0)) 10 (ai.getD 4 0)) 5 (nw.getD 5 0)) 11 (ai.getD 5 0)))) := e83x
    refine wq_gos (f := 1) (pc2 := 51) (ls2 := [(2, .int 6), (0, .ref 162), (1, .int 0)]) (st2 := []) (h2 := h82x) (dc2 := 0) (ds2 := 0) 5 rfl ?_
    refine wq_ret rfl rfl ?_
    show wq 191 57 [(0, .ref 162)] [] h82x 0 0 _
    refine wq_gos (f := 1) (pc2 := 59) (ls2 := [(0, .ref 162)]) (st2 := [.ref 162, .ref 162]) (h2 := h82x) (dc2 := 0) (ds2 := 0) 2 rfl ?_
    have e86x := (f84x.2 _ _ (wnc (by decide) wn0) e80x)
    refine wq_getf rfl e86x p8x rfl ?_
    refine wq_gos (f := 1) (pc2 := 64) (ls2 := [(0, .ref 162)]) (st2 := [.int 1, .ref 162]) (h2 := h82x) (dc2 := 0) (ds2 := 0) 2 rfl ?_
    refine wq_putf rfl e86x rfl (by rw [hC7x.1]; rfl) rfl ?_
    intro h87x e88x f89x l90x
    obtain ⟨fs91x, hf92x⟩ : ∃ x, x = fs5x.set 27 (.int 1) := ⟨_, rfl⟩
    rw [← hf92x] at e88x
    have hC93x : mC fs91x := by rw [hf92x]; exact mC_set hC7x (by decide) _
    have p94x : fs91x[0]? = some (.int 0) := by rw [hf92x, List.getElem?_set_ne (by decide)]; exact p9x
    have p95x : fs91x[27]? = some (.int 1) := by rw [hf92x]; exact List.getElem?_set_self (by rw [hC7x.1]; decide)
    refine wq_ret rfl rfl ?_
    show wq 212 27 [(0, .ref 162), (1, .int 2), (2, .int v)] [] h87x 0 0 _
    refine wq_gos (f := 1) (pc2 := 28) (ls2 := [(0, .ref 162), (1, .int 2), (2, .int v)]) (st2 := [.ref 162]) (h2 := h87x) (dc2 := 0) (ds2 := 0) 1 rfl ?_
    refine wq_getf rfl e88x (hC93x.2 (24, 188) (by decide)) rfl ?_
    refine wq_gos (f := 1) (pc2 := 33) (ls2 := [(0, .ref 162), (1, .int 2), (2, .int v)]) (st2 := [.int v, .int 2, .ref 188]) (h2 := h87x) (dc2 := 0) (ds2 := 0) 2 rfl ?_
    have e96x := (f89x.2 _ _ (wnc (by decide) wn0) (f84x.2 _ _ (wnc (by decide) wn0) (f78x.2 _ _ (wnc (by decide) wn0) e75x)))
    refine wq_iast rfl e96x rfl rfl ?_
    intro h97x e98x f99x l100x
    have e98x : zat h97x 188 = some (.inl (0, 6, (zset 0 nw 2 v))) := e98x
    refine wq_gos (f := 1) (pc2 := 35) (ls2 := [(0, .ref 162), (1, .int 2), (2, .int v)]) (st2 := [.ref 162]) (h2 := h97x) (dc2 := 0) (ds2 := 0) 1 rfl ?_
    have e101x := (f99x.2 _ _ (wnc (by decide) wn0) e88x)
    refine wq_inlv (y2 := 242) (as := []) rfl rfl rfl e101x rfl ?_
    show wq 242 0 [(0, .ref 162)] [] h97x 0 0 _
    refine wq_gos (f := 1) (pc2 := 2) (ls2 := [(0, .ref 162)]) (st2 := [.int 0, .ref 162]) (h2 := h97x) (dc2 := 0) (ds2 := 0) 2 rfl ?_
    refine wq_putf rfl e101x rfl (by rw [hC93x.1]; rfl) rfl ?_
    intro h102x e103x f104x l105x
    obtain ⟨fs106x, hf107x⟩ : ∃ x, x = fs91x.set 33 (.int 0) := ⟨_, rfl⟩
    rw [← hf107x] at e103x
    have hC108x : mC fs106x := by rw [hf107x]; exact mC_set hC93x (by decide) _
    have p109x : fs106x[0]? = some (.int 0) := by rw [hf107x, List.getElem?_set_ne (by decide)]; exact p94x
    have p110x : fs106x[27]? = some (.int 1) := by rw [hf107x, List.getElem?_set_ne (by decide)]; exact p95x
    have p111x : fs106x[33]? = some (.int 0) := by rw [hf107x]; exact List.getElem?_set_self (by rw [hC93x.1]; decide)
    refine wq_gos (f := 1) (pc2 := 6) (ls2 := [(0, .ref 162)]) (st2 := [.ref 162]) (h2 := h102x) (dc2 := 0) (ds2 := 0) 1 rfl ?_
    refine wq_getf rfl e103x (hC108x.2 (43, 212) (by decide)) rfl ?_
    refine wq_gos (f := 1) (pc2 := 11) (ls2 := [(0, .ref 162)]) (st2 := [.int 0, .int 0, .ref 212]) (h2 := h102x) (dc2 := 0) (ds2 := 0) 2 rfl ?_
    have e112x := (f104x.2 _ _ (wnc (by decide) wn0) (f99x.2 _ _ (wnc (by decide) wn0) (f89x.2 _ _ (wnc (by decide) wn0) (f84x.2 _ _ (wnc (by decide) wn0) (f78x.2 _ _ (wnc (by decide) wn0) (f72x.2 _ _ (wnc (by decide) wn0) (f66x.2 _ _ (wnc (by decide) wn0) (f60x.2 _ _ (wnc (by decide) wn0) (f54x.2 _ _ (wnc (by decide) wn0) (f48x.2 _ _ (wnc (by decide) wn0) (f42x.2 _ _ (wnc (by decide) wn0) (f36x.2 _ _ (wnc (by decide) wn0) (f30x.2 _ _ (wnc (by decide) wn0) (f24x.2 _ _ (wnc (by decide) wn0) (f18x.2 _ _ (wnc (by decide) wn0) (f3x.2 _ _ (wnc (by decide) wn0) hHr))))))))))))))))
    refine wq_zast rfl e112x rfl rfl ?_
    intro h113x e114x f115x l116x
    have e114x : zat h113x 212 = some (.inl (2, 2, (zset 0 hr 0 (vp_nar .boolean (0 : Int32))))) := e114x
    refine wq_gos (f := 1) (pc2 := 13) (ls2 := [(0, .ref 162)]) (st2 := [.ref 162]) (h2 := h113x) (dc2 := 0) (ds2 := 0) 1 rfl ?_
    have e117x := (f115x.2 _ _ (wnc (by decide) wn0) e103x)
    refine wq_getf rfl e117x (hC108x.2 (43, 212) (by decide)) rfl ?_
    refine wq_gos (f := 1) (pc2 := 18) (ls2 := [(0, .ref 162)]) (st2 := [.int 0, .int 1, .ref 212]) (h2 := h113x) (dc2 := 0) (ds2 := 0) 2 rfl ?_
    refine wq_zast rfl e114x rfl rfl ?_
    intro h118x e119x f120x l121x
    have e119x : zat h118x 212 = some (.inl (2, 2, (zset 0 (zset 0 hr 0 (vp_nar .boolean (0 : Int32))) 1 (vp_nar .boolean (0 : Int32))))) := e119x
    refine wq_ret rfl rfl ?_
    show wq 212 38 [(0, .ref 162), (1, .int 2), (2, .int v)] [] h118x 0 0 _
    refine wq_gos (f := 1) (pc2 := 39) (ls2 := [(0, .ref 162), (1, .int 2), (2, .int v)]) (st2 := [.int 1]) (h2 := h118x) (dc2 := 0) (ds2 := 0) 1 rfl ?_
    exact wq_ret rfl rfl ⟨h118x, rfl⟩
set_option maxHeartbeats 4000000 in
theorem m_set3 {h : zH} {fs : List Value} {kn lo hi : List Int32} {nw ai ke hr : List Int32} (hM : zat h 162 = some (.inr (.inr (.inr (10, fs))))) (hC : mC fs) (hK : zat h 166 = some (.inl (0, 14, kn))) (hO : zat h 168 = some (.inl (0, 12, lo))) (hG : zat h 170 = some (.inl (0, 12, hi))) (h27 : fs[27]? = some (.int 0)) (hNw : zat h 188 = some (.inl (0, 6, nw))) (hAi : zat h 190 = some (.inl (0, 6, ai))) (hKe : zat h 192 = some (.inl (0, 252, ke))) (hHr : zat h 212 = some (.inl (2, 2, hr))) (v : Int32) (hal : jallow lo hi 3 v = true) : wq 212 0 [(0, .ref 162), (1, .int 3), (2, .int v)] [] h 0 0 (fun r => ∃ h2, r = (some (.int 1), h2, 0, 0)) := by
  refine wq_gos (f := 1) (pc2 := 2) (ls2 := [(0, .ref 162), (1, .int 3), (2, .int v)]) (st2 := [.int 0, .ref 162]) (h2 := h) (dc2 := 0) (ds2 := 0) 2 rfl ?_
  refine wq_putf rfl hM rfl (by rw [hC.1]; rfl) rfl ?_
  intro h1x e2x f3x l4x
  obtain ⟨fs5x, hf6x⟩ : ∃ x, x = fs.set 0 (.int 0) := ⟨_, rfl⟩
  rw [← hf6x] at e2x
  have hC7x : mC fs5x := by rw [hf6x]; exact mC_set hC (by decide) _
  have p8x : fs5x[27]? = some (.int 0) := by rw [hf6x, List.getElem?_set_ne (by decide)]; exact h27
  have p9x : fs5x[0]? = some (.int 0) := by rw [hf6x]; exact List.getElem?_set_self (by rw [hC.1]; decide)
  refine wq_gos (f := 1) (pc2 := 6) (ls2 := [(0, .ref 162), (1, .int 3), (2, .int v)]) (st2 := [.int 3]) (h2 := h1x) (dc2 := 0) (ds2 := 0) 1 rfl ?_
  refine wq_inl (y2 := 208) (as := [.int 3]) rfl rfl rfl ?_
  show wq 208 0 [(0, .int 3)] [] h1x 0 0 _
  refine wq_gos (f := 1) (pc2 := 15) (ls2 := [(0, .int 3)]) (st2 := [.int 1]) (h2 := h1x) (dc2 := 0) (ds2 := 0) 7 rfl ?_
  refine wq_ret rfl rfl ?_
  show wq 212 9 [(0, .ref 162), (1, .int 3), (2, .int v)] [.int 1] h1x 0 0 _
  refine wq_gos (f := 1) (pc2 := 15) (ls2 := [(0, .ref 162), (1, .int 3), (2, .int v)]) (st2 := [.int v, .int 3, .ref 162]) (h2 := h1x) (dc2 := 0) (ds2 := 0) 4 rfl ?_
  have e10x := (f3x.2 _ _ (wnc (by decide) wn0) hK)
  have e11x := (f3x.2 _ _ (wnc (by decide) wn0) hO)
  have e12x := (f3x.2 _ _ (wnc (by decide) wn0) hG)
  cases q13x : jallow lo hi (3 : Int32) v with
  | false =>
    refine wq_inlv (y2 := 207) (as := [.int 3, .int v]) rfl rfl rfl e2x rfl (wq_T (show zT zg0 zF zP 207 0 [(0, .ref 162), (1, .int 3), (2, .int v)] [] h1x 0 0 (some (.int 0), h1x, 0, 0) from by have q9 := c_within e2x (hC7x.2 (3, 166) (by decide)) (hC7x.2 (4, 168) (by decide)) (hC7x.2 (5, 170) (by decide)) e10x e11x e12x (j := (3 : Int32)) rfl v; rw [q13x] at q9; exact q9) ?_)
    show wq 212 18 [(0, .ref 162), (1, .int 3), (2, .int v)] [.int 0] h1x 0 0 _
    refine wq_gos (f := 1) (pc2 := 22) (ls2 := [(0, .ref 162), (1, .int 3), (2, .int v)]) (st2 := [.int 0]) (h2 := h1x) (dc2 := 0) (ds2 := 0) 2 rfl ?_
    exfalso; rw [hal] at q13x; exact absurd q13x (by decide)
  | true =>
    refine wq_inlv (y2 := 207) (as := [.int 3, .int v]) rfl rfl rfl e2x rfl (wq_T (show zT zg0 zF zP 207 0 [(0, .ref 162), (1, .int 3), (2, .int v)] [] h1x 0 0 (some (.int 1), h1x, 0, 0) from by have q9 := c_within e2x (hC7x.2 (3, 166) (by decide)) (hC7x.2 (4, 168) (by decide)) (hC7x.2 (5, 170) (by decide)) e10x e11x e12x (j := (3 : Int32)) rfl v; rw [q13x] at q9; exact q9) ?_)
    show wq 212 18 [(0, .ref 162), (1, .int 3), (2, .int v)] [.int 1] h1x 0 0 _
    refine wq_gos (f := 1) (pc2 := 24) (ls2 := [(0, .ref 162), (1, .int 3), (2, .int v)]) (st2 := [.ref 162]) (h2 := h1x) (dc2 := 0) (ds2 := 0) 2 rfl ?_
    refine wq_inlv (y2 := 191) (as := []) rfl rfl rfl e2x rfl ?_
    show wq 191 0 [(0, .ref 162)] [] h1x 0 0 _
    refine wq_gos (f := 1) (pc2 := 1) (ls2 := [(0, .ref 162)]) (st2 := [.ref 162]) (h2 := h1x) (dc2 := 0) (ds2 := 0) 1 rfl ?_
    refine wq_getf rfl e2x p8x rfl ?_
    refine wq_gos (f := 1) (pc2 := 51) (ls2 := [(0, .ref 162)]) (st2 := [.ref 162, .ref 162]) (h2 := h1x) (dc2 := 0) (ds2 := 0) 4 rfl ?_
    refine wq_getf rfl e2x p8x rfl ?_
    refine wq_inlv (y2 := 189) (as := [.int 0]) rfl rfl rfl e2x rfl ?_
    show wq 189 0 [(0, .ref 162), (1, .int 0)] [] h1x 0 0 _
    refine wq_gos (f := 1) (pc2 := 9) (ls2 := [(2, .int 0), (0, .ref 162), (1, .int 0)]) (st2 := [.ref 162]) (h2 := h1x) (dc2 := 0) (ds2 := 0) 6 rfl ?_
    refine wq_getf rfl e2x (hC7x.2 (26, 192) (by decide)) rfl ?_
    refine wq_gos (f := 1) (pc2 := 19) (ls2 := [(2, .int 0), (0, .ref 162), (1, .int 0)]) (st2 := [.ref 162, .int 0, .ref 192]) (h2 := h1x) (dc2 := 0) (ds2 := 0) 6 rfl ?_
    refine wq_getf rfl e2x (hC7x.2 (24, 188) (by decide)) rfl ?_
    refine wq_gos (f := 1) (pc2 := 23) (ls2 := [(2, .int 0), (0, .ref 162), (1, .int 0)]) (st2 := [.int 0, .ref 188, .int 0, .ref 192]) (h2 := h1x) (dc2 := 0) (ds2 := 0) 1 rfl ?_
    have e14x := (f3x.2 _ _ (wnc (by decide) wn0) hNw)
    refine wq_ialdk (k := 0) rfl e14x rfl rfl rfl ?_
    have e15x := (f3x.2 _ _ (wnc (by decide) wn0) hKe)
    refine wq_iast rfl e15x rfl rfl ?_
    intro h16x e17x f18x l19x
    have e17x : zat h16x 192 = some (.inl (0, 252, (zset 0 ke 0 (nw.getD 0 0)))) := e17x
    refine wq_gos (f := 1) (pc2 := 26) (ls2 := [(2, .int 0), (0, .ref 162), (1, .int 0)]) (st2 := [.ref 162]) (h2 := h16x) (dc2 := 0) (ds2 := 0) 1 rfl ?_
    have e20x := (f18x.2 _ _ (wnc (by decide) wn0) e2x)
    refine wq_getf rfl e20x (hC7x.2 (26, 192) (by decide)) rfl ?_
    refine wq_gos (f := 1) (pc2 := 39) (ls2 := [(2, .int 0), (0, .ref 162), (1, .int 0)]) (st2 := [.ref 162, .int 6, .ref 192]) (h2 := h16x) (dc2 := 0) (ds2 := 0) 8 rfl ?_
    refine wq_getf rfl e20x (hC7x.2 (25, 190) (by decide)) rfl ?_
    refine wq_gos (f := 1) (pc2 := 43) (ls2 := [(2, .int 0), (0, .ref 162), (1, .int 0)]) (st2 := [.int 0, .ref 190, .int 6, .ref 192]) (h2 := h16x) (dc2 := 0) (ds2 := 0) 1 rfl ?_
    have e21x := (f18x.2 _ _ (wnc (by decide) wn0) (f3x.2 _ _ (wnc (by decide) wn0) hAi))
    refine wq_ialdk (k := 0) rfl e21x rfl rfl rfl ?_
    refine wq_iast rfl e17x rfl rfl ?_
    intro h22x e23x f24x l25x
    have e23x : zat h22x 192 = some (.inl (0, 252, (zset 0 (zset 0 ke 0 (nw.getD 0 0)) 6 (ai.getD 0 0)))) := e23x
    refine wq_gos (f := 1) (pc2 := 9) (ls2 := [(2, .int 1), (0, .ref 162), (1, .int 0)]) (st2 := [.ref 162]) (h2 := h22x) (dc2 := 0) (ds2 := 0) 6 rfl ?_
    have e26x := (f24x.2 _ _ (wnc (by decide) wn0) e20x)
    refine wq_getf rfl e26x (hC7x.2 (26, 192) (by decide)) rfl ?_
    refine wq_gos (f := 1) (pc2 := 19) (ls2 := [(2, .int 1), (0, .ref 162), (1, .int 0)]) (st2 := [.ref 162, .int 1, .ref 192]) (h2 := h22x) (dc2 := 0) (ds2 := 0) 6 rfl ?_
    refine wq_getf rfl e26x (hC7x.2 (24, 188) (by decide)) rfl ?_
    refine wq_gos (f := 1) (pc2 := 23) (ls2 := [(2, .int 1), (0, .ref 162), (1, .int 0)]) (st2 := [.int 1, .ref 188, .int 1, .ref 192]) (h2 := h22x) (dc2 := 0) (ds2 := 0) 1 rfl ?_
    have e27x := (f24x.2 _ _ (wnc (by decide) wn0) (f18x.2 _ _ (wnc (by decide) wn0) e14x))
    refine wq_ialdk (k := 1) rfl e27x rfl rfl rfl ?_
    refine wq_iast rfl e23x rfl rfl ?_
    intro h28x e29x f30x l31x
    have e29x : zat h28x 192 = some (.inl (0, 252, (zset 0 (zset 0 (zset 0 ke 0 (nw.getD 0 0)) 6 (ai.getD 0 0)) 1 (nw.getD 1 0)))) := e29x
    refine wq_gos (f := 1) (pc2 := 26) (ls2 := [(2, .int 1), (0, .ref 162), (1, .int 0)]) (st2 := [.ref 162]) (h2 := h28x) (dc2 := 0) (ds2 := 0) 1 rfl ?_
    have e32x := (f30x.2 _ _ (wnc (by decide) wn0) e26x)
    refine wq_getf rfl e32x (hC7x.2 (26, 192) (by decide)) rfl ?_
    refine wq_gos (f := 1) (pc2 := 39) (ls2 := [(2, .int 1), (0, .ref 162), (1, .int 0)]) (st2 := [.ref 162, .int 7, .ref 192]) (h2 := h28x) (dc2 := 0) (ds2 := 0) 8 rfl ?_
    refine wq_getf rfl e32x (hC7x.2 (25, 190) (by decide)) rfl ?_
    refine wq_gos (f := 1) (pc2 := 43) (ls2 := [(2, .int 1), (0, .ref 162), (1, .int 0)]) (st2 := [.int 1, .ref 190, .int 7, .ref 192]) (h2 := h28x) (dc2 := 0) (ds2 := 0) 1 rfl ?_
    have e33x := (f30x.2 _ _ (wnc (by decide) wn0) (f24x.2 _ _ (wnc (by decide) wn0) e21x))
    refine wq_ialdk (k := 1) rfl e33x rfl rfl rfl ?_
    refine wq_iast rfl e29x rfl rfl ?_
    intro h34x e35x f36x l37x
    have e35x : zat h34x 192 = some (.inl (0, 252, (zset 0 (zset 0 (zset 0 (zset 0 ke 0 (nw.getD 0 0)) 6 (ai.getD 0 0)) 1 (nw.getD 1 0)) 7 (ai.getD 1 0)))) := e35x
    refine wq_gos (f := 1) (pc2 := 9) (ls2 := [(2, .int 2), (0, .ref 162), (1, .int 0)]) (st2 := [.ref 162]) (h2 := h34x) (dc2 := 0) (ds2 := 0) 6 rfl ?_
    have e38x := (f36x.2 _ _ (wnc (by decide) wn0) e32x)
    refine wq_getf rfl e38x (hC7x.2 (26, 192) (by decide)) rfl ?_
    refine wq_gos (f := 1) (pc2 := 19) (ls2 := [(2, .int 2), (0, .ref 162), (1, .int 0)]) (st2 := [.ref 162, .int 2, .ref 192]) (h2 := h34x) (dc2 := 0) (ds2 := 0) 6 rfl ?_
    refine wq_getf rfl e38x (hC7x.2 (24, 188) (by decide)) rfl ?_
    refine wq_gos (f := 1) (pc2 := 23) (ls2 := [(2, .int 2), (0, .ref 162), (1, .int 0)]) (st2 := [.int 2, .ref 188, .int 2, .ref 192]) (h2 := h34x) (dc2 := 0) (ds2 := 0) 1 rfl ?_
    have e39x := (f36x.2 _ _ (wnc (by decide) wn0) (f30x.2 _ _ (wnc (by decide) wn0) e27x))
    refine wq_ialdk (k := 2) rfl e39x rfl rfl rfl ?_
    refine wq_iast rfl e35x rfl rfl ?_
    intro h40x e41x f42x l43x
    have e41x : zat h40x 192 = some (.inl (0, 252, (zset 0 (zset 0 (zset 0 (zset 0 (zset 0 ke 0 (nw.getD 0 0)) 6 (ai.getD 0 0)) 1 (nw.getD 1 0)) 7 (ai.getD 1 0)) 2 (nw.getD 2 0)))) := e41x
    refine wq_gos (f := 1) (pc2 := 26) (ls2 := [(2, .int 2), (0, .ref 162), (1, .int 0)]) (st2 := [.ref 162]) (h2 := h40x) (dc2 := 0) (ds2 := 0) 1 rfl ?_
    have e44x := (f42x.2 _ _ (wnc (by decide) wn0) e38x)
    refine wq_getf rfl e44x (hC7x.2 (26, 192) (by decide)) rfl ?_
    refine wq_gos (f := 1) (pc2 := 39) (ls2 := [(2, .int 2), (0, .ref 162), (1, .int 0)]) (st2 := [.ref 162, .int 8, .ref 192]) (h2 := h40x) (dc2 := 0) (ds2 := 0) 8 rfl ?_
    refine wq_getf rfl e44x (hC7x.2 (25, 190) (by decide)) rfl ?_
    refine wq_gos (f := 1) (pc2 := 43) (ls2 := [(2, .int 2), (0, .ref 162), (1, .int 0)]) (st2 := [.int 2, .ref 190, .int 8, .ref 192]) (h2 := h40x) (dc2 := 0) (ds2 := 0) 1 rfl ?_
    have e45x := (f42x.2 _ _ (wnc (by decide) wn0) (f36x.2 _ _ (wnc (by decide) wn0) e33x))
    refine wq_ialdk (k := 2) rfl e45x rfl rfl rfl ?_
    refine wq_iast rfl e41x rfl rfl ?_
    intro h46x e47x f48x l49x
    have e47x : zat h46x 192 = some (.inl (0, 252, (zset 0 (zset 0 (zset 0 (zset 0 (zset 0 (zset 0 ke 0 (nw.getD 0 0)) 6 (ai.getD 0 0)) 1 (nw.getD 1 0)) 7 (ai.getD 1 0)) 2 (nw.getD 2 0)) 8 (ai.getD 2 0)))) := e47x
    refine wq_gos (f := 1) (pc2 := 9) (ls2 := [(2, .int 3), (0, .ref 162), (1, .int 0)]) (st2 := [.ref 162]) (h2 := h46x) (dc2 := 0) (ds2 := 0) 6 rfl ?_
    have e50x := (f48x.2 _ _ (wnc (by decide) wn0) e44x)
    refine wq_getf rfl e50x (hC7x.2 (26, 192) (by decide)) rfl ?_
    refine wq_gos (f := 1) (pc2 := 19) (ls2 := [(2, .int 3), (0, .ref 162), (1, .int 0)]) (st2 := [.ref 162, .int 3, .ref 192]) (h2 := h46x) (dc2 := 0) (ds2 := 0) 6 rfl ?_
    refine wq_getf rfl e50x (hC7x.2 (24, 188) (by decide)) rfl ?_
    refine wq_gos (f := 1) (pc2 := 23) (ls2 := [(2, .int 3), (0, .ref 162), (1, .int 0)]) (st2 := [.int 3, .ref 188, .int 3, .ref 192]) (h2 := h46x) (dc2 := 0) (ds2 := 0) 1 rfl ?_
    have e51x := (f48x.2 _ _ (wnc (by decide) wn0) (f42x.2 _ _ (wnc (by decide) wn0) e39x))
    refine wq_ialdk (k := 3) rfl e51x rfl rfl rfl ?_
    refine wq_iast rfl e47x rfl rfl ?_
    intro h52x e53x f54x l55x
    have e53x : zat h52x 192 = some (.inl (0, 252, (zset 0 (zset 0 (zset 0 (zset 0 (zset 0 (zset 0 (zset 0 ke 0 (nw.getD 0 0)) 6 (ai.getD 0 0)) 1 (nw.getD 1 0)) 7 (ai.getD 1 0)) 2 (nw.getD 2 0)) 8 (ai.getD 2 0)) 3 (nw.getD 3 0)))) := e53x
    refine wq_gos (f := 1) (pc2 := 26) (ls2 := [(2, .int 3), (0, .ref 162), (1, .int 0)]) (st2 := [.ref 162]) (h2 := h52x) (dc2 := 0) (ds2 := 0) 1 rfl ?_
    have e56x := (f54x.2 _ _ (wnc (by decide) wn0) e50x)
    refine wq_getf rfl e56x (hC7x.2 (26, 192) (by decide)) rfl ?_
    refine wq_gos (f := 1) (pc2 := 39) (ls2 := [(2, .int 3), (0, .ref 162), (1, .int 0)]) (st2 := [.ref 162, .int 9, .ref 192]) (h2 := h52x) (dc2 := 0) (ds2 := 0) 8 rfl ?_
    refine wq_getf rfl e56x (hC7x.2 (25, 190) (by decide)) rfl ?_
    refine wq_gos (f := 1) (pc2 := 43) (ls2 := [(2, .int 3), (0, .ref 162), (1, .int 0)]) (st2 := [.int 3, .ref 190, .int 9, .ref 192]) (h2 := h52x) (dc2 := 0) (ds2 := 0) 1 rfl ?_
    have e57x := (f54x.2 _ _ (wnc (by decide) wn0) (f48x.2 _ _ (wnc (by decide) wn0) e45x))
    refine wq_ialdk (k := 3) rfl e57x rfl rfl rfl ?_
    refine wq_iast rfl e53x rfl rfl ?_
    intro h58x e59x f60x l61x
    have e59x : zat h58x 192 = some (.inl (0, 252, (zset 0 (zset 0 (zset 0 (zset 0 (zset 0 (zset 0 (zset 0 (zset 0 ke 0 (nw.getD 0 0)) 6 (ai.getD 0 0)) 1 (nw.getD 1 0)) 7 (ai.getD 1 0)) 2 (nw.getD 2 0)) 8 (ai.getD 2 0)) 3 (nw.getD 3 0)) 9 (ai.getD 3 0)))) := e59x
    refine wq_gos (f := 1) (pc2 := 9) (ls2 := [(2, .int 4), (0, .ref 162), (1, .int 0)]) (st2 := [.ref 162]) (h2 := h58x) (dc2 := 0) (ds2 := 0) 6 rfl ?_
    have e62x := (f60x.2 _ _ (wnc (by decide) wn0) e56x)
    refine wq_getf rfl e62x (hC7x.2 (26, 192) (by decide)) rfl ?_
    refine wq_gos (f := 1) (pc2 := 19) (ls2 := [(2, .int 4), (0, .ref 162), (1, .int 0)]) (st2 := [.ref 162, .int 4, .ref 192]) (h2 := h58x) (dc2 := 0) (ds2 := 0) 6 rfl ?_
    refine wq_getf rfl e62x (hC7x.2 (24, 188) (by decide)) rfl ?_
    refine wq_gos (f := 1) (pc2 := 23) (ls2 := [(2, .int 4), (0, .ref 162), (1, .int 0)]) (st2 := [.int 4, .ref 188, .int 4, .ref 192]) (h2 := h58x) (dc2 := 0) (ds2 := 0) 1 rfl ?_
    have e63x := (f60x.2 _ _ (wnc (by decide) wn0) (f54x.2 _ _ (wnc (by decide) wn0) e51x))
    refine wq_ialdk (k := 4) rfl e63x rfl rfl rfl ?_
    refine wq_iast rfl e59x rfl rfl ?_
    intro h64x e65x f66x l67x
    have e65x : zat h64x 192 = some (.inl (0, 252, (zset 0 (zset 0 (zset 0 (zset 0 (zset 0 (zset 0 (zset 0 (zset 0 (zset 0 ke 0 (nw.getD 0 0)) 6 (ai.getD 0 0)) 1 (nw.getD 1 0)) 7 (ai.getD 1 0)) 2 (nw.getD 2 0)) 8 (ai.getD 2 0)) 3 (nw.getD 3 0)) 9 (ai.getD 3 0)) 4 (nw.getD 4 0)))) := e65x
    refine wq_gos (f := 1) (pc2 := 26) (ls2 := [(2, .int 4), (0, .ref 162), (1, .int 0)]) (st2 := [.ref 162]) (h2 := h64x) (dc2 := 0) (ds2 := 0) 1 rfl ?_
    have e68x := (f66x.2 _ _ (wnc (by decide) wn0) e62x)
    refine wq_getf rfl e68x (hC7x.2 (26, 192) (by decide)) rfl ?_
    refine wq_gos (f := 1) (pc2 := 39) (ls2 := [(2, .int 4), (0, .ref 162), (1, .int 0)]) (st2 := [.ref 162, .int 10, .ref 192]) (h2 := h64x) (dc2 := 0) (ds2 := 0) 8 rfl ?_
    refine wq_getf rfl e68x (hC7x.2 (25, 190) (by decide)) rfl ?_
    refine wq_gos (f := 1) (pc2 := 43) (ls2 := [(2, .int 4), (0, .ref 162), (1, .int 0)]) (st2 := [.int 4, .ref 190, .int 10, .ref 192]) (h2 := h64x) (dc2 := 0) (ds2 := 0) 1 rfl ?_
    have e69x := (f66x.2 _ _ (wnc (by decide) wn0) (f60x.2 _ _ (wnc (by decide) wn0) e57x))
    refine wq_ialdk (k := 4) rfl e69x rfl rfl rfl ?_
    refine wq_iast rfl e65x rfl rfl ?_
    intro h70x e71x f72x l73x
    have e71x : zat h70x 192 = some (.inl (0, 252, (zset 0 (zset 0 (zset 0 (zset 0 (zset 0 (zset 0 (zset 0 (zset 0 (zset 0 (zset 0 ke 0 (nw.getD 0 0)) 6 (ai.getD 0 0)) 1 (nw.getD 1 0)) 7 (ai.getD 1 0)) 2 (nw.getD 2 0)) 8 (ai.getD 2 0)) 3 (nw.getD 3 0)) 9 (ai.getD 3 0)) 4 (nw.getD 4 0)) 10 (ai.getD 4 0)))) := e71x
    refine wq_gos (f := 1) (pc2 := 9) (ls2 := [(2, .int 5), (0, .ref 162), (1, .int 0)]) (st2 := [.ref 162]) (h2 := h70x) (dc2 := 0) (ds2 := 0) 6 rfl ?_
    have e74x := (f72x.2 _ _ (wnc (by decide) wn0) e68x)
    refine wq_getf rfl e74x (hC7x.2 (26, 192) (by decide)) rfl ?_
    refine wq_gos (f := 1) (pc2 := 19) (ls2 := [(2, .int 5), (0, .ref 162), (1, .int 0)]) (st2 := [.ref 162, .int 5, .ref 192]) (h2 := h70x) (dc2 := 0) (ds2 := 0) 6 rfl ?_
    refine wq_getf rfl e74x (hC7x.2 (24, 188) (by decide)) rfl ?_
    refine wq_gos (f := 1) (pc2 := 23) (ls2 := [(2, .int 5), (0, .ref 162), (1, .int 0)]) (st2 := [.int 5, .ref 188, .int 5, .ref 192]) (h2 := h70x) (dc2 := 0) (ds2 := 0) 1 rfl ?_
    have e75x := (f72x.2 _ _ (wnc (by decide) wn0) (f66x.2 _ _ (wnc (by decide) wn0) e63x))
    refine wq_ialdk (k := 5) rfl e75x rfl rfl rfl ?_
    refine wq_iast rfl e71x rfl rfl ?_
    intro h76x e77x f78x l79x
    have e77x : zat h76x 192 = some (.inl (0, 252, (zset 0 (zset 0 (zset 0 (zset 0 (zset 0 (zset 0 (zset 0 (zset 0 (zset 0 (zset 0 (zset 0 ke 0 (nw.getD 0 0)) 6 (ai.getD 0 0)) 1 (nw.getD 1 0)) 7 (ai.getD 1 0)) 2 (nw.getD 2 0)) 8 (ai.getD 2 0)) 3 (nw.getD 3 0)) 9 (ai.getD 3 0)) 4 (nw.getD 4 0)) 10 (ai.getD 4 0)) 5 (nw.getD 5 0)))) := e77x
    refine wq_gos (f := 1) (pc2 := 26) (ls2 := [(2, .int 5), (0, .ref 162), (1, .int 0)]) (st2 := [.ref 162]) (h2 := h76x) (dc2 := 0) (ds2 := 0) 1 rfl ?_
    have e80x := (f78x.2 _ _ (wnc (by decide) wn0) e74x)
    refine wq_getf rfl e80x (hC7x.2 (26, 192) (by decide)) rfl ?_
    refine wq_gos (f := 1) (pc2 := 39) (ls2 := [(2, .int 5), (0, .ref 162), (1, .int 0)]) (st2 := [.ref 162, .int 11, .ref 192]) (h2 := h76x) (dc2 := 0) (ds2 := 0) 8 rfl ?_
    refine wq_getf rfl e80x (hC7x.2 (25, 190) (by decide)) rfl ?_
    refine wq_gos (f := 1) (pc2 := 43) (ls2 := [(2, .int 5), (0, .ref 162), (1, .int 0)]) (st2 := [.int 5, .ref 190, .int 11, .ref 192]) (h2 := h76x) (dc2 := 0) (ds2 := 0) 1 rfl ?_
    have e81x := (f78x.2 _ _ (wnc (by decide) wn0) (f72x.2 _ _ (wnc (by decide) wn0) e69x))
    refine wq_ialdk (k := 5) rfl e81x rfl rfl rfl ?_
    refine wq_iast rfl e77x rfl rfl ?_
    intro h82x e83x f84x l85x
    have e83x : zat h82x 192 = some (.inl (0, 252, (zset 0 (zset 0 (zset 0 (zset 0 (zset 0 (zset 0 (zset 0 (zset 0 (zset 0 (zset 0 (zset 0 (zset 0 ke 0 (nw.getD 0 0)) 6 (ai.getD 0 0)) 1 (nw.getD 1 0)) 7 (ai.getD 1 0)) 2 (nw.getD 2 0)) 8 (ai.getD 2 0)) 3 (nw.getD 3 0)) 9 (ai.getD 3 0)) 4 (nw.getD 4 0)) 10 (ai.getD 4 0)) 5 (nw.getD 5 0)) 11 (ai.getD 5 0)))) := e83x
    refine wq_gos (f := 1) (pc2 := 51) (ls2 := [(2, .int 6), (0, .ref 162), (1, .int 0)]) (st2 := []) (h2 := h82x) (dc2 := 0) (ds2 := 0) 5 rfl ?_
    refine wq_ret rfl rfl ?_
    show wq 191 57 [(0, .ref 162)] [] h82x 0 0 _
    refine wq_gos (f := 1) (pc2 := 59) (ls2 := [(0, .ref 162)]) (st2 := [.ref 162, .ref 162]) (h2 := h82x) (dc2 := 0) (ds2 := 0) 2 rfl ?_
    have e86x := (f84x.2 _ _ (wnc (by decide) wn0) e80x)
    refine wq_getf rfl e86x p8x rfl ?_
    refine wq_gos (f := 1) (pc2 := 64) (ls2 := [(0, .ref 162)]) (st2 := [.int 1, .ref 162]) (h2 := h82x) (dc2 := 0) (ds2 := 0) 2 rfl ?_
    refine wq_putf rfl e86x rfl (by rw [hC7x.1]; rfl) rfl ?_
    intro h87x e88x f89x l90x
    obtain ⟨fs91x, hf92x⟩ : ∃ x, x = fs5x.set 27 (.int 1) := ⟨_, rfl⟩
    rw [← hf92x] at e88x
    have hC93x : mC fs91x := by rw [hf92x]; exact mC_set hC7x (by decide) _
    have p94x : fs91x[0]? = some (.int 0) := by rw [hf92x, List.getElem?_set_ne (by decide)]; exact p9x
    have p95x : fs91x[27]? = some (.int 1) := by rw [hf92x]; exact List.getElem?_set_self (by rw [hC7x.1]; decide)
    refine wq_ret rfl rfl ?_
    show wq 212 27 [(0, .ref 162), (1, .int 3), (2, .int v)] [] h87x 0 0 _
    refine wq_gos (f := 1) (pc2 := 28) (ls2 := [(0, .ref 162), (1, .int 3), (2, .int v)]) (st2 := [.ref 162]) (h2 := h87x) (dc2 := 0) (ds2 := 0) 1 rfl ?_
    refine wq_getf rfl e88x (hC93x.2 (24, 188) (by decide)) rfl ?_
    refine wq_gos (f := 1) (pc2 := 33) (ls2 := [(0, .ref 162), (1, .int 3), (2, .int v)]) (st2 := [.int v, .int 3, .ref 188]) (h2 := h87x) (dc2 := 0) (ds2 := 0) 2 rfl ?_
    have e96x := (f89x.2 _ _ (wnc (by decide) wn0) (f84x.2 _ _ (wnc (by decide) wn0) (f78x.2 _ _ (wnc (by decide) wn0) e75x)))
    refine wq_iast rfl e96x rfl rfl ?_
    intro h97x e98x f99x l100x
    have e98x : zat h97x 188 = some (.inl (0, 6, (zset 0 nw 3 v))) := e98x
    refine wq_gos (f := 1) (pc2 := 35) (ls2 := [(0, .ref 162), (1, .int 3), (2, .int v)]) (st2 := [.ref 162]) (h2 := h97x) (dc2 := 0) (ds2 := 0) 1 rfl ?_
    have e101x := (f99x.2 _ _ (wnc (by decide) wn0) e88x)
    refine wq_inlv (y2 := 242) (as := []) rfl rfl rfl e101x rfl ?_
    show wq 242 0 [(0, .ref 162)] [] h97x 0 0 _
    refine wq_gos (f := 1) (pc2 := 2) (ls2 := [(0, .ref 162)]) (st2 := [.int 0, .ref 162]) (h2 := h97x) (dc2 := 0) (ds2 := 0) 2 rfl ?_
    refine wq_putf rfl e101x rfl (by rw [hC93x.1]; rfl) rfl ?_
    intro h102x e103x f104x l105x
    obtain ⟨fs106x, hf107x⟩ : ∃ x, x = fs91x.set 33 (.int 0) := ⟨_, rfl⟩
    rw [← hf107x] at e103x
    have hC108x : mC fs106x := by rw [hf107x]; exact mC_set hC93x (by decide) _
    have p109x : fs106x[0]? = some (.int 0) := by rw [hf107x, List.getElem?_set_ne (by decide)]; exact p94x
    have p110x : fs106x[27]? = some (.int 1) := by rw [hf107x, List.getElem?_set_ne (by decide)]; exact p95x
    have p111x : fs106x[33]? = some (.int 0) := by rw [hf107x]; exact List.getElem?_set_self (by rw [hC93x.1]; decide)
    refine wq_gos (f := 1) (pc2 := 6) (ls2 := [(0, .ref 162)]) (st2 := [.ref 162]) (h2 := h102x) (dc2 := 0) (ds2 := 0) 1 rfl ?_
    refine wq_getf rfl e103x (hC108x.2 (43, 212) (by decide)) rfl ?_
    refine wq_gos (f := 1) (pc2 := 11) (ls2 := [(0, .ref 162)]) (st2 := [.int 0, .int 0, .ref 212]) (h2 := h102x) (dc2 := 0) (ds2 := 0) 2 rfl ?_
    have e112x := (f104x.2 _ _ (wnc (by decide) wn0) (f99x.2 _ _ (wnc (by decide) wn0) (f89x.2 _ _ (wnc (by decide) wn0) (f84x.2 _ _ (wnc (by decide) wn0) (f78x.2 _ _ (wnc (by decide) wn0) (f72x.2 _ _ (wnc (by decide) wn0) (f66x.2 _ _ (wnc (by decide) wn0) (f60x.2 _ _ (wnc (by decide) wn0) (f54x.2 _ _ (wnc (by decide) wn0) (f48x.2 _ _ (wnc (by decide) wn0) (f42x.2 _ _ (wnc (by decide) wn0) (f36x.2 _ _ (wnc (by decide) wn0) (f30x.2 _ _ (wnc (by decide) wn0) (f24x.2 _ _ (wnc (by decide) wn0) (f18x.2 _ _ (wnc (by decide) wn0) (f3x.2 _ _ (wnc (by decide) wn0) hHr))))))))))))))))
    refine wq_zast rfl e112x rfl rfl ?_
    intro h113x e114x f115x l116x
    have e114x : zat h113x 212 = some (.inl (2, 2, (zset 0 hr 0 (vp_nar .boolean (0 : Int32))))) := e114x
    refine wq_gos (f := 1) (pc2 := 13) (ls2 := [(0, .ref 162)]) (st2 := [.ref 162]) (h2 := h113x) (dc2 := 0) (ds2 := 0) 1 rfl ?_
    have e117x := (f115x.2 _ _ (wnc (by decide) wn0) e103x)
    refine wq_getf rfl e117x (hC108x.2 (43, 212) (by decide)) rfl ?_
    refine wq_gos (f := 1) (pc2 := 18) (ls2 := [(0, .ref 162)]) (st2 := [.int 0, .int 1, .ref 212]) (h2 := h113x) (dc2 := 0) (ds2 := 0) 2 rfl ?_
    refine wq_zast rfl e114x rfl rfl ?_
    intro h118x e119x f120x l121x
    have e119x : zat h118x 212 = some (.inl (2, 2, (zset 0 (zset 0 hr 0 (vp_nar .boolean (0 : Int32))) 1 (vp_nar .boolean (0 : Int32))))) := e119x
    refine wq_ret rfl rfl ?_
    show wq 212 38 [(0, .ref 162), (1, .int 3), (2, .int v)] [] h118x 0 0 _
    refine wq_gos (f := 1) (pc2 := 39) (ls2 := [(0, .ref 162), (1, .int 3), (2, .int v)]) (st2 := [.int 1]) (h2 := h118x) (dc2 := 0) (ds2 := 0) 1 rfl ?_
    exact wq_ret rfl rfl ⟨h118x, rfl⟩
set_option maxHeartbeats 4000000 in
theorem m_set4 {h : zH} {fs : List Value} {kn lo hi : List Int32} {nw ai ke hr : List Int32} (hM : zat h 162 = some (.inr (.inr (.inr (10, fs))))) (hC : mC fs) (hK : zat h 166 = some (.inl (0, 14, kn))) (hO : zat h 168 = some (.inl (0, 12, lo))) (hG : zat h 170 = some (.inl (0, 12, hi))) (h27 : fs[27]? = some (.int 0)) (hNw : zat h 188 = some (.inl (0, 6, nw))) (hAi : zat h 190 = some (.inl (0, 6, ai))) (hKe : zat h 192 = some (.inl (0, 252, ke))) (hHr : zat h 212 = some (.inl (2, 2, hr))) (v : Int32) (hal : jallow lo hi 4 v = true) : wq 212 0 [(0, .ref 162), (1, .int 4), (2, .int v)] [] h 0 0 (fun r => ∃ h2, r = (some (.int 1), h2, 0, 0)) := by
  refine wq_gos (f := 1) (pc2 := 2) (ls2 := [(0, .ref 162), (1, .int 4), (2, .int v)]) (st2 := [.int 0, .ref 162]) (h2 := h) (dc2 := 0) (ds2 := 0) 2 rfl ?_
  refine wq_putf rfl hM rfl (by rw [hC.1]; rfl) rfl ?_
  intro h1x e2x f3x l4x
  obtain ⟨fs5x, hf6x⟩ : ∃ x, x = fs.set 0 (.int 0) := ⟨_, rfl⟩
  rw [← hf6x] at e2x
  have hC7x : mC fs5x := by rw [hf6x]; exact mC_set hC (by decide) _
  have p8x : fs5x[27]? = some (.int 0) := by rw [hf6x, List.getElem?_set_ne (by decide)]; exact h27
  have p9x : fs5x[0]? = some (.int 0) := by rw [hf6x]; exact List.getElem?_set_self (by rw [hC.1]; decide)
  refine wq_gos (f := 1) (pc2 := 6) (ls2 := [(0, .ref 162), (1, .int 4), (2, .int v)]) (st2 := [.int 4]) (h2 := h1x) (dc2 := 0) (ds2 := 0) 1 rfl ?_
  refine wq_inl (y2 := 208) (as := [.int 4]) rfl rfl rfl ?_
  show wq 208 0 [(0, .int 4)] [] h1x 0 0 _
  refine wq_gos (f := 1) (pc2 := 15) (ls2 := [(0, .int 4)]) (st2 := [.int 1]) (h2 := h1x) (dc2 := 0) (ds2 := 0) 7 rfl ?_
  refine wq_ret rfl rfl ?_
  show wq 212 9 [(0, .ref 162), (1, .int 4), (2, .int v)] [.int 1] h1x 0 0 _
  refine wq_gos (f := 1) (pc2 := 15) (ls2 := [(0, .ref 162), (1, .int 4), (2, .int v)]) (st2 := [.int v, .int 4, .ref 162]) (h2 := h1x) (dc2 := 0) (ds2 := 0) 4 rfl ?_
  have e10x := (f3x.2 _ _ (wnc (by decide) wn0) hK)
  have e11x := (f3x.2 _ _ (wnc (by decide) wn0) hO)
  have e12x := (f3x.2 _ _ (wnc (by decide) wn0) hG)
  cases q13x : jallow lo hi (4 : Int32) v with
  | false =>
    refine wq_inlv (y2 := 207) (as := [.int 4, .int v]) rfl rfl rfl e2x rfl (wq_T (show zT zg0 zF zP 207 0 [(0, .ref 162), (1, .int 4), (2, .int v)] [] h1x 0 0 (some (.int 0), h1x, 0, 0) from by have q9 := c_within e2x (hC7x.2 (3, 166) (by decide)) (hC7x.2 (4, 168) (by decide)) (hC7x.2 (5, 170) (by decide)) e10x e11x e12x (j := (4 : Int32)) rfl v; rw [q13x] at q9; exact q9) ?_)
    show wq 212 18 [(0, .ref 162), (1, .int 4), (2, .int v)] [.int 0] h1x 0 0 _
    refine wq_gos (f := 1) (pc2 := 22) (ls2 := [(0, .ref 162), (1, .int 4), (2, .int v)]) (st2 := [.int 0]) (h2 := h1x) (dc2 := 0) (ds2 := 0) 2 rfl ?_
    exfalso; rw [hal] at q13x; exact absurd q13x (by decide)
  | true =>
    refine wq_inlv (y2 := 207) (as := [.int 4, .int v]) rfl rfl rfl e2x rfl (wq_T (show zT zg0 zF zP 207 0 [(0, .ref 162), (1, .int 4), (2, .int v)] [] h1x 0 0 (some (.int 1), h1x, 0, 0) from by have q9 := c_within e2x (hC7x.2 (3, 166) (by decide)) (hC7x.2 (4, 168) (by decide)) (hC7x.2 (5, 170) (by decide)) e10x e11x e12x (j := (4 : Int32)) rfl v; rw [q13x] at q9; exact q9) ?_)
    show wq 212 18 [(0, .ref 162), (1, .int 4), (2, .int v)] [.int 1] h1x 0 0 _
    refine wq_gos (f := 1) (pc2 := 24) (ls2 := [(0, .ref 162), (1, .int 4), (2, .int v)]) (st2 := [.ref 162]) (h2 := h1x) (dc2 := 0) (ds2 := 0) 2 rfl ?_
    refine wq_inlv (y2 := 191) (as := []) rfl rfl rfl e2x rfl ?_
    show wq 191 0 [(0, .ref 162)] [] h1x 0 0 _
    refine wq_gos (f := 1) (pc2 := 1) (ls2 := [(0, .ref 162)]) (st2 := [.ref 162]) (h2 := h1x) (dc2 := 0) (ds2 := 0) 1 rfl ?_
    refine wq_getf rfl e2x p8x rfl ?_
    refine wq_gos (f := 1) (pc2 := 51) (ls2 := [(0, .ref 162)]) (st2 := [.ref 162, .ref 162]) (h2 := h1x) (dc2 := 0) (ds2 := 0) 4 rfl ?_
    refine wq_getf rfl e2x p8x rfl ?_
    refine wq_inlv (y2 := 189) (as := [.int 0]) rfl rfl rfl e2x rfl ?_
    show wq 189 0 [(0, .ref 162), (1, .int 0)] [] h1x 0 0 _
    refine wq_gos (f := 1) (pc2 := 9) (ls2 := [(2, .int 0), (0, .ref 162), (1, .int 0)]) (st2 := [.ref 162]) (h2 := h1x) (dc2 := 0) (ds2 := 0) 6 rfl ?_
    refine wq_getf rfl e2x (hC7x.2 (26, 192) (by decide)) rfl ?_
    refine wq_gos (f := 1) (pc2 := 19) (ls2 := [(2, .int 0), (0, .ref 162), (1, .int 0)]) (st2 := [.ref 162, .int 0, .ref 192]) (h2 := h1x) (dc2 := 0) (ds2 := 0) 6 rfl ?_
    refine wq_getf rfl e2x (hC7x.2 (24, 188) (by decide)) rfl ?_
    refine wq_gos (f := 1) (pc2 := 23) (ls2 := [(2, .int 0), (0, .ref 162), (1, .int 0)]) (st2 := [.int 0, .ref 188, .int 0, .ref 192]) (h2 := h1x) (dc2 := 0) (ds2 := 0) 1 rfl ?_
    have e14x := (f3x.2 _ _ (wnc (by decide) wn0) hNw)
    refine wq_ialdk (k := 0) rfl e14x rfl rfl rfl ?_
    have e15x := (f3x.2 _ _ (wnc (by decide) wn0) hKe)
    refine wq_iast rfl e15x rfl rfl ?_
    intro h16x e17x f18x l19x
    have e17x : zat h16x 192 = some (.inl (0, 252, (zset 0 ke 0 (nw.getD 0 0)))) := e17x
    refine wq_gos (f := 1) (pc2 := 26) (ls2 := [(2, .int 0), (0, .ref 162), (1, .int 0)]) (st2 := [.ref 162]) (h2 := h16x) (dc2 := 0) (ds2 := 0) 1 rfl ?_
    have e20x := (f18x.2 _ _ (wnc (by decide) wn0) e2x)
    refine wq_getf rfl e20x (hC7x.2 (26, 192) (by decide)) rfl ?_
    refine wq_gos (f := 1) (pc2 := 39) (ls2 := [(2, .int 0), (0, .ref 162), (1, .int 0)]) (st2 := [.ref 162, .int 6, .ref 192]) (h2 := h16x) (dc2 := 0) (ds2 := 0) 8 rfl ?_
    refine wq_getf rfl e20x (hC7x.2 (25, 190) (by decide)) rfl ?_
    refine wq_gos (f := 1) (pc2 := 43) (ls2 := [(2, .int 0), (0, .ref 162), (1, .int 0)]) (st2 := [.int 0, .ref 190, .int 6, .ref 192]) (h2 := h16x) (dc2 := 0) (ds2 := 0) 1 rfl ?_
    have e21x := (f18x.2 _ _ (wnc (by decide) wn0) (f3x.2 _ _ (wnc (by decide) wn0) hAi))
    refine wq_ialdk (k := 0) rfl e21x rfl rfl rfl ?_
    refine wq_iast rfl e17x rfl rfl ?_
    intro h22x e23x f24x l25x
    have e23x : zat h22x 192 = some (.inl (0, 252, (zset 0 (zset 0 ke 0 (nw.getD 0 0)) 6 (ai.getD 0 0)))) := e23x
    refine wq_gos (f := 1) (pc2 := 9) (ls2 := [(2, .int 1), (0, .ref 162), (1, .int 0)]) (st2 := [.ref 162]) (h2 := h22x) (dc2 := 0) (ds2 := 0) 6 rfl ?_
    have e26x := (f24x.2 _ _ (wnc (by decide) wn0) e20x)
    refine wq_getf rfl e26x (hC7x.2 (26, 192) (by decide)) rfl ?_
    refine wq_gos (f := 1) (pc2 := 19) (ls2 := [(2, .int 1), (0, .ref 162), (1, .int 0)]) (st2 := [.ref 162, .int 1, .ref 192]) (h2 := h22x) (dc2 := 0) (ds2 := 0) 6 rfl ?_
    refine wq_getf rfl e26x (hC7x.2 (24, 188) (by decide)) rfl ?_
    refine wq_gos (f := 1) (pc2 := 23) (ls2 := [(2, .int 1), (0, .ref 162), (1, .int 0)]) (st2 := [.int 1, .ref 188, .int 1, .ref 192]) (h2 := h22x) (dc2 := 0) (ds2 := 0) 1 rfl ?_
    have e27x := (f24x.2 _ _ (wnc (by decide) wn0) (f18x.2 _ _ (wnc (by decide) wn0) e14x))
    refine wq_ialdk (k := 1) rfl e27x rfl rfl rfl ?_
    refine wq_iast rfl e23x rfl rfl ?_
    intro h28x e29x f30x l31x
    have e29x : zat h28x 192 = some (.inl (0, 252, (zset 0 (zset 0 (zset 0 ke 0 (nw.getD 0 0)) 6 (ai.getD 0 0)) 1 (nw.getD 1 0)))) := e29x
    refine wq_gos (f := 1) (pc2 := 26) (ls2 := [(2, .int 1), (0, .ref 162), (1, .int 0)]) (st2 := [.ref 162]) (h2 := h28x) (dc2 := 0) (ds2 := 0) 1 rfl ?_
    have e32x := (f30x.2 _ _ (wnc (by decide) wn0) e26x)
    refine wq_getf rfl e32x (hC7x.2 (26, 192) (by decide)) rfl ?_
    refine wq_gos (f := 1) (pc2 := 39) (ls2 := [(2, .int 1), (0, .ref 162), (1, .int 0)]) (st2 := [.ref 162, .int 7, .ref 192]) (h2 := h28x) (dc2 := 0) (ds2 := 0) 8 rfl ?_
    refine wq_getf rfl e32x (hC7x.2 (25, 190) (by decide)) rfl ?_
    refine wq_gos (f := 1) (pc2 := 43) (ls2 := [(2, .int 1), (0, .ref 162), (1, .int 0)]) (st2 := [.int 1, .ref 190, .int 7, .ref 192]) (h2 := h28x) (dc2 := 0) (ds2 := 0) 1 rfl ?_
    have e33x := (f30x.2 _ _ (wnc (by decide) wn0) (f24x.2 _ _ (wnc (by decide) wn0) e21x))
    refine wq_ialdk (k := 1) rfl e33x rfl rfl rfl ?_
    refine wq_iast rfl e29x rfl rfl ?_
    intro h34x e35x f36x l37x
    have e35x : zat h34x 192 = some (.inl (0, 252, (zset 0 (zset 0 (zset 0 (zset 0 ke 0 (nw.getD 0 0)) 6 (ai.getD 0 0)) 1 (nw.getD 1 0)) 7 (ai.getD 1 0)))) := e35x
    refine wq_gos (f := 1) (pc2 := 9) (ls2 := [(2, .int 2), (0, .ref 162), (1, .int 0)]) (st2 := [.ref 162]) (h2 := h34x) (dc2 := 0) (ds2 := 0) 6 rfl ?_
    have e38x := (f36x.2 _ _ (wnc (by decide) wn0) e32x)
    refine wq_getf rfl e38x (hC7x.2 (26, 192) (by decide)) rfl ?_
    refine wq_gos (f := 1) (pc2 := 19) (ls2 := [(2, .int 2), (0, .ref 162), (1, .int 0)]) (st2 := [.ref 162, .int 2, .ref 192]) (h2 := h34x) (dc2 := 0) (ds2 := 0) 6 rfl ?_
    refine wq_getf rfl e38x (hC7x.2 (24, 188) (by decide)) rfl ?_
    refine wq_gos (f := 1) (pc2 := 23) (ls2 := [(2, .int 2), (0, .ref 162), (1, .int 0)]) (st2 := [.int 2, .ref 188, .int 2, .ref 192]) (h2 := h34x) (dc2 := 0) (ds2 := 0) 1 rfl ?_
    have e39x := (f36x.2 _ _ (wnc (by decide) wn0) (f30x.2 _ _ (wnc (by decide) wn0) e27x))
    refine wq_ialdk (k := 2) rfl e39x rfl rfl rfl ?_
    refine wq_iast rfl e35x rfl rfl ?_
    intro h40x e41x f42x l43x
    have e41x : zat h40x 192 = some (.inl (0, 252, (zset 0 (zset 0 (zset 0 (zset 0 (zset 0 ke 0 (nw.getD 0 0)) 6 (ai.getD 0 0)) 1 (nw.getD 1 0)) 7 (ai.getD 1 0)) 2 (nw.getD 2 0)))) := e41x
    refine wq_gos (f := 1) (pc2 := 26) (ls2 := [(2, .int 2), (0, .ref 162), (1, .int 0)]) (st2 := [.ref 162]) (h2 := h40x) (dc2 := 0) (ds2 := 0) 1 rfl ?_
    have e44x := (f42x.2 _ _ (wnc (by decide) wn0) e38x)
    refine wq_getf rfl e44x (hC7x.2 (26, 192) (by decide)) rfl ?_
    refine wq_gos (f := 1) (pc2 := 39) (ls2 := [(2, .int 2), (0, .ref 162), (1, .int 0)]) (st2 := [.ref 162, .int 8, .ref 192]) (h2 := h40x) (dc2 := 0) (ds2 := 0) 8 rfl ?_
    refine wq_getf rfl e44x (hC7x.2 (25, 190) (by decide)) rfl ?_
    refine wq_gos (f := 1) (pc2 := 43) (ls2 := [(2, .int 2), (0, .ref 162), (1, .int 0)]) (st2 := [.int 2, .ref 190, .int 8, .ref 192]) (h2 := h40x) (dc2 := 0) (ds2 := 0) 1 rfl ?_
    have e45x := (f42x.2 _ _ (wnc (by decide) wn0) (f36x.2 _ _ (wnc (by decide) wn0) e33x))
    refine wq_ialdk (k := 2) rfl e45x rfl rfl rfl ?_
    refine wq_iast rfl e41x rfl rfl ?_
    intro h46x e47x f48x l49x
    have e47x : zat h46x 192 = some (.inl (0, 252, (zset 0 (zset 0 (zset 0 (zset 0 (zset 0 (zset 0 ke 0 (nw.getD 0 0)) 6 (ai.getD 0 0)) 1 (nw.getD 1 0)) 7 (ai.getD 1 0)) 2 (nw.getD 2 0)) 8 (ai.getD 2 0)))) := e47x
    refine wq_gos (f := 1) (pc2 := 9) (ls2 := [(2, .int 3), (0, .ref 162), (1, .int 0)]) (st2 := [.ref 162]) (h2 := h46x) (dc2 := 0) (ds2 := 0) 6 rfl ?_
    have e50x := (f48x.2 _ _ (wnc (by decide) wn0) e44x)
    refine wq_getf rfl e50x (hC7x.2 (26, 192) (by decide)) rfl ?_
    refine wq_gos (f := 1) (pc2 := 19) (ls2 := [(2, .int 3), (0, .ref 162), (1, .int 0)]) (st2 := [.ref 162, .int 3, .ref 192]) (h2 := h46x) (dc2 := 0) (ds2 := 0) 6 rfl ?_
    refine wq_getf rfl e50x (hC7x.2 (24, 188) (by decide)) rfl ?_
    refine wq_gos (f := 1) (pc2 := 23) (ls2 := [(2, .int 3), (0, .ref 162), (1, .int 0)]) (st2 := [.int 3, .ref 188, .int 3, .ref 192]) (h2 := h46x) (dc2 := 0) (ds2 := 0) 1 rfl ?_
    have e51x := (f48x.2 _ _ (wnc (by decide) wn0) (f42x.2 _ _ (wnc (by decide) wn0) e39x))
    refine wq_ialdk (k := 3) rfl e51x rfl rfl rfl ?_
    refine wq_iast rfl e47x rfl rfl ?_
    intro h52x e53x f54x l55x
    have e53x : zat h52x 192 = some (.inl (0, 252, (zset 0 (zset 0 (zset 0 (zset 0 (zset 0 (zset 0 (zset 0 ke 0 (nw.getD 0 0)) 6 (ai.getD 0 0)) 1 (nw.getD 1 0)) 7 (ai.getD 1 0)) 2 (nw.getD 2 0)) 8 (ai.getD 2 0)) 3 (nw.getD 3 0)))) := e53x
    refine wq_gos (f := 1) (pc2 := 26) (ls2 := [(2, .int 3), (0, .ref 162), (1, .int 0)]) (st2 := [.ref 162]) (h2 := h52x) (dc2 := 0) (ds2 := 0) 1 rfl ?_
    have e56x := (f54x.2 _ _ (wnc (by decide) wn0) e50x)
    refine wq_getf rfl e56x (hC7x.2 (26, 192) (by decide)) rfl ?_
    refine wq_gos (f := 1) (pc2 := 39) (ls2 := [(2, .int 3), (0, .ref 162), (1, .int 0)]) (st2 := [.ref 162, .int 9, .ref 192]) (h2 := h52x) (dc2 := 0) (ds2 := 0) 8 rfl ?_
    refine wq_getf rfl e56x (hC7x.2 (25, 190) (by decide)) rfl ?_
    refine wq_gos (f := 1) (pc2 := 43) (ls2 := [(2, .int 3), (0, .ref 162), (1, .int 0)]) (st2 := [.int 3, .ref 190, .int 9, .ref 192]) (h2 := h52x) (dc2 := 0) (ds2 := 0) 1 rfl ?_
    have e57x := (f54x.2 _ _ (wnc (by decide) wn0) (f48x.2 _ _ (wnc (by decide) wn0) e45x))
    refine wq_ialdk (k := 3) rfl e57x rfl rfl rfl ?_
    refine wq_iast rfl e53x rfl rfl ?_
    intro h58x e59x f60x l61x
    have e59x : zat h58x 192 = some (.inl (0, 252, (zset 0 (zset 0 (zset 0 (zset 0 (zset 0 (zset 0 (zset 0 (zset 0 ke 0 (nw.getD 0 0)) 6 (ai.getD 0 0)) 1 (nw.getD 1 0)) 7 (ai.getD 1 0)) 2 (nw.getD 2 0)) 8 (ai.getD 2 0)) 3 (nw.getD 3 0)) 9 (ai.getD 3 0)))) := e59x
    refine wq_gos (f := 1) (pc2 := 9) (ls2 := [(2, .int 4), (0, .ref 162), (1, .int 0)]) (st2 := [.ref 162]) (h2 := h58x) (dc2 := 0) (ds2 := 0) 6 rfl ?_
    have e62x := (f60x.2 _ _ (wnc (by decide) wn0) e56x)
    refine wq_getf rfl e62x (hC7x.2 (26, 192) (by decide)) rfl ?_
    refine wq_gos (f := 1) (pc2 := 19) (ls2 := [(2, .int 4), (0, .ref 162), (1, .int 0)]) (st2 := [.ref 162, .int 4, .ref 192]) (h2 := h58x) (dc2 := 0) (ds2 := 0) 6 rfl ?_
    refine wq_getf rfl e62x (hC7x.2 (24, 188) (by decide)) rfl ?_
    refine wq_gos (f := 1) (pc2 := 23) (ls2 := [(2, .int 4), (0, .ref 162), (1, .int 0)]) (st2 := [.int 4, .ref 188, .int 4, .ref 192]) (h2 := h58x) (dc2 := 0) (ds2 := 0) 1 rfl ?_
    have e63x := (f60x.2 _ _ (wnc (by decide) wn0) (f54x.2 _ _ (wnc (by decide) wn0) e51x))
    refine wq_ialdk (k := 4) rfl e63x rfl rfl rfl ?_
    refine wq_iast rfl e59x rfl rfl ?_
    intro h64x e65x f66x l67x
    have e65x : zat h64x 192 = some (.inl (0, 252, (zset 0 (zset 0 (zset 0 (zset 0 (zset 0 (zset 0 (zset 0 (zset 0 (zset 0 ke 0 (nw.getD 0 0)) 6 (ai.getD 0 0)) 1 (nw.getD 1 0)) 7 (ai.getD 1 0)) 2 (nw.getD 2 0)) 8 (ai.getD 2 0)) 3 (nw.getD 3 0)) 9 (ai.getD 3 0)) 4 (nw.getD 4 0)))) := e65x
    refine wq_gos (f := 1) (pc2 := 26) (ls2 := [(2, .int 4), (0, .ref 162), (1, .int 0)]) (st2 := [.ref 162]) (h2 := h64x) (dc2 := 0) (ds2 := 0) 1 rfl ?_
    have e68x := (f66x.2 _ _ (wnc (by decide) wn0) e62x)
    refine wq_getf rfl e68x (hC7x.2 (26, 192) (by decide)) rfl ?_
    refine wq_gos (f := 1) (pc2 := 39) (ls2 := [(2, .int 4), (0, .ref 162), (1, .int 0)]) (st2 := [.ref 162, .int 10, .ref 192]) (h2 := h64x) (dc2 := 0) (ds2 := 0) 8 rfl ?_
    refine wq_getf rfl e68x (hC7x.2 (25, 190) (by decide)) rfl ?_
    refine wq_gos (f := 1) (pc2 := 43) (ls2 := [(2, .int 4), (0, .ref 162), (1, .int 0)]) (st2 := [.int 4, .ref 190, .int 10, .ref 192]) (h2 := h64x) (dc2 := 0) (ds2 := 0) 1 rfl ?_
    have e69x := (f66x.2 _ _ (wnc (by decide) wn0) (f60x.2 _ _ (wnc (by decide) wn0) e57x))
    refine wq_ialdk (k := 4) rfl e69x rfl rfl rfl ?_
    refine wq_iast rfl e65x rfl rfl ?_
    intro h70x e71x f72x l73x
    have e71x : zat h70x 192 = some (.inl (0, 252, (zset 0 (zset 0 (zset 0 (zset 0 (zset 0 (zset 0 (zset 0 (zset 0 (zset 0 (zset 0 ke 0 (nw.getD 0 0)) 6 (ai.getD 0 0)) 1 (nw.getD 1 0)) 7 (ai.getD 1 0)) 2 (nw.getD 2 0)) 8 (ai.getD 2 0)) 3 (nw.getD 3 0)) 9 (ai.getD 3 0)) 4 (nw.getD 4 0)) 10 (ai.getD 4 0)))) := e71x
    refine wq_gos (f := 1) (pc2 := 9) (ls2 := [(2, .int 5), (0, .ref 162), (1, .int 0)]) (st2 := [.ref 162]) (h2 := h70x) (dc2 := 0) (ds2 := 0) 6 rfl ?_
    have e74x := (f72x.2 _ _ (wnc (by decide) wn0) e68x)
    refine wq_getf rfl e74x (hC7x.2 (26, 192) (by decide)) rfl ?_
    refine wq_gos (f := 1) (pc2 := 19) (ls2 := [(2, .int 5), (0, .ref 162), (1, .int 0)]) (st2 := [.ref 162, .int 5, .ref 192]) (h2 := h70x) (dc2 := 0) (ds2 := 0) 6 rfl ?_
    refine wq_getf rfl e74x (hC7x.2 (24, 188) (by decide)) rfl ?_
    refine wq_gos (f := 1) (pc2 := 23) (ls2 := [(2, .int 5), (0, .ref 162), (1, .int 0)]) (st2 := [.int 5, .ref 188, .int 5, .ref 192]) (h2 := h70x) (dc2 := 0) (ds2 := 0) 1 rfl ?_
    have e75x := (f72x.2 _ _ (wnc (by decide) wn0) (f66x.2 _ _ (wnc (by decide) wn0) e63x))
    refine wq_ialdk (k := 5) rfl e75x rfl rfl rfl ?_
    refine wq_iast rfl e71x rfl rfl ?_
    intro h76x e77x f78x l79x
    have e77x : zat h76x 192 = some (.inl (0, 252, (zset 0 (zset 0 (zset 0 (zset 0 (zset 0 (zset 0 (zset 0 (zset 0 (zset 0 (zset 0 (zset 0 ke 0 (nw.getD 0 0)) 6 (ai.getD 0 0)) 1 (nw.getD 1 0)) 7 (ai.getD 1 0)) 2 (nw.getD 2 0)) 8 (ai.getD 2 0)) 3 (nw.getD 3 0)) 9 (ai.getD 3 0)) 4 (nw.getD 4 0)) 10 (ai.getD 4 0)) 5 (nw.getD 5 0)))) := e77x
    refine wq_gos (f := 1) (pc2 := 26) (ls2 := [(2, .int 5), (0, .ref 162), (1, .int 0)]) (st2 := [.ref 162]) (h2 := h76x) (dc2 := 0) (ds2 := 0) 1 rfl ?_
    have e80x := (f78x.2 _ _ (wnc (by decide) wn0) e74x)
    refine wq_getf rfl e80x (hC7x.2 (26, 192) (by decide)) rfl ?_
    refine wq_gos (f := 1) (pc2 := 39) (ls2 := [(2, .int 5), (0, .ref 162), (1, .int 0)]) (st2 := [.ref 162, .int 11, .ref 192]) (h2 := h76x) (dc2 := 0) (ds2 := 0) 8 rfl ?_
    refine wq_getf rfl e80x (hC7x.2 (25, 190) (by decide)) rfl ?_
    refine wq_gos (f := 1) (pc2 := 43) (ls2 := [(2, .int 5), (0, .ref 162), (1, .int 0)]) (st2 := [.int 5, .ref 190, .int 11, .ref 192]) (h2 := h76x) (dc2 := 0) (ds2 := 0) 1 rfl ?_
    have e81x := (f78x.2 _ _ (wnc (by decide) wn0) (f72x.2 _ _ (wnc (by decide) wn0) e69x))
    refine wq_ialdk (k := 5) rfl e81x rfl rfl rfl ?_
    refine wq_iast rfl e77x rfl rfl ?_
    intro h82x e83x f84x l85x
    have e83x : zat h82x 192 = some (.inl (0, 252, (zset 0 (zset 0 (zset 0 (zset 0 (zset 0 (zset 0 (zset 0 (zset 0 (zset 0 (zset 0 (zset 0 (zset 0 ke 0 (nw.getD 0 0)) 6 (ai.getD 0 0)) 1 (nw.getD 1 0)) 7 (ai.getD 1 0)) 2 (nw.getD 2 0)) 8 (ai.getD 2 0)) 3 (nw.getD 3 0)) 9 (ai.getD 3 0)) 4 (nw.getD 4 0)) 10 (ai.getD 4 0)) 5 (nw.getD 5 0)) 11 (ai.getD 5 0)))) := e83x
    refine wq_gos (f := 1) (pc2 := 51) (ls2 := [(2, .int 6), (0, .ref 162), (1, .int 0)]) (st2 := []) (h2 := h82x) (dc2 := 0) (ds2 := 0) 5 rfl ?_
    refine wq_ret rfl rfl ?_
    show wq 191 57 [(0, .ref 162)] [] h82x 0 0 _
    refine wq_gos (f := 1) (pc2 := 59) (ls2 := [(0, .ref 162)]) (st2 := [.ref 162, .ref 162]) (h2 := h82x) (dc2 := 0) (ds2 := 0) 2 rfl ?_
    have e86x := (f84x.2 _ _ (wnc (by decide) wn0) e80x)
    refine wq_getf rfl e86x p8x rfl ?_
    refine wq_gos (f := 1) (pc2 := 64) (ls2 := [(0, .ref 162)]) (st2 := [.int 1, .ref 162]) (h2 := h82x) (dc2 := 0) (ds2 := 0) 2 rfl ?_
    refine wq_putf rfl e86x rfl (by rw [hC7x.1]; rfl) rfl ?_
    intro h87x e88x f89x l90x
    obtain ⟨fs91x, hf92x⟩ : ∃ x, x = fs5x.set 27 (.int 1) := ⟨_, rfl⟩
    rw [← hf92x] at e88x
    have hC93x : mC fs91x := by rw [hf92x]; exact mC_set hC7x (by decide) _
    have p94x : fs91x[0]? = some (.int 0) := by rw [hf92x, List.getElem?_set_ne (by decide)]; exact p9x
    have p95x : fs91x[27]? = some (.int 1) := by rw [hf92x]; exact List.getElem?_set_self (by rw [hC7x.1]; decide)
    refine wq_ret rfl rfl ?_
    show wq 212 27 [(0, .ref 162), (1, .int 4), (2, .int v)] [] h87x 0 0 _
    refine wq_gos (f := 1) (pc2 := 28) (ls2 := [(0, .ref 162), (1, .int 4), (2, .int v)]) (st2 := [.ref 162]) (h2 := h87x) (dc2 := 0) (ds2 := 0) 1 rfl ?_
    refine wq_getf rfl e88x (hC93x.2 (24, 188) (by decide)) rfl ?_
    refine wq_gos (f := 1) (pc2 := 33) (ls2 := [(0, .ref 162), (1, .int 4), (2, .int v)]) (st2 := [.int v, .int 4, .ref 188]) (h2 := h87x) (dc2 := 0) (ds2 := 0) 2 rfl ?_
    have e96x := (f89x.2 _ _ (wnc (by decide) wn0) (f84x.2 _ _ (wnc (by decide) wn0) (f78x.2 _ _ (wnc (by decide) wn0) e75x)))
    refine wq_iast rfl e96x rfl rfl ?_
    intro h97x e98x f99x l100x
    have e98x : zat h97x 188 = some (.inl (0, 6, (zset 0 nw 4 v))) := e98x
    refine wq_gos (f := 1) (pc2 := 35) (ls2 := [(0, .ref 162), (1, .int 4), (2, .int v)]) (st2 := [.ref 162]) (h2 := h97x) (dc2 := 0) (ds2 := 0) 1 rfl ?_
    have e101x := (f99x.2 _ _ (wnc (by decide) wn0) e88x)
    refine wq_inlv (y2 := 242) (as := []) rfl rfl rfl e101x rfl ?_
    show wq 242 0 [(0, .ref 162)] [] h97x 0 0 _
    refine wq_gos (f := 1) (pc2 := 2) (ls2 := [(0, .ref 162)]) (st2 := [.int 0, .ref 162]) (h2 := h97x) (dc2 := 0) (ds2 := 0) 2 rfl ?_
    refine wq_putf rfl e101x rfl (by rw [hC93x.1]; rfl) rfl ?_
    intro h102x e103x f104x l105x
    obtain ⟨fs106x, hf107x⟩ : ∃ x, x = fs91x.set 33 (.int 0) := ⟨_, rfl⟩
    rw [← hf107x] at e103x
    have hC108x : mC fs106x := by rw [hf107x]; exact mC_set hC93x (by decide) _
    have p109x : fs106x[0]? = some (.int 0) := by rw [hf107x, List.getElem?_set_ne (by decide)]; exact p94x
    have p110x : fs106x[27]? = some (.int 1) := by rw [hf107x, List.getElem?_set_ne (by decide)]; exact p95x
    have p111x : fs106x[33]? = some (.int 0) := by rw [hf107x]; exact List.getElem?_set_self (by rw [hC93x.1]; decide)
    refine wq_gos (f := 1) (pc2 := 6) (ls2 := [(0, .ref 162)]) (st2 := [.ref 162]) (h2 := h102x) (dc2 := 0) (ds2 := 0) 1 rfl ?_
    refine wq_getf rfl e103x (hC108x.2 (43, 212) (by decide)) rfl ?_
    refine wq_gos (f := 1) (pc2 := 11) (ls2 := [(0, .ref 162)]) (st2 := [.int 0, .int 0, .ref 212]) (h2 := h102x) (dc2 := 0) (ds2 := 0) 2 rfl ?_
    have e112x := (f104x.2 _ _ (wnc (by decide) wn0) (f99x.2 _ _ (wnc (by decide) wn0) (f89x.2 _ _ (wnc (by decide) wn0) (f84x.2 _ _ (wnc (by decide) wn0) (f78x.2 _ _ (wnc (by decide) wn0) (f72x.2 _ _ (wnc (by decide) wn0) (f66x.2 _ _ (wnc (by decide) wn0) (f60x.2 _ _ (wnc (by decide) wn0) (f54x.2 _ _ (wnc (by decide) wn0) (f48x.2 _ _ (wnc (by decide) wn0) (f42x.2 _ _ (wnc (by decide) wn0) (f36x.2 _ _ (wnc (by decide) wn0) (f30x.2 _ _ (wnc (by decide) wn0) (f24x.2 _ _ (wnc (by decide) wn0) (f18x.2 _ _ (wnc (by decide) wn0) (f3x.2 _ _ (wnc (by decide) wn0) hHr))))))))))))))))
    refine wq_zast rfl e112x rfl rfl ?_
    intro h113x e114x f115x l116x
    have e114x : zat h113x 212 = some (.inl (2, 2, (zset 0 hr 0 (vp_nar .boolean (0 : Int32))))) := e114x
    refine wq_gos (f := 1) (pc2 := 13) (ls2 := [(0, .ref 162)]) (st2 := [.ref 162]) (h2 := h113x) (dc2 := 0) (ds2 := 0) 1 rfl ?_
    have e117x := (f115x.2 _ _ (wnc (by decide) wn0) e103x)
    refine wq_getf rfl e117x (hC108x.2 (43, 212) (by decide)) rfl ?_
    refine wq_gos (f := 1) (pc2 := 18) (ls2 := [(0, .ref 162)]) (st2 := [.int 0, .int 1, .ref 212]) (h2 := h113x) (dc2 := 0) (ds2 := 0) 2 rfl ?_
    refine wq_zast rfl e114x rfl rfl ?_
    intro h118x e119x f120x l121x
    have e119x : zat h118x 212 = some (.inl (2, 2, (zset 0 (zset 0 hr 0 (vp_nar .boolean (0 : Int32))) 1 (vp_nar .boolean (0 : Int32))))) := e119x
    refine wq_ret rfl rfl ?_
    show wq 212 38 [(0, .ref 162), (1, .int 4), (2, .int v)] [] h118x 0 0 _
    refine wq_gos (f := 1) (pc2 := 39) (ls2 := [(0, .ref 162), (1, .int 4), (2, .int v)]) (st2 := [.int 1]) (h2 := h118x) (dc2 := 0) (ds2 := 0) 1 rfl ?_
    exact wq_ret rfl rfl ⟨h118x, rfl⟩
set_option maxHeartbeats 4000000 in
theorem m_set5 {h : zH} {fs : List Value} {kn lo hi : List Int32} {nw ai ke hr : List Int32} (hM : zat h 162 = some (.inr (.inr (.inr (10, fs))))) (hC : mC fs) (hK : zat h 166 = some (.inl (0, 14, kn))) (hO : zat h 168 = some (.inl (0, 12, lo))) (hG : zat h 170 = some (.inl (0, 12, hi))) (h27 : fs[27]? = some (.int 0)) (hNw : zat h 188 = some (.inl (0, 6, nw))) (hAi : zat h 190 = some (.inl (0, 6, ai))) (hKe : zat h 192 = some (.inl (0, 252, ke))) (hHr : zat h 212 = some (.inl (2, 2, hr))) (v : Int32) (hal : jallow lo hi 5 v = true) : wq 212 0 [(0, .ref 162), (1, .int 5), (2, .int v)] [] h 0 0 (fun r => ∃ h2, r = (some (.int 1), h2, 0, 0)) := by
  refine wq_gos (f := 1) (pc2 := 2) (ls2 := [(0, .ref 162), (1, .int 5), (2, .int v)]) (st2 := [.int 0, .ref 162]) (h2 := h) (dc2 := 0) (ds2 := 0) 2 rfl ?_
  refine wq_putf rfl hM rfl (by rw [hC.1]; rfl) rfl ?_
  intro h1x e2x f3x l4x
  obtain ⟨fs5x, hf6x⟩ : ∃ x, x = fs.set 0 (.int 0) := ⟨_, rfl⟩
  rw [← hf6x] at e2x
  have hC7x : mC fs5x := by rw [hf6x]; exact mC_set hC (by decide) _
  have p8x : fs5x[27]? = some (.int 0) := by rw [hf6x, List.getElem?_set_ne (by decide)]; exact h27
  have p9x : fs5x[0]? = some (.int 0) := by rw [hf6x]; exact List.getElem?_set_self (by rw [hC.1]; decide)
  refine wq_gos (f := 1) (pc2 := 6) (ls2 := [(0, .ref 162), (1, .int 5), (2, .int v)]) (st2 := [.int 5]) (h2 := h1x) (dc2 := 0) (ds2 := 0) 1 rfl ?_
  refine wq_inl (y2 := 208) (as := [.int 5]) rfl rfl rfl ?_
  show wq 208 0 [(0, .int 5)] [] h1x 0 0 _
  refine wq_gos (f := 1) (pc2 := 15) (ls2 := [(0, .int 5)]) (st2 := [.int 1]) (h2 := h1x) (dc2 := 0) (ds2 := 0) 7 rfl ?_
  refine wq_ret rfl rfl ?_
  show wq 212 9 [(0, .ref 162), (1, .int 5), (2, .int v)] [.int 1] h1x 0 0 _
  refine wq_gos (f := 1) (pc2 := 15) (ls2 := [(0, .ref 162), (1, .int 5), (2, .int v)]) (st2 := [.int v, .int 5, .ref 162]) (h2 := h1x) (dc2 := 0) (ds2 := 0) 4 rfl ?_
  have e10x := (f3x.2 _ _ (wnc (by decide) wn0) hK)
  have e11x := (f3x.2 _ _ (wnc (by decide) wn0) hO)
  have e12x := (f3x.2 _ _ (wnc (by decide) wn0) hG)
  cases q13x : jallow lo hi (5 : Int32) v with
  | false =>
    refine wq_inlv (y2 := 207) (as := [.int 5, .int v]) rfl rfl rfl e2x rfl (wq_T (show zT zg0 zF zP 207 0 [(0, .ref 162), (1, .int 5), (2, .int v)] [] h1x 0 0 (some (.int 0), h1x, 0, 0) from by have q9 := c_within e2x (hC7x.2 (3, 166) (by decide)) (hC7x.2 (4, 168) (by decide)) (hC7x.2 (5, 170) (by decide)) e10x e11x e12x (j := (5 : Int32)) rfl v; rw [q13x] at q9; exact q9) ?_)
    show wq 212 18 [(0, .ref 162), (1, .int 5), (2, .int v)] [.int 0] h1x 0 0 _
    refine wq_gos (f := 1) (pc2 := 22) (ls2 := [(0, .ref 162), (1, .int 5), (2, .int v)]) (st2 := [.int 0]) (h2 := h1x) (dc2 := 0) (ds2 := 0) 2 rfl ?_
    exfalso; rw [hal] at q13x; exact absurd q13x (by decide)
  | true =>
    refine wq_inlv (y2 := 207) (as := [.int 5, .int v]) rfl rfl rfl e2x rfl (wq_T (show zT zg0 zF zP 207 0 [(0, .ref 162), (1, .int 5), (2, .int v)] [] h1x 0 0 (some (.int 1), h1x, 0, 0) from by have q9 := c_within e2x (hC7x.2 (3, 166) (by decide)) (hC7x.2 (4, 168) (by decide)) (hC7x.2 (5, 170) (by decide)) e10x e11x e12x (j := (5 : Int32)) rfl v; rw [q13x] at q9; exact q9) ?_)
    show wq 212 18 [(0, .ref 162), (1, .int 5), (2, .int v)] [.int 1] h1x 0 0 _
    refine wq_gos (f := 1) (pc2 := 24) (ls2 := [(0, .ref 162), (1, .int 5), (2, .int v)]) (st2 := [.ref 162]) (h2 := h1x) (dc2 := 0) (ds2 := 0) 2 rfl ?_
    refine wq_inlv (y2 := 191) (as := []) rfl rfl rfl e2x rfl ?_
    show wq 191 0 [(0, .ref 162)] [] h1x 0 0 _
    refine wq_gos (f := 1) (pc2 := 1) (ls2 := [(0, .ref 162)]) (st2 := [.ref 162]) (h2 := h1x) (dc2 := 0) (ds2 := 0) 1 rfl ?_
    refine wq_getf rfl e2x p8x rfl ?_
    refine wq_gos (f := 1) (pc2 := 51) (ls2 := [(0, .ref 162)]) (st2 := [.ref 162, .ref 162]) (h2 := h1x) (dc2 := 0) (ds2 := 0) 4 rfl ?_
    refine wq_getf rfl e2x p8x rfl ?_
    refine wq_inlv (y2 := 189) (as := [.int 0]) rfl rfl rfl e2x rfl ?_
    show wq 189 0 [(0, .ref 162), (1, .int 0)] [] h1x 0 0 _
    refine wq_gos (f := 1) (pc2 := 9) (ls2 := [(2, .int 0), (0, .ref 162), (1, .int 0)]) (st2 := [.ref 162]) (h2 := h1x) (dc2 := 0) (ds2 := 0) 6 rfl ?_
    refine wq_getf rfl e2x (hC7x.2 (26, 192) (by decide)) rfl ?_
    refine wq_gos (f := 1) (pc2 := 19) (ls2 := [(2, .int 0), (0, .ref 162), (1, .int 0)]) (st2 := [.ref 162, .int 0, .ref 192]) (h2 := h1x) (dc2 := 0) (ds2 := 0) 6 rfl ?_
    refine wq_getf rfl e2x (hC7x.2 (24, 188) (by decide)) rfl ?_
    refine wq_gos (f := 1) (pc2 := 23) (ls2 := [(2, .int 0), (0, .ref 162), (1, .int 0)]) (st2 := [.int 0, .ref 188, .int 0, .ref 192]) (h2 := h1x) (dc2 := 0) (ds2 := 0) 1 rfl ?_
    have e14x := (f3x.2 _ _ (wnc (by decide) wn0) hNw)
    refine wq_ialdk (k := 0) rfl e14x rfl rfl rfl ?_
    have e15x := (f3x.2 _ _ (wnc (by decide) wn0) hKe)
    refine wq_iast rfl e15x rfl rfl ?_
    intro h16x e17x f18x l19x
    have e17x : zat h16x 192 = some (.inl (0, 252, (zset 0 ke 0 (nw.getD 0 0)))) := e17x
    refine wq_gos (f := 1) (pc2 := 26) (ls2 := [(2, .int 0), (0, .ref 162), (1, .int 0)]) (st2 := [.ref 162]) (h2 := h16x) (dc2 := 0) (ds2 := 0) 1 rfl ?_
    have e20x := (f18x.2 _ _ (wnc (by decide) wn0) e2x)
    refine wq_getf rfl e20x (hC7x.2 (26, 192) (by decide)) rfl ?_
    refine wq_gos (f := 1) (pc2 := 39) (ls2 := [(2, .int 0), (0, .ref 162), (1, .int 0)]) (st2 := [.ref 162, .int 6, .ref 192]) (h2 := h16x) (dc2 := 0) (ds2 := 0) 8 rfl ?_
    refine wq_getf rfl e20x (hC7x.2 (25, 190) (by decide)) rfl ?_
    refine wq_gos (f := 1) (pc2 := 43) (ls2 := [(2, .int 0), (0, .ref 162), (1, .int 0)]) (st2 := [.int 0, .ref 190, .int 6, .ref 192]) (h2 := h16x) (dc2 := 0) (ds2 := 0) 1 rfl ?_
    have e21x := (f18x.2 _ _ (wnc (by decide) wn0) (f3x.2 _ _ (wnc (by decide) wn0) hAi))
    refine wq_ialdk (k := 0) rfl e21x rfl rfl rfl ?_
    refine wq_iast rfl e17x rfl rfl ?_
    intro h22x e23x f24x l25x
    have e23x : zat h22x 192 = some (.inl (0, 252, (zset 0 (zset 0 ke 0 (nw.getD 0 0)) 6 (ai.getD 0 0)))) := e23x
    refine wq_gos (f := 1) (pc2 := 9) (ls2 := [(2, .int 1), (0, .ref 162), (1, .int 0)]) (st2 := [.ref 162]) (h2 := h22x) (dc2 := 0) (ds2 := 0) 6 rfl ?_
    have e26x := (f24x.2 _ _ (wnc (by decide) wn0) e20x)
    refine wq_getf rfl e26x (hC7x.2 (26, 192) (by decide)) rfl ?_
    refine wq_gos (f := 1) (pc2 := 19) (ls2 := [(2, .int 1), (0, .ref 162), (1, .int 0)]) (st2 := [.ref 162, .int 1, .ref 192]) (h2 := h22x) (dc2 := 0) (ds2 := 0) 6 rfl ?_
    refine wq_getf rfl e26x (hC7x.2 (24, 188) (by decide)) rfl ?_
    refine wq_gos (f := 1) (pc2 := 23) (ls2 := [(2, .int 1), (0, .ref 162), (1, .int 0)]) (st2 := [.int 1, .ref 188, .int 1, .ref 192]) (h2 := h22x) (dc2 := 0) (ds2 := 0) 1 rfl ?_
    have e27x := (f24x.2 _ _ (wnc (by decide) wn0) (f18x.2 _ _ (wnc (by decide) wn0) e14x))
    refine wq_ialdk (k := 1) rfl e27x rfl rfl rfl ?_
    refine wq_iast rfl e23x rfl rfl ?_
    intro h28x e29x f30x l31x
    have e29x : zat h28x 192 = some (.inl (0, 252, (zset 0 (zset 0 (zset 0 ke 0 (nw.getD 0 0)) 6 (ai.getD 0 0)) 1 (nw.getD 1 0)))) := e29x
    refine wq_gos (f := 1) (pc2 := 26) (ls2 := [(2, .int 1), (0, .ref 162), (1, .int 0)]) (st2 := [.ref 162]) (h2 := h28x) (dc2 := 0) (ds2 := 0) 1 rfl ?_
    have e32x := (f30x.2 _ _ (wnc (by decide) wn0) e26x)
    refine wq_getf rfl e32x (hC7x.2 (26, 192) (by decide)) rfl ?_
    refine wq_gos (f := 1) (pc2 := 39) (ls2 := [(2, .int 1), (0, .ref 162), (1, .int 0)]) (st2 := [.ref 162, .int 7, .ref 192]) (h2 := h28x) (dc2 := 0) (ds2 := 0) 8 rfl ?_
    refine wq_getf rfl e32x (hC7x.2 (25, 190) (by decide)) rfl ?_
    refine wq_gos (f := 1) (pc2 := 43) (ls2 := [(2, .int 1), (0, .ref 162), (1, .int 0)]) (st2 := [.int 1, .ref 190, .int 7, .ref 192]) (h2 := h28x) (dc2 := 0) (ds2 := 0) 1 rfl ?_
    have e33x := (f30x.2 _ _ (wnc (by decide) wn0) (f24x.2 _ _ (wnc (by decide) wn0) e21x))
    refine wq_ialdk (k := 1) rfl e33x rfl rfl rfl ?_
    refine wq_iast rfl e29x rfl rfl ?_
    intro h34x e35x f36x l37x
    have e35x : zat h34x 192 = some (.inl (0, 252, (zset 0 (zset 0 (zset 0 (zset 0 ke 0 (nw.getD 0 0)) 6 (ai.getD 0 0)) 1 (nw.getD 1 0)) 7 (ai.getD 1 0)))) := e35x
    refine wq_gos (f := 1) (pc2 := 9) (ls2 := [(2, .int 2), (0, .ref 162), (1, .int 0)]) (st2 := [.ref 162]) (h2 := h34x) (dc2 := 0) (ds2 := 0) 6 rfl ?_
    have e38x := (f36x.2 _ _ (wnc (by decide) wn0) e32x)
    refine wq_getf rfl e38x (hC7x.2 (26, 192) (by decide)) rfl ?_
    refine wq_gos (f := 1) (pc2 := 19) (ls2 := [(2, .int 2), (0, .ref 162), (1, .int 0)]) (st2 := [.ref 162, .int 2, .ref 192]) (h2 := h34x) (dc2 := 0) (ds2 := 0) 6 rfl ?_
    refine wq_getf rfl e38x (hC7x.2 (24, 188) (by decide)) rfl ?_
    refine wq_gos (f := 1) (pc2 := 23) (ls2 := [(2, .int 2), (0, .ref 162), (1, .int 0)]) (st2 := [.int 2, .ref 188, .int 2, .ref 192]) (h2 := h34x) (dc2 := 0) (ds2 := 0) 1 rfl ?_
    have e39x := (f36x.2 _ _ (wnc (by decide) wn0) (f30x.2 _ _ (wnc (by decide) wn0) e27x))
    refine wq_ialdk (k := 2) rfl e39x rfl rfl rfl ?_
    refine wq_iast rfl e35x rfl rfl ?_
    intro h40x e41x f42x l43x
    have e41x : zat h40x 192 = some (.inl (0, 252, (zset 0 (zset 0 (zset 0 (zset 0 (zset 0 ke 0 (nw.getD 0 0)) 6 (ai.getD 0 0)) 1 (nw.getD 1 0)) 7 (ai.getD 1 0)) 2 (nw.getD 2 0)))) := e41x
    refine wq_gos (f := 1) (pc2 := 26) (ls2 := [(2, .int 2), (0, .ref 162), (1, .int 0)]) (st2 := [.ref 162]) (h2 := h40x) (dc2 := 0) (ds2 := 0) 1 rfl ?_
    have e44x := (f42x.2 _ _ (wnc (by decide) wn0) e38x)
    refine wq_getf rfl e44x (hC7x.2 (26, 192) (by decide)) rfl ?_
    refine wq_gos (f := 1) (pc2 := 39) (ls2 := [(2, .int 2), (0, .ref 162), (1, .int 0)]) (st2 := [.ref 162, .int 8, .ref 192]) (h2 := h40x) (dc2 := 0) (ds2 := 0) 8 rfl ?_
    refine wq_getf rfl e44x (hC7x.2 (25, 190) (by decide)) rfl ?_
    refine wq_gos (f := 1) (pc2 := 43) (ls2 := [(2, .int 2), (0, .ref 162), (1, .int 0)]) (st2 := [.int 2, .ref 190, .int 8, .ref 192]) (h2 := h40x) (dc2 := 0) (ds2 := 0) 1 rfl ?_
    have e45x := (f42x.2 _ _ (wnc (by decide) wn0) (f36x.2 _ _ (wnc (by decide) wn0) e33x))
    refine wq_ialdk (k := 2) rfl e45x rfl rfl rfl ?_
    refine wq_iast rfl e41x rfl rfl ?_
    intro h46x e47x f48x l49x
    have e47x : zat h46x 192 = some (.inl (0, 252, (zset 0 (zset 0 (zset 0 (zset 0 (zset 0 (zset 0 ke 0 (nw.getD 0 0)) 6 (ai.getD 0 0)) 1 (nw.getD 1 0)) 7 (ai.getD 1 0)) 2 (nw.getD 2 0)) 8 (ai.getD 2 0)))) := e47x
    refine wq_gos (f := 1) (pc2 := 9) (ls2 := [(2, .int 3), (0, .ref 162), (1, .int 0)]) (st2 := [.ref 162]) (h2 := h46x) (dc2 := 0) (ds2 := 0) 6 rfl ?_
    have e50x := (f48x.2 _ _ (wnc (by decide) wn0) e44x)
    refine wq_getf rfl e50x (hC7x.2 (26, 192) (by decide)) rfl ?_
    refine wq_gos (f := 1) (pc2 := 19) (ls2 := [(2, .int 3), (0, .ref 162), (1, .int 0)]) (st2 := [.ref 162, .int 3, .ref 192]) (h2 := h46x) (dc2 := 0) (ds2 := 0) 6 rfl ?_
    refine wq_getf rfl e50x (hC7x.2 (24, 188) (by decide)) rfl ?_
    refine wq_gos (f := 1) (pc2 := 23) (ls2 := [(2, .int 3), (0, .ref 162), (1, .int 0)]) (st2 := [.int 3, .ref 188, .int 3, .ref 192]) (h2 := h46x) (dc2 := 0) (ds2 := 0) 1 rfl ?_
    have e51x := (f48x.2 _ _ (wnc (by decide) wn0) (f42x.2 _ _ (wnc (by decide) wn0) e39x))
    refine wq_ialdk (k := 3) rfl e51x rfl rfl rfl ?_
    refine wq_iast rfl e47x rfl rfl ?_
    intro h52x e53x f54x l55x
    have e53x : zat h52x 192 = some (.inl (0, 252, (zset 0 (zset 0 (zset 0 (zset 0 (zset 0 (zset 0 (zset 0 ke 0 (nw.getD 0 0)) 6 (ai.getD 0 0)) 1 (nw.getD 1 0)) 7 (ai.getD 1 0)) 2 (nw.getD 2 0)) 8 (ai.getD 2 0)) 3 (nw.getD 3 0)))) := e53x
    refine wq_gos (f := 1) (pc2 := 26) (ls2 := [(2, .int 3), (0, .ref 162), (1, .int 0)]) (st2 := [.ref 162]) (h2 := h52x) (dc2 := 0) (ds2 := 0) 1 rfl ?_
    have e56x := (f54x.2 _ _ (wnc (by decide) wn0) e50x)
    refine wq_getf rfl e56x (hC7x.2 (26, 192) (by decide)) rfl ?_
    refine wq_gos (f := 1) (pc2 := 39) (ls2 := [(2, .int 3), (0, .ref 162), (1, .int 0)]) (st2 := [.ref 162, .int 9, .ref 192]) (h2 := h52x) (dc2 := 0) (ds2 := 0) 8 rfl ?_
    refine wq_getf rfl e56x (hC7x.2 (25, 190) (by decide)) rfl ?_
    refine wq_gos (f := 1) (pc2 := 43) (ls2 := [(2, .int 3), (0, .ref 162), (1, .int 0)]) (st2 := [.int 3, .ref 190, .int 9, .ref 192]) (h2 := h52x) (dc2 := 0) (ds2 := 0) 1 rfl ?_
    have e57x := (f54x.2 _ _ (wnc (by decide) wn0) (f48x.2 _ _ (wnc (by decide) wn0) e45x))
    refine wq_ialdk (k := 3) rfl e57x rfl rfl rfl ?_
    refine wq_iast rfl e53x rfl rfl ?_
    intro h58x e59x f60x l61x
    have e59x : zat h58x 192 = some (.inl (0, 252, (zset 0 (zset 0 (zset 0 (zset 0 (zset 0 (zset 0 (zset 0 (zset 0 ke 0 (nw.getD 0 0)) 6 (ai.getD 0 0)) 1 (nw.getD 1 0)) 7 (ai.getD 1 0)) 2 (nw.getD 2 0)) 8 (ai.getD 2 0)) 3 (nw.getD 3 0)) 9 (ai.getD 3 0)))) := e59x
    refine wq_gos (f := 1) (pc2 := 9) (ls2 := [(2, .int 4), (0, .ref 162), (1, .int 0)]) (st2 := [.ref 162]) (h2 := h58x) (dc2 := 0) (ds2 := 0) 6 rfl ?_
    have e62x := (f60x.2 _ _ (wnc (by decide) wn0) e56x)
    refine wq_getf rfl e62x (hC7x.2 (26, 192) (by decide)) rfl ?_
    refine wq_gos (f := 1) (pc2 := 19) (ls2 := [(2, .int 4), (0, .ref 162), (1, .int 0)]) (st2 := [.ref 162, .int 4, .ref 192]) (h2 := h58x) (dc2 := 0) (ds2 := 0) 6 rfl ?_
    refine wq_getf rfl e62x (hC7x.2 (24, 188) (by decide)) rfl ?_
    refine wq_gos (f := 1) (pc2 := 23) (ls2 := [(2, .int 4), (0, .ref 162), (1, .int 0)]) (st2 := [.int 4, .ref 188, .int 4, .ref 192]) (h2 := h58x) (dc2 := 0) (ds2 := 0) 1 rfl ?_
    have e63x := (f60x.2 _ _ (wnc (by decide) wn0) (f54x.2 _ _ (wnc (by decide) wn0) e51x))
    refine wq_ialdk (k := 4) rfl e63x rfl rfl rfl ?_
    refine wq_iast rfl e59x rfl rfl ?_
    intro h64x e65x f66x l67x
    have e65x : zat h64x 192 = some (.inl (0, 252, (zset 0 (zset 0 (zset 0 (zset 0 (zset 0 (zset 0 (zset 0 (zset 0 (zset 0 ke 0 (nw.getD 0 0)) 6 (ai.getD 0 0)) 1 (nw.getD 1 0)) 7 (ai.getD 1 0)) 2 (nw.getD 2 0)) 8 (ai.getD 2 0)) 3 (nw.getD 3 0)) 9 (ai.getD 3 0)) 4 (nw.getD 4 0)))) := e65x
    refine wq_gos (f := 1) (pc2 := 26) (ls2 := [(2, .int 4), (0, .ref 162), (1, .int 0)]) (st2 := [.ref 162]) (h2 := h64x) (dc2 := 0) (ds2 := 0) 1 rfl ?_
    have e68x := (f66x.2 _ _ (wnc (by decide) wn0) e62x)
    refine wq_getf rfl e68x (hC7x.2 (26, 192) (by decide)) rfl ?_
    refine wq_gos (f := 1) (pc2 := 39) (ls2 := [(2, .int 4), (0, .ref 162), (1, .int 0)]) (st2 := [.ref 162, .int 10, .ref 192]) (h2 := h64x) (dc2 := 0) (ds2 := 0) 8 rfl ?_
    refine wq_getf rfl e68x (hC7x.2 (25, 190) (by decide)) rfl ?_
    refine wq_gos (f := 1) (pc2 := 43) (ls2 := [(2, .int 4), (0, .ref 162), (1, .int 0)]) (st2 := [.int 4, .ref 190, .int 10, .ref 192]) (h2 := h64x) (dc2 := 0) (ds2 := 0) 1 rfl ?_
    have e69x := (f66x.2 _ _ (wnc (by decide) wn0) (f60x.2 _ _ (wnc (by decide) wn0) e57x))
    refine wq_ialdk (k := 4) rfl e69x rfl rfl rfl ?_
    refine wq_iast rfl e65x rfl rfl ?_
    intro h70x e71x f72x l73x
    have e71x : zat h70x 192 = some (.inl (0, 252, (zset 0 (zset 0 (zset 0 (zset 0 (zset 0 (zset 0 (zset 0 (zset 0 (zset 0 (zset 0 ke 0 (nw.getD 0 0)) 6 (ai.getD 0 0)) 1 (nw.getD 1 0)) 7 (ai.getD 1 0)) 2 (nw.getD 2 0)) 8 (ai.getD 2 0)) 3 (nw.getD 3 0)) 9 (ai.getD 3 0)) 4 (nw.getD 4 0)) 10 (ai.getD 4 0)))) := e71x
    refine wq_gos (f := 1) (pc2 := 9) (ls2 := [(2, .int 5), (0, .ref 162), (1, .int 0)]) (st2 := [.ref 162]) (h2 := h70x) (dc2 := 0) (ds2 := 0) 6 rfl ?_
    have e74x := (f72x.2 _ _ (wnc (by decide) wn0) e68x)
    refine wq_getf rfl e74x (hC7x.2 (26, 192) (by decide)) rfl ?_
    refine wq_gos (f := 1) (pc2 := 19) (ls2 := [(2, .int 5), (0, .ref 162), (1, .int 0)]) (st2 := [.ref 162, .int 5, .ref 192]) (h2 := h70x) (dc2 := 0) (ds2 := 0) 6 rfl ?_
    refine wq_getf rfl e74x (hC7x.2 (24, 188) (by decide)) rfl ?_
    refine wq_gos (f := 1) (pc2 := 23) (ls2 := [(2, .int 5), (0, .ref 162), (1, .int 0)]) (st2 := [.int 5, .ref 188, .int 5, .ref 192]) (h2 := h70x) (dc2 := 0) (ds2 := 0) 1 rfl ?_
    have e75x := (f72x.2 _ _ (wnc (by decide) wn0) (f66x.2 _ _ (wnc (by decide) wn0) e63x))
    refine wq_ialdk (k := 5) rfl e75x rfl rfl rfl ?_
    refine wq_iast rfl e71x rfl rfl ?_
    intro h76x e77x f78x l79x
    have e77x : zat h76x 192 = some (.inl (0, 252, (zset 0 (zset 0 (zset 0 (zset 0 (zset 0 (zset 0 (zset 0 (zset 0 (zset 0 (zset 0 (zset 0 ke 0 (nw.getD 0 0)) 6 (ai.getD 0 0)) 1 (nw.getD 1 0)) 7 (ai.getD 1 0)) 2 (nw.getD 2 0)) 8 (ai.getD 2 0)) 3 (nw.getD 3 0)) 9 (ai.getD 3 0)) 4 (nw.getD 4 0)) 10 (ai.getD 4 0)) 5 (nw.getD 5 0)))) := e77x
    refine wq_gos (f := 1) (pc2 := 26) (ls2 := [(2, .int 5), (0, .ref 162), (1, .int 0)]) (st2 := [.ref 162]) (h2 := h76x) (dc2 := 0) (ds2 := 0) 1 rfl ?_
    have e80x := (f78x.2 _ _ (wnc (by decide) wn0) e74x)
    refine wq_getf rfl e80x (hC7x.2 (26, 192) (by decide)) rfl ?_
    refine wq_gos (f := 1) (pc2 := 39) (ls2 := [(2, .int 5), (0, .ref 162), (1, .int 0)]) (st2 := [.ref 162, .int 11, .ref 192]) (h2 := h76x) (dc2 := 0) (ds2 := 0) 8 rfl ?_
    refine wq_getf rfl e80x (hC7x.2 (25, 190) (by decide)) rfl ?_
    refine wq_gos (f := 1) (pc2 := 43) (ls2 := [(2, .int 5), (0, .ref 162), (1, .int 0)]) (st2 := [.int 5, .ref 190, .int 11, .ref 192]) (h2 := h76x) (dc2 := 0) (ds2 := 0) 1 rfl ?_
    have e81x := (f78x.2 _ _ (wnc (by decide) wn0) (f72x.2 _ _ (wnc (by decide) wn0) e69x))
    refine wq_ialdk (k := 5) rfl e81x rfl rfl rfl ?_
    refine wq_iast rfl e77x rfl rfl ?_
    intro h82x e83x f84x l85x
    have e83x : zat h82x 192 = some (.inl (0, 252, (zset 0 (zset 0 (zset 0 (zset 0 (zset 0 (zset 0 (zset 0 (zset 0 (zset 0 (zset 0 (zset 0 (zset 0 ke 0 (nw.getD 0 0)) 6 (ai.getD 0 0)) 1 (nw.getD 1 0)) 7 (ai.getD 1 0)) 2 (nw.getD 2 0)) 8 (ai.getD 2 0)) 3 (nw.getD 3 0)) 9 (ai.getD 3 0)) 4 (nw.getD 4 0)) 10 (ai.getD 4 0)) 5 (nw.getD 5 0)) 11 (ai.getD 5 0)))) := e83x
    refine wq_gos (f := 1) (pc2 := 51) (ls2 := [(2, .int 6), (0, .ref 162), (1, .int 0)]) (st2 := []) (h2 := h82x) (dc2 := 0) (ds2 := 0) 5 rfl ?_
    refine wq_ret rfl rfl ?_
    show wq 191 57 [(0, .ref 162)] [] h82x 0 0 _
    refine wq_gos (f := 1) (pc2 := 59) (ls2 := [(0, .ref 162)]) (st2 := [.ref 162, .ref 162]) (h2 := h82x) (dc2 := 0) (ds2 := 0) 2 rfl ?_
    have e86x := (f84x.2 _ _ (wnc (by decide) wn0) e80x)
    refine wq_getf rfl e86x p8x rfl ?_
    refine wq_gos (f := 1) (pc2 := 64) (ls2 := [(0, .ref 162)]) (st2 := [.int 1, .ref 162]) (h2 := h82x) (dc2 := 0) (ds2 := 0) 2 rfl ?_
    refine wq_putf rfl e86x rfl (by rw [hC7x.1]; rfl) rfl ?_
    intro h87x e88x f89x l90x
    obtain ⟨fs91x, hf92x⟩ : ∃ x, x = fs5x.set 27 (.int 1) := ⟨_, rfl⟩
    rw [← hf92x] at e88x
    have hC93x : mC fs91x := by rw [hf92x]; exact mC_set hC7x (by decide) _
    have p94x : fs91x[0]? = some (.int 0) := by rw [hf92x, List.getElem?_set_ne (by decide)]; exact p9x
    have p95x : fs91x[27]? = some (.int 1) := by rw [hf92x]; exact List.getElem?_set_self (by rw [hC7x.1]; decide)
    refine wq_ret rfl rfl ?_
    show wq 212 27 [(0, .ref 162), (1, .int 5), (2, .int v)] [] h87x 0 0 _
    refine wq_gos (f := 1) (pc2 := 28) (ls2 := [(0, .ref 162), (1, .int 5), (2, .int v)]) (st2 := [.ref 162]) (h2 := h87x) (dc2 := 0) (ds2 := 0) 1 rfl ?_
    refine wq_getf rfl e88x (hC93x.2 (24, 188) (by decide)) rfl ?_
    refine wq_gos (f := 1) (pc2 := 33) (ls2 := [(0, .ref 162), (1, .int 5), (2, .int v)]) (st2 := [.int v, .int 5, .ref 188]) (h2 := h87x) (dc2 := 0) (ds2 := 0) 2 rfl ?_
    have e96x := (f89x.2 _ _ (wnc (by decide) wn0) (f84x.2 _ _ (wnc (by decide) wn0) (f78x.2 _ _ (wnc (by decide) wn0) e75x)))
    refine wq_iast rfl e96x rfl rfl ?_
    intro h97x e98x f99x l100x
    have e98x : zat h97x 188 = some (.inl (0, 6, (zset 0 nw 5 v))) := e98x
    refine wq_gos (f := 1) (pc2 := 35) (ls2 := [(0, .ref 162), (1, .int 5), (2, .int v)]) (st2 := [.ref 162]) (h2 := h97x) (dc2 := 0) (ds2 := 0) 1 rfl ?_
    have e101x := (f99x.2 _ _ (wnc (by decide) wn0) e88x)
    refine wq_inlv (y2 := 242) (as := []) rfl rfl rfl e101x rfl ?_
    show wq 242 0 [(0, .ref 162)] [] h97x 0 0 _
    refine wq_gos (f := 1) (pc2 := 2) (ls2 := [(0, .ref 162)]) (st2 := [.int 0, .ref 162]) (h2 := h97x) (dc2 := 0) (ds2 := 0) 2 rfl ?_
    refine wq_putf rfl e101x rfl (by rw [hC93x.1]; rfl) rfl ?_
    intro h102x e103x f104x l105x
    obtain ⟨fs106x, hf107x⟩ : ∃ x, x = fs91x.set 33 (.int 0) := ⟨_, rfl⟩
    rw [← hf107x] at e103x
    have hC108x : mC fs106x := by rw [hf107x]; exact mC_set hC93x (by decide) _
    have p109x : fs106x[0]? = some (.int 0) := by rw [hf107x, List.getElem?_set_ne (by decide)]; exact p94x
    have p110x : fs106x[27]? = some (.int 1) := by rw [hf107x, List.getElem?_set_ne (by decide)]; exact p95x
    have p111x : fs106x[33]? = some (.int 0) := by rw [hf107x]; exact List.getElem?_set_self (by rw [hC93x.1]; decide)
    refine wq_gos (f := 1) (pc2 := 6) (ls2 := [(0, .ref 162)]) (st2 := [.ref 162]) (h2 := h102x) (dc2 := 0) (ds2 := 0) 1 rfl ?_
    refine wq_getf rfl e103x (hC108x.2 (43, 212) (by decide)) rfl ?_
    refine wq_gos (f := 1) (pc2 := 11) (ls2 := [(0, .ref 162)]) (st2 := [.int 0, .int 0, .ref 212]) (h2 := h102x) (dc2 := 0) (ds2 := 0) 2 rfl ?_
    have e112x := (f104x.2 _ _ (wnc (by decide) wn0) (f99x.2 _ _ (wnc (by decide) wn0) (f89x.2 _ _ (wnc (by decide) wn0) (f84x.2 _ _ (wnc (by decide) wn0) (f78x.2 _ _ (wnc (by decide) wn0) (f72x.2 _ _ (wnc (by decide) wn0) (f66x.2 _ _ (wnc (by decide) wn0) (f60x.2 _ _ (wnc (by decide) wn0) (f54x.2 _ _ (wnc (by decide) wn0) (f48x.2 _ _ (wnc (by decide) wn0) (f42x.2 _ _ (wnc (by decide) wn0) (f36x.2 _ _ (wnc (by decide) wn0) (f30x.2 _ _ (wnc (by decide) wn0) (f24x.2 _ _ (wnc (by decide) wn0) (f18x.2 _ _ (wnc (by decide) wn0) (f3x.2 _ _ (wnc (by decide) wn0) hHr))))))))))))))))
    refine wq_zast rfl e112x rfl rfl ?_
    intro h113x e114x f115x l116x
    have e114x : zat h113x 212 = some (.inl (2, 2, (zset 0 hr 0 (vp_nar .boolean (0 : Int32))))) := e114x
    refine wq_gos (f := 1) (pc2 := 13) (ls2 := [(0, .ref 162)]) (st2 := [.ref 162]) (h2 := h113x) (dc2 := 0) (ds2 := 0) 1 rfl ?_
    have e117x := (f115x.2 _ _ (wnc (by decide) wn0) e103x)
    refine wq_getf rfl e117x (hC108x.2 (43, 212) (by decide)) rfl ?_
    refine wq_gos (f := 1) (pc2 := 18) (ls2 := [(0, .ref 162)]) (st2 := [.int 0, .int 1, .ref 212]) (h2 := h113x) (dc2 := 0) (ds2 := 0) 2 rfl ?_
    refine wq_zast rfl e114x rfl rfl ?_
    intro h118x e119x f120x l121x
    have e119x : zat h118x 212 = some (.inl (2, 2, (zset 0 (zset 0 hr 0 (vp_nar .boolean (0 : Int32))) 1 (vp_nar .boolean (0 : Int32))))) := e119x
    refine wq_ret rfl rfl ?_
    show wq 212 38 [(0, .ref 162), (1, .int 5), (2, .int v)] [] h118x 0 0 _
    refine wq_gos (f := 1) (pc2 := 39) (ls2 := [(0, .ref 162), (1, .int 5), (2, .int v)]) (st2 := [.int 1]) (h2 := h118x) (dc2 := 0) (ds2 := 0) 1 rfl ?_
    exact wq_ret rfl rfl ⟨h118x, rfl⟩
