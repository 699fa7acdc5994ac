/-! Solver.solve as a whole. -/
theorem sTurn_c {tg pl : List Int32} (h : ∀ i, i < 6 → tg.getD i 0 = pl.getD i 0) (ll lg : List Int32) (lk hd ht t : Int32) : sTurn ll lg lk hd ht tg t = sTurn ll lg lk hd ht pl t := by
  unfold sTurn sTurn1 jpit jfit jroll0
  rw [h 0 (by decide), h 1 (by decide), h 2 (by decide), h 3 (by decide), h 4 (by decide), h 5 (by decide)]
theorem sSolL_c {tg pl : List Int32} (h : ∀ i, i < 6 → tg.getD i 0 = pl.getD i 0) (ll lg : List Int32) (lk hd ht : Int32) : ∀ (n : Nat) (t : Int32), sSolL ll lg lk hd ht tg n t = sSolL ll lg lk hd ht pl n t
  | 0, _ => rfl
  | n + 1, t => by
    show sTurn ll lg lk hd ht tg t ++ sSolL ll lg lk hd ht tg n (t + 1) = sTurn ll lg lk hd ht pl t ++ sSolL ll lg lk hd ht pl n (t + 1)
    rw [sTurn_c h, sSolL_c h]
theorem sSolL_len (ll lg : List Int32) (lk hd ht : Int32) (pl : List Int32) : ∀ (n : Nat) (t : Int32), (sSolL ll lg lk hd ht pl n t).length ≤ 256 * n
  | 0, _ => Nat.le_refl _
  | n + 1, t => by
    show (sTurn ll lg lk hd ht pl t ++ sSolL ll lg lk hd ht pl n (t + 1)).length ≤ _
    rw [List.length_append]
    have h1 := sTurn_len ll lg lk hd ht pl t
    have h2 := sSolL_len ll lg lk hd ht pl n (t + 1)
    omega
theorem tBlk_mem {ll lg : List Int32} {lk hd x y p t a e ro : Int32} {z : tP} (h : z ∈ tBlk ll lg lk hd x y p t a e ro) : tFive ll lg z.1 z.2.1 z.2.2.1 z.2.2.2.1 z.2.2.2.2.1 ∧ jallow ll lg 5 z.2.2.2.2.2 = true := by
  unfold tBlk at h
  split at h
  · next h1 =>
    have h2 := (tOk_iff.mp h1).2.2
    have h3 : ∀ r, z ∈ tR ll lg (tL lk hd x p t a e / 1000000) t a e (jw (p - (a + e))) r → tFive ll lg z.1 z.2.1 z.2.2.1 z.2.2.2.1 z.2.2.2.2.1 ∧ jallow ll lg 5 z.2.2.2.2.2 = true := fun r hz => by
      unfold tR at hz
      split at hz
      · next h5 =>
        rw [List.mem_singleton.mp hz]
        exact ⟨h2, h5⟩
      · exact absurd hz List.not_mem_nil
    rcases List.mem_append.mp h with k | k
    · exact h3 _ k
    · exact h3 _ k
  · exact absurd h List.not_mem_nil
theorem tCls_mem {ll lg : List Int32} {lk hd ht : Int32} {tg : List Int32} {z : tP} (h : z ∈ tCls ll lg lk hd ht tg) : tFive ll lg z.1 z.2.1 z.2.2.1 z.2.2.2.1 z.2.2.2.2.1 ∧ jallow ll lg 5 z.2.2.2.2.2 = true := by
  unfold tCls at h
  obtain ⟨t, -, h1⟩ := List.mem_flatMap.mp h
  unfold tTurn at h1
  split at h1
  · exact absurd h1 List.not_mem_nil
  · obtain ⟨q, -, h2⟩ := List.mem_flatMap.mp h1
    exact tBlk_mem h2
theorem jallow_rng {ll lg : List Int32} {j v : Int32} (h : jallow ll lg j v = true) : (ll.getD j.toNatClampNeg 0).toInt ≤ v.toInt ∧ v.toInt ≤ (lg.getD j.toNatClampNeg 0).toInt := by
  unfold jallow at h
  simp only [Bool.and_eq_true, Bool.not_eq_true', decide_eq_false_iff_not] at h
  have h1 := Int32.le_iff_toInt_le.mp (Int32.not_lt.mp h.1)
  have h2 := Int32.le_iff_toInt_le.mp (Int32.not_lt.mp h.2)
  exact ⟨h1, h2⟩
theorem jrail_n (x : Int64) : jrail x = jnum x 40 := rfl
theorem sSolL_rail {lk hd : Int32} (hl : 1 ≤ lk.toInt ∧ lk.toInt ≤ 99) (hh : 1 ≤ hd.toInt ∧ hd.toInt ≤ 99) {ll lg : List Int32} (h0 : 0 ≤ (ll.getD 0 0).toInt ∧ (lg.getD 0 0).toInt ≤ 99) {ht : Int32} {pl : List Int32} : ∀ x ∈ sSolL ll lg lk hd ht pl 64 (-32), 0 ≤ (jrail x).toInt ∧ (jrail x).toInt ≤ 99 := by
  intro x hx
  rw [sSolL_t hl hh] at hx
  obtain ⟨z, hz, rfl⟩ := List.mem_map.mp hx
  have h1 := jallow_rng (tCls_mem hz).1.1
  have h2 : (ll.getD 0 0).toInt ≤ z.1.toInt ∧ z.1.toInt ≤ (lg.getD 0 0).toInt := h1
  rw [jrail_n]
  unfold tPos
  rw [jpos_n0 _ _ _ _ _ _ (by omega)]
  omega
set_option maxHeartbeats 8000000 in
theorem c_solve {h : zH} {ra rl rg rv rn rp rw : Nat} {lk hd ht bl sd sp so : Int32} {rt : Int64} {ll lg : List Int32} {rs rh rL rpl cap sc : Nat} {v0 v1 : Value} {nf kn to ks fa : Int32} {tg hp sh el wr ou bh pl : List Int32} {li so1 : List Int64} (hA : zat h ra = some (.inr (.inr (.inr (0, [.int lk, .int hd, .int ht, .int bl, .int sd, .long rt, .ref rl, .ref rg, .ref rv, .int sp, .ref rn, .ref rp, .int so, .ref rw]))))) (hL : zat h rl = some (.inl (0, 6, ll))) (hG : zat h rg = some (.inl (0, 6, lg))) (hS : zat h 44 = some (.inr (.inr (.inr (7, [v0, v1, .ref 46, .int nf, .ref 48, .ref 50, .ref 52, .ref 54, .ref 56, .ref rs]))))) (h46 : zat h 46 = some (.inl (0, 6, tg))) (h48 : zat h 48 = some (.inl (0, 128, sh))) (h50 : zat h 50 = some (.inl (0, 128, el))) (h52 : zat h 52 = some (.inl (0, 128, wr))) (h54 : zat h 54 = some (.inl (0, 128, ou))) (hB : zat h 56 = some (.inl (0, 101, bh))) (hO : zat h rs = some (.inr (.inl (sc, so1)))) (hH : zat h rh = some (.inr (.inr (.inr (1, [.int kn, .int to, .ref rL, .ref (rh + 4), .int ks, .int fa]))))) (hP4 : zat h (rh + 4) = some (.inl (0, 6, hp))) (hI : zat h rL = some (.inr (.inl (cap, li)))) (hPl : zat h rpl = some (.inl (0, 6, pl))) (hl9 : 1 ≤ lk.toInt ∧ lk.toInt ≤ 99) (hh9 : 1 ≤ hd.toInt ∧ hd.toInt ≤ 99) (hr9 : 0 ≤ (ll.getD 0 0).toInt ∧ (lg.getD 0 0).toInt ≤ 99) (ha : ra < 34 ∧ rl < 34 ∧ rg < 34) (hd1 : 60 ≤ rh ∧ rh < 230 ∧ (rL = rh + 2 ∨ 234 ≤ rL)) (hd2 : (rs = 58 ∨ 234 ≤ rs) ∧ rs ≠ rL) (hp1 : 34 ≤ rpl ∧ rpl < 100 ∧ rpl ≠ 44 ∧ rpl ≠ 46 ∧ rpl ≠ rh ∧ rpl ≠ rh + 4 ∧ rpl ≠ rL) (hcs : 16 ≤ cap ∧ cap ≤ 600 ∧ sc ≤ 600) (hl : 117 ≤ h.length) : wq 82 0 [(0, .ref 44), (1, .ref ra), (2, .ref rpl), (3, .ref rh)] [] h 0 0 (fun r => ∃ (h2 : zH) (rL2 cap2 rs2 sc2 : Nat) (nf2 ks2 fa2 : Int32) (tg2 hp2 sh2 el2 wr2 ou2 bh2 : List Int32) (li2 so2 : List Int64) (d s : Nat), r = (none, h2, d, s) ∧ wFr [rL, rh, rh + 4, 44, 46, 48, 50, 52, 54, 56, rs] h h2 ∧ zat h2 44 = some (.inr (.inr (.inr (7, [.ref ra, .ref rh, .ref 46, .int nf2, .ref 48, .ref 50, .ref 52, .ref 54, .ref 56, .ref rs2])))) ∧ zat h2 46 = some (.inl (0, 6, tg2)) ∧ zat h2 48 = some (.inl (0, 128, sh2)) ∧ zat h2 50 = some (.inl (0, 128, el2)) ∧ zat h2 52 = some (.inl (0, 128, wr2)) ∧ zat h2 54 = some (.inl (0, 128, ou2)) ∧ zat h2 56 = some (.inl (0, 101, bh2)) ∧ zat h2 rs2 = some (.inr (.inl (sc2, so2))) ∧ zat h2 rh = some (.inr (.inr (.inr (1, [.int 1, .int (nI (sSolL ll lg lk hd ht pl 64 (-32)).length), .ref rL2, .ref (rh + 4), .int ks2, .int fa2])))) ∧ zat h2 (rh + 4) = some (.inl (0, 6, hp2)) ∧ zat h2 rL2 = some (.inr (.inl (cap2, li2))) ∧ (∀ i, i < 6 → hp2.getD i 0 = pl.getD i 0) ∧ ((sSolL ll lg lk hd ht pl 64 (-32)).length ≤ 600 → ∀ i x, (sSolL ll lg lk hd ht pl 64 (-32))[i]? = some x → li2.getD (pN (sSolL ll lg lk hd ht pl 64 (-32)) i x) 0 = x) ∧ (16 ≤ cap2 ∧ cap2 ≤ 600 ∧ ((sSolL ll lg lk hd ht pl 64 (-32)).length ≤ cap2 ∨ cap2 = 600) ∧ cap ≤ cap2 ∧ sc ≤ sc2 ∧ sc2 ≤ 600 ∧ (rL2 = rL ∨ 2 * h.length ≤ rL2) ∧ (rs2 = rs ∨ 2 * h.length ≤ rs2) ∧ rs2 ≠ rL2 ∧ d + cap + sc ≤ cap2 + sc2 ∧ s + 600 * (cap + sc) ≤ 600 * (cap2 + sc2))) := by
  have hR := sSolL_rail hl9 hh9 hr9 (ht := ht) (pl := pl)
  have hsl := sSolL_len ll lg lk hd ht pl 64 (-32)
  have z1 := zat_lt hI
  have z2 := zat_lt hO
  refine wq_gos (f := 1) (pc2 := 2) (ls2 := [(0, .ref 44), (1, .ref ra), (2, .ref rpl), (3, .ref rh)]) (st2 := [.ref ra, .ref 44]) (h2 := h) (dc2 := 0) (ds2 := 0) 2 rfl ?_
  refine wq_putf rfl hS rfl rfl rfl ?_
  intro h1x e2x f3x l4x
  have e2x : zat h1x 44 = some (.inr (.inr (.inr (7, [.ref ra, v1, .ref 46, .int nf, .ref 48, .ref 50, .ref 52, .ref 54, .ref 56, .ref rs])))) := e2x
  refine wq_gos (f := 1) (pc2 := 7) (ls2 := [(0, .ref 44), (1, .ref ra), (2, .ref rpl), (3, .ref rh)]) (st2 := [.ref rh, .ref 44]) (h2 := h1x) (dc2 := 0) (ds2 := 0) 2 rfl ?_
  refine wq_putf rfl e2x rfl rfl rfl ?_
  intro h5x e6x f7x l8x
  have e6x : zat h5x 44 = some (.inr (.inr (.inr (7, [.ref ra, .ref rh, .ref 46, .int nf, .ref 48, .ref 50, .ref 52, .ref 54, .ref 56, .ref rs])))) := e6x
  refine wq_gos (f := 1) (pc2 := 11) (ls2 := [(0, .ref 44), (1, .ref ra), (2, .ref rpl), (3, .ref rh)]) (st2 := [.ref 44]) (h2 := h5x) (dc2 := 0) (ds2 := 0) 1 rfl ?_
  refine wq_getf rfl e6x rfl rfl ?_
  refine wq_gos (f := 1) (pc2 := 15) (ls2 := [(0, .ref 44), (1, .ref ra), (2, .ref rpl), (3, .ref rh)]) (st2 := [.ref rpl, .ref rh]) (h2 := h5x) (dc2 := 0) (ds2 := 0) 1 rfl ?_
  have e9x := (f7x.2 _ _ (wnc (by omega) wn0) (f3x.2 _ _ (wnc (by omega) wn0) hH))
  refine wq_inlv (y2 := 12) (as := [.ref rpl]) rfl rfl rfl e9x rfl ?_
  show wq 12 0 [(0, .ref rh), (1, .ref rpl)] [] h5x 0 0 _
  refine wq_gos (f := 1) (pc2 := 3) (ls2 := [(0, .ref rh), (1, .ref rpl)]) (st2 := [.ref rh, .int 0, .ref rpl]) (h2 := h5x) (dc2 := 0) (ds2 := 0) 3 rfl ?_
  refine wq_getf rfl e9x rfl rfl ?_
  refine wq_gos (f := 1) (pc2 := 9) (ls2 := [(0, .ref rh), (1, .ref rpl)]) (st2 := [.int 6, .int 0, .ref (rh + 4), .int 0, .ref rpl]) (h2 := h5x) (dc2 := 0) (ds2 := 0) 2 rfl ?_
  have e10x := (f7x.2 _ _ (wnc (by omega) wn0) (f3x.2 _ _ (wnc (by omega) wn0) hP4))
  have e11x := (f7x.2 _ _ (wnc (by omega) wn0) (f3x.2 _ _ (wnc (by omega) wn0) hPl))
  refine wq_cpi rfl e11x e10x (by decide) (by decide) (by decide) (by decide) (by decide) rfl ?_
  intro h12x e13x f14x l15x
  have e13x : zat h12x (rh + 4) = some (.inl (0, 6, (zcpy 0 pl hp 0 0 6))) := e13x
  refine wq_gos (f := 1) (pc2 := 14) (ls2 := [(0, .ref rh), (1, .ref rpl)]) (st2 := [.int 1, .ref rh]) (h2 := h12x) (dc2 := 0) (ds2 := 0) 2 rfl ?_
  have e16x := (f14x.2 _ _ (wnc (by omega) wn0) e9x)
  refine wq_putf rfl e16x rfl rfl rfl ?_
  intro h17x e18x f19x l20x
  have e18x : zat h17x rh = some (.inr (.inr (.inr (1, [.int 1, .int to, .ref rL, .ref (rh + 4), .int ks, .int fa])))) := e18x
  refine wq_gos (f := 1) (pc2 := 19) (ls2 := [(0, .ref rh), (1, .ref rpl)]) (st2 := [.int 0, .ref rh]) (h2 := h17x) (dc2 := 0) (ds2 := 0) 2 rfl ?_
  refine wq_putf rfl e18x rfl rfl rfl ?_
  intro h21x e22x f23x l24x
  have e22x : zat h21x rh = some (.inr (.inr (.inr (1, [.int 1, .int 0, .ref rL, .ref (rh + 4), .int ks, .int fa])))) := e22x
  refine wq_gos (f := 1) (pc2 := 24) (ls2 := [(0, .ref rh), (1, .ref rpl)]) (st2 := [.int 0, .ref rh]) (h2 := h21x) (dc2 := 0) (ds2 := 0) 2 rfl ?_
  refine wq_putf rfl e22x rfl rfl rfl ?_
  intro h25x e26x f27x l28x
  have e26x : zat h25x rh = some (.inr (.inr (.inr (1, [.int 1, .int 0, .ref rL, .ref (rh + 4), .int 0, .int fa])))) := e26x
  refine wq_gos (f := 1) (pc2 := 29) (ls2 := [(0, .ref rh), (1, .ref rpl)]) (st2 := [.int (-1), .ref rh]) (h2 := h25x) (dc2 := 0) (ds2 := 0) 2 rfl ?_
  refine wq_putf rfl e26x rfl rfl rfl ?_
  intro h29x e30x f31x l32x
  have e30x : zat h29x rh = some (.inr (.inr (.inr (1, [.int 1, .int 0, .ref rL, .ref (rh + 4), .int 0, .int (-1)])))) := e30x
  refine wq_ret rfl rfl ?_
  show wq 82 18 [(0, .ref 44), (1, .ref ra), (2, .ref rpl), (3, .ref rh)] [] h29x 0 0 _
  refine wq_gos (f := 1) (pc2 := 21) (ls2 := [(0, .ref 44), (1, .ref ra), (2, .ref rpl), (3, .ref rh)]) (st2 := [.ref 44, .int 0, .ref rpl]) (h2 := h29x) (dc2 := 0) (ds2 := 0) 3 rfl ?_
  have e33x := (f31x.2 _ _ (wnc (by omega) wn0) (f27x.2 _ _ (wnc (by omega) wn0) (f23x.2 _ _ (wnc (by omega) wn0) (f19x.2 _ _ (wnc (by omega) wn0) (f14x.2 _ _ (wnc (by omega) wn0) e6x)))))
  refine wq_getf rfl e33x rfl rfl ?_
  refine wq_gos (f := 1) (pc2 := 27) (ls2 := [(0, .ref 44), (1, .ref ra), (2, .ref rpl), (3, .ref rh)]) (st2 := [.int 6, .int 0, .ref 46, .int 0, .ref rpl]) (h2 := h29x) (dc2 := 0) (ds2 := 0) 2 rfl ?_
  have e34x := (f31x.2 _ _ (wnc (by omega) wn0) (f27x.2 _ _ (wnc (by omega) wn0) (f23x.2 _ _ (wnc (by omega) wn0) (f19x.2 _ _ (wnc (by omega) wn0) (f14x.2 _ _ (wnc (by omega) wn0) (f7x.2 _ _ (wnc (by decide) wn0) (f3x.2 _ _ (wnc (by decide) wn0) h46)))))))
  have e35x := (f31x.2 _ _ (wnc (by omega) wn0) (f27x.2 _ _ (wnc (by omega) wn0) (f23x.2 _ _ (wnc (by omega) wn0) (f19x.2 _ _ (wnc (by omega) wn0) (f14x.2 _ _ (wnc (by omega) wn0) e11x)))))
  refine wq_cpi rfl e35x e34x (by decide) (by decide) (by decide) (by decide) (by decide) rfl ?_
  intro h36x e37x f38x l39x
  have e37x : zat h36x 46 = some (.inl (0, 6, (zcpy 0 pl tg 0 0 6))) := e37x
  refine wq_gos (f := 1) (pc2 := 37) (ls2 := [(5, .int (-32)), (4, .int (-1)), (0, .ref 44), (1, .ref ra), (2, .ref rpl), (3, .ref rh)]) (st2 := []) (h2 := h36x) (dc2 := 0) (ds2 := 0) 4 rfl ?_
  have e40x := (f38x.2 _ _ (wnc (by omega) wn0) (f31x.2 _ _ (wnc (by omega) wn0) (f27x.2 _ _ (wnc (by omega) wn0) (f23x.2 _ _ (wnc (by omega) wn0) (f19x.2 _ _ (wnc (by omega) wn0) (f14x.2 _ _ (wnc (by omega) wn0) (f7x.2 _ _ (wnc (by omega) wn0) (f3x.2 _ _ (wnc (by omega) wn0) hA))))))))
  have e41x := (f38x.2 _ _ (wnc (by omega) wn0) (f31x.2 _ _ (wnc (by omega) wn0) (f27x.2 _ _ (wnc (by omega) wn0) (f23x.2 _ _ (wnc (by omega) wn0) (f19x.2 _ _ (wnc (by omega) wn0) (f14x.2 _ _ (wnc (by omega) wn0) (f7x.2 _ _ (wnc (by omega) wn0) (f3x.2 _ _ (wnc (by omega) wn0) hL))))))))
  have e42x := (f38x.2 _ _ (wnc (by omega) wn0) (f31x.2 _ _ (wnc (by omega) wn0) (f27x.2 _ _ (wnc (by omega) wn0) (f23x.2 _ _ (wnc (by omega) wn0) (f19x.2 _ _ (wnc (by omega) wn0) (f14x.2 _ _ (wnc (by omega) wn0) (f7x.2 _ _ (wnc (by omega) wn0) (f3x.2 _ _ (wnc (by omega) wn0) hG))))))))
  have e43x := (f38x.2 _ _ (wnc (by decide) wn0) e33x)
  have e44x := (f38x.2 _ _ (wnc (by decide) wn0) (f31x.2 _ _ (wnc (by omega) wn0) (f27x.2 _ _ (wnc (by omega) wn0) (f23x.2 _ _ (wnc (by omega) wn0) (f19x.2 _ _ (wnc (by omega) wn0) (f14x.2 _ _ (wnc (by omega) wn0) (f7x.2 _ _ (wnc (by decide) wn0) (f3x.2 _ _ (wnc (by decide) wn0) h48))))))))
  have e45x := (f38x.2 _ _ (wnc (by decide) wn0) (f31x.2 _ _ (wnc (by omega) wn0) (f27x.2 _ _ (wnc (by omega) wn0) (f23x.2 _ _ (wnc (by omega) wn0) (f19x.2 _ _ (wnc (by omega) wn0) (f14x.2 _ _ (wnc (by omega) wn0) (f7x.2 _ _ (wnc (by decide) wn0) (f3x.2 _ _ (wnc (by decide) wn0) h50))))))))
  have e46x := (f38x.2 _ _ (wnc (by decide) wn0) (f31x.2 _ _ (wnc (by omega) wn0) (f27x.2 _ _ (wnc (by omega) wn0) (f23x.2 _ _ (wnc (by omega) wn0) (f19x.2 _ _ (wnc (by omega) wn0) (f14x.2 _ _ (wnc (by omega) wn0) (f7x.2 _ _ (wnc (by decide) wn0) (f3x.2 _ _ (wnc (by decide) wn0) h52))))))))
  have e47x := (f38x.2 _ _ (wnc (by decide) wn0) (f31x.2 _ _ (wnc (by omega) wn0) (f27x.2 _ _ (wnc (by omega) wn0) (f23x.2 _ _ (wnc (by omega) wn0) (f19x.2 _ _ (wnc (by omega) wn0) (f14x.2 _ _ (wnc (by omega) wn0) (f7x.2 _ _ (wnc (by decide) wn0) (f3x.2 _ _ (wnc (by decide) wn0) h54))))))))
  have e48x := (f38x.2 _ _ (wnc (by omega) wn0) e30x)
  have e49x := (f38x.2 _ _ (wnc (by omega) wn0) (f31x.2 _ _ (wnc (by omega) wn0) (f27x.2 _ _ (wnc (by omega) wn0) (f23x.2 _ _ (wnc (by omega) wn0) (f19x.2 _ _ (wnc (by omega) wn0) (f14x.2 _ _ (wnc (by omega) wn0) (f7x.2 _ _ (wnc (by omega) wn0) (f3x.2 _ _ (wnc (by omega) wn0) hI))))))))
  refine wq_ls [(0, .ref 44), (1, .ref ra), (2, .ref rpl), (3, .ref rh), (4, .int (-1)), (5, .int (-32))] (show ([0, 1, 2, 3, 4, 5] : List Nat).Nodup by decide) ⟨rfl, rfl, rfl, rfl, rfl, rfl, trivial⟩ ?_
  have tgc : ∀ i, i < 6 → (zcpy 0 pl tg 0 0 6).getD i 0 = pl.getD i 0 := fun i hi => by rw [zcpy_get, if_pos ⟨Nat.zero_le _, by omega⟩]; congr 1; omega
  have hq0 := f3x.1
  have hq1 := f7x.1
  have hq2 := f14x.1
  have hq3 := f19x.1
  have hq4 := f23x.1
  have hq5 := f27x.1
  have hq6 := f31x.1
  have hq7 := f38x.1
  refine c_solveL (rpl := rpl) ha 64 (-32) h36x rL cap 0 (-1) nf (-1) sh el wr ou li [] 0 0 (by decide) (by decide) (by decide) e40x e41x e42x e43x e37x e44x e45x e46x e47x e48x e49x ⟨by omega, by omega, Or.inl (Nat.zero_le _)⟩ (fun i q _ hq => by simp at hq) (by decide) hd1 (by omega) (Or.inl rfl) ?_
  intro h2 rL2 cap2 nf2 ks2 fa2 sh2 el2 wr2 ou2 li2 d s ff2 t2 g1 g2 g3 g4 g5 g6 g7 g8 g9 g10 g11 g12 g13 g14 g15
  rw [List.nil_append, sSolL_c tgc] at g7 g9 g12
  have g1l := g1.1
  have z3 := zat_lt g8
  refine wq_gos (f := 1) (pc2 := 100) (ls2 := [(0, .ref 44), (1, .ref ra), (2, .ref rpl), (3, .ref rh), (4, .int ff2), (5, .int t2)]) (st2 := [.ref 44]) (h2 := h2) (dc2 := (0 + d)) (ds2 := (0 + s)) 1 rfl ?_
  refine wq_getf rfl g2 rfl rfl ?_
  refine wq_inlv (y2 := 16) (as := []) rfl rfl rfl g7 rfl ?_
  show wq 16 0 [(0, .ref rh)] [] h2 0 0 _
  refine wq_gos (f := 1) (pc2 := 1) (ls2 := [(0, .ref rh)]) (st2 := [.ref rh]) (h2 := h2) (dc2 := 0) (ds2 := 0) 1 rfl ?_
  refine wq_getf rfl g7 rfl rfl ?_
  refine wq_gos (f := 1) (pc2 := 7) (ls2 := [(0, .ref rh)]) (st2 := [.int 600, .int (nI (sSolL ll lg lk hd ht pl 64 (-32)).length)]) (h2 := h2) (dc2 := 0) (ds2 := 0) 1 rfl ?_
  refine wq_le2 rfl rfl (fun b50x => ?_) (fun b50x => ?_)
  · refine wq_gos (f := 1) (pc2 := 15) (ls2 := [(0, .ref rh)]) (st2 := [.int 0]) (h2 := h2) (dc2 := 0) (ds2 := 0) 1 rfl ?_
    refine wq_ret rfl rfl ?_
    show wq 82 106 [(0, .ref 44), (1, .ref ra), (2, .ref rpl), (3, .ref rh), (4, .int ff2), (5, .int t2)] [.int 0] h2 (0 + d) (0 + s) _
    refine wq_gos (f := 1) (pc2 := 110) (ls2 := [(0, .ref 44), (1, .ref ra), (2, .ref rpl), (3, .ref rh), (4, .int ff2), (5, .int t2)]) (st2 := [.ref 44]) (h2 := h2) (dc2 := (0 + d)) (ds2 := (0 + s)) 2 rfl ?_
    have e51x := (g1.2 _ _ (wnc (by omega) (wnc (by omega) (wnc (by decide) (wnc (by decide) (wnc (by decide) (wnc (by decide) (wnc (by decide) wn0))))))) (f38x.2 _ _ (wnc (by decide) wn0) (f31x.2 _ _ (wnc (by omega) wn0) (f27x.2 _ _ (wnc (by omega) wn0) (f23x.2 _ _ (wnc (by omega) wn0) (f19x.2 _ _ (wnc (by omega) wn0) (f14x.2 _ _ (wnc (by omega) wn0) (f7x.2 _ _ (wnc (by decide) wn0) (f3x.2 _ _ (wnc (by decide) wn0) hB)))))))))
    have e52x := (g1.2 _ _ (wnc (by omega) (wnc (by omega) (wnc (by omega) (wnc (by omega) (wnc (by omega) (wnc (by omega) (wnc (by omega) wn0))))))) (f38x.2 _ _ (wnc (by omega) wn0) (f31x.2 _ _ (wnc (by omega) wn0) (f27x.2 _ _ (wnc (by omega) wn0) (f23x.2 _ _ (wnc (by omega) wn0) (f19x.2 _ _ (wnc (by omega) wn0) (f14x.2 _ _ (wnc (by omega) wn0) (f7x.2 _ _ (wnc (by omega) wn0) (f3x.2 _ _ (wnc (by omega) wn0) hO)))))))))
    have hb8 := b50x
    rw [nI_toInt (by omega), show (600 : Int32).toInt = 600 from rfl] at hb8
    refine wq_inlv (y2 := 91) (as := []) rfl rfl rfl g2 rfl (wq_mono (c_sort g2 g7 g8 e51x e52x (by omega) ⟨by omega, by omega⟩ g9 hR ⟨by omega, by omega, by omega⟩ ⟨by omega, by omega⟩ (by omega) (by omega)) ?_)
    rintro _ ⟨h3, rs2, sc2, so2, li3, bh2, d3, s3, rfl, f3, j1, j2, j3, j4, sx, c1, c2, c3, c4, c5⟩
    show wq 82 113 [(0, .ref 44), (1, .ref ra), (2, .ref rpl), (3, .ref rh), (4, .int ff2), (5, .int t2)] [] h3 ((0 + d) + d3) ((0 + s) + s3) _
    have e53x := (f3.2 _ _ (wnc (by omega) (wnc (by decide) (wnc (by decide) (wnc (by omega) wn0)))) (g1.2 _ _ (wnc (by omega) (wnc (by omega) (wnc (by decide) (wnc (by decide) (wnc (by decide) (wnc (by decide) (wnc (by decide) wn0))))))) e37x))
    have e54x := (f3.2 _ _ (wnc (by omega) (wnc (by decide) (wnc (by decide) (wnc (by omega) wn0)))) g3)
    have e55x := (f3.2 _ _ (wnc (by omega) (wnc (by decide) (wnc (by decide) (wnc (by omega) wn0)))) g4)
    have e56x := (f3.2 _ _ (wnc (by omega) (wnc (by decide) (wnc (by decide) (wnc (by omega) wn0)))) g5)
    have e57x := (f3.2 _ _ (wnc (by omega) (wnc (by decide) (wnc (by decide) (wnc (by omega) wn0)))) g6)
    have e58x := (f3.2 _ _ (wnc (by omega) (wnc (by omega) (wnc (by omega) (wnc (by omega) wn0)))) g7)
    have e59x := (f3.2 _ _ (wnc (by omega) (wnc (by omega) (wnc (by omega) (wnc (by omega) wn0)))) (g1.2 _ _ (wnc (by omega) (wnc (by omega) (wnc (by omega) (wnc (by omega) (wnc (by omega) (wnc (by omega) (wnc (by omega) wn0))))))) (f38x.2 _ _ (wnc (by omega) wn0) (f31x.2 _ _ (wnc (by omega) wn0) (f27x.2 _ _ (wnc (by omega) wn0) (f23x.2 _ _ (wnc (by omega) wn0) (f19x.2 _ _ (wnc (by omega) wn0) e13x)))))))
    have hb9 := b50x
    rw [nI_toInt (by omega), show (600 : Int32).toInt = 600 from rfl] at hb9
    refine wq_ret rfl rfl ⟨h3, rL2, cap2, rs2, sc2, nf2, ks2, fa2, _, _, sh2, el2, wr2, ou2, _, _, _, _, _, rfl, (wFr_g (rL2 := rL2) (wFr_tr (wFr_tr (wFr_tr (wFr_tr (wFr_tr (wFr_tr (wFr_tr (wFr_tr (wFr_tr (wFr_rf _ _) (wFr_sub f3x (by simp))) (wFr_sub f7x (by simp))) (wFr_sub f14x (by simp))) (wFr_sub f19x (by simp))) (wFr_sub f23x (by simp))) (wFr_sub f27x (by simp))) (wFr_sub f31x (by simp))) (wFr_sub f38x (by simp))) (wFr_sub g1 (by simp))) (wFr_sub f3 (by simp)) (by omega)), j1, e53x, e54x, e55x, e56x, e57x, j2, j3, e58x, e59x, j4, fun i hi => ?_, (fun _ => sx), by omega, by omega, by omega, by omega, by omega, by omega, by omega, by omega, by omega, by omega, by omega⟩
    rw [zcpy_get, if_pos ⟨Nat.zero_le _, by omega⟩]; congr 1; omega
  · refine wq_gos (f := 1) (pc2 := 15) (ls2 := [(0, .ref rh)]) (st2 := [.int 1]) (h2 := h2) (dc2 := 0) (ds2 := 0) 2 rfl ?_
    refine wq_ret rfl rfl ?_
    show wq 82 106 [(0, .ref 44), (1, .ref ra), (2, .ref rpl), (3, .ref rh), (4, .int ff2), (5, .int t2)] [.int 1] h2 (0 + d) (0 + s) _
    refine wq_gos (f := 1) (pc2 := 113) (ls2 := [(0, .ref 44), (1, .ref ra), (2, .ref rpl), (3, .ref rh), (4, .int ff2), (5, .int t2)]) (st2 := []) (h2 := h2) (dc2 := (0 + d)) (ds2 := (0 + s)) 1 rfl ?_
    have e60x := (g1.2 _ _ (wnc (by omega) (wnc (by omega) (wnc (by decide) (wnc (by decide) (wnc (by decide) (wnc (by decide) (wnc (by decide) wn0))))))) e37x)
    have e61x := (g1.2 _ _ (wnc (by omega) (wnc (by omega) (wnc (by decide) (wnc (by decide) (wnc (by decide) (wnc (by decide) (wnc (by decide) wn0))))))) (f38x.2 _ _ (wnc (by decide) wn0) (f31x.2 _ _ (wnc (by omega) wn0) (f27x.2 _ _ (wnc (by omega) wn0) (f23x.2 _ _ (wnc (by omega) wn0) (f19x.2 _ _ (wnc (by omega) wn0) (f14x.2 _ _ (wnc (by omega) wn0) (f7x.2 _ _ (wnc (by decide) wn0) (f3x.2 _ _ (wnc (by decide) wn0) hB)))))))))
    have e62x := (g1.2 _ _ (wnc (by omega) (wnc (by omega) (wnc (by omega) (wnc (by omega) (wnc (by omega) (wnc (by omega) (wnc (by omega) wn0))))))) (f38x.2 _ _ (wnc (by omega) wn0) (f31x.2 _ _ (wnc (by omega) wn0) (f27x.2 _ _ (wnc (by omega) wn0) (f23x.2 _ _ (wnc (by omega) wn0) (f19x.2 _ _ (wnc (by omega) wn0) (f14x.2 _ _ (wnc (by omega) wn0) (f7x.2 _ _ (wnc (by omega) wn0) (f3x.2 _ _ (wnc (by omega) wn0) hO)))))))))
    have e63x := (g1.2 _ _ (wnc (by omega) (wnc (by omega) (wnc (by omega) (wnc (by omega) (wnc (by omega) (wnc (by omega) (wnc (by omega) wn0))))))) (f38x.2 _ _ (wnc (by omega) wn0) (f31x.2 _ _ (wnc (by omega) wn0) (f27x.2 _ _ (wnc (by omega) wn0) (f23x.2 _ _ (wnc (by omega) wn0) (f19x.2 _ _ (wnc (by omega) wn0) e13x))))))
    have hb9 := b50x
    rw [nI_toInt (by omega), show (600 : Int32).toInt = 600 from rfl] at hb9
    refine wq_ret rfl rfl ⟨h2, rL2, cap2, rs, sc, nf2, ks2, fa2, _, _, sh2, el2, wr2, ou2, _, _, _, _, _, rfl, (wFr_tr (wFr_tr (wFr_tr (wFr_tr (wFr_tr (wFr_tr (wFr_tr (wFr_tr (wFr_tr (wFr_rf _ _) (wFr_sub f3x (by simp))) (wFr_sub f7x (by simp))) (wFr_sub f14x (by simp))) (wFr_sub f19x (by simp))) (wFr_sub f23x (by simp))) (wFr_sub f27x (by simp))) (wFr_sub f31x (by simp))) (wFr_sub f38x (by simp))) (wFr_sub g1 (by simp))), g2, e60x, g3, g4, g5, g6, e61x, e62x, g7, e63x, g8, fun i hi => ?_, (fun q => absurd q (by omega)), by omega, by omega, by omega, by omega, by omega, by omega, by omega, by omega, by omega, by omega, by omega⟩
    rw [zcpy_get, if_pos ⟨Nat.zero_le _, by omega⟩]; congr 1; omega
