/-! chanceOf of the class. -/
/-- the class's solver and the list that it draws into, as they may stand -/
noncomputable def wCS (h : zH) (rL cap rs sc : Nat) : Prop := ∃ (v0 v1 : Value) (nf kn to ks fa : Int32) (tg hp sh el wr ou bh dp : List Int32) (li so1 : List Int64), zat h 44 = some (.inr (.inr (.inr (7, [v0, v1, .ref 46, .int nf, .ref 48, .ref 50, .ref 52, .ref 54, .ref 56, .ref rs])))) ∧ zat h 46 = some (.inl (0, 6, tg)) ∧ zat h 48 = some (.inl (0, 128, sh)) ∧ zat h 50 = some (.inl (0, 128, el)) ∧ zat h 52 = some (.inl (0, 128, wr)) ∧ zat h 54 = some (.inl (0, 128, ou)) ∧ zat h 56 = some (.inl (0, 101, bh)) ∧ zat h rs = some (.inr (.inl (sc, so1))) ∧ zat h 66 = some (.inr (.inr (.inr (1, [.int kn, .int to, .ref rL, .ref 70, .int ks, .int fa])))) ∧ zat h 70 = some (.inl (0, 6, hp)) ∧ zat h rL = some (.inr (.inl (cap, li))) ∧ zat h 72 = some (.inl (0, 6, dp)) ∧ (rL = 68 ∨ 234 ≤ rL) ∧ (rs = 58 ∨ 234 ≤ rs) ∧ rs ≠ rL ∧ 16 ≤ cap ∧ cap ≤ 600 ∧ sc ≤ 600 ∧ 117 ≤ h.length
theorem wFr_g2 {S : List Nat} {h h2 h3 : zH} {rL rL2 rs rs2 : Nat} (a : wFr (rL :: rs :: S) h h2) (b : wFr (rL2 :: rs2 :: S) h2 h3) (c : rL2 = rL ∨ 2 * h.length ≤ rL2) (d : rs2 = rs ∨ 2 * h.length ≤ rs2) : wFr (rL :: rs :: S) h h3 :=
  ⟨Nat.le_trans a.1 b.1, fun q e hq hz => b.2 q e (wnc (fun k => by
    rcases c with c | c
    · exact hq (by rw [k, c]; exact List.mem_cons_self)
    · have := zat_lt hz
      omega) (wnc (fun k => by
    rcases d with d | d
    · exact hq (by rw [k, d]; exact List.mem_cons_of_mem _ List.mem_cons_self)
    · have := zat_lt hz
      omega) (fun k => hq (List.mem_cons_of_mem _ (List.mem_cons_of_mem _ k))))) (a.2 q e hq hz)⟩
noncomputable def jN (ll lg : List Int32) (lk hd ht v0 v1 v2 v3 v4 v5 : Int32) : Nat := (sSolL ll lg lk hd ht (jpl lk hd ht v0 v1 v2 v3 v4 v5) 64 (-32)).length
noncomputable def jOne (ll lg : List Int32) (lk hd ht w v0 v1 v2 v3 v4 v5 : Int32) : Int32 := if w = 3 then (if jme v1 v3 = 0 then 1 else 0) else if 600 < jN ll lg lk hd ht v0 v1 v2 v3 v4 v5 then (if w = 0 then 1 else 0) else (if w = 0 then 0 else if w = 1 then nI (jN ll lg lk hd ht v0 v1 v2 v3 v4 v5) else 1)
set_option maxHeartbeats 8000000 in
theorem c_chOf0 {h : zH} {ra rl rg rv rn rp rw : Nat} {lk hd ht bl sd sp so : Int32} {rt : Int64} {ll lg : List Int32} {rd : Nat} {ta im : Int32} {ps ip : Int64} {rL cap rs sc : Nat} {po : Int64} {v0 v1 v2 v3 v4 v5 : Int32} (hX : zat h 0 = some (.inr (.inr (.inr (9, [.ref 2, .int ta, .ref 4, .ref ra, .ref rd, .long ps, .ref 34, .ref 36, .int im, .long ip, .ref 42, .ref 44, .ref 60, .ref 66, .ref 72, .ref 74, .ref 150, .ref 158]))))) (hA : zat h ra = some (.inr (.inr (.inr (0, [.int lk, .int hd, .int ht, .int bl, .int sd, .long rt, .ref rl, .ref rg, .ref rv, .int sp, .ref rn, .ref rp, .int so, .ref rw]))))) (hL : zat h rl = some (.inl (0, 6, ll))) (hG : zat h rg = some (.inl (0, 6, lg))) (hCS : wCS h rL cap rs sc) (hl9 : 1 ≤ lk.toInt ∧ lk.toInt ≤ 99) (hh9 : 1 ≤ hd.toInt ∧ hd.toInt ≤ 99) (hr9 : 0 ≤ (ll.getD 0 0).toInt ∧ (lg.getD 0 0).toInt ≤ 99) (hn0 : jnum po 40 = v0) (hn1 : jnum po 32 = v1) (hn2 : jnum po 24 = v2) (hn3 : jnum po 16 = v3) (hn4 : jnum po 8 = v4) (hn5 : jnum po 0 = v5) (hown : po ∈ (sSolL ll lg lk hd ht (jpl lk hd ht v0 v1 v2 v3 v4 v5) 64 (-32))) (ha : ra < 34 ∧ rl < 34 ∧ rg < 34) : wq 139 0 [(0, .ref 0), (1, .long po), (3, .int 0)] [] h 0 0 (fun r => ∃ (h2 : zH) (rL2 cap2 rs2 sc2 d s : Nat), r = (some (.int (jOne ll lg lk hd ht 0 v0 v1 v2 v3 v4 v5)), h2, d, s) ∧ wFr [rL, rs, 44, 46, 48, 50, 52, 54, 56, 66, 70, 72] h h2 ∧ wCS h2 rL2 cap2 rs2 sc2 ∧ ((rL2 = rL ∨ 2 * h.length ≤ rL2) ∧ (rs2 = rs ∨ 2 * h.length ≤ rs2) ∧ d + cap + sc ≤ cap2 + sc2 ∧ s + 600 * (cap + sc) ≤ 600 * (cap2 + sc2))) := by
  have hsl := sSolL_len ll lg lk hd ht (jpl lk hd ht v0 v1 v2 v3 v4 v5) 64 (-32)
  obtain ⟨w0, w1, nf, kn, to, ks, fa, tg, hp, sh, el, wr, ou, bh, dp, li, so1, hS, h46, h48, h50, h52, h54, hB, hO, hH, hP4, hI, hQ, hk1, hk2, hk3, hk4, hk5, hk6, hk7⟩ := hCS
  refine wq_gos (f := 1) (pc2 := 19) (ls2 := [(0, .ref 0), (1, .long po), (3, .int 0)]) (st2 := [.ref 0]) (h2 := h) (dc2 := 0) (ds2 := 0) 4 rfl ?_
  refine wq_getf rfl hX rfl rfl ?_
  refine wq_gos (f := 1) (pc2 := 24) (ls2 := [(0, .ref 0), (1, .long po), (3, .int 0)]) (st2 := [.ref 0, .long po, .ref ra]) (h2 := h) (dc2 := 0) (ds2 := 0) 2 rfl ?_
  refine wq_getf rfl hX rfl rfl ?_
  refine wq_inlv (y2 := 8) (as := [.long po, .ref 72]) rfl rfl rfl hA rfl (wq_mono (c_placeOf hA hL hG hQ ⟨by decide, by omega, by omega, by omega⟩ hn0 hn1 hn2 hn3 hn4 hn5) ?_)
  rintro _ ⟨h7, pq, rfl, f7, l7, e7, c7⟩
  show wq 139 30 [(0, .ref 0), (1, .long po), (3, .int 0)] [] h7 0 0 _
  refine wq_gos (f := 1) (pc2 := 31) (ls2 := [(0, .ref 0), (1, .long po), (3, .int 0)]) (st2 := [.ref 0]) (h2 := h7) (dc2 := 0) (ds2 := 0) 1 rfl ?_
  have e1x := (f7.2 _ _ (wnc (by decide) wn0) hX)
  refine wq_getf rfl e1x rfl rfl ?_
  refine wq_gos (f := 1) (pc2 := 35) (ls2 := [(0, .ref 0), (1, .long po), (3, .int 0)]) (st2 := [.ref 0, .ref 44]) (h2 := h7) (dc2 := 0) (ds2 := 0) 1 rfl ?_
  refine wq_getf rfl e1x rfl rfl ?_
  refine wq_gos (f := 1) (pc2 := 39) (ls2 := [(0, .ref 0), (1, .long po), (3, .int 0)]) (st2 := [.ref 0, .ref ra, .ref 44]) (h2 := h7) (dc2 := 0) (ds2 := 0) 1 rfl ?_
  refine wq_getf rfl e1x rfl rfl ?_
  refine wq_gos (f := 1) (pc2 := 43) (ls2 := [(0, .ref 0), (1, .long po), (3, .int 0)]) (st2 := [.ref 0, .ref 72, .ref ra, .ref 44]) (h2 := h7) (dc2 := 0) (ds2 := 0) 1 rfl ?_
  refine wq_getf rfl e1x rfl rfl ?_
  have e2x := (f7.2 _ _ (wnc (by omega) wn0) hA)
  have e3x := (f7.2 _ _ (wnc (by omega) wn0) hL)
  have e4x := (f7.2 _ _ (wnc (by omega) wn0) hG)
  have e5x := (f7.2 _ _ (wnc (by decide) wn0) hS)
  have e6x := (f7.2 _ _ (wnc (by decide) wn0) h46)
  have e7x := (f7.2 _ _ (wnc (by decide) wn0) h48)
  have e8x := (f7.2 _ _ (wnc (by decide) wn0) h50)
  have e9x := (f7.2 _ _ (wnc (by decide) wn0) h52)
  have e10x := (f7.2 _ _ (wnc (by decide) wn0) h54)
  have e11x := (f7.2 _ _ (wnc (by decide) wn0) hB)
  have e12x := (f7.2 _ _ (wnc (by omega) wn0) hO)
  have e13x := (f7.2 _ _ (wnc (by decide) wn0) hH)
  have e14x := (f7.2 _ _ (wnc (by decide) wn0) hP4)
  have e15x := (f7.2 _ _ (wnc (by omega) wn0) hI)
  refine wq_inlv (y2 := 82) (as := [.ref ra, .ref 72, .ref 66]) rfl rfl rfl e5x rfl (wq_mono (c_solve (rh := 66) e2x e3x e4x e5x e6x e7x e8x e9x e10x e11x e12x e13x e14x e15x e7 hl9 hh9 hr9 ha ⟨by decide, by decide, by omega⟩ ⟨by omega, by omega⟩ ⟨by decide, by decide, by decide, by decide, by decide, by decide, by omega⟩ ⟨by omega, by omega, by omega⟩ (by omega)) ?_)
  rintro _ ⟨h8, rL2, cap2, rs2, sc2, nf2, ks2, fa2, tg2, hp2, sh2, el2, wr2, ou2, bh2, li2, so2, d, s, rfl, f8, j1, j2, j3, j4, j5, j6, j7, j8, j9, j10, j11, j12, j13, j14⟩
  rw [sSolL_c c7] at j9 j13 j14
  have f8l := f8.1
  show wq 139 49 [(0, .ref 0), (1, .long po), (3, .int 0)] [] h8 (0 + d) (0 + s) _
  rw [Nat.zero_add, Nat.zero_add]
  refine wq_gos (f := 1) (pc2 := 54) (ls2 := [(0, .ref 0), (1, .long po), (3, .int 0)]) (st2 := [.ref 0]) (h2 := h8) (dc2 := d) (ds2 := s) 3 rfl ?_
  have e16x := (f8.2 _ _ (wnc (by omega) (wnc (by decide) (wnc (by decide) (wnc (by decide) (wnc (by decide) (wnc (by decide) (wnc (by decide) (wnc (by decide) (wnc (by decide) (wnc (by decide) (wnc (by omega) wn0))))))))))) e1x)
  refine wq_getf rfl e16x rfl rfl ?_
  refine wq_inlv (y2 := 16) (as := []) rfl rfl rfl j9 rfl ?_
  show wq 16 0 [(0, .ref 66)] [] h8 0 0 _
  refine wq_gos (f := 1) (pc2 := 1) (ls2 := [(0, .ref 66)]) (st2 := [.ref 66]) (h2 := h8) (dc2 := 0) (ds2 := 0) 1 rfl ?_
  refine wq_getf rfl j9 rfl rfl ?_
  refine wq_gos (f := 1) (pc2 := 7) (ls2 := [(0, .ref 66)]) (st2 := [.int 600, .int (nI (sSolL ll lg lk hd ht (jpl lk hd ht v0 v1 v2 v3 v4 v5) 64 (-32)).length)]) (h2 := h8) (dc2 := 0) (ds2 := 0) 1 rfl ?_
  refine wq_le2 rfl rfl (fun b17x => ?_) (fun b17x => ?_)
  · refine wq_gos (f := 1) (pc2 := 15) (ls2 := [(0, .ref 66)]) (st2 := [.int 0]) (h2 := h8) (dc2 := 0) (ds2 := 0) 1 rfl ?_
    refine wq_ret rfl rfl ?_
    show wq 139 60 [(0, .ref 0), (1, .long po), (3, .int 0)] [.int 0] h8 d s _
    refine wq_gos (f := 1) (pc2 := 68) (ls2 := [(0, .ref 0), (1, .long po), (3, .int 0)]) (st2 := [.int 0]) (h2 := h8) (dc2 := d) (ds2 := s) 2 rfl ?_
    have e18x := (f8.2 _ _ (wnc (by omega) (wnc (by decide) (wnc (by decide) (wnc (by decide) (wnc (by decide) (wnc (by decide) (wnc (by decide) (wnc (by decide) (wnc (by decide) (wnc (by decide) (wnc (by omega) wn0))))))))))) e7)
    have hb9 := b17x
    rw [nI_toInt (by omega), show (600 : Int32).toInt = 600 from rfl] at hb9
    have hv : jOne ll lg lk hd ht 0 v0 v1 v2 v3 v4 v5 = 0 := by unfold jOne; rw [if_neg (by decide), if_neg (show ¬ 600 < jN ll lg lk hd ht v0 v1 v2 v3 v4 v5 from (by show ¬ 600 < (sSolL ll lg lk hd ht (jpl lk hd ht v0 v1 v2 v3 v4 v5) 64 (-32)).length; omega)), if_pos rfl]
    rw [hv]
    exact wq_ret rfl rfl ⟨h8, rL2, cap2, rs2, sc2, d, s, rfl, (wFr_tr (wFr_sub f7 (by simp)) (wFr_sub f8 (by simp))), ⟨.ref ra, .ref 66, nf2, 1, _, ks2, fa2, tg2, hp2, sh2, el2, wr2, ou2, bh2, pq, li2, so2, j1, j2, j3, j4, j5, j6, j7, j8, j9, j10, j11, e18x, by omega, by omega, by omega, by omega, by omega, by omega, by omega⟩, by omega, by omega, by omega, by omega⟩
  · refine wq_gos (f := 1) (pc2 := 15) (ls2 := [(0, .ref 66)]) (st2 := [.int 1]) (h2 := h8) (dc2 := 0) (ds2 := 0) 2 rfl ?_
    refine wq_ret rfl rfl ?_
    show wq 139 60 [(0, .ref 0), (1, .long po), (3, .int 0)] [.int 1] h8 d s _
    refine wq_gos (f := 1) (pc2 := 68) (ls2 := [(0, .ref 0), (1, .long po), (3, .int 0)]) (st2 := [.int 1]) (h2 := h8) (dc2 := d) (ds2 := s) 3 rfl ?_
    have e19x := (f8.2 _ _ (wnc (by omega) (wnc (by decide) (wnc (by decide) (wnc (by decide) (wnc (by decide) (wnc (by decide) (wnc (by decide) (wnc (by decide) (wnc (by decide) (wnc (by decide) (wnc (by omega) wn0))))))))))) e7)
    have hb9 := b17x
    rw [nI_toInt (by omega), show (600 : Int32).toInt = 600 from rfl] at hb9
    have hv : jOne ll lg lk hd ht 0 v0 v1 v2 v3 v4 v5 = 1 := by unfold jOne; rw [if_neg (by decide), if_pos (show 600 < jN ll lg lk hd ht v0 v1 v2 v3 v4 v5 from (by show 600 < (sSolL ll lg lk hd ht (jpl lk hd ht v0 v1 v2 v3 v4 v5) 64 (-32)).length; omega)), if_pos rfl]
    rw [hv]
    exact wq_ret rfl rfl ⟨h8, rL2, cap2, rs2, sc2, d, s, rfl, (wFr_tr (wFr_sub f7 (by simp)) (wFr_sub f8 (by simp))), ⟨.ref ra, .ref 66, nf2, 1, _, ks2, fa2, tg2, hp2, sh2, el2, wr2, ou2, bh2, pq, li2, so2, j1, j2, j3, j4, j5, j6, j7, j8, j9, j10, j11, e19x, by omega, by omega, by omega, by omega, by omega, by omega, by omega⟩, by omega, by omega, by omega, by omega⟩
set_option maxHeartbeats 8000000 in
theorem c_chOf1 {h : zH} {ra rl rg rv rn rp rw : Nat} {lk hd ht bl sd sp so : Int32} {rt : Int64} {ll lg : List Int32} {rd : Nat} {ta im : Int32} {ps ip : Int64} {rL cap rs sc : Nat} {po : Int64} {v0 v1 v2 v3 v4 v5 : Int32} (hX : zat h 0 = some (.inr (.inr (.inr (9, [.ref 2, .int ta, .ref 4, .ref ra, .ref rd, .long ps, .ref 34, .ref 36, .int im, .long ip, .ref 42, .ref 44, .ref 60, .ref 66, .ref 72, .ref 74, .ref 150, .ref 158]))))) (hA : zat h ra = some (.inr (.inr (.inr (0, [.int lk, .int hd, .int ht, .int bl, .int sd, .long rt, .ref rl, .ref rg, .ref rv, .int sp, .ref rn, .ref rp, .int so, .ref rw]))))) (hL : zat h rl = some (.inl (0, 6, ll))) (hG : zat h rg = some (.inl (0, 6, lg))) (hCS : wCS h rL cap rs sc) (hl9 : 1 ≤ lk.toInt ∧ lk.toInt ≤ 99) (hh9 : 1 ≤ hd.toInt ∧ hd.toInt ≤ 99) (hr9 : 0 ≤ (ll.getD 0 0).toInt ∧ (lg.getD 0 0).toInt ≤ 99) (hn0 : jnum po 40 = v0) (hn1 : jnum po 32 = v1) (hn2 : jnum po 24 = v2) (hn3 : jnum po 16 = v3) (hn4 : jnum po 8 = v4) (hn5 : jnum po 0 = v5) (hown : po ∈ (sSolL ll lg lk hd ht (jpl lk hd ht v0 v1 v2 v3 v4 v5) 64 (-32))) (ha : ra < 34 ∧ rl < 34 ∧ rg < 34) : wq 139 0 [(0, .ref 0), (1, .long po), (3, .int 1)] [] h 0 0 (fun r => ∃ (h2 : zH) (rL2 cap2 rs2 sc2 d s : Nat), r = (some (.int (jOne ll lg lk hd ht 1 v0 v1 v2 v3 v4 v5)), h2, d, s) ∧ wFr [rL, rs, 44, 46, 48, 50, 52, 54, 56, 66, 70, 72] h h2 ∧ wCS h2 rL2 cap2 rs2 sc2 ∧ ((rL2 = rL ∨ 2 * h.length ≤ rL2) ∧ (rs2 = rs ∨ 2 * h.length ≤ rs2) ∧ d + cap + sc ≤ cap2 + sc2 ∧ s + 600 * (cap + sc) ≤ 600 * (cap2 + sc2))) := by
  have hsl := sSolL_len ll lg lk hd ht (jpl lk hd ht v0 v1 v2 v3 v4 v5) 64 (-32)
  obtain ⟨w0, w1, nf, kn, to, ks, fa, tg, hp, sh, el, wr, ou, bh, dp, li, so1, hS, h46, h48, h50, h52, h54, hB, hO, hH, hP4, hI, hQ, hk1, hk2, hk3, hk4, hk5, hk6, hk7⟩ := hCS
  refine wq_gos (f := 1) (pc2 := 19) (ls2 := [(0, .ref 0), (1, .long po), (3, .int 1)]) (st2 := [.ref 0]) (h2 := h) (dc2 := 0) (ds2 := 0) 4 rfl ?_
  refine wq_getf rfl hX rfl rfl ?_
  refine wq_gos (f := 1) (pc2 := 24) (ls2 := [(0, .ref 0), (1, .long po), (3, .int 1)]) (st2 := [.ref 0, .long po, .ref ra]) (h2 := h) (dc2 := 0) (ds2 := 0) 2 rfl ?_
  refine wq_getf rfl hX rfl rfl ?_
  refine wq_inlv (y2 := 8) (as := [.long po, .ref 72]) rfl rfl rfl hA rfl (wq_mono (c_placeOf hA hL hG hQ ⟨by decide, by omega, by omega, by omega⟩ hn0 hn1 hn2 hn3 hn4 hn5) ?_)
  rintro _ ⟨h7, pq, rfl, f7, l7, e7, c7⟩
  show wq 139 30 [(0, .ref 0), (1, .long po), (3, .int 1)] [] h7 0 0 _
  refine wq_gos (f := 1) (pc2 := 31) (ls2 := [(0, .ref 0), (1, .long po), (3, .int 1)]) (st2 := [.ref 0]) (h2 := h7) (dc2 := 0) (ds2 := 0) 1 rfl ?_
  have e1x := (f7.2 _ _ (wnc (by decide) wn0) hX)
  refine wq_getf rfl e1x rfl rfl ?_
  refine wq_gos (f := 1) (pc2 := 35) (ls2 := [(0, .ref 0), (1, .long po), (3, .int 1)]) (st2 := [.ref 0, .ref 44]) (h2 := h7) (dc2 := 0) (ds2 := 0) 1 rfl ?_
  refine wq_getf rfl e1x rfl rfl ?_
  refine wq_gos (f := 1) (pc2 := 39) (ls2 := [(0, .ref 0), (1, .long po), (3, .int 1)]) (st2 := [.ref 0, .ref ra, .ref 44]) (h2 := h7) (dc2 := 0) (ds2 := 0) 1 rfl ?_
  refine wq_getf rfl e1x rfl rfl ?_
  refine wq_gos (f := 1) (pc2 := 43) (ls2 := [(0, .ref 0), (1, .long po), (3, .int 1)]) (st2 := [.ref 0, .ref 72, .ref ra, .ref 44]) (h2 := h7) (dc2 := 0) (ds2 := 0) 1 rfl ?_
  refine wq_getf rfl e1x rfl rfl ?_
  have e2x := (f7.2 _ _ (wnc (by omega) wn0) hA)
  have e3x := (f7.2 _ _ (wnc (by omega) wn0) hL)
  have e4x := (f7.2 _ _ (wnc (by omega) wn0) hG)
  have e5x := (f7.2 _ _ (wnc (by decide) wn0) hS)
  have e6x := (f7.2 _ _ (wnc (by decide) wn0) h46)
  have e7x := (f7.2 _ _ (wnc (by decide) wn0) h48)
  have e8x := (f7.2 _ _ (wnc (by decide) wn0) h50)
  have e9x := (f7.2 _ _ (wnc (by decide) wn0) h52)
  have e10x := (f7.2 _ _ (wnc (by decide) wn0) h54)
  have e11x := (f7.2 _ _ (wnc (by decide) wn0) hB)
  have e12x := (f7.2 _ _ (wnc (by omega) wn0) hO)
  have e13x := (f7.2 _ _ (wnc (by decide) wn0) hH)
  have e14x := (f7.2 _ _ (wnc (by decide) wn0) hP4)
  have e15x := (f7.2 _ _ (wnc (by omega) wn0) hI)
  refine wq_inlv (y2 := 82) (as := [.ref ra, .ref 72, .ref 66]) rfl rfl rfl e5x rfl (wq_mono (c_solve (rh := 66) e2x e3x e4x e5x e6x e7x e8x e9x e10x e11x e12x e13x e14x e15x e7 hl9 hh9 hr9 ha ⟨by decide, by decide, by omega⟩ ⟨by omega, by omega⟩ ⟨by decide, by decide, by decide, by decide, by decide, by decide, by omega⟩ ⟨by omega, by omega, by omega⟩ (by omega)) ?_)
  rintro _ ⟨h8, rL2, cap2, rs2, sc2, nf2, ks2, fa2, tg2, hp2, sh2, el2, wr2, ou2, bh2, li2, so2, d, s, rfl, f8, j1, j2, j3, j4, j5, j6, j7, j8, j9, j10, j11, j12, j13, j14⟩
  rw [sSolL_c c7] at j9 j13 j14
  have f8l := f8.1
  show wq 139 49 [(0, .ref 0), (1, .long po), (3, .int 1)] [] h8 (0 + d) (0 + s) _
  rw [Nat.zero_add, Nat.zero_add]
  refine wq_gos (f := 1) (pc2 := 70) (ls2 := [(0, .ref 0), (1, .long po), (3, .int 1)]) (st2 := [.ref 0]) (h2 := h8) (dc2 := d) (ds2 := s) 3 rfl ?_
  have e16x := (f8.2 _ _ (wnc (by omega) (wnc (by decide) (wnc (by decide) (wnc (by decide) (wnc (by decide) (wnc (by decide) (wnc (by decide) (wnc (by decide) (wnc (by decide) (wnc (by decide) (wnc (by omega) wn0))))))))))) e1x)
  refine wq_getf rfl e16x rfl rfl ?_
  refine wq_inlv (y2 := 16) (as := []) rfl rfl rfl j9 rfl ?_
  show wq 16 0 [(0, .ref 66)] [] h8 0 0 _
  refine wq_gos (f := 1) (pc2 := 1) (ls2 := [(0, .ref 66)]) (st2 := [.ref 66]) (h2 := h8) (dc2 := 0) (ds2 := 0) 1 rfl ?_
  refine wq_getf rfl j9 rfl rfl ?_
  refine wq_gos (f := 1) (pc2 := 7) (ls2 := [(0, .ref 66)]) (st2 := [.int 600, .int (nI (sSolL ll lg lk hd ht (jpl lk hd ht v0 v1 v2 v3 v4 v5) 64 (-32)).length)]) (h2 := h8) (dc2 := 0) (ds2 := 0) 1 rfl ?_
  refine wq_le2 rfl rfl (fun b17x => ?_) (fun b17x => ?_)
  · refine wq_gos (f := 1) (pc2 := 15) (ls2 := [(0, .ref 66)]) (st2 := [.int 0]) (h2 := h8) (dc2 := 0) (ds2 := 0) 1 rfl ?_
    refine wq_ret rfl rfl ?_
    show wq 139 76 [(0, .ref 0), (1, .long po), (3, .int 1)] [.int 0] h8 d s _
    refine wq_gos (f := 1) (pc2 := 87) (ls2 := [(0, .ref 0), (1, .long po), (3, .int 1)]) (st2 := [.ref 0]) (h2 := h8) (dc2 := d) (ds2 := s) 5 rfl ?_
    refine wq_getf rfl e16x rfl rfl ?_
    refine wq_getf rfl j9 rfl rfl ?_
    refine wq_gos (f := 1) (pc2 := 112) (ls2 := [(0, .ref 0), (1, .long po), (3, .int 1)]) (st2 := [.int (nI (sSolL ll lg lk hd ht (jpl lk hd ht v0 v1 v2 v3 v4 v5) 64 (-32)).length)]) (h2 := h8) (dc2 := d) (ds2 := s) 1 rfl ?_
    have e18x := (f8.2 _ _ (wnc (by omega) (wnc (by decide) (wnc (by decide) (wnc (by decide) (wnc (by decide) (wnc (by decide) (wnc (by decide) (wnc (by decide) (wnc (by decide) (wnc (by decide) (wnc (by omega) wn0))))))))))) e7)
    have hb9 := b17x
    rw [nI_toInt (by omega), show (600 : Int32).toInt = 600 from rfl] at hb9
    have hv : jOne ll lg lk hd ht 1 v0 v1 v2 v3 v4 v5 = (nI (sSolL ll lg lk hd ht (jpl lk hd ht v0 v1 v2 v3 v4 v5) 64 (-32)).length) := by unfold jOne; rw [if_neg (by decide), if_neg (show ¬ 600 < jN ll lg lk hd ht v0 v1 v2 v3 v4 v5 from (by show ¬ 600 < (sSolL ll lg lk hd ht (jpl lk hd ht v0 v1 v2 v3 v4 v5) 64 (-32)).length; omega)), if_neg (by decide), if_pos rfl]; rfl
    rw [hv]
    exact wq_ret rfl rfl ⟨h8, rL2, cap2, rs2, sc2, d, s, rfl, (wFr_tr (wFr_sub f7 (by simp)) (wFr_sub f8 (by simp))), ⟨.ref ra, .ref 66, nf2, 1, _, ks2, fa2, tg2, hp2, sh2, el2, wr2, ou2, bh2, pq, li2, so2, j1, j2, j3, j4, j5, j6, j7, j8, j9, j10, j11, e18x, by omega, by omega, by omega, by omega, by omega, by omega, by omega⟩, by omega, by omega, by omega, by omega⟩
  · refine wq_gos (f := 1) (pc2 := 15) (ls2 := [(0, .ref 66)]) (st2 := [.int 1]) (h2 := h8) (dc2 := 0) (ds2 := 0) 2 rfl ?_
    refine wq_ret rfl rfl ?_
    show wq 139 76 [(0, .ref 0), (1, .long po), (3, .int 1)] [.int 1] h8 d s _
    refine wq_gos (f := 1) (pc2 := 80) (ls2 := [(0, .ref 0), (1, .long po), (3, .int 1)]) (st2 := [.int 0]) (h2 := h8) (dc2 := d) (ds2 := s) 2 rfl ?_
    have e19x := (f8.2 _ _ (wnc (by omega) (wnc (by decide) (wnc (by decide) (wnc (by decide) (wnc (by decide) (wnc (by decide) (wnc (by decide) (wnc (by decide) (wnc (by decide) (wnc (by decide) (wnc (by omega) wn0))))))))))) e7)
    have hb9 := b17x
    rw [nI_toInt (by omega), show (600 : Int32).toInt = 600 from rfl] at hb9
    have hv : jOne ll lg lk hd ht 1 v0 v1 v2 v3 v4 v5 = 0 := by unfold jOne; rw [if_neg (by decide), if_pos (show 600 < jN ll lg lk hd ht v0 v1 v2 v3 v4 v5 from (by show 600 < (sSolL ll lg lk hd ht (jpl lk hd ht v0 v1 v2 v3 v4 v5) 64 (-32)).length; omega)), if_neg (by decide)]
    rw [hv]
    exact wq_ret rfl rfl ⟨h8, rL2, cap2, rs2, sc2, d, s, rfl, (wFr_tr (wFr_sub f7 (by simp)) (wFr_sub f8 (by simp))), ⟨.ref ra, .ref 66, nf2, 1, _, ks2, fa2, tg2, hp2, sh2, el2, wr2, ou2, bh2, pq, li2, so2, j1, j2, j3, j4, j5, j6, j7, j8, j9, j10, j11, e19x, by omega, by omega, by omega, by omega, by omega, by omega, by omega⟩, by omega, by omega, by omega, by omega⟩
set_option maxHeartbeats 8000000 in
theorem c_chOf2 {h : zH} {ra rl rg rv rn rp rw : Nat} {lk hd ht bl sd sp so : Int32} {rt : Int64} {ll lg : List Int32} {rd : Nat} {ta im : Int32} {ps ip : Int64} {rL cap rs sc : Nat} {po : Int64} {v0 v1 v2 v3 v4 v5 : Int32} (hX : zat h 0 = some (.inr (.inr (.inr (9, [.ref 2, .int ta, .ref 4, .ref ra, .ref rd, .long ps, .ref 34, .ref 36, .int im, .long ip, .ref 42, .ref 44, .ref 60, .ref 66, .ref 72, .ref 74, .ref 150, .ref 158]))))) (hA : zat h ra = some (.inr (.inr (.inr (0, [.int lk, .int hd, .int ht, .int bl, .int sd, .long rt, .ref rl, .ref rg, .ref rv, .int sp, .ref rn, .ref rp, .int so, .ref rw]))))) (hL : zat h rl = some (.inl (0, 6, ll))) (hG : zat h rg = some (.inl (0, 6, lg))) (hCS : wCS h rL cap rs sc) (hl9 : 1 ≤ lk.toInt ∧ lk.toInt ≤ 99) (hh9 : 1 ≤ hd.toInt ∧ hd.toInt ≤ 99) (hr9 : 0 ≤ (ll.getD 0 0).toInt ∧ (lg.getD 0 0).toInt ≤ 99) (hn0 : jnum po 40 = v0) (hn1 : jnum po 32 = v1) (hn2 : jnum po 24 = v2) (hn3 : jnum po 16 = v3) (hn4 : jnum po 8 = v4) (hn5 : jnum po 0 = v5) (hown : po ∈ (sSolL ll lg lk hd ht (jpl lk hd ht v0 v1 v2 v3 v4 v5) 64 (-32))) (ha : ra < 34 ∧ rl < 34 ∧ rg < 34) : wq 139 0 [(0, .ref 0), (1, .long po), (3, .int 2)] [] h 0 0 (fun r => ∃ (h2 : zH) (rL2 cap2 rs2 sc2 d s : Nat), r = (some (.int (jOne ll lg lk hd ht 2 v0 v1 v2 v3 v4 v5)), h2, d, s) ∧ wFr [rL, rs, 44, 46, 48, 50, 52, 54, 56, 66, 70, 72] h h2 ∧ wCS h2 rL2 cap2 rs2 sc2 ∧ ((rL2 = rL ∨ 2 * h.length ≤ rL2) ∧ (rs2 = rs ∨ 2 * h.length ≤ rs2) ∧ d + cap + sc ≤ cap2 + sc2 ∧ s + 600 * (cap + sc) ≤ 600 * (cap2 + sc2))) := by
  have hsl := sSolL_len ll lg lk hd ht (jpl lk hd ht v0 v1 v2 v3 v4 v5) 64 (-32)
  obtain ⟨w0, w1, nf, kn, to, ks, fa, tg, hp, sh, el, wr, ou, bh, dp, li, so1, hS, h46, h48, h50, h52, h54, hB, hO, hH, hP4, hI, hQ, hk1, hk2, hk3, hk4, hk5, hk6, hk7⟩ := hCS
  refine wq_gos (f := 1) (pc2 := 19) (ls2 := [(0, .ref 0), (1, .long po), (3, .int 2)]) (st2 := [.ref 0]) (h2 := h) (dc2 := 0) (ds2 := 0) 4 rfl ?_
  refine wq_getf rfl hX rfl rfl ?_
  refine wq_gos (f := 1) (pc2 := 24) (ls2 := [(0, .ref 0), (1, .long po), (3, .int 2)]) (st2 := [.ref 0, .long po, .ref ra]) (h2 := h) (dc2 := 0) (ds2 := 0) 2 rfl ?_
  refine wq_getf rfl hX rfl rfl ?_
  refine wq_inlv (y2 := 8) (as := [.long po, .ref 72]) rfl rfl rfl hA rfl (wq_mono (c_placeOf hA hL hG hQ ⟨by decide, by omega, by omega, by omega⟩ hn0 hn1 hn2 hn3 hn4 hn5) ?_)
  rintro _ ⟨h7, pq, rfl, f7, l7, e7, c7⟩
  show wq 139 30 [(0, .ref 0), (1, .long po), (3, .int 2)] [] h7 0 0 _
  refine wq_gos (f := 1) (pc2 := 31) (ls2 := [(0, .ref 0), (1, .long po), (3, .int 2)]) (st2 := [.ref 0]) (h2 := h7) (dc2 := 0) (ds2 := 0) 1 rfl ?_
  have e1x := (f7.2 _ _ (wnc (by decide) wn0) hX)
  refine wq_getf rfl e1x rfl rfl ?_
  refine wq_gos (f := 1) (pc2 := 35) (ls2 := [(0, .ref 0), (1, .long po), (3, .int 2)]) (st2 := [.ref 0, .ref 44]) (h2 := h7) (dc2 := 0) (ds2 := 0) 1 rfl ?_
  refine wq_getf rfl e1x rfl rfl ?_
  refine wq_gos (f := 1) (pc2 := 39) (ls2 := [(0, .ref 0), (1, .long po), (3, .int 2)]) (st2 := [.ref 0, .ref ra, .ref 44]) (h2 := h7) (dc2 := 0) (ds2 := 0) 1 rfl ?_
  refine wq_getf rfl e1x rfl rfl ?_
  refine wq_gos (f := 1) (pc2 := 43) (ls2 := [(0, .ref 0), (1, .long po), (3, .int 2)]) (st2 := [.ref 0, .ref 72, .ref ra, .ref 44]) (h2 := h7) (dc2 := 0) (ds2 := 0) 1 rfl ?_
  refine wq_getf rfl e1x rfl rfl ?_
  have e2x := (f7.2 _ _ (wnc (by omega) wn0) hA)
  have e3x := (f7.2 _ _ (wnc (by omega) wn0) hL)
  have e4x := (f7.2 _ _ (wnc (by omega) wn0) hG)
  have e5x := (f7.2 _ _ (wnc (by decide) wn0) hS)
  have e6x := (f7.2 _ _ (wnc (by decide) wn0) h46)
  have e7x := (f7.2 _ _ (wnc (by decide) wn0) h48)
  have e8x := (f7.2 _ _ (wnc (by decide) wn0) h50)
  have e9x := (f7.2 _ _ (wnc (by decide) wn0) h52)
  have e10x := (f7.2 _ _ (wnc (by decide) wn0) h54)
  have e11x := (f7.2 _ _ (wnc (by decide) wn0) hB)
  have e12x := (f7.2 _ _ (wnc (by omega) wn0) hO)
  have e13x := (f7.2 _ _ (wnc (by decide) wn0) hH)
  have e14x := (f7.2 _ _ (wnc (by decide) wn0) hP4)
  have e15x := (f7.2 _ _ (wnc (by omega) wn0) hI)
  refine wq_inlv (y2 := 82) (as := [.ref ra, .ref 72, .ref 66]) rfl rfl rfl e5x rfl (wq_mono (c_solve (rh := 66) e2x e3x e4x e5x e6x e7x e8x e9x e10x e11x e12x e13x e14x e15x e7 hl9 hh9 hr9 ha ⟨by decide, by decide, by omega⟩ ⟨by omega, by omega⟩ ⟨by decide, by decide, by decide, by decide, by decide, by decide, by omega⟩ ⟨by omega, by omega, by omega⟩ (by omega)) ?_)
  rintro _ ⟨h8, rL2, cap2, rs2, sc2, nf2, ks2, fa2, tg2, hp2, sh2, el2, wr2, ou2, bh2, li2, so2, d, s, rfl, f8, j1, j2, j3, j4, j5, j6, j7, j8, j9, j10, j11, j12, j13, j14⟩
  rw [sSolL_c c7] at j9 j13 j14
  have f8l := f8.1
  show wq 139 49 [(0, .ref 0), (1, .long po), (3, .int 2)] [] h8 (0 + d) (0 + s) _
  rw [Nat.zero_add, Nat.zero_add]
  refine wq_gos (f := 1) (pc2 := 70) (ls2 := [(0, .ref 0), (1, .long po), (3, .int 2)]) (st2 := [.ref 0]) (h2 := h8) (dc2 := d) (ds2 := s) 3 rfl ?_
  have e16x := (f8.2 _ _ (wnc (by omega) (wnc (by decide) (wnc (by decide) (wnc (by decide) (wnc (by decide) (wnc (by decide) (wnc (by decide) (wnc (by decide) (wnc (by decide) (wnc (by decide) (wnc (by omega) wn0))))))))))) e1x)
  refine wq_getf rfl e16x rfl rfl ?_
  refine wq_inlv (y2 := 16) (as := []) rfl rfl rfl j9 rfl ?_
  show wq 16 0 [(0, .ref 66)] [] h8 0 0 _
  refine wq_gos (f := 1) (pc2 := 1) (ls2 := [(0, .ref 66)]) (st2 := [.ref 66]) (h2 := h8) (dc2 := 0) (ds2 := 0) 1 rfl ?_
  refine wq_getf rfl j9 rfl rfl ?_
  refine wq_gos (f := 1) (pc2 := 7) (ls2 := [(0, .ref 66)]) (st2 := [.int 600, .int (nI (sSolL ll lg lk hd ht (jpl lk hd ht v0 v1 v2 v3 v4 v5) 64 (-32)).length)]) (h2 := h8) (dc2 := 0) (ds2 := 0) 1 rfl ?_
  refine wq_le2 rfl rfl (fun b17x => ?_) (fun b17x => ?_)
  · refine wq_gos (f := 1) (pc2 := 15) (ls2 := [(0, .ref 66)]) (st2 := [.int 0]) (h2 := h8) (dc2 := 0) (ds2 := 0) 1 rfl ?_
    refine wq_ret rfl rfl ?_
    show wq 139 76 [(0, .ref 0), (1, .long po), (3, .int 2)] [.int 0] h8 d s _
    refine wq_gos (f := 1) (pc2 := 97) (ls2 := [(0, .ref 0), (1, .long po), (3, .int 2)]) (st2 := [.ref 0]) (h2 := h8) (dc2 := d) (ds2 := s) 5 rfl ?_
    refine wq_getf rfl e16x rfl rfl ?_
    refine wq_gos (f := 1) (pc2 := 101) (ls2 := [(0, .ref 0), (1, .long po), (3, .int 2)]) (st2 := [.long po, .ref 66]) (h2 := h8) (dc2 := d) (ds2 := s) 1 rfl ?_
    have hb8 := b17x
    rw [nI_toInt (by omega), show (600 : Int32).toInt = 600 from rfl] at hb8
    obtain ⟨i9, hi9, hx9⟩ := List.mem_iff_getElem.mp hown
    have hi8 : (sSolL ll lg lk hd ht (jpl lk hd ht v0 v1 v2 v3 v4 v5) 64 (-32))[i9]? = some po := by rw [List.getElem?_eq_getElem hi9, hx9]
    have hi7 := pN_len hi8
    refine wq_inlv (y2 := 19) (as := [.long po]) rfl rfl rfl j9 rfl (wq_T (c_holds (rh := 66) j9 j11 ⟨by omega, by omega⟩ hi7 (j13 (by omega) i9 po hi8)) ?_)
    show wq 139 104 [(0, .ref 0), (1, .long po), (3, .int 2)] [.int 1] h8 d s _
    refine wq_gos (f := 1) (pc2 := 112) (ls2 := [(0, .ref 0), (1, .long po), (3, .int 2)]) (st2 := [.int 1]) (h2 := h8) (dc2 := d) (ds2 := s) 3 rfl ?_
    have e18x := (f8.2 _ _ (wnc (by omega) (wnc (by decide) (wnc (by decide) (wnc (by decide) (wnc (by decide) (wnc (by decide) (wnc (by decide) (wnc (by decide) (wnc (by decide) (wnc (by decide) (wnc (by omega) wn0))))))))))) e7)
    have hb9 := b17x
    rw [nI_toInt (by omega), show (600 : Int32).toInt = 600 from rfl] at hb9
    have hv : jOne ll lg lk hd ht 2 v0 v1 v2 v3 v4 v5 = 1 := by unfold jOne; rw [if_neg (by decide), if_neg (show ¬ 600 < jN ll lg lk hd ht v0 v1 v2 v3 v4 v5 from (by show ¬ 600 < (sSolL ll lg lk hd ht (jpl lk hd ht v0 v1 v2 v3 v4 v5) 64 (-32)).length; omega)), if_neg (by decide), if_neg (by decide)]
    rw [hv]
    exact wq_ret rfl rfl ⟨h8, rL2, cap2, rs2, sc2, d, s, rfl, (wFr_tr (wFr_sub f7 (by simp)) (wFr_sub f8 (by simp))), ⟨.ref ra, .ref 66, nf2, 1, _, ks2, fa2, tg2, hp2, sh2, el2, wr2, ou2, bh2, pq, li2, so2, j1, j2, j3, j4, j5, j6, j7, j8, j9, j10, j11, e18x, by omega, by omega, by omega, by omega, by omega, by omega, by omega⟩, by omega, by omega, by omega, by omega⟩
  · refine wq_gos (f := 1) (pc2 := 15) (ls2 := [(0, .ref 66)]) (st2 := [.int 1]) (h2 := h8) (dc2 := 0) (ds2 := 0) 2 rfl ?_
    refine wq_ret rfl rfl ?_
    show wq 139 76 [(0, .ref 0), (1, .long po), (3, .int 2)] [.int 1] h8 d s _
    refine wq_gos (f := 1) (pc2 := 80) (ls2 := [(0, .ref 0), (1, .long po), (3, .int 2)]) (st2 := [.int 0]) (h2 := h8) (dc2 := d) (ds2 := s) 2 rfl ?_
    have e19x := (f8.2 _ _ (wnc (by omega) (wnc (by decide) (wnc (by decide) (wnc (by decide) (wnc (by decide) (wnc (by decide) (wnc (by decide) (wnc (by decide) (wnc (by decide) (wnc (by decide) (wnc (by omega) wn0))))))))))) e7)
    have hb9 := b17x
    rw [nI_toInt (by omega), show (600 : Int32).toInt = 600 from rfl] at hb9
    have hv : jOne ll lg lk hd ht 2 v0 v1 v2 v3 v4 v5 = 0 := by unfold jOne; rw [if_neg (by decide), if_pos (show 600 < jN ll lg lk hd ht v0 v1 v2 v3 v4 v5 from (by show 600 < (sSolL ll lg lk hd ht (jpl lk hd ht v0 v1 v2 v3 v4 v5) 64 (-32)).length; omega)), if_neg (by decide)]
    rw [hv]
    exact wq_ret rfl rfl ⟨h8, rL2, cap2, rs2, sc2, d, s, rfl, (wFr_tr (wFr_sub f7 (by simp)) (wFr_sub f8 (by simp))), ⟨.ref ra, .ref 66, nf2, 1, _, ks2, fa2, tg2, hp2, sh2, el2, wr2, ou2, bh2, pq, li2, so2, j1, j2, j3, j4, j5, j6, j7, j8, j9, j10, j11, e19x, by omega, by omega, by omega, by omega, by omega, by omega, by omega⟩, by omega, by omega, by omega, by omega⟩
set_option maxHeartbeats 8000000 in
theorem c_chOf3 {h : zH} {ra rl rg rv rn rp rw : Nat} {lk hd ht bl sd sp so : Int32} {rt : Int64} {ll lg : List Int32} {rd : Nat} {ta im : Int32} {ps ip : Int64} {rL cap rs sc : Nat} {po : Int64} {v0 v1 v2 v3 v4 v5 : Int32} (hX : zat h 0 = some (.inr (.inr (.inr (9, [.ref 2, .int ta, .ref 4, .ref ra, .ref rd, .long ps, .ref 34, .ref 36, .int im, .long ip, .ref 42, .ref 44, .ref 60, .ref 66, .ref 72, .ref 74, .ref 150, .ref 158]))))) (hA : zat h ra = some (.inr (.inr (.inr (0, [.int lk, .int hd, .int ht, .int bl, .int sd, .long rt, .ref rl, .ref rg, .ref rv, .int sp, .ref rn, .ref rp, .int so, .ref rw]))))) (hL : zat h rl = some (.inl (0, 6, ll))) (hG : zat h rg = some (.inl (0, 6, lg))) (hCS : wCS h rL cap rs sc) (hl9 : 1 ≤ lk.toInt ∧ lk.toInt ≤ 99) (hh9 : 1 ≤ hd.toInt ∧ hd.toInt ≤ 99) (hr9 : 0 ≤ (ll.getD 0 0).toInt ∧ (lg.getD 0 0).toInt ≤ 99) (hn0 : jnum po 40 = v0) (hn1 : jnum po 32 = v1) (hn2 : jnum po 24 = v2) (hn3 : jnum po 16 = v3) (hn4 : jnum po 8 = v4) (hn5 : jnum po 0 = v5) (hown : po ∈ (sSolL ll lg lk hd ht (jpl lk hd ht v0 v1 v2 v3 v4 v5) 64 (-32))) (ha : ra < 34 ∧ rl < 34 ∧ rg < 34) : wq 139 0 [(0, .ref 0), (1, .long po), (3, .int 3)] [] h 0 0 (fun r => ∃ (h2 : zH) (rL2 cap2 rs2 sc2 d s : Nat), r = (some (.int (jOne ll lg lk hd ht 3 v0 v1 v2 v3 v4 v5)), h2, d, s) ∧ wFr [rL, rs, 44, 46, 48, 50, 52, 54, 56, 66, 70, 72] h h2 ∧ wCS h2 rL2 cap2 rs2 sc2 ∧ ((rL2 = rL ∨ 2 * h.length ≤ rL2) ∧ (rs2 = rs ∨ 2 * h.length ≤ rs2) ∧ d + cap + sc ≤ cap2 + sc2 ∧ s + 600 * (cap + sc) ≤ 600 * (cap2 + sc2))) := by
  have hsl := sSolL_len ll lg lk hd ht (jpl lk hd ht v0 v1 v2 v3 v4 v5) 64 (-32)
  refine wq_gos (f := 1) (pc2 := 6) (ls2 := [(0, .ref 0), (1, .long po), (3, .int 3)]) (st2 := [.long po]) (h2 := h) (dc2 := 0) (ds2 := 0) 4 rfl ?_
  refine wq_inl (y2 := 37) (as := [.long po]) rfl rfl rfl (wq_T (c_meas hn0 hn1 hn2 hn3 hn4 hn5 h) ?_)
  show wq 139 9 [(0, .ref 0), (1, .long po), (3, .int 3)] [.int (jme v1 v3)] h 0 0 _
  refine wq_ne0 rfl rfl (fun b1x => ?_) (fun b1x => ?_)
  · refine wq_gos (f := 1) (pc2 := 17) (ls2 := [(0, .ref 0), (1, .long po), (3, .int 3)]) (st2 := [.int 0]) (h2 := h) (dc2 := 0) (ds2 := 0) 1 rfl ?_
    have hv : jOne ll lg lk hd ht 3 v0 v1 v2 v3 v4 v5 = 0 := by unfold jOne; rw [if_pos rfl, if_neg b1x]
    rw [hv]
    exact wq_ret rfl rfl ⟨h, rL, cap, rs, sc, 0, 0, rfl, wFr_rf _ _, hCS, by omega, by omega, by omega, by omega⟩
  · refine wq_gos (f := 1) (pc2 := 17) (ls2 := [(0, .ref 0), (1, .long po), (3, .int 3)]) (st2 := [.int 1]) (h2 := h) (dc2 := 0) (ds2 := 0) 2 rfl ?_
    have hv : jOne ll lg lk hd ht 3 v0 v1 v2 v3 v4 v5 = 1 := by unfold jOne; rw [if_pos rfl, if_pos b1x]
    rw [hv]
    exact wq_ret rfl rfl ⟨h, rL, cap, rs, sc, 0, 0, rfl, wFr_rf _ _, hCS, by omega, by omega, by omega, by omega⟩
