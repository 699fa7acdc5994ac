theorem tPack_e (a b c d e f : Int32) : tPack (a, b, c, d, e, f) = jpack a b c d e f := rfl
noncomputable def wEqN (a b : Nat) : Prop := a = b
theorem jpl_4 (lk hd ht v0 v1 v2 v3 v4 v5 : Int32) : 0 ≤ ((jpl lk hd ht v0 v1 v2 v3 v4 v5).getD 4 0).toInt := z_and63 ((v2 + v3) + v4)
theorem jN_e (ll lg : List Int32) (lk hd ht v0 v1 v2 v3 v4 v5 : Int32) : (sSolL ll lg lk hd ht (jpl lk hd ht v0 v1 v2 v3 v4 v5) 64 (-32)).length = jN ll lg lk hd ht v0 v1 v2 v3 v4 v5 := rfl
theorem tCls_c {tg pl : List Int32} (h : ∀ i, i < 6 → tg.getD i 0 = pl.getD i 0) (ll lg : List Int32) (lk hd ht : Int32) : tCls ll lg lk hd ht tg = tCls ll lg lk hd ht pl := by
  have e : tTurn ll lg lk hd ht tg = tTurn ll lg lk hd ht pl := by
    funext t
    unfold tTurn jpit jroll0
    rw [h 0 (by decide), h 1 (by decide), h 2 (by decide), h 3 (by decide), h 4 (by decide), h 5 (by decide)]
  unfold tCls
  rw [e]
/-- the reference's cells that drawing changes, as they may stand -/
noncomputable def wMS (h : zH) (n : Nat) : Prop := ∃ (fs : List Value) (th on sq dq pa pb : List Int32) (fo : List Int64), zat h 162 = some (.inr (.inr (.inr (10, fs)))) ∧ mC fs ∧ fs[52]? = some (.int (nI n)) ∧ zat h 194 = some (.inl (0, 6, th)) ∧ zat h 196 = some (.inr (.inl (6000, fo))) ∧ zat h 200 = some (.inl (0, 4096, pa)) ∧ zat h 202 = some (.inl (0, 4096, pb)) ∧ zat h 204 = some (.inl (0, 6, on)) ∧ zat h 222 = some (.inl (0, 6, sq)) ∧ zat h 230 = some (.inl (0, 6, dq))
theorem jsd_s0 (n : Nat) : jsd n 0 = n := rfl
theorem jsd_ss (n k : Nat) : jsd n (k + 1) = jnx (jsd n k) := rfl
theorem jsd_6 (n m : Nat) : jsd (jsd n 6) m = jsd n (m + 6) := by
  induction m with
  | zero => rw [jsd_s0, Nat.zero_add]
  | succ m ih => rw [show m + 1 + 6 = (m + 6) + 1 by omega, jsd_ss (jsd n 6) m, jsd_ss n (m + 6), ih]
set_option maxHeartbeats 8000000 in
theorem m_chL0 {kn lo hi ll lg : List Int32} {sd : Int32} {N : Nat} (hN : N ≤ 20) (hw : wLim lo hi ll lg) (hlm : wLm ll lg) (hl9 : 1 ≤ (kn.getD 0 0).toInt ∧ (kn.getD 0 0).toInt ≤ 99) (hh9 : 1 ≤ (kn.getD 1 0).toInt ∧ (kn.getD 1 0).toInt ≤ 99) : ∀ (m i n : Nat) (su : Int32) (h : zH) (dc ds : Nat), i + m = N → n < 2147483648 → zat h 166 = some (.inl (0, 14, kn)) → zat h 168 = some (.inl (0, 12, lo)) → zat h 170 = some (.inl (0, 12, hi)) → wMS h n → wq 280 57 [(0, .ref 162), (1, .int sd), (2, .int (nI N)), (3, .int 0), (4, .int su), (5, .int (nI i))] [] h dc ds (fun r => ∃ (h2 : zH), r = (some (.int (jCh ll lg (kn.getD 0 0) (kn.getD 1 0) (kn.getD 2 0) 0 m n su)), h2, dc, ds) ∧ wFr [162, 230, 194, 222, 196, 204, 200, 202] h h2 ∧ h2.length = h.length ∧ wMS h2 (jsd n (6 * m))) := by
  intro m
  induction m with
  | zero =>
    intro i n su h dc ds him hn hK hO hG hMS
    have q1 := nI_toInt (n := i) (by omega)
    have q2 := nI_toInt (n := N) (by omega)
    refine wq_gos (f := 1) (pc2 := 60) (ls2 := [(0, .ref 162), (1, .int sd), (2, .int (nI N)), (3, .int 0), (4, .int su), (5, .int (nI i))]) (st2 := [.int (nI N), .int (nI i)]) (h2 := h) (dc2 := dc) (ds2 := ds) 2 rfl ?_
    refine wq_ge2t rfl (by omega) ?_
    refine wq_gos (f := 1) (pc2 := 293) (ls2 := [(0, .ref 162), (1, .int sd), (2, .int (nI N)), (3, .int 0), (4, .int su), (5, .int (nI i))]) (st2 := [.int su]) (h2 := h) (dc2 := dc) (ds2 := ds) 1 rfl ?_
    exact wq_ret rfl rfl ⟨h, rfl, wFr_rf _ _, rfl, hMS⟩
  | succ m ih =>
    intro i n su h dc ds him hn hK hO hG hMS
    have q1 := nI_toInt (n := i) (by omega)
    have q2 := nI_toInt (n := N) (by omega)
    obtain ⟨fs, th, on, sq, dq, pa, pb, fo, hM, hC, h52, hT, hF, h200, h202, hNn, hsq, hD⟩ := hMS
    refine wq_gos (f := 1) (pc2 := 60) (ls2 := [(0, .ref 162), (1, .int sd), (2, .int (nI N)), (3, .int 0), (4, .int su), (5, .int (nI i))]) (st2 := [.int (nI N), .int (nI i)]) (h2 := h) (dc2 := dc) (ds2 := ds) 2 rfl ?_
    refine wq_ge2f rfl rfl (by omega) ?_
    refine wq_ls [(0, .ref 162), (1, .int sd), (2, .int (nI N)), (3, .int 0), (4, .int su), (5, .int (nI i))] (show ([0, 1, 2, 3, 4, 5] : List Nat).Nodup by decide) ⟨rfl, rfl, rfl, rfl, rfl, rfl, trivial⟩ ?_
    refine m_draw6 hw (wLm_c hw hlm) hn hM hC hK hO hG h52 hD ?_
    intro h5 fs5 dq5 f5 l5 hM5 hC5 h525 hD5 d0 d1 d2 d3 d4 d5
    refine wq_gos (f := 1) (pc2 := 117) (ls2 := [(0, .ref 162), (1, .int sd), (2, .int (nI N)), (3, .int 0), (4, .int su), (5, .int (nI i))]) (st2 := [.ref 162, .ref 162]) (h2 := h5) (dc2 := dc) (ds2 := ds) 2 rfl ?_
    refine wq_getf rfl hM5 (hC5.2 (53, 230) (by decide)) rfl ?_
    refine wq_gos (f := 1) (pc2 := 121) (ls2 := [(0, .ref 162), (1, .int sd), (2, .int (nI N)), (3, .int 0), (4, .int su), (5, .int (nI i))]) (st2 := [.int 0, .ref 230, .ref 162]) (h2 := h5) (dc2 := dc) (ds2 := ds) 1 rfl ?_
    have e1x := (f5.2 _ _ (wnc (by decide) (wnc (by decide) wn0)) hK)
    have e2x := (f5.2 _ _ (wnc (by decide) (wnc (by decide) wn0)) hO)
    have e3x := (f5.2 _ _ (wnc (by decide) (wnc (by decide) wn0)) hG)
    have e4x := (f5.2 _ _ (wnc (by decide) (wnc (by decide) wn0)) hT)
    refine wq_inlv (y2 := 200) (as := [.ref 230, .int 0]) rfl rfl rfl hM5 rfl (wq_mono (m_placeD hM5 hC5 e1x e2x e3x hD5 e4x d0 d1 d2 d3 d4 d5) ?_)
    rintro _ ⟨h6, th6, rfl, f6, l6, e6, c6⟩
    show wq 280 124 [(0, .ref 162), (1, .int sd), (2, .int (nI N)), (3, .int 0), (4, .int su), (5, .int (nI i))] [] h6 dc ds _
    refine wq_gos (f := 1) (pc2 := 135) (ls2 := [(6, .int 0), (0, .ref 162), (1, .int sd), (2, .int (nI N)), (3, .int 0), (4, .int su), (5, .int (nI i))]) (st2 := [.ref 162]) (h2 := h6) (dc2 := dc) (ds2 := ds) 6 rfl ?_
    have e5x := (f6.2 _ _ (wnc (by decide) wn0) hM5)
    refine wq_getf rfl e5x (hC5.2 (48, 222) (by decide)) rfl ?_
    refine wq_gos (f := 1) (pc2 := 141) (ls2 := [(6, .int 0), (0, .ref 162), (1, .int sd), (2, .int (nI N)), (3, .int 0), (4, .int su), (5, .int (nI i))]) (st2 := [.ref 162, .int 0, .ref 222]) (h2 := h6) (dc2 := dc) (ds2 := ds) 2 rfl ?_
    refine wq_getf rfl e5x (hC5.2 (29, 194) (by decide)) rfl ?_
    refine wq_gos (f := 1) (pc2 := 146) (ls2 := [(6, .int 0), (0, .ref 162), (1, .int sd), (2, .int (nI N)), (3, .int 0), (4, .int su), (5, .int (nI i))]) (st2 := [.int 0, .ref 194, .int 0, .ref 222]) (h2 := h6) (dc2 := dc) (ds2 := ds) 1 rfl ?_
    refine wq_ialdk (k := 0) rfl e6 rfl rfl rfl ?_
    have e6x := (f6.2 _ _ (wnc (by decide) wn0) (f5.2 _ _ (wnc (by decide) (wnc (by decide) wn0)) hsq))
    refine wq_iast rfl e6x rfl rfl ?_
    intro h7x e8x f9x l10x
    have e8x : zat h7x 222 = some (.inl (0, 6, (zset 0 sq 0 (th6.getD 0 0)))) := e8x
    refine wq_gos (f := 1) (pc2 := 135) (ls2 := [(6, .int 1), (0, .ref 162), (1, .int sd), (2, .int (nI N)), (3, .int 0), (4, .int su), (5, .int (nI i))]) (st2 := [.ref 162]) (h2 := h7x) (dc2 := dc) (ds2 := ds) 6 rfl ?_
    have e11x := (f9x.2 _ _ (wnc (by decide) wn0) e5x)
    refine wq_getf rfl e11x (hC5.2 (48, 222) (by decide)) rfl ?_
    refine wq_gos (f := 1) (pc2 := 141) (ls2 := [(6, .int 1), (0, .ref 162), (1, .int sd), (2, .int (nI N)), (3, .int 0), (4, .int su), (5, .int (nI i))]) (st2 := [.ref 162, .int 1, .ref 222]) (h2 := h7x) (dc2 := dc) (ds2 := ds) 2 rfl ?_
    refine wq_getf rfl e11x (hC5.2 (29, 194) (by decide)) rfl ?_
    refine wq_gos (f := 1) (pc2 := 146) (ls2 := [(6, .int 1), (0, .ref 162), (1, .int sd), (2, .int (nI N)), (3, .int 0), (4, .int su), (5, .int (nI i))]) (st2 := [.int 1, .ref 194, .int 1, .ref 222]) (h2 := h7x) (dc2 := dc) (ds2 := ds) 1 rfl ?_
    have e12x := (f9x.2 _ _ (wnc (by decide) wn0) e6)
    refine wq_ialdk (k := 1) rfl e12x rfl rfl rfl ?_
    refine wq_iast rfl e8x rfl rfl ?_
    intro h13x e14x f15x l16x
    have e14x : zat h13x 222 = some (.inl (0, 6, (zset 0 (zset 0 sq 0 (th6.getD 0 0)) 1 (th6.getD 1 0)))) := e14x
    refine wq_gos (f := 1) (pc2 := 135) (ls2 := [(6, .int 2), (0, .ref 162), (1, .int sd), (2, .int (nI N)), (3, .int 0), (4, .int su), (5, .int (nI i))]) (st2 := [.ref 162]) (h2 := h13x) (dc2 := dc) (ds2 := ds) 6 rfl ?_
    have e17x := (f15x.2 _ _ (wnc (by decide) wn0) e11x)
    refine wq_getf rfl e17x (hC5.2 (48, 222) (by decide)) rfl ?_
    refine wq_gos (f := 1) (pc2 := 141) (ls2 := [(6, .int 2), (0, .ref 162), (1, .int sd), (2, .int (nI N)), (3, .int 0), (4, .int su), (5, .int (nI i))]) (st2 := [.ref 162, .int 2, .ref 222]) (h2 := h13x) (dc2 := dc) (ds2 := ds) 2 rfl ?_
    refine wq_getf rfl e17x (hC5.2 (29, 194) (by decide)) rfl ?_
    refine wq_gos (f := 1) (pc2 := 146) (ls2 := [(6, .int 2), (0, .ref 162), (1, .int sd), (2, .int (nI N)), (3, .int 0), (4, .int su), (5, .int (nI i))]) (st2 := [.int 2, .ref 194, .int 2, .ref 222]) (h2 := h13x) (dc2 := dc) (ds2 := ds) 1 rfl ?_
    have e18x := (f15x.2 _ _ (wnc (by decide) wn0) e12x)
    refine wq_ialdk (k := 2) rfl e18x rfl rfl rfl ?_
    refine wq_iast rfl e14x rfl rfl ?_
    intro h19x e20x f21x l22x
    have e20x : zat h19x 222 = some (.inl (0, 6, (zset 0 (zset 0 (zset 0 sq 0 (th6.getD 0 0)) 1 (th6.getD 1 0)) 2 (th6.getD 2 0)))) := e20x
    refine wq_gos (f := 1) (pc2 := 135) (ls2 := [(6, .int 3), (0, .ref 162), (1, .int sd), (2, .int (nI N)), (3, .int 0), (4, .int su), (5, .int (nI i))]) (st2 := [.ref 162]) (h2 := h19x) (dc2 := dc) (ds2 := ds) 6 rfl ?_
    have e23x := (f21x.2 _ _ (wnc (by decide) wn0) e17x)
    refine wq_getf rfl e23x (hC5.2 (48, 222) (by decide)) rfl ?_
    refine wq_gos (f := 1) (pc2 := 141) (ls2 := [(6, .int 3), (0, .ref 162), (1, .int sd), (2, .int (nI N)), (3, .int 0), (4, .int su), (5, .int (nI i))]) (st2 := [.ref 162, .int 3, .ref 222]) (h2 := h19x) (dc2 := dc) (ds2 := ds) 2 rfl ?_
    refine wq_getf rfl e23x (hC5.2 (29, 194) (by decide)) rfl ?_
    refine wq_gos (f := 1) (pc2 := 146) (ls2 := [(6, .int 3), (0, .ref 162), (1, .int sd), (2, .int (nI N)), (3, .int 0), (4, .int su), (5, .int (nI i))]) (st2 := [.int 3, .ref 194, .int 3, .ref 222]) (h2 := h19x) (dc2 := dc) (ds2 := ds) 1 rfl ?_
    have e24x := (f21x.2 _ _ (wnc (by decide) wn0) e18x)
    refine wq_ialdk (k := 3) rfl e24x rfl rfl rfl ?_
    refine wq_iast rfl e20x rfl rfl ?_
    intro h25x e26x f27x l28x
    have e26x : zat h25x 222 = some (.inl (0, 6, (zset 0 (zset 0 (zset 0 (zset 0 sq 0 (th6.getD 0 0)) 1 (th6.getD 1 0)) 2 (th6.getD 2 0)) 3 (th6.getD 3 0)))) := e26x
    refine wq_gos (f := 1) (pc2 := 135) (ls2 := [(6, .int 4), (0, .ref 162), (1, .int sd), (2, .int (nI N)), (3, .int 0), (4, .int su), (5, .int (nI i))]) (st2 := [.ref 162]) (h2 := h25x) (dc2 := dc) (ds2 := ds) 6 rfl ?_
    have e29x := (f27x.2 _ _ (wnc (by decide) wn0) e23x)
    refine wq_getf rfl e29x (hC5.2 (48, 222) (by decide)) rfl ?_
    refine wq_gos (f := 1) (pc2 := 141) (ls2 := [(6, .int 4), (0, .ref 162), (1, .int sd), (2, .int (nI N)), (3, .int 0), (4, .int su), (5, .int (nI i))]) (st2 := [.ref 162, .int 4, .ref 222]) (h2 := h25x) (dc2 := dc) (ds2 := ds) 2 rfl ?_
    refine wq_getf rfl e29x (hC5.2 (29, 194) (by decide)) rfl ?_
    refine wq_gos (f := 1) (pc2 := 146) (ls2 := [(6, .int 4), (0, .ref 162), (1, .int sd), (2, .int (nI N)), (3, .int 0), (4, .int su), (5, .int (nI i))]) (st2 := [.int 4, .ref 194, .int 4, .ref 222]) (h2 := h25x) (dc2 := dc) (ds2 := ds) 1 rfl ?_
    have e30x := (f27x.2 _ _ (wnc (by decide) wn0) e24x)
    refine wq_ialdk (k := 4) rfl e30x rfl rfl rfl ?_
    refine wq_iast rfl e26x rfl rfl ?_
    intro h31x e32x f33x l34x
    have e32x : zat h31x 222 = some (.inl (0, 6, (zset 0 (zset 0 (zset 0 (zset 0 (zset 0 sq 0 (th6.getD 0 0)) 1 (th6.getD 1 0)) 2 (th6.getD 2 0)) 3 (th6.getD 3 0)) 4 (th6.getD 4 0)))) := e32x
    refine wq_gos (f := 1) (pc2 := 135) (ls2 := [(6, .int 5), (0, .ref 162), (1, .int sd), (2, .int (nI N)), (3, .int 0), (4, .int su), (5, .int (nI i))]) (st2 := [.ref 162]) (h2 := h31x) (dc2 := dc) (ds2 := ds) 6 rfl ?_
    have e35x := (f33x.2 _ _ (wnc (by decide) wn0) e29x)
    refine wq_getf rfl e35x (hC5.2 (48, 222) (by decide)) rfl ?_
    refine wq_gos (f := 1) (pc2 := 141) (ls2 := [(6, .int 5), (0, .ref 162), (1, .int sd), (2, .int (nI N)), (3, .int 0), (4, .int su), (5, .int (nI i))]) (st2 := [.ref 162, .int 5, .ref 222]) (h2 := h31x) (dc2 := dc) (ds2 := ds) 2 rfl ?_
    refine wq_getf rfl e35x (hC5.2 (29, 194) (by decide)) rfl ?_
    refine wq_gos (f := 1) (pc2 := 146) (ls2 := [(6, .int 5), (0, .ref 162), (1, .int sd), (2, .int (nI N)), (3, .int 0), (4, .int su), (5, .int (nI i))]) (st2 := [.int 5, .ref 194, .int 5, .ref 222]) (h2 := h31x) (dc2 := dc) (ds2 := ds) 1 rfl ?_
    have e36x := (f33x.2 _ _ (wnc (by decide) wn0) e30x)
    refine wq_ialdk (k := 5) rfl e36x rfl rfl rfl ?_
    refine wq_iast rfl e32x rfl rfl ?_
    intro h37x e38x f39x l40x
    have e38x : zat h37x 222 = some (.inl (0, 6, (zset 0 (zset 0 (zset 0 (zset 0 (zset 0 (zset 0 sq 0 (th6.getD 0 0)) 1 (th6.getD 1 0)) 2 (th6.getD 2 0)) 3 (th6.getD 3 0)) 4 (th6.getD 4 0)) 5 (th6.getD 5 0)))) := e38x
    refine wq_gos (f := 1) (pc2 := 154) (ls2 := [(6, .int 6), (0, .ref 162), (1, .int sd), (2, .int (nI N)), (3, .int 0), (4, .int su), (5, .int (nI i))]) (st2 := []) (h2 := h37x) (dc2 := dc) (ds2 := ds) 5 rfl ?_
    obtain ⟨sq7, hsq7⟩ : ∃ x, x = (zset 0 (zset 0 (zset 0 (zset 0 (zset 0 (zset 0 sq 0 (th6.getD 0 0)) 1 (th6.getD 1 0)) 2 (th6.getD 2 0)) 3 (th6.getD 3 0)) 4 (th6.getD 4 0)) 5 (th6.getD 5 0)) := ⟨_, rfl⟩
    have e7 := e38x
    rw [← hsq7] at e7
    have c7 : ∀ i, i < 6 → sq7.getD i 0 = (jpl (kn.getD 0 0) (kn.getD 1 0) (kn.getD 2 0) (jv ll lg n 0) (jv ll lg n 1) (jv ll lg n 2) (jv ll lg n 3) (jv ll lg n 4) (jv ll lg n 5)).getD i 0 := by rw [hsq7]; exact lt6 (by simp only [zset_get]; exact c6 0 (by decide)) (by simp only [zset_get]; exact c6 1 (by decide)) (by simp only [zset_get]; exact c6 2 (by decide)) (by simp only [zset_get]; exact c6 3 (by decide)) (by simp only [zset_get]; exact c6 4 (by decide)) (by simp only [zset_get]; exact c6 5 (by decide))
    refine wq_gos (f := 1) (pc2 := 161) (ls2 := [(6, .int 6), (0, .ref 162), (1, .int sd), (2, .int (nI N)), (3, .int 0), (4, .int su), (5, .int (nI i))]) (st2 := [.ref 162, .ref 162]) (h2 := h37x) (dc2 := dc) (ds2 := ds) 5 rfl ?_
    have e41x := (f39x.2 _ _ (wnc (by decide) wn0) e35x)
    refine wq_getf rfl e41x (hC5.2 (48, 222) (by decide)) rfl ?_
    refine wq_gos (f := 1) (pc2 := 167) (ls2 := [(6, .int 6), (0, .ref 162), (1, .int sd), (2, .int (nI N)), (3, .int 0), (4, .int su), (5, .int (nI i))]) (st2 := [.int 5400, .ref 222, .ref 162]) (h2 := h37x) (dc2 := dc) (ds2 := ds) 1 rfl ?_
    have e42x := (f39x.2 _ _ (wnc (by decide) wn0) (f33x.2 _ _ (wnc (by decide) wn0) (f27x.2 _ _ (wnc (by decide) wn0) (f21x.2 _ _ (wnc (by decide) wn0) (f15x.2 _ _ (wnc (by decide) wn0) (f9x.2 _ _ (wnc (by decide) wn0) (f6.2 _ _ (wnc (by decide) wn0) e1x)))))))
    have e43x := (f39x.2 _ _ (wnc (by decide) wn0) (f33x.2 _ _ (wnc (by decide) wn0) (f27x.2 _ _ (wnc (by decide) wn0) (f21x.2 _ _ (wnc (by decide) wn0) (f15x.2 _ _ (wnc (by decide) wn0) (f9x.2 _ _ (wnc (by decide) wn0) (f6.2 _ _ (wnc (by decide) wn0) e2x)))))))
    have e44x := (f39x.2 _ _ (wnc (by decide) wn0) (f33x.2 _ _ (wnc (by decide) wn0) (f27x.2 _ _ (wnc (by decide) wn0) (f21x.2 _ _ (wnc (by decide) wn0) (f15x.2 _ _ (wnc (by decide) wn0) (f9x.2 _ _ (wnc (by decide) wn0) (f6.2 _ _ (wnc (by decide) wn0) e3x)))))))
    have e45x := (f39x.2 _ _ (wnc (by decide) wn0) (f33x.2 _ _ (wnc (by decide) wn0) (f27x.2 _ _ (wnc (by decide) wn0) (f21x.2 _ _ (wnc (by decide) wn0) (f15x.2 _ _ (wnc (by decide) wn0) (f9x.2 _ _ (wnc (by decide) wn0) (f6.2 _ _ (wnc (by decide) wn0) (f5.2 _ _ (wnc (by decide) (wnc (by decide) wn0)) hF))))))))
    have e46x := (f39x.2 _ _ (wnc (by decide) wn0) (f33x.2 _ _ (wnc (by decide) wn0) (f27x.2 _ _ (wnc (by decide) wn0) (f21x.2 _ _ (wnc (by decide) wn0) (f15x.2 _ _ (wnc (by decide) wn0) (f9x.2 _ _ (wnc (by decide) wn0) (f6.2 _ _ (wnc (by decide) wn0) (f5.2 _ _ (wnc (by decide) (wnc (by decide) wn0)) hNn))))))))
    have e47x := (f39x.2 _ _ (wnc (by decide) wn0) (f33x.2 _ _ (wnc (by decide) wn0) (f27x.2 _ _ (wnc (by decide) wn0) (f21x.2 _ _ (wnc (by decide) wn0) (f15x.2 _ _ (wnc (by decide) wn0) (f9x.2 _ _ (wnc (by decide) wn0) (f6.2 _ _ (wnc (by decide) wn0) (f5.2 _ _ (wnc (by decide) (wnc (by decide) wn0)) h200))))))))
    have e48x := (f39x.2 _ _ (wnc (by decide) wn0) (f33x.2 _ _ (wnc (by decide) wn0) (f27x.2 _ _ (wnc (by decide) wn0) (f21x.2 _ _ (wnc (by decide) wn0) (f15x.2 _ _ (wnc (by decide) wn0) (f9x.2 _ _ (wnc (by decide) wn0) (f6.2 _ _ (wnc (by decide) wn0) (f5.2 _ _ (wnc (by decide) (wnc (by decide) wn0)) h202))))))))
    refine wq_inlv (y2 := 226) (as := [.ref 222, .int 5400]) rfl rfl rfl e41x rfl (wq_mono (m_solves (o := 5400) (f34 := .null) (f35 := .null) e41x hC5 e42x e43x e44x e45x (by decide) e46x e7 (Or.inr rfl) e47x e48x) ?_)
    generalize hms : mSol lo hi kn sq7 = ms
    rintro _ ⟨⟨h8, fs8, fo8, wn8, on8, rfl, f8, l8, hM8, hC8, h348, h358, hF8, hfd8, hN8⟩, pa8, pb8, h2008, h2028⟩
    have h4s : 0 ≤ (sq7.getD 4 0).toInt := by rw [c7 4 (by decide)]; exact jpl_4 _ _ _ _ _ _ _ _ _
    obtain ⟨J, hJ⟩ : ∃ J, wEqN J (jN ll lg (kn.getD 0 0) (kn.getD 1 0) (kn.getD 2 0) (jv ll lg n 0) (jv ll lg n 1) (jv ll lg n 2) (jv ll lg n 3) (jv ll lg n 4) (jv ll lg n 5)) := ⟨_, Eq.refl _⟩
    have hse : (600 < J ∧ ms = none) ∨ ∃ l2, ms = some l2 ∧ J = l2.length ∧ l2.length ≤ 600 ∧ l2.Perm ((tCls ll lg (kn.getD 0 0) (kn.getD 1 0) (kn.getD 2 0) sq7).map tPack) := by
      have q := sols_eq (ll := ll) (lg := lg) hw hl9 hh9 h4s
      have e : J = (jN ll lg (kn.getD 0 0) (kn.getD 1 0) (kn.getD 2 0) (jv ll lg n 0) (jv ll lg n 1) (jv ll lg n 2) (jv ll lg n 3) (jv ll lg n 4) (jv ll lg n 5)) := hJ
      rw [hms, sSolL_c c7, jN_e, ← e] at q
      exact q
    clear h4s
    rcases hse with ⟨z1, z2⟩ | ⟨l2, z2, z1, z3, z4⟩
    · rw [z2] at h348 hfd8
      have h528 : fs8[52]? = some (.int (nI (jsd n 6))) := by rw [hC8.2 52 ⟨by decide, by decide⟩]; exact h525
      have h348 : fs8[34]? = some (.int (-3)) := h348
      show wq 280 170 [(6, .int 6), (0, .ref 162), (1, .int sd), (2, .int (nI N)), (3, .int 0), (4, .int su), (5, .int (nI i))] [] h8 dc ds _
      refine wq_gos (f := 1) (pc2 := 177) (ls2 := [(6, .int 6), (0, .ref 162), (1, .int sd), (2, .int (nI N)), (3, .int 0), (4, .int su), (5, .int (nI i))]) (st2 := [.ref 162, .int su]) (h2 := h8) (dc2 := dc) (ds2 := ds) 4 rfl ?_
      refine wq_getf rfl hM8 h348 rfl ?_
      refine wq_gos (f := 1) (pc2 := 288) (ls2 := [(5, .int ((nI i) + 1)), (4, .int (su + (1 : Int32))), (6, .int 6), (0, .ref 162), (1, .int sd), (2, .int (nI N)), (3, .int 0)]) (st2 := []) (h2 := h8) (dc2 := dc) (ds2 := ds) 8 rfl ?_
      rw [nI_1]
      refine wq_gos (f := 1) (pc2 := 57) (ls2 := [(5, .int (nI (i + 1))), (4, .int (su + (1 : Int32))), (6, .int 6), (0, .ref 162), (1, .int sd), (2, .int (nI N)), (3, .int 0)]) (st2 := []) (h2 := h8) (dc2 := dc) (ds2 := ds) 1 rfl ?_
      have e49x := (f8.2 _ _ (wnc (by decide) (wnc (by decide) (wnc (by decide) (wnc (by decide) (wnc (by decide) wn0))))) (f39x.2 _ _ (wnc (by decide) wn0) e36x))
      have e50x := (f8.2 _ _ (wnc (by decide) (wnc (by decide) (wnc (by decide) (wnc (by decide) (wnc (by decide) wn0))))) e7)
      have e51x := (f8.2 _ _ (wnc (by decide) (wnc (by decide) (wnc (by decide) (wnc (by decide) (wnc (by decide) wn0))))) (f39x.2 _ _ (wnc (by decide) wn0) (f33x.2 _ _ (wnc (by decide) wn0) (f27x.2 _ _ (wnc (by decide) wn0) (f21x.2 _ _ (wnc (by decide) wn0) (f15x.2 _ _ (wnc (by decide) wn0) (f9x.2 _ _ (wnc (by decide) wn0) (f6.2 _ _ (wnc (by decide) wn0) hD5))))))))
      have e52x := (f8.2 _ _ (wnc (by decide) (wnc (by decide) (wnc (by decide) (wnc (by decide) (wnc (by decide) wn0))))) e42x)
      have e53x := (f8.2 _ _ (wnc (by decide) (wnc (by decide) (wnc (by decide) (wnc (by decide) (wnc (by decide) wn0))))) e43x)
      have e54x := (f8.2 _ _ (wnc (by decide) (wnc (by decide) (wnc (by decide) (wnc (by decide) (wnc (by decide) wn0))))) e44x)
      have hv : jOne ll lg (kn.getD 0 0) (kn.getD 1 0) (kn.getD 2 0) 0 (jv ll lg n 0) (jv ll lg n 1) (jv ll lg n 2) (jv ll lg n 3) (jv ll lg n 4) (jv ll lg n 5) = (1 : Int32) := by unfold jOne; rw [if_neg (by decide), if_pos (show 600 < (jN ll lg (kn.getD 0 0) (kn.getD 1 0) (kn.getD 2 0) (jv ll lg n 0) (jv ll lg n 1) (jv ll lg n 2) (jv ll lg n 3) (jv ll lg n 4) (jv ll lg n 5)) from (by have e : J = (jN ll lg (kn.getD 0 0) (kn.getD 1 0) (kn.getD 2 0) (jv ll lg n 0) (jv ll lg n 1) (jv ll lg n 2) (jv ll lg n 3) (jv ll lg n 4) (jv ll lg n 5)) := hJ; rw [← e]; exact z1)), if_pos rfl]
      have hjc : jCh ll lg (kn.getD 0 0) (kn.getD 1 0) (kn.getD 2 0) 0 (m + 1) n su = jCh ll lg (kn.getD 0 0) (kn.getD 1 0) (kn.getD 2 0) 0 m (jsd n 6) (su + (1 : Int32)) := by rw [jCh_s, hv]
      refine wq_ls [(0, .ref 162), (1, .int sd), (2, .int (nI N)), (3, .int 0), (4, .int (su + (1 : Int32))), (5, .int (nI (i + 1)))] (show ([0, 1, 2, 3, 4, 5] : List Nat).Nodup by decide) ⟨rfl, rfl, rfl, rfl, rfl, rfl, trivial⟩ ?_
      rw [hjc, show 6 * (m + 1) = 6 * m + 6 by omega, ← jsd_6 n (6 * m)]
      refine wq_mono (ih (i + 1) (jsd n 6) (su + (1 : Int32)) h8 dc ds (by omega) (jsd_lt hn 6) e52x e53x e54x ⟨fs8, _, _, _, _, _, _, _, hM8, hC8.1, h528, e49x, hF8, h2008, h2028, hN8, e50x, e51x⟩) ?_
      rintro _ ⟨k0, rfl, k1, k2, k3⟩
      exact ⟨k0, rfl, wFr_tr (wFr_tr (wFr_sub f5 (by simp)) (wFr_tr (wFr_sub f6 (by simp)) (wFr_tr (wFr_sub f9x (by simp)) (wFr_tr (wFr_sub f15x (by simp)) (wFr_tr (wFr_sub f21x (by simp)) (wFr_tr (wFr_sub f27x (by simp)) (wFr_tr (wFr_sub f33x (by simp)) (wFr_tr (wFr_sub f39x (by simp)) (wFr_sub f8 (by simp)))))))))) k1, by omega, k3⟩
    · rw [z2] at h348 hfd8
      have h528 : fs8[52]? = some (.int (nI (jsd n 6))) := by rw [hC8.2 52 ⟨by decide, by decide⟩]; exact h525
      have h348 : fs8[34]? = some (.int (nI l2.length)) := h348
      show wq 280 170 [(6, .int 6), (0, .ref 162), (1, .int sd), (2, .int (nI N)), (3, .int 0), (4, .int su), (5, .int (nI i))] [] h8 dc ds _
      refine wq_gos (f := 1) (pc2 := 177) (ls2 := [(6, .int 6), (0, .ref 162), (1, .int sd), (2, .int (nI N)), (3, .int 0), (4, .int su), (5, .int (nI i))]) (st2 := [.ref 162, .int su]) (h2 := h8) (dc2 := dc) (ds2 := ds) 4 rfl ?_
      refine wq_getf rfl hM8 h348 rfl ?_
      refine wq_gos (f := 1) (pc2 := 182) (ls2 := [(6, .int 6), (0, .ref 162), (1, .int sd), (2, .int (nI N)), (3, .int 0), (4, .int su), (5, .int (nI i))]) (st2 := [.int (-3), .int (nI l2.length), .int su]) (h2 := h8) (dc2 := dc) (ds2 := ds) 1 rfl ?_
      refine wq_ne2t rfl (nI_m3 (by omega)) ?_
      refine wq_gos (f := 1) (pc2 := 288) (ls2 := [(5, .int ((nI i) + 1)), (4, .int (su + (0 : Int32))), (6, .int 6), (0, .ref 162), (1, .int sd), (2, .int (nI N)), (3, .int 0)]) (st2 := []) (h2 := h8) (dc2 := dc) (ds2 := ds) 5 rfl ?_
      rw [nI_1]
      refine wq_gos (f := 1) (pc2 := 57) (ls2 := [(5, .int (nI (i + 1))), (4, .int (su + (0 : Int32))), (6, .int 6), (0, .ref 162), (1, .int sd), (2, .int (nI N)), (3, .int 0)]) (st2 := []) (h2 := h8) (dc2 := dc) (ds2 := ds) 1 rfl ?_
      have e55x := (f8.2 _ _ (wnc (by decide) (wnc (by decide) (wnc (by decide) (wnc (by decide) (wnc (by decide) wn0))))) (f39x.2 _ _ (wnc (by decide) wn0) e36x))
      have e56x := (f8.2 _ _ (wnc (by decide) (wnc (by decide) (wnc (by decide) (wnc (by decide) (wnc (by decide) wn0))))) e7)
      have e57x := (f8.2 _ _ (wnc (by decide) (wnc (by decide) (wnc (by decide) (wnc (by decide) (wnc (by decide) wn0))))) (f39x.2 _ _ (wnc (by decide) wn0) (f33x.2 _ _ (wnc (by decide) wn0) (f27x.2 _ _ (wnc (by decide) wn0) (f21x.2 _ _ (wnc (by decide) wn0) (f15x.2 _ _ (wnc (by decide) wn0) (f9x.2 _ _ (wnc (by decide) wn0) (f6.2 _ _ (wnc (by decide) wn0) hD5))))))))
      have e58x := (f8.2 _ _ (wnc (by decide) (wnc (by decide) (wnc (by decide) (wnc (by decide) (wnc (by decide) wn0))))) e42x)
      have e59x := (f8.2 _ _ (wnc (by decide) (wnc (by decide) (wnc (by decide) (wnc (by decide) (wnc (by decide) wn0))))) e43x)
      have e60x := (f8.2 _ _ (wnc (by decide) (wnc (by decide) (wnc (by decide) (wnc (by decide) (wnc (by decide) wn0))))) e44x)
      have hv : jOne ll lg (kn.getD 0 0) (kn.getD 1 0) (kn.getD 2 0) 0 (jv ll lg n 0) (jv ll lg n 1) (jv ll lg n 2) (jv ll lg n 3) (jv ll lg n 4) (jv ll lg n 5) = (0 : Int32) := by unfold jOne; rw [if_neg (by decide), if_neg (show ¬ 600 < (jN ll lg (kn.getD 0 0) (kn.getD 1 0) (kn.getD 2 0) (jv ll lg n 0) (jv ll lg n 1) (jv ll lg n 2) (jv ll lg n 3) (jv ll lg n 4) (jv ll lg n 5)) from (by have e : J = (jN ll lg (kn.getD 0 0) (kn.getD 1 0) (kn.getD 2 0) (jv ll lg n 0) (jv ll lg n 1) (jv ll lg n 2) (jv ll lg n 3) (jv ll lg n 4) (jv ll lg n 5)) := hJ; rw [← e, z1]; exact Nat.not_lt.mpr z3)), if_pos rfl]
      have hjc : jCh ll lg (kn.getD 0 0) (kn.getD 1 0) (kn.getD 2 0) 0 (m + 1) n su = jCh ll lg (kn.getD 0 0) (kn.getD 1 0) (kn.getD 2 0) 0 m (jsd n 6) (su + (0 : Int32)) := by rw [jCh_s, hv]
      refine wq_ls [(0, .ref 162), (1, .int sd), (2, .int (nI N)), (3, .int 0), (4, .int (su + (0 : Int32))), (5, .int (nI (i + 1)))] (show ([0, 1, 2, 3, 4, 5] : List Nat).Nodup by decide) ⟨rfl, rfl, rfl, rfl, rfl, rfl, trivial⟩ ?_
      rw [hjc, show 6 * (m + 1) = 6 * m + 6 by omega, ← jsd_6 n (6 * m)]
      refine wq_mono (ih (i + 1) (jsd n 6) (su + (0 : Int32)) h8 dc ds (by omega) (jsd_lt hn 6) e58x e59x e60x ⟨fs8, _, _, _, _, _, _, _, hM8, hC8.1, h528, e55x, hF8, h2008, h2028, hN8, e56x, e57x⟩) ?_
      rintro _ ⟨k0, rfl, k1, k2, k3⟩
      exact ⟨k0, rfl, wFr_tr (wFr_tr (wFr_sub f5 (by simp)) (wFr_tr (wFr_sub f6 (by simp)) (wFr_tr (wFr_sub f9x (by simp)) (wFr_tr (wFr_sub f15x (by simp)) (wFr_tr (wFr_sub f21x (by simp)) (wFr_tr (wFr_sub f27x (by simp)) (wFr_tr (wFr_sub f33x (by simp)) (wFr_tr (wFr_sub f39x (by simp)) (wFr_sub f8 (by simp)))))))))) k1, by omega, k3⟩
set_option maxHeartbeats 8000000 in
theorem m_chL1 {kn lo hi ll lg : List Int32} {sd : Int32} {N : Nat} (hN : N ≤ 20) (hw : wLim lo hi ll lg) (hlm : wLm ll lg) (hl9 : 1 ≤ (kn.getD 0 0).toInt ∧ (kn.getD 0 0).toInt ≤ 99) (hh9 : 1 ≤ (kn.getD 1 0).toInt ∧ (kn.getD 1 0).toInt ≤ 99) : ∀ (m i n : Nat) (su : Int32) (h : zH) (dc ds : Nat), i + m = N → n < 2147483648 → zat h 166 = some (.inl (0, 14, kn)) → zat h 168 = some (.inl (0, 12, lo)) → zat h 170 = some (.inl (0, 12, hi)) → wMS h n → wq 280 57 [(0, .ref 162), (1, .int sd), (2, .int (nI N)), (3, .int 1), (4, .int su), (5, .int (nI i))] [] h dc ds (fun r => ∃ (h2 : zH), r = (some (.int (jCh ll lg (kn.getD 0 0) (kn.getD 1 0) (kn.getD 2 0) 1 m n su)), h2, dc, ds) ∧ wFr [162, 230, 194, 222, 196, 204, 200, 202] h h2 ∧ h2.length = h.length ∧ wMS h2 (jsd n (6 * m))) := by
  intro m
  induction m with
  | zero =>
    intro i n su h dc ds him hn hK hO hG hMS
    have q1 := nI_toInt (n := i) (by omega)
    have q2 := nI_toInt (n := N) (by omega)
    refine wq_gos (f := 1) (pc2 := 60) (ls2 := [(0, .ref 162), (1, .int sd), (2, .int (nI N)), (3, .int 1), (4, .int su), (5, .int (nI i))]) (st2 := [.int (nI N), .int (nI i)]) (h2 := h) (dc2 := dc) (ds2 := ds) 2 rfl ?_
    refine wq_ge2t rfl (by omega) ?_
    refine wq_gos (f := 1) (pc2 := 293) (ls2 := [(0, .ref 162), (1, .int sd), (2, .int (nI N)), (3, .int 1), (4, .int su), (5, .int (nI i))]) (st2 := [.int su]) (h2 := h) (dc2 := dc) (ds2 := ds) 1 rfl ?_
    exact wq_ret rfl rfl ⟨h, rfl, wFr_rf _ _, rfl, hMS⟩
  | succ m ih =>
    intro i n su h dc ds him hn hK hO hG hMS
    have q1 := nI_toInt (n := i) (by omega)
    have q2 := nI_toInt (n := N) (by omega)
    obtain ⟨fs, th, on, sq, dq, pa, pb, fo, hM, hC, h52, hT, hF, h200, h202, hNn, hsq, hD⟩ := hMS
    refine wq_gos (f := 1) (pc2 := 60) (ls2 := [(0, .ref 162), (1, .int sd), (2, .int (nI N)), (3, .int 1), (4, .int su), (5, .int (nI i))]) (st2 := [.int (nI N), .int (nI i)]) (h2 := h) (dc2 := dc) (ds2 := ds) 2 rfl ?_
    refine wq_ge2f rfl rfl (by omega) ?_
    refine wq_ls [(0, .ref 162), (1, .int sd), (2, .int (nI N)), (3, .int 1), (4, .int su), (5, .int (nI i))] (show ([0, 1, 2, 3, 4, 5] : List Nat).Nodup by decide) ⟨rfl, rfl, rfl, rfl, rfl, rfl, trivial⟩ ?_
    refine m_draw6 hw (wLm_c hw hlm) hn hM hC hK hO hG h52 hD ?_
    intro h5 fs5 dq5 f5 l5 hM5 hC5 h525 hD5 d0 d1 d2 d3 d4 d5
    refine wq_gos (f := 1) (pc2 := 117) (ls2 := [(0, .ref 162), (1, .int sd), (2, .int (nI N)), (3, .int 1), (4, .int su), (5, .int (nI i))]) (st2 := [.ref 162, .ref 162]) (h2 := h5) (dc2 := dc) (ds2 := ds) 2 rfl ?_
    refine wq_getf rfl hM5 (hC5.2 (53, 230) (by decide)) rfl ?_
    refine wq_gos (f := 1) (pc2 := 121) (ls2 := [(0, .ref 162), (1, .int sd), (2, .int (nI N)), (3, .int 1), (4, .int su), (5, .int (nI i))]) (st2 := [.int 0, .ref 230, .ref 162]) (h2 := h5) (dc2 := dc) (ds2 := ds) 1 rfl ?_
    have e1x := (f5.2 _ _ (wnc (by decide) (wnc (by decide) wn0)) hK)
    have e2x := (f5.2 _ _ (wnc (by decide) (wnc (by decide) wn0)) hO)
    have e3x := (f5.2 _ _ (wnc (by decide) (wnc (by decide) wn0)) hG)
    have e4x := (f5.2 _ _ (wnc (by decide) (wnc (by decide) wn0)) hT)
    refine wq_inlv (y2 := 200) (as := [.ref 230, .int 0]) rfl rfl rfl hM5 rfl (wq_mono (m_placeD hM5 hC5 e1x e2x e3x hD5 e4x d0 d1 d2 d3 d4 d5) ?_)
    rintro _ ⟨h6, th6, rfl, f6, l6, e6, c6⟩
    show wq 280 124 [(0, .ref 162), (1, .int sd), (2, .int (nI N)), (3, .int 1), (4, .int su), (5, .int (nI i))] [] h6 dc ds _
    refine wq_gos (f := 1) (pc2 := 135) (ls2 := [(6, .int 0), (0, .ref 162), (1, .int sd), (2, .int (nI N)), (3, .int 1), (4, .int su), (5, .int (nI i))]) (st2 := [.ref 162]) (h2 := h6) (dc2 := dc) (ds2 := ds) 6 rfl ?_
    have e5x := (f6.2 _ _ (wnc (by decide) wn0) hM5)
    refine wq_getf rfl e5x (hC5.2 (48, 222) (by decide)) rfl ?_
    refine wq_gos (f := 1) (pc2 := 141) (ls2 := [(6, .int 0), (0, .ref 162), (1, .int sd), (2, .int (nI N)), (3, .int 1), (4, .int su), (5, .int (nI i))]) (st2 := [.ref 162, .int 0, .ref 222]) (h2 := h6) (dc2 := dc) (ds2 := ds) 2 rfl ?_
    refine wq_getf rfl e5x (hC5.2 (29, 194) (by decide)) rfl ?_
    refine wq_gos (f := 1) (pc2 := 146) (ls2 := [(6, .int 0), (0, .ref 162), (1, .int sd), (2, .int (nI N)), (3, .int 1), (4, .int su), (5, .int (nI i))]) (st2 := [.int 0, .ref 194, .int 0, .ref 222]) (h2 := h6) (dc2 := dc) (ds2 := ds) 1 rfl ?_
    refine wq_ialdk (k := 0) rfl e6 rfl rfl rfl ?_
    have e6x := (f6.2 _ _ (wnc (by decide) wn0) (f5.2 _ _ (wnc (by decide) (wnc (by decide) wn0)) hsq))
    refine wq_iast rfl e6x rfl rfl ?_
    intro h7x e8x f9x l10x
    have e8x : zat h7x 222 = some (.inl (0, 6, (zset 0 sq 0 (th6.getD 0 0)))) := e8x
    refine wq_gos (f := 1) (pc2 := 135) (ls2 := [(6, .int 1), (0, .ref 162), (1, .int sd), (2, .int (nI N)), (3, .int 1), (4, .int su), (5, .int (nI i))]) (st2 := [.ref 162]) (h2 := h7x) (dc2 := dc) (ds2 := ds) 6 rfl ?_
    have e11x := (f9x.2 _ _ (wnc (by decide) wn0) e5x)
    refine wq_getf rfl e11x (hC5.2 (48, 222) (by decide)) rfl ?_
    refine wq_gos (f := 1) (pc2 := 141) (ls2 := [(6, .int 1), (0, .ref 162), (1, .int sd), (2, .int (nI N)), (3, .int 1), (4, .int su), (5, .int (nI i))]) (st2 := [.ref 162, .int 1, .ref 222]) (h2 := h7x) (dc2 := dc) (ds2 := ds) 2 rfl ?_
    refine wq_getf rfl e11x (hC5.2 (29, 194) (by decide)) rfl ?_
    refine wq_gos (f := 1) (pc2 := 146) (ls2 := [(6, .int 1), (0, .ref 162), (1, .int sd), (2, .int (nI N)), (3, .int 1), (4, .int su), (5, .int (nI i))]) (st2 := [.int 1, .ref 194, .int 1, .ref 222]) (h2 := h7x) (dc2 := dc) (ds2 := ds) 1 rfl ?_
    have e12x := (f9x.2 _ _ (wnc (by decide) wn0) e6)
    refine wq_ialdk (k := 1) rfl e12x rfl rfl rfl ?_
    refine wq_iast rfl e8x rfl rfl ?_
    intro h13x e14x f15x l16x
    have e14x : zat h13x 222 = some (.inl (0, 6, (zset 0 (zset 0 sq 0 (th6.getD 0 0)) 1 (th6.getD 1 0)))) := e14x
    refine wq_gos (f := 1) (pc2 := 135) (ls2 := [(6, .int 2), (0, .ref 162), (1, .int sd), (2, .int (nI N)), (3, .int 1), (4, .int su), (5, .int (nI i))]) (st2 := [.ref 162]) (h2 := h13x) (dc2 := dc) (ds2 := ds) 6 rfl ?_
    have e17x := (f15x.2 _ _ (wnc (by decide) wn0) e11x)
    refine wq_getf rfl e17x (hC5.2 (48, 222) (by decide)) rfl ?_
    refine wq_gos (f := 1) (pc2 := 141) (ls2 := [(6, .int 2), (0, .ref 162), (1, .int sd), (2, .int (nI N)), (3, .int 1), (4, .int su), (5, .int (nI i))]) (st2 := [.ref 162, .int 2, .ref 222]) (h2 := h13x) (dc2 := dc) (ds2 := ds) 2 rfl ?_
    refine wq_getf rfl e17x (hC5.2 (29, 194) (by decide)) rfl ?_
    refine wq_gos (f := 1) (pc2 := 146) (ls2 := [(6, .int 2), (0, .ref 162), (1, .int sd), (2, .int (nI N)), (3, .int 1), (4, .int su), (5, .int (nI i))]) (st2 := [.int 2, .ref 194, .int 2, .ref 222]) (h2 := h13x) (dc2 := dc) (ds2 := ds) 1 rfl ?_
    have e18x := (f15x.2 _ _ (wnc (by decide) wn0) e12x)
    refine wq_ialdk (k := 2) rfl e18x rfl rfl rfl ?_
    refine wq_iast rfl e14x rfl rfl ?_
    intro h19x e20x f21x l22x
    have e20x : zat h19x 222 = some (.inl (0, 6, (zset 0 (zset 0 (zset 0 sq 0 (th6.getD 0 0)) 1 (th6.getD 1 0)) 2 (th6.getD 2 0)))) := e20x
    refine wq_gos (f := 1) (pc2 := 135) (ls2 := [(6, .int 3), (0, .ref 162), (1, .int sd), (2, .int (nI N)), (3, .int 1), (4, .int su), (5, .int (nI i))]) (st2 := [.ref 162]) (h2 := h19x) (dc2 := dc) (ds2 := ds) 6 rfl ?_
    have e23x := (f21x.2 _ _ (wnc (by decide) wn0) e17x)
    refine wq_getf rfl e23x (hC5.2 (48, 222) (by decide)) rfl ?_
    refine wq_gos (f := 1) (pc2 := 141) (ls2 := [(6, .int 3), (0, .ref 162), (1, .int sd), (2, .int (nI N)), (3, .int 1), (4, .int su), (5, .int (nI i))]) (st2 := [.ref 162, .int 3, .ref 222]) (h2 := h19x) (dc2 := dc) (ds2 := ds) 2 rfl ?_
    refine wq_getf rfl e23x (hC5.2 (29, 194) (by decide)) rfl ?_
    refine wq_gos (f := 1) (pc2 := 146) (ls2 := [(6, .int 3), (0, .ref 162), (1, .int sd), (2, .int (nI N)), (3, .int 1), (4, .int su), (5, .int (nI i))]) (st2 := [.int 3, .ref 194, .int 3, .ref 222]) (h2 := h19x) (dc2 := dc) (ds2 := ds) 1 rfl ?_
    have e24x := (f21x.2 _ _ (wnc (by decide) wn0) e18x)
    refine wq_ialdk (k := 3) rfl e24x rfl rfl rfl ?_
    refine wq_iast rfl e20x rfl rfl ?_
    intro h25x e26x f27x l28x
    have e26x : zat h25x 222 = some (.inl (0, 6, (zset 0 (zset 0 (zset 0 (zset 0 sq 0 (th6.getD 0 0)) 1 (th6.getD 1 0)) 2 (th6.getD 2 0)) 3 (th6.getD 3 0)))) := e26x
    refine wq_gos (f := 1) (pc2 := 135) (ls2 := [(6, .int 4), (0, .ref 162), (1, .int sd), (2, .int (nI N)), (3, .int 1), (4, .int su), (5, .int (nI i))]) (st2 := [.ref 162]) (h2 := h25x) (dc2 := dc) (ds2 := ds) 6 rfl ?_
    have e29x := (f27x.2 _ _ (wnc (by decide) wn0) e23x)
    refine wq_getf rfl e29x (hC5.2 (48, 222) (by decide)) rfl ?_
    refine wq_gos (f := 1) (pc2 := 141) (ls2 := [(6, .int 4), (0, .ref 162), (1, .int sd), (2, .int (nI N)), (3, .int 1), (4, .int su), (5, .int (nI i))]) (st2 := [.ref 162, .int 4, .ref 222]) (h2 := h25x) (dc2 := dc) (ds2 := ds) 2 rfl ?_
    refine wq_getf rfl e29x (hC5.2 (29, 194) (by decide)) rfl ?_
    refine wq_gos (f := 1) (pc2 := 146) (ls2 := [(6, .int 4), (0, .ref 162), (1, .int sd), (2, .int (nI N)), (3, .int 1), (4, .int su), (5, .int (nI i))]) (st2 := [.int 4, .ref 194, .int 4, .ref 222]) (h2 := h25x) (dc2 := dc) (ds2 := ds) 1 rfl ?_
    have e30x := (f27x.2 _ _ (wnc (by decide) wn0) e24x)
    refine wq_ialdk (k := 4) rfl e30x rfl rfl rfl ?_
    refine wq_iast rfl e26x rfl rfl ?_
    intro h31x e32x f33x l34x
    have e32x : zat h31x 222 = some (.inl (0, 6, (zset 0 (zset 0 (zset 0 (zset 0 (zset 0 sq 0 (th6.getD 0 0)) 1 (th6.getD 1 0)) 2 (th6.getD 2 0)) 3 (th6.getD 3 0)) 4 (th6.getD 4 0)))) := e32x
    refine wq_gos (f := 1) (pc2 := 135) (ls2 := [(6, .int 5), (0, .ref 162), (1, .int sd), (2, .int (nI N)), (3, .int 1), (4, .int su), (5, .int (nI i))]) (st2 := [.ref 162]) (h2 := h31x) (dc2 := dc) (ds2 := ds) 6 rfl ?_
    have e35x := (f33x.2 _ _ (wnc (by decide) wn0) e29x)
    refine wq_getf rfl e35x (hC5.2 (48, 222) (by decide)) rfl ?_
    refine wq_gos (f := 1) (pc2 := 141) (ls2 := [(6, .int 5), (0, .ref 162), (1, .int sd), (2, .int (nI N)), (3, .int 1), (4, .int su), (5, .int (nI i))]) (st2 := [.ref 162, .int 5, .ref 222]) (h2 := h31x) (dc2 := dc) (ds2 := ds) 2 rfl ?_
    refine wq_getf rfl e35x (hC5.2 (29, 194) (by decide)) rfl ?_
    refine wq_gos (f := 1) (pc2 := 146) (ls2 := [(6, .int 5), (0, .ref 162), (1, .int sd), (2, .int (nI N)), (3, .int 1), (4, .int su), (5, .int (nI i))]) (st2 := [.int 5, .ref 194, .int 5, .ref 222]) (h2 := h31x) (dc2 := dc) (ds2 := ds) 1 rfl ?_
    have e36x := (f33x.2 _ _ (wnc (by decide) wn0) e30x)
    refine wq_ialdk (k := 5) rfl e36x rfl rfl rfl ?_
    refine wq_iast rfl e32x rfl rfl ?_
    intro h37x e38x f39x l40x
    have e38x : zat h37x 222 = some (.inl (0, 6, (zset 0 (zset 0 (zset 0 (zset 0 (zset 0 (zset 0 sq 0 (th6.getD 0 0)) 1 (th6.getD 1 0)) 2 (th6.getD 2 0)) 3 (th6.getD 3 0)) 4 (th6.getD 4 0)) 5 (th6.getD 5 0)))) := e38x
    refine wq_gos (f := 1) (pc2 := 154) (ls2 := [(6, .int 6), (0, .ref 162), (1, .int sd), (2, .int (nI N)), (3, .int 1), (4, .int su), (5, .int (nI i))]) (st2 := []) (h2 := h37x) (dc2 := dc) (ds2 := ds) 5 rfl ?_
    obtain ⟨sq7, hsq7⟩ : ∃ x, x = (zset 0 (zset 0 (zset 0 (zset 0 (zset 0 (zset 0 sq 0 (th6.getD 0 0)) 1 (th6.getD 1 0)) 2 (th6.getD 2 0)) 3 (th6.getD 3 0)) 4 (th6.getD 4 0)) 5 (th6.getD 5 0)) := ⟨_, rfl⟩
    have e7 := e38x
    rw [← hsq7] at e7
    have c7 : ∀ i, i < 6 → sq7.getD i 0 = (jpl (kn.getD 0 0) (kn.getD 1 0) (kn.getD 2 0) (jv ll lg n 0) (jv ll lg n 1) (jv ll lg n 2) (jv ll lg n 3) (jv ll lg n 4) (jv ll lg n 5)).getD i 0 := by rw [hsq7]; exact lt6 (by simp only [zset_get]; exact c6 0 (by decide)) (by simp only [zset_get]; exact c6 1 (by decide)) (by simp only [zset_get]; exact c6 2 (by decide)) (by simp only [zset_get]; exact c6 3 (by decide)) (by simp only [zset_get]; exact c6 4 (by decide)) (by simp only [zset_get]; exact c6 5 (by decide))
    refine wq_gos (f := 1) (pc2 := 161) (ls2 := [(6, .int 6), (0, .ref 162), (1, .int sd), (2, .int (nI N)), (3, .int 1), (4, .int su), (5, .int (nI i))]) (st2 := [.ref 162, .ref 162]) (h2 := h37x) (dc2 := dc) (ds2 := ds) 5 rfl ?_
    have e41x := (f39x.2 _ _ (wnc (by decide) wn0) e35x)
    refine wq_getf rfl e41x (hC5.2 (48, 222) (by decide)) rfl ?_
    refine wq_gos (f := 1) (pc2 := 167) (ls2 := [(6, .int 6), (0, .ref 162), (1, .int sd), (2, .int (nI N)), (3, .int 1), (4, .int su), (5, .int (nI i))]) (st2 := [.int 5400, .ref 222, .ref 162]) (h2 := h37x) (dc2 := dc) (ds2 := ds) 1 rfl ?_
    have e42x := (f39x.2 _ _ (wnc (by decide) wn0) (f33x.2 _ _ (wnc (by decide) wn0) (f27x.2 _ _ (wnc (by decide) wn0) (f21x.2 _ _ (wnc (by decide) wn0) (f15x.2 _ _ (wnc (by decide) wn0) (f9x.2 _ _ (wnc (by decide) wn0) (f6.2 _ _ (wnc (by decide) wn0) e1x)))))))
    have e43x := (f39x.2 _ _ (wnc (by decide) wn0) (f33x.2 _ _ (wnc (by decide) wn0) (f27x.2 _ _ (wnc (by decide) wn0) (f21x.2 _ _ (wnc (by decide) wn0) (f15x.2 _ _ (wnc (by decide) wn0) (f9x.2 _ _ (wnc (by decide) wn0) (f6.2 _ _ (wnc (by decide) wn0) e2x)))))))
    have e44x := (f39x.2 _ _ (wnc (by decide) wn0) (f33x.2 _ _ (wnc (by decide) wn0) (f27x.2 _ _ (wnc (by decide) wn0) (f21x.2 _ _ (wnc (by decide) wn0) (f15x.2 _ _ (wnc (by decide) wn0) (f9x.2 _ _ (wnc (by decide) wn0) (f6.2 _ _ (wnc (by decide) wn0) e3x)))))))
    have e45x := (f39x.2 _ _ (wnc (by decide) wn0) (f33x.2 _ _ (wnc (by decide) wn0) (f27x.2 _ _ (wnc (by decide) wn0) (f21x.2 _ _ (wnc (by decide) wn0) (f15x.2 _ _ (wnc (by decide) wn0) (f9x.2 _ _ (wnc (by decide) wn0) (f6.2 _ _ (wnc (by decide) wn0) (f5.2 _ _ (wnc (by decide) (wnc (by decide) wn0)) hF))))))))
    have e46x := (f39x.2 _ _ (wnc (by decide) wn0) (f33x.2 _ _ (wnc (by decide) wn0) (f27x.2 _ _ (wnc (by decide) wn0) (f21x.2 _ _ (wnc (by decide) wn0) (f15x.2 _ _ (wnc (by decide) wn0) (f9x.2 _ _ (wnc (by decide) wn0) (f6.2 _ _ (wnc (by decide) wn0) (f5.2 _ _ (wnc (by decide) (wnc (by decide) wn0)) hNn))))))))
    have e47x := (f39x.2 _ _ (wnc (by decide) wn0) (f33x.2 _ _ (wnc (by decide) wn0) (f27x.2 _ _ (wnc (by decide) wn0) (f21x.2 _ _ (wnc (by decide) wn0) (f15x.2 _ _ (wnc (by decide) wn0) (f9x.2 _ _ (wnc (by decide) wn0) (f6.2 _ _ (wnc (by decide) wn0) (f5.2 _ _ (wnc (by decide) (wnc (by decide) wn0)) h200))))))))
    have e48x := (f39x.2 _ _ (wnc (by decide) wn0) (f33x.2 _ _ (wnc (by decide) wn0) (f27x.2 _ _ (wnc (by decide) wn0) (f21x.2 _ _ (wnc (by decide) wn0) (f15x.2 _ _ (wnc (by decide) wn0) (f9x.2 _ _ (wnc (by decide) wn0) (f6.2 _ _ (wnc (by decide) wn0) (f5.2 _ _ (wnc (by decide) (wnc (by decide) wn0)) h202))))))))
    refine wq_inlv (y2 := 226) (as := [.ref 222, .int 5400]) rfl rfl rfl e41x rfl (wq_mono (m_solves (o := 5400) (f34 := .null) (f35 := .null) e41x hC5 e42x e43x e44x e45x (by decide) e46x e7 (Or.inr rfl) e47x e48x) ?_)
    generalize hms : mSol lo hi kn sq7 = ms
    rintro _ ⟨⟨h8, fs8, fo8, wn8, on8, rfl, f8, l8, hM8, hC8, h348, h358, hF8, hfd8, hN8⟩, pa8, pb8, h2008, h2028⟩
    have h4s : 0 ≤ (sq7.getD 4 0).toInt := by rw [c7 4 (by decide)]; exact jpl_4 _ _ _ _ _ _ _ _ _
    obtain ⟨J, hJ⟩ : ∃ J, wEqN J (jN ll lg (kn.getD 0 0) (kn.getD 1 0) (kn.getD 2 0) (jv ll lg n 0) (jv ll lg n 1) (jv ll lg n 2) (jv ll lg n 3) (jv ll lg n 4) (jv ll lg n 5)) := ⟨_, Eq.refl _⟩
    have hse : (600 < J ∧ ms = none) ∨ ∃ l2, ms = some l2 ∧ J = l2.length ∧ l2.length ≤ 600 ∧ l2.Perm ((tCls ll lg (kn.getD 0 0) (kn.getD 1 0) (kn.getD 2 0) sq7).map tPack) := by
      have q := sols_eq (ll := ll) (lg := lg) hw hl9 hh9 h4s
      have e : J = (jN ll lg (kn.getD 0 0) (kn.getD 1 0) (kn.getD 2 0) (jv ll lg n 0) (jv ll lg n 1) (jv ll lg n 2) (jv ll lg n 3) (jv ll lg n 4) (jv ll lg n 5)) := hJ
      rw [hms, sSolL_c c7, jN_e, ← e] at q
      exact q
    clear h4s
    rcases hse with ⟨z1, z2⟩ | ⟨l2, z2, z1, z3, z4⟩
    · rw [z2] at h348 hfd8
      have h528 : fs8[52]? = some (.int (nI (jsd n 6))) := by rw [hC8.2 52 ⟨by decide, by decide⟩]; exact h525
      have h348 : fs8[34]? = some (.int (-3)) := h348
      show wq 280 170 [(6, .int 6), (0, .ref 162), (1, .int sd), (2, .int (nI N)), (3, .int 1), (4, .int su), (5, .int (nI i))] [] h8 dc ds _
      refine wq_gos (f := 1) (pc2 := 204) (ls2 := [(6, .int 6), (0, .ref 162), (1, .int sd), (2, .int (nI N)), (3, .int 1), (4, .int su), (5, .int (nI i))]) (st2 := [.ref 162, .int su]) (h2 := h8) (dc2 := dc) (ds2 := ds) 7 rfl ?_
      refine wq_getf rfl hM8 h348 rfl ?_
      refine wq_gos (f := 1) (pc2 := 288) (ls2 := [(5, .int ((nI i) + 1)), (4, .int (su + (0 : Int32))), (6, .int 6), (0, .ref 162), (1, .int sd), (2, .int (nI N)), (3, .int 1)]) (st2 := []) (h2 := h8) (dc2 := dc) (ds2 := ds) 8 rfl ?_
      rw [nI_1]
      refine wq_gos (f := 1) (pc2 := 57) (ls2 := [(5, .int (nI (i + 1))), (4, .int (su + (0 : Int32))), (6, .int 6), (0, .ref 162), (1, .int sd), (2, .int (nI N)), (3, .int 1)]) (st2 := []) (h2 := h8) (dc2 := dc) (ds2 := ds) 1 rfl ?_
      have e49x := (f8.2 _ _ (wnc (by decide) (wnc (by decide) (wnc (by decide) (wnc (by decide) (wnc (by decide) wn0))))) (f39x.2 _ _ (wnc (by decide) wn0) e36x))
      have e50x := (f8.2 _ _ (wnc (by decide) (wnc (by decide) (wnc (by decide) (wnc (by decide) (wnc (by decide) wn0))))) e7)
      have e51x := (f8.2 _ _ (wnc (by decide) (wnc (by decide) (wnc (by decide) (wnc (by decide) (wnc (by decide) wn0))))) (f39x.2 _ _ (wnc (by decide) wn0) (f33x.2 _ _ (wnc (by decide) wn0) (f27x.2 _ _ (wnc (by decide) wn0) (f21x.2 _ _ (wnc (by decide) wn0) (f15x.2 _ _ (wnc (by decide) wn0) (f9x.2 _ _ (wnc (by decide) wn0) (f6.2 _ _ (wnc (by decide) wn0) hD5))))))))
      have e52x := (f8.2 _ _ (wnc (by decide) (wnc (by decide) (wnc (by decide) (wnc (by decide) (wnc (by decide) wn0))))) e42x)
      have e53x := (f8.2 _ _ (wnc (by decide) (wnc (by decide) (wnc (by decide) (wnc (by decide) (wnc (by decide) wn0))))) e43x)
      have e54x := (f8.2 _ _ (wnc (by decide) (wnc (by decide) (wnc (by decide) (wnc (by decide) (wnc (by decide) wn0))))) e44x)
      have hv : jOne ll lg (kn.getD 0 0) (kn.getD 1 0) (kn.getD 2 0) 1 (jv ll lg n 0) (jv ll lg n 1) (jv ll lg n 2) (jv ll lg n 3) (jv ll lg n 4) (jv ll lg n 5) = (0 : Int32) := by unfold jOne; rw [if_neg (by decide), if_pos (show 600 < (jN ll lg (kn.getD 0 0) (kn.getD 1 0) (kn.getD 2 0) (jv ll lg n 0) (jv ll lg n 1) (jv ll lg n 2) (jv ll lg n 3) (jv ll lg n 4) (jv ll lg n 5)) from (by have e : J = (jN ll lg (kn.getD 0 0) (kn.getD 1 0) (kn.getD 2 0) (jv ll lg n 0) (jv ll lg n 1) (jv ll lg n 2) (jv ll lg n 3) (jv ll lg n 4) (jv ll lg n 5)) := hJ; rw [← e]; exact z1)), if_neg (by decide)]
      have hjc : jCh ll lg (kn.getD 0 0) (kn.getD 1 0) (kn.getD 2 0) 1 (m + 1) n su = jCh ll lg (kn.getD 0 0) (kn.getD 1 0) (kn.getD 2 0) 1 m (jsd n 6) (su + (0 : Int32)) := by rw [jCh_s, hv]
      refine wq_ls [(0, .ref 162), (1, .int sd), (2, .int (nI N)), (3, .int 1), (4, .int (su + (0 : Int32))), (5, .int (nI (i + 1)))] (show ([0, 1, 2, 3, 4, 5] : List Nat).Nodup by decide) ⟨rfl, rfl, rfl, rfl, rfl, rfl, trivial⟩ ?_
      rw [hjc, show 6 * (m + 1) = 6 * m + 6 by omega, ← jsd_6 n (6 * m)]
      refine wq_mono (ih (i + 1) (jsd n 6) (su + (0 : Int32)) h8 dc ds (by omega) (jsd_lt hn 6) e52x e53x e54x ⟨fs8, _, _, _, _, _, _, _, hM8, hC8.1, h528, e49x, hF8, h2008, h2028, hN8, e50x, e51x⟩) ?_
      rintro _ ⟨k0, rfl, k1, k2, k3⟩
      exact ⟨k0, rfl, wFr_tr (wFr_tr (wFr_sub f5 (by simp)) (wFr_tr (wFr_sub f6 (by simp)) (wFr_tr (wFr_sub f9x (by simp)) (wFr_tr (wFr_sub f15x (by simp)) (wFr_tr (wFr_sub f21x (by simp)) (wFr_tr (wFr_sub f27x (by simp)) (wFr_tr (wFr_sub f33x (by simp)) (wFr_tr (wFr_sub f39x (by simp)) (wFr_sub f8 (by simp)))))))))) k1, by omega, k3⟩
    · rw [z2] at h348 hfd8
      have h528 : fs8[52]? = some (.int (nI (jsd n 6))) := by rw [hC8.2 52 ⟨by decide, by decide⟩]; exact h525
      have h348 : fs8[34]? = some (.int (nI l2.length)) := h348
      show wq 280 170 [(6, .int 6), (0, .ref 162), (1, .int sd), (2, .int (nI N)), (3, .int 1), (4, .int su), (5, .int (nI i))] [] h8 dc ds _
      refine wq_gos (f := 1) (pc2 := 204) (ls2 := [(6, .int 6), (0, .ref 162), (1, .int sd), (2, .int (nI N)), (3, .int 1), (4, .int su), (5, .int (nI i))]) (st2 := [.ref 162, .int su]) (h2 := h8) (dc2 := dc) (ds2 := ds) 7 rfl ?_
      refine wq_getf rfl hM8 h348 rfl ?_
      refine wq_gos (f := 1) (pc2 := 209) (ls2 := [(6, .int 6), (0, .ref 162), (1, .int sd), (2, .int (nI N)), (3, .int 1), (4, .int su), (5, .int (nI i))]) (st2 := [.int (-3), .int (nI l2.length), .int su]) (h2 := h8) (dc2 := dc) (ds2 := ds) 1 rfl ?_
      refine wq_ne2t rfl (nI_m3 (by omega)) ?_
      refine wq_gos (f := 1) (pc2 := 217) (ls2 := [(6, .int 6), (0, .ref 162), (1, .int sd), (2, .int (nI N)), (3, .int 1), (4, .int su), (5, .int (nI i))]) (st2 := [.ref 162, .int su]) (h2 := h8) (dc2 := dc) (ds2 := ds) 1 rfl ?_
      refine wq_getf rfl hM8 h348 rfl ?_
      refine wq_gos (f := 1) (pc2 := 288) (ls2 := [(5, .int ((nI i) + 1)), (4, .int (su + (nI l2.length))), (6, .int 6), (0, .ref 162), (1, .int sd), (2, .int (nI N)), (3, .int 1)]) (st2 := []) (h2 := h8) (dc2 := dc) (ds2 := ds) 4 rfl ?_
      rw [nI_1]
      refine wq_gos (f := 1) (pc2 := 57) (ls2 := [(5, .int (nI (i + 1))), (4, .int (su + (nI l2.length))), (6, .int 6), (0, .ref 162), (1, .int sd), (2, .int (nI N)), (3, .int 1)]) (st2 := []) (h2 := h8) (dc2 := dc) (ds2 := ds) 1 rfl ?_
      have e55x := (f8.2 _ _ (wnc (by decide) (wnc (by decide) (wnc (by decide) (wnc (by decide) (wnc (by decide) wn0))))) (f39x.2 _ _ (wnc (by decide) wn0) e36x))
      have e56x := (f8.2 _ _ (wnc (by decide) (wnc (by decide) (wnc (by decide) (wnc (by decide) (wnc (by decide) wn0))))) e7)
      have e57x := (f8.2 _ _ (wnc (by decide) (wnc (by decide) (wnc (by decide) (wnc (by decide) (wnc (by decide) wn0))))) (f39x.2 _ _ (wnc (by decide) wn0) (f33x.2 _ _ (wnc (by decide) wn0) (f27x.2 _ _ (wnc (by decide) wn0) (f21x.2 _ _ (wnc (by decide) wn0) (f15x.2 _ _ (wnc (by decide) wn0) (f9x.2 _ _ (wnc (by decide) wn0) (f6.2 _ _ (wnc (by decide) wn0) hD5))))))))
      have e58x := (f8.2 _ _ (wnc (by decide) (wnc (by decide) (wnc (by decide) (wnc (by decide) (wnc (by decide) wn0))))) e42x)
      have e59x := (f8.2 _ _ (wnc (by decide) (wnc (by decide) (wnc (by decide) (wnc (by decide) (wnc (by decide) wn0))))) e43x)
      have e60x := (f8.2 _ _ (wnc (by decide) (wnc (by decide) (wnc (by decide) (wnc (by decide) (wnc (by decide) wn0))))) e44x)
      have hv : jOne ll lg (kn.getD 0 0) (kn.getD 1 0) (kn.getD 2 0) 1 (jv ll lg n 0) (jv ll lg n 1) (jv ll lg n 2) (jv ll lg n 3) (jv ll lg n 4) (jv ll lg n 5) = (nI l2.length) := by unfold jOne; rw [if_neg (by decide), if_neg (show ¬ 600 < (jN ll lg (kn.getD 0 0) (kn.getD 1 0) (kn.getD 2 0) (jv ll lg n 0) (jv ll lg n 1) (jv ll lg n 2) (jv ll lg n 3) (jv ll lg n 4) (jv ll lg n 5)) from (by have e : J = (jN ll lg (kn.getD 0 0) (kn.getD 1 0) (kn.getD 2 0) (jv ll lg n 0) (jv ll lg n 1) (jv ll lg n 2) (jv ll lg n 3) (jv ll lg n 4) (jv ll lg n 5)) := hJ; rw [← e, z1]; exact Nat.not_lt.mpr z3)), if_neg (by decide), if_pos rfl]; have e : J = (jN ll lg (kn.getD 0 0) (kn.getD 1 0) (kn.getD 2 0) (jv ll lg n 0) (jv ll lg n 1) (jv ll lg n 2) (jv ll lg n 3) (jv ll lg n 4) (jv ll lg n 5)) := hJ; rw [← e, z1]
      have hjc : jCh ll lg (kn.getD 0 0) (kn.getD 1 0) (kn.getD 2 0) 1 (m + 1) n su = jCh ll lg (kn.getD 0 0) (kn.getD 1 0) (kn.getD 2 0) 1 m (jsd n 6) (su + (nI l2.length)) := by rw [jCh_s, hv]
      refine wq_ls [(0, .ref 162), (1, .int sd), (2, .int (nI N)), (3, .int 1), (4, .int (su + (nI l2.length))), (5, .int (nI (i + 1)))] (show ([0, 1, 2, 3, 4, 5] : List Nat).Nodup by decide) ⟨rfl, rfl, rfl, rfl, rfl, rfl, trivial⟩ ?_
      rw [hjc, show 6 * (m + 1) = 6 * m + 6 by omega, ← jsd_6 n (6 * m)]
      refine wq_mono (ih (i + 1) (jsd n 6) (su + (nI l2.length)) h8 dc ds (by omega) (jsd_lt hn 6) e58x e59x e60x ⟨fs8, _, _, _, _, _, _, _, hM8, hC8.1, h528, e55x, hF8, h2008, h2028, hN8, e56x, e57x⟩) ?_
      rintro _ ⟨k0, rfl, k1, k2, k3⟩
      exact ⟨k0, rfl, wFr_tr (wFr_tr (wFr_sub f5 (by simp)) (wFr_tr (wFr_sub f6 (by simp)) (wFr_tr (wFr_sub f9x (by simp)) (wFr_tr (wFr_sub f15x (by simp)) (wFr_tr (wFr_sub f21x (by simp)) (wFr_tr (wFr_sub f27x (by simp)) (wFr_tr (wFr_sub f33x (by simp)) (wFr_tr (wFr_sub f39x (by simp)) (wFr_sub f8 (by simp)))))))))) k1, by omega, k3⟩
set_option maxHeartbeats 8000000 in
theorem m_chL2 {kn lo hi ll lg : List Int32} {sd : Int32} {N : Nat} (hN : N ≤ 20) (hw : wLim lo hi ll lg) (hlm : wLm ll lg) (hl9 : 1 ≤ (kn.getD 0 0).toInt ∧ (kn.getD 0 0).toInt ≤ 99) (hh9 : 1 ≤ (kn.getD 1 0).toInt ∧ (kn.getD 1 0).toInt ≤ 99) : ∀ (m i n : Nat) (su : Int32) (h : zH) (dc ds : Nat), i + m = N → n < 2147483648 → zat h 166 = some (.inl (0, 14, kn)) → zat h 168 = some (.inl (0, 12, lo)) → zat h 170 = some (.inl (0, 12, hi)) → wMS h n → wq 280 57 [(0, .ref 162), (1, .int sd), (2, .int (nI N)), (3, .int 2), (4, .int su), (5, .int (nI i))] [] h dc ds (fun r => ∃ (h2 : zH), r = (some (.int (jCh ll lg (kn.getD 0 0) (kn.getD 1 0) (kn.getD 2 0) 2 m n su)), h2, dc, ds) ∧ wFr [162, 230, 194, 222, 196, 204, 200, 202] h h2 ∧ h2.length = h.length ∧ wMS h2 (jsd n (6 * m))) := by
  intro m
  induction m with
  | zero =>
    intro i n su h dc ds him hn hK hO hG hMS
    have q1 := nI_toInt (n := i) (by omega)
    have q2 := nI_toInt (n := N) (by omega)
    refine wq_gos (f := 1) (pc2 := 60) (ls2 := [(0, .ref 162), (1, .int sd), (2, .int (nI N)), (3, .int 2), (4, .int su), (5, .int (nI i))]) (st2 := [.int (nI N), .int (nI i)]) (h2 := h) (dc2 := dc) (ds2 := ds) 2 rfl ?_
    refine wq_ge2t rfl (by omega) ?_
    refine wq_gos (f := 1) (pc2 := 293) (ls2 := [(0, .ref 162), (1, .int sd), (2, .int (nI N)), (3, .int 2), (4, .int su), (5, .int (nI i))]) (st2 := [.int su]) (h2 := h) (dc2 := dc) (ds2 := ds) 1 rfl ?_
    exact wq_ret rfl rfl ⟨h, rfl, wFr_rf _ _, rfl, hMS⟩
  | succ m ih =>
    intro i n su h dc ds him hn hK hO hG hMS
    have q1 := nI_toInt (n := i) (by omega)
    have q2 := nI_toInt (n := N) (by omega)
    obtain ⟨fs, th, on, sq, dq, pa, pb, fo, hM, hC, h52, hT, hF, h200, h202, hNn, hsq, hD⟩ := hMS
    refine wq_gos (f := 1) (pc2 := 60) (ls2 := [(0, .ref 162), (1, .int sd), (2, .int (nI N)), (3, .int 2), (4, .int su), (5, .int (nI i))]) (st2 := [.int (nI N), .int (nI i)]) (h2 := h) (dc2 := dc) (ds2 := ds) 2 rfl ?_
    refine wq_ge2f rfl rfl (by omega) ?_
    refine wq_ls [(0, .ref 162), (1, .int sd), (2, .int (nI N)), (3, .int 2), (4, .int su), (5, .int (nI i))] (show ([0, 1, 2, 3, 4, 5] : List Nat).Nodup by decide) ⟨rfl, rfl, rfl, rfl, rfl, rfl, trivial⟩ ?_
    refine m_draw6 hw (wLm_c hw hlm) hn hM hC hK hO hG h52 hD ?_
    intro h5 fs5 dq5 f5 l5 hM5 hC5 h525 hD5 d0 d1 d2 d3 d4 d5
    refine wq_gos (f := 1) (pc2 := 117) (ls2 := [(0, .ref 162), (1, .int sd), (2, .int (nI N)), (3, .int 2), (4, .int su), (5, .int (nI i))]) (st2 := [.ref 162, .ref 162]) (h2 := h5) (dc2 := dc) (ds2 := ds) 2 rfl ?_
    refine wq_getf rfl hM5 (hC5.2 (53, 230) (by decide)) rfl ?_
    refine wq_gos (f := 1) (pc2 := 121) (ls2 := [(0, .ref 162), (1, .int sd), (2, .int (nI N)), (3, .int 2), (4, .int su), (5, .int (nI i))]) (st2 := [.int 0, .ref 230, .ref 162]) (h2 := h5) (dc2 := dc) (ds2 := ds) 1 rfl ?_
    have e1x := (f5.2 _ _ (wnc (by decide) (wnc (by decide) wn0)) hK)
    have e2x := (f5.2 _ _ (wnc (by decide) (wnc (by decide) wn0)) hO)
    have e3x := (f5.2 _ _ (wnc (by decide) (wnc (by decide) wn0)) hG)
    have e4x := (f5.2 _ _ (wnc (by decide) (wnc (by decide) wn0)) hT)
    refine wq_inlv (y2 := 200) (as := [.ref 230, .int 0]) rfl rfl rfl hM5 rfl (wq_mono (m_placeD hM5 hC5 e1x e2x e3x hD5 e4x d0 d1 d2 d3 d4 d5) ?_)
    rintro _ ⟨h6, th6, rfl, f6, l6, e6, c6⟩
    show wq 280 124 [(0, .ref 162), (1, .int sd), (2, .int (nI N)), (3, .int 2), (4, .int su), (5, .int (nI i))] [] h6 dc ds _
    refine wq_gos (f := 1) (pc2 := 135) (ls2 := [(6, .int 0), (0, .ref 162), (1, .int sd), (2, .int (nI N)), (3, .int 2), (4, .int su), (5, .int (nI i))]) (st2 := [.ref 162]) (h2 := h6) (dc2 := dc) (ds2 := ds) 6 rfl ?_
    have e5x := (f6.2 _ _ (wnc (by decide) wn0) hM5)
    refine wq_getf rfl e5x (hC5.2 (48, 222) (by decide)) rfl ?_
    refine wq_gos (f := 1) (pc2 := 141) (ls2 := [(6, .int 0), (0, .ref 162), (1, .int sd), (2, .int (nI N)), (3, .int 2), (4, .int su), (5, .int (nI i))]) (st2 := [.ref 162, .int 0, .ref 222]) (h2 := h6) (dc2 := dc) (ds2 := ds) 2 rfl ?_
    refine wq_getf rfl e5x (hC5.2 (29, 194) (by decide)) rfl ?_
    refine wq_gos (f := 1) (pc2 := 146) (ls2 := [(6, .int 0), (0, .ref 162), (1, .int sd), (2, .int (nI N)), (3, .int 2), (4, .int su), (5, .int (nI i))]) (st2 := [.int 0, .ref 194, .int 0, .ref 222]) (h2 := h6) (dc2 := dc) (ds2 := ds) 1 rfl ?_
    refine wq_ialdk (k := 0) rfl e6 rfl rfl rfl ?_
    have e6x := (f6.2 _ _ (wnc (by decide) wn0) (f5.2 _ _ (wnc (by decide) (wnc (by decide) wn0)) hsq))
    refine wq_iast rfl e6x rfl rfl ?_
    intro h7x e8x f9x l10x
    have e8x : zat h7x 222 = some (.inl (0, 6, (zset 0 sq 0 (th6.getD 0 0)))) := e8x
    refine wq_gos (f := 1) (pc2 := 135) (ls2 := [(6, .int 1), (0, .ref 162), (1, .int sd), (2, .int (nI N)), (3, .int 2), (4, .int su), (5, .int (nI i))]) (st2 := [.ref 162]) (h2 := h7x) (dc2 := dc) (ds2 := ds) 6 rfl ?_
    have e11x := (f9x.2 _ _ (wnc (by decide) wn0) e5x)
    refine wq_getf rfl e11x (hC5.2 (48, 222) (by decide)) rfl ?_
    refine wq_gos (f := 1) (pc2 := 141) (ls2 := [(6, .int 1), (0, .ref 162), (1, .int sd), (2, .int (nI N)), (3, .int 2), (4, .int su), (5, .int (nI i))]) (st2 := [.ref 162, .int 1, .ref 222]) (h2 := h7x) (dc2 := dc) (ds2 := ds) 2 rfl ?_
    refine wq_getf rfl e11x (hC5.2 (29, 194) (by decide)) rfl ?_
    refine wq_gos (f := 1) (pc2 := 146) (ls2 := [(6, .int 1), (0, .ref 162), (1, .int sd), (2, .int (nI N)), (3, .int 2), (4, .int su), (5, .int (nI i))]) (st2 := [.int 1, .ref 194, .int 1, .ref 222]) (h2 := h7x) (dc2 := dc) (ds2 := ds) 1 rfl ?_
    have e12x := (f9x.2 _ _ (wnc (by decide) wn0) e6)
    refine wq_ialdk (k := 1) rfl e12x rfl rfl rfl ?_
    refine wq_iast rfl e8x rfl rfl ?_
    intro h13x e14x f15x l16x
    have e14x : zat h13x 222 = some (.inl (0, 6, (zset 0 (zset 0 sq 0 (th6.getD 0 0)) 1 (th6.getD 1 0)))) := e14x
    refine wq_gos (f := 1) (pc2 := 135) (ls2 := [(6, .int 2), (0, .ref 162), (1, .int sd), (2, .int (nI N)), (3, .int 2), (4, .int su), (5, .int (nI i))]) (st2 := [.ref 162]) (h2 := h13x) (dc2 := dc) (ds2 := ds) 6 rfl ?_
    have e17x := (f15x.2 _ _ (wnc (by decide) wn0) e11x)
    refine wq_getf rfl e17x (hC5.2 (48, 222) (by decide)) rfl ?_
    refine wq_gos (f := 1) (pc2 := 141) (ls2 := [(6, .int 2), (0, .ref 162), (1, .int sd), (2, .int (nI N)), (3, .int 2), (4, .int su), (5, .int (nI i))]) (st2 := [.ref 162, .int 2, .ref 222]) (h2 := h13x) (dc2 := dc) (ds2 := ds) 2 rfl ?_
    refine wq_getf rfl e17x (hC5.2 (29, 194) (by decide)) rfl ?_
    refine wq_gos (f := 1) (pc2 := 146) (ls2 := [(6, .int 2), (0, .ref 162), (1, .int sd), (2, .int (nI N)), (3, .int 2), (4, .int su), (5, .int (nI i))]) (st2 := [.int 2, .ref 194, .int 2, .ref 222]) (h2 := h13x) (dc2 := dc) (ds2 := ds) 1 rfl ?_
    have e18x := (f15x.2 _ _ (wnc (by decide) wn0) e12x)
    refine wq_ialdk (k := 2) rfl e18x rfl rfl rfl ?_
    refine wq_iast rfl e14x rfl rfl ?_
    intro h19x e20x f21x l22x
    have e20x : zat h19x 222 = some (.inl (0, 6, (zset 0 (zset 0 (zset 0 sq 0 (th6.getD 0 0)) 1 (th6.getD 1 0)) 2 (th6.getD 2 0)))) := e20x
    refine wq_gos (f := 1) (pc2 := 135) (ls2 := [(6, .int 3), (0, .ref 162), (1, .int sd), (2, .int (nI N)), (3, .int 2), (4, .int su), (5, .int (nI i))]) (st2 := [.ref 162]) (h2 := h19x) (dc2 := dc) (ds2 := ds) 6 rfl ?_
    have e23x := (f21x.2 _ _ (wnc (by decide) wn0) e17x)
    refine wq_getf rfl e23x (hC5.2 (48, 222) (by decide)) rfl ?_
    refine wq_gos (f := 1) (pc2 := 141) (ls2 := [(6, .int 3), (0, .ref 162), (1, .int sd), (2, .int (nI N)), (3, .int 2), (4, .int su), (5, .int (nI i))]) (st2 := [.ref 162, .int 3, .ref 222]) (h2 := h19x) (dc2 := dc) (ds2 := ds) 2 rfl ?_
    refine wq_getf rfl e23x (hC5.2 (29, 194) (by decide)) rfl ?_
    refine wq_gos (f := 1) (pc2 := 146) (ls2 := [(6, .int 3), (0, .ref 162), (1, .int sd), (2, .int (nI N)), (3, .int 2), (4, .int su), (5, .int (nI i))]) (st2 := [.int 3, .ref 194, .int 3, .ref 222]) (h2 := h19x) (dc2 := dc) (ds2 := ds) 1 rfl ?_
    have e24x := (f21x.2 _ _ (wnc (by decide) wn0) e18x)
    refine wq_ialdk (k := 3) rfl e24x rfl rfl rfl ?_
    refine wq_iast rfl e20x rfl rfl ?_
    intro h25x e26x f27x l28x
    have e26x : zat h25x 222 = some (.inl (0, 6, (zset 0 (zset 0 (zset 0 (zset 0 sq 0 (th6.getD 0 0)) 1 (th6.getD 1 0)) 2 (th6.getD 2 0)) 3 (th6.getD 3 0)))) := e26x
    refine wq_gos (f := 1) (pc2 := 135) (ls2 := [(6, .int 4), (0, .ref 162), (1, .int sd), (2, .int (nI N)), (3, .int 2), (4, .int su), (5, .int (nI i))]) (st2 := [.ref 162]) (h2 := h25x) (dc2 := dc) (ds2 := ds) 6 rfl ?_
    have e29x := (f27x.2 _ _ (wnc (by decide) wn0) e23x)
    refine wq_getf rfl e29x (hC5.2 (48, 222) (by decide)) rfl ?_
    refine wq_gos (f := 1) (pc2 := 141) (ls2 := [(6, .int 4), (0, .ref 162), (1, .int sd), (2, .int (nI N)), (3, .int 2), (4, .int su), (5, .int (nI i))]) (st2 := [.ref 162, .int 4, .ref 222]) (h2 := h25x) (dc2 := dc) (ds2 := ds) 2 rfl ?_
    refine wq_getf rfl e29x (hC5.2 (29, 194) (by decide)) rfl ?_
    refine wq_gos (f := 1) (pc2 := 146) (ls2 := [(6, .int 4), (0, .ref 162), (1, .int sd), (2, .int (nI N)), (3, .int 2), (4, .int su), (5, .int (nI i))]) (st2 := [.int 4, .ref 194, .int 4, .ref 222]) (h2 := h25x) (dc2 := dc) (ds2 := ds) 1 rfl ?_
    have e30x := (f27x.2 _ _ (wnc (by decide) wn0) e24x)
    refine wq_ialdk (k := 4) rfl e30x rfl rfl rfl ?_
    refine wq_iast rfl e26x rfl rfl ?_
    intro h31x e32x f33x l34x
    have e32x : zat h31x 222 = some (.inl (0, 6, (zset 0 (zset 0 (zset 0 (zset 0 (zset 0 sq 0 (th6.getD 0 0)) 1 (th6.getD 1 0)) 2 (th6.getD 2 0)) 3 (th6.getD 3 0)) 4 (th6.getD 4 0)))) := e32x
    refine wq_gos (f := 1) (pc2 := 135) (ls2 := [(6, .int 5), (0, .ref 162), (1, .int sd), (2, .int (nI N)), (3, .int 2), (4, .int su), (5, .int (nI i))]) (st2 := [.ref 162]) (h2 := h31x) (dc2 := dc) (ds2 := ds) 6 rfl ?_
    have e35x := (f33x.2 _ _ (wnc (by decide) wn0) e29x)
    refine wq_getf rfl e35x (hC5.2 (48, 222) (by decide)) rfl ?_
    refine wq_gos (f := 1) (pc2 := 141) (ls2 := [(6, .int 5), (0, .ref 162), (1, .int sd), (2, .int (nI N)), (3, .int 2), (4, .int su), (5, .int (nI i))]) (st2 := [.ref 162, .int 5, .ref 222]) (h2 := h31x) (dc2 := dc) (ds2 := ds) 2 rfl ?_
    refine wq_getf rfl e35x (hC5.2 (29, 194) (by decide)) rfl ?_
    refine wq_gos (f := 1) (pc2 := 146) (ls2 := [(6, .int 5), (0, .ref 162), (1, .int sd), (2, .int (nI N)), (3, .int 2), (4, .int su), (5, .int (nI i))]) (st2 := [.int 5, .ref 194, .int 5, .ref 222]) (h2 := h31x) (dc2 := dc) (ds2 := ds) 1 rfl ?_
    have e36x := (f33x.2 _ _ (wnc (by decide) wn0) e30x)
    refine wq_ialdk (k := 5) rfl e36x rfl rfl rfl ?_
    refine wq_iast rfl e32x rfl rfl ?_
    intro h37x e38x f39x l40x
    have e38x : zat h37x 222 = some (.inl (0, 6, (zset 0 (zset 0 (zset 0 (zset 0 (zset 0 (zset 0 sq 0 (th6.getD 0 0)) 1 (th6.getD 1 0)) 2 (th6.getD 2 0)) 3 (th6.getD 3 0)) 4 (th6.getD 4 0)) 5 (th6.getD 5 0)))) := e38x
    refine wq_gos (f := 1) (pc2 := 154) (ls2 := [(6, .int 6), (0, .ref 162), (1, .int sd), (2, .int (nI N)), (3, .int 2), (4, .int su), (5, .int (nI i))]) (st2 := []) (h2 := h37x) (dc2 := dc) (ds2 := ds) 5 rfl ?_
    obtain ⟨sq7, hsq7⟩ : ∃ x, x = (zset 0 (zset 0 (zset 0 (zset 0 (zset 0 (zset 0 sq 0 (th6.getD 0 0)) 1 (th6.getD 1 0)) 2 (th6.getD 2 0)) 3 (th6.getD 3 0)) 4 (th6.getD 4 0)) 5 (th6.getD 5 0)) := ⟨_, rfl⟩
    have e7 := e38x
    rw [← hsq7] at e7
    have c7 : ∀ i, i < 6 → sq7.getD i 0 = (jpl (kn.getD 0 0) (kn.getD 1 0) (kn.getD 2 0) (jv ll lg n 0) (jv ll lg n 1) (jv ll lg n 2) (jv ll lg n 3) (jv ll lg n 4) (jv ll lg n 5)).getD i 0 := by rw [hsq7]; exact lt6 (by simp only [zset_get]; exact c6 0 (by decide)) (by simp only [zset_get]; exact c6 1 (by decide)) (by simp only [zset_get]; exact c6 2 (by decide)) (by simp only [zset_get]; exact c6 3 (by decide)) (by simp only [zset_get]; exact c6 4 (by decide)) (by simp only [zset_get]; exact c6 5 (by decide))
    refine wq_gos (f := 1) (pc2 := 161) (ls2 := [(6, .int 6), (0, .ref 162), (1, .int sd), (2, .int (nI N)), (3, .int 2), (4, .int su), (5, .int (nI i))]) (st2 := [.ref 162, .ref 162]) (h2 := h37x) (dc2 := dc) (ds2 := ds) 5 rfl ?_
    have e41x := (f39x.2 _ _ (wnc (by decide) wn0) e35x)
    refine wq_getf rfl e41x (hC5.2 (48, 222) (by decide)) rfl ?_
    refine wq_gos (f := 1) (pc2 := 167) (ls2 := [(6, .int 6), (0, .ref 162), (1, .int sd), (2, .int (nI N)), (3, .int 2), (4, .int su), (5, .int (nI i))]) (st2 := [.int 5400, .ref 222, .ref 162]) (h2 := h37x) (dc2 := dc) (ds2 := ds) 1 rfl ?_
    have e42x := (f39x.2 _ _ (wnc (by decide) wn0) (f33x.2 _ _ (wnc (by decide) wn0) (f27x.2 _ _ (wnc (by decide) wn0) (f21x.2 _ _ (wnc (by decide) wn0) (f15x.2 _ _ (wnc (by decide) wn0) (f9x.2 _ _ (wnc (by decide) wn0) (f6.2 _ _ (wnc (by decide) wn0) e1x)))))))
    have e43x := (f39x.2 _ _ (wnc (by decide) wn0) (f33x.2 _ _ (wnc (by decide) wn0) (f27x.2 _ _ (wnc (by decide) wn0) (f21x.2 _ _ (wnc (by decide) wn0) (f15x.2 _ _ (wnc (by decide) wn0) (f9x.2 _ _ (wnc (by decide) wn0) (f6.2 _ _ (wnc (by decide) wn0) e2x)))))))
    have e44x := (f39x.2 _ _ (wnc (by decide) wn0) (f33x.2 _ _ (wnc (by decide) wn0) (f27x.2 _ _ (wnc (by decide) wn0) (f21x.2 _ _ (wnc (by decide) wn0) (f15x.2 _ _ (wnc (by decide) wn0) (f9x.2 _ _ (wnc (by decide) wn0) (f6.2 _ _ (wnc (by decide) wn0) e3x)))))))
    have e45x := (f39x.2 _ _ (wnc (by decide) wn0) (f33x.2 _ _ (wnc (by decide) wn0) (f27x.2 _ _ (wnc (by decide) wn0) (f21x.2 _ _ (wnc (by decide) wn0) (f15x.2 _ _ (wnc (by decide) wn0) (f9x.2 _ _ (wnc (by decide) wn0) (f6.2 _ _ (wnc (by decide) wn0) (f5.2 _ _ (wnc (by decide) (wnc (by decide) wn0)) hF))))))))
    have e46x := (f39x.2 _ _ (wnc (by decide) wn0) (f33x.2 _ _ (wnc (by decide) wn0) (f27x.2 _ _ (wnc (by decide) wn0) (f21x.2 _ _ (wnc (by decide) wn0) (f15x.2 _ _ (wnc (by decide) wn0) (f9x.2 _ _ (wnc (by decide) wn0) (f6.2 _ _ (wnc (by decide) wn0) (f5.2 _ _ (wnc (by decide) (wnc (by decide) wn0)) hNn))))))))
    have e47x := (f39x.2 _ _ (wnc (by decide) wn0) (f33x.2 _ _ (wnc (by decide) wn0) (f27x.2 _ _ (wnc (by decide) wn0) (f21x.2 _ _ (wnc (by decide) wn0) (f15x.2 _ _ (wnc (by decide) wn0) (f9x.2 _ _ (wnc (by decide) wn0) (f6.2 _ _ (wnc (by decide) wn0) (f5.2 _ _ (wnc (by decide) (wnc (by decide) wn0)) h200))))))))
    have e48x := (f39x.2 _ _ (wnc (by decide) wn0) (f33x.2 _ _ (wnc (by decide) wn0) (f27x.2 _ _ (wnc (by decide) wn0) (f21x.2 _ _ (wnc (by decide) wn0) (f15x.2 _ _ (wnc (by decide) wn0) (f9x.2 _ _ (wnc (by decide) wn0) (f6.2 _ _ (wnc (by decide) wn0) (f5.2 _ _ (wnc (by decide) (wnc (by decide) wn0)) h202))))))))
    refine wq_inlv (y2 := 226) (as := [.ref 222, .int 5400]) rfl rfl rfl e41x rfl (wq_mono (m_solves (o := 5400) (f34 := .null) (f35 := .null) e41x hC5 e42x e43x e44x e45x (by decide) e46x e7 (Or.inr rfl) e47x e48x) ?_)
    generalize hms : mSol lo hi kn sq7 = ms
    rintro _ ⟨⟨h8, fs8, fo8, wn8, on8, rfl, f8, l8, hM8, hC8, h348, h358, hF8, hfd8, hN8⟩, pa8, pb8, h2008, h2028⟩
    have h4s : 0 ≤ (sq7.getD 4 0).toInt := by rw [c7 4 (by decide)]; exact jpl_4 _ _ _ _ _ _ _ _ _
    obtain ⟨J, hJ⟩ : ∃ J, wEqN J (jN ll lg (kn.getD 0 0) (kn.getD 1 0) (kn.getD 2 0) (jv ll lg n 0) (jv ll lg n 1) (jv ll lg n 2) (jv ll lg n 3) (jv ll lg n 4) (jv ll lg n 5)) := ⟨_, Eq.refl _⟩
    have hse : (600 < J ∧ ms = none) ∨ ∃ l2, ms = some l2 ∧ J = l2.length ∧ l2.length ≤ 600 ∧ l2.Perm ((tCls ll lg (kn.getD 0 0) (kn.getD 1 0) (kn.getD 2 0) sq7).map tPack) := by
      have q := sols_eq (ll := ll) (lg := lg) hw hl9 hh9 h4s
      have e : J = (jN ll lg (kn.getD 0 0) (kn.getD 1 0) (kn.getD 2 0) (jv ll lg n 0) (jv ll lg n 1) (jv ll lg n 2) (jv ll lg n 3) (jv ll lg n 4) (jv ll lg n 5)) := hJ
      rw [hms, sSolL_c c7, jN_e, ← e] at q
      exact q
    clear h4s
    rcases hse with ⟨z1, z2⟩ | ⟨l2, z2, z1, z3, z4⟩
    · rw [z2] at h348 hfd8
      have h528 : fs8[52]? = some (.int (nI (jsd n 6))) := by rw [hC8.2 52 ⟨by decide, by decide⟩]; exact h525
      have h348 : fs8[34]? = some (.int (-3)) := h348
      show wq 280 170 [(6, .int 6), (0, .ref 162), (1, .int sd), (2, .int (nI N)), (3, .int 2), (4, .int su), (5, .int (nI i))] [] h8 dc ds _
      refine wq_gos (f := 1) (pc2 := 234) (ls2 := [(6, .int 6), (0, .ref 162), (1, .int sd), (2, .int (nI N)), (3, .int 2), (4, .int su), (5, .int (nI i))]) (st2 := [.ref 162, .int su]) (h2 := h8) (dc2 := dc) (ds2 := ds) 10 rfl ?_
      refine wq_getf rfl hM8 h348 rfl ?_
      refine wq_gos (f := 1) (pc2 := 288) (ls2 := [(5, .int ((nI i) + 1)), (4, .int (su + (0 : Int32))), (6, .int 6), (0, .ref 162), (1, .int sd), (2, .int (nI N)), (3, .int 2)]) (st2 := []) (h2 := h8) (dc2 := dc) (ds2 := ds) 7 rfl ?_
      rw [nI_1]
      refine wq_gos (f := 1) (pc2 := 57) (ls2 := [(5, .int (nI (i + 1))), (4, .int (su + (0 : Int32))), (6, .int 6), (0, .ref 162), (1, .int sd), (2, .int (nI N)), (3, .int 2)]) (st2 := []) (h2 := h8) (dc2 := dc) (ds2 := ds) 1 rfl ?_
      have e49x := (f8.2 _ _ (wnc (by decide) (wnc (by decide) (wnc (by decide) (wnc (by decide) (wnc (by decide) wn0))))) (f39x.2 _ _ (wnc (by decide) wn0) e36x))
      have e50x := (f8.2 _ _ (wnc (by decide) (wnc (by decide) (wnc (by decide) (wnc (by decide) (wnc (by decide) wn0))))) e7)
      have e51x := (f8.2 _ _ (wnc (by decide) (wnc (by decide) (wnc (by decide) (wnc (by decide) (wnc (by decide) wn0))))) (f39x.2 _ _ (wnc (by decide) wn0) (f33x.2 _ _ (wnc (by decide) wn0) (f27x.2 _ _ (wnc (by decide) wn0) (f21x.2 _ _ (wnc (by decide) wn0) (f15x.2 _ _ (wnc (by decide) wn0) (f9x.2 _ _ (wnc (by decide) wn0) (f6.2 _ _ (wnc (by decide) wn0) hD5))))))))
      have e52x := (f8.2 _ _ (wnc (by decide) (wnc (by decide) (wnc (by decide) (wnc (by decide) (wnc (by decide) wn0))))) e42x)
      have e53x := (f8.2 _ _ (wnc (by decide) (wnc (by decide) (wnc (by decide) (wnc (by decide) (wnc (by decide) wn0))))) e43x)
      have e54x := (f8.2 _ _ (wnc (by decide) (wnc (by decide) (wnc (by decide) (wnc (by decide) (wnc (by decide) wn0))))) e44x)
      have hv : jOne ll lg (kn.getD 0 0) (kn.getD 1 0) (kn.getD 2 0) 2 (jv ll lg n 0) (jv ll lg n 1) (jv ll lg n 2) (jv ll lg n 3) (jv ll lg n 4) (jv ll lg n 5) = (0 : Int32) := by unfold jOne; rw [if_neg (by decide), if_pos (show 600 < (jN ll lg (kn.getD 0 0) (kn.getD 1 0) (kn.getD 2 0) (jv ll lg n 0) (jv ll lg n 1) (jv ll lg n 2) (jv ll lg n 3) (jv ll lg n 4) (jv ll lg n 5)) from (by have e : J = (jN ll lg (kn.getD 0 0) (kn.getD 1 0) (kn.getD 2 0) (jv ll lg n 0) (jv ll lg n 1) (jv ll lg n 2) (jv ll lg n 3) (jv ll lg n 4) (jv ll lg n 5)) := hJ; rw [← e]; exact z1)), if_neg (by decide)]
      have hjc : jCh ll lg (kn.getD 0 0) (kn.getD 1 0) (kn.getD 2 0) 2 (m + 1) n su = jCh ll lg (kn.getD 0 0) (kn.getD 1 0) (kn.getD 2 0) 2 m (jsd n 6) (su + (0 : Int32)) := by rw [jCh_s, hv]
      refine wq_ls [(0, .ref 162), (1, .int sd), (2, .int (nI N)), (3, .int 2), (4, .int (su + (0 : Int32))), (5, .int (nI (i + 1)))] (show ([0, 1, 2, 3, 4, 5] : List Nat).Nodup by decide) ⟨rfl, rfl, rfl, rfl, rfl, rfl, trivial⟩ ?_
      rw [hjc, show 6 * (m + 1) = 6 * m + 6 by omega, ← jsd_6 n (6 * m)]
      refine wq_mono (ih (i + 1) (jsd n 6) (su + (0 : Int32)) h8 dc ds (by omega) (jsd_lt hn 6) e52x e53x e54x ⟨fs8, _, _, _, _, _, _, _, hM8, hC8.1, h528, e49x, hF8, h2008, h2028, hN8, e50x, e51x⟩) ?_
      rintro _ ⟨k0, rfl, k1, k2, k3⟩
      exact ⟨k0, rfl, wFr_tr (wFr_tr (wFr_sub f5 (by simp)) (wFr_tr (wFr_sub f6 (by simp)) (wFr_tr (wFr_sub f9x (by simp)) (wFr_tr (wFr_sub f15x (by simp)) (wFr_tr (wFr_sub f21x (by simp)) (wFr_tr (wFr_sub f27x (by simp)) (wFr_tr (wFr_sub f33x (by simp)) (wFr_tr (wFr_sub f39x (by simp)) (wFr_sub f8 (by simp)))))))))) k1, by omega, k3⟩
    · rw [z2] at h348 hfd8
      have h528 : fs8[52]? = some (.int (nI (jsd n 6))) := by rw [hC8.2 52 ⟨by decide, by decide⟩]; exact h525
      have h348 : fs8[34]? = some (.int (nI l2.length)) := h348
      show wq 280 170 [(6, .int 6), (0, .ref 162), (1, .int sd), (2, .int (nI N)), (3, .int 2), (4, .int su), (5, .int (nI i))] [] h8 dc ds _
      refine wq_gos (f := 1) (pc2 := 234) (ls2 := [(6, .int 6), (0, .ref 162), (1, .int sd), (2, .int (nI N)), (3, .int 2), (4, .int su), (5, .int (nI i))]) (st2 := [.ref 162, .int su]) (h2 := h8) (dc2 := dc) (ds2 := ds) 10 rfl ?_
      refine wq_getf rfl hM8 h348 rfl ?_
      refine wq_gos (f := 1) (pc2 := 239) (ls2 := [(6, .int 6), (0, .ref 162), (1, .int sd), (2, .int (nI N)), (3, .int 2), (4, .int su), (5, .int (nI i))]) (st2 := [.int (-3), .int (nI l2.length), .int su]) (h2 := h8) (dc2 := dc) (ds2 := ds) 1 rfl ?_
      refine wq_eq2f rfl rfl (nI_m3 (by omega)) ?_
      refine wq_gos (f := 1) (pc2 := 244) (ls2 := [(6, .int 6), (0, .ref 162), (1, .int sd), (2, .int (nI N)), (3, .int 2), (4, .int su), (5, .int (nI i))]) (st2 := [.ref 162, .ref 162, .int su]) (h2 := h8) (dc2 := dc) (ds2 := ds) 2 rfl ?_
      refine wq_getf rfl hM8 (hC8.1.2 (53, 230) (by decide)) rfl ?_
      have hpm : jpack (jv ll lg n 0) (jv ll lg n 1) (jv ll lg n 2) (jv ll lg n 3) (jv ll lg n 4) (jv ll lg n 5) ∈ l2 := z4.mem_iff.mpr (List.mem_map.mpr ⟨(jv ll lg n 0, jv ll lg n 1, jv ll lg n 2, jv ll lg n 3, jv ll lg n 4, jv ll lg n 5), (by rw [tCls_c c7]; exact tOwnJ hl9 hlm n), tPack_e _ _ _ _ _ _⟩)
      obtain ⟨i9, hi9, hx9⟩ := List.mem_iff_getElem.mp hpm
      have hi8 : l2[i9]? = some (jpack (jv ll lg n 0) (jv ll lg n 1) (jv ll lg n 2) (jv ll lg n 3) (jv ll lg n 4) (jv ll lg n 5)) := by rw [List.getElem?_eq_getElem hi9, hx9]
      have e55x := (f8.2 _ _ (wnc (by decide) (wnc (by decide) (wnc (by decide) (wnc (by decide) (wnc (by decide) wn0))))) (f39x.2 _ _ (wnc (by decide) wn0) (f33x.2 _ _ (wnc (by decide) wn0) (f27x.2 _ _ (wnc (by decide) wn0) (f21x.2 _ _ (wnc (by decide) wn0) (f15x.2 _ _ (wnc (by decide) wn0) (f9x.2 _ _ (wnc (by decide) wn0) (f6.2 _ _ (wnc (by decide) wn0) hD5))))))))
      refine wq_inlv (y2 := 279) (as := [.ref 230]) rfl rfl rfl hM8 rfl (wq_T (m_among hM8 hC8.1 h348 hF8 e55x d0 d1 d2 d3 d4 d5 (by omega) hi9 (hfd8.2 i9 _ hi8)) ?_)
      show wq 280 250 [(6, .int 6), (0, .ref 162), (1, .int sd), (2, .int (nI N)), (3, .int 2), (4, .int su), (5, .int (nI i))] [.int 1, .int su] h8 dc ds _
      refine wq_gos (f := 1) (pc2 := 288) (ls2 := [(5, .int ((nI i) + 1)), (4, .int (su + (1 : Int32))), (6, .int 6), (0, .ref 162), (1, .int sd), (2, .int (nI N)), (3, .int 2)]) (st2 := []) (h2 := h8) (dc2 := dc) (ds2 := ds) 7 rfl ?_
      rw [nI_1]
      refine wq_gos (f := 1) (pc2 := 57) (ls2 := [(5, .int (nI (i + 1))), (4, .int (su + (1 : Int32))), (6, .int 6), (0, .ref 162), (1, .int sd), (2, .int (nI N)), (3, .int 2)]) (st2 := []) (h2 := h8) (dc2 := dc) (ds2 := ds) 1 rfl ?_
      have e56x := (f8.2 _ _ (wnc (by decide) (wnc (by decide) (wnc (by decide) (wnc (by decide) (wnc (by decide) wn0))))) (f39x.2 _ _ (wnc (by decide) wn0) e36x))
      have e57x := (f8.2 _ _ (wnc (by decide) (wnc (by decide) (wnc (by decide) (wnc (by decide) (wnc (by decide) wn0))))) e7)
      have e58x := (f8.2 _ _ (wnc (by decide) (wnc (by decide) (wnc (by decide) (wnc (by decide) (wnc (by decide) wn0))))) e42x)
      have e59x := (f8.2 _ _ (wnc (by decide) (wnc (by decide) (wnc (by decide) (wnc (by decide) (wnc (by decide) wn0))))) e43x)
      have e60x := (f8.2 _ _ (wnc (by decide) (wnc (by decide) (wnc (by decide) (wnc (by decide) (wnc (by decide) wn0))))) e44x)
      have hv : jOne ll lg (kn.getD 0 0) (kn.getD 1 0) (kn.getD 2 0) 2 (jv ll lg n 0) (jv ll lg n 1) (jv ll lg n 2) (jv ll lg n 3) (jv ll lg n 4) (jv ll lg n 5) = (1 : Int32) := by unfold jOne; rw [if_neg (by decide), if_neg (show ¬ 600 < (jN ll lg (kn.getD 0 0) (kn.getD 1 0) (kn.getD 2 0) (jv ll lg n 0) (jv ll lg n 1) (jv ll lg n 2) (jv ll lg n 3) (jv ll lg n 4) (jv ll lg n 5)) from (by have e : J = (jN ll lg (kn.getD 0 0) (kn.getD 1 0) (kn.getD 2 0) (jv ll lg n 0) (jv ll lg n 1) (jv ll lg n 2) (jv ll lg n 3) (jv ll lg n 4) (jv ll lg n 5)) := hJ; rw [← e, z1]; exact Nat.not_lt.mpr z3)), if_neg (by decide), if_neg (by decide)]
      have hjc : jCh ll lg (kn.getD 0 0) (kn.getD 1 0) (kn.getD 2 0) 2 (m + 1) n su = jCh ll lg (kn.getD 0 0) (kn.getD 1 0) (kn.getD 2 0) 2 m (jsd n 6) (su + (1 : Int32)) := by rw [jCh_s, hv]
      refine wq_ls [(0, .ref 162), (1, .int sd), (2, .int (nI N)), (3, .int 2), (4, .int (su + (1 : Int32))), (5, .int (nI (i + 1)))] (show ([0, 1, 2, 3, 4, 5] : List Nat).Nodup by decide) ⟨rfl, rfl, rfl, rfl, rfl, rfl, trivial⟩ ?_
      rw [hjc, show 6 * (m + 1) = 6 * m + 6 by omega, ← jsd_6 n (6 * m)]
      refine wq_mono (ih (i + 1) (jsd n 6) (su + (1 : Int32)) h8 dc ds (by omega) (jsd_lt hn 6) e58x e59x e60x ⟨fs8, _, _, _, _, _, _, _, hM8, hC8.1, h528, e56x, hF8, h2008, h2028, hN8, e57x, e55x⟩) ?_
      rintro _ ⟨k0, rfl, k1, k2, k3⟩
      exact ⟨k0, rfl, wFr_tr (wFr_tr (wFr_sub f5 (by simp)) (wFr_tr (wFr_sub f6 (by simp)) (wFr_tr (wFr_sub f9x (by simp)) (wFr_tr (wFr_sub f15x (by simp)) (wFr_tr (wFr_sub f21x (by simp)) (wFr_tr (wFr_sub f27x (by simp)) (wFr_tr (wFr_sub f33x (by simp)) (wFr_tr (wFr_sub f39x (by simp)) (wFr_sub f8 (by simp)))))))))) k1, by omega, k3⟩
set_option maxHeartbeats 8000000 in
theorem m_chL3 {kn lo hi ll lg : List Int32} {sd : Int32} {N : Nat} (hN : N ≤ 20) (hw : wLim lo hi ll lg) (hlm : wLm ll lg) (hl9 : 1 ≤ (kn.getD 0 0).toInt ∧ (kn.getD 0 0).toInt ≤ 99) (hh9 : 1 ≤ (kn.getD 1 0).toInt ∧ (kn.getD 1 0).toInt ≤ 99) : ∀ (m i n : Nat) (su : Int32) (h : zH) (dc ds : Nat), i + m = N → n < 2147483648 → zat h 166 = some (.inl (0, 14, kn)) → zat h 168 = some (.inl (0, 12, lo)) → zat h 170 = some (.inl (0, 12, hi)) → wMS h n → wq 280 57 [(0, .ref 162), (1, .int sd), (2, .int (nI N)), (3, .int 3), (4, .int su), (5, .int (nI i))] [] h dc ds (fun r => ∃ (h2 : zH), r = (some (.int (jCh ll lg (kn.getD 0 0) (kn.getD 1 0) (kn.getD 2 0) 3 m n su)), h2, dc, ds) ∧ wFr [162, 230, 194, 222, 196, 204, 200, 202] h h2 ∧ h2.length = h.length ∧ wMS h2 (jsd n (6 * m))) := by
  intro m
  induction m with
  | zero =>
    intro i n su h dc ds him hn hK hO hG hMS
    have q1 := nI_toInt (n := i) (by omega)
    have q2 := nI_toInt (n := N) (by omega)
    refine wq_gos (f := 1) (pc2 := 60) (ls2 := [(0, .ref 162), (1, .int sd), (2, .int (nI N)), (3, .int 3), (4, .int su), (5, .int (nI i))]) (st2 := [.int (nI N), .int (nI i)]) (h2 := h) (dc2 := dc) (ds2 := ds) 2 rfl ?_
    refine wq_ge2t rfl (by omega) ?_
    refine wq_gos (f := 1) (pc2 := 293) (ls2 := [(0, .ref 162), (1, .int sd), (2, .int (nI N)), (3, .int 3), (4, .int su), (5, .int (nI i))]) (st2 := [.int su]) (h2 := h) (dc2 := dc) (ds2 := ds) 1 rfl ?_
    exact wq_ret rfl rfl ⟨h, rfl, wFr_rf _ _, rfl, hMS⟩
  | succ m ih =>
    intro i n su h dc ds him hn hK hO hG hMS
    have q1 := nI_toInt (n := i) (by omega)
    have q2 := nI_toInt (n := N) (by omega)
    obtain ⟨fs, th, on, sq, dq, pa, pb, fo, hM, hC, h52, hT, hF, h200, h202, hNn, hsq, hD⟩ := hMS
    refine wq_gos (f := 1) (pc2 := 60) (ls2 := [(0, .ref 162), (1, .int sd), (2, .int (nI N)), (3, .int 3), (4, .int su), (5, .int (nI i))]) (st2 := [.int (nI N), .int (nI i)]) (h2 := h) (dc2 := dc) (ds2 := ds) 2 rfl ?_
    refine wq_ge2f rfl rfl (by omega) ?_
    refine wq_ls [(0, .ref 162), (1, .int sd), (2, .int (nI N)), (3, .int 3), (4, .int su), (5, .int (nI i))] (show ([0, 1, 2, 3, 4, 5] : List Nat).Nodup by decide) ⟨rfl, rfl, rfl, rfl, rfl, rfl, trivial⟩ ?_
    refine m_draw6 hw (wLm_c hw hlm) hn hM hC hK hO hG h52 hD ?_
    intro h5 fs5 dq5 f5 l5 hM5 hC5 h525 hD5 d0 d1 d2 d3 d4 d5
    refine wq_gos (f := 1) (pc2 := 117) (ls2 := [(0, .ref 162), (1, .int sd), (2, .int (nI N)), (3, .int 3), (4, .int su), (5, .int (nI i))]) (st2 := [.ref 162, .ref 162]) (h2 := h5) (dc2 := dc) (ds2 := ds) 2 rfl ?_
    refine wq_getf rfl hM5 (hC5.2 (53, 230) (by decide)) rfl ?_
    refine wq_gos (f := 1) (pc2 := 121) (ls2 := [(0, .ref 162), (1, .int sd), (2, .int (nI N)), (3, .int 3), (4, .int su), (5, .int (nI i))]) (st2 := [.int 0, .ref 230, .ref 162]) (h2 := h5) (dc2 := dc) (ds2 := ds) 1 rfl ?_
    have e1x := (f5.2 _ _ (wnc (by decide) (wnc (by decide) wn0)) hK)
    have e2x := (f5.2 _ _ (wnc (by decide) (wnc (by decide) wn0)) hO)
    have e3x := (f5.2 _ _ (wnc (by decide) (wnc (by decide) wn0)) hG)
    have e4x := (f5.2 _ _ (wnc (by decide) (wnc (by decide) wn0)) hT)
    refine wq_inlv (y2 := 200) (as := [.ref 230, .int 0]) rfl rfl rfl hM5 rfl (wq_mono (m_placeD hM5 hC5 e1x e2x e3x hD5 e4x d0 d1 d2 d3 d4 d5) ?_)
    rintro _ ⟨h6, th6, rfl, f6, l6, e6, c6⟩
    show wq 280 124 [(0, .ref 162), (1, .int sd), (2, .int (nI N)), (3, .int 3), (4, .int su), (5, .int (nI i))] [] h6 dc ds _
    refine wq_gos (f := 1) (pc2 := 135) (ls2 := [(6, .int 0), (0, .ref 162), (1, .int sd), (2, .int (nI N)), (3, .int 3), (4, .int su), (5, .int (nI i))]) (st2 := [.ref 162]) (h2 := h6) (dc2 := dc) (ds2 := ds) 6 rfl ?_
    have e5x := (f6.2 _ _ (wnc (by decide) wn0) hM5)
    refine wq_getf rfl e5x (hC5.2 (48, 222) (by decide)) rfl ?_
    refine wq_gos (f := 1) (pc2 := 141) (ls2 := [(6, .int 0), (0, .ref 162), (1, .int sd), (2, .int (nI N)), (3, .int 3), (4, .int su), (5, .int (nI i))]) (st2 := [.ref 162, .int 0, .ref 222]) (h2 := h6) (dc2 := dc) (ds2 := ds) 2 rfl ?_
    refine wq_getf rfl e5x (hC5.2 (29, 194) (by decide)) rfl ?_
    refine wq_gos (f := 1) (pc2 := 146) (ls2 := [(6, .int 0), (0, .ref 162), (1, .int sd), (2, .int (nI N)), (3, .int 3), (4, .int su), (5, .int (nI i))]) (st2 := [.int 0, .ref 194, .int 0, .ref 222]) (h2 := h6) (dc2 := dc) (ds2 := ds) 1 rfl ?_
    refine wq_ialdk (k := 0) rfl e6 rfl rfl rfl ?_
    have e6x := (f6.2 _ _ (wnc (by decide) wn0) (f5.2 _ _ (wnc (by decide) (wnc (by decide) wn0)) hsq))
    refine wq_iast rfl e6x rfl rfl ?_
    intro h7x e8x f9x l10x
    have e8x : zat h7x 222 = some (.inl (0, 6, (zset 0 sq 0 (th6.getD 0 0)))) := e8x
    refine wq_gos (f := 1) (pc2 := 135) (ls2 := [(6, .int 1), (0, .ref 162), (1, .int sd), (2, .int (nI N)), (3, .int 3), (4, .int su), (5, .int (nI i))]) (st2 := [.ref 162]) (h2 := h7x) (dc2 := dc) (ds2 := ds) 6 rfl ?_
    have e11x := (f9x.2 _ _ (wnc (by decide) wn0) e5x)
    refine wq_getf rfl e11x (hC5.2 (48, 222) (by decide)) rfl ?_
    refine wq_gos (f := 1) (pc2 := 141) (ls2 := [(6, .int 1), (0, .ref 162), (1, .int sd), (2, .int (nI N)), (3, .int 3), (4, .int su), (5, .int (nI i))]) (st2 := [.ref 162, .int 1, .ref 222]) (h2 := h7x) (dc2 := dc) (ds2 := ds) 2 rfl ?_
    refine wq_getf rfl e11x (hC5.2 (29, 194) (by decide)) rfl ?_
    refine wq_gos (f := 1) (pc2 := 146) (ls2 := [(6, .int 1), (0, .ref 162), (1, .int sd), (2, .int (nI N)), (3, .int 3), (4, .int su), (5, .int (nI i))]) (st2 := [.int 1, .ref 194, .int 1, .ref 222]) (h2 := h7x) (dc2 := dc) (ds2 := ds) 1 rfl ?_
    have e12x := (f9x.2 _ _ (wnc (by decide) wn0) e6)
    refine wq_ialdk (k := 1) rfl e12x rfl rfl rfl ?_
    refine wq_iast rfl e8x rfl rfl ?_
    intro h13x e14x f15x l16x
    have e14x : zat h13x 222 = some (.inl (0, 6, (zset 0 (zset 0 sq 0 (th6.getD 0 0)) 1 (th6.getD 1 0)))) := e14x
    refine wq_gos (f := 1) (pc2 := 135) (ls2 := [(6, .int 2), (0, .ref 162), (1, .int sd), (2, .int (nI N)), (3, .int 3), (4, .int su), (5, .int (nI i))]) (st2 := [.ref 162]) (h2 := h13x) (dc2 := dc) (ds2 := ds) 6 rfl ?_
    have e17x := (f15x.2 _ _ (wnc (by decide) wn0) e11x)
    refine wq_getf rfl e17x (hC5.2 (48, 222) (by decide)) rfl ?_
    refine wq_gos (f := 1) (pc2 := 141) (ls2 := [(6, .int 2), (0, .ref 162), (1, .int sd), (2, .int (nI N)), (3, .int 3), (4, .int su), (5, .int (nI i))]) (st2 := [.ref 162, .int 2, .ref 222]) (h2 := h13x) (dc2 := dc) (ds2 := ds) 2 rfl ?_
    refine wq_getf rfl e17x (hC5.2 (29, 194) (by decide)) rfl ?_
    refine wq_gos (f := 1) (pc2 := 146) (ls2 := [(6, .int 2), (0, .ref 162), (1, .int sd), (2, .int (nI N)), (3, .int 3), (4, .int su), (5, .int (nI i))]) (st2 := [.int 2, .ref 194, .int 2, .ref 222]) (h2 := h13x) (dc2 := dc) (ds2 := ds) 1 rfl ?_
    have e18x := (f15x.2 _ _ (wnc (by decide) wn0) e12x)
    refine wq_ialdk (k := 2) rfl e18x rfl rfl rfl ?_
    refine wq_iast rfl e14x rfl rfl ?_
    intro h19x e20x f21x l22x
    have e20x : zat h19x 222 = some (.inl (0, 6, (zset 0 (zset 0 (zset 0 sq 0 (th6.getD 0 0)) 1 (th6.getD 1 0)) 2 (th6.getD 2 0)))) := e20x
    refine wq_gos (f := 1) (pc2 := 135) (ls2 := [(6, .int 3), (0, .ref 162), (1, .int sd), (2, .int (nI N)), (3, .int 3), (4, .int su), (5, .int (nI i))]) (st2 := [.ref 162]) (h2 := h19x) (dc2 := dc) (ds2 := ds) 6 rfl ?_
    have e23x := (f21x.2 _ _ (wnc (by decide) wn0) e17x)
    refine wq_getf rfl e23x (hC5.2 (48, 222) (by decide)) rfl ?_
    refine wq_gos (f := 1) (pc2 := 141) (ls2 := [(6, .int 3), (0, .ref 162), (1, .int sd), (2, .int (nI N)), (3, .int 3), (4, .int su), (5, .int (nI i))]) (st2 := [.ref 162, .int 3, .ref 222]) (h2 := h19x) (dc2 := dc) (ds2 := ds) 2 rfl ?_
    refine wq_getf rfl e23x (hC5.2 (29, 194) (by decide)) rfl ?_
    refine wq_gos (f := 1) (pc2 := 146) (ls2 := [(6, .int 3), (0, .ref 162), (1, .int sd), (2, .int (nI N)), (3, .int 3), (4, .int su), (5, .int (nI i))]) (st2 := [.int 3, .ref 194, .int 3, .ref 222]) (h2 := h19x) (dc2 := dc) (ds2 := ds) 1 rfl ?_
    have e24x := (f21x.2 _ _ (wnc (by decide) wn0) e18x)
    refine wq_ialdk (k := 3) rfl e24x rfl rfl rfl ?_
    refine wq_iast rfl e20x rfl rfl ?_
    intro h25x e26x f27x l28x
    have e26x : zat h25x 222 = some (.inl (0, 6, (zset 0 (zset 0 (zset 0 (zset 0 sq 0 (th6.getD 0 0)) 1 (th6.getD 1 0)) 2 (th6.getD 2 0)) 3 (th6.getD 3 0)))) := e26x
    refine wq_gos (f := 1) (pc2 := 135) (ls2 := [(6, .int 4), (0, .ref 162), (1, .int sd), (2, .int (nI N)), (3, .int 3), (4, .int su), (5, .int (nI i))]) (st2 := [.ref 162]) (h2 := h25x) (dc2 := dc) (ds2 := ds) 6 rfl ?_
    have e29x := (f27x.2 _ _ (wnc (by decide) wn0) e23x)
    refine wq_getf rfl e29x (hC5.2 (48, 222) (by decide)) rfl ?_
    refine wq_gos (f := 1) (pc2 := 141) (ls2 := [(6, .int 4), (0, .ref 162), (1, .int sd), (2, .int (nI N)), (3, .int 3), (4, .int su), (5, .int (nI i))]) (st2 := [.ref 162, .int 4, .ref 222]) (h2 := h25x) (dc2 := dc) (ds2 := ds) 2 rfl ?_
    refine wq_getf rfl e29x (hC5.2 (29, 194) (by decide)) rfl ?_
    refine wq_gos (f := 1) (pc2 := 146) (ls2 := [(6, .int 4), (0, .ref 162), (1, .int sd), (2, .int (nI N)), (3, .int 3), (4, .int su), (5, .int (nI i))]) (st2 := [.int 4, .ref 194, .int 4, .ref 222]) (h2 := h25x) (dc2 := dc) (ds2 := ds) 1 rfl ?_
    have e30x := (f27x.2 _ _ (wnc (by decide) wn0) e24x)
    refine wq_ialdk (k := 4) rfl e30x rfl rfl rfl ?_
    refine wq_iast rfl e26x rfl rfl ?_
    intro h31x e32x f33x l34x
    have e32x : zat h31x 222 = some (.inl (0, 6, (zset 0 (zset 0 (zset 0 (zset 0 (zset 0 sq 0 (th6.getD 0 0)) 1 (th6.getD 1 0)) 2 (th6.getD 2 0)) 3 (th6.getD 3 0)) 4 (th6.getD 4 0)))) := e32x
    refine wq_gos (f := 1) (pc2 := 135) (ls2 := [(6, .int 5), (0, .ref 162), (1, .int sd), (2, .int (nI N)), (3, .int 3), (4, .int su), (5, .int (nI i))]) (st2 := [.ref 162]) (h2 := h31x) (dc2 := dc) (ds2 := ds) 6 rfl ?_
    have e35x := (f33x.2 _ _ (wnc (by decide) wn0) e29x)
    refine wq_getf rfl e35x (hC5.2 (48, 222) (by decide)) rfl ?_
    refine wq_gos (f := 1) (pc2 := 141) (ls2 := [(6, .int 5), (0, .ref 162), (1, .int sd), (2, .int (nI N)), (3, .int 3), (4, .int su), (5, .int (nI i))]) (st2 := [.ref 162, .int 5, .ref 222]) (h2 := h31x) (dc2 := dc) (ds2 := ds) 2 rfl ?_
    refine wq_getf rfl e35x (hC5.2 (29, 194) (by decide)) rfl ?_
    refine wq_gos (f := 1) (pc2 := 146) (ls2 := [(6, .int 5), (0, .ref 162), (1, .int sd), (2, .int (nI N)), (3, .int 3), (4, .int su), (5, .int (nI i))]) (st2 := [.int 5, .ref 194, .int 5, .ref 222]) (h2 := h31x) (dc2 := dc) (ds2 := ds) 1 rfl ?_
    have e36x := (f33x.2 _ _ (wnc (by decide) wn0) e30x)
    refine wq_ialdk (k := 5) rfl e36x rfl rfl rfl ?_
    refine wq_iast rfl e32x rfl rfl ?_
    intro h37x e38x f39x l40x
    have e38x : zat h37x 222 = some (.inl (0, 6, (zset 0 (zset 0 (zset 0 (zset 0 (zset 0 (zset 0 sq 0 (th6.getD 0 0)) 1 (th6.getD 1 0)) 2 (th6.getD 2 0)) 3 (th6.getD 3 0)) 4 (th6.getD 4 0)) 5 (th6.getD 5 0)))) := e38x
    refine wq_gos (f := 1) (pc2 := 154) (ls2 := [(6, .int 6), (0, .ref 162), (1, .int sd), (2, .int (nI N)), (3, .int 3), (4, .int su), (5, .int (nI i))]) (st2 := []) (h2 := h37x) (dc2 := dc) (ds2 := ds) 5 rfl ?_
    obtain ⟨sq7, hsq7⟩ : ∃ x, x = (zset 0 (zset 0 (zset 0 (zset 0 (zset 0 (zset 0 sq 0 (th6.getD 0 0)) 1 (th6.getD 1 0)) 2 (th6.getD 2 0)) 3 (th6.getD 3 0)) 4 (th6.getD 4 0)) 5 (th6.getD 5 0)) := ⟨_, rfl⟩
    have e7 := e38x
    rw [← hsq7] at e7
    have c7 : ∀ i, i < 6 → sq7.getD i 0 = (jpl (kn.getD 0 0) (kn.getD 1 0) (kn.getD 2 0) (jv ll lg n 0) (jv ll lg n 1) (jv ll lg n 2) (jv ll lg n 3) (jv ll lg n 4) (jv ll lg n 5)).getD i 0 := by rw [hsq7]; exact lt6 (by simp only [zset_get]; exact c6 0 (by decide)) (by simp only [zset_get]; exact c6 1 (by decide)) (by simp only [zset_get]; exact c6 2 (by decide)) (by simp only [zset_get]; exact c6 3 (by decide)) (by simp only [zset_get]; exact c6 4 (by decide)) (by simp only [zset_get]; exact c6 5 (by decide))
    refine wq_gos (f := 1) (pc2 := 267) (ls2 := [(6, .int 6), (0, .ref 162), (1, .int sd), (2, .int (nI N)), (3, .int 3), (4, .int su), (5, .int (nI i))]) (st2 := [.ref 162, .int su]) (h2 := h37x) (dc2 := dc) (ds2 := ds) 13 rfl ?_
    have e41x := (f39x.2 _ _ (wnc (by decide) wn0) e35x)
    refine wq_getf rfl e41x (hC5.2 (53, 230) (by decide)) rfl ?_
    refine wq_gos (f := 1) (pc2 := 271) (ls2 := [(6, .int 6), (0, .ref 162), (1, .int sd), (2, .int (nI N)), (3, .int 3), (4, .int su), (5, .int (nI i))]) (st2 := [.int 0, .ref 230, .int su]) (h2 := h37x) (dc2 := dc) (ds2 := ds) 1 rfl ?_
    have e42x := (f39x.2 _ _ (wnc (by decide) wn0) (f33x.2 _ _ (wnc (by decide) wn0) (f27x.2 _ _ (wnc (by decide) wn0) (f21x.2 _ _ (wnc (by decide) wn0) (f15x.2 _ _ (wnc (by decide) wn0) (f9x.2 _ _ (wnc (by decide) wn0) (f6.2 _ _ (wnc (by decide) wn0) hD5)))))))
    refine wq_inl (y2 := 206) (as := [.ref 230, .int 0]) rfl rfl rfl (wq_T (m_meas e42x d1 d3) ?_)
    show wq 280 274 [(6, .int 6), (0, .ref 162), (1, .int sd), (2, .int (nI N)), (3, .int 3), (4, .int su), (5, .int (nI i))] [.int (jme (jv ll lg n 1) (jv ll lg n 3)), .int su] h37x dc ds _
    refine wq_ne0 rfl rfl (fun b43x => ?_) (fun b43x => ?_)
    · refine wq_gos (f := 1) (pc2 := 288) (ls2 := [(5, .int ((nI i) + 1)), (4, .int (su + (0 : Int32))), (6, .int 6), (0, .ref 162), (1, .int sd), (2, .int (nI N)), (3, .int 3)]) (st2 := []) (h2 := h37x) (dc2 := dc) (ds2 := ds) 4 rfl ?_
      rw [nI_1]
      refine wq_gos (f := 1) (pc2 := 57) (ls2 := [(5, .int (nI (i + 1))), (4, .int (su + (0 : Int32))), (6, .int 6), (0, .ref 162), (1, .int sd), (2, .int (nI N)), (3, .int 3)]) (st2 := []) (h2 := h37x) (dc2 := dc) (ds2 := ds) 1 rfl ?_
      have e44x := (f39x.2 _ _ (wnc (by decide) wn0) e36x)
      have e45x := (f39x.2 _ _ (wnc (by decide) wn0) (f33x.2 _ _ (wnc (by decide) wn0) (f27x.2 _ _ (wnc (by decide) wn0) (f21x.2 _ _ (wnc (by decide) wn0) (f15x.2 _ _ (wnc (by decide) wn0) (f9x.2 _ _ (wnc (by decide) wn0) (f6.2 _ _ (wnc (by decide) wn0) (f5.2 _ _ (wnc (by decide) (wnc (by decide) wn0)) hF))))))))
      have e46x := (f39x.2 _ _ (wnc (by decide) wn0) (f33x.2 _ _ (wnc (by decide) wn0) (f27x.2 _ _ (wnc (by decide) wn0) (f21x.2 _ _ (wnc (by decide) wn0) (f15x.2 _ _ (wnc (by decide) wn0) (f9x.2 _ _ (wnc (by decide) wn0) (f6.2 _ _ (wnc (by decide) wn0) (f5.2 _ _ (wnc (by decide) (wnc (by decide) wn0)) h200))))))))
      have e47x := (f39x.2 _ _ (wnc (by decide) wn0) (f33x.2 _ _ (wnc (by decide) wn0) (f27x.2 _ _ (wnc (by decide) wn0) (f21x.2 _ _ (wnc (by decide) wn0) (f15x.2 _ _ (wnc (by decide) wn0) (f9x.2 _ _ (wnc (by decide) wn0) (f6.2 _ _ (wnc (by decide) wn0) (f5.2 _ _ (wnc (by decide) (wnc (by decide) wn0)) h202))))))))
      have e48x := (f39x.2 _ _ (wnc (by decide) wn0) (f33x.2 _ _ (wnc (by decide) wn0) (f27x.2 _ _ (wnc (by decide) wn0) (f21x.2 _ _ (wnc (by decide) wn0) (f15x.2 _ _ (wnc (by decide) wn0) (f9x.2 _ _ (wnc (by decide) wn0) (f6.2 _ _ (wnc (by decide) wn0) (f5.2 _ _ (wnc (by decide) (wnc (by decide) wn0)) hNn))))))))
      have e49x := (f39x.2 _ _ (wnc (by decide) wn0) (f33x.2 _ _ (wnc (by decide) wn0) (f27x.2 _ _ (wnc (by decide) wn0) (f21x.2 _ _ (wnc (by decide) wn0) (f15x.2 _ _ (wnc (by decide) wn0) (f9x.2 _ _ (wnc (by decide) wn0) (f6.2 _ _ (wnc (by decide) wn0) e1x)))))))
      have e50x := (f39x.2 _ _ (wnc (by decide) wn0) (f33x.2 _ _ (wnc (by decide) wn0) (f27x.2 _ _ (wnc (by decide) wn0) (f21x.2 _ _ (wnc (by decide) wn0) (f15x.2 _ _ (wnc (by decide) wn0) (f9x.2 _ _ (wnc (by decide) wn0) (f6.2 _ _ (wnc (by decide) wn0) e2x)))))))
      have e51x := (f39x.2 _ _ (wnc (by decide) wn0) (f33x.2 _ _ (wnc (by decide) wn0) (f27x.2 _ _ (wnc (by decide) wn0) (f21x.2 _ _ (wnc (by decide) wn0) (f15x.2 _ _ (wnc (by decide) wn0) (f9x.2 _ _ (wnc (by decide) wn0) (f6.2 _ _ (wnc (by decide) wn0) e3x)))))))
      have hv : jOne ll lg (kn.getD 0 0) (kn.getD 1 0) (kn.getD 2 0) 3 (jv ll lg n 0) (jv ll lg n 1) (jv ll lg n 2) (jv ll lg n 3) (jv ll lg n 4) (jv ll lg n 5) = (0 : Int32) := by unfold jOne; rw [if_pos rfl, if_neg b43x]
      have hjc : jCh ll lg (kn.getD 0 0) (kn.getD 1 0) (kn.getD 2 0) 3 (m + 1) n su = jCh ll lg (kn.getD 0 0) (kn.getD 1 0) (kn.getD 2 0) 3 m (jsd n 6) (su + (0 : Int32)) := by rw [jCh_s, hv]
      refine wq_ls [(0, .ref 162), (1, .int sd), (2, .int (nI N)), (3, .int 3), (4, .int (su + (0 : Int32))), (5, .int (nI (i + 1)))] (show ([0, 1, 2, 3, 4, 5] : List Nat).Nodup by decide) ⟨rfl, rfl, rfl, rfl, rfl, rfl, trivial⟩ ?_
      rw [hjc, show 6 * (m + 1) = 6 * m + 6 by omega, ← jsd_6 n (6 * m)]
      refine wq_mono (ih (i + 1) (jsd n 6) (su + (0 : Int32)) h37x dc ds (by omega) (jsd_lt hn 6) e49x e50x e51x ⟨fs5, _, _, _, _, _, _, _, e41x, hC5, h525, e44x, e45x, e46x, e47x, e48x, e7, e42x⟩) ?_
      rintro _ ⟨k0, rfl, k1, k2, k3⟩
      exact ⟨k0, rfl, wFr_tr (wFr_tr (wFr_sub f5 (by simp)) (wFr_tr (wFr_sub f6 (by simp)) (wFr_tr (wFr_sub f9x (by simp)) (wFr_tr (wFr_sub f15x (by simp)) (wFr_tr (wFr_sub f21x (by simp)) (wFr_tr (wFr_sub f27x (by simp)) (wFr_tr (wFr_sub f33x (by simp)) (wFr_sub f39x (by simp))))))))) k1, by omega, k3⟩
    · refine wq_gos (f := 1) (pc2 := 288) (ls2 := [(5, .int ((nI i) + 1)), (4, .int (su + (1 : Int32))), (6, .int 6), (0, .ref 162), (1, .int sd), (2, .int (nI N)), (3, .int 3)]) (st2 := []) (h2 := h37x) (dc2 := dc) (ds2 := ds) 5 rfl ?_
      rw [nI_1]
      refine wq_gos (f := 1) (pc2 := 57) (ls2 := [(5, .int (nI (i + 1))), (4, .int (su + (1 : Int32))), (6, .int 6), (0, .ref 162), (1, .int sd), (2, .int (nI N)), (3, .int 3)]) (st2 := []) (h2 := h37x) (dc2 := dc) (ds2 := ds) 1 rfl ?_
      have e52x := (f39x.2 _ _ (wnc (by decide) wn0) e36x)
      have e53x := (f39x.2 _ _ (wnc (by decide) wn0) (f33x.2 _ _ (wnc (by decide) wn0) (f27x.2 _ _ (wnc (by decide) wn0) (f21x.2 _ _ (wnc (by decide) wn0) (f15x.2 _ _ (wnc (by decide) wn0) (f9x.2 _ _ (wnc (by decide) wn0) (f6.2 _ _ (wnc (by decide) wn0) (f5.2 _ _ (wnc (by decide) (wnc (by decide) wn0)) hF))))))))
      have e54x := (f39x.2 _ _ (wnc (by decide) wn0) (f33x.2 _ _ (wnc (by decide) wn0) (f27x.2 _ _ (wnc (by decide) wn0) (f21x.2 _ _ (wnc (by decide) wn0) (f15x.2 _ _ (wnc (by decide) wn0) (f9x.2 _ _ (wnc (by decide) wn0) (f6.2 _ _ (wnc (by decide) wn0) (f5.2 _ _ (wnc (by decide) (wnc (by decide) wn0)) h200))))))))
      have e55x := (f39x.2 _ _ (wnc (by decide) wn0) (f33x.2 _ _ (wnc (by decide) wn0) (f27x.2 _ _ (wnc (by decide) wn0) (f21x.2 _ _ (wnc (by decide) wn0) (f15x.2 _ _ (wnc (by decide) wn0) (f9x.2 _ _ (wnc (by decide) wn0) (f6.2 _ _ (wnc (by decide) wn0) (f5.2 _ _ (wnc (by decide) (wnc (by decide) wn0)) h202))))))))
      have e56x := (f39x.2 _ _ (wnc (by decide) wn0) (f33x.2 _ _ (wnc (by decide) wn0) (f27x.2 _ _ (wnc (by decide) wn0) (f21x.2 _ _ (wnc (by decide) wn0) (f15x.2 _ _ (wnc (by decide) wn0) (f9x.2 _ _ (wnc (by decide) wn0) (f6.2 _ _ (wnc (by decide) wn0) (f5.2 _ _ (wnc (by decide) (wnc (by decide) wn0)) hNn))))))))
      have e57x := (f39x.2 _ _ (wnc (by decide) wn0) (f33x.2 _ _ (wnc (by decide) wn0) (f27x.2 _ _ (wnc (by decide) wn0) (f21x.2 _ _ (wnc (by decide) wn0) (f15x.2 _ _ (wnc (by decide) wn0) (f9x.2 _ _ (wnc (by decide) wn0) (f6.2 _ _ (wnc (by decide) wn0) e1x)))))))
      have e58x := (f39x.2 _ _ (wnc (by decide) wn0) (f33x.2 _ _ (wnc (by decide) wn0) (f27x.2 _ _ (wnc (by decide) wn0) (f21x.2 _ _ (wnc (by decide) wn0) (f15x.2 _ _ (wnc (by decide) wn0) (f9x.2 _ _ (wnc (by decide) wn0) (f6.2 _ _ (wnc (by decide) wn0) e2x)))))))
      have e59x := (f39x.2 _ _ (wnc (by decide) wn0) (f33x.2 _ _ (wnc (by decide) wn0) (f27x.2 _ _ (wnc (by decide) wn0) (f21x.2 _ _ (wnc (by decide) wn0) (f15x.2 _ _ (wnc (by decide) wn0) (f9x.2 _ _ (wnc (by decide) wn0) (f6.2 _ _ (wnc (by decide) wn0) e3x)))))))
      have hv : jOne ll lg (kn.getD 0 0) (kn.getD 1 0) (kn.getD 2 0) 3 (jv ll lg n 0) (jv ll lg n 1) (jv ll lg n 2) (jv ll lg n 3) (jv ll lg n 4) (jv ll lg n 5) = (1 : Int32) := by unfold jOne; rw [if_pos rfl, if_pos b43x]
      have hjc : jCh ll lg (kn.getD 0 0) (kn.getD 1 0) (kn.getD 2 0) 3 (m + 1) n su = jCh ll lg (kn.getD 0 0) (kn.getD 1 0) (kn.getD 2 0) 3 m (jsd n 6) (su + (1 : Int32)) := by rw [jCh_s, hv]
      refine wq_ls [(0, .ref 162), (1, .int sd), (2, .int (nI N)), (3, .int 3), (4, .int (su + (1 : Int32))), (5, .int (nI (i + 1)))] (show ([0, 1, 2, 3, 4, 5] : List Nat).Nodup by decide) ⟨rfl, rfl, rfl, rfl, rfl, rfl, trivial⟩ ?_
      rw [hjc, show 6 * (m + 1) = 6 * m + 6 by omega, ← jsd_6 n (6 * m)]
      refine wq_mono (ih (i + 1) (jsd n 6) (su + (1 : Int32)) h37x dc ds (by omega) (jsd_lt hn 6) e57x e58x e59x ⟨fs5, _, _, _, _, _, _, _, e41x, hC5, h525, e52x, e53x, e54x, e55x, e56x, e7, e42x⟩) ?_
      rintro _ ⟨k0, rfl, k1, k2, k3⟩
      exact ⟨k0, rfl, wFr_tr (wFr_tr (wFr_sub f5 (by simp)) (wFr_tr (wFr_sub f6 (by simp)) (wFr_tr (wFr_sub f9x (by simp)) (wFr_tr (wFr_sub f15x (by simp)) (wFr_tr (wFr_sub f21x (by simp)) (wFr_tr (wFr_sub f27x (by simp)) (wFr_tr (wFr_sub f33x (by simp)) (wFr_sub f39x (by simp))))))))) k1, by omega, k3⟩
