/-! way, nearest, clearest at the first state. -/
theorem wq_tabo {y pc : Nat} {ls : zL} {rest : List Value} {h : zH} {dc ds : Nat} {Q : zR → Prop} {len : Nat} {K : zK} {tg : List Nat} {x : Int32} {d lo hi : Int} {offs : Array Int} (hP : zP y pc = some (.tableswitch d lo hi offs, len, K, tg)) (hx : x.toInt < lo ∨ hi < x.toInt) (k : wq y K.1 ls rest h dc ds Q) : wq y pc ls (.int x :: rest) h dc ds Q := by
  obtain ⟨r, k1, k2⟩ := k
  exact ⟨r, zT_tabo hP hx k1, k2⟩
set_option maxHeartbeats 4000000 in
theorem m_unp {h : zH} {fs : List Value} {hr0 : List Int32} {x : Int64} (hM : zat h 162 = some (.inr (.inr (.inr (10, fs))))) (hC : mC fs) (hH : zat h 206 = some (.inl (0, 6, hr0))) : wq 221 0 [(0, .ref 162), (1, .long x), (3, .ref 206), (4, .int 0)] [] h 0 0 (fun r => ∃ (h2 : zH) (hr : List Int32), r = (none, h2, 0, 0) ∧ wFr [206] h h2 ∧ zat h2 206 = some (.inl (0, 6, hr)) ∧ hr.getD 0 0 = mjo0 x ∧ hr.getD 1 0 = mjo1 x ∧ hr.getD 2 0 = mjo2 x ∧ hr.getD 3 0 = mjo3 x ∧ hr.getD 4 0 = mjo4 x ∧ hr.getD 5 0 = mjo5 x) := by
  refine wq_gos (f := 1) (pc2 := 20) (ls2 := [(5, .int 0), (0, .ref 162), (1, .long x), (3, .ref 206), (4, .int 0)]) (st2 := [.int 0, .long x, .ref 162, .int 0, .ref 206]) (h2 := h) (dc2 := 0) (ds2 := 0) 12 rfl ?_
  refine wq_inlv (y2 := 220) (as := [.long x, .int 0]) rfl rfl rfl hM rfl (wq_T (m_jo0 x h) ?_)
  show wq 221 23 [(5, .int 0), (0, .ref 162), (1, .long x), (3, .ref 206), (4, .int 0)] [.int (mjo0 x), .int 0, .ref 206] h 0 0 _
  refine wq_iast rfl hH rfl rfl ?_
  intro h1x e2x f3x l4x
  have e2x : zat h1x 206 = some (.inl (0, 6, (zset 0 hr0 0 (mjo0 x)))) := e2x
  refine wq_gos (f := 1) (pc2 := 20) (ls2 := [(5, .int 1), (0, .ref 162), (1, .long x), (3, .ref 206), (4, .int 0)]) (st2 := [.int 1, .long x, .ref 162, .int 1, .ref 206]) (h2 := h1x) (dc2 := 0) (ds2 := 0) 12 rfl ?_
  have e5x := (f3x.2 _ _ (wnc (by decide) wn0) hM)
  refine wq_inlv (y2 := 220) (as := [.long x, .int 1]) rfl rfl rfl e5x rfl (wq_T (m_jo1 x h1x) ?_)
  show wq 221 23 [(5, .int 1), (0, .ref 162), (1, .long x), (3, .ref 206), (4, .int 0)] [.int (mjo1 x), .int 1, .ref 206] h1x 0 0 _
  refine wq_iast rfl e2x rfl rfl ?_
  intro h6x e7x f8x l9x
  have e7x : zat h6x 206 = some (.inl (0, 6, (zset 0 (zset 0 hr0 0 (mjo0 x)) 1 (mjo1 x)))) := e7x
  refine wq_gos (f := 1) (pc2 := 20) (ls2 := [(5, .int 2), (0, .ref 162), (1, .long x), (3, .ref 206), (4, .int 0)]) (st2 := [.int 2, .long x, .ref 162, .int 2, .ref 206]) (h2 := h6x) (dc2 := 0) (ds2 := 0) 12 rfl ?_
  have e10x := (f8x.2 _ _ (wnc (by decide) wn0) e5x)
  refine wq_inlv (y2 := 220) (as := [.long x, .int 2]) rfl rfl rfl e10x rfl (wq_T (m_jo2 x h6x) ?_)
  show wq 221 23 [(5, .int 2), (0, .ref 162), (1, .long x), (3, .ref 206), (4, .int 0)] [.int (mjo2 x), .int 2, .ref 206] h6x 0 0 _
  refine wq_iast rfl e7x rfl rfl ?_
  intro h11x e12x f13x l14x
  have e12x : zat h11x 206 = some (.inl (0, 6, (zset 0 (zset 0 (zset 0 hr0 0 (mjo0 x)) 1 (mjo1 x)) 2 (mjo2 x)))) := e12x
  refine wq_gos (f := 1) (pc2 := 20) (ls2 := [(5, .int 3), (0, .ref 162), (1, .long x), (3, .ref 206), (4, .int 0)]) (st2 := [.int 3, .long x, .ref 162, .int 3, .ref 206]) (h2 := h11x) (dc2 := 0) (ds2 := 0) 12 rfl ?_
  have e15x := (f13x.2 _ _ (wnc (by decide) wn0) e10x)
  refine wq_inlv (y2 := 220) (as := [.long x, .int 3]) rfl rfl rfl e15x rfl (wq_T (m_jo3 x h11x) ?_)
  show wq 221 23 [(5, .int 3), (0, .ref 162), (1, .long x), (3, .ref 206), (4, .int 0)] [.int (mjo3 x), .int 3, .ref 206] h11x 0 0 _
  refine wq_iast rfl e12x rfl rfl ?_
  intro h16x e17x f18x l19x
  have e17x : zat h16x 206 = some (.inl (0, 6, (zset 0 (zset 0 (zset 0 (zset 0 hr0 0 (mjo0 x)) 1 (mjo1 x)) 2 (mjo2 x)) 3 (mjo3 x)))) := e17x
  refine wq_gos (f := 1) (pc2 := 20) (ls2 := [(5, .int 4), (0, .ref 162), (1, .long x), (3, .ref 206), (4, .int 0)]) (st2 := [.int 4, .long x, .ref 162, .int 4, .ref 206]) (h2 := h16x) (dc2 := 0) (ds2 := 0) 12 rfl ?_
  have e20x := (f18x.2 _ _ (wnc (by decide) wn0) e15x)
  refine wq_inlv (y2 := 220) (as := [.long x, .int 4]) rfl rfl rfl e20x rfl (wq_T (m_jo4 x h16x) ?_)
  show wq 221 23 [(5, .int 4), (0, .ref 162), (1, .long x), (3, .ref 206), (4, .int 0)] [.int (mjo4 x), .int 4, .ref 206] h16x 0 0 _
  refine wq_iast rfl e17x rfl rfl ?_
  intro h21x e22x f23x l24x
  have e22x : zat h21x 206 = some (.inl (0, 6, (zset 0 (zset 0 (zset 0 (zset 0 (zset 0 hr0 0 (mjo0 x)) 1 (mjo1 x)) 2 (mjo2 x)) 3 (mjo3 x)) 4 (mjo4 x)))) := e22x
  refine wq_gos (f := 1) (pc2 := 20) (ls2 := [(5, .int 5), (0, .ref 162), (1, .long x), (3, .ref 206), (4, .int 0)]) (st2 := [.int 5, .long x, .ref 162, .int 5, .ref 206]) (h2 := h21x) (dc2 := 0) (ds2 := 0) 12 rfl ?_
  have e25x := (f23x.2 _ _ (wnc (by decide) wn0) e20x)
  refine wq_inlv (y2 := 220) (as := [.long x, .int 5]) rfl rfl rfl e25x rfl (wq_T (m_jo5 x h21x) ?_)
  show wq 221 23 [(5, .int 5), (0, .ref 162), (1, .long x), (3, .ref 206), (4, .int 0)] [.int (mjo5 x), .int 5, .ref 206] h21x 0 0 _
  refine wq_iast rfl e22x rfl rfl ?_
  intro h26x e27x f28x l29x
  have e27x : zat h26x 206 = some (.inl (0, 6, (zset 0 (zset 0 (zset 0 (zset 0 (zset 0 (zset 0 hr0 0 (mjo0 x)) 1 (mjo1 x)) 2 (mjo2 x)) 3 (mjo3 x)) 4 (mjo4 x)) 5 (mjo5 x)))) := e27x
  refine wq_gos (f := 1) (pc2 := 30) (ls2 := [(5, .int 6), (0, .ref 162), (1, .long x), (3, .ref 206), (4, .int 0)]) (st2 := []) (h2 := h26x) (dc2 := 0) (ds2 := 0) 5 rfl ?_
  exact wq_ret rfl rfl ⟨h26x, _, rfl, (wFr_tr (wFr_sub f3x (by simp)) (wFr_tr (wFr_sub f8x (by simp)) (wFr_tr (wFr_sub f13x (by simp)) (wFr_tr (wFr_sub f18x (by simp)) (wFr_tr (wFr_sub f23x (by simp)) (wFr_sub f28x (by simp))))))), e27x, (by simp only [zset_get]; rfl), (by simp only [zset_get]; rfl), (by simp only [zset_get]; rfl), (by simp only [zset_get]; rfl), (by simp only [zset_get]; rfl), (by simp only [zset_get]; rfl)⟩
theorem m_mea188 {h : zH} (c188 : zat h 188 = some (.inl (0, 6, [0, 0, 0, 0, 0, 0]))) : zT zg0 zF zP 206 0 [(0, .ref 188), (1, .int 0)] [] h 0 0 (some (.int 0), h, 0, 0) := by
  apply wq_toT
  refine wq_gos (f := 1) (pc2 := 4) (ls2 := [(0, .ref 188), (1, .int 0)]) (st2 := [.int 1, .ref 188]) (h2 := h) (dc2 := 0) (ds2 := 0) 4 rfl ?_
  refine wq_ialdk (k := 1) rfl c188 rfl rfl rfl ?_
  refine wq_inl (y2 := 196) (as := [.int 0]) rfl rfl rfl (wq_T (show zT zg0 zF zP 196 0 [(0, .int 0)] [] h 0 0 (some (.int 0), h, 0, 0) from m_sin (0 : Int32) h) ?_)
  show wq 206 8 [(0, .ref 188), (1, .int 0)] [.int 0] h 0 0 _
  refine wq_gos (f := 1) (pc2 := 12) (ls2 := [(0, .ref 188), (1, .int 0)]) (st2 := [.int 3, .ref 188, .int 0]) (h2 := h) (dc2 := 0) (ds2 := 0) 4 rfl ?_
  refine wq_ialdk (k := 3) rfl c188 rfl rfl rfl ?_
  refine wq_inl (y2 := 196) (as := [.int 0]) rfl rfl rfl (wq_T (show zT zg0 zF zP 196 0 [(0, .int 0)] [] h 0 0 (some (.int 0), h, 0, 0) from m_sin (0 : Int32) h) ?_)
  show wq 206 16 [(0, .ref 188), (1, .int 0)] [.int 0, .int 0] h 0 0 _
  refine wq_gos (f := 1) (pc2 := 17) (ls2 := [(0, .ref 188), (1, .int 0)]) (st2 := [.int 0]) (h2 := h) (dc2 := 0) (ds2 := 0) 1 rfl ?_
  refine wq_inl (y2 := 203) (as := [.int 0]) rfl rfl rfl (wq_T (show zT zg0 zF zP 203 0 [(0, .int 0)] [] h 0 0 (some (.int 0), h, 0, 0) from m_abs (0 : Int32) h) ?_)
  show wq 206 20 [(0, .ref 188), (1, .int 0)] [.int 0] h 0 0 _
  refine wq_gos (f := 1) (pc2 := 24) (ls2 := [(0, .ref 188), (1, .int 0)]) (st2 := [.int 0]) (h2 := h) (dc2 := 0) (ds2 := 0) 2 rfl ?_
  exact wq_ret rfl rfl rfl
theorem m_kept0 {h : zH} {fs : List Value} (hM : zat h 162 = some (.inr (.inr (.inr (10, fs))))) (hC : mC fs) (c188 : zat h 188 = some (.inl (0, 6, [0, 0, 0, 0, 0, 0]))) : zT zg0 zF zP 234 0 [(0, .ref 162), (1, .ref 188), (2, .int 0), (3, .ref 206), (4, .int 0)] [] h 0 0 (some (.int 0), h, 0, 0) := by
  apply wq_toT
  refine wq_gos (f := 1) (pc2 := 2) (ls2 := [(0, .ref 162), (1, .ref 188), (2, .int 0), (3, .ref 206), (4, .int 0)]) (st2 := [.int 0, .ref 188]) (h2 := h) (dc2 := 0) (ds2 := 0) 2 rfl ?_
  refine wq_inl (y2 := 206) (as := [.ref 188, .int 0]) rfl rfl rfl (wq_T (m_mea188 c188) ?_)
  show wq 234 5 [(0, .ref 162), (1, .ref 188), (2, .int 0), (3, .ref 206), (4, .int 0)] [.int 0] h 0 0 _
  refine wq_gos (f := 1) (pc2 := 50) (ls2 := [(0, .ref 162), (1, .ref 188), (2, .int 0), (3, .ref 206), (4, .int 0)]) (st2 := [.int 0]) (h2 := h) (dc2 := 0) (ds2 := 0) 2 rfl ?_
  exact wq_ret rfl rfl rfl
theorem jkept0 (b : Int64) : jkept 70644700037184 b = 0 := by unfold jkept; rw [if_pos (show jkind 70644700037184 = 0 by decide +kernel)]
set_option maxRecDepth 100000 in
set_option maxHeartbeats 4000000 in
theorem c_o14kl {h : zH} {kk ww : Int32} (c0 : zat h 0 = some (.inr (.inr (.inr (9, [.ref 2, .int 0, .ref 4, .ref 6, .ref 20, .long 70644700037184, .ref 34, .ref 36, .int 0, .long 0, .ref 42, .ref 44, .ref 60, .ref 66, .ref 72, .ref 74, .ref 150, .ref 158]))))) (c6 : zat h 6 = some (.inr (.inr (.inr (0, [.int 9, .int 4, .int 10, .int 2, .int 0, .long 70644700037184, .ref 8, .ref 10, .ref 12, .int 0, .ref 14, .ref 16, .int 0, .ref 18]))))) (c8 : zat h 8 = some (.inl (0, 6, [0, (-32), (-32), (-32), (-32), (-64)]))) (c10 : zat h 10 = some (.inl (0, 6, [99, 31, 31, 31, 31, 63]))) (c34 : zat h 34 = some (.inl (0, 6, [22000000, 0, 10000, 0, 0, 0]))) (c44 : zat h 44 = some (.inr (.inr (.inr (7, [.null, .null, .ref 46, .int 0, .ref 48, .ref 50, .ref 52, .ref 54, .ref 56, .ref 58]))))) (c46 : zat h 46 = some (.inl (0, 6, []))) (c48 : zat h 48 = some (.inl (0, 128, []))) (c50 : zat h 50 = some (.inl (0, 128, []))) (c52 : zat h 52 = some (.inl (0, 128, []))) (c54 : zat h 54 = some (.inl (0, 128, []))) (c56 : zat h 56 = some (.inl (0, 101, []))) (c58 : zat h 58 = some (.inr (.inl (16, [])))) (c60 : zat h 60 = some (.inr (.inr (.inr (1, [.int 0, .int 0, .ref 62, .ref 64, .int 0, .int 0]))))) (c62 : zat h 62 = some (.inr (.inl (16, [])))) (c64 : zat h 64 = some (.inl (0, 6, []))) (c12 : zat h 12 = some (.inl (0, 6, [4, 4, 4, 4, 4, 4]))) (hlen : 117 ≤ h.length) (hk : kk.toInt < 0) : wq 115 0 [(0, .ref 0), (1, .int kk), (2, .int ww)] [] h 0 0 (fun r => ∃ (h2 : zH) (d s : Nat), r = (some (.int (-9)), h2, d, s) ∧ wFr [0, 36, 38, 40, 62, 60, 64, 44, 46, 48, 50, 52, 54, 56, 58] h h2 ∧ d ≤ 1200 ∧ s ≤ 720000) := by
  have e_0 : (0 : Int32).toInt = 0 := rfl
  have e6 : (6 : Int32).toInt = 6 := rfl
  have e264 : (264 : Int32).toInt = 264 := rfl
  have e3 : (3 : Int32).toInt = 3 := rfl
  have e4 : (4 : Int32).toInt = 4 := rfl
  have e2 : (2 : Int32).toInt = 2 := rfl
  refine wq_gos (f := 1) (pc2 := 1) (ls2 := [(0, .ref 0), (1, .int kk), (2, .int ww)]) (st2 := [.ref 0]) (h2 := h) (dc2 := 0) (ds2 := 0) 1 rfl ?_
  refine wq_inlv (y2 := 148) (as := []) rfl rfl rfl c0 rfl (wq_mono (c_held0 c0 c6 c8 c10 c34 c44 c46 c48 c50 c52 c54 c56 c58 c60 c62 c64 hlen) ?_)
  rintro _ ⟨h8, rL2, cap2, ks2, fa2, li2, d, s, rfl, f8, j9, j11, j15, j14⟩
  show wq 115 4 [(0, .ref 0), (1, .int kk), (2, .int ww)] [.ref 60] h8 (0 + d) (0 + s) _
  rw [Nat.zero_add, Nat.zero_add]
  refine wq_gos (f := 1) (pc2 := 7) (ls2 := [(3, .ref 60), (0, .ref 0), (1, .int kk), (2, .int ww)]) (st2 := [.int kk, .ref 60]) (h2 := h8) (dc2 := d) (ds2 := s) 3 rfl ?_
  refine wq_inlv (y2 := 17) (as := [.int kk]) rfl rfl rfl j9 rfl ?_
  show wq 17 0 [(0, .ref 60), (1, .int kk)] [] h8 0 0 _
  refine wq_gos (f := 1) (pc2 := 1) (ls2 := [(0, .ref 60), (1, .int kk)]) (st2 := [.int kk]) (h2 := h8) (dc2 := 0) (ds2 := 0) 1 rfl ?_
  refine wq_lt0t rfl (by omega) ?_
  refine wq_gos (f := 1) (pc2 := 24) (ls2 := [(0, .ref 60), (1, .int kk)]) (st2 := [.int 0]) (h2 := h8) (dc2 := 0) (ds2 := 0) 1 rfl ?_
  refine wq_ret rfl rfl ?_
  show wq 115 10 [(3, .ref 60), (0, .ref 0), (1, .int kk), (2, .int ww)] [.int 0] h8 d s _
  refine wq_gos (f := 1) (pc2 := 15) (ls2 := [(3, .ref 60), (0, .ref 0), (1, .int kk), (2, .int ww)]) (st2 := [.int (-9)]) (h2 := h8) (dc2 := d) (ds2 := s) 2 rfl ?_
  exact wq_ret rfl rfl ⟨h8, d, s, rfl, (wFr_tr (wFr_rf _ _) (wFr_sub f8 (by simp))), by omega, by omega⟩
set_option maxRecDepth 100000 in
set_option maxHeartbeats 4000000 in
theorem m_o14kl0 {h : zH} {fs : List Value} {kk : Int32} (hM : zat h 162 = some (.inr (.inr (.inr (10, fs))))) (hC : mC fs) (c166 : zat h 166 = some (.inl (0, 14, [9, 4, 10, 2, 0, 0, 0, 9, 4, 10, 2, 0, 0, 0]))) (c168 : zat h 168 = some (.inl (0, 12, [0, (-32), (-32), (-32), (-32), (-64), 0, (-32), (-32), (-32), (-32), (-64)]))) (c170 : zat h 170 = some (.inl (0, 12, [99, 31, 31, 31, 31, 63, 99, 31, 31, 31, 31, 63]))) (c190 : zat h 190 = some (.inl (0, 6, [22000000, 0, 10000, 0, 0, 0]))) (c196 : zat h 196 = some (.inr (.inl (6000, [])))) (c200 : zat h 200 = some (.inl (0, 4096, []))) (c202 : zat h 202 = some (.inl (0, 4096, []))) (c204 : zat h 204 = some (.inl (0, 6, []))) (c172 : zat h 172 = some (.inl (0, 12, [4, 4, 4, 4, 4, 4, 4, 4, 4, 4, 4, 4]))) (c188 : zat h 188 = some (.inl (0, 6, [0, 0, 0, 0, 0, 0]))) (c206 : zat h 206 = some (.inl (0, 6, []))) (h33 : fs[33]? = some (.int 0)) (h27 : fs[27]? = some (.int 0)) (hk : kk.toInt < 0) : wq 236 0 [(0, .ref 162), (1, .int kk), (2, .int 0)] [] h 0 0 (fun r => ∃ h2, r = (some (.int (-9)), h2, 0, 0)) := by
  have e_0 : (0 : Int32).toInt = 0 := rfl
  have e6 : (6 : Int32).toInt = 6 := rfl
  have e264 : (264 : Int32).toInt = 264 := rfl
  have e3 : (3 : Int32).toInt = 3 := rfl
  have e4 : (4 : Int32).toInt = 4 := rfl
  have e2 : (2 : Int32).toInt = 2 := rfl
  refine wq_gos (f := 1) (pc2 := 2) (ls2 := [(0, .ref 162), (1, .int kk), (2, .int 0)]) (st2 := [.int 0, .ref 162]) (h2 := h) (dc2 := 0) (ds2 := 0) 2 rfl ?_
  refine wq_putf rfl hM rfl (by rw [hC.1]; rfl) rfl ?_
  intro h1x e2x f3x l4x
  obtain ⟨fs5x, hf6x⟩ : ∃ x, x = fs.set 0 (.int 0) := ⟨_, rfl⟩
  rw [← hf6x] at e2x
  have hC7x : mC fs5x := by rw [hf6x]; exact mC_set hC (by decide) _
  have p8x : fs5x[33]? = some (.int 0) := by rw [hf6x, List.getElem?_set_ne (by decide)]; exact h33
  have p9x : fs5x[27]? = some (.int 0) := by rw [hf6x, List.getElem?_set_ne (by decide)]; exact h27
  have p10x : fs5x[0]? = some (.int 0) := by rw [hf6x]; exact List.getElem?_set_self (by rw [hC.1]; decide)
  refine wq_gos (f := 1) (pc2 := 16) (ls2 := [(0, .ref 162), (1, .int kk), (2, .int 0)]) (st2 := [.int kk, .ref 162]) (h2 := h1x) (dc2 := 0) (ds2 := 0) 7 rfl ?_
  refine wq_inlv (y2 := 230) (as := [.int kk]) rfl rfl rfl e2x rfl ?_
  show wq 230 0 [(0, .ref 162), (1, .int kk)] [] h1x 0 0 _
  refine wq_gos (f := 1) (pc2 := 1) (ls2 := [(0, .ref 162), (1, .int kk)]) (st2 := [.ref 162]) (h2 := h1x) (dc2 := 0) (ds2 := 0) 1 rfl ?_
  have e11x := (f3x.2 _ _ (wnc (by decide) wn0) c166)
  have e12x := (f3x.2 _ _ (wnc (by decide) wn0) c168)
  have e13x := (f3x.2 _ _ (wnc (by decide) wn0) c170)
  have e14x := (f3x.2 _ _ (wnc (by decide) wn0) c190)
  have e15x := (f3x.2 _ _ (wnc (by decide) wn0) c196)
  have e16x := (f3x.2 _ _ (wnc (by decide) wn0) c200)
  have e17x := (f3x.2 _ _ (wnc (by decide) wn0) c202)
  have e18x := (f3x.2 _ _ (wnc (by decide) wn0) c204)
  refine wq_inlv (y2 := 227) (as := []) rfl rfl rfl e2x rfl (wq_mono (m_aim0 e2x hC7x e11x e12x e13x e14x e15x e16x e17x e18x p8x p9x) ?_)
  rintro _ ⟨h8, fs8, fo8, rfl, f8, hM8, hC8, h328, h398, h278, hF8, hfo⟩
  show wq 230 4 [(0, .ref 162), (1, .int kk)] [] h8 0 0 _
  refine wq_gos (f := 1) (pc2 := 5) (ls2 := [(0, .ref 162), (1, .int kk)]) (st2 := [.int kk]) (h2 := h8) (dc2 := 0) (ds2 := 0) 1 rfl ?_
  refine wq_lt0t rfl (by omega) ?_
  refine wq_gos (f := 1) (pc2 := 21) (ls2 := [(0, .ref 162), (1, .int kk)]) (st2 := [.int 0]) (h2 := h8) (dc2 := 0) (ds2 := 0) 1 rfl ?_
  refine wq_ret rfl rfl ?_
  show wq 236 19 [(0, .ref 162), (1, .int kk), (2, .int 0)] [.int 0] h8 0 0 _
  refine wq_gos (f := 1) (pc2 := 24) (ls2 := [(0, .ref 162), (1, .int kk), (2, .int 0)]) (st2 := [.int (-9)]) (h2 := h8) (dc2 := 0) (ds2 := 0) 2 rfl ?_
  exact wq_ret rfl rfl ⟨h8, rfl⟩
set_option maxRecDepth 100000 in
set_option maxHeartbeats 4000000 in
theorem m_o14kl1 {h : zH} {fs : List Value} {kk : Int32} (hM : zat h 162 = some (.inr (.inr (.inr (10, fs))))) (hC : mC fs) (c166 : zat h 166 = some (.inl (0, 14, [9, 4, 10, 2, 0, 0, 0, 9, 4, 10, 2, 0, 0, 0]))) (c168 : zat h 168 = some (.inl (0, 12, [0, (-32), (-32), (-32), (-32), (-64), 0, (-32), (-32), (-32), (-32), (-64)]))) (c170 : zat h 170 = some (.inl (0, 12, [99, 31, 31, 31, 31, 63, 99, 31, 31, 31, 31, 63]))) (c190 : zat h 190 = some (.inl (0, 6, [22000000, 0, 10000, 0, 0, 0]))) (c196 : zat h 196 = some (.inr (.inl (6000, [])))) (c200 : zat h 200 = some (.inl (0, 4096, []))) (c202 : zat h 202 = some (.inl (0, 4096, []))) (c204 : zat h 204 = some (.inl (0, 6, []))) (c172 : zat h 172 = some (.inl (0, 12, [4, 4, 4, 4, 4, 4, 4, 4, 4, 4, 4, 4]))) (c188 : zat h 188 = some (.inl (0, 6, [0, 0, 0, 0, 0, 0]))) (c206 : zat h 206 = some (.inl (0, 6, []))) (h33 : fs[33]? = some (.int 0)) (h27 : fs[27]? = some (.int 0)) (hk : kk.toInt < 0) : wq 236 0 [(0, .ref 162), (1, .int kk), (2, .int 1)] [] h 0 0 (fun r => ∃ h2, r = (some (.int (-9)), h2, 0, 0)) := by
  have e_0 : (0 : Int32).toInt = 0 := rfl
  have e6 : (6 : Int32).toInt = 6 := rfl
  have e264 : (264 : Int32).toInt = 264 := rfl
  have e3 : (3 : Int32).toInt = 3 := rfl
  have e4 : (4 : Int32).toInt = 4 := rfl
  have e2 : (2 : Int32).toInt = 2 := rfl
  refine wq_gos (f := 1) (pc2 := 2) (ls2 := [(0, .ref 162), (1, .int kk), (2, .int 1)]) (st2 := [.int 0, .ref 162]) (h2 := h) (dc2 := 0) (ds2 := 0) 2 rfl ?_
  refine wq_putf rfl hM rfl (by rw [hC.1]; rfl) rfl ?_
  intro h1x e2x f3x l4x
  obtain ⟨fs5x, hf6x⟩ : ∃ x, x = fs.set 0 (.int 0) := ⟨_, rfl⟩
  rw [← hf6x] at e2x
  have hC7x : mC fs5x := by rw [hf6x]; exact mC_set hC (by decide) _
  have p8x : fs5x[33]? = some (.int 0) := by rw [hf6x, List.getElem?_set_ne (by decide)]; exact h33
  have p9x : fs5x[27]? = some (.int 0) := by rw [hf6x, List.getElem?_set_ne (by decide)]; exact h27
  have p10x : fs5x[0]? = some (.int 0) := by rw [hf6x]; exact List.getElem?_set_self (by rw [hC.1]; decide)
  refine wq_gos (f := 1) (pc2 := 16) (ls2 := [(0, .ref 162), (1, .int kk), (2, .int 1)]) (st2 := [.int kk, .ref 162]) (h2 := h1x) (dc2 := 0) (ds2 := 0) 7 rfl ?_
  refine wq_inlv (y2 := 230) (as := [.int kk]) rfl rfl rfl e2x rfl ?_
  show wq 230 0 [(0, .ref 162), (1, .int kk)] [] h1x 0 0 _
  refine wq_gos (f := 1) (pc2 := 1) (ls2 := [(0, .ref 162), (1, .int kk)]) (st2 := [.ref 162]) (h2 := h1x) (dc2 := 0) (ds2 := 0) 1 rfl ?_
  have e11x := (f3x.2 _ _ (wnc (by decide) wn0) c166)
  have e12x := (f3x.2 _ _ (wnc (by decide) wn0) c168)
  have e13x := (f3x.2 _ _ (wnc (by decide) wn0) c170)
  have e14x := (f3x.2 _ _ (wnc (by decide) wn0) c190)
  have e15x := (f3x.2 _ _ (wnc (by decide) wn0) c196)
  have e16x := (f3x.2 _ _ (wnc (by decide) wn0) c200)
  have e17x := (f3x.2 _ _ (wnc (by decide) wn0) c202)
  have e18x := (f3x.2 _ _ (wnc (by decide) wn0) c204)
  refine wq_inlv (y2 := 227) (as := []) rfl rfl rfl e2x rfl (wq_mono (m_aim0 e2x hC7x e11x e12x e13x e14x e15x e16x e17x e18x p8x p9x) ?_)
  rintro _ ⟨h8, fs8, fo8, rfl, f8, hM8, hC8, h328, h398, h278, hF8, hfo⟩
  show wq 230 4 [(0, .ref 162), (1, .int kk)] [] h8 0 0 _
  refine wq_gos (f := 1) (pc2 := 5) (ls2 := [(0, .ref 162), (1, .int kk)]) (st2 := [.int kk]) (h2 := h8) (dc2 := 0) (ds2 := 0) 1 rfl ?_
  refine wq_lt0t rfl (by omega) ?_
  refine wq_gos (f := 1) (pc2 := 21) (ls2 := [(0, .ref 162), (1, .int kk)]) (st2 := [.int 0]) (h2 := h8) (dc2 := 0) (ds2 := 0) 1 rfl ?_
  refine wq_ret rfl rfl ?_
  show wq 236 19 [(0, .ref 162), (1, .int kk), (2, .int 1)] [.int 0] h8 0 0 _
  refine wq_gos (f := 1) (pc2 := 24) (ls2 := [(0, .ref 162), (1, .int kk), (2, .int 1)]) (st2 := [.int (-9)]) (h2 := h8) (dc2 := 0) (ds2 := 0) 2 rfl ?_
  exact wq_ret rfl rfl ⟨h8, rfl⟩
set_option maxRecDepth 100000 in
set_option maxHeartbeats 4000000 in
theorem m_o14kl2 {h : zH} {fs : List Value} {kk : Int32} (hM : zat h 162 = some (.inr (.inr (.inr (10, fs))))) (hC : mC fs) (c166 : zat h 166 = some (.inl (0, 14, [9, 4, 10, 2, 0, 0, 0, 9, 4, 10, 2, 0, 0, 0]))) (c168 : zat h 168 = some (.inl (0, 12, [0, (-32), (-32), (-32), (-32), (-64), 0, (-32), (-32), (-32), (-32), (-64)]))) (c170 : zat h 170 = some (.inl (0, 12, [99, 31, 31, 31, 31, 63, 99, 31, 31, 31, 31, 63]))) (c190 : zat h 190 = some (.inl (0, 6, [22000000, 0, 10000, 0, 0, 0]))) (c196 : zat h 196 = some (.inr (.inl (6000, [])))) (c200 : zat h 200 = some (.inl (0, 4096, []))) (c202 : zat h 202 = some (.inl (0, 4096, []))) (c204 : zat h 204 = some (.inl (0, 6, []))) (c172 : zat h 172 = some (.inl (0, 12, [4, 4, 4, 4, 4, 4, 4, 4, 4, 4, 4, 4]))) (c188 : zat h 188 = some (.inl (0, 6, [0, 0, 0, 0, 0, 0]))) (c206 : zat h 206 = some (.inl (0, 6, []))) (h33 : fs[33]? = some (.int 0)) (h27 : fs[27]? = some (.int 0)) (hk : kk.toInt < 0) : wq 236 0 [(0, .ref 162), (1, .int kk), (2, .int 2)] [] h 0 0 (fun r => ∃ h2, r = (some (.int (-9)), h2, 0, 0)) := by
  have e_0 : (0 : Int32).toInt = 0 := rfl
  have e6 : (6 : Int32).toInt = 6 := rfl
  have e264 : (264 : Int32).toInt = 264 := rfl
  have e3 : (3 : Int32).toInt = 3 := rfl
  have e4 : (4 : Int32).toInt = 4 := rfl
  have e2 : (2 : Int32).toInt = 2 := rfl
  refine wq_gos (f := 1) (pc2 := 2) (ls2 := [(0, .ref 162), (1, .int kk), (2, .int 2)]) (st2 := [.int 0, .ref 162]) (h2 := h) (dc2 := 0) (ds2 := 0) 2 rfl ?_
  refine wq_putf rfl hM rfl (by rw [hC.1]; rfl) rfl ?_
  intro h1x e2x f3x l4x
  obtain ⟨fs5x, hf6x⟩ : ∃ x, x = fs.set 0 (.int 0) := ⟨_, rfl⟩
  rw [← hf6x] at e2x
  have hC7x : mC fs5x := by rw [hf6x]; exact mC_set hC (by decide) _
  have p8x : fs5x[33]? = some (.int 0) := by rw [hf6x, List.getElem?_set_ne (by decide)]; exact h33
  have p9x : fs5x[27]? = some (.int 0) := by rw [hf6x, List.getElem?_set_ne (by decide)]; exact h27
  have p10x : fs5x[0]? = some (.int 0) := by rw [hf6x]; exact List.getElem?_set_self (by rw [hC.1]; decide)
  refine wq_gos (f := 1) (pc2 := 16) (ls2 := [(0, .ref 162), (1, .int kk), (2, .int 2)]) (st2 := [.int kk, .ref 162]) (h2 := h1x) (dc2 := 0) (ds2 := 0) 7 rfl ?_
  refine wq_inlv (y2 := 230) (as := [.int kk]) rfl rfl rfl e2x rfl ?_
  show wq 230 0 [(0, .ref 162), (1, .int kk)] [] h1x 0 0 _
  refine wq_gos (f := 1) (pc2 := 1) (ls2 := [(0, .ref 162), (1, .int kk)]) (st2 := [.ref 162]) (h2 := h1x) (dc2 := 0) (ds2 := 0) 1 rfl ?_
  have e11x := (f3x.2 _ _ (wnc (by decide) wn0) c166)
  have e12x := (f3x.2 _ _ (wnc (by decide) wn0) c168)
  have e13x := (f3x.2 _ _ (wnc (by decide) wn0) c170)
  have e14x := (f3x.2 _ _ (wnc (by decide) wn0) c190)
  have e15x := (f3x.2 _ _ (wnc (by decide) wn0) c196)
  have e16x := (f3x.2 _ _ (wnc (by decide) wn0) c200)
  have e17x := (f3x.2 _ _ (wnc (by decide) wn0) c202)
  have e18x := (f3x.2 _ _ (wnc (by decide) wn0) c204)
  refine wq_inlv (y2 := 227) (as := []) rfl rfl rfl e2x rfl (wq_mono (m_aim0 e2x hC7x e11x e12x e13x e14x e15x e16x e17x e18x p8x p9x) ?_)
  rintro _ ⟨h8, fs8, fo8, rfl, f8, hM8, hC8, h328, h398, h278, hF8, hfo⟩
  show wq 230 4 [(0, .ref 162), (1, .int kk)] [] h8 0 0 _
  refine wq_gos (f := 1) (pc2 := 5) (ls2 := [(0, .ref 162), (1, .int kk)]) (st2 := [.int kk]) (h2 := h8) (dc2 := 0) (ds2 := 0) 1 rfl ?_
  refine wq_lt0t rfl (by omega) ?_
  refine wq_gos (f := 1) (pc2 := 21) (ls2 := [(0, .ref 162), (1, .int kk)]) (st2 := [.int 0]) (h2 := h8) (dc2 := 0) (ds2 := 0) 1 rfl ?_
  refine wq_ret rfl rfl ?_
  show wq 236 19 [(0, .ref 162), (1, .int kk), (2, .int 2)] [.int 0] h8 0 0 _
  refine wq_gos (f := 1) (pc2 := 24) (ls2 := [(0, .ref 162), (1, .int kk), (2, .int 2)]) (st2 := [.int (-9)]) (h2 := h8) (dc2 := 0) (ds2 := 0) 2 rfl ?_
  exact wq_ret rfl rfl ⟨h8, rfl⟩
set_option maxRecDepth 100000 in
set_option maxHeartbeats 4000000 in
theorem m_o14kl3 {h : zH} {fs : List Value} {kk : Int32} (hM : zat h 162 = some (.inr (.inr (.inr (10, fs))))) (hC : mC fs) (c166 : zat h 166 = some (.inl (0, 14, [9, 4, 10, 2, 0, 0, 0, 9, 4, 10, 2, 0, 0, 0]))) (c168 : zat h 168 = some (.inl (0, 12, [0, (-32), (-32), (-32), (-32), (-64), 0, (-32), (-32), (-32), (-32), (-64)]))) (c170 : zat h 170 = some (.inl (0, 12, [99, 31, 31, 31, 31, 63, 99, 31, 31, 31, 31, 63]))) (c190 : zat h 190 = some (.inl (0, 6, [22000000, 0, 10000, 0, 0, 0]))) (c196 : zat h 196 = some (.inr (.inl (6000, [])))) (c200 : zat h 200 = some (.inl (0, 4096, []))) (c202 : zat h 202 = some (.inl (0, 4096, []))) (c204 : zat h 204 = some (.inl (0, 6, []))) (c172 : zat h 172 = some (.inl (0, 12, [4, 4, 4, 4, 4, 4, 4, 4, 4, 4, 4, 4]))) (c188 : zat h 188 = some (.inl (0, 6, [0, 0, 0, 0, 0, 0]))) (c206 : zat h 206 = some (.inl (0, 6, []))) (h33 : fs[33]? = some (.int 0)) (h27 : fs[27]? = some (.int 0)) (hk : kk.toInt < 0) : wq 236 0 [(0, .ref 162), (1, .int kk), (2, .int 3)] [] h 0 0 (fun r => ∃ h2, r = (some (.int (-9)), h2, 0, 0)) := by
  have e_0 : (0 : Int32).toInt = 0 := rfl
  have e6 : (6 : Int32).toInt = 6 := rfl
  have e264 : (264 : Int32).toInt = 264 := rfl
  have e3 : (3 : Int32).toInt = 3 := rfl
  have e4 : (4 : Int32).toInt = 4 := rfl
  have e2 : (2 : Int32).toInt = 2 := rfl
  refine wq_gos (f := 1) (pc2 := 2) (ls2 := [(0, .ref 162), (1, .int kk), (2, .int 3)]) (st2 := [.int 0, .ref 162]) (h2 := h) (dc2 := 0) (ds2 := 0) 2 rfl ?_
  refine wq_putf rfl hM rfl (by rw [hC.1]; rfl) rfl ?_
  intro h1x e2x f3x l4x
  obtain ⟨fs5x, hf6x⟩ : ∃ x, x = fs.set 0 (.int 0) := ⟨_, rfl⟩
  rw [← hf6x] at e2x
  have hC7x : mC fs5x := by rw [hf6x]; exact mC_set hC (by decide) _
  have p8x : fs5x[33]? = some (.int 0) := by rw [hf6x, List.getElem?_set_ne (by decide)]; exact h33
  have p9x : fs5x[27]? = some (.int 0) := by rw [hf6x, List.getElem?_set_ne (by decide)]; exact h27
  have p10x : fs5x[0]? = some (.int 0) := by rw [hf6x]; exact List.getElem?_set_self (by rw [hC.1]; decide)
  refine wq_gos (f := 1) (pc2 := 16) (ls2 := [(0, .ref 162), (1, .int kk), (2, .int 3)]) (st2 := [.int kk, .ref 162]) (h2 := h1x) (dc2 := 0) (ds2 := 0) 7 rfl ?_
  refine wq_inlv (y2 := 230) (as := [.int kk]) rfl rfl rfl e2x rfl ?_
  show wq 230 0 [(0, .ref 162), (1, .int kk)] [] h1x 0 0 _
  refine wq_gos (f := 1) (pc2 := 1) (ls2 := [(0, .ref 162), (1, .int kk)]) (st2 := [.ref 162]) (h2 := h1x) (dc2 := 0) (ds2 := 0) 1 rfl ?_
  have e11x := (f3x.2 _ _ (wnc (by decide) wn0) c166)
  have e12x := (f3x.2 _ _ (wnc (by decide) wn0) c168)
  have e13x := (f3x.2 _ _ (wnc (by decide) wn0) c170)
  have e14x := (f3x.2 _ _ (wnc (by decide) wn0) c190)
  have e15x := (f3x.2 _ _ (wnc (by decide) wn0) c196)
  have e16x := (f3x.2 _ _ (wnc (by decide) wn0) c200)
  have e17x := (f3x.2 _ _ (wnc (by decide) wn0) c202)
  have e18x := (f3x.2 _ _ (wnc (by decide) wn0) c204)
  refine wq_inlv (y2 := 227) (as := []) rfl rfl rfl e2x rfl (wq_mono (m_aim0 e2x hC7x e11x e12x e13x e14x e15x e16x e17x e18x p8x p9x) ?_)
  rintro _ ⟨h8, fs8, fo8, rfl, f8, hM8, hC8, h328, h398, h278, hF8, hfo⟩
  show wq 230 4 [(0, .ref 162), (1, .int kk)] [] h8 0 0 _
  refine wq_gos (f := 1) (pc2 := 5) (ls2 := [(0, .ref 162), (1, .int kk)]) (st2 := [.int kk]) (h2 := h8) (dc2 := 0) (ds2 := 0) 1 rfl ?_
  refine wq_lt0t rfl (by omega) ?_
  refine wq_gos (f := 1) (pc2 := 21) (ls2 := [(0, .ref 162), (1, .int kk)]) (st2 := [.int 0]) (h2 := h8) (dc2 := 0) (ds2 := 0) 1 rfl ?_
  refine wq_ret rfl rfl ?_
  show wq 236 19 [(0, .ref 162), (1, .int kk), (2, .int 3)] [.int 0] h8 0 0 _
  refine wq_gos (f := 1) (pc2 := 24) (ls2 := [(0, .ref 162), (1, .int kk), (2, .int 3)]) (st2 := [.int (-9)]) (h2 := h8) (dc2 := 0) (ds2 := 0) 2 rfl ?_
  exact wq_ret rfl rfl ⟨h8, rfl⟩
set_option maxRecDepth 100000 in
set_option maxHeartbeats 4000000 in
theorem m_o14kl4 {h : zH} {fs : List Value} {kk : Int32} (hM : zat h 162 = some (.inr (.inr (.inr (10, fs))))) (hC : mC fs) (c166 : zat h 166 = some (.inl (0, 14, [9, 4, 10, 2, 0, 0, 0, 9, 4, 10, 2, 0, 0, 0]))) (c168 : zat h 168 = some (.inl (0, 12, [0, (-32), (-32), (-32), (-32), (-64), 0, (-32), (-32), (-32), (-32), (-64)]))) (c170 : zat h 170 = some (.inl (0, 12, [99, 31, 31, 31, 31, 63, 99, 31, 31, 31, 31, 63]))) (c190 : zat h 190 = some (.inl (0, 6, [22000000, 0, 10000, 0, 0, 0]))) (c196 : zat h 196 = some (.inr (.inl (6000, [])))) (c200 : zat h 200 = some (.inl (0, 4096, []))) (c202 : zat h 202 = some (.inl (0, 4096, []))) (c204 : zat h 204 = some (.inl (0, 6, []))) (c172 : zat h 172 = some (.inl (0, 12, [4, 4, 4, 4, 4, 4, 4, 4, 4, 4, 4, 4]))) (c188 : zat h 188 = some (.inl (0, 6, [0, 0, 0, 0, 0, 0]))) (c206 : zat h 206 = some (.inl (0, 6, []))) (h33 : fs[33]? = some (.int 0)) (h27 : fs[27]? = some (.int 0)) (hk : kk.toInt < 0) : wq 236 0 [(0, .ref 162), (1, .int kk), (2, .int 4)] [] h 0 0 (fun r => ∃ h2, r = (some (.int (-9)), h2, 0, 0)) := by
  have e_0 : (0 : Int32).toInt = 0 := rfl
  have e6 : (6 : Int32).toInt = 6 := rfl
  have e264 : (264 : Int32).toInt = 264 := rfl
  have e3 : (3 : Int32).toInt = 3 := rfl
  have e4 : (4 : Int32).toInt = 4 := rfl
  have e2 : (2 : Int32).toInt = 2 := rfl
  refine wq_gos (f := 1) (pc2 := 2) (ls2 := [(0, .ref 162), (1, .int kk), (2, .int 4)]) (st2 := [.int 0, .ref 162]) (h2 := h) (dc2 := 0) (ds2 := 0) 2 rfl ?_
  refine wq_putf rfl hM rfl (by rw [hC.1]; rfl) rfl ?_
  intro h1x e2x f3x l4x
  obtain ⟨fs5x, hf6x⟩ : ∃ x, x = fs.set 0 (.int 0) := ⟨_, rfl⟩
  rw [← hf6x] at e2x
  have hC7x : mC fs5x := by rw [hf6x]; exact mC_set hC (by decide) _
  have p8x : fs5x[33]? = some (.int 0) := by rw [hf6x, List.getElem?_set_ne (by decide)]; exact h33
  have p9x : fs5x[27]? = some (.int 0) := by rw [hf6x, List.getElem?_set_ne (by decide)]; exact h27
  have p10x : fs5x[0]? = some (.int 0) := by rw [hf6x]; exact List.getElem?_set_self (by rw [hC.1]; decide)
  refine wq_gos (f := 1) (pc2 := 16) (ls2 := [(0, .ref 162), (1, .int kk), (2, .int 4)]) (st2 := [.int kk, .ref 162]) (h2 := h1x) (dc2 := 0) (ds2 := 0) 7 rfl ?_
  refine wq_inlv (y2 := 230) (as := [.int kk]) rfl rfl rfl e2x rfl ?_
  show wq 230 0 [(0, .ref 162), (1, .int kk)] [] h1x 0 0 _
  refine wq_gos (f := 1) (pc2 := 1) (ls2 := [(0, .ref 162), (1, .int kk)]) (st2 := [.ref 162]) (h2 := h1x) (dc2 := 0) (ds2 := 0) 1 rfl ?_
  have e11x := (f3x.2 _ _ (wnc (by decide) wn0) c166)
  have e12x := (f3x.2 _ _ (wnc (by decide) wn0) c168)
  have e13x := (f3x.2 _ _ (wnc (by decide) wn0) c170)
  have e14x := (f3x.2 _ _ (wnc (by decide) wn0) c190)
  have e15x := (f3x.2 _ _ (wnc (by decide) wn0) c196)
  have e16x := (f3x.2 _ _ (wnc (by decide) wn0) c200)
  have e17x := (f3x.2 _ _ (wnc (by decide) wn0) c202)
  have e18x := (f3x.2 _ _ (wnc (by decide) wn0) c204)
  refine wq_inlv (y2 := 227) (as := []) rfl rfl rfl e2x rfl (wq_mono (m_aim0 e2x hC7x e11x e12x e13x e14x e15x e16x e17x e18x p8x p9x) ?_)
  rintro _ ⟨h8, fs8, fo8, rfl, f8, hM8, hC8, h328, h398, h278, hF8, hfo⟩
  show wq 230 4 [(0, .ref 162), (1, .int kk)] [] h8 0 0 _
  refine wq_gos (f := 1) (pc2 := 5) (ls2 := [(0, .ref 162), (1, .int kk)]) (st2 := [.int kk]) (h2 := h8) (dc2 := 0) (ds2 := 0) 1 rfl ?_
  refine wq_lt0t rfl (by omega) ?_
  refine wq_gos (f := 1) (pc2 := 21) (ls2 := [(0, .ref 162), (1, .int kk)]) (st2 := [.int 0]) (h2 := h8) (dc2 := 0) (ds2 := 0) 1 rfl ?_
  refine wq_ret rfl rfl ?_
  show wq 236 19 [(0, .ref 162), (1, .int kk), (2, .int 4)] [.int 0] h8 0 0 _
  refine wq_gos (f := 1) (pc2 := 24) (ls2 := [(0, .ref 162), (1, .int kk), (2, .int 4)]) (st2 := [.int (-9)]) (h2 := h8) (dc2 := 0) (ds2 := 0) 2 rfl ?_
  exact wq_ret rfl rfl ⟨h8, rfl⟩
set_option maxRecDepth 100000 in
set_option maxHeartbeats 4000000 in
theorem c_o14kh {h : zH} {kk ww : Int32} (c0 : zat h 0 = some (.inr (.inr (.inr (9, [.ref 2, .int 0, .ref 4, .ref 6, .ref 20, .long 70644700037184, .ref 34, .ref 36, .int 0, .long 0, .ref 42, .ref 44, .ref 60, .ref 66, .ref 72, .ref 74, .ref 150, .ref 158]))))) (c6 : zat h 6 = some (.inr (.inr (.inr (0, [.int 9, .int 4, .int 10, .int 2, .int 0, .long 70644700037184, .ref 8, .ref 10, .ref 12, .int 0, .ref 14, .ref 16, .int 0, .ref 18]))))) (c8 : zat h 8 = some (.inl (0, 6, [0, (-32), (-32), (-32), (-32), (-64)]))) (c10 : zat h 10 = some (.inl (0, 6, [99, 31, 31, 31, 31, 63]))) (c34 : zat h 34 = some (.inl (0, 6, [22000000, 0, 10000, 0, 0, 0]))) (c44 : zat h 44 = some (.inr (.inr (.inr (7, [.null, .null, .ref 46, .int 0, .ref 48, .ref 50, .ref 52, .ref 54, .ref 56, .ref 58]))))) (c46 : zat h 46 = some (.inl (0, 6, []))) (c48 : zat h 48 = some (.inl (0, 128, []))) (c50 : zat h 50 = some (.inl (0, 128, []))) (c52 : zat h 52 = some (.inl (0, 128, []))) (c54 : zat h 54 = some (.inl (0, 128, []))) (c56 : zat h 56 = some (.inl (0, 101, []))) (c58 : zat h 58 = some (.inr (.inl (16, [])))) (c60 : zat h 60 = some (.inr (.inr (.inr (1, [.int 0, .int 0, .ref 62, .ref 64, .int 0, .int 0]))))) (c62 : zat h 62 = some (.inr (.inl (16, [])))) (c64 : zat h 64 = some (.inl (0, 6, []))) (c12 : zat h 12 = some (.inl (0, 6, [4, 4, 4, 4, 4, 4]))) (hlen : 117 ≤ h.length) (hk : 264 ≤ kk.toInt) : wq 115 0 [(0, .ref 0), (1, .int kk), (2, .int ww)] [] h 0 0 (fun r => ∃ (h2 : zH) (d s : Nat), r = (some (.int (-9)), h2, d, s) ∧ wFr [0, 36, 38, 40, 62, 60, 64, 44, 46, 48, 50, 52, 54, 56, 58] h h2 ∧ d ≤ 1200 ∧ s ≤ 720000) := by
  have e_0 : (0 : Int32).toInt = 0 := rfl
  have e6 : (6 : Int32).toInt = 6 := rfl
  have e264 : (264 : Int32).toInt = 264 := rfl
  have e3 : (3 : Int32).toInt = 3 := rfl
  have e4 : (4 : Int32).toInt = 4 := rfl
  have e2 : (2 : Int32).toInt = 2 := rfl
  refine wq_gos (f := 1) (pc2 := 1) (ls2 := [(0, .ref 0), (1, .int kk), (2, .int ww)]) (st2 := [.ref 0]) (h2 := h) (dc2 := 0) (ds2 := 0) 1 rfl ?_
  refine wq_inlv (y2 := 148) (as := []) rfl rfl rfl c0 rfl (wq_mono (c_held0 c0 c6 c8 c10 c34 c44 c46 c48 c50 c52 c54 c56 c58 c60 c62 c64 hlen) ?_)
  rintro _ ⟨h8, rL2, cap2, ks2, fa2, li2, d, s, rfl, f8, j9, j11, j15, j14⟩
  show wq 115 4 [(0, .ref 0), (1, .int kk), (2, .int ww)] [.ref 60] h8 (0 + d) (0 + s) _
  rw [Nat.zero_add, Nat.zero_add]
  refine wq_gos (f := 1) (pc2 := 7) (ls2 := [(3, .ref 60), (0, .ref 0), (1, .int kk), (2, .int ww)]) (st2 := [.int kk, .ref 60]) (h2 := h8) (dc2 := d) (ds2 := s) 3 rfl ?_
  refine wq_inlv (y2 := 17) (as := [.int kk]) rfl rfl rfl j9 rfl ?_
  show wq 17 0 [(0, .ref 60), (1, .int kk)] [] h8 0 0 _
  refine wq_gos (f := 1) (pc2 := 1) (ls2 := [(0, .ref 60), (1, .int kk)]) (st2 := [.int kk]) (h2 := h8) (dc2 := 0) (ds2 := 0) 1 rfl ?_
  refine wq_lt0f rfl rfl (by omega) ?_
  refine wq_gos (f := 1) (pc2 := 6) (ls2 := [(0, .ref 60), (1, .int kk)]) (st2 := [.ref 60, .int kk]) (h2 := h8) (dc2 := 0) (ds2 := 0) 2 rfl ?_
  refine wq_getf rfl j9 rfl rfl ?_
  refine wq_ge2t rfl (by omega) ?_
  refine wq_gos (f := 1) (pc2 := 24) (ls2 := [(0, .ref 60), (1, .int kk)]) (st2 := [.int 0]) (h2 := h8) (dc2 := 0) (ds2 := 0) 1 rfl ?_
  refine wq_ret rfl rfl ?_
  show wq 115 10 [(3, .ref 60), (0, .ref 0), (1, .int kk), (2, .int ww)] [.int 0] h8 d s _
  refine wq_gos (f := 1) (pc2 := 15) (ls2 := [(3, .ref 60), (0, .ref 0), (1, .int kk), (2, .int ww)]) (st2 := [.int (-9)]) (h2 := h8) (dc2 := d) (ds2 := s) 2 rfl ?_
  exact wq_ret rfl rfl ⟨h8, d, s, rfl, (wFr_tr (wFr_rf _ _) (wFr_sub f8 (by simp))), by omega, by omega⟩
set_option maxRecDepth 100000 in
set_option maxHeartbeats 4000000 in
theorem m_o14kh0 {h : zH} {fs : List Value} {kk : Int32} (hM : zat h 162 = some (.inr (.inr (.inr (10, fs))))) (hC : mC fs) (c166 : zat h 166 = some (.inl (0, 14, [9, 4, 10, 2, 0, 0, 0, 9, 4, 10, 2, 0, 0, 0]))) (c168 : zat h 168 = some (.inl (0, 12, [0, (-32), (-32), (-32), (-32), (-64), 0, (-32), (-32), (-32), (-32), (-64)]))) (c170 : zat h 170 = some (.inl (0, 12, [99, 31, 31, 31, 31, 63, 99, 31, 31, 31, 31, 63]))) (c190 : zat h 190 = some (.inl (0, 6, [22000000, 0, 10000, 0, 0, 0]))) (c196 : zat h 196 = some (.inr (.inl (6000, [])))) (c200 : zat h 200 = some (.inl (0, 4096, []))) (c202 : zat h 202 = some (.inl (0, 4096, []))) (c204 : zat h 204 = some (.inl (0, 6, []))) (c172 : zat h 172 = some (.inl (0, 12, [4, 4, 4, 4, 4, 4, 4, 4, 4, 4, 4, 4]))) (c188 : zat h 188 = some (.inl (0, 6, [0, 0, 0, 0, 0, 0]))) (c206 : zat h 206 = some (.inl (0, 6, []))) (h33 : fs[33]? = some (.int 0)) (h27 : fs[27]? = some (.int 0)) (hk : 264 ≤ kk.toInt) : wq 236 0 [(0, .ref 162), (1, .int kk), (2, .int 0)] [] h 0 0 (fun r => ∃ h2, r = (some (.int (-9)), h2, 0, 0)) := by
  have e_0 : (0 : Int32).toInt = 0 := rfl
  have e6 : (6 : Int32).toInt = 6 := rfl
  have e264 : (264 : Int32).toInt = 264 := rfl
  have e3 : (3 : Int32).toInt = 3 := rfl
  have e4 : (4 : Int32).toInt = 4 := rfl
  have e2 : (2 : Int32).toInt = 2 := rfl
  refine wq_gos (f := 1) (pc2 := 2) (ls2 := [(0, .ref 162), (1, .int kk), (2, .int 0)]) (st2 := [.int 0, .ref 162]) (h2 := h) (dc2 := 0) (ds2 := 0) 2 rfl ?_
  refine wq_putf rfl hM rfl (by rw [hC.1]; rfl) rfl ?_
  intro h1x e2x f3x l4x
  obtain ⟨fs5x, hf6x⟩ : ∃ x, x = fs.set 0 (.int 0) := ⟨_, rfl⟩
  rw [← hf6x] at e2x
  have hC7x : mC fs5x := by rw [hf6x]; exact mC_set hC (by decide) _
  have p8x : fs5x[33]? = some (.int 0) := by rw [hf6x, List.getElem?_set_ne (by decide)]; exact h33
  have p9x : fs5x[27]? = some (.int 0) := by rw [hf6x, List.getElem?_set_ne (by decide)]; exact h27
  have p10x : fs5x[0]? = some (.int 0) := by rw [hf6x]; exact List.getElem?_set_self (by rw [hC.1]; decide)
  refine wq_gos (f := 1) (pc2 := 16) (ls2 := [(0, .ref 162), (1, .int kk), (2, .int 0)]) (st2 := [.int kk, .ref 162]) (h2 := h1x) (dc2 := 0) (ds2 := 0) 7 rfl ?_
  refine wq_inlv (y2 := 230) (as := [.int kk]) rfl rfl rfl e2x rfl ?_
  show wq 230 0 [(0, .ref 162), (1, .int kk)] [] h1x 0 0 _
  refine wq_gos (f := 1) (pc2 := 1) (ls2 := [(0, .ref 162), (1, .int kk)]) (st2 := [.ref 162]) (h2 := h1x) (dc2 := 0) (ds2 := 0) 1 rfl ?_
  have e11x := (f3x.2 _ _ (wnc (by decide) wn0) c166)
  have e12x := (f3x.2 _ _ (wnc (by decide) wn0) c168)
  have e13x := (f3x.2 _ _ (wnc (by decide) wn0) c170)
  have e14x := (f3x.2 _ _ (wnc (by decide) wn0) c190)
  have e15x := (f3x.2 _ _ (wnc (by decide) wn0) c196)
  have e16x := (f3x.2 _ _ (wnc (by decide) wn0) c200)
  have e17x := (f3x.2 _ _ (wnc (by decide) wn0) c202)
  have e18x := (f3x.2 _ _ (wnc (by decide) wn0) c204)
  refine wq_inlv (y2 := 227) (as := []) rfl rfl rfl e2x rfl (wq_mono (m_aim0 e2x hC7x e11x e12x e13x e14x e15x e16x e17x e18x p8x p9x) ?_)
  rintro _ ⟨h8, fs8, fo8, rfl, f8, hM8, hC8, h328, h398, h278, hF8, hfo⟩
  show wq 230 4 [(0, .ref 162), (1, .int kk)] [] h8 0 0 _
  refine wq_gos (f := 1) (pc2 := 5) (ls2 := [(0, .ref 162), (1, .int kk)]) (st2 := [.int kk]) (h2 := h8) (dc2 := 0) (ds2 := 0) 1 rfl ?_
  refine wq_lt0f rfl rfl (by omega) ?_
  refine wq_gos (f := 1) (pc2 := 10) (ls2 := [(0, .ref 162), (1, .int kk)]) (st2 := [.ref 162, .int kk]) (h2 := h8) (dc2 := 0) (ds2 := 0) 2 rfl ?_
  refine wq_getf rfl hM8 h328 rfl ?_
  refine wq_ge2t rfl (by omega) ?_
  refine wq_gos (f := 1) (pc2 := 21) (ls2 := [(0, .ref 162), (1, .int kk)]) (st2 := [.int 0]) (h2 := h8) (dc2 := 0) (ds2 := 0) 1 rfl ?_
  refine wq_ret rfl rfl ?_
  show wq 236 19 [(0, .ref 162), (1, .int kk), (2, .int 0)] [.int 0] h8 0 0 _
  refine wq_gos (f := 1) (pc2 := 24) (ls2 := [(0, .ref 162), (1, .int kk), (2, .int 0)]) (st2 := [.int (-9)]) (h2 := h8) (dc2 := 0) (ds2 := 0) 2 rfl ?_
  exact wq_ret rfl rfl ⟨h8, rfl⟩
set_option maxRecDepth 100000 in
set_option maxHeartbeats 4000000 in
theorem m_o14kh1 {h : zH} {fs : List Value} {kk : Int32} (hM : zat h 162 = some (.inr (.inr (.inr (10, fs))))) (hC : mC fs) (c166 : zat h 166 = some (.inl (0, 14, [9, 4, 10, 2, 0, 0, 0, 9, 4, 10, 2, 0, 0, 0]))) (c168 : zat h 168 = some (.inl (0, 12, [0, (-32), (-32), (-32), (-32), (-64), 0, (-32), (-32), (-32), (-32), (-64)]))) (c170 : zat h 170 = some (.inl (0, 12, [99, 31, 31, 31, 31, 63, 99, 31, 31, 31, 31, 63]))) (c190 : zat h 190 = some (.inl (0, 6, [22000000, 0, 10000, 0, 0, 0]))) (c196 : zat h 196 = some (.inr (.inl (6000, [])))) (c200 : zat h 200 = some (.inl (0, 4096, []))) (c202 : zat h 202 = some (.inl (0, 4096, []))) (c204 : zat h 204 = some (.inl (0, 6, []))) (c172 : zat h 172 = some (.inl (0, 12, [4, 4, 4, 4, 4, 4, 4, 4, 4, 4, 4, 4]))) (c188 : zat h 188 = some (.inl (0, 6, [0, 0, 0, 0, 0, 0]))) (c206 : zat h 206 = some (.inl (0, 6, []))) (h33 : fs[33]? = some (.int 0)) (h27 : fs[27]? = some (.int 0)) (hk : 264 ≤ kk.toInt) : wq 236 0 [(0, .ref 162), (1, .int kk), (2, .int 1)] [] h 0 0 (fun r => ∃ h2, r = (some (.int (-9)), h2, 0, 0)) := by
  have e_0 : (0 : Int32).toInt = 0 := rfl
  have e6 : (6 : Int32).toInt = 6 := rfl
  have e264 : (264 : Int32).toInt = 264 := rfl
  have e3 : (3 : Int32).toInt = 3 := rfl
  have e4 : (4 : Int32).toInt = 4 := rfl
  have e2 : (2 : Int32).toInt = 2 := rfl
  refine wq_gos (f := 1) (pc2 := 2) (ls2 := [(0, .ref 162), (1, .int kk), (2, .int 1)]) (st2 := [.int 0, .ref 162]) (h2 := h) (dc2 := 0) (ds2 := 0) 2 rfl ?_
  refine wq_putf rfl hM rfl (by rw [hC.1]; rfl) rfl ?_
  intro h1x e2x f3x l4x
  obtain ⟨fs5x, hf6x⟩ : ∃ x, x = fs.set 0 (.int 0) := ⟨_, rfl⟩
  rw [← hf6x] at e2x
  have hC7x : mC fs5x := by rw [hf6x]; exact mC_set hC (by decide) _
  have p8x : fs5x[33]? = some (.int 0) := by rw [hf6x, List.getElem?_set_ne (by decide)]; exact h33
  have p9x : fs5x[27]? = some (.int 0) := by rw [hf6x, List.getElem?_set_ne (by decide)]; exact h27
  have p10x : fs5x[0]? = some (.int 0) := by rw [hf6x]; exact List.getElem?_set_self (by rw [hC.1]; decide)
  refine wq_gos (f := 1) (pc2 := 16) (ls2 := [(0, .ref 162), (1, .int kk), (2, .int 1)]) (st2 := [.int kk, .ref 162]) (h2 := h1x) (dc2 := 0) (ds2 := 0) 7 rfl ?_
  refine wq_inlv (y2 := 230) (as := [.int kk]) rfl rfl rfl e2x rfl ?_
  show wq 230 0 [(0, .ref 162), (1, .int kk)] [] h1x 0 0 _
  refine wq_gos (f := 1) (pc2 := 1) (ls2 := [(0, .ref 162), (1, .int kk)]) (st2 := [.ref 162]) (h2 := h1x) (dc2 := 0) (ds2 := 0) 1 rfl ?_
  have e11x := (f3x.2 _ _ (wnc (by decide) wn0) c166)
  have e12x := (f3x.2 _ _ (wnc (by decide) wn0) c168)
  have e13x := (f3x.2 _ _ (wnc (by decide) wn0) c170)
  have e14x := (f3x.2 _ _ (wnc (by decide) wn0) c190)
  have e15x := (f3x.2 _ _ (wnc (by decide) wn0) c196)
  have e16x := (f3x.2 _ _ (wnc (by decide) wn0) c200)
  have e17x := (f3x.2 _ _ (wnc (by decide) wn0) c202)
  have e18x := (f3x.2 _ _ (wnc (by decide) wn0) c204)
  refine wq_inlv (y2 := 227) (as := []) rfl rfl rfl e2x rfl (wq_mono (m_aim0 e2x hC7x e11x e12x e13x e14x e15x e16x e17x e18x p8x p9x) ?_)
  rintro _ ⟨h8, fs8, fo8, rfl, f8, hM8, hC8, h328, h398, h278, hF8, hfo⟩
  show wq 230 4 [(0, .ref 162), (1, .int kk)] [] h8 0 0 _
  refine wq_gos (f := 1) (pc2 := 5) (ls2 := [(0, .ref 162), (1, .int kk)]) (st2 := [.int kk]) (h2 := h8) (dc2 := 0) (ds2 := 0) 1 rfl ?_
  refine wq_lt0f rfl rfl (by omega) ?_
  refine wq_gos (f := 1) (pc2 := 10) (ls2 := [(0, .ref 162), (1, .int kk)]) (st2 := [.ref 162, .int kk]) (h2 := h8) (dc2 := 0) (ds2 := 0) 2 rfl ?_
  refine wq_getf rfl hM8 h328 rfl ?_
  refine wq_ge2t rfl (by omega) ?_
  refine wq_gos (f := 1) (pc2 := 21) (ls2 := [(0, .ref 162), (1, .int kk)]) (st2 := [.int 0]) (h2 := h8) (dc2 := 0) (ds2 := 0) 1 rfl ?_
  refine wq_ret rfl rfl ?_
  show wq 236 19 [(0, .ref 162), (1, .int kk), (2, .int 1)] [.int 0] h8 0 0 _
  refine wq_gos (f := 1) (pc2 := 24) (ls2 := [(0, .ref 162), (1, .int kk), (2, .int 1)]) (st2 := [.int (-9)]) (h2 := h8) (dc2 := 0) (ds2 := 0) 2 rfl ?_
  exact wq_ret rfl rfl ⟨h8, rfl⟩
set_option maxRecDepth 100000 in
set_option maxHeartbeats 4000000 in
theorem m_o14kh2 {h : zH} {fs : List Value} {kk : Int32} (hM : zat h 162 = some (.inr (.inr (.inr (10, fs))))) (hC : mC fs) (c166 : zat h 166 = some (.inl (0, 14, [9, 4, 10, 2, 0, 0, 0, 9, 4, 10, 2, 0, 0, 0]))) (c168 : zat h 168 = some (.inl (0, 12, [0, (-32), (-32), (-32), (-32), (-64), 0, (-32), (-32), (-32), (-32), (-64)]))) (c170 : zat h 170 = some (.inl (0, 12, [99, 31, 31, 31, 31, 63, 99, 31, 31, 31, 31, 63]))) (c190 : zat h 190 = some (.inl (0, 6, [22000000, 0, 10000, 0, 0, 0]))) (c196 : zat h 196 = some (.inr (.inl (6000, [])))) (c200 : zat h 200 = some (.inl (0, 4096, []))) (c202 : zat h 202 = some (.inl (0, 4096, []))) (c204 : zat h 204 = some (.inl (0, 6, []))) (c172 : zat h 172 = some (.inl (0, 12, [4, 4, 4, 4, 4, 4, 4, 4, 4, 4, 4, 4]))) (c188 : zat h 188 = some (.inl (0, 6, [0, 0, 0, 0, 0, 0]))) (c206 : zat h 206 = some (.inl (0, 6, []))) (h33 : fs[33]? = some (.int 0)) (h27 : fs[27]? = some (.int 0)) (hk : 264 ≤ kk.toInt) : wq 236 0 [(0, .ref 162), (1, .int kk), (2, .int 2)] [] h 0 0 (fun r => ∃ h2, r = (some (.int (-9)), h2, 0, 0)) := by
  have e_0 : (0 : Int32).toInt = 0 := rfl
  have e6 : (6 : Int32).toInt = 6 := rfl
  have e264 : (264 : Int32).toInt = 264 := rfl
  have e3 : (3 : Int32).toInt = 3 := rfl
  have e4 : (4 : Int32).toInt = 4 := rfl
  have e2 : (2 : Int32).toInt = 2 := rfl
  refine wq_gos (f := 1) (pc2 := 2) (ls2 := [(0, .ref 162), (1, .int kk), (2, .int 2)]) (st2 := [.int 0, .ref 162]) (h2 := h) (dc2 := 0) (ds2 := 0) 2 rfl ?_
  refine wq_putf rfl hM rfl (by rw [hC.1]; rfl) rfl ?_
  intro h1x e2x f3x l4x
  obtain ⟨fs5x, hf6x⟩ : ∃ x, x = fs.set 0 (.int 0) := ⟨_, rfl⟩
  rw [← hf6x] at e2x
  have hC7x : mC fs5x := by rw [hf6x]; exact mC_set hC (by decide) _
  have p8x : fs5x[33]? = some (.int 0) := by rw [hf6x, List.getElem?_set_ne (by decide)]; exact h33
  have p9x : fs5x[27]? = some (.int 0) := by rw [hf6x, List.getElem?_set_ne (by decide)]; exact h27
  have p10x : fs5x[0]? = some (.int 0) := by rw [hf6x]; exact List.getElem?_set_self (by rw [hC.1]; decide)
  refine wq_gos (f := 1) (pc2 := 16) (ls2 := [(0, .ref 162), (1, .int kk), (2, .int 2)]) (st2 := [.int kk, .ref 162]) (h2 := h1x) (dc2 := 0) (ds2 := 0) 7 rfl ?_
  refine wq_inlv (y2 := 230) (as := [.int kk]) rfl rfl rfl e2x rfl ?_
  show wq 230 0 [(0, .ref 162), (1, .int kk)] [] h1x 0 0 _
  refine wq_gos (f := 1) (pc2 := 1) (ls2 := [(0, .ref 162), (1, .int kk)]) (st2 := [.ref 162]) (h2 := h1x) (dc2 := 0) (ds2 := 0) 1 rfl ?_
  have e11x := (f3x.2 _ _ (wnc (by decide) wn0) c166)
  have e12x := (f3x.2 _ _ (wnc (by decide) wn0) c168)
  have e13x := (f3x.2 _ _ (wnc (by decide) wn0) c170)
  have e14x := (f3x.2 _ _ (wnc (by decide) wn0) c190)
  have e15x := (f3x.2 _ _ (wnc (by decide) wn0) c196)
  have e16x := (f3x.2 _ _ (wnc (by decide) wn0) c200)
  have e17x := (f3x.2 _ _ (wnc (by decide) wn0) c202)
  have e18x := (f3x.2 _ _ (wnc (by decide) wn0) c204)
  refine wq_inlv (y2 := 227) (as := []) rfl rfl rfl e2x rfl (wq_mono (m_aim0 e2x hC7x e11x e12x e13x e14x e15x e16x e17x e18x p8x p9x) ?_)
  rintro _ ⟨h8, fs8, fo8, rfl, f8, hM8, hC8, h328, h398, h278, hF8, hfo⟩
  show wq 230 4 [(0, .ref 162), (1, .int kk)] [] h8 0 0 _
  refine wq_gos (f := 1) (pc2 := 5) (ls2 := [(0, .ref 162), (1, .int kk)]) (st2 := [.int kk]) (h2 := h8) (dc2 := 0) (ds2 := 0) 1 rfl ?_
  refine wq_lt0f rfl rfl (by omega) ?_
  refine wq_gos (f := 1) (pc2 := 10) (ls2 := [(0, .ref 162), (1, .int kk)]) (st2 := [.ref 162, .int kk]) (h2 := h8) (dc2 := 0) (ds2 := 0) 2 rfl ?_
  refine wq_getf rfl hM8 h328 rfl ?_
  refine wq_ge2t rfl (by omega) ?_
  refine wq_gos (f := 1) (pc2 := 21) (ls2 := [(0, .ref 162), (1, .int kk)]) (st2 := [.int 0]) (h2 := h8) (dc2 := 0) (ds2 := 0) 1 rfl ?_
  refine wq_ret rfl rfl ?_
  show wq 236 19 [(0, .ref 162), (1, .int kk), (2, .int 2)] [.int 0] h8 0 0 _
  refine wq_gos (f := 1) (pc2 := 24) (ls2 := [(0, .ref 162), (1, .int kk), (2, .int 2)]) (st2 := [.int (-9)]) (h2 := h8) (dc2 := 0) (ds2 := 0) 2 rfl ?_
  exact wq_ret rfl rfl ⟨h8, rfl⟩
set_option maxRecDepth 100000 in
set_option maxHeartbeats 4000000 in
theorem m_o14kh3 {h : zH} {fs : List Value} {kk : Int32} (hM : zat h 162 = some (.inr (.inr (.inr (10, fs))))) (hC : mC fs) (c166 : zat h 166 = some (.inl (0, 14, [9, 4, 10, 2, 0, 0, 0, 9, 4, 10, 2, 0, 0, 0]))) (c168 : zat h 168 = some (.inl (0, 12, [0, (-32), (-32), (-32), (-32), (-64), 0, (-32), (-32), (-32), (-32), (-64)]))) (c170 : zat h 170 = some (.inl (0, 12, [99, 31, 31, 31, 31, 63, 99, 31, 31, 31, 31, 63]))) (c190 : zat h 190 = some (.inl (0, 6, [22000000, 0, 10000, 0, 0, 0]))) (c196 : zat h 196 = some (.inr (.inl (6000, [])))) (c200 : zat h 200 = some (.inl (0, 4096, []))) (c202 : zat h 202 = some (.inl (0, 4096, []))) (c204 : zat h 204 = some (.inl (0, 6, []))) (c172 : zat h 172 = some (.inl (0, 12, [4, 4, 4, 4, 4, 4, 4, 4, 4, 4, 4, 4]))) (c188 : zat h 188 = some (.inl (0, 6, [0, 0, 0, 0, 0, 0]))) (c206 : zat h 206 = some (.inl (0, 6, []))) (h33 : fs[33]? = some (.int 0)) (h27 : fs[27]? = some (.int 0)) (hk : 264 ≤ kk.toInt) : wq 236 0 [(0, .ref 162), (1, .int kk), (2, .int 3)] [] h 0 0 (fun r => ∃ h2, r = (some (.int (-9)), h2, 0, 0)) := by
  have e_0 : (0 : Int32).toInt = 0 := rfl
  have e6 : (6 : Int32).toInt = 6 := rfl
  have e264 : (264 : Int32).toInt = 264 := rfl
  have e3 : (3 : Int32).toInt = 3 := rfl
  have e4 : (4 : Int32).toInt = 4 := rfl
  have e2 : (2 : Int32).toInt = 2 := rfl
  refine wq_gos (f := 1) (pc2 := 2) (ls2 := [(0, .ref 162), (1, .int kk), (2, .int 3)]) (st2 := [.int 0, .ref 162]) (h2 := h) (dc2 := 0) (ds2 := 0) 2 rfl ?_
  refine wq_putf rfl hM rfl (by rw [hC.1]; rfl) rfl ?_
  intro h1x e2x f3x l4x
  obtain ⟨fs5x, hf6x⟩ : ∃ x, x = fs.set 0 (.int 0) := ⟨_, rfl⟩
  rw [← hf6x] at e2x
  have hC7x : mC fs5x := by rw [hf6x]; exact mC_set hC (by decide) _
  have p8x : fs5x[33]? = some (.int 0) := by rw [hf6x, List.getElem?_set_ne (by decide)]; exact h33
  have p9x : fs5x[27]? = some (.int 0) := by rw [hf6x, List.getElem?_set_ne (by decide)]; exact h27
  have p10x : fs5x[0]? = some (.int 0) := by rw [hf6x]; exact List.getElem?_set_self (by rw [hC.1]; decide)
  refine wq_gos (f := 1) (pc2 := 16) (ls2 := [(0, .ref 162), (1, .int kk), (2, .int 3)]) (st2 := [.int kk, .ref 162]) (h2 := h1x) (dc2 := 0) (ds2 := 0) 7 rfl ?_
  refine wq_inlv (y2 := 230) (as := [.int kk]) rfl rfl rfl e2x rfl ?_
  show wq 230 0 [(0, .ref 162), (1, .int kk)] [] h1x 0 0 _
  refine wq_gos (f := 1) (pc2 := 1) (ls2 := [(0, .ref 162), (1, .int kk)]) (st2 := [.ref 162]) (h2 := h1x) (dc2 := 0) (ds2 := 0) 1 rfl ?_
  have e11x := (f3x.2 _ _ (wnc (by decide) wn0) c166)
  have e12x := (f3x.2 _ _ (wnc (by decide) wn0) c168)
  have e13x := (f3x.2 _ _ (wnc (by decide) wn0) c170)
  have e14x := (f3x.2 _ _ (wnc (by decide) wn0) c190)
  have e15x := (f3x.2 _ _ (wnc (by decide) wn0) c196)
  have e16x := (f3x.2 _ _ (wnc (by decide) wn0) c200)
  have e17x := (f3x.2 _ _ (wnc (by decide) wn0) c202)
  have e18x := (f3x.2 _ _ (wnc (by decide) wn0) c204)
  refine wq_inlv (y2 := 227) (as := []) rfl rfl rfl e2x rfl (wq_mono (m_aim0 e2x hC7x e11x e12x e13x e14x e15x e16x e17x e18x p8x p9x) ?_)
  rintro _ ⟨h8, fs8, fo8, rfl, f8, hM8, hC8, h328, h398, h278, hF8, hfo⟩
  show wq 230 4 [(0, .ref 162), (1, .int kk)] [] h8 0 0 _
  refine wq_gos (f := 1) (pc2 := 5) (ls2 := [(0, .ref 162), (1, .int kk)]) (st2 := [.int kk]) (h2 := h8) (dc2 := 0) (ds2 := 0) 1 rfl ?_
  refine wq_lt0f rfl rfl (by omega) ?_
  refine wq_gos (f := 1) (pc2 := 10) (ls2 := [(0, .ref 162), (1, .int kk)]) (st2 := [.ref 162, .int kk]) (h2 := h8) (dc2 := 0) (ds2 := 0) 2 rfl ?_
  refine wq_getf rfl hM8 h328 rfl ?_
  refine wq_ge2t rfl (by omega) ?_
  refine wq_gos (f := 1) (pc2 := 21) (ls2 := [(0, .ref 162), (1, .int kk)]) (st2 := [.int 0]) (h2 := h8) (dc2 := 0) (ds2 := 0) 1 rfl ?_
  refine wq_ret rfl rfl ?_
  show wq 236 19 [(0, .ref 162), (1, .int kk), (2, .int 3)] [.int 0] h8 0 0 _
  refine wq_gos (f := 1) (pc2 := 24) (ls2 := [(0, .ref 162), (1, .int kk), (2, .int 3)]) (st2 := [.int (-9)]) (h2 := h8) (dc2 := 0) (ds2 := 0) 2 rfl ?_
  exact wq_ret rfl rfl ⟨h8, rfl⟩
set_option maxRecDepth 100000 in
set_option maxHeartbeats 4000000 in
theorem m_o14kh4 {h : zH} {fs : List Value} {kk : Int32} (hM : zat h 162 = some (.inr (.inr (.inr (10, fs))))) (hC : mC fs) (c166 : zat h 166 = some (.inl (0, 14, [9, 4, 10, 2, 0, 0, 0, 9, 4, 10, 2, 0, 0, 0]))) (c168 : zat h 168 = some (.inl (0, 12, [0, (-32), (-32), (-32), (-32), (-64), 0, (-32), (-32), (-32), (-32), (-64)]))) (c170 : zat h 170 = some (.inl (0, 12, [99, 31, 31, 31, 31, 63, 99, 31, 31, 31, 31, 63]))) (c190 : zat h 190 = some (.inl (0, 6, [22000000, 0, 10000, 0, 0, 0]))) (c196 : zat h 196 = some (.inr (.inl (6000, [])))) (c200 : zat h 200 = some (.inl (0, 4096, []))) (c202 : zat h 202 = some (.inl (0, 4096, []))) (c204 : zat h 204 = some (.inl (0, 6, []))) (c172 : zat h 172 = some (.inl (0, 12, [4, 4, 4, 4, 4, 4, 4, 4, 4, 4, 4, 4]))) (c188 : zat h 188 = some (.inl (0, 6, [0, 0, 0, 0, 0, 0]))) (c206 : zat h 206 = some (.inl (0, 6, []))) (h33 : fs[33]? = some (.int 0)) (h27 : fs[27]? = some (.int 0)) (hk : 264 ≤ kk.toInt) : wq 236 0 [(0, .ref 162), (1, .int kk), (2, .int 4)] [] h 0 0 (fun r => ∃ h2, r = (some (.int (-9)), h2, 0, 0)) := by
  have e_0 : (0 : Int32).toInt = 0 := rfl
  have e6 : (6 : Int32).toInt = 6 := rfl
  have e264 : (264 : Int32).toInt = 264 := rfl
  have e3 : (3 : Int32).toInt = 3 := rfl
  have e4 : (4 : Int32).toInt = 4 := rfl
  have e2 : (2 : Int32).toInt = 2 := rfl
  refine wq_gos (f := 1) (pc2 := 2) (ls2 := [(0, .ref 162), (1, .int kk), (2, .int 4)]) (st2 := [.int 0, .ref 162]) (h2 := h) (dc2 := 0) (ds2 := 0) 2 rfl ?_
  refine wq_putf rfl hM rfl (by rw [hC.1]; rfl) rfl ?_
  intro h1x e2x f3x l4x
  obtain ⟨fs5x, hf6x⟩ : ∃ x, x = fs.set 0 (.int 0) := ⟨_, rfl⟩
  rw [← hf6x] at e2x
  have hC7x : mC fs5x := by rw [hf6x]; exact mC_set hC (by decide) _
  have p8x : fs5x[33]? = some (.int 0) := by rw [hf6x, List.getElem?_set_ne (by decide)]; exact h33
  have p9x : fs5x[27]? = some (.int 0) := by rw [hf6x, List.getElem?_set_ne (by decide)]; exact h27
  have p10x : fs5x[0]? = some (.int 0) := by rw [hf6x]; exact List.getElem?_set_self (by rw [hC.1]; decide)
  refine wq_gos (f := 1) (pc2 := 16) (ls2 := [(0, .ref 162), (1, .int kk), (2, .int 4)]) (st2 := [.int kk, .ref 162]) (h2 := h1x) (dc2 := 0) (ds2 := 0) 7 rfl ?_
  refine wq_inlv (y2 := 230) (as := [.int kk]) rfl rfl rfl e2x rfl ?_
  show wq 230 0 [(0, .ref 162), (1, .int kk)] [] h1x 0 0 _
  refine wq_gos (f := 1) (pc2 := 1) (ls2 := [(0, .ref 162), (1, .int kk)]) (st2 := [.ref 162]) (h2 := h1x) (dc2 := 0) (ds2 := 0) 1 rfl ?_
  have e11x := (f3x.2 _ _ (wnc (by decide) wn0) c166)
  have e12x := (f3x.2 _ _ (wnc (by decide) wn0) c168)
  have e13x := (f3x.2 _ _ (wnc (by decide) wn0) c170)
  have e14x := (f3x.2 _ _ (wnc (by decide) wn0) c190)
  have e15x := (f3x.2 _ _ (wnc (by decide) wn0) c196)
  have e16x := (f3x.2 _ _ (wnc (by decide) wn0) c200)
  have e17x := (f3x.2 _ _ (wnc (by decide) wn0) c202)
  have e18x := (f3x.2 _ _ (wnc (by decide) wn0) c204)
  refine wq_inlv (y2 := 227) (as := []) rfl rfl rfl e2x rfl (wq_mono (m_aim0 e2x hC7x e11x e12x e13x e14x e15x e16x e17x e18x p8x p9x) ?_)
  rintro _ ⟨h8, fs8, fo8, rfl, f8, hM8, hC8, h328, h398, h278, hF8, hfo⟩
  show wq 230 4 [(0, .ref 162), (1, .int kk)] [] h8 0 0 _
  refine wq_gos (f := 1) (pc2 := 5) (ls2 := [(0, .ref 162), (1, .int kk)]) (st2 := [.int kk]) (h2 := h8) (dc2 := 0) (ds2 := 0) 1 rfl ?_
  refine wq_lt0f rfl rfl (by omega) ?_
  refine wq_gos (f := 1) (pc2 := 10) (ls2 := [(0, .ref 162), (1, .int kk)]) (st2 := [.ref 162, .int kk]) (h2 := h8) (dc2 := 0) (ds2 := 0) 2 rfl ?_
  refine wq_getf rfl hM8 h328 rfl ?_
  refine wq_ge2t rfl (by omega) ?_
  refine wq_gos (f := 1) (pc2 := 21) (ls2 := [(0, .ref 162), (1, .int kk)]) (st2 := [.int 0]) (h2 := h8) (dc2 := 0) (ds2 := 0) 1 rfl ?_
  refine wq_ret rfl rfl ?_
  show wq 236 19 [(0, .ref 162), (1, .int kk), (2, .int 4)] [.int 0] h8 0 0 _
  refine wq_gos (f := 1) (pc2 := 24) (ls2 := [(0, .ref 162), (1, .int kk), (2, .int 4)]) (st2 := [.int (-9)]) (h2 := h8) (dc2 := 0) (ds2 := 0) 2 rfl ?_
  exact wq_ret rfl rfl ⟨h8, rfl⟩
set_option maxRecDepth 100000 in
set_option maxHeartbeats 4000000 in
theorem m_o14wl {h : zH} {fs : List Value} {kk ww : Int32} (hM : zat h 162 = some (.inr (.inr (.inr (10, fs))))) (hC : mC fs) (c166 : zat h 166 = some (.inl (0, 14, [9, 4, 10, 2, 0, 0, 0, 9, 4, 10, 2, 0, 0, 0]))) (c168 : zat h 168 = some (.inl (0, 12, [0, (-32), (-32), (-32), (-32), (-64), 0, (-32), (-32), (-32), (-32), (-64)]))) (c170 : zat h 170 = some (.inl (0, 12, [99, 31, 31, 31, 31, 63, 99, 31, 31, 31, 31, 63]))) (c190 : zat h 190 = some (.inl (0, 6, [22000000, 0, 10000, 0, 0, 0]))) (c196 : zat h 196 = some (.inr (.inl (6000, [])))) (c200 : zat h 200 = some (.inl (0, 4096, []))) (c202 : zat h 202 = some (.inl (0, 4096, []))) (c204 : zat h 204 = some (.inl (0, 6, []))) (c172 : zat h 172 = some (.inl (0, 12, [4, 4, 4, 4, 4, 4, 4, 4, 4, 4, 4, 4]))) (c188 : zat h 188 = some (.inl (0, 6, [0, 0, 0, 0, 0, 0]))) (c206 : zat h 206 = some (.inl (0, 6, []))) (h33 : fs[33]? = some (.int 0)) (h27 : fs[27]? = some (.int 0)) (hw : ww.toInt < 0) : wq 236 0 [(0, .ref 162), (1, .int kk), (2, .int ww)] [] h 0 0 (fun r => ∃ h2, r = (some (.int (-9)), h2, 0, 0)) := by
  have e_0 : (0 : Int32).toInt = 0 := rfl
  have e6 : (6 : Int32).toInt = 6 := rfl
  have e264 : (264 : Int32).toInt = 264 := rfl
  have e3 : (3 : Int32).toInt = 3 := rfl
  have e4 : (4 : Int32).toInt = 4 := rfl
  have e2 : (2 : Int32).toInt = 2 := rfl
  refine wq_gos (f := 1) (pc2 := 2) (ls2 := [(0, .ref 162), (1, .int kk), (2, .int ww)]) (st2 := [.int 0, .ref 162]) (h2 := h) (dc2 := 0) (ds2 := 0) 2 rfl ?_
  refine wq_putf rfl hM rfl (by rw [hC.1]; rfl) rfl ?_
  intro h1x e2x f3x l4x
  obtain ⟨fs5x, hf6x⟩ : ∃ x, x = fs.set 0 (.int 0) := ⟨_, rfl⟩
  rw [← hf6x] at e2x
  have hC7x : mC fs5x := by rw [hf6x]; exact mC_set hC (by decide) _
  have p8x : fs5x[33]? = some (.int 0) := by rw [hf6x, List.getElem?_set_ne (by decide)]; exact h33
  have p9x : fs5x[27]? = some (.int 0) := by rw [hf6x, List.getElem?_set_ne (by decide)]; exact h27
  have p10x : fs5x[0]? = some (.int 0) := by rw [hf6x]; exact List.getElem?_set_self (by rw [hC.1]; decide)
  refine wq_gos (f := 1) (pc2 := 6) (ls2 := [(0, .ref 162), (1, .int kk), (2, .int ww)]) (st2 := [.int ww]) (h2 := h1x) (dc2 := 0) (ds2 := 0) 1 rfl ?_
  refine wq_lt0t rfl (by omega) ?_
  refine wq_gos (f := 1) (pc2 := 24) (ls2 := [(0, .ref 162), (1, .int kk), (2, .int ww)]) (st2 := [.int (-9)]) (h2 := h1x) (dc2 := 0) (ds2 := 0) 1 rfl ?_
  exact wq_ret rfl rfl ⟨h1x, rfl⟩
set_option maxRecDepth 100000 in
set_option maxHeartbeats 4000000 in
theorem c_o14wl {h : zH} {K : Nat} {ww : Int32} (c0 : zat h 0 = some (.inr (.inr (.inr (9, [.ref 2, .int 0, .ref 4, .ref 6, .ref 20, .long 70644700037184, .ref 34, .ref 36, .int 0, .long 0, .ref 42, .ref 44, .ref 60, .ref 66, .ref 72, .ref 74, .ref 150, .ref 158]))))) (c6 : zat h 6 = some (.inr (.inr (.inr (0, [.int 9, .int 4, .int 10, .int 2, .int 0, .long 70644700037184, .ref 8, .ref 10, .ref 12, .int 0, .ref 14, .ref 16, .int 0, .ref 18]))))) (c8 : zat h 8 = some (.inl (0, 6, [0, (-32), (-32), (-32), (-32), (-64)]))) (c10 : zat h 10 = some (.inl (0, 6, [99, 31, 31, 31, 31, 63]))) (c34 : zat h 34 = some (.inl (0, 6, [22000000, 0, 10000, 0, 0, 0]))) (c44 : zat h 44 = some (.inr (.inr (.inr (7, [.null, .null, .ref 46, .int 0, .ref 48, .ref 50, .ref 52, .ref 54, .ref 56, .ref 58]))))) (c46 : zat h 46 = some (.inl (0, 6, []))) (c48 : zat h 48 = some (.inl (0, 128, []))) (c50 : zat h 50 = some (.inl (0, 128, []))) (c52 : zat h 52 = some (.inl (0, 128, []))) (c54 : zat h 54 = some (.inl (0, 128, []))) (c56 : zat h 56 = some (.inl (0, 101, []))) (c58 : zat h 58 = some (.inr (.inl (16, [])))) (c60 : zat h 60 = some (.inr (.inr (.inr (1, [.int 0, .int 0, .ref 62, .ref 64, .int 0, .int 0]))))) (c62 : zat h 62 = some (.inr (.inl (16, [])))) (c64 : zat h 64 = some (.inl (0, 6, []))) (c12 : zat h 12 = some (.inl (0, 6, [4, 4, 4, 4, 4, 4]))) (hlen : 117 ≤ h.length) (hK : K < 264) (hw : ww.toInt < 0) : wq 115 0 [(0, .ref 0), (1, .int (nI K)), (2, .int ww)] [] h 0 0 (fun r => ∃ (h2 : zH) (d s : Nat), r = (some (.int (-9)), h2, d, s) ∧ wFr [0, 36, 38, 40, 62, 60, 64, 44, 46, 48, 50, 52, 54, 56, 58] h h2 ∧ d ≤ 1200 ∧ s ≤ 720000) := by
  have q1 := nI_toInt (n := K) (by omega)
  have e_0 : (0 : Int32).toInt = 0 := rfl
  have e6 : (6 : Int32).toInt = 6 := rfl
  have e264 : (264 : Int32).toInt = 264 := rfl
  have e3 : (3 : Int32).toInt = 3 := rfl
  have e4 : (4 : Int32).toInt = 4 := rfl
  have e2 : (2 : Int32).toInt = 2 := rfl
  refine wq_gos (f := 1) (pc2 := 1) (ls2 := [(0, .ref 0), (1, .int (nI K)), (2, .int ww)]) (st2 := [.ref 0]) (h2 := h) (dc2 := 0) (ds2 := 0) 1 rfl ?_
  refine wq_inlv (y2 := 148) (as := []) rfl rfl rfl c0 rfl (wq_mono (c_held0 c0 c6 c8 c10 c34 c44 c46 c48 c50 c52 c54 c56 c58 c60 c62 c64 hlen) ?_)
  rintro _ ⟨h8, rL2, cap2, ks2, fa2, li2, d, s, rfl, f8, j9, j11, j15, j14⟩
  show wq 115 4 [(0, .ref 0), (1, .int (nI K)), (2, .int ww)] [.ref 60] h8 (0 + d) (0 + s) _
  rw [Nat.zero_add, Nat.zero_add]
  refine wq_gos (f := 1) (pc2 := 7) (ls2 := [(3, .ref 60), (0, .ref 0), (1, .int (nI K)), (2, .int ww)]) (st2 := [.int (nI K), .ref 60]) (h2 := h8) (dc2 := d) (ds2 := s) 3 rfl ?_
  refine wq_inlv (y2 := 17) (as := [.int (nI K)]) rfl rfl rfl j9 rfl ?_
  show wq 17 0 [(0, .ref 60), (1, .int (nI K))] [] h8 0 0 _
  refine wq_gos (f := 1) (pc2 := 1) (ls2 := [(0, .ref 60), (1, .int (nI K))]) (st2 := [.int (nI K)]) (h2 := h8) (dc2 := 0) (ds2 := 0) 1 rfl ?_
  refine wq_lt0f rfl rfl (by omega) ?_
  refine wq_gos (f := 1) (pc2 := 6) (ls2 := [(0, .ref 60), (1, .int (nI K))]) (st2 := [.ref 60, .int (nI K)]) (h2 := h8) (dc2 := 0) (ds2 := 0) 2 rfl ?_
  refine wq_getf rfl j9 rfl rfl ?_
  refine wq_ge2f rfl rfl (by omega) ?_
  refine wq_gos (f := 1) (pc2 := 13) (ls2 := [(0, .ref 60), (1, .int (nI K))]) (st2 := [.ref 60]) (h2 := h8) (dc2 := 0) (ds2 := 0) 1 rfl ?_
  refine wq_inlv (y2 := 16) (as := []) rfl rfl rfl j9 rfl ?_
  show wq 16 0 [(0, .ref 60)] [] h8 0 0 _
  refine wq_gos (f := 1) (pc2 := 1) (ls2 := [(0, .ref 60)]) (st2 := [.ref 60]) (h2 := h8) (dc2 := 0) (ds2 := 0) 1 rfl ?_
  refine wq_getf rfl j9 rfl rfl ?_
  refine wq_gos (f := 1) (pc2 := 15) (ls2 := [(0, .ref 60)]) (st2 := [.int 0]) (h2 := h8) (dc2 := 0) (ds2 := 0) 3 rfl ?_
  refine wq_ret rfl rfl ?_
  show wq 17 16 [(0, .ref 60), (1, .int (nI K))] [.int 0] h8 0 0 _
  refine wq_gos (f := 1) (pc2 := 24) (ls2 := [(0, .ref 60), (1, .int (nI K))]) (st2 := [.int 1]) (h2 := h8) (dc2 := 0) (ds2 := 0) 3 rfl ?_
  refine wq_ret rfl rfl ?_
  show wq 115 10 [(3, .ref 60), (0, .ref 0), (1, .int (nI K)), (2, .int ww)] [.int 1] h8 d s _
  refine wq_gos (f := 1) (pc2 := 17) (ls2 := [(3, .ref 60), (0, .ref 0), (1, .int (nI K)), (2, .int ww)]) (st2 := [.ref 60]) (h2 := h8) (dc2 := d) (ds2 := s) 2 rfl ?_
  refine wq_getf rfl j9 rfl rfl ?_
  refine wq_gos (f := 1) (pc2 := 21) (ls2 := [(3, .ref 60), (0, .ref 0), (1, .int (nI K)), (2, .int ww)]) (st2 := [.int (nI K), .ref rL2]) (h2 := h8) (dc2 := d) (ds2 := s) 1 rfl ?_
  refine wq_laldn rfl j11 (by omega) (by omega) rfl ?_
  refine wq_vl (j15 K hK) ?_
  refine wq_gos (f := 1) (pc2 := 26) (ls2 := [(4, .long (so0.getD K 0)), (3, .ref 60), (0, .ref 0), (1, .int (nI K)), (2, .int ww)]) (st2 := [.int 3, .int ww]) (h2 := h8) (dc2 := d) (ds2 := s) 3 rfl ?_
  refine wq_ne2t rfl (fun q => by rw [q] at hw; exact absurd hw (by decide)) ?_
  refine wq_gos (f := 1) (pc2 := 45) (ls2 := [(4, .long (so0.getD K 0)), (3, .ref 60), (0, .ref 0), (1, .int (nI K)), (2, .int ww)]) (st2 := [.int 4, .int ww]) (h2 := h8) (dc2 := d) (ds2 := s) 2 rfl ?_
  refine wq_ne2t rfl (fun q => by rw [q] at hw; exact absurd hw (by decide)) ?_
  refine wq_gos (f := 1) (pc2 := 69) (ls2 := [(4, .long (so0.getD K 0)), (3, .ref 60), (0, .ref 0), (1, .int (nI K)), (2, .int ww)]) (st2 := [.int ww, .long (so0.getD K 0)]) (h2 := h8) (dc2 := d) (ds2 := s) 2 rfl ?_
  refine wq_inl (y2 := 147) (as := [.long (so0.getD K 0), .int ww]) rfl rfl rfl ?_
  show wq 147 0 [(0, .long (so0.getD K 0)), (2, .int ww)] [] h8 0 0 _
  refine wq_gos (f := 1) (pc2 := 1) (ls2 := [(0, .long (so0.getD K 0)), (2, .int ww)]) (st2 := [.int ww]) (h2 := h8) (dc2 := 0) (ds2 := 0) 1 rfl ?_
  refine wq_tabo rfl (by show ww.toInt < 0 ∨ 2 < ww.toInt; omega) ?_
  refine wq_gos (f := 1) (pc2 := 45) (ls2 := [(0, .long (so0.getD K 0)), (2, .int ww)]) (st2 := [.int (-9)]) (h2 := h8) (dc2 := 0) (ds2 := 0) 1 rfl ?_
  refine wq_ret rfl rfl ?_
  show wq 115 72 [(4, .long (so0.getD K 0)), (3, .ref 60), (0, .ref 0), (1, .int (nI K)), (2, .int ww)] [.int (-9)] h8 d s _
  exact wq_ret rfl rfl ⟨h8, d, s, rfl, (wFr_tr (wFr_rf _ _) (wFr_sub f8 (by simp))), by omega, by omega⟩
set_option maxRecDepth 100000 in
set_option maxHeartbeats 4000000 in
theorem m_o14wh {h : zH} {fs : List Value} {kk ww : Int32} (hM : zat h 162 = some (.inr (.inr (.inr (10, fs))))) (hC : mC fs) (c166 : zat h 166 = some (.inl (0, 14, [9, 4, 10, 2, 0, 0, 0, 9, 4, 10, 2, 0, 0, 0]))) (c168 : zat h 168 = some (.inl (0, 12, [0, (-32), (-32), (-32), (-32), (-64), 0, (-32), (-32), (-32), (-32), (-64)]))) (c170 : zat h 170 = some (.inl (0, 12, [99, 31, 31, 31, 31, 63, 99, 31, 31, 31, 31, 63]))) (c190 : zat h 190 = some (.inl (0, 6, [22000000, 0, 10000, 0, 0, 0]))) (c196 : zat h 196 = some (.inr (.inl (6000, [])))) (c200 : zat h 200 = some (.inl (0, 4096, []))) (c202 : zat h 202 = some (.inl (0, 4096, []))) (c204 : zat h 204 = some (.inl (0, 6, []))) (c172 : zat h 172 = some (.inl (0, 12, [4, 4, 4, 4, 4, 4, 4, 4, 4, 4, 4, 4]))) (c188 : zat h 188 = some (.inl (0, 6, [0, 0, 0, 0, 0, 0]))) (c206 : zat h 206 = some (.inl (0, 6, []))) (h33 : fs[33]? = some (.int 0)) (h27 : fs[27]? = some (.int 0)) (hw : 4 < ww.toInt) : wq 236 0 [(0, .ref 162), (1, .int kk), (2, .int ww)] [] h 0 0 (fun r => ∃ h2, r = (some (.int (-9)), h2, 0, 0)) := by
  have e_0 : (0 : Int32).toInt = 0 := rfl
  have e6 : (6 : Int32).toInt = 6 := rfl
  have e264 : (264 : Int32).toInt = 264 := rfl
  have e3 : (3 : Int32).toInt = 3 := rfl
  have e4 : (4 : Int32).toInt = 4 := rfl
  have e2 : (2 : Int32).toInt = 2 := rfl
  refine wq_gos (f := 1) (pc2 := 2) (ls2 := [(0, .ref 162), (1, .int kk), (2, .int ww)]) (st2 := [.int 0, .ref 162]) (h2 := h) (dc2 := 0) (ds2 := 0) 2 rfl ?_
  refine wq_putf rfl hM rfl (by rw [hC.1]; rfl) rfl ?_
  intro h1x e2x f3x l4x
  obtain ⟨fs5x, hf6x⟩ : ∃ x, x = fs.set 0 (.int 0) := ⟨_, rfl⟩
  rw [← hf6x] at e2x
  have hC7x : mC fs5x := by rw [hf6x]; exact mC_set hC (by decide) _
  have p8x : fs5x[33]? = some (.int 0) := by rw [hf6x, List.getElem?_set_ne (by decide)]; exact h33
  have p9x : fs5x[27]? = some (.int 0) := by rw [hf6x, List.getElem?_set_ne (by decide)]; exact h27
  have p10x : fs5x[0]? = some (.int 0) := by rw [hf6x]; exact List.getElem?_set_self (by rw [hC.1]; decide)
  refine wq_gos (f := 1) (pc2 := 6) (ls2 := [(0, .ref 162), (1, .int kk), (2, .int ww)]) (st2 := [.int ww]) (h2 := h1x) (dc2 := 0) (ds2 := 0) 1 rfl ?_
  refine wq_lt0f rfl rfl (by omega) ?_
  refine wq_gos (f := 1) (pc2 := 11) (ls2 := [(0, .ref 162), (1, .int kk), (2, .int ww)]) (st2 := [.int 4, .int ww]) (h2 := h1x) (dc2 := 0) (ds2 := 0) 2 rfl ?_
  refine wq_gt2t rfl (by omega) ?_
  refine wq_gos (f := 1) (pc2 := 24) (ls2 := [(0, .ref 162), (1, .int kk), (2, .int ww)]) (st2 := [.int (-9)]) (h2 := h1x) (dc2 := 0) (ds2 := 0) 1 rfl ?_
  exact wq_ret rfl rfl ⟨h1x, rfl⟩
set_option maxRecDepth 100000 in
set_option maxHeartbeats 4000000 in
theorem c_o14wh {h : zH} {K : Nat} {ww : Int32} (c0 : zat h 0 = some (.inr (.inr (.inr (9, [.ref 2, .int 0, .ref 4, .ref 6, .ref 20, .long 70644700037184, .ref 34, .ref 36, .int 0, .long 0, .ref 42, .ref 44, .ref 60, .ref 66, .ref 72, .ref 74, .ref 150, .ref 158]))))) (c6 : zat h 6 = some (.inr (.inr (.inr (0, [.int 9, .int 4, .int 10, .int 2, .int 0, .long 70644700037184, .ref 8, .ref 10, .ref 12, .int 0, .ref 14, .ref 16, .int 0, .ref 18]))))) (c8 : zat h 8 = some (.inl (0, 6, [0, (-32), (-32), (-32), (-32), (-64)]))) (c10 : zat h 10 = some (.inl (0, 6, [99, 31, 31, 31, 31, 63]))) (c34 : zat h 34 = some (.inl (0, 6, [22000000, 0, 10000, 0, 0, 0]))) (c44 : zat h 44 = some (.inr (.inr (.inr (7, [.null, .null, .ref 46, .int 0, .ref 48, .ref 50, .ref 52, .ref 54, .ref 56, .ref 58]))))) (c46 : zat h 46 = some (.inl (0, 6, []))) (c48 : zat h 48 = some (.inl (0, 128, []))) (c50 : zat h 50 = some (.inl (0, 128, []))) (c52 : zat h 52 = some (.inl (0, 128, []))) (c54 : zat h 54 = some (.inl (0, 128, []))) (c56 : zat h 56 = some (.inl (0, 101, []))) (c58 : zat h 58 = some (.inr (.inl (16, [])))) (c60 : zat h 60 = some (.inr (.inr (.inr (1, [.int 0, .int 0, .ref 62, .ref 64, .int 0, .int 0]))))) (c62 : zat h 62 = some (.inr (.inl (16, [])))) (c64 : zat h 64 = some (.inl (0, 6, []))) (c12 : zat h 12 = some (.inl (0, 6, [4, 4, 4, 4, 4, 4]))) (hlen : 117 ≤ h.length) (hK : K < 264) (hw : 4 < ww.toInt) : wq 115 0 [(0, .ref 0), (1, .int (nI K)), (2, .int ww)] [] h 0 0 (fun r => ∃ (h2 : zH) (d s : Nat), r = (some (.int (-9)), h2, d, s) ∧ wFr [0, 36, 38, 40, 62, 60, 64, 44, 46, 48, 50, 52, 54, 56, 58] h h2 ∧ d ≤ 1200 ∧ s ≤ 720000) := by
  have q1 := nI_toInt (n := K) (by omega)
  have e_0 : (0 : Int32).toInt = 0 := rfl
  have e6 : (6 : Int32).toInt = 6 := rfl
  have e264 : (264 : Int32).toInt = 264 := rfl
  have e3 : (3 : Int32).toInt = 3 := rfl
  have e4 : (4 : Int32).toInt = 4 := rfl
  have e2 : (2 : Int32).toInt = 2 := rfl
  refine wq_gos (f := 1) (pc2 := 1) (ls2 := [(0, .ref 0), (1, .int (nI K)), (2, .int ww)]) (st2 := [.ref 0]) (h2 := h) (dc2 := 0) (ds2 := 0) 1 rfl ?_
  refine wq_inlv (y2 := 148) (as := []) rfl rfl rfl c0 rfl (wq_mono (c_held0 c0 c6 c8 c10 c34 c44 c46 c48 c50 c52 c54 c56 c58 c60 c62 c64 hlen) ?_)
  rintro _ ⟨h8, rL2, cap2, ks2, fa2, li2, d, s, rfl, f8, j9, j11, j15, j14⟩
  show wq 115 4 [(0, .ref 0), (1, .int (nI K)), (2, .int ww)] [.ref 60] h8 (0 + d) (0 + s) _
  rw [Nat.zero_add, Nat.zero_add]
  refine wq_gos (f := 1) (pc2 := 7) (ls2 := [(3, .ref 60), (0, .ref 0), (1, .int (nI K)), (2, .int ww)]) (st2 := [.int (nI K), .ref 60]) (h2 := h8) (dc2 := d) (ds2 := s) 3 rfl ?_
  refine wq_inlv (y2 := 17) (as := [.int (nI K)]) rfl rfl rfl j9 rfl ?_
  show wq 17 0 [(0, .ref 60), (1, .int (nI K))] [] h8 0 0 _
  refine wq_gos (f := 1) (pc2 := 1) (ls2 := [(0, .ref 60), (1, .int (nI K))]) (st2 := [.int (nI K)]) (h2 := h8) (dc2 := 0) (ds2 := 0) 1 rfl ?_
  refine wq_lt0f rfl rfl (by omega) ?_
  refine wq_gos (f := 1) (pc2 := 6) (ls2 := [(0, .ref 60), (1, .int (nI K))]) (st2 := [.ref 60, .int (nI K)]) (h2 := h8) (dc2 := 0) (ds2 := 0) 2 rfl ?_
  refine wq_getf rfl j9 rfl rfl ?_
  refine wq_ge2f rfl rfl (by omega) ?_
  refine wq_gos (f := 1) (pc2 := 13) (ls2 := [(0, .ref 60), (1, .int (nI K))]) (st2 := [.ref 60]) (h2 := h8) (dc2 := 0) (ds2 := 0) 1 rfl ?_
  refine wq_inlv (y2 := 16) (as := []) rfl rfl rfl j9 rfl ?_
  show wq 16 0 [(0, .ref 60)] [] h8 0 0 _
  refine wq_gos (f := 1) (pc2 := 1) (ls2 := [(0, .ref 60)]) (st2 := [.ref 60]) (h2 := h8) (dc2 := 0) (ds2 := 0) 1 rfl ?_
  refine wq_getf rfl j9 rfl rfl ?_
  refine wq_gos (f := 1) (pc2 := 15) (ls2 := [(0, .ref 60)]) (st2 := [.int 0]) (h2 := h8) (dc2 := 0) (ds2 := 0) 3 rfl ?_
  refine wq_ret rfl rfl ?_
  show wq 17 16 [(0, .ref 60), (1, .int (nI K))] [.int 0] h8 0 0 _
  refine wq_gos (f := 1) (pc2 := 24) (ls2 := [(0, .ref 60), (1, .int (nI K))]) (st2 := [.int 1]) (h2 := h8) (dc2 := 0) (ds2 := 0) 3 rfl ?_
  refine wq_ret rfl rfl ?_
  show wq 115 10 [(3, .ref 60), (0, .ref 0), (1, .int (nI K)), (2, .int ww)] [.int 1] h8 d s _
  refine wq_gos (f := 1) (pc2 := 17) (ls2 := [(3, .ref 60), (0, .ref 0), (1, .int (nI K)), (2, .int ww)]) (st2 := [.ref 60]) (h2 := h8) (dc2 := d) (ds2 := s) 2 rfl ?_
  refine wq_getf rfl j9 rfl rfl ?_
  refine wq_gos (f := 1) (pc2 := 21) (ls2 := [(3, .ref 60), (0, .ref 0), (1, .int (nI K)), (2, .int ww)]) (st2 := [.int (nI K), .ref rL2]) (h2 := h8) (dc2 := d) (ds2 := s) 1 rfl ?_
  refine wq_laldn rfl j11 (by omega) (by omega) rfl ?_
  refine wq_vl (j15 K hK) ?_
  refine wq_gos (f := 1) (pc2 := 26) (ls2 := [(4, .long (so0.getD K 0)), (3, .ref 60), (0, .ref 0), (1, .int (nI K)), (2, .int ww)]) (st2 := [.int 3, .int ww]) (h2 := h8) (dc2 := d) (ds2 := s) 3 rfl ?_
  refine wq_ne2t rfl (fun q => by rw [q] at hw; exact absurd hw (by decide)) ?_
  refine wq_gos (f := 1) (pc2 := 45) (ls2 := [(4, .long (so0.getD K 0)), (3, .ref 60), (0, .ref 0), (1, .int (nI K)), (2, .int ww)]) (st2 := [.int 4, .int ww]) (h2 := h8) (dc2 := d) (ds2 := s) 2 rfl ?_
  refine wq_ne2t rfl (fun q => by rw [q] at hw; exact absurd hw (by decide)) ?_
  refine wq_gos (f := 1) (pc2 := 69) (ls2 := [(4, .long (so0.getD K 0)), (3, .ref 60), (0, .ref 0), (1, .int (nI K)), (2, .int ww)]) (st2 := [.int ww, .long (so0.getD K 0)]) (h2 := h8) (dc2 := d) (ds2 := s) 2 rfl ?_
  refine wq_inl (y2 := 147) (as := [.long (so0.getD K 0), .int ww]) rfl rfl rfl ?_
  show wq 147 0 [(0, .long (so0.getD K 0)), (2, .int ww)] [] h8 0 0 _
  refine wq_gos (f := 1) (pc2 := 1) (ls2 := [(0, .long (so0.getD K 0)), (2, .int ww)]) (st2 := [.int ww]) (h2 := h8) (dc2 := 0) (ds2 := 0) 1 rfl ?_
  refine wq_tabo rfl (by show ww.toInt < 0 ∨ 2 < ww.toInt; omega) ?_
  refine wq_gos (f := 1) (pc2 := 45) (ls2 := [(0, .long (so0.getD K 0)), (2, .int ww)]) (st2 := [.int (-9)]) (h2 := h8) (dc2 := 0) (ds2 := 0) 1 rfl ?_
  refine wq_ret rfl rfl ?_
  show wq 115 72 [(4, .long (so0.getD K 0)), (3, .ref 60), (0, .ref 0), (1, .int (nI K)), (2, .int ww)] [.int (-9)] h8 d s _
  exact wq_ret rfl rfl ⟨h8, d, s, rfl, (wFr_tr (wFr_rf _ _) (wFr_sub f8 (by simp))), by omega, by omega⟩
set_option maxRecDepth 100000 in
theorem wy_eq0 : (List.range 264).all (fun K => decide ((jside (so0.getD K 0)) = (jsg (jsin (mjo1 (ml0.getD K 0)))))) = true := by decide +kernel
theorem wy0 {K : Nat} (hK : K < 264) : (jside (so0.getD K 0)) = (jsg (jsin (mjo1 (ml0.getD K 0)))) := of_decide_eq_true (List.all_eq_true.mp wy_eq0 K (List.mem_range.mpr hK))
set_option maxRecDepth 100000 in
set_option maxHeartbeats 4000000 in
theorem c_o14g0 {h : zH} {K : Nat} (c0 : zat h 0 = some (.inr (.inr (.inr (9, [.ref 2, .int 0, .ref 4, .ref 6, .ref 20, .long 70644700037184, .ref 34, .ref 36, .int 0, .long 0, .ref 42, .ref 44, .ref 60, .ref 66, .ref 72, .ref 74, .ref 150, .ref 158]))))) (c6 : zat h 6 = some (.inr (.inr (.inr (0, [.int 9, .int 4, .int 10, .int 2, .int 0, .long 70644700037184, .ref 8, .ref 10, .ref 12, .int 0, .ref 14, .ref 16, .int 0, .ref 18]))))) (c8 : zat h 8 = some (.inl (0, 6, [0, (-32), (-32), (-32), (-32), (-64)]))) (c10 : zat h 10 = some (.inl (0, 6, [99, 31, 31, 31, 31, 63]))) (c34 : zat h 34 = some (.inl (0, 6, [22000000, 0, 10000, 0, 0, 0]))) (c44 : zat h 44 = some (.inr (.inr (.inr (7, [.null, .null, .ref 46, .int 0, .ref 48, .ref 50, .ref 52, .ref 54, .ref 56, .ref 58]))))) (c46 : zat h 46 = some (.inl (0, 6, []))) (c48 : zat h 48 = some (.inl (0, 128, []))) (c50 : zat h 50 = some (.inl (0, 128, []))) (c52 : zat h 52 = some (.inl (0, 128, []))) (c54 : zat h 54 = some (.inl (0, 128, []))) (c56 : zat h 56 = some (.inl (0, 101, []))) (c58 : zat h 58 = some (.inr (.inl (16, [])))) (c60 : zat h 60 = some (.inr (.inr (.inr (1, [.int 0, .int 0, .ref 62, .ref 64, .int 0, .int 0]))))) (c62 : zat h 62 = some (.inr (.inl (16, [])))) (c64 : zat h 64 = some (.inl (0, 6, []))) (c12 : zat h 12 = some (.inl (0, 6, [4, 4, 4, 4, 4, 4]))) (hlen : 117 ≤ h.length) (hK : K < 264) : wq 115 0 [(0, .ref 0), (1, .int (nI K)), (2, .int 0)] [] h 0 0 (fun r => ∃ (h2 : zH) (d s : Nat), r = (some (.int (jside (so0.getD K 0))), h2, d, s) ∧ wFr [0, 36, 38, 40, 62, 60, 64, 44, 46, 48, 50, 52, 54, 56, 58] h h2 ∧ d ≤ 1200 ∧ s ≤ 720000) := by
  have q1 := nI_toInt (n := K) (by omega)
  have e_0 : (0 : Int32).toInt = 0 := rfl
  have e6 : (6 : Int32).toInt = 6 := rfl
  have e264 : (264 : Int32).toInt = 264 := rfl
  refine wq_gos (f := 1) (pc2 := 1) (ls2 := [(0, .ref 0), (1, .int (nI K)), (2, .int 0)]) (st2 := [.ref 0]) (h2 := h) (dc2 := 0) (ds2 := 0) 1 rfl ?_
  refine wq_inlv (y2 := 148) (as := []) rfl rfl rfl c0 rfl (wq_mono (c_held0 c0 c6 c8 c10 c34 c44 c46 c48 c50 c52 c54 c56 c58 c60 c62 c64 hlen) ?_)
  rintro _ ⟨h8, rL2, cap2, ks2, fa2, li2, d, s, rfl, f8, j9, j11, j15, j14⟩
  show wq 115 4 [(0, .ref 0), (1, .int (nI K)), (2, .int 0)] [.ref 60] h8 (0 + d) (0 + s) _
  rw [Nat.zero_add, Nat.zero_add]
  refine wq_gos (f := 1) (pc2 := 7) (ls2 := [(3, .ref 60), (0, .ref 0), (1, .int (nI K)), (2, .int 0)]) (st2 := [.int (nI K), .ref 60]) (h2 := h8) (dc2 := d) (ds2 := s) 3 rfl ?_
  refine wq_inlv (y2 := 17) (as := [.int (nI K)]) rfl rfl rfl j9 rfl ?_
  show wq 17 0 [(0, .ref 60), (1, .int (nI K))] [] h8 0 0 _
  refine wq_gos (f := 1) (pc2 := 1) (ls2 := [(0, .ref 60), (1, .int (nI K))]) (st2 := [.int (nI K)]) (h2 := h8) (dc2 := 0) (ds2 := 0) 1 rfl ?_
  refine wq_lt0f rfl rfl (by omega) ?_
  refine wq_gos (f := 1) (pc2 := 6) (ls2 := [(0, .ref 60), (1, .int (nI K))]) (st2 := [.ref 60, .int (nI K)]) (h2 := h8) (dc2 := 0) (ds2 := 0) 2 rfl ?_
  refine wq_getf rfl j9 rfl rfl ?_
  refine wq_ge2f rfl rfl (by omega) ?_
  refine wq_gos (f := 1) (pc2 := 13) (ls2 := [(0, .ref 60), (1, .int (nI K))]) (st2 := [.ref 60]) (h2 := h8) (dc2 := 0) (ds2 := 0) 1 rfl ?_
  refine wq_inlv (y2 := 16) (as := []) rfl rfl rfl j9 rfl ?_
  show wq 16 0 [(0, .ref 60)] [] h8 0 0 _
  refine wq_gos (f := 1) (pc2 := 1) (ls2 := [(0, .ref 60)]) (st2 := [.ref 60]) (h2 := h8) (dc2 := 0) (ds2 := 0) 1 rfl ?_
  refine wq_getf rfl j9 rfl rfl ?_
  refine wq_gos (f := 1) (pc2 := 15) (ls2 := [(0, .ref 60)]) (st2 := [.int 0]) (h2 := h8) (dc2 := 0) (ds2 := 0) 3 rfl ?_
  refine wq_ret rfl rfl ?_
  show wq 17 16 [(0, .ref 60), (1, .int (nI K))] [.int 0] h8 0 0 _
  refine wq_gos (f := 1) (pc2 := 24) (ls2 := [(0, .ref 60), (1, .int (nI K))]) (st2 := [.int 1]) (h2 := h8) (dc2 := 0) (ds2 := 0) 3 rfl ?_
  refine wq_ret rfl rfl ?_
  show wq 115 10 [(3, .ref 60), (0, .ref 0), (1, .int (nI K)), (2, .int 0)] [.int 1] h8 d s _
  refine wq_gos (f := 1) (pc2 := 17) (ls2 := [(3, .ref 60), (0, .ref 0), (1, .int (nI K)), (2, .int 0)]) (st2 := [.ref 60]) (h2 := h8) (dc2 := d) (ds2 := s) 2 rfl ?_
  refine wq_getf rfl j9 rfl rfl ?_
  refine wq_gos (f := 1) (pc2 := 21) (ls2 := [(3, .ref 60), (0, .ref 0), (1, .int (nI K)), (2, .int 0)]) (st2 := [.int (nI K), .ref rL2]) (h2 := h8) (dc2 := d) (ds2 := s) 1 rfl ?_
  refine wq_laldn rfl j11 (by omega) (by omega) rfl ?_
  refine wq_vl (j15 K hK) ?_
  refine wq_gos (f := 1) (pc2 := 69) (ls2 := [(4, .long (so0.getD K 0)), (3, .ref 60), (0, .ref 0), (1, .int (nI K)), (2, .int 0)]) (st2 := [.int 0, .long (so0.getD K 0)]) (h2 := h8) (dc2 := d) (ds2 := s) 9 rfl ?_
  refine wq_inl (y2 := 147) (as := [.long (so0.getD K 0), .int 0]) rfl rfl rfl ?_
  show wq 147 0 [(0, .long (so0.getD K 0)), (2, .int 0)] [] h8 0 0 _
  refine wq_gos (f := 1) (pc2 := 29) (ls2 := [(0, .long (so0.getD K 0)), (2, .int 0)]) (st2 := [.long (so0.getD K 0)]) (h2 := h8) (dc2 := 0) (ds2 := 0) 3 rfl ?_
  refine wq_inl (y2 := 35) (as := [.long (so0.getD K 0)]) rfl rfl rfl (wq_T (c_side (so0.getD K 0) h8) ?_)
  show wq 147 32 [(0, .long (so0.getD K 0)), (2, .int 0)] [.int (jside (so0.getD K 0))] h8 0 0 _
  refine wq_ret rfl rfl ?_
  show wq 115 72 [(4, .long (so0.getD K 0)), (3, .ref 60), (0, .ref 0), (1, .int (nI K)), (2, .int 0)] [.int (jside (so0.getD K 0))] h8 d s _
  exact wq_ret rfl rfl ⟨h8, d, s, rfl, (wFr_tr (wFr_rf _ _) (wFr_sub f8 (by simp))), by omega, by omega⟩
set_option maxRecDepth 100000 in
set_option maxHeartbeats 4000000 in
theorem m_o14g0 {h : zH} {fs : List Value} {K : Nat} (hM : zat h 162 = some (.inr (.inr (.inr (10, fs))))) (hC : mC fs) (c166 : zat h 166 = some (.inl (0, 14, [9, 4, 10, 2, 0, 0, 0, 9, 4, 10, 2, 0, 0, 0]))) (c168 : zat h 168 = some (.inl (0, 12, [0, (-32), (-32), (-32), (-32), (-64), 0, (-32), (-32), (-32), (-32), (-64)]))) (c170 : zat h 170 = some (.inl (0, 12, [99, 31, 31, 31, 31, 63, 99, 31, 31, 31, 31, 63]))) (c190 : zat h 190 = some (.inl (0, 6, [22000000, 0, 10000, 0, 0, 0]))) (c196 : zat h 196 = some (.inr (.inl (6000, [])))) (c200 : zat h 200 = some (.inl (0, 4096, []))) (c202 : zat h 202 = some (.inl (0, 4096, []))) (c204 : zat h 204 = some (.inl (0, 6, []))) (c172 : zat h 172 = some (.inl (0, 12, [4, 4, 4, 4, 4, 4, 4, 4, 4, 4, 4, 4]))) (c188 : zat h 188 = some (.inl (0, 6, [0, 0, 0, 0, 0, 0]))) (c206 : zat h 206 = some (.inl (0, 6, []))) (h33 : fs[33]? = some (.int 0)) (h27 : fs[27]? = some (.int 0)) (hK : K < 264) : wq 236 0 [(0, .ref 162), (1, .int (nI K)), (2, .int 0)] [] h 0 0 (fun r => ∃ h2, r = (some (.int (jside (so0.getD K 0))), h2, 0, 0)) := by
  have q1 := nI_toInt (n := K) (by omega)
  have e_0 : (0 : Int32).toInt = 0 := rfl
  have e6 : (6 : Int32).toInt = 6 := rfl
  have e264 : (264 : Int32).toInt = 264 := rfl
  refine wq_gos (f := 1) (pc2 := 2) (ls2 := [(0, .ref 162), (1, .int (nI K)), (2, .int 0)]) (st2 := [.int 0, .ref 162]) (h2 := h) (dc2 := 0) (ds2 := 0) 2 rfl ?_
  refine wq_putf rfl hM rfl (by rw [hC.1]; rfl) rfl ?_
  intro h1x e2x f3x l4x
  obtain ⟨fs5x, hf6x⟩ : ∃ x, x = fs.set 0 (.int 0) := ⟨_, rfl⟩
  rw [← hf6x] at e2x
  have hC7x : mC fs5x := by rw [hf6x]; exact mC_set hC (by decide) _
  have p8x : fs5x[33]? = some (.int 0) := by rw [hf6x, List.getElem?_set_ne (by decide)]; exact h33
  have p9x : fs5x[27]? = some (.int 0) := by rw [hf6x, List.getElem?_set_ne (by decide)]; exact h27
  have p10x : fs5x[0]? = some (.int 0) := by rw [hf6x]; exact List.getElem?_set_self (by rw [hC.1]; decide)
  refine wq_gos (f := 1) (pc2 := 16) (ls2 := [(0, .ref 162), (1, .int (nI K)), (2, .int 0)]) (st2 := [.int (nI K), .ref 162]) (h2 := h1x) (dc2 := 0) (ds2 := 0) 7 rfl ?_
  refine wq_inlv (y2 := 230) (as := [.int (nI K)]) rfl rfl rfl e2x rfl ?_
  show wq 230 0 [(0, .ref 162), (1, .int (nI K))] [] h1x 0 0 _
  refine wq_gos (f := 1) (pc2 := 1) (ls2 := [(0, .ref 162), (1, .int (nI K))]) (st2 := [.ref 162]) (h2 := h1x) (dc2 := 0) (ds2 := 0) 1 rfl ?_
  have e11x := (f3x.2 _ _ (wnc (by decide) wn0) c166)
  have e12x := (f3x.2 _ _ (wnc (by decide) wn0) c168)
  have e13x := (f3x.2 _ _ (wnc (by decide) wn0) c170)
  have e14x := (f3x.2 _ _ (wnc (by decide) wn0) c190)
  have e15x := (f3x.2 _ _ (wnc (by decide) wn0) c196)
  have e16x := (f3x.2 _ _ (wnc (by decide) wn0) c200)
  have e17x := (f3x.2 _ _ (wnc (by decide) wn0) c202)
  have e18x := (f3x.2 _ _ (wnc (by decide) wn0) c204)
  refine wq_inlv (y2 := 227) (as := []) rfl rfl rfl e2x rfl (wq_mono (m_aim0 e2x hC7x e11x e12x e13x e14x e15x e16x e17x e18x p8x p9x) ?_)
  rintro _ ⟨h8, fs8, fo8, rfl, f8, hM8, hC8, h328, h398, h278, hF8, hfo⟩
  show wq 230 4 [(0, .ref 162), (1, .int (nI K))] [] h8 0 0 _
  refine wq_gos (f := 1) (pc2 := 5) (ls2 := [(0, .ref 162), (1, .int (nI K))]) (st2 := [.int (nI K)]) (h2 := h8) (dc2 := 0) (ds2 := 0) 1 rfl ?_
  refine wq_lt0f rfl rfl (by omega) ?_
  refine wq_gos (f := 1) (pc2 := 10) (ls2 := [(0, .ref 162), (1, .int (nI K))]) (st2 := [.ref 162, .int (nI K)]) (h2 := h8) (dc2 := 0) (ds2 := 0) 2 rfl ?_
  refine wq_getf rfl hM8 h328 rfl ?_
  refine wq_ge2f rfl rfl (by omega) ?_
  refine wq_gos (f := 1) (pc2 := 21) (ls2 := [(0, .ref 162), (1, .int (nI K))]) (st2 := [.int 1]) (h2 := h8) (dc2 := 0) (ds2 := 0) 2 rfl ?_
  refine wq_ret rfl rfl ?_
  show wq 236 19 [(0, .ref 162), (1, .int (nI K)), (2, .int 0)] [.int 1] h8 0 0 _
  refine wq_gos (f := 1) (pc2 := 28) (ls2 := [(0, .ref 162), (1, .int (nI K)), (2, .int 0)]) (st2 := [.int (nI K), .ref 162, .ref 162]) (h2 := h8) (dc2 := 0) (ds2 := 0) 4 rfl ?_
  refine wq_inlv (y2 := 228) (as := [.int (nI K)]) rfl rfl rfl hM8 rfl ?_
  show wq 228 0 [(0, .ref 162), (1, .int (nI K))] [] h8 0 0 _
  refine wq_gos (f := 1) (pc2 := 1) (ls2 := [(0, .ref 162), (1, .int (nI K))]) (st2 := [.ref 162]) (h2 := h8) (dc2 := 0) (ds2 := 0) 1 rfl ?_
  refine wq_getf rfl hM8 (hC8.2 (30, 196) (by decide)) rfl ?_
  refine wq_gos (f := 1) (pc2 := 9) (ls2 := [(0, .ref 162), (1, .int (nI K))]) (st2 := [.int ((4800 : Int32) + (nI K)), .ref 196]) (h2 := h8) (dc2 := 0) (ds2 := 0) 3 rfl ?_
  refine wq_vi (show (4800 : Int32) + nI K = nI (4800 + K) from nI_add 4800 K) ?_
  refine wq_laldn rfl hF8 (by omega) (by decide) rfl ?_
  refine wq_vl (hfo K hK) ?_
  refine wq_ret rfl rfl ?_
  show wq 236 31 [(0, .ref 162), (1, .int (nI K)), (2, .int 0)] [.long (ml0.getD K 0), .ref 162] h8 0 0 _
  refine wq_gos (f := 1) (pc2 := 32) (ls2 := [(0, .ref 162), (1, .int (nI K)), (2, .int 0)]) (st2 := [.ref 162, .long (ml0.getD K 0), .ref 162]) (h2 := h8) (dc2 := 0) (ds2 := 0) 1 rfl ?_
  refine wq_getf rfl hM8 (hC8.2 (40, 206) (by decide)) rfl ?_
  refine wq_gos (f := 1) (pc2 := 36) (ls2 := [(0, .ref 162), (1, .int (nI K)), (2, .int 0)]) (st2 := [.int 0, .ref 206, .long (ml0.getD K 0), .ref 162]) (h2 := h8) (dc2 := 0) (ds2 := 0) 1 rfl ?_
  have e19x := (f8.2 _ _ (wnc (by decide) (wnc (by decide) (wnc (by decide) (wnc (by decide) (wnc (by decide) wn0))))) (f3x.2 _ _ (wnc (by decide) wn0) c206))
  refine wq_inlv (y2 := 221) (as := [.long (ml0.getD K 0), .ref 206, .int 0]) rfl rfl rfl hM8 rfl (wq_mono (m_unp (x := (ml0.getD K 0)) hM8 hC8 e19x) ?_)
  rintro _ ⟨h20x, hr21x, rfl, f22x, e23x, u24x, u25x, u26x, u27x, u28x, u29x⟩
  show wq 236 39 [(0, .ref 162), (1, .int (nI K)), (2, .int 0)] [] h20x 0 0 _
  refine wq_gos (f := 1) (pc2 := 49) (ls2 := [(0, .ref 162), (1, .int (nI K)), (2, .int 0)]) (st2 := [.ref 162]) (h2 := h20x) (dc2 := 0) (ds2 := 0) 6 rfl ?_
  have e30x := (f22x.2 _ _ (wnc (by decide) wn0) hM8)
  refine wq_getf rfl e30x (hC8.2 (40, 206) (by decide)) rfl ?_
  refine wq_gos (f := 1) (pc2 := 53) (ls2 := [(0, .ref 162), (1, .int (nI K)), (2, .int 0)]) (st2 := [.int 0, .ref 206]) (h2 := h20x) (dc2 := 0) (ds2 := 0) 1 rfl ?_
  refine wq_inl (y2 := 204) (as := [.ref 206, .int 0]) rfl rfl rfl (wq_T (m_side e23x u24x u25x u26x u27x u28x u29x) ?_)
  show wq 236 56 [(0, .ref 162), (1, .int (nI K)), (2, .int 0)] [.int (jsg (jsin (mjo1 (ml0.getD K 0))))] h20x 0 0 _
  refine wq_gos (f := 1) (pc2 := 67) (ls2 := [(0, .ref 162), (1, .int (nI K)), (2, .int 0)]) (st2 := [.int (jsg (jsin (mjo1 (ml0.getD K 0))))]) (h2 := h20x) (dc2 := 0) (ds2 := 0) 1 rfl ?_
  have hv9 : (jside (so0.getD K 0)) = (jsg (jsin (mjo1 (ml0.getD K 0)))) := wy0 hK
  rw [hv9]
  exact wq_ret rfl rfl ⟨h20x, rfl⟩
set_option maxRecDepth 100000 in
theorem wy_eq1 : (List.range 264).all (fun K => decide ((jbend (so0.getD K 0)) = (jsg (jsin (mjo3 (ml0.getD K 0)))))) = true := by decide +kernel
theorem wy1 {K : Nat} (hK : K < 264) : (jbend (so0.getD K 0)) = (jsg (jsin (mjo3 (ml0.getD K 0)))) := of_decide_eq_true (List.all_eq_true.mp wy_eq1 K (List.mem_range.mpr hK))
set_option maxRecDepth 100000 in
set_option maxHeartbeats 4000000 in
theorem c_o14g1 {h : zH} {K : Nat} (c0 : zat h 0 = some (.inr (.inr (.inr (9, [.ref 2, .int 0, .ref 4, .ref 6, .ref 20, .long 70644700037184, .ref 34, .ref 36, .int 0, .long 0, .ref 42, .ref 44, .ref 60, .ref 66, .ref 72, .ref 74, .ref 150, .ref 158]))))) (c6 : zat h 6 = some (.inr (.inr (.inr (0, [.int 9, .int 4, .int 10, .int 2, .int 0, .long 70644700037184, .ref 8, .ref 10, .ref 12, .int 0, .ref 14, .ref 16, .int 0, .ref 18]))))) (c8 : zat h 8 = some (.inl (0, 6, [0, (-32), (-32), (-32), (-32), (-64)]))) (c10 : zat h 10 = some (.inl (0, 6, [99, 31, 31, 31, 31, 63]))) (c34 : zat h 34 = some (.inl (0, 6, [22000000, 0, 10000, 0, 0, 0]))) (c44 : zat h 44 = some (.inr (.inr (.inr (7, [.null, .null, .ref 46, .int 0, .ref 48, .ref 50, .ref 52, .ref 54, .ref 56, .ref 58]))))) (c46 : zat h 46 = some (.inl (0, 6, []))) (c48 : zat h 48 = some (.inl (0, 128, []))) (c50 : zat h 50 = some (.inl (0, 128, []))) (c52 : zat h 52 = some (.inl (0, 128, []))) (c54 : zat h 54 = some (.inl (0, 128, []))) (c56 : zat h 56 = some (.inl (0, 101, []))) (c58 : zat h 58 = some (.inr (.inl (16, [])))) (c60 : zat h 60 = some (.inr (.inr (.inr (1, [.int 0, .int 0, .ref 62, .ref 64, .int 0, .int 0]))))) (c62 : zat h 62 = some (.inr (.inl (16, [])))) (c64 : zat h 64 = some (.inl (0, 6, []))) (c12 : zat h 12 = some (.inl (0, 6, [4, 4, 4, 4, 4, 4]))) (hlen : 117 ≤ h.length) (hK : K < 264) : wq 115 0 [(0, .ref 0), (1, .int (nI K)), (2, .int 1)] [] h 0 0 (fun r => ∃ (h2 : zH) (d s : Nat), r = (some (.int (jbend (so0.getD K 0))), h2, d, s) ∧ wFr [0, 36, 38, 40, 62, 60, 64, 44, 46, 48, 50, 52, 54, 56, 58] h h2 ∧ d ≤ 1200 ∧ s ≤ 720000) := by
  have q1 := nI_toInt (n := K) (by omega)
  have e_0 : (0 : Int32).toInt = 0 := rfl
  have e6 : (6 : Int32).toInt = 6 := rfl
  have e264 : (264 : Int32).toInt = 264 := rfl
  refine wq_gos (f := 1) (pc2 := 1) (ls2 := [(0, .ref 0), (1, .int (nI K)), (2, .int 1)]) (st2 := [.ref 0]) (h2 := h) (dc2 := 0) (ds2 := 0) 1 rfl ?_
  refine wq_inlv (y2 := 148) (as := []) rfl rfl rfl c0 rfl (wq_mono (c_held0 c0 c6 c8 c10 c34 c44 c46 c48 c50 c52 c54 c56 c58 c60 c62 c64 hlen) ?_)
  rintro _ ⟨h8, rL2, cap2, ks2, fa2, li2, d, s, rfl, f8, j9, j11, j15, j14⟩
  show wq 115 4 [(0, .ref 0), (1, .int (nI K)), (2, .int 1)] [.ref 60] h8 (0 + d) (0 + s) _
  rw [Nat.zero_add, Nat.zero_add]
  refine wq_gos (f := 1) (pc2 := 7) (ls2 := [(3, .ref 60), (0, .ref 0), (1, .int (nI K)), (2, .int 1)]) (st2 := [.int (nI K), .ref 60]) (h2 := h8) (dc2 := d) (ds2 := s) 3 rfl ?_
  refine wq_inlv (y2 := 17) (as := [.int (nI K)]) rfl rfl rfl j9 rfl ?_
  show wq 17 0 [(0, .ref 60), (1, .int (nI K))] [] h8 0 0 _
  refine wq_gos (f := 1) (pc2 := 1) (ls2 := [(0, .ref 60), (1, .int (nI K))]) (st2 := [.int (nI K)]) (h2 := h8) (dc2 := 0) (ds2 := 0) 1 rfl ?_
  refine wq_lt0f rfl rfl (by omega) ?_
  refine wq_gos (f := 1) (pc2 := 6) (ls2 := [(0, .ref 60), (1, .int (nI K))]) (st2 := [.ref 60, .int (nI K)]) (h2 := h8) (dc2 := 0) (ds2 := 0) 2 rfl ?_
  refine wq_getf rfl j9 rfl rfl ?_
  refine wq_ge2f rfl rfl (by omega) ?_
  refine wq_gos (f := 1) (pc2 := 13) (ls2 := [(0, .ref 60), (1, .int (nI K))]) (st2 := [.ref 60]) (h2 := h8) (dc2 := 0) (ds2 := 0) 1 rfl ?_
  refine wq_inlv (y2 := 16) (as := []) rfl rfl rfl j9 rfl ?_
  show wq 16 0 [(0, .ref 60)] [] h8 0 0 _
  refine wq_gos (f := 1) (pc2 := 1) (ls2 := [(0, .ref 60)]) (st2 := [.ref 60]) (h2 := h8) (dc2 := 0) (ds2 := 0) 1 rfl ?_
  refine wq_getf rfl j9 rfl rfl ?_
  refine wq_gos (f := 1) (pc2 := 15) (ls2 := [(0, .ref 60)]) (st2 := [.int 0]) (h2 := h8) (dc2 := 0) (ds2 := 0) 3 rfl ?_
  refine wq_ret rfl rfl ?_
  show wq 17 16 [(0, .ref 60), (1, .int (nI K))] [.int 0] h8 0 0 _
  refine wq_gos (f := 1) (pc2 := 24) (ls2 := [(0, .ref 60), (1, .int (nI K))]) (st2 := [.int 1]) (h2 := h8) (dc2 := 0) (ds2 := 0) 3 rfl ?_
  refine wq_ret rfl rfl ?_
  show wq 115 10 [(3, .ref 60), (0, .ref 0), (1, .int (nI K)), (2, .int 1)] [.int 1] h8 d s _
  refine wq_gos (f := 1) (pc2 := 17) (ls2 := [(3, .ref 60), (0, .ref 0), (1, .int (nI K)), (2, .int 1)]) (st2 := [.ref 60]) (h2 := h8) (dc2 := d) (ds2 := s) 2 rfl ?_
  refine wq_getf rfl j9 rfl rfl ?_
  refine wq_gos (f := 1) (pc2 := 21) (ls2 := [(3, .ref 60), (0, .ref 0), (1, .int (nI K)), (2, .int 1)]) (st2 := [.int (nI K), .ref rL2]) (h2 := h8) (dc2 := d) (ds2 := s) 1 rfl ?_
  refine wq_laldn rfl j11 (by omega) (by omega) rfl ?_
  refine wq_vl (j15 K hK) ?_
  refine wq_gos (f := 1) (pc2 := 69) (ls2 := [(4, .long (so0.getD K 0)), (3, .ref 60), (0, .ref 0), (1, .int (nI K)), (2, .int 1)]) (st2 := [.int 1, .long (so0.getD K 0)]) (h2 := h8) (dc2 := d) (ds2 := s) 9 rfl ?_
  refine wq_inl (y2 := 147) (as := [.long (so0.getD K 0), .int 1]) rfl rfl rfl ?_
  show wq 147 0 [(0, .long (so0.getD K 0)), (2, .int 1)] [] h8 0 0 _
  refine wq_gos (f := 1) (pc2 := 34) (ls2 := [(0, .long (so0.getD K 0)), (2, .int 1)]) (st2 := [.long (so0.getD K 0)]) (h2 := h8) (dc2 := 0) (ds2 := 0) 3 rfl ?_
  refine wq_inl (y2 := 36) (as := [.long (so0.getD K 0)]) rfl rfl rfl (wq_T (c_bend (so0.getD K 0) h8) ?_)
  show wq 147 37 [(0, .long (so0.getD K 0)), (2, .int 1)] [.int (jbend (so0.getD K 0))] h8 0 0 _
  refine wq_ret rfl rfl ?_
  show wq 115 72 [(4, .long (so0.getD K 0)), (3, .ref 60), (0, .ref 0), (1, .int (nI K)), (2, .int 1)] [.int (jbend (so0.getD K 0))] h8 d s _
  exact wq_ret rfl rfl ⟨h8, d, s, rfl, (wFr_tr (wFr_rf _ _) (wFr_sub f8 (by simp))), by omega, by omega⟩
set_option maxRecDepth 100000 in
set_option maxHeartbeats 4000000 in
theorem m_o14g1 {h : zH} {fs : List Value} {K : Nat} (hM : zat h 162 = some (.inr (.inr (.inr (10, fs))))) (hC : mC fs) (c166 : zat h 166 = some (.inl (0, 14, [9, 4, 10, 2, 0, 0, 0, 9, 4, 10, 2, 0, 0, 0]))) (c168 : zat h 168 = some (.inl (0, 12, [0, (-32), (-32), (-32), (-32), (-64), 0, (-32), (-32), (-32), (-32), (-64)]))) (c170 : zat h 170 = some (.inl (0, 12, [99, 31, 31, 31, 31, 63, 99, 31, 31, 31, 31, 63]))) (c190 : zat h 190 = some (.inl (0, 6, [22000000, 0, 10000, 0, 0, 0]))) (c196 : zat h 196 = some (.inr (.inl (6000, [])))) (c200 : zat h 200 = some (.inl (0, 4096, []))) (c202 : zat h 202 = some (.inl (0, 4096, []))) (c204 : zat h 204 = some (.inl (0, 6, []))) (c172 : zat h 172 = some (.inl (0, 12, [4, 4, 4, 4, 4, 4, 4, 4, 4, 4, 4, 4]))) (c188 : zat h 188 = some (.inl (0, 6, [0, 0, 0, 0, 0, 0]))) (c206 : zat h 206 = some (.inl (0, 6, []))) (h33 : fs[33]? = some (.int 0)) (h27 : fs[27]? = some (.int 0)) (hK : K < 264) : wq 236 0 [(0, .ref 162), (1, .int (nI K)), (2, .int 1)] [] h 0 0 (fun r => ∃ h2, r = (some (.int (jbend (so0.getD K 0))), h2, 0, 0)) := by
  have q1 := nI_toInt (n := K) (by omega)
  have e_0 : (0 : Int32).toInt = 0 := rfl
  have e6 : (6 : Int32).toInt = 6 := rfl
  have e264 : (264 : Int32).toInt = 264 := rfl
  refine wq_gos (f := 1) (pc2 := 2) (ls2 := [(0, .ref 162), (1, .int (nI K)), (2, .int 1)]) (st2 := [.int 0, .ref 162]) (h2 := h) (dc2 := 0) (ds2 := 0) 2 rfl ?_
  refine wq_putf rfl hM rfl (by rw [hC.1]; rfl) rfl ?_
  intro h1x e2x f3x l4x
  obtain ⟨fs5x, hf6x⟩ : ∃ x, x = fs.set 0 (.int 0) := ⟨_, rfl⟩
  rw [← hf6x] at e2x
  have hC7x : mC fs5x := by rw [hf6x]; exact mC_set hC (by decide) _
  have p8x : fs5x[33]? = some (.int 0) := by rw [hf6x, List.getElem?_set_ne (by decide)]; exact h33
  have p9x : fs5x[27]? = some (.int 0) := by rw [hf6x, List.getElem?_set_ne (by decide)]; exact h27
  have p10x : fs5x[0]? = some (.int 0) := by rw [hf6x]; exact List.getElem?_set_self (by rw [hC.1]; decide)
  refine wq_gos (f := 1) (pc2 := 16) (ls2 := [(0, .ref 162), (1, .int (nI K)), (2, .int 1)]) (st2 := [.int (nI K), .ref 162]) (h2 := h1x) (dc2 := 0) (ds2 := 0) 7 rfl ?_
  refine wq_inlv (y2 := 230) (as := [.int (nI K)]) rfl rfl rfl e2x rfl ?_
  show wq 230 0 [(0, .ref 162), (1, .int (nI K))] [] h1x 0 0 _
  refine wq_gos (f := 1) (pc2 := 1) (ls2 := [(0, .ref 162), (1, .int (nI K))]) (st2 := [.ref 162]) (h2 := h1x) (dc2 := 0) (ds2 := 0) 1 rfl ?_
  have e11x := (f3x.2 _ _ (wnc (by decide) wn0) c166)
  have e12x := (f3x.2 _ _ (wnc (by decide) wn0) c168)
  have e13x := (f3x.2 _ _ (wnc (by decide) wn0) c170)
  have e14x := (f3x.2 _ _ (wnc (by decide) wn0) c190)
  have e15x := (f3x.2 _ _ (wnc (by decide) wn0) c196)
  have e16x := (f3x.2 _ _ (wnc (by decide) wn0) c200)
  have e17x := (f3x.2 _ _ (wnc (by decide) wn0) c202)
  have e18x := (f3x.2 _ _ (wnc (by decide) wn0) c204)
  refine wq_inlv (y2 := 227) (as := []) rfl rfl rfl e2x rfl (wq_mono (m_aim0 e2x hC7x e11x e12x e13x e14x e15x e16x e17x e18x p8x p9x) ?_)
  rintro _ ⟨h8, fs8, fo8, rfl, f8, hM8, hC8, h328, h398, h278, hF8, hfo⟩
  show wq 230 4 [(0, .ref 162), (1, .int (nI K))] [] h8 0 0 _
  refine wq_gos (f := 1) (pc2 := 5) (ls2 := [(0, .ref 162), (1, .int (nI K))]) (st2 := [.int (nI K)]) (h2 := h8) (dc2 := 0) (ds2 := 0) 1 rfl ?_
  refine wq_lt0f rfl rfl (by omega) ?_
  refine wq_gos (f := 1) (pc2 := 10) (ls2 := [(0, .ref 162), (1, .int (nI K))]) (st2 := [.ref 162, .int (nI K)]) (h2 := h8) (dc2 := 0) (ds2 := 0) 2 rfl ?_
  refine wq_getf rfl hM8 h328 rfl ?_
  refine wq_ge2f rfl rfl (by omega) ?_
  refine wq_gos (f := 1) (pc2 := 21) (ls2 := [(0, .ref 162), (1, .int (nI K))]) (st2 := [.int 1]) (h2 := h8) (dc2 := 0) (ds2 := 0) 2 rfl ?_
  refine wq_ret rfl rfl ?_
  show wq 236 19 [(0, .ref 162), (1, .int (nI K)), (2, .int 1)] [.int 1] h8 0 0 _
  refine wq_gos (f := 1) (pc2 := 28) (ls2 := [(0, .ref 162), (1, .int (nI K)), (2, .int 1)]) (st2 := [.int (nI K), .ref 162, .ref 162]) (h2 := h8) (dc2 := 0) (ds2 := 0) 4 rfl ?_
  refine wq_inlv (y2 := 228) (as := [.int (nI K)]) rfl rfl rfl hM8 rfl ?_
  show wq 228 0 [(0, .ref 162), (1, .int (nI K))] [] h8 0 0 _
  refine wq_gos (f := 1) (pc2 := 1) (ls2 := [(0, .ref 162), (1, .int (nI K))]) (st2 := [.ref 162]) (h2 := h8) (dc2 := 0) (ds2 := 0) 1 rfl ?_
  refine wq_getf rfl hM8 (hC8.2 (30, 196) (by decide)) rfl ?_
  refine wq_gos (f := 1) (pc2 := 9) (ls2 := [(0, .ref 162), (1, .int (nI K))]) (st2 := [.int ((4800 : Int32) + (nI K)), .ref 196]) (h2 := h8) (dc2 := 0) (ds2 := 0) 3 rfl ?_
  refine wq_vi (show (4800 : Int32) + nI K = nI (4800 + K) from nI_add 4800 K) ?_
  refine wq_laldn rfl hF8 (by omega) (by decide) rfl ?_
  refine wq_vl (hfo K hK) ?_
  refine wq_ret rfl rfl ?_
  show wq 236 31 [(0, .ref 162), (1, .int (nI K)), (2, .int 1)] [.long (ml0.getD K 0), .ref 162] h8 0 0 _
  refine wq_gos (f := 1) (pc2 := 32) (ls2 := [(0, .ref 162), (1, .int (nI K)), (2, .int 1)]) (st2 := [.ref 162, .long (ml0.getD K 0), .ref 162]) (h2 := h8) (dc2 := 0) (ds2 := 0) 1 rfl ?_
  refine wq_getf rfl hM8 (hC8.2 (40, 206) (by decide)) rfl ?_
  refine wq_gos (f := 1) (pc2 := 36) (ls2 := [(0, .ref 162), (1, .int (nI K)), (2, .int 1)]) (st2 := [.int 0, .ref 206, .long (ml0.getD K 0), .ref 162]) (h2 := h8) (dc2 := 0) (ds2 := 0) 1 rfl ?_
  have e19x := (f8.2 _ _ (wnc (by decide) (wnc (by decide) (wnc (by decide) (wnc (by decide) (wnc (by decide) wn0))))) (f3x.2 _ _ (wnc (by decide) wn0) c206))
  refine wq_inlv (y2 := 221) (as := [.long (ml0.getD K 0), .ref 206, .int 0]) rfl rfl rfl hM8 rfl (wq_mono (m_unp (x := (ml0.getD K 0)) hM8 hC8 e19x) ?_)
  rintro _ ⟨h20x, hr21x, rfl, f22x, e23x, u24x, u25x, u26x, u27x, u28x, u29x⟩
  show wq 236 39 [(0, .ref 162), (1, .int (nI K)), (2, .int 1)] [] h20x 0 0 _
  refine wq_gos (f := 1) (pc2 := 60) (ls2 := [(0, .ref 162), (1, .int (nI K)), (2, .int 1)]) (st2 := [.ref 162]) (h2 := h20x) (dc2 := 0) (ds2 := 0) 6 rfl ?_
  have e30x := (f22x.2 _ _ (wnc (by decide) wn0) hM8)
  refine wq_getf rfl e30x (hC8.2 (40, 206) (by decide)) rfl ?_
  refine wq_gos (f := 1) (pc2 := 64) (ls2 := [(0, .ref 162), (1, .int (nI K)), (2, .int 1)]) (st2 := [.int 0, .ref 206]) (h2 := h20x) (dc2 := 0) (ds2 := 0) 1 rfl ?_
  refine wq_inl (y2 := 205) (as := [.ref 206, .int 0]) rfl rfl rfl (wq_T (m_bend e23x u24x u25x u26x u27x u28x u29x) ?_)
  show wq 236 67 [(0, .ref 162), (1, .int (nI K)), (2, .int 1)] [.int (jsg (jsin (mjo3 (ml0.getD K 0))))] h20x 0 0 _
  have hv9 : (jbend (so0.getD K 0)) = (jsg (jsin (mjo3 (ml0.getD K 0)))) := wy1 hK
  rw [hv9]
  exact wq_ret rfl rfl ⟨h20x, rfl⟩
set_option maxRecDepth 100000 in
theorem wy_eq2 : (List.range 264).all (fun K => decide ((jmea (so0.getD K 0)) = (jme (mjo1 (ml0.getD K 0)) (mjo3 (ml0.getD K 0))))) = true := by decide +kernel
theorem wy2 {K : Nat} (hK : K < 264) : (jmea (so0.getD K 0)) = (jme (mjo1 (ml0.getD K 0)) (mjo3 (ml0.getD K 0))) := of_decide_eq_true (List.all_eq_true.mp wy_eq2 K (List.mem_range.mpr hK))
set_option maxRecDepth 100000 in
set_option maxHeartbeats 4000000 in
theorem c_o14g2 {h : zH} {K : Nat} (c0 : zat h 0 = some (.inr (.inr (.inr (9, [.ref 2, .int 0, .ref 4, .ref 6, .ref 20, .long 70644700037184, .ref 34, .ref 36, .int 0, .long 0, .ref 42, .ref 44, .ref 60, .ref 66, .ref 72, .ref 74, .ref 150, .ref 158]))))) (c6 : zat h 6 = some (.inr (.inr (.inr (0, [.int 9, .int 4, .int 10, .int 2, .int 0, .long 70644700037184, .ref 8, .ref 10, .ref 12, .int 0, .ref 14, .ref 16, .int 0, .ref 18]))))) (c8 : zat h 8 = some (.inl (0, 6, [0, (-32), (-32), (-32), (-32), (-64)]))) (c10 : zat h 10 = some (.inl (0, 6, [99, 31, 31, 31, 31, 63]))) (c34 : zat h 34 = some (.inl (0, 6, [22000000, 0, 10000, 0, 0, 0]))) (c44 : zat h 44 = some (.inr (.inr (.inr (7, [.null, .null, .ref 46, .int 0, .ref 48, .ref 50, .ref 52, .ref 54, .ref 56, .ref 58]))))) (c46 : zat h 46 = some (.inl (0, 6, []))) (c48 : zat h 48 = some (.inl (0, 128, []))) (c50 : zat h 50 = some (.inl (0, 128, []))) (c52 : zat h 52 = some (.inl (0, 128, []))) (c54 : zat h 54 = some (.inl (0, 128, []))) (c56 : zat h 56 = some (.inl (0, 101, []))) (c58 : zat h 58 = some (.inr (.inl (16, [])))) (c60 : zat h 60 = some (.inr (.inr (.inr (1, [.int 0, .int 0, .ref 62, .ref 64, .int 0, .int 0]))))) (c62 : zat h 62 = some (.inr (.inl (16, [])))) (c64 : zat h 64 = some (.inl (0, 6, []))) (c12 : zat h 12 = some (.inl (0, 6, [4, 4, 4, 4, 4, 4]))) (hlen : 117 ≤ h.length) (hK : K < 264) : wq 115 0 [(0, .ref 0), (1, .int (nI K)), (2, .int 2)] [] h 0 0 (fun r => ∃ (h2 : zH) (d s : Nat), r = (some (.int (jmea (so0.getD K 0))), h2, d, s) ∧ wFr [0, 36, 38, 40, 62, 60, 64, 44, 46, 48, 50, 52, 54, 56, 58] h h2 ∧ d ≤ 1200 ∧ s ≤ 720000) := by
  have q1 := nI_toInt (n := K) (by omega)
  have e_0 : (0 : Int32).toInt = 0 := rfl
  have e6 : (6 : Int32).toInt = 6 := rfl
  have e264 : (264 : Int32).toInt = 264 := rfl
  refine wq_gos (f := 1) (pc2 := 1) (ls2 := [(0, .ref 0), (1, .int (nI K)), (2, .int 2)]) (st2 := [.ref 0]) (h2 := h) (dc2 := 0) (ds2 := 0) 1 rfl ?_
  refine wq_inlv (y2 := 148) (as := []) rfl rfl rfl c0 rfl (wq_mono (c_held0 c0 c6 c8 c10 c34 c44 c46 c48 c50 c52 c54 c56 c58 c60 c62 c64 hlen) ?_)
  rintro _ ⟨h8, rL2, cap2, ks2, fa2, li2, d, s, rfl, f8, j9, j11, j15, j14⟩
  show wq 115 4 [(0, .ref 0), (1, .int (nI K)), (2, .int 2)] [.ref 60] h8 (0 + d) (0 + s) _
  rw [Nat.zero_add, Nat.zero_add]
  refine wq_gos (f := 1) (pc2 := 7) (ls2 := [(3, .ref 60), (0, .ref 0), (1, .int (nI K)), (2, .int 2)]) (st2 := [.int (nI K), .ref 60]) (h2 := h8) (dc2 := d) (ds2 := s) 3 rfl ?_
  refine wq_inlv (y2 := 17) (as := [.int (nI K)]) rfl rfl rfl j9 rfl ?_
  show wq 17 0 [(0, .ref 60), (1, .int (nI K))] [] h8 0 0 _
  refine wq_gos (f := 1) (pc2 := 1) (ls2 := [(0, .ref 60), (1, .int (nI K))]) (st2 := [.int (nI K)]) (h2 := h8) (dc2 := 0) (ds2 := 0) 1 rfl ?_
  refine wq_lt0f rfl rfl (by omega) ?_
  refine wq_gos (f := 1) (pc2 := 6) (ls2 := [(0, .ref 60), (1, .int (nI K))]) (st2 := [.ref 60, .int (nI K)]) (h2 := h8) (dc2 := 0) (ds2 := 0) 2 rfl ?_
  refine wq_getf rfl j9 rfl rfl ?_
  refine wq_ge2f rfl rfl (by omega) ?_
  refine wq_gos (f := 1) (pc2 := 13) (ls2 := [(0, .ref 60), (1, .int (nI K))]) (st2 := [.ref 60]) (h2 := h8) (dc2 := 0) (ds2 := 0) 1 rfl ?_
  refine wq_inlv (y2 := 16) (as := []) rfl rfl rfl j9 rfl ?_
  show wq 16 0 [(0, .ref 60)] [] h8 0 0 _
  refine wq_gos (f := 1) (pc2 := 1) (ls2 := [(0, .ref 60)]) (st2 := [.ref 60]) (h2 := h8) (dc2 := 0) (ds2 := 0) 1 rfl ?_
  refine wq_getf rfl j9 rfl rfl ?_
  refine wq_gos (f := 1) (pc2 := 15) (ls2 := [(0, .ref 60)]) (st2 := [.int 0]) (h2 := h8) (dc2 := 0) (ds2 := 0) 3 rfl ?_
  refine wq_ret rfl rfl ?_
  show wq 17 16 [(0, .ref 60), (1, .int (nI K))] [.int 0] h8 0 0 _
  refine wq_gos (f := 1) (pc2 := 24) (ls2 := [(0, .ref 60), (1, .int (nI K))]) (st2 := [.int 1]) (h2 := h8) (dc2 := 0) (ds2 := 0) 3 rfl ?_
  refine wq_ret rfl rfl ?_
  show wq 115 10 [(3, .ref 60), (0, .ref 0), (1, .int (nI K)), (2, .int 2)] [.int 1] h8 d s _
  refine wq_gos (f := 1) (pc2 := 17) (ls2 := [(3, .ref 60), (0, .ref 0), (1, .int (nI K)), (2, .int 2)]) (st2 := [.ref 60]) (h2 := h8) (dc2 := d) (ds2 := s) 2 rfl ?_
  refine wq_getf rfl j9 rfl rfl ?_
  refine wq_gos (f := 1) (pc2 := 21) (ls2 := [(3, .ref 60), (0, .ref 0), (1, .int (nI K)), (2, .int 2)]) (st2 := [.int (nI K), .ref rL2]) (h2 := h8) (dc2 := d) (ds2 := s) 1 rfl ?_
  refine wq_laldn rfl j11 (by omega) (by omega) rfl ?_
  refine wq_vl (j15 K hK) ?_
  refine wq_gos (f := 1) (pc2 := 69) (ls2 := [(4, .long (so0.getD K 0)), (3, .ref 60), (0, .ref 0), (1, .int (nI K)), (2, .int 2)]) (st2 := [.int 2, .long (so0.getD K 0)]) (h2 := h8) (dc2 := d) (ds2 := s) 9 rfl ?_
  refine wq_inl (y2 := 147) (as := [.long (so0.getD K 0), .int 2]) rfl rfl rfl ?_
  show wq 147 0 [(0, .long (so0.getD K 0)), (2, .int 2)] [] h8 0 0 _
  refine wq_gos (f := 1) (pc2 := 39) (ls2 := [(0, .long (so0.getD K 0)), (2, .int 2)]) (st2 := [.long (so0.getD K 0)]) (h2 := h8) (dc2 := 0) (ds2 := 0) 3 rfl ?_
  refine wq_inl (y2 := 37) (as := [.long (so0.getD K 0)]) rfl rfl rfl (wq_T (c_mea (so0.getD K 0) h8) ?_)
  show wq 147 42 [(0, .long (so0.getD K 0)), (2, .int 2)] [.int (jmea (so0.getD K 0))] h8 0 0 _
  refine wq_ret rfl rfl ?_
  show wq 115 72 [(4, .long (so0.getD K 0)), (3, .ref 60), (0, .ref 0), (1, .int (nI K)), (2, .int 2)] [.int (jmea (so0.getD K 0))] h8 d s _
  exact wq_ret rfl rfl ⟨h8, d, s, rfl, (wFr_tr (wFr_rf _ _) (wFr_sub f8 (by simp))), by omega, by omega⟩
set_option maxRecDepth 100000 in
set_option maxHeartbeats 4000000 in
theorem m_o14g2 {h : zH} {fs : List Value} {K : Nat} (hM : zat h 162 = some (.inr (.inr (.inr (10, fs))))) (hC : mC fs) (c166 : zat h 166 = some (.inl (0, 14, [9, 4, 10, 2, 0, 0, 0, 9, 4, 10, 2, 0, 0, 0]))) (c168 : zat h 168 = some (.inl (0, 12, [0, (-32), (-32), (-32), (-32), (-64), 0, (-32), (-32), (-32), (-32), (-64)]))) (c170 : zat h 170 = some (.inl (0, 12, [99, 31, 31, 31, 31, 63, 99, 31, 31, 31, 31, 63]))) (c190 : zat h 190 = some (.inl (0, 6, [22000000, 0, 10000, 0, 0, 0]))) (c196 : zat h 196 = some (.inr (.inl (6000, [])))) (c200 : zat h 200 = some (.inl (0, 4096, []))) (c202 : zat h 202 = some (.inl (0, 4096, []))) (c204 : zat h 204 = some (.inl (0, 6, []))) (c172 : zat h 172 = some (.inl (0, 12, [4, 4, 4, 4, 4, 4, 4, 4, 4, 4, 4, 4]))) (c188 : zat h 188 = some (.inl (0, 6, [0, 0, 0, 0, 0, 0]))) (c206 : zat h 206 = some (.inl (0, 6, []))) (h33 : fs[33]? = some (.int 0)) (h27 : fs[27]? = some (.int 0)) (hK : K < 264) : wq 236 0 [(0, .ref 162), (1, .int (nI K)), (2, .int 2)] [] h 0 0 (fun r => ∃ h2, r = (some (.int (jmea (so0.getD K 0))), h2, 0, 0)) := by
  have q1 := nI_toInt (n := K) (by omega)
  have e_0 : (0 : Int32).toInt = 0 := rfl
  have e6 : (6 : Int32).toInt = 6 := rfl
  have e264 : (264 : Int32).toInt = 264 := rfl
  refine wq_gos (f := 1) (pc2 := 2) (ls2 := [(0, .ref 162), (1, .int (nI K)), (2, .int 2)]) (st2 := [.int 0, .ref 162]) (h2 := h) (dc2 := 0) (ds2 := 0) 2 rfl ?_
  refine wq_putf rfl hM rfl (by rw [hC.1]; rfl) rfl ?_
  intro h1x e2x f3x l4x
  obtain ⟨fs5x, hf6x⟩ : ∃ x, x = fs.set 0 (.int 0) := ⟨_, rfl⟩
  rw [← hf6x] at e2x
  have hC7x : mC fs5x := by rw [hf6x]; exact mC_set hC (by decide) _
  have p8x : fs5x[33]? = some (.int 0) := by rw [hf6x, List.getElem?_set_ne (by decide)]; exact h33
  have p9x : fs5x[27]? = some (.int 0) := by rw [hf6x, List.getElem?_set_ne (by decide)]; exact h27
  have p10x : fs5x[0]? = some (.int 0) := by rw [hf6x]; exact List.getElem?_set_self (by rw [hC.1]; decide)
  refine wq_gos (f := 1) (pc2 := 16) (ls2 := [(0, .ref 162), (1, .int (nI K)), (2, .int 2)]) (st2 := [.int (nI K), .ref 162]) (h2 := h1x) (dc2 := 0) (ds2 := 0) 7 rfl ?_
  refine wq_inlv (y2 := 230) (as := [.int (nI K)]) rfl rfl rfl e2x rfl ?_
  show wq 230 0 [(0, .ref 162), (1, .int (nI K))] [] h1x 0 0 _
  refine wq_gos (f := 1) (pc2 := 1) (ls2 := [(0, .ref 162), (1, .int (nI K))]) (st2 := [.ref 162]) (h2 := h1x) (dc2 := 0) (ds2 := 0) 1 rfl ?_
  have e11x := (f3x.2 _ _ (wnc (by decide) wn0) c166)
  have e12x := (f3x.2 _ _ (wnc (by decide) wn0) c168)
  have e13x := (f3x.2 _ _ (wnc (by decide) wn0) c170)
  have e14x := (f3x.2 _ _ (wnc (by decide) wn0) c190)
  have e15x := (f3x.2 _ _ (wnc (by decide) wn0) c196)
  have e16x := (f3x.2 _ _ (wnc (by decide) wn0) c200)
  have e17x := (f3x.2 _ _ (wnc (by decide) wn0) c202)
  have e18x := (f3x.2 _ _ (wnc (by decide) wn0) c204)
  refine wq_inlv (y2 := 227) (as := []) rfl rfl rfl e2x rfl (wq_mono (m_aim0 e2x hC7x e11x e12x e13x e14x e15x e16x e17x e18x p8x p9x) ?_)
  rintro _ ⟨h8, fs8, fo8, rfl, f8, hM8, hC8, h328, h398, h278, hF8, hfo⟩
  show wq 230 4 [(0, .ref 162), (1, .int (nI K))] [] h8 0 0 _
  refine wq_gos (f := 1) (pc2 := 5) (ls2 := [(0, .ref 162), (1, .int (nI K))]) (st2 := [.int (nI K)]) (h2 := h8) (dc2 := 0) (ds2 := 0) 1 rfl ?_
  refine wq_lt0f rfl rfl (by omega) ?_
  refine wq_gos (f := 1) (pc2 := 10) (ls2 := [(0, .ref 162), (1, .int (nI K))]) (st2 := [.ref 162, .int (nI K)]) (h2 := h8) (dc2 := 0) (ds2 := 0) 2 rfl ?_
  refine wq_getf rfl hM8 h328 rfl ?_
  refine wq_ge2f rfl rfl (by omega) ?_
  refine wq_gos (f := 1) (pc2 := 21) (ls2 := [(0, .ref 162), (1, .int (nI K))]) (st2 := [.int 1]) (h2 := h8) (dc2 := 0) (ds2 := 0) 2 rfl ?_
  refine wq_ret rfl rfl ?_
  show wq 236 19 [(0, .ref 162), (1, .int (nI K)), (2, .int 2)] [.int 1] h8 0 0 _
  refine wq_gos (f := 1) (pc2 := 28) (ls2 := [(0, .ref 162), (1, .int (nI K)), (2, .int 2)]) (st2 := [.int (nI K), .ref 162, .ref 162]) (h2 := h8) (dc2 := 0) (ds2 := 0) 4 rfl ?_
  refine wq_inlv (y2 := 228) (as := [.int (nI K)]) rfl rfl rfl hM8 rfl ?_
  show wq 228 0 [(0, .ref 162), (1, .int (nI K))] [] h8 0 0 _
  refine wq_gos (f := 1) (pc2 := 1) (ls2 := [(0, .ref 162), (1, .int (nI K))]) (st2 := [.ref 162]) (h2 := h8) (dc2 := 0) (ds2 := 0) 1 rfl ?_
  refine wq_getf rfl hM8 (hC8.2 (30, 196) (by decide)) rfl ?_
  refine wq_gos (f := 1) (pc2 := 9) (ls2 := [(0, .ref 162), (1, .int (nI K))]) (st2 := [.int ((4800 : Int32) + (nI K)), .ref 196]) (h2 := h8) (dc2 := 0) (ds2 := 0) 3 rfl ?_
  refine wq_vi (show (4800 : Int32) + nI K = nI (4800 + K) from nI_add 4800 K) ?_
  refine wq_laldn rfl hF8 (by omega) (by decide) rfl ?_
  refine wq_vl (hfo K hK) ?_
  refine wq_ret rfl rfl ?_
  show wq 236 31 [(0, .ref 162), (1, .int (nI K)), (2, .int 2)] [.long (ml0.getD K 0), .ref 162] h8 0 0 _
  refine wq_gos (f := 1) (pc2 := 32) (ls2 := [(0, .ref 162), (1, .int (nI K)), (2, .int 2)]) (st2 := [.ref 162, .long (ml0.getD K 0), .ref 162]) (h2 := h8) (dc2 := 0) (ds2 := 0) 1 rfl ?_
  refine wq_getf rfl hM8 (hC8.2 (40, 206) (by decide)) rfl ?_
  refine wq_gos (f := 1) (pc2 := 36) (ls2 := [(0, .ref 162), (1, .int (nI K)), (2, .int 2)]) (st2 := [.int 0, .ref 206, .long (ml0.getD K 0), .ref 162]) (h2 := h8) (dc2 := 0) (ds2 := 0) 1 rfl ?_
  have e19x := (f8.2 _ _ (wnc (by decide) (wnc (by decide) (wnc (by decide) (wnc (by decide) (wnc (by decide) wn0))))) (f3x.2 _ _ (wnc (by decide) wn0) c206))
  refine wq_inlv (y2 := 221) (as := [.long (ml0.getD K 0), .ref 206, .int 0]) rfl rfl rfl hM8 rfl (wq_mono (m_unp (x := (ml0.getD K 0)) hM8 hC8 e19x) ?_)
  rintro _ ⟨h20x, hr21x, rfl, f22x, e23x, u24x, u25x, u26x, u27x, u28x, u29x⟩
  show wq 236 39 [(0, .ref 162), (1, .int (nI K)), (2, .int 2)] [] h20x 0 0 _
  refine wq_gos (f := 1) (pc2 := 74) (ls2 := [(0, .ref 162), (1, .int (nI K)), (2, .int 2)]) (st2 := [.ref 162]) (h2 := h20x) (dc2 := 0) (ds2 := 0) 7 rfl ?_
  have e30x := (f22x.2 _ _ (wnc (by decide) wn0) hM8)
  refine wq_getf rfl e30x (hC8.2 (40, 206) (by decide)) rfl ?_
  refine wq_gos (f := 1) (pc2 := 78) (ls2 := [(0, .ref 162), (1, .int (nI K)), (2, .int 2)]) (st2 := [.int 0, .ref 206]) (h2 := h20x) (dc2 := 0) (ds2 := 0) 1 rfl ?_
  refine wq_inl (y2 := 206) (as := [.ref 206, .int 0]) rfl rfl rfl (wq_T (m_mea e23x u24x u25x u26x u27x u28x u29x) ?_)
  show wq 236 81 [(0, .ref 162), (1, .int (nI K)), (2, .int 2)] [.int (jme (mjo1 (ml0.getD K 0)) (mjo3 (ml0.getD K 0)))] h20x 0 0 _
  have hv9 : (jmea (so0.getD K 0)) = (jme (mjo1 (ml0.getD K 0)) (mjo3 (ml0.getD K 0))) := wy2 hK
  rw [hv9]
  exact wq_ret rfl rfl ⟨h20x, rfl⟩
set_option maxRecDepth 100000 in
theorem wy_eq3 : (List.range 264).all (fun K => decide ((jtks 70644700037184 (so0.getD K 0)) = (mtks (mjo0 (ml0.getD K 0)) (mjo1 (ml0.getD K 0)) (mjo2 (ml0.getD K 0)) (mjo3 (ml0.getD K 0)) (mjo4 (ml0.getD K 0)) (mjo5 (ml0.getD K 0))))) = true := by decide +kernel
theorem wy3 {K : Nat} (hK : K < 264) : (jtks 70644700037184 (so0.getD K 0)) = (mtks (mjo0 (ml0.getD K 0)) (mjo1 (ml0.getD K 0)) (mjo2 (ml0.getD K 0)) (mjo3 (ml0.getD K 0)) (mjo4 (ml0.getD K 0)) (mjo5 (ml0.getD K 0))) := of_decide_eq_true (List.all_eq_true.mp wy_eq3 K (List.mem_range.mpr hK))
set_option maxRecDepth 100000 in
set_option maxHeartbeats 4000000 in
theorem c_o14g3 {h : zH} {K : Nat} (c0 : zat h 0 = some (.inr (.inr (.inr (9, [.ref 2, .int 0, .ref 4, .ref 6, .ref 20, .long 70644700037184, .ref 34, .ref 36, .int 0, .long 0, .ref 42, .ref 44, .ref 60, .ref 66, .ref 72, .ref 74, .ref 150, .ref 158]))))) (c6 : zat h 6 = some (.inr (.inr (.inr (0, [.int 9, .int 4, .int 10, .int 2, .int 0, .long 70644700037184, .ref 8, .ref 10, .ref 12, .int 0, .ref 14, .ref 16, .int 0, .ref 18]))))) (c8 : zat h 8 = some (.inl (0, 6, [0, (-32), (-32), (-32), (-32), (-64)]))) (c10 : zat h 10 = some (.inl (0, 6, [99, 31, 31, 31, 31, 63]))) (c34 : zat h 34 = some (.inl (0, 6, [22000000, 0, 10000, 0, 0, 0]))) (c44 : zat h 44 = some (.inr (.inr (.inr (7, [.null, .null, .ref 46, .int 0, .ref 48, .ref 50, .ref 52, .ref 54, .ref 56, .ref 58]))))) (c46 : zat h 46 = some (.inl (0, 6, []))) (c48 : zat h 48 = some (.inl (0, 128, []))) (c50 : zat h 50 = some (.inl (0, 128, []))) (c52 : zat h 52 = some (.inl (0, 128, []))) (c54 : zat h 54 = some (.inl (0, 128, []))) (c56 : zat h 56 = some (.inl (0, 101, []))) (c58 : zat h 58 = some (.inr (.inl (16, [])))) (c60 : zat h 60 = some (.inr (.inr (.inr (1, [.int 0, .int 0, .ref 62, .ref 64, .int 0, .int 0]))))) (c62 : zat h 62 = some (.inr (.inl (16, [])))) (c64 : zat h 64 = some (.inl (0, 6, []))) (c12 : zat h 12 = some (.inl (0, 6, [4, 4, 4, 4, 4, 4]))) (hlen : 117 ≤ h.length) (hK : K < 264) : wq 115 0 [(0, .ref 0), (1, .int (nI K)), (2, .int 3)] [] h 0 0 (fun r => ∃ (h2 : zH) (d s : Nat), r = (some (.int (jtks 70644700037184 (so0.getD K 0))), h2, d, s) ∧ wFr [0, 36, 38, 40, 62, 60, 64, 44, 46, 48, 50, 52, 54, 56, 58] h h2 ∧ d ≤ 1200 ∧ s ≤ 720000) := by
  have q1 := nI_toInt (n := K) (by omega)
  have e_0 : (0 : Int32).toInt = 0 := rfl
  have e6 : (6 : Int32).toInt = 6 := rfl
  have e264 : (264 : Int32).toInt = 264 := rfl
  refine wq_gos (f := 1) (pc2 := 1) (ls2 := [(0, .ref 0), (1, .int (nI K)), (2, .int 3)]) (st2 := [.ref 0]) (h2 := h) (dc2 := 0) (ds2 := 0) 1 rfl ?_
  refine wq_inlv (y2 := 148) (as := []) rfl rfl rfl c0 rfl (wq_mono (c_held0 c0 c6 c8 c10 c34 c44 c46 c48 c50 c52 c54 c56 c58 c60 c62 c64 hlen) ?_)
  rintro _ ⟨h8, rL2, cap2, ks2, fa2, li2, d, s, rfl, f8, j9, j11, j15, j14⟩
  show wq 115 4 [(0, .ref 0), (1, .int (nI K)), (2, .int 3)] [.ref 60] h8 (0 + d) (0 + s) _
  rw [Nat.zero_add, Nat.zero_add]
  refine wq_gos (f := 1) (pc2 := 7) (ls2 := [(3, .ref 60), (0, .ref 0), (1, .int (nI K)), (2, .int 3)]) (st2 := [.int (nI K), .ref 60]) (h2 := h8) (dc2 := d) (ds2 := s) 3 rfl ?_
  refine wq_inlv (y2 := 17) (as := [.int (nI K)]) rfl rfl rfl j9 rfl ?_
  show wq 17 0 [(0, .ref 60), (1, .int (nI K))] [] h8 0 0 _
  refine wq_gos (f := 1) (pc2 := 1) (ls2 := [(0, .ref 60), (1, .int (nI K))]) (st2 := [.int (nI K)]) (h2 := h8) (dc2 := 0) (ds2 := 0) 1 rfl ?_
  refine wq_lt0f rfl rfl (by omega) ?_
  refine wq_gos (f := 1) (pc2 := 6) (ls2 := [(0, .ref 60), (1, .int (nI K))]) (st2 := [.ref 60, .int (nI K)]) (h2 := h8) (dc2 := 0) (ds2 := 0) 2 rfl ?_
  refine wq_getf rfl j9 rfl rfl ?_
  refine wq_ge2f rfl rfl (by omega) ?_
  refine wq_gos (f := 1) (pc2 := 13) (ls2 := [(0, .ref 60), (1, .int (nI K))]) (st2 := [.ref 60]) (h2 := h8) (dc2 := 0) (ds2 := 0) 1 rfl ?_
  refine wq_inlv (y2 := 16) (as := []) rfl rfl rfl j9 rfl ?_
  show wq 16 0 [(0, .ref 60)] [] h8 0 0 _
  refine wq_gos (f := 1) (pc2 := 1) (ls2 := [(0, .ref 60)]) (st2 := [.ref 60]) (h2 := h8) (dc2 := 0) (ds2 := 0) 1 rfl ?_
  refine wq_getf rfl j9 rfl rfl ?_
  refine wq_gos (f := 1) (pc2 := 15) (ls2 := [(0, .ref 60)]) (st2 := [.int 0]) (h2 := h8) (dc2 := 0) (ds2 := 0) 3 rfl ?_
  refine wq_ret rfl rfl ?_
  show wq 17 16 [(0, .ref 60), (1, .int (nI K))] [.int 0] h8 0 0 _
  refine wq_gos (f := 1) (pc2 := 24) (ls2 := [(0, .ref 60), (1, .int (nI K))]) (st2 := [.int 1]) (h2 := h8) (dc2 := 0) (ds2 := 0) 3 rfl ?_
  refine wq_ret rfl rfl ?_
  show wq 115 10 [(3, .ref 60), (0, .ref 0), (1, .int (nI K)), (2, .int 3)] [.int 1] h8 d s _
  refine wq_gos (f := 1) (pc2 := 17) (ls2 := [(3, .ref 60), (0, .ref 0), (1, .int (nI K)), (2, .int 3)]) (st2 := [.ref 60]) (h2 := h8) (dc2 := d) (ds2 := s) 2 rfl ?_
  refine wq_getf rfl j9 rfl rfl ?_
  refine wq_gos (f := 1) (pc2 := 21) (ls2 := [(3, .ref 60), (0, .ref 0), (1, .int (nI K)), (2, .int 3)]) (st2 := [.int (nI K), .ref rL2]) (h2 := h8) (dc2 := d) (ds2 := s) 1 rfl ?_
  refine wq_laldn rfl j11 (by omega) (by omega) rfl ?_
  refine wq_vl (j15 K hK) ?_
  refine wq_gos (f := 1) (pc2 := 30) (ls2 := [(4, .long (so0.getD K 0)), (3, .ref 60), (0, .ref 0), (1, .int (nI K)), (2, .int 3)]) (st2 := [.ref 0]) (h2 := h8) (dc2 := d) (ds2 := s) 5 rfl ?_
  have e1x := (f8.2 _ _ (wnc (by decide) (wnc (by decide) (wnc (by decide) (wnc (by decide) (wnc (by decide) (wnc (by decide) (wnc (by decide) (wnc (by decide) (wnc (by decide) (wnc (by decide) (wnc (by decide) wn0))))))))))) c0)
  refine wq_getf rfl e1x rfl rfl ?_
  refine wq_gos (f := 1) (pc2 := 34) (ls2 := [(4, .long (so0.getD K 0)), (3, .ref 60), (0, .ref 0), (1, .int (nI K)), (2, .int 3)]) (st2 := [.ref 0, .ref 6]) (h2 := h8) (dc2 := d) (ds2 := s) 1 rfl ?_
  refine wq_getf rfl e1x rfl rfl ?_
  refine wq_gos (f := 1) (pc2 := 39) (ls2 := [(4, .long (so0.getD K 0)), (3, .ref 60), (0, .ref 0), (1, .int (nI K)), (2, .int 3)]) (st2 := [.long (so0.getD K 0), .long 70644700037184, .ref 6]) (h2 := h8) (dc2 := d) (ds2 := s) 1 rfl ?_
  have e2x := (f8.2 _ _ (wnc (by decide) (wnc (by decide) (wnc (by decide) (wnc (by decide) (wnc (by decide) (wnc (by decide) (wnc (by decide) (wnc (by decide) (wnc (by decide) (wnc (by decide) (wnc (by decide) wn0))))))))))) c6)
  have e3x := (f8.2 _ _ (wnc (by decide) (wnc (by decide) (wnc (by decide) (wnc (by decide) (wnc (by decide) (wnc (by decide) (wnc (by decide) (wnc (by decide) (wnc (by decide) (wnc (by decide) (wnc (by decide) wn0))))))))))) c12)
  refine wq_inlv (y2 := 9) (as := [.long 70644700037184, .long (so0.getD K 0)]) rfl rfl rfl e2x rfl (wq_T (c_ticks0 70644700037184 (so0.getD K 0) e2x e3x) ?_)
  show wq 115 42 [(4, .long (so0.getD K 0)), (3, .ref 60), (0, .ref 0), (1, .int (nI K)), (2, .int 3)] [.int (jtks 70644700037184 (so0.getD K 0))] h8 d s _
  exact wq_ret rfl rfl ⟨h8, d, s, rfl, (wFr_tr (wFr_rf _ _) (wFr_sub f8 (by simp))), by omega, by omega⟩
set_option maxRecDepth 100000 in
set_option maxHeartbeats 4000000 in
theorem m_o14g3 {h : zH} {fs : List Value} {K : Nat} (hM : zat h 162 = some (.inr (.inr (.inr (10, fs))))) (hC : mC fs) (c166 : zat h 166 = some (.inl (0, 14, [9, 4, 10, 2, 0, 0, 0, 9, 4, 10, 2, 0, 0, 0]))) (c168 : zat h 168 = some (.inl (0, 12, [0, (-32), (-32), (-32), (-32), (-64), 0, (-32), (-32), (-32), (-32), (-64)]))) (c170 : zat h 170 = some (.inl (0, 12, [99, 31, 31, 31, 31, 63, 99, 31, 31, 31, 31, 63]))) (c190 : zat h 190 = some (.inl (0, 6, [22000000, 0, 10000, 0, 0, 0]))) (c196 : zat h 196 = some (.inr (.inl (6000, [])))) (c200 : zat h 200 = some (.inl (0, 4096, []))) (c202 : zat h 202 = some (.inl (0, 4096, []))) (c204 : zat h 204 = some (.inl (0, 6, []))) (c172 : zat h 172 = some (.inl (0, 12, [4, 4, 4, 4, 4, 4, 4, 4, 4, 4, 4, 4]))) (c188 : zat h 188 = some (.inl (0, 6, [0, 0, 0, 0, 0, 0]))) (c206 : zat h 206 = some (.inl (0, 6, []))) (h33 : fs[33]? = some (.int 0)) (h27 : fs[27]? = some (.int 0)) (hK : K < 264) : wq 236 0 [(0, .ref 162), (1, .int (nI K)), (2, .int 3)] [] h 0 0 (fun r => ∃ h2, r = (some (.int (jtks 70644700037184 (so0.getD K 0))), h2, 0, 0)) := by
  have q1 := nI_toInt (n := K) (by omega)
  have e_0 : (0 : Int32).toInt = 0 := rfl
  have e6 : (6 : Int32).toInt = 6 := rfl
  have e264 : (264 : Int32).toInt = 264 := rfl
  refine wq_gos (f := 1) (pc2 := 2) (ls2 := [(0, .ref 162), (1, .int (nI K)), (2, .int 3)]) (st2 := [.int 0, .ref 162]) (h2 := h) (dc2 := 0) (ds2 := 0) 2 rfl ?_
  refine wq_putf rfl hM rfl (by rw [hC.1]; rfl) rfl ?_
  intro h1x e2x f3x l4x
  obtain ⟨fs5x, hf6x⟩ : ∃ x, x = fs.set 0 (.int 0) := ⟨_, rfl⟩
  rw [← hf6x] at e2x
  have hC7x : mC fs5x := by rw [hf6x]; exact mC_set hC (by decide) _
  have p8x : fs5x[33]? = some (.int 0) := by rw [hf6x, List.getElem?_set_ne (by decide)]; exact h33
  have p9x : fs5x[27]? = some (.int 0) := by rw [hf6x, List.getElem?_set_ne (by decide)]; exact h27
  have p10x : fs5x[0]? = some (.int 0) := by rw [hf6x]; exact List.getElem?_set_self (by rw [hC.1]; decide)
  refine wq_gos (f := 1) (pc2 := 16) (ls2 := [(0, .ref 162), (1, .int (nI K)), (2, .int 3)]) (st2 := [.int (nI K), .ref 162]) (h2 := h1x) (dc2 := 0) (ds2 := 0) 7 rfl ?_
  refine wq_inlv (y2 := 230) (as := [.int (nI K)]) rfl rfl rfl e2x rfl ?_
  show wq 230 0 [(0, .ref 162), (1, .int (nI K))] [] h1x 0 0 _
  refine wq_gos (f := 1) (pc2 := 1) (ls2 := [(0, .ref 162), (1, .int (nI K))]) (st2 := [.ref 162]) (h2 := h1x) (dc2 := 0) (ds2 := 0) 1 rfl ?_
  have e11x := (f3x.2 _ _ (wnc (by decide) wn0) c166)
  have e12x := (f3x.2 _ _ (wnc (by decide) wn0) c168)
  have e13x := (f3x.2 _ _ (wnc (by decide) wn0) c170)
  have e14x := (f3x.2 _ _ (wnc (by decide) wn0) c190)
  have e15x := (f3x.2 _ _ (wnc (by decide) wn0) c196)
  have e16x := (f3x.2 _ _ (wnc (by decide) wn0) c200)
  have e17x := (f3x.2 _ _ (wnc (by decide) wn0) c202)
  have e18x := (f3x.2 _ _ (wnc (by decide) wn0) c204)
  refine wq_inlv (y2 := 227) (as := []) rfl rfl rfl e2x rfl (wq_mono (m_aim0 e2x hC7x e11x e12x e13x e14x e15x e16x e17x e18x p8x p9x) ?_)
  rintro _ ⟨h8, fs8, fo8, rfl, f8, hM8, hC8, h328, h398, h278, hF8, hfo⟩
  show wq 230 4 [(0, .ref 162), (1, .int (nI K))] [] h8 0 0 _
  refine wq_gos (f := 1) (pc2 := 5) (ls2 := [(0, .ref 162), (1, .int (nI K))]) (st2 := [.int (nI K)]) (h2 := h8) (dc2 := 0) (ds2 := 0) 1 rfl ?_
  refine wq_lt0f rfl rfl (by omega) ?_
  refine wq_gos (f := 1) (pc2 := 10) (ls2 := [(0, .ref 162), (1, .int (nI K))]) (st2 := [.ref 162, .int (nI K)]) (h2 := h8) (dc2 := 0) (ds2 := 0) 2 rfl ?_
  refine wq_getf rfl hM8 h328 rfl ?_
  refine wq_ge2f rfl rfl (by omega) ?_
  refine wq_gos (f := 1) (pc2 := 21) (ls2 := [(0, .ref 162), (1, .int (nI K))]) (st2 := [.int 1]) (h2 := h8) (dc2 := 0) (ds2 := 0) 2 rfl ?_
  refine wq_ret rfl rfl ?_
  show wq 236 19 [(0, .ref 162), (1, .int (nI K)), (2, .int 3)] [.int 1] h8 0 0 _
  refine wq_gos (f := 1) (pc2 := 28) (ls2 := [(0, .ref 162), (1, .int (nI K)), (2, .int 3)]) (st2 := [.int (nI K), .ref 162, .ref 162]) (h2 := h8) (dc2 := 0) (ds2 := 0) 4 rfl ?_
  refine wq_inlv (y2 := 228) (as := [.int (nI K)]) rfl rfl rfl hM8 rfl ?_
  show wq 228 0 [(0, .ref 162), (1, .int (nI K))] [] h8 0 0 _
  refine wq_gos (f := 1) (pc2 := 1) (ls2 := [(0, .ref 162), (1, .int (nI K))]) (st2 := [.ref 162]) (h2 := h8) (dc2 := 0) (ds2 := 0) 1 rfl ?_
  refine wq_getf rfl hM8 (hC8.2 (30, 196) (by decide)) rfl ?_
  refine wq_gos (f := 1) (pc2 := 9) (ls2 := [(0, .ref 162), (1, .int (nI K))]) (st2 := [.int ((4800 : Int32) + (nI K)), .ref 196]) (h2 := h8) (dc2 := 0) (ds2 := 0) 3 rfl ?_
  refine wq_vi (show (4800 : Int32) + nI K = nI (4800 + K) from nI_add 4800 K) ?_
  refine wq_laldn rfl hF8 (by omega) (by decide) rfl ?_
  refine wq_vl (hfo K hK) ?_
  refine wq_ret rfl rfl ?_
  show wq 236 31 [(0, .ref 162), (1, .int (nI K)), (2, .int 3)] [.long (ml0.getD K 0), .ref 162] h8 0 0 _
  refine wq_gos (f := 1) (pc2 := 32) (ls2 := [(0, .ref 162), (1, .int (nI K)), (2, .int 3)]) (st2 := [.ref 162, .long (ml0.getD K 0), .ref 162]) (h2 := h8) (dc2 := 0) (ds2 := 0) 1 rfl ?_
  refine wq_getf rfl hM8 (hC8.2 (40, 206) (by decide)) rfl ?_
  refine wq_gos (f := 1) (pc2 := 36) (ls2 := [(0, .ref 162), (1, .int (nI K)), (2, .int 3)]) (st2 := [.int 0, .ref 206, .long (ml0.getD K 0), .ref 162]) (h2 := h8) (dc2 := 0) (ds2 := 0) 1 rfl ?_
  have e19x := (f8.2 _ _ (wnc (by decide) (wnc (by decide) (wnc (by decide) (wnc (by decide) (wnc (by decide) wn0))))) (f3x.2 _ _ (wnc (by decide) wn0) c206))
  refine wq_inlv (y2 := 221) (as := [.long (ml0.getD K 0), .ref 206, .int 0]) rfl rfl rfl hM8 rfl (wq_mono (m_unp (x := (ml0.getD K 0)) hM8 hC8 e19x) ?_)
  rintro _ ⟨h20x, hr21x, rfl, f22x, e23x, u24x, u25x, u26x, u27x, u28x, u29x⟩
  show wq 236 39 [(0, .ref 162), (1, .int (nI K)), (2, .int 3)] [] h20x 0 0 _
  refine wq_gos (f := 1) (pc2 := 89) (ls2 := [(0, .ref 162), (1, .int (nI K)), (2, .int 3)]) (st2 := [.ref 162, .ref 162]) (h2 := h20x) (dc2 := 0) (ds2 := 0) 11 rfl ?_
  have e30x := (f22x.2 _ _ (wnc (by decide) wn0) hM8)
  refine wq_getf rfl e30x (hC8.2 (24, 188) (by decide)) rfl ?_
  refine wq_gos (f := 1) (pc2 := 94) (ls2 := [(0, .ref 162), (1, .int (nI K)), (2, .int 3)]) (st2 := [.ref 162, .int 0, .ref 188, .ref 162]) (h2 := h20x) (dc2 := 0) (ds2 := 0) 2 rfl ?_
  refine wq_getf rfl e30x (hC8.2 (40, 206) (by decide)) rfl ?_
  refine wq_gos (f := 1) (pc2 := 98) (ls2 := [(0, .ref 162), (1, .int (nI K)), (2, .int 3)]) (st2 := [.int 0, .ref 206, .int 0, .ref 188, .ref 162]) (h2 := h20x) (dc2 := 0) (ds2 := 0) 1 rfl ?_
  have e31x := (f22x.2 _ _ (wnc (by decide) wn0) (f8.2 _ _ (wnc (by decide) (wnc (by decide) (wnc (by decide) (wnc (by decide) (wnc (by decide) wn0))))) (f3x.2 _ _ (wnc (by decide) wn0) c172)))
  have e32x := (f22x.2 _ _ (wnc (by decide) wn0) (f8.2 _ _ (wnc (by decide) (wnc (by decide) (wnc (by decide) (wnc (by decide) (wnc (by decide) wn0))))) (f3x.2 _ _ (wnc (by decide) wn0) c188)))
  refine wq_inlv (y2 := 233) (as := [.ref 188, .int 0, .ref 206, .int 0]) rfl rfl rfl e30x rfl (wq_T (m_ticks0 e30x hC8 e31x e32x e23x u24x u25x u26x u27x u28x u29x) ?_)
  show wq 236 101 [(0, .ref 162), (1, .int (nI K)), (2, .int 3)] [.int (mtks (mjo0 (ml0.getD K 0)) (mjo1 (ml0.getD K 0)) (mjo2 (ml0.getD K 0)) (mjo3 (ml0.getD K 0)) (mjo4 (ml0.getD K 0)) (mjo5 (ml0.getD K 0)))] h20x 0 0 _
  refine wq_gos (f := 1) (pc2 := 126) (ls2 := [(0, .ref 162), (1, .int (nI K)), (2, .int 3)]) (st2 := [.int (mtks (mjo0 (ml0.getD K 0)) (mjo1 (ml0.getD K 0)) (mjo2 (ml0.getD K 0)) (mjo3 (ml0.getD K 0)) (mjo4 (ml0.getD K 0)) (mjo5 (ml0.getD K 0)))]) (h2 := h20x) (dc2 := 0) (ds2 := 0) 1 rfl ?_
  have hv9 : (jtks 70644700037184 (so0.getD K 0)) = (mtks (mjo0 (ml0.getD K 0)) (mjo1 (ml0.getD K 0)) (mjo2 (ml0.getD K 0)) (mjo3 (ml0.getD K 0)) (mjo4 (ml0.getD K 0)) (mjo5 (ml0.getD K 0))) := wy3 hK
  rw [hv9]
  exact wq_ret rfl rfl ⟨h20x, rfl⟩
set_option maxRecDepth 100000 in
set_option maxHeartbeats 4000000 in
theorem c_o14g4 {h : zH} {K : Nat} (c0 : zat h 0 = some (.inr (.inr (.inr (9, [.ref 2, .int 0, .ref 4, .ref 6, .ref 20, .long 70644700037184, .ref 34, .ref 36, .int 0, .long 0, .ref 42, .ref 44, .ref 60, .ref 66, .ref 72, .ref 74, .ref 150, .ref 158]))))) (c6 : zat h 6 = some (.inr (.inr (.inr (0, [.int 9, .int 4, .int 10, .int 2, .int 0, .long 70644700037184, .ref 8, .ref 10, .ref 12, .int 0, .ref 14, .ref 16, .int 0, .ref 18]))))) (c8 : zat h 8 = some (.inl (0, 6, [0, (-32), (-32), (-32), (-32), (-64)]))) (c10 : zat h 10 = some (.inl (0, 6, [99, 31, 31, 31, 31, 63]))) (c34 : zat h 34 = some (.inl (0, 6, [22000000, 0, 10000, 0, 0, 0]))) (c44 : zat h 44 = some (.inr (.inr (.inr (7, [.null, .null, .ref 46, .int 0, .ref 48, .ref 50, .ref 52, .ref 54, .ref 56, .ref 58]))))) (c46 : zat h 46 = some (.inl (0, 6, []))) (c48 : zat h 48 = some (.inl (0, 128, []))) (c50 : zat h 50 = some (.inl (0, 128, []))) (c52 : zat h 52 = some (.inl (0, 128, []))) (c54 : zat h 54 = some (.inl (0, 128, []))) (c56 : zat h 56 = some (.inl (0, 101, []))) (c58 : zat h 58 = some (.inr (.inl (16, [])))) (c60 : zat h 60 = some (.inr (.inr (.inr (1, [.int 0, .int 0, .ref 62, .ref 64, .int 0, .int 0]))))) (c62 : zat h 62 = some (.inr (.inl (16, [])))) (c64 : zat h 64 = some (.inl (0, 6, []))) (c12 : zat h 12 = some (.inl (0, 6, [4, 4, 4, 4, 4, 4]))) (hlen : 117 ≤ h.length) (hK : K < 264) : wq 115 0 [(0, .ref 0), (1, .int (nI K)), (2, .int 4)] [] h 0 0 (fun r => ∃ (h2 : zH) (d s : Nat), r = (some (.int 0), h2, d, s) ∧ wFr [0, 36, 38, 40, 62, 60, 64, 44, 46, 48, 50, 52, 54, 56, 58] h h2 ∧ d ≤ 1200 ∧ s ≤ 720000) := by
  have q1 := nI_toInt (n := K) (by omega)
  have e_0 : (0 : Int32).toInt = 0 := rfl
  have e6 : (6 : Int32).toInt = 6 := rfl
  have e264 : (264 : Int32).toInt = 264 := rfl
  refine wq_gos (f := 1) (pc2 := 1) (ls2 := [(0, .ref 0), (1, .int (nI K)), (2, .int 4)]) (st2 := [.ref 0]) (h2 := h) (dc2 := 0) (ds2 := 0) 1 rfl ?_
  refine wq_inlv (y2 := 148) (as := []) rfl rfl rfl c0 rfl (wq_mono (c_held0 c0 c6 c8 c10 c34 c44 c46 c48 c50 c52 c54 c56 c58 c60 c62 c64 hlen) ?_)
  rintro _ ⟨h8, rL2, cap2, ks2, fa2, li2, d, s, rfl, f8, j9, j11, j15, j14⟩
  show wq 115 4 [(0, .ref 0), (1, .int (nI K)), (2, .int 4)] [.ref 60] h8 (0 + d) (0 + s) _
  rw [Nat.zero_add, Nat.zero_add]
  refine wq_gos (f := 1) (pc2 := 7) (ls2 := [(3, .ref 60), (0, .ref 0), (1, .int (nI K)), (2, .int 4)]) (st2 := [.int (nI K), .ref 60]) (h2 := h8) (dc2 := d) (ds2 := s) 3 rfl ?_
  refine wq_inlv (y2 := 17) (as := [.int (nI K)]) rfl rfl rfl j9 rfl ?_
  show wq 17 0 [(0, .ref 60), (1, .int (nI K))] [] h8 0 0 _
  refine wq_gos (f := 1) (pc2 := 1) (ls2 := [(0, .ref 60), (1, .int (nI K))]) (st2 := [.int (nI K)]) (h2 := h8) (dc2 := 0) (ds2 := 0) 1 rfl ?_
  refine wq_lt0f rfl rfl (by omega) ?_
  refine wq_gos (f := 1) (pc2 := 6) (ls2 := [(0, .ref 60), (1, .int (nI K))]) (st2 := [.ref 60, .int (nI K)]) (h2 := h8) (dc2 := 0) (ds2 := 0) 2 rfl ?_
  refine wq_getf rfl j9 rfl rfl ?_
  refine wq_ge2f rfl rfl (by omega) ?_
  refine wq_gos (f := 1) (pc2 := 13) (ls2 := [(0, .ref 60), (1, .int (nI K))]) (st2 := [.ref 60]) (h2 := h8) (dc2 := 0) (ds2 := 0) 1 rfl ?_
  refine wq_inlv (y2 := 16) (as := []) rfl rfl rfl j9 rfl ?_
  show wq 16 0 [(0, .ref 60)] [] h8 0 0 _
  refine wq_gos (f := 1) (pc2 := 1) (ls2 := [(0, .ref 60)]) (st2 := [.ref 60]) (h2 := h8) (dc2 := 0) (ds2 := 0) 1 rfl ?_
  refine wq_getf rfl j9 rfl rfl ?_
  refine wq_gos (f := 1) (pc2 := 15) (ls2 := [(0, .ref 60)]) (st2 := [.int 0]) (h2 := h8) (dc2 := 0) (ds2 := 0) 3 rfl ?_
  refine wq_ret rfl rfl ?_
  show wq 17 16 [(0, .ref 60), (1, .int (nI K))] [.int 0] h8 0 0 _
  refine wq_gos (f := 1) (pc2 := 24) (ls2 := [(0, .ref 60), (1, .int (nI K))]) (st2 := [.int 1]) (h2 := h8) (dc2 := 0) (ds2 := 0) 3 rfl ?_
  refine wq_ret rfl rfl ?_
  show wq 115 10 [(3, .ref 60), (0, .ref 0), (1, .int (nI K)), (2, .int 4)] [.int 1] h8 d s _
  refine wq_gos (f := 1) (pc2 := 17) (ls2 := [(3, .ref 60), (0, .ref 0), (1, .int (nI K)), (2, .int 4)]) (st2 := [.ref 60]) (h2 := h8) (dc2 := d) (ds2 := s) 2 rfl ?_
  refine wq_getf rfl j9 rfl rfl ?_
  refine wq_gos (f := 1) (pc2 := 21) (ls2 := [(3, .ref 60), (0, .ref 0), (1, .int (nI K)), (2, .int 4)]) (st2 := [.int (nI K), .ref rL2]) (h2 := h8) (dc2 := d) (ds2 := s) 1 rfl ?_
  refine wq_laldn rfl j11 (by omega) (by omega) rfl ?_
  refine wq_vl (j15 K hK) ?_
  refine wq_gos (f := 1) (pc2 := 49) (ls2 := [(4, .long (so0.getD K 0)), (3, .ref 60), (0, .ref 0), (1, .int (nI K)), (2, .int 4)]) (st2 := [.ref 0]) (h2 := h8) (dc2 := d) (ds2 := s) 8 rfl ?_
  have e1x := (f8.2 _ _ (wnc (by decide) (wnc (by decide) (wnc (by decide) (wnc (by decide) (wnc (by decide) (wnc (by decide) (wnc (by decide) (wnc (by decide) (wnc (by decide) (wnc (by decide) (wnc (by decide) wn0))))))))))) c0)
  refine wq_getf rfl e1x rfl rfl ?_
  refine wq_gos (f := 1) (pc2 := 54) (ls2 := [(4, .long (so0.getD K 0)), (3, .ref 60), (0, .ref 0), (1, .int (nI K)), (2, .int 4)]) (st2 := [.long (so0.getD K 0), .long 70644700037184]) (h2 := h8) (dc2 := d) (ds2 := s) 1 rfl ?_
  refine wq_inl (y2 := 38) (as := [.long 70644700037184, .long (so0.getD K 0)]) rfl rfl rfl (wq_T (show zT zg0 zF zP 38 0 [(0, .long 70644700037184), (2, .long (so0.getD K 0))] [] h8 0 0 (some (.int 0), h8, 0, 0) from by have q9 := c_kept 70644700037184 (so0.getD K 0) h8; rw [jkept0] at q9; exact q9) ?_)
  show wq 115 57 [(4, .long (so0.getD K 0)), (3, .ref 60), (0, .ref 0), (1, .int (nI K)), (2, .int 4)] [.int 0] h8 d s _
  refine wq_gos (f := 1) (pc2 := 65) (ls2 := [(4, .long (so0.getD K 0)), (3, .ref 60), (0, .ref 0), (1, .int (nI K)), (2, .int 4)]) (st2 := [.int 0]) (h2 := h8) (dc2 := d) (ds2 := s) 2 rfl ?_
  exact wq_ret rfl rfl ⟨h8, d, s, rfl, (wFr_tr (wFr_rf _ _) (wFr_sub f8 (by simp))), by omega, by omega⟩
set_option maxRecDepth 100000 in
set_option maxHeartbeats 4000000 in
theorem m_o14g4 {h : zH} {fs : List Value} {K : Nat} (hM : zat h 162 = some (.inr (.inr (.inr (10, fs))))) (hC : mC fs) (c166 : zat h 166 = some (.inl (0, 14, [9, 4, 10, 2, 0, 0, 0, 9, 4, 10, 2, 0, 0, 0]))) (c168 : zat h 168 = some (.inl (0, 12, [0, (-32), (-32), (-32), (-32), (-64), 0, (-32), (-32), (-32), (-32), (-64)]))) (c170 : zat h 170 = some (.inl (0, 12, [99, 31, 31, 31, 31, 63, 99, 31, 31, 31, 31, 63]))) (c190 : zat h 190 = some (.inl (0, 6, [22000000, 0, 10000, 0, 0, 0]))) (c196 : zat h 196 = some (.inr (.inl (6000, [])))) (c200 : zat h 200 = some (.inl (0, 4096, []))) (c202 : zat h 202 = some (.inl (0, 4096, []))) (c204 : zat h 204 = some (.inl (0, 6, []))) (c172 : zat h 172 = some (.inl (0, 12, [4, 4, 4, 4, 4, 4, 4, 4, 4, 4, 4, 4]))) (c188 : zat h 188 = some (.inl (0, 6, [0, 0, 0, 0, 0, 0]))) (c206 : zat h 206 = some (.inl (0, 6, []))) (h33 : fs[33]? = some (.int 0)) (h27 : fs[27]? = some (.int 0)) (hK : K < 264) : wq 236 0 [(0, .ref 162), (1, .int (nI K)), (2, .int 4)] [] h 0 0 (fun r => ∃ h2, r = (some (.int 0), h2, 0, 0)) := by
  have q1 := nI_toInt (n := K) (by omega)
  have e_0 : (0 : Int32).toInt = 0 := rfl
  have e6 : (6 : Int32).toInt = 6 := rfl
  have e264 : (264 : Int32).toInt = 264 := rfl
  refine wq_gos (f := 1) (pc2 := 2) (ls2 := [(0, .ref 162), (1, .int (nI K)), (2, .int 4)]) (st2 := [.int 0, .ref 162]) (h2 := h) (dc2 := 0) (ds2 := 0) 2 rfl ?_
  refine wq_putf rfl hM rfl (by rw [hC.1]; rfl) rfl ?_
  intro h1x e2x f3x l4x
  obtain ⟨fs5x, hf6x⟩ : ∃ x, x = fs.set 0 (.int 0) := ⟨_, rfl⟩
  rw [← hf6x] at e2x
  have hC7x : mC fs5x := by rw [hf6x]; exact mC_set hC (by decide) _
  have p8x : fs5x[33]? = some (.int 0) := by rw [hf6x, List.getElem?_set_ne (by decide)]; exact h33
  have p9x : fs5x[27]? = some (.int 0) := by rw [hf6x, List.getElem?_set_ne (by decide)]; exact h27
  have p10x : fs5x[0]? = some (.int 0) := by rw [hf6x]; exact List.getElem?_set_self (by rw [hC.1]; decide)
  refine wq_gos (f := 1) (pc2 := 16) (ls2 := [(0, .ref 162), (1, .int (nI K)), (2, .int 4)]) (st2 := [.int (nI K), .ref 162]) (h2 := h1x) (dc2 := 0) (ds2 := 0) 7 rfl ?_
  refine wq_inlv (y2 := 230) (as := [.int (nI K)]) rfl rfl rfl e2x rfl ?_
  show wq 230 0 [(0, .ref 162), (1, .int (nI K))] [] h1x 0 0 _
  refine wq_gos (f := 1) (pc2 := 1) (ls2 := [(0, .ref 162), (1, .int (nI K))]) (st2 := [.ref 162]) (h2 := h1x) (dc2 := 0) (ds2 := 0) 1 rfl ?_
  have e11x := (f3x.2 _ _ (wnc (by decide) wn0) c166)
  have e12x := (f3x.2 _ _ (wnc (by decide) wn0) c168)
  have e13x := (f3x.2 _ _ (wnc (by decide) wn0) c170)
  have e14x := (f3x.2 _ _ (wnc (by decide) wn0) c190)
  have e15x := (f3x.2 _ _ (wnc (by decide) wn0) c196)
  have e16x := (f3x.2 _ _ (wnc (by decide) wn0) c200)
  have e17x := (f3x.2 _ _ (wnc (by decide) wn0) c202)
  have e18x := (f3x.2 _ _ (wnc (by decide) wn0) c204)
  refine wq_inlv (y2 := 227) (as := []) rfl rfl rfl e2x rfl (wq_mono (m_aim0 e2x hC7x e11x e12x e13x e14x e15x e16x e17x e18x p8x p9x) ?_)
  rintro _ ⟨h8, fs8, fo8, rfl, f8, hM8, hC8, h328, h398, h278, hF8, hfo⟩
  show wq 230 4 [(0, .ref 162), (1, .int (nI K))] [] h8 0 0 _
  refine wq_gos (f := 1) (pc2 := 5) (ls2 := [(0, .ref 162), (1, .int (nI K))]) (st2 := [.int (nI K)]) (h2 := h8) (dc2 := 0) (ds2 := 0) 1 rfl ?_
  refine wq_lt0f rfl rfl (by omega) ?_
  refine wq_gos (f := 1) (pc2 := 10) (ls2 := [(0, .ref 162), (1, .int (nI K))]) (st2 := [.ref 162, .int (nI K)]) (h2 := h8) (dc2 := 0) (ds2 := 0) 2 rfl ?_
  refine wq_getf rfl hM8 h328 rfl ?_
  refine wq_ge2f rfl rfl (by omega) ?_
  refine wq_gos (f := 1) (pc2 := 21) (ls2 := [(0, .ref 162), (1, .int (nI K))]) (st2 := [.int 1]) (h2 := h8) (dc2 := 0) (ds2 := 0) 2 rfl ?_
  refine wq_ret rfl rfl ?_
  show wq 236 19 [(0, .ref 162), (1, .int (nI K)), (2, .int 4)] [.int 1] h8 0 0 _
  refine wq_gos (f := 1) (pc2 := 28) (ls2 := [(0, .ref 162), (1, .int (nI K)), (2, .int 4)]) (st2 := [.int (nI K), .ref 162, .ref 162]) (h2 := h8) (dc2 := 0) (ds2 := 0) 4 rfl ?_
  refine wq_inlv (y2 := 228) (as := [.int (nI K)]) rfl rfl rfl hM8 rfl ?_
  show wq 228 0 [(0, .ref 162), (1, .int (nI K))] [] h8 0 0 _
  refine wq_gos (f := 1) (pc2 := 1) (ls2 := [(0, .ref 162), (1, .int (nI K))]) (st2 := [.ref 162]) (h2 := h8) (dc2 := 0) (ds2 := 0) 1 rfl ?_
  refine wq_getf rfl hM8 (hC8.2 (30, 196) (by decide)) rfl ?_
  refine wq_gos (f := 1) (pc2 := 9) (ls2 := [(0, .ref 162), (1, .int (nI K))]) (st2 := [.int ((4800 : Int32) + (nI K)), .ref 196]) (h2 := h8) (dc2 := 0) (ds2 := 0) 3 rfl ?_
  refine wq_vi (show (4800 : Int32) + nI K = nI (4800 + K) from nI_add 4800 K) ?_
  refine wq_laldn rfl hF8 (by omega) (by decide) rfl ?_
  refine wq_vl (hfo K hK) ?_
  refine wq_ret rfl rfl ?_
  show wq 236 31 [(0, .ref 162), (1, .int (nI K)), (2, .int 4)] [.long (ml0.getD K 0), .ref 162] h8 0 0 _
  refine wq_gos (f := 1) (pc2 := 32) (ls2 := [(0, .ref 162), (1, .int (nI K)), (2, .int 4)]) (st2 := [.ref 162, .long (ml0.getD K 0), .ref 162]) (h2 := h8) (dc2 := 0) (ds2 := 0) 1 rfl ?_
  refine wq_getf rfl hM8 (hC8.2 (40, 206) (by decide)) rfl ?_
  refine wq_gos (f := 1) (pc2 := 36) (ls2 := [(0, .ref 162), (1, .int (nI K)), (2, .int 4)]) (st2 := [.int 0, .ref 206, .long (ml0.getD K 0), .ref 162]) (h2 := h8) (dc2 := 0) (ds2 := 0) 1 rfl ?_
  have e19x := (f8.2 _ _ (wnc (by decide) (wnc (by decide) (wnc (by decide) (wnc (by decide) (wnc (by decide) wn0))))) (f3x.2 _ _ (wnc (by decide) wn0) c206))
  refine wq_inlv (y2 := 221) (as := [.long (ml0.getD K 0), .ref 206, .int 0]) rfl rfl rfl hM8 rfl (wq_mono (m_unp (x := (ml0.getD K 0)) hM8 hC8 e19x) ?_)
  rintro _ ⟨h20x, hr21x, rfl, f22x, e23x, u24x, u25x, u26x, u27x, u28x, u29x⟩
  show wq 236 39 [(0, .ref 162), (1, .int (nI K)), (2, .int 4)] [] h20x 0 0 _
  refine wq_gos (f := 1) (pc2 := 106) (ls2 := [(0, .ref 162), (1, .int (nI K)), (2, .int 4)]) (st2 := [.ref 162, .ref 162]) (h2 := h20x) (dc2 := 0) (ds2 := 0) 11 rfl ?_
  have e30x := (f22x.2 _ _ (wnc (by decide) wn0) hM8)
  refine wq_getf rfl e30x (hC8.2 (24, 188) (by decide)) rfl ?_
  refine wq_gos (f := 1) (pc2 := 111) (ls2 := [(0, .ref 162), (1, .int (nI K)), (2, .int 4)]) (st2 := [.ref 162, .int 0, .ref 188, .ref 162]) (h2 := h20x) (dc2 := 0) (ds2 := 0) 2 rfl ?_
  refine wq_getf rfl e30x (hC8.2 (40, 206) (by decide)) rfl ?_
  refine wq_gos (f := 1) (pc2 := 115) (ls2 := [(0, .ref 162), (1, .int (nI K)), (2, .int 4)]) (st2 := [.int 0, .ref 206, .int 0, .ref 188, .ref 162]) (h2 := h20x) (dc2 := 0) (ds2 := 0) 1 rfl ?_
  have e31x := (f22x.2 _ _ (wnc (by decide) wn0) (f8.2 _ _ (wnc (by decide) (wnc (by decide) (wnc (by decide) (wnc (by decide) (wnc (by decide) wn0))))) (f3x.2 _ _ (wnc (by decide) wn0) c188)))
  refine wq_inlv (y2 := 234) (as := [.ref 188, .int 0, .ref 206, .int 0]) rfl rfl rfl e30x rfl (wq_T (m_kept0 e30x hC8 e31x) ?_)
  show wq 236 118 [(0, .ref 162), (1, .int (nI K)), (2, .int 4)] [.int 0] h20x 0 0 _
  refine wq_gos (f := 1) (pc2 := 126) (ls2 := [(0, .ref 162), (1, .int (nI K)), (2, .int 4)]) (st2 := [.int 0]) (h2 := h20x) (dc2 := 0) (ds2 := 0) 2 rfl ?_
  exact wq_ret rfl rfl ⟨h20x, rfl⟩
