/-! heldNow and solvesAim at the first state. -/
set_option maxRecDepth 100000 in
set_option maxHeartbeats 4000000 in
theorem c_held0 {h : zH} (c0 : zat h 0 = some (.inr (.inr (.inr (9, [.ref 2, .int 0, .ref 4, .ref 6, .ref 20, .long 70644700037184, .ref 34, .ref 36, .int 0, .long 0, .ref 42, .ref 44, .ref 60, .ref 66, .ref 72, .ref 74, .ref 150, .ref 158]))))) (c6 : zat h 6 = some (.inr (.inr (.inr (0, [.int 9, .int 4, .int 10, .int 2, .int 0, .long 70644700037184, .ref 8, .ref 10, .ref 12, .int 0, .ref 14, .ref 16, .int 0, .ref 18]))))) (c8 : zat h 8 = some (.inl (0, 6, [0, (-32), (-32), (-32), (-32), (-64)]))) (c10 : zat h 10 = some (.inl (0, 6, [99, 31, 31, 31, 31, 63]))) (c34 : zat h 34 = some (.inl (0, 6, [22000000, 0, 10000, 0, 0, 0]))) (c44 : zat h 44 = some (.inr (.inr (.inr (7, [.null, .null, .ref 46, .int 0, .ref 48, .ref 50, .ref 52, .ref 54, .ref 56, .ref 58]))))) (c46 : zat h 46 = some (.inl (0, 6, []))) (c48 : zat h 48 = some (.inl (0, 128, []))) (c50 : zat h 50 = some (.inl (0, 128, []))) (c52 : zat h 52 = some (.inl (0, 128, []))) (c54 : zat h 54 = some (.inl (0, 128, []))) (c56 : zat h 56 = some (.inl (0, 101, []))) (c58 : zat h 58 = some (.inr (.inl (16, [])))) (c60 : zat h 60 = some (.inr (.inr (.inr (1, [.int 0, .int 0, .ref 62, .ref 64, .int 0, .int 0]))))) (c62 : zat h 62 = some (.inr (.inl (16, [])))) (c64 : zat h 64 = some (.inl (0, 6, []))) (hlen : 117 ≤ h.length) : wq 148 0 [(0, .ref 0)] [] h 0 0 (fun r => ∃ (h2 : zH) (rL2 cap2 : Nat) (ks2 fa2 : Int32) (li2 : List Int64) (d s : Nat), r = (some (.ref 60), h2, d, s) ∧ wFr [62, 60, 64, 44, 46, 48, 50, 52, 54, 56, 58] h h2 ∧ zat h2 60 = some (.inr (.inr (.inr (1, [.int 1, .int 264, .ref rL2, .ref 64, .int ks2, .int fa2])))) ∧ zat h2 rL2 = some (.inr (.inl (cap2, li2))) ∧ (∀ k, k < 264 → li2.getD k 0 = so0.getD k 0) ∧ (264 ≤ cap2 ∧ cap2 ≤ 600 ∧ d ≤ 1200 ∧ s ≤ 720000 ∧ (rL2 = 62 ∨ 234 ≤ rL2))) := by
  refine wq_gos (f := 1) (pc2 := 1) (ls2 := [(0, .ref 0)]) (st2 := [.ref 0]) (h2 := h) (dc2 := 0) (ds2 := 0) 1 rfl ?_
  refine wq_getf rfl c0 rfl rfl ?_
  refine wq_gos (f := 1) (pc2 := 5) (ls2 := [(0, .ref 0)]) (st2 := [.ref 0, .ref 60]) (h2 := h) (dc2 := 0) (ds2 := 0) 1 rfl ?_
  refine wq_getf rfl c0 rfl rfl ?_
  refine wq_inlv (y2 := 13) (as := [.ref 34]) rfl rfl rfl c60 rfl ?_
  show wq 13 0 [(0, .ref 60), (1, .ref 34)] [] h 0 0 _
  refine wq_gos (f := 1) (pc2 := 9) (ls2 := [(2, .int 0), (0, .ref 60), (1, .ref 34)]) (st2 := [.ref 60]) (h2 := h) (dc2 := 0) (ds2 := 0) 6 rfl ?_
  refine wq_getf rfl c60 rfl rfl ?_
  refine wq_gos (f := 1) (pc2 := 13) (ls2 := [(2, .int 0), (0, .ref 60), (1, .ref 34)]) (st2 := [.int 0, .ref 64]) (h2 := h) (dc2 := 0) (ds2 := 0) 1 rfl ?_
  refine wq_ialdk (k := 0) rfl c64 rfl rfl rfl ?_
  refine wq_gos (f := 1) (pc2 := 16) (ls2 := [(2, .int 0), (0, .ref 60), (1, .ref 34)]) (st2 := [.int 0, .ref 34, .int 0]) (h2 := h) (dc2 := 0) (ds2 := 0) 2 rfl ?_
  refine wq_ialdk (k := 0) rfl c34 rfl rfl rfl ?_
  refine wq_gos (f := 1) (pc2 := 21) (ls2 := [(2, .int 0), (0, .ref 60), (1, .ref 34)]) (st2 := [.int 0]) (h2 := h) (dc2 := 0) (ds2 := 0) 2 rfl ?_
  refine wq_ret rfl rfl ?_
  show wq 148 11 [(0, .ref 0)] [.int 0] h 0 0 _
  refine wq_gos (f := 1) (pc2 := 15) (ls2 := [(0, .ref 0)]) (st2 := [.ref 0]) (h2 := h) (dc2 := 0) (ds2 := 0) 2 rfl ?_
  refine wq_getf rfl c0 rfl rfl ?_
  refine wq_gos (f := 1) (pc2 := 19) (ls2 := [(0, .ref 0)]) (st2 := [.ref 0, .ref 44]) (h2 := h) (dc2 := 0) (ds2 := 0) 1 rfl ?_
  refine wq_getf rfl c0 rfl rfl ?_
  refine wq_gos (f := 1) (pc2 := 23) (ls2 := [(0, .ref 0)]) (st2 := [.ref 0, .ref 6, .ref 44]) (h2 := h) (dc2 := 0) (ds2 := 0) 1 rfl ?_
  refine wq_getf rfl c0 rfl rfl ?_
  refine wq_gos (f := 1) (pc2 := 27) (ls2 := [(0, .ref 0)]) (st2 := [.ref 0, .ref 34, .ref 6, .ref 44]) (h2 := h) (dc2 := 0) (ds2 := 0) 1 rfl ?_
  refine wq_getf rfl c0 rfl rfl ?_
  refine wq_inlv (y2 := 82) (as := [.ref 6, .ref 34, .ref 60]) rfl rfl rfl c44 rfl (wq_mono (c_solve (rh := 60) (pl := pl0) (ll := [0, (-32), (-32), (-32), (-32), (-64)]) (lg := [99, 31, 31, 31, 31, 63]) c6 c8 c10 c44 c46 c48 c50 c52 c54 c56 c58 c60 c64 c62 c34 ⟨by decide, by decide⟩ ⟨by decide, by decide⟩ ⟨by decide, by decide⟩ ⟨by decide, by decide, by decide⟩ ⟨by decide, by decide, by decide⟩ ⟨by decide, by decide⟩ ⟨by decide, by decide, by decide, by decide, by decide, by decide, by decide⟩ ⟨by decide, by decide, by decide⟩ hlen) ?_)
  rintro _ ⟨h8, rL2, cap2, rs2, sc2, nf2, ks2, fa2, tg2, hp2, sh2, el2, wr2, ou2, bh2, li2, so2, d, s, rfl, f8, j1, j2, j3, j4, j5, j6, j7, j8, j9, j10, j11, j12, j13, j14⟩
  rw [sl0_eq, sl0_len] at j9 j14
  rw [sl0_eq] at j13
  have j15 := so0_at (j13 (by rw [sl0_len]; decide))
  show wq 148 33 [(0, .ref 0)] [] h8 (0 + d) (0 + s) _
  rw [Nat.zero_add, Nat.zero_add]
  refine wq_gos (f := 1) (pc2 := 34) (ls2 := [(0, .ref 0)]) (st2 := [.ref 0]) (h2 := h8) (dc2 := d) (ds2 := s) 1 rfl ?_
  have e1x := (f8.2 _ _ (wnc (by decide) (wnc (by decide) (wnc (by decide) (wnc (by decide) (wnc (by decide) (wnc (by decide) (wnc (by decide) (wnc (by decide) (wnc (by decide) (wnc (by decide) (wnc (by decide) wn0))))))))))) c0)
  refine wq_getf rfl e1x rfl rfl ?_
  exact wq_ret rfl rfl ⟨h8, rL2, cap2, ks2, fa2, li2, d, s, rfl, wFr_sub f8 (by simp), j9, j11, j15, by omega, by omega, by omega, by omega, by omega⟩
set_option maxRecDepth 100000 in
set_option maxHeartbeats 4000000 in
theorem m_aim0 {h : zH} {fs : List Value} (hM : zat h 162 = some (.inr (.inr (.inr (10, fs))))) (hC : mC fs) (c166 : zat h 166 = some (.inl (0, 14, [9, 4, 10, 2, 0, 0, 0, 9, 4, 10, 2, 0, 0, 0]))) (c168 : zat h 168 = some (.inl (0, 12, [0, (-32), (-32), (-32), (-32), (-64), 0, (-32), (-32), (-32), (-32), (-64)]))) (c170 : zat h 170 = some (.inl (0, 12, [99, 31, 31, 31, 31, 63, 99, 31, 31, 31, 31, 63]))) (c190 : zat h 190 = some (.inl (0, 6, [22000000, 0, 10000, 0, 0, 0]))) (c196 : zat h 196 = some (.inr (.inl (6000, [])))) (c200 : zat h 200 = some (.inl (0, 4096, []))) (c202 : zat h 202 = some (.inl (0, 4096, []))) (c204 : zat h 204 = some (.inl (0, 6, []))) (h33 : fs[33]? = some (.int 0)) (h27 : fs[27]? = some (.int 0)) : wq 227 0 [(0, .ref 162)] [] h 0 0 (fun r => ∃ (h2 : zH) (fs2 : List Value) (fo2 : List Int64), r = (none, h2, 0, 0) ∧ wFr [162, 196, 204, 200, 202] h h2 ∧ zat h2 162 = some (.inr (.inr (.inr (10, fs2)))) ∧ mC fs2 ∧ fs2[32]? = some (.int 264) ∧ fs2[39]? = some (.int 0) ∧ fs2[27]? = some (.int 0) ∧ zat h2 196 = some (.inr (.inl (6000, fo2))) ∧ (∀ k, k < 264 → fo2.getD (4800 + k) 0 = ml0.getD k 0)) := by
  refine wq_gos (f := 1) (pc2 := 1) (ls2 := [(0, .ref 162)]) (st2 := [.ref 162]) (h2 := h) (dc2 := 0) (ds2 := 0) 1 rfl ?_
  refine wq_getf rfl hM h33 rfl ?_
  refine wq_gos (f := 1) (pc2 := 10) (ls2 := [(0, .ref 162)]) (st2 := [.int 1, .ref 162]) (h2 := h) (dc2 := 0) (ds2 := 0) 3 rfl ?_
  refine wq_putf rfl hM rfl (by rw [hC.1]; rfl) rfl ?_
  intro h1x e2x f3x l4x
  obtain ⟨fs5x, hf6x⟩ : ∃ x, x = fs.set 33 (.int 1) := ⟨_, rfl⟩
  rw [← hf6x] at e2x
  have hC7x : mC fs5x := by rw [hf6x]; exact mC_set hC (by decide) _
  have p8x : fs5x[27]? = some (.int 0) := by rw [hf6x, List.getElem?_set_ne (by decide)]; exact h27
  have p9x : fs5x[33]? = some (.int 1) := by rw [hf6x]; exact List.getElem?_set_self (by rw [hC.1]; decide)
  refine wq_gos (f := 1) (pc2 := 15) (ls2 := [(0, .ref 162)]) (st2 := [.ref 162, .ref 162]) (h2 := h1x) (dc2 := 0) (ds2 := 0) 2 rfl ?_
  refine wq_getf rfl e2x (hC7x.2 (25, 190) (by decide)) rfl ?_
  refine wq_gos (f := 1) (pc2 := 21) (ls2 := [(0, .ref 162)]) (st2 := [.int 4800, .ref 190, .ref 162]) (h2 := h1x) (dc2 := 0) (ds2 := 0) 1 rfl ?_
  have e10x := (f3x.2 _ _ (wnc (by decide) wn0) c166)
  have e11x := (f3x.2 _ _ (wnc (by decide) wn0) c168)
  have e12x := (f3x.2 _ _ (wnc (by decide) wn0) c170)
  have e13x := (f3x.2 _ _ (wnc (by decide) wn0) c196)
  have e14x := (f3x.2 _ _ (wnc (by decide) wn0) c204)
  have e15x := (f3x.2 _ _ (wnc (by decide) wn0) c190)
  have e16x := (f3x.2 _ _ (wnc (by decide) wn0) c200)
  have e17x := (f3x.2 _ _ (wnc (by decide) wn0) c202)
  refine wq_inlv (y2 := 226) (as := [.ref 190, .int 4800]) rfl rfl rfl e2x rfl (wq_mono (m_solves (o := 4800) (f34 := .null) (f35 := .null) (kn := [9, 4, 10, 2, 0, 0, 0, 9, 4, 10, 2, 0, 0, 0]) (lo := [0, (-32), (-32), (-32), (-32), (-64), 0, (-32), (-32), (-32), (-32), (-64)]) (hi := [99, 31, 31, 31, 31, 63, 99, 31, 31, 31, 31, 63]) (pl := pl0) e2x hC7x e10x e11x e12x e13x (by decide) e14x e15x (Or.inl rfl) e16x e17x) ?_)
  rw [ml0_eq]
  rintro _ ⟨⟨h8, fs8, fo8, wn8, on8, rfl, f8, l8, hM8, hC8, h348, h358, hF8, hfd8, hN8⟩, pa8, pb8, h2008, h2028⟩
  have h348 : fs8[34]? = some (.int 264) := by rw [h348]; show some (Value.int (nI ml0.length)) = _; rw [ml0_len]; rfl
  have hfo : ∀ k, k < 264 → fo8.getD (4800 + k) 0 = ml0.getD k 0 := by
    intro k hk
    have hk2 : k < ml0.length := by rw [ml0_len]; exact hk
    rw [hfd8.2 k _ (List.getElem?_eq_getElem hk2), List.getD_eq_getElem?_getD, List.getElem?_eq_getElem hk2]
    rfl
  have p18x : fs8[27]? = some (.int 0) := by rw [hC8.2 27 ⟨by decide, by decide⟩]; exact p8x
  have p19x : fs8[33]? = some (.int 1) := by rw [hC8.2 33 ⟨by decide, by decide⟩]; exact p9x
  show wq 227 24 [(0, .ref 162)] [] h8 0 0 _
  refine wq_gos (f := 1) (pc2 := 26) (ls2 := [(0, .ref 162)]) (st2 := [.ref 162, .ref 162]) (h2 := h8) (dc2 := 0) (ds2 := 0) 2 rfl ?_
  refine wq_getf rfl hM8 h348 rfl ?_
  refine wq_putf rfl hM8 rfl (by rw [hC8.1.1]; rfl) rfl ?_
  intro h20x e21x f22x l23x
  obtain ⟨fs24x, hf25x⟩ : ∃ x, x = fs8.set 32 (.int 264) := ⟨_, rfl⟩
  rw [← hf25x] at e21x
  have hC26x : mC fs24x := by rw [hf25x]; exact mC_set hC8.1 (by decide) _
  have p27x : fs24x[34]? = some (.int 264) := by rw [hf25x, List.getElem?_set_ne (by decide)]; exact h348
  have p28x : fs24x[35]? = some (.int wn8) := by rw [hf25x, List.getElem?_set_ne (by decide)]; exact h358
  have p29x : fs24x[27]? = some (.int 0) := by rw [hf25x, List.getElem?_set_ne (by decide)]; exact p18x
  have p30x : fs24x[33]? = some (.int 1) := by rw [hf25x, List.getElem?_set_ne (by decide)]; exact p19x
  have p31x : fs24x[32]? = some (.int 264) := by rw [hf25x]; exact List.getElem?_set_self (by rw [hC8.1.1]; decide)
  refine wq_gos (f := 1) (pc2 := 34) (ls2 := [(0, .ref 162)]) (st2 := [.ref 162, .ref 162]) (h2 := h20x) (dc2 := 0) (ds2 := 0) 2 rfl ?_
  refine wq_getf rfl e21x p27x rfl ?_
  refine wq_gos (f := 1) (pc2 := 48) (ls2 := [(0, .ref 162)]) (st2 := [.int 0, .ref 162]) (h2 := h20x) (dc2 := 0) (ds2 := 0) 2 rfl ?_
  refine wq_putf rfl e21x rfl (by rw [hC26x.1]; rfl) rfl ?_
  intro h32x e33x f34x l35x
  obtain ⟨fs36x, hf37x⟩ : ∃ x, x = fs24x.set 39 (.int 0) := ⟨_, rfl⟩
  rw [← hf37x] at e33x
  have hC38x : mC fs36x := by rw [hf37x]; exact mC_set hC26x (by decide) _
  have p39x : fs36x[34]? = some (.int 264) := by rw [hf37x, List.getElem?_set_ne (by decide)]; exact p27x
  have p40x : fs36x[35]? = some (.int wn8) := by rw [hf37x, List.getElem?_set_ne (by decide)]; exact p28x
  have p41x : fs36x[27]? = some (.int 0) := by rw [hf37x, List.getElem?_set_ne (by decide)]; exact p29x
  have p42x : fs36x[33]? = some (.int 1) := by rw [hf37x, List.getElem?_set_ne (by decide)]; exact p30x
  have p43x : fs36x[32]? = some (.int 264) := by rw [hf37x, List.getElem?_set_ne (by decide)]; exact p31x
  have p44x : fs36x[39]? = some (.int 0) := by rw [hf37x]; exact List.getElem?_set_self (by rw [hC26x.1]; decide)
  have e45x := (f34x.2 _ _ (wnc (by decide) wn0) (f22x.2 _ _ (wnc (by decide) wn0) hF8))
  exact wq_ret rfl rfl ⟨h32x, fs36x, fo8, rfl, (wFr_tr (wFr_sub f3x (by simp)) (wFr_tr (wFr_sub f8 (by simp)) (wFr_tr (wFr_sub f22x (by simp)) (wFr_sub f34x (by simp))))), e33x, hC38x, p43x, p44x, p41x, e45x, hfo⟩
