/-! ops 12, 13, 15, 18: solutions, solution, why, take at the first state. -/
set_option maxRecDepth 100000 in
set_option maxHeartbeats 4000000 in
theorem c_o12 {h : zH}  (c0 : zat h 0 = some (.inr (.inr (.inr (9, [.ref 2, .int 0, .ref 4, .ref 6, .ref 20, .long 70644700037184, .ref 34, .ref 36, .int 0, .long 0, .ref 42, .ref 44, .ref 60, .ref 66, .ref 72, .ref 74, .ref 150, .ref 158]))))) (c6 : zat h 6 = some (.inr (.inr (.inr (0, [.int 9, .int 4, .int 10, .int 2, .int 0, .long 70644700037184, .ref 8, .ref 10, .ref 12, .int 0, .ref 14, .ref 16, .int 0, .ref 18]))))) (c8 : zat h 8 = some (.inl (0, 6, [0, (-32), (-32), (-32), (-32), (-64)]))) (c10 : zat h 10 = some (.inl (0, 6, [99, 31, 31, 31, 31, 63]))) (c34 : zat h 34 = some (.inl (0, 6, [22000000, 0, 10000, 0, 0, 0]))) (c44 : zat h 44 = some (.inr (.inr (.inr (7, [.null, .null, .ref 46, .int 0, .ref 48, .ref 50, .ref 52, .ref 54, .ref 56, .ref 58]))))) (c46 : zat h 46 = some (.inl (0, 6, []))) (c48 : zat h 48 = some (.inl (0, 128, []))) (c50 : zat h 50 = some (.inl (0, 128, []))) (c52 : zat h 52 = some (.inl (0, 128, []))) (c54 : zat h 54 = some (.inl (0, 128, []))) (c56 : zat h 56 = some (.inl (0, 101, []))) (c58 : zat h 58 = some (.inr (.inl (16, [])))) (c60 : zat h 60 = some (.inr (.inr (.inr (1, [.int 0, .int 0, .ref 62, .ref 64, .int 0, .int 0]))))) (c62 : zat h 62 = some (.inr (.inl (16, [])))) (c64 : zat h 64 = some (.inl (0, 6, []))) (hlen : 117 ≤ h.length)  : wq 113 0 [(0, .ref 0)] [] h 0 0 (fun r => ∃ (h2 : zH) (d s : Nat), r = (some (.int 264), h2, d, s) ∧ wFr [0, 36, 38, 40, 62, 60, 64, 44, 46, 48, 50, 52, 54, 56, 58] h h2 ∧ d ≤ 1200 ∧ s ≤ 720000) := by
  refine wq_gos (f := 1) (pc2 := 1) (ls2 := [(0, .ref 0)]) (st2 := [.ref 0]) (h2 := h) (dc2 := 0) (ds2 := 0) 1 rfl ?_
  refine wq_inlv (y2 := 148) (as := []) rfl rfl rfl c0 rfl (wq_mono (c_held0 c0 c6 c8 c10 c34 c44 c46 c48 c50 c52 c54 c56 c58 c60 c62 c64 hlen) ?_)
  rintro _ ⟨h8, rL2, cap2, ks2, fa2, li2, d, s, rfl, f8, j9, j11, j15, j14⟩
  show wq 113 4 [(0, .ref 0)] [.ref 60] h8 (0 + d) (0 + s) _
  rw [Nat.zero_add, Nat.zero_add]
  refine wq_gos (f := 1) (pc2 := 6) (ls2 := [(1, .ref 60), (0, .ref 0)]) (st2 := [.ref 60]) (h2 := h8) (dc2 := d) (ds2 := s) 2 rfl ?_
  refine wq_inlv (y2 := 16) (as := []) rfl rfl rfl j9 rfl ?_
  show wq 16 0 [(0, .ref 60)] [] h8 0 0 _
  refine wq_gos (f := 1) (pc2 := 1) (ls2 := [(0, .ref 60)]) (st2 := [.ref 60]) (h2 := h8) (dc2 := 0) (ds2 := 0) 1 rfl ?_
  refine wq_getf rfl j9 rfl rfl ?_
  refine wq_gos (f := 1) (pc2 := 15) (ls2 := [(0, .ref 60)]) (st2 := [.int 0]) (h2 := h8) (dc2 := 0) (ds2 := 0) 3 rfl ?_
  refine wq_ret rfl rfl ?_
  show wq 113 9 [(1, .ref 60), (0, .ref 0)] [.int 0] h8 d s _
  refine wq_gos (f := 1) (pc2 := 18) (ls2 := [(1, .ref 60), (0, .ref 0)]) (st2 := [.ref 60]) (h2 := h8) (dc2 := d) (ds2 := s) 2 rfl ?_
  refine wq_getf rfl j9 rfl rfl ?_
  exact wq_ret rfl rfl ⟨h8, d, s, rfl, (wFr_tr (wFr_rf _ _) (wFr_sub f8 (by simp))), by omega, by omega⟩
set_option maxRecDepth 100000 in
set_option maxHeartbeats 4000000 in
theorem m_o12 {h : zH} {fs : List Value}  (hM : zat h 162 = some (.inr (.inr (.inr (10, fs))))) (hC : mC fs) (c166 : zat h 166 = some (.inl (0, 14, [9, 4, 10, 2, 0, 0, 0, 9, 4, 10, 2, 0, 0, 0]))) (c168 : zat h 168 = some (.inl (0, 12, [0, (-32), (-32), (-32), (-32), (-64), 0, (-32), (-32), (-32), (-32), (-64)]))) (c170 : zat h 170 = some (.inl (0, 12, [99, 31, 31, 31, 31, 63, 99, 31, 31, 31, 31, 63]))) (c190 : zat h 190 = some (.inl (0, 6, [22000000, 0, 10000, 0, 0, 0]))) (c196 : zat h 196 = some (.inr (.inl (6000, [])))) (c200 : zat h 200 = some (.inl (0, 4096, []))) (c202 : zat h 202 = some (.inl (0, 4096, []))) (c204 : zat h 204 = some (.inl (0, 6, []))) (h33 : fs[33]? = some (.int 0)) (h27 : fs[27]? = some (.int 0))  : wq 229 0 [(0, .ref 162)] [] h 0 0 (fun r => ∃ h2, r = (some (.int 264), h2, 0, 0)) := by
  refine wq_gos (f := 1) (pc2 := 2) (ls2 := [(0, .ref 162)]) (st2 := [.int 0, .ref 162]) (h2 := h) (dc2 := 0) (ds2 := 0) 2 rfl ?_
  refine wq_putf rfl hM rfl (by rw [hC.1]; rfl) rfl ?_
  intro h1x e2x f3x l4x
  obtain ⟨fs5x, hf6x⟩ : ∃ x, x = fs.set 0 (.int 0) := ⟨_, rfl⟩
  rw [← hf6x] at e2x
  have hC7x : mC fs5x := by rw [hf6x]; exact mC_set hC (by decide) _
  have p8x : fs5x[33]? = some (.int 0) := by rw [hf6x, List.getElem?_set_ne (by decide)]; exact h33
  have p9x : fs5x[27]? = some (.int 0) := by rw [hf6x, List.getElem?_set_ne (by decide)]; exact h27
  have p10x : fs5x[0]? = some (.int 0) := by rw [hf6x]; exact List.getElem?_set_self (by rw [hC.1]; decide)
  refine wq_gos (f := 1) (pc2 := 6) (ls2 := [(0, .ref 162)]) (st2 := [.ref 162]) (h2 := h1x) (dc2 := 0) (ds2 := 0) 1 rfl ?_
  have e11x := (f3x.2 _ _ (wnc (by decide) wn0) c166)
  have e12x := (f3x.2 _ _ (wnc (by decide) wn0) c168)
  have e13x := (f3x.2 _ _ (wnc (by decide) wn0) c170)
  have e14x := (f3x.2 _ _ (wnc (by decide) wn0) c190)
  have e15x := (f3x.2 _ _ (wnc (by decide) wn0) c196)
  have e16x := (f3x.2 _ _ (wnc (by decide) wn0) c200)
  have e17x := (f3x.2 _ _ (wnc (by decide) wn0) c202)
  have e18x := (f3x.2 _ _ (wnc (by decide) wn0) c204)
  refine wq_inlv (y2 := 227) (as := []) rfl rfl rfl e2x rfl (wq_mono (m_aim0 e2x hC7x e11x e12x e13x e14x e15x e16x e17x e18x p8x p9x) ?_)
  rintro _ ⟨h8, fs8, fo8, rfl, f8, hM8, hC8, h328, h398, h278, hF8, hfo⟩
  show wq 229 9 [(0, .ref 162)] [] h8 0 0 _
  refine wq_gos (f := 1) (pc2 := 10) (ls2 := [(0, .ref 162)]) (st2 := [.ref 162]) (h2 := h8) (dc2 := 0) (ds2 := 0) 1 rfl ?_
  refine wq_getf rfl hM8 h328 rfl ?_
  exact wq_ret rfl rfl ⟨h8, rfl⟩
set_option maxRecDepth 100000 in
set_option maxHeartbeats 4000000 in
theorem c_o15 {h : zH}  (c0 : zat h 0 = some (.inr (.inr (.inr (9, [.ref 2, .int 0, .ref 4, .ref 6, .ref 20, .long 70644700037184, .ref 34, .ref 36, .int 0, .long 0, .ref 42, .ref 44, .ref 60, .ref 66, .ref 72, .ref 74, .ref 150, .ref 158]))))) (c6 : zat h 6 = some (.inr (.inr (.inr (0, [.int 9, .int 4, .int 10, .int 2, .int 0, .long 70644700037184, .ref 8, .ref 10, .ref 12, .int 0, .ref 14, .ref 16, .int 0, .ref 18]))))) (c8 : zat h 8 = some (.inl (0, 6, [0, (-32), (-32), (-32), (-32), (-64)]))) (c10 : zat h 10 = some (.inl (0, 6, [99, 31, 31, 31, 31, 63]))) (c34 : zat h 34 = some (.inl (0, 6, [22000000, 0, 10000, 0, 0, 0]))) (c44 : zat h 44 = some (.inr (.inr (.inr (7, [.null, .null, .ref 46, .int 0, .ref 48, .ref 50, .ref 52, .ref 54, .ref 56, .ref 58]))))) (c46 : zat h 46 = some (.inl (0, 6, []))) (c48 : zat h 48 = some (.inl (0, 128, []))) (c50 : zat h 50 = some (.inl (0, 128, []))) (c52 : zat h 52 = some (.inl (0, 128, []))) (c54 : zat h 54 = some (.inl (0, 128, []))) (c56 : zat h 56 = some (.inl (0, 101, []))) (c58 : zat h 58 = some (.inr (.inl (16, [])))) (c60 : zat h 60 = some (.inr (.inr (.inr (1, [.int 0, .int 0, .ref 62, .ref 64, .int 0, .int 0]))))) (c62 : zat h 62 = some (.inr (.inl (16, [])))) (c64 : zat h 64 = some (.inl (0, 6, []))) (hlen : 117 ≤ h.length)  : wq 116 0 [(0, .ref 0)] [] h 0 0 (fun r => ∃ (h2 : zH) (d s : Nat), r = (some (.int 0), h2, d, s) ∧ wFr [0, 36, 38, 40, 62, 60, 64, 44, 46, 48, 50, 52, 54, 56, 58] h h2 ∧ d ≤ 1200 ∧ s ≤ 720000) := by
  refine wq_gos (f := 1) (pc2 := 1) (ls2 := [(0, .ref 0)]) (st2 := [.ref 0]) (h2 := h) (dc2 := 0) (ds2 := 0) 1 rfl ?_
  refine wq_inlv (y2 := 148) (as := []) rfl rfl rfl c0 rfl (wq_mono (c_held0 c0 c6 c8 c10 c34 c44 c46 c48 c50 c52 c54 c56 c58 c60 c62 c64 hlen) ?_)
  rintro _ ⟨h8, rL2, cap2, ks2, fa2, li2, d, s, rfl, f8, j9, j11, j15, j14⟩
  show wq 116 4 [(0, .ref 0)] [.ref 60] h8 (0 + d) (0 + s) _
  rw [Nat.zero_add, Nat.zero_add]
  refine wq_inlv (y2 := 20) (as := []) rfl rfl rfl j9 rfl ?_
  show wq 20 0 [(0, .ref 60)] [] h8 0 0 _
  refine wq_gos (f := 1) (pc2 := 1) (ls2 := [(0, .ref 60)]) (st2 := [.ref 60]) (h2 := h8) (dc2 := 0) (ds2 := 0) 1 rfl ?_
  refine wq_getf rfl j9 rfl rfl ?_
  refine wq_gos (f := 1) (pc2 := 17) (ls2 := [(0, .ref 60)]) (st2 := [.int 0]) (h2 := h8) (dc2 := 0) (ds2 := 0) 3 rfl ?_
  refine wq_ret rfl rfl ?_
  show wq 116 7 [(0, .ref 0)] [.int 0] h8 d s _
  exact wq_ret rfl rfl ⟨h8, d, s, rfl, (wFr_tr (wFr_rf _ _) (wFr_sub f8 (by simp))), by omega, by omega⟩
set_option maxRecDepth 100000 in
set_option maxHeartbeats 4000000 in
theorem m_o15 {h : zH} {fs : List Value}  (hM : zat h 162 = some (.inr (.inr (.inr (10, fs))))) (hC : mC fs) (c166 : zat h 166 = some (.inl (0, 14, [9, 4, 10, 2, 0, 0, 0, 9, 4, 10, 2, 0, 0, 0]))) (c168 : zat h 168 = some (.inl (0, 12, [0, (-32), (-32), (-32), (-32), (-64), 0, (-32), (-32), (-32), (-32), (-64)]))) (c170 : zat h 170 = some (.inl (0, 12, [99, 31, 31, 31, 31, 63, 99, 31, 31, 31, 31, 63]))) (c190 : zat h 190 = some (.inl (0, 6, [22000000, 0, 10000, 0, 0, 0]))) (c196 : zat h 196 = some (.inr (.inl (6000, [])))) (c200 : zat h 200 = some (.inl (0, 4096, []))) (c202 : zat h 202 = some (.inl (0, 4096, []))) (c204 : zat h 204 = some (.inl (0, 6, []))) (h33 : fs[33]? = some (.int 0)) (h27 : fs[27]? = some (.int 0))  : wq 232 0 [(0, .ref 162)] [] h 0 0 (fun r => ∃ h2, r = (some (.int 0), h2, 0, 0)) := by
  refine wq_gos (f := 1) (pc2 := 2) (ls2 := [(0, .ref 162)]) (st2 := [.int 0, .ref 162]) (h2 := h) (dc2 := 0) (ds2 := 0) 2 rfl ?_
  refine wq_putf rfl hM rfl (by rw [hC.1]; rfl) rfl ?_
  intro h1x e2x f3x l4x
  obtain ⟨fs5x, hf6x⟩ : ∃ x, x = fs.set 0 (.int 0) := ⟨_, rfl⟩
  rw [← hf6x] at e2x
  have hC7x : mC fs5x := by rw [hf6x]; exact mC_set hC (by decide) _
  have p8x : fs5x[33]? = some (.int 0) := by rw [hf6x, List.getElem?_set_ne (by decide)]; exact h33
  have p9x : fs5x[27]? = some (.int 0) := by rw [hf6x, List.getElem?_set_ne (by decide)]; exact h27
  have p10x : fs5x[0]? = some (.int 0) := by rw [hf6x]; exact List.getElem?_set_self (by rw [hC.1]; decide)
  refine wq_gos (f := 1) (pc2 := 6) (ls2 := [(0, .ref 162)]) (st2 := [.ref 162]) (h2 := h1x) (dc2 := 0) (ds2 := 0) 1 rfl ?_
  have e11x := (f3x.2 _ _ (wnc (by decide) wn0) c166)
  have e12x := (f3x.2 _ _ (wnc (by decide) wn0) c168)
  have e13x := (f3x.2 _ _ (wnc (by decide) wn0) c170)
  have e14x := (f3x.2 _ _ (wnc (by decide) wn0) c190)
  have e15x := (f3x.2 _ _ (wnc (by decide) wn0) c196)
  have e16x := (f3x.2 _ _ (wnc (by decide) wn0) c200)
  have e17x := (f3x.2 _ _ (wnc (by decide) wn0) c202)
  have e18x := (f3x.2 _ _ (wnc (by decide) wn0) c204)
  refine wq_inlv (y2 := 227) (as := []) rfl rfl rfl e2x rfl (wq_mono (m_aim0 e2x hC7x e11x e12x e13x e14x e15x e16x e17x e18x p8x p9x) ?_)
  rintro _ ⟨h8, fs8, fo8, rfl, f8, hM8, hC8, h328, h398, h278, hF8, hfo⟩
  show wq 232 9 [(0, .ref 162)] [] h8 0 0 _
  refine wq_gos (f := 1) (pc2 := 10) (ls2 := [(0, .ref 162)]) (st2 := [.ref 162]) (h2 := h8) (dc2 := 0) (ds2 := 0) 1 rfl ?_
  refine wq_getf rfl hM8 h398 rfl ?_
  exact wq_ret rfl rfl ⟨h8, rfl⟩
set_option maxRecDepth 100000 in
set_option maxHeartbeats 4000000 in
theorem c_o13jl {h : zH} {kk jj : Int32} (c0 : zat h 0 = some (.inr (.inr (.inr (9, [.ref 2, .int 0, .ref 4, .ref 6, .ref 20, .long 70644700037184, .ref 34, .ref 36, .int 0, .long 0, .ref 42, .ref 44, .ref 60, .ref 66, .ref 72, .ref 74, .ref 150, .ref 158]))))) (c6 : zat h 6 = some (.inr (.inr (.inr (0, [.int 9, .int 4, .int 10, .int 2, .int 0, .long 70644700037184, .ref 8, .ref 10, .ref 12, .int 0, .ref 14, .ref 16, .int 0, .ref 18]))))) (c8 : zat h 8 = some (.inl (0, 6, [0, (-32), (-32), (-32), (-32), (-64)]))) (c10 : zat h 10 = some (.inl (0, 6, [99, 31, 31, 31, 31, 63]))) (c34 : zat h 34 = some (.inl (0, 6, [22000000, 0, 10000, 0, 0, 0]))) (c44 : zat h 44 = some (.inr (.inr (.inr (7, [.null, .null, .ref 46, .int 0, .ref 48, .ref 50, .ref 52, .ref 54, .ref 56, .ref 58]))))) (c46 : zat h 46 = some (.inl (0, 6, []))) (c48 : zat h 48 = some (.inl (0, 128, []))) (c50 : zat h 50 = some (.inl (0, 128, []))) (c52 : zat h 52 = some (.inl (0, 128, []))) (c54 : zat h 54 = some (.inl (0, 128, []))) (c56 : zat h 56 = some (.inl (0, 101, []))) (c58 : zat h 58 = some (.inr (.inl (16, [])))) (c60 : zat h 60 = some (.inr (.inr (.inr (1, [.int 0, .int 0, .ref 62, .ref 64, .int 0, .int 0]))))) (c62 : zat h 62 = some (.inr (.inl (16, [])))) (c64 : zat h 64 = some (.inl (0, 6, []))) (hlen : 117 ≤ h.length) (hj : jj.toInt < 0) : wq 114 0 [(0, .ref 0), (1, .int kk), (2, .int jj)] [] h 0 0 (fun r => ∃ (h2 : zH) (d s : Nat), r = (some (.int (-99)), h2, d, s) ∧ wFr [0, 36, 38, 40, 62, 60, 64, 44, 46, 48, 50, 52, 54, 56, 58] h h2 ∧ d ≤ 1200 ∧ s ≤ 720000) := by
  have e_0 : (0 : Int32).toInt = 0 := rfl
  have e6 : (6 : Int32).toInt = 6 := rfl
  have e264 : (264 : Int32).toInt = 264 := rfl
  refine wq_gos (f := 1) (pc2 := 1) (ls2 := [(0, .ref 0), (1, .int kk), (2, .int jj)]) (st2 := [.ref 0]) (h2 := h) (dc2 := 0) (ds2 := 0) 1 rfl ?_
  refine wq_inlv (y2 := 148) (as := []) rfl rfl rfl c0 rfl (wq_mono (c_held0 c0 c6 c8 c10 c34 c44 c46 c48 c50 c52 c54 c56 c58 c60 c62 c64 hlen) ?_)
  rintro _ ⟨h8, rL2, cap2, ks2, fa2, li2, d, s, rfl, f8, j9, j11, j15, j14⟩
  show wq 114 4 [(0, .ref 0), (1, .int kk), (2, .int jj)] [.ref 60] h8 (0 + d) (0 + s) _
  rw [Nat.zero_add, Nat.zero_add]
  refine wq_gos (f := 1) (pc2 := 6) (ls2 := [(3, .ref 60), (0, .ref 0), (1, .int kk), (2, .int jj)]) (st2 := [.int jj]) (h2 := h8) (dc2 := d) (ds2 := s) 2 rfl ?_
  refine wq_inl (y2 := 144) (as := [.int jj]) rfl rfl rfl ?_
  show wq 144 0 [(0, .int jj)] [] h8 0 0 _
  refine wq_gos (f := 1) (pc2 := 1) (ls2 := [(0, .int jj)]) (st2 := [.int jj]) (h2 := h8) (dc2 := 0) (ds2 := 0) 1 rfl ?_
  refine wq_lt0t rfl (by omega) ?_
  refine wq_gos (f := 1) (pc2 := 15) (ls2 := [(0, .int jj)]) (st2 := [.int 1]) (h2 := h8) (dc2 := 0) (ds2 := 0) 2 rfl ?_
  refine wq_ret rfl rfl ?_
  show wq 114 9 [(3, .ref 60), (0, .ref 0), (1, .int kk), (2, .int jj)] [.int 1] h8 d s _
  refine wq_gos (f := 1) (pc2 := 35) (ls2 := [(3, .ref 60), (0, .ref 0), (1, .int kk), (2, .int jj)]) (st2 := [.int (-99)]) (h2 := h8) (dc2 := d) (ds2 := s) 3 rfl ?_
  exact wq_ret rfl rfl ⟨h8, d, s, rfl, (wFr_tr (wFr_rf _ _) (wFr_sub f8 (by simp))), by omega, by omega⟩
set_option maxRecDepth 100000 in
set_option maxHeartbeats 4000000 in
theorem m_o13jl {h : zH} {fs : List Value} {kk jj : Int32} (hM : zat h 162 = some (.inr (.inr (.inr (10, fs))))) (hC : mC fs) (c166 : zat h 166 = some (.inl (0, 14, [9, 4, 10, 2, 0, 0, 0, 9, 4, 10, 2, 0, 0, 0]))) (c168 : zat h 168 = some (.inl (0, 12, [0, (-32), (-32), (-32), (-32), (-64), 0, (-32), (-32), (-32), (-32), (-64)]))) (c170 : zat h 170 = some (.inl (0, 12, [99, 31, 31, 31, 31, 63, 99, 31, 31, 31, 31, 63]))) (c190 : zat h 190 = some (.inl (0, 6, [22000000, 0, 10000, 0, 0, 0]))) (c196 : zat h 196 = some (.inr (.inl (6000, [])))) (c200 : zat h 200 = some (.inl (0, 4096, []))) (c202 : zat h 202 = some (.inl (0, 4096, []))) (c204 : zat h 204 = some (.inl (0, 6, []))) (h33 : fs[33]? = some (.int 0)) (h27 : fs[27]? = some (.int 0)) (hj : jj.toInt < 0) : wq 231 0 [(0, .ref 162), (1, .int kk), (2, .int jj)] [] h 0 0 (fun r => ∃ h2, r = (some (.int (-99)), h2, 0, 0)) := by
  have e_0 : (0 : Int32).toInt = 0 := rfl
  have e6 : (6 : Int32).toInt = 6 := rfl
  have e264 : (264 : Int32).toInt = 264 := rfl
  refine wq_gos (f := 1) (pc2 := 2) (ls2 := [(0, .ref 162), (1, .int kk), (2, .int jj)]) (st2 := [.int 0, .ref 162]) (h2 := h) (dc2 := 0) (ds2 := 0) 2 rfl ?_
  refine wq_putf rfl hM rfl (by rw [hC.1]; rfl) rfl ?_
  intro h1x e2x f3x l4x
  obtain ⟨fs5x, hf6x⟩ : ∃ x, x = fs.set 0 (.int 0) := ⟨_, rfl⟩
  rw [← hf6x] at e2x
  have hC7x : mC fs5x := by rw [hf6x]; exact mC_set hC (by decide) _
  have p8x : fs5x[33]? = some (.int 0) := by rw [hf6x, List.getElem?_set_ne (by decide)]; exact h33
  have p9x : fs5x[27]? = some (.int 0) := by rw [hf6x, List.getElem?_set_ne (by decide)]; exact h27
  have p10x : fs5x[0]? = some (.int 0) := by rw [hf6x]; exact List.getElem?_set_self (by rw [hC.1]; decide)
  refine wq_gos (f := 1) (pc2 := 6) (ls2 := [(0, .ref 162), (1, .int kk), (2, .int jj)]) (st2 := [.int jj]) (h2 := h1x) (dc2 := 0) (ds2 := 0) 1 rfl ?_
  refine wq_inl (y2 := 208) (as := [.int jj]) rfl rfl rfl ?_
  show wq 208 0 [(0, .int jj)] [] h1x 0 0 _
  refine wq_gos (f := 1) (pc2 := 1) (ls2 := [(0, .int jj)]) (st2 := [.int jj]) (h2 := h1x) (dc2 := 0) (ds2 := 0) 1 rfl ?_
  refine wq_lt0t rfl (by omega) ?_
  refine wq_gos (f := 1) (pc2 := 15) (ls2 := [(0, .int jj)]) (st2 := [.int 0]) (h2 := h1x) (dc2 := 0) (ds2 := 0) 1 rfl ?_
  refine wq_ret rfl rfl ?_
  show wq 231 9 [(0, .ref 162), (1, .int kk), (2, .int jj)] [.int 0] h1x 0 0 _
  refine wq_gos (f := 1) (pc2 := 35) (ls2 := [(0, .ref 162), (1, .int kk), (2, .int jj)]) (st2 := [.int (-99)]) (h2 := h1x) (dc2 := 0) (ds2 := 0) 2 rfl ?_
  exact wq_ret rfl rfl ⟨h1x, rfl⟩
set_option maxRecDepth 100000 in
set_option maxHeartbeats 4000000 in
theorem c_o13jh {h : zH} {kk jj : Int32} (c0 : zat h 0 = some (.inr (.inr (.inr (9, [.ref 2, .int 0, .ref 4, .ref 6, .ref 20, .long 70644700037184, .ref 34, .ref 36, .int 0, .long 0, .ref 42, .ref 44, .ref 60, .ref 66, .ref 72, .ref 74, .ref 150, .ref 158]))))) (c6 : zat h 6 = some (.inr (.inr (.inr (0, [.int 9, .int 4, .int 10, .int 2, .int 0, .long 70644700037184, .ref 8, .ref 10, .ref 12, .int 0, .ref 14, .ref 16, .int 0, .ref 18]))))) (c8 : zat h 8 = some (.inl (0, 6, [0, (-32), (-32), (-32), (-32), (-64)]))) (c10 : zat h 10 = some (.inl (0, 6, [99, 31, 31, 31, 31, 63]))) (c34 : zat h 34 = some (.inl (0, 6, [22000000, 0, 10000, 0, 0, 0]))) (c44 : zat h 44 = some (.inr (.inr (.inr (7, [.null, .null, .ref 46, .int 0, .ref 48, .ref 50, .ref 52, .ref 54, .ref 56, .ref 58]))))) (c46 : zat h 46 = some (.inl (0, 6, []))) (c48 : zat h 48 = some (.inl (0, 128, []))) (c50 : zat h 50 = some (.inl (0, 128, []))) (c52 : zat h 52 = some (.inl (0, 128, []))) (c54 : zat h 54 = some (.inl (0, 128, []))) (c56 : zat h 56 = some (.inl (0, 101, []))) (c58 : zat h 58 = some (.inr (.inl (16, [])))) (c60 : zat h 60 = some (.inr (.inr (.inr (1, [.int 0, .int 0, .ref 62, .ref 64, .int 0, .int 0]))))) (c62 : zat h 62 = some (.inr (.inl (16, [])))) (c64 : zat h 64 = some (.inl (0, 6, []))) (hlen : 117 ≤ h.length) (hj : 6 ≤ jj.toInt) : wq 114 0 [(0, .ref 0), (1, .int kk), (2, .int jj)] [] h 0 0 (fun r => ∃ (h2 : zH) (d s : Nat), r = (some (.int (-99)), h2, d, s) ∧ wFr [0, 36, 38, 40, 62, 60, 64, 44, 46, 48, 50, 52, 54, 56, 58] h h2 ∧ d ≤ 1200 ∧ s ≤ 720000) := by
  have e_0 : (0 : Int32).toInt = 0 := rfl
  have e6 : (6 : Int32).toInt = 6 := rfl
  have e264 : (264 : Int32).toInt = 264 := rfl
  refine wq_gos (f := 1) (pc2 := 1) (ls2 := [(0, .ref 0), (1, .int kk), (2, .int jj)]) (st2 := [.ref 0]) (h2 := h) (dc2 := 0) (ds2 := 0) 1 rfl ?_
  refine wq_inlv (y2 := 148) (as := []) rfl rfl rfl c0 rfl (wq_mono (c_held0 c0 c6 c8 c10 c34 c44 c46 c48 c50 c52 c54 c56 c58 c60 c62 c64 hlen) ?_)
  rintro _ ⟨h8, rL2, cap2, ks2, fa2, li2, d, s, rfl, f8, j9, j11, j15, j14⟩
  show wq 114 4 [(0, .ref 0), (1, .int kk), (2, .int jj)] [.ref 60] h8 (0 + d) (0 + s) _
  rw [Nat.zero_add, Nat.zero_add]
  refine wq_gos (f := 1) (pc2 := 6) (ls2 := [(3, .ref 60), (0, .ref 0), (1, .int kk), (2, .int jj)]) (st2 := [.int jj]) (h2 := h8) (dc2 := d) (ds2 := s) 2 rfl ?_
  refine wq_inl (y2 := 144) (as := [.int jj]) rfl rfl rfl ?_
  show wq 144 0 [(0, .int jj)] [] h8 0 0 _
  refine wq_gos (f := 1) (pc2 := 1) (ls2 := [(0, .int jj)]) (st2 := [.int jj]) (h2 := h8) (dc2 := 0) (ds2 := 0) 1 rfl ?_
  refine wq_lt0f rfl rfl (by omega) ?_
  refine wq_gos (f := 1) (pc2 := 7) (ls2 := [(0, .int jj)]) (st2 := [.int 6, .int jj]) (h2 := h8) (dc2 := 0) (ds2 := 0) 2 rfl ?_
  refine wq_lt2f rfl rfl (by omega) ?_
  refine wq_gos (f := 1) (pc2 := 15) (ls2 := [(0, .int jj)]) (st2 := [.int 1]) (h2 := h8) (dc2 := 0) (ds2 := 0) 2 rfl ?_
  refine wq_ret rfl rfl ?_
  show wq 114 9 [(3, .ref 60), (0, .ref 0), (1, .int kk), (2, .int jj)] [.int 1] h8 d s _
  refine wq_gos (f := 1) (pc2 := 35) (ls2 := [(3, .ref 60), (0, .ref 0), (1, .int kk), (2, .int jj)]) (st2 := [.int (-99)]) (h2 := h8) (dc2 := d) (ds2 := s) 3 rfl ?_
  exact wq_ret rfl rfl ⟨h8, d, s, rfl, (wFr_tr (wFr_rf _ _) (wFr_sub f8 (by simp))), by omega, by omega⟩
set_option maxRecDepth 100000 in
set_option maxHeartbeats 4000000 in
theorem m_o13jh {h : zH} {fs : List Value} {kk jj : Int32} (hM : zat h 162 = some (.inr (.inr (.inr (10, fs))))) (hC : mC fs) (c166 : zat h 166 = some (.inl (0, 14, [9, 4, 10, 2, 0, 0, 0, 9, 4, 10, 2, 0, 0, 0]))) (c168 : zat h 168 = some (.inl (0, 12, [0, (-32), (-32), (-32), (-32), (-64), 0, (-32), (-32), (-32), (-32), (-64)]))) (c170 : zat h 170 = some (.inl (0, 12, [99, 31, 31, 31, 31, 63, 99, 31, 31, 31, 31, 63]))) (c190 : zat h 190 = some (.inl (0, 6, [22000000, 0, 10000, 0, 0, 0]))) (c196 : zat h 196 = some (.inr (.inl (6000, [])))) (c200 : zat h 200 = some (.inl (0, 4096, []))) (c202 : zat h 202 = some (.inl (0, 4096, []))) (c204 : zat h 204 = some (.inl (0, 6, []))) (h33 : fs[33]? = some (.int 0)) (h27 : fs[27]? = some (.int 0)) (hj : 6 ≤ jj.toInt) : wq 231 0 [(0, .ref 162), (1, .int kk), (2, .int jj)] [] h 0 0 (fun r => ∃ h2, r = (some (.int (-99)), h2, 0, 0)) := by
  have e_0 : (0 : Int32).toInt = 0 := rfl
  have e6 : (6 : Int32).toInt = 6 := rfl
  have e264 : (264 : Int32).toInt = 264 := rfl
  refine wq_gos (f := 1) (pc2 := 2) (ls2 := [(0, .ref 162), (1, .int kk), (2, .int jj)]) (st2 := [.int 0, .ref 162]) (h2 := h) (dc2 := 0) (ds2 := 0) 2 rfl ?_
  refine wq_putf rfl hM rfl (by rw [hC.1]; rfl) rfl ?_
  intro h1x e2x f3x l4x
  obtain ⟨fs5x, hf6x⟩ : ∃ x, x = fs.set 0 (.int 0) := ⟨_, rfl⟩
  rw [← hf6x] at e2x
  have hC7x : mC fs5x := by rw [hf6x]; exact mC_set hC (by decide) _
  have p8x : fs5x[33]? = some (.int 0) := by rw [hf6x, List.getElem?_set_ne (by decide)]; exact h33
  have p9x : fs5x[27]? = some (.int 0) := by rw [hf6x, List.getElem?_set_ne (by decide)]; exact h27
  have p10x : fs5x[0]? = some (.int 0) := by rw [hf6x]; exact List.getElem?_set_self (by rw [hC.1]; decide)
  refine wq_gos (f := 1) (pc2 := 6) (ls2 := [(0, .ref 162), (1, .int kk), (2, .int jj)]) (st2 := [.int jj]) (h2 := h1x) (dc2 := 0) (ds2 := 0) 1 rfl ?_
  refine wq_inl (y2 := 208) (as := [.int jj]) rfl rfl rfl ?_
  show wq 208 0 [(0, .int jj)] [] h1x 0 0 _
  refine wq_gos (f := 1) (pc2 := 1) (ls2 := [(0, .int jj)]) (st2 := [.int jj]) (h2 := h1x) (dc2 := 0) (ds2 := 0) 1 rfl ?_
  refine wq_lt0f rfl rfl (by omega) ?_
  refine wq_gos (f := 1) (pc2 := 7) (ls2 := [(0, .int jj)]) (st2 := [.int 6, .int jj]) (h2 := h1x) (dc2 := 0) (ds2 := 0) 2 rfl ?_
  refine wq_ge2t rfl (by omega) ?_
  refine wq_gos (f := 1) (pc2 := 15) (ls2 := [(0, .int jj)]) (st2 := [.int 0]) (h2 := h1x) (dc2 := 0) (ds2 := 0) 1 rfl ?_
  refine wq_ret rfl rfl ?_
  show wq 231 9 [(0, .ref 162), (1, .int kk), (2, .int jj)] [.int 0] h1x 0 0 _
  refine wq_gos (f := 1) (pc2 := 35) (ls2 := [(0, .ref 162), (1, .int kk), (2, .int jj)]) (st2 := [.int (-99)]) (h2 := h1x) (dc2 := 0) (ds2 := 0) 2 rfl ?_
  exact wq_ret rfl rfl ⟨h1x, rfl⟩
set_option maxRecDepth 100000 in
set_option maxHeartbeats 4000000 in
theorem c_o13kl0 {h : zH} {kk : Int32} (c0 : zat h 0 = some (.inr (.inr (.inr (9, [.ref 2, .int 0, .ref 4, .ref 6, .ref 20, .long 70644700037184, .ref 34, .ref 36, .int 0, .long 0, .ref 42, .ref 44, .ref 60, .ref 66, .ref 72, .ref 74, .ref 150, .ref 158]))))) (c6 : zat h 6 = some (.inr (.inr (.inr (0, [.int 9, .int 4, .int 10, .int 2, .int 0, .long 70644700037184, .ref 8, .ref 10, .ref 12, .int 0, .ref 14, .ref 16, .int 0, .ref 18]))))) (c8 : zat h 8 = some (.inl (0, 6, [0, (-32), (-32), (-32), (-32), (-64)]))) (c10 : zat h 10 = some (.inl (0, 6, [99, 31, 31, 31, 31, 63]))) (c34 : zat h 34 = some (.inl (0, 6, [22000000, 0, 10000, 0, 0, 0]))) (c44 : zat h 44 = some (.inr (.inr (.inr (7, [.null, .null, .ref 46, .int 0, .ref 48, .ref 50, .ref 52, .ref 54, .ref 56, .ref 58]))))) (c46 : zat h 46 = some (.inl (0, 6, []))) (c48 : zat h 48 = some (.inl (0, 128, []))) (c50 : zat h 50 = some (.inl (0, 128, []))) (c52 : zat h 52 = some (.inl (0, 128, []))) (c54 : zat h 54 = some (.inl (0, 128, []))) (c56 : zat h 56 = some (.inl (0, 101, []))) (c58 : zat h 58 = some (.inr (.inl (16, [])))) (c60 : zat h 60 = some (.inr (.inr (.inr (1, [.int 0, .int 0, .ref 62, .ref 64, .int 0, .int 0]))))) (c62 : zat h 62 = some (.inr (.inl (16, [])))) (c64 : zat h 64 = some (.inl (0, 6, []))) (hlen : 117 ≤ h.length) (hk : kk.toInt < 0) : wq 114 0 [(0, .ref 0), (1, .int kk), (2, .int 0)] [] h 0 0 (fun r => ∃ (h2 : zH) (d s : Nat), r = (some (.int (-99)), h2, d, s) ∧ wFr [0, 36, 38, 40, 62, 60, 64, 44, 46, 48, 50, 52, 54, 56, 58] h h2 ∧ d ≤ 1200 ∧ s ≤ 720000) := by
  have e_0 : (0 : Int32).toInt = 0 := rfl
  have e6 : (6 : Int32).toInt = 6 := rfl
  have e264 : (264 : Int32).toInt = 264 := rfl
  refine wq_gos (f := 1) (pc2 := 1) (ls2 := [(0, .ref 0), (1, .int kk), (2, .int 0)]) (st2 := [.ref 0]) (h2 := h) (dc2 := 0) (ds2 := 0) 1 rfl ?_
  refine wq_inlv (y2 := 148) (as := []) rfl rfl rfl c0 rfl (wq_mono (c_held0 c0 c6 c8 c10 c34 c44 c46 c48 c50 c52 c54 c56 c58 c60 c62 c64 hlen) ?_)
  rintro _ ⟨h8, rL2, cap2, ks2, fa2, li2, d, s, rfl, f8, j9, j11, j15, j14⟩
  show wq 114 4 [(0, .ref 0), (1, .int kk), (2, .int 0)] [.ref 60] h8 (0 + d) (0 + s) _
  rw [Nat.zero_add, Nat.zero_add]
  refine wq_gos (f := 1) (pc2 := 6) (ls2 := [(3, .ref 60), (0, .ref 0), (1, .int kk), (2, .int 0)]) (st2 := [.int 0]) (h2 := h8) (dc2 := d) (ds2 := s) 2 rfl ?_
  refine wq_inl (y2 := 144) (as := [.int 0]) rfl rfl rfl ?_
  show wq 144 0 [(0, .int 0)] [] h8 0 0 _
  refine wq_gos (f := 1) (pc2 := 15) (ls2 := [(0, .int 0)]) (st2 := [.int 0]) (h2 := h8) (dc2 := 0) (ds2 := 0) 6 rfl ?_
  refine wq_ret rfl rfl ?_
  show wq 114 9 [(3, .ref 60), (0, .ref 0), (1, .int kk), (2, .int 0)] [.int 0] h8 d s _
  refine wq_gos (f := 1) (pc2 := 14) (ls2 := [(3, .ref 60), (0, .ref 0), (1, .int kk), (2, .int 0)]) (st2 := [.int kk, .ref 60]) (h2 := h8) (dc2 := d) (ds2 := s) 3 rfl ?_
  refine wq_inlv (y2 := 17) (as := [.int kk]) rfl rfl rfl j9 rfl ?_
  show wq 17 0 [(0, .ref 60), (1, .int kk)] [] h8 0 0 _
  refine wq_gos (f := 1) (pc2 := 1) (ls2 := [(0, .ref 60), (1, .int kk)]) (st2 := [.int kk]) (h2 := h8) (dc2 := 0) (ds2 := 0) 1 rfl ?_
  refine wq_lt0t rfl (by omega) ?_
  refine wq_gos (f := 1) (pc2 := 24) (ls2 := [(0, .ref 60), (1, .int kk)]) (st2 := [.int 0]) (h2 := h8) (dc2 := 0) (ds2 := 0) 1 rfl ?_
  refine wq_ret rfl rfl ?_
  show wq 114 17 [(3, .ref 60), (0, .ref 0), (1, .int kk), (2, .int 0)] [.int 0] h8 d s _
  refine wq_gos (f := 1) (pc2 := 35) (ls2 := [(3, .ref 60), (0, .ref 0), (1, .int kk), (2, .int 0)]) (st2 := [.int (-99)]) (h2 := h8) (dc2 := d) (ds2 := s) 3 rfl ?_
  exact wq_ret rfl rfl ⟨h8, d, s, rfl, (wFr_tr (wFr_rf _ _) (wFr_sub f8 (by simp))), by omega, by omega⟩
set_option maxRecDepth 100000 in
set_option maxHeartbeats 4000000 in
theorem m_o13kl0 {h : zH} {fs : List Value} {kk : Int32} (hM : zat h 162 = some (.inr (.inr (.inr (10, fs))))) (hC : mC fs) (c166 : zat h 166 = some (.inl (0, 14, [9, 4, 10, 2, 0, 0, 0, 9, 4, 10, 2, 0, 0, 0]))) (c168 : zat h 168 = some (.inl (0, 12, [0, (-32), (-32), (-32), (-32), (-64), 0, (-32), (-32), (-32), (-32), (-64)]))) (c170 : zat h 170 = some (.inl (0, 12, [99, 31, 31, 31, 31, 63, 99, 31, 31, 31, 31, 63]))) (c190 : zat h 190 = some (.inl (0, 6, [22000000, 0, 10000, 0, 0, 0]))) (c196 : zat h 196 = some (.inr (.inl (6000, [])))) (c200 : zat h 200 = some (.inl (0, 4096, []))) (c202 : zat h 202 = some (.inl (0, 4096, []))) (c204 : zat h 204 = some (.inl (0, 6, []))) (h33 : fs[33]? = some (.int 0)) (h27 : fs[27]? = some (.int 0)) (hk : kk.toInt < 0) : wq 231 0 [(0, .ref 162), (1, .int kk), (2, .int 0)] [] h 0 0 (fun r => ∃ h2, r = (some (.int (-99)), h2, 0, 0)) := by
  have e_0 : (0 : Int32).toInt = 0 := rfl
  have e6 : (6 : Int32).toInt = 6 := rfl
  have e264 : (264 : Int32).toInt = 264 := rfl
  refine wq_gos (f := 1) (pc2 := 2) (ls2 := [(0, .ref 162), (1, .int kk), (2, .int 0)]) (st2 := [.int 0, .ref 162]) (h2 := h) (dc2 := 0) (ds2 := 0) 2 rfl ?_
  refine wq_putf rfl hM rfl (by rw [hC.1]; rfl) rfl ?_
  intro h1x e2x f3x l4x
  obtain ⟨fs5x, hf6x⟩ : ∃ x, x = fs.set 0 (.int 0) := ⟨_, rfl⟩
  rw [← hf6x] at e2x
  have hC7x : mC fs5x := by rw [hf6x]; exact mC_set hC (by decide) _
  have p8x : fs5x[33]? = some (.int 0) := by rw [hf6x, List.getElem?_set_ne (by decide)]; exact h33
  have p9x : fs5x[27]? = some (.int 0) := by rw [hf6x, List.getElem?_set_ne (by decide)]; exact h27
  have p10x : fs5x[0]? = some (.int 0) := by rw [hf6x]; exact List.getElem?_set_self (by rw [hC.1]; decide)
  refine wq_gos (f := 1) (pc2 := 6) (ls2 := [(0, .ref 162), (1, .int kk), (2, .int 0)]) (st2 := [.int 0]) (h2 := h1x) (dc2 := 0) (ds2 := 0) 1 rfl ?_
  refine wq_inl (y2 := 208) (as := [.int 0]) rfl rfl rfl ?_
  show wq 208 0 [(0, .int 0)] [] h1x 0 0 _
  refine wq_gos (f := 1) (pc2 := 15) (ls2 := [(0, .int 0)]) (st2 := [.int 1]) (h2 := h1x) (dc2 := 0) (ds2 := 0) 7 rfl ?_
  refine wq_ret rfl rfl ?_
  show wq 231 9 [(0, .ref 162), (1, .int kk), (2, .int 0)] [.int 1] h1x 0 0 _
  refine wq_gos (f := 1) (pc2 := 14) (ls2 := [(0, .ref 162), (1, .int kk), (2, .int 0)]) (st2 := [.int kk, .ref 162]) (h2 := h1x) (dc2 := 0) (ds2 := 0) 3 rfl ?_
  refine wq_inlv (y2 := 230) (as := [.int kk]) rfl rfl rfl e2x rfl ?_
  show wq 230 0 [(0, .ref 162), (1, .int kk)] [] h1x 0 0 _
  refine wq_gos (f := 1) (pc2 := 1) (ls2 := [(0, .ref 162), (1, .int kk)]) (st2 := [.ref 162]) (h2 := h1x) (dc2 := 0) (ds2 := 0) 1 rfl ?_
  have e11x := (f3x.2 _ _ (wnc (by decide) wn0) c166)
  have e12x := (f3x.2 _ _ (wnc (by decide) wn0) c168)
  have e13x := (f3x.2 _ _ (wnc (by decide) wn0) c170)
  have e14x := (f3x.2 _ _ (wnc (by decide) wn0) c190)
  have e15x := (f3x.2 _ _ (wnc (by decide) wn0) c196)
  have e16x := (f3x.2 _ _ (wnc (by decide) wn0) c200)
  have e17x := (f3x.2 _ _ (wnc (by decide) wn0) c202)
  have e18x := (f3x.2 _ _ (wnc (by decide) wn0) c204)
  refine wq_inlv (y2 := 227) (as := []) rfl rfl rfl e2x rfl (wq_mono (m_aim0 e2x hC7x e11x e12x e13x e14x e15x e16x e17x e18x p8x p9x) ?_)
  rintro _ ⟨h8, fs8, fo8, rfl, f8, hM8, hC8, h328, h398, h278, hF8, hfo⟩
  show wq 230 4 [(0, .ref 162), (1, .int kk)] [] h8 0 0 _
  refine wq_gos (f := 1) (pc2 := 5) (ls2 := [(0, .ref 162), (1, .int kk)]) (st2 := [.int kk]) (h2 := h8) (dc2 := 0) (ds2 := 0) 1 rfl ?_
  refine wq_lt0t rfl (by omega) ?_
  refine wq_gos (f := 1) (pc2 := 21) (ls2 := [(0, .ref 162), (1, .int kk)]) (st2 := [.int 0]) (h2 := h8) (dc2 := 0) (ds2 := 0) 1 rfl ?_
  refine wq_ret rfl rfl ?_
  show wq 231 17 [(0, .ref 162), (1, .int kk), (2, .int 0)] [.int 0] h8 0 0 _
  refine wq_gos (f := 1) (pc2 := 35) (ls2 := [(0, .ref 162), (1, .int kk), (2, .int 0)]) (st2 := [.int (-99)]) (h2 := h8) (dc2 := 0) (ds2 := 0) 2 rfl ?_
  exact wq_ret rfl rfl ⟨h8, rfl⟩
set_option maxRecDepth 100000 in
set_option maxHeartbeats 4000000 in
theorem c_o13kl1 {h : zH} {kk : Int32} (c0 : zat h 0 = some (.inr (.inr (.inr (9, [.ref 2, .int 0, .ref 4, .ref 6, .ref 20, .long 70644700037184, .ref 34, .ref 36, .int 0, .long 0, .ref 42, .ref 44, .ref 60, .ref 66, .ref 72, .ref 74, .ref 150, .ref 158]))))) (c6 : zat h 6 = some (.inr (.inr (.inr (0, [.int 9, .int 4, .int 10, .int 2, .int 0, .long 70644700037184, .ref 8, .ref 10, .ref 12, .int 0, .ref 14, .ref 16, .int 0, .ref 18]))))) (c8 : zat h 8 = some (.inl (0, 6, [0, (-32), (-32), (-32), (-32), (-64)]))) (c10 : zat h 10 = some (.inl (0, 6, [99, 31, 31, 31, 31, 63]))) (c34 : zat h 34 = some (.inl (0, 6, [22000000, 0, 10000, 0, 0, 0]))) (c44 : zat h 44 = some (.inr (.inr (.inr (7, [.null, .null, .ref 46, .int 0, .ref 48, .ref 50, .ref 52, .ref 54, .ref 56, .ref 58]))))) (c46 : zat h 46 = some (.inl (0, 6, []))) (c48 : zat h 48 = some (.inl (0, 128, []))) (c50 : zat h 50 = some (.inl (0, 128, []))) (c52 : zat h 52 = some (.inl (0, 128, []))) (c54 : zat h 54 = some (.inl (0, 128, []))) (c56 : zat h 56 = some (.inl (0, 101, []))) (c58 : zat h 58 = some (.inr (.inl (16, [])))) (c60 : zat h 60 = some (.inr (.inr (.inr (1, [.int 0, .int 0, .ref 62, .ref 64, .int 0, .int 0]))))) (c62 : zat h 62 = some (.inr (.inl (16, [])))) (c64 : zat h 64 = some (.inl (0, 6, []))) (hlen : 117 ≤ h.length) (hk : kk.toInt < 0) : wq 114 0 [(0, .ref 0), (1, .int kk), (2, .int 1)] [] h 0 0 (fun r => ∃ (h2 : zH) (d s : Nat), r = (some (.int (-99)), h2, d, s) ∧ wFr [0, 36, 38, 40, 62, 60, 64, 44, 46, 48, 50, 52, 54, 56, 58] h h2 ∧ d ≤ 1200 ∧ s ≤ 720000) := by
  have e_0 : (0 : Int32).toInt = 0 := rfl
  have e6 : (6 : Int32).toInt = 6 := rfl
  have e264 : (264 : Int32).toInt = 264 := rfl
  refine wq_gos (f := 1) (pc2 := 1) (ls2 := [(0, .ref 0), (1, .int kk), (2, .int 1)]) (st2 := [.ref 0]) (h2 := h) (dc2 := 0) (ds2 := 0) 1 rfl ?_
  refine wq_inlv (y2 := 148) (as := []) rfl rfl rfl c0 rfl (wq_mono (c_held0 c0 c6 c8 c10 c34 c44 c46 c48 c50 c52 c54 c56 c58 c60 c62 c64 hlen) ?_)
  rintro _ ⟨h8, rL2, cap2, ks2, fa2, li2, d, s, rfl, f8, j9, j11, j15, j14⟩
  show wq 114 4 [(0, .ref 0), (1, .int kk), (2, .int 1)] [.ref 60] h8 (0 + d) (0 + s) _
  rw [Nat.zero_add, Nat.zero_add]
  refine wq_gos (f := 1) (pc2 := 6) (ls2 := [(3, .ref 60), (0, .ref 0), (1, .int kk), (2, .int 1)]) (st2 := [.int 1]) (h2 := h8) (dc2 := d) (ds2 := s) 2 rfl ?_
  refine wq_inl (y2 := 144) (as := [.int 1]) rfl rfl rfl ?_
  show wq 144 0 [(0, .int 1)] [] h8 0 0 _
  refine wq_gos (f := 1) (pc2 := 15) (ls2 := [(0, .int 1)]) (st2 := [.int 0]) (h2 := h8) (dc2 := 0) (ds2 := 0) 6 rfl ?_
  refine wq_ret rfl rfl ?_
  show wq 114 9 [(3, .ref 60), (0, .ref 0), (1, .int kk), (2, .int 1)] [.int 0] h8 d s _
  refine wq_gos (f := 1) (pc2 := 14) (ls2 := [(3, .ref 60), (0, .ref 0), (1, .int kk), (2, .int 1)]) (st2 := [.int kk, .ref 60]) (h2 := h8) (dc2 := d) (ds2 := s) 3 rfl ?_
  refine wq_inlv (y2 := 17) (as := [.int kk]) rfl rfl rfl j9 rfl ?_
  show wq 17 0 [(0, .ref 60), (1, .int kk)] [] h8 0 0 _
  refine wq_gos (f := 1) (pc2 := 1) (ls2 := [(0, .ref 60), (1, .int kk)]) (st2 := [.int kk]) (h2 := h8) (dc2 := 0) (ds2 := 0) 1 rfl ?_
  refine wq_lt0t rfl (by omega) ?_
  refine wq_gos (f := 1) (pc2 := 24) (ls2 := [(0, .ref 60), (1, .int kk)]) (st2 := [.int 0]) (h2 := h8) (dc2 := 0) (ds2 := 0) 1 rfl ?_
  refine wq_ret rfl rfl ?_
  show wq 114 17 [(3, .ref 60), (0, .ref 0), (1, .int kk), (2, .int 1)] [.int 0] h8 d s _
  refine wq_gos (f := 1) (pc2 := 35) (ls2 := [(3, .ref 60), (0, .ref 0), (1, .int kk), (2, .int 1)]) (st2 := [.int (-99)]) (h2 := h8) (dc2 := d) (ds2 := s) 3 rfl ?_
  exact wq_ret rfl rfl ⟨h8, d, s, rfl, (wFr_tr (wFr_rf _ _) (wFr_sub f8 (by simp))), by omega, by omega⟩
set_option maxRecDepth 100000 in
set_option maxHeartbeats 4000000 in
theorem m_o13kl1 {h : zH} {fs : List Value} {kk : Int32} (hM : zat h 162 = some (.inr (.inr (.inr (10, fs))))) (hC : mC fs) (c166 : zat h 166 = some (.inl (0, 14, [9, 4, 10, 2, 0, 0, 0, 9, 4, 10, 2, 0, 0, 0]))) (c168 : zat h 168 = some (.inl (0, 12, [0, (-32), (-32), (-32), (-32), (-64), 0, (-32), (-32), (-32), (-32), (-64)]))) (c170 : zat h 170 = some (.inl (0, 12, [99, 31, 31, 31, 31, 63, 99, 31, 31, 31, 31, 63]))) (c190 : zat h 190 = some (.inl (0, 6, [22000000, 0, 10000, 0, 0, 0]))) (c196 : zat h 196 = some (.inr (.inl (6000, [])))) (c200 : zat h 200 = some (.inl (0, 4096, []))) (c202 : zat h 202 = some (.inl (0, 4096, []))) (c204 : zat h 204 = some (.inl (0, 6, []))) (h33 : fs[33]? = some (.int 0)) (h27 : fs[27]? = some (.int 0)) (hk : kk.toInt < 0) : wq 231 0 [(0, .ref 162), (1, .int kk), (2, .int 1)] [] h 0 0 (fun r => ∃ h2, r = (some (.int (-99)), h2, 0, 0)) := by
  have e_0 : (0 : Int32).toInt = 0 := rfl
  have e6 : (6 : Int32).toInt = 6 := rfl
  have e264 : (264 : Int32).toInt = 264 := rfl
  refine wq_gos (f := 1) (pc2 := 2) (ls2 := [(0, .ref 162), (1, .int kk), (2, .int 1)]) (st2 := [.int 0, .ref 162]) (h2 := h) (dc2 := 0) (ds2 := 0) 2 rfl ?_
  refine wq_putf rfl hM rfl (by rw [hC.1]; rfl) rfl ?_
  intro h1x e2x f3x l4x
  obtain ⟨fs5x, hf6x⟩ : ∃ x, x = fs.set 0 (.int 0) := ⟨_, rfl⟩
  rw [← hf6x] at e2x
  have hC7x : mC fs5x := by rw [hf6x]; exact mC_set hC (by decide) _
  have p8x : fs5x[33]? = some (.int 0) := by rw [hf6x, List.getElem?_set_ne (by decide)]; exact h33
  have p9x : fs5x[27]? = some (.int 0) := by rw [hf6x, List.getElem?_set_ne (by decide)]; exact h27
  have p10x : fs5x[0]? = some (.int 0) := by rw [hf6x]; exact List.getElem?_set_self (by rw [hC.1]; decide)
  refine wq_gos (f := 1) (pc2 := 6) (ls2 := [(0, .ref 162), (1, .int kk), (2, .int 1)]) (st2 := [.int 1]) (h2 := h1x) (dc2 := 0) (ds2 := 0) 1 rfl ?_
  refine wq_inl (y2 := 208) (as := [.int 1]) rfl rfl rfl ?_
  show wq 208 0 [(0, .int 1)] [] h1x 0 0 _
  refine wq_gos (f := 1) (pc2 := 15) (ls2 := [(0, .int 1)]) (st2 := [.int 1]) (h2 := h1x) (dc2 := 0) (ds2 := 0) 7 rfl ?_
  refine wq_ret rfl rfl ?_
  show wq 231 9 [(0, .ref 162), (1, .int kk), (2, .int 1)] [.int 1] h1x 0 0 _
  refine wq_gos (f := 1) (pc2 := 14) (ls2 := [(0, .ref 162), (1, .int kk), (2, .int 1)]) (st2 := [.int kk, .ref 162]) (h2 := h1x) (dc2 := 0) (ds2 := 0) 3 rfl ?_
  refine wq_inlv (y2 := 230) (as := [.int kk]) rfl rfl rfl e2x rfl ?_
  show wq 230 0 [(0, .ref 162), (1, .int kk)] [] h1x 0 0 _
  refine wq_gos (f := 1) (pc2 := 1) (ls2 := [(0, .ref 162), (1, .int kk)]) (st2 := [.ref 162]) (h2 := h1x) (dc2 := 0) (ds2 := 0) 1 rfl ?_
  have e11x := (f3x.2 _ _ (wnc (by decide) wn0) c166)
  have e12x := (f3x.2 _ _ (wnc (by decide) wn0) c168)
  have e13x := (f3x.2 _ _ (wnc (by decide) wn0) c170)
  have e14x := (f3x.2 _ _ (wnc (by decide) wn0) c190)
  have e15x := (f3x.2 _ _ (wnc (by decide) wn0) c196)
  have e16x := (f3x.2 _ _ (wnc (by decide) wn0) c200)
  have e17x := (f3x.2 _ _ (wnc (by decide) wn0) c202)
  have e18x := (f3x.2 _ _ (wnc (by decide) wn0) c204)
  refine wq_inlv (y2 := 227) (as := []) rfl rfl rfl e2x rfl (wq_mono (m_aim0 e2x hC7x e11x e12x e13x e14x e15x e16x e17x e18x p8x p9x) ?_)
  rintro _ ⟨h8, fs8, fo8, rfl, f8, hM8, hC8, h328, h398, h278, hF8, hfo⟩
  show wq 230 4 [(0, .ref 162), (1, .int kk)] [] h8 0 0 _
  refine wq_gos (f := 1) (pc2 := 5) (ls2 := [(0, .ref 162), (1, .int kk)]) (st2 := [.int kk]) (h2 := h8) (dc2 := 0) (ds2 := 0) 1 rfl ?_
  refine wq_lt0t rfl (by omega) ?_
  refine wq_gos (f := 1) (pc2 := 21) (ls2 := [(0, .ref 162), (1, .int kk)]) (st2 := [.int 0]) (h2 := h8) (dc2 := 0) (ds2 := 0) 1 rfl ?_
  refine wq_ret rfl rfl ?_
  show wq 231 17 [(0, .ref 162), (1, .int kk), (2, .int 1)] [.int 0] h8 0 0 _
  refine wq_gos (f := 1) (pc2 := 35) (ls2 := [(0, .ref 162), (1, .int kk), (2, .int 1)]) (st2 := [.int (-99)]) (h2 := h8) (dc2 := 0) (ds2 := 0) 2 rfl ?_
  exact wq_ret rfl rfl ⟨h8, rfl⟩
set_option maxRecDepth 100000 in
set_option maxHeartbeats 4000000 in
theorem c_o13kl2 {h : zH} {kk : Int32} (c0 : zat h 0 = some (.inr (.inr (.inr (9, [.ref 2, .int 0, .ref 4, .ref 6, .ref 20, .long 70644700037184, .ref 34, .ref 36, .int 0, .long 0, .ref 42, .ref 44, .ref 60, .ref 66, .ref 72, .ref 74, .ref 150, .ref 158]))))) (c6 : zat h 6 = some (.inr (.inr (.inr (0, [.int 9, .int 4, .int 10, .int 2, .int 0, .long 70644700037184, .ref 8, .ref 10, .ref 12, .int 0, .ref 14, .ref 16, .int 0, .ref 18]))))) (c8 : zat h 8 = some (.inl (0, 6, [0, (-32), (-32), (-32), (-32), (-64)]))) (c10 : zat h 10 = some (.inl (0, 6, [99, 31, 31, 31, 31, 63]))) (c34 : zat h 34 = some (.inl (0, 6, [22000000, 0, 10000, 0, 0, 0]))) (c44 : zat h 44 = some (.inr (.inr (.inr (7, [.null, .null, .ref 46, .int 0, .ref 48, .ref 50, .ref 52, .ref 54, .ref 56, .ref 58]))))) (c46 : zat h 46 = some (.inl (0, 6, []))) (c48 : zat h 48 = some (.inl (0, 128, []))) (c50 : zat h 50 = some (.inl (0, 128, []))) (c52 : zat h 52 = some (.inl (0, 128, []))) (c54 : zat h 54 = some (.inl (0, 128, []))) (c56 : zat h 56 = some (.inl (0, 101, []))) (c58 : zat h 58 = some (.inr (.inl (16, [])))) (c60 : zat h 60 = some (.inr (.inr (.inr (1, [.int 0, .int 0, .ref 62, .ref 64, .int 0, .int 0]))))) (c62 : zat h 62 = some (.inr (.inl (16, [])))) (c64 : zat h 64 = some (.inl (0, 6, []))) (hlen : 117 ≤ h.length) (hk : kk.toInt < 0) : wq 114 0 [(0, .ref 0), (1, .int kk), (2, .int 2)] [] h 0 0 (fun r => ∃ (h2 : zH) (d s : Nat), r = (some (.int (-99)), h2, d, s) ∧ wFr [0, 36, 38, 40, 62, 60, 64, 44, 46, 48, 50, 52, 54, 56, 58] h h2 ∧ d ≤ 1200 ∧ s ≤ 720000) := by
  have e_0 : (0 : Int32).toInt = 0 := rfl
  have e6 : (6 : Int32).toInt = 6 := rfl
  have e264 : (264 : Int32).toInt = 264 := rfl
  refine wq_gos (f := 1) (pc2 := 1) (ls2 := [(0, .ref 0), (1, .int kk), (2, .int 2)]) (st2 := [.ref 0]) (h2 := h) (dc2 := 0) (ds2 := 0) 1 rfl ?_
  refine wq_inlv (y2 := 148) (as := []) rfl rfl rfl c0 rfl (wq_mono (c_held0 c0 c6 c8 c10 c34 c44 c46 c48 c50 c52 c54 c56 c58 c60 c62 c64 hlen) ?_)
  rintro _ ⟨h8, rL2, cap2, ks2, fa2, li2, d, s, rfl, f8, j9, j11, j15, j14⟩
  show wq 114 4 [(0, .ref 0), (1, .int kk), (2, .int 2)] [.ref 60] h8 (0 + d) (0 + s) _
  rw [Nat.zero_add, Nat.zero_add]
  refine wq_gos (f := 1) (pc2 := 6) (ls2 := [(3, .ref 60), (0, .ref 0), (1, .int kk), (2, .int 2)]) (st2 := [.int 2]) (h2 := h8) (dc2 := d) (ds2 := s) 2 rfl ?_
  refine wq_inl (y2 := 144) (as := [.int 2]) rfl rfl rfl ?_
  show wq 144 0 [(0, .int 2)] [] h8 0 0 _
  refine wq_gos (f := 1) (pc2 := 15) (ls2 := [(0, .int 2)]) (st2 := [.int 0]) (h2 := h8) (dc2 := 0) (ds2 := 0) 6 rfl ?_
  refine wq_ret rfl rfl ?_
  show wq 114 9 [(3, .ref 60), (0, .ref 0), (1, .int kk), (2, .int 2)] [.int 0] h8 d s _
  refine wq_gos (f := 1) (pc2 := 14) (ls2 := [(3, .ref 60), (0, .ref 0), (1, .int kk), (2, .int 2)]) (st2 := [.int kk, .ref 60]) (h2 := h8) (dc2 := d) (ds2 := s) 3 rfl ?_
  refine wq_inlv (y2 := 17) (as := [.int kk]) rfl rfl rfl j9 rfl ?_
  show wq 17 0 [(0, .ref 60), (1, .int kk)] [] h8 0 0 _
  refine wq_gos (f := 1) (pc2 := 1) (ls2 := [(0, .ref 60), (1, .int kk)]) (st2 := [.int kk]) (h2 := h8) (dc2 := 0) (ds2 := 0) 1 rfl ?_
  refine wq_lt0t rfl (by omega) ?_
  refine wq_gos (f := 1) (pc2 := 24) (ls2 := [(0, .ref 60), (1, .int kk)]) (st2 := [.int 0]) (h2 := h8) (dc2 := 0) (ds2 := 0) 1 rfl ?_
  refine wq_ret rfl rfl ?_
  show wq 114 17 [(3, .ref 60), (0, .ref 0), (1, .int kk), (2, .int 2)] [.int 0] h8 d s _
  refine wq_gos (f := 1) (pc2 := 35) (ls2 := [(3, .ref 60), (0, .ref 0), (1, .int kk), (2, .int 2)]) (st2 := [.int (-99)]) (h2 := h8) (dc2 := d) (ds2 := s) 3 rfl ?_
  exact wq_ret rfl rfl ⟨h8, d, s, rfl, (wFr_tr (wFr_rf _ _) (wFr_sub f8 (by simp))), by omega, by omega⟩
set_option maxRecDepth 100000 in
set_option maxHeartbeats 4000000 in
theorem m_o13kl2 {h : zH} {fs : List Value} {kk : Int32} (hM : zat h 162 = some (.inr (.inr (.inr (10, fs))))) (hC : mC fs) (c166 : zat h 166 = some (.inl (0, 14, [9, 4, 10, 2, 0, 0, 0, 9, 4, 10, 2, 0, 0, 0]))) (c168 : zat h 168 = some (.inl (0, 12, [0, (-32), (-32), (-32), (-32), (-64), 0, (-32), (-32), (-32), (-32), (-64)]))) (c170 : zat h 170 = some (.inl (0, 12, [99, 31, 31, 31, 31, 63, 99, 31, 31, 31, 31, 63]))) (c190 : zat h 190 = some (.inl (0, 6, [22000000, 0, 10000, 0, 0, 0]))) (c196 : zat h 196 = some (.inr (.inl (6000, [])))) (c200 : zat h 200 = some (.inl (0, 4096, []))) (c202 : zat h 202 = some (.inl (0, 4096, []))) (c204 : zat h 204 = some (.inl (0, 6, []))) (h33 : fs[33]? = some (.int 0)) (h27 : fs[27]? = some (.int 0)) (hk : kk.toInt < 0) : wq 231 0 [(0, .ref 162), (1, .int kk), (2, .int 2)] [] h 0 0 (fun r => ∃ h2, r = (some (.int (-99)), h2, 0, 0)) := by
  have e_0 : (0 : Int32).toInt = 0 := rfl
  have e6 : (6 : Int32).toInt = 6 := rfl
  have e264 : (264 : Int32).toInt = 264 := rfl
  refine wq_gos (f := 1) (pc2 := 2) (ls2 := [(0, .ref 162), (1, .int kk), (2, .int 2)]) (st2 := [.int 0, .ref 162]) (h2 := h) (dc2 := 0) (ds2 := 0) 2 rfl ?_
  refine wq_putf rfl hM rfl (by rw [hC.1]; rfl) rfl ?_
  intro h1x e2x f3x l4x
  obtain ⟨fs5x, hf6x⟩ : ∃ x, x = fs.set 0 (.int 0) := ⟨_, rfl⟩
  rw [← hf6x] at e2x
  have hC7x : mC fs5x := by rw [hf6x]; exact mC_set hC (by decide) _
  have p8x : fs5x[33]? = some (.int 0) := by rw [hf6x, List.getElem?_set_ne (by decide)]; exact h33
  have p9x : fs5x[27]? = some (.int 0) := by rw [hf6x, List.getElem?_set_ne (by decide)]; exact h27
  have p10x : fs5x[0]? = some (.int 0) := by rw [hf6x]; exact List.getElem?_set_self (by rw [hC.1]; decide)
  refine wq_gos (f := 1) (pc2 := 6) (ls2 := [(0, .ref 162), (1, .int kk), (2, .int 2)]) (st2 := [.int 2]) (h2 := h1x) (dc2 := 0) (ds2 := 0) 1 rfl ?_
  refine wq_inl (y2 := 208) (as := [.int 2]) rfl rfl rfl ?_
  show wq 208 0 [(0, .int 2)] [] h1x 0 0 _
  refine wq_gos (f := 1) (pc2 := 15) (ls2 := [(0, .int 2)]) (st2 := [.int 1]) (h2 := h1x) (dc2 := 0) (ds2 := 0) 7 rfl ?_
  refine wq_ret rfl rfl ?_
  show wq 231 9 [(0, .ref 162), (1, .int kk), (2, .int 2)] [.int 1] h1x 0 0 _
  refine wq_gos (f := 1) (pc2 := 14) (ls2 := [(0, .ref 162), (1, .int kk), (2, .int 2)]) (st2 := [.int kk, .ref 162]) (h2 := h1x) (dc2 := 0) (ds2 := 0) 3 rfl ?_
  refine wq_inlv (y2 := 230) (as := [.int kk]) rfl rfl rfl e2x rfl ?_
  show wq 230 0 [(0, .ref 162), (1, .int kk)] [] h1x 0 0 _
  refine wq_gos (f := 1) (pc2 := 1) (ls2 := [(0, .ref 162), (1, .int kk)]) (st2 := [.ref 162]) (h2 := h1x) (dc2 := 0) (ds2 := 0) 1 rfl ?_
  have e11x := (f3x.2 _ _ (wnc (by decide) wn0) c166)
  have e12x := (f3x.2 _ _ (wnc (by decide) wn0) c168)
  have e13x := (f3x.2 _ _ (wnc (by decide) wn0) c170)
  have e14x := (f3x.2 _ _ (wnc (by decide) wn0) c190)
  have e15x := (f3x.2 _ _ (wnc (by decide) wn0) c196)
  have e16x := (f3x.2 _ _ (wnc (by decide) wn0) c200)
  have e17x := (f3x.2 _ _ (wnc (by decide) wn0) c202)
  have e18x := (f3x.2 _ _ (wnc (by decide) wn0) c204)
  refine wq_inlv (y2 := 227) (as := []) rfl rfl rfl e2x rfl (wq_mono (m_aim0 e2x hC7x e11x e12x e13x e14x e15x e16x e17x e18x p8x p9x) ?_)
  rintro _ ⟨h8, fs8, fo8, rfl, f8, hM8, hC8, h328, h398, h278, hF8, hfo⟩
  show wq 230 4 [(0, .ref 162), (1, .int kk)] [] h8 0 0 _
  refine wq_gos (f := 1) (pc2 := 5) (ls2 := [(0, .ref 162), (1, .int kk)]) (st2 := [.int kk]) (h2 := h8) (dc2 := 0) (ds2 := 0) 1 rfl ?_
  refine wq_lt0t rfl (by omega) ?_
  refine wq_gos (f := 1) (pc2 := 21) (ls2 := [(0, .ref 162), (1, .int kk)]) (st2 := [.int 0]) (h2 := h8) (dc2 := 0) (ds2 := 0) 1 rfl ?_
  refine wq_ret rfl rfl ?_
  show wq 231 17 [(0, .ref 162), (1, .int kk), (2, .int 2)] [.int 0] h8 0 0 _
  refine wq_gos (f := 1) (pc2 := 35) (ls2 := [(0, .ref 162), (1, .int kk), (2, .int 2)]) (st2 := [.int (-99)]) (h2 := h8) (dc2 := 0) (ds2 := 0) 2 rfl ?_
  exact wq_ret rfl rfl ⟨h8, rfl⟩
set_option maxRecDepth 100000 in
set_option maxHeartbeats 4000000 in
theorem c_o13kl3 {h : zH} {kk : Int32} (c0 : zat h 0 = some (.inr (.inr (.inr (9, [.ref 2, .int 0, .ref 4, .ref 6, .ref 20, .long 70644700037184, .ref 34, .ref 36, .int 0, .long 0, .ref 42, .ref 44, .ref 60, .ref 66, .ref 72, .ref 74, .ref 150, .ref 158]))))) (c6 : zat h 6 = some (.inr (.inr (.inr (0, [.int 9, .int 4, .int 10, .int 2, .int 0, .long 70644700037184, .ref 8, .ref 10, .ref 12, .int 0, .ref 14, .ref 16, .int 0, .ref 18]))))) (c8 : zat h 8 = some (.inl (0, 6, [0, (-32), (-32), (-32), (-32), (-64)]))) (c10 : zat h 10 = some (.inl (0, 6, [99, 31, 31, 31, 31, 63]))) (c34 : zat h 34 = some (.inl (0, 6, [22000000, 0, 10000, 0, 0, 0]))) (c44 : zat h 44 = some (.inr (.inr (.inr (7, [.null, .null, .ref 46, .int 0, .ref 48, .ref 50, .ref 52, .ref 54, .ref 56, .ref 58]))))) (c46 : zat h 46 = some (.inl (0, 6, []))) (c48 : zat h 48 = some (.inl (0, 128, []))) (c50 : zat h 50 = some (.inl (0, 128, []))) (c52 : zat h 52 = some (.inl (0, 128, []))) (c54 : zat h 54 = some (.inl (0, 128, []))) (c56 : zat h 56 = some (.inl (0, 101, []))) (c58 : zat h 58 = some (.inr (.inl (16, [])))) (c60 : zat h 60 = some (.inr (.inr (.inr (1, [.int 0, .int 0, .ref 62, .ref 64, .int 0, .int 0]))))) (c62 : zat h 62 = some (.inr (.inl (16, [])))) (c64 : zat h 64 = some (.inl (0, 6, []))) (hlen : 117 ≤ h.length) (hk : kk.toInt < 0) : wq 114 0 [(0, .ref 0), (1, .int kk), (2, .int 3)] [] h 0 0 (fun r => ∃ (h2 : zH) (d s : Nat), r = (some (.int (-99)), h2, d, s) ∧ wFr [0, 36, 38, 40, 62, 60, 64, 44, 46, 48, 50, 52, 54, 56, 58] h h2 ∧ d ≤ 1200 ∧ s ≤ 720000) := by
  have e_0 : (0 : Int32).toInt = 0 := rfl
  have e6 : (6 : Int32).toInt = 6 := rfl
  have e264 : (264 : Int32).toInt = 264 := rfl
  refine wq_gos (f := 1) (pc2 := 1) (ls2 := [(0, .ref 0), (1, .int kk), (2, .int 3)]) (st2 := [.ref 0]) (h2 := h) (dc2 := 0) (ds2 := 0) 1 rfl ?_
  refine wq_inlv (y2 := 148) (as := []) rfl rfl rfl c0 rfl (wq_mono (c_held0 c0 c6 c8 c10 c34 c44 c46 c48 c50 c52 c54 c56 c58 c60 c62 c64 hlen) ?_)
  rintro _ ⟨h8, rL2, cap2, ks2, fa2, li2, d, s, rfl, f8, j9, j11, j15, j14⟩
  show wq 114 4 [(0, .ref 0), (1, .int kk), (2, .int 3)] [.ref 60] h8 (0 + d) (0 + s) _
  rw [Nat.zero_add, Nat.zero_add]
  refine wq_gos (f := 1) (pc2 := 6) (ls2 := [(3, .ref 60), (0, .ref 0), (1, .int kk), (2, .int 3)]) (st2 := [.int 3]) (h2 := h8) (dc2 := d) (ds2 := s) 2 rfl ?_
  refine wq_inl (y2 := 144) (as := [.int 3]) rfl rfl rfl ?_
  show wq 144 0 [(0, .int 3)] [] h8 0 0 _
  refine wq_gos (f := 1) (pc2 := 15) (ls2 := [(0, .int 3)]) (st2 := [.int 0]) (h2 := h8) (dc2 := 0) (ds2 := 0) 6 rfl ?_
  refine wq_ret rfl rfl ?_
  show wq 114 9 [(3, .ref 60), (0, .ref 0), (1, .int kk), (2, .int 3)] [.int 0] h8 d s _
  refine wq_gos (f := 1) (pc2 := 14) (ls2 := [(3, .ref 60), (0, .ref 0), (1, .int kk), (2, .int 3)]) (st2 := [.int kk, .ref 60]) (h2 := h8) (dc2 := d) (ds2 := s) 3 rfl ?_
  refine wq_inlv (y2 := 17) (as := [.int kk]) rfl rfl rfl j9 rfl ?_
  show wq 17 0 [(0, .ref 60), (1, .int kk)] [] h8 0 0 _
  refine wq_gos (f := 1) (pc2 := 1) (ls2 := [(0, .ref 60), (1, .int kk)]) (st2 := [.int kk]) (h2 := h8) (dc2 := 0) (ds2 := 0) 1 rfl ?_
  refine wq_lt0t rfl (by omega) ?_
  refine wq_gos (f := 1) (pc2 := 24) (ls2 := [(0, .ref 60), (1, .int kk)]) (st2 := [.int 0]) (h2 := h8) (dc2 := 0) (ds2 := 0) 1 rfl ?_
  refine wq_ret rfl rfl ?_
  show wq 114 17 [(3, .ref 60), (0, .ref 0), (1, .int kk), (2, .int 3)] [.int 0] h8 d s _
  refine wq_gos (f := 1) (pc2 := 35) (ls2 := [(3, .ref 60), (0, .ref 0), (1, .int kk), (2, .int 3)]) (st2 := [.int (-99)]) (h2 := h8) (dc2 := d) (ds2 := s) 3 rfl ?_
  exact wq_ret rfl rfl ⟨h8, d, s, rfl, (wFr_tr (wFr_rf _ _) (wFr_sub f8 (by simp))), by omega, by omega⟩
set_option maxRecDepth 100000 in
set_option maxHeartbeats 4000000 in
theorem m_o13kl3 {h : zH} {fs : List Value} {kk : Int32} (hM : zat h 162 = some (.inr (.inr (.inr (10, fs))))) (hC : mC fs) (c166 : zat h 166 = some (.inl (0, 14, [9, 4, 10, 2, 0, 0, 0, 9, 4, 10, 2, 0, 0, 0]))) (c168 : zat h 168 = some (.inl (0, 12, [0, (-32), (-32), (-32), (-32), (-64), 0, (-32), (-32), (-32), (-32), (-64)]))) (c170 : zat h 170 = some (.inl (0, 12, [99, 31, 31, 31, 31, 63, 99, 31, 31, 31, 31, 63]))) (c190 : zat h 190 = some (.inl (0, 6, [22000000, 0, 10000, 0, 0, 0]))) (c196 : zat h 196 = some (.inr (.inl (6000, [])))) (c200 : zat h 200 = some (.inl (0, 4096, []))) (c202 : zat h 202 = some (.inl (0, 4096, []))) (c204 : zat h 204 = some (.inl (0, 6, []))) (h33 : fs[33]? = some (.int 0)) (h27 : fs[27]? = some (.int 0)) (hk : kk.toInt < 0) : wq 231 0 [(0, .ref 162), (1, .int kk), (2, .int 3)] [] h 0 0 (fun r => ∃ h2, r = (some (.int (-99)), h2, 0, 0)) := by
  have e_0 : (0 : Int32).toInt = 0 := rfl
  have e6 : (6 : Int32).toInt = 6 := rfl
  have e264 : (264 : Int32).toInt = 264 := rfl
  refine wq_gos (f := 1) (pc2 := 2) (ls2 := [(0, .ref 162), (1, .int kk), (2, .int 3)]) (st2 := [.int 0, .ref 162]) (h2 := h) (dc2 := 0) (ds2 := 0) 2 rfl ?_
  refine wq_putf rfl hM rfl (by rw [hC.1]; rfl) rfl ?_
  intro h1x e2x f3x l4x
  obtain ⟨fs5x, hf6x⟩ : ∃ x, x = fs.set 0 (.int 0) := ⟨_, rfl⟩
  rw [← hf6x] at e2x
  have hC7x : mC fs5x := by rw [hf6x]; exact mC_set hC (by decide) _
  have p8x : fs5x[33]? = some (.int 0) := by rw [hf6x, List.getElem?_set_ne (by decide)]; exact h33
  have p9x : fs5x[27]? = some (.int 0) := by rw [hf6x, List.getElem?_set_ne (by decide)]; exact h27
  have p10x : fs5x[0]? = some (.int 0) := by rw [hf6x]; exact List.getElem?_set_self (by rw [hC.1]; decide)
  refine wq_gos (f := 1) (pc2 := 6) (ls2 := [(0, .ref 162), (1, .int kk), (2, .int 3)]) (st2 := [.int 3]) (h2 := h1x) (dc2 := 0) (ds2 := 0) 1 rfl ?_
  refine wq_inl (y2 := 208) (as := [.int 3]) rfl rfl rfl ?_
  show wq 208 0 [(0, .int 3)] [] h1x 0 0 _
  refine wq_gos (f := 1) (pc2 := 15) (ls2 := [(0, .int 3)]) (st2 := [.int 1]) (h2 := h1x) (dc2 := 0) (ds2 := 0) 7 rfl ?_
  refine wq_ret rfl rfl ?_
  show wq 231 9 [(0, .ref 162), (1, .int kk), (2, .int 3)] [.int 1] h1x 0 0 _
  refine wq_gos (f := 1) (pc2 := 14) (ls2 := [(0, .ref 162), (1, .int kk), (2, .int 3)]) (st2 := [.int kk, .ref 162]) (h2 := h1x) (dc2 := 0) (ds2 := 0) 3 rfl ?_
  refine wq_inlv (y2 := 230) (as := [.int kk]) rfl rfl rfl e2x rfl ?_
  show wq 230 0 [(0, .ref 162), (1, .int kk)] [] h1x 0 0 _
  refine wq_gos (f := 1) (pc2 := 1) (ls2 := [(0, .ref 162), (1, .int kk)]) (st2 := [.ref 162]) (h2 := h1x) (dc2 := 0) (ds2 := 0) 1 rfl ?_
  have e11x := (f3x.2 _ _ (wnc (by decide) wn0) c166)
  have e12x := (f3x.2 _ _ (wnc (by decide) wn0) c168)
  have e13x := (f3x.2 _ _ (wnc (by decide) wn0) c170)
  have e14x := (f3x.2 _ _ (wnc (by decide) wn0) c190)
  have e15x := (f3x.2 _ _ (wnc (by decide) wn0) c196)
  have e16x := (f3x.2 _ _ (wnc (by decide) wn0) c200)
  have e17x := (f3x.2 _ _ (wnc (by decide) wn0) c202)
  have e18x := (f3x.2 _ _ (wnc (by decide) wn0) c204)
  refine wq_inlv (y2 := 227) (as := []) rfl rfl rfl e2x rfl (wq_mono (m_aim0 e2x hC7x e11x e12x e13x e14x e15x e16x e17x e18x p8x p9x) ?_)
  rintro _ ⟨h8, fs8, fo8, rfl, f8, hM8, hC8, h328, h398, h278, hF8, hfo⟩
  show wq 230 4 [(0, .ref 162), (1, .int kk)] [] h8 0 0 _
  refine wq_gos (f := 1) (pc2 := 5) (ls2 := [(0, .ref 162), (1, .int kk)]) (st2 := [.int kk]) (h2 := h8) (dc2 := 0) (ds2 := 0) 1 rfl ?_
  refine wq_lt0t rfl (by omega) ?_
  refine wq_gos (f := 1) (pc2 := 21) (ls2 := [(0, .ref 162), (1, .int kk)]) (st2 := [.int 0]) (h2 := h8) (dc2 := 0) (ds2 := 0) 1 rfl ?_
  refine wq_ret rfl rfl ?_
  show wq 231 17 [(0, .ref 162), (1, .int kk), (2, .int 3)] [.int 0] h8 0 0 _
  refine wq_gos (f := 1) (pc2 := 35) (ls2 := [(0, .ref 162), (1, .int kk), (2, .int 3)]) (st2 := [.int (-99)]) (h2 := h8) (dc2 := 0) (ds2 := 0) 2 rfl ?_
  exact wq_ret rfl rfl ⟨h8, rfl⟩
set_option maxRecDepth 100000 in
set_option maxHeartbeats 4000000 in
theorem c_o13kl4 {h : zH} {kk : Int32} (c0 : zat h 0 = some (.inr (.inr (.inr (9, [.ref 2, .int 0, .ref 4, .ref 6, .ref 20, .long 70644700037184, .ref 34, .ref 36, .int 0, .long 0, .ref 42, .ref 44, .ref 60, .ref 66, .ref 72, .ref 74, .ref 150, .ref 158]))))) (c6 : zat h 6 = some (.inr (.inr (.inr (0, [.int 9, .int 4, .int 10, .int 2, .int 0, .long 70644700037184, .ref 8, .ref 10, .ref 12, .int 0, .ref 14, .ref 16, .int 0, .ref 18]))))) (c8 : zat h 8 = some (.inl (0, 6, [0, (-32), (-32), (-32), (-32), (-64)]))) (c10 : zat h 10 = some (.inl (0, 6, [99, 31, 31, 31, 31, 63]))) (c34 : zat h 34 = some (.inl (0, 6, [22000000, 0, 10000, 0, 0, 0]))) (c44 : zat h 44 = some (.inr (.inr (.inr (7, [.null, .null, .ref 46, .int 0, .ref 48, .ref 50, .ref 52, .ref 54, .ref 56, .ref 58]))))) (c46 : zat h 46 = some (.inl (0, 6, []))) (c48 : zat h 48 = some (.inl (0, 128, []))) (c50 : zat h 50 = some (.inl (0, 128, []))) (c52 : zat h 52 = some (.inl (0, 128, []))) (c54 : zat h 54 = some (.inl (0, 128, []))) (c56 : zat h 56 = some (.inl (0, 101, []))) (c58 : zat h 58 = some (.inr (.inl (16, [])))) (c60 : zat h 60 = some (.inr (.inr (.inr (1, [.int 0, .int 0, .ref 62, .ref 64, .int 0, .int 0]))))) (c62 : zat h 62 = some (.inr (.inl (16, [])))) (c64 : zat h 64 = some (.inl (0, 6, []))) (hlen : 117 ≤ h.length) (hk : kk.toInt < 0) : wq 114 0 [(0, .ref 0), (1, .int kk), (2, .int 4)] [] h 0 0 (fun r => ∃ (h2 : zH) (d s : Nat), r = (some (.int (-99)), h2, d, s) ∧ wFr [0, 36, 38, 40, 62, 60, 64, 44, 46, 48, 50, 52, 54, 56, 58] h h2 ∧ d ≤ 1200 ∧ s ≤ 720000) := by
  have e_0 : (0 : Int32).toInt = 0 := rfl
  have e6 : (6 : Int32).toInt = 6 := rfl
  have e264 : (264 : Int32).toInt = 264 := rfl
  refine wq_gos (f := 1) (pc2 := 1) (ls2 := [(0, .ref 0), (1, .int kk), (2, .int 4)]) (st2 := [.ref 0]) (h2 := h) (dc2 := 0) (ds2 := 0) 1 rfl ?_
  refine wq_inlv (y2 := 148) (as := []) rfl rfl rfl c0 rfl (wq_mono (c_held0 c0 c6 c8 c10 c34 c44 c46 c48 c50 c52 c54 c56 c58 c60 c62 c64 hlen) ?_)
  rintro _ ⟨h8, rL2, cap2, ks2, fa2, li2, d, s, rfl, f8, j9, j11, j15, j14⟩
  show wq 114 4 [(0, .ref 0), (1, .int kk), (2, .int 4)] [.ref 60] h8 (0 + d) (0 + s) _
  rw [Nat.zero_add, Nat.zero_add]
  refine wq_gos (f := 1) (pc2 := 6) (ls2 := [(3, .ref 60), (0, .ref 0), (1, .int kk), (2, .int 4)]) (st2 := [.int 4]) (h2 := h8) (dc2 := d) (ds2 := s) 2 rfl ?_
  refine wq_inl (y2 := 144) (as := [.int 4]) rfl rfl rfl ?_
  show wq 144 0 [(0, .int 4)] [] h8 0 0 _
  refine wq_gos (f := 1) (pc2 := 15) (ls2 := [(0, .int 4)]) (st2 := [.int 0]) (h2 := h8) (dc2 := 0) (ds2 := 0) 6 rfl ?_
  refine wq_ret rfl rfl ?_
  show wq 114 9 [(3, .ref 60), (0, .ref 0), (1, .int kk), (2, .int 4)] [.int 0] h8 d s _
  refine wq_gos (f := 1) (pc2 := 14) (ls2 := [(3, .ref 60), (0, .ref 0), (1, .int kk), (2, .int 4)]) (st2 := [.int kk, .ref 60]) (h2 := h8) (dc2 := d) (ds2 := s) 3 rfl ?_
  refine wq_inlv (y2 := 17) (as := [.int kk]) rfl rfl rfl j9 rfl ?_
  show wq 17 0 [(0, .ref 60), (1, .int kk)] [] h8 0 0 _
  refine wq_gos (f := 1) (pc2 := 1) (ls2 := [(0, .ref 60), (1, .int kk)]) (st2 := [.int kk]) (h2 := h8) (dc2 := 0) (ds2 := 0) 1 rfl ?_
  refine wq_lt0t rfl (by omega) ?_
  refine wq_gos (f := 1) (pc2 := 24) (ls2 := [(0, .ref 60), (1, .int kk)]) (st2 := [.int 0]) (h2 := h8) (dc2 := 0) (ds2 := 0) 1 rfl ?_
  refine wq_ret rfl rfl ?_
  show wq 114 17 [(3, .ref 60), (0, .ref 0), (1, .int kk), (2, .int 4)] [.int 0] h8 d s _
  refine wq_gos (f := 1) (pc2 := 35) (ls2 := [(3, .ref 60), (0, .ref 0), (1, .int kk), (2, .int 4)]) (st2 := [.int (-99)]) (h2 := h8) (dc2 := d) (ds2 := s) 3 rfl ?_
  exact wq_ret rfl rfl ⟨h8, d, s, rfl, (wFr_tr (wFr_rf _ _) (wFr_sub f8 (by simp))), by omega, by omega⟩
set_option maxRecDepth 100000 in
set_option maxHeartbeats 4000000 in
theorem m_o13kl4 {h : zH} {fs : List Value} {kk : Int32} (hM : zat h 162 = some (.inr (.inr (.inr (10, fs))))) (hC : mC fs) (c166 : zat h 166 = some (.inl (0, 14, [9, 4, 10, 2, 0, 0, 0, 9, 4, 10, 2, 0, 0, 0]))) (c168 : zat h 168 = some (.inl (0, 12, [0, (-32), (-32), (-32), (-32), (-64), 0, (-32), (-32), (-32), (-32), (-64)]))) (c170 : zat h 170 = some (.inl (0, 12, [99, 31, 31, 31, 31, 63, 99, 31, 31, 31, 31, 63]))) (c190 : zat h 190 = some (.inl (0, 6, [22000000, 0, 10000, 0, 0, 0]))) (c196 : zat h 196 = some (.inr (.inl (6000, [])))) (c200 : zat h 200 = some (.inl (0, 4096, []))) (c202 : zat h 202 = some (.inl (0, 4096, []))) (c204 : zat h 204 = some (.inl (0, 6, []))) (h33 : fs[33]? = some (.int 0)) (h27 : fs[27]? = some (.int 0)) (hk : kk.toInt < 0) : wq 231 0 [(0, .ref 162), (1, .int kk), (2, .int 4)] [] h 0 0 (fun r => ∃ h2, r = (some (.int (-99)), h2, 0, 0)) := by
  have e_0 : (0 : Int32).toInt = 0 := rfl
  have e6 : (6 : Int32).toInt = 6 := rfl
  have e264 : (264 : Int32).toInt = 264 := rfl
  refine wq_gos (f := 1) (pc2 := 2) (ls2 := [(0, .ref 162), (1, .int kk), (2, .int 4)]) (st2 := [.int 0, .ref 162]) (h2 := h) (dc2 := 0) (ds2 := 0) 2 rfl ?_
  refine wq_putf rfl hM rfl (by rw [hC.1]; rfl) rfl ?_
  intro h1x e2x f3x l4x
  obtain ⟨fs5x, hf6x⟩ : ∃ x, x = fs.set 0 (.int 0) := ⟨_, rfl⟩
  rw [← hf6x] at e2x
  have hC7x : mC fs5x := by rw [hf6x]; exact mC_set hC (by decide) _
  have p8x : fs5x[33]? = some (.int 0) := by rw [hf6x, List.getElem?_set_ne (by decide)]; exact h33
  have p9x : fs5x[27]? = some (.int 0) := by rw [hf6x, List.getElem?_set_ne (by decide)]; exact h27
  have p10x : fs5x[0]? = some (.int 0) := by rw [hf6x]; exact List.getElem?_set_self (by rw [hC.1]; decide)
  refine wq_gos (f := 1) (pc2 := 6) (ls2 := [(0, .ref 162), (1, .int kk), (2, .int 4)]) (st2 := [.int 4]) (h2 := h1x) (dc2 := 0) (ds2 := 0) 1 rfl ?_
  refine wq_inl (y2 := 208) (as := [.int 4]) rfl rfl rfl ?_
  show wq 208 0 [(0, .int 4)] [] h1x 0 0 _
  refine wq_gos (f := 1) (pc2 := 15) (ls2 := [(0, .int 4)]) (st2 := [.int 1]) (h2 := h1x) (dc2 := 0) (ds2 := 0) 7 rfl ?_
  refine wq_ret rfl rfl ?_
  show wq 231 9 [(0, .ref 162), (1, .int kk), (2, .int 4)] [.int 1] h1x 0 0 _
  refine wq_gos (f := 1) (pc2 := 14) (ls2 := [(0, .ref 162), (1, .int kk), (2, .int 4)]) (st2 := [.int kk, .ref 162]) (h2 := h1x) (dc2 := 0) (ds2 := 0) 3 rfl ?_
  refine wq_inlv (y2 := 230) (as := [.int kk]) rfl rfl rfl e2x rfl ?_
  show wq 230 0 [(0, .ref 162), (1, .int kk)] [] h1x 0 0 _
  refine wq_gos (f := 1) (pc2 := 1) (ls2 := [(0, .ref 162), (1, .int kk)]) (st2 := [.ref 162]) (h2 := h1x) (dc2 := 0) (ds2 := 0) 1 rfl ?_
  have e11x := (f3x.2 _ _ (wnc (by decide) wn0) c166)
  have e12x := (f3x.2 _ _ (wnc (by decide) wn0) c168)
  have e13x := (f3x.2 _ _ (wnc (by decide) wn0) c170)
  have e14x := (f3x.2 _ _ (wnc (by decide) wn0) c190)
  have e15x := (f3x.2 _ _ (wnc (by decide) wn0) c196)
  have e16x := (f3x.2 _ _ (wnc (by decide) wn0) c200)
  have e17x := (f3x.2 _ _ (wnc (by decide) wn0) c202)
  have e18x := (f3x.2 _ _ (wnc (by decide) wn0) c204)
  refine wq_inlv (y2 := 227) (as := []) rfl rfl rfl e2x rfl (wq_mono (m_aim0 e2x hC7x e11x e12x e13x e14x e15x e16x e17x e18x p8x p9x) ?_)
  rintro _ ⟨h8, fs8, fo8, rfl, f8, hM8, hC8, h328, h398, h278, hF8, hfo⟩
  show wq 230 4 [(0, .ref 162), (1, .int kk)] [] h8 0 0 _
  refine wq_gos (f := 1) (pc2 := 5) (ls2 := [(0, .ref 162), (1, .int kk)]) (st2 := [.int kk]) (h2 := h8) (dc2 := 0) (ds2 := 0) 1 rfl ?_
  refine wq_lt0t rfl (by omega) ?_
  refine wq_gos (f := 1) (pc2 := 21) (ls2 := [(0, .ref 162), (1, .int kk)]) (st2 := [.int 0]) (h2 := h8) (dc2 := 0) (ds2 := 0) 1 rfl ?_
  refine wq_ret rfl rfl ?_
  show wq 231 17 [(0, .ref 162), (1, .int kk), (2, .int 4)] [.int 0] h8 0 0 _
  refine wq_gos (f := 1) (pc2 := 35) (ls2 := [(0, .ref 162), (1, .int kk), (2, .int 4)]) (st2 := [.int (-99)]) (h2 := h8) (dc2 := 0) (ds2 := 0) 2 rfl ?_
  exact wq_ret rfl rfl ⟨h8, rfl⟩
set_option maxRecDepth 100000 in
set_option maxHeartbeats 4000000 in
theorem c_o13kl5 {h : zH} {kk : Int32} (c0 : zat h 0 = some (.inr (.inr (.inr (9, [.ref 2, .int 0, .ref 4, .ref 6, .ref 20, .long 70644700037184, .ref 34, .ref 36, .int 0, .long 0, .ref 42, .ref 44, .ref 60, .ref 66, .ref 72, .ref 74, .ref 150, .ref 158]))))) (c6 : zat h 6 = some (.inr (.inr (.inr (0, [.int 9, .int 4, .int 10, .int 2, .int 0, .long 70644700037184, .ref 8, .ref 10, .ref 12, .int 0, .ref 14, .ref 16, .int 0, .ref 18]))))) (c8 : zat h 8 = some (.inl (0, 6, [0, (-32), (-32), (-32), (-32), (-64)]))) (c10 : zat h 10 = some (.inl (0, 6, [99, 31, 31, 31, 31, 63]))) (c34 : zat h 34 = some (.inl (0, 6, [22000000, 0, 10000, 0, 0, 0]))) (c44 : zat h 44 = some (.inr (.inr (.inr (7, [.null, .null, .ref 46, .int 0, .ref 48, .ref 50, .ref 52, .ref 54, .ref 56, .ref 58]))))) (c46 : zat h 46 = some (.inl (0, 6, []))) (c48 : zat h 48 = some (.inl (0, 128, []))) (c50 : zat h 50 = some (.inl (0, 128, []))) (c52 : zat h 52 = some (.inl (0, 128, []))) (c54 : zat h 54 = some (.inl (0, 128, []))) (c56 : zat h 56 = some (.inl (0, 101, []))) (c58 : zat h 58 = some (.inr (.inl (16, [])))) (c60 : zat h 60 = some (.inr (.inr (.inr (1, [.int 0, .int 0, .ref 62, .ref 64, .int 0, .int 0]))))) (c62 : zat h 62 = some (.inr (.inl (16, [])))) (c64 : zat h 64 = some (.inl (0, 6, []))) (hlen : 117 ≤ h.length) (hk : kk.toInt < 0) : wq 114 0 [(0, .ref 0), (1, .int kk), (2, .int 5)] [] h 0 0 (fun r => ∃ (h2 : zH) (d s : Nat), r = (some (.int (-99)), h2, d, s) ∧ wFr [0, 36, 38, 40, 62, 60, 64, 44, 46, 48, 50, 52, 54, 56, 58] h h2 ∧ d ≤ 1200 ∧ s ≤ 720000) := by
  have e_0 : (0 : Int32).toInt = 0 := rfl
  have e6 : (6 : Int32).toInt = 6 := rfl
  have e264 : (264 : Int32).toInt = 264 := rfl
  refine wq_gos (f := 1) (pc2 := 1) (ls2 := [(0, .ref 0), (1, .int kk), (2, .int 5)]) (st2 := [.ref 0]) (h2 := h) (dc2 := 0) (ds2 := 0) 1 rfl ?_
  refine wq_inlv (y2 := 148) (as := []) rfl rfl rfl c0 rfl (wq_mono (c_held0 c0 c6 c8 c10 c34 c44 c46 c48 c50 c52 c54 c56 c58 c60 c62 c64 hlen) ?_)
  rintro _ ⟨h8, rL2, cap2, ks2, fa2, li2, d, s, rfl, f8, j9, j11, j15, j14⟩
  show wq 114 4 [(0, .ref 0), (1, .int kk), (2, .int 5)] [.ref 60] h8 (0 + d) (0 + s) _
  rw [Nat.zero_add, Nat.zero_add]
  refine wq_gos (f := 1) (pc2 := 6) (ls2 := [(3, .ref 60), (0, .ref 0), (1, .int kk), (2, .int 5)]) (st2 := [.int 5]) (h2 := h8) (dc2 := d) (ds2 := s) 2 rfl ?_
  refine wq_inl (y2 := 144) (as := [.int 5]) rfl rfl rfl ?_
  show wq 144 0 [(0, .int 5)] [] h8 0 0 _
  refine wq_gos (f := 1) (pc2 := 15) (ls2 := [(0, .int 5)]) (st2 := [.int 0]) (h2 := h8) (dc2 := 0) (ds2 := 0) 6 rfl ?_
  refine wq_ret rfl rfl ?_
  show wq 114 9 [(3, .ref 60), (0, .ref 0), (1, .int kk), (2, .int 5)] [.int 0] h8 d s _
  refine wq_gos (f := 1) (pc2 := 14) (ls2 := [(3, .ref 60), (0, .ref 0), (1, .int kk), (2, .int 5)]) (st2 := [.int kk, .ref 60]) (h2 := h8) (dc2 := d) (ds2 := s) 3 rfl ?_
  refine wq_inlv (y2 := 17) (as := [.int kk]) rfl rfl rfl j9 rfl ?_
  show wq 17 0 [(0, .ref 60), (1, .int kk)] [] h8 0 0 _
  refine wq_gos (f := 1) (pc2 := 1) (ls2 := [(0, .ref 60), (1, .int kk)]) (st2 := [.int kk]) (h2 := h8) (dc2 := 0) (ds2 := 0) 1 rfl ?_
  refine wq_lt0t rfl (by omega) ?_
  refine wq_gos (f := 1) (pc2 := 24) (ls2 := [(0, .ref 60), (1, .int kk)]) (st2 := [.int 0]) (h2 := h8) (dc2 := 0) (ds2 := 0) 1 rfl ?_
  refine wq_ret rfl rfl ?_
  show wq 114 17 [(3, .ref 60), (0, .ref 0), (1, .int kk), (2, .int 5)] [.int 0] h8 d s _
  refine wq_gos (f := 1) (pc2 := 35) (ls2 := [(3, .ref 60), (0, .ref 0), (1, .int kk), (2, .int 5)]) (st2 := [.int (-99)]) (h2 := h8) (dc2 := d) (ds2 := s) 3 rfl ?_
  exact wq_ret rfl rfl ⟨h8, d, s, rfl, (wFr_tr (wFr_rf _ _) (wFr_sub f8 (by simp))), by omega, by omega⟩
set_option maxRecDepth 100000 in
set_option maxHeartbeats 4000000 in
theorem m_o13kl5 {h : zH} {fs : List Value} {kk : Int32} (hM : zat h 162 = some (.inr (.inr (.inr (10, fs))))) (hC : mC fs) (c166 : zat h 166 = some (.inl (0, 14, [9, 4, 10, 2, 0, 0, 0, 9, 4, 10, 2, 0, 0, 0]))) (c168 : zat h 168 = some (.inl (0, 12, [0, (-32), (-32), (-32), (-32), (-64), 0, (-32), (-32), (-32), (-32), (-64)]))) (c170 : zat h 170 = some (.inl (0, 12, [99, 31, 31, 31, 31, 63, 99, 31, 31, 31, 31, 63]))) (c190 : zat h 190 = some (.inl (0, 6, [22000000, 0, 10000, 0, 0, 0]))) (c196 : zat h 196 = some (.inr (.inl (6000, [])))) (c200 : zat h 200 = some (.inl (0, 4096, []))) (c202 : zat h 202 = some (.inl (0, 4096, []))) (c204 : zat h 204 = some (.inl (0, 6, []))) (h33 : fs[33]? = some (.int 0)) (h27 : fs[27]? = some (.int 0)) (hk : kk.toInt < 0) : wq 231 0 [(0, .ref 162), (1, .int kk), (2, .int 5)] [] h 0 0 (fun r => ∃ h2, r = (some (.int (-99)), h2, 0, 0)) := by
  have e_0 : (0 : Int32).toInt = 0 := rfl
  have e6 : (6 : Int32).toInt = 6 := rfl
  have e264 : (264 : Int32).toInt = 264 := rfl
  refine wq_gos (f := 1) (pc2 := 2) (ls2 := [(0, .ref 162), (1, .int kk), (2, .int 5)]) (st2 := [.int 0, .ref 162]) (h2 := h) (dc2 := 0) (ds2 := 0) 2 rfl ?_
  refine wq_putf rfl hM rfl (by rw [hC.1]; rfl) rfl ?_
  intro h1x e2x f3x l4x
  obtain ⟨fs5x, hf6x⟩ : ∃ x, x = fs.set 0 (.int 0) := ⟨_, rfl⟩
  rw [← hf6x] at e2x
  have hC7x : mC fs5x := by rw [hf6x]; exact mC_set hC (by decide) _
  have p8x : fs5x[33]? = some (.int 0) := by rw [hf6x, List.getElem?_set_ne (by decide)]; exact h33
  have p9x : fs5x[27]? = some (.int 0) := by rw [hf6x, List.getElem?_set_ne (by decide)]; exact h27
  have p10x : fs5x[0]? = some (.int 0) := by rw [hf6x]; exact List.getElem?_set_self (by rw [hC.1]; decide)
  refine wq_gos (f := 1) (pc2 := 6) (ls2 := [(0, .ref 162), (1, .int kk), (2, .int 5)]) (st2 := [.int 5]) (h2 := h1x) (dc2 := 0) (ds2 := 0) 1 rfl ?_
  refine wq_inl (y2 := 208) (as := [.int 5]) rfl rfl rfl ?_
  show wq 208 0 [(0, .int 5)] [] h1x 0 0 _
  refine wq_gos (f := 1) (pc2 := 15) (ls2 := [(0, .int 5)]) (st2 := [.int 1]) (h2 := h1x) (dc2 := 0) (ds2 := 0) 7 rfl ?_
  refine wq_ret rfl rfl ?_
  show wq 231 9 [(0, .ref 162), (1, .int kk), (2, .int 5)] [.int 1] h1x 0 0 _
  refine wq_gos (f := 1) (pc2 := 14) (ls2 := [(0, .ref 162), (1, .int kk), (2, .int 5)]) (st2 := [.int kk, .ref 162]) (h2 := h1x) (dc2 := 0) (ds2 := 0) 3 rfl ?_
  refine wq_inlv (y2 := 230) (as := [.int kk]) rfl rfl rfl e2x rfl ?_
  show wq 230 0 [(0, .ref 162), (1, .int kk)] [] h1x 0 0 _
  refine wq_gos (f := 1) (pc2 := 1) (ls2 := [(0, .ref 162), (1, .int kk)]) (st2 := [.ref 162]) (h2 := h1x) (dc2 := 0) (ds2 := 0) 1 rfl ?_
  have e11x := (f3x.2 _ _ (wnc (by decide) wn0) c166)
  have e12x := (f3x.2 _ _ (wnc (by decide) wn0) c168)
  have e13x := (f3x.2 _ _ (wnc (by decide) wn0) c170)
  have e14x := (f3x.2 _ _ (wnc (by decide) wn0) c190)
  have e15x := (f3x.2 _ _ (wnc (by decide) wn0) c196)
  have e16x := (f3x.2 _ _ (wnc (by decide) wn0) c200)
  have e17x := (f3x.2 _ _ (wnc (by decide) wn0) c202)
  have e18x := (f3x.2 _ _ (wnc (by decide) wn0) c204)
  refine wq_inlv (y2 := 227) (as := []) rfl rfl rfl e2x rfl (wq_mono (m_aim0 e2x hC7x e11x e12x e13x e14x e15x e16x e17x e18x p8x p9x) ?_)
  rintro _ ⟨h8, fs8, fo8, rfl, f8, hM8, hC8, h328, h398, h278, hF8, hfo⟩
  show wq 230 4 [(0, .ref 162), (1, .int kk)] [] h8 0 0 _
  refine wq_gos (f := 1) (pc2 := 5) (ls2 := [(0, .ref 162), (1, .int kk)]) (st2 := [.int kk]) (h2 := h8) (dc2 := 0) (ds2 := 0) 1 rfl ?_
  refine wq_lt0t rfl (by omega) ?_
  refine wq_gos (f := 1) (pc2 := 21) (ls2 := [(0, .ref 162), (1, .int kk)]) (st2 := [.int 0]) (h2 := h8) (dc2 := 0) (ds2 := 0) 1 rfl ?_
  refine wq_ret rfl rfl ?_
  show wq 231 17 [(0, .ref 162), (1, .int kk), (2, .int 5)] [.int 0] h8 0 0 _
  refine wq_gos (f := 1) (pc2 := 35) (ls2 := [(0, .ref 162), (1, .int kk), (2, .int 5)]) (st2 := [.int (-99)]) (h2 := h8) (dc2 := 0) (ds2 := 0) 2 rfl ?_
  exact wq_ret rfl rfl ⟨h8, rfl⟩
set_option maxRecDepth 100000 in
set_option maxHeartbeats 4000000 in
theorem c_o18kl {h : zH} {kk : Int32} (c0 : zat h 0 = some (.inr (.inr (.inr (9, [.ref 2, .int 0, .ref 4, .ref 6, .ref 20, .long 70644700037184, .ref 34, .ref 36, .int 0, .long 0, .ref 42, .ref 44, .ref 60, .ref 66, .ref 72, .ref 74, .ref 150, .ref 158]))))) (c6 : zat h 6 = some (.inr (.inr (.inr (0, [.int 9, .int 4, .int 10, .int 2, .int 0, .long 70644700037184, .ref 8, .ref 10, .ref 12, .int 0, .ref 14, .ref 16, .int 0, .ref 18]))))) (c8 : zat h 8 = some (.inl (0, 6, [0, (-32), (-32), (-32), (-32), (-64)]))) (c10 : zat h 10 = some (.inl (0, 6, [99, 31, 31, 31, 31, 63]))) (c34 : zat h 34 = some (.inl (0, 6, [22000000, 0, 10000, 0, 0, 0]))) (c44 : zat h 44 = some (.inr (.inr (.inr (7, [.null, .null, .ref 46, .int 0, .ref 48, .ref 50, .ref 52, .ref 54, .ref 56, .ref 58]))))) (c46 : zat h 46 = some (.inl (0, 6, []))) (c48 : zat h 48 = some (.inl (0, 128, []))) (c50 : zat h 50 = some (.inl (0, 128, []))) (c52 : zat h 52 = some (.inl (0, 128, []))) (c54 : zat h 54 = some (.inl (0, 128, []))) (c56 : zat h 56 = some (.inl (0, 101, []))) (c58 : zat h 58 = some (.inr (.inl (16, [])))) (c60 : zat h 60 = some (.inr (.inr (.inr (1, [.int 0, .int 0, .ref 62, .ref 64, .int 0, .int 0]))))) (c62 : zat h 62 = some (.inr (.inl (16, [])))) (c64 : zat h 64 = some (.inl (0, 6, []))) (c36 : zat h 36 = some (.inr (.inr (.inr (2, [.int 0, .int 0, .ref 38, .ref 40]))))) (c38 : zat h 38 = some (.inr (.inl (20, [])))) (c40 : zat h 40 = some (.inl (0, 120, []))) (hlen : 117 ≤ h.length) (hk : kk.toInt < 0) : wq 119 0 [(0, .ref 0), (1, .int kk)] [] h 0 0 (fun r => ∃ (h2 : zH) (d s : Nat), r = (some (.int 0), h2, d, s) ∧ wFr [0, 36, 38, 40, 62, 60, 64, 44, 46, 48, 50, 52, 54, 56, 58] h h2 ∧ d ≤ 1200 ∧ s ≤ 720000) := by
  have e_0 : (0 : Int32).toInt = 0 := rfl
  have e6 : (6 : Int32).toInt = 6 := rfl
  have e264 : (264 : Int32).toInt = 264 := rfl
  refine wq_gos (f := 1) (pc2 := 1) (ls2 := [(0, .ref 0), (1, .int kk)]) (st2 := [.ref 0]) (h2 := h) (dc2 := 0) (ds2 := 0) 1 rfl ?_
  refine wq_inlv (y2 := 148) (as := []) rfl rfl rfl c0 rfl (wq_mono (c_held0 c0 c6 c8 c10 c34 c44 c46 c48 c50 c52 c54 c56 c58 c60 c62 c64 hlen) ?_)
  rintro _ ⟨h8, rL2, cap2, ks2, fa2, li2, d, s, rfl, f8, j9, j11, j15, j14⟩
  show wq 119 4 [(0, .ref 0), (1, .int kk)] [.ref 60] h8 (0 + d) (0 + s) _
  rw [Nat.zero_add, Nat.zero_add]
  refine wq_gos (f := 1) (pc2 := 7) (ls2 := [(2, .ref 60), (0, .ref 0), (1, .int kk)]) (st2 := [.int kk, .ref 60]) (h2 := h8) (dc2 := d) (ds2 := s) 3 rfl ?_
  refine wq_inlv (y2 := 17) (as := [.int kk]) rfl rfl rfl j9 rfl ?_
  show wq 17 0 [(0, .ref 60), (1, .int kk)] [] h8 0 0 _
  refine wq_gos (f := 1) (pc2 := 1) (ls2 := [(0, .ref 60), (1, .int kk)]) (st2 := [.int kk]) (h2 := h8) (dc2 := 0) (ds2 := 0) 1 rfl ?_
  refine wq_lt0t rfl (by omega) ?_
  refine wq_gos (f := 1) (pc2 := 24) (ls2 := [(0, .ref 60), (1, .int kk)]) (st2 := [.int 0]) (h2 := h8) (dc2 := 0) (ds2 := 0) 1 rfl ?_
  refine wq_ret rfl rfl ?_
  show wq 119 10 [(2, .ref 60), (0, .ref 0), (1, .int kk)] [.int 0] h8 d s _
  refine wq_gos (f := 1) (pc2 := 14) (ls2 := [(2, .ref 60), (0, .ref 0), (1, .int kk)]) (st2 := [.int 0]) (h2 := h8) (dc2 := d) (ds2 := s) 2 rfl ?_
  exact wq_ret rfl rfl ⟨h8, d, s, rfl, (wFr_tr (wFr_rf _ _) (wFr_sub f8 (by simp))), by omega, by omega⟩
set_option maxRecDepth 100000 in
set_option maxHeartbeats 4000000 in
theorem m_o18kl {h : zH} {fs : List Value} {kk : Int32} (hM : zat h 162 = some (.inr (.inr (.inr (10, fs))))) (hC : mC fs) (c166 : zat h 166 = some (.inl (0, 14, [9, 4, 10, 2, 0, 0, 0, 9, 4, 10, 2, 0, 0, 0]))) (c168 : zat h 168 = some (.inl (0, 12, [0, (-32), (-32), (-32), (-32), (-64), 0, (-32), (-32), (-32), (-32), (-64)]))) (c170 : zat h 170 = some (.inl (0, 12, [99, 31, 31, 31, 31, 63, 99, 31, 31, 31, 31, 63]))) (c190 : zat h 190 = some (.inl (0, 6, [22000000, 0, 10000, 0, 0, 0]))) (c196 : zat h 196 = some (.inr (.inl (6000, [])))) (c200 : zat h 200 = some (.inl (0, 4096, []))) (c202 : zat h 202 = some (.inl (0, 4096, []))) (c204 : zat h 204 = some (.inl (0, 6, []))) (c188 : zat h 188 = some (.inl (0, 6, [0, 0, 0, 0, 0, 0]))) (c192 : zat h 192 = some (.inl (0, 252, []))) (c212 : zat h 212 = some (.inl (2, 2, [0, 0]))) (h33 : fs[33]? = some (.int 0)) (h27 : fs[27]? = some (.int 0)) (hk : kk.toInt < 0) : wq 239 0 [(0, .ref 162), (1, .int kk)] [] h 0 0 (fun r => ∃ h2, r = (some (.int 0), h2, 0, 0)) := by
  have e_0 : (0 : Int32).toInt = 0 := rfl
  have e6 : (6 : Int32).toInt = 6 := rfl
  have e264 : (264 : Int32).toInt = 264 := rfl
  refine wq_gos (f := 1) (pc2 := 2) (ls2 := [(0, .ref 162), (1, .int kk)]) (st2 := [.int 0, .ref 162]) (h2 := h) (dc2 := 0) (ds2 := 0) 2 rfl ?_
  refine wq_putf rfl hM rfl (by rw [hC.1]; rfl) rfl ?_
  intro h1x e2x f3x l4x
  obtain ⟨fs5x, hf6x⟩ : ∃ x, x = fs.set 0 (.int 0) := ⟨_, rfl⟩
  rw [← hf6x] at e2x
  have hC7x : mC fs5x := by rw [hf6x]; exact mC_set hC (by decide) _
  have p8x : fs5x[33]? = some (.int 0) := by rw [hf6x, List.getElem?_set_ne (by decide)]; exact h33
  have p9x : fs5x[27]? = some (.int 0) := by rw [hf6x, List.getElem?_set_ne (by decide)]; exact h27
  have p10x : fs5x[0]? = some (.int 0) := by rw [hf6x]; exact List.getElem?_set_self (by rw [hC.1]; decide)
  refine wq_gos (f := 1) (pc2 := 7) (ls2 := [(0, .ref 162), (1, .int kk)]) (st2 := [.int kk, .ref 162]) (h2 := h1x) (dc2 := 0) (ds2 := 0) 2 rfl ?_
  refine wq_inlv (y2 := 230) (as := [.int kk]) rfl rfl rfl e2x rfl ?_
  show wq 230 0 [(0, .ref 162), (1, .int kk)] [] h1x 0 0 _
  refine wq_gos (f := 1) (pc2 := 1) (ls2 := [(0, .ref 162), (1, .int kk)]) (st2 := [.ref 162]) (h2 := h1x) (dc2 := 0) (ds2 := 0) 1 rfl ?_
  have e11x := (f3x.2 _ _ (wnc (by decide) wn0) c166)
  have e12x := (f3x.2 _ _ (wnc (by decide) wn0) c168)
  have e13x := (f3x.2 _ _ (wnc (by decide) wn0) c170)
  have e14x := (f3x.2 _ _ (wnc (by decide) wn0) c190)
  have e15x := (f3x.2 _ _ (wnc (by decide) wn0) c196)
  have e16x := (f3x.2 _ _ (wnc (by decide) wn0) c200)
  have e17x := (f3x.2 _ _ (wnc (by decide) wn0) c202)
  have e18x := (f3x.2 _ _ (wnc (by decide) wn0) c204)
  refine wq_inlv (y2 := 227) (as := []) rfl rfl rfl e2x rfl (wq_mono (m_aim0 e2x hC7x e11x e12x e13x e14x e15x e16x e17x e18x p8x p9x) ?_)
  rintro _ ⟨h8, fs8, fo8, rfl, f8, hM8, hC8, h328, h398, h278, hF8, hfo⟩
  show wq 230 4 [(0, .ref 162), (1, .int kk)] [] h8 0 0 _
  refine wq_gos (f := 1) (pc2 := 5) (ls2 := [(0, .ref 162), (1, .int kk)]) (st2 := [.int kk]) (h2 := h8) (dc2 := 0) (ds2 := 0) 1 rfl ?_
  refine wq_lt0t rfl (by omega) ?_
  refine wq_gos (f := 1) (pc2 := 21) (ls2 := [(0, .ref 162), (1, .int kk)]) (st2 := [.int 0]) (h2 := h8) (dc2 := 0) (ds2 := 0) 1 rfl ?_
  refine wq_ret rfl rfl ?_
  show wq 239 10 [(0, .ref 162), (1, .int kk)] [.int 0] h8 0 0 _
  refine wq_gos (f := 1) (pc2 := 14) (ls2 := [(0, .ref 162), (1, .int kk)]) (st2 := [.int 0]) (h2 := h8) (dc2 := 0) (ds2 := 0) 2 rfl ?_
  exact wq_ret rfl rfl ⟨h8, rfl⟩
set_option maxRecDepth 100000 in
set_option maxHeartbeats 4000000 in
theorem c_o13kh0 {h : zH} {kk : Int32} (c0 : zat h 0 = some (.inr (.inr (.inr (9, [.ref 2, .int 0, .ref 4, .ref 6, .ref 20, .long 70644700037184, .ref 34, .ref 36, .int 0, .long 0, .ref 42, .ref 44, .ref 60, .ref 66, .ref 72, .ref 74, .ref 150, .ref 158]))))) (c6 : zat h 6 = some (.inr (.inr (.inr (0, [.int 9, .int 4, .int 10, .int 2, .int 0, .long 70644700037184, .ref 8, .ref 10, .ref 12, .int 0, .ref 14, .ref 16, .int 0, .ref 18]))))) (c8 : zat h 8 = some (.inl (0, 6, [0, (-32), (-32), (-32), (-32), (-64)]))) (c10 : zat h 10 = some (.inl (0, 6, [99, 31, 31, 31, 31, 63]))) (c34 : zat h 34 = some (.inl (0, 6, [22000000, 0, 10000, 0, 0, 0]))) (c44 : zat h 44 = some (.inr (.inr (.inr (7, [.null, .null, .ref 46, .int 0, .ref 48, .ref 50, .ref 52, .ref 54, .ref 56, .ref 58]))))) (c46 : zat h 46 = some (.inl (0, 6, []))) (c48 : zat h 48 = some (.inl (0, 128, []))) (c50 : zat h 50 = some (.inl (0, 128, []))) (c52 : zat h 52 = some (.inl (0, 128, []))) (c54 : zat h 54 = some (.inl (0, 128, []))) (c56 : zat h 56 = some (.inl (0, 101, []))) (c58 : zat h 58 = some (.inr (.inl (16, [])))) (c60 : zat h 60 = some (.inr (.inr (.inr (1, [.int 0, .int 0, .ref 62, .ref 64, .int 0, .int 0]))))) (c62 : zat h 62 = some (.inr (.inl (16, [])))) (c64 : zat h 64 = some (.inl (0, 6, []))) (hlen : 117 ≤ h.length) (hk : 264 ≤ kk.toInt) : wq 114 0 [(0, .ref 0), (1, .int kk), (2, .int 0)] [] h 0 0 (fun r => ∃ (h2 : zH) (d s : Nat), r = (some (.int (-99)), h2, d, s) ∧ wFr [0, 36, 38, 40, 62, 60, 64, 44, 46, 48, 50, 52, 54, 56, 58] h h2 ∧ d ≤ 1200 ∧ s ≤ 720000) := by
  have e_0 : (0 : Int32).toInt = 0 := rfl
  have e6 : (6 : Int32).toInt = 6 := rfl
  have e264 : (264 : Int32).toInt = 264 := rfl
  refine wq_gos (f := 1) (pc2 := 1) (ls2 := [(0, .ref 0), (1, .int kk), (2, .int 0)]) (st2 := [.ref 0]) (h2 := h) (dc2 := 0) (ds2 := 0) 1 rfl ?_
  refine wq_inlv (y2 := 148) (as := []) rfl rfl rfl c0 rfl (wq_mono (c_held0 c0 c6 c8 c10 c34 c44 c46 c48 c50 c52 c54 c56 c58 c60 c62 c64 hlen) ?_)
  rintro _ ⟨h8, rL2, cap2, ks2, fa2, li2, d, s, rfl, f8, j9, j11, j15, j14⟩
  show wq 114 4 [(0, .ref 0), (1, .int kk), (2, .int 0)] [.ref 60] h8 (0 + d) (0 + s) _
  rw [Nat.zero_add, Nat.zero_add]
  refine wq_gos (f := 1) (pc2 := 6) (ls2 := [(3, .ref 60), (0, .ref 0), (1, .int kk), (2, .int 0)]) (st2 := [.int 0]) (h2 := h8) (dc2 := d) (ds2 := s) 2 rfl ?_
  refine wq_inl (y2 := 144) (as := [.int 0]) rfl rfl rfl ?_
  show wq 144 0 [(0, .int 0)] [] h8 0 0 _
  refine wq_gos (f := 1) (pc2 := 15) (ls2 := [(0, .int 0)]) (st2 := [.int 0]) (h2 := h8) (dc2 := 0) (ds2 := 0) 6 rfl ?_
  refine wq_ret rfl rfl ?_
  show wq 114 9 [(3, .ref 60), (0, .ref 0), (1, .int kk), (2, .int 0)] [.int 0] h8 d s _
  refine wq_gos (f := 1) (pc2 := 14) (ls2 := [(3, .ref 60), (0, .ref 0), (1, .int kk), (2, .int 0)]) (st2 := [.int kk, .ref 60]) (h2 := h8) (dc2 := d) (ds2 := s) 3 rfl ?_
  refine wq_inlv (y2 := 17) (as := [.int kk]) rfl rfl rfl j9 rfl ?_
  show wq 17 0 [(0, .ref 60), (1, .int kk)] [] h8 0 0 _
  refine wq_gos (f := 1) (pc2 := 1) (ls2 := [(0, .ref 60), (1, .int kk)]) (st2 := [.int kk]) (h2 := h8) (dc2 := 0) (ds2 := 0) 1 rfl ?_
  refine wq_lt0f rfl rfl (by omega) ?_
  refine wq_gos (f := 1) (pc2 := 6) (ls2 := [(0, .ref 60), (1, .int kk)]) (st2 := [.ref 60, .int kk]) (h2 := h8) (dc2 := 0) (ds2 := 0) 2 rfl ?_
  refine wq_getf rfl j9 rfl rfl ?_
  refine wq_ge2t rfl (by omega) ?_
  refine wq_gos (f := 1) (pc2 := 24) (ls2 := [(0, .ref 60), (1, .int kk)]) (st2 := [.int 0]) (h2 := h8) (dc2 := 0) (ds2 := 0) 1 rfl ?_
  refine wq_ret rfl rfl ?_
  show wq 114 17 [(3, .ref 60), (0, .ref 0), (1, .int kk), (2, .int 0)] [.int 0] h8 d s _
  refine wq_gos (f := 1) (pc2 := 35) (ls2 := [(3, .ref 60), (0, .ref 0), (1, .int kk), (2, .int 0)]) (st2 := [.int (-99)]) (h2 := h8) (dc2 := d) (ds2 := s) 3 rfl ?_
  exact wq_ret rfl rfl ⟨h8, d, s, rfl, (wFr_tr (wFr_rf _ _) (wFr_sub f8 (by simp))), by omega, by omega⟩
set_option maxRecDepth 100000 in
set_option maxHeartbeats 4000000 in
theorem m_o13kh0 {h : zH} {fs : List Value} {kk : Int32} (hM : zat h 162 = some (.inr (.inr (.inr (10, fs))))) (hC : mC fs) (c166 : zat h 166 = some (.inl (0, 14, [9, 4, 10, 2, 0, 0, 0, 9, 4, 10, 2, 0, 0, 0]))) (c168 : zat h 168 = some (.inl (0, 12, [0, (-32), (-32), (-32), (-32), (-64), 0, (-32), (-32), (-32), (-32), (-64)]))) (c170 : zat h 170 = some (.inl (0, 12, [99, 31, 31, 31, 31, 63, 99, 31, 31, 31, 31, 63]))) (c190 : zat h 190 = some (.inl (0, 6, [22000000, 0, 10000, 0, 0, 0]))) (c196 : zat h 196 = some (.inr (.inl (6000, [])))) (c200 : zat h 200 = some (.inl (0, 4096, []))) (c202 : zat h 202 = some (.inl (0, 4096, []))) (c204 : zat h 204 = some (.inl (0, 6, []))) (h33 : fs[33]? = some (.int 0)) (h27 : fs[27]? = some (.int 0)) (hk : 264 ≤ kk.toInt) : wq 231 0 [(0, .ref 162), (1, .int kk), (2, .int 0)] [] h 0 0 (fun r => ∃ h2, r = (some (.int (-99)), h2, 0, 0)) := by
  have e_0 : (0 : Int32).toInt = 0 := rfl
  have e6 : (6 : Int32).toInt = 6 := rfl
  have e264 : (264 : Int32).toInt = 264 := rfl
  refine wq_gos (f := 1) (pc2 := 2) (ls2 := [(0, .ref 162), (1, .int kk), (2, .int 0)]) (st2 := [.int 0, .ref 162]) (h2 := h) (dc2 := 0) (ds2 := 0) 2 rfl ?_
  refine wq_putf rfl hM rfl (by rw [hC.1]; rfl) rfl ?_
  intro h1x e2x f3x l4x
  obtain ⟨fs5x, hf6x⟩ : ∃ x, x = fs.set 0 (.int 0) := ⟨_, rfl⟩
  rw [← hf6x] at e2x
  have hC7x : mC fs5x := by rw [hf6x]; exact mC_set hC (by decide) _
  have p8x : fs5x[33]? = some (.int 0) := by rw [hf6x, List.getElem?_set_ne (by decide)]; exact h33
  have p9x : fs5x[27]? = some (.int 0) := by rw [hf6x, List.getElem?_set_ne (by decide)]; exact h27
  have p10x : fs5x[0]? = some (.int 0) := by rw [hf6x]; exact List.getElem?_set_self (by rw [hC.1]; decide)
  refine wq_gos (f := 1) (pc2 := 6) (ls2 := [(0, .ref 162), (1, .int kk), (2, .int 0)]) (st2 := [.int 0]) (h2 := h1x) (dc2 := 0) (ds2 := 0) 1 rfl ?_
  refine wq_inl (y2 := 208) (as := [.int 0]) rfl rfl rfl ?_
  show wq 208 0 [(0, .int 0)] [] h1x 0 0 _
  refine wq_gos (f := 1) (pc2 := 15) (ls2 := [(0, .int 0)]) (st2 := [.int 1]) (h2 := h1x) (dc2 := 0) (ds2 := 0) 7 rfl ?_
  refine wq_ret rfl rfl ?_
  show wq 231 9 [(0, .ref 162), (1, .int kk), (2, .int 0)] [.int 1] h1x 0 0 _
  refine wq_gos (f := 1) (pc2 := 14) (ls2 := [(0, .ref 162), (1, .int kk), (2, .int 0)]) (st2 := [.int kk, .ref 162]) (h2 := h1x) (dc2 := 0) (ds2 := 0) 3 rfl ?_
  refine wq_inlv (y2 := 230) (as := [.int kk]) rfl rfl rfl e2x rfl ?_
  show wq 230 0 [(0, .ref 162), (1, .int kk)] [] h1x 0 0 _
  refine wq_gos (f := 1) (pc2 := 1) (ls2 := [(0, .ref 162), (1, .int kk)]) (st2 := [.ref 162]) (h2 := h1x) (dc2 := 0) (ds2 := 0) 1 rfl ?_
  have e11x := (f3x.2 _ _ (wnc (by decide) wn0) c166)
  have e12x := (f3x.2 _ _ (wnc (by decide) wn0) c168)
  have e13x := (f3x.2 _ _ (wnc (by decide) wn0) c170)
  have e14x := (f3x.2 _ _ (wnc (by decide) wn0) c190)
  have e15x := (f3x.2 _ _ (wnc (by decide) wn0) c196)
  have e16x := (f3x.2 _ _ (wnc (by decide) wn0) c200)
  have e17x := (f3x.2 _ _ (wnc (by decide) wn0) c202)
  have e18x := (f3x.2 _ _ (wnc (by decide) wn0) c204)
  refine wq_inlv (y2 := 227) (as := []) rfl rfl rfl e2x rfl (wq_mono (m_aim0 e2x hC7x e11x e12x e13x e14x e15x e16x e17x e18x p8x p9x) ?_)
  rintro _ ⟨h8, fs8, fo8, rfl, f8, hM8, hC8, h328, h398, h278, hF8, hfo⟩
  show wq 230 4 [(0, .ref 162), (1, .int kk)] [] h8 0 0 _
  refine wq_gos (f := 1) (pc2 := 5) (ls2 := [(0, .ref 162), (1, .int kk)]) (st2 := [.int kk]) (h2 := h8) (dc2 := 0) (ds2 := 0) 1 rfl ?_
  refine wq_lt0f rfl rfl (by omega) ?_
  refine wq_gos (f := 1) (pc2 := 10) (ls2 := [(0, .ref 162), (1, .int kk)]) (st2 := [.ref 162, .int kk]) (h2 := h8) (dc2 := 0) (ds2 := 0) 2 rfl ?_
  refine wq_getf rfl hM8 h328 rfl ?_
  refine wq_ge2t rfl (by omega) ?_
  refine wq_gos (f := 1) (pc2 := 21) (ls2 := [(0, .ref 162), (1, .int kk)]) (st2 := [.int 0]) (h2 := h8) (dc2 := 0) (ds2 := 0) 1 rfl ?_
  refine wq_ret rfl rfl ?_
  show wq 231 17 [(0, .ref 162), (1, .int kk), (2, .int 0)] [.int 0] h8 0 0 _
  refine wq_gos (f := 1) (pc2 := 35) (ls2 := [(0, .ref 162), (1, .int kk), (2, .int 0)]) (st2 := [.int (-99)]) (h2 := h8) (dc2 := 0) (ds2 := 0) 2 rfl ?_
  exact wq_ret rfl rfl ⟨h8, rfl⟩
set_option maxRecDepth 100000 in
set_option maxHeartbeats 4000000 in
theorem c_o13kh1 {h : zH} {kk : Int32} (c0 : zat h 0 = some (.inr (.inr (.inr (9, [.ref 2, .int 0, .ref 4, .ref 6, .ref 20, .long 70644700037184, .ref 34, .ref 36, .int 0, .long 0, .ref 42, .ref 44, .ref 60, .ref 66, .ref 72, .ref 74, .ref 150, .ref 158]))))) (c6 : zat h 6 = some (.inr (.inr (.inr (0, [.int 9, .int 4, .int 10, .int 2, .int 0, .long 70644700037184, .ref 8, .ref 10, .ref 12, .int 0, .ref 14, .ref 16, .int 0, .ref 18]))))) (c8 : zat h 8 = some (.inl (0, 6, [0, (-32), (-32), (-32), (-32), (-64)]))) (c10 : zat h 10 = some (.inl (0, 6, [99, 31, 31, 31, 31, 63]))) (c34 : zat h 34 = some (.inl (0, 6, [22000000, 0, 10000, 0, 0, 0]))) (c44 : zat h 44 = some (.inr (.inr (.inr (7, [.null, .null, .ref 46, .int 0, .ref 48, .ref 50, .ref 52, .ref 54, .ref 56, .ref 58]))))) (c46 : zat h 46 = some (.inl (0, 6, []))) (c48 : zat h 48 = some (.inl (0, 128, []))) (c50 : zat h 50 = some (.inl (0, 128, []))) (c52 : zat h 52 = some (.inl (0, 128, []))) (c54 : zat h 54 = some (.inl (0, 128, []))) (c56 : zat h 56 = some (.inl (0, 101, []))) (c58 : zat h 58 = some (.inr (.inl (16, [])))) (c60 : zat h 60 = some (.inr (.inr (.inr (1, [.int 0, .int 0, .ref 62, .ref 64, .int 0, .int 0]))))) (c62 : zat h 62 = some (.inr (.inl (16, [])))) (c64 : zat h 64 = some (.inl (0, 6, []))) (hlen : 117 ≤ h.length) (hk : 264 ≤ kk.toInt) : wq 114 0 [(0, .ref 0), (1, .int kk), (2, .int 1)] [] h 0 0 (fun r => ∃ (h2 : zH) (d s : Nat), r = (some (.int (-99)), h2, d, s) ∧ wFr [0, 36, 38, 40, 62, 60, 64, 44, 46, 48, 50, 52, 54, 56, 58] h h2 ∧ d ≤ 1200 ∧ s ≤ 720000) := by
  have e_0 : (0 : Int32).toInt = 0 := rfl
  have e6 : (6 : Int32).toInt = 6 := rfl
  have e264 : (264 : Int32).toInt = 264 := rfl
  refine wq_gos (f := 1) (pc2 := 1) (ls2 := [(0, .ref 0), (1, .int kk), (2, .int 1)]) (st2 := [.ref 0]) (h2 := h) (dc2 := 0) (ds2 := 0) 1 rfl ?_
  refine wq_inlv (y2 := 148) (as := []) rfl rfl rfl c0 rfl (wq_mono (c_held0 c0 c6 c8 c10 c34 c44 c46 c48 c50 c52 c54 c56 c58 c60 c62 c64 hlen) ?_)
  rintro _ ⟨h8, rL2, cap2, ks2, fa2, li2, d, s, rfl, f8, j9, j11, j15, j14⟩
  show wq 114 4 [(0, .ref 0), (1, .int kk), (2, .int 1)] [.ref 60] h8 (0 + d) (0 + s) _
  rw [Nat.zero_add, Nat.zero_add]
  refine wq_gos (f := 1) (pc2 := 6) (ls2 := [(3, .ref 60), (0, .ref 0), (1, .int kk), (2, .int 1)]) (st2 := [.int 1]) (h2 := h8) (dc2 := d) (ds2 := s) 2 rfl ?_
  refine wq_inl (y2 := 144) (as := [.int 1]) rfl rfl rfl ?_
  show wq 144 0 [(0, .int 1)] [] h8 0 0 _
  refine wq_gos (f := 1) (pc2 := 15) (ls2 := [(0, .int 1)]) (st2 := [.int 0]) (h2 := h8) (dc2 := 0) (ds2 := 0) 6 rfl ?_
  refine wq_ret rfl rfl ?_
  show wq 114 9 [(3, .ref 60), (0, .ref 0), (1, .int kk), (2, .int 1)] [.int 0] h8 d s _
  refine wq_gos (f := 1) (pc2 := 14) (ls2 := [(3, .ref 60), (0, .ref 0), (1, .int kk), (2, .int 1)]) (st2 := [.int kk, .ref 60]) (h2 := h8) (dc2 := d) (ds2 := s) 3 rfl ?_
  refine wq_inlv (y2 := 17) (as := [.int kk]) rfl rfl rfl j9 rfl ?_
  show wq 17 0 [(0, .ref 60), (1, .int kk)] [] h8 0 0 _
  refine wq_gos (f := 1) (pc2 := 1) (ls2 := [(0, .ref 60), (1, .int kk)]) (st2 := [.int kk]) (h2 := h8) (dc2 := 0) (ds2 := 0) 1 rfl ?_
  refine wq_lt0f rfl rfl (by omega) ?_
  refine wq_gos (f := 1) (pc2 := 6) (ls2 := [(0, .ref 60), (1, .int kk)]) (st2 := [.ref 60, .int kk]) (h2 := h8) (dc2 := 0) (ds2 := 0) 2 rfl ?_
  refine wq_getf rfl j9 rfl rfl ?_
  refine wq_ge2t rfl (by omega) ?_
  refine wq_gos (f := 1) (pc2 := 24) (ls2 := [(0, .ref 60), (1, .int kk)]) (st2 := [.int 0]) (h2 := h8) (dc2 := 0) (ds2 := 0) 1 rfl ?_
  refine wq_ret rfl rfl ?_
  show wq 114 17 [(3, .ref 60), (0, .ref 0), (1, .int kk), (2, .int 1)] [.int 0] h8 d s _
  refine wq_gos (f := 1) (pc2 := 35) (ls2 := [(3, .ref 60), (0, .ref 0), (1, .int kk), (2, .int 1)]) (st2 := [.int (-99)]) (h2 := h8) (dc2 := d) (ds2 := s) 3 rfl ?_
  exact wq_ret rfl rfl ⟨h8, d, s, rfl, (wFr_tr (wFr_rf _ _) (wFr_sub f8 (by simp))), by omega, by omega⟩
set_option maxRecDepth 100000 in
set_option maxHeartbeats 4000000 in
theorem m_o13kh1 {h : zH} {fs : List Value} {kk : Int32} (hM : zat h 162 = some (.inr (.inr (.inr (10, fs))))) (hC : mC fs) (c166 : zat h 166 = some (.inl (0, 14, [9, 4, 10, 2, 0, 0, 0, 9, 4, 10, 2, 0, 0, 0]))) (c168 : zat h 168 = some (.inl (0, 12, [0, (-32), (-32), (-32), (-32), (-64), 0, (-32), (-32), (-32), (-32), (-64)]))) (c170 : zat h 170 = some (.inl (0, 12, [99, 31, 31, 31, 31, 63, 99, 31, 31, 31, 31, 63]))) (c190 : zat h 190 = some (.inl (0, 6, [22000000, 0, 10000, 0, 0, 0]))) (c196 : zat h 196 = some (.inr (.inl (6000, [])))) (c200 : zat h 200 = some (.inl (0, 4096, []))) (c202 : zat h 202 = some (.inl (0, 4096, []))) (c204 : zat h 204 = some (.inl (0, 6, []))) (h33 : fs[33]? = some (.int 0)) (h27 : fs[27]? = some (.int 0)) (hk : 264 ≤ kk.toInt) : wq 231 0 [(0, .ref 162), (1, .int kk), (2, .int 1)] [] h 0 0 (fun r => ∃ h2, r = (some (.int (-99)), h2, 0, 0)) := by
  have e_0 : (0 : Int32).toInt = 0 := rfl
  have e6 : (6 : Int32).toInt = 6 := rfl
  have e264 : (264 : Int32).toInt = 264 := rfl
  refine wq_gos (f := 1) (pc2 := 2) (ls2 := [(0, .ref 162), (1, .int kk), (2, .int 1)]) (st2 := [.int 0, .ref 162]) (h2 := h) (dc2 := 0) (ds2 := 0) 2 rfl ?_
  refine wq_putf rfl hM rfl (by rw [hC.1]; rfl) rfl ?_
  intro h1x e2x f3x l4x
  obtain ⟨fs5x, hf6x⟩ : ∃ x, x = fs.set 0 (.int 0) := ⟨_, rfl⟩
  rw [← hf6x] at e2x
  have hC7x : mC fs5x := by rw [hf6x]; exact mC_set hC (by decide) _
  have p8x : fs5x[33]? = some (.int 0) := by rw [hf6x, List.getElem?_set_ne (by decide)]; exact h33
  have p9x : fs5x[27]? = some (.int 0) := by rw [hf6x, List.getElem?_set_ne (by decide)]; exact h27
  have p10x : fs5x[0]? = some (.int 0) := by rw [hf6x]; exact List.getElem?_set_self (by rw [hC.1]; decide)
  refine wq_gos (f := 1) (pc2 := 6) (ls2 := [(0, .ref 162), (1, .int kk), (2, .int 1)]) (st2 := [.int 1]) (h2 := h1x) (dc2 := 0) (ds2 := 0) 1 rfl ?_
  refine wq_inl (y2 := 208) (as := [.int 1]) rfl rfl rfl ?_
  show wq 208 0 [(0, .int 1)] [] h1x 0 0 _
  refine wq_gos (f := 1) (pc2 := 15) (ls2 := [(0, .int 1)]) (st2 := [.int 1]) (h2 := h1x) (dc2 := 0) (ds2 := 0) 7 rfl ?_
  refine wq_ret rfl rfl ?_
  show wq 231 9 [(0, .ref 162), (1, .int kk), (2, .int 1)] [.int 1] h1x 0 0 _
  refine wq_gos (f := 1) (pc2 := 14) (ls2 := [(0, .ref 162), (1, .int kk), (2, .int 1)]) (st2 := [.int kk, .ref 162]) (h2 := h1x) (dc2 := 0) (ds2 := 0) 3 rfl ?_
  refine wq_inlv (y2 := 230) (as := [.int kk]) rfl rfl rfl e2x rfl ?_
  show wq 230 0 [(0, .ref 162), (1, .int kk)] [] h1x 0 0 _
  refine wq_gos (f := 1) (pc2 := 1) (ls2 := [(0, .ref 162), (1, .int kk)]) (st2 := [.ref 162]) (h2 := h1x) (dc2 := 0) (ds2 := 0) 1 rfl ?_
  have e11x := (f3x.2 _ _ (wnc (by decide) wn0) c166)
  have e12x := (f3x.2 _ _ (wnc (by decide) wn0) c168)
  have e13x := (f3x.2 _ _ (wnc (by decide) wn0) c170)
  have e14x := (f3x.2 _ _ (wnc (by decide) wn0) c190)
  have e15x := (f3x.2 _ _ (wnc (by decide) wn0) c196)
  have e16x := (f3x.2 _ _ (wnc (by decide) wn0) c200)
  have e17x := (f3x.2 _ _ (wnc (by decide) wn0) c202)
  have e18x := (f3x.2 _ _ (wnc (by decide) wn0) c204)
  refine wq_inlv (y2 := 227) (as := []) rfl rfl rfl e2x rfl (wq_mono (m_aim0 e2x hC7x e11x e12x e13x e14x e15x e16x e17x e18x p8x p9x) ?_)
  rintro _ ⟨h8, fs8, fo8, rfl, f8, hM8, hC8, h328, h398, h278, hF8, hfo⟩
  show wq 230 4 [(0, .ref 162), (1, .int kk)] [] h8 0 0 _
  refine wq_gos (f := 1) (pc2 := 5) (ls2 := [(0, .ref 162), (1, .int kk)]) (st2 := [.int kk]) (h2 := h8) (dc2 := 0) (ds2 := 0) 1 rfl ?_
  refine wq_lt0f rfl rfl (by omega) ?_
  refine wq_gos (f := 1) (pc2 := 10) (ls2 := [(0, .ref 162), (1, .int kk)]) (st2 := [.ref 162, .int kk]) (h2 := h8) (dc2 := 0) (ds2 := 0) 2 rfl ?_
  refine wq_getf rfl hM8 h328 rfl ?_
  refine wq_ge2t rfl (by omega) ?_
  refine wq_gos (f := 1) (pc2 := 21) (ls2 := [(0, .ref 162), (1, .int kk)]) (st2 := [.int 0]) (h2 := h8) (dc2 := 0) (ds2 := 0) 1 rfl ?_
  refine wq_ret rfl rfl ?_
  show wq 231 17 [(0, .ref 162), (1, .int kk), (2, .int 1)] [.int 0] h8 0 0 _
  refine wq_gos (f := 1) (pc2 := 35) (ls2 := [(0, .ref 162), (1, .int kk), (2, .int 1)]) (st2 := [.int (-99)]) (h2 := h8) (dc2 := 0) (ds2 := 0) 2 rfl ?_
  exact wq_ret rfl rfl ⟨h8, rfl⟩
set_option maxRecDepth 100000 in
set_option maxHeartbeats 4000000 in
theorem c_o13kh2 {h : zH} {kk : Int32} (c0 : zat h 0 = some (.inr (.inr (.inr (9, [.ref 2, .int 0, .ref 4, .ref 6, .ref 20, .long 70644700037184, .ref 34, .ref 36, .int 0, .long 0, .ref 42, .ref 44, .ref 60, .ref 66, .ref 72, .ref 74, .ref 150, .ref 158]))))) (c6 : zat h 6 = some (.inr (.inr (.inr (0, [.int 9, .int 4, .int 10, .int 2, .int 0, .long 70644700037184, .ref 8, .ref 10, .ref 12, .int 0, .ref 14, .ref 16, .int 0, .ref 18]))))) (c8 : zat h 8 = some (.inl (0, 6, [0, (-32), (-32), (-32), (-32), (-64)]))) (c10 : zat h 10 = some (.inl (0, 6, [99, 31, 31, 31, 31, 63]))) (c34 : zat h 34 = some (.inl (0, 6, [22000000, 0, 10000, 0, 0, 0]))) (c44 : zat h 44 = some (.inr (.inr (.inr (7, [.null, .null, .ref 46, .int 0, .ref 48, .ref 50, .ref 52, .ref 54, .ref 56, .ref 58]))))) (c46 : zat h 46 = some (.inl (0, 6, []))) (c48 : zat h 48 = some (.inl (0, 128, []))) (c50 : zat h 50 = some (.inl (0, 128, []))) (c52 : zat h 52 = some (.inl (0, 128, []))) (c54 : zat h 54 = some (.inl (0, 128, []))) (c56 : zat h 56 = some (.inl (0, 101, []))) (c58 : zat h 58 = some (.inr (.inl (16, [])))) (c60 : zat h 60 = some (.inr (.inr (.inr (1, [.int 0, .int 0, .ref 62, .ref 64, .int 0, .int 0]))))) (c62 : zat h 62 = some (.inr (.inl (16, [])))) (c64 : zat h 64 = some (.inl (0, 6, []))) (hlen : 117 ≤ h.length) (hk : 264 ≤ kk.toInt) : wq 114 0 [(0, .ref 0), (1, .int kk), (2, .int 2)] [] h 0 0 (fun r => ∃ (h2 : zH) (d s : Nat), r = (some (.int (-99)), h2, d, s) ∧ wFr [0, 36, 38, 40, 62, 60, 64, 44, 46, 48, 50, 52, 54, 56, 58] h h2 ∧ d ≤ 1200 ∧ s ≤ 720000) := by
  have e_0 : (0 : Int32).toInt = 0 := rfl
  have e6 : (6 : Int32).toInt = 6 := rfl
  have e264 : (264 : Int32).toInt = 264 := rfl
  refine wq_gos (f := 1) (pc2 := 1) (ls2 := [(0, .ref 0), (1, .int kk), (2, .int 2)]) (st2 := [.ref 0]) (h2 := h) (dc2 := 0) (ds2 := 0) 1 rfl ?_
  refine wq_inlv (y2 := 148) (as := []) rfl rfl rfl c0 rfl (wq_mono (c_held0 c0 c6 c8 c10 c34 c44 c46 c48 c50 c52 c54 c56 c58 c60 c62 c64 hlen) ?_)
  rintro _ ⟨h8, rL2, cap2, ks2, fa2, li2, d, s, rfl, f8, j9, j11, j15, j14⟩
  show wq 114 4 [(0, .ref 0), (1, .int kk), (2, .int 2)] [.ref 60] h8 (0 + d) (0 + s) _
  rw [Nat.zero_add, Nat.zero_add]
  refine wq_gos (f := 1) (pc2 := 6) (ls2 := [(3, .ref 60), (0, .ref 0), (1, .int kk), (2, .int 2)]) (st2 := [.int 2]) (h2 := h8) (dc2 := d) (ds2 := s) 2 rfl ?_
  refine wq_inl (y2 := 144) (as := [.int 2]) rfl rfl rfl ?_
  show wq 144 0 [(0, .int 2)] [] h8 0 0 _
  refine wq_gos (f := 1) (pc2 := 15) (ls2 := [(0, .int 2)]) (st2 := [.int 0]) (h2 := h8) (dc2 := 0) (ds2 := 0) 6 rfl ?_
  refine wq_ret rfl rfl ?_
  show wq 114 9 [(3, .ref 60), (0, .ref 0), (1, .int kk), (2, .int 2)] [.int 0] h8 d s _
  refine wq_gos (f := 1) (pc2 := 14) (ls2 := [(3, .ref 60), (0, .ref 0), (1, .int kk), (2, .int 2)]) (st2 := [.int kk, .ref 60]) (h2 := h8) (dc2 := d) (ds2 := s) 3 rfl ?_
  refine wq_inlv (y2 := 17) (as := [.int kk]) rfl rfl rfl j9 rfl ?_
  show wq 17 0 [(0, .ref 60), (1, .int kk)] [] h8 0 0 _
  refine wq_gos (f := 1) (pc2 := 1) (ls2 := [(0, .ref 60), (1, .int kk)]) (st2 := [.int kk]) (h2 := h8) (dc2 := 0) (ds2 := 0) 1 rfl ?_
  refine wq_lt0f rfl rfl (by omega) ?_
  refine wq_gos (f := 1) (pc2 := 6) (ls2 := [(0, .ref 60), (1, .int kk)]) (st2 := [.ref 60, .int kk]) (h2 := h8) (dc2 := 0) (ds2 := 0) 2 rfl ?_
  refine wq_getf rfl j9 rfl rfl ?_
  refine wq_ge2t rfl (by omega) ?_
  refine wq_gos (f := 1) (pc2 := 24) (ls2 := [(0, .ref 60), (1, .int kk)]) (st2 := [.int 0]) (h2 := h8) (dc2 := 0) (ds2 := 0) 1 rfl ?_
  refine wq_ret rfl rfl ?_
  show wq 114 17 [(3, .ref 60), (0, .ref 0), (1, .int kk), (2, .int 2)] [.int 0] h8 d s _
  refine wq_gos (f := 1) (pc2 := 35) (ls2 := [(3, .ref 60), (0, .ref 0), (1, .int kk), (2, .int 2)]) (st2 := [.int (-99)]) (h2 := h8) (dc2 := d) (ds2 := s) 3 rfl ?_
  exact wq_ret rfl rfl ⟨h8, d, s, rfl, (wFr_tr (wFr_rf _ _) (wFr_sub f8 (by simp))), by omega, by omega⟩
set_option maxRecDepth 100000 in
set_option maxHeartbeats 4000000 in
theorem m_o13kh2 {h : zH} {fs : List Value} {kk : Int32} (hM : zat h 162 = some (.inr (.inr (.inr (10, fs))))) (hC : mC fs) (c166 : zat h 166 = some (.inl (0, 14, [9, 4, 10, 2, 0, 0, 0, 9, 4, 10, 2, 0, 0, 0]))) (c168 : zat h 168 = some (.inl (0, 12, [0, (-32), (-32), (-32), (-32), (-64), 0, (-32), (-32), (-32), (-32), (-64)]))) (c170 : zat h 170 = some (.inl (0, 12, [99, 31, 31, 31, 31, 63, 99, 31, 31, 31, 31, 63]))) (c190 : zat h 190 = some (.inl (0, 6, [22000000, 0, 10000, 0, 0, 0]))) (c196 : zat h 196 = some (.inr (.inl (6000, [])))) (c200 : zat h 200 = some (.inl (0, 4096, []))) (c202 : zat h 202 = some (.inl (0, 4096, []))) (c204 : zat h 204 = some (.inl (0, 6, []))) (h33 : fs[33]? = some (.int 0)) (h27 : fs[27]? = some (.int 0)) (hk : 264 ≤ kk.toInt) : wq 231 0 [(0, .ref 162), (1, .int kk), (2, .int 2)] [] h 0 0 (fun r => ∃ h2, r = (some (.int (-99)), h2, 0, 0)) := by
  have e_0 : (0 : Int32).toInt = 0 := rfl
  have e6 : (6 : Int32).toInt = 6 := rfl
  have e264 : (264 : Int32).toInt = 264 := rfl
  refine wq_gos (f := 1) (pc2 := 2) (ls2 := [(0, .ref 162), (1, .int kk), (2, .int 2)]) (st2 := [.int 0, .ref 162]) (h2 := h) (dc2 := 0) (ds2 := 0) 2 rfl ?_
  refine wq_putf rfl hM rfl (by rw [hC.1]; rfl) rfl ?_
  intro h1x e2x f3x l4x
  obtain ⟨fs5x, hf6x⟩ : ∃ x, x = fs.set 0 (.int 0) := ⟨_, rfl⟩
  rw [← hf6x] at e2x
  have hC7x : mC fs5x := by rw [hf6x]; exact mC_set hC (by decide) _
  have p8x : fs5x[33]? = some (.int 0) := by rw [hf6x, List.getElem?_set_ne (by decide)]; exact h33
  have p9x : fs5x[27]? = some (.int 0) := by rw [hf6x, List.getElem?_set_ne (by decide)]; exact h27
  have p10x : fs5x[0]? = some (.int 0) := by rw [hf6x]; exact List.getElem?_set_self (by rw [hC.1]; decide)
  refine wq_gos (f := 1) (pc2 := 6) (ls2 := [(0, .ref 162), (1, .int kk), (2, .int 2)]) (st2 := [.int 2]) (h2 := h1x) (dc2 := 0) (ds2 := 0) 1 rfl ?_
  refine wq_inl (y2 := 208) (as := [.int 2]) rfl rfl rfl ?_
  show wq 208 0 [(0, .int 2)] [] h1x 0 0 _
  refine wq_gos (f := 1) (pc2 := 15) (ls2 := [(0, .int 2)]) (st2 := [.int 1]) (h2 := h1x) (dc2 := 0) (ds2 := 0) 7 rfl ?_
  refine wq_ret rfl rfl ?_
  show wq 231 9 [(0, .ref 162), (1, .int kk), (2, .int 2)] [.int 1] h1x 0 0 _
  refine wq_gos (f := 1) (pc2 := 14) (ls2 := [(0, .ref 162), (1, .int kk), (2, .int 2)]) (st2 := [.int kk, .ref 162]) (h2 := h1x) (dc2 := 0) (ds2 := 0) 3 rfl ?_
  refine wq_inlv (y2 := 230) (as := [.int kk]) rfl rfl rfl e2x rfl ?_
  show wq 230 0 [(0, .ref 162), (1, .int kk)] [] h1x 0 0 _
  refine wq_gos (f := 1) (pc2 := 1) (ls2 := [(0, .ref 162), (1, .int kk)]) (st2 := [.ref 162]) (h2 := h1x) (dc2 := 0) (ds2 := 0) 1 rfl ?_
  have e11x := (f3x.2 _ _ (wnc (by decide) wn0) c166)
  have e12x := (f3x.2 _ _ (wnc (by decide) wn0) c168)
  have e13x := (f3x.2 _ _ (wnc (by decide) wn0) c170)
  have e14x := (f3x.2 _ _ (wnc (by decide) wn0) c190)
  have e15x := (f3x.2 _ _ (wnc (by decide) wn0) c196)
  have e16x := (f3x.2 _ _ (wnc (by decide) wn0) c200)
  have e17x := (f3x.2 _ _ (wnc (by decide) wn0) c202)
  have e18x := (f3x.2 _ _ (wnc (by decide) wn0) c204)
  refine wq_inlv (y2 := 227) (as := []) rfl rfl rfl e2x rfl (wq_mono (m_aim0 e2x hC7x e11x e12x e13x e14x e15x e16x e17x e18x p8x p9x) ?_)
  rintro _ ⟨h8, fs8, fo8, rfl, f8, hM8, hC8, h328, h398, h278, hF8, hfo⟩
  show wq 230 4 [(0, .ref 162), (1, .int kk)] [] h8 0 0 _
  refine wq_gos (f := 1) (pc2 := 5) (ls2 := [(0, .ref 162), (1, .int kk)]) (st2 := [.int kk]) (h2 := h8) (dc2 := 0) (ds2 := 0) 1 rfl ?_
  refine wq_lt0f rfl rfl (by omega) ?_
  refine wq_gos (f := 1) (pc2 := 10) (ls2 := [(0, .ref 162), (1, .int kk)]) (st2 := [.ref 162, .int kk]) (h2 := h8) (dc2 := 0) (ds2 := 0) 2 rfl ?_
  refine wq_getf rfl hM8 h328 rfl ?_
  refine wq_ge2t rfl (by omega) ?_
  refine wq_gos (f := 1) (pc2 := 21) (ls2 := [(0, .ref 162), (1, .int kk)]) (st2 := [.int 0]) (h2 := h8) (dc2 := 0) (ds2 := 0) 1 rfl ?_
  refine wq_ret rfl rfl ?_
  show wq 231 17 [(0, .ref 162), (1, .int kk), (2, .int 2)] [.int 0] h8 0 0 _
  refine wq_gos (f := 1) (pc2 := 35) (ls2 := [(0, .ref 162), (1, .int kk), (2, .int 2)]) (st2 := [.int (-99)]) (h2 := h8) (dc2 := 0) (ds2 := 0) 2 rfl ?_
  exact wq_ret rfl rfl ⟨h8, rfl⟩
set_option maxRecDepth 100000 in
set_option maxHeartbeats 4000000 in
theorem c_o13kh3 {h : zH} {kk : Int32} (c0 : zat h 0 = some (.inr (.inr (.inr (9, [.ref 2, .int 0, .ref 4, .ref 6, .ref 20, .long 70644700037184, .ref 34, .ref 36, .int 0, .long 0, .ref 42, .ref 44, .ref 60, .ref 66, .ref 72, .ref 74, .ref 150, .ref 158]))))) (c6 : zat h 6 = some (.inr (.inr (.inr (0, [.int 9, .int 4, .int 10, .int 2, .int 0, .long 70644700037184, .ref 8, .ref 10, .ref 12, .int 0, .ref 14, .ref 16, .int 0, .ref 18]))))) (c8 : zat h 8 = some (.inl (0, 6, [0, (-32), (-32), (-32), (-32), (-64)]))) (c10 : zat h 10 = some (.inl (0, 6, [99, 31, 31, 31, 31, 63]))) (c34 : zat h 34 = some (.inl (0, 6, [22000000, 0, 10000, 0, 0, 0]))) (c44 : zat h 44 = some (.inr (.inr (.inr (7, [.null, .null, .ref 46, .int 0, .ref 48, .ref 50, .ref 52, .ref 54, .ref 56, .ref 58]))))) (c46 : zat h 46 = some (.inl (0, 6, []))) (c48 : zat h 48 = some (.inl (0, 128, []))) (c50 : zat h 50 = some (.inl (0, 128, []))) (c52 : zat h 52 = some (.inl (0, 128, []))) (c54 : zat h 54 = some (.inl (0, 128, []))) (c56 : zat h 56 = some (.inl (0, 101, []))) (c58 : zat h 58 = some (.inr (.inl (16, [])))) (c60 : zat h 60 = some (.inr (.inr (.inr (1, [.int 0, .int 0, .ref 62, .ref 64, .int 0, .int 0]))))) (c62 : zat h 62 = some (.inr (.inl (16, [])))) (c64 : zat h 64 = some (.inl (0, 6, []))) (hlen : 117 ≤ h.length) (hk : 264 ≤ kk.toInt) : wq 114 0 [(0, .ref 0), (1, .int kk), (2, .int 3)] [] h 0 0 (fun r => ∃ (h2 : zH) (d s : Nat), r = (some (.int (-99)), h2, d, s) ∧ wFr [0, 36, 38, 40, 62, 60, 64, 44, 46, 48, 50, 52, 54, 56, 58] h h2 ∧ d ≤ 1200 ∧ s ≤ 720000) := by
  have e_0 : (0 : Int32).toInt = 0 := rfl
  have e6 : (6 : Int32).toInt = 6 := rfl
  have e264 : (264 : Int32).toInt = 264 := rfl
  refine wq_gos (f := 1) (pc2 := 1) (ls2 := [(0, .ref 0), (1, .int kk), (2, .int 3)]) (st2 := [.ref 0]) (h2 := h) (dc2 := 0) (ds2 := 0) 1 rfl ?_
  refine wq_inlv (y2 := 148) (as := []) rfl rfl rfl c0 rfl (wq_mono (c_held0 c0 c6 c8 c10 c34 c44 c46 c48 c50 c52 c54 c56 c58 c60 c62 c64 hlen) ?_)
  rintro _ ⟨h8, rL2, cap2, ks2, fa2, li2, d, s, rfl, f8, j9, j11, j15, j14⟩
  show wq 114 4 [(0, .ref 0), (1, .int kk), (2, .int 3)] [.ref 60] h8 (0 + d) (0 + s) _
  rw [Nat.zero_add, Nat.zero_add]
  refine wq_gos (f := 1) (pc2 := 6) (ls2 := [(3, .ref 60), (0, .ref 0), (1, .int kk), (2, .int 3)]) (st2 := [.int 3]) (h2 := h8) (dc2 := d) (ds2 := s) 2 rfl ?_
  refine wq_inl (y2 := 144) (as := [.int 3]) rfl rfl rfl ?_
  show wq 144 0 [(0, .int 3)] [] h8 0 0 _
  refine wq_gos (f := 1) (pc2 := 15) (ls2 := [(0, .int 3)]) (st2 := [.int 0]) (h2 := h8) (dc2 := 0) (ds2 := 0) 6 rfl ?_
  refine wq_ret rfl rfl ?_
  show wq 114 9 [(3, .ref 60), (0, .ref 0), (1, .int kk), (2, .int 3)] [.int 0] h8 d s _
  refine wq_gos (f := 1) (pc2 := 14) (ls2 := [(3, .ref 60), (0, .ref 0), (1, .int kk), (2, .int 3)]) (st2 := [.int kk, .ref 60]) (h2 := h8) (dc2 := d) (ds2 := s) 3 rfl ?_
  refine wq_inlv (y2 := 17) (as := [.int kk]) rfl rfl rfl j9 rfl ?_
  show wq 17 0 [(0, .ref 60), (1, .int kk)] [] h8 0 0 _
  refine wq_gos (f := 1) (pc2 := 1) (ls2 := [(0, .ref 60), (1, .int kk)]) (st2 := [.int kk]) (h2 := h8) (dc2 := 0) (ds2 := 0) 1 rfl ?_
  refine wq_lt0f rfl rfl (by omega) ?_
  refine wq_gos (f := 1) (pc2 := 6) (ls2 := [(0, .ref 60), (1, .int kk)]) (st2 := [.ref 60, .int kk]) (h2 := h8) (dc2 := 0) (ds2 := 0) 2 rfl ?_
  refine wq_getf rfl j9 rfl rfl ?_
  refine wq_ge2t rfl (by omega) ?_
  refine wq_gos (f := 1) (pc2 := 24) (ls2 := [(0, .ref 60), (1, .int kk)]) (st2 := [.int 0]) (h2 := h8) (dc2 := 0) (ds2 := 0) 1 rfl ?_
  refine wq_ret rfl rfl ?_
  show wq 114 17 [(3, .ref 60), (0, .ref 0), (1, .int kk), (2, .int 3)] [.int 0] h8 d s _
  refine wq_gos (f := 1) (pc2 := 35) (ls2 := [(3, .ref 60), (0, .ref 0), (1, .int kk), (2, .int 3)]) (st2 := [.int (-99)]) (h2 := h8) (dc2 := d) (ds2 := s) 3 rfl ?_
  exact wq_ret rfl rfl ⟨h8, d, s, rfl, (wFr_tr (wFr_rf _ _) (wFr_sub f8 (by simp))), by omega, by omega⟩
set_option maxRecDepth 100000 in
set_option maxHeartbeats 4000000 in
theorem m_o13kh3 {h : zH} {fs : List Value} {kk : Int32} (hM : zat h 162 = some (.inr (.inr (.inr (10, fs))))) (hC : mC fs) (c166 : zat h 166 = some (.inl (0, 14, [9, 4, 10, 2, 0, 0, 0, 9, 4, 10, 2, 0, 0, 0]))) (c168 : zat h 168 = some (.inl (0, 12, [0, (-32), (-32), (-32), (-32), (-64), 0, (-32), (-32), (-32), (-32), (-64)]))) (c170 : zat h 170 = some (.inl (0, 12, [99, 31, 31, 31, 31, 63, 99, 31, 31, 31, 31, 63]))) (c190 : zat h 190 = some (.inl (0, 6, [22000000, 0, 10000, 0, 0, 0]))) (c196 : zat h 196 = some (.inr (.inl (6000, [])))) (c200 : zat h 200 = some (.inl (0, 4096, []))) (c202 : zat h 202 = some (.inl (0, 4096, []))) (c204 : zat h 204 = some (.inl (0, 6, []))) (h33 : fs[33]? = some (.int 0)) (h27 : fs[27]? = some (.int 0)) (hk : 264 ≤ kk.toInt) : wq 231 0 [(0, .ref 162), (1, .int kk), (2, .int 3)] [] h 0 0 (fun r => ∃ h2, r = (some (.int (-99)), h2, 0, 0)) := by
  have e_0 : (0 : Int32).toInt = 0 := rfl
  have e6 : (6 : Int32).toInt = 6 := rfl
  have e264 : (264 : Int32).toInt = 264 := rfl
  refine wq_gos (f := 1) (pc2 := 2) (ls2 := [(0, .ref 162), (1, .int kk), (2, .int 3)]) (st2 := [.int 0, .ref 162]) (h2 := h) (dc2 := 0) (ds2 := 0) 2 rfl ?_
  refine wq_putf rfl hM rfl (by rw [hC.1]; rfl) rfl ?_
  intro h1x e2x f3x l4x
  obtain ⟨fs5x, hf6x⟩ : ∃ x, x = fs.set 0 (.int 0) := ⟨_, rfl⟩
  rw [← hf6x] at e2x
  have hC7x : mC fs5x := by rw [hf6x]; exact mC_set hC (by decide) _
  have p8x : fs5x[33]? = some (.int 0) := by rw [hf6x, List.getElem?_set_ne (by decide)]; exact h33
  have p9x : fs5x[27]? = some (.int 0) := by rw [hf6x, List.getElem?_set_ne (by decide)]; exact h27
  have p10x : fs5x[0]? = some (.int 0) := by rw [hf6x]; exact List.getElem?_set_self (by rw [hC.1]; decide)
  refine wq_gos (f := 1) (pc2 := 6) (ls2 := [(0, .ref 162), (1, .int kk), (2, .int 3)]) (st2 := [.int 3]) (h2 := h1x) (dc2 := 0) (ds2 := 0) 1 rfl ?_
  refine wq_inl (y2 := 208) (as := [.int 3]) rfl rfl rfl ?_
  show wq 208 0 [(0, .int 3)] [] h1x 0 0 _
  refine wq_gos (f := 1) (pc2 := 15) (ls2 := [(0, .int 3)]) (st2 := [.int 1]) (h2 := h1x) (dc2 := 0) (ds2 := 0) 7 rfl ?_
  refine wq_ret rfl rfl ?_
  show wq 231 9 [(0, .ref 162), (1, .int kk), (2, .int 3)] [.int 1] h1x 0 0 _
  refine wq_gos (f := 1) (pc2 := 14) (ls2 := [(0, .ref 162), (1, .int kk), (2, .int 3)]) (st2 := [.int kk, .ref 162]) (h2 := h1x) (dc2 := 0) (ds2 := 0) 3 rfl ?_
  refine wq_inlv (y2 := 230) (as := [.int kk]) rfl rfl rfl e2x rfl ?_
  show wq 230 0 [(0, .ref 162), (1, .int kk)] [] h1x 0 0 _
  refine wq_gos (f := 1) (pc2 := 1) (ls2 := [(0, .ref 162), (1, .int kk)]) (st2 := [.ref 162]) (h2 := h1x) (dc2 := 0) (ds2 := 0) 1 rfl ?_
  have e11x := (f3x.2 _ _ (wnc (by decide) wn0) c166)
  have e12x := (f3x.2 _ _ (wnc (by decide) wn0) c168)
  have e13x := (f3x.2 _ _ (wnc (by decide) wn0) c170)
  have e14x := (f3x.2 _ _ (wnc (by decide) wn0) c190)
  have e15x := (f3x.2 _ _ (wnc (by decide) wn0) c196)
  have e16x := (f3x.2 _ _ (wnc (by decide) wn0) c200)
  have e17x := (f3x.2 _ _ (wnc (by decide) wn0) c202)
  have e18x := (f3x.2 _ _ (wnc (by decide) wn0) c204)
  refine wq_inlv (y2 := 227) (as := []) rfl rfl rfl e2x rfl (wq_mono (m_aim0 e2x hC7x e11x e12x e13x e14x e15x e16x e17x e18x p8x p9x) ?_)
  rintro _ ⟨h8, fs8, fo8, rfl, f8, hM8, hC8, h328, h398, h278, hF8, hfo⟩
  show wq 230 4 [(0, .ref 162), (1, .int kk)] [] h8 0 0 _
  refine wq_gos (f := 1) (pc2 := 5) (ls2 := [(0, .ref 162), (1, .int kk)]) (st2 := [.int kk]) (h2 := h8) (dc2 := 0) (ds2 := 0) 1 rfl ?_
  refine wq_lt0f rfl rfl (by omega) ?_
  refine wq_gos (f := 1) (pc2 := 10) (ls2 := [(0, .ref 162), (1, .int kk)]) (st2 := [.ref 162, .int kk]) (h2 := h8) (dc2 := 0) (ds2 := 0) 2 rfl ?_
  refine wq_getf rfl hM8 h328 rfl ?_
  refine wq_ge2t rfl (by omega) ?_
  refine wq_gos (f := 1) (pc2 := 21) (ls2 := [(0, .ref 162), (1, .int kk)]) (st2 := [.int 0]) (h2 := h8) (dc2 := 0) (ds2 := 0) 1 rfl ?_
  refine wq_ret rfl rfl ?_
  show wq 231 17 [(0, .ref 162), (1, .int kk), (2, .int 3)] [.int 0] h8 0 0 _
  refine wq_gos (f := 1) (pc2 := 35) (ls2 := [(0, .ref 162), (1, .int kk), (2, .int 3)]) (st2 := [.int (-99)]) (h2 := h8) (dc2 := 0) (ds2 := 0) 2 rfl ?_
  exact wq_ret rfl rfl ⟨h8, rfl⟩
set_option maxRecDepth 100000 in
set_option maxHeartbeats 4000000 in
theorem c_o13kh4 {h : zH} {kk : Int32} (c0 : zat h 0 = some (.inr (.inr (.inr (9, [.ref 2, .int 0, .ref 4, .ref 6, .ref 20, .long 70644700037184, .ref 34, .ref 36, .int 0, .long 0, .ref 42, .ref 44, .ref 60, .ref 66, .ref 72, .ref 74, .ref 150, .ref 158]))))) (c6 : zat h 6 = some (.inr (.inr (.inr (0, [.int 9, .int 4, .int 10, .int 2, .int 0, .long 70644700037184, .ref 8, .ref 10, .ref 12, .int 0, .ref 14, .ref 16, .int 0, .ref 18]))))) (c8 : zat h 8 = some (.inl (0, 6, [0, (-32), (-32), (-32), (-32), (-64)]))) (c10 : zat h 10 = some (.inl (0, 6, [99, 31, 31, 31, 31, 63]))) (c34 : zat h 34 = some (.inl (0, 6, [22000000, 0, 10000, 0, 0, 0]))) (c44 : zat h 44 = some (.inr (.inr (.inr (7, [.null, .null, .ref 46, .int 0, .ref 48, .ref 50, .ref 52, .ref 54, .ref 56, .ref 58]))))) (c46 : zat h 46 = some (.inl (0, 6, []))) (c48 : zat h 48 = some (.inl (0, 128, []))) (c50 : zat h 50 = some (.inl (0, 128, []))) (c52 : zat h 52 = some (.inl (0, 128, []))) (c54 : zat h 54 = some (.inl (0, 128, []))) (c56 : zat h 56 = some (.inl (0, 101, []))) (c58 : zat h 58 = some (.inr (.inl (16, [])))) (c60 : zat h 60 = some (.inr (.inr (.inr (1, [.int 0, .int 0, .ref 62, .ref 64, .int 0, .int 0]))))) (c62 : zat h 62 = some (.inr (.inl (16, [])))) (c64 : zat h 64 = some (.inl (0, 6, []))) (hlen : 117 ≤ h.length) (hk : 264 ≤ kk.toInt) : wq 114 0 [(0, .ref 0), (1, .int kk), (2, .int 4)] [] h 0 0 (fun r => ∃ (h2 : zH) (d s : Nat), r = (some (.int (-99)), h2, d, s) ∧ wFr [0, 36, 38, 40, 62, 60, 64, 44, 46, 48, 50, 52, 54, 56, 58] h h2 ∧ d ≤ 1200 ∧ s ≤ 720000) := by
  have e_0 : (0 : Int32).toInt = 0 := rfl
  have e6 : (6 : Int32).toInt = 6 := rfl
  have e264 : (264 : Int32).toInt = 264 := rfl
  refine wq_gos (f := 1) (pc2 := 1) (ls2 := [(0, .ref 0), (1, .int kk), (2, .int 4)]) (st2 := [.ref 0]) (h2 := h) (dc2 := 0) (ds2 := 0) 1 rfl ?_
  refine wq_inlv (y2 := 148) (as := []) rfl rfl rfl c0 rfl (wq_mono (c_held0 c0 c6 c8 c10 c34 c44 c46 c48 c50 c52 c54 c56 c58 c60 c62 c64 hlen) ?_)
  rintro _ ⟨h8, rL2, cap2, ks2, fa2, li2, d, s, rfl, f8, j9, j11, j15, j14⟩
  show wq 114 4 [(0, .ref 0), (1, .int kk), (2, .int 4)] [.ref 60] h8 (0 + d) (0 + s) _
  rw [Nat.zero_add, Nat.zero_add]
  refine wq_gos (f := 1) (pc2 := 6) (ls2 := [(3, .ref 60), (0, .ref 0), (1, .int kk), (2, .int 4)]) (st2 := [.int 4]) (h2 := h8) (dc2 := d) (ds2 := s) 2 rfl ?_
  refine wq_inl (y2 := 144) (as := [.int 4]) rfl rfl rfl ?_
  show wq 144 0 [(0, .int 4)] [] h8 0 0 _
  refine wq_gos (f := 1) (pc2 := 15) (ls2 := [(0, .int 4)]) (st2 := [.int 0]) (h2 := h8) (dc2 := 0) (ds2 := 0) 6 rfl ?_
  refine wq_ret rfl rfl ?_
  show wq 114 9 [(3, .ref 60), (0, .ref 0), (1, .int kk), (2, .int 4)] [.int 0] h8 d s _
  refine wq_gos (f := 1) (pc2 := 14) (ls2 := [(3, .ref 60), (0, .ref 0), (1, .int kk), (2, .int 4)]) (st2 := [.int kk, .ref 60]) (h2 := h8) (dc2 := d) (ds2 := s) 3 rfl ?_
  refine wq_inlv (y2 := 17) (as := [.int kk]) rfl rfl rfl j9 rfl ?_
  show wq 17 0 [(0, .ref 60), (1, .int kk)] [] h8 0 0 _
  refine wq_gos (f := 1) (pc2 := 1) (ls2 := [(0, .ref 60), (1, .int kk)]) (st2 := [.int kk]) (h2 := h8) (dc2 := 0) (ds2 := 0) 1 rfl ?_
  refine wq_lt0f rfl rfl (by omega) ?_
  refine wq_gos (f := 1) (pc2 := 6) (ls2 := [(0, .ref 60), (1, .int kk)]) (st2 := [.ref 60, .int kk]) (h2 := h8) (dc2 := 0) (ds2 := 0) 2 rfl ?_
  refine wq_getf rfl j9 rfl rfl ?_
  refine wq_ge2t rfl (by omega) ?_
  refine wq_gos (f := 1) (pc2 := 24) (ls2 := [(0, .ref 60), (1, .int kk)]) (st2 := [.int 0]) (h2 := h8) (dc2 := 0) (ds2 := 0) 1 rfl ?_
  refine wq_ret rfl rfl ?_
  show wq 114 17 [(3, .ref 60), (0, .ref 0), (1, .int kk), (2, .int 4)] [.int 0] h8 d s _
  refine wq_gos (f := 1) (pc2 := 35) (ls2 := [(3, .ref 60), (0, .ref 0), (1, .int kk), (2, .int 4)]) (st2 := [.int (-99)]) (h2 := h8) (dc2 := d) (ds2 := s) 3 rfl ?_
  exact wq_ret rfl rfl ⟨h8, d, s, rfl, (wFr_tr (wFr_rf _ _) (wFr_sub f8 (by simp))), by omega, by omega⟩
set_option maxRecDepth 100000 in
set_option maxHeartbeats 4000000 in
theorem m_o13kh4 {h : zH} {fs : List Value} {kk : Int32} (hM : zat h 162 = some (.inr (.inr (.inr (10, fs))))) (hC : mC fs) (c166 : zat h 166 = some (.inl (0, 14, [9, 4, 10, 2, 0, 0, 0, 9, 4, 10, 2, 0, 0, 0]))) (c168 : zat h 168 = some (.inl (0, 12, [0, (-32), (-32), (-32), (-32), (-64), 0, (-32), (-32), (-32), (-32), (-64)]))) (c170 : zat h 170 = some (.inl (0, 12, [99, 31, 31, 31, 31, 63, 99, 31, 31, 31, 31, 63]))) (c190 : zat h 190 = some (.inl (0, 6, [22000000, 0, 10000, 0, 0, 0]))) (c196 : zat h 196 = some (.inr (.inl (6000, [])))) (c200 : zat h 200 = some (.inl (0, 4096, []))) (c202 : zat h 202 = some (.inl (0, 4096, []))) (c204 : zat h 204 = some (.inl (0, 6, []))) (h33 : fs[33]? = some (.int 0)) (h27 : fs[27]? = some (.int 0)) (hk : 264 ≤ kk.toInt) : wq 231 0 [(0, .ref 162), (1, .int kk), (2, .int 4)] [] h 0 0 (fun r => ∃ h2, r = (some (.int (-99)), h2, 0, 0)) := by
  have e_0 : (0 : Int32).toInt = 0 := rfl
  have e6 : (6 : Int32).toInt = 6 := rfl
  have e264 : (264 : Int32).toInt = 264 := rfl
  refine wq_gos (f := 1) (pc2 := 2) (ls2 := [(0, .ref 162), (1, .int kk), (2, .int 4)]) (st2 := [.int 0, .ref 162]) (h2 := h) (dc2 := 0) (ds2 := 0) 2 rfl ?_
  refine wq_putf rfl hM rfl (by rw [hC.1]; rfl) rfl ?_
  intro h1x e2x f3x l4x
  obtain ⟨fs5x, hf6x⟩ : ∃ x, x = fs.set 0 (.int 0) := ⟨_, rfl⟩
  rw [← hf6x] at e2x
  have hC7x : mC fs5x := by rw [hf6x]; exact mC_set hC (by decide) _
  have p8x : fs5x[33]? = some (.int 0) := by rw [hf6x, List.getElem?_set_ne (by decide)]; exact h33
  have p9x : fs5x[27]? = some (.int 0) := by rw [hf6x, List.getElem?_set_ne (by decide)]; exact h27
  have p10x : fs5x[0]? = some (.int 0) := by rw [hf6x]; exact List.getElem?_set_self (by rw [hC.1]; decide)
  refine wq_gos (f := 1) (pc2 := 6) (ls2 := [(0, .ref 162), (1, .int kk), (2, .int 4)]) (st2 := [.int 4]) (h2 := h1x) (dc2 := 0) (ds2 := 0) 1 rfl ?_
  refine wq_inl (y2 := 208) (as := [.int 4]) rfl rfl rfl ?_
  show wq 208 0 [(0, .int 4)] [] h1x 0 0 _
  refine wq_gos (f := 1) (pc2 := 15) (ls2 := [(0, .int 4)]) (st2 := [.int 1]) (h2 := h1x) (dc2 := 0) (ds2 := 0) 7 rfl ?_
  refine wq_ret rfl rfl ?_
  show wq 231 9 [(0, .ref 162), (1, .int kk), (2, .int 4)] [.int 1] h1x 0 0 _
  refine wq_gos (f := 1) (pc2 := 14) (ls2 := [(0, .ref 162), (1, .int kk), (2, .int 4)]) (st2 := [.int kk, .ref 162]) (h2 := h1x) (dc2 := 0) (ds2 := 0) 3 rfl ?_
  refine wq_inlv (y2 := 230) (as := [.int kk]) rfl rfl rfl e2x rfl ?_
  show wq 230 0 [(0, .ref 162), (1, .int kk)] [] h1x 0 0 _
  refine wq_gos (f := 1) (pc2 := 1) (ls2 := [(0, .ref 162), (1, .int kk)]) (st2 := [.ref 162]) (h2 := h1x) (dc2 := 0) (ds2 := 0) 1 rfl ?_
  have e11x := (f3x.2 _ _ (wnc (by decide) wn0) c166)
  have e12x := (f3x.2 _ _ (wnc (by decide) wn0) c168)
  have e13x := (f3x.2 _ _ (wnc (by decide) wn0) c170)
  have e14x := (f3x.2 _ _ (wnc (by decide) wn0) c190)
  have e15x := (f3x.2 _ _ (wnc (by decide) wn0) c196)
  have e16x := (f3x.2 _ _ (wnc (by decide) wn0) c200)
  have e17x := (f3x.2 _ _ (wnc (by decide) wn0) c202)
  have e18x := (f3x.2 _ _ (wnc (by decide) wn0) c204)
  refine wq_inlv (y2 := 227) (as := []) rfl rfl rfl e2x rfl (wq_mono (m_aim0 e2x hC7x e11x e12x e13x e14x e15x e16x e17x e18x p8x p9x) ?_)
  rintro _ ⟨h8, fs8, fo8, rfl, f8, hM8, hC8, h328, h398, h278, hF8, hfo⟩
  show wq 230 4 [(0, .ref 162), (1, .int kk)] [] h8 0 0 _
  refine wq_gos (f := 1) (pc2 := 5) (ls2 := [(0, .ref 162), (1, .int kk)]) (st2 := [.int kk]) (h2 := h8) (dc2 := 0) (ds2 := 0) 1 rfl ?_
  refine wq_lt0f rfl rfl (by omega) ?_
  refine wq_gos (f := 1) (pc2 := 10) (ls2 := [(0, .ref 162), (1, .int kk)]) (st2 := [.ref 162, .int kk]) (h2 := h8) (dc2 := 0) (ds2 := 0) 2 rfl ?_
  refine wq_getf rfl hM8 h328 rfl ?_
  refine wq_ge2t rfl (by omega) ?_
  refine wq_gos (f := 1) (pc2 := 21) (ls2 := [(0, .ref 162), (1, .int kk)]) (st2 := [.int 0]) (h2 := h8) (dc2 := 0) (ds2 := 0) 1 rfl ?_
  refine wq_ret rfl rfl ?_
  show wq 231 17 [(0, .ref 162), (1, .int kk), (2, .int 4)] [.int 0] h8 0 0 _
  refine wq_gos (f := 1) (pc2 := 35) (ls2 := [(0, .ref 162), (1, .int kk), (2, .int 4)]) (st2 := [.int (-99)]) (h2 := h8) (dc2 := 0) (ds2 := 0) 2 rfl ?_
  exact wq_ret rfl rfl ⟨h8, rfl⟩
set_option maxRecDepth 100000 in
set_option maxHeartbeats 4000000 in
theorem c_o13kh5 {h : zH} {kk : Int32} (c0 : zat h 0 = some (.inr (.inr (.inr (9, [.ref 2, .int 0, .ref 4, .ref 6, .ref 20, .long 70644700037184, .ref 34, .ref 36, .int 0, .long 0, .ref 42, .ref 44, .ref 60, .ref 66, .ref 72, .ref 74, .ref 150, .ref 158]))))) (c6 : zat h 6 = some (.inr (.inr (.inr (0, [.int 9, .int 4, .int 10, .int 2, .int 0, .long 70644700037184, .ref 8, .ref 10, .ref 12, .int 0, .ref 14, .ref 16, .int 0, .ref 18]))))) (c8 : zat h 8 = some (.inl (0, 6, [0, (-32), (-32), (-32), (-32), (-64)]))) (c10 : zat h 10 = some (.inl (0, 6, [99, 31, 31, 31, 31, 63]))) (c34 : zat h 34 = some (.inl (0, 6, [22000000, 0, 10000, 0, 0, 0]))) (c44 : zat h 44 = some (.inr (.inr (.inr (7, [.null, .null, .ref 46, .int 0, .ref 48, .ref 50, .ref 52, .ref 54, .ref 56, .ref 58]))))) (c46 : zat h 46 = some (.inl (0, 6, []))) (c48 : zat h 48 = some (.inl (0, 128, []))) (c50 : zat h 50 = some (.inl (0, 128, []))) (c52 : zat h 52 = some (.inl (0, 128, []))) (c54 : zat h 54 = some (.inl (0, 128, []))) (c56 : zat h 56 = some (.inl (0, 101, []))) (c58 : zat h 58 = some (.inr (.inl (16, [])))) (c60 : zat h 60 = some (.inr (.inr (.inr (1, [.int 0, .int 0, .ref 62, .ref 64, .int 0, .int 0]))))) (c62 : zat h 62 = some (.inr (.inl (16, [])))) (c64 : zat h 64 = some (.inl (0, 6, []))) (hlen : 117 ≤ h.length) (hk : 264 ≤ kk.toInt) : wq 114 0 [(0, .ref 0), (1, .int kk), (2, .int 5)] [] h 0 0 (fun r => ∃ (h2 : zH) (d s : Nat), r = (some (.int (-99)), h2, d, s) ∧ wFr [0, 36, 38, 40, 62, 60, 64, 44, 46, 48, 50, 52, 54, 56, 58] h h2 ∧ d ≤ 1200 ∧ s ≤ 720000) := by
  have e_0 : (0 : Int32).toInt = 0 := rfl
  have e6 : (6 : Int32).toInt = 6 := rfl
  have e264 : (264 : Int32).toInt = 264 := rfl
  refine wq_gos (f := 1) (pc2 := 1) (ls2 := [(0, .ref 0), (1, .int kk), (2, .int 5)]) (st2 := [.ref 0]) (h2 := h) (dc2 := 0) (ds2 := 0) 1 rfl ?_
  refine wq_inlv (y2 := 148) (as := []) rfl rfl rfl c0 rfl (wq_mono (c_held0 c0 c6 c8 c10 c34 c44 c46 c48 c50 c52 c54 c56 c58 c60 c62 c64 hlen) ?_)
  rintro _ ⟨h8, rL2, cap2, ks2, fa2, li2, d, s, rfl, f8, j9, j11, j15, j14⟩
  show wq 114 4 [(0, .ref 0), (1, .int kk), (2, .int 5)] [.ref 60] h8 (0 + d) (0 + s) _
  rw [Nat.zero_add, Nat.zero_add]
  refine wq_gos (f := 1) (pc2 := 6) (ls2 := [(3, .ref 60), (0, .ref 0), (1, .int kk), (2, .int 5)]) (st2 := [.int 5]) (h2 := h8) (dc2 := d) (ds2 := s) 2 rfl ?_
  refine wq_inl (y2 := 144) (as := [.int 5]) rfl rfl rfl ?_
  show wq 144 0 [(0, .int 5)] [] h8 0 0 _
  refine wq_gos (f := 1) (pc2 := 15) (ls2 := [(0, .int 5)]) (st2 := [.int 0]) (h2 := h8) (dc2 := 0) (ds2 := 0) 6 rfl ?_
  refine wq_ret rfl rfl ?_
  show wq 114 9 [(3, .ref 60), (0, .ref 0), (1, .int kk), (2, .int 5)] [.int 0] h8 d s _
  refine wq_gos (f := 1) (pc2 := 14) (ls2 := [(3, .ref 60), (0, .ref 0), (1, .int kk), (2, .int 5)]) (st2 := [.int kk, .ref 60]) (h2 := h8) (dc2 := d) (ds2 := s) 3 rfl ?_
  refine wq_inlv (y2 := 17) (as := [.int kk]) rfl rfl rfl j9 rfl ?_
  show wq 17 0 [(0, .ref 60), (1, .int kk)] [] h8 0 0 _
  refine wq_gos (f := 1) (pc2 := 1) (ls2 := [(0, .ref 60), (1, .int kk)]) (st2 := [.int kk]) (h2 := h8) (dc2 := 0) (ds2 := 0) 1 rfl ?_
  refine wq_lt0f rfl rfl (by omega) ?_
  refine wq_gos (f := 1) (pc2 := 6) (ls2 := [(0, .ref 60), (1, .int kk)]) (st2 := [.ref 60, .int kk]) (h2 := h8) (dc2 := 0) (ds2 := 0) 2 rfl ?_
  refine wq_getf rfl j9 rfl rfl ?_
  refine wq_ge2t rfl (by omega) ?_
  refine wq_gos (f := 1) (pc2 := 24) (ls2 := [(0, .ref 60), (1, .int kk)]) (st2 := [.int 0]) (h2 := h8) (dc2 := 0) (ds2 := 0) 1 rfl ?_
  refine wq_ret rfl rfl ?_
  show wq 114 17 [(3, .ref 60), (0, .ref 0), (1, .int kk), (2, .int 5)] [.int 0] h8 d s _
  refine wq_gos (f := 1) (pc2 := 35) (ls2 := [(3, .ref 60), (0, .ref 0), (1, .int kk), (2, .int 5)]) (st2 := [.int (-99)]) (h2 := h8) (dc2 := d) (ds2 := s) 3 rfl ?_
  exact wq_ret rfl rfl ⟨h8, d, s, rfl, (wFr_tr (wFr_rf _ _) (wFr_sub f8 (by simp))), by omega, by omega⟩
set_option maxRecDepth 100000 in
set_option maxHeartbeats 4000000 in
theorem m_o13kh5 {h : zH} {fs : List Value} {kk : Int32} (hM : zat h 162 = some (.inr (.inr (.inr (10, fs))))) (hC : mC fs) (c166 : zat h 166 = some (.inl (0, 14, [9, 4, 10, 2, 0, 0, 0, 9, 4, 10, 2, 0, 0, 0]))) (c168 : zat h 168 = some (.inl (0, 12, [0, (-32), (-32), (-32), (-32), (-64), 0, (-32), (-32), (-32), (-32), (-64)]))) (c170 : zat h 170 = some (.inl (0, 12, [99, 31, 31, 31, 31, 63, 99, 31, 31, 31, 31, 63]))) (c190 : zat h 190 = some (.inl (0, 6, [22000000, 0, 10000, 0, 0, 0]))) (c196 : zat h 196 = some (.inr (.inl (6000, [])))) (c200 : zat h 200 = some (.inl (0, 4096, []))) (c202 : zat h 202 = some (.inl (0, 4096, []))) (c204 : zat h 204 = some (.inl (0, 6, []))) (h33 : fs[33]? = some (.int 0)) (h27 : fs[27]? = some (.int 0)) (hk : 264 ≤ kk.toInt) : wq 231 0 [(0, .ref 162), (1, .int kk), (2, .int 5)] [] h 0 0 (fun r => ∃ h2, r = (some (.int (-99)), h2, 0, 0)) := by
  have e_0 : (0 : Int32).toInt = 0 := rfl
  have e6 : (6 : Int32).toInt = 6 := rfl
  have e264 : (264 : Int32).toInt = 264 := rfl
  refine wq_gos (f := 1) (pc2 := 2) (ls2 := [(0, .ref 162), (1, .int kk), (2, .int 5)]) (st2 := [.int 0, .ref 162]) (h2 := h) (dc2 := 0) (ds2 := 0) 2 rfl ?_
  refine wq_putf rfl hM rfl (by rw [hC.1]; rfl) rfl ?_
  intro h1x e2x f3x l4x
  obtain ⟨fs5x, hf6x⟩ : ∃ x, x = fs.set 0 (.int 0) := ⟨_, rfl⟩
  rw [← hf6x] at e2x
  have hC7x : mC fs5x := by rw [hf6x]; exact mC_set hC (by decide) _
  have p8x : fs5x[33]? = some (.int 0) := by rw [hf6x, List.getElem?_set_ne (by decide)]; exact h33
  have p9x : fs5x[27]? = some (.int 0) := by rw [hf6x, List.getElem?_set_ne (by decide)]; exact h27
  have p10x : fs5x[0]? = some (.int 0) := by rw [hf6x]; exact List.getElem?_set_self (by rw [hC.1]; decide)
  refine wq_gos (f := 1) (pc2 := 6) (ls2 := [(0, .ref 162), (1, .int kk), (2, .int 5)]) (st2 := [.int 5]) (h2 := h1x) (dc2 := 0) (ds2 := 0) 1 rfl ?_
  refine wq_inl (y2 := 208) (as := [.int 5]) rfl rfl rfl ?_
  show wq 208 0 [(0, .int 5)] [] h1x 0 0 _
  refine wq_gos (f := 1) (pc2 := 15) (ls2 := [(0, .int 5)]) (st2 := [.int 1]) (h2 := h1x) (dc2 := 0) (ds2 := 0) 7 rfl ?_
  refine wq_ret rfl rfl ?_
  show wq 231 9 [(0, .ref 162), (1, .int kk), (2, .int 5)] [.int 1] h1x 0 0 _
  refine wq_gos (f := 1) (pc2 := 14) (ls2 := [(0, .ref 162), (1, .int kk), (2, .int 5)]) (st2 := [.int kk, .ref 162]) (h2 := h1x) (dc2 := 0) (ds2 := 0) 3 rfl ?_
  refine wq_inlv (y2 := 230) (as := [.int kk]) rfl rfl rfl e2x rfl ?_
  show wq 230 0 [(0, .ref 162), (1, .int kk)] [] h1x 0 0 _
  refine wq_gos (f := 1) (pc2 := 1) (ls2 := [(0, .ref 162), (1, .int kk)]) (st2 := [.ref 162]) (h2 := h1x) (dc2 := 0) (ds2 := 0) 1 rfl ?_
  have e11x := (f3x.2 _ _ (wnc (by decide) wn0) c166)
  have e12x := (f3x.2 _ _ (wnc (by decide) wn0) c168)
  have e13x := (f3x.2 _ _ (wnc (by decide) wn0) c170)
  have e14x := (f3x.2 _ _ (wnc (by decide) wn0) c190)
  have e15x := (f3x.2 _ _ (wnc (by decide) wn0) c196)
  have e16x := (f3x.2 _ _ (wnc (by decide) wn0) c200)
  have e17x := (f3x.2 _ _ (wnc (by decide) wn0) c202)
  have e18x := (f3x.2 _ _ (wnc (by decide) wn0) c204)
  refine wq_inlv (y2 := 227) (as := []) rfl rfl rfl e2x rfl (wq_mono (m_aim0 e2x hC7x e11x e12x e13x e14x e15x e16x e17x e18x p8x p9x) ?_)
  rintro _ ⟨h8, fs8, fo8, rfl, f8, hM8, hC8, h328, h398, h278, hF8, hfo⟩
  show wq 230 4 [(0, .ref 162), (1, .int kk)] [] h8 0 0 _
  refine wq_gos (f := 1) (pc2 := 5) (ls2 := [(0, .ref 162), (1, .int kk)]) (st2 := [.int kk]) (h2 := h8) (dc2 := 0) (ds2 := 0) 1 rfl ?_
  refine wq_lt0f rfl rfl (by omega) ?_
  refine wq_gos (f := 1) (pc2 := 10) (ls2 := [(0, .ref 162), (1, .int kk)]) (st2 := [.ref 162, .int kk]) (h2 := h8) (dc2 := 0) (ds2 := 0) 2 rfl ?_
  refine wq_getf rfl hM8 h328 rfl ?_
  refine wq_ge2t rfl (by omega) ?_
  refine wq_gos (f := 1) (pc2 := 21) (ls2 := [(0, .ref 162), (1, .int kk)]) (st2 := [.int 0]) (h2 := h8) (dc2 := 0) (ds2 := 0) 1 rfl ?_
  refine wq_ret rfl rfl ?_
  show wq 231 17 [(0, .ref 162), (1, .int kk), (2, .int 5)] [.int 0] h8 0 0 _
  refine wq_gos (f := 1) (pc2 := 35) (ls2 := [(0, .ref 162), (1, .int kk), (2, .int 5)]) (st2 := [.int (-99)]) (h2 := h8) (dc2 := 0) (ds2 := 0) 2 rfl ?_
  exact wq_ret rfl rfl ⟨h8, rfl⟩
set_option maxRecDepth 100000 in
set_option maxHeartbeats 4000000 in
theorem c_o18kh {h : zH} {kk : Int32} (c0 : zat h 0 = some (.inr (.inr (.inr (9, [.ref 2, .int 0, .ref 4, .ref 6, .ref 20, .long 70644700037184, .ref 34, .ref 36, .int 0, .long 0, .ref 42, .ref 44, .ref 60, .ref 66, .ref 72, .ref 74, .ref 150, .ref 158]))))) (c6 : zat h 6 = some (.inr (.inr (.inr (0, [.int 9, .int 4, .int 10, .int 2, .int 0, .long 70644700037184, .ref 8, .ref 10, .ref 12, .int 0, .ref 14, .ref 16, .int 0, .ref 18]))))) (c8 : zat h 8 = some (.inl (0, 6, [0, (-32), (-32), (-32), (-32), (-64)]))) (c10 : zat h 10 = some (.inl (0, 6, [99, 31, 31, 31, 31, 63]))) (c34 : zat h 34 = some (.inl (0, 6, [22000000, 0, 10000, 0, 0, 0]))) (c44 : zat h 44 = some (.inr (.inr (.inr (7, [.null, .null, .ref 46, .int 0, .ref 48, .ref 50, .ref 52, .ref 54, .ref 56, .ref 58]))))) (c46 : zat h 46 = some (.inl (0, 6, []))) (c48 : zat h 48 = some (.inl (0, 128, []))) (c50 : zat h 50 = some (.inl (0, 128, []))) (c52 : zat h 52 = some (.inl (0, 128, []))) (c54 : zat h 54 = some (.inl (0, 128, []))) (c56 : zat h 56 = some (.inl (0, 101, []))) (c58 : zat h 58 = some (.inr (.inl (16, [])))) (c60 : zat h 60 = some (.inr (.inr (.inr (1, [.int 0, .int 0, .ref 62, .ref 64, .int 0, .int 0]))))) (c62 : zat h 62 = some (.inr (.inl (16, [])))) (c64 : zat h 64 = some (.inl (0, 6, []))) (c36 : zat h 36 = some (.inr (.inr (.inr (2, [.int 0, .int 0, .ref 38, .ref 40]))))) (c38 : zat h 38 = some (.inr (.inl (20, [])))) (c40 : zat h 40 = some (.inl (0, 120, []))) (hlen : 117 ≤ h.length) (hk : 264 ≤ kk.toInt) : wq 119 0 [(0, .ref 0), (1, .int kk)] [] h 0 0 (fun r => ∃ (h2 : zH) (d s : Nat), r = (some (.int 0), h2, d, s) ∧ wFr [0, 36, 38, 40, 62, 60, 64, 44, 46, 48, 50, 52, 54, 56, 58] h h2 ∧ d ≤ 1200 ∧ s ≤ 720000) := by
  have e_0 : (0 : Int32).toInt = 0 := rfl
  have e6 : (6 : Int32).toInt = 6 := rfl
  have e264 : (264 : Int32).toInt = 264 := rfl
  refine wq_gos (f := 1) (pc2 := 1) (ls2 := [(0, .ref 0), (1, .int kk)]) (st2 := [.ref 0]) (h2 := h) (dc2 := 0) (ds2 := 0) 1 rfl ?_
  refine wq_inlv (y2 := 148) (as := []) rfl rfl rfl c0 rfl (wq_mono (c_held0 c0 c6 c8 c10 c34 c44 c46 c48 c50 c52 c54 c56 c58 c60 c62 c64 hlen) ?_)
  rintro _ ⟨h8, rL2, cap2, ks2, fa2, li2, d, s, rfl, f8, j9, j11, j15, j14⟩
  show wq 119 4 [(0, .ref 0), (1, .int kk)] [.ref 60] h8 (0 + d) (0 + s) _
  rw [Nat.zero_add, Nat.zero_add]
  refine wq_gos (f := 1) (pc2 := 7) (ls2 := [(2, .ref 60), (0, .ref 0), (1, .int kk)]) (st2 := [.int kk, .ref 60]) (h2 := h8) (dc2 := d) (ds2 := s) 3 rfl ?_
  refine wq_inlv (y2 := 17) (as := [.int kk]) rfl rfl rfl j9 rfl ?_
  show wq 17 0 [(0, .ref 60), (1, .int kk)] [] h8 0 0 _
  refine wq_gos (f := 1) (pc2 := 1) (ls2 := [(0, .ref 60), (1, .int kk)]) (st2 := [.int kk]) (h2 := h8) (dc2 := 0) (ds2 := 0) 1 rfl ?_
  refine wq_lt0f rfl rfl (by omega) ?_
  refine wq_gos (f := 1) (pc2 := 6) (ls2 := [(0, .ref 60), (1, .int kk)]) (st2 := [.ref 60, .int kk]) (h2 := h8) (dc2 := 0) (ds2 := 0) 2 rfl ?_
  refine wq_getf rfl j9 rfl rfl ?_
  refine wq_ge2t rfl (by omega) ?_
  refine wq_gos (f := 1) (pc2 := 24) (ls2 := [(0, .ref 60), (1, .int kk)]) (st2 := [.int 0]) (h2 := h8) (dc2 := 0) (ds2 := 0) 1 rfl ?_
  refine wq_ret rfl rfl ?_
  show wq 119 10 [(2, .ref 60), (0, .ref 0), (1, .int kk)] [.int 0] h8 d s _
  refine wq_gos (f := 1) (pc2 := 14) (ls2 := [(2, .ref 60), (0, .ref 0), (1, .int kk)]) (st2 := [.int 0]) (h2 := h8) (dc2 := d) (ds2 := s) 2 rfl ?_
  exact wq_ret rfl rfl ⟨h8, d, s, rfl, (wFr_tr (wFr_rf _ _) (wFr_sub f8 (by simp))), by omega, by omega⟩
set_option maxRecDepth 100000 in
set_option maxHeartbeats 4000000 in
theorem m_o18kh {h : zH} {fs : List Value} {kk : Int32} (hM : zat h 162 = some (.inr (.inr (.inr (10, fs))))) (hC : mC fs) (c166 : zat h 166 = some (.inl (0, 14, [9, 4, 10, 2, 0, 0, 0, 9, 4, 10, 2, 0, 0, 0]))) (c168 : zat h 168 = some (.inl (0, 12, [0, (-32), (-32), (-32), (-32), (-64), 0, (-32), (-32), (-32), (-32), (-64)]))) (c170 : zat h 170 = some (.inl (0, 12, [99, 31, 31, 31, 31, 63, 99, 31, 31, 31, 31, 63]))) (c190 : zat h 190 = some (.inl (0, 6, [22000000, 0, 10000, 0, 0, 0]))) (c196 : zat h 196 = some (.inr (.inl (6000, [])))) (c200 : zat h 200 = some (.inl (0, 4096, []))) (c202 : zat h 202 = some (.inl (0, 4096, []))) (c204 : zat h 204 = some (.inl (0, 6, []))) (c188 : zat h 188 = some (.inl (0, 6, [0, 0, 0, 0, 0, 0]))) (c192 : zat h 192 = some (.inl (0, 252, []))) (c212 : zat h 212 = some (.inl (2, 2, [0, 0]))) (h33 : fs[33]? = some (.int 0)) (h27 : fs[27]? = some (.int 0)) (hk : 264 ≤ kk.toInt) : wq 239 0 [(0, .ref 162), (1, .int kk)] [] h 0 0 (fun r => ∃ h2, r = (some (.int 0), h2, 0, 0)) := by
  have e_0 : (0 : Int32).toInt = 0 := rfl
  have e6 : (6 : Int32).toInt = 6 := rfl
  have e264 : (264 : Int32).toInt = 264 := rfl
  refine wq_gos (f := 1) (pc2 := 2) (ls2 := [(0, .ref 162), (1, .int kk)]) (st2 := [.int 0, .ref 162]) (h2 := h) (dc2 := 0) (ds2 := 0) 2 rfl ?_
  refine wq_putf rfl hM rfl (by rw [hC.1]; rfl) rfl ?_
  intro h1x e2x f3x l4x
  obtain ⟨fs5x, hf6x⟩ : ∃ x, x = fs.set 0 (.int 0) := ⟨_, rfl⟩
  rw [← hf6x] at e2x
  have hC7x : mC fs5x := by rw [hf6x]; exact mC_set hC (by decide) _
  have p8x : fs5x[33]? = some (.int 0) := by rw [hf6x, List.getElem?_set_ne (by decide)]; exact h33
  have p9x : fs5x[27]? = some (.int 0) := by rw [hf6x, List.getElem?_set_ne (by decide)]; exact h27
  have p10x : fs5x[0]? = some (.int 0) := by rw [hf6x]; exact List.getElem?_set_self (by rw [hC.1]; decide)
  refine wq_gos (f := 1) (pc2 := 7) (ls2 := [(0, .ref 162), (1, .int kk)]) (st2 := [.int kk, .ref 162]) (h2 := h1x) (dc2 := 0) (ds2 := 0) 2 rfl ?_
  refine wq_inlv (y2 := 230) (as := [.int kk]) rfl rfl rfl e2x rfl ?_
  show wq 230 0 [(0, .ref 162), (1, .int kk)] [] h1x 0 0 _
  refine wq_gos (f := 1) (pc2 := 1) (ls2 := [(0, .ref 162), (1, .int kk)]) (st2 := [.ref 162]) (h2 := h1x) (dc2 := 0) (ds2 := 0) 1 rfl ?_
  have e11x := (f3x.2 _ _ (wnc (by decide) wn0) c166)
  have e12x := (f3x.2 _ _ (wnc (by decide) wn0) c168)
  have e13x := (f3x.2 _ _ (wnc (by decide) wn0) c170)
  have e14x := (f3x.2 _ _ (wnc (by decide) wn0) c190)
  have e15x := (f3x.2 _ _ (wnc (by decide) wn0) c196)
  have e16x := (f3x.2 _ _ (wnc (by decide) wn0) c200)
  have e17x := (f3x.2 _ _ (wnc (by decide) wn0) c202)
  have e18x := (f3x.2 _ _ (wnc (by decide) wn0) c204)
  refine wq_inlv (y2 := 227) (as := []) rfl rfl rfl e2x rfl (wq_mono (m_aim0 e2x hC7x e11x e12x e13x e14x e15x e16x e17x e18x p8x p9x) ?_)
  rintro _ ⟨h8, fs8, fo8, rfl, f8, hM8, hC8, h328, h398, h278, hF8, hfo⟩
  show wq 230 4 [(0, .ref 162), (1, .int kk)] [] h8 0 0 _
  refine wq_gos (f := 1) (pc2 := 5) (ls2 := [(0, .ref 162), (1, .int kk)]) (st2 := [.int kk]) (h2 := h8) (dc2 := 0) (ds2 := 0) 1 rfl ?_
  refine wq_lt0f rfl rfl (by omega) ?_
  refine wq_gos (f := 1) (pc2 := 10) (ls2 := [(0, .ref 162), (1, .int kk)]) (st2 := [.ref 162, .int kk]) (h2 := h8) (dc2 := 0) (ds2 := 0) 2 rfl ?_
  refine wq_getf rfl hM8 h328 rfl ?_
  refine wq_ge2t rfl (by omega) ?_
  refine wq_gos (f := 1) (pc2 := 21) (ls2 := [(0, .ref 162), (1, .int kk)]) (st2 := [.int 0]) (h2 := h8) (dc2 := 0) (ds2 := 0) 1 rfl ?_
  refine wq_ret rfl rfl ?_
  show wq 239 10 [(0, .ref 162), (1, .int kk)] [.int 0] h8 0 0 _
  refine wq_gos (f := 1) (pc2 := 14) (ls2 := [(0, .ref 162), (1, .int kk)]) (st2 := [.int 0]) (h2 := h8) (dc2 := 0) (ds2 := 0) 2 rfl ?_
  exact wq_ret rfl rfl ⟨h8, rfl⟩
def mjo0 (x : Int64) : Int32 := ((x >>> (((31 : Int32)).toInt64 &&& 63))).toInt32
theorem m_jo0 (x : Int64) (h : zH) : zT zg0 zF zP 220 0 [(0, .ref 162), (1, .long x), (3, .int 0)] [] h 0 0 (some (.int (mjo0 x)), h, 0, 0) := ⟨60, rfl⟩
theorem jo_eq0 : (List.range 264).all (fun k => decide (jnum (so0.getD k 0) 40 = mjo0 (ml0.getD k 0))) = true := by decide +kernel
theorem jo0 {K : Nat} (hK : K < 264) : jnum (so0.getD K 0) 40 = mjo0 (ml0.getD K 0) := of_decide_eq_true (List.all_eq_true.mp jo_eq0 K (List.mem_range.mpr hK))
def mjo1 (x : Int64) : Int32 := ((((x >>> (((25 : Int32)).toInt64 &&& 63)) &&& (63 : Int64))).toInt32 - (32 : Int32))
theorem m_jo1 (x : Int64) (h : zH) : zT zg0 zF zP 220 0 [(0, .ref 162), (1, .long x), (3, .int 1)] [] h 0 0 (some (.int (mjo1 x)), h, 0, 0) := ⟨60, rfl⟩
theorem jo_eq1 : (List.range 264).all (fun k => decide (jnum (so0.getD k 0) 32 = mjo1 (ml0.getD k 0))) = true := by decide +kernel
theorem jo1 {K : Nat} (hK : K < 264) : jnum (so0.getD K 0) 32 = mjo1 (ml0.getD K 0) := of_decide_eq_true (List.all_eq_true.mp jo_eq1 K (List.mem_range.mpr hK))
def mjo2 (x : Int64) : Int32 := ((((x >>> (((19 : Int32)).toInt64 &&& 63)) &&& (63 : Int64))).toInt32 - (32 : Int32))
theorem m_jo2 (x : Int64) (h : zH) : zT zg0 zF zP 220 0 [(0, .ref 162), (1, .long x), (3, .int 2)] [] h 0 0 (some (.int (mjo2 x)), h, 0, 0) := ⟨60, rfl⟩
theorem jo_eq2 : (List.range 264).all (fun k => decide (jnum (so0.getD k 0) 24 = mjo2 (ml0.getD k 0))) = true := by decide +kernel
theorem jo2 {K : Nat} (hK : K < 264) : jnum (so0.getD K 0) 24 = mjo2 (ml0.getD K 0) := of_decide_eq_true (List.all_eq_true.mp jo_eq2 K (List.mem_range.mpr hK))
def mjo3 (x : Int64) : Int32 := ((((x >>> (((13 : Int32)).toInt64 &&& 63)) &&& (63 : Int64))).toInt32 - (32 : Int32))
theorem m_jo3 (x : Int64) (h : zH) : zT zg0 zF zP 220 0 [(0, .ref 162), (1, .long x), (3, .int 3)] [] h 0 0 (some (.int (mjo3 x)), h, 0, 0) := ⟨60, rfl⟩
theorem jo_eq3 : (List.range 264).all (fun k => decide (jnum (so0.getD k 0) 16 = mjo3 (ml0.getD k 0))) = true := by decide +kernel
theorem jo3 {K : Nat} (hK : K < 264) : jnum (so0.getD K 0) 16 = mjo3 (ml0.getD K 0) := of_decide_eq_true (List.all_eq_true.mp jo_eq3 K (List.mem_range.mpr hK))
def mjo4 (x : Int64) : Int32 := ((((x >>> (((7 : Int32)).toInt64 &&& 63)) &&& (63 : Int64))).toInt32 - (32 : Int32))
theorem m_jo4 (x : Int64) (h : zH) : zT zg0 zF zP 220 0 [(0, .ref 162), (1, .long x), (3, .int 4)] [] h 0 0 (some (.int (mjo4 x)), h, 0, 0) := ⟨60, rfl⟩
theorem jo_eq4 : (List.range 264).all (fun k => decide (jnum (so0.getD k 0) 8 = mjo4 (ml0.getD k 0))) = true := by decide +kernel
theorem jo4 {K : Nat} (hK : K < 264) : jnum (so0.getD K 0) 8 = mjo4 (ml0.getD K 0) := of_decide_eq_true (List.all_eq_true.mp jo_eq4 K (List.mem_range.mpr hK))
def mjo5 (x : Int64) : Int32 := (((x &&& (127 : Int64))).toInt32 - (64 : Int32))
theorem m_jo5 (x : Int64) (h : zH) : zT zg0 zF zP 220 0 [(0, .ref 162), (1, .long x), (3, .int 5)] [] h 0 0 (some (.int (mjo5 x)), h, 0, 0) := ⟨60, rfl⟩
theorem jo_eq5 : (List.range 264).all (fun k => decide (jnum (so0.getD k 0) 0 = mjo5 (ml0.getD k 0))) = true := by decide +kernel
theorem jo5 {K : Nat} (hK : K < 264) : jnum (so0.getD K 0) 0 = mjo5 (ml0.getD K 0) := of_decide_eq_true (List.all_eq_true.mp jo_eq5 K (List.mem_range.mpr hK))
set_option maxRecDepth 100000 in
set_option maxHeartbeats 4000000 in
theorem c_o13g0 {h : zH} {K : Nat} (c0 : zat h 0 = some (.inr (.inr (.inr (9, [.ref 2, .int 0, .ref 4, .ref 6, .ref 20, .long 70644700037184, .ref 34, .ref 36, .int 0, .long 0, .ref 42, .ref 44, .ref 60, .ref 66, .ref 72, .ref 74, .ref 150, .ref 158]))))) (c6 : zat h 6 = some (.inr (.inr (.inr (0, [.int 9, .int 4, .int 10, .int 2, .int 0, .long 70644700037184, .ref 8, .ref 10, .ref 12, .int 0, .ref 14, .ref 16, .int 0, .ref 18]))))) (c8 : zat h 8 = some (.inl (0, 6, [0, (-32), (-32), (-32), (-32), (-64)]))) (c10 : zat h 10 = some (.inl (0, 6, [99, 31, 31, 31, 31, 63]))) (c34 : zat h 34 = some (.inl (0, 6, [22000000, 0, 10000, 0, 0, 0]))) (c44 : zat h 44 = some (.inr (.inr (.inr (7, [.null, .null, .ref 46, .int 0, .ref 48, .ref 50, .ref 52, .ref 54, .ref 56, .ref 58]))))) (c46 : zat h 46 = some (.inl (0, 6, []))) (c48 : zat h 48 = some (.inl (0, 128, []))) (c50 : zat h 50 = some (.inl (0, 128, []))) (c52 : zat h 52 = some (.inl (0, 128, []))) (c54 : zat h 54 = some (.inl (0, 128, []))) (c56 : zat h 56 = some (.inl (0, 101, []))) (c58 : zat h 58 = some (.inr (.inl (16, [])))) (c60 : zat h 60 = some (.inr (.inr (.inr (1, [.int 0, .int 0, .ref 62, .ref 64, .int 0, .int 0]))))) (c62 : zat h 62 = some (.inr (.inl (16, [])))) (c64 : zat h 64 = some (.inl (0, 6, []))) (hlen : 117 ≤ h.length) (hK : K < 264) : wq 114 0 [(0, .ref 0), (1, .int (nI K)), (2, .int 0)] [] h 0 0 (fun r => ∃ (h2 : zH) (d s : Nat), r = (some (.int (jnum (so0.getD K 0) 40)), h2, d, s) ∧ wFr [0, 36, 38, 40, 62, 60, 64, 44, 46, 48, 50, 52, 54, 56, 58] h h2 ∧ d ≤ 1200 ∧ s ≤ 720000) := by
  have q1 := nI_toInt (n := K) (by omega)
  have e_0 : (0 : Int32).toInt = 0 := rfl
  have e6 : (6 : Int32).toInt = 6 := rfl
  have e264 : (264 : Int32).toInt = 264 := rfl
  refine wq_gos (f := 1) (pc2 := 1) (ls2 := [(0, .ref 0), (1, .int (nI K)), (2, .int 0)]) (st2 := [.ref 0]) (h2 := h) (dc2 := 0) (ds2 := 0) 1 rfl ?_
  refine wq_inlv (y2 := 148) (as := []) rfl rfl rfl c0 rfl (wq_mono (c_held0 c0 c6 c8 c10 c34 c44 c46 c48 c50 c52 c54 c56 c58 c60 c62 c64 hlen) ?_)
  rintro _ ⟨h8, rL2, cap2, ks2, fa2, li2, d, s, rfl, f8, j9, j11, j15, j14⟩
  show wq 114 4 [(0, .ref 0), (1, .int (nI K)), (2, .int 0)] [.ref 60] h8 (0 + d) (0 + s) _
  rw [Nat.zero_add, Nat.zero_add]
  refine wq_gos (f := 1) (pc2 := 6) (ls2 := [(3, .ref 60), (0, .ref 0), (1, .int (nI K)), (2, .int 0)]) (st2 := [.int 0]) (h2 := h8) (dc2 := d) (ds2 := s) 2 rfl ?_
  refine wq_inl (y2 := 144) (as := [.int 0]) rfl rfl rfl ?_
  show wq 144 0 [(0, .int 0)] [] h8 0 0 _
  refine wq_gos (f := 1) (pc2 := 15) (ls2 := [(0, .int 0)]) (st2 := [.int 0]) (h2 := h8) (dc2 := 0) (ds2 := 0) 6 rfl ?_
  refine wq_ret rfl rfl ?_
  show wq 114 9 [(3, .ref 60), (0, .ref 0), (1, .int (nI K)), (2, .int 0)] [.int 0] h8 d s _
  refine wq_gos (f := 1) (pc2 := 14) (ls2 := [(3, .ref 60), (0, .ref 0), (1, .int (nI K)), (2, .int 0)]) (st2 := [.int (nI K), .ref 60]) (h2 := h8) (dc2 := d) (ds2 := s) 3 rfl ?_
  refine wq_inlv (y2 := 17) (as := [.int (nI K)]) rfl rfl rfl j9 rfl ?_
  show wq 17 0 [(0, .ref 60), (1, .int (nI K))] [] h8 0 0 _
  refine wq_gos (f := 1) (pc2 := 1) (ls2 := [(0, .ref 60), (1, .int (nI K))]) (st2 := [.int (nI K)]) (h2 := h8) (dc2 := 0) (ds2 := 0) 1 rfl ?_
  refine wq_lt0f rfl rfl (by omega) ?_
  refine wq_gos (f := 1) (pc2 := 6) (ls2 := [(0, .ref 60), (1, .int (nI K))]) (st2 := [.ref 60, .int (nI K)]) (h2 := h8) (dc2 := 0) (ds2 := 0) 2 rfl ?_
  refine wq_getf rfl j9 rfl rfl ?_
  refine wq_ge2f rfl rfl (by omega) ?_
  refine wq_gos (f := 1) (pc2 := 13) (ls2 := [(0, .ref 60), (1, .int (nI K))]) (st2 := [.ref 60]) (h2 := h8) (dc2 := 0) (ds2 := 0) 1 rfl ?_
  refine wq_inlv (y2 := 16) (as := []) rfl rfl rfl j9 rfl ?_
  show wq 16 0 [(0, .ref 60)] [] h8 0 0 _
  refine wq_gos (f := 1) (pc2 := 1) (ls2 := [(0, .ref 60)]) (st2 := [.ref 60]) (h2 := h8) (dc2 := 0) (ds2 := 0) 1 rfl ?_
  refine wq_getf rfl j9 rfl rfl ?_
  refine wq_gos (f := 1) (pc2 := 15) (ls2 := [(0, .ref 60)]) (st2 := [.int 0]) (h2 := h8) (dc2 := 0) (ds2 := 0) 3 rfl ?_
  refine wq_ret rfl rfl ?_
  show wq 17 16 [(0, .ref 60), (1, .int (nI K))] [.int 0] h8 0 0 _
  refine wq_gos (f := 1) (pc2 := 24) (ls2 := [(0, .ref 60), (1, .int (nI K))]) (st2 := [.int 1]) (h2 := h8) (dc2 := 0) (ds2 := 0) 3 rfl ?_
  refine wq_ret rfl rfl ?_
  show wq 114 17 [(3, .ref 60), (0, .ref 0), (1, .int (nI K)), (2, .int 0)] [.int 1] h8 d s _
  refine wq_gos (f := 1) (pc2 := 26) (ls2 := [(3, .ref 60), (0, .ref 0), (1, .int (nI K)), (2, .int 0)]) (st2 := [.ref 60]) (h2 := h8) (dc2 := d) (ds2 := s) 2 rfl ?_
  refine wq_getf rfl j9 rfl rfl ?_
  refine wq_gos (f := 1) (pc2 := 30) (ls2 := [(3, .ref 60), (0, .ref 0), (1, .int (nI K)), (2, .int 0)]) (st2 := [.int (nI K), .ref rL2]) (h2 := h8) (dc2 := d) (ds2 := s) 1 rfl ?_
  refine wq_laldn rfl j11 (by omega) (by omega) rfl ?_
  refine wq_vl (j15 K hK) ?_
  refine wq_gos (f := 1) (pc2 := 32) (ls2 := [(3, .ref 60), (0, .ref 0), (1, .int (nI K)), (2, .int 0)]) (st2 := [.int 0, .long (so0.getD K 0)]) (h2 := h8) (dc2 := d) (ds2 := s) 1 rfl ?_
  refine wq_inl (y2 := 33) (as := [.long (so0.getD K 0), .int 0]) rfl rfl rfl (wq_T (c_num_0 (so0.getD K 0) h8) ?_)
  show wq 114 35 [(3, .ref 60), (0, .ref 0), (1, .int (nI K)), (2, .int 0)] [.int (jnum (so0.getD K 0) 40)] h8 d s _
  exact wq_ret rfl rfl ⟨h8, d, s, rfl, (wFr_tr (wFr_rf _ _) (wFr_sub f8 (by simp))), by omega, by omega⟩
set_option maxRecDepth 100000 in
set_option maxHeartbeats 4000000 in
theorem m_o13g0 {h : zH} {fs : List Value} {K : Nat} (hM : zat h 162 = some (.inr (.inr (.inr (10, fs))))) (hC : mC fs) (c166 : zat h 166 = some (.inl (0, 14, [9, 4, 10, 2, 0, 0, 0, 9, 4, 10, 2, 0, 0, 0]))) (c168 : zat h 168 = some (.inl (0, 12, [0, (-32), (-32), (-32), (-32), (-64), 0, (-32), (-32), (-32), (-32), (-64)]))) (c170 : zat h 170 = some (.inl (0, 12, [99, 31, 31, 31, 31, 63, 99, 31, 31, 31, 31, 63]))) (c190 : zat h 190 = some (.inl (0, 6, [22000000, 0, 10000, 0, 0, 0]))) (c196 : zat h 196 = some (.inr (.inl (6000, [])))) (c200 : zat h 200 = some (.inl (0, 4096, []))) (c202 : zat h 202 = some (.inl (0, 4096, []))) (c204 : zat h 204 = some (.inl (0, 6, []))) (h33 : fs[33]? = some (.int 0)) (h27 : fs[27]? = some (.int 0)) (hK : K < 264) : wq 231 0 [(0, .ref 162), (1, .int (nI K)), (2, .int 0)] [] h 0 0 (fun r => ∃ h2, r = (some (.int (jnum (so0.getD K 0) 40)), h2, 0, 0)) := by
  have q1 := nI_toInt (n := K) (by omega)
  have e_0 : (0 : Int32).toInt = 0 := rfl
  have e6 : (6 : Int32).toInt = 6 := rfl
  have e264 : (264 : Int32).toInt = 264 := rfl
  refine wq_gos (f := 1) (pc2 := 2) (ls2 := [(0, .ref 162), (1, .int (nI K)), (2, .int 0)]) (st2 := [.int 0, .ref 162]) (h2 := h) (dc2 := 0) (ds2 := 0) 2 rfl ?_
  refine wq_putf rfl hM rfl (by rw [hC.1]; rfl) rfl ?_
  intro h1x e2x f3x l4x
  obtain ⟨fs5x, hf6x⟩ : ∃ x, x = fs.set 0 (.int 0) := ⟨_, rfl⟩
  rw [← hf6x] at e2x
  have hC7x : mC fs5x := by rw [hf6x]; exact mC_set hC (by decide) _
  have p8x : fs5x[33]? = some (.int 0) := by rw [hf6x, List.getElem?_set_ne (by decide)]; exact h33
  have p9x : fs5x[27]? = some (.int 0) := by rw [hf6x, List.getElem?_set_ne (by decide)]; exact h27
  have p10x : fs5x[0]? = some (.int 0) := by rw [hf6x]; exact List.getElem?_set_self (by rw [hC.1]; decide)
  refine wq_gos (f := 1) (pc2 := 6) (ls2 := [(0, .ref 162), (1, .int (nI K)), (2, .int 0)]) (st2 := [.int 0]) (h2 := h1x) (dc2 := 0) (ds2 := 0) 1 rfl ?_
  refine wq_inl (y2 := 208) (as := [.int 0]) rfl rfl rfl ?_
  show wq 208 0 [(0, .int 0)] [] h1x 0 0 _
  refine wq_gos (f := 1) (pc2 := 15) (ls2 := [(0, .int 0)]) (st2 := [.int 1]) (h2 := h1x) (dc2 := 0) (ds2 := 0) 7 rfl ?_
  refine wq_ret rfl rfl ?_
  show wq 231 9 [(0, .ref 162), (1, .int (nI K)), (2, .int 0)] [.int 1] h1x 0 0 _
  refine wq_gos (f := 1) (pc2 := 14) (ls2 := [(0, .ref 162), (1, .int (nI K)), (2, .int 0)]) (st2 := [.int (nI K), .ref 162]) (h2 := h1x) (dc2 := 0) (ds2 := 0) 3 rfl ?_
  refine wq_inlv (y2 := 230) (as := [.int (nI K)]) rfl rfl rfl e2x rfl ?_
  show wq 230 0 [(0, .ref 162), (1, .int (nI K))] [] h1x 0 0 _
  refine wq_gos (f := 1) (pc2 := 1) (ls2 := [(0, .ref 162), (1, .int (nI K))]) (st2 := [.ref 162]) (h2 := h1x) (dc2 := 0) (ds2 := 0) 1 rfl ?_
  have e11x := (f3x.2 _ _ (wnc (by decide) wn0) c166)
  have e12x := (f3x.2 _ _ (wnc (by decide) wn0) c168)
  have e13x := (f3x.2 _ _ (wnc (by decide) wn0) c170)
  have e14x := (f3x.2 _ _ (wnc (by decide) wn0) c190)
  have e15x := (f3x.2 _ _ (wnc (by decide) wn0) c196)
  have e16x := (f3x.2 _ _ (wnc (by decide) wn0) c200)
  have e17x := (f3x.2 _ _ (wnc (by decide) wn0) c202)
  have e18x := (f3x.2 _ _ (wnc (by decide) wn0) c204)
  refine wq_inlv (y2 := 227) (as := []) rfl rfl rfl e2x rfl (wq_mono (m_aim0 e2x hC7x e11x e12x e13x e14x e15x e16x e17x e18x p8x p9x) ?_)
  rintro _ ⟨h8, fs8, fo8, rfl, f8, hM8, hC8, h328, h398, h278, hF8, hfo⟩
  show wq 230 4 [(0, .ref 162), (1, .int (nI K))] [] h8 0 0 _
  refine wq_gos (f := 1) (pc2 := 5) (ls2 := [(0, .ref 162), (1, .int (nI K))]) (st2 := [.int (nI K)]) (h2 := h8) (dc2 := 0) (ds2 := 0) 1 rfl ?_
  refine wq_lt0f rfl rfl (by omega) ?_
  refine wq_gos (f := 1) (pc2 := 10) (ls2 := [(0, .ref 162), (1, .int (nI K))]) (st2 := [.ref 162, .int (nI K)]) (h2 := h8) (dc2 := 0) (ds2 := 0) 2 rfl ?_
  refine wq_getf rfl hM8 h328 rfl ?_
  refine wq_ge2f rfl rfl (by omega) ?_
  refine wq_gos (f := 1) (pc2 := 21) (ls2 := [(0, .ref 162), (1, .int (nI K))]) (st2 := [.int 1]) (h2 := h8) (dc2 := 0) (ds2 := 0) 2 rfl ?_
  refine wq_ret rfl rfl ?_
  show wq 231 17 [(0, .ref 162), (1, .int (nI K)), (2, .int 0)] [.int 1] h8 0 0 _
  refine wq_gos (f := 1) (pc2 := 23) (ls2 := [(0, .ref 162), (1, .int (nI K)), (2, .int 0)]) (st2 := [.int (nI K), .ref 162, .ref 162]) (h2 := h8) (dc2 := 0) (ds2 := 0) 4 rfl ?_
  refine wq_inlv (y2 := 228) (as := [.int (nI K)]) rfl rfl rfl hM8 rfl ?_
  show wq 228 0 [(0, .ref 162), (1, .int (nI K))] [] h8 0 0 _
  refine wq_gos (f := 1) (pc2 := 1) (ls2 := [(0, .ref 162), (1, .int (nI K))]) (st2 := [.ref 162]) (h2 := h8) (dc2 := 0) (ds2 := 0) 1 rfl ?_
  refine wq_getf rfl hM8 (hC8.2 (30, 196) (by decide)) rfl ?_
  refine wq_gos (f := 1) (pc2 := 9) (ls2 := [(0, .ref 162), (1, .int (nI K))]) (st2 := [.int ((4800 : Int32) + (nI K)), .ref 196]) (h2 := h8) (dc2 := 0) (ds2 := 0) 3 rfl ?_
  refine wq_vi (show (4800 : Int32) + nI K = nI (4800 + K) from nI_add 4800 K) ?_
  refine wq_laldn rfl hF8 (by omega) (by decide) rfl ?_
  refine wq_vl (hfo K hK) ?_
  refine wq_ret rfl rfl ?_
  show wq 231 26 [(0, .ref 162), (1, .int (nI K)), (2, .int 0)] [.long (ml0.getD K 0), .ref 162] h8 0 0 _
  refine wq_gos (f := 1) (pc2 := 27) (ls2 := [(0, .ref 162), (1, .int (nI K)), (2, .int 0)]) (st2 := [.int 0, .long (ml0.getD K 0), .ref 162]) (h2 := h8) (dc2 := 0) (ds2 := 0) 1 rfl ?_
  refine wq_inlv (y2 := 220) (as := [.long (ml0.getD K 0), .int 0]) rfl rfl rfl hM8 rfl (wq_T (m_jo0 (ml0.getD K 0) h8) ?_)
  show wq 231 30 [(0, .ref 162), (1, .int (nI K)), (2, .int 0)] [.int (mjo0 (ml0.getD K 0))] h8 0 0 _
  refine wq_gos (f := 1) (pc2 := 35) (ls2 := [(0, .ref 162), (1, .int (nI K)), (2, .int 0)]) (st2 := [.int (mjo0 (ml0.getD K 0))]) (h2 := h8) (dc2 := 0) (ds2 := 0) 1 rfl ?_
  have hv9 : (jnum (so0.getD K 0) 40) = (mjo0 (ml0.getD K 0)) := jo0 hK
  rw [hv9]
  exact wq_ret rfl rfl ⟨h8, rfl⟩
set_option maxRecDepth 100000 in
set_option maxHeartbeats 4000000 in
theorem c_o13g1 {h : zH} {K : Nat} (c0 : zat h 0 = some (.inr (.inr (.inr (9, [.ref 2, .int 0, .ref 4, .ref 6, .ref 20, .long 70644700037184, .ref 34, .ref 36, .int 0, .long 0, .ref 42, .ref 44, .ref 60, .ref 66, .ref 72, .ref 74, .ref 150, .ref 158]))))) (c6 : zat h 6 = some (.inr (.inr (.inr (0, [.int 9, .int 4, .int 10, .int 2, .int 0, .long 70644700037184, .ref 8, .ref 10, .ref 12, .int 0, .ref 14, .ref 16, .int 0, .ref 18]))))) (c8 : zat h 8 = some (.inl (0, 6, [0, (-32), (-32), (-32), (-32), (-64)]))) (c10 : zat h 10 = some (.inl (0, 6, [99, 31, 31, 31, 31, 63]))) (c34 : zat h 34 = some (.inl (0, 6, [22000000, 0, 10000, 0, 0, 0]))) (c44 : zat h 44 = some (.inr (.inr (.inr (7, [.null, .null, .ref 46, .int 0, .ref 48, .ref 50, .ref 52, .ref 54, .ref 56, .ref 58]))))) (c46 : zat h 46 = some (.inl (0, 6, []))) (c48 : zat h 48 = some (.inl (0, 128, []))) (c50 : zat h 50 = some (.inl (0, 128, []))) (c52 : zat h 52 = some (.inl (0, 128, []))) (c54 : zat h 54 = some (.inl (0, 128, []))) (c56 : zat h 56 = some (.inl (0, 101, []))) (c58 : zat h 58 = some (.inr (.inl (16, [])))) (c60 : zat h 60 = some (.inr (.inr (.inr (1, [.int 0, .int 0, .ref 62, .ref 64, .int 0, .int 0]))))) (c62 : zat h 62 = some (.inr (.inl (16, [])))) (c64 : zat h 64 = some (.inl (0, 6, []))) (hlen : 117 ≤ h.length) (hK : K < 264) : wq 114 0 [(0, .ref 0), (1, .int (nI K)), (2, .int 1)] [] h 0 0 (fun r => ∃ (h2 : zH) (d s : Nat), r = (some (.int (jnum (so0.getD K 0) 32)), h2, d, s) ∧ wFr [0, 36, 38, 40, 62, 60, 64, 44, 46, 48, 50, 52, 54, 56, 58] h h2 ∧ d ≤ 1200 ∧ s ≤ 720000) := by
  have q1 := nI_toInt (n := K) (by omega)
  have e_0 : (0 : Int32).toInt = 0 := rfl
  have e6 : (6 : Int32).toInt = 6 := rfl
  have e264 : (264 : Int32).toInt = 264 := rfl
  refine wq_gos (f := 1) (pc2 := 1) (ls2 := [(0, .ref 0), (1, .int (nI K)), (2, .int 1)]) (st2 := [.ref 0]) (h2 := h) (dc2 := 0) (ds2 := 0) 1 rfl ?_
  refine wq_inlv (y2 := 148) (as := []) rfl rfl rfl c0 rfl (wq_mono (c_held0 c0 c6 c8 c10 c34 c44 c46 c48 c50 c52 c54 c56 c58 c60 c62 c64 hlen) ?_)
  rintro _ ⟨h8, rL2, cap2, ks2, fa2, li2, d, s, rfl, f8, j9, j11, j15, j14⟩
  show wq 114 4 [(0, .ref 0), (1, .int (nI K)), (2, .int 1)] [.ref 60] h8 (0 + d) (0 + s) _
  rw [Nat.zero_add, Nat.zero_add]
  refine wq_gos (f := 1) (pc2 := 6) (ls2 := [(3, .ref 60), (0, .ref 0), (1, .int (nI K)), (2, .int 1)]) (st2 := [.int 1]) (h2 := h8) (dc2 := d) (ds2 := s) 2 rfl ?_
  refine wq_inl (y2 := 144) (as := [.int 1]) rfl rfl rfl ?_
  show wq 144 0 [(0, .int 1)] [] h8 0 0 _
  refine wq_gos (f := 1) (pc2 := 15) (ls2 := [(0, .int 1)]) (st2 := [.int 0]) (h2 := h8) (dc2 := 0) (ds2 := 0) 6 rfl ?_
  refine wq_ret rfl rfl ?_
  show wq 114 9 [(3, .ref 60), (0, .ref 0), (1, .int (nI K)), (2, .int 1)] [.int 0] h8 d s _
  refine wq_gos (f := 1) (pc2 := 14) (ls2 := [(3, .ref 60), (0, .ref 0), (1, .int (nI K)), (2, .int 1)]) (st2 := [.int (nI K), .ref 60]) (h2 := h8) (dc2 := d) (ds2 := s) 3 rfl ?_
  refine wq_inlv (y2 := 17) (as := [.int (nI K)]) rfl rfl rfl j9 rfl ?_
  show wq 17 0 [(0, .ref 60), (1, .int (nI K))] [] h8 0 0 _
  refine wq_gos (f := 1) (pc2 := 1) (ls2 := [(0, .ref 60), (1, .int (nI K))]) (st2 := [.int (nI K)]) (h2 := h8) (dc2 := 0) (ds2 := 0) 1 rfl ?_
  refine wq_lt0f rfl rfl (by omega) ?_
  refine wq_gos (f := 1) (pc2 := 6) (ls2 := [(0, .ref 60), (1, .int (nI K))]) (st2 := [.ref 60, .int (nI K)]) (h2 := h8) (dc2 := 0) (ds2 := 0) 2 rfl ?_
  refine wq_getf rfl j9 rfl rfl ?_
  refine wq_ge2f rfl rfl (by omega) ?_
  refine wq_gos (f := 1) (pc2 := 13) (ls2 := [(0, .ref 60), (1, .int (nI K))]) (st2 := [.ref 60]) (h2 := h8) (dc2 := 0) (ds2 := 0) 1 rfl ?_
  refine wq_inlv (y2 := 16) (as := []) rfl rfl rfl j9 rfl ?_
  show wq 16 0 [(0, .ref 60)] [] h8 0 0 _
  refine wq_gos (f := 1) (pc2 := 1) (ls2 := [(0, .ref 60)]) (st2 := [.ref 60]) (h2 := h8) (dc2 := 0) (ds2 := 0) 1 rfl ?_
  refine wq_getf rfl j9 rfl rfl ?_
  refine wq_gos (f := 1) (pc2 := 15) (ls2 := [(0, .ref 60)]) (st2 := [.int 0]) (h2 := h8) (dc2 := 0) (ds2 := 0) 3 rfl ?_
  refine wq_ret rfl rfl ?_
  show wq 17 16 [(0, .ref 60), (1, .int (nI K))] [.int 0] h8 0 0 _
  refine wq_gos (f := 1) (pc2 := 24) (ls2 := [(0, .ref 60), (1, .int (nI K))]) (st2 := [.int 1]) (h2 := h8) (dc2 := 0) (ds2 := 0) 3 rfl ?_
  refine wq_ret rfl rfl ?_
  show wq 114 17 [(3, .ref 60), (0, .ref 0), (1, .int (nI K)), (2, .int 1)] [.int 1] h8 d s _
  refine wq_gos (f := 1) (pc2 := 26) (ls2 := [(3, .ref 60), (0, .ref 0), (1, .int (nI K)), (2, .int 1)]) (st2 := [.ref 60]) (h2 := h8) (dc2 := d) (ds2 := s) 2 rfl ?_
  refine wq_getf rfl j9 rfl rfl ?_
  refine wq_gos (f := 1) (pc2 := 30) (ls2 := [(3, .ref 60), (0, .ref 0), (1, .int (nI K)), (2, .int 1)]) (st2 := [.int (nI K), .ref rL2]) (h2 := h8) (dc2 := d) (ds2 := s) 1 rfl ?_
  refine wq_laldn rfl j11 (by omega) (by omega) rfl ?_
  refine wq_vl (j15 K hK) ?_
  refine wq_gos (f := 1) (pc2 := 32) (ls2 := [(3, .ref 60), (0, .ref 0), (1, .int (nI K)), (2, .int 1)]) (st2 := [.int 1, .long (so0.getD K 0)]) (h2 := h8) (dc2 := d) (ds2 := s) 1 rfl ?_
  refine wq_inl (y2 := 33) (as := [.long (so0.getD K 0), .int 1]) rfl rfl rfl (wq_T (c_num_1 (so0.getD K 0) h8) ?_)
  show wq 114 35 [(3, .ref 60), (0, .ref 0), (1, .int (nI K)), (2, .int 1)] [.int (jnum (so0.getD K 0) 32)] h8 d s _
  exact wq_ret rfl rfl ⟨h8, d, s, rfl, (wFr_tr (wFr_rf _ _) (wFr_sub f8 (by simp))), by omega, by omega⟩
set_option maxRecDepth 100000 in
set_option maxHeartbeats 4000000 in
theorem m_o13g1 {h : zH} {fs : List Value} {K : Nat} (hM : zat h 162 = some (.inr (.inr (.inr (10, fs))))) (hC : mC fs) (c166 : zat h 166 = some (.inl (0, 14, [9, 4, 10, 2, 0, 0, 0, 9, 4, 10, 2, 0, 0, 0]))) (c168 : zat h 168 = some (.inl (0, 12, [0, (-32), (-32), (-32), (-32), (-64), 0, (-32), (-32), (-32), (-32), (-64)]))) (c170 : zat h 170 = some (.inl (0, 12, [99, 31, 31, 31, 31, 63, 99, 31, 31, 31, 31, 63]))) (c190 : zat h 190 = some (.inl (0, 6, [22000000, 0, 10000, 0, 0, 0]))) (c196 : zat h 196 = some (.inr (.inl (6000, [])))) (c200 : zat h 200 = some (.inl (0, 4096, []))) (c202 : zat h 202 = some (.inl (0, 4096, []))) (c204 : zat h 204 = some (.inl (0, 6, []))) (h33 : fs[33]? = some (.int 0)) (h27 : fs[27]? = some (.int 0)) (hK : K < 264) : wq 231 0 [(0, .ref 162), (1, .int (nI K)), (2, .int 1)] [] h 0 0 (fun r => ∃ h2, r = (some (.int (jnum (so0.getD K 0) 32)), h2, 0, 0)) := by
  have q1 := nI_toInt (n := K) (by omega)
  have e_0 : (0 : Int32).toInt = 0 := rfl
  have e6 : (6 : Int32).toInt = 6 := rfl
  have e264 : (264 : Int32).toInt = 264 := rfl
  refine wq_gos (f := 1) (pc2 := 2) (ls2 := [(0, .ref 162), (1, .int (nI K)), (2, .int 1)]) (st2 := [.int 0, .ref 162]) (h2 := h) (dc2 := 0) (ds2 := 0) 2 rfl ?_
  refine wq_putf rfl hM rfl (by rw [hC.1]; rfl) rfl ?_
  intro h1x e2x f3x l4x
  obtain ⟨fs5x, hf6x⟩ : ∃ x, x = fs.set 0 (.int 0) := ⟨_, rfl⟩
  rw [← hf6x] at e2x
  have hC7x : mC fs5x := by rw [hf6x]; exact mC_set hC (by decide) _
  have p8x : fs5x[33]? = some (.int 0) := by rw [hf6x, List.getElem?_set_ne (by decide)]; exact h33
  have p9x : fs5x[27]? = some (.int 0) := by rw [hf6x, List.getElem?_set_ne (by decide)]; exact h27
  have p10x : fs5x[0]? = some (.int 0) := by rw [hf6x]; exact List.getElem?_set_self (by rw [hC.1]; decide)
  refine wq_gos (f := 1) (pc2 := 6) (ls2 := [(0, .ref 162), (1, .int (nI K)), (2, .int 1)]) (st2 := [.int 1]) (h2 := h1x) (dc2 := 0) (ds2 := 0) 1 rfl ?_
  refine wq_inl (y2 := 208) (as := [.int 1]) rfl rfl rfl ?_
  show wq 208 0 [(0, .int 1)] [] h1x 0 0 _
  refine wq_gos (f := 1) (pc2 := 15) (ls2 := [(0, .int 1)]) (st2 := [.int 1]) (h2 := h1x) (dc2 := 0) (ds2 := 0) 7 rfl ?_
  refine wq_ret rfl rfl ?_
  show wq 231 9 [(0, .ref 162), (1, .int (nI K)), (2, .int 1)] [.int 1] h1x 0 0 _
  refine wq_gos (f := 1) (pc2 := 14) (ls2 := [(0, .ref 162), (1, .int (nI K)), (2, .int 1)]) (st2 := [.int (nI K), .ref 162]) (h2 := h1x) (dc2 := 0) (ds2 := 0) 3 rfl ?_
  refine wq_inlv (y2 := 230) (as := [.int (nI K)]) rfl rfl rfl e2x rfl ?_
  show wq 230 0 [(0, .ref 162), (1, .int (nI K))] [] h1x 0 0 _
  refine wq_gos (f := 1) (pc2 := 1) (ls2 := [(0, .ref 162), (1, .int (nI K))]) (st2 := [.ref 162]) (h2 := h1x) (dc2 := 0) (ds2 := 0) 1 rfl ?_
  have e11x := (f3x.2 _ _ (wnc (by decide) wn0) c166)
  have e12x := (f3x.2 _ _ (wnc (by decide) wn0) c168)
  have e13x := (f3x.2 _ _ (wnc (by decide) wn0) c170)
  have e14x := (f3x.2 _ _ (wnc (by decide) wn0) c190)
  have e15x := (f3x.2 _ _ (wnc (by decide) wn0) c196)
  have e16x := (f3x.2 _ _ (wnc (by decide) wn0) c200)
  have e17x := (f3x.2 _ _ (wnc (by decide) wn0) c202)
  have e18x := (f3x.2 _ _ (wnc (by decide) wn0) c204)
  refine wq_inlv (y2 := 227) (as := []) rfl rfl rfl e2x rfl (wq_mono (m_aim0 e2x hC7x e11x e12x e13x e14x e15x e16x e17x e18x p8x p9x) ?_)
  rintro _ ⟨h8, fs8, fo8, rfl, f8, hM8, hC8, h328, h398, h278, hF8, hfo⟩
  show wq 230 4 [(0, .ref 162), (1, .int (nI K))] [] h8 0 0 _
  refine wq_gos (f := 1) (pc2 := 5) (ls2 := [(0, .ref 162), (1, .int (nI K))]) (st2 := [.int (nI K)]) (h2 := h8) (dc2 := 0) (ds2 := 0) 1 rfl ?_
  refine wq_lt0f rfl rfl (by omega) ?_
  refine wq_gos (f := 1) (pc2 := 10) (ls2 := [(0, .ref 162), (1, .int (nI K))]) (st2 := [.ref 162, .int (nI K)]) (h2 := h8) (dc2 := 0) (ds2 := 0) 2 rfl ?_
  refine wq_getf rfl hM8 h328 rfl ?_
  refine wq_ge2f rfl rfl (by omega) ?_
  refine wq_gos (f := 1) (pc2 := 21) (ls2 := [(0, .ref 162), (1, .int (nI K))]) (st2 := [.int 1]) (h2 := h8) (dc2 := 0) (ds2 := 0) 2 rfl ?_
  refine wq_ret rfl rfl ?_
  show wq 231 17 [(0, .ref 162), (1, .int (nI K)), (2, .int 1)] [.int 1] h8 0 0 _
  refine wq_gos (f := 1) (pc2 := 23) (ls2 := [(0, .ref 162), (1, .int (nI K)), (2, .int 1)]) (st2 := [.int (nI K), .ref 162, .ref 162]) (h2 := h8) (dc2 := 0) (ds2 := 0) 4 rfl ?_
  refine wq_inlv (y2 := 228) (as := [.int (nI K)]) rfl rfl rfl hM8 rfl ?_
  show wq 228 0 [(0, .ref 162), (1, .int (nI K))] [] h8 0 0 _
  refine wq_gos (f := 1) (pc2 := 1) (ls2 := [(0, .ref 162), (1, .int (nI K))]) (st2 := [.ref 162]) (h2 := h8) (dc2 := 0) (ds2 := 0) 1 rfl ?_
  refine wq_getf rfl hM8 (hC8.2 (30, 196) (by decide)) rfl ?_
  refine wq_gos (f := 1) (pc2 := 9) (ls2 := [(0, .ref 162), (1, .int (nI K))]) (st2 := [.int ((4800 : Int32) + (nI K)), .ref 196]) (h2 := h8) (dc2 := 0) (ds2 := 0) 3 rfl ?_
  refine wq_vi (show (4800 : Int32) + nI K = nI (4800 + K) from nI_add 4800 K) ?_
  refine wq_laldn rfl hF8 (by omega) (by decide) rfl ?_
  refine wq_vl (hfo K hK) ?_
  refine wq_ret rfl rfl ?_
  show wq 231 26 [(0, .ref 162), (1, .int (nI K)), (2, .int 1)] [.long (ml0.getD K 0), .ref 162] h8 0 0 _
  refine wq_gos (f := 1) (pc2 := 27) (ls2 := [(0, .ref 162), (1, .int (nI K)), (2, .int 1)]) (st2 := [.int 1, .long (ml0.getD K 0), .ref 162]) (h2 := h8) (dc2 := 0) (ds2 := 0) 1 rfl ?_
  refine wq_inlv (y2 := 220) (as := [.long (ml0.getD K 0), .int 1]) rfl rfl rfl hM8 rfl (wq_T (m_jo1 (ml0.getD K 0) h8) ?_)
  show wq 231 30 [(0, .ref 162), (1, .int (nI K)), (2, .int 1)] [.int (mjo1 (ml0.getD K 0))] h8 0 0 _
  refine wq_gos (f := 1) (pc2 := 35) (ls2 := [(0, .ref 162), (1, .int (nI K)), (2, .int 1)]) (st2 := [.int (mjo1 (ml0.getD K 0))]) (h2 := h8) (dc2 := 0) (ds2 := 0) 1 rfl ?_
  have hv9 : (jnum (so0.getD K 0) 32) = (mjo1 (ml0.getD K 0)) := jo1 hK
  rw [hv9]
  exact wq_ret rfl rfl ⟨h8, rfl⟩
set_option maxRecDepth 100000 in
set_option maxHeartbeats 4000000 in
theorem c_o13g2 {h : zH} {K : Nat} (c0 : zat h 0 = some (.inr (.inr (.inr (9, [.ref 2, .int 0, .ref 4, .ref 6, .ref 20, .long 70644700037184, .ref 34, .ref 36, .int 0, .long 0, .ref 42, .ref 44, .ref 60, .ref 66, .ref 72, .ref 74, .ref 150, .ref 158]))))) (c6 : zat h 6 = some (.inr (.inr (.inr (0, [.int 9, .int 4, .int 10, .int 2, .int 0, .long 70644700037184, .ref 8, .ref 10, .ref 12, .int 0, .ref 14, .ref 16, .int 0, .ref 18]))))) (c8 : zat h 8 = some (.inl (0, 6, [0, (-32), (-32), (-32), (-32), (-64)]))) (c10 : zat h 10 = some (.inl (0, 6, [99, 31, 31, 31, 31, 63]))) (c34 : zat h 34 = some (.inl (0, 6, [22000000, 0, 10000, 0, 0, 0]))) (c44 : zat h 44 = some (.inr (.inr (.inr (7, [.null, .null, .ref 46, .int 0, .ref 48, .ref 50, .ref 52, .ref 54, .ref 56, .ref 58]))))) (c46 : zat h 46 = some (.inl (0, 6, []))) (c48 : zat h 48 = some (.inl (0, 128, []))) (c50 : zat h 50 = some (.inl (0, 128, []))) (c52 : zat h 52 = some (.inl (0, 128, []))) (c54 : zat h 54 = some (.inl (0, 128, []))) (c56 : zat h 56 = some (.inl (0, 101, []))) (c58 : zat h 58 = some (.inr (.inl (16, [])))) (c60 : zat h 60 = some (.inr (.inr (.inr (1, [.int 0, .int 0, .ref 62, .ref 64, .int 0, .int 0]))))) (c62 : zat h 62 = some (.inr (.inl (16, [])))) (c64 : zat h 64 = some (.inl (0, 6, []))) (hlen : 117 ≤ h.length) (hK : K < 264) : wq 114 0 [(0, .ref 0), (1, .int (nI K)), (2, .int 2)] [] h 0 0 (fun r => ∃ (h2 : zH) (d s : Nat), r = (some (.int (jnum (so0.getD K 0) 24)), h2, d, s) ∧ wFr [0, 36, 38, 40, 62, 60, 64, 44, 46, 48, 50, 52, 54, 56, 58] h h2 ∧ d ≤ 1200 ∧ s ≤ 720000) := by
  have q1 := nI_toInt (n := K) (by omega)
  have e_0 : (0 : Int32).toInt = 0 := rfl
  have e6 : (6 : Int32).toInt = 6 := rfl
  have e264 : (264 : Int32).toInt = 264 := rfl
  refine wq_gos (f := 1) (pc2 := 1) (ls2 := [(0, .ref 0), (1, .int (nI K)), (2, .int 2)]) (st2 := [.ref 0]) (h2 := h) (dc2 := 0) (ds2 := 0) 1 rfl ?_
  refine wq_inlv (y2 := 148) (as := []) rfl rfl rfl c0 rfl (wq_mono (c_held0 c0 c6 c8 c10 c34 c44 c46 c48 c50 c52 c54 c56 c58 c60 c62 c64 hlen) ?_)
  rintro _ ⟨h8, rL2, cap2, ks2, fa2, li2, d, s, rfl, f8, j9, j11, j15, j14⟩
  show wq 114 4 [(0, .ref 0), (1, .int (nI K)), (2, .int 2)] [.ref 60] h8 (0 + d) (0 + s) _
  rw [Nat.zero_add, Nat.zero_add]
  refine wq_gos (f := 1) (pc2 := 6) (ls2 := [(3, .ref 60), (0, .ref 0), (1, .int (nI K)), (2, .int 2)]) (st2 := [.int 2]) (h2 := h8) (dc2 := d) (ds2 := s) 2 rfl ?_
  refine wq_inl (y2 := 144) (as := [.int 2]) rfl rfl rfl ?_
  show wq 144 0 [(0, .int 2)] [] h8 0 0 _
  refine wq_gos (f := 1) (pc2 := 15) (ls2 := [(0, .int 2)]) (st2 := [.int 0]) (h2 := h8) (dc2 := 0) (ds2 := 0) 6 rfl ?_
  refine wq_ret rfl rfl ?_
  show wq 114 9 [(3, .ref 60), (0, .ref 0), (1, .int (nI K)), (2, .int 2)] [.int 0] h8 d s _
  refine wq_gos (f := 1) (pc2 := 14) (ls2 := [(3, .ref 60), (0, .ref 0), (1, .int (nI K)), (2, .int 2)]) (st2 := [.int (nI K), .ref 60]) (h2 := h8) (dc2 := d) (ds2 := s) 3 rfl ?_
  refine wq_inlv (y2 := 17) (as := [.int (nI K)]) rfl rfl rfl j9 rfl ?_
  show wq 17 0 [(0, .ref 60), (1, .int (nI K))] [] h8 0 0 _
  refine wq_gos (f := 1) (pc2 := 1) (ls2 := [(0, .ref 60), (1, .int (nI K))]) (st2 := [.int (nI K)]) (h2 := h8) (dc2 := 0) (ds2 := 0) 1 rfl ?_
  refine wq_lt0f rfl rfl (by omega) ?_
  refine wq_gos (f := 1) (pc2 := 6) (ls2 := [(0, .ref 60), (1, .int (nI K))]) (st2 := [.ref 60, .int (nI K)]) (h2 := h8) (dc2 := 0) (ds2 := 0) 2 rfl ?_
  refine wq_getf rfl j9 rfl rfl ?_
  refine wq_ge2f rfl rfl (by omega) ?_
  refine wq_gos (f := 1) (pc2 := 13) (ls2 := [(0, .ref 60), (1, .int (nI K))]) (st2 := [.ref 60]) (h2 := h8) (dc2 := 0) (ds2 := 0) 1 rfl ?_
  refine wq_inlv (y2 := 16) (as := []) rfl rfl rfl j9 rfl ?_
  show wq 16 0 [(0, .ref 60)] [] h8 0 0 _
  refine wq_gos (f := 1) (pc2 := 1) (ls2 := [(0, .ref 60)]) (st2 := [.ref 60]) (h2 := h8) (dc2 := 0) (ds2 := 0) 1 rfl ?_
  refine wq_getf rfl j9 rfl rfl ?_
  refine wq_gos (f := 1) (pc2 := 15) (ls2 := [(0, .ref 60)]) (st2 := [.int 0]) (h2 := h8) (dc2 := 0) (ds2 := 0) 3 rfl ?_
  refine wq_ret rfl rfl ?_
  show wq 17 16 [(0, .ref 60), (1, .int (nI K))] [.int 0] h8 0 0 _
  refine wq_gos (f := 1) (pc2 := 24) (ls2 := [(0, .ref 60), (1, .int (nI K))]) (st2 := [.int 1]) (h2 := h8) (dc2 := 0) (ds2 := 0) 3 rfl ?_
  refine wq_ret rfl rfl ?_
  show wq 114 17 [(3, .ref 60), (0, .ref 0), (1, .int (nI K)), (2, .int 2)] [.int 1] h8 d s _
  refine wq_gos (f := 1) (pc2 := 26) (ls2 := [(3, .ref 60), (0, .ref 0), (1, .int (nI K)), (2, .int 2)]) (st2 := [.ref 60]) (h2 := h8) (dc2 := d) (ds2 := s) 2 rfl ?_
  refine wq_getf rfl j9 rfl rfl ?_
  refine wq_gos (f := 1) (pc2 := 30) (ls2 := [(3, .ref 60), (0, .ref 0), (1, .int (nI K)), (2, .int 2)]) (st2 := [.int (nI K), .ref rL2]) (h2 := h8) (dc2 := d) (ds2 := s) 1 rfl ?_
  refine wq_laldn rfl j11 (by omega) (by omega) rfl ?_
  refine wq_vl (j15 K hK) ?_
  refine wq_gos (f := 1) (pc2 := 32) (ls2 := [(3, .ref 60), (0, .ref 0), (1, .int (nI K)), (2, .int 2)]) (st2 := [.int 2, .long (so0.getD K 0)]) (h2 := h8) (dc2 := d) (ds2 := s) 1 rfl ?_
  refine wq_inl (y2 := 33) (as := [.long (so0.getD K 0), .int 2]) rfl rfl rfl (wq_T (c_num_2 (so0.getD K 0) h8) ?_)
  show wq 114 35 [(3, .ref 60), (0, .ref 0), (1, .int (nI K)), (2, .int 2)] [.int (jnum (so0.getD K 0) 24)] h8 d s _
  exact wq_ret rfl rfl ⟨h8, d, s, rfl, (wFr_tr (wFr_rf _ _) (wFr_sub f8 (by simp))), by omega, by omega⟩
set_option maxRecDepth 100000 in
set_option maxHeartbeats 4000000 in
theorem m_o13g2 {h : zH} {fs : List Value} {K : Nat} (hM : zat h 162 = some (.inr (.inr (.inr (10, fs))))) (hC : mC fs) (c166 : zat h 166 = some (.inl (0, 14, [9, 4, 10, 2, 0, 0, 0, 9, 4, 10, 2, 0, 0, 0]))) (c168 : zat h 168 = some (.inl (0, 12, [0, (-32), (-32), (-32), (-32), (-64), 0, (-32), (-32), (-32), (-32), (-64)]))) (c170 : zat h 170 = some (.inl (0, 12, [99, 31, 31, 31, 31, 63, 99, 31, 31, 31, 31, 63]))) (c190 : zat h 190 = some (.inl (0, 6, [22000000, 0, 10000, 0, 0, 0]))) (c196 : zat h 196 = some (.inr (.inl (6000, [])))) (c200 : zat h 200 = some (.inl (0, 4096, []))) (c202 : zat h 202 = some (.inl (0, 4096, []))) (c204 : zat h 204 = some (.inl (0, 6, []))) (h33 : fs[33]? = some (.int 0)) (h27 : fs[27]? = some (.int 0)) (hK : K < 264) : wq 231 0 [(0, .ref 162), (1, .int (nI K)), (2, .int 2)] [] h 0 0 (fun r => ∃ h2, r = (some (.int (jnum (so0.getD K 0) 24)), h2, 0, 0)) := by
  have q1 := nI_toInt (n := K) (by omega)
  have e_0 : (0 : Int32).toInt = 0 := rfl
  have e6 : (6 : Int32).toInt = 6 := rfl
  have e264 : (264 : Int32).toInt = 264 := rfl
  refine wq_gos (f := 1) (pc2 := 2) (ls2 := [(0, .ref 162), (1, .int (nI K)), (2, .int 2)]) (st2 := [.int 0, .ref 162]) (h2 := h) (dc2 := 0) (ds2 := 0) 2 rfl ?_
  refine wq_putf rfl hM rfl (by rw [hC.1]; rfl) rfl ?_
  intro h1x e2x f3x l4x
  obtain ⟨fs5x, hf6x⟩ : ∃ x, x = fs.set 0 (.int 0) := ⟨_, rfl⟩
  rw [← hf6x] at e2x
  have hC7x : mC fs5x := by rw [hf6x]; exact mC_set hC (by decide) _
  have p8x : fs5x[33]? = some (.int 0) := by rw [hf6x, List.getElem?_set_ne (by decide)]; exact h33
  have p9x : fs5x[27]? = some (.int 0) := by rw [hf6x, List.getElem?_set_ne (by decide)]; exact h27
  have p10x : fs5x[0]? = some (.int 0) := by rw [hf6x]; exact List.getElem?_set_self (by rw [hC.1]; decide)
  refine wq_gos (f := 1) (pc2 := 6) (ls2 := [(0, .ref 162), (1, .int (nI K)), (2, .int 2)]) (st2 := [.int 2]) (h2 := h1x) (dc2 := 0) (ds2 := 0) 1 rfl ?_
  refine wq_inl (y2 := 208) (as := [.int 2]) rfl rfl rfl ?_
  show wq 208 0 [(0, .int 2)] [] h1x 0 0 _
  refine wq_gos (f := 1) (pc2 := 15) (ls2 := [(0, .int 2)]) (st2 := [.int 1]) (h2 := h1x) (dc2 := 0) (ds2 := 0) 7 rfl ?_
  refine wq_ret rfl rfl ?_
  show wq 231 9 [(0, .ref 162), (1, .int (nI K)), (2, .int 2)] [.int 1] h1x 0 0 _
  refine wq_gos (f := 1) (pc2 := 14) (ls2 := [(0, .ref 162), (1, .int (nI K)), (2, .int 2)]) (st2 := [.int (nI K), .ref 162]) (h2 := h1x) (dc2 := 0) (ds2 := 0) 3 rfl ?_
  refine wq_inlv (y2 := 230) (as := [.int (nI K)]) rfl rfl rfl e2x rfl ?_
  show wq 230 0 [(0, .ref 162), (1, .int (nI K))] [] h1x 0 0 _
  refine wq_gos (f := 1) (pc2 := 1) (ls2 := [(0, .ref 162), (1, .int (nI K))]) (st2 := [.ref 162]) (h2 := h1x) (dc2 := 0) (ds2 := 0) 1 rfl ?_
  have e11x := (f3x.2 _ _ (wnc (by decide) wn0) c166)
  have e12x := (f3x.2 _ _ (wnc (by decide) wn0) c168)
  have e13x := (f3x.2 _ _ (wnc (by decide) wn0) c170)
  have e14x := (f3x.2 _ _ (wnc (by decide) wn0) c190)
  have e15x := (f3x.2 _ _ (wnc (by decide) wn0) c196)
  have e16x := (f3x.2 _ _ (wnc (by decide) wn0) c200)
  have e17x := (f3x.2 _ _ (wnc (by decide) wn0) c202)
  have e18x := (f3x.2 _ _ (wnc (by decide) wn0) c204)
  refine wq_inlv (y2 := 227) (as := []) rfl rfl rfl e2x rfl (wq_mono (m_aim0 e2x hC7x e11x e12x e13x e14x e15x e16x e17x e18x p8x p9x) ?_)
  rintro _ ⟨h8, fs8, fo8, rfl, f8, hM8, hC8, h328, h398, h278, hF8, hfo⟩
  show wq 230 4 [(0, .ref 162), (1, .int (nI K))] [] h8 0 0 _
  refine wq_gos (f := 1) (pc2 := 5) (ls2 := [(0, .ref 162), (1, .int (nI K))]) (st2 := [.int (nI K)]) (h2 := h8) (dc2 := 0) (ds2 := 0) 1 rfl ?_
  refine wq_lt0f rfl rfl (by omega) ?_
  refine wq_gos (f := 1) (pc2 := 10) (ls2 := [(0, .ref 162), (1, .int (nI K))]) (st2 := [.ref 162, .int (nI K)]) (h2 := h8) (dc2 := 0) (ds2 := 0) 2 rfl ?_
  refine wq_getf rfl hM8 h328 rfl ?_
  refine wq_ge2f rfl rfl (by omega) ?_
  refine wq_gos (f := 1) (pc2 := 21) (ls2 := [(0, .ref 162), (1, .int (nI K))]) (st2 := [.int 1]) (h2 := h8) (dc2 := 0) (ds2 := 0) 2 rfl ?_
  refine wq_ret rfl rfl ?_
  show wq 231 17 [(0, .ref 162), (1, .int (nI K)), (2, .int 2)] [.int 1] h8 0 0 _
  refine wq_gos (f := 1) (pc2 := 23) (ls2 := [(0, .ref 162), (1, .int (nI K)), (2, .int 2)]) (st2 := [.int (nI K), .ref 162, .ref 162]) (h2 := h8) (dc2 := 0) (ds2 := 0) 4 rfl ?_
  refine wq_inlv (y2 := 228) (as := [.int (nI K)]) rfl rfl rfl hM8 rfl ?_
  show wq 228 0 [(0, .ref 162), (1, .int (nI K))] [] h8 0 0 _
  refine wq_gos (f := 1) (pc2 := 1) (ls2 := [(0, .ref 162), (1, .int (nI K))]) (st2 := [.ref 162]) (h2 := h8) (dc2 := 0) (ds2 := 0) 1 rfl ?_
  refine wq_getf rfl hM8 (hC8.2 (30, 196) (by decide)) rfl ?_
  refine wq_gos (f := 1) (pc2 := 9) (ls2 := [(0, .ref 162), (1, .int (nI K))]) (st2 := [.int ((4800 : Int32) + (nI K)), .ref 196]) (h2 := h8) (dc2 := 0) (ds2 := 0) 3 rfl ?_
  refine wq_vi (show (4800 : Int32) + nI K = nI (4800 + K) from nI_add 4800 K) ?_
  refine wq_laldn rfl hF8 (by omega) (by decide) rfl ?_
  refine wq_vl (hfo K hK) ?_
  refine wq_ret rfl rfl ?_
  show wq 231 26 [(0, .ref 162), (1, .int (nI K)), (2, .int 2)] [.long (ml0.getD K 0), .ref 162] h8 0 0 _
  refine wq_gos (f := 1) (pc2 := 27) (ls2 := [(0, .ref 162), (1, .int (nI K)), (2, .int 2)]) (st2 := [.int 2, .long (ml0.getD K 0), .ref 162]) (h2 := h8) (dc2 := 0) (ds2 := 0) 1 rfl ?_
  refine wq_inlv (y2 := 220) (as := [.long (ml0.getD K 0), .int 2]) rfl rfl rfl hM8 rfl (wq_T (m_jo2 (ml0.getD K 0) h8) ?_)
  show wq 231 30 [(0, .ref 162), (1, .int (nI K)), (2, .int 2)] [.int (mjo2 (ml0.getD K 0))] h8 0 0 _
  refine wq_gos (f := 1) (pc2 := 35) (ls2 := [(0, .ref 162), (1, .int (nI K)), (2, .int 2)]) (st2 := [.int (mjo2 (ml0.getD K 0))]) (h2 := h8) (dc2 := 0) (ds2 := 0) 1 rfl ?_
  have hv9 : (jnum (so0.getD K 0) 24) = (mjo2 (ml0.getD K 0)) := jo2 hK
  rw [hv9]
  exact wq_ret rfl rfl ⟨h8, rfl⟩
set_option maxRecDepth 100000 in
set_option maxHeartbeats 4000000 in
theorem c_o13g3 {h : zH} {K : Nat} (c0 : zat h 0 = some (.inr (.inr (.inr (9, [.ref 2, .int 0, .ref 4, .ref 6, .ref 20, .long 70644700037184, .ref 34, .ref 36, .int 0, .long 0, .ref 42, .ref 44, .ref 60, .ref 66, .ref 72, .ref 74, .ref 150, .ref 158]))))) (c6 : zat h 6 = some (.inr (.inr (.inr (0, [.int 9, .int 4, .int 10, .int 2, .int 0, .long 70644700037184, .ref 8, .ref 10, .ref 12, .int 0, .ref 14, .ref 16, .int 0, .ref 18]))))) (c8 : zat h 8 = some (.inl (0, 6, [0, (-32), (-32), (-32), (-32), (-64)]))) (c10 : zat h 10 = some (.inl (0, 6, [99, 31, 31, 31, 31, 63]))) (c34 : zat h 34 = some (.inl (0, 6, [22000000, 0, 10000, 0, 0, 0]))) (c44 : zat h 44 = some (.inr (.inr (.inr (7, [.null, .null, .ref 46, .int 0, .ref 48, .ref 50, .ref 52, .ref 54, .ref 56, .ref 58]))))) (c46 : zat h 46 = some (.inl (0, 6, []))) (c48 : zat h 48 = some (.inl (0, 128, []))) (c50 : zat h 50 = some (.inl (0, 128, []))) (c52 : zat h 52 = some (.inl (0, 128, []))) (c54 : zat h 54 = some (.inl (0, 128, []))) (c56 : zat h 56 = some (.inl (0, 101, []))) (c58 : zat h 58 = some (.inr (.inl (16, [])))) (c60 : zat h 60 = some (.inr (.inr (.inr (1, [.int 0, .int 0, .ref 62, .ref 64, .int 0, .int 0]))))) (c62 : zat h 62 = some (.inr (.inl (16, [])))) (c64 : zat h 64 = some (.inl (0, 6, []))) (hlen : 117 ≤ h.length) (hK : K < 264) : wq 114 0 [(0, .ref 0), (1, .int (nI K)), (2, .int 3)] [] h 0 0 (fun r => ∃ (h2 : zH) (d s : Nat), r = (some (.int (jnum (so0.getD K 0) 16)), h2, d, s) ∧ wFr [0, 36, 38, 40, 62, 60, 64, 44, 46, 48, 50, 52, 54, 56, 58] h h2 ∧ d ≤ 1200 ∧ s ≤ 720000) := by
  have q1 := nI_toInt (n := K) (by omega)
  have e_0 : (0 : Int32).toInt = 0 := rfl
  have e6 : (6 : Int32).toInt = 6 := rfl
  have e264 : (264 : Int32).toInt = 264 := rfl
  refine wq_gos (f := 1) (pc2 := 1) (ls2 := [(0, .ref 0), (1, .int (nI K)), (2, .int 3)]) (st2 := [.ref 0]) (h2 := h) (dc2 := 0) (ds2 := 0) 1 rfl ?_
  refine wq_inlv (y2 := 148) (as := []) rfl rfl rfl c0 rfl (wq_mono (c_held0 c0 c6 c8 c10 c34 c44 c46 c48 c50 c52 c54 c56 c58 c60 c62 c64 hlen) ?_)
  rintro _ ⟨h8, rL2, cap2, ks2, fa2, li2, d, s, rfl, f8, j9, j11, j15, j14⟩
  show wq 114 4 [(0, .ref 0), (1, .int (nI K)), (2, .int 3)] [.ref 60] h8 (0 + d) (0 + s) _
  rw [Nat.zero_add, Nat.zero_add]
  refine wq_gos (f := 1) (pc2 := 6) (ls2 := [(3, .ref 60), (0, .ref 0), (1, .int (nI K)), (2, .int 3)]) (st2 := [.int 3]) (h2 := h8) (dc2 := d) (ds2 := s) 2 rfl ?_
  refine wq_inl (y2 := 144) (as := [.int 3]) rfl rfl rfl ?_
  show wq 144 0 [(0, .int 3)] [] h8 0 0 _
  refine wq_gos (f := 1) (pc2 := 15) (ls2 := [(0, .int 3)]) (st2 := [.int 0]) (h2 := h8) (dc2 := 0) (ds2 := 0) 6 rfl ?_
  refine wq_ret rfl rfl ?_
  show wq 114 9 [(3, .ref 60), (0, .ref 0), (1, .int (nI K)), (2, .int 3)] [.int 0] h8 d s _
  refine wq_gos (f := 1) (pc2 := 14) (ls2 := [(3, .ref 60), (0, .ref 0), (1, .int (nI K)), (2, .int 3)]) (st2 := [.int (nI K), .ref 60]) (h2 := h8) (dc2 := d) (ds2 := s) 3 rfl ?_
  refine wq_inlv (y2 := 17) (as := [.int (nI K)]) rfl rfl rfl j9 rfl ?_
  show wq 17 0 [(0, .ref 60), (1, .int (nI K))] [] h8 0 0 _
  refine wq_gos (f := 1) (pc2 := 1) (ls2 := [(0, .ref 60), (1, .int (nI K))]) (st2 := [.int (nI K)]) (h2 := h8) (dc2 := 0) (ds2 := 0) 1 rfl ?_
  refine wq_lt0f rfl rfl (by omega) ?_
  refine wq_gos (f := 1) (pc2 := 6) (ls2 := [(0, .ref 60), (1, .int (nI K))]) (st2 := [.ref 60, .int (nI K)]) (h2 := h8) (dc2 := 0) (ds2 := 0) 2 rfl ?_
  refine wq_getf rfl j9 rfl rfl ?_
  refine wq_ge2f rfl rfl (by omega) ?_
  refine wq_gos (f := 1) (pc2 := 13) (ls2 := [(0, .ref 60), (1, .int (nI K))]) (st2 := [.ref 60]) (h2 := h8) (dc2 := 0) (ds2 := 0) 1 rfl ?_
  refine wq_inlv (y2 := 16) (as := []) rfl rfl rfl j9 rfl ?_
  show wq 16 0 [(0, .ref 60)] [] h8 0 0 _
  refine wq_gos (f := 1) (pc2 := 1) (ls2 := [(0, .ref 60)]) (st2 := [.ref 60]) (h2 := h8) (dc2 := 0) (ds2 := 0) 1 rfl ?_
  refine wq_getf rfl j9 rfl rfl ?_
  refine wq_gos (f := 1) (pc2 := 15) (ls2 := [(0, .ref 60)]) (st2 := [.int 0]) (h2 := h8) (dc2 := 0) (ds2 := 0) 3 rfl ?_
  refine wq_ret rfl rfl ?_
  show wq 17 16 [(0, .ref 60), (1, .int (nI K))] [.int 0] h8 0 0 _
  refine wq_gos (f := 1) (pc2 := 24) (ls2 := [(0, .ref 60), (1, .int (nI K))]) (st2 := [.int 1]) (h2 := h8) (dc2 := 0) (ds2 := 0) 3 rfl ?_
  refine wq_ret rfl rfl ?_
  show wq 114 17 [(3, .ref 60), (0, .ref 0), (1, .int (nI K)), (2, .int 3)] [.int 1] h8 d s _
  refine wq_gos (f := 1) (pc2 := 26) (ls2 := [(3, .ref 60), (0, .ref 0), (1, .int (nI K)), (2, .int 3)]) (st2 := [.ref 60]) (h2 := h8) (dc2 := d) (ds2 := s) 2 rfl ?_
  refine wq_getf rfl j9 rfl rfl ?_
  refine wq_gos (f := 1) (pc2 := 30) (ls2 := [(3, .ref 60), (0, .ref 0), (1, .int (nI K)), (2, .int 3)]) (st2 := [.int (nI K), .ref rL2]) (h2 := h8) (dc2 := d) (ds2 := s) 1 rfl ?_
  refine wq_laldn rfl j11 (by omega) (by omega) rfl ?_
  refine wq_vl (j15 K hK) ?_
  refine wq_gos (f := 1) (pc2 := 32) (ls2 := [(3, .ref 60), (0, .ref 0), (1, .int (nI K)), (2, .int 3)]) (st2 := [.int 3, .long (so0.getD K 0)]) (h2 := h8) (dc2 := d) (ds2 := s) 1 rfl ?_
  refine wq_inl (y2 := 33) (as := [.long (so0.getD K 0), .int 3]) rfl rfl rfl (wq_T (c_num_3 (so0.getD K 0) h8) ?_)
  show wq 114 35 [(3, .ref 60), (0, .ref 0), (1, .int (nI K)), (2, .int 3)] [.int (jnum (so0.getD K 0) 16)] h8 d s _
  exact wq_ret rfl rfl ⟨h8, d, s, rfl, (wFr_tr (wFr_rf _ _) (wFr_sub f8 (by simp))), by omega, by omega⟩
set_option maxRecDepth 100000 in
set_option maxHeartbeats 4000000 in
theorem m_o13g3 {h : zH} {fs : List Value} {K : Nat} (hM : zat h 162 = some (.inr (.inr (.inr (10, fs))))) (hC : mC fs) (c166 : zat h 166 = some (.inl (0, 14, [9, 4, 10, 2, 0, 0, 0, 9, 4, 10, 2, 0, 0, 0]))) (c168 : zat h 168 = some (.inl (0, 12, [0, (-32), (-32), (-32), (-32), (-64), 0, (-32), (-32), (-32), (-32), (-64)]))) (c170 : zat h 170 = some (.inl (0, 12, [99, 31, 31, 31, 31, 63, 99, 31, 31, 31, 31, 63]))) (c190 : zat h 190 = some (.inl (0, 6, [22000000, 0, 10000, 0, 0, 0]))) (c196 : zat h 196 = some (.inr (.inl (6000, [])))) (c200 : zat h 200 = some (.inl (0, 4096, []))) (c202 : zat h 202 = some (.inl (0, 4096, []))) (c204 : zat h 204 = some (.inl (0, 6, []))) (h33 : fs[33]? = some (.int 0)) (h27 : fs[27]? = some (.int 0)) (hK : K < 264) : wq 231 0 [(0, .ref 162), (1, .int (nI K)), (2, .int 3)] [] h 0 0 (fun r => ∃ h2, r = (some (.int (jnum (so0.getD K 0) 16)), h2, 0, 0)) := by
  have q1 := nI_toInt (n := K) (by omega)
  have e_0 : (0 : Int32).toInt = 0 := rfl
  have e6 : (6 : Int32).toInt = 6 := rfl
  have e264 : (264 : Int32).toInt = 264 := rfl
  refine wq_gos (f := 1) (pc2 := 2) (ls2 := [(0, .ref 162), (1, .int (nI K)), (2, .int 3)]) (st2 := [.int 0, .ref 162]) (h2 := h) (dc2 := 0) (ds2 := 0) 2 rfl ?_
  refine wq_putf rfl hM rfl (by rw [hC.1]; rfl) rfl ?_
  intro h1x e2x f3x l4x
  obtain ⟨fs5x, hf6x⟩ : ∃ x, x = fs.set 0 (.int 0) := ⟨_, rfl⟩
  rw [← hf6x] at e2x
  have hC7x : mC fs5x := by rw [hf6x]; exact mC_set hC (by decide) _
  have p8x : fs5x[33]? = some (.int 0) := by rw [hf6x, List.getElem?_set_ne (by decide)]; exact h33
  have p9x : fs5x[27]? = some (.int 0) := by rw [hf6x, List.getElem?_set_ne (by decide)]; exact h27
  have p10x : fs5x[0]? = some (.int 0) := by rw [hf6x]; exact List.getElem?_set_self (by rw [hC.1]; decide)
  refine wq_gos (f := 1) (pc2 := 6) (ls2 := [(0, .ref 162), (1, .int (nI K)), (2, .int 3)]) (st2 := [.int 3]) (h2 := h1x) (dc2 := 0) (ds2 := 0) 1 rfl ?_
  refine wq_inl (y2 := 208) (as := [.int 3]) rfl rfl rfl ?_
  show wq 208 0 [(0, .int 3)] [] h1x 0 0 _
  refine wq_gos (f := 1) (pc2 := 15) (ls2 := [(0, .int 3)]) (st2 := [.int 1]) (h2 := h1x) (dc2 := 0) (ds2 := 0) 7 rfl ?_
  refine wq_ret rfl rfl ?_
  show wq 231 9 [(0, .ref 162), (1, .int (nI K)), (2, .int 3)] [.int 1] h1x 0 0 _
  refine wq_gos (f := 1) (pc2 := 14) (ls2 := [(0, .ref 162), (1, .int (nI K)), (2, .int 3)]) (st2 := [.int (nI K), .ref 162]) (h2 := h1x) (dc2 := 0) (ds2 := 0) 3 rfl ?_
  refine wq_inlv (y2 := 230) (as := [.int (nI K)]) rfl rfl rfl e2x rfl ?_
  show wq 230 0 [(0, .ref 162), (1, .int (nI K))] [] h1x 0 0 _
  refine wq_gos (f := 1) (pc2 := 1) (ls2 := [(0, .ref 162), (1, .int (nI K))]) (st2 := [.ref 162]) (h2 := h1x) (dc2 := 0) (ds2 := 0) 1 rfl ?_
  have e11x := (f3x.2 _ _ (wnc (by decide) wn0) c166)
  have e12x := (f3x.2 _ _ (wnc (by decide) wn0) c168)
  have e13x := (f3x.2 _ _ (wnc (by decide) wn0) c170)
  have e14x := (f3x.2 _ _ (wnc (by decide) wn0) c190)
  have e15x := (f3x.2 _ _ (wnc (by decide) wn0) c196)
  have e16x := (f3x.2 _ _ (wnc (by decide) wn0) c200)
  have e17x := (f3x.2 _ _ (wnc (by decide) wn0) c202)
  have e18x := (f3x.2 _ _ (wnc (by decide) wn0) c204)
  refine wq_inlv (y2 := 227) (as := []) rfl rfl rfl e2x rfl (wq_mono (m_aim0 e2x hC7x e11x e12x e13x e14x e15x e16x e17x e18x p8x p9x) ?_)
  rintro _ ⟨h8, fs8, fo8, rfl, f8, hM8, hC8, h328, h398, h278, hF8, hfo⟩
  show wq 230 4 [(0, .ref 162), (1, .int (nI K))] [] h8 0 0 _
  refine wq_gos (f := 1) (pc2 := 5) (ls2 := [(0, .ref 162), (1, .int (nI K))]) (st2 := [.int (nI K)]) (h2 := h8) (dc2 := 0) (ds2 := 0) 1 rfl ?_
  refine wq_lt0f rfl rfl (by omega) ?_
  refine wq_gos (f := 1) (pc2 := 10) (ls2 := [(0, .ref 162), (1, .int (nI K))]) (st2 := [.ref 162, .int (nI K)]) (h2 := h8) (dc2 := 0) (ds2 := 0) 2 rfl ?_
  refine wq_getf rfl hM8 h328 rfl ?_
  refine wq_ge2f rfl rfl (by omega) ?_
  refine wq_gos (f := 1) (pc2 := 21) (ls2 := [(0, .ref 162), (1, .int (nI K))]) (st2 := [.int 1]) (h2 := h8) (dc2 := 0) (ds2 := 0) 2 rfl ?_
  refine wq_ret rfl rfl ?_
  show wq 231 17 [(0, .ref 162), (1, .int (nI K)), (2, .int 3)] [.int 1] h8 0 0 _
  refine wq_gos (f := 1) (pc2 := 23) (ls2 := [(0, .ref 162), (1, .int (nI K)), (2, .int 3)]) (st2 := [.int (nI K), .ref 162, .ref 162]) (h2 := h8) (dc2 := 0) (ds2 := 0) 4 rfl ?_
  refine wq_inlv (y2 := 228) (as := [.int (nI K)]) rfl rfl rfl hM8 rfl ?_
  show wq 228 0 [(0, .ref 162), (1, .int (nI K))] [] h8 0 0 _
  refine wq_gos (f := 1) (pc2 := 1) (ls2 := [(0, .ref 162), (1, .int (nI K))]) (st2 := [.ref 162]) (h2 := h8) (dc2 := 0) (ds2 := 0) 1 rfl ?_
  refine wq_getf rfl hM8 (hC8.2 (30, 196) (by decide)) rfl ?_
  refine wq_gos (f := 1) (pc2 := 9) (ls2 := [(0, .ref 162), (1, .int (nI K))]) (st2 := [.int ((4800 : Int32) + (nI K)), .ref 196]) (h2 := h8) (dc2 := 0) (ds2 := 0) 3 rfl ?_
  refine wq_vi (show (4800 : Int32) + nI K = nI (4800 + K) from nI_add 4800 K) ?_
  refine wq_laldn rfl hF8 (by omega) (by decide) rfl ?_
  refine wq_vl (hfo K hK) ?_
  refine wq_ret rfl rfl ?_
  show wq 231 26 [(0, .ref 162), (1, .int (nI K)), (2, .int 3)] [.long (ml0.getD K 0), .ref 162] h8 0 0 _
  refine wq_gos (f := 1) (pc2 := 27) (ls2 := [(0, .ref 162), (1, .int (nI K)), (2, .int 3)]) (st2 := [.int 3, .long (ml0.getD K 0), .ref 162]) (h2 := h8) (dc2 := 0) (ds2 := 0) 1 rfl ?_
  refine wq_inlv (y2 := 220) (as := [.long (ml0.getD K 0), .int 3]) rfl rfl rfl hM8 rfl (wq_T (m_jo3 (ml0.getD K 0) h8) ?_)
  show wq 231 30 [(0, .ref 162), (1, .int (nI K)), (2, .int 3)] [.int (mjo3 (ml0.getD K 0))] h8 0 0 _
  refine wq_gos (f := 1) (pc2 := 35) (ls2 := [(0, .ref 162), (1, .int (nI K)), (2, .int 3)]) (st2 := [.int (mjo3 (ml0.getD K 0))]) (h2 := h8) (dc2 := 0) (ds2 := 0) 1 rfl ?_
  have hv9 : (jnum (so0.getD K 0) 16) = (mjo3 (ml0.getD K 0)) := jo3 hK
  rw [hv9]
  exact wq_ret rfl rfl ⟨h8, rfl⟩
set_option maxRecDepth 100000 in
set_option maxHeartbeats 4000000 in
theorem c_o13g4 {h : zH} {K : Nat} (c0 : zat h 0 = some (.inr (.inr (.inr (9, [.ref 2, .int 0, .ref 4, .ref 6, .ref 20, .long 70644700037184, .ref 34, .ref 36, .int 0, .long 0, .ref 42, .ref 44, .ref 60, .ref 66, .ref 72, .ref 74, .ref 150, .ref 158]))))) (c6 : zat h 6 = some (.inr (.inr (.inr (0, [.int 9, .int 4, .int 10, .int 2, .int 0, .long 70644700037184, .ref 8, .ref 10, .ref 12, .int 0, .ref 14, .ref 16, .int 0, .ref 18]))))) (c8 : zat h 8 = some (.inl (0, 6, [0, (-32), (-32), (-32), (-32), (-64)]))) (c10 : zat h 10 = some (.inl (0, 6, [99, 31, 31, 31, 31, 63]))) (c34 : zat h 34 = some (.inl (0, 6, [22000000, 0, 10000, 0, 0, 0]))) (c44 : zat h 44 = some (.inr (.inr (.inr (7, [.null, .null, .ref 46, .int 0, .ref 48, .ref 50, .ref 52, .ref 54, .ref 56, .ref 58]))))) (c46 : zat h 46 = some (.inl (0, 6, []))) (c48 : zat h 48 = some (.inl (0, 128, []))) (c50 : zat h 50 = some (.inl (0, 128, []))) (c52 : zat h 52 = some (.inl (0, 128, []))) (c54 : zat h 54 = some (.inl (0, 128, []))) (c56 : zat h 56 = some (.inl (0, 101, []))) (c58 : zat h 58 = some (.inr (.inl (16, [])))) (c60 : zat h 60 = some (.inr (.inr (.inr (1, [.int 0, .int 0, .ref 62, .ref 64, .int 0, .int 0]))))) (c62 : zat h 62 = some (.inr (.inl (16, [])))) (c64 : zat h 64 = some (.inl (0, 6, []))) (hlen : 117 ≤ h.length) (hK : K < 264) : wq 114 0 [(0, .ref 0), (1, .int (nI K)), (2, .int 4)] [] h 0 0 (fun r => ∃ (h2 : zH) (d s : Nat), r = (some (.int (jnum (so0.getD K 0) 8)), h2, d, s) ∧ wFr [0, 36, 38, 40, 62, 60, 64, 44, 46, 48, 50, 52, 54, 56, 58] h h2 ∧ d ≤ 1200 ∧ s ≤ 720000) := by
  have q1 := nI_toInt (n := K) (by omega)
  have e_0 : (0 : Int32).toInt = 0 := rfl
  have e6 : (6 : Int32).toInt = 6 := rfl
  have e264 : (264 : Int32).toInt = 264 := rfl
  refine wq_gos (f := 1) (pc2 := 1) (ls2 := [(0, .ref 0), (1, .int (nI K)), (2, .int 4)]) (st2 := [.ref 0]) (h2 := h) (dc2 := 0) (ds2 := 0) 1 rfl ?_
  refine wq_inlv (y2 := 148) (as := []) rfl rfl rfl c0 rfl (wq_mono (c_held0 c0 c6 c8 c10 c34 c44 c46 c48 c50 c52 c54 c56 c58 c60 c62 c64 hlen) ?_)
  rintro _ ⟨h8, rL2, cap2, ks2, fa2, li2, d, s, rfl, f8, j9, j11, j15, j14⟩
  show wq 114 4 [(0, .ref 0), (1, .int (nI K)), (2, .int 4)] [.ref 60] h8 (0 + d) (0 + s) _
  rw [Nat.zero_add, Nat.zero_add]
  refine wq_gos (f := 1) (pc2 := 6) (ls2 := [(3, .ref 60), (0, .ref 0), (1, .int (nI K)), (2, .int 4)]) (st2 := [.int 4]) (h2 := h8) (dc2 := d) (ds2 := s) 2 rfl ?_
  refine wq_inl (y2 := 144) (as := [.int 4]) rfl rfl rfl ?_
  show wq 144 0 [(0, .int 4)] [] h8 0 0 _
  refine wq_gos (f := 1) (pc2 := 15) (ls2 := [(0, .int 4)]) (st2 := [.int 0]) (h2 := h8) (dc2 := 0) (ds2 := 0) 6 rfl ?_
  refine wq_ret rfl rfl ?_
  show wq 114 9 [(3, .ref 60), (0, .ref 0), (1, .int (nI K)), (2, .int 4)] [.int 0] h8 d s _
  refine wq_gos (f := 1) (pc2 := 14) (ls2 := [(3, .ref 60), (0, .ref 0), (1, .int (nI K)), (2, .int 4)]) (st2 := [.int (nI K), .ref 60]) (h2 := h8) (dc2 := d) (ds2 := s) 3 rfl ?_
  refine wq_inlv (y2 := 17) (as := [.int (nI K)]) rfl rfl rfl j9 rfl ?_
  show wq 17 0 [(0, .ref 60), (1, .int (nI K))] [] h8 0 0 _
  refine wq_gos (f := 1) (pc2 := 1) (ls2 := [(0, .ref 60), (1, .int (nI K))]) (st2 := [.int (nI K)]) (h2 := h8) (dc2 := 0) (ds2 := 0) 1 rfl ?_
  refine wq_lt0f rfl rfl (by omega) ?_
  refine wq_gos (f := 1) (pc2 := 6) (ls2 := [(0, .ref 60), (1, .int (nI K))]) (st2 := [.ref 60, .int (nI K)]) (h2 := h8) (dc2 := 0) (ds2 := 0) 2 rfl ?_
  refine wq_getf rfl j9 rfl rfl ?_
  refine wq_ge2f rfl rfl (by omega) ?_
  refine wq_gos (f := 1) (pc2 := 13) (ls2 := [(0, .ref 60), (1, .int (nI K))]) (st2 := [.ref 60]) (h2 := h8) (dc2 := 0) (ds2 := 0) 1 rfl ?_
  refine wq_inlv (y2 := 16) (as := []) rfl rfl rfl j9 rfl ?_
  show wq 16 0 [(0, .ref 60)] [] h8 0 0 _
  refine wq_gos (f := 1) (pc2 := 1) (ls2 := [(0, .ref 60)]) (st2 := [.ref 60]) (h2 := h8) (dc2 := 0) (ds2 := 0) 1 rfl ?_
  refine wq_getf rfl j9 rfl rfl ?_
  refine wq_gos (f := 1) (pc2 := 15) (ls2 := [(0, .ref 60)]) (st2 := [.int 0]) (h2 := h8) (dc2 := 0) (ds2 := 0) 3 rfl ?_
  refine wq_ret rfl rfl ?_
  show wq 17 16 [(0, .ref 60), (1, .int (nI K))] [.int 0] h8 0 0 _
  refine wq_gos (f := 1) (pc2 := 24) (ls2 := [(0, .ref 60), (1, .int (nI K))]) (st2 := [.int 1]) (h2 := h8) (dc2 := 0) (ds2 := 0) 3 rfl ?_
  refine wq_ret rfl rfl ?_
  show wq 114 17 [(3, .ref 60), (0, .ref 0), (1, .int (nI K)), (2, .int 4)] [.int 1] h8 d s _
  refine wq_gos (f := 1) (pc2 := 26) (ls2 := [(3, .ref 60), (0, .ref 0), (1, .int (nI K)), (2, .int 4)]) (st2 := [.ref 60]) (h2 := h8) (dc2 := d) (ds2 := s) 2 rfl ?_
  refine wq_getf rfl j9 rfl rfl ?_
  refine wq_gos (f := 1) (pc2 := 30) (ls2 := [(3, .ref 60), (0, .ref 0), (1, .int (nI K)), (2, .int 4)]) (st2 := [.int (nI K), .ref rL2]) (h2 := h8) (dc2 := d) (ds2 := s) 1 rfl ?_
  refine wq_laldn rfl j11 (by omega) (by omega) rfl ?_
  refine wq_vl (j15 K hK) ?_
  refine wq_gos (f := 1) (pc2 := 32) (ls2 := [(3, .ref 60), (0, .ref 0), (1, .int (nI K)), (2, .int 4)]) (st2 := [.int 4, .long (so0.getD K 0)]) (h2 := h8) (dc2 := d) (ds2 := s) 1 rfl ?_
  refine wq_inl (y2 := 33) (as := [.long (so0.getD K 0), .int 4]) rfl rfl rfl (wq_T (c_num_4 (so0.getD K 0) h8) ?_)
  show wq 114 35 [(3, .ref 60), (0, .ref 0), (1, .int (nI K)), (2, .int 4)] [.int (jnum (so0.getD K 0) 8)] h8 d s _
  exact wq_ret rfl rfl ⟨h8, d, s, rfl, (wFr_tr (wFr_rf _ _) (wFr_sub f8 (by simp))), by omega, by omega⟩
set_option maxRecDepth 100000 in
set_option maxHeartbeats 4000000 in
theorem m_o13g4 {h : zH} {fs : List Value} {K : Nat} (hM : zat h 162 = some (.inr (.inr (.inr (10, fs))))) (hC : mC fs) (c166 : zat h 166 = some (.inl (0, 14, [9, 4, 10, 2, 0, 0, 0, 9, 4, 10, 2, 0, 0, 0]))) (c168 : zat h 168 = some (.inl (0, 12, [0, (-32), (-32), (-32), (-32), (-64), 0, (-32), (-32), (-32), (-32), (-64)]))) (c170 : zat h 170 = some (.inl (0, 12, [99, 31, 31, 31, 31, 63, 99, 31, 31, 31, 31, 63]))) (c190 : zat h 190 = some (.inl (0, 6, [22000000, 0, 10000, 0, 0, 0]))) (c196 : zat h 196 = some (.inr (.inl (6000, [])))) (c200 : zat h 200 = some (.inl (0, 4096, []))) (c202 : zat h 202 = some (.inl (0, 4096, []))) (c204 : zat h 204 = some (.inl (0, 6, []))) (h33 : fs[33]? = some (.int 0)) (h27 : fs[27]? = some (.int 0)) (hK : K < 264) : wq 231 0 [(0, .ref 162), (1, .int (nI K)), (2, .int 4)] [] h 0 0 (fun r => ∃ h2, r = (some (.int (jnum (so0.getD K 0) 8)), h2, 0, 0)) := by
  have q1 := nI_toInt (n := K) (by omega)
  have e_0 : (0 : Int32).toInt = 0 := rfl
  have e6 : (6 : Int32).toInt = 6 := rfl
  have e264 : (264 : Int32).toInt = 264 := rfl
  refine wq_gos (f := 1) (pc2 := 2) (ls2 := [(0, .ref 162), (1, .int (nI K)), (2, .int 4)]) (st2 := [.int 0, .ref 162]) (h2 := h) (dc2 := 0) (ds2 := 0) 2 rfl ?_
  refine wq_putf rfl hM rfl (by rw [hC.1]; rfl) rfl ?_
  intro h1x e2x f3x l4x
  obtain ⟨fs5x, hf6x⟩ : ∃ x, x = fs.set 0 (.int 0) := ⟨_, rfl⟩
  rw [← hf6x] at e2x
  have hC7x : mC fs5x := by rw [hf6x]; exact mC_set hC (by decide) _
  have p8x : fs5x[33]? = some (.int 0) := by rw [hf6x, List.getElem?_set_ne (by decide)]; exact h33
  have p9x : fs5x[27]? = some (.int 0) := by rw [hf6x, List.getElem?_set_ne (by decide)]; exact h27
  have p10x : fs5x[0]? = some (.int 0) := by rw [hf6x]; exact List.getElem?_set_self (by rw [hC.1]; decide)
  refine wq_gos (f := 1) (pc2 := 6) (ls2 := [(0, .ref 162), (1, .int (nI K)), (2, .int 4)]) (st2 := [.int 4]) (h2 := h1x) (dc2 := 0) (ds2 := 0) 1 rfl ?_
  refine wq_inl (y2 := 208) (as := [.int 4]) rfl rfl rfl ?_
  show wq 208 0 [(0, .int 4)] [] h1x 0 0 _
  refine wq_gos (f := 1) (pc2 := 15) (ls2 := [(0, .int 4)]) (st2 := [.int 1]) (h2 := h1x) (dc2 := 0) (ds2 := 0) 7 rfl ?_
  refine wq_ret rfl rfl ?_
  show wq 231 9 [(0, .ref 162), (1, .int (nI K)), (2, .int 4)] [.int 1] h1x 0 0 _
  refine wq_gos (f := 1) (pc2 := 14) (ls2 := [(0, .ref 162), (1, .int (nI K)), (2, .int 4)]) (st2 := [.int (nI K), .ref 162]) (h2 := h1x) (dc2 := 0) (ds2 := 0) 3 rfl ?_
  refine wq_inlv (y2 := 230) (as := [.int (nI K)]) rfl rfl rfl e2x rfl ?_
  show wq 230 0 [(0, .ref 162), (1, .int (nI K))] [] h1x 0 0 _
  refine wq_gos (f := 1) (pc2 := 1) (ls2 := [(0, .ref 162), (1, .int (nI K))]) (st2 := [.ref 162]) (h2 := h1x) (dc2 := 0) (ds2 := 0) 1 rfl ?_
  have e11x := (f3x.2 _ _ (wnc (by decide) wn0) c166)
  have e12x := (f3x.2 _ _ (wnc (by decide) wn0) c168)
  have e13x := (f3x.2 _ _ (wnc (by decide) wn0) c170)
  have e14x := (f3x.2 _ _ (wnc (by decide) wn0) c190)
  have e15x := (f3x.2 _ _ (wnc (by decide) wn0) c196)
  have e16x := (f3x.2 _ _ (wnc (by decide) wn0) c200)
  have e17x := (f3x.2 _ _ (wnc (by decide) wn0) c202)
  have e18x := (f3x.2 _ _ (wnc (by decide) wn0) c204)
  refine wq_inlv (y2 := 227) (as := []) rfl rfl rfl e2x rfl (wq_mono (m_aim0 e2x hC7x e11x e12x e13x e14x e15x e16x e17x e18x p8x p9x) ?_)
  rintro _ ⟨h8, fs8, fo8, rfl, f8, hM8, hC8, h328, h398, h278, hF8, hfo⟩
  show wq 230 4 [(0, .ref 162), (1, .int (nI K))] [] h8 0 0 _
  refine wq_gos (f := 1) (pc2 := 5) (ls2 := [(0, .ref 162), (1, .int (nI K))]) (st2 := [.int (nI K)]) (h2 := h8) (dc2 := 0) (ds2 := 0) 1 rfl ?_
  refine wq_lt0f rfl rfl (by omega) ?_
  refine wq_gos (f := 1) (pc2 := 10) (ls2 := [(0, .ref 162), (1, .int (nI K))]) (st2 := [.ref 162, .int (nI K)]) (h2 := h8) (dc2 := 0) (ds2 := 0) 2 rfl ?_
  refine wq_getf rfl hM8 h328 rfl ?_
  refine wq_ge2f rfl rfl (by omega) ?_
  refine wq_gos (f := 1) (pc2 := 21) (ls2 := [(0, .ref 162), (1, .int (nI K))]) (st2 := [.int 1]) (h2 := h8) (dc2 := 0) (ds2 := 0) 2 rfl ?_
  refine wq_ret rfl rfl ?_
  show wq 231 17 [(0, .ref 162), (1, .int (nI K)), (2, .int 4)] [.int 1] h8 0 0 _
  refine wq_gos (f := 1) (pc2 := 23) (ls2 := [(0, .ref 162), (1, .int (nI K)), (2, .int 4)]) (st2 := [.int (nI K), .ref 162, .ref 162]) (h2 := h8) (dc2 := 0) (ds2 := 0) 4 rfl ?_
  refine wq_inlv (y2 := 228) (as := [.int (nI K)]) rfl rfl rfl hM8 rfl ?_
  show wq 228 0 [(0, .ref 162), (1, .int (nI K))] [] h8 0 0 _
  refine wq_gos (f := 1) (pc2 := 1) (ls2 := [(0, .ref 162), (1, .int (nI K))]) (st2 := [.ref 162]) (h2 := h8) (dc2 := 0) (ds2 := 0) 1 rfl ?_
  refine wq_getf rfl hM8 (hC8.2 (30, 196) (by decide)) rfl ?_
  refine wq_gos (f := 1) (pc2 := 9) (ls2 := [(0, .ref 162), (1, .int (nI K))]) (st2 := [.int ((4800 : Int32) + (nI K)), .ref 196]) (h2 := h8) (dc2 := 0) (ds2 := 0) 3 rfl ?_
  refine wq_vi (show (4800 : Int32) + nI K = nI (4800 + K) from nI_add 4800 K) ?_
  refine wq_laldn rfl hF8 (by omega) (by decide) rfl ?_
  refine wq_vl (hfo K hK) ?_
  refine wq_ret rfl rfl ?_
  show wq 231 26 [(0, .ref 162), (1, .int (nI K)), (2, .int 4)] [.long (ml0.getD K 0), .ref 162] h8 0 0 _
  refine wq_gos (f := 1) (pc2 := 27) (ls2 := [(0, .ref 162), (1, .int (nI K)), (2, .int 4)]) (st2 := [.int 4, .long (ml0.getD K 0), .ref 162]) (h2 := h8) (dc2 := 0) (ds2 := 0) 1 rfl ?_
  refine wq_inlv (y2 := 220) (as := [.long (ml0.getD K 0), .int 4]) rfl rfl rfl hM8 rfl (wq_T (m_jo4 (ml0.getD K 0) h8) ?_)
  show wq 231 30 [(0, .ref 162), (1, .int (nI K)), (2, .int 4)] [.int (mjo4 (ml0.getD K 0))] h8 0 0 _
  refine wq_gos (f := 1) (pc2 := 35) (ls2 := [(0, .ref 162), (1, .int (nI K)), (2, .int 4)]) (st2 := [.int (mjo4 (ml0.getD K 0))]) (h2 := h8) (dc2 := 0) (ds2 := 0) 1 rfl ?_
  have hv9 : (jnum (so0.getD K 0) 8) = (mjo4 (ml0.getD K 0)) := jo4 hK
  rw [hv9]
  exact wq_ret rfl rfl ⟨h8, rfl⟩
set_option maxRecDepth 100000 in
set_option maxHeartbeats 4000000 in
theorem c_o13g5 {h : zH} {K : Nat} (c0 : zat h 0 = some (.inr (.inr (.inr (9, [.ref 2, .int 0, .ref 4, .ref 6, .ref 20, .long 70644700037184, .ref 34, .ref 36, .int 0, .long 0, .ref 42, .ref 44, .ref 60, .ref 66, .ref 72, .ref 74, .ref 150, .ref 158]))))) (c6 : zat h 6 = some (.inr (.inr (.inr (0, [.int 9, .int 4, .int 10, .int 2, .int 0, .long 70644700037184, .ref 8, .ref 10, .ref 12, .int 0, .ref 14, .ref 16, .int 0, .ref 18]))))) (c8 : zat h 8 = some (.inl (0, 6, [0, (-32), (-32), (-32), (-32), (-64)]))) (c10 : zat h 10 = some (.inl (0, 6, [99, 31, 31, 31, 31, 63]))) (c34 : zat h 34 = some (.inl (0, 6, [22000000, 0, 10000, 0, 0, 0]))) (c44 : zat h 44 = some (.inr (.inr (.inr (7, [.null, .null, .ref 46, .int 0, .ref 48, .ref 50, .ref 52, .ref 54, .ref 56, .ref 58]))))) (c46 : zat h 46 = some (.inl (0, 6, []))) (c48 : zat h 48 = some (.inl (0, 128, []))) (c50 : zat h 50 = some (.inl (0, 128, []))) (c52 : zat h 52 = some (.inl (0, 128, []))) (c54 : zat h 54 = some (.inl (0, 128, []))) (c56 : zat h 56 = some (.inl (0, 101, []))) (c58 : zat h 58 = some (.inr (.inl (16, [])))) (c60 : zat h 60 = some (.inr (.inr (.inr (1, [.int 0, .int 0, .ref 62, .ref 64, .int 0, .int 0]))))) (c62 : zat h 62 = some (.inr (.inl (16, [])))) (c64 : zat h 64 = some (.inl (0, 6, []))) (hlen : 117 ≤ h.length) (hK : K < 264) : wq 114 0 [(0, .ref 0), (1, .int (nI K)), (2, .int 5)] [] h 0 0 (fun r => ∃ (h2 : zH) (d s : Nat), r = (some (.int (jnum (so0.getD K 0) 0)), h2, d, s) ∧ wFr [0, 36, 38, 40, 62, 60, 64, 44, 46, 48, 50, 52, 54, 56, 58] h h2 ∧ d ≤ 1200 ∧ s ≤ 720000) := by
  have q1 := nI_toInt (n := K) (by omega)
  have e_0 : (0 : Int32).toInt = 0 := rfl
  have e6 : (6 : Int32).toInt = 6 := rfl
  have e264 : (264 : Int32).toInt = 264 := rfl
  refine wq_gos (f := 1) (pc2 := 1) (ls2 := [(0, .ref 0), (1, .int (nI K)), (2, .int 5)]) (st2 := [.ref 0]) (h2 := h) (dc2 := 0) (ds2 := 0) 1 rfl ?_
  refine wq_inlv (y2 := 148) (as := []) rfl rfl rfl c0 rfl (wq_mono (c_held0 c0 c6 c8 c10 c34 c44 c46 c48 c50 c52 c54 c56 c58 c60 c62 c64 hlen) ?_)
  rintro _ ⟨h8, rL2, cap2, ks2, fa2, li2, d, s, rfl, f8, j9, j11, j15, j14⟩
  show wq 114 4 [(0, .ref 0), (1, .int (nI K)), (2, .int 5)] [.ref 60] h8 (0 + d) (0 + s) _
  rw [Nat.zero_add, Nat.zero_add]
  refine wq_gos (f := 1) (pc2 := 6) (ls2 := [(3, .ref 60), (0, .ref 0), (1, .int (nI K)), (2, .int 5)]) (st2 := [.int 5]) (h2 := h8) (dc2 := d) (ds2 := s) 2 rfl ?_
  refine wq_inl (y2 := 144) (as := [.int 5]) rfl rfl rfl ?_
  show wq 144 0 [(0, .int 5)] [] h8 0 0 _
  refine wq_gos (f := 1) (pc2 := 15) (ls2 := [(0, .int 5)]) (st2 := [.int 0]) (h2 := h8) (dc2 := 0) (ds2 := 0) 6 rfl ?_
  refine wq_ret rfl rfl ?_
  show wq 114 9 [(3, .ref 60), (0, .ref 0), (1, .int (nI K)), (2, .int 5)] [.int 0] h8 d s _
  refine wq_gos (f := 1) (pc2 := 14) (ls2 := [(3, .ref 60), (0, .ref 0), (1, .int (nI K)), (2, .int 5)]) (st2 := [.int (nI K), .ref 60]) (h2 := h8) (dc2 := d) (ds2 := s) 3 rfl ?_
  refine wq_inlv (y2 := 17) (as := [.int (nI K)]) rfl rfl rfl j9 rfl ?_
  show wq 17 0 [(0, .ref 60), (1, .int (nI K))] [] h8 0 0 _
  refine wq_gos (f := 1) (pc2 := 1) (ls2 := [(0, .ref 60), (1, .int (nI K))]) (st2 := [.int (nI K)]) (h2 := h8) (dc2 := 0) (ds2 := 0) 1 rfl ?_
  refine wq_lt0f rfl rfl (by omega) ?_
  refine wq_gos (f := 1) (pc2 := 6) (ls2 := [(0, .ref 60), (1, .int (nI K))]) (st2 := [.ref 60, .int (nI K)]) (h2 := h8) (dc2 := 0) (ds2 := 0) 2 rfl ?_
  refine wq_getf rfl j9 rfl rfl ?_
  refine wq_ge2f rfl rfl (by omega) ?_
  refine wq_gos (f := 1) (pc2 := 13) (ls2 := [(0, .ref 60), (1, .int (nI K))]) (st2 := [.ref 60]) (h2 := h8) (dc2 := 0) (ds2 := 0) 1 rfl ?_
  refine wq_inlv (y2 := 16) (as := []) rfl rfl rfl j9 rfl ?_
  show wq 16 0 [(0, .ref 60)] [] h8 0 0 _
  refine wq_gos (f := 1) (pc2 := 1) (ls2 := [(0, .ref 60)]) (st2 := [.ref 60]) (h2 := h8) (dc2 := 0) (ds2 := 0) 1 rfl ?_
  refine wq_getf rfl j9 rfl rfl ?_
  refine wq_gos (f := 1) (pc2 := 15) (ls2 := [(0, .ref 60)]) (st2 := [.int 0]) (h2 := h8) (dc2 := 0) (ds2 := 0) 3 rfl ?_
  refine wq_ret rfl rfl ?_
  show wq 17 16 [(0, .ref 60), (1, .int (nI K))] [.int 0] h8 0 0 _
  refine wq_gos (f := 1) (pc2 := 24) (ls2 := [(0, .ref 60), (1, .int (nI K))]) (st2 := [.int 1]) (h2 := h8) (dc2 := 0) (ds2 := 0) 3 rfl ?_
  refine wq_ret rfl rfl ?_
  show wq 114 17 [(3, .ref 60), (0, .ref 0), (1, .int (nI K)), (2, .int 5)] [.int 1] h8 d s _
  refine wq_gos (f := 1) (pc2 := 26) (ls2 := [(3, .ref 60), (0, .ref 0), (1, .int (nI K)), (2, .int 5)]) (st2 := [.ref 60]) (h2 := h8) (dc2 := d) (ds2 := s) 2 rfl ?_
  refine wq_getf rfl j9 rfl rfl ?_
  refine wq_gos (f := 1) (pc2 := 30) (ls2 := [(3, .ref 60), (0, .ref 0), (1, .int (nI K)), (2, .int 5)]) (st2 := [.int (nI K), .ref rL2]) (h2 := h8) (dc2 := d) (ds2 := s) 1 rfl ?_
  refine wq_laldn rfl j11 (by omega) (by omega) rfl ?_
  refine wq_vl (j15 K hK) ?_
  refine wq_gos (f := 1) (pc2 := 32) (ls2 := [(3, .ref 60), (0, .ref 0), (1, .int (nI K)), (2, .int 5)]) (st2 := [.int 5, .long (so0.getD K 0)]) (h2 := h8) (dc2 := d) (ds2 := s) 1 rfl ?_
  refine wq_inl (y2 := 33) (as := [.long (so0.getD K 0), .int 5]) rfl rfl rfl (wq_T (c_num_5 (so0.getD K 0) h8) ?_)
  show wq 114 35 [(3, .ref 60), (0, .ref 0), (1, .int (nI K)), (2, .int 5)] [.int (jnum (so0.getD K 0) 0)] h8 d s _
  exact wq_ret rfl rfl ⟨h8, d, s, rfl, (wFr_tr (wFr_rf _ _) (wFr_sub f8 (by simp))), by omega, by omega⟩
set_option maxRecDepth 100000 in
set_option maxHeartbeats 4000000 in
theorem m_o13g5 {h : zH} {fs : List Value} {K : Nat} (hM : zat h 162 = some (.inr (.inr (.inr (10, fs))))) (hC : mC fs) (c166 : zat h 166 = some (.inl (0, 14, [9, 4, 10, 2, 0, 0, 0, 9, 4, 10, 2, 0, 0, 0]))) (c168 : zat h 168 = some (.inl (0, 12, [0, (-32), (-32), (-32), (-32), (-64), 0, (-32), (-32), (-32), (-32), (-64)]))) (c170 : zat h 170 = some (.inl (0, 12, [99, 31, 31, 31, 31, 63, 99, 31, 31, 31, 31, 63]))) (c190 : zat h 190 = some (.inl (0, 6, [22000000, 0, 10000, 0, 0, 0]))) (c196 : zat h 196 = some (.inr (.inl (6000, [])))) (c200 : zat h 200 = some (.inl (0, 4096, []))) (c202 : zat h 202 = some (.inl (0, 4096, []))) (c204 : zat h 204 = some (.inl (0, 6, []))) (h33 : fs[33]? = some (.int 0)) (h27 : fs[27]? = some (.int 0)) (hK : K < 264) : wq 231 0 [(0, .ref 162), (1, .int (nI K)), (2, .int 5)] [] h 0 0 (fun r => ∃ h2, r = (some (.int (jnum (so0.getD K 0) 0)), h2, 0, 0)) := by
  have q1 := nI_toInt (n := K) (by omega)
  have e_0 : (0 : Int32).toInt = 0 := rfl
  have e6 : (6 : Int32).toInt = 6 := rfl
  have e264 : (264 : Int32).toInt = 264 := rfl
  refine wq_gos (f := 1) (pc2 := 2) (ls2 := [(0, .ref 162), (1, .int (nI K)), (2, .int 5)]) (st2 := [.int 0, .ref 162]) (h2 := h) (dc2 := 0) (ds2 := 0) 2 rfl ?_
  refine wq_putf rfl hM rfl (by rw [hC.1]; rfl) rfl ?_
  intro h1x e2x f3x l4x
  obtain ⟨fs5x, hf6x⟩ : ∃ x, x = fs.set 0 (.int 0) := ⟨_, rfl⟩
  rw [← hf6x] at e2x
  have hC7x : mC fs5x := by rw [hf6x]; exact mC_set hC (by decide) _
  have p8x : fs5x[33]? = some (.int 0) := by rw [hf6x, List.getElem?_set_ne (by decide)]; exact h33
  have p9x : fs5x[27]? = some (.int 0) := by rw [hf6x, List.getElem?_set_ne (by decide)]; exact h27
  have p10x : fs5x[0]? = some (.int 0) := by rw [hf6x]; exact List.getElem?_set_self (by rw [hC.1]; decide)
  refine wq_gos (f := 1) (pc2 := 6) (ls2 := [(0, .ref 162), (1, .int (nI K)), (2, .int 5)]) (st2 := [.int 5]) (h2 := h1x) (dc2 := 0) (ds2 := 0) 1 rfl ?_
  refine wq_inl (y2 := 208) (as := [.int 5]) rfl rfl rfl ?_
  show wq 208 0 [(0, .int 5)] [] h1x 0 0 _
  refine wq_gos (f := 1) (pc2 := 15) (ls2 := [(0, .int 5)]) (st2 := [.int 1]) (h2 := h1x) (dc2 := 0) (ds2 := 0) 7 rfl ?_
  refine wq_ret rfl rfl ?_
  show wq 231 9 [(0, .ref 162), (1, .int (nI K)), (2, .int 5)] [.int 1] h1x 0 0 _
  refine wq_gos (f := 1) (pc2 := 14) (ls2 := [(0, .ref 162), (1, .int (nI K)), (2, .int 5)]) (st2 := [.int (nI K), .ref 162]) (h2 := h1x) (dc2 := 0) (ds2 := 0) 3 rfl ?_
  refine wq_inlv (y2 := 230) (as := [.int (nI K)]) rfl rfl rfl e2x rfl ?_
  show wq 230 0 [(0, .ref 162), (1, .int (nI K))] [] h1x 0 0 _
  refine wq_gos (f := 1) (pc2 := 1) (ls2 := [(0, .ref 162), (1, .int (nI K))]) (st2 := [.ref 162]) (h2 := h1x) (dc2 := 0) (ds2 := 0) 1 rfl ?_
  have e11x := (f3x.2 _ _ (wnc (by decide) wn0) c166)
  have e12x := (f3x.2 _ _ (wnc (by decide) wn0) c168)
  have e13x := (f3x.2 _ _ (wnc (by decide) wn0) c170)
  have e14x := (f3x.2 _ _ (wnc (by decide) wn0) c190)
  have e15x := (f3x.2 _ _ (wnc (by decide) wn0) c196)
  have e16x := (f3x.2 _ _ (wnc (by decide) wn0) c200)
  have e17x := (f3x.2 _ _ (wnc (by decide) wn0) c202)
  have e18x := (f3x.2 _ _ (wnc (by decide) wn0) c204)
  refine wq_inlv (y2 := 227) (as := []) rfl rfl rfl e2x rfl (wq_mono (m_aim0 e2x hC7x e11x e12x e13x e14x e15x e16x e17x e18x p8x p9x) ?_)
  rintro _ ⟨h8, fs8, fo8, rfl, f8, hM8, hC8, h328, h398, h278, hF8, hfo⟩
  show wq 230 4 [(0, .ref 162), (1, .int (nI K))] [] h8 0 0 _
  refine wq_gos (f := 1) (pc2 := 5) (ls2 := [(0, .ref 162), (1, .int (nI K))]) (st2 := [.int (nI K)]) (h2 := h8) (dc2 := 0) (ds2 := 0) 1 rfl ?_
  refine wq_lt0f rfl rfl (by omega) ?_
  refine wq_gos (f := 1) (pc2 := 10) (ls2 := [(0, .ref 162), (1, .int (nI K))]) (st2 := [.ref 162, .int (nI K)]) (h2 := h8) (dc2 := 0) (ds2 := 0) 2 rfl ?_
  refine wq_getf rfl hM8 h328 rfl ?_
  refine wq_ge2f rfl rfl (by omega) ?_
  refine wq_gos (f := 1) (pc2 := 21) (ls2 := [(0, .ref 162), (1, .int (nI K))]) (st2 := [.int 1]) (h2 := h8) (dc2 := 0) (ds2 := 0) 2 rfl ?_
  refine wq_ret rfl rfl ?_
  show wq 231 17 [(0, .ref 162), (1, .int (nI K)), (2, .int 5)] [.int 1] h8 0 0 _
  refine wq_gos (f := 1) (pc2 := 23) (ls2 := [(0, .ref 162), (1, .int (nI K)), (2, .int 5)]) (st2 := [.int (nI K), .ref 162, .ref 162]) (h2 := h8) (dc2 := 0) (ds2 := 0) 4 rfl ?_
  refine wq_inlv (y2 := 228) (as := [.int (nI K)]) rfl rfl rfl hM8 rfl ?_
  show wq 228 0 [(0, .ref 162), (1, .int (nI K))] [] h8 0 0 _
  refine wq_gos (f := 1) (pc2 := 1) (ls2 := [(0, .ref 162), (1, .int (nI K))]) (st2 := [.ref 162]) (h2 := h8) (dc2 := 0) (ds2 := 0) 1 rfl ?_
  refine wq_getf rfl hM8 (hC8.2 (30, 196) (by decide)) rfl ?_
  refine wq_gos (f := 1) (pc2 := 9) (ls2 := [(0, .ref 162), (1, .int (nI K))]) (st2 := [.int ((4800 : Int32) + (nI K)), .ref 196]) (h2 := h8) (dc2 := 0) (ds2 := 0) 3 rfl ?_
  refine wq_vi (show (4800 : Int32) + nI K = nI (4800 + K) from nI_add 4800 K) ?_
  refine wq_laldn rfl hF8 (by omega) (by decide) rfl ?_
  refine wq_vl (hfo K hK) ?_
  refine wq_ret rfl rfl ?_
  show wq 231 26 [(0, .ref 162), (1, .int (nI K)), (2, .int 5)] [.long (ml0.getD K 0), .ref 162] h8 0 0 _
  refine wq_gos (f := 1) (pc2 := 27) (ls2 := [(0, .ref 162), (1, .int (nI K)), (2, .int 5)]) (st2 := [.int 5, .long (ml0.getD K 0), .ref 162]) (h2 := h8) (dc2 := 0) (ds2 := 0) 1 rfl ?_
  refine wq_inlv (y2 := 220) (as := [.long (ml0.getD K 0), .int 5]) rfl rfl rfl hM8 rfl (wq_T (m_jo5 (ml0.getD K 0) h8) ?_)
  show wq 231 30 [(0, .ref 162), (1, .int (nI K)), (2, .int 5)] [.int (mjo5 (ml0.getD K 0))] h8 0 0 _
  refine wq_gos (f := 1) (pc2 := 35) (ls2 := [(0, .ref 162), (1, .int (nI K)), (2, .int 5)]) (st2 := [.int (mjo5 (ml0.getD K 0))]) (h2 := h8) (dc2 := 0) (ds2 := 0) 1 rfl ?_
  have hv9 : (jnum (so0.getD K 0) 0) = (mjo5 (ml0.getD K 0)) := jo5 hK
  rw [hv9]
  exact wq_ret rfl rfl ⟨h8, rfl⟩
set_option maxRecDepth 100000 in
set_option maxHeartbeats 4000000 in
theorem c_o18g {h : zH} {K : Nat} (c0 : zat h 0 = some (.inr (.inr (.inr (9, [.ref 2, .int 0, .ref 4, .ref 6, .ref 20, .long 70644700037184, .ref 34, .ref 36, .int 0, .long 0, .ref 42, .ref 44, .ref 60, .ref 66, .ref 72, .ref 74, .ref 150, .ref 158]))))) (c6 : zat h 6 = some (.inr (.inr (.inr (0, [.int 9, .int 4, .int 10, .int 2, .int 0, .long 70644700037184, .ref 8, .ref 10, .ref 12, .int 0, .ref 14, .ref 16, .int 0, .ref 18]))))) (c8 : zat h 8 = some (.inl (0, 6, [0, (-32), (-32), (-32), (-32), (-64)]))) (c10 : zat h 10 = some (.inl (0, 6, [99, 31, 31, 31, 31, 63]))) (c34 : zat h 34 = some (.inl (0, 6, [22000000, 0, 10000, 0, 0, 0]))) (c44 : zat h 44 = some (.inr (.inr (.inr (7, [.null, .null, .ref 46, .int 0, .ref 48, .ref 50, .ref 52, .ref 54, .ref 56, .ref 58]))))) (c46 : zat h 46 = some (.inl (0, 6, []))) (c48 : zat h 48 = some (.inl (0, 128, []))) (c50 : zat h 50 = some (.inl (0, 128, []))) (c52 : zat h 52 = some (.inl (0, 128, []))) (c54 : zat h 54 = some (.inl (0, 128, []))) (c56 : zat h 56 = some (.inl (0, 101, []))) (c58 : zat h 58 = some (.inr (.inl (16, [])))) (c60 : zat h 60 = some (.inr (.inr (.inr (1, [.int 0, .int 0, .ref 62, .ref 64, .int 0, .int 0]))))) (c62 : zat h 62 = some (.inr (.inl (16, [])))) (c64 : zat h 64 = some (.inl (0, 6, []))) (c36 : zat h 36 = some (.inr (.inr (.inr (2, [.int 0, .int 0, .ref 38, .ref 40]))))) (c38 : zat h 38 = some (.inr (.inl (20, [])))) (c40 : zat h 40 = some (.inl (0, 120, []))) (hlen : 117 ≤ h.length) (hK : K < 264) : wq 119 0 [(0, .ref 0), (1, .int (nI K))] [] h 0 0 (fun r => ∃ (h2 : zH) (d s : Nat), r = (some (.int 1), h2, d, s) ∧ wFr [0, 36, 38, 40, 62, 60, 64, 44, 46, 48, 50, 52, 54, 56, 58] h h2 ∧ d ≤ 1200 ∧ s ≤ 720000) := by
  have q1 := nI_toInt (n := K) (by omega)
  have e_0 : (0 : Int32).toInt = 0 := rfl
  have e6 : (6 : Int32).toInt = 6 := rfl
  have e264 : (264 : Int32).toInt = 264 := rfl
  refine wq_gos (f := 1) (pc2 := 1) (ls2 := [(0, .ref 0), (1, .int (nI K))]) (st2 := [.ref 0]) (h2 := h) (dc2 := 0) (ds2 := 0) 1 rfl ?_
  refine wq_inlv (y2 := 148) (as := []) rfl rfl rfl c0 rfl (wq_mono (c_held0 c0 c6 c8 c10 c34 c44 c46 c48 c50 c52 c54 c56 c58 c60 c62 c64 hlen) ?_)
  rintro _ ⟨h8, rL2, cap2, ks2, fa2, li2, d, s, rfl, f8, j9, j11, j15, j14⟩
  show wq 119 4 [(0, .ref 0), (1, .int (nI K))] [.ref 60] h8 (0 + d) (0 + s) _
  rw [Nat.zero_add, Nat.zero_add]
  refine wq_gos (f := 1) (pc2 := 7) (ls2 := [(2, .ref 60), (0, .ref 0), (1, .int (nI K))]) (st2 := [.int (nI K), .ref 60]) (h2 := h8) (dc2 := d) (ds2 := s) 3 rfl ?_
  refine wq_inlv (y2 := 17) (as := [.int (nI K)]) rfl rfl rfl j9 rfl ?_
  show wq 17 0 [(0, .ref 60), (1, .int (nI K))] [] h8 0 0 _
  refine wq_gos (f := 1) (pc2 := 1) (ls2 := [(0, .ref 60), (1, .int (nI K))]) (st2 := [.int (nI K)]) (h2 := h8) (dc2 := 0) (ds2 := 0) 1 rfl ?_
  refine wq_lt0f rfl rfl (by omega) ?_
  refine wq_gos (f := 1) (pc2 := 6) (ls2 := [(0, .ref 60), (1, .int (nI K))]) (st2 := [.ref 60, .int (nI K)]) (h2 := h8) (dc2 := 0) (ds2 := 0) 2 rfl ?_
  refine wq_getf rfl j9 rfl rfl ?_
  refine wq_ge2f rfl rfl (by omega) ?_
  refine wq_gos (f := 1) (pc2 := 13) (ls2 := [(0, .ref 60), (1, .int (nI K))]) (st2 := [.ref 60]) (h2 := h8) (dc2 := 0) (ds2 := 0) 1 rfl ?_
  refine wq_inlv (y2 := 16) (as := []) rfl rfl rfl j9 rfl ?_
  show wq 16 0 [(0, .ref 60)] [] h8 0 0 _
  refine wq_gos (f := 1) (pc2 := 1) (ls2 := [(0, .ref 60)]) (st2 := [.ref 60]) (h2 := h8) (dc2 := 0) (ds2 := 0) 1 rfl ?_
  refine wq_getf rfl j9 rfl rfl ?_
  refine wq_gos (f := 1) (pc2 := 15) (ls2 := [(0, .ref 60)]) (st2 := [.int 0]) (h2 := h8) (dc2 := 0) (ds2 := 0) 3 rfl ?_
  refine wq_ret rfl rfl ?_
  show wq 17 16 [(0, .ref 60), (1, .int (nI K))] [.int 0] h8 0 0 _
  refine wq_gos (f := 1) (pc2 := 24) (ls2 := [(0, .ref 60), (1, .int (nI K))]) (st2 := [.int 1]) (h2 := h8) (dc2 := 0) (ds2 := 0) 3 rfl ?_
  refine wq_ret rfl rfl ?_
  show wq 119 10 [(2, .ref 60), (0, .ref 0), (1, .int (nI K))] [.int 1] h8 d s _
  refine wq_gos (f := 1) (pc2 := 16) (ls2 := [(2, .ref 60), (0, .ref 0), (1, .int (nI K))]) (st2 := [.ref 0]) (h2 := h8) (dc2 := d) (ds2 := s) 2 rfl ?_
  have e1x := (f8.2 _ _ (wnc (by decide) (wnc (by decide) (wnc (by decide) (wnc (by decide) (wnc (by decide) (wnc (by decide) (wnc (by decide) (wnc (by decide) (wnc (by decide) (wnc (by decide) (wnc (by decide) wn0))))))))))) c0)
  refine wq_getf rfl e1x rfl rfl ?_
  refine wq_gos (f := 1) (pc2 := 20) (ls2 := [(2, .ref 60), (0, .ref 0), (1, .int (nI K))]) (st2 := [.ref 0, .ref 36]) (h2 := h8) (dc2 := d) (ds2 := s) 1 rfl ?_
  refine wq_getf rfl e1x rfl rfl ?_
  refine wq_gos (f := 1) (pc2 := 24) (ls2 := [(2, .ref 60), (0, .ref 0), (1, .int (nI K))]) (st2 := [.ref 0, .long 70644700037184, .ref 36]) (h2 := h8) (dc2 := d) (ds2 := s) 1 rfl ?_
  refine wq_getf rfl e1x rfl rfl ?_
  have e2x := (f8.2 _ _ (wnc (by decide) (wnc (by decide) (wnc (by decide) (wnc (by decide) (wnc (by decide) (wnc (by decide) (wnc (by decide) (wnc (by decide) (wnc (by decide) (wnc (by decide) (wnc (by decide) wn0))))))))))) c36)
  refine wq_inlv (y2 := 23) (as := [.long 70644700037184, .ref 34]) rfl rfl rfl e2x rfl ?_
  show wq 23 0 [(0, .ref 36), (1, .long 70644700037184), (3, .ref 34)] [] h8 0 0 _
  refine wq_gos (f := 1) (pc2 := 1) (ls2 := [(0, .ref 36), (1, .long 70644700037184), (3, .ref 34)]) (st2 := [.ref 36]) (h2 := h8) (dc2 := 0) (ds2 := 0) 1 rfl ?_
  refine wq_getf rfl e2x rfl rfl ?_
  refine wq_gos (f := 1) (pc2 := 5) (ls2 := [(0, .ref 36), (1, .long 70644700037184), (3, .ref 34)]) (st2 := [.ref 36, .ref 38]) (h2 := h8) (dc2 := 0) (ds2 := 0) 1 rfl ?_
  refine wq_getf rfl e2x rfl rfl ?_
  refine wq_gos (f := 1) (pc2 := 9) (ls2 := [(0, .ref 36), (1, .long 70644700037184), (3, .ref 34)]) (st2 := [.long 70644700037184, .int 0, .ref 38]) (h2 := h8) (dc2 := 0) (ds2 := 0) 1 rfl ?_
  have e3x := (f8.2 _ _ (wnc (by decide) (wnc (by decide) (wnc (by decide) (wnc (by decide) (wnc (by decide) (wnc (by decide) (wnc (by decide) (wnc (by decide) (wnc (by decide) (wnc (by decide) (wnc (by decide) wn0))))))))))) c38)
  refine wq_last rfl e3x rfl rfl ?_
  intro h4x e5x f6x l7x
  have e5x : zat h4x 38 = some (.inr (.inl (20, (zset 0 [] 0 (70644700037184 : Int64))))) := e5x
  refine wq_gos (f := 1) (pc2 := 13) (ls2 := [(0, .ref 36), (1, .long 70644700037184), (3, .ref 34)]) (st2 := [.ref 36, .int 0, .ref 34]) (h2 := h4x) (dc2 := 0) (ds2 := 0) 3 rfl ?_
  have e8x := (f6x.2 _ _ (wnc (by decide) wn0) e2x)
  refine wq_getf rfl e8x rfl rfl ?_
  refine wq_gos (f := 1) (pc2 := 17) (ls2 := [(0, .ref 36), (1, .long 70644700037184), (3, .ref 34)]) (st2 := [.ref 36, .ref 40, .int 0, .ref 34]) (h2 := h4x) (dc2 := 0) (ds2 := 0) 1 rfl ?_
  refine wq_getf rfl e8x rfl rfl ?_
  refine wq_gos (f := 1) (pc2 := 25) (ls2 := [(0, .ref 36), (1, .long 70644700037184), (3, .ref 34)]) (st2 := [.int 6, .int 0, .ref 40, .int 0, .ref 34]) (h2 := h4x) (dc2 := 0) (ds2 := 0) 3 rfl ?_
  have e9x := (f6x.2 _ _ (wnc (by decide) wn0) (f8.2 _ _ (wnc (by decide) (wnc (by decide) (wnc (by decide) (wnc (by decide) (wnc (by decide) (wnc (by decide) (wnc (by decide) (wnc (by decide) (wnc (by decide) (wnc (by decide) (wnc (by decide) wn0))))))))))) c40))
  have e10x := (f6x.2 _ _ (wnc (by decide) wn0) (f8.2 _ _ (wnc (by decide) (wnc (by decide) (wnc (by decide) (wnc (by decide) (wnc (by decide) (wnc (by decide) (wnc (by decide) (wnc (by decide) (wnc (by decide) (wnc (by decide) (wnc (by decide) wn0))))))))))) c34))
  refine wq_cpi rfl e10x e9x (by decide) (by decide) (by decide) (by decide) (by decide) rfl ?_
  intro h11x e12x f13x l14x
  have e12x : zat h11x 40 = some (.inl (0, 120, (zcpy 0 [22000000, 0, 10000, 0, 0, 0] [] 0 0 6))) := e12x
  refine wq_gos (f := 1) (pc2 := 30) (ls2 := [(0, .ref 36), (1, .long 70644700037184), (3, .ref 34)]) (st2 := [.ref 36, .ref 36]) (h2 := h11x) (dc2 := 0) (ds2 := 0) 2 rfl ?_
  have e15x := (f13x.2 _ _ (wnc (by decide) wn0) e8x)
  refine wq_getf rfl e15x rfl rfl ?_
  refine wq_gos (f := 1) (pc2 := 45) (ls2 := [(0, .ref 36), (1, .long 70644700037184), (3, .ref 34)]) (st2 := [.ref 36, .ref 36]) (h2 := h11x) (dc2 := 0) (ds2 := 0) 5 rfl ?_
  refine wq_getf rfl e15x rfl rfl ?_
  refine wq_gos (f := 1) (pc2 := 50) (ls2 := [(0, .ref 36), (1, .long 70644700037184), (3, .ref 34)]) (st2 := [.int 1, .ref 36]) (h2 := h11x) (dc2 := 0) (ds2 := 0) 2 rfl ?_
  refine wq_putf rfl e15x rfl rfl rfl ?_
  intro h16x e17x f18x l19x
  have e17x : zat h16x 36 = some (.inr (.inr (.inr (2, [.int 0, .int 1, .ref 38, .ref 40])))) := e17x
  refine wq_gos (f := 1) (pc2 := 55) (ls2 := [(0, .ref 36), (1, .long 70644700037184), (3, .ref 34)]) (st2 := [.ref 36, .ref 36]) (h2 := h16x) (dc2 := 0) (ds2 := 0) 2 rfl ?_
  refine wq_getf rfl e17x rfl rfl ?_
  refine wq_gos (f := 1) (pc2 := 62) (ls2 := [(0, .ref 36), (1, .long 70644700037184), (3, .ref 34)]) (st2 := [.int 20, .int 1, .ref 36]) (h2 := h16x) (dc2 := 0) (ds2 := 0) 3 rfl ?_
  refine wq_inl (y2 := 285) (as := [.int 1, .int 20]) rfl rfl rfl (wq_T (c_min (1 : Int32) (20 : Int32) h16x) ?_)
  show wq 23 65 [(0, .ref 36), (1, .long 70644700037184), (3, .ref 34)] [.int (jmin (1 : Int32) (20 : Int32)), .ref 36] h16x 0 0 _
  refine wq_putf rfl e17x rfl rfl rfl ?_
  intro h20x e21x f22x l23x
  have e21x : zat h20x 36 = some (.inr (.inr (.inr (2, [.int (jmin (1 : Int32) (20 : Int32)), .int 1, .ref 38, .ref 40])))) := e21x
  refine wq_ret rfl rfl ?_
  show wq 119 30 [(2, .ref 60), (0, .ref 0), (1, .int (nI K))] [] h20x d s _
  refine wq_gos (f := 1) (pc2 := 32) (ls2 := [(2, .ref 60), (0, .ref 0), (1, .int (nI K))]) (st2 := [.ref 60, .ref 0]) (h2 := h20x) (dc2 := d) (ds2 := s) 2 rfl ?_
  have e24x := (f22x.2 _ _ (wnc (by decide) wn0) (f18x.2 _ _ (wnc (by decide) wn0) (f13x.2 _ _ (wnc (by decide) wn0) (f6x.2 _ _ (wnc (by decide) wn0) j9))))
  refine wq_getf rfl e24x rfl rfl ?_
  refine wq_gos (f := 1) (pc2 := 36) (ls2 := [(2, .ref 60), (0, .ref 0), (1, .int (nI K))]) (st2 := [.int (nI K), .ref rL2, .ref 0]) (h2 := h20x) (dc2 := d) (ds2 := s) 1 rfl ?_
  have e25x := (f22x.2 _ _ (wnc (by omega) wn0) (f18x.2 _ _ (wnc (by omega) wn0) (f13x.2 _ _ (wnc (by omega) wn0) (f6x.2 _ _ (wnc (by omega) wn0) j11))))
  refine wq_laldn rfl e25x (by omega) (by omega) rfl ?_
  have e26x := (f22x.2 _ _ (wnc (by decide) wn0) (f18x.2 _ _ (wnc (by decide) wn0) (f13x.2 _ _ (wnc (by decide) wn0) (f6x.2 _ _ (wnc (by decide) wn0) e1x))))
  refine wq_putf rfl e26x rfl rfl rfl ?_
  intro h27x e28x f29x l30x
  have e28x : zat h27x 0 = some (.inr (.inr (.inr (9, [.ref 2, .int 0, .ref 4, .ref 6, .ref 20, .long (li2.getD K 0), .ref 34, .ref 36, .int 0, .long 0, .ref 42, .ref 44, .ref 60, .ref 66, .ref 72, .ref 74, .ref 150, .ref 158])))) := e28x
  refine wq_gos (f := 1) (pc2 := 41) (ls2 := [(2, .ref 60), (0, .ref 0), (1, .int (nI K))]) (st2 := [.int 1]) (h2 := h27x) (dc2 := d) (ds2 := s) 1 rfl ?_
  exact wq_ret rfl rfl ⟨h27x, d, s, rfl, (wFr_tr (wFr_tr (wFr_tr (wFr_tr (wFr_tr (wFr_tr (wFr_rf _ _) (wFr_sub f8 (by simp))) (wFr_sub f6x (by simp))) (wFr_sub f13x (by simp))) (wFr_sub f18x (by simp))) (wFr_sub f22x (by simp))) (wFr_sub f29x (by simp))), by omega, by omega⟩
set_option maxRecDepth 100000 in
set_option maxHeartbeats 4000000 in
theorem m_o18g {h : zH} {fs : List Value} {K : Nat} (hM : zat h 162 = some (.inr (.inr (.inr (10, fs))))) (hC : mC fs) (c166 : zat h 166 = some (.inl (0, 14, [9, 4, 10, 2, 0, 0, 0, 9, 4, 10, 2, 0, 0, 0]))) (c168 : zat h 168 = some (.inl (0, 12, [0, (-32), (-32), (-32), (-32), (-64), 0, (-32), (-32), (-32), (-32), (-64)]))) (c170 : zat h 170 = some (.inl (0, 12, [99, 31, 31, 31, 31, 63, 99, 31, 31, 31, 31, 63]))) (c190 : zat h 190 = some (.inl (0, 6, [22000000, 0, 10000, 0, 0, 0]))) (c196 : zat h 196 = some (.inr (.inl (6000, [])))) (c200 : zat h 200 = some (.inl (0, 4096, []))) (c202 : zat h 202 = some (.inl (0, 4096, []))) (c204 : zat h 204 = some (.inl (0, 6, []))) (c188 : zat h 188 = some (.inl (0, 6, [0, 0, 0, 0, 0, 0]))) (c192 : zat h 192 = some (.inl (0, 252, []))) (c212 : zat h 212 = some (.inl (2, 2, [0, 0]))) (h33 : fs[33]? = some (.int 0)) (h27 : fs[27]? = some (.int 0)) (hK : K < 264) : wq 239 0 [(0, .ref 162), (1, .int (nI K))] [] h 0 0 (fun r => ∃ h2, r = (some (.int 1), h2, 0, 0)) := by
  have q1 := nI_toInt (n := K) (by omega)
  have e_0 : (0 : Int32).toInt = 0 := rfl
  have e6 : (6 : Int32).toInt = 6 := rfl
  have e264 : (264 : Int32).toInt = 264 := rfl
  refine wq_gos (f := 1) (pc2 := 2) (ls2 := [(0, .ref 162), (1, .int (nI K))]) (st2 := [.int 0, .ref 162]) (h2 := h) (dc2 := 0) (ds2 := 0) 2 rfl ?_
  refine wq_putf rfl hM rfl (by rw [hC.1]; rfl) rfl ?_
  intro h1x e2x f3x l4x
  obtain ⟨fs5x, hf6x⟩ : ∃ x, x = fs.set 0 (.int 0) := ⟨_, rfl⟩
  rw [← hf6x] at e2x
  have hC7x : mC fs5x := by rw [hf6x]; exact mC_set hC (by decide) _
  have p8x : fs5x[33]? = some (.int 0) := by rw [hf6x, List.getElem?_set_ne (by decide)]; exact h33
  have p9x : fs5x[27]? = some (.int 0) := by rw [hf6x, List.getElem?_set_ne (by decide)]; exact h27
  have p10x : fs5x[0]? = some (.int 0) := by rw [hf6x]; exact List.getElem?_set_self (by rw [hC.1]; decide)
  refine wq_gos (f := 1) (pc2 := 7) (ls2 := [(0, .ref 162), (1, .int (nI K))]) (st2 := [.int (nI K), .ref 162]) (h2 := h1x) (dc2 := 0) (ds2 := 0) 2 rfl ?_
  refine wq_inlv (y2 := 230) (as := [.int (nI K)]) rfl rfl rfl e2x rfl ?_
  show wq 230 0 [(0, .ref 162), (1, .int (nI K))] [] h1x 0 0 _
  refine wq_gos (f := 1) (pc2 := 1) (ls2 := [(0, .ref 162), (1, .int (nI K))]) (st2 := [.ref 162]) (h2 := h1x) (dc2 := 0) (ds2 := 0) 1 rfl ?_
  have e11x := (f3x.2 _ _ (wnc (by decide) wn0) c166)
  have e12x := (f3x.2 _ _ (wnc (by decide) wn0) c168)
  have e13x := (f3x.2 _ _ (wnc (by decide) wn0) c170)
  have e14x := (f3x.2 _ _ (wnc (by decide) wn0) c190)
  have e15x := (f3x.2 _ _ (wnc (by decide) wn0) c196)
  have e16x := (f3x.2 _ _ (wnc (by decide) wn0) c200)
  have e17x := (f3x.2 _ _ (wnc (by decide) wn0) c202)
  have e18x := (f3x.2 _ _ (wnc (by decide) wn0) c204)
  refine wq_inlv (y2 := 227) (as := []) rfl rfl rfl e2x rfl (wq_mono (m_aim0 e2x hC7x e11x e12x e13x e14x e15x e16x e17x e18x p8x p9x) ?_)
  rintro _ ⟨h8, fs8, fo8, rfl, f8, hM8, hC8, h328, h398, h278, hF8, hfo⟩
  show wq 230 4 [(0, .ref 162), (1, .int (nI K))] [] h8 0 0 _
  refine wq_gos (f := 1) (pc2 := 5) (ls2 := [(0, .ref 162), (1, .int (nI K))]) (st2 := [.int (nI K)]) (h2 := h8) (dc2 := 0) (ds2 := 0) 1 rfl ?_
  refine wq_lt0f rfl rfl (by omega) ?_
  refine wq_gos (f := 1) (pc2 := 10) (ls2 := [(0, .ref 162), (1, .int (nI K))]) (st2 := [.ref 162, .int (nI K)]) (h2 := h8) (dc2 := 0) (ds2 := 0) 2 rfl ?_
  refine wq_getf rfl hM8 h328 rfl ?_
  refine wq_ge2f rfl rfl (by omega) ?_
  refine wq_gos (f := 1) (pc2 := 21) (ls2 := [(0, .ref 162), (1, .int (nI K))]) (st2 := [.int 1]) (h2 := h8) (dc2 := 0) (ds2 := 0) 2 rfl ?_
  refine wq_ret rfl rfl ?_
  show wq 239 10 [(0, .ref 162), (1, .int (nI K))] [.int 1] h8 0 0 _
  refine wq_gos (f := 1) (pc2 := 16) (ls2 := [(0, .ref 162), (1, .int (nI K))]) (st2 := [.ref 162]) (h2 := h8) (dc2 := 0) (ds2 := 0) 2 rfl ?_
  refine wq_inlv (y2 := 191) (as := []) rfl rfl rfl hM8 rfl ?_
  show wq 191 0 [(0, .ref 162)] [] h8 0 0 _
  refine wq_gos (f := 1) (pc2 := 1) (ls2 := [(0, .ref 162)]) (st2 := [.ref 162]) (h2 := h8) (dc2 := 0) (ds2 := 0) 1 rfl ?_
  refine wq_getf rfl hM8 h278 rfl ?_
  refine wq_gos (f := 1) (pc2 := 51) (ls2 := [(0, .ref 162)]) (st2 := [.ref 162, .ref 162]) (h2 := h8) (dc2 := 0) (ds2 := 0) 4 rfl ?_
  refine wq_getf rfl hM8 h278 rfl ?_
  refine wq_inlv (y2 := 189) (as := [.int 0]) rfl rfl rfl hM8 rfl ?_
  show wq 189 0 [(0, .ref 162), (1, .int 0)] [] h8 0 0 _
  refine wq_gos (f := 1) (pc2 := 9) (ls2 := [(2, .int 0), (0, .ref 162), (1, .int 0)]) (st2 := [.ref 162]) (h2 := h8) (dc2 := 0) (ds2 := 0) 6 rfl ?_
  refine wq_getf rfl hM8 (hC8.2 (26, 192) (by decide)) rfl ?_
  refine wq_gos (f := 1) (pc2 := 19) (ls2 := [(2, .int 0), (0, .ref 162), (1, .int 0)]) (st2 := [.ref 162, .int 0, .ref 192]) (h2 := h8) (dc2 := 0) (ds2 := 0) 6 rfl ?_
  refine wq_getf rfl hM8 (hC8.2 (24, 188) (by decide)) rfl ?_
  refine wq_gos (f := 1) (pc2 := 23) (ls2 := [(2, .int 0), (0, .ref 162), (1, .int 0)]) (st2 := [.int 0, .ref 188, .int 0, .ref 192]) (h2 := h8) (dc2 := 0) (ds2 := 0) 1 rfl ?_
  have e19x := (f8.2 _ _ (wnc (by decide) (wnc (by decide) (wnc (by decide) (wnc (by decide) (wnc (by decide) wn0))))) (f3x.2 _ _ (wnc (by decide) wn0) c188))
  refine wq_ialdk (k := 0) rfl e19x rfl rfl rfl ?_
  have e20x := (f8.2 _ _ (wnc (by decide) (wnc (by decide) (wnc (by decide) (wnc (by decide) (wnc (by decide) wn0))))) (f3x.2 _ _ (wnc (by decide) wn0) c192))
  refine wq_iast rfl e20x rfl rfl ?_
  intro h21x e22x f23x l24x
  have e22x : zat h21x 192 = some (.inl (0, 252, (zset 0 [] 0 (0 : Int32)))) := e22x
  refine wq_gos (f := 1) (pc2 := 26) (ls2 := [(2, .int 0), (0, .ref 162), (1, .int 0)]) (st2 := [.ref 162]) (h2 := h21x) (dc2 := 0) (ds2 := 0) 1 rfl ?_
  have e25x := (f23x.2 _ _ (wnc (by decide) wn0) hM8)
  refine wq_getf rfl e25x (hC8.2 (26, 192) (by decide)) rfl ?_
  refine wq_gos (f := 1) (pc2 := 39) (ls2 := [(2, .int 0), (0, .ref 162), (1, .int 0)]) (st2 := [.ref 162, .int 6, .ref 192]) (h2 := h21x) (dc2 := 0) (ds2 := 0) 8 rfl ?_
  refine wq_getf rfl e25x (hC8.2 (25, 190) (by decide)) rfl ?_
  refine wq_gos (f := 1) (pc2 := 43) (ls2 := [(2, .int 0), (0, .ref 162), (1, .int 0)]) (st2 := [.int 0, .ref 190, .int 6, .ref 192]) (h2 := h21x) (dc2 := 0) (ds2 := 0) 1 rfl ?_
  have e26x := (f23x.2 _ _ (wnc (by decide) wn0) (f8.2 _ _ (wnc (by decide) (wnc (by decide) (wnc (by decide) (wnc (by decide) (wnc (by decide) wn0))))) e14x))
  refine wq_ialdk (k := 0) rfl e26x rfl rfl rfl ?_
  refine wq_iast rfl e22x rfl rfl ?_
  intro h27x e28x f29x l30x
  have e28x : zat h27x 192 = some (.inl (0, 252, (zset 0 (zset 0 [] 0 (0 : Int32)) 6 (22000000 : Int32)))) := e28x
  refine wq_gos (f := 1) (pc2 := 9) (ls2 := [(2, .int 1), (0, .ref 162), (1, .int 0)]) (st2 := [.ref 162]) (h2 := h27x) (dc2 := 0) (ds2 := 0) 6 rfl ?_
  have e31x := (f29x.2 _ _ (wnc (by decide) wn0) e25x)
  refine wq_getf rfl e31x (hC8.2 (26, 192) (by decide)) rfl ?_
  refine wq_gos (f := 1) (pc2 := 19) (ls2 := [(2, .int 1), (0, .ref 162), (1, .int 0)]) (st2 := [.ref 162, .int 1, .ref 192]) (h2 := h27x) (dc2 := 0) (ds2 := 0) 6 rfl ?_
  refine wq_getf rfl e31x (hC8.2 (24, 188) (by decide)) rfl ?_
  refine wq_gos (f := 1) (pc2 := 23) (ls2 := [(2, .int 1), (0, .ref 162), (1, .int 0)]) (st2 := [.int 1, .ref 188, .int 1, .ref 192]) (h2 := h27x) (dc2 := 0) (ds2 := 0) 1 rfl ?_
  have e32x := (f29x.2 _ _ (wnc (by decide) wn0) (f23x.2 _ _ (wnc (by decide) wn0) e19x))
  refine wq_ialdk (k := 1) rfl e32x rfl rfl rfl ?_
  refine wq_iast rfl e28x rfl rfl ?_
  intro h33x e34x f35x l36x
  have e34x : zat h33x 192 = some (.inl (0, 252, (zset 0 (zset 0 (zset 0 [] 0 (0 : Int32)) 6 (22000000 : Int32)) 1 (0 : Int32)))) := e34x
  refine wq_gos (f := 1) (pc2 := 26) (ls2 := [(2, .int 1), (0, .ref 162), (1, .int 0)]) (st2 := [.ref 162]) (h2 := h33x) (dc2 := 0) (ds2 := 0) 1 rfl ?_
  have e37x := (f35x.2 _ _ (wnc (by decide) wn0) e31x)
  refine wq_getf rfl e37x (hC8.2 (26, 192) (by decide)) rfl ?_
  refine wq_gos (f := 1) (pc2 := 39) (ls2 := [(2, .int 1), (0, .ref 162), (1, .int 0)]) (st2 := [.ref 162, .int 7, .ref 192]) (h2 := h33x) (dc2 := 0) (ds2 := 0) 8 rfl ?_
  refine wq_getf rfl e37x (hC8.2 (25, 190) (by decide)) rfl ?_
  refine wq_gos (f := 1) (pc2 := 43) (ls2 := [(2, .int 1), (0, .ref 162), (1, .int 0)]) (st2 := [.int 1, .ref 190, .int 7, .ref 192]) (h2 := h33x) (dc2 := 0) (ds2 := 0) 1 rfl ?_
  have e38x := (f35x.2 _ _ (wnc (by decide) wn0) (f29x.2 _ _ (wnc (by decide) wn0) e26x))
  refine wq_ialdk (k := 1) rfl e38x rfl rfl rfl ?_
  refine wq_iast rfl e34x rfl rfl ?_
  intro h39x e40x f41x l42x
  have e40x : zat h39x 192 = some (.inl (0, 252, (zset 0 (zset 0 (zset 0 (zset 0 [] 0 (0 : Int32)) 6 (22000000 : Int32)) 1 (0 : Int32)) 7 (0 : Int32)))) := e40x
  refine wq_gos (f := 1) (pc2 := 9) (ls2 := [(2, .int 2), (0, .ref 162), (1, .int 0)]) (st2 := [.ref 162]) (h2 := h39x) (dc2 := 0) (ds2 := 0) 6 rfl ?_
  have e43x := (f41x.2 _ _ (wnc (by decide) wn0) e37x)
  refine wq_getf rfl e43x (hC8.2 (26, 192) (by decide)) rfl ?_
  refine wq_gos (f := 1) (pc2 := 19) (ls2 := [(2, .int 2), (0, .ref 162), (1, .int 0)]) (st2 := [.ref 162, .int 2, .ref 192]) (h2 := h39x) (dc2 := 0) (ds2 := 0) 6 rfl ?_
  refine wq_getf rfl e43x (hC8.2 (24, 188) (by decide)) rfl ?_
  refine wq_gos (f := 1) (pc2 := 23) (ls2 := [(2, .int 2), (0, .ref 162), (1, .int 0)]) (st2 := [.int 2, .ref 188, .int 2, .ref 192]) (h2 := h39x) (dc2 := 0) (ds2 := 0) 1 rfl ?_
  have e44x := (f41x.2 _ _ (wnc (by decide) wn0) (f35x.2 _ _ (wnc (by decide) wn0) e32x))
  refine wq_ialdk (k := 2) rfl e44x rfl rfl rfl ?_
  refine wq_iast rfl e40x rfl rfl ?_
  intro h45x e46x f47x l48x
  have e46x : zat h45x 192 = some (.inl (0, 252, (zset 0 (zset 0 (zset 0 (zset 0 (zset 0 [] 0 (0 : Int32)) 6 (22000000 : Int32)) 1 (0 : Int32)) 7 (0 : Int32)) 2 (0 : Int32)))) := e46x
  refine wq_gos (f := 1) (pc2 := 26) (ls2 := [(2, .int 2), (0, .ref 162), (1, .int 0)]) (st2 := [.ref 162]) (h2 := h45x) (dc2 := 0) (ds2 := 0) 1 rfl ?_
  have e49x := (f47x.2 _ _ (wnc (by decide) wn0) e43x)
  refine wq_getf rfl e49x (hC8.2 (26, 192) (by decide)) rfl ?_
  refine wq_gos (f := 1) (pc2 := 39) (ls2 := [(2, .int 2), (0, .ref 162), (1, .int 0)]) (st2 := [.ref 162, .int 8, .ref 192]) (h2 := h45x) (dc2 := 0) (ds2 := 0) 8 rfl ?_
  refine wq_getf rfl e49x (hC8.2 (25, 190) (by decide)) rfl ?_
  refine wq_gos (f := 1) (pc2 := 43) (ls2 := [(2, .int 2), (0, .ref 162), (1, .int 0)]) (st2 := [.int 2, .ref 190, .int 8, .ref 192]) (h2 := h45x) (dc2 := 0) (ds2 := 0) 1 rfl ?_
  have e50x := (f47x.2 _ _ (wnc (by decide) wn0) (f41x.2 _ _ (wnc (by decide) wn0) e38x))
  refine wq_ialdk (k := 2) rfl e50x rfl rfl rfl ?_
  refine wq_iast rfl e46x rfl rfl ?_
  intro h51x e52x f53x l54x
  have e52x : zat h51x 192 = some (.inl (0, 252, (zset 0 (zset 0 (zset 0 (zset 0 (zset 0 (zset 0 [] 0 (0 : Int32)) 6 (22000000 : Int32)) 1 (0 : Int32)) 7 (0 : Int32)) 2 (0 : Int32)) 8 (10000 : Int32)))) := e52x
  refine wq_gos (f := 1) (pc2 := 9) (ls2 := [(2, .int 3), (0, .ref 162), (1, .int 0)]) (st2 := [.ref 162]) (h2 := h51x) (dc2 := 0) (ds2 := 0) 6 rfl ?_
  have e55x := (f53x.2 _ _ (wnc (by decide) wn0) e49x)
  refine wq_getf rfl e55x (hC8.2 (26, 192) (by decide)) rfl ?_
  refine wq_gos (f := 1) (pc2 := 19) (ls2 := [(2, .int 3), (0, .ref 162), (1, .int 0)]) (st2 := [.ref 162, .int 3, .ref 192]) (h2 := h51x) (dc2 := 0) (ds2 := 0) 6 rfl ?_
  refine wq_getf rfl e55x (hC8.2 (24, 188) (by decide)) rfl ?_
  refine wq_gos (f := 1) (pc2 := 23) (ls2 := [(2, .int 3), (0, .ref 162), (1, .int 0)]) (st2 := [.int 3, .ref 188, .int 3, .ref 192]) (h2 := h51x) (dc2 := 0) (ds2 := 0) 1 rfl ?_
  have e56x := (f53x.2 _ _ (wnc (by decide) wn0) (f47x.2 _ _ (wnc (by decide) wn0) e44x))
  refine wq_ialdk (k := 3) rfl e56x rfl rfl rfl ?_
  refine wq_iast rfl e52x rfl rfl ?_
  intro h57x e58x f59x l60x
  have e58x : zat h57x 192 = some (.inl (0, 252, (zset 0 (zset 0 (zset 0 (zset 0 (zset 0 (zset 0 (zset 0 [] 0 (0 : Int32)) 6 (22000000 : Int32)) 1 (0 : Int32)) 7 (0 : Int32)) 2 (0 : Int32)) 8 (10000 : Int32)) 3 (0 : Int32)))) := e58x
  refine wq_gos (f := 1) (pc2 := 26) (ls2 := [(2, .int 3), (0, .ref 162), (1, .int 0)]) (st2 := [.ref 162]) (h2 := h57x) (dc2 := 0) (ds2 := 0) 1 rfl ?_
  have e61x := (f59x.2 _ _ (wnc (by decide) wn0) e55x)
  refine wq_getf rfl e61x (hC8.2 (26, 192) (by decide)) rfl ?_
  refine wq_gos (f := 1) (pc2 := 39) (ls2 := [(2, .int 3), (0, .ref 162), (1, .int 0)]) (st2 := [.ref 162, .int 9, .ref 192]) (h2 := h57x) (dc2 := 0) (ds2 := 0) 8 rfl ?_
  refine wq_getf rfl e61x (hC8.2 (25, 190) (by decide)) rfl ?_
  refine wq_gos (f := 1) (pc2 := 43) (ls2 := [(2, .int 3), (0, .ref 162), (1, .int 0)]) (st2 := [.int 3, .ref 190, .int 9, .ref 192]) (h2 := h57x) (dc2 := 0) (ds2 := 0) 1 rfl ?_
  have e62x := (f59x.2 _ _ (wnc (by decide) wn0) (f53x.2 _ _ (wnc (by decide) wn0) e50x))
  refine wq_ialdk (k := 3) rfl e62x rfl rfl rfl ?_
  refine wq_iast rfl e58x rfl rfl ?_
  intro h63x e64x f65x l66x
  have e64x : zat h63x 192 = some (.inl (0, 252, (zset 0 (zset 0 (zset 0 (zset 0 (zset 0 (zset 0 (zset 0 (zset 0 [] 0 (0 : Int32)) 6 (22000000 : Int32)) 1 (0 : Int32)) 7 (0 : Int32)) 2 (0 : Int32)) 8 (10000 : Int32)) 3 (0 : Int32)) 9 (0 : Int32)))) := e64x
  refine wq_gos (f := 1) (pc2 := 9) (ls2 := [(2, .int 4), (0, .ref 162), (1, .int 0)]) (st2 := [.ref 162]) (h2 := h63x) (dc2 := 0) (ds2 := 0) 6 rfl ?_
  have e67x := (f65x.2 _ _ (wnc (by decide) wn0) e61x)
  refine wq_getf rfl e67x (hC8.2 (26, 192) (by decide)) rfl ?_
  refine wq_gos (f := 1) (pc2 := 19) (ls2 := [(2, .int 4), (0, .ref 162), (1, .int 0)]) (st2 := [.ref 162, .int 4, .ref 192]) (h2 := h63x) (dc2 := 0) (ds2 := 0) 6 rfl ?_
  refine wq_getf rfl e67x (hC8.2 (24, 188) (by decide)) rfl ?_
  refine wq_gos (f := 1) (pc2 := 23) (ls2 := [(2, .int 4), (0, .ref 162), (1, .int 0)]) (st2 := [.int 4, .ref 188, .int 4, .ref 192]) (h2 := h63x) (dc2 := 0) (ds2 := 0) 1 rfl ?_
  have e68x := (f65x.2 _ _ (wnc (by decide) wn0) (f59x.2 _ _ (wnc (by decide) wn0) e56x))
  refine wq_ialdk (k := 4) rfl e68x rfl rfl rfl ?_
  refine wq_iast rfl e64x rfl rfl ?_
  intro h69x e70x f71x l72x
  have e70x : zat h69x 192 = some (.inl (0, 252, (zset 0 (zset 0 (zset 0 (zset 0 (zset 0 (zset 0 (zset 0 (zset 0 (zset 0 [] 0 (0 : Int32)) 6 (22000000 : Int32)) 1 (0 : Int32)) 7 (0 : Int32)) 2 (0 : Int32)) 8 (10000 : Int32)) 3 (0 : Int32)) 9 (0 : Int32)) 4 (0 : Int32)))) := e70x
  refine wq_gos (f := 1) (pc2 := 26) (ls2 := [(2, .int 4), (0, .ref 162), (1, .int 0)]) (st2 := [.ref 162]) (h2 := h69x) (dc2 := 0) (ds2 := 0) 1 rfl ?_
  have e73x := (f71x.2 _ _ (wnc (by decide) wn0) e67x)
  refine wq_getf rfl e73x (hC8.2 (26, 192) (by decide)) rfl ?_
  refine wq_gos (f := 1) (pc2 := 39) (ls2 := [(2, .int 4), (0, .ref 162), (1, .int 0)]) (st2 := [.ref 162, .int 10, .ref 192]) (h2 := h69x) (dc2 := 0) (ds2 := 0) 8 rfl ?_
  refine wq_getf rfl e73x (hC8.2 (25, 190) (by decide)) rfl ?_
  refine wq_gos (f := 1) (pc2 := 43) (ls2 := [(2, .int 4), (0, .ref 162), (1, .int 0)]) (st2 := [.int 4, .ref 190, .int 10, .ref 192]) (h2 := h69x) (dc2 := 0) (ds2 := 0) 1 rfl ?_
  have e74x := (f71x.2 _ _ (wnc (by decide) wn0) (f65x.2 _ _ (wnc (by decide) wn0) e62x))
  refine wq_ialdk (k := 4) rfl e74x rfl rfl rfl ?_
  refine wq_iast rfl e70x rfl rfl ?_
  intro h75x e76x f77x l78x
  have e76x : zat h75x 192 = some (.inl (0, 252, (zset 0 (zset 0 (zset 0 (zset 0 (zset 0 (zset 0 (zset 0 (zset 0 (zset 0 (zset 0 [] 0 (0 : Int32)) 6 (22000000 : Int32)) 1 (0 : Int32)) 7 (0 : Int32)) 2 (0 : Int32)) 8 (10000 : Int32)) 3 (0 : Int32)) 9 (0 : Int32)) 4 (0 : Int32)) 10 (0 : Int32)))) := e76x
  refine wq_gos (f := 1) (pc2 := 9) (ls2 := [(2, .int 5), (0, .ref 162), (1, .int 0)]) (st2 := [.ref 162]) (h2 := h75x) (dc2 := 0) (ds2 := 0) 6 rfl ?_
  have e79x := (f77x.2 _ _ (wnc (by decide) wn0) e73x)
  refine wq_getf rfl e79x (hC8.2 (26, 192) (by decide)) rfl ?_
  refine wq_gos (f := 1) (pc2 := 19) (ls2 := [(2, .int 5), (0, .ref 162), (1, .int 0)]) (st2 := [.ref 162, .int 5, .ref 192]) (h2 := h75x) (dc2 := 0) (ds2 := 0) 6 rfl ?_
  refine wq_getf rfl e79x (hC8.2 (24, 188) (by decide)) rfl ?_
  refine wq_gos (f := 1) (pc2 := 23) (ls2 := [(2, .int 5), (0, .ref 162), (1, .int 0)]) (st2 := [.int 5, .ref 188, .int 5, .ref 192]) (h2 := h75x) (dc2 := 0) (ds2 := 0) 1 rfl ?_
  have e80x := (f77x.2 _ _ (wnc (by decide) wn0) (f71x.2 _ _ (wnc (by decide) wn0) e68x))
  refine wq_ialdk (k := 5) rfl e80x rfl rfl rfl ?_
  refine wq_iast rfl e76x rfl rfl ?_
  intro h81x e82x f83x l84x
  have e82x : zat h81x 192 = some (.inl (0, 252, (zset 0 (zset 0 (zset 0 (zset 0 (zset 0 (zset 0 (zset 0 (zset 0 (zset 0 (zset 0 (zset 0 [] 0 (0 : Int32)) 6 (22000000 : Int32)) 1 (0 : Int32)) 7 (0 : Int32)) 2 (0 : Int32)) 8 (10000 : Int32)) 3 (0 : Int32)) 9 (0 : Int32)) 4 (0 : Int32)) 10 (0 : Int32)) 5 (0 : Int32)))) := e82x
  refine wq_gos (f := 1) (pc2 := 26) (ls2 := [(2, .int 5), (0, .ref 162), (1, .int 0)]) (st2 := [.ref 162]) (h2 := h81x) (dc2 := 0) (ds2 := 0) 1 rfl ?_
  have e85x := (f83x.2 _ _ (wnc (by decide) wn0) e79x)
  refine wq_getf rfl e85x (hC8.2 (26, 192) (by decide)) rfl ?_
  refine wq_gos (f := 1) (pc2 := 39) (ls2 := [(2, .int 5), (0, .ref 162), (1, .int 0)]) (st2 := [.ref 162, .int 11, .ref 192]) (h2 := h81x) (dc2 := 0) (ds2 := 0) 8 rfl ?_
  refine wq_getf rfl e85x (hC8.2 (25, 190) (by decide)) rfl ?_
  refine wq_gos (f := 1) (pc2 := 43) (ls2 := [(2, .int 5), (0, .ref 162), (1, .int 0)]) (st2 := [.int 5, .ref 190, .int 11, .ref 192]) (h2 := h81x) (dc2 := 0) (ds2 := 0) 1 rfl ?_
  have e86x := (f83x.2 _ _ (wnc (by decide) wn0) (f77x.2 _ _ (wnc (by decide) wn0) e74x))
  refine wq_ialdk (k := 5) rfl e86x rfl rfl rfl ?_
  refine wq_iast rfl e82x rfl rfl ?_
  intro h87x e88x f89x l90x
  have e88x : zat h87x 192 = some (.inl (0, 252, (zset 0 (zset 0 (zset 0 (zset 0 (zset 0 (zset 0 (zset 0 (zset 0 (zset 0 (zset 0 (zset 0 (zset 0 [] 0 (0 : Int32)) 6 (22000000 : Int32)) 1 (0 : Int32)) 7 (0 : Int32)) 2 (0 : Int32)) 8 (10000 : Int32)) 3 (0 : Int32)) 9 (0 : Int32)) 4 (0 : Int32)) 10 (0 : Int32)) 5 (0 : Int32)) 11 (0 : Int32)))) := e88x
  refine wq_gos (f := 1) (pc2 := 51) (ls2 := [(2, .int 6), (0, .ref 162), (1, .int 0)]) (st2 := []) (h2 := h87x) (dc2 := 0) (ds2 := 0) 5 rfl ?_
  refine wq_ret rfl rfl ?_
  show wq 191 57 [(0, .ref 162)] [] h87x 0 0 _
  refine wq_gos (f := 1) (pc2 := 59) (ls2 := [(0, .ref 162)]) (st2 := [.ref 162, .ref 162]) (h2 := h87x) (dc2 := 0) (ds2 := 0) 2 rfl ?_
  have e91x := (f89x.2 _ _ (wnc (by decide) wn0) e85x)
  refine wq_getf rfl e91x h278 rfl ?_
  refine wq_gos (f := 1) (pc2 := 64) (ls2 := [(0, .ref 162)]) (st2 := [.int 1, .ref 162]) (h2 := h87x) (dc2 := 0) (ds2 := 0) 2 rfl ?_
  refine wq_putf rfl e91x rfl (by rw [hC8.1]; rfl) rfl ?_
  intro h92x e93x f94x l95x
  obtain ⟨fs96x, hf97x⟩ : ∃ x, x = fs8.set 27 (.int 1) := ⟨_, rfl⟩
  rw [← hf97x] at e93x
  have hC98x : mC fs96x := by rw [hf97x]; exact mC_set hC8 (by decide) _
  have p99x : fs96x[32]? = some (.int 264) := by rw [hf97x, List.getElem?_set_ne (by decide)]; exact h328
  have p100x : fs96x[39]? = some (.int 0) := by rw [hf97x, List.getElem?_set_ne (by decide)]; exact h398
  have p101x : fs96x[27]? = some (.int 1) := by rw [hf97x]; exact List.getElem?_set_self (by rw [hC8.1]; decide)
  refine wq_ret rfl rfl ?_
  show wq 239 19 [(0, .ref 162), (1, .int (nI K))] [] h92x 0 0 _
  refine wq_gos (f := 1) (pc2 := 22) (ls2 := [(0, .ref 162), (1, .int (nI K))]) (st2 := [.int (nI K), .ref 162, .ref 162]) (h2 := h92x) (dc2 := 0) (ds2 := 0) 3 rfl ?_
  refine wq_inlv (y2 := 228) (as := [.int (nI K)]) rfl rfl rfl e93x rfl ?_
  show wq 228 0 [(0, .ref 162), (1, .int (nI K))] [] h92x 0 0 _
  refine wq_gos (f := 1) (pc2 := 1) (ls2 := [(0, .ref 162), (1, .int (nI K))]) (st2 := [.ref 162]) (h2 := h92x) (dc2 := 0) (ds2 := 0) 1 rfl ?_
  refine wq_getf rfl e93x (hC98x.2 (30, 196) (by decide)) rfl ?_
  refine wq_gos (f := 1) (pc2 := 9) (ls2 := [(0, .ref 162), (1, .int (nI K))]) (st2 := [.int ((4800 : Int32) + (nI K)), .ref 196]) (h2 := h92x) (dc2 := 0) (ds2 := 0) 3 rfl ?_
  refine wq_vi (show (4800 : Int32) + nI K = nI (4800 + K) from nI_add 4800 K) ?_
  have e102x := (f94x.2 _ _ (wnc (by decide) wn0) (f89x.2 _ _ (wnc (by decide) wn0) (f83x.2 _ _ (wnc (by decide) wn0) (f77x.2 _ _ (wnc (by decide) wn0) (f71x.2 _ _ (wnc (by decide) wn0) (f65x.2 _ _ (wnc (by decide) wn0) (f59x.2 _ _ (wnc (by decide) wn0) (f53x.2 _ _ (wnc (by decide) wn0) (f47x.2 _ _ (wnc (by decide) wn0) (f41x.2 _ _ (wnc (by decide) wn0) (f35x.2 _ _ (wnc (by decide) wn0) (f29x.2 _ _ (wnc (by decide) wn0) (f23x.2 _ _ (wnc (by decide) wn0) hF8)))))))))))))
  refine wq_laldn rfl e102x (by omega) (by decide) rfl ?_
  refine wq_vl (hfo K hK) ?_
  refine wq_ret rfl rfl ?_
  show wq 239 25 [(0, .ref 162), (1, .int (nI K))] [.long (ml0.getD K 0), .ref 162] h92x 0 0 _
  refine wq_gos (f := 1) (pc2 := 26) (ls2 := [(0, .ref 162), (1, .int (nI K))]) (st2 := [.ref 162, .long (ml0.getD K 0), .ref 162]) (h2 := h92x) (dc2 := 0) (ds2 := 0) 1 rfl ?_
  refine wq_getf rfl e93x (hC98x.2 (24, 188) (by decide)) rfl ?_
  refine wq_gos (f := 1) (pc2 := 30) (ls2 := [(0, .ref 162), (1, .int (nI K))]) (st2 := [.int 0, .ref 188, .long (ml0.getD K 0), .ref 162]) (h2 := h92x) (dc2 := 0) (ds2 := 0) 1 rfl ?_
  refine wq_inlv (y2 := 221) (as := [.long (ml0.getD K 0), .ref 188, .int 0]) rfl rfl rfl e93x rfl ?_
  show wq 221 0 [(0, .ref 162), (1, .long (ml0.getD K 0)), (3, .ref 188), (4, .int 0)] [] h92x 0 0 _
  refine wq_gos (f := 1) (pc2 := 20) (ls2 := [(5, .int 0), (0, .ref 162), (1, .long (ml0.getD K 0)), (3, .ref 188), (4, .int 0)]) (st2 := [.int 0, .long (ml0.getD K 0), .ref 162, .int 0, .ref 188]) (h2 := h92x) (dc2 := 0) (ds2 := 0) 12 rfl ?_
  refine wq_inlv (y2 := 220) (as := [.long (ml0.getD K 0), .int 0]) rfl rfl rfl e93x rfl (wq_T (m_jo0 (ml0.getD K 0) h92x) ?_)
  show wq 221 23 [(5, .int 0), (0, .ref 162), (1, .long (ml0.getD K 0)), (3, .ref 188), (4, .int 0)] [.int (mjo0 (ml0.getD K 0)), .int 0, .ref 188] h92x 0 0 _
  have e103x := (f94x.2 _ _ (wnc (by decide) wn0) (f89x.2 _ _ (wnc (by decide) wn0) (f83x.2 _ _ (wnc (by decide) wn0) e80x)))
  refine wq_iast rfl e103x rfl rfl ?_
  intro h104x e105x f106x l107x
  have e105x : zat h104x 188 = some (.inl (0, 6, (zset 0 [0, 0, 0, 0, 0, 0] 0 (mjo0 (ml0.getD K 0))))) := e105x
  refine wq_gos (f := 1) (pc2 := 20) (ls2 := [(5, .int 1), (0, .ref 162), (1, .long (ml0.getD K 0)), (3, .ref 188), (4, .int 0)]) (st2 := [.int 1, .long (ml0.getD K 0), .ref 162, .int 1, .ref 188]) (h2 := h104x) (dc2 := 0) (ds2 := 0) 12 rfl ?_
  have e108x := (f106x.2 _ _ (wnc (by decide) wn0) e93x)
  refine wq_inlv (y2 := 220) (as := [.long (ml0.getD K 0), .int 1]) rfl rfl rfl e108x rfl (wq_T (m_jo1 (ml0.getD K 0) h104x) ?_)
  show wq 221 23 [(5, .int 1), (0, .ref 162), (1, .long (ml0.getD K 0)), (3, .ref 188), (4, .int 0)] [.int (mjo1 (ml0.getD K 0)), .int 1, .ref 188] h104x 0 0 _
  refine wq_iast rfl e105x rfl rfl ?_
  intro h109x e110x f111x l112x
  have e110x : zat h109x 188 = some (.inl (0, 6, (zset 0 (zset 0 [0, 0, 0, 0, 0, 0] 0 (mjo0 (ml0.getD K 0))) 1 (mjo1 (ml0.getD K 0))))) := e110x
  refine wq_gos (f := 1) (pc2 := 20) (ls2 := [(5, .int 2), (0, .ref 162), (1, .long (ml0.getD K 0)), (3, .ref 188), (4, .int 0)]) (st2 := [.int 2, .long (ml0.getD K 0), .ref 162, .int 2, .ref 188]) (h2 := h109x) (dc2 := 0) (ds2 := 0) 12 rfl ?_
  have e113x := (f111x.2 _ _ (wnc (by decide) wn0) e108x)
  refine wq_inlv (y2 := 220) (as := [.long (ml0.getD K 0), .int 2]) rfl rfl rfl e113x rfl (wq_T (m_jo2 (ml0.getD K 0) h109x) ?_)
  show wq 221 23 [(5, .int 2), (0, .ref 162), (1, .long (ml0.getD K 0)), (3, .ref 188), (4, .int 0)] [.int (mjo2 (ml0.getD K 0)), .int 2, .ref 188] h109x 0 0 _
  refine wq_iast rfl e110x rfl rfl ?_
  intro h114x e115x f116x l117x
  have e115x : zat h114x 188 = some (.inl (0, 6, (zset 0 (zset 0 (zset 0 [0, 0, 0, 0, 0, 0] 0 (mjo0 (ml0.getD K 0))) 1 (mjo1 (ml0.getD K 0))) 2 (mjo2 (ml0.getD K 0))))) := e115x
  refine wq_gos (f := 1) (pc2 := 20) (ls2 := [(5, .int 3), (0, .ref 162), (1, .long (ml0.getD K 0)), (3, .ref 188), (4, .int 0)]) (st2 := [.int 3, .long (ml0.getD K 0), .ref 162, .int 3, .ref 188]) (h2 := h114x) (dc2 := 0) (ds2 := 0) 12 rfl ?_
  have e118x := (f116x.2 _ _ (wnc (by decide) wn0) e113x)
  refine wq_inlv (y2 := 220) (as := [.long (ml0.getD K 0), .int 3]) rfl rfl rfl e118x rfl (wq_T (m_jo3 (ml0.getD K 0) h114x) ?_)
  show wq 221 23 [(5, .int 3), (0, .ref 162), (1, .long (ml0.getD K 0)), (3, .ref 188), (4, .int 0)] [.int (mjo3 (ml0.getD K 0)), .int 3, .ref 188] h114x 0 0 _
  refine wq_iast rfl e115x rfl rfl ?_
  intro h119x e120x f121x l122x
  have e120x : zat h119x 188 = some (.inl (0, 6, (zset 0 (zset 0 (zset 0 (zset 0 [0, 0, 0, 0, 0, 0] 0 (mjo0 (ml0.getD K 0))) 1 (mjo1 (ml0.getD K 0))) 2 (mjo2 (ml0.getD K 0))) 3 (mjo3 (ml0.getD K 0))))) := e120x
  refine wq_gos (f := 1) (pc2 := 20) (ls2 := [(5, .int 4), (0, .ref 162), (1, .long (ml0.getD K 0)), (3, .ref 188), (4, .int 0)]) (st2 := [.int 4, .long (ml0.getD K 0), .ref 162, .int 4, .ref 188]) (h2 := h119x) (dc2 := 0) (ds2 := 0) 12 rfl ?_
  have e123x := (f121x.2 _ _ (wnc (by decide) wn0) e118x)
  refine wq_inlv (y2 := 220) (as := [.long (ml0.getD K 0), .int 4]) rfl rfl rfl e123x rfl (wq_T (m_jo4 (ml0.getD K 0) h119x) ?_)
  show wq 221 23 [(5, .int 4), (0, .ref 162), (1, .long (ml0.getD K 0)), (3, .ref 188), (4, .int 0)] [.int (mjo4 (ml0.getD K 0)), .int 4, .ref 188] h119x 0 0 _
  refine wq_iast rfl e120x rfl rfl ?_
  intro h124x e125x f126x l127x
  have e125x : zat h124x 188 = some (.inl (0, 6, (zset 0 (zset 0 (zset 0 (zset 0 (zset 0 [0, 0, 0, 0, 0, 0] 0 (mjo0 (ml0.getD K 0))) 1 (mjo1 (ml0.getD K 0))) 2 (mjo2 (ml0.getD K 0))) 3 (mjo3 (ml0.getD K 0))) 4 (mjo4 (ml0.getD K 0))))) := e125x
  refine wq_gos (f := 1) (pc2 := 20) (ls2 := [(5, .int 5), (0, .ref 162), (1, .long (ml0.getD K 0)), (3, .ref 188), (4, .int 0)]) (st2 := [.int 5, .long (ml0.getD K 0), .ref 162, .int 5, .ref 188]) (h2 := h124x) (dc2 := 0) (ds2 := 0) 12 rfl ?_
  have e128x := (f126x.2 _ _ (wnc (by decide) wn0) e123x)
  refine wq_inlv (y2 := 220) (as := [.long (ml0.getD K 0), .int 5]) rfl rfl rfl e128x rfl (wq_T (m_jo5 (ml0.getD K 0) h124x) ?_)
  show wq 221 23 [(5, .int 5), (0, .ref 162), (1, .long (ml0.getD K 0)), (3, .ref 188), (4, .int 0)] [.int (mjo5 (ml0.getD K 0)), .int 5, .ref 188] h124x 0 0 _
  refine wq_iast rfl e125x rfl rfl ?_
  intro h129x e130x f131x l132x
  have e130x : zat h129x 188 = some (.inl (0, 6, (zset 0 (zset 0 (zset 0 (zset 0 (zset 0 (zset 0 [0, 0, 0, 0, 0, 0] 0 (mjo0 (ml0.getD K 0))) 1 (mjo1 (ml0.getD K 0))) 2 (mjo2 (ml0.getD K 0))) 3 (mjo3 (ml0.getD K 0))) 4 (mjo4 (ml0.getD K 0))) 5 (mjo5 (ml0.getD K 0))))) := e130x
  refine wq_gos (f := 1) (pc2 := 30) (ls2 := [(5, .int 6), (0, .ref 162), (1, .long (ml0.getD K 0)), (3, .ref 188), (4, .int 0)]) (st2 := []) (h2 := h129x) (dc2 := 0) (ds2 := 0) 5 rfl ?_
  refine wq_ret rfl rfl ?_
  show wq 239 33 [(0, .ref 162), (1, .int (nI K))] [] h129x 0 0 _
  refine wq_gos (f := 1) (pc2 := 34) (ls2 := [(0, .ref 162), (1, .int (nI K))]) (st2 := [.ref 162]) (h2 := h129x) (dc2 := 0) (ds2 := 0) 1 rfl ?_
  have e133x := (f131x.2 _ _ (wnc (by decide) wn0) e128x)
  refine wq_inlv (y2 := 242) (as := []) rfl rfl rfl e133x rfl ?_
  show wq 242 0 [(0, .ref 162)] [] h129x 0 0 _
  refine wq_gos (f := 1) (pc2 := 2) (ls2 := [(0, .ref 162)]) (st2 := [.int 0, .ref 162]) (h2 := h129x) (dc2 := 0) (ds2 := 0) 2 rfl ?_
  refine wq_putf rfl e133x rfl (by rw [hC98x.1]; rfl) rfl ?_
  intro h134x e135x f136x l137x
  obtain ⟨fs138x, hf139x⟩ : ∃ x, x = fs96x.set 33 (.int 0) := ⟨_, rfl⟩
  rw [← hf139x] at e135x
  have hC140x : mC fs138x := by rw [hf139x]; exact mC_set hC98x (by decide) _
  have p141x : fs138x[32]? = some (.int 264) := by rw [hf139x, List.getElem?_set_ne (by decide)]; exact p99x
  have p142x : fs138x[39]? = some (.int 0) := by rw [hf139x, List.getElem?_set_ne (by decide)]; exact p100x
  have p143x : fs138x[27]? = some (.int 1) := by rw [hf139x, List.getElem?_set_ne (by decide)]; exact p101x
  have p144x : fs138x[33]? = some (.int 0) := by rw [hf139x]; exact List.getElem?_set_self (by rw [hC98x.1]; decide)
  refine wq_gos (f := 1) (pc2 := 6) (ls2 := [(0, .ref 162)]) (st2 := [.ref 162]) (h2 := h134x) (dc2 := 0) (ds2 := 0) 1 rfl ?_
  refine wq_getf rfl e135x (hC140x.2 (43, 212) (by decide)) rfl ?_
  refine wq_gos (f := 1) (pc2 := 11) (ls2 := [(0, .ref 162)]) (st2 := [.int 0, .int 0, .ref 212]) (h2 := h134x) (dc2 := 0) (ds2 := 0) 2 rfl ?_
  have e145x := (f136x.2 _ _ (wnc (by decide) wn0) (f131x.2 _ _ (wnc (by decide) wn0) (f126x.2 _ _ (wnc (by decide) wn0) (f121x.2 _ _ (wnc (by decide) wn0) (f116x.2 _ _ (wnc (by decide) wn0) (f111x.2 _ _ (wnc (by decide) wn0) (f106x.2 _ _ (wnc (by decide) wn0) (f94x.2 _ _ (wnc (by decide) wn0) (f89x.2 _ _ (wnc (by decide) wn0) (f83x.2 _ _ (wnc (by decide) wn0) (f77x.2 _ _ (wnc (by decide) wn0) (f71x.2 _ _ (wnc (by decide) wn0) (f65x.2 _ _ (wnc (by decide) wn0) (f59x.2 _ _ (wnc (by decide) wn0) (f53x.2 _ _ (wnc (by decide) wn0) (f47x.2 _ _ (wnc (by decide) wn0) (f41x.2 _ _ (wnc (by decide) wn0) (f35x.2 _ _ (wnc (by decide) wn0) (f29x.2 _ _ (wnc (by decide) wn0) (f23x.2 _ _ (wnc (by decide) wn0) (f8.2 _ _ (wnc (by decide) (wnc (by decide) (wnc (by decide) (wnc (by decide) (wnc (by decide) wn0))))) (f3x.2 _ _ (wnc (by decide) wn0) c212))))))))))))))))))))))
  refine wq_zast rfl e145x rfl rfl ?_
  intro h146x e147x f148x l149x
  have e147x : zat h146x 212 = some (.inl (2, 2, (zset 0 [0, 0] 0 (vp_nar .boolean (0 : Int32))))) := e147x
  refine wq_gos (f := 1) (pc2 := 13) (ls2 := [(0, .ref 162)]) (st2 := [.ref 162]) (h2 := h146x) (dc2 := 0) (ds2 := 0) 1 rfl ?_
  have e150x := (f148x.2 _ _ (wnc (by decide) wn0) e135x)
  refine wq_getf rfl e150x (hC140x.2 (43, 212) (by decide)) rfl ?_
  refine wq_gos (f := 1) (pc2 := 18) (ls2 := [(0, .ref 162)]) (st2 := [.int 0, .int 1, .ref 212]) (h2 := h146x) (dc2 := 0) (ds2 := 0) 2 rfl ?_
  refine wq_zast rfl e147x rfl rfl ?_
  intro h151x e152x f153x l154x
  have e152x : zat h151x 212 = some (.inl (2, 2, (zset 0 (zset 0 [0, 0] 0 (vp_nar .boolean (0 : Int32))) 1 (vp_nar .boolean (0 : Int32))))) := e152x
  refine wq_ret rfl rfl ?_
  show wq 239 37 [(0, .ref 162), (1, .int (nI K))] [] h151x 0 0 _
  refine wq_gos (f := 1) (pc2 := 38) (ls2 := [(0, .ref 162), (1, .int (nI K))]) (st2 := [.int 1]) (h2 := h151x) (dc2 := 0) (ds2 := 0) 1 rfl ?_
  exact wq_ret rfl rfl ⟨h151x, rfl⟩
