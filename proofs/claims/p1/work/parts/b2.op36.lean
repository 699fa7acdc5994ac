/-! op 36 closed. -/
theorem c_high0 {h : zH} (out : Int32) (c6 : zat h 6 = some (.inr (.inr (.inr (0, [.int 9, .int 4, .int 10, .int 2, .int 0, .long 70644700037184, .ref 8, .ref 10, .ref 12, .int 0, .ref 14, .ref 16, .int 0, .ref 18]))))) (c8 : zat h 8 = some (.inl (0, 6, [0, (-32), (-32), (-32), (-32), (-64)]))) (c10 : zat h 10 = some (.inl (0, 6, [99, 31, 31, 31, 31, 63]))) (c158 : zat h 158 = some (.inr (.inr (.inr (8, [.ref 160]))))) : zT zg0 zF zP 96 0 [(0, .ref 158), (1, .ref 6), (2, .int out)] [] h 0 0 (some (.int (hOu [0, (-32), (-32), (-32), (-32), (-64)] [99, 31, 31, 31, 31, 63] 9 4 10 out 64 64 (-32) (-2147483648))), h, 0, 0) := by
  apply wq_toT
  refine wq_gos (f := 1) (pc2 := 4) (ls2 := [(3, .int (-2147483648)), (0, .ref 158), (1, .ref 6), (2, .int out)]) (st2 := [.ref 6]) (h2 := h) (dc2 := 0) (ds2 := 0) 3 rfl ?_
  refine wq_getf rfl c6 rfl rfl ?_
  refine wq_gos (f := 1) (pc2 := 8) (ls2 := [(3, .int (-2147483648)), (0, .ref 158), (1, .ref 6), (2, .int out)]) (st2 := [.int 2, .ref 8]) (h2 := h) (dc2 := 0) (ds2 := 0) 1 rfl ?_
  refine wq_ialdk (k := 2) rfl c8 rfl rfl rfl ?_
  refine wq_gos (f := 1) (pc2 := 11) (ls2 := [(4, .int (-32)), (3, .int (-2147483648)), (0, .ref 158), (1, .ref 6), (2, .int out)]) (st2 := []) (h2 := h) (dc2 := 0) (ds2 := 0) 1 rfl ?_
  refine wq_ls [(0, .ref 158), (1, .ref 6), (2, .int out), (3, .int (-2147483648)), (4, .int (-32))] (show ([0, 1, 2, 3, 4] : List Nat).Nodup by decide) ⟨rfl, rfl, rfl, rfl, rfl, trivial⟩ ?_
  exact c_hiOu (ll := [0, (-32), (-32), (-32), (-32), (-64)]) (lg := [99, 31, 31, 31, 31, 63]) (m := 64) c6 c8 c10 c158 (by decide) (by decide) 64 (-32) (-2147483648) 0 0 (by decide) (by decide)
theorem c_o36 {h : zH} (out : Int32) (c0 : zat h 0 = some (.inr (.inr (.inr (9, [.ref 2, .int 0, .ref 4, .ref 6, .ref 20, .long 70644700037184, .ref 34, .ref 36, .int 0, .long 0, .ref 42, .ref 44, .ref 60, .ref 66, .ref 72, .ref 74, .ref 150, .ref 158]))))) (c6 : zat h 6 = some (.inr (.inr (.inr (0, [.int 9, .int 4, .int 10, .int 2, .int 0, .long 70644700037184, .ref 8, .ref 10, .ref 12, .int 0, .ref 14, .ref 16, .int 0, .ref 18]))))) (c8 : zat h 8 = some (.inl (0, 6, [0, (-32), (-32), (-32), (-32), (-64)]))) (c10 : zat h 10 = some (.inl (0, 6, [99, 31, 31, 31, 31, 63]))) (c158 : zat h 158 = some (.inr (.inr (.inr (8, [.ref 160]))))) : zT zg0 zF zP 137 0 [(0, .ref 0), (1, .int out)] [] h 0 0 (some (.int (hOu [0, (-32), (-32), (-32), (-32), (-64)] [99, 31, 31, 31, 31, 63] 9 4 10 out 64 64 (-32) (-2147483648))), h, 0, 0) := by
  apply wq_toT
  refine wq_gos (f := 1) (pc2 := 1) (ls2 := [(0, .ref 0), (1, .int out)]) (st2 := [.ref 0]) (h2 := h) (dc2 := 0) (ds2 := 0) 1 rfl ?_
  refine wq_getf rfl c0 rfl rfl ?_
  refine wq_gos (f := 1) (pc2 := 5) (ls2 := [(0, .ref 0), (1, .int out)]) (st2 := [.ref 0, .ref 158]) (h2 := h) (dc2 := 0) (ds2 := 0) 1 rfl ?_
  refine wq_getf rfl c0 rfl rfl ?_
  refine wq_gos (f := 1) (pc2 := 9) (ls2 := [(0, .ref 0), (1, .int out)]) (st2 := [.int out, .ref 6, .ref 158]) (h2 := h) (dc2 := 0) (ds2 := 0) 1 rfl ?_
  refine wq_inlv (y2 := 96) (as := [.ref 6, .int out]) rfl rfl rfl c158 rfl (wq_T (c_high0 out c6 c8 c10 c158) ?_)
  show wq 137 12 [(0, .ref 0), (1, .int out)] [.int (hOu [0, (-32), (-32), (-32), (-32), (-64)] [99, 31, 31, 31, 31, 63] 9 4 10 out 64 64 (-32) (-2147483648))] h 0 0 _
  exact wq_ret rfl rfl rfl
theorem m_o36 {h : zH} {fs : List Value} (out : Int32) (hM : zat h 162 = some (.inr (.inr (.inr (10, fs))))) (hC : mC fs) (c166 : zat h 166 = some (.inl (0, 14, [9, 4, 10, 2, 0, 0, 0, 9, 4, 10, 2, 0, 0, 0]))) (c168 : zat h 168 = some (.inl (0, 12, [0, (-32), (-32), (-32), (-32), (-64), 0, (-32), (-32), (-32), (-32), (-64)]))) (c170 : zat h 170 = some (.inl (0, 12, [99, 31, 31, 31, 31, 63, 99, 31, 31, 31, 31, 63]))) : wq 277 0 [(0, .ref 162), (1, .int out)] [] h 0 0 (fun r => ∃ h2, r = (some (.int (hOu [0, (-32), (-32), (-32), (-32), (-64)] [99, 31, 31, 31, 31, 63] 9 4 10 out 64 64 (-32) (-2147483648))), h2, 0, 0)) := by
  refine wq_gos (f := 1) (pc2 := 2) (ls2 := [(0, .ref 162), (1, .int out)]) (st2 := [.int 0, .ref 162]) (h2 := h) (dc2 := 0) (ds2 := 0) 2 rfl ?_
  refine wq_putf rfl hM rfl (by rw [hC.1]; rfl) rfl ?_
  intro h1x e2x f3x l4x
  obtain ⟨fs5x, hf6x⟩ : ∃ x, x = fs.set 0 (.int 0) := ⟨_, rfl⟩
  rw [← hf6x] at e2x
  have hC7x : mC fs5x := by rw [hf6x]; exact mC_set hC (by decide) _
  have p8x : fs5x[0]? = some (.int 0) := by rw [hf6x]; exact List.getElem?_set_self (by rw [hC.1]; decide)
  refine wq_gos (f := 1) (pc2 := 10) (ls2 := [(2, .int (-2147483648)), (0, .ref 162), (1, .int out)]) (st2 := [.ref 162]) (h2 := h1x) (dc2 := 0) (ds2 := 0) 3 rfl ?_
  refine wq_getf rfl e2x (hC7x.2 (4, 168) (by decide)) rfl ?_
  refine wq_gos (f := 1) (pc2 := 14) (ls2 := [(2, .int (-2147483648)), (0, .ref 162), (1, .int out)]) (st2 := [.int 2, .ref 168]) (h2 := h1x) (dc2 := 0) (ds2 := 0) 1 rfl ?_
  have e9x := (f3x.2 _ _ (wnc (by decide) wn0) c168)
  refine wq_ialdk (k := 2) rfl e9x rfl rfl rfl ?_
  refine wq_gos (f := 1) (pc2 := 16) (ls2 := [(3, .int (-32)), (2, .int (-2147483648)), (0, .ref 162), (1, .int out)]) (st2 := []) (h2 := h1x) (dc2 := 0) (ds2 := 0) 1 rfl ?_
  have e10x := (f3x.2 _ _ (wnc (by decide) wn0) c166)
  have e11x := (f3x.2 _ _ (wnc (by decide) wn0) c170)
  refine wq_ls [(0, .ref 162), (1, .int out), (2, .int (-2147483648)), (3, .int (-32))] (show ([0, 1, 2, 3] : List Nat).Nodup by decide) ⟨rfl, rfl, rfl, rfl, trivial⟩ ?_
  refine wq_mono (m_hiA (kn := [9, 4, 10, 2, 0, 0, 0, 9, 4, 10, 2, 0, 0, 0]) (lo := [0, (-32), (-32), (-32), (-32), (-64), 0, (-32), (-32), (-32), (-32), (-64)]) (hi := [99, 31, 31, 31, 31, 63, 99, 31, 31, 31, 31, 63]) (me := 64) (mw := 64) e2x hC7x e10x e9x e11x (by decide) (by decide) (by decide) (by decide) 64 (-32) (-2147483648) 0 0 (by decide) (by decide)) ?_
  rintro _ rfl
  exact ⟨h1x, by rw [show (hOu [0, (-32), (-32), (-32), (-32), (-64)] [99, 31, 31, 31, 31, 63] 9 4 10 out 64 64 (-32) (-2147483648)) = hRa [0, (-32), (-32), (-32), (-32), (-64), 0, (-32), (-32), (-32), (-32), (-64)] 9 4 10 out 64 64 64 (-32) (-2147483648) from hOu_hRa wLim0 ⟨by decide, by decide⟩ ⟨by decide, by decide⟩ ⟨by decide, by decide⟩ ⟨by decide, by decide⟩ (by decide) 64 (-32) (-2147483648)]; rfl⟩
theorem zop_36 (xs : Nat → Int32) (h0 : xs 0 &&& 63 = 36) : zDone xs := by
  obtain ⟨r, y1, h2, rfl⟩ := m_o36 (h := zH0) (fs := mfs0) (xs 1) rfl mC00 rfl rfl rfl
  exact lw_36 xs h0 (c_o36 (xs 1) rfl rfl rfl rfl rfl) (rfl : zat zH0 162 = some (.inr (.inr (.inr (10, mfs0))))) y1 (by decide) (by decide)
