/-! op 35 closed. -/
set_option maxRecDepth 100000 in
set_option maxHeartbeats 4000000 in
theorem m_o352 {h : zH} {fs : List Value} {pt : Int32} (h1 : 0 ≤ pt.toInt ∧ pt.toInt ≤ 63) (hM : zat h 162 = some (.inr (.inr (.inr (10, fs))))) (hC : mC fs) (c166 : zat h 166 = some (.inl (0, 14, [9, 4, 10, 2, 0, 0, 0, 9, 4, 10, 2, 0, 0, 0]))) (c168 : zat h 168 = some (.inl (0, 12, [0, (-32), (-32), (-32), (-32), (-64), 0, (-32), (-32), (-32), (-32), (-64)]))) (c170 : zat h 170 = some (.inl (0, 12, [99, 31, 31, 31, 31, 63, 99, 31, 31, 31, 31, 63]))) (c228 : zat h 228 = some (.inr (.inl (4096, [])))) : wq 276 0 [(0, .ref 162), (1, .int pt), (2, .int 2)] [] h 0 0 (fun r => ∃ h2, r = (some (.int (nI (uOu [0, (-32), (-32), (-32), (-32), (-64)] [99, 31, 31, 31, 31, 63] pt 64 64 (-32) []).length)), h2, 0, 0)) := by
  have e63 : (63 : Int32).toInt = 63 := rfl
  refine wq_gos (f := 1) (pc2 := 2) (ls2 := [(0, .ref 162), (1, .int pt), (2, .int 2)]) (st2 := [.int 0, .ref 162]) (h2 := h) (dc2 := 0) (ds2 := 0) 2 rfl ?_
  refine wq_putf rfl hM rfl (by rw [hC.1]; rfl) rfl ?_
  intro h1x e2x f3x l4x
  obtain ⟨fs5x, hf6x⟩ : ∃ x, x = fs.set 0 (.int 0) := ⟨_, rfl⟩
  rw [← hf6x] at e2x
  have hC7x : mC fs5x := by rw [hf6x]; exact mC_set hC (by decide) _
  have p8x : fs5x[0]? = some (.int 0) := by rw [hf6x]; exact List.getElem?_set_self (by rw [hC.1]; decide)
  refine wq_gos (f := 1) (pc2 := 6) (ls2 := [(0, .ref 162), (1, .int pt), (2, .int 2)]) (st2 := [.int pt]) (h2 := h1x) (dc2 := 0) (ds2 := 0) 1 rfl ?_
  refine wq_lt0f rfl rfl (by omega) ?_
  refine wq_gos (f := 1) (pc2 := 12) (ls2 := [(0, .ref 162), (1, .int pt), (2, .int 2)]) (st2 := [.int 63, .int pt]) (h2 := h1x) (dc2 := 0) (ds2 := 0) 2 rfl ?_
  refine wq_gt2f rfl rfl (by omega) ?_
  refine wq_gos (f := 1) (pc2 := 39) (ls2 := [(5, .int 0), (4, .int (-2147483648)), (3, .int (-2147483648)), (0, .ref 162), (1, .int pt), (2, .int 2)]) (st2 := [.ref 162]) (h2 := h1x) (dc2 := 0) (ds2 := 0) 12 rfl ?_
  refine wq_getf rfl e2x (hC7x.2 (4, 168) (by decide)) rfl ?_
  refine wq_gos (f := 1) (pc2 := 43) (ls2 := [(5, .int 0), (4, .int (-2147483648)), (3, .int (-2147483648)), (0, .ref 162), (1, .int pt), (2, .int 2)]) (st2 := [.int 2, .ref 168]) (h2 := h1x) (dc2 := 0) (ds2 := 0) 1 rfl ?_
  have e9x := (f3x.2 _ _ (wnc (by decide) wn0) c168)
  refine wq_ialdk (k := 2) rfl e9x rfl rfl rfl ?_
  refine wq_gos (f := 1) (pc2 := 46) (ls2 := [(6, .int (-32)), (5, .int 0), (4, .int (-2147483648)), (3, .int (-2147483648)), (0, .ref 162), (1, .int pt), (2, .int 2)]) (st2 := []) (h2 := h1x) (dc2 := 0) (ds2 := 0) 1 rfl ?_
  have e10x := (f3x.2 _ _ (wnc (by decide) wn0) c166)
  have e11x := (f3x.2 _ _ (wnc (by decide) wn0) c170)
  have e12x := (f3x.2 _ _ (wnc (by decide) wn0) c228)
  refine wq_ls [(0, .ref 162), (1, .int pt), (2, .int 2), (3, .int (-2147483648)), (4, .int (-2147483648)), (5, .int (nI ([] : List (Int32 × Int32)).length)), (6, .int (-32))] (show ([0, 1, 2, 3, 4, 5, 6] : List Nat).Nodup by decide) ⟨rfl, rfl, rfl, rfl, rfl, rfl, rfl, trivial⟩ ?_
  refine wq_mono (m_rcA (kn := [9, 4, 10, 2, 0, 0, 0, 9, 4, 10, 2, 0, 0, 0]) (lo := [0, (-32), (-32), (-32), (-32), (-64), 0, (-32), (-32), (-32), (-32), (-64)]) (hi := [99, 31, 31, 31, 31, 63, 99, 31, 31, 31, 31, 63]) (m := 64) ⟨by decide, by decide⟩ ⟨by decide, by decide⟩ ⟨by decide, by decide⟩ (by decide) (by decide) (by decide) 64 h1x [] (-32) (-2147483648) (-2147483648) [] 0 e2x hC7x e10x e9x e11x e12x (uO_0 _) (fun q hq => absurd hq List.not_mem_nil) (Nat.le_refl _) (by decide) (by decide)) ?_
  rintro _ ⟨g2, rfl⟩
  exact ⟨g2, by rw [uOu_c wLim0]⟩
theorem zo_35_6 (xs : Nat → Int32) (h0 : xs 0 &&& 63 = 35) (h1 : 0 ≤ (xs 1).toInt ∧ (xs 1).toInt ≤ 63) (h2 : xs 2 = 2) : zDone xs := by
  obtain ⟨r, y1, h8, rfl, f8⟩ := c_o352 (h := zH0) h1 rfl rfl rfl rfl rfl rfl (by decide)
  have hx : ∀ q e, q ≠ 158 → q ≠ 234 → zat zH0 q = some e → zat h8 q = some e := fun q e n1 n2 k => f8.2 q e (wnc n1 (wnc n2 wn0)) k
  obtain ⟨r2, y2, h9, rfl⟩ := m_o352 (h := h8) (fs := mfs0) h1 (hx 162 _ (by decide) (by decide) rfl) mC00 (hx 166 _ (by decide) (by decide) rfl) (hx 168 _ (by decide) (by decide) rfl) (hx 170 _ (by decide) (by decide) rfl) (hx 228 _ (by decide) (by decide) rfl)
  rw [← h2] at y1 y2
  exact lw_35 xs h0 y1 (hx 162 (.inr (.inr (.inr (10, mfs0)))) (by decide) (by decide) rfl) y2 (by decide) (by decide)
theorem zop_35 (xs : Nat → Int32) (h0 : xs 0 &&& 63 = 35) : zDone xs := by
  by_cases c1 : (xs 1).toInt < 0
  · exact zo_35_0 xs h0 c1
  by_cases c2 : 63 < (xs 1).toInt
  · exact zo_35_1 xs h0 c2
  have h1 : 0 ≤ (xs 1).toInt ∧ (xs 1).toInt ≤ 63 := by omega
  by_cases c3 : (xs 2).toInt < 0
  · exact zo_35_2 xs h0 h1 c3
  by_cases c4 : 2 < (xs 2).toInt
  · exact zo_35_3 xs h0 h1 c4
  by_cases c5 : (xs 2).toInt = 0
  · exact zo_35_4 xs h0 h1 (Int32.toInt_inj.mp c5)
  by_cases c6 : (xs 2).toInt = 1
  · exact zo_35_5 xs h0 h1 (Int32.toInt_inj.mp c6)
  exact zo_35_6 xs h0 h1 (Int32.toInt_inj.mp (show (xs 2).toInt = 2 by omega))
