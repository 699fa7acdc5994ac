/-! The reference: small calls. -/
noncomputable def mFlt (n22 n23 w : Int32) : Int32 × Int32 := (if w ≠ (0 : Int32) then (if w ≠ (1 : Int32) then ((-1 : Int32), (0 : Int32)) else (n23, (0 : Int32))) else (n22, (0 : Int32)))
set_option maxRecDepth 100000 in
set_option maxHeartbeats 4000000 in
theorem m_flt {h : zH} {n0 n2 n14 n15 n16 n17 n18 n19 n20 n21 n22 n23 n27 n28 n32 n33 n34 n35 n39 n52 : Int32} {w : Int32} (hM : zat h 162 = some (.inr (.inr (.inr (10, mO n0 n2 n14 n15 n16 n17 n18 n19 n20 n21 n22 n23 n27 n28 n32 n33 n34 n35 n39 n52)))))  : wq 186 0 [(0, .ref 162), (1, .int w)] [] h 0 0 (fun rr9 => ∃ (h2 : zH), rr9 = (some (.int ((mFlt n22 n23 w).1)), h2, 0, 0) ∧ wFr [162] h h2 ∧ h2.length = h.length ∧ zat h2 162 = some (.inr (.inr (.inr (10, mO ((mFlt n22 n23 w).2) n2 n14 n15 n16 n17 n18 n19 n20 n21 n22 n23 n27 n28 n32 n33 n34 n35 n39 n52))))) := by
  refine wq_gos (f := 1) (pc2 := 2) (ls2 := [(0, .ref 162), (1, .int w)]) (st2 := [.int 0, .ref 162]) (h2 := h) (dc2 := 0) (ds2 := 0) 2 rfl ?_
  refine wq_putf rfl hM rfl rfl rfl ?_
  intro hh1x e2x ff3x lh4x
  have e2x : zat hh1x 162 = some (.inr (.inr (.inr (10, mO (0 : Int32) n2 n14 n15 n16 n17 n18 n19 n20 n21 n22 n23 n27 n28 n32 n33 n34 n35 n39 n52)))) := e2x
  refine wq_gos (f := 1) (pc2 := 6) (ls2 := [(0, .ref 162), (1, .int w)]) (st2 := [.int w]) (h2 := hh1x) (dc2 := 0) (ds2 := 0) 1 rfl ?_
  refine wq_ne0 rfl rfl (fun b5x => ?_) (fun b5x => ?_)
  · have q6x : w.toInt ≠ 0 := fun q => b5x (Int32.toInt_inj.mp q)
    refine wq_gos (f := 1) (pc2 := 18) (ls2 := [(0, .ref 162), (1, .int w)]) (st2 := [.int 1, .int w]) (h2 := hh1x) (dc2 := 0) (ds2 := 0) 2 rfl ?_
    have q7x : (1 : Int32).toInt = 1 := rfl
    refine wq_ne2 rfl rfl (fun b8x => ?_) (fun b8x => ?_)
    · have q9x : w.toInt ≠ 1 := fun q => b8x (Int32.toInt_inj.mp q)
      refine wq_gos (f := 1) (pc2 := 29) (ls2 := [(0, .ref 162), (1, .int w)]) (st2 := [.int (-1)]) (h2 := hh1x) (dc2 := 0) (ds2 := 0) 1 rfl ?_
      have hx : (mFlt n22 n23 w) = ((-1 : Int32), (0 : Int32)) := by unfold mFlt; rw [if_pos b5x, if_pos b8x]
      rw [hx]
      exact wq_ret rfl rfl ⟨hh1x, rfl, (wFr_sub ff3x (by simp)), by omega, e2x⟩
    · have q10x : w.toInt = 1 := congrArg Int32.toInt b8x
      refine wq_gos (f := 1) (pc2 := 22) (ls2 := [(0, .ref 162), (1, .int w)]) (st2 := [.ref 162]) (h2 := hh1x) (dc2 := 0) (ds2 := 0) 1 rfl ?_
      refine wq_getf rfl e2x rfl rfl ?_
      refine wq_gos (f := 1) (pc2 := 29) (ls2 := [(0, .ref 162), (1, .int w)]) (st2 := [.int n23]) (h2 := hh1x) (dc2 := 0) (ds2 := 0) 1 rfl ?_
      have hx : (mFlt n22 n23 w) = (n23, (0 : Int32)) := by unfold mFlt; rw [if_pos b5x, if_neg (fun q => q b8x)]
      rw [hx]
      exact wq_ret rfl rfl ⟨hh1x, rfl, (wFr_sub ff3x (by simp)), by omega, e2x⟩
  · have q11x : w.toInt = 0 := congrArg Int32.toInt b5x
    refine wq_gos (f := 1) (pc2 := 10) (ls2 := [(0, .ref 162), (1, .int w)]) (st2 := [.ref 162]) (h2 := hh1x) (dc2 := 0) (ds2 := 0) 1 rfl ?_
    refine wq_getf rfl e2x rfl rfl ?_
    refine wq_gos (f := 1) (pc2 := 29) (ls2 := [(0, .ref 162), (1, .int w)]) (st2 := [.int n22]) (h2 := hh1x) (dc2 := 0) (ds2 := 0) 1 rfl ?_
    have hx : (mFlt n22 n23 w) = (n22, (0 : Int32)) := by unfold mFlt; rw [if_neg (fun q => q b5x)]
    rw [hx]
    exact wq_ret rfl rfl ⟨hh1x, rfl, (wFr_sub ff3x (by simp)), by omega, e2x⟩
theorem all_nI (x : Int32) : ∃ k : Nat, x = nI k := ⟨x.toBitVec.toNat, by
  apply Int32.toBitVec_inj.mp
  rw [b_nI, BitVec.ofNat_toNat]
  simp⟩
theorem m_spB {h : zH} {n0 n2 n14 n15 n16 n17 n18 n19 n20 n21 n22 n23 n27 n28 n32 n33 n34 n35 n39 n52 : Int32} {f n : Nat} {sn : List Int32} {nm9 : Int32} (hM : zat h 162 = some (.inr (.inr (.inr (10, mO n0 n2 n14 n15 n16 n17 n18 n19 n20 n21 n22 n23 n27 n28 n32 n33 n34 n35 n39 n52))))) (hSn : zat h 176 = some (.inl (0, 16, sn))) (hf : f + n ≤ 16) : wq 176 0 [(0, .ref 162), (1, .int (nI f)), (2, .int (nI n)), (3, .int nm9)] [] h 0 0 (fun rr9 => rr9 = (some (.int (mspF sn f n nm9 (n - 0 + 1) 0)), h, 0, 0) ∧ ((mspF sn f n nm9 (n - 0 + 1) 0).toInt = -1 ∨ (0 ≤ (mspF sn f n nm9 (n - 0 + 1) 0).toInt ∧ (mspF sn f n nm9 (n - 0 + 1) 0).toInt < n))) := by
  obtain ⟨a, rfl⟩ := all_nI n15
  obtain ⟨b, rfl⟩ := all_nI n16
  obtain ⟨c, rfl⟩ := all_nI n17
  exact m_spA hM hSn hf
noncomputable def mNmd (ns : Nat) (sn : List Int32) (x : Int32) : Int32 × Int32 := ((mspF sn 0 ns x (ns - 0 + 1) 0), (0 : Int32))
set_option maxRecDepth 100000 in
set_option maxHeartbeats 4000000 in
theorem m_nmd {h : zH} {n0 n2 n14 n15 n16 n17 n18 n19 n20 n21 n22 n23 n27 n28 n32 n33 n34 n35 n39 n52 : Int32} {ns : Nat} {kn sn : List Int32} {x : Int32} (hM : zat h 162 = some (.inr (.inr (.inr (10, mO n0 n2 n14 n15 n16 n17 n18 n19 n20 n21 n22 n23 n27 n28 n32 n33 n34 n35 n39 n52))))) (hKn : zat h 166 = some (.inl (0, 14, kn))) (hSn : zat h 176 = some (.inl (0, 16, sn))) (hns : kn.getD 5 0 = nI ns ∧ ns ≤ 8) : wq 187 0 [(0, .ref 162), (1, .int x)] [] h 0 0 (fun rr9 => ∃ (h2 : zH), rr9 = (some (.int ((mNmd ns sn x).1)), h2, 0, 0) ∧ wFr [162] h h2 ∧ h2.length = h.length ∧ zat h2 162 = some (.inr (.inr (.inr (10, mO ((mNmd ns sn x).2) n2 n14 n15 n16 n17 n18 n19 n20 n21 n22 n23 n27 n28 n32 n33 n34 n35 n39 n52))))) := by
  have hn8 := hns.2
  refine wq_gos (f := 1) (pc2 := 2) (ls2 := [(0, .ref 162), (1, .int x)]) (st2 := [.int 0, .ref 162]) (h2 := h) (dc2 := 0) (ds2 := 0) 2 rfl ?_
  refine wq_putf rfl hM rfl rfl rfl ?_
  intro hh1x e2x ff3x lh4x
  have e2x : zat hh1x 162 = some (.inr (.inr (.inr (10, mO (0 : Int32) n2 n14 n15 n16 n17 n18 n19 n20 n21 n22 n23 n27 n28 n32 n33 n34 n35 n39 n52)))) := e2x
  refine wq_gos (f := 1) (pc2 := 8) (ls2 := [(0, .ref 162), (1, .int x)]) (st2 := [.ref 162, .int 0, .ref 162]) (h2 := hh1x) (dc2 := 0) (ds2 := 0) 3 rfl ?_
  refine wq_getf rfl e2x rfl rfl ?_
  refine wq_gos (f := 1) (pc2 := 12) (ls2 := [(0, .ref 162), (1, .int x)]) (st2 := [.int 5, .ref 166, .int 0, .ref 162]) (h2 := hh1x) (dc2 := 0) (ds2 := 0) 1 rfl ?_
  have e5x := (ff3x.2 _ _ (wnc (by decide) wn0) hKn)
  have q6x : (5 : Int32).toInt = 5 := rfl
  refine wq_iald rfl e5x rfl rfl ?_
  refine wq_vi hns.1 ?_
  refine wq_gos (f := 1) (pc2 := 14) (ls2 := [(0, .ref 162), (1, .int x)]) (st2 := [.int x, .int (nI ns), .int 0, .ref 162]) (h2 := hh1x) (dc2 := 0) (ds2 := 0) 1 rfl ?_
  have e7x := (ff3x.2 _ _ (wnc (by decide) wn0) hSn)
  have q8x : (0 : Int32).toInt = 0 := rfl
  try have q9x := nI_toInt (n := ns) (by omega)
  refine wq_inlv (y2 := 176) (as := [.int 0, .int (nI ns), .int x]) rfl rfl rfl e2x rfl (wq_mono (m_spB (f := 0) e2x e7x (by omega)) ?_)
  rintro _ ⟨rfl, p010x⟩
  show wq 187 17 [(0, .ref 162), (1, .int x)] [.int (mspF sn 0 ns x (ns - 0 + 1) 0)] hh1x 0 0 _
  have hx : (mNmd ns sn x) = ((mspF sn 0 ns x (ns - 0 + 1) 0), (0 : Int32)) := by unfold mNmd; rfl
  rw [hx]
  exact wq_ret rfl rfl ⟨hh1x, rfl, (wFr_sub ff3x (by simp)), by omega, e2x⟩
noncomputable def mSpt (ns : Nat) (sq : List Int32) (s j : Int32) : Int32 × Int32 := (if s.toInt < 0 then ((0 : Int32), (0 : Int32)) else (if (nI ns).toInt ≤ s.toInt then ((0 : Int32), (0 : Int32)) else (if j.toInt < 0 then ((0 : Int32), (0 : Int32)) else (if (6 : Int32).toInt ≤ j.toInt then ((0 : Int32), (0 : Int32)) else ((sq.getD ((((6 : Int32) * s) + j)).toNatClampNeg 0), (0 : Int32))))))
set_option maxRecDepth 100000 in
set_option maxHeartbeats 4000000 in
theorem m_spt {h : zH} {n0 n2 n14 n15 n16 n17 n18 n19 n20 n21 n22 n23 n27 n28 n32 n33 n34 n35 n39 n52 : Int32} {ns : Nat} {kn sq : List Int32} {s j : Int32} (hM : zat h 162 = some (.inr (.inr (.inr (10, mO n0 n2 n14 n15 n16 n17 n18 n19 n20 n21 n22 n23 n27 n28 n32 n33 n34 n35 n39 n52))))) (hKn : zat h 166 = some (.inl (0, 14, kn))) (hSq : zat h 178 = some (.inl (0, 96, sq))) (hns : kn.getD 5 0 = nI ns ∧ ns ≤ 8) : wq 211 0 [(0, .ref 162), (1, .int s), (2, .int j)] [] h 0 0 (fun rr9 => ∃ (h2 : zH), rr9 = (some (.int ((mSpt ns sq s j).1)), h2, 0, 0) ∧ wFr [162] h h2 ∧ h2.length = h.length ∧ zat h2 162 = some (.inr (.inr (.inr (10, mO ((mSpt ns sq s j).2) n2 n14 n15 n16 n17 n18 n19 n20 n21 n22 n23 n27 n28 n32 n33 n34 n35 n39 n52))))) := by
  have z0 : (0 : Int32).toInt = 0 := rfl
  have z1 : (1 : Int32).toInt = 1 := rfl
  have z5 : (5 : Int32).toInt = 5 := rfl
  have z6 : (6 : Int32).toInt = 6 := rfl
  have zm1 : (-1 : Int32).toInt = -1 := rfl
  have z3 : (3 : Int32).toInt = 3 := rfl
  have z2 : (2 : Int32).toInt = 2 := rfl
  have z20 : (20 : Int32).toInt = 20 := rfl
  have qnns := nI_toInt (n := ns) (by omega)
  have hn8 := hns.2
  refine wq_gos (f := 1) (pc2 := 2) (ls2 := [(0, .ref 162), (1, .int s), (2, .int j)]) (st2 := [.int 0, .ref 162]) (h2 := h) (dc2 := 0) (ds2 := 0) 2 rfl ?_
  refine wq_putf rfl hM rfl rfl rfl ?_
  intro hh1x e2x ff3x lh4x
  have e2x : zat hh1x 162 = some (.inr (.inr (.inr (10, mO (0 : Int32) n2 n14 n15 n16 n17 n18 n19 n20 n21 n22 n23 n27 n28 n32 n33 n34 n35 n39 n52)))) := e2x
  refine wq_gos (f := 1) (pc2 := 7) (ls2 := [(0, .ref 162), (1, .int s), (2, .int j)]) (st2 := [.int s, .ref 162]) (h2 := hh1x) (dc2 := 0) (ds2 := 0) 2 rfl ?_
  refine wq_inlv (y2 := 209) (as := [.int s]) rfl rfl rfl e2x rfl ?_
  show wq 209 0 [(0, .ref 162), (1, .int s)] [] hh1x 0 0 _
  refine wq_gos (f := 1) (pc2 := 1) (ls2 := [(0, .ref 162), (1, .int s)]) (st2 := [.int s]) (h2 := hh1x) (dc2 := 0) (ds2 := 0) 1 rfl ?_
  refine wq_lt0 rfl rfl (fun b5x => ?_) (fun b5x => ?_)
  · refine wq_gos (f := 1) (pc2 := 19) (ls2 := [(0, .ref 162), (1, .int s)]) (st2 := [.int 0]) (h2 := hh1x) (dc2 := 0) (ds2 := 0) 1 rfl ?_
    refine wq_ret rfl rfl ?_
    show wq 211 10 [(0, .ref 162), (1, .int s), (2, .int j)] [.int 0] hh1x 0 0 _
    refine wq_gos (f := 1) (pc2 := 35) (ls2 := [(0, .ref 162), (1, .int s), (2, .int j)]) (st2 := [.int 0]) (h2 := hh1x) (dc2 := 0) (ds2 := 0) 2 rfl ?_
    have hx : (mSpt ns sq s j) = ((0 : Int32), (0 : Int32)) := by unfold mSpt; rw [if_pos b5x]
    rw [hx]
    exact wq_ret rfl rfl ⟨hh1x, rfl, (wFr_sub ff3x (by simp)), by omega, e2x⟩
  · refine wq_gos (f := 1) (pc2 := 6) (ls2 := [(0, .ref 162), (1, .int s)]) (st2 := [.ref 162, .int s]) (h2 := hh1x) (dc2 := 0) (ds2 := 0) 2 rfl ?_
    refine wq_getf rfl e2x rfl rfl ?_
    refine wq_gos (f := 1) (pc2 := 10) (ls2 := [(0, .ref 162), (1, .int s)]) (st2 := [.int 5, .ref 166, .int s]) (h2 := hh1x) (dc2 := 0) (ds2 := 0) 1 rfl ?_
    have e6x := (ff3x.2 _ _ (wnc (by decide) wn0) hKn)
    have q7x : (5 : Int32).toInt = 5 := rfl
    refine wq_iald rfl e6x rfl rfl ?_
    refine wq_vi hns.1 ?_
    try have q8x := nI_toInt (n := ns) (by omega)
    refine wq_ge2 rfl rfl (fun b9x => ?_) (fun b9x => ?_)
    · refine wq_gos (f := 1) (pc2 := 19) (ls2 := [(0, .ref 162), (1, .int s)]) (st2 := [.int 0]) (h2 := hh1x) (dc2 := 0) (ds2 := 0) 1 rfl ?_
      refine wq_ret rfl rfl ?_
      show wq 211 10 [(0, .ref 162), (1, .int s), (2, .int j)] [.int 0] hh1x 0 0 _
      refine wq_gos (f := 1) (pc2 := 35) (ls2 := [(0, .ref 162), (1, .int s), (2, .int j)]) (st2 := [.int 0]) (h2 := hh1x) (dc2 := 0) (ds2 := 0) 2 rfl ?_
      have hx : (mSpt ns sq s j) = ((0 : Int32), (0 : Int32)) := by unfold mSpt; rw [if_neg (Int.not_lt.mpr b5x), if_pos b9x]
      rw [hx]
      exact wq_ret rfl rfl ⟨hh1x, rfl, (wFr_sub ff3x (by simp)), by omega, e2x⟩
    · refine wq_gos (f := 1) (pc2 := 19) (ls2 := [(0, .ref 162), (1, .int s)]) (st2 := [.int 1]) (h2 := hh1x) (dc2 := 0) (ds2 := 0) 2 rfl ?_
      refine wq_ret rfl rfl ?_
      show wq 211 10 [(0, .ref 162), (1, .int s), (2, .int j)] [.int 1] hh1x 0 0 _
      refine wq_gos (f := 1) (pc2 := 14) (ls2 := [(0, .ref 162), (1, .int s), (2, .int j)]) (st2 := [.int j]) (h2 := hh1x) (dc2 := 0) (ds2 := 0) 2 rfl ?_
      refine wq_inl (y2 := 208) (as := [.int j]) rfl rfl rfl ?_
      show wq 208 0 [(0, .int j)] [] hh1x 0 0 _
      refine wq_gos (f := 1) (pc2 := 1) (ls2 := [(0, .int j)]) (st2 := [.int j]) (h2 := hh1x) (dc2 := 0) (ds2 := 0) 1 rfl ?_
      refine wq_lt0 rfl rfl (fun b10x => ?_) (fun b10x => ?_)
      · refine wq_gos (f := 1) (pc2 := 15) (ls2 := [(0, .int j)]) (st2 := [.int 0]) (h2 := hh1x) (dc2 := 0) (ds2 := 0) 1 rfl ?_
        refine wq_ret rfl rfl ?_
        show wq 211 17 [(0, .ref 162), (1, .int s), (2, .int j)] [.int 0] hh1x 0 0 _
        refine wq_gos (f := 1) (pc2 := 35) (ls2 := [(0, .ref 162), (1, .int s), (2, .int j)]) (st2 := [.int 0]) (h2 := hh1x) (dc2 := 0) (ds2 := 0) 2 rfl ?_
        have hx : (mSpt ns sq s j) = ((0 : Int32), (0 : Int32)) := by unfold mSpt; rw [if_neg (Int.not_lt.mpr b5x), if_neg (Int.not_le.mpr b9x), if_pos b10x]
        rw [hx]
        exact wq_ret rfl rfl ⟨hh1x, rfl, (wFr_sub ff3x (by simp)), by omega, e2x⟩
      · refine wq_gos (f := 1) (pc2 := 7) (ls2 := [(0, .int j)]) (st2 := [.int 6, .int j]) (h2 := hh1x) (dc2 := 0) (ds2 := 0) 2 rfl ?_
        have q11x : (6 : Int32).toInt = 6 := rfl
        refine wq_ge2 rfl rfl (fun b12x => ?_) (fun b12x => ?_)
        · refine wq_gos (f := 1) (pc2 := 15) (ls2 := [(0, .int j)]) (st2 := [.int 0]) (h2 := hh1x) (dc2 := 0) (ds2 := 0) 1 rfl ?_
          refine wq_ret rfl rfl ?_
          show wq 211 17 [(0, .ref 162), (1, .int s), (2, .int j)] [.int 0] hh1x 0 0 _
          refine wq_gos (f := 1) (pc2 := 35) (ls2 := [(0, .ref 162), (1, .int s), (2, .int j)]) (st2 := [.int 0]) (h2 := hh1x) (dc2 := 0) (ds2 := 0) 2 rfl ?_
          have hx : (mSpt ns sq s j) = ((0 : Int32), (0 : Int32)) := by unfold mSpt; rw [if_neg (Int.not_lt.mpr b5x), if_neg (Int.not_le.mpr b9x), if_neg (Int.not_lt.mpr b10x), if_pos b12x]
          rw [hx]
          exact wq_ret rfl rfl ⟨hh1x, rfl, (wFr_sub ff3x (by simp)), by omega, e2x⟩
        · refine wq_gos (f := 1) (pc2 := 15) (ls2 := [(0, .int j)]) (st2 := [.int 1]) (h2 := hh1x) (dc2 := 0) (ds2 := 0) 2 rfl ?_
          refine wq_ret rfl rfl ?_
          show wq 211 17 [(0, .ref 162), (1, .int s), (2, .int j)] [.int 1] hh1x 0 0 _
          refine wq_gos (f := 1) (pc2 := 21) (ls2 := [(0, .ref 162), (1, .int s), (2, .int j)]) (st2 := [.ref 162]) (h2 := hh1x) (dc2 := 0) (ds2 := 0) 2 rfl ?_
          refine wq_getf rfl e2x rfl rfl ?_
          refine wq_gos (f := 1) (pc2 := 30) (ls2 := [(0, .ref 162), (1, .int s), (2, .int j)]) (st2 := [.int (((6 : Int32) * s) + j), .ref 178]) (h2 := hh1x) (dc2 := 0) (ds2 := 0) 5 rfl ?_
          have e13x := (ff3x.2 _ _ (wnc (by decide) wn0) hSq)
          try have q14x : (((6 : Int32) * s)).toInt = 6 * s.toInt := e_mull rfl (by omega) (by omega)
          try have q15x : ((((6 : Int32) * s) + j)).toInt = ((6 : Int32) * s).toInt + j.toInt := e_add (by omega) (by omega)
          refine wq_iald rfl e13x (by first | omega | exact zin_t (by omega) (by omega)) rfl ?_
          refine wq_gos (f := 1) (pc2 := 35) (ls2 := [(0, .ref 162), (1, .int s), (2, .int j)]) (st2 := [.int (sq.getD ((((6 : Int32) * s) + j)).toNatClampNeg 0)]) (h2 := hh1x) (dc2 := 0) (ds2 := 0) 1 rfl ?_
          have hx : (mSpt ns sq s j) = ((sq.getD ((((6 : Int32) * s) + j)).toNatClampNeg 0), (0 : Int32)) := by unfold mSpt; rw [if_neg (Int.not_lt.mpr b5x), if_neg (Int.not_le.mpr b9x), if_neg (Int.not_lt.mpr b10x), if_neg (Int.not_le.mpr b12x)]
          rw [hx]
          exact wq_ret rfl rfl ⟨hh1x, rfl, (wFr_sub ff3x (by simp)), by omega, e2x⟩
noncomputable def mJnt (lo hi sv nw : List Int32) (j w : Int32) : Int32 × Int32 := (if j.toInt < 0 then ((0 : Int32), (1 : Int32)) else (if (6 : Int32).toInt ≤ j.toInt then ((0 : Int32), (1 : Int32)) else (if w.toInt < 0 then ((0 : Int32), (2 : Int32)) else (if w.toInt ≤ (3 : Int32).toInt then (if w ≠ (0 : Int32) then (if w ≠ (1 : Int32) then (if w ≠ (2 : Int32) then ((sv.getD (j).toNatClampNeg 0), (0 : Int32)) else ((hi.getD (j).toNatClampNeg 0), (0 : Int32))) else ((lo.getD (j).toNatClampNeg 0), (0 : Int32))) else ((nw.getD (j).toNatClampNeg 0), (0 : Int32))) else ((0 : Int32), (2 : Int32))))))
set_option maxRecDepth 100000 in
set_option maxHeartbeats 4000000 in
theorem m_jnt {h : zH} {n0 n2 n14 n15 n16 n17 n18 n19 n20 n21 n22 n23 n27 n28 n32 n33 n34 n35 n39 n52 : Int32} {lo hi sv nw : List Int32} {j w : Int32} (hM : zat h 162 = some (.inr (.inr (.inr (10, mO n0 n2 n14 n15 n16 n17 n18 n19 n20 n21 n22 n23 n27 n28 n32 n33 n34 n35 n39 n52))))) (hLo : zat h 168 = some (.inl (0, 12, lo))) (hHi : zat h 170 = some (.inl (0, 12, hi))) (hSv : zat h 172 = some (.inl (0, 12, sv))) (hNw : zat h 188 = some (.inl (0, 6, nw)))  : wq 210 0 [(0, .ref 162), (1, .int j), (2, .int w)] [] h 0 0 (fun rr9 => ∃ (h2 : zH), rr9 = (some (.int ((mJnt lo hi sv nw j w).1)), h2, 0, 0) ∧ wFr [162] h h2 ∧ h2.length = h.length ∧ zat h2 162 = some (.inr (.inr (.inr (10, mO ((mJnt lo hi sv nw j w).2) n2 n14 n15 n16 n17 n18 n19 n20 n21 n22 n23 n27 n28 n32 n33 n34 n35 n39 n52))))) := by
  have z0 : (0 : Int32).toInt = 0 := rfl
  have z1 : (1 : Int32).toInt = 1 := rfl
  have z5 : (5 : Int32).toInt = 5 := rfl
  have z6 : (6 : Int32).toInt = 6 := rfl
  have zm1 : (-1 : Int32).toInt = -1 := rfl
  have z3 : (3 : Int32).toInt = 3 := rfl
  have z2 : (2 : Int32).toInt = 2 := rfl
  have z20 : (20 : Int32).toInt = 20 := rfl
  refine wq_gos (f := 1) (pc2 := 2) (ls2 := [(0, .ref 162), (1, .int j), (2, .int w)]) (st2 := [.int 0, .ref 162]) (h2 := h) (dc2 := 0) (ds2 := 0) 2 rfl ?_
  refine wq_putf rfl hM rfl rfl rfl ?_
  intro hh1x e2x ff3x lh4x
  have e2x : zat hh1x 162 = some (.inr (.inr (.inr (10, mO (0 : Int32) n2 n14 n15 n16 n17 n18 n19 n20 n21 n22 n23 n27 n28 n32 n33 n34 n35 n39 n52)))) := e2x
  refine wq_gos (f := 1) (pc2 := 6) (ls2 := [(0, .ref 162), (1, .int j), (2, .int w)]) (st2 := [.int j]) (h2 := hh1x) (dc2 := 0) (ds2 := 0) 1 rfl ?_
  refine wq_inl (y2 := 208) (as := [.int j]) rfl rfl rfl ?_
  show wq 208 0 [(0, .int j)] [] hh1x 0 0 _
  refine wq_gos (f := 1) (pc2 := 1) (ls2 := [(0, .int j)]) (st2 := [.int j]) (h2 := hh1x) (dc2 := 0) (ds2 := 0) 1 rfl ?_
  refine wq_lt0 rfl rfl (fun b5x => ?_) (fun b5x => ?_)
  · refine wq_gos (f := 1) (pc2 := 15) (ls2 := [(0, .int j)]) (st2 := [.int 0]) (h2 := hh1x) (dc2 := 0) (ds2 := 0) 1 rfl ?_
    refine wq_ret rfl rfl ?_
    show wq 210 9 [(0, .ref 162), (1, .int j), (2, .int w)] [.int 0] hh1x 0 0 _
    refine wq_gos (f := 1) (pc2 := 14) (ls2 := [(0, .ref 162), (1, .int j), (2, .int w)]) (st2 := [.int 1, .ref 162]) (h2 := hh1x) (dc2 := 0) (ds2 := 0) 3 rfl ?_
    refine wq_putf rfl e2x rfl rfl rfl ?_
    intro hh6x e7x ff8x lh9x
    have e7x : zat hh6x 162 = some (.inr (.inr (.inr (10, mO (1 : Int32) n2 n14 n15 n16 n17 n18 n19 n20 n21 n22 n23 n27 n28 n32 n33 n34 n35 n39 n52)))) := e7x
    refine wq_gos (f := 1) (pc2 := 18) (ls2 := [(0, .ref 162), (1, .int j), (2, .int w)]) (st2 := [.int 0]) (h2 := hh6x) (dc2 := 0) (ds2 := 0) 1 rfl ?_
    have hx : (mJnt lo hi sv nw j w) = ((0 : Int32), (1 : Int32)) := by unfold mJnt; rw [if_pos b5x]
    rw [hx]
    exact wq_ret rfl rfl ⟨hh6x, rfl, (wFr_tr (wFr_sub ff3x (by simp)) (wFr_sub ff8x (by simp))), by omega, e7x⟩
  · refine wq_gos (f := 1) (pc2 := 7) (ls2 := [(0, .int j)]) (st2 := [.int 6, .int j]) (h2 := hh1x) (dc2 := 0) (ds2 := 0) 2 rfl ?_
    have q10x : (6 : Int32).toInt = 6 := rfl
    refine wq_ge2 rfl rfl (fun b11x => ?_) (fun b11x => ?_)
    · refine wq_gos (f := 1) (pc2 := 15) (ls2 := [(0, .int j)]) (st2 := [.int 0]) (h2 := hh1x) (dc2 := 0) (ds2 := 0) 1 rfl ?_
      refine wq_ret rfl rfl ?_
      show wq 210 9 [(0, .ref 162), (1, .int j), (2, .int w)] [.int 0] hh1x 0 0 _
      refine wq_gos (f := 1) (pc2 := 14) (ls2 := [(0, .ref 162), (1, .int j), (2, .int w)]) (st2 := [.int 1, .ref 162]) (h2 := hh1x) (dc2 := 0) (ds2 := 0) 3 rfl ?_
      refine wq_putf rfl e2x rfl rfl rfl ?_
      intro hh12x e13x ff14x lh15x
      have e13x : zat hh12x 162 = some (.inr (.inr (.inr (10, mO (1 : Int32) n2 n14 n15 n16 n17 n18 n19 n20 n21 n22 n23 n27 n28 n32 n33 n34 n35 n39 n52)))) := e13x
      refine wq_gos (f := 1) (pc2 := 18) (ls2 := [(0, .ref 162), (1, .int j), (2, .int w)]) (st2 := [.int 0]) (h2 := hh12x) (dc2 := 0) (ds2 := 0) 1 rfl ?_
      have hx : (mJnt lo hi sv nw j w) = ((0 : Int32), (1 : Int32)) := by unfold mJnt; rw [if_neg (Int.not_lt.mpr b5x), if_pos b11x]
      rw [hx]
      exact wq_ret rfl rfl ⟨hh12x, rfl, (wFr_tr (wFr_sub ff3x (by simp)) (wFr_sub ff14x (by simp))), by omega, e13x⟩
    · refine wq_gos (f := 1) (pc2 := 15) (ls2 := [(0, .int j)]) (st2 := [.int 1]) (h2 := hh1x) (dc2 := 0) (ds2 := 0) 2 rfl ?_
      refine wq_ret rfl rfl ?_
      show wq 210 9 [(0, .ref 162), (1, .int j), (2, .int w)] [.int 1] hh1x 0 0 _
      refine wq_gos (f := 1) (pc2 := 20) (ls2 := [(0, .ref 162), (1, .int j), (2, .int w)]) (st2 := [.int w]) (h2 := hh1x) (dc2 := 0) (ds2 := 0) 2 rfl ?_
      refine wq_lt0 rfl rfl (fun b16x => ?_) (fun b16x => ?_)
      · refine wq_gos (f := 1) (pc2 := 30) (ls2 := [(0, .ref 162), (1, .int j), (2, .int w)]) (st2 := [.int 2, .ref 162]) (h2 := hh1x) (dc2 := 0) (ds2 := 0) 2 rfl ?_
        refine wq_putf rfl e2x rfl rfl rfl ?_
        intro hh17x e18x ff19x lh20x
        have e18x : zat hh17x 162 = some (.inr (.inr (.inr (10, mO (2 : Int32) n2 n14 n15 n16 n17 n18 n19 n20 n21 n22 n23 n27 n28 n32 n33 n34 n35 n39 n52)))) := e18x
        refine wq_gos (f := 1) (pc2 := 34) (ls2 := [(0, .ref 162), (1, .int j), (2, .int w)]) (st2 := [.int 0]) (h2 := hh17x) (dc2 := 0) (ds2 := 0) 1 rfl ?_
        have hx : (mJnt lo hi sv nw j w) = ((0 : Int32), (2 : Int32)) := by unfold mJnt; rw [if_neg (Int.not_lt.mpr b5x), if_neg (Int.not_le.mpr b11x), if_pos b16x]
        rw [hx]
        exact wq_ret rfl rfl ⟨hh17x, rfl, (wFr_tr (wFr_sub ff3x (by simp)) (wFr_sub ff19x (by simp))), by omega, e18x⟩
      · refine wq_gos (f := 1) (pc2 := 25) (ls2 := [(0, .ref 162), (1, .int j), (2, .int w)]) (st2 := [.int 3, .int w]) (h2 := hh1x) (dc2 := 0) (ds2 := 0) 2 rfl ?_
        have q21x : (3 : Int32).toInt = 3 := rfl
        refine wq_le2 rfl rfl (fun b22x => ?_) (fun b22x => ?_)
        · refine wq_gos (f := 1) (pc2 := 36) (ls2 := [(0, .ref 162), (1, .int j), (2, .int w)]) (st2 := [.int w]) (h2 := hh1x) (dc2 := 0) (ds2 := 0) 1 rfl ?_
          refine wq_ne0 rfl rfl (fun b23x => ?_) (fun b23x => ?_)
          · have q24x : w.toInt ≠ 0 := fun q => b23x (Int32.toInt_inj.mp q)
            refine wq_gos (f := 1) (pc2 := 50) (ls2 := [(0, .ref 162), (1, .int j), (2, .int w)]) (st2 := [.int 1, .int w]) (h2 := hh1x) (dc2 := 0) (ds2 := 0) 2 rfl ?_
            have q25x : (1 : Int32).toInt = 1 := rfl
            refine wq_ne2 rfl rfl (fun b26x => ?_) (fun b26x => ?_)
            · have q27x : w.toInt ≠ 1 := fun q => b26x (Int32.toInt_inj.mp q)
              refine wq_gos (f := 1) (pc2 := 64) (ls2 := [(0, .ref 162), (1, .int j), (2, .int w)]) (st2 := [.int 2, .int w]) (h2 := hh1x) (dc2 := 0) (ds2 := 0) 2 rfl ?_
              have q28x : (2 : Int32).toInt = 2 := rfl
              refine wq_ne2 rfl rfl (fun b29x => ?_) (fun b29x => ?_)
              · have q30x : w.toInt ≠ 2 := fun q => b29x (Int32.toInt_inj.mp q)
                refine wq_gos (f := 1) (pc2 := 77) (ls2 := [(0, .ref 162), (1, .int j), (2, .int w)]) (st2 := [.ref 162]) (h2 := hh1x) (dc2 := 0) (ds2 := 0) 1 rfl ?_
                refine wq_getf rfl e2x rfl rfl ?_
                refine wq_gos (f := 1) (pc2 := 81) (ls2 := [(0, .ref 162), (1, .int j), (2, .int w)]) (st2 := [.int j, .ref 172]) (h2 := hh1x) (dc2 := 0) (ds2 := 0) 1 rfl ?_
                have e31x := (ff3x.2 _ _ (wnc (by decide) wn0) hSv)
                refine wq_iald rfl e31x (by first | omega | exact zin_t (by omega) (by omega)) rfl ?_
                have hx : (mJnt lo hi sv nw j w) = ((sv.getD (j).toNatClampNeg 0), (0 : Int32)) := by unfold mJnt; rw [if_neg (Int.not_lt.mpr b5x), if_neg (Int.not_le.mpr b11x), if_neg (Int.not_lt.mpr b16x), if_pos b22x, if_pos b23x, if_pos b26x, if_pos b29x]
                rw [hx]
                exact wq_ret rfl rfl ⟨hh1x, rfl, (wFr_sub ff3x (by simp)), by omega, e2x⟩
              · have q32x : w.toInt = 2 := congrArg Int32.toInt b29x
                refine wq_gos (f := 1) (pc2 := 68) (ls2 := [(0, .ref 162), (1, .int j), (2, .int w)]) (st2 := [.ref 162]) (h2 := hh1x) (dc2 := 0) (ds2 := 0) 1 rfl ?_
                refine wq_getf rfl e2x rfl rfl ?_
                refine wq_gos (f := 1) (pc2 := 72) (ls2 := [(0, .ref 162), (1, .int j), (2, .int w)]) (st2 := [.int j, .ref 170]) (h2 := hh1x) (dc2 := 0) (ds2 := 0) 1 rfl ?_
                have e33x := (ff3x.2 _ _ (wnc (by decide) wn0) hHi)
                refine wq_iald rfl e33x (by first | omega | exact zin_t (by omega) (by omega)) rfl ?_
                refine wq_gos (f := 1) (pc2 := 82) (ls2 := [(0, .ref 162), (1, .int j), (2, .int w)]) (st2 := [.int (hi.getD (j).toNatClampNeg 0)]) (h2 := hh1x) (dc2 := 0) (ds2 := 0) 1 rfl ?_
                have hx : (mJnt lo hi sv nw j w) = ((hi.getD (j).toNatClampNeg 0), (0 : Int32)) := by unfold mJnt; rw [if_neg (Int.not_lt.mpr b5x), if_neg (Int.not_le.mpr b11x), if_neg (Int.not_lt.mpr b16x), if_pos b22x, if_pos b23x, if_pos b26x, if_neg (fun q => q b29x)]
                rw [hx]
                exact wq_ret rfl rfl ⟨hh1x, rfl, (wFr_sub ff3x (by simp)), by omega, e2x⟩
            · have q34x : w.toInt = 1 := congrArg Int32.toInt b26x
              refine wq_gos (f := 1) (pc2 := 54) (ls2 := [(0, .ref 162), (1, .int j), (2, .int w)]) (st2 := [.ref 162]) (h2 := hh1x) (dc2 := 0) (ds2 := 0) 1 rfl ?_
              refine wq_getf rfl e2x rfl rfl ?_
              refine wq_gos (f := 1) (pc2 := 58) (ls2 := [(0, .ref 162), (1, .int j), (2, .int w)]) (st2 := [.int j, .ref 168]) (h2 := hh1x) (dc2 := 0) (ds2 := 0) 1 rfl ?_
              have e35x := (ff3x.2 _ _ (wnc (by decide) wn0) hLo)
              refine wq_iald rfl e35x (by first | omega | exact zin_t (by omega) (by omega)) rfl ?_
              refine wq_gos (f := 1) (pc2 := 82) (ls2 := [(0, .ref 162), (1, .int j), (2, .int w)]) (st2 := [.int (lo.getD (j).toNatClampNeg 0)]) (h2 := hh1x) (dc2 := 0) (ds2 := 0) 1 rfl ?_
              have hx : (mJnt lo hi sv nw j w) = ((lo.getD (j).toNatClampNeg 0), (0 : Int32)) := by unfold mJnt; rw [if_neg (Int.not_lt.mpr b5x), if_neg (Int.not_le.mpr b11x), if_neg (Int.not_lt.mpr b16x), if_pos b22x, if_pos b23x, if_neg (fun q => q b26x)]
              rw [hx]
              exact wq_ret rfl rfl ⟨hh1x, rfl, (wFr_sub ff3x (by simp)), by omega, e2x⟩
          · have q36x : w.toInt = 0 := congrArg Int32.toInt b23x
            refine wq_gos (f := 1) (pc2 := 40) (ls2 := [(0, .ref 162), (1, .int j), (2, .int w)]) (st2 := [.ref 162]) (h2 := hh1x) (dc2 := 0) (ds2 := 0) 1 rfl ?_
            refine wq_getf rfl e2x rfl rfl ?_
            refine wq_gos (f := 1) (pc2 := 44) (ls2 := [(0, .ref 162), (1, .int j), (2, .int w)]) (st2 := [.int j, .ref 188]) (h2 := hh1x) (dc2 := 0) (ds2 := 0) 1 rfl ?_
            have e37x := (ff3x.2 _ _ (wnc (by decide) wn0) hNw)
            refine wq_iald rfl e37x (by first | omega | exact zin_t (by omega) (by omega)) rfl ?_
            refine wq_gos (f := 1) (pc2 := 82) (ls2 := [(0, .ref 162), (1, .int j), (2, .int w)]) (st2 := [.int (nw.getD (j).toNatClampNeg 0)]) (h2 := hh1x) (dc2 := 0) (ds2 := 0) 1 rfl ?_
            have hx : (mJnt lo hi sv nw j w) = ((nw.getD (j).toNatClampNeg 0), (0 : Int32)) := by unfold mJnt; rw [if_neg (Int.not_lt.mpr b5x), if_neg (Int.not_le.mpr b11x), if_neg (Int.not_lt.mpr b16x), if_pos b22x, if_neg (fun q => q b23x)]
            rw [hx]
            exact wq_ret rfl rfl ⟨hh1x, rfl, (wFr_sub ff3x (by simp)), by omega, e2x⟩
        · refine wq_gos (f := 1) (pc2 := 30) (ls2 := [(0, .ref 162), (1, .int j), (2, .int w)]) (st2 := [.int 2, .ref 162]) (h2 := hh1x) (dc2 := 0) (ds2 := 0) 2 rfl ?_
          refine wq_putf rfl e2x rfl rfl rfl ?_
          intro hh38x e39x ff40x lh41x
          have e39x : zat hh38x 162 = some (.inr (.inr (.inr (10, mO (2 : Int32) n2 n14 n15 n16 n17 n18 n19 n20 n21 n22 n23 n27 n28 n32 n33 n34 n35 n39 n52)))) := e39x
          refine wq_gos (f := 1) (pc2 := 34) (ls2 := [(0, .ref 162), (1, .int j), (2, .int w)]) (st2 := [.int 0]) (h2 := hh38x) (dc2 := 0) (ds2 := 0) 1 rfl ?_
          have hx : (mJnt lo hi sv nw j w) = ((0 : Int32), (2 : Int32)) := by unfold mJnt; rw [if_neg (Int.not_lt.mpr b5x), if_neg (Int.not_le.mpr b11x), if_neg (Int.not_lt.mpr b16x), if_neg (Int.not_le.mpr b22x)]
          rw [hx]
          exact wq_ret rfl rfl ⟨hh38x, rfl, (wFr_tr (wFr_sub ff3x (by simp)) (wFr_sub ff40x (by simp))), by omega, e39x⟩
noncomputable def mHnd (kn nw th : List Int32) (w : Int32) : Int64 × Int32 × List Int32 := (zlet (mPla kn nw 0 th) (fun v10x => (if w.toInt < 0 then (if w ≠ (6 : Int32) then ((0 : Int64), (0 : Int32), (v10x)) else (((mOutO kn nw 0)).toInt64, (0 : Int32), (v10x))) else (if (6 : Int32).toInt ≤ w.toInt then (if w ≠ (6 : Int32) then ((0 : Int64), (0 : Int32), (v10x)) else (((mOutO kn nw 0)).toInt64, (0 : Int32), (v10x))) else ((((v10x).getD (w).toNatClampNeg 0)).toInt64, (0 : Int32), (v10x))))))
set_option maxRecDepth 100000 in
set_option maxHeartbeats 4000000 in
theorem m_hnd {h : zH} {n0 n2 n14 n15 n16 n17 n18 n19 n20 n21 n22 n23 n27 n28 n32 n33 n34 n35 n39 n52 : Int32} {kn nw th : List Int32} {w : Int32} (hM : zat h 162 = some (.inr (.inr (.inr (10, mO n0 n2 n14 n15 n16 n17 n18 n19 n20 n21 n22 n23 n27 n28 n32 n33 n34 n35 n39 n52))))) (hKn : zat h 166 = some (.inl (0, 14, kn))) (hNw : zat h 188 = some (.inl (0, 6, nw))) (hTh : zat h 194 = some (.inl (0, 6, th)))  : wq 213 0 [(0, .ref 162), (1, .int w)] [] h 0 0 (fun rr9 => ∃ (h2 : zH), rr9 = (some (.long ((mHnd kn nw th w).1)), h2, 0, 0) ∧ wFr [162, 194] h h2 ∧ h2.length = h.length ∧ zat h2 162 = some (.inr (.inr (.inr (10, mO ((mHnd kn nw th w).2.1) n2 n14 n15 n16 n17 n18 n19 n20 n21 n22 n23 n27 n28 n32 n33 n34 n35 n39 n52)))) ∧ zat h2 194 = some (.inl (0, 6, ((mHnd kn nw th w).2.2)))) := by
  have z0 : (0 : Int32).toInt = 0 := rfl
  have z1 : (1 : Int32).toInt = 1 := rfl
  have z5 : (5 : Int32).toInt = 5 := rfl
  have z6 : (6 : Int32).toInt = 6 := rfl
  have zm1 : (-1 : Int32).toInt = -1 := rfl
  have z3 : (3 : Int32).toInt = 3 := rfl
  have z2 : (2 : Int32).toInt = 2 := rfl
  have z20 : (20 : Int32).toInt = 20 := rfl
  refine wq_gos (f := 1) (pc2 := 2) (ls2 := [(0, .ref 162), (1, .int w)]) (st2 := [.int 0, .ref 162]) (h2 := h) (dc2 := 0) (ds2 := 0) 2 rfl ?_
  refine wq_putf rfl hM rfl rfl rfl ?_
  intro hh1x e2x ff3x lh4x
  have e2x : zat hh1x 162 = some (.inr (.inr (.inr (10, mO (0 : Int32) n2 n14 n15 n16 n17 n18 n19 n20 n21 n22 n23 n27 n28 n32 n33 n34 n35 n39 n52)))) := e2x
  refine wq_gos (f := 1) (pc2 := 7) (ls2 := [(0, .ref 162), (1, .int w)]) (st2 := [.ref 162, .ref 162]) (h2 := hh1x) (dc2 := 0) (ds2 := 0) 2 rfl ?_
  refine wq_getf rfl e2x rfl rfl ?_
  refine wq_gos (f := 1) (pc2 := 11) (ls2 := [(0, .ref 162), (1, .int w)]) (st2 := [.int 0, .ref 188, .ref 162]) (h2 := hh1x) (dc2 := 0) (ds2 := 0) 1 rfl ?_
  have e5x := (ff3x.2 _ _ (wnc (by decide) wn0) hKn)
  have e6x := (ff3x.2 _ _ (wnc (by decide) wn0) hNw)
  have e7x := (ff3x.2 _ _ (wnc (by decide) wn0) hTh)
  have q8x : (0 : Int32).toInt = 0 := rfl
  refine wq_inlv (y2 := 200) (as := [.ref 188, .int 0]) rfl rfl rfl e2x rfl (wq_mono (m_pla (k := 0) e2x e5x e6x e7x (by decide) (by decide)) ?_)
  rintro _ ⟨h89x, rfl, f89x, l89x, c09x⟩
  show wq 213 14 [(0, .ref 162), (1, .int w)] [] h89x 0 0 _
  obtain ⟨v10x, hv11x⟩ : ∃ x, x = (mPla kn nw 0 th) := ⟨_, rfl⟩
  try rw [← hv11x] at c09x
  try rw [← hv11x]
  refine wq_gos (f := 1) (pc2 := 15) (ls2 := [(0, .ref 162), (1, .int w)]) (st2 := [.int w]) (h2 := h89x) (dc2 := 0) (ds2 := 0) 1 rfl ?_
  refine wq_lt0 rfl rfl (fun b12x => ?_) (fun b12x => ?_)
  · refine wq_gos (f := 1) (pc2 := 37) (ls2 := [(0, .ref 162), (1, .int w)]) (st2 := [.int 6, .int w]) (h2 := h89x) (dc2 := 0) (ds2 := 0) 2 rfl ?_
    have q13x : (6 : Int32).toInt = 6 := rfl
    refine wq_ne2 rfl rfl (fun b14x => ?_) (fun b14x => ?_)
    · have q15x : w.toInt ≠ 6 := fun q => b14x (Int32.toInt_inj.mp q)
      refine wq_gos (f := 1) (pc2 := 54) (ls2 := [(0, .ref 162), (1, .int w)]) (st2 := [.long 0]) (h2 := h89x) (dc2 := 0) (ds2 := 0) 1 rfl ?_
      have e16x := (f89x.2 _ _ (wnc (by decide) wn0) e2x)
      have hx : (mHnd kn nw th w) = ((0 : Int64), (0 : Int32), (v10x)) := by unfold mHnd; rw [zlet_eq hv11x, if_pos b12x, if_pos b14x]
      rw [hx]
      exact wq_ret rfl rfl ⟨h89x, rfl, (wFr_tr (wFr_sub ff3x (by simp)) (wFr_sub f89x (by simp))), by omega, e16x, c09x⟩
    · have q17x : w.toInt = 6 := congrArg Int32.toInt b14x
      refine wq_gos (f := 1) (pc2 := 42) (ls2 := [(0, .ref 162), (1, .int w)]) (st2 := [.ref 162, .ref 162]) (h2 := h89x) (dc2 := 0) (ds2 := 0) 2 rfl ?_
      have e18x := (f89x.2 _ _ (wnc (by decide) wn0) e2x)
      refine wq_getf rfl e18x rfl rfl ?_
      refine wq_gos (f := 1) (pc2 := 46) (ls2 := [(0, .ref 162), (1, .int w)]) (st2 := [.int 0, .ref 188, .ref 162]) (h2 := h89x) (dc2 := 0) (ds2 := 0) 1 rfl ?_
      have e19x := (f89x.2 _ _ (wnc (by decide) wn0) e5x)
      have e20x := (f89x.2 _ _ (wnc (by decide) wn0) e6x)
      refine wq_inlv (y2 := 199) (as := [.ref 188, .int 0]) rfl rfl rfl e18x rfl (wq_mono (m_outOf (k := 0) e18x e19x e20x (by decide)) ?_)
      rintro _ rfl
      show wq 213 49 [(0, .ref 162), (1, .int w)] [.int (mOutO kn nw 0)] h89x 0 0 _
      refine wq_gos (f := 1) (pc2 := 54) (ls2 := [(0, .ref 162), (1, .int w)]) (st2 := [.long ((mOutO kn nw 0)).toInt64]) (h2 := h89x) (dc2 := 0) (ds2 := 0) 2 rfl ?_
      have hx : (mHnd kn nw th w) = (((mOutO kn nw 0)).toInt64, (0 : Int32), (v10x)) := by unfold mHnd; rw [zlet_eq hv11x, if_pos b12x, if_neg (fun q => q b14x)]
      rw [hx]
      exact wq_ret rfl rfl ⟨h89x, rfl, (wFr_tr (wFr_sub ff3x (by simp)) (wFr_sub f89x (by simp))), by omega, e18x, c09x⟩
  · refine wq_gos (f := 1) (pc2 := 21) (ls2 := [(0, .ref 162), (1, .int w)]) (st2 := [.int 6, .int w]) (h2 := h89x) (dc2 := 0) (ds2 := 0) 2 rfl ?_
    have q22x : (6 : Int32).toInt = 6 := rfl
    refine wq_ge2 rfl rfl (fun b23x => ?_) (fun b23x => ?_)
    · refine wq_gos (f := 1) (pc2 := 37) (ls2 := [(0, .ref 162), (1, .int w)]) (st2 := [.int 6, .int w]) (h2 := h89x) (dc2 := 0) (ds2 := 0) 2 rfl ?_
      refine wq_ne2 rfl rfl (fun b24x => ?_) (fun b24x => ?_)
      · have q25x : w.toInt ≠ 6 := fun q => b24x (Int32.toInt_inj.mp q)
        refine wq_gos (f := 1) (pc2 := 54) (ls2 := [(0, .ref 162), (1, .int w)]) (st2 := [.long 0]) (h2 := h89x) (dc2 := 0) (ds2 := 0) 1 rfl ?_
        have e26x := (f89x.2 _ _ (wnc (by decide) wn0) e2x)
        have hx : (mHnd kn nw th w) = ((0 : Int64), (0 : Int32), (v10x)) := by unfold mHnd; rw [zlet_eq hv11x, if_neg (Int.not_lt.mpr b12x), if_pos b23x, if_pos b24x]
        rw [hx]
        exact wq_ret rfl rfl ⟨h89x, rfl, (wFr_tr (wFr_sub ff3x (by simp)) (wFr_sub f89x (by simp))), by omega, e26x, c09x⟩
      · have q27x : w.toInt = 6 := congrArg Int32.toInt b24x
        refine wq_gos (f := 1) (pc2 := 42) (ls2 := [(0, .ref 162), (1, .int w)]) (st2 := [.ref 162, .ref 162]) (h2 := h89x) (dc2 := 0) (ds2 := 0) 2 rfl ?_
        have e28x := (f89x.2 _ _ (wnc (by decide) wn0) e2x)
        refine wq_getf rfl e28x rfl rfl ?_
        refine wq_gos (f := 1) (pc2 := 46) (ls2 := [(0, .ref 162), (1, .int w)]) (st2 := [.int 0, .ref 188, .ref 162]) (h2 := h89x) (dc2 := 0) (ds2 := 0) 1 rfl ?_
        have e29x := (f89x.2 _ _ (wnc (by decide) wn0) e5x)
        have e30x := (f89x.2 _ _ (wnc (by decide) wn0) e6x)
        refine wq_inlv (y2 := 199) (as := [.ref 188, .int 0]) rfl rfl rfl e28x rfl (wq_mono (m_outOf (k := 0) e28x e29x e30x (by decide)) ?_)
        rintro _ rfl
        show wq 213 49 [(0, .ref 162), (1, .int w)] [.int (mOutO kn nw 0)] h89x 0 0 _
        refine wq_gos (f := 1) (pc2 := 54) (ls2 := [(0, .ref 162), (1, .int w)]) (st2 := [.long ((mOutO kn nw 0)).toInt64]) (h2 := h89x) (dc2 := 0) (ds2 := 0) 2 rfl ?_
        have hx : (mHnd kn nw th w) = (((mOutO kn nw 0)).toInt64, (0 : Int32), (v10x)) := by unfold mHnd; rw [zlet_eq hv11x, if_neg (Int.not_lt.mpr b12x), if_pos b23x, if_neg (fun q => q b24x)]
        rw [hx]
        exact wq_ret rfl rfl ⟨h89x, rfl, (wFr_tr (wFr_sub ff3x (by simp)) (wFr_sub f89x (by simp))), by omega, e28x, c09x⟩
    · refine wq_gos (f := 1) (pc2 := 25) (ls2 := [(0, .ref 162), (1, .int w)]) (st2 := [.ref 162]) (h2 := h89x) (dc2 := 0) (ds2 := 0) 1 rfl ?_
      have e32x := (f89x.2 _ _ (wnc (by decide) wn0) e2x)
      refine wq_getf rfl e32x rfl rfl ?_
      refine wq_gos (f := 1) (pc2 := 29) (ls2 := [(0, .ref 162), (1, .int w)]) (st2 := [.int w, .ref 194]) (h2 := h89x) (dc2 := 0) (ds2 := 0) 1 rfl ?_
      refine wq_iald rfl c09x (by first | omega | exact zin_t (by omega) (by omega)) rfl ?_
      refine wq_gos (f := 1) (pc2 := 54) (ls2 := [(0, .ref 162), (1, .int w)]) (st2 := [.long (((v10x).getD (w).toNatClampNeg 0)).toInt64]) (h2 := h89x) (dc2 := 0) (ds2 := 0) 2 rfl ?_
      have hx : (mHnd kn nw th w) = ((((v10x).getD (w).toNatClampNeg 0)).toInt64, (0 : Int32), (v10x)) := by unfold mHnd; rw [zlet_eq hv11x, if_neg (Int.not_lt.mpr b12x), if_neg (Int.not_le.mpr b23x)]
      rw [hx]
      exact wq_ret rfl rfl ⟨h89x, rfl, (wFr_tr (wFr_sub ff3x (by simp)) (wFr_sub f89x (by simp))), by omega, e32x, c09x⟩
noncomputable def mNow (lo hi nw : List Int32) (w : Int32) : Int32 × Int32 := (if w ≠ (0 : Int32) then (if w ≠ (1 : Int32) then (if w ≠ (2 : Int32) then (if w ≠ (3 : Int32) then ((-9 : Int32), (0 : Int32)) else ((mbyF lo hi nw (6 - 0 + 1) 0 0), (0 : Int32))) else ((mMea nw 0), (0 : Int32))) else ((mBen nw 0), (0 : Int32))) else ((mSid nw 0), (0 : Int32)))
set_option maxRecDepth 100000 in
set_option maxHeartbeats 4000000 in
theorem m_now {h : zH} {n0 n2 n14 n15 n16 n17 n18 n19 n20 n21 n22 n23 n27 n28 n32 n33 n34 n35 n39 n52 : Int32} {lo hi nw : List Int32} {w : Int32} (hM : zat h 162 = some (.inr (.inr (.inr (10, mO n0 n2 n14 n15 n16 n17 n18 n19 n20 n21 n22 n23 n27 n28 n32 n33 n34 n35 n39 n52))))) (hLo : zat h 168 = some (.inl (0, 12, lo))) (hHi : zat h 170 = some (.inl (0, 12, hi))) (hNw : zat h 188 = some (.inl (0, 6, nw)))  : wq 215 0 [(0, .ref 162), (1, .int w)] [] h 0 0 (fun rr9 => ∃ (h2 : zH), rr9 = (some (.int ((mNow lo hi nw w).1)), h2, 0, 0) ∧ wFr [162] h h2 ∧ h2.length = h.length ∧ zat h2 162 = some (.inr (.inr (.inr (10, mO ((mNow lo hi nw w).2) n2 n14 n15 n16 n17 n18 n19 n20 n21 n22 n23 n27 n28 n32 n33 n34 n35 n39 n52))))) := by
  have z0 : (0 : Int32).toInt = 0 := rfl
  have z1 : (1 : Int32).toInt = 1 := rfl
  have z5 : (5 : Int32).toInt = 5 := rfl
  have z6 : (6 : Int32).toInt = 6 := rfl
  have zm1 : (-1 : Int32).toInt = -1 := rfl
  have z3 : (3 : Int32).toInt = 3 := rfl
  have z2 : (2 : Int32).toInt = 2 := rfl
  have z20 : (20 : Int32).toInt = 20 := rfl
  refine wq_gos (f := 1) (pc2 := 2) (ls2 := [(0, .ref 162), (1, .int w)]) (st2 := [.int 0, .ref 162]) (h2 := h) (dc2 := 0) (ds2 := 0) 2 rfl ?_
  refine wq_putf rfl hM rfl rfl rfl ?_
  intro hh1x e2x ff3x lh4x
  have e2x : zat hh1x 162 = some (.inr (.inr (.inr (10, mO (0 : Int32) n2 n14 n15 n16 n17 n18 n19 n20 n21 n22 n23 n27 n28 n32 n33 n34 n35 n39 n52)))) := e2x
  refine wq_gos (f := 1) (pc2 := 6) (ls2 := [(0, .ref 162), (1, .int w)]) (st2 := [.int w]) (h2 := hh1x) (dc2 := 0) (ds2 := 0) 1 rfl ?_
  refine wq_ne0 rfl rfl (fun b5x => ?_) (fun b5x => ?_)
  · have q6x : w.toInt ≠ 0 := fun q => b5x (Int32.toInt_inj.mp q)
    refine wq_gos (f := 1) (pc2 := 22) (ls2 := [(0, .ref 162), (1, .int w)]) (st2 := [.int 1, .int w]) (h2 := hh1x) (dc2 := 0) (ds2 := 0) 2 rfl ?_
    have q7x : (1 : Int32).toInt = 1 := rfl
    refine wq_ne2 rfl rfl (fun b8x => ?_) (fun b8x => ?_)
    · have q9x : w.toInt ≠ 1 := fun q => b8x (Int32.toInt_inj.mp q)
      refine wq_gos (f := 1) (pc2 := 38) (ls2 := [(0, .ref 162), (1, .int w)]) (st2 := [.int 2, .int w]) (h2 := hh1x) (dc2 := 0) (ds2 := 0) 2 rfl ?_
      have q10x : (2 : Int32).toInt = 2 := rfl
      refine wq_ne2 rfl rfl (fun b11x => ?_) (fun b11x => ?_)
      · have q12x : w.toInt ≠ 2 := fun q => b11x (Int32.toInt_inj.mp q)
        refine wq_gos (f := 1) (pc2 := 54) (ls2 := [(0, .ref 162), (1, .int w)]) (st2 := [.int 3, .int w]) (h2 := hh1x) (dc2 := 0) (ds2 := 0) 2 rfl ?_
        have q13x : (3 : Int32).toInt = 3 := rfl
        refine wq_ne2 rfl rfl (fun b14x => ?_) (fun b14x => ?_)
        · have q15x : w.toInt ≠ 3 := fun q => b14x (Int32.toInt_inj.mp q)
          refine wq_gos (f := 1) (pc2 := 66) (ls2 := [(0, .ref 162), (1, .int w)]) (st2 := [.int (-9)]) (h2 := hh1x) (dc2 := 0) (ds2 := 0) 1 rfl ?_
          have hx : (mNow lo hi nw w) = ((-9 : Int32), (0 : Int32)) := by unfold mNow; rw [if_pos b5x, if_pos b8x, if_pos b11x, if_pos b14x]
          rw [hx]
          exact wq_ret rfl rfl ⟨hh1x, rfl, (wFr_sub ff3x (by simp)), by omega, e2x⟩
        · have q16x : w.toInt = 3 := congrArg Int32.toInt b14x
          refine wq_gos (f := 1) (pc2 := 58) (ls2 := [(0, .ref 162), (1, .int w)]) (st2 := [.ref 162]) (h2 := hh1x) (dc2 := 0) (ds2 := 0) 1 rfl ?_
          have e17x := (ff3x.2 _ _ (wnc (by decide) wn0) hLo)
          have e18x := (ff3x.2 _ _ (wnc (by decide) wn0) hHi)
          have e19x := (ff3x.2 _ _ (wnc (by decide) wn0) hNw)
          refine wq_inlv (y2 := 214) (as := []) rfl rfl rfl e2x rfl (wq_mono (m_bey e2x e17x e18x e19x) ?_)
          rintro _ rfl
          show wq 215 61 [(0, .ref 162), (1, .int w)] [.int (mbyF lo hi nw (6 - 0 + 1) 0 0)] hh1x 0 0 _
          refine wq_gos (f := 1) (pc2 := 66) (ls2 := [(0, .ref 162), (1, .int w)]) (st2 := [.int (mbyF lo hi nw (6 - 0 + 1) 0 0)]) (h2 := hh1x) (dc2 := 0) (ds2 := 0) 1 rfl ?_
          have hx : (mNow lo hi nw w) = ((mbyF lo hi nw (6 - 0 + 1) 0 0), (0 : Int32)) := by unfold mNow; rw [if_pos b5x, if_pos b8x, if_pos b11x, if_neg (fun q => q b14x)]
          rw [hx]
          exact wq_ret rfl rfl ⟨hh1x, rfl, (wFr_sub ff3x (by simp)), by omega, e2x⟩
      · have q21x : w.toInt = 2 := congrArg Int32.toInt b11x
        refine wq_gos (f := 1) (pc2 := 42) (ls2 := [(0, .ref 162), (1, .int w)]) (st2 := [.ref 162]) (h2 := hh1x) (dc2 := 0) (ds2 := 0) 1 rfl ?_
        refine wq_getf rfl e2x rfl rfl ?_
        refine wq_gos (f := 1) (pc2 := 46) (ls2 := [(0, .ref 162), (1, .int w)]) (st2 := [.int 0, .ref 188]) (h2 := hh1x) (dc2 := 0) (ds2 := 0) 1 rfl ?_
        have e22x := (ff3x.2 _ _ (wnc (by decide) wn0) hNw)
        have q23x : (0 : Int32).toInt = 0 := rfl
        refine wq_inl (y2 := 206) (as := [.ref 188, .int 0]) rfl rfl rfl (wq_mono (m_meav (k := 0) e22x (by first | assumption | omega | decide | solve_by_elim)) ?_)
        rintro _ rfl
        show wq 215 49 [(0, .ref 162), (1, .int w)] [.int (mMea nw 0)] hh1x 0 0 _
        refine wq_gos (f := 1) (pc2 := 66) (ls2 := [(0, .ref 162), (1, .int w)]) (st2 := [.int (mMea nw 0)]) (h2 := hh1x) (dc2 := 0) (ds2 := 0) 1 rfl ?_
        have hx : (mNow lo hi nw w) = ((mMea nw 0), (0 : Int32)) := by unfold mNow; rw [if_pos b5x, if_pos b8x, if_neg (fun q => q b11x)]
        rw [hx]
        exact wq_ret rfl rfl ⟨hh1x, rfl, (wFr_sub ff3x (by simp)), by omega, e2x⟩
    · have q25x : w.toInt = 1 := congrArg Int32.toInt b8x
      refine wq_gos (f := 1) (pc2 := 26) (ls2 := [(0, .ref 162), (1, .int w)]) (st2 := [.ref 162]) (h2 := hh1x) (dc2 := 0) (ds2 := 0) 1 rfl ?_
      refine wq_getf rfl e2x rfl rfl ?_
      refine wq_gos (f := 1) (pc2 := 30) (ls2 := [(0, .ref 162), (1, .int w)]) (st2 := [.int 0, .ref 188]) (h2 := hh1x) (dc2 := 0) (ds2 := 0) 1 rfl ?_
      have e26x := (ff3x.2 _ _ (wnc (by decide) wn0) hNw)
      have q27x : (0 : Int32).toInt = 0 := rfl
      refine wq_inl (y2 := 205) (as := [.ref 188, .int 0]) rfl rfl rfl (wq_mono (m_bendv (k := 0) e26x (by first | assumption | omega | decide | solve_by_elim)) ?_)
      rintro _ rfl
      show wq 215 33 [(0, .ref 162), (1, .int w)] [.int (mBen nw 0)] hh1x 0 0 _
      refine wq_gos (f := 1) (pc2 := 66) (ls2 := [(0, .ref 162), (1, .int w)]) (st2 := [.int (mBen nw 0)]) (h2 := hh1x) (dc2 := 0) (ds2 := 0) 1 rfl ?_
      have hx : (mNow lo hi nw w) = ((mBen nw 0), (0 : Int32)) := by unfold mNow; rw [if_pos b5x, if_neg (fun q => q b8x)]
      rw [hx]
      exact wq_ret rfl rfl ⟨hh1x, rfl, (wFr_sub ff3x (by simp)), by omega, e2x⟩
  · have q29x : w.toInt = 0 := congrArg Int32.toInt b5x
    refine wq_gos (f := 1) (pc2 := 10) (ls2 := [(0, .ref 162), (1, .int w)]) (st2 := [.ref 162]) (h2 := hh1x) (dc2 := 0) (ds2 := 0) 1 rfl ?_
    refine wq_getf rfl e2x rfl rfl ?_
    refine wq_gos (f := 1) (pc2 := 14) (ls2 := [(0, .ref 162), (1, .int w)]) (st2 := [.int 0, .ref 188]) (h2 := hh1x) (dc2 := 0) (ds2 := 0) 1 rfl ?_
    have e30x := (ff3x.2 _ _ (wnc (by decide) wn0) hNw)
    have q31x : (0 : Int32).toInt = 0 := rfl
    refine wq_inl (y2 := 204) (as := [.ref 188, .int 0]) rfl rfl rfl (wq_mono (m_sidev (k := 0) e30x (by first | assumption | omega | decide | solve_by_elim)) ?_)
    rintro _ rfl
    show wq 215 17 [(0, .ref 162), (1, .int w)] [.int (mSid nw 0)] hh1x 0 0 _
    refine wq_gos (f := 1) (pc2 := 66) (ls2 := [(0, .ref 162), (1, .int w)]) (st2 := [.int (mSid nw 0)]) (h2 := hh1x) (dc2 := 0) (ds2 := 0) 1 rfl ?_
    have hx : (mNow lo hi nw w) = ((mSid nw 0), (0 : Int32)) := by unfold mNow; rw [if_neg (fun q => q b5x)]
    rw [hx]
    exact wq_ret rfl rfl ⟨hh1x, rfl, (wFr_sub ff3x (by simp)), by omega, e2x⟩
noncomputable def mAimq (am : List Int32) (w : Int32) : Int64 × Int32 := (if w.toInt < 0 then ((0 : Int64), (0 : Int32)) else (if (6 : Int32).toInt ≤ w.toInt then ((0 : Int64), (0 : Int32)) else (((am.getD (w).toNatClampNeg 0)).toInt64, (0 : Int32))))
set_option maxRecDepth 100000 in
set_option maxHeartbeats 4000000 in
theorem m_aimq {h : zH} {n0 n2 n14 n15 n16 n17 n18 n19 n20 n21 n22 n23 n27 n28 n32 n33 n34 n35 n39 n52 : Int32} {am : List Int32} {w : Int32} (hM : zat h 162 = some (.inr (.inr (.inr (10, mO n0 n2 n14 n15 n16 n17 n18 n19 n20 n21 n22 n23 n27 n28 n32 n33 n34 n35 n39 n52))))) (hAm : zat h 190 = some (.inl (0, 6, am)))  : wq 216 0 [(0, .ref 162), (1, .int w)] [] h 0 0 (fun rr9 => ∃ (h2 : zH), rr9 = (some (.long ((mAimq am w).1)), h2, 0, 0) ∧ wFr [162] h h2 ∧ h2.length = h.length ∧ zat h2 162 = some (.inr (.inr (.inr (10, mO ((mAimq am w).2) n2 n14 n15 n16 n17 n18 n19 n20 n21 n22 n23 n27 n28 n32 n33 n34 n35 n39 n52))))) := by
  have z0 : (0 : Int32).toInt = 0 := rfl
  have z1 : (1 : Int32).toInt = 1 := rfl
  have z5 : (5 : Int32).toInt = 5 := rfl
  have z6 : (6 : Int32).toInt = 6 := rfl
  have zm1 : (-1 : Int32).toInt = -1 := rfl
  have z3 : (3 : Int32).toInt = 3 := rfl
  have z2 : (2 : Int32).toInt = 2 := rfl
  have z20 : (20 : Int32).toInt = 20 := rfl
  refine wq_gos (f := 1) (pc2 := 2) (ls2 := [(0, .ref 162), (1, .int w)]) (st2 := [.int 0, .ref 162]) (h2 := h) (dc2 := 0) (ds2 := 0) 2 rfl ?_
  refine wq_putf rfl hM rfl rfl rfl ?_
  intro hh1x e2x ff3x lh4x
  have e2x : zat hh1x 162 = some (.inr (.inr (.inr (10, mO (0 : Int32) n2 n14 n15 n16 n17 n18 n19 n20 n21 n22 n23 n27 n28 n32 n33 n34 n35 n39 n52)))) := e2x
  refine wq_gos (f := 1) (pc2 := 6) (ls2 := [(0, .ref 162), (1, .int w)]) (st2 := [.int w]) (h2 := hh1x) (dc2 := 0) (ds2 := 0) 1 rfl ?_
  refine wq_lt0 rfl rfl (fun b5x => ?_) (fun b5x => ?_)
  · refine wq_gos (f := 1) (pc2 := 26) (ls2 := [(0, .ref 162), (1, .int w)]) (st2 := [.long 0]) (h2 := hh1x) (dc2 := 0) (ds2 := 0) 1 rfl ?_
    have hx : (mAimq am w) = ((0 : Int64), (0 : Int32)) := by unfold mAimq; rw [if_pos b5x]
    rw [hx]
    exact wq_ret rfl rfl ⟨hh1x, rfl, (wFr_sub ff3x (by simp)), by omega, e2x⟩
  · refine wq_gos (f := 1) (pc2 := 12) (ls2 := [(0, .ref 162), (1, .int w)]) (st2 := [.int 6, .int w]) (h2 := hh1x) (dc2 := 0) (ds2 := 0) 2 rfl ?_
    have q6x : (6 : Int32).toInt = 6 := rfl
    refine wq_ge2 rfl rfl (fun b7x => ?_) (fun b7x => ?_)
    · refine wq_gos (f := 1) (pc2 := 26) (ls2 := [(0, .ref 162), (1, .int w)]) (st2 := [.long 0]) (h2 := hh1x) (dc2 := 0) (ds2 := 0) 1 rfl ?_
      have hx : (mAimq am w) = ((0 : Int64), (0 : Int32)) := by unfold mAimq; rw [if_neg (Int.not_lt.mpr b5x), if_pos b7x]
      rw [hx]
      exact wq_ret rfl rfl ⟨hh1x, rfl, (wFr_sub ff3x (by simp)), by omega, e2x⟩
    · refine wq_gos (f := 1) (pc2 := 16) (ls2 := [(0, .ref 162), (1, .int w)]) (st2 := [.ref 162]) (h2 := hh1x) (dc2 := 0) (ds2 := 0) 1 rfl ?_
      refine wq_getf rfl e2x rfl rfl ?_
      refine wq_gos (f := 1) (pc2 := 20) (ls2 := [(0, .ref 162), (1, .int w)]) (st2 := [.int w, .ref 190]) (h2 := hh1x) (dc2 := 0) (ds2 := 0) 1 rfl ?_
      have e8x := (ff3x.2 _ _ (wnc (by decide) wn0) hAm)
      refine wq_iald rfl e8x (by first | omega | exact zin_t (by omega) (by omega)) rfl ?_
      refine wq_gos (f := 1) (pc2 := 26) (ls2 := [(0, .ref 162), (1, .int w)]) (st2 := [.long ((am.getD (w).toNatClampNeg 0)).toInt64]) (h2 := hh1x) (dc2 := 0) (ds2 := 0) 2 rfl ?_
      have hx : (mAimq am w) = (((am.getD (w).toNatClampNeg 0)).toInt64, (0 : Int32)) := by unfold mAimq; rw [if_neg (Int.not_lt.mpr b5x), if_neg (Int.not_le.mpr b7x)]
      rw [hx]
      exact wq_ret rfl rfl ⟨hh1x, rfl, (wFr_sub ff3x (by simp)), by omega, e2x⟩
noncomputable def mCount (kn : List Int32) (n2 n27 w : Int32) : Int32 × Int32 := (if w = (0 : Int32) then ((kn.getD 0 0), (0 : Int32)) else (if w = (1 : Int32) then ((kn.getD 1 0), (0 : Int32)) else (if w = (2 : Int32) then ((kn.getD 2 0), (0 : Int32)) else (if w = (3 : Int32) then ((kn.getD 3 0), (0 : Int32)) else (if w = (4 : Int32) then ((kn.getD 5 0), (0 : Int32)) else (if w = (5 : Int32) then ((kn.getD 6 0), (0 : Int32)) else (if w = (6 : Int32) then (n27, (0 : Int32)) else (if w = (7 : Int32) then (n2, (0 : Int32)) else ((-1 : Int32), (0 : Int32))))))))))
set_option maxRecDepth 100000 in
set_option maxHeartbeats 4000000 in
theorem m_count {h : zH} {n0 n2 n14 n15 n16 n17 n18 n19 n20 n21 n22 n23 n27 n28 n32 n33 n34 n35 n39 n52 : Int32} {kn : List Int32} {w : Int32} (hM : zat h 162 = some (.inr (.inr (.inr (10, mO n0 n2 n14 n15 n16 n17 n18 n19 n20 n21 n22 n23 n27 n28 n32 n33 n34 n35 n39 n52))))) (hKn : zat h 166 = some (.inl (0, 14, kn)))  : wq 281 0 [(0, .ref 162), (1, .int w)] [] h 0 0 (fun rr9 => ∃ (h2 : zH), rr9 = (some (.int ((mCount kn n2 n27 w).1)), h2, 0, 0) ∧ wFr [162] h h2 ∧ h2.length = h.length ∧ zat h2 162 = some (.inr (.inr (.inr (10, mO ((mCount kn n2 n27 w).2) n2 n14 n15 n16 n17 n18 n19 n20 n21 n22 n23 n27 n28 n32 n33 n34 n35 n39 n52))))) := by
  have z0 : (0 : Int32).toInt = 0 := rfl
  have z1 : (1 : Int32).toInt = 1 := rfl
  have z5 : (5 : Int32).toInt = 5 := rfl
  have z6 : (6 : Int32).toInt = 6 := rfl
  have zm1 : (-1 : Int32).toInt = -1 := rfl
  have z3 : (3 : Int32).toInt = 3 := rfl
  have z2 : (2 : Int32).toInt = 2 := rfl
  have z20 : (20 : Int32).toInt = 20 := rfl
  refine wq_gos (f := 1) (pc2 := 2) (ls2 := [(0, .ref 162), (1, .int w)]) (st2 := [.int 0, .ref 162]) (h2 := h) (dc2 := 0) (ds2 := 0) 2 rfl ?_
  refine wq_putf rfl hM rfl rfl rfl ?_
  intro hh1x e2x ff3x lh4x
  have e2x : zat hh1x 162 = some (.inr (.inr (.inr (10, mO (0 : Int32) n2 n14 n15 n16 n17 n18 n19 n20 n21 n22 n23 n27 n28 n32 n33 n34 n35 n39 n52)))) := e2x
  refine wq_gos (f := 1) (pc2 := 6) (ls2 := [(0, .ref 162), (1, .int w)]) (st2 := [.int w]) (h2 := hh1x) (dc2 := 0) (ds2 := 0) 1 rfl ?_
  by_cases b5x : w = (0 : Int32)
  · have q6x : w.toInt = 0 := congrArg Int32.toInt b5x
    refine wq_tabc rfl b5x rfl ?_
    refine wq_gos (f := 1) (pc2 := 53) (ls2 := [(0, .ref 162), (1, .int w)]) (st2 := [.ref 162]) (h2 := hh1x) (dc2 := 0) (ds2 := 0) 1 rfl ?_
    refine wq_getf rfl e2x rfl rfl ?_
    refine wq_gos (f := 1) (pc2 := 57) (ls2 := [(0, .ref 162), (1, .int w)]) (st2 := [.int 0, .ref 166]) (h2 := hh1x) (dc2 := 0) (ds2 := 0) 1 rfl ?_
    have e7x := (ff3x.2 _ _ (wnc (by decide) wn0) hKn)
    have q8x : (0 : Int32).toInt = 0 := rfl
    refine wq_iald rfl e7x rfl rfl ?_
    have hx : (mCount kn n2 n27 w) = ((kn.getD 0 0), (0 : Int32)) := by unfold mCount; rw [if_pos b5x]
    rw [hx]
    exact wq_ret rfl rfl ⟨hh1x, rfl, (wFr_sub ff3x (by simp)), by omega, e2x⟩
  have q9x : (w).toInt ≠ 0 := fun q => b5x (Int32.toInt_inj.mp q)
  by_cases b10x : w = (1 : Int32)
  · have q11x : w.toInt = 1 := congrArg Int32.toInt b10x
    refine wq_tabc rfl b10x rfl ?_
    refine wq_gos (f := 1) (pc2 := 60) (ls2 := [(0, .ref 162), (1, .int w)]) (st2 := [.ref 162]) (h2 := hh1x) (dc2 := 0) (ds2 := 0) 1 rfl ?_
    refine wq_getf rfl e2x rfl rfl ?_
    refine wq_gos (f := 1) (pc2 := 64) (ls2 := [(0, .ref 162), (1, .int w)]) (st2 := [.int 1, .ref 166]) (h2 := hh1x) (dc2 := 0) (ds2 := 0) 1 rfl ?_
    have e12x := (ff3x.2 _ _ (wnc (by decide) wn0) hKn)
    have q13x : (1 : Int32).toInt = 1 := rfl
    refine wq_iald rfl e12x rfl rfl ?_
    have hx : (mCount kn n2 n27 w) = ((kn.getD 1 0), (0 : Int32)) := by unfold mCount; rw [if_neg b5x, if_pos b10x]
    rw [hx]
    exact wq_ret rfl rfl ⟨hh1x, rfl, (wFr_sub ff3x (by simp)), by omega, e2x⟩
  have q14x : (w).toInt ≠ 1 := fun q => b10x (Int32.toInt_inj.mp q)
  by_cases b15x : w = (2 : Int32)
  · have q16x : w.toInt = 2 := congrArg Int32.toInt b15x
    refine wq_tabc rfl b15x rfl ?_
    refine wq_gos (f := 1) (pc2 := 67) (ls2 := [(0, .ref 162), (1, .int w)]) (st2 := [.ref 162]) (h2 := hh1x) (dc2 := 0) (ds2 := 0) 1 rfl ?_
    refine wq_getf rfl e2x rfl rfl ?_
    refine wq_gos (f := 1) (pc2 := 71) (ls2 := [(0, .ref 162), (1, .int w)]) (st2 := [.int 2, .ref 166]) (h2 := hh1x) (dc2 := 0) (ds2 := 0) 1 rfl ?_
    have e17x := (ff3x.2 _ _ (wnc (by decide) wn0) hKn)
    have q18x : (2 : Int32).toInt = 2 := rfl
    refine wq_iald rfl e17x rfl rfl ?_
    have hx : (mCount kn n2 n27 w) = ((kn.getD 2 0), (0 : Int32)) := by unfold mCount; rw [if_neg b5x, if_neg b10x, if_pos b15x]
    rw [hx]
    exact wq_ret rfl rfl ⟨hh1x, rfl, (wFr_sub ff3x (by simp)), by omega, e2x⟩
  have q19x : (w).toInt ≠ 2 := fun q => b15x (Int32.toInt_inj.mp q)
  by_cases b20x : w = (3 : Int32)
  · have q21x : w.toInt = 3 := congrArg Int32.toInt b20x
    refine wq_tabc rfl b20x rfl ?_
    refine wq_gos (f := 1) (pc2 := 74) (ls2 := [(0, .ref 162), (1, .int w)]) (st2 := [.ref 162]) (h2 := hh1x) (dc2 := 0) (ds2 := 0) 1 rfl ?_
    refine wq_getf rfl e2x rfl rfl ?_
    refine wq_gos (f := 1) (pc2 := 78) (ls2 := [(0, .ref 162), (1, .int w)]) (st2 := [.int 3, .ref 166]) (h2 := hh1x) (dc2 := 0) (ds2 := 0) 1 rfl ?_
    have e22x := (ff3x.2 _ _ (wnc (by decide) wn0) hKn)
    have q23x : (3 : Int32).toInt = 3 := rfl
    refine wq_iald rfl e22x rfl rfl ?_
    have hx : (mCount kn n2 n27 w) = ((kn.getD 3 0), (0 : Int32)) := by unfold mCount; rw [if_neg b5x, if_neg b10x, if_neg b15x, if_pos b20x]
    rw [hx]
    exact wq_ret rfl rfl ⟨hh1x, rfl, (wFr_sub ff3x (by simp)), by omega, e2x⟩
  have q24x : (w).toInt ≠ 3 := fun q => b20x (Int32.toInt_inj.mp q)
  by_cases b25x : w = (4 : Int32)
  · have q26x : w.toInt = 4 := congrArg Int32.toInt b25x
    refine wq_tabc rfl b25x rfl ?_
    refine wq_gos (f := 1) (pc2 := 81) (ls2 := [(0, .ref 162), (1, .int w)]) (st2 := [.ref 162]) (h2 := hh1x) (dc2 := 0) (ds2 := 0) 1 rfl ?_
    refine wq_getf rfl e2x rfl rfl ?_
    refine wq_gos (f := 1) (pc2 := 85) (ls2 := [(0, .ref 162), (1, .int w)]) (st2 := [.int 5, .ref 166]) (h2 := hh1x) (dc2 := 0) (ds2 := 0) 1 rfl ?_
    have e27x := (ff3x.2 _ _ (wnc (by decide) wn0) hKn)
    have q28x : (5 : Int32).toInt = 5 := rfl
    refine wq_iald rfl e27x rfl rfl ?_
    have hx : (mCount kn n2 n27 w) = ((kn.getD 5 0), (0 : Int32)) := by unfold mCount; rw [if_neg b5x, if_neg b10x, if_neg b15x, if_neg b20x, if_pos b25x]
    rw [hx]
    exact wq_ret rfl rfl ⟨hh1x, rfl, (wFr_sub ff3x (by simp)), by omega, e2x⟩
  have q29x : (w).toInt ≠ 4 := fun q => b25x (Int32.toInt_inj.mp q)
  by_cases b30x : w = (5 : Int32)
  · have q31x : w.toInt = 5 := congrArg Int32.toInt b30x
    refine wq_tabc rfl b30x rfl ?_
    refine wq_gos (f := 1) (pc2 := 88) (ls2 := [(0, .ref 162), (1, .int w)]) (st2 := [.ref 162]) (h2 := hh1x) (dc2 := 0) (ds2 := 0) 1 rfl ?_
    refine wq_getf rfl e2x rfl rfl ?_
    refine wq_gos (f := 1) (pc2 := 93) (ls2 := [(0, .ref 162), (1, .int w)]) (st2 := [.int 6, .ref 166]) (h2 := hh1x) (dc2 := 0) (ds2 := 0) 1 rfl ?_
    have e32x := (ff3x.2 _ _ (wnc (by decide) wn0) hKn)
    have q33x : (6 : Int32).toInt = 6 := rfl
    refine wq_iald rfl e32x rfl rfl ?_
    have hx : (mCount kn n2 n27 w) = ((kn.getD 6 0), (0 : Int32)) := by unfold mCount; rw [if_neg b5x, if_neg b10x, if_neg b15x, if_neg b20x, if_neg b25x, if_pos b30x]
    rw [hx]
    exact wq_ret rfl rfl ⟨hh1x, rfl, (wFr_sub ff3x (by simp)), by omega, e2x⟩
  have q34x : (w).toInt ≠ 5 := fun q => b30x (Int32.toInt_inj.mp q)
  by_cases b35x : w = (6 : Int32)
  · have q36x : w.toInt = 6 := congrArg Int32.toInt b35x
    refine wq_tabc rfl b35x rfl ?_
    refine wq_gos (f := 1) (pc2 := 96) (ls2 := [(0, .ref 162), (1, .int w)]) (st2 := [.ref 162]) (h2 := hh1x) (dc2 := 0) (ds2 := 0) 1 rfl ?_
    refine wq_getf rfl e2x rfl rfl ?_
    have hx : (mCount kn n2 n27 w) = (n27, (0 : Int32)) := by unfold mCount; rw [if_neg b5x, if_neg b10x, if_neg b15x, if_neg b20x, if_neg b25x, if_neg b30x, if_pos b35x]
    rw [hx]
    exact wq_ret rfl rfl ⟨hh1x, rfl, (wFr_sub ff3x (by simp)), by omega, e2x⟩
  have q37x : (w).toInt ≠ 6 := fun q => b35x (Int32.toInt_inj.mp q)
  by_cases b38x : w = (7 : Int32)
  · have q39x : w.toInt = 7 := congrArg Int32.toInt b38x
    refine wq_tabc rfl b38x rfl ?_
    refine wq_gos (f := 1) (pc2 := 101) (ls2 := [(0, .ref 162), (1, .int w)]) (st2 := [.ref 162]) (h2 := hh1x) (dc2 := 0) (ds2 := 0) 1 rfl ?_
    refine wq_getf rfl e2x rfl rfl ?_
    have hx : (mCount kn n2 n27 w) = (n2, (0 : Int32)) := by unfold mCount; rw [if_neg b5x, if_neg b10x, if_neg b15x, if_neg b20x, if_neg b25x, if_neg b30x, if_neg b35x, if_pos b38x]
    rw [hx]
    exact wq_ret rfl rfl ⟨hh1x, rfl, (wFr_sub ff3x (by simp)), by omega, e2x⟩
  have q40x : (w).toInt ≠ 7 := fun q => b38x (Int32.toInt_inj.mp q)
  refine wq_tabo rfl (by omega) ?_
  refine wq_gos (f := 1) (pc2 := 106) (ls2 := [(0, .ref 162), (1, .int w)]) (st2 := [.int (-1)]) (h2 := hh1x) (dc2 := 0) (ds2 := 0) 1 rfl ?_
  have hx : (mCount kn n2 n27 w) = ((-1 : Int32), (0 : Int32)) := by unfold mCount; rw [if_neg b5x, if_neg b10x, if_neg b15x, if_neg b20x, if_neg b25x, if_neg b30x, if_neg b35x, if_neg b38x]
  rw [hx]
  exact wq_ret rfl rfl ⟨hh1x, rfl, (wFr_sub ff3x (by simp)), by omega, e2x⟩
noncomputable def mrmF  : Nat → Nat → List Int32 → List Int32
  | 0, _, kp => kp
  | m + 1, k, kp => (if (228 : Int32).toInt ≤ (nI k).toInt then kp else (mrmF  m (k + 1) (zset 0 kp k (kp.getD (12 + k) 0))))
set_option maxRecDepth 100000 in
set_option maxHeartbeats 4000000 in
theorem m_rmL {n0 n2 n14 n15 n16 n17 n18 n19 n20 n21 n22 n23 n28 n32 n33 n34 n35 n39 n52 : Int32} {u : Nat}  {dc ds : Nat} {Q : zR → Prop} : ∀ (m : Nat) (k : Nat) (kp : List Int32) (h : zH) , (zat h 162 = some (.inr (.inr (.inr (10, mO n0 n2 n14 n15 n16 n17 n18 n19 n20 n21 n22 n23 (nI u) n28 n32 n33 n34 n35 n39 n52))))) → (zat h 192 = some (.inl (0, 252, kp))) → (k ≤ 228) → (228 - k) < m → (∀ (h2 : zH) , (wFr [192] h h2) → (h2.length = h.length) → (zat h2 192 = some (.inl (0, 252, ((mrmF  m k kp))))) → wq 191 39 [(0, .ref 162)] [] h2 dc ds Q) → wq 191 11 [(0, .ref 162), (1, .int (nI k))] [] h dc ds Q := by
  intro m
  induction m with
  | zero => intro k kp h hM hK hk hms kk; omega
  | succ m ih =>
    intro k kp h hM hK hk hms kk
    have qnk := nI_toInt (n := k) (by omega)
    refine wq_gos (f := 1) (pc2 := 15) (ls2 := [(0, .ref 162), (1, .int (nI k))]) (st2 := [.int 228, .int (nI k)]) (h2 := h) (dc2 := dc) (ds2 := ds) 2 rfl ?_
    try have q1x := nI_toInt (n := k) (by omega)
    have q2x : (228 : Int32).toInt = 228 := rfl
    refine wq_ge2 rfl rfl (fun b3x => ?_) (fun b3x => ?_)
    · have hx : (mrmF  (m + 1) k kp) = kp := by show (if _ then _ else _) = _; rw [if_pos b3x]
      rw [hx] at kk
      refine wq_ls [(0, .ref 162)] (show ([0] : List Nat).Nodup by decide) ⟨rfl, trivial⟩ ?_
      exact kk h (wFr_rf _ _) (by omega) hK
    · refine wq_gos (f := 1) (pc2 := 19) (ls2 := [(0, .ref 162), (1, .int (nI k))]) (st2 := [.ref 162]) (h2 := h) (dc2 := dc) (ds2 := ds) 1 rfl ?_
      refine wq_getf rfl hM rfl rfl ?_
      refine wq_gos (f := 1) (pc2 := 24) (ls2 := [(0, .ref 162), (1, .int (nI k))]) (st2 := [.ref 162, .int (nI k), .ref 192]) (h2 := h) (dc2 := dc) (ds2 := ds) 2 rfl ?_
      refine wq_getf rfl hM rfl rfl ?_
      refine wq_gos (f := 1) (pc2 := 31) (ls2 := [(0, .ref 162), (1, .int (nI k))]) (st2 := [.int ((12 : Int32) + (nI k)), .ref 192, .int (nI k), .ref 192]) (h2 := h) (dc2 := dc) (ds2 := ds) 3 rfl ?_
      refine wq_vi (show (12 : Int32) + (nI k) = nI (12 + k) from nI_add 12 k) ?_
      try have q4x := nI_toInt (n := (12 + k)) (by omega)
      refine wq_ialdn rfl hK (by first | omega | exact zin_t (by omega) (by omega)) (by decide) rfl ?_
      refine wq_iastn rfl hK (by first | omega | exact zin_t (by omega) (by omega)) (by decide) rfl ?_
      intro hh5x e6x ff7x lh8x
      have e6x : zat hh5x 192 = some (.inl (0, 252, (zset 0 kp k (kp.getD (12 + k) 0)))) := e6x
      refine wq_gos (f := 1) (pc2 := 36) (ls2 := [(1, .int ((nI k) + 1)), (0, .ref 162)]) (st2 := []) (h2 := hh5x) (dc2 := dc) (ds2 := ds) 1 rfl ?_
      rw [nI_1]
      refine wq_gos (f := 1) (pc2 := 11) (ls2 := [(1, .int (nI (k + 1))), (0, .ref 162)]) (st2 := []) (h2 := hh5x) (dc2 := dc) (ds2 := ds) 1 rfl ?_
      try have q9x := nI_toInt (n := (k + 1)) (by omega)
      have e10x := (ff7x.2 _ _ (wnc (by decide) wn0) hM)
      have hx : (mrmF  (m + 1) k kp) = (mrmF  m (k + 1) (zset 0 kp k (kp.getD (12 + k) 0))) := by show (if _ then _ else _) = _; rw [if_neg (Int.not_le.mpr b3x)]
      rw [hx] at kk
      refine wq_ls [(0, .ref 162), (1, .int (nI (k + 1)))] (show ([0, 1] : List Nat).Nodup by decide) ⟨rfl, rfl, trivial⟩ ?_
      exact ih (k + 1) (zset 0 kp k (kp.getD (12 + k) 0)) hh5x e10x e6x (by first | assumption | omega | decide | solve_by_elim) (by omega) (fun h9 f9 l9 y0 => kk h9 (wFr_tr (wFr_sub ff7x (by simp)) f9) (by omega) y0)
noncomputable def mRem (nw am kp : List Int32) (u : Nat) : Nat × List Int32 := (if (nI u) ≠ (20 : Int32) then ((u + 1), (kLay kp nw am u)) else (zlet (mrmF  ((228 - 0) + 1) 0 kp) (fun v14x => (((u - 1) + 1), (kLay (v14x) nw am (u - 1))))))
set_option maxRecDepth 100000 in
set_option maxHeartbeats 4000000 in
theorem m_rem {h : zH} {n0 n2 n14 n15 n16 n17 n18 n19 n20 n21 n22 n23 n28 n32 n33 n34 n35 n39 n52 : Int32} {u : Nat} {nw am kp : List Int32} (hM : zat h 162 = some (.inr (.inr (.inr (10, mO n0 n2 n14 n15 n16 n17 n18 n19 n20 n21 n22 n23 (nI u) n28 n32 n33 n34 n35 n39 n52))))) (hN : zat h 188 = some (.inl (0, 6, nw))) (hA : zat h 190 = some (.inl (0, 6, am))) (hK : zat h 192 = some (.inl (0, 252, kp))) (hu : u ≤ 20) : wq 191 0 [(0, .ref 162)] [] h 0 0 (fun rr9 => ∃ (h2 : zH), rr9 = (none, h2, 0, 0) ∧ wFr [162, 192] h h2 ∧ h2.length = h.length ∧ zat h2 162 = some (.inr (.inr (.inr (10, mO n0 n2 n14 n15 n16 n17 n18 n19 n20 n21 n22 n23 (nI ((mRem nw am kp u).1)) n28 n32 n33 n34 n35 n39 n52)))) ∧ zat h2 192 = some (.inl (0, 252, ((mRem nw am kp u).2))) ∧ ((((mRem nw am kp u).1) ≤ 20))) := by
  have qnu := nI_toInt (n := u) (by omega)
  have z20 : (20 : Int32).toInt = 20 := rfl
  refine wq_gos (f := 1) (pc2 := 1) (ls2 := [(0, .ref 162)]) (st2 := [.ref 162]) (h2 := h) (dc2 := 0) (ds2 := 0) 1 rfl ?_
  refine wq_getf rfl hM rfl rfl ?_
  refine wq_gos (f := 1) (pc2 := 6) (ls2 := [(0, .ref 162)]) (st2 := [.int 20, .int (nI u)]) (h2 := h) (dc2 := 0) (ds2 := 0) 1 rfl ?_
  try have q1x := nI_toInt (n := u) (by omega)
  have q2x : (20 : Int32).toInt = 20 := rfl
  refine wq_ne2 rfl rfl (fun b3x => ?_) (fun b3x => ?_)
  · have q4x : (nI u).toInt ≠ 20 := fun q => b3x (Int32.toInt_inj.mp q)
    refine wq_gos (f := 1) (pc2 := 51) (ls2 := [(0, .ref 162)]) (st2 := [.ref 162, .ref 162]) (h2 := h) (dc2 := 0) (ds2 := 0) 2 rfl ?_
    refine wq_getf rfl hM rfl rfl ?_
    refine wq_inlv (y2 := 189) (as := [.int (nI u)]) rfl rfl rfl hM rfl (wq_mono (m_lays hM hN hA hK (by first | assumption | omega | decide | solve_by_elim)) ?_)
    rintro _ ⟨h85x, rfl, f85x, l85x, c05x⟩
    show wq 191 57 [(0, .ref 162)] [] h85x 0 0 _
    refine wq_gos (f := 1) (pc2 := 59) (ls2 := [(0, .ref 162)]) (st2 := [.ref 162, .ref 162]) (h2 := h85x) (dc2 := 0) (ds2 := 0) 2 rfl ?_
    have e6x := (f85x.2 _ _ (wnc (by decide) wn0) hM)
    refine wq_getf rfl e6x rfl rfl ?_
    refine wq_gos (f := 1) (pc2 := 64) (ls2 := [(0, .ref 162)]) (st2 := [.int ((nI u) + (1 : Int32)), .ref 162]) (h2 := h85x) (dc2 := 0) (ds2 := 0) 2 rfl ?_
    refine wq_vi (show (nI u) + (1 : Int32) = nI (u + 1) from nI_add u 1) ?_
    refine wq_putf rfl e6x rfl rfl rfl ?_
    intro hh7x e8x ff9x lh10x
    have e8x : zat hh7x 162 = some (.inr (.inr (.inr (10, mO n0 n2 n14 n15 n16 n17 n18 n19 n20 n21 n22 n23 (nI (u + 1)) n28 n32 n33 n34 n35 n39 n52)))) := e8x
    have e11x := (ff9x.2 _ _ (wnc (by decide) wn0) c05x)
    have hx : (mRem nw am kp u) = ((u + 1), (kLay kp nw am u)) := by unfold mRem; rw [if_pos b3x]
    rw [hx]
    exact wq_ret rfl rfl ⟨hh7x, rfl, (wFr_tr (wFr_sub f85x (by simp)) (wFr_sub ff9x (by simp))), by omega, e8x, e11x, (by (try dsimp only); omega)⟩
  · have q12x : (nI u).toInt = 20 := congrArg Int32.toInt b3x
    refine wq_gos (f := 1) (pc2 := 11) (ls2 := [(1, .int 0), (0, .ref 162)]) (st2 := []) (h2 := h) (dc2 := 0) (ds2 := 0) 2 rfl ?_
    refine wq_ls [(0, .ref 162), (1, .int (nI 0))] (show ([0, 1] : List Nat).Nodup by decide) ⟨rfl, rfl, trivial⟩ ?_
    refine m_rmL ((228 - 0) + 1) 0 kp h hM hK (by first | assumption | omega | decide | solve_by_elim) (by omega) ?_
    intro h813x f813x l813x c013x
    obtain ⟨v14x, hv15x⟩ : ∃ x, x = (mrmF  ((228 - 0) + 1) 0 kp) := ⟨_, rfl⟩
    try rw [← hv15x] at c013x
    try rw [← hv15x]
    show wq 191 39 [(0, .ref 162)] [] h813x 0 0 _
    refine wq_gos (f := 1) (pc2 := 41) (ls2 := [(0, .ref 162)]) (st2 := [.ref 162, .ref 162]) (h2 := h813x) (dc2 := 0) (ds2 := 0) 2 rfl ?_
    have e16x := (f813x.2 _ _ (wnc (by decide) wn0) hM)
    refine wq_getf rfl e16x rfl rfl ?_
    refine wq_gos (f := 1) (pc2 := 46) (ls2 := [(0, .ref 162)]) (st2 := [.int ((nI u) - (1 : Int32)), .ref 162]) (h2 := h813x) (dc2 := 0) (ds2 := 0) 2 rfl ?_
    refine wq_vi (nI_predn (a := u) (by omega)) ?_
    refine wq_putf rfl e16x rfl rfl rfl ?_
    intro hh17x e18x ff19x lh20x
    have e18x : zat hh17x 162 = some (.inr (.inr (.inr (10, mO n0 n2 n14 n15 n16 n17 n18 n19 n20 n21 n22 n23 (nI (u - 1)) n28 n32 n33 n34 n35 n39 n52)))) := e18x
    refine wq_gos (f := 1) (pc2 := 51) (ls2 := [(0, .ref 162)]) (st2 := [.ref 162, .ref 162]) (h2 := hh17x) (dc2 := 0) (ds2 := 0) 2 rfl ?_
    refine wq_getf rfl e18x rfl rfl ?_
    have e21x := (ff19x.2 _ _ (wnc (by decide) wn0) (f813x.2 _ _ (wnc (by decide) wn0) hN))
    have e22x := (ff19x.2 _ _ (wnc (by decide) wn0) (f813x.2 _ _ (wnc (by decide) wn0) hA))
    have e23x := (ff19x.2 _ _ (wnc (by decide) wn0) c013x)
    try have q24x := nI_toInt (n := (u - 1)) (by omega)
    refine wq_inlv (y2 := 189) (as := [.int (nI (u - 1))]) rfl rfl rfl e18x rfl (wq_mono (m_lays e18x e21x e22x e23x (by first | assumption | omega | decide | solve_by_elim)) ?_)
    rintro _ ⟨h825x, rfl, f825x, l825x, c025x⟩
    show wq 191 57 [(0, .ref 162)] [] h825x 0 0 _
    refine wq_gos (f := 1) (pc2 := 59) (ls2 := [(0, .ref 162)]) (st2 := [.ref 162, .ref 162]) (h2 := h825x) (dc2 := 0) (ds2 := 0) 2 rfl ?_
    have e26x := (f825x.2 _ _ (wnc (by decide) wn0) e18x)
    refine wq_getf rfl e26x rfl rfl ?_
    refine wq_gos (f := 1) (pc2 := 64) (ls2 := [(0, .ref 162)]) (st2 := [.int ((nI (u - 1)) + (1 : Int32)), .ref 162]) (h2 := h825x) (dc2 := 0) (ds2 := 0) 2 rfl ?_
    refine wq_vi (show (nI (u - 1)) + (1 : Int32) = nI ((u - 1) + 1) from nI_add (u - 1) 1) ?_
    refine wq_putf rfl e26x rfl rfl rfl ?_
    intro hh27x e28x ff29x lh30x
    have e28x : zat hh27x 162 = some (.inr (.inr (.inr (10, mO n0 n2 n14 n15 n16 n17 n18 n19 n20 n21 n22 n23 (nI ((u - 1) + 1)) n28 n32 n33 n34 n35 n39 n52)))) := e28x
    have e31x := (ff29x.2 _ _ (wnc (by decide) wn0) c025x)
    have hx : (mRem nw am kp u) = (((u - 1) + 1), (kLay (v14x) nw am (u - 1))) := by unfold mRem; rw [if_neg (fun q => q b3x), zlet_eq hv15x]
    rw [hx]
    exact wq_ret rfl rfl ⟨hh27x, rfl, (wFr_tr (wFr_sub f813x (by simp)) (wFr_tr (wFr_sub ff19x (by simp)) (wFr_tr (wFr_sub f825x (by simp)) (wFr_sub ff29x (by simp))))), by omega, e28x, e31x, (by (try dsimp only); omega)⟩
noncomputable def mSet (n33 : Int32) (nw am kp lo hi hr : List Int32) (u j : Nat) (v : Int32) : Int32 × Int32 × Nat × Int32 × List Int32 × List Int32 × List Int32 := (if (nI j).toInt < 0 then ((0 : Int32), (0 : Int32), u, n33, nw, kp, hr) else (if (6 : Int32).toInt ≤ (nI j).toInt then ((0 : Int32), (0 : Int32), u, n33, nw, kp, hr) else (if (mWin lo hi j v) ≠ (0 : Int32) then (zlet (mRem nw am kp u) (fun v24x => ((1 : Int32), (0 : Int32), (v24x.1), (0 : Int32), (zset 0 nw j v), (v24x.2), (zset 0 (zset 0 hr 0 (vp_nar .boolean (0 : Int32))) 1 (vp_nar .boolean (0 : Int32)))))) else ((0 : Int32), (0 : Int32), u, n33, nw, kp, hr))))
set_option maxRecDepth 100000 in
set_option maxHeartbeats 4000000 in
theorem m_set {h : zH} {n0 n2 n14 n15 n16 n17 n18 n19 n20 n21 n22 n23 n28 n32 n33 n34 n35 n39 n52 : Int32} {u : Nat} {nw am kp : List Int32} {lo hi hr : List Int32} {j : Nat} {v : Int32} (hM : zat h 162 = some (.inr (.inr (.inr (10, mO n0 n2 n14 n15 n16 n17 n18 n19 n20 n21 n22 n23 (nI u) n28 n32 n33 n34 n35 n39 n52))))) (hN : zat h 188 = some (.inl (0, 6, nw))) (hA : zat h 190 = some (.inl (0, 6, am))) (hK : zat h 192 = some (.inl (0, 252, kp))) (hLo : zat h 168 = some (.inl (0, 12, lo))) (hHi : zat h 170 = some (.inl (0, 12, hi))) (hR : zat h 212 = some (.inl (2, 2, hr))) (hu : u ≤ 20) (hj : j < 6) : wq 212 0 [(0, .ref 162), (1, .int (nI j)), (2, .int v)] [] h 0 0 (fun rr9 => ∃ (h2 : zH), rr9 = (some (.int ((mSet n33 nw am kp lo hi hr u j v).1)), h2, 0, 0) ∧ wFr [162, 188, 192, 212] h h2 ∧ h2.length = h.length ∧ zat h2 162 = some (.inr (.inr (.inr (10, mO ((mSet n33 nw am kp lo hi hr u j v).2.1) n2 n14 n15 n16 n17 n18 n19 n20 n21 n22 n23 (nI ((mSet n33 nw am kp lo hi hr u j v).2.2.1)) n28 n32 ((mSet n33 nw am kp lo hi hr u j v).2.2.2.1) n34 n35 n39 n52)))) ∧ zat h2 188 = some (.inl (0, 6, ((mSet n33 nw am kp lo hi hr u j v).2.2.2.2.1))) ∧ zat h2 192 = some (.inl (0, 252, ((mSet n33 nw am kp lo hi hr u j v).2.2.2.2.2.1))) ∧ zat h2 212 = some (.inl (2, 2, ((mSet n33 nw am kp lo hi hr u j v).2.2.2.2.2.2))) ∧ ((((mSet n33 nw am kp lo hi hr u j v).2.2.1) ≤ 20))) := by
  have qnu := nI_toInt (n := u) (by omega)
  have qnj := nI_toInt (n := j) (by omega)
  have z0 : (0 : Int32).toInt = 0 := rfl
  have z1 : (1 : Int32).toInt = 1 := rfl
  have z5 : (5 : Int32).toInt = 5 := rfl
  have z6 : (6 : Int32).toInt = 6 := rfl
  have zm1 : (-1 : Int32).toInt = -1 := rfl
  have z3 : (3 : Int32).toInt = 3 := rfl
  have z2 : (2 : Int32).toInt = 2 := rfl
  have z20 : (20 : Int32).toInt = 20 := rfl
  refine wq_gos (f := 1) (pc2 := 2) (ls2 := [(0, .ref 162), (1, .int (nI j)), (2, .int v)]) (st2 := [.int 0, .ref 162]) (h2 := h) (dc2 := 0) (ds2 := 0) 2 rfl ?_
  refine wq_putf rfl hM rfl rfl rfl ?_
  intro hh1x e2x ff3x lh4x
  have e2x : zat hh1x 162 = some (.inr (.inr (.inr (10, mO (0 : Int32) n2 n14 n15 n16 n17 n18 n19 n20 n21 n22 n23 (nI u) n28 n32 n33 n34 n35 n39 n52)))) := e2x
  refine wq_gos (f := 1) (pc2 := 6) (ls2 := [(0, .ref 162), (1, .int (nI j)), (2, .int v)]) (st2 := [.int (nI j)]) (h2 := hh1x) (dc2 := 0) (ds2 := 0) 1 rfl ?_
  refine wq_inl (y2 := 208) (as := [.int (nI j)]) rfl rfl rfl ?_
  show wq 208 0 [(0, .int (nI j))] [] hh1x 0 0 _
  refine wq_gos (f := 1) (pc2 := 1) (ls2 := [(0, .int (nI j))]) (st2 := [.int (nI j)]) (h2 := hh1x) (dc2 := 0) (ds2 := 0) 1 rfl ?_
  try have q5x := nI_toInt (n := j) (by omega)
  refine wq_lt0 rfl rfl (fun b6x => ?_) (fun b6x => ?_)
  · refine wq_gos (f := 1) (pc2 := 15) (ls2 := [(0, .int (nI j))]) (st2 := [.int 0]) (h2 := hh1x) (dc2 := 0) (ds2 := 0) 1 rfl ?_
    refine wq_ret rfl rfl ?_
    show wq 212 9 [(0, .ref 162), (1, .int (nI j)), (2, .int v)] [.int 0] hh1x 0 0 _
    refine wq_gos (f := 1) (pc2 := 22) (ls2 := [(0, .ref 162), (1, .int (nI j)), (2, .int v)]) (st2 := [.int 0]) (h2 := hh1x) (dc2 := 0) (ds2 := 0) 2 rfl ?_
    have e7x := (ff3x.2 _ _ (wnc (by decide) wn0) hN)
    have e8x := (ff3x.2 _ _ (wnc (by decide) wn0) hK)
    have e9x := (ff3x.2 _ _ (wnc (by decide) wn0) hR)
    have hx : (mSet n33 nw am kp lo hi hr u j v) = ((0 : Int32), (0 : Int32), u, n33, nw, kp, hr) := by unfold mSet; rw [if_pos b6x]
    rw [hx]
    exact wq_ret rfl rfl ⟨hh1x, rfl, (wFr_sub ff3x (by simp)), by omega, e2x, e7x, e8x, e9x, (by (try dsimp only); omega)⟩
  · refine wq_gos (f := 1) (pc2 := 7) (ls2 := [(0, .int (nI j))]) (st2 := [.int 6, .int (nI j)]) (h2 := hh1x) (dc2 := 0) (ds2 := 0) 2 rfl ?_
    have q10x : (6 : Int32).toInt = 6 := rfl
    refine wq_ge2 rfl rfl (fun b11x => ?_) (fun b11x => ?_)
    · refine wq_gos (f := 1) (pc2 := 15) (ls2 := [(0, .int (nI j))]) (st2 := [.int 0]) (h2 := hh1x) (dc2 := 0) (ds2 := 0) 1 rfl ?_
      refine wq_ret rfl rfl ?_
      show wq 212 9 [(0, .ref 162), (1, .int (nI j)), (2, .int v)] [.int 0] hh1x 0 0 _
      refine wq_gos (f := 1) (pc2 := 22) (ls2 := [(0, .ref 162), (1, .int (nI j)), (2, .int v)]) (st2 := [.int 0]) (h2 := hh1x) (dc2 := 0) (ds2 := 0) 2 rfl ?_
      have e12x := (ff3x.2 _ _ (wnc (by decide) wn0) hN)
      have e13x := (ff3x.2 _ _ (wnc (by decide) wn0) hK)
      have e14x := (ff3x.2 _ _ (wnc (by decide) wn0) hR)
      have hx : (mSet n33 nw am kp lo hi hr u j v) = ((0 : Int32), (0 : Int32), u, n33, nw, kp, hr) := by unfold mSet; rw [if_neg (Int.not_lt.mpr b6x), if_pos b11x]
      rw [hx]
      exact wq_ret rfl rfl ⟨hh1x, rfl, (wFr_sub ff3x (by simp)), by omega, e2x, e12x, e13x, e14x, (by (try dsimp only); omega)⟩
    · refine wq_gos (f := 1) (pc2 := 15) (ls2 := [(0, .int (nI j))]) (st2 := [.int 1]) (h2 := hh1x) (dc2 := 0) (ds2 := 0) 2 rfl ?_
      refine wq_ret rfl rfl ?_
      show wq 212 9 [(0, .ref 162), (1, .int (nI j)), (2, .int v)] [.int 1] hh1x 0 0 _
      refine wq_gos (f := 1) (pc2 := 15) (ls2 := [(0, .ref 162), (1, .int (nI j)), (2, .int v)]) (st2 := [.int v, .int (nI j), .ref 162]) (h2 := hh1x) (dc2 := 0) (ds2 := 0) 4 rfl ?_
      have e15x := (ff3x.2 _ _ (wnc (by decide) wn0) hLo)
      have e16x := (ff3x.2 _ _ (wnc (by decide) wn0) hHi)
      refine wq_inlv (y2 := 207) (as := [.int (nI j), .int v]) rfl rfl rfl e2x rfl (wq_mono (m_win e2x e15x e16x (by first | assumption | omega | decide | solve_by_elim)) ?_)
      rintro _ rfl
      show wq 212 18 [(0, .ref 162), (1, .int (nI j)), (2, .int v)] [.int (mWin lo hi j v)] hh1x 0 0 _
      refine wq_ne0 rfl rfl (fun b18x => ?_) (fun b18x => ?_)
      · have q19x : (mWin lo hi j v).toInt ≠ 0 := fun q => b18x (Int32.toInt_inj.mp q)
        refine wq_gos (f := 1) (pc2 := 24) (ls2 := [(0, .ref 162), (1, .int (nI j)), (2, .int v)]) (st2 := [.ref 162]) (h2 := hh1x) (dc2 := 0) (ds2 := 0) 1 rfl ?_
        have e20x := (ff3x.2 _ _ (wnc (by decide) wn0) hN)
        have e21x := (ff3x.2 _ _ (wnc (by decide) wn0) hA)
        have e22x := (ff3x.2 _ _ (wnc (by decide) wn0) hK)
        refine wq_inlv (y2 := 191) (as := []) rfl rfl rfl e2x rfl (wq_mono (m_rem e2x e20x e21x e22x (by first | assumption | omega | decide | solve_by_elim)) ?_)
        rintro _ ⟨h823x, rfl, f823x, l823x, c023x, c123x, p023x⟩
        show wq 212 27 [(0, .ref 162), (1, .int (nI j)), (2, .int v)] [] h823x 0 0 _
        obtain ⟨v24x, hv25x⟩ : ∃ x, x = (mRem nw am kp u) := ⟨_, rfl⟩
        try rw [← hv25x] at c023x
        try rw [← hv25x] at c123x
        try rw [← hv25x] at p023x
        try rw [← hv25x]
        refine wq_gos (f := 1) (pc2 := 28) (ls2 := [(0, .ref 162), (1, .int (nI j)), (2, .int v)]) (st2 := [.ref 162]) (h2 := h823x) (dc2 := 0) (ds2 := 0) 1 rfl ?_
        refine wq_getf rfl c023x rfl rfl ?_
        refine wq_gos (f := 1) (pc2 := 33) (ls2 := [(0, .ref 162), (1, .int (nI j)), (2, .int v)]) (st2 := [.int v, .int (nI j), .ref 188]) (h2 := h823x) (dc2 := 0) (ds2 := 0) 2 rfl ?_
        have e26x := (f823x.2 _ _ (wnc (by decide) (wnc (by decide) wn0)) e20x)
        refine wq_iastn rfl e26x (by first | omega | exact zin_t (by omega) (by omega)) (by decide) rfl ?_
        intro hh27x e28x ff29x lh30x
        have e28x : zat hh27x 188 = some (.inl (0, 6, (zset 0 nw j v))) := e28x
        refine wq_gos (f := 1) (pc2 := 35) (ls2 := [(0, .ref 162), (1, .int (nI j)), (2, .int v)]) (st2 := [.ref 162]) (h2 := hh27x) (dc2 := 0) (ds2 := 0) 1 rfl ?_
        have e31x := (ff29x.2 _ _ (wnc (by decide) wn0) c023x)
        refine wq_inlv (y2 := 242) (as := []) rfl rfl rfl e31x rfl ?_
        show wq 242 0 [(0, .ref 162)] [] hh27x 0 0 _
        refine wq_gos (f := 1) (pc2 := 2) (ls2 := [(0, .ref 162)]) (st2 := [.int 0, .ref 162]) (h2 := hh27x) (dc2 := 0) (ds2 := 0) 2 rfl ?_
        refine wq_putf rfl e31x rfl rfl rfl ?_
        intro hh32x e33x ff34x lh35x
        have e33x : zat hh32x 162 = some (.inr (.inr (.inr (10, mO (0 : Int32) n2 n14 n15 n16 n17 n18 n19 n20 n21 n22 n23 (nI (v24x.1)) n28 n32 (0 : Int32) n34 n35 n39 n52)))) := e33x
        refine wq_gos (f := 1) (pc2 := 6) (ls2 := [(0, .ref 162)]) (st2 := [.ref 162]) (h2 := hh32x) (dc2 := 0) (ds2 := 0) 1 rfl ?_
        refine wq_getf rfl e33x rfl rfl ?_
        refine wq_gos (f := 1) (pc2 := 11) (ls2 := [(0, .ref 162)]) (st2 := [.int 0, .int 0, .ref 212]) (h2 := hh32x) (dc2 := 0) (ds2 := 0) 2 rfl ?_
        have e36x := (ff34x.2 _ _ (wnc (by decide) wn0) (ff29x.2 _ _ (wnc (by decide) wn0) (f823x.2 _ _ (wnc (by decide) (wnc (by decide) wn0)) (ff3x.2 _ _ (wnc (by decide) wn0) hR))))
        have q37x : (0 : Int32).toInt = 0 := rfl
        refine wq_bastz rfl e36x rfl rfl ?_
        intro hh38x e39x ff40x lh41x
        have e39x : zat hh38x 212 = some (.inl (2, 2, (zset 0 hr 0 (vp_nar .boolean (0 : Int32))))) := e39x
        refine wq_gos (f := 1) (pc2 := 13) (ls2 := [(0, .ref 162)]) (st2 := [.ref 162]) (h2 := hh38x) (dc2 := 0) (ds2 := 0) 1 rfl ?_
        have e42x := (ff40x.2 _ _ (wnc (by decide) wn0) e33x)
        refine wq_getf rfl e42x rfl rfl ?_
        refine wq_gos (f := 1) (pc2 := 18) (ls2 := [(0, .ref 162)]) (st2 := [.int 0, .int 1, .ref 212]) (h2 := hh38x) (dc2 := 0) (ds2 := 0) 2 rfl ?_
        have q43x : (1 : Int32).toInt = 1 := rfl
        refine wq_bastz rfl e39x rfl rfl ?_
        intro hh44x e45x ff46x lh47x
        have e45x : zat hh44x 212 = some (.inl (2, 2, (zset 0 (zset 0 hr 0 (vp_nar .boolean (0 : Int32))) 1 (vp_nar .boolean (0 : Int32))))) := e45x
        refine wq_ret rfl rfl ?_
        show wq 212 38 [(0, .ref 162), (1, .int (nI j)), (2, .int v)] [] hh44x 0 0 _
        refine wq_gos (f := 1) (pc2 := 39) (ls2 := [(0, .ref 162), (1, .int (nI j)), (2, .int v)]) (st2 := [.int 1]) (h2 := hh44x) (dc2 := 0) (ds2 := 0) 1 rfl ?_
        have e48x := (ff46x.2 _ _ (wnc (by decide) wn0) e42x)
        have e49x := (ff46x.2 _ _ (wnc (by decide) wn0) (ff40x.2 _ _ (wnc (by decide) wn0) (ff34x.2 _ _ (wnc (by decide) wn0) e28x)))
        have e50x := (ff46x.2 _ _ (wnc (by decide) wn0) (ff40x.2 _ _ (wnc (by decide) wn0) (ff34x.2 _ _ (wnc (by decide) wn0) (ff29x.2 _ _ (wnc (by decide) wn0) c123x))))
        have hx : (mSet n33 nw am kp lo hi hr u j v) = ((1 : Int32), (0 : Int32), (v24x.1), (0 : Int32), (zset 0 nw j v), (v24x.2), (zset 0 (zset 0 hr 0 (vp_nar .boolean (0 : Int32))) 1 (vp_nar .boolean (0 : Int32)))) := by unfold mSet; rw [if_neg (Int.not_lt.mpr b6x), if_neg (Int.not_le.mpr b11x), if_pos b18x, zlet_eq hv25x]
        rw [hx]
        exact wq_ret rfl rfl ⟨hh44x, rfl, (wFr_tr (wFr_sub ff3x (by simp)) (wFr_tr (wFr_sub f823x (by simp)) (wFr_tr (wFr_sub ff29x (by simp)) (wFr_tr (wFr_sub ff34x (by simp)) (wFr_tr (wFr_sub ff40x (by simp)) (wFr_sub ff46x (by simp))))))), by omega, e48x, e49x, e50x, e45x, (by (try dsimp only); omega)⟩
      · have q51x : (mWin lo hi j v).toInt = 0 := congrArg Int32.toInt b18x
        refine wq_gos (f := 1) (pc2 := 22) (ls2 := [(0, .ref 162), (1, .int (nI j)), (2, .int v)]) (st2 := [.int 0]) (h2 := hh1x) (dc2 := 0) (ds2 := 0) 1 rfl ?_
        have e52x := (ff3x.2 _ _ (wnc (by decide) wn0) hN)
        have e53x := (ff3x.2 _ _ (wnc (by decide) wn0) hK)
        have e54x := (ff3x.2 _ _ (wnc (by decide) wn0) hR)
        have hx : (mSet n33 nw am kp lo hi hr u j v) = ((0 : Int32), (0 : Int32), u, n33, nw, kp, hr) := by unfold mSet; rw [if_neg (Int.not_lt.mpr b6x), if_neg (Int.not_le.mpr b11x), if_neg (fun q => q b18x)]
        rw [hx]
        exact wq_ret rfl rfl ⟨hh1x, rfl, (wFr_sub ff3x (by simp)), by omega, e2x, e52x, e53x, e54x, (by (try dsimp only); omega)⟩
noncomputable def mAatN (nw am kp kn th : List Int32) (u : Nat) : Int32 × Int32 × Nat × Int32 × List Int32 × List Int32 × List Int32 := (zlet (mRem nw am kp u) (fun v9x => (zlet (mAim kn nw 0 th am) (fun v17x => ((1 : Int32), (0 : Int32), (v9x.1), (0 : Int32), (v17x.2), (v9x.2), (v17x.1))))))
set_option maxRecDepth 100000 in
set_option maxHeartbeats 4000000 in
theorem m_aatN {h : zH} {n0 n2 n14 n15 n16 n17 n18 n19 n20 n21 n22 n23 n28 n32 n33 n34 n35 n39 n52 : Int32} {u : Nat} {nw am kp : List Int32} {kn th : List Int32} (hM : zat h 162 = some (.inr (.inr (.inr (10, mO n0 n2 n14 n15 n16 n17 n18 n19 n20 n21 n22 n23 (nI u) n28 n32 n33 n34 n35 n39 n52))))) (hN : zat h 188 = some (.inl (0, 6, nw))) (hA : zat h 190 = some (.inl (0, 6, am))) (hK : zat h 192 = some (.inl (0, 252, kp))) (hKn : zat h 166 = some (.inl (0, 14, kn))) (hTh : zat h 194 = some (.inl (0, 6, th))) (hu : u ≤ 20) : wq 217 0 [(0, .ref 162), (1, .int (-1))] [] h 0 0 (fun rr9 => ∃ (h2 : zH), rr9 = (some (.int ((mAatN nw am kp kn th u).1)), h2, 0, 0) ∧ wFr [162, 190, 192, 194] h h2 ∧ h2.length = h.length ∧ zat h2 162 = some (.inr (.inr (.inr (10, mO ((mAatN nw am kp kn th u).2.1) n2 n14 n15 n16 n17 n18 n19 n20 n21 n22 n23 (nI ((mAatN nw am kp kn th u).2.2.1)) n28 n32 ((mAatN nw am kp kn th u).2.2.2.1) n34 n35 n39 n52)))) ∧ zat h2 190 = some (.inl (0, 6, ((mAatN nw am kp kn th u).2.2.2.2.1))) ∧ zat h2 192 = some (.inl (0, 252, ((mAatN nw am kp kn th u).2.2.2.2.2.1))) ∧ zat h2 194 = some (.inl (0, 6, ((mAatN nw am kp kn th u).2.2.2.2.2.2))) ∧ ((((mAatN nw am kp kn th u).2.2.1) ≤ 20))) := by
  have qnu := nI_toInt (n := u) (by omega)
  have z0 : (0 : Int32).toInt = 0 := rfl
  have z1 : (1 : Int32).toInt = 1 := rfl
  have z5 : (5 : Int32).toInt = 5 := rfl
  have z6 : (6 : Int32).toInt = 6 := rfl
  have zm1 : (-1 : Int32).toInt = -1 := rfl
  have z3 : (3 : Int32).toInt = 3 := rfl
  have z2 : (2 : Int32).toInt = 2 := rfl
  have z20 : (20 : Int32).toInt = 20 := rfl
  refine wq_gos (f := 1) (pc2 := 2) (ls2 := [(0, .ref 162), (1, .int (-1))]) (st2 := [.int 0, .ref 162]) (h2 := h) (dc2 := 0) (ds2 := 0) 2 rfl ?_
  refine wq_putf rfl hM rfl rfl rfl ?_
  intro hh1x e2x ff3x lh4x
  have e2x : zat hh1x 162 = some (.inr (.inr (.inr (10, mO (0 : Int32) n2 n14 n15 n16 n17 n18 n19 n20 n21 n22 n23 (nI u) n28 n32 n33 n34 n35 n39 n52)))) := e2x
  refine wq_gos (f := 1) (pc2 := 21) (ls2 := [(0, .ref 162), (1, .int (-1))]) (st2 := [.ref 162]) (h2 := hh1x) (dc2 := 0) (ds2 := 0) 4 rfl ?_
  have e5x := (ff3x.2 _ _ (wnc (by decide) wn0) hN)
  have e6x := (ff3x.2 _ _ (wnc (by decide) wn0) hA)
  have e7x := (ff3x.2 _ _ (wnc (by decide) wn0) hK)
  refine wq_inlv (y2 := 191) (as := []) rfl rfl rfl e2x rfl (wq_mono (m_rem e2x e5x e6x e7x (by first | assumption | omega | decide | solve_by_elim)) ?_)
  rintro _ ⟨h88x, rfl, f88x, l88x, c08x, c18x, p08x⟩
  show wq 217 24 [(0, .ref 162), (1, .int (-1))] [] h88x 0 0 _
  obtain ⟨v9x, hv10x⟩ : ∃ x, x = (mRem nw am kp u) := ⟨_, rfl⟩
  try rw [← hv10x] at c08x
  try rw [← hv10x] at c18x
  try rw [← hv10x] at p08x
  try rw [← hv10x]
  refine wq_gos (f := 1) (pc2 := 31) (ls2 := [(0, .ref 162), (1, .int (-1))]) (st2 := [.ref 162, .ref 162]) (h2 := h88x) (dc2 := 0) (ds2 := 0) 5 rfl ?_
  refine wq_getf rfl c08x rfl rfl ?_
  refine wq_gos (f := 1) (pc2 := 35) (ls2 := [(0, .ref 162), (1, .int (-1))]) (st2 := [.int 0, .ref 188, .ref 162]) (h2 := h88x) (dc2 := 0) (ds2 := 0) 1 rfl ?_
  have e11x := (f88x.2 _ _ (wnc (by decide) (wnc (by decide) wn0)) (ff3x.2 _ _ (wnc (by decide) wn0) hKn))
  have e12x := (f88x.2 _ _ (wnc (by decide) (wnc (by decide) wn0)) e5x)
  have e13x := (f88x.2 _ _ (wnc (by decide) (wnc (by decide) wn0)) (ff3x.2 _ _ (wnc (by decide) wn0) hTh))
  have e14x := (f88x.2 _ _ (wnc (by decide) (wnc (by decide) wn0)) e6x)
  have q15x : (0 : Int32).toInt = 0 := rfl
  refine wq_inlv (y2 := 201) (as := [.ref 188, .int 0]) rfl rfl rfl c08x rfl (wq_mono (m_aim (k := 0) c08x e11x e12x e13x e14x (by decide) (by decide)) ?_)
  rintro _ ⟨h816x, rfl, f816x, l816x, c016x, c116x⟩
  show wq 217 38 [(0, .ref 162), (1, .int (-1))] [] h816x 0 0 _
  obtain ⟨v17x, hv18x⟩ : ∃ x, x = (mAim kn nw 0 th am) := ⟨_, rfl⟩
  try rw [← hv18x] at c016x
  try rw [← hv18x] at c116x
  try rw [← hv18x]
  refine wq_gos (f := 1) (pc2 := 55) (ls2 := [(0, .ref 162), (1, .int (-1))]) (st2 := [.int 0, .ref 162]) (h2 := h816x) (dc2 := 0) (ds2 := 0) 3 rfl ?_
  have e19x := (f816x.2 _ _ (wnc (by decide) (wnc (by decide) wn0)) c08x)
  refine wq_putf rfl e19x rfl rfl rfl ?_
  intro hh20x e21x ff22x lh23x
  have e21x : zat hh20x 162 = some (.inr (.inr (.inr (10, mO (0 : Int32) n2 n14 n15 n16 n17 n18 n19 n20 n21 n22 n23 (nI (v9x.1)) n28 n32 (0 : Int32) n34 n35 n39 n52)))) := e21x
  refine wq_gos (f := 1) (pc2 := 59) (ls2 := [(0, .ref 162), (1, .int (-1))]) (st2 := [.int 1]) (h2 := hh20x) (dc2 := 0) (ds2 := 0) 1 rfl ?_
  have e24x := (ff22x.2 _ _ (wnc (by decide) wn0) c116x)
  have e25x := (ff22x.2 _ _ (wnc (by decide) wn0) (f816x.2 _ _ (wnc (by decide) (wnc (by decide) wn0)) c18x))
  have e26x := (ff22x.2 _ _ (wnc (by decide) wn0) c016x)
  have hx : (mAatN nw am kp kn th u) = ((1 : Int32), (0 : Int32), (v9x.1), (0 : Int32), (v17x.2), (v9x.2), (v17x.1)) := by unfold mAatN; rw [zlet_eq hv10x, zlet_eq hv18x]
  rw [hx]
  exact wq_ret rfl rfl ⟨hh20x, rfl, (wFr_tr (wFr_sub ff3x (by simp)) (wFr_tr (wFr_sub f88x (by simp)) (wFr_tr (wFr_sub f816x (by simp)) (wFr_sub ff22x (by simp))))), by omega, e21x, e24x, e25x, e26x, (by (try dsimp only); omega)⟩
noncomputable def mAatS (am nw kp kn th sq : List Int32) (u w : Nat) : Int32 × Int32 × Nat × Int32 × List Int32 × List Int32 × List Int32 := (zlet (mRem nw am kp u) (fun v14x => (zlet (mAim kn sq (6 * w) th am) (fun v22x => ((1 : Int32), (0 : Int32), (v14x.1), (0 : Int32), (v22x.2), (v14x.2), (v22x.1))))))
set_option maxRecDepth 100000 in
set_option maxHeartbeats 4000000 in
theorem m_aatS {h : zH} {n0 n2 n14 n15 n16 n17 n18 n19 n20 n21 n22 n23 n28 n32 n33 n34 n35 n39 n52 : Int32} {u : Nat} {nw am kp : List Int32} {kn th sq : List Int32} {ns w : Nat} (hM : zat h 162 = some (.inr (.inr (.inr (10, mO n0 n2 n14 n15 n16 n17 n18 n19 n20 n21 n22 n23 (nI u) n28 n32 n33 n34 n35 n39 n52))))) (hN : zat h 188 = some (.inl (0, 6, nw))) (hA : zat h 190 = some (.inl (0, 6, am))) (hK : zat h 192 = some (.inl (0, 252, kp))) (hKn : zat h 166 = some (.inl (0, 14, kn))) (hTh : zat h 194 = some (.inl (0, 6, th))) (hSq : zat h 178 = some (.inl (0, 96, sq))) (hu : u ≤ 20) (hns : kn.getD 5 0 = nI ns ∧ ns ≤ 8) (hw : w < ns) : wq 217 0 [(0, .ref 162), (1, .int (nI w))] [] h 0 0 (fun rr9 => ∃ (h2 : zH), rr9 = (some (.int ((mAatS am nw kp kn th sq u w).1)), h2, 0, 0) ∧ wFr [162, 190, 192, 194] h h2 ∧ h2.length = h.length ∧ zat h2 162 = some (.inr (.inr (.inr (10, mO ((mAatS am nw kp kn th sq u w).2.1) n2 n14 n15 n16 n17 n18 n19 n20 n21 n22 n23 (nI ((mAatS am nw kp kn th sq u w).2.2.1)) n28 n32 ((mAatS am nw kp kn th sq u w).2.2.2.1) n34 n35 n39 n52)))) ∧ zat h2 190 = some (.inl (0, 6, ((mAatS am nw kp kn th sq u w).2.2.2.2.1))) ∧ zat h2 192 = some (.inl (0, 252, ((mAatS am nw kp kn th sq u w).2.2.2.2.2.1))) ∧ zat h2 194 = some (.inl (0, 6, ((mAatS am nw kp kn th sq u w).2.2.2.2.2.2))) ∧ ((((mAatS am nw kp kn th sq u w).2.2.1) ≤ 20))) := by
  have qnu := nI_toInt (n := u) (by omega)
  have qnw := nI_toInt (n := w) (by omega)
  have qnns := nI_toInt (n := ns) (by omega)
  have z0 : (0 : Int32).toInt = 0 := rfl
  have z1 : (1 : Int32).toInt = 1 := rfl
  have z5 : (5 : Int32).toInt = 5 := rfl
  have z6 : (6 : Int32).toInt = 6 := rfl
  have zm1 : (-1 : Int32).toInt = -1 := rfl
  have z3 : (3 : Int32).toInt = 3 := rfl
  have z2 : (2 : Int32).toInt = 2 := rfl
  have z20 : (20 : Int32).toInt = 20 := rfl
  refine wq_gos (f := 1) (pc2 := 2) (ls2 := [(0, .ref 162), (1, .int (nI w))]) (st2 := [.int 0, .ref 162]) (h2 := h) (dc2 := 0) (ds2 := 0) 2 rfl ?_
  refine wq_putf rfl hM rfl rfl rfl ?_
  intro hh1x e2x ff3x lh4x
  have e2x : zat hh1x 162 = some (.inr (.inr (.inr (10, mO (0 : Int32) n2 n14 n15 n16 n17 n18 n19 n20 n21 n22 n23 (nI u) n28 n32 n33 n34 n35 n39 n52)))) := e2x
  refine wq_gos (f := 1) (pc2 := 7) (ls2 := [(0, .ref 162), (1, .int (nI w))]) (st2 := [.int (-1), .int (nI w)]) (h2 := hh1x) (dc2 := 0) (ds2 := 0) 2 rfl ?_
  try have q5x := nI_toInt (n := w) (by omega)
  have q6x : (-1 : Int32).toInt = -1 := rfl
  refine wq_eq2f rfl rfl (fun q => by have q9 := congrArg Int32.toInt q; have q8 : (-1 : Int32).toInt = -1 := rfl; omega) ?_
  refine wq_gos (f := 1) (pc2 := 12) (ls2 := [(0, .ref 162), (1, .int (nI w))]) (st2 := [.int (nI w), .ref 162]) (h2 := hh1x) (dc2 := 0) (ds2 := 0) 2 rfl ?_
  refine wq_inlv (y2 := 209) (as := [.int (nI w)]) rfl rfl rfl e2x rfl ?_
  show wq 209 0 [(0, .ref 162), (1, .int (nI w))] [] hh1x 0 0 _
  refine wq_gos (f := 1) (pc2 := 1) (ls2 := [(0, .ref 162), (1, .int (nI w))]) (st2 := [.int (nI w)]) (h2 := hh1x) (dc2 := 0) (ds2 := 0) 1 rfl ?_
  refine wq_lt0f rfl rfl (by omega) ?_
  refine wq_gos (f := 1) (pc2 := 6) (ls2 := [(0, .ref 162), (1, .int (nI w))]) (st2 := [.ref 162, .int (nI w)]) (h2 := hh1x) (dc2 := 0) (ds2 := 0) 2 rfl ?_
  refine wq_getf rfl e2x rfl rfl ?_
  refine wq_gos (f := 1) (pc2 := 10) (ls2 := [(0, .ref 162), (1, .int (nI w))]) (st2 := [.int 5, .ref 166, .int (nI w)]) (h2 := hh1x) (dc2 := 0) (ds2 := 0) 1 rfl ?_
  have e7x := (ff3x.2 _ _ (wnc (by decide) wn0) hKn)
  have q8x : (5 : Int32).toInt = 5 := rfl
  refine wq_iald rfl e7x rfl rfl ?_
  refine wq_vi hns.1 ?_
  try have q9x := nI_toInt (n := ns) (by omega)
  refine wq_ge2f rfl rfl (by omega) ?_
  refine wq_gos (f := 1) (pc2 := 19) (ls2 := [(0, .ref 162), (1, .int (nI w))]) (st2 := [.int 1]) (h2 := hh1x) (dc2 := 0) (ds2 := 0) 2 rfl ?_
  refine wq_ret rfl rfl ?_
  show wq 217 15 [(0, .ref 162), (1, .int (nI w))] [.int 1] hh1x 0 0 _
  refine wq_gos (f := 1) (pc2 := 21) (ls2 := [(0, .ref 162), (1, .int (nI w))]) (st2 := [.ref 162]) (h2 := hh1x) (dc2 := 0) (ds2 := 0) 2 rfl ?_
  have e10x := (ff3x.2 _ _ (wnc (by decide) wn0) hN)
  have e11x := (ff3x.2 _ _ (wnc (by decide) wn0) hA)
  have e12x := (ff3x.2 _ _ (wnc (by decide) wn0) hK)
  refine wq_inlv (y2 := 191) (as := []) rfl rfl rfl e2x rfl (wq_mono (m_rem e2x e10x e11x e12x (by first | assumption | omega | decide | solve_by_elim)) ?_)
  rintro _ ⟨h813x, rfl, f813x, l813x, c013x, c113x, p013x⟩
  show wq 217 24 [(0, .ref 162), (1, .int (nI w))] [] h813x 0 0 _
  obtain ⟨v14x, hv15x⟩ : ∃ x, x = (mRem nw am kp u) := ⟨_, rfl⟩
  try rw [← hv15x] at c013x
  try rw [← hv15x] at c113x
  try rw [← hv15x] at p013x
  try rw [← hv15x]
  refine wq_gos (f := 1) (pc2 := 26) (ls2 := [(0, .ref 162), (1, .int (nI w))]) (st2 := [.int (-1), .int (nI w)]) (h2 := h813x) (dc2 := 0) (ds2 := 0) 2 rfl ?_
  refine wq_ne2t rfl (fun q => by have q9 := congrArg Int32.toInt q; have q8 : (-1 : Int32).toInt = -1 := rfl; omega) ?_
  refine wq_gos (f := 1) (pc2 := 43) (ls2 := [(0, .ref 162), (1, .int (nI w))]) (st2 := [.ref 162, .ref 162]) (h2 := h813x) (dc2 := 0) (ds2 := 0) 2 rfl ?_
  refine wq_getf rfl c013x rfl rfl ?_
  refine wq_gos (f := 1) (pc2 := 50) (ls2 := [(0, .ref 162), (1, .int (nI w))]) (st2 := [.int ((6 : Int32) * (nI w)), .ref 178, .ref 162]) (h2 := h813x) (dc2 := 0) (ds2 := 0) 3 rfl ?_
  refine wq_vi (show (6 : Int32) * (nI w) = nI (6 * w) from e_nmul 6 w) ?_
  have e16x := (f813x.2 _ _ (wnc (by decide) (wnc (by decide) wn0)) e7x)
  have e17x := (f813x.2 _ _ (wnc (by decide) (wnc (by decide) wn0)) (ff3x.2 _ _ (wnc (by decide) wn0) hSq))
  have e18x := (f813x.2 _ _ (wnc (by decide) (wnc (by decide) wn0)) (ff3x.2 _ _ (wnc (by decide) wn0) hTh))
  have e19x := (f813x.2 _ _ (wnc (by decide) (wnc (by decide) wn0)) e11x)
  try have q20x := nI_toInt (n := (6 * w)) (by omega)
  refine wq_inlv (y2 := 201) (as := [.ref 178, .int (nI (6 * w))]) rfl rfl rfl c013x rfl (wq_mono (m_aim c013x e16x e17x e18x e19x (by omega) (by decide)) ?_)
  rintro _ ⟨h821x, rfl, f821x, l821x, c021x, c121x⟩
  show wq 217 53 [(0, .ref 162), (1, .int (nI w))] [] h821x 0 0 _
  obtain ⟨v22x, hv23x⟩ : ∃ x, x = (mAim kn sq (6 * w) th am) := ⟨_, rfl⟩
  try rw [← hv23x] at c021x
  try rw [← hv23x] at c121x
  try rw [← hv23x]
  refine wq_gos (f := 1) (pc2 := 55) (ls2 := [(0, .ref 162), (1, .int (nI w))]) (st2 := [.int 0, .ref 162]) (h2 := h821x) (dc2 := 0) (ds2 := 0) 2 rfl ?_
  have e24x := (f821x.2 _ _ (wnc (by decide) (wnc (by decide) wn0)) c013x)
  refine wq_putf rfl e24x rfl rfl rfl ?_
  intro hh25x e26x ff27x lh28x
  have e26x : zat hh25x 162 = some (.inr (.inr (.inr (10, mO (0 : Int32) n2 n14 n15 n16 n17 n18 n19 n20 n21 n22 n23 (nI (v14x.1)) n28 n32 (0 : Int32) n34 n35 n39 n52)))) := e26x
  refine wq_gos (f := 1) (pc2 := 59) (ls2 := [(0, .ref 162), (1, .int (nI w))]) (st2 := [.int 1]) (h2 := hh25x) (dc2 := 0) (ds2 := 0) 1 rfl ?_
  have e29x := (ff27x.2 _ _ (wnc (by decide) wn0) c121x)
  have e30x := (ff27x.2 _ _ (wnc (by decide) wn0) (f821x.2 _ _ (wnc (by decide) (wnc (by decide) wn0)) c113x))
  have e31x := (ff27x.2 _ _ (wnc (by decide) wn0) c021x)
  have hx : (mAatS am nw kp kn th sq u w) = ((1 : Int32), (0 : Int32), (v14x.1), (0 : Int32), (v22x.2), (v14x.2), (v22x.1)) := by unfold mAatS; rw [zlet_eq hv15x, zlet_eq hv23x]
  rw [hx]
  exact wq_ret rfl rfl ⟨hh25x, rfl, (wFr_tr (wFr_sub ff3x (by simp)) (wFr_tr (wFr_sub f813x (by simp)) (wFr_tr (wFr_sub f821x (by simp)) (wFr_sub ff27x (by simp))))), by omega, e26x, e29x, e30x, e31x, (by (try dsimp only); omega)⟩
noncomputable def mAby (n33 : Int32) (nw am kp : List Int32) (u : Nat) (w : Int32) (v : Int64) : Int32 × Int32 × Nat × Int32 × List Int32 × List Int32 := (if (3 : Int32).toInt ≤ w.toInt then (if w.toInt < 0 then ((0 : Int32), (0 : Int32), u, n33, am, kp) else (if (6 : Int32).toInt ≤ w.toInt then ((0 : Int32), (0 : Int32), u, n33, am, kp) else (if 0 < (lg_cmp v (63 : Int64)).toInt then ((0 : Int32), (0 : Int32), u, n33, am, kp) else (if (3 : Int32).toInt ≤ w.toInt then (if 0 ≤ (lg_cmp v (0 : Int64)).toInt then (zlet (mRem nw am kp u) (fun v23x => ((1 : Int32), (0 : Int32), (v23x.1), (0 : Int32), (zset 0 am (w).toNatClampNeg (v).toInt32), (v23x.2)))) else ((0 : Int32), (0 : Int32), u, n33, am, kp)) else (if 0 ≤ (lg_cmp v (-63 : Int64)).toInt then (zlet (mRem nw am kp u) (fun v44x => ((1 : Int32), (0 : Int32), (v44x.1), (0 : Int32), (zset 0 am (w).toNatClampNeg (v).toInt32), (v44x.2)))) else ((0 : Int32), (0 : Int32), u, n33, am, kp)))))) else (if w.toInt < 0 then ((0 : Int32), (0 : Int32), u, n33, am, kp) else (if (6 : Int32).toInt ≤ w.toInt then ((0 : Int32), (0 : Int32), u, n33, am, kp) else (if 0 < (lg_cmp v (1000000000 : Int64)).toInt then ((0 : Int32), (0 : Int32), u, n33, am, kp) else (if (3 : Int32).toInt ≤ w.toInt then (if 0 ≤ (lg_cmp v (0 : Int64)).toInt then (zlet (mRem nw am kp u) (fun v76x => ((1 : Int32), (0 : Int32), (v76x.1), (0 : Int32), (zset 0 am (w).toNatClampNeg (v).toInt32), (v76x.2)))) else ((0 : Int32), (0 : Int32), u, n33, am, kp)) else (if 0 ≤ (lg_cmp v (-1000000000 : Int64)).toInt then (zlet (mRem nw am kp u) (fun v97x => ((1 : Int32), (0 : Int32), (v97x.1), (0 : Int32), (zset 0 am (w).toNatClampNeg (v).toInt32), (v97x.2)))) else ((0 : Int32), (0 : Int32), u, n33, am, kp)))))))
set_option maxRecDepth 100000 in
set_option maxHeartbeats 4000000 in
theorem m_aby {h : zH} {n0 n2 n14 n15 n16 n17 n18 n19 n20 n21 n22 n23 n28 n32 n33 n34 n35 n39 n52 : Int32} {u : Nat} {nw am kp : List Int32} {w : Int32} {v : Int64} (hM : zat h 162 = some (.inr (.inr (.inr (10, mO n0 n2 n14 n15 n16 n17 n18 n19 n20 n21 n22 n23 (nI u) n28 n32 n33 n34 n35 n39 n52))))) (hN : zat h 188 = some (.inl (0, 6, nw))) (hA : zat h 190 = some (.inl (0, 6, am))) (hK : zat h 192 = some (.inl (0, 252, kp))) (hu : u ≤ 20) : wq 218 0 [(0, .ref 162), (1, .int w), (2, .long v)] [] h 0 0 (fun rr9 => ∃ (h2 : zH), rr9 = (some (.int ((mAby n33 nw am kp u w v).1)), h2, 0, 0) ∧ wFr [162, 190, 192] h h2 ∧ h2.length = h.length ∧ zat h2 162 = some (.inr (.inr (.inr (10, mO ((mAby n33 nw am kp u w v).2.1) n2 n14 n15 n16 n17 n18 n19 n20 n21 n22 n23 (nI ((mAby n33 nw am kp u w v).2.2.1)) n28 n32 ((mAby n33 nw am kp u w v).2.2.2.1) n34 n35 n39 n52)))) ∧ zat h2 190 = some (.inl (0, 6, ((mAby n33 nw am kp u w v).2.2.2.2.1))) ∧ zat h2 192 = some (.inl (0, 252, ((mAby n33 nw am kp u w v).2.2.2.2.2))) ∧ ((((mAby n33 nw am kp u w v).2.2.1) ≤ 20))) := by
  have qnu := nI_toInt (n := u) (by omega)
  have z0 : (0 : Int32).toInt = 0 := rfl
  have z1 : (1 : Int32).toInt = 1 := rfl
  have z5 : (5 : Int32).toInt = 5 := rfl
  have z6 : (6 : Int32).toInt = 6 := rfl
  have zm1 : (-1 : Int32).toInt = -1 := rfl
  have z3 : (3 : Int32).toInt = 3 := rfl
  have z2 : (2 : Int32).toInt = 2 := rfl
  have z20 : (20 : Int32).toInt = 20 := rfl
  refine wq_gos (f := 1) (pc2 := 2) (ls2 := [(0, .ref 162), (1, .int w), (2, .long v)]) (st2 := [.int 0, .ref 162]) (h2 := h) (dc2 := 0) (ds2 := 0) 2 rfl ?_
  refine wq_putf rfl hM rfl rfl rfl ?_
  intro hh1x e2x ff3x lh4x
  have e2x : zat hh1x 162 = some (.inr (.inr (.inr (10, mO (0 : Int32) n2 n14 n15 n16 n17 n18 n19 n20 n21 n22 n23 (nI u) n28 n32 n33 n34 n35 n39 n52)))) := e2x
  refine wq_gos (f := 1) (pc2 := 7) (ls2 := [(0, .ref 162), (1, .int w), (2, .long v)]) (st2 := [.int 3, .int w]) (h2 := hh1x) (dc2 := 0) (ds2 := 0) 2 rfl ?_
  have q5x : (3 : Int32).toInt = 3 := rfl
  refine wq_ge2 rfl rfl (fun b6x => ?_) (fun b6x => ?_)
  · refine wq_gos (f := 1) (pc2 := 22) (ls2 := [(4, .long 63), (0, .ref 162), (1, .int w), (2, .long v)]) (st2 := [.int w]) (h2 := hh1x) (dc2 := 0) (ds2 := 0) 3 rfl ?_
    refine wq_inl (y2 := 208) (as := [.int w]) rfl rfl rfl ?_
    show wq 208 0 [(0, .int w)] [] hh1x 0 0 _
    refine wq_gos (f := 1) (pc2 := 1) (ls2 := [(0, .int w)]) (st2 := [.int w]) (h2 := hh1x) (dc2 := 0) (ds2 := 0) 1 rfl ?_
    refine wq_lt0 rfl rfl (fun b7x => ?_) (fun b7x => ?_)
    · refine wq_gos (f := 1) (pc2 := 15) (ls2 := [(0, .int w)]) (st2 := [.int 0]) (h2 := hh1x) (dc2 := 0) (ds2 := 0) 1 rfl ?_
      refine wq_ret rfl rfl ?_
      show wq 218 25 [(4, .long 63), (0, .ref 162), (1, .int w), (2, .long v)] [.int 0] hh1x 0 0 _
      refine wq_gos (f := 1) (pc2 := 53) (ls2 := [(4, .long 63), (0, .ref 162), (1, .int w), (2, .long v)]) (st2 := [.int 0]) (h2 := hh1x) (dc2 := 0) (ds2 := 0) 2 rfl ?_
      have e8x := (ff3x.2 _ _ (wnc (by decide) wn0) hA)
      have e9x := (ff3x.2 _ _ (wnc (by decide) wn0) hK)
      have hx : (mAby n33 nw am kp u w v) = ((0 : Int32), (0 : Int32), u, n33, am, kp) := by unfold mAby; rw [if_pos b6x, if_pos b7x]
      rw [hx]
      exact wq_ret rfl rfl ⟨hh1x, rfl, (wFr_sub ff3x (by simp)), by omega, e2x, e8x, e9x, (by (try dsimp only); omega)⟩
    · refine wq_gos (f := 1) (pc2 := 7) (ls2 := [(0, .int w)]) (st2 := [.int 6, .int w]) (h2 := hh1x) (dc2 := 0) (ds2 := 0) 2 rfl ?_
      have q10x : (6 : Int32).toInt = 6 := rfl
      refine wq_ge2 rfl rfl (fun b11x => ?_) (fun b11x => ?_)
      · refine wq_gos (f := 1) (pc2 := 15) (ls2 := [(0, .int w)]) (st2 := [.int 0]) (h2 := hh1x) (dc2 := 0) (ds2 := 0) 1 rfl ?_
        refine wq_ret rfl rfl ?_
        show wq 218 25 [(4, .long 63), (0, .ref 162), (1, .int w), (2, .long v)] [.int 0] hh1x 0 0 _
        refine wq_gos (f := 1) (pc2 := 53) (ls2 := [(4, .long 63), (0, .ref 162), (1, .int w), (2, .long v)]) (st2 := [.int 0]) (h2 := hh1x) (dc2 := 0) (ds2 := 0) 2 rfl ?_
        have e12x := (ff3x.2 _ _ (wnc (by decide) wn0) hA)
        have e13x := (ff3x.2 _ _ (wnc (by decide) wn0) hK)
        have hx : (mAby n33 nw am kp u w v) = ((0 : Int32), (0 : Int32), u, n33, am, kp) := by unfold mAby; rw [if_pos b6x, if_neg (Int.not_lt.mpr b7x), if_pos b11x]
        rw [hx]
        exact wq_ret rfl rfl ⟨hh1x, rfl, (wFr_sub ff3x (by simp)), by omega, e2x, e12x, e13x, (by (try dsimp only); omega)⟩
      · refine wq_gos (f := 1) (pc2 := 15) (ls2 := [(0, .int w)]) (st2 := [.int 1]) (h2 := hh1x) (dc2 := 0) (ds2 := 0) 2 rfl ?_
        refine wq_ret rfl rfl ?_
        show wq 218 25 [(4, .long 63), (0, .ref 162), (1, .int w), (2, .long v)] [.int 1] hh1x 0 0 _
        refine wq_gos (f := 1) (pc2 := 32) (ls2 := [(4, .long 63), (0, .ref 162), (1, .int w), (2, .long v)]) (st2 := [.int (lg_cmp v (63 : Int64))]) (h2 := hh1x) (dc2 := 0) (ds2 := 0) 4 rfl ?_
        refine wq_gt0 rfl rfl (fun b14x => ?_) (fun b14x => ?_)
        · refine wq_gos (f := 1) (pc2 := 53) (ls2 := [(4, .long 63), (0, .ref 162), (1, .int w), (2, .long v)]) (st2 := [.int 0]) (h2 := hh1x) (dc2 := 0) (ds2 := 0) 1 rfl ?_
          have e15x := (ff3x.2 _ _ (wnc (by decide) wn0) hA)
          have e16x := (ff3x.2 _ _ (wnc (by decide) wn0) hK)
          have hx : (mAby n33 nw am kp u w v) = ((0 : Int32), (0 : Int32), u, n33, am, kp) := by unfold mAby; rw [if_pos b6x, if_neg (Int.not_lt.mpr b7x), if_neg (Int.not_le.mpr b11x), if_pos b14x]
          rw [hx]
          exact wq_ret rfl rfl ⟨hh1x, rfl, (wFr_sub ff3x (by simp)), by omega, e2x, e15x, e16x, (by (try dsimp only); omega)⟩
        · refine wq_gos (f := 1) (pc2 := 38) (ls2 := [(4, .long 63), (0, .ref 162), (1, .int w), (2, .long v)]) (st2 := [.int 3, .int w, .long v]) (h2 := hh1x) (dc2 := 0) (ds2 := 0) 3 rfl ?_
          refine wq_ge2 rfl rfl (fun b17x => ?_) (fun b17x => ?_)
          · refine wq_gos (f := 1) (pc2 := 49) (ls2 := [(4, .long 63), (0, .ref 162), (1, .int w), (2, .long v)]) (st2 := [.int (lg_cmp v (0 : Int64))]) (h2 := hh1x) (dc2 := 0) (ds2 := 0) 2 rfl ?_
            refine wq_ge0 rfl rfl (fun b18x => ?_) (fun b18x => ?_)
            · refine wq_gos (f := 1) (pc2 := 55) (ls2 := [(4, .long 63), (0, .ref 162), (1, .int w), (2, .long v)]) (st2 := [.ref 162]) (h2 := hh1x) (dc2 := 0) (ds2 := 0) 1 rfl ?_
              have e19x := (ff3x.2 _ _ (wnc (by decide) wn0) hN)
              have e20x := (ff3x.2 _ _ (wnc (by decide) wn0) hA)
              have e21x := (ff3x.2 _ _ (wnc (by decide) wn0) hK)
              refine wq_inlv (y2 := 191) (as := []) rfl rfl rfl e2x rfl (wq_mono (m_rem e2x e19x e20x e21x (by first | assumption | omega | decide | solve_by_elim)) ?_)
              rintro _ ⟨h822x, rfl, f822x, l822x, c022x, c122x, p022x⟩
              show wq 218 58 [(4, .long 63), (0, .ref 162), (1, .int w), (2, .long v)] [] h822x 0 0 _
              obtain ⟨v23x, hv24x⟩ : ∃ x, x = (mRem nw am kp u) := ⟨_, rfl⟩
              try rw [← hv24x] at c022x
              try rw [← hv24x] at c122x
              try rw [← hv24x] at p022x
              try rw [← hv24x]
              refine wq_gos (f := 1) (pc2 := 59) (ls2 := [(4, .long 63), (0, .ref 162), (1, .int w), (2, .long v)]) (st2 := [.ref 162]) (h2 := h822x) (dc2 := 0) (ds2 := 0) 1 rfl ?_
              refine wq_getf rfl c022x rfl rfl ?_
              refine wq_gos (f := 1) (pc2 := 65) (ls2 := [(4, .long 63), (0, .ref 162), (1, .int w), (2, .long v)]) (st2 := [.int (v).toInt32, .int w, .ref 190]) (h2 := h822x) (dc2 := 0) (ds2 := 0) 3 rfl ?_
              have e25x := (f822x.2 _ _ (wnc (by decide) (wnc (by decide) wn0)) e20x)
              refine wq_iast rfl e25x (by first | omega | exact zin_t (by omega) (by omega)) rfl ?_
              intro hh26x e27x ff28x lh29x
              have e27x : zat hh26x 190 = some (.inl (0, 6, (zset 0 am (w).toNatClampNeg (v).toInt32))) := e27x
              refine wq_gos (f := 1) (pc2 := 68) (ls2 := [(4, .long 63), (0, .ref 162), (1, .int w), (2, .long v)]) (st2 := [.int 0, .ref 162]) (h2 := hh26x) (dc2 := 0) (ds2 := 0) 2 rfl ?_
              have e30x := (ff28x.2 _ _ (wnc (by decide) wn0) c022x)
              refine wq_putf rfl e30x rfl rfl rfl ?_
              intro hh31x e32x ff33x lh34x
              have e32x : zat hh31x 162 = some (.inr (.inr (.inr (10, mO (0 : Int32) n2 n14 n15 n16 n17 n18 n19 n20 n21 n22 n23 (nI (v23x.1)) n28 n32 (0 : Int32) n34 n35 n39 n52)))) := e32x
              refine wq_gos (f := 1) (pc2 := 72) (ls2 := [(4, .long 63), (0, .ref 162), (1, .int w), (2, .long v)]) (st2 := [.int 1]) (h2 := hh31x) (dc2 := 0) (ds2 := 0) 1 rfl ?_
              have e35x := (ff33x.2 _ _ (wnc (by decide) wn0) e27x)
              have e36x := (ff33x.2 _ _ (wnc (by decide) wn0) (ff28x.2 _ _ (wnc (by decide) wn0) c122x))
              have hx : (mAby n33 nw am kp u w v) = ((1 : Int32), (0 : Int32), (v23x.1), (0 : Int32), (zset 0 am (w).toNatClampNeg (v).toInt32), (v23x.2)) := by unfold mAby; rw [if_pos b6x, if_neg (Int.not_lt.mpr b7x), if_neg (Int.not_le.mpr b11x), if_neg (Int.not_lt.mpr b14x), if_pos b17x, if_pos b18x, zlet_eq hv24x]
              rw [hx]
              exact wq_ret rfl rfl ⟨hh31x, rfl, (wFr_tr (wFr_sub ff3x (by simp)) (wFr_tr (wFr_sub f822x (by simp)) (wFr_tr (wFr_sub ff28x (by simp)) (wFr_sub ff33x (by simp))))), by omega, e32x, e35x, e36x, (by (try dsimp only); omega)⟩
            · refine wq_gos (f := 1) (pc2 := 53) (ls2 := [(4, .long 63), (0, .ref 162), (1, .int w), (2, .long v)]) (st2 := [.int 0]) (h2 := hh1x) (dc2 := 0) (ds2 := 0) 1 rfl ?_
              have e37x := (ff3x.2 _ _ (wnc (by decide) wn0) hA)
              have e38x := (ff3x.2 _ _ (wnc (by decide) wn0) hK)
              have hx : (mAby n33 nw am kp u w v) = ((0 : Int32), (0 : Int32), u, n33, am, kp) := by unfold mAby; rw [if_pos b6x, if_neg (Int.not_lt.mpr b7x), if_neg (Int.not_le.mpr b11x), if_neg (Int.not_lt.mpr b14x), if_pos b17x, if_neg (Int.not_le.mpr b18x)]
              rw [hx]
              exact wq_ret rfl rfl ⟨hh1x, rfl, (wFr_sub ff3x (by simp)), by omega, e2x, e37x, e38x, (by (try dsimp only); omega)⟩
          · refine wq_gos (f := 1) (pc2 := 49) (ls2 := [(4, .long 63), (0, .ref 162), (1, .int w), (2, .long v)]) (st2 := [.int (lg_cmp v (-63 : Int64))]) (h2 := hh1x) (dc2 := 0) (ds2 := 0) 4 rfl ?_
            refine wq_ge0 rfl rfl (fun b39x => ?_) (fun b39x => ?_)
            · refine wq_gos (f := 1) (pc2 := 55) (ls2 := [(4, .long 63), (0, .ref 162), (1, .int w), (2, .long v)]) (st2 := [.ref 162]) (h2 := hh1x) (dc2 := 0) (ds2 := 0) 1 rfl ?_
              have e40x := (ff3x.2 _ _ (wnc (by decide) wn0) hN)
              have e41x := (ff3x.2 _ _ (wnc (by decide) wn0) hA)
              have e42x := (ff3x.2 _ _ (wnc (by decide) wn0) hK)
              refine wq_inlv (y2 := 191) (as := []) rfl rfl rfl e2x rfl (wq_mono (m_rem e2x e40x e41x e42x (by first | assumption | omega | decide | solve_by_elim)) ?_)
              rintro _ ⟨h843x, rfl, f843x, l843x, c043x, c143x, p043x⟩
              show wq 218 58 [(4, .long 63), (0, .ref 162), (1, .int w), (2, .long v)] [] h843x 0 0 _
              obtain ⟨v44x, hv45x⟩ : ∃ x, x = (mRem nw am kp u) := ⟨_, rfl⟩
              try rw [← hv45x] at c043x
              try rw [← hv45x] at c143x
              try rw [← hv45x] at p043x
              try rw [← hv45x]
              refine wq_gos (f := 1) (pc2 := 59) (ls2 := [(4, .long 63), (0, .ref 162), (1, .int w), (2, .long v)]) (st2 := [.ref 162]) (h2 := h843x) (dc2 := 0) (ds2 := 0) 1 rfl ?_
              refine wq_getf rfl c043x rfl rfl ?_
              refine wq_gos (f := 1) (pc2 := 65) (ls2 := [(4, .long 63), (0, .ref 162), (1, .int w), (2, .long v)]) (st2 := [.int (v).toInt32, .int w, .ref 190]) (h2 := h843x) (dc2 := 0) (ds2 := 0) 3 rfl ?_
              have e46x := (f843x.2 _ _ (wnc (by decide) (wnc (by decide) wn0)) e41x)
              refine wq_iast rfl e46x (by first | omega | exact zin_t (by omega) (by omega)) rfl ?_
              intro hh47x e48x ff49x lh50x
              have e48x : zat hh47x 190 = some (.inl (0, 6, (zset 0 am (w).toNatClampNeg (v).toInt32))) := e48x
              refine wq_gos (f := 1) (pc2 := 68) (ls2 := [(4, .long 63), (0, .ref 162), (1, .int w), (2, .long v)]) (st2 := [.int 0, .ref 162]) (h2 := hh47x) (dc2 := 0) (ds2 := 0) 2 rfl ?_
              have e51x := (ff49x.2 _ _ (wnc (by decide) wn0) c043x)
              refine wq_putf rfl e51x rfl rfl rfl ?_
              intro hh52x e53x ff54x lh55x
              have e53x : zat hh52x 162 = some (.inr (.inr (.inr (10, mO (0 : Int32) n2 n14 n15 n16 n17 n18 n19 n20 n21 n22 n23 (nI (v44x.1)) n28 n32 (0 : Int32) n34 n35 n39 n52)))) := e53x
              refine wq_gos (f := 1) (pc2 := 72) (ls2 := [(4, .long 63), (0, .ref 162), (1, .int w), (2, .long v)]) (st2 := [.int 1]) (h2 := hh52x) (dc2 := 0) (ds2 := 0) 1 rfl ?_
              have e56x := (ff54x.2 _ _ (wnc (by decide) wn0) e48x)
              have e57x := (ff54x.2 _ _ (wnc (by decide) wn0) (ff49x.2 _ _ (wnc (by decide) wn0) c143x))
              have hx : (mAby n33 nw am kp u w v) = ((1 : Int32), (0 : Int32), (v44x.1), (0 : Int32), (zset 0 am (w).toNatClampNeg (v).toInt32), (v44x.2)) := by unfold mAby; rw [if_pos b6x, if_neg (Int.not_lt.mpr b7x), if_neg (Int.not_le.mpr b11x), if_neg (Int.not_lt.mpr b14x), if_neg (Int.not_le.mpr b17x), if_pos b39x, zlet_eq hv45x]
              rw [hx]
              exact wq_ret rfl rfl ⟨hh52x, rfl, (wFr_tr (wFr_sub ff3x (by simp)) (wFr_tr (wFr_sub f843x (by simp)) (wFr_tr (wFr_sub ff49x (by simp)) (wFr_sub ff54x (by simp))))), by omega, e53x, e56x, e57x, (by (try dsimp only); omega)⟩
            · refine wq_gos (f := 1) (pc2 := 53) (ls2 := [(4, .long 63), (0, .ref 162), (1, .int w), (2, .long v)]) (st2 := [.int 0]) (h2 := hh1x) (dc2 := 0) (ds2 := 0) 1 rfl ?_
              have e58x := (ff3x.2 _ _ (wnc (by decide) wn0) hA)
              have e59x := (ff3x.2 _ _ (wnc (by decide) wn0) hK)
              have hx : (mAby n33 nw am kp u w v) = ((0 : Int32), (0 : Int32), u, n33, am, kp) := by unfold mAby; rw [if_pos b6x, if_neg (Int.not_lt.mpr b7x), if_neg (Int.not_le.mpr b11x), if_neg (Int.not_lt.mpr b14x), if_neg (Int.not_le.mpr b17x), if_neg (Int.not_le.mpr b39x)]
              rw [hx]
              exact wq_ret rfl rfl ⟨hh1x, rfl, (wFr_sub ff3x (by simp)), by omega, e2x, e58x, e59x, (by (try dsimp only); omega)⟩
  · refine wq_gos (f := 1) (pc2 := 22) (ls2 := [(4, .long 1000000000), (0, .ref 162), (1, .int w), (2, .long v)]) (st2 := [.int w]) (h2 := hh1x) (dc2 := 0) (ds2 := 0) 4 rfl ?_
    refine wq_inl (y2 := 208) (as := [.int w]) rfl rfl rfl ?_
    show wq 208 0 [(0, .int w)] [] hh1x 0 0 _
    refine wq_gos (f := 1) (pc2 := 1) (ls2 := [(0, .int w)]) (st2 := [.int w]) (h2 := hh1x) (dc2 := 0) (ds2 := 0) 1 rfl ?_
    refine wq_lt0 rfl rfl (fun b60x => ?_) (fun b60x => ?_)
    · refine wq_gos (f := 1) (pc2 := 15) (ls2 := [(0, .int w)]) (st2 := [.int 0]) (h2 := hh1x) (dc2 := 0) (ds2 := 0) 1 rfl ?_
      refine wq_ret rfl rfl ?_
      show wq 218 25 [(4, .long 1000000000), (0, .ref 162), (1, .int w), (2, .long v)] [.int 0] hh1x 0 0 _
      refine wq_gos (f := 1) (pc2 := 53) (ls2 := [(4, .long 1000000000), (0, .ref 162), (1, .int w), (2, .long v)]) (st2 := [.int 0]) (h2 := hh1x) (dc2 := 0) (ds2 := 0) 2 rfl ?_
      have e61x := (ff3x.2 _ _ (wnc (by decide) wn0) hA)
      have e62x := (ff3x.2 _ _ (wnc (by decide) wn0) hK)
      have hx : (mAby n33 nw am kp u w v) = ((0 : Int32), (0 : Int32), u, n33, am, kp) := by unfold mAby; rw [if_neg (Int.not_le.mpr b6x), if_pos b60x]
      rw [hx]
      exact wq_ret rfl rfl ⟨hh1x, rfl, (wFr_sub ff3x (by simp)), by omega, e2x, e61x, e62x, (by (try dsimp only); omega)⟩
    · refine wq_gos (f := 1) (pc2 := 7) (ls2 := [(0, .int w)]) (st2 := [.int 6, .int w]) (h2 := hh1x) (dc2 := 0) (ds2 := 0) 2 rfl ?_
      have q63x : (6 : Int32).toInt = 6 := rfl
      refine wq_ge2 rfl rfl (fun b64x => ?_) (fun b64x => ?_)
      · refine wq_gos (f := 1) (pc2 := 15) (ls2 := [(0, .int w)]) (st2 := [.int 0]) (h2 := hh1x) (dc2 := 0) (ds2 := 0) 1 rfl ?_
        refine wq_ret rfl rfl ?_
        show wq 218 25 [(4, .long 1000000000), (0, .ref 162), (1, .int w), (2, .long v)] [.int 0] hh1x 0 0 _
        refine wq_gos (f := 1) (pc2 := 53) (ls2 := [(4, .long 1000000000), (0, .ref 162), (1, .int w), (2, .long v)]) (st2 := [.int 0]) (h2 := hh1x) (dc2 := 0) (ds2 := 0) 2 rfl ?_
        have e65x := (ff3x.2 _ _ (wnc (by decide) wn0) hA)
        have e66x := (ff3x.2 _ _ (wnc (by decide) wn0) hK)
        have hx : (mAby n33 nw am kp u w v) = ((0 : Int32), (0 : Int32), u, n33, am, kp) := by unfold mAby; rw [if_neg (Int.not_le.mpr b6x), if_neg (Int.not_lt.mpr b60x), if_pos b64x]
        rw [hx]
        exact wq_ret rfl rfl ⟨hh1x, rfl, (wFr_sub ff3x (by simp)), by omega, e2x, e65x, e66x, (by (try dsimp only); omega)⟩
      · refine wq_gos (f := 1) (pc2 := 15) (ls2 := [(0, .int w)]) (st2 := [.int 1]) (h2 := hh1x) (dc2 := 0) (ds2 := 0) 2 rfl ?_
        refine wq_ret rfl rfl ?_
        show wq 218 25 [(4, .long 1000000000), (0, .ref 162), (1, .int w), (2, .long v)] [.int 1] hh1x 0 0 _
        refine wq_gos (f := 1) (pc2 := 32) (ls2 := [(4, .long 1000000000), (0, .ref 162), (1, .int w), (2, .long v)]) (st2 := [.int (lg_cmp v (1000000000 : Int64))]) (h2 := hh1x) (dc2 := 0) (ds2 := 0) 4 rfl ?_
        refine wq_gt0 rfl rfl (fun b67x => ?_) (fun b67x => ?_)
        · refine wq_gos (f := 1) (pc2 := 53) (ls2 := [(4, .long 1000000000), (0, .ref 162), (1, .int w), (2, .long v)]) (st2 := [.int 0]) (h2 := hh1x) (dc2 := 0) (ds2 := 0) 1 rfl ?_
          have e68x := (ff3x.2 _ _ (wnc (by decide) wn0) hA)
          have e69x := (ff3x.2 _ _ (wnc (by decide) wn0) hK)
          have hx : (mAby n33 nw am kp u w v) = ((0 : Int32), (0 : Int32), u, n33, am, kp) := by unfold mAby; rw [if_neg (Int.not_le.mpr b6x), if_neg (Int.not_lt.mpr b60x), if_neg (Int.not_le.mpr b64x), if_pos b67x]
          rw [hx]
          exact wq_ret rfl rfl ⟨hh1x, rfl, (wFr_sub ff3x (by simp)), by omega, e2x, e68x, e69x, (by (try dsimp only); omega)⟩
        · refine wq_gos (f := 1) (pc2 := 38) (ls2 := [(4, .long 1000000000), (0, .ref 162), (1, .int w), (2, .long v)]) (st2 := [.int 3, .int w, .long v]) (h2 := hh1x) (dc2 := 0) (ds2 := 0) 3 rfl ?_
          refine wq_ge2 rfl rfl (fun b70x => ?_) (fun b70x => ?_)
          · refine wq_gos (f := 1) (pc2 := 49) (ls2 := [(4, .long 1000000000), (0, .ref 162), (1, .int w), (2, .long v)]) (st2 := [.int (lg_cmp v (0 : Int64))]) (h2 := hh1x) (dc2 := 0) (ds2 := 0) 2 rfl ?_
            refine wq_ge0 rfl rfl (fun b71x => ?_) (fun b71x => ?_)
            · refine wq_gos (f := 1) (pc2 := 55) (ls2 := [(4, .long 1000000000), (0, .ref 162), (1, .int w), (2, .long v)]) (st2 := [.ref 162]) (h2 := hh1x) (dc2 := 0) (ds2 := 0) 1 rfl ?_
              have e72x := (ff3x.2 _ _ (wnc (by decide) wn0) hN)
              have e73x := (ff3x.2 _ _ (wnc (by decide) wn0) hA)
              have e74x := (ff3x.2 _ _ (wnc (by decide) wn0) hK)
              refine wq_inlv (y2 := 191) (as := []) rfl rfl rfl e2x rfl (wq_mono (m_rem e2x e72x e73x e74x (by first | assumption | omega | decide | solve_by_elim)) ?_)
              rintro _ ⟨h875x, rfl, f875x, l875x, c075x, c175x, p075x⟩
              show wq 218 58 [(4, .long 1000000000), (0, .ref 162), (1, .int w), (2, .long v)] [] h875x 0 0 _
              obtain ⟨v76x, hv77x⟩ : ∃ x, x = (mRem nw am kp u) := ⟨_, rfl⟩
              try rw [← hv77x] at c075x
              try rw [← hv77x] at c175x
              try rw [← hv77x] at p075x
              try rw [← hv77x]
              refine wq_gos (f := 1) (pc2 := 59) (ls2 := [(4, .long 1000000000), (0, .ref 162), (1, .int w), (2, .long v)]) (st2 := [.ref 162]) (h2 := h875x) (dc2 := 0) (ds2 := 0) 1 rfl ?_
              refine wq_getf rfl c075x rfl rfl ?_
              refine wq_gos (f := 1) (pc2 := 65) (ls2 := [(4, .long 1000000000), (0, .ref 162), (1, .int w), (2, .long v)]) (st2 := [.int (v).toInt32, .int w, .ref 190]) (h2 := h875x) (dc2 := 0) (ds2 := 0) 3 rfl ?_
              have e78x := (f875x.2 _ _ (wnc (by decide) (wnc (by decide) wn0)) e73x)
              refine wq_iast rfl e78x (by first | omega | exact zin_t (by omega) (by omega)) rfl ?_
              intro hh79x e80x ff81x lh82x
              have e80x : zat hh79x 190 = some (.inl (0, 6, (zset 0 am (w).toNatClampNeg (v).toInt32))) := e80x
              refine wq_gos (f := 1) (pc2 := 68) (ls2 := [(4, .long 1000000000), (0, .ref 162), (1, .int w), (2, .long v)]) (st2 := [.int 0, .ref 162]) (h2 := hh79x) (dc2 := 0) (ds2 := 0) 2 rfl ?_
              have e83x := (ff81x.2 _ _ (wnc (by decide) wn0) c075x)
              refine wq_putf rfl e83x rfl rfl rfl ?_
              intro hh84x e85x ff86x lh87x
              have e85x : zat hh84x 162 = some (.inr (.inr (.inr (10, mO (0 : Int32) n2 n14 n15 n16 n17 n18 n19 n20 n21 n22 n23 (nI (v76x.1)) n28 n32 (0 : Int32) n34 n35 n39 n52)))) := e85x
              refine wq_gos (f := 1) (pc2 := 72) (ls2 := [(4, .long 1000000000), (0, .ref 162), (1, .int w), (2, .long v)]) (st2 := [.int 1]) (h2 := hh84x) (dc2 := 0) (ds2 := 0) 1 rfl ?_
              have e88x := (ff86x.2 _ _ (wnc (by decide) wn0) e80x)
              have e89x := (ff86x.2 _ _ (wnc (by decide) wn0) (ff81x.2 _ _ (wnc (by decide) wn0) c175x))
              have hx : (mAby n33 nw am kp u w v) = ((1 : Int32), (0 : Int32), (v76x.1), (0 : Int32), (zset 0 am (w).toNatClampNeg (v).toInt32), (v76x.2)) := by unfold mAby; rw [if_neg (Int.not_le.mpr b6x), if_neg (Int.not_lt.mpr b60x), if_neg (Int.not_le.mpr b64x), if_neg (Int.not_lt.mpr b67x), if_pos b70x, if_pos b71x, zlet_eq hv77x]
              rw [hx]
              exact wq_ret rfl rfl ⟨hh84x, rfl, (wFr_tr (wFr_sub ff3x (by simp)) (wFr_tr (wFr_sub f875x (by simp)) (wFr_tr (wFr_sub ff81x (by simp)) (wFr_sub ff86x (by simp))))), by omega, e85x, e88x, e89x, (by (try dsimp only); omega)⟩
            · refine wq_gos (f := 1) (pc2 := 53) (ls2 := [(4, .long 1000000000), (0, .ref 162), (1, .int w), (2, .long v)]) (st2 := [.int 0]) (h2 := hh1x) (dc2 := 0) (ds2 := 0) 1 rfl ?_
              have e90x := (ff3x.2 _ _ (wnc (by decide) wn0) hA)
              have e91x := (ff3x.2 _ _ (wnc (by decide) wn0) hK)
              have hx : (mAby n33 nw am kp u w v) = ((0 : Int32), (0 : Int32), u, n33, am, kp) := by unfold mAby; rw [if_neg (Int.not_le.mpr b6x), if_neg (Int.not_lt.mpr b60x), if_neg (Int.not_le.mpr b64x), if_neg (Int.not_lt.mpr b67x), if_pos b70x, if_neg (Int.not_le.mpr b71x)]
              rw [hx]
              exact wq_ret rfl rfl ⟨hh1x, rfl, (wFr_sub ff3x (by simp)), by omega, e2x, e90x, e91x, (by (try dsimp only); omega)⟩
          · refine wq_gos (f := 1) (pc2 := 49) (ls2 := [(4, .long 1000000000), (0, .ref 162), (1, .int w), (2, .long v)]) (st2 := [.int (lg_cmp v (-1000000000 : Int64))]) (h2 := hh1x) (dc2 := 0) (ds2 := 0) 4 rfl ?_
            refine wq_ge0 rfl rfl (fun b92x => ?_) (fun b92x => ?_)
            · refine wq_gos (f := 1) (pc2 := 55) (ls2 := [(4, .long 1000000000), (0, .ref 162), (1, .int w), (2, .long v)]) (st2 := [.ref 162]) (h2 := hh1x) (dc2 := 0) (ds2 := 0) 1 rfl ?_
              have e93x := (ff3x.2 _ _ (wnc (by decide) wn0) hN)
              have e94x := (ff3x.2 _ _ (wnc (by decide) wn0) hA)
              have e95x := (ff3x.2 _ _ (wnc (by decide) wn0) hK)
              refine wq_inlv (y2 := 191) (as := []) rfl rfl rfl e2x rfl (wq_mono (m_rem e2x e93x e94x e95x (by first | assumption | omega | decide | solve_by_elim)) ?_)
              rintro _ ⟨h896x, rfl, f896x, l896x, c096x, c196x, p096x⟩
              show wq 218 58 [(4, .long 1000000000), (0, .ref 162), (1, .int w), (2, .long v)] [] h896x 0 0 _
              obtain ⟨v97x, hv98x⟩ : ∃ x, x = (mRem nw am kp u) := ⟨_, rfl⟩
              try rw [← hv98x] at c096x
              try rw [← hv98x] at c196x
              try rw [← hv98x] at p096x
              try rw [← hv98x]
              refine wq_gos (f := 1) (pc2 := 59) (ls2 := [(4, .long 1000000000), (0, .ref 162), (1, .int w), (2, .long v)]) (st2 := [.ref 162]) (h2 := h896x) (dc2 := 0) (ds2 := 0) 1 rfl ?_
              refine wq_getf rfl c096x rfl rfl ?_
              refine wq_gos (f := 1) (pc2 := 65) (ls2 := [(4, .long 1000000000), (0, .ref 162), (1, .int w), (2, .long v)]) (st2 := [.int (v).toInt32, .int w, .ref 190]) (h2 := h896x) (dc2 := 0) (ds2 := 0) 3 rfl ?_
              have e99x := (f896x.2 _ _ (wnc (by decide) (wnc (by decide) wn0)) e94x)
              refine wq_iast rfl e99x (by first | omega | exact zin_t (by omega) (by omega)) rfl ?_
              intro hh100x e101x ff102x lh103x
              have e101x : zat hh100x 190 = some (.inl (0, 6, (zset 0 am (w).toNatClampNeg (v).toInt32))) := e101x
              refine wq_gos (f := 1) (pc2 := 68) (ls2 := [(4, .long 1000000000), (0, .ref 162), (1, .int w), (2, .long v)]) (st2 := [.int 0, .ref 162]) (h2 := hh100x) (dc2 := 0) (ds2 := 0) 2 rfl ?_
              have e104x := (ff102x.2 _ _ (wnc (by decide) wn0) c096x)
              refine wq_putf rfl e104x rfl rfl rfl ?_
              intro hh105x e106x ff107x lh108x
              have e106x : zat hh105x 162 = some (.inr (.inr (.inr (10, mO (0 : Int32) n2 n14 n15 n16 n17 n18 n19 n20 n21 n22 n23 (nI (v97x.1)) n28 n32 (0 : Int32) n34 n35 n39 n52)))) := e106x
              refine wq_gos (f := 1) (pc2 := 72) (ls2 := [(4, .long 1000000000), (0, .ref 162), (1, .int w), (2, .long v)]) (st2 := [.int 1]) (h2 := hh105x) (dc2 := 0) (ds2 := 0) 1 rfl ?_
              have e109x := (ff107x.2 _ _ (wnc (by decide) wn0) e101x)
              have e110x := (ff107x.2 _ _ (wnc (by decide) wn0) (ff102x.2 _ _ (wnc (by decide) wn0) c196x))
              have hx : (mAby n33 nw am kp u w v) = ((1 : Int32), (0 : Int32), (v97x.1), (0 : Int32), (zset 0 am (w).toNatClampNeg (v).toInt32), (v97x.2)) := by unfold mAby; rw [if_neg (Int.not_le.mpr b6x), if_neg (Int.not_lt.mpr b60x), if_neg (Int.not_le.mpr b64x), if_neg (Int.not_lt.mpr b67x), if_neg (Int.not_le.mpr b70x), if_pos b92x, zlet_eq hv98x]
              rw [hx]
              exact wq_ret rfl rfl ⟨hh105x, rfl, (wFr_tr (wFr_sub ff3x (by simp)) (wFr_tr (wFr_sub f896x (by simp)) (wFr_tr (wFr_sub ff102x (by simp)) (wFr_sub ff107x (by simp))))), by omega, e106x, e109x, e110x, (by (try dsimp only); omega)⟩
            · refine wq_gos (f := 1) (pc2 := 53) (ls2 := [(4, .long 1000000000), (0, .ref 162), (1, .int w), (2, .long v)]) (st2 := [.int 0]) (h2 := hh1x) (dc2 := 0) (ds2 := 0) 1 rfl ?_
              have e111x := (ff3x.2 _ _ (wnc (by decide) wn0) hA)
              have e112x := (ff3x.2 _ _ (wnc (by decide) wn0) hK)
              have hx : (mAby n33 nw am kp u w v) = ((0 : Int32), (0 : Int32), u, n33, am, kp) := by unfold mAby; rw [if_neg (Int.not_le.mpr b6x), if_neg (Int.not_lt.mpr b60x), if_neg (Int.not_le.mpr b64x), if_neg (Int.not_lt.mpr b67x), if_neg (Int.not_le.mpr b70x), if_neg (Int.not_le.mpr b92x)]
              rw [hx]
              exact wq_ret rfl rfl ⟨hh1x, rfl, (wFr_sub ff3x (by simp)), by omega, e2x, e111x, e112x, (by (try dsimp only); omega)⟩
