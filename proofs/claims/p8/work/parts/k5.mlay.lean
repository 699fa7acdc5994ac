/-! The reference: a route is laid, piece by piece. -/
/-- a count that goes up where the number is that one -/
noncomputable def mCn (no no2 m v : Int32) : Prop := (m = v ∧ no2 = no + 1) ∨ (m ≠ v ∧ no2 = no + 0)
set_option maxRecDepth 100000 in
set_option maxHeartbeats 4000000 in
theorem m_lrX {h : zH} {Q : zR → Prop} {dc ds : Nat} {n0 n2 n14 n15 n16 n17 n18 n19 n20 n21 n22 n23 n27 n28 n32 n33 n34 n35 n39 n52 : Int32} {kn : List Int32} {wn i : Nat} {no tm r9 : Int32} (hM : zat h 162 = some (.inr (.inr (.inr (10, mO n0 n2 n14 n15 n16 n17 n18 n19 n20 n21 n22 n23 n27 n28 n32 n33 n34 n35 n39 n52))))) (hKn : zat h 166 = some (.inl (0, 14, kn))) (hkn : kn.getD 6 0 = nI wn ∧ wn ≤ 10) (hi : wn ≤ i ∧ i ≤ 10) (kE : wq 249 87 [(0, .ref 162), (1, .int r9), (2, .int no), (3, .int tm)] [] h dc ds Q) : wq 249 31 [(0, .ref 162), (1, .int r9), (2, .int no), (3, .int tm), (4, .int (nI i))] [] h dc ds Q := by
  have qni := nI_toInt (n := i) (by omega)
  have qnwn := nI_toInt (n := wn) (by omega)
  refine wq_gos (f := 1) (pc2 := 34) (ls2 := [(0, .ref 162), (1, .int r9), (2, .int no), (3, .int tm), (4, .int (nI i))]) (st2 := [.ref 162, .int (nI i)]) (h2 := h) (dc2 := dc) (ds2 := ds) 2 rfl ?_
  refine wq_inlv (y2 := 244) (as := []) rfl rfl rfl hM rfl ?_
  show wq 244 0 [(0, .ref 162)] [] h 0 0 _
  refine wq_gos (f := 1) (pc2 := 1) (ls2 := [(0, .ref 162)]) (st2 := [.ref 162]) (h2 := h) (dc2 := 0) (ds2 := 0) 1 rfl ?_
  refine wq_getf rfl hM rfl rfl ?_
  refine wq_gos (f := 1) (pc2 := 6) (ls2 := [(0, .ref 162)]) (st2 := [.int 6, .ref 166]) (h2 := h) (dc2 := 0) (ds2 := 0) 1 rfl ?_
  have q1x : (6 : Int32).toInt = 6 := rfl
  refine wq_iald rfl hKn rfl rfl ?_
  refine wq_vi hkn.1 ?_
  refine wq_ret rfl rfl ?_
  show wq 249 37 [(0, .ref 162), (1, .int r9), (2, .int no), (3, .int tm), (4, .int (nI i))] [.int (nI wn), .int (nI i)] h dc ds _
  try have q2x := nI_toInt (n := i) (by omega)
  try have q3x := nI_toInt (n := wn) (by omega)
  refine wq_ge2t rfl (by omega) ?_
  refine wq_ls [(0, .ref 162), (1, .int r9), (2, .int no), (3, .int tm)] (show ([0, 1, 2, 3] : List Nat).Nodup by decide) ⟨rfl, rfl, rfl, rfl, trivial⟩ ?_
  exact kE 
set_option maxRecDepth 100000 in
set_option maxHeartbeats 4000000 in
theorem m_lrA {h : zH} {Q : zR → Prop} {dc ds : Nat} {n0 n2 n14 n15 n16 n17 n18 n19 n20 n21 n22 n23 n27 n28 n32 n33 n34 n35 n39 n52 : Int32} {kn lo hi on pa9 pb9 th sq sg sm wy : List Int32} {fo : List Int64} {w wn i : Nat} {no tm r9 : Int32} (hM : zat h 162 = some (.inr (.inr (.inr (10, mO n0 n2 n14 n15 n16 n17 n18 n19 n20 n21 n22 n23 n27 n28 n32 n33 n34 n35 n39 n52))))) (hKn : zat h 166 = some (.inl (0, 14, kn))) (hLo : zat h 168 = some (.inl (0, 12, lo))) (hHi : zat h 170 = some (.inl (0, 12, hi))) (hFo : zat h 196 = some (.inr (.inl (6000, fo)))) (hOn : zat h 204 = some (.inl (0, 6, on))) (h200 : zat h 200 = some (.inl (0, 4096, pa9))) (h202 : zat h 202 = some (.inl (0, 4096, pb9))) (hTh : zat h 194 = some (.inl (0, 6, th))) (hSq : zat h 178 = some (.inl (0, 96, sq))) (hSg : zat h 222 = some (.inl (0, 6, sg))) (hSm : zat h 198 = some (.inl (0, 8, sm))) (hWy : zat h 180 = some (.inl (0, 20, wy))) (hkn : kn.getD 6 0 = nI wn ∧ wn ≤ 10) (hiw : i < wn) (hw : wy.getD i 0 = nI w ∧ w < 8) (kK : ∀ (h2 : zH) (no2 : Int32) (tm2 : Int32), (wFr [] h h2) → (h2.length = h.length) → (sm.getD w 0 ≠ -1) → (mCn no no2 (sm.getD w 0) 0) → (mCn tm tm2 (sm.getD w 0) (-3)) → wq 249 31 [(0, .ref 162), (1, .int r9), (2, .int no2), (3, .int tm2), (4, .int (nI (i + 1)))] [] h2 dc ds Q) (kN : ∀ (h2 : zH) (no2 : Int32) (tm2 : Int32) (m35 : Int32) (fo2 : List Int64) (on2 : List Int32) (pa2 : List Int32) (pb2 : List Int32), (wFr [162, 194, 222, 196, 204, 200, 202, 198] h h2) → (h2.length = h.length) → (zat h2 162 = some (.inr (.inr (.inr (10, mO n0 n2 n14 n15 n16 n17 n18 n19 n20 n21 n22 n23 n27 n28 n32 n33 (mNum (mSol lo hi kn (mSg (mPla kn sq (6 * w) th) sg))) m35 n39 n52))))) → (zat h2 194 = some (.inl (0, 6, (mPla kn sq (6 * w) th)))) → (zat h2 222 = some (.inl (0, 6, (mSg (mPla kn sq (6 * w) th) sg)))) → (zat h2 196 = some (.inr (.inl (6000, fo2)))) → (zat h2 204 = some (.inl (0, 6, on2))) → (zat h2 200 = some (.inl (0, 4096, pa2))) → (zat h2 202 = some (.inl (0, 4096, pb2))) → (zat h2 198 = some (.inl (0, 8, (zset 0 sm w (mNum (mSol lo hi kn (mSg (mPla kn sq (6 * w) th) sg))))))) → (sm.getD w 0 = -1) → (wFe (fun q => fo.getD q 0) (600 * w) (mSol lo hi kn (mSg (mPla kn sq (6 * w) th) sg)) fo2) → (mCn no no2 (mNum (mSol lo hi kn (mSg (mPla kn sq (6 * w) th) sg))) 0) → (mCn tm tm2 (mNum (mSol lo hi kn (mSg (mPla kn sq (6 * w) th) sg))) (-3)) → wq 249 31 [(0, .ref 162), (1, .int r9), (2, .int no2), (3, .int tm2), (4, .int (nI (i + 1)))] [] h2 dc ds Q) : wq 249 31 [(0, .ref 162), (1, .int r9), (2, .int no), (3, .int tm), (4, .int (nI i))] [] h dc ds Q := by
  have qni := nI_toInt (n := i) (by omega)
  have qnwn := nI_toInt (n := wn) (by omega)
  refine wq_gos (f := 1) (pc2 := 34) (ls2 := [(0, .ref 162), (1, .int r9), (2, .int no), (3, .int tm), (4, .int (nI i))]) (st2 := [.ref 162, .int (nI i)]) (h2 := h) (dc2 := dc) (ds2 := ds) 2 rfl ?_
  refine wq_inlv (y2 := 244) (as := []) rfl rfl rfl hM rfl ?_
  show wq 244 0 [(0, .ref 162)] [] h 0 0 _
  refine wq_gos (f := 1) (pc2 := 1) (ls2 := [(0, .ref 162)]) (st2 := [.ref 162]) (h2 := h) (dc2 := 0) (ds2 := 0) 1 rfl ?_
  refine wq_getf rfl hM rfl rfl ?_
  refine wq_gos (f := 1) (pc2 := 6) (ls2 := [(0, .ref 162)]) (st2 := [.int 6, .ref 166]) (h2 := h) (dc2 := 0) (ds2 := 0) 1 rfl ?_
  have q1x : (6 : Int32).toInt = 6 := rfl
  refine wq_iald rfl hKn rfl rfl ?_
  refine wq_vi hkn.1 ?_
  refine wq_ret rfl rfl ?_
  show wq 249 37 [(0, .ref 162), (1, .int r9), (2, .int no), (3, .int tm), (4, .int (nI i))] [.int (nI wn), .int (nI i)] h dc ds _
  try have q2x := nI_toInt (n := i) (by omega)
  try have q3x := nI_toInt (n := wn) (by omega)
  refine wq_ge2f rfl rfl (by omega) ?_
  refine wq_gos (f := 1) (pc2 := 42) (ls2 := [(0, .ref 162), (1, .int r9), (2, .int no), (3, .int tm), (4, .int (nI i))]) (st2 := [.ref 162, .ref 162]) (h2 := h) (dc2 := dc) (ds2 := ds) 2 rfl ?_
  refine wq_getf rfl hM rfl rfl ?_
  refine wq_gos (f := 1) (pc2 := 47) (ls2 := [(0, .ref 162), (1, .int r9), (2, .int no), (3, .int tm), (4, .int (nI i))]) (st2 := [.int (nI i), .ref 180, .ref 162]) (h2 := h) (dc2 := dc) (ds2 := ds) 1 rfl ?_
  refine wq_ialdn rfl hWy (by first | omega | exact zin_t (by omega) (by omega)) (by decide) rfl ?_
  refine wq_vi hw.1 ?_
  try have q4x := nI_toInt (n := w) (by omega)
  refine wq_inlv (y2 := 243) (as := [.int (nI w)]) rfl rfl rfl hM rfl (m_sof hM hKn hLo hHi hFo hOn h200 h202 hTh hSq hSg hSm hw.2 ?_ ?_)
  · intro h85x f85x l85x p05x
    show wq 249 51 [(0, .ref 162), (1, .int r9), (2, .int no), (3, .int tm), (4, .int (nI i))] [.int (sm.getD w 0)] h85x dc ds _
    refine wq_gos (f := 1) (pc2 := 56) (ls2 := [(5, .int (sm.getD w 0)), (0, .ref 162), (1, .int r9), (2, .int no), (3, .int tm), (4, .int (nI i))]) (st2 := [.int (sm.getD w 0), .int no]) (h2 := h85x) (dc2 := dc) (ds2 := ds) 3 rfl ?_
    refine wq_ne0 rfl rfl (fun b6x => ?_) (fun b6x => ?_)
    · have q7x : (sm.getD w 0).toInt ≠ 0 := fun q => b6x (Int32.toInt_inj.mp q)
      refine wq_gos (f := 1) (pc2 := 71) (ls2 := [(2, .int (no + (0 : Int32))), (5, .int (sm.getD w 0)), (0, .ref 162), (1, .int r9), (3, .int tm), (4, .int (nI i))]) (st2 := [.int (-3), .int (sm.getD w 0), .int tm]) (h2 := h85x) (dc2 := dc) (ds2 := ds) 6 rfl ?_
      have q8x : (-3 : Int32).toInt = -3 := rfl
      refine wq_ne2 rfl rfl (fun b9x => ?_) (fun b9x => ?_)
      · have q10x : (sm.getD w 0).toInt ≠ -3 := fun q => b9x (Int32.toInt_inj.mp q)
        refine wq_gos (f := 1) (pc2 := 84) (ls2 := [(4, .int ((nI i) + 1)), (3, .int (tm + (0 : Int32))), (2, .int (no + (0 : Int32))), (5, .int (sm.getD w 0)), (0, .ref 162), (1, .int r9)]) (st2 := []) (h2 := h85x) (dc2 := dc) (ds2 := ds) 4 rfl ?_
        rw [nI_1]
        refine wq_gos (f := 1) (pc2 := 31) (ls2 := [(4, .int (nI (i + 1))), (3, .int (tm + (0 : Int32))), (2, .int (no + (0 : Int32))), (5, .int (sm.getD w 0)), (0, .ref 162), (1, .int r9)]) (st2 := []) (h2 := h85x) (dc2 := dc) (ds2 := ds) 1 rfl ?_
        refine wq_ls [(0, .ref 162), (1, .int r9), (2, .int (no + (0 : Int32))), (3, .int (tm + (0 : Int32))), (4, .int (nI (i + 1)))] (show ([0, 1, 2, 3, 4] : List Nat).Nodup by decide) ⟨rfl, rfl, rfl, rfl, rfl, trivial⟩ ?_
        exact kK h85x (no + (0 : Int32)) (tm + (0 : Int32)) (wFr_sub f85x (by simp)) (by omega) p05x (Or.inr ⟨b6x, rfl⟩) (Or.inr ⟨b9x, rfl⟩)
      · have q11x : (sm.getD w 0).toInt = -3 := congrArg Int32.toInt b9x
        refine wq_gos (f := 1) (pc2 := 84) (ls2 := [(4, .int ((nI i) + 1)), (3, .int (tm + (1 : Int32))), (2, .int (no + (0 : Int32))), (5, .int (sm.getD w 0)), (0, .ref 162), (1, .int r9)]) (st2 := []) (h2 := h85x) (dc2 := dc) (ds2 := ds) 5 rfl ?_
        rw [nI_1]
        refine wq_gos (f := 1) (pc2 := 31) (ls2 := [(4, .int (nI (i + 1))), (3, .int (tm + (1 : Int32))), (2, .int (no + (0 : Int32))), (5, .int (sm.getD w 0)), (0, .ref 162), (1, .int r9)]) (st2 := []) (h2 := h85x) (dc2 := dc) (ds2 := ds) 1 rfl ?_
        refine wq_ls [(0, .ref 162), (1, .int r9), (2, .int (no + (0 : Int32))), (3, .int (tm + (1 : Int32))), (4, .int (nI (i + 1)))] (show ([0, 1, 2, 3, 4] : List Nat).Nodup by decide) ⟨rfl, rfl, rfl, rfl, rfl, trivial⟩ ?_
        exact kK h85x (no + (0 : Int32)) (tm + (1 : Int32)) (wFr_sub f85x (by simp)) (by omega) p05x (Or.inr ⟨b6x, rfl⟩) (Or.inl ⟨b9x, rfl⟩)
    · have q12x : (sm.getD w 0).toInt = 0 := congrArg Int32.toInt b6x
      refine wq_gos (f := 1) (pc2 := 71) (ls2 := [(2, .int (no + (1 : Int32))), (5, .int (sm.getD w 0)), (0, .ref 162), (1, .int r9), (3, .int tm), (4, .int (nI i))]) (st2 := [.int (-3), .int (sm.getD w 0), .int tm]) (h2 := h85x) (dc2 := dc) (ds2 := ds) 7 rfl ?_
      have q13x : (-3 : Int32).toInt = -3 := rfl
      refine wq_ne2 rfl rfl (fun b14x => ?_) (fun b14x => ?_)
      · have q15x : (sm.getD w 0).toInt ≠ -3 := fun q => b14x (Int32.toInt_inj.mp q)
        refine wq_gos (f := 1) (pc2 := 84) (ls2 := [(4, .int ((nI i) + 1)), (3, .int (tm + (0 : Int32))), (2, .int (no + (1 : Int32))), (5, .int (sm.getD w 0)), (0, .ref 162), (1, .int r9)]) (st2 := []) (h2 := h85x) (dc2 := dc) (ds2 := ds) 4 rfl ?_
        rw [nI_1]
        refine wq_gos (f := 1) (pc2 := 31) (ls2 := [(4, .int (nI (i + 1))), (3, .int (tm + (0 : Int32))), (2, .int (no + (1 : Int32))), (5, .int (sm.getD w 0)), (0, .ref 162), (1, .int r9)]) (st2 := []) (h2 := h85x) (dc2 := dc) (ds2 := ds) 1 rfl ?_
        refine wq_ls [(0, .ref 162), (1, .int r9), (2, .int (no + (1 : Int32))), (3, .int (tm + (0 : Int32))), (4, .int (nI (i + 1)))] (show ([0, 1, 2, 3, 4] : List Nat).Nodup by decide) ⟨rfl, rfl, rfl, rfl, rfl, trivial⟩ ?_
        exact kK h85x (no + (1 : Int32)) (tm + (0 : Int32)) (wFr_sub f85x (by simp)) (by omega) p05x (Or.inl ⟨b6x, rfl⟩) (Or.inr ⟨b14x, rfl⟩)
      · have q16x : (sm.getD w 0).toInt = -3 := congrArg Int32.toInt b14x
        refine wq_gos (f := 1) (pc2 := 84) (ls2 := [(4, .int ((nI i) + 1)), (3, .int (tm + (1 : Int32))), (2, .int (no + (1 : Int32))), (5, .int (sm.getD w 0)), (0, .ref 162), (1, .int r9)]) (st2 := []) (h2 := h85x) (dc2 := dc) (ds2 := ds) 5 rfl ?_
        rw [nI_1]
        refine wq_gos (f := 1) (pc2 := 31) (ls2 := [(4, .int (nI (i + 1))), (3, .int (tm + (1 : Int32))), (2, .int (no + (1 : Int32))), (5, .int (sm.getD w 0)), (0, .ref 162), (1, .int r9)]) (st2 := []) (h2 := h85x) (dc2 := dc) (ds2 := ds) 1 rfl ?_
        refine wq_ls [(0, .ref 162), (1, .int r9), (2, .int (no + (1 : Int32))), (3, .int (tm + (1 : Int32))), (4, .int (nI (i + 1)))] (show ([0, 1, 2, 3, 4] : List Nat).Nodup by decide) ⟨rfl, rfl, rfl, rfl, rfl, trivial⟩ ?_
        exact kK h85x (no + (1 : Int32)) (tm + (1 : Int32)) (wFr_sub f85x (by simp)) (by omega) p05x (Or.inl ⟨b6x, rfl⟩) (Or.inl ⟨b14x, rfl⟩)
  · intro h817x m3517x fo217x on217x pa217x pb217x f817x l817x c017x c117x c217x c317x c417x c517x c617x c717x p017x p117x
    show wq 249 51 [(0, .ref 162), (1, .int r9), (2, .int no), (3, .int tm), (4, .int (nI i))] [.int (mNum (mSol lo hi kn (mSg (mPla kn sq (6 * w) th) sg)))] h817x dc ds _
    refine wq_gos (f := 1) (pc2 := 56) (ls2 := [(5, .int (mNum (mSol lo hi kn (mSg (mPla kn sq (6 * w) th) sg)))), (0, .ref 162), (1, .int r9), (2, .int no), (3, .int tm), (4, .int (nI i))]) (st2 := [.int (mNum (mSol lo hi kn (mSg (mPla kn sq (6 * w) th) sg))), .int no]) (h2 := h817x) (dc2 := dc) (ds2 := ds) 3 rfl ?_
    refine wq_ne0 rfl rfl (fun b18x => ?_) (fun b18x => ?_)
    · have q19x : (mNum (mSol lo hi kn (mSg (mPla kn sq (6 * w) th) sg))).toInt ≠ 0 := fun q => b18x (Int32.toInt_inj.mp q)
      refine wq_gos (f := 1) (pc2 := 71) (ls2 := [(2, .int (no + (0 : Int32))), (5, .int (mNum (mSol lo hi kn (mSg (mPla kn sq (6 * w) th) sg)))), (0, .ref 162), (1, .int r9), (3, .int tm), (4, .int (nI i))]) (st2 := [.int (-3), .int (mNum (mSol lo hi kn (mSg (mPla kn sq (6 * w) th) sg))), .int tm]) (h2 := h817x) (dc2 := dc) (ds2 := ds) 6 rfl ?_
      have q20x : (-3 : Int32).toInt = -3 := rfl
      refine wq_ne2 rfl rfl (fun b21x => ?_) (fun b21x => ?_)
      · have q22x : (mNum (mSol lo hi kn (mSg (mPla kn sq (6 * w) th) sg))).toInt ≠ -3 := fun q => b21x (Int32.toInt_inj.mp q)
        refine wq_gos (f := 1) (pc2 := 84) (ls2 := [(4, .int ((nI i) + 1)), (3, .int (tm + (0 : Int32))), (2, .int (no + (0 : Int32))), (5, .int (mNum (mSol lo hi kn (mSg (mPla kn sq (6 * w) th) sg)))), (0, .ref 162), (1, .int r9)]) (st2 := []) (h2 := h817x) (dc2 := dc) (ds2 := ds) 4 rfl ?_
        rw [nI_1]
        refine wq_gos (f := 1) (pc2 := 31) (ls2 := [(4, .int (nI (i + 1))), (3, .int (tm + (0 : Int32))), (2, .int (no + (0 : Int32))), (5, .int (mNum (mSol lo hi kn (mSg (mPla kn sq (6 * w) th) sg)))), (0, .ref 162), (1, .int r9)]) (st2 := []) (h2 := h817x) (dc2 := dc) (ds2 := ds) 1 rfl ?_
        refine wq_ls [(0, .ref 162), (1, .int r9), (2, .int (no + (0 : Int32))), (3, .int (tm + (0 : Int32))), (4, .int (nI (i + 1)))] (show ([0, 1, 2, 3, 4] : List Nat).Nodup by decide) ⟨rfl, rfl, rfl, rfl, rfl, trivial⟩ ?_
        exact kN h817x (no + (0 : Int32)) (tm + (0 : Int32)) m3517x fo217x on217x pa217x pb217x (wFr_sub f817x (by simp)) (by omega) c017x c117x c217x c317x c417x c517x c617x c717x p017x p117x (Or.inr ⟨b18x, rfl⟩) (Or.inr ⟨b21x, rfl⟩)
      · have q23x : (mNum (mSol lo hi kn (mSg (mPla kn sq (6 * w) th) sg))).toInt = -3 := congrArg Int32.toInt b21x
        refine wq_gos (f := 1) (pc2 := 84) (ls2 := [(4, .int ((nI i) + 1)), (3, .int (tm + (1 : Int32))), (2, .int (no + (0 : Int32))), (5, .int (mNum (mSol lo hi kn (mSg (mPla kn sq (6 * w) th) sg)))), (0, .ref 162), (1, .int r9)]) (st2 := []) (h2 := h817x) (dc2 := dc) (ds2 := ds) 5 rfl ?_
        rw [nI_1]
        refine wq_gos (f := 1) (pc2 := 31) (ls2 := [(4, .int (nI (i + 1))), (3, .int (tm + (1 : Int32))), (2, .int (no + (0 : Int32))), (5, .int (mNum (mSol lo hi kn (mSg (mPla kn sq (6 * w) th) sg)))), (0, .ref 162), (1, .int r9)]) (st2 := []) (h2 := h817x) (dc2 := dc) (ds2 := ds) 1 rfl ?_
        refine wq_ls [(0, .ref 162), (1, .int r9), (2, .int (no + (0 : Int32))), (3, .int (tm + (1 : Int32))), (4, .int (nI (i + 1)))] (show ([0, 1, 2, 3, 4] : List Nat).Nodup by decide) ⟨rfl, rfl, rfl, rfl, rfl, trivial⟩ ?_
        exact kN h817x (no + (0 : Int32)) (tm + (1 : Int32)) m3517x fo217x on217x pa217x pb217x (wFr_sub f817x (by simp)) (by omega) c017x c117x c217x c317x c417x c517x c617x c717x p017x p117x (Or.inr ⟨b18x, rfl⟩) (Or.inl ⟨b21x, rfl⟩)
    · have q24x : (mNum (mSol lo hi kn (mSg (mPla kn sq (6 * w) th) sg))).toInt = 0 := congrArg Int32.toInt b18x
      refine wq_gos (f := 1) (pc2 := 71) (ls2 := [(2, .int (no + (1 : Int32))), (5, .int (mNum (mSol lo hi kn (mSg (mPla kn sq (6 * w) th) sg)))), (0, .ref 162), (1, .int r9), (3, .int tm), (4, .int (nI i))]) (st2 := [.int (-3), .int (mNum (mSol lo hi kn (mSg (mPla kn sq (6 * w) th) sg))), .int tm]) (h2 := h817x) (dc2 := dc) (ds2 := ds) 7 rfl ?_
      have q25x : (-3 : Int32).toInt = -3 := rfl
      refine wq_ne2 rfl rfl (fun b26x => ?_) (fun b26x => ?_)
      · have q27x : (mNum (mSol lo hi kn (mSg (mPla kn sq (6 * w) th) sg))).toInt ≠ -3 := fun q => b26x (Int32.toInt_inj.mp q)
        refine wq_gos (f := 1) (pc2 := 84) (ls2 := [(4, .int ((nI i) + 1)), (3, .int (tm + (0 : Int32))), (2, .int (no + (1 : Int32))), (5, .int (mNum (mSol lo hi kn (mSg (mPla kn sq (6 * w) th) sg)))), (0, .ref 162), (1, .int r9)]) (st2 := []) (h2 := h817x) (dc2 := dc) (ds2 := ds) 4 rfl ?_
        rw [nI_1]
        refine wq_gos (f := 1) (pc2 := 31) (ls2 := [(4, .int (nI (i + 1))), (3, .int (tm + (0 : Int32))), (2, .int (no + (1 : Int32))), (5, .int (mNum (mSol lo hi kn (mSg (mPla kn sq (6 * w) th) sg)))), (0, .ref 162), (1, .int r9)]) (st2 := []) (h2 := h817x) (dc2 := dc) (ds2 := ds) 1 rfl ?_
        refine wq_ls [(0, .ref 162), (1, .int r9), (2, .int (no + (1 : Int32))), (3, .int (tm + (0 : Int32))), (4, .int (nI (i + 1)))] (show ([0, 1, 2, 3, 4] : List Nat).Nodup by decide) ⟨rfl, rfl, rfl, rfl, rfl, trivial⟩ ?_
        exact kN h817x (no + (1 : Int32)) (tm + (0 : Int32)) m3517x fo217x on217x pa217x pb217x (wFr_sub f817x (by simp)) (by omega) c017x c117x c217x c317x c417x c517x c617x c717x p017x p117x (Or.inl ⟨b18x, rfl⟩) (Or.inr ⟨b26x, rfl⟩)
      · have q28x : (mNum (mSol lo hi kn (mSg (mPla kn sq (6 * w) th) sg))).toInt = -3 := congrArg Int32.toInt b26x
        refine wq_gos (f := 1) (pc2 := 84) (ls2 := [(4, .int ((nI i) + 1)), (3, .int (tm + (1 : Int32))), (2, .int (no + (1 : Int32))), (5, .int (mNum (mSol lo hi kn (mSg (mPla kn sq (6 * w) th) sg)))), (0, .ref 162), (1, .int r9)]) (st2 := []) (h2 := h817x) (dc2 := dc) (ds2 := ds) 5 rfl ?_
        rw [nI_1]
        refine wq_gos (f := 1) (pc2 := 31) (ls2 := [(4, .int (nI (i + 1))), (3, .int (tm + (1 : Int32))), (2, .int (no + (1 : Int32))), (5, .int (mNum (mSol lo hi kn (mSg (mPla kn sq (6 * w) th) sg)))), (0, .ref 162), (1, .int r9)]) (st2 := []) (h2 := h817x) (dc2 := dc) (ds2 := ds) 1 rfl ?_
        refine wq_ls [(0, .ref 162), (1, .int r9), (2, .int (no + (1 : Int32))), (3, .int (tm + (1 : Int32))), (4, .int (nI (i + 1)))] (show ([0, 1, 2, 3, 4] : List Nat).Nodup by decide) ⟨rfl, rfl, rfl, rfl, rfl, trivial⟩ ?_
        exact kN h817x (no + (1 : Int32)) (tm + (1 : Int32)) m3517x fo217x on217x pa217x pb217x (wFr_sub f817x (by simp)) (by omega) c017x c117x c217x c317x c417x c517x c617x c717x p017x p117x (Or.inl ⟨b18x, rfl⟩) (Or.inl ⟨b26x, rfl⟩)
set_option maxRecDepth 100000 in
set_option maxHeartbeats 4000000 in
theorem m_lrB0 {h : zH} {Q : zR → Prop} {dc ds : Nat} {n0 n2 n14 n15 n16 n17 n18 n19 n20 n21 n22 n23 n27 n28 n32 n33 n34 n35 n39 n52 : Int32} {nw pa co : List Int32} {no tm : Int32} (hM : zat h 162 = some (.inr (.inr (.inr (10, mO n0 n2 n14 n15 n16 n17 n18 n19 n20 n21 n22 n23 n27 n28 n32 n33 n34 n35 n39 n52))))) (hNw : zat h 188 = some (.inl (0, 6, nw))) (hPa : zat h 214 = some (.inl (0, 132, pa))) (hCo : zat h 218 = some (.inl (0, 22, co)))  (kE : ∀ (h2 : zH), (wFr [214, 218] h h2) → (h2.length = h.length) → (zat h2 214 = some (.inl (0, 132, (zset 0 (zset 0 (zset 0 (zset 0 (zset 0 (zset 0 pa 0 (nw.getD 0 0)) 1 (nw.getD 1 0)) 2 (nw.getD 2 0)) 3 (nw.getD 3 0)) 4 (nw.getD 4 0)) 5 (nw.getD 5 0))))) → (zat h2 218 = some (.inl (0, 22, (zset 0 co 0 0)))) → wq 249 136 [(0, .ref 162), (1, .int 0), (2, .int no), (3, .int tm), (4, .int 0)] [] h2 dc ds Q) : wq 249 87 [(0, .ref 162), (1, .int 0), (2, .int no), (3, .int tm)] [] h dc ds Q := by
  refine wq_gos (f := 1) (pc2 := 104) (ls2 := [(5, .int 0), (4, .int 0), (0, .ref 162), (1, .int 0), (2, .int no), (3, .int tm)]) (st2 := [.ref 162]) (h2 := h) (dc2 := dc) (ds2 := ds) 10 rfl ?_
  refine wq_getf rfl hM rfl rfl ?_
  refine wq_gos (f := 1) (pc2 := 113) (ls2 := [(5, .int 0), (4, .int 0), (0, .ref 162), (1, .int 0), (2, .int no), (3, .int tm)]) (st2 := [.ref 162, .int 0, .ref 214]) (h2 := h) (dc2 := dc) (ds2 := ds) 4 rfl ?_
  refine wq_getf rfl hM rfl rfl ?_
  refine wq_gos (f := 1) (pc2 := 118) (ls2 := [(5, .int 0), (4, .int 0), (0, .ref 162), (1, .int 0), (2, .int no), (3, .int tm)]) (st2 := [.int 0, .ref 188, .int 0, .ref 214]) (h2 := h) (dc2 := dc) (ds2 := ds) 1 rfl ?_
  have q1x : (0 : Int32).toInt = 0 := rfl
  refine wq_iald rfl hNw rfl rfl ?_
  refine wq_iast rfl hPa rfl rfl ?_
  intro hh2x e3x ff4x lh5x
  have e3x : zat hh2x 214 = some (.inl (0, 132, (zset 0 pa 0 (nw.getD 0 0)))) := e3x
  refine wq_gos (f := 1) (pc2 := 104) (ls2 := [(5, .int 1), (4, .int 0), (0, .ref 162), (1, .int 0), (2, .int no), (3, .int tm)]) (st2 := [.ref 162]) (h2 := hh2x) (dc2 := dc) (ds2 := ds) 6 rfl ?_
  have e6x := (ff4x.2 _ _ (wnc (by decide) wn0) hM)
  refine wq_getf rfl e6x rfl rfl ?_
  refine wq_gos (f := 1) (pc2 := 113) (ls2 := [(5, .int 1), (4, .int 0), (0, .ref 162), (1, .int 0), (2, .int no), (3, .int tm)]) (st2 := [.ref 162, .int 1, .ref 214]) (h2 := hh2x) (dc2 := dc) (ds2 := ds) 4 rfl ?_
  refine wq_getf rfl e6x rfl rfl ?_
  refine wq_gos (f := 1) (pc2 := 118) (ls2 := [(5, .int 1), (4, .int 0), (0, .ref 162), (1, .int 0), (2, .int no), (3, .int tm)]) (st2 := [.int 1, .ref 188, .int 1, .ref 214]) (h2 := hh2x) (dc2 := dc) (ds2 := ds) 1 rfl ?_
  have e7x := (ff4x.2 _ _ (wnc (by decide) wn0) hNw)
  have q8x : (1 : Int32).toInt = 1 := rfl
  refine wq_iald rfl e7x rfl rfl ?_
  refine wq_iast rfl e3x rfl rfl ?_
  intro hh9x e10x ff11x lh12x
  have e10x : zat hh9x 214 = some (.inl (0, 132, (zset 0 (zset 0 pa 0 (nw.getD 0 0)) 1 (nw.getD 1 0)))) := e10x
  refine wq_gos (f := 1) (pc2 := 104) (ls2 := [(5, .int 2), (4, .int 0), (0, .ref 162), (1, .int 0), (2, .int no), (3, .int tm)]) (st2 := [.ref 162]) (h2 := hh9x) (dc2 := dc) (ds2 := ds) 6 rfl ?_
  have e13x := (ff11x.2 _ _ (wnc (by decide) wn0) e6x)
  refine wq_getf rfl e13x rfl rfl ?_
  refine wq_gos (f := 1) (pc2 := 113) (ls2 := [(5, .int 2), (4, .int 0), (0, .ref 162), (1, .int 0), (2, .int no), (3, .int tm)]) (st2 := [.ref 162, .int 2, .ref 214]) (h2 := hh9x) (dc2 := dc) (ds2 := ds) 4 rfl ?_
  refine wq_getf rfl e13x rfl rfl ?_
  refine wq_gos (f := 1) (pc2 := 118) (ls2 := [(5, .int 2), (4, .int 0), (0, .ref 162), (1, .int 0), (2, .int no), (3, .int tm)]) (st2 := [.int 2, .ref 188, .int 2, .ref 214]) (h2 := hh9x) (dc2 := dc) (ds2 := ds) 1 rfl ?_
  have e14x := (ff11x.2 _ _ (wnc (by decide) wn0) e7x)
  have q15x : (2 : Int32).toInt = 2 := rfl
  refine wq_iald rfl e14x rfl rfl ?_
  refine wq_iast rfl e10x rfl rfl ?_
  intro hh16x e17x ff18x lh19x
  have e17x : zat hh16x 214 = some (.inl (0, 132, (zset 0 (zset 0 (zset 0 pa 0 (nw.getD 0 0)) 1 (nw.getD 1 0)) 2 (nw.getD 2 0)))) := e17x
  refine wq_gos (f := 1) (pc2 := 104) (ls2 := [(5, .int 3), (4, .int 0), (0, .ref 162), (1, .int 0), (2, .int no), (3, .int tm)]) (st2 := [.ref 162]) (h2 := hh16x) (dc2 := dc) (ds2 := ds) 6 rfl ?_
  have e20x := (ff18x.2 _ _ (wnc (by decide) wn0) e13x)
  refine wq_getf rfl e20x rfl rfl ?_
  refine wq_gos (f := 1) (pc2 := 113) (ls2 := [(5, .int 3), (4, .int 0), (0, .ref 162), (1, .int 0), (2, .int no), (3, .int tm)]) (st2 := [.ref 162, .int 3, .ref 214]) (h2 := hh16x) (dc2 := dc) (ds2 := ds) 4 rfl ?_
  refine wq_getf rfl e20x rfl rfl ?_
  refine wq_gos (f := 1) (pc2 := 118) (ls2 := [(5, .int 3), (4, .int 0), (0, .ref 162), (1, .int 0), (2, .int no), (3, .int tm)]) (st2 := [.int 3, .ref 188, .int 3, .ref 214]) (h2 := hh16x) (dc2 := dc) (ds2 := ds) 1 rfl ?_
  have e21x := (ff18x.2 _ _ (wnc (by decide) wn0) e14x)
  have q22x : (3 : Int32).toInt = 3 := rfl
  refine wq_iald rfl e21x rfl rfl ?_
  refine wq_iast rfl e17x rfl rfl ?_
  intro hh23x e24x ff25x lh26x
  have e24x : zat hh23x 214 = some (.inl (0, 132, (zset 0 (zset 0 (zset 0 (zset 0 pa 0 (nw.getD 0 0)) 1 (nw.getD 1 0)) 2 (nw.getD 2 0)) 3 (nw.getD 3 0)))) := e24x
  refine wq_gos (f := 1) (pc2 := 104) (ls2 := [(5, .int 4), (4, .int 0), (0, .ref 162), (1, .int 0), (2, .int no), (3, .int tm)]) (st2 := [.ref 162]) (h2 := hh23x) (dc2 := dc) (ds2 := ds) 6 rfl ?_
  have e27x := (ff25x.2 _ _ (wnc (by decide) wn0) e20x)
  refine wq_getf rfl e27x rfl rfl ?_
  refine wq_gos (f := 1) (pc2 := 113) (ls2 := [(5, .int 4), (4, .int 0), (0, .ref 162), (1, .int 0), (2, .int no), (3, .int tm)]) (st2 := [.ref 162, .int 4, .ref 214]) (h2 := hh23x) (dc2 := dc) (ds2 := ds) 4 rfl ?_
  refine wq_getf rfl e27x rfl rfl ?_
  refine wq_gos (f := 1) (pc2 := 118) (ls2 := [(5, .int 4), (4, .int 0), (0, .ref 162), (1, .int 0), (2, .int no), (3, .int tm)]) (st2 := [.int 4, .ref 188, .int 4, .ref 214]) (h2 := hh23x) (dc2 := dc) (ds2 := ds) 1 rfl ?_
  have e28x := (ff25x.2 _ _ (wnc (by decide) wn0) e21x)
  have q29x : (4 : Int32).toInt = 4 := rfl
  refine wq_iald rfl e28x rfl rfl ?_
  refine wq_iast rfl e24x rfl rfl ?_
  intro hh30x e31x ff32x lh33x
  have e31x : zat hh30x 214 = some (.inl (0, 132, (zset 0 (zset 0 (zset 0 (zset 0 (zset 0 pa 0 (nw.getD 0 0)) 1 (nw.getD 1 0)) 2 (nw.getD 2 0)) 3 (nw.getD 3 0)) 4 (nw.getD 4 0)))) := e31x
  refine wq_gos (f := 1) (pc2 := 104) (ls2 := [(5, .int 5), (4, .int 0), (0, .ref 162), (1, .int 0), (2, .int no), (3, .int tm)]) (st2 := [.ref 162]) (h2 := hh30x) (dc2 := dc) (ds2 := ds) 6 rfl ?_
  have e34x := (ff32x.2 _ _ (wnc (by decide) wn0) e27x)
  refine wq_getf rfl e34x rfl rfl ?_
  refine wq_gos (f := 1) (pc2 := 113) (ls2 := [(5, .int 5), (4, .int 0), (0, .ref 162), (1, .int 0), (2, .int no), (3, .int tm)]) (st2 := [.ref 162, .int 5, .ref 214]) (h2 := hh30x) (dc2 := dc) (ds2 := ds) 4 rfl ?_
  refine wq_getf rfl e34x rfl rfl ?_
  refine wq_gos (f := 1) (pc2 := 118) (ls2 := [(5, .int 5), (4, .int 0), (0, .ref 162), (1, .int 0), (2, .int no), (3, .int tm)]) (st2 := [.int 5, .ref 188, .int 5, .ref 214]) (h2 := hh30x) (dc2 := dc) (ds2 := ds) 1 rfl ?_
  have e35x := (ff32x.2 _ _ (wnc (by decide) wn0) e28x)
  have q36x : (5 : Int32).toInt = 5 := rfl
  refine wq_iald rfl e35x rfl rfl ?_
  refine wq_iast rfl e31x rfl rfl ?_
  intro hh37x e38x ff39x lh40x
  have e38x : zat hh37x 214 = some (.inl (0, 132, (zset 0 (zset 0 (zset 0 (zset 0 (zset 0 (zset 0 pa 0 (nw.getD 0 0)) 1 (nw.getD 1 0)) 2 (nw.getD 2 0)) 3 (nw.getD 3 0)) 4 (nw.getD 4 0)) 5 (nw.getD 5 0)))) := e38x
  refine wq_gos (f := 1) (pc2 := 127) (ls2 := [(5, .int 6), (4, .int 0), (0, .ref 162), (1, .int 0), (2, .int no), (3, .int tm)]) (st2 := [.ref 162]) (h2 := hh37x) (dc2 := dc) (ds2 := ds) 6 rfl ?_
  have e41x := (ff39x.2 _ _ (wnc (by decide) wn0) e34x)
  refine wq_getf rfl e41x rfl rfl ?_
  refine wq_gos (f := 1) (pc2 := 135) (ls2 := [(5, .int 6), (4, .int 0), (0, .ref 162), (1, .int 0), (2, .int no), (3, .int tm)]) (st2 := [.int 0, .int 0, .ref 218]) (h2 := hh37x) (dc2 := dc) (ds2 := ds) 4 rfl ?_
  have e42x := (ff39x.2 _ _ (wnc (by decide) wn0) (ff32x.2 _ _ (wnc (by decide) wn0) (ff25x.2 _ _ (wnc (by decide) wn0) (ff18x.2 _ _ (wnc (by decide) wn0) (ff11x.2 _ _ (wnc (by decide) wn0) (ff4x.2 _ _ (wnc (by decide) wn0) hCo))))))
  refine wq_iast rfl e42x rfl rfl ?_
  intro hh43x e44x ff45x lh46x
  have e44x : zat hh43x 218 = some (.inl (0, 22, (zset 0 co 0 (0 : Int32)))) := e44x
  have e47x := (ff45x.2 _ _ (wnc (by decide) wn0) e38x)
  refine wq_ls [(0, .ref 162), (1, .int 0), (2, .int no), (3, .int tm), (4, .int 0)] (show ([0, 1, 2, 3, 4] : List Nat).Nodup by decide) ⟨rfl, rfl, rfl, rfl, rfl, trivial⟩ ?_
  exact kE hh43x (wFr_tr (wFr_sub ff4x (by simp)) (wFr_tr (wFr_sub ff11x (by simp)) (wFr_tr (wFr_sub ff18x (by simp)) (wFr_tr (wFr_sub ff25x (by simp)) (wFr_tr (wFr_sub ff32x (by simp)) (wFr_tr (wFr_sub ff39x (by simp)) (wFr_sub ff45x (by simp)))))))) (by omega) e47x e44x
set_option maxRecDepth 100000 in
set_option maxHeartbeats 4000000 in
theorem m_lrC0 {h : zH} {Q : zR → Prop} {dc ds : Nat} {n0 n2 n14 n15 n16 n17 n18 n19 n20 n21 n22 n23 n27 n28 n32 n33 n34 n35 n39 n52 : Int32} {kn ri : List Int32} {wn : Nat} {no tm : Int32} (hM : zat h 162 = some (.inr (.inr (.inr (10, mO n0 n2 n14 n15 n16 n17 n18 n19 n20 n21 n22 n23 n27 n28 n32 n33 n34 n35 n39 n52))))) (hRi : zat h 210 = some (.inl (0, 2, ri))) (hKn : zat h 166 = some (.inl (0, 14, kn))) (hkn : kn.getD 6 0 = nI wn ∧ wn ≤ 10) (kF : ∀ (h2 : zH) (r2 : Int32), (wFr [210] h h2) → (h2.length = h.length) → (zat h2 210 = some (.inl (0, 2, (zset 0 ri 0 r2)))) → (0 < no.toInt ∨ 0 < tm.toInt) → (r2 = -2 ∨ r2 = -3) → Q (none, h2, dc, ds)) (kZ : ∀ (h2 : zH), (wFr [] h h2) → (h2.length = h.length) → (zat h2 210 = some (.inl (0, 2, ri))) → (wn = 0) → Q (none, h2, dc, ds)) (kG : ∀ (h2 : zH), (wFr [] h h2) → (h2.length = h.length) → (zat h2 210 = some (.inl (0, 2, ri))) → (no.toInt ≤ 0) → (tm.toInt ≤ 0) → (1 ≤ wn) → wq 249 170 [(0, .ref 162), (1, .int 0), (4, .int 0)] [] h2 dc ds Q) : wq 249 136 [(0, .ref 162), (1, .int 0), (2, .int no), (3, .int tm), (4, .int 0)] [] h dc ds Q := by
  have qnwn := nI_toInt (n := wn) (by omega)
  have z0 : (0 : Int32).toInt = 0 := rfl
  have z1 : (1 : Int32).toInt = 1 := rfl
  have z5 : (5 : Int32).toInt = 5 := rfl
  have z6 : (6 : Int32).toInt = 6 := rfl
  have zm1 : (-1 : Int32).toInt = -1 := rfl
  have z3 : (3 : Int32).toInt = 3 := rfl
  have z2 : (2 : Int32).toInt = 2 := rfl
  have z20 : (20 : Int32).toInt = 20 := rfl
  refine wq_gos (f := 1) (pc2 := 137) (ls2 := [(0, .ref 162), (1, .int 0), (2, .int no), (3, .int tm), (4, .int 0)]) (st2 := [.int no]) (h2 := h) (dc2 := dc) (ds2 := ds) 1 rfl ?_
  refine wq_gt0 rfl rfl (fun b1x => ?_) (fun b1x => ?_)
  · refine wq_gos (f := 1) (pc2 := 145) (ls2 := [(0, .ref 162), (1, .int 0), (2, .int no), (3, .int tm), (4, .int 0)]) (st2 := [.ref 162]) (h2 := h) (dc2 := dc) (ds2 := ds) 1 rfl ?_
    refine wq_getf rfl hM rfl rfl ?_
    refine wq_gos (f := 1) (pc2 := 150) (ls2 := [(0, .ref 162), (1, .int 0), (2, .int no), (3, .int tm), (4, .int 0)]) (st2 := [.int no, .int 0, .ref 210]) (h2 := h) (dc2 := dc) (ds2 := ds) 2 rfl ?_
    refine wq_le0 rfl rfl (fun b2x => ?_) (fun b2x => ?_)
    · refine wq_gos (f := 1) (pc2 := 160) (ls2 := [(0, .ref 162), (1, .int 0), (2, .int no), (3, .int tm), (4, .int 0)]) (st2 := [.int (-3), .int 0, .ref 210]) (h2 := h) (dc2 := dc) (ds2 := ds) 1 rfl ?_
      have q3x : (0 : Int32).toInt = 0 := rfl
      refine wq_iast rfl hRi rfl rfl ?_
      intro hh4x e5x ff6x lh7x
      have e5x : zat hh4x 210 = some (.inl (0, 2, (zset 0 ri 0 (-3 : Int32)))) := e5x
      exact wq_ret rfl rfl (kF hh4x _ (wFr_sub ff6x (by simp)) (by omega) e5x (by first | exact Or.inl (by omega) | exact Or.inr (by omega)) (by first | exact Or.inl rfl | exact Or.inr rfl))
    · refine wq_gos (f := 1) (pc2 := 160) (ls2 := [(0, .ref 162), (1, .int 0), (2, .int no), (3, .int tm), (4, .int 0)]) (st2 := [.int (-2), .int 0, .ref 210]) (h2 := h) (dc2 := dc) (ds2 := ds) 2 rfl ?_
      have q8x : (0 : Int32).toInt = 0 := rfl
      refine wq_iast rfl hRi rfl rfl ?_
      intro hh9x e10x ff11x lh12x
      have e10x : zat hh9x 210 = some (.inl (0, 2, (zset 0 ri 0 (-2 : Int32)))) := e10x
      exact wq_ret rfl rfl (kF hh9x _ (wFr_sub ff11x (by simp)) (by omega) e10x (by first | exact Or.inl (by omega) | exact Or.inr (by omega)) (by first | exact Or.inl rfl | exact Or.inr rfl))
  · refine wq_gos (f := 1) (pc2 := 141) (ls2 := [(0, .ref 162), (1, .int 0), (2, .int no), (3, .int tm), (4, .int 0)]) (st2 := [.int tm]) (h2 := h) (dc2 := dc) (ds2 := ds) 1 rfl ?_
    refine wq_le0 rfl rfl (fun b13x => ?_) (fun b13x => ?_)
    · refine wq_gos (f := 1) (pc2 := 163) (ls2 := [(0, .ref 162), (1, .int 0), (2, .int no), (3, .int tm), (4, .int 0)]) (st2 := [.ref 162]) (h2 := h) (dc2 := dc) (ds2 := ds) 1 rfl ?_
      refine wq_inlv (y2 := 244) (as := []) rfl rfl rfl hM rfl ?_
      show wq 244 0 [(0, .ref 162)] [] h 0 0 _
      refine wq_gos (f := 1) (pc2 := 1) (ls2 := [(0, .ref 162)]) (st2 := [.ref 162]) (h2 := h) (dc2 := 0) (ds2 := 0) 1 rfl ?_
      refine wq_getf rfl hM rfl rfl ?_
      refine wq_gos (f := 1) (pc2 := 6) (ls2 := [(0, .ref 162)]) (st2 := [.int 6, .ref 166]) (h2 := h) (dc2 := 0) (ds2 := 0) 1 rfl ?_
      have q14x : (6 : Int32).toInt = 6 := rfl
      refine wq_iald rfl hKn rfl rfl ?_
      refine wq_vi hkn.1 ?_
      refine wq_ret rfl rfl ?_
      show wq 249 166 [(0, .ref 162), (1, .int 0), (2, .int no), (3, .int tm), (4, .int 0)] [.int (nI wn)] h dc ds _
      try have q15x := nI_toInt (n := wn) (by omega)
      refine wq_ne0 rfl rfl (fun b16x => ?_) (fun b16x => ?_)
      · have q17x : (nI wn).toInt ≠ 0 := fun q => b16x (Int32.toInt_inj.mp q)
        refine wq_ls [(0, .ref 162), (1, .int 0), (4, .int 0)] (show ([0, 1, 4] : List Nat).Nodup by decide) ⟨rfl, rfl, rfl, trivial⟩ ?_
        exact kG h (wFr_rf _ _) (by omega) hRi (by first | assumption | omega | decide | solve_by_elim) (by first | assumption | omega | decide | solve_by_elim) (by first | assumption | omega | decide | solve_by_elim)
      · have q18x : (nI wn).toInt = 0 := congrArg Int32.toInt b16x
        exact wq_ret rfl rfl (kZ h (wFr_rf _ _) (by omega) hRi (by first | assumption | omega | decide | solve_by_elim))
    · refine wq_gos (f := 1) (pc2 := 145) (ls2 := [(0, .ref 162), (1, .int 0), (2, .int no), (3, .int tm), (4, .int 0)]) (st2 := [.ref 162]) (h2 := h) (dc2 := dc) (ds2 := ds) 1 rfl ?_
      refine wq_getf rfl hM rfl rfl ?_
      refine wq_gos (f := 1) (pc2 := 150) (ls2 := [(0, .ref 162), (1, .int 0), (2, .int no), (3, .int tm), (4, .int 0)]) (st2 := [.int no, .int 0, .ref 210]) (h2 := h) (dc2 := dc) (ds2 := ds) 2 rfl ?_
      refine wq_le0 rfl rfl (fun b19x => ?_) (fun b19x => ?_)
      · refine wq_gos (f := 1) (pc2 := 160) (ls2 := [(0, .ref 162), (1, .int 0), (2, .int no), (3, .int tm), (4, .int 0)]) (st2 := [.int (-3), .int 0, .ref 210]) (h2 := h) (dc2 := dc) (ds2 := ds) 1 rfl ?_
        have q20x : (0 : Int32).toInt = 0 := rfl
        refine wq_iast rfl hRi rfl rfl ?_
        intro hh21x e22x ff23x lh24x
        have e22x : zat hh21x 210 = some (.inl (0, 2, (zset 0 ri 0 (-3 : Int32)))) := e22x
        exact wq_ret rfl rfl (kF hh21x _ (wFr_sub ff23x (by simp)) (by omega) e22x (by first | exact Or.inl (by omega) | exact Or.inr (by omega)) (by first | exact Or.inl rfl | exact Or.inr rfl))
      · refine wq_gos (f := 1) (pc2 := 160) (ls2 := [(0, .ref 162), (1, .int 0), (2, .int no), (3, .int tm), (4, .int 0)]) (st2 := [.int (-2), .int 0, .ref 210]) (h2 := h) (dc2 := dc) (ds2 := ds) 2 rfl ?_
        have q25x : (0 : Int32).toInt = 0 := rfl
        refine wq_iast rfl hRi rfl rfl ?_
        intro hh26x e27x ff28x lh29x
        have e27x : zat hh26x 210 = some (.inl (0, 2, (zset 0 ri 0 (-2 : Int32)))) := e27x
        exact wq_ret rfl rfl (kF hh26x _ (wFr_sub ff28x (by simp)) (by omega) e27x (by first | exact Or.inl (by omega) | exact Or.inr (by omega)) (by first | exact Or.inl rfl | exact Or.inr rfl))
set_option maxRecDepth 100000 in
set_option maxHeartbeats 4000000 in
theorem m_lrD0 {h : zH} {Q : zR → Prop} {dc ds : Nat} {n0 n2 n14 n15 n16 n17 n18 n19 n20 n21 n22 n23 n27 n28 n32 n33 n34 n35 n39 n52 : Int32} {kn wy sm sv nw tg h1 t1 ri : List Int32} {fo : List Int64} {wn : Nat} {wf mf : Nat → Nat} (hM : zat h 162 = some (.inr (.inr (.inr (10, mO n0 n2 n14 n15 n16 n17 n18 n19 n20 n21 n22 n23 n27 n28 n32 n33 n34 n35 n39 n52))))) (hWy : zat h 180 = some (.inl (0, 20, wy))) (hSm : zat h 198 = some (.inl (0, 8, sm))) (hFo : zat h 196 = some (.inr (.inl (6000, fo)))) (hSv : zat h 172 = some (.inl (0, 12, sv))) (hNw : zat h 188 = some (.inl (0, 6, nw))) (hTg : zat h 208 = some (.inl (0, 6000, tg))) (hH1 : zat h 206 = some (.inl (0, 6, h1))) (hT1 : zat h 220 = some (.inl (0, 6, t1))) (hRi : zat h 210 = some (.inl (0, 2, ri))) (hKn : zat h 166 = some (.inl (0, 14, kn))) (hkn : kn.getD 6 0 = nI wn ∧ wn ≤ 10) (h1w : 1 ≤ wn) (hW : ∀ i, i < wn → wy.getD i 0 = nI (wf i) ∧ wf i < 8) (hS : ∀ i, i < wn → sm.getD (wf i) 0 = nI (mf (wf i)) ∧ mf (wf i) ≤ 600) (hsv : ∀ i, i < 6 → 1 ≤ (sv.getD i 0).toInt) (kF : ∀ (h2 : zH), (wFr [208, 206, 220, 210] h h2) → (h2.length = h.length) → (zat h2 208 = some (.inl (0, 6000, ((mLtg fo wf mf sv wn 0 tg h1 t1).1)))) → (zat h2 206 = some (.inl (0, 6, ((mLtg fo wf mf sv wn 0 tg h1 t1).2.1)))) → (zat h2 220 = some (.inl (0, 6, ((mLef fo (wf 0) ((mLtg fo wf mf sv wn 0 tg h1 t1).1) sv nw 0 0 (mf (wf 0)) 0 ((mLtg fo wf mf sv wn 0 tg h1 t1).2.2)).2)))) → (zat h2 210 = some (.inl (0, 2, (zset 0 ri 0 (-2))))) → (1000000 ≤ (mLef fo (wf 0) ((mLtg fo wf mf sv wn 0 tg h1 t1).1) sv nw 0 0 (mf (wf 0)) 0 ((mLtg fo wf mf sv wn 0 tg h1 t1).2.2)).1.toInt) → Q (none, h2, dc, ds)) (kS : ∀ (h2 : zH), (wFr [208, 206, 220, 210] h h2) → (h2.length = h.length) → (zat h2 208 = some (.inl (0, 6000, ((mLtg fo wf mf sv wn 0 tg h1 t1).1)))) → (zat h2 206 = some (.inl (0, 6, ((mLtg fo wf mf sv wn 0 tg h1 t1).2.1)))) → (zat h2 220 = some (.inl (0, 6, ((mLef fo (wf 0) ((mLtg fo wf mf sv wn 0 tg h1 t1).1) sv nw 0 0 (mf (wf 0)) 0 ((mLtg fo wf mf sv wn 0 tg h1 t1).2.2)).2)))) → (zat h2 210 = some (.inl (0, 2, (zset 0 ri 0 ((mLef fo (wf 0) ((mLtg fo wf mf sv wn 0 tg h1 t1).1) sv nw 0 0 (mf (wf 0)) 0 ((mLtg fo wf mf sv wn 0 tg h1 t1).2.2)).1))))) → ((mLef fo (wf 0) ((mLtg fo wf mf sv wn 0 tg h1 t1).1) sv nw 0 0 (mf (wf 0)) 0 ((mLtg fo wf mf sv wn 0 tg h1 t1).2.2)).1.toInt < 1000000) → wq 249 234 [(0, .ref 162), (1, .int 0), (4, .int 0), (5, .int ((mLef fo (wf 0) ((mLtg fo wf mf sv wn 0 tg h1 t1).1) sv nw 0 0 (mf (wf 0)) 0 ((mLtg fo wf mf sv wn 0 tg h1 t1).2.2)).1)), (6, .int 0)] [] h2 dc ds Q) : wq 249 170 [(0, .ref 162), (1, .int 0), (4, .int 0)] [] h dc ds Q := by
  have zN : (1000000 : Int32).toInt = 1000000 := rfl
  refine wq_gos (f := 1) (pc2 := 181) (ls2 := [(0, .ref 162), (1, .int 0), (4, .int 0)]) (st2 := [.int 0, .ref 162]) (h2 := h) (dc2 := dc) (ds2 := ds) 5 rfl ?_
  have q1x : (0 : Int32).toInt = 0 := rfl
  refine wq_inlv (y2 := 247) (as := [.int 0]) rfl rfl rfl hM rfl (wq_mono (m_ltg hM hKn hWy hSm hFo hSv hTg hH1 hT1 hkn hW hS hsv) ?_)
  rintro _ ⟨h82x, rfl, f82x, l82x, c02x, c12x, c22x⟩
  show wq 249 184 [(0, .ref 162), (1, .int 0), (4, .int 0)] [] h82x dc ds _
  obtain ⟨v3x, hv4x⟩ : ∃ x, x = (mLtg fo wf mf sv wn (0 : Int32) tg h1 t1) := ⟨_, rfl⟩
  try rw [← hv4x] at c02x
  try rw [← hv4x] at c12x
  try rw [← hv4x] at c22x
  try rw [← hv4x]
  refine wq_gos (f := 1) (pc2 := 186) (ls2 := [(0, .ref 162), (1, .int 0), (4, .int 0)]) (st2 := [.ref 162, .ref 162]) (h2 := h82x) (dc2 := dc) (ds2 := ds) 2 rfl ?_
  have e5x := (f82x.2 _ _ (wnc (by decide) (wnc (by decide) (wnc (by decide) wn0))) hM)
  refine wq_getf rfl e5x rfl rfl ?_
  refine wq_gos (f := 1) (pc2 := 201) (ls2 := [(0, .ref 162), (1, .int 0), (4, .int 0)]) (st2 := [.int 0, .int 0, .int 0, .ref 188, .ref 162]) (h2 := h82x) (dc2 := dc) (ds2 := ds) 6 rfl ?_
  have e6x := (f82x.2 _ _ (wnc (by decide) (wnc (by decide) (wnc (by decide) wn0))) hWy)
  have e7x := (f82x.2 _ _ (wnc (by decide) (wnc (by decide) (wnc (by decide) wn0))) hSm)
  have e8x := (f82x.2 _ _ (wnc (by decide) (wnc (by decide) (wnc (by decide) wn0))) hFo)
  have e9x := (f82x.2 _ _ (wnc (by decide) (wnc (by decide) (wnc (by decide) wn0))) hSv)
  have e10x := (f82x.2 _ _ (wnc (by decide) (wnc (by decide) (wnc (by decide) wn0))) hNw)
  refine wq_inlv (y2 := 246) (as := [.ref 188, .int 0, .int 0, .int 0]) rfl rfl rfl e5x rfl (wq_mono (m_lef (k := 0) (i := 0) e5x e6x e7x c02x e8x e9x e10x c22x (by decide) (hW 0 h1w) (hS 0 h1w) (by decide) (by decide) hsv) ?_)
  rintro _ ⟨h811x, rfl, f811x, l811x, c011x⟩
  show wq 249 204 [(0, .ref 162), (1, .int 0), (4, .int 0)] [.int ((mLef fo (wf 0) (v3x.1) sv nw 0 0 (mf (wf 0)) (0 : Int32) (v3x.2.2)).1)] h811x dc ds _
  obtain ⟨v12x, hv13x⟩ : ∃ x, x = (mLef fo (wf 0) (v3x.1) sv nw 0 0 (mf (wf 0)) (0 : Int32) (v3x.2.2)) := ⟨_, rfl⟩
  try rw [← hv13x] at c011x
  try rw [← hv13x]
  refine wq_gos (f := 1) (pc2 := 211) (ls2 := [(5, .int (v12x.1)), (0, .ref 162), (1, .int 0), (4, .int 0)]) (st2 := [.int 1000000, .int (v12x.1)]) (h2 := h811x) (dc2 := dc) (ds2 := ds) 3 rfl ?_
  have q14x : (1000000 : Int32).toInt = 1000000 := rfl
  refine wq_lt2 rfl rfl (fun b15x => ?_) (fun b15x => ?_)
  · refine wq_gos (f := 1) (pc2 := 224) (ls2 := [(5, .int (v12x.1)), (0, .ref 162), (1, .int 0), (4, .int 0)]) (st2 := [.ref 162]) (h2 := h811x) (dc2 := dc) (ds2 := ds) 1 rfl ?_
    have e16x := (f811x.2 _ _ (wnc (by decide) wn0) e5x)
    refine wq_getf rfl e16x rfl rfl ?_
    refine wq_gos (f := 1) (pc2 := 230) (ls2 := [(5, .int (v12x.1)), (0, .ref 162), (1, .int 0), (4, .int 0)]) (st2 := [.int (v12x.1), .int 0, .ref 210]) (h2 := h811x) (dc2 := dc) (ds2 := ds) 2 rfl ?_
    have e17x := (f811x.2 _ _ (wnc (by decide) wn0) (f82x.2 _ _ (wnc (by decide) (wnc (by decide) (wnc (by decide) wn0))) hRi))
    refine wq_iast rfl e17x rfl rfl ?_
    intro hh18x e19x ff20x lh21x
    have e19x : zat hh18x 210 = some (.inl (0, 2, (zset 0 ri 0 (v12x.1)))) := e19x
    refine wq_gos (f := 1) (pc2 := 234) (ls2 := [(6, .int 0), (5, .int (v12x.1)), (0, .ref 162), (1, .int 0), (4, .int 0)]) (st2 := []) (h2 := hh18x) (dc2 := dc) (ds2 := ds) 2 rfl ?_
    have e22x := (ff20x.2 _ _ (wnc (by decide) wn0) (f811x.2 _ _ (wnc (by decide) wn0) c02x))
    have e23x := (ff20x.2 _ _ (wnc (by decide) wn0) (f811x.2 _ _ (wnc (by decide) wn0) c12x))
    have e24x := (ff20x.2 _ _ (wnc (by decide) wn0) c011x)
    subst hv4x
    subst hv13x
    refine wq_ls [(0, .ref 162), (1, .int 0), (4, .int 0), (5, .int ((mLef fo (wf 0) ((mLtg fo wf mf sv wn (0 : Int32) tg h1 t1).1) sv nw 0 0 (mf (wf 0)) (0 : Int32) ((mLtg fo wf mf sv wn (0 : Int32) tg h1 t1).2.2)).1)), (6, .int 0)] (show ([0, 1, 4, 5, 6] : List Nat).Nodup by decide) ⟨rfl, rfl, rfl, rfl, rfl, trivial⟩ ?_
    exact kS hh18x (wFr_tr (wFr_sub f82x (by simp)) (wFr_tr (wFr_sub f811x (by simp)) (wFr_sub ff20x (by simp)))) (by omega) e22x e23x e24x e19x (by first | assumption | omega | decide | solve_by_elim)
  · refine wq_gos (f := 1) (pc2 := 215) (ls2 := [(5, .int (v12x.1)), (0, .ref 162), (1, .int 0), (4, .int 0)]) (st2 := [.ref 162]) (h2 := h811x) (dc2 := dc) (ds2 := ds) 1 rfl ?_
    have e25x := (f811x.2 _ _ (wnc (by decide) wn0) e5x)
    refine wq_getf rfl e25x rfl rfl ?_
    refine wq_gos (f := 1) (pc2 := 221) (ls2 := [(5, .int (v12x.1)), (0, .ref 162), (1, .int 0), (4, .int 0)]) (st2 := [.int (-2), .int 0, .ref 210]) (h2 := h811x) (dc2 := dc) (ds2 := ds) 2 rfl ?_
    have e26x := (f811x.2 _ _ (wnc (by decide) wn0) (f82x.2 _ _ (wnc (by decide) (wnc (by decide) (wnc (by decide) wn0))) hRi))
    refine wq_iast rfl e26x rfl rfl ?_
    intro hh27x e28x ff29x lh30x
    have e28x : zat hh27x 210 = some (.inl (0, 2, (zset 0 ri 0 (-2 : Int32)))) := e28x
    have e31x := (ff29x.2 _ _ (wnc (by decide) wn0) (f811x.2 _ _ (wnc (by decide) wn0) c02x))
    have e32x := (ff29x.2 _ _ (wnc (by decide) wn0) (f811x.2 _ _ (wnc (by decide) wn0) c12x))
    have e33x := (ff29x.2 _ _ (wnc (by decide) wn0) c011x)
    subst hv4x
    subst hv13x
    exact wq_ret rfl rfl (kF hh27x (wFr_tr (wFr_sub f82x (by simp)) (wFr_tr (wFr_sub f811x (by simp)) (wFr_sub ff29x (by simp)))) (by omega) e31x e32x e33x e28x (by first | assumption | omega | decide | solve_by_elim))
set_option maxRecDepth 100000 in
set_option maxHeartbeats 4000000 in
theorem m_lrE0 {h : zH} {Q : zR → Prop} {dc ds : Nat} {n0 n2 n14 n15 n16 n17 n18 n19 n20 n21 n22 n23 n27 n28 n32 n33 n34 n35 n39 n52 : Int32} {kn wy sv tg t1 pa ch co : List Int32} {fo : List Int64} {wn w i n9 : Nat} {le : Int32} (hM : zat h 162 = some (.inr (.inr (.inr (10, mO n0 n2 n14 n15 n16 n17 n18 n19 n20 n21 n22 n23 n27 n28 n32 n33 n34 n35 n39 n52))))) (hWy : zat h 180 = some (.inl (0, 20, wy))) (hFo : zat h 196 = some (.inr (.inl (6000, fo)))) (hSv : zat h 172 = some (.inl (0, 12, sv))) (hTg : zat h 208 = some (.inl (0, 6000, tg))) (hT1 : zat h 220 = some (.inl (0, 6, t1))) (hPa : zat h 214 = some (.inl (0, 132, pa))) (hCh : zat h 216 = some (.inl (0, 20, ch))) (hCo : zat h 218 = some (.inl (0, 22, co))) (hKn : zat h 166 = some (.inl (0, 14, kn))) (hkn : kn.getD 6 0 = nI wn ∧ wn ≤ 10) (hi : i < wn) (hw : wy.getD i 0 = nI w ∧ w < 8) (hsv : ∀ i, i < 6 → 1 ≤ (sv.getD i 0).toInt) (h9 : n9 < 600) (hhit : fHit fo w tg sv pa i (0 + (6 * i)) 0 le n9) (kE : ∀ (h2 : zH) (t2 : List Int32), (wFr [214, 216, 218, 220] h h2) → (h2.length = h.length) → (zat h2 220 = some (.inl (0, 6, t2))) → (zat h2 214 = some (.inl (0, 132, (mLsS fo w (mFbN fo w tg sv pa i (0 + (6 * i)) 0 le t1) (0 + (6 * (i + 1))) pa)))) → (zat h2 216 = some (.inl (0, 20, (zset 0 ch (0 + i) (nI (mFbN fo w tg sv pa i (0 + (6 * i)) 0 le t1)))))) → (zat h2 218 = some (.inl (0, 22, (zset 0 co ((0 + i) + 1) ((co.getD (0 + i) 0) + (mtkF sv (mLsS fo w (mFbN fo w tg sv pa i (0 + (6 * i)) 0 le t1) (0 + (6 * (i + 1))) pa) (0 + (6 * i)) (mLsS fo w (mFbN fo w tg sv pa i (0 + (6 * i)) 0 le t1) (0 + (6 * (i + 1))) pa) (0 + (6 * (i + 1))) (6 - 0 + 1) 0 0)))))) → ((mFbN fo w tg sv pa i (0 + (6 * i)) 0 le t1) ≤ n9) → ((tg.getD (600 * i + (mFbN fo w tg sv pa i (0 + (6 * i)) 0 le t1)) 0).toInt < 1000000) → wq 249 234 [(0, .ref 162), (1, .int 0), (4, .int 0), (5, .int (tg.getD ((600 * i) + (mFbN fo w tg sv pa i (0 + (6 * i)) 0 le t1)) 0)), (6, .int (nI (i + 1)))] [] h2 dc ds Q) : wq 249 234 [(0, .ref 162), (1, .int 0), (4, .int 0), (5, .int le), (6, .int (nI i))] [] h dc ds Q := by
  have qni := nI_toInt (n := i) (by omega)
  have qnwn := nI_toInt (n := wn) (by omega)
  have z0 : (0 : Int32).toInt = 0 := rfl
  have z1 : (1 : Int32).toInt = 1 := rfl
  have z5 : (5 : Int32).toInt = 5 := rfl
  have z6 : (6 : Int32).toInt = 6 := rfl
  have zm1 : (-1 : Int32).toInt = -1 := rfl
  have z3 : (3 : Int32).toInt = 3 := rfl
  have z2 : (2 : Int32).toInt = 2 := rfl
  have z20 : (20 : Int32).toInt = 20 := rfl
  have zN : (1000000 : Int32).toInt = 1000000 := rfl
  refine wq_gos (f := 1) (pc2 := 237) (ls2 := [(0, .ref 162), (1, .int 0), (4, .int 0), (5, .int le), (6, .int (nI i))]) (st2 := [.ref 162, .int (nI i)]) (h2 := h) (dc2 := dc) (ds2 := ds) 2 rfl ?_
  refine wq_inlv (y2 := 244) (as := []) rfl rfl rfl hM rfl ?_
  show wq 244 0 [(0, .ref 162)] [] h 0 0 _
  refine wq_gos (f := 1) (pc2 := 1) (ls2 := [(0, .ref 162)]) (st2 := [.ref 162]) (h2 := h) (dc2 := 0) (ds2 := 0) 1 rfl ?_
  refine wq_getf rfl hM rfl rfl ?_
  refine wq_gos (f := 1) (pc2 := 6) (ls2 := [(0, .ref 162)]) (st2 := [.int 6, .ref 166]) (h2 := h) (dc2 := 0) (ds2 := 0) 1 rfl ?_
  have q1x : (6 : Int32).toInt = 6 := rfl
  refine wq_iald rfl hKn rfl rfl ?_
  refine wq_vi hkn.1 ?_
  refine wq_ret rfl rfl ?_
  show wq 249 240 [(0, .ref 162), (1, .int 0), (4, .int 0), (5, .int le), (6, .int (nI i))] [.int (nI wn), .int (nI i)] h dc ds _
  try have q2x := nI_toInt (n := i) (by omega)
  try have q3x := nI_toInt (n := wn) (by omega)
  refine wq_ge2f rfl rfl (by omega) ?_
  refine wq_gos (f := 1) (pc2 := 245) (ls2 := [(0, .ref 162), (1, .int 0), (4, .int 0), (5, .int le), (6, .int (nI i))]) (st2 := [.ref 162, .ref 162]) (h2 := h) (dc2 := dc) (ds2 := ds) 2 rfl ?_
  refine wq_getf rfl hM rfl rfl ?_
  refine wq_gos (f := 1) (pc2 := 255) (ls2 := [(0, .ref 162), (1, .int 0), (4, .int 0), (5, .int le), (6, .int (nI i))]) (st2 := [.int ((6 : Int32) * (nI i)), .int 0, .ref 214, .ref 162]) (h2 := h) (dc2 := dc) (ds2 := ds) 4 rfl ?_
  refine wq_vi (show (6 : Int32) * (nI i) = nI (6 * i) from e_nmul 6 i) ?_
  refine wq_gos (f := 1) (pc2 := 256) (ls2 := [(0, .ref 162), (1, .int 0), (4, .int 0), (5, .int le), (6, .int (nI i))]) (st2 := [.int ((0 : Int32) + (nI (6 * i))), .ref 214, .ref 162]) (h2 := h) (dc2 := dc) (ds2 := ds) 1 rfl ?_
  refine wq_vi (show (0 : Int32) + (nI (6 * i)) = nI (0 + (6 * i)) from nI_add 0 (6 * i)) ?_
  refine wq_gos (f := 1) (pc2 := 270) (ls2 := [(0, .ref 162), (1, .int 0), (4, .int 0), (5, .int le), (6, .int (nI i))]) (st2 := [.int le, .int 0, .int (nI i), .int (nI (0 + (6 * i))), .ref 214, .ref 162]) (h2 := h) (dc2 := dc) (ds2 := ds) 6 rfl ?_
  try have q4x := nI_toInt (n := (0 + (6 * i))) (by omega)
  have q5x : (0 : Int32).toInt = 0 := rfl
  refine wq_inlv (y2 := 248) (as := [.ref 214, .int (nI (0 + (6 * i))), .int (nI i), .int 0, .int le]) rfl rfl rfl hM rfl (wq_mono (m_fb hM hWy hTg hFo hSv hPa hT1 (by omega) hw (by omega) (by decide) hsv h9 hhit) ?_)
  rintro _ ⟨h86x, rfl, f86x, l86x, c06x, p06x, p16x⟩
  show wq 249 273 [(0, .ref 162), (1, .int 0), (4, .int 0), (5, .int le), (6, .int (nI i))] [.int (nI (mFbN fo w tg sv pa i (0 + (6 * i)) (0 : Int32) le t1))] h86x dc ds _
  refine wq_gos (f := 1) (pc2 := 276) (ls2 := [(7, .int (nI (mFbN fo w tg sv pa i (0 + (6 * i)) (0 : Int32) le t1))), (0, .ref 162), (1, .int 0), (4, .int 0), (5, .int le), (6, .int (nI i))]) (st2 := [.ref 162]) (h2 := h86x) (dc2 := dc) (ds2 := ds) 2 rfl ?_
  have e7x := (f86x.2 _ _ (wnc (by decide) wn0) hM)
  refine wq_getf rfl e7x rfl rfl ?_
  refine wq_gos (f := 1) (pc2 := 286) (ls2 := [(7, .int (nI (mFbN fo w tg sv pa i (0 + (6 * i)) (0 : Int32) le t1))), (0, .ref 162), (1, .int 0), (4, .int 0), (5, .int le), (6, .int (nI i))]) (st2 := [.int ((0 : Int32) + (nI i)), .ref 216]) (h2 := h86x) (dc2 := dc) (ds2 := ds) 5 rfl ?_
  refine wq_vi (show (0 : Int32) + (nI i) = nI (0 + i) from nI_add 0 i) ?_
  refine wq_gos (f := 1) (pc2 := 288) (ls2 := [(7, .int (nI (mFbN fo w tg sv pa i (0 + (6 * i)) (0 : Int32) le t1))), (0, .ref 162), (1, .int 0), (4, .int 0), (5, .int le), (6, .int (nI i))]) (st2 := [.int (nI (mFbN fo w tg sv pa i (0 + (6 * i)) (0 : Int32) le t1)), .int (nI (0 + i)), .ref 216]) (h2 := h86x) (dc2 := dc) (ds2 := ds) 1 rfl ?_
  have e8x := (f86x.2 _ _ (wnc (by decide) wn0) hCh)
  try have q9x := nI_toInt (n := (0 + i)) (by omega)
  refine wq_iastn rfl e8x (by first | omega | exact zin_t (by omega) (by omega)) (by decide) rfl ?_
  intro hh10x e11x ff12x lh13x
  have e11x : zat hh10x 216 = some (.inl (0, 20, (zset 0 ch (0 + i) (nI (mFbN fo w tg sv pa i (0 + (6 * i)) (0 : Int32) le t1))))) := e11x
  refine wq_gos (f := 1) (pc2 := 295) (ls2 := [(7, .int (nI (mFbN fo w tg sv pa i (0 + (6 * i)) (0 : Int32) le t1))), (0, .ref 162), (1, .int 0), (4, .int 0), (5, .int le), (6, .int (nI i))]) (st2 := [.ref 162, .int (nI (mFbN fo w tg sv pa i (0 + (6 * i)) (0 : Int32) le t1)), .int (nI i), .ref 162]) (h2 := hh10x) (dc2 := dc) (ds2 := ds) 4 rfl ?_
  have e14x := (ff12x.2 _ _ (wnc (by decide) wn0) e7x)
  refine wq_getf rfl e14x rfl rfl ?_
  refine wq_gos (f := 1) (pc2 := 306) (ls2 := [(7, .int (nI (mFbN fo w tg sv pa i (0 + (6 * i)) (0 : Int32) le t1))), (0, .ref 162), (1, .int 0), (4, .int 0), (5, .int le), (6, .int (nI i))]) (st2 := [.int ((nI i) + (1 : Int32)), .int 6, .int 0, .ref 214, .int (nI (mFbN fo w tg sv pa i (0 + (6 * i)) (0 : Int32) le t1)), .int (nI i), .ref 162]) (h2 := hh10x) (dc2 := dc) (ds2 := ds) 5 rfl ?_
  refine wq_vi (show (nI i) + (1 : Int32) = nI (i + 1) from nI_add i 1) ?_
  refine wq_gos (f := 1) (pc2 := 307) (ls2 := [(7, .int (nI (mFbN fo w tg sv pa i (0 + (6 * i)) (0 : Int32) le t1))), (0, .ref 162), (1, .int 0), (4, .int 0), (5, .int le), (6, .int (nI i))]) (st2 := [.int ((6 : Int32) * (nI (i + 1))), .int 0, .ref 214, .int (nI (mFbN fo w tg sv pa i (0 + (6 * i)) (0 : Int32) le t1)), .int (nI i), .ref 162]) (h2 := hh10x) (dc2 := dc) (ds2 := ds) 1 rfl ?_
  refine wq_vi (show (6 : Int32) * (nI (i + 1)) = nI (6 * (i + 1)) from e_nmul 6 (i + 1)) ?_
  refine wq_gos (f := 1) (pc2 := 308) (ls2 := [(7, .int (nI (mFbN fo w tg sv pa i (0 + (6 * i)) (0 : Int32) le t1))), (0, .ref 162), (1, .int 0), (4, .int 0), (5, .int le), (6, .int (nI i))]) (st2 := [.int ((0 : Int32) + (nI (6 * (i + 1)))), .ref 214, .int (nI (mFbN fo w tg sv pa i (0 + (6 * i)) (0 : Int32) le t1)), .int (nI i), .ref 162]) (h2 := hh10x) (dc2 := dc) (ds2 := ds) 1 rfl ?_
  refine wq_vi (show (0 : Int32) + (nI (6 * (i + 1))) = nI (0 + (6 * (i + 1))) from nI_add 0 (6 * (i + 1))) ?_
  have e15x := (ff12x.2 _ _ (wnc (by decide) wn0) (f86x.2 _ _ (wnc (by decide) wn0) hWy))
  have e16x := (ff12x.2 _ _ (wnc (by decide) wn0) (f86x.2 _ _ (wnc (by decide) wn0) hFo))
  have e17x := (ff12x.2 _ _ (wnc (by decide) wn0) (f86x.2 _ _ (wnc (by decide) wn0) hPa))
  try have q18x := nI_toInt (n := (mFbN fo w tg sv pa i (0 + (6 * i)) (0 : Int32) le t1)) (by omega)
  try have q19x := nI_toInt (n := (0 + (6 * (i + 1)))) (by omega)
  refine wq_inlv (y2 := 245) (as := [.int (nI i), .int (nI (mFbN fo w tg sv pa i (0 + (6 * i)) (0 : Int32) le t1)), .ref 214, .int (nI (0 + (6 * (i + 1))))]) rfl rfl rfl e14x rfl (wq_mono (m_lsS e14x e15x e16x e17x (by omega) hw (by first | assumption | omega | decide | solve_by_elim) (by omega) (by decide)) ?_)
  rintro _ ⟨h820x, rfl, f820x, l820x, c020x⟩
  show wq 249 311 [(7, .int (nI (mFbN fo w tg sv pa i (0 + (6 * i)) (0 : Int32) le t1))), (0, .ref 162), (1, .int 0), (4, .int 0), (5, .int le), (6, .int (nI i))] [] h820x dc ds _
  obtain ⟨v21x, hv22x⟩ : ∃ x, x = (mLsS fo w (mFbN fo w tg sv pa i (0 + (6 * i)) (0 : Int32) le t1) (0 + (6 * (i + 1))) pa) := ⟨_, rfl⟩
  try rw [← hv22x] at c020x
  try rw [← hv22x]
  refine wq_gos (f := 1) (pc2 := 312) (ls2 := [(7, .int (nI (mFbN fo w tg sv pa i (0 + (6 * i)) (0 : Int32) le t1))), (0, .ref 162), (1, .int 0), (4, .int 0), (5, .int le), (6, .int (nI i))]) (st2 := [.ref 162]) (h2 := h820x) (dc2 := dc) (ds2 := ds) 1 rfl ?_
  have e23x := (f820x.2 _ _ (wnc (by decide) wn0) e14x)
  refine wq_getf rfl e23x rfl rfl ?_
  refine wq_gos (f := 1) (pc2 := 322) (ls2 := [(7, .int (nI (mFbN fo w tg sv pa i (0 + (6 * i)) (0 : Int32) le t1))), (0, .ref 162), (1, .int 0), (4, .int 0), (5, .int le), (6, .int (nI i))]) (st2 := [.int ((0 : Int32) + (nI i)), .ref 218]) (h2 := h820x) (dc2 := dc) (ds2 := ds) 5 rfl ?_
  refine wq_vi (show (0 : Int32) + (nI i) = nI (0 + i) from nI_add 0 i) ?_
  refine wq_gos (f := 1) (pc2 := 324) (ls2 := [(7, .int (nI (mFbN fo w tg sv pa i (0 + (6 * i)) (0 : Int32) le t1))), (0, .ref 162), (1, .int 0), (4, .int 0), (5, .int le), (6, .int (nI i))]) (st2 := [.int ((nI (0 + i)) + (1 : Int32)), .ref 218]) (h2 := h820x) (dc2 := dc) (ds2 := ds) 2 rfl ?_
  refine wq_vi (show (nI (0 + i)) + (1 : Int32) = nI ((0 + i) + 1) from nI_add (0 + i) 1) ?_
  refine wq_gos (f := 1) (pc2 := 325) (ls2 := [(7, .int (nI (mFbN fo w tg sv pa i (0 + (6 * i)) (0 : Int32) le t1))), (0, .ref 162), (1, .int 0), (4, .int 0), (5, .int le), (6, .int (nI i))]) (st2 := [.ref 162, .int (nI ((0 + i) + 1)), .ref 218]) (h2 := h820x) (dc2 := dc) (ds2 := ds) 1 rfl ?_
  refine wq_getf rfl e23x rfl rfl ?_
  refine wq_gos (f := 1) (pc2 := 335) (ls2 := [(7, .int (nI (mFbN fo w tg sv pa i (0 + (6 * i)) (0 : Int32) le t1))), (0, .ref 162), (1, .int 0), (4, .int 0), (5, .int le), (6, .int (nI i))]) (st2 := [.int ((0 : Int32) + (nI i)), .ref 218, .int (nI ((0 + i) + 1)), .ref 218]) (h2 := h820x) (dc2 := dc) (ds2 := ds) 5 rfl ?_
  refine wq_vi (show (0 : Int32) + (nI i) = nI (0 + i) from nI_add 0 i) ?_
  have e24x := (f820x.2 _ _ (wnc (by decide) wn0) (ff12x.2 _ _ (wnc (by decide) wn0) (f86x.2 _ _ (wnc (by decide) wn0) hCo)))
  refine wq_ialdn rfl e24x (by first | omega | exact zin_t (by omega) (by omega)) (by decide) rfl ?_
  refine wq_gos (f := 1) (pc2 := 338) (ls2 := [(7, .int (nI (mFbN fo w tg sv pa i (0 + (6 * i)) (0 : Int32) le t1))), (0, .ref 162), (1, .int 0), (4, .int 0), (5, .int le), (6, .int (nI i))]) (st2 := [.ref 162, .ref 162, .int (co.getD (0 + i) 0), .int (nI ((0 + i) + 1)), .ref 218]) (h2 := h820x) (dc2 := dc) (ds2 := ds) 2 rfl ?_
  refine wq_getf rfl e23x rfl rfl ?_
  refine wq_gos (f := 1) (pc2 := 348) (ls2 := [(7, .int (nI (mFbN fo w tg sv pa i (0 + (6 * i)) (0 : Int32) le t1))), (0, .ref 162), (1, .int 0), (4, .int 0), (5, .int le), (6, .int (nI i))]) (st2 := [.int ((6 : Int32) * (nI i)), .int 0, .ref 214, .ref 162, .int (co.getD (0 + i) 0), .int (nI ((0 + i) + 1)), .ref 218]) (h2 := h820x) (dc2 := dc) (ds2 := ds) 4 rfl ?_
  refine wq_vi (show (6 : Int32) * (nI i) = nI (6 * i) from e_nmul 6 i) ?_
  refine wq_gos (f := 1) (pc2 := 349) (ls2 := [(7, .int (nI (mFbN fo w tg sv pa i (0 + (6 * i)) (0 : Int32) le t1))), (0, .ref 162), (1, .int 0), (4, .int 0), (5, .int le), (6, .int (nI i))]) (st2 := [.int ((0 : Int32) + (nI (6 * i))), .ref 214, .ref 162, .int (co.getD (0 + i) 0), .int (nI ((0 + i) + 1)), .ref 218]) (h2 := h820x) (dc2 := dc) (ds2 := ds) 1 rfl ?_
  refine wq_vi (show (0 : Int32) + (nI (6 * i)) = nI (0 + (6 * i)) from nI_add 0 (6 * i)) ?_
  refine wq_gos (f := 1) (pc2 := 350) (ls2 := [(7, .int (nI (mFbN fo w tg sv pa i (0 + (6 * i)) (0 : Int32) le t1))), (0, .ref 162), (1, .int 0), (4, .int 0), (5, .int le), (6, .int (nI i))]) (st2 := [.ref 162, .int (nI (0 + (6 * i))), .ref 214, .ref 162, .int (co.getD (0 + i) 0), .int (nI ((0 + i) + 1)), .ref 218]) (h2 := h820x) (dc2 := dc) (ds2 := ds) 1 rfl ?_
  refine wq_getf rfl e23x rfl rfl ?_
  refine wq_gos (f := 1) (pc2 := 361) (ls2 := [(7, .int (nI (mFbN fo w tg sv pa i (0 + (6 * i)) (0 : Int32) le t1))), (0, .ref 162), (1, .int 0), (4, .int 0), (5, .int le), (6, .int (nI i))]) (st2 := [.int ((nI i) + (1 : Int32)), .int 6, .int 0, .ref 214, .int (nI (0 + (6 * i))), .ref 214, .ref 162, .int (co.getD (0 + i) 0), .int (nI ((0 + i) + 1)), .ref 218]) (h2 := h820x) (dc2 := dc) (ds2 := ds) 5 rfl ?_
  refine wq_vi (show (nI i) + (1 : Int32) = nI (i + 1) from nI_add i 1) ?_
  refine wq_gos (f := 1) (pc2 := 362) (ls2 := [(7, .int (nI (mFbN fo w tg sv pa i (0 + (6 * i)) (0 : Int32) le t1))), (0, .ref 162), (1, .int 0), (4, .int 0), (5, .int le), (6, .int (nI i))]) (st2 := [.int ((6 : Int32) * (nI (i + 1))), .int 0, .ref 214, .int (nI (0 + (6 * i))), .ref 214, .ref 162, .int (co.getD (0 + i) 0), .int (nI ((0 + i) + 1)), .ref 218]) (h2 := h820x) (dc2 := dc) (ds2 := ds) 1 rfl ?_
  refine wq_vi (show (6 : Int32) * (nI (i + 1)) = nI (6 * (i + 1)) from e_nmul 6 (i + 1)) ?_
  refine wq_gos (f := 1) (pc2 := 363) (ls2 := [(7, .int (nI (mFbN fo w tg sv pa i (0 + (6 * i)) (0 : Int32) le t1))), (0, .ref 162), (1, .int 0), (4, .int 0), (5, .int le), (6, .int (nI i))]) (st2 := [.int ((0 : Int32) + (nI (6 * (i + 1)))), .ref 214, .int (nI (0 + (6 * i))), .ref 214, .ref 162, .int (co.getD (0 + i) 0), .int (nI ((0 + i) + 1)), .ref 218]) (h2 := h820x) (dc2 := dc) (ds2 := ds) 1 rfl ?_
  refine wq_vi (show (0 : Int32) + (nI (6 * (i + 1))) = nI (0 + (6 * (i + 1))) from nI_add 0 (6 * (i + 1))) ?_
  have e25x := (f820x.2 _ _ (wnc (by decide) wn0) (ff12x.2 _ _ (wnc (by decide) wn0) (f86x.2 _ _ (wnc (by decide) wn0) hSv)))
  refine wq_inlv (y2 := 233) (as := [.ref 214, .int (nI (0 + (6 * i))), .ref 214, .int (nI (0 + (6 * (i + 1))))]) rfl rfl rfl e23x rfl (wq_mono (m_tks e23x e25x c020x c020x (by omega) (by omega) hsv) ?_)
  rintro _ rfl
  show wq 249 366 [(7, .int (nI (mFbN fo w tg sv pa i (0 + (6 * i)) (0 : Int32) le t1))), (0, .ref 162), (1, .int 0), (4, .int 0), (5, .int le), (6, .int (nI i))] [.int (mtkF sv (v21x) (0 + (6 * i)) (v21x) (0 + (6 * (i + 1))) (6 - 0 + 1) 0 0), .int (co.getD (0 + i) 0), .int (nI ((0 + i) + 1)), .ref 218] h820x dc ds _
  refine wq_gos (f := 1) (pc2 := 367) (ls2 := [(7, .int (nI (mFbN fo w tg sv pa i (0 + (6 * i)) (0 : Int32) le t1))), (0, .ref 162), (1, .int 0), (4, .int 0), (5, .int le), (6, .int (nI i))]) (st2 := [.int ((co.getD (0 + i) 0) + (mtkF sv (v21x) (0 + (6 * i)) (v21x) (0 + (6 * (i + 1))) (6 - 0 + 1) 0 0)), .int (nI ((0 + i) + 1)), .ref 218]) (h2 := h820x) (dc2 := dc) (ds2 := ds) 1 rfl ?_
  try have q27x := nI_toInt (n := ((0 + i) + 1)) (by omega)
  refine wq_iastn rfl e24x (by first | omega | exact zin_t (by omega) (by omega)) (by decide) rfl ?_
  intro hh28x e29x ff30x lh31x
  have e29x : zat hh28x 218 = some (.inl (0, 22, (zset 0 co ((0 + i) + 1) ((co.getD (0 + i) 0) + (mtkF sv (v21x) (0 + (6 * i)) (v21x) (0 + (6 * (i + 1))) (6 - 0 + 1) 0 0))))) := e29x
  refine wq_gos (f := 1) (pc2 := 369) (ls2 := [(7, .int (nI (mFbN fo w tg sv pa i (0 + (6 * i)) (0 : Int32) le t1))), (0, .ref 162), (1, .int 0), (4, .int 0), (5, .int le), (6, .int (nI i))]) (st2 := [.ref 162]) (h2 := hh28x) (dc2 := dc) (ds2 := ds) 1 rfl ?_
  have e32x := (ff30x.2 _ _ (wnc (by decide) wn0) e23x)
  refine wq_getf rfl e32x rfl rfl ?_
  refine wq_gos (f := 1) (pc2 := 378) (ls2 := [(7, .int (nI (mFbN fo w tg sv pa i (0 + (6 * i)) (0 : Int32) le t1))), (0, .ref 162), (1, .int 0), (4, .int 0), (5, .int le), (6, .int (nI i))]) (st2 := [.int ((600 : Int32) * (nI i)), .ref 208]) (h2 := hh28x) (dc2 := dc) (ds2 := ds) 3 rfl ?_
  refine wq_vi (show (600 : Int32) * (nI i) = nI (600 * i) from e_nmul 600 i) ?_
  refine wq_gos (f := 1) (pc2 := 381) (ls2 := [(7, .int (nI (mFbN fo w tg sv pa i (0 + (6 * i)) (0 : Int32) le t1))), (0, .ref 162), (1, .int 0), (4, .int 0), (5, .int le), (6, .int (nI i))]) (st2 := [.int ((nI (600 * i)) + (nI (mFbN fo w tg sv pa i (0 + (6 * i)) (0 : Int32) le t1))), .ref 208]) (h2 := hh28x) (dc2 := dc) (ds2 := ds) 2 rfl ?_
  refine wq_vi (show (nI (600 * i)) + (nI (mFbN fo w tg sv pa i (0 + (6 * i)) (0 : Int32) le t1)) = nI ((600 * i) + (mFbN fo w tg sv pa i (0 + (6 * i)) (0 : Int32) le t1)) from nI_add (600 * i) (mFbN fo w tg sv pa i (0 + (6 * i)) (0 : Int32) le t1)) ?_
  have e33x := (ff30x.2 _ _ (wnc (by decide) wn0) (f820x.2 _ _ (wnc (by decide) wn0) (ff12x.2 _ _ (wnc (by decide) wn0) (f86x.2 _ _ (wnc (by decide) wn0) hTg))))
  try have q34x := nI_toInt (n := ((600 * i) + (mFbN fo w tg sv pa i (0 + (6 * i)) (0 : Int32) le t1))) (by omega)
  refine wq_ialdn rfl e33x (by first | omega | exact zin_t (by omega) (by omega)) (by decide) rfl ?_
  refine wq_gos (f := 1) (pc2 := 387) (ls2 := [(6, .int ((nI i) + 1)), (5, .int (tg.getD ((600 * i) + (mFbN fo w tg sv pa i (0 + (6 * i)) (0 : Int32) le t1)) 0)), (7, .int (nI (mFbN fo w tg sv pa i (0 + (6 * i)) (0 : Int32) le t1))), (0, .ref 162), (1, .int 0), (4, .int 0)]) (st2 := []) (h2 := hh28x) (dc2 := dc) (ds2 := ds) 2 rfl ?_
  rw [nI_1]
  refine wq_gos (f := 1) (pc2 := 234) (ls2 := [(6, .int (nI (i + 1))), (5, .int (tg.getD ((600 * i) + (mFbN fo w tg sv pa i (0 + (6 * i)) (0 : Int32) le t1)) 0)), (7, .int (nI (mFbN fo w tg sv pa i (0 + (6 * i)) (0 : Int32) le t1))), (0, .ref 162), (1, .int 0), (4, .int 0)]) (st2 := []) (h2 := hh28x) (dc2 := dc) (ds2 := ds) 1 rfl ?_
  have e35x := (ff30x.2 _ _ (wnc (by decide) wn0) (f820x.2 _ _ (wnc (by decide) wn0) (ff12x.2 _ _ (wnc (by decide) wn0) c06x)))
  have e36x := (ff30x.2 _ _ (wnc (by decide) wn0) c020x)
  have e37x := (ff30x.2 _ _ (wnc (by decide) wn0) (f820x.2 _ _ (wnc (by decide) wn0) e11x))
  subst hv22x
  refine wq_ls [(0, .ref 162), (1, .int 0), (4, .int 0), (5, .int (tg.getD ((600 * i) + (mFbN fo w tg sv pa i (0 + (6 * i)) (0 : Int32) le t1)) 0)), (6, .int (nI (i + 1)))] (show ([0, 1, 4, 5, 6] : List Nat).Nodup by decide) ⟨rfl, rfl, rfl, rfl, rfl, trivial⟩ ?_
  exact kE hh28x ((mfbF fo w tg sv pa i (0 + (6 * i)) (0 : Int32) le (600 - 0 + 1) 0 t1).2) (wFr_tr (wFr_sub f86x (by simp)) (wFr_tr (wFr_sub ff12x (by simp)) (wFr_tr (wFr_sub f820x (by simp)) (wFr_sub ff30x (by simp))))) (by omega) e35x e36x e37x e29x (by first | assumption | omega | decide | solve_by_elim) (by first | assumption | omega | decide | solve_by_elim)
set_option maxRecDepth 100000 in
set_option maxHeartbeats 4000000 in
theorem m_lrF0 {h : zH} {Q : zR → Prop} {dc ds : Nat} {n0 n2 n14 n15 n16 n17 n18 n19 n20 n21 n22 n23 n27 n28 n32 n33 n34 n35 n39 n52 : Int32} {kn : List Int32} {wn i : Nat} {le : Int32} (hM : zat h 162 = some (.inr (.inr (.inr (10, mO n0 n2 n14 n15 n16 n17 n18 n19 n20 n21 n22 n23 n27 n28 n32 n33 n34 n35 n39 n52))))) (hKn : zat h 166 = some (.inl (0, 14, kn))) (hkn : kn.getD 6 0 = nI wn ∧ wn ≤ 10) (hi : wn ≤ i ∧ i ≤ 10) (kE : Q (none, h, dc, ds)) : wq 249 234 [(0, .ref 162), (1, .int 0), (4, .int 0), (5, .int le), (6, .int (nI i))] [] h dc ds Q := by
  have qni := nI_toInt (n := i) (by omega)
  have qnwn := nI_toInt (n := wn) (by omega)
  refine wq_gos (f := 1) (pc2 := 237) (ls2 := [(0, .ref 162), (1, .int 0), (4, .int 0), (5, .int le), (6, .int (nI i))]) (st2 := [.ref 162, .int (nI i)]) (h2 := h) (dc2 := dc) (ds2 := ds) 2 rfl ?_
  refine wq_inlv (y2 := 244) (as := []) rfl rfl rfl hM rfl ?_
  show wq 244 0 [(0, .ref 162)] [] h 0 0 _
  refine wq_gos (f := 1) (pc2 := 1) (ls2 := [(0, .ref 162)]) (st2 := [.ref 162]) (h2 := h) (dc2 := 0) (ds2 := 0) 1 rfl ?_
  refine wq_getf rfl hM rfl rfl ?_
  refine wq_gos (f := 1) (pc2 := 6) (ls2 := [(0, .ref 162)]) (st2 := [.int 6, .ref 166]) (h2 := h) (dc2 := 0) (ds2 := 0) 1 rfl ?_
  have q1x : (6 : Int32).toInt = 6 := rfl
  refine wq_iald rfl hKn rfl rfl ?_
  refine wq_vi hkn.1 ?_
  refine wq_ret rfl rfl ?_
  show wq 249 240 [(0, .ref 162), (1, .int 0), (4, .int 0), (5, .int le), (6, .int (nI i))] [.int (nI wn), .int (nI i)] h dc ds _
  try have q2x := nI_toInt (n := i) (by omega)
  try have q3x := nI_toInt (n := wn) (by omega)
  refine wq_ge2t rfl (by omega) ?_
  exact wq_ret rfl rfl (kE )
set_option maxRecDepth 100000 in
set_option maxHeartbeats 4000000 in
theorem m_lrB1 {h : zH} {Q : zR → Prop} {dc ds : Nat} {n0 n2 n14 n15 n16 n17 n18 n19 n20 n21 n22 n23 n27 n28 n32 n33 n34 n35 n39 n52 : Int32} {nw pa co : List Int32} {no tm : Int32} (hM : zat h 162 = some (.inr (.inr (.inr (10, mO n0 n2 n14 n15 n16 n17 n18 n19 n20 n21 n22 n23 n27 n28 n32 n33 n34 n35 n39 n52))))) (hNw : zat h 188 = some (.inl (0, 6, nw))) (hPa : zat h 214 = some (.inl (0, 132, pa))) (hCo : zat h 218 = some (.inl (0, 22, co)))  (kE : ∀ (h2 : zH), (wFr [214, 218] h h2) → (h2.length = h.length) → (zat h2 214 = some (.inl (0, 132, (zset 0 (zset 0 (zset 0 (zset 0 (zset 0 (zset 0 pa 66 (nw.getD 0 0)) 67 (nw.getD 1 0)) 68 (nw.getD 2 0)) 69 (nw.getD 3 0)) 70 (nw.getD 4 0)) 71 (nw.getD 5 0))))) → (zat h2 218 = some (.inl (0, 22, (zset 0 co 11 0)))) → wq 249 136 [(0, .ref 162), (1, .int 1), (2, .int no), (3, .int tm), (4, .int 66)] [] h2 dc ds Q) : wq 249 87 [(0, .ref 162), (1, .int 1), (2, .int no), (3, .int tm)] [] h dc ds Q := by
  refine wq_gos (f := 1) (pc2 := 104) (ls2 := [(5, .int 0), (4, .int 66), (0, .ref 162), (1, .int 1), (2, .int no), (3, .int tm)]) (st2 := [.ref 162]) (h2 := h) (dc2 := dc) (ds2 := ds) 10 rfl ?_
  refine wq_getf rfl hM rfl rfl ?_
  refine wq_gos (f := 1) (pc2 := 113) (ls2 := [(5, .int 0), (4, .int 66), (0, .ref 162), (1, .int 1), (2, .int no), (3, .int tm)]) (st2 := [.ref 162, .int 66, .ref 214]) (h2 := h) (dc2 := dc) (ds2 := ds) 4 rfl ?_
  refine wq_getf rfl hM rfl rfl ?_
  refine wq_gos (f := 1) (pc2 := 118) (ls2 := [(5, .int 0), (4, .int 66), (0, .ref 162), (1, .int 1), (2, .int no), (3, .int tm)]) (st2 := [.int 0, .ref 188, .int 66, .ref 214]) (h2 := h) (dc2 := dc) (ds2 := ds) 1 rfl ?_
  have q1x : (0 : Int32).toInt = 0 := rfl
  refine wq_iald rfl hNw rfl rfl ?_
  have q2x : (66 : Int32).toInt = 66 := rfl
  refine wq_iast rfl hPa rfl rfl ?_
  intro hh3x e4x ff5x lh6x
  have e4x : zat hh3x 214 = some (.inl (0, 132, (zset 0 pa 66 (nw.getD 0 0)))) := e4x
  refine wq_gos (f := 1) (pc2 := 104) (ls2 := [(5, .int 1), (4, .int 66), (0, .ref 162), (1, .int 1), (2, .int no), (3, .int tm)]) (st2 := [.ref 162]) (h2 := hh3x) (dc2 := dc) (ds2 := ds) 6 rfl ?_
  have e7x := (ff5x.2 _ _ (wnc (by decide) wn0) hM)
  refine wq_getf rfl e7x rfl rfl ?_
  refine wq_gos (f := 1) (pc2 := 113) (ls2 := [(5, .int 1), (4, .int 66), (0, .ref 162), (1, .int 1), (2, .int no), (3, .int tm)]) (st2 := [.ref 162, .int 67, .ref 214]) (h2 := hh3x) (dc2 := dc) (ds2 := ds) 4 rfl ?_
  refine wq_getf rfl e7x rfl rfl ?_
  refine wq_gos (f := 1) (pc2 := 118) (ls2 := [(5, .int 1), (4, .int 66), (0, .ref 162), (1, .int 1), (2, .int no), (3, .int tm)]) (st2 := [.int 1, .ref 188, .int 67, .ref 214]) (h2 := hh3x) (dc2 := dc) (ds2 := ds) 1 rfl ?_
  have e8x := (ff5x.2 _ _ (wnc (by decide) wn0) hNw)
  have q9x : (1 : Int32).toInt = 1 := rfl
  refine wq_iald rfl e8x rfl rfl ?_
  have q10x : (67 : Int32).toInt = 67 := rfl
  refine wq_iast rfl e4x rfl rfl ?_
  intro hh11x e12x ff13x lh14x
  have e12x : zat hh11x 214 = some (.inl (0, 132, (zset 0 (zset 0 pa 66 (nw.getD 0 0)) 67 (nw.getD 1 0)))) := e12x
  refine wq_gos (f := 1) (pc2 := 104) (ls2 := [(5, .int 2), (4, .int 66), (0, .ref 162), (1, .int 1), (2, .int no), (3, .int tm)]) (st2 := [.ref 162]) (h2 := hh11x) (dc2 := dc) (ds2 := ds) 6 rfl ?_
  have e15x := (ff13x.2 _ _ (wnc (by decide) wn0) e7x)
  refine wq_getf rfl e15x rfl rfl ?_
  refine wq_gos (f := 1) (pc2 := 113) (ls2 := [(5, .int 2), (4, .int 66), (0, .ref 162), (1, .int 1), (2, .int no), (3, .int tm)]) (st2 := [.ref 162, .int 68, .ref 214]) (h2 := hh11x) (dc2 := dc) (ds2 := ds) 4 rfl ?_
  refine wq_getf rfl e15x rfl rfl ?_
  refine wq_gos (f := 1) (pc2 := 118) (ls2 := [(5, .int 2), (4, .int 66), (0, .ref 162), (1, .int 1), (2, .int no), (3, .int tm)]) (st2 := [.int 2, .ref 188, .int 68, .ref 214]) (h2 := hh11x) (dc2 := dc) (ds2 := ds) 1 rfl ?_
  have e16x := (ff13x.2 _ _ (wnc (by decide) wn0) e8x)
  have q17x : (2 : Int32).toInt = 2 := rfl
  refine wq_iald rfl e16x rfl rfl ?_
  have q18x : (68 : Int32).toInt = 68 := rfl
  refine wq_iast rfl e12x rfl rfl ?_
  intro hh19x e20x ff21x lh22x
  have e20x : zat hh19x 214 = some (.inl (0, 132, (zset 0 (zset 0 (zset 0 pa 66 (nw.getD 0 0)) 67 (nw.getD 1 0)) 68 (nw.getD 2 0)))) := e20x
  refine wq_gos (f := 1) (pc2 := 104) (ls2 := [(5, .int 3), (4, .int 66), (0, .ref 162), (1, .int 1), (2, .int no), (3, .int tm)]) (st2 := [.ref 162]) (h2 := hh19x) (dc2 := dc) (ds2 := ds) 6 rfl ?_
  have e23x := (ff21x.2 _ _ (wnc (by decide) wn0) e15x)
  refine wq_getf rfl e23x rfl rfl ?_
  refine wq_gos (f := 1) (pc2 := 113) (ls2 := [(5, .int 3), (4, .int 66), (0, .ref 162), (1, .int 1), (2, .int no), (3, .int tm)]) (st2 := [.ref 162, .int 69, .ref 214]) (h2 := hh19x) (dc2 := dc) (ds2 := ds) 4 rfl ?_
  refine wq_getf rfl e23x rfl rfl ?_
  refine wq_gos (f := 1) (pc2 := 118) (ls2 := [(5, .int 3), (4, .int 66), (0, .ref 162), (1, .int 1), (2, .int no), (3, .int tm)]) (st2 := [.int 3, .ref 188, .int 69, .ref 214]) (h2 := hh19x) (dc2 := dc) (ds2 := ds) 1 rfl ?_
  have e24x := (ff21x.2 _ _ (wnc (by decide) wn0) e16x)
  have q25x : (3 : Int32).toInt = 3 := rfl
  refine wq_iald rfl e24x rfl rfl ?_
  have q26x : (69 : Int32).toInt = 69 := rfl
  refine wq_iast rfl e20x rfl rfl ?_
  intro hh27x e28x ff29x lh30x
  have e28x : zat hh27x 214 = some (.inl (0, 132, (zset 0 (zset 0 (zset 0 (zset 0 pa 66 (nw.getD 0 0)) 67 (nw.getD 1 0)) 68 (nw.getD 2 0)) 69 (nw.getD 3 0)))) := e28x
  refine wq_gos (f := 1) (pc2 := 104) (ls2 := [(5, .int 4), (4, .int 66), (0, .ref 162), (1, .int 1), (2, .int no), (3, .int tm)]) (st2 := [.ref 162]) (h2 := hh27x) (dc2 := dc) (ds2 := ds) 6 rfl ?_
  have e31x := (ff29x.2 _ _ (wnc (by decide) wn0) e23x)
  refine wq_getf rfl e31x rfl rfl ?_
  refine wq_gos (f := 1) (pc2 := 113) (ls2 := [(5, .int 4), (4, .int 66), (0, .ref 162), (1, .int 1), (2, .int no), (3, .int tm)]) (st2 := [.ref 162, .int 70, .ref 214]) (h2 := hh27x) (dc2 := dc) (ds2 := ds) 4 rfl ?_
  refine wq_getf rfl e31x rfl rfl ?_
  refine wq_gos (f := 1) (pc2 := 118) (ls2 := [(5, .int 4), (4, .int 66), (0, .ref 162), (1, .int 1), (2, .int no), (3, .int tm)]) (st2 := [.int 4, .ref 188, .int 70, .ref 214]) (h2 := hh27x) (dc2 := dc) (ds2 := ds) 1 rfl ?_
  have e32x := (ff29x.2 _ _ (wnc (by decide) wn0) e24x)
  have q33x : (4 : Int32).toInt = 4 := rfl
  refine wq_iald rfl e32x rfl rfl ?_
  have q34x : (70 : Int32).toInt = 70 := rfl
  refine wq_iast rfl e28x rfl rfl ?_
  intro hh35x e36x ff37x lh38x
  have e36x : zat hh35x 214 = some (.inl (0, 132, (zset 0 (zset 0 (zset 0 (zset 0 (zset 0 pa 66 (nw.getD 0 0)) 67 (nw.getD 1 0)) 68 (nw.getD 2 0)) 69 (nw.getD 3 0)) 70 (nw.getD 4 0)))) := e36x
  refine wq_gos (f := 1) (pc2 := 104) (ls2 := [(5, .int 5), (4, .int 66), (0, .ref 162), (1, .int 1), (2, .int no), (3, .int tm)]) (st2 := [.ref 162]) (h2 := hh35x) (dc2 := dc) (ds2 := ds) 6 rfl ?_
  have e39x := (ff37x.2 _ _ (wnc (by decide) wn0) e31x)
  refine wq_getf rfl e39x rfl rfl ?_
  refine wq_gos (f := 1) (pc2 := 113) (ls2 := [(5, .int 5), (4, .int 66), (0, .ref 162), (1, .int 1), (2, .int no), (3, .int tm)]) (st2 := [.ref 162, .int 71, .ref 214]) (h2 := hh35x) (dc2 := dc) (ds2 := ds) 4 rfl ?_
  refine wq_getf rfl e39x rfl rfl ?_
  refine wq_gos (f := 1) (pc2 := 118) (ls2 := [(5, .int 5), (4, .int 66), (0, .ref 162), (1, .int 1), (2, .int no), (3, .int tm)]) (st2 := [.int 5, .ref 188, .int 71, .ref 214]) (h2 := hh35x) (dc2 := dc) (ds2 := ds) 1 rfl ?_
  have e40x := (ff37x.2 _ _ (wnc (by decide) wn0) e32x)
  have q41x : (5 : Int32).toInt = 5 := rfl
  refine wq_iald rfl e40x rfl rfl ?_
  have q42x : (71 : Int32).toInt = 71 := rfl
  refine wq_iast rfl e36x rfl rfl ?_
  intro hh43x e44x ff45x lh46x
  have e44x : zat hh43x 214 = some (.inl (0, 132, (zset 0 (zset 0 (zset 0 (zset 0 (zset 0 (zset 0 pa 66 (nw.getD 0 0)) 67 (nw.getD 1 0)) 68 (nw.getD 2 0)) 69 (nw.getD 3 0)) 70 (nw.getD 4 0)) 71 (nw.getD 5 0)))) := e44x
  refine wq_gos (f := 1) (pc2 := 127) (ls2 := [(5, .int 6), (4, .int 66), (0, .ref 162), (1, .int 1), (2, .int no), (3, .int tm)]) (st2 := [.ref 162]) (h2 := hh43x) (dc2 := dc) (ds2 := ds) 6 rfl ?_
  have e47x := (ff45x.2 _ _ (wnc (by decide) wn0) e39x)
  refine wq_getf rfl e47x rfl rfl ?_
  refine wq_gos (f := 1) (pc2 := 135) (ls2 := [(5, .int 6), (4, .int 66), (0, .ref 162), (1, .int 1), (2, .int no), (3, .int tm)]) (st2 := [.int 0, .int 11, .ref 218]) (h2 := hh43x) (dc2 := dc) (ds2 := ds) 4 rfl ?_
  have e48x := (ff45x.2 _ _ (wnc (by decide) wn0) (ff37x.2 _ _ (wnc (by decide) wn0) (ff29x.2 _ _ (wnc (by decide) wn0) (ff21x.2 _ _ (wnc (by decide) wn0) (ff13x.2 _ _ (wnc (by decide) wn0) (ff5x.2 _ _ (wnc (by decide) wn0) hCo))))))
  have q49x : (11 : Int32).toInt = 11 := rfl
  refine wq_iast rfl e48x rfl rfl ?_
  intro hh50x e51x ff52x lh53x
  have e51x : zat hh50x 218 = some (.inl (0, 22, (zset 0 co 11 (0 : Int32)))) := e51x
  have e54x := (ff52x.2 _ _ (wnc (by decide) wn0) e44x)
  refine wq_ls [(0, .ref 162), (1, .int 1), (2, .int no), (3, .int tm), (4, .int 66)] (show ([0, 1, 2, 3, 4] : List Nat).Nodup by decide) ⟨rfl, rfl, rfl, rfl, rfl, trivial⟩ ?_
  exact kE hh50x (wFr_tr (wFr_sub ff5x (by simp)) (wFr_tr (wFr_sub ff13x (by simp)) (wFr_tr (wFr_sub ff21x (by simp)) (wFr_tr (wFr_sub ff29x (by simp)) (wFr_tr (wFr_sub ff37x (by simp)) (wFr_tr (wFr_sub ff45x (by simp)) (wFr_sub ff52x (by simp)))))))) (by omega) e54x e51x
set_option maxRecDepth 100000 in
set_option maxHeartbeats 4000000 in
theorem m_lrC1 {h : zH} {Q : zR → Prop} {dc ds : Nat} {n0 n2 n14 n15 n16 n17 n18 n19 n20 n21 n22 n23 n27 n28 n32 n33 n34 n35 n39 n52 : Int32} {kn ri : List Int32} {wn : Nat} {no tm : Int32} (hM : zat h 162 = some (.inr (.inr (.inr (10, mO n0 n2 n14 n15 n16 n17 n18 n19 n20 n21 n22 n23 n27 n28 n32 n33 n34 n35 n39 n52))))) (hRi : zat h 210 = some (.inl (0, 2, ri))) (hKn : zat h 166 = some (.inl (0, 14, kn))) (hkn : kn.getD 6 0 = nI wn ∧ wn ≤ 10) (kF : ∀ (h2 : zH) (r2 : Int32), (wFr [210] h h2) → (h2.length = h.length) → (zat h2 210 = some (.inl (0, 2, (zset 0 ri 1 r2)))) → (0 < no.toInt ∨ 0 < tm.toInt) → (r2 = -2 ∨ r2 = -3) → Q (none, h2, dc, ds)) (kZ : ∀ (h2 : zH), (wFr [] h h2) → (h2.length = h.length) → (zat h2 210 = some (.inl (0, 2, ri))) → (wn = 0) → Q (none, h2, dc, ds)) (kG : ∀ (h2 : zH), (wFr [] h h2) → (h2.length = h.length) → (zat h2 210 = some (.inl (0, 2, ri))) → (no.toInt ≤ 0) → (tm.toInt ≤ 0) → (1 ≤ wn) → wq 249 170 [(0, .ref 162), (1, .int 1), (4, .int 66)] [] h2 dc ds Q) : wq 249 136 [(0, .ref 162), (1, .int 1), (2, .int no), (3, .int tm), (4, .int 66)] [] h dc ds Q := by
  have qnwn := nI_toInt (n := wn) (by omega)
  have z0 : (0 : Int32).toInt = 0 := rfl
  have z1 : (1 : Int32).toInt = 1 := rfl
  have z5 : (5 : Int32).toInt = 5 := rfl
  have z6 : (6 : Int32).toInt = 6 := rfl
  have zm1 : (-1 : Int32).toInt = -1 := rfl
  have z3 : (3 : Int32).toInt = 3 := rfl
  have z2 : (2 : Int32).toInt = 2 := rfl
  have z20 : (20 : Int32).toInt = 20 := rfl
  refine wq_gos (f := 1) (pc2 := 137) (ls2 := [(0, .ref 162), (1, .int 1), (2, .int no), (3, .int tm), (4, .int 66)]) (st2 := [.int no]) (h2 := h) (dc2 := dc) (ds2 := ds) 1 rfl ?_
  refine wq_gt0 rfl rfl (fun b1x => ?_) (fun b1x => ?_)
  · refine wq_gos (f := 1) (pc2 := 145) (ls2 := [(0, .ref 162), (1, .int 1), (2, .int no), (3, .int tm), (4, .int 66)]) (st2 := [.ref 162]) (h2 := h) (dc2 := dc) (ds2 := ds) 1 rfl ?_
    refine wq_getf rfl hM rfl rfl ?_
    refine wq_gos (f := 1) (pc2 := 150) (ls2 := [(0, .ref 162), (1, .int 1), (2, .int no), (3, .int tm), (4, .int 66)]) (st2 := [.int no, .int 1, .ref 210]) (h2 := h) (dc2 := dc) (ds2 := ds) 2 rfl ?_
    refine wq_le0 rfl rfl (fun b2x => ?_) (fun b2x => ?_)
    · refine wq_gos (f := 1) (pc2 := 160) (ls2 := [(0, .ref 162), (1, .int 1), (2, .int no), (3, .int tm), (4, .int 66)]) (st2 := [.int (-3), .int 1, .ref 210]) (h2 := h) (dc2 := dc) (ds2 := ds) 1 rfl ?_
      have q3x : (1 : Int32).toInt = 1 := rfl
      refine wq_iast rfl hRi rfl rfl ?_
      intro hh4x e5x ff6x lh7x
      have e5x : zat hh4x 210 = some (.inl (0, 2, (zset 0 ri 1 (-3 : Int32)))) := e5x
      exact wq_ret rfl rfl (kF hh4x _ (wFr_sub ff6x (by simp)) (by omega) e5x (by first | exact Or.inl (by omega) | exact Or.inr (by omega)) (by first | exact Or.inl rfl | exact Or.inr rfl))
    · refine wq_gos (f := 1) (pc2 := 160) (ls2 := [(0, .ref 162), (1, .int 1), (2, .int no), (3, .int tm), (4, .int 66)]) (st2 := [.int (-2), .int 1, .ref 210]) (h2 := h) (dc2 := dc) (ds2 := ds) 2 rfl ?_
      have q8x : (1 : Int32).toInt = 1 := rfl
      refine wq_iast rfl hRi rfl rfl ?_
      intro hh9x e10x ff11x lh12x
      have e10x : zat hh9x 210 = some (.inl (0, 2, (zset 0 ri 1 (-2 : Int32)))) := e10x
      exact wq_ret rfl rfl (kF hh9x _ (wFr_sub ff11x (by simp)) (by omega) e10x (by first | exact Or.inl (by omega) | exact Or.inr (by omega)) (by first | exact Or.inl rfl | exact Or.inr rfl))
  · refine wq_gos (f := 1) (pc2 := 141) (ls2 := [(0, .ref 162), (1, .int 1), (2, .int no), (3, .int tm), (4, .int 66)]) (st2 := [.int tm]) (h2 := h) (dc2 := dc) (ds2 := ds) 1 rfl ?_
    refine wq_le0 rfl rfl (fun b13x => ?_) (fun b13x => ?_)
    · refine wq_gos (f := 1) (pc2 := 163) (ls2 := [(0, .ref 162), (1, .int 1), (2, .int no), (3, .int tm), (4, .int 66)]) (st2 := [.ref 162]) (h2 := h) (dc2 := dc) (ds2 := ds) 1 rfl ?_
      refine wq_inlv (y2 := 244) (as := []) rfl rfl rfl hM rfl ?_
      show wq 244 0 [(0, .ref 162)] [] h 0 0 _
      refine wq_gos (f := 1) (pc2 := 1) (ls2 := [(0, .ref 162)]) (st2 := [.ref 162]) (h2 := h) (dc2 := 0) (ds2 := 0) 1 rfl ?_
      refine wq_getf rfl hM rfl rfl ?_
      refine wq_gos (f := 1) (pc2 := 6) (ls2 := [(0, .ref 162)]) (st2 := [.int 6, .ref 166]) (h2 := h) (dc2 := 0) (ds2 := 0) 1 rfl ?_
      have q14x : (6 : Int32).toInt = 6 := rfl
      refine wq_iald rfl hKn rfl rfl ?_
      refine wq_vi hkn.1 ?_
      refine wq_ret rfl rfl ?_
      show wq 249 166 [(0, .ref 162), (1, .int 1), (2, .int no), (3, .int tm), (4, .int 66)] [.int (nI wn)] h dc ds _
      try have q15x := nI_toInt (n := wn) (by omega)
      refine wq_ne0 rfl rfl (fun b16x => ?_) (fun b16x => ?_)
      · have q17x : (nI wn).toInt ≠ 0 := fun q => b16x (Int32.toInt_inj.mp q)
        refine wq_ls [(0, .ref 162), (1, .int 1), (4, .int 66)] (show ([0, 1, 4] : List Nat).Nodup by decide) ⟨rfl, rfl, rfl, trivial⟩ ?_
        exact kG h (wFr_rf _ _) (by omega) hRi (by first | assumption | omega | decide | solve_by_elim) (by first | assumption | omega | decide | solve_by_elim) (by first | assumption | omega | decide | solve_by_elim)
      · have q18x : (nI wn).toInt = 0 := congrArg Int32.toInt b16x
        exact wq_ret rfl rfl (kZ h (wFr_rf _ _) (by omega) hRi (by first | assumption | omega | decide | solve_by_elim))
    · refine wq_gos (f := 1) (pc2 := 145) (ls2 := [(0, .ref 162), (1, .int 1), (2, .int no), (3, .int tm), (4, .int 66)]) (st2 := [.ref 162]) (h2 := h) (dc2 := dc) (ds2 := ds) 1 rfl ?_
      refine wq_getf rfl hM rfl rfl ?_
      refine wq_gos (f := 1) (pc2 := 150) (ls2 := [(0, .ref 162), (1, .int 1), (2, .int no), (3, .int tm), (4, .int 66)]) (st2 := [.int no, .int 1, .ref 210]) (h2 := h) (dc2 := dc) (ds2 := ds) 2 rfl ?_
      refine wq_le0 rfl rfl (fun b19x => ?_) (fun b19x => ?_)
      · refine wq_gos (f := 1) (pc2 := 160) (ls2 := [(0, .ref 162), (1, .int 1), (2, .int no), (3, .int tm), (4, .int 66)]) (st2 := [.int (-3), .int 1, .ref 210]) (h2 := h) (dc2 := dc) (ds2 := ds) 1 rfl ?_
        have q20x : (1 : Int32).toInt = 1 := rfl
        refine wq_iast rfl hRi rfl rfl ?_
        intro hh21x e22x ff23x lh24x
        have e22x : zat hh21x 210 = some (.inl (0, 2, (zset 0 ri 1 (-3 : Int32)))) := e22x
        exact wq_ret rfl rfl (kF hh21x _ (wFr_sub ff23x (by simp)) (by omega) e22x (by first | exact Or.inl (by omega) | exact Or.inr (by omega)) (by first | exact Or.inl rfl | exact Or.inr rfl))
      · refine wq_gos (f := 1) (pc2 := 160) (ls2 := [(0, .ref 162), (1, .int 1), (2, .int no), (3, .int tm), (4, .int 66)]) (st2 := [.int (-2), .int 1, .ref 210]) (h2 := h) (dc2 := dc) (ds2 := ds) 2 rfl ?_
        have q25x : (1 : Int32).toInt = 1 := rfl
        refine wq_iast rfl hRi rfl rfl ?_
        intro hh26x e27x ff28x lh29x
        have e27x : zat hh26x 210 = some (.inl (0, 2, (zset 0 ri 1 (-2 : Int32)))) := e27x
        exact wq_ret rfl rfl (kF hh26x _ (wFr_sub ff28x (by simp)) (by omega) e27x (by first | exact Or.inl (by omega) | exact Or.inr (by omega)) (by first | exact Or.inl rfl | exact Or.inr rfl))
set_option maxRecDepth 100000 in
set_option maxHeartbeats 4000000 in
theorem m_lrD1 {h : zH} {Q : zR → Prop} {dc ds : Nat} {n0 n2 n14 n15 n16 n17 n18 n19 n20 n21 n22 n23 n27 n28 n32 n33 n34 n35 n39 n52 : Int32} {kn wy sm sv nw tg h1 t1 ri : List Int32} {fo : List Int64} {wn : Nat} {wf mf : Nat → Nat} (hM : zat h 162 = some (.inr (.inr (.inr (10, mO n0 n2 n14 n15 n16 n17 n18 n19 n20 n21 n22 n23 n27 n28 n32 n33 n34 n35 n39 n52))))) (hWy : zat h 180 = some (.inl (0, 20, wy))) (hSm : zat h 198 = some (.inl (0, 8, sm))) (hFo : zat h 196 = some (.inr (.inl (6000, fo)))) (hSv : zat h 172 = some (.inl (0, 12, sv))) (hNw : zat h 188 = some (.inl (0, 6, nw))) (hTg : zat h 208 = some (.inl (0, 6000, tg))) (hH1 : zat h 206 = some (.inl (0, 6, h1))) (hT1 : zat h 220 = some (.inl (0, 6, t1))) (hRi : zat h 210 = some (.inl (0, 2, ri))) (hKn : zat h 166 = some (.inl (0, 14, kn))) (hkn : kn.getD 6 0 = nI wn ∧ wn ≤ 10) (h1w : 1 ≤ wn) (hW : ∀ i, i < wn → wy.getD i 0 = nI (wf i) ∧ wf i < 8) (hS : ∀ i, i < wn → sm.getD (wf i) 0 = nI (mf (wf i)) ∧ mf (wf i) ≤ 600) (hsv : ∀ i, i < 6 → 1 ≤ (sv.getD i 0).toInt) (kF : ∀ (h2 : zH), (wFr [208, 206, 220, 210] h h2) → (h2.length = h.length) → (zat h2 208 = some (.inl (0, 6000, ((mLtg fo wf mf sv wn 1 tg h1 t1).1)))) → (zat h2 206 = some (.inl (0, 6, ((mLtg fo wf mf sv wn 1 tg h1 t1).2.1)))) → (zat h2 220 = some (.inl (0, 6, ((mLef fo (wf 0) ((mLtg fo wf mf sv wn 1 tg h1 t1).1) sv nw 0 0 (mf (wf 0)) 1 ((mLtg fo wf mf sv wn 1 tg h1 t1).2.2)).2)))) → (zat h2 210 = some (.inl (0, 2, (zset 0 ri 1 (-2))))) → (1000000 ≤ (mLef fo (wf 0) ((mLtg fo wf mf sv wn 1 tg h1 t1).1) sv nw 0 0 (mf (wf 0)) 1 ((mLtg fo wf mf sv wn 1 tg h1 t1).2.2)).1.toInt) → Q (none, h2, dc, ds)) (kS : ∀ (h2 : zH), (wFr [208, 206, 220, 210] h h2) → (h2.length = h.length) → (zat h2 208 = some (.inl (0, 6000, ((mLtg fo wf mf sv wn 1 tg h1 t1).1)))) → (zat h2 206 = some (.inl (0, 6, ((mLtg fo wf mf sv wn 1 tg h1 t1).2.1)))) → (zat h2 220 = some (.inl (0, 6, ((mLef fo (wf 0) ((mLtg fo wf mf sv wn 1 tg h1 t1).1) sv nw 0 0 (mf (wf 0)) 1 ((mLtg fo wf mf sv wn 1 tg h1 t1).2.2)).2)))) → (zat h2 210 = some (.inl (0, 2, (zset 0 ri 1 ((mLef fo (wf 0) ((mLtg fo wf mf sv wn 1 tg h1 t1).1) sv nw 0 0 (mf (wf 0)) 1 ((mLtg fo wf mf sv wn 1 tg h1 t1).2.2)).1))))) → ((mLef fo (wf 0) ((mLtg fo wf mf sv wn 1 tg h1 t1).1) sv nw 0 0 (mf (wf 0)) 1 ((mLtg fo wf mf sv wn 1 tg h1 t1).2.2)).1.toInt < 1000000) → wq 249 234 [(0, .ref 162), (1, .int 1), (4, .int 66), (5, .int ((mLef fo (wf 0) ((mLtg fo wf mf sv wn 1 tg h1 t1).1) sv nw 0 0 (mf (wf 0)) 1 ((mLtg fo wf mf sv wn 1 tg h1 t1).2.2)).1)), (6, .int 0)] [] h2 dc ds Q) : wq 249 170 [(0, .ref 162), (1, .int 1), (4, .int 66)] [] h dc ds Q := by
  have zN : (1000000 : Int32).toInt = 1000000 := rfl
  refine wq_gos (f := 1) (pc2 := 181) (ls2 := [(0, .ref 162), (1, .int 1), (4, .int 66)]) (st2 := [.int 1, .ref 162]) (h2 := h) (dc2 := dc) (ds2 := ds) 6 rfl ?_
  have q1x : (1 : Int32).toInt = 1 := rfl
  refine wq_inlv (y2 := 247) (as := [.int 1]) rfl rfl rfl hM rfl (wq_mono (m_ltg hM hKn hWy hSm hFo hSv hTg hH1 hT1 hkn hW hS hsv) ?_)
  rintro _ ⟨h82x, rfl, f82x, l82x, c02x, c12x, c22x⟩
  show wq 249 184 [(0, .ref 162), (1, .int 1), (4, .int 66)] [] h82x dc ds _
  obtain ⟨v3x, hv4x⟩ : ∃ x, x = (mLtg fo wf mf sv wn (1 : Int32) tg h1 t1) := ⟨_, rfl⟩
  try rw [← hv4x] at c02x
  try rw [← hv4x] at c12x
  try rw [← hv4x] at c22x
  try rw [← hv4x]
  refine wq_gos (f := 1) (pc2 := 186) (ls2 := [(0, .ref 162), (1, .int 1), (4, .int 66)]) (st2 := [.ref 162, .ref 162]) (h2 := h82x) (dc2 := dc) (ds2 := ds) 2 rfl ?_
  have e5x := (f82x.2 _ _ (wnc (by decide) (wnc (by decide) (wnc (by decide) wn0))) hM)
  refine wq_getf rfl e5x rfl rfl ?_
  refine wq_gos (f := 1) (pc2 := 201) (ls2 := [(0, .ref 162), (1, .int 1), (4, .int 66)]) (st2 := [.int 1, .int 0, .int 0, .ref 188, .ref 162]) (h2 := h82x) (dc2 := dc) (ds2 := ds) 7 rfl ?_
  have e6x := (f82x.2 _ _ (wnc (by decide) (wnc (by decide) (wnc (by decide) wn0))) hWy)
  have e7x := (f82x.2 _ _ (wnc (by decide) (wnc (by decide) (wnc (by decide) wn0))) hSm)
  have e8x := (f82x.2 _ _ (wnc (by decide) (wnc (by decide) (wnc (by decide) wn0))) hFo)
  have e9x := (f82x.2 _ _ (wnc (by decide) (wnc (by decide) (wnc (by decide) wn0))) hSv)
  have e10x := (f82x.2 _ _ (wnc (by decide) (wnc (by decide) (wnc (by decide) wn0))) hNw)
  have q11x : (0 : Int32).toInt = 0 := rfl
  refine wq_inlv (y2 := 246) (as := [.ref 188, .int 0, .int 0, .int 1]) rfl rfl rfl e5x rfl (wq_mono (m_lef (k := 0) (i := 0) e5x e6x e7x c02x e8x e9x e10x c22x (by decide) (hW 0 h1w) (hS 0 h1w) (by decide) (by decide) hsv) ?_)
  rintro _ ⟨h812x, rfl, f812x, l812x, c012x⟩
  show wq 249 204 [(0, .ref 162), (1, .int 1), (4, .int 66)] [.int ((mLef fo (wf 0) (v3x.1) sv nw 0 0 (mf (wf 0)) (1 : Int32) (v3x.2.2)).1)] h812x dc ds _
  obtain ⟨v13x, hv14x⟩ : ∃ x, x = (mLef fo (wf 0) (v3x.1) sv nw 0 0 (mf (wf 0)) (1 : Int32) (v3x.2.2)) := ⟨_, rfl⟩
  try rw [← hv14x] at c012x
  try rw [← hv14x]
  refine wq_gos (f := 1) (pc2 := 211) (ls2 := [(5, .int (v13x.1)), (0, .ref 162), (1, .int 1), (4, .int 66)]) (st2 := [.int 1000000, .int (v13x.1)]) (h2 := h812x) (dc2 := dc) (ds2 := ds) 3 rfl ?_
  have q15x : (1000000 : Int32).toInt = 1000000 := rfl
  refine wq_lt2 rfl rfl (fun b16x => ?_) (fun b16x => ?_)
  · refine wq_gos (f := 1) (pc2 := 224) (ls2 := [(5, .int (v13x.1)), (0, .ref 162), (1, .int 1), (4, .int 66)]) (st2 := [.ref 162]) (h2 := h812x) (dc2 := dc) (ds2 := ds) 1 rfl ?_
    have e17x := (f812x.2 _ _ (wnc (by decide) wn0) e5x)
    refine wq_getf rfl e17x rfl rfl ?_
    refine wq_gos (f := 1) (pc2 := 230) (ls2 := [(5, .int (v13x.1)), (0, .ref 162), (1, .int 1), (4, .int 66)]) (st2 := [.int (v13x.1), .int 1, .ref 210]) (h2 := h812x) (dc2 := dc) (ds2 := ds) 2 rfl ?_
    have e18x := (f812x.2 _ _ (wnc (by decide) wn0) (f82x.2 _ _ (wnc (by decide) (wnc (by decide) (wnc (by decide) wn0))) hRi))
    refine wq_iast rfl e18x rfl rfl ?_
    intro hh19x e20x ff21x lh22x
    have e20x : zat hh19x 210 = some (.inl (0, 2, (zset 0 ri 1 (v13x.1)))) := e20x
    refine wq_gos (f := 1) (pc2 := 234) (ls2 := [(6, .int 0), (5, .int (v13x.1)), (0, .ref 162), (1, .int 1), (4, .int 66)]) (st2 := []) (h2 := hh19x) (dc2 := dc) (ds2 := ds) 2 rfl ?_
    have e23x := (ff21x.2 _ _ (wnc (by decide) wn0) (f812x.2 _ _ (wnc (by decide) wn0) c02x))
    have e24x := (ff21x.2 _ _ (wnc (by decide) wn0) (f812x.2 _ _ (wnc (by decide) wn0) c12x))
    have e25x := (ff21x.2 _ _ (wnc (by decide) wn0) c012x)
    subst hv4x
    subst hv14x
    refine wq_ls [(0, .ref 162), (1, .int 1), (4, .int 66), (5, .int ((mLef fo (wf 0) ((mLtg fo wf mf sv wn (1 : Int32) tg h1 t1).1) sv nw 0 0 (mf (wf 0)) (1 : Int32) ((mLtg fo wf mf sv wn (1 : Int32) tg h1 t1).2.2)).1)), (6, .int 0)] (show ([0, 1, 4, 5, 6] : List Nat).Nodup by decide) ⟨rfl, rfl, rfl, rfl, rfl, trivial⟩ ?_
    exact kS hh19x (wFr_tr (wFr_sub f82x (by simp)) (wFr_tr (wFr_sub f812x (by simp)) (wFr_sub ff21x (by simp)))) (by omega) e23x e24x e25x e20x (by first | assumption | omega | decide | solve_by_elim)
  · refine wq_gos (f := 1) (pc2 := 215) (ls2 := [(5, .int (v13x.1)), (0, .ref 162), (1, .int 1), (4, .int 66)]) (st2 := [.ref 162]) (h2 := h812x) (dc2 := dc) (ds2 := ds) 1 rfl ?_
    have e26x := (f812x.2 _ _ (wnc (by decide) wn0) e5x)
    refine wq_getf rfl e26x rfl rfl ?_
    refine wq_gos (f := 1) (pc2 := 221) (ls2 := [(5, .int (v13x.1)), (0, .ref 162), (1, .int 1), (4, .int 66)]) (st2 := [.int (-2), .int 1, .ref 210]) (h2 := h812x) (dc2 := dc) (ds2 := ds) 2 rfl ?_
    have e27x := (f812x.2 _ _ (wnc (by decide) wn0) (f82x.2 _ _ (wnc (by decide) (wnc (by decide) (wnc (by decide) wn0))) hRi))
    refine wq_iast rfl e27x rfl rfl ?_
    intro hh28x e29x ff30x lh31x
    have e29x : zat hh28x 210 = some (.inl (0, 2, (zset 0 ri 1 (-2 : Int32)))) := e29x
    have e32x := (ff30x.2 _ _ (wnc (by decide) wn0) (f812x.2 _ _ (wnc (by decide) wn0) c02x))
    have e33x := (ff30x.2 _ _ (wnc (by decide) wn0) (f812x.2 _ _ (wnc (by decide) wn0) c12x))
    have e34x := (ff30x.2 _ _ (wnc (by decide) wn0) c012x)
    subst hv4x
    subst hv14x
    exact wq_ret rfl rfl (kF hh28x (wFr_tr (wFr_sub f82x (by simp)) (wFr_tr (wFr_sub f812x (by simp)) (wFr_sub ff30x (by simp)))) (by omega) e32x e33x e34x e29x (by first | assumption | omega | decide | solve_by_elim))
set_option maxRecDepth 100000 in
set_option maxHeartbeats 4000000 in
theorem m_lrE1 {h : zH} {Q : zR → Prop} {dc ds : Nat} {n0 n2 n14 n15 n16 n17 n18 n19 n20 n21 n22 n23 n27 n28 n32 n33 n34 n35 n39 n52 : Int32} {kn wy sv tg t1 pa ch co : List Int32} {fo : List Int64} {wn w i n9 : Nat} {le : Int32} (hM : zat h 162 = some (.inr (.inr (.inr (10, mO n0 n2 n14 n15 n16 n17 n18 n19 n20 n21 n22 n23 n27 n28 n32 n33 n34 n35 n39 n52))))) (hWy : zat h 180 = some (.inl (0, 20, wy))) (hFo : zat h 196 = some (.inr (.inl (6000, fo)))) (hSv : zat h 172 = some (.inl (0, 12, sv))) (hTg : zat h 208 = some (.inl (0, 6000, tg))) (hT1 : zat h 220 = some (.inl (0, 6, t1))) (hPa : zat h 214 = some (.inl (0, 132, pa))) (hCh : zat h 216 = some (.inl (0, 20, ch))) (hCo : zat h 218 = some (.inl (0, 22, co))) (hKn : zat h 166 = some (.inl (0, 14, kn))) (hkn : kn.getD 6 0 = nI wn ∧ wn ≤ 10) (hi : i < wn) (hw : wy.getD i 0 = nI w ∧ w < 8) (hsv : ∀ i, i < 6 → 1 ≤ (sv.getD i 0).toInt) (h9 : n9 < 600) (hhit : fHit fo w tg sv pa i (66 + (6 * i)) 1 le n9) (kE : ∀ (h2 : zH) (t2 : List Int32), (wFr [214, 216, 218, 220] h h2) → (h2.length = h.length) → (zat h2 220 = some (.inl (0, 6, t2))) → (zat h2 214 = some (.inl (0, 132, (mLsS fo w (mFbN fo w tg sv pa i (66 + (6 * i)) 1 le t1) (66 + (6 * (i + 1))) pa)))) → (zat h2 216 = some (.inl (0, 20, (zset 0 ch (10 + i) (nI (mFbN fo w tg sv pa i (66 + (6 * i)) 1 le t1)))))) → (zat h2 218 = some (.inl (0, 22, (zset 0 co ((11 + i) + 1) ((co.getD (11 + i) 0) + (mtkF sv (mLsS fo w (mFbN fo w tg sv pa i (66 + (6 * i)) 1 le t1) (66 + (6 * (i + 1))) pa) (66 + (6 * i)) (mLsS fo w (mFbN fo w tg sv pa i (66 + (6 * i)) 1 le t1) (66 + (6 * (i + 1))) pa) (66 + (6 * (i + 1))) (6 - 0 + 1) 0 0)))))) → ((mFbN fo w tg sv pa i (66 + (6 * i)) 1 le t1) ≤ n9) → ((tg.getD (600 * i + (mFbN fo w tg sv pa i (66 + (6 * i)) 1 le t1)) 0).toInt < 1000000) → wq 249 234 [(0, .ref 162), (1, .int 1), (4, .int 66), (5, .int (tg.getD ((600 * i) + (mFbN fo w tg sv pa i (66 + (6 * i)) 1 le t1)) 0)), (6, .int (nI (i + 1)))] [] h2 dc ds Q) : wq 249 234 [(0, .ref 162), (1, .int 1), (4, .int 66), (5, .int le), (6, .int (nI i))] [] h dc ds Q := by
  have qni := nI_toInt (n := i) (by omega)
  have qnwn := nI_toInt (n := wn) (by omega)
  have z0 : (0 : Int32).toInt = 0 := rfl
  have z1 : (1 : Int32).toInt = 1 := rfl
  have z5 : (5 : Int32).toInt = 5 := rfl
  have z6 : (6 : Int32).toInt = 6 := rfl
  have zm1 : (-1 : Int32).toInt = -1 := rfl
  have z3 : (3 : Int32).toInt = 3 := rfl
  have z2 : (2 : Int32).toInt = 2 := rfl
  have z20 : (20 : Int32).toInt = 20 := rfl
  have zN : (1000000 : Int32).toInt = 1000000 := rfl
  refine wq_gos (f := 1) (pc2 := 237) (ls2 := [(0, .ref 162), (1, .int 1), (4, .int 66), (5, .int le), (6, .int (nI i))]) (st2 := [.ref 162, .int (nI i)]) (h2 := h) (dc2 := dc) (ds2 := ds) 2 rfl ?_
  refine wq_inlv (y2 := 244) (as := []) rfl rfl rfl hM rfl ?_
  show wq 244 0 [(0, .ref 162)] [] h 0 0 _
  refine wq_gos (f := 1) (pc2 := 1) (ls2 := [(0, .ref 162)]) (st2 := [.ref 162]) (h2 := h) (dc2 := 0) (ds2 := 0) 1 rfl ?_
  refine wq_getf rfl hM rfl rfl ?_
  refine wq_gos (f := 1) (pc2 := 6) (ls2 := [(0, .ref 162)]) (st2 := [.int 6, .ref 166]) (h2 := h) (dc2 := 0) (ds2 := 0) 1 rfl ?_
  have q1x : (6 : Int32).toInt = 6 := rfl
  refine wq_iald rfl hKn rfl rfl ?_
  refine wq_vi hkn.1 ?_
  refine wq_ret rfl rfl ?_
  show wq 249 240 [(0, .ref 162), (1, .int 1), (4, .int 66), (5, .int le), (6, .int (nI i))] [.int (nI wn), .int (nI i)] h dc ds _
  try have q2x := nI_toInt (n := i) (by omega)
  try have q3x := nI_toInt (n := wn) (by omega)
  refine wq_ge2f rfl rfl (by omega) ?_
  refine wq_gos (f := 1) (pc2 := 245) (ls2 := [(0, .ref 162), (1, .int 1), (4, .int 66), (5, .int le), (6, .int (nI i))]) (st2 := [.ref 162, .ref 162]) (h2 := h) (dc2 := dc) (ds2 := ds) 2 rfl ?_
  refine wq_getf rfl hM rfl rfl ?_
  refine wq_gos (f := 1) (pc2 := 255) (ls2 := [(0, .ref 162), (1, .int 1), (4, .int 66), (5, .int le), (6, .int (nI i))]) (st2 := [.int ((6 : Int32) * (nI i)), .int 66, .ref 214, .ref 162]) (h2 := h) (dc2 := dc) (ds2 := ds) 4 rfl ?_
  refine wq_vi (show (6 : Int32) * (nI i) = nI (6 * i) from e_nmul 6 i) ?_
  refine wq_gos (f := 1) (pc2 := 256) (ls2 := [(0, .ref 162), (1, .int 1), (4, .int 66), (5, .int le), (6, .int (nI i))]) (st2 := [.int ((66 : Int32) + (nI (6 * i))), .ref 214, .ref 162]) (h2 := h) (dc2 := dc) (ds2 := ds) 1 rfl ?_
  refine wq_vi (show (66 : Int32) + (nI (6 * i)) = nI (66 + (6 * i)) from nI_add 66 (6 * i)) ?_
  refine wq_gos (f := 1) (pc2 := 270) (ls2 := [(0, .ref 162), (1, .int 1), (4, .int 66), (5, .int le), (6, .int (nI i))]) (st2 := [.int le, .int 1, .int (nI i), .int (nI (66 + (6 * i))), .ref 214, .ref 162]) (h2 := h) (dc2 := dc) (ds2 := ds) 7 rfl ?_
  try have q4x := nI_toInt (n := (66 + (6 * i))) (by omega)
  have q5x : (1 : Int32).toInt = 1 := rfl
  refine wq_inlv (y2 := 248) (as := [.ref 214, .int (nI (66 + (6 * i))), .int (nI i), .int 1, .int le]) rfl rfl rfl hM rfl (wq_mono (m_fb hM hWy hTg hFo hSv hPa hT1 (by omega) hw (by omega) (by decide) hsv h9 hhit) ?_)
  rintro _ ⟨h86x, rfl, f86x, l86x, c06x, p06x, p16x⟩
  show wq 249 273 [(0, .ref 162), (1, .int 1), (4, .int 66), (5, .int le), (6, .int (nI i))] [.int (nI (mFbN fo w tg sv pa i (66 + (6 * i)) (1 : Int32) le t1))] h86x dc ds _
  refine wq_gos (f := 1) (pc2 := 276) (ls2 := [(7, .int (nI (mFbN fo w tg sv pa i (66 + (6 * i)) (1 : Int32) le t1))), (0, .ref 162), (1, .int 1), (4, .int 66), (5, .int le), (6, .int (nI i))]) (st2 := [.ref 162]) (h2 := h86x) (dc2 := dc) (ds2 := ds) 2 rfl ?_
  have e7x := (f86x.2 _ _ (wnc (by decide) wn0) hM)
  refine wq_getf rfl e7x rfl rfl ?_
  refine wq_gos (f := 1) (pc2 := 286) (ls2 := [(7, .int (nI (mFbN fo w tg sv pa i (66 + (6 * i)) (1 : Int32) le t1))), (0, .ref 162), (1, .int 1), (4, .int 66), (5, .int le), (6, .int (nI i))]) (st2 := [.int ((10 : Int32) + (nI i)), .ref 216]) (h2 := h86x) (dc2 := dc) (ds2 := ds) 5 rfl ?_
  refine wq_vi (show (10 : Int32) + (nI i) = nI (10 + i) from nI_add 10 i) ?_
  refine wq_gos (f := 1) (pc2 := 288) (ls2 := [(7, .int (nI (mFbN fo w tg sv pa i (66 + (6 * i)) (1 : Int32) le t1))), (0, .ref 162), (1, .int 1), (4, .int 66), (5, .int le), (6, .int (nI i))]) (st2 := [.int (nI (mFbN fo w tg sv pa i (66 + (6 * i)) (1 : Int32) le t1)), .int (nI (10 + i)), .ref 216]) (h2 := h86x) (dc2 := dc) (ds2 := ds) 1 rfl ?_
  have e8x := (f86x.2 _ _ (wnc (by decide) wn0) hCh)
  try have q9x := nI_toInt (n := (10 + i)) (by omega)
  refine wq_iastn rfl e8x (by first | omega | exact zin_t (by omega) (by omega)) (by decide) rfl ?_
  intro hh10x e11x ff12x lh13x
  have e11x : zat hh10x 216 = some (.inl (0, 20, (zset 0 ch (10 + i) (nI (mFbN fo w tg sv pa i (66 + (6 * i)) (1 : Int32) le t1))))) := e11x
  refine wq_gos (f := 1) (pc2 := 295) (ls2 := [(7, .int (nI (mFbN fo w tg sv pa i (66 + (6 * i)) (1 : Int32) le t1))), (0, .ref 162), (1, .int 1), (4, .int 66), (5, .int le), (6, .int (nI i))]) (st2 := [.ref 162, .int (nI (mFbN fo w tg sv pa i (66 + (6 * i)) (1 : Int32) le t1)), .int (nI i), .ref 162]) (h2 := hh10x) (dc2 := dc) (ds2 := ds) 4 rfl ?_
  have e14x := (ff12x.2 _ _ (wnc (by decide) wn0) e7x)
  refine wq_getf rfl e14x rfl rfl ?_
  refine wq_gos (f := 1) (pc2 := 306) (ls2 := [(7, .int (nI (mFbN fo w tg sv pa i (66 + (6 * i)) (1 : Int32) le t1))), (0, .ref 162), (1, .int 1), (4, .int 66), (5, .int le), (6, .int (nI i))]) (st2 := [.int ((nI i) + (1 : Int32)), .int 6, .int 66, .ref 214, .int (nI (mFbN fo w tg sv pa i (66 + (6 * i)) (1 : Int32) le t1)), .int (nI i), .ref 162]) (h2 := hh10x) (dc2 := dc) (ds2 := ds) 5 rfl ?_
  refine wq_vi (show (nI i) + (1 : Int32) = nI (i + 1) from nI_add i 1) ?_
  refine wq_gos (f := 1) (pc2 := 307) (ls2 := [(7, .int (nI (mFbN fo w tg sv pa i (66 + (6 * i)) (1 : Int32) le t1))), (0, .ref 162), (1, .int 1), (4, .int 66), (5, .int le), (6, .int (nI i))]) (st2 := [.int ((6 : Int32) * (nI (i + 1))), .int 66, .ref 214, .int (nI (mFbN fo w tg sv pa i (66 + (6 * i)) (1 : Int32) le t1)), .int (nI i), .ref 162]) (h2 := hh10x) (dc2 := dc) (ds2 := ds) 1 rfl ?_
  refine wq_vi (show (6 : Int32) * (nI (i + 1)) = nI (6 * (i + 1)) from e_nmul 6 (i + 1)) ?_
  refine wq_gos (f := 1) (pc2 := 308) (ls2 := [(7, .int (nI (mFbN fo w tg sv pa i (66 + (6 * i)) (1 : Int32) le t1))), (0, .ref 162), (1, .int 1), (4, .int 66), (5, .int le), (6, .int (nI i))]) (st2 := [.int ((66 : Int32) + (nI (6 * (i + 1)))), .ref 214, .int (nI (mFbN fo w tg sv pa i (66 + (6 * i)) (1 : Int32) le t1)), .int (nI i), .ref 162]) (h2 := hh10x) (dc2 := dc) (ds2 := ds) 1 rfl ?_
  refine wq_vi (show (66 : Int32) + (nI (6 * (i + 1))) = nI (66 + (6 * (i + 1))) from nI_add 66 (6 * (i + 1))) ?_
  have e15x := (ff12x.2 _ _ (wnc (by decide) wn0) (f86x.2 _ _ (wnc (by decide) wn0) hWy))
  have e16x := (ff12x.2 _ _ (wnc (by decide) wn0) (f86x.2 _ _ (wnc (by decide) wn0) hFo))
  have e17x := (ff12x.2 _ _ (wnc (by decide) wn0) (f86x.2 _ _ (wnc (by decide) wn0) hPa))
  try have q18x := nI_toInt (n := (mFbN fo w tg sv pa i (66 + (6 * i)) (1 : Int32) le t1)) (by omega)
  try have q19x := nI_toInt (n := (66 + (6 * (i + 1)))) (by omega)
  refine wq_inlv (y2 := 245) (as := [.int (nI i), .int (nI (mFbN fo w tg sv pa i (66 + (6 * i)) (1 : Int32) le t1)), .ref 214, .int (nI (66 + (6 * (i + 1))))]) rfl rfl rfl e14x rfl (wq_mono (m_lsS e14x e15x e16x e17x (by omega) hw (by first | assumption | omega | decide | solve_by_elim) (by omega) (by decide)) ?_)
  rintro _ ⟨h820x, rfl, f820x, l820x, c020x⟩
  show wq 249 311 [(7, .int (nI (mFbN fo w tg sv pa i (66 + (6 * i)) (1 : Int32) le t1))), (0, .ref 162), (1, .int 1), (4, .int 66), (5, .int le), (6, .int (nI i))] [] h820x dc ds _
  obtain ⟨v21x, hv22x⟩ : ∃ x, x = (mLsS fo w (mFbN fo w tg sv pa i (66 + (6 * i)) (1 : Int32) le t1) (66 + (6 * (i + 1))) pa) := ⟨_, rfl⟩
  try rw [← hv22x] at c020x
  try rw [← hv22x]
  refine wq_gos (f := 1) (pc2 := 312) (ls2 := [(7, .int (nI (mFbN fo w tg sv pa i (66 + (6 * i)) (1 : Int32) le t1))), (0, .ref 162), (1, .int 1), (4, .int 66), (5, .int le), (6, .int (nI i))]) (st2 := [.ref 162]) (h2 := h820x) (dc2 := dc) (ds2 := ds) 1 rfl ?_
  have e23x := (f820x.2 _ _ (wnc (by decide) wn0) e14x)
  refine wq_getf rfl e23x rfl rfl ?_
  refine wq_gos (f := 1) (pc2 := 322) (ls2 := [(7, .int (nI (mFbN fo w tg sv pa i (66 + (6 * i)) (1 : Int32) le t1))), (0, .ref 162), (1, .int 1), (4, .int 66), (5, .int le), (6, .int (nI i))]) (st2 := [.int ((11 : Int32) + (nI i)), .ref 218]) (h2 := h820x) (dc2 := dc) (ds2 := ds) 5 rfl ?_
  refine wq_vi (show (11 : Int32) + (nI i) = nI (11 + i) from nI_add 11 i) ?_
  refine wq_gos (f := 1) (pc2 := 324) (ls2 := [(7, .int (nI (mFbN fo w tg sv pa i (66 + (6 * i)) (1 : Int32) le t1))), (0, .ref 162), (1, .int 1), (4, .int 66), (5, .int le), (6, .int (nI i))]) (st2 := [.int ((nI (11 + i)) + (1 : Int32)), .ref 218]) (h2 := h820x) (dc2 := dc) (ds2 := ds) 2 rfl ?_
  refine wq_vi (show (nI (11 + i)) + (1 : Int32) = nI ((11 + i) + 1) from nI_add (11 + i) 1) ?_
  refine wq_gos (f := 1) (pc2 := 325) (ls2 := [(7, .int (nI (mFbN fo w tg sv pa i (66 + (6 * i)) (1 : Int32) le t1))), (0, .ref 162), (1, .int 1), (4, .int 66), (5, .int le), (6, .int (nI i))]) (st2 := [.ref 162, .int (nI ((11 + i) + 1)), .ref 218]) (h2 := h820x) (dc2 := dc) (ds2 := ds) 1 rfl ?_
  refine wq_getf rfl e23x rfl rfl ?_
  refine wq_gos (f := 1) (pc2 := 335) (ls2 := [(7, .int (nI (mFbN fo w tg sv pa i (66 + (6 * i)) (1 : Int32) le t1))), (0, .ref 162), (1, .int 1), (4, .int 66), (5, .int le), (6, .int (nI i))]) (st2 := [.int ((11 : Int32) + (nI i)), .ref 218, .int (nI ((11 + i) + 1)), .ref 218]) (h2 := h820x) (dc2 := dc) (ds2 := ds) 5 rfl ?_
  refine wq_vi (show (11 : Int32) + (nI i) = nI (11 + i) from nI_add 11 i) ?_
  have e24x := (f820x.2 _ _ (wnc (by decide) wn0) (ff12x.2 _ _ (wnc (by decide) wn0) (f86x.2 _ _ (wnc (by decide) wn0) hCo)))
  try have q25x := nI_toInt (n := (11 + i)) (by omega)
  refine wq_ialdn rfl e24x (by first | omega | exact zin_t (by omega) (by omega)) (by decide) rfl ?_
  refine wq_gos (f := 1) (pc2 := 338) (ls2 := [(7, .int (nI (mFbN fo w tg sv pa i (66 + (6 * i)) (1 : Int32) le t1))), (0, .ref 162), (1, .int 1), (4, .int 66), (5, .int le), (6, .int (nI i))]) (st2 := [.ref 162, .ref 162, .int (co.getD (11 + i) 0), .int (nI ((11 + i) + 1)), .ref 218]) (h2 := h820x) (dc2 := dc) (ds2 := ds) 2 rfl ?_
  refine wq_getf rfl e23x rfl rfl ?_
  refine wq_gos (f := 1) (pc2 := 348) (ls2 := [(7, .int (nI (mFbN fo w tg sv pa i (66 + (6 * i)) (1 : Int32) le t1))), (0, .ref 162), (1, .int 1), (4, .int 66), (5, .int le), (6, .int (nI i))]) (st2 := [.int ((6 : Int32) * (nI i)), .int 66, .ref 214, .ref 162, .int (co.getD (11 + i) 0), .int (nI ((11 + i) + 1)), .ref 218]) (h2 := h820x) (dc2 := dc) (ds2 := ds) 4 rfl ?_
  refine wq_vi (show (6 : Int32) * (nI i) = nI (6 * i) from e_nmul 6 i) ?_
  refine wq_gos (f := 1) (pc2 := 349) (ls2 := [(7, .int (nI (mFbN fo w tg sv pa i (66 + (6 * i)) (1 : Int32) le t1))), (0, .ref 162), (1, .int 1), (4, .int 66), (5, .int le), (6, .int (nI i))]) (st2 := [.int ((66 : Int32) + (nI (6 * i))), .ref 214, .ref 162, .int (co.getD (11 + i) 0), .int (nI ((11 + i) + 1)), .ref 218]) (h2 := h820x) (dc2 := dc) (ds2 := ds) 1 rfl ?_
  refine wq_vi (show (66 : Int32) + (nI (6 * i)) = nI (66 + (6 * i)) from nI_add 66 (6 * i)) ?_
  refine wq_gos (f := 1) (pc2 := 350) (ls2 := [(7, .int (nI (mFbN fo w tg sv pa i (66 + (6 * i)) (1 : Int32) le t1))), (0, .ref 162), (1, .int 1), (4, .int 66), (5, .int le), (6, .int (nI i))]) (st2 := [.ref 162, .int (nI (66 + (6 * i))), .ref 214, .ref 162, .int (co.getD (11 + i) 0), .int (nI ((11 + i) + 1)), .ref 218]) (h2 := h820x) (dc2 := dc) (ds2 := ds) 1 rfl ?_
  refine wq_getf rfl e23x rfl rfl ?_
  refine wq_gos (f := 1) (pc2 := 361) (ls2 := [(7, .int (nI (mFbN fo w tg sv pa i (66 + (6 * i)) (1 : Int32) le t1))), (0, .ref 162), (1, .int 1), (4, .int 66), (5, .int le), (6, .int (nI i))]) (st2 := [.int ((nI i) + (1 : Int32)), .int 6, .int 66, .ref 214, .int (nI (66 + (6 * i))), .ref 214, .ref 162, .int (co.getD (11 + i) 0), .int (nI ((11 + i) + 1)), .ref 218]) (h2 := h820x) (dc2 := dc) (ds2 := ds) 5 rfl ?_
  refine wq_vi (show (nI i) + (1 : Int32) = nI (i + 1) from nI_add i 1) ?_
  refine wq_gos (f := 1) (pc2 := 362) (ls2 := [(7, .int (nI (mFbN fo w tg sv pa i (66 + (6 * i)) (1 : Int32) le t1))), (0, .ref 162), (1, .int 1), (4, .int 66), (5, .int le), (6, .int (nI i))]) (st2 := [.int ((6 : Int32) * (nI (i + 1))), .int 66, .ref 214, .int (nI (66 + (6 * i))), .ref 214, .ref 162, .int (co.getD (11 + i) 0), .int (nI ((11 + i) + 1)), .ref 218]) (h2 := h820x) (dc2 := dc) (ds2 := ds) 1 rfl ?_
  refine wq_vi (show (6 : Int32) * (nI (i + 1)) = nI (6 * (i + 1)) from e_nmul 6 (i + 1)) ?_
  refine wq_gos (f := 1) (pc2 := 363) (ls2 := [(7, .int (nI (mFbN fo w tg sv pa i (66 + (6 * i)) (1 : Int32) le t1))), (0, .ref 162), (1, .int 1), (4, .int 66), (5, .int le), (6, .int (nI i))]) (st2 := [.int ((66 : Int32) + (nI (6 * (i + 1)))), .ref 214, .int (nI (66 + (6 * i))), .ref 214, .ref 162, .int (co.getD (11 + i) 0), .int (nI ((11 + i) + 1)), .ref 218]) (h2 := h820x) (dc2 := dc) (ds2 := ds) 1 rfl ?_
  refine wq_vi (show (66 : Int32) + (nI (6 * (i + 1))) = nI (66 + (6 * (i + 1))) from nI_add 66 (6 * (i + 1))) ?_
  have e26x := (f820x.2 _ _ (wnc (by decide) wn0) (ff12x.2 _ _ (wnc (by decide) wn0) (f86x.2 _ _ (wnc (by decide) wn0) hSv)))
  refine wq_inlv (y2 := 233) (as := [.ref 214, .int (nI (66 + (6 * i))), .ref 214, .int (nI (66 + (6 * (i + 1))))]) rfl rfl rfl e23x rfl (wq_mono (m_tks e23x e26x c020x c020x (by omega) (by omega) hsv) ?_)
  rintro _ rfl
  show wq 249 366 [(7, .int (nI (mFbN fo w tg sv pa i (66 + (6 * i)) (1 : Int32) le t1))), (0, .ref 162), (1, .int 1), (4, .int 66), (5, .int le), (6, .int (nI i))] [.int (mtkF sv (v21x) (66 + (6 * i)) (v21x) (66 + (6 * (i + 1))) (6 - 0 + 1) 0 0), .int (co.getD (11 + i) 0), .int (nI ((11 + i) + 1)), .ref 218] h820x dc ds _
  refine wq_gos (f := 1) (pc2 := 367) (ls2 := [(7, .int (nI (mFbN fo w tg sv pa i (66 + (6 * i)) (1 : Int32) le t1))), (0, .ref 162), (1, .int 1), (4, .int 66), (5, .int le), (6, .int (nI i))]) (st2 := [.int ((co.getD (11 + i) 0) + (mtkF sv (v21x) (66 + (6 * i)) (v21x) (66 + (6 * (i + 1))) (6 - 0 + 1) 0 0)), .int (nI ((11 + i) + 1)), .ref 218]) (h2 := h820x) (dc2 := dc) (ds2 := ds) 1 rfl ?_
  try have q28x := nI_toInt (n := ((11 + i) + 1)) (by omega)
  refine wq_iastn rfl e24x (by first | omega | exact zin_t (by omega) (by omega)) (by decide) rfl ?_
  intro hh29x e30x ff31x lh32x
  have e30x : zat hh29x 218 = some (.inl (0, 22, (zset 0 co ((11 + i) + 1) ((co.getD (11 + i) 0) + (mtkF sv (v21x) (66 + (6 * i)) (v21x) (66 + (6 * (i + 1))) (6 - 0 + 1) 0 0))))) := e30x
  refine wq_gos (f := 1) (pc2 := 369) (ls2 := [(7, .int (nI (mFbN fo w tg sv pa i (66 + (6 * i)) (1 : Int32) le t1))), (0, .ref 162), (1, .int 1), (4, .int 66), (5, .int le), (6, .int (nI i))]) (st2 := [.ref 162]) (h2 := hh29x) (dc2 := dc) (ds2 := ds) 1 rfl ?_
  have e33x := (ff31x.2 _ _ (wnc (by decide) wn0) e23x)
  refine wq_getf rfl e33x rfl rfl ?_
  refine wq_gos (f := 1) (pc2 := 378) (ls2 := [(7, .int (nI (mFbN fo w tg sv pa i (66 + (6 * i)) (1 : Int32) le t1))), (0, .ref 162), (1, .int 1), (4, .int 66), (5, .int le), (6, .int (nI i))]) (st2 := [.int ((600 : Int32) * (nI i)), .ref 208]) (h2 := hh29x) (dc2 := dc) (ds2 := ds) 3 rfl ?_
  refine wq_vi (show (600 : Int32) * (nI i) = nI (600 * i) from e_nmul 600 i) ?_
  refine wq_gos (f := 1) (pc2 := 381) (ls2 := [(7, .int (nI (mFbN fo w tg sv pa i (66 + (6 * i)) (1 : Int32) le t1))), (0, .ref 162), (1, .int 1), (4, .int 66), (5, .int le), (6, .int (nI i))]) (st2 := [.int ((nI (600 * i)) + (nI (mFbN fo w tg sv pa i (66 + (6 * i)) (1 : Int32) le t1))), .ref 208]) (h2 := hh29x) (dc2 := dc) (ds2 := ds) 2 rfl ?_
  refine wq_vi (show (nI (600 * i)) + (nI (mFbN fo w tg sv pa i (66 + (6 * i)) (1 : Int32) le t1)) = nI ((600 * i) + (mFbN fo w tg sv pa i (66 + (6 * i)) (1 : Int32) le t1)) from nI_add (600 * i) (mFbN fo w tg sv pa i (66 + (6 * i)) (1 : Int32) le t1)) ?_
  have e34x := (ff31x.2 _ _ (wnc (by decide) wn0) (f820x.2 _ _ (wnc (by decide) wn0) (ff12x.2 _ _ (wnc (by decide) wn0) (f86x.2 _ _ (wnc (by decide) wn0) hTg))))
  try have q35x := nI_toInt (n := ((600 * i) + (mFbN fo w tg sv pa i (66 + (6 * i)) (1 : Int32) le t1))) (by omega)
  refine wq_ialdn rfl e34x (by first | omega | exact zin_t (by omega) (by omega)) (by decide) rfl ?_
  refine wq_gos (f := 1) (pc2 := 387) (ls2 := [(6, .int ((nI i) + 1)), (5, .int (tg.getD ((600 * i) + (mFbN fo w tg sv pa i (66 + (6 * i)) (1 : Int32) le t1)) 0)), (7, .int (nI (mFbN fo w tg sv pa i (66 + (6 * i)) (1 : Int32) le t1))), (0, .ref 162), (1, .int 1), (4, .int 66)]) (st2 := []) (h2 := hh29x) (dc2 := dc) (ds2 := ds) 2 rfl ?_
  rw [nI_1]
  refine wq_gos (f := 1) (pc2 := 234) (ls2 := [(6, .int (nI (i + 1))), (5, .int (tg.getD ((600 * i) + (mFbN fo w tg sv pa i (66 + (6 * i)) (1 : Int32) le t1)) 0)), (7, .int (nI (mFbN fo w tg sv pa i (66 + (6 * i)) (1 : Int32) le t1))), (0, .ref 162), (1, .int 1), (4, .int 66)]) (st2 := []) (h2 := hh29x) (dc2 := dc) (ds2 := ds) 1 rfl ?_
  have e36x := (ff31x.2 _ _ (wnc (by decide) wn0) (f820x.2 _ _ (wnc (by decide) wn0) (ff12x.2 _ _ (wnc (by decide) wn0) c06x)))
  have e37x := (ff31x.2 _ _ (wnc (by decide) wn0) c020x)
  have e38x := (ff31x.2 _ _ (wnc (by decide) wn0) (f820x.2 _ _ (wnc (by decide) wn0) e11x))
  subst hv22x
  refine wq_ls [(0, .ref 162), (1, .int 1), (4, .int 66), (5, .int (tg.getD ((600 * i) + (mFbN fo w tg sv pa i (66 + (6 * i)) (1 : Int32) le t1)) 0)), (6, .int (nI (i + 1)))] (show ([0, 1, 4, 5, 6] : List Nat).Nodup by decide) ⟨rfl, rfl, rfl, rfl, rfl, trivial⟩ ?_
  exact kE hh29x ((mfbF fo w tg sv pa i (66 + (6 * i)) (1 : Int32) le (600 - 0 + 1) 0 t1).2) (wFr_tr (wFr_sub f86x (by simp)) (wFr_tr (wFr_sub ff12x (by simp)) (wFr_tr (wFr_sub f820x (by simp)) (wFr_sub ff31x (by simp))))) (by omega) e36x e37x e38x e30x (by first | assumption | omega | decide | solve_by_elim) (by first | assumption | omega | decide | solve_by_elim)
set_option maxRecDepth 100000 in
set_option maxHeartbeats 4000000 in
theorem m_lrF1 {h : zH} {Q : zR → Prop} {dc ds : Nat} {n0 n2 n14 n15 n16 n17 n18 n19 n20 n21 n22 n23 n27 n28 n32 n33 n34 n35 n39 n52 : Int32} {kn : List Int32} {wn i : Nat} {le : Int32} (hM : zat h 162 = some (.inr (.inr (.inr (10, mO n0 n2 n14 n15 n16 n17 n18 n19 n20 n21 n22 n23 n27 n28 n32 n33 n34 n35 n39 n52))))) (hKn : zat h 166 = some (.inl (0, 14, kn))) (hkn : kn.getD 6 0 = nI wn ∧ wn ≤ 10) (hi : wn ≤ i ∧ i ≤ 10) (kE : Q (none, h, dc, ds)) : wq 249 234 [(0, .ref 162), (1, .int 1), (4, .int 66), (5, .int le), (6, .int (nI i))] [] h dc ds Q := by
  have qni := nI_toInt (n := i) (by omega)
  have qnwn := nI_toInt (n := wn) (by omega)
  refine wq_gos (f := 1) (pc2 := 237) (ls2 := [(0, .ref 162), (1, .int 1), (4, .int 66), (5, .int le), (6, .int (nI i))]) (st2 := [.ref 162, .int (nI i)]) (h2 := h) (dc2 := dc) (ds2 := ds) 2 rfl ?_
  refine wq_inlv (y2 := 244) (as := []) rfl rfl rfl hM rfl ?_
  show wq 244 0 [(0, .ref 162)] [] h 0 0 _
  refine wq_gos (f := 1) (pc2 := 1) (ls2 := [(0, .ref 162)]) (st2 := [.ref 162]) (h2 := h) (dc2 := 0) (ds2 := 0) 1 rfl ?_
  refine wq_getf rfl hM rfl rfl ?_
  refine wq_gos (f := 1) (pc2 := 6) (ls2 := [(0, .ref 162)]) (st2 := [.int 6, .ref 166]) (h2 := h) (dc2 := 0) (ds2 := 0) 1 rfl ?_
  have q1x : (6 : Int32).toInt = 6 := rfl
  refine wq_iald rfl hKn rfl rfl ?_
  refine wq_vi hkn.1 ?_
  refine wq_ret rfl rfl ?_
  show wq 249 240 [(0, .ref 162), (1, .int 1), (4, .int 66), (5, .int le), (6, .int (nI i))] [.int (nI wn), .int (nI i)] h dc ds _
  try have q2x := nI_toInt (n := i) (by omega)
  try have q3x := nI_toInt (n := wn) (by omega)
  refine wq_ge2t rfl (by omega) ?_
  exact wq_ret rfl rfl (kE )
