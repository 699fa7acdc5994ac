/-! The reference: solutions of a spot. -/
noncomputable def mSg (a sg : List Int32) : List Int32 := (zset 0 (zset 0 (zset 0 (zset 0 (zset 0 (zset 0 sg 0 (a.getD 0 0)) 1 (a.getD 1 0)) 2 (a.getD 2 0)) 3 (a.getD 3 0)) 4 (a.getD 4 0)) 5 (a.getD 5 0))
theorem zset_s2 (l : List Int32) (i : Nat) (x : Int32) : (zset 0 l i x).getD i 0 = x := zset_self l i x
set_option maxRecDepth 100000 in
set_option maxHeartbeats 4000000 in
theorem m_sof {h : zH} {Q : zR → Prop} {n0 n2 n14 n15 n16 n17 n18 n19 n20 n21 n22 n23 n27 n28 n32 n33 n34 n35 n39 n52 : Int32} {kn lo hi on pa pb th sq sg sm : List Int32} {fo : List Int64} {w : Nat} (hM : zat h 162 = some (.inr (.inr (.inr (10, mO n0 n2 n14 n15 n16 n17 n18 n19 n20 n21 n22 n23 n27 n28 n32 n33 n34 n35 n39 n52))))) (hKn : zat h 166 = some (.inl (0, 14, kn))) (hLo : zat h 168 = some (.inl (0, 12, lo))) (hHi : zat h 170 = some (.inl (0, 12, hi))) (hFo : zat h 196 = some (.inr (.inl (6000, fo)))) (hOn : zat h 204 = some (.inl (0, 6, on))) (h200 : zat h 200 = some (.inl (0, 4096, pa))) (h202 : zat h 202 = some (.inl (0, 4096, pb))) (hTh : zat h 194 = some (.inl (0, 6, th))) (hSq : zat h 178 = some (.inl (0, 96, sq))) (hSg : zat h 222 = some (.inl (0, 6, sg))) (hSm : zat h 198 = some (.inl (0, 8, sm))) (hw : w < 8) (kK : ∀ (h2 : zH), (wFr [] h h2) → (h2.length = h.length) → (sm.getD w 0 ≠ -1) → Q (some (.int (sm.getD w 0)), h2, 0, 0)) (kN : ∀ (h2 : zH) (m35 : Int32) (fo2 : List Int64) (on2 : List Int32) (pa2 : List Int32) (pb2 : List Int32), (wFr [162, 194, 222, 196, 204, 200, 202, 198] h h2) → (h2.length = h.length) → (zat h2 162 = some (.inr (.inr (.inr (10, mO n0 n2 n14 n15 n16 n17 n18 n19 n20 n21 n22 n23 n27 n28 n32 n33 (mNum (mSol lo hi kn (mSg (mPla kn sq (6 * w) th) sg))) m35 n39 n52))))) → (zat h2 194 = some (.inl (0, 6, (mPla kn sq (6 * w) th)))) → (zat h2 222 = some (.inl (0, 6, (mSg (mPla kn sq (6 * w) th) sg)))) → (zat h2 196 = some (.inr (.inl (6000, fo2)))) → (zat h2 204 = some (.inl (0, 6, on2))) → (zat h2 200 = some (.inl (0, 4096, pa2))) → (zat h2 202 = some (.inl (0, 4096, pb2))) → (zat h2 198 = some (.inl (0, 8, (zset 0 sm w (mNum (mSol lo hi kn (mSg (mPla kn sq (6 * w) th) sg))))))) → (sm.getD w 0 = -1) → (wFe (fun q => fo.getD q 0) (600 * w) (mSol lo hi kn (mSg (mPla kn sq (6 * w) th) sg)) fo2) → Q (some (.int (mNum (mSol lo hi kn (mSg (mPla kn sq (6 * w) th) sg)))), h2, 0, 0)) : wq 243 0 [(0, .ref 162), (1, .int (nI w))] [] h 0 0 Q := by
  have qnw := nI_toInt (n := w) (by omega)
  have z0 : (0 : Int32).toInt = 0 := rfl
  have z1 : (1 : Int32).toInt = 1 := rfl
  have z5 : (5 : Int32).toInt = 5 := rfl
  have z6 : (6 : Int32).toInt = 6 := rfl
  have zm1 : (-1 : Int32).toInt = -1 := rfl
  have z3 : (3 : Int32).toInt = 3 := rfl
  have z2 : (2 : Int32).toInt = 2 := rfl
  have z20 : (20 : Int32).toInt = 20 := rfl
  refine wq_gos (f := 1) (pc2 := 1) (ls2 := [(0, .ref 162), (1, .int (nI w))]) (st2 := [.ref 162]) (h2 := h) (dc2 := 0) (ds2 := 0) 1 rfl ?_
  refine wq_getf rfl hM rfl rfl ?_
  refine wq_gos (f := 1) (pc2 := 5) (ls2 := [(0, .ref 162), (1, .int (nI w))]) (st2 := [.int (nI w), .ref 198]) (h2 := h) (dc2 := 0) (ds2 := 0) 1 rfl ?_
  try have q1x := nI_toInt (n := w) (by omega)
  refine wq_ialdn rfl hSm (by first | omega | exact zin_t (by omega) (by omega)) (by decide) rfl ?_
  refine wq_gos (f := 1) (pc2 := 7) (ls2 := [(0, .ref 162), (1, .int (nI w))]) (st2 := [.int (-1), .int (sm.getD w 0)]) (h2 := h) (dc2 := 0) (ds2 := 0) 1 rfl ?_
  have q2x : (-1 : Int32).toInt = -1 := rfl
  refine wq_ne2 rfl rfl (fun b3x => ?_) (fun b3x => ?_)
  · have q4x : (sm.getD w 0).toInt ≠ -1 := fun q => b3x (Int32.toInt_inj.mp q)
    refine wq_gos (f := 1) (pc2 := 72) (ls2 := [(0, .ref 162), (1, .int (nI w))]) (st2 := [.ref 162]) (h2 := h) (dc2 := 0) (ds2 := 0) 1 rfl ?_
    refine wq_getf rfl hM rfl rfl ?_
    refine wq_gos (f := 1) (pc2 := 76) (ls2 := [(0, .ref 162), (1, .int (nI w))]) (st2 := [.int (nI w), .ref 198]) (h2 := h) (dc2 := 0) (ds2 := 0) 1 rfl ?_
    refine wq_ialdn rfl hSm (by first | omega | exact zin_t (by omega) (by omega)) (by decide) rfl ?_
    exact wq_ret rfl rfl (kK h (wFr_rf _ _) (by omega) (by first | assumption | omega | decide | solve_by_elim))
  · have q5x : (sm.getD w 0).toInt = -1 := congrArg Int32.toInt b3x
    refine wq_gos (f := 1) (pc2 := 12) (ls2 := [(0, .ref 162), (1, .int (nI w))]) (st2 := [.ref 162, .ref 162]) (h2 := h) (dc2 := 0) (ds2 := 0) 2 rfl ?_
    refine wq_getf rfl hM rfl rfl ?_
    refine wq_gos (f := 1) (pc2 := 19) (ls2 := [(0, .ref 162), (1, .int (nI w))]) (st2 := [.int ((6 : Int32) * (nI w)), .ref 178, .ref 162]) (h2 := h) (dc2 := 0) (ds2 := 0) 3 rfl ?_
    refine wq_vi (show (6 : Int32) * (nI w) = nI (6 * w) from e_nmul 6 w) ?_
    try have q6x := nI_toInt (n := (6 * w)) (by omega)
    refine wq_inlv (y2 := 200) (as := [.ref 178, .int (nI (6 * w))]) rfl rfl rfl hM rfl (wq_mono (m_pla hM hKn hSq hTh (by omega) (by decide)) ?_)
    rintro _ ⟨h87x, rfl, f87x, l87x, c07x⟩
    show wq 243 22 [(0, .ref 162), (1, .int (nI w))] [] h87x 0 0 _
    obtain ⟨v8x, hv9x⟩ : ∃ x, x = (mPla kn sq (6 * w) th) := ⟨_, rfl⟩
    try rw [← hv9x] at c07x
    try rw [← hv9x]
    refine wq_gos (f := 1) (pc2 := 31) (ls2 := [(2, .int 0), (0, .ref 162), (1, .int (nI w))]) (st2 := [.ref 162]) (h2 := h87x) (dc2 := 0) (ds2 := 0) 6 rfl ?_
    have e10x := (f87x.2 _ _ (wnc (by decide) wn0) hM)
    refine wq_getf rfl e10x rfl rfl ?_
    refine wq_gos (f := 1) (pc2 := 36) (ls2 := [(2, .int 0), (0, .ref 162), (1, .int (nI w))]) (st2 := [.ref 162, .int 0, .ref 222]) (h2 := h87x) (dc2 := 0) (ds2 := 0) 2 rfl ?_
    refine wq_getf rfl e10x rfl rfl ?_
    refine wq_gos (f := 1) (pc2 := 40) (ls2 := [(2, .int 0), (0, .ref 162), (1, .int (nI w))]) (st2 := [.int 0, .ref 194, .int 0, .ref 222]) (h2 := h87x) (dc2 := 0) (ds2 := 0) 1 rfl ?_
    have q11x : (0 : Int32).toInt = 0 := rfl
    refine wq_iald rfl c07x rfl rfl ?_
    have e12x := (f87x.2 _ _ (wnc (by decide) wn0) hSg)
    refine wq_iast rfl e12x rfl rfl ?_
    intro hh13x e14x ff15x lh16x
    have e14x : zat hh13x 222 = some (.inl (0, 6, (zset 0 sg 0 ((v8x).getD 0 0)))) := e14x
    refine wq_gos (f := 1) (pc2 := 31) (ls2 := [(2, .int 1), (0, .ref 162), (1, .int (nI w))]) (st2 := [.ref 162]) (h2 := hh13x) (dc2 := 0) (ds2 := 0) 6 rfl ?_
    have e17x := (ff15x.2 _ _ (wnc (by decide) wn0) e10x)
    refine wq_getf rfl e17x rfl rfl ?_
    refine wq_gos (f := 1) (pc2 := 36) (ls2 := [(2, .int 1), (0, .ref 162), (1, .int (nI w))]) (st2 := [.ref 162, .int 1, .ref 222]) (h2 := hh13x) (dc2 := 0) (ds2 := 0) 2 rfl ?_
    refine wq_getf rfl e17x rfl rfl ?_
    refine wq_gos (f := 1) (pc2 := 40) (ls2 := [(2, .int 1), (0, .ref 162), (1, .int (nI w))]) (st2 := [.int 1, .ref 194, .int 1, .ref 222]) (h2 := hh13x) (dc2 := 0) (ds2 := 0) 1 rfl ?_
    have e18x := (ff15x.2 _ _ (wnc (by decide) wn0) c07x)
    have q19x : (1 : Int32).toInt = 1 := rfl
    refine wq_iald rfl e18x rfl rfl ?_
    refine wq_iast rfl e14x rfl rfl ?_
    intro hh20x e21x ff22x lh23x
    have e21x : zat hh20x 222 = some (.inl (0, 6, (zset 0 (zset 0 sg 0 ((v8x).getD 0 0)) 1 ((v8x).getD 1 0)))) := e21x
    refine wq_gos (f := 1) (pc2 := 31) (ls2 := [(2, .int 2), (0, .ref 162), (1, .int (nI w))]) (st2 := [.ref 162]) (h2 := hh20x) (dc2 := 0) (ds2 := 0) 6 rfl ?_
    have e24x := (ff22x.2 _ _ (wnc (by decide) wn0) e17x)
    refine wq_getf rfl e24x rfl rfl ?_
    refine wq_gos (f := 1) (pc2 := 36) (ls2 := [(2, .int 2), (0, .ref 162), (1, .int (nI w))]) (st2 := [.ref 162, .int 2, .ref 222]) (h2 := hh20x) (dc2 := 0) (ds2 := 0) 2 rfl ?_
    refine wq_getf rfl e24x rfl rfl ?_
    refine wq_gos (f := 1) (pc2 := 40) (ls2 := [(2, .int 2), (0, .ref 162), (1, .int (nI w))]) (st2 := [.int 2, .ref 194, .int 2, .ref 222]) (h2 := hh20x) (dc2 := 0) (ds2 := 0) 1 rfl ?_
    have e25x := (ff22x.2 _ _ (wnc (by decide) wn0) e18x)
    have q26x : (2 : Int32).toInt = 2 := rfl
    refine wq_iald rfl e25x rfl rfl ?_
    refine wq_iast rfl e21x rfl rfl ?_
    intro hh27x e28x ff29x lh30x
    have e28x : zat hh27x 222 = some (.inl (0, 6, (zset 0 (zset 0 (zset 0 sg 0 ((v8x).getD 0 0)) 1 ((v8x).getD 1 0)) 2 ((v8x).getD 2 0)))) := e28x
    refine wq_gos (f := 1) (pc2 := 31) (ls2 := [(2, .int 3), (0, .ref 162), (1, .int (nI w))]) (st2 := [.ref 162]) (h2 := hh27x) (dc2 := 0) (ds2 := 0) 6 rfl ?_
    have e31x := (ff29x.2 _ _ (wnc (by decide) wn0) e24x)
    refine wq_getf rfl e31x rfl rfl ?_
    refine wq_gos (f := 1) (pc2 := 36) (ls2 := [(2, .int 3), (0, .ref 162), (1, .int (nI w))]) (st2 := [.ref 162, .int 3, .ref 222]) (h2 := hh27x) (dc2 := 0) (ds2 := 0) 2 rfl ?_
    refine wq_getf rfl e31x rfl rfl ?_
    refine wq_gos (f := 1) (pc2 := 40) (ls2 := [(2, .int 3), (0, .ref 162), (1, .int (nI w))]) (st2 := [.int 3, .ref 194, .int 3, .ref 222]) (h2 := hh27x) (dc2 := 0) (ds2 := 0) 1 rfl ?_
    have e32x := (ff29x.2 _ _ (wnc (by decide) wn0) e25x)
    have q33x : (3 : Int32).toInt = 3 := rfl
    refine wq_iald rfl e32x rfl rfl ?_
    refine wq_iast rfl e28x rfl rfl ?_
    intro hh34x e35x ff36x lh37x
    have e35x : zat hh34x 222 = some (.inl (0, 6, (zset 0 (zset 0 (zset 0 (zset 0 sg 0 ((v8x).getD 0 0)) 1 ((v8x).getD 1 0)) 2 ((v8x).getD 2 0)) 3 ((v8x).getD 3 0)))) := e35x
    refine wq_gos (f := 1) (pc2 := 31) (ls2 := [(2, .int 4), (0, .ref 162), (1, .int (nI w))]) (st2 := [.ref 162]) (h2 := hh34x) (dc2 := 0) (ds2 := 0) 6 rfl ?_
    have e38x := (ff36x.2 _ _ (wnc (by decide) wn0) e31x)
    refine wq_getf rfl e38x rfl rfl ?_
    refine wq_gos (f := 1) (pc2 := 36) (ls2 := [(2, .int 4), (0, .ref 162), (1, .int (nI w))]) (st2 := [.ref 162, .int 4, .ref 222]) (h2 := hh34x) (dc2 := 0) (ds2 := 0) 2 rfl ?_
    refine wq_getf rfl e38x rfl rfl ?_
    refine wq_gos (f := 1) (pc2 := 40) (ls2 := [(2, .int 4), (0, .ref 162), (1, .int (nI w))]) (st2 := [.int 4, .ref 194, .int 4, .ref 222]) (h2 := hh34x) (dc2 := 0) (ds2 := 0) 1 rfl ?_
    have e39x := (ff36x.2 _ _ (wnc (by decide) wn0) e32x)
    have q40x : (4 : Int32).toInt = 4 := rfl
    refine wq_iald rfl e39x rfl rfl ?_
    refine wq_iast rfl e35x rfl rfl ?_
    intro hh41x e42x ff43x lh44x
    have e42x : zat hh41x 222 = some (.inl (0, 6, (zset 0 (zset 0 (zset 0 (zset 0 (zset 0 sg 0 ((v8x).getD 0 0)) 1 ((v8x).getD 1 0)) 2 ((v8x).getD 2 0)) 3 ((v8x).getD 3 0)) 4 ((v8x).getD 4 0)))) := e42x
    refine wq_gos (f := 1) (pc2 := 31) (ls2 := [(2, .int 5), (0, .ref 162), (1, .int (nI w))]) (st2 := [.ref 162]) (h2 := hh41x) (dc2 := 0) (ds2 := 0) 6 rfl ?_
    have e45x := (ff43x.2 _ _ (wnc (by decide) wn0) e38x)
    refine wq_getf rfl e45x rfl rfl ?_
    refine wq_gos (f := 1) (pc2 := 36) (ls2 := [(2, .int 5), (0, .ref 162), (1, .int (nI w))]) (st2 := [.ref 162, .int 5, .ref 222]) (h2 := hh41x) (dc2 := 0) (ds2 := 0) 2 rfl ?_
    refine wq_getf rfl e45x rfl rfl ?_
    refine wq_gos (f := 1) (pc2 := 40) (ls2 := [(2, .int 5), (0, .ref 162), (1, .int (nI w))]) (st2 := [.int 5, .ref 194, .int 5, .ref 222]) (h2 := hh41x) (dc2 := 0) (ds2 := 0) 1 rfl ?_
    have e46x := (ff43x.2 _ _ (wnc (by decide) wn0) e39x)
    have q47x : (5 : Int32).toInt = 5 := rfl
    refine wq_iald rfl e46x rfl rfl ?_
    refine wq_iast rfl e42x rfl rfl ?_
    intro hh48x e49x ff50x lh51x
    have e49x : zat hh48x 222 = some (.inl (0, 6, (zset 0 (zset 0 (zset 0 (zset 0 (zset 0 (zset 0 sg 0 ((v8x).getD 0 0)) 1 ((v8x).getD 1 0)) 2 ((v8x).getD 2 0)) 3 ((v8x).getD 3 0)) 4 ((v8x).getD 4 0)) 5 ((v8x).getD 5 0)))) := e49x
    refine wq_gos (f := 1) (pc2 := 50) (ls2 := [(2, .int 6), (0, .ref 162), (1, .int (nI w))]) (st2 := [.ref 162, .ref 162]) (h2 := hh48x) (dc2 := 0) (ds2 := 0) 7 rfl ?_
    have e52x := (ff50x.2 _ _ (wnc (by decide) wn0) e45x)
    refine wq_getf rfl e52x rfl rfl ?_
    refine wq_gos (f := 1) (pc2 := 58) (ls2 := [(2, .int 6), (0, .ref 162), (1, .int (nI w))]) (st2 := [.int ((600 : Int32) * (nI w)), .ref 222, .ref 162]) (h2 := hh48x) (dc2 := 0) (ds2 := 0) 3 rfl ?_
    refine wq_vi (show (600 : Int32) * (nI w) = nI (600 * w) from e_nmul 600 w) ?_
    have e53x := (ff50x.2 _ _ (wnc (by decide) wn0) (ff43x.2 _ _ (wnc (by decide) wn0) (ff36x.2 _ _ (wnc (by decide) wn0) (ff29x.2 _ _ (wnc (by decide) wn0) (ff22x.2 _ _ (wnc (by decide) wn0) (ff15x.2 _ _ (wnc (by decide) wn0) (f87x.2 _ _ (wnc (by decide) wn0) hKn)))))))
    have e54x := (ff50x.2 _ _ (wnc (by decide) wn0) (ff43x.2 _ _ (wnc (by decide) wn0) (ff36x.2 _ _ (wnc (by decide) wn0) (ff29x.2 _ _ (wnc (by decide) wn0) (ff22x.2 _ _ (wnc (by decide) wn0) (ff15x.2 _ _ (wnc (by decide) wn0) (f87x.2 _ _ (wnc (by decide) wn0) hLo)))))))
    have e55x := (ff50x.2 _ _ (wnc (by decide) wn0) (ff43x.2 _ _ (wnc (by decide) wn0) (ff36x.2 _ _ (wnc (by decide) wn0) (ff29x.2 _ _ (wnc (by decide) wn0) (ff22x.2 _ _ (wnc (by decide) wn0) (ff15x.2 _ _ (wnc (by decide) wn0) (f87x.2 _ _ (wnc (by decide) wn0) hHi)))))))
    have e56x := (ff50x.2 _ _ (wnc (by decide) wn0) (ff43x.2 _ _ (wnc (by decide) wn0) (ff36x.2 _ _ (wnc (by decide) wn0) (ff29x.2 _ _ (wnc (by decide) wn0) (ff22x.2 _ _ (wnc (by decide) wn0) (ff15x.2 _ _ (wnc (by decide) wn0) (f87x.2 _ _ (wnc (by decide) wn0) hFo)))))))
    have e57x := (ff50x.2 _ _ (wnc (by decide) wn0) (ff43x.2 _ _ (wnc (by decide) wn0) (ff36x.2 _ _ (wnc (by decide) wn0) (ff29x.2 _ _ (wnc (by decide) wn0) (ff22x.2 _ _ (wnc (by decide) wn0) (ff15x.2 _ _ (wnc (by decide) wn0) (f87x.2 _ _ (wnc (by decide) wn0) hOn)))))))
    have e58x := (ff50x.2 _ _ (wnc (by decide) wn0) (ff43x.2 _ _ (wnc (by decide) wn0) (ff36x.2 _ _ (wnc (by decide) wn0) (ff29x.2 _ _ (wnc (by decide) wn0) (ff22x.2 _ _ (wnc (by decide) wn0) (ff15x.2 _ _ (wnc (by decide) wn0) (f87x.2 _ _ (wnc (by decide) wn0) h200)))))))
    have e59x := (ff50x.2 _ _ (wnc (by decide) wn0) (ff43x.2 _ _ (wnc (by decide) wn0) (ff36x.2 _ _ (wnc (by decide) wn0) (ff29x.2 _ _ (wnc (by decide) wn0) (ff22x.2 _ _ (wnc (by decide) wn0) (ff15x.2 _ _ (wnc (by decide) wn0) (f87x.2 _ _ (wnc (by decide) wn0) h202)))))))
    try have q60x := nI_toInt (n := (600 * w)) (by omega)
    refine wq_inlv (y2 := 226) (as := [.ref 222, .int (nI (600 * w))]) rfl rfl rfl e52x rfl (wq_mono (m_slv e52x e53x e54x e55x e56x e57x e58x e59x e49x (by omega) (Or.inr rfl)) ?_)
    rintro _ ⟨h861x, wn261x, fo261x, on261x, pa261x, pb261x, rfl, f861x, l861x, c061x, c161x, c261x, c361x, c461x, p061x⟩
    show wq 243 61 [(2, .int 6), (0, .ref 162), (1, .int (nI w))] [] h861x 0 0 _
    refine wq_gos (f := 1) (pc2 := 62) (ls2 := [(2, .int 6), (0, .ref 162), (1, .int (nI w))]) (st2 := [.ref 162]) (h2 := h861x) (dc2 := 0) (ds2 := 0) 1 rfl ?_
    refine wq_getf rfl c061x rfl rfl ?_
    refine wq_gos (f := 1) (pc2 := 67) (ls2 := [(2, .int 6), (0, .ref 162), (1, .int (nI w))]) (st2 := [.ref 162, .int (nI w), .ref 198]) (h2 := h861x) (dc2 := 0) (ds2 := 0) 2 rfl ?_
    refine wq_getf rfl c061x rfl rfl ?_
    have e62x := (f861x.2 _ _ (wnc (by decide) (wnc (by decide) (wnc (by decide) (wnc (by decide) (wnc (by decide) wn0))))) (ff50x.2 _ _ (wnc (by decide) wn0) (ff43x.2 _ _ (wnc (by decide) wn0) (ff36x.2 _ _ (wnc (by decide) wn0) (ff29x.2 _ _ (wnc (by decide) wn0) (ff22x.2 _ _ (wnc (by decide) wn0) (ff15x.2 _ _ (wnc (by decide) wn0) (f87x.2 _ _ (wnc (by decide) wn0) hSm))))))))
    refine wq_iastn rfl e62x (by first | omega | exact zin_t (by omega) (by omega)) (by decide) rfl ?_
    intro hh63x e64x ff65x lh66x
    have e64x : zat hh63x 198 = some (.inl (0, 8, (zset 0 sm w (mNum (mSol lo hi kn (zset 0 (zset 0 (zset 0 (zset 0 (zset 0 (zset 0 sg 0 ((v8x).getD 0 0)) 1 ((v8x).getD 1 0)) 2 ((v8x).getD 2 0)) 3 ((v8x).getD 3 0)) 4 ((v8x).getD 4 0)) 5 ((v8x).getD 5 0))))))) := e64x
    refine wq_gos (f := 1) (pc2 := 72) (ls2 := [(2, .int 6), (0, .ref 162), (1, .int (nI w))]) (st2 := [.ref 162]) (h2 := hh63x) (dc2 := 0) (ds2 := 0) 1 rfl ?_
    have e67x := (ff65x.2 _ _ (wnc (by decide) wn0) c061x)
    refine wq_getf rfl e67x rfl rfl ?_
    refine wq_gos (f := 1) (pc2 := 76) (ls2 := [(2, .int 6), (0, .ref 162), (1, .int (nI w))]) (st2 := [.int (nI w), .ref 198]) (h2 := hh63x) (dc2 := 0) (ds2 := 0) 1 rfl ?_
    refine wq_ialdn rfl e64x (by first | omega | exact zin_t (by omega) (by omega)) (by decide) rfl ?_
    refine wq_vi (zset_self _ _ _) ?_
    have e68x := (ff65x.2 _ _ (wnc (by decide) wn0) (f861x.2 _ _ (wnc (by decide) (wnc (by decide) (wnc (by decide) (wnc (by decide) (wnc (by decide) wn0))))) (ff50x.2 _ _ (wnc (by decide) wn0) e46x)))
    have e69x := (ff65x.2 _ _ (wnc (by decide) wn0) (f861x.2 _ _ (wnc (by decide) (wnc (by decide) (wnc (by decide) (wnc (by decide) (wnc (by decide) wn0))))) e49x))
    have e70x := (ff65x.2 _ _ (wnc (by decide) wn0) c161x)
    have e71x := (ff65x.2 _ _ (wnc (by decide) wn0) c261x)
    have e72x := (ff65x.2 _ _ (wnc (by decide) wn0) c361x)
    have e73x := (ff65x.2 _ _ (wnc (by decide) wn0) c461x)
    subst hv9x
    exact wq_ret rfl rfl (kN hh63x wn261x fo261x on261x pa261x pb261x (wFr_tr (wFr_sub f87x (by simp)) (wFr_tr (wFr_sub ff15x (by simp)) (wFr_tr (wFr_sub ff22x (by simp)) (wFr_tr (wFr_sub ff29x (by simp)) (wFr_tr (wFr_sub ff36x (by simp)) (wFr_tr (wFr_sub ff43x (by simp)) (wFr_tr (wFr_sub ff50x (by simp)) (wFr_tr (wFr_sub f861x (by simp)) (wFr_sub ff65x (by simp)))))))))) (by omega) e67x e68x e69x e70x e71x e72x e73x e64x (by first | assumption | omega | decide | solve_by_elim) (by first | assumption | omega | decide | solve_by_elim))
