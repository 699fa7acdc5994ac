/-! The reference: the calls that ask AIM's solutions. -/
set_option maxRecDepth 100000 in
set_option maxHeartbeats 4000000 in
theorem m_svN {h : zH} {n0 n2 n14 n15 n16 n17 n18 n19 n20 n21 n22 n23 n27 n28 n32 n34 n35 n39 n52 : Int32} {kn lo hi on pa pb : List Int32} {fo : List Int64} {am : List Int32} (hM : zat h 162 = some (.inr (.inr (.inr (10, mO n0 n2 n14 n15 n16 n17 n18 n19 n20 n21 n22 n23 n27 n28 n32 (0 : Int32) n34 n35 n39 n52))))) (hKn : zat h 166 = some (.inl (0, 14, kn))) (hLo : zat h 168 = some (.inl (0, 12, lo))) (hHi : zat h 170 = some (.inl (0, 12, hi))) (hFo : zat h 196 = some (.inr (.inl (6000, fo)))) (hOn : zat h 204 = some (.inl (0, 6, on))) (h200 : zat h 200 = some (.inl (0, 4096, pa))) (h202 : zat h 202 = some (.inl (0, 4096, pb))) (hAm : zat h 190 = some (.inl (0, 6, am)))  : wq 227 0 [(0, .ref 162)] [] h 0 0 (fun rr9 => ∃ (h2 : zH) (m34 : Int32) (m35 : Int32) (m39 : Int32) (fo2 : List Int64) (on2 : List Int32) (pa2 : List Int32) (pb2 : List Int32), rr9 = (none, h2, 0, 0) ∧ wFr [162, 196, 204, 200, 202] h h2 ∧ h2.length = h.length ∧ zat h2 162 = some (.inr (.inr (.inr (10, mO n0 n2 n14 n15 n16 n17 n18 n19 n20 n21 n22 n23 n27 n28 (mNum (mSol lo hi kn am)) (1 : Int32) m34 m35 m39 n52)))) ∧ zat h2 196 = some (.inr (.inl (6000, fo2))) ∧ zat h2 204 = some (.inl (0, 6, on2)) ∧ zat h2 200 = some (.inl (0, 4096, pa2)) ∧ zat h2 202 = some (.inl (0, 4096, pb2)) ∧ (wFe (fun q => fo.getD q 0) 4800 (mSol lo hi kn am) fo2)) := by
  refine wq_gos (f := 1) (pc2 := 1) (ls2 := [(0, .ref 162)]) (st2 := [.ref 162]) (h2 := h) (dc2 := 0) (ds2 := 0) 1 rfl ?_
  refine wq_getf rfl hM rfl rfl ?_
  refine wq_gos (f := 1) (pc2 := 10) (ls2 := [(0, .ref 162)]) (st2 := [.int 1, .ref 162]) (h2 := h) (dc2 := 0) (ds2 := 0) 3 rfl ?_
  refine wq_putf rfl hM rfl rfl rfl ?_
  intro hh1x e2x ff3x lh4x
  have e2x : zat hh1x 162 = some (.inr (.inr (.inr (10, mO n0 n2 n14 n15 n16 n17 n18 n19 n20 n21 n22 n23 n27 n28 n32 (1 : Int32) n34 n35 n39 n52)))) := e2x
  refine wq_gos (f := 1) (pc2 := 15) (ls2 := [(0, .ref 162)]) (st2 := [.ref 162, .ref 162]) (h2 := hh1x) (dc2 := 0) (ds2 := 0) 2 rfl ?_
  refine wq_getf rfl e2x rfl rfl ?_
  refine wq_gos (f := 1) (pc2 := 21) (ls2 := [(0, .ref 162)]) (st2 := [.int 4800, .ref 190, .ref 162]) (h2 := hh1x) (dc2 := 0) (ds2 := 0) 1 rfl ?_
  have e5x := (ff3x.2 _ _ (wnc (by decide) wn0) hKn)
  have e6x := (ff3x.2 _ _ (wnc (by decide) wn0) hLo)
  have e7x := (ff3x.2 _ _ (wnc (by decide) wn0) hHi)
  have e8x := (ff3x.2 _ _ (wnc (by decide) wn0) hFo)
  have e9x := (ff3x.2 _ _ (wnc (by decide) wn0) hOn)
  have e10x := (ff3x.2 _ _ (wnc (by decide) wn0) h200)
  have e11x := (ff3x.2 _ _ (wnc (by decide) wn0) h202)
  have e12x := (ff3x.2 _ _ (wnc (by decide) wn0) hAm)
  have q13x : (4800 : Int32).toInt = 4800 := rfl
  refine wq_inlv (y2 := 226) (as := [.ref 190, .int 4800]) rfl rfl rfl e2x rfl (wq_mono (m_slv (o := 4800) e2x e5x e6x e7x e8x e9x e10x e11x e12x (by decide) (Or.inl rfl)) ?_)
  rintro _ ⟨h814x, wn214x, fo214x, on214x, pa214x, pb214x, rfl, f814x, l814x, c014x, c114x, c214x, c314x, c414x, p014x⟩
  show wq 227 24 [(0, .ref 162)] [] h814x 0 0 _
  refine wq_gos (f := 1) (pc2 := 26) (ls2 := [(0, .ref 162)]) (st2 := [.ref 162, .ref 162]) (h2 := h814x) (dc2 := 0) (ds2 := 0) 2 rfl ?_
  refine wq_getf rfl c014x rfl rfl ?_
  refine wq_putf rfl c014x rfl rfl rfl ?_
  intro hh15x e16x ff17x lh18x
  have e16x : zat hh15x 162 = some (.inr (.inr (.inr (10, mO n0 n2 n14 n15 n16 n17 n18 n19 n20 n21 n22 n23 n27 n28 (mNum (mSol lo hi kn am)) (1 : Int32) (mNum (mSol lo hi kn am)) wn214x n39 n52)))) := e16x
  refine wq_gos (f := 1) (pc2 := 34) (ls2 := [(0, .ref 162)]) (st2 := [.ref 162, .ref 162]) (h2 := hh15x) (dc2 := 0) (ds2 := 0) 2 rfl ?_
  refine wq_getf rfl e16x rfl rfl ?_
  refine wq_ne0 rfl rfl (fun b19x => ?_) (fun b19x => ?_)
  · have q20x : (mNum (mSol lo hi kn am)).toInt ≠ 0 := fun q => b19x (Int32.toInt_inj.mp q)
    refine wq_gos (f := 1) (pc2 := 48) (ls2 := [(0, .ref 162)]) (st2 := [.int 0, .ref 162]) (h2 := hh15x) (dc2 := 0) (ds2 := 0) 1 rfl ?_
    refine wq_putf rfl e16x rfl rfl rfl ?_
    intro hh21x e22x ff23x lh24x
    have e22x : zat hh21x 162 = some (.inr (.inr (.inr (10, mO n0 n2 n14 n15 n16 n17 n18 n19 n20 n21 n22 n23 n27 n28 (mNum (mSol lo hi kn am)) (1 : Int32) (mNum (mSol lo hi kn am)) wn214x (0 : Int32) n52)))) := e22x
    have e25x := (ff23x.2 _ _ (wnc (by decide) wn0) (ff17x.2 _ _ (wnc (by decide) wn0) c114x))
    have e26x := (ff23x.2 _ _ (wnc (by decide) wn0) (ff17x.2 _ _ (wnc (by decide) wn0) c214x))
    have e27x := (ff23x.2 _ _ (wnc (by decide) wn0) (ff17x.2 _ _ (wnc (by decide) wn0) c314x))
    have e28x := (ff23x.2 _ _ (wnc (by decide) wn0) (ff17x.2 _ _ (wnc (by decide) wn0) c414x))
    exact wq_ret rfl rfl ⟨hh21x, (mNum (mSol lo hi kn am)), wn214x, (0 : Int32), fo214x, on214x, pa214x, pb214x, rfl, (wFr_tr (wFr_sub ff3x (by simp)) (wFr_tr (wFr_sub f814x (by simp)) (wFr_tr (wFr_sub ff17x (by simp)) (wFr_sub ff23x (by simp))))), (by omega), e22x, e25x, e26x, e27x, e28x, (by first | assumption | omega | decide | solve_by_elim)⟩
  · have q29x : (mNum (mSol lo hi kn am)).toInt = 0 := congrArg Int32.toInt b19x
    refine wq_gos (f := 1) (pc2 := 41) (ls2 := [(0, .ref 162)]) (st2 := [.ref 162, .ref 162]) (h2 := hh15x) (dc2 := 0) (ds2 := 0) 1 rfl ?_
    refine wq_getf rfl e16x rfl rfl ?_
    refine wq_gos (f := 1) (pc2 := 48) (ls2 := [(0, .ref 162)]) (st2 := [.int wn214x, .ref 162]) (h2 := hh15x) (dc2 := 0) (ds2 := 0) 1 rfl ?_
    refine wq_putf rfl e16x rfl rfl rfl ?_
    intro hh30x e31x ff32x lh33x
    have e31x : zat hh30x 162 = some (.inr (.inr (.inr (10, mO n0 n2 n14 n15 n16 n17 n18 n19 n20 n21 n22 n23 n27 n28 (mNum (mSol lo hi kn am)) (1 : Int32) (mNum (mSol lo hi kn am)) wn214x wn214x n52)))) := e31x
    have e34x := (ff32x.2 _ _ (wnc (by decide) wn0) (ff17x.2 _ _ (wnc (by decide) wn0) c114x))
    have e35x := (ff32x.2 _ _ (wnc (by decide) wn0) (ff17x.2 _ _ (wnc (by decide) wn0) c214x))
    have e36x := (ff32x.2 _ _ (wnc (by decide) wn0) (ff17x.2 _ _ (wnc (by decide) wn0) c314x))
    have e37x := (ff32x.2 _ _ (wnc (by decide) wn0) (ff17x.2 _ _ (wnc (by decide) wn0) c414x))
    exact wq_ret rfl rfl ⟨hh30x, (mNum (mSol lo hi kn am)), wn214x, wn214x, fo214x, on214x, pa214x, pb214x, rfl, (wFr_tr (wFr_sub ff3x (by simp)) (wFr_tr (wFr_sub f814x (by simp)) (wFr_tr (wFr_sub ff17x (by simp)) (wFr_sub ff32x (by simp))))), (by omega), e31x, e34x, e35x, e36x, e37x, (by first | assumption | omega | decide | solve_by_elim)⟩
set_option maxRecDepth 100000 in
set_option maxHeartbeats 4000000 in
theorem m_svK {h : zH} {n0 n2 n14 n15 n16 n17 n18 n19 n20 n21 n22 n23 n27 n28 n32 n34 n35 n39 n52 : Int32} (hM : zat h 162 = some (.inr (.inr (.inr (10, mO n0 n2 n14 n15 n16 n17 n18 n19 n20 n21 n22 n23 n27 n28 n32 (1 : Int32) n34 n35 n39 n52)))))  : wq 227 0 [(0, .ref 162)] [] h 0 0 (fun rr9 => rr9 = (none, h, 0, 0)) := by
  refine wq_gos (f := 1) (pc2 := 1) (ls2 := [(0, .ref 162)]) (st2 := [.ref 162]) (h2 := h) (dc2 := 0) (ds2 := 0) 1 rfl ?_
  refine wq_getf rfl hM rfl rfl ?_
  refine wq_gos (f := 1) (pc2 := 7) (ls2 := [(0, .ref 162)]) (st2 := []) (h2 := h) (dc2 := 0) (ds2 := 0) 1 rfl ?_
  exact wq_ret rfl rfl rfl
theorem mNum_r {lo hi kn am : List Int32} {fo : List Int64} (h : wFd 4800 (mSol lo hi kn am) fo) : ((mNum (mSol lo hi kn am)).toInt = -3 ∨ 0 ≤ (mNum (mSol lo hi kn am)).toInt) ∧ (mNum (mSol lo hi kn am)).toInt ≤ 600 := by
  cases e : mSol lo hi kn am with
  | none => exact ⟨Or.inl rfl, by decide⟩
  | some l =>
    rw [e] at h
    show ((nI l.length).toInt = -3 ∨ 0 ≤ (nI l.length).toInt) ∧ (nI l.length).toInt ≤ 600
    have h1 : l.length ≤ 600 := h.1
    rw [nI_toInt (by omega)]
    omega
theorem m_sva {h : zH} {n0 n2 n14 n15 n16 n17 n18 n19 n20 n21 n22 n23 n27 n28 n32 n33 n34 n35 n39 n52 : Int32} {kn lo hi on pa pb : List Int32} {fo : List Int64} {am : List Int32} (hM : zat h 162 = some (.inr (.inr (.inr (10, mO n0 n2 n14 n15 n16 n17 n18 n19 n20 n21 n22 n23 n27 n28 n32 n33 n34 n35 n39 n52))))) (hKn : zat h 166 = some (.inl (0, 14, kn))) (hLo : zat h 168 = some (.inl (0, 12, lo))) (hHi : zat h 170 = some (.inl (0, 12, hi))) (hFo : zat h 196 = some (.inr (.inl (6000, fo)))) (hOn : zat h 204 = some (.inl (0, 6, on))) (h200 : zat h 200 = some (.inl (0, 4096, pa))) (h202 : zat h 202 = some (.inl (0, 4096, pb))) (hAm : zat h 190 = some (.inl (0, 6, am))) (h01 : n33 = 0 ∨ n33 = 1) (hSA : n33 = 1 → n32 = mNum (mSol lo hi kn am) ∧ wFd 4800 (mSol lo hi kn am) fo) : wq 227 0 [(0, .ref 162)] [] h 0 0 (fun rr9 => ∃ (h2 : zH) (m34 : Int32) (m35 : Int32) (m39 : Int32) (fo2 : List Int64) (on2 : List Int32) (pa2 : List Int32) (pb2 : List Int32), rr9 = (none, h2, 0, 0) ∧ wFr [162, 196, 204, 200, 202] h h2 ∧ h2.length = h.length ∧ zat h2 162 = some (.inr (.inr (.inr (10, mO n0 n2 n14 n15 n16 n17 n18 n19 n20 n21 n22 n23 n27 n28 (mNum (mSol lo hi kn am)) (1 : Int32) m34 m35 m39 n52)))) ∧ zat h2 196 = some (.inr (.inl (6000, fo2))) ∧ zat h2 204 = some (.inl (0, 6, on2)) ∧ zat h2 200 = some (.inl (0, 4096, pa2)) ∧ zat h2 202 = some (.inl (0, 4096, pb2)) ∧ (wFe (fun q => fo.getD q 0) 4800 (mSol lo hi kn am) fo2) ∧ (((mNum (mSol lo hi kn am)).toInt = -3 ∨ 0 ≤ (mNum (mSol lo hi kn am)).toInt) ∧ (mNum (mSol lo hi kn am)).toInt ≤ 600)) := by
  rcases h01 with rfl | rfl
  · refine wq_mono (m_svN hM hKn hLo hHi hFo hOn h200 h202 hAm) ?_
    rintro _ ⟨h2, a1, a2, a3, a4, a5, a6, a7, rfl, k1, k2, k3, k4, k5, k6, k7, w⟩
    exact ⟨h2, a1, a2, a3, a4, a5, a6, a7, rfl, k1, k2, k3, k4, k5, k6, k7, w, mNum_r w.1⟩
  · obtain ⟨e32, w⟩ := hSA rfl
    subst e32
    refine wq_mono (m_svK hM) ?_
    rintro _ rfl
    exact ⟨h, n34, n35, n39, fo, on, pa, pb, rfl, wFr_rf _ _, rfl, hM, hFo, hOn, h200, h202, ⟨w, fun _ _ => rfl⟩, mNum_r w⟩
noncomputable def mSols (n9 : Int32) (fo9 : List Int64)  : Int32 := n9
set_option maxRecDepth 100000 in
set_option maxHeartbeats 4000000 in
theorem m_sols {h : zH} {n0 n2 n14 n15 n16 n17 n18 n19 n20 n21 n22 n23 n27 n28 n32 n33 n34 n35 n39 n52 : Int32} {kn lo hi on pa pb : List Int32} {fo : List Int64} {am : List Int32} (hM : zat h 162 = some (.inr (.inr (.inr (10, mO n0 n2 n14 n15 n16 n17 n18 n19 n20 n21 n22 n23 n27 n28 n32 n33 n34 n35 n39 n52))))) (hKn : zat h 166 = some (.inl (0, 14, kn))) (hLo : zat h 168 = some (.inl (0, 12, lo))) (hHi : zat h 170 = some (.inl (0, 12, hi))) (hFo : zat h 196 = some (.inr (.inl (6000, fo)))) (hOn : zat h 204 = some (.inl (0, 6, on))) (h200 : zat h 200 = some (.inl (0, 4096, pa))) (h202 : zat h 202 = some (.inl (0, 4096, pb))) (hAm : zat h 190 = some (.inl (0, 6, am))) (h01 : n33 = 0 ∨ n33 = 1) (hSA : n33 = 1 → n32 = mNum (mSol lo hi kn am) ∧ wFd 4800 (mSol lo hi kn am) fo) : wq 229 0 [(0, .ref 162)] [] h 0 0 (fun rr9 => ∃ (h2 : zH) (m34 : Int32) (m35 : Int32) (m39 : Int32) (fo2 : List Int64) (on2 : List Int32) (pa2 : List Int32) (pb2 : List Int32), rr9 = (some (.int (mSols (mNum (mSol lo hi kn am)) fo2 )), h2, 0, 0) ∧ wFr [162, 196, 204, 200, 202] h h2 ∧ h2.length = h.length ∧ zat h2 162 = some (.inr (.inr (.inr (10, mO (0 : Int32) n2 n14 n15 n16 n17 n18 n19 n20 n21 n22 n23 n27 n28 (mNum (mSol lo hi kn am)) (1 : Int32) m34 m35 m39 n52)))) ∧ zat h2 196 = some (.inr (.inl (6000, fo2))) ∧ zat h2 204 = some (.inl (0, 6, on2)) ∧ zat h2 200 = some (.inl (0, 4096, pa2)) ∧ zat h2 202 = some (.inl (0, 4096, pb2)) ∧ (wFe (fun q => fo.getD q 0) 4800 (mSol lo hi kn am) fo2) ∧ (((mNum (mSol lo hi kn am)).toInt = -3 ∨ 0 ≤ (mNum (mSol lo hi kn am)).toInt) ∧ (mNum (mSol lo hi kn am)).toInt ≤ 600)) := by
  refine wq_gos (f := 1) (pc2 := 2) (ls2 := [(0, .ref 162)]) (st2 := [.int 0, .ref 162]) (h2 := h) (dc2 := 0) (ds2 := 0) 2 rfl ?_
  refine wq_putf rfl hM rfl rfl rfl ?_
  intro hh1x e2x ff3x lh4x
  have e2x : zat hh1x 162 = some (.inr (.inr (.inr (10, mO (0 : Int32) n2 n14 n15 n16 n17 n18 n19 n20 n21 n22 n23 n27 n28 n32 n33 n34 n35 n39 n52)))) := e2x
  refine wq_gos (f := 1) (pc2 := 6) (ls2 := [(0, .ref 162)]) (st2 := [.ref 162]) (h2 := hh1x) (dc2 := 0) (ds2 := 0) 1 rfl ?_
  have e5x := (ff3x.2 _ _ (wnc (by decide) wn0) hKn)
  have e6x := (ff3x.2 _ _ (wnc (by decide) wn0) hLo)
  have e7x := (ff3x.2 _ _ (wnc (by decide) wn0) hHi)
  have e8x := (ff3x.2 _ _ (wnc (by decide) wn0) hFo)
  have e9x := (ff3x.2 _ _ (wnc (by decide) wn0) hOn)
  have e10x := (ff3x.2 _ _ (wnc (by decide) wn0) h200)
  have e11x := (ff3x.2 _ _ (wnc (by decide) wn0) h202)
  have e12x := (ff3x.2 _ _ (wnc (by decide) wn0) hAm)
  refine wq_inlv (y2 := 227) (as := []) rfl rfl rfl e2x rfl (wq_mono (m_sva e2x e5x e6x e7x e8x e9x e10x e11x e12x (by first | assumption | omega | decide | solve_by_elim) (by first | assumption | omega | decide | solve_by_elim)) ?_)
  rintro _ ⟨h813x, m3413x, m3513x, m3913x, fo213x, on213x, pa213x, pb213x, rfl, f813x, l813x, c013x, c113x, c213x, c313x, c413x, p013x, p113x⟩
  show wq 229 9 [(0, .ref 162)] [] h813x 0 0 _
  refine wq_gos (f := 1) (pc2 := 10) (ls2 := [(0, .ref 162)]) (st2 := [.ref 162]) (h2 := h813x) (dc2 := 0) (ds2 := 0) 1 rfl ?_
  refine wq_getf rfl c013x rfl rfl ?_
  have w14x : (mSols (mNum (mSol lo hi kn am)) fo213x ) = (mNum (mSol lo hi kn am)) := by unfold mSols; rfl
  exact wq_ret rfl rfl ⟨h813x, m3413x, m3513x, m3913x, fo213x, on213x, pa213x, pb213x, (by rw [w14x]), (wFr_tr (wFr_sub ff3x (by simp)) (wFr_sub f813x (by simp))), (by omega), c013x, c113x, c213x, c313x, c413x, (by first | assumption | omega | decide | solve_by_elim), (by first | assumption | omega | decide | solve_by_elim)⟩
