/-! The reference: nearest, clearest, why. -/
set_option maxRecDepth 100000 in
set_option maxHeartbeats 4000000 in
theorem m_near {h : zH} {Q : zR → Prop} {n0 n2 n14 n15 n16 n17 n18 n19 n20 n21 n22 n23 n27 n28 n32 n33 n34 n35 n39 n52 : Int32} {kn lo hi on pa pb : List Int32} {fo : List Int64} {am : List Int32} {sv nw h1 : List Int32} {u : Int32} (hM : zat h 162 = some (.inr (.inr (.inr (10, mO n0 n2 n14 n15 n16 n17 n18 n19 n20 n21 n22 n23 n27 n28 n32 n33 n34 n35 n39 n52))))) (hKn : zat h 166 = some (.inl (0, 14, kn))) (hLo : zat h 168 = some (.inl (0, 12, lo))) (hHi : zat h 170 = some (.inl (0, 12, hi))) (hFo : zat h 196 = some (.inr (.inl (6000, fo)))) (hOn : zat h 204 = some (.inl (0, 6, on))) (h200 : zat h 200 = some (.inl (0, 4096, pa))) (h202 : zat h 202 = some (.inl (0, 4096, pb))) (hAm : zat h 190 = some (.inl (0, 6, am))) (hSv : zat h 172 = some (.inl (0, 12, sv))) (hNw : zat h 188 = some (.inl (0, 6, nw))) (hH1 : zat h 206 = some (.inl (0, 6, h1))) (h01 : n33 = 0 ∨ n33 = 1) (hSA : n33 = 1 → n32 = mNum (mSol lo hi kn am) ∧ wFd 4800 (mSol lo hi kn am) fo) (hsv : ∀ i, i < 6 → 1 ≤ (sv.getD i 0).toInt) (k3 : ∀ (h2 : zH) (m34 : Int32) (m35 : Int32) (m39 : Int32) (fo2 : List Int64) (on2 : List Int32) (pa2 : List Int32) (pb2 : List Int32), (wFr [162, 196, 204, 200, 202] h h2) → (h2.length = h.length) → (zat h2 162 = some (.inr (.inr (.inr (10, mO (0 : Int32) n2 n14 n15 n16 n17 n18 n19 n20 n21 n22 n23 n27 n28 (mNum (mSol lo hi kn am)) (1 : Int32) m34 m35 m39 n52))))) → (zat h2 196 = some (.inr (.inl (6000, fo2)))) → (zat h2 204 = some (.inl (0, 6, on2))) → (zat h2 200 = some (.inl (0, 4096, pa2))) → (zat h2 202 = some (.inl (0, 4096, pb2))) → (wFe (fun q => fo.getD q 0) 4800 (mSol lo hi kn am) fo2) → (((mNum (mSol lo hi kn am)).toInt = -3 ∨ 0 ≤ (mNum (mSol lo hi kn am)).toInt) ∧ (mNum (mSol lo hi kn am)).toInt ≤ 600) → ((mNum (mSol lo hi kn am)).toInt = -3) → Q (some (.int (-3)), h2, 0, 0)) (kN : ∀ (h2 : zH) (m34 : Int32) (m35 : Int32) (m39 : Int32) (fo2 : List Int64) (on2 : List Int32) (pa2 : List Int32) (pb2 : List Int32) (h12 : List Int32), (wFr [162, 196, 204, 200, 202, 206] h h2) → (h2.length = h.length) → (zat h2 162 = some (.inr (.inr (.inr (10, mO (0 : Int32) n2 n14 n15 n16 n17 n18 n19 n20 n21 n22 n23 n27 n28 (nI (mNum (mSol lo hi kn am)).toNatClampNeg) (1 : Int32) m34 m35 m39 n52))))) → (zat h2 196 = some (.inr (.inl (6000, fo2)))) → (zat h2 204 = some (.inl (0, 6, on2))) → (zat h2 200 = some (.inl (0, 4096, pa2))) → (zat h2 202 = some (.inl (0, 4096, pb2))) → (zat h2 206 = some (.inl (0, 6, h12))) → (wFe (fun q => fo.getD q 0) 4800 (mSol lo hi kn am) fo2) → (((mNum (mSol lo hi kn am)).toInt = -3 ∨ 0 ≤ (mNum (mSol lo hi kn am)).toInt) ∧ (mNum (mSol lo hi kn am)).toInt ≤ 600) → (mNum (mSol lo hi kn am) = nI (mNum (mSol lo hi kn am)).toNatClampNeg ∧ (mNum (mSol lo hi kn am)).toNatClampNeg ≤ 600) → Q (some (.int (mneF fo2 sv nw (mNum (mSol lo hi kn am)).toNatClampNeg u ((mNum (mSol lo hi kn am)).toNatClampNeg - 0 + 1) (-2) 0 0 h1).1), h2, 0, 0)) : wq 237 0 [(0, .ref 162), (1, .int u)] [] h 0 0 Q := by
  have z0 : (0 : Int32).toInt = 0 := rfl
  have z1 : (1 : Int32).toInt = 1 := rfl
  have z5 : (5 : Int32).toInt = 5 := rfl
  have z6 : (6 : Int32).toInt = 6 := rfl
  have zm1 : (-1 : Int32).toInt = -1 := rfl
  have z3 : (3 : Int32).toInt = 3 := rfl
  have z2 : (2 : Int32).toInt = 2 := rfl
  have z20 : (20 : Int32).toInt = 20 := rfl
  have zm3 : (-3 : Int32).toInt = -3 := rfl
  refine wq_gos (f := 1) (pc2 := 2) (ls2 := [(0, .ref 162), (1, .int u)]) (st2 := [.int 0, .ref 162]) (h2 := h) (dc2 := 0) (ds2 := 0) 2 rfl ?_
  refine wq_putf rfl hM rfl rfl rfl ?_
  intro hh1x e2x ff3x lh4x
  have e2x : zat hh1x 162 = some (.inr (.inr (.inr (10, mO (0 : Int32) n2 n14 n15 n16 n17 n18 n19 n20 n21 n22 n23 n27 n28 n32 n33 n34 n35 n39 n52)))) := e2x
  refine wq_gos (f := 1) (pc2 := 6) (ls2 := [(0, .ref 162), (1, .int u)]) (st2 := [.ref 162]) (h2 := hh1x) (dc2 := 0) (ds2 := 0) 1 rfl ?_
  have e5x := (ff3x.2 _ _ (wnc (by decide) wn0) hKn)
  have e6x := (ff3x.2 _ _ (wnc (by decide) wn0) hLo)
  have e7x := (ff3x.2 _ _ (wnc (by decide) wn0) hHi)
  have e8x := (ff3x.2 _ _ (wnc (by decide) wn0) hFo)
  have e9x := (ff3x.2 _ _ (wnc (by decide) wn0) hOn)
  have e10x := (ff3x.2 _ _ (wnc (by decide) wn0) h200)
  have e11x := (ff3x.2 _ _ (wnc (by decide) wn0) h202)
  have e12x := (ff3x.2 _ _ (wnc (by decide) wn0) hAm)
  refine wq_inlv (y2 := 227) (as := []) rfl rfl rfl e2x rfl (wq_mono (m_sva e2x e5x e6x e7x e8x e9x e10x e11x e12x (by first | assumption | omega | decide | solve_by_elim) (by first | assumption | omega | decide | solve_by_elim)) ?_)
  rintro _ ⟨h813x, m3413x, m3513x, m3913x, fo213x, on213x, pa213x, pb213x, rfl, f813x, l813x, c013x, c113x, c213x, c313x, c413x, p013x, p113x⟩
  show wq 237 9 [(0, .ref 162), (1, .int u)] [] h813x 0 0 _
  refine wq_gos (f := 1) (pc2 := 10) (ls2 := [(0, .ref 162), (1, .int u)]) (st2 := [.ref 162]) (h2 := h813x) (dc2 := 0) (ds2 := 0) 1 rfl ?_
  refine wq_getf rfl c013x rfl rfl ?_
  refine wq_gos (f := 1) (pc2 := 15) (ls2 := [(0, .ref 162), (1, .int u)]) (st2 := [.int (-3), .int (mNum (mSol lo hi kn am))]) (h2 := h813x) (dc2 := 0) (ds2 := 0) 1 rfl ?_
  have q14x : (-3 : Int32).toInt = -3 := rfl
  refine wq_ne2 rfl rfl (fun b15x => ?_) (fun b15x => ?_)
  · have q16x : (mNum (mSol lo hi kn am)).toInt ≠ -3 := fun q => b15x (Int32.toInt_inj.mp q)
    have en9 : mNum (mSol lo hi kn am) = nI (mNum (mSol lo hi kn am)).toNatClampNeg := nI_cl (by omega)
    have eb9 : (mNum (mSol lo hi kn am)).toNatClampNeg ≤ 600 := by show (mNum (mSol lo hi kn am)).toInt.toNat ≤ 600; omega
    have e17x : zat h813x 162 = some (.inr (.inr (.inr (10, mO (0 : Int32) n2 n14 n15 n16 n17 n18 n19 n20 n21 n22 n23 n27 n28 (nI (mNum (mSol lo hi kn am)).toNatClampNeg) (1 : Int32) m3413x m3513x m3913x n52)))) := by rw [← en9]; exact c013x
    refine wq_gos (f := 1) (pc2 := 29) (ls2 := [(4, .int 0), (3, .int 0), (2, .int (-2)), (0, .ref 162), (1, .int u)]) (st2 := []) (h2 := h813x) (dc2 := 0) (ds2 := 0) 6 rfl ?_
    have e18x := (f813x.2 _ _ (wnc (by decide) (wnc (by decide) (wnc (by decide) (wnc (by decide) (wnc (by decide) wn0))))) (ff3x.2 _ _ (wnc (by decide) wn0) hSv))
    have e19x := (f813x.2 _ _ (wnc (by decide) (wnc (by decide) (wnc (by decide) (wnc (by decide) (wnc (by decide) wn0))))) (ff3x.2 _ _ (wnc (by decide) wn0) hNw))
    have e20x := (f813x.2 _ _ (wnc (by decide) (wnc (by decide) (wnc (by decide) (wnc (by decide) (wnc (by decide) wn0))))) (ff3x.2 _ _ (wnc (by decide) wn0) hH1))
    refine wq_ls [(0, .ref 162), (1, .int u), (2, .int (-2)), (3, .int 0), (4, .int (nI 0))] (show ([0, 1, 2, 3, 4] : List Nat).Nodup by decide) ⟨rfl, rfl, rfl, rfl, rfl, trivial⟩ ?_
    refine wq_mono (m_neL eb9 (by first | assumption | omega | decide | solve_by_elim) (((mNum (mSol lo hi kn am)).toNatClampNeg - 0) + 1) (-2 : Int32) (0 : Int32) 0 h1 h813x e17x c113x e18x e19x e20x (by first | assumption | omega | decide | solve_by_elim) (by omega) 0 0) ?_
    rintro _ ⟨h823x, rfl, f823x, l823x, c023x⟩
    obtain ⟨v21x, hv22x⟩ : ∃ x, x = (mneF fo213x sv nw (mNum (mSol lo hi kn am)).toNatClampNeg u (((mNum (mSol lo hi kn am)).toNatClampNeg - 0) + 1) (-2 : Int32) (0 : Int32) 0 h1) := ⟨_, rfl⟩
    try rw [← hv22x] at c023x
    try rw [← hv22x]
    have e24x := (f823x.2 _ _ (wnc (by decide) wn0) e17x)
    have e25x := (f823x.2 _ _ (wnc (by decide) wn0) c113x)
    have e26x := (f823x.2 _ _ (wnc (by decide) wn0) c213x)
    have e27x := (f823x.2 _ _ (wnc (by decide) wn0) c313x)
    have e28x := (f823x.2 _ _ (wnc (by decide) wn0) c413x)
    subst hv22x
    exact (kN h823x m3413x m3513x m3913x fo213x on213x pa213x pb213x ((mneF fo213x sv nw (mNum (mSol lo hi kn am)).toNatClampNeg u (((mNum (mSol lo hi kn am)).toNatClampNeg - 0) + 1) (-2 : Int32) (0 : Int32) 0 h1).2) (wFr_tr (wFr_sub ff3x (by simp)) (wFr_tr (wFr_sub f813x (by simp)) (wFr_sub f823x (by simp)))) (by omega) e24x e25x e26x e27x e28x c023x (by first | assumption | omega | decide | solve_by_elim) (by first | assumption | omega | decide | solve_by_elim) (by first | exact ⟨en9, eb9⟩ | assumption | omega))
  · have q29x : (mNum (mSol lo hi kn am)).toInt = -3 := congrArg Int32.toInt b15x
    refine wq_gos (f := 1) (pc2 := 20) (ls2 := [(0, .ref 162), (1, .int u)]) (st2 := [.int (-3)]) (h2 := h813x) (dc2 := 0) (ds2 := 0) 1 rfl ?_
    exact wq_ret rfl rfl (k3 h813x m3413x m3513x m3913x fo213x on213x pa213x pb213x (wFr_tr (wFr_sub ff3x (by simp)) (wFr_sub f813x (by simp))) (by omega) c013x c113x c213x c313x c413x (by first | assumption | omega | decide | solve_by_elim) (by first | assumption | omega | decide | solve_by_elim) (by first | exact ⟨en9, eb9⟩ | assumption | omega))
set_option maxRecDepth 100000 in
set_option maxHeartbeats 4000000 in
theorem m_clrs {h : zH} {Q : zR → Prop} {n0 n2 n14 n15 n16 n17 n18 n19 n20 n21 n22 n23 n27 n28 n32 n33 n34 n35 n39 n52 : Int32} {kn lo hi on pa pb : List Int32} {fo : List Int64} {am : List Int32} {h1 : List Int32} (hM : zat h 162 = some (.inr (.inr (.inr (10, mO n0 n2 n14 n15 n16 n17 n18 n19 n20 n21 n22 n23 n27 n28 n32 n33 n34 n35 n39 n52))))) (hKn : zat h 166 = some (.inl (0, 14, kn))) (hLo : zat h 168 = some (.inl (0, 12, lo))) (hHi : zat h 170 = some (.inl (0, 12, hi))) (hFo : zat h 196 = some (.inr (.inl (6000, fo)))) (hOn : zat h 204 = some (.inl (0, 6, on))) (h200 : zat h 200 = some (.inl (0, 4096, pa))) (h202 : zat h 202 = some (.inl (0, 4096, pb))) (hAm : zat h 190 = some (.inl (0, 6, am))) (hH1 : zat h 206 = some (.inl (0, 6, h1))) (h01 : n33 = 0 ∨ n33 = 1) (hSA : n33 = 1 → n32 = mNum (mSol lo hi kn am) ∧ wFd 4800 (mSol lo hi kn am) fo) (k3 : ∀ (h2 : zH) (m34 : Int32) (m35 : Int32) (m39 : Int32) (fo2 : List Int64) (on2 : List Int32) (pa2 : List Int32) (pb2 : List Int32), (wFr [162, 196, 204, 200, 202] h h2) → (h2.length = h.length) → (zat h2 162 = some (.inr (.inr (.inr (10, mO (0 : Int32) n2 n14 n15 n16 n17 n18 n19 n20 n21 n22 n23 n27 n28 (mNum (mSol lo hi kn am)) (1 : Int32) m34 m35 m39 n52))))) → (zat h2 196 = some (.inr (.inl (6000, fo2)))) → (zat h2 204 = some (.inl (0, 6, on2))) → (zat h2 200 = some (.inl (0, 4096, pa2))) → (zat h2 202 = some (.inl (0, 4096, pb2))) → (wFe (fun q => fo.getD q 0) 4800 (mSol lo hi kn am) fo2) → (((mNum (mSol lo hi kn am)).toInt = -3 ∨ 0 ≤ (mNum (mSol lo hi kn am)).toInt) ∧ (mNum (mSol lo hi kn am)).toInt ≤ 600) → ((mNum (mSol lo hi kn am)).toInt = -3) → Q (some (.int (-3)), h2, 0, 0)) (kN : ∀ (h2 : zH) (m34 : Int32) (m35 : Int32) (m39 : Int32) (fo2 : List Int64) (on2 : List Int32) (pa2 : List Int32) (pb2 : List Int32) (h12 : List Int32), (wFr [162, 196, 204, 200, 202, 206] h h2) → (h2.length = h.length) → (zat h2 162 = some (.inr (.inr (.inr (10, mO (0 : Int32) n2 n14 n15 n16 n17 n18 n19 n20 n21 n22 n23 n27 n28 (nI (mNum (mSol lo hi kn am)).toNatClampNeg) (1 : Int32) m34 m35 m39 n52))))) → (zat h2 196 = some (.inr (.inl (6000, fo2)))) → (zat h2 204 = some (.inl (0, 6, on2))) → (zat h2 200 = some (.inl (0, 4096, pa2))) → (zat h2 202 = some (.inl (0, 4096, pb2))) → (zat h2 206 = some (.inl (0, 6, h12))) → (wFe (fun q => fo.getD q 0) 4800 (mSol lo hi kn am) fo2) → (((mNum (mSol lo hi kn am)).toInt = -3 ∨ 0 ≤ (mNum (mSol lo hi kn am)).toInt) ∧ (mNum (mSol lo hi kn am)).toInt ≤ 600) → (mNum (mSol lo hi kn am) = nI (mNum (mSol lo hi kn am)).toNatClampNeg ∧ (mNum (mSol lo hi kn am)).toNatClampNeg ≤ 600) → Q (some (.int (mclF fo2 (mNum (mSol lo hi kn am)).toNatClampNeg ((mNum (mSol lo hi kn am)).toNatClampNeg - 0 + 1) (-2) (-1) 0 h1).1), h2, 0, 0)) : wq 238 0 [(0, .ref 162)] [] h 0 0 Q := by
  have z0 : (0 : Int32).toInt = 0 := rfl
  have z1 : (1 : Int32).toInt = 1 := rfl
  have z5 : (5 : Int32).toInt = 5 := rfl
  have z6 : (6 : Int32).toInt = 6 := rfl
  have zm1 : (-1 : Int32).toInt = -1 := rfl
  have z3 : (3 : Int32).toInt = 3 := rfl
  have z2 : (2 : Int32).toInt = 2 := rfl
  have z20 : (20 : Int32).toInt = 20 := rfl
  have zm3 : (-3 : Int32).toInt = -3 := rfl
  refine wq_gos (f := 1) (pc2 := 2) (ls2 := [(0, .ref 162)]) (st2 := [.int 0, .ref 162]) (h2 := h) (dc2 := 0) (ds2 := 0) 2 rfl ?_
  refine wq_putf rfl hM rfl rfl rfl ?_
  intro hh1x e2x ff3x lh4x
  have e2x : zat hh1x 162 = some (.inr (.inr (.inr (10, mO (0 : Int32) n2 n14 n15 n16 n17 n18 n19 n20 n21 n22 n23 n27 n28 n32 n33 n34 n35 n39 n52)))) := e2x
  refine wq_gos (f := 1) (pc2 := 6) (ls2 := [(0, .ref 162)]) (st2 := [.ref 162]) (h2 := hh1x) (dc2 := 0) (ds2 := 0) 1 rfl ?_
  have e5x := (ff3x.2 _ _ (wnc (by decide) wn0) hKn)
  have e6x := (ff3x.2 _ _ (wnc (by decide) wn0) hLo)
  have e7x := (ff3x.2 _ _ (wnc (by decide) wn0) hHi)
  have e8x := (ff3x.2 _ _ (wnc (by decide) wn0) hFo)
  have e9x := (ff3x.2 _ _ (wnc (by decide) wn0) hOn)
  have e10x := (ff3x.2 _ _ (wnc (by decide) wn0) h200)
  have e11x := (ff3x.2 _ _ (wnc (by decide) wn0) h202)
  have e12x := (ff3x.2 _ _ (wnc (by decide) wn0) hAm)
  refine wq_inlv (y2 := 227) (as := []) rfl rfl rfl e2x rfl (wq_mono (m_sva e2x e5x e6x e7x e8x e9x e10x e11x e12x (by first | assumption | omega | decide | solve_by_elim) (by first | assumption | omega | decide | solve_by_elim)) ?_)
  rintro _ ⟨h813x, m3413x, m3513x, m3913x, fo213x, on213x, pa213x, pb213x, rfl, f813x, l813x, c013x, c113x, c213x, c313x, c413x, p013x, p113x⟩
  show wq 238 9 [(0, .ref 162)] [] h813x 0 0 _
  refine wq_gos (f := 1) (pc2 := 10) (ls2 := [(0, .ref 162)]) (st2 := [.ref 162]) (h2 := h813x) (dc2 := 0) (ds2 := 0) 1 rfl ?_
  refine wq_getf rfl c013x rfl rfl ?_
  refine wq_gos (f := 1) (pc2 := 15) (ls2 := [(0, .ref 162)]) (st2 := [.int (-3), .int (mNum (mSol lo hi kn am))]) (h2 := h813x) (dc2 := 0) (ds2 := 0) 1 rfl ?_
  have q14x : (-3 : Int32).toInt = -3 := rfl
  refine wq_ne2 rfl rfl (fun b15x => ?_) (fun b15x => ?_)
  · have q16x : (mNum (mSol lo hi kn am)).toInt ≠ -3 := fun q => b15x (Int32.toInt_inj.mp q)
    have en9 : mNum (mSol lo hi kn am) = nI (mNum (mSol lo hi kn am)).toNatClampNeg := nI_cl (by omega)
    have eb9 : (mNum (mSol lo hi kn am)).toNatClampNeg ≤ 600 := by show (mNum (mSol lo hi kn am)).toInt.toNat ≤ 600; omega
    have e17x : zat h813x 162 = some (.inr (.inr (.inr (10, mO (0 : Int32) n2 n14 n15 n16 n17 n18 n19 n20 n21 n22 n23 n27 n28 (nI (mNum (mSol lo hi kn am)).toNatClampNeg) (1 : Int32) m3413x m3513x m3913x n52)))) := by rw [← en9]; exact c013x
    refine wq_gos (f := 1) (pc2 := 28) (ls2 := [(3, .int 0), (2, .int (-1)), (1, .int (-2)), (0, .ref 162)]) (st2 := []) (h2 := h813x) (dc2 := 0) (ds2 := 0) 6 rfl ?_
    have e18x := (f813x.2 _ _ (wnc (by decide) (wnc (by decide) (wnc (by decide) (wnc (by decide) (wnc (by decide) wn0))))) (ff3x.2 _ _ (wnc (by decide) wn0) hH1))
    refine wq_ls [(0, .ref 162), (1, .int (-2)), (2, .int (-1)), (3, .int (nI 0))] (show ([0, 1, 2, 3] : List Nat).Nodup by decide) ⟨rfl, rfl, rfl, rfl, trivial⟩ ?_
    refine wq_mono (m_clL eb9 (((mNum (mSol lo hi kn am)).toNatClampNeg - 0) + 1) (-2 : Int32) (-1 : Int32) 0 h1 h813x e17x c113x e18x (by first | assumption | omega | decide | solve_by_elim) (by omega) 0 0) ?_
    rintro _ ⟨h821x, rfl, f821x, l821x, c021x⟩
    obtain ⟨v19x, hv20x⟩ : ∃ x, x = (mclF fo213x (mNum (mSol lo hi kn am)).toNatClampNeg (((mNum (mSol lo hi kn am)).toNatClampNeg - 0) + 1) (-2 : Int32) (-1 : Int32) 0 h1) := ⟨_, rfl⟩
    try rw [← hv20x] at c021x
    try rw [← hv20x]
    have e22x := (f821x.2 _ _ (wnc (by decide) wn0) e17x)
    have e23x := (f821x.2 _ _ (wnc (by decide) wn0) c113x)
    have e24x := (f821x.2 _ _ (wnc (by decide) wn0) c213x)
    have e25x := (f821x.2 _ _ (wnc (by decide) wn0) c313x)
    have e26x := (f821x.2 _ _ (wnc (by decide) wn0) c413x)
    subst hv20x
    exact (kN h821x m3413x m3513x m3913x fo213x on213x pa213x pb213x ((mclF fo213x (mNum (mSol lo hi kn am)).toNatClampNeg (((mNum (mSol lo hi kn am)).toNatClampNeg - 0) + 1) (-2 : Int32) (-1 : Int32) 0 h1).2) (wFr_tr (wFr_sub ff3x (by simp)) (wFr_tr (wFr_sub f813x (by simp)) (wFr_sub f821x (by simp)))) (by omega) e22x e23x e24x e25x e26x c021x (by first | assumption | omega | decide | solve_by_elim) (by first | assumption | omega | decide | solve_by_elim) (by first | exact ⟨en9, eb9⟩ | assumption | omega))
  · have q27x : (mNum (mSol lo hi kn am)).toInt = -3 := congrArg Int32.toInt b15x
    refine wq_gos (f := 1) (pc2 := 20) (ls2 := [(0, .ref 162)]) (st2 := [.int (-3)]) (h2 := h813x) (dc2 := 0) (ds2 := 0) 1 rfl ?_
    exact wq_ret rfl rfl (k3 h813x m3413x m3513x m3913x fo213x on213x pa213x pb213x (wFr_tr (wFr_sub ff3x (by simp)) (wFr_sub f813x (by simp))) (by omega) c013x c113x c213x c313x c413x (by first | assumption | omega | decide | solve_by_elim) (by first | assumption | omega | decide | solve_by_elim) (by first | exact ⟨en9, eb9⟩ | assumption | omega))
set_option maxRecDepth 100000 in
set_option maxHeartbeats 4000000 in
theorem m_why {h : zH} {Q : zR → Prop} {n0 n2 n14 n15 n16 n17 n18 n19 n20 n21 n22 n23 n27 n28 n32 n33 n34 n35 n39 n52 : Int32} {kn lo hi on pa pb : List Int32} {fo : List Int64} {am : List Int32} (hM : zat h 162 = some (.inr (.inr (.inr (10, mO n0 n2 n14 n15 n16 n17 n18 n19 n20 n21 n22 n23 n27 n28 n32 n33 n34 n35 n39 n52))))) (hKn : zat h 166 = some (.inl (0, 14, kn))) (hLo : zat h 168 = some (.inl (0, 12, lo))) (hHi : zat h 170 = some (.inl (0, 12, hi))) (hFo : zat h 196 = some (.inr (.inl (6000, fo)))) (hOn : zat h 204 = some (.inl (0, 6, on))) (h200 : zat h 200 = some (.inl (0, 4096, pa))) (h202 : zat h 202 = some (.inl (0, 4096, pb))) (hAm : zat h 190 = some (.inl (0, 6, am))) (h01 : n33 = 0 ∨ n33 = 1) (hSA : n33 = 1 → n32 = mNum (mSol lo hi kn am) ∧ wFd 4800 (mSol lo hi kn am) fo) (kN : ∀ (h2 : zH) (m34 : Int32) (m35 : Int32) (m39 : Int32) (fo2 : List Int64) (on2 : List Int32) (pa2 : List Int32) (pb2 : List Int32), (wFr [162, 196, 204, 200, 202] h h2) → (h2.length = h.length) → (zat h2 162 = some (.inr (.inr (.inr (10, mO (0 : Int32) n2 n14 n15 n16 n17 n18 n19 n20 n21 n22 n23 n27 n28 (mNum (mSol lo hi kn am)) (1 : Int32) m34 m35 m39 n52))))) → (zat h2 196 = some (.inr (.inl (6000, fo2)))) → (zat h2 204 = some (.inl (0, 6, on2))) → (zat h2 200 = some (.inl (0, 4096, pa2))) → (zat h2 202 = some (.inl (0, 4096, pb2))) → (wFe (fun q => fo.getD q 0) 4800 (mSol lo hi kn am) fo2) → (((mNum (mSol lo hi kn am)).toInt = -3 ∨ 0 ≤ (mNum (mSol lo hi kn am)).toInt) ∧ (mNum (mSol lo hi kn am)).toInt ≤ 600) → Q (some (.int m39), h2, 0, 0)) : wq 232 0 [(0, .ref 162)] [] h 0 0 Q := by
  have z0 : (0 : Int32).toInt = 0 := rfl
  have z1 : (1 : Int32).toInt = 1 := rfl
  have z5 : (5 : Int32).toInt = 5 := rfl
  have z6 : (6 : Int32).toInt = 6 := rfl
  have zm1 : (-1 : Int32).toInt = -1 := rfl
  have z3 : (3 : Int32).toInt = 3 := rfl
  have z2 : (2 : Int32).toInt = 2 := rfl
  have z20 : (20 : Int32).toInt = 20 := rfl
  refine wq_gos (f := 1) (pc2 := 2) (ls2 := [(0, .ref 162)]) (st2 := [.int 0, .ref 162]) (h2 := h) (dc2 := 0) (ds2 := 0) 2 rfl ?_
  refine wq_putf rfl hM rfl rfl rfl ?_
  intro hh1x e2x ff3x lh4x
  have e2x : zat hh1x 162 = some (.inr (.inr (.inr (10, mO (0 : Int32) n2 n14 n15 n16 n17 n18 n19 n20 n21 n22 n23 n27 n28 n32 n33 n34 n35 n39 n52)))) := e2x
  refine wq_gos (f := 1) (pc2 := 6) (ls2 := [(0, .ref 162)]) (st2 := [.ref 162]) (h2 := hh1x) (dc2 := 0) (ds2 := 0) 1 rfl ?_
  have e5x := (ff3x.2 _ _ (wnc (by decide) wn0) hKn)
  have e6x := (ff3x.2 _ _ (wnc (by decide) wn0) hLo)
  have e7x := (ff3x.2 _ _ (wnc (by decide) wn0) hHi)
  have e8x := (ff3x.2 _ _ (wnc (by decide) wn0) hFo)
  have e9x := (ff3x.2 _ _ (wnc (by decide) wn0) hOn)
  have e10x := (ff3x.2 _ _ (wnc (by decide) wn0) h200)
  have e11x := (ff3x.2 _ _ (wnc (by decide) wn0) h202)
  have e12x := (ff3x.2 _ _ (wnc (by decide) wn0) hAm)
  refine wq_inlv (y2 := 227) (as := []) rfl rfl rfl e2x rfl (wq_mono (m_sva e2x e5x e6x e7x e8x e9x e10x e11x e12x (by first | assumption | omega | decide | solve_by_elim) (by first | assumption | omega | decide | solve_by_elim)) ?_)
  rintro _ ⟨h813x, m3413x, m3513x, m3913x, fo213x, on213x, pa213x, pb213x, rfl, f813x, l813x, c013x, c113x, c213x, c313x, c413x, p013x, p113x⟩
  show wq 232 9 [(0, .ref 162)] [] h813x 0 0 _
  refine wq_gos (f := 1) (pc2 := 10) (ls2 := [(0, .ref 162)]) (st2 := [.ref 162]) (h2 := h813x) (dc2 := 0) (ds2 := 0) 1 rfl ?_
  refine wq_getf rfl c013x rfl rfl ?_
  exact wq_ret rfl rfl (kN h813x m3413x m3513x m3913x fo213x on213x pa213x pb213x (wFr_tr (wFr_sub ff3x (by simp)) (wFr_sub f813x (by simp))) (by omega) c013x c113x c213x c313x c413x (by first | assumption | omega | decide | solve_by_elim) (by first | assumption | omega | decide | solve_by_elim))
set_option maxRecDepth 100000 in
set_option maxHeartbeats 4000000 in
theorem m_solX {h : zH} {n0 n2 n14 n15 n16 n17 n18 n19 n20 n21 n22 n23 n27 n28 n32 n33 n34 n35 n39 n52 : Int32} {k j : Int32} (hM : zat h 162 = some (.inr (.inr (.inr (10, mO n0 n2 n14 n15 n16 n17 n18 n19 n20 n21 n22 n23 n27 n28 n32 n33 n34 n35 n39 n52))))) (hj : j.toInt < 0 ∨ 5 < j.toInt) : wq 231 0 [(0, .ref 162), (1, .int k), (2, .int j)] [] h 0 0 (fun rr9 => ∃ (h2 : zH), rr9 = (some (.int (-99)), h2, 0, 0) ∧ wFr [162] h h2 ∧ h2.length = h.length ∧ zat h2 162 = some (.inr (.inr (.inr (10, mO (0 : Int32) n2 n14 n15 n16 n17 n18 n19 n20 n21 n22 n23 n27 n28 n32 n33 n34 n35 n39 n52))))) := by
  have z0 : (0 : Int32).toInt = 0 := rfl
  have z1 : (1 : Int32).toInt = 1 := rfl
  have z5 : (5 : Int32).toInt = 5 := rfl
  have z6 : (6 : Int32).toInt = 6 := rfl
  have zm1 : (-1 : Int32).toInt = -1 := rfl
  have z3 : (3 : Int32).toInt = 3 := rfl
  have z2 : (2 : Int32).toInt = 2 := rfl
  have z20 : (20 : Int32).toInt = 20 := rfl
  refine wq_gos (f := 1) (pc2 := 2) (ls2 := [(0, .ref 162), (1, .int k), (2, .int j)]) (st2 := [.int 0, .ref 162]) (h2 := h) (dc2 := 0) (ds2 := 0) 2 rfl ?_
  refine wq_putf rfl hM rfl rfl rfl ?_
  intro hh1x e2x ff3x lh4x
  have e2x : zat hh1x 162 = some (.inr (.inr (.inr (10, mO (0 : Int32) n2 n14 n15 n16 n17 n18 n19 n20 n21 n22 n23 n27 n28 n32 n33 n34 n35 n39 n52)))) := e2x
  refine wq_gos (f := 1) (pc2 := 6) (ls2 := [(0, .ref 162), (1, .int k), (2, .int j)]) (st2 := [.int j]) (h2 := hh1x) (dc2 := 0) (ds2 := 0) 1 rfl ?_
  refine wq_inl (y2 := 208) (as := [.int j]) rfl rfl rfl ?_
  show wq 208 0 [(0, .int j)] [] hh1x 0 0 _
  refine wq_gos (f := 1) (pc2 := 1) (ls2 := [(0, .int j)]) (st2 := [.int j]) (h2 := hh1x) (dc2 := 0) (ds2 := 0) 1 rfl ?_
  refine wq_lt0 rfl rfl (fun b5x => ?_) (fun b5x => ?_)
  · refine wq_gos (f := 1) (pc2 := 15) (ls2 := [(0, .int j)]) (st2 := [.int 0]) (h2 := hh1x) (dc2 := 0) (ds2 := 0) 1 rfl ?_
    refine wq_ret rfl rfl ?_
    show wq 231 9 [(0, .ref 162), (1, .int k), (2, .int j)] [.int 0] hh1x 0 0 _
    refine wq_gos (f := 1) (pc2 := 35) (ls2 := [(0, .ref 162), (1, .int k), (2, .int j)]) (st2 := [.int (-99)]) (h2 := hh1x) (dc2 := 0) (ds2 := 0) 2 rfl ?_
    exact wq_ret rfl rfl ⟨hh1x, rfl, (wFr_sub ff3x (by simp)), (by omega), e2x⟩
  · refine wq_gos (f := 1) (pc2 := 7) (ls2 := [(0, .int j)]) (st2 := [.int 6, .int j]) (h2 := hh1x) (dc2 := 0) (ds2 := 0) 2 rfl ?_
    have q6x : (6 : Int32).toInt = 6 := rfl
    refine wq_ge2t rfl (by omega) ?_
    refine wq_gos (f := 1) (pc2 := 15) (ls2 := [(0, .int j)]) (st2 := [.int 0]) (h2 := hh1x) (dc2 := 0) (ds2 := 0) 1 rfl ?_
    refine wq_ret rfl rfl ?_
    show wq 231 9 [(0, .ref 162), (1, .int k), (2, .int j)] [.int 0] hh1x 0 0 _
    refine wq_gos (f := 1) (pc2 := 35) (ls2 := [(0, .ref 162), (1, .int k), (2, .int j)]) (st2 := [.int (-99)]) (h2 := hh1x) (dc2 := 0) (ds2 := 0) 2 rfl ?_
    exact wq_ret rfl rfl ⟨hh1x, rfl, (wFr_sub ff3x (by simp)), (by omega), e2x⟩
set_option maxRecDepth 100000 in
set_option maxHeartbeats 4000000 in
theorem m_wayX {h : zH} {n0 n2 n14 n15 n16 n17 n18 n19 n20 n21 n22 n23 n27 n28 n32 n33 n34 n35 n39 n52 : Int32} {k w : Int32} (hM : zat h 162 = some (.inr (.inr (.inr (10, mO n0 n2 n14 n15 n16 n17 n18 n19 n20 n21 n22 n23 n27 n28 n32 n33 n34 n35 n39 n52))))) (hw : w.toInt < 0 ∨ 4 < w.toInt) : wq 236 0 [(0, .ref 162), (1, .int k), (2, .int w)] [] h 0 0 (fun rr9 => ∃ (h2 : zH), rr9 = (some (.int (-9)), h2, 0, 0) ∧ wFr [162] h h2 ∧ h2.length = h.length ∧ zat h2 162 = some (.inr (.inr (.inr (10, mO (0 : Int32) n2 n14 n15 n16 n17 n18 n19 n20 n21 n22 n23 n27 n28 n32 n33 n34 n35 n39 n52))))) := by
  have z0 : (0 : Int32).toInt = 0 := rfl
  have z1 : (1 : Int32).toInt = 1 := rfl
  have z5 : (5 : Int32).toInt = 5 := rfl
  have z6 : (6 : Int32).toInt = 6 := rfl
  have zm1 : (-1 : Int32).toInt = -1 := rfl
  have z3 : (3 : Int32).toInt = 3 := rfl
  have z2 : (2 : Int32).toInt = 2 := rfl
  have z20 : (20 : Int32).toInt = 20 := rfl
  have z4 : (4 : Int32).toInt = 4 := rfl
  refine wq_gos (f := 1) (pc2 := 2) (ls2 := [(0, .ref 162), (1, .int k), (2, .int w)]) (st2 := [.int 0, .ref 162]) (h2 := h) (dc2 := 0) (ds2 := 0) 2 rfl ?_
  refine wq_putf rfl hM rfl rfl rfl ?_
  intro hh1x e2x ff3x lh4x
  have e2x : zat hh1x 162 = some (.inr (.inr (.inr (10, mO (0 : Int32) n2 n14 n15 n16 n17 n18 n19 n20 n21 n22 n23 n27 n28 n32 n33 n34 n35 n39 n52)))) := e2x
  refine wq_gos (f := 1) (pc2 := 6) (ls2 := [(0, .ref 162), (1, .int k), (2, .int w)]) (st2 := [.int w]) (h2 := hh1x) (dc2 := 0) (ds2 := 0) 1 rfl ?_
  refine wq_lt0 rfl rfl (fun b5x => ?_) (fun b5x => ?_)
  · refine wq_gos (f := 1) (pc2 := 24) (ls2 := [(0, .ref 162), (1, .int k), (2, .int w)]) (st2 := [.int (-9)]) (h2 := hh1x) (dc2 := 0) (ds2 := 0) 1 rfl ?_
    exact wq_ret rfl rfl ⟨hh1x, rfl, (wFr_sub ff3x (by simp)), (by omega), e2x⟩
  · refine wq_gos (f := 1) (pc2 := 11) (ls2 := [(0, .ref 162), (1, .int k), (2, .int w)]) (st2 := [.int 4, .int w]) (h2 := hh1x) (dc2 := 0) (ds2 := 0) 2 rfl ?_
    have q6x : (4 : Int32).toInt = 4 := rfl
    refine wq_gt2t rfl (by omega) ?_
    refine wq_gos (f := 1) (pc2 := 24) (ls2 := [(0, .ref 162), (1, .int k), (2, .int w)]) (st2 := [.int (-9)]) (h2 := hh1x) (dc2 := 0) (ds2 := 0) 1 rfl ?_
    exact wq_ret rfl rfl ⟨hh1x, rfl, (wFr_sub ff3x (by simp)), (by omega), e2x⟩
set_option maxRecDepth 100000 in
set_option maxHeartbeats 4000000 in
theorem m_setN {h : zH} {n0 n2 n14 n15 n16 n17 n18 n19 n20 n21 n22 n23 n27 n28 n32 n33 n34 n35 n39 n52 : Int32} {j v : Int32} (hM : zat h 162 = some (.inr (.inr (.inr (10, mO n0 n2 n14 n15 n16 n17 n18 n19 n20 n21 n22 n23 n27 n28 n32 n33 n34 n35 n39 n52))))) (hj : j.toInt < 0 ∨ 5 < j.toInt) : wq 212 0 [(0, .ref 162), (1, .int j), (2, .int v)] [] h 0 0 (fun rr9 => ∃ (h2 : zH), rr9 = (some (.int 0), h2, 0, 0) ∧ wFr [162] h h2 ∧ h2.length = h.length ∧ zat h2 162 = some (.inr (.inr (.inr (10, mO (0 : Int32) n2 n14 n15 n16 n17 n18 n19 n20 n21 n22 n23 n27 n28 n32 n33 n34 n35 n39 n52))))) := by
  have z0 : (0 : Int32).toInt = 0 := rfl
  have z1 : (1 : Int32).toInt = 1 := rfl
  have z5 : (5 : Int32).toInt = 5 := rfl
  have z6 : (6 : Int32).toInt = 6 := rfl
  have zm1 : (-1 : Int32).toInt = -1 := rfl
  have z3 : (3 : Int32).toInt = 3 := rfl
  have z2 : (2 : Int32).toInt = 2 := rfl
  have z20 : (20 : Int32).toInt = 20 := rfl
  refine wq_gos (f := 1) (pc2 := 2) (ls2 := [(0, .ref 162), (1, .int j), (2, .int v)]) (st2 := [.int 0, .ref 162]) (h2 := h) (dc2 := 0) (ds2 := 0) 2 rfl ?_
  refine wq_putf rfl hM rfl rfl rfl ?_
  intro hh1x e2x ff3x lh4x
  have e2x : zat hh1x 162 = some (.inr (.inr (.inr (10, mO (0 : Int32) n2 n14 n15 n16 n17 n18 n19 n20 n21 n22 n23 n27 n28 n32 n33 n34 n35 n39 n52)))) := e2x
  refine wq_gos (f := 1) (pc2 := 6) (ls2 := [(0, .ref 162), (1, .int j), (2, .int v)]) (st2 := [.int j]) (h2 := hh1x) (dc2 := 0) (ds2 := 0) 1 rfl ?_
  refine wq_inl (y2 := 208) (as := [.int j]) rfl rfl rfl ?_
  show wq 208 0 [(0, .int j)] [] hh1x 0 0 _
  refine wq_gos (f := 1) (pc2 := 1) (ls2 := [(0, .int j)]) (st2 := [.int j]) (h2 := hh1x) (dc2 := 0) (ds2 := 0) 1 rfl ?_
  refine wq_lt0 rfl rfl (fun b5x => ?_) (fun b5x => ?_)
  · refine wq_gos (f := 1) (pc2 := 15) (ls2 := [(0, .int j)]) (st2 := [.int 0]) (h2 := hh1x) (dc2 := 0) (ds2 := 0) 1 rfl ?_
    refine wq_ret rfl rfl ?_
    show wq 212 9 [(0, .ref 162), (1, .int j), (2, .int v)] [.int 0] hh1x 0 0 _
    refine wq_gos (f := 1) (pc2 := 22) (ls2 := [(0, .ref 162), (1, .int j), (2, .int v)]) (st2 := [.int 0]) (h2 := hh1x) (dc2 := 0) (ds2 := 0) 2 rfl ?_
    exact wq_ret rfl rfl ⟨hh1x, rfl, (wFr_sub ff3x (by simp)), (by omega), e2x⟩
  · refine wq_gos (f := 1) (pc2 := 7) (ls2 := [(0, .int j)]) (st2 := [.int 6, .int j]) (h2 := hh1x) (dc2 := 0) (ds2 := 0) 2 rfl ?_
    have q6x : (6 : Int32).toInt = 6 := rfl
    refine wq_ge2t rfl (by omega) ?_
    refine wq_gos (f := 1) (pc2 := 15) (ls2 := [(0, .int j)]) (st2 := [.int 0]) (h2 := hh1x) (dc2 := 0) (ds2 := 0) 1 rfl ?_
    refine wq_ret rfl rfl ?_
    show wq 212 9 [(0, .ref 162), (1, .int j), (2, .int v)] [.int 0] hh1x 0 0 _
    refine wq_gos (f := 1) (pc2 := 22) (ls2 := [(0, .ref 162), (1, .int j), (2, .int v)]) (st2 := [.int 0]) (h2 := hh1x) (dc2 := 0) (ds2 := 0) 2 rfl ?_
    exact wq_ret rfl rfl ⟨hh1x, rfl, (wFr_sub ff3x (by simp)), (by omega), e2x⟩
set_option maxRecDepth 100000 in
set_option maxHeartbeats 4000000 in
theorem m_aatX {h : zH} {n0 n2 n14 n15 n16 n17 n18 n19 n20 n21 n22 n23 n27 n28 n32 n33 n34 n35 n39 n52 : Int32} {ns : Nat} {kn : List Int32} {s : Int32} (hM : zat h 162 = some (.inr (.inr (.inr (10, mO n0 n2 n14 n15 n16 n17 n18 n19 n20 n21 n22 n23 n27 n28 n32 n33 n34 n35 n39 n52))))) (hKn : zat h 166 = some (.inl (0, 14, kn))) (hns : kn.getD 5 0 = nI ns ∧ ns ≤ 8) (hs : s ≠ -1) (hx : s.toInt < 0 ∨ ns ≤ s.toInt) : wq 217 0 [(0, .ref 162), (1, .int s)] [] h 0 0 (fun rr9 => ∃ (h2 : zH), rr9 = (some (.int 0), h2, 0, 0) ∧ wFr [162] h h2 ∧ h2.length = h.length ∧ zat h2 162 = some (.inr (.inr (.inr (10, mO (0 : Int32) n2 n14 n15 n16 n17 n18 n19 n20 n21 n22 n23 n27 n28 n32 n33 n34 n35 n39 n52))))) := by
  have z0 : (0 : Int32).toInt = 0 := rfl
  have z1 : (1 : Int32).toInt = 1 := rfl
  have z5 : (5 : Int32).toInt = 5 := rfl
  have z6 : (6 : Int32).toInt = 6 := rfl
  have zm1 : (-1 : Int32).toInt = -1 := rfl
  have z3 : (3 : Int32).toInt = 3 := rfl
  have z2 : (2 : Int32).toInt = 2 := rfl
  have z20 : (20 : Int32).toInt = 20 := rfl
  have hn8 := hns.2
  have qnns := nI_toInt (n := ns) (by omega)
  refine wq_gos (f := 1) (pc2 := 2) (ls2 := [(0, .ref 162), (1, .int s)]) (st2 := [.int 0, .ref 162]) (h2 := h) (dc2 := 0) (ds2 := 0) 2 rfl ?_
  refine wq_putf rfl hM rfl rfl rfl ?_
  intro hh1x e2x ff3x lh4x
  have e2x : zat hh1x 162 = some (.inr (.inr (.inr (10, mO (0 : Int32) n2 n14 n15 n16 n17 n18 n19 n20 n21 n22 n23 n27 n28 n32 n33 n34 n35 n39 n52)))) := e2x
  refine wq_gos (f := 1) (pc2 := 7) (ls2 := [(0, .ref 162), (1, .int s)]) (st2 := [.int (-1), .int s]) (h2 := hh1x) (dc2 := 0) (ds2 := 0) 2 rfl ?_
  have q5x : (-1 : Int32).toInt = -1 := rfl
  refine wq_eq2f rfl rfl hs ?_
  refine wq_gos (f := 1) (pc2 := 12) (ls2 := [(0, .ref 162), (1, .int s)]) (st2 := [.int s, .ref 162]) (h2 := hh1x) (dc2 := 0) (ds2 := 0) 2 rfl ?_
  refine wq_inlv (y2 := 209) (as := [.int s]) rfl rfl rfl e2x rfl ?_
  show wq 209 0 [(0, .ref 162), (1, .int s)] [] hh1x 0 0 _
  refine wq_gos (f := 1) (pc2 := 1) (ls2 := [(0, .ref 162), (1, .int s)]) (st2 := [.int s]) (h2 := hh1x) (dc2 := 0) (ds2 := 0) 1 rfl ?_
  refine wq_lt0 rfl rfl (fun b6x => ?_) (fun b6x => ?_)
  · refine wq_gos (f := 1) (pc2 := 19) (ls2 := [(0, .ref 162), (1, .int s)]) (st2 := [.int 0]) (h2 := hh1x) (dc2 := 0) (ds2 := 0) 1 rfl ?_
    refine wq_ret rfl rfl ?_
    show wq 217 15 [(0, .ref 162), (1, .int s)] [.int 0] hh1x 0 0 _
    refine wq_gos (f := 1) (pc2 := 19) (ls2 := [(0, .ref 162), (1, .int s)]) (st2 := [.int 0]) (h2 := hh1x) (dc2 := 0) (ds2 := 0) 2 rfl ?_
    exact wq_ret rfl rfl ⟨hh1x, rfl, (wFr_sub ff3x (by simp)), (by omega), e2x⟩
  · refine wq_gos (f := 1) (pc2 := 6) (ls2 := [(0, .ref 162), (1, .int s)]) (st2 := [.ref 162, .int s]) (h2 := hh1x) (dc2 := 0) (ds2 := 0) 2 rfl ?_
    refine wq_getf rfl e2x rfl rfl ?_
    refine wq_gos (f := 1) (pc2 := 10) (ls2 := [(0, .ref 162), (1, .int s)]) (st2 := [.int 5, .ref 166, .int s]) (h2 := hh1x) (dc2 := 0) (ds2 := 0) 1 rfl ?_
    have e7x := (ff3x.2 _ _ (wnc (by decide) wn0) hKn)
    have q8x : (5 : Int32).toInt = 5 := rfl
    refine wq_iald rfl e7x rfl rfl ?_
    refine wq_vi hns.1 ?_
    try have q9x := nI_toInt (n := ns) (by omega)
    refine wq_ge2t rfl (by omega) ?_
    refine wq_gos (f := 1) (pc2 := 19) (ls2 := [(0, .ref 162), (1, .int s)]) (st2 := [.int 0]) (h2 := hh1x) (dc2 := 0) (ds2 := 0) 1 rfl ?_
    refine wq_ret rfl rfl ?_
    show wq 217 15 [(0, .ref 162), (1, .int s)] [.int 0] hh1x 0 0 _
    refine wq_gos (f := 1) (pc2 := 19) (ls2 := [(0, .ref 162), (1, .int s)]) (st2 := [.int 0]) (h2 := hh1x) (dc2 := 0) (ds2 := 0) 2 rfl ?_
    exact wq_ret rfl rfl ⟨hh1x, rfl, (wFr_sub ff3x (by simp)), (by omega), e2x⟩
set_option maxRecDepth 100000 in
set_option maxHeartbeats 4000000 in
theorem m_stpX {h : zH} {n0 n2 n14 n15 n16 n17 n18 n19 n20 n21 n22 n23 n27 n28 n32 n33 n34 n35 n39 n52 : Int32} {ns : Nat} {kn : List Int32} {s n j : Int32} (hM : zat h 162 = some (.inr (.inr (.inr (10, mO n0 n2 n14 n15 n16 n17 n18 n19 n20 n21 n22 n23 n27 n28 n32 n33 n34 n35 n39 n52))))) (hKn : zat h 166 = some (.inl (0, 14, kn))) (hns : kn.getD 5 0 = nI ns ∧ ns ≤ 8) (hx : s.toInt < 0 ∨ ns ≤ s.toInt ∨ j.toInt < 0 ∨ 5 < j.toInt) : wq 240 0 [(0, .ref 162), (1, .int s), (2, .int n), (3, .int j)] [] h 0 0 (fun rr9 => ∃ (h2 : zH), rr9 = (some (.int (-99)), h2, 0, 0) ∧ wFr [162] h h2 ∧ h2.length = h.length ∧ zat h2 162 = some (.inr (.inr (.inr (10, mO (0 : Int32) n2 n14 n15 n16 n17 n18 n19 n20 n21 n22 n23 n27 n28 n32 n33 n34 n35 n39 n52))))) := by
  have z0 : (0 : Int32).toInt = 0 := rfl
  have z1 : (1 : Int32).toInt = 1 := rfl
  have z5 : (5 : Int32).toInt = 5 := rfl
  have z6 : (6 : Int32).toInt = 6 := rfl
  have zm1 : (-1 : Int32).toInt = -1 := rfl
  have z3 : (3 : Int32).toInt = 3 := rfl
  have z2 : (2 : Int32).toInt = 2 := rfl
  have z20 : (20 : Int32).toInt = 20 := rfl
  have hn8 := hns.2
  have qnns := nI_toInt (n := ns) (by omega)
  refine wq_gos (f := 1) (pc2 := 2) (ls2 := [(0, .ref 162), (1, .int s), (2, .int n), (3, .int j)]) (st2 := [.int 0, .ref 162]) (h2 := h) (dc2 := 0) (ds2 := 0) 2 rfl ?_
  refine wq_putf rfl hM rfl rfl rfl ?_
  intro hh1x e2x ff3x lh4x
  have e2x : zat hh1x 162 = some (.inr (.inr (.inr (10, mO (0 : Int32) n2 n14 n15 n16 n17 n18 n19 n20 n21 n22 n23 n27 n28 n32 n33 n34 n35 n39 n52)))) := e2x
  refine wq_gos (f := 1) (pc2 := 7) (ls2 := [(0, .ref 162), (1, .int s), (2, .int n), (3, .int j)]) (st2 := [.int s, .ref 162]) (h2 := hh1x) (dc2 := 0) (ds2 := 0) 2 rfl ?_
  refine wq_inlv (y2 := 209) (as := [.int s]) rfl rfl rfl e2x rfl ?_
  show wq 209 0 [(0, .ref 162), (1, .int s)] [] hh1x 0 0 _
  refine wq_gos (f := 1) (pc2 := 1) (ls2 := [(0, .ref 162), (1, .int s)]) (st2 := [.int s]) (h2 := hh1x) (dc2 := 0) (ds2 := 0) 1 rfl ?_
  refine wq_lt0 rfl rfl (fun b5x => ?_) (fun b5x => ?_)
  · refine wq_gos (f := 1) (pc2 := 19) (ls2 := [(0, .ref 162), (1, .int s)]) (st2 := [.int 0]) (h2 := hh1x) (dc2 := 0) (ds2 := 0) 1 rfl ?_
    refine wq_ret rfl rfl ?_
    show wq 240 10 [(0, .ref 162), (1, .int s), (2, .int n), (3, .int j)] [.int 0] hh1x 0 0 _
    refine wq_gos (f := 1) (pc2 := 22) (ls2 := [(0, .ref 162), (1, .int s), (2, .int n), (3, .int j)]) (st2 := [.int (-99)]) (h2 := hh1x) (dc2 := 0) (ds2 := 0) 2 rfl ?_
    exact wq_ret rfl rfl ⟨hh1x, rfl, (wFr_sub ff3x (by simp)), (by omega), e2x⟩
  · refine wq_gos (f := 1) (pc2 := 6) (ls2 := [(0, .ref 162), (1, .int s)]) (st2 := [.ref 162, .int s]) (h2 := hh1x) (dc2 := 0) (ds2 := 0) 2 rfl ?_
    refine wq_getf rfl e2x rfl rfl ?_
    refine wq_gos (f := 1) (pc2 := 10) (ls2 := [(0, .ref 162), (1, .int s)]) (st2 := [.int 5, .ref 166, .int s]) (h2 := hh1x) (dc2 := 0) (ds2 := 0) 1 rfl ?_
    have e6x := (ff3x.2 _ _ (wnc (by decide) wn0) hKn)
    have q7x : (5 : Int32).toInt = 5 := rfl
    refine wq_iald rfl e6x rfl rfl ?_
    refine wq_vi hns.1 ?_
    try have q8x := nI_toInt (n := ns) (by omega)
    refine wq_ge2 rfl rfl (fun b9x => ?_) (fun b9x => ?_)
    · refine wq_gos (f := 1) (pc2 := 19) (ls2 := [(0, .ref 162), (1, .int s)]) (st2 := [.int 0]) (h2 := hh1x) (dc2 := 0) (ds2 := 0) 1 rfl ?_
      refine wq_ret rfl rfl ?_
      show wq 240 10 [(0, .ref 162), (1, .int s), (2, .int n), (3, .int j)] [.int 0] hh1x 0 0 _
      refine wq_gos (f := 1) (pc2 := 22) (ls2 := [(0, .ref 162), (1, .int s), (2, .int n), (3, .int j)]) (st2 := [.int (-99)]) (h2 := hh1x) (dc2 := 0) (ds2 := 0) 2 rfl ?_
      exact wq_ret rfl rfl ⟨hh1x, rfl, (wFr_sub ff3x (by simp)), (by omega), e2x⟩
    · refine wq_gos (f := 1) (pc2 := 19) (ls2 := [(0, .ref 162), (1, .int s)]) (st2 := [.int 1]) (h2 := hh1x) (dc2 := 0) (ds2 := 0) 2 rfl ?_
      refine wq_ret rfl rfl ?_
      show wq 240 10 [(0, .ref 162), (1, .int s), (2, .int n), (3, .int j)] [.int 1] hh1x 0 0 _
      refine wq_gos (f := 1) (pc2 := 14) (ls2 := [(0, .ref 162), (1, .int s), (2, .int n), (3, .int j)]) (st2 := [.int j]) (h2 := hh1x) (dc2 := 0) (ds2 := 0) 2 rfl ?_
      refine wq_inl (y2 := 208) (as := [.int j]) rfl rfl rfl ?_
      show wq 208 0 [(0, .int j)] [] hh1x 0 0 _
      refine wq_gos (f := 1) (pc2 := 1) (ls2 := [(0, .int j)]) (st2 := [.int j]) (h2 := hh1x) (dc2 := 0) (ds2 := 0) 1 rfl ?_
      refine wq_lt0 rfl rfl (fun b10x => ?_) (fun b10x => ?_)
      · refine wq_gos (f := 1) (pc2 := 15) (ls2 := [(0, .int j)]) (st2 := [.int 0]) (h2 := hh1x) (dc2 := 0) (ds2 := 0) 1 rfl ?_
        refine wq_ret rfl rfl ?_
        show wq 240 17 [(0, .ref 162), (1, .int s), (2, .int n), (3, .int j)] [.int 0] hh1x 0 0 _
        refine wq_gos (f := 1) (pc2 := 22) (ls2 := [(0, .ref 162), (1, .int s), (2, .int n), (3, .int j)]) (st2 := [.int (-99)]) (h2 := hh1x) (dc2 := 0) (ds2 := 0) 2 rfl ?_
        exact wq_ret rfl rfl ⟨hh1x, rfl, (wFr_sub ff3x (by simp)), (by omega), e2x⟩
      · refine wq_gos (f := 1) (pc2 := 7) (ls2 := [(0, .int j)]) (st2 := [.int 6, .int j]) (h2 := hh1x) (dc2 := 0) (ds2 := 0) 2 rfl ?_
        have q11x : (6 : Int32).toInt = 6 := rfl
        refine wq_ge2t rfl (by omega) ?_
        refine wq_gos (f := 1) (pc2 := 15) (ls2 := [(0, .int j)]) (st2 := [.int 0]) (h2 := hh1x) (dc2 := 0) (ds2 := 0) 1 rfl ?_
        refine wq_ret rfl rfl ?_
        show wq 240 17 [(0, .ref 162), (1, .int s), (2, .int n), (3, .int j)] [.int 0] hh1x 0 0 _
        refine wq_gos (f := 1) (pc2 := 22) (ls2 := [(0, .ref 162), (1, .int s), (2, .int n), (3, .int j)]) (st2 := [.int (-99)]) (h2 := hh1x) (dc2 := 0) (ds2 := 0) 2 rfl ?_
        exact wq_ret rfl rfl ⟨hh1x, rfl, (wFr_sub ff3x (by simp)), (by omega), e2x⟩
set_option maxRecDepth 100000 in
set_option maxHeartbeats 4000000 in
theorem m_meeX {h : zH} {n0 n2 n14 n15 n16 n17 n18 n19 n20 n21 n22 n23 n27 n28 n32 n33 n34 n35 n39 n52 : Int32} {ns : Nat} {kn : List Int32} {s : Int32} (hM : zat h 162 = some (.inr (.inr (.inr (10, mO n0 n2 n14 n15 n16 n17 n18 n19 n20 n21 n22 n23 n27 n28 n32 n33 n34 n35 n39 n52))))) (hKn : zat h 166 = some (.inl (0, 14, kn))) (hns : kn.getD 5 0 = nI ns ∧ ns ≤ 8) (hx : s.toInt < 0 ∨ ns ≤ s.toInt) : wq 241 0 [(0, .ref 162), (1, .int s)] [] h 0 0 (fun rr9 => ∃ (h2 : zH), rr9 = (some (.int (-1)), h2, 0, 0) ∧ wFr [162] h h2 ∧ h2.length = h.length ∧ zat h2 162 = some (.inr (.inr (.inr (10, mO (0 : Int32) n2 n14 n15 n16 n17 n18 n19 n20 n21 n22 n23 n27 n28 n32 n33 n34 n35 n39 n52))))) := by
  have z0 : (0 : Int32).toInt = 0 := rfl
  have z1 : (1 : Int32).toInt = 1 := rfl
  have z5 : (5 : Int32).toInt = 5 := rfl
  have z6 : (6 : Int32).toInt = 6 := rfl
  have zm1 : (-1 : Int32).toInt = -1 := rfl
  have z3 : (3 : Int32).toInt = 3 := rfl
  have z2 : (2 : Int32).toInt = 2 := rfl
  have z20 : (20 : Int32).toInt = 20 := rfl
  have hn8 := hns.2
  have qnns := nI_toInt (n := ns) (by omega)
  refine wq_gos (f := 1) (pc2 := 2) (ls2 := [(0, .ref 162), (1, .int s)]) (st2 := [.int 0, .ref 162]) (h2 := h) (dc2 := 0) (ds2 := 0) 2 rfl ?_
  refine wq_putf rfl hM rfl rfl rfl ?_
  intro hh1x e2x ff3x lh4x
  have e2x : zat hh1x 162 = some (.inr (.inr (.inr (10, mO (0 : Int32) n2 n14 n15 n16 n17 n18 n19 n20 n21 n22 n23 n27 n28 n32 n33 n34 n35 n39 n52)))) := e2x
  refine wq_gos (f := 1) (pc2 := 7) (ls2 := [(0, .ref 162), (1, .int s)]) (st2 := [.int s, .ref 162]) (h2 := hh1x) (dc2 := 0) (ds2 := 0) 2 rfl ?_
  refine wq_inlv (y2 := 209) (as := [.int s]) rfl rfl rfl e2x rfl ?_
  show wq 209 0 [(0, .ref 162), (1, .int s)] [] hh1x 0 0 _
  refine wq_gos (f := 1) (pc2 := 1) (ls2 := [(0, .ref 162), (1, .int s)]) (st2 := [.int s]) (h2 := hh1x) (dc2 := 0) (ds2 := 0) 1 rfl ?_
  refine wq_lt0 rfl rfl (fun b5x => ?_) (fun b5x => ?_)
  · refine wq_gos (f := 1) (pc2 := 19) (ls2 := [(0, .ref 162), (1, .int s)]) (st2 := [.int 0]) (h2 := hh1x) (dc2 := 0) (ds2 := 0) 1 rfl ?_
    refine wq_ret rfl rfl ?_
    show wq 241 10 [(0, .ref 162), (1, .int s)] [.int 0] hh1x 0 0 _
    refine wq_gos (f := 1) (pc2 := 14) (ls2 := [(0, .ref 162), (1, .int s)]) (st2 := [.int (-1)]) (h2 := hh1x) (dc2 := 0) (ds2 := 0) 2 rfl ?_
    exact wq_ret rfl rfl ⟨hh1x, rfl, (wFr_sub ff3x (by simp)), (by omega), e2x⟩
  · refine wq_gos (f := 1) (pc2 := 6) (ls2 := [(0, .ref 162), (1, .int s)]) (st2 := [.ref 162, .int s]) (h2 := hh1x) (dc2 := 0) (ds2 := 0) 2 rfl ?_
    refine wq_getf rfl e2x rfl rfl ?_
    refine wq_gos (f := 1) (pc2 := 10) (ls2 := [(0, .ref 162), (1, .int s)]) (st2 := [.int 5, .ref 166, .int s]) (h2 := hh1x) (dc2 := 0) (ds2 := 0) 1 rfl ?_
    have e6x := (ff3x.2 _ _ (wnc (by decide) wn0) hKn)
    have q7x : (5 : Int32).toInt = 5 := rfl
    refine wq_iald rfl e6x rfl rfl ?_
    refine wq_vi hns.1 ?_
    try have q8x := nI_toInt (n := ns) (by omega)
    refine wq_ge2t rfl (by omega) ?_
    refine wq_gos (f := 1) (pc2 := 19) (ls2 := [(0, .ref 162), (1, .int s)]) (st2 := [.int 0]) (h2 := hh1x) (dc2 := 0) (ds2 := 0) 1 rfl ?_
    refine wq_ret rfl rfl ?_
    show wq 241 10 [(0, .ref 162), (1, .int s)] [.int 0] hh1x 0 0 _
    refine wq_gos (f := 1) (pc2 := 14) (ls2 := [(0, .ref 162), (1, .int s)]) (st2 := [.int (-1)]) (h2 := hh1x) (dc2 := 0) (ds2 := 0) 2 rfl ?_
    exact wq_ret rfl rfl ⟨hh1x, rfl, (wFr_sub ff3x (by simp)), (by omega), e2x⟩
