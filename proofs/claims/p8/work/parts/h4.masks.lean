/-! The reference: solution, way, nearest, clearest, take. -/
noncomputable def mJof (v : Int64) (j : Int32) : Int32 := (if j ≠ (5 : Int32) then (if j ≠ (0 : Int32) then ((((v >>> ((((7 : Int32) + ((6 : Int32) * ((4 : Int32) - j)))).toInt64 &&& 63)) &&& (63 : Int64))).toInt32 - (32 : Int32)) else ((v >>> ((((7 : Int32) + ((6 : Int32) * ((4 : Int32) - j)))).toInt64 &&& 63))).toInt32) else (((v &&& (127 : Int64))).toInt32 - (64 : Int32)))
set_option maxRecDepth 100000 in
set_option maxHeartbeats 4000000 in
theorem m_jof {h : zH} {n0 n2 n14 n15 n16 n17 n18 n19 n20 n21 n22 n23 n27 n28 n32 n33 n34 n35 n39 n52 : Int32} {v : Int64} {j : Int32} (hM : zat h 162 = some (.inr (.inr (.inr (10, mO n0 n2 n14 n15 n16 n17 n18 n19 n20 n21 n22 n23 n27 n28 n32 n33 n34 n35 n39 n52)))))  : wq 220 0 [(0, .ref 162), (1, .long v), (3, .int j)] [] h 0 0 (fun rr9 => rr9 = (some (.int (mJof v j)), h, 0, 0)) := by
  refine wq_gos (f := 1) (pc2 := 2) (ls2 := [(0, .ref 162), (1, .long v), (3, .int j)]) (st2 := [.int 5, .int j]) (h2 := h) (dc2 := 0) (ds2 := 0) 2 rfl ?_
  have q1x : (5 : Int32).toInt = 5 := rfl
  refine wq_ne2 rfl rfl (fun b2x => ?_) (fun b2x => ?_)
  · have q3x : j.toInt ≠ 5 := fun q => b2x (Int32.toInt_inj.mp q)
    refine wq_gos (f := 1) (pc2 := 29) (ls2 := [(4, .long (v >>> ((((7 : Int32) + ((6 : Int32) * ((4 : Int32) - j)))).toInt64 &&& 63))), (0, .ref 162), (1, .long v), (3, .int j)]) (st2 := [.int j]) (h2 := h) (dc2 := 0) (ds2 := 0) 11 rfl ?_
    refine wq_ne0 rfl rfl (fun b4x => ?_) (fun b4x => ?_)
    · have q5x : j.toInt ≠ 0 := fun q => b4x (Int32.toInt_inj.mp q)
      refine wq_gos (f := 1) (pc2 := 48) (ls2 := [(4, .long (v >>> ((((7 : Int32) + ((6 : Int32) * ((4 : Int32) - j)))).toInt64 &&& 63))), (0, .ref 162), (1, .long v), (3, .int j)]) (st2 := [.int ((((v >>> ((((7 : Int32) + ((6 : Int32) * ((4 : Int32) - j)))).toInt64 &&& 63)) &&& (63 : Int64))).toInt32 - (32 : Int32))]) (h2 := h) (dc2 := 0) (ds2 := 0) 6 rfl ?_
      have w6x : (mJof v j) = ((((v >>> ((((7 : Int32) + ((6 : Int32) * ((4 : Int32) - j)))).toInt64 &&& 63)) &&& (63 : Int64))).toInt32 - (32 : Int32)) := by unfold mJof; rw [if_pos b2x, if_pos b4x]
      rw [w6x]
      exact wq_ret rfl rfl rfl
    · have q7x : j.toInt = 0 := congrArg Int32.toInt b4x
      refine wq_gos (f := 1) (pc2 := 48) (ls2 := [(4, .long (v >>> ((((7 : Int32) + ((6 : Int32) * ((4 : Int32) - j)))).toInt64 &&& 63))), (0, .ref 162), (1, .long v), (3, .int j)]) (st2 := [.int ((v >>> ((((7 : Int32) + ((6 : Int32) * ((4 : Int32) - j)))).toInt64 &&& 63))).toInt32]) (h2 := h) (dc2 := 0) (ds2 := 0) 3 rfl ?_
      have w8x : (mJof v j) = ((v >>> ((((7 : Int32) + ((6 : Int32) * ((4 : Int32) - j)))).toInt64 &&& 63))).toInt32 := by unfold mJof; rw [if_pos b2x, if_neg (fun q => q b4x)]
      rw [w8x]
      exact wq_ret rfl rfl rfl
  · have q9x : j.toInt = 5 := congrArg Int32.toInt b2x
    refine wq_gos (f := 1) (pc2 := 14) (ls2 := [(0, .ref 162), (1, .long v), (3, .int j)]) (st2 := [.int (((v &&& (127 : Int64))).toInt32 - (64 : Int32))]) (h2 := h) (dc2 := 0) (ds2 := 0) 6 rfl ?_
    have w10x : (mJof v j) = (((v &&& (127 : Int64))).toInt32 - (64 : Int32)) := by unfold mJof; rw [if_neg (fun q => q b2x)]
    rw [w10x]
    exact wq_ret rfl rfl rfl
noncomputable def mUnp (v : Int64) (k : Nat) (qq : List Int32) : List Int32 := (zset 0 (zset 0 (zset 0 (zset 0 (zset 0 (zset 0 qq (k + 0) (mJof v (0 : Int32))) (k + 1) (mJof v (1 : Int32))) (k + 2) (mJof v (2 : Int32))) (k + 3) (mJof v (3 : Int32))) (k + 4) (mJof v (4 : Int32))) (k + 5) (mJof v (5 : Int32)))
set_option maxRecDepth 100000 in
set_option maxHeartbeats 4000000 in
theorem m_unp {h : zH} {n0 n2 n14 n15 n16 n17 n18 n19 n20 n21 n22 n23 n27 n28 n32 n33 n34 n35 n39 n52 : Int32} {v : Int64} {rq nq k : Nat} {qq : List Int32} (hM : zat h 162 = some (.inr (.inr (.inr (10, mO n0 n2 n14 n15 n16 n17 n18 n19 n20 n21 n22 n23 n27 n28 n32 n33 n34 n35 n39 n52))))) (hq : zat h rq = some (.inl (0, nq, qq))) (hk : k + 6 ≤ nq ∧ nq ≤ 20000) (hrq : 162 < rq) : wq 221 0 [(0, .ref 162), (1, .long v), (3, .ref rq), (4, .int (nI k))] [] h 0 0 (fun rr9 => ∃ (h2 : zH), rr9 = (none, h2, 0, 0) ∧ wFr [rq] h h2 ∧ h2.length = h.length ∧ zat h2 rq = some (.inl (0, nq, ((mUnp v k qq))))) := by
  have qnk := nI_toInt (n := k) (by omega)
  refine wq_gos (f := 1) (pc2 := 16) (ls2 := [(5, .int 0), (0, .ref 162), (1, .long v), (3, .ref rq), (4, .int (nI k))]) (st2 := [.int ((nI k) + (0 : Int32)), .ref rq]) (h2 := h) (dc2 := 0) (ds2 := 0) 9 rfl ?_
  refine wq_vi (show (nI k) + (0 : Int32) = nI (k + 0) from nI_add k 0) ?_
  refine wq_gos (f := 1) (pc2 := 20) (ls2 := [(5, .int 0), (0, .ref 162), (1, .long v), (3, .ref rq), (4, .int (nI k))]) (st2 := [.int 0, .long v, .ref 162, .int (nI (k + 0)), .ref rq]) (h2 := h) (dc2 := 0) (ds2 := 0) 3 rfl ?_
  have q1x : (0 : Int32).toInt = 0 := rfl
  refine wq_inlv (y2 := 220) (as := [.long v, .int 0]) rfl rfl rfl hM rfl (wq_mono (m_jof hM) ?_)
  rintro _ rfl
  show wq 221 23 [(5, .int 0), (0, .ref 162), (1, .long v), (3, .ref rq), (4, .int (nI k))] [.int (mJof v (0 : Int32)), .int (nI (k + 0)), .ref rq] h 0 0 _
  try have q3x := nI_toInt (n := (k + 0)) (by omega)
  refine wq_iastn rfl hq (by first | omega | exact zin_t (by omega) (by omega)) (by omega) rfl ?_
  intro hh4x e5x ff6x lh7x
  have e5x : zat hh4x rq = some (.inl (0, nq, (zset 0 qq (k + 0) (mJof v (0 : Int32))))) := e5x
  refine wq_gos (f := 1) (pc2 := 16) (ls2 := [(5, .int 1), (0, .ref 162), (1, .long v), (3, .ref rq), (4, .int (nI k))]) (st2 := [.int ((nI k) + (1 : Int32)), .ref rq]) (h2 := hh4x) (dc2 := 0) (ds2 := 0) 9 rfl ?_
  refine wq_vi (show (nI k) + (1 : Int32) = nI (k + 1) from nI_add k 1) ?_
  refine wq_gos (f := 1) (pc2 := 20) (ls2 := [(5, .int 1), (0, .ref 162), (1, .long v), (3, .ref rq), (4, .int (nI k))]) (st2 := [.int 1, .long v, .ref 162, .int (nI (k + 1)), .ref rq]) (h2 := hh4x) (dc2 := 0) (ds2 := 0) 3 rfl ?_
  have e8x := (ff6x.2 _ _ (wnc (by omega) wn0) hM)
  have q9x : (1 : Int32).toInt = 1 := rfl
  refine wq_inlv (y2 := 220) (as := [.long v, .int 1]) rfl rfl rfl e8x rfl (wq_mono (m_jof e8x) ?_)
  rintro _ rfl
  show wq 221 23 [(5, .int 1), (0, .ref 162), (1, .long v), (3, .ref rq), (4, .int (nI k))] [.int (mJof v (1 : Int32)), .int (nI (k + 1)), .ref rq] hh4x 0 0 _
  try have q11x := nI_toInt (n := (k + 1)) (by omega)
  refine wq_iastn rfl e5x (by first | omega | exact zin_t (by omega) (by omega)) (by omega) rfl ?_
  intro hh12x e13x ff14x lh15x
  have e13x : zat hh12x rq = some (.inl (0, nq, (zset 0 (zset 0 qq (k + 0) (mJof v (0 : Int32))) (k + 1) (mJof v (1 : Int32))))) := e13x
  refine wq_gos (f := 1) (pc2 := 16) (ls2 := [(5, .int 2), (0, .ref 162), (1, .long v), (3, .ref rq), (4, .int (nI k))]) (st2 := [.int ((nI k) + (2 : Int32)), .ref rq]) (h2 := hh12x) (dc2 := 0) (ds2 := 0) 9 rfl ?_
  refine wq_vi (show (nI k) + (2 : Int32) = nI (k + 2) from nI_add k 2) ?_
  refine wq_gos (f := 1) (pc2 := 20) (ls2 := [(5, .int 2), (0, .ref 162), (1, .long v), (3, .ref rq), (4, .int (nI k))]) (st2 := [.int 2, .long v, .ref 162, .int (nI (k + 2)), .ref rq]) (h2 := hh12x) (dc2 := 0) (ds2 := 0) 3 rfl ?_
  have e16x := (ff14x.2 _ _ (wnc (by omega) wn0) e8x)
  have q17x : (2 : Int32).toInt = 2 := rfl
  refine wq_inlv (y2 := 220) (as := [.long v, .int 2]) rfl rfl rfl e16x rfl (wq_mono (m_jof e16x) ?_)
  rintro _ rfl
  show wq 221 23 [(5, .int 2), (0, .ref 162), (1, .long v), (3, .ref rq), (4, .int (nI k))] [.int (mJof v (2 : Int32)), .int (nI (k + 2)), .ref rq] hh12x 0 0 _
  try have q19x := nI_toInt (n := (k + 2)) (by omega)
  refine wq_iastn rfl e13x (by first | omega | exact zin_t (by omega) (by omega)) (by omega) rfl ?_
  intro hh20x e21x ff22x lh23x
  have e21x : zat hh20x rq = some (.inl (0, nq, (zset 0 (zset 0 (zset 0 qq (k + 0) (mJof v (0 : Int32))) (k + 1) (mJof v (1 : Int32))) (k + 2) (mJof v (2 : Int32))))) := e21x
  refine wq_gos (f := 1) (pc2 := 16) (ls2 := [(5, .int 3), (0, .ref 162), (1, .long v), (3, .ref rq), (4, .int (nI k))]) (st2 := [.int ((nI k) + (3 : Int32)), .ref rq]) (h2 := hh20x) (dc2 := 0) (ds2 := 0) 9 rfl ?_
  refine wq_vi (show (nI k) + (3 : Int32) = nI (k + 3) from nI_add k 3) ?_
  refine wq_gos (f := 1) (pc2 := 20) (ls2 := [(5, .int 3), (0, .ref 162), (1, .long v), (3, .ref rq), (4, .int (nI k))]) (st2 := [.int 3, .long v, .ref 162, .int (nI (k + 3)), .ref rq]) (h2 := hh20x) (dc2 := 0) (ds2 := 0) 3 rfl ?_
  have e24x := (ff22x.2 _ _ (wnc (by omega) wn0) e16x)
  have q25x : (3 : Int32).toInt = 3 := rfl
  refine wq_inlv (y2 := 220) (as := [.long v, .int 3]) rfl rfl rfl e24x rfl (wq_mono (m_jof e24x) ?_)
  rintro _ rfl
  show wq 221 23 [(5, .int 3), (0, .ref 162), (1, .long v), (3, .ref rq), (4, .int (nI k))] [.int (mJof v (3 : Int32)), .int (nI (k + 3)), .ref rq] hh20x 0 0 _
  try have q27x := nI_toInt (n := (k + 3)) (by omega)
  refine wq_iastn rfl e21x (by first | omega | exact zin_t (by omega) (by omega)) (by omega) rfl ?_
  intro hh28x e29x ff30x lh31x
  have e29x : zat hh28x rq = some (.inl (0, nq, (zset 0 (zset 0 (zset 0 (zset 0 qq (k + 0) (mJof v (0 : Int32))) (k + 1) (mJof v (1 : Int32))) (k + 2) (mJof v (2 : Int32))) (k + 3) (mJof v (3 : Int32))))) := e29x
  refine wq_gos (f := 1) (pc2 := 16) (ls2 := [(5, .int 4), (0, .ref 162), (1, .long v), (3, .ref rq), (4, .int (nI k))]) (st2 := [.int ((nI k) + (4 : Int32)), .ref rq]) (h2 := hh28x) (dc2 := 0) (ds2 := 0) 9 rfl ?_
  refine wq_vi (show (nI k) + (4 : Int32) = nI (k + 4) from nI_add k 4) ?_
  refine wq_gos (f := 1) (pc2 := 20) (ls2 := [(5, .int 4), (0, .ref 162), (1, .long v), (3, .ref rq), (4, .int (nI k))]) (st2 := [.int 4, .long v, .ref 162, .int (nI (k + 4)), .ref rq]) (h2 := hh28x) (dc2 := 0) (ds2 := 0) 3 rfl ?_
  have e32x := (ff30x.2 _ _ (wnc (by omega) wn0) e24x)
  have q33x : (4 : Int32).toInt = 4 := rfl
  refine wq_inlv (y2 := 220) (as := [.long v, .int 4]) rfl rfl rfl e32x rfl (wq_mono (m_jof e32x) ?_)
  rintro _ rfl
  show wq 221 23 [(5, .int 4), (0, .ref 162), (1, .long v), (3, .ref rq), (4, .int (nI k))] [.int (mJof v (4 : Int32)), .int (nI (k + 4)), .ref rq] hh28x 0 0 _
  try have q35x := nI_toInt (n := (k + 4)) (by omega)
  refine wq_iastn rfl e29x (by first | omega | exact zin_t (by omega) (by omega)) (by omega) rfl ?_
  intro hh36x e37x ff38x lh39x
  have e37x : zat hh36x rq = some (.inl (0, nq, (zset 0 (zset 0 (zset 0 (zset 0 (zset 0 qq (k + 0) (mJof v (0 : Int32))) (k + 1) (mJof v (1 : Int32))) (k + 2) (mJof v (2 : Int32))) (k + 3) (mJof v (3 : Int32))) (k + 4) (mJof v (4 : Int32))))) := e37x
  refine wq_gos (f := 1) (pc2 := 16) (ls2 := [(5, .int 5), (0, .ref 162), (1, .long v), (3, .ref rq), (4, .int (nI k))]) (st2 := [.int ((nI k) + (5 : Int32)), .ref rq]) (h2 := hh36x) (dc2 := 0) (ds2 := 0) 9 rfl ?_
  refine wq_vi (show (nI k) + (5 : Int32) = nI (k + 5) from nI_add k 5) ?_
  refine wq_gos (f := 1) (pc2 := 20) (ls2 := [(5, .int 5), (0, .ref 162), (1, .long v), (3, .ref rq), (4, .int (nI k))]) (st2 := [.int 5, .long v, .ref 162, .int (nI (k + 5)), .ref rq]) (h2 := hh36x) (dc2 := 0) (ds2 := 0) 3 rfl ?_
  have e40x := (ff38x.2 _ _ (wnc (by omega) wn0) e32x)
  have q41x : (5 : Int32).toInt = 5 := rfl
  refine wq_inlv (y2 := 220) (as := [.long v, .int 5]) rfl rfl rfl e40x rfl (wq_mono (m_jof e40x) ?_)
  rintro _ rfl
  show wq 221 23 [(5, .int 5), (0, .ref 162), (1, .long v), (3, .ref rq), (4, .int (nI k))] [.int (mJof v (5 : Int32)), .int (nI (k + 5)), .ref rq] hh36x 0 0 _
  try have q43x := nI_toInt (n := (k + 5)) (by omega)
  refine wq_iastn rfl e37x (by first | omega | exact zin_t (by omega) (by omega)) (by omega) rfl ?_
  intro hh44x e45x ff46x lh47x
  have e45x : zat hh44x rq = some (.inl (0, nq, (zset 0 (zset 0 (zset 0 (zset 0 (zset 0 (zset 0 qq (k + 0) (mJof v (0 : Int32))) (k + 1) (mJof v (1 : Int32))) (k + 2) (mJof v (2 : Int32))) (k + 3) (mJof v (3 : Int32))) (k + 4) (mJof v (4 : Int32))) (k + 5) (mJof v (5 : Int32))))) := e45x
  refine wq_gos (f := 1) (pc2 := 30) (ls2 := [(5, .int 6), (0, .ref 162), (1, .long v), (3, .ref rq), (4, .int (nI k))]) (st2 := []) (h2 := hh44x) (dc2 := 0) (ds2 := 0) 5 rfl ?_
  have hx : (mUnp v k qq) = (zset 0 (zset 0 (zset 0 (zset 0 (zset 0 (zset 0 qq (k + 0) (mJof v (0 : Int32))) (k + 1) (mJof v (1 : Int32))) (k + 2) (mJof v (2 : Int32))) (k + 3) (mJof v (3 : Int32))) (k + 4) (mJof v (4 : Int32))) (k + 5) (mJof v (5 : Int32))) := by unfold mUnp; rfl
  rw [hx]
  exact wq_ret rfl rfl ⟨hh44x, rfl, (wFr_tr (wFr_sub ff6x (by simp)) (wFr_tr (wFr_sub ff14x (by simp)) (wFr_tr (wFr_sub ff22x (by simp)) (wFr_tr (wFr_sub ff30x (by simp)) (wFr_tr (wFr_sub ff38x (by simp)) (wFr_sub ff46x (by simp))))))), by omega, e45x⟩
noncomputable def mSolJ (n9 : Int32) (fo9 : List Int64) (k j : Int32) : Int32 := (if k.toInt < 0 then (-99 : Int32) else (if n9.toInt ≤ k.toInt then (-99 : Int32) else (mJof (fo9.getD (((4800 : Int32) + k)).toNatClampNeg 0) j)))
set_option maxRecDepth 100000 in
set_option maxHeartbeats 4000000 in
theorem m_solJ {h : zH} {n0 n2 n14 n15 n16 n17 n18 n19 n20 n21 n22 n23 n27 n28 n32 n33 n34 n35 n39 n52 : Int32} {kn lo hi on pa pb : List Int32} {fo : List Int64} {am : List Int32} {k j : Int32} (hM : zat h 162 = some (.inr (.inr (.inr (10, mO n0 n2 n14 n15 n16 n17 n18 n19 n20 n21 n22 n23 n27 n28 n32 n33 n34 n35 n39 n52))))) (hKn : zat h 166 = some (.inl (0, 14, kn))) (hLo : zat h 168 = some (.inl (0, 12, lo))) (hHi : zat h 170 = some (.inl (0, 12, hi))) (hFo : zat h 196 = some (.inr (.inl (6000, fo)))) (hOn : zat h 204 = some (.inl (0, 6, on))) (h200 : zat h 200 = some (.inl (0, 4096, pa))) (h202 : zat h 202 = some (.inl (0, 4096, pb))) (hAm : zat h 190 = some (.inl (0, 6, am))) (h01 : n33 = 0 ∨ n33 = 1) (hSA : n33 = 1 → n32 = mNum (mSol lo hi kn am) ∧ wFd 4800 (mSol lo hi kn am) fo) (hj : 0 ≤ j.toInt ∧ j.toInt ≤ 5) : wq 231 0 [(0, .ref 162), (1, .int k), (2, .int j)] [] h 0 0 (fun rr9 => ∃ (h2 : zH) (m34 : Int32) (m35 : Int32) (m39 : Int32) (fo2 : List Int64) (on2 : List Int32) (pa2 : List Int32) (pb2 : List Int32), rr9 = (some (.int (mSolJ (mNum (mSol lo hi kn am)) fo2 k j)), h2, 0, 0) ∧ wFr [162, 196, 204, 200, 202] h h2 ∧ h2.length = h.length ∧ zat h2 162 = some (.inr (.inr (.inr (10, mO (0 : Int32) n2 n14 n15 n16 n17 n18 n19 n20 n21 n22 n23 n27 n28 (mNum (mSol lo hi kn am)) (1 : Int32) m34 m35 m39 n52)))) ∧ zat h2 196 = some (.inr (.inl (6000, fo2))) ∧ zat h2 204 = some (.inl (0, 6, on2)) ∧ zat h2 200 = some (.inl (0, 4096, pa2)) ∧ zat h2 202 = some (.inl (0, 4096, pb2)) ∧ (wFe (fun q => fo.getD q 0) 4800 (mSol lo hi kn am) fo2) ∧ (((mNum (mSol lo hi kn am)).toInt = -3 ∨ 0 ≤ (mNum (mSol lo hi kn am)).toInt) ∧ (mNum (mSol lo hi kn am)).toInt ≤ 600)) := by
  have z0 : (0 : Int32).toInt = 0 := rfl
  have z1 : (1 : Int32).toInt = 1 := rfl
  have z5 : (5 : Int32).toInt = 5 := rfl
  have z6 : (6 : Int32).toInt = 6 := rfl
  have zm1 : (-1 : Int32).toInt = -1 := rfl
  have z3 : (3 : Int32).toInt = 3 := rfl
  have z2 : (2 : Int32).toInt = 2 := rfl
  have z20 : (20 : Int32).toInt = 20 := rfl
  have z4800 : (4800 : Int32).toInt = 4800 := rfl
  refine wq_gos (f := 1) (pc2 := 2) (ls2 := [(0, .ref 162), (1, .int k), (2, .int j)]) (st2 := [.int 0, .ref 162]) (h2 := h) (dc2 := 0) (ds2 := 0) 2 rfl ?_
  refine wq_putf rfl hM rfl rfl rfl ?_
  intro hh1x e2x ff3x lh4x
  have e2x : zat hh1x 162 = some (.inr (.inr (.inr (10, mO (0 : Int32) n2 n14 n15 n16 n17 n18 n19 n20 n21 n22 n23 n27 n28 n32 n33 n34 n35 n39 n52)))) := e2x
  refine wq_gos (f := 1) (pc2 := 6) (ls2 := [(0, .ref 162), (1, .int k), (2, .int j)]) (st2 := [.int j]) (h2 := hh1x) (dc2 := 0) (ds2 := 0) 1 rfl ?_
  refine wq_inl (y2 := 208) (as := [.int j]) rfl rfl rfl ?_
  show wq 208 0 [(0, .int j)] [] hh1x 0 0 _
  refine wq_gos (f := 1) (pc2 := 1) (ls2 := [(0, .int j)]) (st2 := [.int j]) (h2 := hh1x) (dc2 := 0) (ds2 := 0) 1 rfl ?_
  refine wq_lt0f rfl rfl (by omega) ?_
  refine wq_gos (f := 1) (pc2 := 7) (ls2 := [(0, .int j)]) (st2 := [.int 6, .int j]) (h2 := hh1x) (dc2 := 0) (ds2 := 0) 2 rfl ?_
  have q5x : (6 : Int32).toInt = 6 := rfl
  refine wq_ge2f rfl rfl (by omega) ?_
  refine wq_gos (f := 1) (pc2 := 15) (ls2 := [(0, .int j)]) (st2 := [.int 1]) (h2 := hh1x) (dc2 := 0) (ds2 := 0) 2 rfl ?_
  refine wq_ret rfl rfl ?_
  show wq 231 9 [(0, .ref 162), (1, .int k), (2, .int j)] [.int 1] hh1x 0 0 _
  refine wq_gos (f := 1) (pc2 := 14) (ls2 := [(0, .ref 162), (1, .int k), (2, .int j)]) (st2 := [.int k, .ref 162]) (h2 := hh1x) (dc2 := 0) (ds2 := 0) 3 rfl ?_
  refine wq_inlv (y2 := 230) (as := [.int k]) rfl rfl rfl e2x rfl ?_
  show wq 230 0 [(0, .ref 162), (1, .int k)] [] hh1x 0 0 _
  refine wq_gos (f := 1) (pc2 := 1) (ls2 := [(0, .ref 162), (1, .int k)]) (st2 := [.ref 162]) (h2 := hh1x) (dc2 := 0) (ds2 := 0) 1 rfl ?_
  have e6x := (ff3x.2 _ _ (wnc (by decide) wn0) hKn)
  have e7x := (ff3x.2 _ _ (wnc (by decide) wn0) hLo)
  have e8x := (ff3x.2 _ _ (wnc (by decide) wn0) hHi)
  have e9x := (ff3x.2 _ _ (wnc (by decide) wn0) hFo)
  have e10x := (ff3x.2 _ _ (wnc (by decide) wn0) hOn)
  have e11x := (ff3x.2 _ _ (wnc (by decide) wn0) h200)
  have e12x := (ff3x.2 _ _ (wnc (by decide) wn0) h202)
  have e13x := (ff3x.2 _ _ (wnc (by decide) wn0) hAm)
  refine wq_inlv (y2 := 227) (as := []) rfl rfl rfl e2x rfl (wq_mono (m_sva e2x e6x e7x e8x e9x e10x e11x e12x e13x (by first | assumption | omega | decide | solve_by_elim) (by first | assumption | omega | decide | solve_by_elim)) ?_)
  rintro _ ⟨h814x, m3414x, m3514x, m3914x, fo214x, on214x, pa214x, pb214x, rfl, f814x, l814x, c014x, c114x, c214x, c314x, c414x, p014x, p114x⟩
  show wq 230 4 [(0, .ref 162), (1, .int k)] [] h814x 0 0 _
  refine wq_gos (f := 1) (pc2 := 5) (ls2 := [(0, .ref 162), (1, .int k)]) (st2 := [.int k]) (h2 := h814x) (dc2 := 0) (ds2 := 0) 1 rfl ?_
  refine wq_lt0 rfl rfl (fun b15x => ?_) (fun b15x => ?_)
  · refine wq_gos (f := 1) (pc2 := 21) (ls2 := [(0, .ref 162), (1, .int k)]) (st2 := [.int 0]) (h2 := h814x) (dc2 := 0) (ds2 := 0) 1 rfl ?_
    refine wq_ret rfl rfl ?_
    show wq 231 17 [(0, .ref 162), (1, .int k), (2, .int j)] [.int 0] h814x 0 0 _
    refine wq_gos (f := 1) (pc2 := 35) (ls2 := [(0, .ref 162), (1, .int k), (2, .int j)]) (st2 := [.int (-99)]) (h2 := h814x) (dc2 := 0) (ds2 := 0) 2 rfl ?_
    have w16x : (mSolJ (mNum (mSol lo hi kn am)) fo214x k j) = (-99 : Int32) := by unfold mSolJ; rw [if_pos b15x]
    exact wq_ret rfl rfl ⟨h814x, m3414x, m3514x, m3914x, fo214x, on214x, pa214x, pb214x, (by rw [w16x]), (wFr_tr (wFr_sub ff3x (by simp)) (wFr_sub f814x (by simp))), (by omega), c014x, c114x, c214x, c314x, c414x, (by first | assumption | omega | decide | solve_by_elim), (by first | assumption | omega | decide | solve_by_elim)⟩
  · refine wq_gos (f := 1) (pc2 := 10) (ls2 := [(0, .ref 162), (1, .int k)]) (st2 := [.ref 162, .int k]) (h2 := h814x) (dc2 := 0) (ds2 := 0) 2 rfl ?_
    refine wq_getf rfl c014x rfl rfl ?_
    refine wq_ge2 rfl rfl (fun b17x => ?_) (fun b17x => ?_)
    · refine wq_gos (f := 1) (pc2 := 21) (ls2 := [(0, .ref 162), (1, .int k)]) (st2 := [.int 0]) (h2 := h814x) (dc2 := 0) (ds2 := 0) 1 rfl ?_
      refine wq_ret rfl rfl ?_
      show wq 231 17 [(0, .ref 162), (1, .int k), (2, .int j)] [.int 0] h814x 0 0 _
      refine wq_gos (f := 1) (pc2 := 35) (ls2 := [(0, .ref 162), (1, .int k), (2, .int j)]) (st2 := [.int (-99)]) (h2 := h814x) (dc2 := 0) (ds2 := 0) 2 rfl ?_
      have w18x : (mSolJ (mNum (mSol lo hi kn am)) fo214x k j) = (-99 : Int32) := by unfold mSolJ; rw [if_neg (Int.not_lt.mpr b15x), if_pos b17x]
      exact wq_ret rfl rfl ⟨h814x, m3414x, m3514x, m3914x, fo214x, on214x, pa214x, pb214x, (by rw [w18x]), (wFr_tr (wFr_sub ff3x (by simp)) (wFr_sub f814x (by simp))), (by omega), c014x, c114x, c214x, c314x, c414x, (by first | assumption | omega | decide | solve_by_elim), (by first | assumption | omega | decide | solve_by_elim)⟩
    · refine wq_gos (f := 1) (pc2 := 21) (ls2 := [(0, .ref 162), (1, .int k)]) (st2 := [.int 1]) (h2 := h814x) (dc2 := 0) (ds2 := 0) 2 rfl ?_
      refine wq_ret rfl rfl ?_
      show wq 231 17 [(0, .ref 162), (1, .int k), (2, .int j)] [.int 1] h814x 0 0 _
      refine wq_gos (f := 1) (pc2 := 23) (ls2 := [(0, .ref 162), (1, .int k), (2, .int j)]) (st2 := [.int k, .ref 162, .ref 162]) (h2 := h814x) (dc2 := 0) (ds2 := 0) 4 rfl ?_
      refine wq_inlv (y2 := 228) (as := [.int k]) rfl rfl rfl c014x rfl ?_
      show wq 228 0 [(0, .ref 162), (1, .int k)] [] h814x 0 0 _
      refine wq_gos (f := 1) (pc2 := 1) (ls2 := [(0, .ref 162), (1, .int k)]) (st2 := [.ref 162]) (h2 := h814x) (dc2 := 0) (ds2 := 0) 1 rfl ?_
      refine wq_getf rfl c014x rfl rfl ?_
      refine wq_gos (f := 1) (pc2 := 9) (ls2 := [(0, .ref 162), (1, .int k)]) (st2 := [.int ((4800 : Int32) + k), .ref 196]) (h2 := h814x) (dc2 := 0) (ds2 := 0) 3 rfl ?_
      have q19x : (4800 : Int32).toInt = 4800 := rfl
      try have q20x : (((4800 : Int32) + k)).toInt = (4800 : Int32).toInt + k.toInt := e_add (by omega) (by omega)
      refine wq_lald rfl c114x (by first | omega | exact zin_t (by omega) (by omega)) rfl ?_
      refine wq_ret rfl rfl ?_
      show wq 231 26 [(0, .ref 162), (1, .int k), (2, .int j)] [.long (fo214x.getD (((4800 : Int32) + k)).toNatClampNeg 0), .ref 162] h814x 0 0 _
      refine wq_gos (f := 1) (pc2 := 27) (ls2 := [(0, .ref 162), (1, .int k), (2, .int j)]) (st2 := [.int j, .long (fo214x.getD (((4800 : Int32) + k)).toNatClampNeg 0), .ref 162]) (h2 := h814x) (dc2 := 0) (ds2 := 0) 1 rfl ?_
      refine wq_inlv (y2 := 220) (as := [.long (fo214x.getD (((4800 : Int32) + k)).toNatClampNeg 0), .int j]) rfl rfl rfl c014x rfl (wq_mono (m_jof c014x) ?_)
      rintro _ rfl
      show wq 231 30 [(0, .ref 162), (1, .int k), (2, .int j)] [.int (mJof (fo214x.getD (((4800 : Int32) + k)).toNatClampNeg 0) j)] h814x 0 0 _
      refine wq_gos (f := 1) (pc2 := 35) (ls2 := [(0, .ref 162), (1, .int k), (2, .int j)]) (st2 := [.int (mJof (fo214x.getD (((4800 : Int32) + k)).toNatClampNeg 0) j)]) (h2 := h814x) (dc2 := 0) (ds2 := 0) 1 rfl ?_
      have w22x : (mSolJ (mNum (mSol lo hi kn am)) fo214x k j) = (mJof (fo214x.getD (((4800 : Int32) + k)).toNatClampNeg 0) j) := by unfold mSolJ; rw [if_neg (Int.not_lt.mpr b15x), if_neg (Int.not_le.mpr b17x)]
      exact wq_ret rfl rfl ⟨h814x, m3414x, m3514x, m3914x, fo214x, on214x, pa214x, pb214x, (by rw [w22x]), (wFr_tr (wFr_sub ff3x (by simp)) (wFr_sub f814x (by simp))), (by omega), c014x, c114x, c214x, c314x, c414x, (by first | assumption | omega | decide | solve_by_elim), (by first | assumption | omega | decide | solve_by_elim)⟩
noncomputable def mWayJ (n9 : Int32) (fo9 : List Int64) (sv nw h1 : List Int32) (k w : Int32) : Int32 := (if k.toInt < 0 then (-9 : Int32) else (if n9.toInt ≤ k.toInt then (-9 : Int32) else (zlet (mUnp (fo9.getD (((4800 : Int32) + k)).toNatClampNeg 0) 0 h1) (fun v22x => (if (2 : Int32).toInt ≤ w.toInt then (if w ≠ (2 : Int32) then (if w ≠ (3 : Int32) then (if (mKep nw 0 (v22x) 0) = (0 : Int32) then (0 : Int32) else (1 : Int32)) else (mtkF sv nw 0 (v22x) 0 (6 - 0 + 1) 0 0)) else (mMea (v22x) 0)) else (if w ≠ (0 : Int32) then (mBen (v22x) 0) else (mSid (v22x) 0)))))))
set_option maxRecDepth 100000 in
set_option maxHeartbeats 4000000 in
theorem m_wayJ {h : zH} {n0 n2 n14 n15 n16 n17 n18 n19 n20 n21 n22 n23 n27 n28 n32 n33 n34 n35 n39 n52 : Int32} {kn lo hi on pa pb : List Int32} {fo : List Int64} {am : List Int32} {sv nw h1 : List Int32} {k w : Int32} (hM : zat h 162 = some (.inr (.inr (.inr (10, mO n0 n2 n14 n15 n16 n17 n18 n19 n20 n21 n22 n23 n27 n28 n32 n33 n34 n35 n39 n52))))) (hKn : zat h 166 = some (.inl (0, 14, kn))) (hLo : zat h 168 = some (.inl (0, 12, lo))) (hHi : zat h 170 = some (.inl (0, 12, hi))) (hFo : zat h 196 = some (.inr (.inl (6000, fo)))) (hOn : zat h 204 = some (.inl (0, 6, on))) (h200 : zat h 200 = some (.inl (0, 4096, pa))) (h202 : zat h 202 = some (.inl (0, 4096, pb))) (hAm : zat h 190 = some (.inl (0, 6, am))) (hSv : zat h 172 = some (.inl (0, 12, sv))) (hNw : zat h 188 = some (.inl (0, 6, nw))) (hH1 : zat h 206 = some (.inl (0, 6, h1))) (h01 : n33 = 0 ∨ n33 = 1) (hSA : n33 = 1 → n32 = mNum (mSol lo hi kn am) ∧ wFd 4800 (mSol lo hi kn am) fo) (hw : 0 ≤ w.toInt ∧ w.toInt ≤ 4) (hsv : ∀ i, i < 6 → 1 ≤ (sv.getD i 0).toInt) : wq 236 0 [(0, .ref 162), (1, .int k), (2, .int w)] [] h 0 0 (fun rr9 => ∃ (h2 : zH) (m34 : Int32) (m35 : Int32) (m39 : Int32) (fo2 : List Int64) (on2 : List Int32) (pa2 : List Int32) (pb2 : List Int32) (h12 : List Int32), rr9 = (some (.int (mWayJ (mNum (mSol lo hi kn am)) fo2 sv nw h1 k w)), h2, 0, 0) ∧ wFr [162, 196, 204, 200, 202, 206] h h2 ∧ h2.length = h.length ∧ zat h2 162 = some (.inr (.inr (.inr (10, mO (0 : Int32) n2 n14 n15 n16 n17 n18 n19 n20 n21 n22 n23 n27 n28 (mNum (mSol lo hi kn am)) (1 : Int32) m34 m35 m39 n52)))) ∧ zat h2 196 = some (.inr (.inl (6000, fo2))) ∧ zat h2 204 = some (.inl (0, 6, on2)) ∧ zat h2 200 = some (.inl (0, 4096, pa2)) ∧ zat h2 202 = some (.inl (0, 4096, pb2)) ∧ zat h2 206 = some (.inl (0, 6, h12)) ∧ (wFe (fun q => fo.getD q 0) 4800 (mSol lo hi kn am) fo2) ∧ (((mNum (mSol lo hi kn am)).toInt = -3 ∨ 0 ≤ (mNum (mSol lo hi kn am)).toInt) ∧ (mNum (mSol lo hi kn am)).toInt ≤ 600)) := by
  have z0 : (0 : Int32).toInt = 0 := rfl
  have z1 : (1 : Int32).toInt = 1 := rfl
  have z5 : (5 : Int32).toInt = 5 := rfl
  have z6 : (6 : Int32).toInt = 6 := rfl
  have zm1 : (-1 : Int32).toInt = -1 := rfl
  have z3 : (3 : Int32).toInt = 3 := rfl
  have z2 : (2 : Int32).toInt = 2 := rfl
  have z20 : (20 : Int32).toInt = 20 := rfl
  have z4800 : (4800 : Int32).toInt = 4800 := rfl
  refine wq_gos (f := 1) (pc2 := 2) (ls2 := [(0, .ref 162), (1, .int k), (2, .int w)]) (st2 := [.int 0, .ref 162]) (h2 := h) (dc2 := 0) (ds2 := 0) 2 rfl ?_
  refine wq_putf rfl hM rfl rfl rfl ?_
  intro hh1x e2x ff3x lh4x
  have e2x : zat hh1x 162 = some (.inr (.inr (.inr (10, mO (0 : Int32) n2 n14 n15 n16 n17 n18 n19 n20 n21 n22 n23 n27 n28 n32 n33 n34 n35 n39 n52)))) := e2x
  refine wq_gos (f := 1) (pc2 := 6) (ls2 := [(0, .ref 162), (1, .int k), (2, .int w)]) (st2 := [.int w]) (h2 := hh1x) (dc2 := 0) (ds2 := 0) 1 rfl ?_
  refine wq_lt0f rfl rfl (by omega) ?_
  refine wq_gos (f := 1) (pc2 := 11) (ls2 := [(0, .ref 162), (1, .int k), (2, .int w)]) (st2 := [.int 4, .int w]) (h2 := hh1x) (dc2 := 0) (ds2 := 0) 2 rfl ?_
  have q5x : (4 : Int32).toInt = 4 := rfl
  refine wq_gt2f rfl rfl (by omega) ?_
  refine wq_gos (f := 1) (pc2 := 16) (ls2 := [(0, .ref 162), (1, .int k), (2, .int w)]) (st2 := [.int k, .ref 162]) (h2 := hh1x) (dc2 := 0) (ds2 := 0) 2 rfl ?_
  refine wq_inlv (y2 := 230) (as := [.int k]) rfl rfl rfl e2x rfl ?_
  show wq 230 0 [(0, .ref 162), (1, .int k)] [] hh1x 0 0 _
  refine wq_gos (f := 1) (pc2 := 1) (ls2 := [(0, .ref 162), (1, .int k)]) (st2 := [.ref 162]) (h2 := hh1x) (dc2 := 0) (ds2 := 0) 1 rfl ?_
  have e6x := (ff3x.2 _ _ (wnc (by decide) wn0) hKn)
  have e7x := (ff3x.2 _ _ (wnc (by decide) wn0) hLo)
  have e8x := (ff3x.2 _ _ (wnc (by decide) wn0) hHi)
  have e9x := (ff3x.2 _ _ (wnc (by decide) wn0) hFo)
  have e10x := (ff3x.2 _ _ (wnc (by decide) wn0) hOn)
  have e11x := (ff3x.2 _ _ (wnc (by decide) wn0) h200)
  have e12x := (ff3x.2 _ _ (wnc (by decide) wn0) h202)
  have e13x := (ff3x.2 _ _ (wnc (by decide) wn0) hAm)
  refine wq_inlv (y2 := 227) (as := []) rfl rfl rfl e2x rfl (wq_mono (m_sva e2x e6x e7x e8x e9x e10x e11x e12x e13x (by first | assumption | omega | decide | solve_by_elim) (by first | assumption | omega | decide | solve_by_elim)) ?_)
  rintro _ ⟨h814x, m3414x, m3514x, m3914x, fo214x, on214x, pa214x, pb214x, rfl, f814x, l814x, c014x, c114x, c214x, c314x, c414x, p014x, p114x⟩
  show wq 230 4 [(0, .ref 162), (1, .int k)] [] h814x 0 0 _
  refine wq_gos (f := 1) (pc2 := 5) (ls2 := [(0, .ref 162), (1, .int k)]) (st2 := [.int k]) (h2 := h814x) (dc2 := 0) (ds2 := 0) 1 rfl ?_
  refine wq_lt0 rfl rfl (fun b15x => ?_) (fun b15x => ?_)
  · refine wq_gos (f := 1) (pc2 := 21) (ls2 := [(0, .ref 162), (1, .int k)]) (st2 := [.int 0]) (h2 := h814x) (dc2 := 0) (ds2 := 0) 1 rfl ?_
    refine wq_ret rfl rfl ?_
    show wq 236 19 [(0, .ref 162), (1, .int k), (2, .int w)] [.int 0] h814x 0 0 _
    refine wq_gos (f := 1) (pc2 := 24) (ls2 := [(0, .ref 162), (1, .int k), (2, .int w)]) (st2 := [.int (-9)]) (h2 := h814x) (dc2 := 0) (ds2 := 0) 2 rfl ?_
    have e16x := (f814x.2 _ _ (wnc (by decide) (wnc (by decide) (wnc (by decide) (wnc (by decide) (wnc (by decide) wn0))))) (ff3x.2 _ _ (wnc (by decide) wn0) hH1))
    have w17x : (mWayJ (mNum (mSol lo hi kn am)) fo214x sv nw h1 k w) = (-9 : Int32) := by unfold mWayJ; rw [if_pos b15x]
    exact wq_ret rfl rfl ⟨h814x, m3414x, m3514x, m3914x, fo214x, on214x, pa214x, pb214x, h1, (by rw [w17x]), (wFr_tr (wFr_sub ff3x (by simp)) (wFr_sub f814x (by simp))), (by omega), c014x, c114x, c214x, c314x, c414x, e16x, (by first | assumption | omega | decide | solve_by_elim), (by first | assumption | omega | decide | solve_by_elim)⟩
  · refine wq_gos (f := 1) (pc2 := 10) (ls2 := [(0, .ref 162), (1, .int k)]) (st2 := [.ref 162, .int k]) (h2 := h814x) (dc2 := 0) (ds2 := 0) 2 rfl ?_
    refine wq_getf rfl c014x rfl rfl ?_
    refine wq_ge2 rfl rfl (fun b18x => ?_) (fun b18x => ?_)
    · refine wq_gos (f := 1) (pc2 := 21) (ls2 := [(0, .ref 162), (1, .int k)]) (st2 := [.int 0]) (h2 := h814x) (dc2 := 0) (ds2 := 0) 1 rfl ?_
      refine wq_ret rfl rfl ?_
      show wq 236 19 [(0, .ref 162), (1, .int k), (2, .int w)] [.int 0] h814x 0 0 _
      refine wq_gos (f := 1) (pc2 := 24) (ls2 := [(0, .ref 162), (1, .int k), (2, .int w)]) (st2 := [.int (-9)]) (h2 := h814x) (dc2 := 0) (ds2 := 0) 2 rfl ?_
      have e19x := (f814x.2 _ _ (wnc (by decide) (wnc (by decide) (wnc (by decide) (wnc (by decide) (wnc (by decide) wn0))))) (ff3x.2 _ _ (wnc (by decide) wn0) hH1))
      have w20x : (mWayJ (mNum (mSol lo hi kn am)) fo214x sv nw h1 k w) = (-9 : Int32) := by unfold mWayJ; rw [if_neg (Int.not_lt.mpr b15x), if_pos b18x]
      exact wq_ret rfl rfl ⟨h814x, m3414x, m3514x, m3914x, fo214x, on214x, pa214x, pb214x, h1, (by rw [w20x]), (wFr_tr (wFr_sub ff3x (by simp)) (wFr_sub f814x (by simp))), (by omega), c014x, c114x, c214x, c314x, c414x, e19x, (by first | assumption | omega | decide | solve_by_elim), (by first | assumption | omega | decide | solve_by_elim)⟩
    · refine wq_gos (f := 1) (pc2 := 21) (ls2 := [(0, .ref 162), (1, .int k)]) (st2 := [.int 1]) (h2 := h814x) (dc2 := 0) (ds2 := 0) 2 rfl ?_
      refine wq_ret rfl rfl ?_
      show wq 236 19 [(0, .ref 162), (1, .int k), (2, .int w)] [.int 1] h814x 0 0 _
      refine wq_gos (f := 1) (pc2 := 28) (ls2 := [(0, .ref 162), (1, .int k), (2, .int w)]) (st2 := [.int k, .ref 162, .ref 162]) (h2 := h814x) (dc2 := 0) (ds2 := 0) 4 rfl ?_
      refine wq_inlv (y2 := 228) (as := [.int k]) rfl rfl rfl c014x rfl ?_
      show wq 228 0 [(0, .ref 162), (1, .int k)] [] h814x 0 0 _
      refine wq_gos (f := 1) (pc2 := 1) (ls2 := [(0, .ref 162), (1, .int k)]) (st2 := [.ref 162]) (h2 := h814x) (dc2 := 0) (ds2 := 0) 1 rfl ?_
      refine wq_getf rfl c014x rfl rfl ?_
      refine wq_gos (f := 1) (pc2 := 9) (ls2 := [(0, .ref 162), (1, .int k)]) (st2 := [.int ((4800 : Int32) + k), .ref 196]) (h2 := h814x) (dc2 := 0) (ds2 := 0) 3 rfl ?_
      have q21x : (4800 : Int32).toInt = 4800 := rfl
      try have q22x : (((4800 : Int32) + k)).toInt = (4800 : Int32).toInt + k.toInt := e_add (by omega) (by omega)
      refine wq_lald rfl c114x (by first | omega | exact zin_t (by omega) (by omega)) rfl ?_
      refine wq_ret rfl rfl ?_
      show wq 236 31 [(0, .ref 162), (1, .int k), (2, .int w)] [.long (fo214x.getD (((4800 : Int32) + k)).toNatClampNeg 0), .ref 162] h814x 0 0 _
      refine wq_gos (f := 1) (pc2 := 32) (ls2 := [(0, .ref 162), (1, .int k), (2, .int w)]) (st2 := [.ref 162, .long (fo214x.getD (((4800 : Int32) + k)).toNatClampNeg 0), .ref 162]) (h2 := h814x) (dc2 := 0) (ds2 := 0) 1 rfl ?_
      refine wq_getf rfl c014x rfl rfl ?_
      refine wq_gos (f := 1) (pc2 := 36) (ls2 := [(0, .ref 162), (1, .int k), (2, .int w)]) (st2 := [.int 0, .ref 206, .long (fo214x.getD (((4800 : Int32) + k)).toNatClampNeg 0), .ref 162]) (h2 := h814x) (dc2 := 0) (ds2 := 0) 1 rfl ?_
      have e23x := (f814x.2 _ _ (wnc (by decide) (wnc (by decide) (wnc (by decide) (wnc (by decide) (wnc (by decide) wn0))))) (ff3x.2 _ _ (wnc (by decide) wn0) hH1))
      have q24x : (0 : Int32).toInt = 0 := rfl
      refine wq_inlv (y2 := 221) (as := [.long (fo214x.getD (((4800 : Int32) + k)).toNatClampNeg 0), .ref 206, .int 0]) rfl rfl rfl c014x rfl (wq_mono (m_unp (k := 0) c014x e23x (by decide) (by decide)) ?_)
      rintro _ ⟨h825x, rfl, f825x, l825x, c025x⟩
      show wq 236 39 [(0, .ref 162), (1, .int k), (2, .int w)] [] h825x 0 0 _
      obtain ⟨v26x, hv27x⟩ : ∃ x, x = (mUnp (fo214x.getD (((4800 : Int32) + k)).toNatClampNeg 0) 0 h1) := ⟨_, rfl⟩
      try rw [← hv27x] at c025x
      try rw [← hv27x]
      refine wq_gos (f := 1) (pc2 := 41) (ls2 := [(0, .ref 162), (1, .int k), (2, .int w)]) (st2 := [.int 2, .int w]) (h2 := h825x) (dc2 := 0) (ds2 := 0) 2 rfl ?_
      have q28x : (2 : Int32).toInt = 2 := rfl
      refine wq_ge2 rfl rfl (fun b29x => ?_) (fun b29x => ?_)
      · refine wq_gos (f := 1) (pc2 := 70) (ls2 := [(0, .ref 162), (1, .int k), (2, .int w)]) (st2 := [.int 2, .int w]) (h2 := h825x) (dc2 := 0) (ds2 := 0) 2 rfl ?_
        refine wq_ne2 rfl rfl (fun b30x => ?_) (fun b30x => ?_)
        · have q31x : w.toInt ≠ 2 := fun q => b30x (Int32.toInt_inj.mp q)
          refine wq_gos (f := 1) (pc2 := 84) (ls2 := [(0, .ref 162), (1, .int k), (2, .int w)]) (st2 := [.int 3, .int w]) (h2 := h825x) (dc2 := 0) (ds2 := 0) 2 rfl ?_
          have q32x : (3 : Int32).toInt = 3 := rfl
          refine wq_ne2 rfl rfl (fun b33x => ?_) (fun b33x => ?_)
          · have q34x : w.toInt ≠ 3 := fun q => b33x (Int32.toInt_inj.mp q)
            refine wq_gos (f := 1) (pc2 := 106) (ls2 := [(0, .ref 162), (1, .int k), (2, .int w)]) (st2 := [.ref 162, .ref 162]) (h2 := h825x) (dc2 := 0) (ds2 := 0) 2 rfl ?_
            have e35x := (f825x.2 _ _ (wnc (by decide) wn0) c014x)
            refine wq_getf rfl e35x rfl rfl ?_
            refine wq_gos (f := 1) (pc2 := 111) (ls2 := [(0, .ref 162), (1, .int k), (2, .int w)]) (st2 := [.ref 162, .int 0, .ref 188, .ref 162]) (h2 := h825x) (dc2 := 0) (ds2 := 0) 2 rfl ?_
            refine wq_getf rfl e35x rfl rfl ?_
            refine wq_gos (f := 1) (pc2 := 115) (ls2 := [(0, .ref 162), (1, .int k), (2, .int w)]) (st2 := [.int 0, .ref 206, .int 0, .ref 188, .ref 162]) (h2 := h825x) (dc2 := 0) (ds2 := 0) 1 rfl ?_
            have e36x := (f825x.2 _ _ (wnc (by decide) wn0) (f814x.2 _ _ (wnc (by decide) (wnc (by decide) (wnc (by decide) (wnc (by decide) (wnc (by decide) wn0))))) (ff3x.2 _ _ (wnc (by decide) wn0) hNw)))
            refine wq_inlv (y2 := 234) (as := [.ref 188, .int 0, .ref 206, .int 0]) rfl rfl rfl e35x rfl (wq_mono (m_kept (k := 0) (l := 0) e35x e36x c025x (by decide) (by decide)) ?_)
            rintro _ rfl
            show wq 236 118 [(0, .ref 162), (1, .int k), (2, .int w)] [.int (mKep nw 0 (v26x) 0)] h825x 0 0 _
            refine wq_eq0 rfl rfl (fun b38x => ?_) (fun b38x => ?_)
            · have q39x : (mKep nw 0 (v26x) 0).toInt = 0 := congrArg Int32.toInt b38x
              refine wq_gos (f := 1) (pc2 := 126) (ls2 := [(0, .ref 162), (1, .int k), (2, .int w)]) (st2 := [.int 0]) (h2 := h825x) (dc2 := 0) (ds2 := 0) 1 rfl ?_
              have e40x := (f825x.2 _ _ (wnc (by decide) wn0) c114x)
              have e41x := (f825x.2 _ _ (wnc (by decide) wn0) c214x)
              have e42x := (f825x.2 _ _ (wnc (by decide) wn0) c314x)
              have e43x := (f825x.2 _ _ (wnc (by decide) wn0) c414x)
              have w44x : (mWayJ (mNum (mSol lo hi kn am)) fo214x sv nw h1 k w) = (0 : Int32) := by unfold mWayJ; rw [if_neg (Int.not_lt.mpr b15x), if_neg (Int.not_le.mpr b18x), zlet_eq hv27x, if_pos b29x, if_pos b30x, if_pos b33x, if_pos b38x]
              subst hv27x
              exact wq_ret rfl rfl ⟨h825x, m3414x, m3514x, m3914x, fo214x, on214x, pa214x, pb214x, ((mUnp (fo214x.getD (((4800 : Int32) + k)).toNatClampNeg 0) 0 h1)), (by rw [w44x]), (wFr_tr (wFr_sub ff3x (by simp)) (wFr_tr (wFr_sub f814x (by simp)) (wFr_sub f825x (by simp)))), (by omega), e35x, e40x, e41x, e42x, e43x, c025x, (by first | assumption | omega | decide | solve_by_elim), (by first | assumption | omega | decide | solve_by_elim)⟩
            · have q45x : (mKep nw 0 (v26x) 0).toInt ≠ 0 := fun q => b38x (Int32.toInt_inj.mp q)
              refine wq_gos (f := 1) (pc2 := 126) (ls2 := [(0, .ref 162), (1, .int k), (2, .int w)]) (st2 := [.int 1]) (h2 := h825x) (dc2 := 0) (ds2 := 0) 2 rfl ?_
              have e46x := (f825x.2 _ _ (wnc (by decide) wn0) c114x)
              have e47x := (f825x.2 _ _ (wnc (by decide) wn0) c214x)
              have e48x := (f825x.2 _ _ (wnc (by decide) wn0) c314x)
              have e49x := (f825x.2 _ _ (wnc (by decide) wn0) c414x)
              have w50x : (mWayJ (mNum (mSol lo hi kn am)) fo214x sv nw h1 k w) = (1 : Int32) := by unfold mWayJ; rw [if_neg (Int.not_lt.mpr b15x), if_neg (Int.not_le.mpr b18x), zlet_eq hv27x, if_pos b29x, if_pos b30x, if_pos b33x, if_neg b38x]
              subst hv27x
              exact wq_ret rfl rfl ⟨h825x, m3414x, m3514x, m3914x, fo214x, on214x, pa214x, pb214x, ((mUnp (fo214x.getD (((4800 : Int32) + k)).toNatClampNeg 0) 0 h1)), (by rw [w50x]), (wFr_tr (wFr_sub ff3x (by simp)) (wFr_tr (wFr_sub f814x (by simp)) (wFr_sub f825x (by simp)))), (by omega), e35x, e46x, e47x, e48x, e49x, c025x, (by first | assumption | omega | decide | solve_by_elim), (by first | assumption | omega | decide | solve_by_elim)⟩
          · have q51x : w.toInt = 3 := congrArg Int32.toInt b33x
            refine wq_gos (f := 1) (pc2 := 89) (ls2 := [(0, .ref 162), (1, .int k), (2, .int w)]) (st2 := [.ref 162, .ref 162]) (h2 := h825x) (dc2 := 0) (ds2 := 0) 2 rfl ?_
            have e52x := (f825x.2 _ _ (wnc (by decide) wn0) c014x)
            refine wq_getf rfl e52x rfl rfl ?_
            refine wq_gos (f := 1) (pc2 := 94) (ls2 := [(0, .ref 162), (1, .int k), (2, .int w)]) (st2 := [.ref 162, .int 0, .ref 188, .ref 162]) (h2 := h825x) (dc2 := 0) (ds2 := 0) 2 rfl ?_
            refine wq_getf rfl e52x rfl rfl ?_
            refine wq_gos (f := 1) (pc2 := 98) (ls2 := [(0, .ref 162), (1, .int k), (2, .int w)]) (st2 := [.int 0, .ref 206, .int 0, .ref 188, .ref 162]) (h2 := h825x) (dc2 := 0) (ds2 := 0) 1 rfl ?_
            have e53x := (f825x.2 _ _ (wnc (by decide) wn0) (f814x.2 _ _ (wnc (by decide) (wnc (by decide) (wnc (by decide) (wnc (by decide) (wnc (by decide) wn0))))) (ff3x.2 _ _ (wnc (by decide) wn0) hSv)))
            have e54x := (f825x.2 _ _ (wnc (by decide) wn0) (f814x.2 _ _ (wnc (by decide) (wnc (by decide) (wnc (by decide) (wnc (by decide) (wnc (by decide) wn0))))) (ff3x.2 _ _ (wnc (by decide) wn0) hNw)))
            refine wq_inlv (y2 := 233) (as := [.ref 188, .int 0, .ref 206, .int 0]) rfl rfl rfl e52x rfl (wq_mono (m_tks (k := 0) (l := 0) e52x e53x e54x c025x (by decide) (by decide) (by first | assumption | omega | decide | solve_by_elim)) ?_)
            rintro _ rfl
            show wq 236 101 [(0, .ref 162), (1, .int k), (2, .int w)] [.int (mtkF sv nw 0 (v26x) 0 (6 - 0 + 1) 0 0)] h825x 0 0 _
            refine wq_gos (f := 1) (pc2 := 126) (ls2 := [(0, .ref 162), (1, .int k), (2, .int w)]) (st2 := [.int (mtkF sv nw 0 (v26x) 0 (6 - 0 + 1) 0 0)]) (h2 := h825x) (dc2 := 0) (ds2 := 0) 1 rfl ?_
            have e56x := (f825x.2 _ _ (wnc (by decide) wn0) c114x)
            have e57x := (f825x.2 _ _ (wnc (by decide) wn0) c214x)
            have e58x := (f825x.2 _ _ (wnc (by decide) wn0) c314x)
            have e59x := (f825x.2 _ _ (wnc (by decide) wn0) c414x)
            have w60x : (mWayJ (mNum (mSol lo hi kn am)) fo214x sv nw h1 k w) = (mtkF sv nw 0 (v26x) 0 (6 - 0 + 1) 0 0) := by unfold mWayJ; rw [if_neg (Int.not_lt.mpr b15x), if_neg (Int.not_le.mpr b18x), zlet_eq hv27x, if_pos b29x, if_pos b30x, if_neg (fun q => q b33x)]
            subst hv27x
            exact wq_ret rfl rfl ⟨h825x, m3414x, m3514x, m3914x, fo214x, on214x, pa214x, pb214x, ((mUnp (fo214x.getD (((4800 : Int32) + k)).toNatClampNeg 0) 0 h1)), (by rw [w60x]), (wFr_tr (wFr_sub ff3x (by simp)) (wFr_tr (wFr_sub f814x (by simp)) (wFr_sub f825x (by simp)))), (by omega), e52x, e56x, e57x, e58x, e59x, c025x, (by first | assumption | omega | decide | solve_by_elim), (by first | assumption | omega | decide | solve_by_elim)⟩
        · have q61x : w.toInt = 2 := congrArg Int32.toInt b30x
          refine wq_gos (f := 1) (pc2 := 74) (ls2 := [(0, .ref 162), (1, .int k), (2, .int w)]) (st2 := [.ref 162]) (h2 := h825x) (dc2 := 0) (ds2 := 0) 1 rfl ?_
          have e62x := (f825x.2 _ _ (wnc (by decide) wn0) c014x)
          refine wq_getf rfl e62x rfl rfl ?_
          refine wq_gos (f := 1) (pc2 := 78) (ls2 := [(0, .ref 162), (1, .int k), (2, .int w)]) (st2 := [.int 0, .ref 206]) (h2 := h825x) (dc2 := 0) (ds2 := 0) 1 rfl ?_
          refine wq_inl (y2 := 206) (as := [.ref 206, .int 0]) rfl rfl rfl (wq_mono (m_meav (k := 0) c025x (by decide)) ?_)
          rintro _ rfl
          show wq 236 81 [(0, .ref 162), (1, .int k), (2, .int w)] [.int (mMea (v26x) 0)] h825x 0 0 _
          have e64x := (f825x.2 _ _ (wnc (by decide) wn0) c114x)
          have e65x := (f825x.2 _ _ (wnc (by decide) wn0) c214x)
          have e66x := (f825x.2 _ _ (wnc (by decide) wn0) c314x)
          have e67x := (f825x.2 _ _ (wnc (by decide) wn0) c414x)
          have w68x : (mWayJ (mNum (mSol lo hi kn am)) fo214x sv nw h1 k w) = (mMea (v26x) 0) := by unfold mWayJ; rw [if_neg (Int.not_lt.mpr b15x), if_neg (Int.not_le.mpr b18x), zlet_eq hv27x, if_pos b29x, if_neg (fun q => q b30x)]
          subst hv27x
          exact wq_ret rfl rfl ⟨h825x, m3414x, m3514x, m3914x, fo214x, on214x, pa214x, pb214x, ((mUnp (fo214x.getD (((4800 : Int32) + k)).toNatClampNeg 0) 0 h1)), (by rw [w68x]), (wFr_tr (wFr_sub ff3x (by simp)) (wFr_tr (wFr_sub f814x (by simp)) (wFr_sub f825x (by simp)))), (by omega), e62x, e64x, e65x, e66x, e67x, c025x, (by first | assumption | omega | decide | solve_by_elim), (by first | assumption | omega | decide | solve_by_elim)⟩
      · refine wq_gos (f := 1) (pc2 := 45) (ls2 := [(0, .ref 162), (1, .int k), (2, .int w)]) (st2 := [.int w]) (h2 := h825x) (dc2 := 0) (ds2 := 0) 1 rfl ?_
        refine wq_ne0 rfl rfl (fun b69x => ?_) (fun b69x => ?_)
        · have q70x : w.toInt ≠ 0 := fun q => b69x (Int32.toInt_inj.mp q)
          refine wq_gos (f := 1) (pc2 := 60) (ls2 := [(0, .ref 162), (1, .int k), (2, .int w)]) (st2 := [.ref 162]) (h2 := h825x) (dc2 := 0) (ds2 := 0) 1 rfl ?_
          have e71x := (f825x.2 _ _ (wnc (by decide) wn0) c014x)
          refine wq_getf rfl e71x rfl rfl ?_
          refine wq_gos (f := 1) (pc2 := 64) (ls2 := [(0, .ref 162), (1, .int k), (2, .int w)]) (st2 := [.int 0, .ref 206]) (h2 := h825x) (dc2 := 0) (ds2 := 0) 1 rfl ?_
          refine wq_inl (y2 := 205) (as := [.ref 206, .int 0]) rfl rfl rfl (wq_mono (m_bendv (k := 0) c025x (by decide)) ?_)
          rintro _ rfl
          show wq 236 67 [(0, .ref 162), (1, .int k), (2, .int w)] [.int (mBen (v26x) 0)] h825x 0 0 _
          have e73x := (f825x.2 _ _ (wnc (by decide) wn0) c114x)
          have e74x := (f825x.2 _ _ (wnc (by decide) wn0) c214x)
          have e75x := (f825x.2 _ _ (wnc (by decide) wn0) c314x)
          have e76x := (f825x.2 _ _ (wnc (by decide) wn0) c414x)
          have w77x : (mWayJ (mNum (mSol lo hi kn am)) fo214x sv nw h1 k w) = (mBen (v26x) 0) := by unfold mWayJ; rw [if_neg (Int.not_lt.mpr b15x), if_neg (Int.not_le.mpr b18x), zlet_eq hv27x, if_neg (Int.not_le.mpr b29x), if_pos b69x]
          subst hv27x
          exact wq_ret rfl rfl ⟨h825x, m3414x, m3514x, m3914x, fo214x, on214x, pa214x, pb214x, ((mUnp (fo214x.getD (((4800 : Int32) + k)).toNatClampNeg 0) 0 h1)), (by rw [w77x]), (wFr_tr (wFr_sub ff3x (by simp)) (wFr_tr (wFr_sub f814x (by simp)) (wFr_sub f825x (by simp)))), (by omega), e71x, e73x, e74x, e75x, e76x, c025x, (by first | assumption | omega | decide | solve_by_elim), (by first | assumption | omega | decide | solve_by_elim)⟩
        · have q78x : w.toInt = 0 := congrArg Int32.toInt b69x
          refine wq_gos (f := 1) (pc2 := 49) (ls2 := [(0, .ref 162), (1, .int k), (2, .int w)]) (st2 := [.ref 162]) (h2 := h825x) (dc2 := 0) (ds2 := 0) 1 rfl ?_
          have e79x := (f825x.2 _ _ (wnc (by decide) wn0) c014x)
          refine wq_getf rfl e79x rfl rfl ?_
          refine wq_gos (f := 1) (pc2 := 53) (ls2 := [(0, .ref 162), (1, .int k), (2, .int w)]) (st2 := [.int 0, .ref 206]) (h2 := h825x) (dc2 := 0) (ds2 := 0) 1 rfl ?_
          refine wq_inl (y2 := 204) (as := [.ref 206, .int 0]) rfl rfl rfl (wq_mono (m_sidev (k := 0) c025x (by decide)) ?_)
          rintro _ rfl
          show wq 236 56 [(0, .ref 162), (1, .int k), (2, .int w)] [.int (mSid (v26x) 0)] h825x 0 0 _
          refine wq_gos (f := 1) (pc2 := 67) (ls2 := [(0, .ref 162), (1, .int k), (2, .int w)]) (st2 := [.int (mSid (v26x) 0)]) (h2 := h825x) (dc2 := 0) (ds2 := 0) 1 rfl ?_
          have e81x := (f825x.2 _ _ (wnc (by decide) wn0) c114x)
          have e82x := (f825x.2 _ _ (wnc (by decide) wn0) c214x)
          have e83x := (f825x.2 _ _ (wnc (by decide) wn0) c314x)
          have e84x := (f825x.2 _ _ (wnc (by decide) wn0) c414x)
          have w85x : (mWayJ (mNum (mSol lo hi kn am)) fo214x sv nw h1 k w) = (mSid (v26x) 0) := by unfold mWayJ; rw [if_neg (Int.not_lt.mpr b15x), if_neg (Int.not_le.mpr b18x), zlet_eq hv27x, if_neg (Int.not_le.mpr b29x), if_neg (fun q => q b69x)]
          subst hv27x
          exact wq_ret rfl rfl ⟨h825x, m3414x, m3514x, m3914x, fo214x, on214x, pa214x, pb214x, ((mUnp (fo214x.getD (((4800 : Int32) + k)).toNatClampNeg 0) 0 h1)), (by rw [w85x]), (wFr_tr (wFr_sub ff3x (by simp)) (wFr_tr (wFr_sub f814x (by simp)) (wFr_sub f825x (by simp)))), (by omega), e79x, e81x, e82x, e83x, e84x, c025x, (by first | assumption | omega | decide | solve_by_elim), (by first | assumption | omega | decide | solve_by_elim)⟩
noncomputable def mneF (fo : List Int64) (sv nw : List Int32) (n : Nat) (u : Int32) : Nat → Int32 → Int32 → Nat → List Int32 → Int32 × List Int32
  | 0, _, _, _, h1 => (0, h1)
  | m + 1, b, le, k, h1 => (if (nI n).toInt ≤ (nI k).toInt then (b, h1) else (zlet (mUnp (fo.getD (((4800 : Int32) + (nI k))).toNatClampNeg 0) 0 h1) (fun v8x => (if u = (0 : Int32) then (if b = (-2 : Int32) then (mneF fo sv nw n u m (nI k) (mtkF sv nw 0 (v8x) 0 (6 - 0 + 1) 0 0) (k + 1) (v8x)) else (if (mtkF sv nw 0 (v8x) 0 (6 - 0 + 1) 0 0).toInt < le.toInt then (mneF fo sv nw n u m (nI k) (mtkF sv nw 0 (v8x) 0 (6 - 0 + 1) 0 0) (k + 1) (v8x)) else (mneF fo sv nw n u m b le (k + 1) (v8x)))) else (if (mKep nw 0 (v8x) 0) = (0 : Int32) then (mneF fo sv nw n u m b le (k + 1) (v8x)) else (if b = (-2 : Int32) then (mneF fo sv nw n u m (nI k) (mtkF sv nw 0 (v8x) 0 (6 - 0 + 1) 0 0) (k + 1) (v8x)) else (if (mtkF sv nw 0 (v8x) 0 (6 - 0 + 1) 0 0).toInt < le.toInt then (mneF fo sv nw n u m (nI k) (mtkF sv nw 0 (v8x) 0 (6 - 0 + 1) 0 0) (k + 1) (v8x)) else (mneF fo sv nw n u m b le (k + 1) (v8x)))))))))
set_option maxRecDepth 100000 in
set_option maxHeartbeats 4000000 in
theorem m_neL {n0 n2 n14 n15 n16 n17 n18 n19 n20 n21 n22 n23 n27 n28 n33 n34 n35 n39 n52 : Int32} {fo : List Int64} {sv nw : List Int32} {n : Nat} {u : Int32} (hn : n ≤ 600) (hsv : ∀ i, i < 6 → 1 ≤ (sv.getD i 0).toInt) : ∀ (m : Nat) (b : Int32) (le : Int32) (k : Nat) (h1 : List Int32) (h : zH) , (zat h 162 = some (.inr (.inr (.inr (10, mO n0 n2 n14 n15 n16 n17 n18 n19 n20 n21 n22 n23 n27 n28 (nI n) n33 n34 n35 n39 n52))))) → (zat h 196 = some (.inr (.inl (6000, fo)))) → (zat h 172 = some (.inl (0, 12, sv))) → (zat h 188 = some (.inl (0, 6, nw))) → (zat h 206 = some (.inl (0, 6, h1))) → (k ≤ n) → (n - k) < m → ∀ (dc ds : Nat), wq 237 29 [(0, .ref 162), (1, .int u), (2, .int b), (3, .int le), (4, .int (nI k))] [] h dc ds (fun rr9 => ∃ (h2 : zH) , rr9 = (some (Value.int ((mneF fo sv nw n u m b le k h1).1)), h2, dc, ds) ∧ wFr [206] h h2 ∧ h2.length = h.length ∧ zat h2 206 = some (.inl (0, 6, ((mneF fo sv nw n u m b le k h1).2)))) := by
  intro m
  induction m with
  | zero => intro b le k h1 h hM hFo hSv hNw hH1 hk hms dc ds; omega
  | succ m ih =>
    intro b le k h1 h hM hFo hSv hNw hH1 hk hms dc ds
    have qnk := nI_toInt (n := k) (by omega)
    have qnn := nI_toInt (n := n) (by omega)
    have z4800 : (4800 : Int32).toInt = 4800 := rfl
    refine wq_gos (f := 1) (pc2 := 32) (ls2 := [(0, .ref 162), (1, .int u), (2, .int b), (3, .int le), (4, .int (nI k))]) (st2 := [.ref 162, .int (nI k)]) (h2 := h) (dc2 := dc) (ds2 := ds) 2 rfl ?_
    refine wq_getf rfl hM rfl rfl ?_
    try have q1x := nI_toInt (n := k) (by omega)
    try have q2x := nI_toInt (n := n) (by omega)
    refine wq_ge2 rfl rfl (fun b3x => ?_) (fun b3x => ?_)
    · refine wq_gos (f := 1) (pc2 := 118) (ls2 := [(0, .ref 162), (1, .int u), (2, .int b), (3, .int le), (4, .int (nI k))]) (st2 := [.int b]) (h2 := h) (dc2 := dc) (ds2 := ds) 1 rfl ?_
      have hx : (mneF fo sv nw n u (m + 1) b le k h1) = (b, h1) := by show (if _ then _ else _) = _; rw [if_pos b3x]
      rw [hx]
      exact wq_ret rfl rfl ⟨h, rfl, (wFr_rf _ _), by omega, hH1⟩
    · refine wq_gos (f := 1) (pc2 := 42) (ls2 := [(0, .ref 162), (1, .int u), (2, .int b), (3, .int le), (4, .int (nI k))]) (st2 := [.int (nI k), .ref 162, .ref 162]) (h2 := h) (dc2 := dc) (ds2 := ds) 3 rfl ?_
      refine wq_inlv (y2 := 228) (as := [.int (nI k)]) rfl rfl rfl hM rfl ?_
      show wq 228 0 [(0, .ref 162), (1, .int (nI k))] [] h 0 0 _
      refine wq_gos (f := 1) (pc2 := 1) (ls2 := [(0, .ref 162), (1, .int (nI k))]) (st2 := [.ref 162]) (h2 := h) (dc2 := 0) (ds2 := 0) 1 rfl ?_
      refine wq_getf rfl hM rfl rfl ?_
      refine wq_gos (f := 1) (pc2 := 9) (ls2 := [(0, .ref 162), (1, .int (nI k))]) (st2 := [.int ((4800 : Int32) + (nI k)), .ref 196]) (h2 := h) (dc2 := 0) (ds2 := 0) 3 rfl ?_
      have q4x : (4800 : Int32).toInt = 4800 := rfl
      try have q5x : (((4800 : Int32) + (nI k))).toInt = (4800 : Int32).toInt + (nI k).toInt := e_add (by omega) (by omega)
      refine wq_lald rfl hFo (by first | omega | exact zin_t (by omega) (by omega)) rfl ?_
      refine wq_ret rfl rfl ?_
      show wq 237 45 [(0, .ref 162), (1, .int u), (2, .int b), (3, .int le), (4, .int (nI k))] [.long (fo.getD (((4800 : Int32) + (nI k))).toNatClampNeg 0), .ref 162] h dc ds _
      refine wq_gos (f := 1) (pc2 := 46) (ls2 := [(0, .ref 162), (1, .int u), (2, .int b), (3, .int le), (4, .int (nI k))]) (st2 := [.ref 162, .long (fo.getD (((4800 : Int32) + (nI k))).toNatClampNeg 0), .ref 162]) (h2 := h) (dc2 := dc) (ds2 := ds) 1 rfl ?_
      refine wq_getf rfl hM rfl rfl ?_
      refine wq_gos (f := 1) (pc2 := 50) (ls2 := [(0, .ref 162), (1, .int u), (2, .int b), (3, .int le), (4, .int (nI k))]) (st2 := [.int 0, .ref 206, .long (fo.getD (((4800 : Int32) + (nI k))).toNatClampNeg 0), .ref 162]) (h2 := h) (dc2 := dc) (ds2 := ds) 1 rfl ?_
      have q6x : (0 : Int32).toInt = 0 := rfl
      refine wq_inlv (y2 := 221) (as := [.long (fo.getD (((4800 : Int32) + (nI k))).toNatClampNeg 0), .ref 206, .int 0]) rfl rfl rfl hM rfl (wq_mono (m_unp (k := 0) hM hH1 (by decide) (by decide)) ?_)
      rintro _ ⟨h87x, rfl, f87x, l87x, c07x⟩
      show wq 237 53 [(0, .ref 162), (1, .int u), (2, .int b), (3, .int le), (4, .int (nI k))] [] h87x dc ds _
      obtain ⟨v8x, hv9x⟩ : ∃ x, x = (mUnp (fo.getD (((4800 : Int32) + (nI k))).toNatClampNeg 0) 0 h1) := ⟨_, rfl⟩
      try rw [← hv9x] at c07x
      try rw [← hv9x]
      refine wq_gos (f := 1) (pc2 := 55) (ls2 := [(0, .ref 162), (1, .int u), (2, .int b), (3, .int le), (4, .int (nI k))]) (st2 := [.ref 162, .ref 162]) (h2 := h87x) (dc2 := dc) (ds2 := ds) 2 rfl ?_
      have e10x := (f87x.2 _ _ (wnc (by decide) wn0) hM)
      refine wq_getf rfl e10x rfl rfl ?_
      refine wq_gos (f := 1) (pc2 := 60) (ls2 := [(0, .ref 162), (1, .int u), (2, .int b), (3, .int le), (4, .int (nI k))]) (st2 := [.ref 162, .int 0, .ref 188, .ref 162]) (h2 := h87x) (dc2 := dc) (ds2 := ds) 2 rfl ?_
      refine wq_getf rfl e10x rfl rfl ?_
      refine wq_gos (f := 1) (pc2 := 64) (ls2 := [(0, .ref 162), (1, .int u), (2, .int b), (3, .int le), (4, .int (nI k))]) (st2 := [.int 0, .ref 206, .int 0, .ref 188, .ref 162]) (h2 := h87x) (dc2 := dc) (ds2 := ds) 1 rfl ?_
      have e11x := (f87x.2 _ _ (wnc (by decide) wn0) hSv)
      have e12x := (f87x.2 _ _ (wnc (by decide) wn0) hNw)
      refine wq_inlv (y2 := 233) (as := [.ref 188, .int 0, .ref 206, .int 0]) rfl rfl rfl e10x rfl (wq_mono (m_tks (k := 0) (l := 0) e10x e11x e12x c07x (by decide) (by decide) (by first | assumption | omega | decide | solve_by_elim)) ?_)
      rintro _ rfl
      show wq 237 67 [(0, .ref 162), (1, .int u), (2, .int b), (3, .int le), (4, .int (nI k))] [.int (mtkF sv nw 0 (v8x) 0 (6 - 0 + 1) 0 0)] h87x dc ds _
      refine wq_gos (f := 1) (pc2 := 70) (ls2 := [(5, .int (mtkF sv nw 0 (v8x) 0 (6 - 0 + 1) 0 0)), (0, .ref 162), (1, .int u), (2, .int b), (3, .int le), (4, .int (nI k))]) (st2 := [.int u]) (h2 := h87x) (dc2 := dc) (ds2 := ds) 2 rfl ?_
      refine wq_eq0 rfl rfl (fun b14x => ?_) (fun b14x => ?_)
      · have q15x : u.toInt = 0 := congrArg Int32.toInt b14x
        refine wq_gos (f := 1) (pc2 := 93) (ls2 := [(5, .int (mtkF sv nw 0 (v8x) 0 (6 - 0 + 1) 0 0)), (0, .ref 162), (1, .int u), (2, .int b), (3, .int le), (4, .int (nI k))]) (st2 := [.int (-2), .int b]) (h2 := h87x) (dc2 := dc) (ds2 := ds) 2 rfl ?_
        have q16x : (-2 : Int32).toInt = -2 := rfl
        refine wq_eq2 rfl rfl (fun b17x => ?_) (fun b17x => ?_)
        · have q18x : b.toInt = -2 := congrArg Int32.toInt b17x
          refine wq_gos (f := 1) (pc2 := 114) (ls2 := [(4, .int ((nI k) + 1)), (3, .int (mtkF sv nw 0 (v8x) 0 (6 - 0 + 1) 0 0)), (2, .int (nI k)), (5, .int (mtkF sv nw 0 (v8x) 0 (6 - 0 + 1) 0 0)), (0, .ref 162), (1, .int u)]) (st2 := []) (h2 := h87x) (dc2 := dc) (ds2 := ds) 5 rfl ?_
          rw [nI_1]
          refine wq_gos (f := 1) (pc2 := 29) (ls2 := [(4, .int (nI (k + 1))), (3, .int (mtkF sv nw 0 (v8x) 0 (6 - 0 + 1) 0 0)), (2, .int (nI k)), (5, .int (mtkF sv nw 0 (v8x) 0 (6 - 0 + 1) 0 0)), (0, .ref 162), (1, .int u)]) (st2 := []) (h2 := h87x) (dc2 := dc) (ds2 := ds) 1 rfl ?_
          try have q19x := nI_toInt (n := (k + 1)) (by omega)
          have e20x := (f87x.2 _ _ (wnc (by decide) wn0) hFo)
          have hx : (mneF fo sv nw n u (m + 1) b le k h1) = (mneF fo sv nw n u m (nI k) (mtkF sv nw 0 (v8x) 0 (6 - 0 + 1) 0 0) (k + 1) (v8x)) := by show (if _ then _ else _) = _; rw [if_neg (Int.not_le.mpr b3x), zlet_eq hv9x, if_pos b14x, if_pos b17x]
          rw [hx]
          refine wq_ls [(0, .ref 162), (1, .int u), (2, .int (nI k)), (3, .int (mtkF sv nw 0 (v8x) 0 (6 - 0 + 1) 0 0)), (4, .int (nI (k + 1)))] (show ([0, 1, 2, 3, 4] : List Nat).Nodup by decide) ⟨rfl, rfl, rfl, rfl, rfl, trivial⟩ ?_
          refine wq_mono (ih (nI k) (mtkF sv nw 0 (v8x) 0 (6 - 0 + 1) 0 0) (k + 1) (v8x) h87x e10x e20x e11x e12x c07x (by first | assumption | omega | decide | solve_by_elim) (by omega) dc ds) ?_
          rintro _ ⟨h9, rfl, f9, l9, y0⟩
          exact ⟨h9, rfl, wFr_tr (wFr_sub f87x (by simp)) f9, by omega, y0⟩
        · have q21x : b.toInt ≠ -2 := fun q => b17x (Int32.toInt_inj.mp q)
          refine wq_gos (f := 1) (pc2 := 99) (ls2 := [(5, .int (mtkF sv nw 0 (v8x) 0 (6 - 0 + 1) 0 0)), (0, .ref 162), (1, .int u), (2, .int b), (3, .int le), (4, .int (nI k))]) (st2 := [.int le, .int (mtkF sv nw 0 (v8x) 0 (6 - 0 + 1) 0 0)]) (h2 := h87x) (dc2 := dc) (ds2 := ds) 2 rfl ?_
          refine wq_lt2 rfl rfl (fun b22x => ?_) (fun b22x => ?_)
          · refine wq_gos (f := 1) (pc2 := 114) (ls2 := [(4, .int ((nI k) + 1)), (3, .int (mtkF sv nw 0 (v8x) 0 (6 - 0 + 1) 0 0)), (2, .int (nI k)), (5, .int (mtkF sv nw 0 (v8x) 0 (6 - 0 + 1) 0 0)), (0, .ref 162), (1, .int u)]) (st2 := []) (h2 := h87x) (dc2 := dc) (ds2 := ds) 5 rfl ?_
            rw [nI_1]
            refine wq_gos (f := 1) (pc2 := 29) (ls2 := [(4, .int (nI (k + 1))), (3, .int (mtkF sv nw 0 (v8x) 0 (6 - 0 + 1) 0 0)), (2, .int (nI k)), (5, .int (mtkF sv nw 0 (v8x) 0 (6 - 0 + 1) 0 0)), (0, .ref 162), (1, .int u)]) (st2 := []) (h2 := h87x) (dc2 := dc) (ds2 := ds) 1 rfl ?_
            try have q23x := nI_toInt (n := (k + 1)) (by omega)
            have e24x := (f87x.2 _ _ (wnc (by decide) wn0) hFo)
            have hx : (mneF fo sv nw n u (m + 1) b le k h1) = (mneF fo sv nw n u m (nI k) (mtkF sv nw 0 (v8x) 0 (6 - 0 + 1) 0 0) (k + 1) (v8x)) := by show (if _ then _ else _) = _; rw [if_neg (Int.not_le.mpr b3x), zlet_eq hv9x, if_pos b14x, if_neg b17x, if_pos b22x]
            rw [hx]
            refine wq_ls [(0, .ref 162), (1, .int u), (2, .int (nI k)), (3, .int (mtkF sv nw 0 (v8x) 0 (6 - 0 + 1) 0 0)), (4, .int (nI (k + 1)))] (show ([0, 1, 2, 3, 4] : List Nat).Nodup by decide) ⟨rfl, rfl, rfl, rfl, rfl, trivial⟩ ?_
            refine wq_mono (ih (nI k) (mtkF sv nw 0 (v8x) 0 (6 - 0 + 1) 0 0) (k + 1) (v8x) h87x e10x e24x e11x e12x c07x (by first | assumption | omega | decide | solve_by_elim) (by omega) dc ds) ?_
            rintro _ ⟨h9, rfl, f9, l9, y0⟩
            exact ⟨h9, rfl, wFr_tr (wFr_sub f87x (by simp)) f9, by omega, y0⟩
          · refine wq_gos (f := 1) (pc2 := 114) (ls2 := [(4, .int ((nI k) + 1)), (5, .int (mtkF sv nw 0 (v8x) 0 (6 - 0 + 1) 0 0)), (0, .ref 162), (1, .int u), (2, .int b), (3, .int le)]) (st2 := []) (h2 := h87x) (dc2 := dc) (ds2 := ds) 2 rfl ?_
            rw [nI_1]
            refine wq_gos (f := 1) (pc2 := 29) (ls2 := [(4, .int (nI (k + 1))), (5, .int (mtkF sv nw 0 (v8x) 0 (6 - 0 + 1) 0 0)), (0, .ref 162), (1, .int u), (2, .int b), (3, .int le)]) (st2 := []) (h2 := h87x) (dc2 := dc) (ds2 := ds) 1 rfl ?_
            try have q25x := nI_toInt (n := (k + 1)) (by omega)
            have e26x := (f87x.2 _ _ (wnc (by decide) wn0) hFo)
            have hx : (mneF fo sv nw n u (m + 1) b le k h1) = (mneF fo sv nw n u m b le (k + 1) (v8x)) := by show (if _ then _ else _) = _; rw [if_neg (Int.not_le.mpr b3x), zlet_eq hv9x, if_pos b14x, if_neg b17x, if_neg (Int.not_lt.mpr b22x)]
            rw [hx]
            refine wq_ls [(0, .ref 162), (1, .int u), (2, .int b), (3, .int le), (4, .int (nI (k + 1)))] (show ([0, 1, 2, 3, 4] : List Nat).Nodup by decide) ⟨rfl, rfl, rfl, rfl, rfl, trivial⟩ ?_
            refine wq_mono (ih b le (k + 1) (v8x) h87x e10x e26x e11x e12x c07x (by first | assumption | omega | decide | solve_by_elim) (by omega) dc ds) ?_
            rintro _ ⟨h9, rfl, f9, l9, y0⟩
            exact ⟨h9, rfl, wFr_tr (wFr_sub f87x (by simp)) f9, by omega, y0⟩
      · have q27x : u.toInt ≠ 0 := fun q => b14x (Int32.toInt_inj.mp q)
        refine wq_gos (f := 1) (pc2 := 75) (ls2 := [(5, .int (mtkF sv nw 0 (v8x) 0 (6 - 0 + 1) 0 0)), (0, .ref 162), (1, .int u), (2, .int b), (3, .int le), (4, .int (nI k))]) (st2 := [.ref 162, .ref 162]) (h2 := h87x) (dc2 := dc) (ds2 := ds) 2 rfl ?_
        refine wq_getf rfl e10x rfl rfl ?_
        refine wq_gos (f := 1) (pc2 := 80) (ls2 := [(5, .int (mtkF sv nw 0 (v8x) 0 (6 - 0 + 1) 0 0)), (0, .ref 162), (1, .int u), (2, .int b), (3, .int le), (4, .int (nI k))]) (st2 := [.ref 162, .int 0, .ref 188, .ref 162]) (h2 := h87x) (dc2 := dc) (ds2 := ds) 2 rfl ?_
        refine wq_getf rfl e10x rfl rfl ?_
        refine wq_gos (f := 1) (pc2 := 84) (ls2 := [(5, .int (mtkF sv nw 0 (v8x) 0 (6 - 0 + 1) 0 0)), (0, .ref 162), (1, .int u), (2, .int b), (3, .int le), (4, .int (nI k))]) (st2 := [.int 0, .ref 206, .int 0, .ref 188, .ref 162]) (h2 := h87x) (dc2 := dc) (ds2 := ds) 1 rfl ?_
        refine wq_inlv (y2 := 234) (as := [.ref 188, .int 0, .ref 206, .int 0]) rfl rfl rfl e10x rfl (wq_mono (m_kept (k := 0) (l := 0) e10x e12x c07x (by decide) (by decide)) ?_)
        rintro _ rfl
        show wq 237 87 [(5, .int (mtkF sv nw 0 (v8x) 0 (6 - 0 + 1) 0 0)), (0, .ref 162), (1, .int u), (2, .int b), (3, .int le), (4, .int (nI k))] [.int (mKep nw 0 (v8x) 0)] h87x dc ds _
        refine wq_eq0 rfl rfl (fun b29x => ?_) (fun b29x => ?_)
        · have q30x : (mKep nw 0 (v8x) 0).toInt = 0 := congrArg Int32.toInt b29x
          refine wq_gos (f := 1) (pc2 := 114) (ls2 := [(4, .int ((nI k) + 1)), (5, .int (mtkF sv nw 0 (v8x) 0 (6 - 0 + 1) 0 0)), (0, .ref 162), (1, .int u), (2, .int b), (3, .int le)]) (st2 := []) (h2 := h87x) (dc2 := dc) (ds2 := ds) 1 rfl ?_
          rw [nI_1]
          refine wq_gos (f := 1) (pc2 := 29) (ls2 := [(4, .int (nI (k + 1))), (5, .int (mtkF sv nw 0 (v8x) 0 (6 - 0 + 1) 0 0)), (0, .ref 162), (1, .int u), (2, .int b), (3, .int le)]) (st2 := []) (h2 := h87x) (dc2 := dc) (ds2 := ds) 1 rfl ?_
          try have q31x := nI_toInt (n := (k + 1)) (by omega)
          have e32x := (f87x.2 _ _ (wnc (by decide) wn0) hFo)
          have hx : (mneF fo sv nw n u (m + 1) b le k h1) = (mneF fo sv nw n u m b le (k + 1) (v8x)) := by show (if _ then _ else _) = _; rw [if_neg (Int.not_le.mpr b3x), zlet_eq hv9x, if_neg b14x, if_pos b29x]
          rw [hx]
          refine wq_ls [(0, .ref 162), (1, .int u), (2, .int b), (3, .int le), (4, .int (nI (k + 1)))] (show ([0, 1, 2, 3, 4] : List Nat).Nodup by decide) ⟨rfl, rfl, rfl, rfl, rfl, trivial⟩ ?_
          refine wq_mono (ih b le (k + 1) (v8x) h87x e10x e32x e11x e12x c07x (by first | assumption | omega | decide | solve_by_elim) (by omega) dc ds) ?_
          rintro _ ⟨h9, rfl, f9, l9, y0⟩
          exact ⟨h9, rfl, wFr_tr (wFr_sub f87x (by simp)) f9, by omega, y0⟩
        · have q33x : (mKep nw 0 (v8x) 0).toInt ≠ 0 := fun q => b29x (Int32.toInt_inj.mp q)
          refine wq_gos (f := 1) (pc2 := 93) (ls2 := [(5, .int (mtkF sv nw 0 (v8x) 0 (6 - 0 + 1) 0 0)), (0, .ref 162), (1, .int u), (2, .int b), (3, .int le), (4, .int (nI k))]) (st2 := [.int (-2), .int b]) (h2 := h87x) (dc2 := dc) (ds2 := ds) 2 rfl ?_
          have q34x : (-2 : Int32).toInt = -2 := rfl
          refine wq_eq2 rfl rfl (fun b35x => ?_) (fun b35x => ?_)
          · have q36x : b.toInt = -2 := congrArg Int32.toInt b35x
            refine wq_gos (f := 1) (pc2 := 114) (ls2 := [(4, .int ((nI k) + 1)), (3, .int (mtkF sv nw 0 (v8x) 0 (6 - 0 + 1) 0 0)), (2, .int (nI k)), (5, .int (mtkF sv nw 0 (v8x) 0 (6 - 0 + 1) 0 0)), (0, .ref 162), (1, .int u)]) (st2 := []) (h2 := h87x) (dc2 := dc) (ds2 := ds) 5 rfl ?_
            rw [nI_1]
            refine wq_gos (f := 1) (pc2 := 29) (ls2 := [(4, .int (nI (k + 1))), (3, .int (mtkF sv nw 0 (v8x) 0 (6 - 0 + 1) 0 0)), (2, .int (nI k)), (5, .int (mtkF sv nw 0 (v8x) 0 (6 - 0 + 1) 0 0)), (0, .ref 162), (1, .int u)]) (st2 := []) (h2 := h87x) (dc2 := dc) (ds2 := ds) 1 rfl ?_
            try have q37x := nI_toInt (n := (k + 1)) (by omega)
            have e38x := (f87x.2 _ _ (wnc (by decide) wn0) hFo)
            have hx : (mneF fo sv nw n u (m + 1) b le k h1) = (mneF fo sv nw n u m (nI k) (mtkF sv nw 0 (v8x) 0 (6 - 0 + 1) 0 0) (k + 1) (v8x)) := by show (if _ then _ else _) = _; rw [if_neg (Int.not_le.mpr b3x), zlet_eq hv9x, if_neg b14x, if_neg b29x, if_pos b35x]
            rw [hx]
            refine wq_ls [(0, .ref 162), (1, .int u), (2, .int (nI k)), (3, .int (mtkF sv nw 0 (v8x) 0 (6 - 0 + 1) 0 0)), (4, .int (nI (k + 1)))] (show ([0, 1, 2, 3, 4] : List Nat).Nodup by decide) ⟨rfl, rfl, rfl, rfl, rfl, trivial⟩ ?_
            refine wq_mono (ih (nI k) (mtkF sv nw 0 (v8x) 0 (6 - 0 + 1) 0 0) (k + 1) (v8x) h87x e10x e38x e11x e12x c07x (by first | assumption | omega | decide | solve_by_elim) (by omega) dc ds) ?_
            rintro _ ⟨h9, rfl, f9, l9, y0⟩
            exact ⟨h9, rfl, wFr_tr (wFr_sub f87x (by simp)) f9, by omega, y0⟩
          · have q39x : b.toInt ≠ -2 := fun q => b35x (Int32.toInt_inj.mp q)
            refine wq_gos (f := 1) (pc2 := 99) (ls2 := [(5, .int (mtkF sv nw 0 (v8x) 0 (6 - 0 + 1) 0 0)), (0, .ref 162), (1, .int u), (2, .int b), (3, .int le), (4, .int (nI k))]) (st2 := [.int le, .int (mtkF sv nw 0 (v8x) 0 (6 - 0 + 1) 0 0)]) (h2 := h87x) (dc2 := dc) (ds2 := ds) 2 rfl ?_
            refine wq_lt2 rfl rfl (fun b40x => ?_) (fun b40x => ?_)
            · refine wq_gos (f := 1) (pc2 := 114) (ls2 := [(4, .int ((nI k) + 1)), (3, .int (mtkF sv nw 0 (v8x) 0 (6 - 0 + 1) 0 0)), (2, .int (nI k)), (5, .int (mtkF sv nw 0 (v8x) 0 (6 - 0 + 1) 0 0)), (0, .ref 162), (1, .int u)]) (st2 := []) (h2 := h87x) (dc2 := dc) (ds2 := ds) 5 rfl ?_
              rw [nI_1]
              refine wq_gos (f := 1) (pc2 := 29) (ls2 := [(4, .int (nI (k + 1))), (3, .int (mtkF sv nw 0 (v8x) 0 (6 - 0 + 1) 0 0)), (2, .int (nI k)), (5, .int (mtkF sv nw 0 (v8x) 0 (6 - 0 + 1) 0 0)), (0, .ref 162), (1, .int u)]) (st2 := []) (h2 := h87x) (dc2 := dc) (ds2 := ds) 1 rfl ?_
              try have q41x := nI_toInt (n := (k + 1)) (by omega)
              have e42x := (f87x.2 _ _ (wnc (by decide) wn0) hFo)
              have hx : (mneF fo sv nw n u (m + 1) b le k h1) = (mneF fo sv nw n u m (nI k) (mtkF sv nw 0 (v8x) 0 (6 - 0 + 1) 0 0) (k + 1) (v8x)) := by show (if _ then _ else _) = _; rw [if_neg (Int.not_le.mpr b3x), zlet_eq hv9x, if_neg b14x, if_neg b29x, if_neg b35x, if_pos b40x]
              rw [hx]
              refine wq_ls [(0, .ref 162), (1, .int u), (2, .int (nI k)), (3, .int (mtkF sv nw 0 (v8x) 0 (6 - 0 + 1) 0 0)), (4, .int (nI (k + 1)))] (show ([0, 1, 2, 3, 4] : List Nat).Nodup by decide) ⟨rfl, rfl, rfl, rfl, rfl, trivial⟩ ?_
              refine wq_mono (ih (nI k) (mtkF sv nw 0 (v8x) 0 (6 - 0 + 1) 0 0) (k + 1) (v8x) h87x e10x e42x e11x e12x c07x (by first | assumption | omega | decide | solve_by_elim) (by omega) dc ds) ?_
              rintro _ ⟨h9, rfl, f9, l9, y0⟩
              exact ⟨h9, rfl, wFr_tr (wFr_sub f87x (by simp)) f9, by omega, y0⟩
            · refine wq_gos (f := 1) (pc2 := 114) (ls2 := [(4, .int ((nI k) + 1)), (5, .int (mtkF sv nw 0 (v8x) 0 (6 - 0 + 1) 0 0)), (0, .ref 162), (1, .int u), (2, .int b), (3, .int le)]) (st2 := []) (h2 := h87x) (dc2 := dc) (ds2 := ds) 2 rfl ?_
              rw [nI_1]
              refine wq_gos (f := 1) (pc2 := 29) (ls2 := [(4, .int (nI (k + 1))), (5, .int (mtkF sv nw 0 (v8x) 0 (6 - 0 + 1) 0 0)), (0, .ref 162), (1, .int u), (2, .int b), (3, .int le)]) (st2 := []) (h2 := h87x) (dc2 := dc) (ds2 := ds) 1 rfl ?_
              try have q43x := nI_toInt (n := (k + 1)) (by omega)
              have e44x := (f87x.2 _ _ (wnc (by decide) wn0) hFo)
              have hx : (mneF fo sv nw n u (m + 1) b le k h1) = (mneF fo sv nw n u m b le (k + 1) (v8x)) := by show (if _ then _ else _) = _; rw [if_neg (Int.not_le.mpr b3x), zlet_eq hv9x, if_neg b14x, if_neg b29x, if_neg b35x, if_neg (Int.not_lt.mpr b40x)]
              rw [hx]
              refine wq_ls [(0, .ref 162), (1, .int u), (2, .int b), (3, .int le), (4, .int (nI (k + 1)))] (show ([0, 1, 2, 3, 4] : List Nat).Nodup by decide) ⟨rfl, rfl, rfl, rfl, rfl, trivial⟩ ?_
              refine wq_mono (ih b le (k + 1) (v8x) h87x e10x e44x e11x e12x c07x (by first | assumption | omega | decide | solve_by_elim) (by omega) dc ds) ?_
              rintro _ ⟨h9, rfl, f9, l9, y0⟩
              exact ⟨h9, rfl, wFr_tr (wFr_sub f87x (by simp)) f9, by omega, y0⟩
noncomputable def mclF (fo : List Int64) (n : Nat) : Nat → Int32 → Int32 → Nat → List Int32 → Int32 × List Int32
  | 0, _, _, _, h1 => (0, h1)
  | m + 1, b, mo, k, h1 => (if (nI n).toInt ≤ (nI k).toInt then (b, h1) else (zlet (mUnp (fo.getD (((4800 : Int32) + (nI k))).toNatClampNeg 0) 0 h1) (fun v8x => (if mo.toInt < (mMea (v8x) 0).toInt then (mclF fo n m (nI k) (mMea (v8x) 0) (k + 1) (v8x)) else (mclF fo n m b mo (k + 1) (v8x))))))
set_option maxRecDepth 100000 in
set_option maxHeartbeats 4000000 in
theorem m_clL {n0 n2 n14 n15 n16 n17 n18 n19 n20 n21 n22 n23 n27 n28 n33 n34 n35 n39 n52 : Int32} {fo : List Int64} {n : Nat} (hn : n ≤ 600) : ∀ (m : Nat) (b : Int32) (mo : Int32) (k : Nat) (h1 : List Int32) (h : zH) , (zat h 162 = some (.inr (.inr (.inr (10, mO n0 n2 n14 n15 n16 n17 n18 n19 n20 n21 n22 n23 n27 n28 (nI n) n33 n34 n35 n39 n52))))) → (zat h 196 = some (.inr (.inl (6000, fo)))) → (zat h 206 = some (.inl (0, 6, h1))) → (k ≤ n) → (n - k) < m → ∀ (dc ds : Nat), wq 238 28 [(0, .ref 162), (1, .int b), (2, .int mo), (3, .int (nI k))] [] h dc ds (fun rr9 => ∃ (h2 : zH) , rr9 = (some (Value.int ((mclF fo n m b mo k h1).1)), h2, dc, ds) ∧ wFr [206] h h2 ∧ h2.length = h.length ∧ zat h2 206 = some (.inl (0, 6, ((mclF fo n m b mo k h1).2)))) := by
  intro m
  induction m with
  | zero => intro b mo k h1 h hM hFo hH1 hk hms dc ds; omega
  | succ m ih =>
    intro b mo k h1 h hM hFo hH1 hk hms dc ds
    have qnk := nI_toInt (n := k) (by omega)
    have qnn := nI_toInt (n := n) (by omega)
    have z4800 : (4800 : Int32).toInt = 4800 := rfl
    refine wq_gos (f := 1) (pc2 := 30) (ls2 := [(0, .ref 162), (1, .int b), (2, .int mo), (3, .int (nI k))]) (st2 := [.ref 162, .int (nI k)]) (h2 := h) (dc2 := dc) (ds2 := ds) 2 rfl ?_
    refine wq_getf rfl hM rfl rfl ?_
    try have q1x := nI_toInt (n := k) (by omega)
    try have q2x := nI_toInt (n := n) (by omega)
    refine wq_ge2 rfl rfl (fun b3x => ?_) (fun b3x => ?_)
    · refine wq_gos (f := 1) (pc2 := 83) (ls2 := [(0, .ref 162), (1, .int b), (2, .int mo), (3, .int (nI k))]) (st2 := [.int b]) (h2 := h) (dc2 := dc) (ds2 := ds) 1 rfl ?_
      have hx : (mclF fo n (m + 1) b mo k h1) = (b, h1) := by show (if _ then _ else _) = _; rw [if_pos b3x]
      rw [hx]
      exact wq_ret rfl rfl ⟨h, rfl, (wFr_rf _ _), by omega, hH1⟩
    · refine wq_gos (f := 1) (pc2 := 39) (ls2 := [(0, .ref 162), (1, .int b), (2, .int mo), (3, .int (nI k))]) (st2 := [.int (nI k), .ref 162, .ref 162]) (h2 := h) (dc2 := dc) (ds2 := ds) 3 rfl ?_
      refine wq_inlv (y2 := 228) (as := [.int (nI k)]) rfl rfl rfl hM rfl ?_
      show wq 228 0 [(0, .ref 162), (1, .int (nI k))] [] h 0 0 _
      refine wq_gos (f := 1) (pc2 := 1) (ls2 := [(0, .ref 162), (1, .int (nI k))]) (st2 := [.ref 162]) (h2 := h) (dc2 := 0) (ds2 := 0) 1 rfl ?_
      refine wq_getf rfl hM rfl rfl ?_
      refine wq_gos (f := 1) (pc2 := 9) (ls2 := [(0, .ref 162), (1, .int (nI k))]) (st2 := [.int ((4800 : Int32) + (nI k)), .ref 196]) (h2 := h) (dc2 := 0) (ds2 := 0) 3 rfl ?_
      have q4x : (4800 : Int32).toInt = 4800 := rfl
      try have q5x : (((4800 : Int32) + (nI k))).toInt = (4800 : Int32).toInt + (nI k).toInt := e_add (by omega) (by omega)
      refine wq_lald rfl hFo (by first | omega | exact zin_t (by omega) (by omega)) rfl ?_
      refine wq_ret rfl rfl ?_
      show wq 238 42 [(0, .ref 162), (1, .int b), (2, .int mo), (3, .int (nI k))] [.long (fo.getD (((4800 : Int32) + (nI k))).toNatClampNeg 0), .ref 162] h dc ds _
      refine wq_gos (f := 1) (pc2 := 43) (ls2 := [(0, .ref 162), (1, .int b), (2, .int mo), (3, .int (nI k))]) (st2 := [.ref 162, .long (fo.getD (((4800 : Int32) + (nI k))).toNatClampNeg 0), .ref 162]) (h2 := h) (dc2 := dc) (ds2 := ds) 1 rfl ?_
      refine wq_getf rfl hM rfl rfl ?_
      refine wq_gos (f := 1) (pc2 := 47) (ls2 := [(0, .ref 162), (1, .int b), (2, .int mo), (3, .int (nI k))]) (st2 := [.int 0, .ref 206, .long (fo.getD (((4800 : Int32) + (nI k))).toNatClampNeg 0), .ref 162]) (h2 := h) (dc2 := dc) (ds2 := ds) 1 rfl ?_
      have q6x : (0 : Int32).toInt = 0 := rfl
      refine wq_inlv (y2 := 221) (as := [.long (fo.getD (((4800 : Int32) + (nI k))).toNatClampNeg 0), .ref 206, .int 0]) rfl rfl rfl hM rfl (wq_mono (m_unp (k := 0) hM hH1 (by decide) (by decide)) ?_)
      rintro _ ⟨h87x, rfl, f87x, l87x, c07x⟩
      show wq 238 50 [(0, .ref 162), (1, .int b), (2, .int mo), (3, .int (nI k))] [] h87x dc ds _
      obtain ⟨v8x, hv9x⟩ : ∃ x, x = (mUnp (fo.getD (((4800 : Int32) + (nI k))).toNatClampNeg 0) 0 h1) := ⟨_, rfl⟩
      try rw [← hv9x] at c07x
      try rw [← hv9x]
      refine wq_gos (f := 1) (pc2 := 51) (ls2 := [(0, .ref 162), (1, .int b), (2, .int mo), (3, .int (nI k))]) (st2 := [.ref 162]) (h2 := h87x) (dc2 := dc) (ds2 := ds) 1 rfl ?_
      have e10x := (f87x.2 _ _ (wnc (by decide) wn0) hM)
      refine wq_getf rfl e10x rfl rfl ?_
      refine wq_gos (f := 1) (pc2 := 55) (ls2 := [(0, .ref 162), (1, .int b), (2, .int mo), (3, .int (nI k))]) (st2 := [.int 0, .ref 206]) (h2 := h87x) (dc2 := dc) (ds2 := ds) 1 rfl ?_
      refine wq_inl (y2 := 206) (as := [.ref 206, .int 0]) rfl rfl rfl (wq_mono (m_meav (k := 0) c07x (by decide)) ?_)
      rintro _ rfl
      show wq 238 58 [(0, .ref 162), (1, .int b), (2, .int mo), (3, .int (nI k))] [.int (mMea (v8x) 0)] h87x dc ds _
      refine wq_gos (f := 1) (pc2 := 59) (ls2 := [(0, .ref 162), (1, .int b), (2, .int mo), (3, .int (nI k))]) (st2 := [.int mo, .int (mMea (v8x) 0)]) (h2 := h87x) (dc2 := dc) (ds2 := ds) 1 rfl ?_
      refine wq_gt2 rfl rfl (fun b12x => ?_) (fun b12x => ?_)
      · refine wq_gos (f := 1) (pc2 := 68) (ls2 := [(1, .int (nI k)), (0, .ref 162), (2, .int mo), (3, .int (nI k))]) (st2 := [.ref 162]) (h2 := h87x) (dc2 := dc) (ds2 := ds) 3 rfl ?_
        refine wq_getf rfl e10x rfl rfl ?_
        refine wq_gos (f := 1) (pc2 := 72) (ls2 := [(1, .int (nI k)), (0, .ref 162), (2, .int mo), (3, .int (nI k))]) (st2 := [.int 0, .ref 206]) (h2 := h87x) (dc2 := dc) (ds2 := ds) 1 rfl ?_
        refine wq_inl (y2 := 206) (as := [.ref 206, .int 0]) rfl rfl rfl (wq_mono (m_meav (k := 0) c07x (by decide)) ?_)
        rintro _ rfl
        show wq 238 75 [(1, .int (nI k)), (0, .ref 162), (2, .int mo), (3, .int (nI k))] [.int (mMea (v8x) 0)] h87x dc ds _
        refine wq_gos (f := 1) (pc2 := 79) (ls2 := [(3, .int ((nI k) + 1)), (2, .int (mMea (v8x) 0)), (1, .int (nI k)), (0, .ref 162)]) (st2 := []) (h2 := h87x) (dc2 := dc) (ds2 := ds) 2 rfl ?_
        rw [nI_1]
        refine wq_gos (f := 1) (pc2 := 28) (ls2 := [(3, .int (nI (k + 1))), (2, .int (mMea (v8x) 0)), (1, .int (nI k)), (0, .ref 162)]) (st2 := []) (h2 := h87x) (dc2 := dc) (ds2 := ds) 1 rfl ?_
        try have q14x := nI_toInt (n := (k + 1)) (by omega)
        have e15x := (f87x.2 _ _ (wnc (by decide) wn0) hFo)
        have hx : (mclF fo n (m + 1) b mo k h1) = (mclF fo n m (nI k) (mMea (v8x) 0) (k + 1) (v8x)) := by show (if _ then _ else _) = _; rw [if_neg (Int.not_le.mpr b3x), zlet_eq hv9x, if_pos b12x]
        rw [hx]
        refine wq_ls [(0, .ref 162), (1, .int (nI k)), (2, .int (mMea (v8x) 0)), (3, .int (nI (k + 1)))] (show ([0, 1, 2, 3] : List Nat).Nodup by decide) ⟨rfl, rfl, rfl, rfl, trivial⟩ ?_
        refine wq_mono (ih (nI k) (mMea (v8x) 0) (k + 1) (v8x) h87x e10x e15x c07x (by first | assumption | omega | decide | solve_by_elim) (by omega) dc ds) ?_
        rintro _ ⟨h9, rfl, f9, l9, y0⟩
        exact ⟨h9, rfl, wFr_tr (wFr_sub f87x (by simp)) f9, by omega, y0⟩
      · refine wq_gos (f := 1) (pc2 := 79) (ls2 := [(3, .int ((nI k) + 1)), (0, .ref 162), (1, .int b), (2, .int mo)]) (st2 := []) (h2 := h87x) (dc2 := dc) (ds2 := ds) 2 rfl ?_
        rw [nI_1]
        refine wq_gos (f := 1) (pc2 := 28) (ls2 := [(3, .int (nI (k + 1))), (0, .ref 162), (1, .int b), (2, .int mo)]) (st2 := []) (h2 := h87x) (dc2 := dc) (ds2 := ds) 1 rfl ?_
        try have q16x := nI_toInt (n := (k + 1)) (by omega)
        have e17x := (f87x.2 _ _ (wnc (by decide) wn0) hFo)
        have hx : (mclF fo n (m + 1) b mo k h1) = (mclF fo n m b mo (k + 1) (v8x)) := by show (if _ then _ else _) = _; rw [if_neg (Int.not_le.mpr b3x), zlet_eq hv9x, if_neg (Int.not_lt.mpr b12x)]
        rw [hx]
        refine wq_ls [(0, .ref 162), (1, .int b), (2, .int mo), (3, .int (nI (k + 1)))] (show ([0, 1, 2, 3] : List Nat).Nodup by decide) ⟨rfl, rfl, rfl, rfl, trivial⟩ ?_
        refine wq_mono (ih b mo (k + 1) (v8x) h87x e10x e17x c07x (by first | assumption | omega | decide | solve_by_elim) (by omega) dc ds) ?_
        rintro _ ⟨h9, rfl, f9, l9, y0⟩
        exact ⟨h9, rfl, wFr_tr (wFr_sub f87x (by simp)) f9, by omega, y0⟩
