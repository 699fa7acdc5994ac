/-! The reference: step, meets, take. -/
noncomputable def mStp (sv nw sq : List Int32) (w : Nat) (n : Int32) (j : Nat) : Int32 × Int32 := (if n.toInt < 0 then ((-99 : Int32), (0 : Int32)) else (if n.toInt ≤ (mtkF sv nw 0 sq (6 * w) (6 - 0 + 1) 0 0).toInt then ((mBtw (nw.getD j 0) (sq.getD ((6 * w) + j) 0) n (mtkF sv nw 0 sq (6 * w) (6 - 0 + 1) 0 0)), (0 : Int32)) else ((-99 : Int32), (0 : Int32))))
set_option maxRecDepth 100000 in
set_option maxHeartbeats 4000000 in
theorem m_stp {h : zH} {n0 n2 n14 n15 n16 n17 n18 n19 n20 n21 n22 n23 n27 n28 n32 n33 n34 n35 n39 n52 : Int32} {ns w : Nat} {kn sq sv nw : List Int32} {n : Int32} {j : Nat} (hM : zat h 162 = some (.inr (.inr (.inr (10, mO n0 n2 n14 n15 n16 n17 n18 n19 n20 n21 n22 n23 n27 n28 n32 n33 n34 n35 n39 n52))))) (hKn : zat h 166 = some (.inl (0, 14, kn))) (hSq : zat h 178 = some (.inl (0, 96, sq))) (hSv : zat h 172 = some (.inl (0, 12, sv))) (hNw : zat h 188 = some (.inl (0, 6, nw))) (hns : kn.getD 5 0 = nI ns ∧ ns ≤ 8) (hw : w < ns) (hj : j < 6) (hsv : ∀ i, i < 6 → 1 ≤ (sv.getD i 0).toInt) : wq 240 0 [(0, .ref 162), (1, .int (nI w)), (2, .int n), (3, .int (nI j))] [] h 0 0 (fun rr9 => ∃ (h2 : zH), rr9 = (some (.int ((mStp sv nw sq w n j).1)), h2, 0, 0) ∧ wFr [162] h h2 ∧ h2.length = h.length ∧ zat h2 162 = some (.inr (.inr (.inr (10, mO ((mStp sv nw sq w n j).2) n2 n14 n15 n16 n17 n18 n19 n20 n21 n22 n23 n27 n28 n32 n33 n34 n35 n39 n52))))) := by
  have qnw := nI_toInt (n := w) (by omega)
  have qnns := nI_toInt (n := ns) (by omega)
  have qnj := nI_toInt (n := j) (by omega)
  have z0 : (0 : Int32).toInt = 0 := rfl
  have z1 : (1 : Int32).toInt = 1 := rfl
  have z5 : (5 : Int32).toInt = 5 := rfl
  have z6 : (6 : Int32).toInt = 6 := rfl
  have zm1 : (-1 : Int32).toInt = -1 := rfl
  have z3 : (3 : Int32).toInt = 3 := rfl
  have z2 : (2 : Int32).toInt = 2 := rfl
  have z20 : (20 : Int32).toInt = 20 := rfl
  have hn8 := hns.2
  refine wq_gos (f := 1) (pc2 := 2) (ls2 := [(0, .ref 162), (1, .int (nI w)), (2, .int n), (3, .int (nI j))]) (st2 := [.int 0, .ref 162]) (h2 := h) (dc2 := 0) (ds2 := 0) 2 rfl ?_
  refine wq_putf rfl hM rfl rfl rfl ?_
  intro hh1x e2x ff3x lh4x
  have e2x : zat hh1x 162 = some (.inr (.inr (.inr (10, mO (0 : Int32) n2 n14 n15 n16 n17 n18 n19 n20 n21 n22 n23 n27 n28 n32 n33 n34 n35 n39 n52)))) := e2x
  refine wq_gos (f := 1) (pc2 := 7) (ls2 := [(0, .ref 162), (1, .int (nI w)), (2, .int n), (3, .int (nI j))]) (st2 := [.int (nI w), .ref 162]) (h2 := hh1x) (dc2 := 0) (ds2 := 0) 2 rfl ?_
  refine wq_inlv (y2 := 209) (as := [.int (nI w)]) rfl rfl rfl e2x rfl ?_
  show wq 209 0 [(0, .ref 162), (1, .int (nI w))] [] hh1x 0 0 _
  refine wq_gos (f := 1) (pc2 := 1) (ls2 := [(0, .ref 162), (1, .int (nI w))]) (st2 := [.int (nI w)]) (h2 := hh1x) (dc2 := 0) (ds2 := 0) 1 rfl ?_
  try have q5x := nI_toInt (n := w) (by omega)
  refine wq_lt0f rfl rfl (by omega) ?_
  refine wq_gos (f := 1) (pc2 := 6) (ls2 := [(0, .ref 162), (1, .int (nI w))]) (st2 := [.ref 162, .int (nI w)]) (h2 := hh1x) (dc2 := 0) (ds2 := 0) 2 rfl ?_
  refine wq_getf rfl e2x rfl rfl ?_
  refine wq_gos (f := 1) (pc2 := 10) (ls2 := [(0, .ref 162), (1, .int (nI w))]) (st2 := [.int 5, .ref 166, .int (nI w)]) (h2 := hh1x) (dc2 := 0) (ds2 := 0) 1 rfl ?_
  have e6x := (ff3x.2 _ _ (wnc (by decide) wn0) hKn)
  have q7x : (5 : Int32).toInt = 5 := rfl
  refine wq_iald rfl e6x rfl rfl ?_
  refine wq_vi hns.1 ?_
  try have q8x := nI_toInt (n := ns) (by omega)
  refine wq_ge2f rfl rfl (by omega) ?_
  refine wq_gos (f := 1) (pc2 := 19) (ls2 := [(0, .ref 162), (1, .int (nI w))]) (st2 := [.int 1]) (h2 := hh1x) (dc2 := 0) (ds2 := 0) 2 rfl ?_
  refine wq_ret rfl rfl ?_
  show wq 240 10 [(0, .ref 162), (1, .int (nI w)), (2, .int n), (3, .int (nI j))] [.int 1] hh1x 0 0 _
  refine wq_gos (f := 1) (pc2 := 14) (ls2 := [(0, .ref 162), (1, .int (nI w)), (2, .int n), (3, .int (nI j))]) (st2 := [.int (nI j)]) (h2 := hh1x) (dc2 := 0) (ds2 := 0) 2 rfl ?_
  refine wq_inl (y2 := 208) (as := [.int (nI j)]) rfl rfl rfl ?_
  show wq 208 0 [(0, .int (nI j))] [] hh1x 0 0 _
  refine wq_gos (f := 1) (pc2 := 1) (ls2 := [(0, .int (nI j))]) (st2 := [.int (nI j)]) (h2 := hh1x) (dc2 := 0) (ds2 := 0) 1 rfl ?_
  try have q9x := nI_toInt (n := j) (by omega)
  refine wq_lt0f rfl rfl (by omega) ?_
  refine wq_gos (f := 1) (pc2 := 7) (ls2 := [(0, .int (nI j))]) (st2 := [.int 6, .int (nI j)]) (h2 := hh1x) (dc2 := 0) (ds2 := 0) 2 rfl ?_
  have q10x : (6 : Int32).toInt = 6 := rfl
  refine wq_ge2f rfl rfl (by omega) ?_
  refine wq_gos (f := 1) (pc2 := 15) (ls2 := [(0, .int (nI j))]) (st2 := [.int 1]) (h2 := hh1x) (dc2 := 0) (ds2 := 0) 2 rfl ?_
  refine wq_ret rfl rfl ?_
  show wq 240 17 [(0, .ref 162), (1, .int (nI w)), (2, .int n), (3, .int (nI j))] [.int 1] hh1x 0 0 _
  refine wq_gos (f := 1) (pc2 := 25) (ls2 := [(0, .ref 162), (1, .int (nI w)), (2, .int n), (3, .int (nI j))]) (st2 := [.ref 162, .ref 162]) (h2 := hh1x) (dc2 := 0) (ds2 := 0) 3 rfl ?_
  refine wq_getf rfl e2x rfl rfl ?_
  refine wq_gos (f := 1) (pc2 := 30) (ls2 := [(0, .ref 162), (1, .int (nI w)), (2, .int n), (3, .int (nI j))]) (st2 := [.ref 162, .int 0, .ref 188, .ref 162]) (h2 := hh1x) (dc2 := 0) (ds2 := 0) 2 rfl ?_
  refine wq_getf rfl e2x rfl rfl ?_
  refine wq_gos (f := 1) (pc2 := 37) (ls2 := [(0, .ref 162), (1, .int (nI w)), (2, .int n), (3, .int (nI j))]) (st2 := [.int ((6 : Int32) * (nI w)), .ref 178, .int 0, .ref 188, .ref 162]) (h2 := hh1x) (dc2 := 0) (ds2 := 0) 3 rfl ?_
  refine wq_vi (show (6 : Int32) * (nI w) = nI (6 * w) from e_nmul 6 w) ?_
  have e11x := (ff3x.2 _ _ (wnc (by decide) wn0) hSv)
  have e12x := (ff3x.2 _ _ (wnc (by decide) wn0) hNw)
  have e13x := (ff3x.2 _ _ (wnc (by decide) wn0) hSq)
  have q14x : (0 : Int32).toInt = 0 := rfl
  try have q15x := nI_toInt (n := (6 * w)) (by omega)
  refine wq_inlv (y2 := 233) (as := [.ref 188, .int 0, .ref 178, .int (nI (6 * w))]) rfl rfl rfl e2x rfl (wq_mono (m_tks (k := 0) e2x e11x e12x e13x (by decide) (by omega) (by first | assumption | omega | decide | solve_by_elim)) ?_)
  rintro _ rfl
  show wq 240 40 [(0, .ref 162), (1, .int (nI w)), (2, .int n), (3, .int (nI j))] [.int (mtkF sv nw 0 sq (6 * w) (6 - 0 + 1) 0 0)] hh1x 0 0 _
  refine wq_gos (f := 1) (pc2 := 43) (ls2 := [(4, .int (mtkF sv nw 0 sq (6 * w) (6 - 0 + 1) 0 0)), (0, .ref 162), (1, .int (nI w)), (2, .int n), (3, .int (nI j))]) (st2 := [.int n]) (h2 := hh1x) (dc2 := 0) (ds2 := 0) 2 rfl ?_
  refine wq_lt0 rfl rfl (fun b17x => ?_) (fun b17x => ?_)
  · refine wq_gos (f := 1) (pc2 := 80) (ls2 := [(4, .int (mtkF sv nw 0 sq (6 * w) (6 - 0 + 1) 0 0)), (0, .ref 162), (1, .int (nI w)), (2, .int n), (3, .int (nI j))]) (st2 := [.int (-99)]) (h2 := hh1x) (dc2 := 0) (ds2 := 0) 2 rfl ?_
    have hx : (mStp sv nw sq w n j) = ((-99 : Int32), (0 : Int32)) := by unfold mStp; rw [if_pos b17x]
    rw [hx]
    exact wq_ret rfl rfl ⟨hh1x, rfl, (wFr_sub ff3x (by simp)), by omega, e2x⟩
  · refine wq_gos (f := 1) (pc2 := 49) (ls2 := [(4, .int (mtkF sv nw 0 sq (6 * w) (6 - 0 + 1) 0 0)), (0, .ref 162), (1, .int (nI w)), (2, .int n), (3, .int (nI j))]) (st2 := [.int (mtkF sv nw 0 sq (6 * w) (6 - 0 + 1) 0 0), .int n]) (h2 := hh1x) (dc2 := 0) (ds2 := 0) 2 rfl ?_
    refine wq_le2 rfl rfl (fun b18x => ?_) (fun b18x => ?_)
    · refine wq_gos (f := 1) (pc2 := 58) (ls2 := [(4, .int (mtkF sv nw 0 sq (6 * w) (6 - 0 + 1) 0 0)), (0, .ref 162), (1, .int (nI w)), (2, .int n), (3, .int (nI j))]) (st2 := [.ref 162]) (h2 := hh1x) (dc2 := 0) (ds2 := 0) 1 rfl ?_
      refine wq_getf rfl e2x rfl rfl ?_
      refine wq_gos (f := 1) (pc2 := 62) (ls2 := [(4, .int (mtkF sv nw 0 sq (6 * w) (6 - 0 + 1) 0 0)), (0, .ref 162), (1, .int (nI w)), (2, .int n), (3, .int (nI j))]) (st2 := [.int (nI j), .ref 188]) (h2 := hh1x) (dc2 := 0) (ds2 := 0) 1 rfl ?_
      refine wq_ialdn rfl e12x (by first | omega | exact zin_t (by omega) (by omega)) (by decide) rfl ?_
      refine wq_gos (f := 1) (pc2 := 64) (ls2 := [(4, .int (mtkF sv nw 0 sq (6 * w) (6 - 0 + 1) 0 0)), (0, .ref 162), (1, .int (nI w)), (2, .int n), (3, .int (nI j))]) (st2 := [.ref 162, .int (nw.getD j 0)]) (h2 := hh1x) (dc2 := 0) (ds2 := 0) 1 rfl ?_
      refine wq_getf rfl e2x rfl rfl ?_
      refine wq_gos (f := 1) (pc2 := 71) (ls2 := [(4, .int (mtkF sv nw 0 sq (6 * w) (6 - 0 + 1) 0 0)), (0, .ref 162), (1, .int (nI w)), (2, .int n), (3, .int (nI j))]) (st2 := [.int ((6 : Int32) * (nI w)), .ref 178, .int (nw.getD j 0)]) (h2 := hh1x) (dc2 := 0) (ds2 := 0) 3 rfl ?_
      refine wq_vi (show (6 : Int32) * (nI w) = nI (6 * w) from e_nmul 6 w) ?_
      refine wq_gos (f := 1) (pc2 := 73) (ls2 := [(4, .int (mtkF sv nw 0 sq (6 * w) (6 - 0 + 1) 0 0)), (0, .ref 162), (1, .int (nI w)), (2, .int n), (3, .int (nI j))]) (st2 := [.int ((nI (6 * w)) + (nI j)), .ref 178, .int (nw.getD j 0)]) (h2 := hh1x) (dc2 := 0) (ds2 := 0) 2 rfl ?_
      refine wq_vi (show (nI (6 * w)) + (nI j) = nI ((6 * w) + j) from nI_add (6 * w) j) ?_
      try have q19x := nI_toInt (n := ((6 * w) + j)) (by omega)
      refine wq_ialdn rfl e13x (by first | omega | exact zin_t (by omega) (by omega)) (by decide) rfl ?_
      refine wq_gos (f := 1) (pc2 := 77) (ls2 := [(4, .int (mtkF sv nw 0 sq (6 * w) (6 - 0 + 1) 0 0)), (0, .ref 162), (1, .int (nI w)), (2, .int n), (3, .int (nI j))]) (st2 := [.int (mtkF sv nw 0 sq (6 * w) (6 - 0 + 1) 0 0), .int n, .int (sq.getD ((6 * w) + j) 0), .int (nw.getD j 0)]) (h2 := hh1x) (dc2 := 0) (ds2 := 0) 2 rfl ?_
      refine wq_inl (y2 := 235) (as := [.int (nw.getD j 0), .int (sq.getD ((6 * w) + j) 0), .int n, .int (mtkF sv nw 0 sq (6 * w) (6 - 0 + 1) 0 0)]) rfl rfl rfl (wq_mono m_btw ?_)
      rintro _ rfl
      show wq 240 80 [(4, .int (mtkF sv nw 0 sq (6 * w) (6 - 0 + 1) 0 0)), (0, .ref 162), (1, .int (nI w)), (2, .int n), (3, .int (nI j))] [.int (mBtw (nw.getD j 0) (sq.getD ((6 * w) + j) 0) n (mtkF sv nw 0 sq (6 * w) (6 - 0 + 1) 0 0))] hh1x 0 0 _
      have hx : (mStp sv nw sq w n j) = ((mBtw (nw.getD j 0) (sq.getD ((6 * w) + j) 0) n (mtkF sv nw 0 sq (6 * w) (6 - 0 + 1) 0 0)), (0 : Int32)) := by unfold mStp; rw [if_neg (Int.not_lt.mpr b17x), if_pos b18x]
      rw [hx]
      exact wq_ret rfl rfl ⟨hh1x, rfl, (wFr_sub ff3x (by simp)), by omega, e2x⟩
    · refine wq_gos (f := 1) (pc2 := 80) (ls2 := [(4, .int (mtkF sv nw 0 sq (6 * w) (6 - 0 + 1) 0 0)), (0, .ref 162), (1, .int (nI w)), (2, .int n), (3, .int (nI j))]) (st2 := [.int (-99)]) (h2 := hh1x) (dc2 := 0) (ds2 := 0) 2 rfl ?_
      have hx : (mStp sv nw sq w n j) = ((-99 : Int32), (0 : Int32)) := by unfold mStp; rw [if_neg (Int.not_lt.mpr b17x), if_neg (Int.not_le.mpr b18x)]
      rw [hx]
      exact wq_ret rfl rfl ⟨hh1x, rfl, (wFr_sub ff3x (by simp)), by omega, e2x⟩
noncomputable def mmtI (sq nw : List Int32) (w n : Nat) (al9 : Int32) : Nat → Nat → List Int32 → List Int32
  | 0, _, tk => tk
  | m + 1, j, tk => (if (6 : Int32).toInt ≤ (nI j).toInt then tk else (mmtI sq nw w n al9 m (j + 1) (zset 0 tk j (mBtw (nw.getD j 0) (sq.getD ((6 * w) + j) 0) (nI n) al9))))
set_option maxRecDepth 100000 in
set_option maxHeartbeats 4000000 in
theorem m_mtI {n0 n2 n14 n15 n16 n17 n18 n19 n20 n21 n22 n23 n27 n28 n32 n33 n34 n35 n39 n52 : Int32} {w n : Nat} {sq nw : List Int32} {al9 : Int32} (hw : w < 8) {dc ds : Nat} {Q : zR → Prop} : ∀ (m : Nat) (j : Nat) (tk : List Int32) (h : zH) , (zat h 162 = some (.inr (.inr (.inr (10, mO n0 n2 n14 n15 n16 n17 n18 n19 n20 n21 n22 n23 n27 n28 n32 n33 n34 n35 n39 n52))))) → (zat h 178 = some (.inl (0, 96, sq))) → (zat h 188 = some (.inl (0, 6, nw))) → (zat h 224 = some (.inl (0, 6, tk))) → (j ≤ 6) → (6 - j) < m → (∀ (h2 : zH) , (wFr [224] h h2) → (h2.length = h.length) → (zat h2 224 = some (.inl (0, 6, ((mmtI sq nw w n al9 m j tk))))) → wq 241 87 [(0, .ref 162), (1, .int (nI w)), (2, .int al9), (3, .int (nI n))] [] h2 dc ds Q) → wq 241 43 [(0, .ref 162), (1, .int (nI w)), (2, .int al9), (3, .int (nI n)), (4, .int (nI j))] [] h dc ds Q := by
  intro m
  induction m with
  | zero => intro j tk h hM hSq hNw hTk hj hms kk; omega
  | succ m ih =>
    intro j tk h hM hSq hNw hTk hj hms kk
    have qnj := nI_toInt (n := j) (by omega)
    have qnw := nI_toInt (n := w) (by omega)
    refine wq_gos (f := 1) (pc2 := 47) (ls2 := [(0, .ref 162), (1, .int (nI w)), (2, .int al9), (3, .int (nI n)), (4, .int (nI j))]) (st2 := [.int 6, .int (nI j)]) (h2 := h) (dc2 := dc) (ds2 := ds) 2 rfl ?_
    try have q1x := nI_toInt (n := j) (by omega)
    have q2x : (6 : Int32).toInt = 6 := rfl
    refine wq_ge2 rfl rfl (fun b3x => ?_) (fun b3x => ?_)
    · have hx : (mmtI sq nw w n al9 (m + 1) j tk) = tk := by show (if _ then _ else _) = _; rw [if_pos b3x]
      rw [hx] at kk
      refine wq_ls [(0, .ref 162), (1, .int (nI w)), (2, .int al9), (3, .int (nI n))] (show ([0, 1, 2, 3] : List Nat).Nodup by decide) ⟨rfl, rfl, rfl, rfl, trivial⟩ ?_
      exact kk h (wFr_rf _ _) (by omega) hTk
    · refine wq_gos (f := 1) (pc2 := 51) (ls2 := [(0, .ref 162), (1, .int (nI w)), (2, .int al9), (3, .int (nI n)), (4, .int (nI j))]) (st2 := [.ref 162]) (h2 := h) (dc2 := dc) (ds2 := ds) 1 rfl ?_
      refine wq_getf rfl hM rfl rfl ?_
      refine wq_gos (f := 1) (pc2 := 57) (ls2 := [(0, .ref 162), (1, .int (nI w)), (2, .int al9), (3, .int (nI n)), (4, .int (nI j))]) (st2 := [.ref 162, .int (nI j), .ref 224]) (h2 := h) (dc2 := dc) (ds2 := ds) 2 rfl ?_
      refine wq_getf rfl hM rfl rfl ?_
      refine wq_gos (f := 1) (pc2 := 62) (ls2 := [(0, .ref 162), (1, .int (nI w)), (2, .int al9), (3, .int (nI n)), (4, .int (nI j))]) (st2 := [.int (nI j), .ref 188, .int (nI j), .ref 224]) (h2 := h) (dc2 := dc) (ds2 := ds) 1 rfl ?_
      refine wq_ialdn rfl hNw (by first | omega | exact zin_t (by omega) (by omega)) (by decide) rfl ?_
      refine wq_gos (f := 1) (pc2 := 64) (ls2 := [(0, .ref 162), (1, .int (nI w)), (2, .int al9), (3, .int (nI n)), (4, .int (nI j))]) (st2 := [.ref 162, .int (nw.getD j 0), .int (nI j), .ref 224]) (h2 := h) (dc2 := dc) (ds2 := ds) 1 rfl ?_
      refine wq_getf rfl hM rfl rfl ?_
      refine wq_gos (f := 1) (pc2 := 71) (ls2 := [(0, .ref 162), (1, .int (nI w)), (2, .int al9), (3, .int (nI n)), (4, .int (nI j))]) (st2 := [.int ((6 : Int32) * (nI w)), .ref 178, .int (nw.getD j 0), .int (nI j), .ref 224]) (h2 := h) (dc2 := dc) (ds2 := ds) 3 rfl ?_
      refine wq_vi (show (6 : Int32) * (nI w) = nI (6 * w) from e_nmul 6 w) ?_
      refine wq_gos (f := 1) (pc2 := 74) (ls2 := [(0, .ref 162), (1, .int (nI w)), (2, .int al9), (3, .int (nI n)), (4, .int (nI j))]) (st2 := [.int ((nI (6 * w)) + (nI j)), .ref 178, .int (nw.getD j 0), .int (nI j), .ref 224]) (h2 := h) (dc2 := dc) (ds2 := ds) 2 rfl ?_
      refine wq_vi (show (nI (6 * w)) + (nI j) = nI ((6 * w) + j) from nI_add (6 * w) j) ?_
      try have q4x := nI_toInt (n := ((6 * w) + j)) (by omega)
      refine wq_ialdn rfl hSq (by first | omega | exact zin_t (by omega) (by omega)) (by decide) rfl ?_
      refine wq_gos (f := 1) (pc2 := 77) (ls2 := [(0, .ref 162), (1, .int (nI w)), (2, .int al9), (3, .int (nI n)), (4, .int (nI j))]) (st2 := [.int al9, .int (nI n), .int (sq.getD ((6 * w) + j) 0), .int (nw.getD j 0), .int (nI j), .ref 224]) (h2 := h) (dc2 := dc) (ds2 := ds) 2 rfl ?_
      try have q5x := nI_toInt (n := n) (by omega)
      refine wq_inl (y2 := 235) (as := [.int (nw.getD j 0), .int (sq.getD ((6 * w) + j) 0), .int (nI n), .int al9]) rfl rfl rfl (wq_mono m_btw ?_)
      rintro _ rfl
      show wq 241 80 [(0, .ref 162), (1, .int (nI w)), (2, .int al9), (3, .int (nI n)), (4, .int (nI j))] [.int (mBtw (nw.getD j 0) (sq.getD ((6 * w) + j) 0) (nI n) al9), .int (nI j), .ref 224] h dc ds _
      refine wq_iastn rfl hTk (by first | omega | exact zin_t (by omega) (by omega)) (by decide) rfl ?_
      intro hh7x e8x ff9x lh10x
      have e8x : zat hh7x 224 = some (.inl (0, 6, (zset 0 tk j (mBtw (nw.getD j 0) (sq.getD ((6 * w) + j) 0) (nI n) al9)))) := e8x
      refine wq_gos (f := 1) (pc2 := 84) (ls2 := [(4, .int ((nI j) + 1)), (0, .ref 162), (1, .int (nI w)), (2, .int al9), (3, .int (nI n))]) (st2 := []) (h2 := hh7x) (dc2 := dc) (ds2 := ds) 1 rfl ?_
      rw [nI_1]
      refine wq_gos (f := 1) (pc2 := 43) (ls2 := [(4, .int (nI (j + 1))), (0, .ref 162), (1, .int (nI w)), (2, .int al9), (3, .int (nI n))]) (st2 := []) (h2 := hh7x) (dc2 := dc) (ds2 := ds) 1 rfl ?_
      try have q11x := nI_toInt (n := (j + 1)) (by omega)
      try have q12x := nI_toInt (n := w) (by omega)
      have e13x := (ff9x.2 _ _ (wnc (by decide) wn0) hM)
      have e14x := (ff9x.2 _ _ (wnc (by decide) wn0) hSq)
      have e15x := (ff9x.2 _ _ (wnc (by decide) wn0) hNw)
      have hx : (mmtI sq nw w n al9 (m + 1) j tk) = (mmtI sq nw w n al9 m (j + 1) (zset 0 tk j (mBtw (nw.getD j 0) (sq.getD ((6 * w) + j) 0) (nI n) al9))) := by show (if _ then _ else _) = _; rw [if_neg (Int.not_le.mpr b3x)]
      rw [hx] at kk
      refine wq_ls [(0, .ref 162), (1, .int (nI w)), (2, .int al9), (3, .int (nI n)), (4, .int (nI (j + 1)))] (show ([0, 1, 2, 3, 4] : List Nat).Nodup by decide) ⟨rfl, rfl, rfl, rfl, rfl, trivial⟩ ?_
      exact ih (j + 1) (zset 0 tk j (mBtw (nw.getD j 0) (sq.getD ((6 * w) + j) 0) (nI n) al9)) hh7x e13x e14x e15x e8x (by first | assumption | omega | decide | solve_by_elim) (by omega) (fun h9 f9 l9 y0 => kk h9 (wFr_tr (wFr_sub ff9x (by simp)) f9) (by omega) y0)
noncomputable def mmtO (sq nw : List Int32) (w : Nat) (al9 : Int32) : Nat → Nat → List Int32 → Nat × Int32 × List Int32
  | 0, _, tk => (0, 0, tk)
  | m + 1, n, tk => (if al9.toInt < (nI n).toInt then (0, 0, tk) else (zlet (mmtI sq nw w n al9 ((6 - 0) + 1) 0 tk) (fun v5x => (if (mMea (v5x) 0) ≠ (0 : Int32) then (mmtO sq nw w al9 m (n + 1) (v5x)) else (1, (nI n), (v5x))))))
set_option maxRecDepth 100000 in
set_option maxHeartbeats 4000000 in
theorem m_mtO {n0 n2 n14 n15 n16 n17 n18 n19 n20 n21 n22 n23 n27 n28 n32 n33 n34 n35 n39 n52 : Int32} {w : Nat} {sq nw : List Int32} {al9 : Int32} (hw : w < 8) (ha : 0 ≤ al9.toInt ∧ al9.toInt ≤ 3000) {dc ds : Nat} {Q : zR → Prop} : ∀ (m : Nat) (n : Nat) (tk : List Int32) (h : zH) , (zat h 162 = some (.inr (.inr (.inr (10, mO n0 n2 n14 n15 n16 n17 n18 n19 n20 n21 n22 n23 n27 n28 n32 n33 n34 n35 n39 n52))))) → (zat h 178 = some (.inl (0, 96, sq))) → (zat h 188 = some (.inl (0, 6, nw))) → (zat h 224 = some (.inl (0, 6, tk))) → (n ≤ al9.toInt + 1) → (al9.toInt + 1 - n).toNat < m → (∀ (h2 : zH) , (wFr [224] h h2) → (h2.length = h.length) → (zat h2 224 = some (.inl (0, 6, ((mmtO sq nw w al9 m n tk).2.2)))) → ((mmtO sq nw w al9 m n tk).1 = 0 → wq 241 106 [(0, .ref 162)] [] h2 dc ds Q) ∧ ((mmtO sq nw w al9 m n tk).1 ≠ 0 → Q (some (Value.int ((mmtO sq nw w al9 m n tk).2.1)), h2, dc, ds))) → wq 241 35 [(0, .ref 162), (1, .int (nI w)), (2, .int al9), (3, .int (nI n))] [] h dc ds Q := by
  intro m
  induction m with
  | zero => intro n tk h hM hSq hNw hTk hn hms kk; omega
  | succ m ih =>
    intro n tk h hM hSq hNw hTk hn hms kk
    have qn := nI_toInt (n := n) (by omega)
    refine wq_gos (f := 1) (pc2 := 37) (ls2 := [(0, .ref 162), (1, .int (nI w)), (2, .int al9), (3, .int (nI n))]) (st2 := [.int al9, .int (nI n)]) (h2 := h) (dc2 := dc) (ds2 := ds) 2 rfl ?_
    try have q1x := nI_toInt (n := n) (by omega)
    refine wq_gt2 rfl rfl (fun b2x => ?_) (fun b2x => ?_)
    · have hx : (mmtO sq nw w al9 (m + 1) n tk) = (0, 0, tk) := by show (if _ then _ else _) = _; rw [if_pos b2x]
      rw [hx] at kk
      refine wq_ls [(0, .ref 162)] (show ([0] : List Nat).Nodup by decide) ⟨rfl, trivial⟩ ?_
      exact (kk h (wFr_rf _ _) (by omega) hTk).1 rfl
    · refine wq_gos (f := 1) (pc2 := 43) (ls2 := [(4, .int 0), (0, .ref 162), (1, .int (nI w)), (2, .int al9), (3, .int (nI n))]) (st2 := []) (h2 := h) (dc2 := dc) (ds2 := ds) 2 rfl ?_
      try have q3x := nI_toInt (n := w) (by omega)
      refine wq_ls [(0, .ref 162), (1, .int (nI w)), (2, .int al9), (3, .int (nI n)), (4, .int (nI 0))] (show ([0, 1, 2, 3, 4] : List Nat).Nodup by decide) ⟨rfl, rfl, rfl, rfl, rfl, trivial⟩ ?_
      refine m_mtI (by first | assumption | omega | decide | solve_by_elim) ((6 - 0) + 1) 0 tk h hM hSq hNw hTk (by first | assumption | omega | decide | solve_by_elim) (by omega) ?_
      intro h84x f84x l84x c04x
      obtain ⟨v5x, hv6x⟩ : ∃ x, x = (mmtI sq nw w n al9 ((6 - 0) + 1) 0 tk) := ⟨_, rfl⟩
      try rw [← hv6x] at c04x
      try rw [← hv6x]
      show wq 241 87 [(0, .ref 162), (1, .int (nI w)), (2, .int al9), (3, .int (nI n))] [] h84x dc ds _
      refine wq_gos (f := 1) (pc2 := 88) (ls2 := [(0, .ref 162), (1, .int (nI w)), (2, .int al9), (3, .int (nI n))]) (st2 := [.ref 162]) (h2 := h84x) (dc2 := dc) (ds2 := ds) 1 rfl ?_
      have e7x := (f84x.2 _ _ (wnc (by decide) wn0) hM)
      refine wq_getf rfl e7x rfl rfl ?_
      refine wq_gos (f := 1) (pc2 := 92) (ls2 := [(0, .ref 162), (1, .int (nI w)), (2, .int al9), (3, .int (nI n))]) (st2 := [.int 0, .ref 224]) (h2 := h84x) (dc2 := dc) (ds2 := ds) 1 rfl ?_
      have q8x : (0 : Int32).toInt = 0 := rfl
      refine wq_inl (y2 := 206) (as := [.ref 224, .int 0]) rfl rfl rfl (wq_mono (m_meav (k := 0) c04x (by decide)) ?_)
      rintro _ rfl
      show wq 241 95 [(0, .ref 162), (1, .int (nI w)), (2, .int al9), (3, .int (nI n))] [.int (mMea (v5x) 0)] h84x dc ds _
      refine wq_ne0 rfl rfl (fun b10x => ?_) (fun b10x => ?_)
      · have q11x : (mMea (v5x) 0).toInt ≠ 0 := fun q => b10x (Int32.toInt_inj.mp q)
        refine wq_gos (f := 1) (pc2 := 103) (ls2 := [(3, .int ((nI n) + 1)), (0, .ref 162), (1, .int (nI w)), (2, .int al9)]) (st2 := []) (h2 := h84x) (dc2 := dc) (ds2 := ds) 1 rfl ?_
        rw [nI_1]
        refine wq_gos (f := 1) (pc2 := 35) (ls2 := [(3, .int (nI (n + 1))), (0, .ref 162), (1, .int (nI w)), (2, .int al9)]) (st2 := []) (h2 := h84x) (dc2 := dc) (ds2 := ds) 1 rfl ?_
        try have q12x := nI_toInt (n := (n + 1)) (by omega)
        have e13x := (f84x.2 _ _ (wnc (by decide) wn0) hSq)
        have e14x := (f84x.2 _ _ (wnc (by decide) wn0) hNw)
        have hx : (mmtO sq nw w al9 (m + 1) n tk) = (mmtO sq nw w al9 m (n + 1) (v5x)) := by show (if _ then _ else _) = _; rw [if_neg (Int.not_lt.mpr b2x), zlet_eq hv6x, if_pos b10x]
        rw [hx] at kk
        refine wq_ls [(0, .ref 162), (1, .int (nI w)), (2, .int al9), (3, .int (nI (n + 1)))] (show ([0, 1, 2, 3] : List Nat).Nodup by decide) ⟨rfl, rfl, rfl, rfl, trivial⟩ ?_
        exact ih (n + 1) (v5x) h84x e7x e13x e14x c04x (by first | assumption | omega | decide | solve_by_elim) (by omega) (fun h9 f9 l9 y0 => kk h9 (wFr_tr (wFr_sub f84x (by simp)) f9) (by omega) y0)
      · have q15x : (mMea (v5x) 0).toInt = 0 := congrArg Int32.toInt b10x
        refine wq_gos (f := 1) (pc2 := 99) (ls2 := [(0, .ref 162), (1, .int (nI w)), (2, .int al9), (3, .int (nI n))]) (st2 := [.int (nI n)]) (h2 := h84x) (dc2 := dc) (ds2 := ds) 1 rfl ?_
        have hx : (mmtO sq nw w al9 (m + 1) n tk) = (1, (nI n), (v5x)) := by show (if _ then _ else _) = _; rw [if_neg (Int.not_lt.mpr b2x), zlet_eq hv6x, if_neg (fun q => q b10x)]
        rw [hx] at kk
        exact wq_ret rfl rfl ((kk h84x (wFr_sub f84x (by simp)) (by omega) c04x).2 Nat.one_ne_zero)
noncomputable def mMee (sv nw sq : List Int32) (w : Nat) (tk : List Int32) : Int32 × Int32 × List Int32 := (zlet (mmtO sq nw w (mtkF sv nw 0 sq (6 * w) (6 - 0 + 1) 0 0) (((mtkF sv nw 0 sq (6 * w) (6 - 0 + 1) 0 0).toInt + 1 - 0).toNat + 1) 0 tk) (fun v17x => (if v17x.1 = 0 then ((-2 : Int32), (0 : Int32), (v17x.2.2)) else ((v17x.2.1), (0 : Int32), (v17x.2.2)))))
set_option maxRecDepth 100000 in
set_option maxHeartbeats 4000000 in
theorem m_mee {h : zH} {n0 n2 n14 n15 n16 n17 n18 n19 n20 n21 n22 n23 n27 n28 n32 n33 n34 n35 n39 n52 : Int32} {ns w : Nat} {kn sq sv nw : List Int32} {tk : List Int32} (hM : zat h 162 = some (.inr (.inr (.inr (10, mO n0 n2 n14 n15 n16 n17 n18 n19 n20 n21 n22 n23 n27 n28 n32 n33 n34 n35 n39 n52))))) (hKn : zat h 166 = some (.inl (0, 14, kn))) (hSq : zat h 178 = some (.inl (0, 96, sq))) (hSv : zat h 172 = some (.inl (0, 12, sv))) (hNw : zat h 188 = some (.inl (0, 6, nw))) (hTk : zat h 224 = some (.inl (0, 6, tk))) (hns : kn.getD 5 0 = nI ns ∧ ns ≤ 8) (hw : w < ns) (hsv : ∀ i, i < 6 → 1 ≤ (sv.getD i 0).toInt) (ha : 0 ≤ (mtkF sv nw 0 sq (6 * w) (6 - 0 + 1) 0 0).toInt ∧ (mtkF sv nw 0 sq (6 * w) (6 - 0 + 1) 0 0).toInt ≤ 3000) : wq 241 0 [(0, .ref 162), (1, .int (nI w))] [] h 0 0 (fun rr9 => ∃ (h2 : zH), rr9 = (some (.int ((mMee sv nw sq w tk).1)), h2, 0, 0) ∧ wFr [162, 224] h h2 ∧ h2.length = h.length ∧ zat h2 162 = some (.inr (.inr (.inr (10, mO ((mMee sv nw sq w tk).2.1) n2 n14 n15 n16 n17 n18 n19 n20 n21 n22 n23 n27 n28 n32 n33 n34 n35 n39 n52)))) ∧ zat h2 224 = some (.inl (0, 6, ((mMee sv nw sq w tk).2.2)))) := by
  have qnw := nI_toInt (n := w) (by omega)
  have qnns := nI_toInt (n := ns) (by omega)
  have z0 : (0 : Int32).toInt = 0 := rfl
  have z1 : (1 : Int32).toInt = 1 := rfl
  have z5 : (5 : Int32).toInt = 5 := rfl
  have z6 : (6 : Int32).toInt = 6 := rfl
  have zm1 : (-1 : Int32).toInt = -1 := rfl
  have z3 : (3 : Int32).toInt = 3 := rfl
  have z2 : (2 : Int32).toInt = 2 := rfl
  have z20 : (20 : Int32).toInt = 20 := rfl
  have hn8 := hns.2
  refine wq_gos (f := 1) (pc2 := 2) (ls2 := [(0, .ref 162), (1, .int (nI w))]) (st2 := [.int 0, .ref 162]) (h2 := h) (dc2 := 0) (ds2 := 0) 2 rfl ?_
  refine wq_putf rfl hM rfl rfl rfl ?_
  intro hh1x e2x ff3x lh4x
  have e2x : zat hh1x 162 = some (.inr (.inr (.inr (10, mO (0 : Int32) n2 n14 n15 n16 n17 n18 n19 n20 n21 n22 n23 n27 n28 n32 n33 n34 n35 n39 n52)))) := e2x
  refine wq_gos (f := 1) (pc2 := 7) (ls2 := [(0, .ref 162), (1, .int (nI w))]) (st2 := [.int (nI w), .ref 162]) (h2 := hh1x) (dc2 := 0) (ds2 := 0) 2 rfl ?_
  refine wq_inlv (y2 := 209) (as := [.int (nI w)]) rfl rfl rfl e2x rfl ?_
  show wq 209 0 [(0, .ref 162), (1, .int (nI w))] [] hh1x 0 0 _
  refine wq_gos (f := 1) (pc2 := 1) (ls2 := [(0, .ref 162), (1, .int (nI w))]) (st2 := [.int (nI w)]) (h2 := hh1x) (dc2 := 0) (ds2 := 0) 1 rfl ?_
  try have q5x := nI_toInt (n := w) (by omega)
  refine wq_lt0f rfl rfl (by omega) ?_
  refine wq_gos (f := 1) (pc2 := 6) (ls2 := [(0, .ref 162), (1, .int (nI w))]) (st2 := [.ref 162, .int (nI w)]) (h2 := hh1x) (dc2 := 0) (ds2 := 0) 2 rfl ?_
  refine wq_getf rfl e2x rfl rfl ?_
  refine wq_gos (f := 1) (pc2 := 10) (ls2 := [(0, .ref 162), (1, .int (nI w))]) (st2 := [.int 5, .ref 166, .int (nI w)]) (h2 := hh1x) (dc2 := 0) (ds2 := 0) 1 rfl ?_
  have e6x := (ff3x.2 _ _ (wnc (by decide) wn0) hKn)
  have q7x : (5 : Int32).toInt = 5 := rfl
  refine wq_iald rfl e6x rfl rfl ?_
  refine wq_vi hns.1 ?_
  try have q8x := nI_toInt (n := ns) (by omega)
  refine wq_ge2f rfl rfl (by omega) ?_
  refine wq_gos (f := 1) (pc2 := 19) (ls2 := [(0, .ref 162), (1, .int (nI w))]) (st2 := [.int 1]) (h2 := hh1x) (dc2 := 0) (ds2 := 0) 2 rfl ?_
  refine wq_ret rfl rfl ?_
  show wq 241 10 [(0, .ref 162), (1, .int (nI w))] [.int 1] hh1x 0 0 _
  refine wq_gos (f := 1) (pc2 := 17) (ls2 := [(0, .ref 162), (1, .int (nI w))]) (st2 := [.ref 162, .ref 162]) (h2 := hh1x) (dc2 := 0) (ds2 := 0) 3 rfl ?_
  refine wq_getf rfl e2x rfl rfl ?_
  refine wq_gos (f := 1) (pc2 := 22) (ls2 := [(0, .ref 162), (1, .int (nI w))]) (st2 := [.ref 162, .int 0, .ref 188, .ref 162]) (h2 := hh1x) (dc2 := 0) (ds2 := 0) 2 rfl ?_
  refine wq_getf rfl e2x rfl rfl ?_
  refine wq_gos (f := 1) (pc2 := 29) (ls2 := [(0, .ref 162), (1, .int (nI w))]) (st2 := [.int ((6 : Int32) * (nI w)), .ref 178, .int 0, .ref 188, .ref 162]) (h2 := hh1x) (dc2 := 0) (ds2 := 0) 3 rfl ?_
  refine wq_vi (show (6 : Int32) * (nI w) = nI (6 * w) from e_nmul 6 w) ?_
  have e9x := (ff3x.2 _ _ (wnc (by decide) wn0) hSv)
  have e10x := (ff3x.2 _ _ (wnc (by decide) wn0) hNw)
  have e11x := (ff3x.2 _ _ (wnc (by decide) wn0) hSq)
  have q12x : (0 : Int32).toInt = 0 := rfl
  try have q13x := nI_toInt (n := (6 * w)) (by omega)
  refine wq_inlv (y2 := 233) (as := [.ref 188, .int 0, .ref 178, .int (nI (6 * w))]) rfl rfl rfl e2x rfl (wq_mono (m_tks (k := 0) e2x e9x e10x e11x (by decide) (by omega) (by first | assumption | omega | decide | solve_by_elim)) ?_)
  rintro _ rfl
  show wq 241 32 [(0, .ref 162), (1, .int (nI w))] [.int (mtkF sv nw 0 sq (6 * w) (6 - 0 + 1) 0 0)] hh1x 0 0 _
  refine wq_gos (f := 1) (pc2 := 35) (ls2 := [(3, .int 0), (2, .int (mtkF sv nw 0 sq (6 * w) (6 - 0 + 1) 0 0)), (0, .ref 162), (1, .int (nI w))]) (st2 := []) (h2 := hh1x) (dc2 := 0) (ds2 := 0) 3 rfl ?_
  have e15x := (ff3x.2 _ _ (wnc (by decide) wn0) hTk)
  refine wq_ls [(0, .ref 162), (1, .int (nI w)), (2, .int (mtkF sv nw 0 sq (6 * w) (6 - 0 + 1) 0 0)), (3, .int (nI 0))] (show ([0, 1, 2, 3] : List Nat).Nodup by decide) ⟨rfl, rfl, rfl, rfl, trivial⟩ ?_
  refine m_mtO (by first | assumption | omega | decide | solve_by_elim) ha (((mtkF sv nw 0 sq (6 * w) (6 - 0 + 1) 0 0).toInt + 1 - 0).toNat + 1) 0 tk hh1x e2x e11x e10x e15x (by first | assumption | omega | decide | solve_by_elim) (by omega) ?_
  intro h816x f816x l816x c016x
  obtain ⟨v17x, hv18x⟩ : ∃ x, x = (mmtO sq nw w (mtkF sv nw 0 sq (6 * w) (6 - 0 + 1) 0 0) (((mtkF sv nw 0 sq (6 * w) (6 - 0 + 1) 0 0).toInt + 1 - 0).toNat + 1) 0 tk) := ⟨_, rfl⟩
  try rw [← hv18x] at c016x
  try rw [← hv18x]
  refine ⟨fun b19x => ?_, fun b19x => ?_⟩
  · show wq 241 106 [(0, .ref 162)] [] h816x 0 0 _
    refine wq_gos (f := 1) (pc2 := 108) (ls2 := [(0, .ref 162)]) (st2 := [.int (-2)]) (h2 := h816x) (dc2 := 0) (ds2 := 0) 1 rfl ?_
    have e20x := (f816x.2 _ _ (wnc (by decide) wn0) e2x)
    have hx : (mMee sv nw sq w tk) = ((-2 : Int32), (0 : Int32), (v17x.2.2)) := by unfold mMee; rw [zlet_eq hv18x, if_pos b19x]
    rw [hx]
    exact wq_ret rfl rfl ⟨h816x, rfl, (wFr_tr (wFr_sub ff3x (by simp)) (wFr_sub f816x (by simp))), by omega, e20x, c016x⟩
  · have e21x := (f816x.2 _ _ (wnc (by decide) wn0) e2x)
    have hx : (mMee sv nw sq w tk) = ((v17x.2.1), (0 : Int32), (v17x.2.2)) := by unfold mMee; rw [zlet_eq hv18x, if_neg b19x]
    rw [hx]
    exact ⟨h816x, rfl, (wFr_tr (wFr_sub ff3x (by simp)) (wFr_sub f816x (by simp))), by omega, e21x, c016x⟩
noncomputable def mTak (n9 k : Int32) : Nat := (if k.toInt < 0 then 0 else (if n9.toInt ≤ k.toInt then 0 else 1))
set_option maxRecDepth 100000 in
set_option maxHeartbeats 4000000 in
theorem m_take {h : zH} {Q : zR → Prop} {n0 n2 n14 n15 n16 n17 n18 n19 n20 n21 n22 n23 n28 n32 n33 n34 n35 n39 n52 : Int32} {kn lo hi on pa pb : List Int32} {fo : List Int64} {am : List Int32} {u : Nat} {nw kp hr : List Int32} {k : Int32} (hM : zat h 162 = some (.inr (.inr (.inr (10, mO n0 n2 n14 n15 n16 n17 n18 n19 n20 n21 n22 n23 (nI u) n28 n32 n33 n34 n35 n39 n52))))) (hKn : zat h 166 = some (.inl (0, 14, kn))) (hLo : zat h 168 = some (.inl (0, 12, lo))) (hHi : zat h 170 = some (.inl (0, 12, hi))) (hFo : zat h 196 = some (.inr (.inl (6000, fo)))) (hOn : zat h 204 = some (.inl (0, 6, on))) (h200 : zat h 200 = some (.inl (0, 4096, pa))) (h202 : zat h 202 = some (.inl (0, 4096, pb))) (hAm : zat h 190 = some (.inl (0, 6, am))) (hNw : zat h 188 = some (.inl (0, 6, nw))) (hKp : zat h 192 = some (.inl (0, 252, kp))) (hR : zat h 212 = some (.inl (2, 2, hr))) (h01 : n33 = 0 ∨ n33 = 1) (hSA : n33 = 1 → n32 = mNum (mSol lo hi kn am) ∧ wFd 4800 (mSol lo hi kn am) fo) (hu : u ≤ 20) (kF : ∀ (h2 : zH) (m34 : Int32) (m35 : Int32) (m39 : Int32) (fo2 : List Int64) (on2 : List Int32) (pa2 : List Int32) (pb2 : List Int32), (wFr [162, 196, 204, 200, 202] h h2) → (h2.length = h.length) → (zat h2 162 = some (.inr (.inr (.inr (10, mO (0 : Int32) n2 n14 n15 n16 n17 n18 n19 n20 n21 n22 n23 (nI u) n28 (mNum (mSol lo hi kn am)) (1 : Int32) m34 m35 m39 n52))))) → (zat h2 196 = some (.inr (.inl (6000, fo2)))) → (zat h2 204 = some (.inl (0, 6, on2))) → (zat h2 200 = some (.inl (0, 4096, pa2))) → (zat h2 202 = some (.inl (0, 4096, pb2))) → ((mTak (mNum (mSol lo hi kn am)) k) = 0) → (wFe (fun q => fo.getD q 0) 4800 (mSol lo hi kn am) fo2) → (((mNum (mSol lo hi kn am)).toInt = -3 ∨ 0 ≤ (mNum (mSol lo hi kn am)).toInt) ∧ (mNum (mSol lo hi kn am)).toInt ≤ 600) → Q (some (.int 0), h2, 0, 0)) (kS : ∀ (h2 : zH) (m34 : Int32) (m35 : Int32) (m39 : Int32) (fo2 : List Int64) (on2 : List Int32) (pa2 : List Int32) (pb2 : List Int32), (wFr [162, 196, 204, 200, 202, 188, 192, 212] h h2) → (h2.length = h.length) → (zat h2 162 = some (.inr (.inr (.inr (10, mO (0 : Int32) n2 n14 n15 n16 n17 n18 n19 n20 n21 n22 n23 (nI (mRem nw am kp u).1) n28 (mNum (mSol lo hi kn am)) (0 : Int32) m34 m35 m39 n52))))) → (zat h2 196 = some (.inr (.inl (6000, fo2)))) → (zat h2 204 = some (.inl (0, 6, on2))) → (zat h2 200 = some (.inl (0, 4096, pa2))) → (zat h2 202 = some (.inl (0, 4096, pb2))) → (zat h2 188 = some (.inl (0, 6, (mUnp (fo2.getD ((4800 : Int32) + k).toNatClampNeg 0) 0 nw)))) → (zat h2 192 = some (.inl (0, 252, (mRem nw am kp u).2))) → (zat h2 212 = some (.inl (2, 2, (mvd hr)))) → ((mTak (mNum (mSol lo hi kn am)) k) = 1) → (wFe (fun q => fo.getD q 0) 4800 (mSol lo hi kn am) fo2) → (((mNum (mSol lo hi kn am)).toInt = -3 ∨ 0 ≤ (mNum (mSol lo hi kn am)).toInt) ∧ (mNum (mSol lo hi kn am)).toInt ≤ 600) → (0 ≤ k.toInt ∧ k.toInt < (mNum (mSol lo hi kn am)).toInt) → ((mRem nw am kp u).1 ≤ 20) → Q (some (.int 1), h2, 0, 0)) : wq 239 0 [(0, .ref 162), (1, .int k)] [] h 0 0 Q := by
  have qnu := nI_toInt (n := u) (by omega)
  have z0 : (0 : Int32).toInt = 0 := rfl
  have z1 : (1 : Int32).toInt = 1 := rfl
  have z5 : (5 : Int32).toInt = 5 := rfl
  have z6 : (6 : Int32).toInt = 6 := rfl
  have zm1 : (-1 : Int32).toInt = -1 := rfl
  have z3 : (3 : Int32).toInt = 3 := rfl
  have z2 : (2 : Int32).toInt = 2 := rfl
  have z20 : (20 : Int32).toInt = 20 := rfl
  have z4800 : (4800 : Int32).toInt = 4800 := rfl
  refine wq_gos (f := 1) (pc2 := 2) (ls2 := [(0, .ref 162), (1, .int k)]) (st2 := [.int 0, .ref 162]) (h2 := h) (dc2 := 0) (ds2 := 0) 2 rfl ?_
  refine wq_putf rfl hM rfl rfl rfl ?_
  intro hh1x e2x ff3x lh4x
  have e2x : zat hh1x 162 = some (.inr (.inr (.inr (10, mO (0 : Int32) n2 n14 n15 n16 n17 n18 n19 n20 n21 n22 n23 (nI u) n28 n32 n33 n34 n35 n39 n52)))) := e2x
  refine wq_gos (f := 1) (pc2 := 7) (ls2 := [(0, .ref 162), (1, .int k)]) (st2 := [.int k, .ref 162]) (h2 := hh1x) (dc2 := 0) (ds2 := 0) 2 rfl ?_
  refine wq_inlv (y2 := 230) (as := [.int k]) rfl rfl rfl e2x rfl ?_
  show wq 230 0 [(0, .ref 162), (1, .int k)] [] hh1x 0 0 _
  refine wq_gos (f := 1) (pc2 := 1) (ls2 := [(0, .ref 162), (1, .int k)]) (st2 := [.ref 162]) (h2 := hh1x) (dc2 := 0) (ds2 := 0) 1 rfl ?_
  have e5x := (ff3x.2 _ _ (wnc (by decide) wn0) hKn)
  have e6x := (ff3x.2 _ _ (wnc (by decide) wn0) hLo)
  have e7x := (ff3x.2 _ _ (wnc (by decide) wn0) hHi)
  have e8x := (ff3x.2 _ _ (wnc (by decide) wn0) hFo)
  have e9x := (ff3x.2 _ _ (wnc (by decide) wn0) hOn)
  have e10x := (ff3x.2 _ _ (wnc (by decide) wn0) h200)
  have e11x := (ff3x.2 _ _ (wnc (by decide) wn0) h202)
  have e12x := (ff3x.2 _ _ (wnc (by decide) wn0) hAm)
  refine wq_inlv (y2 := 227) (as := []) rfl rfl rfl e2x rfl (wq_mono (m_sva e2x e5x e6x e7x e8x e9x e10x e11x e12x (by first | assumption | omega | decide | solve_by_elim) (by first | assumption | omega | decide | solve_by_elim)) ?_)
  rintro _ ⟨h813x, m3413x, m3513x, m3913x, fo213x, on213x, pa213x, pb213x, rfl, f813x, l813x, c013x, c113x, c213x, c313x, c413x, p013x, p113x⟩
  show wq 230 4 [(0, .ref 162), (1, .int k)] [] h813x 0 0 _
  refine wq_gos (f := 1) (pc2 := 5) (ls2 := [(0, .ref 162), (1, .int k)]) (st2 := [.int k]) (h2 := h813x) (dc2 := 0) (ds2 := 0) 1 rfl ?_
  refine wq_lt0 rfl rfl (fun b14x => ?_) (fun b14x => ?_)
  · refine wq_gos (f := 1) (pc2 := 21) (ls2 := [(0, .ref 162), (1, .int k)]) (st2 := [.int 0]) (h2 := h813x) (dc2 := 0) (ds2 := 0) 1 rfl ?_
    refine wq_ret rfl rfl ?_
    show wq 239 10 [(0, .ref 162), (1, .int k)] [.int 0] h813x 0 0 _
    refine wq_gos (f := 1) (pc2 := 14) (ls2 := [(0, .ref 162), (1, .int k)]) (st2 := [.int 0]) (h2 := h813x) (dc2 := 0) (ds2 := 0) 2 rfl ?_
    exact wq_ret rfl rfl (kF h813x m3413x m3513x m3913x fo213x on213x pa213x pb213x (wFr_tr (wFr_sub ff3x (by simp)) (wFr_sub f813x (by simp))) (by omega) c013x c113x c213x c313x c413x (by unfold mTak; rw [if_pos b14x]) (by first | assumption | omega | decide | solve_by_elim) (by first | assumption | omega | decide | solve_by_elim))
  · refine wq_gos (f := 1) (pc2 := 10) (ls2 := [(0, .ref 162), (1, .int k)]) (st2 := [.ref 162, .int k]) (h2 := h813x) (dc2 := 0) (ds2 := 0) 2 rfl ?_
    refine wq_getf rfl c013x rfl rfl ?_
    refine wq_ge2 rfl rfl (fun b15x => ?_) (fun b15x => ?_)
    · refine wq_gos (f := 1) (pc2 := 21) (ls2 := [(0, .ref 162), (1, .int k)]) (st2 := [.int 0]) (h2 := h813x) (dc2 := 0) (ds2 := 0) 1 rfl ?_
      refine wq_ret rfl rfl ?_
      show wq 239 10 [(0, .ref 162), (1, .int k)] [.int 0] h813x 0 0 _
      refine wq_gos (f := 1) (pc2 := 14) (ls2 := [(0, .ref 162), (1, .int k)]) (st2 := [.int 0]) (h2 := h813x) (dc2 := 0) (ds2 := 0) 2 rfl ?_
      exact wq_ret rfl rfl (kF h813x m3413x m3513x m3913x fo213x on213x pa213x pb213x (wFr_tr (wFr_sub ff3x (by simp)) (wFr_sub f813x (by simp))) (by omega) c013x c113x c213x c313x c413x (by unfold mTak; rw [if_neg (Int.not_lt.mpr b14x), if_pos b15x]) (by first | assumption | omega | decide | solve_by_elim) (by first | assumption | omega | decide | solve_by_elim))
    · refine wq_gos (f := 1) (pc2 := 21) (ls2 := [(0, .ref 162), (1, .int k)]) (st2 := [.int 1]) (h2 := h813x) (dc2 := 0) (ds2 := 0) 2 rfl ?_
      refine wq_ret rfl rfl ?_
      show wq 239 10 [(0, .ref 162), (1, .int k)] [.int 1] h813x 0 0 _
      refine wq_gos (f := 1) (pc2 := 16) (ls2 := [(0, .ref 162), (1, .int k)]) (st2 := [.ref 162]) (h2 := h813x) (dc2 := 0) (ds2 := 0) 2 rfl ?_
      have e16x := (f813x.2 _ _ (wnc (by decide) (wnc (by decide) (wnc (by decide) (wnc (by decide) (wnc (by decide) wn0))))) (ff3x.2 _ _ (wnc (by decide) wn0) hNw))
      have e17x := (f813x.2 _ _ (wnc (by decide) (wnc (by decide) (wnc (by decide) (wnc (by decide) (wnc (by decide) wn0))))) e12x)
      have e18x := (f813x.2 _ _ (wnc (by decide) (wnc (by decide) (wnc (by decide) (wnc (by decide) (wnc (by decide) wn0))))) (ff3x.2 _ _ (wnc (by decide) wn0) hKp))
      refine wq_inlv (y2 := 191) (as := []) rfl rfl rfl c013x rfl (wq_mono (m_rem c013x e16x e17x e18x (by first | assumption | omega | decide | solve_by_elim)) ?_)
      rintro _ ⟨h819x, rfl, f819x, l819x, c019x, c119x, p019x⟩
      show wq 239 19 [(0, .ref 162), (1, .int k)] [] h819x 0 0 _
      obtain ⟨v20x, hv21x⟩ : ∃ x, x = (mRem nw am kp u) := ⟨_, rfl⟩
      try rw [← hv21x] at c019x
      try rw [← hv21x] at c119x
      try rw [← hv21x] at p019x
      try rw [← hv21x]
      refine wq_gos (f := 1) (pc2 := 22) (ls2 := [(0, .ref 162), (1, .int k)]) (st2 := [.int k, .ref 162, .ref 162]) (h2 := h819x) (dc2 := 0) (ds2 := 0) 3 rfl ?_
      refine wq_inlv (y2 := 228) (as := [.int k]) rfl rfl rfl c019x rfl ?_
      show wq 228 0 [(0, .ref 162), (1, .int k)] [] h819x 0 0 _
      refine wq_gos (f := 1) (pc2 := 1) (ls2 := [(0, .ref 162), (1, .int k)]) (st2 := [.ref 162]) (h2 := h819x) (dc2 := 0) (ds2 := 0) 1 rfl ?_
      refine wq_getf rfl c019x rfl rfl ?_
      refine wq_gos (f := 1) (pc2 := 9) (ls2 := [(0, .ref 162), (1, .int k)]) (st2 := [.int ((4800 : Int32) + k), .ref 196]) (h2 := h819x) (dc2 := 0) (ds2 := 0) 3 rfl ?_
      have e22x := (f819x.2 _ _ (wnc (by decide) (wnc (by decide) wn0)) c113x)
      have q23x : (4800 : Int32).toInt = 4800 := rfl
      try have q24x : (((4800 : Int32) + k)).toInt = (4800 : Int32).toInt + k.toInt := e_add (by omega) (by omega)
      refine wq_lald rfl e22x (by first | omega | exact zin_t (by omega) (by omega)) rfl ?_
      refine wq_ret rfl rfl ?_
      show wq 239 25 [(0, .ref 162), (1, .int k)] [.long (fo213x.getD (((4800 : Int32) + k)).toNatClampNeg 0), .ref 162] h819x 0 0 _
      refine wq_gos (f := 1) (pc2 := 26) (ls2 := [(0, .ref 162), (1, .int k)]) (st2 := [.ref 162, .long (fo213x.getD (((4800 : Int32) + k)).toNatClampNeg 0), .ref 162]) (h2 := h819x) (dc2 := 0) (ds2 := 0) 1 rfl ?_
      refine wq_getf rfl c019x rfl rfl ?_
      refine wq_gos (f := 1) (pc2 := 30) (ls2 := [(0, .ref 162), (1, .int k)]) (st2 := [.int 0, .ref 188, .long (fo213x.getD (((4800 : Int32) + k)).toNatClampNeg 0), .ref 162]) (h2 := h819x) (dc2 := 0) (ds2 := 0) 1 rfl ?_
      have e25x := (f819x.2 _ _ (wnc (by decide) (wnc (by decide) wn0)) e16x)
      have q26x : (0 : Int32).toInt = 0 := rfl
      refine wq_inlv (y2 := 221) (as := [.long (fo213x.getD (((4800 : Int32) + k)).toNatClampNeg 0), .ref 188, .int 0]) rfl rfl rfl c019x rfl (wq_mono (m_unp (k := 0) c019x e25x (by decide) (by decide)) ?_)
      rintro _ ⟨h827x, rfl, f827x, l827x, c027x⟩
      show wq 239 33 [(0, .ref 162), (1, .int k)] [] h827x 0 0 _
      obtain ⟨v28x, hv29x⟩ : ∃ x, x = (mUnp (fo213x.getD (((4800 : Int32) + k)).toNatClampNeg 0) 0 nw) := ⟨_, rfl⟩
      try rw [← hv29x] at c027x
      try rw [← hv29x]
      refine wq_gos (f := 1) (pc2 := 34) (ls2 := [(0, .ref 162), (1, .int k)]) (st2 := [.ref 162]) (h2 := h827x) (dc2 := 0) (ds2 := 0) 1 rfl ?_
      have e30x := (f827x.2 _ _ (wnc (by decide) wn0) c019x)
      refine wq_inlv (y2 := 242) (as := []) rfl rfl rfl e30x rfl ?_
      show wq 242 0 [(0, .ref 162)] [] h827x 0 0 _
      refine wq_gos (f := 1) (pc2 := 2) (ls2 := [(0, .ref 162)]) (st2 := [.int 0, .ref 162]) (h2 := h827x) (dc2 := 0) (ds2 := 0) 2 rfl ?_
      refine wq_putf rfl e30x rfl rfl rfl ?_
      intro hh31x e32x ff33x lh34x
      have e32x : zat hh31x 162 = some (.inr (.inr (.inr (10, mO (0 : Int32) n2 n14 n15 n16 n17 n18 n19 n20 n21 n22 n23 (nI (v20x.1)) n28 (mNum (mSol lo hi kn am)) (0 : Int32) m3413x m3513x m3913x n52)))) := e32x
      refine wq_gos (f := 1) (pc2 := 6) (ls2 := [(0, .ref 162)]) (st2 := [.ref 162]) (h2 := hh31x) (dc2 := 0) (ds2 := 0) 1 rfl ?_
      refine wq_getf rfl e32x rfl rfl ?_
      refine wq_gos (f := 1) (pc2 := 11) (ls2 := [(0, .ref 162)]) (st2 := [.int 0, .int 0, .ref 212]) (h2 := hh31x) (dc2 := 0) (ds2 := 0) 2 rfl ?_
      have e35x := (ff33x.2 _ _ (wnc (by decide) wn0) (f827x.2 _ _ (wnc (by decide) wn0) (f819x.2 _ _ (wnc (by decide) (wnc (by decide) wn0)) (f813x.2 _ _ (wnc (by decide) (wnc (by decide) (wnc (by decide) (wnc (by decide) (wnc (by decide) wn0))))) (ff3x.2 _ _ (wnc (by decide) wn0) hR)))))
      refine wq_bastz rfl e35x rfl rfl ?_
      intro hh36x e37x ff38x lh39x
      have e37x : zat hh36x 212 = some (.inl (2, 2, (zset 0 hr 0 (vp_nar .boolean (0 : Int32))))) := e37x
      refine wq_gos (f := 1) (pc2 := 13) (ls2 := [(0, .ref 162)]) (st2 := [.ref 162]) (h2 := hh36x) (dc2 := 0) (ds2 := 0) 1 rfl ?_
      have e40x := (ff38x.2 _ _ (wnc (by decide) wn0) e32x)
      refine wq_getf rfl e40x rfl rfl ?_
      refine wq_gos (f := 1) (pc2 := 18) (ls2 := [(0, .ref 162)]) (st2 := [.int 0, .int 1, .ref 212]) (h2 := hh36x) (dc2 := 0) (ds2 := 0) 2 rfl ?_
      have q41x : (1 : Int32).toInt = 1 := rfl
      refine wq_bastz rfl e37x rfl rfl ?_
      intro hh42x e43x ff44x lh45x
      have e43x : zat hh42x 212 = some (.inl (2, 2, (zset 0 (zset 0 hr 0 (vp_nar .boolean (0 : Int32))) 1 (vp_nar .boolean (0 : Int32))))) := e43x
      refine wq_ret rfl rfl ?_
      show wq 239 37 [(0, .ref 162), (1, .int k)] [] hh42x 0 0 _
      refine wq_gos (f := 1) (pc2 := 38) (ls2 := [(0, .ref 162), (1, .int k)]) (st2 := [.int 1]) (h2 := hh42x) (dc2 := 0) (ds2 := 0) 1 rfl ?_
      have e46x := (ff44x.2 _ _ (wnc (by decide) wn0) e40x)
      have e47x := (ff44x.2 _ _ (wnc (by decide) wn0) (ff38x.2 _ _ (wnc (by decide) wn0) (ff33x.2 _ _ (wnc (by decide) wn0) (f827x.2 _ _ (wnc (by decide) wn0) e22x))))
      have e48x := (ff44x.2 _ _ (wnc (by decide) wn0) (ff38x.2 _ _ (wnc (by decide) wn0) (ff33x.2 _ _ (wnc (by decide) wn0) (f827x.2 _ _ (wnc (by decide) wn0) (f819x.2 _ _ (wnc (by decide) (wnc (by decide) wn0)) c213x)))))
      have e49x := (ff44x.2 _ _ (wnc (by decide) wn0) (ff38x.2 _ _ (wnc (by decide) wn0) (ff33x.2 _ _ (wnc (by decide) wn0) (f827x.2 _ _ (wnc (by decide) wn0) (f819x.2 _ _ (wnc (by decide) (wnc (by decide) wn0)) c313x)))))
      have e50x := (ff44x.2 _ _ (wnc (by decide) wn0) (ff38x.2 _ _ (wnc (by decide) wn0) (ff33x.2 _ _ (wnc (by decide) wn0) (f827x.2 _ _ (wnc (by decide) wn0) (f819x.2 _ _ (wnc (by decide) (wnc (by decide) wn0)) c413x)))))
      have e51x := (ff44x.2 _ _ (wnc (by decide) wn0) (ff38x.2 _ _ (wnc (by decide) wn0) (ff33x.2 _ _ (wnc (by decide) wn0) c027x)))
      have e52x := (ff44x.2 _ _ (wnc (by decide) wn0) (ff38x.2 _ _ (wnc (by decide) wn0) (ff33x.2 _ _ (wnc (by decide) wn0) (f827x.2 _ _ (wnc (by decide) wn0) c119x))))
      subst hv21x
      subst hv29x
      exact wq_ret rfl rfl (kS hh42x m3413x m3513x m3913x fo213x on213x pa213x pb213x (wFr_tr (wFr_sub ff3x (by simp)) (wFr_tr (wFr_sub f813x (by simp)) (wFr_tr (wFr_sub f819x (by simp)) (wFr_tr (wFr_sub f827x (by simp)) (wFr_tr (wFr_sub ff33x (by simp)) (wFr_tr (wFr_sub ff38x (by simp)) (wFr_sub ff44x (by simp)))))))) (by omega) e46x e47x e48x e49x e50x e51x e52x e43x (by unfold mTak; rw [if_neg (Int.not_lt.mpr b14x), if_neg (Int.not_le.mpr b15x)]) (by first | assumption | omega | decide | solve_by_elim) (by first | assumption | omega | decide | solve_by_elim) (by first | assumption | omega | decide | solve_by_elim) (by first | assumption | omega | decide | solve_by_elim))
