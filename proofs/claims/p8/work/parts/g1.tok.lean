/-! The reference: a text's tokens. -/
theorem wq_sp1 {pc pc2 : Nat} {ls : zL} {st st2 : List Value} {h : zH} {dc ds : Nat} {Q : zR → Prop} (hP : zP 161 pc = none) (hs : zsp1 pc st h = some (pc2, st2, h, 0, 0)) (k : wq 161 pc2 ls st2 h dc ds Q) : wq 161 pc ls st h dc ds Q := by
  obtain ⟨r, k1, k2⟩ := k
  exact ⟨r, zT_sp1 hP hs k1, k2⟩
noncomputable def mHere (tb : List Int32) (sz at9 : Nat) : Int32 := (if (nI sz).toInt ≤ (nI at9).toInt then (-1) else (tb.getD at9 0))
set_option maxRecDepth 100000 in
set_option maxHeartbeats 4000000 in
theorem m_here0 {h : zH} {n0 n2 n14 n22 n23 n27 n28 n32 n33 n34 n35 n39 n52 : Int32} {sz at9 pl : Nat} {so va ft fp : Int32} {tb : List Int32} (hM : zat h 162 = some (.inr (.inr (.inr (10, mO n0 n2 n14 (nI sz) (nI at9) (nI pl) so va ft fp n22 n23 n27 n28 n32 n33 n34 n35 n39 n52))))) (hT : zat h 164 = some (.inl (0, 700, tb))) (hsz : sz ≤ 700) (ha : at9 ≤ sz) : wq 156 0 [(0, .ref 162)] [] h 0 0 (fun rr9 => rr9 = (some (.int (mHere tb sz at9)), h, 0, 0)) := by
  have qnat9 := nI_toInt (n := at9) (by omega)
  have qnsz := nI_toInt (n := sz) (by omega)
  refine wq_gos (f := 1) (pc2 := 1) (ls2 := [(0, .ref 162)]) (st2 := [.ref 162]) (h2 := h) (dc2 := 0) (ds2 := 0) 1 rfl ?_
  refine wq_getf rfl hM rfl rfl ?_
  refine wq_gos (f := 1) (pc2 := 5) (ls2 := [(0, .ref 162)]) (st2 := [.ref 162, .int (nI at9)]) (h2 := h) (dc2 := 0) (ds2 := 0) 1 rfl ?_
  refine wq_getf rfl hM rfl rfl ?_
  try have q1x := nI_toInt (n := at9) (by omega)
  try have q2x := nI_toInt (n := sz) (by omega)
  refine wq_ge2 rfl rfl (fun b3x => ?_) (fun b3x => ?_)
  · refine wq_gos (f := 1) (pc2 := 24) (ls2 := [(0, .ref 162)]) (st2 := [.int (-1)]) (h2 := h) (dc2 := 0) (ds2 := 0) 1 rfl ?_
    have w4x : (mHere tb sz at9) = (-1 : Int32) := by unfold mHere; rw [if_pos b3x]
    rw [w4x]
    exact wq_ret rfl rfl rfl
  · refine wq_gos (f := 1) (pc2 := 12) (ls2 := [(0, .ref 162)]) (st2 := [.ref 162]) (h2 := h) (dc2 := 0) (ds2 := 0) 1 rfl ?_
    refine wq_getf rfl hM rfl rfl ?_
    refine wq_gos (f := 1) (pc2 := 16) (ls2 := [(0, .ref 162)]) (st2 := [.ref 162, .ref 164]) (h2 := h) (dc2 := 0) (ds2 := 0) 1 rfl ?_
    refine wq_getf rfl hM rfl rfl ?_
    refine wq_ialdn rfl hT (by first | omega | exact zin_t (by omega) (by omega)) (by decide) rfl ?_
    refine wq_gos (f := 1) (pc2 := 24) (ls2 := [(0, .ref 162)]) (st2 := [.int (tb.getD at9 0)]) (h2 := h) (dc2 := 0) (ds2 := 0) 1 rfl ?_
    have w5x : (mHere tb sz at9) = (tb.getD at9 0) := by unfold mHere; rw [if_neg (Int.not_le.mpr b3x)]
    rw [w5x]
    exact wq_ret rfl rfl rfl
theorem mHere_lt {tb : List Int32} {sz at9 : Nat} (h : sz ≤ 700) (h2 : at9 ≤ sz) : (mHere tb sz at9).toInt = -1 ∨ at9 < sz := by
  unfold mHere
  have q1 := nI_toInt (n := sz) (by omega)
  have q2 := nI_toInt (n := at9) (by omega)
  by_cases q : (nI sz).toInt ≤ (nI at9).toInt
  · rw [if_pos q]; exact Or.inl rfl
  · exact Or.inr (by omega)
theorem m_here {h : zH} {n0 n2 n14 n22 n23 n27 n28 n32 n33 n34 n35 n39 n52 : Int32} {sz at9 pl : Nat} {so va ft fp : Int32} {tb : List Int32} (hM : zat h 162 = some (.inr (.inr (.inr (10, mO n0 n2 n14 (nI sz) (nI at9) (nI pl) so va ft fp n22 n23 n27 n28 n32 n33 n34 n35 n39 n52))))) (hT : zat h 164 = some (.inl (0, 700, tb))) (hsz : sz ≤ 700) (ha : at9 ≤ sz) : wq 156 0 [(0, .ref 162)] [] h 0 0 (fun rr9 => rr9 = (some (.int (mHere tb sz at9)), h, 0, 0) ∧ ((mHere tb sz at9).toInt = -1 ∨ at9 < sz)) := by
  refine wq_mono (m_here0 hM hT hsz ha) ?_
  rintro _ rfl
  exact ⟨rfl, mHere_lt hsz ha⟩
noncomputable def mskF (tb : List Int32) (sz : Nat) : Nat → Nat → Nat
  | 0, at9 => at9
  | m + 1, at9 => (if (mHere tb sz at9) = (10 : Int32) then (mskF tb sz m (at9 + 1)) else (if (mHere tb sz at9) ≠ (32 : Int32) then at9 else (mskF tb sz m (at9 + 1))))
set_option maxRecDepth 100000 in
set_option maxHeartbeats 4000000 in
theorem m_skL {n0 n2 n14 n22 n23 n27 n28 n32 n33 n34 n35 n39 n52 : Int32} {sz pl : Nat} {so va ft fp : Int32} {tb : List Int32} {a0 : Nat} (hsz : sz ≤ 700) {dc ds : Nat} {Q : zR → Prop} : ∀ (m : Nat) (at9 : Nat) (h : zH) , (zat h 162 = some (.inr (.inr (.inr (10, mO n0 n2 n14 (nI sz) (nI at9) (nI pl) so va ft fp n22 n23 n27 n28 n32 n33 n34 n35 n39 n52))))) → (zat h 164 = some (.inl (0, 700, tb))) → (a0 ≤ at9 ∧ at9 ≤ sz) → (sz - at9) < m → (∀ (h2 : zH) , (wFr [162] h h2) → (h2.length = h.length) → (zat h2 162 = some (.inr (.inr (.inr (10, mO n0 n2 n14 (nI sz) (nI ((mskF tb sz m at9))) (nI pl) so va ft fp n22 n23 n27 n28 n32 n33 n34 n35 n39 n52))))) → ((a0 ≤ ((mskF tb sz m at9)))) → ((((mskF tb sz m at9)) ≤ sz)) → wq 159 31 [(0, .ref 162)] [] h2 dc ds Q) → wq 159 0 [(0, .ref 162)] [] h dc ds Q := by
  intro m
  induction m with
  | zero => intro at9 h hM hT ha hms kk; omega
  | succ m ih =>
    intro at9 h hM hT ha hms kk
    have zh := mHere_lt (tb := tb) hsz (show at9 ≤ sz by omega)
    have qnat9 := nI_toInt (n := at9) (by omega)
    have qnsz := nI_toInt (n := sz) (by omega)
    have zm1 : (-1 : Int32).toInt = -1 := rfl
    have z0 : (0 : Int32).toInt = 0 := rfl
    refine wq_gos (f := 1) (pc2 := 1) (ls2 := [(0, .ref 162)]) (st2 := [.ref 162]) (h2 := h) (dc2 := dc) (ds2 := ds) 1 rfl ?_
    refine wq_inlv (y2 := 156) (as := []) rfl rfl rfl hM rfl (wq_mono (m_here hM hT (by first | omega | assumption | decide | solve_by_elim) (by first | omega | assumption | decide | solve_by_elim)) ?_)
    rintro _ ⟨rfl, p01x⟩
    show wq 159 4 [(0, .ref 162)] [.int (mHere tb sz at9)] h dc ds _
    refine wq_gos (f := 1) (pc2 := 6) (ls2 := [(0, .ref 162)]) (st2 := [.int 10, .int (mHere tb sz at9)]) (h2 := h) (dc2 := dc) (ds2 := ds) 1 rfl ?_
    have q2x : (10 : Int32).toInt = 10 := rfl
    refine wq_eq2 rfl rfl (fun b3x => ?_) (fun b3x => ?_)
    · have q4x : (mHere tb sz at9).toInt = 10 := congrArg Int32.toInt b3x
      refine wq_gos (f := 1) (pc2 := 20) (ls2 := [(0, .ref 162)]) (st2 := [.ref 162, .ref 162]) (h2 := h) (dc2 := dc) (ds2 := ds) 2 rfl ?_
      refine wq_getf rfl hM rfl rfl ?_
      refine wq_gos (f := 1) (pc2 := 25) (ls2 := [(0, .ref 162)]) (st2 := [.int ((nI at9) + (1 : Int32)), .ref 162]) (h2 := h) (dc2 := dc) (ds2 := ds) 2 rfl ?_
      rw [nI_1]
      refine wq_putf rfl hM rfl rfl rfl ?_
      intro h5x e6x f7x l8x
      have e6x : zat h5x 162 = some (.inr (.inr (.inr (10, mO n0 n2 n14 (nI sz) (nI (at9 + 1)) (nI pl) so va ft fp n22 n23 n27 n28 n32 n33 n34 n35 n39 n52)))) := e6x
      refine wq_gos (f := 1) (pc2 := 0) (ls2 := [(0, .ref 162)]) (st2 := []) (h2 := h5x) (dc2 := dc) (ds2 := ds) 1 rfl ?_
      have e9x := (f7x.2 _ _ (wnc (by decide) wn0) hT)
      have hx : (mskF tb sz (m + 1) at9) = (mskF tb sz m (at9 + 1)) := by show (if _ then _ else _) = _; rw [if_pos b3x]
      rw [hx] at kk
      refine wq_ls [(0, .ref 162)] (show ([0] : List Nat).Nodup by decide) ⟨rfl, trivial⟩ ?_
      exact ih (at9 + 1) h5x e6x e9x (by first | omega | assumption | decide | solve_by_elim) (by omega) (fun h9 f9 l9 y0 y1 y2 => kk h9 (wFr_tr (wFr_sub f7x (by simp)) f9) (by omega) y0 y1 y2)
    · have q10x : (mHere tb sz at9).toInt ≠ 10 := fun q => b3x (Int32.toInt_inj.mp q)
      refine wq_gos (f := 1) (pc2 := 10) (ls2 := [(0, .ref 162)]) (st2 := [.ref 162]) (h2 := h) (dc2 := dc) (ds2 := ds) 1 rfl ?_
      refine wq_inlv (y2 := 156) (as := []) rfl rfl rfl hM rfl (wq_mono (m_here hM hT (by first | omega | assumption | decide | solve_by_elim) (by first | omega | assumption | decide | solve_by_elim)) ?_)
      rintro _ ⟨rfl, p011x⟩
      show wq 159 13 [(0, .ref 162)] [.int (mHere tb sz at9)] h dc ds _
      refine wq_gos (f := 1) (pc2 := 15) (ls2 := [(0, .ref 162)]) (st2 := [.int 32, .int (mHere tb sz at9)]) (h2 := h) (dc2 := dc) (ds2 := ds) 1 rfl ?_
      have q12x : (32 : Int32).toInt = 32 := rfl
      refine wq_ne2 rfl rfl (fun b13x => ?_) (fun b13x => ?_)
      · have q14x : (mHere tb sz at9).toInt ≠ 32 := fun q => b13x (Int32.toInt_inj.mp q)
        have hx : (mskF tb sz (m + 1) at9) = at9 := by show (if _ then _ else _) = _; rw [if_neg b3x, if_pos b13x]
        rw [hx] at kk
        refine wq_ls [(0, .ref 162)] (show ([0] : List Nat).Nodup by decide) ⟨rfl, trivial⟩ ?_
        exact kk h (wFr_rf _ _) (by omega) hM (by first | ((try dsimp only); omega) | assumption) (by first | ((try dsimp only); omega) | assumption)
      · have q15x : (mHere tb sz at9).toInt = 32 := congrArg Int32.toInt b13x
        refine wq_gos (f := 1) (pc2 := 20) (ls2 := [(0, .ref 162)]) (st2 := [.ref 162, .ref 162]) (h2 := h) (dc2 := dc) (ds2 := ds) 2 rfl ?_
        refine wq_getf rfl hM rfl rfl ?_
        refine wq_gos (f := 1) (pc2 := 25) (ls2 := [(0, .ref 162)]) (st2 := [.int ((nI at9) + (1 : Int32)), .ref 162]) (h2 := h) (dc2 := dc) (ds2 := ds) 2 rfl ?_
        rw [nI_1]
        refine wq_putf rfl hM rfl rfl rfl ?_
        intro h16x e17x f18x l19x
        have e17x : zat h16x 162 = some (.inr (.inr (.inr (10, mO n0 n2 n14 (nI sz) (nI (at9 + 1)) (nI pl) so va ft fp n22 n23 n27 n28 n32 n33 n34 n35 n39 n52)))) := e17x
        refine wq_gos (f := 1) (pc2 := 0) (ls2 := [(0, .ref 162)]) (st2 := []) (h2 := h16x) (dc2 := dc) (ds2 := ds) 1 rfl ?_
        have e20x := (f18x.2 _ _ (wnc (by decide) wn0) hT)
        have hx : (mskF tb sz (m + 1) at9) = (mskF tb sz m (at9 + 1)) := by show (if _ then _ else _) = _; rw [if_neg b3x, if_neg (fun q => q b13x)]
        rw [hx] at kk
        refine wq_ls [(0, .ref 162)] (show ([0] : List Nat).Nodup by decide) ⟨rfl, trivial⟩ ?_
        exact ih (at9 + 1) h16x e17x e20x (by first | omega | assumption | decide | solve_by_elim) (by omega) (fun h9 f9 l9 y0 y1 y2 => kk h9 (wFr_tr (wFr_sub f18x (by simp)) f9) (by omega) y0 y1 y2)
noncomputable def msmF (tb : List Int32) (sz : Nat) : Nat → Nat → Nat
  | 0, at9 => at9
  | m + 1, at9 => (if (mHere tb sz at9).toInt < (97 : Int32).toInt then at9 else (if (122 : Int32).toInt < (mHere tb sz at9).toInt then at9 else (msmF tb sz m (at9 + 1))))
set_option maxRecDepth 100000 in
set_option maxHeartbeats 4000000 in
theorem m_smL {n0 n2 n14 n22 n23 n27 n28 n32 n33 n34 n35 n39 n52 : Int32} {sz pl : Nat} {so va ft fp c9 : Int32} {tb : List Int32} {a0 : Nat} (hsz : sz ≤ 700) {dc ds : Nat} {Q : zR → Prop} : ∀ (m : Nat) (at9 : Nat) (h : zH) , (zat h 162 = some (.inr (.inr (.inr (10, mO n0 n2 n14 (nI sz) (nI at9) (nI pl) so va ft fp n22 n23 n27 n28 n32 n33 n34 n35 n39 n52))))) → (zat h 164 = some (.inl (0, 700, tb))) → (a0 ≤ at9 ∧ at9 ≤ sz) → (sz - at9) < m → (∀ (h2 : zH) , (wFr [162] h h2) → (h2.length = h.length) → (zat h2 162 = some (.inr (.inr (.inr (10, mO n0 n2 n14 (nI sz) (nI ((msmF tb sz m at9))) (nI pl) so va ft fp n22 n23 n27 n28 n32 n33 n34 n35 n39 n52))))) → ((a0 ≤ ((msmF tb sz m at9)))) → ((((msmF tb sz m at9)) ≤ sz)) → wq 159 87 [(0, .ref 162), (1, .int c9)] [] h2 dc ds Q) → wq 159 64 [(0, .ref 162), (1, .int c9)] [] h dc ds Q := by
  intro m
  induction m with
  | zero => intro at9 h hM hT ha hms kk; omega
  | succ m ih =>
    intro at9 h hM hT ha hms kk
    have zh := mHere_lt (tb := tb) hsz (show at9 ≤ sz by omega)
    have qnat9 := nI_toInt (n := at9) (by omega)
    have qnsz := nI_toInt (n := sz) (by omega)
    have zm1 : (-1 : Int32).toInt = -1 := rfl
    have z0 : (0 : Int32).toInt = 0 := rfl
    refine wq_gos (f := 1) (pc2 := 65) (ls2 := [(0, .ref 162), (1, .int c9)]) (st2 := [.ref 162]) (h2 := h) (dc2 := dc) (ds2 := ds) 1 rfl ?_
    refine wq_inlv (y2 := 156) (as := []) rfl rfl rfl hM rfl (wq_mono (m_here hM hT (by first | omega | assumption | decide | solve_by_elim) (by first | omega | assumption | decide | solve_by_elim)) ?_)
    rintro _ ⟨rfl, p01x⟩
    show wq 159 68 [(0, .ref 162), (1, .int c9)] [.int (mHere tb sz at9)] h dc ds _
    refine wq_inl (y2 := 157) (as := [.int (mHere tb sz at9)]) rfl rfl rfl ?_
    show wq 157 0 [(0, .int (mHere tb sz at9))] [] h 0 0 _
    refine wq_gos (f := 1) (pc2 := 3) (ls2 := [(0, .int (mHere tb sz at9))]) (st2 := [.int 97, .int (mHere tb sz at9)]) (h2 := h) (dc2 := 0) (ds2 := 0) 2 rfl ?_
    have q2x : (97 : Int32).toInt = 97 := rfl
    refine wq_lt2 rfl rfl (fun b3x => ?_) (fun b3x => ?_)
    · refine wq_gos (f := 1) (pc2 := 17) (ls2 := [(0, .int (mHere tb sz at9))]) (st2 := [.int 0]) (h2 := h) (dc2 := 0) (ds2 := 0) 1 rfl ?_
      refine wq_ret rfl rfl ?_
      show wq 159 71 [(0, .ref 162), (1, .int c9)] [.int 0] h dc ds _
      refine wq_gos (f := 1) (pc2 := 87) (ls2 := [(0, .ref 162), (1, .int c9)]) (st2 := []) (h2 := h) (dc2 := dc) (ds2 := ds) 1 rfl ?_
      have hx : (msmF tb sz (m + 1) at9) = at9 := by show (if _ then _ else _) = _; rw [if_pos b3x]
      rw [hx] at kk
      refine wq_ls [(0, .ref 162), (1, .int c9)] (show ([0, 1] : List Nat).Nodup by decide) ⟨rfl, rfl, trivial⟩ ?_
      exact kk h (wFr_rf _ _) (by omega) hM (by first | ((try dsimp only); omega) | assumption) (by first | ((try dsimp only); omega) | assumption)
    · refine wq_gos (f := 1) (pc2 := 9) (ls2 := [(0, .int (mHere tb sz at9))]) (st2 := [.int 122, .int (mHere tb sz at9)]) (h2 := h) (dc2 := 0) (ds2 := 0) 2 rfl ?_
      have q4x : (122 : Int32).toInt = 122 := rfl
      refine wq_gt2 rfl rfl (fun b5x => ?_) (fun b5x => ?_)
      · refine wq_gos (f := 1) (pc2 := 17) (ls2 := [(0, .int (mHere tb sz at9))]) (st2 := [.int 0]) (h2 := h) (dc2 := 0) (ds2 := 0) 1 rfl ?_
        refine wq_ret rfl rfl ?_
        show wq 159 71 [(0, .ref 162), (1, .int c9)] [.int 0] h dc ds _
        refine wq_gos (f := 1) (pc2 := 87) (ls2 := [(0, .ref 162), (1, .int c9)]) (st2 := []) (h2 := h) (dc2 := dc) (ds2 := ds) 1 rfl ?_
        have hx : (msmF tb sz (m + 1) at9) = at9 := by show (if _ then _ else _) = _; rw [if_neg (Int.not_lt.mpr b3x), if_pos b5x]
        rw [hx] at kk
        refine wq_ls [(0, .ref 162), (1, .int c9)] (show ([0, 1] : List Nat).Nodup by decide) ⟨rfl, rfl, trivial⟩ ?_
        exact kk h (wFr_rf _ _) (by omega) hM (by first | ((try dsimp only); omega) | assumption) (by first | ((try dsimp only); omega) | assumption)
      · refine wq_gos (f := 1) (pc2 := 17) (ls2 := [(0, .int (mHere tb sz at9))]) (st2 := [.int 1]) (h2 := h) (dc2 := 0) (ds2 := 0) 2 rfl ?_
        refine wq_ret rfl rfl ?_
        show wq 159 71 [(0, .ref 162), (1, .int c9)] [.int 1] h dc ds _
        refine wq_gos (f := 1) (pc2 := 76) (ls2 := [(0, .ref 162), (1, .int c9)]) (st2 := [.ref 162, .ref 162]) (h2 := h) (dc2 := dc) (ds2 := ds) 3 rfl ?_
        refine wq_getf rfl hM rfl rfl ?_
        refine wq_gos (f := 1) (pc2 := 81) (ls2 := [(0, .ref 162), (1, .int c9)]) (st2 := [.int ((nI at9) + (1 : Int32)), .ref 162]) (h2 := h) (dc2 := dc) (ds2 := ds) 2 rfl ?_
        rw [nI_1]
        refine wq_putf rfl hM rfl rfl rfl ?_
        intro h6x e7x f8x l9x
        have e7x : zat h6x 162 = some (.inr (.inr (.inr (10, mO n0 n2 n14 (nI sz) (nI (at9 + 1)) (nI pl) so va ft fp n22 n23 n27 n28 n32 n33 n34 n35 n39 n52)))) := e7x
        refine wq_gos (f := 1) (pc2 := 64) (ls2 := [(0, .ref 162), (1, .int c9)]) (st2 := []) (h2 := h6x) (dc2 := dc) (ds2 := ds) 1 rfl ?_
        have e10x := (f8x.2 _ _ (wnc (by decide) wn0) hT)
        have hx : (msmF tb sz (m + 1) at9) = (msmF tb sz m (at9 + 1)) := by show (if _ then _ else _) = _; rw [if_neg (Int.not_lt.mpr b3x), if_neg (Int.not_lt.mpr b5x)]
        rw [hx] at kk
        refine wq_ls [(0, .ref 162), (1, .int c9)] (show ([0, 1] : List Nat).Nodup by decide) ⟨rfl, rfl, trivial⟩ ?_
        exact ih (at9 + 1) h6x e7x e10x (by first | omega | assumption | decide | solve_by_elim) (by omega) (fun h9 f9 l9 y0 y1 y2 => kk h9 (wFr_tr (wFr_sub f8x (by simp)) f9) (by omega) y0 y1 y2)
noncomputable def mdgF (tb : List Int32) (sz : Nat) : Nat → Nat → Int32 → Nat × Int32
  | 0, at9, va => (at9, va)
  | m + 1, at9, va => (if (mHere tb sz at9).toInt < (48 : Int32).toInt then (at9, va) else (if (57 : Int32).toInt < (mHere tb sz at9).toInt then (at9, va) else (if va.toInt ≤ (99999 : Int32).toInt then (mdgF tb sz m (at9 + 1) ((((10 : Int32) * va) + (mHere tb sz at9)) - (48 : Int32))) else (mdgF tb sz m (at9 + 1) va))))
set_option maxRecDepth 100000 in
set_option maxHeartbeats 4000000 in
theorem m_dgL {n0 n2 n14 n22 n23 n27 n28 n32 n33 n34 n35 n39 n52 : Int32} {sz pl : Nat} {so ft fp : Int32} {tb : List Int32} {a0 : Nat} (hsz : sz ≤ 700) : ∀ (m : Nat) (at9 : Nat) (va : Int32) (h : zH) , (zat h 162 = some (.inr (.inr (.inr (10, mO n0 n2 n14 (nI sz) (nI at9) (nI pl) so va ft fp n22 n23 n27 n28 n32 n33 n34 n35 n39 n52))))) → (zat h 164 = some (.inl (0, 700, tb))) → (a0 ≤ at9 ∧ at9 ≤ sz) → (sz - at9) < m → ∀ (dc ds : Nat), wq 160 5 [(0, .ref 162)] [] h dc ds (fun rr9 => ∃ (h2 : zH) , rr9 = (none, h2, dc, ds) ∧ wFr [162] h h2 ∧ h2.length = h.length ∧ zat h2 162 = some (.inr (.inr (.inr (10, mO n0 n2 n14 (nI sz) (nI ((mdgF tb sz m at9 va).1)) (nI pl) so ((mdgF tb sz m at9 va).2) ft fp n22 n23 n27 n28 n32 n33 n34 n35 n39 n52)))) ∧ (a0 ≤ ((mdgF tb sz m at9 va).1)) ∧ (((mdgF tb sz m at9 va).1) ≤ sz)) := by
  intro m
  induction m with
  | zero => intro at9 va h hM hT ha hms dc ds; omega
  | succ m ih =>
    intro at9 va h hM hT ha hms dc ds
    have zh := mHere_lt (tb := tb) hsz (show at9 ≤ sz by omega)
    have qnat9 := nI_toInt (n := at9) (by omega)
    have qnsz := nI_toInt (n := sz) (by omega)
    have zm1 : (-1 : Int32).toInt = -1 := rfl
    have z0 : (0 : Int32).toInt = 0 := rfl
    refine wq_gos (f := 1) (pc2 := 6) (ls2 := [(0, .ref 162)]) (st2 := [.ref 162]) (h2 := h) (dc2 := dc) (ds2 := ds) 1 rfl ?_
    refine wq_inlv (y2 := 156) (as := []) rfl rfl rfl hM rfl (wq_mono (m_here hM hT (by first | omega | assumption | decide | solve_by_elim) (by first | omega | assumption | decide | solve_by_elim)) ?_)
    rintro _ ⟨rfl, p01x⟩
    show wq 160 9 [(0, .ref 162)] [.int (mHere tb sz at9)] h dc ds _
    refine wq_inl (y2 := 158) (as := [.int (mHere tb sz at9)]) rfl rfl rfl ?_
    show wq 158 0 [(0, .int (mHere tb sz at9))] [] h 0 0 _
    refine wq_gos (f := 1) (pc2 := 3) (ls2 := [(0, .int (mHere tb sz at9))]) (st2 := [.int 48, .int (mHere tb sz at9)]) (h2 := h) (dc2 := 0) (ds2 := 0) 2 rfl ?_
    have q2x : (48 : Int32).toInt = 48 := rfl
    refine wq_lt2 rfl rfl (fun b3x => ?_) (fun b3x => ?_)
    · refine wq_gos (f := 1) (pc2 := 17) (ls2 := [(0, .int (mHere tb sz at9))]) (st2 := [.int 0]) (h2 := h) (dc2 := 0) (ds2 := 0) 1 rfl ?_
      refine wq_ret rfl rfl ?_
      show wq 160 12 [(0, .ref 162)] [.int 0] h dc ds _
      refine wq_gos (f := 1) (pc2 := 63) (ls2 := [(0, .ref 162)]) (st2 := []) (h2 := h) (dc2 := dc) (ds2 := ds) 1 rfl ?_
      have hx : (mdgF tb sz (m + 1) at9 va) = (at9, va) := by show (if _ then _ else _) = _; rw [if_pos b3x]
      rw [hx]
      exact wq_ret rfl rfl ⟨h, rfl, (wFr_rf _ _), by omega, hM, (by (try dsimp only); omega), (by (try dsimp only); omega)⟩
    · refine wq_gos (f := 1) (pc2 := 9) (ls2 := [(0, .int (mHere tb sz at9))]) (st2 := [.int 57, .int (mHere tb sz at9)]) (h2 := h) (dc2 := 0) (ds2 := 0) 2 rfl ?_
      have q4x : (57 : Int32).toInt = 57 := rfl
      refine wq_gt2 rfl rfl (fun b5x => ?_) (fun b5x => ?_)
      · refine wq_gos (f := 1) (pc2 := 17) (ls2 := [(0, .int (mHere tb sz at9))]) (st2 := [.int 0]) (h2 := h) (dc2 := 0) (ds2 := 0) 1 rfl ?_
        refine wq_ret rfl rfl ?_
        show wq 160 12 [(0, .ref 162)] [.int 0] h dc ds _
        refine wq_gos (f := 1) (pc2 := 63) (ls2 := [(0, .ref 162)]) (st2 := []) (h2 := h) (dc2 := dc) (ds2 := ds) 1 rfl ?_
        have hx : (mdgF tb sz (m + 1) at9 va) = (at9, va) := by show (if _ then _ else _) = _; rw [if_neg (Int.not_lt.mpr b3x), if_pos b5x]
        rw [hx]
        exact wq_ret rfl rfl ⟨h, rfl, (wFr_rf _ _), by omega, hM, (by (try dsimp only); omega), (by (try dsimp only); omega)⟩
      · refine wq_gos (f := 1) (pc2 := 17) (ls2 := [(0, .int (mHere tb sz at9))]) (st2 := [.int 1]) (h2 := h) (dc2 := 0) (ds2 := 0) 2 rfl ?_
        refine wq_ret rfl rfl ?_
        show wq 160 12 [(0, .ref 162)] [.int 1] h dc ds _
        refine wq_gos (f := 1) (pc2 := 17) (ls2 := [(0, .ref 162)]) (st2 := [.ref 162, .ref 162]) (h2 := h) (dc2 := dc) (ds2 := ds) 3 rfl ?_
        refine wq_getf rfl hM rfl rfl ?_
        refine wq_gos (f := 1) (pc2 := 22) (ls2 := [(0, .ref 162)]) (st2 := [.int 99999, .int va, .ref 162]) (h2 := h) (dc2 := dc) (ds2 := ds) 1 rfl ?_
        have q6x : (99999 : Int32).toInt = 99999 := rfl
        refine wq_le2 rfl rfl (fun b7x => ?_) (fun b7x => ?_)
        · refine wq_gos (f := 1) (pc2 := 35) (ls2 := [(0, .ref 162)]) (st2 := [.ref 162, .int 10, .ref 162]) (h2 := h) (dc2 := dc) (ds2 := ds) 2 rfl ?_
          refine wq_getf rfl hM rfl rfl ?_
          refine wq_gos (f := 1) (pc2 := 40) (ls2 := [(0, .ref 162)]) (st2 := [.ref 162, .int ((10 : Int32) * va), .ref 162]) (h2 := h) (dc2 := dc) (ds2 := ds) 2 rfl ?_
          refine wq_inlv (y2 := 156) (as := []) rfl rfl rfl hM rfl (wq_mono (m_here hM hT (by first | omega | assumption | decide | solve_by_elim) (by first | omega | assumption | decide | solve_by_elim)) ?_)
          rintro _ ⟨rfl, p08x⟩
          show wq 160 43 [(0, .ref 162)] [.int (mHere tb sz at9), .int ((10 : Int32) * va), .ref 162] h dc ds _
          refine wq_gos (f := 1) (pc2 := 47) (ls2 := [(0, .ref 162)]) (st2 := [.int ((((10 : Int32) * va) + (mHere tb sz at9)) - (48 : Int32)), .ref 162]) (h2 := h) (dc2 := dc) (ds2 := ds) 3 rfl ?_
          refine wq_putf rfl hM rfl rfl rfl ?_
          intro h9x e10x f11x l12x
          have e10x : zat h9x 162 = some (.inr (.inr (.inr (10, mO n0 n2 n14 (nI sz) (nI at9) (nI pl) so ((((10 : Int32) * va) + (mHere tb sz at9)) - (48 : Int32)) ft fp n22 n23 n27 n28 n32 n33 n34 n35 n39 n52)))) := e10x
          refine wq_gos (f := 1) (pc2 := 52) (ls2 := [(0, .ref 162)]) (st2 := [.ref 162, .ref 162]) (h2 := h9x) (dc2 := dc) (ds2 := ds) 2 rfl ?_
          refine wq_getf rfl e10x rfl rfl ?_
          refine wq_gos (f := 1) (pc2 := 57) (ls2 := [(0, .ref 162)]) (st2 := [.int ((nI at9) + (1 : Int32)), .ref 162]) (h2 := h9x) (dc2 := dc) (ds2 := ds) 2 rfl ?_
          rw [nI_1]
          refine wq_putf rfl e10x rfl rfl rfl ?_
          intro h13x e14x f15x l16x
          have e14x : zat h13x 162 = some (.inr (.inr (.inr (10, mO n0 n2 n14 (nI sz) (nI (at9 + 1)) (nI pl) so ((((10 : Int32) * va) + (mHere tb sz at9)) - (48 : Int32)) ft fp n22 n23 n27 n28 n32 n33 n34 n35 n39 n52)))) := e14x
          refine wq_gos (f := 1) (pc2 := 5) (ls2 := [(0, .ref 162)]) (st2 := []) (h2 := h13x) (dc2 := dc) (ds2 := ds) 1 rfl ?_
          have e17x := (f15x.2 _ _ (wnc (by decide) wn0) (f11x.2 _ _ (wnc (by decide) wn0) hT))
          have hx : (mdgF tb sz (m + 1) at9 va) = (mdgF tb sz m (at9 + 1) ((((10 : Int32) * va) + (mHere tb sz at9)) - (48 : Int32))) := by show (if _ then _ else _) = _; rw [if_neg (Int.not_lt.mpr b3x), if_neg (Int.not_lt.mpr b5x), if_pos b7x]
          rw [hx]
          refine wq_ls [(0, .ref 162)] (show ([0] : List Nat).Nodup by decide) ⟨rfl, trivial⟩ ?_
          refine wq_mono (ih (at9 + 1) ((((10 : Int32) * va) + (mHere tb sz at9)) - (48 : Int32)) h13x e14x e17x (by first | omega | assumption | decide | solve_by_elim) (by omega) dc ds) ?_
          rintro _ ⟨h9, rfl, f9, l9, y0, y1, y2⟩
          exact ⟨h9, rfl, wFr_tr (wFr_tr (wFr_sub f11x (by simp)) (wFr_sub f15x (by simp))) f9, by omega, y0, y1, y2⟩
        · refine wq_gos (f := 1) (pc2 := 26) (ls2 := [(0, .ref 162)]) (st2 := [.ref 162, .ref 162]) (h2 := h) (dc2 := dc) (ds2 := ds) 1 rfl ?_
          refine wq_getf rfl hM rfl rfl ?_
          refine wq_gos (f := 1) (pc2 := 47) (ls2 := [(0, .ref 162)]) (st2 := [.int va, .ref 162]) (h2 := h) (dc2 := dc) (ds2 := ds) 1 rfl ?_
          refine wq_putf rfl hM rfl rfl rfl ?_
          intro h18x e19x f20x l21x
          have e19x : zat h18x 162 = some (.inr (.inr (.inr (10, mO n0 n2 n14 (nI sz) (nI at9) (nI pl) so va ft fp n22 n23 n27 n28 n32 n33 n34 n35 n39 n52)))) := e19x
          refine wq_gos (f := 1) (pc2 := 52) (ls2 := [(0, .ref 162)]) (st2 := [.ref 162, .ref 162]) (h2 := h18x) (dc2 := dc) (ds2 := ds) 2 rfl ?_
          refine wq_getf rfl e19x rfl rfl ?_
          refine wq_gos (f := 1) (pc2 := 57) (ls2 := [(0, .ref 162)]) (st2 := [.int ((nI at9) + (1 : Int32)), .ref 162]) (h2 := h18x) (dc2 := dc) (ds2 := ds) 2 rfl ?_
          rw [nI_1]
          refine wq_putf rfl e19x rfl rfl rfl ?_
          intro h22x e23x f24x l25x
          have e23x : zat h22x 162 = some (.inr (.inr (.inr (10, mO n0 n2 n14 (nI sz) (nI (at9 + 1)) (nI pl) so va ft fp n22 n23 n27 n28 n32 n33 n34 n35 n39 n52)))) := e23x
          refine wq_gos (f := 1) (pc2 := 5) (ls2 := [(0, .ref 162)]) (st2 := []) (h2 := h22x) (dc2 := dc) (ds2 := ds) 1 rfl ?_
          have e26x := (f24x.2 _ _ (wnc (by decide) wn0) (f20x.2 _ _ (wnc (by decide) wn0) hT))
          have hx : (mdgF tb sz (m + 1) at9 va) = (mdgF tb sz m (at9 + 1) va) := by show (if _ then _ else _) = _; rw [if_neg (Int.not_lt.mpr b3x), if_neg (Int.not_lt.mpr b5x), if_neg (Int.not_le.mpr b7x)]
          rw [hx]
          refine wq_ls [(0, .ref 162)] (show ([0] : List Nat).Nodup by decide) ⟨rfl, trivial⟩ ?_
          refine wq_mono (ih (at9 + 1) va h22x e23x e26x (by first | omega | assumption | decide | solve_by_elim) (by omega) dc ds) ?_
          rintro _ ⟨h9, rfl, f9, l9, y0, y1, y2⟩
          exact ⟨h9, rfl, wFr_tr (wFr_tr (wFr_sub f20x (by simp)) (wFr_sub f24x (by simp))) f9, by omega, y0, y1, y2⟩
noncomputable def mDig (tb : List Int32) (sz at9 : Nat) : Nat × Int32 := (((mdgF tb sz ((sz - at9) + 1) at9 (0 : Int32)).1), ((mdgF tb sz ((sz - at9) + 1) at9 (0 : Int32)).2))
set_option maxRecDepth 100000 in
set_option maxHeartbeats 4000000 in
theorem m_dig {h : zH} {n0 n2 n14 n22 n23 n27 n28 n32 n33 n34 n35 n39 n52 : Int32} {sz at9 pl : Nat} {so va ft fp : Int32} {tb : List Int32} {a0 : Nat} (hM : zat h 162 = some (.inr (.inr (.inr (10, mO n0 n2 n14 (nI sz) (nI at9) (nI pl) so va ft fp n22 n23 n27 n28 n32 n33 n34 n35 n39 n52))))) (hT : zat h 164 = some (.inl (0, 700, tb))) (hsz : sz ≤ 700) (ha : a0 ≤ at9 ∧ at9 ≤ sz) : wq 160 0 [(0, .ref 162)] [] h 0 0 (fun rr9 => ∃ (h2 : zH), rr9 = (none, h2, 0, 0) ∧ wFr [162] h h2 ∧ h2.length = h.length ∧ zat h2 162 = some (.inr (.inr (.inr (10, mO n0 n2 n14 (nI sz) (nI ((mDig tb sz at9).1)) (nI pl) so ((mDig tb sz at9).2) ft fp n22 n23 n27 n28 n32 n33 n34 n35 n39 n52)))) ∧ ((a0 ≤ ((mDig tb sz at9).1))) ∧ ((((mDig tb sz at9).1) ≤ sz))) := by
  refine wq_gos (f := 1) (pc2 := 2) (ls2 := [(0, .ref 162)]) (st2 := [.int 0, .ref 162]) (h2 := h) (dc2 := 0) (ds2 := 0) 2 rfl ?_
  refine wq_putf rfl hM rfl rfl rfl ?_
  intro h1x e2x f3x l4x
  have e2x : zat h1x 162 = some (.inr (.inr (.inr (10, mO n0 n2 n14 (nI sz) (nI at9) (nI pl) so (0 : Int32) ft fp n22 n23 n27 n28 n32 n33 n34 n35 n39 n52)))) := e2x
  have e5x := (f3x.2 _ _ (wnc (by decide) wn0) hT)
  refine wq_ls [(0, .ref 162)] (show ([0] : List Nat).Nodup by decide) ⟨rfl, trivial⟩ ?_
  refine wq_mono (m_dgL (by first | omega | assumption | decide | solve_by_elim) ((sz - at9) + 1) at9 (0 : Int32) h1x e2x e5x (by first | omega | assumption | decide | solve_by_elim) (by omega) 0 0) ?_
  rintro _ ⟨h86x, rfl, f86x, l86x, c06x, c16x, c26x⟩
  have hx : (mDig tb sz at9) = (((mdgF tb sz ((sz - at9) + 1) at9 (0 : Int32)).1), ((mdgF tb sz ((sz - at9) + 1) at9 (0 : Int32)).2)) := by unfold mDig; rfl
  rw [hx]
  exact ⟨h86x, rfl, (wFr_tr (wFr_sub f3x (by simp)) (wFr_sub f86x (by simp))), by omega, c06x, (by first | ((try dsimp only); omega) | assumption), (by first | ((try dsimp only); omega) | assumption)⟩
noncomputable def mnhF (tb : List Int32) (at9 pl : Nat) : Nat → Nat → Int32 → Int32
  | 0, _, va => va
  | m + 1, k, va => (if (6 : Int32).toInt ≤ (nI k).toInt then va else (if (nI at9).toInt ≤ (nI (pl + k)).toInt then (mnhF tb at9 pl m (k + 1) ((va <<< ((5 : Int32) &&& 31)) ||| (0 : Int32))) else (mnhF tb at9 pl m (k + 1) ((va <<< ((5 : Int32) &&& 31)) ||| (((tb.getD (pl + k) 0) - (97 : Int32)) + (1 : Int32))))))
set_option maxRecDepth 100000 in
set_option maxHeartbeats 4000000 in
theorem m_nhL {n0 n2 n14 n22 n23 n27 n28 n32 n33 n34 n35 n39 n52 : Int32} {sz at9 pl : Nat} {so ft fp : Int32} {tb : List Int32} (hsz : sz ≤ 700) (ha : at9 ≤ sz) (hp : pl ≤ 700) : ∀ (m : Nat) (k : Nat) (va : Int32) (h : zH) , (zat h 162 = some (.inr (.inr (.inr (10, mO n0 n2 n14 (nI sz) (nI at9) (nI pl) so va ft fp n22 n23 n27 n28 n32 n33 n34 n35 n39 n52))))) → (zat h 164 = some (.inl (0, 700, tb))) → (k ≤ 6) → (6 - k) < m → ∀ (dc ds : Nat), wq 162 7 [(0, .ref 162), (1, .int (nI k))] [] h dc ds (fun rr9 => ∃ (h2 : zH) , rr9 = (none, h2, dc, ds) ∧ wFr [162] h h2 ∧ h2.length = h.length ∧ zat h2 162 = some (.inr (.inr (.inr (10, mO n0 n2 n14 (nI sz) (nI at9) (nI pl) so ((mnhF tb at9 pl m k va)) ft fp n22 n23 n27 n28 n32 n33 n34 n35 n39 n52))))) := by
  intro m
  induction m with
  | zero => intro k va h hM hT hk hms dc ds; omega
  | succ m ih =>
    intro k va h hM hT hk hms dc ds
    have qnk := nI_toInt (n := k) (by omega)
    have qnat9 := nI_toInt (n := at9) (by omega)
    have qnpl := nI_toInt (n := pl) (by omega)
    have qnsz := nI_toInt (n := sz) (by omega)
    refine wq_gos (f := 1) (pc2 := 10) (ls2 := [(0, .ref 162), (1, .int (nI k))]) (st2 := [.int 6, .int (nI k)]) (h2 := h) (dc2 := dc) (ds2 := ds) 2 rfl ?_
    try have q1x := nI_toInt (n := k) (by omega)
    have q2x : (6 : Int32).toInt = 6 := rfl
    refine wq_ge2 rfl rfl (fun b3x => ?_) (fun b3x => ?_)
    · have hx : (mnhF tb at9 pl (m + 1) k va) = va := by show (if _ then _ else _) = _; rw [if_pos b3x]
      rw [hx]
      exact wq_ret rfl rfl ⟨h, rfl, (wFr_rf _ _), by omega, hM⟩
    · refine wq_gos (f := 1) (pc2 := 15) (ls2 := [(0, .ref 162), (1, .int (nI k))]) (st2 := [.ref 162, .ref 162]) (h2 := h) (dc2 := dc) (ds2 := ds) 2 rfl ?_
      refine wq_getf rfl hM rfl rfl ?_
      refine wq_gos (f := 1) (pc2 := 21) (ls2 := [(0, .ref 162), (1, .int (nI k))]) (st2 := [.ref 162, .int (va <<< ((5 : Int32) &&& 31)), .ref 162]) (h2 := h) (dc2 := dc) (ds2 := ds) 3 rfl ?_
      refine wq_getf rfl hM rfl rfl ?_
      refine wq_gos (f := 1) (pc2 := 26) (ls2 := [(0, .ref 162), (1, .int (nI k))]) (st2 := [.int ((nI pl) + (nI k)), .int (va <<< ((5 : Int32) &&& 31)), .ref 162]) (h2 := h) (dc2 := dc) (ds2 := ds) 2 rfl ?_
      refine wq_vi (show (nI pl) + (nI k) = nI (pl + k) from nI_add pl k) ?_
      refine wq_gos (f := 1) (pc2 := 27) (ls2 := [(0, .ref 162), (1, .int (nI k))]) (st2 := [.ref 162, .int (nI (pl + k)), .int (va <<< ((5 : Int32) &&& 31)), .ref 162]) (h2 := h) (dc2 := dc) (ds2 := ds) 1 rfl ?_
      refine wq_getf rfl hM rfl rfl ?_
      try have q4x := nI_toInt (n := (pl + k)) (by omega)
      try have q5x := nI_toInt (n := at9) (by omega)
      refine wq_ge2 rfl rfl (fun b6x => ?_) (fun b6x => ?_)
      · refine wq_gos (f := 1) (pc2 := 54) (ls2 := [(0, .ref 162), (1, .int (nI k))]) (st2 := [.int ((va <<< ((5 : Int32) &&& 31)) ||| (0 : Int32)), .ref 162]) (h2 := h) (dc2 := dc) (ds2 := ds) 2 rfl ?_
        refine wq_putf rfl hM rfl rfl rfl ?_
        intro h7x e8x f9x l10x
        have e8x : zat h7x 162 = some (.inr (.inr (.inr (10, mO n0 n2 n14 (nI sz) (nI at9) (nI pl) so ((va <<< ((5 : Int32) &&& 31)) ||| (0 : Int32)) ft fp n22 n23 n27 n28 n32 n33 n34 n35 n39 n52)))) := e8x
        refine wq_gos (f := 1) (pc2 := 60) (ls2 := [(1, .int ((nI k) + 1)), (0, .ref 162)]) (st2 := []) (h2 := h7x) (dc2 := dc) (ds2 := ds) 1 rfl ?_
        rw [nI_1]
        refine wq_gos (f := 1) (pc2 := 7) (ls2 := [(1, .int (nI (k + 1))), (0, .ref 162)]) (st2 := []) (h2 := h7x) (dc2 := dc) (ds2 := ds) 1 rfl ?_
        try have q11x := nI_toInt (n := (k + 1)) (by omega)
        have e12x := (f9x.2 _ _ (wnc (by decide) wn0) hT)
        have hx : (mnhF tb at9 pl (m + 1) k va) = (mnhF tb at9 pl m (k + 1) ((va <<< ((5 : Int32) &&& 31)) ||| (0 : Int32))) := by show (if _ then _ else _) = _; rw [if_neg (Int.not_le.mpr b3x), if_pos b6x]
        rw [hx]
        refine wq_ls [(0, .ref 162), (1, .int (nI (k + 1)))] (show ([0, 1] : List Nat).Nodup by decide) ⟨rfl, rfl, trivial⟩ ?_
        refine wq_mono (ih (k + 1) ((va <<< ((5 : Int32) &&& 31)) ||| (0 : Int32)) h7x e8x e12x (by first | omega | assumption | decide | solve_by_elim) (by omega) dc ds) ?_
        rintro _ ⟨h9, rfl, f9, l9, y0⟩
        exact ⟨h9, rfl, wFr_tr (wFr_sub f9x (by simp)) f9, by omega, y0⟩
      · refine wq_gos (f := 1) (pc2 := 34) (ls2 := [(0, .ref 162), (1, .int (nI k))]) (st2 := [.ref 162, .int (va <<< ((5 : Int32) &&& 31)), .ref 162]) (h2 := h) (dc2 := dc) (ds2 := ds) 1 rfl ?_
        refine wq_getf rfl hM rfl rfl ?_
        refine wq_gos (f := 1) (pc2 := 38) (ls2 := [(0, .ref 162), (1, .int (nI k))]) (st2 := [.ref 162, .ref 164, .int (va <<< ((5 : Int32) &&& 31)), .ref 162]) (h2 := h) (dc2 := dc) (ds2 := ds) 1 rfl ?_
        refine wq_getf rfl hM rfl rfl ?_
        refine wq_gos (f := 1) (pc2 := 43) (ls2 := [(0, .ref 162), (1, .int (nI k))]) (st2 := [.int ((nI pl) + (nI k)), .ref 164, .int (va <<< ((5 : Int32) &&& 31)), .ref 162]) (h2 := h) (dc2 := dc) (ds2 := ds) 2 rfl ?_
        refine wq_vi (show (nI pl) + (nI k) = nI (pl + k) from nI_add pl k) ?_
        refine wq_ialdn rfl hT (by first | omega | exact zin_t (by omega) (by omega)) (by decide) rfl ?_
        refine wq_gos (f := 1) (pc2 := 54) (ls2 := [(0, .ref 162), (1, .int (nI k))]) (st2 := [.int ((va <<< ((5 : Int32) &&& 31)) ||| (((tb.getD (pl + k) 0) - (97 : Int32)) + (1 : Int32))), .ref 162]) (h2 := h) (dc2 := dc) (ds2 := ds) 6 rfl ?_
        refine wq_putf rfl hM rfl rfl rfl ?_
        intro h13x e14x f15x l16x
        have e14x : zat h13x 162 = some (.inr (.inr (.inr (10, mO n0 n2 n14 (nI sz) (nI at9) (nI pl) so ((va <<< ((5 : Int32) &&& 31)) ||| (((tb.getD (pl + k) 0) - (97 : Int32)) + (1 : Int32))) ft fp n22 n23 n27 n28 n32 n33 n34 n35 n39 n52)))) := e14x
        refine wq_gos (f := 1) (pc2 := 60) (ls2 := [(1, .int ((nI k) + 1)), (0, .ref 162)]) (st2 := []) (h2 := h13x) (dc2 := dc) (ds2 := ds) 1 rfl ?_
        rw [nI_1]
        refine wq_gos (f := 1) (pc2 := 7) (ls2 := [(1, .int (nI (k + 1))), (0, .ref 162)]) (st2 := []) (h2 := h13x) (dc2 := dc) (ds2 := ds) 1 rfl ?_
        try have q17x := nI_toInt (n := (k + 1)) (by omega)
        have e18x := (f15x.2 _ _ (wnc (by decide) wn0) hT)
        have hx : (mnhF tb at9 pl (m + 1) k va) = (mnhF tb at9 pl m (k + 1) ((va <<< ((5 : Int32) &&& 31)) ||| (((tb.getD (pl + k) 0) - (97 : Int32)) + (1 : Int32)))) := by show (if _ then _ else _) = _; rw [if_neg (Int.not_le.mpr b3x), if_neg (Int.not_le.mpr b6x)]
        rw [hx]
        refine wq_ls [(0, .ref 162), (1, .int (nI (k + 1)))] (show ([0, 1] : List Nat).Nodup by decide) ⟨rfl, rfl, trivial⟩ ?_
        refine wq_mono (ih (k + 1) ((va <<< ((5 : Int32) &&& 31)) ||| (((tb.getD (pl + k) 0) - (97 : Int32)) + (1 : Int32))) h13x e14x e18x (by first | omega | assumption | decide | solve_by_elim) (by omega) dc ds) ?_
        rintro _ ⟨h9, rfl, f9, l9, y0⟩
        exact ⟨h9, rfl, wFr_tr (wFr_sub f15x (by simp)) f9, by omega, y0⟩
noncomputable def mNam (tb : List Int32) (at9 pl : Nat) : Int32 := ((mnhF tb at9 pl ((6 - 0) + 1) 0 (0 : Int32)))
set_option maxRecDepth 100000 in
set_option maxHeartbeats 4000000 in
theorem m_nam {h : zH} {n0 n2 n14 n22 n23 n27 n28 n32 n33 n34 n35 n39 n52 : Int32} {sz at9 pl : Nat} {so va ft fp : Int32} {tb : List Int32} (hM : zat h 162 = some (.inr (.inr (.inr (10, mO n0 n2 n14 (nI sz) (nI at9) (nI pl) so va ft fp n22 n23 n27 n28 n32 n33 n34 n35 n39 n52))))) (hT : zat h 164 = some (.inl (0, 700, tb))) (hsz : sz ≤ 700) (ha : at9 ≤ sz) (hp : pl ≤ 700) : wq 162 0 [(0, .ref 162)] [] h 0 0 (fun rr9 => ∃ (h2 : zH), rr9 = (none, h2, 0, 0) ∧ wFr [162] h h2 ∧ h2.length = h.length ∧ zat h2 162 = some (.inr (.inr (.inr (10, mO n0 n2 n14 (nI sz) (nI at9) (nI pl) so ((mNam tb at9 pl)) ft fp n22 n23 n27 n28 n32 n33 n34 n35 n39 n52))))) := by
  refine wq_gos (f := 1) (pc2 := 2) (ls2 := [(0, .ref 162)]) (st2 := [.int 0, .ref 162]) (h2 := h) (dc2 := 0) (ds2 := 0) 2 rfl ?_
  refine wq_putf rfl hM rfl rfl rfl ?_
  intro h1x e2x f3x l4x
  have e2x : zat h1x 162 = some (.inr (.inr (.inr (10, mO n0 n2 n14 (nI sz) (nI at9) (nI pl) so (0 : Int32) ft fp n22 n23 n27 n28 n32 n33 n34 n35 n39 n52)))) := e2x
  refine wq_gos (f := 1) (pc2 := 7) (ls2 := [(1, .int 0), (0, .ref 162)]) (st2 := []) (h2 := h1x) (dc2 := 0) (ds2 := 0) 2 rfl ?_
  have e5x := (f3x.2 _ _ (wnc (by decide) wn0) hT)
  refine wq_ls [(0, .ref 162), (1, .int (nI 0))] (show ([0, 1] : List Nat).Nodup by decide) ⟨rfl, rfl, trivial⟩ ?_
  refine wq_mono (m_nhL (by first | omega | assumption | decide | solve_by_elim) (by first | omega | assumption | decide | solve_by_elim) (by first | omega | assumption | decide | solve_by_elim) ((6 - 0) + 1) 0 (0 : Int32) h1x e2x e5x (by first | omega | assumption | decide | solve_by_elim) (by omega) 0 0) ?_
  rintro _ ⟨h86x, rfl, f86x, l86x, c06x⟩
  have hx : (mNam tb at9 pl) = ((mnhF tb at9 pl ((6 - 0) + 1) 0 (0 : Int32))) := by unfold mNam; rfl
  rw [hx]
  exact ⟨h86x, rfl, (wFr_tr (wFr_sub f3x (by simp)) (wFr_sub f86x (by simp))), by omega, c06x⟩
noncomputable def mWs0 (tb : List Int32) (at9 pl : Nat) : Nat := (if (nI at9).toInt ≤ (nI (pl + 0)).toInt then 0 else (if (tb.getD (pl + 0) 0) ≠ (108 : Int32) then 0 else (if (nI at9).toInt ≤ (nI (pl + 1)).toInt then 0 else (if (tb.getD (pl + 1) 0) ≠ (105 : Int32) then 0 else (if (nI at9).toInt ≤ (nI (pl + 2)).toInt then 0 else (if (tb.getD (pl + 2) 0) ≠ (110 : Int32) then 0 else (if (nI at9).toInt ≤ (nI (pl + 3)).toInt then 0 else (if (tb.getD (pl + 3) 0) ≠ (107 : Int32) then 0 else (if (nI (pl + 4)) ≠ (nI at9) then 0 else 1)))))))))
set_option maxRecDepth 100000 in
set_option maxHeartbeats 4000000 in
theorem m_w0 {h : zH} {Q : zR → Prop} {dc ds : Nat} {n0 n2 n14 n22 n23 n27 n28 n32 n33 n34 n35 n39 n52 : Int32} {sz at9 pl : Nat} {so va ft fp : Int32} {tb : List Int32} (hM : zat h 162 = some (.inr (.inr (.inr (10, mO n0 n2 n14 (nI sz) (nI at9) (nI pl) so va ft fp n22 n23 n27 n28 n32 n33 n34 n35 n39 n52))))) (hT : zat h 164 = some (.inl (0, 700, tb))) (hsz : sz ≤ 700) (ha : at9 ≤ sz) (hp : pl ≤ at9) (kN : ((mWs0 tb at9 pl) = 0) → wq 161 4 [(0, .ref 162), (1, .int 1), (2, .int 5)] [] h dc ds Q) (kR : ((mWs0 tb at9 pl) = 1) → Q (some (.int 0), h, dc, ds)) : wq 161 4 [(0, .ref 162), (1, .int 0), (2, .int 0)] [] h dc ds Q := by
  have qnat9 := nI_toInt (n := at9) (by omega)
  have qnpl := nI_toInt (n := pl) (by omega)
  have qp0 := nI_toInt (n := pl + 0) (by omega)
  have qp1 := nI_toInt (n := pl + 1) (by omega)
  have qp2 := nI_toInt (n := pl + 2) (by omega)
  have qp3 := nI_toInt (n := pl + 3) (by omega)
  have qp4 := nI_toInt (n := pl + 4) (by omega)
  have qp5 := nI_toInt (n := pl + 5) (by omega)
  have qp6 := nI_toInt (n := pl + 6) (by omega)
  have qp7 := nI_toInt (n := pl + 7) (by omega)
  refine wq_gos (f := 1) (pc2 := 5) (ls2 := [(0, .ref 162), (1, .int 0), (2, .int 0)]) (st2 := [.int 0]) (h2 := h) (dc2 := dc) (ds2 := ds) 1 rfl ?_
  refine wq_sp1 rfl rfl ?_
  refine wq_sp1 rfl rfl ?_
  refine wq_gos (f := 1) (pc2 := 15) (ls2 := [(3, .int 0), (0, .ref 162), (1, .int 0), (2, .int 0)]) (st2 := []) (h2 := h) (dc2 := dc) (ds2 := ds) 3 rfl ?_
  refine wq_sp1 rfl rfl ?_
  refine wq_gos (f := 1) (pc2 := 20) (ls2 := [(3, .int 0), (0, .ref 162), (1, .int 0), (2, .int 0)]) (st2 := [.int 0, .ref 13]) (h2 := h) (dc2 := dc) (ds2 := ds) 3 rfl ?_
  refine wq_sp1 rfl rfl ?_
  show wq 161 23 [(3, .int 0), (0, .ref 162), (1, .int 0), (2, .int 0)] [.int 108] h dc ds _
  refine wq_gos (f := 1) (pc2 := 29) (ls2 := [(3, .int 0), (0, .ref 162), (1, .int 0), (2, .int 0)]) (st2 := [.ref 162]) (h2 := h) (dc2 := dc) (ds2 := ds) 3 rfl ?_
  refine wq_getf rfl hM rfl rfl ?_
  refine wq_gos (f := 1) (pc2 := 34) (ls2 := [(3, .int 0), (0, .ref 162), (1, .int 0), (2, .int 0)]) (st2 := [.int ((nI pl) + (0 : Int32))]) (h2 := h) (dc2 := dc) (ds2 := ds) 2 rfl ?_
  refine wq_vi (show (nI pl) + (0 : Int32) = nI (pl + 0) from nI_add pl 0) ?_
  refine wq_gos (f := 1) (pc2 := 35) (ls2 := [(3, .int 0), (0, .ref 162), (1, .int 0), (2, .int 0)]) (st2 := [.ref 162, .int (nI (pl + 0))]) (h2 := h) (dc2 := dc) (ds2 := ds) 1 rfl ?_
  refine wq_getf rfl hM rfl rfl ?_
  try have q1x := nI_toInt (n := (pl + 0)) (by omega)
  try have q2x := nI_toInt (n := at9) (by omega)
  refine wq_ge2 rfl rfl (fun b3x => ?_) (fun b3x => ?_)
  · refine wq_sp1 rfl rfl ?_
    refine wq_gos (f := 1) (pc2 := 74) (ls2 := [(3, .int 0), (0, .ref 162), (1, .int 0), (2, .int 0)]) (st2 := [.int 0, .ref 13]) (h2 := h) (dc2 := dc) (ds2 := ds) 3 rfl ?_
    refine wq_sp1 rfl rfl ?_
    show wq 161 77 [(3, .int 0), (0, .ref 162), (1, .int 0), (2, .int 0)] [.int 108] h dc ds _
    refine wq_gos (f := 1) (pc2 := 97) (ls2 := [(3, .int 0), (0, .ref 162), (1, .int 0), (2, .int 0)]) (st2 := []) (h2 := h) (dc2 := dc) (ds2 := ds) 2 rfl ?_
    refine wq_sp1 rfl rfl ?_
    refine wq_gos (f := 1) (pc2 := 100) (ls2 := [(3, .int 0), (0, .ref 162), (1, .int 0), (2, .int 0)]) (st2 := [.int 0, .ref 13]) (h2 := h) (dc2 := dc) (ds2 := ds) 1 rfl ?_
    refine wq_sp1 rfl rfl ?_
    show wq 161 103 [(3, .int 0), (0, .ref 162), (1, .int 0), (2, .int 0)] [.int 108] h dc ds _
    refine wq_gos (f := 1) (pc2 := 97) (ls2 := [(2, .int 1), (3, .int 0), (0, .ref 162), (1, .int 0)]) (st2 := []) (h2 := h) (dc2 := dc) (ds2 := ds) 4 rfl ?_
    refine wq_sp1 rfl rfl ?_
    refine wq_gos (f := 1) (pc2 := 100) (ls2 := [(2, .int 1), (3, .int 0), (0, .ref 162), (1, .int 0)]) (st2 := [.int 1, .ref 13]) (h2 := h) (dc2 := dc) (ds2 := ds) 1 rfl ?_
    refine wq_sp1 rfl rfl ?_
    show wq 161 103 [(2, .int 1), (3, .int 0), (0, .ref 162), (1, .int 0)] [.int 105] h dc ds _
    refine wq_gos (f := 1) (pc2 := 97) (ls2 := [(2, .int 2), (3, .int 0), (0, .ref 162), (1, .int 0)]) (st2 := []) (h2 := h) (dc2 := dc) (ds2 := ds) 4 rfl ?_
    refine wq_sp1 rfl rfl ?_
    refine wq_gos (f := 1) (pc2 := 100) (ls2 := [(2, .int 2), (3, .int 0), (0, .ref 162), (1, .int 0)]) (st2 := [.int 2, .ref 13]) (h2 := h) (dc2 := dc) (ds2 := ds) 1 rfl ?_
    refine wq_sp1 rfl rfl ?_
    show wq 161 103 [(2, .int 2), (3, .int 0), (0, .ref 162), (1, .int 0)] [.int 110] h dc ds _
    refine wq_gos (f := 1) (pc2 := 97) (ls2 := [(2, .int 3), (3, .int 0), (0, .ref 162), (1, .int 0)]) (st2 := []) (h2 := h) (dc2 := dc) (ds2 := ds) 4 rfl ?_
    refine wq_sp1 rfl rfl ?_
    refine wq_gos (f := 1) (pc2 := 100) (ls2 := [(2, .int 3), (3, .int 0), (0, .ref 162), (1, .int 0)]) (st2 := [.int 3, .ref 13]) (h2 := h) (dc2 := dc) (ds2 := ds) 1 rfl ?_
    refine wq_sp1 rfl rfl ?_
    show wq 161 103 [(2, .int 3), (3, .int 0), (0, .ref 162), (1, .int 0)] [.int 107] h dc ds _
    refine wq_gos (f := 1) (pc2 := 97) (ls2 := [(2, .int 4), (3, .int 0), (0, .ref 162), (1, .int 0)]) (st2 := []) (h2 := h) (dc2 := dc) (ds2 := ds) 4 rfl ?_
    refine wq_sp1 rfl rfl ?_
    refine wq_gos (f := 1) (pc2 := 100) (ls2 := [(2, .int 4), (3, .int 0), (0, .ref 162), (1, .int 0)]) (st2 := [.int 4, .ref 13]) (h2 := h) (dc2 := dc) (ds2 := ds) 1 rfl ?_
    refine wq_sp1 rfl rfl ?_
    show wq 161 103 [(2, .int 4), (3, .int 0), (0, .ref 162), (1, .int 0)] [.int 32] h dc ds _
    refine wq_gos (f := 1) (pc2 := 4) (ls2 := [(1, .int 1), (2, .int 5), (3, .int 0), (0, .ref 162)]) (st2 := []) (h2 := h) (dc2 := dc) (ds2 := ds) 5 rfl ?_
    refine wq_ls [(0, .ref 162), (1, .int 1), (2, .int 5)] (show ([0, 1, 2] : List Nat).Nodup by decide) ⟨rfl, rfl, rfl, trivial⟩ ?_
    exact kN (by unfold mWs0; rw [if_pos b3x])
  · refine wq_gos (f := 1) (pc2 := 42) (ls2 := [(3, .int 0), (0, .ref 162), (1, .int 0), (2, .int 0)]) (st2 := [.ref 162]) (h2 := h) (dc2 := dc) (ds2 := ds) 1 rfl ?_
    refine wq_getf rfl hM rfl rfl ?_
    refine wq_gos (f := 1) (pc2 := 46) (ls2 := [(3, .int 0), (0, .ref 162), (1, .int 0), (2, .int 0)]) (st2 := [.ref 162, .ref 164]) (h2 := h) (dc2 := dc) (ds2 := ds) 1 rfl ?_
    refine wq_getf rfl hM rfl rfl ?_
    refine wq_gos (f := 1) (pc2 := 51) (ls2 := [(3, .int 0), (0, .ref 162), (1, .int 0), (2, .int 0)]) (st2 := [.int ((nI pl) + (0 : Int32)), .ref 164]) (h2 := h) (dc2 := dc) (ds2 := ds) 2 rfl ?_
    refine wq_vi (show (nI pl) + (0 : Int32) = nI (pl + 0) from nI_add pl 0) ?_
    refine wq_ialdn rfl hT (by first | omega | exact zin_t (by omega) (by omega)) (by decide) rfl ?_
    refine wq_sp1 rfl rfl ?_
    refine wq_gos (f := 1) (pc2 := 57) (ls2 := [(3, .int 0), (0, .ref 162), (1, .int 0), (2, .int 0)]) (st2 := [.int 0, .ref 13, .int (tb.getD (pl + 0) 0)]) (h2 := h) (dc2 := dc) (ds2 := ds) 3 rfl ?_
    refine wq_sp1 rfl rfl ?_
    show wq 161 60 [(3, .int 0), (0, .ref 162), (1, .int 0), (2, .int 0)] [.int 108, .int (tb.getD (pl + 0) 0)] h dc ds _
    have q4x : (108 : Int32).toInt = 108 := rfl
    refine wq_ne2 rfl rfl (fun b5x => ?_) (fun b5x => ?_)
    · have q6x : (tb.getD (pl + 0) 0).toInt ≠ 108 := fun q => b5x (Int32.toInt_inj.mp q)
      refine wq_sp1 rfl rfl ?_
      refine wq_gos (f := 1) (pc2 := 74) (ls2 := [(3, .int 0), (0, .ref 162), (1, .int 0), (2, .int 0)]) (st2 := [.int 0, .ref 13]) (h2 := h) (dc2 := dc) (ds2 := ds) 3 rfl ?_
      refine wq_sp1 rfl rfl ?_
      show wq 161 77 [(3, .int 0), (0, .ref 162), (1, .int 0), (2, .int 0)] [.int 108] h dc ds _
      refine wq_gos (f := 1) (pc2 := 97) (ls2 := [(3, .int 0), (0, .ref 162), (1, .int 0), (2, .int 0)]) (st2 := []) (h2 := h) (dc2 := dc) (ds2 := ds) 2 rfl ?_
      refine wq_sp1 rfl rfl ?_
      refine wq_gos (f := 1) (pc2 := 100) (ls2 := [(3, .int 0), (0, .ref 162), (1, .int 0), (2, .int 0)]) (st2 := [.int 0, .ref 13]) (h2 := h) (dc2 := dc) (ds2 := ds) 1 rfl ?_
      refine wq_sp1 rfl rfl ?_
      show wq 161 103 [(3, .int 0), (0, .ref 162), (1, .int 0), (2, .int 0)] [.int 108] h dc ds _
      refine wq_gos (f := 1) (pc2 := 97) (ls2 := [(2, .int 1), (3, .int 0), (0, .ref 162), (1, .int 0)]) (st2 := []) (h2 := h) (dc2 := dc) (ds2 := ds) 4 rfl ?_
      refine wq_sp1 rfl rfl ?_
      refine wq_gos (f := 1) (pc2 := 100) (ls2 := [(2, .int 1), (3, .int 0), (0, .ref 162), (1, .int 0)]) (st2 := [.int 1, .ref 13]) (h2 := h) (dc2 := dc) (ds2 := ds) 1 rfl ?_
      refine wq_sp1 rfl rfl ?_
      show wq 161 103 [(2, .int 1), (3, .int 0), (0, .ref 162), (1, .int 0)] [.int 105] h dc ds _
      refine wq_gos (f := 1) (pc2 := 97) (ls2 := [(2, .int 2), (3, .int 0), (0, .ref 162), (1, .int 0)]) (st2 := []) (h2 := h) (dc2 := dc) (ds2 := ds) 4 rfl ?_
      refine wq_sp1 rfl rfl ?_
      refine wq_gos (f := 1) (pc2 := 100) (ls2 := [(2, .int 2), (3, .int 0), (0, .ref 162), (1, .int 0)]) (st2 := [.int 2, .ref 13]) (h2 := h) (dc2 := dc) (ds2 := ds) 1 rfl ?_
      refine wq_sp1 rfl rfl ?_
      show wq 161 103 [(2, .int 2), (3, .int 0), (0, .ref 162), (1, .int 0)] [.int 110] h dc ds _
      refine wq_gos (f := 1) (pc2 := 97) (ls2 := [(2, .int 3), (3, .int 0), (0, .ref 162), (1, .int 0)]) (st2 := []) (h2 := h) (dc2 := dc) (ds2 := ds) 4 rfl ?_
      refine wq_sp1 rfl rfl ?_
      refine wq_gos (f := 1) (pc2 := 100) (ls2 := [(2, .int 3), (3, .int 0), (0, .ref 162), (1, .int 0)]) (st2 := [.int 3, .ref 13]) (h2 := h) (dc2 := dc) (ds2 := ds) 1 rfl ?_
      refine wq_sp1 rfl rfl ?_
      show wq 161 103 [(2, .int 3), (3, .int 0), (0, .ref 162), (1, .int 0)] [.int 107] h dc ds _
      refine wq_gos (f := 1) (pc2 := 97) (ls2 := [(2, .int 4), (3, .int 0), (0, .ref 162), (1, .int 0)]) (st2 := []) (h2 := h) (dc2 := dc) (ds2 := ds) 4 rfl ?_
      refine wq_sp1 rfl rfl ?_
      refine wq_gos (f := 1) (pc2 := 100) (ls2 := [(2, .int 4), (3, .int 0), (0, .ref 162), (1, .int 0)]) (st2 := [.int 4, .ref 13]) (h2 := h) (dc2 := dc) (ds2 := ds) 1 rfl ?_
      refine wq_sp1 rfl rfl ?_
      show wq 161 103 [(2, .int 4), (3, .int 0), (0, .ref 162), (1, .int 0)] [.int 32] h dc ds _
      refine wq_gos (f := 1) (pc2 := 4) (ls2 := [(1, .int 1), (2, .int 5), (3, .int 0), (0, .ref 162)]) (st2 := []) (h2 := h) (dc2 := dc) (ds2 := ds) 5 rfl ?_
      refine wq_ls [(0, .ref 162), (1, .int 1), (2, .int 5)] (show ([0, 1, 2] : List Nat).Nodup by decide) ⟨rfl, rfl, rfl, trivial⟩ ?_
      exact kN (by unfold mWs0; rw [if_neg (Int.not_le.mpr b3x), if_pos b5x])
    · have q7x : (tb.getD (pl + 0) 0).toInt = 108 := congrArg Int32.toInt b5x
      refine wq_gos (f := 1) (pc2 := 15) (ls2 := [(3, .int 1), (0, .ref 162), (1, .int 0), (2, .int 0)]) (st2 := []) (h2 := h) (dc2 := dc) (ds2 := ds) 2 rfl ?_
      refine wq_sp1 rfl rfl ?_
      refine wq_gos (f := 1) (pc2 := 20) (ls2 := [(3, .int 1), (0, .ref 162), (1, .int 0), (2, .int 0)]) (st2 := [.int 1, .ref 13]) (h2 := h) (dc2 := dc) (ds2 := ds) 3 rfl ?_
      refine wq_sp1 rfl rfl ?_
      show wq 161 23 [(3, .int 1), (0, .ref 162), (1, .int 0), (2, .int 0)] [.int 105] h dc ds _
      refine wq_gos (f := 1) (pc2 := 29) (ls2 := [(3, .int 1), (0, .ref 162), (1, .int 0), (2, .int 0)]) (st2 := [.ref 162]) (h2 := h) (dc2 := dc) (ds2 := ds) 3 rfl ?_
      refine wq_getf rfl hM rfl rfl ?_
      refine wq_gos (f := 1) (pc2 := 34) (ls2 := [(3, .int 1), (0, .ref 162), (1, .int 0), (2, .int 0)]) (st2 := [.int ((nI pl) + (1 : Int32))]) (h2 := h) (dc2 := dc) (ds2 := ds) 2 rfl ?_
      refine wq_vi (show (nI pl) + (1 : Int32) = nI (pl + 1) from nI_add pl 1) ?_
      refine wq_gos (f := 1) (pc2 := 35) (ls2 := [(3, .int 1), (0, .ref 162), (1, .int 0), (2, .int 0)]) (st2 := [.ref 162, .int (nI (pl + 1))]) (h2 := h) (dc2 := dc) (ds2 := ds) 1 rfl ?_
      refine wq_getf rfl hM rfl rfl ?_
      try have q8x := nI_toInt (n := (pl + 1)) (by omega)
      refine wq_ge2 rfl rfl (fun b9x => ?_) (fun b9x => ?_)
      · refine wq_sp1 rfl rfl ?_
        refine wq_gos (f := 1) (pc2 := 74) (ls2 := [(3, .int 1), (0, .ref 162), (1, .int 0), (2, .int 0)]) (st2 := [.int 1, .ref 13]) (h2 := h) (dc2 := dc) (ds2 := ds) 3 rfl ?_
        refine wq_sp1 rfl rfl ?_
        show wq 161 77 [(3, .int 1), (0, .ref 162), (1, .int 0), (2, .int 0)] [.int 105] h dc ds _
        refine wq_gos (f := 1) (pc2 := 97) (ls2 := [(3, .int 1), (0, .ref 162), (1, .int 0), (2, .int 0)]) (st2 := []) (h2 := h) (dc2 := dc) (ds2 := ds) 2 rfl ?_
        refine wq_sp1 rfl rfl ?_
        refine wq_gos (f := 1) (pc2 := 100) (ls2 := [(3, .int 1), (0, .ref 162), (1, .int 0), (2, .int 0)]) (st2 := [.int 0, .ref 13]) (h2 := h) (dc2 := dc) (ds2 := ds) 1 rfl ?_
        refine wq_sp1 rfl rfl ?_
        show wq 161 103 [(3, .int 1), (0, .ref 162), (1, .int 0), (2, .int 0)] [.int 108] h dc ds _
        refine wq_gos (f := 1) (pc2 := 97) (ls2 := [(2, .int 1), (3, .int 1), (0, .ref 162), (1, .int 0)]) (st2 := []) (h2 := h) (dc2 := dc) (ds2 := ds) 4 rfl ?_
        refine wq_sp1 rfl rfl ?_
        refine wq_gos (f := 1) (pc2 := 100) (ls2 := [(2, .int 1), (3, .int 1), (0, .ref 162), (1, .int 0)]) (st2 := [.int 1, .ref 13]) (h2 := h) (dc2 := dc) (ds2 := ds) 1 rfl ?_
        refine wq_sp1 rfl rfl ?_
        show wq 161 103 [(2, .int 1), (3, .int 1), (0, .ref 162), (1, .int 0)] [.int 105] h dc ds _
        refine wq_gos (f := 1) (pc2 := 97) (ls2 := [(2, .int 2), (3, .int 1), (0, .ref 162), (1, .int 0)]) (st2 := []) (h2 := h) (dc2 := dc) (ds2 := ds) 4 rfl ?_
        refine wq_sp1 rfl rfl ?_
        refine wq_gos (f := 1) (pc2 := 100) (ls2 := [(2, .int 2), (3, .int 1), (0, .ref 162), (1, .int 0)]) (st2 := [.int 2, .ref 13]) (h2 := h) (dc2 := dc) (ds2 := ds) 1 rfl ?_
        refine wq_sp1 rfl rfl ?_
        show wq 161 103 [(2, .int 2), (3, .int 1), (0, .ref 162), (1, .int 0)] [.int 110] h dc ds _
        refine wq_gos (f := 1) (pc2 := 97) (ls2 := [(2, .int 3), (3, .int 1), (0, .ref 162), (1, .int 0)]) (st2 := []) (h2 := h) (dc2 := dc) (ds2 := ds) 4 rfl ?_
        refine wq_sp1 rfl rfl ?_
        refine wq_gos (f := 1) (pc2 := 100) (ls2 := [(2, .int 3), (3, .int 1), (0, .ref 162), (1, .int 0)]) (st2 := [.int 3, .ref 13]) (h2 := h) (dc2 := dc) (ds2 := ds) 1 rfl ?_
        refine wq_sp1 rfl rfl ?_
        show wq 161 103 [(2, .int 3), (3, .int 1), (0, .ref 162), (1, .int 0)] [.int 107] h dc ds _
        refine wq_gos (f := 1) (pc2 := 97) (ls2 := [(2, .int 4), (3, .int 1), (0, .ref 162), (1, .int 0)]) (st2 := []) (h2 := h) (dc2 := dc) (ds2 := ds) 4 rfl ?_
        refine wq_sp1 rfl rfl ?_
        refine wq_gos (f := 1) (pc2 := 100) (ls2 := [(2, .int 4), (3, .int 1), (0, .ref 162), (1, .int 0)]) (st2 := [.int 4, .ref 13]) (h2 := h) (dc2 := dc) (ds2 := ds) 1 rfl ?_
        refine wq_sp1 rfl rfl ?_
        show wq 161 103 [(2, .int 4), (3, .int 1), (0, .ref 162), (1, .int 0)] [.int 32] h dc ds _
        refine wq_gos (f := 1) (pc2 := 4) (ls2 := [(1, .int 1), (2, .int 5), (3, .int 1), (0, .ref 162)]) (st2 := []) (h2 := h) (dc2 := dc) (ds2 := ds) 5 rfl ?_
        refine wq_ls [(0, .ref 162), (1, .int 1), (2, .int 5)] (show ([0, 1, 2] : List Nat).Nodup by decide) ⟨rfl, rfl, rfl, trivial⟩ ?_
        exact kN (by unfold mWs0; rw [if_neg (Int.not_le.mpr b3x), if_neg (fun q => q b5x), if_pos b9x])
      · refine wq_gos (f := 1) (pc2 := 42) (ls2 := [(3, .int 1), (0, .ref 162), (1, .int 0), (2, .int 0)]) (st2 := [.ref 162]) (h2 := h) (dc2 := dc) (ds2 := ds) 1 rfl ?_
        refine wq_getf rfl hM rfl rfl ?_
        refine wq_gos (f := 1) (pc2 := 46) (ls2 := [(3, .int 1), (0, .ref 162), (1, .int 0), (2, .int 0)]) (st2 := [.ref 162, .ref 164]) (h2 := h) (dc2 := dc) (ds2 := ds) 1 rfl ?_
        refine wq_getf rfl hM rfl rfl ?_
        refine wq_gos (f := 1) (pc2 := 51) (ls2 := [(3, .int 1), (0, .ref 162), (1, .int 0), (2, .int 0)]) (st2 := [.int ((nI pl) + (1 : Int32)), .ref 164]) (h2 := h) (dc2 := dc) (ds2 := ds) 2 rfl ?_
        refine wq_vi (show (nI pl) + (1 : Int32) = nI (pl + 1) from nI_add pl 1) ?_
        refine wq_ialdn rfl hT (by first | omega | exact zin_t (by omega) (by omega)) (by decide) rfl ?_
        refine wq_sp1 rfl rfl ?_
        refine wq_gos (f := 1) (pc2 := 57) (ls2 := [(3, .int 1), (0, .ref 162), (1, .int 0), (2, .int 0)]) (st2 := [.int 1, .ref 13, .int (tb.getD (pl + 1) 0)]) (h2 := h) (dc2 := dc) (ds2 := ds) 3 rfl ?_
        refine wq_sp1 rfl rfl ?_
        show wq 161 60 [(3, .int 1), (0, .ref 162), (1, .int 0), (2, .int 0)] [.int 105, .int (tb.getD (pl + 1) 0)] h dc ds _
        have q10x : (105 : Int32).toInt = 105 := rfl
        refine wq_ne2 rfl rfl (fun b11x => ?_) (fun b11x => ?_)
        · have q12x : (tb.getD (pl + 1) 0).toInt ≠ 105 := fun q => b11x (Int32.toInt_inj.mp q)
          refine wq_sp1 rfl rfl ?_
          refine wq_gos (f := 1) (pc2 := 74) (ls2 := [(3, .int 1), (0, .ref 162), (1, .int 0), (2, .int 0)]) (st2 := [.int 1, .ref 13]) (h2 := h) (dc2 := dc) (ds2 := ds) 3 rfl ?_
          refine wq_sp1 rfl rfl ?_
          show wq 161 77 [(3, .int 1), (0, .ref 162), (1, .int 0), (2, .int 0)] [.int 105] h dc ds _
          refine wq_gos (f := 1) (pc2 := 97) (ls2 := [(3, .int 1), (0, .ref 162), (1, .int 0), (2, .int 0)]) (st2 := []) (h2 := h) (dc2 := dc) (ds2 := ds) 2 rfl ?_
          refine wq_sp1 rfl rfl ?_
          refine wq_gos (f := 1) (pc2 := 100) (ls2 := [(3, .int 1), (0, .ref 162), (1, .int 0), (2, .int 0)]) (st2 := [.int 0, .ref 13]) (h2 := h) (dc2 := dc) (ds2 := ds) 1 rfl ?_
          refine wq_sp1 rfl rfl ?_
          show wq 161 103 [(3, .int 1), (0, .ref 162), (1, .int 0), (2, .int 0)] [.int 108] h dc ds _
          refine wq_gos (f := 1) (pc2 := 97) (ls2 := [(2, .int 1), (3, .int 1), (0, .ref 162), (1, .int 0)]) (st2 := []) (h2 := h) (dc2 := dc) (ds2 := ds) 4 rfl ?_
          refine wq_sp1 rfl rfl ?_
          refine wq_gos (f := 1) (pc2 := 100) (ls2 := [(2, .int 1), (3, .int 1), (0, .ref 162), (1, .int 0)]) (st2 := [.int 1, .ref 13]) (h2 := h) (dc2 := dc) (ds2 := ds) 1 rfl ?_
          refine wq_sp1 rfl rfl ?_
          show wq 161 103 [(2, .int 1), (3, .int 1), (0, .ref 162), (1, .int 0)] [.int 105] h dc ds _
          refine wq_gos (f := 1) (pc2 := 97) (ls2 := [(2, .int 2), (3, .int 1), (0, .ref 162), (1, .int 0)]) (st2 := []) (h2 := h) (dc2 := dc) (ds2 := ds) 4 rfl ?_
          refine wq_sp1 rfl rfl ?_
          refine wq_gos (f := 1) (pc2 := 100) (ls2 := [(2, .int 2), (3, .int 1), (0, .ref 162), (1, .int 0)]) (st2 := [.int 2, .ref 13]) (h2 := h) (dc2 := dc) (ds2 := ds) 1 rfl ?_
          refine wq_sp1 rfl rfl ?_
          show wq 161 103 [(2, .int 2), (3, .int 1), (0, .ref 162), (1, .int 0)] [.int 110] h dc ds _
          refine wq_gos (f := 1) (pc2 := 97) (ls2 := [(2, .int 3), (3, .int 1), (0, .ref 162), (1, .int 0)]) (st2 := []) (h2 := h) (dc2 := dc) (ds2 := ds) 4 rfl ?_
          refine wq_sp1 rfl rfl ?_
          refine wq_gos (f := 1) (pc2 := 100) (ls2 := [(2, .int 3), (3, .int 1), (0, .ref 162), (1, .int 0)]) (st2 := [.int 3, .ref 13]) (h2 := h) (dc2 := dc) (ds2 := ds) 1 rfl ?_
          refine wq_sp1 rfl rfl ?_
          show wq 161 103 [(2, .int 3), (3, .int 1), (0, .ref 162), (1, .int 0)] [.int 107] h dc ds _
          refine wq_gos (f := 1) (pc2 := 97) (ls2 := [(2, .int 4), (3, .int 1), (0, .ref 162), (1, .int 0)]) (st2 := []) (h2 := h) (dc2 := dc) (ds2 := ds) 4 rfl ?_
          refine wq_sp1 rfl rfl ?_
          refine wq_gos (f := 1) (pc2 := 100) (ls2 := [(2, .int 4), (3, .int 1), (0, .ref 162), (1, .int 0)]) (st2 := [.int 4, .ref 13]) (h2 := h) (dc2 := dc) (ds2 := ds) 1 rfl ?_
          refine wq_sp1 rfl rfl ?_
          show wq 161 103 [(2, .int 4), (3, .int 1), (0, .ref 162), (1, .int 0)] [.int 32] h dc ds _
          refine wq_gos (f := 1) (pc2 := 4) (ls2 := [(1, .int 1), (2, .int 5), (3, .int 1), (0, .ref 162)]) (st2 := []) (h2 := h) (dc2 := dc) (ds2 := ds) 5 rfl ?_
          refine wq_ls [(0, .ref 162), (1, .int 1), (2, .int 5)] (show ([0, 1, 2] : List Nat).Nodup by decide) ⟨rfl, rfl, rfl, trivial⟩ ?_
          exact kN (by unfold mWs0; rw [if_neg (Int.not_le.mpr b3x), if_neg (fun q => q b5x), if_neg (Int.not_le.mpr b9x), if_pos b11x])
        · have q13x : (tb.getD (pl + 1) 0).toInt = 105 := congrArg Int32.toInt b11x
          refine wq_gos (f := 1) (pc2 := 15) (ls2 := [(3, .int 2), (0, .ref 162), (1, .int 0), (2, .int 0)]) (st2 := []) (h2 := h) (dc2 := dc) (ds2 := ds) 2 rfl ?_
          refine wq_sp1 rfl rfl ?_
          refine wq_gos (f := 1) (pc2 := 20) (ls2 := [(3, .int 2), (0, .ref 162), (1, .int 0), (2, .int 0)]) (st2 := [.int 2, .ref 13]) (h2 := h) (dc2 := dc) (ds2 := ds) 3 rfl ?_
          refine wq_sp1 rfl rfl ?_
          show wq 161 23 [(3, .int 2), (0, .ref 162), (1, .int 0), (2, .int 0)] [.int 110] h dc ds _
          refine wq_gos (f := 1) (pc2 := 29) (ls2 := [(3, .int 2), (0, .ref 162), (1, .int 0), (2, .int 0)]) (st2 := [.ref 162]) (h2 := h) (dc2 := dc) (ds2 := ds) 3 rfl ?_
          refine wq_getf rfl hM rfl rfl ?_
          refine wq_gos (f := 1) (pc2 := 34) (ls2 := [(3, .int 2), (0, .ref 162), (1, .int 0), (2, .int 0)]) (st2 := [.int ((nI pl) + (2 : Int32))]) (h2 := h) (dc2 := dc) (ds2 := ds) 2 rfl ?_
          refine wq_vi (show (nI pl) + (2 : Int32) = nI (pl + 2) from nI_add pl 2) ?_
          refine wq_gos (f := 1) (pc2 := 35) (ls2 := [(3, .int 2), (0, .ref 162), (1, .int 0), (2, .int 0)]) (st2 := [.ref 162, .int (nI (pl + 2))]) (h2 := h) (dc2 := dc) (ds2 := ds) 1 rfl ?_
          refine wq_getf rfl hM rfl rfl ?_
          try have q14x := nI_toInt (n := (pl + 2)) (by omega)
          refine wq_ge2 rfl rfl (fun b15x => ?_) (fun b15x => ?_)
          · refine wq_sp1 rfl rfl ?_
            refine wq_gos (f := 1) (pc2 := 74) (ls2 := [(3, .int 2), (0, .ref 162), (1, .int 0), (2, .int 0)]) (st2 := [.int 2, .ref 13]) (h2 := h) (dc2 := dc) (ds2 := ds) 3 rfl ?_
            refine wq_sp1 rfl rfl ?_
            show wq 161 77 [(3, .int 2), (0, .ref 162), (1, .int 0), (2, .int 0)] [.int 110] h dc ds _
            refine wq_gos (f := 1) (pc2 := 97) (ls2 := [(3, .int 2), (0, .ref 162), (1, .int 0), (2, .int 0)]) (st2 := []) (h2 := h) (dc2 := dc) (ds2 := ds) 2 rfl ?_
            refine wq_sp1 rfl rfl ?_
            refine wq_gos (f := 1) (pc2 := 100) (ls2 := [(3, .int 2), (0, .ref 162), (1, .int 0), (2, .int 0)]) (st2 := [.int 0, .ref 13]) (h2 := h) (dc2 := dc) (ds2 := ds) 1 rfl ?_
            refine wq_sp1 rfl rfl ?_
            show wq 161 103 [(3, .int 2), (0, .ref 162), (1, .int 0), (2, .int 0)] [.int 108] h dc ds _
            refine wq_gos (f := 1) (pc2 := 97) (ls2 := [(2, .int 1), (3, .int 2), (0, .ref 162), (1, .int 0)]) (st2 := []) (h2 := h) (dc2 := dc) (ds2 := ds) 4 rfl ?_
            refine wq_sp1 rfl rfl ?_
            refine wq_gos (f := 1) (pc2 := 100) (ls2 := [(2, .int 1), (3, .int 2), (0, .ref 162), (1, .int 0)]) (st2 := [.int 1, .ref 13]) (h2 := h) (dc2 := dc) (ds2 := ds) 1 rfl ?_
            refine wq_sp1 rfl rfl ?_
            show wq 161 103 [(2, .int 1), (3, .int 2), (0, .ref 162), (1, .int 0)] [.int 105] h dc ds _
            refine wq_gos (f := 1) (pc2 := 97) (ls2 := [(2, .int 2), (3, .int 2), (0, .ref 162), (1, .int 0)]) (st2 := []) (h2 := h) (dc2 := dc) (ds2 := ds) 4 rfl ?_
            refine wq_sp1 rfl rfl ?_
            refine wq_gos (f := 1) (pc2 := 100) (ls2 := [(2, .int 2), (3, .int 2), (0, .ref 162), (1, .int 0)]) (st2 := [.int 2, .ref 13]) (h2 := h) (dc2 := dc) (ds2 := ds) 1 rfl ?_
            refine wq_sp1 rfl rfl ?_
            show wq 161 103 [(2, .int 2), (3, .int 2), (0, .ref 162), (1, .int 0)] [.int 110] h dc ds _
            refine wq_gos (f := 1) (pc2 := 97) (ls2 := [(2, .int 3), (3, .int 2), (0, .ref 162), (1, .int 0)]) (st2 := []) (h2 := h) (dc2 := dc) (ds2 := ds) 4 rfl ?_
            refine wq_sp1 rfl rfl ?_
            refine wq_gos (f := 1) (pc2 := 100) (ls2 := [(2, .int 3), (3, .int 2), (0, .ref 162), (1, .int 0)]) (st2 := [.int 3, .ref 13]) (h2 := h) (dc2 := dc) (ds2 := ds) 1 rfl ?_
            refine wq_sp1 rfl rfl ?_
            show wq 161 103 [(2, .int 3), (3, .int 2), (0, .ref 162), (1, .int 0)] [.int 107] h dc ds _
            refine wq_gos (f := 1) (pc2 := 97) (ls2 := [(2, .int 4), (3, .int 2), (0, .ref 162), (1, .int 0)]) (st2 := []) (h2 := h) (dc2 := dc) (ds2 := ds) 4 rfl ?_
            refine wq_sp1 rfl rfl ?_
            refine wq_gos (f := 1) (pc2 := 100) (ls2 := [(2, .int 4), (3, .int 2), (0, .ref 162), (1, .int 0)]) (st2 := [.int 4, .ref 13]) (h2 := h) (dc2 := dc) (ds2 := ds) 1 rfl ?_
            refine wq_sp1 rfl rfl ?_
            show wq 161 103 [(2, .int 4), (3, .int 2), (0, .ref 162), (1, .int 0)] [.int 32] h dc ds _
            refine wq_gos (f := 1) (pc2 := 4) (ls2 := [(1, .int 1), (2, .int 5), (3, .int 2), (0, .ref 162)]) (st2 := []) (h2 := h) (dc2 := dc) (ds2 := ds) 5 rfl ?_
            refine wq_ls [(0, .ref 162), (1, .int 1), (2, .int 5)] (show ([0, 1, 2] : List Nat).Nodup by decide) ⟨rfl, rfl, rfl, trivial⟩ ?_
            exact kN (by unfold mWs0; rw [if_neg (Int.not_le.mpr b3x), if_neg (fun q => q b5x), if_neg (Int.not_le.mpr b9x), if_neg (fun q => q b11x), if_pos b15x])
          · refine wq_gos (f := 1) (pc2 := 42) (ls2 := [(3, .int 2), (0, .ref 162), (1, .int 0), (2, .int 0)]) (st2 := [.ref 162]) (h2 := h) (dc2 := dc) (ds2 := ds) 1 rfl ?_
            refine wq_getf rfl hM rfl rfl ?_
            refine wq_gos (f := 1) (pc2 := 46) (ls2 := [(3, .int 2), (0, .ref 162), (1, .int 0), (2, .int 0)]) (st2 := [.ref 162, .ref 164]) (h2 := h) (dc2 := dc) (ds2 := ds) 1 rfl ?_
            refine wq_getf rfl hM rfl rfl ?_
            refine wq_gos (f := 1) (pc2 := 51) (ls2 := [(3, .int 2), (0, .ref 162), (1, .int 0), (2, .int 0)]) (st2 := [.int ((nI pl) + (2 : Int32)), .ref 164]) (h2 := h) (dc2 := dc) (ds2 := ds) 2 rfl ?_
            refine wq_vi (show (nI pl) + (2 : Int32) = nI (pl + 2) from nI_add pl 2) ?_
            refine wq_ialdn rfl hT (by first | omega | exact zin_t (by omega) (by omega)) (by decide) rfl ?_
            refine wq_sp1 rfl rfl ?_
            refine wq_gos (f := 1) (pc2 := 57) (ls2 := [(3, .int 2), (0, .ref 162), (1, .int 0), (2, .int 0)]) (st2 := [.int 2, .ref 13, .int (tb.getD (pl + 2) 0)]) (h2 := h) (dc2 := dc) (ds2 := ds) 3 rfl ?_
            refine wq_sp1 rfl rfl ?_
            show wq 161 60 [(3, .int 2), (0, .ref 162), (1, .int 0), (2, .int 0)] [.int 110, .int (tb.getD (pl + 2) 0)] h dc ds _
            have q16x : (110 : Int32).toInt = 110 := rfl
            refine wq_ne2 rfl rfl (fun b17x => ?_) (fun b17x => ?_)
            · have q18x : (tb.getD (pl + 2) 0).toInt ≠ 110 := fun q => b17x (Int32.toInt_inj.mp q)
              refine wq_sp1 rfl rfl ?_
              refine wq_gos (f := 1) (pc2 := 74) (ls2 := [(3, .int 2), (0, .ref 162), (1, .int 0), (2, .int 0)]) (st2 := [.int 2, .ref 13]) (h2 := h) (dc2 := dc) (ds2 := ds) 3 rfl ?_
              refine wq_sp1 rfl rfl ?_
              show wq 161 77 [(3, .int 2), (0, .ref 162), (1, .int 0), (2, .int 0)] [.int 110] h dc ds _
              refine wq_gos (f := 1) (pc2 := 97) (ls2 := [(3, .int 2), (0, .ref 162), (1, .int 0), (2, .int 0)]) (st2 := []) (h2 := h) (dc2 := dc) (ds2 := ds) 2 rfl ?_
              refine wq_sp1 rfl rfl ?_
              refine wq_gos (f := 1) (pc2 := 100) (ls2 := [(3, .int 2), (0, .ref 162), (1, .int 0), (2, .int 0)]) (st2 := [.int 0, .ref 13]) (h2 := h) (dc2 := dc) (ds2 := ds) 1 rfl ?_
              refine wq_sp1 rfl rfl ?_
              show wq 161 103 [(3, .int 2), (0, .ref 162), (1, .int 0), (2, .int 0)] [.int 108] h dc ds _
              refine wq_gos (f := 1) (pc2 := 97) (ls2 := [(2, .int 1), (3, .int 2), (0, .ref 162), (1, .int 0)]) (st2 := []) (h2 := h) (dc2 := dc) (ds2 := ds) 4 rfl ?_
              refine wq_sp1 rfl rfl ?_
              refine wq_gos (f := 1) (pc2 := 100) (ls2 := [(2, .int 1), (3, .int 2), (0, .ref 162), (1, .int 0)]) (st2 := [.int 1, .ref 13]) (h2 := h) (dc2 := dc) (ds2 := ds) 1 rfl ?_
              refine wq_sp1 rfl rfl ?_
              show wq 161 103 [(2, .int 1), (3, .int 2), (0, .ref 162), (1, .int 0)] [.int 105] h dc ds _
              refine wq_gos (f := 1) (pc2 := 97) (ls2 := [(2, .int 2), (3, .int 2), (0, .ref 162), (1, .int 0)]) (st2 := []) (h2 := h) (dc2 := dc) (ds2 := ds) 4 rfl ?_
              refine wq_sp1 rfl rfl ?_
              refine wq_gos (f := 1) (pc2 := 100) (ls2 := [(2, .int 2), (3, .int 2), (0, .ref 162), (1, .int 0)]) (st2 := [.int 2, .ref 13]) (h2 := h) (dc2 := dc) (ds2 := ds) 1 rfl ?_
              refine wq_sp1 rfl rfl ?_
              show wq 161 103 [(2, .int 2), (3, .int 2), (0, .ref 162), (1, .int 0)] [.int 110] h dc ds _
              refine wq_gos (f := 1) (pc2 := 97) (ls2 := [(2, .int 3), (3, .int 2), (0, .ref 162), (1, .int 0)]) (st2 := []) (h2 := h) (dc2 := dc) (ds2 := ds) 4 rfl ?_
              refine wq_sp1 rfl rfl ?_
              refine wq_gos (f := 1) (pc2 := 100) (ls2 := [(2, .int 3), (3, .int 2), (0, .ref 162), (1, .int 0)]) (st2 := [.int 3, .ref 13]) (h2 := h) (dc2 := dc) (ds2 := ds) 1 rfl ?_
              refine wq_sp1 rfl rfl ?_
              show wq 161 103 [(2, .int 3), (3, .int 2), (0, .ref 162), (1, .int 0)] [.int 107] h dc ds _
              refine wq_gos (f := 1) (pc2 := 97) (ls2 := [(2, .int 4), (3, .int 2), (0, .ref 162), (1, .int 0)]) (st2 := []) (h2 := h) (dc2 := dc) (ds2 := ds) 4 rfl ?_
              refine wq_sp1 rfl rfl ?_
              refine wq_gos (f := 1) (pc2 := 100) (ls2 := [(2, .int 4), (3, .int 2), (0, .ref 162), (1, .int 0)]) (st2 := [.int 4, .ref 13]) (h2 := h) (dc2 := dc) (ds2 := ds) 1 rfl ?_
              refine wq_sp1 rfl rfl ?_
              show wq 161 103 [(2, .int 4), (3, .int 2), (0, .ref 162), (1, .int 0)] [.int 32] h dc ds _
              refine wq_gos (f := 1) (pc2 := 4) (ls2 := [(1, .int 1), (2, .int 5), (3, .int 2), (0, .ref 162)]) (st2 := []) (h2 := h) (dc2 := dc) (ds2 := ds) 5 rfl ?_
              refine wq_ls [(0, .ref 162), (1, .int 1), (2, .int 5)] (show ([0, 1, 2] : List Nat).Nodup by decide) ⟨rfl, rfl, rfl, trivial⟩ ?_
              exact kN (by unfold mWs0; rw [if_neg (Int.not_le.mpr b3x), if_neg (fun q => q b5x), if_neg (Int.not_le.mpr b9x), if_neg (fun q => q b11x), if_neg (Int.not_le.mpr b15x), if_pos b17x])
            · have q19x : (tb.getD (pl + 2) 0).toInt = 110 := congrArg Int32.toInt b17x
              refine wq_gos (f := 1) (pc2 := 15) (ls2 := [(3, .int 3), (0, .ref 162), (1, .int 0), (2, .int 0)]) (st2 := []) (h2 := h) (dc2 := dc) (ds2 := ds) 2 rfl ?_
              refine wq_sp1 rfl rfl ?_
              refine wq_gos (f := 1) (pc2 := 20) (ls2 := [(3, .int 3), (0, .ref 162), (1, .int 0), (2, .int 0)]) (st2 := [.int 3, .ref 13]) (h2 := h) (dc2 := dc) (ds2 := ds) 3 rfl ?_
              refine wq_sp1 rfl rfl ?_
              show wq 161 23 [(3, .int 3), (0, .ref 162), (1, .int 0), (2, .int 0)] [.int 107] h dc ds _
              refine wq_gos (f := 1) (pc2 := 29) (ls2 := [(3, .int 3), (0, .ref 162), (1, .int 0), (2, .int 0)]) (st2 := [.ref 162]) (h2 := h) (dc2 := dc) (ds2 := ds) 3 rfl ?_
              refine wq_getf rfl hM rfl rfl ?_
              refine wq_gos (f := 1) (pc2 := 34) (ls2 := [(3, .int 3), (0, .ref 162), (1, .int 0), (2, .int 0)]) (st2 := [.int ((nI pl) + (3 : Int32))]) (h2 := h) (dc2 := dc) (ds2 := ds) 2 rfl ?_
              refine wq_vi (show (nI pl) + (3 : Int32) = nI (pl + 3) from nI_add pl 3) ?_
              refine wq_gos (f := 1) (pc2 := 35) (ls2 := [(3, .int 3), (0, .ref 162), (1, .int 0), (2, .int 0)]) (st2 := [.ref 162, .int (nI (pl + 3))]) (h2 := h) (dc2 := dc) (ds2 := ds) 1 rfl ?_
              refine wq_getf rfl hM rfl rfl ?_
              try have q20x := nI_toInt (n := (pl + 3)) (by omega)
              refine wq_ge2 rfl rfl (fun b21x => ?_) (fun b21x => ?_)
              · refine wq_sp1 rfl rfl ?_
                refine wq_gos (f := 1) (pc2 := 74) (ls2 := [(3, .int 3), (0, .ref 162), (1, .int 0), (2, .int 0)]) (st2 := [.int 3, .ref 13]) (h2 := h) (dc2 := dc) (ds2 := ds) 3 rfl ?_
                refine wq_sp1 rfl rfl ?_
                show wq 161 77 [(3, .int 3), (0, .ref 162), (1, .int 0), (2, .int 0)] [.int 107] h dc ds _
                refine wq_gos (f := 1) (pc2 := 97) (ls2 := [(3, .int 3), (0, .ref 162), (1, .int 0), (2, .int 0)]) (st2 := []) (h2 := h) (dc2 := dc) (ds2 := ds) 2 rfl ?_
                refine wq_sp1 rfl rfl ?_
                refine wq_gos (f := 1) (pc2 := 100) (ls2 := [(3, .int 3), (0, .ref 162), (1, .int 0), (2, .int 0)]) (st2 := [.int 0, .ref 13]) (h2 := h) (dc2 := dc) (ds2 := ds) 1 rfl ?_
                refine wq_sp1 rfl rfl ?_
                show wq 161 103 [(3, .int 3), (0, .ref 162), (1, .int 0), (2, .int 0)] [.int 108] h dc ds _
                refine wq_gos (f := 1) (pc2 := 97) (ls2 := [(2, .int 1), (3, .int 3), (0, .ref 162), (1, .int 0)]) (st2 := []) (h2 := h) (dc2 := dc) (ds2 := ds) 4 rfl ?_
                refine wq_sp1 rfl rfl ?_
                refine wq_gos (f := 1) (pc2 := 100) (ls2 := [(2, .int 1), (3, .int 3), (0, .ref 162), (1, .int 0)]) (st2 := [.int 1, .ref 13]) (h2 := h) (dc2 := dc) (ds2 := ds) 1 rfl ?_
                refine wq_sp1 rfl rfl ?_
                show wq 161 103 [(2, .int 1), (3, .int 3), (0, .ref 162), (1, .int 0)] [.int 105] h dc ds _
                refine wq_gos (f := 1) (pc2 := 97) (ls2 := [(2, .int 2), (3, .int 3), (0, .ref 162), (1, .int 0)]) (st2 := []) (h2 := h) (dc2 := dc) (ds2 := ds) 4 rfl ?_
                refine wq_sp1 rfl rfl ?_
                refine wq_gos (f := 1) (pc2 := 100) (ls2 := [(2, .int 2), (3, .int 3), (0, .ref 162), (1, .int 0)]) (st2 := [.int 2, .ref 13]) (h2 := h) (dc2 := dc) (ds2 := ds) 1 rfl ?_
                refine wq_sp1 rfl rfl ?_
                show wq 161 103 [(2, .int 2), (3, .int 3), (0, .ref 162), (1, .int 0)] [.int 110] h dc ds _
                refine wq_gos (f := 1) (pc2 := 97) (ls2 := [(2, .int 3), (3, .int 3), (0, .ref 162), (1, .int 0)]) (st2 := []) (h2 := h) (dc2 := dc) (ds2 := ds) 4 rfl ?_
                refine wq_sp1 rfl rfl ?_
                refine wq_gos (f := 1) (pc2 := 100) (ls2 := [(2, .int 3), (3, .int 3), (0, .ref 162), (1, .int 0)]) (st2 := [.int 3, .ref 13]) (h2 := h) (dc2 := dc) (ds2 := ds) 1 rfl ?_
                refine wq_sp1 rfl rfl ?_
                show wq 161 103 [(2, .int 3), (3, .int 3), (0, .ref 162), (1, .int 0)] [.int 107] h dc ds _
                refine wq_gos (f := 1) (pc2 := 97) (ls2 := [(2, .int 4), (3, .int 3), (0, .ref 162), (1, .int 0)]) (st2 := []) (h2 := h) (dc2 := dc) (ds2 := ds) 4 rfl ?_
                refine wq_sp1 rfl rfl ?_
                refine wq_gos (f := 1) (pc2 := 100) (ls2 := [(2, .int 4), (3, .int 3), (0, .ref 162), (1, .int 0)]) (st2 := [.int 4, .ref 13]) (h2 := h) (dc2 := dc) (ds2 := ds) 1 rfl ?_
                refine wq_sp1 rfl rfl ?_
                show wq 161 103 [(2, .int 4), (3, .int 3), (0, .ref 162), (1, .int 0)] [.int 32] h dc ds _
                refine wq_gos (f := 1) (pc2 := 4) (ls2 := [(1, .int 1), (2, .int 5), (3, .int 3), (0, .ref 162)]) (st2 := []) (h2 := h) (dc2 := dc) (ds2 := ds) 5 rfl ?_
                refine wq_ls [(0, .ref 162), (1, .int 1), (2, .int 5)] (show ([0, 1, 2] : List Nat).Nodup by decide) ⟨rfl, rfl, rfl, trivial⟩ ?_
                exact kN (by unfold mWs0; rw [if_neg (Int.not_le.mpr b3x), if_neg (fun q => q b5x), if_neg (Int.not_le.mpr b9x), if_neg (fun q => q b11x), if_neg (Int.not_le.mpr b15x), if_neg (fun q => q b17x), if_pos b21x])
              · refine wq_gos (f := 1) (pc2 := 42) (ls2 := [(3, .int 3), (0, .ref 162), (1, .int 0), (2, .int 0)]) (st2 := [.ref 162]) (h2 := h) (dc2 := dc) (ds2 := ds) 1 rfl ?_
                refine wq_getf rfl hM rfl rfl ?_
                refine wq_gos (f := 1) (pc2 := 46) (ls2 := [(3, .int 3), (0, .ref 162), (1, .int 0), (2, .int 0)]) (st2 := [.ref 162, .ref 164]) (h2 := h) (dc2 := dc) (ds2 := ds) 1 rfl ?_
                refine wq_getf rfl hM rfl rfl ?_
                refine wq_gos (f := 1) (pc2 := 51) (ls2 := [(3, .int 3), (0, .ref 162), (1, .int 0), (2, .int 0)]) (st2 := [.int ((nI pl) + (3 : Int32)), .ref 164]) (h2 := h) (dc2 := dc) (ds2 := ds) 2 rfl ?_
                refine wq_vi (show (nI pl) + (3 : Int32) = nI (pl + 3) from nI_add pl 3) ?_
                refine wq_ialdn rfl hT (by first | omega | exact zin_t (by omega) (by omega)) (by decide) rfl ?_
                refine wq_sp1 rfl rfl ?_
                refine wq_gos (f := 1) (pc2 := 57) (ls2 := [(3, .int 3), (0, .ref 162), (1, .int 0), (2, .int 0)]) (st2 := [.int 3, .ref 13, .int (tb.getD (pl + 3) 0)]) (h2 := h) (dc2 := dc) (ds2 := ds) 3 rfl ?_
                refine wq_sp1 rfl rfl ?_
                show wq 161 60 [(3, .int 3), (0, .ref 162), (1, .int 0), (2, .int 0)] [.int 107, .int (tb.getD (pl + 3) 0)] h dc ds _
                have q22x : (107 : Int32).toInt = 107 := rfl
                refine wq_ne2 rfl rfl (fun b23x => ?_) (fun b23x => ?_)
                · have q24x : (tb.getD (pl + 3) 0).toInt ≠ 107 := fun q => b23x (Int32.toInt_inj.mp q)
                  refine wq_sp1 rfl rfl ?_
                  refine wq_gos (f := 1) (pc2 := 74) (ls2 := [(3, .int 3), (0, .ref 162), (1, .int 0), (2, .int 0)]) (st2 := [.int 3, .ref 13]) (h2 := h) (dc2 := dc) (ds2 := ds) 3 rfl ?_
                  refine wq_sp1 rfl rfl ?_
                  show wq 161 77 [(3, .int 3), (0, .ref 162), (1, .int 0), (2, .int 0)] [.int 107] h dc ds _
                  refine wq_gos (f := 1) (pc2 := 97) (ls2 := [(3, .int 3), (0, .ref 162), (1, .int 0), (2, .int 0)]) (st2 := []) (h2 := h) (dc2 := dc) (ds2 := ds) 2 rfl ?_
                  refine wq_sp1 rfl rfl ?_
                  refine wq_gos (f := 1) (pc2 := 100) (ls2 := [(3, .int 3), (0, .ref 162), (1, .int 0), (2, .int 0)]) (st2 := [.int 0, .ref 13]) (h2 := h) (dc2 := dc) (ds2 := ds) 1 rfl ?_
                  refine wq_sp1 rfl rfl ?_
                  show wq 161 103 [(3, .int 3), (0, .ref 162), (1, .int 0), (2, .int 0)] [.int 108] h dc ds _
                  refine wq_gos (f := 1) (pc2 := 97) (ls2 := [(2, .int 1), (3, .int 3), (0, .ref 162), (1, .int 0)]) (st2 := []) (h2 := h) (dc2 := dc) (ds2 := ds) 4 rfl ?_
                  refine wq_sp1 rfl rfl ?_
                  refine wq_gos (f := 1) (pc2 := 100) (ls2 := [(2, .int 1), (3, .int 3), (0, .ref 162), (1, .int 0)]) (st2 := [.int 1, .ref 13]) (h2 := h) (dc2 := dc) (ds2 := ds) 1 rfl ?_
                  refine wq_sp1 rfl rfl ?_
                  show wq 161 103 [(2, .int 1), (3, .int 3), (0, .ref 162), (1, .int 0)] [.int 105] h dc ds _
                  refine wq_gos (f := 1) (pc2 := 97) (ls2 := [(2, .int 2), (3, .int 3), (0, .ref 162), (1, .int 0)]) (st2 := []) (h2 := h) (dc2 := dc) (ds2 := ds) 4 rfl ?_
                  refine wq_sp1 rfl rfl ?_
                  refine wq_gos (f := 1) (pc2 := 100) (ls2 := [(2, .int 2), (3, .int 3), (0, .ref 162), (1, .int 0)]) (st2 := [.int 2, .ref 13]) (h2 := h) (dc2 := dc) (ds2 := ds) 1 rfl ?_
                  refine wq_sp1 rfl rfl ?_
                  show wq 161 103 [(2, .int 2), (3, .int 3), (0, .ref 162), (1, .int 0)] [.int 110] h dc ds _
                  refine wq_gos (f := 1) (pc2 := 97) (ls2 := [(2, .int 3), (3, .int 3), (0, .ref 162), (1, .int 0)]) (st2 := []) (h2 := h) (dc2 := dc) (ds2 := ds) 4 rfl ?_
                  refine wq_sp1 rfl rfl ?_
                  refine wq_gos (f := 1) (pc2 := 100) (ls2 := [(2, .int 3), (3, .int 3), (0, .ref 162), (1, .int 0)]) (st2 := [.int 3, .ref 13]) (h2 := h) (dc2 := dc) (ds2 := ds) 1 rfl ?_
                  refine wq_sp1 rfl rfl ?_
                  show wq 161 103 [(2, .int 3), (3, .int 3), (0, .ref 162), (1, .int 0)] [.int 107] h dc ds _
                  refine wq_gos (f := 1) (pc2 := 97) (ls2 := [(2, .int 4), (3, .int 3), (0, .ref 162), (1, .int 0)]) (st2 := []) (h2 := h) (dc2 := dc) (ds2 := ds) 4 rfl ?_
                  refine wq_sp1 rfl rfl ?_
                  refine wq_gos (f := 1) (pc2 := 100) (ls2 := [(2, .int 4), (3, .int 3), (0, .ref 162), (1, .int 0)]) (st2 := [.int 4, .ref 13]) (h2 := h) (dc2 := dc) (ds2 := ds) 1 rfl ?_
                  refine wq_sp1 rfl rfl ?_
                  show wq 161 103 [(2, .int 4), (3, .int 3), (0, .ref 162), (1, .int 0)] [.int 32] h dc ds _
                  refine wq_gos (f := 1) (pc2 := 4) (ls2 := [(1, .int 1), (2, .int 5), (3, .int 3), (0, .ref 162)]) (st2 := []) (h2 := h) (dc2 := dc) (ds2 := ds) 5 rfl ?_
                  refine wq_ls [(0, .ref 162), (1, .int 1), (2, .int 5)] (show ([0, 1, 2] : List Nat).Nodup by decide) ⟨rfl, rfl, rfl, trivial⟩ ?_
                  exact kN (by unfold mWs0; rw [if_neg (Int.not_le.mpr b3x), if_neg (fun q => q b5x), if_neg (Int.not_le.mpr b9x), if_neg (fun q => q b11x), if_neg (Int.not_le.mpr b15x), if_neg (fun q => q b17x), if_neg (Int.not_le.mpr b21x), if_pos b23x])
                · have q25x : (tb.getD (pl + 3) 0).toInt = 107 := congrArg Int32.toInt b23x
                  refine wq_gos (f := 1) (pc2 := 15) (ls2 := [(3, .int 4), (0, .ref 162), (1, .int 0), (2, .int 0)]) (st2 := []) (h2 := h) (dc2 := dc) (ds2 := ds) 2 rfl ?_
                  refine wq_sp1 rfl rfl ?_
                  refine wq_gos (f := 1) (pc2 := 20) (ls2 := [(3, .int 4), (0, .ref 162), (1, .int 0), (2, .int 0)]) (st2 := [.int 4, .ref 13]) (h2 := h) (dc2 := dc) (ds2 := ds) 3 rfl ?_
                  refine wq_sp1 rfl rfl ?_
                  show wq 161 23 [(3, .int 4), (0, .ref 162), (1, .int 0), (2, .int 0)] [.int 32] h dc ds _
                  refine wq_gos (f := 1) (pc2 := 69) (ls2 := [(3, .int 4), (0, .ref 162), (1, .int 0), (2, .int 0)]) (st2 := []) (h2 := h) (dc2 := dc) (ds2 := ds) 2 rfl ?_
                  refine wq_sp1 rfl rfl ?_
                  refine wq_gos (f := 1) (pc2 := 74) (ls2 := [(3, .int 4), (0, .ref 162), (1, .int 0), (2, .int 0)]) (st2 := [.int 4, .ref 13]) (h2 := h) (dc2 := dc) (ds2 := ds) 3 rfl ?_
                  refine wq_sp1 rfl rfl ?_
                  show wq 161 77 [(3, .int 4), (0, .ref 162), (1, .int 0), (2, .int 0)] [.int 32] h dc ds _
                  refine wq_gos (f := 1) (pc2 := 83) (ls2 := [(3, .int 4), (0, .ref 162), (1, .int 0), (2, .int 0)]) (st2 := [.ref 162]) (h2 := h) (dc2 := dc) (ds2 := ds) 3 rfl ?_
                  refine wq_getf rfl hM rfl rfl ?_
                  refine wq_gos (f := 1) (pc2 := 88) (ls2 := [(3, .int 4), (0, .ref 162), (1, .int 0), (2, .int 0)]) (st2 := [.int ((nI pl) + (4 : Int32))]) (h2 := h) (dc2 := dc) (ds2 := ds) 2 rfl ?_
                  refine wq_vi (show (nI pl) + (4 : Int32) = nI (pl + 4) from nI_add pl 4) ?_
                  refine wq_gos (f := 1) (pc2 := 89) (ls2 := [(3, .int 4), (0, .ref 162), (1, .int 0), (2, .int 0)]) (st2 := [.ref 162, .int (nI (pl + 4))]) (h2 := h) (dc2 := dc) (ds2 := ds) 1 rfl ?_
                  refine wq_getf rfl hM rfl rfl ?_
                  try have q26x := nI_toInt (n := (pl + 4)) (by omega)
                  refine wq_ne2 rfl rfl (fun b27x => ?_) (fun b27x => ?_)
                  · have q28x : (nI (pl + 4)).toInt ≠ (nI at9).toInt := fun q => b27x (Int32.toInt_inj.mp q)
                    refine wq_sp1 rfl rfl ?_
                    refine wq_gos (f := 1) (pc2 := 100) (ls2 := [(3, .int 4), (0, .ref 162), (1, .int 0), (2, .int 0)]) (st2 := [.int 0, .ref 13]) (h2 := h) (dc2 := dc) (ds2 := ds) 1 rfl ?_
                    refine wq_sp1 rfl rfl ?_
                    show wq 161 103 [(3, .int 4), (0, .ref 162), (1, .int 0), (2, .int 0)] [.int 108] h dc ds _
                    refine wq_gos (f := 1) (pc2 := 97) (ls2 := [(2, .int 1), (3, .int 4), (0, .ref 162), (1, .int 0)]) (st2 := []) (h2 := h) (dc2 := dc) (ds2 := ds) 4 rfl ?_
                    refine wq_sp1 rfl rfl ?_
                    refine wq_gos (f := 1) (pc2 := 100) (ls2 := [(2, .int 1), (3, .int 4), (0, .ref 162), (1, .int 0)]) (st2 := [.int 1, .ref 13]) (h2 := h) (dc2 := dc) (ds2 := ds) 1 rfl ?_
                    refine wq_sp1 rfl rfl ?_
                    show wq 161 103 [(2, .int 1), (3, .int 4), (0, .ref 162), (1, .int 0)] [.int 105] h dc ds _
                    refine wq_gos (f := 1) (pc2 := 97) (ls2 := [(2, .int 2), (3, .int 4), (0, .ref 162), (1, .int 0)]) (st2 := []) (h2 := h) (dc2 := dc) (ds2 := ds) 4 rfl ?_
                    refine wq_sp1 rfl rfl ?_
                    refine wq_gos (f := 1) (pc2 := 100) (ls2 := [(2, .int 2), (3, .int 4), (0, .ref 162), (1, .int 0)]) (st2 := [.int 2, .ref 13]) (h2 := h) (dc2 := dc) (ds2 := ds) 1 rfl ?_
                    refine wq_sp1 rfl rfl ?_
                    show wq 161 103 [(2, .int 2), (3, .int 4), (0, .ref 162), (1, .int 0)] [.int 110] h dc ds _
                    refine wq_gos (f := 1) (pc2 := 97) (ls2 := [(2, .int 3), (3, .int 4), (0, .ref 162), (1, .int 0)]) (st2 := []) (h2 := h) (dc2 := dc) (ds2 := ds) 4 rfl ?_
                    refine wq_sp1 rfl rfl ?_
                    refine wq_gos (f := 1) (pc2 := 100) (ls2 := [(2, .int 3), (3, .int 4), (0, .ref 162), (1, .int 0)]) (st2 := [.int 3, .ref 13]) (h2 := h) (dc2 := dc) (ds2 := ds) 1 rfl ?_
                    refine wq_sp1 rfl rfl ?_
                    show wq 161 103 [(2, .int 3), (3, .int 4), (0, .ref 162), (1, .int 0)] [.int 107] h dc ds _
                    refine wq_gos (f := 1) (pc2 := 97) (ls2 := [(2, .int 4), (3, .int 4), (0, .ref 162), (1, .int 0)]) (st2 := []) (h2 := h) (dc2 := dc) (ds2 := ds) 4 rfl ?_
                    refine wq_sp1 rfl rfl ?_
                    refine wq_gos (f := 1) (pc2 := 100) (ls2 := [(2, .int 4), (3, .int 4), (0, .ref 162), (1, .int 0)]) (st2 := [.int 4, .ref 13]) (h2 := h) (dc2 := dc) (ds2 := ds) 1 rfl ?_
                    refine wq_sp1 rfl rfl ?_
                    show wq 161 103 [(2, .int 4), (3, .int 4), (0, .ref 162), (1, .int 0)] [.int 32] h dc ds _
                    refine wq_gos (f := 1) (pc2 := 4) (ls2 := [(1, .int 1), (2, .int 5), (3, .int 4), (0, .ref 162)]) (st2 := []) (h2 := h) (dc2 := dc) (ds2 := ds) 5 rfl ?_
                    refine wq_ls [(0, .ref 162), (1, .int 1), (2, .int 5)] (show ([0, 1, 2] : List Nat).Nodup by decide) ⟨rfl, rfl, rfl, trivial⟩ ?_
                    exact kN (by unfold mWs0; rw [if_neg (Int.not_le.mpr b3x), if_neg (fun q => q b5x), if_neg (Int.not_le.mpr b9x), if_neg (fun q => q b11x), if_neg (Int.not_le.mpr b15x), if_neg (fun q => q b17x), if_neg (Int.not_le.mpr b21x), if_neg (fun q => q b23x), if_pos b27x])
                  · have q29x : (nI (pl + 4)).toInt = (nI at9).toInt := congrArg Int32.toInt b27x
                    refine wq_gos (f := 1) (pc2 := 96) (ls2 := [(3, .int 4), (0, .ref 162), (1, .int 0), (2, .int 0)]) (st2 := [.int 0]) (h2 := h) (dc2 := dc) (ds2 := ds) 1 rfl ?_
                    exact wq_ret rfl rfl (kR (by unfold mWs0; rw [if_neg (Int.not_le.mpr b3x), if_neg (fun q => q b5x), if_neg (Int.not_le.mpr b9x), if_neg (fun q => q b11x), if_neg (Int.not_le.mpr b15x), if_neg (fun q => q b17x), if_neg (Int.not_le.mpr b21x), if_neg (fun q => q b23x), if_neg (fun q => q b27x)]))
noncomputable def mWs1 (tb : List Int32) (at9 pl : Nat) : Nat := (if (nI at9).toInt ≤ (nI (pl + 0)).toInt then 0 else (if (tb.getD (pl + 0) 0) ≠ (104 : Int32) then 0 else (if (nI at9).toInt ≤ (nI (pl + 1)).toInt then 0 else (if (tb.getD (pl + 1) 0) ≠ (97 : Int32) then 0 else (if (nI at9).toInt ≤ (nI (pl + 2)).toInt then 0 else (if (tb.getD (pl + 2) 0) ≠ (110 : Int32) then 0 else (if (nI at9).toInt ≤ (nI (pl + 3)).toInt then 0 else (if (tb.getD (pl + 3) 0) ≠ (100 : Int32) then 0 else (if (nI (pl + 4)) ≠ (nI at9) then 0 else 1)))))))))
set_option maxRecDepth 100000 in
set_option maxHeartbeats 4000000 in
theorem m_w1 {h : zH} {Q : zR → Prop} {dc ds : Nat} {n0 n2 n14 n22 n23 n27 n28 n32 n33 n34 n35 n39 n52 : Int32} {sz at9 pl : Nat} {so va ft fp : Int32} {tb : List Int32} (hM : zat h 162 = some (.inr (.inr (.inr (10, mO n0 n2 n14 (nI sz) (nI at9) (nI pl) so va ft fp n22 n23 n27 n28 n32 n33 n34 n35 n39 n52))))) (hT : zat h 164 = some (.inl (0, 700, tb))) (hsz : sz ≤ 700) (ha : at9 ≤ sz) (hp : pl ≤ at9) (kN : ((mWs1 tb at9 pl) = 0) → wq 161 4 [(0, .ref 162), (1, .int 2), (2, .int 10)] [] h dc ds Q) (kR : ((mWs1 tb at9 pl) = 1) → Q (some (.int 1), h, dc, ds)) : wq 161 4 [(0, .ref 162), (1, .int 1), (2, .int 5)] [] h dc ds Q := by
  have qnat9 := nI_toInt (n := at9) (by omega)
  have qnpl := nI_toInt (n := pl) (by omega)
  have qp0 := nI_toInt (n := pl + 0) (by omega)
  have qp1 := nI_toInt (n := pl + 1) (by omega)
  have qp2 := nI_toInt (n := pl + 2) (by omega)
  have qp3 := nI_toInt (n := pl + 3) (by omega)
  have qp4 := nI_toInt (n := pl + 4) (by omega)
  have qp5 := nI_toInt (n := pl + 5) (by omega)
  have qp6 := nI_toInt (n := pl + 6) (by omega)
  have qp7 := nI_toInt (n := pl + 7) (by omega)
  refine wq_gos (f := 1) (pc2 := 5) (ls2 := [(0, .ref 162), (1, .int 1), (2, .int 5)]) (st2 := [.int 5]) (h2 := h) (dc2 := dc) (ds2 := ds) 1 rfl ?_
  refine wq_sp1 rfl rfl ?_
  refine wq_sp1 rfl rfl ?_
  refine wq_gos (f := 1) (pc2 := 15) (ls2 := [(3, .int 0), (0, .ref 162), (1, .int 1), (2, .int 5)]) (st2 := []) (h2 := h) (dc2 := dc) (ds2 := ds) 3 rfl ?_
  refine wq_sp1 rfl rfl ?_
  refine wq_gos (f := 1) (pc2 := 20) (ls2 := [(3, .int 0), (0, .ref 162), (1, .int 1), (2, .int 5)]) (st2 := [.int 5, .ref 13]) (h2 := h) (dc2 := dc) (ds2 := ds) 3 rfl ?_
  refine wq_sp1 rfl rfl ?_
  show wq 161 23 [(3, .int 0), (0, .ref 162), (1, .int 1), (2, .int 5)] [.int 104] h dc ds _
  refine wq_gos (f := 1) (pc2 := 29) (ls2 := [(3, .int 0), (0, .ref 162), (1, .int 1), (2, .int 5)]) (st2 := [.ref 162]) (h2 := h) (dc2 := dc) (ds2 := ds) 3 rfl ?_
  refine wq_getf rfl hM rfl rfl ?_
  refine wq_gos (f := 1) (pc2 := 34) (ls2 := [(3, .int 0), (0, .ref 162), (1, .int 1), (2, .int 5)]) (st2 := [.int ((nI pl) + (0 : Int32))]) (h2 := h) (dc2 := dc) (ds2 := ds) 2 rfl ?_
  refine wq_vi (show (nI pl) + (0 : Int32) = nI (pl + 0) from nI_add pl 0) ?_
  refine wq_gos (f := 1) (pc2 := 35) (ls2 := [(3, .int 0), (0, .ref 162), (1, .int 1), (2, .int 5)]) (st2 := [.ref 162, .int (nI (pl + 0))]) (h2 := h) (dc2 := dc) (ds2 := ds) 1 rfl ?_
  refine wq_getf rfl hM rfl rfl ?_
  try have q1x := nI_toInt (n := (pl + 0)) (by omega)
  try have q2x := nI_toInt (n := at9) (by omega)
  refine wq_ge2 rfl rfl (fun b3x => ?_) (fun b3x => ?_)
  · refine wq_sp1 rfl rfl ?_
    refine wq_gos (f := 1) (pc2 := 74) (ls2 := [(3, .int 0), (0, .ref 162), (1, .int 1), (2, .int 5)]) (st2 := [.int 5, .ref 13]) (h2 := h) (dc2 := dc) (ds2 := ds) 3 rfl ?_
    refine wq_sp1 rfl rfl ?_
    show wq 161 77 [(3, .int 0), (0, .ref 162), (1, .int 1), (2, .int 5)] [.int 104] h dc ds _
    refine wq_gos (f := 1) (pc2 := 97) (ls2 := [(3, .int 0), (0, .ref 162), (1, .int 1), (2, .int 5)]) (st2 := []) (h2 := h) (dc2 := dc) (ds2 := ds) 2 rfl ?_
    refine wq_sp1 rfl rfl ?_
    refine wq_gos (f := 1) (pc2 := 100) (ls2 := [(3, .int 0), (0, .ref 162), (1, .int 1), (2, .int 5)]) (st2 := [.int 5, .ref 13]) (h2 := h) (dc2 := dc) (ds2 := ds) 1 rfl ?_
    refine wq_sp1 rfl rfl ?_
    show wq 161 103 [(3, .int 0), (0, .ref 162), (1, .int 1), (2, .int 5)] [.int 104] h dc ds _
    refine wq_gos (f := 1) (pc2 := 97) (ls2 := [(2, .int 6), (3, .int 0), (0, .ref 162), (1, .int 1)]) (st2 := []) (h2 := h) (dc2 := dc) (ds2 := ds) 4 rfl ?_
    refine wq_sp1 rfl rfl ?_
    refine wq_gos (f := 1) (pc2 := 100) (ls2 := [(2, .int 6), (3, .int 0), (0, .ref 162), (1, .int 1)]) (st2 := [.int 6, .ref 13]) (h2 := h) (dc2 := dc) (ds2 := ds) 1 rfl ?_
    refine wq_sp1 rfl rfl ?_
    show wq 161 103 [(2, .int 6), (3, .int 0), (0, .ref 162), (1, .int 1)] [.int 97] h dc ds _
    refine wq_gos (f := 1) (pc2 := 97) (ls2 := [(2, .int 7), (3, .int 0), (0, .ref 162), (1, .int 1)]) (st2 := []) (h2 := h) (dc2 := dc) (ds2 := ds) 4 rfl ?_
    refine wq_sp1 rfl rfl ?_
    refine wq_gos (f := 1) (pc2 := 100) (ls2 := [(2, .int 7), (3, .int 0), (0, .ref 162), (1, .int 1)]) (st2 := [.int 7, .ref 13]) (h2 := h) (dc2 := dc) (ds2 := ds) 1 rfl ?_
    refine wq_sp1 rfl rfl ?_
    show wq 161 103 [(2, .int 7), (3, .int 0), (0, .ref 162), (1, .int 1)] [.int 110] h dc ds _
    refine wq_gos (f := 1) (pc2 := 97) (ls2 := [(2, .int 8), (3, .int 0), (0, .ref 162), (1, .int 1)]) (st2 := []) (h2 := h) (dc2 := dc) (ds2 := ds) 4 rfl ?_
    refine wq_sp1 rfl rfl ?_
    refine wq_gos (f := 1) (pc2 := 100) (ls2 := [(2, .int 8), (3, .int 0), (0, .ref 162), (1, .int 1)]) (st2 := [.int 8, .ref 13]) (h2 := h) (dc2 := dc) (ds2 := ds) 1 rfl ?_
    refine wq_sp1 rfl rfl ?_
    show wq 161 103 [(2, .int 8), (3, .int 0), (0, .ref 162), (1, .int 1)] [.int 100] h dc ds _
    refine wq_gos (f := 1) (pc2 := 97) (ls2 := [(2, .int 9), (3, .int 0), (0, .ref 162), (1, .int 1)]) (st2 := []) (h2 := h) (dc2 := dc) (ds2 := ds) 4 rfl ?_
    refine wq_sp1 rfl rfl ?_
    refine wq_gos (f := 1) (pc2 := 100) (ls2 := [(2, .int 9), (3, .int 0), (0, .ref 162), (1, .int 1)]) (st2 := [.int 9, .ref 13]) (h2 := h) (dc2 := dc) (ds2 := ds) 1 rfl ?_
    refine wq_sp1 rfl rfl ?_
    show wq 161 103 [(2, .int 9), (3, .int 0), (0, .ref 162), (1, .int 1)] [.int 32] h dc ds _
    refine wq_gos (f := 1) (pc2 := 4) (ls2 := [(1, .int 2), (2, .int 10), (3, .int 0), (0, .ref 162)]) (st2 := []) (h2 := h) (dc2 := dc) (ds2 := ds) 5 rfl ?_
    refine wq_ls [(0, .ref 162), (1, .int 2), (2, .int 10)] (show ([0, 1, 2] : List Nat).Nodup by decide) ⟨rfl, rfl, rfl, trivial⟩ ?_
    exact kN (by unfold mWs1; rw [if_pos b3x])
  · refine wq_gos (f := 1) (pc2 := 42) (ls2 := [(3, .int 0), (0, .ref 162), (1, .int 1), (2, .int 5)]) (st2 := [.ref 162]) (h2 := h) (dc2 := dc) (ds2 := ds) 1 rfl ?_
    refine wq_getf rfl hM rfl rfl ?_
    refine wq_gos (f := 1) (pc2 := 46) (ls2 := [(3, .int 0), (0, .ref 162), (1, .int 1), (2, .int 5)]) (st2 := [.ref 162, .ref 164]) (h2 := h) (dc2 := dc) (ds2 := ds) 1 rfl ?_
    refine wq_getf rfl hM rfl rfl ?_
    refine wq_gos (f := 1) (pc2 := 51) (ls2 := [(3, .int 0), (0, .ref 162), (1, .int 1), (2, .int 5)]) (st2 := [.int ((nI pl) + (0 : Int32)), .ref 164]) (h2 := h) (dc2 := dc) (ds2 := ds) 2 rfl ?_
    refine wq_vi (show (nI pl) + (0 : Int32) = nI (pl + 0) from nI_add pl 0) ?_
    refine wq_ialdn rfl hT (by first | omega | exact zin_t (by omega) (by omega)) (by decide) rfl ?_
    refine wq_sp1 rfl rfl ?_
    refine wq_gos (f := 1) (pc2 := 57) (ls2 := [(3, .int 0), (0, .ref 162), (1, .int 1), (2, .int 5)]) (st2 := [.int 5, .ref 13, .int (tb.getD (pl + 0) 0)]) (h2 := h) (dc2 := dc) (ds2 := ds) 3 rfl ?_
    refine wq_sp1 rfl rfl ?_
    show wq 161 60 [(3, .int 0), (0, .ref 162), (1, .int 1), (2, .int 5)] [.int 104, .int (tb.getD (pl + 0) 0)] h dc ds _
    have q4x : (104 : Int32).toInt = 104 := rfl
    refine wq_ne2 rfl rfl (fun b5x => ?_) (fun b5x => ?_)
    · have q6x : (tb.getD (pl + 0) 0).toInt ≠ 104 := fun q => b5x (Int32.toInt_inj.mp q)
      refine wq_sp1 rfl rfl ?_
      refine wq_gos (f := 1) (pc2 := 74) (ls2 := [(3, .int 0), (0, .ref 162), (1, .int 1), (2, .int 5)]) (st2 := [.int 5, .ref 13]) (h2 := h) (dc2 := dc) (ds2 := ds) 3 rfl ?_
      refine wq_sp1 rfl rfl ?_
      show wq 161 77 [(3, .int 0), (0, .ref 162), (1, .int 1), (2, .int 5)] [.int 104] h dc ds _
      refine wq_gos (f := 1) (pc2 := 97) (ls2 := [(3, .int 0), (0, .ref 162), (1, .int 1), (2, .int 5)]) (st2 := []) (h2 := h) (dc2 := dc) (ds2 := ds) 2 rfl ?_
      refine wq_sp1 rfl rfl ?_
      refine wq_gos (f := 1) (pc2 := 100) (ls2 := [(3, .int 0), (0, .ref 162), (1, .int 1), (2, .int 5)]) (st2 := [.int 5, .ref 13]) (h2 := h) (dc2 := dc) (ds2 := ds) 1 rfl ?_
      refine wq_sp1 rfl rfl ?_
      show wq 161 103 [(3, .int 0), (0, .ref 162), (1, .int 1), (2, .int 5)] [.int 104] h dc ds _
      refine wq_gos (f := 1) (pc2 := 97) (ls2 := [(2, .int 6), (3, .int 0), (0, .ref 162), (1, .int 1)]) (st2 := []) (h2 := h) (dc2 := dc) (ds2 := ds) 4 rfl ?_
      refine wq_sp1 rfl rfl ?_
      refine wq_gos (f := 1) (pc2 := 100) (ls2 := [(2, .int 6), (3, .int 0), (0, .ref 162), (1, .int 1)]) (st2 := [.int 6, .ref 13]) (h2 := h) (dc2 := dc) (ds2 := ds) 1 rfl ?_
      refine wq_sp1 rfl rfl ?_
      show wq 161 103 [(2, .int 6), (3, .int 0), (0, .ref 162), (1, .int 1)] [.int 97] h dc ds _
      refine wq_gos (f := 1) (pc2 := 97) (ls2 := [(2, .int 7), (3, .int 0), (0, .ref 162), (1, .int 1)]) (st2 := []) (h2 := h) (dc2 := dc) (ds2 := ds) 4 rfl ?_
      refine wq_sp1 rfl rfl ?_
      refine wq_gos (f := 1) (pc2 := 100) (ls2 := [(2, .int 7), (3, .int 0), (0, .ref 162), (1, .int 1)]) (st2 := [.int 7, .ref 13]) (h2 := h) (dc2 := dc) (ds2 := ds) 1 rfl ?_
      refine wq_sp1 rfl rfl ?_
      show wq 161 103 [(2, .int 7), (3, .int 0), (0, .ref 162), (1, .int 1)] [.int 110] h dc ds _
      refine wq_gos (f := 1) (pc2 := 97) (ls2 := [(2, .int 8), (3, .int 0), (0, .ref 162), (1, .int 1)]) (st2 := []) (h2 := h) (dc2 := dc) (ds2 := ds) 4 rfl ?_
      refine wq_sp1 rfl rfl ?_
      refine wq_gos (f := 1) (pc2 := 100) (ls2 := [(2, .int 8), (3, .int 0), (0, .ref 162), (1, .int 1)]) (st2 := [.int 8, .ref 13]) (h2 := h) (dc2 := dc) (ds2 := ds) 1 rfl ?_
      refine wq_sp1 rfl rfl ?_
      show wq 161 103 [(2, .int 8), (3, .int 0), (0, .ref 162), (1, .int 1)] [.int 100] h dc ds _
      refine wq_gos (f := 1) (pc2 := 97) (ls2 := [(2, .int 9), (3, .int 0), (0, .ref 162), (1, .int 1)]) (st2 := []) (h2 := h) (dc2 := dc) (ds2 := ds) 4 rfl ?_
      refine wq_sp1 rfl rfl ?_
      refine wq_gos (f := 1) (pc2 := 100) (ls2 := [(2, .int 9), (3, .int 0), (0, .ref 162), (1, .int 1)]) (st2 := [.int 9, .ref 13]) (h2 := h) (dc2 := dc) (ds2 := ds) 1 rfl ?_
      refine wq_sp1 rfl rfl ?_
      show wq 161 103 [(2, .int 9), (3, .int 0), (0, .ref 162), (1, .int 1)] [.int 32] h dc ds _
      refine wq_gos (f := 1) (pc2 := 4) (ls2 := [(1, .int 2), (2, .int 10), (3, .int 0), (0, .ref 162)]) (st2 := []) (h2 := h) (dc2 := dc) (ds2 := ds) 5 rfl ?_
      refine wq_ls [(0, .ref 162), (1, .int 2), (2, .int 10)] (show ([0, 1, 2] : List Nat).Nodup by decide) ⟨rfl, rfl, rfl, trivial⟩ ?_
      exact kN (by unfold mWs1; rw [if_neg (Int.not_le.mpr b3x), if_pos b5x])
    · have q7x : (tb.getD (pl + 0) 0).toInt = 104 := congrArg Int32.toInt b5x
      refine wq_gos (f := 1) (pc2 := 15) (ls2 := [(3, .int 1), (0, .ref 162), (1, .int 1), (2, .int 5)]) (st2 := []) (h2 := h) (dc2 := dc) (ds2 := ds) 2 rfl ?_
      refine wq_sp1 rfl rfl ?_
      refine wq_gos (f := 1) (pc2 := 20) (ls2 := [(3, .int 1), (0, .ref 162), (1, .int 1), (2, .int 5)]) (st2 := [.int 6, .ref 13]) (h2 := h) (dc2 := dc) (ds2 := ds) 3 rfl ?_
      refine wq_sp1 rfl rfl ?_
      show wq 161 23 [(3, .int 1), (0, .ref 162), (1, .int 1), (2, .int 5)] [.int 97] h dc ds _
      refine wq_gos (f := 1) (pc2 := 29) (ls2 := [(3, .int 1), (0, .ref 162), (1, .int 1), (2, .int 5)]) (st2 := [.ref 162]) (h2 := h) (dc2 := dc) (ds2 := ds) 3 rfl ?_
      refine wq_getf rfl hM rfl rfl ?_
      refine wq_gos (f := 1) (pc2 := 34) (ls2 := [(3, .int 1), (0, .ref 162), (1, .int 1), (2, .int 5)]) (st2 := [.int ((nI pl) + (1 : Int32))]) (h2 := h) (dc2 := dc) (ds2 := ds) 2 rfl ?_
      refine wq_vi (show (nI pl) + (1 : Int32) = nI (pl + 1) from nI_add pl 1) ?_
      refine wq_gos (f := 1) (pc2 := 35) (ls2 := [(3, .int 1), (0, .ref 162), (1, .int 1), (2, .int 5)]) (st2 := [.ref 162, .int (nI (pl + 1))]) (h2 := h) (dc2 := dc) (ds2 := ds) 1 rfl ?_
      refine wq_getf rfl hM rfl rfl ?_
      try have q8x := nI_toInt (n := (pl + 1)) (by omega)
      refine wq_ge2 rfl rfl (fun b9x => ?_) (fun b9x => ?_)
      · refine wq_sp1 rfl rfl ?_
        refine wq_gos (f := 1) (pc2 := 74) (ls2 := [(3, .int 1), (0, .ref 162), (1, .int 1), (2, .int 5)]) (st2 := [.int 6, .ref 13]) (h2 := h) (dc2 := dc) (ds2 := ds) 3 rfl ?_
        refine wq_sp1 rfl rfl ?_
        show wq 161 77 [(3, .int 1), (0, .ref 162), (1, .int 1), (2, .int 5)] [.int 97] h dc ds _
        refine wq_gos (f := 1) (pc2 := 97) (ls2 := [(3, .int 1), (0, .ref 162), (1, .int 1), (2, .int 5)]) (st2 := []) (h2 := h) (dc2 := dc) (ds2 := ds) 2 rfl ?_
        refine wq_sp1 rfl rfl ?_
        refine wq_gos (f := 1) (pc2 := 100) (ls2 := [(3, .int 1), (0, .ref 162), (1, .int 1), (2, .int 5)]) (st2 := [.int 5, .ref 13]) (h2 := h) (dc2 := dc) (ds2 := ds) 1 rfl ?_
        refine wq_sp1 rfl rfl ?_
        show wq 161 103 [(3, .int 1), (0, .ref 162), (1, .int 1), (2, .int 5)] [.int 104] h dc ds _
        refine wq_gos (f := 1) (pc2 := 97) (ls2 := [(2, .int 6), (3, .int 1), (0, .ref 162), (1, .int 1)]) (st2 := []) (h2 := h) (dc2 := dc) (ds2 := ds) 4 rfl ?_
        refine wq_sp1 rfl rfl ?_
        refine wq_gos (f := 1) (pc2 := 100) (ls2 := [(2, .int 6), (3, .int 1), (0, .ref 162), (1, .int 1)]) (st2 := [.int 6, .ref 13]) (h2 := h) (dc2 := dc) (ds2 := ds) 1 rfl ?_
        refine wq_sp1 rfl rfl ?_
        show wq 161 103 [(2, .int 6), (3, .int 1), (0, .ref 162), (1, .int 1)] [.int 97] h dc ds _
        refine wq_gos (f := 1) (pc2 := 97) (ls2 := [(2, .int 7), (3, .int 1), (0, .ref 162), (1, .int 1)]) (st2 := []) (h2 := h) (dc2 := dc) (ds2 := ds) 4 rfl ?_
        refine wq_sp1 rfl rfl ?_
        refine wq_gos (f := 1) (pc2 := 100) (ls2 := [(2, .int 7), (3, .int 1), (0, .ref 162), (1, .int 1)]) (st2 := [.int 7, .ref 13]) (h2 := h) (dc2 := dc) (ds2 := ds) 1 rfl ?_
        refine wq_sp1 rfl rfl ?_
        show wq 161 103 [(2, .int 7), (3, .int 1), (0, .ref 162), (1, .int 1)] [.int 110] h dc ds _
        refine wq_gos (f := 1) (pc2 := 97) (ls2 := [(2, .int 8), (3, .int 1), (0, .ref 162), (1, .int 1)]) (st2 := []) (h2 := h) (dc2 := dc) (ds2 := ds) 4 rfl ?_
        refine wq_sp1 rfl rfl ?_
        refine wq_gos (f := 1) (pc2 := 100) (ls2 := [(2, .int 8), (3, .int 1), (0, .ref 162), (1, .int 1)]) (st2 := [.int 8, .ref 13]) (h2 := h) (dc2 := dc) (ds2 := ds) 1 rfl ?_
        refine wq_sp1 rfl rfl ?_
        show wq 161 103 [(2, .int 8), (3, .int 1), (0, .ref 162), (1, .int 1)] [.int 100] h dc ds _
        refine wq_gos (f := 1) (pc2 := 97) (ls2 := [(2, .int 9), (3, .int 1), (0, .ref 162), (1, .int 1)]) (st2 := []) (h2 := h) (dc2 := dc) (ds2 := ds) 4 rfl ?_
        refine wq_sp1 rfl rfl ?_
        refine wq_gos (f := 1) (pc2 := 100) (ls2 := [(2, .int 9), (3, .int 1), (0, .ref 162), (1, .int 1)]) (st2 := [.int 9, .ref 13]) (h2 := h) (dc2 := dc) (ds2 := ds) 1 rfl ?_
        refine wq_sp1 rfl rfl ?_
        show wq 161 103 [(2, .int 9), (3, .int 1), (0, .ref 162), (1, .int 1)] [.int 32] h dc ds _
        refine wq_gos (f := 1) (pc2 := 4) (ls2 := [(1, .int 2), (2, .int 10), (3, .int 1), (0, .ref 162)]) (st2 := []) (h2 := h) (dc2 := dc) (ds2 := ds) 5 rfl ?_
        refine wq_ls [(0, .ref 162), (1, .int 2), (2, .int 10)] (show ([0, 1, 2] : List Nat).Nodup by decide) ⟨rfl, rfl, rfl, trivial⟩ ?_
        exact kN (by unfold mWs1; rw [if_neg (Int.not_le.mpr b3x), if_neg (fun q => q b5x), if_pos b9x])
      · refine wq_gos (f := 1) (pc2 := 42) (ls2 := [(3, .int 1), (0, .ref 162), (1, .int 1), (2, .int 5)]) (st2 := [.ref 162]) (h2 := h) (dc2 := dc) (ds2 := ds) 1 rfl ?_
        refine wq_getf rfl hM rfl rfl ?_
        refine wq_gos (f := 1) (pc2 := 46) (ls2 := [(3, .int 1), (0, .ref 162), (1, .int 1), (2, .int 5)]) (st2 := [.ref 162, .ref 164]) (h2 := h) (dc2 := dc) (ds2 := ds) 1 rfl ?_
        refine wq_getf rfl hM rfl rfl ?_
        refine wq_gos (f := 1) (pc2 := 51) (ls2 := [(3, .int 1), (0, .ref 162), (1, .int 1), (2, .int 5)]) (st2 := [.int ((nI pl) + (1 : Int32)), .ref 164]) (h2 := h) (dc2 := dc) (ds2 := ds) 2 rfl ?_
        refine wq_vi (show (nI pl) + (1 : Int32) = nI (pl + 1) from nI_add pl 1) ?_
        refine wq_ialdn rfl hT (by first | omega | exact zin_t (by omega) (by omega)) (by decide) rfl ?_
        refine wq_sp1 rfl rfl ?_
        refine wq_gos (f := 1) (pc2 := 57) (ls2 := [(3, .int 1), (0, .ref 162), (1, .int 1), (2, .int 5)]) (st2 := [.int 6, .ref 13, .int (tb.getD (pl + 1) 0)]) (h2 := h) (dc2 := dc) (ds2 := ds) 3 rfl ?_
        refine wq_sp1 rfl rfl ?_
        show wq 161 60 [(3, .int 1), (0, .ref 162), (1, .int 1), (2, .int 5)] [.int 97, .int (tb.getD (pl + 1) 0)] h dc ds _
        have q10x : (97 : Int32).toInt = 97 := rfl
        refine wq_ne2 rfl rfl (fun b11x => ?_) (fun b11x => ?_)
        · have q12x : (tb.getD (pl + 1) 0).toInt ≠ 97 := fun q => b11x (Int32.toInt_inj.mp q)
          refine wq_sp1 rfl rfl ?_
          refine wq_gos (f := 1) (pc2 := 74) (ls2 := [(3, .int 1), (0, .ref 162), (1, .int 1), (2, .int 5)]) (st2 := [.int 6, .ref 13]) (h2 := h) (dc2 := dc) (ds2 := ds) 3 rfl ?_
          refine wq_sp1 rfl rfl ?_
          show wq 161 77 [(3, .int 1), (0, .ref 162), (1, .int 1), (2, .int 5)] [.int 97] h dc ds _
          refine wq_gos (f := 1) (pc2 := 97) (ls2 := [(3, .int 1), (0, .ref 162), (1, .int 1), (2, .int 5)]) (st2 := []) (h2 := h) (dc2 := dc) (ds2 := ds) 2 rfl ?_
          refine wq_sp1 rfl rfl ?_
          refine wq_gos (f := 1) (pc2 := 100) (ls2 := [(3, .int 1), (0, .ref 162), (1, .int 1), (2, .int 5)]) (st2 := [.int 5, .ref 13]) (h2 := h) (dc2 := dc) (ds2 := ds) 1 rfl ?_
          refine wq_sp1 rfl rfl ?_
          show wq 161 103 [(3, .int 1), (0, .ref 162), (1, .int 1), (2, .int 5)] [.int 104] h dc ds _
          refine wq_gos (f := 1) (pc2 := 97) (ls2 := [(2, .int 6), (3, .int 1), (0, .ref 162), (1, .int 1)]) (st2 := []) (h2 := h) (dc2 := dc) (ds2 := ds) 4 rfl ?_
          refine wq_sp1 rfl rfl ?_
          refine wq_gos (f := 1) (pc2 := 100) (ls2 := [(2, .int 6), (3, .int 1), (0, .ref 162), (1, .int 1)]) (st2 := [.int 6, .ref 13]) (h2 := h) (dc2 := dc) (ds2 := ds) 1 rfl ?_
          refine wq_sp1 rfl rfl ?_
          show wq 161 103 [(2, .int 6), (3, .int 1), (0, .ref 162), (1, .int 1)] [.int 97] h dc ds _
          refine wq_gos (f := 1) (pc2 := 97) (ls2 := [(2, .int 7), (3, .int 1), (0, .ref 162), (1, .int 1)]) (st2 := []) (h2 := h) (dc2 := dc) (ds2 := ds) 4 rfl ?_
          refine wq_sp1 rfl rfl ?_
          refine wq_gos (f := 1) (pc2 := 100) (ls2 := [(2, .int 7), (3, .int 1), (0, .ref 162), (1, .int 1)]) (st2 := [.int 7, .ref 13]) (h2 := h) (dc2 := dc) (ds2 := ds) 1 rfl ?_
          refine wq_sp1 rfl rfl ?_
          show wq 161 103 [(2, .int 7), (3, .int 1), (0, .ref 162), (1, .int 1)] [.int 110] h dc ds _
          refine wq_gos (f := 1) (pc2 := 97) (ls2 := [(2, .int 8), (3, .int 1), (0, .ref 162), (1, .int 1)]) (st2 := []) (h2 := h) (dc2 := dc) (ds2 := ds) 4 rfl ?_
          refine wq_sp1 rfl rfl ?_
          refine wq_gos (f := 1) (pc2 := 100) (ls2 := [(2, .int 8), (3, .int 1), (0, .ref 162), (1, .int 1)]) (st2 := [.int 8, .ref 13]) (h2 := h) (dc2 := dc) (ds2 := ds) 1 rfl ?_
          refine wq_sp1 rfl rfl ?_
          show wq 161 103 [(2, .int 8), (3, .int 1), (0, .ref 162), (1, .int 1)] [.int 100] h dc ds _
          refine wq_gos (f := 1) (pc2 := 97) (ls2 := [(2, .int 9), (3, .int 1), (0, .ref 162), (1, .int 1)]) (st2 := []) (h2 := h) (dc2 := dc) (ds2 := ds) 4 rfl ?_
          refine wq_sp1 rfl rfl ?_
          refine wq_gos (f := 1) (pc2 := 100) (ls2 := [(2, .int 9), (3, .int 1), (0, .ref 162), (1, .int 1)]) (st2 := [.int 9, .ref 13]) (h2 := h) (dc2 := dc) (ds2 := ds) 1 rfl ?_
          refine wq_sp1 rfl rfl ?_
          show wq 161 103 [(2, .int 9), (3, .int 1), (0, .ref 162), (1, .int 1)] [.int 32] h dc ds _
          refine wq_gos (f := 1) (pc2 := 4) (ls2 := [(1, .int 2), (2, .int 10), (3, .int 1), (0, .ref 162)]) (st2 := []) (h2 := h) (dc2 := dc) (ds2 := ds) 5 rfl ?_
          refine wq_ls [(0, .ref 162), (1, .int 2), (2, .int 10)] (show ([0, 1, 2] : List Nat).Nodup by decide) ⟨rfl, rfl, rfl, trivial⟩ ?_
          exact kN (by unfold mWs1; rw [if_neg (Int.not_le.mpr b3x), if_neg (fun q => q b5x), if_neg (Int.not_le.mpr b9x), if_pos b11x])
        · have q13x : (tb.getD (pl + 1) 0).toInt = 97 := congrArg Int32.toInt b11x
          refine wq_gos (f := 1) (pc2 := 15) (ls2 := [(3, .int 2), (0, .ref 162), (1, .int 1), (2, .int 5)]) (st2 := []) (h2 := h) (dc2 := dc) (ds2 := ds) 2 rfl ?_
          refine wq_sp1 rfl rfl ?_
          refine wq_gos (f := 1) (pc2 := 20) (ls2 := [(3, .int 2), (0, .ref 162), (1, .int 1), (2, .int 5)]) (st2 := [.int 7, .ref 13]) (h2 := h) (dc2 := dc) (ds2 := ds) 3 rfl ?_
          refine wq_sp1 rfl rfl ?_
          show wq 161 23 [(3, .int 2), (0, .ref 162), (1, .int 1), (2, .int 5)] [.int 110] h dc ds _
          refine wq_gos (f := 1) (pc2 := 29) (ls2 := [(3, .int 2), (0, .ref 162), (1, .int 1), (2, .int 5)]) (st2 := [.ref 162]) (h2 := h) (dc2 := dc) (ds2 := ds) 3 rfl ?_
          refine wq_getf rfl hM rfl rfl ?_
          refine wq_gos (f := 1) (pc2 := 34) (ls2 := [(3, .int 2), (0, .ref 162), (1, .int 1), (2, .int 5)]) (st2 := [.int ((nI pl) + (2 : Int32))]) (h2 := h) (dc2 := dc) (ds2 := ds) 2 rfl ?_
          refine wq_vi (show (nI pl) + (2 : Int32) = nI (pl + 2) from nI_add pl 2) ?_
          refine wq_gos (f := 1) (pc2 := 35) (ls2 := [(3, .int 2), (0, .ref 162), (1, .int 1), (2, .int 5)]) (st2 := [.ref 162, .int (nI (pl + 2))]) (h2 := h) (dc2 := dc) (ds2 := ds) 1 rfl ?_
          refine wq_getf rfl hM rfl rfl ?_
          try have q14x := nI_toInt (n := (pl + 2)) (by omega)
          refine wq_ge2 rfl rfl (fun b15x => ?_) (fun b15x => ?_)
          · refine wq_sp1 rfl rfl ?_
            refine wq_gos (f := 1) (pc2 := 74) (ls2 := [(3, .int 2), (0, .ref 162), (1, .int 1), (2, .int 5)]) (st2 := [.int 7, .ref 13]) (h2 := h) (dc2 := dc) (ds2 := ds) 3 rfl ?_
            refine wq_sp1 rfl rfl ?_
            show wq 161 77 [(3, .int 2), (0, .ref 162), (1, .int 1), (2, .int 5)] [.int 110] h dc ds _
            refine wq_gos (f := 1) (pc2 := 97) (ls2 := [(3, .int 2), (0, .ref 162), (1, .int 1), (2, .int 5)]) (st2 := []) (h2 := h) (dc2 := dc) (ds2 := ds) 2 rfl ?_
            refine wq_sp1 rfl rfl ?_
            refine wq_gos (f := 1) (pc2 := 100) (ls2 := [(3, .int 2), (0, .ref 162), (1, .int 1), (2, .int 5)]) (st2 := [.int 5, .ref 13]) (h2 := h) (dc2 := dc) (ds2 := ds) 1 rfl ?_
            refine wq_sp1 rfl rfl ?_
            show wq 161 103 [(3, .int 2), (0, .ref 162), (1, .int 1), (2, .int 5)] [.int 104] h dc ds _
            refine wq_gos (f := 1) (pc2 := 97) (ls2 := [(2, .int 6), (3, .int 2), (0, .ref 162), (1, .int 1)]) (st2 := []) (h2 := h) (dc2 := dc) (ds2 := ds) 4 rfl ?_
            refine wq_sp1 rfl rfl ?_
            refine wq_gos (f := 1) (pc2 := 100) (ls2 := [(2, .int 6), (3, .int 2), (0, .ref 162), (1, .int 1)]) (st2 := [.int 6, .ref 13]) (h2 := h) (dc2 := dc) (ds2 := ds) 1 rfl ?_
            refine wq_sp1 rfl rfl ?_
            show wq 161 103 [(2, .int 6), (3, .int 2), (0, .ref 162), (1, .int 1)] [.int 97] h dc ds _
            refine wq_gos (f := 1) (pc2 := 97) (ls2 := [(2, .int 7), (3, .int 2), (0, .ref 162), (1, .int 1)]) (st2 := []) (h2 := h) (dc2 := dc) (ds2 := ds) 4 rfl ?_
            refine wq_sp1 rfl rfl ?_
            refine wq_gos (f := 1) (pc2 := 100) (ls2 := [(2, .int 7), (3, .int 2), (0, .ref 162), (1, .int 1)]) (st2 := [.int 7, .ref 13]) (h2 := h) (dc2 := dc) (ds2 := ds) 1 rfl ?_
            refine wq_sp1 rfl rfl ?_
            show wq 161 103 [(2, .int 7), (3, .int 2), (0, .ref 162), (1, .int 1)] [.int 110] h dc ds _
            refine wq_gos (f := 1) (pc2 := 97) (ls2 := [(2, .int 8), (3, .int 2), (0, .ref 162), (1, .int 1)]) (st2 := []) (h2 := h) (dc2 := dc) (ds2 := ds) 4 rfl ?_
            refine wq_sp1 rfl rfl ?_
            refine wq_gos (f := 1) (pc2 := 100) (ls2 := [(2, .int 8), (3, .int 2), (0, .ref 162), (1, .int 1)]) (st2 := [.int 8, .ref 13]) (h2 := h) (dc2 := dc) (ds2 := ds) 1 rfl ?_
            refine wq_sp1 rfl rfl ?_
            show wq 161 103 [(2, .int 8), (3, .int 2), (0, .ref 162), (1, .int 1)] [.int 100] h dc ds _
            refine wq_gos (f := 1) (pc2 := 97) (ls2 := [(2, .int 9), (3, .int 2), (0, .ref 162), (1, .int 1)]) (st2 := []) (h2 := h) (dc2 := dc) (ds2 := ds) 4 rfl ?_
            refine wq_sp1 rfl rfl ?_
            refine wq_gos (f := 1) (pc2 := 100) (ls2 := [(2, .int 9), (3, .int 2), (0, .ref 162), (1, .int 1)]) (st2 := [.int 9, .ref 13]) (h2 := h) (dc2 := dc) (ds2 := ds) 1 rfl ?_
            refine wq_sp1 rfl rfl ?_
            show wq 161 103 [(2, .int 9), (3, .int 2), (0, .ref 162), (1, .int 1)] [.int 32] h dc ds _
            refine wq_gos (f := 1) (pc2 := 4) (ls2 := [(1, .int 2), (2, .int 10), (3, .int 2), (0, .ref 162)]) (st2 := []) (h2 := h) (dc2 := dc) (ds2 := ds) 5 rfl ?_
            refine wq_ls [(0, .ref 162), (1, .int 2), (2, .int 10)] (show ([0, 1, 2] : List Nat).Nodup by decide) ⟨rfl, rfl, rfl, trivial⟩ ?_
            exact kN (by unfold mWs1; rw [if_neg (Int.not_le.mpr b3x), if_neg (fun q => q b5x), if_neg (Int.not_le.mpr b9x), if_neg (fun q => q b11x), if_pos b15x])
          · refine wq_gos (f := 1) (pc2 := 42) (ls2 := [(3, .int 2), (0, .ref 162), (1, .int 1), (2, .int 5)]) (st2 := [.ref 162]) (h2 := h) (dc2 := dc) (ds2 := ds) 1 rfl ?_
            refine wq_getf rfl hM rfl rfl ?_
            refine wq_gos (f := 1) (pc2 := 46) (ls2 := [(3, .int 2), (0, .ref 162), (1, .int 1), (2, .int 5)]) (st2 := [.ref 162, .ref 164]) (h2 := h) (dc2 := dc) (ds2 := ds) 1 rfl ?_
            refine wq_getf rfl hM rfl rfl ?_
            refine wq_gos (f := 1) (pc2 := 51) (ls2 := [(3, .int 2), (0, .ref 162), (1, .int 1), (2, .int 5)]) (st2 := [.int ((nI pl) + (2 : Int32)), .ref 164]) (h2 := h) (dc2 := dc) (ds2 := ds) 2 rfl ?_
            refine wq_vi (show (nI pl) + (2 : Int32) = nI (pl + 2) from nI_add pl 2) ?_
            refine wq_ialdn rfl hT (by first | omega | exact zin_t (by omega) (by omega)) (by decide) rfl ?_
            refine wq_sp1 rfl rfl ?_
            refine wq_gos (f := 1) (pc2 := 57) (ls2 := [(3, .int 2), (0, .ref 162), (1, .int 1), (2, .int 5)]) (st2 := [.int 7, .ref 13, .int (tb.getD (pl + 2) 0)]) (h2 := h) (dc2 := dc) (ds2 := ds) 3 rfl ?_
            refine wq_sp1 rfl rfl ?_
            show wq 161 60 [(3, .int 2), (0, .ref 162), (1, .int 1), (2, .int 5)] [.int 110, .int (tb.getD (pl + 2) 0)] h dc ds _
            have q16x : (110 : Int32).toInt = 110 := rfl
            refine wq_ne2 rfl rfl (fun b17x => ?_) (fun b17x => ?_)
            · have q18x : (tb.getD (pl + 2) 0).toInt ≠ 110 := fun q => b17x (Int32.toInt_inj.mp q)
              refine wq_sp1 rfl rfl ?_
              refine wq_gos (f := 1) (pc2 := 74) (ls2 := [(3, .int 2), (0, .ref 162), (1, .int 1), (2, .int 5)]) (st2 := [.int 7, .ref 13]) (h2 := h) (dc2 := dc) (ds2 := ds) 3 rfl ?_
              refine wq_sp1 rfl rfl ?_
              show wq 161 77 [(3, .int 2), (0, .ref 162), (1, .int 1), (2, .int 5)] [.int 110] h dc ds _
              refine wq_gos (f := 1) (pc2 := 97) (ls2 := [(3, .int 2), (0, .ref 162), (1, .int 1), (2, .int 5)]) (st2 := []) (h2 := h) (dc2 := dc) (ds2 := ds) 2 rfl ?_
              refine wq_sp1 rfl rfl ?_
              refine wq_gos (f := 1) (pc2 := 100) (ls2 := [(3, .int 2), (0, .ref 162), (1, .int 1), (2, .int 5)]) (st2 := [.int 5, .ref 13]) (h2 := h) (dc2 := dc) (ds2 := ds) 1 rfl ?_
              refine wq_sp1 rfl rfl ?_
              show wq 161 103 [(3, .int 2), (0, .ref 162), (1, .int 1), (2, .int 5)] [.int 104] h dc ds _
              refine wq_gos (f := 1) (pc2 := 97) (ls2 := [(2, .int 6), (3, .int 2), (0, .ref 162), (1, .int 1)]) (st2 := []) (h2 := h) (dc2 := dc) (ds2 := ds) 4 rfl ?_
              refine wq_sp1 rfl rfl ?_
              refine wq_gos (f := 1) (pc2 := 100) (ls2 := [(2, .int 6), (3, .int 2), (0, .ref 162), (1, .int 1)]) (st2 := [.int 6, .ref 13]) (h2 := h) (dc2 := dc) (ds2 := ds) 1 rfl ?_
              refine wq_sp1 rfl rfl ?_
              show wq 161 103 [(2, .int 6), (3, .int 2), (0, .ref 162), (1, .int 1)] [.int 97] h dc ds _
              refine wq_gos (f := 1) (pc2 := 97) (ls2 := [(2, .int 7), (3, .int 2), (0, .ref 162), (1, .int 1)]) (st2 := []) (h2 := h) (dc2 := dc) (ds2 := ds) 4 rfl ?_
              refine wq_sp1 rfl rfl ?_
              refine wq_gos (f := 1) (pc2 := 100) (ls2 := [(2, .int 7), (3, .int 2), (0, .ref 162), (1, .int 1)]) (st2 := [.int 7, .ref 13]) (h2 := h) (dc2 := dc) (ds2 := ds) 1 rfl ?_
              refine wq_sp1 rfl rfl ?_
              show wq 161 103 [(2, .int 7), (3, .int 2), (0, .ref 162), (1, .int 1)] [.int 110] h dc ds _
              refine wq_gos (f := 1) (pc2 := 97) (ls2 := [(2, .int 8), (3, .int 2), (0, .ref 162), (1, .int 1)]) (st2 := []) (h2 := h) (dc2 := dc) (ds2 := ds) 4 rfl ?_
              refine wq_sp1 rfl rfl ?_
              refine wq_gos (f := 1) (pc2 := 100) (ls2 := [(2, .int 8), (3, .int 2), (0, .ref 162), (1, .int 1)]) (st2 := [.int 8, .ref 13]) (h2 := h) (dc2 := dc) (ds2 := ds) 1 rfl ?_
              refine wq_sp1 rfl rfl ?_
              show wq 161 103 [(2, .int 8), (3, .int 2), (0, .ref 162), (1, .int 1)] [.int 100] h dc ds _
              refine wq_gos (f := 1) (pc2 := 97) (ls2 := [(2, .int 9), (3, .int 2), (0, .ref 162), (1, .int 1)]) (st2 := []) (h2 := h) (dc2 := dc) (ds2 := ds) 4 rfl ?_
              refine wq_sp1 rfl rfl ?_
              refine wq_gos (f := 1) (pc2 := 100) (ls2 := [(2, .int 9), (3, .int 2), (0, .ref 162), (1, .int 1)]) (st2 := [.int 9, .ref 13]) (h2 := h) (dc2 := dc) (ds2 := ds) 1 rfl ?_
              refine wq_sp1 rfl rfl ?_
              show wq 161 103 [(2, .int 9), (3, .int 2), (0, .ref 162), (1, .int 1)] [.int 32] h dc ds _
              refine wq_gos (f := 1) (pc2 := 4) (ls2 := [(1, .int 2), (2, .int 10), (3, .int 2), (0, .ref 162)]) (st2 := []) (h2 := h) (dc2 := dc) (ds2 := ds) 5 rfl ?_
              refine wq_ls [(0, .ref 162), (1, .int 2), (2, .int 10)] (show ([0, 1, 2] : List Nat).Nodup by decide) ⟨rfl, rfl, rfl, trivial⟩ ?_
              exact kN (by unfold mWs1; rw [if_neg (Int.not_le.mpr b3x), if_neg (fun q => q b5x), if_neg (Int.not_le.mpr b9x), if_neg (fun q => q b11x), if_neg (Int.not_le.mpr b15x), if_pos b17x])
            · have q19x : (tb.getD (pl + 2) 0).toInt = 110 := congrArg Int32.toInt b17x
              refine wq_gos (f := 1) (pc2 := 15) (ls2 := [(3, .int 3), (0, .ref 162), (1, .int 1), (2, .int 5)]) (st2 := []) (h2 := h) (dc2 := dc) (ds2 := ds) 2 rfl ?_
              refine wq_sp1 rfl rfl ?_
              refine wq_gos (f := 1) (pc2 := 20) (ls2 := [(3, .int 3), (0, .ref 162), (1, .int 1), (2, .int 5)]) (st2 := [.int 8, .ref 13]) (h2 := h) (dc2 := dc) (ds2 := ds) 3 rfl ?_
              refine wq_sp1 rfl rfl ?_
              show wq 161 23 [(3, .int 3), (0, .ref 162), (1, .int 1), (2, .int 5)] [.int 100] h dc ds _
              refine wq_gos (f := 1) (pc2 := 29) (ls2 := [(3, .int 3), (0, .ref 162), (1, .int 1), (2, .int 5)]) (st2 := [.ref 162]) (h2 := h) (dc2 := dc) (ds2 := ds) 3 rfl ?_
              refine wq_getf rfl hM rfl rfl ?_
              refine wq_gos (f := 1) (pc2 := 34) (ls2 := [(3, .int 3), (0, .ref 162), (1, .int 1), (2, .int 5)]) (st2 := [.int ((nI pl) + (3 : Int32))]) (h2 := h) (dc2 := dc) (ds2 := ds) 2 rfl ?_
              refine wq_vi (show (nI pl) + (3 : Int32) = nI (pl + 3) from nI_add pl 3) ?_
              refine wq_gos (f := 1) (pc2 := 35) (ls2 := [(3, .int 3), (0, .ref 162), (1, .int 1), (2, .int 5)]) (st2 := [.ref 162, .int (nI (pl + 3))]) (h2 := h) (dc2 := dc) (ds2 := ds) 1 rfl ?_
              refine wq_getf rfl hM rfl rfl ?_
              try have q20x := nI_toInt (n := (pl + 3)) (by omega)
              refine wq_ge2 rfl rfl (fun b21x => ?_) (fun b21x => ?_)
              · refine wq_sp1 rfl rfl ?_
                refine wq_gos (f := 1) (pc2 := 74) (ls2 := [(3, .int 3), (0, .ref 162), (1, .int 1), (2, .int 5)]) (st2 := [.int 8, .ref 13]) (h2 := h) (dc2 := dc) (ds2 := ds) 3 rfl ?_
                refine wq_sp1 rfl rfl ?_
                show wq 161 77 [(3, .int 3), (0, .ref 162), (1, .int 1), (2, .int 5)] [.int 100] h dc ds _
                refine wq_gos (f := 1) (pc2 := 97) (ls2 := [(3, .int 3), (0, .ref 162), (1, .int 1), (2, .int 5)]) (st2 := []) (h2 := h) (dc2 := dc) (ds2 := ds) 2 rfl ?_
                refine wq_sp1 rfl rfl ?_
                refine wq_gos (f := 1) (pc2 := 100) (ls2 := [(3, .int 3), (0, .ref 162), (1, .int 1), (2, .int 5)]) (st2 := [.int 5, .ref 13]) (h2 := h) (dc2 := dc) (ds2 := ds) 1 rfl ?_
                refine wq_sp1 rfl rfl ?_
                show wq 161 103 [(3, .int 3), (0, .ref 162), (1, .int 1), (2, .int 5)] [.int 104] h dc ds _
                refine wq_gos (f := 1) (pc2 := 97) (ls2 := [(2, .int 6), (3, .int 3), (0, .ref 162), (1, .int 1)]) (st2 := []) (h2 := h) (dc2 := dc) (ds2 := ds) 4 rfl ?_
                refine wq_sp1 rfl rfl ?_
                refine wq_gos (f := 1) (pc2 := 100) (ls2 := [(2, .int 6), (3, .int 3), (0, .ref 162), (1, .int 1)]) (st2 := [.int 6, .ref 13]) (h2 := h) (dc2 := dc) (ds2 := ds) 1 rfl ?_
                refine wq_sp1 rfl rfl ?_
                show wq 161 103 [(2, .int 6), (3, .int 3), (0, .ref 162), (1, .int 1)] [.int 97] h dc ds _
                refine wq_gos (f := 1) (pc2 := 97) (ls2 := [(2, .int 7), (3, .int 3), (0, .ref 162), (1, .int 1)]) (st2 := []) (h2 := h) (dc2 := dc) (ds2 := ds) 4 rfl ?_
                refine wq_sp1 rfl rfl ?_
                refine wq_gos (f := 1) (pc2 := 100) (ls2 := [(2, .int 7), (3, .int 3), (0, .ref 162), (1, .int 1)]) (st2 := [.int 7, .ref 13]) (h2 := h) (dc2 := dc) (ds2 := ds) 1 rfl ?_
                refine wq_sp1 rfl rfl ?_
                show wq 161 103 [(2, .int 7), (3, .int 3), (0, .ref 162), (1, .int 1)] [.int 110] h dc ds _
                refine wq_gos (f := 1) (pc2 := 97) (ls2 := [(2, .int 8), (3, .int 3), (0, .ref 162), (1, .int 1)]) (st2 := []) (h2 := h) (dc2 := dc) (ds2 := ds) 4 rfl ?_
                refine wq_sp1 rfl rfl ?_
                refine wq_gos (f := 1) (pc2 := 100) (ls2 := [(2, .int 8), (3, .int 3), (0, .ref 162), (1, .int 1)]) (st2 := [.int 8, .ref 13]) (h2 := h) (dc2 := dc) (ds2 := ds) 1 rfl ?_
                refine wq_sp1 rfl rfl ?_
                show wq 161 103 [(2, .int 8), (3, .int 3), (0, .ref 162), (1, .int 1)] [.int 100] h dc ds _
                refine wq_gos (f := 1) (pc2 := 97) (ls2 := [(2, .int 9), (3, .int 3), (0, .ref 162), (1, .int 1)]) (st2 := []) (h2 := h) (dc2 := dc) (ds2 := ds) 4 rfl ?_
                refine wq_sp1 rfl rfl ?_
                refine wq_gos (f := 1) (pc2 := 100) (ls2 := [(2, .int 9), (3, .int 3), (0, .ref 162), (1, .int 1)]) (st2 := [.int 9, .ref 13]) (h2 := h) (dc2 := dc) (ds2 := ds) 1 rfl ?_
                refine wq_sp1 rfl rfl ?_
                show wq 161 103 [(2, .int 9), (3, .int 3), (0, .ref 162), (1, .int 1)] [.int 32] h dc ds _
                refine wq_gos (f := 1) (pc2 := 4) (ls2 := [(1, .int 2), (2, .int 10), (3, .int 3), (0, .ref 162)]) (st2 := []) (h2 := h) (dc2 := dc) (ds2 := ds) 5 rfl ?_
                refine wq_ls [(0, .ref 162), (1, .int 2), (2, .int 10)] (show ([0, 1, 2] : List Nat).Nodup by decide) ⟨rfl, rfl, rfl, trivial⟩ ?_
                exact kN (by unfold mWs1; rw [if_neg (Int.not_le.mpr b3x), if_neg (fun q => q b5x), if_neg (Int.not_le.mpr b9x), if_neg (fun q => q b11x), if_neg (Int.not_le.mpr b15x), if_neg (fun q => q b17x), if_pos b21x])
              · refine wq_gos (f := 1) (pc2 := 42) (ls2 := [(3, .int 3), (0, .ref 162), (1, .int 1), (2, .int 5)]) (st2 := [.ref 162]) (h2 := h) (dc2 := dc) (ds2 := ds) 1 rfl ?_
                refine wq_getf rfl hM rfl rfl ?_
                refine wq_gos (f := 1) (pc2 := 46) (ls2 := [(3, .int 3), (0, .ref 162), (1, .int 1), (2, .int 5)]) (st2 := [.ref 162, .ref 164]) (h2 := h) (dc2 := dc) (ds2 := ds) 1 rfl ?_
                refine wq_getf rfl hM rfl rfl ?_
                refine wq_gos (f := 1) (pc2 := 51) (ls2 := [(3, .int 3), (0, .ref 162), (1, .int 1), (2, .int 5)]) (st2 := [.int ((nI pl) + (3 : Int32)), .ref 164]) (h2 := h) (dc2 := dc) (ds2 := ds) 2 rfl ?_
                refine wq_vi (show (nI pl) + (3 : Int32) = nI (pl + 3) from nI_add pl 3) ?_
                refine wq_ialdn rfl hT (by first | omega | exact zin_t (by omega) (by omega)) (by decide) rfl ?_
                refine wq_sp1 rfl rfl ?_
                refine wq_gos (f := 1) (pc2 := 57) (ls2 := [(3, .int 3), (0, .ref 162), (1, .int 1), (2, .int 5)]) (st2 := [.int 8, .ref 13, .int (tb.getD (pl + 3) 0)]) (h2 := h) (dc2 := dc) (ds2 := ds) 3 rfl ?_
                refine wq_sp1 rfl rfl ?_
                show wq 161 60 [(3, .int 3), (0, .ref 162), (1, .int 1), (2, .int 5)] [.int 100, .int (tb.getD (pl + 3) 0)] h dc ds _
                have q22x : (100 : Int32).toInt = 100 := rfl
                refine wq_ne2 rfl rfl (fun b23x => ?_) (fun b23x => ?_)
                · have q24x : (tb.getD (pl + 3) 0).toInt ≠ 100 := fun q => b23x (Int32.toInt_inj.mp q)
                  refine wq_sp1 rfl rfl ?_
                  refine wq_gos (f := 1) (pc2 := 74) (ls2 := [(3, .int 3), (0, .ref 162), (1, .int 1), (2, .int 5)]) (st2 := [.int 8, .ref 13]) (h2 := h) (dc2 := dc) (ds2 := ds) 3 rfl ?_
                  refine wq_sp1 rfl rfl ?_
                  show wq 161 77 [(3, .int 3), (0, .ref 162), (1, .int 1), (2, .int 5)] [.int 100] h dc ds _
                  refine wq_gos (f := 1) (pc2 := 97) (ls2 := [(3, .int 3), (0, .ref 162), (1, .int 1), (2, .int 5)]) (st2 := []) (h2 := h) (dc2 := dc) (ds2 := ds) 2 rfl ?_
                  refine wq_sp1 rfl rfl ?_
                  refine wq_gos (f := 1) (pc2 := 100) (ls2 := [(3, .int 3), (0, .ref 162), (1, .int 1), (2, .int 5)]) (st2 := [.int 5, .ref 13]) (h2 := h) (dc2 := dc) (ds2 := ds) 1 rfl ?_
                  refine wq_sp1 rfl rfl ?_
                  show wq 161 103 [(3, .int 3), (0, .ref 162), (1, .int 1), (2, .int 5)] [.int 104] h dc ds _
                  refine wq_gos (f := 1) (pc2 := 97) (ls2 := [(2, .int 6), (3, .int 3), (0, .ref 162), (1, .int 1)]) (st2 := []) (h2 := h) (dc2 := dc) (ds2 := ds) 4 rfl ?_
                  refine wq_sp1 rfl rfl ?_
                  refine wq_gos (f := 1) (pc2 := 100) (ls2 := [(2, .int 6), (3, .int 3), (0, .ref 162), (1, .int 1)]) (st2 := [.int 6, .ref 13]) (h2 := h) (dc2 := dc) (ds2 := ds) 1 rfl ?_
                  refine wq_sp1 rfl rfl ?_
                  show wq 161 103 [(2, .int 6), (3, .int 3), (0, .ref 162), (1, .int 1)] [.int 97] h dc ds _
                  refine wq_gos (f := 1) (pc2 := 97) (ls2 := [(2, .int 7), (3, .int 3), (0, .ref 162), (1, .int 1)]) (st2 := []) (h2 := h) (dc2 := dc) (ds2 := ds) 4 rfl ?_
                  refine wq_sp1 rfl rfl ?_
                  refine wq_gos (f := 1) (pc2 := 100) (ls2 := [(2, .int 7), (3, .int 3), (0, .ref 162), (1, .int 1)]) (st2 := [.int 7, .ref 13]) (h2 := h) (dc2 := dc) (ds2 := ds) 1 rfl ?_
                  refine wq_sp1 rfl rfl ?_
                  show wq 161 103 [(2, .int 7), (3, .int 3), (0, .ref 162), (1, .int 1)] [.int 110] h dc ds _
                  refine wq_gos (f := 1) (pc2 := 97) (ls2 := [(2, .int 8), (3, .int 3), (0, .ref 162), (1, .int 1)]) (st2 := []) (h2 := h) (dc2 := dc) (ds2 := ds) 4 rfl ?_
                  refine wq_sp1 rfl rfl ?_
                  refine wq_gos (f := 1) (pc2 := 100) (ls2 := [(2, .int 8), (3, .int 3), (0, .ref 162), (1, .int 1)]) (st2 := [.int 8, .ref 13]) (h2 := h) (dc2 := dc) (ds2 := ds) 1 rfl ?_
                  refine wq_sp1 rfl rfl ?_
                  show wq 161 103 [(2, .int 8), (3, .int 3), (0, .ref 162), (1, .int 1)] [.int 100] h dc ds _
                  refine wq_gos (f := 1) (pc2 := 97) (ls2 := [(2, .int 9), (3, .int 3), (0, .ref 162), (1, .int 1)]) (st2 := []) (h2 := h) (dc2 := dc) (ds2 := ds) 4 rfl ?_
                  refine wq_sp1 rfl rfl ?_
                  refine wq_gos (f := 1) (pc2 := 100) (ls2 := [(2, .int 9), (3, .int 3), (0, .ref 162), (1, .int 1)]) (st2 := [.int 9, .ref 13]) (h2 := h) (dc2 := dc) (ds2 := ds) 1 rfl ?_
                  refine wq_sp1 rfl rfl ?_
                  show wq 161 103 [(2, .int 9), (3, .int 3), (0, .ref 162), (1, .int 1)] [.int 32] h dc ds _
                  refine wq_gos (f := 1) (pc2 := 4) (ls2 := [(1, .int 2), (2, .int 10), (3, .int 3), (0, .ref 162)]) (st2 := []) (h2 := h) (dc2 := dc) (ds2 := ds) 5 rfl ?_
                  refine wq_ls [(0, .ref 162), (1, .int 2), (2, .int 10)] (show ([0, 1, 2] : List Nat).Nodup by decide) ⟨rfl, rfl, rfl, trivial⟩ ?_
                  exact kN (by unfold mWs1; rw [if_neg (Int.not_le.mpr b3x), if_neg (fun q => q b5x), if_neg (Int.not_le.mpr b9x), if_neg (fun q => q b11x), if_neg (Int.not_le.mpr b15x), if_neg (fun q => q b17x), if_neg (Int.not_le.mpr b21x), if_pos b23x])
                · have q25x : (tb.getD (pl + 3) 0).toInt = 100 := congrArg Int32.toInt b23x
                  refine wq_gos (f := 1) (pc2 := 15) (ls2 := [(3, .int 4), (0, .ref 162), (1, .int 1), (2, .int 5)]) (st2 := []) (h2 := h) (dc2 := dc) (ds2 := ds) 2 rfl ?_
                  refine wq_sp1 rfl rfl ?_
                  refine wq_gos (f := 1) (pc2 := 20) (ls2 := [(3, .int 4), (0, .ref 162), (1, .int 1), (2, .int 5)]) (st2 := [.int 9, .ref 13]) (h2 := h) (dc2 := dc) (ds2 := ds) 3 rfl ?_
                  refine wq_sp1 rfl rfl ?_
                  show wq 161 23 [(3, .int 4), (0, .ref 162), (1, .int 1), (2, .int 5)] [.int 32] h dc ds _
                  refine wq_gos (f := 1) (pc2 := 69) (ls2 := [(3, .int 4), (0, .ref 162), (1, .int 1), (2, .int 5)]) (st2 := []) (h2 := h) (dc2 := dc) (ds2 := ds) 2 rfl ?_
                  refine wq_sp1 rfl rfl ?_
                  refine wq_gos (f := 1) (pc2 := 74) (ls2 := [(3, .int 4), (0, .ref 162), (1, .int 1), (2, .int 5)]) (st2 := [.int 9, .ref 13]) (h2 := h) (dc2 := dc) (ds2 := ds) 3 rfl ?_
                  refine wq_sp1 rfl rfl ?_
                  show wq 161 77 [(3, .int 4), (0, .ref 162), (1, .int 1), (2, .int 5)] [.int 32] h dc ds _
                  refine wq_gos (f := 1) (pc2 := 83) (ls2 := [(3, .int 4), (0, .ref 162), (1, .int 1), (2, .int 5)]) (st2 := [.ref 162]) (h2 := h) (dc2 := dc) (ds2 := ds) 3 rfl ?_
                  refine wq_getf rfl hM rfl rfl ?_
                  refine wq_gos (f := 1) (pc2 := 88) (ls2 := [(3, .int 4), (0, .ref 162), (1, .int 1), (2, .int 5)]) (st2 := [.int ((nI pl) + (4 : Int32))]) (h2 := h) (dc2 := dc) (ds2 := ds) 2 rfl ?_
                  refine wq_vi (show (nI pl) + (4 : Int32) = nI (pl + 4) from nI_add pl 4) ?_
                  refine wq_gos (f := 1) (pc2 := 89) (ls2 := [(3, .int 4), (0, .ref 162), (1, .int 1), (2, .int 5)]) (st2 := [.ref 162, .int (nI (pl + 4))]) (h2 := h) (dc2 := dc) (ds2 := ds) 1 rfl ?_
                  refine wq_getf rfl hM rfl rfl ?_
                  try have q26x := nI_toInt (n := (pl + 4)) (by omega)
                  refine wq_ne2 rfl rfl (fun b27x => ?_) (fun b27x => ?_)
                  · have q28x : (nI (pl + 4)).toInt ≠ (nI at9).toInt := fun q => b27x (Int32.toInt_inj.mp q)
                    refine wq_sp1 rfl rfl ?_
                    refine wq_gos (f := 1) (pc2 := 100) (ls2 := [(3, .int 4), (0, .ref 162), (1, .int 1), (2, .int 5)]) (st2 := [.int 5, .ref 13]) (h2 := h) (dc2 := dc) (ds2 := ds) 1 rfl ?_
                    refine wq_sp1 rfl rfl ?_
                    show wq 161 103 [(3, .int 4), (0, .ref 162), (1, .int 1), (2, .int 5)] [.int 104] h dc ds _
                    refine wq_gos (f := 1) (pc2 := 97) (ls2 := [(2, .int 6), (3, .int 4), (0, .ref 162), (1, .int 1)]) (st2 := []) (h2 := h) (dc2 := dc) (ds2 := ds) 4 rfl ?_
                    refine wq_sp1 rfl rfl ?_
                    refine wq_gos (f := 1) (pc2 := 100) (ls2 := [(2, .int 6), (3, .int 4), (0, .ref 162), (1, .int 1)]) (st2 := [.int 6, .ref 13]) (h2 := h) (dc2 := dc) (ds2 := ds) 1 rfl ?_
                    refine wq_sp1 rfl rfl ?_
                    show wq 161 103 [(2, .int 6), (3, .int 4), (0, .ref 162), (1, .int 1)] [.int 97] h dc ds _
                    refine wq_gos (f := 1) (pc2 := 97) (ls2 := [(2, .int 7), (3, .int 4), (0, .ref 162), (1, .int 1)]) (st2 := []) (h2 := h) (dc2 := dc) (ds2 := ds) 4 rfl ?_
                    refine wq_sp1 rfl rfl ?_
                    refine wq_gos (f := 1) (pc2 := 100) (ls2 := [(2, .int 7), (3, .int 4), (0, .ref 162), (1, .int 1)]) (st2 := [.int 7, .ref 13]) (h2 := h) (dc2 := dc) (ds2 := ds) 1 rfl ?_
                    refine wq_sp1 rfl rfl ?_
                    show wq 161 103 [(2, .int 7), (3, .int 4), (0, .ref 162), (1, .int 1)] [.int 110] h dc ds _
                    refine wq_gos (f := 1) (pc2 := 97) (ls2 := [(2, .int 8), (3, .int 4), (0, .ref 162), (1, .int 1)]) (st2 := []) (h2 := h) (dc2 := dc) (ds2 := ds) 4 rfl ?_
                    refine wq_sp1 rfl rfl ?_
                    refine wq_gos (f := 1) (pc2 := 100) (ls2 := [(2, .int 8), (3, .int 4), (0, .ref 162), (1, .int 1)]) (st2 := [.int 8, .ref 13]) (h2 := h) (dc2 := dc) (ds2 := ds) 1 rfl ?_
                    refine wq_sp1 rfl rfl ?_
                    show wq 161 103 [(2, .int 8), (3, .int 4), (0, .ref 162), (1, .int 1)] [.int 100] h dc ds _
                    refine wq_gos (f := 1) (pc2 := 97) (ls2 := [(2, .int 9), (3, .int 4), (0, .ref 162), (1, .int 1)]) (st2 := []) (h2 := h) (dc2 := dc) (ds2 := ds) 4 rfl ?_
                    refine wq_sp1 rfl rfl ?_
                    refine wq_gos (f := 1) (pc2 := 100) (ls2 := [(2, .int 9), (3, .int 4), (0, .ref 162), (1, .int 1)]) (st2 := [.int 9, .ref 13]) (h2 := h) (dc2 := dc) (ds2 := ds) 1 rfl ?_
                    refine wq_sp1 rfl rfl ?_
                    show wq 161 103 [(2, .int 9), (3, .int 4), (0, .ref 162), (1, .int 1)] [.int 32] h dc ds _
                    refine wq_gos (f := 1) (pc2 := 4) (ls2 := [(1, .int 2), (2, .int 10), (3, .int 4), (0, .ref 162)]) (st2 := []) (h2 := h) (dc2 := dc) (ds2 := ds) 5 rfl ?_
                    refine wq_ls [(0, .ref 162), (1, .int 2), (2, .int 10)] (show ([0, 1, 2] : List Nat).Nodup by decide) ⟨rfl, rfl, rfl, trivial⟩ ?_
                    exact kN (by unfold mWs1; rw [if_neg (Int.not_le.mpr b3x), if_neg (fun q => q b5x), if_neg (Int.not_le.mpr b9x), if_neg (fun q => q b11x), if_neg (Int.not_le.mpr b15x), if_neg (fun q => q b17x), if_neg (Int.not_le.mpr b21x), if_neg (fun q => q b23x), if_pos b27x])
                  · have q29x : (nI (pl + 4)).toInt = (nI at9).toInt := congrArg Int32.toInt b27x
                    refine wq_gos (f := 1) (pc2 := 96) (ls2 := [(3, .int 4), (0, .ref 162), (1, .int 1), (2, .int 5)]) (st2 := [.int 1]) (h2 := h) (dc2 := dc) (ds2 := ds) 1 rfl ?_
                    exact wq_ret rfl rfl (kR (by unfold mWs1; rw [if_neg (Int.not_le.mpr b3x), if_neg (fun q => q b5x), if_neg (Int.not_le.mpr b9x), if_neg (fun q => q b11x), if_neg (Int.not_le.mpr b15x), if_neg (fun q => q b17x), if_neg (Int.not_le.mpr b21x), if_neg (fun q => q b23x), if_neg (fun q => q b27x)]))
noncomputable def mWs2 (tb : List Int32) (at9 pl : Nat) : Nat := (if (nI at9).toInt ≤ (nI (pl + 0)).toInt then 0 else (if (tb.getD (pl + 0) 0) ≠ (104 : Int32) then 0 else (if (nI at9).toInt ≤ (nI (pl + 1)).toInt then 0 else (if (tb.getD (pl + 1) 0) ≠ (101 : Int32) then 0 else (if (nI at9).toInt ≤ (nI (pl + 2)).toInt then 0 else (if (tb.getD (pl + 2) 0) ≠ (105 : Int32) then 0 else (if (nI at9).toInt ≤ (nI (pl + 3)).toInt then 0 else (if (tb.getD (pl + 3) 0) ≠ (103 : Int32) then 0 else (if (nI at9).toInt ≤ (nI (pl + 4)).toInt then 0 else (if (tb.getD (pl + 4) 0) ≠ (104 : Int32) then 0 else (if (nI at9).toInt ≤ (nI (pl + 5)).toInt then 0 else (if (tb.getD (pl + 5) 0) ≠ (116 : Int32) then 0 else (if (nI (pl + 6)) ≠ (nI at9) then 0 else 1)))))))))))))
set_option maxRecDepth 100000 in
set_option maxHeartbeats 4000000 in
theorem m_w2 {h : zH} {Q : zR → Prop} {dc ds : Nat} {n0 n2 n14 n22 n23 n27 n28 n32 n33 n34 n35 n39 n52 : Int32} {sz at9 pl : Nat} {so va ft fp : Int32} {tb : List Int32} (hM : zat h 162 = some (.inr (.inr (.inr (10, mO n0 n2 n14 (nI sz) (nI at9) (nI pl) so va ft fp n22 n23 n27 n28 n32 n33 n34 n35 n39 n52))))) (hT : zat h 164 = some (.inl (0, 700, tb))) (hsz : sz ≤ 700) (ha : at9 ≤ sz) (hp : pl ≤ at9) (kN : ((mWs2 tb at9 pl) = 0) → wq 161 4 [(0, .ref 162), (1, .int 3), (2, .int 17)] [] h dc ds Q) (kR : ((mWs2 tb at9 pl) = 1) → Q (some (.int 2), h, dc, ds)) : wq 161 4 [(0, .ref 162), (1, .int 2), (2, .int 10)] [] h dc ds Q := by
  have qnat9 := nI_toInt (n := at9) (by omega)
  have qnpl := nI_toInt (n := pl) (by omega)
  have qp0 := nI_toInt (n := pl + 0) (by omega)
  have qp1 := nI_toInt (n := pl + 1) (by omega)
  have qp2 := nI_toInt (n := pl + 2) (by omega)
  have qp3 := nI_toInt (n := pl + 3) (by omega)
  have qp4 := nI_toInt (n := pl + 4) (by omega)
  have qp5 := nI_toInt (n := pl + 5) (by omega)
  have qp6 := nI_toInt (n := pl + 6) (by omega)
  have qp7 := nI_toInt (n := pl + 7) (by omega)
  refine wq_gos (f := 1) (pc2 := 5) (ls2 := [(0, .ref 162), (1, .int 2), (2, .int 10)]) (st2 := [.int 10]) (h2 := h) (dc2 := dc) (ds2 := ds) 1 rfl ?_
  refine wq_sp1 rfl rfl ?_
  refine wq_sp1 rfl rfl ?_
  refine wq_gos (f := 1) (pc2 := 15) (ls2 := [(3, .int 0), (0, .ref 162), (1, .int 2), (2, .int 10)]) (st2 := []) (h2 := h) (dc2 := dc) (ds2 := ds) 3 rfl ?_
  refine wq_sp1 rfl rfl ?_
  refine wq_gos (f := 1) (pc2 := 20) (ls2 := [(3, .int 0), (0, .ref 162), (1, .int 2), (2, .int 10)]) (st2 := [.int 10, .ref 13]) (h2 := h) (dc2 := dc) (ds2 := ds) 3 rfl ?_
  refine wq_sp1 rfl rfl ?_
  show wq 161 23 [(3, .int 0), (0, .ref 162), (1, .int 2), (2, .int 10)] [.int 104] h dc ds _
  refine wq_gos (f := 1) (pc2 := 29) (ls2 := [(3, .int 0), (0, .ref 162), (1, .int 2), (2, .int 10)]) (st2 := [.ref 162]) (h2 := h) (dc2 := dc) (ds2 := ds) 3 rfl ?_
  refine wq_getf rfl hM rfl rfl ?_
  refine wq_gos (f := 1) (pc2 := 34) (ls2 := [(3, .int 0), (0, .ref 162), (1, .int 2), (2, .int 10)]) (st2 := [.int ((nI pl) + (0 : Int32))]) (h2 := h) (dc2 := dc) (ds2 := ds) 2 rfl ?_
  refine wq_vi (show (nI pl) + (0 : Int32) = nI (pl + 0) from nI_add pl 0) ?_
  refine wq_gos (f := 1) (pc2 := 35) (ls2 := [(3, .int 0), (0, .ref 162), (1, .int 2), (2, .int 10)]) (st2 := [.ref 162, .int (nI (pl + 0))]) (h2 := h) (dc2 := dc) (ds2 := ds) 1 rfl ?_
  refine wq_getf rfl hM rfl rfl ?_
  try have q1x := nI_toInt (n := (pl + 0)) (by omega)
  try have q2x := nI_toInt (n := at9) (by omega)
  refine wq_ge2 rfl rfl (fun b3x => ?_) (fun b3x => ?_)
  · refine wq_sp1 rfl rfl ?_
    refine wq_gos (f := 1) (pc2 := 74) (ls2 := [(3, .int 0), (0, .ref 162), (1, .int 2), (2, .int 10)]) (st2 := [.int 10, .ref 13]) (h2 := h) (dc2 := dc) (ds2 := ds) 3 rfl ?_
    refine wq_sp1 rfl rfl ?_
    show wq 161 77 [(3, .int 0), (0, .ref 162), (1, .int 2), (2, .int 10)] [.int 104] h dc ds _
    refine wq_gos (f := 1) (pc2 := 97) (ls2 := [(3, .int 0), (0, .ref 162), (1, .int 2), (2, .int 10)]) (st2 := []) (h2 := h) (dc2 := dc) (ds2 := ds) 2 rfl ?_
    refine wq_sp1 rfl rfl ?_
    refine wq_gos (f := 1) (pc2 := 100) (ls2 := [(3, .int 0), (0, .ref 162), (1, .int 2), (2, .int 10)]) (st2 := [.int 10, .ref 13]) (h2 := h) (dc2 := dc) (ds2 := ds) 1 rfl ?_
    refine wq_sp1 rfl rfl ?_
    show wq 161 103 [(3, .int 0), (0, .ref 162), (1, .int 2), (2, .int 10)] [.int 104] h dc ds _
    refine wq_gos (f := 1) (pc2 := 97) (ls2 := [(2, .int 11), (3, .int 0), (0, .ref 162), (1, .int 2)]) (st2 := []) (h2 := h) (dc2 := dc) (ds2 := ds) 4 rfl ?_
    refine wq_sp1 rfl rfl ?_
    refine wq_gos (f := 1) (pc2 := 100) (ls2 := [(2, .int 11), (3, .int 0), (0, .ref 162), (1, .int 2)]) (st2 := [.int 11, .ref 13]) (h2 := h) (dc2 := dc) (ds2 := ds) 1 rfl ?_
    refine wq_sp1 rfl rfl ?_
    show wq 161 103 [(2, .int 11), (3, .int 0), (0, .ref 162), (1, .int 2)] [.int 101] h dc ds _
    refine wq_gos (f := 1) (pc2 := 97) (ls2 := [(2, .int 12), (3, .int 0), (0, .ref 162), (1, .int 2)]) (st2 := []) (h2 := h) (dc2 := dc) (ds2 := ds) 4 rfl ?_
    refine wq_sp1 rfl rfl ?_
    refine wq_gos (f := 1) (pc2 := 100) (ls2 := [(2, .int 12), (3, .int 0), (0, .ref 162), (1, .int 2)]) (st2 := [.int 12, .ref 13]) (h2 := h) (dc2 := dc) (ds2 := ds) 1 rfl ?_
    refine wq_sp1 rfl rfl ?_
    show wq 161 103 [(2, .int 12), (3, .int 0), (0, .ref 162), (1, .int 2)] [.int 105] h dc ds _
    refine wq_gos (f := 1) (pc2 := 97) (ls2 := [(2, .int 13), (3, .int 0), (0, .ref 162), (1, .int 2)]) (st2 := []) (h2 := h) (dc2 := dc) (ds2 := ds) 4 rfl ?_
    refine wq_sp1 rfl rfl ?_
    refine wq_gos (f := 1) (pc2 := 100) (ls2 := [(2, .int 13), (3, .int 0), (0, .ref 162), (1, .int 2)]) (st2 := [.int 13, .ref 13]) (h2 := h) (dc2 := dc) (ds2 := ds) 1 rfl ?_
    refine wq_sp1 rfl rfl ?_
    show wq 161 103 [(2, .int 13), (3, .int 0), (0, .ref 162), (1, .int 2)] [.int 103] h dc ds _
    refine wq_gos (f := 1) (pc2 := 97) (ls2 := [(2, .int 14), (3, .int 0), (0, .ref 162), (1, .int 2)]) (st2 := []) (h2 := h) (dc2 := dc) (ds2 := ds) 4 rfl ?_
    refine wq_sp1 rfl rfl ?_
    refine wq_gos (f := 1) (pc2 := 100) (ls2 := [(2, .int 14), (3, .int 0), (0, .ref 162), (1, .int 2)]) (st2 := [.int 14, .ref 13]) (h2 := h) (dc2 := dc) (ds2 := ds) 1 rfl ?_
    refine wq_sp1 rfl rfl ?_
    show wq 161 103 [(2, .int 14), (3, .int 0), (0, .ref 162), (1, .int 2)] [.int 104] h dc ds _
    refine wq_gos (f := 1) (pc2 := 97) (ls2 := [(2, .int 15), (3, .int 0), (0, .ref 162), (1, .int 2)]) (st2 := []) (h2 := h) (dc2 := dc) (ds2 := ds) 4 rfl ?_
    refine wq_sp1 rfl rfl ?_
    refine wq_gos (f := 1) (pc2 := 100) (ls2 := [(2, .int 15), (3, .int 0), (0, .ref 162), (1, .int 2)]) (st2 := [.int 15, .ref 13]) (h2 := h) (dc2 := dc) (ds2 := ds) 1 rfl ?_
    refine wq_sp1 rfl rfl ?_
    show wq 161 103 [(2, .int 15), (3, .int 0), (0, .ref 162), (1, .int 2)] [.int 116] h dc ds _
    refine wq_gos (f := 1) (pc2 := 97) (ls2 := [(2, .int 16), (3, .int 0), (0, .ref 162), (1, .int 2)]) (st2 := []) (h2 := h) (dc2 := dc) (ds2 := ds) 4 rfl ?_
    refine wq_sp1 rfl rfl ?_
    refine wq_gos (f := 1) (pc2 := 100) (ls2 := [(2, .int 16), (3, .int 0), (0, .ref 162), (1, .int 2)]) (st2 := [.int 16, .ref 13]) (h2 := h) (dc2 := dc) (ds2 := ds) 1 rfl ?_
    refine wq_sp1 rfl rfl ?_
    show wq 161 103 [(2, .int 16), (3, .int 0), (0, .ref 162), (1, .int 2)] [.int 32] h dc ds _
    refine wq_gos (f := 1) (pc2 := 4) (ls2 := [(1, .int 3), (2, .int 17), (3, .int 0), (0, .ref 162)]) (st2 := []) (h2 := h) (dc2 := dc) (ds2 := ds) 5 rfl ?_
    refine wq_ls [(0, .ref 162), (1, .int 3), (2, .int 17)] (show ([0, 1, 2] : List Nat).Nodup by decide) ⟨rfl, rfl, rfl, trivial⟩ ?_
    exact kN (by unfold mWs2; rw [if_pos b3x])
  · refine wq_gos (f := 1) (pc2 := 42) (ls2 := [(3, .int 0), (0, .ref 162), (1, .int 2), (2, .int 10)]) (st2 := [.ref 162]) (h2 := h) (dc2 := dc) (ds2 := ds) 1 rfl ?_
    refine wq_getf rfl hM rfl rfl ?_
    refine wq_gos (f := 1) (pc2 := 46) (ls2 := [(3, .int 0), (0, .ref 162), (1, .int 2), (2, .int 10)]) (st2 := [.ref 162, .ref 164]) (h2 := h) (dc2 := dc) (ds2 := ds) 1 rfl ?_
    refine wq_getf rfl hM rfl rfl ?_
    refine wq_gos (f := 1) (pc2 := 51) (ls2 := [(3, .int 0), (0, .ref 162), (1, .int 2), (2, .int 10)]) (st2 := [.int ((nI pl) + (0 : Int32)), .ref 164]) (h2 := h) (dc2 := dc) (ds2 := ds) 2 rfl ?_
    refine wq_vi (show (nI pl) + (0 : Int32) = nI (pl + 0) from nI_add pl 0) ?_
    refine wq_ialdn rfl hT (by first | omega | exact zin_t (by omega) (by omega)) (by decide) rfl ?_
    refine wq_sp1 rfl rfl ?_
    refine wq_gos (f := 1) (pc2 := 57) (ls2 := [(3, .int 0), (0, .ref 162), (1, .int 2), (2, .int 10)]) (st2 := [.int 10, .ref 13, .int (tb.getD (pl + 0) 0)]) (h2 := h) (dc2 := dc) (ds2 := ds) 3 rfl ?_
    refine wq_sp1 rfl rfl ?_
    show wq 161 60 [(3, .int 0), (0, .ref 162), (1, .int 2), (2, .int 10)] [.int 104, .int (tb.getD (pl + 0) 0)] h dc ds _
    have q4x : (104 : Int32).toInt = 104 := rfl
    refine wq_ne2 rfl rfl (fun b5x => ?_) (fun b5x => ?_)
    · have q6x : (tb.getD (pl + 0) 0).toInt ≠ 104 := fun q => b5x (Int32.toInt_inj.mp q)
      refine wq_sp1 rfl rfl ?_
      refine wq_gos (f := 1) (pc2 := 74) (ls2 := [(3, .int 0), (0, .ref 162), (1, .int 2), (2, .int 10)]) (st2 := [.int 10, .ref 13]) (h2 := h) (dc2 := dc) (ds2 := ds) 3 rfl ?_
      refine wq_sp1 rfl rfl ?_
      show wq 161 77 [(3, .int 0), (0, .ref 162), (1, .int 2), (2, .int 10)] [.int 104] h dc ds _
      refine wq_gos (f := 1) (pc2 := 97) (ls2 := [(3, .int 0), (0, .ref 162), (1, .int 2), (2, .int 10)]) (st2 := []) (h2 := h) (dc2 := dc) (ds2 := ds) 2 rfl ?_
      refine wq_sp1 rfl rfl ?_
      refine wq_gos (f := 1) (pc2 := 100) (ls2 := [(3, .int 0), (0, .ref 162), (1, .int 2), (2, .int 10)]) (st2 := [.int 10, .ref 13]) (h2 := h) (dc2 := dc) (ds2 := ds) 1 rfl ?_
      refine wq_sp1 rfl rfl ?_
      show wq 161 103 [(3, .int 0), (0, .ref 162), (1, .int 2), (2, .int 10)] [.int 104] h dc ds _
      refine wq_gos (f := 1) (pc2 := 97) (ls2 := [(2, .int 11), (3, .int 0), (0, .ref 162), (1, .int 2)]) (st2 := []) (h2 := h) (dc2 := dc) (ds2 := ds) 4 rfl ?_
      refine wq_sp1 rfl rfl ?_
      refine wq_gos (f := 1) (pc2 := 100) (ls2 := [(2, .int 11), (3, .int 0), (0, .ref 162), (1, .int 2)]) (st2 := [.int 11, .ref 13]) (h2 := h) (dc2 := dc) (ds2 := ds) 1 rfl ?_
      refine wq_sp1 rfl rfl ?_
      show wq 161 103 [(2, .int 11), (3, .int 0), (0, .ref 162), (1, .int 2)] [.int 101] h dc ds _
      refine wq_gos (f := 1) (pc2 := 97) (ls2 := [(2, .int 12), (3, .int 0), (0, .ref 162), (1, .int 2)]) (st2 := []) (h2 := h) (dc2 := dc) (ds2 := ds) 4 rfl ?_
      refine wq_sp1 rfl rfl ?_
      refine wq_gos (f := 1) (pc2 := 100) (ls2 := [(2, .int 12), (3, .int 0), (0, .ref 162), (1, .int 2)]) (st2 := [.int 12, .ref 13]) (h2 := h) (dc2 := dc) (ds2 := ds) 1 rfl ?_
      refine wq_sp1 rfl rfl ?_
      show wq 161 103 [(2, .int 12), (3, .int 0), (0, .ref 162), (1, .int 2)] [.int 105] h dc ds _
      refine wq_gos (f := 1) (pc2 := 97) (ls2 := [(2, .int 13), (3, .int 0), (0, .ref 162), (1, .int 2)]) (st2 := []) (h2 := h) (dc2 := dc) (ds2 := ds) 4 rfl ?_
      refine wq_sp1 rfl rfl ?_
      refine wq_gos (f := 1) (pc2 := 100) (ls2 := [(2, .int 13), (3, .int 0), (0, .ref 162), (1, .int 2)]) (st2 := [.int 13, .ref 13]) (h2 := h) (dc2 := dc) (ds2 := ds) 1 rfl ?_
      refine wq_sp1 rfl rfl ?_
      show wq 161 103 [(2, .int 13), (3, .int 0), (0, .ref 162), (1, .int 2)] [.int 103] h dc ds _
      refine wq_gos (f := 1) (pc2 := 97) (ls2 := [(2, .int 14), (3, .int 0), (0, .ref 162), (1, .int 2)]) (st2 := []) (h2 := h) (dc2 := dc) (ds2 := ds) 4 rfl ?_
      refine wq_sp1 rfl rfl ?_
      refine wq_gos (f := 1) (pc2 := 100) (ls2 := [(2, .int 14), (3, .int 0), (0, .ref 162), (1, .int 2)]) (st2 := [.int 14, .ref 13]) (h2 := h) (dc2 := dc) (ds2 := ds) 1 rfl ?_
      refine wq_sp1 rfl rfl ?_
      show wq 161 103 [(2, .int 14), (3, .int 0), (0, .ref 162), (1, .int 2)] [.int 104] h dc ds _
      refine wq_gos (f := 1) (pc2 := 97) (ls2 := [(2, .int 15), (3, .int 0), (0, .ref 162), (1, .int 2)]) (st2 := []) (h2 := h) (dc2 := dc) (ds2 := ds) 4 rfl ?_
      refine wq_sp1 rfl rfl ?_
      refine wq_gos (f := 1) (pc2 := 100) (ls2 := [(2, .int 15), (3, .int 0), (0, .ref 162), (1, .int 2)]) (st2 := [.int 15, .ref 13]) (h2 := h) (dc2 := dc) (ds2 := ds) 1 rfl ?_
      refine wq_sp1 rfl rfl ?_
      show wq 161 103 [(2, .int 15), (3, .int 0), (0, .ref 162), (1, .int 2)] [.int 116] h dc ds _
      refine wq_gos (f := 1) (pc2 := 97) (ls2 := [(2, .int 16), (3, .int 0), (0, .ref 162), (1, .int 2)]) (st2 := []) (h2 := h) (dc2 := dc) (ds2 := ds) 4 rfl ?_
      refine wq_sp1 rfl rfl ?_
      refine wq_gos (f := 1) (pc2 := 100) (ls2 := [(2, .int 16), (3, .int 0), (0, .ref 162), (1, .int 2)]) (st2 := [.int 16, .ref 13]) (h2 := h) (dc2 := dc) (ds2 := ds) 1 rfl ?_
      refine wq_sp1 rfl rfl ?_
      show wq 161 103 [(2, .int 16), (3, .int 0), (0, .ref 162), (1, .int 2)] [.int 32] h dc ds _
      refine wq_gos (f := 1) (pc2 := 4) (ls2 := [(1, .int 3), (2, .int 17), (3, .int 0), (0, .ref 162)]) (st2 := []) (h2 := h) (dc2 := dc) (ds2 := ds) 5 rfl ?_
      refine wq_ls [(0, .ref 162), (1, .int 3), (2, .int 17)] (show ([0, 1, 2] : List Nat).Nodup by decide) ⟨rfl, rfl, rfl, trivial⟩ ?_
      exact kN (by unfold mWs2; rw [if_neg (Int.not_le.mpr b3x), if_pos b5x])
    · have q7x : (tb.getD (pl + 0) 0).toInt = 104 := congrArg Int32.toInt b5x
      refine wq_gos (f := 1) (pc2 := 15) (ls2 := [(3, .int 1), (0, .ref 162), (1, .int 2), (2, .int 10)]) (st2 := []) (h2 := h) (dc2 := dc) (ds2 := ds) 2 rfl ?_
      refine wq_sp1 rfl rfl ?_
      refine wq_gos (f := 1) (pc2 := 20) (ls2 := [(3, .int 1), (0, .ref 162), (1, .int 2), (2, .int 10)]) (st2 := [.int 11, .ref 13]) (h2 := h) (dc2 := dc) (ds2 := ds) 3 rfl ?_
      refine wq_sp1 rfl rfl ?_
      show wq 161 23 [(3, .int 1), (0, .ref 162), (1, .int 2), (2, .int 10)] [.int 101] h dc ds _
      refine wq_gos (f := 1) (pc2 := 29) (ls2 := [(3, .int 1), (0, .ref 162), (1, .int 2), (2, .int 10)]) (st2 := [.ref 162]) (h2 := h) (dc2 := dc) (ds2 := ds) 3 rfl ?_
      refine wq_getf rfl hM rfl rfl ?_
      refine wq_gos (f := 1) (pc2 := 34) (ls2 := [(3, .int 1), (0, .ref 162), (1, .int 2), (2, .int 10)]) (st2 := [.int ((nI pl) + (1 : Int32))]) (h2 := h) (dc2 := dc) (ds2 := ds) 2 rfl ?_
      refine wq_vi (show (nI pl) + (1 : Int32) = nI (pl + 1) from nI_add pl 1) ?_
      refine wq_gos (f := 1) (pc2 := 35) (ls2 := [(3, .int 1), (0, .ref 162), (1, .int 2), (2, .int 10)]) (st2 := [.ref 162, .int (nI (pl + 1))]) (h2 := h) (dc2 := dc) (ds2 := ds) 1 rfl ?_
      refine wq_getf rfl hM rfl rfl ?_
      try have q8x := nI_toInt (n := (pl + 1)) (by omega)
      refine wq_ge2 rfl rfl (fun b9x => ?_) (fun b9x => ?_)
      · refine wq_sp1 rfl rfl ?_
        refine wq_gos (f := 1) (pc2 := 74) (ls2 := [(3, .int 1), (0, .ref 162), (1, .int 2), (2, .int 10)]) (st2 := [.int 11, .ref 13]) (h2 := h) (dc2 := dc) (ds2 := ds) 3 rfl ?_
        refine wq_sp1 rfl rfl ?_
        show wq 161 77 [(3, .int 1), (0, .ref 162), (1, .int 2), (2, .int 10)] [.int 101] h dc ds _
        refine wq_gos (f := 1) (pc2 := 97) (ls2 := [(3, .int 1), (0, .ref 162), (1, .int 2), (2, .int 10)]) (st2 := []) (h2 := h) (dc2 := dc) (ds2 := ds) 2 rfl ?_
        refine wq_sp1 rfl rfl ?_
        refine wq_gos (f := 1) (pc2 := 100) (ls2 := [(3, .int 1), (0, .ref 162), (1, .int 2), (2, .int 10)]) (st2 := [.int 10, .ref 13]) (h2 := h) (dc2 := dc) (ds2 := ds) 1 rfl ?_
        refine wq_sp1 rfl rfl ?_
        show wq 161 103 [(3, .int 1), (0, .ref 162), (1, .int 2), (2, .int 10)] [.int 104] h dc ds _
        refine wq_gos (f := 1) (pc2 := 97) (ls2 := [(2, .int 11), (3, .int 1), (0, .ref 162), (1, .int 2)]) (st2 := []) (h2 := h) (dc2 := dc) (ds2 := ds) 4 rfl ?_
        refine wq_sp1 rfl rfl ?_
        refine wq_gos (f := 1) (pc2 := 100) (ls2 := [(2, .int 11), (3, .int 1), (0, .ref 162), (1, .int 2)]) (st2 := [.int 11, .ref 13]) (h2 := h) (dc2 := dc) (ds2 := ds) 1 rfl ?_
        refine wq_sp1 rfl rfl ?_
        show wq 161 103 [(2, .int 11), (3, .int 1), (0, .ref 162), (1, .int 2)] [.int 101] h dc ds _
        refine wq_gos (f := 1) (pc2 := 97) (ls2 := [(2, .int 12), (3, .int 1), (0, .ref 162), (1, .int 2)]) (st2 := []) (h2 := h) (dc2 := dc) (ds2 := ds) 4 rfl ?_
        refine wq_sp1 rfl rfl ?_
        refine wq_gos (f := 1) (pc2 := 100) (ls2 := [(2, .int 12), (3, .int 1), (0, .ref 162), (1, .int 2)]) (st2 := [.int 12, .ref 13]) (h2 := h) (dc2 := dc) (ds2 := ds) 1 rfl ?_
        refine wq_sp1 rfl rfl ?_
        show wq 161 103 [(2, .int 12), (3, .int 1), (0, .ref 162), (1, .int 2)] [.int 105] h dc ds _
        refine wq_gos (f := 1) (pc2 := 97) (ls2 := [(2, .int 13), (3, .int 1), (0, .ref 162), (1, .int 2)]) (st2 := []) (h2 := h) (dc2 := dc) (ds2 := ds) 4 rfl ?_
        refine wq_sp1 rfl rfl ?_
        refine wq_gos (f := 1) (pc2 := 100) (ls2 := [(2, .int 13), (3, .int 1), (0, .ref 162), (1, .int 2)]) (st2 := [.int 13, .ref 13]) (h2 := h) (dc2 := dc) (ds2 := ds) 1 rfl ?_
        refine wq_sp1 rfl rfl ?_
        show wq 161 103 [(2, .int 13), (3, .int 1), (0, .ref 162), (1, .int 2)] [.int 103] h dc ds _
        refine wq_gos (f := 1) (pc2 := 97) (ls2 := [(2, .int 14), (3, .int 1), (0, .ref 162), (1, .int 2)]) (st2 := []) (h2 := h) (dc2 := dc) (ds2 := ds) 4 rfl ?_
        refine wq_sp1 rfl rfl ?_
        refine wq_gos (f := 1) (pc2 := 100) (ls2 := [(2, .int 14), (3, .int 1), (0, .ref 162), (1, .int 2)]) (st2 := [.int 14, .ref 13]) (h2 := h) (dc2 := dc) (ds2 := ds) 1 rfl ?_
        refine wq_sp1 rfl rfl ?_
        show wq 161 103 [(2, .int 14), (3, .int 1), (0, .ref 162), (1, .int 2)] [.int 104] h dc ds _
        refine wq_gos (f := 1) (pc2 := 97) (ls2 := [(2, .int 15), (3, .int 1), (0, .ref 162), (1, .int 2)]) (st2 := []) (h2 := h) (dc2 := dc) (ds2 := ds) 4 rfl ?_
        refine wq_sp1 rfl rfl ?_
        refine wq_gos (f := 1) (pc2 := 100) (ls2 := [(2, .int 15), (3, .int 1), (0, .ref 162), (1, .int 2)]) (st2 := [.int 15, .ref 13]) (h2 := h) (dc2 := dc) (ds2 := ds) 1 rfl ?_
        refine wq_sp1 rfl rfl ?_
        show wq 161 103 [(2, .int 15), (3, .int 1), (0, .ref 162), (1, .int 2)] [.int 116] h dc ds _
        refine wq_gos (f := 1) (pc2 := 97) (ls2 := [(2, .int 16), (3, .int 1), (0, .ref 162), (1, .int 2)]) (st2 := []) (h2 := h) (dc2 := dc) (ds2 := ds) 4 rfl ?_
        refine wq_sp1 rfl rfl ?_
        refine wq_gos (f := 1) (pc2 := 100) (ls2 := [(2, .int 16), (3, .int 1), (0, .ref 162), (1, .int 2)]) (st2 := [.int 16, .ref 13]) (h2 := h) (dc2 := dc) (ds2 := ds) 1 rfl ?_
        refine wq_sp1 rfl rfl ?_
        show wq 161 103 [(2, .int 16), (3, .int 1), (0, .ref 162), (1, .int 2)] [.int 32] h dc ds _
        refine wq_gos (f := 1) (pc2 := 4) (ls2 := [(1, .int 3), (2, .int 17), (3, .int 1), (0, .ref 162)]) (st2 := []) (h2 := h) (dc2 := dc) (ds2 := ds) 5 rfl ?_
        refine wq_ls [(0, .ref 162), (1, .int 3), (2, .int 17)] (show ([0, 1, 2] : List Nat).Nodup by decide) ⟨rfl, rfl, rfl, trivial⟩ ?_
        exact kN (by unfold mWs2; rw [if_neg (Int.not_le.mpr b3x), if_neg (fun q => q b5x), if_pos b9x])
      · refine wq_gos (f := 1) (pc2 := 42) (ls2 := [(3, .int 1), (0, .ref 162), (1, .int 2), (2, .int 10)]) (st2 := [.ref 162]) (h2 := h) (dc2 := dc) (ds2 := ds) 1 rfl ?_
        refine wq_getf rfl hM rfl rfl ?_
        refine wq_gos (f := 1) (pc2 := 46) (ls2 := [(3, .int 1), (0, .ref 162), (1, .int 2), (2, .int 10)]) (st2 := [.ref 162, .ref 164]) (h2 := h) (dc2 := dc) (ds2 := ds) 1 rfl ?_
        refine wq_getf rfl hM rfl rfl ?_
        refine wq_gos (f := 1) (pc2 := 51) (ls2 := [(3, .int 1), (0, .ref 162), (1, .int 2), (2, .int 10)]) (st2 := [.int ((nI pl) + (1 : Int32)), .ref 164]) (h2 := h) (dc2 := dc) (ds2 := ds) 2 rfl ?_
        refine wq_vi (show (nI pl) + (1 : Int32) = nI (pl + 1) from nI_add pl 1) ?_
        refine wq_ialdn rfl hT (by first | omega | exact zin_t (by omega) (by omega)) (by decide) rfl ?_
        refine wq_sp1 rfl rfl ?_
        refine wq_gos (f := 1) (pc2 := 57) (ls2 := [(3, .int 1), (0, .ref 162), (1, .int 2), (2, .int 10)]) (st2 := [.int 11, .ref 13, .int (tb.getD (pl + 1) 0)]) (h2 := h) (dc2 := dc) (ds2 := ds) 3 rfl ?_
        refine wq_sp1 rfl rfl ?_
        show wq 161 60 [(3, .int 1), (0, .ref 162), (1, .int 2), (2, .int 10)] [.int 101, .int (tb.getD (pl + 1) 0)] h dc ds _
        have q10x : (101 : Int32).toInt = 101 := rfl
        refine wq_ne2 rfl rfl (fun b11x => ?_) (fun b11x => ?_)
        · have q12x : (tb.getD (pl + 1) 0).toInt ≠ 101 := fun q => b11x (Int32.toInt_inj.mp q)
          refine wq_sp1 rfl rfl ?_
          refine wq_gos (f := 1) (pc2 := 74) (ls2 := [(3, .int 1), (0, .ref 162), (1, .int 2), (2, .int 10)]) (st2 := [.int 11, .ref 13]) (h2 := h) (dc2 := dc) (ds2 := ds) 3 rfl ?_
          refine wq_sp1 rfl rfl ?_
          show wq 161 77 [(3, .int 1), (0, .ref 162), (1, .int 2), (2, .int 10)] [.int 101] h dc ds _
          refine wq_gos (f := 1) (pc2 := 97) (ls2 := [(3, .int 1), (0, .ref 162), (1, .int 2), (2, .int 10)]) (st2 := []) (h2 := h) (dc2 := dc) (ds2 := ds) 2 rfl ?_
          refine wq_sp1 rfl rfl ?_
          refine wq_gos (f := 1) (pc2 := 100) (ls2 := [(3, .int 1), (0, .ref 162), (1, .int 2), (2, .int 10)]) (st2 := [.int 10, .ref 13]) (h2 := h) (dc2 := dc) (ds2 := ds) 1 rfl ?_
          refine wq_sp1 rfl rfl ?_
          show wq 161 103 [(3, .int 1), (0, .ref 162), (1, .int 2), (2, .int 10)] [.int 104] h dc ds _
          refine wq_gos (f := 1) (pc2 := 97) (ls2 := [(2, .int 11), (3, .int 1), (0, .ref 162), (1, .int 2)]) (st2 := []) (h2 := h) (dc2 := dc) (ds2 := ds) 4 rfl ?_
          refine wq_sp1 rfl rfl ?_
          refine wq_gos (f := 1) (pc2 := 100) (ls2 := [(2, .int 11), (3, .int 1), (0, .ref 162), (1, .int 2)]) (st2 := [.int 11, .ref 13]) (h2 := h) (dc2 := dc) (ds2 := ds) 1 rfl ?_
          refine wq_sp1 rfl rfl ?_
          show wq 161 103 [(2, .int 11), (3, .int 1), (0, .ref 162), (1, .int 2)] [.int 101] h dc ds _
          refine wq_gos (f := 1) (pc2 := 97) (ls2 := [(2, .int 12), (3, .int 1), (0, .ref 162), (1, .int 2)]) (st2 := []) (h2 := h) (dc2 := dc) (ds2 := ds) 4 rfl ?_
          refine wq_sp1 rfl rfl ?_
          refine wq_gos (f := 1) (pc2 := 100) (ls2 := [(2, .int 12), (3, .int 1), (0, .ref 162), (1, .int 2)]) (st2 := [.int 12, .ref 13]) (h2 := h) (dc2 := dc) (ds2 := ds) 1 rfl ?_
          refine wq_sp1 rfl rfl ?_
          show wq 161 103 [(2, .int 12), (3, .int 1), (0, .ref 162), (1, .int 2)] [.int 105] h dc ds _
          refine wq_gos (f := 1) (pc2 := 97) (ls2 := [(2, .int 13), (3, .int 1), (0, .ref 162), (1, .int 2)]) (st2 := []) (h2 := h) (dc2 := dc) (ds2 := ds) 4 rfl ?_
          refine wq_sp1 rfl rfl ?_
          refine wq_gos (f := 1) (pc2 := 100) (ls2 := [(2, .int 13), (3, .int 1), (0, .ref 162), (1, .int 2)]) (st2 := [.int 13, .ref 13]) (h2 := h) (dc2 := dc) (ds2 := ds) 1 rfl ?_
          refine wq_sp1 rfl rfl ?_
          show wq 161 103 [(2, .int 13), (3, .int 1), (0, .ref 162), (1, .int 2)] [.int 103] h dc ds _
          refine wq_gos (f := 1) (pc2 := 97) (ls2 := [(2, .int 14), (3, .int 1), (0, .ref 162), (1, .int 2)]) (st2 := []) (h2 := h) (dc2 := dc) (ds2 := ds) 4 rfl ?_
          refine wq_sp1 rfl rfl ?_
          refine wq_gos (f := 1) (pc2 := 100) (ls2 := [(2, .int 14), (3, .int 1), (0, .ref 162), (1, .int 2)]) (st2 := [.int 14, .ref 13]) (h2 := h) (dc2 := dc) (ds2 := ds) 1 rfl ?_
          refine wq_sp1 rfl rfl ?_
          show wq 161 103 [(2, .int 14), (3, .int 1), (0, .ref 162), (1, .int 2)] [.int 104] h dc ds _
          refine wq_gos (f := 1) (pc2 := 97) (ls2 := [(2, .int 15), (3, .int 1), (0, .ref 162), (1, .int 2)]) (st2 := []) (h2 := h) (dc2 := dc) (ds2 := ds) 4 rfl ?_
          refine wq_sp1 rfl rfl ?_
          refine wq_gos (f := 1) (pc2 := 100) (ls2 := [(2, .int 15), (3, .int 1), (0, .ref 162), (1, .int 2)]) (st2 := [.int 15, .ref 13]) (h2 := h) (dc2 := dc) (ds2 := ds) 1 rfl ?_
          refine wq_sp1 rfl rfl ?_
          show wq 161 103 [(2, .int 15), (3, .int 1), (0, .ref 162), (1, .int 2)] [.int 116] h dc ds _
          refine wq_gos (f := 1) (pc2 := 97) (ls2 := [(2, .int 16), (3, .int 1), (0, .ref 162), (1, .int 2)]) (st2 := []) (h2 := h) (dc2 := dc) (ds2 := ds) 4 rfl ?_
          refine wq_sp1 rfl rfl ?_
          refine wq_gos (f := 1) (pc2 := 100) (ls2 := [(2, .int 16), (3, .int 1), (0, .ref 162), (1, .int 2)]) (st2 := [.int 16, .ref 13]) (h2 := h) (dc2 := dc) (ds2 := ds) 1 rfl ?_
          refine wq_sp1 rfl rfl ?_
          show wq 161 103 [(2, .int 16), (3, .int 1), (0, .ref 162), (1, .int 2)] [.int 32] h dc ds _
          refine wq_gos (f := 1) (pc2 := 4) (ls2 := [(1, .int 3), (2, .int 17), (3, .int 1), (0, .ref 162)]) (st2 := []) (h2 := h) (dc2 := dc) (ds2 := ds) 5 rfl ?_
          refine wq_ls [(0, .ref 162), (1, .int 3), (2, .int 17)] (show ([0, 1, 2] : List Nat).Nodup by decide) ⟨rfl, rfl, rfl, trivial⟩ ?_
          exact kN (by unfold mWs2; rw [if_neg (Int.not_le.mpr b3x), if_neg (fun q => q b5x), if_neg (Int.not_le.mpr b9x), if_pos b11x])
        · have q13x : (tb.getD (pl + 1) 0).toInt = 101 := congrArg Int32.toInt b11x
          refine wq_gos (f := 1) (pc2 := 15) (ls2 := [(3, .int 2), (0, .ref 162), (1, .int 2), (2, .int 10)]) (st2 := []) (h2 := h) (dc2 := dc) (ds2 := ds) 2 rfl ?_
          refine wq_sp1 rfl rfl ?_
          refine wq_gos (f := 1) (pc2 := 20) (ls2 := [(3, .int 2), (0, .ref 162), (1, .int 2), (2, .int 10)]) (st2 := [.int 12, .ref 13]) (h2 := h) (dc2 := dc) (ds2 := ds) 3 rfl ?_
          refine wq_sp1 rfl rfl ?_
          show wq 161 23 [(3, .int 2), (0, .ref 162), (1, .int 2), (2, .int 10)] [.int 105] h dc ds _
          refine wq_gos (f := 1) (pc2 := 29) (ls2 := [(3, .int 2), (0, .ref 162), (1, .int 2), (2, .int 10)]) (st2 := [.ref 162]) (h2 := h) (dc2 := dc) (ds2 := ds) 3 rfl ?_
          refine wq_getf rfl hM rfl rfl ?_
          refine wq_gos (f := 1) (pc2 := 34) (ls2 := [(3, .int 2), (0, .ref 162), (1, .int 2), (2, .int 10)]) (st2 := [.int ((nI pl) + (2 : Int32))]) (h2 := h) (dc2 := dc) (ds2 := ds) 2 rfl ?_
          refine wq_vi (show (nI pl) + (2 : Int32) = nI (pl + 2) from nI_add pl 2) ?_
          refine wq_gos (f := 1) (pc2 := 35) (ls2 := [(3, .int 2), (0, .ref 162), (1, .int 2), (2, .int 10)]) (st2 := [.ref 162, .int (nI (pl + 2))]) (h2 := h) (dc2 := dc) (ds2 := ds) 1 rfl ?_
          refine wq_getf rfl hM rfl rfl ?_
          try have q14x := nI_toInt (n := (pl + 2)) (by omega)
          refine wq_ge2 rfl rfl (fun b15x => ?_) (fun b15x => ?_)
          · refine wq_sp1 rfl rfl ?_
            refine wq_gos (f := 1) (pc2 := 74) (ls2 := [(3, .int 2), (0, .ref 162), (1, .int 2), (2, .int 10)]) (st2 := [.int 12, .ref 13]) (h2 := h) (dc2 := dc) (ds2 := ds) 3 rfl ?_
            refine wq_sp1 rfl rfl ?_
            show wq 161 77 [(3, .int 2), (0, .ref 162), (1, .int 2), (2, .int 10)] [.int 105] h dc ds _
            refine wq_gos (f := 1) (pc2 := 97) (ls2 := [(3, .int 2), (0, .ref 162), (1, .int 2), (2, .int 10)]) (st2 := []) (h2 := h) (dc2 := dc) (ds2 := ds) 2 rfl ?_
            refine wq_sp1 rfl rfl ?_
            refine wq_gos (f := 1) (pc2 := 100) (ls2 := [(3, .int 2), (0, .ref 162), (1, .int 2), (2, .int 10)]) (st2 := [.int 10, .ref 13]) (h2 := h) (dc2 := dc) (ds2 := ds) 1 rfl ?_
            refine wq_sp1 rfl rfl ?_
            show wq 161 103 [(3, .int 2), (0, .ref 162), (1, .int 2), (2, .int 10)] [.int 104] h dc ds _
            refine wq_gos (f := 1) (pc2 := 97) (ls2 := [(2, .int 11), (3, .int 2), (0, .ref 162), (1, .int 2)]) (st2 := []) (h2 := h) (dc2 := dc) (ds2 := ds) 4 rfl ?_
            refine wq_sp1 rfl rfl ?_
            refine wq_gos (f := 1) (pc2 := 100) (ls2 := [(2, .int 11), (3, .int 2), (0, .ref 162), (1, .int 2)]) (st2 := [.int 11, .ref 13]) (h2 := h) (dc2 := dc) (ds2 := ds) 1 rfl ?_
            refine wq_sp1 rfl rfl ?_
            show wq 161 103 [(2, .int 11), (3, .int 2), (0, .ref 162), (1, .int 2)] [.int 101] h dc ds _
            refine wq_gos (f := 1) (pc2 := 97) (ls2 := [(2, .int 12), (3, .int 2), (0, .ref 162), (1, .int 2)]) (st2 := []) (h2 := h) (dc2 := dc) (ds2 := ds) 4 rfl ?_
            refine wq_sp1 rfl rfl ?_
            refine wq_gos (f := 1) (pc2 := 100) (ls2 := [(2, .int 12), (3, .int 2), (0, .ref 162), (1, .int 2)]) (st2 := [.int 12, .ref 13]) (h2 := h) (dc2 := dc) (ds2 := ds) 1 rfl ?_
            refine wq_sp1 rfl rfl ?_
            show wq 161 103 [(2, .int 12), (3, .int 2), (0, .ref 162), (1, .int 2)] [.int 105] h dc ds _
            refine wq_gos (f := 1) (pc2 := 97) (ls2 := [(2, .int 13), (3, .int 2), (0, .ref 162), (1, .int 2)]) (st2 := []) (h2 := h) (dc2 := dc) (ds2 := ds) 4 rfl ?_
            refine wq_sp1 rfl rfl ?_
            refine wq_gos (f := 1) (pc2 := 100) (ls2 := [(2, .int 13), (3, .int 2), (0, .ref 162), (1, .int 2)]) (st2 := [.int 13, .ref 13]) (h2 := h) (dc2 := dc) (ds2 := ds) 1 rfl ?_
            refine wq_sp1 rfl rfl ?_
            show wq 161 103 [(2, .int 13), (3, .int 2), (0, .ref 162), (1, .int 2)] [.int 103] h dc ds _
            refine wq_gos (f := 1) (pc2 := 97) (ls2 := [(2, .int 14), (3, .int 2), (0, .ref 162), (1, .int 2)]) (st2 := []) (h2 := h) (dc2 := dc) (ds2 := ds) 4 rfl ?_
            refine wq_sp1 rfl rfl ?_
            refine wq_gos (f := 1) (pc2 := 100) (ls2 := [(2, .int 14), (3, .int 2), (0, .ref 162), (1, .int 2)]) (st2 := [.int 14, .ref 13]) (h2 := h) (dc2 := dc) (ds2 := ds) 1 rfl ?_
            refine wq_sp1 rfl rfl ?_
            show wq 161 103 [(2, .int 14), (3, .int 2), (0, .ref 162), (1, .int 2)] [.int 104] h dc ds _
            refine wq_gos (f := 1) (pc2 := 97) (ls2 := [(2, .int 15), (3, .int 2), (0, .ref 162), (1, .int 2)]) (st2 := []) (h2 := h) (dc2 := dc) (ds2 := ds) 4 rfl ?_
            refine wq_sp1 rfl rfl ?_
            refine wq_gos (f := 1) (pc2 := 100) (ls2 := [(2, .int 15), (3, .int 2), (0, .ref 162), (1, .int 2)]) (st2 := [.int 15, .ref 13]) (h2 := h) (dc2 := dc) (ds2 := ds) 1 rfl ?_
            refine wq_sp1 rfl rfl ?_
            show wq 161 103 [(2, .int 15), (3, .int 2), (0, .ref 162), (1, .int 2)] [.int 116] h dc ds _
            refine wq_gos (f := 1) (pc2 := 97) (ls2 := [(2, .int 16), (3, .int 2), (0, .ref 162), (1, .int 2)]) (st2 := []) (h2 := h) (dc2 := dc) (ds2 := ds) 4 rfl ?_
            refine wq_sp1 rfl rfl ?_
            refine wq_gos (f := 1) (pc2 := 100) (ls2 := [(2, .int 16), (3, .int 2), (0, .ref 162), (1, .int 2)]) (st2 := [.int 16, .ref 13]) (h2 := h) (dc2 := dc) (ds2 := ds) 1 rfl ?_
            refine wq_sp1 rfl rfl ?_
            show wq 161 103 [(2, .int 16), (3, .int 2), (0, .ref 162), (1, .int 2)] [.int 32] h dc ds _
            refine wq_gos (f := 1) (pc2 := 4) (ls2 := [(1, .int 3), (2, .int 17), (3, .int 2), (0, .ref 162)]) (st2 := []) (h2 := h) (dc2 := dc) (ds2 := ds) 5 rfl ?_
            refine wq_ls [(0, .ref 162), (1, .int 3), (2, .int 17)] (show ([0, 1, 2] : List Nat).Nodup by decide) ⟨rfl, rfl, rfl, trivial⟩ ?_
            exact kN (by unfold mWs2; rw [if_neg (Int.not_le.mpr b3x), if_neg (fun q => q b5x), if_neg (Int.not_le.mpr b9x), if_neg (fun q => q b11x), if_pos b15x])
          · refine wq_gos (f := 1) (pc2 := 42) (ls2 := [(3, .int 2), (0, .ref 162), (1, .int 2), (2, .int 10)]) (st2 := [.ref 162]) (h2 := h) (dc2 := dc) (ds2 := ds) 1 rfl ?_
            refine wq_getf rfl hM rfl rfl ?_
            refine wq_gos (f := 1) (pc2 := 46) (ls2 := [(3, .int 2), (0, .ref 162), (1, .int 2), (2, .int 10)]) (st2 := [.ref 162, .ref 164]) (h2 := h) (dc2 := dc) (ds2 := ds) 1 rfl ?_
            refine wq_getf rfl hM rfl rfl ?_
            refine wq_gos (f := 1) (pc2 := 51) (ls2 := [(3, .int 2), (0, .ref 162), (1, .int 2), (2, .int 10)]) (st2 := [.int ((nI pl) + (2 : Int32)), .ref 164]) (h2 := h) (dc2 := dc) (ds2 := ds) 2 rfl ?_
            refine wq_vi (show (nI pl) + (2 : Int32) = nI (pl + 2) from nI_add pl 2) ?_
            refine wq_ialdn rfl hT (by first | omega | exact zin_t (by omega) (by omega)) (by decide) rfl ?_
            refine wq_sp1 rfl rfl ?_
            refine wq_gos (f := 1) (pc2 := 57) (ls2 := [(3, .int 2), (0, .ref 162), (1, .int 2), (2, .int 10)]) (st2 := [.int 12, .ref 13, .int (tb.getD (pl + 2) 0)]) (h2 := h) (dc2 := dc) (ds2 := ds) 3 rfl ?_
            refine wq_sp1 rfl rfl ?_
            show wq 161 60 [(3, .int 2), (0, .ref 162), (1, .int 2), (2, .int 10)] [.int 105, .int (tb.getD (pl + 2) 0)] h dc ds _
            have q16x : (105 : Int32).toInt = 105 := rfl
            refine wq_ne2 rfl rfl (fun b17x => ?_) (fun b17x => ?_)
            · have q18x : (tb.getD (pl + 2) 0).toInt ≠ 105 := fun q => b17x (Int32.toInt_inj.mp q)
              refine wq_sp1 rfl rfl ?_
              refine wq_gos (f := 1) (pc2 := 74) (ls2 := [(3, .int 2), (0, .ref 162), (1, .int 2), (2, .int 10)]) (st2 := [.int 12, .ref 13]) (h2 := h) (dc2 := dc) (ds2 := ds) 3 rfl ?_
              refine wq_sp1 rfl rfl ?_
              show wq 161 77 [(3, .int 2), (0, .ref 162), (1, .int 2), (2, .int 10)] [.int 105] h dc ds _
              refine wq_gos (f := 1) (pc2 := 97) (ls2 := [(3, .int 2), (0, .ref 162), (1, .int 2), (2, .int 10)]) (st2 := []) (h2 := h) (dc2 := dc) (ds2 := ds) 2 rfl ?_
              refine wq_sp1 rfl rfl ?_
              refine wq_gos (f := 1) (pc2 := 100) (ls2 := [(3, .int 2), (0, .ref 162), (1, .int 2), (2, .int 10)]) (st2 := [.int 10, .ref 13]) (h2 := h) (dc2 := dc) (ds2 := ds) 1 rfl ?_
              refine wq_sp1 rfl rfl ?_
              show wq 161 103 [(3, .int 2), (0, .ref 162), (1, .int 2), (2, .int 10)] [.int 104] h dc ds _
              refine wq_gos (f := 1) (pc2 := 97) (ls2 := [(2, .int 11), (3, .int 2), (0, .ref 162), (1, .int 2)]) (st2 := []) (h2 := h) (dc2 := dc) (ds2 := ds) 4 rfl ?_
              refine wq_sp1 rfl rfl ?_
              refine wq_gos (f := 1) (pc2 := 100) (ls2 := [(2, .int 11), (3, .int 2), (0, .ref 162), (1, .int 2)]) (st2 := [.int 11, .ref 13]) (h2 := h) (dc2 := dc) (ds2 := ds) 1 rfl ?_
              refine wq_sp1 rfl rfl ?_
              show wq 161 103 [(2, .int 11), (3, .int 2), (0, .ref 162), (1, .int 2)] [.int 101] h dc ds _
              refine wq_gos (f := 1) (pc2 := 97) (ls2 := [(2, .int 12), (3, .int 2), (0, .ref 162), (1, .int 2)]) (st2 := []) (h2 := h) (dc2 := dc) (ds2 := ds) 4 rfl ?_
              refine wq_sp1 rfl rfl ?_
              refine wq_gos (f := 1) (pc2 := 100) (ls2 := [(2, .int 12), (3, .int 2), (0, .ref 162), (1, .int 2)]) (st2 := [.int 12, .ref 13]) (h2 := h) (dc2 := dc) (ds2 := ds) 1 rfl ?_
              refine wq_sp1 rfl rfl ?_
              show wq 161 103 [(2, .int 12), (3, .int 2), (0, .ref 162), (1, .int 2)] [.int 105] h dc ds _
              refine wq_gos (f := 1) (pc2 := 97) (ls2 := [(2, .int 13), (3, .int 2), (0, .ref 162), (1, .int 2)]) (st2 := []) (h2 := h) (dc2 := dc) (ds2 := ds) 4 rfl ?_
              refine wq_sp1 rfl rfl ?_
              refine wq_gos (f := 1) (pc2 := 100) (ls2 := [(2, .int 13), (3, .int 2), (0, .ref 162), (1, .int 2)]) (st2 := [.int 13, .ref 13]) (h2 := h) (dc2 := dc) (ds2 := ds) 1 rfl ?_
              refine wq_sp1 rfl rfl ?_
              show wq 161 103 [(2, .int 13), (3, .int 2), (0, .ref 162), (1, .int 2)] [.int 103] h dc ds _
              refine wq_gos (f := 1) (pc2 := 97) (ls2 := [(2, .int 14), (3, .int 2), (0, .ref 162), (1, .int 2)]) (st2 := []) (h2 := h) (dc2 := dc) (ds2 := ds) 4 rfl ?_
              refine wq_sp1 rfl rfl ?_
              refine wq_gos (f := 1) (pc2 := 100) (ls2 := [(2, .int 14), (3, .int 2), (0, .ref 162), (1, .int 2)]) (st2 := [.int 14, .ref 13]) (h2 := h) (dc2 := dc) (ds2 := ds) 1 rfl ?_
              refine wq_sp1 rfl rfl ?_
              show wq 161 103 [(2, .int 14), (3, .int 2), (0, .ref 162), (1, .int 2)] [.int 104] h dc ds _
              refine wq_gos (f := 1) (pc2 := 97) (ls2 := [(2, .int 15), (3, .int 2), (0, .ref 162), (1, .int 2)]) (st2 := []) (h2 := h) (dc2 := dc) (ds2 := ds) 4 rfl ?_
              refine wq_sp1 rfl rfl ?_
              refine wq_gos (f := 1) (pc2 := 100) (ls2 := [(2, .int 15), (3, .int 2), (0, .ref 162), (1, .int 2)]) (st2 := [.int 15, .ref 13]) (h2 := h) (dc2 := dc) (ds2 := ds) 1 rfl ?_
              refine wq_sp1 rfl rfl ?_
              show wq 161 103 [(2, .int 15), (3, .int 2), (0, .ref 162), (1, .int 2)] [.int 116] h dc ds _
              refine wq_gos (f := 1) (pc2 := 97) (ls2 := [(2, .int 16), (3, .int 2), (0, .ref 162), (1, .int 2)]) (st2 := []) (h2 := h) (dc2 := dc) (ds2 := ds) 4 rfl ?_
              refine wq_sp1 rfl rfl ?_
              refine wq_gos (f := 1) (pc2 := 100) (ls2 := [(2, .int 16), (3, .int 2), (0, .ref 162), (1, .int 2)]) (st2 := [.int 16, .ref 13]) (h2 := h) (dc2 := dc) (ds2 := ds) 1 rfl ?_
              refine wq_sp1 rfl rfl ?_
              show wq 161 103 [(2, .int 16), (3, .int 2), (0, .ref 162), (1, .int 2)] [.int 32] h dc ds _
              refine wq_gos (f := 1) (pc2 := 4) (ls2 := [(1, .int 3), (2, .int 17), (3, .int 2), (0, .ref 162)]) (st2 := []) (h2 := h) (dc2 := dc) (ds2 := ds) 5 rfl ?_
              refine wq_ls [(0, .ref 162), (1, .int 3), (2, .int 17)] (show ([0, 1, 2] : List Nat).Nodup by decide) ⟨rfl, rfl, rfl, trivial⟩ ?_
              exact kN (by unfold mWs2; rw [if_neg (Int.not_le.mpr b3x), if_neg (fun q => q b5x), if_neg (Int.not_le.mpr b9x), if_neg (fun q => q b11x), if_neg (Int.not_le.mpr b15x), if_pos b17x])
            · have q19x : (tb.getD (pl + 2) 0).toInt = 105 := congrArg Int32.toInt b17x
              refine wq_gos (f := 1) (pc2 := 15) (ls2 := [(3, .int 3), (0, .ref 162), (1, .int 2), (2, .int 10)]) (st2 := []) (h2 := h) (dc2 := dc) (ds2 := ds) 2 rfl ?_
              refine wq_sp1 rfl rfl ?_
              refine wq_gos (f := 1) (pc2 := 20) (ls2 := [(3, .int 3), (0, .ref 162), (1, .int 2), (2, .int 10)]) (st2 := [.int 13, .ref 13]) (h2 := h) (dc2 := dc) (ds2 := ds) 3 rfl ?_
              refine wq_sp1 rfl rfl ?_
              show wq 161 23 [(3, .int 3), (0, .ref 162), (1, .int 2), (2, .int 10)] [.int 103] h dc ds _
              refine wq_gos (f := 1) (pc2 := 29) (ls2 := [(3, .int 3), (0, .ref 162), (1, .int 2), (2, .int 10)]) (st2 := [.ref 162]) (h2 := h) (dc2 := dc) (ds2 := ds) 3 rfl ?_
              refine wq_getf rfl hM rfl rfl ?_
              refine wq_gos (f := 1) (pc2 := 34) (ls2 := [(3, .int 3), (0, .ref 162), (1, .int 2), (2, .int 10)]) (st2 := [.int ((nI pl) + (3 : Int32))]) (h2 := h) (dc2 := dc) (ds2 := ds) 2 rfl ?_
              refine wq_vi (show (nI pl) + (3 : Int32) = nI (pl + 3) from nI_add pl 3) ?_
              refine wq_gos (f := 1) (pc2 := 35) (ls2 := [(3, .int 3), (0, .ref 162), (1, .int 2), (2, .int 10)]) (st2 := [.ref 162, .int (nI (pl + 3))]) (h2 := h) (dc2 := dc) (ds2 := ds) 1 rfl ?_
              refine wq_getf rfl hM rfl rfl ?_
              try have q20x := nI_toInt (n := (pl + 3)) (by omega)
              refine wq_ge2 rfl rfl (fun b21x => ?_) (fun b21x => ?_)
              · refine wq_sp1 rfl rfl ?_
                refine wq_gos (f := 1) (pc2 := 74) (ls2 := [(3, .int 3), (0, .ref 162), (1, .int 2), (2, .int 10)]) (st2 := [.int 13, .ref 13]) (h2 := h) (dc2 := dc) (ds2 := ds) 3 rfl ?_
                refine wq_sp1 rfl rfl ?_
                show wq 161 77 [(3, .int 3), (0, .ref 162), (1, .int 2), (2, .int 10)] [.int 103] h dc ds _
                refine wq_gos (f := 1) (pc2 := 97) (ls2 := [(3, .int 3), (0, .ref 162), (1, .int 2), (2, .int 10)]) (st2 := []) (h2 := h) (dc2 := dc) (ds2 := ds) 2 rfl ?_
                refine wq_sp1 rfl rfl ?_
                refine wq_gos (f := 1) (pc2 := 100) (ls2 := [(3, .int 3), (0, .ref 162), (1, .int 2), (2, .int 10)]) (st2 := [.int 10, .ref 13]) (h2 := h) (dc2 := dc) (ds2 := ds) 1 rfl ?_
                refine wq_sp1 rfl rfl ?_
                show wq 161 103 [(3, .int 3), (0, .ref 162), (1, .int 2), (2, .int 10)] [.int 104] h dc ds _
                refine wq_gos (f := 1) (pc2 := 97) (ls2 := [(2, .int 11), (3, .int 3), (0, .ref 162), (1, .int 2)]) (st2 := []) (h2 := h) (dc2 := dc) (ds2 := ds) 4 rfl ?_
                refine wq_sp1 rfl rfl ?_
                refine wq_gos (f := 1) (pc2 := 100) (ls2 := [(2, .int 11), (3, .int 3), (0, .ref 162), (1, .int 2)]) (st2 := [.int 11, .ref 13]) (h2 := h) (dc2 := dc) (ds2 := ds) 1 rfl ?_
                refine wq_sp1 rfl rfl ?_
                show wq 161 103 [(2, .int 11), (3, .int 3), (0, .ref 162), (1, .int 2)] [.int 101] h dc ds _
                refine wq_gos (f := 1) (pc2 := 97) (ls2 := [(2, .int 12), (3, .int 3), (0, .ref 162), (1, .int 2)]) (st2 := []) (h2 := h) (dc2 := dc) (ds2 := ds) 4 rfl ?_
                refine wq_sp1 rfl rfl ?_
                refine wq_gos (f := 1) (pc2 := 100) (ls2 := [(2, .int 12), (3, .int 3), (0, .ref 162), (1, .int 2)]) (st2 := [.int 12, .ref 13]) (h2 := h) (dc2 := dc) (ds2 := ds) 1 rfl ?_
                refine wq_sp1 rfl rfl ?_
                show wq 161 103 [(2, .int 12), (3, .int 3), (0, .ref 162), (1, .int 2)] [.int 105] h dc ds _
                refine wq_gos (f := 1) (pc2 := 97) (ls2 := [(2, .int 13), (3, .int 3), (0, .ref 162), (1, .int 2)]) (st2 := []) (h2 := h) (dc2 := dc) (ds2 := ds) 4 rfl ?_
                refine wq_sp1 rfl rfl ?_
                refine wq_gos (f := 1) (pc2 := 100) (ls2 := [(2, .int 13), (3, .int 3), (0, .ref 162), (1, .int 2)]) (st2 := [.int 13, .ref 13]) (h2 := h) (dc2 := dc) (ds2 := ds) 1 rfl ?_
                refine wq_sp1 rfl rfl ?_
                show wq 161 103 [(2, .int 13), (3, .int 3), (0, .ref 162), (1, .int 2)] [.int 103] h dc ds _
                refine wq_gos (f := 1) (pc2 := 97) (ls2 := [(2, .int 14), (3, .int 3), (0, .ref 162), (1, .int 2)]) (st2 := []) (h2 := h) (dc2 := dc) (ds2 := ds) 4 rfl ?_
                refine wq_sp1 rfl rfl ?_
                refine wq_gos (f := 1) (pc2 := 100) (ls2 := [(2, .int 14), (3, .int 3), (0, .ref 162), (1, .int 2)]) (st2 := [.int 14, .ref 13]) (h2 := h) (dc2 := dc) (ds2 := ds) 1 rfl ?_
                refine wq_sp1 rfl rfl ?_
                show wq 161 103 [(2, .int 14), (3, .int 3), (0, .ref 162), (1, .int 2)] [.int 104] h dc ds _
                refine wq_gos (f := 1) (pc2 := 97) (ls2 := [(2, .int 15), (3, .int 3), (0, .ref 162), (1, .int 2)]) (st2 := []) (h2 := h) (dc2 := dc) (ds2 := ds) 4 rfl ?_
                refine wq_sp1 rfl rfl ?_
                refine wq_gos (f := 1) (pc2 := 100) (ls2 := [(2, .int 15), (3, .int 3), (0, .ref 162), (1, .int 2)]) (st2 := [.int 15, .ref 13]) (h2 := h) (dc2 := dc) (ds2 := ds) 1 rfl ?_
                refine wq_sp1 rfl rfl ?_
                show wq 161 103 [(2, .int 15), (3, .int 3), (0, .ref 162), (1, .int 2)] [.int 116] h dc ds _
                refine wq_gos (f := 1) (pc2 := 97) (ls2 := [(2, .int 16), (3, .int 3), (0, .ref 162), (1, .int 2)]) (st2 := []) (h2 := h) (dc2 := dc) (ds2 := ds) 4 rfl ?_
                refine wq_sp1 rfl rfl ?_
                refine wq_gos (f := 1) (pc2 := 100) (ls2 := [(2, .int 16), (3, .int 3), (0, .ref 162), (1, .int 2)]) (st2 := [.int 16, .ref 13]) (h2 := h) (dc2 := dc) (ds2 := ds) 1 rfl ?_
                refine wq_sp1 rfl rfl ?_
                show wq 161 103 [(2, .int 16), (3, .int 3), (0, .ref 162), (1, .int 2)] [.int 32] h dc ds _
                refine wq_gos (f := 1) (pc2 := 4) (ls2 := [(1, .int 3), (2, .int 17), (3, .int 3), (0, .ref 162)]) (st2 := []) (h2 := h) (dc2 := dc) (ds2 := ds) 5 rfl ?_
                refine wq_ls [(0, .ref 162), (1, .int 3), (2, .int 17)] (show ([0, 1, 2] : List Nat).Nodup by decide) ⟨rfl, rfl, rfl, trivial⟩ ?_
                exact kN (by unfold mWs2; rw [if_neg (Int.not_le.mpr b3x), if_neg (fun q => q b5x), if_neg (Int.not_le.mpr b9x), if_neg (fun q => q b11x), if_neg (Int.not_le.mpr b15x), if_neg (fun q => q b17x), if_pos b21x])
              · refine wq_gos (f := 1) (pc2 := 42) (ls2 := [(3, .int 3), (0, .ref 162), (1, .int 2), (2, .int 10)]) (st2 := [.ref 162]) (h2 := h) (dc2 := dc) (ds2 := ds) 1 rfl ?_
                refine wq_getf rfl hM rfl rfl ?_
                refine wq_gos (f := 1) (pc2 := 46) (ls2 := [(3, .int 3), (0, .ref 162), (1, .int 2), (2, .int 10)]) (st2 := [.ref 162, .ref 164]) (h2 := h) (dc2 := dc) (ds2 := ds) 1 rfl ?_
                refine wq_getf rfl hM rfl rfl ?_
                refine wq_gos (f := 1) (pc2 := 51) (ls2 := [(3, .int 3), (0, .ref 162), (1, .int 2), (2, .int 10)]) (st2 := [.int ((nI pl) + (3 : Int32)), .ref 164]) (h2 := h) (dc2 := dc) (ds2 := ds) 2 rfl ?_
                refine wq_vi (show (nI pl) + (3 : Int32) = nI (pl + 3) from nI_add pl 3) ?_
                refine wq_ialdn rfl hT (by first | omega | exact zin_t (by omega) (by omega)) (by decide) rfl ?_
                refine wq_sp1 rfl rfl ?_
                refine wq_gos (f := 1) (pc2 := 57) (ls2 := [(3, .int 3), (0, .ref 162), (1, .int 2), (2, .int 10)]) (st2 := [.int 13, .ref 13, .int (tb.getD (pl + 3) 0)]) (h2 := h) (dc2 := dc) (ds2 := ds) 3 rfl ?_
                refine wq_sp1 rfl rfl ?_
                show wq 161 60 [(3, .int 3), (0, .ref 162), (1, .int 2), (2, .int 10)] [.int 103, .int (tb.getD (pl + 3) 0)] h dc ds _
                have q22x : (103 : Int32).toInt = 103 := rfl
                refine wq_ne2 rfl rfl (fun b23x => ?_) (fun b23x => ?_)
                · have q24x : (tb.getD (pl + 3) 0).toInt ≠ 103 := fun q => b23x (Int32.toInt_inj.mp q)
                  refine wq_sp1 rfl rfl ?_
                  refine wq_gos (f := 1) (pc2 := 74) (ls2 := [(3, .int 3), (0, .ref 162), (1, .int 2), (2, .int 10)]) (st2 := [.int 13, .ref 13]) (h2 := h) (dc2 := dc) (ds2 := ds) 3 rfl ?_
                  refine wq_sp1 rfl rfl ?_
                  show wq 161 77 [(3, .int 3), (0, .ref 162), (1, .int 2), (2, .int 10)] [.int 103] h dc ds _
                  refine wq_gos (f := 1) (pc2 := 97) (ls2 := [(3, .int 3), (0, .ref 162), (1, .int 2), (2, .int 10)]) (st2 := []) (h2 := h) (dc2 := dc) (ds2 := ds) 2 rfl ?_
                  refine wq_sp1 rfl rfl ?_
                  refine wq_gos (f := 1) (pc2 := 100) (ls2 := [(3, .int 3), (0, .ref 162), (1, .int 2), (2, .int 10)]) (st2 := [.int 10, .ref 13]) (h2 := h) (dc2 := dc) (ds2 := ds) 1 rfl ?_
                  refine wq_sp1 rfl rfl ?_
                  show wq 161 103 [(3, .int 3), (0, .ref 162), (1, .int 2), (2, .int 10)] [.int 104] h dc ds _
                  refine wq_gos (f := 1) (pc2 := 97) (ls2 := [(2, .int 11), (3, .int 3), (0, .ref 162), (1, .int 2)]) (st2 := []) (h2 := h) (dc2 := dc) (ds2 := ds) 4 rfl ?_
                  refine wq_sp1 rfl rfl ?_
                  refine wq_gos (f := 1) (pc2 := 100) (ls2 := [(2, .int 11), (3, .int 3), (0, .ref 162), (1, .int 2)]) (st2 := [.int 11, .ref 13]) (h2 := h) (dc2 := dc) (ds2 := ds) 1 rfl ?_
                  refine wq_sp1 rfl rfl ?_
                  show wq 161 103 [(2, .int 11), (3, .int 3), (0, .ref 162), (1, .int 2)] [.int 101] h dc ds _
                  refine wq_gos (f := 1) (pc2 := 97) (ls2 := [(2, .int 12), (3, .int 3), (0, .ref 162), (1, .int 2)]) (st2 := []) (h2 := h) (dc2 := dc) (ds2 := ds) 4 rfl ?_
                  refine wq_sp1 rfl rfl ?_
                  refine wq_gos (f := 1) (pc2 := 100) (ls2 := [(2, .int 12), (3, .int 3), (0, .ref 162), (1, .int 2)]) (st2 := [.int 12, .ref 13]) (h2 := h) (dc2 := dc) (ds2 := ds) 1 rfl ?_
                  refine wq_sp1 rfl rfl ?_
                  show wq 161 103 [(2, .int 12), (3, .int 3), (0, .ref 162), (1, .int 2)] [.int 105] h dc ds _
                  refine wq_gos (f := 1) (pc2 := 97) (ls2 := [(2, .int 13), (3, .int 3), (0, .ref 162), (1, .int 2)]) (st2 := []) (h2 := h) (dc2 := dc) (ds2 := ds) 4 rfl ?_
                  refine wq_sp1 rfl rfl ?_
                  refine wq_gos (f := 1) (pc2 := 100) (ls2 := [(2, .int 13), (3, .int 3), (0, .ref 162), (1, .int 2)]) (st2 := [.int 13, .ref 13]) (h2 := h) (dc2 := dc) (ds2 := ds) 1 rfl ?_
                  refine wq_sp1 rfl rfl ?_
                  show wq 161 103 [(2, .int 13), (3, .int 3), (0, .ref 162), (1, .int 2)] [.int 103] h dc ds _
                  refine wq_gos (f := 1) (pc2 := 97) (ls2 := [(2, .int 14), (3, .int 3), (0, .ref 162), (1, .int 2)]) (st2 := []) (h2 := h) (dc2 := dc) (ds2 := ds) 4 rfl ?_
                  refine wq_sp1 rfl rfl ?_
                  refine wq_gos (f := 1) (pc2 := 100) (ls2 := [(2, .int 14), (3, .int 3), (0, .ref 162), (1, .int 2)]) (st2 := [.int 14, .ref 13]) (h2 := h) (dc2 := dc) (ds2 := ds) 1 rfl ?_
                  refine wq_sp1 rfl rfl ?_
                  show wq 161 103 [(2, .int 14), (3, .int 3), (0, .ref 162), (1, .int 2)] [.int 104] h dc ds _
                  refine wq_gos (f := 1) (pc2 := 97) (ls2 := [(2, .int 15), (3, .int 3), (0, .ref 162), (1, .int 2)]) (st2 := []) (h2 := h) (dc2 := dc) (ds2 := ds) 4 rfl ?_
                  refine wq_sp1 rfl rfl ?_
                  refine wq_gos (f := 1) (pc2 := 100) (ls2 := [(2, .int 15), (3, .int 3), (0, .ref 162), (1, .int 2)]) (st2 := [.int 15, .ref 13]) (h2 := h) (dc2 := dc) (ds2 := ds) 1 rfl ?_
                  refine wq_sp1 rfl rfl ?_
                  show wq 161 103 [(2, .int 15), (3, .int 3), (0, .ref 162), (1, .int 2)] [.int 116] h dc ds _
                  refine wq_gos (f := 1) (pc2 := 97) (ls2 := [(2, .int 16), (3, .int 3), (0, .ref 162), (1, .int 2)]) (st2 := []) (h2 := h) (dc2 := dc) (ds2 := ds) 4 rfl ?_
                  refine wq_sp1 rfl rfl ?_
                  refine wq_gos (f := 1) (pc2 := 100) (ls2 := [(2, .int 16), (3, .int 3), (0, .ref 162), (1, .int 2)]) (st2 := [.int 16, .ref 13]) (h2 := h) (dc2 := dc) (ds2 := ds) 1 rfl ?_
                  refine wq_sp1 rfl rfl ?_
                  show wq 161 103 [(2, .int 16), (3, .int 3), (0, .ref 162), (1, .int 2)] [.int 32] h dc ds _
                  refine wq_gos (f := 1) (pc2 := 4) (ls2 := [(1, .int 3), (2, .int 17), (3, .int 3), (0, .ref 162)]) (st2 := []) (h2 := h) (dc2 := dc) (ds2 := ds) 5 rfl ?_
                  refine wq_ls [(0, .ref 162), (1, .int 3), (2, .int 17)] (show ([0, 1, 2] : List Nat).Nodup by decide) ⟨rfl, rfl, rfl, trivial⟩ ?_
                  exact kN (by unfold mWs2; rw [if_neg (Int.not_le.mpr b3x), if_neg (fun q => q b5x), if_neg (Int.not_le.mpr b9x), if_neg (fun q => q b11x), if_neg (Int.not_le.mpr b15x), if_neg (fun q => q b17x), if_neg (Int.not_le.mpr b21x), if_pos b23x])
                · have q25x : (tb.getD (pl + 3) 0).toInt = 103 := congrArg Int32.toInt b23x
                  refine wq_gos (f := 1) (pc2 := 15) (ls2 := [(3, .int 4), (0, .ref 162), (1, .int 2), (2, .int 10)]) (st2 := []) (h2 := h) (dc2 := dc) (ds2 := ds) 2 rfl ?_
                  refine wq_sp1 rfl rfl ?_
                  refine wq_gos (f := 1) (pc2 := 20) (ls2 := [(3, .int 4), (0, .ref 162), (1, .int 2), (2, .int 10)]) (st2 := [.int 14, .ref 13]) (h2 := h) (dc2 := dc) (ds2 := ds) 3 rfl ?_
                  refine wq_sp1 rfl rfl ?_
                  show wq 161 23 [(3, .int 4), (0, .ref 162), (1, .int 2), (2, .int 10)] [.int 104] h dc ds _
                  refine wq_gos (f := 1) (pc2 := 29) (ls2 := [(3, .int 4), (0, .ref 162), (1, .int 2), (2, .int 10)]) (st2 := [.ref 162]) (h2 := h) (dc2 := dc) (ds2 := ds) 3 rfl ?_
                  refine wq_getf rfl hM rfl rfl ?_
                  refine wq_gos (f := 1) (pc2 := 34) (ls2 := [(3, .int 4), (0, .ref 162), (1, .int 2), (2, .int 10)]) (st2 := [.int ((nI pl) + (4 : Int32))]) (h2 := h) (dc2 := dc) (ds2 := ds) 2 rfl ?_
                  refine wq_vi (show (nI pl) + (4 : Int32) = nI (pl + 4) from nI_add pl 4) ?_
                  refine wq_gos (f := 1) (pc2 := 35) (ls2 := [(3, .int 4), (0, .ref 162), (1, .int 2), (2, .int 10)]) (st2 := [.ref 162, .int (nI (pl + 4))]) (h2 := h) (dc2 := dc) (ds2 := ds) 1 rfl ?_
                  refine wq_getf rfl hM rfl rfl ?_
                  try have q26x := nI_toInt (n := (pl + 4)) (by omega)
                  refine wq_ge2 rfl rfl (fun b27x => ?_) (fun b27x => ?_)
                  · refine wq_sp1 rfl rfl ?_
                    refine wq_gos (f := 1) (pc2 := 74) (ls2 := [(3, .int 4), (0, .ref 162), (1, .int 2), (2, .int 10)]) (st2 := [.int 14, .ref 13]) (h2 := h) (dc2 := dc) (ds2 := ds) 3 rfl ?_
                    refine wq_sp1 rfl rfl ?_
                    show wq 161 77 [(3, .int 4), (0, .ref 162), (1, .int 2), (2, .int 10)] [.int 104] h dc ds _
                    refine wq_gos (f := 1) (pc2 := 97) (ls2 := [(3, .int 4), (0, .ref 162), (1, .int 2), (2, .int 10)]) (st2 := []) (h2 := h) (dc2 := dc) (ds2 := ds) 2 rfl ?_
                    refine wq_sp1 rfl rfl ?_
                    refine wq_gos (f := 1) (pc2 := 100) (ls2 := [(3, .int 4), (0, .ref 162), (1, .int 2), (2, .int 10)]) (st2 := [.int 10, .ref 13]) (h2 := h) (dc2 := dc) (ds2 := ds) 1 rfl ?_
                    refine wq_sp1 rfl rfl ?_
                    show wq 161 103 [(3, .int 4), (0, .ref 162), (1, .int 2), (2, .int 10)] [.int 104] h dc ds _
                    refine wq_gos (f := 1) (pc2 := 97) (ls2 := [(2, .int 11), (3, .int 4), (0, .ref 162), (1, .int 2)]) (st2 := []) (h2 := h) (dc2 := dc) (ds2 := ds) 4 rfl ?_
                    refine wq_sp1 rfl rfl ?_
                    refine wq_gos (f := 1) (pc2 := 100) (ls2 := [(2, .int 11), (3, .int 4), (0, .ref 162), (1, .int 2)]) (st2 := [.int 11, .ref 13]) (h2 := h) (dc2 := dc) (ds2 := ds) 1 rfl ?_
                    refine wq_sp1 rfl rfl ?_
                    show wq 161 103 [(2, .int 11), (3, .int 4), (0, .ref 162), (1, .int 2)] [.int 101] h dc ds _
                    refine wq_gos (f := 1) (pc2 := 97) (ls2 := [(2, .int 12), (3, .int 4), (0, .ref 162), (1, .int 2)]) (st2 := []) (h2 := h) (dc2 := dc) (ds2 := ds) 4 rfl ?_
                    refine wq_sp1 rfl rfl ?_
                    refine wq_gos (f := 1) (pc2 := 100) (ls2 := [(2, .int 12), (3, .int 4), (0, .ref 162), (1, .int 2)]) (st2 := [.int 12, .ref 13]) (h2 := h) (dc2 := dc) (ds2 := ds) 1 rfl ?_
                    refine wq_sp1 rfl rfl ?_
                    show wq 161 103 [(2, .int 12), (3, .int 4), (0, .ref 162), (1, .int 2)] [.int 105] h dc ds _
                    refine wq_gos (f := 1) (pc2 := 97) (ls2 := [(2, .int 13), (3, .int 4), (0, .ref 162), (1, .int 2)]) (st2 := []) (h2 := h) (dc2 := dc) (ds2 := ds) 4 rfl ?_
                    refine wq_sp1 rfl rfl ?_
                    refine wq_gos (f := 1) (pc2 := 100) (ls2 := [(2, .int 13), (3, .int 4), (0, .ref 162), (1, .int 2)]) (st2 := [.int 13, .ref 13]) (h2 := h) (dc2 := dc) (ds2 := ds) 1 rfl ?_
                    refine wq_sp1 rfl rfl ?_
                    show wq 161 103 [(2, .int 13), (3, .int 4), (0, .ref 162), (1, .int 2)] [.int 103] h dc ds _
                    refine wq_gos (f := 1) (pc2 := 97) (ls2 := [(2, .int 14), (3, .int 4), (0, .ref 162), (1, .int 2)]) (st2 := []) (h2 := h) (dc2 := dc) (ds2 := ds) 4 rfl ?_
                    refine wq_sp1 rfl rfl ?_
                    refine wq_gos (f := 1) (pc2 := 100) (ls2 := [(2, .int 14), (3, .int 4), (0, .ref 162), (1, .int 2)]) (st2 := [.int 14, .ref 13]) (h2 := h) (dc2 := dc) (ds2 := ds) 1 rfl ?_
                    refine wq_sp1 rfl rfl ?_
                    show wq 161 103 [(2, .int 14), (3, .int 4), (0, .ref 162), (1, .int 2)] [.int 104] h dc ds _
                    refine wq_gos (f := 1) (pc2 := 97) (ls2 := [(2, .int 15), (3, .int 4), (0, .ref 162), (1, .int 2)]) (st2 := []) (h2 := h) (dc2 := dc) (ds2 := ds) 4 rfl ?_
                    refine wq_sp1 rfl rfl ?_
                    refine wq_gos (f := 1) (pc2 := 100) (ls2 := [(2, .int 15), (3, .int 4), (0, .ref 162), (1, .int 2)]) (st2 := [.int 15, .ref 13]) (h2 := h) (dc2 := dc) (ds2 := ds) 1 rfl ?_
                    refine wq_sp1 rfl rfl ?_
                    show wq 161 103 [(2, .int 15), (3, .int 4), (0, .ref 162), (1, .int 2)] [.int 116] h dc ds _
                    refine wq_gos (f := 1) (pc2 := 97) (ls2 := [(2, .int 16), (3, .int 4), (0, .ref 162), (1, .int 2)]) (st2 := []) (h2 := h) (dc2 := dc) (ds2 := ds) 4 rfl ?_
                    refine wq_sp1 rfl rfl ?_
                    refine wq_gos (f := 1) (pc2 := 100) (ls2 := [(2, .int 16), (3, .int 4), (0, .ref 162), (1, .int 2)]) (st2 := [.int 16, .ref 13]) (h2 := h) (dc2 := dc) (ds2 := ds) 1 rfl ?_
                    refine wq_sp1 rfl rfl ?_
                    show wq 161 103 [(2, .int 16), (3, .int 4), (0, .ref 162), (1, .int 2)] [.int 32] h dc ds _
                    refine wq_gos (f := 1) (pc2 := 4) (ls2 := [(1, .int 3), (2, .int 17), (3, .int 4), (0, .ref 162)]) (st2 := []) (h2 := h) (dc2 := dc) (ds2 := ds) 5 rfl ?_
                    refine wq_ls [(0, .ref 162), (1, .int 3), (2, .int 17)] (show ([0, 1, 2] : List Nat).Nodup by decide) ⟨rfl, rfl, rfl, trivial⟩ ?_
                    exact kN (by unfold mWs2; rw [if_neg (Int.not_le.mpr b3x), if_neg (fun q => q b5x), if_neg (Int.not_le.mpr b9x), if_neg (fun q => q b11x), if_neg (Int.not_le.mpr b15x), if_neg (fun q => q b17x), if_neg (Int.not_le.mpr b21x), if_neg (fun q => q b23x), if_pos b27x])
                  · refine wq_gos (f := 1) (pc2 := 42) (ls2 := [(3, .int 4), (0, .ref 162), (1, .int 2), (2, .int 10)]) (st2 := [.ref 162]) (h2 := h) (dc2 := dc) (ds2 := ds) 1 rfl ?_
                    refine wq_getf rfl hM rfl rfl ?_
                    refine wq_gos (f := 1) (pc2 := 46) (ls2 := [(3, .int 4), (0, .ref 162), (1, .int 2), (2, .int 10)]) (st2 := [.ref 162, .ref 164]) (h2 := h) (dc2 := dc) (ds2 := ds) 1 rfl ?_
                    refine wq_getf rfl hM rfl rfl ?_
                    refine wq_gos (f := 1) (pc2 := 51) (ls2 := [(3, .int 4), (0, .ref 162), (1, .int 2), (2, .int 10)]) (st2 := [.int ((nI pl) + (4 : Int32)), .ref 164]) (h2 := h) (dc2 := dc) (ds2 := ds) 2 rfl ?_
                    refine wq_vi (show (nI pl) + (4 : Int32) = nI (pl + 4) from nI_add pl 4) ?_
                    refine wq_ialdn rfl hT (by first | omega | exact zin_t (by omega) (by omega)) (by decide) rfl ?_
                    refine wq_sp1 rfl rfl ?_
                    refine wq_gos (f := 1) (pc2 := 57) (ls2 := [(3, .int 4), (0, .ref 162), (1, .int 2), (2, .int 10)]) (st2 := [.int 14, .ref 13, .int (tb.getD (pl + 4) 0)]) (h2 := h) (dc2 := dc) (ds2 := ds) 3 rfl ?_
                    refine wq_sp1 rfl rfl ?_
                    show wq 161 60 [(3, .int 4), (0, .ref 162), (1, .int 2), (2, .int 10)] [.int 104, .int (tb.getD (pl + 4) 0)] h dc ds _
                    refine wq_ne2 rfl rfl (fun b28x => ?_) (fun b28x => ?_)
                    · have q29x : (tb.getD (pl + 4) 0).toInt ≠ 104 := fun q => b28x (Int32.toInt_inj.mp q)
                      refine wq_sp1 rfl rfl ?_
                      refine wq_gos (f := 1) (pc2 := 74) (ls2 := [(3, .int 4), (0, .ref 162), (1, .int 2), (2, .int 10)]) (st2 := [.int 14, .ref 13]) (h2 := h) (dc2 := dc) (ds2 := ds) 3 rfl ?_
                      refine wq_sp1 rfl rfl ?_
                      show wq 161 77 [(3, .int 4), (0, .ref 162), (1, .int 2), (2, .int 10)] [.int 104] h dc ds _
                      refine wq_gos (f := 1) (pc2 := 97) (ls2 := [(3, .int 4), (0, .ref 162), (1, .int 2), (2, .int 10)]) (st2 := []) (h2 := h) (dc2 := dc) (ds2 := ds) 2 rfl ?_
                      refine wq_sp1 rfl rfl ?_
                      refine wq_gos (f := 1) (pc2 := 100) (ls2 := [(3, .int 4), (0, .ref 162), (1, .int 2), (2, .int 10)]) (st2 := [.int 10, .ref 13]) (h2 := h) (dc2 := dc) (ds2 := ds) 1 rfl ?_
                      refine wq_sp1 rfl rfl ?_
                      show wq 161 103 [(3, .int 4), (0, .ref 162), (1, .int 2), (2, .int 10)] [.int 104] h dc ds _
                      refine wq_gos (f := 1) (pc2 := 97) (ls2 := [(2, .int 11), (3, .int 4), (0, .ref 162), (1, .int 2)]) (st2 := []) (h2 := h) (dc2 := dc) (ds2 := ds) 4 rfl ?_
                      refine wq_sp1 rfl rfl ?_
                      refine wq_gos (f := 1) (pc2 := 100) (ls2 := [(2, .int 11), (3, .int 4), (0, .ref 162), (1, .int 2)]) (st2 := [.int 11, .ref 13]) (h2 := h) (dc2 := dc) (ds2 := ds) 1 rfl ?_
                      refine wq_sp1 rfl rfl ?_
                      show wq 161 103 [(2, .int 11), (3, .int 4), (0, .ref 162), (1, .int 2)] [.int 101] h dc ds _
                      refine wq_gos (f := 1) (pc2 := 97) (ls2 := [(2, .int 12), (3, .int 4), (0, .ref 162), (1, .int 2)]) (st2 := []) (h2 := h) (dc2 := dc) (ds2 := ds) 4 rfl ?_
                      refine wq_sp1 rfl rfl ?_
                      refine wq_gos (f := 1) (pc2 := 100) (ls2 := [(2, .int 12), (3, .int 4), (0, .ref 162), (1, .int 2)]) (st2 := [.int 12, .ref 13]) (h2 := h) (dc2 := dc) (ds2 := ds) 1 rfl ?_
                      refine wq_sp1 rfl rfl ?_
                      show wq 161 103 [(2, .int 12), (3, .int 4), (0, .ref 162), (1, .int 2)] [.int 105] h dc ds _
                      refine wq_gos (f := 1) (pc2 := 97) (ls2 := [(2, .int 13), (3, .int 4), (0, .ref 162), (1, .int 2)]) (st2 := []) (h2 := h) (dc2 := dc) (ds2 := ds) 4 rfl ?_
                      refine wq_sp1 rfl rfl ?_
                      refine wq_gos (f := 1) (pc2 := 100) (ls2 := [(2, .int 13), (3, .int 4), (0, .ref 162), (1, .int 2)]) (st2 := [.int 13, .ref 13]) (h2 := h) (dc2 := dc) (ds2 := ds) 1 rfl ?_
                      refine wq_sp1 rfl rfl ?_
                      show wq 161 103 [(2, .int 13), (3, .int 4), (0, .ref 162), (1, .int 2)] [.int 103] h dc ds _
                      refine wq_gos (f := 1) (pc2 := 97) (ls2 := [(2, .int 14), (3, .int 4), (0, .ref 162), (1, .int 2)]) (st2 := []) (h2 := h) (dc2 := dc) (ds2 := ds) 4 rfl ?_
                      refine wq_sp1 rfl rfl ?_
                      refine wq_gos (f := 1) (pc2 := 100) (ls2 := [(2, .int 14), (3, .int 4), (0, .ref 162), (1, .int 2)]) (st2 := [.int 14, .ref 13]) (h2 := h) (dc2 := dc) (ds2 := ds) 1 rfl ?_
                      refine wq_sp1 rfl rfl ?_
                      show wq 161 103 [(2, .int 14), (3, .int 4), (0, .ref 162), (1, .int 2)] [.int 104] h dc ds _
                      refine wq_gos (f := 1) (pc2 := 97) (ls2 := [(2, .int 15), (3, .int 4), (0, .ref 162), (1, .int 2)]) (st2 := []) (h2 := h) (dc2 := dc) (ds2 := ds) 4 rfl ?_
                      refine wq_sp1 rfl rfl ?_
                      refine wq_gos (f := 1) (pc2 := 100) (ls2 := [(2, .int 15), (3, .int 4), (0, .ref 162), (1, .int 2)]) (st2 := [.int 15, .ref 13]) (h2 := h) (dc2 := dc) (ds2 := ds) 1 rfl ?_
                      refine wq_sp1 rfl rfl ?_
                      show wq 161 103 [(2, .int 15), (3, .int 4), (0, .ref 162), (1, .int 2)] [.int 116] h dc ds _
                      refine wq_gos (f := 1) (pc2 := 97) (ls2 := [(2, .int 16), (3, .int 4), (0, .ref 162), (1, .int 2)]) (st2 := []) (h2 := h) (dc2 := dc) (ds2 := ds) 4 rfl ?_
                      refine wq_sp1 rfl rfl ?_
                      refine wq_gos (f := 1) (pc2 := 100) (ls2 := [(2, .int 16), (3, .int 4), (0, .ref 162), (1, .int 2)]) (st2 := [.int 16, .ref 13]) (h2 := h) (dc2 := dc) (ds2 := ds) 1 rfl ?_
                      refine wq_sp1 rfl rfl ?_
                      show wq 161 103 [(2, .int 16), (3, .int 4), (0, .ref 162), (1, .int 2)] [.int 32] h dc ds _
                      refine wq_gos (f := 1) (pc2 := 4) (ls2 := [(1, .int 3), (2, .int 17), (3, .int 4), (0, .ref 162)]) (st2 := []) (h2 := h) (dc2 := dc) (ds2 := ds) 5 rfl ?_
                      refine wq_ls [(0, .ref 162), (1, .int 3), (2, .int 17)] (show ([0, 1, 2] : List Nat).Nodup by decide) ⟨rfl, rfl, rfl, trivial⟩ ?_
                      exact kN (by unfold mWs2; rw [if_neg (Int.not_le.mpr b3x), if_neg (fun q => q b5x), if_neg (Int.not_le.mpr b9x), if_neg (fun q => q b11x), if_neg (Int.not_le.mpr b15x), if_neg (fun q => q b17x), if_neg (Int.not_le.mpr b21x), if_neg (fun q => q b23x), if_neg (Int.not_le.mpr b27x), if_pos b28x])
                    · have q30x : (tb.getD (pl + 4) 0).toInt = 104 := congrArg Int32.toInt b28x
                      refine wq_gos (f := 1) (pc2 := 15) (ls2 := [(3, .int 5), (0, .ref 162), (1, .int 2), (2, .int 10)]) (st2 := []) (h2 := h) (dc2 := dc) (ds2 := ds) 2 rfl ?_
                      refine wq_sp1 rfl rfl ?_
                      refine wq_gos (f := 1) (pc2 := 20) (ls2 := [(3, .int 5), (0, .ref 162), (1, .int 2), (2, .int 10)]) (st2 := [.int 15, .ref 13]) (h2 := h) (dc2 := dc) (ds2 := ds) 3 rfl ?_
                      refine wq_sp1 rfl rfl ?_
                      show wq 161 23 [(3, .int 5), (0, .ref 162), (1, .int 2), (2, .int 10)] [.int 116] h dc ds _
                      refine wq_gos (f := 1) (pc2 := 29) (ls2 := [(3, .int 5), (0, .ref 162), (1, .int 2), (2, .int 10)]) (st2 := [.ref 162]) (h2 := h) (dc2 := dc) (ds2 := ds) 3 rfl ?_
                      refine wq_getf rfl hM rfl rfl ?_
                      refine wq_gos (f := 1) (pc2 := 34) (ls2 := [(3, .int 5), (0, .ref 162), (1, .int 2), (2, .int 10)]) (st2 := [.int ((nI pl) + (5 : Int32))]) (h2 := h) (dc2 := dc) (ds2 := ds) 2 rfl ?_
                      refine wq_vi (show (nI pl) + (5 : Int32) = nI (pl + 5) from nI_add pl 5) ?_
                      refine wq_gos (f := 1) (pc2 := 35) (ls2 := [(3, .int 5), (0, .ref 162), (1, .int 2), (2, .int 10)]) (st2 := [.ref 162, .int (nI (pl + 5))]) (h2 := h) (dc2 := dc) (ds2 := ds) 1 rfl ?_
                      refine wq_getf rfl hM rfl rfl ?_
                      try have q31x := nI_toInt (n := (pl + 5)) (by omega)
                      refine wq_ge2 rfl rfl (fun b32x => ?_) (fun b32x => ?_)
                      · refine wq_sp1 rfl rfl ?_
                        refine wq_gos (f := 1) (pc2 := 74) (ls2 := [(3, .int 5), (0, .ref 162), (1, .int 2), (2, .int 10)]) (st2 := [.int 15, .ref 13]) (h2 := h) (dc2 := dc) (ds2 := ds) 3 rfl ?_
                        refine wq_sp1 rfl rfl ?_
                        show wq 161 77 [(3, .int 5), (0, .ref 162), (1, .int 2), (2, .int 10)] [.int 116] h dc ds _
                        refine wq_gos (f := 1) (pc2 := 97) (ls2 := [(3, .int 5), (0, .ref 162), (1, .int 2), (2, .int 10)]) (st2 := []) (h2 := h) (dc2 := dc) (ds2 := ds) 2 rfl ?_
                        refine wq_sp1 rfl rfl ?_
                        refine wq_gos (f := 1) (pc2 := 100) (ls2 := [(3, .int 5), (0, .ref 162), (1, .int 2), (2, .int 10)]) (st2 := [.int 10, .ref 13]) (h2 := h) (dc2 := dc) (ds2 := ds) 1 rfl ?_
                        refine wq_sp1 rfl rfl ?_
                        show wq 161 103 [(3, .int 5), (0, .ref 162), (1, .int 2), (2, .int 10)] [.int 104] h dc ds _
                        refine wq_gos (f := 1) (pc2 := 97) (ls2 := [(2, .int 11), (3, .int 5), (0, .ref 162), (1, .int 2)]) (st2 := []) (h2 := h) (dc2 := dc) (ds2 := ds) 4 rfl ?_
                        refine wq_sp1 rfl rfl ?_
                        refine wq_gos (f := 1) (pc2 := 100) (ls2 := [(2, .int 11), (3, .int 5), (0, .ref 162), (1, .int 2)]) (st2 := [.int 11, .ref 13]) (h2 := h) (dc2 := dc) (ds2 := ds) 1 rfl ?_
                        refine wq_sp1 rfl rfl ?_
                        show wq 161 103 [(2, .int 11), (3, .int 5), (0, .ref 162), (1, .int 2)] [.int 101] h dc ds _
                        refine wq_gos (f := 1) (pc2 := 97) (ls2 := [(2, .int 12), (3, .int 5), (0, .ref 162), (1, .int 2)]) (st2 := []) (h2 := h) (dc2 := dc) (ds2 := ds) 4 rfl ?_
                        refine wq_sp1 rfl rfl ?_
                        refine wq_gos (f := 1) (pc2 := 100) (ls2 := [(2, .int 12), (3, .int 5), (0, .ref 162), (1, .int 2)]) (st2 := [.int 12, .ref 13]) (h2 := h) (dc2 := dc) (ds2 := ds) 1 rfl ?_
                        refine wq_sp1 rfl rfl ?_
                        show wq 161 103 [(2, .int 12), (3, .int 5), (0, .ref 162), (1, .int 2)] [.int 105] h dc ds _
                        refine wq_gos (f := 1) (pc2 := 97) (ls2 := [(2, .int 13), (3, .int 5), (0, .ref 162), (1, .int 2)]) (st2 := []) (h2 := h) (dc2 := dc) (ds2 := ds) 4 rfl ?_
                        refine wq_sp1 rfl rfl ?_
                        refine wq_gos (f := 1) (pc2 := 100) (ls2 := [(2, .int 13), (3, .int 5), (0, .ref 162), (1, .int 2)]) (st2 := [.int 13, .ref 13]) (h2 := h) (dc2 := dc) (ds2 := ds) 1 rfl ?_
                        refine wq_sp1 rfl rfl ?_
                        show wq 161 103 [(2, .int 13), (3, .int 5), (0, .ref 162), (1, .int 2)] [.int 103] h dc ds _
                        refine wq_gos (f := 1) (pc2 := 97) (ls2 := [(2, .int 14), (3, .int 5), (0, .ref 162), (1, .int 2)]) (st2 := []) (h2 := h) (dc2 := dc) (ds2 := ds) 4 rfl ?_
                        refine wq_sp1 rfl rfl ?_
                        refine wq_gos (f := 1) (pc2 := 100) (ls2 := [(2, .int 14), (3, .int 5), (0, .ref 162), (1, .int 2)]) (st2 := [.int 14, .ref 13]) (h2 := h) (dc2 := dc) (ds2 := ds) 1 rfl ?_
                        refine wq_sp1 rfl rfl ?_
                        show wq 161 103 [(2, .int 14), (3, .int 5), (0, .ref 162), (1, .int 2)] [.int 104] h dc ds _
                        refine wq_gos (f := 1) (pc2 := 97) (ls2 := [(2, .int 15), (3, .int 5), (0, .ref 162), (1, .int 2)]) (st2 := []) (h2 := h) (dc2 := dc) (ds2 := ds) 4 rfl ?_
                        refine wq_sp1 rfl rfl ?_
                        refine wq_gos (f := 1) (pc2 := 100) (ls2 := [(2, .int 15), (3, .int 5), (0, .ref 162), (1, .int 2)]) (st2 := [.int 15, .ref 13]) (h2 := h) (dc2 := dc) (ds2 := ds) 1 rfl ?_
                        refine wq_sp1 rfl rfl ?_
                        show wq 161 103 [(2, .int 15), (3, .int 5), (0, .ref 162), (1, .int 2)] [.int 116] h dc ds _
                        refine wq_gos (f := 1) (pc2 := 97) (ls2 := [(2, .int 16), (3, .int 5), (0, .ref 162), (1, .int 2)]) (st2 := []) (h2 := h) (dc2 := dc) (ds2 := ds) 4 rfl ?_
                        refine wq_sp1 rfl rfl ?_
                        refine wq_gos (f := 1) (pc2 := 100) (ls2 := [(2, .int 16), (3, .int 5), (0, .ref 162), (1, .int 2)]) (st2 := [.int 16, .ref 13]) (h2 := h) (dc2 := dc) (ds2 := ds) 1 rfl ?_
                        refine wq_sp1 rfl rfl ?_
                        show wq 161 103 [(2, .int 16), (3, .int 5), (0, .ref 162), (1, .int 2)] [.int 32] h dc ds _
                        refine wq_gos (f := 1) (pc2 := 4) (ls2 := [(1, .int 3), (2, .int 17), (3, .int 5), (0, .ref 162)]) (st2 := []) (h2 := h) (dc2 := dc) (ds2 := ds) 5 rfl ?_
                        refine wq_ls [(0, .ref 162), (1, .int 3), (2, .int 17)] (show ([0, 1, 2] : List Nat).Nodup by decide) ⟨rfl, rfl, rfl, trivial⟩ ?_
                        exact kN (by unfold mWs2; rw [if_neg (Int.not_le.mpr b3x), if_neg (fun q => q b5x), if_neg (Int.not_le.mpr b9x), if_neg (fun q => q b11x), if_neg (Int.not_le.mpr b15x), if_neg (fun q => q b17x), if_neg (Int.not_le.mpr b21x), if_neg (fun q => q b23x), if_neg (Int.not_le.mpr b27x), if_neg (fun q => q b28x), if_pos b32x])
                      · refine wq_gos (f := 1) (pc2 := 42) (ls2 := [(3, .int 5), (0, .ref 162), (1, .int 2), (2, .int 10)]) (st2 := [.ref 162]) (h2 := h) (dc2 := dc) (ds2 := ds) 1 rfl ?_
                        refine wq_getf rfl hM rfl rfl ?_
                        refine wq_gos (f := 1) (pc2 := 46) (ls2 := [(3, .int 5), (0, .ref 162), (1, .int 2), (2, .int 10)]) (st2 := [.ref 162, .ref 164]) (h2 := h) (dc2 := dc) (ds2 := ds) 1 rfl ?_
                        refine wq_getf rfl hM rfl rfl ?_
                        refine wq_gos (f := 1) (pc2 := 51) (ls2 := [(3, .int 5), (0, .ref 162), (1, .int 2), (2, .int 10)]) (st2 := [.int ((nI pl) + (5 : Int32)), .ref 164]) (h2 := h) (dc2 := dc) (ds2 := ds) 2 rfl ?_
                        refine wq_vi (show (nI pl) + (5 : Int32) = nI (pl + 5) from nI_add pl 5) ?_
                        refine wq_ialdn rfl hT (by first | omega | exact zin_t (by omega) (by omega)) (by decide) rfl ?_
                        refine wq_sp1 rfl rfl ?_
                        refine wq_gos (f := 1) (pc2 := 57) (ls2 := [(3, .int 5), (0, .ref 162), (1, .int 2), (2, .int 10)]) (st2 := [.int 15, .ref 13, .int (tb.getD (pl + 5) 0)]) (h2 := h) (dc2 := dc) (ds2 := ds) 3 rfl ?_
                        refine wq_sp1 rfl rfl ?_
                        show wq 161 60 [(3, .int 5), (0, .ref 162), (1, .int 2), (2, .int 10)] [.int 116, .int (tb.getD (pl + 5) 0)] h dc ds _
                        have q33x : (116 : Int32).toInt = 116 := rfl
                        refine wq_ne2 rfl rfl (fun b34x => ?_) (fun b34x => ?_)
                        · have q35x : (tb.getD (pl + 5) 0).toInt ≠ 116 := fun q => b34x (Int32.toInt_inj.mp q)
                          refine wq_sp1 rfl rfl ?_
                          refine wq_gos (f := 1) (pc2 := 74) (ls2 := [(3, .int 5), (0, .ref 162), (1, .int 2), (2, .int 10)]) (st2 := [.int 15, .ref 13]) (h2 := h) (dc2 := dc) (ds2 := ds) 3 rfl ?_
                          refine wq_sp1 rfl rfl ?_
                          show wq 161 77 [(3, .int 5), (0, .ref 162), (1, .int 2), (2, .int 10)] [.int 116] h dc ds _
                          refine wq_gos (f := 1) (pc2 := 97) (ls2 := [(3, .int 5), (0, .ref 162), (1, .int 2), (2, .int 10)]) (st2 := []) (h2 := h) (dc2 := dc) (ds2 := ds) 2 rfl ?_
                          refine wq_sp1 rfl rfl ?_
                          refine wq_gos (f := 1) (pc2 := 100) (ls2 := [(3, .int 5), (0, .ref 162), (1, .int 2), (2, .int 10)]) (st2 := [.int 10, .ref 13]) (h2 := h) (dc2 := dc) (ds2 := ds) 1 rfl ?_
                          refine wq_sp1 rfl rfl ?_
                          show wq 161 103 [(3, .int 5), (0, .ref 162), (1, .int 2), (2, .int 10)] [.int 104] h dc ds _
                          refine wq_gos (f := 1) (pc2 := 97) (ls2 := [(2, .int 11), (3, .int 5), (0, .ref 162), (1, .int 2)]) (st2 := []) (h2 := h) (dc2 := dc) (ds2 := ds) 4 rfl ?_
                          refine wq_sp1 rfl rfl ?_
                          refine wq_gos (f := 1) (pc2 := 100) (ls2 := [(2, .int 11), (3, .int 5), (0, .ref 162), (1, .int 2)]) (st2 := [.int 11, .ref 13]) (h2 := h) (dc2 := dc) (ds2 := ds) 1 rfl ?_
                          refine wq_sp1 rfl rfl ?_
                          show wq 161 103 [(2, .int 11), (3, .int 5), (0, .ref 162), (1, .int 2)] [.int 101] h dc ds _
                          refine wq_gos (f := 1) (pc2 := 97) (ls2 := [(2, .int 12), (3, .int 5), (0, .ref 162), (1, .int 2)]) (st2 := []) (h2 := h) (dc2 := dc) (ds2 := ds) 4 rfl ?_
                          refine wq_sp1 rfl rfl ?_
                          refine wq_gos (f := 1) (pc2 := 100) (ls2 := [(2, .int 12), (3, .int 5), (0, .ref 162), (1, .int 2)]) (st2 := [.int 12, .ref 13]) (h2 := h) (dc2 := dc) (ds2 := ds) 1 rfl ?_
                          refine wq_sp1 rfl rfl ?_
                          show wq 161 103 [(2, .int 12), (3, .int 5), (0, .ref 162), (1, .int 2)] [.int 105] h dc ds _
                          refine wq_gos (f := 1) (pc2 := 97) (ls2 := [(2, .int 13), (3, .int 5), (0, .ref 162), (1, .int 2)]) (st2 := []) (h2 := h) (dc2 := dc) (ds2 := ds) 4 rfl ?_
                          refine wq_sp1 rfl rfl ?_
                          refine wq_gos (f := 1) (pc2 := 100) (ls2 := [(2, .int 13), (3, .int 5), (0, .ref 162), (1, .int 2)]) (st2 := [.int 13, .ref 13]) (h2 := h) (dc2 := dc) (ds2 := ds) 1 rfl ?_
                          refine wq_sp1 rfl rfl ?_
                          show wq 161 103 [(2, .int 13), (3, .int 5), (0, .ref 162), (1, .int 2)] [.int 103] h dc ds _
                          refine wq_gos (f := 1) (pc2 := 97) (ls2 := [(2, .int 14), (3, .int 5), (0, .ref 162), (1, .int 2)]) (st2 := []) (h2 := h) (dc2 := dc) (ds2 := ds) 4 rfl ?_
                          refine wq_sp1 rfl rfl ?_
                          refine wq_gos (f := 1) (pc2 := 100) (ls2 := [(2, .int 14), (3, .int 5), (0, .ref 162), (1, .int 2)]) (st2 := [.int 14, .ref 13]) (h2 := h) (dc2 := dc) (ds2 := ds) 1 rfl ?_
                          refine wq_sp1 rfl rfl ?_
                          show wq 161 103 [(2, .int 14), (3, .int 5), (0, .ref 162), (1, .int 2)] [.int 104] h dc ds _
                          refine wq_gos (f := 1) (pc2 := 97) (ls2 := [(2, .int 15), (3, .int 5), (0, .ref 162), (1, .int 2)]) (st2 := []) (h2 := h) (dc2 := dc) (ds2 := ds) 4 rfl ?_
                          refine wq_sp1 rfl rfl ?_
                          refine wq_gos (f := 1) (pc2 := 100) (ls2 := [(2, .int 15), (3, .int 5), (0, .ref 162), (1, .int 2)]) (st2 := [.int 15, .ref 13]) (h2 := h) (dc2 := dc) (ds2 := ds) 1 rfl ?_
                          refine wq_sp1 rfl rfl ?_
                          show wq 161 103 [(2, .int 15), (3, .int 5), (0, .ref 162), (1, .int 2)] [.int 116] h dc ds _
                          refine wq_gos (f := 1) (pc2 := 97) (ls2 := [(2, .int 16), (3, .int 5), (0, .ref 162), (1, .int 2)]) (st2 := []) (h2 := h) (dc2 := dc) (ds2 := ds) 4 rfl ?_
                          refine wq_sp1 rfl rfl ?_
                          refine wq_gos (f := 1) (pc2 := 100) (ls2 := [(2, .int 16), (3, .int 5), (0, .ref 162), (1, .int 2)]) (st2 := [.int 16, .ref 13]) (h2 := h) (dc2 := dc) (ds2 := ds) 1 rfl ?_
                          refine wq_sp1 rfl rfl ?_
                          show wq 161 103 [(2, .int 16), (3, .int 5), (0, .ref 162), (1, .int 2)] [.int 32] h dc ds _
                          refine wq_gos (f := 1) (pc2 := 4) (ls2 := [(1, .int 3), (2, .int 17), (3, .int 5), (0, .ref 162)]) (st2 := []) (h2 := h) (dc2 := dc) (ds2 := ds) 5 rfl ?_
                          refine wq_ls [(0, .ref 162), (1, .int 3), (2, .int 17)] (show ([0, 1, 2] : List Nat).Nodup by decide) ⟨rfl, rfl, rfl, trivial⟩ ?_
                          exact kN (by unfold mWs2; rw [if_neg (Int.not_le.mpr b3x), if_neg (fun q => q b5x), if_neg (Int.not_le.mpr b9x), if_neg (fun q => q b11x), if_neg (Int.not_le.mpr b15x), if_neg (fun q => q b17x), if_neg (Int.not_le.mpr b21x), if_neg (fun q => q b23x), if_neg (Int.not_le.mpr b27x), if_neg (fun q => q b28x), if_neg (Int.not_le.mpr b32x), if_pos b34x])
                        · have q36x : (tb.getD (pl + 5) 0).toInt = 116 := congrArg Int32.toInt b34x
                          refine wq_gos (f := 1) (pc2 := 15) (ls2 := [(3, .int 6), (0, .ref 162), (1, .int 2), (2, .int 10)]) (st2 := []) (h2 := h) (dc2 := dc) (ds2 := ds) 2 rfl ?_
                          refine wq_sp1 rfl rfl ?_
                          refine wq_gos (f := 1) (pc2 := 20) (ls2 := [(3, .int 6), (0, .ref 162), (1, .int 2), (2, .int 10)]) (st2 := [.int 16, .ref 13]) (h2 := h) (dc2 := dc) (ds2 := ds) 3 rfl ?_
                          refine wq_sp1 rfl rfl ?_
                          show wq 161 23 [(3, .int 6), (0, .ref 162), (1, .int 2), (2, .int 10)] [.int 32] h dc ds _
                          refine wq_gos (f := 1) (pc2 := 69) (ls2 := [(3, .int 6), (0, .ref 162), (1, .int 2), (2, .int 10)]) (st2 := []) (h2 := h) (dc2 := dc) (ds2 := ds) 2 rfl ?_
                          refine wq_sp1 rfl rfl ?_
                          refine wq_gos (f := 1) (pc2 := 74) (ls2 := [(3, .int 6), (0, .ref 162), (1, .int 2), (2, .int 10)]) (st2 := [.int 16, .ref 13]) (h2 := h) (dc2 := dc) (ds2 := ds) 3 rfl ?_
                          refine wq_sp1 rfl rfl ?_
                          show wq 161 77 [(3, .int 6), (0, .ref 162), (1, .int 2), (2, .int 10)] [.int 32] h dc ds _
                          refine wq_gos (f := 1) (pc2 := 83) (ls2 := [(3, .int 6), (0, .ref 162), (1, .int 2), (2, .int 10)]) (st2 := [.ref 162]) (h2 := h) (dc2 := dc) (ds2 := ds) 3 rfl ?_
                          refine wq_getf rfl hM rfl rfl ?_
                          refine wq_gos (f := 1) (pc2 := 88) (ls2 := [(3, .int 6), (0, .ref 162), (1, .int 2), (2, .int 10)]) (st2 := [.int ((nI pl) + (6 : Int32))]) (h2 := h) (dc2 := dc) (ds2 := ds) 2 rfl ?_
                          refine wq_vi (show (nI pl) + (6 : Int32) = nI (pl + 6) from nI_add pl 6) ?_
                          refine wq_gos (f := 1) (pc2 := 89) (ls2 := [(3, .int 6), (0, .ref 162), (1, .int 2), (2, .int 10)]) (st2 := [.ref 162, .int (nI (pl + 6))]) (h2 := h) (dc2 := dc) (ds2 := ds) 1 rfl ?_
                          refine wq_getf rfl hM rfl rfl ?_
                          try have q37x := nI_toInt (n := (pl + 6)) (by omega)
                          refine wq_ne2 rfl rfl (fun b38x => ?_) (fun b38x => ?_)
                          · have q39x : (nI (pl + 6)).toInt ≠ (nI at9).toInt := fun q => b38x (Int32.toInt_inj.mp q)
                            refine wq_sp1 rfl rfl ?_
                            refine wq_gos (f := 1) (pc2 := 100) (ls2 := [(3, .int 6), (0, .ref 162), (1, .int 2), (2, .int 10)]) (st2 := [.int 10, .ref 13]) (h2 := h) (dc2 := dc) (ds2 := ds) 1 rfl ?_
                            refine wq_sp1 rfl rfl ?_
                            show wq 161 103 [(3, .int 6), (0, .ref 162), (1, .int 2), (2, .int 10)] [.int 104] h dc ds _
                            refine wq_gos (f := 1) (pc2 := 97) (ls2 := [(2, .int 11), (3, .int 6), (0, .ref 162), (1, .int 2)]) (st2 := []) (h2 := h) (dc2 := dc) (ds2 := ds) 4 rfl ?_
                            refine wq_sp1 rfl rfl ?_
                            refine wq_gos (f := 1) (pc2 := 100) (ls2 := [(2, .int 11), (3, .int 6), (0, .ref 162), (1, .int 2)]) (st2 := [.int 11, .ref 13]) (h2 := h) (dc2 := dc) (ds2 := ds) 1 rfl ?_
                            refine wq_sp1 rfl rfl ?_
                            show wq 161 103 [(2, .int 11), (3, .int 6), (0, .ref 162), (1, .int 2)] [.int 101] h dc ds _
                            refine wq_gos (f := 1) (pc2 := 97) (ls2 := [(2, .int 12), (3, .int 6), (0, .ref 162), (1, .int 2)]) (st2 := []) (h2 := h) (dc2 := dc) (ds2 := ds) 4 rfl ?_
                            refine wq_sp1 rfl rfl ?_
                            refine wq_gos (f := 1) (pc2 := 100) (ls2 := [(2, .int 12), (3, .int 6), (0, .ref 162), (1, .int 2)]) (st2 := [.int 12, .ref 13]) (h2 := h) (dc2 := dc) (ds2 := ds) 1 rfl ?_
                            refine wq_sp1 rfl rfl ?_
                            show wq 161 103 [(2, .int 12), (3, .int 6), (0, .ref 162), (1, .int 2)] [.int 105] h dc ds _
                            refine wq_gos (f := 1) (pc2 := 97) (ls2 := [(2, .int 13), (3, .int 6), (0, .ref 162), (1, .int 2)]) (st2 := []) (h2 := h) (dc2 := dc) (ds2 := ds) 4 rfl ?_
                            refine wq_sp1 rfl rfl ?_
                            refine wq_gos (f := 1) (pc2 := 100) (ls2 := [(2, .int 13), (3, .int 6), (0, .ref 162), (1, .int 2)]) (st2 := [.int 13, .ref 13]) (h2 := h) (dc2 := dc) (ds2 := ds) 1 rfl ?_
                            refine wq_sp1 rfl rfl ?_
                            show wq 161 103 [(2, .int 13), (3, .int 6), (0, .ref 162), (1, .int 2)] [.int 103] h dc ds _
                            refine wq_gos (f := 1) (pc2 := 97) (ls2 := [(2, .int 14), (3, .int 6), (0, .ref 162), (1, .int 2)]) (st2 := []) (h2 := h) (dc2 := dc) (ds2 := ds) 4 rfl ?_
                            refine wq_sp1 rfl rfl ?_
                            refine wq_gos (f := 1) (pc2 := 100) (ls2 := [(2, .int 14), (3, .int 6), (0, .ref 162), (1, .int 2)]) (st2 := [.int 14, .ref 13]) (h2 := h) (dc2 := dc) (ds2 := ds) 1 rfl ?_
                            refine wq_sp1 rfl rfl ?_
                            show wq 161 103 [(2, .int 14), (3, .int 6), (0, .ref 162), (1, .int 2)] [.int 104] h dc ds _
                            refine wq_gos (f := 1) (pc2 := 97) (ls2 := [(2, .int 15), (3, .int 6), (0, .ref 162), (1, .int 2)]) (st2 := []) (h2 := h) (dc2 := dc) (ds2 := ds) 4 rfl ?_
                            refine wq_sp1 rfl rfl ?_
                            refine wq_gos (f := 1) (pc2 := 100) (ls2 := [(2, .int 15), (3, .int 6), (0, .ref 162), (1, .int 2)]) (st2 := [.int 15, .ref 13]) (h2 := h) (dc2 := dc) (ds2 := ds) 1 rfl ?_
                            refine wq_sp1 rfl rfl ?_
                            show wq 161 103 [(2, .int 15), (3, .int 6), (0, .ref 162), (1, .int 2)] [.int 116] h dc ds _
                            refine wq_gos (f := 1) (pc2 := 97) (ls2 := [(2, .int 16), (3, .int 6), (0, .ref 162), (1, .int 2)]) (st2 := []) (h2 := h) (dc2 := dc) (ds2 := ds) 4 rfl ?_
                            refine wq_sp1 rfl rfl ?_
                            refine wq_gos (f := 1) (pc2 := 100) (ls2 := [(2, .int 16), (3, .int 6), (0, .ref 162), (1, .int 2)]) (st2 := [.int 16, .ref 13]) (h2 := h) (dc2 := dc) (ds2 := ds) 1 rfl ?_
                            refine wq_sp1 rfl rfl ?_
                            show wq 161 103 [(2, .int 16), (3, .int 6), (0, .ref 162), (1, .int 2)] [.int 32] h dc ds _
                            refine wq_gos (f := 1) (pc2 := 4) (ls2 := [(1, .int 3), (2, .int 17), (3, .int 6), (0, .ref 162)]) (st2 := []) (h2 := h) (dc2 := dc) (ds2 := ds) 5 rfl ?_
                            refine wq_ls [(0, .ref 162), (1, .int 3), (2, .int 17)] (show ([0, 1, 2] : List Nat).Nodup by decide) ⟨rfl, rfl, rfl, trivial⟩ ?_
                            exact kN (by unfold mWs2; rw [if_neg (Int.not_le.mpr b3x), if_neg (fun q => q b5x), if_neg (Int.not_le.mpr b9x), if_neg (fun q => q b11x), if_neg (Int.not_le.mpr b15x), if_neg (fun q => q b17x), if_neg (Int.not_le.mpr b21x), if_neg (fun q => q b23x), if_neg (Int.not_le.mpr b27x), if_neg (fun q => q b28x), if_neg (Int.not_le.mpr b32x), if_neg (fun q => q b34x), if_pos b38x])
                          · have q40x : (nI (pl + 6)).toInt = (nI at9).toInt := congrArg Int32.toInt b38x
                            refine wq_gos (f := 1) (pc2 := 96) (ls2 := [(3, .int 6), (0, .ref 162), (1, .int 2), (2, .int 10)]) (st2 := [.int 2]) (h2 := h) (dc2 := dc) (ds2 := ds) 1 rfl ?_
                            exact wq_ret rfl rfl (kR (by unfold mWs2; rw [if_neg (Int.not_le.mpr b3x), if_neg (fun q => q b5x), if_neg (Int.not_le.mpr b9x), if_neg (fun q => q b11x), if_neg (Int.not_le.mpr b15x), if_neg (fun q => q b17x), if_neg (Int.not_le.mpr b21x), if_neg (fun q => q b23x), if_neg (Int.not_le.mpr b27x), if_neg (fun q => q b28x), if_neg (Int.not_le.mpr b32x), if_neg (fun q => q b34x), if_neg (fun q => q b38x)]))
noncomputable def mWs3 (tb : List Int32) (at9 pl : Nat) : Nat := (if (nI at9).toInt ≤ (nI (pl + 0)).toInt then 0 else (if (tb.getD (pl + 0) 0) ≠ (108 : Int32) then 0 else (if (nI at9).toInt ≤ (nI (pl + 1)).toInt then 0 else (if (tb.getD (pl + 1) 0) ≠ (105 : Int32) then 0 else (if (nI at9).toInt ≤ (nI (pl + 2)).toInt then 0 else (if (tb.getD (pl + 2) 0) ≠ (109 : Int32) then 0 else (if (nI at9).toInt ≤ (nI (pl + 3)).toInt then 0 else (if (tb.getD (pl + 3) 0) ≠ (105 : Int32) then 0 else (if (nI at9).toInt ≤ (nI (pl + 4)).toInt then 0 else (if (tb.getD (pl + 4) 0) ≠ (116 : Int32) then 0 else (if (nI (pl + 5)) ≠ (nI at9) then 0 else 1)))))))))))
set_option maxRecDepth 100000 in
set_option maxHeartbeats 4000000 in
theorem m_w3 {h : zH} {Q : zR → Prop} {dc ds : Nat} {n0 n2 n14 n22 n23 n27 n28 n32 n33 n34 n35 n39 n52 : Int32} {sz at9 pl : Nat} {so va ft fp : Int32} {tb : List Int32} (hM : zat h 162 = some (.inr (.inr (.inr (10, mO n0 n2 n14 (nI sz) (nI at9) (nI pl) so va ft fp n22 n23 n27 n28 n32 n33 n34 n35 n39 n52))))) (hT : zat h 164 = some (.inl (0, 700, tb))) (hsz : sz ≤ 700) (ha : at9 ≤ sz) (hp : pl ≤ at9) (kN : ((mWs3 tb at9 pl) = 0) → wq 161 4 [(0, .ref 162), (1, .int 4), (2, .int 23)] [] h dc ds Q) (kR : ((mWs3 tb at9 pl) = 1) → Q (some (.int 3), h, dc, ds)) : wq 161 4 [(0, .ref 162), (1, .int 3), (2, .int 17)] [] h dc ds Q := by
  have qnat9 := nI_toInt (n := at9) (by omega)
  have qnpl := nI_toInt (n := pl) (by omega)
  have qp0 := nI_toInt (n := pl + 0) (by omega)
  have qp1 := nI_toInt (n := pl + 1) (by omega)
  have qp2 := nI_toInt (n := pl + 2) (by omega)
  have qp3 := nI_toInt (n := pl + 3) (by omega)
  have qp4 := nI_toInt (n := pl + 4) (by omega)
  have qp5 := nI_toInt (n := pl + 5) (by omega)
  have qp6 := nI_toInt (n := pl + 6) (by omega)
  have qp7 := nI_toInt (n := pl + 7) (by omega)
  refine wq_gos (f := 1) (pc2 := 5) (ls2 := [(0, .ref 162), (1, .int 3), (2, .int 17)]) (st2 := [.int 17]) (h2 := h) (dc2 := dc) (ds2 := ds) 1 rfl ?_
  refine wq_sp1 rfl rfl ?_
  refine wq_sp1 rfl rfl ?_
  refine wq_gos (f := 1) (pc2 := 15) (ls2 := [(3, .int 0), (0, .ref 162), (1, .int 3), (2, .int 17)]) (st2 := []) (h2 := h) (dc2 := dc) (ds2 := ds) 3 rfl ?_
  refine wq_sp1 rfl rfl ?_
  refine wq_gos (f := 1) (pc2 := 20) (ls2 := [(3, .int 0), (0, .ref 162), (1, .int 3), (2, .int 17)]) (st2 := [.int 17, .ref 13]) (h2 := h) (dc2 := dc) (ds2 := ds) 3 rfl ?_
  refine wq_sp1 rfl rfl ?_
  show wq 161 23 [(3, .int 0), (0, .ref 162), (1, .int 3), (2, .int 17)] [.int 108] h dc ds _
  refine wq_gos (f := 1) (pc2 := 29) (ls2 := [(3, .int 0), (0, .ref 162), (1, .int 3), (2, .int 17)]) (st2 := [.ref 162]) (h2 := h) (dc2 := dc) (ds2 := ds) 3 rfl ?_
  refine wq_getf rfl hM rfl rfl ?_
  refine wq_gos (f := 1) (pc2 := 34) (ls2 := [(3, .int 0), (0, .ref 162), (1, .int 3), (2, .int 17)]) (st2 := [.int ((nI pl) + (0 : Int32))]) (h2 := h) (dc2 := dc) (ds2 := ds) 2 rfl ?_
  refine wq_vi (show (nI pl) + (0 : Int32) = nI (pl + 0) from nI_add pl 0) ?_
  refine wq_gos (f := 1) (pc2 := 35) (ls2 := [(3, .int 0), (0, .ref 162), (1, .int 3), (2, .int 17)]) (st2 := [.ref 162, .int (nI (pl + 0))]) (h2 := h) (dc2 := dc) (ds2 := ds) 1 rfl ?_
  refine wq_getf rfl hM rfl rfl ?_
  try have q1x := nI_toInt (n := (pl + 0)) (by omega)
  try have q2x := nI_toInt (n := at9) (by omega)
  refine wq_ge2 rfl rfl (fun b3x => ?_) (fun b3x => ?_)
  · refine wq_sp1 rfl rfl ?_
    refine wq_gos (f := 1) (pc2 := 74) (ls2 := [(3, .int 0), (0, .ref 162), (1, .int 3), (2, .int 17)]) (st2 := [.int 17, .ref 13]) (h2 := h) (dc2 := dc) (ds2 := ds) 3 rfl ?_
    refine wq_sp1 rfl rfl ?_
    show wq 161 77 [(3, .int 0), (0, .ref 162), (1, .int 3), (2, .int 17)] [.int 108] h dc ds _
    refine wq_gos (f := 1) (pc2 := 97) (ls2 := [(3, .int 0), (0, .ref 162), (1, .int 3), (2, .int 17)]) (st2 := []) (h2 := h) (dc2 := dc) (ds2 := ds) 2 rfl ?_
    refine wq_sp1 rfl rfl ?_
    refine wq_gos (f := 1) (pc2 := 100) (ls2 := [(3, .int 0), (0, .ref 162), (1, .int 3), (2, .int 17)]) (st2 := [.int 17, .ref 13]) (h2 := h) (dc2 := dc) (ds2 := ds) 1 rfl ?_
    refine wq_sp1 rfl rfl ?_
    show wq 161 103 [(3, .int 0), (0, .ref 162), (1, .int 3), (2, .int 17)] [.int 108] h dc ds _
    refine wq_gos (f := 1) (pc2 := 97) (ls2 := [(2, .int 18), (3, .int 0), (0, .ref 162), (1, .int 3)]) (st2 := []) (h2 := h) (dc2 := dc) (ds2 := ds) 4 rfl ?_
    refine wq_sp1 rfl rfl ?_
    refine wq_gos (f := 1) (pc2 := 100) (ls2 := [(2, .int 18), (3, .int 0), (0, .ref 162), (1, .int 3)]) (st2 := [.int 18, .ref 13]) (h2 := h) (dc2 := dc) (ds2 := ds) 1 rfl ?_
    refine wq_sp1 rfl rfl ?_
    show wq 161 103 [(2, .int 18), (3, .int 0), (0, .ref 162), (1, .int 3)] [.int 105] h dc ds _
    refine wq_gos (f := 1) (pc2 := 97) (ls2 := [(2, .int 19), (3, .int 0), (0, .ref 162), (1, .int 3)]) (st2 := []) (h2 := h) (dc2 := dc) (ds2 := ds) 4 rfl ?_
    refine wq_sp1 rfl rfl ?_
    refine wq_gos (f := 1) (pc2 := 100) (ls2 := [(2, .int 19), (3, .int 0), (0, .ref 162), (1, .int 3)]) (st2 := [.int 19, .ref 13]) (h2 := h) (dc2 := dc) (ds2 := ds) 1 rfl ?_
    refine wq_sp1 rfl rfl ?_
    show wq 161 103 [(2, .int 19), (3, .int 0), (0, .ref 162), (1, .int 3)] [.int 109] h dc ds _
    refine wq_gos (f := 1) (pc2 := 97) (ls2 := [(2, .int 20), (3, .int 0), (0, .ref 162), (1, .int 3)]) (st2 := []) (h2 := h) (dc2 := dc) (ds2 := ds) 4 rfl ?_
    refine wq_sp1 rfl rfl ?_
    refine wq_gos (f := 1) (pc2 := 100) (ls2 := [(2, .int 20), (3, .int 0), (0, .ref 162), (1, .int 3)]) (st2 := [.int 20, .ref 13]) (h2 := h) (dc2 := dc) (ds2 := ds) 1 rfl ?_
    refine wq_sp1 rfl rfl ?_
    show wq 161 103 [(2, .int 20), (3, .int 0), (0, .ref 162), (1, .int 3)] [.int 105] h dc ds _
    refine wq_gos (f := 1) (pc2 := 97) (ls2 := [(2, .int 21), (3, .int 0), (0, .ref 162), (1, .int 3)]) (st2 := []) (h2 := h) (dc2 := dc) (ds2 := ds) 4 rfl ?_
    refine wq_sp1 rfl rfl ?_
    refine wq_gos (f := 1) (pc2 := 100) (ls2 := [(2, .int 21), (3, .int 0), (0, .ref 162), (1, .int 3)]) (st2 := [.int 21, .ref 13]) (h2 := h) (dc2 := dc) (ds2 := ds) 1 rfl ?_
    refine wq_sp1 rfl rfl ?_
    show wq 161 103 [(2, .int 21), (3, .int 0), (0, .ref 162), (1, .int 3)] [.int 116] h dc ds _
    refine wq_gos (f := 1) (pc2 := 97) (ls2 := [(2, .int 22), (3, .int 0), (0, .ref 162), (1, .int 3)]) (st2 := []) (h2 := h) (dc2 := dc) (ds2 := ds) 4 rfl ?_
    refine wq_sp1 rfl rfl ?_
    refine wq_gos (f := 1) (pc2 := 100) (ls2 := [(2, .int 22), (3, .int 0), (0, .ref 162), (1, .int 3)]) (st2 := [.int 22, .ref 13]) (h2 := h) (dc2 := dc) (ds2 := ds) 1 rfl ?_
    refine wq_sp1 rfl rfl ?_
    show wq 161 103 [(2, .int 22), (3, .int 0), (0, .ref 162), (1, .int 3)] [.int 32] h dc ds _
    refine wq_gos (f := 1) (pc2 := 4) (ls2 := [(1, .int 4), (2, .int 23), (3, .int 0), (0, .ref 162)]) (st2 := []) (h2 := h) (dc2 := dc) (ds2 := ds) 5 rfl ?_
    refine wq_ls [(0, .ref 162), (1, .int 4), (2, .int 23)] (show ([0, 1, 2] : List Nat).Nodup by decide) ⟨rfl, rfl, rfl, trivial⟩ ?_
    exact kN (by unfold mWs3; rw [if_pos b3x])
  · refine wq_gos (f := 1) (pc2 := 42) (ls2 := [(3, .int 0), (0, .ref 162), (1, .int 3), (2, .int 17)]) (st2 := [.ref 162]) (h2 := h) (dc2 := dc) (ds2 := ds) 1 rfl ?_
    refine wq_getf rfl hM rfl rfl ?_
    refine wq_gos (f := 1) (pc2 := 46) (ls2 := [(3, .int 0), (0, .ref 162), (1, .int 3), (2, .int 17)]) (st2 := [.ref 162, .ref 164]) (h2 := h) (dc2 := dc) (ds2 := ds) 1 rfl ?_
    refine wq_getf rfl hM rfl rfl ?_
    refine wq_gos (f := 1) (pc2 := 51) (ls2 := [(3, .int 0), (0, .ref 162), (1, .int 3), (2, .int 17)]) (st2 := [.int ((nI pl) + (0 : Int32)), .ref 164]) (h2 := h) (dc2 := dc) (ds2 := ds) 2 rfl ?_
    refine wq_vi (show (nI pl) + (0 : Int32) = nI (pl + 0) from nI_add pl 0) ?_
    refine wq_ialdn rfl hT (by first | omega | exact zin_t (by omega) (by omega)) (by decide) rfl ?_
    refine wq_sp1 rfl rfl ?_
    refine wq_gos (f := 1) (pc2 := 57) (ls2 := [(3, .int 0), (0, .ref 162), (1, .int 3), (2, .int 17)]) (st2 := [.int 17, .ref 13, .int (tb.getD (pl + 0) 0)]) (h2 := h) (dc2 := dc) (ds2 := ds) 3 rfl ?_
    refine wq_sp1 rfl rfl ?_
    show wq 161 60 [(3, .int 0), (0, .ref 162), (1, .int 3), (2, .int 17)] [.int 108, .int (tb.getD (pl + 0) 0)] h dc ds _
    have q4x : (108 : Int32).toInt = 108 := rfl
    refine wq_ne2 rfl rfl (fun b5x => ?_) (fun b5x => ?_)
    · have q6x : (tb.getD (pl + 0) 0).toInt ≠ 108 := fun q => b5x (Int32.toInt_inj.mp q)
      refine wq_sp1 rfl rfl ?_
      refine wq_gos (f := 1) (pc2 := 74) (ls2 := [(3, .int 0), (0, .ref 162), (1, .int 3), (2, .int 17)]) (st2 := [.int 17, .ref 13]) (h2 := h) (dc2 := dc) (ds2 := ds) 3 rfl ?_
      refine wq_sp1 rfl rfl ?_
      show wq 161 77 [(3, .int 0), (0, .ref 162), (1, .int 3), (2, .int 17)] [.int 108] h dc ds _
      refine wq_gos (f := 1) (pc2 := 97) (ls2 := [(3, .int 0), (0, .ref 162), (1, .int 3), (2, .int 17)]) (st2 := []) (h2 := h) (dc2 := dc) (ds2 := ds) 2 rfl ?_
      refine wq_sp1 rfl rfl ?_
      refine wq_gos (f := 1) (pc2 := 100) (ls2 := [(3, .int 0), (0, .ref 162), (1, .int 3), (2, .int 17)]) (st2 := [.int 17, .ref 13]) (h2 := h) (dc2 := dc) (ds2 := ds) 1 rfl ?_
      refine wq_sp1 rfl rfl ?_
      show wq 161 103 [(3, .int 0), (0, .ref 162), (1, .int 3), (2, .int 17)] [.int 108] h dc ds _
      refine wq_gos (f := 1) (pc2 := 97) (ls2 := [(2, .int 18), (3, .int 0), (0, .ref 162), (1, .int 3)]) (st2 := []) (h2 := h) (dc2 := dc) (ds2 := ds) 4 rfl ?_
      refine wq_sp1 rfl rfl ?_
      refine wq_gos (f := 1) (pc2 := 100) (ls2 := [(2, .int 18), (3, .int 0), (0, .ref 162), (1, .int 3)]) (st2 := [.int 18, .ref 13]) (h2 := h) (dc2 := dc) (ds2 := ds) 1 rfl ?_
      refine wq_sp1 rfl rfl ?_
      show wq 161 103 [(2, .int 18), (3, .int 0), (0, .ref 162), (1, .int 3)] [.int 105] h dc ds _
      refine wq_gos (f := 1) (pc2 := 97) (ls2 := [(2, .int 19), (3, .int 0), (0, .ref 162), (1, .int 3)]) (st2 := []) (h2 := h) (dc2 := dc) (ds2 := ds) 4 rfl ?_
      refine wq_sp1 rfl rfl ?_
      refine wq_gos (f := 1) (pc2 := 100) (ls2 := [(2, .int 19), (3, .int 0), (0, .ref 162), (1, .int 3)]) (st2 := [.int 19, .ref 13]) (h2 := h) (dc2 := dc) (ds2 := ds) 1 rfl ?_
      refine wq_sp1 rfl rfl ?_
      show wq 161 103 [(2, .int 19), (3, .int 0), (0, .ref 162), (1, .int 3)] [.int 109] h dc ds _
      refine wq_gos (f := 1) (pc2 := 97) (ls2 := [(2, .int 20), (3, .int 0), (0, .ref 162), (1, .int 3)]) (st2 := []) (h2 := h) (dc2 := dc) (ds2 := ds) 4 rfl ?_
      refine wq_sp1 rfl rfl ?_
      refine wq_gos (f := 1) (pc2 := 100) (ls2 := [(2, .int 20), (3, .int 0), (0, .ref 162), (1, .int 3)]) (st2 := [.int 20, .ref 13]) (h2 := h) (dc2 := dc) (ds2 := ds) 1 rfl ?_
      refine wq_sp1 rfl rfl ?_
      show wq 161 103 [(2, .int 20), (3, .int 0), (0, .ref 162), (1, .int 3)] [.int 105] h dc ds _
      refine wq_gos (f := 1) (pc2 := 97) (ls2 := [(2, .int 21), (3, .int 0), (0, .ref 162), (1, .int 3)]) (st2 := []) (h2 := h) (dc2 := dc) (ds2 := ds) 4 rfl ?_
      refine wq_sp1 rfl rfl ?_
      refine wq_gos (f := 1) (pc2 := 100) (ls2 := [(2, .int 21), (3, .int 0), (0, .ref 162), (1, .int 3)]) (st2 := [.int 21, .ref 13]) (h2 := h) (dc2 := dc) (ds2 := ds) 1 rfl ?_
      refine wq_sp1 rfl rfl ?_
      show wq 161 103 [(2, .int 21), (3, .int 0), (0, .ref 162), (1, .int 3)] [.int 116] h dc ds _
      refine wq_gos (f := 1) (pc2 := 97) (ls2 := [(2, .int 22), (3, .int 0), (0, .ref 162), (1, .int 3)]) (st2 := []) (h2 := h) (dc2 := dc) (ds2 := ds) 4 rfl ?_
      refine wq_sp1 rfl rfl ?_
      refine wq_gos (f := 1) (pc2 := 100) (ls2 := [(2, .int 22), (3, .int 0), (0, .ref 162), (1, .int 3)]) (st2 := [.int 22, .ref 13]) (h2 := h) (dc2 := dc) (ds2 := ds) 1 rfl ?_
      refine wq_sp1 rfl rfl ?_
      show wq 161 103 [(2, .int 22), (3, .int 0), (0, .ref 162), (1, .int 3)] [.int 32] h dc ds _
      refine wq_gos (f := 1) (pc2 := 4) (ls2 := [(1, .int 4), (2, .int 23), (3, .int 0), (0, .ref 162)]) (st2 := []) (h2 := h) (dc2 := dc) (ds2 := ds) 5 rfl ?_
      refine wq_ls [(0, .ref 162), (1, .int 4), (2, .int 23)] (show ([0, 1, 2] : List Nat).Nodup by decide) ⟨rfl, rfl, rfl, trivial⟩ ?_
      exact kN (by unfold mWs3; rw [if_neg (Int.not_le.mpr b3x), if_pos b5x])
    · have q7x : (tb.getD (pl + 0) 0).toInt = 108 := congrArg Int32.toInt b5x
      refine wq_gos (f := 1) (pc2 := 15) (ls2 := [(3, .int 1), (0, .ref 162), (1, .int 3), (2, .int 17)]) (st2 := []) (h2 := h) (dc2 := dc) (ds2 := ds) 2 rfl ?_
      refine wq_sp1 rfl rfl ?_
      refine wq_gos (f := 1) (pc2 := 20) (ls2 := [(3, .int 1), (0, .ref 162), (1, .int 3), (2, .int 17)]) (st2 := [.int 18, .ref 13]) (h2 := h) (dc2 := dc) (ds2 := ds) 3 rfl ?_
      refine wq_sp1 rfl rfl ?_
      show wq 161 23 [(3, .int 1), (0, .ref 162), (1, .int 3), (2, .int 17)] [.int 105] h dc ds _
      refine wq_gos (f := 1) (pc2 := 29) (ls2 := [(3, .int 1), (0, .ref 162), (1, .int 3), (2, .int 17)]) (st2 := [.ref 162]) (h2 := h) (dc2 := dc) (ds2 := ds) 3 rfl ?_
      refine wq_getf rfl hM rfl rfl ?_
      refine wq_gos (f := 1) (pc2 := 34) (ls2 := [(3, .int 1), (0, .ref 162), (1, .int 3), (2, .int 17)]) (st2 := [.int ((nI pl) + (1 : Int32))]) (h2 := h) (dc2 := dc) (ds2 := ds) 2 rfl ?_
      refine wq_vi (show (nI pl) + (1 : Int32) = nI (pl + 1) from nI_add pl 1) ?_
      refine wq_gos (f := 1) (pc2 := 35) (ls2 := [(3, .int 1), (0, .ref 162), (1, .int 3), (2, .int 17)]) (st2 := [.ref 162, .int (nI (pl + 1))]) (h2 := h) (dc2 := dc) (ds2 := ds) 1 rfl ?_
      refine wq_getf rfl hM rfl rfl ?_
      try have q8x := nI_toInt (n := (pl + 1)) (by omega)
      refine wq_ge2 rfl rfl (fun b9x => ?_) (fun b9x => ?_)
      · refine wq_sp1 rfl rfl ?_
        refine wq_gos (f := 1) (pc2 := 74) (ls2 := [(3, .int 1), (0, .ref 162), (1, .int 3), (2, .int 17)]) (st2 := [.int 18, .ref 13]) (h2 := h) (dc2 := dc) (ds2 := ds) 3 rfl ?_
        refine wq_sp1 rfl rfl ?_
        show wq 161 77 [(3, .int 1), (0, .ref 162), (1, .int 3), (2, .int 17)] [.int 105] h dc ds _
        refine wq_gos (f := 1) (pc2 := 97) (ls2 := [(3, .int 1), (0, .ref 162), (1, .int 3), (2, .int 17)]) (st2 := []) (h2 := h) (dc2 := dc) (ds2 := ds) 2 rfl ?_
        refine wq_sp1 rfl rfl ?_
        refine wq_gos (f := 1) (pc2 := 100) (ls2 := [(3, .int 1), (0, .ref 162), (1, .int 3), (2, .int 17)]) (st2 := [.int 17, .ref 13]) (h2 := h) (dc2 := dc) (ds2 := ds) 1 rfl ?_
        refine wq_sp1 rfl rfl ?_
        show wq 161 103 [(3, .int 1), (0, .ref 162), (1, .int 3), (2, .int 17)] [.int 108] h dc ds _
        refine wq_gos (f := 1) (pc2 := 97) (ls2 := [(2, .int 18), (3, .int 1), (0, .ref 162), (1, .int 3)]) (st2 := []) (h2 := h) (dc2 := dc) (ds2 := ds) 4 rfl ?_
        refine wq_sp1 rfl rfl ?_
        refine wq_gos (f := 1) (pc2 := 100) (ls2 := [(2, .int 18), (3, .int 1), (0, .ref 162), (1, .int 3)]) (st2 := [.int 18, .ref 13]) (h2 := h) (dc2 := dc) (ds2 := ds) 1 rfl ?_
        refine wq_sp1 rfl rfl ?_
        show wq 161 103 [(2, .int 18), (3, .int 1), (0, .ref 162), (1, .int 3)] [.int 105] h dc ds _
        refine wq_gos (f := 1) (pc2 := 97) (ls2 := [(2, .int 19), (3, .int 1), (0, .ref 162), (1, .int 3)]) (st2 := []) (h2 := h) (dc2 := dc) (ds2 := ds) 4 rfl ?_
        refine wq_sp1 rfl rfl ?_
        refine wq_gos (f := 1) (pc2 := 100) (ls2 := [(2, .int 19), (3, .int 1), (0, .ref 162), (1, .int 3)]) (st2 := [.int 19, .ref 13]) (h2 := h) (dc2 := dc) (ds2 := ds) 1 rfl ?_
        refine wq_sp1 rfl rfl ?_
        show wq 161 103 [(2, .int 19), (3, .int 1), (0, .ref 162), (1, .int 3)] [.int 109] h dc ds _
        refine wq_gos (f := 1) (pc2 := 97) (ls2 := [(2, .int 20), (3, .int 1), (0, .ref 162), (1, .int 3)]) (st2 := []) (h2 := h) (dc2 := dc) (ds2 := ds) 4 rfl ?_
        refine wq_sp1 rfl rfl ?_
        refine wq_gos (f := 1) (pc2 := 100) (ls2 := [(2, .int 20), (3, .int 1), (0, .ref 162), (1, .int 3)]) (st2 := [.int 20, .ref 13]) (h2 := h) (dc2 := dc) (ds2 := ds) 1 rfl ?_
        refine wq_sp1 rfl rfl ?_
        show wq 161 103 [(2, .int 20), (3, .int 1), (0, .ref 162), (1, .int 3)] [.int 105] h dc ds _
        refine wq_gos (f := 1) (pc2 := 97) (ls2 := [(2, .int 21), (3, .int 1), (0, .ref 162), (1, .int 3)]) (st2 := []) (h2 := h) (dc2 := dc) (ds2 := ds) 4 rfl ?_
        refine wq_sp1 rfl rfl ?_
        refine wq_gos (f := 1) (pc2 := 100) (ls2 := [(2, .int 21), (3, .int 1), (0, .ref 162), (1, .int 3)]) (st2 := [.int 21, .ref 13]) (h2 := h) (dc2 := dc) (ds2 := ds) 1 rfl ?_
        refine wq_sp1 rfl rfl ?_
        show wq 161 103 [(2, .int 21), (3, .int 1), (0, .ref 162), (1, .int 3)] [.int 116] h dc ds _
        refine wq_gos (f := 1) (pc2 := 97) (ls2 := [(2, .int 22), (3, .int 1), (0, .ref 162), (1, .int 3)]) (st2 := []) (h2 := h) (dc2 := dc) (ds2 := ds) 4 rfl ?_
        refine wq_sp1 rfl rfl ?_
        refine wq_gos (f := 1) (pc2 := 100) (ls2 := [(2, .int 22), (3, .int 1), (0, .ref 162), (1, .int 3)]) (st2 := [.int 22, .ref 13]) (h2 := h) (dc2 := dc) (ds2 := ds) 1 rfl ?_
        refine wq_sp1 rfl rfl ?_
        show wq 161 103 [(2, .int 22), (3, .int 1), (0, .ref 162), (1, .int 3)] [.int 32] h dc ds _
        refine wq_gos (f := 1) (pc2 := 4) (ls2 := [(1, .int 4), (2, .int 23), (3, .int 1), (0, .ref 162)]) (st2 := []) (h2 := h) (dc2 := dc) (ds2 := ds) 5 rfl ?_
        refine wq_ls [(0, .ref 162), (1, .int 4), (2, .int 23)] (show ([0, 1, 2] : List Nat).Nodup by decide) ⟨rfl, rfl, rfl, trivial⟩ ?_
        exact kN (by unfold mWs3; rw [if_neg (Int.not_le.mpr b3x), if_neg (fun q => q b5x), if_pos b9x])
      · refine wq_gos (f := 1) (pc2 := 42) (ls2 := [(3, .int 1), (0, .ref 162), (1, .int 3), (2, .int 17)]) (st2 := [.ref 162]) (h2 := h) (dc2 := dc) (ds2 := ds) 1 rfl ?_
        refine wq_getf rfl hM rfl rfl ?_
        refine wq_gos (f := 1) (pc2 := 46) (ls2 := [(3, .int 1), (0, .ref 162), (1, .int 3), (2, .int 17)]) (st2 := [.ref 162, .ref 164]) (h2 := h) (dc2 := dc) (ds2 := ds) 1 rfl ?_
        refine wq_getf rfl hM rfl rfl ?_
        refine wq_gos (f := 1) (pc2 := 51) (ls2 := [(3, .int 1), (0, .ref 162), (1, .int 3), (2, .int 17)]) (st2 := [.int ((nI pl) + (1 : Int32)), .ref 164]) (h2 := h) (dc2 := dc) (ds2 := ds) 2 rfl ?_
        refine wq_vi (show (nI pl) + (1 : Int32) = nI (pl + 1) from nI_add pl 1) ?_
        refine wq_ialdn rfl hT (by first | omega | exact zin_t (by omega) (by omega)) (by decide) rfl ?_
        refine wq_sp1 rfl rfl ?_
        refine wq_gos (f := 1) (pc2 := 57) (ls2 := [(3, .int 1), (0, .ref 162), (1, .int 3), (2, .int 17)]) (st2 := [.int 18, .ref 13, .int (tb.getD (pl + 1) 0)]) (h2 := h) (dc2 := dc) (ds2 := ds) 3 rfl ?_
        refine wq_sp1 rfl rfl ?_
        show wq 161 60 [(3, .int 1), (0, .ref 162), (1, .int 3), (2, .int 17)] [.int 105, .int (tb.getD (pl + 1) 0)] h dc ds _
        have q10x : (105 : Int32).toInt = 105 := rfl
        refine wq_ne2 rfl rfl (fun b11x => ?_) (fun b11x => ?_)
        · have q12x : (tb.getD (pl + 1) 0).toInt ≠ 105 := fun q => b11x (Int32.toInt_inj.mp q)
          refine wq_sp1 rfl rfl ?_
          refine wq_gos (f := 1) (pc2 := 74) (ls2 := [(3, .int 1), (0, .ref 162), (1, .int 3), (2, .int 17)]) (st2 := [.int 18, .ref 13]) (h2 := h) (dc2 := dc) (ds2 := ds) 3 rfl ?_
          refine wq_sp1 rfl rfl ?_
          show wq 161 77 [(3, .int 1), (0, .ref 162), (1, .int 3), (2, .int 17)] [.int 105] h dc ds _
          refine wq_gos (f := 1) (pc2 := 97) (ls2 := [(3, .int 1), (0, .ref 162), (1, .int 3), (2, .int 17)]) (st2 := []) (h2 := h) (dc2 := dc) (ds2 := ds) 2 rfl ?_
          refine wq_sp1 rfl rfl ?_
          refine wq_gos (f := 1) (pc2 := 100) (ls2 := [(3, .int 1), (0, .ref 162), (1, .int 3), (2, .int 17)]) (st2 := [.int 17, .ref 13]) (h2 := h) (dc2 := dc) (ds2 := ds) 1 rfl ?_
          refine wq_sp1 rfl rfl ?_
          show wq 161 103 [(3, .int 1), (0, .ref 162), (1, .int 3), (2, .int 17)] [.int 108] h dc ds _
          refine wq_gos (f := 1) (pc2 := 97) (ls2 := [(2, .int 18), (3, .int 1), (0, .ref 162), (1, .int 3)]) (st2 := []) (h2 := h) (dc2 := dc) (ds2 := ds) 4 rfl ?_
          refine wq_sp1 rfl rfl ?_
          refine wq_gos (f := 1) (pc2 := 100) (ls2 := [(2, .int 18), (3, .int 1), (0, .ref 162), (1, .int 3)]) (st2 := [.int 18, .ref 13]) (h2 := h) (dc2 := dc) (ds2 := ds) 1 rfl ?_
          refine wq_sp1 rfl rfl ?_
          show wq 161 103 [(2, .int 18), (3, .int 1), (0, .ref 162), (1, .int 3)] [.int 105] h dc ds _
          refine wq_gos (f := 1) (pc2 := 97) (ls2 := [(2, .int 19), (3, .int 1), (0, .ref 162), (1, .int 3)]) (st2 := []) (h2 := h) (dc2 := dc) (ds2 := ds) 4 rfl ?_
          refine wq_sp1 rfl rfl ?_
          refine wq_gos (f := 1) (pc2 := 100) (ls2 := [(2, .int 19), (3, .int 1), (0, .ref 162), (1, .int 3)]) (st2 := [.int 19, .ref 13]) (h2 := h) (dc2 := dc) (ds2 := ds) 1 rfl ?_
          refine wq_sp1 rfl rfl ?_
          show wq 161 103 [(2, .int 19), (3, .int 1), (0, .ref 162), (1, .int 3)] [.int 109] h dc ds _
          refine wq_gos (f := 1) (pc2 := 97) (ls2 := [(2, .int 20), (3, .int 1), (0, .ref 162), (1, .int 3)]) (st2 := []) (h2 := h) (dc2 := dc) (ds2 := ds) 4 rfl ?_
          refine wq_sp1 rfl rfl ?_
          refine wq_gos (f := 1) (pc2 := 100) (ls2 := [(2, .int 20), (3, .int 1), (0, .ref 162), (1, .int 3)]) (st2 := [.int 20, .ref 13]) (h2 := h) (dc2 := dc) (ds2 := ds) 1 rfl ?_
          refine wq_sp1 rfl rfl ?_
          show wq 161 103 [(2, .int 20), (3, .int 1), (0, .ref 162), (1, .int 3)] [.int 105] h dc ds _
          refine wq_gos (f := 1) (pc2 := 97) (ls2 := [(2, .int 21), (3, .int 1), (0, .ref 162), (1, .int 3)]) (st2 := []) (h2 := h) (dc2 := dc) (ds2 := ds) 4 rfl ?_
          refine wq_sp1 rfl rfl ?_
          refine wq_gos (f := 1) (pc2 := 100) (ls2 := [(2, .int 21), (3, .int 1), (0, .ref 162), (1, .int 3)]) (st2 := [.int 21, .ref 13]) (h2 := h) (dc2 := dc) (ds2 := ds) 1 rfl ?_
          refine wq_sp1 rfl rfl ?_
          show wq 161 103 [(2, .int 21), (3, .int 1), (0, .ref 162), (1, .int 3)] [.int 116] h dc ds _
          refine wq_gos (f := 1) (pc2 := 97) (ls2 := [(2, .int 22), (3, .int 1), (0, .ref 162), (1, .int 3)]) (st2 := []) (h2 := h) (dc2 := dc) (ds2 := ds) 4 rfl ?_
          refine wq_sp1 rfl rfl ?_
          refine wq_gos (f := 1) (pc2 := 100) (ls2 := [(2, .int 22), (3, .int 1), (0, .ref 162), (1, .int 3)]) (st2 := [.int 22, .ref 13]) (h2 := h) (dc2 := dc) (ds2 := ds) 1 rfl ?_
          refine wq_sp1 rfl rfl ?_
          show wq 161 103 [(2, .int 22), (3, .int 1), (0, .ref 162), (1, .int 3)] [.int 32] h dc ds _
          refine wq_gos (f := 1) (pc2 := 4) (ls2 := [(1, .int 4), (2, .int 23), (3, .int 1), (0, .ref 162)]) (st2 := []) (h2 := h) (dc2 := dc) (ds2 := ds) 5 rfl ?_
          refine wq_ls [(0, .ref 162), (1, .int 4), (2, .int 23)] (show ([0, 1, 2] : List Nat).Nodup by decide) ⟨rfl, rfl, rfl, trivial⟩ ?_
          exact kN (by unfold mWs3; rw [if_neg (Int.not_le.mpr b3x), if_neg (fun q => q b5x), if_neg (Int.not_le.mpr b9x), if_pos b11x])
        · have q13x : (tb.getD (pl + 1) 0).toInt = 105 := congrArg Int32.toInt b11x
          refine wq_gos (f := 1) (pc2 := 15) (ls2 := [(3, .int 2), (0, .ref 162), (1, .int 3), (2, .int 17)]) (st2 := []) (h2 := h) (dc2 := dc) (ds2 := ds) 2 rfl ?_
          refine wq_sp1 rfl rfl ?_
          refine wq_gos (f := 1) (pc2 := 20) (ls2 := [(3, .int 2), (0, .ref 162), (1, .int 3), (2, .int 17)]) (st2 := [.int 19, .ref 13]) (h2 := h) (dc2 := dc) (ds2 := ds) 3 rfl ?_
          refine wq_sp1 rfl rfl ?_
          show wq 161 23 [(3, .int 2), (0, .ref 162), (1, .int 3), (2, .int 17)] [.int 109] h dc ds _
          refine wq_gos (f := 1) (pc2 := 29) (ls2 := [(3, .int 2), (0, .ref 162), (1, .int 3), (2, .int 17)]) (st2 := [.ref 162]) (h2 := h) (dc2 := dc) (ds2 := ds) 3 rfl ?_
          refine wq_getf rfl hM rfl rfl ?_
          refine wq_gos (f := 1) (pc2 := 34) (ls2 := [(3, .int 2), (0, .ref 162), (1, .int 3), (2, .int 17)]) (st2 := [.int ((nI pl) + (2 : Int32))]) (h2 := h) (dc2 := dc) (ds2 := ds) 2 rfl ?_
          refine wq_vi (show (nI pl) + (2 : Int32) = nI (pl + 2) from nI_add pl 2) ?_
          refine wq_gos (f := 1) (pc2 := 35) (ls2 := [(3, .int 2), (0, .ref 162), (1, .int 3), (2, .int 17)]) (st2 := [.ref 162, .int (nI (pl + 2))]) (h2 := h) (dc2 := dc) (ds2 := ds) 1 rfl ?_
          refine wq_getf rfl hM rfl rfl ?_
          try have q14x := nI_toInt (n := (pl + 2)) (by omega)
          refine wq_ge2 rfl rfl (fun b15x => ?_) (fun b15x => ?_)
          · refine wq_sp1 rfl rfl ?_
            refine wq_gos (f := 1) (pc2 := 74) (ls2 := [(3, .int 2), (0, .ref 162), (1, .int 3), (2, .int 17)]) (st2 := [.int 19, .ref 13]) (h2 := h) (dc2 := dc) (ds2 := ds) 3 rfl ?_
            refine wq_sp1 rfl rfl ?_
            show wq 161 77 [(3, .int 2), (0, .ref 162), (1, .int 3), (2, .int 17)] [.int 109] h dc ds _
            refine wq_gos (f := 1) (pc2 := 97) (ls2 := [(3, .int 2), (0, .ref 162), (1, .int 3), (2, .int 17)]) (st2 := []) (h2 := h) (dc2 := dc) (ds2 := ds) 2 rfl ?_
            refine wq_sp1 rfl rfl ?_
            refine wq_gos (f := 1) (pc2 := 100) (ls2 := [(3, .int 2), (0, .ref 162), (1, .int 3), (2, .int 17)]) (st2 := [.int 17, .ref 13]) (h2 := h) (dc2 := dc) (ds2 := ds) 1 rfl ?_
            refine wq_sp1 rfl rfl ?_
            show wq 161 103 [(3, .int 2), (0, .ref 162), (1, .int 3), (2, .int 17)] [.int 108] h dc ds _
            refine wq_gos (f := 1) (pc2 := 97) (ls2 := [(2, .int 18), (3, .int 2), (0, .ref 162), (1, .int 3)]) (st2 := []) (h2 := h) (dc2 := dc) (ds2 := ds) 4 rfl ?_
            refine wq_sp1 rfl rfl ?_
            refine wq_gos (f := 1) (pc2 := 100) (ls2 := [(2, .int 18), (3, .int 2), (0, .ref 162), (1, .int 3)]) (st2 := [.int 18, .ref 13]) (h2 := h) (dc2 := dc) (ds2 := ds) 1 rfl ?_
            refine wq_sp1 rfl rfl ?_
            show wq 161 103 [(2, .int 18), (3, .int 2), (0, .ref 162), (1, .int 3)] [.int 105] h dc ds _
            refine wq_gos (f := 1) (pc2 := 97) (ls2 := [(2, .int 19), (3, .int 2), (0, .ref 162), (1, .int 3)]) (st2 := []) (h2 := h) (dc2 := dc) (ds2 := ds) 4 rfl ?_
            refine wq_sp1 rfl rfl ?_
            refine wq_gos (f := 1) (pc2 := 100) (ls2 := [(2, .int 19), (3, .int 2), (0, .ref 162), (1, .int 3)]) (st2 := [.int 19, .ref 13]) (h2 := h) (dc2 := dc) (ds2 := ds) 1 rfl ?_
            refine wq_sp1 rfl rfl ?_
            show wq 161 103 [(2, .int 19), (3, .int 2), (0, .ref 162), (1, .int 3)] [.int 109] h dc ds _
            refine wq_gos (f := 1) (pc2 := 97) (ls2 := [(2, .int 20), (3, .int 2), (0, .ref 162), (1, .int 3)]) (st2 := []) (h2 := h) (dc2 := dc) (ds2 := ds) 4 rfl ?_
            refine wq_sp1 rfl rfl ?_
            refine wq_gos (f := 1) (pc2 := 100) (ls2 := [(2, .int 20), (3, .int 2), (0, .ref 162), (1, .int 3)]) (st2 := [.int 20, .ref 13]) (h2 := h) (dc2 := dc) (ds2 := ds) 1 rfl ?_
            refine wq_sp1 rfl rfl ?_
            show wq 161 103 [(2, .int 20), (3, .int 2), (0, .ref 162), (1, .int 3)] [.int 105] h dc ds _
            refine wq_gos (f := 1) (pc2 := 97) (ls2 := [(2, .int 21), (3, .int 2), (0, .ref 162), (1, .int 3)]) (st2 := []) (h2 := h) (dc2 := dc) (ds2 := ds) 4 rfl ?_
            refine wq_sp1 rfl rfl ?_
            refine wq_gos (f := 1) (pc2 := 100) (ls2 := [(2, .int 21), (3, .int 2), (0, .ref 162), (1, .int 3)]) (st2 := [.int 21, .ref 13]) (h2 := h) (dc2 := dc) (ds2 := ds) 1 rfl ?_
            refine wq_sp1 rfl rfl ?_
            show wq 161 103 [(2, .int 21), (3, .int 2), (0, .ref 162), (1, .int 3)] [.int 116] h dc ds _
            refine wq_gos (f := 1) (pc2 := 97) (ls2 := [(2, .int 22), (3, .int 2), (0, .ref 162), (1, .int 3)]) (st2 := []) (h2 := h) (dc2 := dc) (ds2 := ds) 4 rfl ?_
            refine wq_sp1 rfl rfl ?_
            refine wq_gos (f := 1) (pc2 := 100) (ls2 := [(2, .int 22), (3, .int 2), (0, .ref 162), (1, .int 3)]) (st2 := [.int 22, .ref 13]) (h2 := h) (dc2 := dc) (ds2 := ds) 1 rfl ?_
            refine wq_sp1 rfl rfl ?_
            show wq 161 103 [(2, .int 22), (3, .int 2), (0, .ref 162), (1, .int 3)] [.int 32] h dc ds _
            refine wq_gos (f := 1) (pc2 := 4) (ls2 := [(1, .int 4), (2, .int 23), (3, .int 2), (0, .ref 162)]) (st2 := []) (h2 := h) (dc2 := dc) (ds2 := ds) 5 rfl ?_
            refine wq_ls [(0, .ref 162), (1, .int 4), (2, .int 23)] (show ([0, 1, 2] : List Nat).Nodup by decide) ⟨rfl, rfl, rfl, trivial⟩ ?_
            exact kN (by unfold mWs3; rw [if_neg (Int.not_le.mpr b3x), if_neg (fun q => q b5x), if_neg (Int.not_le.mpr b9x), if_neg (fun q => q b11x), if_pos b15x])
          · refine wq_gos (f := 1) (pc2 := 42) (ls2 := [(3, .int 2), (0, .ref 162), (1, .int 3), (2, .int 17)]) (st2 := [.ref 162]) (h2 := h) (dc2 := dc) (ds2 := ds) 1 rfl ?_
            refine wq_getf rfl hM rfl rfl ?_
            refine wq_gos (f := 1) (pc2 := 46) (ls2 := [(3, .int 2), (0, .ref 162), (1, .int 3), (2, .int 17)]) (st2 := [.ref 162, .ref 164]) (h2 := h) (dc2 := dc) (ds2 := ds) 1 rfl ?_
            refine wq_getf rfl hM rfl rfl ?_
            refine wq_gos (f := 1) (pc2 := 51) (ls2 := [(3, .int 2), (0, .ref 162), (1, .int 3), (2, .int 17)]) (st2 := [.int ((nI pl) + (2 : Int32)), .ref 164]) (h2 := h) (dc2 := dc) (ds2 := ds) 2 rfl ?_
            refine wq_vi (show (nI pl) + (2 : Int32) = nI (pl + 2) from nI_add pl 2) ?_
            refine wq_ialdn rfl hT (by first | omega | exact zin_t (by omega) (by omega)) (by decide) rfl ?_
            refine wq_sp1 rfl rfl ?_
            refine wq_gos (f := 1) (pc2 := 57) (ls2 := [(3, .int 2), (0, .ref 162), (1, .int 3), (2, .int 17)]) (st2 := [.int 19, .ref 13, .int (tb.getD (pl + 2) 0)]) (h2 := h) (dc2 := dc) (ds2 := ds) 3 rfl ?_
            refine wq_sp1 rfl rfl ?_
            show wq 161 60 [(3, .int 2), (0, .ref 162), (1, .int 3), (2, .int 17)] [.int 109, .int (tb.getD (pl + 2) 0)] h dc ds _
            have q16x : (109 : Int32).toInt = 109 := rfl
            refine wq_ne2 rfl rfl (fun b17x => ?_) (fun b17x => ?_)
            · have q18x : (tb.getD (pl + 2) 0).toInt ≠ 109 := fun q => b17x (Int32.toInt_inj.mp q)
              refine wq_sp1 rfl rfl ?_
              refine wq_gos (f := 1) (pc2 := 74) (ls2 := [(3, .int 2), (0, .ref 162), (1, .int 3), (2, .int 17)]) (st2 := [.int 19, .ref 13]) (h2 := h) (dc2 := dc) (ds2 := ds) 3 rfl ?_
              refine wq_sp1 rfl rfl ?_
              show wq 161 77 [(3, .int 2), (0, .ref 162), (1, .int 3), (2, .int 17)] [.int 109] h dc ds _
              refine wq_gos (f := 1) (pc2 := 97) (ls2 := [(3, .int 2), (0, .ref 162), (1, .int 3), (2, .int 17)]) (st2 := []) (h2 := h) (dc2 := dc) (ds2 := ds) 2 rfl ?_
              refine wq_sp1 rfl rfl ?_
              refine wq_gos (f := 1) (pc2 := 100) (ls2 := [(3, .int 2), (0, .ref 162), (1, .int 3), (2, .int 17)]) (st2 := [.int 17, .ref 13]) (h2 := h) (dc2 := dc) (ds2 := ds) 1 rfl ?_
              refine wq_sp1 rfl rfl ?_
              show wq 161 103 [(3, .int 2), (0, .ref 162), (1, .int 3), (2, .int 17)] [.int 108] h dc ds _
              refine wq_gos (f := 1) (pc2 := 97) (ls2 := [(2, .int 18), (3, .int 2), (0, .ref 162), (1, .int 3)]) (st2 := []) (h2 := h) (dc2 := dc) (ds2 := ds) 4 rfl ?_
              refine wq_sp1 rfl rfl ?_
              refine wq_gos (f := 1) (pc2 := 100) (ls2 := [(2, .int 18), (3, .int 2), (0, .ref 162), (1, .int 3)]) (st2 := [.int 18, .ref 13]) (h2 := h) (dc2 := dc) (ds2 := ds) 1 rfl ?_
              refine wq_sp1 rfl rfl ?_
              show wq 161 103 [(2, .int 18), (3, .int 2), (0, .ref 162), (1, .int 3)] [.int 105] h dc ds _
              refine wq_gos (f := 1) (pc2 := 97) (ls2 := [(2, .int 19), (3, .int 2), (0, .ref 162), (1, .int 3)]) (st2 := []) (h2 := h) (dc2 := dc) (ds2 := ds) 4 rfl ?_
              refine wq_sp1 rfl rfl ?_
              refine wq_gos (f := 1) (pc2 := 100) (ls2 := [(2, .int 19), (3, .int 2), (0, .ref 162), (1, .int 3)]) (st2 := [.int 19, .ref 13]) (h2 := h) (dc2 := dc) (ds2 := ds) 1 rfl ?_
              refine wq_sp1 rfl rfl ?_
              show wq 161 103 [(2, .int 19), (3, .int 2), (0, .ref 162), (1, .int 3)] [.int 109] h dc ds _
              refine wq_gos (f := 1) (pc2 := 97) (ls2 := [(2, .int 20), (3, .int 2), (0, .ref 162), (1, .int 3)]) (st2 := []) (h2 := h) (dc2 := dc) (ds2 := ds) 4 rfl ?_
              refine wq_sp1 rfl rfl ?_
              refine wq_gos (f := 1) (pc2 := 100) (ls2 := [(2, .int 20), (3, .int 2), (0, .ref 162), (1, .int 3)]) (st2 := [.int 20, .ref 13]) (h2 := h) (dc2 := dc) (ds2 := ds) 1 rfl ?_
              refine wq_sp1 rfl rfl ?_
              show wq 161 103 [(2, .int 20), (3, .int 2), (0, .ref 162), (1, .int 3)] [.int 105] h dc ds _
              refine wq_gos (f := 1) (pc2 := 97) (ls2 := [(2, .int 21), (3, .int 2), (0, .ref 162), (1, .int 3)]) (st2 := []) (h2 := h) (dc2 := dc) (ds2 := ds) 4 rfl ?_
              refine wq_sp1 rfl rfl ?_
              refine wq_gos (f := 1) (pc2 := 100) (ls2 := [(2, .int 21), (3, .int 2), (0, .ref 162), (1, .int 3)]) (st2 := [.int 21, .ref 13]) (h2 := h) (dc2 := dc) (ds2 := ds) 1 rfl ?_
              refine wq_sp1 rfl rfl ?_
              show wq 161 103 [(2, .int 21), (3, .int 2), (0, .ref 162), (1, .int 3)] [.int 116] h dc ds _
              refine wq_gos (f := 1) (pc2 := 97) (ls2 := [(2, .int 22), (3, .int 2), (0, .ref 162), (1, .int 3)]) (st2 := []) (h2 := h) (dc2 := dc) (ds2 := ds) 4 rfl ?_
              refine wq_sp1 rfl rfl ?_
              refine wq_gos (f := 1) (pc2 := 100) (ls2 := [(2, .int 22), (3, .int 2), (0, .ref 162), (1, .int 3)]) (st2 := [.int 22, .ref 13]) (h2 := h) (dc2 := dc) (ds2 := ds) 1 rfl ?_
              refine wq_sp1 rfl rfl ?_
              show wq 161 103 [(2, .int 22), (3, .int 2), (0, .ref 162), (1, .int 3)] [.int 32] h dc ds _
              refine wq_gos (f := 1) (pc2 := 4) (ls2 := [(1, .int 4), (2, .int 23), (3, .int 2), (0, .ref 162)]) (st2 := []) (h2 := h) (dc2 := dc) (ds2 := ds) 5 rfl ?_
              refine wq_ls [(0, .ref 162), (1, .int 4), (2, .int 23)] (show ([0, 1, 2] : List Nat).Nodup by decide) ⟨rfl, rfl, rfl, trivial⟩ ?_
              exact kN (by unfold mWs3; rw [if_neg (Int.not_le.mpr b3x), if_neg (fun q => q b5x), if_neg (Int.not_le.mpr b9x), if_neg (fun q => q b11x), if_neg (Int.not_le.mpr b15x), if_pos b17x])
            · have q19x : (tb.getD (pl + 2) 0).toInt = 109 := congrArg Int32.toInt b17x
              refine wq_gos (f := 1) (pc2 := 15) (ls2 := [(3, .int 3), (0, .ref 162), (1, .int 3), (2, .int 17)]) (st2 := []) (h2 := h) (dc2 := dc) (ds2 := ds) 2 rfl ?_
              refine wq_sp1 rfl rfl ?_
              refine wq_gos (f := 1) (pc2 := 20) (ls2 := [(3, .int 3), (0, .ref 162), (1, .int 3), (2, .int 17)]) (st2 := [.int 20, .ref 13]) (h2 := h) (dc2 := dc) (ds2 := ds) 3 rfl ?_
              refine wq_sp1 rfl rfl ?_
              show wq 161 23 [(3, .int 3), (0, .ref 162), (1, .int 3), (2, .int 17)] [.int 105] h dc ds _
              refine wq_gos (f := 1) (pc2 := 29) (ls2 := [(3, .int 3), (0, .ref 162), (1, .int 3), (2, .int 17)]) (st2 := [.ref 162]) (h2 := h) (dc2 := dc) (ds2 := ds) 3 rfl ?_
              refine wq_getf rfl hM rfl rfl ?_
              refine wq_gos (f := 1) (pc2 := 34) (ls2 := [(3, .int 3), (0, .ref 162), (1, .int 3), (2, .int 17)]) (st2 := [.int ((nI pl) + (3 : Int32))]) (h2 := h) (dc2 := dc) (ds2 := ds) 2 rfl ?_
              refine wq_vi (show (nI pl) + (3 : Int32) = nI (pl + 3) from nI_add pl 3) ?_
              refine wq_gos (f := 1) (pc2 := 35) (ls2 := [(3, .int 3), (0, .ref 162), (1, .int 3), (2, .int 17)]) (st2 := [.ref 162, .int (nI (pl + 3))]) (h2 := h) (dc2 := dc) (ds2 := ds) 1 rfl ?_
              refine wq_getf rfl hM rfl rfl ?_
              try have q20x := nI_toInt (n := (pl + 3)) (by omega)
              refine wq_ge2 rfl rfl (fun b21x => ?_) (fun b21x => ?_)
              · refine wq_sp1 rfl rfl ?_
                refine wq_gos (f := 1) (pc2 := 74) (ls2 := [(3, .int 3), (0, .ref 162), (1, .int 3), (2, .int 17)]) (st2 := [.int 20, .ref 13]) (h2 := h) (dc2 := dc) (ds2 := ds) 3 rfl ?_
                refine wq_sp1 rfl rfl ?_
                show wq 161 77 [(3, .int 3), (0, .ref 162), (1, .int 3), (2, .int 17)] [.int 105] h dc ds _
                refine wq_gos (f := 1) (pc2 := 97) (ls2 := [(3, .int 3), (0, .ref 162), (1, .int 3), (2, .int 17)]) (st2 := []) (h2 := h) (dc2 := dc) (ds2 := ds) 2 rfl ?_
                refine wq_sp1 rfl rfl ?_
                refine wq_gos (f := 1) (pc2 := 100) (ls2 := [(3, .int 3), (0, .ref 162), (1, .int 3), (2, .int 17)]) (st2 := [.int 17, .ref 13]) (h2 := h) (dc2 := dc) (ds2 := ds) 1 rfl ?_
                refine wq_sp1 rfl rfl ?_
                show wq 161 103 [(3, .int 3), (0, .ref 162), (1, .int 3), (2, .int 17)] [.int 108] h dc ds _
                refine wq_gos (f := 1) (pc2 := 97) (ls2 := [(2, .int 18), (3, .int 3), (0, .ref 162), (1, .int 3)]) (st2 := []) (h2 := h) (dc2 := dc) (ds2 := ds) 4 rfl ?_
                refine wq_sp1 rfl rfl ?_
                refine wq_gos (f := 1) (pc2 := 100) (ls2 := [(2, .int 18), (3, .int 3), (0, .ref 162), (1, .int 3)]) (st2 := [.int 18, .ref 13]) (h2 := h) (dc2 := dc) (ds2 := ds) 1 rfl ?_
                refine wq_sp1 rfl rfl ?_
                show wq 161 103 [(2, .int 18), (3, .int 3), (0, .ref 162), (1, .int 3)] [.int 105] h dc ds _
                refine wq_gos (f := 1) (pc2 := 97) (ls2 := [(2, .int 19), (3, .int 3), (0, .ref 162), (1, .int 3)]) (st2 := []) (h2 := h) (dc2 := dc) (ds2 := ds) 4 rfl ?_
                refine wq_sp1 rfl rfl ?_
                refine wq_gos (f := 1) (pc2 := 100) (ls2 := [(2, .int 19), (3, .int 3), (0, .ref 162), (1, .int 3)]) (st2 := [.int 19, .ref 13]) (h2 := h) (dc2 := dc) (ds2 := ds) 1 rfl ?_
                refine wq_sp1 rfl rfl ?_
                show wq 161 103 [(2, .int 19), (3, .int 3), (0, .ref 162), (1, .int 3)] [.int 109] h dc ds _
                refine wq_gos (f := 1) (pc2 := 97) (ls2 := [(2, .int 20), (3, .int 3), (0, .ref 162), (1, .int 3)]) (st2 := []) (h2 := h) (dc2 := dc) (ds2 := ds) 4 rfl ?_
                refine wq_sp1 rfl rfl ?_
                refine wq_gos (f := 1) (pc2 := 100) (ls2 := [(2, .int 20), (3, .int 3), (0, .ref 162), (1, .int 3)]) (st2 := [.int 20, .ref 13]) (h2 := h) (dc2 := dc) (ds2 := ds) 1 rfl ?_
                refine wq_sp1 rfl rfl ?_
                show wq 161 103 [(2, .int 20), (3, .int 3), (0, .ref 162), (1, .int 3)] [.int 105] h dc ds _
                refine wq_gos (f := 1) (pc2 := 97) (ls2 := [(2, .int 21), (3, .int 3), (0, .ref 162), (1, .int 3)]) (st2 := []) (h2 := h) (dc2 := dc) (ds2 := ds) 4 rfl ?_
                refine wq_sp1 rfl rfl ?_
                refine wq_gos (f := 1) (pc2 := 100) (ls2 := [(2, .int 21), (3, .int 3), (0, .ref 162), (1, .int 3)]) (st2 := [.int 21, .ref 13]) (h2 := h) (dc2 := dc) (ds2 := ds) 1 rfl ?_
                refine wq_sp1 rfl rfl ?_
                show wq 161 103 [(2, .int 21), (3, .int 3), (0, .ref 162), (1, .int 3)] [.int 116] h dc ds _
                refine wq_gos (f := 1) (pc2 := 97) (ls2 := [(2, .int 22), (3, .int 3), (0, .ref 162), (1, .int 3)]) (st2 := []) (h2 := h) (dc2 := dc) (ds2 := ds) 4 rfl ?_
                refine wq_sp1 rfl rfl ?_
                refine wq_gos (f := 1) (pc2 := 100) (ls2 := [(2, .int 22), (3, .int 3), (0, .ref 162), (1, .int 3)]) (st2 := [.int 22, .ref 13]) (h2 := h) (dc2 := dc) (ds2 := ds) 1 rfl ?_
                refine wq_sp1 rfl rfl ?_
                show wq 161 103 [(2, .int 22), (3, .int 3), (0, .ref 162), (1, .int 3)] [.int 32] h dc ds _
                refine wq_gos (f := 1) (pc2 := 4) (ls2 := [(1, .int 4), (2, .int 23), (3, .int 3), (0, .ref 162)]) (st2 := []) (h2 := h) (dc2 := dc) (ds2 := ds) 5 rfl ?_
                refine wq_ls [(0, .ref 162), (1, .int 4), (2, .int 23)] (show ([0, 1, 2] : List Nat).Nodup by decide) ⟨rfl, rfl, rfl, trivial⟩ ?_
                exact kN (by unfold mWs3; rw [if_neg (Int.not_le.mpr b3x), if_neg (fun q => q b5x), if_neg (Int.not_le.mpr b9x), if_neg (fun q => q b11x), if_neg (Int.not_le.mpr b15x), if_neg (fun q => q b17x), if_pos b21x])
              · refine wq_gos (f := 1) (pc2 := 42) (ls2 := [(3, .int 3), (0, .ref 162), (1, .int 3), (2, .int 17)]) (st2 := [.ref 162]) (h2 := h) (dc2 := dc) (ds2 := ds) 1 rfl ?_
                refine wq_getf rfl hM rfl rfl ?_
                refine wq_gos (f := 1) (pc2 := 46) (ls2 := [(3, .int 3), (0, .ref 162), (1, .int 3), (2, .int 17)]) (st2 := [.ref 162, .ref 164]) (h2 := h) (dc2 := dc) (ds2 := ds) 1 rfl ?_
                refine wq_getf rfl hM rfl rfl ?_
                refine wq_gos (f := 1) (pc2 := 51) (ls2 := [(3, .int 3), (0, .ref 162), (1, .int 3), (2, .int 17)]) (st2 := [.int ((nI pl) + (3 : Int32)), .ref 164]) (h2 := h) (dc2 := dc) (ds2 := ds) 2 rfl ?_
                refine wq_vi (show (nI pl) + (3 : Int32) = nI (pl + 3) from nI_add pl 3) ?_
                refine wq_ialdn rfl hT (by first | omega | exact zin_t (by omega) (by omega)) (by decide) rfl ?_
                refine wq_sp1 rfl rfl ?_
                refine wq_gos (f := 1) (pc2 := 57) (ls2 := [(3, .int 3), (0, .ref 162), (1, .int 3), (2, .int 17)]) (st2 := [.int 20, .ref 13, .int (tb.getD (pl + 3) 0)]) (h2 := h) (dc2 := dc) (ds2 := ds) 3 rfl ?_
                refine wq_sp1 rfl rfl ?_
                show wq 161 60 [(3, .int 3), (0, .ref 162), (1, .int 3), (2, .int 17)] [.int 105, .int (tb.getD (pl + 3) 0)] h dc ds _
                refine wq_ne2 rfl rfl (fun b22x => ?_) (fun b22x => ?_)
                · have q23x : (tb.getD (pl + 3) 0).toInt ≠ 105 := fun q => b22x (Int32.toInt_inj.mp q)
                  refine wq_sp1 rfl rfl ?_
                  refine wq_gos (f := 1) (pc2 := 74) (ls2 := [(3, .int 3), (0, .ref 162), (1, .int 3), (2, .int 17)]) (st2 := [.int 20, .ref 13]) (h2 := h) (dc2 := dc) (ds2 := ds) 3 rfl ?_
                  refine wq_sp1 rfl rfl ?_
                  show wq 161 77 [(3, .int 3), (0, .ref 162), (1, .int 3), (2, .int 17)] [.int 105] h dc ds _
                  refine wq_gos (f := 1) (pc2 := 97) (ls2 := [(3, .int 3), (0, .ref 162), (1, .int 3), (2, .int 17)]) (st2 := []) (h2 := h) (dc2 := dc) (ds2 := ds) 2 rfl ?_
                  refine wq_sp1 rfl rfl ?_
                  refine wq_gos (f := 1) (pc2 := 100) (ls2 := [(3, .int 3), (0, .ref 162), (1, .int 3), (2, .int 17)]) (st2 := [.int 17, .ref 13]) (h2 := h) (dc2 := dc) (ds2 := ds) 1 rfl ?_
                  refine wq_sp1 rfl rfl ?_
                  show wq 161 103 [(3, .int 3), (0, .ref 162), (1, .int 3), (2, .int 17)] [.int 108] h dc ds _
                  refine wq_gos (f := 1) (pc2 := 97) (ls2 := [(2, .int 18), (3, .int 3), (0, .ref 162), (1, .int 3)]) (st2 := []) (h2 := h) (dc2 := dc) (ds2 := ds) 4 rfl ?_
                  refine wq_sp1 rfl rfl ?_
                  refine wq_gos (f := 1) (pc2 := 100) (ls2 := [(2, .int 18), (3, .int 3), (0, .ref 162), (1, .int 3)]) (st2 := [.int 18, .ref 13]) (h2 := h) (dc2 := dc) (ds2 := ds) 1 rfl ?_
                  refine wq_sp1 rfl rfl ?_
                  show wq 161 103 [(2, .int 18), (3, .int 3), (0, .ref 162), (1, .int 3)] [.int 105] h dc ds _
                  refine wq_gos (f := 1) (pc2 := 97) (ls2 := [(2, .int 19), (3, .int 3), (0, .ref 162), (1, .int 3)]) (st2 := []) (h2 := h) (dc2 := dc) (ds2 := ds) 4 rfl ?_
                  refine wq_sp1 rfl rfl ?_
                  refine wq_gos (f := 1) (pc2 := 100) (ls2 := [(2, .int 19), (3, .int 3), (0, .ref 162), (1, .int 3)]) (st2 := [.int 19, .ref 13]) (h2 := h) (dc2 := dc) (ds2 := ds) 1 rfl ?_
                  refine wq_sp1 rfl rfl ?_
                  show wq 161 103 [(2, .int 19), (3, .int 3), (0, .ref 162), (1, .int 3)] [.int 109] h dc ds _
                  refine wq_gos (f := 1) (pc2 := 97) (ls2 := [(2, .int 20), (3, .int 3), (0, .ref 162), (1, .int 3)]) (st2 := []) (h2 := h) (dc2 := dc) (ds2 := ds) 4 rfl ?_
                  refine wq_sp1 rfl rfl ?_
                  refine wq_gos (f := 1) (pc2 := 100) (ls2 := [(2, .int 20), (3, .int 3), (0, .ref 162), (1, .int 3)]) (st2 := [.int 20, .ref 13]) (h2 := h) (dc2 := dc) (ds2 := ds) 1 rfl ?_
                  refine wq_sp1 rfl rfl ?_
                  show wq 161 103 [(2, .int 20), (3, .int 3), (0, .ref 162), (1, .int 3)] [.int 105] h dc ds _
                  refine wq_gos (f := 1) (pc2 := 97) (ls2 := [(2, .int 21), (3, .int 3), (0, .ref 162), (1, .int 3)]) (st2 := []) (h2 := h) (dc2 := dc) (ds2 := ds) 4 rfl ?_
                  refine wq_sp1 rfl rfl ?_
                  refine wq_gos (f := 1) (pc2 := 100) (ls2 := [(2, .int 21), (3, .int 3), (0, .ref 162), (1, .int 3)]) (st2 := [.int 21, .ref 13]) (h2 := h) (dc2 := dc) (ds2 := ds) 1 rfl ?_
                  refine wq_sp1 rfl rfl ?_
                  show wq 161 103 [(2, .int 21), (3, .int 3), (0, .ref 162), (1, .int 3)] [.int 116] h dc ds _
                  refine wq_gos (f := 1) (pc2 := 97) (ls2 := [(2, .int 22), (3, .int 3), (0, .ref 162), (1, .int 3)]) (st2 := []) (h2 := h) (dc2 := dc) (ds2 := ds) 4 rfl ?_
                  refine wq_sp1 rfl rfl ?_
                  refine wq_gos (f := 1) (pc2 := 100) (ls2 := [(2, .int 22), (3, .int 3), (0, .ref 162), (1, .int 3)]) (st2 := [.int 22, .ref 13]) (h2 := h) (dc2 := dc) (ds2 := ds) 1 rfl ?_
                  refine wq_sp1 rfl rfl ?_
                  show wq 161 103 [(2, .int 22), (3, .int 3), (0, .ref 162), (1, .int 3)] [.int 32] h dc ds _
                  refine wq_gos (f := 1) (pc2 := 4) (ls2 := [(1, .int 4), (2, .int 23), (3, .int 3), (0, .ref 162)]) (st2 := []) (h2 := h) (dc2 := dc) (ds2 := ds) 5 rfl ?_
                  refine wq_ls [(0, .ref 162), (1, .int 4), (2, .int 23)] (show ([0, 1, 2] : List Nat).Nodup by decide) ⟨rfl, rfl, rfl, trivial⟩ ?_
                  exact kN (by unfold mWs3; rw [if_neg (Int.not_le.mpr b3x), if_neg (fun q => q b5x), if_neg (Int.not_le.mpr b9x), if_neg (fun q => q b11x), if_neg (Int.not_le.mpr b15x), if_neg (fun q => q b17x), if_neg (Int.not_le.mpr b21x), if_pos b22x])
                · have q24x : (tb.getD (pl + 3) 0).toInt = 105 := congrArg Int32.toInt b22x
                  refine wq_gos (f := 1) (pc2 := 15) (ls2 := [(3, .int 4), (0, .ref 162), (1, .int 3), (2, .int 17)]) (st2 := []) (h2 := h) (dc2 := dc) (ds2 := ds) 2 rfl ?_
                  refine wq_sp1 rfl rfl ?_
                  refine wq_gos (f := 1) (pc2 := 20) (ls2 := [(3, .int 4), (0, .ref 162), (1, .int 3), (2, .int 17)]) (st2 := [.int 21, .ref 13]) (h2 := h) (dc2 := dc) (ds2 := ds) 3 rfl ?_
                  refine wq_sp1 rfl rfl ?_
                  show wq 161 23 [(3, .int 4), (0, .ref 162), (1, .int 3), (2, .int 17)] [.int 116] h dc ds _
                  refine wq_gos (f := 1) (pc2 := 29) (ls2 := [(3, .int 4), (0, .ref 162), (1, .int 3), (2, .int 17)]) (st2 := [.ref 162]) (h2 := h) (dc2 := dc) (ds2 := ds) 3 rfl ?_
                  refine wq_getf rfl hM rfl rfl ?_
                  refine wq_gos (f := 1) (pc2 := 34) (ls2 := [(3, .int 4), (0, .ref 162), (1, .int 3), (2, .int 17)]) (st2 := [.int ((nI pl) + (4 : Int32))]) (h2 := h) (dc2 := dc) (ds2 := ds) 2 rfl ?_
                  refine wq_vi (show (nI pl) + (4 : Int32) = nI (pl + 4) from nI_add pl 4) ?_
                  refine wq_gos (f := 1) (pc2 := 35) (ls2 := [(3, .int 4), (0, .ref 162), (1, .int 3), (2, .int 17)]) (st2 := [.ref 162, .int (nI (pl + 4))]) (h2 := h) (dc2 := dc) (ds2 := ds) 1 rfl ?_
                  refine wq_getf rfl hM rfl rfl ?_
                  try have q25x := nI_toInt (n := (pl + 4)) (by omega)
                  refine wq_ge2 rfl rfl (fun b26x => ?_) (fun b26x => ?_)
                  · refine wq_sp1 rfl rfl ?_
                    refine wq_gos (f := 1) (pc2 := 74) (ls2 := [(3, .int 4), (0, .ref 162), (1, .int 3), (2, .int 17)]) (st2 := [.int 21, .ref 13]) (h2 := h) (dc2 := dc) (ds2 := ds) 3 rfl ?_
                    refine wq_sp1 rfl rfl ?_
                    show wq 161 77 [(3, .int 4), (0, .ref 162), (1, .int 3), (2, .int 17)] [.int 116] h dc ds _
                    refine wq_gos (f := 1) (pc2 := 97) (ls2 := [(3, .int 4), (0, .ref 162), (1, .int 3), (2, .int 17)]) (st2 := []) (h2 := h) (dc2 := dc) (ds2 := ds) 2 rfl ?_
                    refine wq_sp1 rfl rfl ?_
                    refine wq_gos (f := 1) (pc2 := 100) (ls2 := [(3, .int 4), (0, .ref 162), (1, .int 3), (2, .int 17)]) (st2 := [.int 17, .ref 13]) (h2 := h) (dc2 := dc) (ds2 := ds) 1 rfl ?_
                    refine wq_sp1 rfl rfl ?_
                    show wq 161 103 [(3, .int 4), (0, .ref 162), (1, .int 3), (2, .int 17)] [.int 108] h dc ds _
                    refine wq_gos (f := 1) (pc2 := 97) (ls2 := [(2, .int 18), (3, .int 4), (0, .ref 162), (1, .int 3)]) (st2 := []) (h2 := h) (dc2 := dc) (ds2 := ds) 4 rfl ?_
                    refine wq_sp1 rfl rfl ?_
                    refine wq_gos (f := 1) (pc2 := 100) (ls2 := [(2, .int 18), (3, .int 4), (0, .ref 162), (1, .int 3)]) (st2 := [.int 18, .ref 13]) (h2 := h) (dc2 := dc) (ds2 := ds) 1 rfl ?_
                    refine wq_sp1 rfl rfl ?_
                    show wq 161 103 [(2, .int 18), (3, .int 4), (0, .ref 162), (1, .int 3)] [.int 105] h dc ds _
                    refine wq_gos (f := 1) (pc2 := 97) (ls2 := [(2, .int 19), (3, .int 4), (0, .ref 162), (1, .int 3)]) (st2 := []) (h2 := h) (dc2 := dc) (ds2 := ds) 4 rfl ?_
                    refine wq_sp1 rfl rfl ?_
                    refine wq_gos (f := 1) (pc2 := 100) (ls2 := [(2, .int 19), (3, .int 4), (0, .ref 162), (1, .int 3)]) (st2 := [.int 19, .ref 13]) (h2 := h) (dc2 := dc) (ds2 := ds) 1 rfl ?_
                    refine wq_sp1 rfl rfl ?_
                    show wq 161 103 [(2, .int 19), (3, .int 4), (0, .ref 162), (1, .int 3)] [.int 109] h dc ds _
                    refine wq_gos (f := 1) (pc2 := 97) (ls2 := [(2, .int 20), (3, .int 4), (0, .ref 162), (1, .int 3)]) (st2 := []) (h2 := h) (dc2 := dc) (ds2 := ds) 4 rfl ?_
                    refine wq_sp1 rfl rfl ?_
                    refine wq_gos (f := 1) (pc2 := 100) (ls2 := [(2, .int 20), (3, .int 4), (0, .ref 162), (1, .int 3)]) (st2 := [.int 20, .ref 13]) (h2 := h) (dc2 := dc) (ds2 := ds) 1 rfl ?_
                    refine wq_sp1 rfl rfl ?_
                    show wq 161 103 [(2, .int 20), (3, .int 4), (0, .ref 162), (1, .int 3)] [.int 105] h dc ds _
                    refine wq_gos (f := 1) (pc2 := 97) (ls2 := [(2, .int 21), (3, .int 4), (0, .ref 162), (1, .int 3)]) (st2 := []) (h2 := h) (dc2 := dc) (ds2 := ds) 4 rfl ?_
                    refine wq_sp1 rfl rfl ?_
                    refine wq_gos (f := 1) (pc2 := 100) (ls2 := [(2, .int 21), (3, .int 4), (0, .ref 162), (1, .int 3)]) (st2 := [.int 21, .ref 13]) (h2 := h) (dc2 := dc) (ds2 := ds) 1 rfl ?_
                    refine wq_sp1 rfl rfl ?_
                    show wq 161 103 [(2, .int 21), (3, .int 4), (0, .ref 162), (1, .int 3)] [.int 116] h dc ds _
                    refine wq_gos (f := 1) (pc2 := 97) (ls2 := [(2, .int 22), (3, .int 4), (0, .ref 162), (1, .int 3)]) (st2 := []) (h2 := h) (dc2 := dc) (ds2 := ds) 4 rfl ?_
                    refine wq_sp1 rfl rfl ?_
                    refine wq_gos (f := 1) (pc2 := 100) (ls2 := [(2, .int 22), (3, .int 4), (0, .ref 162), (1, .int 3)]) (st2 := [.int 22, .ref 13]) (h2 := h) (dc2 := dc) (ds2 := ds) 1 rfl ?_
                    refine wq_sp1 rfl rfl ?_
                    show wq 161 103 [(2, .int 22), (3, .int 4), (0, .ref 162), (1, .int 3)] [.int 32] h dc ds _
                    refine wq_gos (f := 1) (pc2 := 4) (ls2 := [(1, .int 4), (2, .int 23), (3, .int 4), (0, .ref 162)]) (st2 := []) (h2 := h) (dc2 := dc) (ds2 := ds) 5 rfl ?_
                    refine wq_ls [(0, .ref 162), (1, .int 4), (2, .int 23)] (show ([0, 1, 2] : List Nat).Nodup by decide) ⟨rfl, rfl, rfl, trivial⟩ ?_
                    exact kN (by unfold mWs3; rw [if_neg (Int.not_le.mpr b3x), if_neg (fun q => q b5x), if_neg (Int.not_le.mpr b9x), if_neg (fun q => q b11x), if_neg (Int.not_le.mpr b15x), if_neg (fun q => q b17x), if_neg (Int.not_le.mpr b21x), if_neg (fun q => q b22x), if_pos b26x])
                  · refine wq_gos (f := 1) (pc2 := 42) (ls2 := [(3, .int 4), (0, .ref 162), (1, .int 3), (2, .int 17)]) (st2 := [.ref 162]) (h2 := h) (dc2 := dc) (ds2 := ds) 1 rfl ?_
                    refine wq_getf rfl hM rfl rfl ?_
                    refine wq_gos (f := 1) (pc2 := 46) (ls2 := [(3, .int 4), (0, .ref 162), (1, .int 3), (2, .int 17)]) (st2 := [.ref 162, .ref 164]) (h2 := h) (dc2 := dc) (ds2 := ds) 1 rfl ?_
                    refine wq_getf rfl hM rfl rfl ?_
                    refine wq_gos (f := 1) (pc2 := 51) (ls2 := [(3, .int 4), (0, .ref 162), (1, .int 3), (2, .int 17)]) (st2 := [.int ((nI pl) + (4 : Int32)), .ref 164]) (h2 := h) (dc2 := dc) (ds2 := ds) 2 rfl ?_
                    refine wq_vi (show (nI pl) + (4 : Int32) = nI (pl + 4) from nI_add pl 4) ?_
                    refine wq_ialdn rfl hT (by first | omega | exact zin_t (by omega) (by omega)) (by decide) rfl ?_
                    refine wq_sp1 rfl rfl ?_
                    refine wq_gos (f := 1) (pc2 := 57) (ls2 := [(3, .int 4), (0, .ref 162), (1, .int 3), (2, .int 17)]) (st2 := [.int 21, .ref 13, .int (tb.getD (pl + 4) 0)]) (h2 := h) (dc2 := dc) (ds2 := ds) 3 rfl ?_
                    refine wq_sp1 rfl rfl ?_
                    show wq 161 60 [(3, .int 4), (0, .ref 162), (1, .int 3), (2, .int 17)] [.int 116, .int (tb.getD (pl + 4) 0)] h dc ds _
                    have q27x : (116 : Int32).toInt = 116 := rfl
                    refine wq_ne2 rfl rfl (fun b28x => ?_) (fun b28x => ?_)
                    · have q29x : (tb.getD (pl + 4) 0).toInt ≠ 116 := fun q => b28x (Int32.toInt_inj.mp q)
                      refine wq_sp1 rfl rfl ?_
                      refine wq_gos (f := 1) (pc2 := 74) (ls2 := [(3, .int 4), (0, .ref 162), (1, .int 3), (2, .int 17)]) (st2 := [.int 21, .ref 13]) (h2 := h) (dc2 := dc) (ds2 := ds) 3 rfl ?_
                      refine wq_sp1 rfl rfl ?_
                      show wq 161 77 [(3, .int 4), (0, .ref 162), (1, .int 3), (2, .int 17)] [.int 116] h dc ds _
                      refine wq_gos (f := 1) (pc2 := 97) (ls2 := [(3, .int 4), (0, .ref 162), (1, .int 3), (2, .int 17)]) (st2 := []) (h2 := h) (dc2 := dc) (ds2 := ds) 2 rfl ?_
                      refine wq_sp1 rfl rfl ?_
                      refine wq_gos (f := 1) (pc2 := 100) (ls2 := [(3, .int 4), (0, .ref 162), (1, .int 3), (2, .int 17)]) (st2 := [.int 17, .ref 13]) (h2 := h) (dc2 := dc) (ds2 := ds) 1 rfl ?_
                      refine wq_sp1 rfl rfl ?_
                      show wq 161 103 [(3, .int 4), (0, .ref 162), (1, .int 3), (2, .int 17)] [.int 108] h dc ds _
                      refine wq_gos (f := 1) (pc2 := 97) (ls2 := [(2, .int 18), (3, .int 4), (0, .ref 162), (1, .int 3)]) (st2 := []) (h2 := h) (dc2 := dc) (ds2 := ds) 4 rfl ?_
                      refine wq_sp1 rfl rfl ?_
                      refine wq_gos (f := 1) (pc2 := 100) (ls2 := [(2, .int 18), (3, .int 4), (0, .ref 162), (1, .int 3)]) (st2 := [.int 18, .ref 13]) (h2 := h) (dc2 := dc) (ds2 := ds) 1 rfl ?_
                      refine wq_sp1 rfl rfl ?_
                      show wq 161 103 [(2, .int 18), (3, .int 4), (0, .ref 162), (1, .int 3)] [.int 105] h dc ds _
                      refine wq_gos (f := 1) (pc2 := 97) (ls2 := [(2, .int 19), (3, .int 4), (0, .ref 162), (1, .int 3)]) (st2 := []) (h2 := h) (dc2 := dc) (ds2 := ds) 4 rfl ?_
                      refine wq_sp1 rfl rfl ?_
                      refine wq_gos (f := 1) (pc2 := 100) (ls2 := [(2, .int 19), (3, .int 4), (0, .ref 162), (1, .int 3)]) (st2 := [.int 19, .ref 13]) (h2 := h) (dc2 := dc) (ds2 := ds) 1 rfl ?_
                      refine wq_sp1 rfl rfl ?_
                      show wq 161 103 [(2, .int 19), (3, .int 4), (0, .ref 162), (1, .int 3)] [.int 109] h dc ds _
                      refine wq_gos (f := 1) (pc2 := 97) (ls2 := [(2, .int 20), (3, .int 4), (0, .ref 162), (1, .int 3)]) (st2 := []) (h2 := h) (dc2 := dc) (ds2 := ds) 4 rfl ?_
                      refine wq_sp1 rfl rfl ?_
                      refine wq_gos (f := 1) (pc2 := 100) (ls2 := [(2, .int 20), (3, .int 4), (0, .ref 162), (1, .int 3)]) (st2 := [.int 20, .ref 13]) (h2 := h) (dc2 := dc) (ds2 := ds) 1 rfl ?_
                      refine wq_sp1 rfl rfl ?_
                      show wq 161 103 [(2, .int 20), (3, .int 4), (0, .ref 162), (1, .int 3)] [.int 105] h dc ds _
                      refine wq_gos (f := 1) (pc2 := 97) (ls2 := [(2, .int 21), (3, .int 4), (0, .ref 162), (1, .int 3)]) (st2 := []) (h2 := h) (dc2 := dc) (ds2 := ds) 4 rfl ?_
                      refine wq_sp1 rfl rfl ?_
                      refine wq_gos (f := 1) (pc2 := 100) (ls2 := [(2, .int 21), (3, .int 4), (0, .ref 162), (1, .int 3)]) (st2 := [.int 21, .ref 13]) (h2 := h) (dc2 := dc) (ds2 := ds) 1 rfl ?_
                      refine wq_sp1 rfl rfl ?_
                      show wq 161 103 [(2, .int 21), (3, .int 4), (0, .ref 162), (1, .int 3)] [.int 116] h dc ds _
                      refine wq_gos (f := 1) (pc2 := 97) (ls2 := [(2, .int 22), (3, .int 4), (0, .ref 162), (1, .int 3)]) (st2 := []) (h2 := h) (dc2 := dc) (ds2 := ds) 4 rfl ?_
                      refine wq_sp1 rfl rfl ?_
                      refine wq_gos (f := 1) (pc2 := 100) (ls2 := [(2, .int 22), (3, .int 4), (0, .ref 162), (1, .int 3)]) (st2 := [.int 22, .ref 13]) (h2 := h) (dc2 := dc) (ds2 := ds) 1 rfl ?_
                      refine wq_sp1 rfl rfl ?_
                      show wq 161 103 [(2, .int 22), (3, .int 4), (0, .ref 162), (1, .int 3)] [.int 32] h dc ds _
                      refine wq_gos (f := 1) (pc2 := 4) (ls2 := [(1, .int 4), (2, .int 23), (3, .int 4), (0, .ref 162)]) (st2 := []) (h2 := h) (dc2 := dc) (ds2 := ds) 5 rfl ?_
                      refine wq_ls [(0, .ref 162), (1, .int 4), (2, .int 23)] (show ([0, 1, 2] : List Nat).Nodup by decide) ⟨rfl, rfl, rfl, trivial⟩ ?_
                      exact kN (by unfold mWs3; rw [if_neg (Int.not_le.mpr b3x), if_neg (fun q => q b5x), if_neg (Int.not_le.mpr b9x), if_neg (fun q => q b11x), if_neg (Int.not_le.mpr b15x), if_neg (fun q => q b17x), if_neg (Int.not_le.mpr b21x), if_neg (fun q => q b22x), if_neg (Int.not_le.mpr b26x), if_pos b28x])
                    · have q30x : (tb.getD (pl + 4) 0).toInt = 116 := congrArg Int32.toInt b28x
                      refine wq_gos (f := 1) (pc2 := 15) (ls2 := [(3, .int 5), (0, .ref 162), (1, .int 3), (2, .int 17)]) (st2 := []) (h2 := h) (dc2 := dc) (ds2 := ds) 2 rfl ?_
                      refine wq_sp1 rfl rfl ?_
                      refine wq_gos (f := 1) (pc2 := 20) (ls2 := [(3, .int 5), (0, .ref 162), (1, .int 3), (2, .int 17)]) (st2 := [.int 22, .ref 13]) (h2 := h) (dc2 := dc) (ds2 := ds) 3 rfl ?_
                      refine wq_sp1 rfl rfl ?_
                      show wq 161 23 [(3, .int 5), (0, .ref 162), (1, .int 3), (2, .int 17)] [.int 32] h dc ds _
                      refine wq_gos (f := 1) (pc2 := 69) (ls2 := [(3, .int 5), (0, .ref 162), (1, .int 3), (2, .int 17)]) (st2 := []) (h2 := h) (dc2 := dc) (ds2 := ds) 2 rfl ?_
                      refine wq_sp1 rfl rfl ?_
                      refine wq_gos (f := 1) (pc2 := 74) (ls2 := [(3, .int 5), (0, .ref 162), (1, .int 3), (2, .int 17)]) (st2 := [.int 22, .ref 13]) (h2 := h) (dc2 := dc) (ds2 := ds) 3 rfl ?_
                      refine wq_sp1 rfl rfl ?_
                      show wq 161 77 [(3, .int 5), (0, .ref 162), (1, .int 3), (2, .int 17)] [.int 32] h dc ds _
                      refine wq_gos (f := 1) (pc2 := 83) (ls2 := [(3, .int 5), (0, .ref 162), (1, .int 3), (2, .int 17)]) (st2 := [.ref 162]) (h2 := h) (dc2 := dc) (ds2 := ds) 3 rfl ?_
                      refine wq_getf rfl hM rfl rfl ?_
                      refine wq_gos (f := 1) (pc2 := 88) (ls2 := [(3, .int 5), (0, .ref 162), (1, .int 3), (2, .int 17)]) (st2 := [.int ((nI pl) + (5 : Int32))]) (h2 := h) (dc2 := dc) (ds2 := ds) 2 rfl ?_
                      refine wq_vi (show (nI pl) + (5 : Int32) = nI (pl + 5) from nI_add pl 5) ?_
                      refine wq_gos (f := 1) (pc2 := 89) (ls2 := [(3, .int 5), (0, .ref 162), (1, .int 3), (2, .int 17)]) (st2 := [.ref 162, .int (nI (pl + 5))]) (h2 := h) (dc2 := dc) (ds2 := ds) 1 rfl ?_
                      refine wq_getf rfl hM rfl rfl ?_
                      try have q31x := nI_toInt (n := (pl + 5)) (by omega)
                      refine wq_ne2 rfl rfl (fun b32x => ?_) (fun b32x => ?_)
                      · have q33x : (nI (pl + 5)).toInt ≠ (nI at9).toInt := fun q => b32x (Int32.toInt_inj.mp q)
                        refine wq_sp1 rfl rfl ?_
                        refine wq_gos (f := 1) (pc2 := 100) (ls2 := [(3, .int 5), (0, .ref 162), (1, .int 3), (2, .int 17)]) (st2 := [.int 17, .ref 13]) (h2 := h) (dc2 := dc) (ds2 := ds) 1 rfl ?_
                        refine wq_sp1 rfl rfl ?_
                        show wq 161 103 [(3, .int 5), (0, .ref 162), (1, .int 3), (2, .int 17)] [.int 108] h dc ds _
                        refine wq_gos (f := 1) (pc2 := 97) (ls2 := [(2, .int 18), (3, .int 5), (0, .ref 162), (1, .int 3)]) (st2 := []) (h2 := h) (dc2 := dc) (ds2 := ds) 4 rfl ?_
                        refine wq_sp1 rfl rfl ?_
                        refine wq_gos (f := 1) (pc2 := 100) (ls2 := [(2, .int 18), (3, .int 5), (0, .ref 162), (1, .int 3)]) (st2 := [.int 18, .ref 13]) (h2 := h) (dc2 := dc) (ds2 := ds) 1 rfl ?_
                        refine wq_sp1 rfl rfl ?_
                        show wq 161 103 [(2, .int 18), (3, .int 5), (0, .ref 162), (1, .int 3)] [.int 105] h dc ds _
                        refine wq_gos (f := 1) (pc2 := 97) (ls2 := [(2, .int 19), (3, .int 5), (0, .ref 162), (1, .int 3)]) (st2 := []) (h2 := h) (dc2 := dc) (ds2 := ds) 4 rfl ?_
                        refine wq_sp1 rfl rfl ?_
                        refine wq_gos (f := 1) (pc2 := 100) (ls2 := [(2, .int 19), (3, .int 5), (0, .ref 162), (1, .int 3)]) (st2 := [.int 19, .ref 13]) (h2 := h) (dc2 := dc) (ds2 := ds) 1 rfl ?_
                        refine wq_sp1 rfl rfl ?_
                        show wq 161 103 [(2, .int 19), (3, .int 5), (0, .ref 162), (1, .int 3)] [.int 109] h dc ds _
                        refine wq_gos (f := 1) (pc2 := 97) (ls2 := [(2, .int 20), (3, .int 5), (0, .ref 162), (1, .int 3)]) (st2 := []) (h2 := h) (dc2 := dc) (ds2 := ds) 4 rfl ?_
                        refine wq_sp1 rfl rfl ?_
                        refine wq_gos (f := 1) (pc2 := 100) (ls2 := [(2, .int 20), (3, .int 5), (0, .ref 162), (1, .int 3)]) (st2 := [.int 20, .ref 13]) (h2 := h) (dc2 := dc) (ds2 := ds) 1 rfl ?_
                        refine wq_sp1 rfl rfl ?_
                        show wq 161 103 [(2, .int 20), (3, .int 5), (0, .ref 162), (1, .int 3)] [.int 105] h dc ds _
                        refine wq_gos (f := 1) (pc2 := 97) (ls2 := [(2, .int 21), (3, .int 5), (0, .ref 162), (1, .int 3)]) (st2 := []) (h2 := h) (dc2 := dc) (ds2 := ds) 4 rfl ?_
                        refine wq_sp1 rfl rfl ?_
                        refine wq_gos (f := 1) (pc2 := 100) (ls2 := [(2, .int 21), (3, .int 5), (0, .ref 162), (1, .int 3)]) (st2 := [.int 21, .ref 13]) (h2 := h) (dc2 := dc) (ds2 := ds) 1 rfl ?_
                        refine wq_sp1 rfl rfl ?_
                        show wq 161 103 [(2, .int 21), (3, .int 5), (0, .ref 162), (1, .int 3)] [.int 116] h dc ds _
                        refine wq_gos (f := 1) (pc2 := 97) (ls2 := [(2, .int 22), (3, .int 5), (0, .ref 162), (1, .int 3)]) (st2 := []) (h2 := h) (dc2 := dc) (ds2 := ds) 4 rfl ?_
                        refine wq_sp1 rfl rfl ?_
                        refine wq_gos (f := 1) (pc2 := 100) (ls2 := [(2, .int 22), (3, .int 5), (0, .ref 162), (1, .int 3)]) (st2 := [.int 22, .ref 13]) (h2 := h) (dc2 := dc) (ds2 := ds) 1 rfl ?_
                        refine wq_sp1 rfl rfl ?_
                        show wq 161 103 [(2, .int 22), (3, .int 5), (0, .ref 162), (1, .int 3)] [.int 32] h dc ds _
                        refine wq_gos (f := 1) (pc2 := 4) (ls2 := [(1, .int 4), (2, .int 23), (3, .int 5), (0, .ref 162)]) (st2 := []) (h2 := h) (dc2 := dc) (ds2 := ds) 5 rfl ?_
                        refine wq_ls [(0, .ref 162), (1, .int 4), (2, .int 23)] (show ([0, 1, 2] : List Nat).Nodup by decide) ⟨rfl, rfl, rfl, trivial⟩ ?_
                        exact kN (by unfold mWs3; rw [if_neg (Int.not_le.mpr b3x), if_neg (fun q => q b5x), if_neg (Int.not_le.mpr b9x), if_neg (fun q => q b11x), if_neg (Int.not_le.mpr b15x), if_neg (fun q => q b17x), if_neg (Int.not_le.mpr b21x), if_neg (fun q => q b22x), if_neg (Int.not_le.mpr b26x), if_neg (fun q => q b28x), if_pos b32x])
                      · have q34x : (nI (pl + 5)).toInt = (nI at9).toInt := congrArg Int32.toInt b32x
                        refine wq_gos (f := 1) (pc2 := 96) (ls2 := [(3, .int 5), (0, .ref 162), (1, .int 3), (2, .int 17)]) (st2 := [.int 3]) (h2 := h) (dc2 := dc) (ds2 := ds) 1 rfl ?_
                        exact wq_ret rfl rfl (kR (by unfold mWs3; rw [if_neg (Int.not_le.mpr b3x), if_neg (fun q => q b5x), if_neg (Int.not_le.mpr b9x), if_neg (fun q => q b11x), if_neg (Int.not_le.mpr b15x), if_neg (fun q => q b17x), if_neg (Int.not_le.mpr b21x), if_neg (fun q => q b22x), if_neg (Int.not_le.mpr b26x), if_neg (fun q => q b28x), if_neg (fun q => q b32x)]))
noncomputable def mWs4 (tb : List Int32) (at9 pl : Nat) : Nat := (if (nI at9).toInt ≤ (nI (pl + 0)).toInt then 0 else (if (tb.getD (pl + 0) 0) ≠ (115 : Int32) then 0 else (if (nI at9).toInt ≤ (nI (pl + 1)).toInt then 0 else (if (tb.getD (pl + 1) 0) ≠ (112 : Int32) then 0 else (if (nI at9).toInt ≤ (nI (pl + 2)).toInt then 0 else (if (tb.getD (pl + 2) 0) ≠ (101 : Int32) then 0 else (if (nI at9).toInt ≤ (nI (pl + 3)).toInt then 0 else (if (tb.getD (pl + 3) 0) ≠ (101 : Int32) then 0 else (if (nI at9).toInt ≤ (nI (pl + 4)).toInt then 0 else (if (tb.getD (pl + 4) 0) ≠ (100 : Int32) then 0 else (if (nI (pl + 5)) ≠ (nI at9) then 0 else 1)))))))))))
set_option maxRecDepth 100000 in
set_option maxHeartbeats 4000000 in
theorem m_w4 {h : zH} {Q : zR → Prop} {dc ds : Nat} {n0 n2 n14 n22 n23 n27 n28 n32 n33 n34 n35 n39 n52 : Int32} {sz at9 pl : Nat} {so va ft fp : Int32} {tb : List Int32} (hM : zat h 162 = some (.inr (.inr (.inr (10, mO n0 n2 n14 (nI sz) (nI at9) (nI pl) so va ft fp n22 n23 n27 n28 n32 n33 n34 n35 n39 n52))))) (hT : zat h 164 = some (.inl (0, 700, tb))) (hsz : sz ≤ 700) (ha : at9 ≤ sz) (hp : pl ≤ at9) (kN : ((mWs4 tb at9 pl) = 0) → wq 161 4 [(0, .ref 162), (1, .int 5), (2, .int 29)] [] h dc ds Q) (kR : ((mWs4 tb at9 pl) = 1) → Q (some (.int 4), h, dc, ds)) : wq 161 4 [(0, .ref 162), (1, .int 4), (2, .int 23)] [] h dc ds Q := by
  have qnat9 := nI_toInt (n := at9) (by omega)
  have qnpl := nI_toInt (n := pl) (by omega)
  have qp0 := nI_toInt (n := pl + 0) (by omega)
  have qp1 := nI_toInt (n := pl + 1) (by omega)
  have qp2 := nI_toInt (n := pl + 2) (by omega)
  have qp3 := nI_toInt (n := pl + 3) (by omega)
  have qp4 := nI_toInt (n := pl + 4) (by omega)
  have qp5 := nI_toInt (n := pl + 5) (by omega)
  have qp6 := nI_toInt (n := pl + 6) (by omega)
  have qp7 := nI_toInt (n := pl + 7) (by omega)
  refine wq_gos (f := 1) (pc2 := 5) (ls2 := [(0, .ref 162), (1, .int 4), (2, .int 23)]) (st2 := [.int 23]) (h2 := h) (dc2 := dc) (ds2 := ds) 1 rfl ?_
  refine wq_sp1 rfl rfl ?_
  refine wq_sp1 rfl rfl ?_
  refine wq_gos (f := 1) (pc2 := 15) (ls2 := [(3, .int 0), (0, .ref 162), (1, .int 4), (2, .int 23)]) (st2 := []) (h2 := h) (dc2 := dc) (ds2 := ds) 3 rfl ?_
  refine wq_sp1 rfl rfl ?_
  refine wq_gos (f := 1) (pc2 := 20) (ls2 := [(3, .int 0), (0, .ref 162), (1, .int 4), (2, .int 23)]) (st2 := [.int 23, .ref 13]) (h2 := h) (dc2 := dc) (ds2 := ds) 3 rfl ?_
  refine wq_sp1 rfl rfl ?_
  show wq 161 23 [(3, .int 0), (0, .ref 162), (1, .int 4), (2, .int 23)] [.int 115] h dc ds _
  refine wq_gos (f := 1) (pc2 := 29) (ls2 := [(3, .int 0), (0, .ref 162), (1, .int 4), (2, .int 23)]) (st2 := [.ref 162]) (h2 := h) (dc2 := dc) (ds2 := ds) 3 rfl ?_
  refine wq_getf rfl hM rfl rfl ?_
  refine wq_gos (f := 1) (pc2 := 34) (ls2 := [(3, .int 0), (0, .ref 162), (1, .int 4), (2, .int 23)]) (st2 := [.int ((nI pl) + (0 : Int32))]) (h2 := h) (dc2 := dc) (ds2 := ds) 2 rfl ?_
  refine wq_vi (show (nI pl) + (0 : Int32) = nI (pl + 0) from nI_add pl 0) ?_
  refine wq_gos (f := 1) (pc2 := 35) (ls2 := [(3, .int 0), (0, .ref 162), (1, .int 4), (2, .int 23)]) (st2 := [.ref 162, .int (nI (pl + 0))]) (h2 := h) (dc2 := dc) (ds2 := ds) 1 rfl ?_
  refine wq_getf rfl hM rfl rfl ?_
  try have q1x := nI_toInt (n := (pl + 0)) (by omega)
  try have q2x := nI_toInt (n := at9) (by omega)
  refine wq_ge2 rfl rfl (fun b3x => ?_) (fun b3x => ?_)
  · refine wq_sp1 rfl rfl ?_
    refine wq_gos (f := 1) (pc2 := 74) (ls2 := [(3, .int 0), (0, .ref 162), (1, .int 4), (2, .int 23)]) (st2 := [.int 23, .ref 13]) (h2 := h) (dc2 := dc) (ds2 := ds) 3 rfl ?_
    refine wq_sp1 rfl rfl ?_
    show wq 161 77 [(3, .int 0), (0, .ref 162), (1, .int 4), (2, .int 23)] [.int 115] h dc ds _
    refine wq_gos (f := 1) (pc2 := 97) (ls2 := [(3, .int 0), (0, .ref 162), (1, .int 4), (2, .int 23)]) (st2 := []) (h2 := h) (dc2 := dc) (ds2 := ds) 2 rfl ?_
    refine wq_sp1 rfl rfl ?_
    refine wq_gos (f := 1) (pc2 := 100) (ls2 := [(3, .int 0), (0, .ref 162), (1, .int 4), (2, .int 23)]) (st2 := [.int 23, .ref 13]) (h2 := h) (dc2 := dc) (ds2 := ds) 1 rfl ?_
    refine wq_sp1 rfl rfl ?_
    show wq 161 103 [(3, .int 0), (0, .ref 162), (1, .int 4), (2, .int 23)] [.int 115] h dc ds _
    refine wq_gos (f := 1) (pc2 := 97) (ls2 := [(2, .int 24), (3, .int 0), (0, .ref 162), (1, .int 4)]) (st2 := []) (h2 := h) (dc2 := dc) (ds2 := ds) 4 rfl ?_
    refine wq_sp1 rfl rfl ?_
    refine wq_gos (f := 1) (pc2 := 100) (ls2 := [(2, .int 24), (3, .int 0), (0, .ref 162), (1, .int 4)]) (st2 := [.int 24, .ref 13]) (h2 := h) (dc2 := dc) (ds2 := ds) 1 rfl ?_
    refine wq_sp1 rfl rfl ?_
    show wq 161 103 [(2, .int 24), (3, .int 0), (0, .ref 162), (1, .int 4)] [.int 112] h dc ds _
    refine wq_gos (f := 1) (pc2 := 97) (ls2 := [(2, .int 25), (3, .int 0), (0, .ref 162), (1, .int 4)]) (st2 := []) (h2 := h) (dc2 := dc) (ds2 := ds) 4 rfl ?_
    refine wq_sp1 rfl rfl ?_
    refine wq_gos (f := 1) (pc2 := 100) (ls2 := [(2, .int 25), (3, .int 0), (0, .ref 162), (1, .int 4)]) (st2 := [.int 25, .ref 13]) (h2 := h) (dc2 := dc) (ds2 := ds) 1 rfl ?_
    refine wq_sp1 rfl rfl ?_
    show wq 161 103 [(2, .int 25), (3, .int 0), (0, .ref 162), (1, .int 4)] [.int 101] h dc ds _
    refine wq_gos (f := 1) (pc2 := 97) (ls2 := [(2, .int 26), (3, .int 0), (0, .ref 162), (1, .int 4)]) (st2 := []) (h2 := h) (dc2 := dc) (ds2 := ds) 4 rfl ?_
    refine wq_sp1 rfl rfl ?_
    refine wq_gos (f := 1) (pc2 := 100) (ls2 := [(2, .int 26), (3, .int 0), (0, .ref 162), (1, .int 4)]) (st2 := [.int 26, .ref 13]) (h2 := h) (dc2 := dc) (ds2 := ds) 1 rfl ?_
    refine wq_sp1 rfl rfl ?_
    show wq 161 103 [(2, .int 26), (3, .int 0), (0, .ref 162), (1, .int 4)] [.int 101] h dc ds _
    refine wq_gos (f := 1) (pc2 := 97) (ls2 := [(2, .int 27), (3, .int 0), (0, .ref 162), (1, .int 4)]) (st2 := []) (h2 := h) (dc2 := dc) (ds2 := ds) 4 rfl ?_
    refine wq_sp1 rfl rfl ?_
    refine wq_gos (f := 1) (pc2 := 100) (ls2 := [(2, .int 27), (3, .int 0), (0, .ref 162), (1, .int 4)]) (st2 := [.int 27, .ref 13]) (h2 := h) (dc2 := dc) (ds2 := ds) 1 rfl ?_
    refine wq_sp1 rfl rfl ?_
    show wq 161 103 [(2, .int 27), (3, .int 0), (0, .ref 162), (1, .int 4)] [.int 100] h dc ds _
    refine wq_gos (f := 1) (pc2 := 97) (ls2 := [(2, .int 28), (3, .int 0), (0, .ref 162), (1, .int 4)]) (st2 := []) (h2 := h) (dc2 := dc) (ds2 := ds) 4 rfl ?_
    refine wq_sp1 rfl rfl ?_
    refine wq_gos (f := 1) (pc2 := 100) (ls2 := [(2, .int 28), (3, .int 0), (0, .ref 162), (1, .int 4)]) (st2 := [.int 28, .ref 13]) (h2 := h) (dc2 := dc) (ds2 := ds) 1 rfl ?_
    refine wq_sp1 rfl rfl ?_
    show wq 161 103 [(2, .int 28), (3, .int 0), (0, .ref 162), (1, .int 4)] [.int 32] h dc ds _
    refine wq_gos (f := 1) (pc2 := 4) (ls2 := [(1, .int 5), (2, .int 29), (3, .int 0), (0, .ref 162)]) (st2 := []) (h2 := h) (dc2 := dc) (ds2 := ds) 5 rfl ?_
    refine wq_ls [(0, .ref 162), (1, .int 5), (2, .int 29)] (show ([0, 1, 2] : List Nat).Nodup by decide) ⟨rfl, rfl, rfl, trivial⟩ ?_
    exact kN (by unfold mWs4; rw [if_pos b3x])
  · refine wq_gos (f := 1) (pc2 := 42) (ls2 := [(3, .int 0), (0, .ref 162), (1, .int 4), (2, .int 23)]) (st2 := [.ref 162]) (h2 := h) (dc2 := dc) (ds2 := ds) 1 rfl ?_
    refine wq_getf rfl hM rfl rfl ?_
    refine wq_gos (f := 1) (pc2 := 46) (ls2 := [(3, .int 0), (0, .ref 162), (1, .int 4), (2, .int 23)]) (st2 := [.ref 162, .ref 164]) (h2 := h) (dc2 := dc) (ds2 := ds) 1 rfl ?_
    refine wq_getf rfl hM rfl rfl ?_
    refine wq_gos (f := 1) (pc2 := 51) (ls2 := [(3, .int 0), (0, .ref 162), (1, .int 4), (2, .int 23)]) (st2 := [.int ((nI pl) + (0 : Int32)), .ref 164]) (h2 := h) (dc2 := dc) (ds2 := ds) 2 rfl ?_
    refine wq_vi (show (nI pl) + (0 : Int32) = nI (pl + 0) from nI_add pl 0) ?_
    refine wq_ialdn rfl hT (by first | omega | exact zin_t (by omega) (by omega)) (by decide) rfl ?_
    refine wq_sp1 rfl rfl ?_
    refine wq_gos (f := 1) (pc2 := 57) (ls2 := [(3, .int 0), (0, .ref 162), (1, .int 4), (2, .int 23)]) (st2 := [.int 23, .ref 13, .int (tb.getD (pl + 0) 0)]) (h2 := h) (dc2 := dc) (ds2 := ds) 3 rfl ?_
    refine wq_sp1 rfl rfl ?_
    show wq 161 60 [(3, .int 0), (0, .ref 162), (1, .int 4), (2, .int 23)] [.int 115, .int (tb.getD (pl + 0) 0)] h dc ds _
    have q4x : (115 : Int32).toInt = 115 := rfl
    refine wq_ne2 rfl rfl (fun b5x => ?_) (fun b5x => ?_)
    · have q6x : (tb.getD (pl + 0) 0).toInt ≠ 115 := fun q => b5x (Int32.toInt_inj.mp q)
      refine wq_sp1 rfl rfl ?_
      refine wq_gos (f := 1) (pc2 := 74) (ls2 := [(3, .int 0), (0, .ref 162), (1, .int 4), (2, .int 23)]) (st2 := [.int 23, .ref 13]) (h2 := h) (dc2 := dc) (ds2 := ds) 3 rfl ?_
      refine wq_sp1 rfl rfl ?_
      show wq 161 77 [(3, .int 0), (0, .ref 162), (1, .int 4), (2, .int 23)] [.int 115] h dc ds _
      refine wq_gos (f := 1) (pc2 := 97) (ls2 := [(3, .int 0), (0, .ref 162), (1, .int 4), (2, .int 23)]) (st2 := []) (h2 := h) (dc2 := dc) (ds2 := ds) 2 rfl ?_
      refine wq_sp1 rfl rfl ?_
      refine wq_gos (f := 1) (pc2 := 100) (ls2 := [(3, .int 0), (0, .ref 162), (1, .int 4), (2, .int 23)]) (st2 := [.int 23, .ref 13]) (h2 := h) (dc2 := dc) (ds2 := ds) 1 rfl ?_
      refine wq_sp1 rfl rfl ?_
      show wq 161 103 [(3, .int 0), (0, .ref 162), (1, .int 4), (2, .int 23)] [.int 115] h dc ds _
      refine wq_gos (f := 1) (pc2 := 97) (ls2 := [(2, .int 24), (3, .int 0), (0, .ref 162), (1, .int 4)]) (st2 := []) (h2 := h) (dc2 := dc) (ds2 := ds) 4 rfl ?_
      refine wq_sp1 rfl rfl ?_
      refine wq_gos (f := 1) (pc2 := 100) (ls2 := [(2, .int 24), (3, .int 0), (0, .ref 162), (1, .int 4)]) (st2 := [.int 24, .ref 13]) (h2 := h) (dc2 := dc) (ds2 := ds) 1 rfl ?_
      refine wq_sp1 rfl rfl ?_
      show wq 161 103 [(2, .int 24), (3, .int 0), (0, .ref 162), (1, .int 4)] [.int 112] h dc ds _
      refine wq_gos (f := 1) (pc2 := 97) (ls2 := [(2, .int 25), (3, .int 0), (0, .ref 162), (1, .int 4)]) (st2 := []) (h2 := h) (dc2 := dc) (ds2 := ds) 4 rfl ?_
      refine wq_sp1 rfl rfl ?_
      refine wq_gos (f := 1) (pc2 := 100) (ls2 := [(2, .int 25), (3, .int 0), (0, .ref 162), (1, .int 4)]) (st2 := [.int 25, .ref 13]) (h2 := h) (dc2 := dc) (ds2 := ds) 1 rfl ?_
      refine wq_sp1 rfl rfl ?_
      show wq 161 103 [(2, .int 25), (3, .int 0), (0, .ref 162), (1, .int 4)] [.int 101] h dc ds _
      refine wq_gos (f := 1) (pc2 := 97) (ls2 := [(2, .int 26), (3, .int 0), (0, .ref 162), (1, .int 4)]) (st2 := []) (h2 := h) (dc2 := dc) (ds2 := ds) 4 rfl ?_
      refine wq_sp1 rfl rfl ?_
      refine wq_gos (f := 1) (pc2 := 100) (ls2 := [(2, .int 26), (3, .int 0), (0, .ref 162), (1, .int 4)]) (st2 := [.int 26, .ref 13]) (h2 := h) (dc2 := dc) (ds2 := ds) 1 rfl ?_
      refine wq_sp1 rfl rfl ?_
      show wq 161 103 [(2, .int 26), (3, .int 0), (0, .ref 162), (1, .int 4)] [.int 101] h dc ds _
      refine wq_gos (f := 1) (pc2 := 97) (ls2 := [(2, .int 27), (3, .int 0), (0, .ref 162), (1, .int 4)]) (st2 := []) (h2 := h) (dc2 := dc) (ds2 := ds) 4 rfl ?_
      refine wq_sp1 rfl rfl ?_
      refine wq_gos (f := 1) (pc2 := 100) (ls2 := [(2, .int 27), (3, .int 0), (0, .ref 162), (1, .int 4)]) (st2 := [.int 27, .ref 13]) (h2 := h) (dc2 := dc) (ds2 := ds) 1 rfl ?_
      refine wq_sp1 rfl rfl ?_
      show wq 161 103 [(2, .int 27), (3, .int 0), (0, .ref 162), (1, .int 4)] [.int 100] h dc ds _
      refine wq_gos (f := 1) (pc2 := 97) (ls2 := [(2, .int 28), (3, .int 0), (0, .ref 162), (1, .int 4)]) (st2 := []) (h2 := h) (dc2 := dc) (ds2 := ds) 4 rfl ?_
      refine wq_sp1 rfl rfl ?_
      refine wq_gos (f := 1) (pc2 := 100) (ls2 := [(2, .int 28), (3, .int 0), (0, .ref 162), (1, .int 4)]) (st2 := [.int 28, .ref 13]) (h2 := h) (dc2 := dc) (ds2 := ds) 1 rfl ?_
      refine wq_sp1 rfl rfl ?_
      show wq 161 103 [(2, .int 28), (3, .int 0), (0, .ref 162), (1, .int 4)] [.int 32] h dc ds _
      refine wq_gos (f := 1) (pc2 := 4) (ls2 := [(1, .int 5), (2, .int 29), (3, .int 0), (0, .ref 162)]) (st2 := []) (h2 := h) (dc2 := dc) (ds2 := ds) 5 rfl ?_
      refine wq_ls [(0, .ref 162), (1, .int 5), (2, .int 29)] (show ([0, 1, 2] : List Nat).Nodup by decide) ⟨rfl, rfl, rfl, trivial⟩ ?_
      exact kN (by unfold mWs4; rw [if_neg (Int.not_le.mpr b3x), if_pos b5x])
    · have q7x : (tb.getD (pl + 0) 0).toInt = 115 := congrArg Int32.toInt b5x
      refine wq_gos (f := 1) (pc2 := 15) (ls2 := [(3, .int 1), (0, .ref 162), (1, .int 4), (2, .int 23)]) (st2 := []) (h2 := h) (dc2 := dc) (ds2 := ds) 2 rfl ?_
      refine wq_sp1 rfl rfl ?_
      refine wq_gos (f := 1) (pc2 := 20) (ls2 := [(3, .int 1), (0, .ref 162), (1, .int 4), (2, .int 23)]) (st2 := [.int 24, .ref 13]) (h2 := h) (dc2 := dc) (ds2 := ds) 3 rfl ?_
      refine wq_sp1 rfl rfl ?_
      show wq 161 23 [(3, .int 1), (0, .ref 162), (1, .int 4), (2, .int 23)] [.int 112] h dc ds _
      refine wq_gos (f := 1) (pc2 := 29) (ls2 := [(3, .int 1), (0, .ref 162), (1, .int 4), (2, .int 23)]) (st2 := [.ref 162]) (h2 := h) (dc2 := dc) (ds2 := ds) 3 rfl ?_
      refine wq_getf rfl hM rfl rfl ?_
      refine wq_gos (f := 1) (pc2 := 34) (ls2 := [(3, .int 1), (0, .ref 162), (1, .int 4), (2, .int 23)]) (st2 := [.int ((nI pl) + (1 : Int32))]) (h2 := h) (dc2 := dc) (ds2 := ds) 2 rfl ?_
      refine wq_vi (show (nI pl) + (1 : Int32) = nI (pl + 1) from nI_add pl 1) ?_
      refine wq_gos (f := 1) (pc2 := 35) (ls2 := [(3, .int 1), (0, .ref 162), (1, .int 4), (2, .int 23)]) (st2 := [.ref 162, .int (nI (pl + 1))]) (h2 := h) (dc2 := dc) (ds2 := ds) 1 rfl ?_
      refine wq_getf rfl hM rfl rfl ?_
      try have q8x := nI_toInt (n := (pl + 1)) (by omega)
      refine wq_ge2 rfl rfl (fun b9x => ?_) (fun b9x => ?_)
      · refine wq_sp1 rfl rfl ?_
        refine wq_gos (f := 1) (pc2 := 74) (ls2 := [(3, .int 1), (0, .ref 162), (1, .int 4), (2, .int 23)]) (st2 := [.int 24, .ref 13]) (h2 := h) (dc2 := dc) (ds2 := ds) 3 rfl ?_
        refine wq_sp1 rfl rfl ?_
        show wq 161 77 [(3, .int 1), (0, .ref 162), (1, .int 4), (2, .int 23)] [.int 112] h dc ds _
        refine wq_gos (f := 1) (pc2 := 97) (ls2 := [(3, .int 1), (0, .ref 162), (1, .int 4), (2, .int 23)]) (st2 := []) (h2 := h) (dc2 := dc) (ds2 := ds) 2 rfl ?_
        refine wq_sp1 rfl rfl ?_
        refine wq_gos (f := 1) (pc2 := 100) (ls2 := [(3, .int 1), (0, .ref 162), (1, .int 4), (2, .int 23)]) (st2 := [.int 23, .ref 13]) (h2 := h) (dc2 := dc) (ds2 := ds) 1 rfl ?_
        refine wq_sp1 rfl rfl ?_
        show wq 161 103 [(3, .int 1), (0, .ref 162), (1, .int 4), (2, .int 23)] [.int 115] h dc ds _
        refine wq_gos (f := 1) (pc2 := 97) (ls2 := [(2, .int 24), (3, .int 1), (0, .ref 162), (1, .int 4)]) (st2 := []) (h2 := h) (dc2 := dc) (ds2 := ds) 4 rfl ?_
        refine wq_sp1 rfl rfl ?_
        refine wq_gos (f := 1) (pc2 := 100) (ls2 := [(2, .int 24), (3, .int 1), (0, .ref 162), (1, .int 4)]) (st2 := [.int 24, .ref 13]) (h2 := h) (dc2 := dc) (ds2 := ds) 1 rfl ?_
        refine wq_sp1 rfl rfl ?_
        show wq 161 103 [(2, .int 24), (3, .int 1), (0, .ref 162), (1, .int 4)] [.int 112] h dc ds _
        refine wq_gos (f := 1) (pc2 := 97) (ls2 := [(2, .int 25), (3, .int 1), (0, .ref 162), (1, .int 4)]) (st2 := []) (h2 := h) (dc2 := dc) (ds2 := ds) 4 rfl ?_
        refine wq_sp1 rfl rfl ?_
        refine wq_gos (f := 1) (pc2 := 100) (ls2 := [(2, .int 25), (3, .int 1), (0, .ref 162), (1, .int 4)]) (st2 := [.int 25, .ref 13]) (h2 := h) (dc2 := dc) (ds2 := ds) 1 rfl ?_
        refine wq_sp1 rfl rfl ?_
        show wq 161 103 [(2, .int 25), (3, .int 1), (0, .ref 162), (1, .int 4)] [.int 101] h dc ds _
        refine wq_gos (f := 1) (pc2 := 97) (ls2 := [(2, .int 26), (3, .int 1), (0, .ref 162), (1, .int 4)]) (st2 := []) (h2 := h) (dc2 := dc) (ds2 := ds) 4 rfl ?_
        refine wq_sp1 rfl rfl ?_
        refine wq_gos (f := 1) (pc2 := 100) (ls2 := [(2, .int 26), (3, .int 1), (0, .ref 162), (1, .int 4)]) (st2 := [.int 26, .ref 13]) (h2 := h) (dc2 := dc) (ds2 := ds) 1 rfl ?_
        refine wq_sp1 rfl rfl ?_
        show wq 161 103 [(2, .int 26), (3, .int 1), (0, .ref 162), (1, .int 4)] [.int 101] h dc ds _
        refine wq_gos (f := 1) (pc2 := 97) (ls2 := [(2, .int 27), (3, .int 1), (0, .ref 162), (1, .int 4)]) (st2 := []) (h2 := h) (dc2 := dc) (ds2 := ds) 4 rfl ?_
        refine wq_sp1 rfl rfl ?_
        refine wq_gos (f := 1) (pc2 := 100) (ls2 := [(2, .int 27), (3, .int 1), (0, .ref 162), (1, .int 4)]) (st2 := [.int 27, .ref 13]) (h2 := h) (dc2 := dc) (ds2 := ds) 1 rfl ?_
        refine wq_sp1 rfl rfl ?_
        show wq 161 103 [(2, .int 27), (3, .int 1), (0, .ref 162), (1, .int 4)] [.int 100] h dc ds _
        refine wq_gos (f := 1) (pc2 := 97) (ls2 := [(2, .int 28), (3, .int 1), (0, .ref 162), (1, .int 4)]) (st2 := []) (h2 := h) (dc2 := dc) (ds2 := ds) 4 rfl ?_
        refine wq_sp1 rfl rfl ?_
        refine wq_gos (f := 1) (pc2 := 100) (ls2 := [(2, .int 28), (3, .int 1), (0, .ref 162), (1, .int 4)]) (st2 := [.int 28, .ref 13]) (h2 := h) (dc2 := dc) (ds2 := ds) 1 rfl ?_
        refine wq_sp1 rfl rfl ?_
        show wq 161 103 [(2, .int 28), (3, .int 1), (0, .ref 162), (1, .int 4)] [.int 32] h dc ds _
        refine wq_gos (f := 1) (pc2 := 4) (ls2 := [(1, .int 5), (2, .int 29), (3, .int 1), (0, .ref 162)]) (st2 := []) (h2 := h) (dc2 := dc) (ds2 := ds) 5 rfl ?_
        refine wq_ls [(0, .ref 162), (1, .int 5), (2, .int 29)] (show ([0, 1, 2] : List Nat).Nodup by decide) ⟨rfl, rfl, rfl, trivial⟩ ?_
        exact kN (by unfold mWs4; rw [if_neg (Int.not_le.mpr b3x), if_neg (fun q => q b5x), if_pos b9x])
      · refine wq_gos (f := 1) (pc2 := 42) (ls2 := [(3, .int 1), (0, .ref 162), (1, .int 4), (2, .int 23)]) (st2 := [.ref 162]) (h2 := h) (dc2 := dc) (ds2 := ds) 1 rfl ?_
        refine wq_getf rfl hM rfl rfl ?_
        refine wq_gos (f := 1) (pc2 := 46) (ls2 := [(3, .int 1), (0, .ref 162), (1, .int 4), (2, .int 23)]) (st2 := [.ref 162, .ref 164]) (h2 := h) (dc2 := dc) (ds2 := ds) 1 rfl ?_
        refine wq_getf rfl hM rfl rfl ?_
        refine wq_gos (f := 1) (pc2 := 51) (ls2 := [(3, .int 1), (0, .ref 162), (1, .int 4), (2, .int 23)]) (st2 := [.int ((nI pl) + (1 : Int32)), .ref 164]) (h2 := h) (dc2 := dc) (ds2 := ds) 2 rfl ?_
        refine wq_vi (show (nI pl) + (1 : Int32) = nI (pl + 1) from nI_add pl 1) ?_
        refine wq_ialdn rfl hT (by first | omega | exact zin_t (by omega) (by omega)) (by decide) rfl ?_
        refine wq_sp1 rfl rfl ?_
        refine wq_gos (f := 1) (pc2 := 57) (ls2 := [(3, .int 1), (0, .ref 162), (1, .int 4), (2, .int 23)]) (st2 := [.int 24, .ref 13, .int (tb.getD (pl + 1) 0)]) (h2 := h) (dc2 := dc) (ds2 := ds) 3 rfl ?_
        refine wq_sp1 rfl rfl ?_
        show wq 161 60 [(3, .int 1), (0, .ref 162), (1, .int 4), (2, .int 23)] [.int 112, .int (tb.getD (pl + 1) 0)] h dc ds _
        have q10x : (112 : Int32).toInt = 112 := rfl
        refine wq_ne2 rfl rfl (fun b11x => ?_) (fun b11x => ?_)
        · have q12x : (tb.getD (pl + 1) 0).toInt ≠ 112 := fun q => b11x (Int32.toInt_inj.mp q)
          refine wq_sp1 rfl rfl ?_
          refine wq_gos (f := 1) (pc2 := 74) (ls2 := [(3, .int 1), (0, .ref 162), (1, .int 4), (2, .int 23)]) (st2 := [.int 24, .ref 13]) (h2 := h) (dc2 := dc) (ds2 := ds) 3 rfl ?_
          refine wq_sp1 rfl rfl ?_
          show wq 161 77 [(3, .int 1), (0, .ref 162), (1, .int 4), (2, .int 23)] [.int 112] h dc ds _
          refine wq_gos (f := 1) (pc2 := 97) (ls2 := [(3, .int 1), (0, .ref 162), (1, .int 4), (2, .int 23)]) (st2 := []) (h2 := h) (dc2 := dc) (ds2 := ds) 2 rfl ?_
          refine wq_sp1 rfl rfl ?_
          refine wq_gos (f := 1) (pc2 := 100) (ls2 := [(3, .int 1), (0, .ref 162), (1, .int 4), (2, .int 23)]) (st2 := [.int 23, .ref 13]) (h2 := h) (dc2 := dc) (ds2 := ds) 1 rfl ?_
          refine wq_sp1 rfl rfl ?_
          show wq 161 103 [(3, .int 1), (0, .ref 162), (1, .int 4), (2, .int 23)] [.int 115] h dc ds _
          refine wq_gos (f := 1) (pc2 := 97) (ls2 := [(2, .int 24), (3, .int 1), (0, .ref 162), (1, .int 4)]) (st2 := []) (h2 := h) (dc2 := dc) (ds2 := ds) 4 rfl ?_
          refine wq_sp1 rfl rfl ?_
          refine wq_gos (f := 1) (pc2 := 100) (ls2 := [(2, .int 24), (3, .int 1), (0, .ref 162), (1, .int 4)]) (st2 := [.int 24, .ref 13]) (h2 := h) (dc2 := dc) (ds2 := ds) 1 rfl ?_
          refine wq_sp1 rfl rfl ?_
          show wq 161 103 [(2, .int 24), (3, .int 1), (0, .ref 162), (1, .int 4)] [.int 112] h dc ds _
          refine wq_gos (f := 1) (pc2 := 97) (ls2 := [(2, .int 25), (3, .int 1), (0, .ref 162), (1, .int 4)]) (st2 := []) (h2 := h) (dc2 := dc) (ds2 := ds) 4 rfl ?_
          refine wq_sp1 rfl rfl ?_
          refine wq_gos (f := 1) (pc2 := 100) (ls2 := [(2, .int 25), (3, .int 1), (0, .ref 162), (1, .int 4)]) (st2 := [.int 25, .ref 13]) (h2 := h) (dc2 := dc) (ds2 := ds) 1 rfl ?_
          refine wq_sp1 rfl rfl ?_
          show wq 161 103 [(2, .int 25), (3, .int 1), (0, .ref 162), (1, .int 4)] [.int 101] h dc ds _
          refine wq_gos (f := 1) (pc2 := 97) (ls2 := [(2, .int 26), (3, .int 1), (0, .ref 162), (1, .int 4)]) (st2 := []) (h2 := h) (dc2 := dc) (ds2 := ds) 4 rfl ?_
          refine wq_sp1 rfl rfl ?_
          refine wq_gos (f := 1) (pc2 := 100) (ls2 := [(2, .int 26), (3, .int 1), (0, .ref 162), (1, .int 4)]) (st2 := [.int 26, .ref 13]) (h2 := h) (dc2 := dc) (ds2 := ds) 1 rfl ?_
          refine wq_sp1 rfl rfl ?_
          show wq 161 103 [(2, .int 26), (3, .int 1), (0, .ref 162), (1, .int 4)] [.int 101] h dc ds _
          refine wq_gos (f := 1) (pc2 := 97) (ls2 := [(2, .int 27), (3, .int 1), (0, .ref 162), (1, .int 4)]) (st2 := []) (h2 := h) (dc2 := dc) (ds2 := ds) 4 rfl ?_
          refine wq_sp1 rfl rfl ?_
          refine wq_gos (f := 1) (pc2 := 100) (ls2 := [(2, .int 27), (3, .int 1), (0, .ref 162), (1, .int 4)]) (st2 := [.int 27, .ref 13]) (h2 := h) (dc2 := dc) (ds2 := ds) 1 rfl ?_
          refine wq_sp1 rfl rfl ?_
          show wq 161 103 [(2, .int 27), (3, .int 1), (0, .ref 162), (1, .int 4)] [.int 100] h dc ds _
          refine wq_gos (f := 1) (pc2 := 97) (ls2 := [(2, .int 28), (3, .int 1), (0, .ref 162), (1, .int 4)]) (st2 := []) (h2 := h) (dc2 := dc) (ds2 := ds) 4 rfl ?_
          refine wq_sp1 rfl rfl ?_
          refine wq_gos (f := 1) (pc2 := 100) (ls2 := [(2, .int 28), (3, .int 1), (0, .ref 162), (1, .int 4)]) (st2 := [.int 28, .ref 13]) (h2 := h) (dc2 := dc) (ds2 := ds) 1 rfl ?_
          refine wq_sp1 rfl rfl ?_
          show wq 161 103 [(2, .int 28), (3, .int 1), (0, .ref 162), (1, .int 4)] [.int 32] h dc ds _
          refine wq_gos (f := 1) (pc2 := 4) (ls2 := [(1, .int 5), (2, .int 29), (3, .int 1), (0, .ref 162)]) (st2 := []) (h2 := h) (dc2 := dc) (ds2 := ds) 5 rfl ?_
          refine wq_ls [(0, .ref 162), (1, .int 5), (2, .int 29)] (show ([0, 1, 2] : List Nat).Nodup by decide) ⟨rfl, rfl, rfl, trivial⟩ ?_
          exact kN (by unfold mWs4; rw [if_neg (Int.not_le.mpr b3x), if_neg (fun q => q b5x), if_neg (Int.not_le.mpr b9x), if_pos b11x])
        · have q13x : (tb.getD (pl + 1) 0).toInt = 112 := congrArg Int32.toInt b11x
          refine wq_gos (f := 1) (pc2 := 15) (ls2 := [(3, .int 2), (0, .ref 162), (1, .int 4), (2, .int 23)]) (st2 := []) (h2 := h) (dc2 := dc) (ds2 := ds) 2 rfl ?_
          refine wq_sp1 rfl rfl ?_
          refine wq_gos (f := 1) (pc2 := 20) (ls2 := [(3, .int 2), (0, .ref 162), (1, .int 4), (2, .int 23)]) (st2 := [.int 25, .ref 13]) (h2 := h) (dc2 := dc) (ds2 := ds) 3 rfl ?_
          refine wq_sp1 rfl rfl ?_
          show wq 161 23 [(3, .int 2), (0, .ref 162), (1, .int 4), (2, .int 23)] [.int 101] h dc ds _
          refine wq_gos (f := 1) (pc2 := 29) (ls2 := [(3, .int 2), (0, .ref 162), (1, .int 4), (2, .int 23)]) (st2 := [.ref 162]) (h2 := h) (dc2 := dc) (ds2 := ds) 3 rfl ?_
          refine wq_getf rfl hM rfl rfl ?_
          refine wq_gos (f := 1) (pc2 := 34) (ls2 := [(3, .int 2), (0, .ref 162), (1, .int 4), (2, .int 23)]) (st2 := [.int ((nI pl) + (2 : Int32))]) (h2 := h) (dc2 := dc) (ds2 := ds) 2 rfl ?_
          refine wq_vi (show (nI pl) + (2 : Int32) = nI (pl + 2) from nI_add pl 2) ?_
          refine wq_gos (f := 1) (pc2 := 35) (ls2 := [(3, .int 2), (0, .ref 162), (1, .int 4), (2, .int 23)]) (st2 := [.ref 162, .int (nI (pl + 2))]) (h2 := h) (dc2 := dc) (ds2 := ds) 1 rfl ?_
          refine wq_getf rfl hM rfl rfl ?_
          try have q14x := nI_toInt (n := (pl + 2)) (by omega)
          refine wq_ge2 rfl rfl (fun b15x => ?_) (fun b15x => ?_)
          · refine wq_sp1 rfl rfl ?_
            refine wq_gos (f := 1) (pc2 := 74) (ls2 := [(3, .int 2), (0, .ref 162), (1, .int 4), (2, .int 23)]) (st2 := [.int 25, .ref 13]) (h2 := h) (dc2 := dc) (ds2 := ds) 3 rfl ?_
            refine wq_sp1 rfl rfl ?_
            show wq 161 77 [(3, .int 2), (0, .ref 162), (1, .int 4), (2, .int 23)] [.int 101] h dc ds _
            refine wq_gos (f := 1) (pc2 := 97) (ls2 := [(3, .int 2), (0, .ref 162), (1, .int 4), (2, .int 23)]) (st2 := []) (h2 := h) (dc2 := dc) (ds2 := ds) 2 rfl ?_
            refine wq_sp1 rfl rfl ?_
            refine wq_gos (f := 1) (pc2 := 100) (ls2 := [(3, .int 2), (0, .ref 162), (1, .int 4), (2, .int 23)]) (st2 := [.int 23, .ref 13]) (h2 := h) (dc2 := dc) (ds2 := ds) 1 rfl ?_
            refine wq_sp1 rfl rfl ?_
            show wq 161 103 [(3, .int 2), (0, .ref 162), (1, .int 4), (2, .int 23)] [.int 115] h dc ds _
            refine wq_gos (f := 1) (pc2 := 97) (ls2 := [(2, .int 24), (3, .int 2), (0, .ref 162), (1, .int 4)]) (st2 := []) (h2 := h) (dc2 := dc) (ds2 := ds) 4 rfl ?_
            refine wq_sp1 rfl rfl ?_
            refine wq_gos (f := 1) (pc2 := 100) (ls2 := [(2, .int 24), (3, .int 2), (0, .ref 162), (1, .int 4)]) (st2 := [.int 24, .ref 13]) (h2 := h) (dc2 := dc) (ds2 := ds) 1 rfl ?_
            refine wq_sp1 rfl rfl ?_
            show wq 161 103 [(2, .int 24), (3, .int 2), (0, .ref 162), (1, .int 4)] [.int 112] h dc ds _
            refine wq_gos (f := 1) (pc2 := 97) (ls2 := [(2, .int 25), (3, .int 2), (0, .ref 162), (1, .int 4)]) (st2 := []) (h2 := h) (dc2 := dc) (ds2 := ds) 4 rfl ?_
            refine wq_sp1 rfl rfl ?_
            refine wq_gos (f := 1) (pc2 := 100) (ls2 := [(2, .int 25), (3, .int 2), (0, .ref 162), (1, .int 4)]) (st2 := [.int 25, .ref 13]) (h2 := h) (dc2 := dc) (ds2 := ds) 1 rfl ?_
            refine wq_sp1 rfl rfl ?_
            show wq 161 103 [(2, .int 25), (3, .int 2), (0, .ref 162), (1, .int 4)] [.int 101] h dc ds _
            refine wq_gos (f := 1) (pc2 := 97) (ls2 := [(2, .int 26), (3, .int 2), (0, .ref 162), (1, .int 4)]) (st2 := []) (h2 := h) (dc2 := dc) (ds2 := ds) 4 rfl ?_
            refine wq_sp1 rfl rfl ?_
            refine wq_gos (f := 1) (pc2 := 100) (ls2 := [(2, .int 26), (3, .int 2), (0, .ref 162), (1, .int 4)]) (st2 := [.int 26, .ref 13]) (h2 := h) (dc2 := dc) (ds2 := ds) 1 rfl ?_
            refine wq_sp1 rfl rfl ?_
            show wq 161 103 [(2, .int 26), (3, .int 2), (0, .ref 162), (1, .int 4)] [.int 101] h dc ds _
            refine wq_gos (f := 1) (pc2 := 97) (ls2 := [(2, .int 27), (3, .int 2), (0, .ref 162), (1, .int 4)]) (st2 := []) (h2 := h) (dc2 := dc) (ds2 := ds) 4 rfl ?_
            refine wq_sp1 rfl rfl ?_
            refine wq_gos (f := 1) (pc2 := 100) (ls2 := [(2, .int 27), (3, .int 2), (0, .ref 162), (1, .int 4)]) (st2 := [.int 27, .ref 13]) (h2 := h) (dc2 := dc) (ds2 := ds) 1 rfl ?_
            refine wq_sp1 rfl rfl ?_
            show wq 161 103 [(2, .int 27), (3, .int 2), (0, .ref 162), (1, .int 4)] [.int 100] h dc ds _
            refine wq_gos (f := 1) (pc2 := 97) (ls2 := [(2, .int 28), (3, .int 2), (0, .ref 162), (1, .int 4)]) (st2 := []) (h2 := h) (dc2 := dc) (ds2 := ds) 4 rfl ?_
            refine wq_sp1 rfl rfl ?_
            refine wq_gos (f := 1) (pc2 := 100) (ls2 := [(2, .int 28), (3, .int 2), (0, .ref 162), (1, .int 4)]) (st2 := [.int 28, .ref 13]) (h2 := h) (dc2 := dc) (ds2 := ds) 1 rfl ?_
            refine wq_sp1 rfl rfl ?_
            show wq 161 103 [(2, .int 28), (3, .int 2), (0, .ref 162), (1, .int 4)] [.int 32] h dc ds _
            refine wq_gos (f := 1) (pc2 := 4) (ls2 := [(1, .int 5), (2, .int 29), (3, .int 2), (0, .ref 162)]) (st2 := []) (h2 := h) (dc2 := dc) (ds2 := ds) 5 rfl ?_
            refine wq_ls [(0, .ref 162), (1, .int 5), (2, .int 29)] (show ([0, 1, 2] : List Nat).Nodup by decide) ⟨rfl, rfl, rfl, trivial⟩ ?_
            exact kN (by unfold mWs4; rw [if_neg (Int.not_le.mpr b3x), if_neg (fun q => q b5x), if_neg (Int.not_le.mpr b9x), if_neg (fun q => q b11x), if_pos b15x])
          · refine wq_gos (f := 1) (pc2 := 42) (ls2 := [(3, .int 2), (0, .ref 162), (1, .int 4), (2, .int 23)]) (st2 := [.ref 162]) (h2 := h) (dc2 := dc) (ds2 := ds) 1 rfl ?_
            refine wq_getf rfl hM rfl rfl ?_
            refine wq_gos (f := 1) (pc2 := 46) (ls2 := [(3, .int 2), (0, .ref 162), (1, .int 4), (2, .int 23)]) (st2 := [.ref 162, .ref 164]) (h2 := h) (dc2 := dc) (ds2 := ds) 1 rfl ?_
            refine wq_getf rfl hM rfl rfl ?_
            refine wq_gos (f := 1) (pc2 := 51) (ls2 := [(3, .int 2), (0, .ref 162), (1, .int 4), (2, .int 23)]) (st2 := [.int ((nI pl) + (2 : Int32)), .ref 164]) (h2 := h) (dc2 := dc) (ds2 := ds) 2 rfl ?_
            refine wq_vi (show (nI pl) + (2 : Int32) = nI (pl + 2) from nI_add pl 2) ?_
            refine wq_ialdn rfl hT (by first | omega | exact zin_t (by omega) (by omega)) (by decide) rfl ?_
            refine wq_sp1 rfl rfl ?_
            refine wq_gos (f := 1) (pc2 := 57) (ls2 := [(3, .int 2), (0, .ref 162), (1, .int 4), (2, .int 23)]) (st2 := [.int 25, .ref 13, .int (tb.getD (pl + 2) 0)]) (h2 := h) (dc2 := dc) (ds2 := ds) 3 rfl ?_
            refine wq_sp1 rfl rfl ?_
            show wq 161 60 [(3, .int 2), (0, .ref 162), (1, .int 4), (2, .int 23)] [.int 101, .int (tb.getD (pl + 2) 0)] h dc ds _
            have q16x : (101 : Int32).toInt = 101 := rfl
            refine wq_ne2 rfl rfl (fun b17x => ?_) (fun b17x => ?_)
            · have q18x : (tb.getD (pl + 2) 0).toInt ≠ 101 := fun q => b17x (Int32.toInt_inj.mp q)
              refine wq_sp1 rfl rfl ?_
              refine wq_gos (f := 1) (pc2 := 74) (ls2 := [(3, .int 2), (0, .ref 162), (1, .int 4), (2, .int 23)]) (st2 := [.int 25, .ref 13]) (h2 := h) (dc2 := dc) (ds2 := ds) 3 rfl ?_
              refine wq_sp1 rfl rfl ?_
              show wq 161 77 [(3, .int 2), (0, .ref 162), (1, .int 4), (2, .int 23)] [.int 101] h dc ds _
              refine wq_gos (f := 1) (pc2 := 97) (ls2 := [(3, .int 2), (0, .ref 162), (1, .int 4), (2, .int 23)]) (st2 := []) (h2 := h) (dc2 := dc) (ds2 := ds) 2 rfl ?_
              refine wq_sp1 rfl rfl ?_
              refine wq_gos (f := 1) (pc2 := 100) (ls2 := [(3, .int 2), (0, .ref 162), (1, .int 4), (2, .int 23)]) (st2 := [.int 23, .ref 13]) (h2 := h) (dc2 := dc) (ds2 := ds) 1 rfl ?_
              refine wq_sp1 rfl rfl ?_
              show wq 161 103 [(3, .int 2), (0, .ref 162), (1, .int 4), (2, .int 23)] [.int 115] h dc ds _
              refine wq_gos (f := 1) (pc2 := 97) (ls2 := [(2, .int 24), (3, .int 2), (0, .ref 162), (1, .int 4)]) (st2 := []) (h2 := h) (dc2 := dc) (ds2 := ds) 4 rfl ?_
              refine wq_sp1 rfl rfl ?_
              refine wq_gos (f := 1) (pc2 := 100) (ls2 := [(2, .int 24), (3, .int 2), (0, .ref 162), (1, .int 4)]) (st2 := [.int 24, .ref 13]) (h2 := h) (dc2 := dc) (ds2 := ds) 1 rfl ?_
              refine wq_sp1 rfl rfl ?_
              show wq 161 103 [(2, .int 24), (3, .int 2), (0, .ref 162), (1, .int 4)] [.int 112] h dc ds _
              refine wq_gos (f := 1) (pc2 := 97) (ls2 := [(2, .int 25), (3, .int 2), (0, .ref 162), (1, .int 4)]) (st2 := []) (h2 := h) (dc2 := dc) (ds2 := ds) 4 rfl ?_
              refine wq_sp1 rfl rfl ?_
              refine wq_gos (f := 1) (pc2 := 100) (ls2 := [(2, .int 25), (3, .int 2), (0, .ref 162), (1, .int 4)]) (st2 := [.int 25, .ref 13]) (h2 := h) (dc2 := dc) (ds2 := ds) 1 rfl ?_
              refine wq_sp1 rfl rfl ?_
              show wq 161 103 [(2, .int 25), (3, .int 2), (0, .ref 162), (1, .int 4)] [.int 101] h dc ds _
              refine wq_gos (f := 1) (pc2 := 97) (ls2 := [(2, .int 26), (3, .int 2), (0, .ref 162), (1, .int 4)]) (st2 := []) (h2 := h) (dc2 := dc) (ds2 := ds) 4 rfl ?_
              refine wq_sp1 rfl rfl ?_
              refine wq_gos (f := 1) (pc2 := 100) (ls2 := [(2, .int 26), (3, .int 2), (0, .ref 162), (1, .int 4)]) (st2 := [.int 26, .ref 13]) (h2 := h) (dc2 := dc) (ds2 := ds) 1 rfl ?_
              refine wq_sp1 rfl rfl ?_
              show wq 161 103 [(2, .int 26), (3, .int 2), (0, .ref 162), (1, .int 4)] [.int 101] h dc ds _
              refine wq_gos (f := 1) (pc2 := 97) (ls2 := [(2, .int 27), (3, .int 2), (0, .ref 162), (1, .int 4)]) (st2 := []) (h2 := h) (dc2 := dc) (ds2 := ds) 4 rfl ?_
              refine wq_sp1 rfl rfl ?_
              refine wq_gos (f := 1) (pc2 := 100) (ls2 := [(2, .int 27), (3, .int 2), (0, .ref 162), (1, .int 4)]) (st2 := [.int 27, .ref 13]) (h2 := h) (dc2 := dc) (ds2 := ds) 1 rfl ?_
              refine wq_sp1 rfl rfl ?_
              show wq 161 103 [(2, .int 27), (3, .int 2), (0, .ref 162), (1, .int 4)] [.int 100] h dc ds _
              refine wq_gos (f := 1) (pc2 := 97) (ls2 := [(2, .int 28), (3, .int 2), (0, .ref 162), (1, .int 4)]) (st2 := []) (h2 := h) (dc2 := dc) (ds2 := ds) 4 rfl ?_
              refine wq_sp1 rfl rfl ?_
              refine wq_gos (f := 1) (pc2 := 100) (ls2 := [(2, .int 28), (3, .int 2), (0, .ref 162), (1, .int 4)]) (st2 := [.int 28, .ref 13]) (h2 := h) (dc2 := dc) (ds2 := ds) 1 rfl ?_
              refine wq_sp1 rfl rfl ?_
              show wq 161 103 [(2, .int 28), (3, .int 2), (0, .ref 162), (1, .int 4)] [.int 32] h dc ds _
              refine wq_gos (f := 1) (pc2 := 4) (ls2 := [(1, .int 5), (2, .int 29), (3, .int 2), (0, .ref 162)]) (st2 := []) (h2 := h) (dc2 := dc) (ds2 := ds) 5 rfl ?_
              refine wq_ls [(0, .ref 162), (1, .int 5), (2, .int 29)] (show ([0, 1, 2] : List Nat).Nodup by decide) ⟨rfl, rfl, rfl, trivial⟩ ?_
              exact kN (by unfold mWs4; rw [if_neg (Int.not_le.mpr b3x), if_neg (fun q => q b5x), if_neg (Int.not_le.mpr b9x), if_neg (fun q => q b11x), if_neg (Int.not_le.mpr b15x), if_pos b17x])
            · have q19x : (tb.getD (pl + 2) 0).toInt = 101 := congrArg Int32.toInt b17x
              refine wq_gos (f := 1) (pc2 := 15) (ls2 := [(3, .int 3), (0, .ref 162), (1, .int 4), (2, .int 23)]) (st2 := []) (h2 := h) (dc2 := dc) (ds2 := ds) 2 rfl ?_
              refine wq_sp1 rfl rfl ?_
              refine wq_gos (f := 1) (pc2 := 20) (ls2 := [(3, .int 3), (0, .ref 162), (1, .int 4), (2, .int 23)]) (st2 := [.int 26, .ref 13]) (h2 := h) (dc2 := dc) (ds2 := ds) 3 rfl ?_
              refine wq_sp1 rfl rfl ?_
              show wq 161 23 [(3, .int 3), (0, .ref 162), (1, .int 4), (2, .int 23)] [.int 101] h dc ds _
              refine wq_gos (f := 1) (pc2 := 29) (ls2 := [(3, .int 3), (0, .ref 162), (1, .int 4), (2, .int 23)]) (st2 := [.ref 162]) (h2 := h) (dc2 := dc) (ds2 := ds) 3 rfl ?_
              refine wq_getf rfl hM rfl rfl ?_
              refine wq_gos (f := 1) (pc2 := 34) (ls2 := [(3, .int 3), (0, .ref 162), (1, .int 4), (2, .int 23)]) (st2 := [.int ((nI pl) + (3 : Int32))]) (h2 := h) (dc2 := dc) (ds2 := ds) 2 rfl ?_
              refine wq_vi (show (nI pl) + (3 : Int32) = nI (pl + 3) from nI_add pl 3) ?_
              refine wq_gos (f := 1) (pc2 := 35) (ls2 := [(3, .int 3), (0, .ref 162), (1, .int 4), (2, .int 23)]) (st2 := [.ref 162, .int (nI (pl + 3))]) (h2 := h) (dc2 := dc) (ds2 := ds) 1 rfl ?_
              refine wq_getf rfl hM rfl rfl ?_
              try have q20x := nI_toInt (n := (pl + 3)) (by omega)
              refine wq_ge2 rfl rfl (fun b21x => ?_) (fun b21x => ?_)
              · refine wq_sp1 rfl rfl ?_
                refine wq_gos (f := 1) (pc2 := 74) (ls2 := [(3, .int 3), (0, .ref 162), (1, .int 4), (2, .int 23)]) (st2 := [.int 26, .ref 13]) (h2 := h) (dc2 := dc) (ds2 := ds) 3 rfl ?_
                refine wq_sp1 rfl rfl ?_
                show wq 161 77 [(3, .int 3), (0, .ref 162), (1, .int 4), (2, .int 23)] [.int 101] h dc ds _
                refine wq_gos (f := 1) (pc2 := 97) (ls2 := [(3, .int 3), (0, .ref 162), (1, .int 4), (2, .int 23)]) (st2 := []) (h2 := h) (dc2 := dc) (ds2 := ds) 2 rfl ?_
                refine wq_sp1 rfl rfl ?_
                refine wq_gos (f := 1) (pc2 := 100) (ls2 := [(3, .int 3), (0, .ref 162), (1, .int 4), (2, .int 23)]) (st2 := [.int 23, .ref 13]) (h2 := h) (dc2 := dc) (ds2 := ds) 1 rfl ?_
                refine wq_sp1 rfl rfl ?_
                show wq 161 103 [(3, .int 3), (0, .ref 162), (1, .int 4), (2, .int 23)] [.int 115] h dc ds _
                refine wq_gos (f := 1) (pc2 := 97) (ls2 := [(2, .int 24), (3, .int 3), (0, .ref 162), (1, .int 4)]) (st2 := []) (h2 := h) (dc2 := dc) (ds2 := ds) 4 rfl ?_
                refine wq_sp1 rfl rfl ?_
                refine wq_gos (f := 1) (pc2 := 100) (ls2 := [(2, .int 24), (3, .int 3), (0, .ref 162), (1, .int 4)]) (st2 := [.int 24, .ref 13]) (h2 := h) (dc2 := dc) (ds2 := ds) 1 rfl ?_
                refine wq_sp1 rfl rfl ?_
                show wq 161 103 [(2, .int 24), (3, .int 3), (0, .ref 162), (1, .int 4)] [.int 112] h dc ds _
                refine wq_gos (f := 1) (pc2 := 97) (ls2 := [(2, .int 25), (3, .int 3), (0, .ref 162), (1, .int 4)]) (st2 := []) (h2 := h) (dc2 := dc) (ds2 := ds) 4 rfl ?_
                refine wq_sp1 rfl rfl ?_
                refine wq_gos (f := 1) (pc2 := 100) (ls2 := [(2, .int 25), (3, .int 3), (0, .ref 162), (1, .int 4)]) (st2 := [.int 25, .ref 13]) (h2 := h) (dc2 := dc) (ds2 := ds) 1 rfl ?_
                refine wq_sp1 rfl rfl ?_
                show wq 161 103 [(2, .int 25), (3, .int 3), (0, .ref 162), (1, .int 4)] [.int 101] h dc ds _
                refine wq_gos (f := 1) (pc2 := 97) (ls2 := [(2, .int 26), (3, .int 3), (0, .ref 162), (1, .int 4)]) (st2 := []) (h2 := h) (dc2 := dc) (ds2 := ds) 4 rfl ?_
                refine wq_sp1 rfl rfl ?_
                refine wq_gos (f := 1) (pc2 := 100) (ls2 := [(2, .int 26), (3, .int 3), (0, .ref 162), (1, .int 4)]) (st2 := [.int 26, .ref 13]) (h2 := h) (dc2 := dc) (ds2 := ds) 1 rfl ?_
                refine wq_sp1 rfl rfl ?_
                show wq 161 103 [(2, .int 26), (3, .int 3), (0, .ref 162), (1, .int 4)] [.int 101] h dc ds _
                refine wq_gos (f := 1) (pc2 := 97) (ls2 := [(2, .int 27), (3, .int 3), (0, .ref 162), (1, .int 4)]) (st2 := []) (h2 := h) (dc2 := dc) (ds2 := ds) 4 rfl ?_
                refine wq_sp1 rfl rfl ?_
                refine wq_gos (f := 1) (pc2 := 100) (ls2 := [(2, .int 27), (3, .int 3), (0, .ref 162), (1, .int 4)]) (st2 := [.int 27, .ref 13]) (h2 := h) (dc2 := dc) (ds2 := ds) 1 rfl ?_
                refine wq_sp1 rfl rfl ?_
                show wq 161 103 [(2, .int 27), (3, .int 3), (0, .ref 162), (1, .int 4)] [.int 100] h dc ds _
                refine wq_gos (f := 1) (pc2 := 97) (ls2 := [(2, .int 28), (3, .int 3), (0, .ref 162), (1, .int 4)]) (st2 := []) (h2 := h) (dc2 := dc) (ds2 := ds) 4 rfl ?_
                refine wq_sp1 rfl rfl ?_
                refine wq_gos (f := 1) (pc2 := 100) (ls2 := [(2, .int 28), (3, .int 3), (0, .ref 162), (1, .int 4)]) (st2 := [.int 28, .ref 13]) (h2 := h) (dc2 := dc) (ds2 := ds) 1 rfl ?_
                refine wq_sp1 rfl rfl ?_
                show wq 161 103 [(2, .int 28), (3, .int 3), (0, .ref 162), (1, .int 4)] [.int 32] h dc ds _
                refine wq_gos (f := 1) (pc2 := 4) (ls2 := [(1, .int 5), (2, .int 29), (3, .int 3), (0, .ref 162)]) (st2 := []) (h2 := h) (dc2 := dc) (ds2 := ds) 5 rfl ?_
                refine wq_ls [(0, .ref 162), (1, .int 5), (2, .int 29)] (show ([0, 1, 2] : List Nat).Nodup by decide) ⟨rfl, rfl, rfl, trivial⟩ ?_
                exact kN (by unfold mWs4; rw [if_neg (Int.not_le.mpr b3x), if_neg (fun q => q b5x), if_neg (Int.not_le.mpr b9x), if_neg (fun q => q b11x), if_neg (Int.not_le.mpr b15x), if_neg (fun q => q b17x), if_pos b21x])
              · refine wq_gos (f := 1) (pc2 := 42) (ls2 := [(3, .int 3), (0, .ref 162), (1, .int 4), (2, .int 23)]) (st2 := [.ref 162]) (h2 := h) (dc2 := dc) (ds2 := ds) 1 rfl ?_
                refine wq_getf rfl hM rfl rfl ?_
                refine wq_gos (f := 1) (pc2 := 46) (ls2 := [(3, .int 3), (0, .ref 162), (1, .int 4), (2, .int 23)]) (st2 := [.ref 162, .ref 164]) (h2 := h) (dc2 := dc) (ds2 := ds) 1 rfl ?_
                refine wq_getf rfl hM rfl rfl ?_
                refine wq_gos (f := 1) (pc2 := 51) (ls2 := [(3, .int 3), (0, .ref 162), (1, .int 4), (2, .int 23)]) (st2 := [.int ((nI pl) + (3 : Int32)), .ref 164]) (h2 := h) (dc2 := dc) (ds2 := ds) 2 rfl ?_
                refine wq_vi (show (nI pl) + (3 : Int32) = nI (pl + 3) from nI_add pl 3) ?_
                refine wq_ialdn rfl hT (by first | omega | exact zin_t (by omega) (by omega)) (by decide) rfl ?_
                refine wq_sp1 rfl rfl ?_
                refine wq_gos (f := 1) (pc2 := 57) (ls2 := [(3, .int 3), (0, .ref 162), (1, .int 4), (2, .int 23)]) (st2 := [.int 26, .ref 13, .int (tb.getD (pl + 3) 0)]) (h2 := h) (dc2 := dc) (ds2 := ds) 3 rfl ?_
                refine wq_sp1 rfl rfl ?_
                show wq 161 60 [(3, .int 3), (0, .ref 162), (1, .int 4), (2, .int 23)] [.int 101, .int (tb.getD (pl + 3) 0)] h dc ds _
                refine wq_ne2 rfl rfl (fun b22x => ?_) (fun b22x => ?_)
                · have q23x : (tb.getD (pl + 3) 0).toInt ≠ 101 := fun q => b22x (Int32.toInt_inj.mp q)
                  refine wq_sp1 rfl rfl ?_
                  refine wq_gos (f := 1) (pc2 := 74) (ls2 := [(3, .int 3), (0, .ref 162), (1, .int 4), (2, .int 23)]) (st2 := [.int 26, .ref 13]) (h2 := h) (dc2 := dc) (ds2 := ds) 3 rfl ?_
                  refine wq_sp1 rfl rfl ?_
                  show wq 161 77 [(3, .int 3), (0, .ref 162), (1, .int 4), (2, .int 23)] [.int 101] h dc ds _
                  refine wq_gos (f := 1) (pc2 := 97) (ls2 := [(3, .int 3), (0, .ref 162), (1, .int 4), (2, .int 23)]) (st2 := []) (h2 := h) (dc2 := dc) (ds2 := ds) 2 rfl ?_
                  refine wq_sp1 rfl rfl ?_
                  refine wq_gos (f := 1) (pc2 := 100) (ls2 := [(3, .int 3), (0, .ref 162), (1, .int 4), (2, .int 23)]) (st2 := [.int 23, .ref 13]) (h2 := h) (dc2 := dc) (ds2 := ds) 1 rfl ?_
                  refine wq_sp1 rfl rfl ?_
                  show wq 161 103 [(3, .int 3), (0, .ref 162), (1, .int 4), (2, .int 23)] [.int 115] h dc ds _
                  refine wq_gos (f := 1) (pc2 := 97) (ls2 := [(2, .int 24), (3, .int 3), (0, .ref 162), (1, .int 4)]) (st2 := []) (h2 := h) (dc2 := dc) (ds2 := ds) 4 rfl ?_
                  refine wq_sp1 rfl rfl ?_
                  refine wq_gos (f := 1) (pc2 := 100) (ls2 := [(2, .int 24), (3, .int 3), (0, .ref 162), (1, .int 4)]) (st2 := [.int 24, .ref 13]) (h2 := h) (dc2 := dc) (ds2 := ds) 1 rfl ?_
                  refine wq_sp1 rfl rfl ?_
                  show wq 161 103 [(2, .int 24), (3, .int 3), (0, .ref 162), (1, .int 4)] [.int 112] h dc ds _
                  refine wq_gos (f := 1) (pc2 := 97) (ls2 := [(2, .int 25), (3, .int 3), (0, .ref 162), (1, .int 4)]) (st2 := []) (h2 := h) (dc2 := dc) (ds2 := ds) 4 rfl ?_
                  refine wq_sp1 rfl rfl ?_
                  refine wq_gos (f := 1) (pc2 := 100) (ls2 := [(2, .int 25), (3, .int 3), (0, .ref 162), (1, .int 4)]) (st2 := [.int 25, .ref 13]) (h2 := h) (dc2 := dc) (ds2 := ds) 1 rfl ?_
                  refine wq_sp1 rfl rfl ?_
                  show wq 161 103 [(2, .int 25), (3, .int 3), (0, .ref 162), (1, .int 4)] [.int 101] h dc ds _
                  refine wq_gos (f := 1) (pc2 := 97) (ls2 := [(2, .int 26), (3, .int 3), (0, .ref 162), (1, .int 4)]) (st2 := []) (h2 := h) (dc2 := dc) (ds2 := ds) 4 rfl ?_
                  refine wq_sp1 rfl rfl ?_
                  refine wq_gos (f := 1) (pc2 := 100) (ls2 := [(2, .int 26), (3, .int 3), (0, .ref 162), (1, .int 4)]) (st2 := [.int 26, .ref 13]) (h2 := h) (dc2 := dc) (ds2 := ds) 1 rfl ?_
                  refine wq_sp1 rfl rfl ?_
                  show wq 161 103 [(2, .int 26), (3, .int 3), (0, .ref 162), (1, .int 4)] [.int 101] h dc ds _
                  refine wq_gos (f := 1) (pc2 := 97) (ls2 := [(2, .int 27), (3, .int 3), (0, .ref 162), (1, .int 4)]) (st2 := []) (h2 := h) (dc2 := dc) (ds2 := ds) 4 rfl ?_
                  refine wq_sp1 rfl rfl ?_
                  refine wq_gos (f := 1) (pc2 := 100) (ls2 := [(2, .int 27), (3, .int 3), (0, .ref 162), (1, .int 4)]) (st2 := [.int 27, .ref 13]) (h2 := h) (dc2 := dc) (ds2 := ds) 1 rfl ?_
                  refine wq_sp1 rfl rfl ?_
                  show wq 161 103 [(2, .int 27), (3, .int 3), (0, .ref 162), (1, .int 4)] [.int 100] h dc ds _
                  refine wq_gos (f := 1) (pc2 := 97) (ls2 := [(2, .int 28), (3, .int 3), (0, .ref 162), (1, .int 4)]) (st2 := []) (h2 := h) (dc2 := dc) (ds2 := ds) 4 rfl ?_
                  refine wq_sp1 rfl rfl ?_
                  refine wq_gos (f := 1) (pc2 := 100) (ls2 := [(2, .int 28), (3, .int 3), (0, .ref 162), (1, .int 4)]) (st2 := [.int 28, .ref 13]) (h2 := h) (dc2 := dc) (ds2 := ds) 1 rfl ?_
                  refine wq_sp1 rfl rfl ?_
                  show wq 161 103 [(2, .int 28), (3, .int 3), (0, .ref 162), (1, .int 4)] [.int 32] h dc ds _
                  refine wq_gos (f := 1) (pc2 := 4) (ls2 := [(1, .int 5), (2, .int 29), (3, .int 3), (0, .ref 162)]) (st2 := []) (h2 := h) (dc2 := dc) (ds2 := ds) 5 rfl ?_
                  refine wq_ls [(0, .ref 162), (1, .int 5), (2, .int 29)] (show ([0, 1, 2] : List Nat).Nodup by decide) ⟨rfl, rfl, rfl, trivial⟩ ?_
                  exact kN (by unfold mWs4; rw [if_neg (Int.not_le.mpr b3x), if_neg (fun q => q b5x), if_neg (Int.not_le.mpr b9x), if_neg (fun q => q b11x), if_neg (Int.not_le.mpr b15x), if_neg (fun q => q b17x), if_neg (Int.not_le.mpr b21x), if_pos b22x])
                · have q24x : (tb.getD (pl + 3) 0).toInt = 101 := congrArg Int32.toInt b22x
                  refine wq_gos (f := 1) (pc2 := 15) (ls2 := [(3, .int 4), (0, .ref 162), (1, .int 4), (2, .int 23)]) (st2 := []) (h2 := h) (dc2 := dc) (ds2 := ds) 2 rfl ?_
                  refine wq_sp1 rfl rfl ?_
                  refine wq_gos (f := 1) (pc2 := 20) (ls2 := [(3, .int 4), (0, .ref 162), (1, .int 4), (2, .int 23)]) (st2 := [.int 27, .ref 13]) (h2 := h) (dc2 := dc) (ds2 := ds) 3 rfl ?_
                  refine wq_sp1 rfl rfl ?_
                  show wq 161 23 [(3, .int 4), (0, .ref 162), (1, .int 4), (2, .int 23)] [.int 100] h dc ds _
                  refine wq_gos (f := 1) (pc2 := 29) (ls2 := [(3, .int 4), (0, .ref 162), (1, .int 4), (2, .int 23)]) (st2 := [.ref 162]) (h2 := h) (dc2 := dc) (ds2 := ds) 3 rfl ?_
                  refine wq_getf rfl hM rfl rfl ?_
                  refine wq_gos (f := 1) (pc2 := 34) (ls2 := [(3, .int 4), (0, .ref 162), (1, .int 4), (2, .int 23)]) (st2 := [.int ((nI pl) + (4 : Int32))]) (h2 := h) (dc2 := dc) (ds2 := ds) 2 rfl ?_
                  refine wq_vi (show (nI pl) + (4 : Int32) = nI (pl + 4) from nI_add pl 4) ?_
                  refine wq_gos (f := 1) (pc2 := 35) (ls2 := [(3, .int 4), (0, .ref 162), (1, .int 4), (2, .int 23)]) (st2 := [.ref 162, .int (nI (pl + 4))]) (h2 := h) (dc2 := dc) (ds2 := ds) 1 rfl ?_
                  refine wq_getf rfl hM rfl rfl ?_
                  try have q25x := nI_toInt (n := (pl + 4)) (by omega)
                  refine wq_ge2 rfl rfl (fun b26x => ?_) (fun b26x => ?_)
                  · refine wq_sp1 rfl rfl ?_
                    refine wq_gos (f := 1) (pc2 := 74) (ls2 := [(3, .int 4), (0, .ref 162), (1, .int 4), (2, .int 23)]) (st2 := [.int 27, .ref 13]) (h2 := h) (dc2 := dc) (ds2 := ds) 3 rfl ?_
                    refine wq_sp1 rfl rfl ?_
                    show wq 161 77 [(3, .int 4), (0, .ref 162), (1, .int 4), (2, .int 23)] [.int 100] h dc ds _
                    refine wq_gos (f := 1) (pc2 := 97) (ls2 := [(3, .int 4), (0, .ref 162), (1, .int 4), (2, .int 23)]) (st2 := []) (h2 := h) (dc2 := dc) (ds2 := ds) 2 rfl ?_
                    refine wq_sp1 rfl rfl ?_
                    refine wq_gos (f := 1) (pc2 := 100) (ls2 := [(3, .int 4), (0, .ref 162), (1, .int 4), (2, .int 23)]) (st2 := [.int 23, .ref 13]) (h2 := h) (dc2 := dc) (ds2 := ds) 1 rfl ?_
                    refine wq_sp1 rfl rfl ?_
                    show wq 161 103 [(3, .int 4), (0, .ref 162), (1, .int 4), (2, .int 23)] [.int 115] h dc ds _
                    refine wq_gos (f := 1) (pc2 := 97) (ls2 := [(2, .int 24), (3, .int 4), (0, .ref 162), (1, .int 4)]) (st2 := []) (h2 := h) (dc2 := dc) (ds2 := ds) 4 rfl ?_
                    refine wq_sp1 rfl rfl ?_
                    refine wq_gos (f := 1) (pc2 := 100) (ls2 := [(2, .int 24), (3, .int 4), (0, .ref 162), (1, .int 4)]) (st2 := [.int 24, .ref 13]) (h2 := h) (dc2 := dc) (ds2 := ds) 1 rfl ?_
                    refine wq_sp1 rfl rfl ?_
                    show wq 161 103 [(2, .int 24), (3, .int 4), (0, .ref 162), (1, .int 4)] [.int 112] h dc ds _
                    refine wq_gos (f := 1) (pc2 := 97) (ls2 := [(2, .int 25), (3, .int 4), (0, .ref 162), (1, .int 4)]) (st2 := []) (h2 := h) (dc2 := dc) (ds2 := ds) 4 rfl ?_
                    refine wq_sp1 rfl rfl ?_
                    refine wq_gos (f := 1) (pc2 := 100) (ls2 := [(2, .int 25), (3, .int 4), (0, .ref 162), (1, .int 4)]) (st2 := [.int 25, .ref 13]) (h2 := h) (dc2 := dc) (ds2 := ds) 1 rfl ?_
                    refine wq_sp1 rfl rfl ?_
                    show wq 161 103 [(2, .int 25), (3, .int 4), (0, .ref 162), (1, .int 4)] [.int 101] h dc ds _
                    refine wq_gos (f := 1) (pc2 := 97) (ls2 := [(2, .int 26), (3, .int 4), (0, .ref 162), (1, .int 4)]) (st2 := []) (h2 := h) (dc2 := dc) (ds2 := ds) 4 rfl ?_
                    refine wq_sp1 rfl rfl ?_
                    refine wq_gos (f := 1) (pc2 := 100) (ls2 := [(2, .int 26), (3, .int 4), (0, .ref 162), (1, .int 4)]) (st2 := [.int 26, .ref 13]) (h2 := h) (dc2 := dc) (ds2 := ds) 1 rfl ?_
                    refine wq_sp1 rfl rfl ?_
                    show wq 161 103 [(2, .int 26), (3, .int 4), (0, .ref 162), (1, .int 4)] [.int 101] h dc ds _
                    refine wq_gos (f := 1) (pc2 := 97) (ls2 := [(2, .int 27), (3, .int 4), (0, .ref 162), (1, .int 4)]) (st2 := []) (h2 := h) (dc2 := dc) (ds2 := ds) 4 rfl ?_
                    refine wq_sp1 rfl rfl ?_
                    refine wq_gos (f := 1) (pc2 := 100) (ls2 := [(2, .int 27), (3, .int 4), (0, .ref 162), (1, .int 4)]) (st2 := [.int 27, .ref 13]) (h2 := h) (dc2 := dc) (ds2 := ds) 1 rfl ?_
                    refine wq_sp1 rfl rfl ?_
                    show wq 161 103 [(2, .int 27), (3, .int 4), (0, .ref 162), (1, .int 4)] [.int 100] h dc ds _
                    refine wq_gos (f := 1) (pc2 := 97) (ls2 := [(2, .int 28), (3, .int 4), (0, .ref 162), (1, .int 4)]) (st2 := []) (h2 := h) (dc2 := dc) (ds2 := ds) 4 rfl ?_
                    refine wq_sp1 rfl rfl ?_
                    refine wq_gos (f := 1) (pc2 := 100) (ls2 := [(2, .int 28), (3, .int 4), (0, .ref 162), (1, .int 4)]) (st2 := [.int 28, .ref 13]) (h2 := h) (dc2 := dc) (ds2 := ds) 1 rfl ?_
                    refine wq_sp1 rfl rfl ?_
                    show wq 161 103 [(2, .int 28), (3, .int 4), (0, .ref 162), (1, .int 4)] [.int 32] h dc ds _
                    refine wq_gos (f := 1) (pc2 := 4) (ls2 := [(1, .int 5), (2, .int 29), (3, .int 4), (0, .ref 162)]) (st2 := []) (h2 := h) (dc2 := dc) (ds2 := ds) 5 rfl ?_
                    refine wq_ls [(0, .ref 162), (1, .int 5), (2, .int 29)] (show ([0, 1, 2] : List Nat).Nodup by decide) ⟨rfl, rfl, rfl, trivial⟩ ?_
                    exact kN (by unfold mWs4; rw [if_neg (Int.not_le.mpr b3x), if_neg (fun q => q b5x), if_neg (Int.not_le.mpr b9x), if_neg (fun q => q b11x), if_neg (Int.not_le.mpr b15x), if_neg (fun q => q b17x), if_neg (Int.not_le.mpr b21x), if_neg (fun q => q b22x), if_pos b26x])
                  · refine wq_gos (f := 1) (pc2 := 42) (ls2 := [(3, .int 4), (0, .ref 162), (1, .int 4), (2, .int 23)]) (st2 := [.ref 162]) (h2 := h) (dc2 := dc) (ds2 := ds) 1 rfl ?_
                    refine wq_getf rfl hM rfl rfl ?_
                    refine wq_gos (f := 1) (pc2 := 46) (ls2 := [(3, .int 4), (0, .ref 162), (1, .int 4), (2, .int 23)]) (st2 := [.ref 162, .ref 164]) (h2 := h) (dc2 := dc) (ds2 := ds) 1 rfl ?_
                    refine wq_getf rfl hM rfl rfl ?_
                    refine wq_gos (f := 1) (pc2 := 51) (ls2 := [(3, .int 4), (0, .ref 162), (1, .int 4), (2, .int 23)]) (st2 := [.int ((nI pl) + (4 : Int32)), .ref 164]) (h2 := h) (dc2 := dc) (ds2 := ds) 2 rfl ?_
                    refine wq_vi (show (nI pl) + (4 : Int32) = nI (pl + 4) from nI_add pl 4) ?_
                    refine wq_ialdn rfl hT (by first | omega | exact zin_t (by omega) (by omega)) (by decide) rfl ?_
                    refine wq_sp1 rfl rfl ?_
                    refine wq_gos (f := 1) (pc2 := 57) (ls2 := [(3, .int 4), (0, .ref 162), (1, .int 4), (2, .int 23)]) (st2 := [.int 27, .ref 13, .int (tb.getD (pl + 4) 0)]) (h2 := h) (dc2 := dc) (ds2 := ds) 3 rfl ?_
                    refine wq_sp1 rfl rfl ?_
                    show wq 161 60 [(3, .int 4), (0, .ref 162), (1, .int 4), (2, .int 23)] [.int 100, .int (tb.getD (pl + 4) 0)] h dc ds _
                    have q27x : (100 : Int32).toInt = 100 := rfl
                    refine wq_ne2 rfl rfl (fun b28x => ?_) (fun b28x => ?_)
                    · have q29x : (tb.getD (pl + 4) 0).toInt ≠ 100 := fun q => b28x (Int32.toInt_inj.mp q)
                      refine wq_sp1 rfl rfl ?_
                      refine wq_gos (f := 1) (pc2 := 74) (ls2 := [(3, .int 4), (0, .ref 162), (1, .int 4), (2, .int 23)]) (st2 := [.int 27, .ref 13]) (h2 := h) (dc2 := dc) (ds2 := ds) 3 rfl ?_
                      refine wq_sp1 rfl rfl ?_
                      show wq 161 77 [(3, .int 4), (0, .ref 162), (1, .int 4), (2, .int 23)] [.int 100] h dc ds _
                      refine wq_gos (f := 1) (pc2 := 97) (ls2 := [(3, .int 4), (0, .ref 162), (1, .int 4), (2, .int 23)]) (st2 := []) (h2 := h) (dc2 := dc) (ds2 := ds) 2 rfl ?_
                      refine wq_sp1 rfl rfl ?_
                      refine wq_gos (f := 1) (pc2 := 100) (ls2 := [(3, .int 4), (0, .ref 162), (1, .int 4), (2, .int 23)]) (st2 := [.int 23, .ref 13]) (h2 := h) (dc2 := dc) (ds2 := ds) 1 rfl ?_
                      refine wq_sp1 rfl rfl ?_
                      show wq 161 103 [(3, .int 4), (0, .ref 162), (1, .int 4), (2, .int 23)] [.int 115] h dc ds _
                      refine wq_gos (f := 1) (pc2 := 97) (ls2 := [(2, .int 24), (3, .int 4), (0, .ref 162), (1, .int 4)]) (st2 := []) (h2 := h) (dc2 := dc) (ds2 := ds) 4 rfl ?_
                      refine wq_sp1 rfl rfl ?_
                      refine wq_gos (f := 1) (pc2 := 100) (ls2 := [(2, .int 24), (3, .int 4), (0, .ref 162), (1, .int 4)]) (st2 := [.int 24, .ref 13]) (h2 := h) (dc2 := dc) (ds2 := ds) 1 rfl ?_
                      refine wq_sp1 rfl rfl ?_
                      show wq 161 103 [(2, .int 24), (3, .int 4), (0, .ref 162), (1, .int 4)] [.int 112] h dc ds _
                      refine wq_gos (f := 1) (pc2 := 97) (ls2 := [(2, .int 25), (3, .int 4), (0, .ref 162), (1, .int 4)]) (st2 := []) (h2 := h) (dc2 := dc) (ds2 := ds) 4 rfl ?_
                      refine wq_sp1 rfl rfl ?_
                      refine wq_gos (f := 1) (pc2 := 100) (ls2 := [(2, .int 25), (3, .int 4), (0, .ref 162), (1, .int 4)]) (st2 := [.int 25, .ref 13]) (h2 := h) (dc2 := dc) (ds2 := ds) 1 rfl ?_
                      refine wq_sp1 rfl rfl ?_
                      show wq 161 103 [(2, .int 25), (3, .int 4), (0, .ref 162), (1, .int 4)] [.int 101] h dc ds _
                      refine wq_gos (f := 1) (pc2 := 97) (ls2 := [(2, .int 26), (3, .int 4), (0, .ref 162), (1, .int 4)]) (st2 := []) (h2 := h) (dc2 := dc) (ds2 := ds) 4 rfl ?_
                      refine wq_sp1 rfl rfl ?_
                      refine wq_gos (f := 1) (pc2 := 100) (ls2 := [(2, .int 26), (3, .int 4), (0, .ref 162), (1, .int 4)]) (st2 := [.int 26, .ref 13]) (h2 := h) (dc2 := dc) (ds2 := ds) 1 rfl ?_
                      refine wq_sp1 rfl rfl ?_
                      show wq 161 103 [(2, .int 26), (3, .int 4), (0, .ref 162), (1, .int 4)] [.int 101] h dc ds _
                      refine wq_gos (f := 1) (pc2 := 97) (ls2 := [(2, .int 27), (3, .int 4), (0, .ref 162), (1, .int 4)]) (st2 := []) (h2 := h) (dc2 := dc) (ds2 := ds) 4 rfl ?_
                      refine wq_sp1 rfl rfl ?_
                      refine wq_gos (f := 1) (pc2 := 100) (ls2 := [(2, .int 27), (3, .int 4), (0, .ref 162), (1, .int 4)]) (st2 := [.int 27, .ref 13]) (h2 := h) (dc2 := dc) (ds2 := ds) 1 rfl ?_
                      refine wq_sp1 rfl rfl ?_
                      show wq 161 103 [(2, .int 27), (3, .int 4), (0, .ref 162), (1, .int 4)] [.int 100] h dc ds _
                      refine wq_gos (f := 1) (pc2 := 97) (ls2 := [(2, .int 28), (3, .int 4), (0, .ref 162), (1, .int 4)]) (st2 := []) (h2 := h) (dc2 := dc) (ds2 := ds) 4 rfl ?_
                      refine wq_sp1 rfl rfl ?_
                      refine wq_gos (f := 1) (pc2 := 100) (ls2 := [(2, .int 28), (3, .int 4), (0, .ref 162), (1, .int 4)]) (st2 := [.int 28, .ref 13]) (h2 := h) (dc2 := dc) (ds2 := ds) 1 rfl ?_
                      refine wq_sp1 rfl rfl ?_
                      show wq 161 103 [(2, .int 28), (3, .int 4), (0, .ref 162), (1, .int 4)] [.int 32] h dc ds _
                      refine wq_gos (f := 1) (pc2 := 4) (ls2 := [(1, .int 5), (2, .int 29), (3, .int 4), (0, .ref 162)]) (st2 := []) (h2 := h) (dc2 := dc) (ds2 := ds) 5 rfl ?_
                      refine wq_ls [(0, .ref 162), (1, .int 5), (2, .int 29)] (show ([0, 1, 2] : List Nat).Nodup by decide) ⟨rfl, rfl, rfl, trivial⟩ ?_
                      exact kN (by unfold mWs4; rw [if_neg (Int.not_le.mpr b3x), if_neg (fun q => q b5x), if_neg (Int.not_le.mpr b9x), if_neg (fun q => q b11x), if_neg (Int.not_le.mpr b15x), if_neg (fun q => q b17x), if_neg (Int.not_le.mpr b21x), if_neg (fun q => q b22x), if_neg (Int.not_le.mpr b26x), if_pos b28x])
                    · have q30x : (tb.getD (pl + 4) 0).toInt = 100 := congrArg Int32.toInt b28x
                      refine wq_gos (f := 1) (pc2 := 15) (ls2 := [(3, .int 5), (0, .ref 162), (1, .int 4), (2, .int 23)]) (st2 := []) (h2 := h) (dc2 := dc) (ds2 := ds) 2 rfl ?_
                      refine wq_sp1 rfl rfl ?_
                      refine wq_gos (f := 1) (pc2 := 20) (ls2 := [(3, .int 5), (0, .ref 162), (1, .int 4), (2, .int 23)]) (st2 := [.int 28, .ref 13]) (h2 := h) (dc2 := dc) (ds2 := ds) 3 rfl ?_
                      refine wq_sp1 rfl rfl ?_
                      show wq 161 23 [(3, .int 5), (0, .ref 162), (1, .int 4), (2, .int 23)] [.int 32] h dc ds _
                      refine wq_gos (f := 1) (pc2 := 69) (ls2 := [(3, .int 5), (0, .ref 162), (1, .int 4), (2, .int 23)]) (st2 := []) (h2 := h) (dc2 := dc) (ds2 := ds) 2 rfl ?_
                      refine wq_sp1 rfl rfl ?_
                      refine wq_gos (f := 1) (pc2 := 74) (ls2 := [(3, .int 5), (0, .ref 162), (1, .int 4), (2, .int 23)]) (st2 := [.int 28, .ref 13]) (h2 := h) (dc2 := dc) (ds2 := ds) 3 rfl ?_
                      refine wq_sp1 rfl rfl ?_
                      show wq 161 77 [(3, .int 5), (0, .ref 162), (1, .int 4), (2, .int 23)] [.int 32] h dc ds _
                      refine wq_gos (f := 1) (pc2 := 83) (ls2 := [(3, .int 5), (0, .ref 162), (1, .int 4), (2, .int 23)]) (st2 := [.ref 162]) (h2 := h) (dc2 := dc) (ds2 := ds) 3 rfl ?_
                      refine wq_getf rfl hM rfl rfl ?_
                      refine wq_gos (f := 1) (pc2 := 88) (ls2 := [(3, .int 5), (0, .ref 162), (1, .int 4), (2, .int 23)]) (st2 := [.int ((nI pl) + (5 : Int32))]) (h2 := h) (dc2 := dc) (ds2 := ds) 2 rfl ?_
                      refine wq_vi (show (nI pl) + (5 : Int32) = nI (pl + 5) from nI_add pl 5) ?_
                      refine wq_gos (f := 1) (pc2 := 89) (ls2 := [(3, .int 5), (0, .ref 162), (1, .int 4), (2, .int 23)]) (st2 := [.ref 162, .int (nI (pl + 5))]) (h2 := h) (dc2 := dc) (ds2 := ds) 1 rfl ?_
                      refine wq_getf rfl hM rfl rfl ?_
                      try have q31x := nI_toInt (n := (pl + 5)) (by omega)
                      refine wq_ne2 rfl rfl (fun b32x => ?_) (fun b32x => ?_)
                      · have q33x : (nI (pl + 5)).toInt ≠ (nI at9).toInt := fun q => b32x (Int32.toInt_inj.mp q)
                        refine wq_sp1 rfl rfl ?_
                        refine wq_gos (f := 1) (pc2 := 100) (ls2 := [(3, .int 5), (0, .ref 162), (1, .int 4), (2, .int 23)]) (st2 := [.int 23, .ref 13]) (h2 := h) (dc2 := dc) (ds2 := ds) 1 rfl ?_
                        refine wq_sp1 rfl rfl ?_
                        show wq 161 103 [(3, .int 5), (0, .ref 162), (1, .int 4), (2, .int 23)] [.int 115] h dc ds _
                        refine wq_gos (f := 1) (pc2 := 97) (ls2 := [(2, .int 24), (3, .int 5), (0, .ref 162), (1, .int 4)]) (st2 := []) (h2 := h) (dc2 := dc) (ds2 := ds) 4 rfl ?_
                        refine wq_sp1 rfl rfl ?_
                        refine wq_gos (f := 1) (pc2 := 100) (ls2 := [(2, .int 24), (3, .int 5), (0, .ref 162), (1, .int 4)]) (st2 := [.int 24, .ref 13]) (h2 := h) (dc2 := dc) (ds2 := ds) 1 rfl ?_
                        refine wq_sp1 rfl rfl ?_
                        show wq 161 103 [(2, .int 24), (3, .int 5), (0, .ref 162), (1, .int 4)] [.int 112] h dc ds _
                        refine wq_gos (f := 1) (pc2 := 97) (ls2 := [(2, .int 25), (3, .int 5), (0, .ref 162), (1, .int 4)]) (st2 := []) (h2 := h) (dc2 := dc) (ds2 := ds) 4 rfl ?_
                        refine wq_sp1 rfl rfl ?_
                        refine wq_gos (f := 1) (pc2 := 100) (ls2 := [(2, .int 25), (3, .int 5), (0, .ref 162), (1, .int 4)]) (st2 := [.int 25, .ref 13]) (h2 := h) (dc2 := dc) (ds2 := ds) 1 rfl ?_
                        refine wq_sp1 rfl rfl ?_
                        show wq 161 103 [(2, .int 25), (3, .int 5), (0, .ref 162), (1, .int 4)] [.int 101] h dc ds _
                        refine wq_gos (f := 1) (pc2 := 97) (ls2 := [(2, .int 26), (3, .int 5), (0, .ref 162), (1, .int 4)]) (st2 := []) (h2 := h) (dc2 := dc) (ds2 := ds) 4 rfl ?_
                        refine wq_sp1 rfl rfl ?_
                        refine wq_gos (f := 1) (pc2 := 100) (ls2 := [(2, .int 26), (3, .int 5), (0, .ref 162), (1, .int 4)]) (st2 := [.int 26, .ref 13]) (h2 := h) (dc2 := dc) (ds2 := ds) 1 rfl ?_
                        refine wq_sp1 rfl rfl ?_
                        show wq 161 103 [(2, .int 26), (3, .int 5), (0, .ref 162), (1, .int 4)] [.int 101] h dc ds _
                        refine wq_gos (f := 1) (pc2 := 97) (ls2 := [(2, .int 27), (3, .int 5), (0, .ref 162), (1, .int 4)]) (st2 := []) (h2 := h) (dc2 := dc) (ds2 := ds) 4 rfl ?_
                        refine wq_sp1 rfl rfl ?_
                        refine wq_gos (f := 1) (pc2 := 100) (ls2 := [(2, .int 27), (3, .int 5), (0, .ref 162), (1, .int 4)]) (st2 := [.int 27, .ref 13]) (h2 := h) (dc2 := dc) (ds2 := ds) 1 rfl ?_
                        refine wq_sp1 rfl rfl ?_
                        show wq 161 103 [(2, .int 27), (3, .int 5), (0, .ref 162), (1, .int 4)] [.int 100] h dc ds _
                        refine wq_gos (f := 1) (pc2 := 97) (ls2 := [(2, .int 28), (3, .int 5), (0, .ref 162), (1, .int 4)]) (st2 := []) (h2 := h) (dc2 := dc) (ds2 := ds) 4 rfl ?_
                        refine wq_sp1 rfl rfl ?_
                        refine wq_gos (f := 1) (pc2 := 100) (ls2 := [(2, .int 28), (3, .int 5), (0, .ref 162), (1, .int 4)]) (st2 := [.int 28, .ref 13]) (h2 := h) (dc2 := dc) (ds2 := ds) 1 rfl ?_
                        refine wq_sp1 rfl rfl ?_
                        show wq 161 103 [(2, .int 28), (3, .int 5), (0, .ref 162), (1, .int 4)] [.int 32] h dc ds _
                        refine wq_gos (f := 1) (pc2 := 4) (ls2 := [(1, .int 5), (2, .int 29), (3, .int 5), (0, .ref 162)]) (st2 := []) (h2 := h) (dc2 := dc) (ds2 := ds) 5 rfl ?_
                        refine wq_ls [(0, .ref 162), (1, .int 5), (2, .int 29)] (show ([0, 1, 2] : List Nat).Nodup by decide) ⟨rfl, rfl, rfl, trivial⟩ ?_
                        exact kN (by unfold mWs4; rw [if_neg (Int.not_le.mpr b3x), if_neg (fun q => q b5x), if_neg (Int.not_le.mpr b9x), if_neg (fun q => q b11x), if_neg (Int.not_le.mpr b15x), if_neg (fun q => q b17x), if_neg (Int.not_le.mpr b21x), if_neg (fun q => q b22x), if_neg (Int.not_le.mpr b26x), if_neg (fun q => q b28x), if_pos b32x])
                      · have q34x : (nI (pl + 5)).toInt = (nI at9).toInt := congrArg Int32.toInt b32x
                        refine wq_gos (f := 1) (pc2 := 96) (ls2 := [(3, .int 5), (0, .ref 162), (1, .int 4), (2, .int 23)]) (st2 := [.int 4]) (h2 := h) (dc2 := dc) (ds2 := ds) 1 rfl ?_
                        exact wq_ret rfl rfl (kR (by unfold mWs4; rw [if_neg (Int.not_le.mpr b3x), if_neg (fun q => q b5x), if_neg (Int.not_le.mpr b9x), if_neg (fun q => q b11x), if_neg (Int.not_le.mpr b15x), if_neg (fun q => q b17x), if_neg (Int.not_le.mpr b21x), if_neg (fun q => q b22x), if_neg (Int.not_le.mpr b26x), if_neg (fun q => q b28x), if_neg (fun q => q b32x)]))
noncomputable def mWs5 (tb : List Int32) (at9 pl : Nat) : Nat := (if (nI at9).toInt ≤ (nI (pl + 0)).toInt then 0 else (if (tb.getD (pl + 0) 0) ≠ (98 : Int32) then 0 else (if (nI at9).toInt ≤ (nI (pl + 1)).toInt then 0 else (if (tb.getD (pl + 1) 0) ≠ (108 : Int32) then 0 else (if (nI at9).toInt ≤ (nI (pl + 2)).toInt then 0 else (if (tb.getD (pl + 2) 0) ≠ (101 : Int32) then 0 else (if (nI at9).toInt ≤ (nI (pl + 3)).toInt then 0 else (if (tb.getD (pl + 3) 0) ≠ (110 : Int32) then 0 else (if (nI at9).toInt ≤ (nI (pl + 4)).toInt then 0 else (if (tb.getD (pl + 4) 0) ≠ (100 : Int32) then 0 else (if (nI (pl + 5)) ≠ (nI at9) then 0 else 1)))))))))))
set_option maxRecDepth 100000 in
set_option maxHeartbeats 4000000 in
theorem m_w5 {h : zH} {Q : zR → Prop} {dc ds : Nat} {n0 n2 n14 n22 n23 n27 n28 n32 n33 n34 n35 n39 n52 : Int32} {sz at9 pl : Nat} {so va ft fp : Int32} {tb : List Int32} (hM : zat h 162 = some (.inr (.inr (.inr (10, mO n0 n2 n14 (nI sz) (nI at9) (nI pl) so va ft fp n22 n23 n27 n28 n32 n33 n34 n35 n39 n52))))) (hT : zat h 164 = some (.inl (0, 700, tb))) (hsz : sz ≤ 700) (ha : at9 ≤ sz) (hp : pl ≤ at9) (kN : ((mWs5 tb at9 pl) = 0) → wq 161 4 [(0, .ref 162), (1, .int 6), (2, .int 35)] [] h dc ds Q) (kR : ((mWs5 tb at9 pl) = 1) → Q (some (.int 5), h, dc, ds)) : wq 161 4 [(0, .ref 162), (1, .int 5), (2, .int 29)] [] h dc ds Q := by
  have qnat9 := nI_toInt (n := at9) (by omega)
  have qnpl := nI_toInt (n := pl) (by omega)
  have qp0 := nI_toInt (n := pl + 0) (by omega)
  have qp1 := nI_toInt (n := pl + 1) (by omega)
  have qp2 := nI_toInt (n := pl + 2) (by omega)
  have qp3 := nI_toInt (n := pl + 3) (by omega)
  have qp4 := nI_toInt (n := pl + 4) (by omega)
  have qp5 := nI_toInt (n := pl + 5) (by omega)
  have qp6 := nI_toInt (n := pl + 6) (by omega)
  have qp7 := nI_toInt (n := pl + 7) (by omega)
  refine wq_gos (f := 1) (pc2 := 5) (ls2 := [(0, .ref 162), (1, .int 5), (2, .int 29)]) (st2 := [.int 29]) (h2 := h) (dc2 := dc) (ds2 := ds) 1 rfl ?_
  refine wq_sp1 rfl rfl ?_
  refine wq_sp1 rfl rfl ?_
  refine wq_gos (f := 1) (pc2 := 15) (ls2 := [(3, .int 0), (0, .ref 162), (1, .int 5), (2, .int 29)]) (st2 := []) (h2 := h) (dc2 := dc) (ds2 := ds) 3 rfl ?_
  refine wq_sp1 rfl rfl ?_
  refine wq_gos (f := 1) (pc2 := 20) (ls2 := [(3, .int 0), (0, .ref 162), (1, .int 5), (2, .int 29)]) (st2 := [.int 29, .ref 13]) (h2 := h) (dc2 := dc) (ds2 := ds) 3 rfl ?_
  refine wq_sp1 rfl rfl ?_
  show wq 161 23 [(3, .int 0), (0, .ref 162), (1, .int 5), (2, .int 29)] [.int 98] h dc ds _
  refine wq_gos (f := 1) (pc2 := 29) (ls2 := [(3, .int 0), (0, .ref 162), (1, .int 5), (2, .int 29)]) (st2 := [.ref 162]) (h2 := h) (dc2 := dc) (ds2 := ds) 3 rfl ?_
  refine wq_getf rfl hM rfl rfl ?_
  refine wq_gos (f := 1) (pc2 := 34) (ls2 := [(3, .int 0), (0, .ref 162), (1, .int 5), (2, .int 29)]) (st2 := [.int ((nI pl) + (0 : Int32))]) (h2 := h) (dc2 := dc) (ds2 := ds) 2 rfl ?_
  refine wq_vi (show (nI pl) + (0 : Int32) = nI (pl + 0) from nI_add pl 0) ?_
  refine wq_gos (f := 1) (pc2 := 35) (ls2 := [(3, .int 0), (0, .ref 162), (1, .int 5), (2, .int 29)]) (st2 := [.ref 162, .int (nI (pl + 0))]) (h2 := h) (dc2 := dc) (ds2 := ds) 1 rfl ?_
  refine wq_getf rfl hM rfl rfl ?_
  try have q1x := nI_toInt (n := (pl + 0)) (by omega)
  try have q2x := nI_toInt (n := at9) (by omega)
  refine wq_ge2 rfl rfl (fun b3x => ?_) (fun b3x => ?_)
  · refine wq_sp1 rfl rfl ?_
    refine wq_gos (f := 1) (pc2 := 74) (ls2 := [(3, .int 0), (0, .ref 162), (1, .int 5), (2, .int 29)]) (st2 := [.int 29, .ref 13]) (h2 := h) (dc2 := dc) (ds2 := ds) 3 rfl ?_
    refine wq_sp1 rfl rfl ?_
    show wq 161 77 [(3, .int 0), (0, .ref 162), (1, .int 5), (2, .int 29)] [.int 98] h dc ds _
    refine wq_gos (f := 1) (pc2 := 97) (ls2 := [(3, .int 0), (0, .ref 162), (1, .int 5), (2, .int 29)]) (st2 := []) (h2 := h) (dc2 := dc) (ds2 := ds) 2 rfl ?_
    refine wq_sp1 rfl rfl ?_
    refine wq_gos (f := 1) (pc2 := 100) (ls2 := [(3, .int 0), (0, .ref 162), (1, .int 5), (2, .int 29)]) (st2 := [.int 29, .ref 13]) (h2 := h) (dc2 := dc) (ds2 := ds) 1 rfl ?_
    refine wq_sp1 rfl rfl ?_
    show wq 161 103 [(3, .int 0), (0, .ref 162), (1, .int 5), (2, .int 29)] [.int 98] h dc ds _
    refine wq_gos (f := 1) (pc2 := 97) (ls2 := [(2, .int 30), (3, .int 0), (0, .ref 162), (1, .int 5)]) (st2 := []) (h2 := h) (dc2 := dc) (ds2 := ds) 4 rfl ?_
    refine wq_sp1 rfl rfl ?_
    refine wq_gos (f := 1) (pc2 := 100) (ls2 := [(2, .int 30), (3, .int 0), (0, .ref 162), (1, .int 5)]) (st2 := [.int 30, .ref 13]) (h2 := h) (dc2 := dc) (ds2 := ds) 1 rfl ?_
    refine wq_sp1 rfl rfl ?_
    show wq 161 103 [(2, .int 30), (3, .int 0), (0, .ref 162), (1, .int 5)] [.int 108] h dc ds _
    refine wq_gos (f := 1) (pc2 := 97) (ls2 := [(2, .int 31), (3, .int 0), (0, .ref 162), (1, .int 5)]) (st2 := []) (h2 := h) (dc2 := dc) (ds2 := ds) 4 rfl ?_
    refine wq_sp1 rfl rfl ?_
    refine wq_gos (f := 1) (pc2 := 100) (ls2 := [(2, .int 31), (3, .int 0), (0, .ref 162), (1, .int 5)]) (st2 := [.int 31, .ref 13]) (h2 := h) (dc2 := dc) (ds2 := ds) 1 rfl ?_
    refine wq_sp1 rfl rfl ?_
    show wq 161 103 [(2, .int 31), (3, .int 0), (0, .ref 162), (1, .int 5)] [.int 101] h dc ds _
    refine wq_gos (f := 1) (pc2 := 97) (ls2 := [(2, .int 32), (3, .int 0), (0, .ref 162), (1, .int 5)]) (st2 := []) (h2 := h) (dc2 := dc) (ds2 := ds) 4 rfl ?_
    refine wq_sp1 rfl rfl ?_
    refine wq_gos (f := 1) (pc2 := 100) (ls2 := [(2, .int 32), (3, .int 0), (0, .ref 162), (1, .int 5)]) (st2 := [.int 32, .ref 13]) (h2 := h) (dc2 := dc) (ds2 := ds) 1 rfl ?_
    refine wq_sp1 rfl rfl ?_
    show wq 161 103 [(2, .int 32), (3, .int 0), (0, .ref 162), (1, .int 5)] [.int 110] h dc ds _
    refine wq_gos (f := 1) (pc2 := 97) (ls2 := [(2, .int 33), (3, .int 0), (0, .ref 162), (1, .int 5)]) (st2 := []) (h2 := h) (dc2 := dc) (ds2 := ds) 4 rfl ?_
    refine wq_sp1 rfl rfl ?_
    refine wq_gos (f := 1) (pc2 := 100) (ls2 := [(2, .int 33), (3, .int 0), (0, .ref 162), (1, .int 5)]) (st2 := [.int 33, .ref 13]) (h2 := h) (dc2 := dc) (ds2 := ds) 1 rfl ?_
    refine wq_sp1 rfl rfl ?_
    show wq 161 103 [(2, .int 33), (3, .int 0), (0, .ref 162), (1, .int 5)] [.int 100] h dc ds _
    refine wq_gos (f := 1) (pc2 := 97) (ls2 := [(2, .int 34), (3, .int 0), (0, .ref 162), (1, .int 5)]) (st2 := []) (h2 := h) (dc2 := dc) (ds2 := ds) 4 rfl ?_
    refine wq_sp1 rfl rfl ?_
    refine wq_gos (f := 1) (pc2 := 100) (ls2 := [(2, .int 34), (3, .int 0), (0, .ref 162), (1, .int 5)]) (st2 := [.int 34, .ref 13]) (h2 := h) (dc2 := dc) (ds2 := ds) 1 rfl ?_
    refine wq_sp1 rfl rfl ?_
    show wq 161 103 [(2, .int 34), (3, .int 0), (0, .ref 162), (1, .int 5)] [.int 32] h dc ds _
    refine wq_gos (f := 1) (pc2 := 4) (ls2 := [(1, .int 6), (2, .int 35), (3, .int 0), (0, .ref 162)]) (st2 := []) (h2 := h) (dc2 := dc) (ds2 := ds) 5 rfl ?_
    refine wq_ls [(0, .ref 162), (1, .int 6), (2, .int 35)] (show ([0, 1, 2] : List Nat).Nodup by decide) ⟨rfl, rfl, rfl, trivial⟩ ?_
    exact kN (by unfold mWs5; rw [if_pos b3x])
  · refine wq_gos (f := 1) (pc2 := 42) (ls2 := [(3, .int 0), (0, .ref 162), (1, .int 5), (2, .int 29)]) (st2 := [.ref 162]) (h2 := h) (dc2 := dc) (ds2 := ds) 1 rfl ?_
    refine wq_getf rfl hM rfl rfl ?_
    refine wq_gos (f := 1) (pc2 := 46) (ls2 := [(3, .int 0), (0, .ref 162), (1, .int 5), (2, .int 29)]) (st2 := [.ref 162, .ref 164]) (h2 := h) (dc2 := dc) (ds2 := ds) 1 rfl ?_
    refine wq_getf rfl hM rfl rfl ?_
    refine wq_gos (f := 1) (pc2 := 51) (ls2 := [(3, .int 0), (0, .ref 162), (1, .int 5), (2, .int 29)]) (st2 := [.int ((nI pl) + (0 : Int32)), .ref 164]) (h2 := h) (dc2 := dc) (ds2 := ds) 2 rfl ?_
    refine wq_vi (show (nI pl) + (0 : Int32) = nI (pl + 0) from nI_add pl 0) ?_
    refine wq_ialdn rfl hT (by first | omega | exact zin_t (by omega) (by omega)) (by decide) rfl ?_
    refine wq_sp1 rfl rfl ?_
    refine wq_gos (f := 1) (pc2 := 57) (ls2 := [(3, .int 0), (0, .ref 162), (1, .int 5), (2, .int 29)]) (st2 := [.int 29, .ref 13, .int (tb.getD (pl + 0) 0)]) (h2 := h) (dc2 := dc) (ds2 := ds) 3 rfl ?_
    refine wq_sp1 rfl rfl ?_
    show wq 161 60 [(3, .int 0), (0, .ref 162), (1, .int 5), (2, .int 29)] [.int 98, .int (tb.getD (pl + 0) 0)] h dc ds _
    have q4x : (98 : Int32).toInt = 98 := rfl
    refine wq_ne2 rfl rfl (fun b5x => ?_) (fun b5x => ?_)
    · have q6x : (tb.getD (pl + 0) 0).toInt ≠ 98 := fun q => b5x (Int32.toInt_inj.mp q)
      refine wq_sp1 rfl rfl ?_
      refine wq_gos (f := 1) (pc2 := 74) (ls2 := [(3, .int 0), (0, .ref 162), (1, .int 5), (2, .int 29)]) (st2 := [.int 29, .ref 13]) (h2 := h) (dc2 := dc) (ds2 := ds) 3 rfl ?_
      refine wq_sp1 rfl rfl ?_
      show wq 161 77 [(3, .int 0), (0, .ref 162), (1, .int 5), (2, .int 29)] [.int 98] h dc ds _
      refine wq_gos (f := 1) (pc2 := 97) (ls2 := [(3, .int 0), (0, .ref 162), (1, .int 5), (2, .int 29)]) (st2 := []) (h2 := h) (dc2 := dc) (ds2 := ds) 2 rfl ?_
      refine wq_sp1 rfl rfl ?_
      refine wq_gos (f := 1) (pc2 := 100) (ls2 := [(3, .int 0), (0, .ref 162), (1, .int 5), (2, .int 29)]) (st2 := [.int 29, .ref 13]) (h2 := h) (dc2 := dc) (ds2 := ds) 1 rfl ?_
      refine wq_sp1 rfl rfl ?_
      show wq 161 103 [(3, .int 0), (0, .ref 162), (1, .int 5), (2, .int 29)] [.int 98] h dc ds _
      refine wq_gos (f := 1) (pc2 := 97) (ls2 := [(2, .int 30), (3, .int 0), (0, .ref 162), (1, .int 5)]) (st2 := []) (h2 := h) (dc2 := dc) (ds2 := ds) 4 rfl ?_
      refine wq_sp1 rfl rfl ?_
      refine wq_gos (f := 1) (pc2 := 100) (ls2 := [(2, .int 30), (3, .int 0), (0, .ref 162), (1, .int 5)]) (st2 := [.int 30, .ref 13]) (h2 := h) (dc2 := dc) (ds2 := ds) 1 rfl ?_
      refine wq_sp1 rfl rfl ?_
      show wq 161 103 [(2, .int 30), (3, .int 0), (0, .ref 162), (1, .int 5)] [.int 108] h dc ds _
      refine wq_gos (f := 1) (pc2 := 97) (ls2 := [(2, .int 31), (3, .int 0), (0, .ref 162), (1, .int 5)]) (st2 := []) (h2 := h) (dc2 := dc) (ds2 := ds) 4 rfl ?_
      refine wq_sp1 rfl rfl ?_
      refine wq_gos (f := 1) (pc2 := 100) (ls2 := [(2, .int 31), (3, .int 0), (0, .ref 162), (1, .int 5)]) (st2 := [.int 31, .ref 13]) (h2 := h) (dc2 := dc) (ds2 := ds) 1 rfl ?_
      refine wq_sp1 rfl rfl ?_
      show wq 161 103 [(2, .int 31), (3, .int 0), (0, .ref 162), (1, .int 5)] [.int 101] h dc ds _
      refine wq_gos (f := 1) (pc2 := 97) (ls2 := [(2, .int 32), (3, .int 0), (0, .ref 162), (1, .int 5)]) (st2 := []) (h2 := h) (dc2 := dc) (ds2 := ds) 4 rfl ?_
      refine wq_sp1 rfl rfl ?_
      refine wq_gos (f := 1) (pc2 := 100) (ls2 := [(2, .int 32), (3, .int 0), (0, .ref 162), (1, .int 5)]) (st2 := [.int 32, .ref 13]) (h2 := h) (dc2 := dc) (ds2 := ds) 1 rfl ?_
      refine wq_sp1 rfl rfl ?_
      show wq 161 103 [(2, .int 32), (3, .int 0), (0, .ref 162), (1, .int 5)] [.int 110] h dc ds _
      refine wq_gos (f := 1) (pc2 := 97) (ls2 := [(2, .int 33), (3, .int 0), (0, .ref 162), (1, .int 5)]) (st2 := []) (h2 := h) (dc2 := dc) (ds2 := ds) 4 rfl ?_
      refine wq_sp1 rfl rfl ?_
      refine wq_gos (f := 1) (pc2 := 100) (ls2 := [(2, .int 33), (3, .int 0), (0, .ref 162), (1, .int 5)]) (st2 := [.int 33, .ref 13]) (h2 := h) (dc2 := dc) (ds2 := ds) 1 rfl ?_
      refine wq_sp1 rfl rfl ?_
      show wq 161 103 [(2, .int 33), (3, .int 0), (0, .ref 162), (1, .int 5)] [.int 100] h dc ds _
      refine wq_gos (f := 1) (pc2 := 97) (ls2 := [(2, .int 34), (3, .int 0), (0, .ref 162), (1, .int 5)]) (st2 := []) (h2 := h) (dc2 := dc) (ds2 := ds) 4 rfl ?_
      refine wq_sp1 rfl rfl ?_
      refine wq_gos (f := 1) (pc2 := 100) (ls2 := [(2, .int 34), (3, .int 0), (0, .ref 162), (1, .int 5)]) (st2 := [.int 34, .ref 13]) (h2 := h) (dc2 := dc) (ds2 := ds) 1 rfl ?_
      refine wq_sp1 rfl rfl ?_
      show wq 161 103 [(2, .int 34), (3, .int 0), (0, .ref 162), (1, .int 5)] [.int 32] h dc ds _
      refine wq_gos (f := 1) (pc2 := 4) (ls2 := [(1, .int 6), (2, .int 35), (3, .int 0), (0, .ref 162)]) (st2 := []) (h2 := h) (dc2 := dc) (ds2 := ds) 5 rfl ?_
      refine wq_ls [(0, .ref 162), (1, .int 6), (2, .int 35)] (show ([0, 1, 2] : List Nat).Nodup by decide) ⟨rfl, rfl, rfl, trivial⟩ ?_
      exact kN (by unfold mWs5; rw [if_neg (Int.not_le.mpr b3x), if_pos b5x])
    · have q7x : (tb.getD (pl + 0) 0).toInt = 98 := congrArg Int32.toInt b5x
      refine wq_gos (f := 1) (pc2 := 15) (ls2 := [(3, .int 1), (0, .ref 162), (1, .int 5), (2, .int 29)]) (st2 := []) (h2 := h) (dc2 := dc) (ds2 := ds) 2 rfl ?_
      refine wq_sp1 rfl rfl ?_
      refine wq_gos (f := 1) (pc2 := 20) (ls2 := [(3, .int 1), (0, .ref 162), (1, .int 5), (2, .int 29)]) (st2 := [.int 30, .ref 13]) (h2 := h) (dc2 := dc) (ds2 := ds) 3 rfl ?_
      refine wq_sp1 rfl rfl ?_
      show wq 161 23 [(3, .int 1), (0, .ref 162), (1, .int 5), (2, .int 29)] [.int 108] h dc ds _
      refine wq_gos (f := 1) (pc2 := 29) (ls2 := [(3, .int 1), (0, .ref 162), (1, .int 5), (2, .int 29)]) (st2 := [.ref 162]) (h2 := h) (dc2 := dc) (ds2 := ds) 3 rfl ?_
      refine wq_getf rfl hM rfl rfl ?_
      refine wq_gos (f := 1) (pc2 := 34) (ls2 := [(3, .int 1), (0, .ref 162), (1, .int 5), (2, .int 29)]) (st2 := [.int ((nI pl) + (1 : Int32))]) (h2 := h) (dc2 := dc) (ds2 := ds) 2 rfl ?_
      refine wq_vi (show (nI pl) + (1 : Int32) = nI (pl + 1) from nI_add pl 1) ?_
      refine wq_gos (f := 1) (pc2 := 35) (ls2 := [(3, .int 1), (0, .ref 162), (1, .int 5), (2, .int 29)]) (st2 := [.ref 162, .int (nI (pl + 1))]) (h2 := h) (dc2 := dc) (ds2 := ds) 1 rfl ?_
      refine wq_getf rfl hM rfl rfl ?_
      try have q8x := nI_toInt (n := (pl + 1)) (by omega)
      refine wq_ge2 rfl rfl (fun b9x => ?_) (fun b9x => ?_)
      · refine wq_sp1 rfl rfl ?_
        refine wq_gos (f := 1) (pc2 := 74) (ls2 := [(3, .int 1), (0, .ref 162), (1, .int 5), (2, .int 29)]) (st2 := [.int 30, .ref 13]) (h2 := h) (dc2 := dc) (ds2 := ds) 3 rfl ?_
        refine wq_sp1 rfl rfl ?_
        show wq 161 77 [(3, .int 1), (0, .ref 162), (1, .int 5), (2, .int 29)] [.int 108] h dc ds _
        refine wq_gos (f := 1) (pc2 := 97) (ls2 := [(3, .int 1), (0, .ref 162), (1, .int 5), (2, .int 29)]) (st2 := []) (h2 := h) (dc2 := dc) (ds2 := ds) 2 rfl ?_
        refine wq_sp1 rfl rfl ?_
        refine wq_gos (f := 1) (pc2 := 100) (ls2 := [(3, .int 1), (0, .ref 162), (1, .int 5), (2, .int 29)]) (st2 := [.int 29, .ref 13]) (h2 := h) (dc2 := dc) (ds2 := ds) 1 rfl ?_
        refine wq_sp1 rfl rfl ?_
        show wq 161 103 [(3, .int 1), (0, .ref 162), (1, .int 5), (2, .int 29)] [.int 98] h dc ds _
        refine wq_gos (f := 1) (pc2 := 97) (ls2 := [(2, .int 30), (3, .int 1), (0, .ref 162), (1, .int 5)]) (st2 := []) (h2 := h) (dc2 := dc) (ds2 := ds) 4 rfl ?_
        refine wq_sp1 rfl rfl ?_
        refine wq_gos (f := 1) (pc2 := 100) (ls2 := [(2, .int 30), (3, .int 1), (0, .ref 162), (1, .int 5)]) (st2 := [.int 30, .ref 13]) (h2 := h) (dc2 := dc) (ds2 := ds) 1 rfl ?_
        refine wq_sp1 rfl rfl ?_
        show wq 161 103 [(2, .int 30), (3, .int 1), (0, .ref 162), (1, .int 5)] [.int 108] h dc ds _
        refine wq_gos (f := 1) (pc2 := 97) (ls2 := [(2, .int 31), (3, .int 1), (0, .ref 162), (1, .int 5)]) (st2 := []) (h2 := h) (dc2 := dc) (ds2 := ds) 4 rfl ?_
        refine wq_sp1 rfl rfl ?_
        refine wq_gos (f := 1) (pc2 := 100) (ls2 := [(2, .int 31), (3, .int 1), (0, .ref 162), (1, .int 5)]) (st2 := [.int 31, .ref 13]) (h2 := h) (dc2 := dc) (ds2 := ds) 1 rfl ?_
        refine wq_sp1 rfl rfl ?_
        show wq 161 103 [(2, .int 31), (3, .int 1), (0, .ref 162), (1, .int 5)] [.int 101] h dc ds _
        refine wq_gos (f := 1) (pc2 := 97) (ls2 := [(2, .int 32), (3, .int 1), (0, .ref 162), (1, .int 5)]) (st2 := []) (h2 := h) (dc2 := dc) (ds2 := ds) 4 rfl ?_
        refine wq_sp1 rfl rfl ?_
        refine wq_gos (f := 1) (pc2 := 100) (ls2 := [(2, .int 32), (3, .int 1), (0, .ref 162), (1, .int 5)]) (st2 := [.int 32, .ref 13]) (h2 := h) (dc2 := dc) (ds2 := ds) 1 rfl ?_
        refine wq_sp1 rfl rfl ?_
        show wq 161 103 [(2, .int 32), (3, .int 1), (0, .ref 162), (1, .int 5)] [.int 110] h dc ds _
        refine wq_gos (f := 1) (pc2 := 97) (ls2 := [(2, .int 33), (3, .int 1), (0, .ref 162), (1, .int 5)]) (st2 := []) (h2 := h) (dc2 := dc) (ds2 := ds) 4 rfl ?_
        refine wq_sp1 rfl rfl ?_
        refine wq_gos (f := 1) (pc2 := 100) (ls2 := [(2, .int 33), (3, .int 1), (0, .ref 162), (1, .int 5)]) (st2 := [.int 33, .ref 13]) (h2 := h) (dc2 := dc) (ds2 := ds) 1 rfl ?_
        refine wq_sp1 rfl rfl ?_
        show wq 161 103 [(2, .int 33), (3, .int 1), (0, .ref 162), (1, .int 5)] [.int 100] h dc ds _
        refine wq_gos (f := 1) (pc2 := 97) (ls2 := [(2, .int 34), (3, .int 1), (0, .ref 162), (1, .int 5)]) (st2 := []) (h2 := h) (dc2 := dc) (ds2 := ds) 4 rfl ?_
        refine wq_sp1 rfl rfl ?_
        refine wq_gos (f := 1) (pc2 := 100) (ls2 := [(2, .int 34), (3, .int 1), (0, .ref 162), (1, .int 5)]) (st2 := [.int 34, .ref 13]) (h2 := h) (dc2 := dc) (ds2 := ds) 1 rfl ?_
        refine wq_sp1 rfl rfl ?_
        show wq 161 103 [(2, .int 34), (3, .int 1), (0, .ref 162), (1, .int 5)] [.int 32] h dc ds _
        refine wq_gos (f := 1) (pc2 := 4) (ls2 := [(1, .int 6), (2, .int 35), (3, .int 1), (0, .ref 162)]) (st2 := []) (h2 := h) (dc2 := dc) (ds2 := ds) 5 rfl ?_
        refine wq_ls [(0, .ref 162), (1, .int 6), (2, .int 35)] (show ([0, 1, 2] : List Nat).Nodup by decide) ⟨rfl, rfl, rfl, trivial⟩ ?_
        exact kN (by unfold mWs5; rw [if_neg (Int.not_le.mpr b3x), if_neg (fun q => q b5x), if_pos b9x])
      · refine wq_gos (f := 1) (pc2 := 42) (ls2 := [(3, .int 1), (0, .ref 162), (1, .int 5), (2, .int 29)]) (st2 := [.ref 162]) (h2 := h) (dc2 := dc) (ds2 := ds) 1 rfl ?_
        refine wq_getf rfl hM rfl rfl ?_
        refine wq_gos (f := 1) (pc2 := 46) (ls2 := [(3, .int 1), (0, .ref 162), (1, .int 5), (2, .int 29)]) (st2 := [.ref 162, .ref 164]) (h2 := h) (dc2 := dc) (ds2 := ds) 1 rfl ?_
        refine wq_getf rfl hM rfl rfl ?_
        refine wq_gos (f := 1) (pc2 := 51) (ls2 := [(3, .int 1), (0, .ref 162), (1, .int 5), (2, .int 29)]) (st2 := [.int ((nI pl) + (1 : Int32)), .ref 164]) (h2 := h) (dc2 := dc) (ds2 := ds) 2 rfl ?_
        refine wq_vi (show (nI pl) + (1 : Int32) = nI (pl + 1) from nI_add pl 1) ?_
        refine wq_ialdn rfl hT (by first | omega | exact zin_t (by omega) (by omega)) (by decide) rfl ?_
        refine wq_sp1 rfl rfl ?_
        refine wq_gos (f := 1) (pc2 := 57) (ls2 := [(3, .int 1), (0, .ref 162), (1, .int 5), (2, .int 29)]) (st2 := [.int 30, .ref 13, .int (tb.getD (pl + 1) 0)]) (h2 := h) (dc2 := dc) (ds2 := ds) 3 rfl ?_
        refine wq_sp1 rfl rfl ?_
        show wq 161 60 [(3, .int 1), (0, .ref 162), (1, .int 5), (2, .int 29)] [.int 108, .int (tb.getD (pl + 1) 0)] h dc ds _
        have q10x : (108 : Int32).toInt = 108 := rfl
        refine wq_ne2 rfl rfl (fun b11x => ?_) (fun b11x => ?_)
        · have q12x : (tb.getD (pl + 1) 0).toInt ≠ 108 := fun q => b11x (Int32.toInt_inj.mp q)
          refine wq_sp1 rfl rfl ?_
          refine wq_gos (f := 1) (pc2 := 74) (ls2 := [(3, .int 1), (0, .ref 162), (1, .int 5), (2, .int 29)]) (st2 := [.int 30, .ref 13]) (h2 := h) (dc2 := dc) (ds2 := ds) 3 rfl ?_
          refine wq_sp1 rfl rfl ?_
          show wq 161 77 [(3, .int 1), (0, .ref 162), (1, .int 5), (2, .int 29)] [.int 108] h dc ds _
          refine wq_gos (f := 1) (pc2 := 97) (ls2 := [(3, .int 1), (0, .ref 162), (1, .int 5), (2, .int 29)]) (st2 := []) (h2 := h) (dc2 := dc) (ds2 := ds) 2 rfl ?_
          refine wq_sp1 rfl rfl ?_
          refine wq_gos (f := 1) (pc2 := 100) (ls2 := [(3, .int 1), (0, .ref 162), (1, .int 5), (2, .int 29)]) (st2 := [.int 29, .ref 13]) (h2 := h) (dc2 := dc) (ds2 := ds) 1 rfl ?_
          refine wq_sp1 rfl rfl ?_
          show wq 161 103 [(3, .int 1), (0, .ref 162), (1, .int 5), (2, .int 29)] [.int 98] h dc ds _
          refine wq_gos (f := 1) (pc2 := 97) (ls2 := [(2, .int 30), (3, .int 1), (0, .ref 162), (1, .int 5)]) (st2 := []) (h2 := h) (dc2 := dc) (ds2 := ds) 4 rfl ?_
          refine wq_sp1 rfl rfl ?_
          refine wq_gos (f := 1) (pc2 := 100) (ls2 := [(2, .int 30), (3, .int 1), (0, .ref 162), (1, .int 5)]) (st2 := [.int 30, .ref 13]) (h2 := h) (dc2 := dc) (ds2 := ds) 1 rfl ?_
          refine wq_sp1 rfl rfl ?_
          show wq 161 103 [(2, .int 30), (3, .int 1), (0, .ref 162), (1, .int 5)] [.int 108] h dc ds _
          refine wq_gos (f := 1) (pc2 := 97) (ls2 := [(2, .int 31), (3, .int 1), (0, .ref 162), (1, .int 5)]) (st2 := []) (h2 := h) (dc2 := dc) (ds2 := ds) 4 rfl ?_
          refine wq_sp1 rfl rfl ?_
          refine wq_gos (f := 1) (pc2 := 100) (ls2 := [(2, .int 31), (3, .int 1), (0, .ref 162), (1, .int 5)]) (st2 := [.int 31, .ref 13]) (h2 := h) (dc2 := dc) (ds2 := ds) 1 rfl ?_
          refine wq_sp1 rfl rfl ?_
          show wq 161 103 [(2, .int 31), (3, .int 1), (0, .ref 162), (1, .int 5)] [.int 101] h dc ds _
          refine wq_gos (f := 1) (pc2 := 97) (ls2 := [(2, .int 32), (3, .int 1), (0, .ref 162), (1, .int 5)]) (st2 := []) (h2 := h) (dc2 := dc) (ds2 := ds) 4 rfl ?_
          refine wq_sp1 rfl rfl ?_
          refine wq_gos (f := 1) (pc2 := 100) (ls2 := [(2, .int 32), (3, .int 1), (0, .ref 162), (1, .int 5)]) (st2 := [.int 32, .ref 13]) (h2 := h) (dc2 := dc) (ds2 := ds) 1 rfl ?_
          refine wq_sp1 rfl rfl ?_
          show wq 161 103 [(2, .int 32), (3, .int 1), (0, .ref 162), (1, .int 5)] [.int 110] h dc ds _
          refine wq_gos (f := 1) (pc2 := 97) (ls2 := [(2, .int 33), (3, .int 1), (0, .ref 162), (1, .int 5)]) (st2 := []) (h2 := h) (dc2 := dc) (ds2 := ds) 4 rfl ?_
          refine wq_sp1 rfl rfl ?_
          refine wq_gos (f := 1) (pc2 := 100) (ls2 := [(2, .int 33), (3, .int 1), (0, .ref 162), (1, .int 5)]) (st2 := [.int 33, .ref 13]) (h2 := h) (dc2 := dc) (ds2 := ds) 1 rfl ?_
          refine wq_sp1 rfl rfl ?_
          show wq 161 103 [(2, .int 33), (3, .int 1), (0, .ref 162), (1, .int 5)] [.int 100] h dc ds _
          refine wq_gos (f := 1) (pc2 := 97) (ls2 := [(2, .int 34), (3, .int 1), (0, .ref 162), (1, .int 5)]) (st2 := []) (h2 := h) (dc2 := dc) (ds2 := ds) 4 rfl ?_
          refine wq_sp1 rfl rfl ?_
          refine wq_gos (f := 1) (pc2 := 100) (ls2 := [(2, .int 34), (3, .int 1), (0, .ref 162), (1, .int 5)]) (st2 := [.int 34, .ref 13]) (h2 := h) (dc2 := dc) (ds2 := ds) 1 rfl ?_
          refine wq_sp1 rfl rfl ?_
          show wq 161 103 [(2, .int 34), (3, .int 1), (0, .ref 162), (1, .int 5)] [.int 32] h dc ds _
          refine wq_gos (f := 1) (pc2 := 4) (ls2 := [(1, .int 6), (2, .int 35), (3, .int 1), (0, .ref 162)]) (st2 := []) (h2 := h) (dc2 := dc) (ds2 := ds) 5 rfl ?_
          refine wq_ls [(0, .ref 162), (1, .int 6), (2, .int 35)] (show ([0, 1, 2] : List Nat).Nodup by decide) ⟨rfl, rfl, rfl, trivial⟩ ?_
          exact kN (by unfold mWs5; rw [if_neg (Int.not_le.mpr b3x), if_neg (fun q => q b5x), if_neg (Int.not_le.mpr b9x), if_pos b11x])
        · have q13x : (tb.getD (pl + 1) 0).toInt = 108 := congrArg Int32.toInt b11x
          refine wq_gos (f := 1) (pc2 := 15) (ls2 := [(3, .int 2), (0, .ref 162), (1, .int 5), (2, .int 29)]) (st2 := []) (h2 := h) (dc2 := dc) (ds2 := ds) 2 rfl ?_
          refine wq_sp1 rfl rfl ?_
          refine wq_gos (f := 1) (pc2 := 20) (ls2 := [(3, .int 2), (0, .ref 162), (1, .int 5), (2, .int 29)]) (st2 := [.int 31, .ref 13]) (h2 := h) (dc2 := dc) (ds2 := ds) 3 rfl ?_
          refine wq_sp1 rfl rfl ?_
          show wq 161 23 [(3, .int 2), (0, .ref 162), (1, .int 5), (2, .int 29)] [.int 101] h dc ds _
          refine wq_gos (f := 1) (pc2 := 29) (ls2 := [(3, .int 2), (0, .ref 162), (1, .int 5), (2, .int 29)]) (st2 := [.ref 162]) (h2 := h) (dc2 := dc) (ds2 := ds) 3 rfl ?_
          refine wq_getf rfl hM rfl rfl ?_
          refine wq_gos (f := 1) (pc2 := 34) (ls2 := [(3, .int 2), (0, .ref 162), (1, .int 5), (2, .int 29)]) (st2 := [.int ((nI pl) + (2 : Int32))]) (h2 := h) (dc2 := dc) (ds2 := ds) 2 rfl ?_
          refine wq_vi (show (nI pl) + (2 : Int32) = nI (pl + 2) from nI_add pl 2) ?_
          refine wq_gos (f := 1) (pc2 := 35) (ls2 := [(3, .int 2), (0, .ref 162), (1, .int 5), (2, .int 29)]) (st2 := [.ref 162, .int (nI (pl + 2))]) (h2 := h) (dc2 := dc) (ds2 := ds) 1 rfl ?_
          refine wq_getf rfl hM rfl rfl ?_
          try have q14x := nI_toInt (n := (pl + 2)) (by omega)
          refine wq_ge2 rfl rfl (fun b15x => ?_) (fun b15x => ?_)
          · refine wq_sp1 rfl rfl ?_
            refine wq_gos (f := 1) (pc2 := 74) (ls2 := [(3, .int 2), (0, .ref 162), (1, .int 5), (2, .int 29)]) (st2 := [.int 31, .ref 13]) (h2 := h) (dc2 := dc) (ds2 := ds) 3 rfl ?_
            refine wq_sp1 rfl rfl ?_
            show wq 161 77 [(3, .int 2), (0, .ref 162), (1, .int 5), (2, .int 29)] [.int 101] h dc ds _
            refine wq_gos (f := 1) (pc2 := 97) (ls2 := [(3, .int 2), (0, .ref 162), (1, .int 5), (2, .int 29)]) (st2 := []) (h2 := h) (dc2 := dc) (ds2 := ds) 2 rfl ?_
            refine wq_sp1 rfl rfl ?_
            refine wq_gos (f := 1) (pc2 := 100) (ls2 := [(3, .int 2), (0, .ref 162), (1, .int 5), (2, .int 29)]) (st2 := [.int 29, .ref 13]) (h2 := h) (dc2 := dc) (ds2 := ds) 1 rfl ?_
            refine wq_sp1 rfl rfl ?_
            show wq 161 103 [(3, .int 2), (0, .ref 162), (1, .int 5), (2, .int 29)] [.int 98] h dc ds _
            refine wq_gos (f := 1) (pc2 := 97) (ls2 := [(2, .int 30), (3, .int 2), (0, .ref 162), (1, .int 5)]) (st2 := []) (h2 := h) (dc2 := dc) (ds2 := ds) 4 rfl ?_
            refine wq_sp1 rfl rfl ?_
            refine wq_gos (f := 1) (pc2 := 100) (ls2 := [(2, .int 30), (3, .int 2), (0, .ref 162), (1, .int 5)]) (st2 := [.int 30, .ref 13]) (h2 := h) (dc2 := dc) (ds2 := ds) 1 rfl ?_
            refine wq_sp1 rfl rfl ?_
            show wq 161 103 [(2, .int 30), (3, .int 2), (0, .ref 162), (1, .int 5)] [.int 108] h dc ds _
            refine wq_gos (f := 1) (pc2 := 97) (ls2 := [(2, .int 31), (3, .int 2), (0, .ref 162), (1, .int 5)]) (st2 := []) (h2 := h) (dc2 := dc) (ds2 := ds) 4 rfl ?_
            refine wq_sp1 rfl rfl ?_
            refine wq_gos (f := 1) (pc2 := 100) (ls2 := [(2, .int 31), (3, .int 2), (0, .ref 162), (1, .int 5)]) (st2 := [.int 31, .ref 13]) (h2 := h) (dc2 := dc) (ds2 := ds) 1 rfl ?_
            refine wq_sp1 rfl rfl ?_
            show wq 161 103 [(2, .int 31), (3, .int 2), (0, .ref 162), (1, .int 5)] [.int 101] h dc ds _
            refine wq_gos (f := 1) (pc2 := 97) (ls2 := [(2, .int 32), (3, .int 2), (0, .ref 162), (1, .int 5)]) (st2 := []) (h2 := h) (dc2 := dc) (ds2 := ds) 4 rfl ?_
            refine wq_sp1 rfl rfl ?_
            refine wq_gos (f := 1) (pc2 := 100) (ls2 := [(2, .int 32), (3, .int 2), (0, .ref 162), (1, .int 5)]) (st2 := [.int 32, .ref 13]) (h2 := h) (dc2 := dc) (ds2 := ds) 1 rfl ?_
            refine wq_sp1 rfl rfl ?_
            show wq 161 103 [(2, .int 32), (3, .int 2), (0, .ref 162), (1, .int 5)] [.int 110] h dc ds _
            refine wq_gos (f := 1) (pc2 := 97) (ls2 := [(2, .int 33), (3, .int 2), (0, .ref 162), (1, .int 5)]) (st2 := []) (h2 := h) (dc2 := dc) (ds2 := ds) 4 rfl ?_
            refine wq_sp1 rfl rfl ?_
            refine wq_gos (f := 1) (pc2 := 100) (ls2 := [(2, .int 33), (3, .int 2), (0, .ref 162), (1, .int 5)]) (st2 := [.int 33, .ref 13]) (h2 := h) (dc2 := dc) (ds2 := ds) 1 rfl ?_
            refine wq_sp1 rfl rfl ?_
            show wq 161 103 [(2, .int 33), (3, .int 2), (0, .ref 162), (1, .int 5)] [.int 100] h dc ds _
            refine wq_gos (f := 1) (pc2 := 97) (ls2 := [(2, .int 34), (3, .int 2), (0, .ref 162), (1, .int 5)]) (st2 := []) (h2 := h) (dc2 := dc) (ds2 := ds) 4 rfl ?_
            refine wq_sp1 rfl rfl ?_
            refine wq_gos (f := 1) (pc2 := 100) (ls2 := [(2, .int 34), (3, .int 2), (0, .ref 162), (1, .int 5)]) (st2 := [.int 34, .ref 13]) (h2 := h) (dc2 := dc) (ds2 := ds) 1 rfl ?_
            refine wq_sp1 rfl rfl ?_
            show wq 161 103 [(2, .int 34), (3, .int 2), (0, .ref 162), (1, .int 5)] [.int 32] h dc ds _
            refine wq_gos (f := 1) (pc2 := 4) (ls2 := [(1, .int 6), (2, .int 35), (3, .int 2), (0, .ref 162)]) (st2 := []) (h2 := h) (dc2 := dc) (ds2 := ds) 5 rfl ?_
            refine wq_ls [(0, .ref 162), (1, .int 6), (2, .int 35)] (show ([0, 1, 2] : List Nat).Nodup by decide) ⟨rfl, rfl, rfl, trivial⟩ ?_
            exact kN (by unfold mWs5; rw [if_neg (Int.not_le.mpr b3x), if_neg (fun q => q b5x), if_neg (Int.not_le.mpr b9x), if_neg (fun q => q b11x), if_pos b15x])
          · refine wq_gos (f := 1) (pc2 := 42) (ls2 := [(3, .int 2), (0, .ref 162), (1, .int 5), (2, .int 29)]) (st2 := [.ref 162]) (h2 := h) (dc2 := dc) (ds2 := ds) 1 rfl ?_
            refine wq_getf rfl hM rfl rfl ?_
            refine wq_gos (f := 1) (pc2 := 46) (ls2 := [(3, .int 2), (0, .ref 162), (1, .int 5), (2, .int 29)]) (st2 := [.ref 162, .ref 164]) (h2 := h) (dc2 := dc) (ds2 := ds) 1 rfl ?_
            refine wq_getf rfl hM rfl rfl ?_
            refine wq_gos (f := 1) (pc2 := 51) (ls2 := [(3, .int 2), (0, .ref 162), (1, .int 5), (2, .int 29)]) (st2 := [.int ((nI pl) + (2 : Int32)), .ref 164]) (h2 := h) (dc2 := dc) (ds2 := ds) 2 rfl ?_
            refine wq_vi (show (nI pl) + (2 : Int32) = nI (pl + 2) from nI_add pl 2) ?_
            refine wq_ialdn rfl hT (by first | omega | exact zin_t (by omega) (by omega)) (by decide) rfl ?_
            refine wq_sp1 rfl rfl ?_
            refine wq_gos (f := 1) (pc2 := 57) (ls2 := [(3, .int 2), (0, .ref 162), (1, .int 5), (2, .int 29)]) (st2 := [.int 31, .ref 13, .int (tb.getD (pl + 2) 0)]) (h2 := h) (dc2 := dc) (ds2 := ds) 3 rfl ?_
            refine wq_sp1 rfl rfl ?_
            show wq 161 60 [(3, .int 2), (0, .ref 162), (1, .int 5), (2, .int 29)] [.int 101, .int (tb.getD (pl + 2) 0)] h dc ds _
            have q16x : (101 : Int32).toInt = 101 := rfl
            refine wq_ne2 rfl rfl (fun b17x => ?_) (fun b17x => ?_)
            · have q18x : (tb.getD (pl + 2) 0).toInt ≠ 101 := fun q => b17x (Int32.toInt_inj.mp q)
              refine wq_sp1 rfl rfl ?_
              refine wq_gos (f := 1) (pc2 := 74) (ls2 := [(3, .int 2), (0, .ref 162), (1, .int 5), (2, .int 29)]) (st2 := [.int 31, .ref 13]) (h2 := h) (dc2 := dc) (ds2 := ds) 3 rfl ?_
              refine wq_sp1 rfl rfl ?_
              show wq 161 77 [(3, .int 2), (0, .ref 162), (1, .int 5), (2, .int 29)] [.int 101] h dc ds _
              refine wq_gos (f := 1) (pc2 := 97) (ls2 := [(3, .int 2), (0, .ref 162), (1, .int 5), (2, .int 29)]) (st2 := []) (h2 := h) (dc2 := dc) (ds2 := ds) 2 rfl ?_
              refine wq_sp1 rfl rfl ?_
              refine wq_gos (f := 1) (pc2 := 100) (ls2 := [(3, .int 2), (0, .ref 162), (1, .int 5), (2, .int 29)]) (st2 := [.int 29, .ref 13]) (h2 := h) (dc2 := dc) (ds2 := ds) 1 rfl ?_
              refine wq_sp1 rfl rfl ?_
              show wq 161 103 [(3, .int 2), (0, .ref 162), (1, .int 5), (2, .int 29)] [.int 98] h dc ds _
              refine wq_gos (f := 1) (pc2 := 97) (ls2 := [(2, .int 30), (3, .int 2), (0, .ref 162), (1, .int 5)]) (st2 := []) (h2 := h) (dc2 := dc) (ds2 := ds) 4 rfl ?_
              refine wq_sp1 rfl rfl ?_
              refine wq_gos (f := 1) (pc2 := 100) (ls2 := [(2, .int 30), (3, .int 2), (0, .ref 162), (1, .int 5)]) (st2 := [.int 30, .ref 13]) (h2 := h) (dc2 := dc) (ds2 := ds) 1 rfl ?_
              refine wq_sp1 rfl rfl ?_
              show wq 161 103 [(2, .int 30), (3, .int 2), (0, .ref 162), (1, .int 5)] [.int 108] h dc ds _
              refine wq_gos (f := 1) (pc2 := 97) (ls2 := [(2, .int 31), (3, .int 2), (0, .ref 162), (1, .int 5)]) (st2 := []) (h2 := h) (dc2 := dc) (ds2 := ds) 4 rfl ?_
              refine wq_sp1 rfl rfl ?_
              refine wq_gos (f := 1) (pc2 := 100) (ls2 := [(2, .int 31), (3, .int 2), (0, .ref 162), (1, .int 5)]) (st2 := [.int 31, .ref 13]) (h2 := h) (dc2 := dc) (ds2 := ds) 1 rfl ?_
              refine wq_sp1 rfl rfl ?_
              show wq 161 103 [(2, .int 31), (3, .int 2), (0, .ref 162), (1, .int 5)] [.int 101] h dc ds _
              refine wq_gos (f := 1) (pc2 := 97) (ls2 := [(2, .int 32), (3, .int 2), (0, .ref 162), (1, .int 5)]) (st2 := []) (h2 := h) (dc2 := dc) (ds2 := ds) 4 rfl ?_
              refine wq_sp1 rfl rfl ?_
              refine wq_gos (f := 1) (pc2 := 100) (ls2 := [(2, .int 32), (3, .int 2), (0, .ref 162), (1, .int 5)]) (st2 := [.int 32, .ref 13]) (h2 := h) (dc2 := dc) (ds2 := ds) 1 rfl ?_
              refine wq_sp1 rfl rfl ?_
              show wq 161 103 [(2, .int 32), (3, .int 2), (0, .ref 162), (1, .int 5)] [.int 110] h dc ds _
              refine wq_gos (f := 1) (pc2 := 97) (ls2 := [(2, .int 33), (3, .int 2), (0, .ref 162), (1, .int 5)]) (st2 := []) (h2 := h) (dc2 := dc) (ds2 := ds) 4 rfl ?_
              refine wq_sp1 rfl rfl ?_
              refine wq_gos (f := 1) (pc2 := 100) (ls2 := [(2, .int 33), (3, .int 2), (0, .ref 162), (1, .int 5)]) (st2 := [.int 33, .ref 13]) (h2 := h) (dc2 := dc) (ds2 := ds) 1 rfl ?_
              refine wq_sp1 rfl rfl ?_
              show wq 161 103 [(2, .int 33), (3, .int 2), (0, .ref 162), (1, .int 5)] [.int 100] h dc ds _
              refine wq_gos (f := 1) (pc2 := 97) (ls2 := [(2, .int 34), (3, .int 2), (0, .ref 162), (1, .int 5)]) (st2 := []) (h2 := h) (dc2 := dc) (ds2 := ds) 4 rfl ?_
              refine wq_sp1 rfl rfl ?_
              refine wq_gos (f := 1) (pc2 := 100) (ls2 := [(2, .int 34), (3, .int 2), (0, .ref 162), (1, .int 5)]) (st2 := [.int 34, .ref 13]) (h2 := h) (dc2 := dc) (ds2 := ds) 1 rfl ?_
              refine wq_sp1 rfl rfl ?_
              show wq 161 103 [(2, .int 34), (3, .int 2), (0, .ref 162), (1, .int 5)] [.int 32] h dc ds _
              refine wq_gos (f := 1) (pc2 := 4) (ls2 := [(1, .int 6), (2, .int 35), (3, .int 2), (0, .ref 162)]) (st2 := []) (h2 := h) (dc2 := dc) (ds2 := ds) 5 rfl ?_
              refine wq_ls [(0, .ref 162), (1, .int 6), (2, .int 35)] (show ([0, 1, 2] : List Nat).Nodup by decide) ⟨rfl, rfl, rfl, trivial⟩ ?_
              exact kN (by unfold mWs5; rw [if_neg (Int.not_le.mpr b3x), if_neg (fun q => q b5x), if_neg (Int.not_le.mpr b9x), if_neg (fun q => q b11x), if_neg (Int.not_le.mpr b15x), if_pos b17x])
            · have q19x : (tb.getD (pl + 2) 0).toInt = 101 := congrArg Int32.toInt b17x
              refine wq_gos (f := 1) (pc2 := 15) (ls2 := [(3, .int 3), (0, .ref 162), (1, .int 5), (2, .int 29)]) (st2 := []) (h2 := h) (dc2 := dc) (ds2 := ds) 2 rfl ?_
              refine wq_sp1 rfl rfl ?_
              refine wq_gos (f := 1) (pc2 := 20) (ls2 := [(3, .int 3), (0, .ref 162), (1, .int 5), (2, .int 29)]) (st2 := [.int 32, .ref 13]) (h2 := h) (dc2 := dc) (ds2 := ds) 3 rfl ?_
              refine wq_sp1 rfl rfl ?_
              show wq 161 23 [(3, .int 3), (0, .ref 162), (1, .int 5), (2, .int 29)] [.int 110] h dc ds _
              refine wq_gos (f := 1) (pc2 := 29) (ls2 := [(3, .int 3), (0, .ref 162), (1, .int 5), (2, .int 29)]) (st2 := [.ref 162]) (h2 := h) (dc2 := dc) (ds2 := ds) 3 rfl ?_
              refine wq_getf rfl hM rfl rfl ?_
              refine wq_gos (f := 1) (pc2 := 34) (ls2 := [(3, .int 3), (0, .ref 162), (1, .int 5), (2, .int 29)]) (st2 := [.int ((nI pl) + (3 : Int32))]) (h2 := h) (dc2 := dc) (ds2 := ds) 2 rfl ?_
              refine wq_vi (show (nI pl) + (3 : Int32) = nI (pl + 3) from nI_add pl 3) ?_
              refine wq_gos (f := 1) (pc2 := 35) (ls2 := [(3, .int 3), (0, .ref 162), (1, .int 5), (2, .int 29)]) (st2 := [.ref 162, .int (nI (pl + 3))]) (h2 := h) (dc2 := dc) (ds2 := ds) 1 rfl ?_
              refine wq_getf rfl hM rfl rfl ?_
              try have q20x := nI_toInt (n := (pl + 3)) (by omega)
              refine wq_ge2 rfl rfl (fun b21x => ?_) (fun b21x => ?_)
              · refine wq_sp1 rfl rfl ?_
                refine wq_gos (f := 1) (pc2 := 74) (ls2 := [(3, .int 3), (0, .ref 162), (1, .int 5), (2, .int 29)]) (st2 := [.int 32, .ref 13]) (h2 := h) (dc2 := dc) (ds2 := ds) 3 rfl ?_
                refine wq_sp1 rfl rfl ?_
                show wq 161 77 [(3, .int 3), (0, .ref 162), (1, .int 5), (2, .int 29)] [.int 110] h dc ds _
                refine wq_gos (f := 1) (pc2 := 97) (ls2 := [(3, .int 3), (0, .ref 162), (1, .int 5), (2, .int 29)]) (st2 := []) (h2 := h) (dc2 := dc) (ds2 := ds) 2 rfl ?_
                refine wq_sp1 rfl rfl ?_
                refine wq_gos (f := 1) (pc2 := 100) (ls2 := [(3, .int 3), (0, .ref 162), (1, .int 5), (2, .int 29)]) (st2 := [.int 29, .ref 13]) (h2 := h) (dc2 := dc) (ds2 := ds) 1 rfl ?_
                refine wq_sp1 rfl rfl ?_
                show wq 161 103 [(3, .int 3), (0, .ref 162), (1, .int 5), (2, .int 29)] [.int 98] h dc ds _
                refine wq_gos (f := 1) (pc2 := 97) (ls2 := [(2, .int 30), (3, .int 3), (0, .ref 162), (1, .int 5)]) (st2 := []) (h2 := h) (dc2 := dc) (ds2 := ds) 4 rfl ?_
                refine wq_sp1 rfl rfl ?_
                refine wq_gos (f := 1) (pc2 := 100) (ls2 := [(2, .int 30), (3, .int 3), (0, .ref 162), (1, .int 5)]) (st2 := [.int 30, .ref 13]) (h2 := h) (dc2 := dc) (ds2 := ds) 1 rfl ?_
                refine wq_sp1 rfl rfl ?_
                show wq 161 103 [(2, .int 30), (3, .int 3), (0, .ref 162), (1, .int 5)] [.int 108] h dc ds _
                refine wq_gos (f := 1) (pc2 := 97) (ls2 := [(2, .int 31), (3, .int 3), (0, .ref 162), (1, .int 5)]) (st2 := []) (h2 := h) (dc2 := dc) (ds2 := ds) 4 rfl ?_
                refine wq_sp1 rfl rfl ?_
                refine wq_gos (f := 1) (pc2 := 100) (ls2 := [(2, .int 31), (3, .int 3), (0, .ref 162), (1, .int 5)]) (st2 := [.int 31, .ref 13]) (h2 := h) (dc2 := dc) (ds2 := ds) 1 rfl ?_
                refine wq_sp1 rfl rfl ?_
                show wq 161 103 [(2, .int 31), (3, .int 3), (0, .ref 162), (1, .int 5)] [.int 101] h dc ds _
                refine wq_gos (f := 1) (pc2 := 97) (ls2 := [(2, .int 32), (3, .int 3), (0, .ref 162), (1, .int 5)]) (st2 := []) (h2 := h) (dc2 := dc) (ds2 := ds) 4 rfl ?_
                refine wq_sp1 rfl rfl ?_
                refine wq_gos (f := 1) (pc2 := 100) (ls2 := [(2, .int 32), (3, .int 3), (0, .ref 162), (1, .int 5)]) (st2 := [.int 32, .ref 13]) (h2 := h) (dc2 := dc) (ds2 := ds) 1 rfl ?_
                refine wq_sp1 rfl rfl ?_
                show wq 161 103 [(2, .int 32), (3, .int 3), (0, .ref 162), (1, .int 5)] [.int 110] h dc ds _
                refine wq_gos (f := 1) (pc2 := 97) (ls2 := [(2, .int 33), (3, .int 3), (0, .ref 162), (1, .int 5)]) (st2 := []) (h2 := h) (dc2 := dc) (ds2 := ds) 4 rfl ?_
                refine wq_sp1 rfl rfl ?_
                refine wq_gos (f := 1) (pc2 := 100) (ls2 := [(2, .int 33), (3, .int 3), (0, .ref 162), (1, .int 5)]) (st2 := [.int 33, .ref 13]) (h2 := h) (dc2 := dc) (ds2 := ds) 1 rfl ?_
                refine wq_sp1 rfl rfl ?_
                show wq 161 103 [(2, .int 33), (3, .int 3), (0, .ref 162), (1, .int 5)] [.int 100] h dc ds _
                refine wq_gos (f := 1) (pc2 := 97) (ls2 := [(2, .int 34), (3, .int 3), (0, .ref 162), (1, .int 5)]) (st2 := []) (h2 := h) (dc2 := dc) (ds2 := ds) 4 rfl ?_
                refine wq_sp1 rfl rfl ?_
                refine wq_gos (f := 1) (pc2 := 100) (ls2 := [(2, .int 34), (3, .int 3), (0, .ref 162), (1, .int 5)]) (st2 := [.int 34, .ref 13]) (h2 := h) (dc2 := dc) (ds2 := ds) 1 rfl ?_
                refine wq_sp1 rfl rfl ?_
                show wq 161 103 [(2, .int 34), (3, .int 3), (0, .ref 162), (1, .int 5)] [.int 32] h dc ds _
                refine wq_gos (f := 1) (pc2 := 4) (ls2 := [(1, .int 6), (2, .int 35), (3, .int 3), (0, .ref 162)]) (st2 := []) (h2 := h) (dc2 := dc) (ds2 := ds) 5 rfl ?_
                refine wq_ls [(0, .ref 162), (1, .int 6), (2, .int 35)] (show ([0, 1, 2] : List Nat).Nodup by decide) ⟨rfl, rfl, rfl, trivial⟩ ?_
                exact kN (by unfold mWs5; rw [if_neg (Int.not_le.mpr b3x), if_neg (fun q => q b5x), if_neg (Int.not_le.mpr b9x), if_neg (fun q => q b11x), if_neg (Int.not_le.mpr b15x), if_neg (fun q => q b17x), if_pos b21x])
              · refine wq_gos (f := 1) (pc2 := 42) (ls2 := [(3, .int 3), (0, .ref 162), (1, .int 5), (2, .int 29)]) (st2 := [.ref 162]) (h2 := h) (dc2 := dc) (ds2 := ds) 1 rfl ?_
                refine wq_getf rfl hM rfl rfl ?_
                refine wq_gos (f := 1) (pc2 := 46) (ls2 := [(3, .int 3), (0, .ref 162), (1, .int 5), (2, .int 29)]) (st2 := [.ref 162, .ref 164]) (h2 := h) (dc2 := dc) (ds2 := ds) 1 rfl ?_
                refine wq_getf rfl hM rfl rfl ?_
                refine wq_gos (f := 1) (pc2 := 51) (ls2 := [(3, .int 3), (0, .ref 162), (1, .int 5), (2, .int 29)]) (st2 := [.int ((nI pl) + (3 : Int32)), .ref 164]) (h2 := h) (dc2 := dc) (ds2 := ds) 2 rfl ?_
                refine wq_vi (show (nI pl) + (3 : Int32) = nI (pl + 3) from nI_add pl 3) ?_
                refine wq_ialdn rfl hT (by first | omega | exact zin_t (by omega) (by omega)) (by decide) rfl ?_
                refine wq_sp1 rfl rfl ?_
                refine wq_gos (f := 1) (pc2 := 57) (ls2 := [(3, .int 3), (0, .ref 162), (1, .int 5), (2, .int 29)]) (st2 := [.int 32, .ref 13, .int (tb.getD (pl + 3) 0)]) (h2 := h) (dc2 := dc) (ds2 := ds) 3 rfl ?_
                refine wq_sp1 rfl rfl ?_
                show wq 161 60 [(3, .int 3), (0, .ref 162), (1, .int 5), (2, .int 29)] [.int 110, .int (tb.getD (pl + 3) 0)] h dc ds _
                have q22x : (110 : Int32).toInt = 110 := rfl
                refine wq_ne2 rfl rfl (fun b23x => ?_) (fun b23x => ?_)
                · have q24x : (tb.getD (pl + 3) 0).toInt ≠ 110 := fun q => b23x (Int32.toInt_inj.mp q)
                  refine wq_sp1 rfl rfl ?_
                  refine wq_gos (f := 1) (pc2 := 74) (ls2 := [(3, .int 3), (0, .ref 162), (1, .int 5), (2, .int 29)]) (st2 := [.int 32, .ref 13]) (h2 := h) (dc2 := dc) (ds2 := ds) 3 rfl ?_
                  refine wq_sp1 rfl rfl ?_
                  show wq 161 77 [(3, .int 3), (0, .ref 162), (1, .int 5), (2, .int 29)] [.int 110] h dc ds _
                  refine wq_gos (f := 1) (pc2 := 97) (ls2 := [(3, .int 3), (0, .ref 162), (1, .int 5), (2, .int 29)]) (st2 := []) (h2 := h) (dc2 := dc) (ds2 := ds) 2 rfl ?_
                  refine wq_sp1 rfl rfl ?_
                  refine wq_gos (f := 1) (pc2 := 100) (ls2 := [(3, .int 3), (0, .ref 162), (1, .int 5), (2, .int 29)]) (st2 := [.int 29, .ref 13]) (h2 := h) (dc2 := dc) (ds2 := ds) 1 rfl ?_
                  refine wq_sp1 rfl rfl ?_
                  show wq 161 103 [(3, .int 3), (0, .ref 162), (1, .int 5), (2, .int 29)] [.int 98] h dc ds _
                  refine wq_gos (f := 1) (pc2 := 97) (ls2 := [(2, .int 30), (3, .int 3), (0, .ref 162), (1, .int 5)]) (st2 := []) (h2 := h) (dc2 := dc) (ds2 := ds) 4 rfl ?_
                  refine wq_sp1 rfl rfl ?_
                  refine wq_gos (f := 1) (pc2 := 100) (ls2 := [(2, .int 30), (3, .int 3), (0, .ref 162), (1, .int 5)]) (st2 := [.int 30, .ref 13]) (h2 := h) (dc2 := dc) (ds2 := ds) 1 rfl ?_
                  refine wq_sp1 rfl rfl ?_
                  show wq 161 103 [(2, .int 30), (3, .int 3), (0, .ref 162), (1, .int 5)] [.int 108] h dc ds _
                  refine wq_gos (f := 1) (pc2 := 97) (ls2 := [(2, .int 31), (3, .int 3), (0, .ref 162), (1, .int 5)]) (st2 := []) (h2 := h) (dc2 := dc) (ds2 := ds) 4 rfl ?_
                  refine wq_sp1 rfl rfl ?_
                  refine wq_gos (f := 1) (pc2 := 100) (ls2 := [(2, .int 31), (3, .int 3), (0, .ref 162), (1, .int 5)]) (st2 := [.int 31, .ref 13]) (h2 := h) (dc2 := dc) (ds2 := ds) 1 rfl ?_
                  refine wq_sp1 rfl rfl ?_
                  show wq 161 103 [(2, .int 31), (3, .int 3), (0, .ref 162), (1, .int 5)] [.int 101] h dc ds _
                  refine wq_gos (f := 1) (pc2 := 97) (ls2 := [(2, .int 32), (3, .int 3), (0, .ref 162), (1, .int 5)]) (st2 := []) (h2 := h) (dc2 := dc) (ds2 := ds) 4 rfl ?_
                  refine wq_sp1 rfl rfl ?_
                  refine wq_gos (f := 1) (pc2 := 100) (ls2 := [(2, .int 32), (3, .int 3), (0, .ref 162), (1, .int 5)]) (st2 := [.int 32, .ref 13]) (h2 := h) (dc2 := dc) (ds2 := ds) 1 rfl ?_
                  refine wq_sp1 rfl rfl ?_
                  show wq 161 103 [(2, .int 32), (3, .int 3), (0, .ref 162), (1, .int 5)] [.int 110] h dc ds _
                  refine wq_gos (f := 1) (pc2 := 97) (ls2 := [(2, .int 33), (3, .int 3), (0, .ref 162), (1, .int 5)]) (st2 := []) (h2 := h) (dc2 := dc) (ds2 := ds) 4 rfl ?_
                  refine wq_sp1 rfl rfl ?_
                  refine wq_gos (f := 1) (pc2 := 100) (ls2 := [(2, .int 33), (3, .int 3), (0, .ref 162), (1, .int 5)]) (st2 := [.int 33, .ref 13]) (h2 := h) (dc2 := dc) (ds2 := ds) 1 rfl ?_
                  refine wq_sp1 rfl rfl ?_
                  show wq 161 103 [(2, .int 33), (3, .int 3), (0, .ref 162), (1, .int 5)] [.int 100] h dc ds _
                  refine wq_gos (f := 1) (pc2 := 97) (ls2 := [(2, .int 34), (3, .int 3), (0, .ref 162), (1, .int 5)]) (st2 := []) (h2 := h) (dc2 := dc) (ds2 := ds) 4 rfl ?_
                  refine wq_sp1 rfl rfl ?_
                  refine wq_gos (f := 1) (pc2 := 100) (ls2 := [(2, .int 34), (3, .int 3), (0, .ref 162), (1, .int 5)]) (st2 := [.int 34, .ref 13]) (h2 := h) (dc2 := dc) (ds2 := ds) 1 rfl ?_
                  refine wq_sp1 rfl rfl ?_
                  show wq 161 103 [(2, .int 34), (3, .int 3), (0, .ref 162), (1, .int 5)] [.int 32] h dc ds _
                  refine wq_gos (f := 1) (pc2 := 4) (ls2 := [(1, .int 6), (2, .int 35), (3, .int 3), (0, .ref 162)]) (st2 := []) (h2 := h) (dc2 := dc) (ds2 := ds) 5 rfl ?_
                  refine wq_ls [(0, .ref 162), (1, .int 6), (2, .int 35)] (show ([0, 1, 2] : List Nat).Nodup by decide) ⟨rfl, rfl, rfl, trivial⟩ ?_
                  exact kN (by unfold mWs5; rw [if_neg (Int.not_le.mpr b3x), if_neg (fun q => q b5x), if_neg (Int.not_le.mpr b9x), if_neg (fun q => q b11x), if_neg (Int.not_le.mpr b15x), if_neg (fun q => q b17x), if_neg (Int.not_le.mpr b21x), if_pos b23x])
                · have q25x : (tb.getD (pl + 3) 0).toInt = 110 := congrArg Int32.toInt b23x
                  refine wq_gos (f := 1) (pc2 := 15) (ls2 := [(3, .int 4), (0, .ref 162), (1, .int 5), (2, .int 29)]) (st2 := []) (h2 := h) (dc2 := dc) (ds2 := ds) 2 rfl ?_
                  refine wq_sp1 rfl rfl ?_
                  refine wq_gos (f := 1) (pc2 := 20) (ls2 := [(3, .int 4), (0, .ref 162), (1, .int 5), (2, .int 29)]) (st2 := [.int 33, .ref 13]) (h2 := h) (dc2 := dc) (ds2 := ds) 3 rfl ?_
                  refine wq_sp1 rfl rfl ?_
                  show wq 161 23 [(3, .int 4), (0, .ref 162), (1, .int 5), (2, .int 29)] [.int 100] h dc ds _
                  refine wq_gos (f := 1) (pc2 := 29) (ls2 := [(3, .int 4), (0, .ref 162), (1, .int 5), (2, .int 29)]) (st2 := [.ref 162]) (h2 := h) (dc2 := dc) (ds2 := ds) 3 rfl ?_
                  refine wq_getf rfl hM rfl rfl ?_
                  refine wq_gos (f := 1) (pc2 := 34) (ls2 := [(3, .int 4), (0, .ref 162), (1, .int 5), (2, .int 29)]) (st2 := [.int ((nI pl) + (4 : Int32))]) (h2 := h) (dc2 := dc) (ds2 := ds) 2 rfl ?_
                  refine wq_vi (show (nI pl) + (4 : Int32) = nI (pl + 4) from nI_add pl 4) ?_
                  refine wq_gos (f := 1) (pc2 := 35) (ls2 := [(3, .int 4), (0, .ref 162), (1, .int 5), (2, .int 29)]) (st2 := [.ref 162, .int (nI (pl + 4))]) (h2 := h) (dc2 := dc) (ds2 := ds) 1 rfl ?_
                  refine wq_getf rfl hM rfl rfl ?_
                  try have q26x := nI_toInt (n := (pl + 4)) (by omega)
                  refine wq_ge2 rfl rfl (fun b27x => ?_) (fun b27x => ?_)
                  · refine wq_sp1 rfl rfl ?_
                    refine wq_gos (f := 1) (pc2 := 74) (ls2 := [(3, .int 4), (0, .ref 162), (1, .int 5), (2, .int 29)]) (st2 := [.int 33, .ref 13]) (h2 := h) (dc2 := dc) (ds2 := ds) 3 rfl ?_
                    refine wq_sp1 rfl rfl ?_
                    show wq 161 77 [(3, .int 4), (0, .ref 162), (1, .int 5), (2, .int 29)] [.int 100] h dc ds _
                    refine wq_gos (f := 1) (pc2 := 97) (ls2 := [(3, .int 4), (0, .ref 162), (1, .int 5), (2, .int 29)]) (st2 := []) (h2 := h) (dc2 := dc) (ds2 := ds) 2 rfl ?_
                    refine wq_sp1 rfl rfl ?_
                    refine wq_gos (f := 1) (pc2 := 100) (ls2 := [(3, .int 4), (0, .ref 162), (1, .int 5), (2, .int 29)]) (st2 := [.int 29, .ref 13]) (h2 := h) (dc2 := dc) (ds2 := ds) 1 rfl ?_
                    refine wq_sp1 rfl rfl ?_
                    show wq 161 103 [(3, .int 4), (0, .ref 162), (1, .int 5), (2, .int 29)] [.int 98] h dc ds _
                    refine wq_gos (f := 1) (pc2 := 97) (ls2 := [(2, .int 30), (3, .int 4), (0, .ref 162), (1, .int 5)]) (st2 := []) (h2 := h) (dc2 := dc) (ds2 := ds) 4 rfl ?_
                    refine wq_sp1 rfl rfl ?_
                    refine wq_gos (f := 1) (pc2 := 100) (ls2 := [(2, .int 30), (3, .int 4), (0, .ref 162), (1, .int 5)]) (st2 := [.int 30, .ref 13]) (h2 := h) (dc2 := dc) (ds2 := ds) 1 rfl ?_
                    refine wq_sp1 rfl rfl ?_
                    show wq 161 103 [(2, .int 30), (3, .int 4), (0, .ref 162), (1, .int 5)] [.int 108] h dc ds _
                    refine wq_gos (f := 1) (pc2 := 97) (ls2 := [(2, .int 31), (3, .int 4), (0, .ref 162), (1, .int 5)]) (st2 := []) (h2 := h) (dc2 := dc) (ds2 := ds) 4 rfl ?_
                    refine wq_sp1 rfl rfl ?_
                    refine wq_gos (f := 1) (pc2 := 100) (ls2 := [(2, .int 31), (3, .int 4), (0, .ref 162), (1, .int 5)]) (st2 := [.int 31, .ref 13]) (h2 := h) (dc2 := dc) (ds2 := ds) 1 rfl ?_
                    refine wq_sp1 rfl rfl ?_
                    show wq 161 103 [(2, .int 31), (3, .int 4), (0, .ref 162), (1, .int 5)] [.int 101] h dc ds _
                    refine wq_gos (f := 1) (pc2 := 97) (ls2 := [(2, .int 32), (3, .int 4), (0, .ref 162), (1, .int 5)]) (st2 := []) (h2 := h) (dc2 := dc) (ds2 := ds) 4 rfl ?_
                    refine wq_sp1 rfl rfl ?_
                    refine wq_gos (f := 1) (pc2 := 100) (ls2 := [(2, .int 32), (3, .int 4), (0, .ref 162), (1, .int 5)]) (st2 := [.int 32, .ref 13]) (h2 := h) (dc2 := dc) (ds2 := ds) 1 rfl ?_
                    refine wq_sp1 rfl rfl ?_
                    show wq 161 103 [(2, .int 32), (3, .int 4), (0, .ref 162), (1, .int 5)] [.int 110] h dc ds _
                    refine wq_gos (f := 1) (pc2 := 97) (ls2 := [(2, .int 33), (3, .int 4), (0, .ref 162), (1, .int 5)]) (st2 := []) (h2 := h) (dc2 := dc) (ds2 := ds) 4 rfl ?_
                    refine wq_sp1 rfl rfl ?_
                    refine wq_gos (f := 1) (pc2 := 100) (ls2 := [(2, .int 33), (3, .int 4), (0, .ref 162), (1, .int 5)]) (st2 := [.int 33, .ref 13]) (h2 := h) (dc2 := dc) (ds2 := ds) 1 rfl ?_
                    refine wq_sp1 rfl rfl ?_
                    show wq 161 103 [(2, .int 33), (3, .int 4), (0, .ref 162), (1, .int 5)] [.int 100] h dc ds _
                    refine wq_gos (f := 1) (pc2 := 97) (ls2 := [(2, .int 34), (3, .int 4), (0, .ref 162), (1, .int 5)]) (st2 := []) (h2 := h) (dc2 := dc) (ds2 := ds) 4 rfl ?_
                    refine wq_sp1 rfl rfl ?_
                    refine wq_gos (f := 1) (pc2 := 100) (ls2 := [(2, .int 34), (3, .int 4), (0, .ref 162), (1, .int 5)]) (st2 := [.int 34, .ref 13]) (h2 := h) (dc2 := dc) (ds2 := ds) 1 rfl ?_
                    refine wq_sp1 rfl rfl ?_
                    show wq 161 103 [(2, .int 34), (3, .int 4), (0, .ref 162), (1, .int 5)] [.int 32] h dc ds _
                    refine wq_gos (f := 1) (pc2 := 4) (ls2 := [(1, .int 6), (2, .int 35), (3, .int 4), (0, .ref 162)]) (st2 := []) (h2 := h) (dc2 := dc) (ds2 := ds) 5 rfl ?_
                    refine wq_ls [(0, .ref 162), (1, .int 6), (2, .int 35)] (show ([0, 1, 2] : List Nat).Nodup by decide) ⟨rfl, rfl, rfl, trivial⟩ ?_
                    exact kN (by unfold mWs5; rw [if_neg (Int.not_le.mpr b3x), if_neg (fun q => q b5x), if_neg (Int.not_le.mpr b9x), if_neg (fun q => q b11x), if_neg (Int.not_le.mpr b15x), if_neg (fun q => q b17x), if_neg (Int.not_le.mpr b21x), if_neg (fun q => q b23x), if_pos b27x])
                  · refine wq_gos (f := 1) (pc2 := 42) (ls2 := [(3, .int 4), (0, .ref 162), (1, .int 5), (2, .int 29)]) (st2 := [.ref 162]) (h2 := h) (dc2 := dc) (ds2 := ds) 1 rfl ?_
                    refine wq_getf rfl hM rfl rfl ?_
                    refine wq_gos (f := 1) (pc2 := 46) (ls2 := [(3, .int 4), (0, .ref 162), (1, .int 5), (2, .int 29)]) (st2 := [.ref 162, .ref 164]) (h2 := h) (dc2 := dc) (ds2 := ds) 1 rfl ?_
                    refine wq_getf rfl hM rfl rfl ?_
                    refine wq_gos (f := 1) (pc2 := 51) (ls2 := [(3, .int 4), (0, .ref 162), (1, .int 5), (2, .int 29)]) (st2 := [.int ((nI pl) + (4 : Int32)), .ref 164]) (h2 := h) (dc2 := dc) (ds2 := ds) 2 rfl ?_
                    refine wq_vi (show (nI pl) + (4 : Int32) = nI (pl + 4) from nI_add pl 4) ?_
                    refine wq_ialdn rfl hT (by first | omega | exact zin_t (by omega) (by omega)) (by decide) rfl ?_
                    refine wq_sp1 rfl rfl ?_
                    refine wq_gos (f := 1) (pc2 := 57) (ls2 := [(3, .int 4), (0, .ref 162), (1, .int 5), (2, .int 29)]) (st2 := [.int 33, .ref 13, .int (tb.getD (pl + 4) 0)]) (h2 := h) (dc2 := dc) (ds2 := ds) 3 rfl ?_
                    refine wq_sp1 rfl rfl ?_
                    show wq 161 60 [(3, .int 4), (0, .ref 162), (1, .int 5), (2, .int 29)] [.int 100, .int (tb.getD (pl + 4) 0)] h dc ds _
                    have q28x : (100 : Int32).toInt = 100 := rfl
                    refine wq_ne2 rfl rfl (fun b29x => ?_) (fun b29x => ?_)
                    · have q30x : (tb.getD (pl + 4) 0).toInt ≠ 100 := fun q => b29x (Int32.toInt_inj.mp q)
                      refine wq_sp1 rfl rfl ?_
                      refine wq_gos (f := 1) (pc2 := 74) (ls2 := [(3, .int 4), (0, .ref 162), (1, .int 5), (2, .int 29)]) (st2 := [.int 33, .ref 13]) (h2 := h) (dc2 := dc) (ds2 := ds) 3 rfl ?_
                      refine wq_sp1 rfl rfl ?_
                      show wq 161 77 [(3, .int 4), (0, .ref 162), (1, .int 5), (2, .int 29)] [.int 100] h dc ds _
                      refine wq_gos (f := 1) (pc2 := 97) (ls2 := [(3, .int 4), (0, .ref 162), (1, .int 5), (2, .int 29)]) (st2 := []) (h2 := h) (dc2 := dc) (ds2 := ds) 2 rfl ?_
                      refine wq_sp1 rfl rfl ?_
                      refine wq_gos (f := 1) (pc2 := 100) (ls2 := [(3, .int 4), (0, .ref 162), (1, .int 5), (2, .int 29)]) (st2 := [.int 29, .ref 13]) (h2 := h) (dc2 := dc) (ds2 := ds) 1 rfl ?_
                      refine wq_sp1 rfl rfl ?_
                      show wq 161 103 [(3, .int 4), (0, .ref 162), (1, .int 5), (2, .int 29)] [.int 98] h dc ds _
                      refine wq_gos (f := 1) (pc2 := 97) (ls2 := [(2, .int 30), (3, .int 4), (0, .ref 162), (1, .int 5)]) (st2 := []) (h2 := h) (dc2 := dc) (ds2 := ds) 4 rfl ?_
                      refine wq_sp1 rfl rfl ?_
                      refine wq_gos (f := 1) (pc2 := 100) (ls2 := [(2, .int 30), (3, .int 4), (0, .ref 162), (1, .int 5)]) (st2 := [.int 30, .ref 13]) (h2 := h) (dc2 := dc) (ds2 := ds) 1 rfl ?_
                      refine wq_sp1 rfl rfl ?_
                      show wq 161 103 [(2, .int 30), (3, .int 4), (0, .ref 162), (1, .int 5)] [.int 108] h dc ds _
                      refine wq_gos (f := 1) (pc2 := 97) (ls2 := [(2, .int 31), (3, .int 4), (0, .ref 162), (1, .int 5)]) (st2 := []) (h2 := h) (dc2 := dc) (ds2 := ds) 4 rfl ?_
                      refine wq_sp1 rfl rfl ?_
                      refine wq_gos (f := 1) (pc2 := 100) (ls2 := [(2, .int 31), (3, .int 4), (0, .ref 162), (1, .int 5)]) (st2 := [.int 31, .ref 13]) (h2 := h) (dc2 := dc) (ds2 := ds) 1 rfl ?_
                      refine wq_sp1 rfl rfl ?_
                      show wq 161 103 [(2, .int 31), (3, .int 4), (0, .ref 162), (1, .int 5)] [.int 101] h dc ds _
                      refine wq_gos (f := 1) (pc2 := 97) (ls2 := [(2, .int 32), (3, .int 4), (0, .ref 162), (1, .int 5)]) (st2 := []) (h2 := h) (dc2 := dc) (ds2 := ds) 4 rfl ?_
                      refine wq_sp1 rfl rfl ?_
                      refine wq_gos (f := 1) (pc2 := 100) (ls2 := [(2, .int 32), (3, .int 4), (0, .ref 162), (1, .int 5)]) (st2 := [.int 32, .ref 13]) (h2 := h) (dc2 := dc) (ds2 := ds) 1 rfl ?_
                      refine wq_sp1 rfl rfl ?_
                      show wq 161 103 [(2, .int 32), (3, .int 4), (0, .ref 162), (1, .int 5)] [.int 110] h dc ds _
                      refine wq_gos (f := 1) (pc2 := 97) (ls2 := [(2, .int 33), (3, .int 4), (0, .ref 162), (1, .int 5)]) (st2 := []) (h2 := h) (dc2 := dc) (ds2 := ds) 4 rfl ?_
                      refine wq_sp1 rfl rfl ?_
                      refine wq_gos (f := 1) (pc2 := 100) (ls2 := [(2, .int 33), (3, .int 4), (0, .ref 162), (1, .int 5)]) (st2 := [.int 33, .ref 13]) (h2 := h) (dc2 := dc) (ds2 := ds) 1 rfl ?_
                      refine wq_sp1 rfl rfl ?_
                      show wq 161 103 [(2, .int 33), (3, .int 4), (0, .ref 162), (1, .int 5)] [.int 100] h dc ds _
                      refine wq_gos (f := 1) (pc2 := 97) (ls2 := [(2, .int 34), (3, .int 4), (0, .ref 162), (1, .int 5)]) (st2 := []) (h2 := h) (dc2 := dc) (ds2 := ds) 4 rfl ?_
                      refine wq_sp1 rfl rfl ?_
                      refine wq_gos (f := 1) (pc2 := 100) (ls2 := [(2, .int 34), (3, .int 4), (0, .ref 162), (1, .int 5)]) (st2 := [.int 34, .ref 13]) (h2 := h) (dc2 := dc) (ds2 := ds) 1 rfl ?_
                      refine wq_sp1 rfl rfl ?_
                      show wq 161 103 [(2, .int 34), (3, .int 4), (0, .ref 162), (1, .int 5)] [.int 32] h dc ds _
                      refine wq_gos (f := 1) (pc2 := 4) (ls2 := [(1, .int 6), (2, .int 35), (3, .int 4), (0, .ref 162)]) (st2 := []) (h2 := h) (dc2 := dc) (ds2 := ds) 5 rfl ?_
                      refine wq_ls [(0, .ref 162), (1, .int 6), (2, .int 35)] (show ([0, 1, 2] : List Nat).Nodup by decide) ⟨rfl, rfl, rfl, trivial⟩ ?_
                      exact kN (by unfold mWs5; rw [if_neg (Int.not_le.mpr b3x), if_neg (fun q => q b5x), if_neg (Int.not_le.mpr b9x), if_neg (fun q => q b11x), if_neg (Int.not_le.mpr b15x), if_neg (fun q => q b17x), if_neg (Int.not_le.mpr b21x), if_neg (fun q => q b23x), if_neg (Int.not_le.mpr b27x), if_pos b29x])
                    · have q31x : (tb.getD (pl + 4) 0).toInt = 100 := congrArg Int32.toInt b29x
                      refine wq_gos (f := 1) (pc2 := 15) (ls2 := [(3, .int 5), (0, .ref 162), (1, .int 5), (2, .int 29)]) (st2 := []) (h2 := h) (dc2 := dc) (ds2 := ds) 2 rfl ?_
                      refine wq_sp1 rfl rfl ?_
                      refine wq_gos (f := 1) (pc2 := 20) (ls2 := [(3, .int 5), (0, .ref 162), (1, .int 5), (2, .int 29)]) (st2 := [.int 34, .ref 13]) (h2 := h) (dc2 := dc) (ds2 := ds) 3 rfl ?_
                      refine wq_sp1 rfl rfl ?_
                      show wq 161 23 [(3, .int 5), (0, .ref 162), (1, .int 5), (2, .int 29)] [.int 32] h dc ds _
                      refine wq_gos (f := 1) (pc2 := 69) (ls2 := [(3, .int 5), (0, .ref 162), (1, .int 5), (2, .int 29)]) (st2 := []) (h2 := h) (dc2 := dc) (ds2 := ds) 2 rfl ?_
                      refine wq_sp1 rfl rfl ?_
                      refine wq_gos (f := 1) (pc2 := 74) (ls2 := [(3, .int 5), (0, .ref 162), (1, .int 5), (2, .int 29)]) (st2 := [.int 34, .ref 13]) (h2 := h) (dc2 := dc) (ds2 := ds) 3 rfl ?_
                      refine wq_sp1 rfl rfl ?_
                      show wq 161 77 [(3, .int 5), (0, .ref 162), (1, .int 5), (2, .int 29)] [.int 32] h dc ds _
                      refine wq_gos (f := 1) (pc2 := 83) (ls2 := [(3, .int 5), (0, .ref 162), (1, .int 5), (2, .int 29)]) (st2 := [.ref 162]) (h2 := h) (dc2 := dc) (ds2 := ds) 3 rfl ?_
                      refine wq_getf rfl hM rfl rfl ?_
                      refine wq_gos (f := 1) (pc2 := 88) (ls2 := [(3, .int 5), (0, .ref 162), (1, .int 5), (2, .int 29)]) (st2 := [.int ((nI pl) + (5 : Int32))]) (h2 := h) (dc2 := dc) (ds2 := ds) 2 rfl ?_
                      refine wq_vi (show (nI pl) + (5 : Int32) = nI (pl + 5) from nI_add pl 5) ?_
                      refine wq_gos (f := 1) (pc2 := 89) (ls2 := [(3, .int 5), (0, .ref 162), (1, .int 5), (2, .int 29)]) (st2 := [.ref 162, .int (nI (pl + 5))]) (h2 := h) (dc2 := dc) (ds2 := ds) 1 rfl ?_
                      refine wq_getf rfl hM rfl rfl ?_
                      try have q32x := nI_toInt (n := (pl + 5)) (by omega)
                      refine wq_ne2 rfl rfl (fun b33x => ?_) (fun b33x => ?_)
                      · have q34x : (nI (pl + 5)).toInt ≠ (nI at9).toInt := fun q => b33x (Int32.toInt_inj.mp q)
                        refine wq_sp1 rfl rfl ?_
                        refine wq_gos (f := 1) (pc2 := 100) (ls2 := [(3, .int 5), (0, .ref 162), (1, .int 5), (2, .int 29)]) (st2 := [.int 29, .ref 13]) (h2 := h) (dc2 := dc) (ds2 := ds) 1 rfl ?_
                        refine wq_sp1 rfl rfl ?_
                        show wq 161 103 [(3, .int 5), (0, .ref 162), (1, .int 5), (2, .int 29)] [.int 98] h dc ds _
                        refine wq_gos (f := 1) (pc2 := 97) (ls2 := [(2, .int 30), (3, .int 5), (0, .ref 162), (1, .int 5)]) (st2 := []) (h2 := h) (dc2 := dc) (ds2 := ds) 4 rfl ?_
                        refine wq_sp1 rfl rfl ?_
                        refine wq_gos (f := 1) (pc2 := 100) (ls2 := [(2, .int 30), (3, .int 5), (0, .ref 162), (1, .int 5)]) (st2 := [.int 30, .ref 13]) (h2 := h) (dc2 := dc) (ds2 := ds) 1 rfl ?_
                        refine wq_sp1 rfl rfl ?_
                        show wq 161 103 [(2, .int 30), (3, .int 5), (0, .ref 162), (1, .int 5)] [.int 108] h dc ds _
                        refine wq_gos (f := 1) (pc2 := 97) (ls2 := [(2, .int 31), (3, .int 5), (0, .ref 162), (1, .int 5)]) (st2 := []) (h2 := h) (dc2 := dc) (ds2 := ds) 4 rfl ?_
                        refine wq_sp1 rfl rfl ?_
                        refine wq_gos (f := 1) (pc2 := 100) (ls2 := [(2, .int 31), (3, .int 5), (0, .ref 162), (1, .int 5)]) (st2 := [.int 31, .ref 13]) (h2 := h) (dc2 := dc) (ds2 := ds) 1 rfl ?_
                        refine wq_sp1 rfl rfl ?_
                        show wq 161 103 [(2, .int 31), (3, .int 5), (0, .ref 162), (1, .int 5)] [.int 101] h dc ds _
                        refine wq_gos (f := 1) (pc2 := 97) (ls2 := [(2, .int 32), (3, .int 5), (0, .ref 162), (1, .int 5)]) (st2 := []) (h2 := h) (dc2 := dc) (ds2 := ds) 4 rfl ?_
                        refine wq_sp1 rfl rfl ?_
                        refine wq_gos (f := 1) (pc2 := 100) (ls2 := [(2, .int 32), (3, .int 5), (0, .ref 162), (1, .int 5)]) (st2 := [.int 32, .ref 13]) (h2 := h) (dc2 := dc) (ds2 := ds) 1 rfl ?_
                        refine wq_sp1 rfl rfl ?_
                        show wq 161 103 [(2, .int 32), (3, .int 5), (0, .ref 162), (1, .int 5)] [.int 110] h dc ds _
                        refine wq_gos (f := 1) (pc2 := 97) (ls2 := [(2, .int 33), (3, .int 5), (0, .ref 162), (1, .int 5)]) (st2 := []) (h2 := h) (dc2 := dc) (ds2 := ds) 4 rfl ?_
                        refine wq_sp1 rfl rfl ?_
                        refine wq_gos (f := 1) (pc2 := 100) (ls2 := [(2, .int 33), (3, .int 5), (0, .ref 162), (1, .int 5)]) (st2 := [.int 33, .ref 13]) (h2 := h) (dc2 := dc) (ds2 := ds) 1 rfl ?_
                        refine wq_sp1 rfl rfl ?_
                        show wq 161 103 [(2, .int 33), (3, .int 5), (0, .ref 162), (1, .int 5)] [.int 100] h dc ds _
                        refine wq_gos (f := 1) (pc2 := 97) (ls2 := [(2, .int 34), (3, .int 5), (0, .ref 162), (1, .int 5)]) (st2 := []) (h2 := h) (dc2 := dc) (ds2 := ds) 4 rfl ?_
                        refine wq_sp1 rfl rfl ?_
                        refine wq_gos (f := 1) (pc2 := 100) (ls2 := [(2, .int 34), (3, .int 5), (0, .ref 162), (1, .int 5)]) (st2 := [.int 34, .ref 13]) (h2 := h) (dc2 := dc) (ds2 := ds) 1 rfl ?_
                        refine wq_sp1 rfl rfl ?_
                        show wq 161 103 [(2, .int 34), (3, .int 5), (0, .ref 162), (1, .int 5)] [.int 32] h dc ds _
                        refine wq_gos (f := 1) (pc2 := 4) (ls2 := [(1, .int 6), (2, .int 35), (3, .int 5), (0, .ref 162)]) (st2 := []) (h2 := h) (dc2 := dc) (ds2 := ds) 5 rfl ?_
                        refine wq_ls [(0, .ref 162), (1, .int 6), (2, .int 35)] (show ([0, 1, 2] : List Nat).Nodup by decide) ⟨rfl, rfl, rfl, trivial⟩ ?_
                        exact kN (by unfold mWs5; rw [if_neg (Int.not_le.mpr b3x), if_neg (fun q => q b5x), if_neg (Int.not_le.mpr b9x), if_neg (fun q => q b11x), if_neg (Int.not_le.mpr b15x), if_neg (fun q => q b17x), if_neg (Int.not_le.mpr b21x), if_neg (fun q => q b23x), if_neg (Int.not_le.mpr b27x), if_neg (fun q => q b29x), if_pos b33x])
                      · have q35x : (nI (pl + 5)).toInt = (nI at9).toInt := congrArg Int32.toInt b33x
                        refine wq_gos (f := 1) (pc2 := 96) (ls2 := [(3, .int 5), (0, .ref 162), (1, .int 5), (2, .int 29)]) (st2 := [.int 5]) (h2 := h) (dc2 := dc) (ds2 := ds) 1 rfl ?_
                        exact wq_ret rfl rfl (kR (by unfold mWs5; rw [if_neg (Int.not_le.mpr b3x), if_neg (fun q => q b5x), if_neg (Int.not_le.mpr b9x), if_neg (fun q => q b11x), if_neg (Int.not_le.mpr b15x), if_neg (fun q => q b17x), if_neg (Int.not_le.mpr b21x), if_neg (fun q => q b23x), if_neg (Int.not_le.mpr b27x), if_neg (fun q => q b29x), if_neg (fun q => q b33x)]))
noncomputable def mWs6 (tb : List Int32) (at9 pl : Nat) : Nat := (if (nI at9).toInt ≤ (nI (pl + 0)).toInt then 0 else (if (tb.getD (pl + 0) 0) ≠ (115 : Int32) then 0 else (if (nI at9).toInt ≤ (nI (pl + 1)).toInt then 0 else (if (tb.getD (pl + 1) 0) ≠ (101 : Int32) then 0 else (if (nI at9).toInt ≤ (nI (pl + 2)).toInt then 0 else (if (tb.getD (pl + 2) 0) ≠ (101 : Int32) then 0 else (if (nI at9).toInt ≤ (nI (pl + 3)).toInt then 0 else (if (tb.getD (pl + 3) 0) ≠ (100 : Int32) then 0 else (if (nI (pl + 4)) ≠ (nI at9) then 0 else 1)))))))))
set_option maxRecDepth 100000 in
set_option maxHeartbeats 4000000 in
theorem m_w6 {h : zH} {Q : zR → Prop} {dc ds : Nat} {n0 n2 n14 n22 n23 n27 n28 n32 n33 n34 n35 n39 n52 : Int32} {sz at9 pl : Nat} {so va ft fp : Int32} {tb : List Int32} (hM : zat h 162 = some (.inr (.inr (.inr (10, mO n0 n2 n14 (nI sz) (nI at9) (nI pl) so va ft fp n22 n23 n27 n28 n32 n33 n34 n35 n39 n52))))) (hT : zat h 164 = some (.inl (0, 700, tb))) (hsz : sz ≤ 700) (ha : at9 ≤ sz) (hp : pl ≤ at9) (kN : ((mWs6 tb at9 pl) = 0) → wq 161 4 [(0, .ref 162), (1, .int 7), (2, .int 40)] [] h dc ds Q) (kR : ((mWs6 tb at9 pl) = 1) → Q (some (.int 6), h, dc, ds)) : wq 161 4 [(0, .ref 162), (1, .int 6), (2, .int 35)] [] h dc ds Q := by
  have qnat9 := nI_toInt (n := at9) (by omega)
  have qnpl := nI_toInt (n := pl) (by omega)
  have qp0 := nI_toInt (n := pl + 0) (by omega)
  have qp1 := nI_toInt (n := pl + 1) (by omega)
  have qp2 := nI_toInt (n := pl + 2) (by omega)
  have qp3 := nI_toInt (n := pl + 3) (by omega)
  have qp4 := nI_toInt (n := pl + 4) (by omega)
  have qp5 := nI_toInt (n := pl + 5) (by omega)
  have qp6 := nI_toInt (n := pl + 6) (by omega)
  have qp7 := nI_toInt (n := pl + 7) (by omega)
  refine wq_gos (f := 1) (pc2 := 5) (ls2 := [(0, .ref 162), (1, .int 6), (2, .int 35)]) (st2 := [.int 35]) (h2 := h) (dc2 := dc) (ds2 := ds) 1 rfl ?_
  refine wq_sp1 rfl rfl ?_
  refine wq_sp1 rfl rfl ?_
  refine wq_gos (f := 1) (pc2 := 15) (ls2 := [(3, .int 0), (0, .ref 162), (1, .int 6), (2, .int 35)]) (st2 := []) (h2 := h) (dc2 := dc) (ds2 := ds) 3 rfl ?_
  refine wq_sp1 rfl rfl ?_
  refine wq_gos (f := 1) (pc2 := 20) (ls2 := [(3, .int 0), (0, .ref 162), (1, .int 6), (2, .int 35)]) (st2 := [.int 35, .ref 13]) (h2 := h) (dc2 := dc) (ds2 := ds) 3 rfl ?_
  refine wq_sp1 rfl rfl ?_
  show wq 161 23 [(3, .int 0), (0, .ref 162), (1, .int 6), (2, .int 35)] [.int 115] h dc ds _
  refine wq_gos (f := 1) (pc2 := 29) (ls2 := [(3, .int 0), (0, .ref 162), (1, .int 6), (2, .int 35)]) (st2 := [.ref 162]) (h2 := h) (dc2 := dc) (ds2 := ds) 3 rfl ?_
  refine wq_getf rfl hM rfl rfl ?_
  refine wq_gos (f := 1) (pc2 := 34) (ls2 := [(3, .int 0), (0, .ref 162), (1, .int 6), (2, .int 35)]) (st2 := [.int ((nI pl) + (0 : Int32))]) (h2 := h) (dc2 := dc) (ds2 := ds) 2 rfl ?_
  refine wq_vi (show (nI pl) + (0 : Int32) = nI (pl + 0) from nI_add pl 0) ?_
  refine wq_gos (f := 1) (pc2 := 35) (ls2 := [(3, .int 0), (0, .ref 162), (1, .int 6), (2, .int 35)]) (st2 := [.ref 162, .int (nI (pl + 0))]) (h2 := h) (dc2 := dc) (ds2 := ds) 1 rfl ?_
  refine wq_getf rfl hM rfl rfl ?_
  try have q1x := nI_toInt (n := (pl + 0)) (by omega)
  try have q2x := nI_toInt (n := at9) (by omega)
  refine wq_ge2 rfl rfl (fun b3x => ?_) (fun b3x => ?_)
  · refine wq_sp1 rfl rfl ?_
    refine wq_gos (f := 1) (pc2 := 74) (ls2 := [(3, .int 0), (0, .ref 162), (1, .int 6), (2, .int 35)]) (st2 := [.int 35, .ref 13]) (h2 := h) (dc2 := dc) (ds2 := ds) 3 rfl ?_
    refine wq_sp1 rfl rfl ?_
    show wq 161 77 [(3, .int 0), (0, .ref 162), (1, .int 6), (2, .int 35)] [.int 115] h dc ds _
    refine wq_gos (f := 1) (pc2 := 97) (ls2 := [(3, .int 0), (0, .ref 162), (1, .int 6), (2, .int 35)]) (st2 := []) (h2 := h) (dc2 := dc) (ds2 := ds) 2 rfl ?_
    refine wq_sp1 rfl rfl ?_
    refine wq_gos (f := 1) (pc2 := 100) (ls2 := [(3, .int 0), (0, .ref 162), (1, .int 6), (2, .int 35)]) (st2 := [.int 35, .ref 13]) (h2 := h) (dc2 := dc) (ds2 := ds) 1 rfl ?_
    refine wq_sp1 rfl rfl ?_
    show wq 161 103 [(3, .int 0), (0, .ref 162), (1, .int 6), (2, .int 35)] [.int 115] h dc ds _
    refine wq_gos (f := 1) (pc2 := 97) (ls2 := [(2, .int 36), (3, .int 0), (0, .ref 162), (1, .int 6)]) (st2 := []) (h2 := h) (dc2 := dc) (ds2 := ds) 4 rfl ?_
    refine wq_sp1 rfl rfl ?_
    refine wq_gos (f := 1) (pc2 := 100) (ls2 := [(2, .int 36), (3, .int 0), (0, .ref 162), (1, .int 6)]) (st2 := [.int 36, .ref 13]) (h2 := h) (dc2 := dc) (ds2 := ds) 1 rfl ?_
    refine wq_sp1 rfl rfl ?_
    show wq 161 103 [(2, .int 36), (3, .int 0), (0, .ref 162), (1, .int 6)] [.int 101] h dc ds _
    refine wq_gos (f := 1) (pc2 := 97) (ls2 := [(2, .int 37), (3, .int 0), (0, .ref 162), (1, .int 6)]) (st2 := []) (h2 := h) (dc2 := dc) (ds2 := ds) 4 rfl ?_
    refine wq_sp1 rfl rfl ?_
    refine wq_gos (f := 1) (pc2 := 100) (ls2 := [(2, .int 37), (3, .int 0), (0, .ref 162), (1, .int 6)]) (st2 := [.int 37, .ref 13]) (h2 := h) (dc2 := dc) (ds2 := ds) 1 rfl ?_
    refine wq_sp1 rfl rfl ?_
    show wq 161 103 [(2, .int 37), (3, .int 0), (0, .ref 162), (1, .int 6)] [.int 101] h dc ds _
    refine wq_gos (f := 1) (pc2 := 97) (ls2 := [(2, .int 38), (3, .int 0), (0, .ref 162), (1, .int 6)]) (st2 := []) (h2 := h) (dc2 := dc) (ds2 := ds) 4 rfl ?_
    refine wq_sp1 rfl rfl ?_
    refine wq_gos (f := 1) (pc2 := 100) (ls2 := [(2, .int 38), (3, .int 0), (0, .ref 162), (1, .int 6)]) (st2 := [.int 38, .ref 13]) (h2 := h) (dc2 := dc) (ds2 := ds) 1 rfl ?_
    refine wq_sp1 rfl rfl ?_
    show wq 161 103 [(2, .int 38), (3, .int 0), (0, .ref 162), (1, .int 6)] [.int 100] h dc ds _
    refine wq_gos (f := 1) (pc2 := 97) (ls2 := [(2, .int 39), (3, .int 0), (0, .ref 162), (1, .int 6)]) (st2 := []) (h2 := h) (dc2 := dc) (ds2 := ds) 4 rfl ?_
    refine wq_sp1 rfl rfl ?_
    refine wq_gos (f := 1) (pc2 := 100) (ls2 := [(2, .int 39), (3, .int 0), (0, .ref 162), (1, .int 6)]) (st2 := [.int 39, .ref 13]) (h2 := h) (dc2 := dc) (ds2 := ds) 1 rfl ?_
    refine wq_sp1 rfl rfl ?_
    show wq 161 103 [(2, .int 39), (3, .int 0), (0, .ref 162), (1, .int 6)] [.int 32] h dc ds _
    refine wq_gos (f := 1) (pc2 := 4) (ls2 := [(1, .int 7), (2, .int 40), (3, .int 0), (0, .ref 162)]) (st2 := []) (h2 := h) (dc2 := dc) (ds2 := ds) 5 rfl ?_
    refine wq_ls [(0, .ref 162), (1, .int 7), (2, .int 40)] (show ([0, 1, 2] : List Nat).Nodup by decide) ⟨rfl, rfl, rfl, trivial⟩ ?_
    exact kN (by unfold mWs6; rw [if_pos b3x])
  · refine wq_gos (f := 1) (pc2 := 42) (ls2 := [(3, .int 0), (0, .ref 162), (1, .int 6), (2, .int 35)]) (st2 := [.ref 162]) (h2 := h) (dc2 := dc) (ds2 := ds) 1 rfl ?_
    refine wq_getf rfl hM rfl rfl ?_
    refine wq_gos (f := 1) (pc2 := 46) (ls2 := [(3, .int 0), (0, .ref 162), (1, .int 6), (2, .int 35)]) (st2 := [.ref 162, .ref 164]) (h2 := h) (dc2 := dc) (ds2 := ds) 1 rfl ?_
    refine wq_getf rfl hM rfl rfl ?_
    refine wq_gos (f := 1) (pc2 := 51) (ls2 := [(3, .int 0), (0, .ref 162), (1, .int 6), (2, .int 35)]) (st2 := [.int ((nI pl) + (0 : Int32)), .ref 164]) (h2 := h) (dc2 := dc) (ds2 := ds) 2 rfl ?_
    refine wq_vi (show (nI pl) + (0 : Int32) = nI (pl + 0) from nI_add pl 0) ?_
    refine wq_ialdn rfl hT (by first | omega | exact zin_t (by omega) (by omega)) (by decide) rfl ?_
    refine wq_sp1 rfl rfl ?_
    refine wq_gos (f := 1) (pc2 := 57) (ls2 := [(3, .int 0), (0, .ref 162), (1, .int 6), (2, .int 35)]) (st2 := [.int 35, .ref 13, .int (tb.getD (pl + 0) 0)]) (h2 := h) (dc2 := dc) (ds2 := ds) 3 rfl ?_
    refine wq_sp1 rfl rfl ?_
    show wq 161 60 [(3, .int 0), (0, .ref 162), (1, .int 6), (2, .int 35)] [.int 115, .int (tb.getD (pl + 0) 0)] h dc ds _
    have q4x : (115 : Int32).toInt = 115 := rfl
    refine wq_ne2 rfl rfl (fun b5x => ?_) (fun b5x => ?_)
    · have q6x : (tb.getD (pl + 0) 0).toInt ≠ 115 := fun q => b5x (Int32.toInt_inj.mp q)
      refine wq_sp1 rfl rfl ?_
      refine wq_gos (f := 1) (pc2 := 74) (ls2 := [(3, .int 0), (0, .ref 162), (1, .int 6), (2, .int 35)]) (st2 := [.int 35, .ref 13]) (h2 := h) (dc2 := dc) (ds2 := ds) 3 rfl ?_
      refine wq_sp1 rfl rfl ?_
      show wq 161 77 [(3, .int 0), (0, .ref 162), (1, .int 6), (2, .int 35)] [.int 115] h dc ds _
      refine wq_gos (f := 1) (pc2 := 97) (ls2 := [(3, .int 0), (0, .ref 162), (1, .int 6), (2, .int 35)]) (st2 := []) (h2 := h) (dc2 := dc) (ds2 := ds) 2 rfl ?_
      refine wq_sp1 rfl rfl ?_
      refine wq_gos (f := 1) (pc2 := 100) (ls2 := [(3, .int 0), (0, .ref 162), (1, .int 6), (2, .int 35)]) (st2 := [.int 35, .ref 13]) (h2 := h) (dc2 := dc) (ds2 := ds) 1 rfl ?_
      refine wq_sp1 rfl rfl ?_
      show wq 161 103 [(3, .int 0), (0, .ref 162), (1, .int 6), (2, .int 35)] [.int 115] h dc ds _
      refine wq_gos (f := 1) (pc2 := 97) (ls2 := [(2, .int 36), (3, .int 0), (0, .ref 162), (1, .int 6)]) (st2 := []) (h2 := h) (dc2 := dc) (ds2 := ds) 4 rfl ?_
      refine wq_sp1 rfl rfl ?_
      refine wq_gos (f := 1) (pc2 := 100) (ls2 := [(2, .int 36), (3, .int 0), (0, .ref 162), (1, .int 6)]) (st2 := [.int 36, .ref 13]) (h2 := h) (dc2 := dc) (ds2 := ds) 1 rfl ?_
      refine wq_sp1 rfl rfl ?_
      show wq 161 103 [(2, .int 36), (3, .int 0), (0, .ref 162), (1, .int 6)] [.int 101] h dc ds _
      refine wq_gos (f := 1) (pc2 := 97) (ls2 := [(2, .int 37), (3, .int 0), (0, .ref 162), (1, .int 6)]) (st2 := []) (h2 := h) (dc2 := dc) (ds2 := ds) 4 rfl ?_
      refine wq_sp1 rfl rfl ?_
      refine wq_gos (f := 1) (pc2 := 100) (ls2 := [(2, .int 37), (3, .int 0), (0, .ref 162), (1, .int 6)]) (st2 := [.int 37, .ref 13]) (h2 := h) (dc2 := dc) (ds2 := ds) 1 rfl ?_
      refine wq_sp1 rfl rfl ?_
      show wq 161 103 [(2, .int 37), (3, .int 0), (0, .ref 162), (1, .int 6)] [.int 101] h dc ds _
      refine wq_gos (f := 1) (pc2 := 97) (ls2 := [(2, .int 38), (3, .int 0), (0, .ref 162), (1, .int 6)]) (st2 := []) (h2 := h) (dc2 := dc) (ds2 := ds) 4 rfl ?_
      refine wq_sp1 rfl rfl ?_
      refine wq_gos (f := 1) (pc2 := 100) (ls2 := [(2, .int 38), (3, .int 0), (0, .ref 162), (1, .int 6)]) (st2 := [.int 38, .ref 13]) (h2 := h) (dc2 := dc) (ds2 := ds) 1 rfl ?_
      refine wq_sp1 rfl rfl ?_
      show wq 161 103 [(2, .int 38), (3, .int 0), (0, .ref 162), (1, .int 6)] [.int 100] h dc ds _
      refine wq_gos (f := 1) (pc2 := 97) (ls2 := [(2, .int 39), (3, .int 0), (0, .ref 162), (1, .int 6)]) (st2 := []) (h2 := h) (dc2 := dc) (ds2 := ds) 4 rfl ?_
      refine wq_sp1 rfl rfl ?_
      refine wq_gos (f := 1) (pc2 := 100) (ls2 := [(2, .int 39), (3, .int 0), (0, .ref 162), (1, .int 6)]) (st2 := [.int 39, .ref 13]) (h2 := h) (dc2 := dc) (ds2 := ds) 1 rfl ?_
      refine wq_sp1 rfl rfl ?_
      show wq 161 103 [(2, .int 39), (3, .int 0), (0, .ref 162), (1, .int 6)] [.int 32] h dc ds _
      refine wq_gos (f := 1) (pc2 := 4) (ls2 := [(1, .int 7), (2, .int 40), (3, .int 0), (0, .ref 162)]) (st2 := []) (h2 := h) (dc2 := dc) (ds2 := ds) 5 rfl ?_
      refine wq_ls [(0, .ref 162), (1, .int 7), (2, .int 40)] (show ([0, 1, 2] : List Nat).Nodup by decide) ⟨rfl, rfl, rfl, trivial⟩ ?_
      exact kN (by unfold mWs6; rw [if_neg (Int.not_le.mpr b3x), if_pos b5x])
    · have q7x : (tb.getD (pl + 0) 0).toInt = 115 := congrArg Int32.toInt b5x
      refine wq_gos (f := 1) (pc2 := 15) (ls2 := [(3, .int 1), (0, .ref 162), (1, .int 6), (2, .int 35)]) (st2 := []) (h2 := h) (dc2 := dc) (ds2 := ds) 2 rfl ?_
      refine wq_sp1 rfl rfl ?_
      refine wq_gos (f := 1) (pc2 := 20) (ls2 := [(3, .int 1), (0, .ref 162), (1, .int 6), (2, .int 35)]) (st2 := [.int 36, .ref 13]) (h2 := h) (dc2 := dc) (ds2 := ds) 3 rfl ?_
      refine wq_sp1 rfl rfl ?_
      show wq 161 23 [(3, .int 1), (0, .ref 162), (1, .int 6), (2, .int 35)] [.int 101] h dc ds _
      refine wq_gos (f := 1) (pc2 := 29) (ls2 := [(3, .int 1), (0, .ref 162), (1, .int 6), (2, .int 35)]) (st2 := [.ref 162]) (h2 := h) (dc2 := dc) (ds2 := ds) 3 rfl ?_
      refine wq_getf rfl hM rfl rfl ?_
      refine wq_gos (f := 1) (pc2 := 34) (ls2 := [(3, .int 1), (0, .ref 162), (1, .int 6), (2, .int 35)]) (st2 := [.int ((nI pl) + (1 : Int32))]) (h2 := h) (dc2 := dc) (ds2 := ds) 2 rfl ?_
      refine wq_vi (show (nI pl) + (1 : Int32) = nI (pl + 1) from nI_add pl 1) ?_
      refine wq_gos (f := 1) (pc2 := 35) (ls2 := [(3, .int 1), (0, .ref 162), (1, .int 6), (2, .int 35)]) (st2 := [.ref 162, .int (nI (pl + 1))]) (h2 := h) (dc2 := dc) (ds2 := ds) 1 rfl ?_
      refine wq_getf rfl hM rfl rfl ?_
      try have q8x := nI_toInt (n := (pl + 1)) (by omega)
      refine wq_ge2 rfl rfl (fun b9x => ?_) (fun b9x => ?_)
      · refine wq_sp1 rfl rfl ?_
        refine wq_gos (f := 1) (pc2 := 74) (ls2 := [(3, .int 1), (0, .ref 162), (1, .int 6), (2, .int 35)]) (st2 := [.int 36, .ref 13]) (h2 := h) (dc2 := dc) (ds2 := ds) 3 rfl ?_
        refine wq_sp1 rfl rfl ?_
        show wq 161 77 [(3, .int 1), (0, .ref 162), (1, .int 6), (2, .int 35)] [.int 101] h dc ds _
        refine wq_gos (f := 1) (pc2 := 97) (ls2 := [(3, .int 1), (0, .ref 162), (1, .int 6), (2, .int 35)]) (st2 := []) (h2 := h) (dc2 := dc) (ds2 := ds) 2 rfl ?_
        refine wq_sp1 rfl rfl ?_
        refine wq_gos (f := 1) (pc2 := 100) (ls2 := [(3, .int 1), (0, .ref 162), (1, .int 6), (2, .int 35)]) (st2 := [.int 35, .ref 13]) (h2 := h) (dc2 := dc) (ds2 := ds) 1 rfl ?_
        refine wq_sp1 rfl rfl ?_
        show wq 161 103 [(3, .int 1), (0, .ref 162), (1, .int 6), (2, .int 35)] [.int 115] h dc ds _
        refine wq_gos (f := 1) (pc2 := 97) (ls2 := [(2, .int 36), (3, .int 1), (0, .ref 162), (1, .int 6)]) (st2 := []) (h2 := h) (dc2 := dc) (ds2 := ds) 4 rfl ?_
        refine wq_sp1 rfl rfl ?_
        refine wq_gos (f := 1) (pc2 := 100) (ls2 := [(2, .int 36), (3, .int 1), (0, .ref 162), (1, .int 6)]) (st2 := [.int 36, .ref 13]) (h2 := h) (dc2 := dc) (ds2 := ds) 1 rfl ?_
        refine wq_sp1 rfl rfl ?_
        show wq 161 103 [(2, .int 36), (3, .int 1), (0, .ref 162), (1, .int 6)] [.int 101] h dc ds _
        refine wq_gos (f := 1) (pc2 := 97) (ls2 := [(2, .int 37), (3, .int 1), (0, .ref 162), (1, .int 6)]) (st2 := []) (h2 := h) (dc2 := dc) (ds2 := ds) 4 rfl ?_
        refine wq_sp1 rfl rfl ?_
        refine wq_gos (f := 1) (pc2 := 100) (ls2 := [(2, .int 37), (3, .int 1), (0, .ref 162), (1, .int 6)]) (st2 := [.int 37, .ref 13]) (h2 := h) (dc2 := dc) (ds2 := ds) 1 rfl ?_
        refine wq_sp1 rfl rfl ?_
        show wq 161 103 [(2, .int 37), (3, .int 1), (0, .ref 162), (1, .int 6)] [.int 101] h dc ds _
        refine wq_gos (f := 1) (pc2 := 97) (ls2 := [(2, .int 38), (3, .int 1), (0, .ref 162), (1, .int 6)]) (st2 := []) (h2 := h) (dc2 := dc) (ds2 := ds) 4 rfl ?_
        refine wq_sp1 rfl rfl ?_
        refine wq_gos (f := 1) (pc2 := 100) (ls2 := [(2, .int 38), (3, .int 1), (0, .ref 162), (1, .int 6)]) (st2 := [.int 38, .ref 13]) (h2 := h) (dc2 := dc) (ds2 := ds) 1 rfl ?_
        refine wq_sp1 rfl rfl ?_
        show wq 161 103 [(2, .int 38), (3, .int 1), (0, .ref 162), (1, .int 6)] [.int 100] h dc ds _
        refine wq_gos (f := 1) (pc2 := 97) (ls2 := [(2, .int 39), (3, .int 1), (0, .ref 162), (1, .int 6)]) (st2 := []) (h2 := h) (dc2 := dc) (ds2 := ds) 4 rfl ?_
        refine wq_sp1 rfl rfl ?_
        refine wq_gos (f := 1) (pc2 := 100) (ls2 := [(2, .int 39), (3, .int 1), (0, .ref 162), (1, .int 6)]) (st2 := [.int 39, .ref 13]) (h2 := h) (dc2 := dc) (ds2 := ds) 1 rfl ?_
        refine wq_sp1 rfl rfl ?_
        show wq 161 103 [(2, .int 39), (3, .int 1), (0, .ref 162), (1, .int 6)] [.int 32] h dc ds _
        refine wq_gos (f := 1) (pc2 := 4) (ls2 := [(1, .int 7), (2, .int 40), (3, .int 1), (0, .ref 162)]) (st2 := []) (h2 := h) (dc2 := dc) (ds2 := ds) 5 rfl ?_
        refine wq_ls [(0, .ref 162), (1, .int 7), (2, .int 40)] (show ([0, 1, 2] : List Nat).Nodup by decide) ⟨rfl, rfl, rfl, trivial⟩ ?_
        exact kN (by unfold mWs6; rw [if_neg (Int.not_le.mpr b3x), if_neg (fun q => q b5x), if_pos b9x])
      · refine wq_gos (f := 1) (pc2 := 42) (ls2 := [(3, .int 1), (0, .ref 162), (1, .int 6), (2, .int 35)]) (st2 := [.ref 162]) (h2 := h) (dc2 := dc) (ds2 := ds) 1 rfl ?_
        refine wq_getf rfl hM rfl rfl ?_
        refine wq_gos (f := 1) (pc2 := 46) (ls2 := [(3, .int 1), (0, .ref 162), (1, .int 6), (2, .int 35)]) (st2 := [.ref 162, .ref 164]) (h2 := h) (dc2 := dc) (ds2 := ds) 1 rfl ?_
        refine wq_getf rfl hM rfl rfl ?_
        refine wq_gos (f := 1) (pc2 := 51) (ls2 := [(3, .int 1), (0, .ref 162), (1, .int 6), (2, .int 35)]) (st2 := [.int ((nI pl) + (1 : Int32)), .ref 164]) (h2 := h) (dc2 := dc) (ds2 := ds) 2 rfl ?_
        refine wq_vi (show (nI pl) + (1 : Int32) = nI (pl + 1) from nI_add pl 1) ?_
        refine wq_ialdn rfl hT (by first | omega | exact zin_t (by omega) (by omega)) (by decide) rfl ?_
        refine wq_sp1 rfl rfl ?_
        refine wq_gos (f := 1) (pc2 := 57) (ls2 := [(3, .int 1), (0, .ref 162), (1, .int 6), (2, .int 35)]) (st2 := [.int 36, .ref 13, .int (tb.getD (pl + 1) 0)]) (h2 := h) (dc2 := dc) (ds2 := ds) 3 rfl ?_
        refine wq_sp1 rfl rfl ?_
        show wq 161 60 [(3, .int 1), (0, .ref 162), (1, .int 6), (2, .int 35)] [.int 101, .int (tb.getD (pl + 1) 0)] h dc ds _
        have q10x : (101 : Int32).toInt = 101 := rfl
        refine wq_ne2 rfl rfl (fun b11x => ?_) (fun b11x => ?_)
        · have q12x : (tb.getD (pl + 1) 0).toInt ≠ 101 := fun q => b11x (Int32.toInt_inj.mp q)
          refine wq_sp1 rfl rfl ?_
          refine wq_gos (f := 1) (pc2 := 74) (ls2 := [(3, .int 1), (0, .ref 162), (1, .int 6), (2, .int 35)]) (st2 := [.int 36, .ref 13]) (h2 := h) (dc2 := dc) (ds2 := ds) 3 rfl ?_
          refine wq_sp1 rfl rfl ?_
          show wq 161 77 [(3, .int 1), (0, .ref 162), (1, .int 6), (2, .int 35)] [.int 101] h dc ds _
          refine wq_gos (f := 1) (pc2 := 97) (ls2 := [(3, .int 1), (0, .ref 162), (1, .int 6), (2, .int 35)]) (st2 := []) (h2 := h) (dc2 := dc) (ds2 := ds) 2 rfl ?_
          refine wq_sp1 rfl rfl ?_
          refine wq_gos (f := 1) (pc2 := 100) (ls2 := [(3, .int 1), (0, .ref 162), (1, .int 6), (2, .int 35)]) (st2 := [.int 35, .ref 13]) (h2 := h) (dc2 := dc) (ds2 := ds) 1 rfl ?_
          refine wq_sp1 rfl rfl ?_
          show wq 161 103 [(3, .int 1), (0, .ref 162), (1, .int 6), (2, .int 35)] [.int 115] h dc ds _
          refine wq_gos (f := 1) (pc2 := 97) (ls2 := [(2, .int 36), (3, .int 1), (0, .ref 162), (1, .int 6)]) (st2 := []) (h2 := h) (dc2 := dc) (ds2 := ds) 4 rfl ?_
          refine wq_sp1 rfl rfl ?_
          refine wq_gos (f := 1) (pc2 := 100) (ls2 := [(2, .int 36), (3, .int 1), (0, .ref 162), (1, .int 6)]) (st2 := [.int 36, .ref 13]) (h2 := h) (dc2 := dc) (ds2 := ds) 1 rfl ?_
          refine wq_sp1 rfl rfl ?_
          show wq 161 103 [(2, .int 36), (3, .int 1), (0, .ref 162), (1, .int 6)] [.int 101] h dc ds _
          refine wq_gos (f := 1) (pc2 := 97) (ls2 := [(2, .int 37), (3, .int 1), (0, .ref 162), (1, .int 6)]) (st2 := []) (h2 := h) (dc2 := dc) (ds2 := ds) 4 rfl ?_
          refine wq_sp1 rfl rfl ?_
          refine wq_gos (f := 1) (pc2 := 100) (ls2 := [(2, .int 37), (3, .int 1), (0, .ref 162), (1, .int 6)]) (st2 := [.int 37, .ref 13]) (h2 := h) (dc2 := dc) (ds2 := ds) 1 rfl ?_
          refine wq_sp1 rfl rfl ?_
          show wq 161 103 [(2, .int 37), (3, .int 1), (0, .ref 162), (1, .int 6)] [.int 101] h dc ds _
          refine wq_gos (f := 1) (pc2 := 97) (ls2 := [(2, .int 38), (3, .int 1), (0, .ref 162), (1, .int 6)]) (st2 := []) (h2 := h) (dc2 := dc) (ds2 := ds) 4 rfl ?_
          refine wq_sp1 rfl rfl ?_
          refine wq_gos (f := 1) (pc2 := 100) (ls2 := [(2, .int 38), (3, .int 1), (0, .ref 162), (1, .int 6)]) (st2 := [.int 38, .ref 13]) (h2 := h) (dc2 := dc) (ds2 := ds) 1 rfl ?_
          refine wq_sp1 rfl rfl ?_
          show wq 161 103 [(2, .int 38), (3, .int 1), (0, .ref 162), (1, .int 6)] [.int 100] h dc ds _
          refine wq_gos (f := 1) (pc2 := 97) (ls2 := [(2, .int 39), (3, .int 1), (0, .ref 162), (1, .int 6)]) (st2 := []) (h2 := h) (dc2 := dc) (ds2 := ds) 4 rfl ?_
          refine wq_sp1 rfl rfl ?_
          refine wq_gos (f := 1) (pc2 := 100) (ls2 := [(2, .int 39), (3, .int 1), (0, .ref 162), (1, .int 6)]) (st2 := [.int 39, .ref 13]) (h2 := h) (dc2 := dc) (ds2 := ds) 1 rfl ?_
          refine wq_sp1 rfl rfl ?_
          show wq 161 103 [(2, .int 39), (3, .int 1), (0, .ref 162), (1, .int 6)] [.int 32] h dc ds _
          refine wq_gos (f := 1) (pc2 := 4) (ls2 := [(1, .int 7), (2, .int 40), (3, .int 1), (0, .ref 162)]) (st2 := []) (h2 := h) (dc2 := dc) (ds2 := ds) 5 rfl ?_
          refine wq_ls [(0, .ref 162), (1, .int 7), (2, .int 40)] (show ([0, 1, 2] : List Nat).Nodup by decide) ⟨rfl, rfl, rfl, trivial⟩ ?_
          exact kN (by unfold mWs6; rw [if_neg (Int.not_le.mpr b3x), if_neg (fun q => q b5x), if_neg (Int.not_le.mpr b9x), if_pos b11x])
        · have q13x : (tb.getD (pl + 1) 0).toInt = 101 := congrArg Int32.toInt b11x
          refine wq_gos (f := 1) (pc2 := 15) (ls2 := [(3, .int 2), (0, .ref 162), (1, .int 6), (2, .int 35)]) (st2 := []) (h2 := h) (dc2 := dc) (ds2 := ds) 2 rfl ?_
          refine wq_sp1 rfl rfl ?_
          refine wq_gos (f := 1) (pc2 := 20) (ls2 := [(3, .int 2), (0, .ref 162), (1, .int 6), (2, .int 35)]) (st2 := [.int 37, .ref 13]) (h2 := h) (dc2 := dc) (ds2 := ds) 3 rfl ?_
          refine wq_sp1 rfl rfl ?_
          show wq 161 23 [(3, .int 2), (0, .ref 162), (1, .int 6), (2, .int 35)] [.int 101] h dc ds _
          refine wq_gos (f := 1) (pc2 := 29) (ls2 := [(3, .int 2), (0, .ref 162), (1, .int 6), (2, .int 35)]) (st2 := [.ref 162]) (h2 := h) (dc2 := dc) (ds2 := ds) 3 rfl ?_
          refine wq_getf rfl hM rfl rfl ?_
          refine wq_gos (f := 1) (pc2 := 34) (ls2 := [(3, .int 2), (0, .ref 162), (1, .int 6), (2, .int 35)]) (st2 := [.int ((nI pl) + (2 : Int32))]) (h2 := h) (dc2 := dc) (ds2 := ds) 2 rfl ?_
          refine wq_vi (show (nI pl) + (2 : Int32) = nI (pl + 2) from nI_add pl 2) ?_
          refine wq_gos (f := 1) (pc2 := 35) (ls2 := [(3, .int 2), (0, .ref 162), (1, .int 6), (2, .int 35)]) (st2 := [.ref 162, .int (nI (pl + 2))]) (h2 := h) (dc2 := dc) (ds2 := ds) 1 rfl ?_
          refine wq_getf rfl hM rfl rfl ?_
          try have q14x := nI_toInt (n := (pl + 2)) (by omega)
          refine wq_ge2 rfl rfl (fun b15x => ?_) (fun b15x => ?_)
          · refine wq_sp1 rfl rfl ?_
            refine wq_gos (f := 1) (pc2 := 74) (ls2 := [(3, .int 2), (0, .ref 162), (1, .int 6), (2, .int 35)]) (st2 := [.int 37, .ref 13]) (h2 := h) (dc2 := dc) (ds2 := ds) 3 rfl ?_
            refine wq_sp1 rfl rfl ?_
            show wq 161 77 [(3, .int 2), (0, .ref 162), (1, .int 6), (2, .int 35)] [.int 101] h dc ds _
            refine wq_gos (f := 1) (pc2 := 97) (ls2 := [(3, .int 2), (0, .ref 162), (1, .int 6), (2, .int 35)]) (st2 := []) (h2 := h) (dc2 := dc) (ds2 := ds) 2 rfl ?_
            refine wq_sp1 rfl rfl ?_
            refine wq_gos (f := 1) (pc2 := 100) (ls2 := [(3, .int 2), (0, .ref 162), (1, .int 6), (2, .int 35)]) (st2 := [.int 35, .ref 13]) (h2 := h) (dc2 := dc) (ds2 := ds) 1 rfl ?_
            refine wq_sp1 rfl rfl ?_
            show wq 161 103 [(3, .int 2), (0, .ref 162), (1, .int 6), (2, .int 35)] [.int 115] h dc ds _
            refine wq_gos (f := 1) (pc2 := 97) (ls2 := [(2, .int 36), (3, .int 2), (0, .ref 162), (1, .int 6)]) (st2 := []) (h2 := h) (dc2 := dc) (ds2 := ds) 4 rfl ?_
            refine wq_sp1 rfl rfl ?_
            refine wq_gos (f := 1) (pc2 := 100) (ls2 := [(2, .int 36), (3, .int 2), (0, .ref 162), (1, .int 6)]) (st2 := [.int 36, .ref 13]) (h2 := h) (dc2 := dc) (ds2 := ds) 1 rfl ?_
            refine wq_sp1 rfl rfl ?_
            show wq 161 103 [(2, .int 36), (3, .int 2), (0, .ref 162), (1, .int 6)] [.int 101] h dc ds _
            refine wq_gos (f := 1) (pc2 := 97) (ls2 := [(2, .int 37), (3, .int 2), (0, .ref 162), (1, .int 6)]) (st2 := []) (h2 := h) (dc2 := dc) (ds2 := ds) 4 rfl ?_
            refine wq_sp1 rfl rfl ?_
            refine wq_gos (f := 1) (pc2 := 100) (ls2 := [(2, .int 37), (3, .int 2), (0, .ref 162), (1, .int 6)]) (st2 := [.int 37, .ref 13]) (h2 := h) (dc2 := dc) (ds2 := ds) 1 rfl ?_
            refine wq_sp1 rfl rfl ?_
            show wq 161 103 [(2, .int 37), (3, .int 2), (0, .ref 162), (1, .int 6)] [.int 101] h dc ds _
            refine wq_gos (f := 1) (pc2 := 97) (ls2 := [(2, .int 38), (3, .int 2), (0, .ref 162), (1, .int 6)]) (st2 := []) (h2 := h) (dc2 := dc) (ds2 := ds) 4 rfl ?_
            refine wq_sp1 rfl rfl ?_
            refine wq_gos (f := 1) (pc2 := 100) (ls2 := [(2, .int 38), (3, .int 2), (0, .ref 162), (1, .int 6)]) (st2 := [.int 38, .ref 13]) (h2 := h) (dc2 := dc) (ds2 := ds) 1 rfl ?_
            refine wq_sp1 rfl rfl ?_
            show wq 161 103 [(2, .int 38), (3, .int 2), (0, .ref 162), (1, .int 6)] [.int 100] h dc ds _
            refine wq_gos (f := 1) (pc2 := 97) (ls2 := [(2, .int 39), (3, .int 2), (0, .ref 162), (1, .int 6)]) (st2 := []) (h2 := h) (dc2 := dc) (ds2 := ds) 4 rfl ?_
            refine wq_sp1 rfl rfl ?_
            refine wq_gos (f := 1) (pc2 := 100) (ls2 := [(2, .int 39), (3, .int 2), (0, .ref 162), (1, .int 6)]) (st2 := [.int 39, .ref 13]) (h2 := h) (dc2 := dc) (ds2 := ds) 1 rfl ?_
            refine wq_sp1 rfl rfl ?_
            show wq 161 103 [(2, .int 39), (3, .int 2), (0, .ref 162), (1, .int 6)] [.int 32] h dc ds _
            refine wq_gos (f := 1) (pc2 := 4) (ls2 := [(1, .int 7), (2, .int 40), (3, .int 2), (0, .ref 162)]) (st2 := []) (h2 := h) (dc2 := dc) (ds2 := ds) 5 rfl ?_
            refine wq_ls [(0, .ref 162), (1, .int 7), (2, .int 40)] (show ([0, 1, 2] : List Nat).Nodup by decide) ⟨rfl, rfl, rfl, trivial⟩ ?_
            exact kN (by unfold mWs6; rw [if_neg (Int.not_le.mpr b3x), if_neg (fun q => q b5x), if_neg (Int.not_le.mpr b9x), if_neg (fun q => q b11x), if_pos b15x])
          · refine wq_gos (f := 1) (pc2 := 42) (ls2 := [(3, .int 2), (0, .ref 162), (1, .int 6), (2, .int 35)]) (st2 := [.ref 162]) (h2 := h) (dc2 := dc) (ds2 := ds) 1 rfl ?_
            refine wq_getf rfl hM rfl rfl ?_
            refine wq_gos (f := 1) (pc2 := 46) (ls2 := [(3, .int 2), (0, .ref 162), (1, .int 6), (2, .int 35)]) (st2 := [.ref 162, .ref 164]) (h2 := h) (dc2 := dc) (ds2 := ds) 1 rfl ?_
            refine wq_getf rfl hM rfl rfl ?_
            refine wq_gos (f := 1) (pc2 := 51) (ls2 := [(3, .int 2), (0, .ref 162), (1, .int 6), (2, .int 35)]) (st2 := [.int ((nI pl) + (2 : Int32)), .ref 164]) (h2 := h) (dc2 := dc) (ds2 := ds) 2 rfl ?_
            refine wq_vi (show (nI pl) + (2 : Int32) = nI (pl + 2) from nI_add pl 2) ?_
            refine wq_ialdn rfl hT (by first | omega | exact zin_t (by omega) (by omega)) (by decide) rfl ?_
            refine wq_sp1 rfl rfl ?_
            refine wq_gos (f := 1) (pc2 := 57) (ls2 := [(3, .int 2), (0, .ref 162), (1, .int 6), (2, .int 35)]) (st2 := [.int 37, .ref 13, .int (tb.getD (pl + 2) 0)]) (h2 := h) (dc2 := dc) (ds2 := ds) 3 rfl ?_
            refine wq_sp1 rfl rfl ?_
            show wq 161 60 [(3, .int 2), (0, .ref 162), (1, .int 6), (2, .int 35)] [.int 101, .int (tb.getD (pl + 2) 0)] h dc ds _
            refine wq_ne2 rfl rfl (fun b16x => ?_) (fun b16x => ?_)
            · have q17x : (tb.getD (pl + 2) 0).toInt ≠ 101 := fun q => b16x (Int32.toInt_inj.mp q)
              refine wq_sp1 rfl rfl ?_
              refine wq_gos (f := 1) (pc2 := 74) (ls2 := [(3, .int 2), (0, .ref 162), (1, .int 6), (2, .int 35)]) (st2 := [.int 37, .ref 13]) (h2 := h) (dc2 := dc) (ds2 := ds) 3 rfl ?_
              refine wq_sp1 rfl rfl ?_
              show wq 161 77 [(3, .int 2), (0, .ref 162), (1, .int 6), (2, .int 35)] [.int 101] h dc ds _
              refine wq_gos (f := 1) (pc2 := 97) (ls2 := [(3, .int 2), (0, .ref 162), (1, .int 6), (2, .int 35)]) (st2 := []) (h2 := h) (dc2 := dc) (ds2 := ds) 2 rfl ?_
              refine wq_sp1 rfl rfl ?_
              refine wq_gos (f := 1) (pc2 := 100) (ls2 := [(3, .int 2), (0, .ref 162), (1, .int 6), (2, .int 35)]) (st2 := [.int 35, .ref 13]) (h2 := h) (dc2 := dc) (ds2 := ds) 1 rfl ?_
              refine wq_sp1 rfl rfl ?_
              show wq 161 103 [(3, .int 2), (0, .ref 162), (1, .int 6), (2, .int 35)] [.int 115] h dc ds _
              refine wq_gos (f := 1) (pc2 := 97) (ls2 := [(2, .int 36), (3, .int 2), (0, .ref 162), (1, .int 6)]) (st2 := []) (h2 := h) (dc2 := dc) (ds2 := ds) 4 rfl ?_
              refine wq_sp1 rfl rfl ?_
              refine wq_gos (f := 1) (pc2 := 100) (ls2 := [(2, .int 36), (3, .int 2), (0, .ref 162), (1, .int 6)]) (st2 := [.int 36, .ref 13]) (h2 := h) (dc2 := dc) (ds2 := ds) 1 rfl ?_
              refine wq_sp1 rfl rfl ?_
              show wq 161 103 [(2, .int 36), (3, .int 2), (0, .ref 162), (1, .int 6)] [.int 101] h dc ds _
              refine wq_gos (f := 1) (pc2 := 97) (ls2 := [(2, .int 37), (3, .int 2), (0, .ref 162), (1, .int 6)]) (st2 := []) (h2 := h) (dc2 := dc) (ds2 := ds) 4 rfl ?_
              refine wq_sp1 rfl rfl ?_
              refine wq_gos (f := 1) (pc2 := 100) (ls2 := [(2, .int 37), (3, .int 2), (0, .ref 162), (1, .int 6)]) (st2 := [.int 37, .ref 13]) (h2 := h) (dc2 := dc) (ds2 := ds) 1 rfl ?_
              refine wq_sp1 rfl rfl ?_
              show wq 161 103 [(2, .int 37), (3, .int 2), (0, .ref 162), (1, .int 6)] [.int 101] h dc ds _
              refine wq_gos (f := 1) (pc2 := 97) (ls2 := [(2, .int 38), (3, .int 2), (0, .ref 162), (1, .int 6)]) (st2 := []) (h2 := h) (dc2 := dc) (ds2 := ds) 4 rfl ?_
              refine wq_sp1 rfl rfl ?_
              refine wq_gos (f := 1) (pc2 := 100) (ls2 := [(2, .int 38), (3, .int 2), (0, .ref 162), (1, .int 6)]) (st2 := [.int 38, .ref 13]) (h2 := h) (dc2 := dc) (ds2 := ds) 1 rfl ?_
              refine wq_sp1 rfl rfl ?_
              show wq 161 103 [(2, .int 38), (3, .int 2), (0, .ref 162), (1, .int 6)] [.int 100] h dc ds _
              refine wq_gos (f := 1) (pc2 := 97) (ls2 := [(2, .int 39), (3, .int 2), (0, .ref 162), (1, .int 6)]) (st2 := []) (h2 := h) (dc2 := dc) (ds2 := ds) 4 rfl ?_
              refine wq_sp1 rfl rfl ?_
              refine wq_gos (f := 1) (pc2 := 100) (ls2 := [(2, .int 39), (3, .int 2), (0, .ref 162), (1, .int 6)]) (st2 := [.int 39, .ref 13]) (h2 := h) (dc2 := dc) (ds2 := ds) 1 rfl ?_
              refine wq_sp1 rfl rfl ?_
              show wq 161 103 [(2, .int 39), (3, .int 2), (0, .ref 162), (1, .int 6)] [.int 32] h dc ds _
              refine wq_gos (f := 1) (pc2 := 4) (ls2 := [(1, .int 7), (2, .int 40), (3, .int 2), (0, .ref 162)]) (st2 := []) (h2 := h) (dc2 := dc) (ds2 := ds) 5 rfl ?_
              refine wq_ls [(0, .ref 162), (1, .int 7), (2, .int 40)] (show ([0, 1, 2] : List Nat).Nodup by decide) ⟨rfl, rfl, rfl, trivial⟩ ?_
              exact kN (by unfold mWs6; rw [if_neg (Int.not_le.mpr b3x), if_neg (fun q => q b5x), if_neg (Int.not_le.mpr b9x), if_neg (fun q => q b11x), if_neg (Int.not_le.mpr b15x), if_pos b16x])
            · have q18x : (tb.getD (pl + 2) 0).toInt = 101 := congrArg Int32.toInt b16x
              refine wq_gos (f := 1) (pc2 := 15) (ls2 := [(3, .int 3), (0, .ref 162), (1, .int 6), (2, .int 35)]) (st2 := []) (h2 := h) (dc2 := dc) (ds2 := ds) 2 rfl ?_
              refine wq_sp1 rfl rfl ?_
              refine wq_gos (f := 1) (pc2 := 20) (ls2 := [(3, .int 3), (0, .ref 162), (1, .int 6), (2, .int 35)]) (st2 := [.int 38, .ref 13]) (h2 := h) (dc2 := dc) (ds2 := ds) 3 rfl ?_
              refine wq_sp1 rfl rfl ?_
              show wq 161 23 [(3, .int 3), (0, .ref 162), (1, .int 6), (2, .int 35)] [.int 100] h dc ds _
              refine wq_gos (f := 1) (pc2 := 29) (ls2 := [(3, .int 3), (0, .ref 162), (1, .int 6), (2, .int 35)]) (st2 := [.ref 162]) (h2 := h) (dc2 := dc) (ds2 := ds) 3 rfl ?_
              refine wq_getf rfl hM rfl rfl ?_
              refine wq_gos (f := 1) (pc2 := 34) (ls2 := [(3, .int 3), (0, .ref 162), (1, .int 6), (2, .int 35)]) (st2 := [.int ((nI pl) + (3 : Int32))]) (h2 := h) (dc2 := dc) (ds2 := ds) 2 rfl ?_
              refine wq_vi (show (nI pl) + (3 : Int32) = nI (pl + 3) from nI_add pl 3) ?_
              refine wq_gos (f := 1) (pc2 := 35) (ls2 := [(3, .int 3), (0, .ref 162), (1, .int 6), (2, .int 35)]) (st2 := [.ref 162, .int (nI (pl + 3))]) (h2 := h) (dc2 := dc) (ds2 := ds) 1 rfl ?_
              refine wq_getf rfl hM rfl rfl ?_
              try have q19x := nI_toInt (n := (pl + 3)) (by omega)
              refine wq_ge2 rfl rfl (fun b20x => ?_) (fun b20x => ?_)
              · refine wq_sp1 rfl rfl ?_
                refine wq_gos (f := 1) (pc2 := 74) (ls2 := [(3, .int 3), (0, .ref 162), (1, .int 6), (2, .int 35)]) (st2 := [.int 38, .ref 13]) (h2 := h) (dc2 := dc) (ds2 := ds) 3 rfl ?_
                refine wq_sp1 rfl rfl ?_
                show wq 161 77 [(3, .int 3), (0, .ref 162), (1, .int 6), (2, .int 35)] [.int 100] h dc ds _
                refine wq_gos (f := 1) (pc2 := 97) (ls2 := [(3, .int 3), (0, .ref 162), (1, .int 6), (2, .int 35)]) (st2 := []) (h2 := h) (dc2 := dc) (ds2 := ds) 2 rfl ?_
                refine wq_sp1 rfl rfl ?_
                refine wq_gos (f := 1) (pc2 := 100) (ls2 := [(3, .int 3), (0, .ref 162), (1, .int 6), (2, .int 35)]) (st2 := [.int 35, .ref 13]) (h2 := h) (dc2 := dc) (ds2 := ds) 1 rfl ?_
                refine wq_sp1 rfl rfl ?_
                show wq 161 103 [(3, .int 3), (0, .ref 162), (1, .int 6), (2, .int 35)] [.int 115] h dc ds _
                refine wq_gos (f := 1) (pc2 := 97) (ls2 := [(2, .int 36), (3, .int 3), (0, .ref 162), (1, .int 6)]) (st2 := []) (h2 := h) (dc2 := dc) (ds2 := ds) 4 rfl ?_
                refine wq_sp1 rfl rfl ?_
                refine wq_gos (f := 1) (pc2 := 100) (ls2 := [(2, .int 36), (3, .int 3), (0, .ref 162), (1, .int 6)]) (st2 := [.int 36, .ref 13]) (h2 := h) (dc2 := dc) (ds2 := ds) 1 rfl ?_
                refine wq_sp1 rfl rfl ?_
                show wq 161 103 [(2, .int 36), (3, .int 3), (0, .ref 162), (1, .int 6)] [.int 101] h dc ds _
                refine wq_gos (f := 1) (pc2 := 97) (ls2 := [(2, .int 37), (3, .int 3), (0, .ref 162), (1, .int 6)]) (st2 := []) (h2 := h) (dc2 := dc) (ds2 := ds) 4 rfl ?_
                refine wq_sp1 rfl rfl ?_
                refine wq_gos (f := 1) (pc2 := 100) (ls2 := [(2, .int 37), (3, .int 3), (0, .ref 162), (1, .int 6)]) (st2 := [.int 37, .ref 13]) (h2 := h) (dc2 := dc) (ds2 := ds) 1 rfl ?_
                refine wq_sp1 rfl rfl ?_
                show wq 161 103 [(2, .int 37), (3, .int 3), (0, .ref 162), (1, .int 6)] [.int 101] h dc ds _
                refine wq_gos (f := 1) (pc2 := 97) (ls2 := [(2, .int 38), (3, .int 3), (0, .ref 162), (1, .int 6)]) (st2 := []) (h2 := h) (dc2 := dc) (ds2 := ds) 4 rfl ?_
                refine wq_sp1 rfl rfl ?_
                refine wq_gos (f := 1) (pc2 := 100) (ls2 := [(2, .int 38), (3, .int 3), (0, .ref 162), (1, .int 6)]) (st2 := [.int 38, .ref 13]) (h2 := h) (dc2 := dc) (ds2 := ds) 1 rfl ?_
                refine wq_sp1 rfl rfl ?_
                show wq 161 103 [(2, .int 38), (3, .int 3), (0, .ref 162), (1, .int 6)] [.int 100] h dc ds _
                refine wq_gos (f := 1) (pc2 := 97) (ls2 := [(2, .int 39), (3, .int 3), (0, .ref 162), (1, .int 6)]) (st2 := []) (h2 := h) (dc2 := dc) (ds2 := ds) 4 rfl ?_
                refine wq_sp1 rfl rfl ?_
                refine wq_gos (f := 1) (pc2 := 100) (ls2 := [(2, .int 39), (3, .int 3), (0, .ref 162), (1, .int 6)]) (st2 := [.int 39, .ref 13]) (h2 := h) (dc2 := dc) (ds2 := ds) 1 rfl ?_
                refine wq_sp1 rfl rfl ?_
                show wq 161 103 [(2, .int 39), (3, .int 3), (0, .ref 162), (1, .int 6)] [.int 32] h dc ds _
                refine wq_gos (f := 1) (pc2 := 4) (ls2 := [(1, .int 7), (2, .int 40), (3, .int 3), (0, .ref 162)]) (st2 := []) (h2 := h) (dc2 := dc) (ds2 := ds) 5 rfl ?_
                refine wq_ls [(0, .ref 162), (1, .int 7), (2, .int 40)] (show ([0, 1, 2] : List Nat).Nodup by decide) ⟨rfl, rfl, rfl, trivial⟩ ?_
                exact kN (by unfold mWs6; rw [if_neg (Int.not_le.mpr b3x), if_neg (fun q => q b5x), if_neg (Int.not_le.mpr b9x), if_neg (fun q => q b11x), if_neg (Int.not_le.mpr b15x), if_neg (fun q => q b16x), if_pos b20x])
              · refine wq_gos (f := 1) (pc2 := 42) (ls2 := [(3, .int 3), (0, .ref 162), (1, .int 6), (2, .int 35)]) (st2 := [.ref 162]) (h2 := h) (dc2 := dc) (ds2 := ds) 1 rfl ?_
                refine wq_getf rfl hM rfl rfl ?_
                refine wq_gos (f := 1) (pc2 := 46) (ls2 := [(3, .int 3), (0, .ref 162), (1, .int 6), (2, .int 35)]) (st2 := [.ref 162, .ref 164]) (h2 := h) (dc2 := dc) (ds2 := ds) 1 rfl ?_
                refine wq_getf rfl hM rfl rfl ?_
                refine wq_gos (f := 1) (pc2 := 51) (ls2 := [(3, .int 3), (0, .ref 162), (1, .int 6), (2, .int 35)]) (st2 := [.int ((nI pl) + (3 : Int32)), .ref 164]) (h2 := h) (dc2 := dc) (ds2 := ds) 2 rfl ?_
                refine wq_vi (show (nI pl) + (3 : Int32) = nI (pl + 3) from nI_add pl 3) ?_
                refine wq_ialdn rfl hT (by first | omega | exact zin_t (by omega) (by omega)) (by decide) rfl ?_
                refine wq_sp1 rfl rfl ?_
                refine wq_gos (f := 1) (pc2 := 57) (ls2 := [(3, .int 3), (0, .ref 162), (1, .int 6), (2, .int 35)]) (st2 := [.int 38, .ref 13, .int (tb.getD (pl + 3) 0)]) (h2 := h) (dc2 := dc) (ds2 := ds) 3 rfl ?_
                refine wq_sp1 rfl rfl ?_
                show wq 161 60 [(3, .int 3), (0, .ref 162), (1, .int 6), (2, .int 35)] [.int 100, .int (tb.getD (pl + 3) 0)] h dc ds _
                have q21x : (100 : Int32).toInt = 100 := rfl
                refine wq_ne2 rfl rfl (fun b22x => ?_) (fun b22x => ?_)
                · have q23x : (tb.getD (pl + 3) 0).toInt ≠ 100 := fun q => b22x (Int32.toInt_inj.mp q)
                  refine wq_sp1 rfl rfl ?_
                  refine wq_gos (f := 1) (pc2 := 74) (ls2 := [(3, .int 3), (0, .ref 162), (1, .int 6), (2, .int 35)]) (st2 := [.int 38, .ref 13]) (h2 := h) (dc2 := dc) (ds2 := ds) 3 rfl ?_
                  refine wq_sp1 rfl rfl ?_
                  show wq 161 77 [(3, .int 3), (0, .ref 162), (1, .int 6), (2, .int 35)] [.int 100] h dc ds _
                  refine wq_gos (f := 1) (pc2 := 97) (ls2 := [(3, .int 3), (0, .ref 162), (1, .int 6), (2, .int 35)]) (st2 := []) (h2 := h) (dc2 := dc) (ds2 := ds) 2 rfl ?_
                  refine wq_sp1 rfl rfl ?_
                  refine wq_gos (f := 1) (pc2 := 100) (ls2 := [(3, .int 3), (0, .ref 162), (1, .int 6), (2, .int 35)]) (st2 := [.int 35, .ref 13]) (h2 := h) (dc2 := dc) (ds2 := ds) 1 rfl ?_
                  refine wq_sp1 rfl rfl ?_
                  show wq 161 103 [(3, .int 3), (0, .ref 162), (1, .int 6), (2, .int 35)] [.int 115] h dc ds _
                  refine wq_gos (f := 1) (pc2 := 97) (ls2 := [(2, .int 36), (3, .int 3), (0, .ref 162), (1, .int 6)]) (st2 := []) (h2 := h) (dc2 := dc) (ds2 := ds) 4 rfl ?_
                  refine wq_sp1 rfl rfl ?_
                  refine wq_gos (f := 1) (pc2 := 100) (ls2 := [(2, .int 36), (3, .int 3), (0, .ref 162), (1, .int 6)]) (st2 := [.int 36, .ref 13]) (h2 := h) (dc2 := dc) (ds2 := ds) 1 rfl ?_
                  refine wq_sp1 rfl rfl ?_
                  show wq 161 103 [(2, .int 36), (3, .int 3), (0, .ref 162), (1, .int 6)] [.int 101] h dc ds _
                  refine wq_gos (f := 1) (pc2 := 97) (ls2 := [(2, .int 37), (3, .int 3), (0, .ref 162), (1, .int 6)]) (st2 := []) (h2 := h) (dc2 := dc) (ds2 := ds) 4 rfl ?_
                  refine wq_sp1 rfl rfl ?_
                  refine wq_gos (f := 1) (pc2 := 100) (ls2 := [(2, .int 37), (3, .int 3), (0, .ref 162), (1, .int 6)]) (st2 := [.int 37, .ref 13]) (h2 := h) (dc2 := dc) (ds2 := ds) 1 rfl ?_
                  refine wq_sp1 rfl rfl ?_
                  show wq 161 103 [(2, .int 37), (3, .int 3), (0, .ref 162), (1, .int 6)] [.int 101] h dc ds _
                  refine wq_gos (f := 1) (pc2 := 97) (ls2 := [(2, .int 38), (3, .int 3), (0, .ref 162), (1, .int 6)]) (st2 := []) (h2 := h) (dc2 := dc) (ds2 := ds) 4 rfl ?_
                  refine wq_sp1 rfl rfl ?_
                  refine wq_gos (f := 1) (pc2 := 100) (ls2 := [(2, .int 38), (3, .int 3), (0, .ref 162), (1, .int 6)]) (st2 := [.int 38, .ref 13]) (h2 := h) (dc2 := dc) (ds2 := ds) 1 rfl ?_
                  refine wq_sp1 rfl rfl ?_
                  show wq 161 103 [(2, .int 38), (3, .int 3), (0, .ref 162), (1, .int 6)] [.int 100] h dc ds _
                  refine wq_gos (f := 1) (pc2 := 97) (ls2 := [(2, .int 39), (3, .int 3), (0, .ref 162), (1, .int 6)]) (st2 := []) (h2 := h) (dc2 := dc) (ds2 := ds) 4 rfl ?_
                  refine wq_sp1 rfl rfl ?_
                  refine wq_gos (f := 1) (pc2 := 100) (ls2 := [(2, .int 39), (3, .int 3), (0, .ref 162), (1, .int 6)]) (st2 := [.int 39, .ref 13]) (h2 := h) (dc2 := dc) (ds2 := ds) 1 rfl ?_
                  refine wq_sp1 rfl rfl ?_
                  show wq 161 103 [(2, .int 39), (3, .int 3), (0, .ref 162), (1, .int 6)] [.int 32] h dc ds _
                  refine wq_gos (f := 1) (pc2 := 4) (ls2 := [(1, .int 7), (2, .int 40), (3, .int 3), (0, .ref 162)]) (st2 := []) (h2 := h) (dc2 := dc) (ds2 := ds) 5 rfl ?_
                  refine wq_ls [(0, .ref 162), (1, .int 7), (2, .int 40)] (show ([0, 1, 2] : List Nat).Nodup by decide) ⟨rfl, rfl, rfl, trivial⟩ ?_
                  exact kN (by unfold mWs6; rw [if_neg (Int.not_le.mpr b3x), if_neg (fun q => q b5x), if_neg (Int.not_le.mpr b9x), if_neg (fun q => q b11x), if_neg (Int.not_le.mpr b15x), if_neg (fun q => q b16x), if_neg (Int.not_le.mpr b20x), if_pos b22x])
                · have q24x : (tb.getD (pl + 3) 0).toInt = 100 := congrArg Int32.toInt b22x
                  refine wq_gos (f := 1) (pc2 := 15) (ls2 := [(3, .int 4), (0, .ref 162), (1, .int 6), (2, .int 35)]) (st2 := []) (h2 := h) (dc2 := dc) (ds2 := ds) 2 rfl ?_
                  refine wq_sp1 rfl rfl ?_
                  refine wq_gos (f := 1) (pc2 := 20) (ls2 := [(3, .int 4), (0, .ref 162), (1, .int 6), (2, .int 35)]) (st2 := [.int 39, .ref 13]) (h2 := h) (dc2 := dc) (ds2 := ds) 3 rfl ?_
                  refine wq_sp1 rfl rfl ?_
                  show wq 161 23 [(3, .int 4), (0, .ref 162), (1, .int 6), (2, .int 35)] [.int 32] h dc ds _
                  refine wq_gos (f := 1) (pc2 := 69) (ls2 := [(3, .int 4), (0, .ref 162), (1, .int 6), (2, .int 35)]) (st2 := []) (h2 := h) (dc2 := dc) (ds2 := ds) 2 rfl ?_
                  refine wq_sp1 rfl rfl ?_
                  refine wq_gos (f := 1) (pc2 := 74) (ls2 := [(3, .int 4), (0, .ref 162), (1, .int 6), (2, .int 35)]) (st2 := [.int 39, .ref 13]) (h2 := h) (dc2 := dc) (ds2 := ds) 3 rfl ?_
                  refine wq_sp1 rfl rfl ?_
                  show wq 161 77 [(3, .int 4), (0, .ref 162), (1, .int 6), (2, .int 35)] [.int 32] h dc ds _
                  refine wq_gos (f := 1) (pc2 := 83) (ls2 := [(3, .int 4), (0, .ref 162), (1, .int 6), (2, .int 35)]) (st2 := [.ref 162]) (h2 := h) (dc2 := dc) (ds2 := ds) 3 rfl ?_
                  refine wq_getf rfl hM rfl rfl ?_
                  refine wq_gos (f := 1) (pc2 := 88) (ls2 := [(3, .int 4), (0, .ref 162), (1, .int 6), (2, .int 35)]) (st2 := [.int ((nI pl) + (4 : Int32))]) (h2 := h) (dc2 := dc) (ds2 := ds) 2 rfl ?_
                  refine wq_vi (show (nI pl) + (4 : Int32) = nI (pl + 4) from nI_add pl 4) ?_
                  refine wq_gos (f := 1) (pc2 := 89) (ls2 := [(3, .int 4), (0, .ref 162), (1, .int 6), (2, .int 35)]) (st2 := [.ref 162, .int (nI (pl + 4))]) (h2 := h) (dc2 := dc) (ds2 := ds) 1 rfl ?_
                  refine wq_getf rfl hM rfl rfl ?_
                  try have q25x := nI_toInt (n := (pl + 4)) (by omega)
                  refine wq_ne2 rfl rfl (fun b26x => ?_) (fun b26x => ?_)
                  · have q27x : (nI (pl + 4)).toInt ≠ (nI at9).toInt := fun q => b26x (Int32.toInt_inj.mp q)
                    refine wq_sp1 rfl rfl ?_
                    refine wq_gos (f := 1) (pc2 := 100) (ls2 := [(3, .int 4), (0, .ref 162), (1, .int 6), (2, .int 35)]) (st2 := [.int 35, .ref 13]) (h2 := h) (dc2 := dc) (ds2 := ds) 1 rfl ?_
                    refine wq_sp1 rfl rfl ?_
                    show wq 161 103 [(3, .int 4), (0, .ref 162), (1, .int 6), (2, .int 35)] [.int 115] h dc ds _
                    refine wq_gos (f := 1) (pc2 := 97) (ls2 := [(2, .int 36), (3, .int 4), (0, .ref 162), (1, .int 6)]) (st2 := []) (h2 := h) (dc2 := dc) (ds2 := ds) 4 rfl ?_
                    refine wq_sp1 rfl rfl ?_
                    refine wq_gos (f := 1) (pc2 := 100) (ls2 := [(2, .int 36), (3, .int 4), (0, .ref 162), (1, .int 6)]) (st2 := [.int 36, .ref 13]) (h2 := h) (dc2 := dc) (ds2 := ds) 1 rfl ?_
                    refine wq_sp1 rfl rfl ?_
                    show wq 161 103 [(2, .int 36), (3, .int 4), (0, .ref 162), (1, .int 6)] [.int 101] h dc ds _
                    refine wq_gos (f := 1) (pc2 := 97) (ls2 := [(2, .int 37), (3, .int 4), (0, .ref 162), (1, .int 6)]) (st2 := []) (h2 := h) (dc2 := dc) (ds2 := ds) 4 rfl ?_
                    refine wq_sp1 rfl rfl ?_
                    refine wq_gos (f := 1) (pc2 := 100) (ls2 := [(2, .int 37), (3, .int 4), (0, .ref 162), (1, .int 6)]) (st2 := [.int 37, .ref 13]) (h2 := h) (dc2 := dc) (ds2 := ds) 1 rfl ?_
                    refine wq_sp1 rfl rfl ?_
                    show wq 161 103 [(2, .int 37), (3, .int 4), (0, .ref 162), (1, .int 6)] [.int 101] h dc ds _
                    refine wq_gos (f := 1) (pc2 := 97) (ls2 := [(2, .int 38), (3, .int 4), (0, .ref 162), (1, .int 6)]) (st2 := []) (h2 := h) (dc2 := dc) (ds2 := ds) 4 rfl ?_
                    refine wq_sp1 rfl rfl ?_
                    refine wq_gos (f := 1) (pc2 := 100) (ls2 := [(2, .int 38), (3, .int 4), (0, .ref 162), (1, .int 6)]) (st2 := [.int 38, .ref 13]) (h2 := h) (dc2 := dc) (ds2 := ds) 1 rfl ?_
                    refine wq_sp1 rfl rfl ?_
                    show wq 161 103 [(2, .int 38), (3, .int 4), (0, .ref 162), (1, .int 6)] [.int 100] h dc ds _
                    refine wq_gos (f := 1) (pc2 := 97) (ls2 := [(2, .int 39), (3, .int 4), (0, .ref 162), (1, .int 6)]) (st2 := []) (h2 := h) (dc2 := dc) (ds2 := ds) 4 rfl ?_
                    refine wq_sp1 rfl rfl ?_
                    refine wq_gos (f := 1) (pc2 := 100) (ls2 := [(2, .int 39), (3, .int 4), (0, .ref 162), (1, .int 6)]) (st2 := [.int 39, .ref 13]) (h2 := h) (dc2 := dc) (ds2 := ds) 1 rfl ?_
                    refine wq_sp1 rfl rfl ?_
                    show wq 161 103 [(2, .int 39), (3, .int 4), (0, .ref 162), (1, .int 6)] [.int 32] h dc ds _
                    refine wq_gos (f := 1) (pc2 := 4) (ls2 := [(1, .int 7), (2, .int 40), (3, .int 4), (0, .ref 162)]) (st2 := []) (h2 := h) (dc2 := dc) (ds2 := ds) 5 rfl ?_
                    refine wq_ls [(0, .ref 162), (1, .int 7), (2, .int 40)] (show ([0, 1, 2] : List Nat).Nodup by decide) ⟨rfl, rfl, rfl, trivial⟩ ?_
                    exact kN (by unfold mWs6; rw [if_neg (Int.not_le.mpr b3x), if_neg (fun q => q b5x), if_neg (Int.not_le.mpr b9x), if_neg (fun q => q b11x), if_neg (Int.not_le.mpr b15x), if_neg (fun q => q b16x), if_neg (Int.not_le.mpr b20x), if_neg (fun q => q b22x), if_pos b26x])
                  · have q28x : (nI (pl + 4)).toInt = (nI at9).toInt := congrArg Int32.toInt b26x
                    refine wq_gos (f := 1) (pc2 := 96) (ls2 := [(3, .int 4), (0, .ref 162), (1, .int 6), (2, .int 35)]) (st2 := [.int 6]) (h2 := h) (dc2 := dc) (ds2 := ds) 1 rfl ?_
                    exact wq_ret rfl rfl (kR (by unfold mWs6; rw [if_neg (Int.not_le.mpr b3x), if_neg (fun q => q b5x), if_neg (Int.not_le.mpr b9x), if_neg (fun q => q b11x), if_neg (Int.not_le.mpr b15x), if_neg (fun q => q b16x), if_neg (Int.not_le.mpr b20x), if_neg (fun q => q b22x), if_neg (fun q => q b26x)]))
noncomputable def mWs7 (tb : List Int32) (at9 pl : Nat) : Nat := (if (nI at9).toInt ≤ (nI (pl + 0)).toInt then 0 else (if (tb.getD (pl + 0) 0) ≠ (114 : Int32) then 0 else (if (nI at9).toInt ≤ (nI (pl + 1)).toInt then 0 else (if (tb.getD (pl + 1) 0) ≠ (101 : Int32) then 0 else (if (nI at9).toInt ≤ (nI (pl + 2)).toInt then 0 else (if (tb.getD (pl + 2) 0) ≠ (115 : Int32) then 0 else (if (nI at9).toInt ≤ (nI (pl + 3)).toInt then 0 else (if (tb.getD (pl + 3) 0) ≠ (116 : Int32) then 0 else (if (nI (pl + 4)) ≠ (nI at9) then 0 else 1)))))))))
set_option maxRecDepth 100000 in
set_option maxHeartbeats 4000000 in
theorem m_w7 {h : zH} {Q : zR → Prop} {dc ds : Nat} {n0 n2 n14 n22 n23 n27 n28 n32 n33 n34 n35 n39 n52 : Int32} {sz at9 pl : Nat} {so va ft fp : Int32} {tb : List Int32} (hM : zat h 162 = some (.inr (.inr (.inr (10, mO n0 n2 n14 (nI sz) (nI at9) (nI pl) so va ft fp n22 n23 n27 n28 n32 n33 n34 n35 n39 n52))))) (hT : zat h 164 = some (.inl (0, 700, tb))) (hsz : sz ≤ 700) (ha : at9 ≤ sz) (hp : pl ≤ at9) (kN : ((mWs7 tb at9 pl) = 0) → wq 161 4 [(0, .ref 162), (1, .int 8), (2, .int 45)] [] h dc ds Q) (kR : ((mWs7 tb at9 pl) = 1) → Q (some (.int 7), h, dc, ds)) : wq 161 4 [(0, .ref 162), (1, .int 7), (2, .int 40)] [] h dc ds Q := by
  have qnat9 := nI_toInt (n := at9) (by omega)
  have qnpl := nI_toInt (n := pl) (by omega)
  have qp0 := nI_toInt (n := pl + 0) (by omega)
  have qp1 := nI_toInt (n := pl + 1) (by omega)
  have qp2 := nI_toInt (n := pl + 2) (by omega)
  have qp3 := nI_toInt (n := pl + 3) (by omega)
  have qp4 := nI_toInt (n := pl + 4) (by omega)
  have qp5 := nI_toInt (n := pl + 5) (by omega)
  have qp6 := nI_toInt (n := pl + 6) (by omega)
  have qp7 := nI_toInt (n := pl + 7) (by omega)
  refine wq_gos (f := 1) (pc2 := 5) (ls2 := [(0, .ref 162), (1, .int 7), (2, .int 40)]) (st2 := [.int 40]) (h2 := h) (dc2 := dc) (ds2 := ds) 1 rfl ?_
  refine wq_sp1 rfl rfl ?_
  refine wq_sp1 rfl rfl ?_
  refine wq_gos (f := 1) (pc2 := 15) (ls2 := [(3, .int 0), (0, .ref 162), (1, .int 7), (2, .int 40)]) (st2 := []) (h2 := h) (dc2 := dc) (ds2 := ds) 3 rfl ?_
  refine wq_sp1 rfl rfl ?_
  refine wq_gos (f := 1) (pc2 := 20) (ls2 := [(3, .int 0), (0, .ref 162), (1, .int 7), (2, .int 40)]) (st2 := [.int 40, .ref 13]) (h2 := h) (dc2 := dc) (ds2 := ds) 3 rfl ?_
  refine wq_sp1 rfl rfl ?_
  show wq 161 23 [(3, .int 0), (0, .ref 162), (1, .int 7), (2, .int 40)] [.int 114] h dc ds _
  refine wq_gos (f := 1) (pc2 := 29) (ls2 := [(3, .int 0), (0, .ref 162), (1, .int 7), (2, .int 40)]) (st2 := [.ref 162]) (h2 := h) (dc2 := dc) (ds2 := ds) 3 rfl ?_
  refine wq_getf rfl hM rfl rfl ?_
  refine wq_gos (f := 1) (pc2 := 34) (ls2 := [(3, .int 0), (0, .ref 162), (1, .int 7), (2, .int 40)]) (st2 := [.int ((nI pl) + (0 : Int32))]) (h2 := h) (dc2 := dc) (ds2 := ds) 2 rfl ?_
  refine wq_vi (show (nI pl) + (0 : Int32) = nI (pl + 0) from nI_add pl 0) ?_
  refine wq_gos (f := 1) (pc2 := 35) (ls2 := [(3, .int 0), (0, .ref 162), (1, .int 7), (2, .int 40)]) (st2 := [.ref 162, .int (nI (pl + 0))]) (h2 := h) (dc2 := dc) (ds2 := ds) 1 rfl ?_
  refine wq_getf rfl hM rfl rfl ?_
  try have q1x := nI_toInt (n := (pl + 0)) (by omega)
  try have q2x := nI_toInt (n := at9) (by omega)
  refine wq_ge2 rfl rfl (fun b3x => ?_) (fun b3x => ?_)
  · refine wq_sp1 rfl rfl ?_
    refine wq_gos (f := 1) (pc2 := 74) (ls2 := [(3, .int 0), (0, .ref 162), (1, .int 7), (2, .int 40)]) (st2 := [.int 40, .ref 13]) (h2 := h) (dc2 := dc) (ds2 := ds) 3 rfl ?_
    refine wq_sp1 rfl rfl ?_
    show wq 161 77 [(3, .int 0), (0, .ref 162), (1, .int 7), (2, .int 40)] [.int 114] h dc ds _
    refine wq_gos (f := 1) (pc2 := 97) (ls2 := [(3, .int 0), (0, .ref 162), (1, .int 7), (2, .int 40)]) (st2 := []) (h2 := h) (dc2 := dc) (ds2 := ds) 2 rfl ?_
    refine wq_sp1 rfl rfl ?_
    refine wq_gos (f := 1) (pc2 := 100) (ls2 := [(3, .int 0), (0, .ref 162), (1, .int 7), (2, .int 40)]) (st2 := [.int 40, .ref 13]) (h2 := h) (dc2 := dc) (ds2 := ds) 1 rfl ?_
    refine wq_sp1 rfl rfl ?_
    show wq 161 103 [(3, .int 0), (0, .ref 162), (1, .int 7), (2, .int 40)] [.int 114] h dc ds _
    refine wq_gos (f := 1) (pc2 := 97) (ls2 := [(2, .int 41), (3, .int 0), (0, .ref 162), (1, .int 7)]) (st2 := []) (h2 := h) (dc2 := dc) (ds2 := ds) 4 rfl ?_
    refine wq_sp1 rfl rfl ?_
    refine wq_gos (f := 1) (pc2 := 100) (ls2 := [(2, .int 41), (3, .int 0), (0, .ref 162), (1, .int 7)]) (st2 := [.int 41, .ref 13]) (h2 := h) (dc2 := dc) (ds2 := ds) 1 rfl ?_
    refine wq_sp1 rfl rfl ?_
    show wq 161 103 [(2, .int 41), (3, .int 0), (0, .ref 162), (1, .int 7)] [.int 101] h dc ds _
    refine wq_gos (f := 1) (pc2 := 97) (ls2 := [(2, .int 42), (3, .int 0), (0, .ref 162), (1, .int 7)]) (st2 := []) (h2 := h) (dc2 := dc) (ds2 := ds) 4 rfl ?_
    refine wq_sp1 rfl rfl ?_
    refine wq_gos (f := 1) (pc2 := 100) (ls2 := [(2, .int 42), (3, .int 0), (0, .ref 162), (1, .int 7)]) (st2 := [.int 42, .ref 13]) (h2 := h) (dc2 := dc) (ds2 := ds) 1 rfl ?_
    refine wq_sp1 rfl rfl ?_
    show wq 161 103 [(2, .int 42), (3, .int 0), (0, .ref 162), (1, .int 7)] [.int 115] h dc ds _
    refine wq_gos (f := 1) (pc2 := 97) (ls2 := [(2, .int 43), (3, .int 0), (0, .ref 162), (1, .int 7)]) (st2 := []) (h2 := h) (dc2 := dc) (ds2 := ds) 4 rfl ?_
    refine wq_sp1 rfl rfl ?_
    refine wq_gos (f := 1) (pc2 := 100) (ls2 := [(2, .int 43), (3, .int 0), (0, .ref 162), (1, .int 7)]) (st2 := [.int 43, .ref 13]) (h2 := h) (dc2 := dc) (ds2 := ds) 1 rfl ?_
    refine wq_sp1 rfl rfl ?_
    show wq 161 103 [(2, .int 43), (3, .int 0), (0, .ref 162), (1, .int 7)] [.int 116] h dc ds _
    refine wq_gos (f := 1) (pc2 := 97) (ls2 := [(2, .int 44), (3, .int 0), (0, .ref 162), (1, .int 7)]) (st2 := []) (h2 := h) (dc2 := dc) (ds2 := ds) 4 rfl ?_
    refine wq_sp1 rfl rfl ?_
    refine wq_gos (f := 1) (pc2 := 100) (ls2 := [(2, .int 44), (3, .int 0), (0, .ref 162), (1, .int 7)]) (st2 := [.int 44, .ref 13]) (h2 := h) (dc2 := dc) (ds2 := ds) 1 rfl ?_
    refine wq_sp1 rfl rfl ?_
    show wq 161 103 [(2, .int 44), (3, .int 0), (0, .ref 162), (1, .int 7)] [.int 32] h dc ds _
    refine wq_gos (f := 1) (pc2 := 4) (ls2 := [(1, .int 8), (2, .int 45), (3, .int 0), (0, .ref 162)]) (st2 := []) (h2 := h) (dc2 := dc) (ds2 := ds) 5 rfl ?_
    refine wq_ls [(0, .ref 162), (1, .int 8), (2, .int 45)] (show ([0, 1, 2] : List Nat).Nodup by decide) ⟨rfl, rfl, rfl, trivial⟩ ?_
    exact kN (by unfold mWs7; rw [if_pos b3x])
  · refine wq_gos (f := 1) (pc2 := 42) (ls2 := [(3, .int 0), (0, .ref 162), (1, .int 7), (2, .int 40)]) (st2 := [.ref 162]) (h2 := h) (dc2 := dc) (ds2 := ds) 1 rfl ?_
    refine wq_getf rfl hM rfl rfl ?_
    refine wq_gos (f := 1) (pc2 := 46) (ls2 := [(3, .int 0), (0, .ref 162), (1, .int 7), (2, .int 40)]) (st2 := [.ref 162, .ref 164]) (h2 := h) (dc2 := dc) (ds2 := ds) 1 rfl ?_
    refine wq_getf rfl hM rfl rfl ?_
    refine wq_gos (f := 1) (pc2 := 51) (ls2 := [(3, .int 0), (0, .ref 162), (1, .int 7), (2, .int 40)]) (st2 := [.int ((nI pl) + (0 : Int32)), .ref 164]) (h2 := h) (dc2 := dc) (ds2 := ds) 2 rfl ?_
    refine wq_vi (show (nI pl) + (0 : Int32) = nI (pl + 0) from nI_add pl 0) ?_
    refine wq_ialdn rfl hT (by first | omega | exact zin_t (by omega) (by omega)) (by decide) rfl ?_
    refine wq_sp1 rfl rfl ?_
    refine wq_gos (f := 1) (pc2 := 57) (ls2 := [(3, .int 0), (0, .ref 162), (1, .int 7), (2, .int 40)]) (st2 := [.int 40, .ref 13, .int (tb.getD (pl + 0) 0)]) (h2 := h) (dc2 := dc) (ds2 := ds) 3 rfl ?_
    refine wq_sp1 rfl rfl ?_
    show wq 161 60 [(3, .int 0), (0, .ref 162), (1, .int 7), (2, .int 40)] [.int 114, .int (tb.getD (pl + 0) 0)] h dc ds _
    have q4x : (114 : Int32).toInt = 114 := rfl
    refine wq_ne2 rfl rfl (fun b5x => ?_) (fun b5x => ?_)
    · have q6x : (tb.getD (pl + 0) 0).toInt ≠ 114 := fun q => b5x (Int32.toInt_inj.mp q)
      refine wq_sp1 rfl rfl ?_
      refine wq_gos (f := 1) (pc2 := 74) (ls2 := [(3, .int 0), (0, .ref 162), (1, .int 7), (2, .int 40)]) (st2 := [.int 40, .ref 13]) (h2 := h) (dc2 := dc) (ds2 := ds) 3 rfl ?_
      refine wq_sp1 rfl rfl ?_
      show wq 161 77 [(3, .int 0), (0, .ref 162), (1, .int 7), (2, .int 40)] [.int 114] h dc ds _
      refine wq_gos (f := 1) (pc2 := 97) (ls2 := [(3, .int 0), (0, .ref 162), (1, .int 7), (2, .int 40)]) (st2 := []) (h2 := h) (dc2 := dc) (ds2 := ds) 2 rfl ?_
      refine wq_sp1 rfl rfl ?_
      refine wq_gos (f := 1) (pc2 := 100) (ls2 := [(3, .int 0), (0, .ref 162), (1, .int 7), (2, .int 40)]) (st2 := [.int 40, .ref 13]) (h2 := h) (dc2 := dc) (ds2 := ds) 1 rfl ?_
      refine wq_sp1 rfl rfl ?_
      show wq 161 103 [(3, .int 0), (0, .ref 162), (1, .int 7), (2, .int 40)] [.int 114] h dc ds _
      refine wq_gos (f := 1) (pc2 := 97) (ls2 := [(2, .int 41), (3, .int 0), (0, .ref 162), (1, .int 7)]) (st2 := []) (h2 := h) (dc2 := dc) (ds2 := ds) 4 rfl ?_
      refine wq_sp1 rfl rfl ?_
      refine wq_gos (f := 1) (pc2 := 100) (ls2 := [(2, .int 41), (3, .int 0), (0, .ref 162), (1, .int 7)]) (st2 := [.int 41, .ref 13]) (h2 := h) (dc2 := dc) (ds2 := ds) 1 rfl ?_
      refine wq_sp1 rfl rfl ?_
      show wq 161 103 [(2, .int 41), (3, .int 0), (0, .ref 162), (1, .int 7)] [.int 101] h dc ds _
      refine wq_gos (f := 1) (pc2 := 97) (ls2 := [(2, .int 42), (3, .int 0), (0, .ref 162), (1, .int 7)]) (st2 := []) (h2 := h) (dc2 := dc) (ds2 := ds) 4 rfl ?_
      refine wq_sp1 rfl rfl ?_
      refine wq_gos (f := 1) (pc2 := 100) (ls2 := [(2, .int 42), (3, .int 0), (0, .ref 162), (1, .int 7)]) (st2 := [.int 42, .ref 13]) (h2 := h) (dc2 := dc) (ds2 := ds) 1 rfl ?_
      refine wq_sp1 rfl rfl ?_
      show wq 161 103 [(2, .int 42), (3, .int 0), (0, .ref 162), (1, .int 7)] [.int 115] h dc ds _
      refine wq_gos (f := 1) (pc2 := 97) (ls2 := [(2, .int 43), (3, .int 0), (0, .ref 162), (1, .int 7)]) (st2 := []) (h2 := h) (dc2 := dc) (ds2 := ds) 4 rfl ?_
      refine wq_sp1 rfl rfl ?_
      refine wq_gos (f := 1) (pc2 := 100) (ls2 := [(2, .int 43), (3, .int 0), (0, .ref 162), (1, .int 7)]) (st2 := [.int 43, .ref 13]) (h2 := h) (dc2 := dc) (ds2 := ds) 1 rfl ?_
      refine wq_sp1 rfl rfl ?_
      show wq 161 103 [(2, .int 43), (3, .int 0), (0, .ref 162), (1, .int 7)] [.int 116] h dc ds _
      refine wq_gos (f := 1) (pc2 := 97) (ls2 := [(2, .int 44), (3, .int 0), (0, .ref 162), (1, .int 7)]) (st2 := []) (h2 := h) (dc2 := dc) (ds2 := ds) 4 rfl ?_
      refine wq_sp1 rfl rfl ?_
      refine wq_gos (f := 1) (pc2 := 100) (ls2 := [(2, .int 44), (3, .int 0), (0, .ref 162), (1, .int 7)]) (st2 := [.int 44, .ref 13]) (h2 := h) (dc2 := dc) (ds2 := ds) 1 rfl ?_
      refine wq_sp1 rfl rfl ?_
      show wq 161 103 [(2, .int 44), (3, .int 0), (0, .ref 162), (1, .int 7)] [.int 32] h dc ds _
      refine wq_gos (f := 1) (pc2 := 4) (ls2 := [(1, .int 8), (2, .int 45), (3, .int 0), (0, .ref 162)]) (st2 := []) (h2 := h) (dc2 := dc) (ds2 := ds) 5 rfl ?_
      refine wq_ls [(0, .ref 162), (1, .int 8), (2, .int 45)] (show ([0, 1, 2] : List Nat).Nodup by decide) ⟨rfl, rfl, rfl, trivial⟩ ?_
      exact kN (by unfold mWs7; rw [if_neg (Int.not_le.mpr b3x), if_pos b5x])
    · have q7x : (tb.getD (pl + 0) 0).toInt = 114 := congrArg Int32.toInt b5x
      refine wq_gos (f := 1) (pc2 := 15) (ls2 := [(3, .int 1), (0, .ref 162), (1, .int 7), (2, .int 40)]) (st2 := []) (h2 := h) (dc2 := dc) (ds2 := ds) 2 rfl ?_
      refine wq_sp1 rfl rfl ?_
      refine wq_gos (f := 1) (pc2 := 20) (ls2 := [(3, .int 1), (0, .ref 162), (1, .int 7), (2, .int 40)]) (st2 := [.int 41, .ref 13]) (h2 := h) (dc2 := dc) (ds2 := ds) 3 rfl ?_
      refine wq_sp1 rfl rfl ?_
      show wq 161 23 [(3, .int 1), (0, .ref 162), (1, .int 7), (2, .int 40)] [.int 101] h dc ds _
      refine wq_gos (f := 1) (pc2 := 29) (ls2 := [(3, .int 1), (0, .ref 162), (1, .int 7), (2, .int 40)]) (st2 := [.ref 162]) (h2 := h) (dc2 := dc) (ds2 := ds) 3 rfl ?_
      refine wq_getf rfl hM rfl rfl ?_
      refine wq_gos (f := 1) (pc2 := 34) (ls2 := [(3, .int 1), (0, .ref 162), (1, .int 7), (2, .int 40)]) (st2 := [.int ((nI pl) + (1 : Int32))]) (h2 := h) (dc2 := dc) (ds2 := ds) 2 rfl ?_
      refine wq_vi (show (nI pl) + (1 : Int32) = nI (pl + 1) from nI_add pl 1) ?_
      refine wq_gos (f := 1) (pc2 := 35) (ls2 := [(3, .int 1), (0, .ref 162), (1, .int 7), (2, .int 40)]) (st2 := [.ref 162, .int (nI (pl + 1))]) (h2 := h) (dc2 := dc) (ds2 := ds) 1 rfl ?_
      refine wq_getf rfl hM rfl rfl ?_
      try have q8x := nI_toInt (n := (pl + 1)) (by omega)
      refine wq_ge2 rfl rfl (fun b9x => ?_) (fun b9x => ?_)
      · refine wq_sp1 rfl rfl ?_
        refine wq_gos (f := 1) (pc2 := 74) (ls2 := [(3, .int 1), (0, .ref 162), (1, .int 7), (2, .int 40)]) (st2 := [.int 41, .ref 13]) (h2 := h) (dc2 := dc) (ds2 := ds) 3 rfl ?_
        refine wq_sp1 rfl rfl ?_
        show wq 161 77 [(3, .int 1), (0, .ref 162), (1, .int 7), (2, .int 40)] [.int 101] h dc ds _
        refine wq_gos (f := 1) (pc2 := 97) (ls2 := [(3, .int 1), (0, .ref 162), (1, .int 7), (2, .int 40)]) (st2 := []) (h2 := h) (dc2 := dc) (ds2 := ds) 2 rfl ?_
        refine wq_sp1 rfl rfl ?_
        refine wq_gos (f := 1) (pc2 := 100) (ls2 := [(3, .int 1), (0, .ref 162), (1, .int 7), (2, .int 40)]) (st2 := [.int 40, .ref 13]) (h2 := h) (dc2 := dc) (ds2 := ds) 1 rfl ?_
        refine wq_sp1 rfl rfl ?_
        show wq 161 103 [(3, .int 1), (0, .ref 162), (1, .int 7), (2, .int 40)] [.int 114] h dc ds _
        refine wq_gos (f := 1) (pc2 := 97) (ls2 := [(2, .int 41), (3, .int 1), (0, .ref 162), (1, .int 7)]) (st2 := []) (h2 := h) (dc2 := dc) (ds2 := ds) 4 rfl ?_
        refine wq_sp1 rfl rfl ?_
        refine wq_gos (f := 1) (pc2 := 100) (ls2 := [(2, .int 41), (3, .int 1), (0, .ref 162), (1, .int 7)]) (st2 := [.int 41, .ref 13]) (h2 := h) (dc2 := dc) (ds2 := ds) 1 rfl ?_
        refine wq_sp1 rfl rfl ?_
        show wq 161 103 [(2, .int 41), (3, .int 1), (0, .ref 162), (1, .int 7)] [.int 101] h dc ds _
        refine wq_gos (f := 1) (pc2 := 97) (ls2 := [(2, .int 42), (3, .int 1), (0, .ref 162), (1, .int 7)]) (st2 := []) (h2 := h) (dc2 := dc) (ds2 := ds) 4 rfl ?_
        refine wq_sp1 rfl rfl ?_
        refine wq_gos (f := 1) (pc2 := 100) (ls2 := [(2, .int 42), (3, .int 1), (0, .ref 162), (1, .int 7)]) (st2 := [.int 42, .ref 13]) (h2 := h) (dc2 := dc) (ds2 := ds) 1 rfl ?_
        refine wq_sp1 rfl rfl ?_
        show wq 161 103 [(2, .int 42), (3, .int 1), (0, .ref 162), (1, .int 7)] [.int 115] h dc ds _
        refine wq_gos (f := 1) (pc2 := 97) (ls2 := [(2, .int 43), (3, .int 1), (0, .ref 162), (1, .int 7)]) (st2 := []) (h2 := h) (dc2 := dc) (ds2 := ds) 4 rfl ?_
        refine wq_sp1 rfl rfl ?_
        refine wq_gos (f := 1) (pc2 := 100) (ls2 := [(2, .int 43), (3, .int 1), (0, .ref 162), (1, .int 7)]) (st2 := [.int 43, .ref 13]) (h2 := h) (dc2 := dc) (ds2 := ds) 1 rfl ?_
        refine wq_sp1 rfl rfl ?_
        show wq 161 103 [(2, .int 43), (3, .int 1), (0, .ref 162), (1, .int 7)] [.int 116] h dc ds _
        refine wq_gos (f := 1) (pc2 := 97) (ls2 := [(2, .int 44), (3, .int 1), (0, .ref 162), (1, .int 7)]) (st2 := []) (h2 := h) (dc2 := dc) (ds2 := ds) 4 rfl ?_
        refine wq_sp1 rfl rfl ?_
        refine wq_gos (f := 1) (pc2 := 100) (ls2 := [(2, .int 44), (3, .int 1), (0, .ref 162), (1, .int 7)]) (st2 := [.int 44, .ref 13]) (h2 := h) (dc2 := dc) (ds2 := ds) 1 rfl ?_
        refine wq_sp1 rfl rfl ?_
        show wq 161 103 [(2, .int 44), (3, .int 1), (0, .ref 162), (1, .int 7)] [.int 32] h dc ds _
        refine wq_gos (f := 1) (pc2 := 4) (ls2 := [(1, .int 8), (2, .int 45), (3, .int 1), (0, .ref 162)]) (st2 := []) (h2 := h) (dc2 := dc) (ds2 := ds) 5 rfl ?_
        refine wq_ls [(0, .ref 162), (1, .int 8), (2, .int 45)] (show ([0, 1, 2] : List Nat).Nodup by decide) ⟨rfl, rfl, rfl, trivial⟩ ?_
        exact kN (by unfold mWs7; rw [if_neg (Int.not_le.mpr b3x), if_neg (fun q => q b5x), if_pos b9x])
      · refine wq_gos (f := 1) (pc2 := 42) (ls2 := [(3, .int 1), (0, .ref 162), (1, .int 7), (2, .int 40)]) (st2 := [.ref 162]) (h2 := h) (dc2 := dc) (ds2 := ds) 1 rfl ?_
        refine wq_getf rfl hM rfl rfl ?_
        refine wq_gos (f := 1) (pc2 := 46) (ls2 := [(3, .int 1), (0, .ref 162), (1, .int 7), (2, .int 40)]) (st2 := [.ref 162, .ref 164]) (h2 := h) (dc2 := dc) (ds2 := ds) 1 rfl ?_
        refine wq_getf rfl hM rfl rfl ?_
        refine wq_gos (f := 1) (pc2 := 51) (ls2 := [(3, .int 1), (0, .ref 162), (1, .int 7), (2, .int 40)]) (st2 := [.int ((nI pl) + (1 : Int32)), .ref 164]) (h2 := h) (dc2 := dc) (ds2 := ds) 2 rfl ?_
        refine wq_vi (show (nI pl) + (1 : Int32) = nI (pl + 1) from nI_add pl 1) ?_
        refine wq_ialdn rfl hT (by first | omega | exact zin_t (by omega) (by omega)) (by decide) rfl ?_
        refine wq_sp1 rfl rfl ?_
        refine wq_gos (f := 1) (pc2 := 57) (ls2 := [(3, .int 1), (0, .ref 162), (1, .int 7), (2, .int 40)]) (st2 := [.int 41, .ref 13, .int (tb.getD (pl + 1) 0)]) (h2 := h) (dc2 := dc) (ds2 := ds) 3 rfl ?_
        refine wq_sp1 rfl rfl ?_
        show wq 161 60 [(3, .int 1), (0, .ref 162), (1, .int 7), (2, .int 40)] [.int 101, .int (tb.getD (pl + 1) 0)] h dc ds _
        have q10x : (101 : Int32).toInt = 101 := rfl
        refine wq_ne2 rfl rfl (fun b11x => ?_) (fun b11x => ?_)
        · have q12x : (tb.getD (pl + 1) 0).toInt ≠ 101 := fun q => b11x (Int32.toInt_inj.mp q)
          refine wq_sp1 rfl rfl ?_
          refine wq_gos (f := 1) (pc2 := 74) (ls2 := [(3, .int 1), (0, .ref 162), (1, .int 7), (2, .int 40)]) (st2 := [.int 41, .ref 13]) (h2 := h) (dc2 := dc) (ds2 := ds) 3 rfl ?_
          refine wq_sp1 rfl rfl ?_
          show wq 161 77 [(3, .int 1), (0, .ref 162), (1, .int 7), (2, .int 40)] [.int 101] h dc ds _
          refine wq_gos (f := 1) (pc2 := 97) (ls2 := [(3, .int 1), (0, .ref 162), (1, .int 7), (2, .int 40)]) (st2 := []) (h2 := h) (dc2 := dc) (ds2 := ds) 2 rfl ?_
          refine wq_sp1 rfl rfl ?_
          refine wq_gos (f := 1) (pc2 := 100) (ls2 := [(3, .int 1), (0, .ref 162), (1, .int 7), (2, .int 40)]) (st2 := [.int 40, .ref 13]) (h2 := h) (dc2 := dc) (ds2 := ds) 1 rfl ?_
          refine wq_sp1 rfl rfl ?_
          show wq 161 103 [(3, .int 1), (0, .ref 162), (1, .int 7), (2, .int 40)] [.int 114] h dc ds _
          refine wq_gos (f := 1) (pc2 := 97) (ls2 := [(2, .int 41), (3, .int 1), (0, .ref 162), (1, .int 7)]) (st2 := []) (h2 := h) (dc2 := dc) (ds2 := ds) 4 rfl ?_
          refine wq_sp1 rfl rfl ?_
          refine wq_gos (f := 1) (pc2 := 100) (ls2 := [(2, .int 41), (3, .int 1), (0, .ref 162), (1, .int 7)]) (st2 := [.int 41, .ref 13]) (h2 := h) (dc2 := dc) (ds2 := ds) 1 rfl ?_
          refine wq_sp1 rfl rfl ?_
          show wq 161 103 [(2, .int 41), (3, .int 1), (0, .ref 162), (1, .int 7)] [.int 101] h dc ds _
          refine wq_gos (f := 1) (pc2 := 97) (ls2 := [(2, .int 42), (3, .int 1), (0, .ref 162), (1, .int 7)]) (st2 := []) (h2 := h) (dc2 := dc) (ds2 := ds) 4 rfl ?_
          refine wq_sp1 rfl rfl ?_
          refine wq_gos (f := 1) (pc2 := 100) (ls2 := [(2, .int 42), (3, .int 1), (0, .ref 162), (1, .int 7)]) (st2 := [.int 42, .ref 13]) (h2 := h) (dc2 := dc) (ds2 := ds) 1 rfl ?_
          refine wq_sp1 rfl rfl ?_
          show wq 161 103 [(2, .int 42), (3, .int 1), (0, .ref 162), (1, .int 7)] [.int 115] h dc ds _
          refine wq_gos (f := 1) (pc2 := 97) (ls2 := [(2, .int 43), (3, .int 1), (0, .ref 162), (1, .int 7)]) (st2 := []) (h2 := h) (dc2 := dc) (ds2 := ds) 4 rfl ?_
          refine wq_sp1 rfl rfl ?_
          refine wq_gos (f := 1) (pc2 := 100) (ls2 := [(2, .int 43), (3, .int 1), (0, .ref 162), (1, .int 7)]) (st2 := [.int 43, .ref 13]) (h2 := h) (dc2 := dc) (ds2 := ds) 1 rfl ?_
          refine wq_sp1 rfl rfl ?_
          show wq 161 103 [(2, .int 43), (3, .int 1), (0, .ref 162), (1, .int 7)] [.int 116] h dc ds _
          refine wq_gos (f := 1) (pc2 := 97) (ls2 := [(2, .int 44), (3, .int 1), (0, .ref 162), (1, .int 7)]) (st2 := []) (h2 := h) (dc2 := dc) (ds2 := ds) 4 rfl ?_
          refine wq_sp1 rfl rfl ?_
          refine wq_gos (f := 1) (pc2 := 100) (ls2 := [(2, .int 44), (3, .int 1), (0, .ref 162), (1, .int 7)]) (st2 := [.int 44, .ref 13]) (h2 := h) (dc2 := dc) (ds2 := ds) 1 rfl ?_
          refine wq_sp1 rfl rfl ?_
          show wq 161 103 [(2, .int 44), (3, .int 1), (0, .ref 162), (1, .int 7)] [.int 32] h dc ds _
          refine wq_gos (f := 1) (pc2 := 4) (ls2 := [(1, .int 8), (2, .int 45), (3, .int 1), (0, .ref 162)]) (st2 := []) (h2 := h) (dc2 := dc) (ds2 := ds) 5 rfl ?_
          refine wq_ls [(0, .ref 162), (1, .int 8), (2, .int 45)] (show ([0, 1, 2] : List Nat).Nodup by decide) ⟨rfl, rfl, rfl, trivial⟩ ?_
          exact kN (by unfold mWs7; rw [if_neg (Int.not_le.mpr b3x), if_neg (fun q => q b5x), if_neg (Int.not_le.mpr b9x), if_pos b11x])
        · have q13x : (tb.getD (pl + 1) 0).toInt = 101 := congrArg Int32.toInt b11x
          refine wq_gos (f := 1) (pc2 := 15) (ls2 := [(3, .int 2), (0, .ref 162), (1, .int 7), (2, .int 40)]) (st2 := []) (h2 := h) (dc2 := dc) (ds2 := ds) 2 rfl ?_
          refine wq_sp1 rfl rfl ?_
          refine wq_gos (f := 1) (pc2 := 20) (ls2 := [(3, .int 2), (0, .ref 162), (1, .int 7), (2, .int 40)]) (st2 := [.int 42, .ref 13]) (h2 := h) (dc2 := dc) (ds2 := ds) 3 rfl ?_
          refine wq_sp1 rfl rfl ?_
          show wq 161 23 [(3, .int 2), (0, .ref 162), (1, .int 7), (2, .int 40)] [.int 115] h dc ds _
          refine wq_gos (f := 1) (pc2 := 29) (ls2 := [(3, .int 2), (0, .ref 162), (1, .int 7), (2, .int 40)]) (st2 := [.ref 162]) (h2 := h) (dc2 := dc) (ds2 := ds) 3 rfl ?_
          refine wq_getf rfl hM rfl rfl ?_
          refine wq_gos (f := 1) (pc2 := 34) (ls2 := [(3, .int 2), (0, .ref 162), (1, .int 7), (2, .int 40)]) (st2 := [.int ((nI pl) + (2 : Int32))]) (h2 := h) (dc2 := dc) (ds2 := ds) 2 rfl ?_
          refine wq_vi (show (nI pl) + (2 : Int32) = nI (pl + 2) from nI_add pl 2) ?_
          refine wq_gos (f := 1) (pc2 := 35) (ls2 := [(3, .int 2), (0, .ref 162), (1, .int 7), (2, .int 40)]) (st2 := [.ref 162, .int (nI (pl + 2))]) (h2 := h) (dc2 := dc) (ds2 := ds) 1 rfl ?_
          refine wq_getf rfl hM rfl rfl ?_
          try have q14x := nI_toInt (n := (pl + 2)) (by omega)
          refine wq_ge2 rfl rfl (fun b15x => ?_) (fun b15x => ?_)
          · refine wq_sp1 rfl rfl ?_
            refine wq_gos (f := 1) (pc2 := 74) (ls2 := [(3, .int 2), (0, .ref 162), (1, .int 7), (2, .int 40)]) (st2 := [.int 42, .ref 13]) (h2 := h) (dc2 := dc) (ds2 := ds) 3 rfl ?_
            refine wq_sp1 rfl rfl ?_
            show wq 161 77 [(3, .int 2), (0, .ref 162), (1, .int 7), (2, .int 40)] [.int 115] h dc ds _
            refine wq_gos (f := 1) (pc2 := 97) (ls2 := [(3, .int 2), (0, .ref 162), (1, .int 7), (2, .int 40)]) (st2 := []) (h2 := h) (dc2 := dc) (ds2 := ds) 2 rfl ?_
            refine wq_sp1 rfl rfl ?_
            refine wq_gos (f := 1) (pc2 := 100) (ls2 := [(3, .int 2), (0, .ref 162), (1, .int 7), (2, .int 40)]) (st2 := [.int 40, .ref 13]) (h2 := h) (dc2 := dc) (ds2 := ds) 1 rfl ?_
            refine wq_sp1 rfl rfl ?_
            show wq 161 103 [(3, .int 2), (0, .ref 162), (1, .int 7), (2, .int 40)] [.int 114] h dc ds _
            refine wq_gos (f := 1) (pc2 := 97) (ls2 := [(2, .int 41), (3, .int 2), (0, .ref 162), (1, .int 7)]) (st2 := []) (h2 := h) (dc2 := dc) (ds2 := ds) 4 rfl ?_
            refine wq_sp1 rfl rfl ?_
            refine wq_gos (f := 1) (pc2 := 100) (ls2 := [(2, .int 41), (3, .int 2), (0, .ref 162), (1, .int 7)]) (st2 := [.int 41, .ref 13]) (h2 := h) (dc2 := dc) (ds2 := ds) 1 rfl ?_
            refine wq_sp1 rfl rfl ?_
            show wq 161 103 [(2, .int 41), (3, .int 2), (0, .ref 162), (1, .int 7)] [.int 101] h dc ds _
            refine wq_gos (f := 1) (pc2 := 97) (ls2 := [(2, .int 42), (3, .int 2), (0, .ref 162), (1, .int 7)]) (st2 := []) (h2 := h) (dc2 := dc) (ds2 := ds) 4 rfl ?_
            refine wq_sp1 rfl rfl ?_
            refine wq_gos (f := 1) (pc2 := 100) (ls2 := [(2, .int 42), (3, .int 2), (0, .ref 162), (1, .int 7)]) (st2 := [.int 42, .ref 13]) (h2 := h) (dc2 := dc) (ds2 := ds) 1 rfl ?_
            refine wq_sp1 rfl rfl ?_
            show wq 161 103 [(2, .int 42), (3, .int 2), (0, .ref 162), (1, .int 7)] [.int 115] h dc ds _
            refine wq_gos (f := 1) (pc2 := 97) (ls2 := [(2, .int 43), (3, .int 2), (0, .ref 162), (1, .int 7)]) (st2 := []) (h2 := h) (dc2 := dc) (ds2 := ds) 4 rfl ?_
            refine wq_sp1 rfl rfl ?_
            refine wq_gos (f := 1) (pc2 := 100) (ls2 := [(2, .int 43), (3, .int 2), (0, .ref 162), (1, .int 7)]) (st2 := [.int 43, .ref 13]) (h2 := h) (dc2 := dc) (ds2 := ds) 1 rfl ?_
            refine wq_sp1 rfl rfl ?_
            show wq 161 103 [(2, .int 43), (3, .int 2), (0, .ref 162), (1, .int 7)] [.int 116] h dc ds _
            refine wq_gos (f := 1) (pc2 := 97) (ls2 := [(2, .int 44), (3, .int 2), (0, .ref 162), (1, .int 7)]) (st2 := []) (h2 := h) (dc2 := dc) (ds2 := ds) 4 rfl ?_
            refine wq_sp1 rfl rfl ?_
            refine wq_gos (f := 1) (pc2 := 100) (ls2 := [(2, .int 44), (3, .int 2), (0, .ref 162), (1, .int 7)]) (st2 := [.int 44, .ref 13]) (h2 := h) (dc2 := dc) (ds2 := ds) 1 rfl ?_
            refine wq_sp1 rfl rfl ?_
            show wq 161 103 [(2, .int 44), (3, .int 2), (0, .ref 162), (1, .int 7)] [.int 32] h dc ds _
            refine wq_gos (f := 1) (pc2 := 4) (ls2 := [(1, .int 8), (2, .int 45), (3, .int 2), (0, .ref 162)]) (st2 := []) (h2 := h) (dc2 := dc) (ds2 := ds) 5 rfl ?_
            refine wq_ls [(0, .ref 162), (1, .int 8), (2, .int 45)] (show ([0, 1, 2] : List Nat).Nodup by decide) ⟨rfl, rfl, rfl, trivial⟩ ?_
            exact kN (by unfold mWs7; rw [if_neg (Int.not_le.mpr b3x), if_neg (fun q => q b5x), if_neg (Int.not_le.mpr b9x), if_neg (fun q => q b11x), if_pos b15x])
          · refine wq_gos (f := 1) (pc2 := 42) (ls2 := [(3, .int 2), (0, .ref 162), (1, .int 7), (2, .int 40)]) (st2 := [.ref 162]) (h2 := h) (dc2 := dc) (ds2 := ds) 1 rfl ?_
            refine wq_getf rfl hM rfl rfl ?_
            refine wq_gos (f := 1) (pc2 := 46) (ls2 := [(3, .int 2), (0, .ref 162), (1, .int 7), (2, .int 40)]) (st2 := [.ref 162, .ref 164]) (h2 := h) (dc2 := dc) (ds2 := ds) 1 rfl ?_
            refine wq_getf rfl hM rfl rfl ?_
            refine wq_gos (f := 1) (pc2 := 51) (ls2 := [(3, .int 2), (0, .ref 162), (1, .int 7), (2, .int 40)]) (st2 := [.int ((nI pl) + (2 : Int32)), .ref 164]) (h2 := h) (dc2 := dc) (ds2 := ds) 2 rfl ?_
            refine wq_vi (show (nI pl) + (2 : Int32) = nI (pl + 2) from nI_add pl 2) ?_
            refine wq_ialdn rfl hT (by first | omega | exact zin_t (by omega) (by omega)) (by decide) rfl ?_
            refine wq_sp1 rfl rfl ?_
            refine wq_gos (f := 1) (pc2 := 57) (ls2 := [(3, .int 2), (0, .ref 162), (1, .int 7), (2, .int 40)]) (st2 := [.int 42, .ref 13, .int (tb.getD (pl + 2) 0)]) (h2 := h) (dc2 := dc) (ds2 := ds) 3 rfl ?_
            refine wq_sp1 rfl rfl ?_
            show wq 161 60 [(3, .int 2), (0, .ref 162), (1, .int 7), (2, .int 40)] [.int 115, .int (tb.getD (pl + 2) 0)] h dc ds _
            have q16x : (115 : Int32).toInt = 115 := rfl
            refine wq_ne2 rfl rfl (fun b17x => ?_) (fun b17x => ?_)
            · have q18x : (tb.getD (pl + 2) 0).toInt ≠ 115 := fun q => b17x (Int32.toInt_inj.mp q)
              refine wq_sp1 rfl rfl ?_
              refine wq_gos (f := 1) (pc2 := 74) (ls2 := [(3, .int 2), (0, .ref 162), (1, .int 7), (2, .int 40)]) (st2 := [.int 42, .ref 13]) (h2 := h) (dc2 := dc) (ds2 := ds) 3 rfl ?_
              refine wq_sp1 rfl rfl ?_
              show wq 161 77 [(3, .int 2), (0, .ref 162), (1, .int 7), (2, .int 40)] [.int 115] h dc ds _
              refine wq_gos (f := 1) (pc2 := 97) (ls2 := [(3, .int 2), (0, .ref 162), (1, .int 7), (2, .int 40)]) (st2 := []) (h2 := h) (dc2 := dc) (ds2 := ds) 2 rfl ?_
              refine wq_sp1 rfl rfl ?_
              refine wq_gos (f := 1) (pc2 := 100) (ls2 := [(3, .int 2), (0, .ref 162), (1, .int 7), (2, .int 40)]) (st2 := [.int 40, .ref 13]) (h2 := h) (dc2 := dc) (ds2 := ds) 1 rfl ?_
              refine wq_sp1 rfl rfl ?_
              show wq 161 103 [(3, .int 2), (0, .ref 162), (1, .int 7), (2, .int 40)] [.int 114] h dc ds _
              refine wq_gos (f := 1) (pc2 := 97) (ls2 := [(2, .int 41), (3, .int 2), (0, .ref 162), (1, .int 7)]) (st2 := []) (h2 := h) (dc2 := dc) (ds2 := ds) 4 rfl ?_
              refine wq_sp1 rfl rfl ?_
              refine wq_gos (f := 1) (pc2 := 100) (ls2 := [(2, .int 41), (3, .int 2), (0, .ref 162), (1, .int 7)]) (st2 := [.int 41, .ref 13]) (h2 := h) (dc2 := dc) (ds2 := ds) 1 rfl ?_
              refine wq_sp1 rfl rfl ?_
              show wq 161 103 [(2, .int 41), (3, .int 2), (0, .ref 162), (1, .int 7)] [.int 101] h dc ds _
              refine wq_gos (f := 1) (pc2 := 97) (ls2 := [(2, .int 42), (3, .int 2), (0, .ref 162), (1, .int 7)]) (st2 := []) (h2 := h) (dc2 := dc) (ds2 := ds) 4 rfl ?_
              refine wq_sp1 rfl rfl ?_
              refine wq_gos (f := 1) (pc2 := 100) (ls2 := [(2, .int 42), (3, .int 2), (0, .ref 162), (1, .int 7)]) (st2 := [.int 42, .ref 13]) (h2 := h) (dc2 := dc) (ds2 := ds) 1 rfl ?_
              refine wq_sp1 rfl rfl ?_
              show wq 161 103 [(2, .int 42), (3, .int 2), (0, .ref 162), (1, .int 7)] [.int 115] h dc ds _
              refine wq_gos (f := 1) (pc2 := 97) (ls2 := [(2, .int 43), (3, .int 2), (0, .ref 162), (1, .int 7)]) (st2 := []) (h2 := h) (dc2 := dc) (ds2 := ds) 4 rfl ?_
              refine wq_sp1 rfl rfl ?_
              refine wq_gos (f := 1) (pc2 := 100) (ls2 := [(2, .int 43), (3, .int 2), (0, .ref 162), (1, .int 7)]) (st2 := [.int 43, .ref 13]) (h2 := h) (dc2 := dc) (ds2 := ds) 1 rfl ?_
              refine wq_sp1 rfl rfl ?_
              show wq 161 103 [(2, .int 43), (3, .int 2), (0, .ref 162), (1, .int 7)] [.int 116] h dc ds _
              refine wq_gos (f := 1) (pc2 := 97) (ls2 := [(2, .int 44), (3, .int 2), (0, .ref 162), (1, .int 7)]) (st2 := []) (h2 := h) (dc2 := dc) (ds2 := ds) 4 rfl ?_
              refine wq_sp1 rfl rfl ?_
              refine wq_gos (f := 1) (pc2 := 100) (ls2 := [(2, .int 44), (3, .int 2), (0, .ref 162), (1, .int 7)]) (st2 := [.int 44, .ref 13]) (h2 := h) (dc2 := dc) (ds2 := ds) 1 rfl ?_
              refine wq_sp1 rfl rfl ?_
              show wq 161 103 [(2, .int 44), (3, .int 2), (0, .ref 162), (1, .int 7)] [.int 32] h dc ds _
              refine wq_gos (f := 1) (pc2 := 4) (ls2 := [(1, .int 8), (2, .int 45), (3, .int 2), (0, .ref 162)]) (st2 := []) (h2 := h) (dc2 := dc) (ds2 := ds) 5 rfl ?_
              refine wq_ls [(0, .ref 162), (1, .int 8), (2, .int 45)] (show ([0, 1, 2] : List Nat).Nodup by decide) ⟨rfl, rfl, rfl, trivial⟩ ?_
              exact kN (by unfold mWs7; rw [if_neg (Int.not_le.mpr b3x), if_neg (fun q => q b5x), if_neg (Int.not_le.mpr b9x), if_neg (fun q => q b11x), if_neg (Int.not_le.mpr b15x), if_pos b17x])
            · have q19x : (tb.getD (pl + 2) 0).toInt = 115 := congrArg Int32.toInt b17x
              refine wq_gos (f := 1) (pc2 := 15) (ls2 := [(3, .int 3), (0, .ref 162), (1, .int 7), (2, .int 40)]) (st2 := []) (h2 := h) (dc2 := dc) (ds2 := ds) 2 rfl ?_
              refine wq_sp1 rfl rfl ?_
              refine wq_gos (f := 1) (pc2 := 20) (ls2 := [(3, .int 3), (0, .ref 162), (1, .int 7), (2, .int 40)]) (st2 := [.int 43, .ref 13]) (h2 := h) (dc2 := dc) (ds2 := ds) 3 rfl ?_
              refine wq_sp1 rfl rfl ?_
              show wq 161 23 [(3, .int 3), (0, .ref 162), (1, .int 7), (2, .int 40)] [.int 116] h dc ds _
              refine wq_gos (f := 1) (pc2 := 29) (ls2 := [(3, .int 3), (0, .ref 162), (1, .int 7), (2, .int 40)]) (st2 := [.ref 162]) (h2 := h) (dc2 := dc) (ds2 := ds) 3 rfl ?_
              refine wq_getf rfl hM rfl rfl ?_
              refine wq_gos (f := 1) (pc2 := 34) (ls2 := [(3, .int 3), (0, .ref 162), (1, .int 7), (2, .int 40)]) (st2 := [.int ((nI pl) + (3 : Int32))]) (h2 := h) (dc2 := dc) (ds2 := ds) 2 rfl ?_
              refine wq_vi (show (nI pl) + (3 : Int32) = nI (pl + 3) from nI_add pl 3) ?_
              refine wq_gos (f := 1) (pc2 := 35) (ls2 := [(3, .int 3), (0, .ref 162), (1, .int 7), (2, .int 40)]) (st2 := [.ref 162, .int (nI (pl + 3))]) (h2 := h) (dc2 := dc) (ds2 := ds) 1 rfl ?_
              refine wq_getf rfl hM rfl rfl ?_
              try have q20x := nI_toInt (n := (pl + 3)) (by omega)
              refine wq_ge2 rfl rfl (fun b21x => ?_) (fun b21x => ?_)
              · refine wq_sp1 rfl rfl ?_
                refine wq_gos (f := 1) (pc2 := 74) (ls2 := [(3, .int 3), (0, .ref 162), (1, .int 7), (2, .int 40)]) (st2 := [.int 43, .ref 13]) (h2 := h) (dc2 := dc) (ds2 := ds) 3 rfl ?_
                refine wq_sp1 rfl rfl ?_
                show wq 161 77 [(3, .int 3), (0, .ref 162), (1, .int 7), (2, .int 40)] [.int 116] h dc ds _
                refine wq_gos (f := 1) (pc2 := 97) (ls2 := [(3, .int 3), (0, .ref 162), (1, .int 7), (2, .int 40)]) (st2 := []) (h2 := h) (dc2 := dc) (ds2 := ds) 2 rfl ?_
                refine wq_sp1 rfl rfl ?_
                refine wq_gos (f := 1) (pc2 := 100) (ls2 := [(3, .int 3), (0, .ref 162), (1, .int 7), (2, .int 40)]) (st2 := [.int 40, .ref 13]) (h2 := h) (dc2 := dc) (ds2 := ds) 1 rfl ?_
                refine wq_sp1 rfl rfl ?_
                show wq 161 103 [(3, .int 3), (0, .ref 162), (1, .int 7), (2, .int 40)] [.int 114] h dc ds _
                refine wq_gos (f := 1) (pc2 := 97) (ls2 := [(2, .int 41), (3, .int 3), (0, .ref 162), (1, .int 7)]) (st2 := []) (h2 := h) (dc2 := dc) (ds2 := ds) 4 rfl ?_
                refine wq_sp1 rfl rfl ?_
                refine wq_gos (f := 1) (pc2 := 100) (ls2 := [(2, .int 41), (3, .int 3), (0, .ref 162), (1, .int 7)]) (st2 := [.int 41, .ref 13]) (h2 := h) (dc2 := dc) (ds2 := ds) 1 rfl ?_
                refine wq_sp1 rfl rfl ?_
                show wq 161 103 [(2, .int 41), (3, .int 3), (0, .ref 162), (1, .int 7)] [.int 101] h dc ds _
                refine wq_gos (f := 1) (pc2 := 97) (ls2 := [(2, .int 42), (3, .int 3), (0, .ref 162), (1, .int 7)]) (st2 := []) (h2 := h) (dc2 := dc) (ds2 := ds) 4 rfl ?_
                refine wq_sp1 rfl rfl ?_
                refine wq_gos (f := 1) (pc2 := 100) (ls2 := [(2, .int 42), (3, .int 3), (0, .ref 162), (1, .int 7)]) (st2 := [.int 42, .ref 13]) (h2 := h) (dc2 := dc) (ds2 := ds) 1 rfl ?_
                refine wq_sp1 rfl rfl ?_
                show wq 161 103 [(2, .int 42), (3, .int 3), (0, .ref 162), (1, .int 7)] [.int 115] h dc ds _
                refine wq_gos (f := 1) (pc2 := 97) (ls2 := [(2, .int 43), (3, .int 3), (0, .ref 162), (1, .int 7)]) (st2 := []) (h2 := h) (dc2 := dc) (ds2 := ds) 4 rfl ?_
                refine wq_sp1 rfl rfl ?_
                refine wq_gos (f := 1) (pc2 := 100) (ls2 := [(2, .int 43), (3, .int 3), (0, .ref 162), (1, .int 7)]) (st2 := [.int 43, .ref 13]) (h2 := h) (dc2 := dc) (ds2 := ds) 1 rfl ?_
                refine wq_sp1 rfl rfl ?_
                show wq 161 103 [(2, .int 43), (3, .int 3), (0, .ref 162), (1, .int 7)] [.int 116] h dc ds _
                refine wq_gos (f := 1) (pc2 := 97) (ls2 := [(2, .int 44), (3, .int 3), (0, .ref 162), (1, .int 7)]) (st2 := []) (h2 := h) (dc2 := dc) (ds2 := ds) 4 rfl ?_
                refine wq_sp1 rfl rfl ?_
                refine wq_gos (f := 1) (pc2 := 100) (ls2 := [(2, .int 44), (3, .int 3), (0, .ref 162), (1, .int 7)]) (st2 := [.int 44, .ref 13]) (h2 := h) (dc2 := dc) (ds2 := ds) 1 rfl ?_
                refine wq_sp1 rfl rfl ?_
                show wq 161 103 [(2, .int 44), (3, .int 3), (0, .ref 162), (1, .int 7)] [.int 32] h dc ds _
                refine wq_gos (f := 1) (pc2 := 4) (ls2 := [(1, .int 8), (2, .int 45), (3, .int 3), (0, .ref 162)]) (st2 := []) (h2 := h) (dc2 := dc) (ds2 := ds) 5 rfl ?_
                refine wq_ls [(0, .ref 162), (1, .int 8), (2, .int 45)] (show ([0, 1, 2] : List Nat).Nodup by decide) ⟨rfl, rfl, rfl, trivial⟩ ?_
                exact kN (by unfold mWs7; rw [if_neg (Int.not_le.mpr b3x), if_neg (fun q => q b5x), if_neg (Int.not_le.mpr b9x), if_neg (fun q => q b11x), if_neg (Int.not_le.mpr b15x), if_neg (fun q => q b17x), if_pos b21x])
              · refine wq_gos (f := 1) (pc2 := 42) (ls2 := [(3, .int 3), (0, .ref 162), (1, .int 7), (2, .int 40)]) (st2 := [.ref 162]) (h2 := h) (dc2 := dc) (ds2 := ds) 1 rfl ?_
                refine wq_getf rfl hM rfl rfl ?_
                refine wq_gos (f := 1) (pc2 := 46) (ls2 := [(3, .int 3), (0, .ref 162), (1, .int 7), (2, .int 40)]) (st2 := [.ref 162, .ref 164]) (h2 := h) (dc2 := dc) (ds2 := ds) 1 rfl ?_
                refine wq_getf rfl hM rfl rfl ?_
                refine wq_gos (f := 1) (pc2 := 51) (ls2 := [(3, .int 3), (0, .ref 162), (1, .int 7), (2, .int 40)]) (st2 := [.int ((nI pl) + (3 : Int32)), .ref 164]) (h2 := h) (dc2 := dc) (ds2 := ds) 2 rfl ?_
                refine wq_vi (show (nI pl) + (3 : Int32) = nI (pl + 3) from nI_add pl 3) ?_
                refine wq_ialdn rfl hT (by first | omega | exact zin_t (by omega) (by omega)) (by decide) rfl ?_
                refine wq_sp1 rfl rfl ?_
                refine wq_gos (f := 1) (pc2 := 57) (ls2 := [(3, .int 3), (0, .ref 162), (1, .int 7), (2, .int 40)]) (st2 := [.int 43, .ref 13, .int (tb.getD (pl + 3) 0)]) (h2 := h) (dc2 := dc) (ds2 := ds) 3 rfl ?_
                refine wq_sp1 rfl rfl ?_
                show wq 161 60 [(3, .int 3), (0, .ref 162), (1, .int 7), (2, .int 40)] [.int 116, .int (tb.getD (pl + 3) 0)] h dc ds _
                have q22x : (116 : Int32).toInt = 116 := rfl
                refine wq_ne2 rfl rfl (fun b23x => ?_) (fun b23x => ?_)
                · have q24x : (tb.getD (pl + 3) 0).toInt ≠ 116 := fun q => b23x (Int32.toInt_inj.mp q)
                  refine wq_sp1 rfl rfl ?_
                  refine wq_gos (f := 1) (pc2 := 74) (ls2 := [(3, .int 3), (0, .ref 162), (1, .int 7), (2, .int 40)]) (st2 := [.int 43, .ref 13]) (h2 := h) (dc2 := dc) (ds2 := ds) 3 rfl ?_
                  refine wq_sp1 rfl rfl ?_
                  show wq 161 77 [(3, .int 3), (0, .ref 162), (1, .int 7), (2, .int 40)] [.int 116] h dc ds _
                  refine wq_gos (f := 1) (pc2 := 97) (ls2 := [(3, .int 3), (0, .ref 162), (1, .int 7), (2, .int 40)]) (st2 := []) (h2 := h) (dc2 := dc) (ds2 := ds) 2 rfl ?_
                  refine wq_sp1 rfl rfl ?_
                  refine wq_gos (f := 1) (pc2 := 100) (ls2 := [(3, .int 3), (0, .ref 162), (1, .int 7), (2, .int 40)]) (st2 := [.int 40, .ref 13]) (h2 := h) (dc2 := dc) (ds2 := ds) 1 rfl ?_
                  refine wq_sp1 rfl rfl ?_
                  show wq 161 103 [(3, .int 3), (0, .ref 162), (1, .int 7), (2, .int 40)] [.int 114] h dc ds _
                  refine wq_gos (f := 1) (pc2 := 97) (ls2 := [(2, .int 41), (3, .int 3), (0, .ref 162), (1, .int 7)]) (st2 := []) (h2 := h) (dc2 := dc) (ds2 := ds) 4 rfl ?_
                  refine wq_sp1 rfl rfl ?_
                  refine wq_gos (f := 1) (pc2 := 100) (ls2 := [(2, .int 41), (3, .int 3), (0, .ref 162), (1, .int 7)]) (st2 := [.int 41, .ref 13]) (h2 := h) (dc2 := dc) (ds2 := ds) 1 rfl ?_
                  refine wq_sp1 rfl rfl ?_
                  show wq 161 103 [(2, .int 41), (3, .int 3), (0, .ref 162), (1, .int 7)] [.int 101] h dc ds _
                  refine wq_gos (f := 1) (pc2 := 97) (ls2 := [(2, .int 42), (3, .int 3), (0, .ref 162), (1, .int 7)]) (st2 := []) (h2 := h) (dc2 := dc) (ds2 := ds) 4 rfl ?_
                  refine wq_sp1 rfl rfl ?_
                  refine wq_gos (f := 1) (pc2 := 100) (ls2 := [(2, .int 42), (3, .int 3), (0, .ref 162), (1, .int 7)]) (st2 := [.int 42, .ref 13]) (h2 := h) (dc2 := dc) (ds2 := ds) 1 rfl ?_
                  refine wq_sp1 rfl rfl ?_
                  show wq 161 103 [(2, .int 42), (3, .int 3), (0, .ref 162), (1, .int 7)] [.int 115] h dc ds _
                  refine wq_gos (f := 1) (pc2 := 97) (ls2 := [(2, .int 43), (3, .int 3), (0, .ref 162), (1, .int 7)]) (st2 := []) (h2 := h) (dc2 := dc) (ds2 := ds) 4 rfl ?_
                  refine wq_sp1 rfl rfl ?_
                  refine wq_gos (f := 1) (pc2 := 100) (ls2 := [(2, .int 43), (3, .int 3), (0, .ref 162), (1, .int 7)]) (st2 := [.int 43, .ref 13]) (h2 := h) (dc2 := dc) (ds2 := ds) 1 rfl ?_
                  refine wq_sp1 rfl rfl ?_
                  show wq 161 103 [(2, .int 43), (3, .int 3), (0, .ref 162), (1, .int 7)] [.int 116] h dc ds _
                  refine wq_gos (f := 1) (pc2 := 97) (ls2 := [(2, .int 44), (3, .int 3), (0, .ref 162), (1, .int 7)]) (st2 := []) (h2 := h) (dc2 := dc) (ds2 := ds) 4 rfl ?_
                  refine wq_sp1 rfl rfl ?_
                  refine wq_gos (f := 1) (pc2 := 100) (ls2 := [(2, .int 44), (3, .int 3), (0, .ref 162), (1, .int 7)]) (st2 := [.int 44, .ref 13]) (h2 := h) (dc2 := dc) (ds2 := ds) 1 rfl ?_
                  refine wq_sp1 rfl rfl ?_
                  show wq 161 103 [(2, .int 44), (3, .int 3), (0, .ref 162), (1, .int 7)] [.int 32] h dc ds _
                  refine wq_gos (f := 1) (pc2 := 4) (ls2 := [(1, .int 8), (2, .int 45), (3, .int 3), (0, .ref 162)]) (st2 := []) (h2 := h) (dc2 := dc) (ds2 := ds) 5 rfl ?_
                  refine wq_ls [(0, .ref 162), (1, .int 8), (2, .int 45)] (show ([0, 1, 2] : List Nat).Nodup by decide) ⟨rfl, rfl, rfl, trivial⟩ ?_
                  exact kN (by unfold mWs7; rw [if_neg (Int.not_le.mpr b3x), if_neg (fun q => q b5x), if_neg (Int.not_le.mpr b9x), if_neg (fun q => q b11x), if_neg (Int.not_le.mpr b15x), if_neg (fun q => q b17x), if_neg (Int.not_le.mpr b21x), if_pos b23x])
                · have q25x : (tb.getD (pl + 3) 0).toInt = 116 := congrArg Int32.toInt b23x
                  refine wq_gos (f := 1) (pc2 := 15) (ls2 := [(3, .int 4), (0, .ref 162), (1, .int 7), (2, .int 40)]) (st2 := []) (h2 := h) (dc2 := dc) (ds2 := ds) 2 rfl ?_
                  refine wq_sp1 rfl rfl ?_
                  refine wq_gos (f := 1) (pc2 := 20) (ls2 := [(3, .int 4), (0, .ref 162), (1, .int 7), (2, .int 40)]) (st2 := [.int 44, .ref 13]) (h2 := h) (dc2 := dc) (ds2 := ds) 3 rfl ?_
                  refine wq_sp1 rfl rfl ?_
                  show wq 161 23 [(3, .int 4), (0, .ref 162), (1, .int 7), (2, .int 40)] [.int 32] h dc ds _
                  refine wq_gos (f := 1) (pc2 := 69) (ls2 := [(3, .int 4), (0, .ref 162), (1, .int 7), (2, .int 40)]) (st2 := []) (h2 := h) (dc2 := dc) (ds2 := ds) 2 rfl ?_
                  refine wq_sp1 rfl rfl ?_
                  refine wq_gos (f := 1) (pc2 := 74) (ls2 := [(3, .int 4), (0, .ref 162), (1, .int 7), (2, .int 40)]) (st2 := [.int 44, .ref 13]) (h2 := h) (dc2 := dc) (ds2 := ds) 3 rfl ?_
                  refine wq_sp1 rfl rfl ?_
                  show wq 161 77 [(3, .int 4), (0, .ref 162), (1, .int 7), (2, .int 40)] [.int 32] h dc ds _
                  refine wq_gos (f := 1) (pc2 := 83) (ls2 := [(3, .int 4), (0, .ref 162), (1, .int 7), (2, .int 40)]) (st2 := [.ref 162]) (h2 := h) (dc2 := dc) (ds2 := ds) 3 rfl ?_
                  refine wq_getf rfl hM rfl rfl ?_
                  refine wq_gos (f := 1) (pc2 := 88) (ls2 := [(3, .int 4), (0, .ref 162), (1, .int 7), (2, .int 40)]) (st2 := [.int ((nI pl) + (4 : Int32))]) (h2 := h) (dc2 := dc) (ds2 := ds) 2 rfl ?_
                  refine wq_vi (show (nI pl) + (4 : Int32) = nI (pl + 4) from nI_add pl 4) ?_
                  refine wq_gos (f := 1) (pc2 := 89) (ls2 := [(3, .int 4), (0, .ref 162), (1, .int 7), (2, .int 40)]) (st2 := [.ref 162, .int (nI (pl + 4))]) (h2 := h) (dc2 := dc) (ds2 := ds) 1 rfl ?_
                  refine wq_getf rfl hM rfl rfl ?_
                  try have q26x := nI_toInt (n := (pl + 4)) (by omega)
                  refine wq_ne2 rfl rfl (fun b27x => ?_) (fun b27x => ?_)
                  · have q28x : (nI (pl + 4)).toInt ≠ (nI at9).toInt := fun q => b27x (Int32.toInt_inj.mp q)
                    refine wq_sp1 rfl rfl ?_
                    refine wq_gos (f := 1) (pc2 := 100) (ls2 := [(3, .int 4), (0, .ref 162), (1, .int 7), (2, .int 40)]) (st2 := [.int 40, .ref 13]) (h2 := h) (dc2 := dc) (ds2 := ds) 1 rfl ?_
                    refine wq_sp1 rfl rfl ?_
                    show wq 161 103 [(3, .int 4), (0, .ref 162), (1, .int 7), (2, .int 40)] [.int 114] h dc ds _
                    refine wq_gos (f := 1) (pc2 := 97) (ls2 := [(2, .int 41), (3, .int 4), (0, .ref 162), (1, .int 7)]) (st2 := []) (h2 := h) (dc2 := dc) (ds2 := ds) 4 rfl ?_
                    refine wq_sp1 rfl rfl ?_
                    refine wq_gos (f := 1) (pc2 := 100) (ls2 := [(2, .int 41), (3, .int 4), (0, .ref 162), (1, .int 7)]) (st2 := [.int 41, .ref 13]) (h2 := h) (dc2 := dc) (ds2 := ds) 1 rfl ?_
                    refine wq_sp1 rfl rfl ?_
                    show wq 161 103 [(2, .int 41), (3, .int 4), (0, .ref 162), (1, .int 7)] [.int 101] h dc ds _
                    refine wq_gos (f := 1) (pc2 := 97) (ls2 := [(2, .int 42), (3, .int 4), (0, .ref 162), (1, .int 7)]) (st2 := []) (h2 := h) (dc2 := dc) (ds2 := ds) 4 rfl ?_
                    refine wq_sp1 rfl rfl ?_
                    refine wq_gos (f := 1) (pc2 := 100) (ls2 := [(2, .int 42), (3, .int 4), (0, .ref 162), (1, .int 7)]) (st2 := [.int 42, .ref 13]) (h2 := h) (dc2 := dc) (ds2 := ds) 1 rfl ?_
                    refine wq_sp1 rfl rfl ?_
                    show wq 161 103 [(2, .int 42), (3, .int 4), (0, .ref 162), (1, .int 7)] [.int 115] h dc ds _
                    refine wq_gos (f := 1) (pc2 := 97) (ls2 := [(2, .int 43), (3, .int 4), (0, .ref 162), (1, .int 7)]) (st2 := []) (h2 := h) (dc2 := dc) (ds2 := ds) 4 rfl ?_
                    refine wq_sp1 rfl rfl ?_
                    refine wq_gos (f := 1) (pc2 := 100) (ls2 := [(2, .int 43), (3, .int 4), (0, .ref 162), (1, .int 7)]) (st2 := [.int 43, .ref 13]) (h2 := h) (dc2 := dc) (ds2 := ds) 1 rfl ?_
                    refine wq_sp1 rfl rfl ?_
                    show wq 161 103 [(2, .int 43), (3, .int 4), (0, .ref 162), (1, .int 7)] [.int 116] h dc ds _
                    refine wq_gos (f := 1) (pc2 := 97) (ls2 := [(2, .int 44), (3, .int 4), (0, .ref 162), (1, .int 7)]) (st2 := []) (h2 := h) (dc2 := dc) (ds2 := ds) 4 rfl ?_
                    refine wq_sp1 rfl rfl ?_
                    refine wq_gos (f := 1) (pc2 := 100) (ls2 := [(2, .int 44), (3, .int 4), (0, .ref 162), (1, .int 7)]) (st2 := [.int 44, .ref 13]) (h2 := h) (dc2 := dc) (ds2 := ds) 1 rfl ?_
                    refine wq_sp1 rfl rfl ?_
                    show wq 161 103 [(2, .int 44), (3, .int 4), (0, .ref 162), (1, .int 7)] [.int 32] h dc ds _
                    refine wq_gos (f := 1) (pc2 := 4) (ls2 := [(1, .int 8), (2, .int 45), (3, .int 4), (0, .ref 162)]) (st2 := []) (h2 := h) (dc2 := dc) (ds2 := ds) 5 rfl ?_
                    refine wq_ls [(0, .ref 162), (1, .int 8), (2, .int 45)] (show ([0, 1, 2] : List Nat).Nodup by decide) ⟨rfl, rfl, rfl, trivial⟩ ?_
                    exact kN (by unfold mWs7; rw [if_neg (Int.not_le.mpr b3x), if_neg (fun q => q b5x), if_neg (Int.not_le.mpr b9x), if_neg (fun q => q b11x), if_neg (Int.not_le.mpr b15x), if_neg (fun q => q b17x), if_neg (Int.not_le.mpr b21x), if_neg (fun q => q b23x), if_pos b27x])
                  · have q29x : (nI (pl + 4)).toInt = (nI at9).toInt := congrArg Int32.toInt b27x
                    refine wq_gos (f := 1) (pc2 := 96) (ls2 := [(3, .int 4), (0, .ref 162), (1, .int 7), (2, .int 40)]) (st2 := [.int 7]) (h2 := h) (dc2 := dc) (ds2 := ds) 1 rfl ?_
                    exact wq_ret rfl rfl (kR (by unfold mWs7; rw [if_neg (Int.not_le.mpr b3x), if_neg (fun q => q b5x), if_neg (Int.not_le.mpr b9x), if_neg (fun q => q b11x), if_neg (Int.not_le.mpr b15x), if_neg (fun q => q b17x), if_neg (Int.not_le.mpr b21x), if_neg (fun q => q b23x), if_neg (fun q => q b27x)]))
noncomputable def mWs8 (tb : List Int32) (at9 pl : Nat) : Nat := (if (nI at9).toInt ≤ (nI (pl + 0)).toInt then 0 else (if (tb.getD (pl + 0) 0) ≠ (115 : Int32) then 0 else (if (nI at9).toInt ≤ (nI (pl + 1)).toInt then 0 else (if (tb.getD (pl + 1) 0) ≠ (112 : Int32) then 0 else (if (nI at9).toInt ≤ (nI (pl + 2)).toInt then 0 else (if (tb.getD (pl + 2) 0) ≠ (111 : Int32) then 0 else (if (nI at9).toInt ≤ (nI (pl + 3)).toInt then 0 else (if (tb.getD (pl + 3) 0) ≠ (116 : Int32) then 0 else (if (nI (pl + 4)) ≠ (nI at9) then 0 else 1)))))))))
set_option maxRecDepth 100000 in
set_option maxHeartbeats 4000000 in
theorem m_w8 {h : zH} {Q : zR → Prop} {dc ds : Nat} {n0 n2 n14 n22 n23 n27 n28 n32 n33 n34 n35 n39 n52 : Int32} {sz at9 pl : Nat} {so va ft fp : Int32} {tb : List Int32} (hM : zat h 162 = some (.inr (.inr (.inr (10, mO n0 n2 n14 (nI sz) (nI at9) (nI pl) so va ft fp n22 n23 n27 n28 n32 n33 n34 n35 n39 n52))))) (hT : zat h 164 = some (.inl (0, 700, tb))) (hsz : sz ≤ 700) (ha : at9 ≤ sz) (hp : pl ≤ at9) (kN : ((mWs8 tb at9 pl) = 0) → wq 161 4 [(0, .ref 162), (1, .int 9), (2, .int 50)] [] h dc ds Q) (kR : ((mWs8 tb at9 pl) = 1) → Q (some (.int 8), h, dc, ds)) : wq 161 4 [(0, .ref 162), (1, .int 8), (2, .int 45)] [] h dc ds Q := by
  have qnat9 := nI_toInt (n := at9) (by omega)
  have qnpl := nI_toInt (n := pl) (by omega)
  have qp0 := nI_toInt (n := pl + 0) (by omega)
  have qp1 := nI_toInt (n := pl + 1) (by omega)
  have qp2 := nI_toInt (n := pl + 2) (by omega)
  have qp3 := nI_toInt (n := pl + 3) (by omega)
  have qp4 := nI_toInt (n := pl + 4) (by omega)
  have qp5 := nI_toInt (n := pl + 5) (by omega)
  have qp6 := nI_toInt (n := pl + 6) (by omega)
  have qp7 := nI_toInt (n := pl + 7) (by omega)
  refine wq_gos (f := 1) (pc2 := 5) (ls2 := [(0, .ref 162), (1, .int 8), (2, .int 45)]) (st2 := [.int 45]) (h2 := h) (dc2 := dc) (ds2 := ds) 1 rfl ?_
  refine wq_sp1 rfl rfl ?_
  refine wq_sp1 rfl rfl ?_
  refine wq_gos (f := 1) (pc2 := 15) (ls2 := [(3, .int 0), (0, .ref 162), (1, .int 8), (2, .int 45)]) (st2 := []) (h2 := h) (dc2 := dc) (ds2 := ds) 3 rfl ?_
  refine wq_sp1 rfl rfl ?_
  refine wq_gos (f := 1) (pc2 := 20) (ls2 := [(3, .int 0), (0, .ref 162), (1, .int 8), (2, .int 45)]) (st2 := [.int 45, .ref 13]) (h2 := h) (dc2 := dc) (ds2 := ds) 3 rfl ?_
  refine wq_sp1 rfl rfl ?_
  show wq 161 23 [(3, .int 0), (0, .ref 162), (1, .int 8), (2, .int 45)] [.int 115] h dc ds _
  refine wq_gos (f := 1) (pc2 := 29) (ls2 := [(3, .int 0), (0, .ref 162), (1, .int 8), (2, .int 45)]) (st2 := [.ref 162]) (h2 := h) (dc2 := dc) (ds2 := ds) 3 rfl ?_
  refine wq_getf rfl hM rfl rfl ?_
  refine wq_gos (f := 1) (pc2 := 34) (ls2 := [(3, .int 0), (0, .ref 162), (1, .int 8), (2, .int 45)]) (st2 := [.int ((nI pl) + (0 : Int32))]) (h2 := h) (dc2 := dc) (ds2 := ds) 2 rfl ?_
  refine wq_vi (show (nI pl) + (0 : Int32) = nI (pl + 0) from nI_add pl 0) ?_
  refine wq_gos (f := 1) (pc2 := 35) (ls2 := [(3, .int 0), (0, .ref 162), (1, .int 8), (2, .int 45)]) (st2 := [.ref 162, .int (nI (pl + 0))]) (h2 := h) (dc2 := dc) (ds2 := ds) 1 rfl ?_
  refine wq_getf rfl hM rfl rfl ?_
  try have q1x := nI_toInt (n := (pl + 0)) (by omega)
  try have q2x := nI_toInt (n := at9) (by omega)
  refine wq_ge2 rfl rfl (fun b3x => ?_) (fun b3x => ?_)
  · refine wq_sp1 rfl rfl ?_
    refine wq_gos (f := 1) (pc2 := 74) (ls2 := [(3, .int 0), (0, .ref 162), (1, .int 8), (2, .int 45)]) (st2 := [.int 45, .ref 13]) (h2 := h) (dc2 := dc) (ds2 := ds) 3 rfl ?_
    refine wq_sp1 rfl rfl ?_
    show wq 161 77 [(3, .int 0), (0, .ref 162), (1, .int 8), (2, .int 45)] [.int 115] h dc ds _
    refine wq_gos (f := 1) (pc2 := 97) (ls2 := [(3, .int 0), (0, .ref 162), (1, .int 8), (2, .int 45)]) (st2 := []) (h2 := h) (dc2 := dc) (ds2 := ds) 2 rfl ?_
    refine wq_sp1 rfl rfl ?_
    refine wq_gos (f := 1) (pc2 := 100) (ls2 := [(3, .int 0), (0, .ref 162), (1, .int 8), (2, .int 45)]) (st2 := [.int 45, .ref 13]) (h2 := h) (dc2 := dc) (ds2 := ds) 1 rfl ?_
    refine wq_sp1 rfl rfl ?_
    show wq 161 103 [(3, .int 0), (0, .ref 162), (1, .int 8), (2, .int 45)] [.int 115] h dc ds _
    refine wq_gos (f := 1) (pc2 := 97) (ls2 := [(2, .int 46), (3, .int 0), (0, .ref 162), (1, .int 8)]) (st2 := []) (h2 := h) (dc2 := dc) (ds2 := ds) 4 rfl ?_
    refine wq_sp1 rfl rfl ?_
    refine wq_gos (f := 1) (pc2 := 100) (ls2 := [(2, .int 46), (3, .int 0), (0, .ref 162), (1, .int 8)]) (st2 := [.int 46, .ref 13]) (h2 := h) (dc2 := dc) (ds2 := ds) 1 rfl ?_
    refine wq_sp1 rfl rfl ?_
    show wq 161 103 [(2, .int 46), (3, .int 0), (0, .ref 162), (1, .int 8)] [.int 112] h dc ds _
    refine wq_gos (f := 1) (pc2 := 97) (ls2 := [(2, .int 47), (3, .int 0), (0, .ref 162), (1, .int 8)]) (st2 := []) (h2 := h) (dc2 := dc) (ds2 := ds) 4 rfl ?_
    refine wq_sp1 rfl rfl ?_
    refine wq_gos (f := 1) (pc2 := 100) (ls2 := [(2, .int 47), (3, .int 0), (0, .ref 162), (1, .int 8)]) (st2 := [.int 47, .ref 13]) (h2 := h) (dc2 := dc) (ds2 := ds) 1 rfl ?_
    refine wq_sp1 rfl rfl ?_
    show wq 161 103 [(2, .int 47), (3, .int 0), (0, .ref 162), (1, .int 8)] [.int 111] h dc ds _
    refine wq_gos (f := 1) (pc2 := 97) (ls2 := [(2, .int 48), (3, .int 0), (0, .ref 162), (1, .int 8)]) (st2 := []) (h2 := h) (dc2 := dc) (ds2 := ds) 4 rfl ?_
    refine wq_sp1 rfl rfl ?_
    refine wq_gos (f := 1) (pc2 := 100) (ls2 := [(2, .int 48), (3, .int 0), (0, .ref 162), (1, .int 8)]) (st2 := [.int 48, .ref 13]) (h2 := h) (dc2 := dc) (ds2 := ds) 1 rfl ?_
    refine wq_sp1 rfl rfl ?_
    show wq 161 103 [(2, .int 48), (3, .int 0), (0, .ref 162), (1, .int 8)] [.int 116] h dc ds _
    refine wq_gos (f := 1) (pc2 := 97) (ls2 := [(2, .int 49), (3, .int 0), (0, .ref 162), (1, .int 8)]) (st2 := []) (h2 := h) (dc2 := dc) (ds2 := ds) 4 rfl ?_
    refine wq_sp1 rfl rfl ?_
    refine wq_gos (f := 1) (pc2 := 100) (ls2 := [(2, .int 49), (3, .int 0), (0, .ref 162), (1, .int 8)]) (st2 := [.int 49, .ref 13]) (h2 := h) (dc2 := dc) (ds2 := ds) 1 rfl ?_
    refine wq_sp1 rfl rfl ?_
    show wq 161 103 [(2, .int 49), (3, .int 0), (0, .ref 162), (1, .int 8)] [.int 32] h dc ds _
    refine wq_gos (f := 1) (pc2 := 4) (ls2 := [(1, .int 9), (2, .int 50), (3, .int 0), (0, .ref 162)]) (st2 := []) (h2 := h) (dc2 := dc) (ds2 := ds) 5 rfl ?_
    refine wq_ls [(0, .ref 162), (1, .int 9), (2, .int 50)] (show ([0, 1, 2] : List Nat).Nodup by decide) ⟨rfl, rfl, rfl, trivial⟩ ?_
    exact kN (by unfold mWs8; rw [if_pos b3x])
  · refine wq_gos (f := 1) (pc2 := 42) (ls2 := [(3, .int 0), (0, .ref 162), (1, .int 8), (2, .int 45)]) (st2 := [.ref 162]) (h2 := h) (dc2 := dc) (ds2 := ds) 1 rfl ?_
    refine wq_getf rfl hM rfl rfl ?_
    refine wq_gos (f := 1) (pc2 := 46) (ls2 := [(3, .int 0), (0, .ref 162), (1, .int 8), (2, .int 45)]) (st2 := [.ref 162, .ref 164]) (h2 := h) (dc2 := dc) (ds2 := ds) 1 rfl ?_
    refine wq_getf rfl hM rfl rfl ?_
    refine wq_gos (f := 1) (pc2 := 51) (ls2 := [(3, .int 0), (0, .ref 162), (1, .int 8), (2, .int 45)]) (st2 := [.int ((nI pl) + (0 : Int32)), .ref 164]) (h2 := h) (dc2 := dc) (ds2 := ds) 2 rfl ?_
    refine wq_vi (show (nI pl) + (0 : Int32) = nI (pl + 0) from nI_add pl 0) ?_
    refine wq_ialdn rfl hT (by first | omega | exact zin_t (by omega) (by omega)) (by decide) rfl ?_
    refine wq_sp1 rfl rfl ?_
    refine wq_gos (f := 1) (pc2 := 57) (ls2 := [(3, .int 0), (0, .ref 162), (1, .int 8), (2, .int 45)]) (st2 := [.int 45, .ref 13, .int (tb.getD (pl + 0) 0)]) (h2 := h) (dc2 := dc) (ds2 := ds) 3 rfl ?_
    refine wq_sp1 rfl rfl ?_
    show wq 161 60 [(3, .int 0), (0, .ref 162), (1, .int 8), (2, .int 45)] [.int 115, .int (tb.getD (pl + 0) 0)] h dc ds _
    have q4x : (115 : Int32).toInt = 115 := rfl
    refine wq_ne2 rfl rfl (fun b5x => ?_) (fun b5x => ?_)
    · have q6x : (tb.getD (pl + 0) 0).toInt ≠ 115 := fun q => b5x (Int32.toInt_inj.mp q)
      refine wq_sp1 rfl rfl ?_
      refine wq_gos (f := 1) (pc2 := 74) (ls2 := [(3, .int 0), (0, .ref 162), (1, .int 8), (2, .int 45)]) (st2 := [.int 45, .ref 13]) (h2 := h) (dc2 := dc) (ds2 := ds) 3 rfl ?_
      refine wq_sp1 rfl rfl ?_
      show wq 161 77 [(3, .int 0), (0, .ref 162), (1, .int 8), (2, .int 45)] [.int 115] h dc ds _
      refine wq_gos (f := 1) (pc2 := 97) (ls2 := [(3, .int 0), (0, .ref 162), (1, .int 8), (2, .int 45)]) (st2 := []) (h2 := h) (dc2 := dc) (ds2 := ds) 2 rfl ?_
      refine wq_sp1 rfl rfl ?_
      refine wq_gos (f := 1) (pc2 := 100) (ls2 := [(3, .int 0), (0, .ref 162), (1, .int 8), (2, .int 45)]) (st2 := [.int 45, .ref 13]) (h2 := h) (dc2 := dc) (ds2 := ds) 1 rfl ?_
      refine wq_sp1 rfl rfl ?_
      show wq 161 103 [(3, .int 0), (0, .ref 162), (1, .int 8), (2, .int 45)] [.int 115] h dc ds _
      refine wq_gos (f := 1) (pc2 := 97) (ls2 := [(2, .int 46), (3, .int 0), (0, .ref 162), (1, .int 8)]) (st2 := []) (h2 := h) (dc2 := dc) (ds2 := ds) 4 rfl ?_
      refine wq_sp1 rfl rfl ?_
      refine wq_gos (f := 1) (pc2 := 100) (ls2 := [(2, .int 46), (3, .int 0), (0, .ref 162), (1, .int 8)]) (st2 := [.int 46, .ref 13]) (h2 := h) (dc2 := dc) (ds2 := ds) 1 rfl ?_
      refine wq_sp1 rfl rfl ?_
      show wq 161 103 [(2, .int 46), (3, .int 0), (0, .ref 162), (1, .int 8)] [.int 112] h dc ds _
      refine wq_gos (f := 1) (pc2 := 97) (ls2 := [(2, .int 47), (3, .int 0), (0, .ref 162), (1, .int 8)]) (st2 := []) (h2 := h) (dc2 := dc) (ds2 := ds) 4 rfl ?_
      refine wq_sp1 rfl rfl ?_
      refine wq_gos (f := 1) (pc2 := 100) (ls2 := [(2, .int 47), (3, .int 0), (0, .ref 162), (1, .int 8)]) (st2 := [.int 47, .ref 13]) (h2 := h) (dc2 := dc) (ds2 := ds) 1 rfl ?_
      refine wq_sp1 rfl rfl ?_
      show wq 161 103 [(2, .int 47), (3, .int 0), (0, .ref 162), (1, .int 8)] [.int 111] h dc ds _
      refine wq_gos (f := 1) (pc2 := 97) (ls2 := [(2, .int 48), (3, .int 0), (0, .ref 162), (1, .int 8)]) (st2 := []) (h2 := h) (dc2 := dc) (ds2 := ds) 4 rfl ?_
      refine wq_sp1 rfl rfl ?_
      refine wq_gos (f := 1) (pc2 := 100) (ls2 := [(2, .int 48), (3, .int 0), (0, .ref 162), (1, .int 8)]) (st2 := [.int 48, .ref 13]) (h2 := h) (dc2 := dc) (ds2 := ds) 1 rfl ?_
      refine wq_sp1 rfl rfl ?_
      show wq 161 103 [(2, .int 48), (3, .int 0), (0, .ref 162), (1, .int 8)] [.int 116] h dc ds _
      refine wq_gos (f := 1) (pc2 := 97) (ls2 := [(2, .int 49), (3, .int 0), (0, .ref 162), (1, .int 8)]) (st2 := []) (h2 := h) (dc2 := dc) (ds2 := ds) 4 rfl ?_
      refine wq_sp1 rfl rfl ?_
      refine wq_gos (f := 1) (pc2 := 100) (ls2 := [(2, .int 49), (3, .int 0), (0, .ref 162), (1, .int 8)]) (st2 := [.int 49, .ref 13]) (h2 := h) (dc2 := dc) (ds2 := ds) 1 rfl ?_
      refine wq_sp1 rfl rfl ?_
      show wq 161 103 [(2, .int 49), (3, .int 0), (0, .ref 162), (1, .int 8)] [.int 32] h dc ds _
      refine wq_gos (f := 1) (pc2 := 4) (ls2 := [(1, .int 9), (2, .int 50), (3, .int 0), (0, .ref 162)]) (st2 := []) (h2 := h) (dc2 := dc) (ds2 := ds) 5 rfl ?_
      refine wq_ls [(0, .ref 162), (1, .int 9), (2, .int 50)] (show ([0, 1, 2] : List Nat).Nodup by decide) ⟨rfl, rfl, rfl, trivial⟩ ?_
      exact kN (by unfold mWs8; rw [if_neg (Int.not_le.mpr b3x), if_pos b5x])
    · have q7x : (tb.getD (pl + 0) 0).toInt = 115 := congrArg Int32.toInt b5x
      refine wq_gos (f := 1) (pc2 := 15) (ls2 := [(3, .int 1), (0, .ref 162), (1, .int 8), (2, .int 45)]) (st2 := []) (h2 := h) (dc2 := dc) (ds2 := ds) 2 rfl ?_
      refine wq_sp1 rfl rfl ?_
      refine wq_gos (f := 1) (pc2 := 20) (ls2 := [(3, .int 1), (0, .ref 162), (1, .int 8), (2, .int 45)]) (st2 := [.int 46, .ref 13]) (h2 := h) (dc2 := dc) (ds2 := ds) 3 rfl ?_
      refine wq_sp1 rfl rfl ?_
      show wq 161 23 [(3, .int 1), (0, .ref 162), (1, .int 8), (2, .int 45)] [.int 112] h dc ds _
      refine wq_gos (f := 1) (pc2 := 29) (ls2 := [(3, .int 1), (0, .ref 162), (1, .int 8), (2, .int 45)]) (st2 := [.ref 162]) (h2 := h) (dc2 := dc) (ds2 := ds) 3 rfl ?_
      refine wq_getf rfl hM rfl rfl ?_
      refine wq_gos (f := 1) (pc2 := 34) (ls2 := [(3, .int 1), (0, .ref 162), (1, .int 8), (2, .int 45)]) (st2 := [.int ((nI pl) + (1 : Int32))]) (h2 := h) (dc2 := dc) (ds2 := ds) 2 rfl ?_
      refine wq_vi (show (nI pl) + (1 : Int32) = nI (pl + 1) from nI_add pl 1) ?_
      refine wq_gos (f := 1) (pc2 := 35) (ls2 := [(3, .int 1), (0, .ref 162), (1, .int 8), (2, .int 45)]) (st2 := [.ref 162, .int (nI (pl + 1))]) (h2 := h) (dc2 := dc) (ds2 := ds) 1 rfl ?_
      refine wq_getf rfl hM rfl rfl ?_
      try have q8x := nI_toInt (n := (pl + 1)) (by omega)
      refine wq_ge2 rfl rfl (fun b9x => ?_) (fun b9x => ?_)
      · refine wq_sp1 rfl rfl ?_
        refine wq_gos (f := 1) (pc2 := 74) (ls2 := [(3, .int 1), (0, .ref 162), (1, .int 8), (2, .int 45)]) (st2 := [.int 46, .ref 13]) (h2 := h) (dc2 := dc) (ds2 := ds) 3 rfl ?_
        refine wq_sp1 rfl rfl ?_
        show wq 161 77 [(3, .int 1), (0, .ref 162), (1, .int 8), (2, .int 45)] [.int 112] h dc ds _
        refine wq_gos (f := 1) (pc2 := 97) (ls2 := [(3, .int 1), (0, .ref 162), (1, .int 8), (2, .int 45)]) (st2 := []) (h2 := h) (dc2 := dc) (ds2 := ds) 2 rfl ?_
        refine wq_sp1 rfl rfl ?_
        refine wq_gos (f := 1) (pc2 := 100) (ls2 := [(3, .int 1), (0, .ref 162), (1, .int 8), (2, .int 45)]) (st2 := [.int 45, .ref 13]) (h2 := h) (dc2 := dc) (ds2 := ds) 1 rfl ?_
        refine wq_sp1 rfl rfl ?_
        show wq 161 103 [(3, .int 1), (0, .ref 162), (1, .int 8), (2, .int 45)] [.int 115] h dc ds _
        refine wq_gos (f := 1) (pc2 := 97) (ls2 := [(2, .int 46), (3, .int 1), (0, .ref 162), (1, .int 8)]) (st2 := []) (h2 := h) (dc2 := dc) (ds2 := ds) 4 rfl ?_
        refine wq_sp1 rfl rfl ?_
        refine wq_gos (f := 1) (pc2 := 100) (ls2 := [(2, .int 46), (3, .int 1), (0, .ref 162), (1, .int 8)]) (st2 := [.int 46, .ref 13]) (h2 := h) (dc2 := dc) (ds2 := ds) 1 rfl ?_
        refine wq_sp1 rfl rfl ?_
        show wq 161 103 [(2, .int 46), (3, .int 1), (0, .ref 162), (1, .int 8)] [.int 112] h dc ds _
        refine wq_gos (f := 1) (pc2 := 97) (ls2 := [(2, .int 47), (3, .int 1), (0, .ref 162), (1, .int 8)]) (st2 := []) (h2 := h) (dc2 := dc) (ds2 := ds) 4 rfl ?_
        refine wq_sp1 rfl rfl ?_
        refine wq_gos (f := 1) (pc2 := 100) (ls2 := [(2, .int 47), (3, .int 1), (0, .ref 162), (1, .int 8)]) (st2 := [.int 47, .ref 13]) (h2 := h) (dc2 := dc) (ds2 := ds) 1 rfl ?_
        refine wq_sp1 rfl rfl ?_
        show wq 161 103 [(2, .int 47), (3, .int 1), (0, .ref 162), (1, .int 8)] [.int 111] h dc ds _
        refine wq_gos (f := 1) (pc2 := 97) (ls2 := [(2, .int 48), (3, .int 1), (0, .ref 162), (1, .int 8)]) (st2 := []) (h2 := h) (dc2 := dc) (ds2 := ds) 4 rfl ?_
        refine wq_sp1 rfl rfl ?_
        refine wq_gos (f := 1) (pc2 := 100) (ls2 := [(2, .int 48), (3, .int 1), (0, .ref 162), (1, .int 8)]) (st2 := [.int 48, .ref 13]) (h2 := h) (dc2 := dc) (ds2 := ds) 1 rfl ?_
        refine wq_sp1 rfl rfl ?_
        show wq 161 103 [(2, .int 48), (3, .int 1), (0, .ref 162), (1, .int 8)] [.int 116] h dc ds _
        refine wq_gos (f := 1) (pc2 := 97) (ls2 := [(2, .int 49), (3, .int 1), (0, .ref 162), (1, .int 8)]) (st2 := []) (h2 := h) (dc2 := dc) (ds2 := ds) 4 rfl ?_
        refine wq_sp1 rfl rfl ?_
        refine wq_gos (f := 1) (pc2 := 100) (ls2 := [(2, .int 49), (3, .int 1), (0, .ref 162), (1, .int 8)]) (st2 := [.int 49, .ref 13]) (h2 := h) (dc2 := dc) (ds2 := ds) 1 rfl ?_
        refine wq_sp1 rfl rfl ?_
        show wq 161 103 [(2, .int 49), (3, .int 1), (0, .ref 162), (1, .int 8)] [.int 32] h dc ds _
        refine wq_gos (f := 1) (pc2 := 4) (ls2 := [(1, .int 9), (2, .int 50), (3, .int 1), (0, .ref 162)]) (st2 := []) (h2 := h) (dc2 := dc) (ds2 := ds) 5 rfl ?_
        refine wq_ls [(0, .ref 162), (1, .int 9), (2, .int 50)] (show ([0, 1, 2] : List Nat).Nodup by decide) ⟨rfl, rfl, rfl, trivial⟩ ?_
        exact kN (by unfold mWs8; rw [if_neg (Int.not_le.mpr b3x), if_neg (fun q => q b5x), if_pos b9x])
      · refine wq_gos (f := 1) (pc2 := 42) (ls2 := [(3, .int 1), (0, .ref 162), (1, .int 8), (2, .int 45)]) (st2 := [.ref 162]) (h2 := h) (dc2 := dc) (ds2 := ds) 1 rfl ?_
        refine wq_getf rfl hM rfl rfl ?_
        refine wq_gos (f := 1) (pc2 := 46) (ls2 := [(3, .int 1), (0, .ref 162), (1, .int 8), (2, .int 45)]) (st2 := [.ref 162, .ref 164]) (h2 := h) (dc2 := dc) (ds2 := ds) 1 rfl ?_
        refine wq_getf rfl hM rfl rfl ?_
        refine wq_gos (f := 1) (pc2 := 51) (ls2 := [(3, .int 1), (0, .ref 162), (1, .int 8), (2, .int 45)]) (st2 := [.int ((nI pl) + (1 : Int32)), .ref 164]) (h2 := h) (dc2 := dc) (ds2 := ds) 2 rfl ?_
        refine wq_vi (show (nI pl) + (1 : Int32) = nI (pl + 1) from nI_add pl 1) ?_
        refine wq_ialdn rfl hT (by first | omega | exact zin_t (by omega) (by omega)) (by decide) rfl ?_
        refine wq_sp1 rfl rfl ?_
        refine wq_gos (f := 1) (pc2 := 57) (ls2 := [(3, .int 1), (0, .ref 162), (1, .int 8), (2, .int 45)]) (st2 := [.int 46, .ref 13, .int (tb.getD (pl + 1) 0)]) (h2 := h) (dc2 := dc) (ds2 := ds) 3 rfl ?_
        refine wq_sp1 rfl rfl ?_
        show wq 161 60 [(3, .int 1), (0, .ref 162), (1, .int 8), (2, .int 45)] [.int 112, .int (tb.getD (pl + 1) 0)] h dc ds _
        have q10x : (112 : Int32).toInt = 112 := rfl
        refine wq_ne2 rfl rfl (fun b11x => ?_) (fun b11x => ?_)
        · have q12x : (tb.getD (pl + 1) 0).toInt ≠ 112 := fun q => b11x (Int32.toInt_inj.mp q)
          refine wq_sp1 rfl rfl ?_
          refine wq_gos (f := 1) (pc2 := 74) (ls2 := [(3, .int 1), (0, .ref 162), (1, .int 8), (2, .int 45)]) (st2 := [.int 46, .ref 13]) (h2 := h) (dc2 := dc) (ds2 := ds) 3 rfl ?_
          refine wq_sp1 rfl rfl ?_
          show wq 161 77 [(3, .int 1), (0, .ref 162), (1, .int 8), (2, .int 45)] [.int 112] h dc ds _
          refine wq_gos (f := 1) (pc2 := 97) (ls2 := [(3, .int 1), (0, .ref 162), (1, .int 8), (2, .int 45)]) (st2 := []) (h2 := h) (dc2 := dc) (ds2 := ds) 2 rfl ?_
          refine wq_sp1 rfl rfl ?_
          refine wq_gos (f := 1) (pc2 := 100) (ls2 := [(3, .int 1), (0, .ref 162), (1, .int 8), (2, .int 45)]) (st2 := [.int 45, .ref 13]) (h2 := h) (dc2 := dc) (ds2 := ds) 1 rfl ?_
          refine wq_sp1 rfl rfl ?_
          show wq 161 103 [(3, .int 1), (0, .ref 162), (1, .int 8), (2, .int 45)] [.int 115] h dc ds _
          refine wq_gos (f := 1) (pc2 := 97) (ls2 := [(2, .int 46), (3, .int 1), (0, .ref 162), (1, .int 8)]) (st2 := []) (h2 := h) (dc2 := dc) (ds2 := ds) 4 rfl ?_
          refine wq_sp1 rfl rfl ?_
          refine wq_gos (f := 1) (pc2 := 100) (ls2 := [(2, .int 46), (3, .int 1), (0, .ref 162), (1, .int 8)]) (st2 := [.int 46, .ref 13]) (h2 := h) (dc2 := dc) (ds2 := ds) 1 rfl ?_
          refine wq_sp1 rfl rfl ?_
          show wq 161 103 [(2, .int 46), (3, .int 1), (0, .ref 162), (1, .int 8)] [.int 112] h dc ds _
          refine wq_gos (f := 1) (pc2 := 97) (ls2 := [(2, .int 47), (3, .int 1), (0, .ref 162), (1, .int 8)]) (st2 := []) (h2 := h) (dc2 := dc) (ds2 := ds) 4 rfl ?_
          refine wq_sp1 rfl rfl ?_
          refine wq_gos (f := 1) (pc2 := 100) (ls2 := [(2, .int 47), (3, .int 1), (0, .ref 162), (1, .int 8)]) (st2 := [.int 47, .ref 13]) (h2 := h) (dc2 := dc) (ds2 := ds) 1 rfl ?_
          refine wq_sp1 rfl rfl ?_
          show wq 161 103 [(2, .int 47), (3, .int 1), (0, .ref 162), (1, .int 8)] [.int 111] h dc ds _
          refine wq_gos (f := 1) (pc2 := 97) (ls2 := [(2, .int 48), (3, .int 1), (0, .ref 162), (1, .int 8)]) (st2 := []) (h2 := h) (dc2 := dc) (ds2 := ds) 4 rfl ?_
          refine wq_sp1 rfl rfl ?_
          refine wq_gos (f := 1) (pc2 := 100) (ls2 := [(2, .int 48), (3, .int 1), (0, .ref 162), (1, .int 8)]) (st2 := [.int 48, .ref 13]) (h2 := h) (dc2 := dc) (ds2 := ds) 1 rfl ?_
          refine wq_sp1 rfl rfl ?_
          show wq 161 103 [(2, .int 48), (3, .int 1), (0, .ref 162), (1, .int 8)] [.int 116] h dc ds _
          refine wq_gos (f := 1) (pc2 := 97) (ls2 := [(2, .int 49), (3, .int 1), (0, .ref 162), (1, .int 8)]) (st2 := []) (h2 := h) (dc2 := dc) (ds2 := ds) 4 rfl ?_
          refine wq_sp1 rfl rfl ?_
          refine wq_gos (f := 1) (pc2 := 100) (ls2 := [(2, .int 49), (3, .int 1), (0, .ref 162), (1, .int 8)]) (st2 := [.int 49, .ref 13]) (h2 := h) (dc2 := dc) (ds2 := ds) 1 rfl ?_
          refine wq_sp1 rfl rfl ?_
          show wq 161 103 [(2, .int 49), (3, .int 1), (0, .ref 162), (1, .int 8)] [.int 32] h dc ds _
          refine wq_gos (f := 1) (pc2 := 4) (ls2 := [(1, .int 9), (2, .int 50), (3, .int 1), (0, .ref 162)]) (st2 := []) (h2 := h) (dc2 := dc) (ds2 := ds) 5 rfl ?_
          refine wq_ls [(0, .ref 162), (1, .int 9), (2, .int 50)] (show ([0, 1, 2] : List Nat).Nodup by decide) ⟨rfl, rfl, rfl, trivial⟩ ?_
          exact kN (by unfold mWs8; rw [if_neg (Int.not_le.mpr b3x), if_neg (fun q => q b5x), if_neg (Int.not_le.mpr b9x), if_pos b11x])
        · have q13x : (tb.getD (pl + 1) 0).toInt = 112 := congrArg Int32.toInt b11x
          refine wq_gos (f := 1) (pc2 := 15) (ls2 := [(3, .int 2), (0, .ref 162), (1, .int 8), (2, .int 45)]) (st2 := []) (h2 := h) (dc2 := dc) (ds2 := ds) 2 rfl ?_
          refine wq_sp1 rfl rfl ?_
          refine wq_gos (f := 1) (pc2 := 20) (ls2 := [(3, .int 2), (0, .ref 162), (1, .int 8), (2, .int 45)]) (st2 := [.int 47, .ref 13]) (h2 := h) (dc2 := dc) (ds2 := ds) 3 rfl ?_
          refine wq_sp1 rfl rfl ?_
          show wq 161 23 [(3, .int 2), (0, .ref 162), (1, .int 8), (2, .int 45)] [.int 111] h dc ds _
          refine wq_gos (f := 1) (pc2 := 29) (ls2 := [(3, .int 2), (0, .ref 162), (1, .int 8), (2, .int 45)]) (st2 := [.ref 162]) (h2 := h) (dc2 := dc) (ds2 := ds) 3 rfl ?_
          refine wq_getf rfl hM rfl rfl ?_
          refine wq_gos (f := 1) (pc2 := 34) (ls2 := [(3, .int 2), (0, .ref 162), (1, .int 8), (2, .int 45)]) (st2 := [.int ((nI pl) + (2 : Int32))]) (h2 := h) (dc2 := dc) (ds2 := ds) 2 rfl ?_
          refine wq_vi (show (nI pl) + (2 : Int32) = nI (pl + 2) from nI_add pl 2) ?_
          refine wq_gos (f := 1) (pc2 := 35) (ls2 := [(3, .int 2), (0, .ref 162), (1, .int 8), (2, .int 45)]) (st2 := [.ref 162, .int (nI (pl + 2))]) (h2 := h) (dc2 := dc) (ds2 := ds) 1 rfl ?_
          refine wq_getf rfl hM rfl rfl ?_
          try have q14x := nI_toInt (n := (pl + 2)) (by omega)
          refine wq_ge2 rfl rfl (fun b15x => ?_) (fun b15x => ?_)
          · refine wq_sp1 rfl rfl ?_
            refine wq_gos (f := 1) (pc2 := 74) (ls2 := [(3, .int 2), (0, .ref 162), (1, .int 8), (2, .int 45)]) (st2 := [.int 47, .ref 13]) (h2 := h) (dc2 := dc) (ds2 := ds) 3 rfl ?_
            refine wq_sp1 rfl rfl ?_
            show wq 161 77 [(3, .int 2), (0, .ref 162), (1, .int 8), (2, .int 45)] [.int 111] h dc ds _
            refine wq_gos (f := 1) (pc2 := 97) (ls2 := [(3, .int 2), (0, .ref 162), (1, .int 8), (2, .int 45)]) (st2 := []) (h2 := h) (dc2 := dc) (ds2 := ds) 2 rfl ?_
            refine wq_sp1 rfl rfl ?_
            refine wq_gos (f := 1) (pc2 := 100) (ls2 := [(3, .int 2), (0, .ref 162), (1, .int 8), (2, .int 45)]) (st2 := [.int 45, .ref 13]) (h2 := h) (dc2 := dc) (ds2 := ds) 1 rfl ?_
            refine wq_sp1 rfl rfl ?_
            show wq 161 103 [(3, .int 2), (0, .ref 162), (1, .int 8), (2, .int 45)] [.int 115] h dc ds _
            refine wq_gos (f := 1) (pc2 := 97) (ls2 := [(2, .int 46), (3, .int 2), (0, .ref 162), (1, .int 8)]) (st2 := []) (h2 := h) (dc2 := dc) (ds2 := ds) 4 rfl ?_
            refine wq_sp1 rfl rfl ?_
            refine wq_gos (f := 1) (pc2 := 100) (ls2 := [(2, .int 46), (3, .int 2), (0, .ref 162), (1, .int 8)]) (st2 := [.int 46, .ref 13]) (h2 := h) (dc2 := dc) (ds2 := ds) 1 rfl ?_
            refine wq_sp1 rfl rfl ?_
            show wq 161 103 [(2, .int 46), (3, .int 2), (0, .ref 162), (1, .int 8)] [.int 112] h dc ds _
            refine wq_gos (f := 1) (pc2 := 97) (ls2 := [(2, .int 47), (3, .int 2), (0, .ref 162), (1, .int 8)]) (st2 := []) (h2 := h) (dc2 := dc) (ds2 := ds) 4 rfl ?_
            refine wq_sp1 rfl rfl ?_
            refine wq_gos (f := 1) (pc2 := 100) (ls2 := [(2, .int 47), (3, .int 2), (0, .ref 162), (1, .int 8)]) (st2 := [.int 47, .ref 13]) (h2 := h) (dc2 := dc) (ds2 := ds) 1 rfl ?_
            refine wq_sp1 rfl rfl ?_
            show wq 161 103 [(2, .int 47), (3, .int 2), (0, .ref 162), (1, .int 8)] [.int 111] h dc ds _
            refine wq_gos (f := 1) (pc2 := 97) (ls2 := [(2, .int 48), (3, .int 2), (0, .ref 162), (1, .int 8)]) (st2 := []) (h2 := h) (dc2 := dc) (ds2 := ds) 4 rfl ?_
            refine wq_sp1 rfl rfl ?_
            refine wq_gos (f := 1) (pc2 := 100) (ls2 := [(2, .int 48), (3, .int 2), (0, .ref 162), (1, .int 8)]) (st2 := [.int 48, .ref 13]) (h2 := h) (dc2 := dc) (ds2 := ds) 1 rfl ?_
            refine wq_sp1 rfl rfl ?_
            show wq 161 103 [(2, .int 48), (3, .int 2), (0, .ref 162), (1, .int 8)] [.int 116] h dc ds _
            refine wq_gos (f := 1) (pc2 := 97) (ls2 := [(2, .int 49), (3, .int 2), (0, .ref 162), (1, .int 8)]) (st2 := []) (h2 := h) (dc2 := dc) (ds2 := ds) 4 rfl ?_
            refine wq_sp1 rfl rfl ?_
            refine wq_gos (f := 1) (pc2 := 100) (ls2 := [(2, .int 49), (3, .int 2), (0, .ref 162), (1, .int 8)]) (st2 := [.int 49, .ref 13]) (h2 := h) (dc2 := dc) (ds2 := ds) 1 rfl ?_
            refine wq_sp1 rfl rfl ?_
            show wq 161 103 [(2, .int 49), (3, .int 2), (0, .ref 162), (1, .int 8)] [.int 32] h dc ds _
            refine wq_gos (f := 1) (pc2 := 4) (ls2 := [(1, .int 9), (2, .int 50), (3, .int 2), (0, .ref 162)]) (st2 := []) (h2 := h) (dc2 := dc) (ds2 := ds) 5 rfl ?_
            refine wq_ls [(0, .ref 162), (1, .int 9), (2, .int 50)] (show ([0, 1, 2] : List Nat).Nodup by decide) ⟨rfl, rfl, rfl, trivial⟩ ?_
            exact kN (by unfold mWs8; rw [if_neg (Int.not_le.mpr b3x), if_neg (fun q => q b5x), if_neg (Int.not_le.mpr b9x), if_neg (fun q => q b11x), if_pos b15x])
          · refine wq_gos (f := 1) (pc2 := 42) (ls2 := [(3, .int 2), (0, .ref 162), (1, .int 8), (2, .int 45)]) (st2 := [.ref 162]) (h2 := h) (dc2 := dc) (ds2 := ds) 1 rfl ?_
            refine wq_getf rfl hM rfl rfl ?_
            refine wq_gos (f := 1) (pc2 := 46) (ls2 := [(3, .int 2), (0, .ref 162), (1, .int 8), (2, .int 45)]) (st2 := [.ref 162, .ref 164]) (h2 := h) (dc2 := dc) (ds2 := ds) 1 rfl ?_
            refine wq_getf rfl hM rfl rfl ?_
            refine wq_gos (f := 1) (pc2 := 51) (ls2 := [(3, .int 2), (0, .ref 162), (1, .int 8), (2, .int 45)]) (st2 := [.int ((nI pl) + (2 : Int32)), .ref 164]) (h2 := h) (dc2 := dc) (ds2 := ds) 2 rfl ?_
            refine wq_vi (show (nI pl) + (2 : Int32) = nI (pl + 2) from nI_add pl 2) ?_
            refine wq_ialdn rfl hT (by first | omega | exact zin_t (by omega) (by omega)) (by decide) rfl ?_
            refine wq_sp1 rfl rfl ?_
            refine wq_gos (f := 1) (pc2 := 57) (ls2 := [(3, .int 2), (0, .ref 162), (1, .int 8), (2, .int 45)]) (st2 := [.int 47, .ref 13, .int (tb.getD (pl + 2) 0)]) (h2 := h) (dc2 := dc) (ds2 := ds) 3 rfl ?_
            refine wq_sp1 rfl rfl ?_
            show wq 161 60 [(3, .int 2), (0, .ref 162), (1, .int 8), (2, .int 45)] [.int 111, .int (tb.getD (pl + 2) 0)] h dc ds _
            have q16x : (111 : Int32).toInt = 111 := rfl
            refine wq_ne2 rfl rfl (fun b17x => ?_) (fun b17x => ?_)
            · have q18x : (tb.getD (pl + 2) 0).toInt ≠ 111 := fun q => b17x (Int32.toInt_inj.mp q)
              refine wq_sp1 rfl rfl ?_
              refine wq_gos (f := 1) (pc2 := 74) (ls2 := [(3, .int 2), (0, .ref 162), (1, .int 8), (2, .int 45)]) (st2 := [.int 47, .ref 13]) (h2 := h) (dc2 := dc) (ds2 := ds) 3 rfl ?_
              refine wq_sp1 rfl rfl ?_
              show wq 161 77 [(3, .int 2), (0, .ref 162), (1, .int 8), (2, .int 45)] [.int 111] h dc ds _
              refine wq_gos (f := 1) (pc2 := 97) (ls2 := [(3, .int 2), (0, .ref 162), (1, .int 8), (2, .int 45)]) (st2 := []) (h2 := h) (dc2 := dc) (ds2 := ds) 2 rfl ?_
              refine wq_sp1 rfl rfl ?_
              refine wq_gos (f := 1) (pc2 := 100) (ls2 := [(3, .int 2), (0, .ref 162), (1, .int 8), (2, .int 45)]) (st2 := [.int 45, .ref 13]) (h2 := h) (dc2 := dc) (ds2 := ds) 1 rfl ?_
              refine wq_sp1 rfl rfl ?_
              show wq 161 103 [(3, .int 2), (0, .ref 162), (1, .int 8), (2, .int 45)] [.int 115] h dc ds _
              refine wq_gos (f := 1) (pc2 := 97) (ls2 := [(2, .int 46), (3, .int 2), (0, .ref 162), (1, .int 8)]) (st2 := []) (h2 := h) (dc2 := dc) (ds2 := ds) 4 rfl ?_
              refine wq_sp1 rfl rfl ?_
              refine wq_gos (f := 1) (pc2 := 100) (ls2 := [(2, .int 46), (3, .int 2), (0, .ref 162), (1, .int 8)]) (st2 := [.int 46, .ref 13]) (h2 := h) (dc2 := dc) (ds2 := ds) 1 rfl ?_
              refine wq_sp1 rfl rfl ?_
              show wq 161 103 [(2, .int 46), (3, .int 2), (0, .ref 162), (1, .int 8)] [.int 112] h dc ds _
              refine wq_gos (f := 1) (pc2 := 97) (ls2 := [(2, .int 47), (3, .int 2), (0, .ref 162), (1, .int 8)]) (st2 := []) (h2 := h) (dc2 := dc) (ds2 := ds) 4 rfl ?_
              refine wq_sp1 rfl rfl ?_
              refine wq_gos (f := 1) (pc2 := 100) (ls2 := [(2, .int 47), (3, .int 2), (0, .ref 162), (1, .int 8)]) (st2 := [.int 47, .ref 13]) (h2 := h) (dc2 := dc) (ds2 := ds) 1 rfl ?_
              refine wq_sp1 rfl rfl ?_
              show wq 161 103 [(2, .int 47), (3, .int 2), (0, .ref 162), (1, .int 8)] [.int 111] h dc ds _
              refine wq_gos (f := 1) (pc2 := 97) (ls2 := [(2, .int 48), (3, .int 2), (0, .ref 162), (1, .int 8)]) (st2 := []) (h2 := h) (dc2 := dc) (ds2 := ds) 4 rfl ?_
              refine wq_sp1 rfl rfl ?_
              refine wq_gos (f := 1) (pc2 := 100) (ls2 := [(2, .int 48), (3, .int 2), (0, .ref 162), (1, .int 8)]) (st2 := [.int 48, .ref 13]) (h2 := h) (dc2 := dc) (ds2 := ds) 1 rfl ?_
              refine wq_sp1 rfl rfl ?_
              show wq 161 103 [(2, .int 48), (3, .int 2), (0, .ref 162), (1, .int 8)] [.int 116] h dc ds _
              refine wq_gos (f := 1) (pc2 := 97) (ls2 := [(2, .int 49), (3, .int 2), (0, .ref 162), (1, .int 8)]) (st2 := []) (h2 := h) (dc2 := dc) (ds2 := ds) 4 rfl ?_
              refine wq_sp1 rfl rfl ?_
              refine wq_gos (f := 1) (pc2 := 100) (ls2 := [(2, .int 49), (3, .int 2), (0, .ref 162), (1, .int 8)]) (st2 := [.int 49, .ref 13]) (h2 := h) (dc2 := dc) (ds2 := ds) 1 rfl ?_
              refine wq_sp1 rfl rfl ?_
              show wq 161 103 [(2, .int 49), (3, .int 2), (0, .ref 162), (1, .int 8)] [.int 32] h dc ds _
              refine wq_gos (f := 1) (pc2 := 4) (ls2 := [(1, .int 9), (2, .int 50), (3, .int 2), (0, .ref 162)]) (st2 := []) (h2 := h) (dc2 := dc) (ds2 := ds) 5 rfl ?_
              refine wq_ls [(0, .ref 162), (1, .int 9), (2, .int 50)] (show ([0, 1, 2] : List Nat).Nodup by decide) ⟨rfl, rfl, rfl, trivial⟩ ?_
              exact kN (by unfold mWs8; rw [if_neg (Int.not_le.mpr b3x), if_neg (fun q => q b5x), if_neg (Int.not_le.mpr b9x), if_neg (fun q => q b11x), if_neg (Int.not_le.mpr b15x), if_pos b17x])
            · have q19x : (tb.getD (pl + 2) 0).toInt = 111 := congrArg Int32.toInt b17x
              refine wq_gos (f := 1) (pc2 := 15) (ls2 := [(3, .int 3), (0, .ref 162), (1, .int 8), (2, .int 45)]) (st2 := []) (h2 := h) (dc2 := dc) (ds2 := ds) 2 rfl ?_
              refine wq_sp1 rfl rfl ?_
              refine wq_gos (f := 1) (pc2 := 20) (ls2 := [(3, .int 3), (0, .ref 162), (1, .int 8), (2, .int 45)]) (st2 := [.int 48, .ref 13]) (h2 := h) (dc2 := dc) (ds2 := ds) 3 rfl ?_
              refine wq_sp1 rfl rfl ?_
              show wq 161 23 [(3, .int 3), (0, .ref 162), (1, .int 8), (2, .int 45)] [.int 116] h dc ds _
              refine wq_gos (f := 1) (pc2 := 29) (ls2 := [(3, .int 3), (0, .ref 162), (1, .int 8), (2, .int 45)]) (st2 := [.ref 162]) (h2 := h) (dc2 := dc) (ds2 := ds) 3 rfl ?_
              refine wq_getf rfl hM rfl rfl ?_
              refine wq_gos (f := 1) (pc2 := 34) (ls2 := [(3, .int 3), (0, .ref 162), (1, .int 8), (2, .int 45)]) (st2 := [.int ((nI pl) + (3 : Int32))]) (h2 := h) (dc2 := dc) (ds2 := ds) 2 rfl ?_
              refine wq_vi (show (nI pl) + (3 : Int32) = nI (pl + 3) from nI_add pl 3) ?_
              refine wq_gos (f := 1) (pc2 := 35) (ls2 := [(3, .int 3), (0, .ref 162), (1, .int 8), (2, .int 45)]) (st2 := [.ref 162, .int (nI (pl + 3))]) (h2 := h) (dc2 := dc) (ds2 := ds) 1 rfl ?_
              refine wq_getf rfl hM rfl rfl ?_
              try have q20x := nI_toInt (n := (pl + 3)) (by omega)
              refine wq_ge2 rfl rfl (fun b21x => ?_) (fun b21x => ?_)
              · refine wq_sp1 rfl rfl ?_
                refine wq_gos (f := 1) (pc2 := 74) (ls2 := [(3, .int 3), (0, .ref 162), (1, .int 8), (2, .int 45)]) (st2 := [.int 48, .ref 13]) (h2 := h) (dc2 := dc) (ds2 := ds) 3 rfl ?_
                refine wq_sp1 rfl rfl ?_
                show wq 161 77 [(3, .int 3), (0, .ref 162), (1, .int 8), (2, .int 45)] [.int 116] h dc ds _
                refine wq_gos (f := 1) (pc2 := 97) (ls2 := [(3, .int 3), (0, .ref 162), (1, .int 8), (2, .int 45)]) (st2 := []) (h2 := h) (dc2 := dc) (ds2 := ds) 2 rfl ?_
                refine wq_sp1 rfl rfl ?_
                refine wq_gos (f := 1) (pc2 := 100) (ls2 := [(3, .int 3), (0, .ref 162), (1, .int 8), (2, .int 45)]) (st2 := [.int 45, .ref 13]) (h2 := h) (dc2 := dc) (ds2 := ds) 1 rfl ?_
                refine wq_sp1 rfl rfl ?_
                show wq 161 103 [(3, .int 3), (0, .ref 162), (1, .int 8), (2, .int 45)] [.int 115] h dc ds _
                refine wq_gos (f := 1) (pc2 := 97) (ls2 := [(2, .int 46), (3, .int 3), (0, .ref 162), (1, .int 8)]) (st2 := []) (h2 := h) (dc2 := dc) (ds2 := ds) 4 rfl ?_
                refine wq_sp1 rfl rfl ?_
                refine wq_gos (f := 1) (pc2 := 100) (ls2 := [(2, .int 46), (3, .int 3), (0, .ref 162), (1, .int 8)]) (st2 := [.int 46, .ref 13]) (h2 := h) (dc2 := dc) (ds2 := ds) 1 rfl ?_
                refine wq_sp1 rfl rfl ?_
                show wq 161 103 [(2, .int 46), (3, .int 3), (0, .ref 162), (1, .int 8)] [.int 112] h dc ds _
                refine wq_gos (f := 1) (pc2 := 97) (ls2 := [(2, .int 47), (3, .int 3), (0, .ref 162), (1, .int 8)]) (st2 := []) (h2 := h) (dc2 := dc) (ds2 := ds) 4 rfl ?_
                refine wq_sp1 rfl rfl ?_
                refine wq_gos (f := 1) (pc2 := 100) (ls2 := [(2, .int 47), (3, .int 3), (0, .ref 162), (1, .int 8)]) (st2 := [.int 47, .ref 13]) (h2 := h) (dc2 := dc) (ds2 := ds) 1 rfl ?_
                refine wq_sp1 rfl rfl ?_
                show wq 161 103 [(2, .int 47), (3, .int 3), (0, .ref 162), (1, .int 8)] [.int 111] h dc ds _
                refine wq_gos (f := 1) (pc2 := 97) (ls2 := [(2, .int 48), (3, .int 3), (0, .ref 162), (1, .int 8)]) (st2 := []) (h2 := h) (dc2 := dc) (ds2 := ds) 4 rfl ?_
                refine wq_sp1 rfl rfl ?_
                refine wq_gos (f := 1) (pc2 := 100) (ls2 := [(2, .int 48), (3, .int 3), (0, .ref 162), (1, .int 8)]) (st2 := [.int 48, .ref 13]) (h2 := h) (dc2 := dc) (ds2 := ds) 1 rfl ?_
                refine wq_sp1 rfl rfl ?_
                show wq 161 103 [(2, .int 48), (3, .int 3), (0, .ref 162), (1, .int 8)] [.int 116] h dc ds _
                refine wq_gos (f := 1) (pc2 := 97) (ls2 := [(2, .int 49), (3, .int 3), (0, .ref 162), (1, .int 8)]) (st2 := []) (h2 := h) (dc2 := dc) (ds2 := ds) 4 rfl ?_
                refine wq_sp1 rfl rfl ?_
                refine wq_gos (f := 1) (pc2 := 100) (ls2 := [(2, .int 49), (3, .int 3), (0, .ref 162), (1, .int 8)]) (st2 := [.int 49, .ref 13]) (h2 := h) (dc2 := dc) (ds2 := ds) 1 rfl ?_
                refine wq_sp1 rfl rfl ?_
                show wq 161 103 [(2, .int 49), (3, .int 3), (0, .ref 162), (1, .int 8)] [.int 32] h dc ds _
                refine wq_gos (f := 1) (pc2 := 4) (ls2 := [(1, .int 9), (2, .int 50), (3, .int 3), (0, .ref 162)]) (st2 := []) (h2 := h) (dc2 := dc) (ds2 := ds) 5 rfl ?_
                refine wq_ls [(0, .ref 162), (1, .int 9), (2, .int 50)] (show ([0, 1, 2] : List Nat).Nodup by decide) ⟨rfl, rfl, rfl, trivial⟩ ?_
                exact kN (by unfold mWs8; rw [if_neg (Int.not_le.mpr b3x), if_neg (fun q => q b5x), if_neg (Int.not_le.mpr b9x), if_neg (fun q => q b11x), if_neg (Int.not_le.mpr b15x), if_neg (fun q => q b17x), if_pos b21x])
              · refine wq_gos (f := 1) (pc2 := 42) (ls2 := [(3, .int 3), (0, .ref 162), (1, .int 8), (2, .int 45)]) (st2 := [.ref 162]) (h2 := h) (dc2 := dc) (ds2 := ds) 1 rfl ?_
                refine wq_getf rfl hM rfl rfl ?_
                refine wq_gos (f := 1) (pc2 := 46) (ls2 := [(3, .int 3), (0, .ref 162), (1, .int 8), (2, .int 45)]) (st2 := [.ref 162, .ref 164]) (h2 := h) (dc2 := dc) (ds2 := ds) 1 rfl ?_
                refine wq_getf rfl hM rfl rfl ?_
                refine wq_gos (f := 1) (pc2 := 51) (ls2 := [(3, .int 3), (0, .ref 162), (1, .int 8), (2, .int 45)]) (st2 := [.int ((nI pl) + (3 : Int32)), .ref 164]) (h2 := h) (dc2 := dc) (ds2 := ds) 2 rfl ?_
                refine wq_vi (show (nI pl) + (3 : Int32) = nI (pl + 3) from nI_add pl 3) ?_
                refine wq_ialdn rfl hT (by first | omega | exact zin_t (by omega) (by omega)) (by decide) rfl ?_
                refine wq_sp1 rfl rfl ?_
                refine wq_gos (f := 1) (pc2 := 57) (ls2 := [(3, .int 3), (0, .ref 162), (1, .int 8), (2, .int 45)]) (st2 := [.int 48, .ref 13, .int (tb.getD (pl + 3) 0)]) (h2 := h) (dc2 := dc) (ds2 := ds) 3 rfl ?_
                refine wq_sp1 rfl rfl ?_
                show wq 161 60 [(3, .int 3), (0, .ref 162), (1, .int 8), (2, .int 45)] [.int 116, .int (tb.getD (pl + 3) 0)] h dc ds _
                have q22x : (116 : Int32).toInt = 116 := rfl
                refine wq_ne2 rfl rfl (fun b23x => ?_) (fun b23x => ?_)
                · have q24x : (tb.getD (pl + 3) 0).toInt ≠ 116 := fun q => b23x (Int32.toInt_inj.mp q)
                  refine wq_sp1 rfl rfl ?_
                  refine wq_gos (f := 1) (pc2 := 74) (ls2 := [(3, .int 3), (0, .ref 162), (1, .int 8), (2, .int 45)]) (st2 := [.int 48, .ref 13]) (h2 := h) (dc2 := dc) (ds2 := ds) 3 rfl ?_
                  refine wq_sp1 rfl rfl ?_
                  show wq 161 77 [(3, .int 3), (0, .ref 162), (1, .int 8), (2, .int 45)] [.int 116] h dc ds _
                  refine wq_gos (f := 1) (pc2 := 97) (ls2 := [(3, .int 3), (0, .ref 162), (1, .int 8), (2, .int 45)]) (st2 := []) (h2 := h) (dc2 := dc) (ds2 := ds) 2 rfl ?_
                  refine wq_sp1 rfl rfl ?_
                  refine wq_gos (f := 1) (pc2 := 100) (ls2 := [(3, .int 3), (0, .ref 162), (1, .int 8), (2, .int 45)]) (st2 := [.int 45, .ref 13]) (h2 := h) (dc2 := dc) (ds2 := ds) 1 rfl ?_
                  refine wq_sp1 rfl rfl ?_
                  show wq 161 103 [(3, .int 3), (0, .ref 162), (1, .int 8), (2, .int 45)] [.int 115] h dc ds _
                  refine wq_gos (f := 1) (pc2 := 97) (ls2 := [(2, .int 46), (3, .int 3), (0, .ref 162), (1, .int 8)]) (st2 := []) (h2 := h) (dc2 := dc) (ds2 := ds) 4 rfl ?_
                  refine wq_sp1 rfl rfl ?_
                  refine wq_gos (f := 1) (pc2 := 100) (ls2 := [(2, .int 46), (3, .int 3), (0, .ref 162), (1, .int 8)]) (st2 := [.int 46, .ref 13]) (h2 := h) (dc2 := dc) (ds2 := ds) 1 rfl ?_
                  refine wq_sp1 rfl rfl ?_
                  show wq 161 103 [(2, .int 46), (3, .int 3), (0, .ref 162), (1, .int 8)] [.int 112] h dc ds _
                  refine wq_gos (f := 1) (pc2 := 97) (ls2 := [(2, .int 47), (3, .int 3), (0, .ref 162), (1, .int 8)]) (st2 := []) (h2 := h) (dc2 := dc) (ds2 := ds) 4 rfl ?_
                  refine wq_sp1 rfl rfl ?_
                  refine wq_gos (f := 1) (pc2 := 100) (ls2 := [(2, .int 47), (3, .int 3), (0, .ref 162), (1, .int 8)]) (st2 := [.int 47, .ref 13]) (h2 := h) (dc2 := dc) (ds2 := ds) 1 rfl ?_
                  refine wq_sp1 rfl rfl ?_
                  show wq 161 103 [(2, .int 47), (3, .int 3), (0, .ref 162), (1, .int 8)] [.int 111] h dc ds _
                  refine wq_gos (f := 1) (pc2 := 97) (ls2 := [(2, .int 48), (3, .int 3), (0, .ref 162), (1, .int 8)]) (st2 := []) (h2 := h) (dc2 := dc) (ds2 := ds) 4 rfl ?_
                  refine wq_sp1 rfl rfl ?_
                  refine wq_gos (f := 1) (pc2 := 100) (ls2 := [(2, .int 48), (3, .int 3), (0, .ref 162), (1, .int 8)]) (st2 := [.int 48, .ref 13]) (h2 := h) (dc2 := dc) (ds2 := ds) 1 rfl ?_
                  refine wq_sp1 rfl rfl ?_
                  show wq 161 103 [(2, .int 48), (3, .int 3), (0, .ref 162), (1, .int 8)] [.int 116] h dc ds _
                  refine wq_gos (f := 1) (pc2 := 97) (ls2 := [(2, .int 49), (3, .int 3), (0, .ref 162), (1, .int 8)]) (st2 := []) (h2 := h) (dc2 := dc) (ds2 := ds) 4 rfl ?_
                  refine wq_sp1 rfl rfl ?_
                  refine wq_gos (f := 1) (pc2 := 100) (ls2 := [(2, .int 49), (3, .int 3), (0, .ref 162), (1, .int 8)]) (st2 := [.int 49, .ref 13]) (h2 := h) (dc2 := dc) (ds2 := ds) 1 rfl ?_
                  refine wq_sp1 rfl rfl ?_
                  show wq 161 103 [(2, .int 49), (3, .int 3), (0, .ref 162), (1, .int 8)] [.int 32] h dc ds _
                  refine wq_gos (f := 1) (pc2 := 4) (ls2 := [(1, .int 9), (2, .int 50), (3, .int 3), (0, .ref 162)]) (st2 := []) (h2 := h) (dc2 := dc) (ds2 := ds) 5 rfl ?_
                  refine wq_ls [(0, .ref 162), (1, .int 9), (2, .int 50)] (show ([0, 1, 2] : List Nat).Nodup by decide) ⟨rfl, rfl, rfl, trivial⟩ ?_
                  exact kN (by unfold mWs8; rw [if_neg (Int.not_le.mpr b3x), if_neg (fun q => q b5x), if_neg (Int.not_le.mpr b9x), if_neg (fun q => q b11x), if_neg (Int.not_le.mpr b15x), if_neg (fun q => q b17x), if_neg (Int.not_le.mpr b21x), if_pos b23x])
                · have q25x : (tb.getD (pl + 3) 0).toInt = 116 := congrArg Int32.toInt b23x
                  refine wq_gos (f := 1) (pc2 := 15) (ls2 := [(3, .int 4), (0, .ref 162), (1, .int 8), (2, .int 45)]) (st2 := []) (h2 := h) (dc2 := dc) (ds2 := ds) 2 rfl ?_
                  refine wq_sp1 rfl rfl ?_
                  refine wq_gos (f := 1) (pc2 := 20) (ls2 := [(3, .int 4), (0, .ref 162), (1, .int 8), (2, .int 45)]) (st2 := [.int 49, .ref 13]) (h2 := h) (dc2 := dc) (ds2 := ds) 3 rfl ?_
                  refine wq_sp1 rfl rfl ?_
                  show wq 161 23 [(3, .int 4), (0, .ref 162), (1, .int 8), (2, .int 45)] [.int 32] h dc ds _
                  refine wq_gos (f := 1) (pc2 := 69) (ls2 := [(3, .int 4), (0, .ref 162), (1, .int 8), (2, .int 45)]) (st2 := []) (h2 := h) (dc2 := dc) (ds2 := ds) 2 rfl ?_
                  refine wq_sp1 rfl rfl ?_
                  refine wq_gos (f := 1) (pc2 := 74) (ls2 := [(3, .int 4), (0, .ref 162), (1, .int 8), (2, .int 45)]) (st2 := [.int 49, .ref 13]) (h2 := h) (dc2 := dc) (ds2 := ds) 3 rfl ?_
                  refine wq_sp1 rfl rfl ?_
                  show wq 161 77 [(3, .int 4), (0, .ref 162), (1, .int 8), (2, .int 45)] [.int 32] h dc ds _
                  refine wq_gos (f := 1) (pc2 := 83) (ls2 := [(3, .int 4), (0, .ref 162), (1, .int 8), (2, .int 45)]) (st2 := [.ref 162]) (h2 := h) (dc2 := dc) (ds2 := ds) 3 rfl ?_
                  refine wq_getf rfl hM rfl rfl ?_
                  refine wq_gos (f := 1) (pc2 := 88) (ls2 := [(3, .int 4), (0, .ref 162), (1, .int 8), (2, .int 45)]) (st2 := [.int ((nI pl) + (4 : Int32))]) (h2 := h) (dc2 := dc) (ds2 := ds) 2 rfl ?_
                  refine wq_vi (show (nI pl) + (4 : Int32) = nI (pl + 4) from nI_add pl 4) ?_
                  refine wq_gos (f := 1) (pc2 := 89) (ls2 := [(3, .int 4), (0, .ref 162), (1, .int 8), (2, .int 45)]) (st2 := [.ref 162, .int (nI (pl + 4))]) (h2 := h) (dc2 := dc) (ds2 := ds) 1 rfl ?_
                  refine wq_getf rfl hM rfl rfl ?_
                  try have q26x := nI_toInt (n := (pl + 4)) (by omega)
                  refine wq_ne2 rfl rfl (fun b27x => ?_) (fun b27x => ?_)
                  · have q28x : (nI (pl + 4)).toInt ≠ (nI at9).toInt := fun q => b27x (Int32.toInt_inj.mp q)
                    refine wq_sp1 rfl rfl ?_
                    refine wq_gos (f := 1) (pc2 := 100) (ls2 := [(3, .int 4), (0, .ref 162), (1, .int 8), (2, .int 45)]) (st2 := [.int 45, .ref 13]) (h2 := h) (dc2 := dc) (ds2 := ds) 1 rfl ?_
                    refine wq_sp1 rfl rfl ?_
                    show wq 161 103 [(3, .int 4), (0, .ref 162), (1, .int 8), (2, .int 45)] [.int 115] h dc ds _
                    refine wq_gos (f := 1) (pc2 := 97) (ls2 := [(2, .int 46), (3, .int 4), (0, .ref 162), (1, .int 8)]) (st2 := []) (h2 := h) (dc2 := dc) (ds2 := ds) 4 rfl ?_
                    refine wq_sp1 rfl rfl ?_
                    refine wq_gos (f := 1) (pc2 := 100) (ls2 := [(2, .int 46), (3, .int 4), (0, .ref 162), (1, .int 8)]) (st2 := [.int 46, .ref 13]) (h2 := h) (dc2 := dc) (ds2 := ds) 1 rfl ?_
                    refine wq_sp1 rfl rfl ?_
                    show wq 161 103 [(2, .int 46), (3, .int 4), (0, .ref 162), (1, .int 8)] [.int 112] h dc ds _
                    refine wq_gos (f := 1) (pc2 := 97) (ls2 := [(2, .int 47), (3, .int 4), (0, .ref 162), (1, .int 8)]) (st2 := []) (h2 := h) (dc2 := dc) (ds2 := ds) 4 rfl ?_
                    refine wq_sp1 rfl rfl ?_
                    refine wq_gos (f := 1) (pc2 := 100) (ls2 := [(2, .int 47), (3, .int 4), (0, .ref 162), (1, .int 8)]) (st2 := [.int 47, .ref 13]) (h2 := h) (dc2 := dc) (ds2 := ds) 1 rfl ?_
                    refine wq_sp1 rfl rfl ?_
                    show wq 161 103 [(2, .int 47), (3, .int 4), (0, .ref 162), (1, .int 8)] [.int 111] h dc ds _
                    refine wq_gos (f := 1) (pc2 := 97) (ls2 := [(2, .int 48), (3, .int 4), (0, .ref 162), (1, .int 8)]) (st2 := []) (h2 := h) (dc2 := dc) (ds2 := ds) 4 rfl ?_
                    refine wq_sp1 rfl rfl ?_
                    refine wq_gos (f := 1) (pc2 := 100) (ls2 := [(2, .int 48), (3, .int 4), (0, .ref 162), (1, .int 8)]) (st2 := [.int 48, .ref 13]) (h2 := h) (dc2 := dc) (ds2 := ds) 1 rfl ?_
                    refine wq_sp1 rfl rfl ?_
                    show wq 161 103 [(2, .int 48), (3, .int 4), (0, .ref 162), (1, .int 8)] [.int 116] h dc ds _
                    refine wq_gos (f := 1) (pc2 := 97) (ls2 := [(2, .int 49), (3, .int 4), (0, .ref 162), (1, .int 8)]) (st2 := []) (h2 := h) (dc2 := dc) (ds2 := ds) 4 rfl ?_
                    refine wq_sp1 rfl rfl ?_
                    refine wq_gos (f := 1) (pc2 := 100) (ls2 := [(2, .int 49), (3, .int 4), (0, .ref 162), (1, .int 8)]) (st2 := [.int 49, .ref 13]) (h2 := h) (dc2 := dc) (ds2 := ds) 1 rfl ?_
                    refine wq_sp1 rfl rfl ?_
                    show wq 161 103 [(2, .int 49), (3, .int 4), (0, .ref 162), (1, .int 8)] [.int 32] h dc ds _
                    refine wq_gos (f := 1) (pc2 := 4) (ls2 := [(1, .int 9), (2, .int 50), (3, .int 4), (0, .ref 162)]) (st2 := []) (h2 := h) (dc2 := dc) (ds2 := ds) 5 rfl ?_
                    refine wq_ls [(0, .ref 162), (1, .int 9), (2, .int 50)] (show ([0, 1, 2] : List Nat).Nodup by decide) ⟨rfl, rfl, rfl, trivial⟩ ?_
                    exact kN (by unfold mWs8; rw [if_neg (Int.not_le.mpr b3x), if_neg (fun q => q b5x), if_neg (Int.not_le.mpr b9x), if_neg (fun q => q b11x), if_neg (Int.not_le.mpr b15x), if_neg (fun q => q b17x), if_neg (Int.not_le.mpr b21x), if_neg (fun q => q b23x), if_pos b27x])
                  · have q29x : (nI (pl + 4)).toInt = (nI at9).toInt := congrArg Int32.toInt b27x
                    refine wq_gos (f := 1) (pc2 := 96) (ls2 := [(3, .int 4), (0, .ref 162), (1, .int 8), (2, .int 45)]) (st2 := [.int 8]) (h2 := h) (dc2 := dc) (ds2 := ds) 1 rfl ?_
                    exact wq_ret rfl rfl (kR (by unfold mWs8; rw [if_neg (Int.not_le.mpr b3x), if_neg (fun q => q b5x), if_neg (Int.not_le.mpr b9x), if_neg (fun q => q b11x), if_neg (Int.not_le.mpr b15x), if_neg (fun q => q b17x), if_neg (Int.not_le.mpr b21x), if_neg (fun q => q b23x), if_neg (fun q => q b27x)]))
noncomputable def mWs9 (tb : List Int32) (at9 pl : Nat) : Nat := (if (nI at9).toInt ≤ (nI (pl + 0)).toInt then 0 else (if (tb.getD (pl + 0) 0) ≠ (103 : Int32) then 0 else (if (nI at9).toInt ≤ (nI (pl + 1)).toInt then 0 else (if (tb.getD (pl + 1) 0) ≠ (111 : Int32) then 0 else (if (nI (pl + 2)) ≠ (nI at9) then 0 else 1)))))
set_option maxRecDepth 100000 in
set_option maxHeartbeats 4000000 in
theorem m_w9 {h : zH} {Q : zR → Prop} {dc ds : Nat} {n0 n2 n14 n22 n23 n27 n28 n32 n33 n34 n35 n39 n52 : Int32} {sz at9 pl : Nat} {so va ft fp : Int32} {tb : List Int32} (hM : zat h 162 = some (.inr (.inr (.inr (10, mO n0 n2 n14 (nI sz) (nI at9) (nI pl) so va ft fp n22 n23 n27 n28 n32 n33 n34 n35 n39 n52))))) (hT : zat h 164 = some (.inl (0, 700, tb))) (hsz : sz ≤ 700) (ha : at9 ≤ sz) (hp : pl ≤ at9) (kN : ((mWs9 tb at9 pl) = 0) → wq 161 4 [(0, .ref 162), (1, .int 10), (2, .int 53)] [] h dc ds Q) (kR : ((mWs9 tb at9 pl) = 1) → Q (some (.int 9), h, dc, ds)) : wq 161 4 [(0, .ref 162), (1, .int 9), (2, .int 50)] [] h dc ds Q := by
  have qnat9 := nI_toInt (n := at9) (by omega)
  have qnpl := nI_toInt (n := pl) (by omega)
  have qp0 := nI_toInt (n := pl + 0) (by omega)
  have qp1 := nI_toInt (n := pl + 1) (by omega)
  have qp2 := nI_toInt (n := pl + 2) (by omega)
  have qp3 := nI_toInt (n := pl + 3) (by omega)
  have qp4 := nI_toInt (n := pl + 4) (by omega)
  have qp5 := nI_toInt (n := pl + 5) (by omega)
  have qp6 := nI_toInt (n := pl + 6) (by omega)
  have qp7 := nI_toInt (n := pl + 7) (by omega)
  refine wq_gos (f := 1) (pc2 := 5) (ls2 := [(0, .ref 162), (1, .int 9), (2, .int 50)]) (st2 := [.int 50]) (h2 := h) (dc2 := dc) (ds2 := ds) 1 rfl ?_
  refine wq_sp1 rfl rfl ?_
  refine wq_sp1 rfl rfl ?_
  refine wq_gos (f := 1) (pc2 := 15) (ls2 := [(3, .int 0), (0, .ref 162), (1, .int 9), (2, .int 50)]) (st2 := []) (h2 := h) (dc2 := dc) (ds2 := ds) 3 rfl ?_
  refine wq_sp1 rfl rfl ?_
  refine wq_gos (f := 1) (pc2 := 20) (ls2 := [(3, .int 0), (0, .ref 162), (1, .int 9), (2, .int 50)]) (st2 := [.int 50, .ref 13]) (h2 := h) (dc2 := dc) (ds2 := ds) 3 rfl ?_
  refine wq_sp1 rfl rfl ?_
  show wq 161 23 [(3, .int 0), (0, .ref 162), (1, .int 9), (2, .int 50)] [.int 103] h dc ds _
  refine wq_gos (f := 1) (pc2 := 29) (ls2 := [(3, .int 0), (0, .ref 162), (1, .int 9), (2, .int 50)]) (st2 := [.ref 162]) (h2 := h) (dc2 := dc) (ds2 := ds) 3 rfl ?_
  refine wq_getf rfl hM rfl rfl ?_
  refine wq_gos (f := 1) (pc2 := 34) (ls2 := [(3, .int 0), (0, .ref 162), (1, .int 9), (2, .int 50)]) (st2 := [.int ((nI pl) + (0 : Int32))]) (h2 := h) (dc2 := dc) (ds2 := ds) 2 rfl ?_
  refine wq_vi (show (nI pl) + (0 : Int32) = nI (pl + 0) from nI_add pl 0) ?_
  refine wq_gos (f := 1) (pc2 := 35) (ls2 := [(3, .int 0), (0, .ref 162), (1, .int 9), (2, .int 50)]) (st2 := [.ref 162, .int (nI (pl + 0))]) (h2 := h) (dc2 := dc) (ds2 := ds) 1 rfl ?_
  refine wq_getf rfl hM rfl rfl ?_
  try have q1x := nI_toInt (n := (pl + 0)) (by omega)
  try have q2x := nI_toInt (n := at9) (by omega)
  refine wq_ge2 rfl rfl (fun b3x => ?_) (fun b3x => ?_)
  · refine wq_sp1 rfl rfl ?_
    refine wq_gos (f := 1) (pc2 := 74) (ls2 := [(3, .int 0), (0, .ref 162), (1, .int 9), (2, .int 50)]) (st2 := [.int 50, .ref 13]) (h2 := h) (dc2 := dc) (ds2 := ds) 3 rfl ?_
    refine wq_sp1 rfl rfl ?_
    show wq 161 77 [(3, .int 0), (0, .ref 162), (1, .int 9), (2, .int 50)] [.int 103] h dc ds _
    refine wq_gos (f := 1) (pc2 := 97) (ls2 := [(3, .int 0), (0, .ref 162), (1, .int 9), (2, .int 50)]) (st2 := []) (h2 := h) (dc2 := dc) (ds2 := ds) 2 rfl ?_
    refine wq_sp1 rfl rfl ?_
    refine wq_gos (f := 1) (pc2 := 100) (ls2 := [(3, .int 0), (0, .ref 162), (1, .int 9), (2, .int 50)]) (st2 := [.int 50, .ref 13]) (h2 := h) (dc2 := dc) (ds2 := ds) 1 rfl ?_
    refine wq_sp1 rfl rfl ?_
    show wq 161 103 [(3, .int 0), (0, .ref 162), (1, .int 9), (2, .int 50)] [.int 103] h dc ds _
    refine wq_gos (f := 1) (pc2 := 97) (ls2 := [(2, .int 51), (3, .int 0), (0, .ref 162), (1, .int 9)]) (st2 := []) (h2 := h) (dc2 := dc) (ds2 := ds) 4 rfl ?_
    refine wq_sp1 rfl rfl ?_
    refine wq_gos (f := 1) (pc2 := 100) (ls2 := [(2, .int 51), (3, .int 0), (0, .ref 162), (1, .int 9)]) (st2 := [.int 51, .ref 13]) (h2 := h) (dc2 := dc) (ds2 := ds) 1 rfl ?_
    refine wq_sp1 rfl rfl ?_
    show wq 161 103 [(2, .int 51), (3, .int 0), (0, .ref 162), (1, .int 9)] [.int 111] h dc ds _
    refine wq_gos (f := 1) (pc2 := 97) (ls2 := [(2, .int 52), (3, .int 0), (0, .ref 162), (1, .int 9)]) (st2 := []) (h2 := h) (dc2 := dc) (ds2 := ds) 4 rfl ?_
    refine wq_sp1 rfl rfl ?_
    refine wq_gos (f := 1) (pc2 := 100) (ls2 := [(2, .int 52), (3, .int 0), (0, .ref 162), (1, .int 9)]) (st2 := [.int 52, .ref 13]) (h2 := h) (dc2 := dc) (ds2 := ds) 1 rfl ?_
    refine wq_sp1 rfl rfl ?_
    show wq 161 103 [(2, .int 52), (3, .int 0), (0, .ref 162), (1, .int 9)] [.int 32] h dc ds _
    refine wq_gos (f := 1) (pc2 := 4) (ls2 := [(1, .int 10), (2, .int 53), (3, .int 0), (0, .ref 162)]) (st2 := []) (h2 := h) (dc2 := dc) (ds2 := ds) 5 rfl ?_
    refine wq_ls [(0, .ref 162), (1, .int 10), (2, .int 53)] (show ([0, 1, 2] : List Nat).Nodup by decide) ⟨rfl, rfl, rfl, trivial⟩ ?_
    exact kN (by unfold mWs9; rw [if_pos b3x])
  · refine wq_gos (f := 1) (pc2 := 42) (ls2 := [(3, .int 0), (0, .ref 162), (1, .int 9), (2, .int 50)]) (st2 := [.ref 162]) (h2 := h) (dc2 := dc) (ds2 := ds) 1 rfl ?_
    refine wq_getf rfl hM rfl rfl ?_
    refine wq_gos (f := 1) (pc2 := 46) (ls2 := [(3, .int 0), (0, .ref 162), (1, .int 9), (2, .int 50)]) (st2 := [.ref 162, .ref 164]) (h2 := h) (dc2 := dc) (ds2 := ds) 1 rfl ?_
    refine wq_getf rfl hM rfl rfl ?_
    refine wq_gos (f := 1) (pc2 := 51) (ls2 := [(3, .int 0), (0, .ref 162), (1, .int 9), (2, .int 50)]) (st2 := [.int ((nI pl) + (0 : Int32)), .ref 164]) (h2 := h) (dc2 := dc) (ds2 := ds) 2 rfl ?_
    refine wq_vi (show (nI pl) + (0 : Int32) = nI (pl + 0) from nI_add pl 0) ?_
    refine wq_ialdn rfl hT (by first | omega | exact zin_t (by omega) (by omega)) (by decide) rfl ?_
    refine wq_sp1 rfl rfl ?_
    refine wq_gos (f := 1) (pc2 := 57) (ls2 := [(3, .int 0), (0, .ref 162), (1, .int 9), (2, .int 50)]) (st2 := [.int 50, .ref 13, .int (tb.getD (pl + 0) 0)]) (h2 := h) (dc2 := dc) (ds2 := ds) 3 rfl ?_
    refine wq_sp1 rfl rfl ?_
    show wq 161 60 [(3, .int 0), (0, .ref 162), (1, .int 9), (2, .int 50)] [.int 103, .int (tb.getD (pl + 0) 0)] h dc ds _
    have q4x : (103 : Int32).toInt = 103 := rfl
    refine wq_ne2 rfl rfl (fun b5x => ?_) (fun b5x => ?_)
    · have q6x : (tb.getD (pl + 0) 0).toInt ≠ 103 := fun q => b5x (Int32.toInt_inj.mp q)
      refine wq_sp1 rfl rfl ?_
      refine wq_gos (f := 1) (pc2 := 74) (ls2 := [(3, .int 0), (0, .ref 162), (1, .int 9), (2, .int 50)]) (st2 := [.int 50, .ref 13]) (h2 := h) (dc2 := dc) (ds2 := ds) 3 rfl ?_
      refine wq_sp1 rfl rfl ?_
      show wq 161 77 [(3, .int 0), (0, .ref 162), (1, .int 9), (2, .int 50)] [.int 103] h dc ds _
      refine wq_gos (f := 1) (pc2 := 97) (ls2 := [(3, .int 0), (0, .ref 162), (1, .int 9), (2, .int 50)]) (st2 := []) (h2 := h) (dc2 := dc) (ds2 := ds) 2 rfl ?_
      refine wq_sp1 rfl rfl ?_
      refine wq_gos (f := 1) (pc2 := 100) (ls2 := [(3, .int 0), (0, .ref 162), (1, .int 9), (2, .int 50)]) (st2 := [.int 50, .ref 13]) (h2 := h) (dc2 := dc) (ds2 := ds) 1 rfl ?_
      refine wq_sp1 rfl rfl ?_
      show wq 161 103 [(3, .int 0), (0, .ref 162), (1, .int 9), (2, .int 50)] [.int 103] h dc ds _
      refine wq_gos (f := 1) (pc2 := 97) (ls2 := [(2, .int 51), (3, .int 0), (0, .ref 162), (1, .int 9)]) (st2 := []) (h2 := h) (dc2 := dc) (ds2 := ds) 4 rfl ?_
      refine wq_sp1 rfl rfl ?_
      refine wq_gos (f := 1) (pc2 := 100) (ls2 := [(2, .int 51), (3, .int 0), (0, .ref 162), (1, .int 9)]) (st2 := [.int 51, .ref 13]) (h2 := h) (dc2 := dc) (ds2 := ds) 1 rfl ?_
      refine wq_sp1 rfl rfl ?_
      show wq 161 103 [(2, .int 51), (3, .int 0), (0, .ref 162), (1, .int 9)] [.int 111] h dc ds _
      refine wq_gos (f := 1) (pc2 := 97) (ls2 := [(2, .int 52), (3, .int 0), (0, .ref 162), (1, .int 9)]) (st2 := []) (h2 := h) (dc2 := dc) (ds2 := ds) 4 rfl ?_
      refine wq_sp1 rfl rfl ?_
      refine wq_gos (f := 1) (pc2 := 100) (ls2 := [(2, .int 52), (3, .int 0), (0, .ref 162), (1, .int 9)]) (st2 := [.int 52, .ref 13]) (h2 := h) (dc2 := dc) (ds2 := ds) 1 rfl ?_
      refine wq_sp1 rfl rfl ?_
      show wq 161 103 [(2, .int 52), (3, .int 0), (0, .ref 162), (1, .int 9)] [.int 32] h dc ds _
      refine wq_gos (f := 1) (pc2 := 4) (ls2 := [(1, .int 10), (2, .int 53), (3, .int 0), (0, .ref 162)]) (st2 := []) (h2 := h) (dc2 := dc) (ds2 := ds) 5 rfl ?_
      refine wq_ls [(0, .ref 162), (1, .int 10), (2, .int 53)] (show ([0, 1, 2] : List Nat).Nodup by decide) ⟨rfl, rfl, rfl, trivial⟩ ?_
      exact kN (by unfold mWs9; rw [if_neg (Int.not_le.mpr b3x), if_pos b5x])
    · have q7x : (tb.getD (pl + 0) 0).toInt = 103 := congrArg Int32.toInt b5x
      refine wq_gos (f := 1) (pc2 := 15) (ls2 := [(3, .int 1), (0, .ref 162), (1, .int 9), (2, .int 50)]) (st2 := []) (h2 := h) (dc2 := dc) (ds2 := ds) 2 rfl ?_
      refine wq_sp1 rfl rfl ?_
      refine wq_gos (f := 1) (pc2 := 20) (ls2 := [(3, .int 1), (0, .ref 162), (1, .int 9), (2, .int 50)]) (st2 := [.int 51, .ref 13]) (h2 := h) (dc2 := dc) (ds2 := ds) 3 rfl ?_
      refine wq_sp1 rfl rfl ?_
      show wq 161 23 [(3, .int 1), (0, .ref 162), (1, .int 9), (2, .int 50)] [.int 111] h dc ds _
      refine wq_gos (f := 1) (pc2 := 29) (ls2 := [(3, .int 1), (0, .ref 162), (1, .int 9), (2, .int 50)]) (st2 := [.ref 162]) (h2 := h) (dc2 := dc) (ds2 := ds) 3 rfl ?_
      refine wq_getf rfl hM rfl rfl ?_
      refine wq_gos (f := 1) (pc2 := 34) (ls2 := [(3, .int 1), (0, .ref 162), (1, .int 9), (2, .int 50)]) (st2 := [.int ((nI pl) + (1 : Int32))]) (h2 := h) (dc2 := dc) (ds2 := ds) 2 rfl ?_
      refine wq_vi (show (nI pl) + (1 : Int32) = nI (pl + 1) from nI_add pl 1) ?_
      refine wq_gos (f := 1) (pc2 := 35) (ls2 := [(3, .int 1), (0, .ref 162), (1, .int 9), (2, .int 50)]) (st2 := [.ref 162, .int (nI (pl + 1))]) (h2 := h) (dc2 := dc) (ds2 := ds) 1 rfl ?_
      refine wq_getf rfl hM rfl rfl ?_
      try have q8x := nI_toInt (n := (pl + 1)) (by omega)
      refine wq_ge2 rfl rfl (fun b9x => ?_) (fun b9x => ?_)
      · refine wq_sp1 rfl rfl ?_
        refine wq_gos (f := 1) (pc2 := 74) (ls2 := [(3, .int 1), (0, .ref 162), (1, .int 9), (2, .int 50)]) (st2 := [.int 51, .ref 13]) (h2 := h) (dc2 := dc) (ds2 := ds) 3 rfl ?_
        refine wq_sp1 rfl rfl ?_
        show wq 161 77 [(3, .int 1), (0, .ref 162), (1, .int 9), (2, .int 50)] [.int 111] h dc ds _
        refine wq_gos (f := 1) (pc2 := 97) (ls2 := [(3, .int 1), (0, .ref 162), (1, .int 9), (2, .int 50)]) (st2 := []) (h2 := h) (dc2 := dc) (ds2 := ds) 2 rfl ?_
        refine wq_sp1 rfl rfl ?_
        refine wq_gos (f := 1) (pc2 := 100) (ls2 := [(3, .int 1), (0, .ref 162), (1, .int 9), (2, .int 50)]) (st2 := [.int 50, .ref 13]) (h2 := h) (dc2 := dc) (ds2 := ds) 1 rfl ?_
        refine wq_sp1 rfl rfl ?_
        show wq 161 103 [(3, .int 1), (0, .ref 162), (1, .int 9), (2, .int 50)] [.int 103] h dc ds _
        refine wq_gos (f := 1) (pc2 := 97) (ls2 := [(2, .int 51), (3, .int 1), (0, .ref 162), (1, .int 9)]) (st2 := []) (h2 := h) (dc2 := dc) (ds2 := ds) 4 rfl ?_
        refine wq_sp1 rfl rfl ?_
        refine wq_gos (f := 1) (pc2 := 100) (ls2 := [(2, .int 51), (3, .int 1), (0, .ref 162), (1, .int 9)]) (st2 := [.int 51, .ref 13]) (h2 := h) (dc2 := dc) (ds2 := ds) 1 rfl ?_
        refine wq_sp1 rfl rfl ?_
        show wq 161 103 [(2, .int 51), (3, .int 1), (0, .ref 162), (1, .int 9)] [.int 111] h dc ds _
        refine wq_gos (f := 1) (pc2 := 97) (ls2 := [(2, .int 52), (3, .int 1), (0, .ref 162), (1, .int 9)]) (st2 := []) (h2 := h) (dc2 := dc) (ds2 := ds) 4 rfl ?_
        refine wq_sp1 rfl rfl ?_
        refine wq_gos (f := 1) (pc2 := 100) (ls2 := [(2, .int 52), (3, .int 1), (0, .ref 162), (1, .int 9)]) (st2 := [.int 52, .ref 13]) (h2 := h) (dc2 := dc) (ds2 := ds) 1 rfl ?_
        refine wq_sp1 rfl rfl ?_
        show wq 161 103 [(2, .int 52), (3, .int 1), (0, .ref 162), (1, .int 9)] [.int 32] h dc ds _
        refine wq_gos (f := 1) (pc2 := 4) (ls2 := [(1, .int 10), (2, .int 53), (3, .int 1), (0, .ref 162)]) (st2 := []) (h2 := h) (dc2 := dc) (ds2 := ds) 5 rfl ?_
        refine wq_ls [(0, .ref 162), (1, .int 10), (2, .int 53)] (show ([0, 1, 2] : List Nat).Nodup by decide) ⟨rfl, rfl, rfl, trivial⟩ ?_
        exact kN (by unfold mWs9; rw [if_neg (Int.not_le.mpr b3x), if_neg (fun q => q b5x), if_pos b9x])
      · refine wq_gos (f := 1) (pc2 := 42) (ls2 := [(3, .int 1), (0, .ref 162), (1, .int 9), (2, .int 50)]) (st2 := [.ref 162]) (h2 := h) (dc2 := dc) (ds2 := ds) 1 rfl ?_
        refine wq_getf rfl hM rfl rfl ?_
        refine wq_gos (f := 1) (pc2 := 46) (ls2 := [(3, .int 1), (0, .ref 162), (1, .int 9), (2, .int 50)]) (st2 := [.ref 162, .ref 164]) (h2 := h) (dc2 := dc) (ds2 := ds) 1 rfl ?_
        refine wq_getf rfl hM rfl rfl ?_
        refine wq_gos (f := 1) (pc2 := 51) (ls2 := [(3, .int 1), (0, .ref 162), (1, .int 9), (2, .int 50)]) (st2 := [.int ((nI pl) + (1 : Int32)), .ref 164]) (h2 := h) (dc2 := dc) (ds2 := ds) 2 rfl ?_
        refine wq_vi (show (nI pl) + (1 : Int32) = nI (pl + 1) from nI_add pl 1) ?_
        refine wq_ialdn rfl hT (by first | omega | exact zin_t (by omega) (by omega)) (by decide) rfl ?_
        refine wq_sp1 rfl rfl ?_
        refine wq_gos (f := 1) (pc2 := 57) (ls2 := [(3, .int 1), (0, .ref 162), (1, .int 9), (2, .int 50)]) (st2 := [.int 51, .ref 13, .int (tb.getD (pl + 1) 0)]) (h2 := h) (dc2 := dc) (ds2 := ds) 3 rfl ?_
        refine wq_sp1 rfl rfl ?_
        show wq 161 60 [(3, .int 1), (0, .ref 162), (1, .int 9), (2, .int 50)] [.int 111, .int (tb.getD (pl + 1) 0)] h dc ds _
        have q10x : (111 : Int32).toInt = 111 := rfl
        refine wq_ne2 rfl rfl (fun b11x => ?_) (fun b11x => ?_)
        · have q12x : (tb.getD (pl + 1) 0).toInt ≠ 111 := fun q => b11x (Int32.toInt_inj.mp q)
          refine wq_sp1 rfl rfl ?_
          refine wq_gos (f := 1) (pc2 := 74) (ls2 := [(3, .int 1), (0, .ref 162), (1, .int 9), (2, .int 50)]) (st2 := [.int 51, .ref 13]) (h2 := h) (dc2 := dc) (ds2 := ds) 3 rfl ?_
          refine wq_sp1 rfl rfl ?_
          show wq 161 77 [(3, .int 1), (0, .ref 162), (1, .int 9), (2, .int 50)] [.int 111] h dc ds _
          refine wq_gos (f := 1) (pc2 := 97) (ls2 := [(3, .int 1), (0, .ref 162), (1, .int 9), (2, .int 50)]) (st2 := []) (h2 := h) (dc2 := dc) (ds2 := ds) 2 rfl ?_
          refine wq_sp1 rfl rfl ?_
          refine wq_gos (f := 1) (pc2 := 100) (ls2 := [(3, .int 1), (0, .ref 162), (1, .int 9), (2, .int 50)]) (st2 := [.int 50, .ref 13]) (h2 := h) (dc2 := dc) (ds2 := ds) 1 rfl ?_
          refine wq_sp1 rfl rfl ?_
          show wq 161 103 [(3, .int 1), (0, .ref 162), (1, .int 9), (2, .int 50)] [.int 103] h dc ds _
          refine wq_gos (f := 1) (pc2 := 97) (ls2 := [(2, .int 51), (3, .int 1), (0, .ref 162), (1, .int 9)]) (st2 := []) (h2 := h) (dc2 := dc) (ds2 := ds) 4 rfl ?_
          refine wq_sp1 rfl rfl ?_
          refine wq_gos (f := 1) (pc2 := 100) (ls2 := [(2, .int 51), (3, .int 1), (0, .ref 162), (1, .int 9)]) (st2 := [.int 51, .ref 13]) (h2 := h) (dc2 := dc) (ds2 := ds) 1 rfl ?_
          refine wq_sp1 rfl rfl ?_
          show wq 161 103 [(2, .int 51), (3, .int 1), (0, .ref 162), (1, .int 9)] [.int 111] h dc ds _
          refine wq_gos (f := 1) (pc2 := 97) (ls2 := [(2, .int 52), (3, .int 1), (0, .ref 162), (1, .int 9)]) (st2 := []) (h2 := h) (dc2 := dc) (ds2 := ds) 4 rfl ?_
          refine wq_sp1 rfl rfl ?_
          refine wq_gos (f := 1) (pc2 := 100) (ls2 := [(2, .int 52), (3, .int 1), (0, .ref 162), (1, .int 9)]) (st2 := [.int 52, .ref 13]) (h2 := h) (dc2 := dc) (ds2 := ds) 1 rfl ?_
          refine wq_sp1 rfl rfl ?_
          show wq 161 103 [(2, .int 52), (3, .int 1), (0, .ref 162), (1, .int 9)] [.int 32] h dc ds _
          refine wq_gos (f := 1) (pc2 := 4) (ls2 := [(1, .int 10), (2, .int 53), (3, .int 1), (0, .ref 162)]) (st2 := []) (h2 := h) (dc2 := dc) (ds2 := ds) 5 rfl ?_
          refine wq_ls [(0, .ref 162), (1, .int 10), (2, .int 53)] (show ([0, 1, 2] : List Nat).Nodup by decide) ⟨rfl, rfl, rfl, trivial⟩ ?_
          exact kN (by unfold mWs9; rw [if_neg (Int.not_le.mpr b3x), if_neg (fun q => q b5x), if_neg (Int.not_le.mpr b9x), if_pos b11x])
        · have q13x : (tb.getD (pl + 1) 0).toInt = 111 := congrArg Int32.toInt b11x
          refine wq_gos (f := 1) (pc2 := 15) (ls2 := [(3, .int 2), (0, .ref 162), (1, .int 9), (2, .int 50)]) (st2 := []) (h2 := h) (dc2 := dc) (ds2 := ds) 2 rfl ?_
          refine wq_sp1 rfl rfl ?_
          refine wq_gos (f := 1) (pc2 := 20) (ls2 := [(3, .int 2), (0, .ref 162), (1, .int 9), (2, .int 50)]) (st2 := [.int 52, .ref 13]) (h2 := h) (dc2 := dc) (ds2 := ds) 3 rfl ?_
          refine wq_sp1 rfl rfl ?_
          show wq 161 23 [(3, .int 2), (0, .ref 162), (1, .int 9), (2, .int 50)] [.int 32] h dc ds _
          refine wq_gos (f := 1) (pc2 := 69) (ls2 := [(3, .int 2), (0, .ref 162), (1, .int 9), (2, .int 50)]) (st2 := []) (h2 := h) (dc2 := dc) (ds2 := ds) 2 rfl ?_
          refine wq_sp1 rfl rfl ?_
          refine wq_gos (f := 1) (pc2 := 74) (ls2 := [(3, .int 2), (0, .ref 162), (1, .int 9), (2, .int 50)]) (st2 := [.int 52, .ref 13]) (h2 := h) (dc2 := dc) (ds2 := ds) 3 rfl ?_
          refine wq_sp1 rfl rfl ?_
          show wq 161 77 [(3, .int 2), (0, .ref 162), (1, .int 9), (2, .int 50)] [.int 32] h dc ds _
          refine wq_gos (f := 1) (pc2 := 83) (ls2 := [(3, .int 2), (0, .ref 162), (1, .int 9), (2, .int 50)]) (st2 := [.ref 162]) (h2 := h) (dc2 := dc) (ds2 := ds) 3 rfl ?_
          refine wq_getf rfl hM rfl rfl ?_
          refine wq_gos (f := 1) (pc2 := 88) (ls2 := [(3, .int 2), (0, .ref 162), (1, .int 9), (2, .int 50)]) (st2 := [.int ((nI pl) + (2 : Int32))]) (h2 := h) (dc2 := dc) (ds2 := ds) 2 rfl ?_
          refine wq_vi (show (nI pl) + (2 : Int32) = nI (pl + 2) from nI_add pl 2) ?_
          refine wq_gos (f := 1) (pc2 := 89) (ls2 := [(3, .int 2), (0, .ref 162), (1, .int 9), (2, .int 50)]) (st2 := [.ref 162, .int (nI (pl + 2))]) (h2 := h) (dc2 := dc) (ds2 := ds) 1 rfl ?_
          refine wq_getf rfl hM rfl rfl ?_
          try have q14x := nI_toInt (n := (pl + 2)) (by omega)
          refine wq_ne2 rfl rfl (fun b15x => ?_) (fun b15x => ?_)
          · have q16x : (nI (pl + 2)).toInt ≠ (nI at9).toInt := fun q => b15x (Int32.toInt_inj.mp q)
            refine wq_sp1 rfl rfl ?_
            refine wq_gos (f := 1) (pc2 := 100) (ls2 := [(3, .int 2), (0, .ref 162), (1, .int 9), (2, .int 50)]) (st2 := [.int 50, .ref 13]) (h2 := h) (dc2 := dc) (ds2 := ds) 1 rfl ?_
            refine wq_sp1 rfl rfl ?_
            show wq 161 103 [(3, .int 2), (0, .ref 162), (1, .int 9), (2, .int 50)] [.int 103] h dc ds _
            refine wq_gos (f := 1) (pc2 := 97) (ls2 := [(2, .int 51), (3, .int 2), (0, .ref 162), (1, .int 9)]) (st2 := []) (h2 := h) (dc2 := dc) (ds2 := ds) 4 rfl ?_
            refine wq_sp1 rfl rfl ?_
            refine wq_gos (f := 1) (pc2 := 100) (ls2 := [(2, .int 51), (3, .int 2), (0, .ref 162), (1, .int 9)]) (st2 := [.int 51, .ref 13]) (h2 := h) (dc2 := dc) (ds2 := ds) 1 rfl ?_
            refine wq_sp1 rfl rfl ?_
            show wq 161 103 [(2, .int 51), (3, .int 2), (0, .ref 162), (1, .int 9)] [.int 111] h dc ds _
            refine wq_gos (f := 1) (pc2 := 97) (ls2 := [(2, .int 52), (3, .int 2), (0, .ref 162), (1, .int 9)]) (st2 := []) (h2 := h) (dc2 := dc) (ds2 := ds) 4 rfl ?_
            refine wq_sp1 rfl rfl ?_
            refine wq_gos (f := 1) (pc2 := 100) (ls2 := [(2, .int 52), (3, .int 2), (0, .ref 162), (1, .int 9)]) (st2 := [.int 52, .ref 13]) (h2 := h) (dc2 := dc) (ds2 := ds) 1 rfl ?_
            refine wq_sp1 rfl rfl ?_
            show wq 161 103 [(2, .int 52), (3, .int 2), (0, .ref 162), (1, .int 9)] [.int 32] h dc ds _
            refine wq_gos (f := 1) (pc2 := 4) (ls2 := [(1, .int 10), (2, .int 53), (3, .int 2), (0, .ref 162)]) (st2 := []) (h2 := h) (dc2 := dc) (ds2 := ds) 5 rfl ?_
            refine wq_ls [(0, .ref 162), (1, .int 10), (2, .int 53)] (show ([0, 1, 2] : List Nat).Nodup by decide) ⟨rfl, rfl, rfl, trivial⟩ ?_
            exact kN (by unfold mWs9; rw [if_neg (Int.not_le.mpr b3x), if_neg (fun q => q b5x), if_neg (Int.not_le.mpr b9x), if_neg (fun q => q b11x), if_pos b15x])
          · have q17x : (nI (pl + 2)).toInt = (nI at9).toInt := congrArg Int32.toInt b15x
            refine wq_gos (f := 1) (pc2 := 96) (ls2 := [(3, .int 2), (0, .ref 162), (1, .int 9), (2, .int 50)]) (st2 := [.int 9]) (h2 := h) (dc2 := dc) (ds2 := ds) 1 rfl ?_
            exact wq_ret rfl rfl (kR (by unfold mWs9; rw [if_neg (Int.not_le.mpr b3x), if_neg (fun q => q b5x), if_neg (Int.not_le.mpr b9x), if_neg (fun q => q b11x), if_neg (fun q => q b15x)]))
noncomputable def mWrd (tb : List Int32) (at9 pl : Nat) : Int32 := if mWs0 tb at9 pl = 1 then 0 else if mWs1 tb at9 pl = 1 then 1 else if mWs2 tb at9 pl = 1 then 2 else if mWs3 tb at9 pl = 1 then 3 else if mWs4 tb at9 pl = 1 then 4 else if mWs5 tb at9 pl = 1 then 5 else if mWs6 tb at9 pl = 1 then 6 else if mWs7 tb at9 pl = 1 then 7 else if mWs8 tb at9 pl = 1 then 8 else if mWs9 tb at9 pl = 1 then 9 else -1
set_option maxRecDepth 100000 in
set_option maxHeartbeats 4000000 in
theorem m_wE {h : zH} {Q : zR → Prop} {dc ds : Nat} {n0 n2 n14 n22 n23 n27 n28 n32 n33 n34 n35 n39 n52 : Int32} {sz at9 pl : Nat} {so va ft fp : Int32} {tb : List Int32} (hM : zat h 162 = some (.inr (.inr (.inr (10, mO n0 n2 n14 (nI sz) (nI at9) (nI pl) so va ft fp n22 n23 n27 n28 n32 n33 n34 n35 n39 n52))))) (hT : zat h 164 = some (.inl (0, 700, tb)))  (kR : Q (some (.int (-1)), h, dc, ds)) : wq 161 4 [(0, .ref 162), (1, .int 10), (2, .int 53)] [] h dc ds Q := by
  refine wq_gos (f := 1) (pc2 := 5) (ls2 := [(0, .ref 162), (1, .int 10), (2, .int 53)]) (st2 := [.int 53]) (h2 := h) (dc2 := dc) (ds2 := ds) 1 rfl ?_
  refine wq_sp1 rfl rfl ?_
  refine wq_sp1 rfl rfl ?_
  refine wq_gos (f := 1) (pc2 := 124) (ls2 := [(0, .ref 162), (1, .int 10), (2, .int 53)]) (st2 := [.int (-1)]) (h2 := h) (dc2 := dc) (ds2 := ds) 2 rfl ?_
  exact wq_ret rfl rfl (kR )
theorem m_wrd {h : zH} {n0 n2 n14 n22 n23 n27 n28 n32 n33 n34 n35 n39 n52 : Int32} {sz at9 pl : Nat} {so va ft fp : Int32} {tb : List Int32} (hM : zat h 162 = some (.inr (.inr (.inr (10, mO n0 n2 n14 (nI sz) (nI at9) (nI pl) so va ft fp n22 n23 n27 n28 n32 n33 n34 n35 n39 n52))))) (hT : zat h 164 = some (.inl (0, 700, tb))) (hsz : sz ≤ 700) (ha : at9 ≤ sz) (hp : pl ≤ at9) : wq 161 0 [(0, .ref 162)] [] h 0 0 (fun rr9 => rr9 = (some (.int (mWrd tb at9 pl)), h, 0, 0)) := by
  refine wq_gos (f := 1) (pc2 := 4) (ls2 := [(2, .int 0), (1, .int 0), (0, .ref 162)]) (st2 := []) (h2 := h) (dc2 := 0) (ds2 := 0) 4 rfl ?_
  refine wq_ls [(0, .ref 162), (1, .int 0), (2, .int 0)] (show ([0, 1, 2] : List Nat).Nodup by decide) ⟨rfl, rfl, rfl, trivial⟩ ?_
  refine m_w0 hM hT hsz ha hp (fun h0 => ?_) (fun h0 => by unfold mWrd; rw [if_pos h0])
  have h0 : ¬ mWs0 tb at9 pl = 1 := by rw [h0]; decide
  refine m_w1 hM hT hsz ha hp (fun h1 => ?_) (fun h1 => by unfold mWrd; rw [if_neg h0, if_pos h1])
  have h1 : ¬ mWs1 tb at9 pl = 1 := by rw [h1]; decide
  refine m_w2 hM hT hsz ha hp (fun h2 => ?_) (fun h2 => by unfold mWrd; rw [if_neg h0, if_neg h1, if_pos h2])
  have h2 : ¬ mWs2 tb at9 pl = 1 := by rw [h2]; decide
  refine m_w3 hM hT hsz ha hp (fun h3 => ?_) (fun h3 => by unfold mWrd; rw [if_neg h0, if_neg h1, if_neg h2, if_pos h3])
  have h3 : ¬ mWs3 tb at9 pl = 1 := by rw [h3]; decide
  refine m_w4 hM hT hsz ha hp (fun h4 => ?_) (fun h4 => by unfold mWrd; rw [if_neg h0, if_neg h1, if_neg h2, if_neg h3, if_pos h4])
  have h4 : ¬ mWs4 tb at9 pl = 1 := by rw [h4]; decide
  refine m_w5 hM hT hsz ha hp (fun h5 => ?_) (fun h5 => by unfold mWrd; rw [if_neg h0, if_neg h1, if_neg h2, if_neg h3, if_neg h4, if_pos h5])
  have h5 : ¬ mWs5 tb at9 pl = 1 := by rw [h5]; decide
  refine m_w6 hM hT hsz ha hp (fun h6 => ?_) (fun h6 => by unfold mWrd; rw [if_neg h0, if_neg h1, if_neg h2, if_neg h3, if_neg h4, if_neg h5, if_pos h6])
  have h6 : ¬ mWs6 tb at9 pl = 1 := by rw [h6]; decide
  refine m_w7 hM hT hsz ha hp (fun h7 => ?_) (fun h7 => by unfold mWrd; rw [if_neg h0, if_neg h1, if_neg h2, if_neg h3, if_neg h4, if_neg h5, if_neg h6, if_pos h7])
  have h7 : ¬ mWs7 tb at9 pl = 1 := by rw [h7]; decide
  refine m_w8 hM hT hsz ha hp (fun h8 => ?_) (fun h8 => by unfold mWrd; rw [if_neg h0, if_neg h1, if_neg h2, if_neg h3, if_neg h4, if_neg h5, if_neg h6, if_neg h7, if_pos h8])
  have h8 : ¬ mWs8 tb at9 pl = 1 := by rw [h8]; decide
  refine m_w9 hM hT hsz ha hp (fun h9 => ?_) (fun h9 => by unfold mWrd; rw [if_neg h0, if_neg h1, if_neg h2, if_neg h3, if_neg h4, if_neg h5, if_neg h6, if_neg h7, if_neg h8, if_pos h9])
  have h9 : ¬ mWs9 tb at9 pl = 1 := by rw [h9]; decide
  refine m_wE hM hT ?_
  unfold mWrd
  rw [if_neg h0, if_neg h1, if_neg h2, if_neg h3, if_neg h4, if_neg h5, if_neg h6, if_neg h7, if_neg h8, if_neg h9]
noncomputable def mTok (tb : List Int32) (sz at9 : Nat) (va : Int32) : Nat × Nat × Int32 × Int32 := (zlet (mskF tb sz ((sz - at9) + 1) at9) (fun v2x => (if (mHere tb sz (v2x)) ≠ (-1 : Int32) then (if (mHere tb sz (v2x)).toInt < (97 : Int32).toInt then (if (mHere tb sz (v2x)).toInt < (48 : Int32).toInt then (if (mHere tb sz (v2x)) ≠ (59 : Int32) then (if (mHere tb sz (v2x)) ≠ (45 : Int32) then (((v2x) + 1), (v2x), (6 : Int32), va) else (if (mHere tb sz ((v2x) + 1)).toInt < (48 : Int32).toInt then (((v2x) + 1), (v2x), (6 : Int32), va) else (if (57 : Int32).toInt < (mHere tb sz ((v2x) + 1)).toInt then (((v2x) + 1), (v2x), (6 : Int32), va) else (zlet (mDig tb sz ((v2x) + 1)) (fun v51x => ((v51x.1), (v2x), (3 : Int32), (-(v51x.2)))))))) else (((v2x) + 1), (v2x), (4 : Int32), va)) else (if (57 : Int32).toInt < (mHere tb sz (v2x)).toInt then (if (mHere tb sz (v2x)) ≠ (59 : Int32) then (if (mHere tb sz (v2x)) ≠ (45 : Int32) then (((v2x) + 1), (v2x), (6 : Int32), va) else (if (mHere tb sz ((v2x) + 1)).toInt < (48 : Int32).toInt then (((v2x) + 1), (v2x), (6 : Int32), va) else (if (57 : Int32).toInt < (mHere tb sz ((v2x) + 1)).toInt then (((v2x) + 1), (v2x), (6 : Int32), va) else (zlet (mDig tb sz ((v2x) + 1)) (fun v97x => ((v97x.1), (v2x), (3 : Int32), (-(v97x.2)))))))) else (((v2x) + 1), (v2x), (4 : Int32), va)) else (zlet (mDig tb sz (v2x)) (fun v114x => ((v114x.1), (v2x), (2 : Int32), (v114x.2)))))) else (if (122 : Int32).toInt < (mHere tb sz (v2x)).toInt then (if (mHere tb sz (v2x)).toInt < (48 : Int32).toInt then (if (mHere tb sz (v2x)) ≠ (59 : Int32) then (if (mHere tb sz (v2x)) ≠ (45 : Int32) then (((v2x) + 1), (v2x), (6 : Int32), va) else (if (mHere tb sz ((v2x) + 1)).toInt < (48 : Int32).toInt then (((v2x) + 1), (v2x), (6 : Int32), va) else (if (57 : Int32).toInt < (mHere tb sz ((v2x) + 1)).toInt then (((v2x) + 1), (v2x), (6 : Int32), va) else (zlet (mDig tb sz ((v2x) + 1)) (fun v154x => ((v154x.1), (v2x), (3 : Int32), (-(v154x.2)))))))) else (((v2x) + 1), (v2x), (4 : Int32), va)) else (if (57 : Int32).toInt < (mHere tb sz (v2x)).toInt then (if (mHere tb sz (v2x)) ≠ (59 : Int32) then (if (mHere tb sz (v2x)) ≠ (45 : Int32) then (((v2x) + 1), (v2x), (6 : Int32), va) else (if (mHere tb sz ((v2x) + 1)).toInt < (48 : Int32).toInt then (((v2x) + 1), (v2x), (6 : Int32), va) else (if (57 : Int32).toInt < (mHere tb sz ((v2x) + 1)).toInt then (((v2x) + 1), (v2x), (6 : Int32), va) else (zlet (mDig tb sz ((v2x) + 1)) (fun v200x => ((v200x.1), (v2x), (3 : Int32), (-(v200x.2)))))))) else (((v2x) + 1), (v2x), (4 : Int32), va)) else (zlet (mDig tb sz (v2x)) (fun v217x => ((v217x.1), (v2x), (2 : Int32), (v217x.2)))))) else (zlet (msmF tb sz ((sz - (v2x)) + 1) (v2x)) (fun v220x => (if (mWrd tb (v220x) (v2x)) = (-1 : Int32) then (if ((nI (v220x)) - (nI (v2x))).toInt ≤ (6 : Int32).toInt then (zlet (mNam tb (v220x) (v2x)) (fun v241x => ((v220x), (v2x), (1 : Int32), (v241x)))) else ((v220x), (v2x), (6 : Int32), (mWrd tb (v220x) (v2x)))) else ((v220x), (v2x), (0 : Int32), (mWrd tb (v220x) (v2x)))))))) else ((v2x), (v2x), (5 : Int32), va))))
set_option maxRecDepth 100000 in
set_option maxHeartbeats 4000000 in
theorem m_tok {h : zH} {n0 n2 n14 n22 n23 n27 n28 n32 n33 n34 n35 n39 n52 : Int32} {sz at9 pl : Nat} {so va ft fp : Int32} {tb : List Int32} {a0 : Nat} (hM : zat h 162 = some (.inr (.inr (.inr (10, mO n0 n2 n14 (nI sz) (nI at9) (nI pl) so va ft fp n22 n23 n27 n28 n32 n33 n34 n35 n39 n52))))) (hT : zat h 164 = some (.inl (0, 700, tb))) (hsz : sz ≤ 700) (ha : a0 ≤ at9 ∧ at9 ≤ sz) : wq 159 0 [(0, .ref 162)] [] h 0 0 (fun rr9 => ∃ (h2 : zH), rr9 = (none, h2, 0, 0) ∧ wFr [162] h h2 ∧ h2.length = h.length ∧ zat h2 162 = some (.inr (.inr (.inr (10, mO n0 n2 n14 (nI sz) (nI ((mTok tb sz at9 va).1)) (nI ((mTok tb sz at9 va).2.1)) ((mTok tb sz at9 va).2.2.1) ((mTok tb sz at9 va).2.2.2) ft fp n22 n23 n27 n28 n32 n33 n34 n35 n39 n52)))) ∧ ((a0 ≤ ((mTok tb sz at9 va).1))) ∧ ((((mTok tb sz at9 va).1) ≤ sz)) ∧ (((((mTok tb sz at9 va).2.2.1)).toInt = 4 → a0 < ((mTok tb sz at9 va).1))) ∧ ((((mTok tb sz at9 va).2.1) ≤ ((mTok tb sz at9 va).1)))) := by
  have qnat9 := nI_toInt (n := at9) (by omega)
  have qnsz := nI_toInt (n := sz) (by omega)
  have zm1 : (-1 : Int32).toInt = -1 := rfl
  have z0 : (0 : Int32).toInt = 0 := rfl
  have z1 : (1 : Int32).toInt = 1 := rfl
  have z2 : (2 : Int32).toInt = 2 := rfl
  have z3 : (3 : Int32).toInt = 3 := rfl
  have z5 : (5 : Int32).toInt = 5 := rfl
  have z6 : (6 : Int32).toInt = 6 := rfl
  refine wq_ls [(0, .ref 162)] (show ([0] : List Nat).Nodup by decide) ⟨rfl, trivial⟩ ?_
  refine m_skL (by first | omega | assumption | decide | solve_by_elim) ((sz - at9) + 1) at9 h hM hT ⟨Nat.le_refl _, ha.2⟩ (by omega) ?_
  intro h81x f81x l81x c01x p01x p11x
  obtain ⟨v2x, hv3x⟩ : ∃ x, x = (mskF tb sz ((sz - at9) + 1) at9) := ⟨_, rfl⟩
  try rw [← hv3x] at c01x
  try rw [← hv3x] at p01x
  try rw [← hv3x] at p11x
  try rw [← hv3x]
  show wq 159 31 [(0, .ref 162)] [] h81x 0 0 _
  refine wq_gos (f := 1) (pc2 := 33) (ls2 := [(0, .ref 162)]) (st2 := [.ref 162, .ref 162]) (h2 := h81x) (dc2 := 0) (ds2 := 0) 2 rfl ?_
  refine wq_getf rfl c01x rfl rfl ?_
  refine wq_putf rfl c01x rfl rfl rfl ?_
  intro h4x e5x f6x l7x
  have e5x : zat h4x 162 = some (.inr (.inr (.inr (10, mO n0 n2 n14 (nI sz) (nI (v2x)) (nI (v2x)) so va ft fp n22 n23 n27 n28 n32 n33 n34 n35 n39 n52)))) := e5x
  refine wq_gos (f := 1) (pc2 := 40) (ls2 := [(0, .ref 162)]) (st2 := [.ref 162]) (h2 := h4x) (dc2 := 0) (ds2 := 0) 1 rfl ?_
  have e8x := (f6x.2 _ _ (wnc (by decide) wn0) (f81x.2 _ _ (wnc (by decide) wn0) hT))
  refine wq_inlv (y2 := 156) (as := []) rfl rfl rfl e5x rfl (wq_mono (m_here e5x e8x (by first | omega | assumption | decide | solve_by_elim) (by first | omega | assumption | decide | solve_by_elim)) ?_)
  rintro _ ⟨rfl, p09x⟩
  show wq 159 43 [(0, .ref 162)] [.int (mHere tb sz (v2x))] h4x 0 0 _
  refine wq_gos (f := 1) (pc2 := 46) (ls2 := [(1, .int (mHere tb sz (v2x))), (0, .ref 162)]) (st2 := [.int (-1), .int (mHere tb sz (v2x))]) (h2 := h4x) (dc2 := 0) (ds2 := 0) 3 rfl ?_
  have q10x : (-1 : Int32).toInt = -1 := rfl
  refine wq_ne2 rfl rfl (fun b11x => ?_) (fun b11x => ?_)
  · have q12x : (mHere tb sz (v2x)).toInt ≠ -1 := fun q => b11x (Int32.toInt_inj.mp q)
    refine wq_gos (f := 1) (pc2 := 58) (ls2 := [(1, .int (mHere tb sz (v2x))), (0, .ref 162)]) (st2 := [.int (mHere tb sz (v2x))]) (h2 := h4x) (dc2 := 0) (ds2 := 0) 1 rfl ?_
    refine wq_inl (y2 := 157) (as := [.int (mHere tb sz (v2x))]) rfl rfl rfl ?_
    show wq 157 0 [(0, .int (mHere tb sz (v2x)))] [] h4x 0 0 _
    refine wq_gos (f := 1) (pc2 := 3) (ls2 := [(0, .int (mHere tb sz (v2x)))]) (st2 := [.int 97, .int (mHere tb sz (v2x))]) (h2 := h4x) (dc2 := 0) (ds2 := 0) 2 rfl ?_
    have q13x : (97 : Int32).toInt = 97 := rfl
    refine wq_lt2 rfl rfl (fun b14x => ?_) (fun b14x => ?_)
    · refine wq_gos (f := 1) (pc2 := 17) (ls2 := [(0, .int (mHere tb sz (v2x)))]) (st2 := [.int 0]) (h2 := h4x) (dc2 := 0) (ds2 := 0) 1 rfl ?_
      refine wq_ret rfl rfl ?_
      show wq 159 61 [(1, .int (mHere tb sz (v2x))), (0, .ref 162)] [.int 0] h4x 0 0 _
      refine wq_gos (f := 1) (pc2 := 147) (ls2 := [(1, .int (mHere tb sz (v2x))), (0, .ref 162)]) (st2 := [.int (mHere tb sz (v2x))]) (h2 := h4x) (dc2 := 0) (ds2 := 0) 2 rfl ?_
      refine wq_inl (y2 := 158) (as := [.int (mHere tb sz (v2x))]) rfl rfl rfl ?_
      show wq 158 0 [(0, .int (mHere tb sz (v2x)))] [] h4x 0 0 _
      refine wq_gos (f := 1) (pc2 := 3) (ls2 := [(0, .int (mHere tb sz (v2x)))]) (st2 := [.int 48, .int (mHere tb sz (v2x))]) (h2 := h4x) (dc2 := 0) (ds2 := 0) 2 rfl ?_
      have q15x : (48 : Int32).toInt = 48 := rfl
      refine wq_lt2 rfl rfl (fun b16x => ?_) (fun b16x => ?_)
      · refine wq_gos (f := 1) (pc2 := 17) (ls2 := [(0, .int (mHere tb sz (v2x)))]) (st2 := [.int 0]) (h2 := h4x) (dc2 := 0) (ds2 := 0) 1 rfl ?_
        refine wq_ret rfl rfl ?_
        show wq 159 150 [(1, .int (mHere tb sz (v2x))), (0, .ref 162)] [.int 0] h4x 0 0 _
        refine wq_gos (f := 1) (pc2 := 167) (ls2 := [(1, .int (mHere tb sz (v2x))), (0, .ref 162)]) (st2 := [.ref 162, .ref 162]) (h2 := h4x) (dc2 := 0) (ds2 := 0) 3 rfl ?_
        refine wq_getf rfl e5x rfl rfl ?_
        refine wq_gos (f := 1) (pc2 := 172) (ls2 := [(1, .int (mHere tb sz (v2x))), (0, .ref 162)]) (st2 := [.int ((nI (v2x)) + (1 : Int32)), .ref 162]) (h2 := h4x) (dc2 := 0) (ds2 := 0) 2 rfl ?_
        rw [nI_1]
        refine wq_putf rfl e5x rfl rfl rfl ?_
        intro h17x e18x f19x l20x
        have e18x : zat h17x 162 = some (.inr (.inr (.inr (10, mO n0 n2 n14 (nI sz) (nI ((v2x) + 1)) (nI (v2x)) so va ft fp n22 n23 n27 n28 n32 n33 n34 n35 n39 n52)))) := e18x
        refine wq_gos (f := 1) (pc2 := 179) (ls2 := [(1, .int (mHere tb sz (v2x))), (0, .ref 162)]) (st2 := [.int 59, .int (mHere tb sz (v2x)), .ref 162]) (h2 := h17x) (dc2 := 0) (ds2 := 0) 3 rfl ?_
        have q21x : (59 : Int32).toInt = 59 := rfl
        refine wq_ne2 rfl rfl (fun b22x => ?_) (fun b22x => ?_)
        · have q23x : (mHere tb sz (v2x)).toInt ≠ 59 := fun q => b22x (Int32.toInt_inj.mp q)
          refine wq_gos (f := 1) (pc2 := 189) (ls2 := [(1, .int (mHere tb sz (v2x))), (0, .ref 162)]) (st2 := [.int 45, .int (mHere tb sz (v2x)), .ref 162]) (h2 := h17x) (dc2 := 0) (ds2 := 0) 2 rfl ?_
          have q24x : (45 : Int32).toInt = 45 := rfl
          refine wq_ne2 rfl rfl (fun b25x => ?_) (fun b25x => ?_)
          · have q26x : (mHere tb sz (v2x)).toInt ≠ 45 := fun q => b25x (Int32.toInt_inj.mp q)
            refine wq_gos (f := 1) (pc2 := 208) (ls2 := [(1, .int (mHere tb sz (v2x))), (0, .ref 162)]) (st2 := [.int 6, .ref 162]) (h2 := h17x) (dc2 := 0) (ds2 := 0) 1 rfl ?_
            refine wq_putf rfl e18x rfl rfl rfl ?_
            intro h27x e28x f29x l30x
            have e28x : zat h27x 162 = some (.inr (.inr (.inr (10, mO n0 n2 n14 (nI sz) (nI ((v2x) + 1)) (nI (v2x)) (6 : Int32) va ft fp n22 n23 n27 n28 n32 n33 n34 n35 n39 n52)))) := e28x
            refine wq_gos (f := 1) (pc2 := 212) (ls2 := [(1, .int (mHere tb sz (v2x))), (0, .ref 162)]) (st2 := [.ref 162]) (h2 := h27x) (dc2 := 0) (ds2 := 0) 1 rfl ?_
            refine wq_getf rfl e28x rfl rfl ?_
            refine wq_gos (f := 1) (pc2 := 224) (ls2 := [(1, .int (mHere tb sz (v2x))), (0, .ref 162)]) (st2 := [.ref 162]) (h2 := h27x) (dc2 := 0) (ds2 := 0) 3 rfl ?_
            refine wq_getf rfl e28x rfl rfl ?_
            refine wq_gos (f := 1) (pc2 := 240) (ls2 := [(1, .int (mHere tb sz (v2x))), (0, .ref 162)]) (st2 := []) (h2 := h27x) (dc2 := 0) (ds2 := 0) 2 rfl ?_
            have hx : (mTok tb sz at9 va) = (((v2x) + 1), (v2x), (6 : Int32), va) := by unfold mTok; rw [zlet_eq hv3x, if_pos b11x, if_pos b14x, if_pos b16x, if_pos b22x, if_pos b25x]
            rw [hx]
            exact wq_ret rfl rfl ⟨h27x, rfl, (wFr_tr (wFr_sub f81x (by simp)) (wFr_tr (wFr_sub f6x (by simp)) (wFr_tr (wFr_sub f19x (by simp)) (wFr_sub f29x (by simp))))), by omega, e28x, (by first | ((try dsimp only); omega) | assumption), (by first | ((try dsimp only); omega) | assumption), (by first | ((try dsimp only); omega) | assumption), (by first | ((try dsimp only); omega) | assumption)⟩
          · have q31x : (mHere tb sz (v2x)).toInt = 45 := congrArg Int32.toInt b25x
            refine wq_gos (f := 1) (pc2 := 193) (ls2 := [(1, .int (mHere tb sz (v2x))), (0, .ref 162)]) (st2 := [.ref 162, .ref 162]) (h2 := h17x) (dc2 := 0) (ds2 := 0) 1 rfl ?_
            have e32x := (f19x.2 _ _ (wnc (by decide) wn0) e8x)
            refine wq_inlv (y2 := 156) (as := []) rfl rfl rfl e18x rfl (wq_mono (m_here e18x e32x (by first | omega | assumption | decide | solve_by_elim) (by first | omega | assumption | decide | solve_by_elim)) ?_)
            rintro _ ⟨rfl, p033x⟩
            show wq 159 196 [(1, .int (mHere tb sz (v2x))), (0, .ref 162)] [.int (mHere tb sz ((v2x) + 1)), .ref 162] h17x 0 0 _
            refine wq_inl (y2 := 158) (as := [.int (mHere tb sz ((v2x) + 1))]) rfl rfl rfl ?_
            show wq 158 0 [(0, .int (mHere tb sz ((v2x) + 1)))] [] h17x 0 0 _
            refine wq_gos (f := 1) (pc2 := 3) (ls2 := [(0, .int (mHere tb sz ((v2x) + 1)))]) (st2 := [.int 48, .int (mHere tb sz ((v2x) + 1))]) (h2 := h17x) (dc2 := 0) (ds2 := 0) 2 rfl ?_
            refine wq_lt2 rfl rfl (fun b34x => ?_) (fun b34x => ?_)
            · refine wq_gos (f := 1) (pc2 := 17) (ls2 := [(0, .int (mHere tb sz ((v2x) + 1)))]) (st2 := [.int 0]) (h2 := h17x) (dc2 := 0) (ds2 := 0) 1 rfl ?_
              refine wq_ret rfl rfl ?_
              show wq 159 199 [(1, .int (mHere tb sz (v2x))), (0, .ref 162)] [.int 0, .ref 162] h17x 0 0 _
              refine wq_gos (f := 1) (pc2 := 208) (ls2 := [(1, .int (mHere tb sz (v2x))), (0, .ref 162)]) (st2 := [.int 6, .ref 162]) (h2 := h17x) (dc2 := 0) (ds2 := 0) 2 rfl ?_
              refine wq_putf rfl e18x rfl rfl rfl ?_
              intro h35x e36x f37x l38x
              have e36x : zat h35x 162 = some (.inr (.inr (.inr (10, mO n0 n2 n14 (nI sz) (nI ((v2x) + 1)) (nI (v2x)) (6 : Int32) va ft fp n22 n23 n27 n28 n32 n33 n34 n35 n39 n52)))) := e36x
              refine wq_gos (f := 1) (pc2 := 212) (ls2 := [(1, .int (mHere tb sz (v2x))), (0, .ref 162)]) (st2 := [.ref 162]) (h2 := h35x) (dc2 := 0) (ds2 := 0) 1 rfl ?_
              refine wq_getf rfl e36x rfl rfl ?_
              refine wq_gos (f := 1) (pc2 := 224) (ls2 := [(1, .int (mHere tb sz (v2x))), (0, .ref 162)]) (st2 := [.ref 162]) (h2 := h35x) (dc2 := 0) (ds2 := 0) 3 rfl ?_
              refine wq_getf rfl e36x rfl rfl ?_
              refine wq_gos (f := 1) (pc2 := 240) (ls2 := [(1, .int (mHere tb sz (v2x))), (0, .ref 162)]) (st2 := []) (h2 := h35x) (dc2 := 0) (ds2 := 0) 2 rfl ?_
              have hx : (mTok tb sz at9 va) = (((v2x) + 1), (v2x), (6 : Int32), va) := by unfold mTok; rw [zlet_eq hv3x, if_pos b11x, if_pos b14x, if_pos b16x, if_pos b22x, if_neg (fun q => q b25x), if_pos b34x]
              rw [hx]
              exact wq_ret rfl rfl ⟨h35x, rfl, (wFr_tr (wFr_sub f81x (by simp)) (wFr_tr (wFr_sub f6x (by simp)) (wFr_tr (wFr_sub f19x (by simp)) (wFr_sub f37x (by simp))))), by omega, e36x, (by first | ((try dsimp only); omega) | assumption), (by first | ((try dsimp only); omega) | assumption), (by first | ((try dsimp only); omega) | assumption), (by first | ((try dsimp only); omega) | assumption)⟩
            · refine wq_gos (f := 1) (pc2 := 9) (ls2 := [(0, .int (mHere tb sz ((v2x) + 1)))]) (st2 := [.int 57, .int (mHere tb sz ((v2x) + 1))]) (h2 := h17x) (dc2 := 0) (ds2 := 0) 2 rfl ?_
              have q39x : (57 : Int32).toInt = 57 := rfl
              refine wq_gt2 rfl rfl (fun b40x => ?_) (fun b40x => ?_)
              · refine wq_gos (f := 1) (pc2 := 17) (ls2 := [(0, .int (mHere tb sz ((v2x) + 1)))]) (st2 := [.int 0]) (h2 := h17x) (dc2 := 0) (ds2 := 0) 1 rfl ?_
                refine wq_ret rfl rfl ?_
                show wq 159 199 [(1, .int (mHere tb sz (v2x))), (0, .ref 162)] [.int 0, .ref 162] h17x 0 0 _
                refine wq_gos (f := 1) (pc2 := 208) (ls2 := [(1, .int (mHere tb sz (v2x))), (0, .ref 162)]) (st2 := [.int 6, .ref 162]) (h2 := h17x) (dc2 := 0) (ds2 := 0) 2 rfl ?_
                refine wq_putf rfl e18x rfl rfl rfl ?_
                intro h41x e42x f43x l44x
                have e42x : zat h41x 162 = some (.inr (.inr (.inr (10, mO n0 n2 n14 (nI sz) (nI ((v2x) + 1)) (nI (v2x)) (6 : Int32) va ft fp n22 n23 n27 n28 n32 n33 n34 n35 n39 n52)))) := e42x
                refine wq_gos (f := 1) (pc2 := 212) (ls2 := [(1, .int (mHere tb sz (v2x))), (0, .ref 162)]) (st2 := [.ref 162]) (h2 := h41x) (dc2 := 0) (ds2 := 0) 1 rfl ?_
                refine wq_getf rfl e42x rfl rfl ?_
                refine wq_gos (f := 1) (pc2 := 224) (ls2 := [(1, .int (mHere tb sz (v2x))), (0, .ref 162)]) (st2 := [.ref 162]) (h2 := h41x) (dc2 := 0) (ds2 := 0) 3 rfl ?_
                refine wq_getf rfl e42x rfl rfl ?_
                refine wq_gos (f := 1) (pc2 := 240) (ls2 := [(1, .int (mHere tb sz (v2x))), (0, .ref 162)]) (st2 := []) (h2 := h41x) (dc2 := 0) (ds2 := 0) 2 rfl ?_
                have hx : (mTok tb sz at9 va) = (((v2x) + 1), (v2x), (6 : Int32), va) := by unfold mTok; rw [zlet_eq hv3x, if_pos b11x, if_pos b14x, if_pos b16x, if_pos b22x, if_neg (fun q => q b25x), if_neg (Int.not_lt.mpr b34x), if_pos b40x]
                rw [hx]
                exact wq_ret rfl rfl ⟨h41x, rfl, (wFr_tr (wFr_sub f81x (by simp)) (wFr_tr (wFr_sub f6x (by simp)) (wFr_tr (wFr_sub f19x (by simp)) (wFr_sub f43x (by simp))))), by omega, e42x, (by first | ((try dsimp only); omega) | assumption), (by first | ((try dsimp only); omega) | assumption), (by first | ((try dsimp only); omega) | assumption), (by first | ((try dsimp only); omega) | assumption)⟩
              · refine wq_gos (f := 1) (pc2 := 17) (ls2 := [(0, .int (mHere tb sz ((v2x) + 1)))]) (st2 := [.int 1]) (h2 := h17x) (dc2 := 0) (ds2 := 0) 2 rfl ?_
                refine wq_ret rfl rfl ?_
                show wq 159 199 [(1, .int (mHere tb sz (v2x))), (0, .ref 162)] [.int 1, .ref 162] h17x 0 0 _
                refine wq_gos (f := 1) (pc2 := 208) (ls2 := [(1, .int (mHere tb sz (v2x))), (0, .ref 162)]) (st2 := [.int 3, .ref 162]) (h2 := h17x) (dc2 := 0) (ds2 := 0) 3 rfl ?_
                refine wq_putf rfl e18x rfl rfl rfl ?_
                intro h45x e46x f47x l48x
                have e46x : zat h45x 162 = some (.inr (.inr (.inr (10, mO n0 n2 n14 (nI sz) (nI ((v2x) + 1)) (nI (v2x)) (3 : Int32) va ft fp n22 n23 n27 n28 n32 n33 n34 n35 n39 n52)))) := e46x
                refine wq_gos (f := 1) (pc2 := 212) (ls2 := [(1, .int (mHere tb sz (v2x))), (0, .ref 162)]) (st2 := [.ref 162]) (h2 := h45x) (dc2 := 0) (ds2 := 0) 1 rfl ?_
                refine wq_getf rfl e46x rfl rfl ?_
                refine wq_gos (f := 1) (pc2 := 220) (ls2 := [(1, .int (mHere tb sz (v2x))), (0, .ref 162)]) (st2 := [.ref 162]) (h2 := h45x) (dc2 := 0) (ds2 := 0) 3 rfl ?_
                have e49x := (f47x.2 _ _ (wnc (by decide) wn0) e32x)
                refine wq_inlv (y2 := 160) (as := []) rfl rfl rfl e46x rfl (wq_mono (m_dig e46x e49x (by first | omega | assumption | decide | solve_by_elim) ⟨Nat.le_refl _, by omega⟩) ?_)
                rintro _ ⟨h850x, rfl, f850x, l850x, c050x, p050x, p150x⟩
                show wq 159 223 [(1, .int (mHere tb sz (v2x))), (0, .ref 162)] [] h850x 0 0 _
                obtain ⟨v51x, hv52x⟩ : ∃ x, x = (mDig tb sz ((v2x) + 1)) := ⟨_, rfl⟩
                try rw [← hv52x] at c050x
                try rw [← hv52x] at p050x
                try rw [← hv52x] at p150x
                try rw [← hv52x]
                refine wq_gos (f := 1) (pc2 := 224) (ls2 := [(1, .int (mHere tb sz (v2x))), (0, .ref 162)]) (st2 := [.ref 162]) (h2 := h850x) (dc2 := 0) (ds2 := 0) 1 rfl ?_
                refine wq_getf rfl c050x rfl rfl ?_
                refine wq_gos (f := 1) (pc2 := 233) (ls2 := [(1, .int (mHere tb sz (v2x))), (0, .ref 162)]) (st2 := [.ref 162, .ref 162]) (h2 := h850x) (dc2 := 0) (ds2 := 0) 4 rfl ?_
                refine wq_getf rfl c050x rfl rfl ?_
                refine wq_gos (f := 1) (pc2 := 237) (ls2 := [(1, .int (mHere tb sz (v2x))), (0, .ref 162)]) (st2 := [.int (-(v51x.2)), .ref 162]) (h2 := h850x) (dc2 := 0) (ds2 := 0) 1 rfl ?_
                refine wq_putf rfl c050x rfl rfl rfl ?_
                intro h53x e54x f55x l56x
                have e54x : zat h53x 162 = some (.inr (.inr (.inr (10, mO n0 n2 n14 (nI sz) (nI (v51x.1)) (nI (v2x)) (3 : Int32) (-(v51x.2)) ft fp n22 n23 n27 n28 n32 n33 n34 n35 n39 n52)))) := e54x
                have hx : (mTok tb sz at9 va) = ((v51x.1), (v2x), (3 : Int32), (-(v51x.2))) := by unfold mTok; rw [zlet_eq hv3x, if_pos b11x, if_pos b14x, if_pos b16x, if_pos b22x, if_neg (fun q => q b25x), if_neg (Int.not_lt.mpr b34x), if_neg (Int.not_lt.mpr b40x), zlet_eq hv52x]
                rw [hx]
                exact wq_ret rfl rfl ⟨h53x, rfl, (wFr_tr (wFr_sub f81x (by simp)) (wFr_tr (wFr_sub f6x (by simp)) (wFr_tr (wFr_sub f19x (by simp)) (wFr_tr (wFr_sub f47x (by simp)) (wFr_tr (wFr_sub f850x (by simp)) (wFr_sub f55x (by simp))))))), by omega, e54x, (by first | ((try dsimp only); omega) | assumption), (by first | ((try dsimp only); omega) | assumption), (by first | ((try dsimp only); omega) | assumption), (by first | ((try dsimp only); omega) | assumption)⟩
        · have q57x : (mHere tb sz (v2x)).toInt = 59 := congrArg Int32.toInt b22x
          refine wq_gos (f := 1) (pc2 := 208) (ls2 := [(1, .int (mHere tb sz (v2x))), (0, .ref 162)]) (st2 := [.int 4, .ref 162]) (h2 := h17x) (dc2 := 0) (ds2 := 0) 2 rfl ?_
          refine wq_putf rfl e18x rfl rfl rfl ?_
          intro h58x e59x f60x l61x
          have e59x : zat h58x 162 = some (.inr (.inr (.inr (10, mO n0 n2 n14 (nI sz) (nI ((v2x) + 1)) (nI (v2x)) (4 : Int32) va ft fp n22 n23 n27 n28 n32 n33 n34 n35 n39 n52)))) := e59x
          refine wq_gos (f := 1) (pc2 := 212) (ls2 := [(1, .int (mHere tb sz (v2x))), (0, .ref 162)]) (st2 := [.ref 162]) (h2 := h58x) (dc2 := 0) (ds2 := 0) 1 rfl ?_
          refine wq_getf rfl e59x rfl rfl ?_
          refine wq_gos (f := 1) (pc2 := 224) (ls2 := [(1, .int (mHere tb sz (v2x))), (0, .ref 162)]) (st2 := [.ref 162]) (h2 := h58x) (dc2 := 0) (ds2 := 0) 3 rfl ?_
          refine wq_getf rfl e59x rfl rfl ?_
          refine wq_gos (f := 1) (pc2 := 240) (ls2 := [(1, .int (mHere tb sz (v2x))), (0, .ref 162)]) (st2 := []) (h2 := h58x) (dc2 := 0) (ds2 := 0) 2 rfl ?_
          have hx : (mTok tb sz at9 va) = (((v2x) + 1), (v2x), (4 : Int32), va) := by unfold mTok; rw [zlet_eq hv3x, if_pos b11x, if_pos b14x, if_pos b16x, if_neg (fun q => q b22x)]
          rw [hx]
          exact wq_ret rfl rfl ⟨h58x, rfl, (wFr_tr (wFr_sub f81x (by simp)) (wFr_tr (wFr_sub f6x (by simp)) (wFr_tr (wFr_sub f19x (by simp)) (wFr_sub f60x (by simp))))), by omega, e59x, (by first | ((try dsimp only); omega) | assumption), (by first | ((try dsimp only); omega) | assumption), (by first | ((try dsimp only); omega) | assumption), (by first | ((try dsimp only); omega) | assumption)⟩
      · refine wq_gos (f := 1) (pc2 := 9) (ls2 := [(0, .int (mHere tb sz (v2x)))]) (st2 := [.int 57, .int (mHere tb sz (v2x))]) (h2 := h4x) (dc2 := 0) (ds2 := 0) 2 rfl ?_
        have q62x : (57 : Int32).toInt = 57 := rfl
        refine wq_gt2 rfl rfl (fun b63x => ?_) (fun b63x => ?_)
        · refine wq_gos (f := 1) (pc2 := 17) (ls2 := [(0, .int (mHere tb sz (v2x)))]) (st2 := [.int 0]) (h2 := h4x) (dc2 := 0) (ds2 := 0) 1 rfl ?_
          refine wq_ret rfl rfl ?_
          show wq 159 150 [(1, .int (mHere tb sz (v2x))), (0, .ref 162)] [.int 0] h4x 0 0 _
          refine wq_gos (f := 1) (pc2 := 167) (ls2 := [(1, .int (mHere tb sz (v2x))), (0, .ref 162)]) (st2 := [.ref 162, .ref 162]) (h2 := h4x) (dc2 := 0) (ds2 := 0) 3 rfl ?_
          refine wq_getf rfl e5x rfl rfl ?_
          refine wq_gos (f := 1) (pc2 := 172) (ls2 := [(1, .int (mHere tb sz (v2x))), (0, .ref 162)]) (st2 := [.int ((nI (v2x)) + (1 : Int32)), .ref 162]) (h2 := h4x) (dc2 := 0) (ds2 := 0) 2 rfl ?_
          rw [nI_1]
          refine wq_putf rfl e5x rfl rfl rfl ?_
          intro h64x e65x f66x l67x
          have e65x : zat h64x 162 = some (.inr (.inr (.inr (10, mO n0 n2 n14 (nI sz) (nI ((v2x) + 1)) (nI (v2x)) so va ft fp n22 n23 n27 n28 n32 n33 n34 n35 n39 n52)))) := e65x
          refine wq_gos (f := 1) (pc2 := 179) (ls2 := [(1, .int (mHere tb sz (v2x))), (0, .ref 162)]) (st2 := [.int 59, .int (mHere tb sz (v2x)), .ref 162]) (h2 := h64x) (dc2 := 0) (ds2 := 0) 3 rfl ?_
          have q68x : (59 : Int32).toInt = 59 := rfl
          refine wq_ne2 rfl rfl (fun b69x => ?_) (fun b69x => ?_)
          · have q70x : (mHere tb sz (v2x)).toInt ≠ 59 := fun q => b69x (Int32.toInt_inj.mp q)
            refine wq_gos (f := 1) (pc2 := 189) (ls2 := [(1, .int (mHere tb sz (v2x))), (0, .ref 162)]) (st2 := [.int 45, .int (mHere tb sz (v2x)), .ref 162]) (h2 := h64x) (dc2 := 0) (ds2 := 0) 2 rfl ?_
            have q71x : (45 : Int32).toInt = 45 := rfl
            refine wq_ne2 rfl rfl (fun b72x => ?_) (fun b72x => ?_)
            · have q73x : (mHere tb sz (v2x)).toInt ≠ 45 := fun q => b72x (Int32.toInt_inj.mp q)
              refine wq_gos (f := 1) (pc2 := 208) (ls2 := [(1, .int (mHere tb sz (v2x))), (0, .ref 162)]) (st2 := [.int 6, .ref 162]) (h2 := h64x) (dc2 := 0) (ds2 := 0) 1 rfl ?_
              refine wq_putf rfl e65x rfl rfl rfl ?_
              intro h74x e75x f76x l77x
              have e75x : zat h74x 162 = some (.inr (.inr (.inr (10, mO n0 n2 n14 (nI sz) (nI ((v2x) + 1)) (nI (v2x)) (6 : Int32) va ft fp n22 n23 n27 n28 n32 n33 n34 n35 n39 n52)))) := e75x
              refine wq_gos (f := 1) (pc2 := 212) (ls2 := [(1, .int (mHere tb sz (v2x))), (0, .ref 162)]) (st2 := [.ref 162]) (h2 := h74x) (dc2 := 0) (ds2 := 0) 1 rfl ?_
              refine wq_getf rfl e75x rfl rfl ?_
              refine wq_gos (f := 1) (pc2 := 224) (ls2 := [(1, .int (mHere tb sz (v2x))), (0, .ref 162)]) (st2 := [.ref 162]) (h2 := h74x) (dc2 := 0) (ds2 := 0) 3 rfl ?_
              refine wq_getf rfl e75x rfl rfl ?_
              refine wq_gos (f := 1) (pc2 := 240) (ls2 := [(1, .int (mHere tb sz (v2x))), (0, .ref 162)]) (st2 := []) (h2 := h74x) (dc2 := 0) (ds2 := 0) 2 rfl ?_
              have hx : (mTok tb sz at9 va) = (((v2x) + 1), (v2x), (6 : Int32), va) := by unfold mTok; rw [zlet_eq hv3x, if_pos b11x, if_pos b14x, if_neg (Int.not_lt.mpr b16x), if_pos b63x, if_pos b69x, if_pos b72x]
              rw [hx]
              exact wq_ret rfl rfl ⟨h74x, rfl, (wFr_tr (wFr_sub f81x (by simp)) (wFr_tr (wFr_sub f6x (by simp)) (wFr_tr (wFr_sub f66x (by simp)) (wFr_sub f76x (by simp))))), by omega, e75x, (by first | ((try dsimp only); omega) | assumption), (by first | ((try dsimp only); omega) | assumption), (by first | ((try dsimp only); omega) | assumption), (by first | ((try dsimp only); omega) | assumption)⟩
            · have q78x : (mHere tb sz (v2x)).toInt = 45 := congrArg Int32.toInt b72x
              refine wq_gos (f := 1) (pc2 := 193) (ls2 := [(1, .int (mHere tb sz (v2x))), (0, .ref 162)]) (st2 := [.ref 162, .ref 162]) (h2 := h64x) (dc2 := 0) (ds2 := 0) 1 rfl ?_
              have e79x := (f66x.2 _ _ (wnc (by decide) wn0) e8x)
              refine wq_inlv (y2 := 156) (as := []) rfl rfl rfl e65x rfl (wq_mono (m_here e65x e79x (by first | omega | assumption | decide | solve_by_elim) (by first | omega | assumption | decide | solve_by_elim)) ?_)
              rintro _ ⟨rfl, p080x⟩
              show wq 159 196 [(1, .int (mHere tb sz (v2x))), (0, .ref 162)] [.int (mHere tb sz ((v2x) + 1)), .ref 162] h64x 0 0 _
              refine wq_inl (y2 := 158) (as := [.int (mHere tb sz ((v2x) + 1))]) rfl rfl rfl ?_
              show wq 158 0 [(0, .int (mHere tb sz ((v2x) + 1)))] [] h64x 0 0 _
              refine wq_gos (f := 1) (pc2 := 3) (ls2 := [(0, .int (mHere tb sz ((v2x) + 1)))]) (st2 := [.int 48, .int (mHere tb sz ((v2x) + 1))]) (h2 := h64x) (dc2 := 0) (ds2 := 0) 2 rfl ?_
              refine wq_lt2 rfl rfl (fun b81x => ?_) (fun b81x => ?_)
              · refine wq_gos (f := 1) (pc2 := 17) (ls2 := [(0, .int (mHere tb sz ((v2x) + 1)))]) (st2 := [.int 0]) (h2 := h64x) (dc2 := 0) (ds2 := 0) 1 rfl ?_
                refine wq_ret rfl rfl ?_
                show wq 159 199 [(1, .int (mHere tb sz (v2x))), (0, .ref 162)] [.int 0, .ref 162] h64x 0 0 _
                refine wq_gos (f := 1) (pc2 := 208) (ls2 := [(1, .int (mHere tb sz (v2x))), (0, .ref 162)]) (st2 := [.int 6, .ref 162]) (h2 := h64x) (dc2 := 0) (ds2 := 0) 2 rfl ?_
                refine wq_putf rfl e65x rfl rfl rfl ?_
                intro h82x e83x f84x l85x
                have e83x : zat h82x 162 = some (.inr (.inr (.inr (10, mO n0 n2 n14 (nI sz) (nI ((v2x) + 1)) (nI (v2x)) (6 : Int32) va ft fp n22 n23 n27 n28 n32 n33 n34 n35 n39 n52)))) := e83x
                refine wq_gos (f := 1) (pc2 := 212) (ls2 := [(1, .int (mHere tb sz (v2x))), (0, .ref 162)]) (st2 := [.ref 162]) (h2 := h82x) (dc2 := 0) (ds2 := 0) 1 rfl ?_
                refine wq_getf rfl e83x rfl rfl ?_
                refine wq_gos (f := 1) (pc2 := 224) (ls2 := [(1, .int (mHere tb sz (v2x))), (0, .ref 162)]) (st2 := [.ref 162]) (h2 := h82x) (dc2 := 0) (ds2 := 0) 3 rfl ?_
                refine wq_getf rfl e83x rfl rfl ?_
                refine wq_gos (f := 1) (pc2 := 240) (ls2 := [(1, .int (mHere tb sz (v2x))), (0, .ref 162)]) (st2 := []) (h2 := h82x) (dc2 := 0) (ds2 := 0) 2 rfl ?_
                have hx : (mTok tb sz at9 va) = (((v2x) + 1), (v2x), (6 : Int32), va) := by unfold mTok; rw [zlet_eq hv3x, if_pos b11x, if_pos b14x, if_neg (Int.not_lt.mpr b16x), if_pos b63x, if_pos b69x, if_neg (fun q => q b72x), if_pos b81x]
                rw [hx]
                exact wq_ret rfl rfl ⟨h82x, rfl, (wFr_tr (wFr_sub f81x (by simp)) (wFr_tr (wFr_sub f6x (by simp)) (wFr_tr (wFr_sub f66x (by simp)) (wFr_sub f84x (by simp))))), by omega, e83x, (by first | ((try dsimp only); omega) | assumption), (by first | ((try dsimp only); omega) | assumption), (by first | ((try dsimp only); omega) | assumption), (by first | ((try dsimp only); omega) | assumption)⟩
              · refine wq_gos (f := 1) (pc2 := 9) (ls2 := [(0, .int (mHere tb sz ((v2x) + 1)))]) (st2 := [.int 57, .int (mHere tb sz ((v2x) + 1))]) (h2 := h64x) (dc2 := 0) (ds2 := 0) 2 rfl ?_
                refine wq_gt2 rfl rfl (fun b86x => ?_) (fun b86x => ?_)
                · refine wq_gos (f := 1) (pc2 := 17) (ls2 := [(0, .int (mHere tb sz ((v2x) + 1)))]) (st2 := [.int 0]) (h2 := h64x) (dc2 := 0) (ds2 := 0) 1 rfl ?_
                  refine wq_ret rfl rfl ?_
                  show wq 159 199 [(1, .int (mHere tb sz (v2x))), (0, .ref 162)] [.int 0, .ref 162] h64x 0 0 _
                  refine wq_gos (f := 1) (pc2 := 208) (ls2 := [(1, .int (mHere tb sz (v2x))), (0, .ref 162)]) (st2 := [.int 6, .ref 162]) (h2 := h64x) (dc2 := 0) (ds2 := 0) 2 rfl ?_
                  refine wq_putf rfl e65x rfl rfl rfl ?_
                  intro h87x e88x f89x l90x
                  have e88x : zat h87x 162 = some (.inr (.inr (.inr (10, mO n0 n2 n14 (nI sz) (nI ((v2x) + 1)) (nI (v2x)) (6 : Int32) va ft fp n22 n23 n27 n28 n32 n33 n34 n35 n39 n52)))) := e88x
                  refine wq_gos (f := 1) (pc2 := 212) (ls2 := [(1, .int (mHere tb sz (v2x))), (0, .ref 162)]) (st2 := [.ref 162]) (h2 := h87x) (dc2 := 0) (ds2 := 0) 1 rfl ?_
                  refine wq_getf rfl e88x rfl rfl ?_
                  refine wq_gos (f := 1) (pc2 := 224) (ls2 := [(1, .int (mHere tb sz (v2x))), (0, .ref 162)]) (st2 := [.ref 162]) (h2 := h87x) (dc2 := 0) (ds2 := 0) 3 rfl ?_
                  refine wq_getf rfl e88x rfl rfl ?_
                  refine wq_gos (f := 1) (pc2 := 240) (ls2 := [(1, .int (mHere tb sz (v2x))), (0, .ref 162)]) (st2 := []) (h2 := h87x) (dc2 := 0) (ds2 := 0) 2 rfl ?_
                  have hx : (mTok tb sz at9 va) = (((v2x) + 1), (v2x), (6 : Int32), va) := by unfold mTok; rw [zlet_eq hv3x, if_pos b11x, if_pos b14x, if_neg (Int.not_lt.mpr b16x), if_pos b63x, if_pos b69x, if_neg (fun q => q b72x), if_neg (Int.not_lt.mpr b81x), if_pos b86x]
                  rw [hx]
                  exact wq_ret rfl rfl ⟨h87x, rfl, (wFr_tr (wFr_sub f81x (by simp)) (wFr_tr (wFr_sub f6x (by simp)) (wFr_tr (wFr_sub f66x (by simp)) (wFr_sub f89x (by simp))))), by omega, e88x, (by first | ((try dsimp only); omega) | assumption), (by first | ((try dsimp only); omega) | assumption), (by first | ((try dsimp only); omega) | assumption), (by first | ((try dsimp only); omega) | assumption)⟩
                · refine wq_gos (f := 1) (pc2 := 17) (ls2 := [(0, .int (mHere tb sz ((v2x) + 1)))]) (st2 := [.int 1]) (h2 := h64x) (dc2 := 0) (ds2 := 0) 2 rfl ?_
                  refine wq_ret rfl rfl ?_
                  show wq 159 199 [(1, .int (mHere tb sz (v2x))), (0, .ref 162)] [.int 1, .ref 162] h64x 0 0 _
                  refine wq_gos (f := 1) (pc2 := 208) (ls2 := [(1, .int (mHere tb sz (v2x))), (0, .ref 162)]) (st2 := [.int 3, .ref 162]) (h2 := h64x) (dc2 := 0) (ds2 := 0) 3 rfl ?_
                  refine wq_putf rfl e65x rfl rfl rfl ?_
                  intro h91x e92x f93x l94x
                  have e92x : zat h91x 162 = some (.inr (.inr (.inr (10, mO n0 n2 n14 (nI sz) (nI ((v2x) + 1)) (nI (v2x)) (3 : Int32) va ft fp n22 n23 n27 n28 n32 n33 n34 n35 n39 n52)))) := e92x
                  refine wq_gos (f := 1) (pc2 := 212) (ls2 := [(1, .int (mHere tb sz (v2x))), (0, .ref 162)]) (st2 := [.ref 162]) (h2 := h91x) (dc2 := 0) (ds2 := 0) 1 rfl ?_
                  refine wq_getf rfl e92x rfl rfl ?_
                  refine wq_gos (f := 1) (pc2 := 220) (ls2 := [(1, .int (mHere tb sz (v2x))), (0, .ref 162)]) (st2 := [.ref 162]) (h2 := h91x) (dc2 := 0) (ds2 := 0) 3 rfl ?_
                  have e95x := (f93x.2 _ _ (wnc (by decide) wn0) e79x)
                  refine wq_inlv (y2 := 160) (as := []) rfl rfl rfl e92x rfl (wq_mono (m_dig e92x e95x (by first | omega | assumption | decide | solve_by_elim) ⟨Nat.le_refl _, by omega⟩) ?_)
                  rintro _ ⟨h896x, rfl, f896x, l896x, c096x, p096x, p196x⟩
                  show wq 159 223 [(1, .int (mHere tb sz (v2x))), (0, .ref 162)] [] h896x 0 0 _
                  obtain ⟨v97x, hv98x⟩ : ∃ x, x = (mDig tb sz ((v2x) + 1)) := ⟨_, rfl⟩
                  try rw [← hv98x] at c096x
                  try rw [← hv98x] at p096x
                  try rw [← hv98x] at p196x
                  try rw [← hv98x]
                  refine wq_gos (f := 1) (pc2 := 224) (ls2 := [(1, .int (mHere tb sz (v2x))), (0, .ref 162)]) (st2 := [.ref 162]) (h2 := h896x) (dc2 := 0) (ds2 := 0) 1 rfl ?_
                  refine wq_getf rfl c096x rfl rfl ?_
                  refine wq_gos (f := 1) (pc2 := 233) (ls2 := [(1, .int (mHere tb sz (v2x))), (0, .ref 162)]) (st2 := [.ref 162, .ref 162]) (h2 := h896x) (dc2 := 0) (ds2 := 0) 4 rfl ?_
                  refine wq_getf rfl c096x rfl rfl ?_
                  refine wq_gos (f := 1) (pc2 := 237) (ls2 := [(1, .int (mHere tb sz (v2x))), (0, .ref 162)]) (st2 := [.int (-(v97x.2)), .ref 162]) (h2 := h896x) (dc2 := 0) (ds2 := 0) 1 rfl ?_
                  refine wq_putf rfl c096x rfl rfl rfl ?_
                  intro h99x e100x f101x l102x
                  have e100x : zat h99x 162 = some (.inr (.inr (.inr (10, mO n0 n2 n14 (nI sz) (nI (v97x.1)) (nI (v2x)) (3 : Int32) (-(v97x.2)) ft fp n22 n23 n27 n28 n32 n33 n34 n35 n39 n52)))) := e100x
                  have hx : (mTok tb sz at9 va) = ((v97x.1), (v2x), (3 : Int32), (-(v97x.2))) := by unfold mTok; rw [zlet_eq hv3x, if_pos b11x, if_pos b14x, if_neg (Int.not_lt.mpr b16x), if_pos b63x, if_pos b69x, if_neg (fun q => q b72x), if_neg (Int.not_lt.mpr b81x), if_neg (Int.not_lt.mpr b86x), zlet_eq hv98x]
                  rw [hx]
                  exact wq_ret rfl rfl ⟨h99x, rfl, (wFr_tr (wFr_sub f81x (by simp)) (wFr_tr (wFr_sub f6x (by simp)) (wFr_tr (wFr_sub f66x (by simp)) (wFr_tr (wFr_sub f93x (by simp)) (wFr_tr (wFr_sub f896x (by simp)) (wFr_sub f101x (by simp))))))), by omega, e100x, (by first | ((try dsimp only); omega) | assumption), (by first | ((try dsimp only); omega) | assumption), (by first | ((try dsimp only); omega) | assumption), (by first | ((try dsimp only); omega) | assumption)⟩
          · have q103x : (mHere tb sz (v2x)).toInt = 59 := congrArg Int32.toInt b69x
            refine wq_gos (f := 1) (pc2 := 208) (ls2 := [(1, .int (mHere tb sz (v2x))), (0, .ref 162)]) (st2 := [.int 4, .ref 162]) (h2 := h64x) (dc2 := 0) (ds2 := 0) 2 rfl ?_
            refine wq_putf rfl e65x rfl rfl rfl ?_
            intro h104x e105x f106x l107x
            have e105x : zat h104x 162 = some (.inr (.inr (.inr (10, mO n0 n2 n14 (nI sz) (nI ((v2x) + 1)) (nI (v2x)) (4 : Int32) va ft fp n22 n23 n27 n28 n32 n33 n34 n35 n39 n52)))) := e105x
            refine wq_gos (f := 1) (pc2 := 212) (ls2 := [(1, .int (mHere tb sz (v2x))), (0, .ref 162)]) (st2 := [.ref 162]) (h2 := h104x) (dc2 := 0) (ds2 := 0) 1 rfl ?_
            refine wq_getf rfl e105x rfl rfl ?_
            refine wq_gos (f := 1) (pc2 := 224) (ls2 := [(1, .int (mHere tb sz (v2x))), (0, .ref 162)]) (st2 := [.ref 162]) (h2 := h104x) (dc2 := 0) (ds2 := 0) 3 rfl ?_
            refine wq_getf rfl e105x rfl rfl ?_
            refine wq_gos (f := 1) (pc2 := 240) (ls2 := [(1, .int (mHere tb sz (v2x))), (0, .ref 162)]) (st2 := []) (h2 := h104x) (dc2 := 0) (ds2 := 0) 2 rfl ?_
            have hx : (mTok tb sz at9 va) = (((v2x) + 1), (v2x), (4 : Int32), va) := by unfold mTok; rw [zlet_eq hv3x, if_pos b11x, if_pos b14x, if_neg (Int.not_lt.mpr b16x), if_pos b63x, if_neg (fun q => q b69x)]
            rw [hx]
            exact wq_ret rfl rfl ⟨h104x, rfl, (wFr_tr (wFr_sub f81x (by simp)) (wFr_tr (wFr_sub f6x (by simp)) (wFr_tr (wFr_sub f66x (by simp)) (wFr_sub f106x (by simp))))), by omega, e105x, (by first | ((try dsimp only); omega) | assumption), (by first | ((try dsimp only); omega) | assumption), (by first | ((try dsimp only); omega) | assumption), (by first | ((try dsimp only); omega) | assumption)⟩
        · refine wq_gos (f := 1) (pc2 := 17) (ls2 := [(0, .int (mHere tb sz (v2x)))]) (st2 := [.int 1]) (h2 := h4x) (dc2 := 0) (ds2 := 0) 2 rfl ?_
          refine wq_ret rfl rfl ?_
          show wq 159 150 [(1, .int (mHere tb sz (v2x))), (0, .ref 162)] [.int 1] h4x 0 0 _
          refine wq_gos (f := 1) (pc2 := 155) (ls2 := [(1, .int (mHere tb sz (v2x))), (0, .ref 162)]) (st2 := [.int 2, .ref 162]) (h2 := h4x) (dc2 := 0) (ds2 := 0) 3 rfl ?_
          refine wq_putf rfl e5x rfl rfl rfl ?_
          intro h108x e109x f110x l111x
          have e109x : zat h108x 162 = some (.inr (.inr (.inr (10, mO n0 n2 n14 (nI sz) (nI (v2x)) (nI (v2x)) (2 : Int32) va ft fp n22 n23 n27 n28 n32 n33 n34 n35 n39 n52)))) := e109x
          refine wq_gos (f := 1) (pc2 := 159) (ls2 := [(1, .int (mHere tb sz (v2x))), (0, .ref 162)]) (st2 := [.ref 162]) (h2 := h108x) (dc2 := 0) (ds2 := 0) 1 rfl ?_
          have e112x := (f110x.2 _ _ (wnc (by decide) wn0) e8x)
          refine wq_inlv (y2 := 160) (as := []) rfl rfl rfl e109x rfl (wq_mono (m_dig e109x e112x (by first | omega | assumption | decide | solve_by_elim) ⟨Nat.le_refl _, by omega⟩) ?_)
          rintro _ ⟨h8113x, rfl, f8113x, l8113x, c0113x, p0113x, p1113x⟩
          show wq 159 162 [(1, .int (mHere tb sz (v2x))), (0, .ref 162)] [] h8113x 0 0 _
          obtain ⟨v114x, hv115x⟩ : ∃ x, x = (mDig tb sz (v2x)) := ⟨_, rfl⟩
          try rw [← hv115x] at c0113x
          try rw [← hv115x] at p0113x
          try rw [← hv115x] at p1113x
          try rw [← hv115x]
          refine wq_gos (f := 1) (pc2 := 240) (ls2 := [(1, .int (mHere tb sz (v2x))), (0, .ref 162)]) (st2 := []) (h2 := h8113x) (dc2 := 0) (ds2 := 0) 1 rfl ?_
          have hx : (mTok tb sz at9 va) = ((v114x.1), (v2x), (2 : Int32), (v114x.2)) := by unfold mTok; rw [zlet_eq hv3x, if_pos b11x, if_pos b14x, if_neg (Int.not_lt.mpr b16x), if_neg (Int.not_lt.mpr b63x), zlet_eq hv115x]
          rw [hx]
          exact wq_ret rfl rfl ⟨h8113x, rfl, (wFr_tr (wFr_sub f81x (by simp)) (wFr_tr (wFr_sub f6x (by simp)) (wFr_tr (wFr_sub f110x (by simp)) (wFr_sub f8113x (by simp))))), by omega, c0113x, (by first | ((try dsimp only); omega) | assumption), (by first | ((try dsimp only); omega) | assumption), (by first | ((try dsimp only); omega) | assumption), (by first | ((try dsimp only); omega) | assumption)⟩
    · refine wq_gos (f := 1) (pc2 := 9) (ls2 := [(0, .int (mHere tb sz (v2x)))]) (st2 := [.int 122, .int (mHere tb sz (v2x))]) (h2 := h4x) (dc2 := 0) (ds2 := 0) 2 rfl ?_
      have q116x : (122 : Int32).toInt = 122 := rfl
      refine wq_gt2 rfl rfl (fun b117x => ?_) (fun b117x => ?_)
      · refine wq_gos (f := 1) (pc2 := 17) (ls2 := [(0, .int (mHere tb sz (v2x)))]) (st2 := [.int 0]) (h2 := h4x) (dc2 := 0) (ds2 := 0) 1 rfl ?_
        refine wq_ret rfl rfl ?_
        show wq 159 61 [(1, .int (mHere tb sz (v2x))), (0, .ref 162)] [.int 0] h4x 0 0 _
        refine wq_gos (f := 1) (pc2 := 147) (ls2 := [(1, .int (mHere tb sz (v2x))), (0, .ref 162)]) (st2 := [.int (mHere tb sz (v2x))]) (h2 := h4x) (dc2 := 0) (ds2 := 0) 2 rfl ?_
        refine wq_inl (y2 := 158) (as := [.int (mHere tb sz (v2x))]) rfl rfl rfl ?_
        show wq 158 0 [(0, .int (mHere tb sz (v2x)))] [] h4x 0 0 _
        refine wq_gos (f := 1) (pc2 := 3) (ls2 := [(0, .int (mHere tb sz (v2x)))]) (st2 := [.int 48, .int (mHere tb sz (v2x))]) (h2 := h4x) (dc2 := 0) (ds2 := 0) 2 rfl ?_
        have q118x : (48 : Int32).toInt = 48 := rfl
        refine wq_lt2 rfl rfl (fun b119x => ?_) (fun b119x => ?_)
        · refine wq_gos (f := 1) (pc2 := 17) (ls2 := [(0, .int (mHere tb sz (v2x)))]) (st2 := [.int 0]) (h2 := h4x) (dc2 := 0) (ds2 := 0) 1 rfl ?_
          refine wq_ret rfl rfl ?_
          show wq 159 150 [(1, .int (mHere tb sz (v2x))), (0, .ref 162)] [.int 0] h4x 0 0 _
          refine wq_gos (f := 1) (pc2 := 167) (ls2 := [(1, .int (mHere tb sz (v2x))), (0, .ref 162)]) (st2 := [.ref 162, .ref 162]) (h2 := h4x) (dc2 := 0) (ds2 := 0) 3 rfl ?_
          refine wq_getf rfl e5x rfl rfl ?_
          refine wq_gos (f := 1) (pc2 := 172) (ls2 := [(1, .int (mHere tb sz (v2x))), (0, .ref 162)]) (st2 := [.int ((nI (v2x)) + (1 : Int32)), .ref 162]) (h2 := h4x) (dc2 := 0) (ds2 := 0) 2 rfl ?_
          rw [nI_1]
          refine wq_putf rfl e5x rfl rfl rfl ?_
          intro h120x e121x f122x l123x
          have e121x : zat h120x 162 = some (.inr (.inr (.inr (10, mO n0 n2 n14 (nI sz) (nI ((v2x) + 1)) (nI (v2x)) so va ft fp n22 n23 n27 n28 n32 n33 n34 n35 n39 n52)))) := e121x
          refine wq_gos (f := 1) (pc2 := 179) (ls2 := [(1, .int (mHere tb sz (v2x))), (0, .ref 162)]) (st2 := [.int 59, .int (mHere tb sz (v2x)), .ref 162]) (h2 := h120x) (dc2 := 0) (ds2 := 0) 3 rfl ?_
          have q124x : (59 : Int32).toInt = 59 := rfl
          refine wq_ne2 rfl rfl (fun b125x => ?_) (fun b125x => ?_)
          · have q126x : (mHere tb sz (v2x)).toInt ≠ 59 := fun q => b125x (Int32.toInt_inj.mp q)
            refine wq_gos (f := 1) (pc2 := 189) (ls2 := [(1, .int (mHere tb sz (v2x))), (0, .ref 162)]) (st2 := [.int 45, .int (mHere tb sz (v2x)), .ref 162]) (h2 := h120x) (dc2 := 0) (ds2 := 0) 2 rfl ?_
            have q127x : (45 : Int32).toInt = 45 := rfl
            refine wq_ne2 rfl rfl (fun b128x => ?_) (fun b128x => ?_)
            · have q129x : (mHere tb sz (v2x)).toInt ≠ 45 := fun q => b128x (Int32.toInt_inj.mp q)
              refine wq_gos (f := 1) (pc2 := 208) (ls2 := [(1, .int (mHere tb sz (v2x))), (0, .ref 162)]) (st2 := [.int 6, .ref 162]) (h2 := h120x) (dc2 := 0) (ds2 := 0) 1 rfl ?_
              refine wq_putf rfl e121x rfl rfl rfl ?_
              intro h130x e131x f132x l133x
              have e131x : zat h130x 162 = some (.inr (.inr (.inr (10, mO n0 n2 n14 (nI sz) (nI ((v2x) + 1)) (nI (v2x)) (6 : Int32) va ft fp n22 n23 n27 n28 n32 n33 n34 n35 n39 n52)))) := e131x
              refine wq_gos (f := 1) (pc2 := 212) (ls2 := [(1, .int (mHere tb sz (v2x))), (0, .ref 162)]) (st2 := [.ref 162]) (h2 := h130x) (dc2 := 0) (ds2 := 0) 1 rfl ?_
              refine wq_getf rfl e131x rfl rfl ?_
              refine wq_gos (f := 1) (pc2 := 224) (ls2 := [(1, .int (mHere tb sz (v2x))), (0, .ref 162)]) (st2 := [.ref 162]) (h2 := h130x) (dc2 := 0) (ds2 := 0) 3 rfl ?_
              refine wq_getf rfl e131x rfl rfl ?_
              refine wq_gos (f := 1) (pc2 := 240) (ls2 := [(1, .int (mHere tb sz (v2x))), (0, .ref 162)]) (st2 := []) (h2 := h130x) (dc2 := 0) (ds2 := 0) 2 rfl ?_
              have hx : (mTok tb sz at9 va) = (((v2x) + 1), (v2x), (6 : Int32), va) := by unfold mTok; rw [zlet_eq hv3x, if_pos b11x, if_neg (Int.not_lt.mpr b14x), if_pos b117x, if_pos b119x, if_pos b125x, if_pos b128x]
              rw [hx]
              exact wq_ret rfl rfl ⟨h130x, rfl, (wFr_tr (wFr_sub f81x (by simp)) (wFr_tr (wFr_sub f6x (by simp)) (wFr_tr (wFr_sub f122x (by simp)) (wFr_sub f132x (by simp))))), by omega, e131x, (by first | ((try dsimp only); omega) | assumption), (by first | ((try dsimp only); omega) | assumption), (by first | ((try dsimp only); omega) | assumption), (by first | ((try dsimp only); omega) | assumption)⟩
            · have q134x : (mHere tb sz (v2x)).toInt = 45 := congrArg Int32.toInt b128x
              refine wq_gos (f := 1) (pc2 := 193) (ls2 := [(1, .int (mHere tb sz (v2x))), (0, .ref 162)]) (st2 := [.ref 162, .ref 162]) (h2 := h120x) (dc2 := 0) (ds2 := 0) 1 rfl ?_
              have e135x := (f122x.2 _ _ (wnc (by decide) wn0) e8x)
              refine wq_inlv (y2 := 156) (as := []) rfl rfl rfl e121x rfl (wq_mono (m_here e121x e135x (by first | omega | assumption | decide | solve_by_elim) (by first | omega | assumption | decide | solve_by_elim)) ?_)
              rintro _ ⟨rfl, p0136x⟩
              show wq 159 196 [(1, .int (mHere tb sz (v2x))), (0, .ref 162)] [.int (mHere tb sz ((v2x) + 1)), .ref 162] h120x 0 0 _
              refine wq_inl (y2 := 158) (as := [.int (mHere tb sz ((v2x) + 1))]) rfl rfl rfl ?_
              show wq 158 0 [(0, .int (mHere tb sz ((v2x) + 1)))] [] h120x 0 0 _
              refine wq_gos (f := 1) (pc2 := 3) (ls2 := [(0, .int (mHere tb sz ((v2x) + 1)))]) (st2 := [.int 48, .int (mHere tb sz ((v2x) + 1))]) (h2 := h120x) (dc2 := 0) (ds2 := 0) 2 rfl ?_
              refine wq_lt2 rfl rfl (fun b137x => ?_) (fun b137x => ?_)
              · refine wq_gos (f := 1) (pc2 := 17) (ls2 := [(0, .int (mHere tb sz ((v2x) + 1)))]) (st2 := [.int 0]) (h2 := h120x) (dc2 := 0) (ds2 := 0) 1 rfl ?_
                refine wq_ret rfl rfl ?_
                show wq 159 199 [(1, .int (mHere tb sz (v2x))), (0, .ref 162)] [.int 0, .ref 162] h120x 0 0 _
                refine wq_gos (f := 1) (pc2 := 208) (ls2 := [(1, .int (mHere tb sz (v2x))), (0, .ref 162)]) (st2 := [.int 6, .ref 162]) (h2 := h120x) (dc2 := 0) (ds2 := 0) 2 rfl ?_
                refine wq_putf rfl e121x rfl rfl rfl ?_
                intro h138x e139x f140x l141x
                have e139x : zat h138x 162 = some (.inr (.inr (.inr (10, mO n0 n2 n14 (nI sz) (nI ((v2x) + 1)) (nI (v2x)) (6 : Int32) va ft fp n22 n23 n27 n28 n32 n33 n34 n35 n39 n52)))) := e139x
                refine wq_gos (f := 1) (pc2 := 212) (ls2 := [(1, .int (mHere tb sz (v2x))), (0, .ref 162)]) (st2 := [.ref 162]) (h2 := h138x) (dc2 := 0) (ds2 := 0) 1 rfl ?_
                refine wq_getf rfl e139x rfl rfl ?_
                refine wq_gos (f := 1) (pc2 := 224) (ls2 := [(1, .int (mHere tb sz (v2x))), (0, .ref 162)]) (st2 := [.ref 162]) (h2 := h138x) (dc2 := 0) (ds2 := 0) 3 rfl ?_
                refine wq_getf rfl e139x rfl rfl ?_
                refine wq_gos (f := 1) (pc2 := 240) (ls2 := [(1, .int (mHere tb sz (v2x))), (0, .ref 162)]) (st2 := []) (h2 := h138x) (dc2 := 0) (ds2 := 0) 2 rfl ?_
                have hx : (mTok tb sz at9 va) = (((v2x) + 1), (v2x), (6 : Int32), va) := by unfold mTok; rw [zlet_eq hv3x, if_pos b11x, if_neg (Int.not_lt.mpr b14x), if_pos b117x, if_pos b119x, if_pos b125x, if_neg (fun q => q b128x), if_pos b137x]
                rw [hx]
                exact wq_ret rfl rfl ⟨h138x, rfl, (wFr_tr (wFr_sub f81x (by simp)) (wFr_tr (wFr_sub f6x (by simp)) (wFr_tr (wFr_sub f122x (by simp)) (wFr_sub f140x (by simp))))), by omega, e139x, (by first | ((try dsimp only); omega) | assumption), (by first | ((try dsimp only); omega) | assumption), (by first | ((try dsimp only); omega) | assumption), (by first | ((try dsimp only); omega) | assumption)⟩
              · refine wq_gos (f := 1) (pc2 := 9) (ls2 := [(0, .int (mHere tb sz ((v2x) + 1)))]) (st2 := [.int 57, .int (mHere tb sz ((v2x) + 1))]) (h2 := h120x) (dc2 := 0) (ds2 := 0) 2 rfl ?_
                have q142x : (57 : Int32).toInt = 57 := rfl
                refine wq_gt2 rfl rfl (fun b143x => ?_) (fun b143x => ?_)
                · refine wq_gos (f := 1) (pc2 := 17) (ls2 := [(0, .int (mHere tb sz ((v2x) + 1)))]) (st2 := [.int 0]) (h2 := h120x) (dc2 := 0) (ds2 := 0) 1 rfl ?_
                  refine wq_ret rfl rfl ?_
                  show wq 159 199 [(1, .int (mHere tb sz (v2x))), (0, .ref 162)] [.int 0, .ref 162] h120x 0 0 _
                  refine wq_gos (f := 1) (pc2 := 208) (ls2 := [(1, .int (mHere tb sz (v2x))), (0, .ref 162)]) (st2 := [.int 6, .ref 162]) (h2 := h120x) (dc2 := 0) (ds2 := 0) 2 rfl ?_
                  refine wq_putf rfl e121x rfl rfl rfl ?_
                  intro h144x e145x f146x l147x
                  have e145x : zat h144x 162 = some (.inr (.inr (.inr (10, mO n0 n2 n14 (nI sz) (nI ((v2x) + 1)) (nI (v2x)) (6 : Int32) va ft fp n22 n23 n27 n28 n32 n33 n34 n35 n39 n52)))) := e145x
                  refine wq_gos (f := 1) (pc2 := 212) (ls2 := [(1, .int (mHere tb sz (v2x))), (0, .ref 162)]) (st2 := [.ref 162]) (h2 := h144x) (dc2 := 0) (ds2 := 0) 1 rfl ?_
                  refine wq_getf rfl e145x rfl rfl ?_
                  refine wq_gos (f := 1) (pc2 := 224) (ls2 := [(1, .int (mHere tb sz (v2x))), (0, .ref 162)]) (st2 := [.ref 162]) (h2 := h144x) (dc2 := 0) (ds2 := 0) 3 rfl ?_
                  refine wq_getf rfl e145x rfl rfl ?_
                  refine wq_gos (f := 1) (pc2 := 240) (ls2 := [(1, .int (mHere tb sz (v2x))), (0, .ref 162)]) (st2 := []) (h2 := h144x) (dc2 := 0) (ds2 := 0) 2 rfl ?_
                  have hx : (mTok tb sz at9 va) = (((v2x) + 1), (v2x), (6 : Int32), va) := by unfold mTok; rw [zlet_eq hv3x, if_pos b11x, if_neg (Int.not_lt.mpr b14x), if_pos b117x, if_pos b119x, if_pos b125x, if_neg (fun q => q b128x), if_neg (Int.not_lt.mpr b137x), if_pos b143x]
                  rw [hx]
                  exact wq_ret rfl rfl ⟨h144x, rfl, (wFr_tr (wFr_sub f81x (by simp)) (wFr_tr (wFr_sub f6x (by simp)) (wFr_tr (wFr_sub f122x (by simp)) (wFr_sub f146x (by simp))))), by omega, e145x, (by first | ((try dsimp only); omega) | assumption), (by first | ((try dsimp only); omega) | assumption), (by first | ((try dsimp only); omega) | assumption), (by first | ((try dsimp only); omega) | assumption)⟩
                · refine wq_gos (f := 1) (pc2 := 17) (ls2 := [(0, .int (mHere tb sz ((v2x) + 1)))]) (st2 := [.int 1]) (h2 := h120x) (dc2 := 0) (ds2 := 0) 2 rfl ?_
                  refine wq_ret rfl rfl ?_
                  show wq 159 199 [(1, .int (mHere tb sz (v2x))), (0, .ref 162)] [.int 1, .ref 162] h120x 0 0 _
                  refine wq_gos (f := 1) (pc2 := 208) (ls2 := [(1, .int (mHere tb sz (v2x))), (0, .ref 162)]) (st2 := [.int 3, .ref 162]) (h2 := h120x) (dc2 := 0) (ds2 := 0) 3 rfl ?_
                  refine wq_putf rfl e121x rfl rfl rfl ?_
                  intro h148x e149x f150x l151x
                  have e149x : zat h148x 162 = some (.inr (.inr (.inr (10, mO n0 n2 n14 (nI sz) (nI ((v2x) + 1)) (nI (v2x)) (3 : Int32) va ft fp n22 n23 n27 n28 n32 n33 n34 n35 n39 n52)))) := e149x
                  refine wq_gos (f := 1) (pc2 := 212) (ls2 := [(1, .int (mHere tb sz (v2x))), (0, .ref 162)]) (st2 := [.ref 162]) (h2 := h148x) (dc2 := 0) (ds2 := 0) 1 rfl ?_
                  refine wq_getf rfl e149x rfl rfl ?_
                  refine wq_gos (f := 1) (pc2 := 220) (ls2 := [(1, .int (mHere tb sz (v2x))), (0, .ref 162)]) (st2 := [.ref 162]) (h2 := h148x) (dc2 := 0) (ds2 := 0) 3 rfl ?_
                  have e152x := (f150x.2 _ _ (wnc (by decide) wn0) e135x)
                  refine wq_inlv (y2 := 160) (as := []) rfl rfl rfl e149x rfl (wq_mono (m_dig e149x e152x (by first | omega | assumption | decide | solve_by_elim) ⟨Nat.le_refl _, by omega⟩) ?_)
                  rintro _ ⟨h8153x, rfl, f8153x, l8153x, c0153x, p0153x, p1153x⟩
                  show wq 159 223 [(1, .int (mHere tb sz (v2x))), (0, .ref 162)] [] h8153x 0 0 _
                  obtain ⟨v154x, hv155x⟩ : ∃ x, x = (mDig tb sz ((v2x) + 1)) := ⟨_, rfl⟩
                  try rw [← hv155x] at c0153x
                  try rw [← hv155x] at p0153x
                  try rw [← hv155x] at p1153x
                  try rw [← hv155x]
                  refine wq_gos (f := 1) (pc2 := 224) (ls2 := [(1, .int (mHere tb sz (v2x))), (0, .ref 162)]) (st2 := [.ref 162]) (h2 := h8153x) (dc2 := 0) (ds2 := 0) 1 rfl ?_
                  refine wq_getf rfl c0153x rfl rfl ?_
                  refine wq_gos (f := 1) (pc2 := 233) (ls2 := [(1, .int (mHere tb sz (v2x))), (0, .ref 162)]) (st2 := [.ref 162, .ref 162]) (h2 := h8153x) (dc2 := 0) (ds2 := 0) 4 rfl ?_
                  refine wq_getf rfl c0153x rfl rfl ?_
                  refine wq_gos (f := 1) (pc2 := 237) (ls2 := [(1, .int (mHere tb sz (v2x))), (0, .ref 162)]) (st2 := [.int (-(v154x.2)), .ref 162]) (h2 := h8153x) (dc2 := 0) (ds2 := 0) 1 rfl ?_
                  refine wq_putf rfl c0153x rfl rfl rfl ?_
                  intro h156x e157x f158x l159x
                  have e157x : zat h156x 162 = some (.inr (.inr (.inr (10, mO n0 n2 n14 (nI sz) (nI (v154x.1)) (nI (v2x)) (3 : Int32) (-(v154x.2)) ft fp n22 n23 n27 n28 n32 n33 n34 n35 n39 n52)))) := e157x
                  have hx : (mTok tb sz at9 va) = ((v154x.1), (v2x), (3 : Int32), (-(v154x.2))) := by unfold mTok; rw [zlet_eq hv3x, if_pos b11x, if_neg (Int.not_lt.mpr b14x), if_pos b117x, if_pos b119x, if_pos b125x, if_neg (fun q => q b128x), if_neg (Int.not_lt.mpr b137x), if_neg (Int.not_lt.mpr b143x), zlet_eq hv155x]
                  rw [hx]
                  exact wq_ret rfl rfl ⟨h156x, rfl, (wFr_tr (wFr_sub f81x (by simp)) (wFr_tr (wFr_sub f6x (by simp)) (wFr_tr (wFr_sub f122x (by simp)) (wFr_tr (wFr_sub f150x (by simp)) (wFr_tr (wFr_sub f8153x (by simp)) (wFr_sub f158x (by simp))))))), by omega, e157x, (by first | ((try dsimp only); omega) | assumption), (by first | ((try dsimp only); omega) | assumption), (by first | ((try dsimp only); omega) | assumption), (by first | ((try dsimp only); omega) | assumption)⟩
          · have q160x : (mHere tb sz (v2x)).toInt = 59 := congrArg Int32.toInt b125x
            refine wq_gos (f := 1) (pc2 := 208) (ls2 := [(1, .int (mHere tb sz (v2x))), (0, .ref 162)]) (st2 := [.int 4, .ref 162]) (h2 := h120x) (dc2 := 0) (ds2 := 0) 2 rfl ?_
            refine wq_putf rfl e121x rfl rfl rfl ?_
            intro h161x e162x f163x l164x
            have e162x : zat h161x 162 = some (.inr (.inr (.inr (10, mO n0 n2 n14 (nI sz) (nI ((v2x) + 1)) (nI (v2x)) (4 : Int32) va ft fp n22 n23 n27 n28 n32 n33 n34 n35 n39 n52)))) := e162x
            refine wq_gos (f := 1) (pc2 := 212) (ls2 := [(1, .int (mHere tb sz (v2x))), (0, .ref 162)]) (st2 := [.ref 162]) (h2 := h161x) (dc2 := 0) (ds2 := 0) 1 rfl ?_
            refine wq_getf rfl e162x rfl rfl ?_
            refine wq_gos (f := 1) (pc2 := 224) (ls2 := [(1, .int (mHere tb sz (v2x))), (0, .ref 162)]) (st2 := [.ref 162]) (h2 := h161x) (dc2 := 0) (ds2 := 0) 3 rfl ?_
            refine wq_getf rfl e162x rfl rfl ?_
            refine wq_gos (f := 1) (pc2 := 240) (ls2 := [(1, .int (mHere tb sz (v2x))), (0, .ref 162)]) (st2 := []) (h2 := h161x) (dc2 := 0) (ds2 := 0) 2 rfl ?_
            have hx : (mTok tb sz at9 va) = (((v2x) + 1), (v2x), (4 : Int32), va) := by unfold mTok; rw [zlet_eq hv3x, if_pos b11x, if_neg (Int.not_lt.mpr b14x), if_pos b117x, if_pos b119x, if_neg (fun q => q b125x)]
            rw [hx]
            exact wq_ret rfl rfl ⟨h161x, rfl, (wFr_tr (wFr_sub f81x (by simp)) (wFr_tr (wFr_sub f6x (by simp)) (wFr_tr (wFr_sub f122x (by simp)) (wFr_sub f163x (by simp))))), by omega, e162x, (by first | ((try dsimp only); omega) | assumption), (by first | ((try dsimp only); omega) | assumption), (by first | ((try dsimp only); omega) | assumption), (by first | ((try dsimp only); omega) | assumption)⟩
        · refine wq_gos (f := 1) (pc2 := 9) (ls2 := [(0, .int (mHere tb sz (v2x)))]) (st2 := [.int 57, .int (mHere tb sz (v2x))]) (h2 := h4x) (dc2 := 0) (ds2 := 0) 2 rfl ?_
          have q165x : (57 : Int32).toInt = 57 := rfl
          refine wq_gt2 rfl rfl (fun b166x => ?_) (fun b166x => ?_)
          · refine wq_gos (f := 1) (pc2 := 17) (ls2 := [(0, .int (mHere tb sz (v2x)))]) (st2 := [.int 0]) (h2 := h4x) (dc2 := 0) (ds2 := 0) 1 rfl ?_
            refine wq_ret rfl rfl ?_
            show wq 159 150 [(1, .int (mHere tb sz (v2x))), (0, .ref 162)] [.int 0] h4x 0 0 _
            refine wq_gos (f := 1) (pc2 := 167) (ls2 := [(1, .int (mHere tb sz (v2x))), (0, .ref 162)]) (st2 := [.ref 162, .ref 162]) (h2 := h4x) (dc2 := 0) (ds2 := 0) 3 rfl ?_
            refine wq_getf rfl e5x rfl rfl ?_
            refine wq_gos (f := 1) (pc2 := 172) (ls2 := [(1, .int (mHere tb sz (v2x))), (0, .ref 162)]) (st2 := [.int ((nI (v2x)) + (1 : Int32)), .ref 162]) (h2 := h4x) (dc2 := 0) (ds2 := 0) 2 rfl ?_
            rw [nI_1]
            refine wq_putf rfl e5x rfl rfl rfl ?_
            intro h167x e168x f169x l170x
            have e168x : zat h167x 162 = some (.inr (.inr (.inr (10, mO n0 n2 n14 (nI sz) (nI ((v2x) + 1)) (nI (v2x)) so va ft fp n22 n23 n27 n28 n32 n33 n34 n35 n39 n52)))) := e168x
            refine wq_gos (f := 1) (pc2 := 179) (ls2 := [(1, .int (mHere tb sz (v2x))), (0, .ref 162)]) (st2 := [.int 59, .int (mHere tb sz (v2x)), .ref 162]) (h2 := h167x) (dc2 := 0) (ds2 := 0) 3 rfl ?_
            have q171x : (59 : Int32).toInt = 59 := rfl
            refine wq_ne2 rfl rfl (fun b172x => ?_) (fun b172x => ?_)
            · have q173x : (mHere tb sz (v2x)).toInt ≠ 59 := fun q => b172x (Int32.toInt_inj.mp q)
              refine wq_gos (f := 1) (pc2 := 189) (ls2 := [(1, .int (mHere tb sz (v2x))), (0, .ref 162)]) (st2 := [.int 45, .int (mHere tb sz (v2x)), .ref 162]) (h2 := h167x) (dc2 := 0) (ds2 := 0) 2 rfl ?_
              have q174x : (45 : Int32).toInt = 45 := rfl
              refine wq_ne2 rfl rfl (fun b175x => ?_) (fun b175x => ?_)
              · have q176x : (mHere tb sz (v2x)).toInt ≠ 45 := fun q => b175x (Int32.toInt_inj.mp q)
                refine wq_gos (f := 1) (pc2 := 208) (ls2 := [(1, .int (mHere tb sz (v2x))), (0, .ref 162)]) (st2 := [.int 6, .ref 162]) (h2 := h167x) (dc2 := 0) (ds2 := 0) 1 rfl ?_
                refine wq_putf rfl e168x rfl rfl rfl ?_
                intro h177x e178x f179x l180x
                have e178x : zat h177x 162 = some (.inr (.inr (.inr (10, mO n0 n2 n14 (nI sz) (nI ((v2x) + 1)) (nI (v2x)) (6 : Int32) va ft fp n22 n23 n27 n28 n32 n33 n34 n35 n39 n52)))) := e178x
                refine wq_gos (f := 1) (pc2 := 212) (ls2 := [(1, .int (mHere tb sz (v2x))), (0, .ref 162)]) (st2 := [.ref 162]) (h2 := h177x) (dc2 := 0) (ds2 := 0) 1 rfl ?_
                refine wq_getf rfl e178x rfl rfl ?_
                refine wq_gos (f := 1) (pc2 := 224) (ls2 := [(1, .int (mHere tb sz (v2x))), (0, .ref 162)]) (st2 := [.ref 162]) (h2 := h177x) (dc2 := 0) (ds2 := 0) 3 rfl ?_
                refine wq_getf rfl e178x rfl rfl ?_
                refine wq_gos (f := 1) (pc2 := 240) (ls2 := [(1, .int (mHere tb sz (v2x))), (0, .ref 162)]) (st2 := []) (h2 := h177x) (dc2 := 0) (ds2 := 0) 2 rfl ?_
                have hx : (mTok tb sz at9 va) = (((v2x) + 1), (v2x), (6 : Int32), va) := by unfold mTok; rw [zlet_eq hv3x, if_pos b11x, if_neg (Int.not_lt.mpr b14x), if_pos b117x, if_neg (Int.not_lt.mpr b119x), if_pos b166x, if_pos b172x, if_pos b175x]
                rw [hx]
                exact wq_ret rfl rfl ⟨h177x, rfl, (wFr_tr (wFr_sub f81x (by simp)) (wFr_tr (wFr_sub f6x (by simp)) (wFr_tr (wFr_sub f169x (by simp)) (wFr_sub f179x (by simp))))), by omega, e178x, (by first | ((try dsimp only); omega) | assumption), (by first | ((try dsimp only); omega) | assumption), (by first | ((try dsimp only); omega) | assumption), (by first | ((try dsimp only); omega) | assumption)⟩
              · have q181x : (mHere tb sz (v2x)).toInt = 45 := congrArg Int32.toInt b175x
                refine wq_gos (f := 1) (pc2 := 193) (ls2 := [(1, .int (mHere tb sz (v2x))), (0, .ref 162)]) (st2 := [.ref 162, .ref 162]) (h2 := h167x) (dc2 := 0) (ds2 := 0) 1 rfl ?_
                have e182x := (f169x.2 _ _ (wnc (by decide) wn0) e8x)
                refine wq_inlv (y2 := 156) (as := []) rfl rfl rfl e168x rfl (wq_mono (m_here e168x e182x (by first | omega | assumption | decide | solve_by_elim) (by first | omega | assumption | decide | solve_by_elim)) ?_)
                rintro _ ⟨rfl, p0183x⟩
                show wq 159 196 [(1, .int (mHere tb sz (v2x))), (0, .ref 162)] [.int (mHere tb sz ((v2x) + 1)), .ref 162] h167x 0 0 _
                refine wq_inl (y2 := 158) (as := [.int (mHere tb sz ((v2x) + 1))]) rfl rfl rfl ?_
                show wq 158 0 [(0, .int (mHere tb sz ((v2x) + 1)))] [] h167x 0 0 _
                refine wq_gos (f := 1) (pc2 := 3) (ls2 := [(0, .int (mHere tb sz ((v2x) + 1)))]) (st2 := [.int 48, .int (mHere tb sz ((v2x) + 1))]) (h2 := h167x) (dc2 := 0) (ds2 := 0) 2 rfl ?_
                refine wq_lt2 rfl rfl (fun b184x => ?_) (fun b184x => ?_)
                · refine wq_gos (f := 1) (pc2 := 17) (ls2 := [(0, .int (mHere tb sz ((v2x) + 1)))]) (st2 := [.int 0]) (h2 := h167x) (dc2 := 0) (ds2 := 0) 1 rfl ?_
                  refine wq_ret rfl rfl ?_
                  show wq 159 199 [(1, .int (mHere tb sz (v2x))), (0, .ref 162)] [.int 0, .ref 162] h167x 0 0 _
                  refine wq_gos (f := 1) (pc2 := 208) (ls2 := [(1, .int (mHere tb sz (v2x))), (0, .ref 162)]) (st2 := [.int 6, .ref 162]) (h2 := h167x) (dc2 := 0) (ds2 := 0) 2 rfl ?_
                  refine wq_putf rfl e168x rfl rfl rfl ?_
                  intro h185x e186x f187x l188x
                  have e186x : zat h185x 162 = some (.inr (.inr (.inr (10, mO n0 n2 n14 (nI sz) (nI ((v2x) + 1)) (nI (v2x)) (6 : Int32) va ft fp n22 n23 n27 n28 n32 n33 n34 n35 n39 n52)))) := e186x
                  refine wq_gos (f := 1) (pc2 := 212) (ls2 := [(1, .int (mHere tb sz (v2x))), (0, .ref 162)]) (st2 := [.ref 162]) (h2 := h185x) (dc2 := 0) (ds2 := 0) 1 rfl ?_
                  refine wq_getf rfl e186x rfl rfl ?_
                  refine wq_gos (f := 1) (pc2 := 224) (ls2 := [(1, .int (mHere tb sz (v2x))), (0, .ref 162)]) (st2 := [.ref 162]) (h2 := h185x) (dc2 := 0) (ds2 := 0) 3 rfl ?_
                  refine wq_getf rfl e186x rfl rfl ?_
                  refine wq_gos (f := 1) (pc2 := 240) (ls2 := [(1, .int (mHere tb sz (v2x))), (0, .ref 162)]) (st2 := []) (h2 := h185x) (dc2 := 0) (ds2 := 0) 2 rfl ?_
                  have hx : (mTok tb sz at9 va) = (((v2x) + 1), (v2x), (6 : Int32), va) := by unfold mTok; rw [zlet_eq hv3x, if_pos b11x, if_neg (Int.not_lt.mpr b14x), if_pos b117x, if_neg (Int.not_lt.mpr b119x), if_pos b166x, if_pos b172x, if_neg (fun q => q b175x), if_pos b184x]
                  rw [hx]
                  exact wq_ret rfl rfl ⟨h185x, rfl, (wFr_tr (wFr_sub f81x (by simp)) (wFr_tr (wFr_sub f6x (by simp)) (wFr_tr (wFr_sub f169x (by simp)) (wFr_sub f187x (by simp))))), by omega, e186x, (by first | ((try dsimp only); omega) | assumption), (by first | ((try dsimp only); omega) | assumption), (by first | ((try dsimp only); omega) | assumption), (by first | ((try dsimp only); omega) | assumption)⟩
                · refine wq_gos (f := 1) (pc2 := 9) (ls2 := [(0, .int (mHere tb sz ((v2x) + 1)))]) (st2 := [.int 57, .int (mHere tb sz ((v2x) + 1))]) (h2 := h167x) (dc2 := 0) (ds2 := 0) 2 rfl ?_
                  refine wq_gt2 rfl rfl (fun b189x => ?_) (fun b189x => ?_)
                  · refine wq_gos (f := 1) (pc2 := 17) (ls2 := [(0, .int (mHere tb sz ((v2x) + 1)))]) (st2 := [.int 0]) (h2 := h167x) (dc2 := 0) (ds2 := 0) 1 rfl ?_
                    refine wq_ret rfl rfl ?_
                    show wq 159 199 [(1, .int (mHere tb sz (v2x))), (0, .ref 162)] [.int 0, .ref 162] h167x 0 0 _
                    refine wq_gos (f := 1) (pc2 := 208) (ls2 := [(1, .int (mHere tb sz (v2x))), (0, .ref 162)]) (st2 := [.int 6, .ref 162]) (h2 := h167x) (dc2 := 0) (ds2 := 0) 2 rfl ?_
                    refine wq_putf rfl e168x rfl rfl rfl ?_
                    intro h190x e191x f192x l193x
                    have e191x : zat h190x 162 = some (.inr (.inr (.inr (10, mO n0 n2 n14 (nI sz) (nI ((v2x) + 1)) (nI (v2x)) (6 : Int32) va ft fp n22 n23 n27 n28 n32 n33 n34 n35 n39 n52)))) := e191x
                    refine wq_gos (f := 1) (pc2 := 212) (ls2 := [(1, .int (mHere tb sz (v2x))), (0, .ref 162)]) (st2 := [.ref 162]) (h2 := h190x) (dc2 := 0) (ds2 := 0) 1 rfl ?_
                    refine wq_getf rfl e191x rfl rfl ?_
                    refine wq_gos (f := 1) (pc2 := 224) (ls2 := [(1, .int (mHere tb sz (v2x))), (0, .ref 162)]) (st2 := [.ref 162]) (h2 := h190x) (dc2 := 0) (ds2 := 0) 3 rfl ?_
                    refine wq_getf rfl e191x rfl rfl ?_
                    refine wq_gos (f := 1) (pc2 := 240) (ls2 := [(1, .int (mHere tb sz (v2x))), (0, .ref 162)]) (st2 := []) (h2 := h190x) (dc2 := 0) (ds2 := 0) 2 rfl ?_
                    have hx : (mTok tb sz at9 va) = (((v2x) + 1), (v2x), (6 : Int32), va) := by unfold mTok; rw [zlet_eq hv3x, if_pos b11x, if_neg (Int.not_lt.mpr b14x), if_pos b117x, if_neg (Int.not_lt.mpr b119x), if_pos b166x, if_pos b172x, if_neg (fun q => q b175x), if_neg (Int.not_lt.mpr b184x), if_pos b189x]
                    rw [hx]
                    exact wq_ret rfl rfl ⟨h190x, rfl, (wFr_tr (wFr_sub f81x (by simp)) (wFr_tr (wFr_sub f6x (by simp)) (wFr_tr (wFr_sub f169x (by simp)) (wFr_sub f192x (by simp))))), by omega, e191x, (by first | ((try dsimp only); omega) | assumption), (by first | ((try dsimp only); omega) | assumption), (by first | ((try dsimp only); omega) | assumption), (by first | ((try dsimp only); omega) | assumption)⟩
                  · refine wq_gos (f := 1) (pc2 := 17) (ls2 := [(0, .int (mHere tb sz ((v2x) + 1)))]) (st2 := [.int 1]) (h2 := h167x) (dc2 := 0) (ds2 := 0) 2 rfl ?_
                    refine wq_ret rfl rfl ?_
                    show wq 159 199 [(1, .int (mHere tb sz (v2x))), (0, .ref 162)] [.int 1, .ref 162] h167x 0 0 _
                    refine wq_gos (f := 1) (pc2 := 208) (ls2 := [(1, .int (mHere tb sz (v2x))), (0, .ref 162)]) (st2 := [.int 3, .ref 162]) (h2 := h167x) (dc2 := 0) (ds2 := 0) 3 rfl ?_
                    refine wq_putf rfl e168x rfl rfl rfl ?_
                    intro h194x e195x f196x l197x
                    have e195x : zat h194x 162 = some (.inr (.inr (.inr (10, mO n0 n2 n14 (nI sz) (nI ((v2x) + 1)) (nI (v2x)) (3 : Int32) va ft fp n22 n23 n27 n28 n32 n33 n34 n35 n39 n52)))) := e195x
                    refine wq_gos (f := 1) (pc2 := 212) (ls2 := [(1, .int (mHere tb sz (v2x))), (0, .ref 162)]) (st2 := [.ref 162]) (h2 := h194x) (dc2 := 0) (ds2 := 0) 1 rfl ?_
                    refine wq_getf rfl e195x rfl rfl ?_
                    refine wq_gos (f := 1) (pc2 := 220) (ls2 := [(1, .int (mHere tb sz (v2x))), (0, .ref 162)]) (st2 := [.ref 162]) (h2 := h194x) (dc2 := 0) (ds2 := 0) 3 rfl ?_
                    have e198x := (f196x.2 _ _ (wnc (by decide) wn0) e182x)
                    refine wq_inlv (y2 := 160) (as := []) rfl rfl rfl e195x rfl (wq_mono (m_dig e195x e198x (by first | omega | assumption | decide | solve_by_elim) ⟨Nat.le_refl _, by omega⟩) ?_)
                    rintro _ ⟨h8199x, rfl, f8199x, l8199x, c0199x, p0199x, p1199x⟩
                    show wq 159 223 [(1, .int (mHere tb sz (v2x))), (0, .ref 162)] [] h8199x 0 0 _
                    obtain ⟨v200x, hv201x⟩ : ∃ x, x = (mDig tb sz ((v2x) + 1)) := ⟨_, rfl⟩
                    try rw [← hv201x] at c0199x
                    try rw [← hv201x] at p0199x
                    try rw [← hv201x] at p1199x
                    try rw [← hv201x]
                    refine wq_gos (f := 1) (pc2 := 224) (ls2 := [(1, .int (mHere tb sz (v2x))), (0, .ref 162)]) (st2 := [.ref 162]) (h2 := h8199x) (dc2 := 0) (ds2 := 0) 1 rfl ?_
                    refine wq_getf rfl c0199x rfl rfl ?_
                    refine wq_gos (f := 1) (pc2 := 233) (ls2 := [(1, .int (mHere tb sz (v2x))), (0, .ref 162)]) (st2 := [.ref 162, .ref 162]) (h2 := h8199x) (dc2 := 0) (ds2 := 0) 4 rfl ?_
                    refine wq_getf rfl c0199x rfl rfl ?_
                    refine wq_gos (f := 1) (pc2 := 237) (ls2 := [(1, .int (mHere tb sz (v2x))), (0, .ref 162)]) (st2 := [.int (-(v200x.2)), .ref 162]) (h2 := h8199x) (dc2 := 0) (ds2 := 0) 1 rfl ?_
                    refine wq_putf rfl c0199x rfl rfl rfl ?_
                    intro h202x e203x f204x l205x
                    have e203x : zat h202x 162 = some (.inr (.inr (.inr (10, mO n0 n2 n14 (nI sz) (nI (v200x.1)) (nI (v2x)) (3 : Int32) (-(v200x.2)) ft fp n22 n23 n27 n28 n32 n33 n34 n35 n39 n52)))) := e203x
                    have hx : (mTok tb sz at9 va) = ((v200x.1), (v2x), (3 : Int32), (-(v200x.2))) := by unfold mTok; rw [zlet_eq hv3x, if_pos b11x, if_neg (Int.not_lt.mpr b14x), if_pos b117x, if_neg (Int.not_lt.mpr b119x), if_pos b166x, if_pos b172x, if_neg (fun q => q b175x), if_neg (Int.not_lt.mpr b184x), if_neg (Int.not_lt.mpr b189x), zlet_eq hv201x]
                    rw [hx]
                    exact wq_ret rfl rfl ⟨h202x, rfl, (wFr_tr (wFr_sub f81x (by simp)) (wFr_tr (wFr_sub f6x (by simp)) (wFr_tr (wFr_sub f169x (by simp)) (wFr_tr (wFr_sub f196x (by simp)) (wFr_tr (wFr_sub f8199x (by simp)) (wFr_sub f204x (by simp))))))), by omega, e203x, (by first | ((try dsimp only); omega) | assumption), (by first | ((try dsimp only); omega) | assumption), (by first | ((try dsimp only); omega) | assumption), (by first | ((try dsimp only); omega) | assumption)⟩
            · have q206x : (mHere tb sz (v2x)).toInt = 59 := congrArg Int32.toInt b172x
              refine wq_gos (f := 1) (pc2 := 208) (ls2 := [(1, .int (mHere tb sz (v2x))), (0, .ref 162)]) (st2 := [.int 4, .ref 162]) (h2 := h167x) (dc2 := 0) (ds2 := 0) 2 rfl ?_
              refine wq_putf rfl e168x rfl rfl rfl ?_
              intro h207x e208x f209x l210x
              have e208x : zat h207x 162 = some (.inr (.inr (.inr (10, mO n0 n2 n14 (nI sz) (nI ((v2x) + 1)) (nI (v2x)) (4 : Int32) va ft fp n22 n23 n27 n28 n32 n33 n34 n35 n39 n52)))) := e208x
              refine wq_gos (f := 1) (pc2 := 212) (ls2 := [(1, .int (mHere tb sz (v2x))), (0, .ref 162)]) (st2 := [.ref 162]) (h2 := h207x) (dc2 := 0) (ds2 := 0) 1 rfl ?_
              refine wq_getf rfl e208x rfl rfl ?_
              refine wq_gos (f := 1) (pc2 := 224) (ls2 := [(1, .int (mHere tb sz (v2x))), (0, .ref 162)]) (st2 := [.ref 162]) (h2 := h207x) (dc2 := 0) (ds2 := 0) 3 rfl ?_
              refine wq_getf rfl e208x rfl rfl ?_
              refine wq_gos (f := 1) (pc2 := 240) (ls2 := [(1, .int (mHere tb sz (v2x))), (0, .ref 162)]) (st2 := []) (h2 := h207x) (dc2 := 0) (ds2 := 0) 2 rfl ?_
              have hx : (mTok tb sz at9 va) = (((v2x) + 1), (v2x), (4 : Int32), va) := by unfold mTok; rw [zlet_eq hv3x, if_pos b11x, if_neg (Int.not_lt.mpr b14x), if_pos b117x, if_neg (Int.not_lt.mpr b119x), if_pos b166x, if_neg (fun q => q b172x)]
              rw [hx]
              exact wq_ret rfl rfl ⟨h207x, rfl, (wFr_tr (wFr_sub f81x (by simp)) (wFr_tr (wFr_sub f6x (by simp)) (wFr_tr (wFr_sub f169x (by simp)) (wFr_sub f209x (by simp))))), by omega, e208x, (by first | ((try dsimp only); omega) | assumption), (by first | ((try dsimp only); omega) | assumption), (by first | ((try dsimp only); omega) | assumption), (by first | ((try dsimp only); omega) | assumption)⟩
          · refine wq_gos (f := 1) (pc2 := 17) (ls2 := [(0, .int (mHere tb sz (v2x)))]) (st2 := [.int 1]) (h2 := h4x) (dc2 := 0) (ds2 := 0) 2 rfl ?_
            refine wq_ret rfl rfl ?_
            show wq 159 150 [(1, .int (mHere tb sz (v2x))), (0, .ref 162)] [.int 1] h4x 0 0 _
            refine wq_gos (f := 1) (pc2 := 155) (ls2 := [(1, .int (mHere tb sz (v2x))), (0, .ref 162)]) (st2 := [.int 2, .ref 162]) (h2 := h4x) (dc2 := 0) (ds2 := 0) 3 rfl ?_
            refine wq_putf rfl e5x rfl rfl rfl ?_
            intro h211x e212x f213x l214x
            have e212x : zat h211x 162 = some (.inr (.inr (.inr (10, mO n0 n2 n14 (nI sz) (nI (v2x)) (nI (v2x)) (2 : Int32) va ft fp n22 n23 n27 n28 n32 n33 n34 n35 n39 n52)))) := e212x
            refine wq_gos (f := 1) (pc2 := 159) (ls2 := [(1, .int (mHere tb sz (v2x))), (0, .ref 162)]) (st2 := [.ref 162]) (h2 := h211x) (dc2 := 0) (ds2 := 0) 1 rfl ?_
            have e215x := (f213x.2 _ _ (wnc (by decide) wn0) e8x)
            refine wq_inlv (y2 := 160) (as := []) rfl rfl rfl e212x rfl (wq_mono (m_dig e212x e215x (by first | omega | assumption | decide | solve_by_elim) ⟨Nat.le_refl _, by omega⟩) ?_)
            rintro _ ⟨h8216x, rfl, f8216x, l8216x, c0216x, p0216x, p1216x⟩
            show wq 159 162 [(1, .int (mHere tb sz (v2x))), (0, .ref 162)] [] h8216x 0 0 _
            obtain ⟨v217x, hv218x⟩ : ∃ x, x = (mDig tb sz (v2x)) := ⟨_, rfl⟩
            try rw [← hv218x] at c0216x
            try rw [← hv218x] at p0216x
            try rw [← hv218x] at p1216x
            try rw [← hv218x]
            refine wq_gos (f := 1) (pc2 := 240) (ls2 := [(1, .int (mHere tb sz (v2x))), (0, .ref 162)]) (st2 := []) (h2 := h8216x) (dc2 := 0) (ds2 := 0) 1 rfl ?_
            have hx : (mTok tb sz at9 va) = ((v217x.1), (v2x), (2 : Int32), (v217x.2)) := by unfold mTok; rw [zlet_eq hv3x, if_pos b11x, if_neg (Int.not_lt.mpr b14x), if_pos b117x, if_neg (Int.not_lt.mpr b119x), if_neg (Int.not_lt.mpr b166x), zlet_eq hv218x]
            rw [hx]
            exact wq_ret rfl rfl ⟨h8216x, rfl, (wFr_tr (wFr_sub f81x (by simp)) (wFr_tr (wFr_sub f6x (by simp)) (wFr_tr (wFr_sub f213x (by simp)) (wFr_sub f8216x (by simp))))), by omega, c0216x, (by first | ((try dsimp only); omega) | assumption), (by first | ((try dsimp only); omega) | assumption), (by first | ((try dsimp only); omega) | assumption), (by first | ((try dsimp only); omega) | assumption)⟩
      · refine wq_gos (f := 1) (pc2 := 17) (ls2 := [(0, .int (mHere tb sz (v2x)))]) (st2 := [.int 1]) (h2 := h4x) (dc2 := 0) (ds2 := 0) 2 rfl ?_
        refine wq_ret rfl rfl ?_
        show wq 159 61 [(1, .int (mHere tb sz (v2x))), (0, .ref 162)] [.int 1] h4x 0 0 _
        refine wq_gos (f := 1) (pc2 := 64) (ls2 := [(1, .int (mHere tb sz (v2x))), (0, .ref 162)]) (st2 := []) (h2 := h4x) (dc2 := 0) (ds2 := 0) 1 rfl ?_
        refine wq_ls [(0, .ref 162), (1, .int (mHere tb sz (v2x)))] (show ([0, 1] : List Nat).Nodup by decide) ⟨rfl, rfl, trivial⟩ ?_
        refine m_smL (by first | omega | assumption | decide | solve_by_elim) ((sz - (v2x)) + 1) (v2x) h4x e5x e8x ⟨Nat.le_refl _, by omega⟩ (by omega) ?_
        intro h8219x f8219x l8219x c0219x p0219x p1219x
        obtain ⟨v220x, hv221x⟩ : ∃ x, x = (msmF tb sz ((sz - (v2x)) + 1) (v2x)) := ⟨_, rfl⟩
        try rw [← hv221x] at c0219x
        try rw [← hv221x] at p0219x
        try rw [← hv221x] at p1219x
        try rw [← hv221x]
        show wq 159 87 [(0, .ref 162), (1, .int (mHere tb sz (v2x)))] [] h8219x 0 0 _
        refine wq_gos (f := 1) (pc2 := 89) (ls2 := [(0, .ref 162), (1, .int (mHere tb sz (v2x)))]) (st2 := [.ref 162, .ref 162]) (h2 := h8219x) (dc2 := 0) (ds2 := 0) 2 rfl ?_
        have e222x := (f8219x.2 _ _ (wnc (by decide) wn0) e8x)
        refine wq_inlv (y2 := 161) (as := []) rfl rfl rfl c0219x rfl (wq_mono (m_wrd c0219x e222x (by first | omega | assumption | decide | solve_by_elim) (by first | omega | assumption | decide | solve_by_elim) (by first | omega | assumption | decide | solve_by_elim)) ?_)
        rintro _ rfl
        show wq 159 92 [(0, .ref 162), (1, .int (mHere tb sz (v2x)))] [.int (mWrd tb (v220x) (v2x)), .ref 162] h8219x 0 0 _
        refine wq_putf rfl c0219x rfl rfl rfl ?_
        intro h224x e225x f226x l227x
        have e225x : zat h224x 162 = some (.inr (.inr (.inr (10, mO n0 n2 n14 (nI sz) (nI (v220x)) (nI (v2x)) so (mWrd tb (v220x) (v2x)) ft fp n22 n23 n27 n28 n32 n33 n34 n35 n39 n52)))) := e225x
        refine wq_gos (f := 1) (pc2 := 97) (ls2 := [(0, .ref 162), (1, .int (mHere tb sz (v2x)))]) (st2 := [.ref 162, .ref 162]) (h2 := h224x) (dc2 := 0) (ds2 := 0) 2 rfl ?_
        refine wq_getf rfl e225x rfl rfl ?_
        refine wq_gos (f := 1) (pc2 := 101) (ls2 := [(0, .ref 162), (1, .int (mHere tb sz (v2x)))]) (st2 := [.int (-1), .int (mWrd tb (v220x) (v2x)), .ref 162]) (h2 := h224x) (dc2 := 0) (ds2 := 0) 1 rfl ?_
        refine wq_eq2 rfl rfl (fun b228x => ?_) (fun b228x => ?_)
        · have q229x : (mWrd tb (v220x) (v2x)).toInt = -1 := congrArg Int32.toInt b228x
          refine wq_gos (f := 1) (pc2 := 109) (ls2 := [(0, .ref 162), (1, .int (mHere tb sz (v2x)))]) (st2 := [.ref 162, .ref 162]) (h2 := h224x) (dc2 := 0) (ds2 := 0) 1 rfl ?_
          refine wq_getf rfl e225x rfl rfl ?_
          refine wq_gos (f := 1) (pc2 := 113) (ls2 := [(0, .ref 162), (1, .int (mHere tb sz (v2x)))]) (st2 := [.ref 162, .int (nI (v220x)), .ref 162]) (h2 := h224x) (dc2 := 0) (ds2 := 0) 1 rfl ?_
          refine wq_getf rfl e225x rfl rfl ?_
          refine wq_gos (f := 1) (pc2 := 119) (ls2 := [(0, .ref 162), (1, .int (mHere tb sz (v2x)))]) (st2 := [.int 6, .int ((nI (v220x)) - (nI (v2x))), .ref 162]) (h2 := h224x) (dc2 := 0) (ds2 := 0) 2 rfl ?_
          try have q230x := nI_toInt (n := (v220x)) (by omega)
          try have q231x := nI_toInt (n := (v2x)) (by omega)
          try have q232x : (((nI (v220x)) - (nI (v2x)))).toInt = (nI (v220x)).toInt - (nI (v2x)).toInt := e_sub (by omega) (by omega)
          have q233x : (6 : Int32).toInt = 6 := rfl
          refine wq_le2 rfl rfl (fun b234x => ?_) (fun b234x => ?_)
          · refine wq_gos (f := 1) (pc2 := 128) (ls2 := [(0, .ref 162), (1, .int (mHere tb sz (v2x)))]) (st2 := [.int 1, .ref 162]) (h2 := h224x) (dc2 := 0) (ds2 := 0) 1 rfl ?_
            refine wq_putf rfl e225x rfl rfl rfl ?_
            intro h235x e236x f237x l238x
            have e236x : zat h235x 162 = some (.inr (.inr (.inr (10, mO n0 n2 n14 (nI sz) (nI (v220x)) (nI (v2x)) (1 : Int32) (mWrd tb (v220x) (v2x)) ft fp n22 n23 n27 n28 n32 n33 n34 n35 n39 n52)))) := e236x
            refine wq_gos (f := 1) (pc2 := 132) (ls2 := [(0, .ref 162), (1, .int (mHere tb sz (v2x)))]) (st2 := [.ref 162]) (h2 := h235x) (dc2 := 0) (ds2 := 0) 1 rfl ?_
            refine wq_getf rfl e236x rfl rfl ?_
            refine wq_gos (f := 1) (pc2 := 140) (ls2 := [(0, .ref 162), (1, .int (mHere tb sz (v2x)))]) (st2 := [.ref 162]) (h2 := h235x) (dc2 := 0) (ds2 := 0) 3 rfl ?_
            have e239x := (f237x.2 _ _ (wnc (by decide) wn0) (f226x.2 _ _ (wnc (by decide) wn0) e222x))
            refine wq_inlv (y2 := 162) (as := []) rfl rfl rfl e236x rfl (wq_mono (m_nam e236x e239x (by first | omega | assumption | decide | solve_by_elim) (by first | omega | assumption | decide | solve_by_elim) (by first | omega | assumption | decide | solve_by_elim)) ?_)
            rintro _ ⟨h8240x, rfl, f8240x, l8240x, c0240x⟩
            show wq 159 143 [(0, .ref 162), (1, .int (mHere tb sz (v2x)))] [] h8240x 0 0 _
            obtain ⟨v241x, hv242x⟩ : ∃ x, x = (mNam tb (v220x) (v2x)) := ⟨_, rfl⟩
            try rw [← hv242x] at c0240x
            try rw [← hv242x]
            refine wq_gos (f := 1) (pc2 := 240) (ls2 := [(0, .ref 162), (1, .int (mHere tb sz (v2x)))]) (st2 := []) (h2 := h8240x) (dc2 := 0) (ds2 := 0) 1 rfl ?_
            have hx : (mTok tb sz at9 va) = ((v220x), (v2x), (1 : Int32), (v241x)) := by unfold mTok; rw [zlet_eq hv3x, if_pos b11x, if_neg (Int.not_lt.mpr b14x), if_neg (Int.not_lt.mpr b117x), zlet_eq hv221x, if_pos b228x, if_pos b234x, zlet_eq hv242x]
            rw [hx]
            exact wq_ret rfl rfl ⟨h8240x, rfl, (wFr_tr (wFr_sub f81x (by simp)) (wFr_tr (wFr_sub f6x (by simp)) (wFr_tr (wFr_sub f8219x (by simp)) (wFr_tr (wFr_sub f226x (by simp)) (wFr_tr (wFr_sub f237x (by simp)) (wFr_sub f8240x (by simp))))))), by omega, c0240x, (by first | ((try dsimp only); omega) | assumption), (by first | ((try dsimp only); omega) | assumption), (by first | ((try dsimp only); omega) | assumption), (by first | ((try dsimp only); omega) | assumption)⟩
          · refine wq_gos (f := 1) (pc2 := 128) (ls2 := [(0, .ref 162), (1, .int (mHere tb sz (v2x)))]) (st2 := [.int 6, .ref 162]) (h2 := h224x) (dc2 := 0) (ds2 := 0) 2 rfl ?_
            refine wq_putf rfl e225x rfl rfl rfl ?_
            intro h243x e244x f245x l246x
            have e244x : zat h243x 162 = some (.inr (.inr (.inr (10, mO n0 n2 n14 (nI sz) (nI (v220x)) (nI (v2x)) (6 : Int32) (mWrd tb (v220x) (v2x)) ft fp n22 n23 n27 n28 n32 n33 n34 n35 n39 n52)))) := e244x
            refine wq_gos (f := 1) (pc2 := 132) (ls2 := [(0, .ref 162), (1, .int (mHere tb sz (v2x)))]) (st2 := [.ref 162]) (h2 := h243x) (dc2 := 0) (ds2 := 0) 1 rfl ?_
            refine wq_getf rfl e244x rfl rfl ?_
            refine wq_gos (f := 1) (pc2 := 240) (ls2 := [(0, .ref 162), (1, .int (mHere tb sz (v2x)))]) (st2 := []) (h2 := h243x) (dc2 := 0) (ds2 := 0) 2 rfl ?_
            have hx : (mTok tb sz at9 va) = ((v220x), (v2x), (6 : Int32), (mWrd tb (v220x) (v2x))) := by unfold mTok; rw [zlet_eq hv3x, if_pos b11x, if_neg (Int.not_lt.mpr b14x), if_neg (Int.not_lt.mpr b117x), zlet_eq hv221x, if_pos b228x, if_neg (Int.not_le.mpr b234x)]
            rw [hx]
            exact wq_ret rfl rfl ⟨h243x, rfl, (wFr_tr (wFr_sub f81x (by simp)) (wFr_tr (wFr_sub f6x (by simp)) (wFr_tr (wFr_sub f8219x (by simp)) (wFr_tr (wFr_sub f226x (by simp)) (wFr_sub f245x (by simp)))))), by omega, e244x, (by first | ((try dsimp only); omega) | assumption), (by first | ((try dsimp only); omega) | assumption), (by first | ((try dsimp only); omega) | assumption), (by first | ((try dsimp only); omega) | assumption)⟩
        · have q247x : (mWrd tb (v220x) (v2x)).toInt ≠ -1 := fun q => b228x (Int32.toInt_inj.mp q)
          refine wq_gos (f := 1) (pc2 := 128) (ls2 := [(0, .ref 162), (1, .int (mHere tb sz (v2x)))]) (st2 := [.int 0, .ref 162]) (h2 := h224x) (dc2 := 0) (ds2 := 0) 2 rfl ?_
          refine wq_putf rfl e225x rfl rfl rfl ?_
          intro h248x e249x f250x l251x
          have e249x : zat h248x 162 = some (.inr (.inr (.inr (10, mO n0 n2 n14 (nI sz) (nI (v220x)) (nI (v2x)) (0 : Int32) (mWrd tb (v220x) (v2x)) ft fp n22 n23 n27 n28 n32 n33 n34 n35 n39 n52)))) := e249x
          refine wq_gos (f := 1) (pc2 := 132) (ls2 := [(0, .ref 162), (1, .int (mHere tb sz (v2x)))]) (st2 := [.ref 162]) (h2 := h248x) (dc2 := 0) (ds2 := 0) 1 rfl ?_
          refine wq_getf rfl e249x rfl rfl ?_
          refine wq_gos (f := 1) (pc2 := 240) (ls2 := [(0, .ref 162), (1, .int (mHere tb sz (v2x)))]) (st2 := []) (h2 := h248x) (dc2 := 0) (ds2 := 0) 2 rfl ?_
          have hx : (mTok tb sz at9 va) = ((v220x), (v2x), (0 : Int32), (mWrd tb (v220x) (v2x))) := by unfold mTok; rw [zlet_eq hv3x, if_pos b11x, if_neg (Int.not_lt.mpr b14x), if_neg (Int.not_lt.mpr b117x), zlet_eq hv221x, if_neg b228x]
          rw [hx]
          exact wq_ret rfl rfl ⟨h248x, rfl, (wFr_tr (wFr_sub f81x (by simp)) (wFr_tr (wFr_sub f6x (by simp)) (wFr_tr (wFr_sub f8219x (by simp)) (wFr_tr (wFr_sub f226x (by simp)) (wFr_sub f250x (by simp)))))), by omega, e249x, (by first | ((try dsimp only); omega) | assumption), (by first | ((try dsimp only); omega) | assumption), (by first | ((try dsimp only); omega) | assumption), (by first | ((try dsimp only); omega) | assumption)⟩
  · have q252x : (mHere tb sz (v2x)).toInt = -1 := congrArg Int32.toInt b11x
    refine wq_gos (f := 1) (pc2 := 51) (ls2 := [(1, .int (mHere tb sz (v2x))), (0, .ref 162)]) (st2 := [.int 5, .ref 162]) (h2 := h4x) (dc2 := 0) (ds2 := 0) 2 rfl ?_
    refine wq_putf rfl e5x rfl rfl rfl ?_
    intro h253x e254x f255x l256x
    have e254x : zat h253x 162 = some (.inr (.inr (.inr (10, mO n0 n2 n14 (nI sz) (nI (v2x)) (nI (v2x)) (5 : Int32) va ft fp n22 n23 n27 n28 n32 n33 n34 n35 n39 n52)))) := e254x
    refine wq_gos (f := 1) (pc2 := 240) (ls2 := [(1, .int (mHere tb sz (v2x))), (0, .ref 162)]) (st2 := []) (h2 := h253x) (dc2 := 0) (ds2 := 0) 1 rfl ?_
    have hx : (mTok tb sz at9 va) = ((v2x), (v2x), (5 : Int32), va) := by unfold mTok; rw [zlet_eq hv3x, if_neg (fun q => q b11x)]
    rw [hx]
    exact wq_ret rfl rfl ⟨h253x, rfl, (wFr_tr (wFr_sub f81x (by simp)) (wFr_tr (wFr_sub f6x (by simp)) (wFr_sub f255x (by simp)))), by omega, e254x, (by first | ((try dsimp only); omega) | assumption), (by first | ((try dsimp only); omega) | assumption), (by first | ((try dsimp only); omega) | assumption), (by first | ((try dsimp only); omega) | assumption)⟩
