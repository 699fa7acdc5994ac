/-! The reference: limits, speeds, spots, ways. -/
noncomputable def mRdJ (tb : List Int32) (sz at9 pl : Nat) (so va ft fp : Int32) (hd : List Int32) : Int32 × Int32 × Int32 × Nat × Nat × Int32 × Int32 × List Int32 := (zlet (mGo tb sz at9 pl so va ft) (fun v2x => (zlet (mAtH (v2x.2.1) (v2x.2.2.1) (v2x.2.2.2) ft fp (0 : Int32) (0 : Int32) (5 : Int32)) (fun v7x => (if (v7x.2.1) ≠ (0 : Int32) then (if (v7x.2.1) ≠ (0 : Int32) then (zlet (mGo tb sz (v2x.1) (v2x.2.1) (v2x.2.2.1) (v2x.2.2.2) (v7x.2.1)) (fun v15x => ((v7x.1), (v7x.2.1), (v7x.2.2), (v15x.1), (v15x.2.1), (v15x.2.2.1), (v15x.2.2.2), hd))) else (zlet (mGo tb sz (v2x.1) (v2x.2.1) (v2x.2.2.1) (v2x.2.2.2) (v7x.2.1)) (fun v27x => ((v7x.1), (v7x.2.1), (v7x.2.2), (v27x.1), (v27x.2.1), (v27x.2.2.1), (v27x.2.2.2), (zset 0 hd ((v7x.1)).toNatClampNeg (vp_nar .boolean (1 : Int32))))))) else (if (hd.getD ((v7x.1)).toNatClampNeg 0) = (0 : Int32) then (if (v7x.2.1) ≠ (0 : Int32) then (zlet (mGo tb sz (v2x.1) (v2x.2.1) (v2x.2.2.1) (v2x.2.2.2) (v7x.2.1)) (fun v38x => ((v7x.1), (v7x.2.1), (v7x.2.2), (v38x.1), (v38x.2.1), (v38x.2.2.1), (v38x.2.2.2), hd))) else (zlet (mGo tb sz (v2x.1) (v2x.2.1) (v2x.2.2.1) (v2x.2.2.2) (v7x.2.1)) (fun v49x => ((v7x.1), (v7x.2.1), (v7x.2.2), (v49x.1), (v49x.2.1), (v49x.2.2.1), (v49x.2.2.2), (zset 0 hd ((v7x.1)).toNatClampNeg (vp_nar .boolean (1 : Int32))))))) else (zlet (mWro (v2x.2.1) (v7x.2.1) (v7x.2.2) (3 : Int32)) (fun v55x => (if (v55x.1) ≠ (0 : Int32) then (zlet (mGo tb sz (v2x.1) (v2x.2.1) (v2x.2.2.1) (v2x.2.2.2) (v55x.1)) (fun v61x => ((v7x.1), (v55x.1), (v55x.2), (v61x.1), (v61x.2.1), (v61x.2.2.1), (v61x.2.2.2), hd))) else (zlet (mGo tb sz (v2x.1) (v2x.2.1) (v2x.2.2.1) (v2x.2.2.2) (v55x.1)) (fun v73x => ((v7x.1), (v55x.1), (v55x.2), (v73x.1), (v73x.2.1), (v73x.2.2.1), (v73x.2.2.2), (zset 0 hd ((v7x.1)).toNatClampNeg (vp_nar .boolean (1 : Int32)))))))))))))))
set_option maxRecDepth 100000 in
set_option maxHeartbeats 4000000 in
theorem m_rdJ {h : zH} {n0 n2 n14 n22 n23 n27 n28 n32 n33 n34 n35 n39 n52 : Int32} {sz at9 pl : Nat} {so va ft fp : Int32} {tb : List Int32} {a0 : Nat} {rq : Nat} {hd : List Int32} (hM : zat h 162 = some (.inr (.inr (.inr (10, mO n0 n2 n14 (nI sz) (nI at9) (nI pl) so va ft fp n22 n23 n27 n28 n32 n33 n34 n35 n39 n52))))) (hT : zat h 164 = some (.inl (0, 700, tb))) (hHd : zat h rq = some (.inl (2, 6, hd))) (hsz : sz ≤ 700) (ha : a0 ≤ at9 ∧ at9 ≤ sz) (hp : pl ≤ at9) (hf0 : 0 ≤ ft.toInt) (hrq : 164 < rq) : wq 173 0 [(0, .ref 162), (1, .ref rq)] [] h 0 0 (fun rr9 => ∃ (h2 : zH), rr9 = (some (.int ((mRdJ tb sz at9 pl so va ft fp hd).1)), h2, 0, 0) ∧ wFr [162, rq] h h2 ∧ h2.length = h.length ∧ zat h2 162 = some (.inr (.inr (.inr (10, mO n0 n2 n14 (nI sz) (nI ((mRdJ tb sz at9 pl so va ft fp hd).2.2.2.1)) (nI ((mRdJ tb sz at9 pl so va ft fp hd).2.2.2.2.1)) ((mRdJ tb sz at9 pl so va ft fp hd).2.2.2.2.2.1) ((mRdJ tb sz at9 pl so va ft fp hd).2.2.2.2.2.2.1) ((mRdJ tb sz at9 pl so va ft fp hd).2.1) ((mRdJ tb sz at9 pl so va ft fp hd).2.2.1) n22 n23 n27 n28 n32 n33 n34 n35 n39 n52)))) ∧ zat h2 rq = some (.inl (2, 6, ((mRdJ tb sz at9 pl so va ft fp hd).2.2.2.2.2.2.2))) ∧ ((a0 ≤ ((mRdJ tb sz at9 pl so va ft fp hd).2.2.2.1))) ∧ ((((mRdJ tb sz at9 pl so va ft fp hd).2.2.2.1) ≤ sz)) ∧ ((((mRdJ tb sz at9 pl so va ft fp hd).2.2.2.2.1) ≤ ((mRdJ tb sz at9 pl so va ft fp hd).2.2.2.1))) ∧ ((0 ≤ (((mRdJ tb sz at9 pl so va ft fp hd).2.1)).toInt)) ∧ ((((((mRdJ tb sz at9 pl so va ft fp hd).2.1)).toInt ≠ 0 ∨ (((mRdJ tb sz at9 pl so va ft fp hd).2.2.2.2.2.1)).toInt ≠ 4 ∨ a0 < ((mRdJ tb sz at9 pl so va ft fp hd).2.2.2.1)))) ∧ ((0 ≤ (((mRdJ tb sz at9 pl so va ft fp hd).1)).toInt ∧ (((mRdJ tb sz at9 pl so va ft fp hd).1)).toInt ≤ 5))) := by
  have zm1 : (-1 : Int32).toInt = -1 := rfl
  have z0 : (0 : Int32).toInt = 0 := rfl
  have z1 : (1 : Int32).toInt = 1 := rfl
  have z2 : (2 : Int32).toInt = 2 := rfl
  have z3 : (3 : Int32).toInt = 3 := rfl
  have z4 : (4 : Int32).toInt = 4 := rfl
  have z5 : (5 : Int32).toInt = 5 := rfl
  have z6 : (6 : Int32).toInt = 6 := rfl
  have z8 : (8 : Int32).toInt = 8 := rfl
  have z9 : (9 : Int32).toInt = 9 := rfl
  have z10 : (10 : Int32).toInt = 10 := rfl
  have z32 : (32 : Int32).toInt = 32 := rfl
  have z99 : (99 : Int32).toInt = 99 := rfl
  have z99999 : (99999 : Int32).toInt = 99999 := rfl
  refine wq_gos (f := 1) (pc2 := 1) (ls2 := [(0, .ref 162), (1, .ref rq)]) (st2 := [.ref 162]) (h2 := h) (dc2 := 0) (ds2 := 0) 1 rfl ?_
  refine wq_inlv (y2 := 164) (as := []) rfl rfl rfl hM rfl (wq_mono (m_go hM hT (by first | assumption | omega | decide | solve_by_elim) ⟨Nat.le_refl _, by omega⟩ (by first | assumption | omega | decide | solve_by_elim)) ?_)
  rintro _ ⟨h81x, rfl, f81x, l81x, c01x, p01x, p11x, p21x, p31x⟩
  show wq 173 4 [(0, .ref 162), (1, .ref rq)] [] h81x 0 0 _
  obtain ⟨v2x, hv3x⟩ : ∃ x, x = (mGo tb sz at9 pl so va ft) := ⟨_, rfl⟩
  try rw [← hv3x] at c01x
  try rw [← hv3x] at p01x
  try rw [← hv3x] at p11x
  try rw [← hv3x] at p21x
  try rw [← hv3x] at p31x
  try rw [← hv3x]
  refine wq_gos (f := 1) (pc2 := 8) (ls2 := [(0, .ref 162), (1, .ref rq)]) (st2 := [.int 5, .int 0, .int 0, .ref 162]) (h2 := h81x) (dc2 := 0) (ds2 := 0) 4 rfl ?_
  have q4x : (0 : Int32).toInt = 0 := rfl
  have q5x : (5 : Int32).toInt = 5 := rfl
  refine wq_inlv (y2 := 165) (as := [.int 0, .int 0, .int 5]) rfl rfl rfl c01x rfl (wq_mono (m_atH c01x (by first | assumption | omega | decide | solve_by_elim)) ?_)
  rintro _ ⟨h86x, rfl, f86x, l86x, c06x, p06x, p16x⟩
  show wq 173 11 [(0, .ref 162), (1, .ref rq)] [.int ((mAtH (v2x.2.1) (v2x.2.2.1) (v2x.2.2.2) ft fp (0 : Int32) (0 : Int32) (5 : Int32)).1)] h86x 0 0 _
  obtain ⟨v7x, hv8x⟩ : ∃ x, x = (mAtH (v2x.2.1) (v2x.2.2.1) (v2x.2.2.2) ft fp (0 : Int32) (0 : Int32) (5 : Int32)) := ⟨_, rfl⟩
  try rw [← hv8x] at c06x
  try rw [← hv8x] at p06x
  try rw [← hv8x] at p16x
  try rw [← hv8x]
  refine wq_gos (f := 1) (pc2 := 13) (ls2 := [(2, .int (v7x.1)), (0, .ref 162), (1, .ref rq)]) (st2 := [.ref 162]) (h2 := h86x) (dc2 := 0) (ds2 := 0) 2 rfl ?_
  refine wq_getf rfl c06x rfl rfl ?_
  refine wq_ne0 rfl rfl (fun b9x => ?_) (fun b9x => ?_)
  · have q10x : (v7x.2.1).toInt ≠ 0 := fun q => b9x (Int32.toInt_inj.mp q)
    refine wq_gos (f := 1) (pc2 := 31) (ls2 := [(2, .int (v7x.1)), (0, .ref 162), (1, .ref rq)]) (st2 := [.ref 162]) (h2 := h86x) (dc2 := 0) (ds2 := 0) 1 rfl ?_
    refine wq_getf rfl c06x rfl rfl ?_
    refine wq_ne0 rfl rfl (fun b11x => ?_) (fun b11x => ?_)
    · have q12x : (v7x.2.1).toInt ≠ 0 := fun q => b11x (Int32.toInt_inj.mp q)
      refine wq_gos (f := 1) (pc2 := 42) (ls2 := [(2, .int (v7x.1)), (0, .ref 162), (1, .ref rq)]) (st2 := [.ref 162]) (h2 := h86x) (dc2 := 0) (ds2 := 0) 1 rfl ?_
      have e13x := (f86x.2 _ _ (wnc (by decide) wn0) (f81x.2 _ _ (wnc (by decide) wn0) hT))
      refine wq_inlv (y2 := 164) (as := []) rfl rfl rfl c06x rfl (wq_mono (m_go c06x e13x (by first | assumption | omega | decide | solve_by_elim) ⟨Nat.le_refl _, by omega⟩ (by first | assumption | omega | decide | solve_by_elim)) ?_)
      rintro _ ⟨h814x, rfl, f814x, l814x, c014x, p014x, p114x, p214x, p314x⟩
      show wq 173 45 [(2, .int (v7x.1)), (0, .ref 162), (1, .ref rq)] [] h814x 0 0 _
      obtain ⟨v15x, hv16x⟩ : ∃ x, x = (mGo tb sz (v2x.1) (v2x.2.1) (v2x.2.2.1) (v2x.2.2.2) (v7x.2.1)) := ⟨_, rfl⟩
      try rw [← hv16x] at c014x
      try rw [← hv16x] at p014x
      try rw [← hv16x] at p114x
      try rw [← hv16x] at p214x
      try rw [← hv16x] at p314x
      try rw [← hv16x]
      refine wq_gos (f := 1) (pc2 := 46) (ls2 := [(2, .int (v7x.1)), (0, .ref 162), (1, .ref rq)]) (st2 := [.int (v7x.1)]) (h2 := h814x) (dc2 := 0) (ds2 := 0) 1 rfl ?_
      have e17x := (f814x.2 _ _ (wnc (by omega) wn0) (f86x.2 _ _ (wnc (by omega) wn0) (f81x.2 _ _ (wnc (by omega) wn0) hHd)))
      have hx : (mRdJ tb sz at9 pl so va ft fp hd) = ((v7x.1), (v7x.2.1), (v7x.2.2), (v15x.1), (v15x.2.1), (v15x.2.2.1), (v15x.2.2.2), hd) := by unfold mRdJ; rw [zlet_eq hv3x, zlet_eq hv8x, if_pos b9x, if_pos b11x, zlet_eq hv16x]
      rw [hx]
      exact wq_ret rfl rfl ⟨h814x, rfl, (wFr_tr (wFr_sub f81x (by simp)) (wFr_tr (wFr_sub f86x (by simp)) (wFr_sub f814x (by simp)))), by omega, c014x, e17x, (by (try dsimp only); first | assumption | omega | (intro q9; first | assumption | omega)), (by (try dsimp only); first | assumption | omega | (intro q9; first | assumption | omega)), (by (try dsimp only); first | assumption | omega | (intro q9; first | assumption | omega)), (by (try dsimp only); first | assumption | omega | (intro q9; first | assumption | omega)), (by (try dsimp only); first | assumption | omega | (intro q9; first | assumption | omega)), (by (try dsimp only); first | assumption | omega | (intro q9; first | assumption | omega))⟩
    · have q18x : (v7x.2.1).toInt = 0 := congrArg Int32.toInt b11x
      refine wq_gos (f := 1) (pc2 := 40) (ls2 := [(2, .int (v7x.1)), (0, .ref 162), (1, .ref rq)]) (st2 := [.int 1, .int (v7x.1), .ref rq]) (h2 := h86x) (dc2 := 0) (ds2 := 0) 3 rfl ?_
      have e19x := (f86x.2 _ _ (wnc (by omega) wn0) (f81x.2 _ _ (wnc (by omega) wn0) hHd))
      refine wq_bastz rfl e19x (by first | omega | exact zin_t (by omega) (by omega)) rfl ?_
      intro hh20x e21x ff22x lh23x
      have e21x : zat hh20x rq = some (.inl (2, 6, (zset 0 hd ((v7x.1)).toNatClampNeg (vp_nar .boolean (1 : Int32))))) := e21x
      refine wq_gos (f := 1) (pc2 := 42) (ls2 := [(2, .int (v7x.1)), (0, .ref 162), (1, .ref rq)]) (st2 := [.ref 162]) (h2 := hh20x) (dc2 := 0) (ds2 := 0) 1 rfl ?_
      have e24x := (ff22x.2 _ _ (wnc (by omega) wn0) c06x)
      have e25x := (ff22x.2 _ _ (wnc (by omega) wn0) (f86x.2 _ _ (wnc (by decide) wn0) (f81x.2 _ _ (wnc (by decide) wn0) hT)))
      refine wq_inlv (y2 := 164) (as := []) rfl rfl rfl e24x rfl (wq_mono (m_go e24x e25x (by first | assumption | omega | decide | solve_by_elim) ⟨Nat.le_refl _, by omega⟩ (by first | assumption | omega | decide | solve_by_elim)) ?_)
      rintro _ ⟨h826x, rfl, f826x, l826x, c026x, p026x, p126x, p226x, p326x⟩
      show wq 173 45 [(2, .int (v7x.1)), (0, .ref 162), (1, .ref rq)] [] h826x 0 0 _
      obtain ⟨v27x, hv28x⟩ : ∃ x, x = (mGo tb sz (v2x.1) (v2x.2.1) (v2x.2.2.1) (v2x.2.2.2) (v7x.2.1)) := ⟨_, rfl⟩
      try rw [← hv28x] at c026x
      try rw [← hv28x] at p026x
      try rw [← hv28x] at p126x
      try rw [← hv28x] at p226x
      try rw [← hv28x] at p326x
      try rw [← hv28x]
      refine wq_gos (f := 1) (pc2 := 46) (ls2 := [(2, .int (v7x.1)), (0, .ref 162), (1, .ref rq)]) (st2 := [.int (v7x.1)]) (h2 := h826x) (dc2 := 0) (ds2 := 0) 1 rfl ?_
      have e29x := (f826x.2 _ _ (wnc (by omega) wn0) e21x)
      have hx : (mRdJ tb sz at9 pl so va ft fp hd) = ((v7x.1), (v7x.2.1), (v7x.2.2), (v27x.1), (v27x.2.1), (v27x.2.2.1), (v27x.2.2.2), (zset 0 hd ((v7x.1)).toNatClampNeg (vp_nar .boolean (1 : Int32)))) := by unfold mRdJ; rw [zlet_eq hv3x, zlet_eq hv8x, if_pos b9x, if_neg (fun q => q b11x), zlet_eq hv28x]
      rw [hx]
      exact wq_ret rfl rfl ⟨h826x, rfl, (wFr_tr (wFr_sub f81x (by simp)) (wFr_tr (wFr_sub f86x (by simp)) (wFr_tr (wFr_sub ff22x (by simp)) (wFr_sub f826x (by simp))))), by omega, c026x, e29x, (by (try dsimp only); first | assumption | omega | (intro q9; first | assumption | omega)), (by (try dsimp only); first | assumption | omega | (intro q9; first | assumption | omega)), (by (try dsimp only); first | assumption | omega | (intro q9; first | assumption | omega)), (by (try dsimp only); first | assumption | omega | (intro q9; first | assumption | omega)), (by (try dsimp only); first | assumption | omega | (intro q9; first | assumption | omega)), (by (try dsimp only); first | assumption | omega | (intro q9; first | assumption | omega))⟩
  · have q30x : (v7x.2.1).toInt = 0 := congrArg Int32.toInt b9x
    refine wq_gos (f := 1) (pc2 := 21) (ls2 := [(2, .int (v7x.1)), (0, .ref 162), (1, .ref rq)]) (st2 := [.int (v7x.1), .ref rq]) (h2 := h86x) (dc2 := 0) (ds2 := 0) 2 rfl ?_
    have e31x := (f86x.2 _ _ (wnc (by omega) wn0) (f81x.2 _ _ (wnc (by omega) wn0) hHd))
    refine wq_bald 2 (Or.inr rfl) rfl e31x (by first | omega | exact zin_t (by omega) (by omega)) rfl ?_
    refine wq_eq0 rfl rfl (fun b32x => ?_) (fun b32x => ?_)
    · have q33x : (hd.getD ((v7x.1)).toNatClampNeg 0).toInt = 0 := congrArg Int32.toInt b32x
      refine wq_gos (f := 1) (pc2 := 31) (ls2 := [(2, .int (v7x.1)), (0, .ref 162), (1, .ref rq)]) (st2 := [.ref 162]) (h2 := h86x) (dc2 := 0) (ds2 := 0) 1 rfl ?_
      refine wq_getf rfl c06x rfl rfl ?_
      refine wq_ne0 rfl rfl (fun b34x => ?_) (fun b34x => ?_)
      · have q35x : (v7x.2.1).toInt ≠ 0 := fun q => b34x (Int32.toInt_inj.mp q)
        refine wq_gos (f := 1) (pc2 := 42) (ls2 := [(2, .int (v7x.1)), (0, .ref 162), (1, .ref rq)]) (st2 := [.ref 162]) (h2 := h86x) (dc2 := 0) (ds2 := 0) 1 rfl ?_
        have e36x := (f86x.2 _ _ (wnc (by decide) wn0) (f81x.2 _ _ (wnc (by decide) wn0) hT))
        refine wq_inlv (y2 := 164) (as := []) rfl rfl rfl c06x rfl (wq_mono (m_go c06x e36x (by first | assumption | omega | decide | solve_by_elim) ⟨Nat.le_refl _, by omega⟩ (by first | assumption | omega | decide | solve_by_elim)) ?_)
        rintro _ ⟨h837x, rfl, f837x, l837x, c037x, p037x, p137x, p237x, p337x⟩
        show wq 173 45 [(2, .int (v7x.1)), (0, .ref 162), (1, .ref rq)] [] h837x 0 0 _
        obtain ⟨v38x, hv39x⟩ : ∃ x, x = (mGo tb sz (v2x.1) (v2x.2.1) (v2x.2.2.1) (v2x.2.2.2) (v7x.2.1)) := ⟨_, rfl⟩
        try rw [← hv39x] at c037x
        try rw [← hv39x] at p037x
        try rw [← hv39x] at p137x
        try rw [← hv39x] at p237x
        try rw [← hv39x] at p337x
        try rw [← hv39x]
        refine wq_gos (f := 1) (pc2 := 46) (ls2 := [(2, .int (v7x.1)), (0, .ref 162), (1, .ref rq)]) (st2 := [.int (v7x.1)]) (h2 := h837x) (dc2 := 0) (ds2 := 0) 1 rfl ?_
        have e40x := (f837x.2 _ _ (wnc (by omega) wn0) e31x)
        have hx : (mRdJ tb sz at9 pl so va ft fp hd) = ((v7x.1), (v7x.2.1), (v7x.2.2), (v38x.1), (v38x.2.1), (v38x.2.2.1), (v38x.2.2.2), hd) := by unfold mRdJ; rw [zlet_eq hv3x, zlet_eq hv8x, if_neg (fun q => q b9x), if_pos b32x, if_pos b34x, zlet_eq hv39x]
        rw [hx]
        exact wq_ret rfl rfl ⟨h837x, rfl, (wFr_tr (wFr_sub f81x (by simp)) (wFr_tr (wFr_sub f86x (by simp)) (wFr_sub f837x (by simp)))), by omega, c037x, e40x, (by (try dsimp only); first | assumption | omega | (intro q9; first | assumption | omega)), (by (try dsimp only); first | assumption | omega | (intro q9; first | assumption | omega)), (by (try dsimp only); first | assumption | omega | (intro q9; first | assumption | omega)), (by (try dsimp only); first | assumption | omega | (intro q9; first | assumption | omega)), (by (try dsimp only); first | assumption | omega | (intro q9; first | assumption | omega)), (by (try dsimp only); first | assumption | omega | (intro q9; first | assumption | omega))⟩
      · have q41x : (v7x.2.1).toInt = 0 := congrArg Int32.toInt b34x
        refine wq_gos (f := 1) (pc2 := 40) (ls2 := [(2, .int (v7x.1)), (0, .ref 162), (1, .ref rq)]) (st2 := [.int 1, .int (v7x.1), .ref rq]) (h2 := h86x) (dc2 := 0) (ds2 := 0) 3 rfl ?_
        refine wq_bastz rfl e31x (by first | omega | exact zin_t (by omega) (by omega)) rfl ?_
        intro hh42x e43x ff44x lh45x
        have e43x : zat hh42x rq = some (.inl (2, 6, (zset 0 hd ((v7x.1)).toNatClampNeg (vp_nar .boolean (1 : Int32))))) := e43x
        refine wq_gos (f := 1) (pc2 := 42) (ls2 := [(2, .int (v7x.1)), (0, .ref 162), (1, .ref rq)]) (st2 := [.ref 162]) (h2 := hh42x) (dc2 := 0) (ds2 := 0) 1 rfl ?_
        have e46x := (ff44x.2 _ _ (wnc (by omega) wn0) c06x)
        have e47x := (ff44x.2 _ _ (wnc (by omega) wn0) (f86x.2 _ _ (wnc (by decide) wn0) (f81x.2 _ _ (wnc (by decide) wn0) hT)))
        refine wq_inlv (y2 := 164) (as := []) rfl rfl rfl e46x rfl (wq_mono (m_go e46x e47x (by first | assumption | omega | decide | solve_by_elim) ⟨Nat.le_refl _, by omega⟩ (by first | assumption | omega | decide | solve_by_elim)) ?_)
        rintro _ ⟨h848x, rfl, f848x, l848x, c048x, p048x, p148x, p248x, p348x⟩
        show wq 173 45 [(2, .int (v7x.1)), (0, .ref 162), (1, .ref rq)] [] h848x 0 0 _
        obtain ⟨v49x, hv50x⟩ : ∃ x, x = (mGo tb sz (v2x.1) (v2x.2.1) (v2x.2.2.1) (v2x.2.2.2) (v7x.2.1)) := ⟨_, rfl⟩
        try rw [← hv50x] at c048x
        try rw [← hv50x] at p048x
        try rw [← hv50x] at p148x
        try rw [← hv50x] at p248x
        try rw [← hv50x] at p348x
        try rw [← hv50x]
        refine wq_gos (f := 1) (pc2 := 46) (ls2 := [(2, .int (v7x.1)), (0, .ref 162), (1, .ref rq)]) (st2 := [.int (v7x.1)]) (h2 := h848x) (dc2 := 0) (ds2 := 0) 1 rfl ?_
        have e51x := (f848x.2 _ _ (wnc (by omega) wn0) e43x)
        have hx : (mRdJ tb sz at9 pl so va ft fp hd) = ((v7x.1), (v7x.2.1), (v7x.2.2), (v49x.1), (v49x.2.1), (v49x.2.2.1), (v49x.2.2.2), (zset 0 hd ((v7x.1)).toNatClampNeg (vp_nar .boolean (1 : Int32)))) := by unfold mRdJ; rw [zlet_eq hv3x, zlet_eq hv8x, if_neg (fun q => q b9x), if_pos b32x, if_neg (fun q => q b34x), zlet_eq hv50x]
        rw [hx]
        exact wq_ret rfl rfl ⟨h848x, rfl, (wFr_tr (wFr_sub f81x (by simp)) (wFr_tr (wFr_sub f86x (by simp)) (wFr_tr (wFr_sub ff44x (by simp)) (wFr_sub f848x (by simp))))), by omega, c048x, e51x, (by (try dsimp only); first | assumption | omega | (intro q9; first | assumption | omega)), (by (try dsimp only); first | assumption | omega | (intro q9; first | assumption | omega)), (by (try dsimp only); first | assumption | omega | (intro q9; first | assumption | omega)), (by (try dsimp only); first | assumption | omega | (intro q9; first | assumption | omega)), (by (try dsimp only); first | assumption | omega | (intro q9; first | assumption | omega)), (by (try dsimp only); first | assumption | omega | (intro q9; first | assumption | omega))⟩
    · have q52x : (hd.getD ((v7x.1)).toNatClampNeg 0).toInt ≠ 0 := fun q => b32x (Int32.toInt_inj.mp q)
      refine wq_gos (f := 1) (pc2 := 27) (ls2 := [(2, .int (v7x.1)), (0, .ref 162), (1, .ref rq)]) (st2 := [.int 3, .ref 162]) (h2 := h86x) (dc2 := 0) (ds2 := 0) 2 rfl ?_
      have q53x : (3 : Int32).toInt = 3 := rfl
      refine wq_inlv (y2 := 163) (as := [.int 3]) rfl rfl rfl c06x rfl (wq_mono (m_wro c06x (by first | assumption | omega | decide | solve_by_elim) (by first | assumption | omega | decide | solve_by_elim)) ?_)
      rintro _ ⟨h854x, rfl, f854x, l854x, c054x, p054x⟩
      show wq 173 30 [(2, .int (v7x.1)), (0, .ref 162), (1, .ref rq)] [] h854x 0 0 _
      obtain ⟨v55x, hv56x⟩ : ∃ x, x = (mWro (v2x.2.1) (v7x.2.1) (v7x.2.2) (3 : Int32)) := ⟨_, rfl⟩
      try rw [← hv56x] at c054x
      try rw [← hv56x] at p054x
      try rw [← hv56x]
      refine wq_gos (f := 1) (pc2 := 31) (ls2 := [(2, .int (v7x.1)), (0, .ref 162), (1, .ref rq)]) (st2 := [.ref 162]) (h2 := h854x) (dc2 := 0) (ds2 := 0) 1 rfl ?_
      refine wq_getf rfl c054x rfl rfl ?_
      refine wq_ne0 rfl rfl (fun b57x => ?_) (fun b57x => ?_)
      · have q58x : (v55x.1).toInt ≠ 0 := fun q => b57x (Int32.toInt_inj.mp q)
        refine wq_gos (f := 1) (pc2 := 42) (ls2 := [(2, .int (v7x.1)), (0, .ref 162), (1, .ref rq)]) (st2 := [.ref 162]) (h2 := h854x) (dc2 := 0) (ds2 := 0) 1 rfl ?_
        have e59x := (f854x.2 _ _ (wnc (by decide) wn0) (f86x.2 _ _ (wnc (by decide) wn0) (f81x.2 _ _ (wnc (by decide) wn0) hT)))
        refine wq_inlv (y2 := 164) (as := []) rfl rfl rfl c054x rfl (wq_mono (m_go c054x e59x (by first | assumption | omega | decide | solve_by_elim) ⟨Nat.le_refl _, by omega⟩ (by first | assumption | omega | decide | solve_by_elim)) ?_)
        rintro _ ⟨h860x, rfl, f860x, l860x, c060x, p060x, p160x, p260x, p360x⟩
        show wq 173 45 [(2, .int (v7x.1)), (0, .ref 162), (1, .ref rq)] [] h860x 0 0 _
        obtain ⟨v61x, hv62x⟩ : ∃ x, x = (mGo tb sz (v2x.1) (v2x.2.1) (v2x.2.2.1) (v2x.2.2.2) (v55x.1)) := ⟨_, rfl⟩
        try rw [← hv62x] at c060x
        try rw [← hv62x] at p060x
        try rw [← hv62x] at p160x
        try rw [← hv62x] at p260x
        try rw [← hv62x] at p360x
        try rw [← hv62x]
        refine wq_gos (f := 1) (pc2 := 46) (ls2 := [(2, .int (v7x.1)), (0, .ref 162), (1, .ref rq)]) (st2 := [.int (v7x.1)]) (h2 := h860x) (dc2 := 0) (ds2 := 0) 1 rfl ?_
        have e63x := (f860x.2 _ _ (wnc (by omega) wn0) (f854x.2 _ _ (wnc (by omega) wn0) e31x))
        have hx : (mRdJ tb sz at9 pl so va ft fp hd) = ((v7x.1), (v55x.1), (v55x.2), (v61x.1), (v61x.2.1), (v61x.2.2.1), (v61x.2.2.2), hd) := by unfold mRdJ; rw [zlet_eq hv3x, zlet_eq hv8x, if_neg (fun q => q b9x), if_neg b32x, zlet_eq hv56x, if_pos b57x, zlet_eq hv62x]
        rw [hx]
        exact wq_ret rfl rfl ⟨h860x, rfl, (wFr_tr (wFr_sub f81x (by simp)) (wFr_tr (wFr_sub f86x (by simp)) (wFr_tr (wFr_sub f854x (by simp)) (wFr_sub f860x (by simp))))), by omega, c060x, e63x, (by (try dsimp only); first | assumption | omega | (intro q9; first | assumption | omega)), (by (try dsimp only); first | assumption | omega | (intro q9; first | assumption | omega)), (by (try dsimp only); first | assumption | omega | (intro q9; first | assumption | omega)), (by (try dsimp only); first | assumption | omega | (intro q9; first | assumption | omega)), (by (try dsimp only); first | assumption | omega | (intro q9; first | assumption | omega)), (by (try dsimp only); first | assumption | omega | (intro q9; first | assumption | omega))⟩
      · have q64x : (v55x.1).toInt = 0 := congrArg Int32.toInt b57x
        refine wq_gos (f := 1) (pc2 := 40) (ls2 := [(2, .int (v7x.1)), (0, .ref 162), (1, .ref rq)]) (st2 := [.int 1, .int (v7x.1), .ref rq]) (h2 := h854x) (dc2 := 0) (ds2 := 0) 3 rfl ?_
        have e65x := (f854x.2 _ _ (wnc (by omega) wn0) e31x)
        refine wq_bastz rfl e65x (by first | omega | exact zin_t (by omega) (by omega)) rfl ?_
        intro hh66x e67x ff68x lh69x
        have e67x : zat hh66x rq = some (.inl (2, 6, (zset 0 hd ((v7x.1)).toNatClampNeg (vp_nar .boolean (1 : Int32))))) := e67x
        refine wq_gos (f := 1) (pc2 := 42) (ls2 := [(2, .int (v7x.1)), (0, .ref 162), (1, .ref rq)]) (st2 := [.ref 162]) (h2 := hh66x) (dc2 := 0) (ds2 := 0) 1 rfl ?_
        have e70x := (ff68x.2 _ _ (wnc (by omega) wn0) c054x)
        have e71x := (ff68x.2 _ _ (wnc (by omega) wn0) (f854x.2 _ _ (wnc (by decide) wn0) (f86x.2 _ _ (wnc (by decide) wn0) (f81x.2 _ _ (wnc (by decide) wn0) hT))))
        refine wq_inlv (y2 := 164) (as := []) rfl rfl rfl e70x rfl (wq_mono (m_go e70x e71x (by first | assumption | omega | decide | solve_by_elim) ⟨Nat.le_refl _, by omega⟩ (by first | assumption | omega | decide | solve_by_elim)) ?_)
        rintro _ ⟨h872x, rfl, f872x, l872x, c072x, p072x, p172x, p272x, p372x⟩
        show wq 173 45 [(2, .int (v7x.1)), (0, .ref 162), (1, .ref rq)] [] h872x 0 0 _
        obtain ⟨v73x, hv74x⟩ : ∃ x, x = (mGo tb sz (v2x.1) (v2x.2.1) (v2x.2.2.1) (v2x.2.2.2) (v55x.1)) := ⟨_, rfl⟩
        try rw [← hv74x] at c072x
        try rw [← hv74x] at p072x
        try rw [← hv74x] at p172x
        try rw [← hv74x] at p272x
        try rw [← hv74x] at p372x
        try rw [← hv74x]
        refine wq_gos (f := 1) (pc2 := 46) (ls2 := [(2, .int (v7x.1)), (0, .ref 162), (1, .ref rq)]) (st2 := [.int (v7x.1)]) (h2 := h872x) (dc2 := 0) (ds2 := 0) 1 rfl ?_
        have e75x := (f872x.2 _ _ (wnc (by omega) wn0) e67x)
        have hx : (mRdJ tb sz at9 pl so va ft fp hd) = ((v7x.1), (v55x.1), (v55x.2), (v73x.1), (v73x.2.1), (v73x.2.2.1), (v73x.2.2.2), (zset 0 hd ((v7x.1)).toNatClampNeg (vp_nar .boolean (1 : Int32)))) := by unfold mRdJ; rw [zlet_eq hv3x, zlet_eq hv8x, if_neg (fun q => q b9x), if_neg b32x, zlet_eq hv56x, if_neg (fun q => q b57x), zlet_eq hv74x]
        rw [hx]
        exact wq_ret rfl rfl ⟨h872x, rfl, (wFr_tr (wFr_sub f81x (by simp)) (wFr_tr (wFr_sub f86x (by simp)) (wFr_tr (wFr_sub f854x (by simp)) (wFr_tr (wFr_sub ff68x (by simp)) (wFr_sub f872x (by simp)))))), by omega, c072x, e75x, (by (try dsimp only); first | assumption | omega | (intro q9; first | assumption | omega)), (by (try dsimp only); first | assumption | omega | (intro q9; first | assumption | omega)), (by (try dsimp only); first | assumption | omega | (intro q9; first | assumption | omega)), (by (try dsimp only); first | assumption | omega | (intro q9; first | assumption | omega)), (by (try dsimp only); first | assumption | omega | (intro q9; first | assumption | omega)), (by (try dsimp only); first | assumption | omega | (intro q9; first | assumption | omega))⟩
noncomputable def wL2 (lo hi : List Int32) : Prop := ∀ j, j < 6 → (zLow.getD j 0).toInt ≤ (lo.getD (6 + j) 0).toInt ∧ (lo.getD (6 + j) 0).toInt ≤ (hi.getD (6 + j) 0).toInt ∧ (hi.getD (6 + j) 0).toInt ≤ (zHigh.getD j 0).toInt
noncomputable def wS2 (sv : List Int32) : Prop := ∀ j, j < 6 → 1 ≤ (sv.getD (6 + j) 0).toInt ∧ (sv.getD (6 + j) 0).toInt ≤ 32
/-- the first numbers are as they were -/
noncomputable def wFh (n : Nat) (a b : List Int32) : Prop := ∀ q, q < n → b.getD q 0 = a.getD q 0
theorem wFh_rf (n : Nat) (a : List Int32) : wFh n a a := fun _ _ => rfl
theorem wFh_set {n : Nat} {a b : List Int32} {i : Nat} {x : Int32} (h : wFh n a b) (hi : n ≤ i) : wFh n a (zset 0 b i x) := fun q hq => by
  rw [zset_get, if_neg (by omega)]
  exact h q hq
theorem wFh_up {n k m : Nat} {a b c : List Int32} (h : wFh n a b) (hz : ∀ q, q < k ∨ m ≤ q → c.getD q 0 = b.getD q 0) (hk : n ≤ k) : wFh n a c := fun q hq => by
  rw [hz q (Or.inl (by omega))]
  exact h q hq
noncomputable def wFz (k0 l0 u0 s0 q0 w0 kn lo hi sv sq wy : List Int32) : Prop := wFh 7 k0 kn ∧ wFh 6 l0 lo ∧ wFh 6 u0 hi ∧ wFh 6 s0 sv ∧ wFh 48 q0 sq ∧ wFh 10 w0 wy
theorem wFz_rf (kn lo hi sv sq wy : List Int32) : wFz kn lo hi sv sq wy kn lo hi sv sq wy := ⟨wFh_rf _ _, wFh_rf _ _, wFh_rf _ _, wFh_rf _ _, wFh_rf _ _, wFh_rf _ _⟩
theorem six_i {x : Int32} (h : 0 ≤ x.toInt ∧ x.toInt ≤ 5) : ∃ k, x = nI k ∧ k < 6 := ⟨x.toNatClampNeg, nI_cl h.1, by show x.toInt.toNat < 6; omega⟩
theorem wL2_set {lo hi : List Int32} {x a b : Int32} (h : wL2 lo hi) (hx : 0 ≤ x.toInt ∧ x.toInt ≤ 5) (h1 : (mLeO x).toInt ≤ a.toInt) (h2 : a.toInt ≤ b.toInt) (h3 : b.toInt ≤ (mMoO x).toInt) : wL2 (zset 0 lo ((6 : Int32) + x).toNatClampNeg a) (zset 0 hi ((6 : Int32) + x).toNatClampNeg b) := by
  obtain ⟨k, rfl, hk⟩ := six_i hx
  have e : (6 : Int32) + nI k = nI (6 + k) := nI_add 6 k
  rw [mLeO_j hk] at h1
  rw [mMoO_j hk] at h3
  intro j hj
  rw [e, nI_clamp (by omega), zset_get, zset_get]
  by_cases q : j = k
  · rw [if_pos (by omega), if_pos (by omega), q]; exact ⟨h1, h2, h3⟩
  · rw [if_neg (by omega), if_neg (by omega)]; exact h j hj
theorem wFh_six {a b : List Int32} {x v : Int32} (h : wFh 6 a b) (hx : 0 ≤ x.toInt ∧ x.toInt ≤ 5) : wFh 6 a (zset 0 b ((6 : Int32) + x).toNatClampNeg v) := by
  obtain ⟨k, rfl, hk⟩ := six_i hx
  have e : (6 : Int32) + nI k = nI (6 + k) := nI_add 6 k
  rw [e, nI_clamp (by omega)]
  exact wFh_set h (by omega)
theorem wS2_set {sv : List Int32} {x a : Int32} (h : wS2 sv) (hx : 0 ≤ x.toInt ∧ x.toInt ≤ 5) (h1 : 1 ≤ a.toInt ∧ a.toInt ≤ 32) : wS2 (zset 0 sv ((6 : Int32) + x).toNatClampNeg a) := by
  obtain ⟨k, rfl, hk⟩ := six_i hx
  have e : (6 : Int32) + nI k = nI (6 + k) := nI_add 6 k
  intro j hj
  rw [e, nI_clamp (by omega), zset_get]
  by_cases q : j = k
  · rw [if_pos (by omega)]; exact h1
  · rw [if_neg (by omega)]; exact h j hj
noncomputable def mRdL (tb : List Int32) (sz at9 pl : Nat) (so va ft fp : Int32) (hd lo hi : List Int32) : Int32 × Int32 × Nat × Nat × Int32 × Int32 × List Int32 × List Int32 × List Int32 := (zlet (mRdJ tb sz at9 pl so va ft fp hd) (fun v2x => (zlet (mAtH (v2x.2.2.2.2.1) (v2x.2.2.2.2.2.1) (v2x.2.2.2.2.2.2.1) (v2x.2.1) (v2x.2.2.1) (1 : Int32) (mLeO (v2x.1)) (mMoO (v2x.1))) (fun v8x => (zlet (mGo tb sz (v2x.2.2.2.1) (v2x.2.2.2.2.1) (v2x.2.2.2.2.2.1) (v2x.2.2.2.2.2.2.1) (v8x.2.1)) (fun v12x => (zlet (mAtH (v12x.2.1) (v12x.2.2.1) (v12x.2.2.2) (v8x.2.1) (v8x.2.2) (1 : Int32) (mLeO (v2x.1)) (mMoO (v2x.1))) (fun v17x => (if (v17x.2.1) ≠ (0 : Int32) then (zlet (mGo tb sz (v12x.1) (v12x.2.1) (v12x.2.2.1) (v12x.2.2.2) (v17x.2.1)) (fun v23x => ((v17x.2.1), (v17x.2.2), (v23x.1), (v23x.2.1), (v23x.2.2.1), (v23x.2.2.2), (v2x.2.2.2.2.2.2.2), (zset 0 lo (((6 : Int32) + (v2x.1))).toNatClampNeg (v8x.1)), (zset 0 hi (((6 : Int32) + (v2x.1))).toNatClampNeg (v17x.1))))) else (if (v8x.1).toInt ≤ (v17x.1).toInt then (zlet (mGo tb sz (v12x.1) (v12x.2.1) (v12x.2.2.1) (v12x.2.2.2) (v17x.2.1)) (fun v45x => ((v17x.2.1), (v17x.2.2), (v45x.1), (v45x.2.1), (v45x.2.2.1), (v45x.2.2.2), (v2x.2.2.2.2.2.2.2), (zset 0 lo (((6 : Int32) + (v2x.1))).toNatClampNeg (v8x.1)), (zset 0 hi (((6 : Int32) + (v2x.1))).toNatClampNeg (v17x.1))))) else (zlet (mWro (v12x.2.1) (v17x.2.1) (v17x.2.2) (2 : Int32)) (fun v65x => (zlet (mGo tb sz (v12x.1) (v12x.2.1) (v12x.2.2.1) (v12x.2.2.2) (v65x.1)) (fun v69x => ((v65x.1), (v65x.2), (v69x.1), (v69x.2.1), (v69x.2.2.1), (v69x.2.2.2), (v2x.2.2.2.2.2.2.2), (zset 0 lo (((6 : Int32) + (v2x.1))).toNatClampNeg (v8x.1)), (zset 0 hi (((6 : Int32) + (v2x.1))).toNatClampNeg (v17x.1)))))))))))))))))
set_option maxRecDepth 100000 in
set_option maxHeartbeats 4000000 in
theorem m_rdL {h : zH} {n0 n2 n14 n22 n23 n27 n28 n32 n33 n34 n35 n39 n52 : Int32} {sz at9 pl : Nat} {so va ft fp : Int32} {tb : List Int32} {a0 : Nat} {hd lo hi l0 u0 : List Int32} (hM : zat h 162 = some (.inr (.inr (.inr (10, mO n0 n2 n14 (nI sz) (nI at9) (nI pl) so va ft fp n22 n23 n27 n28 n32 n33 n34 n35 n39 n52))))) (hT : zat h 164 = some (.inl (0, 700, tb))) (hHd : zat h 184 = some (.inl (2, 6, hd))) (hLo : zat h 168 = some (.inl (0, 12, lo))) (hHi : zat h 170 = some (.inl (0, 12, hi))) (hsz : sz ≤ 700) (ha : a0 ≤ at9 ∧ at9 ≤ sz) (hp : pl ≤ at9) (hf0 : 0 ≤ ft.toInt) (hw : wL2 lo hi) (hz1 : wFh 6 l0 lo) (hz2 : wFh 6 u0 hi) : wq 174 0 [(0, .ref 162)] [] h 0 0 (fun rr9 => ∃ (h2 : zH), rr9 = (none, h2, 0, 0) ∧ wFr [162, 184, 168, 170] h h2 ∧ h2.length = h.length ∧ zat h2 162 = some (.inr (.inr (.inr (10, mO n0 n2 n14 (nI sz) (nI ((mRdL tb sz at9 pl so va ft fp hd lo hi).2.2.1)) (nI ((mRdL tb sz at9 pl so va ft fp hd lo hi).2.2.2.1)) ((mRdL tb sz at9 pl so va ft fp hd lo hi).2.2.2.2.1) ((mRdL tb sz at9 pl so va ft fp hd lo hi).2.2.2.2.2.1) ((mRdL tb sz at9 pl so va ft fp hd lo hi).1) ((mRdL tb sz at9 pl so va ft fp hd lo hi).2.1) n22 n23 n27 n28 n32 n33 n34 n35 n39 n52)))) ∧ zat h2 184 = some (.inl (2, 6, ((mRdL tb sz at9 pl so va ft fp hd lo hi).2.2.2.2.2.2.1))) ∧ zat h2 168 = some (.inl (0, 12, ((mRdL tb sz at9 pl so va ft fp hd lo hi).2.2.2.2.2.2.2.1))) ∧ zat h2 170 = some (.inl (0, 12, ((mRdL tb sz at9 pl so va ft fp hd lo hi).2.2.2.2.2.2.2.2))) ∧ ((a0 ≤ ((mRdL tb sz at9 pl so va ft fp hd lo hi).2.2.1))) ∧ ((((mRdL tb sz at9 pl so va ft fp hd lo hi).2.2.1) ≤ sz)) ∧ ((((mRdL tb sz at9 pl so va ft fp hd lo hi).2.2.2.1) ≤ ((mRdL tb sz at9 pl so va ft fp hd lo hi).2.2.1))) ∧ ((0 ≤ (((mRdL tb sz at9 pl so va ft fp hd lo hi).1)).toInt)) ∧ ((((((mRdL tb sz at9 pl so va ft fp hd lo hi).1)).toInt ≠ 0 ∨ (((mRdL tb sz at9 pl so va ft fp hd lo hi).2.2.2.2.1)).toInt ≠ 4 ∨ a0 < ((mRdL tb sz at9 pl so va ft fp hd lo hi).2.2.1)))) ∧ (((((mRdL tb sz at9 pl so va ft fp hd lo hi).1)).toInt = 0 → wL2 (((mRdL tb sz at9 pl so va ft fp hd lo hi).2.2.2.2.2.2.2.1)) (((mRdL tb sz at9 pl so va ft fp hd lo hi).2.2.2.2.2.2.2.2)))) ∧ ((wFh 6 l0 (((mRdL tb sz at9 pl so va ft fp hd lo hi).2.2.2.2.2.2.2.1)))) ∧ ((wFh 6 u0 (((mRdL tb sz at9 pl so va ft fp hd lo hi).2.2.2.2.2.2.2.2))))) := by
  have zm1 : (-1 : Int32).toInt = -1 := rfl
  have z0 : (0 : Int32).toInt = 0 := rfl
  have z1 : (1 : Int32).toInt = 1 := rfl
  have z2 : (2 : Int32).toInt = 2 := rfl
  have z3 : (3 : Int32).toInt = 3 := rfl
  have z4 : (4 : Int32).toInt = 4 := rfl
  have z5 : (5 : Int32).toInt = 5 := rfl
  have z6 : (6 : Int32).toInt = 6 := rfl
  have z8 : (8 : Int32).toInt = 8 := rfl
  have z9 : (9 : Int32).toInt = 9 := rfl
  have z10 : (10 : Int32).toInt = 10 := rfl
  have z32 : (32 : Int32).toInt = 32 := rfl
  have z99 : (99 : Int32).toInt = 99 := rfl
  have z99999 : (99999 : Int32).toInt = 99999 := rfl
  refine wq_gos (f := 1) (pc2 := 2) (ls2 := [(0, .ref 162)]) (st2 := [.ref 162, .ref 162]) (h2 := h) (dc2 := 0) (ds2 := 0) 2 rfl ?_
  refine wq_getf rfl hM rfl rfl ?_
  refine wq_inlv (y2 := 173) (as := [.ref 184]) rfl rfl rfl hM rfl (wq_mono (m_rdJ hM hT hHd (by first | assumption | omega | decide | solve_by_elim) ⟨Nat.le_refl _, by omega⟩ (by first | assumption | omega | decide | solve_by_elim) (by first | assumption | omega | decide | solve_by_elim) (by first | assumption | omega | decide | solve_by_elim)) ?_)
  rintro _ ⟨h81x, rfl, f81x, l81x, c01x, c11x, p01x, p11x, p21x, p31x, p41x, p51x⟩
  show wq 174 8 [(0, .ref 162)] [.int ((mRdJ tb sz at9 pl so va ft fp hd).1)] h81x 0 0 _
  obtain ⟨v2x, hv3x⟩ : ∃ x, x = (mRdJ tb sz at9 pl so va ft fp hd) := ⟨_, rfl⟩
  try rw [← hv3x] at c01x
  try rw [← hv3x] at c11x
  try rw [← hv3x] at p01x
  try rw [← hv3x] at p11x
  try rw [← hv3x] at p21x
  try rw [← hv3x] at p31x
  try rw [← hv3x] at p41x
  try rw [← hv3x] at p51x
  try rw [← hv3x]
  refine wq_gos (f := 1) (pc2 := 12) (ls2 := [(1, .int (v2x.1)), (0, .ref 162)]) (st2 := [.int (v2x.1), .int 1, .ref 162]) (h2 := h81x) (dc2 := 0) (ds2 := 0) 4 rfl ?_
  refine wq_inl (y2 := 167) (as := [.int (v2x.1)]) rfl rfl rfl (wq_mono m_leO ?_)
  rintro _ ⟨rfl, p04x⟩
  show wq 174 15 [(1, .int (v2x.1)), (0, .ref 162)] [.int (mLeO (v2x.1)), .int 1, .ref 162] h81x 0 0 _
  refine wq_gos (f := 1) (pc2 := 16) (ls2 := [(1, .int (v2x.1)), (0, .ref 162)]) (st2 := [.int (v2x.1), .int (mLeO (v2x.1)), .int 1, .ref 162]) (h2 := h81x) (dc2 := 0) (ds2 := 0) 1 rfl ?_
  refine wq_inl (y2 := 168) (as := [.int (v2x.1)]) rfl rfl rfl (wq_mono m_moO ?_)
  rintro _ ⟨rfl, p05x⟩
  show wq 174 19 [(1, .int (v2x.1)), (0, .ref 162)] [.int (mMoO (v2x.1)), .int (mLeO (v2x.1)), .int 1, .ref 162] h81x 0 0 _
  have q6x : (1 : Int32).toInt = 1 := rfl
  refine wq_inlv (y2 := 165) (as := [.int 1, .int (mLeO (v2x.1)), .int (mMoO (v2x.1))]) rfl rfl rfl c01x rfl (wq_mono (m_atH c01x (by first | assumption | omega | decide | solve_by_elim)) ?_)
  rintro _ ⟨h87x, rfl, f87x, l87x, c07x, p07x, p17x⟩
  show wq 174 22 [(1, .int (v2x.1)), (0, .ref 162)] [.int ((mAtH (v2x.2.2.2.2.1) (v2x.2.2.2.2.2.1) (v2x.2.2.2.2.2.2.1) (v2x.2.1) (v2x.2.2.1) (1 : Int32) (mLeO (v2x.1)) (mMoO (v2x.1))).1)] h87x 0 0 _
  obtain ⟨v8x, hv9x⟩ : ∃ x, x = (mAtH (v2x.2.2.2.2.1) (v2x.2.2.2.2.2.1) (v2x.2.2.2.2.2.2.1) (v2x.2.1) (v2x.2.2.1) (1 : Int32) (mLeO (v2x.1)) (mMoO (v2x.1))) := ⟨_, rfl⟩
  try rw [← hv9x] at c07x
  try rw [← hv9x] at p07x
  try rw [← hv9x] at p17x
  try rw [← hv9x]
  refine wq_gos (f := 1) (pc2 := 24) (ls2 := [(2, .int (v8x.1)), (1, .int (v2x.1)), (0, .ref 162)]) (st2 := [.ref 162]) (h2 := h87x) (dc2 := 0) (ds2 := 0) 2 rfl ?_
  have e10x := (f87x.2 _ _ (wnc (by decide) wn0) (f81x.2 _ _ (wnc (by decide) (wnc (by decide) wn0)) hT))
  refine wq_inlv (y2 := 164) (as := []) rfl rfl rfl c07x rfl (wq_mono (m_go c07x e10x (by first | assumption | omega | decide | solve_by_elim) ⟨Nat.le_refl _, by omega⟩ (by first | assumption | omega | decide | solve_by_elim)) ?_)
  rintro _ ⟨h811x, rfl, f811x, l811x, c011x, p011x, p111x, p211x, p311x⟩
  show wq 174 27 [(2, .int (v8x.1)), (1, .int (v2x.1)), (0, .ref 162)] [] h811x 0 0 _
  obtain ⟨v12x, hv13x⟩ : ∃ x, x = (mGo tb sz (v2x.2.2.2.1) (v2x.2.2.2.2.1) (v2x.2.2.2.2.2.1) (v2x.2.2.2.2.2.2.1) (v8x.2.1)) := ⟨_, rfl⟩
  try rw [← hv13x] at c011x
  try rw [← hv13x] at p011x
  try rw [← hv13x] at p111x
  try rw [← hv13x] at p211x
  try rw [← hv13x] at p311x
  try rw [← hv13x]
  refine wq_gos (f := 1) (pc2 := 30) (ls2 := [(2, .int (v8x.1)), (1, .int (v2x.1)), (0, .ref 162)]) (st2 := [.int (v2x.1), .int 1, .ref 162]) (h2 := h811x) (dc2 := 0) (ds2 := 0) 3 rfl ?_
  refine wq_inl (y2 := 167) (as := [.int (v2x.1)]) rfl rfl rfl (wq_mono m_leO ?_)
  rintro _ ⟨rfl, p014x⟩
  show wq 174 33 [(2, .int (v8x.1)), (1, .int (v2x.1)), (0, .ref 162)] [.int (mLeO (v2x.1)), .int 1, .ref 162] h811x 0 0 _
  refine wq_gos (f := 1) (pc2 := 34) (ls2 := [(2, .int (v8x.1)), (1, .int (v2x.1)), (0, .ref 162)]) (st2 := [.int (v2x.1), .int (mLeO (v2x.1)), .int 1, .ref 162]) (h2 := h811x) (dc2 := 0) (ds2 := 0) 1 rfl ?_
  refine wq_inl (y2 := 168) (as := [.int (v2x.1)]) rfl rfl rfl (wq_mono m_moO ?_)
  rintro _ ⟨rfl, p015x⟩
  show wq 174 37 [(2, .int (v8x.1)), (1, .int (v2x.1)), (0, .ref 162)] [.int (mMoO (v2x.1)), .int (mLeO (v2x.1)), .int 1, .ref 162] h811x 0 0 _
  refine wq_inlv (y2 := 165) (as := [.int 1, .int (mLeO (v2x.1)), .int (mMoO (v2x.1))]) rfl rfl rfl c011x rfl (wq_mono (m_atH c011x (by first | assumption | omega | decide | solve_by_elim)) ?_)
  rintro _ ⟨h816x, rfl, f816x, l816x, c016x, p016x, p116x⟩
  show wq 174 40 [(2, .int (v8x.1)), (1, .int (v2x.1)), (0, .ref 162)] [.int ((mAtH (v12x.2.1) (v12x.2.2.1) (v12x.2.2.2) (v8x.2.1) (v8x.2.2) (1 : Int32) (mLeO (v2x.1)) (mMoO (v2x.1))).1)] h816x 0 0 _
  obtain ⟨v17x, hv18x⟩ : ∃ x, x = (mAtH (v12x.2.1) (v12x.2.2.1) (v12x.2.2.2) (v8x.2.1) (v8x.2.2) (1 : Int32) (mLeO (v2x.1)) (mMoO (v2x.1))) := ⟨_, rfl⟩
  try rw [← hv18x] at c016x
  try rw [← hv18x] at p016x
  try rw [← hv18x] at p116x
  try rw [← hv18x]
  refine wq_gos (f := 1) (pc2 := 42) (ls2 := [(3, .int (v17x.1)), (2, .int (v8x.1)), (1, .int (v2x.1)), (0, .ref 162)]) (st2 := [.ref 162]) (h2 := h816x) (dc2 := 0) (ds2 := 0) 2 rfl ?_
  refine wq_getf rfl c016x rfl rfl ?_
  refine wq_ne0 rfl rfl (fun b19x => ?_) (fun b19x => ?_)
  · have q20x : (v17x.2.1).toInt ≠ 0 := fun q => b19x (Int32.toInt_inj.mp q)
    refine wq_gos (f := 1) (pc2 := 59) (ls2 := [(3, .int (v17x.1)), (2, .int (v8x.1)), (1, .int (v2x.1)), (0, .ref 162)]) (st2 := [.ref 162]) (h2 := h816x) (dc2 := 0) (ds2 := 0) 1 rfl ?_
    have e21x := (f816x.2 _ _ (wnc (by decide) wn0) (f811x.2 _ _ (wnc (by decide) wn0) e10x))
    refine wq_inlv (y2 := 164) (as := []) rfl rfl rfl c016x rfl (wq_mono (m_go c016x e21x (by first | assumption | omega | decide | solve_by_elim) ⟨Nat.le_refl _, by omega⟩ (by first | assumption | omega | decide | solve_by_elim)) ?_)
    rintro _ ⟨h822x, rfl, f822x, l822x, c022x, p022x, p122x, p222x, p322x⟩
    show wq 174 62 [(3, .int (v17x.1)), (2, .int (v8x.1)), (1, .int (v2x.1)), (0, .ref 162)] [] h822x 0 0 _
    obtain ⟨v23x, hv24x⟩ : ∃ x, x = (mGo tb sz (v12x.1) (v12x.2.1) (v12x.2.2.1) (v12x.2.2.2) (v17x.2.1)) := ⟨_, rfl⟩
    try rw [← hv24x] at c022x
    try rw [← hv24x] at p022x
    try rw [← hv24x] at p122x
    try rw [← hv24x] at p222x
    try rw [← hv24x] at p322x
    try rw [← hv24x]
    refine wq_gos (f := 1) (pc2 := 63) (ls2 := [(3, .int (v17x.1)), (2, .int (v8x.1)), (1, .int (v2x.1)), (0, .ref 162)]) (st2 := [.ref 162]) (h2 := h822x) (dc2 := 0) (ds2 := 0) 1 rfl ?_
    refine wq_getf rfl c022x rfl rfl ?_
    refine wq_gos (f := 1) (pc2 := 71) (ls2 := [(3, .int (v17x.1)), (2, .int (v8x.1)), (1, .int (v2x.1)), (0, .ref 162)]) (st2 := [.int (v8x.1), .int ((6 : Int32) + (v2x.1)), .ref 168]) (h2 := h822x) (dc2 := 0) (ds2 := 0) 4 rfl ?_
    have e25x := (f822x.2 _ _ (wnc (by decide) wn0) (f816x.2 _ _ (wnc (by decide) wn0) (f811x.2 _ _ (wnc (by decide) wn0) (f87x.2 _ _ (wnc (by decide) wn0) (f81x.2 _ _ (wnc (by decide) (wnc (by decide) wn0)) hLo)))))
    have q26x : (6 : Int32).toInt = 6 := rfl
    try have q27x : (((6 : Int32) + (v2x.1))).toInt = (6 : Int32).toInt + (v2x.1).toInt := e_add (by omega) (by omega)
    refine wq_iast rfl e25x (by first | omega | exact zin_t (by omega) (by omega)) rfl ?_
    intro hh28x e29x ff30x lh31x
    have e29x : zat hh28x 168 = some (.inl (0, 12, (zset 0 lo (((6 : Int32) + (v2x.1))).toNatClampNeg (v8x.1)))) := e29x
    refine wq_gos (f := 1) (pc2 := 73) (ls2 := [(3, .int (v17x.1)), (2, .int (v8x.1)), (1, .int (v2x.1)), (0, .ref 162)]) (st2 := [.ref 162]) (h2 := hh28x) (dc2 := 0) (ds2 := 0) 1 rfl ?_
    have e32x := (ff30x.2 _ _ (wnc (by decide) wn0) c022x)
    refine wq_getf rfl e32x rfl rfl ?_
    refine wq_gos (f := 1) (pc2 := 81) (ls2 := [(3, .int (v17x.1)), (2, .int (v8x.1)), (1, .int (v2x.1)), (0, .ref 162)]) (st2 := [.int (v17x.1), .int ((6 : Int32) + (v2x.1)), .ref 170]) (h2 := hh28x) (dc2 := 0) (ds2 := 0) 4 rfl ?_
    have e33x := (ff30x.2 _ _ (wnc (by decide) wn0) (f822x.2 _ _ (wnc (by decide) wn0) (f816x.2 _ _ (wnc (by decide) wn0) (f811x.2 _ _ (wnc (by decide) wn0) (f87x.2 _ _ (wnc (by decide) wn0) (f81x.2 _ _ (wnc (by decide) (wnc (by decide) wn0)) hHi))))))
    refine wq_iast rfl e33x (by first | omega | exact zin_t (by omega) (by omega)) rfl ?_
    intro hh34x e35x ff36x lh37x
    have e35x : zat hh34x 170 = some (.inl (0, 12, (zset 0 hi (((6 : Int32) + (v2x.1))).toNatClampNeg (v17x.1)))) := e35x
    have e38x := (ff36x.2 _ _ (wnc (by decide) wn0) e32x)
    have e39x := (ff36x.2 _ _ (wnc (by decide) wn0) (ff30x.2 _ _ (wnc (by decide) wn0) (f822x.2 _ _ (wnc (by decide) wn0) (f816x.2 _ _ (wnc (by decide) wn0) (f811x.2 _ _ (wnc (by decide) wn0) (f87x.2 _ _ (wnc (by decide) wn0) c11x))))))
    have e40x := (ff36x.2 _ _ (wnc (by decide) wn0) e29x)
    have hx : (mRdL tb sz at9 pl so va ft fp hd lo hi) = ((v17x.2.1), (v17x.2.2), (v23x.1), (v23x.2.1), (v23x.2.2.1), (v23x.2.2.2), (v2x.2.2.2.2.2.2.2), (zset 0 lo (((6 : Int32) + (v2x.1))).toNatClampNeg (v8x.1)), (zset 0 hi (((6 : Int32) + (v2x.1))).toNatClampNeg (v17x.1))) := by unfold mRdL; rw [zlet_eq hv3x, zlet_eq hv9x, zlet_eq hv13x, zlet_eq hv18x, if_pos b19x, zlet_eq hv24x]
    rw [hx]
    exact wq_ret rfl rfl ⟨hh34x, rfl, (wFr_tr (wFr_sub f81x (by simp)) (wFr_tr (wFr_sub f87x (by simp)) (wFr_tr (wFr_sub f811x (by simp)) (wFr_tr (wFr_sub f816x (by simp)) (wFr_tr (wFr_sub f822x (by simp)) (wFr_tr (wFr_sub ff30x (by simp)) (wFr_sub ff36x (by simp)))))))), by omega, e38x, e39x, e40x, e35x, (by (try dsimp only); first | assumption | omega | (intro q9; first | assumption | omega) | (intro q9; exact wL2_set hw (by assumption) (by omega) (by omega) (by omega)) | exact wFh_six hz1 (by assumption) | exact wFh_six hz2 (by assumption)), (by (try dsimp only); first | assumption | omega | (intro q9; first | assumption | omega) | (intro q9; exact wL2_set hw (by assumption) (by omega) (by omega) (by omega)) | exact wFh_six hz1 (by assumption) | exact wFh_six hz2 (by assumption)), (by (try dsimp only); first | assumption | omega | (intro q9; first | assumption | omega) | (intro q9; exact wL2_set hw (by assumption) (by omega) (by omega) (by omega)) | exact wFh_six hz1 (by assumption) | exact wFh_six hz2 (by assumption)), (by (try dsimp only); first | assumption | omega | (intro q9; first | assumption | omega) | (intro q9; exact wL2_set hw (by assumption) (by omega) (by omega) (by omega)) | exact wFh_six hz1 (by assumption) | exact wFh_six hz2 (by assumption)), (by (try dsimp only); first | assumption | omega | (intro q9; first | assumption | omega) | (intro q9; exact wL2_set hw (by assumption) (by omega) (by omega) (by omega)) | exact wFh_six hz1 (by assumption) | exact wFh_six hz2 (by assumption)), (by (try dsimp only); first | assumption | omega | (intro q9; first | assumption | omega) | (intro q9; exact wL2_set hw (by assumption) (by omega) (by omega) (by omega)) | exact wFh_six hz1 (by assumption) | exact wFh_six hz2 (by assumption)), (by (try dsimp only); first | assumption | omega | (intro q9; first | assumption | omega) | (intro q9; exact wL2_set hw (by assumption) (by omega) (by omega) (by omega)) | exact wFh_six hz1 (by assumption) | exact wFh_six hz2 (by assumption)), (by (try dsimp only); first | assumption | omega | (intro q9; first | assumption | omega) | (intro q9; exact wL2_set hw (by assumption) (by omega) (by omega) (by omega)) | exact wFh_six hz1 (by assumption) | exact wFh_six hz2 (by assumption))⟩
  · have q41x : (v17x.2.1).toInt = 0 := congrArg Int32.toInt b19x
    refine wq_gos (f := 1) (pc2 := 50) (ls2 := [(3, .int (v17x.1)), (2, .int (v8x.1)), (1, .int (v2x.1)), (0, .ref 162)]) (st2 := [.int (v8x.1), .int (v17x.1)]) (h2 := h816x) (dc2 := 0) (ds2 := 0) 2 rfl ?_
    refine wq_ge2 rfl rfl (fun b42x => ?_) (fun b42x => ?_)
    · refine wq_gos (f := 1) (pc2 := 59) (ls2 := [(3, .int (v17x.1)), (2, .int (v8x.1)), (1, .int (v2x.1)), (0, .ref 162)]) (st2 := [.ref 162]) (h2 := h816x) (dc2 := 0) (ds2 := 0) 1 rfl ?_
      have e43x := (f816x.2 _ _ (wnc (by decide) wn0) (f811x.2 _ _ (wnc (by decide) wn0) e10x))
      refine wq_inlv (y2 := 164) (as := []) rfl rfl rfl c016x rfl (wq_mono (m_go c016x e43x (by first | assumption | omega | decide | solve_by_elim) ⟨Nat.le_refl _, by omega⟩ (by first | assumption | omega | decide | solve_by_elim)) ?_)
      rintro _ ⟨h844x, rfl, f844x, l844x, c044x, p044x, p144x, p244x, p344x⟩
      show wq 174 62 [(3, .int (v17x.1)), (2, .int (v8x.1)), (1, .int (v2x.1)), (0, .ref 162)] [] h844x 0 0 _
      obtain ⟨v45x, hv46x⟩ : ∃ x, x = (mGo tb sz (v12x.1) (v12x.2.1) (v12x.2.2.1) (v12x.2.2.2) (v17x.2.1)) := ⟨_, rfl⟩
      try rw [← hv46x] at c044x
      try rw [← hv46x] at p044x
      try rw [← hv46x] at p144x
      try rw [← hv46x] at p244x
      try rw [← hv46x] at p344x
      try rw [← hv46x]
      refine wq_gos (f := 1) (pc2 := 63) (ls2 := [(3, .int (v17x.1)), (2, .int (v8x.1)), (1, .int (v2x.1)), (0, .ref 162)]) (st2 := [.ref 162]) (h2 := h844x) (dc2 := 0) (ds2 := 0) 1 rfl ?_
      refine wq_getf rfl c044x rfl rfl ?_
      refine wq_gos (f := 1) (pc2 := 71) (ls2 := [(3, .int (v17x.1)), (2, .int (v8x.1)), (1, .int (v2x.1)), (0, .ref 162)]) (st2 := [.int (v8x.1), .int ((6 : Int32) + (v2x.1)), .ref 168]) (h2 := h844x) (dc2 := 0) (ds2 := 0) 4 rfl ?_
      have e47x := (f844x.2 _ _ (wnc (by decide) wn0) (f816x.2 _ _ (wnc (by decide) wn0) (f811x.2 _ _ (wnc (by decide) wn0) (f87x.2 _ _ (wnc (by decide) wn0) (f81x.2 _ _ (wnc (by decide) (wnc (by decide) wn0)) hLo)))))
      have q48x : (6 : Int32).toInt = 6 := rfl
      try have q49x : (((6 : Int32) + (v2x.1))).toInt = (6 : Int32).toInt + (v2x.1).toInt := e_add (by omega) (by omega)
      refine wq_iast rfl e47x (by first | omega | exact zin_t (by omega) (by omega)) rfl ?_
      intro hh50x e51x ff52x lh53x
      have e51x : zat hh50x 168 = some (.inl (0, 12, (zset 0 lo (((6 : Int32) + (v2x.1))).toNatClampNeg (v8x.1)))) := e51x
      refine wq_gos (f := 1) (pc2 := 73) (ls2 := [(3, .int (v17x.1)), (2, .int (v8x.1)), (1, .int (v2x.1)), (0, .ref 162)]) (st2 := [.ref 162]) (h2 := hh50x) (dc2 := 0) (ds2 := 0) 1 rfl ?_
      have e54x := (ff52x.2 _ _ (wnc (by decide) wn0) c044x)
      refine wq_getf rfl e54x rfl rfl ?_
      refine wq_gos (f := 1) (pc2 := 81) (ls2 := [(3, .int (v17x.1)), (2, .int (v8x.1)), (1, .int (v2x.1)), (0, .ref 162)]) (st2 := [.int (v17x.1), .int ((6 : Int32) + (v2x.1)), .ref 170]) (h2 := hh50x) (dc2 := 0) (ds2 := 0) 4 rfl ?_
      have e55x := (ff52x.2 _ _ (wnc (by decide) wn0) (f844x.2 _ _ (wnc (by decide) wn0) (f816x.2 _ _ (wnc (by decide) wn0) (f811x.2 _ _ (wnc (by decide) wn0) (f87x.2 _ _ (wnc (by decide) wn0) (f81x.2 _ _ (wnc (by decide) (wnc (by decide) wn0)) hHi))))))
      refine wq_iast rfl e55x (by first | omega | exact zin_t (by omega) (by omega)) rfl ?_
      intro hh56x e57x ff58x lh59x
      have e57x : zat hh56x 170 = some (.inl (0, 12, (zset 0 hi (((6 : Int32) + (v2x.1))).toNatClampNeg (v17x.1)))) := e57x
      have e60x := (ff58x.2 _ _ (wnc (by decide) wn0) e54x)
      have e61x := (ff58x.2 _ _ (wnc (by decide) wn0) (ff52x.2 _ _ (wnc (by decide) wn0) (f844x.2 _ _ (wnc (by decide) wn0) (f816x.2 _ _ (wnc (by decide) wn0) (f811x.2 _ _ (wnc (by decide) wn0) (f87x.2 _ _ (wnc (by decide) wn0) c11x))))))
      have e62x := (ff58x.2 _ _ (wnc (by decide) wn0) e51x)
      have hx : (mRdL tb sz at9 pl so va ft fp hd lo hi) = ((v17x.2.1), (v17x.2.2), (v45x.1), (v45x.2.1), (v45x.2.2.1), (v45x.2.2.2), (v2x.2.2.2.2.2.2.2), (zset 0 lo (((6 : Int32) + (v2x.1))).toNatClampNeg (v8x.1)), (zset 0 hi (((6 : Int32) + (v2x.1))).toNatClampNeg (v17x.1))) := by unfold mRdL; rw [zlet_eq hv3x, zlet_eq hv9x, zlet_eq hv13x, zlet_eq hv18x, if_neg (fun q => q b19x), if_pos b42x, zlet_eq hv46x]
      rw [hx]
      exact wq_ret rfl rfl ⟨hh56x, rfl, (wFr_tr (wFr_sub f81x (by simp)) (wFr_tr (wFr_sub f87x (by simp)) (wFr_tr (wFr_sub f811x (by simp)) (wFr_tr (wFr_sub f816x (by simp)) (wFr_tr (wFr_sub f844x (by simp)) (wFr_tr (wFr_sub ff52x (by simp)) (wFr_sub ff58x (by simp)))))))), by omega, e60x, e61x, e62x, e57x, (by (try dsimp only); first | assumption | omega | (intro q9; first | assumption | omega) | (intro q9; exact wL2_set hw (by assumption) (by omega) (by omega) (by omega)) | exact wFh_six hz1 (by assumption) | exact wFh_six hz2 (by assumption)), (by (try dsimp only); first | assumption | omega | (intro q9; first | assumption | omega) | (intro q9; exact wL2_set hw (by assumption) (by omega) (by omega) (by omega)) | exact wFh_six hz1 (by assumption) | exact wFh_six hz2 (by assumption)), (by (try dsimp only); first | assumption | omega | (intro q9; first | assumption | omega) | (intro q9; exact wL2_set hw (by assumption) (by omega) (by omega) (by omega)) | exact wFh_six hz1 (by assumption) | exact wFh_six hz2 (by assumption)), (by (try dsimp only); first | assumption | omega | (intro q9; first | assumption | omega) | (intro q9; exact wL2_set hw (by assumption) (by omega) (by omega) (by omega)) | exact wFh_six hz1 (by assumption) | exact wFh_six hz2 (by assumption)), (by (try dsimp only); first | assumption | omega | (intro q9; first | assumption | omega) | (intro q9; exact wL2_set hw (by assumption) (by omega) (by omega) (by omega)) | exact wFh_six hz1 (by assumption) | exact wFh_six hz2 (by assumption)), (by (try dsimp only); first | assumption | omega | (intro q9; first | assumption | omega) | (intro q9; exact wL2_set hw (by assumption) (by omega) (by omega) (by omega)) | exact wFh_six hz1 (by assumption) | exact wFh_six hz2 (by assumption)), (by (try dsimp only); first | assumption | omega | (intro q9; first | assumption | omega) | (intro q9; exact wL2_set hw (by assumption) (by omega) (by omega) (by omega)) | exact wFh_six hz1 (by assumption) | exact wFh_six hz2 (by assumption)), (by (try dsimp only); first | assumption | omega | (intro q9; first | assumption | omega) | (intro q9; exact wL2_set hw (by assumption) (by omega) (by omega) (by omega)) | exact wFh_six hz1 (by assumption) | exact wFh_six hz2 (by assumption))⟩
    · refine wq_gos (f := 1) (pc2 := 55) (ls2 := [(3, .int (v17x.1)), (2, .int (v8x.1)), (1, .int (v2x.1)), (0, .ref 162)]) (st2 := [.int 2, .ref 162]) (h2 := h816x) (dc2 := 0) (ds2 := 0) 2 rfl ?_
      have q63x : (2 : Int32).toInt = 2 := rfl
      refine wq_inlv (y2 := 163) (as := [.int 2]) rfl rfl rfl c016x rfl (wq_mono (m_wro c016x (by first | assumption | omega | decide | solve_by_elim) (by first | assumption | omega | decide | solve_by_elim)) ?_)
      rintro _ ⟨h864x, rfl, f864x, l864x, c064x, p064x⟩
      show wq 174 58 [(3, .int (v17x.1)), (2, .int (v8x.1)), (1, .int (v2x.1)), (0, .ref 162)] [] h864x 0 0 _
      obtain ⟨v65x, hv66x⟩ : ∃ x, x = (mWro (v12x.2.1) (v17x.2.1) (v17x.2.2) (2 : Int32)) := ⟨_, rfl⟩
      try rw [← hv66x] at c064x
      try rw [← hv66x] at p064x
      try rw [← hv66x]
      refine wq_gos (f := 1) (pc2 := 59) (ls2 := [(3, .int (v17x.1)), (2, .int (v8x.1)), (1, .int (v2x.1)), (0, .ref 162)]) (st2 := [.ref 162]) (h2 := h864x) (dc2 := 0) (ds2 := 0) 1 rfl ?_
      have e67x := (f864x.2 _ _ (wnc (by decide) wn0) (f816x.2 _ _ (wnc (by decide) wn0) (f811x.2 _ _ (wnc (by decide) wn0) e10x)))
      refine wq_inlv (y2 := 164) (as := []) rfl rfl rfl c064x rfl (wq_mono (m_go c064x e67x (by first | assumption | omega | decide | solve_by_elim) ⟨Nat.le_refl _, by omega⟩ (by first | assumption | omega | decide | solve_by_elim)) ?_)
      rintro _ ⟨h868x, rfl, f868x, l868x, c068x, p068x, p168x, p268x, p368x⟩
      show wq 174 62 [(3, .int (v17x.1)), (2, .int (v8x.1)), (1, .int (v2x.1)), (0, .ref 162)] [] h868x 0 0 _
      obtain ⟨v69x, hv70x⟩ : ∃ x, x = (mGo tb sz (v12x.1) (v12x.2.1) (v12x.2.2.1) (v12x.2.2.2) (v65x.1)) := ⟨_, rfl⟩
      try rw [← hv70x] at c068x
      try rw [← hv70x] at p068x
      try rw [← hv70x] at p168x
      try rw [← hv70x] at p268x
      try rw [← hv70x] at p368x
      try rw [← hv70x]
      refine wq_gos (f := 1) (pc2 := 63) (ls2 := [(3, .int (v17x.1)), (2, .int (v8x.1)), (1, .int (v2x.1)), (0, .ref 162)]) (st2 := [.ref 162]) (h2 := h868x) (dc2 := 0) (ds2 := 0) 1 rfl ?_
      refine wq_getf rfl c068x rfl rfl ?_
      refine wq_gos (f := 1) (pc2 := 71) (ls2 := [(3, .int (v17x.1)), (2, .int (v8x.1)), (1, .int (v2x.1)), (0, .ref 162)]) (st2 := [.int (v8x.1), .int ((6 : Int32) + (v2x.1)), .ref 168]) (h2 := h868x) (dc2 := 0) (ds2 := 0) 4 rfl ?_
      have e71x := (f868x.2 _ _ (wnc (by decide) wn0) (f864x.2 _ _ (wnc (by decide) wn0) (f816x.2 _ _ (wnc (by decide) wn0) (f811x.2 _ _ (wnc (by decide) wn0) (f87x.2 _ _ (wnc (by decide) wn0) (f81x.2 _ _ (wnc (by decide) (wnc (by decide) wn0)) hLo))))))
      have q72x : (6 : Int32).toInt = 6 := rfl
      try have q73x : (((6 : Int32) + (v2x.1))).toInt = (6 : Int32).toInt + (v2x.1).toInt := e_add (by omega) (by omega)
      refine wq_iast rfl e71x (by first | omega | exact zin_t (by omega) (by omega)) rfl ?_
      intro hh74x e75x ff76x lh77x
      have e75x : zat hh74x 168 = some (.inl (0, 12, (zset 0 lo (((6 : Int32) + (v2x.1))).toNatClampNeg (v8x.1)))) := e75x
      refine wq_gos (f := 1) (pc2 := 73) (ls2 := [(3, .int (v17x.1)), (2, .int (v8x.1)), (1, .int (v2x.1)), (0, .ref 162)]) (st2 := [.ref 162]) (h2 := hh74x) (dc2 := 0) (ds2 := 0) 1 rfl ?_
      have e78x := (ff76x.2 _ _ (wnc (by decide) wn0) c068x)
      refine wq_getf rfl e78x rfl rfl ?_
      refine wq_gos (f := 1) (pc2 := 81) (ls2 := [(3, .int (v17x.1)), (2, .int (v8x.1)), (1, .int (v2x.1)), (0, .ref 162)]) (st2 := [.int (v17x.1), .int ((6 : Int32) + (v2x.1)), .ref 170]) (h2 := hh74x) (dc2 := 0) (ds2 := 0) 4 rfl ?_
      have e79x := (ff76x.2 _ _ (wnc (by decide) wn0) (f868x.2 _ _ (wnc (by decide) wn0) (f864x.2 _ _ (wnc (by decide) wn0) (f816x.2 _ _ (wnc (by decide) wn0) (f811x.2 _ _ (wnc (by decide) wn0) (f87x.2 _ _ (wnc (by decide) wn0) (f81x.2 _ _ (wnc (by decide) (wnc (by decide) wn0)) hHi)))))))
      refine wq_iast rfl e79x (by first | omega | exact zin_t (by omega) (by omega)) rfl ?_
      intro hh80x e81x ff82x lh83x
      have e81x : zat hh80x 170 = some (.inl (0, 12, (zset 0 hi (((6 : Int32) + (v2x.1))).toNatClampNeg (v17x.1)))) := e81x
      have e84x := (ff82x.2 _ _ (wnc (by decide) wn0) e78x)
      have e85x := (ff82x.2 _ _ (wnc (by decide) wn0) (ff76x.2 _ _ (wnc (by decide) wn0) (f868x.2 _ _ (wnc (by decide) wn0) (f864x.2 _ _ (wnc (by decide) wn0) (f816x.2 _ _ (wnc (by decide) wn0) (f811x.2 _ _ (wnc (by decide) wn0) (f87x.2 _ _ (wnc (by decide) wn0) c11x)))))))
      have e86x := (ff82x.2 _ _ (wnc (by decide) wn0) e75x)
      have hx : (mRdL tb sz at9 pl so va ft fp hd lo hi) = ((v65x.1), (v65x.2), (v69x.1), (v69x.2.1), (v69x.2.2.1), (v69x.2.2.2), (v2x.2.2.2.2.2.2.2), (zset 0 lo (((6 : Int32) + (v2x.1))).toNatClampNeg (v8x.1)), (zset 0 hi (((6 : Int32) + (v2x.1))).toNatClampNeg (v17x.1))) := by unfold mRdL; rw [zlet_eq hv3x, zlet_eq hv9x, zlet_eq hv13x, zlet_eq hv18x, if_neg (fun q => q b19x), if_neg (Int.not_le.mpr b42x), zlet_eq hv66x, zlet_eq hv70x]
      rw [hx]
      exact wq_ret rfl rfl ⟨hh80x, rfl, (wFr_tr (wFr_sub f81x (by simp)) (wFr_tr (wFr_sub f87x (by simp)) (wFr_tr (wFr_sub f811x (by simp)) (wFr_tr (wFr_sub f816x (by simp)) (wFr_tr (wFr_sub f864x (by simp)) (wFr_tr (wFr_sub f868x (by simp)) (wFr_tr (wFr_sub ff76x (by simp)) (wFr_sub ff82x (by simp))))))))), by omega, e84x, e85x, e86x, e81x, (by (try dsimp only); first | assumption | omega | (intro q9; first | assumption | omega) | (intro q9; exact wL2_set hw (by assumption) (by omega) (by omega) (by omega)) | exact wFh_six hz1 (by assumption) | exact wFh_six hz2 (by assumption)), (by (try dsimp only); first | assumption | omega | (intro q9; first | assumption | omega) | (intro q9; exact wL2_set hw (by assumption) (by omega) (by omega) (by omega)) | exact wFh_six hz1 (by assumption) | exact wFh_six hz2 (by assumption)), (by (try dsimp only); first | assumption | omega | (intro q9; first | assumption | omega) | (intro q9; exact wL2_set hw (by assumption) (by omega) (by omega) (by omega)) | exact wFh_six hz1 (by assumption) | exact wFh_six hz2 (by assumption)), (by (try dsimp only); first | assumption | omega | (intro q9; first | assumption | omega) | (intro q9; exact wL2_set hw (by assumption) (by omega) (by omega) (by omega)) | exact wFh_six hz1 (by assumption) | exact wFh_six hz2 (by assumption)), (by (try dsimp only); first | assumption | omega | (intro q9; first | assumption | omega) | (intro q9; exact wL2_set hw (by assumption) (by omega) (by omega) (by omega)) | exact wFh_six hz1 (by assumption) | exact wFh_six hz2 (by assumption)), (by (try dsimp only); first | assumption | omega | (intro q9; first | assumption | omega) | (intro q9; exact wL2_set hw (by assumption) (by omega) (by omega) (by omega)) | exact wFh_six hz1 (by assumption) | exact wFh_six hz2 (by assumption)), (by (try dsimp only); first | assumption | omega | (intro q9; first | assumption | omega) | (intro q9; exact wL2_set hw (by assumption) (by omega) (by omega) (by omega)) | exact wFh_six hz1 (by assumption) | exact wFh_six hz2 (by assumption)), (by (try dsimp only); first | assumption | omega | (intro q9; first | assumption | omega) | (intro q9; exact wL2_set hw (by assumption) (by omega) (by omega) (by omega)) | exact wFh_six hz1 (by assumption) | exact wFh_six hz2 (by assumption))⟩
noncomputable def mRdS (tb : List Int32) (sz at9 pl : Nat) (so va ft fp : Int32) (hd sv : List Int32) : Int32 × Int32 × Nat × Nat × Int32 × Int32 × List Int32 × List Int32 := (zlet (mRdJ tb sz at9 pl so va ft fp hd) (fun v2x => (zlet (mNml tb sz (v2x.2.2.2.1) (v2x.2.2.2.2.1) (v2x.2.2.2.2.2.1) (v2x.2.2.2.2.2.2.1) (v2x.2.1) (v2x.2.2.1) (1 : Int32) (32 : Int32)) (fun v8x => ((v8x.2.1), (v8x.2.2.1), (v8x.2.2.2.1), (v8x.2.2.2.2.1), (v8x.2.2.2.2.2.1), (v8x.2.2.2.2.2.2), (v2x.2.2.2.2.2.2.2), (zset 0 sv (((6 : Int32) + (v2x.1))).toNatClampNeg (v8x.1)))))))
set_option maxRecDepth 100000 in
set_option maxHeartbeats 4000000 in
theorem m_rdS {h : zH} {n0 n2 n14 n22 n23 n27 n28 n32 n33 n34 n35 n39 n52 : Int32} {sz at9 pl : Nat} {so va ft fp : Int32} {tb : List Int32} {a0 : Nat} {hd sv s0 : List Int32} (hM : zat h 162 = some (.inr (.inr (.inr (10, mO n0 n2 n14 (nI sz) (nI at9) (nI pl) so va ft fp n22 n23 n27 n28 n32 n33 n34 n35 n39 n52))))) (hT : zat h 164 = some (.inl (0, 700, tb))) (hHd : zat h 186 = some (.inl (2, 6, hd))) (hSv : zat h 172 = some (.inl (0, 12, sv))) (hsz : sz ≤ 700) (ha : a0 ≤ at9 ∧ at9 ≤ sz) (hp : pl ≤ at9) (hf0 : 0 ≤ ft.toInt) (hw : wS2 sv) (hz1 : wFh 6 s0 sv) : wq 175 0 [(0, .ref 162)] [] h 0 0 (fun rr9 => ∃ (h2 : zH), rr9 = (none, h2, 0, 0) ∧ wFr [162, 186, 172] h h2 ∧ h2.length = h.length ∧ zat h2 162 = some (.inr (.inr (.inr (10, mO n0 n2 n14 (nI sz) (nI ((mRdS tb sz at9 pl so va ft fp hd sv).2.2.1)) (nI ((mRdS tb sz at9 pl so va ft fp hd sv).2.2.2.1)) ((mRdS tb sz at9 pl so va ft fp hd sv).2.2.2.2.1) ((mRdS tb sz at9 pl so va ft fp hd sv).2.2.2.2.2.1) ((mRdS tb sz at9 pl so va ft fp hd sv).1) ((mRdS tb sz at9 pl so va ft fp hd sv).2.1) n22 n23 n27 n28 n32 n33 n34 n35 n39 n52)))) ∧ zat h2 186 = some (.inl (2, 6, ((mRdS tb sz at9 pl so va ft fp hd sv).2.2.2.2.2.2.1))) ∧ zat h2 172 = some (.inl (0, 12, ((mRdS tb sz at9 pl so va ft fp hd sv).2.2.2.2.2.2.2))) ∧ ((a0 ≤ ((mRdS tb sz at9 pl so va ft fp hd sv).2.2.1))) ∧ ((((mRdS tb sz at9 pl so va ft fp hd sv).2.2.1) ≤ sz)) ∧ ((((mRdS tb sz at9 pl so va ft fp hd sv).2.2.2.1) ≤ ((mRdS tb sz at9 pl so va ft fp hd sv).2.2.1))) ∧ ((0 ≤ (((mRdS tb sz at9 pl so va ft fp hd sv).1)).toInt)) ∧ ((((((mRdS tb sz at9 pl so va ft fp hd sv).1)).toInt ≠ 0 ∨ (((mRdS tb sz at9 pl so va ft fp hd sv).2.2.2.2.1)).toInt ≠ 4 ∨ a0 < ((mRdS tb sz at9 pl so va ft fp hd sv).2.2.1)))) ∧ ((wS2 (((mRdS tb sz at9 pl so va ft fp hd sv).2.2.2.2.2.2.2)))) ∧ ((wFh 6 s0 (((mRdS tb sz at9 pl so va ft fp hd sv).2.2.2.2.2.2.2))))) := by
  have zm1 : (-1 : Int32).toInt = -1 := rfl
  have z0 : (0 : Int32).toInt = 0 := rfl
  have z1 : (1 : Int32).toInt = 1 := rfl
  have z2 : (2 : Int32).toInt = 2 := rfl
  have z3 : (3 : Int32).toInt = 3 := rfl
  have z4 : (4 : Int32).toInt = 4 := rfl
  have z5 : (5 : Int32).toInt = 5 := rfl
  have z6 : (6 : Int32).toInt = 6 := rfl
  have z8 : (8 : Int32).toInt = 8 := rfl
  have z9 : (9 : Int32).toInt = 9 := rfl
  have z10 : (10 : Int32).toInt = 10 := rfl
  have z32 : (32 : Int32).toInt = 32 := rfl
  have z99 : (99 : Int32).toInt = 99 := rfl
  have z99999 : (99999 : Int32).toInt = 99999 := rfl
  refine wq_gos (f := 1) (pc2 := 2) (ls2 := [(0, .ref 162)]) (st2 := [.ref 162, .ref 162]) (h2 := h) (dc2 := 0) (ds2 := 0) 2 rfl ?_
  refine wq_getf rfl hM rfl rfl ?_
  refine wq_inlv (y2 := 173) (as := [.ref 186]) rfl rfl rfl hM rfl (wq_mono (m_rdJ hM hT hHd (by first | assumption | omega | decide | solve_by_elim) ⟨Nat.le_refl _, by omega⟩ (by first | assumption | omega | decide | solve_by_elim) (by first | assumption | omega | decide | solve_by_elim) (by first | assumption | omega | decide | solve_by_elim)) ?_)
  rintro _ ⟨h81x, rfl, f81x, l81x, c01x, c11x, p01x, p11x, p21x, p31x, p41x, p51x⟩
  show wq 175 8 [(0, .ref 162)] [.int ((mRdJ tb sz at9 pl so va ft fp hd).1)] h81x 0 0 _
  obtain ⟨v2x, hv3x⟩ : ∃ x, x = (mRdJ tb sz at9 pl so va ft fp hd) := ⟨_, rfl⟩
  try rw [← hv3x] at c01x
  try rw [← hv3x] at c11x
  try rw [← hv3x] at p01x
  try rw [← hv3x] at p11x
  try rw [← hv3x] at p21x
  try rw [← hv3x] at p31x
  try rw [← hv3x] at p41x
  try rw [← hv3x] at p51x
  try rw [← hv3x]
  refine wq_gos (f := 1) (pc2 := 10) (ls2 := [(1, .int (v2x.1)), (0, .ref 162)]) (st2 := [.ref 162]) (h2 := h81x) (dc2 := 0) (ds2 := 0) 2 rfl ?_
  refine wq_getf rfl c01x rfl rfl ?_
  refine wq_gos (f := 1) (pc2 := 21) (ls2 := [(1, .int (v2x.1)), (0, .ref 162)]) (st2 := [.int 32, .int 1, .ref 162, .int ((6 : Int32) + (v2x.1)), .ref 172]) (h2 := h81x) (dc2 := 0) (ds2 := 0) 6 rfl ?_
  have e4x := (f81x.2 _ _ (wnc (by decide) (wnc (by decide) wn0)) hT)
  have q5x : (1 : Int32).toInt = 1 := rfl
  have q6x : (32 : Int32).toInt = 32 := rfl
  refine wq_inlv (y2 := 166) (as := [.int 1, .int 32]) rfl rfl rfl c01x rfl (wq_mono (m_nml c01x e4x (by first | assumption | omega | decide | solve_by_elim) ⟨Nat.le_refl _, by omega⟩ (by first | assumption | omega | decide | solve_by_elim) (by first | assumption | omega | decide | solve_by_elim)) ?_)
  rintro _ ⟨h87x, rfl, f87x, l87x, c07x, p07x, p17x, p27x, p37x, p47x, p57x⟩
  show wq 175 24 [(1, .int (v2x.1)), (0, .ref 162)] [.int ((mNml tb sz (v2x.2.2.2.1) (v2x.2.2.2.2.1) (v2x.2.2.2.2.2.1) (v2x.2.2.2.2.2.2.1) (v2x.2.1) (v2x.2.2.1) (1 : Int32) (32 : Int32)).1), .int ((6 : Int32) + (v2x.1)), .ref 172] h87x 0 0 _
  obtain ⟨v8x, hv9x⟩ : ∃ x, x = (mNml tb sz (v2x.2.2.2.1) (v2x.2.2.2.2.1) (v2x.2.2.2.2.2.1) (v2x.2.2.2.2.2.2.1) (v2x.2.1) (v2x.2.2.1) (1 : Int32) (32 : Int32)) := ⟨_, rfl⟩
  try rw [← hv9x] at c07x
  try rw [← hv9x] at p07x
  try rw [← hv9x] at p17x
  try rw [← hv9x] at p27x
  try rw [← hv9x] at p37x
  try rw [← hv9x] at p47x
  try rw [← hv9x] at p57x
  try rw [← hv9x]
  have e10x := (f87x.2 _ _ (wnc (by decide) wn0) (f81x.2 _ _ (wnc (by decide) (wnc (by decide) wn0)) hSv))
  have q11x : (6 : Int32).toInt = 6 := rfl
  try have q12x : (((6 : Int32) + (v2x.1))).toInt = (6 : Int32).toInt + (v2x.1).toInt := e_add (by omega) (by omega)
  refine wq_iast rfl e10x (by first | omega | exact zin_t (by omega) (by omega)) rfl ?_
  intro hh13x e14x ff15x lh16x
  have e14x : zat hh13x 172 = some (.inl (0, 12, (zset 0 sv (((6 : Int32) + (v2x.1))).toNatClampNeg (v8x.1)))) := e14x
  have e17x := (ff15x.2 _ _ (wnc (by decide) wn0) c07x)
  have e18x := (ff15x.2 _ _ (wnc (by decide) wn0) (f87x.2 _ _ (wnc (by decide) wn0) c11x))
  have hx : (mRdS tb sz at9 pl so va ft fp hd sv) = ((v8x.2.1), (v8x.2.2.1), (v8x.2.2.2.1), (v8x.2.2.2.2.1), (v8x.2.2.2.2.2.1), (v8x.2.2.2.2.2.2), (v2x.2.2.2.2.2.2.2), (zset 0 sv (((6 : Int32) + (v2x.1))).toNatClampNeg (v8x.1))) := by unfold mRdS; rw [zlet_eq hv3x, zlet_eq hv9x]
  rw [hx]
  exact wq_ret rfl rfl ⟨hh13x, rfl, (wFr_tr (wFr_sub f81x (by simp)) (wFr_tr (wFr_sub f87x (by simp)) (wFr_sub ff15x (by simp)))), by omega, e17x, e18x, e14x, (by (try dsimp only); first | assumption | omega | (intro q9; first | assumption | omega) | exact wS2_set hw (by assumption) (by omega) | exact wFh_six hz1 (by assumption)), (by (try dsimp only); first | assumption | omega | (intro q9; first | assumption | omega) | exact wS2_set hw (by assumption) (by omega) | exact wFh_six hz1 (by assumption)), (by (try dsimp only); first | assumption | omega | (intro q9; first | assumption | omega) | exact wS2_set hw (by assumption) (by omega) | exact wFh_six hz1 (by assumption)), (by (try dsimp only); first | assumption | omega | (intro q9; first | assumption | omega) | exact wS2_set hw (by assumption) (by omega) | exact wFh_six hz1 (by assumption)), (by (try dsimp only); first | assumption | omega | (intro q9; first | assumption | omega) | exact wS2_set hw (by assumption) (by omega) | exact wFh_six hz1 (by assumption)), (by (try dsimp only); first | assumption | omega | (intro q9; first | assumption | omega) | exact wS2_set hw (by assumption) (by omega) | exact wFh_six hz1 (by assumption)), (by (try dsimp only); first | assumption | omega | (intro q9; first | assumption | omega) | exact wS2_set hw (by assumption) (by omega) | exact wFh_six hz1 (by assumption))⟩
