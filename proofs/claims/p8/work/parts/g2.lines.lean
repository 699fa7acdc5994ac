/-! The reference: a text's lines. -/
noncomputable def mWro (pl : Nat) (ft fp kd : Int32) : Int32 × Int32 := (if ft = (0 : Int32) then (kd, (nI pl)) else (ft, fp))
set_option maxRecDepth 100000 in
set_option maxHeartbeats 4000000 in
theorem m_wro {h : zH} {n0 n2 n14 n22 n23 n27 n28 n32 n33 n34 n35 n39 n52 : Int32} {sz at9 pl : Nat} {so va ft fp : Int32} {kd : Int32} (hM : zat h 162 = some (.inr (.inr (.inr (10, mO n0 n2 n14 (nI sz) (nI at9) (nI pl) so va ft fp n22 n23 n27 n28 n32 n33 n34 n35 n39 n52))))) (hf0 : 0 ≤ ft.toInt) (hkd : 1 ≤ kd.toInt) : wq 163 0 [(0, .ref 162), (1, .int kd)] [] h 0 0 (fun rr9 => ∃ (h2 : zH), rr9 = (none, h2, 0, 0) ∧ wFr [162] h h2 ∧ h2.length = h.length ∧ zat h2 162 = some (.inr (.inr (.inr (10, mO n0 n2 n14 (nI sz) (nI at9) (nI pl) so va ((mWro pl ft fp kd).1) ((mWro pl ft fp kd).2) n22 n23 n27 n28 n32 n33 n34 n35 n39 n52)))) ∧ ((1 ≤ (((mWro pl ft fp kd).1)).toInt))) := by
  have zm1 : (-1 : Int32).toInt = -1 := rfl
  have z0 : (0 : Int32).toInt = 0 := rfl
  have z1 : (1 : Int32).toInt = 1 := rfl
  have z2 : (2 : Int32).toInt = 2 := rfl
  have z3 : (3 : Int32).toInt = 3 := rfl
  have z4 : (4 : Int32).toInt = 4 := rfl
  have z5 : (5 : Int32).toInt = 5 := rfl
  have z6 : (6 : Int32).toInt = 6 := rfl
  have z8 : (8 : Int32).toInt = 8 := rfl
  have z9 : (9 : Int32).toInt = 9 := rfl
  have z10 : (10 : Int32).toInt = 10 := rfl
  have z32 : (32 : Int32).toInt = 32 := rfl
  have z99 : (99 : Int32).toInt = 99 := rfl
  have z99999 : (99999 : Int32).toInt = 99999 := rfl
  refine wq_gos (f := 1) (pc2 := 1) (ls2 := [(0, .ref 162), (1, .int kd)]) (st2 := [.ref 162]) (h2 := h) (dc2 := 0) (ds2 := 0) 1 rfl ?_
  refine wq_getf rfl hM rfl rfl ?_
  refine wq_eq0 rfl rfl (fun b1x => ?_) (fun b1x => ?_)
  · have q2x : ft.toInt = 0 := congrArg Int32.toInt b1x
    refine wq_gos (f := 1) (pc2 := 10) (ls2 := [(0, .ref 162), (1, .int kd)]) (st2 := [.int kd, .ref 162]) (h2 := h) (dc2 := 0) (ds2 := 0) 2 rfl ?_
    refine wq_putf rfl hM rfl rfl rfl ?_
    intro h3x e4x f5x l6x
    have e4x : zat h3x 162 = some (.inr (.inr (.inr (10, mO n0 n2 n14 (nI sz) (nI at9) (nI pl) so va kd fp n22 n23 n27 n28 n32 n33 n34 n35 n39 n52)))) := e4x
    refine wq_gos (f := 1) (pc2 := 15) (ls2 := [(0, .ref 162), (1, .int kd)]) (st2 := [.ref 162, .ref 162]) (h2 := h3x) (dc2 := 0) (ds2 := 0) 2 rfl ?_
    refine wq_getf rfl e4x rfl rfl ?_
    refine wq_putf rfl e4x rfl rfl rfl ?_
    intro h7x e8x f9x l10x
    have e8x : zat h7x 162 = some (.inr (.inr (.inr (10, mO n0 n2 n14 (nI sz) (nI at9) (nI pl) so va kd (nI pl) n22 n23 n27 n28 n32 n33 n34 n35 n39 n52)))) := e8x
    have hx : (mWro pl ft fp kd) = (kd, (nI pl)) := by unfold mWro; rw [if_pos b1x]
    rw [hx]
    exact wq_ret rfl rfl ⟨h7x, rfl, (wFr_tr (wFr_sub f5x (by simp)) (wFr_sub f9x (by simp))), by omega, e8x, (by first | assumption | ((try dsimp only); omega) | ((try dsimp only); intro q9; omega) | ((try dsimp only); intro q9 q8; omega))⟩
  · have q11x : ft.toInt ≠ 0 := fun q => b1x (Int32.toInt_inj.mp q)
    have hx : (mWro pl ft fp kd) = (ft, fp) := by unfold mWro; rw [if_neg b1x]
    rw [hx]
    exact wq_ret rfl rfl ⟨h, rfl, (wFr_rf _ _), by omega, hM, (by first | assumption | ((try dsimp only); omega) | ((try dsimp only); intro q9; omega) | ((try dsimp only); intro q9 q8; omega))⟩
noncomputable def mGo (tb : List Int32) (sz at9 pl : Nat) (so va ft : Int32) : Nat × Nat × Int32 × Int32 := (if ft ≠ (0 : Int32) then (at9, pl, so, va) else (zlet (mTok tb sz at9 va) (fun v5x => ((v5x.1), (v5x.2.1), (v5x.2.2.1), (v5x.2.2.2)))))
set_option maxRecDepth 100000 in
set_option maxHeartbeats 4000000 in
theorem m_go {h : zH} {n0 n2 n14 n22 n23 n27 n28 n32 n33 n34 n35 n39 n52 : Int32} {sz at9 pl : Nat} {so va ft fp : Int32} {tb : List Int32} {a0 : Nat} (hM : zat h 162 = some (.inr (.inr (.inr (10, mO n0 n2 n14 (nI sz) (nI at9) (nI pl) so va ft fp n22 n23 n27 n28 n32 n33 n34 n35 n39 n52))))) (hT : zat h 164 = some (.inl (0, 700, tb))) (hsz : sz ≤ 700) (ha : a0 ≤ at9 ∧ at9 ≤ sz) (hp : pl ≤ at9) : wq 164 0 [(0, .ref 162)] [] h 0 0 (fun rr9 => ∃ (h2 : zH), rr9 = (none, h2, 0, 0) ∧ wFr [162] h h2 ∧ h2.length = h.length ∧ zat h2 162 = some (.inr (.inr (.inr (10, mO n0 n2 n14 (nI sz) (nI ((mGo tb sz at9 pl so va ft).1)) (nI ((mGo tb sz at9 pl so va ft).2.1)) ((mGo tb sz at9 pl so va ft).2.2.1) ((mGo tb sz at9 pl so va ft).2.2.2) ft fp n22 n23 n27 n28 n32 n33 n34 n35 n39 n52)))) ∧ ((a0 ≤ ((mGo tb sz at9 pl so va ft).1))) ∧ ((((mGo tb sz at9 pl so va ft).1) ≤ sz)) ∧ ((ft.toInt = 0 → (((mGo tb sz at9 pl so va ft).2.2.1)).toInt = 4 → a0 < ((mGo tb sz at9 pl so va ft).1))) ∧ ((((mGo tb sz at9 pl so va ft).2.1) ≤ ((mGo tb sz at9 pl so va ft).1)))) := by
  have zm1 : (-1 : Int32).toInt = -1 := rfl
  have z0 : (0 : Int32).toInt = 0 := rfl
  have z1 : (1 : Int32).toInt = 1 := rfl
  have z2 : (2 : Int32).toInt = 2 := rfl
  have z3 : (3 : Int32).toInt = 3 := rfl
  have z4 : (4 : Int32).toInt = 4 := rfl
  have z5 : (5 : Int32).toInt = 5 := rfl
  have z6 : (6 : Int32).toInt = 6 := rfl
  have z8 : (8 : Int32).toInt = 8 := rfl
  have z9 : (9 : Int32).toInt = 9 := rfl
  have z10 : (10 : Int32).toInt = 10 := rfl
  have z32 : (32 : Int32).toInt = 32 := rfl
  have z99 : (99 : Int32).toInt = 99 := rfl
  have z99999 : (99999 : Int32).toInt = 99999 := rfl
  refine wq_gos (f := 1) (pc2 := 1) (ls2 := [(0, .ref 162)]) (st2 := [.ref 162]) (h2 := h) (dc2 := 0) (ds2 := 0) 1 rfl ?_
  refine wq_getf rfl hM rfl rfl ?_
  refine wq_ne0 rfl rfl (fun b1x => ?_) (fun b1x => ?_)
  · have q2x : ft.toInt ≠ 0 := fun q => b1x (Int32.toInt_inj.mp q)
    have hx : (mGo tb sz at9 pl so va ft) = (at9, pl, so, va) := by unfold mGo; rw [if_pos b1x]
    rw [hx]
    exact wq_ret rfl rfl ⟨h, rfl, (wFr_rf _ _), by omega, hM, (by first | assumption | ((try dsimp only); omega) | ((try dsimp only); intro q9; omega) | ((try dsimp only); intro q9 q8; omega)), (by first | assumption | ((try dsimp only); omega) | ((try dsimp only); intro q9; omega) | ((try dsimp only); intro q9 q8; omega)), (by first | assumption | ((try dsimp only); omega) | ((try dsimp only); intro q9; omega) | ((try dsimp only); intro q9 q8; omega)), (by first | assumption | ((try dsimp only); omega) | ((try dsimp only); intro q9; omega) | ((try dsimp only); intro q9 q8; omega))⟩
  · have q3x : ft.toInt = 0 := congrArg Int32.toInt b1x
    refine wq_gos (f := 1) (pc2 := 8) (ls2 := [(0, .ref 162)]) (st2 := [.ref 162]) (h2 := h) (dc2 := 0) (ds2 := 0) 1 rfl ?_
    refine wq_inlv (y2 := 159) (as := []) rfl rfl rfl hM rfl (wq_mono (m_tok hM hT (by first | assumption | omega | decide | solve_by_elim) ha) ?_)
    rintro _ ⟨h84x, rfl, f84x, l84x, c04x, p04x, p14x, p24x, p34x⟩
    show wq 164 11 [(0, .ref 162)] [] h84x 0 0 _
    obtain ⟨v5x, hv6x⟩ : ∃ x, x = (mTok tb sz at9 va) := ⟨_, rfl⟩
    try rw [← hv6x] at c04x
    try rw [← hv6x] at p04x
    try rw [← hv6x] at p14x
    try rw [← hv6x] at p24x
    try rw [← hv6x] at p34x
    try rw [← hv6x]
    have hx : (mGo tb sz at9 pl so va ft) = ((v5x.1), (v5x.2.1), (v5x.2.2.1), (v5x.2.2.2)) := by unfold mGo; rw [if_neg (fun q => q b1x), zlet_eq hv6x]
    rw [hx]
    exact wq_ret rfl rfl ⟨h84x, rfl, (wFr_sub f84x (by simp)), by omega, c04x, (by first | assumption | ((try dsimp only); omega) | ((try dsimp only); intro q9; omega) | ((try dsimp only); intro q9 q8; omega)), (by first | assumption | ((try dsimp only); omega) | ((try dsimp only); intro q9; omega) | ((try dsimp only); intro q9 q8; omega)), (by first | assumption | ((try dsimp only); omega) | ((try dsimp only); intro q9; omega) | ((try dsimp only); intro q9 q8; omega)), (by first | assumption | ((try dsimp only); omega) | ((try dsimp only); intro q9; omega) | ((try dsimp only); intro q9 q8; omega))⟩
noncomputable def mAtH (pl : Nat) (so va ft fp b lo9 hi9 : Int32) : Int32 × Int32 × Int32 := (if ft = (0 : Int32) then (if so = (2 : Int32) then (if va.toInt < lo9.toInt then (zlet (mWro pl ft fp (2 : Int32)) (fun v8x => (if (v8x.1) ≠ (0 : Int32) then (lo9, (v8x.1), (v8x.2)) else (va, (v8x.1), (v8x.2))))) else (if va.toInt ≤ hi9.toInt then (if ft ≠ (0 : Int32) then (lo9, ft, fp) else (va, ft, fp)) else (zlet (mWro pl ft fp (2 : Int32)) (fun v18x => (if (v18x.1) ≠ (0 : Int32) then (lo9, (v18x.1), (v18x.2)) else (va, (v18x.1), (v18x.2))))))) else (if b = (0 : Int32) then (zlet (mWro pl ft fp (1 : Int32)) (fun v28x => (if (v28x.1) ≠ (0 : Int32) then (lo9, (v28x.1), (v28x.2)) else (va, (v28x.1), (v28x.2))))) else (if so = (3 : Int32) then (if va.toInt < lo9.toInt then (zlet (mWro pl ft fp (2 : Int32)) (fun v39x => (if (v39x.1) ≠ (0 : Int32) then (lo9, (v39x.1), (v39x.2)) else (va, (v39x.1), (v39x.2))))) else (if va.toInt ≤ hi9.toInt then (if ft ≠ (0 : Int32) then (lo9, ft, fp) else (va, ft, fp)) else (zlet (mWro pl ft fp (2 : Int32)) (fun v49x => (if (v49x.1) ≠ (0 : Int32) then (lo9, (v49x.1), (v49x.2)) else (va, (v49x.1), (v49x.2))))))) else (zlet (mWro pl ft fp (1 : Int32)) (fun v57x => (if (v57x.1) ≠ (0 : Int32) then (lo9, (v57x.1), (v57x.2)) else (va, (v57x.1), (v57x.2)))))))) else (lo9, ft, fp))
set_option maxRecDepth 100000 in
set_option maxHeartbeats 4000000 in
theorem m_atH {h : zH} {n0 n2 n14 n22 n23 n27 n28 n32 n33 n34 n35 n39 n52 : Int32} {sz at9 pl : Nat} {so va ft fp : Int32} {b lo9 hi9 : Int32} (hM : zat h 162 = some (.inr (.inr (.inr (10, mO n0 n2 n14 (nI sz) (nI at9) (nI pl) so va ft fp n22 n23 n27 n28 n32 n33 n34 n35 n39 n52))))) (hf0 : 0 ≤ ft.toInt) : wq 165 0 [(0, .ref 162), (1, .int b), (2, .int lo9), (3, .int hi9)] [] h 0 0 (fun rr9 => ∃ (h2 : zH), rr9 = (some (.int ((mAtH pl so va ft fp b lo9 hi9).1)), h2, 0, 0) ∧ wFr [162] h h2 ∧ h2.length = h.length ∧ zat h2 162 = some (.inr (.inr (.inr (10, mO n0 n2 n14 (nI sz) (nI at9) (nI pl) so va ((mAtH pl so va ft fp b lo9 hi9).2.1) ((mAtH pl so va ft fp b lo9 hi9).2.2) n22 n23 n27 n28 n32 n33 n34 n35 n39 n52)))) ∧ ((0 ≤ (((mAtH pl so va ft fp b lo9 hi9).2.1)).toInt)) ∧ ((lo9.toInt ≤ hi9.toInt → lo9.toInt ≤ (((mAtH pl so va ft fp b lo9 hi9).1)).toInt ∧ (((mAtH pl so va ft fp b lo9 hi9).1)).toInt ≤ hi9.toInt))) := by
  have zm1 : (-1 : Int32).toInt = -1 := rfl
  have z0 : (0 : Int32).toInt = 0 := rfl
  have z1 : (1 : Int32).toInt = 1 := rfl
  have z2 : (2 : Int32).toInt = 2 := rfl
  have z3 : (3 : Int32).toInt = 3 := rfl
  have z4 : (4 : Int32).toInt = 4 := rfl
  have z5 : (5 : Int32).toInt = 5 := rfl
  have z6 : (6 : Int32).toInt = 6 := rfl
  have z8 : (8 : Int32).toInt = 8 := rfl
  have z9 : (9 : Int32).toInt = 9 := rfl
  have z10 : (10 : Int32).toInt = 10 := rfl
  have z32 : (32 : Int32).toInt = 32 := rfl
  have z99 : (99 : Int32).toInt = 99 := rfl
  have z99999 : (99999 : Int32).toInt = 99999 := rfl
  refine wq_gos (f := 1) (pc2 := 1) (ls2 := [(0, .ref 162), (1, .int b), (2, .int lo9), (3, .int hi9)]) (st2 := [.ref 162]) (h2 := h) (dc2 := 0) (ds2 := 0) 1 rfl ?_
  refine wq_getf rfl hM rfl rfl ?_
  refine wq_eq0 rfl rfl (fun b1x => ?_) (fun b1x => ?_)
  · have q2x : ft.toInt = 0 := congrArg Int32.toInt b1x
    refine wq_gos (f := 1) (pc2 := 10) (ls2 := [(0, .ref 162), (1, .int b), (2, .int lo9), (3, .int hi9)]) (st2 := [.ref 162]) (h2 := h) (dc2 := 0) (ds2 := 0) 1 rfl ?_
    refine wq_getf rfl hM rfl rfl ?_
    refine wq_gos (f := 1) (pc2 := 14) (ls2 := [(0, .ref 162), (1, .int b), (2, .int lo9), (3, .int hi9)]) (st2 := [.int 2, .int so]) (h2 := h) (dc2 := 0) (ds2 := 0) 1 rfl ?_
    have q3x : (2 : Int32).toInt = 2 := rfl
    refine wq_eq2 rfl rfl (fun b4x => ?_) (fun b4x => ?_)
    · have q5x : so.toInt = 2 := congrArg Int32.toInt b4x
      refine wq_gos (f := 1) (pc2 := 38) (ls2 := [(0, .ref 162), (1, .int b), (2, .int lo9), (3, .int hi9)]) (st2 := [.ref 162]) (h2 := h) (dc2 := 0) (ds2 := 0) 1 rfl ?_
      refine wq_getf rfl hM rfl rfl ?_
      refine wq_gos (f := 1) (pc2 := 42) (ls2 := [(0, .ref 162), (1, .int b), (2, .int lo9), (3, .int hi9)]) (st2 := [.int lo9, .int va]) (h2 := h) (dc2 := 0) (ds2 := 0) 1 rfl ?_
      refine wq_lt2 rfl rfl (fun b6x => ?_) (fun b6x => ?_)
      · refine wq_gos (f := 1) (pc2 := 55) (ls2 := [(0, .ref 162), (1, .int b), (2, .int lo9), (3, .int hi9)]) (st2 := [.int 2, .ref 162]) (h2 := h) (dc2 := 0) (ds2 := 0) 2 rfl ?_
        refine wq_inlv (y2 := 163) (as := [.int 2]) rfl rfl rfl hM rfl (wq_mono (m_wro hM (by first | assumption | omega | decide | solve_by_elim) (by first | assumption | omega | decide | solve_by_elim)) ?_)
        rintro _ ⟨h87x, rfl, f87x, l87x, c07x, p07x⟩
        show wq 165 58 [(0, .ref 162), (1, .int b), (2, .int lo9), (3, .int hi9)] [] h87x 0 0 _
        obtain ⟨v8x, hv9x⟩ : ∃ x, x = (mWro pl ft fp (2 : Int32)) := ⟨_, rfl⟩
        try rw [← hv9x] at c07x
        try rw [← hv9x] at p07x
        try rw [← hv9x]
        refine wq_gos (f := 1) (pc2 := 59) (ls2 := [(0, .ref 162), (1, .int b), (2, .int lo9), (3, .int hi9)]) (st2 := [.ref 162]) (h2 := h87x) (dc2 := 0) (ds2 := 0) 1 rfl ?_
        refine wq_getf rfl c07x rfl rfl ?_
        refine wq_ne0 rfl rfl (fun b10x => ?_) (fun b10x => ?_)
        · have q11x : (v8x.1).toInt ≠ 0 := fun q => b10x (Int32.toInt_inj.mp q)
          refine wq_gos (f := 1) (pc2 := 73) (ls2 := [(0, .ref 162), (1, .int b), (2, .int lo9), (3, .int hi9)]) (st2 := [.int lo9]) (h2 := h87x) (dc2 := 0) (ds2 := 0) 1 rfl ?_
          have hx : (mAtH pl so va ft fp b lo9 hi9) = (lo9, (v8x.1), (v8x.2)) := by unfold mAtH; rw [if_pos b1x, if_pos b4x, if_pos b6x, zlet_eq hv9x, if_pos b10x]
          rw [hx]
          exact wq_ret rfl rfl ⟨h87x, rfl, (wFr_sub f87x (by simp)), by omega, c07x, (by first | assumption | ((try dsimp only); omega) | ((try dsimp only); intro q9; omega) | ((try dsimp only); intro q9 q8; omega)), (by first | assumption | ((try dsimp only); omega) | ((try dsimp only); intro q9; omega) | ((try dsimp only); intro q9 q8; omega))⟩
        · have q12x : (v8x.1).toInt = 0 := congrArg Int32.toInt b10x
          refine wq_gos (f := 1) (pc2 := 66) (ls2 := [(0, .ref 162), (1, .int b), (2, .int lo9), (3, .int hi9)]) (st2 := [.ref 162]) (h2 := h87x) (dc2 := 0) (ds2 := 0) 1 rfl ?_
          refine wq_getf rfl c07x rfl rfl ?_
          refine wq_gos (f := 1) (pc2 := 73) (ls2 := [(0, .ref 162), (1, .int b), (2, .int lo9), (3, .int hi9)]) (st2 := [.int va]) (h2 := h87x) (dc2 := 0) (ds2 := 0) 1 rfl ?_
          have hx : (mAtH pl so va ft fp b lo9 hi9) = (va, (v8x.1), (v8x.2)) := by unfold mAtH; rw [if_pos b1x, if_pos b4x, if_pos b6x, zlet_eq hv9x, if_neg (fun q => q b10x)]
          rw [hx]
          exact wq_ret rfl rfl ⟨h87x, rfl, (wFr_sub f87x (by simp)), by omega, c07x, (by first | assumption | ((try dsimp only); omega) | ((try dsimp only); intro q9; omega) | ((try dsimp only); intro q9 q8; omega)), (by first | assumption | ((try dsimp only); omega) | ((try dsimp only); intro q9; omega) | ((try dsimp only); intro q9 q8; omega))⟩
      · refine wq_gos (f := 1) (pc2 := 46) (ls2 := [(0, .ref 162), (1, .int b), (2, .int lo9), (3, .int hi9)]) (st2 := [.ref 162]) (h2 := h) (dc2 := 0) (ds2 := 0) 1 rfl ?_
        refine wq_getf rfl hM rfl rfl ?_
        refine wq_gos (f := 1) (pc2 := 50) (ls2 := [(0, .ref 162), (1, .int b), (2, .int lo9), (3, .int hi9)]) (st2 := [.int hi9, .int va]) (h2 := h) (dc2 := 0) (ds2 := 0) 1 rfl ?_
        refine wq_le2 rfl rfl (fun b13x => ?_) (fun b13x => ?_)
        · refine wq_gos (f := 1) (pc2 := 59) (ls2 := [(0, .ref 162), (1, .int b), (2, .int lo9), (3, .int hi9)]) (st2 := [.ref 162]) (h2 := h) (dc2 := 0) (ds2 := 0) 1 rfl ?_
          refine wq_getf rfl hM rfl rfl ?_
          refine wq_ne0 rfl rfl (fun b14x => ?_) (fun b14x => ?_)
          · have q15x : ft.toInt ≠ 0 := fun q => b14x (Int32.toInt_inj.mp q)
            refine wq_gos (f := 1) (pc2 := 73) (ls2 := [(0, .ref 162), (1, .int b), (2, .int lo9), (3, .int hi9)]) (st2 := [.int lo9]) (h2 := h) (dc2 := 0) (ds2 := 0) 1 rfl ?_
            have hx : (mAtH pl so va ft fp b lo9 hi9) = (lo9, ft, fp) := by unfold mAtH; rw [if_pos b1x, if_pos b4x, if_neg (Int.not_lt.mpr b6x), if_pos b13x, if_pos b14x]
            rw [hx]
            exact wq_ret rfl rfl ⟨h, rfl, (wFr_rf _ _), by omega, hM, (by first | assumption | ((try dsimp only); omega) | ((try dsimp only); intro q9; omega) | ((try dsimp only); intro q9 q8; omega)), (by first | assumption | ((try dsimp only); omega) | ((try dsimp only); intro q9; omega) | ((try dsimp only); intro q9 q8; omega))⟩
          · have q16x : ft.toInt = 0 := congrArg Int32.toInt b14x
            refine wq_gos (f := 1) (pc2 := 66) (ls2 := [(0, .ref 162), (1, .int b), (2, .int lo9), (3, .int hi9)]) (st2 := [.ref 162]) (h2 := h) (dc2 := 0) (ds2 := 0) 1 rfl ?_
            refine wq_getf rfl hM rfl rfl ?_
            refine wq_gos (f := 1) (pc2 := 73) (ls2 := [(0, .ref 162), (1, .int b), (2, .int lo9), (3, .int hi9)]) (st2 := [.int va]) (h2 := h) (dc2 := 0) (ds2 := 0) 1 rfl ?_
            have hx : (mAtH pl so va ft fp b lo9 hi9) = (va, ft, fp) := by unfold mAtH; rw [if_pos b1x, if_pos b4x, if_neg (Int.not_lt.mpr b6x), if_pos b13x, if_neg (fun q => q b14x)]
            rw [hx]
            exact wq_ret rfl rfl ⟨h, rfl, (wFr_rf _ _), by omega, hM, (by first | assumption | ((try dsimp only); omega) | ((try dsimp only); intro q9; omega) | ((try dsimp only); intro q9 q8; omega)), (by first | assumption | ((try dsimp only); omega) | ((try dsimp only); intro q9; omega) | ((try dsimp only); intro q9 q8; omega))⟩
        · refine wq_gos (f := 1) (pc2 := 55) (ls2 := [(0, .ref 162), (1, .int b), (2, .int lo9), (3, .int hi9)]) (st2 := [.int 2, .ref 162]) (h2 := h) (dc2 := 0) (ds2 := 0) 2 rfl ?_
          refine wq_inlv (y2 := 163) (as := [.int 2]) rfl rfl rfl hM rfl (wq_mono (m_wro hM (by first | assumption | omega | decide | solve_by_elim) (by first | assumption | omega | decide | solve_by_elim)) ?_)
          rintro _ ⟨h817x, rfl, f817x, l817x, c017x, p017x⟩
          show wq 165 58 [(0, .ref 162), (1, .int b), (2, .int lo9), (3, .int hi9)] [] h817x 0 0 _
          obtain ⟨v18x, hv19x⟩ : ∃ x, x = (mWro pl ft fp (2 : Int32)) := ⟨_, rfl⟩
          try rw [← hv19x] at c017x
          try rw [← hv19x] at p017x
          try rw [← hv19x]
          refine wq_gos (f := 1) (pc2 := 59) (ls2 := [(0, .ref 162), (1, .int b), (2, .int lo9), (3, .int hi9)]) (st2 := [.ref 162]) (h2 := h817x) (dc2 := 0) (ds2 := 0) 1 rfl ?_
          refine wq_getf rfl c017x rfl rfl ?_
          refine wq_ne0 rfl rfl (fun b20x => ?_) (fun b20x => ?_)
          · have q21x : (v18x.1).toInt ≠ 0 := fun q => b20x (Int32.toInt_inj.mp q)
            refine wq_gos (f := 1) (pc2 := 73) (ls2 := [(0, .ref 162), (1, .int b), (2, .int lo9), (3, .int hi9)]) (st2 := [.int lo9]) (h2 := h817x) (dc2 := 0) (ds2 := 0) 1 rfl ?_
            have hx : (mAtH pl so va ft fp b lo9 hi9) = (lo9, (v18x.1), (v18x.2)) := by unfold mAtH; rw [if_pos b1x, if_pos b4x, if_neg (Int.not_lt.mpr b6x), if_neg (Int.not_le.mpr b13x), zlet_eq hv19x, if_pos b20x]
            rw [hx]
            exact wq_ret rfl rfl ⟨h817x, rfl, (wFr_sub f817x (by simp)), by omega, c017x, (by first | assumption | ((try dsimp only); omega) | ((try dsimp only); intro q9; omega) | ((try dsimp only); intro q9 q8; omega)), (by first | assumption | ((try dsimp only); omega) | ((try dsimp only); intro q9; omega) | ((try dsimp only); intro q9 q8; omega))⟩
          · have q22x : (v18x.1).toInt = 0 := congrArg Int32.toInt b20x
            refine wq_gos (f := 1) (pc2 := 66) (ls2 := [(0, .ref 162), (1, .int b), (2, .int lo9), (3, .int hi9)]) (st2 := [.ref 162]) (h2 := h817x) (dc2 := 0) (ds2 := 0) 1 rfl ?_
            refine wq_getf rfl c017x rfl rfl ?_
            refine wq_gos (f := 1) (pc2 := 73) (ls2 := [(0, .ref 162), (1, .int b), (2, .int lo9), (3, .int hi9)]) (st2 := [.int va]) (h2 := h817x) (dc2 := 0) (ds2 := 0) 1 rfl ?_
            have hx : (mAtH pl so va ft fp b lo9 hi9) = (va, (v18x.1), (v18x.2)) := by unfold mAtH; rw [if_pos b1x, if_pos b4x, if_neg (Int.not_lt.mpr b6x), if_neg (Int.not_le.mpr b13x), zlet_eq hv19x, if_neg (fun q => q b20x)]
            rw [hx]
            exact wq_ret rfl rfl ⟨h817x, rfl, (wFr_sub f817x (by simp)), by omega, c017x, (by first | assumption | ((try dsimp only); omega) | ((try dsimp only); intro q9; omega) | ((try dsimp only); intro q9 q8; omega)), (by first | assumption | ((try dsimp only); omega) | ((try dsimp only); intro q9; omega) | ((try dsimp only); intro q9 q8; omega))⟩
    · have q23x : so.toInt ≠ 2 := fun q => b4x (Int32.toInt_inj.mp q)
      refine wq_gos (f := 1) (pc2 := 18) (ls2 := [(0, .ref 162), (1, .int b), (2, .int lo9), (3, .int hi9)]) (st2 := [.int b]) (h2 := h) (dc2 := 0) (ds2 := 0) 1 rfl ?_
      refine wq_eq0 rfl rfl (fun b24x => ?_) (fun b24x => ?_)
      · have q25x : b.toInt = 0 := congrArg Int32.toInt b24x
        refine wq_gos (f := 1) (pc2 := 31) (ls2 := [(0, .ref 162), (1, .int b), (2, .int lo9), (3, .int hi9)]) (st2 := [.int 1, .ref 162]) (h2 := h) (dc2 := 0) (ds2 := 0) 2 rfl ?_
        have q26x : (1 : Int32).toInt = 1 := rfl
        refine wq_inlv (y2 := 163) (as := [.int 1]) rfl rfl rfl hM rfl (wq_mono (m_wro hM (by first | assumption | omega | decide | solve_by_elim) (by first | assumption | omega | decide | solve_by_elim)) ?_)
        rintro _ ⟨h827x, rfl, f827x, l827x, c027x, p027x⟩
        show wq 165 34 [(0, .ref 162), (1, .int b), (2, .int lo9), (3, .int hi9)] [] h827x 0 0 _
        obtain ⟨v28x, hv29x⟩ : ∃ x, x = (mWro pl ft fp (1 : Int32)) := ⟨_, rfl⟩
        try rw [← hv29x] at c027x
        try rw [← hv29x] at p027x
        try rw [← hv29x]
        refine wq_gos (f := 1) (pc2 := 59) (ls2 := [(0, .ref 162), (1, .int b), (2, .int lo9), (3, .int hi9)]) (st2 := [.ref 162]) (h2 := h827x) (dc2 := 0) (ds2 := 0) 2 rfl ?_
        refine wq_getf rfl c027x rfl rfl ?_
        refine wq_ne0 rfl rfl (fun b30x => ?_) (fun b30x => ?_)
        · have q31x : (v28x.1).toInt ≠ 0 := fun q => b30x (Int32.toInt_inj.mp q)
          refine wq_gos (f := 1) (pc2 := 73) (ls2 := [(0, .ref 162), (1, .int b), (2, .int lo9), (3, .int hi9)]) (st2 := [.int lo9]) (h2 := h827x) (dc2 := 0) (ds2 := 0) 1 rfl ?_
          have hx : (mAtH pl so va ft fp b lo9 hi9) = (lo9, (v28x.1), (v28x.2)) := by unfold mAtH; rw [if_pos b1x, if_neg b4x, if_pos b24x, zlet_eq hv29x, if_pos b30x]
          rw [hx]
          exact wq_ret rfl rfl ⟨h827x, rfl, (wFr_sub f827x (by simp)), by omega, c027x, (by first | assumption | ((try dsimp only); omega) | ((try dsimp only); intro q9; omega) | ((try dsimp only); intro q9 q8; omega)), (by first | assumption | ((try dsimp only); omega) | ((try dsimp only); intro q9; omega) | ((try dsimp only); intro q9 q8; omega))⟩
        · have q32x : (v28x.1).toInt = 0 := congrArg Int32.toInt b30x
          refine wq_gos (f := 1) (pc2 := 66) (ls2 := [(0, .ref 162), (1, .int b), (2, .int lo9), (3, .int hi9)]) (st2 := [.ref 162]) (h2 := h827x) (dc2 := 0) (ds2 := 0) 1 rfl ?_
          refine wq_getf rfl c027x rfl rfl ?_
          refine wq_gos (f := 1) (pc2 := 73) (ls2 := [(0, .ref 162), (1, .int b), (2, .int lo9), (3, .int hi9)]) (st2 := [.int va]) (h2 := h827x) (dc2 := 0) (ds2 := 0) 1 rfl ?_
          have hx : (mAtH pl so va ft fp b lo9 hi9) = (va, (v28x.1), (v28x.2)) := by unfold mAtH; rw [if_pos b1x, if_neg b4x, if_pos b24x, zlet_eq hv29x, if_neg (fun q => q b30x)]
          rw [hx]
          exact wq_ret rfl rfl ⟨h827x, rfl, (wFr_sub f827x (by simp)), by omega, c027x, (by first | assumption | ((try dsimp only); omega) | ((try dsimp only); intro q9; omega) | ((try dsimp only); intro q9 q8; omega)), (by first | assumption | ((try dsimp only); omega) | ((try dsimp only); intro q9; omega) | ((try dsimp only); intro q9 q8; omega))⟩
      · have q33x : b.toInt ≠ 0 := fun q => b24x (Int32.toInt_inj.mp q)
        refine wq_gos (f := 1) (pc2 := 22) (ls2 := [(0, .ref 162), (1, .int b), (2, .int lo9), (3, .int hi9)]) (st2 := [.ref 162]) (h2 := h) (dc2 := 0) (ds2 := 0) 1 rfl ?_
        refine wq_getf rfl hM rfl rfl ?_
        refine wq_gos (f := 1) (pc2 := 26) (ls2 := [(0, .ref 162), (1, .int b), (2, .int lo9), (3, .int hi9)]) (st2 := [.int 3, .int so]) (h2 := h) (dc2 := 0) (ds2 := 0) 1 rfl ?_
        have q34x : (3 : Int32).toInt = 3 := rfl
        refine wq_eq2 rfl rfl (fun b35x => ?_) (fun b35x => ?_)
        · have q36x : so.toInt = 3 := congrArg Int32.toInt b35x
          refine wq_gos (f := 1) (pc2 := 38) (ls2 := [(0, .ref 162), (1, .int b), (2, .int lo9), (3, .int hi9)]) (st2 := [.ref 162]) (h2 := h) (dc2 := 0) (ds2 := 0) 1 rfl ?_
          refine wq_getf rfl hM rfl rfl ?_
          refine wq_gos (f := 1) (pc2 := 42) (ls2 := [(0, .ref 162), (1, .int b), (2, .int lo9), (3, .int hi9)]) (st2 := [.int lo9, .int va]) (h2 := h) (dc2 := 0) (ds2 := 0) 1 rfl ?_
          refine wq_lt2 rfl rfl (fun b37x => ?_) (fun b37x => ?_)
          · refine wq_gos (f := 1) (pc2 := 55) (ls2 := [(0, .ref 162), (1, .int b), (2, .int lo9), (3, .int hi9)]) (st2 := [.int 2, .ref 162]) (h2 := h) (dc2 := 0) (ds2 := 0) 2 rfl ?_
            refine wq_inlv (y2 := 163) (as := [.int 2]) rfl rfl rfl hM rfl (wq_mono (m_wro hM (by first | assumption | omega | decide | solve_by_elim) (by first | assumption | omega | decide | solve_by_elim)) ?_)
            rintro _ ⟨h838x, rfl, f838x, l838x, c038x, p038x⟩
            show wq 165 58 [(0, .ref 162), (1, .int b), (2, .int lo9), (3, .int hi9)] [] h838x 0 0 _
            obtain ⟨v39x, hv40x⟩ : ∃ x, x = (mWro pl ft fp (2 : Int32)) := ⟨_, rfl⟩
            try rw [← hv40x] at c038x
            try rw [← hv40x] at p038x
            try rw [← hv40x]
            refine wq_gos (f := 1) (pc2 := 59) (ls2 := [(0, .ref 162), (1, .int b), (2, .int lo9), (3, .int hi9)]) (st2 := [.ref 162]) (h2 := h838x) (dc2 := 0) (ds2 := 0) 1 rfl ?_
            refine wq_getf rfl c038x rfl rfl ?_
            refine wq_ne0 rfl rfl (fun b41x => ?_) (fun b41x => ?_)
            · have q42x : (v39x.1).toInt ≠ 0 := fun q => b41x (Int32.toInt_inj.mp q)
              refine wq_gos (f := 1) (pc2 := 73) (ls2 := [(0, .ref 162), (1, .int b), (2, .int lo9), (3, .int hi9)]) (st2 := [.int lo9]) (h2 := h838x) (dc2 := 0) (ds2 := 0) 1 rfl ?_
              have hx : (mAtH pl so va ft fp b lo9 hi9) = (lo9, (v39x.1), (v39x.2)) := by unfold mAtH; rw [if_pos b1x, if_neg b4x, if_neg b24x, if_pos b35x, if_pos b37x, zlet_eq hv40x, if_pos b41x]
              rw [hx]
              exact wq_ret rfl rfl ⟨h838x, rfl, (wFr_sub f838x (by simp)), by omega, c038x, (by first | assumption | ((try dsimp only); omega) | ((try dsimp only); intro q9; omega) | ((try dsimp only); intro q9 q8; omega)), (by first | assumption | ((try dsimp only); omega) | ((try dsimp only); intro q9; omega) | ((try dsimp only); intro q9 q8; omega))⟩
            · have q43x : (v39x.1).toInt = 0 := congrArg Int32.toInt b41x
              refine wq_gos (f := 1) (pc2 := 66) (ls2 := [(0, .ref 162), (1, .int b), (2, .int lo9), (3, .int hi9)]) (st2 := [.ref 162]) (h2 := h838x) (dc2 := 0) (ds2 := 0) 1 rfl ?_
              refine wq_getf rfl c038x rfl rfl ?_
              refine wq_gos (f := 1) (pc2 := 73) (ls2 := [(0, .ref 162), (1, .int b), (2, .int lo9), (3, .int hi9)]) (st2 := [.int va]) (h2 := h838x) (dc2 := 0) (ds2 := 0) 1 rfl ?_
              have hx : (mAtH pl so va ft fp b lo9 hi9) = (va, (v39x.1), (v39x.2)) := by unfold mAtH; rw [if_pos b1x, if_neg b4x, if_neg b24x, if_pos b35x, if_pos b37x, zlet_eq hv40x, if_neg (fun q => q b41x)]
              rw [hx]
              exact wq_ret rfl rfl ⟨h838x, rfl, (wFr_sub f838x (by simp)), by omega, c038x, (by first | assumption | ((try dsimp only); omega) | ((try dsimp only); intro q9; omega) | ((try dsimp only); intro q9 q8; omega)), (by first | assumption | ((try dsimp only); omega) | ((try dsimp only); intro q9; omega) | ((try dsimp only); intro q9 q8; omega))⟩
          · refine wq_gos (f := 1) (pc2 := 46) (ls2 := [(0, .ref 162), (1, .int b), (2, .int lo9), (3, .int hi9)]) (st2 := [.ref 162]) (h2 := h) (dc2 := 0) (ds2 := 0) 1 rfl ?_
            refine wq_getf rfl hM rfl rfl ?_
            refine wq_gos (f := 1) (pc2 := 50) (ls2 := [(0, .ref 162), (1, .int b), (2, .int lo9), (3, .int hi9)]) (st2 := [.int hi9, .int va]) (h2 := h) (dc2 := 0) (ds2 := 0) 1 rfl ?_
            refine wq_le2 rfl rfl (fun b44x => ?_) (fun b44x => ?_)
            · refine wq_gos (f := 1) (pc2 := 59) (ls2 := [(0, .ref 162), (1, .int b), (2, .int lo9), (3, .int hi9)]) (st2 := [.ref 162]) (h2 := h) (dc2 := 0) (ds2 := 0) 1 rfl ?_
              refine wq_getf rfl hM rfl rfl ?_
              refine wq_ne0 rfl rfl (fun b45x => ?_) (fun b45x => ?_)
              · have q46x : ft.toInt ≠ 0 := fun q => b45x (Int32.toInt_inj.mp q)
                refine wq_gos (f := 1) (pc2 := 73) (ls2 := [(0, .ref 162), (1, .int b), (2, .int lo9), (3, .int hi9)]) (st2 := [.int lo9]) (h2 := h) (dc2 := 0) (ds2 := 0) 1 rfl ?_
                have hx : (mAtH pl so va ft fp b lo9 hi9) = (lo9, ft, fp) := by unfold mAtH; rw [if_pos b1x, if_neg b4x, if_neg b24x, if_pos b35x, if_neg (Int.not_lt.mpr b37x), if_pos b44x, if_pos b45x]
                rw [hx]
                exact wq_ret rfl rfl ⟨h, rfl, (wFr_rf _ _), by omega, hM, (by first | assumption | ((try dsimp only); omega) | ((try dsimp only); intro q9; omega) | ((try dsimp only); intro q9 q8; omega)), (by first | assumption | ((try dsimp only); omega) | ((try dsimp only); intro q9; omega) | ((try dsimp only); intro q9 q8; omega))⟩
              · have q47x : ft.toInt = 0 := congrArg Int32.toInt b45x
                refine wq_gos (f := 1) (pc2 := 66) (ls2 := [(0, .ref 162), (1, .int b), (2, .int lo9), (3, .int hi9)]) (st2 := [.ref 162]) (h2 := h) (dc2 := 0) (ds2 := 0) 1 rfl ?_
                refine wq_getf rfl hM rfl rfl ?_
                refine wq_gos (f := 1) (pc2 := 73) (ls2 := [(0, .ref 162), (1, .int b), (2, .int lo9), (3, .int hi9)]) (st2 := [.int va]) (h2 := h) (dc2 := 0) (ds2 := 0) 1 rfl ?_
                have hx : (mAtH pl so va ft fp b lo9 hi9) = (va, ft, fp) := by unfold mAtH; rw [if_pos b1x, if_neg b4x, if_neg b24x, if_pos b35x, if_neg (Int.not_lt.mpr b37x), if_pos b44x, if_neg (fun q => q b45x)]
                rw [hx]
                exact wq_ret rfl rfl ⟨h, rfl, (wFr_rf _ _), by omega, hM, (by first | assumption | ((try dsimp only); omega) | ((try dsimp only); intro q9; omega) | ((try dsimp only); intro q9 q8; omega)), (by first | assumption | ((try dsimp only); omega) | ((try dsimp only); intro q9; omega) | ((try dsimp only); intro q9 q8; omega))⟩
            · refine wq_gos (f := 1) (pc2 := 55) (ls2 := [(0, .ref 162), (1, .int b), (2, .int lo9), (3, .int hi9)]) (st2 := [.int 2, .ref 162]) (h2 := h) (dc2 := 0) (ds2 := 0) 2 rfl ?_
              refine wq_inlv (y2 := 163) (as := [.int 2]) rfl rfl rfl hM rfl (wq_mono (m_wro hM (by first | assumption | omega | decide | solve_by_elim) (by first | assumption | omega | decide | solve_by_elim)) ?_)
              rintro _ ⟨h848x, rfl, f848x, l848x, c048x, p048x⟩
              show wq 165 58 [(0, .ref 162), (1, .int b), (2, .int lo9), (3, .int hi9)] [] h848x 0 0 _
              obtain ⟨v49x, hv50x⟩ : ∃ x, x = (mWro pl ft fp (2 : Int32)) := ⟨_, rfl⟩
              try rw [← hv50x] at c048x
              try rw [← hv50x] at p048x
              try rw [← hv50x]
              refine wq_gos (f := 1) (pc2 := 59) (ls2 := [(0, .ref 162), (1, .int b), (2, .int lo9), (3, .int hi9)]) (st2 := [.ref 162]) (h2 := h848x) (dc2 := 0) (ds2 := 0) 1 rfl ?_
              refine wq_getf rfl c048x rfl rfl ?_
              refine wq_ne0 rfl rfl (fun b51x => ?_) (fun b51x => ?_)
              · have q52x : (v49x.1).toInt ≠ 0 := fun q => b51x (Int32.toInt_inj.mp q)
                refine wq_gos (f := 1) (pc2 := 73) (ls2 := [(0, .ref 162), (1, .int b), (2, .int lo9), (3, .int hi9)]) (st2 := [.int lo9]) (h2 := h848x) (dc2 := 0) (ds2 := 0) 1 rfl ?_
                have hx : (mAtH pl so va ft fp b lo9 hi9) = (lo9, (v49x.1), (v49x.2)) := by unfold mAtH; rw [if_pos b1x, if_neg b4x, if_neg b24x, if_pos b35x, if_neg (Int.not_lt.mpr b37x), if_neg (Int.not_le.mpr b44x), zlet_eq hv50x, if_pos b51x]
                rw [hx]
                exact wq_ret rfl rfl ⟨h848x, rfl, (wFr_sub f848x (by simp)), by omega, c048x, (by first | assumption | ((try dsimp only); omega) | ((try dsimp only); intro q9; omega) | ((try dsimp only); intro q9 q8; omega)), (by first | assumption | ((try dsimp only); omega) | ((try dsimp only); intro q9; omega) | ((try dsimp only); intro q9 q8; omega))⟩
              · have q53x : (v49x.1).toInt = 0 := congrArg Int32.toInt b51x
                refine wq_gos (f := 1) (pc2 := 66) (ls2 := [(0, .ref 162), (1, .int b), (2, .int lo9), (3, .int hi9)]) (st2 := [.ref 162]) (h2 := h848x) (dc2 := 0) (ds2 := 0) 1 rfl ?_
                refine wq_getf rfl c048x rfl rfl ?_
                refine wq_gos (f := 1) (pc2 := 73) (ls2 := [(0, .ref 162), (1, .int b), (2, .int lo9), (3, .int hi9)]) (st2 := [.int va]) (h2 := h848x) (dc2 := 0) (ds2 := 0) 1 rfl ?_
                have hx : (mAtH pl so va ft fp b lo9 hi9) = (va, (v49x.1), (v49x.2)) := by unfold mAtH; rw [if_pos b1x, if_neg b4x, if_neg b24x, if_pos b35x, if_neg (Int.not_lt.mpr b37x), if_neg (Int.not_le.mpr b44x), zlet_eq hv50x, if_neg (fun q => q b51x)]
                rw [hx]
                exact wq_ret rfl rfl ⟨h848x, rfl, (wFr_sub f848x (by simp)), by omega, c048x, (by first | assumption | ((try dsimp only); omega) | ((try dsimp only); intro q9; omega) | ((try dsimp only); intro q9 q8; omega)), (by first | assumption | ((try dsimp only); omega) | ((try dsimp only); intro q9; omega) | ((try dsimp only); intro q9 q8; omega))⟩
        · have q54x : so.toInt ≠ 3 := fun q => b35x (Int32.toInt_inj.mp q)
          refine wq_gos (f := 1) (pc2 := 31) (ls2 := [(0, .ref 162), (1, .int b), (2, .int lo9), (3, .int hi9)]) (st2 := [.int 1, .ref 162]) (h2 := h) (dc2 := 0) (ds2 := 0) 2 rfl ?_
          have q55x : (1 : Int32).toInt = 1 := rfl
          refine wq_inlv (y2 := 163) (as := [.int 1]) rfl rfl rfl hM rfl (wq_mono (m_wro hM (by first | assumption | omega | decide | solve_by_elim) (by first | assumption | omega | decide | solve_by_elim)) ?_)
          rintro _ ⟨h856x, rfl, f856x, l856x, c056x, p056x⟩
          show wq 165 34 [(0, .ref 162), (1, .int b), (2, .int lo9), (3, .int hi9)] [] h856x 0 0 _
          obtain ⟨v57x, hv58x⟩ : ∃ x, x = (mWro pl ft fp (1 : Int32)) := ⟨_, rfl⟩
          try rw [← hv58x] at c056x
          try rw [← hv58x] at p056x
          try rw [← hv58x]
          refine wq_gos (f := 1) (pc2 := 59) (ls2 := [(0, .ref 162), (1, .int b), (2, .int lo9), (3, .int hi9)]) (st2 := [.ref 162]) (h2 := h856x) (dc2 := 0) (ds2 := 0) 2 rfl ?_
          refine wq_getf rfl c056x rfl rfl ?_
          refine wq_ne0 rfl rfl (fun b59x => ?_) (fun b59x => ?_)
          · have q60x : (v57x.1).toInt ≠ 0 := fun q => b59x (Int32.toInt_inj.mp q)
            refine wq_gos (f := 1) (pc2 := 73) (ls2 := [(0, .ref 162), (1, .int b), (2, .int lo9), (3, .int hi9)]) (st2 := [.int lo9]) (h2 := h856x) (dc2 := 0) (ds2 := 0) 1 rfl ?_
            have hx : (mAtH pl so va ft fp b lo9 hi9) = (lo9, (v57x.1), (v57x.2)) := by unfold mAtH; rw [if_pos b1x, if_neg b4x, if_neg b24x, if_neg b35x, zlet_eq hv58x, if_pos b59x]
            rw [hx]
            exact wq_ret rfl rfl ⟨h856x, rfl, (wFr_sub f856x (by simp)), by omega, c056x, (by first | assumption | ((try dsimp only); omega) | ((try dsimp only); intro q9; omega) | ((try dsimp only); intro q9 q8; omega)), (by first | assumption | ((try dsimp only); omega) | ((try dsimp only); intro q9; omega) | ((try dsimp only); intro q9 q8; omega))⟩
          · have q61x : (v57x.1).toInt = 0 := congrArg Int32.toInt b59x
            refine wq_gos (f := 1) (pc2 := 66) (ls2 := [(0, .ref 162), (1, .int b), (2, .int lo9), (3, .int hi9)]) (st2 := [.ref 162]) (h2 := h856x) (dc2 := 0) (ds2 := 0) 1 rfl ?_
            refine wq_getf rfl c056x rfl rfl ?_
            refine wq_gos (f := 1) (pc2 := 73) (ls2 := [(0, .ref 162), (1, .int b), (2, .int lo9), (3, .int hi9)]) (st2 := [.int va]) (h2 := h856x) (dc2 := 0) (ds2 := 0) 1 rfl ?_
            have hx : (mAtH pl so va ft fp b lo9 hi9) = (va, (v57x.1), (v57x.2)) := by unfold mAtH; rw [if_pos b1x, if_neg b4x, if_neg b24x, if_neg b35x, zlet_eq hv58x, if_neg (fun q => q b59x)]
            rw [hx]
            exact wq_ret rfl rfl ⟨h856x, rfl, (wFr_sub f856x (by simp)), by omega, c056x, (by first | assumption | ((try dsimp only); omega) | ((try dsimp only); intro q9; omega) | ((try dsimp only); intro q9 q8; omega)), (by first | assumption | ((try dsimp only); omega) | ((try dsimp only); intro q9; omega) | ((try dsimp only); intro q9 q8; omega))⟩
  · have q62x : ft.toInt ≠ 0 := fun q => b1x (Int32.toInt_inj.mp q)
    refine wq_gos (f := 1) (pc2 := 8) (ls2 := [(0, .ref 162), (1, .int b), (2, .int lo9), (3, .int hi9)]) (st2 := [.int lo9]) (h2 := h) (dc2 := 0) (ds2 := 0) 1 rfl ?_
    have hx : (mAtH pl so va ft fp b lo9 hi9) = (lo9, ft, fp) := by unfold mAtH; rw [if_neg b1x]
    rw [hx]
    exact wq_ret rfl rfl ⟨h, rfl, (wFr_rf _ _), by omega, hM, (by first | assumption | ((try dsimp only); omega) | ((try dsimp only); intro q9; omega) | ((try dsimp only); intro q9 q8; omega)), (by first | assumption | ((try dsimp only); omega) | ((try dsimp only); intro q9; omega) | ((try dsimp only); intro q9 q8; omega))⟩
noncomputable def mNml (tb : List Int32) (sz at9 pl : Nat) (so va ft fp lo9 hi9 : Int32) : Int32 × Int32 × Int32 × Nat × Nat × Int32 × Int32 := (zlet (mAtH pl so va ft fp (0 : Int32) lo9 hi9) (fun v3x => (zlet (mGo tb sz at9 pl so va (v3x.2.1)) (fun v7x => ((v3x.1), (v3x.2.1), (v3x.2.2), (v7x.1), (v7x.2.1), (v7x.2.2.1), (v7x.2.2.2))))))
set_option maxRecDepth 100000 in
set_option maxHeartbeats 4000000 in
theorem m_nml {h : zH} {n0 n2 n14 n22 n23 n27 n28 n32 n33 n34 n35 n39 n52 : Int32} {sz at9 pl : Nat} {so va ft fp : Int32} {tb : List Int32} {a0 : Nat} {lo9 hi9 : Int32} (hM : zat h 162 = some (.inr (.inr (.inr (10, mO n0 n2 n14 (nI sz) (nI at9) (nI pl) so va ft fp n22 n23 n27 n28 n32 n33 n34 n35 n39 n52))))) (hT : zat h 164 = some (.inl (0, 700, tb))) (hsz : sz ≤ 700) (ha : a0 ≤ at9 ∧ at9 ≤ sz) (hp : pl ≤ at9) (hf0 : 0 ≤ ft.toInt) : wq 166 0 [(0, .ref 162), (1, .int lo9), (2, .int hi9)] [] h 0 0 (fun rr9 => ∃ (h2 : zH), rr9 = (some (.int ((mNml tb sz at9 pl so va ft fp lo9 hi9).1)), h2, 0, 0) ∧ wFr [162] h h2 ∧ h2.length = h.length ∧ zat h2 162 = some (.inr (.inr (.inr (10, mO n0 n2 n14 (nI sz) (nI ((mNml tb sz at9 pl so va ft fp lo9 hi9).2.2.2.1)) (nI ((mNml tb sz at9 pl so va ft fp lo9 hi9).2.2.2.2.1)) ((mNml tb sz at9 pl so va ft fp lo9 hi9).2.2.2.2.2.1) ((mNml tb sz at9 pl so va ft fp lo9 hi9).2.2.2.2.2.2) ((mNml tb sz at9 pl so va ft fp lo9 hi9).2.1) ((mNml tb sz at9 pl so va ft fp lo9 hi9).2.2.1) n22 n23 n27 n28 n32 n33 n34 n35 n39 n52)))) ∧ ((a0 ≤ ((mNml tb sz at9 pl so va ft fp lo9 hi9).2.2.2.1))) ∧ ((((mNml tb sz at9 pl so va ft fp lo9 hi9).2.2.2.1) ≤ sz)) ∧ (((((mNml tb sz at9 pl so va ft fp lo9 hi9).2.1)).toInt = 0 → (((mNml tb sz at9 pl so va ft fp lo9 hi9).2.2.2.2.2.1)).toInt = 4 → a0 < ((mNml tb sz at9 pl so va ft fp lo9 hi9).2.2.2.1))) ∧ ((((mNml tb sz at9 pl so va ft fp lo9 hi9).2.2.2.2.1) ≤ ((mNml tb sz at9 pl so va ft fp lo9 hi9).2.2.2.1))) ∧ ((0 ≤ (((mNml tb sz at9 pl so va ft fp lo9 hi9).2.1)).toInt)) ∧ ((lo9.toInt ≤ hi9.toInt → lo9.toInt ≤ (((mNml tb sz at9 pl so va ft fp lo9 hi9).1)).toInt ∧ (((mNml tb sz at9 pl so va ft fp lo9 hi9).1)).toInt ≤ hi9.toInt))) := by
  have zm1 : (-1 : Int32).toInt = -1 := rfl
  have z0 : (0 : Int32).toInt = 0 := rfl
  have z1 : (1 : Int32).toInt = 1 := rfl
  have z2 : (2 : Int32).toInt = 2 := rfl
  have z3 : (3 : Int32).toInt = 3 := rfl
  have z4 : (4 : Int32).toInt = 4 := rfl
  have z5 : (5 : Int32).toInt = 5 := rfl
  have z6 : (6 : Int32).toInt = 6 := rfl
  have z8 : (8 : Int32).toInt = 8 := rfl
  have z9 : (9 : Int32).toInt = 9 := rfl
  have z10 : (10 : Int32).toInt = 10 := rfl
  have z32 : (32 : Int32).toInt = 32 := rfl
  have z99 : (99 : Int32).toInt = 99 := rfl
  have z99999 : (99999 : Int32).toInt = 99999 := rfl
  refine wq_gos (f := 1) (pc2 := 4) (ls2 := [(0, .ref 162), (1, .int lo9), (2, .int hi9)]) (st2 := [.int hi9, .int lo9, .int 0, .ref 162]) (h2 := h) (dc2 := 0) (ds2 := 0) 4 rfl ?_
  have q1x : (0 : Int32).toInt = 0 := rfl
  refine wq_inlv (y2 := 165) (as := [.int 0, .int lo9, .int hi9]) rfl rfl rfl hM rfl (wq_mono (m_atH hM (by first | assumption | omega | decide | solve_by_elim)) ?_)
  rintro _ ⟨h82x, rfl, f82x, l82x, c02x, p02x, p12x⟩
  show wq 166 7 [(0, .ref 162), (1, .int lo9), (2, .int hi9)] [.int ((mAtH pl so va ft fp (0 : Int32) lo9 hi9).1)] h82x 0 0 _
  obtain ⟨v3x, hv4x⟩ : ∃ x, x = (mAtH pl so va ft fp (0 : Int32) lo9 hi9) := ⟨_, rfl⟩
  try rw [← hv4x] at c02x
  try rw [← hv4x] at p02x
  try rw [← hv4x] at p12x
  try rw [← hv4x]
  refine wq_gos (f := 1) (pc2 := 9) (ls2 := [(3, .int (v3x.1)), (0, .ref 162), (1, .int lo9), (2, .int hi9)]) (st2 := [.ref 162]) (h2 := h82x) (dc2 := 0) (ds2 := 0) 2 rfl ?_
  have e5x := (f82x.2 _ _ (wnc (by decide) wn0) hT)
  refine wq_inlv (y2 := 164) (as := []) rfl rfl rfl c02x rfl (wq_mono (m_go c02x e5x (by first | assumption | omega | decide | solve_by_elim) ⟨Nat.le_refl _, by omega⟩ (by first | assumption | omega | decide | solve_by_elim)) ?_)
  rintro _ ⟨h86x, rfl, f86x, l86x, c06x, p06x, p16x, p26x, p36x⟩
  show wq 166 12 [(3, .int (v3x.1)), (0, .ref 162), (1, .int lo9), (2, .int hi9)] [] h86x 0 0 _
  obtain ⟨v7x, hv8x⟩ : ∃ x, x = (mGo tb sz at9 pl so va (v3x.2.1)) := ⟨_, rfl⟩
  try rw [← hv8x] at c06x
  try rw [← hv8x] at p06x
  try rw [← hv8x] at p16x
  try rw [← hv8x] at p26x
  try rw [← hv8x] at p36x
  try rw [← hv8x]
  refine wq_gos (f := 1) (pc2 := 13) (ls2 := [(3, .int (v3x.1)), (0, .ref 162), (1, .int lo9), (2, .int hi9)]) (st2 := [.int (v3x.1)]) (h2 := h86x) (dc2 := 0) (ds2 := 0) 1 rfl ?_
  have hx : (mNml tb sz at9 pl so va ft fp lo9 hi9) = ((v3x.1), (v3x.2.1), (v3x.2.2), (v7x.1), (v7x.2.1), (v7x.2.2.1), (v7x.2.2.2)) := by unfold mNml; rw [zlet_eq hv4x, zlet_eq hv8x]
  rw [hx]
  exact wq_ret rfl rfl ⟨h86x, rfl, (wFr_tr (wFr_sub f82x (by simp)) (wFr_sub f86x (by simp))), by omega, c06x, (by first | assumption | ((try dsimp only); omega) | ((try dsimp only); intro q9; omega) | ((try dsimp only); intro q9 q8; omega)), (by first | assumption | ((try dsimp only); omega) | ((try dsimp only); intro q9; omega) | ((try dsimp only); intro q9 q8; omega)), (by first | assumption | ((try dsimp only); omega) | ((try dsimp only); intro q9; omega) | ((try dsimp only); intro q9 q8; omega)), (by first | assumption | ((try dsimp only); omega) | ((try dsimp only); intro q9; omega) | ((try dsimp only); intro q9 q8; omega)), (by first | assumption | ((try dsimp only); omega) | ((try dsimp only); intro q9; omega) | ((try dsimp only); intro q9 q8; omega)), (by first | assumption | ((try dsimp only); omega) | ((try dsimp only); intro q9; omega) | ((try dsimp only); intro q9 q8; omega))⟩
noncomputable def mLeO (j : Int32) : Int32 := (if j ≠ (0 : Int32) then (if j ≠ (5 : Int32) then (-32) else (-64)) else 0)
set_option maxRecDepth 100000 in
set_option maxHeartbeats 4000000 in
theorem m_leO0 {h : zH} {j : Int32}   : wq 167 0 [(0, .int j)] [] h 0 0 (fun rr9 => rr9 = (some (.int (mLeO j)), h, 0, 0)) := by
  refine wq_gos (f := 1) (pc2 := 1) (ls2 := [(0, .int j)]) (st2 := [.int j]) (h2 := h) (dc2 := 0) (ds2 := 0) 1 rfl ?_
  refine wq_ne0 rfl rfl (fun b1x => ?_) (fun b1x => ?_)
  · have q2x : j.toInt ≠ 0 := fun q => b1x (Int32.toInt_inj.mp q)
    refine wq_gos (f := 1) (pc2 := 10) (ls2 := [(0, .int j)]) (st2 := [.int 5, .int j]) (h2 := h) (dc2 := 0) (ds2 := 0) 2 rfl ?_
    have q3x : (5 : Int32).toInt = 5 := rfl
    refine wq_ne2 rfl rfl (fun b4x => ?_) (fun b4x => ?_)
    · have q5x : j.toInt ≠ 5 := fun q => b4x (Int32.toInt_inj.mp q)
      refine wq_gos (f := 1) (pc2 := 20) (ls2 := [(0, .int j)]) (st2 := [.int (-32)]) (h2 := h) (dc2 := 0) (ds2 := 0) 1 rfl ?_
      have w6x : (mLeO j) = (-32 : Int32) := by unfold mLeO; rw [if_pos b1x, if_pos b4x]
      rw [w6x]
      exact wq_ret rfl rfl rfl
    · have q7x : j.toInt = 5 := congrArg Int32.toInt b4x
      refine wq_gos (f := 1) (pc2 := 20) (ls2 := [(0, .int j)]) (st2 := [.int (-64)]) (h2 := h) (dc2 := 0) (ds2 := 0) 2 rfl ?_
      have w8x : (mLeO j) = (-64 : Int32) := by unfold mLeO; rw [if_pos b1x, if_neg (fun q => q b4x)]
      rw [w8x]
      exact wq_ret rfl rfl rfl
  · have q9x : j.toInt = 0 := congrArg Int32.toInt b1x
    refine wq_gos (f := 1) (pc2 := 20) (ls2 := [(0, .int j)]) (st2 := [.int 0]) (h2 := h) (dc2 := 0) (ds2 := 0) 2 rfl ?_
    have w10x : (mLeO j) = (0 : Int32) := by unfold mLeO; rw [if_neg (fun q => q b1x)]
    rw [w10x]
    exact wq_ret rfl rfl rfl
theorem mLeO_r (j : Int32) : -64 ≤ (mLeO j).toInt ∧ (mLeO j).toInt ≤ 0 := by
  have h : mLeO j = 0 ∨ mLeO j = -64 ∨ mLeO j = -32 := by
    unfold mLeO
    repeat (first | split)
    all_goals first | exact Or.inl rfl | exact Or.inr (Or.inl rfl) | exact Or.inr (Or.inr rfl)
  rcases h with h | h | h
  all_goals (rw [h]; decide)
theorem m_leO {h : zH} {j : Int32}   : wq 167 0 [(0, .int j)] [] h 0 0 (fun rr9 => rr9 = (some (.int (mLeO j)), h, 0, 0) ∧ (-64 ≤ (mLeO j).toInt ∧ (mLeO j).toInt ≤ 0)) := by
  refine wq_mono (m_leO0) ?_
  rintro _ rfl
  exact ⟨rfl, mLeO_r j⟩
noncomputable def mMoO (j : Int32) : Int32 := (if j ≠ (0 : Int32) then (if j ≠ (5 : Int32) then 31 else 63) else 99)
set_option maxRecDepth 100000 in
set_option maxHeartbeats 4000000 in
theorem m_moO0 {h : zH} {j : Int32}   : wq 168 0 [(0, .int j)] [] h 0 0 (fun rr9 => rr9 = (some (.int (mMoO j)), h, 0, 0)) := by
  refine wq_gos (f := 1) (pc2 := 1) (ls2 := [(0, .int j)]) (st2 := [.int j]) (h2 := h) (dc2 := 0) (ds2 := 0) 1 rfl ?_
  refine wq_ne0 rfl rfl (fun b1x => ?_) (fun b1x => ?_)
  · have q2x : j.toInt ≠ 0 := fun q => b1x (Int32.toInt_inj.mp q)
    refine wq_gos (f := 1) (pc2 := 11) (ls2 := [(0, .int j)]) (st2 := [.int 5, .int j]) (h2 := h) (dc2 := 0) (ds2 := 0) 2 rfl ?_
    have q3x : (5 : Int32).toInt = 5 := rfl
    refine wq_ne2 rfl rfl (fun b4x => ?_) (fun b4x => ?_)
    · have q5x : j.toInt ≠ 5 := fun q => b4x (Int32.toInt_inj.mp q)
      refine wq_gos (f := 1) (pc2 := 21) (ls2 := [(0, .int j)]) (st2 := [.int 31]) (h2 := h) (dc2 := 0) (ds2 := 0) 1 rfl ?_
      have w6x : (mMoO j) = (31 : Int32) := by unfold mMoO; rw [if_pos b1x, if_pos b4x]
      rw [w6x]
      exact wq_ret rfl rfl rfl
    · have q7x : j.toInt = 5 := congrArg Int32.toInt b4x
      refine wq_gos (f := 1) (pc2 := 21) (ls2 := [(0, .int j)]) (st2 := [.int 63]) (h2 := h) (dc2 := 0) (ds2 := 0) 2 rfl ?_
      have w8x : (mMoO j) = (63 : Int32) := by unfold mMoO; rw [if_pos b1x, if_neg (fun q => q b4x)]
      rw [w8x]
      exact wq_ret rfl rfl rfl
  · have q9x : j.toInt = 0 := congrArg Int32.toInt b1x
    refine wq_gos (f := 1) (pc2 := 21) (ls2 := [(0, .int j)]) (st2 := [.int 99]) (h2 := h) (dc2 := 0) (ds2 := 0) 2 rfl ?_
    have w10x : (mMoO j) = (99 : Int32) := by unfold mMoO; rw [if_neg (fun q => q b1x)]
    rw [w10x]
    exact wq_ret rfl rfl rfl
theorem mMoO_r (j : Int32) : 31 ≤ (mMoO j).toInt ∧ (mMoO j).toInt ≤ 99 := by
  have h : mMoO j = 99 ∨ mMoO j = 63 ∨ mMoO j = 31 := by
    unfold mMoO
    repeat (first | split)
    all_goals first | exact Or.inl rfl | exact Or.inr (Or.inl rfl) | exact Or.inr (Or.inr rfl)
  rcases h with h | h | h
  all_goals (rw [h]; decide)
theorem m_moO {h : zH} {j : Int32}   : wq 168 0 [(0, .int j)] [] h 0 0 (fun rr9 => rr9 = (some (.int (mMoO j)), h, 0, 0) ∧ (31 ≤ (mMoO j).toInt ∧ (mMoO j).toInt ≤ 99)) := by
  refine wq_mono (m_moO0) ?_
  rintro _ rfl
  exact ⟨rfl, mMoO_r j⟩
noncomputable def mOnc (tb : List Int32) (sz at9 pl : Nat) (so va ft fp : Int32) (w : Nat) (it : List Int32) : Int32 × Int32 × Nat × Nat × Int32 × Int32 × List Int32 := (if (it.getD ((nI w)).toNatClampNeg 0) = (0 : Int32) then (zlet (mGo tb sz at9 pl so va ft) (fun v11x => (ft, fp, (v11x.1), (v11x.2.1), (v11x.2.2.1), (v11x.2.2.2), (zset 0 it ((nI w)).toNatClampNeg (vp_nar .boolean (1 : Int32)))))) else (zlet (mWro pl ft fp (3 : Int32)) (fun v17x => (zlet (mGo tb sz at9 pl so va (v17x.1)) (fun v27x => ((v17x.1), (v17x.2), (v27x.1), (v27x.2.1), (v27x.2.2.1), (v27x.2.2.2), (zset 0 it ((nI w)).toNatClampNeg (vp_nar .boolean (1 : Int32)))))))))
set_option maxRecDepth 100000 in
set_option maxHeartbeats 4000000 in
theorem m_onc {h : zH} {n0 n2 n14 n22 n23 n27 n28 n32 n33 n34 n35 n39 n52 : Int32} {sz at9 pl : Nat} {so va ft fp : Int32} {tb : List Int32} {a0 : Nat} {w : Nat} {it : List Int32} (hM : zat h 162 = some (.inr (.inr (.inr (10, mO n0 n2 n14 (nI sz) (nI at9) (nI pl) so va ft fp n22 n23 n27 n28 n32 n33 n34 n35 n39 n52))))) (hT : zat h 164 = some (.inl (0, 700, tb))) (hIt : zat h 182 = some (.inl (2, 10, it))) (hsz : sz ≤ 700) (ha : a0 ≤ at9 ∧ at9 ≤ sz) (hp : pl ≤ at9) (hf0 : 0 ≤ ft.toInt) (hw : w < 10) : wq 171 0 [(0, .ref 162), (1, .int (nI w))] [] h 0 0 (fun rr9 => ∃ (h2 : zH), rr9 = (none, h2, 0, 0) ∧ wFr [162, 182] h h2 ∧ h2.length = h.length ∧ zat h2 162 = some (.inr (.inr (.inr (10, mO n0 n2 n14 (nI sz) (nI ((mOnc tb sz at9 pl so va ft fp w it).2.2.1)) (nI ((mOnc tb sz at9 pl so va ft fp w it).2.2.2.1)) ((mOnc tb sz at9 pl so va ft fp w it).2.2.2.2.1) ((mOnc tb sz at9 pl so va ft fp w it).2.2.2.2.2.1) ((mOnc tb sz at9 pl so va ft fp w it).1) ((mOnc tb sz at9 pl so va ft fp w it).2.1) n22 n23 n27 n28 n32 n33 n34 n35 n39 n52)))) ∧ zat h2 182 = some (.inl (2, 10, ((mOnc tb sz at9 pl so va ft fp w it).2.2.2.2.2.2))) ∧ ((a0 ≤ ((mOnc tb sz at9 pl so va ft fp w it).2.2.1))) ∧ ((((mOnc tb sz at9 pl so va ft fp w it).2.2.1) ≤ sz)) ∧ (((((mOnc tb sz at9 pl so va ft fp w it).1)).toInt = 0 → (((mOnc tb sz at9 pl so va ft fp w it).2.2.2.2.1)).toInt = 4 → a0 < ((mOnc tb sz at9 pl so va ft fp w it).2.2.1))) ∧ ((((mOnc tb sz at9 pl so va ft fp w it).2.2.2.1) ≤ ((mOnc tb sz at9 pl so va ft fp w it).2.2.1))) ∧ ((0 ≤ (((mOnc tb sz at9 pl so va ft fp w it).1)).toInt))) := by
  have zm1 : (-1 : Int32).toInt = -1 := rfl
  have z0 : (0 : Int32).toInt = 0 := rfl
  have z1 : (1 : Int32).toInt = 1 := rfl
  have z2 : (2 : Int32).toInt = 2 := rfl
  have z3 : (3 : Int32).toInt = 3 := rfl
  have z4 : (4 : Int32).toInt = 4 := rfl
  have z5 : (5 : Int32).toInt = 5 := rfl
  have z6 : (6 : Int32).toInt = 6 := rfl
  have z8 : (8 : Int32).toInt = 8 := rfl
  have z9 : (9 : Int32).toInt = 9 := rfl
  have z10 : (10 : Int32).toInt = 10 := rfl
  have z32 : (32 : Int32).toInt = 32 := rfl
  have z99 : (99 : Int32).toInt = 99 := rfl
  have z99999 : (99999 : Int32).toInt = 99999 := rfl
  have qnw := nI_toInt (n := w) (by omega)
  refine wq_gos (f := 1) (pc2 := 1) (ls2 := [(0, .ref 162), (1, .int (nI w))]) (st2 := [.ref 162]) (h2 := h) (dc2 := 0) (ds2 := 0) 1 rfl ?_
  refine wq_getf rfl hM rfl rfl ?_
  refine wq_gos (f := 1) (pc2 := 5) (ls2 := [(0, .ref 162), (1, .int (nI w))]) (st2 := [.int (nI w), .ref 182]) (h2 := h) (dc2 := 0) (ds2 := 0) 1 rfl ?_
  try have q1x := nI_toInt (n := w) (by omega)
  refine wq_bald 2 (Or.inr rfl) rfl hIt (by first | omega | exact zin_t (by omega) (by omega)) rfl ?_
  refine wq_eq0 rfl rfl (fun b2x => ?_) (fun b2x => ?_)
  · have q3x : (it.getD ((nI w)).toNatClampNeg 0).toInt = 0 := congrArg Int32.toInt b2x
    refine wq_gos (f := 1) (pc2 := 15) (ls2 := [(0, .ref 162), (1, .int (nI w))]) (st2 := [.ref 162]) (h2 := h) (dc2 := 0) (ds2 := 0) 1 rfl ?_
    refine wq_getf rfl hM rfl rfl ?_
    refine wq_gos (f := 1) (pc2 := 20) (ls2 := [(0, .ref 162), (1, .int (nI w))]) (st2 := [.int 1, .int (nI w), .ref 182]) (h2 := h) (dc2 := 0) (ds2 := 0) 2 rfl ?_
    refine wq_bastz rfl hIt (by first | omega | exact zin_t (by omega) (by omega)) rfl ?_
    intro h4x e5x f6x l7x
    have e5x : zat h4x 182 = some (.inl (2, 10, (zset 0 it ((nI w)).toNatClampNeg (vp_nar .boolean (1 : Int32))))) := e5x
    refine wq_gos (f := 1) (pc2 := 22) (ls2 := [(0, .ref 162), (1, .int (nI w))]) (st2 := [.ref 162]) (h2 := h4x) (dc2 := 0) (ds2 := 0) 1 rfl ?_
    have e8x := (f6x.2 _ _ (wnc (by decide) wn0) hM)
    have e9x := (f6x.2 _ _ (wnc (by decide) wn0) hT)
    refine wq_inlv (y2 := 164) (as := []) rfl rfl rfl e8x rfl (wq_mono (m_go e8x e9x (by first | assumption | omega | decide | solve_by_elim) ⟨Nat.le_refl _, by omega⟩ (by first | assumption | omega | decide | solve_by_elim)) ?_)
    rintro _ ⟨h810x, rfl, f810x, l810x, c010x, p010x, p110x, p210x, p310x⟩
    show wq 171 25 [(0, .ref 162), (1, .int (nI w))] [] h810x 0 0 _
    obtain ⟨v11x, hv12x⟩ : ∃ x, x = (mGo tb sz at9 pl so va ft) := ⟨_, rfl⟩
    try rw [← hv12x] at c010x
    try rw [← hv12x] at p010x
    try rw [← hv12x] at p110x
    try rw [← hv12x] at p210x
    try rw [← hv12x] at p310x
    try rw [← hv12x]
    have e13x := (f810x.2 _ _ (wnc (by decide) wn0) e5x)
    have hx : (mOnc tb sz at9 pl so va ft fp w it) = (ft, fp, (v11x.1), (v11x.2.1), (v11x.2.2.1), (v11x.2.2.2), (zset 0 it ((nI w)).toNatClampNeg (vp_nar .boolean (1 : Int32)))) := by unfold mOnc; rw [if_pos b2x, zlet_eq hv12x]
    rw [hx]
    exact wq_ret rfl rfl ⟨h810x, rfl, (wFr_tr (wFr_sub f6x (by simp)) (wFr_sub f810x (by simp))), by omega, c010x, e13x, (by first | assumption | ((try dsimp only); omega) | ((try dsimp only); intro q9; omega) | ((try dsimp only); intro q9 q8; omega)), (by first | assumption | ((try dsimp only); omega) | ((try dsimp only); intro q9; omega) | ((try dsimp only); intro q9 q8; omega)), (by first | assumption | ((try dsimp only); omega) | ((try dsimp only); intro q9; omega) | ((try dsimp only); intro q9 q8; omega)), (by first | assumption | ((try dsimp only); omega) | ((try dsimp only); intro q9; omega) | ((try dsimp only); intro q9 q8; omega)), (by first | assumption | ((try dsimp only); omega) | ((try dsimp only); intro q9; omega) | ((try dsimp only); intro q9 q8; omega))⟩
  · have q14x : (it.getD ((nI w)).toNatClampNeg 0).toInt ≠ 0 := fun q => b2x (Int32.toInt_inj.mp q)
    refine wq_gos (f := 1) (pc2 := 11) (ls2 := [(0, .ref 162), (1, .int (nI w))]) (st2 := [.int 3, .ref 162]) (h2 := h) (dc2 := 0) (ds2 := 0) 2 rfl ?_
    have q15x : (3 : Int32).toInt = 3 := rfl
    refine wq_inlv (y2 := 163) (as := [.int 3]) rfl rfl rfl hM rfl (wq_mono (m_wro hM (by first | assumption | omega | decide | solve_by_elim) (by first | assumption | omega | decide | solve_by_elim)) ?_)
    rintro _ ⟨h816x, rfl, f816x, l816x, c016x, p016x⟩
    show wq 171 14 [(0, .ref 162), (1, .int (nI w))] [] h816x 0 0 _
    obtain ⟨v17x, hv18x⟩ : ∃ x, x = (mWro pl ft fp (3 : Int32)) := ⟨_, rfl⟩
    try rw [← hv18x] at c016x
    try rw [← hv18x] at p016x
    try rw [← hv18x]
    refine wq_gos (f := 1) (pc2 := 15) (ls2 := [(0, .ref 162), (1, .int (nI w))]) (st2 := [.ref 162]) (h2 := h816x) (dc2 := 0) (ds2 := 0) 1 rfl ?_
    refine wq_getf rfl c016x rfl rfl ?_
    refine wq_gos (f := 1) (pc2 := 20) (ls2 := [(0, .ref 162), (1, .int (nI w))]) (st2 := [.int 1, .int (nI w), .ref 182]) (h2 := h816x) (dc2 := 0) (ds2 := 0) 2 rfl ?_
    have e19x := (f816x.2 _ _ (wnc (by decide) wn0) hIt)
    refine wq_bastz rfl e19x (by first | omega | exact zin_t (by omega) (by omega)) rfl ?_
    intro h20x e21x f22x l23x
    have e21x : zat h20x 182 = some (.inl (2, 10, (zset 0 it ((nI w)).toNatClampNeg (vp_nar .boolean (1 : Int32))))) := e21x
    refine wq_gos (f := 1) (pc2 := 22) (ls2 := [(0, .ref 162), (1, .int (nI w))]) (st2 := [.ref 162]) (h2 := h20x) (dc2 := 0) (ds2 := 0) 1 rfl ?_
    have e24x := (f22x.2 _ _ (wnc (by decide) wn0) c016x)
    have e25x := (f22x.2 _ _ (wnc (by decide) wn0) (f816x.2 _ _ (wnc (by decide) wn0) hT))
    refine wq_inlv (y2 := 164) (as := []) rfl rfl rfl e24x rfl (wq_mono (m_go e24x e25x (by first | assumption | omega | decide | solve_by_elim) ⟨Nat.le_refl _, by omega⟩ (by first | assumption | omega | decide | solve_by_elim)) ?_)
    rintro _ ⟨h826x, rfl, f826x, l826x, c026x, p026x, p126x, p226x, p326x⟩
    show wq 171 25 [(0, .ref 162), (1, .int (nI w))] [] h826x 0 0 _
    obtain ⟨v27x, hv28x⟩ : ∃ x, x = (mGo tb sz at9 pl so va (v17x.1)) := ⟨_, rfl⟩
    try rw [← hv28x] at c026x
    try rw [← hv28x] at p026x
    try rw [← hv28x] at p126x
    try rw [← hv28x] at p226x
    try rw [← hv28x] at p326x
    try rw [← hv28x]
    have e29x := (f826x.2 _ _ (wnc (by decide) wn0) e21x)
    have hx : (mOnc tb sz at9 pl so va ft fp w it) = ((v17x.1), (v17x.2), (v27x.1), (v27x.2.1), (v27x.2.2.1), (v27x.2.2.2), (zset 0 it ((nI w)).toNatClampNeg (vp_nar .boolean (1 : Int32)))) := by unfold mOnc; rw [if_neg b2x, zlet_eq hv18x, zlet_eq hv28x]
    rw [hx]
    exact wq_ret rfl rfl ⟨h826x, rfl, (wFr_tr (wFr_sub f816x (by simp)) (wFr_tr (wFr_sub f22x (by simp)) (wFr_sub f826x (by simp)))), by omega, c026x, e29x, (by first | assumption | ((try dsimp only); omega) | ((try dsimp only); intro q9; omega) | ((try dsimp only); intro q9 q8; omega)), (by first | assumption | ((try dsimp only); omega) | ((try dsimp only); intro q9; omega) | ((try dsimp only); intro q9 q8; omega)), (by first | assumption | ((try dsimp only); omega) | ((try dsimp only); intro q9; omega) | ((try dsimp only); intro q9 q8; omega)), (by first | assumption | ((try dsimp only); omega) | ((try dsimp only); intro q9; omega) | ((try dsimp only); intro q9 q8; omega)), (by first | assumption | ((try dsimp only); omega) | ((try dsimp only); intro q9; omega) | ((try dsimp only); intro q9 q8; omega))⟩
/-- numbers of a posture from k on, within bounds -/
noncomputable def wPL (q : List Int32) (k n : Nat) : Prop := ∀ i, i < n → (zLow.getD i 0).toInt ≤ (q.getD (k + i) 0).toInt ∧ (q.getD (k + i) 0).toInt ≤ (zHigh.getD i 0).toInt
theorem wPL_set {q : List Int32} {k j : Nat} {a : Int32} (h : wPL q k j) (h1 : (zLow.getD j 0).toInt ≤ a.toInt) (h2 : a.toInt ≤ (zHigh.getD j 0).toInt) : wPL (zset 0 q (k + j) a) k (j + 1) := by
  intro i hi
  rw [zset_get]
  by_cases e : i = j
  · rw [if_pos (by omega), e]; exact ⟨h1, h2⟩
  · rw [if_neg (by omega)]; exact h i (by omega)
theorem mLeO_j {j : Nat} (h : j < 6) : mLeO (nI j) = zLow.getD j 0 := (by decide : ∀ j, j < 6 → mLeO (nI j) = zLow.getD j 0) j h
theorem mMoO_j {j : Nat} (h : j < 6) : mMoO (nI j) = zHigh.getD j 0 := (by decide : ∀ j, j < 6 → mMoO (nI j) = zHigh.getD j 0) j h
noncomputable def mrpF (tb : List Int32) (sz k : Nat) : Nat → Nat → Int32 → Int32 → Nat → Nat → Int32 → Int32 → List Int32 → Int32 × Int32 × Nat × Nat × Int32 × Int32 × List Int32
  | 0, _, ft, fp, at9, pl, so, va, qq => (ft, fp, at9, pl, so, va, qq)
  | m + 1, j, ft, fp, at9, pl, so, va, qq => (if (6 : Int32).toInt ≤ (nI j).toInt then (ft, fp, at9, pl, so, va, qq) else (zlet (mAtH pl so va ft fp (1 : Int32) (mLeO (nI j)) (mMoO (nI j))) (fun v8x => (zlet (mGo tb sz at9 pl so va (v8x.2.1)) (fun v19x => (mrpF tb sz k m (j + 1) (v8x.2.1) (v8x.2.2) (v19x.1) (v19x.2.1) (v19x.2.2.1) (v19x.2.2.2) (zset 0 qq (k + j) (v8x.1))))))))
set_option maxRecDepth 100000 in
set_option maxHeartbeats 4000000 in
theorem m_rpL {n0 n2 n14 n22 n23 n27 n28 n32 n33 n34 n35 n39 n52 : Int32} {sz : Nat}  {tb : List Int32} {a0 : Nat} {rq nq k : Nat} {q0 : List Int32} (hsz : sz ≤ 700) (hrq : 164 < rq) (hk : k + 6 ≤ nq ∧ nq ≤ 1000) : ∀ (m : Nat) (j : Nat) (ft : Int32) (fp : Int32) (at9 : Nat) (pl : Nat) (so : Int32) (va : Int32) (qq : List Int32) (h : zH) , (zat h 162 = some (.inr (.inr (.inr (10, mO n0 n2 n14 (nI sz) (nI at9) (nI pl) so va ft fp n22 n23 n27 n28 n32 n33 n34 n35 n39 n52))))) → (zat h 164 = some (.inl (0, 700, tb))) → (zat h rq = some (.inl (0, nq, qq))) → (a0 ≤ at9 ∧ at9 ≤ sz ∧ pl ≤ at9 ∧ 0 ≤ ft.toInt ∧ j ≤ 6) → (j = 0 ∨ ft.toInt ≠ 0 ∨ so.toInt ≠ 4 ∨ a0 < at9) → (wPL qq k j) → (∀ q, q < k ∨ k + 6 ≤ q → qq.getD q 0 = q0.getD q 0) → (6 - j) < m → ∀ (dc ds : Nat), wq 172 2 [(0, .ref 162), (1, .ref rq), (2, .int (nI k)), (3, .int (nI j))] [] h dc ds (fun rr9 => ∃ (h2 : zH) , rr9 = (none, h2, dc, ds) ∧ wFr [162, rq] h h2 ∧ h2.length = h.length ∧ zat h2 162 = some (.inr (.inr (.inr (10, mO n0 n2 n14 (nI sz) (nI ((mrpF tb sz k m j ft fp at9 pl so va qq).2.2.1)) (nI ((mrpF tb sz k m j ft fp at9 pl so va qq).2.2.2.1)) ((mrpF tb sz k m j ft fp at9 pl so va qq).2.2.2.2.1) ((mrpF tb sz k m j ft fp at9 pl so va qq).2.2.2.2.2.1) ((mrpF tb sz k m j ft fp at9 pl so va qq).1) ((mrpF tb sz k m j ft fp at9 pl so va qq).2.1) n22 n23 n27 n28 n32 n33 n34 n35 n39 n52)))) ∧ zat h2 rq = some (.inl (0, nq, ((mrpF tb sz k m j ft fp at9 pl so va qq).2.2.2.2.2.2))) ∧ (a0 ≤ ((mrpF tb sz k m j ft fp at9 pl so va qq).2.2.1)) ∧ (((mrpF tb sz k m j ft fp at9 pl so va qq).2.2.1) ≤ sz) ∧ (((mrpF tb sz k m j ft fp at9 pl so va qq).2.2.2.1) ≤ ((mrpF tb sz k m j ft fp at9 pl so va qq).2.2.1)) ∧ (0 ≤ (((mrpF tb sz k m j ft fp at9 pl so va qq).1)).toInt) ∧ ((((mrpF tb sz k m j ft fp at9 pl so va qq).1)).toInt ≠ 0 ∨ (((mrpF tb sz k m j ft fp at9 pl so va qq).2.2.2.2.1)).toInt ≠ 4 ∨ a0 < ((mrpF tb sz k m j ft fp at9 pl so va qq).2.2.1)) ∧ (wPL ((mrpF tb sz k m j ft fp at9 pl so va qq).2.2.2.2.2.2) k 6) ∧ (∀ q, q < k ∨ k + 6 ≤ q → ((mrpF tb sz k m j ft fp at9 pl so va qq).2.2.2.2.2.2).getD q 0 = q0.getD q 0)) := by
  intro m
  induction m with
  | zero => intro j ft fp at9 pl so va qq h hM hT hq ha hd hw hz hms dc ds; omega
  | succ m ih =>
    intro j ft fp at9 pl so va qq h hM hT hq ha hd hw hz hms dc ds
    have qnk := nI_toInt (n := k) (by omega)
    have qnj := nI_toInt (n := j) (by omega)
    have z6 : (6 : Int32).toInt = 6 := rfl
    have z0 : (0 : Int32).toInt = 0 := rfl
    refine wq_gos (f := 1) (pc2 := 5) (ls2 := [(0, .ref 162), (1, .ref rq), (2, .int (nI k)), (3, .int (nI j))]) (st2 := [.int 6, .int (nI j)]) (h2 := h) (dc2 := dc) (ds2 := ds) 2 rfl ?_
    try have q1x := nI_toInt (n := j) (by omega)
    have q2x : (6 : Int32).toInt = 6 := rfl
    refine wq_ge2 rfl rfl (fun b3x => ?_) (fun b3x => ?_)
    · have hx : (mrpF tb sz k (m + 1) j ft fp at9 pl so va qq) = (ft, fp, at9, pl, so, va, qq) := by show (if _ then _ else _) = _; rw [if_pos b3x]
      rw [hx]
      exact wq_ret rfl rfl ⟨h, rfl, (wFr_rf _ _), by omega, hM, hq, (by (try dsimp only); omega), (by (try dsimp only); omega), (by (try dsimp only); omega), (by (try dsimp only); omega), (by (try dsimp only); omega), (by have e6 : j = 6 := (by omega); subst e6; exact hw), hz⟩
    · refine wq_gos (f := 1) (pc2 := 12) (ls2 := [(0, .ref 162), (1, .ref rq), (2, .int (nI k)), (3, .int (nI j))]) (st2 := [.int ((nI k) + (nI j)), .ref rq]) (h2 := h) (dc2 := dc) (ds2 := ds) 4 rfl ?_
      refine wq_vi (show (nI k) + (nI j) = nI (k + j) from nI_add k j) ?_
      refine wq_gos (f := 1) (pc2 := 15) (ls2 := [(0, .ref 162), (1, .ref rq), (2, .int (nI k)), (3, .int (nI j))]) (st2 := [.int (nI j), .int 1, .ref 162, .int (nI (k + j)), .ref rq]) (h2 := h) (dc2 := dc) (ds2 := ds) 3 rfl ?_
      refine wq_inl (y2 := 167) (as := [.int (nI j)]) rfl rfl rfl (wq_mono m_leO ?_)
      rintro _ ⟨rfl, p04x⟩
      show wq 172 18 [(0, .ref 162), (1, .ref rq), (2, .int (nI k)), (3, .int (nI j))] [.int (mLeO (nI j)), .int 1, .ref 162, .int (nI (k + j)), .ref rq] h dc ds _
      refine wq_gos (f := 1) (pc2 := 19) (ls2 := [(0, .ref 162), (1, .ref rq), (2, .int (nI k)), (3, .int (nI j))]) (st2 := [.int (nI j), .int (mLeO (nI j)), .int 1, .ref 162, .int (nI (k + j)), .ref rq]) (h2 := h) (dc2 := dc) (ds2 := ds) 1 rfl ?_
      refine wq_inl (y2 := 168) (as := [.int (nI j)]) rfl rfl rfl (wq_mono m_moO ?_)
      rintro _ ⟨rfl, p05x⟩
      show wq 172 22 [(0, .ref 162), (1, .ref rq), (2, .int (nI k)), (3, .int (nI j))] [.int (mMoO (nI j)), .int (mLeO (nI j)), .int 1, .ref 162, .int (nI (k + j)), .ref rq] h dc ds _
      have q6x : (1 : Int32).toInt = 1 := rfl
      refine wq_inlv (y2 := 165) (as := [.int 1, .int (mLeO (nI j)), .int (mMoO (nI j))]) rfl rfl rfl hM rfl (wq_mono (m_atH hM (by first | assumption | omega | decide | solve_by_elim)) ?_)
      rintro _ ⟨h87x, rfl, f87x, l87x, c07x, p07x, p17x⟩
      show wq 172 25 [(0, .ref 162), (1, .ref rq), (2, .int (nI k)), (3, .int (nI j))] [.int ((mAtH pl so va ft fp (1 : Int32) (mLeO (nI j)) (mMoO (nI j))).1), .int (nI (k + j)), .ref rq] h87x dc ds _
      obtain ⟨v8x, hv9x⟩ : ∃ x, x = (mAtH pl so va ft fp (1 : Int32) (mLeO (nI j)) (mMoO (nI j))) := ⟨_, rfl⟩
      try rw [← hv9x] at c07x
      try rw [← hv9x] at p07x
      try rw [← hv9x] at p17x
      try rw [← hv9x]
      have e10x := (f87x.2 _ _ (wnc (by omega) wn0) hq)
      try have q11x := nI_toInt (n := (k + j)) (by omega)
      refine wq_iastn rfl e10x (by first | omega | exact zin_t (by omega) (by omega)) (by omega) rfl ?_
      intro h12x e13x f14x l15x
      have e13x : zat h12x rq = some (.inl (0, nq, (zset 0 qq (k + j) (v8x.1)))) := e13x
      refine wq_gos (f := 1) (pc2 := 27) (ls2 := [(0, .ref 162), (1, .ref rq), (2, .int (nI k)), (3, .int (nI j))]) (st2 := [.ref 162]) (h2 := h12x) (dc2 := dc) (ds2 := ds) 1 rfl ?_
      have e16x := (f14x.2 _ _ (wnc (by omega) wn0) c07x)
      have e17x := (f14x.2 _ _ (wnc (by omega) wn0) (f87x.2 _ _ (wnc (by decide) wn0) hT))
      refine wq_inlv (y2 := 164) (as := []) rfl rfl rfl e16x rfl (wq_mono (m_go e16x e17x (by first | assumption | omega | decide | solve_by_elim) ⟨Nat.le_refl _, by omega⟩ (by first | assumption | omega | decide | solve_by_elim)) ?_)
      rintro _ ⟨h818x, rfl, f818x, l818x, c018x, p018x, p118x, p218x, p318x⟩
      show wq 172 30 [(0, .ref 162), (1, .ref rq), (2, .int (nI k)), (3, .int (nI j))] [] h818x dc ds _
      obtain ⟨v19x, hv20x⟩ : ∃ x, x = (mGo tb sz at9 pl so va (v8x.2.1)) := ⟨_, rfl⟩
      try rw [← hv20x] at c018x
      try rw [← hv20x] at p018x
      try rw [← hv20x] at p118x
      try rw [← hv20x] at p218x
      try rw [← hv20x] at p318x
      try rw [← hv20x]
      refine wq_gos (f := 1) (pc2 := 33) (ls2 := [(3, .int ((nI j) + 1)), (0, .ref 162), (1, .ref rq), (2, .int (nI k))]) (st2 := []) (h2 := h818x) (dc2 := dc) (ds2 := ds) 1 rfl ?_
      rw [nI_1]
      refine wq_gos (f := 1) (pc2 := 2) (ls2 := [(3, .int (nI (j + 1))), (0, .ref 162), (1, .ref rq), (2, .int (nI k))]) (st2 := []) (h2 := h818x) (dc2 := dc) (ds2 := ds) 1 rfl ?_
      try have q21x := nI_toInt (n := (j + 1)) (by omega)
      try have q22x := nI_toInt (n := k) (by omega)
      have e23x := (f818x.2 _ _ (wnc (by decide) wn0) e17x)
      have e24x := (f818x.2 _ _ (wnc (by omega) wn0) e13x)
      have hx : (mrpF tb sz k (m + 1) j ft fp at9 pl so va qq) = (mrpF tb sz k m (j + 1) (v8x.2.1) (v8x.2.2) (v19x.1) (v19x.2.1) (v19x.2.2.1) (v19x.2.2.2) (zset 0 qq (k + j) (v8x.1))) := by show (if _ then _ else _) = _; rw [if_neg (Int.not_le.mpr b3x), zlet_eq hv9x, zlet_eq hv20x]
      rw [hx]
      refine wq_ls [(0, .ref 162), (1, .ref rq), (2, .int (nI k)), (3, .int (nI (j + 1)))] (show ([0, 1, 2, 3] : List Nat).Nodup by decide) ⟨rfl, rfl, rfl, rfl, trivial⟩ ?_
      refine wq_mono (ih (j + 1) (v8x.2.1) (v8x.2.2) (v19x.1) (v19x.2.1) (v19x.2.2.1) (v19x.2.2.2) (zset 0 qq (k + j) (v8x.1)) h818x c018x e23x e24x (by first | assumption | omega | decide | solve_by_elim) (by first | assumption | omega | decide | solve_by_elim) (wPL_set hw (by rw [← mLeO_j (by omega)]; omega) (by rw [← mMoO_j (by omega)]; omega)) (fun q hq9 => by rw [zset_get, if_neg (by omega)]; exact hz q hq9) (by omega) dc ds) ?_
      rintro _ ⟨h9, rfl, f9, l9, y0, y1, y2, y3, y4, y5, y6, y7, y8⟩
      exact ⟨h9, rfl, wFr_tr (wFr_tr (wFr_sub f87x (by simp)) (wFr_tr (wFr_sub f14x (by simp)) (wFr_sub f818x (by simp)))) f9, by omega, y0, y1, y2, y3, y4, y5, y6, y7, y8⟩
noncomputable def mRdP (tb : List Int32) (sz at9 pl : Nat) (so va ft fp : Int32) (k : Nat) (qq : List Int32) : Int32 × Int32 × Nat × Nat × Int32 × Int32 × List Int32 := (zlet (mrpF tb sz k ((6 - 0) + 1) 0 ft fp at9 pl so va qq) (fun v2x => ((v2x.1), (v2x.2.1), (v2x.2.2.1), (v2x.2.2.2.1), (v2x.2.2.2.2.1), (v2x.2.2.2.2.2.1), (v2x.2.2.2.2.2.2))))
set_option maxRecDepth 100000 in
set_option maxHeartbeats 4000000 in
theorem m_rdP {h : zH} {n0 n2 n14 n22 n23 n27 n28 n32 n33 n34 n35 n39 n52 : Int32} {sz at9 pl : Nat} {so va ft fp : Int32} {tb : List Int32} {a0 : Nat} {rq nq k : Nat} {qq q0 : List Int32} (hM : zat h 162 = some (.inr (.inr (.inr (10, mO n0 n2 n14 (nI sz) (nI at9) (nI pl) so va ft fp n22 n23 n27 n28 n32 n33 n34 n35 n39 n52))))) (hT : zat h 164 = some (.inl (0, 700, tb))) (hq : zat h rq = some (.inl (0, nq, qq))) (hsz : sz ≤ 700) (ha : a0 ≤ at9 ∧ at9 ≤ sz) (hp : pl ≤ at9) (hf0 : 0 ≤ ft.toInt) (hrq : 164 < rq) (hk : k + 6 ≤ nq ∧ nq ≤ 1000) (hz : ∀ q, q < k ∨ k + 6 ≤ q → qq.getD q 0 = q0.getD q 0) : wq 172 0 [(0, .ref 162), (1, .ref rq), (2, .int (nI k))] [] h 0 0 (fun rr9 => ∃ (h2 : zH), rr9 = (none, h2, 0, 0) ∧ wFr [162, rq] h h2 ∧ h2.length = h.length ∧ zat h2 162 = some (.inr (.inr (.inr (10, mO n0 n2 n14 (nI sz) (nI ((mRdP tb sz at9 pl so va ft fp k qq).2.2.1)) (nI ((mRdP tb sz at9 pl so va ft fp k qq).2.2.2.1)) ((mRdP tb sz at9 pl so va ft fp k qq).2.2.2.2.1) ((mRdP tb sz at9 pl so va ft fp k qq).2.2.2.2.2.1) ((mRdP tb sz at9 pl so va ft fp k qq).1) ((mRdP tb sz at9 pl so va ft fp k qq).2.1) n22 n23 n27 n28 n32 n33 n34 n35 n39 n52)))) ∧ zat h2 rq = some (.inl (0, nq, ((mRdP tb sz at9 pl so va ft fp k qq).2.2.2.2.2.2))) ∧ ((a0 ≤ ((mRdP tb sz at9 pl so va ft fp k qq).2.2.1))) ∧ ((((mRdP tb sz at9 pl so va ft fp k qq).2.2.1) ≤ sz)) ∧ ((((mRdP tb sz at9 pl so va ft fp k qq).2.2.2.1) ≤ ((mRdP tb sz at9 pl so va ft fp k qq).2.2.1))) ∧ ((0 ≤ (((mRdP tb sz at9 pl so va ft fp k qq).1)).toInt)) ∧ (((((mRdP tb sz at9 pl so va ft fp k qq).1)).toInt ≠ 0 ∨ (((mRdP tb sz at9 pl so va ft fp k qq).2.2.2.2.1)).toInt ≠ 4 ∨ a0 < ((mRdP tb sz at9 pl so va ft fp k qq).2.2.1))) ∧ ((wPL (((mRdP tb sz at9 pl so va ft fp k qq).2.2.2.2.2.2)) k 6)) ∧ ((∀ q, q < k ∨ k + 6 ≤ q → (((mRdP tb sz at9 pl so va ft fp k qq).2.2.2.2.2.2)).getD q 0 = q0.getD q 0))) := by
  have zm1 : (-1 : Int32).toInt = -1 := rfl
  have z0 : (0 : Int32).toInt = 0 := rfl
  have z1 : (1 : Int32).toInt = 1 := rfl
  have z2 : (2 : Int32).toInt = 2 := rfl
  have z3 : (3 : Int32).toInt = 3 := rfl
  have z4 : (4 : Int32).toInt = 4 := rfl
  have z5 : (5 : Int32).toInt = 5 := rfl
  have z6 : (6 : Int32).toInt = 6 := rfl
  have z8 : (8 : Int32).toInt = 8 := rfl
  have z9 : (9 : Int32).toInt = 9 := rfl
  have z10 : (10 : Int32).toInt = 10 := rfl
  have z32 : (32 : Int32).toInt = 32 := rfl
  have z99 : (99 : Int32).toInt = 99 := rfl
  have z99999 : (99999 : Int32).toInt = 99999 := rfl
  have qnk := nI_toInt (n := k) (by omega)
  refine wq_gos (f := 1) (pc2 := 2) (ls2 := [(3, .int 0), (0, .ref 162), (1, .ref rq), (2, .int (nI k))]) (st2 := []) (h2 := h) (dc2 := 0) (ds2 := 0) 2 rfl ?_
  try have q1x := nI_toInt (n := k) (by omega)
  refine wq_ls [(0, .ref 162), (1, .ref rq), (2, .int (nI k)), (3, .int (nI 0))] (show ([0, 1, 2, 3] : List Nat).Nodup by decide) ⟨rfl, rfl, rfl, rfl, trivial⟩ ?_
  refine wq_mono (m_rpL (by first | assumption | omega | decide | solve_by_elim) (by first | assumption | omega | decide | solve_by_elim) (by first | assumption | omega | decide | solve_by_elim) ((6 - 0) + 1) 0 ft fp at9 pl so va qq h hM hT hq ⟨ha.1, ha.2, hp, hf0, by decide⟩ (Or.inl rfl) (fun i hi => absurd hi (Nat.not_lt_zero i)) (by first | assumption | omega | decide | solve_by_elim) (by omega) 0 0) ?_
  rintro _ ⟨h84x, rfl, f84x, l84x, c04x, c14x, c24x, c34x, c44x, c54x, c64x, c74x, c84x⟩
  obtain ⟨v2x, hv3x⟩ : ∃ x, x = (mrpF tb sz k ((6 - 0) + 1) 0 ft fp at9 pl so va qq) := ⟨_, rfl⟩
  try rw [← hv3x] at c04x
  try rw [← hv3x] at c14x
  try rw [← hv3x] at c24x
  try rw [← hv3x] at c34x
  try rw [← hv3x] at c44x
  try rw [← hv3x] at c54x
  try rw [← hv3x] at c64x
  try rw [← hv3x] at c74x
  try rw [← hv3x] at c84x
  try rw [← hv3x]
  have hx : (mRdP tb sz at9 pl so va ft fp k qq) = ((v2x.1), (v2x.2.1), (v2x.2.2.1), (v2x.2.2.2.1), (v2x.2.2.2.2.1), (v2x.2.2.2.2.2.1), (v2x.2.2.2.2.2.2)) := by unfold mRdP; rw [zlet_eq hv3x]
  rw [hx]
  exact ⟨h84x, rfl, (wFr_sub f84x (by simp)), by omega, c04x, c14x, (by (try dsimp only); first | assumption | omega), (by (try dsimp only); first | assumption | omega), (by (try dsimp only); first | assumption | omega), (by (try dsimp only); first | assumption | omega), (by (try dsimp only); first | assumption | omega), (by (try dsimp only); first | assumption | omega), (by (try dsimp only); first | assumption | omega)⟩
