/-! The reference: what is left from each solution on. -/
noncomputable def mLsS (fo : List Int64) (w k l : Nat) (qq : List Int32) : List Int32 := (zlet (mUnp (fo.getD ((600 * w) + k) 0) l qq) (fun v5x => (v5x)))
set_option maxRecDepth 100000 in
set_option maxHeartbeats 4000000 in
theorem m_lsS {h : zH} {n0 n2 n14 n15 n16 n17 n18 n19 n20 n21 n22 n23 n27 n28 n32 n33 n34 n35 n39 n52 : Int32} {i w k l rq nq : Nat} {fo : List Int64} {wy qq : List Int32} (hM : zat h 162 = some (.inr (.inr (.inr (10, mO n0 n2 n14 n15 n16 n17 n18 n19 n20 n21 n22 n23 n27 n28 n32 n33 n34 n35 n39 n52))))) (hWy : zat h 180 = some (.inl (0, 20, wy))) (hFo : zat h 196 = some (.inr (.inl (6000, fo)))) (hq : zat h rq = some (.inl (0, nq, qq))) (hi : i < 10) (hw : wy.getD i 0 = nI w ∧ w < 8) (hk : k < 600) (hl : l + 6 ≤ nq ∧ nq ≤ 20000) (hrq : 162 < rq ∧ rq ≠ 180 ∧ rq ≠ 196) : wq 245 0 [(0, .ref 162), (1, .int (nI i)), (2, .int (nI k)), (3, .ref rq), (4, .int (nI l))] [] h 0 0 (fun rr9 => ∃ (h2 : zH), rr9 = (none, h2, 0, 0) ∧ wFr [rq] h h2 ∧ h2.length = h.length ∧ zat h2 rq = some (.inl (0, nq, ((mLsS fo w k l qq))))) := by
  have qni := nI_toInt (n := i) (by omega)
  have qnw := nI_toInt (n := w) (by omega)
  have qnk := nI_toInt (n := k) (by omega)
  have qnl := nI_toInt (n := l) (by omega)
  refine wq_gos (f := 1) (pc2 := 2) (ls2 := [(0, .ref 162), (1, .int (nI i)), (2, .int (nI k)), (3, .ref rq), (4, .int (nI l))]) (st2 := [.ref 162, .ref 162]) (h2 := h) (dc2 := 0) (ds2 := 0) 2 rfl ?_
  refine wq_getf rfl hM rfl rfl ?_
  refine wq_gos (f := 1) (pc2 := 9) (ls2 := [(0, .ref 162), (1, .int (nI i)), (2, .int (nI k)), (3, .ref rq), (4, .int (nI l))]) (st2 := [.ref 162, .int 600, .ref 196, .ref 162]) (h2 := h) (dc2 := 0) (ds2 := 0) 2 rfl ?_
  refine wq_getf rfl hM rfl rfl ?_
  refine wq_gos (f := 1) (pc2 := 13) (ls2 := [(0, .ref 162), (1, .int (nI i)), (2, .int (nI k)), (3, .ref rq), (4, .int (nI l))]) (st2 := [.int (nI i), .ref 180, .int 600, .ref 196, .ref 162]) (h2 := h) (dc2 := 0) (ds2 := 0) 1 rfl ?_
  try have q1x := nI_toInt (n := i) (by omega)
  refine wq_ialdn rfl hWy (by first | omega | exact zin_t (by omega) (by omega)) (by decide) rfl ?_
  refine wq_vi hw.1 ?_
  refine wq_gos (f := 1) (pc2 := 15) (ls2 := [(0, .ref 162), (1, .int (nI i)), (2, .int (nI k)), (3, .ref rq), (4, .int (nI l))]) (st2 := [.int ((600 : Int32) * (nI w)), .ref 196, .ref 162]) (h2 := h) (dc2 := 0) (ds2 := 0) 1 rfl ?_
  refine wq_vi (show (600 : Int32) * (nI w) = nI (600 * w) from e_nmul 600 w) ?_
  refine wq_gos (f := 1) (pc2 := 17) (ls2 := [(0, .ref 162), (1, .int (nI i)), (2, .int (nI k)), (3, .ref rq), (4, .int (nI l))]) (st2 := [.int ((nI (600 * w)) + (nI k)), .ref 196, .ref 162]) (h2 := h) (dc2 := 0) (ds2 := 0) 2 rfl ?_
  refine wq_vi (show (nI (600 * w)) + (nI k) = nI ((600 * w) + k) from nI_add (600 * w) k) ?_
  try have q2x := nI_toInt (n := ((600 * w) + k)) (by omega)
  refine wq_laldn rfl hFo (by first | omega | exact zin_t (by omega) (by omega)) (by decide) rfl ?_
  refine wq_gos (f := 1) (pc2 := 21) (ls2 := [(0, .ref 162), (1, .int (nI i)), (2, .int (nI k)), (3, .ref rq), (4, .int (nI l))]) (st2 := [.int (nI l), .ref rq, .long (fo.getD ((600 * w) + k) 0), .ref 162]) (h2 := h) (dc2 := 0) (ds2 := 0) 2 rfl ?_
  try have q3x := nI_toInt (n := l) (by omega)
  refine wq_inlv (y2 := 221) (as := [.long (fo.getD ((600 * w) + k) 0), .ref rq, .int (nI l)]) rfl rfl rfl hM rfl (wq_mono (m_unp hM hq hl hrq.1) ?_)
  rintro _ ⟨h84x, rfl, f84x, l84x, c04x⟩
  show wq 245 24 [(0, .ref 162), (1, .int (nI i)), (2, .int (nI k)), (3, .ref rq), (4, .int (nI l))] [] h84x 0 0 _
  obtain ⟨v5x, hv6x⟩ : ∃ x, x = (mUnp (fo.getD ((600 * w) + k) 0) l qq) := ⟨_, rfl⟩
  try rw [← hv6x] at c04x
  try rw [← hv6x]
  have hx : (mLsS fo w k l qq) = (v5x) := by unfold mLsS; rw [zlet_eq hv6x]
  rw [hx]
  exact wq_ret rfl rfl ⟨h84x, rfl, (wFr_sub f84x (by simp)), by omega, c04x⟩
noncomputable def mlfF (fo : List Int64) (w : Nat) (tg sv qq : List Int32) (i k mn : Nat) (u : Int32) : Nat → Int32 → Nat → List Int32 → Int32 × List Int32
  | 0, _, _, t1 => (0, t1)
  | m + 1, le, n, t1 => (if (nI mn).toInt ≤ (nI n).toInt then (le, t1) else (if (tg.getD ((600 * i) + n) 0).toInt < (1000000 : Int32).toInt then (zlet (mLsS fo w n 0 t1) (fun v10x => (if u = (0 : Int32) then (if le.toInt ≤ ((mtkF sv qq k (v10x) 0 (6 - 0 + 1) 0 0) + (tg.getD ((600 * i) + n) 0)).toInt then (mlfF fo w tg sv qq i k mn u m le (n + 1) (v10x)) else (mlfF fo w tg sv qq i k mn u m ((mtkF sv qq k (v10x) 0 (6 - 0 + 1) 0 0) + (tg.getD ((600 * i) + n) 0)) (n + 1) (v10x))) else (if (mKep qq k (v10x) 0) ≠ (0 : Int32) then (if le.toInt ≤ ((mtkF sv qq k (v10x) 0 (6 - 0 + 1) 0 0) + (tg.getD ((600 * i) + n) 0)).toInt then (mlfF fo w tg sv qq i k mn u m le (n + 1) (v10x)) else (mlfF fo w tg sv qq i k mn u m ((mtkF sv qq k (v10x) 0 (6 - 0 + 1) 0 0) + (tg.getD ((600 * i) + n) 0)) (n + 1) (v10x))) else (mlfF fo w tg sv qq i k mn u m le (n + 1) (v10x)))))) else (mlfF fo w tg sv qq i k mn u m le (n + 1) t1)))
set_option maxRecDepth 100000 in
set_option maxHeartbeats 4000000 in
theorem m_lfL {n0 n2 n14 n15 n16 n17 n18 n19 n20 n21 n22 n23 n27 n28 n32 n33 n34 n35 n39 n52 : Int32} {i w mn rq nq k : Nat} {fo : List Int64} {wy sm tg sv qq : List Int32} {u : Int32} (hi : i < 10) (hw : wy.getD i 0 = nI w ∧ w < 8) (hsm : sm.getD w 0 = nI mn ∧ mn ≤ 600) (hk : k + 6 ≤ nq ∧ nq ≤ 20000) (hrq : 162 < rq ∧ rq ≠ 220) (hsv : ∀ i, i < 6 → 1 ≤ (sv.getD i 0).toInt) : ∀ (m : Nat) (le : Int32) (n : Nat) (t1 : List Int32) (h : zH) , (zat h 162 = some (.inr (.inr (.inr (10, mO n0 n2 n14 n15 n16 n17 n18 n19 n20 n21 n22 n23 n27 n28 n32 n33 n34 n35 n39 n52))))) → (zat h 180 = some (.inl (0, 20, wy))) → (zat h 198 = some (.inl (0, 8, sm))) → (zat h 208 = some (.inl (0, 6000, tg))) → (zat h 196 = some (.inr (.inl (6000, fo)))) → (zat h 172 = some (.inl (0, 12, sv))) → (zat h rq = some (.inl (0, nq, qq))) → (zat h 220 = some (.inl (0, 6, t1))) → (n ≤ mn) → (mn - n) < m → ∀ (dc ds : Nat), wq 246 21 [(0, .ref 162), (1, .ref rq), (2, .int (nI k)), (3, .int (nI i)), (4, .int u), (5, .int le), (6, .int (nI mn)), (7, .int (nI n))] [] h dc ds (fun rr9 => ∃ (h2 : zH) , rr9 = (some (Value.int ((mlfF fo w tg sv qq i k mn u m le n t1).1)), h2, dc, ds) ∧ wFr [220] h h2 ∧ h2.length = h.length ∧ zat h2 220 = some (.inl (0, 6, ((mlfF fo w tg sv qq i k mn u m le n t1).2)))) := by
  intro m
  induction m with
  | zero => intro le n t1 h hM hWy hSm hTg hFo hSv hq hT1 hn hms dc ds; omega
  | succ m ih =>
    intro le n t1 h hM hWy hSm hTg hFo hSv hq hT1 hn hms dc ds
    have qnn := nI_toInt (n := n) (by omega)
    have qnmn := nI_toInt (n := mn) (by omega)
    have qni := nI_toInt (n := i) (by omega)
    have qnw := nI_toInt (n := w) (by omega)
    have qnk := nI_toInt (n := k) (by omega)
    have zN : (1000000 : Int32).toInt = 1000000 := rfl
    refine wq_gos (f := 1) (pc2 := 25) (ls2 := [(0, .ref 162), (1, .ref rq), (2, .int (nI k)), (3, .int (nI i)), (4, .int u), (5, .int le), (6, .int (nI mn)), (7, .int (nI n))]) (st2 := [.int (nI mn), .int (nI n)]) (h2 := h) (dc2 := dc) (ds2 := ds) 2 rfl ?_
    try have q1x := nI_toInt (n := n) (by omega)
    try have q2x := nI_toInt (n := mn) (by omega)
    refine wq_ge2 rfl rfl (fun b3x => ?_) (fun b3x => ?_)
    · refine wq_gos (f := 1) (pc2 := 135) (ls2 := [(0, .ref 162), (1, .ref rq), (2, .int (nI k)), (3, .int (nI i)), (4, .int u), (5, .int le), (6, .int (nI mn)), (7, .int (nI n))]) (st2 := [.int le]) (h2 := h) (dc2 := dc) (ds2 := ds) 1 rfl ?_
      have hx : (mlfF fo w tg sv qq i k mn u (m + 1) le n t1) = (le, t1) := by show (if _ then _ else _) = _; rw [if_pos b3x]
      rw [hx]
      exact wq_ret rfl rfl ⟨h, rfl, (wFr_rf _ _), by omega, hT1⟩
    · refine wq_gos (f := 1) (pc2 := 29) (ls2 := [(0, .ref 162), (1, .ref rq), (2, .int (nI k)), (3, .int (nI i)), (4, .int u), (5, .int le), (6, .int (nI mn)), (7, .int (nI n))]) (st2 := [.ref 162]) (h2 := h) (dc2 := dc) (ds2 := ds) 1 rfl ?_
      refine wq_getf rfl hM rfl rfl ?_
      refine wq_gos (f := 1) (pc2 := 37) (ls2 := [(0, .ref 162), (1, .ref rq), (2, .int (nI k)), (3, .int (nI i)), (4, .int u), (5, .int le), (6, .int (nI mn)), (7, .int (nI n))]) (st2 := [.int ((600 : Int32) * (nI i)), .ref 208]) (h2 := h) (dc2 := dc) (ds2 := ds) 3 rfl ?_
      refine wq_vi (show (600 : Int32) * (nI i) = nI (600 * i) from e_nmul 600 i) ?_
      refine wq_gos (f := 1) (pc2 := 40) (ls2 := [(0, .ref 162), (1, .ref rq), (2, .int (nI k)), (3, .int (nI i)), (4, .int u), (5, .int le), (6, .int (nI mn)), (7, .int (nI n))]) (st2 := [.int ((nI (600 * i)) + (nI n)), .ref 208]) (h2 := h) (dc2 := dc) (ds2 := ds) 2 rfl ?_
      refine wq_vi (show (nI (600 * i)) + (nI n) = nI ((600 * i) + n) from nI_add (600 * i) n) ?_
      try have q4x := nI_toInt (n := ((600 * i) + n)) (by omega)
      refine wq_ialdn rfl hTg (by first | omega | exact zin_t (by omega) (by omega)) (by decide) rfl ?_
      refine wq_gos (f := 1) (pc2 := 44) (ls2 := [(0, .ref 162), (1, .ref rq), (2, .int (nI k)), (3, .int (nI i)), (4, .int u), (5, .int le), (6, .int (nI mn)), (7, .int (nI n))]) (st2 := [.int 1000000, .int (tg.getD ((600 * i) + n) 0)]) (h2 := h) (dc2 := dc) (ds2 := ds) 1 rfl ?_
      have q5x : (1000000 : Int32).toInt = 1000000 := rfl
      refine wq_lt2 rfl rfl (fun b6x => ?_) (fun b6x => ?_)
      · refine wq_gos (f := 1) (pc2 := 55) (ls2 := [(0, .ref 162), (1, .ref rq), (2, .int (nI k)), (3, .int (nI i)), (4, .int u), (5, .int le), (6, .int (nI mn)), (7, .int (nI n))]) (st2 := [.ref 162, .int (nI n), .int (nI i), .ref 162]) (h2 := h) (dc2 := dc) (ds2 := ds) 4 rfl ?_
        refine wq_getf rfl hM rfl rfl ?_
        refine wq_gos (f := 1) (pc2 := 59) (ls2 := [(0, .ref 162), (1, .ref rq), (2, .int (nI k)), (3, .int (nI i)), (4, .int u), (5, .int le), (6, .int (nI mn)), (7, .int (nI n))]) (st2 := [.int 0, .ref 220, .int (nI n), .int (nI i), .ref 162]) (h2 := h) (dc2 := dc) (ds2 := ds) 1 rfl ?_
        try have q7x := nI_toInt (n := i) (by omega)
        have q8x : (0 : Int32).toInt = 0 := rfl
        refine wq_inlv (y2 := 245) (as := [.int (nI i), .int (nI n), .ref 220, .int 0]) rfl rfl rfl hM rfl (wq_mono (m_lsS (l := 0) hM hWy hFo hT1 (by first | assumption | omega | decide | solve_by_elim) (by first | assumption | omega | decide | solve_by_elim) (by first | assumption | omega | decide | solve_by_elim) (by decide) (by decide)) ?_)
        rintro _ ⟨h89x, rfl, f89x, l89x, c09x⟩
        show wq 246 62 [(0, .ref 162), (1, .ref rq), (2, .int (nI k)), (3, .int (nI i)), (4, .int u), (5, .int le), (6, .int (nI mn)), (7, .int (nI n))] [] h89x dc ds _
        obtain ⟨v10x, hv11x⟩ : ∃ x, x = (mLsS fo w n 0 t1) := ⟨_, rfl⟩
        try rw [← hv11x] at c09x
        try rw [← hv11x]
        refine wq_gos (f := 1) (pc2 := 64) (ls2 := [(0, .ref 162), (1, .ref rq), (2, .int (nI k)), (3, .int (nI i)), (4, .int u), (5, .int le), (6, .int (nI mn)), (7, .int (nI n))]) (st2 := [.int u]) (h2 := h89x) (dc2 := dc) (ds2 := ds) 1 rfl ?_
        refine wq_eq0 rfl rfl (fun b12x => ?_) (fun b12x => ?_)
        · have q13x : u.toInt = 0 := congrArg Int32.toInt b12x
          refine wq_gos (f := 1) (pc2 := 88) (ls2 := [(0, .ref 162), (1, .ref rq), (2, .int (nI k)), (3, .int (nI i)), (4, .int u), (5, .int le), (6, .int (nI mn)), (7, .int (nI n))]) (st2 := [.ref 162, .int (nI k), .ref rq, .ref 162]) (h2 := h89x) (dc2 := dc) (ds2 := ds) 4 rfl ?_
          have e14x := (f89x.2 _ _ (wnc (by decide) wn0) hM)
          refine wq_getf rfl e14x rfl rfl ?_
          refine wq_gos (f := 1) (pc2 := 92) (ls2 := [(0, .ref 162), (1, .ref rq), (2, .int (nI k)), (3, .int (nI i)), (4, .int u), (5, .int le), (6, .int (nI mn)), (7, .int (nI n))]) (st2 := [.int 0, .ref 220, .int (nI k), .ref rq, .ref 162]) (h2 := h89x) (dc2 := dc) (ds2 := ds) 1 rfl ?_
          have e15x := (f89x.2 _ _ (wnc (by decide) wn0) hSv)
          have e16x := (f89x.2 _ _ (wnc (by omega) wn0) hq)
          try have q17x := nI_toInt (n := k) (by omega)
          refine wq_inlv (y2 := 233) (as := [.ref rq, .int (nI k), .ref 220, .int 0]) rfl rfl rfl e14x rfl (wq_mono (m_tks (l := 0) e14x e15x e16x c09x hk (by decide) (by first | assumption | omega | decide | solve_by_elim)) ?_)
          rintro _ rfl
          show wq 246 95 [(0, .ref 162), (1, .ref rq), (2, .int (nI k)), (3, .int (nI i)), (4, .int u), (5, .int le), (6, .int (nI mn)), (7, .int (nI n))] [.int (mtkF sv qq k (v10x) 0 (6 - 0 + 1) 0 0)] h89x dc ds _
          refine wq_gos (f := 1) (pc2 := 96) (ls2 := [(0, .ref 162), (1, .ref rq), (2, .int (nI k)), (3, .int (nI i)), (4, .int u), (5, .int le), (6, .int (nI mn)), (7, .int (nI n))]) (st2 := [.ref 162, .int (mtkF sv qq k (v10x) 0 (6 - 0 + 1) 0 0)]) (h2 := h89x) (dc2 := dc) (ds2 := ds) 1 rfl ?_
          refine wq_getf rfl e14x rfl rfl ?_
          refine wq_gos (f := 1) (pc2 := 104) (ls2 := [(0, .ref 162), (1, .ref rq), (2, .int (nI k)), (3, .int (nI i)), (4, .int u), (5, .int le), (6, .int (nI mn)), (7, .int (nI n))]) (st2 := [.int ((600 : Int32) * (nI i)), .ref 208, .int (mtkF sv qq k (v10x) 0 (6 - 0 + 1) 0 0)]) (h2 := h89x) (dc2 := dc) (ds2 := ds) 3 rfl ?_
          refine wq_vi (show (600 : Int32) * (nI i) = nI (600 * i) from e_nmul 600 i) ?_
          refine wq_gos (f := 1) (pc2 := 107) (ls2 := [(0, .ref 162), (1, .ref rq), (2, .int (nI k)), (3, .int (nI i)), (4, .int u), (5, .int le), (6, .int (nI mn)), (7, .int (nI n))]) (st2 := [.int ((nI (600 * i)) + (nI n)), .ref 208, .int (mtkF sv qq k (v10x) 0 (6 - 0 + 1) 0 0)]) (h2 := h89x) (dc2 := dc) (ds2 := ds) 2 rfl ?_
          refine wq_vi (show (nI (600 * i)) + (nI n) = nI ((600 * i) + n) from nI_add (600 * i) n) ?_
          have e19x := (f89x.2 _ _ (wnc (by decide) wn0) hTg)
          refine wq_ialdn rfl e19x (by first | omega | exact zin_t (by omega) (by omega)) (by decide) rfl ?_
          refine wq_gos (f := 1) (pc2 := 115) (ls2 := [(8, .int ((mtkF sv qq k (v10x) 0 (6 - 0 + 1) 0 0) + (tg.getD ((600 * i) + n) 0))), (0, .ref 162), (1, .ref rq), (2, .int (nI k)), (3, .int (nI i)), (4, .int u), (5, .int le), (6, .int (nI mn)), (7, .int (nI n))]) (st2 := [.int le, .int ((mtkF sv qq k (v10x) 0 (6 - 0 + 1) 0 0) + (tg.getD ((600 * i) + n) 0))]) (h2 := h89x) (dc2 := dc) (ds2 := ds) 4 rfl ?_
          try have q20x : (((mtkF sv qq k (v10x) 0 (6 - 0 + 1) 0 0) + (tg.getD ((600 * i) + n) 0))).toInt = (mtkF sv qq k (v10x) 0 (6 - 0 + 1) 0 0).toInt + (tg.getD ((600 * i) + n) 0).toInt := e_add (by omega) (by omega)
          refine wq_ge2 rfl rfl (fun b21x => ?_) (fun b21x => ?_)
          · refine wq_gos (f := 1) (pc2 := 130) (ls2 := [(7, .int ((nI n) + 1)), (5, .int le), (8, .int ((mtkF sv qq k (v10x) 0 (6 - 0 + 1) 0 0) + (tg.getD ((600 * i) + n) 0))), (0, .ref 162), (1, .ref rq), (2, .int (nI k)), (3, .int (nI i)), (4, .int u), (6, .int (nI mn))]) (st2 := []) (h2 := h89x) (dc2 := dc) (ds2 := ds) 3 rfl ?_
            rw [nI_1]
            refine wq_gos (f := 1) (pc2 := 21) (ls2 := [(7, .int (nI (n + 1))), (5, .int le), (8, .int ((mtkF sv qq k (v10x) 0 (6 - 0 + 1) 0 0) + (tg.getD ((600 * i) + n) 0))), (0, .ref 162), (1, .ref rq), (2, .int (nI k)), (3, .int (nI i)), (4, .int u), (6, .int (nI mn))]) (st2 := []) (h2 := h89x) (dc2 := dc) (ds2 := ds) 1 rfl ?_
            try have q22x := nI_toInt (n := (n + 1)) (by omega)
            have e23x := (f89x.2 _ _ (wnc (by decide) wn0) hWy)
            have e24x := (f89x.2 _ _ (wnc (by decide) wn0) hSm)
            have e25x := (f89x.2 _ _ (wnc (by decide) wn0) hFo)
            have hx : (mlfF fo w tg sv qq i k mn u (m + 1) le n t1) = (mlfF fo w tg sv qq i k mn u m le (n + 1) (v10x)) := by show (if _ then _ else _) = _; rw [if_neg (Int.not_le.mpr b3x), if_pos b6x, zlet_eq hv11x, if_pos b12x, if_pos b21x]
            rw [hx]
            refine wq_ls [(0, .ref 162), (1, .ref rq), (2, .int (nI k)), (3, .int (nI i)), (4, .int u), (5, .int le), (6, .int (nI mn)), (7, .int (nI (n + 1)))] (show ([0, 1, 2, 3, 4, 5, 6, 7] : List Nat).Nodup by decide) ⟨rfl, rfl, rfl, rfl, rfl, rfl, rfl, rfl, trivial⟩ ?_
            refine wq_mono (ih le (n + 1) (v10x) h89x e14x e23x e24x e19x e25x e15x e16x c09x (by first | assumption | omega | decide | solve_by_elim) (by omega) dc ds) ?_
            rintro _ ⟨h9, rfl, f9, l9, y0⟩
            exact ⟨h9, rfl, wFr_tr (wFr_sub f89x (by simp)) f9, by omega, y0⟩
          · refine wq_gos (f := 1) (pc2 := 130) (ls2 := [(7, .int ((nI n) + 1)), (5, .int ((mtkF sv qq k (v10x) 0 (6 - 0 + 1) 0 0) + (tg.getD ((600 * i) + n) 0))), (8, .int ((mtkF sv qq k (v10x) 0 (6 - 0 + 1) 0 0) + (tg.getD ((600 * i) + n) 0))), (0, .ref 162), (1, .ref rq), (2, .int (nI k)), (3, .int (nI i)), (4, .int u), (6, .int (nI mn))]) (st2 := []) (h2 := h89x) (dc2 := dc) (ds2 := ds) 4 rfl ?_
            rw [nI_1]
            refine wq_gos (f := 1) (pc2 := 21) (ls2 := [(7, .int (nI (n + 1))), (5, .int ((mtkF sv qq k (v10x) 0 (6 - 0 + 1) 0 0) + (tg.getD ((600 * i) + n) 0))), (8, .int ((mtkF sv qq k (v10x) 0 (6 - 0 + 1) 0 0) + (tg.getD ((600 * i) + n) 0))), (0, .ref 162), (1, .ref rq), (2, .int (nI k)), (3, .int (nI i)), (4, .int u), (6, .int (nI mn))]) (st2 := []) (h2 := h89x) (dc2 := dc) (ds2 := ds) 1 rfl ?_
            try have q26x := nI_toInt (n := (n + 1)) (by omega)
            have e27x := (f89x.2 _ _ (wnc (by decide) wn0) hWy)
            have e28x := (f89x.2 _ _ (wnc (by decide) wn0) hSm)
            have e29x := (f89x.2 _ _ (wnc (by decide) wn0) hFo)
            have hx : (mlfF fo w tg sv qq i k mn u (m + 1) le n t1) = (mlfF fo w tg sv qq i k mn u m ((mtkF sv qq k (v10x) 0 (6 - 0 + 1) 0 0) + (tg.getD ((600 * i) + n) 0)) (n + 1) (v10x)) := by show (if _ then _ else _) = _; rw [if_neg (Int.not_le.mpr b3x), if_pos b6x, zlet_eq hv11x, if_pos b12x, if_neg (Int.not_le.mpr b21x)]
            rw [hx]
            refine wq_ls [(0, .ref 162), (1, .ref rq), (2, .int (nI k)), (3, .int (nI i)), (4, .int u), (5, .int ((mtkF sv qq k (v10x) 0 (6 - 0 + 1) 0 0) + (tg.getD ((600 * i) + n) 0))), (6, .int (nI mn)), (7, .int (nI (n + 1)))] (show ([0, 1, 2, 3, 4, 5, 6, 7] : List Nat).Nodup by decide) ⟨rfl, rfl, rfl, rfl, rfl, rfl, rfl, rfl, trivial⟩ ?_
            refine wq_mono (ih ((mtkF sv qq k (v10x) 0 (6 - 0 + 1) 0 0) + (tg.getD ((600 * i) + n) 0)) (n + 1) (v10x) h89x e14x e27x e28x e19x e29x e15x e16x c09x (by first | assumption | omega | decide | solve_by_elim) (by omega) dc ds) ?_
            rintro _ ⟨h9, rfl, f9, l9, y0⟩
            exact ⟨h9, rfl, wFr_tr (wFr_sub f89x (by simp)) f9, by omega, y0⟩
        · have q30x : u.toInt ≠ 0 := fun q => b12x (Int32.toInt_inj.mp q)
          refine wq_gos (f := 1) (pc2 := 71) (ls2 := [(0, .ref 162), (1, .ref rq), (2, .int (nI k)), (3, .int (nI i)), (4, .int u), (5, .int le), (6, .int (nI mn)), (7, .int (nI n))]) (st2 := [.ref 162, .int (nI k), .ref rq, .ref 162]) (h2 := h89x) (dc2 := dc) (ds2 := ds) 4 rfl ?_
          have e31x := (f89x.2 _ _ (wnc (by decide) wn0) hM)
          refine wq_getf rfl e31x rfl rfl ?_
          refine wq_gos (f := 1) (pc2 := 75) (ls2 := [(0, .ref 162), (1, .ref rq), (2, .int (nI k)), (3, .int (nI i)), (4, .int u), (5, .int le), (6, .int (nI mn)), (7, .int (nI n))]) (st2 := [.int 0, .ref 220, .int (nI k), .ref rq, .ref 162]) (h2 := h89x) (dc2 := dc) (ds2 := ds) 1 rfl ?_
          have e32x := (f89x.2 _ _ (wnc (by omega) wn0) hq)
          try have q33x := nI_toInt (n := k) (by omega)
          refine wq_inlv (y2 := 234) (as := [.ref rq, .int (nI k), .ref 220, .int 0]) rfl rfl rfl e31x rfl (wq_mono (m_kept (l := 0) e31x e32x c09x hk (by decide)) ?_)
          rintro _ rfl
          show wq 246 78 [(0, .ref 162), (1, .ref rq), (2, .int (nI k)), (3, .int (nI i)), (4, .int u), (5, .int le), (6, .int (nI mn)), (7, .int (nI n))] [.int (mKep qq k (v10x) 0)] h89x dc ds _
          refine wq_ne0 rfl rfl (fun b35x => ?_) (fun b35x => ?_)
          · have q36x : (mKep qq k (v10x) 0).toInt ≠ 0 := fun q => b35x (Int32.toInt_inj.mp q)
            refine wq_gos (f := 1) (pc2 := 88) (ls2 := [(0, .ref 162), (1, .ref rq), (2, .int (nI k)), (3, .int (nI i)), (4, .int u), (5, .int le), (6, .int (nI mn)), (7, .int (nI n))]) (st2 := [.ref 162, .int (nI k), .ref rq, .ref 162]) (h2 := h89x) (dc2 := dc) (ds2 := ds) 4 rfl ?_
            refine wq_getf rfl e31x rfl rfl ?_
            refine wq_gos (f := 1) (pc2 := 92) (ls2 := [(0, .ref 162), (1, .ref rq), (2, .int (nI k)), (3, .int (nI i)), (4, .int u), (5, .int le), (6, .int (nI mn)), (7, .int (nI n))]) (st2 := [.int 0, .ref 220, .int (nI k), .ref rq, .ref 162]) (h2 := h89x) (dc2 := dc) (ds2 := ds) 1 rfl ?_
            have e37x := (f89x.2 _ _ (wnc (by decide) wn0) hSv)
            refine wq_inlv (y2 := 233) (as := [.ref rq, .int (nI k), .ref 220, .int 0]) rfl rfl rfl e31x rfl (wq_mono (m_tks (l := 0) e31x e37x e32x c09x hk (by decide) (by first | assumption | omega | decide | solve_by_elim)) ?_)
            rintro _ rfl
            show wq 246 95 [(0, .ref 162), (1, .ref rq), (2, .int (nI k)), (3, .int (nI i)), (4, .int u), (5, .int le), (6, .int (nI mn)), (7, .int (nI n))] [.int (mtkF sv qq k (v10x) 0 (6 - 0 + 1) 0 0)] h89x dc ds _
            refine wq_gos (f := 1) (pc2 := 96) (ls2 := [(0, .ref 162), (1, .ref rq), (2, .int (nI k)), (3, .int (nI i)), (4, .int u), (5, .int le), (6, .int (nI mn)), (7, .int (nI n))]) (st2 := [.ref 162, .int (mtkF sv qq k (v10x) 0 (6 - 0 + 1) 0 0)]) (h2 := h89x) (dc2 := dc) (ds2 := ds) 1 rfl ?_
            refine wq_getf rfl e31x rfl rfl ?_
            refine wq_gos (f := 1) (pc2 := 104) (ls2 := [(0, .ref 162), (1, .ref rq), (2, .int (nI k)), (3, .int (nI i)), (4, .int u), (5, .int le), (6, .int (nI mn)), (7, .int (nI n))]) (st2 := [.int ((600 : Int32) * (nI i)), .ref 208, .int (mtkF sv qq k (v10x) 0 (6 - 0 + 1) 0 0)]) (h2 := h89x) (dc2 := dc) (ds2 := ds) 3 rfl ?_
            refine wq_vi (show (600 : Int32) * (nI i) = nI (600 * i) from e_nmul 600 i) ?_
            refine wq_gos (f := 1) (pc2 := 107) (ls2 := [(0, .ref 162), (1, .ref rq), (2, .int (nI k)), (3, .int (nI i)), (4, .int u), (5, .int le), (6, .int (nI mn)), (7, .int (nI n))]) (st2 := [.int ((nI (600 * i)) + (nI n)), .ref 208, .int (mtkF sv qq k (v10x) 0 (6 - 0 + 1) 0 0)]) (h2 := h89x) (dc2 := dc) (ds2 := ds) 2 rfl ?_
            refine wq_vi (show (nI (600 * i)) + (nI n) = nI ((600 * i) + n) from nI_add (600 * i) n) ?_
            have e39x := (f89x.2 _ _ (wnc (by decide) wn0) hTg)
            refine wq_ialdn rfl e39x (by first | omega | exact zin_t (by omega) (by omega)) (by decide) rfl ?_
            refine wq_gos (f := 1) (pc2 := 115) (ls2 := [(8, .int ((mtkF sv qq k (v10x) 0 (6 - 0 + 1) 0 0) + (tg.getD ((600 * i) + n) 0))), (0, .ref 162), (1, .ref rq), (2, .int (nI k)), (3, .int (nI i)), (4, .int u), (5, .int le), (6, .int (nI mn)), (7, .int (nI n))]) (st2 := [.int le, .int ((mtkF sv qq k (v10x) 0 (6 - 0 + 1) 0 0) + (tg.getD ((600 * i) + n) 0))]) (h2 := h89x) (dc2 := dc) (ds2 := ds) 4 rfl ?_
            try have q40x : (((mtkF sv qq k (v10x) 0 (6 - 0 + 1) 0 0) + (tg.getD ((600 * i) + n) 0))).toInt = (mtkF sv qq k (v10x) 0 (6 - 0 + 1) 0 0).toInt + (tg.getD ((600 * i) + n) 0).toInt := e_add (by omega) (by omega)
            refine wq_ge2 rfl rfl (fun b41x => ?_) (fun b41x => ?_)
            · refine wq_gos (f := 1) (pc2 := 130) (ls2 := [(7, .int ((nI n) + 1)), (5, .int le), (8, .int ((mtkF sv qq k (v10x) 0 (6 - 0 + 1) 0 0) + (tg.getD ((600 * i) + n) 0))), (0, .ref 162), (1, .ref rq), (2, .int (nI k)), (3, .int (nI i)), (4, .int u), (6, .int (nI mn))]) (st2 := []) (h2 := h89x) (dc2 := dc) (ds2 := ds) 3 rfl ?_
              rw [nI_1]
              refine wq_gos (f := 1) (pc2 := 21) (ls2 := [(7, .int (nI (n + 1))), (5, .int le), (8, .int ((mtkF sv qq k (v10x) 0 (6 - 0 + 1) 0 0) + (tg.getD ((600 * i) + n) 0))), (0, .ref 162), (1, .ref rq), (2, .int (nI k)), (3, .int (nI i)), (4, .int u), (6, .int (nI mn))]) (st2 := []) (h2 := h89x) (dc2 := dc) (ds2 := ds) 1 rfl ?_
              try have q42x := nI_toInt (n := (n + 1)) (by omega)
              have e43x := (f89x.2 _ _ (wnc (by decide) wn0) hWy)
              have e44x := (f89x.2 _ _ (wnc (by decide) wn0) hSm)
              have e45x := (f89x.2 _ _ (wnc (by decide) wn0) hFo)
              have hx : (mlfF fo w tg sv qq i k mn u (m + 1) le n t1) = (mlfF fo w tg sv qq i k mn u m le (n + 1) (v10x)) := by show (if _ then _ else _) = _; rw [if_neg (Int.not_le.mpr b3x), if_pos b6x, zlet_eq hv11x, if_neg b12x, if_pos b35x, if_pos b41x]
              rw [hx]
              refine wq_ls [(0, .ref 162), (1, .ref rq), (2, .int (nI k)), (3, .int (nI i)), (4, .int u), (5, .int le), (6, .int (nI mn)), (7, .int (nI (n + 1)))] (show ([0, 1, 2, 3, 4, 5, 6, 7] : List Nat).Nodup by decide) ⟨rfl, rfl, rfl, rfl, rfl, rfl, rfl, rfl, trivial⟩ ?_
              refine wq_mono (ih le (n + 1) (v10x) h89x e31x e43x e44x e39x e45x e37x e32x c09x (by first | assumption | omega | decide | solve_by_elim) (by omega) dc ds) ?_
              rintro _ ⟨h9, rfl, f9, l9, y0⟩
              exact ⟨h9, rfl, wFr_tr (wFr_sub f89x (by simp)) f9, by omega, y0⟩
            · refine wq_gos (f := 1) (pc2 := 130) (ls2 := [(7, .int ((nI n) + 1)), (5, .int ((mtkF sv qq k (v10x) 0 (6 - 0 + 1) 0 0) + (tg.getD ((600 * i) + n) 0))), (8, .int ((mtkF sv qq k (v10x) 0 (6 - 0 + 1) 0 0) + (tg.getD ((600 * i) + n) 0))), (0, .ref 162), (1, .ref rq), (2, .int (nI k)), (3, .int (nI i)), (4, .int u), (6, .int (nI mn))]) (st2 := []) (h2 := h89x) (dc2 := dc) (ds2 := ds) 4 rfl ?_
              rw [nI_1]
              refine wq_gos (f := 1) (pc2 := 21) (ls2 := [(7, .int (nI (n + 1))), (5, .int ((mtkF sv qq k (v10x) 0 (6 - 0 + 1) 0 0) + (tg.getD ((600 * i) + n) 0))), (8, .int ((mtkF sv qq k (v10x) 0 (6 - 0 + 1) 0 0) + (tg.getD ((600 * i) + n) 0))), (0, .ref 162), (1, .ref rq), (2, .int (nI k)), (3, .int (nI i)), (4, .int u), (6, .int (nI mn))]) (st2 := []) (h2 := h89x) (dc2 := dc) (ds2 := ds) 1 rfl ?_
              try have q46x := nI_toInt (n := (n + 1)) (by omega)
              have e47x := (f89x.2 _ _ (wnc (by decide) wn0) hWy)
              have e48x := (f89x.2 _ _ (wnc (by decide) wn0) hSm)
              have e49x := (f89x.2 _ _ (wnc (by decide) wn0) hFo)
              have hx : (mlfF fo w tg sv qq i k mn u (m + 1) le n t1) = (mlfF fo w tg sv qq i k mn u m ((mtkF sv qq k (v10x) 0 (6 - 0 + 1) 0 0) + (tg.getD ((600 * i) + n) 0)) (n + 1) (v10x)) := by show (if _ then _ else _) = _; rw [if_neg (Int.not_le.mpr b3x), if_pos b6x, zlet_eq hv11x, if_neg b12x, if_pos b35x, if_neg (Int.not_le.mpr b41x)]
              rw [hx]
              refine wq_ls [(0, .ref 162), (1, .ref rq), (2, .int (nI k)), (3, .int (nI i)), (4, .int u), (5, .int ((mtkF sv qq k (v10x) 0 (6 - 0 + 1) 0 0) + (tg.getD ((600 * i) + n) 0))), (6, .int (nI mn)), (7, .int (nI (n + 1)))] (show ([0, 1, 2, 3, 4, 5, 6, 7] : List Nat).Nodup by decide) ⟨rfl, rfl, rfl, rfl, rfl, rfl, rfl, rfl, trivial⟩ ?_
              refine wq_mono (ih ((mtkF sv qq k (v10x) 0 (6 - 0 + 1) 0 0) + (tg.getD ((600 * i) + n) 0)) (n + 1) (v10x) h89x e31x e47x e48x e39x e49x e37x e32x c09x (by first | assumption | omega | decide | solve_by_elim) (by omega) dc ds) ?_
              rintro _ ⟨h9, rfl, f9, l9, y0⟩
              exact ⟨h9, rfl, wFr_tr (wFr_sub f89x (by simp)) f9, by omega, y0⟩
          · have q50x : (mKep qq k (v10x) 0).toInt = 0 := congrArg Int32.toInt b35x
            refine wq_gos (f := 1) (pc2 := 130) (ls2 := [(7, .int ((nI n) + 1)), (0, .ref 162), (1, .ref rq), (2, .int (nI k)), (3, .int (nI i)), (4, .int u), (5, .int le), (6, .int (nI mn))]) (st2 := []) (h2 := h89x) (dc2 := dc) (ds2 := ds) 2 rfl ?_
            rw [nI_1]
            refine wq_gos (f := 1) (pc2 := 21) (ls2 := [(7, .int (nI (n + 1))), (0, .ref 162), (1, .ref rq), (2, .int (nI k)), (3, .int (nI i)), (4, .int u), (5, .int le), (6, .int (nI mn))]) (st2 := []) (h2 := h89x) (dc2 := dc) (ds2 := ds) 1 rfl ?_
            try have q51x := nI_toInt (n := (n + 1)) (by omega)
            have e52x := (f89x.2 _ _ (wnc (by decide) wn0) hWy)
            have e53x := (f89x.2 _ _ (wnc (by decide) wn0) hSm)
            have e54x := (f89x.2 _ _ (wnc (by decide) wn0) hTg)
            have e55x := (f89x.2 _ _ (wnc (by decide) wn0) hFo)
            have e56x := (f89x.2 _ _ (wnc (by decide) wn0) hSv)
            have hx : (mlfF fo w tg sv qq i k mn u (m + 1) le n t1) = (mlfF fo w tg sv qq i k mn u m le (n + 1) (v10x)) := by show (if _ then _ else _) = _; rw [if_neg (Int.not_le.mpr b3x), if_pos b6x, zlet_eq hv11x, if_neg b12x, if_neg (fun q => q b35x)]
            rw [hx]
            refine wq_ls [(0, .ref 162), (1, .ref rq), (2, .int (nI k)), (3, .int (nI i)), (4, .int u), (5, .int le), (6, .int (nI mn)), (7, .int (nI (n + 1)))] (show ([0, 1, 2, 3, 4, 5, 6, 7] : List Nat).Nodup by decide) ⟨rfl, rfl, rfl, rfl, rfl, rfl, rfl, rfl, trivial⟩ ?_
            refine wq_mono (ih le (n + 1) (v10x) h89x e31x e52x e53x e54x e55x e56x e32x c09x (by first | assumption | omega | decide | solve_by_elim) (by omega) dc ds) ?_
            rintro _ ⟨h9, rfl, f9, l9, y0⟩
            exact ⟨h9, rfl, wFr_tr (wFr_sub f89x (by simp)) f9, by omega, y0⟩
      · refine wq_gos (f := 1) (pc2 := 130) (ls2 := [(7, .int ((nI n) + 1)), (0, .ref 162), (1, .ref rq), (2, .int (nI k)), (3, .int (nI i)), (4, .int u), (5, .int le), (6, .int (nI mn))]) (st2 := []) (h2 := h) (dc2 := dc) (ds2 := ds) 2 rfl ?_
        rw [nI_1]
        refine wq_gos (f := 1) (pc2 := 21) (ls2 := [(7, .int (nI (n + 1))), (0, .ref 162), (1, .ref rq), (2, .int (nI k)), (3, .int (nI i)), (4, .int u), (5, .int le), (6, .int (nI mn))]) (st2 := []) (h2 := h) (dc2 := dc) (ds2 := ds) 1 rfl ?_
        try have q57x := nI_toInt (n := (n + 1)) (by omega)
        try have q58x := nI_toInt (n := k) (by omega)
        try have q59x := nI_toInt (n := i) (by omega)
        have hx : (mlfF fo w tg sv qq i k mn u (m + 1) le n t1) = (mlfF fo w tg sv qq i k mn u m le (n + 1) t1) := by show (if _ then _ else _) = _; rw [if_neg (Int.not_le.mpr b3x), if_neg (Int.not_lt.mpr b6x)]
        rw [hx]
        refine wq_ls [(0, .ref 162), (1, .ref rq), (2, .int (nI k)), (3, .int (nI i)), (4, .int u), (5, .int le), (6, .int (nI mn)), (7, .int (nI (n + 1)))] (show ([0, 1, 2, 3, 4, 5, 6, 7] : List Nat).Nodup by decide) ⟨rfl, rfl, rfl, rfl, rfl, rfl, rfl, rfl, trivial⟩ ?_
        refine wq_mono (ih le (n + 1) t1 h hM hWy hSm hTg hFo hSv hq hT1 (by first | assumption | omega | decide | solve_by_elim) (by omega) dc ds) ?_
        rintro _ ⟨h9, rfl, f9, l9, y0⟩
        exact ⟨h9, rfl, wFr_tr (wFr_rf _ _) f9, by omega, y0⟩
noncomputable def mLef (fo : List Int64) (w : Nat) (tg sv qq : List Int32) (i k mn : Nat) (u : Int32) (t1 : List Int32) : Int32 × List Int32 := (zlet (mlfF fo w tg sv qq i k mn u ((mn - 0) + 1) (1000000 : Int32) 0 t1) (fun v5x => ((v5x.1), (v5x.2))))
set_option maxRecDepth 100000 in
set_option maxHeartbeats 4000000 in
theorem m_lef {h : zH} {n0 n2 n14 n15 n16 n17 n18 n19 n20 n21 n22 n23 n27 n28 n32 n33 n34 n35 n39 n52 : Int32} {i w mn rq nq k : Nat} {fo : List Int64} {wy sm tg sv qq : List Int32} {u : Int32} {t1 : List Int32} (hM : zat h 162 = some (.inr (.inr (.inr (10, mO n0 n2 n14 n15 n16 n17 n18 n19 n20 n21 n22 n23 n27 n28 n32 n33 n34 n35 n39 n52))))) (hWy : zat h 180 = some (.inl (0, 20, wy))) (hSm : zat h 198 = some (.inl (0, 8, sm))) (hTg : zat h 208 = some (.inl (0, 6000, tg))) (hFo : zat h 196 = some (.inr (.inl (6000, fo)))) (hSv : zat h 172 = some (.inl (0, 12, sv))) (hq : zat h rq = some (.inl (0, nq, qq))) (hT1 : zat h 220 = some (.inl (0, 6, t1))) (hi : i < 10) (hw : wy.getD i 0 = nI w ∧ w < 8) (hsm : sm.getD w 0 = nI mn ∧ mn ≤ 600) (hk : k + 6 ≤ nq ∧ nq ≤ 20000) (hrq : 162 < rq ∧ rq ≠ 220) (hsv : ∀ i, i < 6 → 1 ≤ (sv.getD i 0).toInt) : wq 246 0 [(0, .ref 162), (1, .ref rq), (2, .int (nI k)), (3, .int (nI i)), (4, .int u)] [] h 0 0 (fun rr9 => ∃ (h2 : zH), rr9 = (some (.int ((mLef fo w tg sv qq i k mn u t1).1)), h2, 0, 0) ∧ wFr [220] h h2 ∧ h2.length = h.length ∧ zat h2 220 = some (.inl (0, 6, ((mLef fo w tg sv qq i k mn u t1).2)))) := by
  have qnmn := nI_toInt (n := mn) (by omega)
  have qni := nI_toInt (n := i) (by omega)
  have qnw := nI_toInt (n := w) (by omega)
  have qnk := nI_toInt (n := k) (by omega)
  refine wq_gos (f := 1) (pc2 := 6) (ls2 := [(5, .int 1000000), (0, .ref 162), (1, .ref rq), (2, .int (nI k)), (3, .int (nI i)), (4, .int u)]) (st2 := [.ref 162]) (h2 := h) (dc2 := 0) (ds2 := 0) 3 rfl ?_
  refine wq_getf rfl hM rfl rfl ?_
  refine wq_gos (f := 1) (pc2 := 10) (ls2 := [(5, .int 1000000), (0, .ref 162), (1, .ref rq), (2, .int (nI k)), (3, .int (nI i)), (4, .int u)]) (st2 := [.ref 162, .ref 198]) (h2 := h) (dc2 := 0) (ds2 := 0) 1 rfl ?_
  refine wq_getf rfl hM rfl rfl ?_
  refine wq_gos (f := 1) (pc2 := 14) (ls2 := [(5, .int 1000000), (0, .ref 162), (1, .ref rq), (2, .int (nI k)), (3, .int (nI i)), (4, .int u)]) (st2 := [.int (nI i), .ref 180, .ref 198]) (h2 := h) (dc2 := 0) (ds2 := 0) 1 rfl ?_
  try have q1x := nI_toInt (n := i) (by omega)
  refine wq_ialdn rfl hWy (by first | omega | exact zin_t (by omega) (by omega)) (by decide) rfl ?_
  refine wq_vi hw.1 ?_
  try have q2x := nI_toInt (n := w) (by omega)
  refine wq_ialdn rfl hSm (by first | omega | exact zin_t (by omega) (by omega)) (by decide) rfl ?_
  refine wq_vi hsm.1 ?_
  refine wq_gos (f := 1) (pc2 := 21) (ls2 := [(7, .int 0), (6, .int (nI mn)), (5, .int 1000000), (0, .ref 162), (1, .ref rq), (2, .int (nI k)), (3, .int (nI i)), (4, .int u)]) (st2 := []) (h2 := h) (dc2 := 0) (ds2 := 0) 3 rfl ?_
  try have q3x := nI_toInt (n := mn) (by omega)
  try have q4x := nI_toInt (n := k) (by omega)
  refine wq_ls [(0, .ref 162), (1, .ref rq), (2, .int (nI k)), (3, .int (nI i)), (4, .int u), (5, .int 1000000), (6, .int (nI mn)), (7, .int (nI 0))] (show ([0, 1, 2, 3, 4, 5, 6, 7] : List Nat).Nodup by decide) ⟨rfl, rfl, rfl, rfl, rfl, rfl, rfl, rfl, trivial⟩ ?_
  refine wq_mono (m_lfL (by first | assumption | omega | decide | solve_by_elim) (by first | assumption | omega | decide | solve_by_elim) (by first | assumption | omega | decide | solve_by_elim) (by first | assumption | omega | decide | solve_by_elim) (by first | assumption | omega | decide | solve_by_elim) (by first | assumption | omega | decide | solve_by_elim) ((mn - 0) + 1) (1000000 : Int32) 0 t1 h hM hWy hSm hTg hFo hSv hq hT1 (by first | assumption | omega | decide | solve_by_elim) (by omega) 0 0) ?_
  rintro _ ⟨h87x, rfl, f87x, l87x, c07x⟩
  obtain ⟨v5x, hv6x⟩ : ∃ x, x = (mlfF fo w tg sv qq i k mn u ((mn - 0) + 1) (1000000 : Int32) 0 t1) := ⟨_, rfl⟩
  try rw [← hv6x] at c07x
  try rw [← hv6x]
  have hx : (mLef fo w tg sv qq i k mn u t1) = ((v5x.1), (v5x.2)) := by unfold mLef; rw [zlet_eq hv6x]
  rw [hx]
  exact ⟨h87x, rfl, (wFr_sub f87x (by simp)), by omega, c07x⟩
