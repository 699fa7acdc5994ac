/-! The reference: firstBy: it ends where a witness says so. -/
theorem mUnp_at (v : Int64) (a b : List Int32) (j : Nat) (hj : j < 6) : (mUnp v 0 a).getD (0 + j) 0 = (mUnp v 0 b).getD (0 + j) 0 := by
  have e : ∀ l, mUnp v 0 l = (zset 0 (zset 0 (zset 0 (zset 0 (zset 0 (zset 0 l 0 (mJof v (0 : Int32))) 1 (mJof v (1 : Int32))) 2 (mJof v (2 : Int32))) 3 (mJof v (3 : Int32))) 4 (mJof v (4 : Int32))) 5 (mJof v (5 : Int32))) := fun _ => rfl
  rw [e, e, Nat.zero_add, zset6 _ _ _ _ _ _ _ _ hj, zset6 _ _ _ _ _ _ _ _ hj]
theorem mMea_c (v : Int64) (a b : List Int32) : mMea (mUnp v 0 a) 0 = mMea (mUnp v 0 b) 0 := by
  unfold mMea
  rw [mUnp_at v a b 1 (by decide), mUnp_at v a b 3 (by decide)]
theorem mSid_c (v : Int64) (a b : List Int32) : mSid (mUnp v 0 a) 0 = mSid (mUnp v 0 b) 0 := by
  unfold mSid
  rw [mUnp_at v a b 1 (by decide)]
theorem mBen_c (v : Int64) (a b : List Int32) : mBen (mUnp v 0 a) 0 = mBen (mUnp v 0 b) 0 := by
  unfold mBen
  rw [mUnp_at v a b 3 (by decide)]
theorem mKep_c (qq : List Int32) (k : Nat) (v : Int64) (a b : List Int32) : mKep qq k (mUnp v 0 a) 0 = mKep qq k (mUnp v 0 b) 0 := by
  unfold mKep
  rw [mMea_c v a b, mSid_c v a b, mBen_c v a b]
theorem mtkF_c (sv qq : List Int32) (k : Nat) (v : Int64) (a b : List Int32) : ∀ (m : Nat) (mo : Int32) (j : Nat), j ≤ 6 → mtkF sv qq k (mUnp v 0 a) 0 m mo j = mtkF sv qq k (mUnp v 0 b) 0 m mo j := by
  intro m
  induction m with
  | zero => intro mo j _; rfl
  | succ m ih =>
    intro mo j h6
    by_cases hj : j < 6
    · unfold mtkF
      rw [mUnp_at v a b j hj, ih _ _ (by omega), ih _ _ (by omega)]
    · have e6 : j = 6 := by omega
      subst e6
      unfold mtkF
      rw [if_pos (by decide), if_pos (by decide)]
/-- the n-th solution is one by which no more is left than that -/
noncomputable def fHit (fo : List Int64) (w : Nat) (tg sv qq : List Int32) (i k : Nat) (u le : Int32) (n : Nat) : Prop := (tg.getD (600 * i + n) 0).toInt < 1000000 ∧ (u = 0 ∨ mKep qq k (mUnp (fo.getD (600 * w + n) 0) 0 []) 0 ≠ 0) ∧ mtkF sv qq k (mUnp (fo.getD (600 * w + n) 0) 0 []) 0 (6 - 0 + 1) 0 0 + tg.getD (600 * i + n) 0 = le
noncomputable def mfbF (fo : List Int64) (w : Nat) (tg sv qq : List Int32) (i k : Nat) (u le : Int32) : Nat → Nat → List Int32 → Int32 × List Int32
  | 0, _, t1 => (0, t1)
  | m + 1, n, t1 => (zlet (mLsS fo w n 0 t1) (fun v5x => (if (1000000 : Int32).toInt ≤ (tg.getD ((600 * i) + n) 0).toInt then (mfbF fo w tg sv qq i k u le m (n + 1) (v5x)) else (if u = (0 : Int32) then (if ((mtkF sv qq k (v5x) 0 (6 - 0 + 1) 0 0) + (tg.getD ((600 * i) + n) 0)) ≠ le then (mfbF fo w tg sv qq i k u le m (n + 1) (v5x)) else ((nI n), (v5x))) else (if (mKep qq k (v5x) 0) = (0 : Int32) then (mfbF fo w tg sv qq i k u le m (n + 1) (v5x)) else (if ((mtkF sv qq k (v5x) 0 (6 - 0 + 1) 0 0) + (tg.getD ((600 * i) + n) 0)) ≠ le then (mfbF fo w tg sv qq i k u le m (n + 1) (v5x)) else ((nI n), (v5x))))))))
set_option maxRecDepth 100000 in
set_option maxHeartbeats 4000000 in
theorem m_fbL {n0 n2 n14 n15 n16 n17 n18 n19 n20 n21 n22 n23 n27 n28 n32 n33 n34 n35 n39 n52 : Int32} {i w rq nq k n9 : Nat} {fo : List Int64} {wy tg sv qq : List Int32} {u le : Int32} (hi : i < 10) (hw : wy.getD i 0 = nI w ∧ w < 8) (hk : k + 6 ≤ nq ∧ nq ≤ 20000) (hrq : 162 < rq ∧ rq ≠ 220) (hsv : ∀ i, i < 6 → 1 ≤ (sv.getD i 0).toInt) (h9 : n9 < 600) (hhit : fHit fo w tg sv qq i k u le n9) : ∀ (m : Nat) (n : Nat) (t1 : List Int32) (h : zH) , (zat h 162 = some (.inr (.inr (.inr (10, mO n0 n2 n14 n15 n16 n17 n18 n19 n20 n21 n22 n23 n27 n28 n32 n33 n34 n35 n39 n52))))) → (zat h 180 = some (.inl (0, 20, wy))) → (zat h 208 = some (.inl (0, 6000, tg))) → (zat h 196 = some (.inr (.inl (6000, fo)))) → (zat h 172 = some (.inl (0, 12, sv))) → (zat h rq = some (.inl (0, nq, qq))) → (zat h 220 = some (.inl (0, 6, t1))) → (n ≤ n9) → (600 - n) < m → ∀ (dc ds : Nat), wq 248 3 [(0, .ref 162), (1, .ref rq), (2, .int (nI k)), (3, .int (nI i)), (4, .int u), (5, .int le), (6, .int (nI n))] [] h dc ds (fun rr9 => ∃ (h2 : zH) , rr9 = (some (Value.int ((mfbF fo w tg sv qq i k u le m n t1).1)), h2, dc, ds) ∧ wFr [220] h h2 ∧ h2.length = h.length ∧ zat h2 220 = some (.inl (0, 6, ((mfbF fo w tg sv qq i k u le m n t1).2))) ∧ (∃ q9, ((mfbF fo w tg sv qq i k u le m n t1).1) = nI q9 ∧ q9 ≤ n9 ∧ (tg.getD (600 * i + q9) 0).toInt < 1000000)) := by
  intro m
  induction m with
  | zero => intro n t1 h hM hWy hTg hFo hSv hq hT1 hn hms dc ds; omega
  | succ m ih =>
    intro n t1 h hM hWy hTg hFo hSv hq hT1 hn hms dc ds
    have qnn := nI_toInt (n := n) (by omega)
    have qni := nI_toInt (n := i) (by omega)
    have qnw := nI_toInt (n := w) (by omega)
    have qnk := nI_toInt (n := k) (by omega)
    have zN : (1000000 : Int32).toInt = 1000000 := rfl
    refine wq_gos (f := 1) (pc2 := 8) (ls2 := [(0, .ref 162), (1, .ref rq), (2, .int (nI k)), (3, .int (nI i)), (4, .int u), (5, .int le), (6, .int (nI n))]) (st2 := [.ref 162, .int (nI n), .int (nI i), .ref 162]) (h2 := h) (dc2 := dc) (ds2 := ds) 4 rfl ?_
    refine wq_getf rfl hM rfl rfl ?_
    refine wq_gos (f := 1) (pc2 := 12) (ls2 := [(0, .ref 162), (1, .ref rq), (2, .int (nI k)), (3, .int (nI i)), (4, .int u), (5, .int le), (6, .int (nI n))]) (st2 := [.int 0, .ref 220, .int (nI n), .int (nI i), .ref 162]) (h2 := h) (dc2 := dc) (ds2 := ds) 1 rfl ?_
    try have q1x := nI_toInt (n := i) (by omega)
    try have q2x := nI_toInt (n := n) (by omega)
    have q3x : (0 : Int32).toInt = 0 := rfl
    refine wq_inlv (y2 := 245) (as := [.int (nI i), .int (nI n), .ref 220, .int 0]) rfl rfl rfl hM rfl (wq_mono (m_lsS (l := 0) hM hWy hFo hT1 (by first | assumption | omega | decide | solve_by_elim) (by first | assumption | omega | decide | solve_by_elim) (by omega) (by decide) (by decide)) ?_)
    rintro _ ⟨h84x, rfl, f84x, l84x, c04x⟩
    show wq 248 15 [(0, .ref 162), (1, .ref rq), (2, .int (nI k)), (3, .int (nI i)), (4, .int u), (5, .int le), (6, .int (nI n))] [] h84x dc ds _
    obtain ⟨v5x, hv6x⟩ : ∃ x, x = (mLsS fo w n 0 t1) := ⟨_, rfl⟩
    try rw [← hv6x] at c04x
    try rw [← hv6x]
    refine wq_gos (f := 1) (pc2 := 16) (ls2 := [(0, .ref 162), (1, .ref rq), (2, .int (nI k)), (3, .int (nI i)), (4, .int u), (5, .int le), (6, .int (nI n))]) (st2 := [.ref 162]) (h2 := h84x) (dc2 := dc) (ds2 := ds) 1 rfl ?_
    have e7x := (f84x.2 _ _ (wnc (by decide) wn0) hM)
    refine wq_getf rfl e7x rfl rfl ?_
    refine wq_gos (f := 1) (pc2 := 24) (ls2 := [(0, .ref 162), (1, .ref rq), (2, .int (nI k)), (3, .int (nI i)), (4, .int u), (5, .int le), (6, .int (nI n))]) (st2 := [.int ((600 : Int32) * (nI i)), .ref 208]) (h2 := h84x) (dc2 := dc) (ds2 := ds) 3 rfl ?_
    refine wq_vi (show (600 : Int32) * (nI i) = nI (600 * i) from e_nmul 600 i) ?_
    refine wq_gos (f := 1) (pc2 := 27) (ls2 := [(0, .ref 162), (1, .ref rq), (2, .int (nI k)), (3, .int (nI i)), (4, .int u), (5, .int le), (6, .int (nI n))]) (st2 := [.int ((nI (600 * i)) + (nI n)), .ref 208]) (h2 := h84x) (dc2 := dc) (ds2 := ds) 2 rfl ?_
    refine wq_vi (show (nI (600 * i)) + (nI n) = nI ((600 * i) + n) from nI_add (600 * i) n) ?_
    have e8x := (f84x.2 _ _ (wnc (by decide) wn0) hTg)
    try have q9x := nI_toInt (n := ((600 * i) + n)) (by omega)
    refine wq_ialdn rfl e8x (by first | omega | exact zin_t (by omega) (by omega)) (by decide) rfl ?_
    refine wq_gos (f := 1) (pc2 := 31) (ls2 := [(0, .ref 162), (1, .ref rq), (2, .int (nI k)), (3, .int (nI i)), (4, .int u), (5, .int le), (6, .int (nI n))]) (st2 := [.int 1000000, .int (tg.getD ((600 * i) + n) 0)]) (h2 := h84x) (dc2 := dc) (ds2 := ds) 1 rfl ?_
    have q10x : (1000000 : Int32).toInt = 1000000 := rfl
    refine wq_ge2 rfl rfl (fun b11x => ?_) (fun b11x => ?_)
    · refine wq_gos (f := 1) (pc2 := 89) (ls2 := [(6, .int ((nI n) + 1)), (0, .ref 162), (1, .ref rq), (2, .int (nI k)), (3, .int (nI i)), (4, .int u), (5, .int le)]) (st2 := []) (h2 := h84x) (dc2 := dc) (ds2 := ds) 1 rfl ?_
      rw [nI_1]
      refine wq_gos (f := 1) (pc2 := 3) (ls2 := [(6, .int (nI (n + 1))), (0, .ref 162), (1, .ref rq), (2, .int (nI k)), (3, .int (nI i)), (4, .int u), (5, .int le)]) (st2 := []) (h2 := h84x) (dc2 := dc) (ds2 := ds) 1 rfl ?_
      try have q12x := nI_toInt (n := (n + 1)) (by omega)
      try have q13x := nI_toInt (n := k) (by omega)
      have e14x := (f84x.2 _ _ (wnc (by decide) wn0) hWy)
      have e15x := (f84x.2 _ _ (wnc (by decide) wn0) hFo)
      have e16x := (f84x.2 _ _ (wnc (by decide) wn0) hSv)
      have e17x := (f84x.2 _ _ (wnc (by omega) wn0) hq)
      have hne : n ≠ n9 := by
        intro e9
        subst e9
        obtain ⟨g1, g2, g3⟩ := hhit
        subst hv6x
        have el : mLsS fo w n 0 t1 = mUnp (fo.getD (600 * w + n) 0) 0 t1 := rfl
        have g3b : mtkF sv qq k (mLsS fo w n 0 t1) 0 (6 - 0 + 1) 0 0 + tg.getD (600 * i + n) 0 = le := by rw [el, mtkF_c sv qq k _ t1 [] _ _ _ (Nat.zero_le 6)]; exact g3
        have g2b : u = 0 ∨ mKep qq k (mLsS fo w n 0 t1) 0 ≠ 0 := by rw [el, mKep_c qq k _ t1 []]; exact g2
        first | omega | exact absurd g3b (by assumption) | (rcases g2b with g2b | g2b <;> first | exact absurd g2b (by assumption) | exact absurd (by assumption) g2b)
      have hx : (mfbF fo w tg sv qq i k u le (m + 1) n t1) = (mfbF fo w tg sv qq i k u le m (n + 1) (v5x)) := by show zlet _ _ = _; rw [zlet_eq hv6x, if_pos b11x]
      rw [hx]
      refine wq_ls [(0, .ref 162), (1, .ref rq), (2, .int (nI k)), (3, .int (nI i)), (4, .int u), (5, .int le), (6, .int (nI (n + 1)))] (show ([0, 1, 2, 3, 4, 5, 6] : List Nat).Nodup by decide) ⟨rfl, rfl, rfl, rfl, rfl, rfl, rfl, trivial⟩ ?_
      refine wq_mono (ih (n + 1) (v5x) h84x e7x e14x e8x e15x e16x e17x c04x (Nat.lt_of_le_of_ne hn hne) (by omega) dc ds) ?_
      rintro _ ⟨h9, rfl, f9, l9, y0, y1⟩
      exact ⟨h9, rfl, wFr_tr (wFr_sub f84x (by simp)) f9, by omega, y0, y1⟩
    · refine wq_gos (f := 1) (pc2 := 36) (ls2 := [(0, .ref 162), (1, .ref rq), (2, .int (nI k)), (3, .int (nI i)), (4, .int u), (5, .int le), (6, .int (nI n))]) (st2 := [.int u]) (h2 := h84x) (dc2 := dc) (ds2 := ds) 1 rfl ?_
      refine wq_eq0 rfl rfl (fun b18x => ?_) (fun b18x => ?_)
      · have q19x : u.toInt = 0 := congrArg Int32.toInt b18x
        refine wq_gos (f := 1) (pc2 := 57) (ls2 := [(0, .ref 162), (1, .ref rq), (2, .int (nI k)), (3, .int (nI i)), (4, .int u), (5, .int le), (6, .int (nI n))]) (st2 := [.ref 162, .int (nI k), .ref rq, .ref 162]) (h2 := h84x) (dc2 := dc) (ds2 := ds) 4 rfl ?_
        refine wq_getf rfl e7x rfl rfl ?_
        refine wq_gos (f := 1) (pc2 := 61) (ls2 := [(0, .ref 162), (1, .ref rq), (2, .int (nI k)), (3, .int (nI i)), (4, .int u), (5, .int le), (6, .int (nI n))]) (st2 := [.int 0, .ref 220, .int (nI k), .ref rq, .ref 162]) (h2 := h84x) (dc2 := dc) (ds2 := ds) 1 rfl ?_
        have e20x := (f84x.2 _ _ (wnc (by decide) wn0) hSv)
        have e21x := (f84x.2 _ _ (wnc (by omega) wn0) hq)
        try have q22x := nI_toInt (n := k) (by omega)
        refine wq_inlv (y2 := 233) (as := [.ref rq, .int (nI k), .ref 220, .int 0]) rfl rfl rfl e7x rfl (wq_mono (m_tks (l := 0) e7x e20x e21x c04x hk (by decide) (by first | assumption | omega | decide | solve_by_elim)) ?_)
        rintro _ rfl
        show wq 248 64 [(0, .ref 162), (1, .ref rq), (2, .int (nI k)), (3, .int (nI i)), (4, .int u), (5, .int le), (6, .int (nI n))] [.int (mtkF sv qq k (v5x) 0 (6 - 0 + 1) 0 0)] h84x dc ds _
        refine wq_gos (f := 1) (pc2 := 65) (ls2 := [(0, .ref 162), (1, .ref rq), (2, .int (nI k)), (3, .int (nI i)), (4, .int u), (5, .int le), (6, .int (nI n))]) (st2 := [.ref 162, .int (mtkF sv qq k (v5x) 0 (6 - 0 + 1) 0 0)]) (h2 := h84x) (dc2 := dc) (ds2 := ds) 1 rfl ?_
        refine wq_getf rfl e7x rfl rfl ?_
        refine wq_gos (f := 1) (pc2 := 73) (ls2 := [(0, .ref 162), (1, .ref rq), (2, .int (nI k)), (3, .int (nI i)), (4, .int u), (5, .int le), (6, .int (nI n))]) (st2 := [.int ((600 : Int32) * (nI i)), .ref 208, .int (mtkF sv qq k (v5x) 0 (6 - 0 + 1) 0 0)]) (h2 := h84x) (dc2 := dc) (ds2 := ds) 3 rfl ?_
        refine wq_vi (show (600 : Int32) * (nI i) = nI (600 * i) from e_nmul 600 i) ?_
        refine wq_gos (f := 1) (pc2 := 76) (ls2 := [(0, .ref 162), (1, .ref rq), (2, .int (nI k)), (3, .int (nI i)), (4, .int u), (5, .int le), (6, .int (nI n))]) (st2 := [.int ((nI (600 * i)) + (nI n)), .ref 208, .int (mtkF sv qq k (v5x) 0 (6 - 0 + 1) 0 0)]) (h2 := h84x) (dc2 := dc) (ds2 := ds) 2 rfl ?_
        refine wq_vi (show (nI (600 * i)) + (nI n) = nI ((600 * i) + n) from nI_add (600 * i) n) ?_
        refine wq_ialdn rfl e8x (by first | omega | exact zin_t (by omega) (by omega)) (by decide) rfl ?_
        refine wq_gos (f := 1) (pc2 := 80) (ls2 := [(0, .ref 162), (1, .ref rq), (2, .int (nI k)), (3, .int (nI i)), (4, .int u), (5, .int le), (6, .int (nI n))]) (st2 := [.int le, .int ((mtkF sv qq k (v5x) 0 (6 - 0 + 1) 0 0) + (tg.getD ((600 * i) + n) 0))]) (h2 := h84x) (dc2 := dc) (ds2 := ds) 2 rfl ?_
        try have q24x : (((mtkF sv qq k (v5x) 0 (6 - 0 + 1) 0 0) + (tg.getD ((600 * i) + n) 0))).toInt = (mtkF sv qq k (v5x) 0 (6 - 0 + 1) 0 0).toInt + (tg.getD ((600 * i) + n) 0).toInt := e_add (by omega) (by omega)
        refine wq_ne2 rfl rfl (fun b25x => ?_) (fun b25x => ?_)
        · have q26x : ((mtkF sv qq k (v5x) 0 (6 - 0 + 1) 0 0) + (tg.getD ((600 * i) + n) 0)).toInt ≠ le.toInt := fun q => b25x (Int32.toInt_inj.mp q)
          refine wq_gos (f := 1) (pc2 := 89) (ls2 := [(6, .int ((nI n) + 1)), (0, .ref 162), (1, .ref rq), (2, .int (nI k)), (3, .int (nI i)), (4, .int u), (5, .int le)]) (st2 := []) (h2 := h84x) (dc2 := dc) (ds2 := ds) 1 rfl ?_
          rw [nI_1]
          refine wq_gos (f := 1) (pc2 := 3) (ls2 := [(6, .int (nI (n + 1))), (0, .ref 162), (1, .ref rq), (2, .int (nI k)), (3, .int (nI i)), (4, .int u), (5, .int le)]) (st2 := []) (h2 := h84x) (dc2 := dc) (ds2 := ds) 1 rfl ?_
          try have q27x := nI_toInt (n := (n + 1)) (by omega)
          have e28x := (f84x.2 _ _ (wnc (by decide) wn0) hWy)
          have e29x := (f84x.2 _ _ (wnc (by decide) wn0) hFo)
          have hne : n ≠ n9 := by
            intro e9
            subst e9
            obtain ⟨g1, g2, g3⟩ := hhit
            subst hv6x
            have el : mLsS fo w n 0 t1 = mUnp (fo.getD (600 * w + n) 0) 0 t1 := rfl
            have g3b : mtkF sv qq k (mLsS fo w n 0 t1) 0 (6 - 0 + 1) 0 0 + tg.getD (600 * i + n) 0 = le := by rw [el, mtkF_c sv qq k _ t1 [] _ _ _ (Nat.zero_le 6)]; exact g3
            have g2b : u = 0 ∨ mKep qq k (mLsS fo w n 0 t1) 0 ≠ 0 := by rw [el, mKep_c qq k _ t1 []]; exact g2
            first | omega | exact absurd g3b (by assumption) | (rcases g2b with g2b | g2b <;> first | exact absurd g2b (by assumption) | exact absurd (by assumption) g2b)
          have hx : (mfbF fo w tg sv qq i k u le (m + 1) n t1) = (mfbF fo w tg sv qq i k u le m (n + 1) (v5x)) := by show zlet _ _ = _; rw [zlet_eq hv6x, if_neg (Int.not_le.mpr b11x), if_pos b18x, if_pos b25x]
          rw [hx]
          refine wq_ls [(0, .ref 162), (1, .ref rq), (2, .int (nI k)), (3, .int (nI i)), (4, .int u), (5, .int le), (6, .int (nI (n + 1)))] (show ([0, 1, 2, 3, 4, 5, 6] : List Nat).Nodup by decide) ⟨rfl, rfl, rfl, rfl, rfl, rfl, rfl, trivial⟩ ?_
          refine wq_mono (ih (n + 1) (v5x) h84x e7x e28x e8x e29x e20x e21x c04x (Nat.lt_of_le_of_ne hn hne) (by omega) dc ds) ?_
          rintro _ ⟨h9, rfl, f9, l9, y0, y1⟩
          exact ⟨h9, rfl, wFr_tr (wFr_sub f84x (by simp)) f9, by omega, y0, y1⟩
        · have q30x : ((mtkF sv qq k (v5x) 0 (6 - 0 + 1) 0 0) + (tg.getD ((600 * i) + n) 0)).toInt = le.toInt := congrArg Int32.toInt b25x
          refine wq_gos (f := 1) (pc2 := 85) (ls2 := [(0, .ref 162), (1, .ref rq), (2, .int (nI k)), (3, .int (nI i)), (4, .int u), (5, .int le), (6, .int (nI n))]) (st2 := [.int (nI n)]) (h2 := h84x) (dc2 := dc) (ds2 := ds) 1 rfl ?_
          have hx : (mfbF fo w tg sv qq i k u le (m + 1) n t1) = ((nI n), (v5x)) := by show zlet _ _ = _; rw [zlet_eq hv6x, if_neg (Int.not_le.mpr b11x), if_pos b18x, if_neg (fun q => q b25x)]
          rw [hx]
          exact wq_ret rfl rfl ⟨h84x, rfl, (wFr_sub f84x (by simp)), by omega, c04x, ⟨n, rfl, hn, by omega⟩⟩
      · have q31x : u.toInt ≠ 0 := fun q => b18x (Int32.toInt_inj.mp q)
        refine wq_gos (f := 1) (pc2 := 43) (ls2 := [(0, .ref 162), (1, .ref rq), (2, .int (nI k)), (3, .int (nI i)), (4, .int u), (5, .int le), (6, .int (nI n))]) (st2 := [.ref 162, .int (nI k), .ref rq, .ref 162]) (h2 := h84x) (dc2 := dc) (ds2 := ds) 4 rfl ?_
        refine wq_getf rfl e7x rfl rfl ?_
        refine wq_gos (f := 1) (pc2 := 47) (ls2 := [(0, .ref 162), (1, .ref rq), (2, .int (nI k)), (3, .int (nI i)), (4, .int u), (5, .int le), (6, .int (nI n))]) (st2 := [.int 0, .ref 220, .int (nI k), .ref rq, .ref 162]) (h2 := h84x) (dc2 := dc) (ds2 := ds) 1 rfl ?_
        have e32x := (f84x.2 _ _ (wnc (by omega) wn0) hq)
        try have q33x := nI_toInt (n := k) (by omega)
        refine wq_inlv (y2 := 234) (as := [.ref rq, .int (nI k), .ref 220, .int 0]) rfl rfl rfl e7x rfl (wq_mono (m_kept (l := 0) e7x e32x c04x hk (by decide)) ?_)
        rintro _ rfl
        show wq 248 50 [(0, .ref 162), (1, .ref rq), (2, .int (nI k)), (3, .int (nI i)), (4, .int u), (5, .int le), (6, .int (nI n))] [.int (mKep qq k (v5x) 0)] h84x dc ds _
        refine wq_eq0 rfl rfl (fun b35x => ?_) (fun b35x => ?_)
        · have q36x : (mKep qq k (v5x) 0).toInt = 0 := congrArg Int32.toInt b35x
          refine wq_gos (f := 1) (pc2 := 89) (ls2 := [(6, .int ((nI n) + 1)), (0, .ref 162), (1, .ref rq), (2, .int (nI k)), (3, .int (nI i)), (4, .int u), (5, .int le)]) (st2 := []) (h2 := h84x) (dc2 := dc) (ds2 := ds) 1 rfl ?_
          rw [nI_1]
          refine wq_gos (f := 1) (pc2 := 3) (ls2 := [(6, .int (nI (n + 1))), (0, .ref 162), (1, .ref rq), (2, .int (nI k)), (3, .int (nI i)), (4, .int u), (5, .int le)]) (st2 := []) (h2 := h84x) (dc2 := dc) (ds2 := ds) 1 rfl ?_
          try have q37x := nI_toInt (n := (n + 1)) (by omega)
          have e38x := (f84x.2 _ _ (wnc (by decide) wn0) hWy)
          have e39x := (f84x.2 _ _ (wnc (by decide) wn0) hFo)
          have e40x := (f84x.2 _ _ (wnc (by decide) wn0) hSv)
          have hne : n ≠ n9 := by
            intro e9
            subst e9
            obtain ⟨g1, g2, g3⟩ := hhit
            subst hv6x
            have el : mLsS fo w n 0 t1 = mUnp (fo.getD (600 * w + n) 0) 0 t1 := rfl
            have g3b : mtkF sv qq k (mLsS fo w n 0 t1) 0 (6 - 0 + 1) 0 0 + tg.getD (600 * i + n) 0 = le := by rw [el, mtkF_c sv qq k _ t1 [] _ _ _ (Nat.zero_le 6)]; exact g3
            have g2b : u = 0 ∨ mKep qq k (mLsS fo w n 0 t1) 0 ≠ 0 := by rw [el, mKep_c qq k _ t1 []]; exact g2
            first | omega | exact absurd g3b (by assumption) | (rcases g2b with g2b | g2b <;> first | exact absurd g2b (by assumption) | exact absurd (by assumption) g2b)
          have hx : (mfbF fo w tg sv qq i k u le (m + 1) n t1) = (mfbF fo w tg sv qq i k u le m (n + 1) (v5x)) := by show zlet _ _ = _; rw [zlet_eq hv6x, if_neg (Int.not_le.mpr b11x), if_neg b18x, if_pos b35x]
          rw [hx]
          refine wq_ls [(0, .ref 162), (1, .ref rq), (2, .int (nI k)), (3, .int (nI i)), (4, .int u), (5, .int le), (6, .int (nI (n + 1)))] (show ([0, 1, 2, 3, 4, 5, 6] : List Nat).Nodup by decide) ⟨rfl, rfl, rfl, rfl, rfl, rfl, rfl, trivial⟩ ?_
          refine wq_mono (ih (n + 1) (v5x) h84x e7x e38x e8x e39x e40x e32x c04x (Nat.lt_of_le_of_ne hn hne) (by omega) dc ds) ?_
          rintro _ ⟨h9, rfl, f9, l9, y0, y1⟩
          exact ⟨h9, rfl, wFr_tr (wFr_sub f84x (by simp)) f9, by omega, y0, y1⟩
        · have q41x : (mKep qq k (v5x) 0).toInt ≠ 0 := fun q => b35x (Int32.toInt_inj.mp q)
          refine wq_gos (f := 1) (pc2 := 57) (ls2 := [(0, .ref 162), (1, .ref rq), (2, .int (nI k)), (3, .int (nI i)), (4, .int u), (5, .int le), (6, .int (nI n))]) (st2 := [.ref 162, .int (nI k), .ref rq, .ref 162]) (h2 := h84x) (dc2 := dc) (ds2 := ds) 4 rfl ?_
          refine wq_getf rfl e7x rfl rfl ?_
          refine wq_gos (f := 1) (pc2 := 61) (ls2 := [(0, .ref 162), (1, .ref rq), (2, .int (nI k)), (3, .int (nI i)), (4, .int u), (5, .int le), (6, .int (nI n))]) (st2 := [.int 0, .ref 220, .int (nI k), .ref rq, .ref 162]) (h2 := h84x) (dc2 := dc) (ds2 := ds) 1 rfl ?_
          have e42x := (f84x.2 _ _ (wnc (by decide) wn0) hSv)
          refine wq_inlv (y2 := 233) (as := [.ref rq, .int (nI k), .ref 220, .int 0]) rfl rfl rfl e7x rfl (wq_mono (m_tks (l := 0) e7x e42x e32x c04x hk (by decide) (by first | assumption | omega | decide | solve_by_elim)) ?_)
          rintro _ rfl
          show wq 248 64 [(0, .ref 162), (1, .ref rq), (2, .int (nI k)), (3, .int (nI i)), (4, .int u), (5, .int le), (6, .int (nI n))] [.int (mtkF sv qq k (v5x) 0 (6 - 0 + 1) 0 0)] h84x dc ds _
          refine wq_gos (f := 1) (pc2 := 65) (ls2 := [(0, .ref 162), (1, .ref rq), (2, .int (nI k)), (3, .int (nI i)), (4, .int u), (5, .int le), (6, .int (nI n))]) (st2 := [.ref 162, .int (mtkF sv qq k (v5x) 0 (6 - 0 + 1) 0 0)]) (h2 := h84x) (dc2 := dc) (ds2 := ds) 1 rfl ?_
          refine wq_getf rfl e7x rfl rfl ?_
          refine wq_gos (f := 1) (pc2 := 73) (ls2 := [(0, .ref 162), (1, .ref rq), (2, .int (nI k)), (3, .int (nI i)), (4, .int u), (5, .int le), (6, .int (nI n))]) (st2 := [.int ((600 : Int32) * (nI i)), .ref 208, .int (mtkF sv qq k (v5x) 0 (6 - 0 + 1) 0 0)]) (h2 := h84x) (dc2 := dc) (ds2 := ds) 3 rfl ?_
          refine wq_vi (show (600 : Int32) * (nI i) = nI (600 * i) from e_nmul 600 i) ?_
          refine wq_gos (f := 1) (pc2 := 76) (ls2 := [(0, .ref 162), (1, .ref rq), (2, .int (nI k)), (3, .int (nI i)), (4, .int u), (5, .int le), (6, .int (nI n))]) (st2 := [.int ((nI (600 * i)) + (nI n)), .ref 208, .int (mtkF sv qq k (v5x) 0 (6 - 0 + 1) 0 0)]) (h2 := h84x) (dc2 := dc) (ds2 := ds) 2 rfl ?_
          refine wq_vi (show (nI (600 * i)) + (nI n) = nI ((600 * i) + n) from nI_add (600 * i) n) ?_
          refine wq_ialdn rfl e8x (by first | omega | exact zin_t (by omega) (by omega)) (by decide) rfl ?_
          refine wq_gos (f := 1) (pc2 := 80) (ls2 := [(0, .ref 162), (1, .ref rq), (2, .int (nI k)), (3, .int (nI i)), (4, .int u), (5, .int le), (6, .int (nI n))]) (st2 := [.int le, .int ((mtkF sv qq k (v5x) 0 (6 - 0 + 1) 0 0) + (tg.getD ((600 * i) + n) 0))]) (h2 := h84x) (dc2 := dc) (ds2 := ds) 2 rfl ?_
          try have q44x : (((mtkF sv qq k (v5x) 0 (6 - 0 + 1) 0 0) + (tg.getD ((600 * i) + n) 0))).toInt = (mtkF sv qq k (v5x) 0 (6 - 0 + 1) 0 0).toInt + (tg.getD ((600 * i) + n) 0).toInt := e_add (by omega) (by omega)
          refine wq_ne2 rfl rfl (fun b45x => ?_) (fun b45x => ?_)
          · have q46x : ((mtkF sv qq k (v5x) 0 (6 - 0 + 1) 0 0) + (tg.getD ((600 * i) + n) 0)).toInt ≠ le.toInt := fun q => b45x (Int32.toInt_inj.mp q)
            refine wq_gos (f := 1) (pc2 := 89) (ls2 := [(6, .int ((nI n) + 1)), (0, .ref 162), (1, .ref rq), (2, .int (nI k)), (3, .int (nI i)), (4, .int u), (5, .int le)]) (st2 := []) (h2 := h84x) (dc2 := dc) (ds2 := ds) 1 rfl ?_
            rw [nI_1]
            refine wq_gos (f := 1) (pc2 := 3) (ls2 := [(6, .int (nI (n + 1))), (0, .ref 162), (1, .ref rq), (2, .int (nI k)), (3, .int (nI i)), (4, .int u), (5, .int le)]) (st2 := []) (h2 := h84x) (dc2 := dc) (ds2 := ds) 1 rfl ?_
            try have q47x := nI_toInt (n := (n + 1)) (by omega)
            have e48x := (f84x.2 _ _ (wnc (by decide) wn0) hWy)
            have e49x := (f84x.2 _ _ (wnc (by decide) wn0) hFo)
            have hne : n ≠ n9 := by
              intro e9
              subst e9
              obtain ⟨g1, g2, g3⟩ := hhit
              subst hv6x
              have el : mLsS fo w n 0 t1 = mUnp (fo.getD (600 * w + n) 0) 0 t1 := rfl
              have g3b : mtkF sv qq k (mLsS fo w n 0 t1) 0 (6 - 0 + 1) 0 0 + tg.getD (600 * i + n) 0 = le := by rw [el, mtkF_c sv qq k _ t1 [] _ _ _ (Nat.zero_le 6)]; exact g3
              have g2b : u = 0 ∨ mKep qq k (mLsS fo w n 0 t1) 0 ≠ 0 := by rw [el, mKep_c qq k _ t1 []]; exact g2
              first | omega | exact absurd g3b (by assumption) | (rcases g2b with g2b | g2b <;> first | exact absurd g2b (by assumption) | exact absurd (by assumption) g2b)
            have hx : (mfbF fo w tg sv qq i k u le (m + 1) n t1) = (mfbF fo w tg sv qq i k u le m (n + 1) (v5x)) := by show zlet _ _ = _; rw [zlet_eq hv6x, if_neg (Int.not_le.mpr b11x), if_neg b18x, if_neg b35x, if_pos b45x]
            rw [hx]
            refine wq_ls [(0, .ref 162), (1, .ref rq), (2, .int (nI k)), (3, .int (nI i)), (4, .int u), (5, .int le), (6, .int (nI (n + 1)))] (show ([0, 1, 2, 3, 4, 5, 6] : List Nat).Nodup by decide) ⟨rfl, rfl, rfl, rfl, rfl, rfl, rfl, trivial⟩ ?_
            refine wq_mono (ih (n + 1) (v5x) h84x e7x e48x e8x e49x e42x e32x c04x (Nat.lt_of_le_of_ne hn hne) (by omega) dc ds) ?_
            rintro _ ⟨h9, rfl, f9, l9, y0, y1⟩
            exact ⟨h9, rfl, wFr_tr (wFr_sub f84x (by simp)) f9, by omega, y0, y1⟩
          · have q50x : ((mtkF sv qq k (v5x) 0 (6 - 0 + 1) 0 0) + (tg.getD ((600 * i) + n) 0)).toInt = le.toInt := congrArg Int32.toInt b45x
            refine wq_gos (f := 1) (pc2 := 85) (ls2 := [(0, .ref 162), (1, .ref rq), (2, .int (nI k)), (3, .int (nI i)), (4, .int u), (5, .int le), (6, .int (nI n))]) (st2 := [.int (nI n)]) (h2 := h84x) (dc2 := dc) (ds2 := ds) 1 rfl ?_
            have hx : (mfbF fo w tg sv qq i k u le (m + 1) n t1) = ((nI n), (v5x)) := by show zlet _ _ = _; rw [zlet_eq hv6x, if_neg (Int.not_le.mpr b11x), if_neg b18x, if_neg b35x, if_neg (fun q => q b45x)]
            rw [hx]
            exact wq_ret rfl rfl ⟨h84x, rfl, (wFr_sub f84x (by simp)), by omega, c04x, ⟨n, rfl, hn, by omega⟩⟩
noncomputable def mFbN (fo : List Int64) (w : Nat) (tg sv qq : List Int32) (i k : Nat) (u le : Int32) (t1 : List Int32) : Nat := ((mfbF fo w tg sv qq i k u le (600 - 0 + 1) 0 t1).1).toNatClampNeg
set_option maxRecDepth 100000 in
set_option maxHeartbeats 4000000 in
theorem m_fb {h : zH} {n0 n2 n14 n15 n16 n17 n18 n19 n20 n21 n22 n23 n27 n28 n32 n33 n34 n35 n39 n52 : Int32} {i w rq nq k n9 : Nat} {fo : List Int64} {wy tg sv qq : List Int32} {u le : Int32} {t1 : List Int32} (hM : zat h 162 = some (.inr (.inr (.inr (10, mO n0 n2 n14 n15 n16 n17 n18 n19 n20 n21 n22 n23 n27 n28 n32 n33 n34 n35 n39 n52))))) (hWy : zat h 180 = some (.inl (0, 20, wy))) (hTg : zat h 208 = some (.inl (0, 6000, tg))) (hFo : zat h 196 = some (.inr (.inl (6000, fo)))) (hSv : zat h 172 = some (.inl (0, 12, sv))) (hq : zat h rq = some (.inl (0, nq, qq))) (hT1 : zat h 220 = some (.inl (0, 6, t1))) (hi : i < 10) (hw : wy.getD i 0 = nI w ∧ w < 8) (hk : k + 6 ≤ nq ∧ nq ≤ 20000) (hrq : 162 < rq ∧ rq ≠ 220) (hsv : ∀ i, i < 6 → 1 ≤ (sv.getD i 0).toInt) (h9 : n9 < 600) (hhit : fHit fo w tg sv qq i k u le n9) : wq 248 0 [(0, .ref 162), (1, .ref rq), (2, .int (nI k)), (3, .int (nI i)), (4, .int u), (5, .int le)] [] h 0 0 (fun rr9 => ∃ (h2 : zH), rr9 = (some (.int (nI (mFbN fo w tg sv qq i k u le t1))), h2, 0, 0) ∧ wFr [220] h h2 ∧ h2.length = h.length ∧ zat h2 220 = some (.inl (0, 6, ((mfbF fo w tg sv qq i k u le (600 - 0 + 1) 0 t1).2))) ∧ ((mFbN fo w tg sv qq i k u le t1) ≤ n9) ∧ ((tg.getD (600 * i + (mFbN fo w tg sv qq i k u le t1)) 0).toInt < 1000000)) := by
  refine wq_gos (f := 1) (pc2 := 3) (ls2 := [(6, .int 0), (0, .ref 162), (1, .ref rq), (2, .int (nI k)), (3, .int (nI i)), (4, .int u), (5, .int le)]) (st2 := []) (h2 := h) (dc2 := 0) (ds2 := 0) 2 rfl ?_
  try have q1x := nI_toInt (n := k) (by omega)
  try have q2x := nI_toInt (n := i) (by omega)
  refine wq_ls [(0, .ref 162), (1, .ref rq), (2, .int (nI k)), (3, .int (nI i)), (4, .int u), (5, .int le), (6, .int (nI 0))] (show ([0, 1, 2, 3, 4, 5, 6] : List Nat).Nodup by decide) ⟨rfl, rfl, rfl, rfl, rfl, rfl, rfl, trivial⟩ ?_
  refine wq_mono (m_fbL (by first | assumption | omega | decide | solve_by_elim) (by first | assumption | omega | decide | solve_by_elim) (by first | assumption | omega | decide | solve_by_elim) (by first | assumption | omega | decide | solve_by_elim) (by first | assumption | omega | decide | solve_by_elim) (by first | assumption | omega | decide | solve_by_elim) (by first | assumption | omega | decide | solve_by_elim) ((600 - 0) + 1) 0 t1 h hM hWy hTg hFo hSv hq hT1 (by first | assumption | omega | decide | solve_by_elim) (by omega) 0 0) ?_
  rintro _ ⟨h85x, rfl, f85x, l85x, c05x, c15x⟩
  obtain ⟨v3x, hv4x⟩ : ∃ x, x = (mfbF fo w tg sv qq i k u le ((600 - 0) + 1) 0 t1) := ⟨_, rfl⟩
  try rw [← hv4x] at c05x
  try rw [← hv4x] at c15x
  try rw [← hv4x]
  subst hv4x
  obtain ⟨w9, e9, l9, t9⟩ := c15x
  have e8 : (mFbN fo w tg sv qq i k u le t1) = w9 := by unfold mFbN; rw [e9]; exact nI_clamp (by omega)
  exact ⟨h85x, (by rw [e8, e9]), (wFr_sub f85x (by simp)), (by omega), c05x, (by omega), (by rw [e8]; exact t9)⟩
