/-! The reference: what is left from each solution on, all of it. -/
noncomputable def mtgI (fo : List Int64) (wf mf : Nat → Nat) (sv : List Int32) (nw : Nat) (u : Int32) (i mn : Nat) : Nat → Nat → List Int32 → List Int32 → List Int32 → List Int32 × List Int32 × List Int32
  | 0, _, tg, h1, t1 => (tg, h1, t1)
  | m + 1, n, tg, h1, t1 => (if (nI mn).toInt ≤ (nI n).toInt then (tg, h1, t1) else (zlet (mLsS fo (wf i) n 0 h1) (fun v7x => (if (nI i) ≠ ((nI nw) - (1 : Int32)) then (zlet (mLef fo (wf (i + 1)) tg sv (v7x) (i + 1) 0 (mf (wf (i + 1))) u t1) (fun v25x => (mtgI fo wf mf sv nw u i mn m (n + 1) (zset 0 tg ((600 * i) + n) (v25x.1)) (v7x) (v25x.2)))) else (mtgI fo wf mf sv nw u i mn m (n + 1) (zset 0 tg ((600 * i) + n) (0 : Int32)) (v7x) t1)))))
set_option maxRecDepth 100000 in
set_option maxHeartbeats 4000000 in
theorem m_tgI {n0 n2 n14 n15 n16 n17 n18 n19 n20 n21 n22 n23 n27 n28 n32 n33 n34 n35 n39 n52 : Int32} {nw : Nat} {wf mf : Nat → Nat} {fo : List Int64} {kn wy sm sv : List Int32} {u : Int32} {i mn : Nat} (hkn : kn.getD 6 0 = nI nw ∧ nw ≤ 10) (hW : ∀ i, i < nw → wy.getD i 0 = nI (wf i) ∧ wf i < 8) (hS : ∀ i, i < nw → sm.getD (wf i) 0 = nI (mf (wf i)) ∧ mf (wf i) ≤ 600) (hsv : ∀ i, i < 6 → 1 ≤ (sv.getD i 0).toInt) (hi : i < nw) (hmn : mn ≤ 600) {dc ds : Nat} {Q : zR → Prop} : ∀ (m : Nat) (n : Nat) (tg : List Int32) (h1 : List Int32) (t1 : List Int32) (h : zH) , (zat h 162 = some (.inr (.inr (.inr (10, mO n0 n2 n14 n15 n16 n17 n18 n19 n20 n21 n22 n23 n27 n28 n32 n33 n34 n35 n39 n52))))) → (zat h 166 = some (.inl (0, 14, kn))) → (zat h 180 = some (.inl (0, 20, wy))) → (zat h 198 = some (.inl (0, 8, sm))) → (zat h 196 = some (.inr (.inl (6000, fo)))) → (zat h 172 = some (.inl (0, 12, sv))) → (zat h 208 = some (.inl (0, 6000, tg))) → (zat h 206 = some (.inl (0, 6, h1))) → (zat h 220 = some (.inl (0, 6, t1))) → (n ≤ mn) → (mn - n) < m → (∀ (h2 : zH) , (wFr [208, 206, 220] h h2) → (h2.length = h.length) → (zat h2 208 = some (.inl (0, 6000, ((mtgI fo wf mf sv nw u i mn m n tg h1 t1).1)))) → (zat h2 206 = some (.inl (0, 6, ((mtgI fo wf mf sv nw u i mn m n tg h1 t1).2.1)))) → (zat h2 220 = some (.inl (0, 6, ((mtgI fo wf mf sv nw u i mn m n tg h1 t1).2.2)))) → wq 247 90 [(0, .ref 162), (1, .int u), (2, .int (nI i))] [] h2 dc ds Q) → wq 247 26 [(0, .ref 162), (1, .int u), (2, .int (nI i)), (3, .int (nI mn)), (4, .int (nI n))] [] h dc ds Q := by
  intro m
  induction m with
  | zero => intro n tg h1 t1 h hM hKn hWy hSm hFo hSv hTg hH1 hT1 hn hms kk; omega
  | succ m ih =>
    intro n tg h1 t1 h hM hKn hWy hSm hFo hSv hTg hH1 hT1 hn hms kk
    have qnn := nI_toInt (n := n) (by omega)
    have qnmn := nI_toInt (n := mn) (by omega)
    have qni := nI_toInt (n := i) (by omega)
    have qnnw := nI_toInt (n := nw) (by omega)
    refine wq_gos (f := 1) (pc2 := 29) (ls2 := [(0, .ref 162), (1, .int u), (2, .int (nI i)), (3, .int (nI mn)), (4, .int (nI n))]) (st2 := [.int (nI mn), .int (nI n)]) (h2 := h) (dc2 := dc) (ds2 := ds) 2 rfl ?_
    try have q1x := nI_toInt (n := n) (by omega)
    try have q2x := nI_toInt (n := mn) (by omega)
    refine wq_ge2 rfl rfl (fun b3x => ?_) (fun b3x => ?_)
    · have hx : (mtgI fo wf mf sv nw u i mn (m + 1) n tg h1 t1) = (tg, h1, t1) := by show (if _ then _ else _) = _; rw [if_pos b3x]
      rw [hx] at kk
      refine wq_ls [(0, .ref 162), (1, .int u), (2, .int (nI i))] (show ([0, 1, 2] : List Nat).Nodup by decide) ⟨rfl, rfl, rfl, trivial⟩ ?_
      exact kk h (wFr_rf _ _) (by omega) hTg hH1 hT1
    · refine wq_gos (f := 1) (pc2 := 37) (ls2 := [(0, .ref 162), (1, .int u), (2, .int (nI i)), (3, .int (nI mn)), (4, .int (nI n))]) (st2 := [.ref 162, .int (nI n), .int (nI i), .ref 162]) (h2 := h) (dc2 := dc) (ds2 := ds) 4 rfl ?_
      refine wq_getf rfl hM rfl rfl ?_
      refine wq_gos (f := 1) (pc2 := 41) (ls2 := [(0, .ref 162), (1, .int u), (2, .int (nI i)), (3, .int (nI mn)), (4, .int (nI n))]) (st2 := [.int 0, .ref 206, .int (nI n), .int (nI i), .ref 162]) (h2 := h) (dc2 := dc) (ds2 := ds) 1 rfl ?_
      try have q4x := nI_toInt (n := i) (by omega)
      have q5x : (0 : Int32).toInt = 0 := rfl
      refine wq_inlv (y2 := 245) (as := [.int (nI i), .int (nI n), .ref 206, .int 0]) rfl rfl rfl hM rfl (wq_mono (m_lsS (l := 0) hM hWy hFo hH1 (by omega) (hW i hi) (by first | assumption | omega | decide | solve_by_elim) (by decide) (by decide)) ?_)
      rintro _ ⟨h86x, rfl, f86x, l86x, c06x⟩
      show wq 247 44 [(0, .ref 162), (1, .int u), (2, .int (nI i)), (3, .int (nI mn)), (4, .int (nI n))] [] h86x dc ds _
      obtain ⟨v7x, hv8x⟩ : ∃ x, x = (mLsS fo (wf i) n 0 h1) := ⟨_, rfl⟩
      try rw [← hv8x] at c06x
      try rw [← hv8x]
      refine wq_gos (f := 1) (pc2 := 45) (ls2 := [(0, .ref 162), (1, .int u), (2, .int (nI i)), (3, .int (nI mn)), (4, .int (nI n))]) (st2 := [.ref 162]) (h2 := h86x) (dc2 := dc) (ds2 := ds) 1 rfl ?_
      have e9x := (f86x.2 _ _ (wnc (by decide) wn0) hM)
      refine wq_getf rfl e9x rfl rfl ?_
      refine wq_gos (f := 1) (pc2 := 53) (ls2 := [(0, .ref 162), (1, .int u), (2, .int (nI i)), (3, .int (nI mn)), (4, .int (nI n))]) (st2 := [.int ((600 : Int32) * (nI i)), .ref 208]) (h2 := h86x) (dc2 := dc) (ds2 := ds) 3 rfl ?_
      refine wq_vi (show (600 : Int32) * (nI i) = nI (600 * i) from e_nmul 600 i) ?_
      refine wq_gos (f := 1) (pc2 := 56) (ls2 := [(0, .ref 162), (1, .int u), (2, .int (nI i)), (3, .int (nI mn)), (4, .int (nI n))]) (st2 := [.int ((nI (600 * i)) + (nI n)), .ref 208]) (h2 := h86x) (dc2 := dc) (ds2 := ds) 2 rfl ?_
      refine wq_vi (show (nI (600 * i)) + (nI n) = nI ((600 * i) + n) from nI_add (600 * i) n) ?_
      refine wq_gos (f := 1) (pc2 := 58) (ls2 := [(0, .ref 162), (1, .int u), (2, .int (nI i)), (3, .int (nI mn)), (4, .int (nI n))]) (st2 := [.ref 162, .int (nI i), .int (nI ((600 * i) + n)), .ref 208]) (h2 := h86x) (dc2 := dc) (ds2 := ds) 2 rfl ?_
      refine wq_inlv (y2 := 244) (as := []) rfl rfl rfl e9x rfl ?_
      show wq 244 0 [(0, .ref 162)] [] h86x 0 0 _
      refine wq_gos (f := 1) (pc2 := 1) (ls2 := [(0, .ref 162)]) (st2 := [.ref 162]) (h2 := h86x) (dc2 := 0) (ds2 := 0) 1 rfl ?_
      refine wq_getf rfl e9x rfl rfl ?_
      refine wq_gos (f := 1) (pc2 := 6) (ls2 := [(0, .ref 162)]) (st2 := [.int 6, .ref 166]) (h2 := h86x) (dc2 := 0) (ds2 := 0) 1 rfl ?_
      have e10x := (f86x.2 _ _ (wnc (by decide) wn0) hKn)
      have q11x : (6 : Int32).toInt = 6 := rfl
      refine wq_iald rfl e10x rfl rfl ?_
      refine wq_vi hkn.1 ?_
      refine wq_ret rfl rfl ?_
      show wq 247 61 [(0, .ref 162), (1, .int u), (2, .int (nI i)), (3, .int (nI mn)), (4, .int (nI n))] [.int (nI nw), .int (nI i), .int (nI ((600 * i) + n)), .ref 208] h86x dc ds _
      refine wq_gos (f := 1) (pc2 := 63) (ls2 := [(0, .ref 162), (1, .int u), (2, .int (nI i)), (3, .int (nI mn)), (4, .int (nI n))]) (st2 := [.int ((nI nw) - (1 : Int32)), .int (nI i), .int (nI ((600 * i) + n)), .ref 208]) (h2 := h86x) (dc2 := dc) (ds2 := ds) 2 rfl ?_
      try have q12x := nI_toInt (n := nw) (by omega)
      have q13x : (1 : Int32).toInt = 1 := rfl
      try have q14x : (((nI nw) - (1 : Int32))).toInt = (nI nw).toInt - (1 : Int32).toInt := e_sub (by omega) (by omega)
      refine wq_ne2 rfl rfl (fun b15x => ?_) (fun b15x => ?_)
      · have q16x : (nI i).toInt ≠ ((nI nw) - (1 : Int32)).toInt := fun q => b15x (Int32.toInt_inj.mp q)
        refine wq_gos (f := 1) (pc2 := 72) (ls2 := [(0, .ref 162), (1, .int u), (2, .int (nI i)), (3, .int (nI mn)), (4, .int (nI n))]) (st2 := [.ref 162, .ref 162, .int (nI ((600 * i) + n)), .ref 208]) (h2 := h86x) (dc2 := dc) (ds2 := ds) 2 rfl ?_
        refine wq_getf rfl e9x rfl rfl ?_
        refine wq_gos (f := 1) (pc2 := 79) (ls2 := [(0, .ref 162), (1, .int u), (2, .int (nI i)), (3, .int (nI mn)), (4, .int (nI n))]) (st2 := [.int ((nI i) + (1 : Int32)), .int 0, .ref 206, .ref 162, .int (nI ((600 * i) + n)), .ref 208]) (h2 := h86x) (dc2 := dc) (ds2 := ds) 4 rfl ?_
        refine wq_vi (show (nI i) + (1 : Int32) = nI (i + 1) from nI_add i 1) ?_
        refine wq_gos (f := 1) (pc2 := 80) (ls2 := [(0, .ref 162), (1, .int u), (2, .int (nI i)), (3, .int (nI mn)), (4, .int (nI n))]) (st2 := [.int u, .int (nI (i + 1)), .int 0, .ref 206, .ref 162, .int (nI ((600 * i) + n)), .ref 208]) (h2 := h86x) (dc2 := dc) (ds2 := ds) 1 rfl ?_
        have e17x := (f86x.2 _ _ (wnc (by decide) wn0) hWy)
        have e18x := (f86x.2 _ _ (wnc (by decide) wn0) hSm)
        have e19x := (f86x.2 _ _ (wnc (by decide) wn0) hTg)
        have e20x := (f86x.2 _ _ (wnc (by decide) wn0) hFo)
        have e21x := (f86x.2 _ _ (wnc (by decide) wn0) hSv)
        have e22x := (f86x.2 _ _ (wnc (by decide) wn0) hT1)
        try have q23x := nI_toInt (n := (i + 1)) (by omega)
        refine wq_inlv (y2 := 246) (as := [.ref 206, .int 0, .int (nI (i + 1)), .int u]) rfl rfl rfl e9x rfl (wq_mono (m_lef (k := 0) e9x e17x e18x e19x e20x e21x c06x e22x (by omega) (hW (i + 1) (by omega)) (hS (i + 1) (by omega)) (by decide) (by decide) (by first | assumption | omega | decide | solve_by_elim)) ?_)
        rintro _ ⟨h824x, rfl, f824x, l824x, c024x⟩
        show wq 247 83 [(0, .ref 162), (1, .int u), (2, .int (nI i)), (3, .int (nI mn)), (4, .int (nI n))] [.int ((mLef fo (wf (i + 1)) tg sv (v7x) (i + 1) 0 (mf (wf (i + 1))) u t1).1), .int (nI ((600 * i) + n)), .ref 208] h824x dc ds _
        obtain ⟨v25x, hv26x⟩ : ∃ x, x = (mLef fo (wf (i + 1)) tg sv (v7x) (i + 1) 0 (mf (wf (i + 1))) u t1) := ⟨_, rfl⟩
        try rw [← hv26x] at c024x
        try rw [← hv26x]
        have e27x := (f824x.2 _ _ (wnc (by decide) wn0) e19x)
        try have q28x := nI_toInt (n := ((600 * i) + n)) (by omega)
        refine wq_iastn rfl e27x (by first | omega | exact zin_t (by omega) (by omega)) (by decide) rfl ?_
        intro hh29x e30x ff31x lh32x
        have e30x : zat hh29x 208 = some (.inl (0, 6000, (zset 0 tg ((600 * i) + n) (v25x.1)))) := e30x
        refine wq_gos (f := 1) (pc2 := 87) (ls2 := [(4, .int ((nI n) + 1)), (0, .ref 162), (1, .int u), (2, .int (nI i)), (3, .int (nI mn))]) (st2 := []) (h2 := hh29x) (dc2 := dc) (ds2 := ds) 1 rfl ?_
        rw [nI_1]
        refine wq_gos (f := 1) (pc2 := 26) (ls2 := [(4, .int (nI (n + 1))), (0, .ref 162), (1, .int u), (2, .int (nI i)), (3, .int (nI mn))]) (st2 := []) (h2 := hh29x) (dc2 := dc) (ds2 := ds) 1 rfl ?_
        try have q33x := nI_toInt (n := (n + 1)) (by omega)
        have e34x := (ff31x.2 _ _ (wnc (by decide) wn0) (f824x.2 _ _ (wnc (by decide) wn0) e9x))
        have e35x := (ff31x.2 _ _ (wnc (by decide) wn0) (f824x.2 _ _ (wnc (by decide) wn0) e10x))
        have e36x := (ff31x.2 _ _ (wnc (by decide) wn0) (f824x.2 _ _ (wnc (by decide) wn0) e17x))
        have e37x := (ff31x.2 _ _ (wnc (by decide) wn0) (f824x.2 _ _ (wnc (by decide) wn0) e18x))
        have e38x := (ff31x.2 _ _ (wnc (by decide) wn0) (f824x.2 _ _ (wnc (by decide) wn0) e20x))
        have e39x := (ff31x.2 _ _ (wnc (by decide) wn0) (f824x.2 _ _ (wnc (by decide) wn0) e21x))
        have e40x := (ff31x.2 _ _ (wnc (by decide) wn0) (f824x.2 _ _ (wnc (by decide) wn0) c06x))
        have e41x := (ff31x.2 _ _ (wnc (by decide) wn0) c024x)
        have hx : (mtgI fo wf mf sv nw u i mn (m + 1) n tg h1 t1) = (mtgI fo wf mf sv nw u i mn m (n + 1) (zset 0 tg ((600 * i) + n) (v25x.1)) (v7x) (v25x.2)) := by show (if _ then _ else _) = _; rw [if_neg (Int.not_le.mpr b3x), zlet_eq hv8x, if_pos b15x, zlet_eq hv26x]
        rw [hx] at kk
        refine wq_ls [(0, .ref 162), (1, .int u), (2, .int (nI i)), (3, .int (nI mn)), (4, .int (nI (n + 1)))] (show ([0, 1, 2, 3, 4] : List Nat).Nodup by decide) ⟨rfl, rfl, rfl, rfl, rfl, trivial⟩ ?_
        exact ih (n + 1) (zset 0 tg ((600 * i) + n) (v25x.1)) (v7x) (v25x.2) hh29x e34x e35x e36x e37x e38x e39x e30x e40x e41x (by first | assumption | omega | decide | solve_by_elim) (by omega) (fun h9 f9 l9 y0 y1 y2 => kk h9 (wFr_tr (wFr_tr (wFr_sub f86x (by simp)) (wFr_tr (wFr_sub f824x (by simp)) (wFr_sub ff31x (by simp)))) f9) (by omega) y0 y1 y2)
      · have q42x : (nI i).toInt = ((nI nw) - (1 : Int32)).toInt := congrArg Int32.toInt b15x
        refine wq_gos (f := 1) (pc2 := 83) (ls2 := [(0, .ref 162), (1, .int u), (2, .int (nI i)), (3, .int (nI mn)), (4, .int (nI n))]) (st2 := [.int 0, .int (nI ((600 * i) + n)), .ref 208]) (h2 := h86x) (dc2 := dc) (ds2 := ds) 2 rfl ?_
        have e43x := (f86x.2 _ _ (wnc (by decide) wn0) hTg)
        try have q44x := nI_toInt (n := ((600 * i) + n)) (by omega)
        refine wq_iastn rfl e43x (by first | omega | exact zin_t (by omega) (by omega)) (by decide) rfl ?_
        intro hh45x e46x ff47x lh48x
        have e46x : zat hh45x 208 = some (.inl (0, 6000, (zset 0 tg ((600 * i) + n) (0 : Int32)))) := e46x
        refine wq_gos (f := 1) (pc2 := 87) (ls2 := [(4, .int ((nI n) + 1)), (0, .ref 162), (1, .int u), (2, .int (nI i)), (3, .int (nI mn))]) (st2 := []) (h2 := hh45x) (dc2 := dc) (ds2 := ds) 1 rfl ?_
        rw [nI_1]
        refine wq_gos (f := 1) (pc2 := 26) (ls2 := [(4, .int (nI (n + 1))), (0, .ref 162), (1, .int u), (2, .int (nI i)), (3, .int (nI mn))]) (st2 := []) (h2 := hh45x) (dc2 := dc) (ds2 := ds) 1 rfl ?_
        try have q49x := nI_toInt (n := (n + 1)) (by omega)
        have e50x := (ff47x.2 _ _ (wnc (by decide) wn0) e9x)
        have e51x := (ff47x.2 _ _ (wnc (by decide) wn0) e10x)
        have e52x := (ff47x.2 _ _ (wnc (by decide) wn0) (f86x.2 _ _ (wnc (by decide) wn0) hWy))
        have e53x := (ff47x.2 _ _ (wnc (by decide) wn0) (f86x.2 _ _ (wnc (by decide) wn0) hSm))
        have e54x := (ff47x.2 _ _ (wnc (by decide) wn0) (f86x.2 _ _ (wnc (by decide) wn0) hFo))
        have e55x := (ff47x.2 _ _ (wnc (by decide) wn0) (f86x.2 _ _ (wnc (by decide) wn0) hSv))
        have e56x := (ff47x.2 _ _ (wnc (by decide) wn0) c06x)
        have e57x := (ff47x.2 _ _ (wnc (by decide) wn0) (f86x.2 _ _ (wnc (by decide) wn0) hT1))
        have hx : (mtgI fo wf mf sv nw u i mn (m + 1) n tg h1 t1) = (mtgI fo wf mf sv nw u i mn m (n + 1) (zset 0 tg ((600 * i) + n) (0 : Int32)) (v7x) t1) := by show (if _ then _ else _) = _; rw [if_neg (Int.not_le.mpr b3x), zlet_eq hv8x, if_neg (fun q => q b15x)]
        rw [hx] at kk
        refine wq_ls [(0, .ref 162), (1, .int u), (2, .int (nI i)), (3, .int (nI mn)), (4, .int (nI (n + 1)))] (show ([0, 1, 2, 3, 4] : List Nat).Nodup by decide) ⟨rfl, rfl, rfl, rfl, rfl, trivial⟩ ?_
        exact ih (n + 1) (zset 0 tg ((600 * i) + n) (0 : Int32)) (v7x) t1 hh45x e50x e51x e52x e53x e54x e55x e46x e56x e57x (by first | assumption | omega | decide | solve_by_elim) (by omega) (fun h9 f9 l9 y0 y1 y2 => kk h9 (wFr_tr (wFr_tr (wFr_sub f86x (by simp)) (wFr_sub ff47x (by simp))) f9) (by omega) y0 y1 y2)
theorem ivA {i nw : Nat} (h : i < nw) (hb : nw ≤ 10) : -1 ≤ (nI i + (-1 : Int32)).toInt ∧ (nI i + (-1 : Int32)).toInt < nw := by
  have := nI_mj (j := i) (by omega)
  omega
theorem ivB {i m : Nat} {iv : Int32} (hiv : iv = nI i) (hi : i < 2 ^ 31) (h : (iv.toInt + 1).toNat < m + 1) : ((nI i + (-1 : Int32)).toInt + 1).toNat < m := by
  rw [hiv, nI_toInt hi] at h
  have := nI_mj (j := i) hi
  omega
noncomputable def mtgO (fo : List Int64) (wf mf : Nat → Nat) (sv : List Int32) (nw : Nat) (u : Int32) : Nat → Int32 → List Int32 → List Int32 → List Int32 → List Int32 × List Int32 × List Int32
  | 0, _, tg, h1, t1 => (tg, h1, t1)
  | m + 1, iv, tg, h1, t1 => (if iv.toInt < 0 then (tg, h1, t1) else (zlet iv.toNatClampNeg (fun i => (zlet (mtgI fo wf mf sv nw u i (mf (wf i)) (((mf (wf i)) - 0) + 1) 0 tg h1 t1) (fun v6x => (mtgO fo wf mf sv nw u m ((nI i) + (-1)) (v6x.1) (v6x.2.1) (v6x.2.2)))))))
set_option maxRecDepth 100000 in
set_option maxHeartbeats 4000000 in
theorem m_tgO {n0 n2 n14 n15 n16 n17 n18 n19 n20 n21 n22 n23 n27 n28 n32 n33 n34 n35 n39 n52 : Int32} {nw : Nat} {wf mf : Nat → Nat} {fo : List Int64} {kn wy sm sv : List Int32} {u : Int32} (hkn : kn.getD 6 0 = nI nw ∧ nw ≤ 10) (hW : ∀ i, i < nw → wy.getD i 0 = nI (wf i) ∧ wf i < 8) (hS : ∀ i, i < nw → sm.getD (wf i) 0 = nI (mf (wf i)) ∧ mf (wf i) ≤ 600) (hsv : ∀ i, i < 6 → 1 ≤ (sv.getD i 0).toInt) {dc ds : Nat} {Q : zR → Prop} : ∀ (m : Nat) (iv : Int32) (tg : List Int32) (h1 : List Int32) (t1 : List Int32) (h : zH) , (zat h 162 = some (.inr (.inr (.inr (10, mO n0 n2 n14 n15 n16 n17 n18 n19 n20 n21 n22 n23 n27 n28 n32 n33 n34 n35 n39 n52))))) → (zat h 166 = some (.inl (0, 14, kn))) → (zat h 180 = some (.inl (0, 20, wy))) → (zat h 198 = some (.inl (0, 8, sm))) → (zat h 196 = some (.inr (.inl (6000, fo)))) → (zat h 172 = some (.inl (0, 12, sv))) → (zat h 208 = some (.inl (0, 6000, tg))) → (zat h 206 = some (.inl (0, 6, h1))) → (zat h 220 = some (.inl (0, 6, t1))) → (-1 ≤ iv.toInt ∧ iv.toInt < nw) → (iv.toInt + 1).toNat < m → (∀ (h2 : zH) , (wFr [208, 206, 220] h h2) → (h2.length = h.length) → (zat h2 208 = some (.inl (0, 6000, ((mtgO fo wf mf sv nw u m iv tg h1 t1).1)))) → (zat h2 206 = some (.inl (0, 6, ((mtgO fo wf mf sv nw u m iv tg h1 t1).2.1)))) → (zat h2 220 = some (.inl (0, 6, ((mtgO fo wf mf sv nw u m iv tg h1 t1).2.2)))) → wq 247 96 [(0, .ref 162)] [] h2 dc ds Q) → wq 247 7 [(0, .ref 162), (1, .int u), (2, .int iv)] [] h dc ds Q := by
  intro m
  induction m with
  | zero => intro iv tg h1 t1 h hM hKn hWy hSm hFo hSv hTg hH1 hT1 hv hms kk; omega
  | succ m ih =>
    intro iv tg h1 t1 h hM hKn hWy hSm hFo hSv hTg hH1 hT1 hv hms kk
    have qnnw := nI_toInt (n := nw) (by omega)
    refine wq_gos (f := 1) (pc2 := 8) (ls2 := [(0, .ref 162), (1, .int u), (2, .int iv)]) (st2 := [.int iv]) (h2 := h) (dc2 := dc) (ds2 := ds) 1 rfl ?_
    refine wq_lt0 rfl rfl (fun b1x => ?_) (fun b1x => ?_)
    · have hx : (mtgO fo wf mf sv nw u (m + 1) iv tg h1 t1) = (tg, h1, t1) := by show (if _ then _ else _) = _; rw [if_pos b1x]
      rw [hx] at kk
      refine wq_ls [(0, .ref 162)] (show ([0] : List Nat).Nodup by decide) ⟨rfl, trivial⟩ ?_
      exact kk h (wFr_rf _ _) (by omega) hTg hH1 hT1
    · have hiv : iv = nI iv.toNatClampNeg := nI_cl (by omega)
      obtain ⟨i, hi9⟩ : ∃ x, x = iv.toNatClampNeg := ⟨_, rfl⟩
      rw [← hi9] at hiv
      have hi : i < nw := by rw [hi9]; show iv.toInt.toNat < nw; omega
      have qni := nI_toInt (n := i) (by omega)
      have hwf := (hW i hi).2
      refine wq_ls [(0, .ref 162), (1, .int u), (2, .int (nI i))] (show ([0, 1, 2] : List Nat).Nodup by decide) ⟨rfl, rfl, congrArg (fun z => some (Value.int z)) hiv, trivial⟩ ?_
      refine wq_gos (f := 1) (pc2 := 12) (ls2 := [(0, .ref 162), (1, .int u), (2, .int (nI i))]) (st2 := [.ref 162]) (h2 := h) (dc2 := dc) (ds2 := ds) 1 rfl ?_
      refine wq_getf rfl hM rfl rfl ?_
      refine wq_gos (f := 1) (pc2 := 16) (ls2 := [(0, .ref 162), (1, .int u), (2, .int (nI i))]) (st2 := [.ref 162, .ref 198]) (h2 := h) (dc2 := dc) (ds2 := ds) 1 rfl ?_
      refine wq_getf rfl hM rfl rfl ?_
      refine wq_gos (f := 1) (pc2 := 20) (ls2 := [(0, .ref 162), (1, .int u), (2, .int (nI i))]) (st2 := [.int (nI i), .ref 180, .ref 198]) (h2 := h) (dc2 := dc) (ds2 := ds) 1 rfl ?_
      try have q2x := nI_toInt (n := i) (by omega)
      refine wq_ialdn rfl hWy (by first | omega | exact zin_t (by omega) (by omega)) (by decide) rfl ?_
      refine wq_vi (hW i hi).1 ?_
      try have q3x := nI_toInt (n := (wf i)) (by omega)
      refine wq_ialdn rfl hSm (by first | omega | exact zin_t (by omega) (by omega)) (by decide) rfl ?_
      refine wq_vi (hS i hi).1 ?_
      refine wq_gos (f := 1) (pc2 := 26) (ls2 := [(4, .int 0), (3, .int (nI (mf (wf i)))), (0, .ref 162), (1, .int u), (2, .int (nI i))]) (st2 := []) (h2 := h) (dc2 := dc) (ds2 := ds) 3 rfl ?_
      try have q4x := nI_toInt (n := (mf (wf i))) (by omega)
      refine wq_ls [(0, .ref 162), (1, .int u), (2, .int (nI i)), (3, .int (nI (mf (wf i)))), (4, .int (nI 0))] (show ([0, 1, 2, 3, 4] : List Nat).Nodup by decide) ⟨rfl, rfl, rfl, rfl, rfl, trivial⟩ ?_
      refine m_tgI (by first | assumption | omega | decide | solve_by_elim) (by first | assumption | omega | decide | solve_by_elim) (by first | assumption | omega | decide | solve_by_elim) (by first | assumption | omega | decide | solve_by_elim) (by first | assumption | omega | decide | solve_by_elim) (hS i hi).2 (((mf (wf i)) - 0) + 1) 0 tg h1 t1 h hM hKn hWy hSm hFo hSv hTg hH1 hT1 (by first | assumption | omega | decide | solve_by_elim) (by omega) ?_
      intro h85x f85x l85x c05x c15x c25x
      obtain ⟨v6x, hv7x⟩ : ∃ x, x = (mtgI fo wf mf sv nw u i (mf (wf i)) (((mf (wf i)) - 0) + 1) 0 tg h1 t1) := ⟨_, rfl⟩
      try rw [← hv7x] at c05x
      try rw [← hv7x] at c15x
      try rw [← hv7x] at c25x
      try rw [← hv7x]
      show wq 247 90 [(0, .ref 162), (1, .int u), (2, .int (nI i))] [] h85x dc ds _
      refine wq_gos (f := 1) (pc2 := 7) (ls2 := [(2, .int ((nI i) + (-1))), (0, .ref 162), (1, .int u)]) (st2 := []) (h2 := h85x) (dc2 := dc) (ds2 := ds) 2 rfl ?_
      have q8x : (-1 : Int32).toInt = -1 := rfl
      try have q9x : (((nI i) + (-1))).toInt = (nI i).toInt + (-1 : Int32).toInt := e_add (by omega) (by omega)
      have e10x := (f85x.2 _ _ (wnc (by decide) (wnc (by decide) (wnc (by decide) wn0))) hM)
      have e11x := (f85x.2 _ _ (wnc (by decide) (wnc (by decide) (wnc (by decide) wn0))) hKn)
      have e12x := (f85x.2 _ _ (wnc (by decide) (wnc (by decide) (wnc (by decide) wn0))) hWy)
      have e13x := (f85x.2 _ _ (wnc (by decide) (wnc (by decide) (wnc (by decide) wn0))) hSm)
      have e14x := (f85x.2 _ _ (wnc (by decide) (wnc (by decide) (wnc (by decide) wn0))) hFo)
      have e15x := (f85x.2 _ _ (wnc (by decide) (wnc (by decide) (wnc (by decide) wn0))) hSv)
      have hx : (mtgO fo wf mf sv nw u (m + 1) iv tg h1 t1) = (mtgO fo wf mf sv nw u m ((nI i) + (-1)) (v6x.1) (v6x.2.1) (v6x.2.2)) := by show (if _ then _ else _) = _; rw [if_neg (Int.not_lt.mpr b1x), zlet_eq hi9, zlet_eq hv7x]
      rw [hx] at kk
      refine wq_ls [(0, .ref 162), (1, .int u), (2, .int ((nI i) + (-1)))] (show ([0, 1, 2] : List Nat).Nodup by decide) ⟨rfl, rfl, rfl, trivial⟩ ?_
      exact ih ((nI i) + (-1)) (v6x.1) (v6x.2.1) (v6x.2.2) h85x e10x e11x e12x e13x e14x e15x c05x c15x c25x (ivA hi hkn.2) (ivB hiv (Nat.lt_of_lt_of_le hi (Nat.le_trans hkn.2 (by decide))) hms) (fun h9 f9 l9 y0 y1 y2 => kk h9 (wFr_tr (wFr_sub f85x (by simp)) f9) (by omega) y0 y1 y2)
noncomputable def mLtg (fo : List Int64) (wf mf : Nat → Nat) (sv : List Int32) (nw : Nat) (u : Int32) (tg h1 t1 : List Int32) : List Int32 × List Int32 × List Int32 := (zlet (mtgO fo wf mf sv nw u ((((nI nw) - (1 : Int32)).toInt + 1).toNat + 1) ((nI nw) - (1 : Int32)) tg h1 t1) (fun v6x => ((v6x.1), (v6x.2.1), (v6x.2.2))))
set_option maxRecDepth 100000 in
set_option maxHeartbeats 4000000 in
theorem m_ltg {h : zH} {n0 n2 n14 n15 n16 n17 n18 n19 n20 n21 n22 n23 n27 n28 n32 n33 n34 n35 n39 n52 : Int32} {nw : Nat} {wf mf : Nat → Nat} {fo : List Int64} {kn wy sm sv : List Int32} {u : Int32} {tg h1 t1 : List Int32} (hM : zat h 162 = some (.inr (.inr (.inr (10, mO n0 n2 n14 n15 n16 n17 n18 n19 n20 n21 n22 n23 n27 n28 n32 n33 n34 n35 n39 n52))))) (hKn : zat h 166 = some (.inl (0, 14, kn))) (hWy : zat h 180 = some (.inl (0, 20, wy))) (hSm : zat h 198 = some (.inl (0, 8, sm))) (hFo : zat h 196 = some (.inr (.inl (6000, fo)))) (hSv : zat h 172 = some (.inl (0, 12, sv))) (hTg : zat h 208 = some (.inl (0, 6000, tg))) (hH1 : zat h 206 = some (.inl (0, 6, h1))) (hT1 : zat h 220 = some (.inl (0, 6, t1))) (hkn : kn.getD 6 0 = nI nw ∧ nw ≤ 10) (hW : ∀ i, i < nw → wy.getD i 0 = nI (wf i) ∧ wf i < 8) (hS : ∀ i, i < nw → sm.getD (wf i) 0 = nI (mf (wf i)) ∧ mf (wf i) ≤ 600) (hsv : ∀ i, i < 6 → 1 ≤ (sv.getD i 0).toInt) : wq 247 0 [(0, .ref 162), (1, .int u)] [] h 0 0 (fun rr9 => ∃ (h2 : zH), rr9 = (none, h2, 0, 0) ∧ wFr [208, 206, 220] h h2 ∧ h2.length = h.length ∧ zat h2 208 = some (.inl (0, 6000, ((mLtg fo wf mf sv nw u tg h1 t1).1))) ∧ zat h2 206 = some (.inl (0, 6, ((mLtg fo wf mf sv nw u tg h1 t1).2.1))) ∧ zat h2 220 = some (.inl (0, 6, ((mLtg fo wf mf sv nw u tg h1 t1).2.2)))) := by
  have qnnw := nI_toInt (n := nw) (by omega)
  refine wq_gos (f := 1) (pc2 := 1) (ls2 := [(0, .ref 162), (1, .int u)]) (st2 := [.ref 162]) (h2 := h) (dc2 := 0) (ds2 := 0) 1 rfl ?_
  refine wq_inlv (y2 := 244) (as := []) rfl rfl rfl hM rfl ?_
  show wq 244 0 [(0, .ref 162)] [] h 0 0 _
  refine wq_gos (f := 1) (pc2 := 1) (ls2 := [(0, .ref 162)]) (st2 := [.ref 162]) (h2 := h) (dc2 := 0) (ds2 := 0) 1 rfl ?_
  refine wq_getf rfl hM rfl rfl ?_
  refine wq_gos (f := 1) (pc2 := 6) (ls2 := [(0, .ref 162)]) (st2 := [.int 6, .ref 166]) (h2 := h) (dc2 := 0) (ds2 := 0) 1 rfl ?_
  have q1x : (6 : Int32).toInt = 6 := rfl
  refine wq_iald rfl hKn rfl rfl ?_
  refine wq_vi hkn.1 ?_
  refine wq_ret rfl rfl ?_
  show wq 247 4 [(0, .ref 162), (1, .int u)] [.int (nI nw)] h 0 0 _
  refine wq_gos (f := 1) (pc2 := 7) (ls2 := [(2, .int ((nI nw) - (1 : Int32))), (0, .ref 162), (1, .int u)]) (st2 := []) (h2 := h) (dc2 := 0) (ds2 := 0) 3 rfl ?_
  try have q2x := nI_toInt (n := nw) (by omega)
  have q3x : (1 : Int32).toInt = 1 := rfl
  try have q4x : (((nI nw) - (1 : Int32))).toInt = (nI nw).toInt - (1 : Int32).toInt := e_sub (by omega) (by omega)
  refine wq_ls [(0, .ref 162), (1, .int u), (2, .int ((nI nw) - (1 : Int32)))] (show ([0, 1, 2] : List Nat).Nodup by decide) ⟨rfl, rfl, rfl, trivial⟩ ?_
  refine m_tgO (by first | assumption | omega | decide | solve_by_elim) (by first | assumption | omega | decide | solve_by_elim) (by first | assumption | omega | decide | solve_by_elim) (by first | assumption | omega | decide | solve_by_elim) ((((nI nw) - (1 : Int32)).toInt + 1).toNat + 1) ((nI nw) - (1 : Int32)) tg h1 t1 h hM hKn hWy hSm hFo hSv hTg hH1 hT1 (by first | assumption | omega | decide | solve_by_elim) (by omega) ?_
  intro h85x f85x l85x c05x c15x c25x
  obtain ⟨v6x, hv7x⟩ : ∃ x, x = (mtgO fo wf mf sv nw u ((((nI nw) - (1 : Int32)).toInt + 1).toNat + 1) ((nI nw) - (1 : Int32)) tg h1 t1) := ⟨_, rfl⟩
  try rw [← hv7x] at c05x
  try rw [← hv7x] at c15x
  try rw [← hv7x] at c25x
  try rw [← hv7x]
  show wq 247 96 [(0, .ref 162)] [] h85x 0 0 _
  have hx : (mLtg fo wf mf sv nw u tg h1 t1) = ((v6x.1), (v6x.2.1), (v6x.2.2)) := by unfold mLtg; rw [zlet_eq hv7x]
  rw [hx]
  exact wq_ret rfl rfl ⟨h85x, rfl, (wFr_sub f85x (by simp)), by omega, c05x, c15x, c25x⟩
