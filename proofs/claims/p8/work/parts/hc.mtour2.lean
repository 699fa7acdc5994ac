/-! The reference: laysTour, tour. -/
noncomputable def mltI (sv sq : List Int32) (n : Nat) (b : Nat) : Nat → Nat → List Int32 → List Int32
  | 0, _, tl => tl
  | m + 1, l, tl => (if (nI n).toInt ≤ (nI l).toInt then tl else (if (nI ((b >>> l) % 2)) ≠ (1 : Int32) then (mltI sv sq n b m (l + 1) tl) else (mltI sv sq n b m (l + 1) (zset 0 tl ((8 * b) + l) (if b + 1 = 2 ^ n then 0 else (mtfSF sv sq tl n b l (n - 0 + 1) 1000000 0))))))
set_option maxRecDepth 100000 in
set_option maxHeartbeats 4000000 in
theorem m_ltI {n0 n2 n14 n15 n16 n17 n18 n19 n20 n21 n22 n23 n27 n28 n32 n33 n34 n35 n39 n52 : Int32} {n : Nat} {sv sq nw kn : List Int32} {b : Nat} (hsp : n ≤ 8) (hb : b < 2 ^ n) (hsv : ∀ i, i < 6 → 1 ≤ (sv.getD i 0).toInt) (hkn : kn.getD 5 0 = nI n) {dc ds : Nat} {Q : zR → Prop} : ∀ (m : Nat) (l : Nat) (tl : List Int32) (h : zH) , (zat h 162 = some (.inr (.inr (.inr (10, mO n0 n2 n14 n15 n16 n17 n18 n19 n20 n21 n22 n23 n27 n28 n32 n33 n34 n35 n39 n52))))) → (zat h 172 = some (.inl (0, 12, sv))) → (zat h 178 = some (.inl (0, 96, sq))) → (zat h 188 = some (.inl (0, 6, nw))) → (zat h 226 = some (.inl (0, 2048, tl))) → (zat h 166 = some (.inl (0, 14, kn))) → (l ≤ n) → (n - l) < m → (∀ (h2 : zH) , (wFr [226] h h2) → (h2.length = h.length) → (zat h2 226 = some (.inl (0, 2048, ((mltI sv sq n b m l tl))))) → wq 271 59 [(0, .ref 162), (1, .int (nI b))] [] h2 dc ds Q) → wq 271 17 [(0, .ref 162), (1, .int (nI b)), (2, .int (nI l))] [] h dc ds Q := by
  intro m
  induction m with
  | zero => intro l tl h hM hSv hSq hNw hTl hKn hl hms kk; omega
  | succ m ih =>
    intro l tl h hM hSv hSq hNw hTl hKn hl hms kk
    have qnl := nI_toInt (n := l) (by omega)
    have qnn := nI_toInt (n := n) (by omega)
    have hp8 := pow8 hsp
    have hsh := shr_le b l
    have hsm := Nat.mod_lt (b >>> l) (show 0 < 2 by decide)
    have qb := nI_toInt (n := b) (by omega)
    refine wq_gos (f := 1) (pc2 := 19) (ls2 := [(0, .ref 162), (1, .int (nI b)), (2, .int (nI l))]) (st2 := [.ref 162, .int (nI l)]) (h2 := h) (dc2 := dc) (ds2 := ds) 2 rfl ?_
    refine wq_getf rfl hM rfl rfl ?_
    refine wq_gos (f := 1) (pc2 := 23) (ls2 := [(0, .ref 162), (1, .int (nI b)), (2, .int (nI l))]) (st2 := [.int 5, .ref 166, .int (nI l)]) (h2 := h) (dc2 := dc) (ds2 := ds) 1 rfl ?_
    have q1x : (5 : Int32).toInt = 5 := rfl
    refine wq_iald rfl hKn rfl rfl ?_
    refine wq_vi hkn ?_
    try have q2x := nI_toInt (n := l) (by omega)
    try have q3x := nI_toInt (n := n) (by omega)
    refine wq_ge2 rfl rfl (fun b4x => ?_) (fun b4x => ?_)
    · have hx : (mltI sv sq n b (m + 1) l tl) = tl := by show (if _ then _ else _) = _; rw [if_pos b4x]
      rw [hx] at kk
      refine wq_ls [(0, .ref 162), (1, .int (nI b))] (show ([0, 1] : List Nat).Nodup by decide) ⟨rfl, rfl, trivial⟩ ?_
      exact kk h (wFr_rf _ _) (by omega) hTl
    · refine wq_gos (f := 1) (pc2 := 30) (ls2 := [(0, .ref 162), (1, .int (nI b)), (2, .int (nI l))]) (st2 := [.int ((nI b) >>> ((nI l) &&& 31))]) (h2 := h) (dc2 := dc) (ds2 := ds) 3 rfl ?_
      refine wq_vi (show ((nI b) >>> ((nI l) &&& 31)) = nI (b >>> l) from e_shr (b := b) (k := l) (by omega) (by omega)) ?_
      refine wq_gos (f := 1) (pc2 := 32) (ls2 := [(0, .ref 162), (1, .int (nI b)), (2, .int (nI l))]) (st2 := [.int ((nI (b >>> l)) &&& (1 : Int32))]) (h2 := h) (dc2 := dc) (ds2 := ds) 2 rfl ?_
      refine wq_vi (show ((nI (b >>> l)) &&& (1 : Int32)) = nI ((b >>> l) % 2) from e_and1 (b >>> l)) ?_
      refine wq_gos (f := 1) (pc2 := 33) (ls2 := [(0, .ref 162), (1, .int (nI b)), (2, .int (nI l))]) (st2 := [.int 1, .int (nI ((b >>> l) % 2))]) (h2 := h) (dc2 := dc) (ds2 := ds) 1 rfl ?_
      try have q5x := nI_toInt (n := ((b >>> l) % 2)) (by omega)
      have q6x : (1 : Int32).toInt = 1 := rfl
      refine wq_ne2 rfl rfl (fun b7x => ?_) (fun b7x => ?_)
      · have q8x : (nI ((b >>> l) % 2)).toInt ≠ 1 := fun q => b7x (Int32.toInt_inj.mp q)
        refine wq_gos (f := 1) (pc2 := 56) (ls2 := [(2, .int ((nI l) + 1)), (0, .ref 162), (1, .int (nI b))]) (st2 := []) (h2 := h) (dc2 := dc) (ds2 := ds) 1 rfl ?_
        rw [nI_1]
        refine wq_gos (f := 1) (pc2 := 17) (ls2 := [(2, .int (nI (l + 1))), (0, .ref 162), (1, .int (nI b))]) (st2 := []) (h2 := h) (dc2 := dc) (ds2 := ds) 1 rfl ?_
        try have q9x := nI_toInt (n := (l + 1)) (by omega)
        try have q10x := nI_toInt (n := b) (by omega)
        have hx : (mltI sv sq n b (m + 1) l tl) = (mltI sv sq n b m (l + 1) tl) := by show (if _ then _ else _) = _; rw [if_neg (Int.not_le.mpr b4x), if_pos b7x]
        rw [hx] at kk
        refine wq_ls [(0, .ref 162), (1, .int (nI b)), (2, .int (nI (l + 1)))] (show ([0, 1, 2] : List Nat).Nodup by decide) ⟨rfl, rfl, rfl, trivial⟩ ?_
        exact ih (l + 1) tl h hM hSv hSq hNw hTl hKn (by first | assumption | omega | decide | solve_by_elim) (by omega) (fun h9 f9 l9 y0 => kk h9 (wFr_tr (wFr_rf _ _) f9) (by omega) y0)
      · have q11x : (nI ((b >>> l) % 2)).toInt = 1 := congrArg Int32.toInt b7x
        refine wq_gos (f := 1) (pc2 := 37) (ls2 := [(0, .ref 162), (1, .int (nI b)), (2, .int (nI l))]) (st2 := [.ref 162]) (h2 := h) (dc2 := dc) (ds2 := ds) 1 rfl ?_
        refine wq_getf rfl hM rfl rfl ?_
        refine wq_gos (f := 1) (pc2 := 44) (ls2 := [(0, .ref 162), (1, .int (nI b)), (2, .int (nI l))]) (st2 := [.int ((8 : Int32) * (nI b)), .ref 226]) (h2 := h) (dc2 := dc) (ds2 := ds) 3 rfl ?_
        refine wq_vi (show (8 : Int32) * (nI b) = nI (8 * b) from e_nmul 8 b) ?_
        refine wq_gos (f := 1) (pc2 := 46) (ls2 := [(0, .ref 162), (1, .int (nI b)), (2, .int (nI l))]) (st2 := [.int ((nI (8 * b)) + (nI l)), .ref 226]) (h2 := h) (dc2 := dc) (ds2 := ds) 2 rfl ?_
        refine wq_vi (show (nI (8 * b)) + (nI l) = nI ((8 * b) + l) from nI_add (8 * b) l) ?_
        refine wq_gos (f := 1) (pc2 := 49) (ls2 := [(0, .ref 162), (1, .int (nI b)), (2, .int (nI l))]) (st2 := [.int (nI l), .int (nI b), .ref 162, .int (nI ((8 * b) + l)), .ref 226]) (h2 := h) (dc2 := dc) (ds2 := ds) 3 rfl ?_
        try have q12x := nI_toInt (n := b) (by omega)
        refine wq_inlv (y2 := 269) (as := [.int (nI b), .int (nI l)]) rfl rfl rfl hM rfl (wq_mono (m_tfS hM hSv hSq hNw hTl hKn (by first | assumption | omega | decide | solve_by_elim) (by first | assumption | omega | decide | solve_by_elim) (by first | assumption | omega | decide | solve_by_elim) (by first | assumption | omega | decide | solve_by_elim) (by first | assumption | omega | decide | solve_by_elim)) ?_)
        rintro _ rfl
        show wq 271 52 [(0, .ref 162), (1, .int (nI b)), (2, .int (nI l))] [.int (if b + 1 = 2 ^ n then 0 else (mtfSF sv sq tl n b l (n - 0 + 1) 1000000 0)), .int (nI ((8 * b) + l)), .ref 226] h dc ds _
        try have q14x := nI_toInt (n := ((8 * b) + l)) (by omega)
        refine wq_iastn rfl hTl (by first | omega | exact zin_t (by omega) (by omega)) (by decide) rfl ?_
        intro hh15x e16x ff17x lh18x
        have e16x : zat hh15x 226 = some (.inl (0, 2048, (zset 0 tl ((8 * b) + l) (if b + 1 = 2 ^ n then 0 else (mtfSF sv sq tl n b l (n - 0 + 1) 1000000 0))))) := e16x
        refine wq_gos (f := 1) (pc2 := 56) (ls2 := [(2, .int ((nI l) + 1)), (0, .ref 162), (1, .int (nI b))]) (st2 := []) (h2 := hh15x) (dc2 := dc) (ds2 := ds) 1 rfl ?_
        rw [nI_1]
        refine wq_gos (f := 1) (pc2 := 17) (ls2 := [(2, .int (nI (l + 1))), (0, .ref 162), (1, .int (nI b))]) (st2 := []) (h2 := hh15x) (dc2 := dc) (ds2 := ds) 1 rfl ?_
        try have q19x := nI_toInt (n := (l + 1)) (by omega)
        have e20x := (ff17x.2 _ _ (wnc (by decide) wn0) hM)
        have e21x := (ff17x.2 _ _ (wnc (by decide) wn0) hSv)
        have e22x := (ff17x.2 _ _ (wnc (by decide) wn0) hSq)
        have e23x := (ff17x.2 _ _ (wnc (by decide) wn0) hNw)
        have e24x := (ff17x.2 _ _ (wnc (by decide) wn0) hKn)
        have hx : (mltI sv sq n b (m + 1) l tl) = (mltI sv sq n b m (l + 1) (zset 0 tl ((8 * b) + l) (if b + 1 = 2 ^ n then 0 else (mtfSF sv sq tl n b l (n - 0 + 1) 1000000 0)))) := by show (if _ then _ else _) = _; rw [if_neg (Int.not_le.mpr b4x), if_neg (fun q => q b7x)]
        rw [hx] at kk
        refine wq_ls [(0, .ref 162), (1, .int (nI b)), (2, .int (nI (l + 1)))] (show ([0, 1, 2] : List Nat).Nodup by decide) ⟨rfl, rfl, rfl, trivial⟩ ?_
        exact ih (l + 1) (zset 0 tl ((8 * b) + l) (if b + 1 = 2 ^ n then 0 else (mtfSF sv sq tl n b l (n - 0 + 1) 1000000 0))) hh15x e20x e21x e22x e23x e16x e24x (by first | assumption | omega | decide | solve_by_elim) (by omega) (fun h9 f9 l9 y0 => kk h9 (wFr_tr (wFr_sub ff17x (by simp)) f9) (by omega) y0)
noncomputable def mltO (sv sq : List Int32) (n : Nat) : Nat → Nat → List Int32 → List Int32
  | 0, _, tl => tl
  | m + 1, b, tl => (if (nI b).toInt ≤ 0 then tl else (zlet (mltI sv sq n b ((n - 0) + 1) 0 tl) (fun v4x => (mltO sv sq n m (b - 1) (v4x)))))
set_option maxRecDepth 100000 in
set_option maxHeartbeats 4000000 in
theorem m_ltO {n0 n2 n14 n15 n16 n17 n18 n19 n20 n21 n22 n23 n27 n28 n32 n33 n34 n35 n39 n52 : Int32} {n : Nat} {sv sq nw kn : List Int32} (hsp : n ≤ 8) (hsv : ∀ i, i < 6 → 1 ≤ (sv.getD i 0).toInt) (hkn : kn.getD 5 0 = nI n) {dc ds : Nat} {Q : zR → Prop} : ∀ (m : Nat) (b : Nat) (tl : List Int32) (h : zH) , (zat h 162 = some (.inr (.inr (.inr (10, mO n0 n2 n14 n15 n16 n17 n18 n19 n20 n21 n22 n23 n27 n28 n32 n33 n34 n35 n39 n52))))) → (zat h 172 = some (.inl (0, 12, sv))) → (zat h 178 = some (.inl (0, 96, sq))) → (zat h 188 = some (.inl (0, 6, nw))) → (zat h 226 = some (.inl (0, 2048, tl))) → (zat h 166 = some (.inl (0, 14, kn))) → (b < 2 ^ n) → b < m → (∀ (h2 : zH) , (wFr [226] h h2) → (h2.length = h.length) → (zat h2 226 = some (.inl (0, 2048, ((mltO sv sq n m b tl))))) → wq 271 65 [(0, .ref 162)] [] h2 dc ds Q) → wq 271 11 [(0, .ref 162), (1, .int (nI b))] [] h dc ds Q := by
  intro m
  induction m with
  | zero => intro b tl h hM hSv hSq hNw hTl hKn hb hms kk; omega
  | succ m ih =>
    intro b tl h hM hSv hSq hNw hTl hKn hb hms kk
    have hp8 := pow8 hsp
    have qb := nI_toInt (n := b) (by omega)
    have z0 : (0 : Int32).toInt = 0 := rfl
    refine wq_gos (f := 1) (pc2 := 12) (ls2 := [(0, .ref 162), (1, .int (nI b))]) (st2 := [.int (nI b)]) (h2 := h) (dc2 := dc) (ds2 := ds) 1 rfl ?_
    try have q1x := nI_toInt (n := b) (by omega)
    refine wq_le0 rfl rfl (fun b2x => ?_) (fun b2x => ?_)
    · have hx : (mltO sv sq n (m + 1) b tl) = tl := by show (if _ then _ else _) = _; rw [if_pos b2x]
      rw [hx] at kk
      refine wq_ls [(0, .ref 162)] (show ([0] : List Nat).Nodup by decide) ⟨rfl, trivial⟩ ?_
      exact kk h (wFr_rf _ _) (by omega) hTl
    · refine wq_gos (f := 1) (pc2 := 17) (ls2 := [(2, .int 0), (0, .ref 162), (1, .int (nI b))]) (st2 := []) (h2 := h) (dc2 := dc) (ds2 := ds) 2 rfl ?_
      refine wq_ls [(0, .ref 162), (1, .int (nI b)), (2, .int (nI 0))] (show ([0, 1, 2] : List Nat).Nodup by decide) ⟨rfl, rfl, rfl, trivial⟩ ?_
      refine m_ltI (by first | assumption | omega | decide | solve_by_elim) (by first | assumption | omega | decide | solve_by_elim) (by first | assumption | omega | decide | solve_by_elim) (by first | assumption | omega | decide | solve_by_elim) ((n - 0) + 1) 0 tl h hM hSv hSq hNw hTl hKn (by first | assumption | omega | decide | solve_by_elim) (by omega) ?_
      intro h83x f83x l83x c03x
      obtain ⟨v4x, hv5x⟩ : ∃ x, x = (mltI sv sq n b ((n - 0) + 1) 0 tl) := ⟨_, rfl⟩
      try rw [← hv5x] at c03x
      try rw [← hv5x]
      show wq 271 59 [(0, .ref 162), (1, .int (nI b))] [] h83x dc ds _
      refine wq_gos (f := 1) (pc2 := 62) (ls2 := [(1, .int ((nI b) + (-1))), (0, .ref 162)]) (st2 := []) (h2 := h83x) (dc2 := dc) (ds2 := ds) 1 rfl ?_
      rw [show ((nI b) + (-1)) = nI (b - 1) from nI_dec (by omega)]
      refine wq_gos (f := 1) (pc2 := 11) (ls2 := [(1, .int (nI (b - 1))), (0, .ref 162)]) (st2 := []) (h2 := h83x) (dc2 := dc) (ds2 := ds) 1 rfl ?_
      try have q6x := nI_toInt (n := (b - 1)) (by omega)
      have e7x := (f83x.2 _ _ (wnc (by decide) wn0) hM)
      have e8x := (f83x.2 _ _ (wnc (by decide) wn0) hSv)
      have e9x := (f83x.2 _ _ (wnc (by decide) wn0) hSq)
      have e10x := (f83x.2 _ _ (wnc (by decide) wn0) hNw)
      have e11x := (f83x.2 _ _ (wnc (by decide) wn0) hKn)
      have hx : (mltO sv sq n (m + 1) b tl) = (mltO sv sq n m (b - 1) (v4x)) := by show (if _ then _ else _) = _; rw [if_neg (Int.not_le.mpr b2x), zlet_eq hv5x]
      rw [hx] at kk
      refine wq_ls [(0, .ref 162), (1, .int (nI (b - 1)))] (show ([0, 1] : List Nat).Nodup by decide) ⟨rfl, rfl, trivial⟩ ?_
      exact ih (b - 1) (v4x) h83x e7x e8x e9x e10x c03x e11x (by first | assumption | omega | decide | solve_by_elim) (by omega) (fun h9 f9 l9 y0 => kk h9 (wFr_tr (wFr_sub f83x (by simp)) f9) (by omega) y0)
noncomputable def mLto (sv sq : List Int32) (n : Nat) (tl : List Int32) : List Int32 := (zlet (mltO sv sq n ((2 ^ n - 1) + 1) (2 ^ n - 1) tl) (fun v4x => (v4x)))
set_option maxRecDepth 100000 in
set_option maxHeartbeats 4000000 in
theorem m_lto {h : zH} {n0 n2 n14 n15 n16 n17 n18 n19 n20 n21 n22 n23 n27 n28 n32 n33 n34 n35 n39 n52 : Int32} {n : Nat} {sv sq nw kn : List Int32} {tl : List Int32} (hM : zat h 162 = some (.inr (.inr (.inr (10, mO n0 n2 n14 n15 n16 n17 n18 n19 n20 n21 n22 n23 n27 n28 n32 n33 n34 n35 n39 n52))))) (hSv : zat h 172 = some (.inl (0, 12, sv))) (hSq : zat h 178 = some (.inl (0, 96, sq))) (hNw : zat h 188 = some (.inl (0, 6, nw))) (hTl : zat h 226 = some (.inl (0, 2048, tl))) (hKn : zat h 166 = some (.inl (0, 14, kn))) (hsp : n ≤ 8) (hsv : ∀ i, i < 6 → 1 ≤ (sv.getD i 0).toInt) (hkn : kn.getD 5 0 = nI n) : wq 271 0 [(0, .ref 162)] [] h 0 0 (fun rr9 => ∃ (h2 : zH), rr9 = (none, h2, 0, 0) ∧ wFr [226] h h2 ∧ h2.length = h.length ∧ zat h2 226 = some (.inl (0, 2048, ((mLto sv sq n tl))))) := by
  have qnn := nI_toInt (n := n) (by omega)
  have hp8 := pow8 hsp
  have hpp : 1 ≤ 2 ^ n := Nat.one_le_two_pow
  refine wq_gos (f := 1) (pc2 := 2) (ls2 := [(0, .ref 162)]) (st2 := [.ref 162, .int 1]) (h2 := h) (dc2 := 0) (ds2 := 0) 2 rfl ?_
  refine wq_getf rfl hM rfl rfl ?_
  refine wq_gos (f := 1) (pc2 := 6) (ls2 := [(0, .ref 162)]) (st2 := [.int 5, .ref 166, .int 1]) (h2 := h) (dc2 := 0) (ds2 := 0) 1 rfl ?_
  have q1x : (5 : Int32).toInt = 5 := rfl
  refine wq_iald rfl hKn rfl rfl ?_
  refine wq_vi hkn ?_
  refine wq_gos (f := 1) (pc2 := 8) (ls2 := [(0, .ref 162)]) (st2 := [.int ((1 : Int32) <<< ((nI n) &&& 31))]) (h2 := h) (dc2 := 0) (ds2 := 0) 1 rfl ?_
  refine wq_vi (show ((1 : Int32) <<< ((nI n) &&& 31)) = nI (2 ^ n) from e_shl (k := n) (by omega)) ?_
  refine wq_gos (f := 1) (pc2 := 10) (ls2 := [(0, .ref 162)]) (st2 := [.int ((nI (2 ^ n)) - (1 : Int32))]) (h2 := h) (dc2 := 0) (ds2 := 0) 2 rfl ?_
  refine wq_vi (nI_predn (a := 2 ^ n) Nat.one_le_two_pow) ?_
  refine wq_gos (f := 1) (pc2 := 11) (ls2 := [(1, .int (nI (2 ^ n - 1))), (0, .ref 162)]) (st2 := []) (h2 := h) (dc2 := 0) (ds2 := 0) 1 rfl ?_
  try have q2x := nI_toInt (n := (2 ^ n - 1)) (by omega)
  refine wq_ls [(0, .ref 162), (1, .int (nI (2 ^ n - 1)))] (show ([0, 1] : List Nat).Nodup by decide) ⟨rfl, rfl, trivial⟩ ?_
  refine m_ltO (by first | assumption | omega | decide | solve_by_elim) (by first | assumption | omega | decide | solve_by_elim) (by first | assumption | omega | decide | solve_by_elim) ((2 ^ n - 1) + 1) (2 ^ n - 1) tl h hM hSv hSq hNw hTl hKn (by first | assumption | omega | decide | solve_by_elim) (by omega) ?_
  intro h83x f83x l83x c03x
  obtain ⟨v4x, hv5x⟩ : ∃ x, x = (mltO sv sq n ((2 ^ n - 1) + 1) (2 ^ n - 1) tl) := ⟨_, rfl⟩
  try rw [← hv5x] at c03x
  try rw [← hv5x]
  show wq 271 65 [(0, .ref 162)] [] h83x 0 0 _
  have hx : (mLto sv sq n tl) = (v4x) := by unfold mLto; rw [zlet_eq hv5x]
  rw [hx]
  exact wq_ret rfl rfl ⟨h83x, rfl, (wFr_sub f83x (by simp)), by omega, c03x⟩
noncomputable def mTour (sv sq nw : List Int32) (n : Nat) (tl : List Int32) : Int32 × Int32 × List Int32 := (zlet (mLto sv sq n tl) (fun v11x => ((if 0 + 1 = 2 ^ n then 0 else (mtfNF sv sq nw (v11x) n 0 (n - 0 + 1) 1000000 0)), (0 : Int32), (v11x))))
set_option maxRecDepth 100000 in
set_option maxHeartbeats 4000000 in
theorem m_tour {h : zH} {n0 n2 n14 n15 n16 n17 n18 n19 n20 n21 n22 n23 n27 n28 n32 n33 n34 n35 n39 n52 : Int32} {n : Nat} {sv sq nw kn : List Int32} {tl : List Int32} (hM : zat h 162 = some (.inr (.inr (.inr (10, mO n0 n2 n14 n15 n16 n17 n18 n19 n20 n21 n22 n23 n27 n28 n32 n33 n34 n35 n39 n52))))) (hSv : zat h 172 = some (.inl (0, 12, sv))) (hSq : zat h 178 = some (.inl (0, 96, sq))) (hNw : zat h 188 = some (.inl (0, 6, nw))) (hTl : zat h 226 = some (.inl (0, 2048, tl))) (hKn : zat h 166 = some (.inl (0, 14, kn))) (hsp : n ≤ 8) (hsv : ∀ i, i < 6 → 1 ≤ (sv.getD i 0).toInt) (hkn : kn.getD 5 0 = nI n) : wq 272 0 [(0, .ref 162)] [] h 0 0 (fun rr9 => ∃ (h2 : zH), rr9 = (some (.int ((mTour sv sq nw n tl).1)), h2, 0, 0) ∧ wFr [162, 226] h h2 ∧ h2.length = h.length ∧ zat h2 162 = some (.inr (.inr (.inr (10, mO ((mTour sv sq nw n tl).2.1) n2 n14 n15 n16 n17 n18 n19 n20 n21 n22 n23 n27 n28 n32 n33 n34 n35 n39 n52)))) ∧ zat h2 226 = some (.inl (0, 2048, ((mTour sv sq nw n tl).2.2)))) := by
  have hp8 := pow8 hsp
  have hpp : 1 ≤ 2 ^ n := Nat.one_le_two_pow
  have hb0 : 0 < 2 ^ n := hpp
  refine wq_gos (f := 1) (pc2 := 2) (ls2 := [(0, .ref 162)]) (st2 := [.int 0, .ref 162]) (h2 := h) (dc2 := 0) (ds2 := 0) 2 rfl ?_
  refine wq_putf rfl hM rfl rfl rfl ?_
  intro hh1x e2x ff3x lh4x
  have e2x : zat hh1x 162 = some (.inr (.inr (.inr (10, mO (0 : Int32) n2 n14 n15 n16 n17 n18 n19 n20 n21 n22 n23 n27 n28 n32 n33 n34 n35 n39 n52)))) := e2x
  refine wq_gos (f := 1) (pc2 := 6) (ls2 := [(0, .ref 162)]) (st2 := [.ref 162]) (h2 := hh1x) (dc2 := 0) (ds2 := 0) 1 rfl ?_
  have e5x := (ff3x.2 _ _ (wnc (by decide) wn0) hSv)
  have e6x := (ff3x.2 _ _ (wnc (by decide) wn0) hSq)
  have e7x := (ff3x.2 _ _ (wnc (by decide) wn0) hNw)
  have e8x := (ff3x.2 _ _ (wnc (by decide) wn0) hTl)
  have e9x := (ff3x.2 _ _ (wnc (by decide) wn0) hKn)
  refine wq_inlv (y2 := 271) (as := []) rfl rfl rfl e2x rfl (wq_mono (m_lto e2x e5x e6x e7x e8x e9x (by first | assumption | omega | decide | solve_by_elim) (by first | assumption | omega | decide | solve_by_elim) (by first | assumption | omega | decide | solve_by_elim)) ?_)
  rintro _ ⟨h810x, rfl, f810x, l810x, c010x⟩
  show wq 272 9 [(0, .ref 162)] [] h810x 0 0 _
  obtain ⟨v11x, hv12x⟩ : ∃ x, x = (mLto sv sq n tl) := ⟨_, rfl⟩
  try rw [← hv12x] at c010x
  try rw [← hv12x]
  refine wq_gos (f := 1) (pc2 := 12) (ls2 := [(0, .ref 162)]) (st2 := [.int (-1), .int 0, .ref 162]) (h2 := h810x) (dc2 := 0) (ds2 := 0) 3 rfl ?_
  have e13x := (f810x.2 _ _ (wnc (by decide) wn0) e2x)
  have e14x := (f810x.2 _ _ (wnc (by decide) wn0) e5x)
  have e15x := (f810x.2 _ _ (wnc (by decide) wn0) e6x)
  have e16x := (f810x.2 _ _ (wnc (by decide) wn0) e7x)
  have e17x := (f810x.2 _ _ (wnc (by decide) wn0) e9x)
  have q18x : (0 : Int32).toInt = 0 := rfl
  have q19x : (-1 : Int32).toInt = -1 := rfl
  refine wq_inlv (y2 := 269) (as := [.int 0, .int (-1)]) rfl rfl rfl e13x rfl (wq_mono (m_tfN (b := 0) e13x e14x e15x e16x c010x e17x (by first | assumption | omega | decide | solve_by_elim) (by first | assumption | omega | decide | solve_by_elim) (by first | assumption | omega | decide | solve_by_elim) (by first | assumption | omega | decide | solve_by_elim)) ?_)
  rintro _ rfl
  show wq 272 15 [(0, .ref 162)] [.int (if 0 + 1 = 2 ^ n then 0 else (mtfNF sv sq nw (v11x) n 0 (n - 0 + 1) 1000000 0))] h810x 0 0 _
  have hx : (mTour sv sq nw n tl) = ((if 0 + 1 = 2 ^ n then 0 else (mtfNF sv sq nw (v11x) n 0 (n - 0 + 1) 1000000 0)), (0 : Int32), (v11x)) := by unfold mTour; rw [zlet_eq hv12x]
  rw [hx]
  exact wq_ret rfl rfl ⟨h810x, rfl, (wFr_tr (wFr_sub ff3x (by simp)) (wFr_sub f810x (by simp))), by omega, e13x, c010x⟩
