/-! The reference: what a tour takes. -/
noncomputable def mTsN (sv sq nw : List Int32) (k : Nat) : Int32 := (mtkF sv nw 0 sq (6 * k) (6 - 0 + 1) 0 0)
set_option maxRecDepth 100000 in
set_option maxHeartbeats 4000000 in
theorem m_tsN {h : zH} {n0 n2 n14 n15 n16 n17 n18 n19 n20 n21 n22 n23 n27 n28 n32 n33 n34 n35 n39 n52 : Int32} {k : Nat} {sv sq nw : List Int32} (hM : zat h 162 = some (.inr (.inr (.inr (10, mO n0 n2 n14 n15 n16 n17 n18 n19 n20 n21 n22 n23 n27 n28 n32 n33 n34 n35 n39 n52))))) (hSv : zat h 172 = some (.inl (0, 12, sv))) (hSq : zat h 178 = some (.inl (0, 96, sq))) (hNw : zat h 188 = some (.inl (0, 6, nw))) (hk8 : k < 8) (hsv : ∀ i, i < 6 → 1 ≤ (sv.getD i 0).toInt) : wq 270 0 [(0, .ref 162), (1, .int (-1)), (2, .int (nI k))] [] h 0 0 (fun rr9 => rr9 = (some (.int (mTsN sv sq nw k)), h, 0, 0)) := by
  have qnk := nI_toInt (n := k) (by omega)
  refine wq_gos (f := 1) (pc2 := 7) (ls2 := [(0, .ref 162), (1, .int (-1)), (2, .int (nI k))]) (st2 := [.ref 162, .ref 162]) (h2 := h) (dc2 := 0) (ds2 := 0) 5 rfl ?_
  refine wq_getf rfl hM rfl rfl ?_
  refine wq_gos (f := 1) (pc2 := 12) (ls2 := [(0, .ref 162), (1, .int (-1)), (2, .int (nI k))]) (st2 := [.ref 162, .int 0, .ref 188, .ref 162]) (h2 := h) (dc2 := 0) (ds2 := 0) 2 rfl ?_
  refine wq_getf rfl hM rfl rfl ?_
  refine wq_gos (f := 1) (pc2 := 19) (ls2 := [(0, .ref 162), (1, .int (-1)), (2, .int (nI k))]) (st2 := [.int ((6 : Int32) * (nI k)), .ref 178, .int 0, .ref 188, .ref 162]) (h2 := h) (dc2 := 0) (ds2 := 0) 3 rfl ?_
  refine wq_vi (show (6 : Int32) * (nI k) = nI (6 * k) from e_nmul 6 k) ?_
  have q1x : (0 : Int32).toInt = 0 := rfl
  try have q2x := nI_toInt (n := (6 * k)) (by omega)
  refine wq_inlv (y2 := 233) (as := [.ref 188, .int 0, .ref 178, .int (nI (6 * k))]) rfl rfl rfl hM rfl (wq_mono (m_tks (k := 0) hM hSv hNw hSq (by omega) (by omega) (by first | assumption | omega | decide | solve_by_elim)) ?_)
  rintro _ rfl
  show wq 270 22 [(0, .ref 162), (1, .int (-1)), (2, .int (nI k))] [.int (mtkF sv nw 0 sq (6 * k) (6 - 0 + 1) 0 0)] h 0 0 _
  refine wq_gos (f := 1) (pc2 := 45) (ls2 := [(0, .ref 162), (1, .int (-1)), (2, .int (nI k))]) (st2 := [.int (mtkF sv nw 0 sq (6 * k) (6 - 0 + 1) 0 0)]) (h2 := h) (dc2 := 0) (ds2 := 0) 1 rfl ?_
  have w4x : (mTsN sv sq nw k) = (mtkF sv nw 0 sq (6 * k) (6 - 0 + 1) 0 0) := by unfold mTsN; rfl
  rw [w4x]
  exact wq_ret rfl rfl rfl
noncomputable def mTsS (sv sq : List Int32) (l k : Nat) : Int32 := (mtkF sv sq (6 * l) sq (6 * k) (6 - 0 + 1) 0 0)
set_option maxRecDepth 100000 in
set_option maxHeartbeats 4000000 in
theorem m_tsS {h : zH} {n0 n2 n14 n15 n16 n17 n18 n19 n20 n21 n22 n23 n27 n28 n32 n33 n34 n35 n39 n52 : Int32} {k l : Nat} {sv sq nw : List Int32} (hM : zat h 162 = some (.inr (.inr (.inr (10, mO n0 n2 n14 n15 n16 n17 n18 n19 n20 n21 n22 n23 n27 n28 n32 n33 n34 n35 n39 n52))))) (hSv : zat h 172 = some (.inl (0, 12, sv))) (hSq : zat h 178 = some (.inl (0, 96, sq))) (hNw : zat h 188 = some (.inl (0, 6, nw))) (hl8 : l < 8) (hk8 : k < 8) (hsv : ∀ i, i < 6 → 1 ≤ (sv.getD i 0).toInt) : wq 270 0 [(0, .ref 162), (1, .int (nI l)), (2, .int (nI k))] [] h 0 0 (fun rr9 => rr9 = (some (.int (mTsS sv sq l k)), h, 0, 0)) := by
  have qnk := nI_toInt (n := k) (by omega)
  have qnl := nI_toInt (n := l) (by omega)
  refine wq_gos (f := 1) (pc2 := 2) (ls2 := [(0, .ref 162), (1, .int (nI l)), (2, .int (nI k))]) (st2 := [.int (-1), .int (nI l)]) (h2 := h) (dc2 := 0) (ds2 := 0) 2 rfl ?_
  try have q1x := nI_toInt (n := l) (by omega)
  have q2x : (-1 : Int32).toInt = -1 := rfl
  refine wq_ne2t rfl (fun q => by have q9 := congrArg Int32.toInt q; have q8 : (-1 : Int32).toInt = -1 := rfl; omega) ?_
  refine wq_gos (f := 1) (pc2 := 27) (ls2 := [(0, .ref 162), (1, .int (nI l)), (2, .int (nI k))]) (st2 := [.ref 162, .ref 162]) (h2 := h) (dc2 := 0) (ds2 := 0) 2 rfl ?_
  refine wq_getf rfl hM rfl rfl ?_
  refine wq_gos (f := 1) (pc2 := 34) (ls2 := [(0, .ref 162), (1, .int (nI l)), (2, .int (nI k))]) (st2 := [.int ((6 : Int32) * (nI l)), .ref 178, .ref 162]) (h2 := h) (dc2 := 0) (ds2 := 0) 3 rfl ?_
  refine wq_vi (show (6 : Int32) * (nI l) = nI (6 * l) from e_nmul 6 l) ?_
  refine wq_gos (f := 1) (pc2 := 35) (ls2 := [(0, .ref 162), (1, .int (nI l)), (2, .int (nI k))]) (st2 := [.ref 162, .int (nI (6 * l)), .ref 178, .ref 162]) (h2 := h) (dc2 := 0) (ds2 := 0) 1 rfl ?_
  refine wq_getf rfl hM rfl rfl ?_
  refine wq_gos (f := 1) (pc2 := 42) (ls2 := [(0, .ref 162), (1, .int (nI l)), (2, .int (nI k))]) (st2 := [.int ((6 : Int32) * (nI k)), .ref 178, .int (nI (6 * l)), .ref 178, .ref 162]) (h2 := h) (dc2 := 0) (ds2 := 0) 3 rfl ?_
  refine wq_vi (show (6 : Int32) * (nI k) = nI (6 * k) from e_nmul 6 k) ?_
  try have q3x := nI_toInt (n := (6 * l)) (by omega)
  try have q4x := nI_toInt (n := (6 * k)) (by omega)
  refine wq_inlv (y2 := 233) (as := [.ref 178, .int (nI (6 * l)), .ref 178, .int (nI (6 * k))]) rfl rfl rfl hM rfl (wq_mono (m_tks hM hSv hSq hSq (by omega) (by omega) (by first | assumption | omega | decide | solve_by_elim)) ?_)
  rintro _ rfl
  show wq 270 45 [(0, .ref 162), (1, .int (nI l)), (2, .int (nI k))] [.int (mtkF sv sq (6 * l) sq (6 * k) (6 - 0 + 1) 0 0)] h 0 0 _
  have w6x : (mTsS sv sq l k) = (mtkF sv sq (6 * l) sq (6 * k) (6 - 0 + 1) 0 0) := by unfold mTsS; rfl
  rw [w6x]
  exact wq_ret rfl rfl rfl
noncomputable def mtfNF (sv sq nw tl : List Int32) (n b : Nat) : Nat → Int32 → Nat → Int32
  | 0, _, _ => 0
  | m + 1, le, k => (if (nI n).toInt ≤ (nI k).toInt then le else (if (nI ((b >>> k) % 2)) ≠ (1 : Int32) then (if le.toInt ≤ ((mTsN sv sq nw k) + (tl.getD ((8 * (b ||| (2 ^ k))) + k) 0)).toInt then (mtfNF sv sq nw tl n b m le (k + 1)) else (mtfNF sv sq nw tl n b m ((mTsN sv sq nw k) + (tl.getD ((8 * (b ||| (2 ^ k))) + k) 0)) (k + 1))) else (mtfNF sv sq nw tl n b m le (k + 1))))
set_option maxRecDepth 100000 in
set_option maxHeartbeats 4000000 in
theorem m_tfNL {h : zH} {n0 n2 n14 n15 n16 n17 n18 n19 n20 n21 n22 n23 n27 n28 n32 n33 n34 n35 n39 n52 : Int32} {n b : Nat} {sv sq nw tl : List Int32} (hM : zat h 162 = some (.inr (.inr (.inr (10, mO n0 n2 n14 n15 n16 n17 n18 n19 n20 n21 n22 n23 n27 n28 n32 n33 n34 n35 n39 n52))))) (hSv : zat h 172 = some (.inl (0, 12, sv))) (hSq : zat h 178 = some (.inl (0, 96, sq))) (hNw : zat h 188 = some (.inl (0, 6, nw))) (hTl : zat h 226 = some (.inl (0, 2048, tl))) (hsp : n ≤ 8) (hb : b < 2 ^ n) (hsv : ∀ i, i < 6 → 1 ≤ (sv.getD i 0).toInt) : ∀ (m : Nat) (le : Int32) (k : Nat), (k ≤ n) → (n - k) < m → ∀ (dc ds : Nat), wq 269 26 [(0, .ref 162), (1, .int (nI b)), (2, .int (-1)), (3, .int (nI n)), (4, .int le), (5, .int (nI k))] [] h dc ds (fun rr9 => rr9 = (some (Value.int (mtfNF sv sq nw tl n b m le k)), h, dc, ds)) := by
  intro m
  induction m with
  | zero => intro le k hk hms dc ds; omega
  | succ m ih =>
    intro le k hk hms dc ds
    have qnk := nI_toInt (n := k) (by omega)
    have qnn := nI_toInt (n := n) (by omega)
    have hp8 := pow8 hsp
    have hsh := shr_le b k
    have hob := orb (k := k) hb
    have hsm := Nat.mod_lt (b >>> k) (show 0 < 2 by decide)
    refine wq_gos (f := 1) (pc2 := 29) (ls2 := [(0, .ref 162), (1, .int (nI b)), (2, .int (-1)), (3, .int (nI n)), (4, .int le), (5, .int (nI k))]) (st2 := [.int (nI n), .int (nI k)]) (h2 := h) (dc2 := dc) (ds2 := ds) 2 rfl ?_
    try have q1x := nI_toInt (n := k) (by omega)
    try have q2x := nI_toInt (n := n) (by omega)
    refine wq_ge2 rfl rfl (fun b3x => ?_) (fun b3x => ?_)
    · refine wq_gos (f := 1) (pc2 := 96) (ls2 := [(0, .ref 162), (1, .int (nI b)), (2, .int (-1)), (3, .int (nI n)), (4, .int le), (5, .int (nI k))]) (st2 := [.int le]) (h2 := h) (dc2 := dc) (ds2 := ds) 1 rfl ?_
      have hx : (mtfNF sv sq nw tl n b (m + 1) le k) = le := by show (if _ then _ else _) = _; rw [if_pos b3x]
      refine wq_ret rfl rfl ?_
      show (some (Value.int le), h, dc, ds) = (some (Value.int (mtfNF sv sq nw tl n b (m + 1) le k)), h, dc, ds)
      rw [hx]
    · refine wq_gos (f := 1) (pc2 := 36) (ls2 := [(0, .ref 162), (1, .int (nI b)), (2, .int (-1)), (3, .int (nI n)), (4, .int le), (5, .int (nI k))]) (st2 := [.int ((nI b) >>> ((nI k) &&& 31))]) (h2 := h) (dc2 := dc) (ds2 := ds) 3 rfl ?_
      refine wq_vi (show ((nI b) >>> ((nI k) &&& 31)) = nI (b >>> k) from e_shr (b := b) (k := k) (by omega) (by omega)) ?_
      refine wq_gos (f := 1) (pc2 := 38) (ls2 := [(0, .ref 162), (1, .int (nI b)), (2, .int (-1)), (3, .int (nI n)), (4, .int le), (5, .int (nI k))]) (st2 := [.int ((nI (b >>> k)) &&& (1 : Int32))]) (h2 := h) (dc2 := dc) (ds2 := ds) 2 rfl ?_
      refine wq_vi (show ((nI (b >>> k)) &&& (1 : Int32)) = nI ((b >>> k) % 2) from e_and1 (b >>> k)) ?_
      refine wq_gos (f := 1) (pc2 := 39) (ls2 := [(0, .ref 162), (1, .int (nI b)), (2, .int (-1)), (3, .int (nI n)), (4, .int le), (5, .int (nI k))]) (st2 := [.int 1, .int (nI ((b >>> k) % 2))]) (h2 := h) (dc2 := dc) (ds2 := ds) 1 rfl ?_
      try have q4x := nI_toInt (n := ((b >>> k) % 2)) (by omega)
      have q5x : (1 : Int32).toInt = 1 := rfl
      refine wq_ne2 rfl rfl (fun b6x => ?_) (fun b6x => ?_)
      · have q7x : (nI ((b >>> k) % 2)).toInt ≠ 1 := fun q => b6x (Int32.toInt_inj.mp q)
        refine wq_gos (f := 1) (pc2 := 49) (ls2 := [(0, .ref 162), (1, .int (nI b)), (2, .int (-1)), (3, .int (nI n)), (4, .int le), (5, .int (nI k))]) (st2 := [.int (nI k), .int (-1), .ref 162]) (h2 := h) (dc2 := dc) (ds2 := ds) 3 rfl ?_
        have q8x : (-1 : Int32).toInt = -1 := rfl
        refine wq_inlv (y2 := 270) (as := [.int (-1), .int (nI k)]) rfl rfl rfl hM rfl (wq_mono (m_tsN hM hSv hSq hNw (by first | assumption | omega | decide | solve_by_elim) (by first | assumption | omega | decide | solve_by_elim)) ?_)
        rintro _ rfl
        show wq 269 52 [(0, .ref 162), (1, .int (nI b)), (2, .int (-1)), (3, .int (nI n)), (4, .int le), (5, .int (nI k))] [.int (mTsN sv sq nw k)] h dc ds _
        refine wq_gos (f := 1) (pc2 := 53) (ls2 := [(0, .ref 162), (1, .int (nI b)), (2, .int (-1)), (3, .int (nI n)), (4, .int le), (5, .int (nI k))]) (st2 := [.ref 162, .int (mTsN sv sq nw k)]) (h2 := h) (dc2 := dc) (ds2 := ds) 1 rfl ?_
        refine wq_getf rfl hM rfl rfl ?_
        refine wq_gos (f := 1) (pc2 := 63) (ls2 := [(0, .ref 162), (1, .int (nI b)), (2, .int (-1)), (3, .int (nI n)), (4, .int le), (5, .int (nI k))]) (st2 := [.int ((1 : Int32) <<< ((nI k) &&& 31)), .int (nI b), .int 8, .ref 226, .int (mTsN sv sq nw k)]) (h2 := h) (dc2 := dc) (ds2 := ds) 5 rfl ?_
        refine wq_vi (show ((1 : Int32) <<< ((nI k) &&& 31)) = nI (2 ^ k) from e_shl (k := k) (by omega)) ?_
        refine wq_gos (f := 1) (pc2 := 64) (ls2 := [(0, .ref 162), (1, .int (nI b)), (2, .int (-1)), (3, .int (nI n)), (4, .int le), (5, .int (nI k))]) (st2 := [.int ((nI b) ||| (nI (2 ^ k))), .int 8, .ref 226, .int (mTsN sv sq nw k)]) (h2 := h) (dc2 := dc) (ds2 := ds) 1 rfl ?_
        refine wq_vi (show ((nI b) ||| (nI (2 ^ k))) = nI (b ||| (2 ^ k)) from e_or b (2 ^ k)) ?_
        refine wq_gos (f := 1) (pc2 := 65) (ls2 := [(0, .ref 162), (1, .int (nI b)), (2, .int (-1)), (3, .int (nI n)), (4, .int le), (5, .int (nI k))]) (st2 := [.int ((8 : Int32) * (nI (b ||| (2 ^ k)))), .ref 226, .int (mTsN sv sq nw k)]) (h2 := h) (dc2 := dc) (ds2 := ds) 1 rfl ?_
        refine wq_vi (show (8 : Int32) * (nI (b ||| (2 ^ k))) = nI (8 * (b ||| (2 ^ k))) from e_nmul 8 (b ||| (2 ^ k))) ?_
        refine wq_gos (f := 1) (pc2 := 68) (ls2 := [(0, .ref 162), (1, .int (nI b)), (2, .int (-1)), (3, .int (nI n)), (4, .int le), (5, .int (nI k))]) (st2 := [.int ((nI (8 * (b ||| (2 ^ k)))) + (nI k)), .ref 226, .int (mTsN sv sq nw k)]) (h2 := h) (dc2 := dc) (ds2 := ds) 2 rfl ?_
        refine wq_vi (show (nI (8 * (b ||| (2 ^ k)))) + (nI k) = nI ((8 * (b ||| (2 ^ k))) + k) from nI_add (8 * (b ||| (2 ^ k))) k) ?_
        try have q10x := nI_toInt (n := ((8 * (b ||| (2 ^ k))) + k)) (by omega)
        refine wq_ialdn rfl hTl (by first | omega | exact zin_t (by omega) (by omega)) (by decide) rfl ?_
        refine wq_gos (f := 1) (pc2 := 76) (ls2 := [(6, .int ((mTsN sv sq nw k) + (tl.getD ((8 * (b ||| (2 ^ k))) + k) 0))), (0, .ref 162), (1, .int (nI b)), (2, .int (-1)), (3, .int (nI n)), (4, .int le), (5, .int (nI k))]) (st2 := [.int le, .int ((mTsN sv sq nw k) + (tl.getD ((8 * (b ||| (2 ^ k))) + k) 0))]) (h2 := h) (dc2 := dc) (ds2 := ds) 4 rfl ?_
        try have q11x : (((mTsN sv sq nw k) + (tl.getD ((8 * (b ||| (2 ^ k))) + k) 0))).toInt = (mTsN sv sq nw k).toInt + (tl.getD ((8 * (b ||| (2 ^ k))) + k) 0).toInt := e_add (by omega) (by omega)
        refine wq_ge2 rfl rfl (fun b12x => ?_) (fun b12x => ?_)
        · refine wq_gos (f := 1) (pc2 := 91) (ls2 := [(5, .int ((nI k) + 1)), (4, .int le), (6, .int ((mTsN sv sq nw k) + (tl.getD ((8 * (b ||| (2 ^ k))) + k) 0))), (0, .ref 162), (1, .int (nI b)), (2, .int (-1)), (3, .int (nI n))]) (st2 := []) (h2 := h) (dc2 := dc) (ds2 := ds) 3 rfl ?_
          rw [nI_1]
          refine wq_gos (f := 1) (pc2 := 26) (ls2 := [(5, .int (nI (k + 1))), (4, .int le), (6, .int ((mTsN sv sq nw k) + (tl.getD ((8 * (b ||| (2 ^ k))) + k) 0))), (0, .ref 162), (1, .int (nI b)), (2, .int (-1)), (3, .int (nI n))]) (st2 := []) (h2 := h) (dc2 := dc) (ds2 := ds) 1 rfl ?_
          try have q13x := nI_toInt (n := (k + 1)) (by omega)
          try have q14x := nI_toInt (n := b) (by omega)
          have hx : (mtfNF sv sq nw tl n b (m + 1) le k) = (mtfNF sv sq nw tl n b m le (k + 1)) := by show (if _ then _ else _) = _; rw [if_neg (Int.not_le.mpr b3x), if_pos b6x, if_pos b12x]
          rw [hx]
          refine wq_ls [(0, .ref 162), (1, .int (nI b)), (2, .int (-1)), (3, .int (nI n)), (4, .int le), (5, .int (nI (k + 1)))] (show ([0, 1, 2, 3, 4, 5] : List Nat).Nodup by decide) ⟨rfl, rfl, rfl, rfl, rfl, rfl, trivial⟩ ?_
          exact ih le (k + 1) (by first | assumption | omega | decide | solve_by_elim) (by omega) dc ds
        · refine wq_gos (f := 1) (pc2 := 91) (ls2 := [(5, .int ((nI k) + 1)), (4, .int ((mTsN sv sq nw k) + (tl.getD ((8 * (b ||| (2 ^ k))) + k) 0))), (6, .int ((mTsN sv sq nw k) + (tl.getD ((8 * (b ||| (2 ^ k))) + k) 0))), (0, .ref 162), (1, .int (nI b)), (2, .int (-1)), (3, .int (nI n))]) (st2 := []) (h2 := h) (dc2 := dc) (ds2 := ds) 4 rfl ?_
          rw [nI_1]
          refine wq_gos (f := 1) (pc2 := 26) (ls2 := [(5, .int (nI (k + 1))), (4, .int ((mTsN sv sq nw k) + (tl.getD ((8 * (b ||| (2 ^ k))) + k) 0))), (6, .int ((mTsN sv sq nw k) + (tl.getD ((8 * (b ||| (2 ^ k))) + k) 0))), (0, .ref 162), (1, .int (nI b)), (2, .int (-1)), (3, .int (nI n))]) (st2 := []) (h2 := h) (dc2 := dc) (ds2 := ds) 1 rfl ?_
          try have q15x := nI_toInt (n := (k + 1)) (by omega)
          try have q16x := nI_toInt (n := b) (by omega)
          have hx : (mtfNF sv sq nw tl n b (m + 1) le k) = (mtfNF sv sq nw tl n b m ((mTsN sv sq nw k) + (tl.getD ((8 * (b ||| (2 ^ k))) + k) 0)) (k + 1)) := by show (if _ then _ else _) = _; rw [if_neg (Int.not_le.mpr b3x), if_pos b6x, if_neg (Int.not_le.mpr b12x)]
          rw [hx]
          refine wq_ls [(0, .ref 162), (1, .int (nI b)), (2, .int (-1)), (3, .int (nI n)), (4, .int ((mTsN sv sq nw k) + (tl.getD ((8 * (b ||| (2 ^ k))) + k) 0))), (5, .int (nI (k + 1)))] (show ([0, 1, 2, 3, 4, 5] : List Nat).Nodup by decide) ⟨rfl, rfl, rfl, rfl, rfl, rfl, trivial⟩ ?_
          exact ih ((mTsN sv sq nw k) + (tl.getD ((8 * (b ||| (2 ^ k))) + k) 0)) (k + 1) (by first | assumption | omega | decide | solve_by_elim) (by omega) dc ds
      · have q17x : (nI ((b >>> k) % 2)).toInt = 1 := congrArg Int32.toInt b6x
        refine wq_gos (f := 1) (pc2 := 91) (ls2 := [(5, .int ((nI k) + 1)), (0, .ref 162), (1, .int (nI b)), (2, .int (-1)), (3, .int (nI n)), (4, .int le)]) (st2 := []) (h2 := h) (dc2 := dc) (ds2 := ds) 2 rfl ?_
        rw [nI_1]
        refine wq_gos (f := 1) (pc2 := 26) (ls2 := [(5, .int (nI (k + 1))), (0, .ref 162), (1, .int (nI b)), (2, .int (-1)), (3, .int (nI n)), (4, .int le)]) (st2 := []) (h2 := h) (dc2 := dc) (ds2 := ds) 1 rfl ?_
        try have q18x := nI_toInt (n := (k + 1)) (by omega)
        try have q19x := nI_toInt (n := b) (by omega)
        have hx : (mtfNF sv sq nw tl n b (m + 1) le k) = (mtfNF sv sq nw tl n b m le (k + 1)) := by show (if _ then _ else _) = _; rw [if_neg (Int.not_le.mpr b3x), if_neg (fun q => q b6x)]
        rw [hx]
        refine wq_ls [(0, .ref 162), (1, .int (nI b)), (2, .int (-1)), (3, .int (nI n)), (4, .int le), (5, .int (nI (k + 1)))] (show ([0, 1, 2, 3, 4, 5] : List Nat).Nodup by decide) ⟨rfl, rfl, rfl, rfl, rfl, rfl, trivial⟩ ?_
        exact ih le (k + 1) (by first | assumption | omega | decide | solve_by_elim) (by omega) dc ds
set_option maxRecDepth 100000 in
set_option maxHeartbeats 4000000 in
theorem m_tfN {h : zH} {n0 n2 n14 n15 n16 n17 n18 n19 n20 n21 n22 n23 n27 n28 n32 n33 n34 n35 n39 n52 : Int32} {n b : Nat} {sv sq nw tl kn : List Int32} (hM : zat h 162 = some (.inr (.inr (.inr (10, mO n0 n2 n14 n15 n16 n17 n18 n19 n20 n21 n22 n23 n27 n28 n32 n33 n34 n35 n39 n52))))) (hSv : zat h 172 = some (.inl (0, 12, sv))) (hSq : zat h 178 = some (.inl (0, 96, sq))) (hNw : zat h 188 = some (.inl (0, 6, nw))) (hTl : zat h 226 = some (.inl (0, 2048, tl))) (hKn : zat h 166 = some (.inl (0, 14, kn))) (hsp : n ≤ 8) (hb : b < 2 ^ n) (hsv : ∀ i, i < 6 → 1 ≤ (sv.getD i 0).toInt) (hkn : kn.getD 5 0 = nI n) : wq 269 0 [(0, .ref 162), (1, .int (nI b)), (2, .int (-1))] [] h 0 0 (fun rr9 => rr9 = (some (.int (if b + 1 = 2 ^ n then 0 else (mtfNF sv sq nw tl n b (n - 0 + 1) 1000000 0))), h, 0, 0)) := by
  have qnn := nI_toInt (n := n) (by omega)
  have hp8 := pow8 hsp
  have hpp : 1 ≤ 2 ^ n := Nat.one_le_two_pow
  refine wq_gos (f := 1) (pc2 := 1) (ls2 := [(0, .ref 162), (1, .int (nI b)), (2, .int (-1))]) (st2 := [.ref 162]) (h2 := h) (dc2 := 0) (ds2 := 0) 1 rfl ?_
  refine wq_getf rfl hM rfl rfl ?_
  refine wq_gos (f := 1) (pc2 := 5) (ls2 := [(0, .ref 162), (1, .int (nI b)), (2, .int (-1))]) (st2 := [.int 5, .ref 166]) (h2 := h) (dc2 := 0) (ds2 := 0) 1 rfl ?_
  have q1x : (5 : Int32).toInt = 5 := rfl
  refine wq_iald rfl hKn rfl rfl ?_
  refine wq_vi hkn ?_
  refine wq_gos (f := 1) (pc2 := 11) (ls2 := [(3, .int (nI n)), (0, .ref 162), (1, .int (nI b)), (2, .int (-1))]) (st2 := [.int ((1 : Int32) <<< ((nI n) &&& 31)), .int (nI b)]) (h2 := h) (dc2 := 0) (ds2 := 0) 5 rfl ?_
  refine wq_vi (show ((1 : Int32) <<< ((nI n) &&& 31)) = nI (2 ^ n) from e_shl (k := n) (by omega)) ?_
  refine wq_gos (f := 1) (pc2 := 13) (ls2 := [(3, .int (nI n)), (0, .ref 162), (1, .int (nI b)), (2, .int (-1))]) (st2 := [.int ((nI (2 ^ n)) - (1 : Int32)), .int (nI b)]) (h2 := h) (dc2 := 0) (ds2 := 0) 2 rfl ?_
  refine wq_vi (nI_predn (a := 2 ^ n) Nat.one_le_two_pow) ?_
  try have q2x := nI_toInt (n := b) (by omega)
  try have q3x := nI_toInt (n := (2 ^ n - 1)) (by omega)
  refine wq_ne2 rfl rfl (fun b4x => ?_) (fun b4x => ?_)
  · have q5x : (nI b).toInt ≠ (nI (2 ^ n - 1)).toInt := fun q => b4x (Int32.toInt_inj.mp q)
    refine wq_gos (f := 1) (pc2 := 26) (ls2 := [(5, .int 0), (4, .int 1000000), (3, .int (nI n)), (0, .ref 162), (1, .int (nI b)), (2, .int (-1))]) (st2 := []) (h2 := h) (dc2 := 0) (ds2 := 0) 4 rfl ?_
    try have q6x := nI_toInt (n := n) (by omega)
    refine wq_ls [(0, .ref 162), (1, .int (nI b)), (2, .int (-1)), (3, .int (nI n)), (4, .int 1000000), (5, .int (nI 0))] (show ([0, 1, 2, 3, 4, 5] : List Nat).Nodup by decide) ⟨rfl, rfl, rfl, rfl, rfl, rfl, trivial⟩ ?_
    refine wq_mono (m_tfNL hM hSv hSq hNw hTl (by first | assumption | omega | decide | solve_by_elim) (by first | assumption | omega | decide | solve_by_elim) (by first | assumption | omega | decide | solve_by_elim) ((n - 0) + 1) (1000000 : Int32) 0 (by first | assumption | omega | decide | solve_by_elim) (by omega) 0 0) ?_
    rintro _ rfl
    have w7x : (if b + 1 = 2 ^ n then 0 else (mtfNF sv sq nw tl n b (n - 0 + 1) 1000000 0)) = (mtfNF sv sq nw tl n b ((n - 0) + 1) (1000000 : Int32) 0) := by rw [if_neg (by omega)]
    rw [w7x]
    all_goals exact rfl
  · have q8x : (nI b).toInt = (nI (2 ^ n - 1)).toInt := congrArg Int32.toInt b4x
    refine wq_gos (f := 1) (pc2 := 17) (ls2 := [(3, .int (nI n)), (0, .ref 162), (1, .int (nI b)), (2, .int (-1))]) (st2 := [.int 0]) (h2 := h) (dc2 := 0) (ds2 := 0) 1 rfl ?_
    have w9x : (if b + 1 = 2 ^ n then 0 else (mtfNF sv sq nw tl n b (n - 0 + 1) 1000000 0)) = (0 : Int32) := by rw [if_pos (by omega)]
    rw [w9x]
    exact wq_ret rfl rfl rfl
noncomputable def mtfSF (sv sq tl : List Int32) (n b l : Nat) : Nat → Int32 → Nat → Int32
  | 0, _, _ => 0
  | m + 1, le, k => (if (nI n).toInt ≤ (nI k).toInt then le else (if (nI ((b >>> k) % 2)) ≠ (1 : Int32) then (if le.toInt ≤ ((mTsS sv sq l k) + (tl.getD ((8 * (b ||| (2 ^ k))) + k) 0)).toInt then (mtfSF sv sq tl n b l m le (k + 1)) else (mtfSF sv sq tl n b l m ((mTsS sv sq l k) + (tl.getD ((8 * (b ||| (2 ^ k))) + k) 0)) (k + 1))) else (mtfSF sv sq tl n b l m le (k + 1))))
set_option maxRecDepth 100000 in
set_option maxHeartbeats 4000000 in
theorem m_tfSL {h : zH} {n0 n2 n14 n15 n16 n17 n18 n19 n20 n21 n22 n23 n27 n28 n32 n33 n34 n35 n39 n52 : Int32} {n b : Nat} {l : Nat} {sv sq nw tl : List Int32} (hM : zat h 162 = some (.inr (.inr (.inr (10, mO n0 n2 n14 n15 n16 n17 n18 n19 n20 n21 n22 n23 n27 n28 n32 n33 n34 n35 n39 n52))))) (hSv : zat h 172 = some (.inl (0, 12, sv))) (hSq : zat h 178 = some (.inl (0, 96, sq))) (hNw : zat h 188 = some (.inl (0, 6, nw))) (hTl : zat h 226 = some (.inl (0, 2048, tl))) (hsp : n ≤ 8) (hb : b < 2 ^ n) (hsv : ∀ i, i < 6 → 1 ≤ (sv.getD i 0).toInt) (hl8 : l < 8) : ∀ (m : Nat) (le : Int32) (k : Nat), (k ≤ n) → (n - k) < m → ∀ (dc ds : Nat), wq 269 26 [(0, .ref 162), (1, .int (nI b)), (2, .int (nI l)), (3, .int (nI n)), (4, .int le), (5, .int (nI k))] [] h dc ds (fun rr9 => rr9 = (some (Value.int (mtfSF sv sq tl n b l m le k)), h, dc, ds)) := by
  intro m
  induction m with
  | zero => intro le k hk hms dc ds; omega
  | succ m ih =>
    intro le k hk hms dc ds
    have qnk := nI_toInt (n := k) (by omega)
    have qnn := nI_toInt (n := n) (by omega)
    have hp8 := pow8 hsp
    have hsh := shr_le b k
    have hob := orb (k := k) hb
    have hsm := Nat.mod_lt (b >>> k) (show 0 < 2 by decide)
    refine wq_gos (f := 1) (pc2 := 29) (ls2 := [(0, .ref 162), (1, .int (nI b)), (2, .int (nI l)), (3, .int (nI n)), (4, .int le), (5, .int (nI k))]) (st2 := [.int (nI n), .int (nI k)]) (h2 := h) (dc2 := dc) (ds2 := ds) 2 rfl ?_
    try have q1x := nI_toInt (n := k) (by omega)
    try have q2x := nI_toInt (n := n) (by omega)
    refine wq_ge2 rfl rfl (fun b3x => ?_) (fun b3x => ?_)
    · refine wq_gos (f := 1) (pc2 := 96) (ls2 := [(0, .ref 162), (1, .int (nI b)), (2, .int (nI l)), (3, .int (nI n)), (4, .int le), (5, .int (nI k))]) (st2 := [.int le]) (h2 := h) (dc2 := dc) (ds2 := ds) 1 rfl ?_
      have hx : (mtfSF sv sq tl n b l (m + 1) le k) = le := by show (if _ then _ else _) = _; rw [if_pos b3x]
      refine wq_ret rfl rfl ?_
      show (some (Value.int le), h, dc, ds) = (some (Value.int (mtfSF sv sq tl n b l (m + 1) le k)), h, dc, ds)
      rw [hx]
    · refine wq_gos (f := 1) (pc2 := 36) (ls2 := [(0, .ref 162), (1, .int (nI b)), (2, .int (nI l)), (3, .int (nI n)), (4, .int le), (5, .int (nI k))]) (st2 := [.int ((nI b) >>> ((nI k) &&& 31))]) (h2 := h) (dc2 := dc) (ds2 := ds) 3 rfl ?_
      refine wq_vi (show ((nI b) >>> ((nI k) &&& 31)) = nI (b >>> k) from e_shr (b := b) (k := k) (by omega) (by omega)) ?_
      refine wq_gos (f := 1) (pc2 := 38) (ls2 := [(0, .ref 162), (1, .int (nI b)), (2, .int (nI l)), (3, .int (nI n)), (4, .int le), (5, .int (nI k))]) (st2 := [.int ((nI (b >>> k)) &&& (1 : Int32))]) (h2 := h) (dc2 := dc) (ds2 := ds) 2 rfl ?_
      refine wq_vi (show ((nI (b >>> k)) &&& (1 : Int32)) = nI ((b >>> k) % 2) from e_and1 (b >>> k)) ?_
      refine wq_gos (f := 1) (pc2 := 39) (ls2 := [(0, .ref 162), (1, .int (nI b)), (2, .int (nI l)), (3, .int (nI n)), (4, .int le), (5, .int (nI k))]) (st2 := [.int 1, .int (nI ((b >>> k) % 2))]) (h2 := h) (dc2 := dc) (ds2 := ds) 1 rfl ?_
      try have q4x := nI_toInt (n := ((b >>> k) % 2)) (by omega)
      have q5x : (1 : Int32).toInt = 1 := rfl
      refine wq_ne2 rfl rfl (fun b6x => ?_) (fun b6x => ?_)
      · have q7x : (nI ((b >>> k) % 2)).toInt ≠ 1 := fun q => b6x (Int32.toInt_inj.mp q)
        refine wq_gos (f := 1) (pc2 := 49) (ls2 := [(0, .ref 162), (1, .int (nI b)), (2, .int (nI l)), (3, .int (nI n)), (4, .int le), (5, .int (nI k))]) (st2 := [.int (nI k), .int (nI l), .ref 162]) (h2 := h) (dc2 := dc) (ds2 := ds) 3 rfl ?_
        try have q8x := nI_toInt (n := l) (by omega)
        refine wq_inlv (y2 := 270) (as := [.int (nI l), .int (nI k)]) rfl rfl rfl hM rfl (wq_mono (m_tsS hM hSv hSq hNw (by first | assumption | omega | decide | solve_by_elim) (by first | assumption | omega | decide | solve_by_elim) (by first | assumption | omega | decide | solve_by_elim)) ?_)
        rintro _ rfl
        show wq 269 52 [(0, .ref 162), (1, .int (nI b)), (2, .int (nI l)), (3, .int (nI n)), (4, .int le), (5, .int (nI k))] [.int (mTsS sv sq l k)] h dc ds _
        refine wq_gos (f := 1) (pc2 := 53) (ls2 := [(0, .ref 162), (1, .int (nI b)), (2, .int (nI l)), (3, .int (nI n)), (4, .int le), (5, .int (nI k))]) (st2 := [.ref 162, .int (mTsS sv sq l k)]) (h2 := h) (dc2 := dc) (ds2 := ds) 1 rfl ?_
        refine wq_getf rfl hM rfl rfl ?_
        refine wq_gos (f := 1) (pc2 := 63) (ls2 := [(0, .ref 162), (1, .int (nI b)), (2, .int (nI l)), (3, .int (nI n)), (4, .int le), (5, .int (nI k))]) (st2 := [.int ((1 : Int32) <<< ((nI k) &&& 31)), .int (nI b), .int 8, .ref 226, .int (mTsS sv sq l k)]) (h2 := h) (dc2 := dc) (ds2 := ds) 5 rfl ?_
        refine wq_vi (show ((1 : Int32) <<< ((nI k) &&& 31)) = nI (2 ^ k) from e_shl (k := k) (by omega)) ?_
        refine wq_gos (f := 1) (pc2 := 64) (ls2 := [(0, .ref 162), (1, .int (nI b)), (2, .int (nI l)), (3, .int (nI n)), (4, .int le), (5, .int (nI k))]) (st2 := [.int ((nI b) ||| (nI (2 ^ k))), .int 8, .ref 226, .int (mTsS sv sq l k)]) (h2 := h) (dc2 := dc) (ds2 := ds) 1 rfl ?_
        refine wq_vi (show ((nI b) ||| (nI (2 ^ k))) = nI (b ||| (2 ^ k)) from e_or b (2 ^ k)) ?_
        refine wq_gos (f := 1) (pc2 := 65) (ls2 := [(0, .ref 162), (1, .int (nI b)), (2, .int (nI l)), (3, .int (nI n)), (4, .int le), (5, .int (nI k))]) (st2 := [.int ((8 : Int32) * (nI (b ||| (2 ^ k)))), .ref 226, .int (mTsS sv sq l k)]) (h2 := h) (dc2 := dc) (ds2 := ds) 1 rfl ?_
        refine wq_vi (show (8 : Int32) * (nI (b ||| (2 ^ k))) = nI (8 * (b ||| (2 ^ k))) from e_nmul 8 (b ||| (2 ^ k))) ?_
        refine wq_gos (f := 1) (pc2 := 68) (ls2 := [(0, .ref 162), (1, .int (nI b)), (2, .int (nI l)), (3, .int (nI n)), (4, .int le), (5, .int (nI k))]) (st2 := [.int ((nI (8 * (b ||| (2 ^ k)))) + (nI k)), .ref 226, .int (mTsS sv sq l k)]) (h2 := h) (dc2 := dc) (ds2 := ds) 2 rfl ?_
        refine wq_vi (show (nI (8 * (b ||| (2 ^ k)))) + (nI k) = nI ((8 * (b ||| (2 ^ k))) + k) from nI_add (8 * (b ||| (2 ^ k))) k) ?_
        try have q10x := nI_toInt (n := ((8 * (b ||| (2 ^ k))) + k)) (by omega)
        refine wq_ialdn rfl hTl (by first | omega | exact zin_t (by omega) (by omega)) (by decide) rfl ?_
        refine wq_gos (f := 1) (pc2 := 76) (ls2 := [(6, .int ((mTsS sv sq l k) + (tl.getD ((8 * (b ||| (2 ^ k))) + k) 0))), (0, .ref 162), (1, .int (nI b)), (2, .int (nI l)), (3, .int (nI n)), (4, .int le), (5, .int (nI k))]) (st2 := [.int le, .int ((mTsS sv sq l k) + (tl.getD ((8 * (b ||| (2 ^ k))) + k) 0))]) (h2 := h) (dc2 := dc) (ds2 := ds) 4 rfl ?_
        try have q11x : (((mTsS sv sq l k) + (tl.getD ((8 * (b ||| (2 ^ k))) + k) 0))).toInt = (mTsS sv sq l k).toInt + (tl.getD ((8 * (b ||| (2 ^ k))) + k) 0).toInt := e_add (by omega) (by omega)
        refine wq_ge2 rfl rfl (fun b12x => ?_) (fun b12x => ?_)
        · refine wq_gos (f := 1) (pc2 := 91) (ls2 := [(5, .int ((nI k) + 1)), (4, .int le), (6, .int ((mTsS sv sq l k) + (tl.getD ((8 * (b ||| (2 ^ k))) + k) 0))), (0, .ref 162), (1, .int (nI b)), (2, .int (nI l)), (3, .int (nI n))]) (st2 := []) (h2 := h) (dc2 := dc) (ds2 := ds) 3 rfl ?_
          rw [nI_1]
          refine wq_gos (f := 1) (pc2 := 26) (ls2 := [(5, .int (nI (k + 1))), (4, .int le), (6, .int ((mTsS sv sq l k) + (tl.getD ((8 * (b ||| (2 ^ k))) + k) 0))), (0, .ref 162), (1, .int (nI b)), (2, .int (nI l)), (3, .int (nI n))]) (st2 := []) (h2 := h) (dc2 := dc) (ds2 := ds) 1 rfl ?_
          try have q13x := nI_toInt (n := (k + 1)) (by omega)
          try have q14x := nI_toInt (n := b) (by omega)
          have hx : (mtfSF sv sq tl n b l (m + 1) le k) = (mtfSF sv sq tl n b l m le (k + 1)) := by show (if _ then _ else _) = _; rw [if_neg (Int.not_le.mpr b3x), if_pos b6x, if_pos b12x]
          rw [hx]
          refine wq_ls [(0, .ref 162), (1, .int (nI b)), (2, .int (nI l)), (3, .int (nI n)), (4, .int le), (5, .int (nI (k + 1)))] (show ([0, 1, 2, 3, 4, 5] : List Nat).Nodup by decide) ⟨rfl, rfl, rfl, rfl, rfl, rfl, trivial⟩ ?_
          exact ih le (k + 1) (by first | assumption | omega | decide | solve_by_elim) (by omega) dc ds
        · refine wq_gos (f := 1) (pc2 := 91) (ls2 := [(5, .int ((nI k) + 1)), (4, .int ((mTsS sv sq l k) + (tl.getD ((8 * (b ||| (2 ^ k))) + k) 0))), (6, .int ((mTsS sv sq l k) + (tl.getD ((8 * (b ||| (2 ^ k))) + k) 0))), (0, .ref 162), (1, .int (nI b)), (2, .int (nI l)), (3, .int (nI n))]) (st2 := []) (h2 := h) (dc2 := dc) (ds2 := ds) 4 rfl ?_
          rw [nI_1]
          refine wq_gos (f := 1) (pc2 := 26) (ls2 := [(5, .int (nI (k + 1))), (4, .int ((mTsS sv sq l k) + (tl.getD ((8 * (b ||| (2 ^ k))) + k) 0))), (6, .int ((mTsS sv sq l k) + (tl.getD ((8 * (b ||| (2 ^ k))) + k) 0))), (0, .ref 162), (1, .int (nI b)), (2, .int (nI l)), (3, .int (nI n))]) (st2 := []) (h2 := h) (dc2 := dc) (ds2 := ds) 1 rfl ?_
          try have q15x := nI_toInt (n := (k + 1)) (by omega)
          try have q16x := nI_toInt (n := b) (by omega)
          have hx : (mtfSF sv sq tl n b l (m + 1) le k) = (mtfSF sv sq tl n b l m ((mTsS sv sq l k) + (tl.getD ((8 * (b ||| (2 ^ k))) + k) 0)) (k + 1)) := by show (if _ then _ else _) = _; rw [if_neg (Int.not_le.mpr b3x), if_pos b6x, if_neg (Int.not_le.mpr b12x)]
          rw [hx]
          refine wq_ls [(0, .ref 162), (1, .int (nI b)), (2, .int (nI l)), (3, .int (nI n)), (4, .int ((mTsS sv sq l k) + (tl.getD ((8 * (b ||| (2 ^ k))) + k) 0))), (5, .int (nI (k + 1)))] (show ([0, 1, 2, 3, 4, 5] : List Nat).Nodup by decide) ⟨rfl, rfl, rfl, rfl, rfl, rfl, trivial⟩ ?_
          exact ih ((mTsS sv sq l k) + (tl.getD ((8 * (b ||| (2 ^ k))) + k) 0)) (k + 1) (by first | assumption | omega | decide | solve_by_elim) (by omega) dc ds
      · have q17x : (nI ((b >>> k) % 2)).toInt = 1 := congrArg Int32.toInt b6x
        refine wq_gos (f := 1) (pc2 := 91) (ls2 := [(5, .int ((nI k) + 1)), (0, .ref 162), (1, .int (nI b)), (2, .int (nI l)), (3, .int (nI n)), (4, .int le)]) (st2 := []) (h2 := h) (dc2 := dc) (ds2 := ds) 2 rfl ?_
        rw [nI_1]
        refine wq_gos (f := 1) (pc2 := 26) (ls2 := [(5, .int (nI (k + 1))), (0, .ref 162), (1, .int (nI b)), (2, .int (nI l)), (3, .int (nI n)), (4, .int le)]) (st2 := []) (h2 := h) (dc2 := dc) (ds2 := ds) 1 rfl ?_
        try have q18x := nI_toInt (n := (k + 1)) (by omega)
        try have q19x := nI_toInt (n := b) (by omega)
        try have q20x := nI_toInt (n := l) (by omega)
        have hx : (mtfSF sv sq tl n b l (m + 1) le k) = (mtfSF sv sq tl n b l m le (k + 1)) := by show (if _ then _ else _) = _; rw [if_neg (Int.not_le.mpr b3x), if_neg (fun q => q b6x)]
        rw [hx]
        refine wq_ls [(0, .ref 162), (1, .int (nI b)), (2, .int (nI l)), (3, .int (nI n)), (4, .int le), (5, .int (nI (k + 1)))] (show ([0, 1, 2, 3, 4, 5] : List Nat).Nodup by decide) ⟨rfl, rfl, rfl, rfl, rfl, rfl, trivial⟩ ?_
        exact ih le (k + 1) (by first | assumption | omega | decide | solve_by_elim) (by omega) dc ds
set_option maxRecDepth 100000 in
set_option maxHeartbeats 4000000 in
theorem m_tfS {h : zH} {n0 n2 n14 n15 n16 n17 n18 n19 n20 n21 n22 n23 n27 n28 n32 n33 n34 n35 n39 n52 : Int32} {n b : Nat} {l : Nat} {sv sq nw tl kn : List Int32} (hM : zat h 162 = some (.inr (.inr (.inr (10, mO n0 n2 n14 n15 n16 n17 n18 n19 n20 n21 n22 n23 n27 n28 n32 n33 n34 n35 n39 n52))))) (hSv : zat h 172 = some (.inl (0, 12, sv))) (hSq : zat h 178 = some (.inl (0, 96, sq))) (hNw : zat h 188 = some (.inl (0, 6, nw))) (hTl : zat h 226 = some (.inl (0, 2048, tl))) (hKn : zat h 166 = some (.inl (0, 14, kn))) (hsp : n ≤ 8) (hb : b < 2 ^ n) (hsv : ∀ i, i < 6 → 1 ≤ (sv.getD i 0).toInt) (hl8 : l < 8) (hkn : kn.getD 5 0 = nI n) : wq 269 0 [(0, .ref 162), (1, .int (nI b)), (2, .int (nI l))] [] h 0 0 (fun rr9 => rr9 = (some (.int (if b + 1 = 2 ^ n then 0 else (mtfSF sv sq tl n b l (n - 0 + 1) 1000000 0))), h, 0, 0)) := by
  have qnn := nI_toInt (n := n) (by omega)
  have hp8 := pow8 hsp
  have hpp : 1 ≤ 2 ^ n := Nat.one_le_two_pow
  refine wq_gos (f := 1) (pc2 := 1) (ls2 := [(0, .ref 162), (1, .int (nI b)), (2, .int (nI l))]) (st2 := [.ref 162]) (h2 := h) (dc2 := 0) (ds2 := 0) 1 rfl ?_
  refine wq_getf rfl hM rfl rfl ?_
  refine wq_gos (f := 1) (pc2 := 5) (ls2 := [(0, .ref 162), (1, .int (nI b)), (2, .int (nI l))]) (st2 := [.int 5, .ref 166]) (h2 := h) (dc2 := 0) (ds2 := 0) 1 rfl ?_
  have q1x : (5 : Int32).toInt = 5 := rfl
  refine wq_iald rfl hKn rfl rfl ?_
  refine wq_vi hkn ?_
  refine wq_gos (f := 1) (pc2 := 11) (ls2 := [(3, .int (nI n)), (0, .ref 162), (1, .int (nI b)), (2, .int (nI l))]) (st2 := [.int ((1 : Int32) <<< ((nI n) &&& 31)), .int (nI b)]) (h2 := h) (dc2 := 0) (ds2 := 0) 5 rfl ?_
  refine wq_vi (show ((1 : Int32) <<< ((nI n) &&& 31)) = nI (2 ^ n) from e_shl (k := n) (by omega)) ?_
  refine wq_gos (f := 1) (pc2 := 13) (ls2 := [(3, .int (nI n)), (0, .ref 162), (1, .int (nI b)), (2, .int (nI l))]) (st2 := [.int ((nI (2 ^ n)) - (1 : Int32)), .int (nI b)]) (h2 := h) (dc2 := 0) (ds2 := 0) 2 rfl ?_
  refine wq_vi (nI_predn (a := 2 ^ n) Nat.one_le_two_pow) ?_
  try have q2x := nI_toInt (n := b) (by omega)
  try have q3x := nI_toInt (n := (2 ^ n - 1)) (by omega)
  refine wq_ne2 rfl rfl (fun b4x => ?_) (fun b4x => ?_)
  · have q5x : (nI b).toInt ≠ (nI (2 ^ n - 1)).toInt := fun q => b4x (Int32.toInt_inj.mp q)
    refine wq_gos (f := 1) (pc2 := 26) (ls2 := [(5, .int 0), (4, .int 1000000), (3, .int (nI n)), (0, .ref 162), (1, .int (nI b)), (2, .int (nI l))]) (st2 := []) (h2 := h) (dc2 := 0) (ds2 := 0) 4 rfl ?_
    try have q6x := nI_toInt (n := n) (by omega)
    try have q7x := nI_toInt (n := l) (by omega)
    refine wq_ls [(0, .ref 162), (1, .int (nI b)), (2, .int (nI l)), (3, .int (nI n)), (4, .int 1000000), (5, .int (nI 0))] (show ([0, 1, 2, 3, 4, 5] : List Nat).Nodup by decide) ⟨rfl, rfl, rfl, rfl, rfl, rfl, trivial⟩ ?_
    refine wq_mono (m_tfSL hM hSv hSq hNw hTl (by first | assumption | omega | decide | solve_by_elim) (by first | assumption | omega | decide | solve_by_elim) (by first | assumption | omega | decide | solve_by_elim) (by first | assumption | omega | decide | solve_by_elim) ((n - 0) + 1) (1000000 : Int32) 0 (by first | assumption | omega | decide | solve_by_elim) (by omega) 0 0) ?_
    rintro _ rfl
    have w8x : (if b + 1 = 2 ^ n then 0 else (mtfSF sv sq tl n b l (n - 0 + 1) 1000000 0)) = (mtfSF sv sq tl n b l ((n - 0) + 1) (1000000 : Int32) 0) := by rw [if_neg (by omega)]
    rw [w8x]
    all_goals exact rfl
  · have q9x : (nI b).toInt = (nI (2 ^ n - 1)).toInt := congrArg Int32.toInt b4x
    refine wq_gos (f := 1) (pc2 := 17) (ls2 := [(3, .int (nI n)), (0, .ref 162), (1, .int (nI b)), (2, .int (nI l))]) (st2 := [.int 0]) (h2 := h) (dc2 := 0) (ds2 := 0) 1 rfl ?_
    have w10x : (if b + 1 = 2 ^ n then 0 else (mtfSF sv sq tl n b l (n - 0 + 1) 1000000 0)) = (0 : Int32) := by rw [if_pos (by omega)]
    rw [w10x]
    exact wq_ret rfl rfl rfl
