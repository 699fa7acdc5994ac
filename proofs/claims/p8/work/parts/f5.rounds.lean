/-! The class: the order of all spots. -/
theorem wq_newin {y pc pf : Nat} {ls : zL} {rest : List Value} {h : zH} {dc ds : Nat} {Q : zR → Prop} {tg : List Nat} {n : Nat} {w : ClassFile.ArrayType} {k2 : Nat} {k3 : Value} (hP : zP y pc = some (.newarray w, 2, (0, k2, k3), tg)) (hn : n ≤ 67108864) (hpf : pc + 2 = pf) (k : ∀ h2 : zH, zat h2 (2 * h.length) = some (.inl (0, n, [])) → wFr [] h h2 → h2.length = h.length + 1 → wq y pf ls (.ref (2 * h.length) :: rest) h2 (dc + 1) (ds + n) Q) : wq y pc ls (.int (nI n) :: rest) h dc ds Q := by
  have h1 := nI_toInt (n := n) (by omega)
  exact wq_newi hP (by omega) (by omega) hpf (by rw [nI_clamp (by omega)]; exact k)
theorem orb {b k n : Nat} (hb : b < 2 ^ n) : n ≤ k ∨ b ||| 2 ^ k < 2 ^ n := by
  by_cases h : n ≤ k
  · exact Or.inl h
  · exact Or.inr (Nat.or_lt_two_pow hb (Nat.pow_lt_pow_right (by decide) (by omega)))
theorem pow8 {n : Nat} (h : n ≤ 8) : 2 ^ n ≤ 256 := Nat.pow_le_pow_right (n := 2) (by decide) h
theorem shr_le (b k : Nat) : b >>> k ≤ b := Nat.shiftRight_le b k
noncomputable def lbF (sp : Nat) (gp lf : List Int32) (b l : Nat) : Nat → Int32 → Nat → Int32
  | 0, _, _ => 0
  | m + 1, be, k => (if (nI sp).toInt ≤ (nI k).toInt then be else (if (nI ((b >>> k) % 2)) ≠ (0 : Int32) then (lbF sp gp lf b l m be (k + 1)) else (lbF sp gp lf b l m (jmin be ((gp.getD ((l * 8) + k) 0) + (lf.getD (((b ||| (2 ^ k)) * 8) + k) 0))) (k + 1))))
set_option maxRecDepth 100000 in
set_option maxHeartbeats 4000000 in
theorem c_lbL {h : zH} {ra sp so : Nat} {lk hd ht bl sd : Int32} {rt : Int64} {rf : Nat} {fi9 kn9 fw9 : Int32} {fr9 : Int64} {NL : Nat} {b l : Nat} {gp lf : List Int32} (hRo : zat h 150 = some (.inr (.inr (.inr (5, [.ref 152, .ref ra, .ref 154, .ref rf, .int fi9, .int kn9, .long fr9, .int fw9]))))) (hGp : zat h 154 = some (.inl (0, 64, gp))) (hLf : zat h rf = some (.inl (0, NL, lf))) (hA : zat h ra = some (.inr (.inr (.inr (0, [.int lk, .int hd, .int ht, .int bl, .int sd, .long rt, .ref (ra + 2), .ref (ra + 4), .ref (ra + 6), .int (nI sp), .ref (ra + 8), .ref (ra + 10), .int (nI so), .ref (ra + 12)]))))) (hra : ra = 6 ∨ ra = 20) (hsp : sp ≤ 8) (hNL : 2 ^ sp * 8 ≤ NL ∧ NL ≤ 4096) (hb : b < 2 ^ sp) (hl : l < 8) : ∀ (m : Nat) (be : Int32) (k : Nat), (k ≤ sp) → (sp - k) < m → ∀ (dc ds : Nat), wq 66 6 [(0, .ref 150), (1, .int (nI b)), (2, .int (nI l)), (3, .int be), (4, .int (nI k))] [] h dc ds (fun rr9 => rr9 = (some (Value.int (lbF sp gp lf b l m be k)), h, dc, ds)) := by
  intro m
  induction m with
  | zero => intro be k hk hms dc ds; omega
  | succ m ih =>
    intro be k hk hms dc ds
    have qnk := nI_toInt (n := k) (by omega)
    have qnsp := nI_toInt (n := sp) (by omega)
    have hp8 := pow8 hsp
    have hsh := shr_le b k
    have hob := orb (k := k) hb
    refine wq_gos (f := 1) (pc2 := 9) (ls2 := [(0, .ref 150), (1, .int (nI b)), (2, .int (nI l)), (3, .int be), (4, .int (nI k))]) (st2 := [.ref 150, .int (nI k)]) (h2 := h) (dc2 := dc) (ds2 := ds) 2 rfl ?_
    refine wq_getf rfl hRo rfl rfl ?_
    refine wq_getf rfl hA rfl rfl ?_
    try have q1x := nI_toInt (n := k) (by omega)
    try have q2x := nI_toInt (n := sp) (by omega)
    refine wq_ge2 rfl rfl (fun b3x => ?_) (fun b3x => ?_)
    · refine wq_gos (f := 1) (pc2 := 73) (ls2 := [(0, .ref 150), (1, .int (nI b)), (2, .int (nI l)), (3, .int be), (4, .int (nI k))]) (st2 := [.int be]) (h2 := h) (dc2 := dc) (ds2 := ds) 1 rfl ?_
      have hx : (lbF sp gp lf b l (m + 1) be k) = be := by show (if _ then _ else _) = _; rw [if_pos b3x]
      refine wq_ret rfl rfl ?_
      show (some (Value.int be), h, dc, ds) = (some (Value.int (lbF sp gp lf b l (m + 1) be k)), h, dc, ds)
      rw [hx]
    · refine wq_gos (f := 1) (pc2 := 22) (ls2 := [(0, .ref 150), (1, .int (nI b)), (2, .int (nI l)), (3, .int be), (4, .int (nI k))]) (st2 := [.int (((nI b)).toUInt32 >>> (((nI k)).toUInt32 &&& Int32.toUInt32 31)).toInt32]) (h2 := h) (dc2 := dc) (ds2 := ds) 3 rfl ?_
      refine wq_vi (show (((nI b)).toUInt32 >>> (((nI k)).toUInt32 &&& Int32.toUInt32 31)).toInt32 = nI (b >>> k) from e_ushr (b := b) (k := k) (by omega) (by omega)) ?_
      refine wq_gos (f := 1) (pc2 := 24) (ls2 := [(0, .ref 150), (1, .int (nI b)), (2, .int (nI l)), (3, .int be), (4, .int (nI k))]) (st2 := [.int ((nI (b >>> k)) &&& (1 : Int32))]) (h2 := h) (dc2 := dc) (ds2 := ds) 2 rfl ?_
      refine wq_vi (show ((nI (b >>> k)) &&& (1 : Int32)) = nI ((b >>> k) % 2) from e_and1 (b >>> k)) ?_
      try have q4x := nI_toInt (n := ((b >>> k) % 2)) (by omega)
      refine wq_ne0 rfl rfl (fun b5x => ?_) (fun b5x => ?_)
      · have q6x : (nI ((b >>> k) % 2)).toInt ≠ 0 := fun q => b5x (Int32.toInt_inj.mp q)
        refine wq_gos (f := 1) (pc2 := 69) (ls2 := [(4, .int ((nI k) + 1)), (0, .ref 150), (1, .int (nI b)), (2, .int (nI l)), (3, .int be)]) (st2 := []) (h2 := h) (dc2 := dc) (ds2 := ds) 1 rfl ?_
        rw [nI_1]
        refine wq_gos (f := 1) (pc2 := 6) (ls2 := [(4, .int (nI (k + 1))), (0, .ref 150), (1, .int (nI b)), (2, .int (nI l)), (3, .int be)]) (st2 := []) (h2 := h) (dc2 := dc) (ds2 := ds) 1 rfl ?_
        try have q7x := nI_toInt (n := (k + 1)) (by omega)
        try have q8x := nI_toInt (n := b) (by omega)
        try have q9x := nI_toInt (n := l) (by omega)
        have hx : (lbF sp gp lf b l (m + 1) be k) = (lbF sp gp lf b l m be (k + 1)) := by show (if _ then _ else _) = _; rw [if_neg (Int.not_le.mpr b3x), if_pos b5x]
        rw [hx]
        refine wq_ls [(0, .ref 150), (1, .int (nI b)), (2, .int (nI l)), (3, .int be), (4, .int (nI (k + 1)))] (show ([0, 1, 2, 3, 4] : List Nat).Nodup by decide) ⟨rfl, rfl, rfl, rfl, rfl, trivial⟩ ?_
        exact ih be (k + 1) (by first | omega | assumption | decide | solve_by_elim) (by omega) dc ds
      · have q10x : (nI ((b >>> k) % 2)).toInt = 0 := congrArg Int32.toInt b5x
        refine wq_gos (f := 1) (pc2 := 28) (ls2 := [(0, .ref 150), (1, .int (nI b)), (2, .int (nI l)), (3, .int be), (4, .int (nI k))]) (st2 := [.ref 150]) (h2 := h) (dc2 := dc) (ds2 := ds) 1 rfl ?_
        refine wq_getf rfl hRo rfl rfl ?_
        refine wq_gos (f := 1) (pc2 := 35) (ls2 := [(0, .ref 150), (1, .int (nI b)), (2, .int (nI l)), (3, .int be), (4, .int (nI k))]) (st2 := [.int ((nI l) * (8 : Int32)), .ref 154]) (h2 := h) (dc2 := dc) (ds2 := ds) 3 rfl ?_
        refine wq_vi (show (nI l) * (8 : Int32) = nI (l * 8) from e_nmul l 8) ?_
        refine wq_gos (f := 1) (pc2 := 38) (ls2 := [(0, .ref 150), (1, .int (nI b)), (2, .int (nI l)), (3, .int be), (4, .int (nI k))]) (st2 := [.int ((nI (l * 8)) + (nI k)), .ref 154]) (h2 := h) (dc2 := dc) (ds2 := ds) 2 rfl ?_
        refine wq_vi (show (nI (l * 8)) + (nI k) = nI ((l * 8) + k) from nI_add (l * 8) k) ?_
        try have q11x := nI_toInt (n := ((l * 8) + k)) (by omega)
        refine wq_ialdn rfl hGp (by first | omega | exact zin_t (by omega) (by omega)) (by decide) rfl ?_
        refine wq_gos (f := 1) (pc2 := 40) (ls2 := [(0, .ref 150), (1, .int (nI b)), (2, .int (nI l)), (3, .int be), (4, .int (nI k))]) (st2 := [.ref 150, .int (gp.getD ((l * 8) + k) 0)]) (h2 := h) (dc2 := dc) (ds2 := ds) 1 rfl ?_
        refine wq_getf rfl hRo rfl rfl ?_
        refine wq_gos (f := 1) (pc2 := 48) (ls2 := [(0, .ref 150), (1, .int (nI b)), (2, .int (nI l)), (3, .int be), (4, .int (nI k))]) (st2 := [.int ((1 : Int32) <<< ((nI k) &&& 31)), .int (nI b), .ref rf, .int (gp.getD ((l * 8) + k) 0)]) (h2 := h) (dc2 := dc) (ds2 := ds) 4 rfl ?_
        refine wq_vi (show ((1 : Int32) <<< ((nI k) &&& 31)) = nI (2 ^ k) from e_shl (k := k) (by omega)) ?_
        refine wq_gos (f := 1) (pc2 := 49) (ls2 := [(0, .ref 150), (1, .int (nI b)), (2, .int (nI l)), (3, .int be), (4, .int (nI k))]) (st2 := [.int ((nI b) ||| (nI (2 ^ k))), .ref rf, .int (gp.getD ((l * 8) + k) 0)]) (h2 := h) (dc2 := dc) (ds2 := ds) 1 rfl ?_
        refine wq_vi (show ((nI b) ||| (nI (2 ^ k))) = nI (b ||| (2 ^ k)) from e_or b (2 ^ k)) ?_
        refine wq_gos (f := 1) (pc2 := 52) (ls2 := [(0, .ref 150), (1, .int (nI b)), (2, .int (nI l)), (3, .int be), (4, .int (nI k))]) (st2 := [.int ((nI (b ||| (2 ^ k))) * (8 : Int32)), .ref rf, .int (gp.getD ((l * 8) + k) 0)]) (h2 := h) (dc2 := dc) (ds2 := ds) 2 rfl ?_
        refine wq_vi (show (nI (b ||| (2 ^ k))) * (8 : Int32) = nI ((b ||| (2 ^ k)) * 8) from e_nmul (b ||| (2 ^ k)) 8) ?_
        refine wq_gos (f := 1) (pc2 := 55) (ls2 := [(0, .ref 150), (1, .int (nI b)), (2, .int (nI l)), (3, .int be), (4, .int (nI k))]) (st2 := [.int ((nI ((b ||| (2 ^ k)) * 8)) + (nI k)), .ref rf, .int (gp.getD ((l * 8) + k) 0)]) (h2 := h) (dc2 := dc) (ds2 := ds) 2 rfl ?_
        refine wq_vi (show (nI ((b ||| (2 ^ k)) * 8)) + (nI k) = nI (((b ||| (2 ^ k)) * 8) + k) from nI_add ((b ||| (2 ^ k)) * 8) k) ?_
        try have q12x := nI_toInt (n := (((b ||| (2 ^ k)) * 8) + k)) (by omega)
        refine wq_ialdn rfl hLf (by first | omega | exact zin_t (by omega) (by omega)) (by omega) rfl ?_
        refine wq_gos (f := 1) (pc2 := 62) (ls2 := [(5, .int ((gp.getD ((l * 8) + k) 0) + (lf.getD (((b ||| (2 ^ k)) * 8) + k) 0))), (0, .ref 150), (1, .int (nI b)), (2, .int (nI l)), (3, .int be), (4, .int (nI k))]) (st2 := [.int ((gp.getD ((l * 8) + k) 0) + (lf.getD (((b ||| (2 ^ k)) * 8) + k) 0)), .int be]) (h2 := h) (dc2 := dc) (ds2 := ds) 4 rfl ?_
        refine wq_inl (y2 := 285) (as := [.int be, .int ((gp.getD ((l * 8) + k) 0) + (lf.getD (((b ||| (2 ^ k)) * 8) + k) 0))]) rfl rfl rfl (wq_T (c_min be ((gp.getD ((l * 8) + k) 0) + (lf.getD (((b ||| (2 ^ k)) * 8) + k) 0)) h) ?_)
        show wq 66 65 [(5, .int ((gp.getD ((l * 8) + k) 0) + (lf.getD (((b ||| (2 ^ k)) * 8) + k) 0))), (0, .ref 150), (1, .int (nI b)), (2, .int (nI l)), (3, .int be), (4, .int (nI k))] [.int (jmin be ((gp.getD ((l * 8) + k) 0) + (lf.getD (((b ||| (2 ^ k)) * 8) + k) 0)))] h dc ds _
        refine wq_gos (f := 1) (pc2 := 69) (ls2 := [(4, .int ((nI k) + 1)), (3, .int (jmin be ((gp.getD ((l * 8) + k) 0) + (lf.getD (((b ||| (2 ^ k)) * 8) + k) 0)))), (5, .int ((gp.getD ((l * 8) + k) 0) + (lf.getD (((b ||| (2 ^ k)) * 8) + k) 0))), (0, .ref 150), (1, .int (nI b)), (2, .int (nI l))]) (st2 := []) (h2 := h) (dc2 := dc) (ds2 := ds) 2 rfl ?_
        rw [nI_1]
        refine wq_gos (f := 1) (pc2 := 6) (ls2 := [(4, .int (nI (k + 1))), (3, .int (jmin be ((gp.getD ((l * 8) + k) 0) + (lf.getD (((b ||| (2 ^ k)) * 8) + k) 0)))), (5, .int ((gp.getD ((l * 8) + k) 0) + (lf.getD (((b ||| (2 ^ k)) * 8) + k) 0))), (0, .ref 150), (1, .int (nI b)), (2, .int (nI l))]) (st2 := []) (h2 := h) (dc2 := dc) (ds2 := ds) 1 rfl ?_
        try have q13x := nI_toInt (n := (k + 1)) (by omega)
        try have q14x : (((gp.getD ((l * 8) + k) 0) + (lf.getD (((b ||| (2 ^ k)) * 8) + k) 0))).toInt = (gp.getD ((l * 8) + k) 0).toInt + (lf.getD (((b ||| (2 ^ k)) * 8) + k) 0).toInt := e_add (by omega) (by omega)
        try have q15x := nI_toInt (n := b) (by omega)
        try have q16x := nI_toInt (n := l) (by omega)
        have hx : (lbF sp gp lf b l (m + 1) be k) = (lbF sp gp lf b l m (jmin be ((gp.getD ((l * 8) + k) 0) + (lf.getD (((b ||| (2 ^ k)) * 8) + k) 0))) (k + 1)) := by show (if _ then _ else _) = _; rw [if_neg (Int.not_le.mpr b3x), if_neg (fun q => q b5x)]
        rw [hx]
        refine wq_ls [(0, .ref 150), (1, .int (nI b)), (2, .int (nI l)), (3, .int (jmin be ((gp.getD ((l * 8) + k) 0) + (lf.getD (((b ||| (2 ^ k)) * 8) + k) 0)))), (4, .int (nI (k + 1)))] (show ([0, 1, 2, 3, 4] : List Nat).Nodup by decide) ⟨rfl, rfl, rfl, rfl, rfl, trivial⟩ ?_
        exact ih (jmin be ((gp.getD ((l * 8) + k) 0) + (lf.getD (((b ||| (2 ^ k)) * 8) + k) 0))) (k + 1) (by first | omega | assumption | decide | solve_by_elim) (by omega) dc ds
set_option maxRecDepth 100000 in
set_option maxHeartbeats 4000000 in
theorem c_lb {h : zH} {ra sp so : Nat} {lk hd ht bl sd : Int32} {rt : Int64} {rf : Nat} {fi9 kn9 fw9 : Int32} {fr9 : Int64} {NL : Nat} {b l : Nat} {gp lf : List Int32} (hRo : zat h 150 = some (.inr (.inr (.inr (5, [.ref 152, .ref ra, .ref 154, .ref rf, .int fi9, .int kn9, .long fr9, .int fw9]))))) (hGp : zat h 154 = some (.inl (0, 64, gp))) (hLf : zat h rf = some (.inl (0, NL, lf))) (hA : zat h ra = some (.inr (.inr (.inr (0, [.int lk, .int hd, .int ht, .int bl, .int sd, .long rt, .ref (ra + 2), .ref (ra + 4), .ref (ra + 6), .int (nI sp), .ref (ra + 8), .ref (ra + 10), .int (nI so), .ref (ra + 12)]))))) (hra : ra = 6 ∨ ra = 20) (hsp : sp ≤ 8) (hNL : 2 ^ sp * 8 ≤ NL ∧ NL ≤ 4096) (hb : b < 2 ^ sp) (hl : l < 8) : wq 66 0 [(0, .ref 150), (1, .int (nI b)), (2, .int (nI l))] [] h 0 0 (fun rr9 => rr9 = (some (.int (lbF sp gp lf b l (sp - 0 + 1) 1000000 0)), h, 0, 0)) := by
  refine wq_gos (f := 1) (pc2 := 6) (ls2 := [(4, .int 0), (3, .int 1000000), (0, .ref 150), (1, .int (nI b)), (2, .int (nI l))]) (st2 := []) (h2 := h) (dc2 := 0) (ds2 := 0) 4 rfl ?_
  try have q1x := nI_toInt (n := b) (by omega)
  try have q2x := nI_toInt (n := l) (by omega)
  refine wq_ls [(0, .ref 150), (1, .int (nI b)), (2, .int (nI l)), (3, .int (1000000 : Int32)), (4, .int (nI 0))] (show ([0, 1, 2, 3, 4] : List Nat).Nodup by decide) ⟨rfl, rfl, rfl, rfl, rfl, trivial⟩ ?_
  refine wq_mono (c_lbL hRo hGp hLf hA (by first | omega | assumption | decide | solve_by_elim) (by first | omega | assumption | decide | solve_by_elim) (by first | omega | assumption | decide | solve_by_elim) (by first | omega | assumption | decide | solve_by_elim) (by first | omega | assumption | decide | solve_by_elim) ((sp - 0) + 1) (1000000 : Int32) 0 (by first | omega | assumption | decide | solve_by_elim) (by omega) 0 0) ?_
  rintro _ rfl
  all_goals exact rfl
noncomputable def foF (sp : Nat) (sv lf : List Int32) (po : List Int64) (b : Nat) (he : Int64) : Nat → Int32 → Nat → Nat → Int32
  | 0, _, _, _ => 0
  | m + 1, be, nx, k => (if (nI sp).toInt ≤ (nI k).toInt then (nI nx) else (if (nI ((b >>> k) % 2)) = (0 : Int32) then (if be.toInt ≤ ((tkF sv he (po.getD k 0) (1000000 : Int32) (6 - 0 + 1) 0 0) + (lf.getD (((b ||| (2 ^ k)) * 8) + k) 0)).toInt then (foF sp sv lf po b he m be nx (k + 1)) else (foF sp sv lf po b he m ((tkF sv he (po.getD k 0) (1000000 : Int32) (6 - 0 + 1) 0 0) + (lf.getD (((b ||| (2 ^ k)) * 8) + k) 0)) k (k + 1))) else (foF sp sv lf po b he m be nx (k + 1))))
set_option maxRecDepth 100000 in
set_option maxHeartbeats 4000000 in
theorem c_foL {ra sp so : Nat} {lk hd ht bl sd : Int32} {rt : Int64} {rf : Nat} {fi9 kn9 fw9 : Int32} {fr9 : Int64} {NL : Nat} {b : Nat} {lf sv : List Int32} {po : List Int64} {he : Int64} (hra : ra = 6 ∨ ra = 20) (hsp : sp ≤ 8) (hNL : 2 ^ sp * 8 ≤ NL ∧ NL ≤ 4096) (hb : b < 2 ^ sp) : ∀ (m : Nat) (be : Int32) (nx : Nat) (k : Nat) (h : zH) , (zat h 150 = some (.inr (.inr (.inr (5, [.ref 152, .ref ra, .ref 154, .ref rf, .int fi9, .int kn9, .long fr9, .int fw9]))))) → (zat h rf = some (.inl (0, NL, lf))) → (zat h ra = some (.inr (.inr (.inr (0, [.int lk, .int hd, .int ht, .int bl, .int sd, .long rt, .ref (ra + 2), .ref (ra + 4), .ref (ra + 6), .int (nI sp), .ref (ra + 8), .ref (ra + 10), .int (nI so), .ref (ra + 12)]))))) → (zat h (ra + 6) = some (.inl (0, 6, sv))) → (zat h (ra + 10) = some (.inr (.inl (8, po)))) → (k ≤ sp ∧ nx < sp) → (sp - k) < m → ∀ (dc ds : Nat), wq 64 10 [(0, .ref 150), (1, .long he), (3, .int (nI b)), (4, .int be), (5, .int (nI nx)), (6, .int (nI k))] [] h dc ds (fun rr9 => ∃ (h2 : zH) , rr9 = (some (Value.int ((foF sp sv lf po b he m be nx k))), h2, dc, ds) ∧ wFr [] h h2 ∧ h2.length = h.length ∧ (∃ w9, ((foF sp sv lf po b he m be nx k)) = nI w9 ∧ w9 < sp)) := by
  intro m
  induction m with
  | zero => intro be nx k h hRo hLf hA hV hQ hk hms dc ds; omega
  | succ m ih =>
    intro be nx k h hRo hLf hA hV hQ hk hms dc ds
    have qnk := nI_toInt (n := k) (by omega)
    have qnsp := nI_toInt (n := sp) (by omega)
    have hp8 := pow8 hsp
    have hsh := shr_le b k
    have hob := orb (k := k) hb
    refine wq_gos (f := 1) (pc2 := 13) (ls2 := [(0, .ref 150), (1, .long he), (3, .int (nI b)), (4, .int be), (5, .int (nI nx)), (6, .int (nI k))]) (st2 := [.ref 150, .int (nI k)]) (h2 := h) (dc2 := dc) (ds2 := ds) 2 rfl ?_
    refine wq_getf rfl hRo rfl rfl ?_
    refine wq_getf rfl hA rfl rfl ?_
    try have q1x := nI_toInt (n := k) (by omega)
    try have q2x := nI_toInt (n := sp) (by omega)
    refine wq_ge2 rfl rfl (fun b3x => ?_) (fun b3x => ?_)
    · refine wq_gos (f := 1) (pc2 := 95) (ls2 := [(0, .ref 150), (1, .long he), (3, .int (nI b)), (4, .int be), (5, .int (nI nx)), (6, .int (nI k))]) (st2 := [.int (nI nx)]) (h2 := h) (dc2 := dc) (ds2 := ds) 1 rfl ?_
      have hx : (foF sp sv lf po b he (m + 1) be nx k) = (nI nx) := by show (if _ then _ else _) = _; rw [if_pos b3x]
      rw [hx]
      exact wq_ret rfl rfl ⟨h, rfl, (wFr_rf _ _), by omega, ⟨nx, rfl, by omega⟩⟩
    · refine wq_gos (f := 1) (pc2 := 26) (ls2 := [(0, .ref 150), (1, .long he), (3, .int (nI b)), (4, .int be), (5, .int (nI nx)), (6, .int (nI k))]) (st2 := [.int (((nI b)).toUInt32 >>> (((nI k)).toUInt32 &&& Int32.toUInt32 31)).toInt32]) (h2 := h) (dc2 := dc) (ds2 := ds) 3 rfl ?_
      refine wq_vi (show (((nI b)).toUInt32 >>> (((nI k)).toUInt32 &&& Int32.toUInt32 31)).toInt32 = nI (b >>> k) from e_ushr (b := b) (k := k) (by omega) (by omega)) ?_
      refine wq_gos (f := 1) (pc2 := 28) (ls2 := [(0, .ref 150), (1, .long he), (3, .int (nI b)), (4, .int be), (5, .int (nI nx)), (6, .int (nI k))]) (st2 := [.int ((nI (b >>> k)) &&& (1 : Int32))]) (h2 := h) (dc2 := dc) (ds2 := ds) 2 rfl ?_
      refine wq_vi (show ((nI (b >>> k)) &&& (1 : Int32)) = nI ((b >>> k) % 2) from e_and1 (b >>> k)) ?_
      try have q4x := nI_toInt (n := ((b >>> k) % 2)) (by omega)
      refine wq_eq0 rfl rfl (fun b5x => ?_) (fun b5x => ?_)
      · have q6x : (nI ((b >>> k) % 2)).toInt = 0 := congrArg Int32.toInt b5x
        refine wq_gos (f := 1) (pc2 := 35) (ls2 := [(0, .ref 150), (1, .long he), (3, .int (nI b)), (4, .int be), (5, .int (nI nx)), (6, .int (nI k))]) (st2 := [.ref 150]) (h2 := h) (dc2 := dc) (ds2 := ds) 1 rfl ?_
        refine wq_getf rfl hRo rfl rfl ?_
        refine wq_gos (f := 1) (pc2 := 40) (ls2 := [(0, .ref 150), (1, .long he), (3, .int (nI b)), (4, .int be), (5, .int (nI nx)), (6, .int (nI k))]) (st2 := [.ref 150, .long he, .ref ra]) (h2 := h) (dc2 := dc) (ds2 := ds) 2 rfl ?_
        refine wq_getf rfl hRo rfl rfl ?_
        refine wq_getf rfl hA rfl rfl ?_
        refine wq_gos (f := 1) (pc2 := 48) (ls2 := [(0, .ref 150), (1, .long he), (3, .int (nI b)), (4, .int be), (5, .int (nI nx)), (6, .int (nI k))]) (st2 := [.int (nI k), .ref (ra + 10), .long he, .ref ra]) (h2 := h) (dc2 := dc) (ds2 := ds) 1 rfl ?_
        refine wq_laldn rfl hQ (by first | omega | exact zin_t (by omega) (by omega)) (by decide) rfl ?_
        refine wq_inlv (y2 := 9) (as := [.long he, .long (po.getD k 0)]) rfl rfl rfl hA rfl (wq_mono (c_tks hA hV) ?_)
        rintro _ rfl
        show wq 64 52 [(0, .ref 150), (1, .long he), (3, .int (nI b)), (4, .int be), (5, .int (nI nx)), (6, .int (nI k))] [.int (tkF sv he (po.getD k 0) (1000000 : Int32) (6 - 0 + 1) 0 0)] h dc ds _
        refine wq_gos (f := 1) (pc2 := 53) (ls2 := [(0, .ref 150), (1, .long he), (3, .int (nI b)), (4, .int be), (5, .int (nI nx)), (6, .int (nI k))]) (st2 := [.ref 150, .int (tkF sv he (po.getD k 0) (1000000 : Int32) (6 - 0 + 1) 0 0)]) (h2 := h) (dc2 := dc) (ds2 := ds) 1 rfl ?_
        refine wq_getf rfl hRo rfl rfl ?_
        refine wq_gos (f := 1) (pc2 := 61) (ls2 := [(0, .ref 150), (1, .long he), (3, .int (nI b)), (4, .int be), (5, .int (nI nx)), (6, .int (nI k))]) (st2 := [.int ((1 : Int32) <<< ((nI k) &&& 31)), .int (nI b), .ref rf, .int (tkF sv he (po.getD k 0) (1000000 : Int32) (6 - 0 + 1) 0 0)]) (h2 := h) (dc2 := dc) (ds2 := ds) 4 rfl ?_
        refine wq_vi (show ((1 : Int32) <<< ((nI k) &&& 31)) = nI (2 ^ k) from e_shl (k := k) (by omega)) ?_
        refine wq_gos (f := 1) (pc2 := 62) (ls2 := [(0, .ref 150), (1, .long he), (3, .int (nI b)), (4, .int be), (5, .int (nI nx)), (6, .int (nI k))]) (st2 := [.int ((nI b) ||| (nI (2 ^ k))), .ref rf, .int (tkF sv he (po.getD k 0) (1000000 : Int32) (6 - 0 + 1) 0 0)]) (h2 := h) (dc2 := dc) (ds2 := ds) 1 rfl ?_
        refine wq_vi (show ((nI b) ||| (nI (2 ^ k))) = nI (b ||| (2 ^ k)) from e_or b (2 ^ k)) ?_
        refine wq_gos (f := 1) (pc2 := 65) (ls2 := [(0, .ref 150), (1, .long he), (3, .int (nI b)), (4, .int be), (5, .int (nI nx)), (6, .int (nI k))]) (st2 := [.int ((nI (b ||| (2 ^ k))) * (8 : Int32)), .ref rf, .int (tkF sv he (po.getD k 0) (1000000 : Int32) (6 - 0 + 1) 0 0)]) (h2 := h) (dc2 := dc) (ds2 := ds) 2 rfl ?_
        refine wq_vi (show (nI (b ||| (2 ^ k))) * (8 : Int32) = nI ((b ||| (2 ^ k)) * 8) from e_nmul (b ||| (2 ^ k)) 8) ?_
        refine wq_gos (f := 1) (pc2 := 68) (ls2 := [(0, .ref 150), (1, .long he), (3, .int (nI b)), (4, .int be), (5, .int (nI nx)), (6, .int (nI k))]) (st2 := [.int ((nI ((b ||| (2 ^ k)) * 8)) + (nI k)), .ref rf, .int (tkF sv he (po.getD k 0) (1000000 : Int32) (6 - 0 + 1) 0 0)]) (h2 := h) (dc2 := dc) (ds2 := ds) 2 rfl ?_
        refine wq_vi (show (nI ((b ||| (2 ^ k)) * 8)) + (nI k) = nI (((b ||| (2 ^ k)) * 8) + k) from nI_add ((b ||| (2 ^ k)) * 8) k) ?_
        try have q8x := nI_toInt (n := (((b ||| (2 ^ k)) * 8) + k)) (by omega)
        refine wq_ialdn rfl hLf (by first | omega | exact zin_t (by omega) (by omega)) (by omega) rfl ?_
        refine wq_gos (f := 1) (pc2 := 76) (ls2 := [(7, .int ((tkF sv he (po.getD k 0) (1000000 : Int32) (6 - 0 + 1) 0 0) + (lf.getD (((b ||| (2 ^ k)) * 8) + k) 0))), (0, .ref 150), (1, .long he), (3, .int (nI b)), (4, .int be), (5, .int (nI nx)), (6, .int (nI k))]) (st2 := [.int be, .int ((tkF sv he (po.getD k 0) (1000000 : Int32) (6 - 0 + 1) 0 0) + (lf.getD (((b ||| (2 ^ k)) * 8) + k) 0))]) (h2 := h) (dc2 := dc) (ds2 := ds) 4 rfl ?_
        try have q9x : (((tkF sv he (po.getD k 0) (1000000 : Int32) (6 - 0 + 1) 0 0) + (lf.getD (((b ||| (2 ^ k)) * 8) + k) 0))).toInt = (tkF sv he (po.getD k 0) (1000000 : Int32) (6 - 0 + 1) 0 0).toInt + (lf.getD (((b ||| (2 ^ k)) * 8) + k) 0).toInt := e_add (by omega) (by omega)
        refine wq_ge2 rfl rfl (fun b10x => ?_) (fun b10x => ?_)
        · refine wq_gos (f := 1) (pc2 := 90) (ls2 := [(6, .int ((nI k) + 1)), (7, .int ((tkF sv he (po.getD k 0) (1000000 : Int32) (6 - 0 + 1) 0 0) + (lf.getD (((b ||| (2 ^ k)) * 8) + k) 0))), (0, .ref 150), (1, .long he), (3, .int (nI b)), (4, .int be), (5, .int (nI nx))]) (st2 := []) (h2 := h) (dc2 := dc) (ds2 := ds) 1 rfl ?_
          rw [nI_1]
          refine wq_gos (f := 1) (pc2 := 10) (ls2 := [(6, .int (nI (k + 1))), (7, .int ((tkF sv he (po.getD k 0) (1000000 : Int32) (6 - 0 + 1) 0 0) + (lf.getD (((b ||| (2 ^ k)) * 8) + k) 0))), (0, .ref 150), (1, .long he), (3, .int (nI b)), (4, .int be), (5, .int (nI nx))]) (st2 := []) (h2 := h) (dc2 := dc) (ds2 := ds) 1 rfl ?_
          try have q11x := nI_toInt (n := (k + 1)) (by omega)
          try have q12x := nI_toInt (n := b) (by omega)
          try have q13x := nI_toInt (n := nx) (by omega)
          have hx : (foF sp sv lf po b he (m + 1) be nx k) = (foF sp sv lf po b he m be nx (k + 1)) := by show (if _ then _ else _) = _; rw [if_neg (Int.not_le.mpr b3x), if_pos b5x, if_pos b10x]
          rw [hx]
          refine wq_ls [(0, .ref 150), (1, .long he), (3, .int (nI b)), (4, .int be), (5, .int (nI nx)), (6, .int (nI (k + 1)))] (show ([0, 1, 3, 4, 5, 6] : List Nat).Nodup by decide) ⟨rfl, rfl, rfl, rfl, rfl, rfl, trivial⟩ ?_
          refine wq_mono (ih be nx (k + 1) h hRo hLf hA hV hQ (by first | omega | assumption | decide | solve_by_elim) (by omega) dc ds) ?_
          rintro _ ⟨h9, rfl, f9, l9, y0⟩
          exact ⟨h9, rfl, wFr_tr (wFr_rf _ _) f9, by omega, y0⟩
        · refine wq_gos (f := 1) (pc2 := 90) (ls2 := [(6, .int ((nI k) + 1)), (5, .int (nI k)), (4, .int ((tkF sv he (po.getD k 0) (1000000 : Int32) (6 - 0 + 1) 0 0) + (lf.getD (((b ||| (2 ^ k)) * 8) + k) 0))), (7, .int ((tkF sv he (po.getD k 0) (1000000 : Int32) (6 - 0 + 1) 0 0) + (lf.getD (((b ||| (2 ^ k)) * 8) + k) 0))), (0, .ref 150), (1, .long he), (3, .int (nI b))]) (st2 := []) (h2 := h) (dc2 := dc) (ds2 := ds) 5 rfl ?_
          rw [nI_1]
          refine wq_gos (f := 1) (pc2 := 10) (ls2 := [(6, .int (nI (k + 1))), (5, .int (nI k)), (4, .int ((tkF sv he (po.getD k 0) (1000000 : Int32) (6 - 0 + 1) 0 0) + (lf.getD (((b ||| (2 ^ k)) * 8) + k) 0))), (7, .int ((tkF sv he (po.getD k 0) (1000000 : Int32) (6 - 0 + 1) 0 0) + (lf.getD (((b ||| (2 ^ k)) * 8) + k) 0))), (0, .ref 150), (1, .long he), (3, .int (nI b))]) (st2 := []) (h2 := h) (dc2 := dc) (ds2 := ds) 1 rfl ?_
          try have q14x := nI_toInt (n := (k + 1)) (by omega)
          try have q15x := nI_toInt (n := b) (by omega)
          have hx : (foF sp sv lf po b he (m + 1) be nx k) = (foF sp sv lf po b he m ((tkF sv he (po.getD k 0) (1000000 : Int32) (6 - 0 + 1) 0 0) + (lf.getD (((b ||| (2 ^ k)) * 8) + k) 0)) k (k + 1)) := by show (if _ then _ else _) = _; rw [if_neg (Int.not_le.mpr b3x), if_pos b5x, if_neg (Int.not_le.mpr b10x)]
          rw [hx]
          refine wq_ls [(0, .ref 150), (1, .long he), (3, .int (nI b)), (4, .int ((tkF sv he (po.getD k 0) (1000000 : Int32) (6 - 0 + 1) 0 0) + (lf.getD (((b ||| (2 ^ k)) * 8) + k) 0))), (5, .int (nI k)), (6, .int (nI (k + 1)))] (show ([0, 1, 3, 4, 5, 6] : List Nat).Nodup by decide) ⟨rfl, rfl, rfl, rfl, rfl, rfl, trivial⟩ ?_
          refine wq_mono (ih ((tkF sv he (po.getD k 0) (1000000 : Int32) (6 - 0 + 1) 0 0) + (lf.getD (((b ||| (2 ^ k)) * 8) + k) 0)) k (k + 1) h hRo hLf hA hV hQ (by first | omega | assumption | decide | solve_by_elim) (by omega) dc ds) ?_
          rintro _ ⟨h9, rfl, f9, l9, y0⟩
          exact ⟨h9, rfl, wFr_tr (wFr_rf _ _) f9, by omega, y0⟩
      · have q16x : (nI ((b >>> k) % 2)).toInt ≠ 0 := fun q => b5x (Int32.toInt_inj.mp q)
        refine wq_gos (f := 1) (pc2 := 90) (ls2 := [(6, .int ((nI k) + 1)), (0, .ref 150), (1, .long he), (3, .int (nI b)), (4, .int be), (5, .int (nI nx))]) (st2 := []) (h2 := h) (dc2 := dc) (ds2 := ds) 2 rfl ?_
        rw [nI_1]
        refine wq_gos (f := 1) (pc2 := 10) (ls2 := [(6, .int (nI (k + 1))), (0, .ref 150), (1, .long he), (3, .int (nI b)), (4, .int be), (5, .int (nI nx))]) (st2 := []) (h2 := h) (dc2 := dc) (ds2 := ds) 1 rfl ?_
        try have q17x := nI_toInt (n := (k + 1)) (by omega)
        try have q18x := nI_toInt (n := b) (by omega)
        try have q19x := nI_toInt (n := nx) (by omega)
        have hx : (foF sp sv lf po b he (m + 1) be nx k) = (foF sp sv lf po b he m be nx (k + 1)) := by show (if _ then _ else _) = _; rw [if_neg (Int.not_le.mpr b3x), if_neg b5x]
        rw [hx]
        refine wq_ls [(0, .ref 150), (1, .long he), (3, .int (nI b)), (4, .int be), (5, .int (nI nx)), (6, .int (nI (k + 1)))] (show ([0, 1, 3, 4, 5, 6] : List Nat).Nodup by decide) ⟨rfl, rfl, rfl, rfl, rfl, rfl, trivial⟩ ?_
        refine wq_mono (ih be nx (k + 1) h hRo hLf hA hV hQ (by first | omega | assumption | decide | solve_by_elim) (by omega) dc ds) ?_
        rintro _ ⟨h9, rfl, f9, l9, y0⟩
        exact ⟨h9, rfl, wFr_tr (wFr_rf _ _) f9, by omega, y0⟩
noncomputable def foN (sp : Nat) (sv lf : List Int32) (po : List Int64) (b : Nat) (he : Int64) : Nat := (foF sp sv lf po b he (sp - 0 + 1) 1000000 0 0).toNatClampNeg
set_option maxRecDepth 100000 in
set_option maxHeartbeats 4000000 in
theorem c_fof {h : zH} {ra sp so : Nat} {lk hd ht bl sd : Int32} {rt : Int64} {rf : Nat} {fi9 kn9 fw9 : Int32} {fr9 : Int64} {NL : Nat} {b : Nat} {lf sv : List Int32} {po : List Int64} {he : Int64} (hRo : zat h 150 = some (.inr (.inr (.inr (5, [.ref 152, .ref ra, .ref 154, .ref rf, .int fi9, .int kn9, .long fr9, .int fw9]))))) (hLf : zat h rf = some (.inl (0, NL, lf))) (hA : zat h ra = some (.inr (.inr (.inr (0, [.int lk, .int hd, .int ht, .int bl, .int sd, .long rt, .ref (ra + 2), .ref (ra + 4), .ref (ra + 6), .int (nI sp), .ref (ra + 8), .ref (ra + 10), .int (nI so), .ref (ra + 12)]))))) (hV : zat h (ra + 6) = some (.inl (0, 6, sv))) (hQ : zat h (ra + 10) = some (.inr (.inl (8, po)))) (hra : ra = 6 ∨ ra = 20) (hsp : sp ≤ 8) (hNL : 2 ^ sp * 8 ≤ NL ∧ NL ≤ 4096) (hb : b < 2 ^ sp) (h1 : 1 ≤ sp) : wq 64 0 [(0, .ref 150), (1, .long he), (3, .int (nI b))] [] h 0 0 (fun rr9 => ∃ (h2 : zH), rr9 = (some (.int (nI (foN sp sv lf po b he))), h2, 0, 0) ∧ wFr [] h h2 ∧ h2.length = h.length ∧ ((foN sp sv lf po b he) < sp)) := by
  refine wq_gos (f := 1) (pc2 := 10) (ls2 := [(6, .int 0), (5, .int 0), (4, .int 1000000), (0, .ref 150), (1, .long he), (3, .int (nI b))]) (st2 := []) (h2 := h) (dc2 := 0) (ds2 := 0) 6 rfl ?_
  try have q1x := nI_toInt (n := b) (by omega)
  refine wq_ls [(0, .ref 150), (1, .long he), (3, .int (nI b)), (4, .int (1000000 : Int32)), (5, .int (nI 0)), (6, .int (nI 0))] (show ([0, 1, 3, 4, 5, 6] : List Nat).Nodup by decide) ⟨rfl, rfl, rfl, rfl, rfl, rfl, trivial⟩ ?_
  refine wq_mono (c_foL (by first | omega | assumption | decide | solve_by_elim) (by first | omega | assumption | decide | solve_by_elim) (by first | omega | assumption | decide | solve_by_elim) (by first | omega | assumption | decide | solve_by_elim) ((sp - 0) + 1) (1000000 : Int32) 0 0 h hRo hLf hA hV hQ (by first | omega | assumption | decide | solve_by_elim) (by omega) 0 0) ?_
  rintro _ ⟨h82x, rfl, f82x, l82x, c02x⟩
  obtain ⟨w9, e9, l9⟩ := c02x
  have e8 : (foN sp sv lf po b he) = w9 := by unfold foN; rw [e9]; exact nI_clamp (by omega)
  exact ⟨h82x, (by rw [e8, e9]), (wFr_sub f82x (by simp)), (by omega), (by omega)⟩
noncomputable def gaI (sp : Nat) (sv : List Int32) (po : List Int64) (a : Nat) : Nat → Nat → List Int32 → List Int32
  | 0, _, gp => gp
  | m + 1, k, gp => (if (nI sp).toInt ≤ (nI k).toInt then gp else (gaI sp sv po a m (k + 1) (zset 0 gp ((a * 8) + k) (tkF sv (po.getD a 0) (po.getD k 0) (1000000 : Int32) (6 - 0 + 1) 0 0))))
set_option maxRecDepth 100000 in
set_option maxHeartbeats 4000000 in
theorem c_gaI {ra sp so : Nat} {lk hd ht bl sd : Int32} {rt : Int64} {rf : Nat} {fi9 kn9 fw9 : Int32} {fr9 : Int64} {S a : Nat} {sv : List Int32} {po : List Int64} (hra : ra = 6 ∨ ra = 20) (hsp : sp ≤ 8) (ha : a < sp) {dc ds : Nat} {Q : zR → Prop} : ∀ (m : Nat) (k : Nat) (gp : List Int32) (h : zH) , (zat h 150 = some (.inr (.inr (.inr (5, [.ref 152, .ref ra, .ref 154, .ref rf, .int fi9, .int kn9, .long fr9, .int fw9]))))) → (zat h ra = some (.inr (.inr (.inr (0, [.int lk, .int hd, .int ht, .int bl, .int sd, .long rt, .ref (ra + 2), .ref (ra + 4), .ref (ra + 6), .int (nI sp), .ref (ra + 8), .ref (ra + 10), .int (nI so), .ref (ra + 12)]))))) → (zat h (ra + 6) = some (.inl (0, 6, sv))) → (zat h (ra + 10) = some (.inr (.inl (8, po)))) → (zat h 154 = some (.inl (0, 64, gp))) → (k ≤ sp) → (sp - k) < m → (∀ (h2 : zH) , (wFr [154] h h2) → (h2.length = h.length) → (zat h2 154 = some (.inl (0, 64, ((gaI sp sv po a m k gp))))) → wq 65 113 [(0, .ref 150), (1, .int (nI S)), (2, .int (nI a))] [] h2 dc ds Q) → wq 65 60 [(0, .ref 150), (1, .int (nI S)), (2, .int (nI a)), (3, .int (nI k))] [] h dc ds Q := by
  intro m
  induction m with
  | zero => intro k gp h hRo hA hV hQ hGp hk hms kk; omega
  | succ m ih =>
    intro k gp h hRo hA hV hQ hGp hk hms kk
    have qnk := nI_toInt (n := k) (by omega)
    have qnsp := nI_toInt (n := sp) (by omega)
    have qna := nI_toInt (n := a) (by omega)
    refine wq_gos (f := 1) (pc2 := 62) (ls2 := [(0, .ref 150), (1, .int (nI S)), (2, .int (nI a)), (3, .int (nI k))]) (st2 := [.ref 150, .int (nI k)]) (h2 := h) (dc2 := dc) (ds2 := ds) 2 rfl ?_
    refine wq_getf rfl hRo rfl rfl ?_
    refine wq_getf rfl hA rfl rfl ?_
    try have q1x := nI_toInt (n := k) (by omega)
    try have q2x := nI_toInt (n := sp) (by omega)
    refine wq_ge2 rfl rfl (fun b3x => ?_) (fun b3x => ?_)
    · have hx : (gaI sp sv po a (m + 1) k gp) = gp := by show (if _ then _ else _) = _; rw [if_pos b3x]
      rw [hx] at kk
      refine wq_ls [(0, .ref 150), (1, .int (nI S)), (2, .int (nI a))] (show ([0, 1, 2] : List Nat).Nodup by decide) ⟨rfl, rfl, rfl, trivial⟩ ?_
      exact kk h (wFr_rf _ _) (by omega) hGp
    · refine wq_gos (f := 1) (pc2 := 72) (ls2 := [(0, .ref 150), (1, .int (nI S)), (2, .int (nI a)), (3, .int (nI k))]) (st2 := [.ref 150]) (h2 := h) (dc2 := dc) (ds2 := ds) 1 rfl ?_
      refine wq_getf rfl hRo rfl rfl ?_
      refine wq_gos (f := 1) (pc2 := 79) (ls2 := [(0, .ref 150), (1, .int (nI S)), (2, .int (nI a)), (3, .int (nI k))]) (st2 := [.int ((nI a) * (8 : Int32)), .ref 154]) (h2 := h) (dc2 := dc) (ds2 := ds) 3 rfl ?_
      refine wq_vi (show (nI a) * (8 : Int32) = nI (a * 8) from e_nmul a 8) ?_
      refine wq_gos (f := 1) (pc2 := 81) (ls2 := [(0, .ref 150), (1, .int (nI S)), (2, .int (nI a)), (3, .int (nI k))]) (st2 := [.int ((nI (a * 8)) + (nI k)), .ref 154]) (h2 := h) (dc2 := dc) (ds2 := ds) 2 rfl ?_
      refine wq_vi (show (nI (a * 8)) + (nI k) = nI ((a * 8) + k) from nI_add (a * 8) k) ?_
      refine wq_gos (f := 1) (pc2 := 82) (ls2 := [(0, .ref 150), (1, .int (nI S)), (2, .int (nI a)), (3, .int (nI k))]) (st2 := [.ref 150, .int (nI ((a * 8) + k)), .ref 154]) (h2 := h) (dc2 := dc) (ds2 := ds) 1 rfl ?_
      refine wq_getf rfl hRo rfl rfl ?_
      refine wq_gos (f := 1) (pc2 := 86) (ls2 := [(0, .ref 150), (1, .int (nI S)), (2, .int (nI a)), (3, .int (nI k))]) (st2 := [.ref 150, .ref ra, .int (nI ((a * 8) + k)), .ref 154]) (h2 := h) (dc2 := dc) (ds2 := ds) 1 rfl ?_
      refine wq_getf rfl hRo rfl rfl ?_
      refine wq_getf rfl hA rfl rfl ?_
      refine wq_gos (f := 1) (pc2 := 93) (ls2 := [(0, .ref 150), (1, .int (nI S)), (2, .int (nI a)), (3, .int (nI k))]) (st2 := [.int (nI a), .ref (ra + 10), .ref ra, .int (nI ((a * 8) + k)), .ref 154]) (h2 := h) (dc2 := dc) (ds2 := ds) 1 rfl ?_
      try have q4x := nI_toInt (n := a) (by omega)
      refine wq_laldn rfl hQ (by first | omega | exact zin_t (by omega) (by omega)) (by decide) rfl ?_
      refine wq_gos (f := 1) (pc2 := 95) (ls2 := [(0, .ref 150), (1, .int (nI S)), (2, .int (nI a)), (3, .int (nI k))]) (st2 := [.ref 150, .long (po.getD a 0), .ref ra, .int (nI ((a * 8) + k)), .ref 154]) (h2 := h) (dc2 := dc) (ds2 := ds) 1 rfl ?_
      refine wq_getf rfl hRo rfl rfl ?_
      refine wq_getf rfl hA rfl rfl ?_
      refine wq_gos (f := 1) (pc2 := 102) (ls2 := [(0, .ref 150), (1, .int (nI S)), (2, .int (nI a)), (3, .int (nI k))]) (st2 := [.int (nI k), .ref (ra + 10), .long (po.getD a 0), .ref ra, .int (nI ((a * 8) + k)), .ref 154]) (h2 := h) (dc2 := dc) (ds2 := ds) 1 rfl ?_
      refine wq_laldn rfl hQ (by first | omega | exact zin_t (by omega) (by omega)) (by decide) rfl ?_
      refine wq_inlv (y2 := 9) (as := [.long (po.getD a 0), .long (po.getD k 0)]) rfl rfl rfl hA rfl (wq_mono (c_tks hA hV) ?_)
      rintro _ rfl
      show wq 65 106 [(0, .ref 150), (1, .int (nI S)), (2, .int (nI a)), (3, .int (nI k))] [.int (tkF sv (po.getD a 0) (po.getD k 0) (1000000 : Int32) (6 - 0 + 1) 0 0), .int (nI ((a * 8) + k)), .ref 154] h dc ds _
      try have q6x := nI_toInt (n := ((a * 8) + k)) (by omega)
      refine wq_iastn rfl hGp (by first | omega | exact zin_t (by omega) (by omega)) (by decide) rfl ?_
      intro h7x e8x f9x l10x
      have e8x : zat h7x 154 = some (.inl (0, 64, (zset 0 gp ((a * 8) + k) (tkF sv (po.getD a 0) (po.getD k 0) (1000000 : Int32) (6 - 0 + 1) 0 0)))) := e8x
      refine wq_gos (f := 1) (pc2 := 110) (ls2 := [(3, .int ((nI k) + 1)), (0, .ref 150), (1, .int (nI S)), (2, .int (nI a))]) (st2 := []) (h2 := h7x) (dc2 := dc) (ds2 := ds) 1 rfl ?_
      rw [nI_1]
      refine wq_gos (f := 1) (pc2 := 60) (ls2 := [(3, .int (nI (k + 1))), (0, .ref 150), (1, .int (nI S)), (2, .int (nI a))]) (st2 := []) (h2 := h7x) (dc2 := dc) (ds2 := ds) 1 rfl ?_
      try have q11x := nI_toInt (n := (k + 1)) (by omega)
      try have q12x := nI_toInt (n := S) (by omega)
      have e13x := (f9x.2 _ _ (wnc (by decide) wn0) hRo)
      have e14x := (f9x.2 _ _ (wnc (by omega) wn0) hA)
      have e15x := (f9x.2 _ _ (wnc (by omega) wn0) hV)
      have e16x := (f9x.2 _ _ (wnc (by omega) wn0) hQ)
      have hx : (gaI sp sv po a (m + 1) k gp) = (gaI sp sv po a m (k + 1) (zset 0 gp ((a * 8) + k) (tkF sv (po.getD a 0) (po.getD k 0) (1000000 : Int32) (6 - 0 + 1) 0 0))) := by show (if _ then _ else _) = _; rw [if_neg (Int.not_le.mpr b3x)]
      rw [hx] at kk
      refine wq_ls [(0, .ref 150), (1, .int (nI S)), (2, .int (nI a)), (3, .int (nI (k + 1)))] (show ([0, 1, 2, 3] : List Nat).Nodup by decide) ⟨rfl, rfl, rfl, rfl, trivial⟩ ?_
      exact ih (k + 1) (zset 0 gp ((a * 8) + k) (tkF sv (po.getD a 0) (po.getD k 0) (1000000 : Int32) (6 - 0 + 1) 0 0)) h7x e13x e14x e15x e16x e8x (by first | omega | assumption | decide | solve_by_elim) (by omega) (fun h9 f9 l9 y0 => kk h9 (wFr_tr (wFr_sub f9x (by simp)) f9) (by omega) y0)
noncomputable def gaO (sp : Nat) (sv : List Int32) (po : List Int64) : Nat → Nat → List Int32 → List Int32
  | 0, _, gp => gp
  | m + 1, a, gp => (if (nI sp).toInt ≤ (nI a).toInt then gp else (zlet (gaI sp sv po a ((sp - 0) + 1) 0 gp) (fun v6x => (gaO sp sv po m (a + 1) (v6x)))))
set_option maxRecDepth 100000 in
set_option maxHeartbeats 4000000 in
theorem c_gaO {ra sp so : Nat} {lk hd ht bl sd : Int32} {rt : Int64} {rf : Nat} {fi9 kn9 fw9 : Int32} {fr9 : Int64} {S : Nat} {sv : List Int32} {po : List Int64} (hra : ra = 6 ∨ ra = 20) (hsp : sp ≤ 8) {dc ds : Nat} {Q : zR → Prop} : ∀ (m : Nat) (a : Nat) (gp : List Int32) (h : zH) , (zat h 150 = some (.inr (.inr (.inr (5, [.ref 152, .ref ra, .ref 154, .ref rf, .int fi9, .int kn9, .long fr9, .int fw9]))))) → (zat h ra = some (.inr (.inr (.inr (0, [.int lk, .int hd, .int ht, .int bl, .int sd, .long rt, .ref (ra + 2), .ref (ra + 4), .ref (ra + 6), .int (nI sp), .ref (ra + 8), .ref (ra + 10), .int (nI so), .ref (ra + 12)]))))) → (zat h (ra + 6) = some (.inl (0, 6, sv))) → (zat h (ra + 10) = some (.inr (.inl (8, po)))) → (zat h 154 = some (.inl (0, 64, gp))) → (a ≤ sp) → (sp - a) < m → (∀ (h2 : zH) , (wFr [154] h h2) → (h2.length = h.length) → (zat h2 154 = some (.inl (0, 64, ((gaO sp sv po m a gp))))) → wq 65 119 [(0, .ref 150), (1, .int (nI S))] [] h2 dc ds Q) → wq 65 47 [(0, .ref 150), (1, .int (nI S)), (2, .int (nI a))] [] h dc ds Q := by
  intro m
  induction m with
  | zero => intro a gp h hRo hA hV hQ hGp ha hms kk; omega
  | succ m ih =>
    intro a gp h hRo hA hV hQ hGp ha hms kk
    have qna := nI_toInt (n := a) (by omega)
    have qnsp := nI_toInt (n := sp) (by omega)
    refine wq_gos (f := 1) (pc2 := 49) (ls2 := [(0, .ref 150), (1, .int (nI S)), (2, .int (nI a))]) (st2 := [.ref 150, .int (nI a)]) (h2 := h) (dc2 := dc) (ds2 := ds) 2 rfl ?_
    refine wq_getf rfl hRo rfl rfl ?_
    refine wq_getf rfl hA rfl rfl ?_
    try have q1x := nI_toInt (n := a) (by omega)
    try have q2x := nI_toInt (n := sp) (by omega)
    refine wq_ge2 rfl rfl (fun b3x => ?_) (fun b3x => ?_)
    · have hx : (gaO sp sv po (m + 1) a gp) = gp := by show (if _ then _ else _) = _; rw [if_pos b3x]
      rw [hx] at kk
      refine wq_ls [(0, .ref 150), (1, .int (nI S))] (show ([0, 1] : List Nat).Nodup by decide) ⟨rfl, rfl, trivial⟩ ?_
      exact kk h (wFr_rf _ _) (by omega) hGp
    · refine wq_gos (f := 1) (pc2 := 60) (ls2 := [(3, .int 0), (0, .ref 150), (1, .int (nI S)), (2, .int (nI a))]) (st2 := []) (h2 := h) (dc2 := dc) (ds2 := ds) 2 rfl ?_
      try have q4x := nI_toInt (n := S) (by omega)
      refine wq_ls [(0, .ref 150), (1, .int (nI S)), (2, .int (nI a)), (3, .int (nI 0))] (show ([0, 1, 2, 3] : List Nat).Nodup by decide) ⟨rfl, rfl, rfl, rfl, trivial⟩ ?_
      refine c_gaI (by first | omega | assumption | decide | solve_by_elim) (by first | omega | assumption | decide | solve_by_elim) (by first | omega | assumption | decide | solve_by_elim) ((sp - 0) + 1) 0 gp h hRo hA hV hQ hGp (by first | omega | assumption | decide | solve_by_elim) (by omega) ?_
      intro h85x f85x l85x c05x
      obtain ⟨v6x, hv7x⟩ : ∃ x, x = (gaI sp sv po a ((sp - 0) + 1) 0 gp) := ⟨_, rfl⟩
      try rw [← hv7x] at c05x
      try rw [← hv7x]
      show wq 65 113 [(0, .ref 150), (1, .int (nI S)), (2, .int (nI a))] [] h85x dc ds _
      refine wq_gos (f := 1) (pc2 := 116) (ls2 := [(2, .int ((nI a) + 1)), (0, .ref 150), (1, .int (nI S))]) (st2 := []) (h2 := h85x) (dc2 := dc) (ds2 := ds) 1 rfl ?_
      rw [nI_1]
      refine wq_gos (f := 1) (pc2 := 47) (ls2 := [(2, .int (nI (a + 1))), (0, .ref 150), (1, .int (nI S))]) (st2 := []) (h2 := h85x) (dc2 := dc) (ds2 := ds) 1 rfl ?_
      try have q8x := nI_toInt (n := (a + 1)) (by omega)
      have e9x := (f85x.2 _ _ (wnc (by decide) wn0) hRo)
      have e10x := (f85x.2 _ _ (wnc (by omega) wn0) hA)
      have e11x := (f85x.2 _ _ (wnc (by omega) wn0) hV)
      have e12x := (f85x.2 _ _ (wnc (by omega) wn0) hQ)
      have hx : (gaO sp sv po (m + 1) a gp) = (gaO sp sv po m (a + 1) (v6x)) := by show (if _ then _ else _) = _; rw [if_neg (Int.not_le.mpr b3x), zlet_eq hv7x]
      rw [hx] at kk
      refine wq_ls [(0, .ref 150), (1, .int (nI S)), (2, .int (nI (a + 1)))] (show ([0, 1, 2] : List Nat).Nodup by decide) ⟨rfl, rfl, rfl, trivial⟩ ?_
      exact ih (a + 1) (v6x) h85x e9x e10x e11x e12x c05x (by first | omega | assumption | decide | solve_by_elim) (by omega) (fun h9 f9 l9 y0 => kk h9 (wFr_tr (wFr_sub f85x (by simp)) f9) (by omega) y0)
noncomputable def flI (sp S : Nat) (gp : List Int32) (b : Nat) : Nat → Nat → List Int32 → List Int32
  | 0, _, lf => lf
  | m + 1, k, lf => (if (nI sp).toInt ≤ (nI k).toInt then lf else (if (nI b) ≠ (nI (S - 1)) then (flI sp S gp b m (k + 1) (zset 0 lf ((b * 8) + k) (lbF sp gp lf b k (sp - 0 + 1) 1000000 0))) else (flI sp S gp b m (k + 1) (zset 0 lf ((b * 8) + k) (0 : Int32)))))
set_option maxRecDepth 100000 in
set_option maxHeartbeats 4000000 in
theorem c_flI {ra sp so : Nat} {lk hd ht bl sd : Int32} {rt : Int64} {rf : Nat} {fi9 kn9 fw9 : Int32} {fr9 : Int64} {NL : Nat} {S b : Nat} {gp : List Int32} (hra : ra = 6 ∨ ra = 20) (hsp : sp ≤ 8) (hNL : 2 ^ sp * 8 ≤ NL ∧ NL ≤ 4096) (hS : S = 2 ^ sp) (hb : b < 2 ^ sp) (hrf : rf = 156 ∨ 234 ≤ rf) {dc ds : Nat} {Q : zR → Prop} : ∀ (m : Nat) (k : Nat) (lf : List Int32) (h : zH) , (zat h 150 = some (.inr (.inr (.inr (5, [.ref 152, .ref ra, .ref 154, .ref rf, .int fi9, .int kn9, .long fr9, .int fw9]))))) → (zat h ra = some (.inr (.inr (.inr (0, [.int lk, .int hd, .int ht, .int bl, .int sd, .long rt, .ref (ra + 2), .ref (ra + 4), .ref (ra + 6), .int (nI sp), .ref (ra + 8), .ref (ra + 10), .int (nI so), .ref (ra + 12)]))))) → (zat h 154 = some (.inl (0, 64, gp))) → (zat h rf = some (.inl (0, NL, lf))) → (k ≤ sp) → (sp - k) < m → (∀ (h2 : zH) , (wFr [rf] h h2) → (h2.length = h.length) → (zat h2 rf = some (.inl (0, NL, ((flI sp S gp b m k lf))))) → wq 65 174 [(0, .ref 150), (1, .int (nI S)), (2, .int (nI b))] [] h2 dc ds Q) → wq 65 129 [(0, .ref 150), (1, .int (nI S)), (2, .int (nI b)), (3, .int (nI k))] [] h dc ds Q := by
  intro m
  induction m with
  | zero => intro k lf h hRo hA hGp hLf hk hms kk; omega
  | succ m ih =>
    intro k lf h hRo hA hGp hLf hk hms kk
    have qnk := nI_toInt (n := k) (by omega)
    have qnsp := nI_toInt (n := sp) (by omega)
    have hp8 := pow8 hsp
    have qS := nI_toInt (n := S) (by omega)
    have qb := nI_toInt (n := b) (by omega)
    refine wq_gos (f := 1) (pc2 := 131) (ls2 := [(0, .ref 150), (1, .int (nI S)), (2, .int (nI b)), (3, .int (nI k))]) (st2 := [.ref 150, .int (nI k)]) (h2 := h) (dc2 := dc) (ds2 := ds) 2 rfl ?_
    refine wq_getf rfl hRo rfl rfl ?_
    refine wq_getf rfl hA rfl rfl ?_
    try have q1x := nI_toInt (n := k) (by omega)
    try have q2x := nI_toInt (n := sp) (by omega)
    refine wq_ge2 rfl rfl (fun b3x => ?_) (fun b3x => ?_)
    · have hx : (flI sp S gp b (m + 1) k lf) = lf := by show (if _ then _ else _) = _; rw [if_pos b3x]
      rw [hx] at kk
      refine wq_ls [(0, .ref 150), (1, .int (nI S)), (2, .int (nI b))] (show ([0, 1, 2] : List Nat).Nodup by decide) ⟨rfl, rfl, rfl, trivial⟩ ?_
      exact kk h (wFr_rf _ _) (by omega) hLf
    · refine wq_gos (f := 1) (pc2 := 141) (ls2 := [(0, .ref 150), (1, .int (nI S)), (2, .int (nI b)), (3, .int (nI k))]) (st2 := [.ref 150]) (h2 := h) (dc2 := dc) (ds2 := ds) 1 rfl ?_
      refine wq_getf rfl hRo rfl rfl ?_
      refine wq_gos (f := 1) (pc2 := 148) (ls2 := [(0, .ref 150), (1, .int (nI S)), (2, .int (nI b)), (3, .int (nI k))]) (st2 := [.int ((nI b) * (8 : Int32)), .ref rf]) (h2 := h) (dc2 := dc) (ds2 := ds) 3 rfl ?_
      refine wq_vi (show (nI b) * (8 : Int32) = nI (b * 8) from e_nmul b 8) ?_
      refine wq_gos (f := 1) (pc2 := 150) (ls2 := [(0, .ref 150), (1, .int (nI S)), (2, .int (nI b)), (3, .int (nI k))]) (st2 := [.int ((nI (b * 8)) + (nI k)), .ref rf]) (h2 := h) (dc2 := dc) (ds2 := ds) 2 rfl ?_
      refine wq_vi (show (nI (b * 8)) + (nI k) = nI ((b * 8) + k) from nI_add (b * 8) k) ?_
      refine wq_gos (f := 1) (pc2 := 154) (ls2 := [(0, .ref 150), (1, .int (nI S)), (2, .int (nI b)), (3, .int (nI k))]) (st2 := [.int ((nI S) - (1 : Int32)), .int (nI b), .int (nI ((b * 8) + k)), .ref rf]) (h2 := h) (dc2 := dc) (ds2 := ds) 4 rfl ?_
      refine wq_vi (nI_predn (a := S) (by omega)) ?_
      try have q4x := nI_toInt (n := b) (by omega)
      try have q5x := nI_toInt (n := (S - 1)) (by omega)
      refine wq_ne2 rfl rfl (fun b6x => ?_) (fun b6x => ?_)
      · have q7x : (nI b).toInt ≠ (nI (S - 1)).toInt := fun q => b6x (Int32.toInt_inj.mp q)
        refine wq_gos (f := 1) (pc2 := 164) (ls2 := [(0, .ref 150), (1, .int (nI S)), (2, .int (nI b)), (3, .int (nI k))]) (st2 := [.int (nI k), .int (nI b), .ref 150, .int (nI ((b * 8) + k)), .ref rf]) (h2 := h) (dc2 := dc) (ds2 := ds) 3 rfl ?_
        refine wq_inlv (y2 := 66) (as := [.int (nI b), .int (nI k)]) rfl rfl rfl hRo rfl (wq_mono (c_lb hRo hGp hLf hA (by first | omega | assumption | decide | solve_by_elim) (by first | omega | assumption | decide | solve_by_elim) (by first | omega | assumption | decide | solve_by_elim) (by first | omega | assumption | decide | solve_by_elim) (by first | omega | assumption | decide | solve_by_elim)) ?_)
        rintro _ rfl
        show wq 65 167 [(0, .ref 150), (1, .int (nI S)), (2, .int (nI b)), (3, .int (nI k))] [.int (lbF sp gp lf b k (sp - 0 + 1) 1000000 0), .int (nI ((b * 8) + k)), .ref rf] h dc ds _
        try have q9x := nI_toInt (n := ((b * 8) + k)) (by omega)
        refine wq_iastn rfl hLf (by first | omega | exact zin_t (by omega) (by omega)) (by omega) rfl ?_
        intro h10x e11x f12x l13x
        have e11x : zat h10x rf = some (.inl (0, NL, (zset 0 lf ((b * 8) + k) (lbF sp gp lf b k (sp - 0 + 1) 1000000 0)))) := e11x
        refine wq_gos (f := 1) (pc2 := 171) (ls2 := [(3, .int ((nI k) + 1)), (0, .ref 150), (1, .int (nI S)), (2, .int (nI b))]) (st2 := []) (h2 := h10x) (dc2 := dc) (ds2 := ds) 1 rfl ?_
        rw [nI_1]
        refine wq_gos (f := 1) (pc2 := 129) (ls2 := [(3, .int (nI (k + 1))), (0, .ref 150), (1, .int (nI S)), (2, .int (nI b))]) (st2 := []) (h2 := h10x) (dc2 := dc) (ds2 := ds) 1 rfl ?_
        try have q14x := nI_toInt (n := (k + 1)) (by omega)
        try have q15x := nI_toInt (n := S) (by omega)
        have e16x := (f12x.2 _ _ (wnc (by omega) wn0) hRo)
        have e17x := (f12x.2 _ _ (wnc (by omega) wn0) hA)
        have e18x := (f12x.2 _ _ (wnc (by omega) wn0) hGp)
        have hx : (flI sp S gp b (m + 1) k lf) = (flI sp S gp b m (k + 1) (zset 0 lf ((b * 8) + k) (lbF sp gp lf b k (sp - 0 + 1) 1000000 0))) := by show (if _ then _ else _) = _; rw [if_neg (Int.not_le.mpr b3x), if_pos b6x]
        rw [hx] at kk
        refine wq_ls [(0, .ref 150), (1, .int (nI S)), (2, .int (nI b)), (3, .int (nI (k + 1)))] (show ([0, 1, 2, 3] : List Nat).Nodup by decide) ⟨rfl, rfl, rfl, rfl, trivial⟩ ?_
        exact ih (k + 1) (zset 0 lf ((b * 8) + k) (lbF sp gp lf b k (sp - 0 + 1) 1000000 0)) h10x e16x e17x e18x e11x (by first | omega | assumption | decide | solve_by_elim) (by omega) (fun h9 f9 l9 y0 => kk h9 (wFr_tr (wFr_sub f12x (by simp)) f9) (by omega) y0)
      · have q19x : (nI b).toInt = (nI (S - 1)).toInt := congrArg Int32.toInt b6x
        refine wq_gos (f := 1) (pc2 := 167) (ls2 := [(0, .ref 150), (1, .int (nI S)), (2, .int (nI b)), (3, .int (nI k))]) (st2 := [.int 0, .int (nI ((b * 8) + k)), .ref rf]) (h2 := h) (dc2 := dc) (ds2 := ds) 2 rfl ?_
        try have q20x := nI_toInt (n := ((b * 8) + k)) (by omega)
        refine wq_iastn rfl hLf (by first | omega | exact zin_t (by omega) (by omega)) (by omega) rfl ?_
        intro h21x e22x f23x l24x
        have e22x : zat h21x rf = some (.inl (0, NL, (zset 0 lf ((b * 8) + k) (0 : Int32)))) := e22x
        refine wq_gos (f := 1) (pc2 := 171) (ls2 := [(3, .int ((nI k) + 1)), (0, .ref 150), (1, .int (nI S)), (2, .int (nI b))]) (st2 := []) (h2 := h21x) (dc2 := dc) (ds2 := ds) 1 rfl ?_
        rw [nI_1]
        refine wq_gos (f := 1) (pc2 := 129) (ls2 := [(3, .int (nI (k + 1))), (0, .ref 150), (1, .int (nI S)), (2, .int (nI b))]) (st2 := []) (h2 := h21x) (dc2 := dc) (ds2 := ds) 1 rfl ?_
        try have q25x := nI_toInt (n := (k + 1)) (by omega)
        try have q26x := nI_toInt (n := S) (by omega)
        have e27x := (f23x.2 _ _ (wnc (by omega) wn0) hRo)
        have e28x := (f23x.2 _ _ (wnc (by omega) wn0) hA)
        have e29x := (f23x.2 _ _ (wnc (by omega) wn0) hGp)
        have hx : (flI sp S gp b (m + 1) k lf) = (flI sp S gp b m (k + 1) (zset 0 lf ((b * 8) + k) (0 : Int32))) := by show (if _ then _ else _) = _; rw [if_neg (Int.not_le.mpr b3x), if_neg (fun q => q b6x)]
        rw [hx] at kk
        refine wq_ls [(0, .ref 150), (1, .int (nI S)), (2, .int (nI b)), (3, .int (nI (k + 1)))] (show ([0, 1, 2, 3] : List Nat).Nodup by decide) ⟨rfl, rfl, rfl, rfl, trivial⟩ ?_
        exact ih (k + 1) (zset 0 lf ((b * 8) + k) (0 : Int32)) h21x e27x e28x e29x e22x (by first | omega | assumption | decide | solve_by_elim) (by omega) (fun h9 f9 l9 y0 => kk h9 (wFr_tr (wFr_sub f23x (by simp)) f9) (by omega) y0)
noncomputable def flO (sp S : Nat) (gp : List Int32) : Nat → Nat → List Int32 → List Int32
  | 0, _, lf => lf
  | m + 1, b, lf => (if (nI b).toInt ≤ 0 then lf else (zlet (flI sp S gp b ((sp - 0) + 1) 0 lf) (fun v5x => (flO sp S gp m (b - 1) (v5x)))))
set_option maxRecDepth 100000 in
set_option maxHeartbeats 4000000 in
theorem c_flO {ra sp so : Nat} {lk hd ht bl sd : Int32} {rt : Int64} {rf : Nat} {fi9 kn9 fw9 : Int32} {fr9 : Int64} {NL : Nat} {S : Nat} {gp : List Int32} (hra : ra = 6 ∨ ra = 20) (hsp : sp ≤ 8) (hNL : 2 ^ sp * 8 ≤ NL ∧ NL ≤ 4096) (hS : S = 2 ^ sp) (hrf : rf = 156 ∨ 234 ≤ rf) {dc ds : Nat} {Q : zR → Prop} : ∀ (m : Nat) (b : Nat) (lf : List Int32) (h : zH) , (zat h 150 = some (.inr (.inr (.inr (5, [.ref 152, .ref ra, .ref 154, .ref rf, .int fi9, .int kn9, .long fr9, .int fw9]))))) → (zat h ra = some (.inr (.inr (.inr (0, [.int lk, .int hd, .int ht, .int bl, .int sd, .long rt, .ref (ra + 2), .ref (ra + 4), .ref (ra + 6), .int (nI sp), .ref (ra + 8), .ref (ra + 10), .int (nI so), .ref (ra + 12)]))))) → (zat h 154 = some (.inl (0, 64, gp))) → (zat h rf = some (.inl (0, NL, lf))) → (b < 2 ^ sp) → b < m → (∀ (h2 : zH) , (wFr [rf] h h2) → (h2.length = h.length) → (zat h2 rf = some (.inl (0, NL, ((flO sp S gp m b lf))))) → wq 65 180 [(0, .ref 150)] [] h2 dc ds Q) → wq 65 123 [(0, .ref 150), (1, .int (nI S)), (2, .int (nI b))] [] h dc ds Q := by
  intro m
  induction m with
  | zero => intro b lf h hRo hA hGp hLf hb hms kk; omega
  | succ m ih =>
    intro b lf h hRo hA hGp hLf hb hms kk
    have hp8 := pow8 hsp
    have qb := nI_toInt (n := b) (by omega)
    have z0 : (0 : Int32).toInt = 0 := rfl
    refine wq_gos (f := 1) (pc2 := 124) (ls2 := [(0, .ref 150), (1, .int (nI S)), (2, .int (nI b))]) (st2 := [.int (nI b)]) (h2 := h) (dc2 := dc) (ds2 := ds) 1 rfl ?_
    try have q1x := nI_toInt (n := b) (by omega)
    refine wq_le0 rfl rfl (fun b2x => ?_) (fun b2x => ?_)
    · have hx : (flO sp S gp (m + 1) b lf) = lf := by show (if _ then _ else _) = _; rw [if_pos b2x]
      rw [hx] at kk
      refine wq_ls [(0, .ref 150)] (show ([0] : List Nat).Nodup by decide) ⟨rfl, trivial⟩ ?_
      exact kk h (wFr_rf _ _) (by omega) hLf
    · refine wq_gos (f := 1) (pc2 := 129) (ls2 := [(3, .int 0), (0, .ref 150), (1, .int (nI S)), (2, .int (nI b))]) (st2 := []) (h2 := h) (dc2 := dc) (ds2 := ds) 2 rfl ?_
      try have q3x := nI_toInt (n := S) (by omega)
      refine wq_ls [(0, .ref 150), (1, .int (nI S)), (2, .int (nI b)), (3, .int (nI 0))] (show ([0, 1, 2, 3] : List Nat).Nodup by decide) ⟨rfl, rfl, rfl, rfl, trivial⟩ ?_
      refine c_flI (by first | omega | assumption | decide | solve_by_elim) (by first | omega | assumption | decide | solve_by_elim) (by first | omega | assumption | decide | solve_by_elim) (by first | omega | assumption | decide | solve_by_elim) (by first | omega | assumption | decide | solve_by_elim) (by first | omega | assumption | decide | solve_by_elim) ((sp - 0) + 1) 0 lf h hRo hA hGp hLf (by first | omega | assumption | decide | solve_by_elim) (by omega) ?_
      intro h84x f84x l84x c04x
      obtain ⟨v5x, hv6x⟩ : ∃ x, x = (flI sp S gp b ((sp - 0) + 1) 0 lf) := ⟨_, rfl⟩
      try rw [← hv6x] at c04x
      try rw [← hv6x]
      show wq 65 174 [(0, .ref 150), (1, .int (nI S)), (2, .int (nI b))] [] h84x dc ds _
      refine wq_gos (f := 1) (pc2 := 177) (ls2 := [(2, .int ((nI b) + (-1))), (0, .ref 150), (1, .int (nI S))]) (st2 := []) (h2 := h84x) (dc2 := dc) (ds2 := ds) 1 rfl ?_
      rw [show ((nI b) + (-1)) = nI (b - 1) from nI_dec (by omega)]
      refine wq_gos (f := 1) (pc2 := 123) (ls2 := [(2, .int (nI (b - 1))), (0, .ref 150), (1, .int (nI S))]) (st2 := []) (h2 := h84x) (dc2 := dc) (ds2 := ds) 1 rfl ?_
      try have q7x := nI_toInt (n := (b - 1)) (by omega)
      have e8x := (f84x.2 _ _ (wnc (by omega) wn0) hRo)
      have e9x := (f84x.2 _ _ (wnc (by omega) wn0) hA)
      have e10x := (f84x.2 _ _ (wnc (by omega) wn0) hGp)
      have hx : (flO sp S gp (m + 1) b lf) = (flO sp S gp m (b - 1) (v5x)) := by show (if _ then _ else _) = _; rw [if_neg (Int.not_le.mpr b2x), zlet_eq hv6x]
      rw [hx] at kk
      refine wq_ls [(0, .ref 150), (1, .int (nI S)), (2, .int (nI (b - 1)))] (show ([0, 1, 2] : List Nat).Nodup by decide) ⟨rfl, rfl, rfl, trivial⟩ ?_
      exact ih (b - 1) (v5x) h84x e8x e9x e10x c04x (by first | omega | assumption | decide | solve_by_elim) (by omega) (fun h9 f9 l9 y0 => kk h9 (wFr_tr (wFr_sub f84x (by simp)) f9) (by omega) y0)
noncomputable def wFil (sp : Nat) (sv : List Int32) (po : List Int64) (gp lf : List Int32) : Prop := ∃ gp0 lf0, gp = gaO sp sv po (sp - 0 + 1) 0 gp0 ∧ lf = flO sp (2 ^ sp) gp (2 ^ sp - 1 + 1) (2 ^ sp - 1) lf0
noncomputable def wPw (n : Nat) : Prop := n = 0 ∨ ∃ k, n = 2 ^ k * 8
theorem wPw_2 {n s : Nat} (h : wPw n) (hs : n < 2 ^ s * 8) : 2 * n ≤ 2 ^ s * 8 := by
  rcases h with h | ⟨k, h⟩
  · omega
  · have hk : k < s := by
      apply Nat.lt_of_not_le
      intro q
      have := Nat.pow_le_pow_right (n := 2) (by decide) q
      omega
    have h2 := Nat.pow_le_pow_right (n := 2) (by decide) (show k + 1 ≤ s by omega)
    rw [Nat.pow_succ] at h2
    omega
set_option maxRecDepth 100000 in
set_option maxHeartbeats 4000000 in
theorem c_fil {h : zH} {ra sp so : Nat} {lk hd ht bl sd : Int32} {rt : Int64} {rf : Nat} {fi9 kn9 fw9 : Int32} {fr9 : Int64} {NL : Nat} {sv : List Int32} {po : List Int64} {gp lf : List Int32} (hRo : zat h 150 = some (.inr (.inr (.inr (5, [.ref 152, .ref ra, .ref 154, .ref rf, .int fi9, .int kn9, .long fr9, .int fw9]))))) (hA : zat h ra = some (.inr (.inr (.inr (0, [.int lk, .int hd, .int ht, .int bl, .int sd, .long rt, .ref (ra + 2), .ref (ra + 4), .ref (ra + 6), .int (nI sp), .ref (ra + 8), .ref (ra + 10), .int (nI so), .ref (ra + 12)]))))) (hV : zat h (ra + 6) = some (.inl (0, 6, sv))) (hQ : zat h (ra + 10) = some (.inr (.inl (8, po)))) (hGp : zat h 154 = some (.inl (0, 64, gp))) (hLf : zat h rf = some (.inl (0, NL, lf))) (hra : ra = 6 ∨ ra = 20) (hsp : sp ≤ 8) (hfi : fi9 = 0) (hNL : wPw NL ∧ NL ≤ 4096) (hrf : rf = 156 ∨ 234 ≤ rf) (hlen : 117 ≤ h.length) : wq 65 0 [(0, .ref 150)] [] h 0 0 (fun rr9 => ∃ (h2 : zH) (rf2 : Nat) (NL2 : Nat) (gp2 : List Int32) (lf2 : List Int32) (d9 s9 : Nat), rr9 = (none, h2, d9, s9) ∧ wFr [150, 154, rf] h h2 ∧ h.length ≤ h2.length ∧ zat h2 150 = some (.inr (.inr (.inr (5, [.ref 152, .ref ra, .ref 154, .ref rf2, .int 1, .int kn9, .long fr9, .int fw9])))) ∧ zat h2 154 = some (.inl (0, 64, gp2)) ∧ zat h2 rf2 = some (.inl (0, NL2, lf2)) ∧ (wFil sp sv po gp2 lf2) ∧ (2 ^ sp * 8 ≤ NL2) ∧ (NL2 ≤ 4096) ∧ (wPw NL2) ∧ (rf2 = rf ∨ 2 * h.length ≤ rf2) ∧ (NL ≤ NL2) ∧ (d9 + NL ≤ NL2) ∧ (s9 + 2 * NL ≤ 2 * NL2)) := by
  have qnsp := nI_toInt (n := sp) (by omega)
  have hp8 := pow8 hsp
  have qp := nI_toInt (n := 2 ^ sp * 8) (by omega)
  have qN := nI_toInt (n := NL) (by omega)
  have hpp : 1 ≤ 2 ^ sp := Nat.one_le_two_pow
  have hgr := wPw_2 (s := sp) hNL.1
  have zg := zat_lt hRo
  refine wq_gos (f := 1) (pc2 := 1) (ls2 := [(0, .ref 150)]) (st2 := [.ref 150]) (h2 := h) (dc2 := 0) (ds2 := 0) 1 rfl ?_
  refine wq_getf rfl hRo rfl rfl ?_
  refine wq_eq0t rfl hfi ?_
  refine wq_gos (f := 1) (pc2 := 10) (ls2 := [(0, .ref 150)]) (st2 := [.int 1, .ref 150]) (h2 := h) (dc2 := 0) (ds2 := 0) 2 rfl ?_
  refine wq_putf rfl hRo rfl rfl rfl ?_
  intro h1x e2x f3x l4x
  have e2x : zat h1x 150 = some (.inr (.inr (.inr (5, [.ref 152, .ref ra, .ref 154, .ref rf, .int 1, .int kn9, .long fr9, .int fw9])))) := e2x
  refine wq_gos (f := 1) (pc2 := 15) (ls2 := [(0, .ref 150)]) (st2 := [.ref 150, .int 1]) (h2 := h1x) (dc2 := 0) (ds2 := 0) 2 rfl ?_
  refine wq_getf rfl e2x rfl rfl ?_
  have e5x := (f3x.2 _ _ (wnc (by omega) wn0) hA)
  refine wq_getf rfl e5x rfl rfl ?_
  refine wq_gos (f := 1) (pc2 := 22) (ls2 := [(0, .ref 150)]) (st2 := [.int ((1 : Int32) <<< ((nI sp) &&& 31))]) (h2 := h1x) (dc2 := 0) (ds2 := 0) 1 rfl ?_
  refine wq_vi (show ((1 : Int32) <<< ((nI sp) &&& 31)) = nI (2 ^ sp) from e_shl (k := sp) (by omega)) ?_
  refine wq_gos (f := 1) (pc2 := 24) (ls2 := [(1, .int (nI (2 ^ sp))), (0, .ref 150)]) (st2 := [.ref 150]) (h2 := h1x) (dc2 := 0) (ds2 := 0) 2 rfl ?_
  refine wq_getf rfl e2x rfl rfl ?_
  have e6x := (f3x.2 _ _ (wnc (by omega) wn0) hLf)
  refine wq_alen rfl e6x rfl ?_
  refine wq_gos (f := 1) (pc2 := 32) (ls2 := [(1, .int (nI (2 ^ sp))), (0, .ref 150)]) (st2 := [.int ((nI (2 ^ sp)) * (8 : Int32)), .int (nI NL)]) (h2 := h1x) (dc2 := 0) (ds2 := 0) 3 rfl ?_
  refine wq_vi (show (nI (2 ^ sp)) * (8 : Int32) = nI ((2 ^ sp) * 8) from e_nmul (2 ^ sp) 8) ?_
  try have q7x := nI_toInt (n := NL) (by omega)
  try have q8x := nI_toInt (n := ((2 ^ sp) * 8)) (by omega)
  refine wq_ge2 rfl rfl (fun b9x => ?_) (fun b9x => ?_)
  · refine wq_gos (f := 1) (pc2 := 47) (ls2 := [(2, .int 0), (1, .int (nI (2 ^ sp))), (0, .ref 150)]) (st2 := []) (h2 := h1x) (dc2 := 0) (ds2 := 0) 2 rfl ?_
    try have q10x := nI_toInt (n := (2 ^ sp)) (by omega)
    have e11x := (f3x.2 _ _ (wnc (by omega) wn0) hV)
    have e12x := (f3x.2 _ _ (wnc (by omega) wn0) hQ)
    have e13x := (f3x.2 _ _ (wnc (by decide) wn0) hGp)
    refine wq_ls [(0, .ref 150), (1, .int (nI (2 ^ sp))), (2, .int (nI 0))] (show ([0, 1, 2] : List Nat).Nodup by decide) ⟨rfl, rfl, rfl, trivial⟩ ?_
    refine c_gaO (by first | omega | assumption | decide | solve_by_elim) (by first | omega | assumption | decide | solve_by_elim) ((sp - 0) + 1) 0 gp h1x e2x e5x e11x e12x e13x (by first | omega | assumption | decide | solve_by_elim) (by omega) ?_
    intro h814x f814x l814x c014x
    obtain ⟨v15x, hv16x⟩ : ∃ x, x = (gaO sp sv po ((sp - 0) + 1) 0 gp) := ⟨_, rfl⟩
    try rw [← hv16x] at c014x
    try rw [← hv16x]
    show wq 65 119 [(0, .ref 150), (1, .int (nI (2 ^ sp)))] [] h814x 0 0 _
    refine wq_gos (f := 1) (pc2 := 122) (ls2 := [(0, .ref 150), (1, .int (nI (2 ^ sp)))]) (st2 := [.int ((nI (2 ^ sp)) - (1 : Int32))]) (h2 := h814x) (dc2 := 0) (ds2 := 0) 3 rfl ?_
    refine wq_vi (nI_predn (a := (2 ^ sp)) (by omega)) ?_
    refine wq_gos (f := 1) (pc2 := 123) (ls2 := [(2, .int (nI ((2 ^ sp) - 1))), (0, .ref 150), (1, .int (nI (2 ^ sp)))]) (st2 := []) (h2 := h814x) (dc2 := 0) (ds2 := 0) 1 rfl ?_
    try have q17x := nI_toInt (n := ((2 ^ sp) - 1)) (by omega)
    have e18x := (f814x.2 _ _ (wnc (by decide) wn0) e2x)
    have e19x := (f814x.2 _ _ (wnc (by omega) wn0) e5x)
    have e20x := (f814x.2 _ _ (wnc (by omega) wn0) e6x)
    refine wq_ls [(0, .ref 150), (1, .int (nI (2 ^ sp))), (2, .int (nI ((2 ^ sp) - 1)))] (show ([0, 1, 2] : List Nat).Nodup by decide) ⟨rfl, rfl, rfl, trivial⟩ ?_
    refine c_flO (by first | omega | assumption | decide | solve_by_elim) (by first | omega | assumption | decide | solve_by_elim) (by first | omega | assumption | decide | solve_by_elim) rfl (by first | omega | assumption | decide | solve_by_elim) (((2 ^ sp) - 1) + 1) ((2 ^ sp) - 1) lf h814x e18x e19x c014x e20x (by first | omega | assumption | decide | solve_by_elim) (by omega) ?_
    intro h821x f821x l821x c021x
    obtain ⟨v22x, hv23x⟩ : ∃ x, x = (flO sp (2 ^ sp) (v15x) (((2 ^ sp) - 1) + 1) ((2 ^ sp) - 1) lf) := ⟨_, rfl⟩
    try rw [← hv23x] at c021x
    try rw [← hv23x]
    show wq 65 180 [(0, .ref 150)] [] h821x 0 0 _
    have e24x := (f821x.2 _ _ (wnc (by omega) wn0) e18x)
    have e25x := (f821x.2 _ _ (wnc (by omega) wn0) c014x)
    subst hv16x
    subst hv23x
    exact wq_ret rfl rfl ⟨h821x, rf, NL, ((gaO sp sv po ((sp - 0) + 1) 0 gp)), ((flO sp (2 ^ sp) ((gaO sp sv po ((sp - 0) + 1) 0 gp)) (((2 ^ sp) - 1) + 1) ((2 ^ sp) - 1) lf)), 0, 0, rfl, (wFr_tr (wFr_sub f3x (by simp)) (wFr_tr (wFr_sub f814x (by simp)) (wFr_sub f821x (by simp)))), (by omega), e24x, e25x, c021x, ⟨_, _, rfl, rfl⟩, (by first | omega | assumption | decide | solve_by_elim), (by first | omega | assumption | decide | solve_by_elim), (by first | exact hNL.1 | exact Or.inr ⟨sp, rfl⟩), (by first | omega | assumption | decide | solve_by_elim), (by first | omega | assumption | decide | solve_by_elim), (by first | omega | assumption | decide | solve_by_elim), (by first | omega | assumption | decide | solve_by_elim)⟩
  · refine wq_gos (f := 1) (pc2 := 40) (ls2 := [(1, .int (nI (2 ^ sp))), (0, .ref 150)]) (st2 := [.int ((nI (2 ^ sp)) * (8 : Int32)), .ref 150]) (h2 := h1x) (dc2 := 0) (ds2 := 0) 4 rfl ?_
    refine wq_vi (show (nI (2 ^ sp)) * (8 : Int32) = nI ((2 ^ sp) * 8) from e_nmul (2 ^ sp) 8) ?_
    refine wq_newin rfl (by omega) rfl ?_
    intro h26x e27x f28x l29x
    have e30x := (f28x.2 _ _ wn0 e2x)
    refine wq_putf rfl e30x rfl rfl rfl ?_
    intro h31x e32x f33x l34x
    have e32x : zat h31x 150 = some (.inr (.inr (.inr (5, [.ref 152, .ref ra, .ref 154, .ref (2 * h1x.length), .int 1, .int kn9, .long fr9, .int fw9])))) := e32x
    refine wq_gos (f := 1) (pc2 := 47) (ls2 := [(2, .int 0), (1, .int (nI (2 ^ sp))), (0, .ref 150)]) (st2 := []) (h2 := h31x) (dc2 := (0 + 1)) (ds2 := (0 + ((2 ^ sp) * 8))) 2 rfl ?_
    try have q35x := nI_toInt (n := (2 ^ sp)) (by omega)
    have e36x := (f33x.2 _ _ (wnc (by omega) wn0) (f28x.2 _ _ wn0 e5x))
    have e37x := (f33x.2 _ _ (wnc (by omega) wn0) (f28x.2 _ _ wn0 (f3x.2 _ _ (wnc (by omega) wn0) hV)))
    have e38x := (f33x.2 _ _ (wnc (by omega) wn0) (f28x.2 _ _ wn0 (f3x.2 _ _ (wnc (by omega) wn0) hQ)))
    have e39x := (f33x.2 _ _ (wnc (by decide) wn0) (f28x.2 _ _ wn0 (f3x.2 _ _ (wnc (by decide) wn0) hGp)))
    refine wq_ls [(0, .ref 150), (1, .int (nI (2 ^ sp))), (2, .int (nI 0))] (show ([0, 1, 2] : List Nat).Nodup by decide) ⟨rfl, rfl, rfl, trivial⟩ ?_
    refine c_gaO (by first | omega | assumption | decide | solve_by_elim) (by first | omega | assumption | decide | solve_by_elim) ((sp - 0) + 1) 0 gp h31x e32x e36x e37x e38x e39x (by first | omega | assumption | decide | solve_by_elim) (by omega) ?_
    intro h840x f840x l840x c040x
    obtain ⟨v41x, hv42x⟩ : ∃ x, x = (gaO sp sv po ((sp - 0) + 1) 0 gp) := ⟨_, rfl⟩
    try rw [← hv42x] at c040x
    try rw [← hv42x]
    show wq 65 119 [(0, .ref 150), (1, .int (nI (2 ^ sp)))] [] h840x (0 + 1) (0 + ((2 ^ sp) * 8)) _
    refine wq_gos (f := 1) (pc2 := 122) (ls2 := [(0, .ref 150), (1, .int (nI (2 ^ sp)))]) (st2 := [.int ((nI (2 ^ sp)) - (1 : Int32))]) (h2 := h840x) (dc2 := (0 + 1)) (ds2 := (0 + ((2 ^ sp) * 8))) 3 rfl ?_
    refine wq_vi (nI_predn (a := (2 ^ sp)) (by omega)) ?_
    refine wq_gos (f := 1) (pc2 := 123) (ls2 := [(2, .int (nI ((2 ^ sp) - 1))), (0, .ref 150), (1, .int (nI (2 ^ sp)))]) (st2 := []) (h2 := h840x) (dc2 := (0 + 1)) (ds2 := (0 + ((2 ^ sp) * 8))) 1 rfl ?_
    try have q43x := nI_toInt (n := ((2 ^ sp) - 1)) (by omega)
    have e44x := (f840x.2 _ _ (wnc (by decide) wn0) e32x)
    have e45x := (f840x.2 _ _ (wnc (by omega) wn0) e36x)
    have e46x := (f840x.2 _ _ (wnc (by omega) wn0) (f33x.2 _ _ (wnc (by omega) wn0) e27x))
    refine wq_ls [(0, .ref 150), (1, .int (nI (2 ^ sp))), (2, .int (nI ((2 ^ sp) - 1)))] (show ([0, 1, 2] : List Nat).Nodup by decide) ⟨rfl, rfl, rfl, trivial⟩ ?_
    refine c_flO (by first | omega | assumption | decide | solve_by_elim) (by first | omega | assumption | decide | solve_by_elim) (by first | omega | assumption | decide | solve_by_elim) rfl (by first | omega | assumption | decide | solve_by_elim) (((2 ^ sp) - 1) + 1) ((2 ^ sp) - 1) [] h840x e44x e45x c040x e46x (by first | omega | assumption | decide | solve_by_elim) (by omega) ?_
    intro h847x f847x l847x c047x
    obtain ⟨v48x, hv49x⟩ : ∃ x, x = (flO sp (2 ^ sp) (v41x) (((2 ^ sp) - 1) + 1) ((2 ^ sp) - 1) []) := ⟨_, rfl⟩
    try rw [← hv49x] at c047x
    try rw [← hv49x]
    show wq 65 180 [(0, .ref 150)] [] h847x (0 + 1) (0 + ((2 ^ sp) * 8)) _
    have e50x := (f847x.2 _ _ (wnc (by omega) wn0) e44x)
    have e51x := (f847x.2 _ _ (wnc (by omega) wn0) c040x)
    subst hv42x
    subst hv49x
    exact wq_ret rfl rfl ⟨h847x, (2 * h1x.length), ((2 ^ sp) * 8), ((gaO sp sv po ((sp - 0) + 1) 0 gp)), ((flO sp (2 ^ sp) ((gaO sp sv po ((sp - 0) + 1) 0 gp)) (((2 ^ sp) - 1) + 1) ((2 ^ sp) - 1) [])), (0 + 1), (0 + ((2 ^ sp) * 8)), rfl, (wFr_gen (wFr_tr (wFr_tr (wFr_tr (wFr_tr (wFr_rf _ _) (wFr_sub f3x (by simp))) (wFr_sub f28x (by simp))) (wFr_sub f33x (by simp))) (wFr_sub f840x (by simp))) f847x (by intro q hq; simp only [List.mem_cons, List.not_mem_nil, or_false] at hq ⊢; omega)), (by omega), e50x, e51x, c047x, ⟨_, _, rfl, rfl⟩, (by first | omega | assumption | decide | solve_by_elim), (by first | omega | assumption | decide | solve_by_elim), (by first | exact hNL.1 | exact Or.inr ⟨sp, rfl⟩), (by first | omega | assumption | decide | solve_by_elim), (by first | omega | assumption | decide | solve_by_elim), (by first | omega | assumption | decide | solve_by_elim), (by first | omega | assumption | decide | solve_by_elim)⟩
noncomputable def orF (sp : Nat) (sv lf : List Int32) (po : List Int64) : Nat → Nat → Nat → Int64 → Int32 → List Int32 → Int32 × List Int32
  | 0, _, _, _, fw9, vi => (fw9, vi)
  | m + 1, i, b, he, fw9, vi => (if (nI sp).toInt ≤ (nI i).toInt then (fw9, vi) else (orF sp sv lf po m (i + 1) (b ||| (2 ^ (foN sp sv lf po b he))) (po.getD (foN sp sv lf po b he) 0) (fw9 + (tkF sv he (po.getD (foN sp sv lf po b he) 0) (1000000 : Int32) (6 - 0 + 1) 0 0)) (zset 0 vi i (nI (foN sp sv lf po b he)))))
set_option maxRecDepth 100000 in
set_option maxHeartbeats 4000000 in
theorem c_orL {ra sp so : Nat} {lk hd ht bl sd : Int32} {rt : Int64} {rf : Nat} {fi9 kn9 : Int32} {fr9 : Int64} {NL : Nat} {sv : List Int32} {po : List Int64} {lf : List Int32} {nw : Int64} (hra : ra = 6 ∨ ra = 20) (hsp : sp ≤ 8) (hNL : 2 ^ sp * 8 ≤ NL ∧ NL ≤ 4096) (hrf : rf = 156 ∨ 234 ≤ rf) {dc ds : Nat} {Q : zR → Prop} : ∀ (m : Nat) (i : Nat) (b : Nat) (he : Int64) (fw9 : Int32) (vi : List Int32) (h : zH) , (zat h 150 = some (.inr (.inr (.inr (5, [.ref 152, .ref ra, .ref 154, .ref rf, .int fi9, .int kn9, .long fr9, .int fw9]))))) → (zat h rf = some (.inl (0, NL, lf))) → (zat h 152 = some (.inl (0, 8, vi))) → (zat h ra = some (.inr (.inr (.inr (0, [.int lk, .int hd, .int ht, .int bl, .int sd, .long rt, .ref (ra + 2), .ref (ra + 4), .ref (ra + 6), .int (nI sp), .ref (ra + 8), .ref (ra + 10), .int (nI so), .ref (ra + 12)]))))) → (zat h (ra + 6) = some (.inl (0, 6, sv))) → (zat h (ra + 10) = some (.inr (.inl (8, po)))) → (i ≤ sp) → (b < 2 ^ sp) → (sp - i) < m → (∀ (h2 : zH) , (wFr [150, 152] h h2) → (h2.length = h.length) → (zat h2 150 = some (.inr (.inr (.inr (5, [.ref 152, .ref ra, .ref 154, .ref rf, .int fi9, .int kn9, .long fr9, .int ((orF sp sv lf po m i b he fw9 vi).1)]))))) → (zat h2 152 = some (.inl (0, 8, ((orF sp sv lf po m i b he fw9 vi).2)))) → wq 63 126 [(0, .ref 150)] [] h2 dc ds Q) → wq 63 43 [(0, .ref 150), (1, .long nw), (3, .int (nI b)), (4, .long he), (6, .int (nI i))] [] h dc ds Q := by
  intro m
  induction m with
  | zero => intro i b he fw9 vi h hRo hLf hVi hA hV hQ hi hb hms kk; omega
  | succ m ih =>
    intro i b he fw9 vi h hRo hLf hVi hA hV hQ hi hb hms kk
    have qni := nI_toInt (n := i) (by omega)
    have qnsp := nI_toInt (n := sp) (by omega)
    refine wq_gos (f := 1) (pc2 := 46) (ls2 := [(0, .ref 150), (1, .long nw), (3, .int (nI b)), (4, .long he), (6, .int (nI i))]) (st2 := [.ref 150, .int (nI i)]) (h2 := h) (dc2 := dc) (ds2 := ds) 2 rfl ?_
    refine wq_getf rfl hRo rfl rfl ?_
    refine wq_getf rfl hA rfl rfl ?_
    try have q1x := nI_toInt (n := i) (by omega)
    try have q2x := nI_toInt (n := sp) (by omega)
    refine wq_ge2 rfl rfl (fun b3x => ?_) (fun b3x => ?_)
    · have hx : (orF sp sv lf po (m + 1) i b he fw9 vi) = (fw9, vi) := by show (if _ then _ else _) = _; rw [if_pos b3x]
      rw [hx] at kk
      refine wq_ls [(0, .ref 150)] (show ([0] : List Nat).Nodup by decide) ⟨rfl, trivial⟩ ?_
      exact kk h (wFr_rf _ _) (by omega) hRo hVi
    · refine wq_gos (f := 1) (pc2 := 59) (ls2 := [(0, .ref 150), (1, .long nw), (3, .int (nI b)), (4, .long he), (6, .int (nI i))]) (st2 := [.int (nI b), .long he, .ref 150]) (h2 := h) (dc2 := dc) (ds2 := ds) 3 rfl ?_
      try have q4x := nI_toInt (n := b) (by omega)
      refine wq_inlv (y2 := 64) (as := [.long he, .int (nI b)]) rfl rfl rfl hRo rfl (wq_mono (c_fof hRo hLf hA hV hQ (by first | omega | assumption | decide | solve_by_elim) (by first | omega | assumption | decide | solve_by_elim) (by first | omega | assumption | decide | solve_by_elim) (by first | omega | assumption | decide | solve_by_elim) (by first | omega | assumption | decide | solve_by_elim)) ?_)
      rintro _ ⟨h85x, rfl, f85x, l85x, p05x⟩
      show wq 63 62 [(0, .ref 150), (1, .long nw), (3, .int (nI b)), (4, .long he), (6, .int (nI i))] [.int (nI (foN sp sv lf po b he))] h85x dc ds _
      refine wq_gos (f := 1) (pc2 := 66) (ls2 := [(7, .int (nI (foN sp sv lf po b he))), (0, .ref 150), (1, .long nw), (3, .int (nI b)), (4, .long he), (6, .int (nI i))]) (st2 := [.ref 150, .ref 150]) (h2 := h85x) (dc2 := dc) (ds2 := ds) 3 rfl ?_
      have e6x := (f85x.2 _ _ wn0 hRo)
      refine wq_getf rfl e6x rfl rfl ?_
      refine wq_gos (f := 1) (pc2 := 70) (ls2 := [(7, .int (nI (foN sp sv lf po b he))), (0, .ref 150), (1, .long nw), (3, .int (nI b)), (4, .long he), (6, .int (nI i))]) (st2 := [.ref 150, .int fw9, .ref 150]) (h2 := h85x) (dc2 := dc) (ds2 := ds) 1 rfl ?_
      refine wq_getf rfl e6x rfl rfl ?_
      refine wq_gos (f := 1) (pc2 := 76) (ls2 := [(7, .int (nI (foN sp sv lf po b he))), (0, .ref 150), (1, .long nw), (3, .int (nI b)), (4, .long he), (6, .int (nI i))]) (st2 := [.ref 150, .long he, .ref ra, .int fw9, .ref 150]) (h2 := h85x) (dc2 := dc) (ds2 := ds) 2 rfl ?_
      refine wq_getf rfl e6x rfl rfl ?_
      have e7x := (f85x.2 _ _ wn0 hA)
      refine wq_getf rfl e7x rfl rfl ?_
      refine wq_gos (f := 1) (pc2 := 84) (ls2 := [(7, .int (nI (foN sp sv lf po b he))), (0, .ref 150), (1, .long nw), (3, .int (nI b)), (4, .long he), (6, .int (nI i))]) (st2 := [.int (nI (foN sp sv lf po b he)), .ref (ra + 10), .long he, .ref ra, .int fw9, .ref 150]) (h2 := h85x) (dc2 := dc) (ds2 := ds) 1 rfl ?_
      have e8x := (f85x.2 _ _ wn0 hQ)
      try have q9x := nI_toInt (n := (foN sp sv lf po b he)) (by omega)
      refine wq_laldn rfl e8x (by first | omega | exact zin_t (by omega) (by omega)) (by decide) rfl ?_
      have e10x := (f85x.2 _ _ wn0 hV)
      refine wq_inlv (y2 := 9) (as := [.long he, .long (po.getD (foN sp sv lf po b he) 0)]) rfl rfl rfl e7x rfl (wq_mono (c_tks e7x e10x) ?_)
      rintro _ rfl
      show wq 63 88 [(7, .int (nI (foN sp sv lf po b he))), (0, .ref 150), (1, .long nw), (3, .int (nI b)), (4, .long he), (6, .int (nI i))] [.int (tkF sv he (po.getD (foN sp sv lf po b he) 0) (1000000 : Int32) (6 - 0 + 1) 0 0), .int fw9, .ref 150] h85x dc ds _
      refine wq_gos (f := 1) (pc2 := 89) (ls2 := [(7, .int (nI (foN sp sv lf po b he))), (0, .ref 150), (1, .long nw), (3, .int (nI b)), (4, .long he), (6, .int (nI i))]) (st2 := [.int (fw9 + (tkF sv he (po.getD (foN sp sv lf po b he) 0) (1000000 : Int32) (6 - 0 + 1) 0 0)), .ref 150]) (h2 := h85x) (dc2 := dc) (ds2 := ds) 1 rfl ?_
      refine wq_putf rfl e6x rfl rfl rfl ?_
      intro h12x e13x f14x l15x
      have e13x : zat h12x 150 = some (.inr (.inr (.inr (5, [.ref 152, .ref ra, .ref 154, .ref rf, .int fi9, .int kn9, .long fr9, .int (fw9 + (tkF sv he (po.getD (foN sp sv lf po b he) 0) (1000000 : Int32) (6 - 0 + 1) 0 0))])))) := e13x
      refine wq_gos (f := 1) (pc2 := 93) (ls2 := [(7, .int (nI (foN sp sv lf po b he))), (0, .ref 150), (1, .long nw), (3, .int (nI b)), (4, .long he), (6, .int (nI i))]) (st2 := [.ref 150]) (h2 := h12x) (dc2 := dc) (ds2 := ds) 1 rfl ?_
      refine wq_getf rfl e13x rfl rfl ?_
      refine wq_gos (f := 1) (pc2 := 100) (ls2 := [(7, .int (nI (foN sp sv lf po b he))), (0, .ref 150), (1, .long nw), (3, .int (nI b)), (4, .long he), (6, .int (nI i))]) (st2 := [.int (nI (foN sp sv lf po b he)), .int (nI i), .ref 152]) (h2 := h12x) (dc2 := dc) (ds2 := ds) 2 rfl ?_
      have e16x := (f14x.2 _ _ (wnc (by decide) wn0) (f85x.2 _ _ wn0 hVi))
      refine wq_iastn rfl e16x (by first | omega | exact zin_t (by omega) (by omega)) (by decide) rfl ?_
      intro h17x e18x f19x l20x
      have e18x : zat h17x 152 = some (.inl (0, 8, (zset 0 vi i (nI (foN sp sv lf po b he))))) := e18x
      refine wq_gos (f := 1) (pc2 := 106) (ls2 := [(7, .int (nI (foN sp sv lf po b he))), (0, .ref 150), (1, .long nw), (3, .int (nI b)), (4, .long he), (6, .int (nI i))]) (st2 := [.int ((1 : Int32) <<< ((nI (foN sp sv lf po b he)) &&& 31)), .int (nI b)]) (h2 := h17x) (dc2 := dc) (ds2 := ds) 4 rfl ?_
      refine wq_vi (show ((1 : Int32) <<< ((nI (foN sp sv lf po b he)) &&& 31)) = nI (2 ^ (foN sp sv lf po b he)) from e_shl (k := (foN sp sv lf po b he)) (by omega)) ?_
      refine wq_gos (f := 1) (pc2 := 107) (ls2 := [(7, .int (nI (foN sp sv lf po b he))), (0, .ref 150), (1, .long nw), (3, .int (nI b)), (4, .long he), (6, .int (nI i))]) (st2 := [.int ((nI b) ||| (nI (2 ^ (foN sp sv lf po b he))))]) (h2 := h17x) (dc2 := dc) (ds2 := ds) 1 rfl ?_
      refine wq_vi (show ((nI b) ||| (nI (2 ^ (foN sp sv lf po b he)))) = nI (b ||| (2 ^ (foN sp sv lf po b he))) from e_or b (2 ^ (foN sp sv lf po b he))) ?_
      refine wq_gos (f := 1) (pc2 := 109) (ls2 := [(3, .int (nI (b ||| (2 ^ (foN sp sv lf po b he))))), (7, .int (nI (foN sp sv lf po b he))), (0, .ref 150), (1, .long nw), (4, .long he), (6, .int (nI i))]) (st2 := [.ref 150]) (h2 := h17x) (dc2 := dc) (ds2 := ds) 2 rfl ?_
      have e21x := (f19x.2 _ _ (wnc (by decide) wn0) e13x)
      refine wq_getf rfl e21x rfl rfl ?_
      have e22x := (f19x.2 _ _ (wnc (by omega) wn0) (f14x.2 _ _ (wnc (by omega) wn0) e7x))
      refine wq_getf rfl e22x rfl rfl ?_
      refine wq_gos (f := 1) (pc2 := 117) (ls2 := [(3, .int (nI (b ||| (2 ^ (foN sp sv lf po b he))))), (7, .int (nI (foN sp sv lf po b he))), (0, .ref 150), (1, .long nw), (4, .long he), (6, .int (nI i))]) (st2 := [.int (nI (foN sp sv lf po b he)), .ref (ra + 10)]) (h2 := h17x) (dc2 := dc) (ds2 := ds) 1 rfl ?_
      have e23x := (f19x.2 _ _ (wnc (by omega) wn0) (f14x.2 _ _ (wnc (by omega) wn0) e8x))
      refine wq_laldn rfl e23x (by first | omega | exact zin_t (by omega) (by omega)) (by decide) rfl ?_
      refine wq_gos (f := 1) (pc2 := 123) (ls2 := [(6, .int ((nI i) + 1)), (4, .long (po.getD (foN sp sv lf po b he) 0)), (3, .int (nI (b ||| (2 ^ (foN sp sv lf po b he))))), (7, .int (nI (foN sp sv lf po b he))), (0, .ref 150), (1, .long nw)]) (st2 := []) (h2 := h17x) (dc2 := dc) (ds2 := ds) 2 rfl ?_
      rw [nI_1]
      refine wq_gos (f := 1) (pc2 := 43) (ls2 := [(6, .int (nI (i + 1))), (4, .long (po.getD (foN sp sv lf po b he) 0)), (3, .int (nI (b ||| (2 ^ (foN sp sv lf po b he))))), (7, .int (nI (foN sp sv lf po b he))), (0, .ref 150), (1, .long nw)]) (st2 := []) (h2 := h17x) (dc2 := dc) (ds2 := ds) 1 rfl ?_
      try have q24x := nI_toInt (n := (i + 1)) (by omega)
      try have q25x := nI_toInt (n := (b ||| (2 ^ (foN sp sv lf po b he)))) (by omega)
      have e26x := (f19x.2 _ _ (wnc (by omega) wn0) (f14x.2 _ _ (wnc (by omega) wn0) (f85x.2 _ _ wn0 hLf)))
      have e27x := (f19x.2 _ _ (wnc (by omega) wn0) (f14x.2 _ _ (wnc (by omega) wn0) e10x))
      have hx : (orF sp sv lf po (m + 1) i b he fw9 vi) = (orF sp sv lf po m (i + 1) (b ||| (2 ^ (foN sp sv lf po b he))) (po.getD (foN sp sv lf po b he) 0) (fw9 + (tkF sv he (po.getD (foN sp sv lf po b he) 0) (1000000 : Int32) (6 - 0 + 1) 0 0)) (zset 0 vi i (nI (foN sp sv lf po b he)))) := by show (if _ then _ else _) = _; rw [if_neg (Int.not_le.mpr b3x)]
      rw [hx] at kk
      refine wq_ls [(0, .ref 150), (1, .long nw), (3, .int (nI (b ||| (2 ^ (foN sp sv lf po b he))))), (4, .long (po.getD (foN sp sv lf po b he) 0)), (6, .int (nI (i + 1)))] (show ([0, 1, 3, 4, 6] : List Nat).Nodup by decide) ⟨rfl, rfl, rfl, rfl, rfl, trivial⟩ ?_
      exact ih (i + 1) (b ||| (2 ^ (foN sp sv lf po b he))) (po.getD (foN sp sv lf po b he) 0) (fw9 + (tkF sv he (po.getD (foN sp sv lf po b he) 0) (1000000 : Int32) (6 - 0 + 1) 0 0)) (zset 0 vi i (nI (foN sp sv lf po b he))) h17x e21x e26x e18x e22x e27x e23x (by first | omega | assumption | decide | solve_by_elim) (by rcases orb (k := foN sp sv lf po b he) hb with q9 | q9; omega; exact q9) (by omega) (fun h9 f9 l9 y0 y1 => kk h9 (wFr_tr (wFr_tr (wFr_sub f85x (by simp)) (wFr_tr (wFr_sub f14x (by simp)) (wFr_sub f19x (by simp)))) f9) (by omega) y0 y1)
noncomputable def wOrd (sp : Nat) (sv lf : List Int32) (po : List Int64) (nw : Int64) (fw : Int32) (vi : List Int32) : Prop := ∃ vi0, (fw, vi) = orF sp sv lf po (sp - 0 + 1) 0 0 nw 0 vi0
set_option maxRecDepth 100000 in
set_option maxHeartbeats 4000000 in
theorem c_fil1 {h : zH} {ra sp so : Nat} {lk hd ht bl sd : Int32} {rt : Int64} {rf : Nat} {kn9 fw9 : Int32} {fr9 : Int64} {NL : Nat} {sv : List Int32} {po : List Int64} {gp lf : List Int32} (hRo : zat h 150 = some (.inr (.inr (.inr (5, [.ref 152, .ref ra, .ref 154, .ref rf, .int 1, .int kn9, .long fr9, .int fw9]))))) (hA : zat h ra = some (.inr (.inr (.inr (0, [.int lk, .int hd, .int ht, .int bl, .int sd, .long rt, .ref (ra + 2), .ref (ra + 4), .ref (ra + 6), .int (nI sp), .ref (ra + 8), .ref (ra + 10), .int (nI so), .ref (ra + 12)]))))) (hV : zat h (ra + 6) = some (.inl (0, 6, sv))) (hQ : zat h (ra + 10) = some (.inr (.inl (8, po)))) (hGp : zat h 154 = some (.inl (0, 64, gp))) (hLf : zat h rf = some (.inl (0, NL, lf))) (hra : ra = 6 ∨ ra = 20) (hsp : sp ≤ 8) (hNL : wPw NL ∧ NL ≤ 4096) (hrf : rf = 156 ∨ 234 ≤ rf) (hlen : 117 ≤ h.length) (hfl : wFil sp sv po gp lf ∧ 2 ^ sp * 8 ≤ NL) : wq 65 0 [(0, .ref 150)] [] h 0 0 (fun rr9 => ∃ (h2 : zH) (rf2 : Nat) (NL2 : Nat) (gp2 : List Int32) (lf2 : List Int32) (d9 s9 : Nat), rr9 = (none, h2, d9, s9) ∧ wFr [150, 154, rf] h h2 ∧ h.length ≤ h2.length ∧ zat h2 150 = some (.inr (.inr (.inr (5, [.ref 152, .ref ra, .ref 154, .ref rf2, .int 1, .int kn9, .long fr9, .int fw9])))) ∧ zat h2 154 = some (.inl (0, 64, gp2)) ∧ zat h2 rf2 = some (.inl (0, NL2, lf2)) ∧ (wFil sp sv po gp2 lf2) ∧ (2 ^ sp * 8 ≤ NL2) ∧ (NL2 ≤ 4096) ∧ (wPw NL2) ∧ (rf2 = rf ∨ 2 * h.length ≤ rf2) ∧ (NL ≤ NL2) ∧ (d9 + NL ≤ NL2) ∧ (s9 + 2 * NL ≤ 2 * NL2)) := by
  refine wq_gos (f := 1) (pc2 := 1) (ls2 := [(0, .ref 150)]) (st2 := [.ref 150]) (h2 := h) (dc2 := 0) (ds2 := 0) 1 rfl ?_
  refine wq_getf rfl hRo rfl rfl ?_
  refine wq_gos (f := 1) (pc2 := 7) (ls2 := [(0, .ref 150)]) (st2 := []) (h2 := h) (dc2 := 0) (ds2 := 0) 1 rfl ?_
  exact wq_ret rfl rfl ⟨h, rf, NL, gp, lf, 0, 0, rfl, (wFr_rf _ _), (by omega), hRo, hGp, hLf, hfl.1, hfl.2, (by first | omega | assumption | decide | solve_by_elim), hNL.1, (by first | omega | assumption | decide | solve_by_elim), (by first | omega | assumption | decide | solve_by_elim), (by first | omega | assumption | decide | solve_by_elim), (by first | omega | assumption | decide | solve_by_elim)⟩
theorem c_filX {h : zH} {ra sp so : Nat} {lk hd ht bl sd : Int32} {rt : Int64} {rf : Nat} {kn9 fw9 : Int32} {fr9 : Int64} {fi9 : Int32} {NL : Nat} {sv : List Int32} {po : List Int64} {gp lf : List Int32} (hRo : zat h 150 = some (.inr (.inr (.inr (5, [.ref 152, .ref ra, .ref 154, .ref rf, .int fi9, .int kn9, .long fr9, .int fw9]))))) (hA : zat h ra = some (.inr (.inr (.inr (0, [.int lk, .int hd, .int ht, .int bl, .int sd, .long rt, .ref (ra + 2), .ref (ra + 4), .ref (ra + 6), .int (nI sp), .ref (ra + 8), .ref (ra + 10), .int (nI so), .ref (ra + 12)]))))) (hV : zat h (ra + 6) = some (.inl (0, 6, sv))) (hQ : zat h (ra + 10) = some (.inr (.inl (8, po)))) (hGp : zat h 154 = some (.inl (0, 64, gp))) (hLf : zat h rf = some (.inl (0, NL, lf))) (hra : ra = 6 ∨ ra = 20) (hsp : sp ≤ 8) (hNL : wPw NL ∧ NL ≤ 4096) (hrf : rf = 156 ∨ 234 ≤ rf) (hlen : 117 ≤ h.length) (hf01 : fi9 = 0 ∨ fi9 = 1) (hfl : fi9 = 1 → wFil sp sv po gp lf ∧ 2 ^ sp * 8 ≤ NL) : wq 65 0 [(0, .ref 150)] [] h 0 0 (fun rr9 => ∃ (h2 : zH) (rf2 : Nat) (NL2 : Nat) (gp2 : List Int32) (lf2 : List Int32) (d9 s9 : Nat), rr9 = (none, h2, d9, s9) ∧ wFr [150, 154, rf] h h2 ∧ h.length ≤ h2.length ∧ zat h2 150 = some (.inr (.inr (.inr (5, [.ref 152, .ref ra, .ref 154, .ref rf2, .int 1, .int kn9, .long fr9, .int fw9])))) ∧ zat h2 154 = some (.inl (0, 64, gp2)) ∧ zat h2 rf2 = some (.inl (0, NL2, lf2)) ∧ (wFil sp sv po gp2 lf2) ∧ (2 ^ sp * 8 ≤ NL2) ∧ (NL2 ≤ 4096) ∧ (wPw NL2) ∧ (rf2 = rf ∨ 2 * h.length ≤ rf2) ∧ (NL ≤ NL2) ∧ (d9 + NL ≤ NL2) ∧ (s9 + 2 * NL ≤ 2 * NL2)) := by
  rcases hf01 with q9 | q9
  · exact c_fil hRo hA hV hQ hGp hLf hra hsp q9 hNL hrf hlen
  · subst q9
    exact c_fil1 hRo hA hV hQ hGp hLf hra hsp hNL hrf hlen (hfl rfl)
set_option maxRecDepth 100000 in
set_option maxHeartbeats 4000000 in
theorem c_ord {h : zH} {Q : zR → Prop} {ra sp so : Nat} {lk hd ht bl sd : Int32} {rt : Int64} {rf : Nat} {fi9 kn9 fw9 : Int32} {fr9 : Int64} {NL : Nat} {sv : List Int32} {po : List Int64} {gp lf : List Int32} {vi : List Int32} {nw : Int64} (hRo : zat h 150 = some (.inr (.inr (.inr (5, [.ref 152, .ref ra, .ref 154, .ref rf, .int fi9, .int kn9, .long fr9, .int fw9]))))) (hA : zat h ra = some (.inr (.inr (.inr (0, [.int lk, .int hd, .int ht, .int bl, .int sd, .long rt, .ref (ra + 2), .ref (ra + 4), .ref (ra + 6), .int (nI sp), .ref (ra + 8), .ref (ra + 10), .int (nI so), .ref (ra + 12)]))))) (hV : zat h (ra + 6) = some (.inl (0, 6, sv))) (hQ : zat h (ra + 10) = some (.inr (.inl (8, po)))) (hGp : zat h 154 = some (.inl (0, 64, gp))) (hLf : zat h rf = some (.inl (0, NL, lf))) (hVi : zat h 152 = some (.inl (0, 8, vi))) (hra : ra = 6 ∨ ra = 20) (hsp : sp ≤ 8) (hNL : wPw NL ∧ NL ≤ 4096) (hrf : rf = 156 ∨ 234 ≤ rf) (hlen : 117 ≤ h.length) (hf01 : fi9 = 0 ∨ fi9 = 1) (hfl : fi9 = 1 → wFil sp sv po gp lf ∧ 2 ^ sp * 8 ≤ NL) (kK : ∀ (h2 : zH), (wFr [] h h2) → (h2.length = h.length) → (kn9 ≠ 0 ∧ lg_cmp fr9 nw = 0) → Q (some (.int fw9), h2, 0, 0)) (kN : ∀ (h2 : zH) (rf2 : Nat) (NL2 : Nat) (gp2 : List Int32) (lf2 : List Int32) (vi2 : List Int32) (fw2 : Int32) (d9 s9 : Nat), (wFr [150, 152, 154, rf] h h2) → (h.length ≤ h2.length) → (zat h2 150 = some (.inr (.inr (.inr (5, [.ref 152, .ref ra, .ref 154, .ref rf2, .int 1, .int 1, .long nw, .int fw2]))))) → (zat h2 154 = some (.inl (0, 64, gp2))) → (zat h2 rf2 = some (.inl (0, NL2, lf2))) → (zat h2 152 = some (.inl (0, 8, vi2))) → (wFil sp sv po gp2 lf2) → (2 ^ sp * 8 ≤ NL2) → (NL2 ≤ 4096) → (wPw NL2) → (rf2 = rf ∨ 2 * h.length ≤ rf2) → (NL ≤ NL2) → (wOrd sp sv lf2 po nw fw2 vi2) → (d9 + NL ≤ NL2) → (s9 + 2 * NL ≤ 2 * NL2) → Q (some (.int fw2), h2, d9, s9)) : wq 63 0 [(0, .ref 150), (1, .long nw)] [] h 0 0 Q := by
  have qnsp := nI_toInt (n := sp) (by omega)
  have hp8 := pow8 hsp
  have hpp : 1 ≤ 2 ^ sp := Nat.one_le_two_pow
  have zg := zat_lt hRo
  refine wq_gos (f := 1) (pc2 := 1) (ls2 := [(0, .ref 150), (1, .long nw)]) (st2 := [.ref 150]) (h2 := h) (dc2 := 0) (ds2 := 0) 1 rfl ?_
  refine wq_getf rfl hRo rfl rfl ?_
  refine wq_eq0 rfl rfl (fun b1x => ?_) (fun b1x => ?_)
  · have q2x : kn9.toInt = 0 := congrArg Int32.toInt b1x
    refine wq_gos (f := 1) (pc2 := 17) (ls2 := [(0, .ref 150), (1, .long nw)]) (st2 := [.ref 150]) (h2 := h) (dc2 := 0) (ds2 := 0) 1 rfl ?_
    refine wq_inlv (y2 := 65) (as := []) rfl rfl rfl hRo rfl (wq_mono (c_filX hRo hA hV hQ hGp hLf (by first | omega | assumption | decide | solve_by_elim) (by first | omega | assumption | decide | solve_by_elim) (by first | omega | assumption | decide | solve_by_elim) (by first | omega | assumption | decide | solve_by_elim) (by first | omega | assumption | decide | solve_by_elim) (by first | omega | assumption | decide | solve_by_elim) (by first | omega | assumption | decide | solve_by_elim)) ?_)
    rintro _ ⟨h83x, rf23x, NL23x, gp23x, lf23x, d93x, s93x, rfl, f83x, l83x, c03x, c13x, c23x, p03x, p13x, p23x, p33x, p43x, p53x, al03x, al13x⟩
    show wq 63 20 [(0, .ref 150), (1, .long nw)] [] h83x (0 + d93x) (0 + s93x) _
    refine wq_gos (f := 1) (pc2 := 22) (ls2 := [(0, .ref 150), (1, .long nw)]) (st2 := [.int 1, .ref 150]) (h2 := h83x) (dc2 := (0 + d93x)) (ds2 := (0 + s93x)) 2 rfl ?_
    refine wq_putf rfl c03x rfl rfl rfl ?_
    intro h4x e5x f6x l7x
    have e5x : zat h4x 150 = some (.inr (.inr (.inr (5, [.ref 152, .ref ra, .ref 154, .ref rf23x, .int 1, .int 1, .long fr9, .int fw9])))) := e5x
    refine wq_gos (f := 1) (pc2 := 27) (ls2 := [(0, .ref 150), (1, .long nw)]) (st2 := [.long nw, .ref 150]) (h2 := h4x) (dc2 := (0 + d93x)) (ds2 := (0 + s93x)) 2 rfl ?_
    refine wq_putf rfl e5x rfl rfl rfl ?_
    intro h8x e9x f10x l11x
    have e9x : zat h8x 150 = some (.inr (.inr (.inr (5, [.ref 152, .ref ra, .ref 154, .ref rf23x, .int 1, .int 1, .long nw, .int fw9])))) := e9x
    refine wq_gos (f := 1) (pc2 := 32) (ls2 := [(0, .ref 150), (1, .long nw)]) (st2 := [.int 0, .ref 150]) (h2 := h8x) (dc2 := (0 + d93x)) (ds2 := (0 + s93x)) 2 rfl ?_
    refine wq_putf rfl e9x rfl rfl rfl ?_
    intro h12x e13x f14x l15x
    have e13x : zat h12x 150 = some (.inr (.inr (.inr (5, [.ref 152, .ref ra, .ref 154, .ref rf23x, .int 1, .int 1, .long nw, .int 0])))) := e13x
    refine wq_gos (f := 1) (pc2 := 43) (ls2 := [(6, .int 0), (4, .long nw), (3, .int 0), (0, .ref 150), (1, .long nw)]) (st2 := []) (h2 := h12x) (dc2 := (0 + d93x)) (ds2 := (0 + s93x)) 6 rfl ?_
    have e16x := (f14x.2 _ _ (wnc (by omega) wn0) (f10x.2 _ _ (wnc (by omega) wn0) (f6x.2 _ _ (wnc (by omega) wn0) c23x)))
    have e17x := (f14x.2 _ _ (wnc (by decide) wn0) (f10x.2 _ _ (wnc (by decide) wn0) (f6x.2 _ _ (wnc (by decide) wn0) (f83x.2 _ _ (wnc (by decide) (wnc (by decide) (wnc (by omega) wn0))) hVi))))
    have e18x := (f14x.2 _ _ (wnc (by omega) wn0) (f10x.2 _ _ (wnc (by omega) wn0) (f6x.2 _ _ (wnc (by omega) wn0) (f83x.2 _ _ (wnc (by omega) (wnc (by omega) (wnc (by omega) wn0))) hA))))
    have e19x := (f14x.2 _ _ (wnc (by omega) wn0) (f10x.2 _ _ (wnc (by omega) wn0) (f6x.2 _ _ (wnc (by omega) wn0) (f83x.2 _ _ (wnc (by omega) (wnc (by omega) (wnc (by omega) wn0))) hV))))
    have e20x := (f14x.2 _ _ (wnc (by omega) wn0) (f10x.2 _ _ (wnc (by omega) wn0) (f6x.2 _ _ (wnc (by omega) wn0) (f83x.2 _ _ (wnc (by omega) (wnc (by omega) (wnc (by omega) wn0))) hQ))))
    refine wq_ls [(0, .ref 150), (1, .long nw), (3, .int (nI 0)), (4, .long nw), (6, .int (nI 0))] (show ([0, 1, 3, 4, 6] : List Nat).Nodup by decide) ⟨rfl, rfl, rfl, rfl, rfl, trivial⟩ ?_
    refine c_orL (by first | omega | assumption | decide | solve_by_elim) (by first | omega | assumption | decide | solve_by_elim) (by first | omega | assumption | decide | solve_by_elim) (by first | omega | assumption | decide | solve_by_elim) ((sp - 0) + 1) 0 0 nw (0 : Int32) vi h12x e13x e16x e17x e18x e19x e20x (by first | omega | assumption | decide | solve_by_elim) (by first | omega | assumption | decide | solve_by_elim) (by omega) ?_
    intro h821x f821x l821x c021x c121x
    obtain ⟨v22x, hv23x⟩ : ∃ x, x = (orF sp sv lf23x po ((sp - 0) + 1) 0 0 nw (0 : Int32) vi) := ⟨_, rfl⟩
    try rw [← hv23x] at c021x
    try rw [← hv23x] at c121x
    try rw [← hv23x]
    show wq 63 126 [(0, .ref 150)] [] h821x (0 + d93x) (0 + s93x) _
    refine wq_gos (f := 1) (pc2 := 127) (ls2 := [(0, .ref 150)]) (st2 := [.ref 150]) (h2 := h821x) (dc2 := (0 + d93x)) (ds2 := (0 + s93x)) 1 rfl ?_
    refine wq_getf rfl c021x rfl rfl ?_
    have e24x := (f821x.2 _ _ (wnc (by decide) (wnc (by decide) wn0)) (f14x.2 _ _ (wnc (by decide) wn0) (f10x.2 _ _ (wnc (by decide) wn0) (f6x.2 _ _ (wnc (by decide) wn0) c13x))))
    have e25x := (f821x.2 _ _ (wnc (by omega) (wnc (by omega) wn0)) e16x)
    subst hv23x
    exact wq_ret rfl rfl (kN h821x rf23x NL23x gp23x lf23x ((orF sp sv lf23x po ((sp - 0) + 1) 0 0 nw (0 : Int32) vi).2) ((orF sp sv lf23x po ((sp - 0) + 1) 0 0 nw (0 : Int32) vi).1) (0 + d93x) (0 + s93x) (wFr_tr (wFr_sub f83x (by simp)) (wFr_tr (wFr_sub f6x (by simp)) (wFr_tr (wFr_sub f10x (by simp)) (wFr_tr (wFr_sub f14x (by simp)) (wFr_sub f821x (by simp)))))) (by omega) c021x e24x e25x c121x (by first | omega | assumption | decide | solve_by_elim) (by first | omega | assumption | decide | solve_by_elim) (by first | omega | assumption | decide | solve_by_elim) (by first | omega | assumption | decide | solve_by_elim) (by first | omega | assumption | decide | solve_by_elim) (by first | omega | assumption | decide | solve_by_elim) ⟨_, rfl⟩ (by omega) (by omega))
  · have q26x : kn9.toInt ≠ 0 := fun q => b1x (Int32.toInt_inj.mp q)
    refine wq_gos (f := 1) (pc2 := 8) (ls2 := [(0, .ref 150), (1, .long nw)]) (st2 := [.ref 150]) (h2 := h) (dc2 := 0) (ds2 := 0) 1 rfl ?_
    refine wq_getf rfl hRo rfl rfl ?_
    refine wq_gos (f := 1) (pc2 := 13) (ls2 := [(0, .ref 150), (1, .long nw)]) (st2 := [.int (lg_cmp fr9 nw)]) (h2 := h) (dc2 := 0) (ds2 := 0) 2 rfl ?_
    refine wq_eq0 rfl rfl (fun b27x => ?_) (fun b27x => ?_)
    · have q28x : (lg_cmp fr9 nw).toInt = 0 := congrArg Int32.toInt b27x
      refine wq_gos (f := 1) (pc2 := 127) (ls2 := [(0, .ref 150), (1, .long nw)]) (st2 := [.ref 150]) (h2 := h) (dc2 := 0) (ds2 := 0) 1 rfl ?_
      refine wq_getf rfl hRo rfl rfl ?_
      exact wq_ret rfl rfl (kK h (wFr_rf _ _) (by omega) (by first | omega | assumption | decide | solve_by_elim))
    · have q29x : (lg_cmp fr9 nw).toInt ≠ 0 := fun q => b27x (Int32.toInt_inj.mp q)
      refine wq_gos (f := 1) (pc2 := 17) (ls2 := [(0, .ref 150), (1, .long nw)]) (st2 := [.ref 150]) (h2 := h) (dc2 := 0) (ds2 := 0) 1 rfl ?_
      refine wq_inlv (y2 := 65) (as := []) rfl rfl rfl hRo rfl (wq_mono (c_filX hRo hA hV hQ hGp hLf (by first | omega | assumption | decide | solve_by_elim) (by first | omega | assumption | decide | solve_by_elim) (by first | omega | assumption | decide | solve_by_elim) (by first | omega | assumption | decide | solve_by_elim) (by first | omega | assumption | decide | solve_by_elim) (by first | omega | assumption | decide | solve_by_elim) (by first | omega | assumption | decide | solve_by_elim)) ?_)
      rintro _ ⟨h830x, rf230x, NL230x, gp230x, lf230x, d930x, s930x, rfl, f830x, l830x, c030x, c130x, c230x, p030x, p130x, p230x, p330x, p430x, p530x, al030x, al130x⟩
      show wq 63 20 [(0, .ref 150), (1, .long nw)] [] h830x (0 + d930x) (0 + s930x) _
      refine wq_gos (f := 1) (pc2 := 22) (ls2 := [(0, .ref 150), (1, .long nw)]) (st2 := [.int 1, .ref 150]) (h2 := h830x) (dc2 := (0 + d930x)) (ds2 := (0 + s930x)) 2 rfl ?_
      refine wq_putf rfl c030x rfl rfl rfl ?_
      intro h31x e32x f33x l34x
      have e32x : zat h31x 150 = some (.inr (.inr (.inr (5, [.ref 152, .ref ra, .ref 154, .ref rf230x, .int 1, .int 1, .long fr9, .int fw9])))) := e32x
      refine wq_gos (f := 1) (pc2 := 27) (ls2 := [(0, .ref 150), (1, .long nw)]) (st2 := [.long nw, .ref 150]) (h2 := h31x) (dc2 := (0 + d930x)) (ds2 := (0 + s930x)) 2 rfl ?_
      refine wq_putf rfl e32x rfl rfl rfl ?_
      intro h35x e36x f37x l38x
      have e36x : zat h35x 150 = some (.inr (.inr (.inr (5, [.ref 152, .ref ra, .ref 154, .ref rf230x, .int 1, .int 1, .long nw, .int fw9])))) := e36x
      refine wq_gos (f := 1) (pc2 := 32) (ls2 := [(0, .ref 150), (1, .long nw)]) (st2 := [.int 0, .ref 150]) (h2 := h35x) (dc2 := (0 + d930x)) (ds2 := (0 + s930x)) 2 rfl ?_
      refine wq_putf rfl e36x rfl rfl rfl ?_
      intro h39x e40x f41x l42x
      have e40x : zat h39x 150 = some (.inr (.inr (.inr (5, [.ref 152, .ref ra, .ref 154, .ref rf230x, .int 1, .int 1, .long nw, .int 0])))) := e40x
      refine wq_gos (f := 1) (pc2 := 43) (ls2 := [(6, .int 0), (4, .long nw), (3, .int 0), (0, .ref 150), (1, .long nw)]) (st2 := []) (h2 := h39x) (dc2 := (0 + d930x)) (ds2 := (0 + s930x)) 6 rfl ?_
      have e43x := (f41x.2 _ _ (wnc (by omega) wn0) (f37x.2 _ _ (wnc (by omega) wn0) (f33x.2 _ _ (wnc (by omega) wn0) c230x)))
      have e44x := (f41x.2 _ _ (wnc (by decide) wn0) (f37x.2 _ _ (wnc (by decide) wn0) (f33x.2 _ _ (wnc (by decide) wn0) (f830x.2 _ _ (wnc (by decide) (wnc (by decide) (wnc (by omega) wn0))) hVi))))
      have e45x := (f41x.2 _ _ (wnc (by omega) wn0) (f37x.2 _ _ (wnc (by omega) wn0) (f33x.2 _ _ (wnc (by omega) wn0) (f830x.2 _ _ (wnc (by omega) (wnc (by omega) (wnc (by omega) wn0))) hA))))
      have e46x := (f41x.2 _ _ (wnc (by omega) wn0) (f37x.2 _ _ (wnc (by omega) wn0) (f33x.2 _ _ (wnc (by omega) wn0) (f830x.2 _ _ (wnc (by omega) (wnc (by omega) (wnc (by omega) wn0))) hV))))
      have e47x := (f41x.2 _ _ (wnc (by omega) wn0) (f37x.2 _ _ (wnc (by omega) wn0) (f33x.2 _ _ (wnc (by omega) wn0) (f830x.2 _ _ (wnc (by omega) (wnc (by omega) (wnc (by omega) wn0))) hQ))))
      refine wq_ls [(0, .ref 150), (1, .long nw), (3, .int (nI 0)), (4, .long nw), (6, .int (nI 0))] (show ([0, 1, 3, 4, 6] : List Nat).Nodup by decide) ⟨rfl, rfl, rfl, rfl, rfl, trivial⟩ ?_
      refine c_orL (by first | omega | assumption | decide | solve_by_elim) (by first | omega | assumption | decide | solve_by_elim) (by first | omega | assumption | decide | solve_by_elim) (by first | omega | assumption | decide | solve_by_elim) ((sp - 0) + 1) 0 0 nw (0 : Int32) vi h39x e40x e43x e44x e45x e46x e47x (by first | omega | assumption | decide | solve_by_elim) (by first | omega | assumption | decide | solve_by_elim) (by omega) ?_
      intro h848x f848x l848x c048x c148x
      obtain ⟨v49x, hv50x⟩ : ∃ x, x = (orF sp sv lf230x po ((sp - 0) + 1) 0 0 nw (0 : Int32) vi) := ⟨_, rfl⟩
      try rw [← hv50x] at c048x
      try rw [← hv50x] at c148x
      try rw [← hv50x]
      show wq 63 126 [(0, .ref 150)] [] h848x (0 + d930x) (0 + s930x) _
      refine wq_gos (f := 1) (pc2 := 127) (ls2 := [(0, .ref 150)]) (st2 := [.ref 150]) (h2 := h848x) (dc2 := (0 + d930x)) (ds2 := (0 + s930x)) 1 rfl ?_
      refine wq_getf rfl c048x rfl rfl ?_
      have e51x := (f848x.2 _ _ (wnc (by decide) (wnc (by decide) wn0)) (f41x.2 _ _ (wnc (by decide) wn0) (f37x.2 _ _ (wnc (by decide) wn0) (f33x.2 _ _ (wnc (by decide) wn0) c130x))))
      have e52x := (f848x.2 _ _ (wnc (by omega) (wnc (by omega) wn0)) e43x)
      subst hv50x
      exact wq_ret rfl rfl (kN h848x rf230x NL230x gp230x lf230x ((orF sp sv lf230x po ((sp - 0) + 1) 0 0 nw (0 : Int32) vi).2) ((orF sp sv lf230x po ((sp - 0) + 1) 0 0 nw (0 : Int32) vi).1) (0 + d930x) (0 + s930x) (wFr_tr (wFr_sub f830x (by simp)) (wFr_tr (wFr_sub f33x (by simp)) (wFr_tr (wFr_sub f37x (by simp)) (wFr_tr (wFr_sub f41x (by simp)) (wFr_sub f848x (by simp)))))) (by omega) c048x e51x e52x c148x (by first | omega | assumption | decide | solve_by_elim) (by first | omega | assumption | decide | solve_by_elim) (by first | omega | assumption | decide | solve_by_elim) (by first | omega | assumption | decide | solve_by_elim) (by first | omega | assumption | decide | solve_by_elim) (by first | omega | assumption | decide | solve_by_elim) ⟨_, rfl⟩ (by omega) (by omega))
