/-! The class: tour, stop. -/
set_option maxRecDepth 100000 in
set_option maxHeartbeats 4000000 in
theorem c_tour {h : zH} {Q : zR → Prop} {t rd : Nat} {ps ip : Int64} {im : Int32} {ra sp so : Nat} {lk hd ht bl sd : Int32} {rt : Int64} {rf : Nat} {fi9 kn9 fw9 : Int32} {fr9 : Int64} {NL : Nat} {sv : List Int32} {po : List Int64} {gp lf : List Int32} {vi : List Int32} (hX : zat h 0 = some (.inr (.inr (.inr (9, [.ref 2, .int (nI t), .ref 4, .ref ra, .ref rd, .long ps, .ref 34, .ref 36, .int im, .long ip, .ref 42, .ref 44, .ref 60, .ref 66, .ref 72, .ref 74, .ref 150, .ref 158]))))) (hRo : zat h 150 = some (.inr (.inr (.inr (5, [.ref 152, .ref ra, .ref 154, .ref rf, .int fi9, .int kn9, .long fr9, .int fw9]))))) (hA : zat h ra = some (.inr (.inr (.inr (0, [.int lk, .int hd, .int ht, .int bl, .int sd, .long rt, .ref (ra + 2), .ref (ra + 4), .ref (ra + 6), .int (nI sp), .ref (ra + 8), .ref (ra + 10), .int (nI so), .ref (ra + 12)]))))) (hV : zat h (ra + 6) = some (.inl (0, 6, sv))) (hQ : zat h (ra + 10) = some (.inr (.inl (8, po)))) (hGp : zat h 154 = some (.inl (0, 64, gp))) (hLf : zat h rf = some (.inl (0, NL, lf))) (hVi : zat h 152 = some (.inl (0, 8, vi))) (hra : ra = 6 ∨ ra = 20) (hsp : sp ≤ 8) (hNL : wPw NL ∧ NL ≤ 4096) (hrf : rf = 156 ∨ 234 ≤ rf) (hlen : 117 ≤ h.length) (hf01 : fi9 = 0 ∨ fi9 = 1) (hfl : fi9 = 1 → wFil sp sv po gp lf ∧ 2 ^ sp * 8 ≤ NL) (kK : ∀ (h2 : zH), (wFr [] h h2) → (h2.length = h.length) → (kn9 ≠ 0 ∧ lg_cmp fr9 ps = 0) → Q (some (.int fw9), h2, 0, 0)) (kN : ∀ (h2 : zH) (rf2 : Nat) (NL2 : Nat) (gp2 : List Int32) (lf2 : List Int32) (vi2 : List Int32) (fw2 : Int32) (d9 s9 : Nat), (wFr [150, 152, 154, rf] h h2) → (h.length ≤ h2.length) → (zat h2 150 = some (.inr (.inr (.inr (5, [.ref 152, .ref ra, .ref 154, .ref rf2, .int 1, .int 1, .long ps, .int fw2]))))) → (zat h2 154 = some (.inl (0, 64, gp2))) → (zat h2 rf2 = some (.inl (0, NL2, lf2))) → (zat h2 152 = some (.inl (0, 8, vi2))) → (wFil sp sv po gp2 lf2) → (2 ^ sp * 8 ≤ NL2) → (NL2 ≤ 4096) → (wPw NL2) → (rf2 = rf ∨ 2 * h.length ≤ rf2) → (NL ≤ NL2) → (wOrd sp sv lf2 po ps fw2 vi2) → (d9 + NL ≤ NL2) → (s9 + 2 * NL ≤ 2 * NL2) → Q (some (.int fw2), h2, d9, s9)) : wq 131 0 [(0, .ref 0)] [] h 0 0 Q := by
  have qnsp := nI_toInt (n := sp) (by omega)
  have z0 : (0 : Int32).toInt = 0 := rfl
  have z1 : (1 : Int32).toInt = 1 := rfl
  refine wq_gos (f := 1) (pc2 := 1) (ls2 := [(0, .ref 0)]) (st2 := [.ref 0]) (h2 := h) (dc2 := 0) (ds2 := 0) 1 rfl ?_
  refine wq_getf rfl hX rfl rfl ?_
  refine wq_gos (f := 1) (pc2 := 5) (ls2 := [(0, .ref 0)]) (st2 := [.ref 0, .ref 150]) (h2 := h) (dc2 := 0) (ds2 := 0) 1 rfl ?_
  refine wq_getf rfl hX rfl rfl ?_
  refine wq_inlv (y2 := 63) (as := [.long ps]) rfl rfl rfl hRo rfl (c_ord hRo hA hV hQ hGp hLf hVi (by first | assumption | omega | decide | solve_by_elim) (by first | assumption | omega | decide | solve_by_elim) (by first | assumption | omega | decide | solve_by_elim) (by first | assumption | omega | decide | solve_by_elim) (by first | assumption | omega | decide | solve_by_elim) (by first | assumption | omega | decide | solve_by_elim) (by first | assumption | omega | decide | solve_by_elim) ?_ ?_)
  · intro h81x f81x l81x p01x
    show wq 131 11 [(0, .ref 0)] [.int fw9] h81x 0 0 _
    exact wq_ret rfl rfl (kK h81x (wFr_sub f81x (by simp)) (by omega) p01x)
  · intro h82x rf22x NL22x gp22x lf22x vi22x fw22x d92x s92x f82x l82x c02x c12x c22x c32x p02x p12x p22x p32x p42x p52x p62x al02x al12x
    show wq 131 11 [(0, .ref 0)] [.int fw22x] h82x (0 + d92x) (0 + s92x) _
    exact wq_ret rfl rfl (kN h82x rf22x NL22x gp22x lf22x vi22x fw22x (0 + d92x) (0 + s92x) (wFr_sub f82x (by simp)) (by omega) c02x c12x c22x c32x p02x p12x p22x p32x p42x p52x p62x (by omega) (by omega))
set_option maxRecDepth 100000 in
set_option maxHeartbeats 4000000 in
theorem c_stop {h : zH} {Q : zR → Prop} {t rd : Nat} {ps ip : Int64} {im : Int32} {ra sp so : Nat} {lk hd ht bl sd : Int32} {rt : Int64} {rf : Nat} {fi9 kn9 fw9 : Int32} {fr9 : Int64} {NL : Nat} {sv : List Int32} {po : List Int64} {gp lf : List Int32} {vi : List Int32} {i : Int32} (hX : zat h 0 = some (.inr (.inr (.inr (9, [.ref 2, .int (nI t), .ref 4, .ref ra, .ref rd, .long ps, .ref 34, .ref 36, .int im, .long ip, .ref 42, .ref 44, .ref 60, .ref 66, .ref 72, .ref 74, .ref 150, .ref 158]))))) (hRo : zat h 150 = some (.inr (.inr (.inr (5, [.ref 152, .ref ra, .ref 154, .ref rf, .int fi9, .int kn9, .long fr9, .int fw9]))))) (hA : zat h ra = some (.inr (.inr (.inr (0, [.int lk, .int hd, .int ht, .int bl, .int sd, .long rt, .ref (ra + 2), .ref (ra + 4), .ref (ra + 6), .int (nI sp), .ref (ra + 8), .ref (ra + 10), .int (nI so), .ref (ra + 12)]))))) (hV : zat h (ra + 6) = some (.inl (0, 6, sv))) (hQ : zat h (ra + 10) = some (.inr (.inl (8, po)))) (hGp : zat h 154 = some (.inl (0, 64, gp))) (hLf : zat h rf = some (.inl (0, NL, lf))) (hVi : zat h 152 = some (.inl (0, 8, vi))) (hra : ra = 6 ∨ ra = 20) (hsp : sp ≤ 8) (hNL : wPw NL ∧ NL ≤ 4096) (hrf : rf = 156 ∨ 234 ≤ rf) (hlen : 117 ≤ h.length) (hf01 : fi9 = 0 ∨ fi9 = 1) (hfl : fi9 = 1 → wFil sp sv po gp lf ∧ 2 ^ sp * 8 ≤ NL) (hi : 0 ≤ i.toInt ∧ i.toInt < sp) (kK : ∀ (h2 : zH), (wFr [] h h2) → (h2.length = h.length) → (kn9 ≠ 0 ∧ lg_cmp fr9 ps = 0) → Q (some (.int (vi.getD i.toNatClampNeg 0)), h2, 0, 0)) (kN : ∀ (h2 : zH) (rf2 : Nat) (NL2 : Nat) (gp2 : List Int32) (lf2 : List Int32) (vi2 : List Int32) (fw2 : Int32) (d9 s9 : Nat), (wFr [150, 152, 154, rf] h h2) → (h.length ≤ h2.length) → (zat h2 150 = some (.inr (.inr (.inr (5, [.ref 152, .ref ra, .ref 154, .ref rf2, .int 1, .int 1, .long ps, .int fw2]))))) → (zat h2 154 = some (.inl (0, 64, gp2))) → (zat h2 rf2 = some (.inl (0, NL2, lf2))) → (zat h2 152 = some (.inl (0, 8, vi2))) → (wFil sp sv po gp2 lf2) → (2 ^ sp * 8 ≤ NL2) → (NL2 ≤ 4096) → (wPw NL2) → (rf2 = rf ∨ 2 * h.length ≤ rf2) → (NL ≤ NL2) → (wOrd sp sv lf2 po ps fw2 vi2) → (d9 + NL ≤ NL2) → (s9 + 2 * NL ≤ 2 * NL2) → Q (some (.int (vi2.getD i.toNatClampNeg 0)), h2, d9, s9)) : wq 132 0 [(0, .ref 0), (1, .int i)] [] h 0 0 Q := by
  have qnsp := nI_toInt (n := sp) (by omega)
  have z0 : (0 : Int32).toInt = 0 := rfl
  have z1 : (1 : Int32).toInt = 1 := rfl
  refine wq_gos (f := 1) (pc2 := 2) (ls2 := [(0, .ref 0), (1, .int i)]) (st2 := [.int i, .ref 0]) (h2 := h) (dc2 := 0) (ds2 := 0) 2 rfl ?_
  refine wq_inlv (y2 := 145) (as := [.int i]) rfl rfl rfl hX rfl ?_
  show wq 145 0 [(0, .ref 0), (1, .int i)] [] h 0 0 _
  refine wq_gos (f := 1) (pc2 := 1) (ls2 := [(0, .ref 0), (1, .int i)]) (st2 := [.int i]) (h2 := h) (dc2 := 0) (ds2 := 0) 1 rfl ?_
  refine wq_lt0f rfl rfl (by omega) ?_
  refine wq_gos (f := 1) (pc2 := 6) (ls2 := [(0, .ref 0), (1, .int i)]) (st2 := [.ref 0, .int i]) (h2 := h) (dc2 := 0) (ds2 := 0) 2 rfl ?_
  refine wq_getf rfl hX rfl rfl ?_
  refine wq_getf rfl hA rfl rfl ?_
  try have q1x := nI_toInt (n := sp) (by omega)
  refine wq_lt2t rfl (by omega) ?_
  refine wq_gos (f := 1) (pc2 := 20) (ls2 := [(0, .ref 0), (1, .int i)]) (st2 := [.int 0]) (h2 := h) (dc2 := 0) (ds2 := 0) 1 rfl ?_
  refine wq_ret rfl rfl ?_
  show wq 132 5 [(0, .ref 0), (1, .int i)] [.int 0] h 0 0 _
  refine wq_gos (f := 1) (pc2 := 11) (ls2 := [(0, .ref 0), (1, .int i)]) (st2 := [.ref 0]) (h2 := h) (dc2 := 0) (ds2 := 0) 2 rfl ?_
  refine wq_getf rfl hX rfl rfl ?_
  refine wq_gos (f := 1) (pc2 := 15) (ls2 := [(0, .ref 0), (1, .int i)]) (st2 := [.ref 0, .ref 150]) (h2 := h) (dc2 := 0) (ds2 := 0) 1 rfl ?_
  refine wq_getf rfl hX rfl rfl ?_
  refine wq_inlv (y2 := 63) (as := [.long ps]) rfl rfl rfl hRo rfl (c_ord hRo hA hV hQ hGp hLf hVi (by first | assumption | omega | decide | solve_by_elim) (by first | assumption | omega | decide | solve_by_elim) (by first | assumption | omega | decide | solve_by_elim) (by first | assumption | omega | decide | solve_by_elim) (by first | assumption | omega | decide | solve_by_elim) (by first | assumption | omega | decide | solve_by_elim) (by first | assumption | omega | decide | solve_by_elim) ?_ ?_)
  · intro h82x f82x l82x p02x
    show wq 132 21 [(0, .ref 0), (1, .int i)] [.int fw9] h82x 0 0 _
    refine wq_gos (f := 1) (pc2 := 23) (ls2 := [(0, .ref 0), (1, .int i)]) (st2 := [.ref 0]) (h2 := h82x) (dc2 := 0) (ds2 := 0) 2 rfl ?_
    have e3x := (f82x.2 _ _ wn0 hX)
    refine wq_getf rfl e3x rfl rfl ?_
    have e4x := (f82x.2 _ _ wn0 hRo)
    refine wq_getf rfl e4x rfl rfl ?_
    refine wq_gos (f := 1) (pc2 := 30) (ls2 := [(0, .ref 0), (1, .int i)]) (st2 := [.int i, .ref 152]) (h2 := h82x) (dc2 := 0) (ds2 := 0) 1 rfl ?_
    have e5x := (f82x.2 _ _ wn0 hVi)
    refine wq_iald rfl e5x (by first | omega | exact zin_t (by omega) (by omega)) rfl ?_
    exact wq_ret rfl rfl (kK h82x (wFr_sub f82x (by simp)) (by omega) p02x)
  · intro h86x rf26x NL26x gp26x lf26x vi26x fw26x d96x s96x f86x l86x c06x c16x c26x c36x p06x p16x p26x p36x p46x p56x p66x al06x al16x
    show wq 132 21 [(0, .ref 0), (1, .int i)] [.int fw26x] h86x (0 + d96x) (0 + s96x) _
    refine wq_gos (f := 1) (pc2 := 23) (ls2 := [(0, .ref 0), (1, .int i)]) (st2 := [.ref 0]) (h2 := h86x) (dc2 := (0 + d96x)) (ds2 := (0 + s96x)) 2 rfl ?_
    have e7x := (f86x.2 _ _ (wnc (by decide) (wnc (by decide) (wnc (by decide) (wnc (by omega) wn0)))) hX)
    refine wq_getf rfl e7x rfl rfl ?_
    refine wq_getf rfl c06x rfl rfl ?_
    refine wq_gos (f := 1) (pc2 := 30) (ls2 := [(0, .ref 0), (1, .int i)]) (st2 := [.int i, .ref 152]) (h2 := h86x) (dc2 := (0 + d96x)) (ds2 := (0 + s96x)) 1 rfl ?_
    refine wq_iald rfl c36x (by first | omega | exact zin_t (by omega) (by omega)) rfl ?_
    exact wq_ret rfl rfl (kN h86x rf26x NL26x gp26x lf26x vi26x fw26x (0 + d96x) (0 + s96x) (wFr_sub f86x (by simp)) (by omega) c06x c16x c26x c36x p06x p16x p26x p36x p46x p56x p66x (by omega) (by omega))
