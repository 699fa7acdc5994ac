/-! The reference: text. -/
set_option maxRecDepth 100000 in
set_option maxHeartbeats 4000000 in
theorem m_txN {h : zH} {n0 n22 n23 n27 n28 n32 n33 n34 n35 n39 n52 n14 n15 n16 : Int32} {t sz pl : Nat} {so va ft fp : Int32} {tb : List Int32} {kn lo hi sv rt sn sq wy it hl hs sm nw am th hr : List Int32} {n : Int32} (hM : zat h 162 = some (.inr (.inr (.inr (10, mO n0 (nI t) n14 n15 n16 (nI pl) so va ft fp n22 n23 n27 n28 n32 n33 n34 n35 n39 n52))))) (hn : n.toInt < 0 ∨ t < n.toInt) (ht : t ≤ 700) : wq 185 0 [(0, .ref 162), (1, .int n)] [] h 0 0 (fun rr9 => ∃ (h2 : zH), rr9 = (some (.int (-2)), h2, 0, 0) ∧ wFr [162] h h2 ∧ h2.length = h.length ∧ zat h2 162 = some (.inr (.inr (.inr (10, mO (0 : Int32) (nI t) n14 n15 n16 (nI pl) so va ft fp n22 n23 n27 n28 n32 n33 n34 n35 n39 n52))))) := by
  have qnt := nI_toInt (n := t) (by omega)
  refine wq_gos (f := 1) (pc2 := 2) (ls2 := [(0, .ref 162), (1, .int n)]) (st2 := [.int 0, .ref 162]) (h2 := h) (dc2 := 0) (ds2 := 0) 2 rfl ?_
  refine wq_putf rfl hM rfl rfl rfl ?_
  intro hh1x e2x ff3x lh4x
  have e2x : zat hh1x 162 = some (.inr (.inr (.inr (10, mO (0 : Int32) (nI t) n14 n15 n16 (nI pl) so va ft fp n22 n23 n27 n28 n32 n33 n34 n35 n39 n52)))) := e2x
  refine wq_gos (f := 1) (pc2 := 6) (ls2 := [(0, .ref 162), (1, .int n)]) (st2 := [.int n]) (h2 := hh1x) (dc2 := 0) (ds2 := 0) 1 rfl ?_
  refine wq_lt0 rfl rfl (fun b5x => ?_) (fun b5x => ?_)
  · refine wq_gos (f := 1) (pc2 := 19) (ls2 := [(0, .ref 162), (1, .int n)]) (st2 := [.int (-2)]) (h2 := hh1x) (dc2 := 0) (ds2 := 0) 1 rfl ?_
    exact wq_ret rfl rfl ⟨hh1x, rfl, (wFr_sub ff3x (by simp)), (by omega), e2x⟩
  · refine wq_gos (f := 1) (pc2 := 11) (ls2 := [(0, .ref 162), (1, .int n)]) (st2 := [.ref 162, .int n]) (h2 := hh1x) (dc2 := 0) (ds2 := 0) 2 rfl ?_
    refine wq_getf rfl e2x rfl rfl ?_
    try have q6x := nI_toInt (n := t) (by omega)
    refine wq_le2f rfl rfl (by omega) ?_
    refine wq_gos (f := 1) (pc2 := 19) (ls2 := [(0, .ref 162), (1, .int n)]) (st2 := [.int (-2)]) (h2 := hh1x) (dc2 := 0) (ds2 := 0) 1 rfl ?_
    exact wq_ret rfl rfl ⟨hh1x, rfl, (wFr_sub ff3x (by simp)), (by omega), e2x⟩
set_option maxRecDepth 100000 in
set_option maxHeartbeats 4000000 in
theorem m_text {h : zH} {Q : zR → Prop} {n0 n22 n23 n27 n28 n32 n33 n34 n35 n39 n52 n14 n15 n16 : Int32} {t sz pl : Nat} {so va ft fp : Int32} {tb : List Int32} {kn lo hi sv rt sn sq wy it hl hs sm nw am th hr : List Int32} {T9 : Int32 × Int32 × Int32 × Nat × Int32 × Int32 × Int32 × Int32 × List Int32 × List Int32 × List Int32 × List Int32 × List Int32 × List Int32 × List Int32 × List Int32 × List Int32 × List Int32 × List Int32} {U9 : List Int32 × List Int32 × List Int32 × List Int32 × List Int32 × List Int32 × List Int32 × List Int32 × List Int32} {B9 : Int32 × Int32 × Int32 × List Int32 × List Int32 × List Int32 × List Int32} (hM : zat h 162 = some (.inr (.inr (.inr (10, mO n0 (nI t) n14 n15 n16 (nI pl) so va ft fp n22 n23 n27 n28 n32 n33 n34 n35 n39 n52))))) (hT : zat h 164 = some (.inl (0, 700, tb))) (hKn : zat h 166 = some (.inl (0, 14, kn))) (hLo : zat h 168 = some (.inl (0, 12, lo))) (hHi : zat h 170 = some (.inl (0, 12, hi))) (hSv : zat h 172 = some (.inl (0, 12, sv))) (hRt : zat h 174 = some (.inl (0, 12, rt))) (hSn : zat h 176 = some (.inl (0, 16, sn))) (hSq : zat h 178 = some (.inl (0, 96, sq))) (hWy : zat h 180 = some (.inl (0, 20, wy))) (hIt : zat h 182 = some (.inl (2, 10, it))) (hHd : zat h 184 = some (.inl (2, 6, hl))) (hHs : zat h 186 = some (.inl (2, 6, hs))) (hSm : zat h 198 = some (.inl (0, 8, sm))) (hNw : zat h 188 = some (.inl (0, 6, nw))) (hAm : zat h 190 = some (.inl (0, 6, am))) (hTh : zat h 194 = some (.inl (0, 6, th))) (hHr : zat h 212 = some (.inl (2, 2, hr))) (ht : sz ≤ t ∧ t ≤ 700) (hT9 : T9 = mRtx tb sz va fp kn lo hi sv rt sn sq wy it hl hs) (hU9 : U9 = mTkT (T9.2.2.2.2.2.2.2.2.1) (T9.2.2.2.2.2.2.2.2.2.1) (T9.2.2.2.2.2.2.2.2.2.2.1) (T9.2.2.2.2.2.2.2.2.2.2.2.1) (T9.2.2.2.2.2.2.2.2.2.2.2.2.1) (T9.2.2.2.2.2.2.2.2.2.2.2.2.2.1) (T9.2.2.2.2.2.2.2.2.2.2.2.2.2.2.1) (T9.2.2.2.2.2.2.2.2.2.2.2.2.2.2.2.1) sm) (hB9 : B9 = mBeg (U9.1) (U9.2.2.2.2.1) nw am th hr) (kF : ∀ (h2 : zH), (wFr [162, 166, 168, 170, 172, 174, 176, 178, 180, 182, 184, 186] h h2) → (h2.length = h.length) → (zat h2 162 = some (.inr (.inr (.inr (10, mO (0 : Int32) (0 : Int32) (T9.2.2.2.2.2.2.1) (T9.2.2.2.2.2.2.2.1) (T9.2.2.1) (nI (T9.2.2.2.1)) (T9.2.2.2.2.1) (T9.2.2.2.2.2.1) (T9.1) (T9.2.1) (T9.1) (T9.2.1) n27 n28 n32 n33 n34 n35 n39 n52))))) → (zat h2 166 = some (.inl (0, 14, (T9.2.2.2.2.2.2.2.2.1)))) → (zat h2 168 = some (.inl (0, 12, (T9.2.2.2.2.2.2.2.2.2.1)))) → (zat h2 170 = some (.inl (0, 12, (T9.2.2.2.2.2.2.2.2.2.2.1)))) → (zat h2 172 = some (.inl (0, 12, (T9.2.2.2.2.2.2.2.2.2.2.2.1)))) → (zat h2 174 = some (.inl (0, 12, (T9.2.2.2.2.2.2.2.2.2.2.2.2.1)))) → (zat h2 176 = some (.inl (0, 16, (T9.2.2.2.2.2.2.2.2.2.2.2.2.2.1)))) → (zat h2 178 = some (.inl (0, 96, (T9.2.2.2.2.2.2.2.2.2.2.2.2.2.2.1)))) → (zat h2 180 = some (.inl (0, 20, (T9.2.2.2.2.2.2.2.2.2.2.2.2.2.2.2.1)))) → (zat h2 182 = some (.inl (2, 10, (T9.2.2.2.2.2.2.2.2.2.2.2.2.2.2.2.2.1)))) → (zat h2 184 = some (.inl (2, 6, (T9.2.2.2.2.2.2.2.2.2.2.2.2.2.2.2.2.2.1)))) → (zat h2 186 = some (.inl (2, 6, (T9.2.2.2.2.2.2.2.2.2.2.2.2.2.2.2.2.2.2)))) → ((T9.1) ≠ 0) → (wFz kn lo hi sv sq wy (T9.2.2.2.2.2.2.2.2.1) (T9.2.2.2.2.2.2.2.2.2.1) (T9.2.2.2.2.2.2.2.2.2.2.1) (T9.2.2.2.2.2.2.2.2.2.2.2.1) (T9.2.2.2.2.2.2.2.2.2.2.2.2.2.2.1) (T9.2.2.2.2.2.2.2.2.2.2.2.2.2.2.2.1)) → Q (some (.int (-1)), h2, 0, 0)) (kS : ∀ (h2 : zH), (wFr [162, 166, 168, 170, 172, 174, 176, 178, 180, 182, 184, 186, 198, 188, 190, 194, 212] h h2) → (h2.length = h.length) → (zat h2 162 = some (.inr (.inr (.inr (10, mO (0 : Int32) (0 : Int32) (T9.2.2.2.2.2.2.1) (T9.2.2.2.2.2.2.2.1) (T9.2.2.1) (nI (T9.2.2.2.1)) (T9.2.2.2.2.1) (T9.2.2.2.2.2.1) (T9.1) (T9.2.1) (T9.1) (-1 : Int32) (B9.1) (B9.2.1) n32 (B9.2.2.1) n34 n35 n39 n52))))) → (zat h2 166 = some (.inl (0, 14, (U9.1)))) → (zat h2 168 = some (.inl (0, 12, (U9.2.1)))) → (zat h2 170 = some (.inl (0, 12, (U9.2.2.1)))) → (zat h2 172 = some (.inl (0, 12, (U9.2.2.2.1)))) → (zat h2 174 = some (.inl (0, 12, (U9.2.2.2.2.1)))) → (zat h2 176 = some (.inl (0, 16, (U9.2.2.2.2.2.1)))) → (zat h2 178 = some (.inl (0, 96, (U9.2.2.2.2.2.2.1)))) → (zat h2 180 = some (.inl (0, 20, (U9.2.2.2.2.2.2.2.1)))) → (zat h2 198 = some (.inl (0, 8, (U9.2.2.2.2.2.2.2.2)))) → (zat h2 182 = some (.inl (2, 10, (T9.2.2.2.2.2.2.2.2.2.2.2.2.2.2.2.2.1)))) → (zat h2 184 = some (.inl (2, 6, (T9.2.2.2.2.2.2.2.2.2.2.2.2.2.2.2.2.2.1)))) → (zat h2 186 = some (.inl (2, 6, (T9.2.2.2.2.2.2.2.2.2.2.2.2.2.2.2.2.2.2)))) → (zat h2 188 = some (.inl (0, 6, (B9.2.2.2.1)))) → (zat h2 190 = some (.inl (0, 6, (B9.2.2.2.2.2.1)))) → (zat h2 194 = some (.inl (0, 6, (B9.2.2.2.2.1)))) → (zat h2 212 = some (.inl (2, 2, (B9.2.2.2.2.2.2)))) → ((T9.1) = 0) → (wMT (T9.2.2.2.2.2.2.2.2.1) (T9.2.2.2.2.2.2.2.2.2.1) (T9.2.2.2.2.2.2.2.2.2.2.1) (T9.2.2.2.2.2.2.2.2.2.2.2.1) (T9.2.2.2.2.2.2.2.2.2.2.2.2.1) (T9.2.2.2.2.2.2.2.2.2.2.2.2.2.2.1) (T9.2.2.2.2.2.2.2.2.2.2.2.2.2.2.2.1)) → Q (some (.int (T9.2.2.2.2.2.2.1)), h2, 0, 0)) : wq 185 0 [(0, .ref 162), (1, .int (nI sz))] [] h 0 0 Q := by
  have qnt := nI_toInt (n := t) (by omega)
  have qnsz := nI_toInt (n := sz) (by omega)
  have zm1 : (-1 : Int32).toInt = -1 := rfl
  have z0 : (0 : Int32).toInt = 0 := rfl
  have z1 : (1 : Int32).toInt = 1 := rfl
  have z2 : (2 : Int32).toInt = 2 := rfl
  have z3 : (3 : Int32).toInt = 3 := rfl
  have z4 : (4 : Int32).toInt = 4 := rfl
  have z5 : (5 : Int32).toInt = 5 := rfl
  have z6 : (6 : Int32).toInt = 6 := rfl
  have z8 : (8 : Int32).toInt = 8 := rfl
  have z9 : (9 : Int32).toInt = 9 := rfl
  have z10 : (10 : Int32).toInt = 10 := rfl
  have z32 : (32 : Int32).toInt = 32 := rfl
  have z99 : (99 : Int32).toInt = 99 := rfl
  have z99999 : (99999 : Int32).toInt = 99999 := rfl
  refine wq_gos (f := 1) (pc2 := 2) (ls2 := [(0, .ref 162), (1, .int (nI sz))]) (st2 := [.int 0, .ref 162]) (h2 := h) (dc2 := 0) (ds2 := 0) 2 rfl ?_
  refine wq_putf rfl hM rfl rfl rfl ?_
  intro hh1x e2x ff3x lh4x
  have e2x : zat hh1x 162 = some (.inr (.inr (.inr (10, mO (0 : Int32) (nI t) n14 n15 n16 (nI pl) so va ft fp n22 n23 n27 n28 n32 n33 n34 n35 n39 n52)))) := e2x
  refine wq_gos (f := 1) (pc2 := 6) (ls2 := [(0, .ref 162), (1, .int (nI sz))]) (st2 := [.int (nI sz)]) (h2 := hh1x) (dc2 := 0) (ds2 := 0) 1 rfl ?_
  try have q5x := nI_toInt (n := sz) (by omega)
  refine wq_lt0f rfl rfl (by omega) ?_
  refine wq_gos (f := 1) (pc2 := 11) (ls2 := [(0, .ref 162), (1, .int (nI sz))]) (st2 := [.ref 162, .int (nI sz)]) (h2 := hh1x) (dc2 := 0) (ds2 := 0) 2 rfl ?_
  refine wq_getf rfl e2x rfl rfl ?_
  try have q6x := nI_toInt (n := t) (by omega)
  refine wq_le2t rfl (by omega) ?_
  refine wq_gos (f := 1) (pc2 := 22) (ls2 := [(0, .ref 162), (1, .int (nI sz))]) (st2 := [.int (nI sz), .ref 162]) (h2 := hh1x) (dc2 := 0) (ds2 := 0) 2 rfl ?_
  have e7x := (ff3x.2 _ _ (wnc (by decide) wn0) hT)
  have e8x := (ff3x.2 _ _ (wnc (by decide) wn0) hKn)
  have e9x := (ff3x.2 _ _ (wnc (by decide) wn0) hLo)
  have e10x := (ff3x.2 _ _ (wnc (by decide) wn0) hHi)
  have e11x := (ff3x.2 _ _ (wnc (by decide) wn0) hSv)
  have e12x := (ff3x.2 _ _ (wnc (by decide) wn0) hRt)
  have e13x := (ff3x.2 _ _ (wnc (by decide) wn0) hSn)
  have e14x := (ff3x.2 _ _ (wnc (by decide) wn0) hSq)
  have e15x := (ff3x.2 _ _ (wnc (by decide) wn0) hWy)
  have e16x := (ff3x.2 _ _ (wnc (by decide) wn0) hIt)
  have e17x := (ff3x.2 _ _ (wnc (by decide) wn0) hHd)
  have e18x := (ff3x.2 _ _ (wnc (by decide) wn0) hHs)
  refine wq_inlv (y2 := 183) (as := [.int (nI sz)]) rfl rfl rfl e2x rfl (wq_mono (m_rtx e2x e7x e8x e9x e10x e11x e12x e13x e14x e15x e16x e17x e18x (by first | assumption | omega | decide | solve_by_elim) (wFz_rf _ _ _ _ _ _)) ?_)
  rintro _ ⟨h819x, rfl, f819x, l819x, c019x, c119x, c219x, c319x, c419x, c519x, c619x, c719x, c819x, c919x, c1019x, c1119x, p019x, p119x, p219x⟩
  show wq 185 25 [(0, .ref 162), (1, .int (nI sz))] [] h819x 0 0 _
  obtain ⟨v20x, hv21x⟩ : ∃ x, x = (mRtx tb sz va fp kn lo hi sv rt sn sq wy it hl hs) := ⟨_, rfl⟩
  try rw [← hv21x] at c019x
  try rw [← hv21x] at c119x
  try rw [← hv21x] at c219x
  try rw [← hv21x] at c319x
  try rw [← hv21x] at c419x
  try rw [← hv21x] at c519x
  try rw [← hv21x] at c619x
  try rw [← hv21x] at c719x
  try rw [← hv21x] at c819x
  try rw [← hv21x] at c919x
  try rw [← hv21x] at c1019x
  try rw [← hv21x] at c1119x
  try rw [← hv21x] at p019x
  try rw [← hv21x] at p119x
  try rw [← hv21x] at p219x
  try rw [← hv21x]
  refine wq_gos (f := 1) (pc2 := 27) (ls2 := [(0, .ref 162), (1, .int (nI sz))]) (st2 := [.int 0, .ref 162]) (h2 := h819x) (dc2 := 0) (ds2 := 0) 2 rfl ?_
  refine wq_putf rfl c019x rfl rfl rfl ?_
  intro hh22x e23x ff24x lh25x
  have e23x : zat hh22x 162 = some (.inr (.inr (.inr (10, mO (0 : Int32) (0 : Int32) (v20x.2.2.2.2.2.2.1) (v20x.2.2.2.2.2.2.2.1) (v20x.2.2.1) (nI (v20x.2.2.2.1)) (v20x.2.2.2.2.1) (v20x.2.2.2.2.2.1) (v20x.1) (v20x.2.1) n22 n23 n27 n28 n32 n33 n34 n35 n39 n52)))) := e23x
  refine wq_gos (f := 1) (pc2 := 32) (ls2 := [(0, .ref 162), (1, .int (nI sz))]) (st2 := [.ref 162, .ref 162]) (h2 := hh22x) (dc2 := 0) (ds2 := 0) 2 rfl ?_
  refine wq_getf rfl e23x rfl rfl ?_
  refine wq_putf rfl e23x rfl rfl rfl ?_
  intro hh26x e27x ff28x lh29x
  have e27x : zat hh26x 162 = some (.inr (.inr (.inr (10, mO (0 : Int32) (0 : Int32) (v20x.2.2.2.2.2.2.1) (v20x.2.2.2.2.2.2.2.1) (v20x.2.2.1) (nI (v20x.2.2.2.1)) (v20x.2.2.2.2.1) (v20x.2.2.2.2.2.1) (v20x.1) (v20x.2.1) (v20x.1) n23 n27 n28 n32 n33 n34 n35 n39 n52)))) := e27x
  refine wq_gos (f := 1) (pc2 := 40) (ls2 := [(0, .ref 162), (1, .int (nI sz))]) (st2 := [.ref 162, .ref 162]) (h2 := hh26x) (dc2 := 0) (ds2 := 0) 2 rfl ?_
  refine wq_getf rfl e27x rfl rfl ?_
  refine wq_ne0 rfl rfl (fun b30x => ?_) (fun b30x => ?_)
  · have q31x : (v20x.1).toInt ≠ 0 := fun q => b30x (Int32.toInt_inj.mp q)
    refine wq_gos (f := 1) (pc2 := 51) (ls2 := [(0, .ref 162), (1, .int (nI sz))]) (st2 := [.ref 162, .ref 162]) (h2 := hh26x) (dc2 := 0) (ds2 := 0) 1 rfl ?_
    refine wq_getf rfl e27x rfl rfl ?_
    refine wq_putf rfl e27x rfl rfl rfl ?_
    intro hh32x e33x ff34x lh35x
    have e33x : zat hh32x 162 = some (.inr (.inr (.inr (10, mO (0 : Int32) (0 : Int32) (v20x.2.2.2.2.2.2.1) (v20x.2.2.2.2.2.2.2.1) (v20x.2.2.1) (nI (v20x.2.2.2.1)) (v20x.2.2.2.2.1) (v20x.2.2.2.2.2.1) (v20x.1) (v20x.2.1) (v20x.1) (v20x.2.1) n27 n28 n32 n33 n34 n35 n39 n52)))) := e33x
    refine wq_gos (f := 1) (pc2 := 58) (ls2 := [(0, .ref 162), (1, .int (nI sz))]) (st2 := [.ref 162]) (h2 := hh32x) (dc2 := 0) (ds2 := 0) 1 rfl ?_
    refine wq_getf rfl e33x rfl rfl ?_
    refine wq_eq0f rfl rfl b30x ?_
    refine wq_gos (f := 1) (pc2 := 65) (ls2 := [(0, .ref 162), (1, .int (nI sz))]) (st2 := [.int (-1)]) (h2 := hh32x) (dc2 := 0) (ds2 := 0) 1 rfl ?_
    have e36x := (ff34x.2 _ _ (wnc (by decide) wn0) (ff28x.2 _ _ (wnc (by decide) wn0) (ff24x.2 _ _ (wnc (by decide) wn0) c119x)))
    have e37x := (ff34x.2 _ _ (wnc (by decide) wn0) (ff28x.2 _ _ (wnc (by decide) wn0) (ff24x.2 _ _ (wnc (by decide) wn0) c219x)))
    have e38x := (ff34x.2 _ _ (wnc (by decide) wn0) (ff28x.2 _ _ (wnc (by decide) wn0) (ff24x.2 _ _ (wnc (by decide) wn0) c319x)))
    have e39x := (ff34x.2 _ _ (wnc (by decide) wn0) (ff28x.2 _ _ (wnc (by decide) wn0) (ff24x.2 _ _ (wnc (by decide) wn0) c419x)))
    have e40x := (ff34x.2 _ _ (wnc (by decide) wn0) (ff28x.2 _ _ (wnc (by decide) wn0) (ff24x.2 _ _ (wnc (by decide) wn0) c519x)))
    have e41x := (ff34x.2 _ _ (wnc (by decide) wn0) (ff28x.2 _ _ (wnc (by decide) wn0) (ff24x.2 _ _ (wnc (by decide) wn0) c619x)))
    have e42x := (ff34x.2 _ _ (wnc (by decide) wn0) (ff28x.2 _ _ (wnc (by decide) wn0) (ff24x.2 _ _ (wnc (by decide) wn0) c719x)))
    have e43x := (ff34x.2 _ _ (wnc (by decide) wn0) (ff28x.2 _ _ (wnc (by decide) wn0) (ff24x.2 _ _ (wnc (by decide) wn0) c819x)))
    have e44x := (ff34x.2 _ _ (wnc (by decide) wn0) (ff28x.2 _ _ (wnc (by decide) wn0) (ff24x.2 _ _ (wnc (by decide) wn0) c919x)))
    have e45x := (ff34x.2 _ _ (wnc (by decide) wn0) (ff28x.2 _ _ (wnc (by decide) wn0) (ff24x.2 _ _ (wnc (by decide) wn0) c1019x)))
    have e46x := (ff34x.2 _ _ (wnc (by decide) wn0) (ff28x.2 _ _ (wnc (by decide) wn0) (ff24x.2 _ _ (wnc (by decide) wn0) c1119x)))
    obtain rfl : v20x = T9 := hv21x.trans hT9.symm
    exact wq_ret rfl rfl (kF hh32x (wFr_tr (wFr_sub ff3x (by simp)) (wFr_tr (wFr_sub f819x (by simp)) (wFr_tr (wFr_sub ff24x (by simp)) (wFr_tr (wFr_sub ff28x (by simp)) (wFr_sub ff34x (by simp)))))) (by omega) e33x e36x e37x e38x e39x e40x e41x e42x e43x e44x e45x e46x (by assumption) (by first | assumption | solve_by_elim | (rename_i z9; exact z9 (by omega)) | omega))
  · have q47x : (v20x.1).toInt = 0 := congrArg Int32.toInt b30x
    refine wq_gos (f := 1) (pc2 := 54) (ls2 := [(0, .ref 162), (1, .int (nI sz))]) (st2 := [.int (-1), .ref 162]) (h2 := hh26x) (dc2 := 0) (ds2 := 0) 2 rfl ?_
    refine wq_putf rfl e27x rfl rfl rfl ?_
    intro hh48x e49x ff50x lh51x
    have e49x : zat hh48x 162 = some (.inr (.inr (.inr (10, mO (0 : Int32) (0 : Int32) (v20x.2.2.2.2.2.2.1) (v20x.2.2.2.2.2.2.2.1) (v20x.2.2.1) (nI (v20x.2.2.2.1)) (v20x.2.2.2.2.1) (v20x.2.2.2.2.2.1) (v20x.1) (v20x.2.1) (v20x.1) (-1 : Int32) n27 n28 n32 n33 n34 n35 n39 n52)))) := e49x
    refine wq_gos (f := 1) (pc2 := 58) (ls2 := [(0, .ref 162), (1, .int (nI sz))]) (st2 := [.ref 162]) (h2 := hh48x) (dc2 := 0) (ds2 := 0) 1 rfl ?_
    refine wq_getf rfl e49x rfl rfl ?_
    refine wq_eq0t rfl b30x ?_
    refine wq_gos (f := 1) (pc2 := 67) (ls2 := [(0, .ref 162), (1, .int (nI sz))]) (st2 := [.ref 162]) (h2 := hh48x) (dc2 := 0) (ds2 := 0) 1 rfl ?_
    have e52x := (ff50x.2 _ _ (wnc (by decide) wn0) (ff28x.2 _ _ (wnc (by decide) wn0) (ff24x.2 _ _ (wnc (by decide) wn0) c119x)))
    have e53x := (ff50x.2 _ _ (wnc (by decide) wn0) (ff28x.2 _ _ (wnc (by decide) wn0) (ff24x.2 _ _ (wnc (by decide) wn0) c219x)))
    have e54x := (ff50x.2 _ _ (wnc (by decide) wn0) (ff28x.2 _ _ (wnc (by decide) wn0) (ff24x.2 _ _ (wnc (by decide) wn0) c319x)))
    have e55x := (ff50x.2 _ _ (wnc (by decide) wn0) (ff28x.2 _ _ (wnc (by decide) wn0) (ff24x.2 _ _ (wnc (by decide) wn0) c419x)))
    have e56x := (ff50x.2 _ _ (wnc (by decide) wn0) (ff28x.2 _ _ (wnc (by decide) wn0) (ff24x.2 _ _ (wnc (by decide) wn0) c519x)))
    have e57x := (ff50x.2 _ _ (wnc (by decide) wn0) (ff28x.2 _ _ (wnc (by decide) wn0) (ff24x.2 _ _ (wnc (by decide) wn0) c619x)))
    have e58x := (ff50x.2 _ _ (wnc (by decide) wn0) (ff28x.2 _ _ (wnc (by decide) wn0) (ff24x.2 _ _ (wnc (by decide) wn0) c719x)))
    have e59x := (ff50x.2 _ _ (wnc (by decide) wn0) (ff28x.2 _ _ (wnc (by decide) wn0) (ff24x.2 _ _ (wnc (by decide) wn0) c819x)))
    have e60x := (ff50x.2 _ _ (wnc (by decide) wn0) (ff28x.2 _ _ (wnc (by decide) wn0) (ff24x.2 _ _ (wnc (by decide) wn0) (f819x.2 _ _ (wnc (by decide) (wnc (by decide) (wnc (by decide) (wnc (by decide) (wnc (by decide) (wnc (by decide) (wnc (by decide) (wnc (by decide) (wnc (by decide) (wnc (by decide) (wnc (by decide) (wnc (by decide) wn0)))))))))))) (ff3x.2 _ _ (wnc (by decide) wn0) hSm)))))
    refine wq_inlv (y2 := 184) (as := []) rfl rfl rfl e49x rfl (wq_mono (m_tkT e49x e52x e53x e54x e55x e56x e57x e58x e59x e60x) ?_)
    rintro _ ⟨h861x, rfl, f861x, l861x, c061x, c161x, c261x, c361x, c461x, c561x, c661x, c761x, c861x⟩
    show wq 185 70 [(0, .ref 162), (1, .int (nI sz))] [] h861x 0 0 _
    obtain ⟨v62x, hv63x⟩ : ∃ x, x = (mTkT (v20x.2.2.2.2.2.2.2.2.1) (v20x.2.2.2.2.2.2.2.2.2.1) (v20x.2.2.2.2.2.2.2.2.2.2.1) (v20x.2.2.2.2.2.2.2.2.2.2.2.1) (v20x.2.2.2.2.2.2.2.2.2.2.2.2.1) (v20x.2.2.2.2.2.2.2.2.2.2.2.2.2.1) (v20x.2.2.2.2.2.2.2.2.2.2.2.2.2.2.1) (v20x.2.2.2.2.2.2.2.2.2.2.2.2.2.2.2.1) sm) := ⟨_, rfl⟩
    try rw [← hv63x] at c061x
    try rw [← hv63x] at c161x
    try rw [← hv63x] at c261x
    try rw [← hv63x] at c361x
    try rw [← hv63x] at c461x
    try rw [← hv63x] at c561x
    try rw [← hv63x] at c661x
    try rw [← hv63x] at c761x
    try rw [← hv63x] at c861x
    try rw [← hv63x]
    refine wq_gos (f := 1) (pc2 := 71) (ls2 := [(0, .ref 162), (1, .int (nI sz))]) (st2 := [.ref 162]) (h2 := h861x) (dc2 := 0) (ds2 := 0) 1 rfl ?_
    have e64x := (f861x.2 _ _ (wnc (by decide) (wnc (by decide) (wnc (by decide) (wnc (by decide) (wnc (by decide) (wnc (by decide) (wnc (by decide) (wnc (by decide) (wnc (by decide) wn0))))))))) e49x)
    have e65x := (f861x.2 _ _ (wnc (by decide) (wnc (by decide) (wnc (by decide) (wnc (by decide) (wnc (by decide) (wnc (by decide) (wnc (by decide) (wnc (by decide) (wnc (by decide) wn0))))))))) (ff50x.2 _ _ (wnc (by decide) wn0) (ff28x.2 _ _ (wnc (by decide) wn0) (ff24x.2 _ _ (wnc (by decide) wn0) (f819x.2 _ _ (wnc (by decide) (wnc (by decide) (wnc (by decide) (wnc (by decide) (wnc (by decide) (wnc (by decide) (wnc (by decide) (wnc (by decide) (wnc (by decide) (wnc (by decide) (wnc (by decide) (wnc (by decide) wn0)))))))))))) (ff3x.2 _ _ (wnc (by decide) wn0) hNw))))))
    have e66x := (f861x.2 _ _ (wnc (by decide) (wnc (by decide) (wnc (by decide) (wnc (by decide) (wnc (by decide) (wnc (by decide) (wnc (by decide) (wnc (by decide) (wnc (by decide) wn0))))))))) (ff50x.2 _ _ (wnc (by decide) wn0) (ff28x.2 _ _ (wnc (by decide) wn0) (ff24x.2 _ _ (wnc (by decide) wn0) (f819x.2 _ _ (wnc (by decide) (wnc (by decide) (wnc (by decide) (wnc (by decide) (wnc (by decide) (wnc (by decide) (wnc (by decide) (wnc (by decide) (wnc (by decide) (wnc (by decide) (wnc (by decide) (wnc (by decide) wn0)))))))))))) (ff3x.2 _ _ (wnc (by decide) wn0) hAm))))))
    have e67x := (f861x.2 _ _ (wnc (by decide) (wnc (by decide) (wnc (by decide) (wnc (by decide) (wnc (by decide) (wnc (by decide) (wnc (by decide) (wnc (by decide) (wnc (by decide) wn0))))))))) (ff50x.2 _ _ (wnc (by decide) wn0) (ff28x.2 _ _ (wnc (by decide) wn0) (ff24x.2 _ _ (wnc (by decide) wn0) (f819x.2 _ _ (wnc (by decide) (wnc (by decide) (wnc (by decide) (wnc (by decide) (wnc (by decide) (wnc (by decide) (wnc (by decide) (wnc (by decide) (wnc (by decide) (wnc (by decide) (wnc (by decide) (wnc (by decide) wn0)))))))))))) (ff3x.2 _ _ (wnc (by decide) wn0) hTh))))))
    have e68x := (f861x.2 _ _ (wnc (by decide) (wnc (by decide) (wnc (by decide) (wnc (by decide) (wnc (by decide) (wnc (by decide) (wnc (by decide) (wnc (by decide) (wnc (by decide) wn0))))))))) (ff50x.2 _ _ (wnc (by decide) wn0) (ff28x.2 _ _ (wnc (by decide) wn0) (ff24x.2 _ _ (wnc (by decide) wn0) (f819x.2 _ _ (wnc (by decide) (wnc (by decide) (wnc (by decide) (wnc (by decide) (wnc (by decide) (wnc (by decide) (wnc (by decide) (wnc (by decide) (wnc (by decide) (wnc (by decide) (wnc (by decide) (wnc (by decide) wn0)))))))))))) (ff3x.2 _ _ (wnc (by decide) wn0) hHr))))))
    refine wq_inlv (y2 := 188) (as := []) rfl rfl rfl e64x rfl (wq_mono (m_beg e64x c061x c461x e65x e66x e67x e68x) ?_)
    rintro _ ⟨h869x, rfl, f869x, l869x, c069x, c169x, c269x, c369x, c469x⟩
    show wq 185 74 [(0, .ref 162), (1, .int (nI sz))] [] h869x 0 0 _
    obtain ⟨v70x, hv71x⟩ : ∃ x, x = (mBeg (v62x.1) (v62x.2.2.2.2.1) nw am th hr) := ⟨_, rfl⟩
    try rw [← hv71x] at c069x
    try rw [← hv71x] at c169x
    try rw [← hv71x] at c269x
    try rw [← hv71x] at c369x
    try rw [← hv71x] at c469x
    try rw [← hv71x]
    refine wq_gos (f := 1) (pc2 := 75) (ls2 := [(0, .ref 162), (1, .int (nI sz))]) (st2 := [.ref 162]) (h2 := h869x) (dc2 := 0) (ds2 := 0) 1 rfl ?_
    refine wq_getf rfl c069x rfl rfl ?_
    have e72x := (f869x.2 _ _ (wnc (by decide) (wnc (by decide) (wnc (by decide) (wnc (by decide) (wnc (by decide) wn0))))) c061x)
    have e73x := (f869x.2 _ _ (wnc (by decide) (wnc (by decide) (wnc (by decide) (wnc (by decide) (wnc (by decide) wn0))))) c161x)
    have e74x := (f869x.2 _ _ (wnc (by decide) (wnc (by decide) (wnc (by decide) (wnc (by decide) (wnc (by decide) wn0))))) c261x)
    have e75x := (f869x.2 _ _ (wnc (by decide) (wnc (by decide) (wnc (by decide) (wnc (by decide) (wnc (by decide) wn0))))) c361x)
    have e76x := (f869x.2 _ _ (wnc (by decide) (wnc (by decide) (wnc (by decide) (wnc (by decide) (wnc (by decide) wn0))))) c461x)
    have e77x := (f869x.2 _ _ (wnc (by decide) (wnc (by decide) (wnc (by decide) (wnc (by decide) (wnc (by decide) wn0))))) c561x)
    have e78x := (f869x.2 _ _ (wnc (by decide) (wnc (by decide) (wnc (by decide) (wnc (by decide) (wnc (by decide) wn0))))) c661x)
    have e79x := (f869x.2 _ _ (wnc (by decide) (wnc (by decide) (wnc (by decide) (wnc (by decide) (wnc (by decide) wn0))))) c761x)
    have e80x := (f869x.2 _ _ (wnc (by decide) (wnc (by decide) (wnc (by decide) (wnc (by decide) (wnc (by decide) wn0))))) c861x)
    have e81x := (f869x.2 _ _ (wnc (by decide) (wnc (by decide) (wnc (by decide) (wnc (by decide) (wnc (by decide) wn0))))) (f861x.2 _ _ (wnc (by decide) (wnc (by decide) (wnc (by decide) (wnc (by decide) (wnc (by decide) (wnc (by decide) (wnc (by decide) (wnc (by decide) (wnc (by decide) wn0))))))))) (ff50x.2 _ _ (wnc (by decide) wn0) (ff28x.2 _ _ (wnc (by decide) wn0) (ff24x.2 _ _ (wnc (by decide) wn0) c919x)))))
    have e82x := (f869x.2 _ _ (wnc (by decide) (wnc (by decide) (wnc (by decide) (wnc (by decide) (wnc (by decide) wn0))))) (f861x.2 _ _ (wnc (by decide) (wnc (by decide) (wnc (by decide) (wnc (by decide) (wnc (by decide) (wnc (by decide) (wnc (by decide) (wnc (by decide) (wnc (by decide) wn0))))))))) (ff50x.2 _ _ (wnc (by decide) wn0) (ff28x.2 _ _ (wnc (by decide) wn0) (ff24x.2 _ _ (wnc (by decide) wn0) c1019x)))))
    have e83x := (f869x.2 _ _ (wnc (by decide) (wnc (by decide) (wnc (by decide) (wnc (by decide) (wnc (by decide) wn0))))) (f861x.2 _ _ (wnc (by decide) (wnc (by decide) (wnc (by decide) (wnc (by decide) (wnc (by decide) (wnc (by decide) (wnc (by decide) (wnc (by decide) (wnc (by decide) wn0))))))))) (ff50x.2 _ _ (wnc (by decide) wn0) (ff28x.2 _ _ (wnc (by decide) wn0) (ff24x.2 _ _ (wnc (by decide) wn0) c1119x)))))
    obtain rfl : v20x = T9 := hv21x.trans hT9.symm
    obtain rfl : v62x = U9 := hv63x.trans hU9.symm
    obtain rfl : v70x = B9 := hv71x.trans hB9.symm
    exact wq_ret rfl rfl (kS h869x (wFr_tr (wFr_sub ff3x (by simp)) (wFr_tr (wFr_sub f819x (by simp)) (wFr_tr (wFr_sub ff24x (by simp)) (wFr_tr (wFr_sub ff28x (by simp)) (wFr_tr (wFr_sub ff50x (by simp)) (wFr_tr (wFr_sub f861x (by simp)) (wFr_sub f869x (by simp)))))))) (by omega) c069x e72x e73x e74x e75x e76x e77x e78x e79x e80x e81x e82x e83x c169x c269x c369x c469x (by assumption) (by first | assumption | solve_by_elim | (rename_i z9; exact z9 (by omega)) | omega))
