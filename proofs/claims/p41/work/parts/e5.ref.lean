/-! The reference: feed, keep, back, undo, what is remembered. -/
set_option maxRecDepth 100000 in
set_option maxHeartbeats 4000000 in
theorem m_feedN {h : zH} {n0 n14 n15 n16 n17 n18 n19 n20 n21 n22 n23 n27 n28 n32 n33 n34 n35 n39 n52 : Int32} {t : Nat} {a b c d e : Int32} (hM : zat h 162 = some (.inr (.inr (.inr (10, mO n0 (nI t) n14 n15 n16 n17 n18 n19 n20 n21 n22 n23 n27 n28 n32 n33 n34 n35 n39 n52))))) (ht : 680 < t ∧ t ≤ 700) : wq 155 0 [(0, .ref 162), (1, .int a), (2, .int b), (3, .int c), (4, .int d), (5, .int e)] [] h 0 0 (fun r => ∃ (h2 : zH), r = (some (.int (-1)), h2, 0, 0) ∧ wFr [162] h h2 ∧ h2.length = h.length ∧ zat h2 162 = some (.inr (.inr (.inr (10, mO (0 : Int32) (nI t) n14 n15 n16 n17 n18 n19 n20 n21 n22 n23 n27 n28 n32 n33 n34 n35 n39 n52))))) := by
  have qnt := nI_toInt (n := t) (by omega)
  refine wq_gos (f := 1) (pc2 := 2) (ls2 := [(0, .ref 162), (1, .int a), (2, .int b), (3, .int c), (4, .int d), (5, .int e)]) (st2 := [.int 0, .ref 162]) (h2 := h) (dc2 := 0) (ds2 := 0) 2 rfl ?_
  refine wq_putf rfl hM rfl rfl rfl ?_
  intro h1x e2x f3x l4x
  have e2x : zat h1x 162 = some (.inr (.inr (.inr (10, mO (0 : Int32) (nI t) n14 n15 n16 n17 n18 n19 n20 n21 n22 n23 n27 n28 n32 n33 n34 n35 n39 n52)))) := e2x
  refine wq_gos (f := 1) (pc2 := 6) (ls2 := [(0, .ref 162), (1, .int a), (2, .int b), (3, .int c), (4, .int d), (5, .int e)]) (st2 := [.ref 162]) (h2 := h1x) (dc2 := 0) (ds2 := 0) 1 rfl ?_
  refine wq_getf rfl e2x rfl rfl ?_
  refine wq_gos (f := 1) (pc2 := 12) (ls2 := [(0, .ref 162), (1, .int a), (2, .int b), (3, .int c), (4, .int d), (5, .int e)]) (st2 := [.int 680, .int (nI t)]) (h2 := h1x) (dc2 := 0) (ds2 := 0) 1 rfl ?_
  try have q5x := nI_toInt (n := t) (by omega)
  have q6x : (680 : Int32).toInt = 680 := rfl
  refine wq_le2f rfl rfl (by omega) ?_
  refine wq_gos (f := 1) (pc2 := 16) (ls2 := [(0, .ref 162), (1, .int a), (2, .int b), (3, .int c), (4, .int d), (5, .int e)]) (st2 := [.int (-1)]) (h2 := h1x) (dc2 := 0) (ds2 := 0) 1 rfl ?_
  exact wq_ret rfl rfl ⟨h1x, rfl, (wFr_sub f3x (by simp)), (by omega), e2x⟩
set_option maxRecDepth 100000 in
set_option maxHeartbeats 4000000 in
theorem m_feed {h : zH} {n0 n14 n15 n16 n17 n18 n19 n20 n21 n22 n23 n27 n28 n32 n33 n34 n35 n39 n52 : Int32} {t : Nat} {tb : List Int32} {a b c d e : Int32} (hM : zat h 162 = some (.inr (.inr (.inr (10, mO n0 (nI t) n14 n15 n16 n17 n18 n19 n20 n21 n22 n23 n27 n28 n32 n33 n34 n35 n39 n52))))) (hT : zat h 164 = some (.inl (0, 700, tb))) (ht : t ≤ 680) : wq 155 0 [(0, .ref 162), (1, .int a), (2, .int b), (3, .int c), (4, .int d), (5, .int e)] [] h 0 0 (fun r => ∃ (h2 : zH) (tb2 : List Int32), r = (some (.int (nI (t + 20))), h2, 0, 0) ∧ wFr [162, 164] h h2 ∧ h2.length = h.length ∧ zat h2 162 = some (.inr (.inr (.inr (10, mO (0 : Int32) (nI (t + 20)) n14 n15 n16 n17 n18 n19 n20 n21 n22 n23 n27 n28 n32 n33 n34 n35 n39 n52)))) ∧ zat h2 164 = some (.inl (0, 700, tb2)) ∧ ∀ i, i < t → tb2.getD i 0 = tb.getD i 0) := by
  have qnt := nI_toInt (n := t) (by omega)
  refine wq_gos (f := 1) (pc2 := 2) (ls2 := [(0, .ref 162), (1, .int a), (2, .int b), (3, .int c), (4, .int d), (5, .int e)]) (st2 := [.int 0, .ref 162]) (h2 := h) (dc2 := 0) (ds2 := 0) 2 rfl ?_
  refine wq_putf rfl hM rfl rfl rfl ?_
  intro h1x e2x f3x l4x
  have e2x : zat h1x 162 = some (.inr (.inr (.inr (10, mO (0 : Int32) (nI t) n14 n15 n16 n17 n18 n19 n20 n21 n22 n23 n27 n28 n32 n33 n34 n35 n39 n52)))) := e2x
  refine wq_gos (f := 1) (pc2 := 6) (ls2 := [(0, .ref 162), (1, .int a), (2, .int b), (3, .int c), (4, .int d), (5, .int e)]) (st2 := [.ref 162]) (h2 := h1x) (dc2 := 0) (ds2 := 0) 1 rfl ?_
  refine wq_getf rfl e2x rfl rfl ?_
  refine wq_gos (f := 1) (pc2 := 12) (ls2 := [(0, .ref 162), (1, .int a), (2, .int b), (3, .int c), (4, .int d), (5, .int e)]) (st2 := [.int 680, .int (nI t)]) (h2 := h1x) (dc2 := 0) (ds2 := 0) 1 rfl ?_
  try have q5x := nI_toInt (n := t) (by omega)
  have q6x : (680 : Int32).toInt = 680 := rfl
  refine wq_le2t rfl (by omega) ?_
  refine wq_gos (f := 1) (pc2 := 76) (ls2 := [(7, .int a), (6, .int 0), (0, .ref 162), (1, .int a), (2, .int b), (3, .int c), (4, .int d), (5, .int e)]) (st2 := [.ref 162]) (h2 := h1x) (dc2 := 0) (ds2 := 0) 12 rfl ?_
  refine wq_getf rfl e2x rfl rfl ?_
  refine wq_gos (f := 1) (pc2 := 80) (ls2 := [(7, .int a), (6, .int 0), (0, .ref 162), (1, .int a), (2, .int b), (3, .int c), (4, .int d), (5, .int e)]) (st2 := [.ref 162, .ref 164]) (h2 := h1x) (dc2 := 0) (ds2 := 0) 1 rfl ?_
  refine wq_getf rfl e2x rfl rfl ?_
  refine wq_gos (f := 1) (pc2 := 86) (ls2 := [(7, .int a), (6, .int 0), (0, .ref 162), (1, .int a), (2, .int b), (3, .int c), (4, .int d), (5, .int e)]) (st2 := [.int ((nI t) + (0 : Int32)), .ref 164]) (h2 := h1x) (dc2 := 0) (ds2 := 0) 2 rfl ?_
  refine wq_vi (show (nI t) + (0 : Int32) = nI (t + 0) from nI_add t 0) ?_
  refine wq_gos (f := 1) (pc2 := 103) (ls2 := [(7, .int a), (6, .int 0), (0, .ref 162), (1, .int a), (2, .int b), (3, .int c), (4, .int d), (5, .int e)]) (st2 := [.int ((a >>> ((24 : Int32) &&& 31)) &&& (255 : Int32)), .int (nI (t + 0)), .ref 164]) (h2 := h1x) (dc2 := 0) (ds2 := 0) 11 rfl ?_
  have e7x := (f3x.2 _ _ (wnc (by decide) wn0) hT)
  try have q8x := nI_toInt (n := (t + 0)) (by omega)
  refine wq_iastn rfl e7x (by first | omega | exact zin_t (by omega) (by omega)) (by decide) rfl ?_
  intro h9x e10x f11x l12x
  have e10x : zat h9x 164 = some (.inl (0, 700, (zset 0 tb (t + 0) ((a >>> ((24 : Int32) &&& 31)) &&& (255 : Int32))))) := e10x
  refine wq_gos (f := 1) (pc2 := 76) (ls2 := [(7, .int a), (6, .int 1), (0, .ref 162), (1, .int a), (2, .int b), (3, .int c), (4, .int d), (5, .int e)]) (st2 := [.ref 162]) (h2 := h9x) (dc2 := 0) (ds2 := 0) 12 rfl ?_
  have e13x := (f11x.2 _ _ (wnc (by decide) wn0) e2x)
  refine wq_getf rfl e13x rfl rfl ?_
  refine wq_gos (f := 1) (pc2 := 80) (ls2 := [(7, .int a), (6, .int 1), (0, .ref 162), (1, .int a), (2, .int b), (3, .int c), (4, .int d), (5, .int e)]) (st2 := [.ref 162, .ref 164]) (h2 := h9x) (dc2 := 0) (ds2 := 0) 1 rfl ?_
  refine wq_getf rfl e13x rfl rfl ?_
  refine wq_gos (f := 1) (pc2 := 86) (ls2 := [(7, .int a), (6, .int 1), (0, .ref 162), (1, .int a), (2, .int b), (3, .int c), (4, .int d), (5, .int e)]) (st2 := [.int ((nI t) + (1 : Int32)), .ref 164]) (h2 := h9x) (dc2 := 0) (ds2 := 0) 2 rfl ?_
  refine wq_vi (show (nI t) + (1 : Int32) = nI (t + 1) from nI_add t 1) ?_
  refine wq_gos (f := 1) (pc2 := 103) (ls2 := [(7, .int a), (6, .int 1), (0, .ref 162), (1, .int a), (2, .int b), (3, .int c), (4, .int d), (5, .int e)]) (st2 := [.int ((a >>> ((16 : Int32) &&& 31)) &&& (255 : Int32)), .int (nI (t + 1)), .ref 164]) (h2 := h9x) (dc2 := 0) (ds2 := 0) 11 rfl ?_
  try have q14x := nI_toInt (n := (t + 1)) (by omega)
  refine wq_iastn rfl e10x (by first | omega | exact zin_t (by omega) (by omega)) (by decide) rfl ?_
  intro h15x e16x f17x l18x
  have e16x : zat h15x 164 = some (.inl (0, 700, (zset 0 (zset 0 tb (t + 0) ((a >>> ((24 : Int32) &&& 31)) &&& (255 : Int32))) (t + 1) ((a >>> ((16 : Int32) &&& 31)) &&& (255 : Int32))))) := e16x
  refine wq_gos (f := 1) (pc2 := 76) (ls2 := [(7, .int a), (6, .int 2), (0, .ref 162), (1, .int a), (2, .int b), (3, .int c), (4, .int d), (5, .int e)]) (st2 := [.ref 162]) (h2 := h15x) (dc2 := 0) (ds2 := 0) 12 rfl ?_
  have e19x := (f17x.2 _ _ (wnc (by decide) wn0) e13x)
  refine wq_getf rfl e19x rfl rfl ?_
  refine wq_gos (f := 1) (pc2 := 80) (ls2 := [(7, .int a), (6, .int 2), (0, .ref 162), (1, .int a), (2, .int b), (3, .int c), (4, .int d), (5, .int e)]) (st2 := [.ref 162, .ref 164]) (h2 := h15x) (dc2 := 0) (ds2 := 0) 1 rfl ?_
  refine wq_getf rfl e19x rfl rfl ?_
  refine wq_gos (f := 1) (pc2 := 86) (ls2 := [(7, .int a), (6, .int 2), (0, .ref 162), (1, .int a), (2, .int b), (3, .int c), (4, .int d), (5, .int e)]) (st2 := [.int ((nI t) + (2 : Int32)), .ref 164]) (h2 := h15x) (dc2 := 0) (ds2 := 0) 2 rfl ?_
  refine wq_vi (show (nI t) + (2 : Int32) = nI (t + 2) from nI_add t 2) ?_
  refine wq_gos (f := 1) (pc2 := 103) (ls2 := [(7, .int a), (6, .int 2), (0, .ref 162), (1, .int a), (2, .int b), (3, .int c), (4, .int d), (5, .int e)]) (st2 := [.int ((a >>> ((8 : Int32) &&& 31)) &&& (255 : Int32)), .int (nI (t + 2)), .ref 164]) (h2 := h15x) (dc2 := 0) (ds2 := 0) 11 rfl ?_
  try have q20x := nI_toInt (n := (t + 2)) (by omega)
  refine wq_iastn rfl e16x (by first | omega | exact zin_t (by omega) (by omega)) (by decide) rfl ?_
  intro h21x e22x f23x l24x
  have e22x : zat h21x 164 = some (.inl (0, 700, (zset 0 (zset 0 (zset 0 tb (t + 0) ((a >>> ((24 : Int32) &&& 31)) &&& (255 : Int32))) (t + 1) ((a >>> ((16 : Int32) &&& 31)) &&& (255 : Int32))) (t + 2) ((a >>> ((8 : Int32) &&& 31)) &&& (255 : Int32))))) := e22x
  refine wq_gos (f := 1) (pc2 := 76) (ls2 := [(7, .int a), (6, .int 3), (0, .ref 162), (1, .int a), (2, .int b), (3, .int c), (4, .int d), (5, .int e)]) (st2 := [.ref 162]) (h2 := h21x) (dc2 := 0) (ds2 := 0) 12 rfl ?_
  have e25x := (f23x.2 _ _ (wnc (by decide) wn0) e19x)
  refine wq_getf rfl e25x rfl rfl ?_
  refine wq_gos (f := 1) (pc2 := 80) (ls2 := [(7, .int a), (6, .int 3), (0, .ref 162), (1, .int a), (2, .int b), (3, .int c), (4, .int d), (5, .int e)]) (st2 := [.ref 162, .ref 164]) (h2 := h21x) (dc2 := 0) (ds2 := 0) 1 rfl ?_
  refine wq_getf rfl e25x rfl rfl ?_
  refine wq_gos (f := 1) (pc2 := 86) (ls2 := [(7, .int a), (6, .int 3), (0, .ref 162), (1, .int a), (2, .int b), (3, .int c), (4, .int d), (5, .int e)]) (st2 := [.int ((nI t) + (3 : Int32)), .ref 164]) (h2 := h21x) (dc2 := 0) (ds2 := 0) 2 rfl ?_
  refine wq_vi (show (nI t) + (3 : Int32) = nI (t + 3) from nI_add t 3) ?_
  refine wq_gos (f := 1) (pc2 := 103) (ls2 := [(7, .int a), (6, .int 3), (0, .ref 162), (1, .int a), (2, .int b), (3, .int c), (4, .int d), (5, .int e)]) (st2 := [.int ((a >>> ((0 : Int32) &&& 31)) &&& (255 : Int32)), .int (nI (t + 3)), .ref 164]) (h2 := h21x) (dc2 := 0) (ds2 := 0) 11 rfl ?_
  try have q26x := nI_toInt (n := (t + 3)) (by omega)
  refine wq_iastn rfl e22x (by first | omega | exact zin_t (by omega) (by omega)) (by decide) rfl ?_
  intro h27x e28x f29x l30x
  have e28x : zat h27x 164 = some (.inl (0, 700, (zset 0 (zset 0 (zset 0 (zset 0 tb (t + 0) ((a >>> ((24 : Int32) &&& 31)) &&& (255 : Int32))) (t + 1) ((a >>> ((16 : Int32) &&& 31)) &&& (255 : Int32))) (t + 2) ((a >>> ((8 : Int32) &&& 31)) &&& (255 : Int32))) (t + 3) ((a >>> ((0 : Int32) &&& 31)) &&& (255 : Int32))))) := e28x
  refine wq_gos (f := 1) (pc2 := 76) (ls2 := [(7, .int b), (6, .int 4), (0, .ref 162), (1, .int a), (2, .int b), (3, .int c), (4, .int d), (5, .int e)]) (st2 := [.ref 162]) (h2 := h27x) (dc2 := 0) (ds2 := 0) 15 rfl ?_
  have e31x := (f29x.2 _ _ (wnc (by decide) wn0) e25x)
  refine wq_getf rfl e31x rfl rfl ?_
  refine wq_gos (f := 1) (pc2 := 80) (ls2 := [(7, .int b), (6, .int 4), (0, .ref 162), (1, .int a), (2, .int b), (3, .int c), (4, .int d), (5, .int e)]) (st2 := [.ref 162, .ref 164]) (h2 := h27x) (dc2 := 0) (ds2 := 0) 1 rfl ?_
  refine wq_getf rfl e31x rfl rfl ?_
  refine wq_gos (f := 1) (pc2 := 86) (ls2 := [(7, .int b), (6, .int 4), (0, .ref 162), (1, .int a), (2, .int b), (3, .int c), (4, .int d), (5, .int e)]) (st2 := [.int ((nI t) + (4 : Int32)), .ref 164]) (h2 := h27x) (dc2 := 0) (ds2 := 0) 2 rfl ?_
  refine wq_vi (show (nI t) + (4 : Int32) = nI (t + 4) from nI_add t 4) ?_
  refine wq_gos (f := 1) (pc2 := 103) (ls2 := [(7, .int b), (6, .int 4), (0, .ref 162), (1, .int a), (2, .int b), (3, .int c), (4, .int d), (5, .int e)]) (st2 := [.int ((b >>> ((24 : Int32) &&& 31)) &&& (255 : Int32)), .int (nI (t + 4)), .ref 164]) (h2 := h27x) (dc2 := 0) (ds2 := 0) 11 rfl ?_
  try have q32x := nI_toInt (n := (t + 4)) (by omega)
  refine wq_iastn rfl e28x (by first | omega | exact zin_t (by omega) (by omega)) (by decide) rfl ?_
  intro h33x e34x f35x l36x
  have e34x : zat h33x 164 = some (.inl (0, 700, (zset 0 (zset 0 (zset 0 (zset 0 (zset 0 tb (t + 0) ((a >>> ((24 : Int32) &&& 31)) &&& (255 : Int32))) (t + 1) ((a >>> ((16 : Int32) &&& 31)) &&& (255 : Int32))) (t + 2) ((a >>> ((8 : Int32) &&& 31)) &&& (255 : Int32))) (t + 3) ((a >>> ((0 : Int32) &&& 31)) &&& (255 : Int32))) (t + 4) ((b >>> ((24 : Int32) &&& 31)) &&& (255 : Int32))))) := e34x
  refine wq_gos (f := 1) (pc2 := 76) (ls2 := [(7, .int b), (6, .int 5), (0, .ref 162), (1, .int a), (2, .int b), (3, .int c), (4, .int d), (5, .int e)]) (st2 := [.ref 162]) (h2 := h33x) (dc2 := 0) (ds2 := 0) 15 rfl ?_
  have e37x := (f35x.2 _ _ (wnc (by decide) wn0) e31x)
  refine wq_getf rfl e37x rfl rfl ?_
  refine wq_gos (f := 1) (pc2 := 80) (ls2 := [(7, .int b), (6, .int 5), (0, .ref 162), (1, .int a), (2, .int b), (3, .int c), (4, .int d), (5, .int e)]) (st2 := [.ref 162, .ref 164]) (h2 := h33x) (dc2 := 0) (ds2 := 0) 1 rfl ?_
  refine wq_getf rfl e37x rfl rfl ?_
  refine wq_gos (f := 1) (pc2 := 86) (ls2 := [(7, .int b), (6, .int 5), (0, .ref 162), (1, .int a), (2, .int b), (3, .int c), (4, .int d), (5, .int e)]) (st2 := [.int ((nI t) + (5 : Int32)), .ref 164]) (h2 := h33x) (dc2 := 0) (ds2 := 0) 2 rfl ?_
  refine wq_vi (show (nI t) + (5 : Int32) = nI (t + 5) from nI_add t 5) ?_
  refine wq_gos (f := 1) (pc2 := 103) (ls2 := [(7, .int b), (6, .int 5), (0, .ref 162), (1, .int a), (2, .int b), (3, .int c), (4, .int d), (5, .int e)]) (st2 := [.int ((b >>> ((16 : Int32) &&& 31)) &&& (255 : Int32)), .int (nI (t + 5)), .ref 164]) (h2 := h33x) (dc2 := 0) (ds2 := 0) 11 rfl ?_
  try have q38x := nI_toInt (n := (t + 5)) (by omega)
  refine wq_iastn rfl e34x (by first | omega | exact zin_t (by omega) (by omega)) (by decide) rfl ?_
  intro h39x e40x f41x l42x
  have e40x : zat h39x 164 = some (.inl (0, 700, (zset 0 (zset 0 (zset 0 (zset 0 (zset 0 (zset 0 tb (t + 0) ((a >>> ((24 : Int32) &&& 31)) &&& (255 : Int32))) (t + 1) ((a >>> ((16 : Int32) &&& 31)) &&& (255 : Int32))) (t + 2) ((a >>> ((8 : Int32) &&& 31)) &&& (255 : Int32))) (t + 3) ((a >>> ((0 : Int32) &&& 31)) &&& (255 : Int32))) (t + 4) ((b >>> ((24 : Int32) &&& 31)) &&& (255 : Int32))) (t + 5) ((b >>> ((16 : Int32) &&& 31)) &&& (255 : Int32))))) := e40x
  refine wq_gos (f := 1) (pc2 := 76) (ls2 := [(7, .int b), (6, .int 6), (0, .ref 162), (1, .int a), (2, .int b), (3, .int c), (4, .int d), (5, .int e)]) (st2 := [.ref 162]) (h2 := h39x) (dc2 := 0) (ds2 := 0) 15 rfl ?_
  have e43x := (f41x.2 _ _ (wnc (by decide) wn0) e37x)
  refine wq_getf rfl e43x rfl rfl ?_
  refine wq_gos (f := 1) (pc2 := 80) (ls2 := [(7, .int b), (6, .int 6), (0, .ref 162), (1, .int a), (2, .int b), (3, .int c), (4, .int d), (5, .int e)]) (st2 := [.ref 162, .ref 164]) (h2 := h39x) (dc2 := 0) (ds2 := 0) 1 rfl ?_
  refine wq_getf rfl e43x rfl rfl ?_
  refine wq_gos (f := 1) (pc2 := 86) (ls2 := [(7, .int b), (6, .int 6), (0, .ref 162), (1, .int a), (2, .int b), (3, .int c), (4, .int d), (5, .int e)]) (st2 := [.int ((nI t) + (6 : Int32)), .ref 164]) (h2 := h39x) (dc2 := 0) (ds2 := 0) 2 rfl ?_
  refine wq_vi (show (nI t) + (6 : Int32) = nI (t + 6) from nI_add t 6) ?_
  refine wq_gos (f := 1) (pc2 := 103) (ls2 := [(7, .int b), (6, .int 6), (0, .ref 162), (1, .int a), (2, .int b), (3, .int c), (4, .int d), (5, .int e)]) (st2 := [.int ((b >>> ((8 : Int32) &&& 31)) &&& (255 : Int32)), .int (nI (t + 6)), .ref 164]) (h2 := h39x) (dc2 := 0) (ds2 := 0) 11 rfl ?_
  try have q44x := nI_toInt (n := (t + 6)) (by omega)
  refine wq_iastn rfl e40x (by first | omega | exact zin_t (by omega) (by omega)) (by decide) rfl ?_
  intro h45x e46x f47x l48x
  have e46x : zat h45x 164 = some (.inl (0, 700, (zset 0 (zset 0 (zset 0 (zset 0 (zset 0 (zset 0 (zset 0 tb (t + 0) ((a >>> ((24 : Int32) &&& 31)) &&& (255 : Int32))) (t + 1) ((a >>> ((16 : Int32) &&& 31)) &&& (255 : Int32))) (t + 2) ((a >>> ((8 : Int32) &&& 31)) &&& (255 : Int32))) (t + 3) ((a >>> ((0 : Int32) &&& 31)) &&& (255 : Int32))) (t + 4) ((b >>> ((24 : Int32) &&& 31)) &&& (255 : Int32))) (t + 5) ((b >>> ((16 : Int32) &&& 31)) &&& (255 : Int32))) (t + 6) ((b >>> ((8 : Int32) &&& 31)) &&& (255 : Int32))))) := e46x
  refine wq_gos (f := 1) (pc2 := 76) (ls2 := [(7, .int b), (6, .int 7), (0, .ref 162), (1, .int a), (2, .int b), (3, .int c), (4, .int d), (5, .int e)]) (st2 := [.ref 162]) (h2 := h45x) (dc2 := 0) (ds2 := 0) 15 rfl ?_
  have e49x := (f47x.2 _ _ (wnc (by decide) wn0) e43x)
  refine wq_getf rfl e49x rfl rfl ?_
  refine wq_gos (f := 1) (pc2 := 80) (ls2 := [(7, .int b), (6, .int 7), (0, .ref 162), (1, .int a), (2, .int b), (3, .int c), (4, .int d), (5, .int e)]) (st2 := [.ref 162, .ref 164]) (h2 := h45x) (dc2 := 0) (ds2 := 0) 1 rfl ?_
  refine wq_getf rfl e49x rfl rfl ?_
  refine wq_gos (f := 1) (pc2 := 86) (ls2 := [(7, .int b), (6, .int 7), (0, .ref 162), (1, .int a), (2, .int b), (3, .int c), (4, .int d), (5, .int e)]) (st2 := [.int ((nI t) + (7 : Int32)), .ref 164]) (h2 := h45x) (dc2 := 0) (ds2 := 0) 2 rfl ?_
  refine wq_vi (show (nI t) + (7 : Int32) = nI (t + 7) from nI_add t 7) ?_
  refine wq_gos (f := 1) (pc2 := 103) (ls2 := [(7, .int b), (6, .int 7), (0, .ref 162), (1, .int a), (2, .int b), (3, .int c), (4, .int d), (5, .int e)]) (st2 := [.int ((b >>> ((0 : Int32) &&& 31)) &&& (255 : Int32)), .int (nI (t + 7)), .ref 164]) (h2 := h45x) (dc2 := 0) (ds2 := 0) 11 rfl ?_
  try have q50x := nI_toInt (n := (t + 7)) (by omega)
  refine wq_iastn rfl e46x (by first | omega | exact zin_t (by omega) (by omega)) (by decide) rfl ?_
  intro h51x e52x f53x l54x
  have e52x : zat h51x 164 = some (.inl (0, 700, (zset 0 (zset 0 (zset 0 (zset 0 (zset 0 (zset 0 (zset 0 (zset 0 tb (t + 0) ((a >>> ((24 : Int32) &&& 31)) &&& (255 : Int32))) (t + 1) ((a >>> ((16 : Int32) &&& 31)) &&& (255 : Int32))) (t + 2) ((a >>> ((8 : Int32) &&& 31)) &&& (255 : Int32))) (t + 3) ((a >>> ((0 : Int32) &&& 31)) &&& (255 : Int32))) (t + 4) ((b >>> ((24 : Int32) &&& 31)) &&& (255 : Int32))) (t + 5) ((b >>> ((16 : Int32) &&& 31)) &&& (255 : Int32))) (t + 6) ((b >>> ((8 : Int32) &&& 31)) &&& (255 : Int32))) (t + 7) ((b >>> ((0 : Int32) &&& 31)) &&& (255 : Int32))))) := e52x
  refine wq_gos (f := 1) (pc2 := 76) (ls2 := [(7, .int c), (6, .int 8), (0, .ref 162), (1, .int a), (2, .int b), (3, .int c), (4, .int d), (5, .int e)]) (st2 := [.ref 162]) (h2 := h51x) (dc2 := 0) (ds2 := 0) 18 rfl ?_
  have e55x := (f53x.2 _ _ (wnc (by decide) wn0) e49x)
  refine wq_getf rfl e55x rfl rfl ?_
  refine wq_gos (f := 1) (pc2 := 80) (ls2 := [(7, .int c), (6, .int 8), (0, .ref 162), (1, .int a), (2, .int b), (3, .int c), (4, .int d), (5, .int e)]) (st2 := [.ref 162, .ref 164]) (h2 := h51x) (dc2 := 0) (ds2 := 0) 1 rfl ?_
  refine wq_getf rfl e55x rfl rfl ?_
  refine wq_gos (f := 1) (pc2 := 86) (ls2 := [(7, .int c), (6, .int 8), (0, .ref 162), (1, .int a), (2, .int b), (3, .int c), (4, .int d), (5, .int e)]) (st2 := [.int ((nI t) + (8 : Int32)), .ref 164]) (h2 := h51x) (dc2 := 0) (ds2 := 0) 2 rfl ?_
  refine wq_vi (show (nI t) + (8 : Int32) = nI (t + 8) from nI_add t 8) ?_
  refine wq_gos (f := 1) (pc2 := 103) (ls2 := [(7, .int c), (6, .int 8), (0, .ref 162), (1, .int a), (2, .int b), (3, .int c), (4, .int d), (5, .int e)]) (st2 := [.int ((c >>> ((24 : Int32) &&& 31)) &&& (255 : Int32)), .int (nI (t + 8)), .ref 164]) (h2 := h51x) (dc2 := 0) (ds2 := 0) 11 rfl ?_
  try have q56x := nI_toInt (n := (t + 8)) (by omega)
  refine wq_iastn rfl e52x (by first | omega | exact zin_t (by omega) (by omega)) (by decide) rfl ?_
  intro h57x e58x f59x l60x
  have e58x : zat h57x 164 = some (.inl (0, 700, (zset 0 (zset 0 (zset 0 (zset 0 (zset 0 (zset 0 (zset 0 (zset 0 (zset 0 tb (t + 0) ((a >>> ((24 : Int32) &&& 31)) &&& (255 : Int32))) (t + 1) ((a >>> ((16 : Int32) &&& 31)) &&& (255 : Int32))) (t + 2) ((a >>> ((8 : Int32) &&& 31)) &&& (255 : Int32))) (t + 3) ((a >>> ((0 : Int32) &&& 31)) &&& (255 : Int32))) (t + 4) ((b >>> ((24 : Int32) &&& 31)) &&& (255 : Int32))) (t + 5) ((b >>> ((16 : Int32) &&& 31)) &&& (255 : Int32))) (t + 6) ((b >>> ((8 : Int32) &&& 31)) &&& (255 : Int32))) (t + 7) ((b >>> ((0 : Int32) &&& 31)) &&& (255 : Int32))) (t + 8) ((c >>> ((24 : Int32) &&& 31)) &&& (255 : Int32))))) := e58x
  refine wq_gos (f := 1) (pc2 := 76) (ls2 := [(7, .int c), (6, .int 9), (0, .ref 162), (1, .int a), (2, .int b), (3, .int c), (4, .int d), (5, .int e)]) (st2 := [.ref 162]) (h2 := h57x) (dc2 := 0) (ds2 := 0) 18 rfl ?_
  have e61x := (f59x.2 _ _ (wnc (by decide) wn0) e55x)
  refine wq_getf rfl e61x rfl rfl ?_
  refine wq_gos (f := 1) (pc2 := 80) (ls2 := [(7, .int c), (6, .int 9), (0, .ref 162), (1, .int a), (2, .int b), (3, .int c), (4, .int d), (5, .int e)]) (st2 := [.ref 162, .ref 164]) (h2 := h57x) (dc2 := 0) (ds2 := 0) 1 rfl ?_
  refine wq_getf rfl e61x rfl rfl ?_
  refine wq_gos (f := 1) (pc2 := 86) (ls2 := [(7, .int c), (6, .int 9), (0, .ref 162), (1, .int a), (2, .int b), (3, .int c), (4, .int d), (5, .int e)]) (st2 := [.int ((nI t) + (9 : Int32)), .ref 164]) (h2 := h57x) (dc2 := 0) (ds2 := 0) 2 rfl ?_
  refine wq_vi (show (nI t) + (9 : Int32) = nI (t + 9) from nI_add t 9) ?_
  refine wq_gos (f := 1) (pc2 := 103) (ls2 := [(7, .int c), (6, .int 9), (0, .ref 162), (1, .int a), (2, .int b), (3, .int c), (4, .int d), (5, .int e)]) (st2 := [.int ((c >>> ((16 : Int32) &&& 31)) &&& (255 : Int32)), .int (nI (t + 9)), .ref 164]) (h2 := h57x) (dc2 := 0) (ds2 := 0) 11 rfl ?_
  try have q62x := nI_toInt (n := (t + 9)) (by omega)
  refine wq_iastn rfl e58x (by first | omega | exact zin_t (by omega) (by omega)) (by decide) rfl ?_
  intro h63x e64x f65x l66x
  have e64x : zat h63x 164 = some (.inl (0, 700, (zset 0 (zset 0 (zset 0 (zset 0 (zset 0 (zset 0 (zset 0 (zset 0 (zset 0 (zset 0 tb (t + 0) ((a >>> ((24 : Int32) &&& 31)) &&& (255 : Int32))) (t + 1) ((a >>> ((16 : Int32) &&& 31)) &&& (255 : Int32))) (t + 2) ((a >>> ((8 : Int32) &&& 31)) &&& (255 : Int32))) (t + 3) ((a >>> ((0 : Int32) &&& 31)) &&& (255 : Int32))) (t + 4) ((b >>> ((24 : Int32) &&& 31)) &&& (255 : Int32))) (t + 5) ((b >>> ((16 : Int32) &&& 31)) &&& (255 : Int32))) (t + 6) ((b >>> ((8 : Int32) &&& 31)) &&& (255 : Int32))) (t + 7) ((b >>> ((0 : Int32) &&& 31)) &&& (255 : Int32))) (t + 8) ((c >>> ((24 : Int32) &&& 31)) &&& (255 : Int32))) (t + 9) ((c >>> ((16 : Int32) &&& 31)) &&& (255 : Int32))))) := e64x
  refine wq_gos (f := 1) (pc2 := 76) (ls2 := [(7, .int c), (6, .int 10), (0, .ref 162), (1, .int a), (2, .int b), (3, .int c), (4, .int d), (5, .int e)]) (st2 := [.ref 162]) (h2 := h63x) (dc2 := 0) (ds2 := 0) 18 rfl ?_
  have e67x := (f65x.2 _ _ (wnc (by decide) wn0) e61x)
  refine wq_getf rfl e67x rfl rfl ?_
  refine wq_gos (f := 1) (pc2 := 80) (ls2 := [(7, .int c), (6, .int 10), (0, .ref 162), (1, .int a), (2, .int b), (3, .int c), (4, .int d), (5, .int e)]) (st2 := [.ref 162, .ref 164]) (h2 := h63x) (dc2 := 0) (ds2 := 0) 1 rfl ?_
  refine wq_getf rfl e67x rfl rfl ?_
  refine wq_gos (f := 1) (pc2 := 86) (ls2 := [(7, .int c), (6, .int 10), (0, .ref 162), (1, .int a), (2, .int b), (3, .int c), (4, .int d), (5, .int e)]) (st2 := [.int ((nI t) + (10 : Int32)), .ref 164]) (h2 := h63x) (dc2 := 0) (ds2 := 0) 2 rfl ?_
  refine wq_vi (show (nI t) + (10 : Int32) = nI (t + 10) from nI_add t 10) ?_
  refine wq_gos (f := 1) (pc2 := 103) (ls2 := [(7, .int c), (6, .int 10), (0, .ref 162), (1, .int a), (2, .int b), (3, .int c), (4, .int d), (5, .int e)]) (st2 := [.int ((c >>> ((8 : Int32) &&& 31)) &&& (255 : Int32)), .int (nI (t + 10)), .ref 164]) (h2 := h63x) (dc2 := 0) (ds2 := 0) 11 rfl ?_
  try have q68x := nI_toInt (n := (t + 10)) (by omega)
  refine wq_iastn rfl e64x (by first | omega | exact zin_t (by omega) (by omega)) (by decide) rfl ?_
  intro h69x e70x f71x l72x
  have e70x : zat h69x 164 = some (.inl (0, 700, (zset 0 (zset 0 (zset 0 (zset 0 (zset 0 (zset 0 (zset 0 (zset 0 (zset 0 (zset 0 (zset 0 tb (t + 0) ((a >>> ((24 : Int32) &&& 31)) &&& (255 : Int32))) (t + 1) ((a >>> ((16 : Int32) &&& 31)) &&& (255 : Int32))) (t + 2) ((a >>> ((8 : Int32) &&& 31)) &&& (255 : Int32))) (t + 3) ((a >>> ((0 : Int32) &&& 31)) &&& (255 : Int32))) (t + 4) ((b >>> ((24 : Int32) &&& 31)) &&& (255 : Int32))) (t + 5) ((b >>> ((16 : Int32) &&& 31)) &&& (255 : Int32))) (t + 6) ((b >>> ((8 : Int32) &&& 31)) &&& (255 : Int32))) (t + 7) ((b >>> ((0 : Int32) &&& 31)) &&& (255 : Int32))) (t + 8) ((c >>> ((24 : Int32) &&& 31)) &&& (255 : Int32))) (t + 9) ((c >>> ((16 : Int32) &&& 31)) &&& (255 : Int32))) (t + 10) ((c >>> ((8 : Int32) &&& 31)) &&& (255 : Int32))))) := e70x
  refine wq_gos (f := 1) (pc2 := 76) (ls2 := [(7, .int c), (6, .int 11), (0, .ref 162), (1, .int a), (2, .int b), (3, .int c), (4, .int d), (5, .int e)]) (st2 := [.ref 162]) (h2 := h69x) (dc2 := 0) (ds2 := 0) 18 rfl ?_
  have e73x := (f71x.2 _ _ (wnc (by decide) wn0) e67x)
  refine wq_getf rfl e73x rfl rfl ?_
  refine wq_gos (f := 1) (pc2 := 80) (ls2 := [(7, .int c), (6, .int 11), (0, .ref 162), (1, .int a), (2, .int b), (3, .int c), (4, .int d), (5, .int e)]) (st2 := [.ref 162, .ref 164]) (h2 := h69x) (dc2 := 0) (ds2 := 0) 1 rfl ?_
  refine wq_getf rfl e73x rfl rfl ?_
  refine wq_gos (f := 1) (pc2 := 86) (ls2 := [(7, .int c), (6, .int 11), (0, .ref 162), (1, .int a), (2, .int b), (3, .int c), (4, .int d), (5, .int e)]) (st2 := [.int ((nI t) + (11 : Int32)), .ref 164]) (h2 := h69x) (dc2 := 0) (ds2 := 0) 2 rfl ?_
  refine wq_vi (show (nI t) + (11 : Int32) = nI (t + 11) from nI_add t 11) ?_
  refine wq_gos (f := 1) (pc2 := 103) (ls2 := [(7, .int c), (6, .int 11), (0, .ref 162), (1, .int a), (2, .int b), (3, .int c), (4, .int d), (5, .int e)]) (st2 := [.int ((c >>> ((0 : Int32) &&& 31)) &&& (255 : Int32)), .int (nI (t + 11)), .ref 164]) (h2 := h69x) (dc2 := 0) (ds2 := 0) 11 rfl ?_
  try have q74x := nI_toInt (n := (t + 11)) (by omega)
  refine wq_iastn rfl e70x (by first | omega | exact zin_t (by omega) (by omega)) (by decide) rfl ?_
  intro h75x e76x f77x l78x
  have e76x : zat h75x 164 = some (.inl (0, 700, (zset 0 (zset 0 (zset 0 (zset 0 (zset 0 (zset 0 (zset 0 (zset 0 (zset 0 (zset 0 (zset 0 (zset 0 tb (t + 0) ((a >>> ((24 : Int32) &&& 31)) &&& (255 : Int32))) (t + 1) ((a >>> ((16 : Int32) &&& 31)) &&& (255 : Int32))) (t + 2) ((a >>> ((8 : Int32) &&& 31)) &&& (255 : Int32))) (t + 3) ((a >>> ((0 : Int32) &&& 31)) &&& (255 : Int32))) (t + 4) ((b >>> ((24 : Int32) &&& 31)) &&& (255 : Int32))) (t + 5) ((b >>> ((16 : Int32) &&& 31)) &&& (255 : Int32))) (t + 6) ((b >>> ((8 : Int32) &&& 31)) &&& (255 : Int32))) (t + 7) ((b >>> ((0 : Int32) &&& 31)) &&& (255 : Int32))) (t + 8) ((c >>> ((24 : Int32) &&& 31)) &&& (255 : Int32))) (t + 9) ((c >>> ((16 : Int32) &&& 31)) &&& (255 : Int32))) (t + 10) ((c >>> ((8 : Int32) &&& 31)) &&& (255 : Int32))) (t + 11) ((c >>> ((0 : Int32) &&& 31)) &&& (255 : Int32))))) := e76x
  refine wq_gos (f := 1) (pc2 := 76) (ls2 := [(7, .int d), (6, .int 12), (0, .ref 162), (1, .int a), (2, .int b), (3, .int c), (4, .int d), (5, .int e)]) (st2 := [.ref 162]) (h2 := h75x) (dc2 := 0) (ds2 := 0) 21 rfl ?_
  have e79x := (f77x.2 _ _ (wnc (by decide) wn0) e73x)
  refine wq_getf rfl e79x rfl rfl ?_
  refine wq_gos (f := 1) (pc2 := 80) (ls2 := [(7, .int d), (6, .int 12), (0, .ref 162), (1, .int a), (2, .int b), (3, .int c), (4, .int d), (5, .int e)]) (st2 := [.ref 162, .ref 164]) (h2 := h75x) (dc2 := 0) (ds2 := 0) 1 rfl ?_
  refine wq_getf rfl e79x rfl rfl ?_
  refine wq_gos (f := 1) (pc2 := 86) (ls2 := [(7, .int d), (6, .int 12), (0, .ref 162), (1, .int a), (2, .int b), (3, .int c), (4, .int d), (5, .int e)]) (st2 := [.int ((nI t) + (12 : Int32)), .ref 164]) (h2 := h75x) (dc2 := 0) (ds2 := 0) 2 rfl ?_
  refine wq_vi (show (nI t) + (12 : Int32) = nI (t + 12) from nI_add t 12) ?_
  refine wq_gos (f := 1) (pc2 := 103) (ls2 := [(7, .int d), (6, .int 12), (0, .ref 162), (1, .int a), (2, .int b), (3, .int c), (4, .int d), (5, .int e)]) (st2 := [.int ((d >>> ((24 : Int32) &&& 31)) &&& (255 : Int32)), .int (nI (t + 12)), .ref 164]) (h2 := h75x) (dc2 := 0) (ds2 := 0) 11 rfl ?_
  try have q80x := nI_toInt (n := (t + 12)) (by omega)
  refine wq_iastn rfl e76x (by first | omega | exact zin_t (by omega) (by omega)) (by decide) rfl ?_
  intro h81x e82x f83x l84x
  have e82x : zat h81x 164 = some (.inl (0, 700, (zset 0 (zset 0 (zset 0 (zset 0 (zset 0 (zset 0 (zset 0 (zset 0 (zset 0 (zset 0 (zset 0 (zset 0 (zset 0 tb (t + 0) ((a >>> ((24 : Int32) &&& 31)) &&& (255 : Int32))) (t + 1) ((a >>> ((16 : Int32) &&& 31)) &&& (255 : Int32))) (t + 2) ((a >>> ((8 : Int32) &&& 31)) &&& (255 : Int32))) (t + 3) ((a >>> ((0 : Int32) &&& 31)) &&& (255 : Int32))) (t + 4) ((b >>> ((24 : Int32) &&& 31)) &&& (255 : Int32))) (t + 5) ((b >>> ((16 : Int32) &&& 31)) &&& (255 : Int32))) (t + 6) ((b >>> ((8 : Int32) &&& 31)) &&& (255 : Int32))) (t + 7) ((b >>> ((0 : Int32) &&& 31)) &&& (255 : Int32))) (t + 8) ((c >>> ((24 : Int32) &&& 31)) &&& (255 : Int32))) (t + 9) ((c >>> ((16 : Int32) &&& 31)) &&& (255 : Int32))) (t + 10) ((c >>> ((8 : Int32) &&& 31)) &&& (255 : Int32))) (t + 11) ((c >>> ((0 : Int32) &&& 31)) &&& (255 : Int32))) (t + 12) ((d >>> ((24 : Int32) &&& 31)) &&& (255 : Int32))))) := e82x
  refine wq_gos (f := 1) (pc2 := 76) (ls2 := [(7, .int d), (6, .int 13), (0, .ref 162), (1, .int a), (2, .int b), (3, .int c), (4, .int d), (5, .int e)]) (st2 := [.ref 162]) (h2 := h81x) (dc2 := 0) (ds2 := 0) 21 rfl ?_
  have e85x := (f83x.2 _ _ (wnc (by decide) wn0) e79x)
  refine wq_getf rfl e85x rfl rfl ?_
  refine wq_gos (f := 1) (pc2 := 80) (ls2 := [(7, .int d), (6, .int 13), (0, .ref 162), (1, .int a), (2, .int b), (3, .int c), (4, .int d), (5, .int e)]) (st2 := [.ref 162, .ref 164]) (h2 := h81x) (dc2 := 0) (ds2 := 0) 1 rfl ?_
  refine wq_getf rfl e85x rfl rfl ?_
  refine wq_gos (f := 1) (pc2 := 86) (ls2 := [(7, .int d), (6, .int 13), (0, .ref 162), (1, .int a), (2, .int b), (3, .int c), (4, .int d), (5, .int e)]) (st2 := [.int ((nI t) + (13 : Int32)), .ref 164]) (h2 := h81x) (dc2 := 0) (ds2 := 0) 2 rfl ?_
  refine wq_vi (show (nI t) + (13 : Int32) = nI (t + 13) from nI_add t 13) ?_
  refine wq_gos (f := 1) (pc2 := 103) (ls2 := [(7, .int d), (6, .int 13), (0, .ref 162), (1, .int a), (2, .int b), (3, .int c), (4, .int d), (5, .int e)]) (st2 := [.int ((d >>> ((16 : Int32) &&& 31)) &&& (255 : Int32)), .int (nI (t + 13)), .ref 164]) (h2 := h81x) (dc2 := 0) (ds2 := 0) 11 rfl ?_
  try have q86x := nI_toInt (n := (t + 13)) (by omega)
  refine wq_iastn rfl e82x (by first | omega | exact zin_t (by omega) (by omega)) (by decide) rfl ?_
  intro h87x e88x f89x l90x
  have e88x : zat h87x 164 = some (.inl (0, 700, (zset 0 (zset 0 (zset 0 (zset 0 (zset 0 (zset 0 (zset 0 (zset 0 (zset 0 (zset 0 (zset 0 (zset 0 (zset 0 (zset 0 tb (t + 0) ((a >>> ((24 : Int32) &&& 31)) &&& (255 : Int32))) (t + 1) ((a >>> ((16 : Int32) &&& 31)) &&& (255 : Int32))) (t + 2) ((a >>> ((8 : Int32) &&& 31)) &&& (255 : Int32))) (t + 3) ((a >>> ((0 : Int32) &&& 31)) &&& (255 : Int32))) (t + 4) ((b >>> ((24 : Int32) &&& 31)) &&& (255 : Int32))) (t + 5) ((b >>> ((16 : Int32) &&& 31)) &&& (255 : Int32))) (t + 6) ((b >>> ((8 : Int32) &&& 31)) &&& (255 : Int32))) (t + 7) ((b >>> ((0 : Int32) &&& 31)) &&& (255 : Int32))) (t + 8) ((c >>> ((24 : Int32) &&& 31)) &&& (255 : Int32))) (t + 9) ((c >>> ((16 : Int32) &&& 31)) &&& (255 : Int32))) (t + 10) ((c >>> ((8 : Int32) &&& 31)) &&& (255 : Int32))) (t + 11) ((c >>> ((0 : Int32) &&& 31)) &&& (255 : Int32))) (t + 12) ((d >>> ((24 : Int32) &&& 31)) &&& (255 : Int32))) (t + 13) ((d >>> ((16 : Int32) &&& 31)) &&& (255 : Int32))))) := e88x
  refine wq_gos (f := 1) (pc2 := 76) (ls2 := [(7, .int d), (6, .int 14), (0, .ref 162), (1, .int a), (2, .int b), (3, .int c), (4, .int d), (5, .int e)]) (st2 := [.ref 162]) (h2 := h87x) (dc2 := 0) (ds2 := 0) 21 rfl ?_
  have e91x := (f89x.2 _ _ (wnc (by decide) wn0) e85x)
  refine wq_getf rfl e91x rfl rfl ?_
  refine wq_gos (f := 1) (pc2 := 80) (ls2 := [(7, .int d), (6, .int 14), (0, .ref 162), (1, .int a), (2, .int b), (3, .int c), (4, .int d), (5, .int e)]) (st2 := [.ref 162, .ref 164]) (h2 := h87x) (dc2 := 0) (ds2 := 0) 1 rfl ?_
  refine wq_getf rfl e91x rfl rfl ?_
  refine wq_gos (f := 1) (pc2 := 86) (ls2 := [(7, .int d), (6, .int 14), (0, .ref 162), (1, .int a), (2, .int b), (3, .int c), (4, .int d), (5, .int e)]) (st2 := [.int ((nI t) + (14 : Int32)), .ref 164]) (h2 := h87x) (dc2 := 0) (ds2 := 0) 2 rfl ?_
  refine wq_vi (show (nI t) + (14 : Int32) = nI (t + 14) from nI_add t 14) ?_
  refine wq_gos (f := 1) (pc2 := 103) (ls2 := [(7, .int d), (6, .int 14), (0, .ref 162), (1, .int a), (2, .int b), (3, .int c), (4, .int d), (5, .int e)]) (st2 := [.int ((d >>> ((8 : Int32) &&& 31)) &&& (255 : Int32)), .int (nI (t + 14)), .ref 164]) (h2 := h87x) (dc2 := 0) (ds2 := 0) 11 rfl ?_
  try have q92x := nI_toInt (n := (t + 14)) (by omega)
  refine wq_iastn rfl e88x (by first | omega | exact zin_t (by omega) (by omega)) (by decide) rfl ?_
  intro h93x e94x f95x l96x
  have e94x : zat h93x 164 = some (.inl (0, 700, (zset 0 (zset 0 (zset 0 (zset 0 (zset 0 (zset 0 (zset 0 (zset 0 (zset 0 (zset 0 (zset 0 (zset 0 (zset 0 (zset 0 (zset 0 tb (t + 0) ((a >>> ((24 : Int32) &&& 31)) &&& (255 : Int32))) (t + 1) ((a >>> ((16 : Int32) &&& 31)) &&& (255 : Int32))) (t + 2) ((a >>> ((8 : Int32) &&& 31)) &&& (255 : Int32))) (t + 3) ((a >>> ((0 : Int32) &&& 31)) &&& (255 : Int32))) (t + 4) ((b >>> ((24 : Int32) &&& 31)) &&& (255 : Int32))) (t + 5) ((b >>> ((16 : Int32) &&& 31)) &&& (255 : Int32))) (t + 6) ((b >>> ((8 : Int32) &&& 31)) &&& (255 : Int32))) (t + 7) ((b >>> ((0 : Int32) &&& 31)) &&& (255 : Int32))) (t + 8) ((c >>> ((24 : Int32) &&& 31)) &&& (255 : Int32))) (t + 9) ((c >>> ((16 : Int32) &&& 31)) &&& (255 : Int32))) (t + 10) ((c >>> ((8 : Int32) &&& 31)) &&& (255 : Int32))) (t + 11) ((c >>> ((0 : Int32) &&& 31)) &&& (255 : Int32))) (t + 12) ((d >>> ((24 : Int32) &&& 31)) &&& (255 : Int32))) (t + 13) ((d >>> ((16 : Int32) &&& 31)) &&& (255 : Int32))) (t + 14) ((d >>> ((8 : Int32) &&& 31)) &&& (255 : Int32))))) := e94x
  refine wq_gos (f := 1) (pc2 := 76) (ls2 := [(7, .int d), (6, .int 15), (0, .ref 162), (1, .int a), (2, .int b), (3, .int c), (4, .int d), (5, .int e)]) (st2 := [.ref 162]) (h2 := h93x) (dc2 := 0) (ds2 := 0) 21 rfl ?_
  have e97x := (f95x.2 _ _ (wnc (by decide) wn0) e91x)
  refine wq_getf rfl e97x rfl rfl ?_
  refine wq_gos (f := 1) (pc2 := 80) (ls2 := [(7, .int d), (6, .int 15), (0, .ref 162), (1, .int a), (2, .int b), (3, .int c), (4, .int d), (5, .int e)]) (st2 := [.ref 162, .ref 164]) (h2 := h93x) (dc2 := 0) (ds2 := 0) 1 rfl ?_
  refine wq_getf rfl e97x rfl rfl ?_
  refine wq_gos (f := 1) (pc2 := 86) (ls2 := [(7, .int d), (6, .int 15), (0, .ref 162), (1, .int a), (2, .int b), (3, .int c), (4, .int d), (5, .int e)]) (st2 := [.int ((nI t) + (15 : Int32)), .ref 164]) (h2 := h93x) (dc2 := 0) (ds2 := 0) 2 rfl ?_
  refine wq_vi (show (nI t) + (15 : Int32) = nI (t + 15) from nI_add t 15) ?_
  refine wq_gos (f := 1) (pc2 := 103) (ls2 := [(7, .int d), (6, .int 15), (0, .ref 162), (1, .int a), (2, .int b), (3, .int c), (4, .int d), (5, .int e)]) (st2 := [.int ((d >>> ((0 : Int32) &&& 31)) &&& (255 : Int32)), .int (nI (t + 15)), .ref 164]) (h2 := h93x) (dc2 := 0) (ds2 := 0) 11 rfl ?_
  try have q98x := nI_toInt (n := (t + 15)) (by omega)
  refine wq_iastn rfl e94x (by first | omega | exact zin_t (by omega) (by omega)) (by decide) rfl ?_
  intro h99x e100x f101x l102x
  have e100x : zat h99x 164 = some (.inl (0, 700, (zset 0 (zset 0 (zset 0 (zset 0 (zset 0 (zset 0 (zset 0 (zset 0 (zset 0 (zset 0 (zset 0 (zset 0 (zset 0 (zset 0 (zset 0 (zset 0 tb (t + 0) ((a >>> ((24 : Int32) &&& 31)) &&& (255 : Int32))) (t + 1) ((a >>> ((16 : Int32) &&& 31)) &&& (255 : Int32))) (t + 2) ((a >>> ((8 : Int32) &&& 31)) &&& (255 : Int32))) (t + 3) ((a >>> ((0 : Int32) &&& 31)) &&& (255 : Int32))) (t + 4) ((b >>> ((24 : Int32) &&& 31)) &&& (255 : Int32))) (t + 5) ((b >>> ((16 : Int32) &&& 31)) &&& (255 : Int32))) (t + 6) ((b >>> ((8 : Int32) &&& 31)) &&& (255 : Int32))) (t + 7) ((b >>> ((0 : Int32) &&& 31)) &&& (255 : Int32))) (t + 8) ((c >>> ((24 : Int32) &&& 31)) &&& (255 : Int32))) (t + 9) ((c >>> ((16 : Int32) &&& 31)) &&& (255 : Int32))) (t + 10) ((c >>> ((8 : Int32) &&& 31)) &&& (255 : Int32))) (t + 11) ((c >>> ((0 : Int32) &&& 31)) &&& (255 : Int32))) (t + 12) ((d >>> ((24 : Int32) &&& 31)) &&& (255 : Int32))) (t + 13) ((d >>> ((16 : Int32) &&& 31)) &&& (255 : Int32))) (t + 14) ((d >>> ((8 : Int32) &&& 31)) &&& (255 : Int32))) (t + 15) ((d >>> ((0 : Int32) &&& 31)) &&& (255 : Int32))))) := e100x
  refine wq_gos (f := 1) (pc2 := 76) (ls2 := [(7, .int e), (6, .int 16), (0, .ref 162), (1, .int a), (2, .int b), (3, .int c), (4, .int d), (5, .int e)]) (st2 := [.ref 162]) (h2 := h99x) (dc2 := 0) (ds2 := 0) 20 rfl ?_
  have e103x := (f101x.2 _ _ (wnc (by decide) wn0) e97x)
  refine wq_getf rfl e103x rfl rfl ?_
  refine wq_gos (f := 1) (pc2 := 80) (ls2 := [(7, .int e), (6, .int 16), (0, .ref 162), (1, .int a), (2, .int b), (3, .int c), (4, .int d), (5, .int e)]) (st2 := [.ref 162, .ref 164]) (h2 := h99x) (dc2 := 0) (ds2 := 0) 1 rfl ?_
  refine wq_getf rfl e103x rfl rfl ?_
  refine wq_gos (f := 1) (pc2 := 86) (ls2 := [(7, .int e), (6, .int 16), (0, .ref 162), (1, .int a), (2, .int b), (3, .int c), (4, .int d), (5, .int e)]) (st2 := [.int ((nI t) + (16 : Int32)), .ref 164]) (h2 := h99x) (dc2 := 0) (ds2 := 0) 2 rfl ?_
  refine wq_vi (show (nI t) + (16 : Int32) = nI (t + 16) from nI_add t 16) ?_
  refine wq_gos (f := 1) (pc2 := 103) (ls2 := [(7, .int e), (6, .int 16), (0, .ref 162), (1, .int a), (2, .int b), (3, .int c), (4, .int d), (5, .int e)]) (st2 := [.int ((e >>> ((24 : Int32) &&& 31)) &&& (255 : Int32)), .int (nI (t + 16)), .ref 164]) (h2 := h99x) (dc2 := 0) (ds2 := 0) 11 rfl ?_
  try have q104x := nI_toInt (n := (t + 16)) (by omega)
  refine wq_iastn rfl e100x (by first | omega | exact zin_t (by omega) (by omega)) (by decide) rfl ?_
  intro h105x e106x f107x l108x
  have e106x : zat h105x 164 = some (.inl (0, 700, (zset 0 (zset 0 (zset 0 (zset 0 (zset 0 (zset 0 (zset 0 (zset 0 (zset 0 (zset 0 (zset 0 (zset 0 (zset 0 (zset 0 (zset 0 (zset 0 (zset 0 tb (t + 0) ((a >>> ((24 : Int32) &&& 31)) &&& (255 : Int32))) (t + 1) ((a >>> ((16 : Int32) &&& 31)) &&& (255 : Int32))) (t + 2) ((a >>> ((8 : Int32) &&& 31)) &&& (255 : Int32))) (t + 3) ((a >>> ((0 : Int32) &&& 31)) &&& (255 : Int32))) (t + 4) ((b >>> ((24 : Int32) &&& 31)) &&& (255 : Int32))) (t + 5) ((b >>> ((16 : Int32) &&& 31)) &&& (255 : Int32))) (t + 6) ((b >>> ((8 : Int32) &&& 31)) &&& (255 : Int32))) (t + 7) ((b >>> ((0 : Int32) &&& 31)) &&& (255 : Int32))) (t + 8) ((c >>> ((24 : Int32) &&& 31)) &&& (255 : Int32))) (t + 9) ((c >>> ((16 : Int32) &&& 31)) &&& (255 : Int32))) (t + 10) ((c >>> ((8 : Int32) &&& 31)) &&& (255 : Int32))) (t + 11) ((c >>> ((0 : Int32) &&& 31)) &&& (255 : Int32))) (t + 12) ((d >>> ((24 : Int32) &&& 31)) &&& (255 : Int32))) (t + 13) ((d >>> ((16 : Int32) &&& 31)) &&& (255 : Int32))) (t + 14) ((d >>> ((8 : Int32) &&& 31)) &&& (255 : Int32))) (t + 15) ((d >>> ((0 : Int32) &&& 31)) &&& (255 : Int32))) (t + 16) ((e >>> ((24 : Int32) &&& 31)) &&& (255 : Int32))))) := e106x
  refine wq_gos (f := 1) (pc2 := 76) (ls2 := [(7, .int e), (6, .int 17), (0, .ref 162), (1, .int a), (2, .int b), (3, .int c), (4, .int d), (5, .int e)]) (st2 := [.ref 162]) (h2 := h105x) (dc2 := 0) (ds2 := 0) 20 rfl ?_
  have e109x := (f107x.2 _ _ (wnc (by decide) wn0) e103x)
  refine wq_getf rfl e109x rfl rfl ?_
  refine wq_gos (f := 1) (pc2 := 80) (ls2 := [(7, .int e), (6, .int 17), (0, .ref 162), (1, .int a), (2, .int b), (3, .int c), (4, .int d), (5, .int e)]) (st2 := [.ref 162, .ref 164]) (h2 := h105x) (dc2 := 0) (ds2 := 0) 1 rfl ?_
  refine wq_getf rfl e109x rfl rfl ?_
  refine wq_gos (f := 1) (pc2 := 86) (ls2 := [(7, .int e), (6, .int 17), (0, .ref 162), (1, .int a), (2, .int b), (3, .int c), (4, .int d), (5, .int e)]) (st2 := [.int ((nI t) + (17 : Int32)), .ref 164]) (h2 := h105x) (dc2 := 0) (ds2 := 0) 2 rfl ?_
  refine wq_vi (show (nI t) + (17 : Int32) = nI (t + 17) from nI_add t 17) ?_
  refine wq_gos (f := 1) (pc2 := 103) (ls2 := [(7, .int e), (6, .int 17), (0, .ref 162), (1, .int a), (2, .int b), (3, .int c), (4, .int d), (5, .int e)]) (st2 := [.int ((e >>> ((16 : Int32) &&& 31)) &&& (255 : Int32)), .int (nI (t + 17)), .ref 164]) (h2 := h105x) (dc2 := 0) (ds2 := 0) 11 rfl ?_
  try have q110x := nI_toInt (n := (t + 17)) (by omega)
  refine wq_iastn rfl e106x (by first | omega | exact zin_t (by omega) (by omega)) (by decide) rfl ?_
  intro h111x e112x f113x l114x
  have e112x : zat h111x 164 = some (.inl (0, 700, (zset 0 (zset 0 (zset 0 (zset 0 (zset 0 (zset 0 (zset 0 (zset 0 (zset 0 (zset 0 (zset 0 (zset 0 (zset 0 (zset 0 (zset 0 (zset 0 (zset 0 (zset 0 tb (t + 0) ((a >>> ((24 : Int32) &&& 31)) &&& (255 : Int32))) (t + 1) ((a >>> ((16 : Int32) &&& 31)) &&& (255 : Int32))) (t + 2) ((a >>> ((8 : Int32) &&& 31)) &&& (255 : Int32))) (t + 3) ((a >>> ((0 : Int32) &&& 31)) &&& (255 : Int32))) (t + 4) ((b >>> ((24 : Int32) &&& 31)) &&& (255 : Int32))) (t + 5) ((b >>> ((16 : Int32) &&& 31)) &&& (255 : Int32))) (t + 6) ((b >>> ((8 : Int32) &&& 31)) &&& (255 : Int32))) (t + 7) ((b >>> ((0 : Int32) &&& 31)) &&& (255 : Int32))) (t + 8) ((c >>> ((24 : Int32) &&& 31)) &&& (255 : Int32))) (t + 9) ((c >>> ((16 : Int32) &&& 31)) &&& (255 : Int32))) (t + 10) ((c >>> ((8 : Int32) &&& 31)) &&& (255 : Int32))) (t + 11) ((c >>> ((0 : Int32) &&& 31)) &&& (255 : Int32))) (t + 12) ((d >>> ((24 : Int32) &&& 31)) &&& (255 : Int32))) (t + 13) ((d >>> ((16 : Int32) &&& 31)) &&& (255 : Int32))) (t + 14) ((d >>> ((8 : Int32) &&& 31)) &&& (255 : Int32))) (t + 15) ((d >>> ((0 : Int32) &&& 31)) &&& (255 : Int32))) (t + 16) ((e >>> ((24 : Int32) &&& 31)) &&& (255 : Int32))) (t + 17) ((e >>> ((16 : Int32) &&& 31)) &&& (255 : Int32))))) := e112x
  refine wq_gos (f := 1) (pc2 := 76) (ls2 := [(7, .int e), (6, .int 18), (0, .ref 162), (1, .int a), (2, .int b), (3, .int c), (4, .int d), (5, .int e)]) (st2 := [.ref 162]) (h2 := h111x) (dc2 := 0) (ds2 := 0) 20 rfl ?_
  have e115x := (f113x.2 _ _ (wnc (by decide) wn0) e109x)
  refine wq_getf rfl e115x rfl rfl ?_
  refine wq_gos (f := 1) (pc2 := 80) (ls2 := [(7, .int e), (6, .int 18), (0, .ref 162), (1, .int a), (2, .int b), (3, .int c), (4, .int d), (5, .int e)]) (st2 := [.ref 162, .ref 164]) (h2 := h111x) (dc2 := 0) (ds2 := 0) 1 rfl ?_
  refine wq_getf rfl e115x rfl rfl ?_
  refine wq_gos (f := 1) (pc2 := 86) (ls2 := [(7, .int e), (6, .int 18), (0, .ref 162), (1, .int a), (2, .int b), (3, .int c), (4, .int d), (5, .int e)]) (st2 := [.int ((nI t) + (18 : Int32)), .ref 164]) (h2 := h111x) (dc2 := 0) (ds2 := 0) 2 rfl ?_
  refine wq_vi (show (nI t) + (18 : Int32) = nI (t + 18) from nI_add t 18) ?_
  refine wq_gos (f := 1) (pc2 := 103) (ls2 := [(7, .int e), (6, .int 18), (0, .ref 162), (1, .int a), (2, .int b), (3, .int c), (4, .int d), (5, .int e)]) (st2 := [.int ((e >>> ((8 : Int32) &&& 31)) &&& (255 : Int32)), .int (nI (t + 18)), .ref 164]) (h2 := h111x) (dc2 := 0) (ds2 := 0) 11 rfl ?_
  try have q116x := nI_toInt (n := (t + 18)) (by omega)
  refine wq_iastn rfl e112x (by first | omega | exact zin_t (by omega) (by omega)) (by decide) rfl ?_
  intro h117x e118x f119x l120x
  have e118x : zat h117x 164 = some (.inl (0, 700, (zset 0 (zset 0 (zset 0 (zset 0 (zset 0 (zset 0 (zset 0 (zset 0 (zset 0 (zset 0 (zset 0 (zset 0 (zset 0 (zset 0 (zset 0 (zset 0 (zset 0 (zset 0 (zset 0 tb (t + 0) ((a >>> ((24 : Int32) &&& 31)) &&& (255 : Int32))) (t + 1) ((a >>> ((16 : Int32) &&& 31)) &&& (255 : Int32))) (t + 2) ((a >>> ((8 : Int32) &&& 31)) &&& (255 : Int32))) (t + 3) ((a >>> ((0 : Int32) &&& 31)) &&& (255 : Int32))) (t + 4) ((b >>> ((24 : Int32) &&& 31)) &&& (255 : Int32))) (t + 5) ((b >>> ((16 : Int32) &&& 31)) &&& (255 : Int32))) (t + 6) ((b >>> ((8 : Int32) &&& 31)) &&& (255 : Int32))) (t + 7) ((b >>> ((0 : Int32) &&& 31)) &&& (255 : Int32))) (t + 8) ((c >>> ((24 : Int32) &&& 31)) &&& (255 : Int32))) (t + 9) ((c >>> ((16 : Int32) &&& 31)) &&& (255 : Int32))) (t + 10) ((c >>> ((8 : Int32) &&& 31)) &&& (255 : Int32))) (t + 11) ((c >>> ((0 : Int32) &&& 31)) &&& (255 : Int32))) (t + 12) ((d >>> ((24 : Int32) &&& 31)) &&& (255 : Int32))) (t + 13) ((d >>> ((16 : Int32) &&& 31)) &&& (255 : Int32))) (t + 14) ((d >>> ((8 : Int32) &&& 31)) &&& (255 : Int32))) (t + 15) ((d >>> ((0 : Int32) &&& 31)) &&& (255 : Int32))) (t + 16) ((e >>> ((24 : Int32) &&& 31)) &&& (255 : Int32))) (t + 17) ((e >>> ((16 : Int32) &&& 31)) &&& (255 : Int32))) (t + 18) ((e >>> ((8 : Int32) &&& 31)) &&& (255 : Int32))))) := e118x
  refine wq_gos (f := 1) (pc2 := 76) (ls2 := [(7, .int e), (6, .int 19), (0, .ref 162), (1, .int a), (2, .int b), (3, .int c), (4, .int d), (5, .int e)]) (st2 := [.ref 162]) (h2 := h117x) (dc2 := 0) (ds2 := 0) 20 rfl ?_
  have e121x := (f119x.2 _ _ (wnc (by decide) wn0) e115x)
  refine wq_getf rfl e121x rfl rfl ?_
  refine wq_gos (f := 1) (pc2 := 80) (ls2 := [(7, .int e), (6, .int 19), (0, .ref 162), (1, .int a), (2, .int b), (3, .int c), (4, .int d), (5, .int e)]) (st2 := [.ref 162, .ref 164]) (h2 := h117x) (dc2 := 0) (ds2 := 0) 1 rfl ?_
  refine wq_getf rfl e121x rfl rfl ?_
  refine wq_gos (f := 1) (pc2 := 86) (ls2 := [(7, .int e), (6, .int 19), (0, .ref 162), (1, .int a), (2, .int b), (3, .int c), (4, .int d), (5, .int e)]) (st2 := [.int ((nI t) + (19 : Int32)), .ref 164]) (h2 := h117x) (dc2 := 0) (ds2 := 0) 2 rfl ?_
  refine wq_vi (show (nI t) + (19 : Int32) = nI (t + 19) from nI_add t 19) ?_
  refine wq_gos (f := 1) (pc2 := 103) (ls2 := [(7, .int e), (6, .int 19), (0, .ref 162), (1, .int a), (2, .int b), (3, .int c), (4, .int d), (5, .int e)]) (st2 := [.int ((e >>> ((0 : Int32) &&& 31)) &&& (255 : Int32)), .int (nI (t + 19)), .ref 164]) (h2 := h117x) (dc2 := 0) (ds2 := 0) 11 rfl ?_
  try have q122x := nI_toInt (n := (t + 19)) (by omega)
  refine wq_iastn rfl e118x (by first | omega | exact zin_t (by omega) (by omega)) (by decide) rfl ?_
  intro h123x e124x f125x l126x
  have e124x : zat h123x 164 = some (.inl (0, 700, (zset 0 (zset 0 (zset 0 (zset 0 (zset 0 (zset 0 (zset 0 (zset 0 (zset 0 (zset 0 (zset 0 (zset 0 (zset 0 (zset 0 (zset 0 (zset 0 (zset 0 (zset 0 (zset 0 (zset 0 tb (t + 0) ((a >>> ((24 : Int32) &&& 31)) &&& (255 : Int32))) (t + 1) ((a >>> ((16 : Int32) &&& 31)) &&& (255 : Int32))) (t + 2) ((a >>> ((8 : Int32) &&& 31)) &&& (255 : Int32))) (t + 3) ((a >>> ((0 : Int32) &&& 31)) &&& (255 : Int32))) (t + 4) ((b >>> ((24 : Int32) &&& 31)) &&& (255 : Int32))) (t + 5) ((b >>> ((16 : Int32) &&& 31)) &&& (255 : Int32))) (t + 6) ((b >>> ((8 : Int32) &&& 31)) &&& (255 : Int32))) (t + 7) ((b >>> ((0 : Int32) &&& 31)) &&& (255 : Int32))) (t + 8) ((c >>> ((24 : Int32) &&& 31)) &&& (255 : Int32))) (t + 9) ((c >>> ((16 : Int32) &&& 31)) &&& (255 : Int32))) (t + 10) ((c >>> ((8 : Int32) &&& 31)) &&& (255 : Int32))) (t + 11) ((c >>> ((0 : Int32) &&& 31)) &&& (255 : Int32))) (t + 12) ((d >>> ((24 : Int32) &&& 31)) &&& (255 : Int32))) (t + 13) ((d >>> ((16 : Int32) &&& 31)) &&& (255 : Int32))) (t + 14) ((d >>> ((8 : Int32) &&& 31)) &&& (255 : Int32))) (t + 15) ((d >>> ((0 : Int32) &&& 31)) &&& (255 : Int32))) (t + 16) ((e >>> ((24 : Int32) &&& 31)) &&& (255 : Int32))) (t + 17) ((e >>> ((16 : Int32) &&& 31)) &&& (255 : Int32))) (t + 18) ((e >>> ((8 : Int32) &&& 31)) &&& (255 : Int32))) (t + 19) ((e >>> ((0 : Int32) &&& 31)) &&& (255 : Int32))))) := e124x
  refine wq_gos (f := 1) (pc2 := 112) (ls2 := [(6, .int 20), (7, .int e), (0, .ref 162), (1, .int a), (2, .int b), (3, .int c), (4, .int d), (5, .int e)]) (st2 := [.ref 162, .ref 162]) (h2 := h123x) (dc2 := 0) (ds2 := 0) 7 rfl ?_
  have e127x := (f125x.2 _ _ (wnc (by decide) wn0) e121x)
  refine wq_getf rfl e127x rfl rfl ?_
  refine wq_gos (f := 1) (pc2 := 118) (ls2 := [(6, .int 20), (7, .int e), (0, .ref 162), (1, .int a), (2, .int b), (3, .int c), (4, .int d), (5, .int e)]) (st2 := [.int ((nI t) + (20 : Int32)), .ref 162]) (h2 := h123x) (dc2 := 0) (ds2 := 0) 2 rfl ?_
  refine wq_vi (show (nI t) + (20 : Int32) = nI (t + 20) from nI_add t 20) ?_
  refine wq_putf rfl e127x rfl rfl rfl ?_
  intro h128x e129x f130x l131x
  have e129x : zat h128x 162 = some (.inr (.inr (.inr (10, mO (0 : Int32) (nI (t + 20)) n14 n15 n16 n17 n18 n19 n20 n21 n22 n23 n27 n28 n32 n33 n34 n35 n39 n52)))) := e129x
  refine wq_gos (f := 1) (pc2 := 122) (ls2 := [(6, .int 20), (7, .int e), (0, .ref 162), (1, .int a), (2, .int b), (3, .int c), (4, .int d), (5, .int e)]) (st2 := [.ref 162]) (h2 := h128x) (dc2 := 0) (ds2 := 0) 1 rfl ?_
  refine wq_getf rfl e129x rfl rfl ?_
  have e132x := (f130x.2 _ _ (wnc (by decide) wn0) e124x)
  exact wq_ret rfl rfl ⟨h128x, (zset 0 (zset 0 (zset 0 (zset 0 (zset 0 (zset 0 (zset 0 (zset 0 (zset 0 (zset 0 (zset 0 (zset 0 (zset 0 (zset 0 (zset 0 (zset 0 (zset 0 (zset 0 (zset 0 (zset 0 tb (t + 0) ((a >>> ((24 : Int32) &&& 31)) &&& (255 : Int32))) (t + 1) ((a >>> ((16 : Int32) &&& 31)) &&& (255 : Int32))) (t + 2) ((a >>> ((8 : Int32) &&& 31)) &&& (255 : Int32))) (t + 3) ((a >>> ((0 : Int32) &&& 31)) &&& (255 : Int32))) (t + 4) ((b >>> ((24 : Int32) &&& 31)) &&& (255 : Int32))) (t + 5) ((b >>> ((16 : Int32) &&& 31)) &&& (255 : Int32))) (t + 6) ((b >>> ((8 : Int32) &&& 31)) &&& (255 : Int32))) (t + 7) ((b >>> ((0 : Int32) &&& 31)) &&& (255 : Int32))) (t + 8) ((c >>> ((24 : Int32) &&& 31)) &&& (255 : Int32))) (t + 9) ((c >>> ((16 : Int32) &&& 31)) &&& (255 : Int32))) (t + 10) ((c >>> ((8 : Int32) &&& 31)) &&& (255 : Int32))) (t + 11) ((c >>> ((0 : Int32) &&& 31)) &&& (255 : Int32))) (t + 12) ((d >>> ((24 : Int32) &&& 31)) &&& (255 : Int32))) (t + 13) ((d >>> ((16 : Int32) &&& 31)) &&& (255 : Int32))) (t + 14) ((d >>> ((8 : Int32) &&& 31)) &&& (255 : Int32))) (t + 15) ((d >>> ((0 : Int32) &&& 31)) &&& (255 : Int32))) (t + 16) ((e >>> ((24 : Int32) &&& 31)) &&& (255 : Int32))) (t + 17) ((e >>> ((16 : Int32) &&& 31)) &&& (255 : Int32))) (t + 18) ((e >>> ((8 : Int32) &&& 31)) &&& (255 : Int32))) (t + 19) ((e >>> ((0 : Int32) &&& 31)) &&& (255 : Int32))), rfl, (wFr_tr (wFr_sub f3x (by simp)) (wFr_tr (wFr_sub f11x (by simp)) (wFr_tr (wFr_sub f17x (by simp)) (wFr_tr (wFr_sub f23x (by simp)) (wFr_tr (wFr_sub f29x (by simp)) (wFr_tr (wFr_sub f35x (by simp)) (wFr_tr (wFr_sub f41x (by simp)) (wFr_tr (wFr_sub f47x (by simp)) (wFr_tr (wFr_sub f53x (by simp)) (wFr_tr (wFr_sub f59x (by simp)) (wFr_tr (wFr_sub f65x (by simp)) (wFr_tr (wFr_sub f71x (by simp)) (wFr_tr (wFr_sub f77x (by simp)) (wFr_tr (wFr_sub f83x (by simp)) (wFr_tr (wFr_sub f89x (by simp)) (wFr_tr (wFr_sub f95x (by simp)) (wFr_tr (wFr_sub f101x (by simp)) (wFr_tr (wFr_sub f107x (by simp)) (wFr_tr (wFr_sub f113x (by simp)) (wFr_tr (wFr_sub f119x (by simp)) (wFr_tr (wFr_sub f125x (by simp)) (wFr_sub f130x (by simp))))))))))))))))))))))), (by omega), e129x, e132x, (fun i hi => by rw [zset_get, if_neg (by omega)]; rw [zset_get, if_neg (by omega)]; rw [zset_get, if_neg (by omega)]; rw [zset_get, if_neg (by omega)]; rw [zset_get, if_neg (by omega)]; rw [zset_get, if_neg (by omega)]; rw [zset_get, if_neg (by omega)]; rw [zset_get, if_neg (by omega)]; rw [zset_get, if_neg (by omega)]; rw [zset_get, if_neg (by omega)]; rw [zset_get, if_neg (by omega)]; rw [zset_get, if_neg (by omega)]; rw [zset_get, if_neg (by omega)]; rw [zset_get, if_neg (by omega)]; rw [zset_get, if_neg (by omega)]; rw [zset_get, if_neg (by omega)]; rw [zset_get, if_neg (by omega)]; rw [zset_get, if_neg (by omega)]; rw [zset_get, if_neg (by omega)]; rw [zset_get, if_neg (by omega)])⟩
theorem cl12 {k : Nat} (h : k ≤ 20) (j : Nat) (hj : j < 12) : ((12 : Int32) * (nI k) + nI j) = nI (12 * k + j) := by
  rw [show (12 : Int32) = nI 12 from rfl]
  apply Int32.toInt_inj.mp
  have q1 := nI_toInt (n := 12) (by omega)
  have q2 := nI_toInt (n := k) (by omega)
  have q3 := nI_toInt (n := j) (by omega)
  have q4 : ((nI 12) * (nI k)).toInt = 12 * (nI k).toInt := e_mull q1 (by omega) (by omega)
  rw [nI_toInt (by omega), e_add (by omega) (by omega)]
  omega
def kLay (kp nw am : List Int32) (k : Nat) : List Int32 := (zset 0 (zset 0 (zset 0 (zset 0 (zset 0 (zset 0 (zset 0 (zset 0 (zset 0 (zset 0 (zset 0 (zset 0 kp (12 * k + 0) (nw.getD 0 0)) (12 * k + 6) (am.getD 0 0)) (12 * k + 1) (nw.getD 1 0)) (12 * k + 7) (am.getD 1 0)) (12 * k + 2) (nw.getD 2 0)) (12 * k + 8) (am.getD 2 0)) (12 * k + 3) (nw.getD 3 0)) (12 * k + 9) (am.getD 3 0)) (12 * k + 4) (nw.getD 4 0)) (12 * k + 10) (am.getD 4 0)) (12 * k + 5) (nw.getD 5 0)) (12 * k + 11) (am.getD 5 0))
set_option maxRecDepth 100000 in
set_option maxHeartbeats 4000000 in
theorem m_lays {h : zH} {n0 n2 n14 n15 n16 n17 n18 n19 n20 n21 n22 n23 n27 n28 n32 n33 n34 n35 n39 n52 : Int32} {k : Nat} {nw am kp : List Int32} (hM : zat h 162 = some (.inr (.inr (.inr (10, mO n0 n2 n14 n15 n16 n17 n18 n19 n20 n21 n22 n23 n27 n28 n32 n33 n34 n35 n39 n52))))) (hN : zat h 188 = some (.inl (0, 6, nw))) (hA : zat h 190 = some (.inl (0, 6, am))) (hK : zat h 192 = some (.inl (0, 252, kp))) (hk : k ≤ 20) : wq 189 0 [(0, .ref 162), (1, .int (nI k))] [] h 0 0 (fun r => ∃ (h2 : zH), r = (none, h2, 0, 0) ∧ wFr [192] h h2 ∧ h2.length = h.length ∧ zat h2 192 = some (.inl (0, 252, (kLay kp nw am k)))) := by
  have qnk := nI_toInt (n := k) (by omega)
  refine wq_gos (f := 1) (pc2 := 9) (ls2 := [(2, .int 0), (0, .ref 162), (1, .int (nI k))]) (st2 := [.ref 162]) (h2 := h) (dc2 := 0) (ds2 := 0) 6 rfl ?_
  refine wq_getf rfl hM rfl rfl ?_
  refine wq_gos (f := 1) (pc2 := 18) (ls2 := [(2, .int 0), (0, .ref 162), (1, .int (nI k))]) (st2 := [.int (((12 : Int32) * (nI k)) + (0 : Int32)), .ref 192]) (h2 := h) (dc2 := 0) (ds2 := 0) 5 rfl ?_
  refine wq_vi (show ((12 : Int32) * (nI k)) + (0 : Int32) = nI (12 * k + 0) from cl12 (by omega) 0 (by omega)) ?_
  refine wq_gos (f := 1) (pc2 := 19) (ls2 := [(2, .int 0), (0, .ref 162), (1, .int (nI k))]) (st2 := [.ref 162, .int (nI (12 * k + 0)), .ref 192]) (h2 := h) (dc2 := 0) (ds2 := 0) 1 rfl ?_
  refine wq_getf rfl hM rfl rfl ?_
  refine wq_gos (f := 1) (pc2 := 23) (ls2 := [(2, .int 0), (0, .ref 162), (1, .int (nI k))]) (st2 := [.int 0, .ref 188, .int (nI (12 * k + 0)), .ref 192]) (h2 := h) (dc2 := 0) (ds2 := 0) 1 rfl ?_
  refine wq_iald rfl hN rfl rfl ?_
  try have q1x := nI_toInt (n := (12 * k + 0)) (by omega)
  refine wq_iastn rfl hK (by first | omega | exact zin_t (by omega) (by omega)) (by decide) rfl ?_
  intro h2x e3x f4x l5x
  have e3x : zat h2x 192 = some (.inl (0, 252, (zset 0 kp (12 * k + 0) (nw.getD 0 0)))) := e3x
  refine wq_gos (f := 1) (pc2 := 26) (ls2 := [(2, .int 0), (0, .ref 162), (1, .int (nI k))]) (st2 := [.ref 162]) (h2 := h2x) (dc2 := 0) (ds2 := 0) 1 rfl ?_
  have e6x := (f4x.2 _ _ (wnc (by decide) wn0) hM)
  refine wq_getf rfl e6x rfl rfl ?_
  refine wq_gos (f := 1) (pc2 := 38) (ls2 := [(2, .int 0), (0, .ref 162), (1, .int (nI k))]) (st2 := [.int ((((12 : Int32) * (nI k)) + (6 : Int32)) + (0 : Int32)), .ref 192]) (h2 := h2x) (dc2 := 0) (ds2 := 0) 7 rfl ?_
  refine wq_vi (show (((12 : Int32) * (nI k)) + (6 : Int32)) + (0 : Int32) = nI (12 * k + 6) from (by rw [Int32.add_assoc]; exact cl12 (by omega) 6 (by omega))) ?_
  refine wq_gos (f := 1) (pc2 := 39) (ls2 := [(2, .int 0), (0, .ref 162), (1, .int (nI k))]) (st2 := [.ref 162, .int (nI (12 * k + 6)), .ref 192]) (h2 := h2x) (dc2 := 0) (ds2 := 0) 1 rfl ?_
  refine wq_getf rfl e6x rfl rfl ?_
  refine wq_gos (f := 1) (pc2 := 43) (ls2 := [(2, .int 0), (0, .ref 162), (1, .int (nI k))]) (st2 := [.int 0, .ref 190, .int (nI (12 * k + 6)), .ref 192]) (h2 := h2x) (dc2 := 0) (ds2 := 0) 1 rfl ?_
  have e7x := (f4x.2 _ _ (wnc (by decide) wn0) hA)
  refine wq_iald rfl e7x rfl rfl ?_
  try have q8x := nI_toInt (n := (12 * k + 6)) (by omega)
  refine wq_iastn rfl e3x (by first | omega | exact zin_t (by omega) (by omega)) (by decide) rfl ?_
  intro h9x e10x f11x l12x
  have e10x : zat h9x 192 = some (.inl (0, 252, (zset 0 (zset 0 kp (12 * k + 0) (nw.getD 0 0)) (12 * k + 6) (am.getD 0 0)))) := e10x
  refine wq_gos (f := 1) (pc2 := 9) (ls2 := [(2, .int 1), (0, .ref 162), (1, .int (nI k))]) (st2 := [.ref 162]) (h2 := h9x) (dc2 := 0) (ds2 := 0) 6 rfl ?_
  have e13x := (f11x.2 _ _ (wnc (by decide) wn0) e6x)
  refine wq_getf rfl e13x rfl rfl ?_
  refine wq_gos (f := 1) (pc2 := 18) (ls2 := [(2, .int 1), (0, .ref 162), (1, .int (nI k))]) (st2 := [.int (((12 : Int32) * (nI k)) + (1 : Int32)), .ref 192]) (h2 := h9x) (dc2 := 0) (ds2 := 0) 5 rfl ?_
  refine wq_vi (show ((12 : Int32) * (nI k)) + (1 : Int32) = nI (12 * k + 1) from cl12 (by omega) 1 (by omega)) ?_
  refine wq_gos (f := 1) (pc2 := 19) (ls2 := [(2, .int 1), (0, .ref 162), (1, .int (nI k))]) (st2 := [.ref 162, .int (nI (12 * k + 1)), .ref 192]) (h2 := h9x) (dc2 := 0) (ds2 := 0) 1 rfl ?_
  refine wq_getf rfl e13x rfl rfl ?_
  refine wq_gos (f := 1) (pc2 := 23) (ls2 := [(2, .int 1), (0, .ref 162), (1, .int (nI k))]) (st2 := [.int 1, .ref 188, .int (nI (12 * k + 1)), .ref 192]) (h2 := h9x) (dc2 := 0) (ds2 := 0) 1 rfl ?_
  have e14x := (f11x.2 _ _ (wnc (by decide) wn0) (f4x.2 _ _ (wnc (by decide) wn0) hN))
  refine wq_iald rfl e14x rfl rfl ?_
  try have q15x := nI_toInt (n := (12 * k + 1)) (by omega)
  refine wq_iastn rfl e10x (by first | omega | exact zin_t (by omega) (by omega)) (by decide) rfl ?_
  intro h16x e17x f18x l19x
  have e17x : zat h16x 192 = some (.inl (0, 252, (zset 0 (zset 0 (zset 0 kp (12 * k + 0) (nw.getD 0 0)) (12 * k + 6) (am.getD 0 0)) (12 * k + 1) (nw.getD 1 0)))) := e17x
  refine wq_gos (f := 1) (pc2 := 26) (ls2 := [(2, .int 1), (0, .ref 162), (1, .int (nI k))]) (st2 := [.ref 162]) (h2 := h16x) (dc2 := 0) (ds2 := 0) 1 rfl ?_
  have e20x := (f18x.2 _ _ (wnc (by decide) wn0) e13x)
  refine wq_getf rfl e20x rfl rfl ?_
  refine wq_gos (f := 1) (pc2 := 38) (ls2 := [(2, .int 1), (0, .ref 162), (1, .int (nI k))]) (st2 := [.int ((((12 : Int32) * (nI k)) + (6 : Int32)) + (1 : Int32)), .ref 192]) (h2 := h16x) (dc2 := 0) (ds2 := 0) 7 rfl ?_
  refine wq_vi (show (((12 : Int32) * (nI k)) + (6 : Int32)) + (1 : Int32) = nI (12 * k + 7) from (by rw [Int32.add_assoc]; exact cl12 (by omega) 7 (by omega))) ?_
  refine wq_gos (f := 1) (pc2 := 39) (ls2 := [(2, .int 1), (0, .ref 162), (1, .int (nI k))]) (st2 := [.ref 162, .int (nI (12 * k + 7)), .ref 192]) (h2 := h16x) (dc2 := 0) (ds2 := 0) 1 rfl ?_
  refine wq_getf rfl e20x rfl rfl ?_
  refine wq_gos (f := 1) (pc2 := 43) (ls2 := [(2, .int 1), (0, .ref 162), (1, .int (nI k))]) (st2 := [.int 1, .ref 190, .int (nI (12 * k + 7)), .ref 192]) (h2 := h16x) (dc2 := 0) (ds2 := 0) 1 rfl ?_
  have e21x := (f18x.2 _ _ (wnc (by decide) wn0) (f11x.2 _ _ (wnc (by decide) wn0) e7x))
  refine wq_iald rfl e21x rfl rfl ?_
  try have q22x := nI_toInt (n := (12 * k + 7)) (by omega)
  refine wq_iastn rfl e17x (by first | omega | exact zin_t (by omega) (by omega)) (by decide) rfl ?_
  intro h23x e24x f25x l26x
  have e24x : zat h23x 192 = some (.inl (0, 252, (zset 0 (zset 0 (zset 0 (zset 0 kp (12 * k + 0) (nw.getD 0 0)) (12 * k + 6) (am.getD 0 0)) (12 * k + 1) (nw.getD 1 0)) (12 * k + 7) (am.getD 1 0)))) := e24x
  refine wq_gos (f := 1) (pc2 := 9) (ls2 := [(2, .int 2), (0, .ref 162), (1, .int (nI k))]) (st2 := [.ref 162]) (h2 := h23x) (dc2 := 0) (ds2 := 0) 6 rfl ?_
  have e27x := (f25x.2 _ _ (wnc (by decide) wn0) e20x)
  refine wq_getf rfl e27x rfl rfl ?_
  refine wq_gos (f := 1) (pc2 := 18) (ls2 := [(2, .int 2), (0, .ref 162), (1, .int (nI k))]) (st2 := [.int (((12 : Int32) * (nI k)) + (2 : Int32)), .ref 192]) (h2 := h23x) (dc2 := 0) (ds2 := 0) 5 rfl ?_
  refine wq_vi (show ((12 : Int32) * (nI k)) + (2 : Int32) = nI (12 * k + 2) from cl12 (by omega) 2 (by omega)) ?_
  refine wq_gos (f := 1) (pc2 := 19) (ls2 := [(2, .int 2), (0, .ref 162), (1, .int (nI k))]) (st2 := [.ref 162, .int (nI (12 * k + 2)), .ref 192]) (h2 := h23x) (dc2 := 0) (ds2 := 0) 1 rfl ?_
  refine wq_getf rfl e27x rfl rfl ?_
  refine wq_gos (f := 1) (pc2 := 23) (ls2 := [(2, .int 2), (0, .ref 162), (1, .int (nI k))]) (st2 := [.int 2, .ref 188, .int (nI (12 * k + 2)), .ref 192]) (h2 := h23x) (dc2 := 0) (ds2 := 0) 1 rfl ?_
  have e28x := (f25x.2 _ _ (wnc (by decide) wn0) (f18x.2 _ _ (wnc (by decide) wn0) e14x))
  refine wq_iald rfl e28x rfl rfl ?_
  try have q29x := nI_toInt (n := (12 * k + 2)) (by omega)
  refine wq_iastn rfl e24x (by first | omega | exact zin_t (by omega) (by omega)) (by decide) rfl ?_
  intro h30x e31x f32x l33x
  have e31x : zat h30x 192 = some (.inl (0, 252, (zset 0 (zset 0 (zset 0 (zset 0 (zset 0 kp (12 * k + 0) (nw.getD 0 0)) (12 * k + 6) (am.getD 0 0)) (12 * k + 1) (nw.getD 1 0)) (12 * k + 7) (am.getD 1 0)) (12 * k + 2) (nw.getD 2 0)))) := e31x
  refine wq_gos (f := 1) (pc2 := 26) (ls2 := [(2, .int 2), (0, .ref 162), (1, .int (nI k))]) (st2 := [.ref 162]) (h2 := h30x) (dc2 := 0) (ds2 := 0) 1 rfl ?_
  have e34x := (f32x.2 _ _ (wnc (by decide) wn0) e27x)
  refine wq_getf rfl e34x rfl rfl ?_
  refine wq_gos (f := 1) (pc2 := 38) (ls2 := [(2, .int 2), (0, .ref 162), (1, .int (nI k))]) (st2 := [.int ((((12 : Int32) * (nI k)) + (6 : Int32)) + (2 : Int32)), .ref 192]) (h2 := h30x) (dc2 := 0) (ds2 := 0) 7 rfl ?_
  refine wq_vi (show (((12 : Int32) * (nI k)) + (6 : Int32)) + (2 : Int32) = nI (12 * k + 8) from (by rw [Int32.add_assoc]; exact cl12 (by omega) 8 (by omega))) ?_
  refine wq_gos (f := 1) (pc2 := 39) (ls2 := [(2, .int 2), (0, .ref 162), (1, .int (nI k))]) (st2 := [.ref 162, .int (nI (12 * k + 8)), .ref 192]) (h2 := h30x) (dc2 := 0) (ds2 := 0) 1 rfl ?_
  refine wq_getf rfl e34x rfl rfl ?_
  refine wq_gos (f := 1) (pc2 := 43) (ls2 := [(2, .int 2), (0, .ref 162), (1, .int (nI k))]) (st2 := [.int 2, .ref 190, .int (nI (12 * k + 8)), .ref 192]) (h2 := h30x) (dc2 := 0) (ds2 := 0) 1 rfl ?_
  have e35x := (f32x.2 _ _ (wnc (by decide) wn0) (f25x.2 _ _ (wnc (by decide) wn0) e21x))
  refine wq_iald rfl e35x rfl rfl ?_
  try have q36x := nI_toInt (n := (12 * k + 8)) (by omega)
  refine wq_iastn rfl e31x (by first | omega | exact zin_t (by omega) (by omega)) (by decide) rfl ?_
  intro h37x e38x f39x l40x
  have e38x : zat h37x 192 = some (.inl (0, 252, (zset 0 (zset 0 (zset 0 (zset 0 (zset 0 (zset 0 kp (12 * k + 0) (nw.getD 0 0)) (12 * k + 6) (am.getD 0 0)) (12 * k + 1) (nw.getD 1 0)) (12 * k + 7) (am.getD 1 0)) (12 * k + 2) (nw.getD 2 0)) (12 * k + 8) (am.getD 2 0)))) := e38x
  refine wq_gos (f := 1) (pc2 := 9) (ls2 := [(2, .int 3), (0, .ref 162), (1, .int (nI k))]) (st2 := [.ref 162]) (h2 := h37x) (dc2 := 0) (ds2 := 0) 6 rfl ?_
  have e41x := (f39x.2 _ _ (wnc (by decide) wn0) e34x)
  refine wq_getf rfl e41x rfl rfl ?_
  refine wq_gos (f := 1) (pc2 := 18) (ls2 := [(2, .int 3), (0, .ref 162), (1, .int (nI k))]) (st2 := [.int (((12 : Int32) * (nI k)) + (3 : Int32)), .ref 192]) (h2 := h37x) (dc2 := 0) (ds2 := 0) 5 rfl ?_
  refine wq_vi (show ((12 : Int32) * (nI k)) + (3 : Int32) = nI (12 * k + 3) from cl12 (by omega) 3 (by omega)) ?_
  refine wq_gos (f := 1) (pc2 := 19) (ls2 := [(2, .int 3), (0, .ref 162), (1, .int (nI k))]) (st2 := [.ref 162, .int (nI (12 * k + 3)), .ref 192]) (h2 := h37x) (dc2 := 0) (ds2 := 0) 1 rfl ?_
  refine wq_getf rfl e41x rfl rfl ?_
  refine wq_gos (f := 1) (pc2 := 23) (ls2 := [(2, .int 3), (0, .ref 162), (1, .int (nI k))]) (st2 := [.int 3, .ref 188, .int (nI (12 * k + 3)), .ref 192]) (h2 := h37x) (dc2 := 0) (ds2 := 0) 1 rfl ?_
  have e42x := (f39x.2 _ _ (wnc (by decide) wn0) (f32x.2 _ _ (wnc (by decide) wn0) e28x))
  refine wq_iald rfl e42x rfl rfl ?_
  try have q43x := nI_toInt (n := (12 * k + 3)) (by omega)
  refine wq_iastn rfl e38x (by first | omega | exact zin_t (by omega) (by omega)) (by decide) rfl ?_
  intro h44x e45x f46x l47x
  have e45x : zat h44x 192 = some (.inl (0, 252, (zset 0 (zset 0 (zset 0 (zset 0 (zset 0 (zset 0 (zset 0 kp (12 * k + 0) (nw.getD 0 0)) (12 * k + 6) (am.getD 0 0)) (12 * k + 1) (nw.getD 1 0)) (12 * k + 7) (am.getD 1 0)) (12 * k + 2) (nw.getD 2 0)) (12 * k + 8) (am.getD 2 0)) (12 * k + 3) (nw.getD 3 0)))) := e45x
  refine wq_gos (f := 1) (pc2 := 26) (ls2 := [(2, .int 3), (0, .ref 162), (1, .int (nI k))]) (st2 := [.ref 162]) (h2 := h44x) (dc2 := 0) (ds2 := 0) 1 rfl ?_
  have e48x := (f46x.2 _ _ (wnc (by decide) wn0) e41x)
  refine wq_getf rfl e48x rfl rfl ?_
  refine wq_gos (f := 1) (pc2 := 38) (ls2 := [(2, .int 3), (0, .ref 162), (1, .int (nI k))]) (st2 := [.int ((((12 : Int32) * (nI k)) + (6 : Int32)) + (3 : Int32)), .ref 192]) (h2 := h44x) (dc2 := 0) (ds2 := 0) 7 rfl ?_
  refine wq_vi (show (((12 : Int32) * (nI k)) + (6 : Int32)) + (3 : Int32) = nI (12 * k + 9) from (by rw [Int32.add_assoc]; exact cl12 (by omega) 9 (by omega))) ?_
  refine wq_gos (f := 1) (pc2 := 39) (ls2 := [(2, .int 3), (0, .ref 162), (1, .int (nI k))]) (st2 := [.ref 162, .int (nI (12 * k + 9)), .ref 192]) (h2 := h44x) (dc2 := 0) (ds2 := 0) 1 rfl ?_
  refine wq_getf rfl e48x rfl rfl ?_
  refine wq_gos (f := 1) (pc2 := 43) (ls2 := [(2, .int 3), (0, .ref 162), (1, .int (nI k))]) (st2 := [.int 3, .ref 190, .int (nI (12 * k + 9)), .ref 192]) (h2 := h44x) (dc2 := 0) (ds2 := 0) 1 rfl ?_
  have e49x := (f46x.2 _ _ (wnc (by decide) wn0) (f39x.2 _ _ (wnc (by decide) wn0) e35x))
  refine wq_iald rfl e49x rfl rfl ?_
  try have q50x := nI_toInt (n := (12 * k + 9)) (by omega)
  refine wq_iastn rfl e45x (by first | omega | exact zin_t (by omega) (by omega)) (by decide) rfl ?_
  intro h51x e52x f53x l54x
  have e52x : zat h51x 192 = some (.inl (0, 252, (zset 0 (zset 0 (zset 0 (zset 0 (zset 0 (zset 0 (zset 0 (zset 0 kp (12 * k + 0) (nw.getD 0 0)) (12 * k + 6) (am.getD 0 0)) (12 * k + 1) (nw.getD 1 0)) (12 * k + 7) (am.getD 1 0)) (12 * k + 2) (nw.getD 2 0)) (12 * k + 8) (am.getD 2 0)) (12 * k + 3) (nw.getD 3 0)) (12 * k + 9) (am.getD 3 0)))) := e52x
  refine wq_gos (f := 1) (pc2 := 9) (ls2 := [(2, .int 4), (0, .ref 162), (1, .int (nI k))]) (st2 := [.ref 162]) (h2 := h51x) (dc2 := 0) (ds2 := 0) 6 rfl ?_
  have e55x := (f53x.2 _ _ (wnc (by decide) wn0) e48x)
  refine wq_getf rfl e55x rfl rfl ?_
  refine wq_gos (f := 1) (pc2 := 18) (ls2 := [(2, .int 4), (0, .ref 162), (1, .int (nI k))]) (st2 := [.int (((12 : Int32) * (nI k)) + (4 : Int32)), .ref 192]) (h2 := h51x) (dc2 := 0) (ds2 := 0) 5 rfl ?_
  refine wq_vi (show ((12 : Int32) * (nI k)) + (4 : Int32) = nI (12 * k + 4) from cl12 (by omega) 4 (by omega)) ?_
  refine wq_gos (f := 1) (pc2 := 19) (ls2 := [(2, .int 4), (0, .ref 162), (1, .int (nI k))]) (st2 := [.ref 162, .int (nI (12 * k + 4)), .ref 192]) (h2 := h51x) (dc2 := 0) (ds2 := 0) 1 rfl ?_
  refine wq_getf rfl e55x rfl rfl ?_
  refine wq_gos (f := 1) (pc2 := 23) (ls2 := [(2, .int 4), (0, .ref 162), (1, .int (nI k))]) (st2 := [.int 4, .ref 188, .int (nI (12 * k + 4)), .ref 192]) (h2 := h51x) (dc2 := 0) (ds2 := 0) 1 rfl ?_
  have e56x := (f53x.2 _ _ (wnc (by decide) wn0) (f46x.2 _ _ (wnc (by decide) wn0) e42x))
  refine wq_iald rfl e56x rfl rfl ?_
  try have q57x := nI_toInt (n := (12 * k + 4)) (by omega)
  refine wq_iastn rfl e52x (by first | omega | exact zin_t (by omega) (by omega)) (by decide) rfl ?_
  intro h58x e59x f60x l61x
  have e59x : zat h58x 192 = some (.inl (0, 252, (zset 0 (zset 0 (zset 0 (zset 0 (zset 0 (zset 0 (zset 0 (zset 0 (zset 0 kp (12 * k + 0) (nw.getD 0 0)) (12 * k + 6) (am.getD 0 0)) (12 * k + 1) (nw.getD 1 0)) (12 * k + 7) (am.getD 1 0)) (12 * k + 2) (nw.getD 2 0)) (12 * k + 8) (am.getD 2 0)) (12 * k + 3) (nw.getD 3 0)) (12 * k + 9) (am.getD 3 0)) (12 * k + 4) (nw.getD 4 0)))) := e59x
  refine wq_gos (f := 1) (pc2 := 26) (ls2 := [(2, .int 4), (0, .ref 162), (1, .int (nI k))]) (st2 := [.ref 162]) (h2 := h58x) (dc2 := 0) (ds2 := 0) 1 rfl ?_
  have e62x := (f60x.2 _ _ (wnc (by decide) wn0) e55x)
  refine wq_getf rfl e62x rfl rfl ?_
  refine wq_gos (f := 1) (pc2 := 38) (ls2 := [(2, .int 4), (0, .ref 162), (1, .int (nI k))]) (st2 := [.int ((((12 : Int32) * (nI k)) + (6 : Int32)) + (4 : Int32)), .ref 192]) (h2 := h58x) (dc2 := 0) (ds2 := 0) 7 rfl ?_
  refine wq_vi (show (((12 : Int32) * (nI k)) + (6 : Int32)) + (4 : Int32) = nI (12 * k + 10) from (by rw [Int32.add_assoc]; exact cl12 (by omega) 10 (by omega))) ?_
  refine wq_gos (f := 1) (pc2 := 39) (ls2 := [(2, .int 4), (0, .ref 162), (1, .int (nI k))]) (st2 := [.ref 162, .int (nI (12 * k + 10)), .ref 192]) (h2 := h58x) (dc2 := 0) (ds2 := 0) 1 rfl ?_
  refine wq_getf rfl e62x rfl rfl ?_
  refine wq_gos (f := 1) (pc2 := 43) (ls2 := [(2, .int 4), (0, .ref 162), (1, .int (nI k))]) (st2 := [.int 4, .ref 190, .int (nI (12 * k + 10)), .ref 192]) (h2 := h58x) (dc2 := 0) (ds2 := 0) 1 rfl ?_
  have e63x := (f60x.2 _ _ (wnc (by decide) wn0) (f53x.2 _ _ (wnc (by decide) wn0) e49x))
  refine wq_iald rfl e63x rfl rfl ?_
  try have q64x := nI_toInt (n := (12 * k + 10)) (by omega)
  refine wq_iastn rfl e59x (by first | omega | exact zin_t (by omega) (by omega)) (by decide) rfl ?_
  intro h65x e66x f67x l68x
  have e66x : zat h65x 192 = some (.inl (0, 252, (zset 0 (zset 0 (zset 0 (zset 0 (zset 0 (zset 0 (zset 0 (zset 0 (zset 0 (zset 0 kp (12 * k + 0) (nw.getD 0 0)) (12 * k + 6) (am.getD 0 0)) (12 * k + 1) (nw.getD 1 0)) (12 * k + 7) (am.getD 1 0)) (12 * k + 2) (nw.getD 2 0)) (12 * k + 8) (am.getD 2 0)) (12 * k + 3) (nw.getD 3 0)) (12 * k + 9) (am.getD 3 0)) (12 * k + 4) (nw.getD 4 0)) (12 * k + 10) (am.getD 4 0)))) := e66x
  refine wq_gos (f := 1) (pc2 := 9) (ls2 := [(2, .int 5), (0, .ref 162), (1, .int (nI k))]) (st2 := [.ref 162]) (h2 := h65x) (dc2 := 0) (ds2 := 0) 6 rfl ?_
  have e69x := (f67x.2 _ _ (wnc (by decide) wn0) e62x)
  refine wq_getf rfl e69x rfl rfl ?_
  refine wq_gos (f := 1) (pc2 := 18) (ls2 := [(2, .int 5), (0, .ref 162), (1, .int (nI k))]) (st2 := [.int (((12 : Int32) * (nI k)) + (5 : Int32)), .ref 192]) (h2 := h65x) (dc2 := 0) (ds2 := 0) 5 rfl ?_
  refine wq_vi (show ((12 : Int32) * (nI k)) + (5 : Int32) = nI (12 * k + 5) from cl12 (by omega) 5 (by omega)) ?_
  refine wq_gos (f := 1) (pc2 := 19) (ls2 := [(2, .int 5), (0, .ref 162), (1, .int (nI k))]) (st2 := [.ref 162, .int (nI (12 * k + 5)), .ref 192]) (h2 := h65x) (dc2 := 0) (ds2 := 0) 1 rfl ?_
  refine wq_getf rfl e69x rfl rfl ?_
  refine wq_gos (f := 1) (pc2 := 23) (ls2 := [(2, .int 5), (0, .ref 162), (1, .int (nI k))]) (st2 := [.int 5, .ref 188, .int (nI (12 * k + 5)), .ref 192]) (h2 := h65x) (dc2 := 0) (ds2 := 0) 1 rfl ?_
  have e70x := (f67x.2 _ _ (wnc (by decide) wn0) (f60x.2 _ _ (wnc (by decide) wn0) e56x))
  refine wq_iald rfl e70x rfl rfl ?_
  try have q71x := nI_toInt (n := (12 * k + 5)) (by omega)
  refine wq_iastn rfl e66x (by first | omega | exact zin_t (by omega) (by omega)) (by decide) rfl ?_
  intro h72x e73x f74x l75x
  have e73x : zat h72x 192 = some (.inl (0, 252, (zset 0 (zset 0 (zset 0 (zset 0 (zset 0 (zset 0 (zset 0 (zset 0 (zset 0 (zset 0 (zset 0 kp (12 * k + 0) (nw.getD 0 0)) (12 * k + 6) (am.getD 0 0)) (12 * k + 1) (nw.getD 1 0)) (12 * k + 7) (am.getD 1 0)) (12 * k + 2) (nw.getD 2 0)) (12 * k + 8) (am.getD 2 0)) (12 * k + 3) (nw.getD 3 0)) (12 * k + 9) (am.getD 3 0)) (12 * k + 4) (nw.getD 4 0)) (12 * k + 10) (am.getD 4 0)) (12 * k + 5) (nw.getD 5 0)))) := e73x
  refine wq_gos (f := 1) (pc2 := 26) (ls2 := [(2, .int 5), (0, .ref 162), (1, .int (nI k))]) (st2 := [.ref 162]) (h2 := h72x) (dc2 := 0) (ds2 := 0) 1 rfl ?_
  have e76x := (f74x.2 _ _ (wnc (by decide) wn0) e69x)
  refine wq_getf rfl e76x rfl rfl ?_
  refine wq_gos (f := 1) (pc2 := 38) (ls2 := [(2, .int 5), (0, .ref 162), (1, .int (nI k))]) (st2 := [.int ((((12 : Int32) * (nI k)) + (6 : Int32)) + (5 : Int32)), .ref 192]) (h2 := h72x) (dc2 := 0) (ds2 := 0) 7 rfl ?_
  refine wq_vi (show (((12 : Int32) * (nI k)) + (6 : Int32)) + (5 : Int32) = nI (12 * k + 11) from (by rw [Int32.add_assoc]; exact cl12 (by omega) 11 (by omega))) ?_
  refine wq_gos (f := 1) (pc2 := 39) (ls2 := [(2, .int 5), (0, .ref 162), (1, .int (nI k))]) (st2 := [.ref 162, .int (nI (12 * k + 11)), .ref 192]) (h2 := h72x) (dc2 := 0) (ds2 := 0) 1 rfl ?_
  refine wq_getf rfl e76x rfl rfl ?_
  refine wq_gos (f := 1) (pc2 := 43) (ls2 := [(2, .int 5), (0, .ref 162), (1, .int (nI k))]) (st2 := [.int 5, .ref 190, .int (nI (12 * k + 11)), .ref 192]) (h2 := h72x) (dc2 := 0) (ds2 := 0) 1 rfl ?_
  have e77x := (f74x.2 _ _ (wnc (by decide) wn0) (f67x.2 _ _ (wnc (by decide) wn0) e63x))
  refine wq_iald rfl e77x rfl rfl ?_
  try have q78x := nI_toInt (n := (12 * k + 11)) (by omega)
  refine wq_iastn rfl e73x (by first | omega | exact zin_t (by omega) (by omega)) (by decide) rfl ?_
  intro h79x e80x f81x l82x
  have e80x : zat h79x 192 = some (.inl (0, 252, (zset 0 (zset 0 (zset 0 (zset 0 (zset 0 (zset 0 (zset 0 (zset 0 (zset 0 (zset 0 (zset 0 (zset 0 kp (12 * k + 0) (nw.getD 0 0)) (12 * k + 6) (am.getD 0 0)) (12 * k + 1) (nw.getD 1 0)) (12 * k + 7) (am.getD 1 0)) (12 * k + 2) (nw.getD 2 0)) (12 * k + 8) (am.getD 2 0)) (12 * k + 3) (nw.getD 3 0)) (12 * k + 9) (am.getD 3 0)) (12 * k + 4) (nw.getD 4 0)) (12 * k + 10) (am.getD 4 0)) (12 * k + 5) (nw.getD 5 0)) (12 * k + 11) (am.getD 5 0)))) := e80x
  refine wq_gos (f := 1) (pc2 := 51) (ls2 := [(2, .int 6), (0, .ref 162), (1, .int (nI k))]) (st2 := []) (h2 := h79x) (dc2 := 0) (ds2 := 0) 5 rfl ?_
  exact wq_ret rfl rfl ⟨h79x, rfl, (wFr_tr (wFr_sub f4x (by simp)) (wFr_tr (wFr_sub f11x (by simp)) (wFr_tr (wFr_sub f18x (by simp)) (wFr_tr (wFr_sub f25x (by simp)) (wFr_tr (wFr_sub f32x (by simp)) (wFr_tr (wFr_sub f39x (by simp)) (wFr_tr (wFr_sub f46x (by simp)) (wFr_tr (wFr_sub f53x (by simp)) (wFr_tr (wFr_sub f60x (by simp)) (wFr_tr (wFr_sub f67x (by simp)) (wFr_tr (wFr_sub f74x (by simp)) (wFr_sub f81x (by simp))))))))))))), (by omega), (show zat h79x 192 = some (.inl (0, 252, kLay kp nw am k)) from e80x)⟩
set_option maxRecDepth 100000 in
set_option maxHeartbeats 4000000 in
theorem m_keep {h : zH} {n0 n2 n14 n15 n16 n17 n18 n19 n20 n21 n22 n23 n27 n28 n32 n33 n34 n35 n39 n52 : Int32} {nw am kp : List Int32} (hM : zat h 162 = some (.inr (.inr (.inr (10, mO n0 n2 n14 n15 n16 n17 n18 n19 n20 n21 n22 n23 n27 n28 n32 n33 n34 n35 n39 n52))))) (hN : zat h 188 = some (.inl (0, 6, nw))) (hA : zat h 190 = some (.inl (0, 6, am))) (hK : zat h 192 = some (.inl (0, 252, kp)))  : wq 193 0 [(0, .ref 162)] [] h 0 0 (fun r => ∃ (h2 : zH), r = (some (.int 1), h2, 0, 0) ∧ wFr [162, 192] h h2 ∧ h2.length = h.length ∧ zat h2 162 = some (.inr (.inr (.inr (10, mO (0 : Int32) n2 n14 n15 n16 n17 n18 n19 n20 n21 n22 n23 n27 (1 : Int32) n32 n33 n34 n35 n39 n52)))) ∧ zat h2 192 = some (.inl (0, 252, (kLay kp nw am 20)))) := by
  refine wq_gos (f := 1) (pc2 := 2) (ls2 := [(0, .ref 162)]) (st2 := [.int 0, .ref 162]) (h2 := h) (dc2 := 0) (ds2 := 0) 2 rfl ?_
  refine wq_putf rfl hM rfl rfl rfl ?_
  intro h1x e2x f3x l4x
  have e2x : zat h1x 162 = some (.inr (.inr (.inr (10, mO (0 : Int32) n2 n14 n15 n16 n17 n18 n19 n20 n21 n22 n23 n27 n28 n32 n33 n34 n35 n39 n52)))) := e2x
  refine wq_gos (f := 1) (pc2 := 8) (ls2 := [(0, .ref 162)]) (st2 := [.int 20, .ref 162]) (h2 := h1x) (dc2 := 0) (ds2 := 0) 2 rfl ?_
  have e5x := (f3x.2 _ _ (wnc (by decide) wn0) hN)
  have e6x := (f3x.2 _ _ (wnc (by decide) wn0) hA)
  have e7x := (f3x.2 _ _ (wnc (by decide) wn0) hK)
  have q8x : (20 : Int32).toInt = 20 := rfl
  refine wq_inlv (y2 := 189) (as := [.int 20]) rfl rfl rfl e2x rfl (wq_mono (m_lays e2x e5x e6x e7x (by first | assumption | omega | decide | (refine ⟨?_, ?_⟩ <;> omega) | (refine ⟨?_, ?_, ?_⟩ <;> omega))) ?_)
  rintro _ ⟨h89x, rfl, f89x, l89x, c09x⟩
  show wq 193 11 [(0, .ref 162)] [] h89x 0 0 _
  refine wq_gos (f := 1) (pc2 := 13) (ls2 := [(0, .ref 162)]) (st2 := [.int 1, .ref 162]) (h2 := h89x) (dc2 := 0) (ds2 := 0) 2 rfl ?_
  have e10x := (f89x.2 _ _ (wnc (by decide) wn0) e2x)
  refine wq_putf rfl e10x rfl rfl rfl ?_
  intro h11x e12x f13x l14x
  have e12x : zat h11x 162 = some (.inr (.inr (.inr (10, mO (0 : Int32) n2 n14 n15 n16 n17 n18 n19 n20 n21 n22 n23 n27 (1 : Int32) n32 n33 n34 n35 n39 n52)))) := e12x
  refine wq_gos (f := 1) (pc2 := 17) (ls2 := [(0, .ref 162)]) (st2 := [.int 1]) (h2 := h11x) (dc2 := 0) (ds2 := 0) 1 rfl ?_
  have e15x := (f13x.2 _ _ (wnc (by decide) wn0) c09x)
  exact wq_ret rfl rfl ⟨h11x, rfl, (wFr_tr (wFr_sub f3x (by simp)) (wFr_tr (wFr_sub f89x (by simp)) (wFr_sub f13x (by simp)))), (by omega), e12x, e15x⟩
def kNow (nw kp : List Int32) (k : Nat) : List Int32 := (zset 0 (zset 0 (zset 0 (zset 0 (zset 0 (zset 0 nw 0 (kp.getD (12 * k + 0) 0)) 1 (kp.getD (12 * k + 1) 0)) 2 (kp.getD (12 * k + 2) 0)) 3 (kp.getD (12 * k + 3) 0)) 4 (kp.getD (12 * k + 4) 0)) 5 (kp.getD (12 * k + 5) 0))
def kAim (am kp : List Int32) (k : Nat) : List Int32 := (zset 0 (zset 0 (zset 0 (zset 0 (zset 0 (zset 0 am 0 (kp.getD (12 * k + 6) 0)) 1 (kp.getD (12 * k + 7) 0)) 2 (kp.getD (12 * k + 8) 0)) 3 (kp.getD (12 * k + 9) 0)) 4 (kp.getD (12 * k + 10) 0)) 5 (kp.getD (12 * k + 11) 0))
def mvd (hr : List Int32) : List Int32 := zset 0 (zset 0 hr 0 (vp_nar .boolean (0 : Int32))) 1 (vp_nar .boolean (0 : Int32))
set_option maxRecDepth 100000 in
set_option maxHeartbeats 4000000 in
theorem m_laysB {h : zH} {n0 n2 n14 n15 n16 n17 n18 n19 n20 n21 n22 n23 n27 n28 n32 n33 n34 n35 n39 n52 : Int32} {k : Nat} {nw am kp hr : List Int32} (hM : zat h 162 = some (.inr (.inr (.inr (10, mO n0 n2 n14 n15 n16 n17 n18 n19 n20 n21 n22 n23 n27 n28 n32 n33 n34 n35 n39 n52))))) (hN : zat h 188 = some (.inl (0, 6, nw))) (hA : zat h 190 = some (.inl (0, 6, am))) (hK : zat h 192 = some (.inl (0, 252, kp))) (hR : zat h 212 = some (.inl (2, 2, hr))) (hk : k ≤ 20) : wq 190 0 [(0, .ref 162), (1, .int (nI k))] [] h 0 0 (fun r => ∃ (h2 : zH), r = (none, h2, 0, 0) ∧ wFr [162, 188, 190, 212] h h2 ∧ h2.length = h.length ∧ zat h2 162 = some (.inr (.inr (.inr (10, mO n0 n2 n14 n15 n16 n17 n18 n19 n20 n21 n22 n23 n27 n28 n32 (0 : Int32) n34 n35 n39 n52)))) ∧ zat h2 188 = some (.inl (0, 6, (kNow nw kp k))) ∧ zat h2 190 = some (.inl (0, 6, (kAim am kp k))) ∧ zat h2 212 = some (.inl (2, 2, (mvd hr)))) := by
  have qnk := nI_toInt (n := k) (by omega)
  refine wq_gos (f := 1) (pc2 := 9) (ls2 := [(2, .int 0), (0, .ref 162), (1, .int (nI k))]) (st2 := [.ref 162]) (h2 := h) (dc2 := 0) (ds2 := 0) 6 rfl ?_
  refine wq_getf rfl hM rfl rfl ?_
  refine wq_gos (f := 1) (pc2 := 14) (ls2 := [(2, .int 0), (0, .ref 162), (1, .int (nI k))]) (st2 := [.ref 162, .int 0, .ref 188]) (h2 := h) (dc2 := 0) (ds2 := 0) 2 rfl ?_
  refine wq_getf rfl hM rfl rfl ?_
  refine wq_gos (f := 1) (pc2 := 23) (ls2 := [(2, .int 0), (0, .ref 162), (1, .int (nI k))]) (st2 := [.int (((12 : Int32) * (nI k)) + (0 : Int32)), .ref 192, .int 0, .ref 188]) (h2 := h) (dc2 := 0) (ds2 := 0) 5 rfl ?_
  refine wq_vi (show ((12 : Int32) * (nI k)) + (0 : Int32) = nI (12 * k + 0) from cl12 (by omega) 0 (by omega)) ?_
  try have q1x := nI_toInt (n := (12 * k + 0)) (by omega)
  refine wq_ialdn rfl hK (by first | omega | exact zin_t (by omega) (by omega)) (by decide) rfl ?_
  refine wq_iast rfl hN rfl rfl ?_
  intro h2x e3x f4x l5x
  have e3x : zat h2x 188 = some (.inl (0, 6, (zset 0 nw 0 (kp.getD (12 * k + 0) 0)))) := e3x
  refine wq_gos (f := 1) (pc2 := 26) (ls2 := [(2, .int 0), (0, .ref 162), (1, .int (nI k))]) (st2 := [.ref 162]) (h2 := h2x) (dc2 := 0) (ds2 := 0) 1 rfl ?_
  have e6x := (f4x.2 _ _ (wnc (by decide) wn0) hM)
  refine wq_getf rfl e6x rfl rfl ?_
  refine wq_gos (f := 1) (pc2 := 31) (ls2 := [(2, .int 0), (0, .ref 162), (1, .int (nI k))]) (st2 := [.ref 162, .int 0, .ref 190]) (h2 := h2x) (dc2 := 0) (ds2 := 0) 2 rfl ?_
  refine wq_getf rfl e6x rfl rfl ?_
  refine wq_gos (f := 1) (pc2 := 43) (ls2 := [(2, .int 0), (0, .ref 162), (1, .int (nI k))]) (st2 := [.int ((((12 : Int32) * (nI k)) + (6 : Int32)) + (0 : Int32)), .ref 192, .int 0, .ref 190]) (h2 := h2x) (dc2 := 0) (ds2 := 0) 7 rfl ?_
  refine wq_vi (show (((12 : Int32) * (nI k)) + (6 : Int32)) + (0 : Int32) = nI (12 * k + 6) from (by rw [Int32.add_assoc]; exact cl12 (by omega) 6 (by omega))) ?_
  have e7x := (f4x.2 _ _ (wnc (by decide) wn0) hK)
  try have q8x := nI_toInt (n := (12 * k + 6)) (by omega)
  refine wq_ialdn rfl e7x (by first | omega | exact zin_t (by omega) (by omega)) (by decide) rfl ?_
  have e9x := (f4x.2 _ _ (wnc (by decide) wn0) hA)
  refine wq_iast rfl e9x rfl rfl ?_
  intro h10x e11x f12x l13x
  have e11x : zat h10x 190 = some (.inl (0, 6, (zset 0 am 0 (kp.getD (12 * k + 6) 0)))) := e11x
  refine wq_gos (f := 1) (pc2 := 9) (ls2 := [(2, .int 1), (0, .ref 162), (1, .int (nI k))]) (st2 := [.ref 162]) (h2 := h10x) (dc2 := 0) (ds2 := 0) 6 rfl ?_
  have e14x := (f12x.2 _ _ (wnc (by decide) wn0) e6x)
  refine wq_getf rfl e14x rfl rfl ?_
  refine wq_gos (f := 1) (pc2 := 14) (ls2 := [(2, .int 1), (0, .ref 162), (1, .int (nI k))]) (st2 := [.ref 162, .int 1, .ref 188]) (h2 := h10x) (dc2 := 0) (ds2 := 0) 2 rfl ?_
  refine wq_getf rfl e14x rfl rfl ?_
  refine wq_gos (f := 1) (pc2 := 23) (ls2 := [(2, .int 1), (0, .ref 162), (1, .int (nI k))]) (st2 := [.int (((12 : Int32) * (nI k)) + (1 : Int32)), .ref 192, .int 1, .ref 188]) (h2 := h10x) (dc2 := 0) (ds2 := 0) 5 rfl ?_
  refine wq_vi (show ((12 : Int32) * (nI k)) + (1 : Int32) = nI (12 * k + 1) from cl12 (by omega) 1 (by omega)) ?_
  have e15x := (f12x.2 _ _ (wnc (by decide) wn0) e7x)
  try have q16x := nI_toInt (n := (12 * k + 1)) (by omega)
  refine wq_ialdn rfl e15x (by first | omega | exact zin_t (by omega) (by omega)) (by decide) rfl ?_
  have e17x := (f12x.2 _ _ (wnc (by decide) wn0) e3x)
  refine wq_iast rfl e17x rfl rfl ?_
  intro h18x e19x f20x l21x
  have e19x : zat h18x 188 = some (.inl (0, 6, (zset 0 (zset 0 nw 0 (kp.getD (12 * k + 0) 0)) 1 (kp.getD (12 * k + 1) 0)))) := e19x
  refine wq_gos (f := 1) (pc2 := 26) (ls2 := [(2, .int 1), (0, .ref 162), (1, .int (nI k))]) (st2 := [.ref 162]) (h2 := h18x) (dc2 := 0) (ds2 := 0) 1 rfl ?_
  have e22x := (f20x.2 _ _ (wnc (by decide) wn0) e14x)
  refine wq_getf rfl e22x rfl rfl ?_
  refine wq_gos (f := 1) (pc2 := 31) (ls2 := [(2, .int 1), (0, .ref 162), (1, .int (nI k))]) (st2 := [.ref 162, .int 1, .ref 190]) (h2 := h18x) (dc2 := 0) (ds2 := 0) 2 rfl ?_
  refine wq_getf rfl e22x rfl rfl ?_
  refine wq_gos (f := 1) (pc2 := 43) (ls2 := [(2, .int 1), (0, .ref 162), (1, .int (nI k))]) (st2 := [.int ((((12 : Int32) * (nI k)) + (6 : Int32)) + (1 : Int32)), .ref 192, .int 1, .ref 190]) (h2 := h18x) (dc2 := 0) (ds2 := 0) 7 rfl ?_
  refine wq_vi (show (((12 : Int32) * (nI k)) + (6 : Int32)) + (1 : Int32) = nI (12 * k + 7) from (by rw [Int32.add_assoc]; exact cl12 (by omega) 7 (by omega))) ?_
  have e23x := (f20x.2 _ _ (wnc (by decide) wn0) e15x)
  try have q24x := nI_toInt (n := (12 * k + 7)) (by omega)
  refine wq_ialdn rfl e23x (by first | omega | exact zin_t (by omega) (by omega)) (by decide) rfl ?_
  have e25x := (f20x.2 _ _ (wnc (by decide) wn0) e11x)
  refine wq_iast rfl e25x rfl rfl ?_
  intro h26x e27x f28x l29x
  have e27x : zat h26x 190 = some (.inl (0, 6, (zset 0 (zset 0 am 0 (kp.getD (12 * k + 6) 0)) 1 (kp.getD (12 * k + 7) 0)))) := e27x
  refine wq_gos (f := 1) (pc2 := 9) (ls2 := [(2, .int 2), (0, .ref 162), (1, .int (nI k))]) (st2 := [.ref 162]) (h2 := h26x) (dc2 := 0) (ds2 := 0) 6 rfl ?_
  have e30x := (f28x.2 _ _ (wnc (by decide) wn0) e22x)
  refine wq_getf rfl e30x rfl rfl ?_
  refine wq_gos (f := 1) (pc2 := 14) (ls2 := [(2, .int 2), (0, .ref 162), (1, .int (nI k))]) (st2 := [.ref 162, .int 2, .ref 188]) (h2 := h26x) (dc2 := 0) (ds2 := 0) 2 rfl ?_
  refine wq_getf rfl e30x rfl rfl ?_
  refine wq_gos (f := 1) (pc2 := 23) (ls2 := [(2, .int 2), (0, .ref 162), (1, .int (nI k))]) (st2 := [.int (((12 : Int32) * (nI k)) + (2 : Int32)), .ref 192, .int 2, .ref 188]) (h2 := h26x) (dc2 := 0) (ds2 := 0) 5 rfl ?_
  refine wq_vi (show ((12 : Int32) * (nI k)) + (2 : Int32) = nI (12 * k + 2) from cl12 (by omega) 2 (by omega)) ?_
  have e31x := (f28x.2 _ _ (wnc (by decide) wn0) e23x)
  try have q32x := nI_toInt (n := (12 * k + 2)) (by omega)
  refine wq_ialdn rfl e31x (by first | omega | exact zin_t (by omega) (by omega)) (by decide) rfl ?_
  have e33x := (f28x.2 _ _ (wnc (by decide) wn0) e19x)
  refine wq_iast rfl e33x rfl rfl ?_
  intro h34x e35x f36x l37x
  have e35x : zat h34x 188 = some (.inl (0, 6, (zset 0 (zset 0 (zset 0 nw 0 (kp.getD (12 * k + 0) 0)) 1 (kp.getD (12 * k + 1) 0)) 2 (kp.getD (12 * k + 2) 0)))) := e35x
  refine wq_gos (f := 1) (pc2 := 26) (ls2 := [(2, .int 2), (0, .ref 162), (1, .int (nI k))]) (st2 := [.ref 162]) (h2 := h34x) (dc2 := 0) (ds2 := 0) 1 rfl ?_
  have e38x := (f36x.2 _ _ (wnc (by decide) wn0) e30x)
  refine wq_getf rfl e38x rfl rfl ?_
  refine wq_gos (f := 1) (pc2 := 31) (ls2 := [(2, .int 2), (0, .ref 162), (1, .int (nI k))]) (st2 := [.ref 162, .int 2, .ref 190]) (h2 := h34x) (dc2 := 0) (ds2 := 0) 2 rfl ?_
  refine wq_getf rfl e38x rfl rfl ?_
  refine wq_gos (f := 1) (pc2 := 43) (ls2 := [(2, .int 2), (0, .ref 162), (1, .int (nI k))]) (st2 := [.int ((((12 : Int32) * (nI k)) + (6 : Int32)) + (2 : Int32)), .ref 192, .int 2, .ref 190]) (h2 := h34x) (dc2 := 0) (ds2 := 0) 7 rfl ?_
  refine wq_vi (show (((12 : Int32) * (nI k)) + (6 : Int32)) + (2 : Int32) = nI (12 * k + 8) from (by rw [Int32.add_assoc]; exact cl12 (by omega) 8 (by omega))) ?_
  have e39x := (f36x.2 _ _ (wnc (by decide) wn0) e31x)
  try have q40x := nI_toInt (n := (12 * k + 8)) (by omega)
  refine wq_ialdn rfl e39x (by first | omega | exact zin_t (by omega) (by omega)) (by decide) rfl ?_
  have e41x := (f36x.2 _ _ (wnc (by decide) wn0) e27x)
  refine wq_iast rfl e41x rfl rfl ?_
  intro h42x e43x f44x l45x
  have e43x : zat h42x 190 = some (.inl (0, 6, (zset 0 (zset 0 (zset 0 am 0 (kp.getD (12 * k + 6) 0)) 1 (kp.getD (12 * k + 7) 0)) 2 (kp.getD (12 * k + 8) 0)))) := e43x
  refine wq_gos (f := 1) (pc2 := 9) (ls2 := [(2, .int 3), (0, .ref 162), (1, .int (nI k))]) (st2 := [.ref 162]) (h2 := h42x) (dc2 := 0) (ds2 := 0) 6 rfl ?_
  have e46x := (f44x.2 _ _ (wnc (by decide) wn0) e38x)
  refine wq_getf rfl e46x rfl rfl ?_
  refine wq_gos (f := 1) (pc2 := 14) (ls2 := [(2, .int 3), (0, .ref 162), (1, .int (nI k))]) (st2 := [.ref 162, .int 3, .ref 188]) (h2 := h42x) (dc2 := 0) (ds2 := 0) 2 rfl ?_
  refine wq_getf rfl e46x rfl rfl ?_
  refine wq_gos (f := 1) (pc2 := 23) (ls2 := [(2, .int 3), (0, .ref 162), (1, .int (nI k))]) (st2 := [.int (((12 : Int32) * (nI k)) + (3 : Int32)), .ref 192, .int 3, .ref 188]) (h2 := h42x) (dc2 := 0) (ds2 := 0) 5 rfl ?_
  refine wq_vi (show ((12 : Int32) * (nI k)) + (3 : Int32) = nI (12 * k + 3) from cl12 (by omega) 3 (by omega)) ?_
  have e47x := (f44x.2 _ _ (wnc (by decide) wn0) e39x)
  try have q48x := nI_toInt (n := (12 * k + 3)) (by omega)
  refine wq_ialdn rfl e47x (by first | omega | exact zin_t (by omega) (by omega)) (by decide) rfl ?_
  have e49x := (f44x.2 _ _ (wnc (by decide) wn0) e35x)
  refine wq_iast rfl e49x rfl rfl ?_
  intro h50x e51x f52x l53x
  have e51x : zat h50x 188 = some (.inl (0, 6, (zset 0 (zset 0 (zset 0 (zset 0 nw 0 (kp.getD (12 * k + 0) 0)) 1 (kp.getD (12 * k + 1) 0)) 2 (kp.getD (12 * k + 2) 0)) 3 (kp.getD (12 * k + 3) 0)))) := e51x
  refine wq_gos (f := 1) (pc2 := 26) (ls2 := [(2, .int 3), (0, .ref 162), (1, .int (nI k))]) (st2 := [.ref 162]) (h2 := h50x) (dc2 := 0) (ds2 := 0) 1 rfl ?_
  have e54x := (f52x.2 _ _ (wnc (by decide) wn0) e46x)
  refine wq_getf rfl e54x rfl rfl ?_
  refine wq_gos (f := 1) (pc2 := 31) (ls2 := [(2, .int 3), (0, .ref 162), (1, .int (nI k))]) (st2 := [.ref 162, .int 3, .ref 190]) (h2 := h50x) (dc2 := 0) (ds2 := 0) 2 rfl ?_
  refine wq_getf rfl e54x rfl rfl ?_
  refine wq_gos (f := 1) (pc2 := 43) (ls2 := [(2, .int 3), (0, .ref 162), (1, .int (nI k))]) (st2 := [.int ((((12 : Int32) * (nI k)) + (6 : Int32)) + (3 : Int32)), .ref 192, .int 3, .ref 190]) (h2 := h50x) (dc2 := 0) (ds2 := 0) 7 rfl ?_
  refine wq_vi (show (((12 : Int32) * (nI k)) + (6 : Int32)) + (3 : Int32) = nI (12 * k + 9) from (by rw [Int32.add_assoc]; exact cl12 (by omega) 9 (by omega))) ?_
  have e55x := (f52x.2 _ _ (wnc (by decide) wn0) e47x)
  try have q56x := nI_toInt (n := (12 * k + 9)) (by omega)
  refine wq_ialdn rfl e55x (by first | omega | exact zin_t (by omega) (by omega)) (by decide) rfl ?_
  have e57x := (f52x.2 _ _ (wnc (by decide) wn0) e43x)
  refine wq_iast rfl e57x rfl rfl ?_
  intro h58x e59x f60x l61x
  have e59x : zat h58x 190 = some (.inl (0, 6, (zset 0 (zset 0 (zset 0 (zset 0 am 0 (kp.getD (12 * k + 6) 0)) 1 (kp.getD (12 * k + 7) 0)) 2 (kp.getD (12 * k + 8) 0)) 3 (kp.getD (12 * k + 9) 0)))) := e59x
  refine wq_gos (f := 1) (pc2 := 9) (ls2 := [(2, .int 4), (0, .ref 162), (1, .int (nI k))]) (st2 := [.ref 162]) (h2 := h58x) (dc2 := 0) (ds2 := 0) 6 rfl ?_
  have e62x := (f60x.2 _ _ (wnc (by decide) wn0) e54x)
  refine wq_getf rfl e62x rfl rfl ?_
  refine wq_gos (f := 1) (pc2 := 14) (ls2 := [(2, .int 4), (0, .ref 162), (1, .int (nI k))]) (st2 := [.ref 162, .int 4, .ref 188]) (h2 := h58x) (dc2 := 0) (ds2 := 0) 2 rfl ?_
  refine wq_getf rfl e62x rfl rfl ?_
  refine wq_gos (f := 1) (pc2 := 23) (ls2 := [(2, .int 4), (0, .ref 162), (1, .int (nI k))]) (st2 := [.int (((12 : Int32) * (nI k)) + (4 : Int32)), .ref 192, .int 4, .ref 188]) (h2 := h58x) (dc2 := 0) (ds2 := 0) 5 rfl ?_
  refine wq_vi (show ((12 : Int32) * (nI k)) + (4 : Int32) = nI (12 * k + 4) from cl12 (by omega) 4 (by omega)) ?_
  have e63x := (f60x.2 _ _ (wnc (by decide) wn0) e55x)
  try have q64x := nI_toInt (n := (12 * k + 4)) (by omega)
  refine wq_ialdn rfl e63x (by first | omega | exact zin_t (by omega) (by omega)) (by decide) rfl ?_
  have e65x := (f60x.2 _ _ (wnc (by decide) wn0) e51x)
  refine wq_iast rfl e65x rfl rfl ?_
  intro h66x e67x f68x l69x
  have e67x : zat h66x 188 = some (.inl (0, 6, (zset 0 (zset 0 (zset 0 (zset 0 (zset 0 nw 0 (kp.getD (12 * k + 0) 0)) 1 (kp.getD (12 * k + 1) 0)) 2 (kp.getD (12 * k + 2) 0)) 3 (kp.getD (12 * k + 3) 0)) 4 (kp.getD (12 * k + 4) 0)))) := e67x
  refine wq_gos (f := 1) (pc2 := 26) (ls2 := [(2, .int 4), (0, .ref 162), (1, .int (nI k))]) (st2 := [.ref 162]) (h2 := h66x) (dc2 := 0) (ds2 := 0) 1 rfl ?_
  have e70x := (f68x.2 _ _ (wnc (by decide) wn0) e62x)
  refine wq_getf rfl e70x rfl rfl ?_
  refine wq_gos (f := 1) (pc2 := 31) (ls2 := [(2, .int 4), (0, .ref 162), (1, .int (nI k))]) (st2 := [.ref 162, .int 4, .ref 190]) (h2 := h66x) (dc2 := 0) (ds2 := 0) 2 rfl ?_
  refine wq_getf rfl e70x rfl rfl ?_
  refine wq_gos (f := 1) (pc2 := 43) (ls2 := [(2, .int 4), (0, .ref 162), (1, .int (nI k))]) (st2 := [.int ((((12 : Int32) * (nI k)) + (6 : Int32)) + (4 : Int32)), .ref 192, .int 4, .ref 190]) (h2 := h66x) (dc2 := 0) (ds2 := 0) 7 rfl ?_
  refine wq_vi (show (((12 : Int32) * (nI k)) + (6 : Int32)) + (4 : Int32) = nI (12 * k + 10) from (by rw [Int32.add_assoc]; exact cl12 (by omega) 10 (by omega))) ?_
  have e71x := (f68x.2 _ _ (wnc (by decide) wn0) e63x)
  try have q72x := nI_toInt (n := (12 * k + 10)) (by omega)
  refine wq_ialdn rfl e71x (by first | omega | exact zin_t (by omega) (by omega)) (by decide) rfl ?_
  have e73x := (f68x.2 _ _ (wnc (by decide) wn0) e59x)
  refine wq_iast rfl e73x rfl rfl ?_
  intro h74x e75x f76x l77x
  have e75x : zat h74x 190 = some (.inl (0, 6, (zset 0 (zset 0 (zset 0 (zset 0 (zset 0 am 0 (kp.getD (12 * k + 6) 0)) 1 (kp.getD (12 * k + 7) 0)) 2 (kp.getD (12 * k + 8) 0)) 3 (kp.getD (12 * k + 9) 0)) 4 (kp.getD (12 * k + 10) 0)))) := e75x
  refine wq_gos (f := 1) (pc2 := 9) (ls2 := [(2, .int 5), (0, .ref 162), (1, .int (nI k))]) (st2 := [.ref 162]) (h2 := h74x) (dc2 := 0) (ds2 := 0) 6 rfl ?_
  have e78x := (f76x.2 _ _ (wnc (by decide) wn0) e70x)
  refine wq_getf rfl e78x rfl rfl ?_
  refine wq_gos (f := 1) (pc2 := 14) (ls2 := [(2, .int 5), (0, .ref 162), (1, .int (nI k))]) (st2 := [.ref 162, .int 5, .ref 188]) (h2 := h74x) (dc2 := 0) (ds2 := 0) 2 rfl ?_
  refine wq_getf rfl e78x rfl rfl ?_
  refine wq_gos (f := 1) (pc2 := 23) (ls2 := [(2, .int 5), (0, .ref 162), (1, .int (nI k))]) (st2 := [.int (((12 : Int32) * (nI k)) + (5 : Int32)), .ref 192, .int 5, .ref 188]) (h2 := h74x) (dc2 := 0) (ds2 := 0) 5 rfl ?_
  refine wq_vi (show ((12 : Int32) * (nI k)) + (5 : Int32) = nI (12 * k + 5) from cl12 (by omega) 5 (by omega)) ?_
  have e79x := (f76x.2 _ _ (wnc (by decide) wn0) e71x)
  try have q80x := nI_toInt (n := (12 * k + 5)) (by omega)
  refine wq_ialdn rfl e79x (by first | omega | exact zin_t (by omega) (by omega)) (by decide) rfl ?_
  have e81x := (f76x.2 _ _ (wnc (by decide) wn0) e67x)
  refine wq_iast rfl e81x rfl rfl ?_
  intro h82x e83x f84x l85x
  have e83x : zat h82x 188 = some (.inl (0, 6, (zset 0 (zset 0 (zset 0 (zset 0 (zset 0 (zset 0 nw 0 (kp.getD (12 * k + 0) 0)) 1 (kp.getD (12 * k + 1) 0)) 2 (kp.getD (12 * k + 2) 0)) 3 (kp.getD (12 * k + 3) 0)) 4 (kp.getD (12 * k + 4) 0)) 5 (kp.getD (12 * k + 5) 0)))) := e83x
  refine wq_gos (f := 1) (pc2 := 26) (ls2 := [(2, .int 5), (0, .ref 162), (1, .int (nI k))]) (st2 := [.ref 162]) (h2 := h82x) (dc2 := 0) (ds2 := 0) 1 rfl ?_
  have e86x := (f84x.2 _ _ (wnc (by decide) wn0) e78x)
  refine wq_getf rfl e86x rfl rfl ?_
  refine wq_gos (f := 1) (pc2 := 31) (ls2 := [(2, .int 5), (0, .ref 162), (1, .int (nI k))]) (st2 := [.ref 162, .int 5, .ref 190]) (h2 := h82x) (dc2 := 0) (ds2 := 0) 2 rfl ?_
  refine wq_getf rfl e86x rfl rfl ?_
  refine wq_gos (f := 1) (pc2 := 43) (ls2 := [(2, .int 5), (0, .ref 162), (1, .int (nI k))]) (st2 := [.int ((((12 : Int32) * (nI k)) + (6 : Int32)) + (5 : Int32)), .ref 192, .int 5, .ref 190]) (h2 := h82x) (dc2 := 0) (ds2 := 0) 7 rfl ?_
  refine wq_vi (show (((12 : Int32) * (nI k)) + (6 : Int32)) + (5 : Int32) = nI (12 * k + 11) from (by rw [Int32.add_assoc]; exact cl12 (by omega) 11 (by omega))) ?_
  have e87x := (f84x.2 _ _ (wnc (by decide) wn0) e79x)
  try have q88x := nI_toInt (n := (12 * k + 11)) (by omega)
  refine wq_ialdn rfl e87x (by first | omega | exact zin_t (by omega) (by omega)) (by decide) rfl ?_
  have e89x := (f84x.2 _ _ (wnc (by decide) wn0) e75x)
  refine wq_iast rfl e89x rfl rfl ?_
  intro h90x e91x f92x l93x
  have e91x : zat h90x 190 = some (.inl (0, 6, (zset 0 (zset 0 (zset 0 (zset 0 (zset 0 (zset 0 am 0 (kp.getD (12 * k + 6) 0)) 1 (kp.getD (12 * k + 7) 0)) 2 (kp.getD (12 * k + 8) 0)) 3 (kp.getD (12 * k + 9) 0)) 4 (kp.getD (12 * k + 10) 0)) 5 (kp.getD (12 * k + 11) 0)))) := e91x
  refine wq_gos (f := 1) (pc2 := 52) (ls2 := [(2, .int 6), (0, .ref 162), (1, .int (nI k))]) (st2 := [.ref 162]) (h2 := h90x) (dc2 := 0) (ds2 := 0) 6 rfl ?_
  have e94x := (f92x.2 _ _ (wnc (by decide) wn0) e86x)
  refine wq_inlv (y2 := 242) (as := []) rfl rfl rfl e94x rfl ?_
  show wq 242 0 [(0, .ref 162)] [] h90x 0 0 _
  refine wq_gos (f := 1) (pc2 := 2) (ls2 := [(0, .ref 162)]) (st2 := [.int 0, .ref 162]) (h2 := h90x) (dc2 := 0) (ds2 := 0) 2 rfl ?_
  refine wq_putf rfl e94x rfl rfl rfl ?_
  intro h95x e96x f97x l98x
  have e96x : zat h95x 162 = some (.inr (.inr (.inr (10, mO n0 n2 n14 n15 n16 n17 n18 n19 n20 n21 n22 n23 n27 n28 n32 (0 : Int32) n34 n35 n39 n52)))) := e96x
  refine wq_gos (f := 1) (pc2 := 6) (ls2 := [(0, .ref 162)]) (st2 := [.ref 162]) (h2 := h95x) (dc2 := 0) (ds2 := 0) 1 rfl ?_
  refine wq_getf rfl e96x rfl rfl ?_
  refine wq_gos (f := 1) (pc2 := 11) (ls2 := [(0, .ref 162)]) (st2 := [.int 0, .int 0, .ref 212]) (h2 := h95x) (dc2 := 0) (ds2 := 0) 2 rfl ?_
  have e99x := (f97x.2 _ _ (wnc (by decide) wn0) (f92x.2 _ _ (wnc (by decide) wn0) (f84x.2 _ _ (wnc (by decide) wn0) (f76x.2 _ _ (wnc (by decide) wn0) (f68x.2 _ _ (wnc (by decide) wn0) (f60x.2 _ _ (wnc (by decide) wn0) (f52x.2 _ _ (wnc (by decide) wn0) (f44x.2 _ _ (wnc (by decide) wn0) (f36x.2 _ _ (wnc (by decide) wn0) (f28x.2 _ _ (wnc (by decide) wn0) (f20x.2 _ _ (wnc (by decide) wn0) (f12x.2 _ _ (wnc (by decide) wn0) (f4x.2 _ _ (wnc (by decide) wn0) hR)))))))))))))
  have q100x : (0 : Int32).toInt = 0 := rfl
  refine wq_bastz rfl e99x rfl rfl ?_
  intro h101x e102x f103x l104x
  have e102x : zat h101x 212 = some (.inl (2, 2, (zset 0 hr 0 (vp_nar .boolean (0 : Int32))))) := e102x
  refine wq_gos (f := 1) (pc2 := 13) (ls2 := [(0, .ref 162)]) (st2 := [.ref 162]) (h2 := h101x) (dc2 := 0) (ds2 := 0) 1 rfl ?_
  have e105x := (f103x.2 _ _ (wnc (by decide) wn0) e96x)
  refine wq_getf rfl e105x rfl rfl ?_
  refine wq_gos (f := 1) (pc2 := 18) (ls2 := [(0, .ref 162)]) (st2 := [.int 0, .int 1, .ref 212]) (h2 := h101x) (dc2 := 0) (ds2 := 0) 2 rfl ?_
  have q106x : (1 : Int32).toInt = 1 := rfl
  refine wq_bastz rfl e102x rfl rfl ?_
  intro h107x e108x f109x l110x
  have e108x : zat h107x 212 = some (.inl (2, 2, (zset 0 (zset 0 hr 0 (vp_nar .boolean (0 : Int32))) 1 (vp_nar .boolean (0 : Int32))))) := e108x
  refine wq_ret rfl rfl ?_
  show wq 190 55 [(2, .int 6), (0, .ref 162), (1, .int (nI k))] [] h107x 0 0 _
  have e111x := (f109x.2 _ _ (wnc (by decide) wn0) e105x)
  have e112x := (f109x.2 _ _ (wnc (by decide) wn0) (f103x.2 _ _ (wnc (by decide) wn0) (f97x.2 _ _ (wnc (by decide) wn0) (f92x.2 _ _ (wnc (by decide) wn0) e83x))))
  have e113x := (f109x.2 _ _ (wnc (by decide) wn0) (f103x.2 _ _ (wnc (by decide) wn0) (f97x.2 _ _ (wnc (by decide) wn0) e91x)))
  exact wq_ret rfl rfl ⟨h107x, rfl, (wFr_tr (wFr_sub f4x (by simp)) (wFr_tr (wFr_sub f12x (by simp)) (wFr_tr (wFr_sub f20x (by simp)) (wFr_tr (wFr_sub f28x (by simp)) (wFr_tr (wFr_sub f36x (by simp)) (wFr_tr (wFr_sub f44x (by simp)) (wFr_tr (wFr_sub f52x (by simp)) (wFr_tr (wFr_sub f60x (by simp)) (wFr_tr (wFr_sub f68x (by simp)) (wFr_tr (wFr_sub f76x (by simp)) (wFr_tr (wFr_sub f84x (by simp)) (wFr_tr (wFr_sub f92x (by simp)) (wFr_tr (wFr_sub f97x (by simp)) (wFr_tr (wFr_sub f103x (by simp)) (wFr_sub f109x (by simp)))))))))))))))), (by omega), e111x, (show zat h107x 188 = some (.inl (0, 6, kNow nw kp k)) from e112x), (show zat h107x 190 = some (.inl (0, 6, kAim am kp k)) from e113x), (show zat h107x 212 = some (.inl (2, 2, mvd hr)) from e108x)⟩
set_option maxRecDepth 100000 in
set_option maxHeartbeats 4000000 in
theorem m_undoN {h : zH} {n0 n2 n14 n15 n16 n17 n18 n19 n20 n21 n22 n23 n28 n32 n33 n34 n35 n39 n52 : Int32} {u : Nat} (hM : zat h 162 = some (.inr (.inr (.inr (10, mO n0 n2 n14 n15 n16 n17 n18 n19 n20 n21 n22 n23 (nI u) n28 n32 n33 n34 n35 n39 n52))))) (hu : u = 0) : wq 192 0 [(0, .ref 162)] [] h 0 0 (fun r => ∃ (h2 : zH), r = (some (.int (-1)), h2, 0, 0) ∧ wFr [162] h h2 ∧ h2.length = h.length ∧ zat h2 162 = some (.inr (.inr (.inr (10, mO (0 : Int32) n2 n14 n15 n16 n17 n18 n19 n20 n21 n22 n23 (nI u) n28 n32 n33 n34 n35 n39 n52))))) := by
  refine wq_gos (f := 1) (pc2 := 2) (ls2 := [(0, .ref 162)]) (st2 := [.int 0, .ref 162]) (h2 := h) (dc2 := 0) (ds2 := 0) 2 rfl ?_
  refine wq_putf rfl hM rfl rfl rfl ?_
  intro h1x e2x f3x l4x
  have e2x : zat h1x 162 = some (.inr (.inr (.inr (10, mO (0 : Int32) n2 n14 n15 n16 n17 n18 n19 n20 n21 n22 n23 (nI u) n28 n32 n33 n34 n35 n39 n52)))) := e2x
  refine wq_gos (f := 1) (pc2 := 6) (ls2 := [(0, .ref 162)]) (st2 := [.ref 162]) (h2 := h1x) (dc2 := 0) (ds2 := 0) 1 rfl ?_
  refine wq_getf rfl e2x rfl rfl ?_
  try have q5x := nI_toInt (n := u) (by omega)
  refine wq_ne0f rfl rfl (by rw [hu]; rfl) ?_
  refine wq_gos (f := 1) (pc2 := 13) (ls2 := [(0, .ref 162)]) (st2 := [.int (-1)]) (h2 := h1x) (dc2 := 0) (ds2 := 0) 1 rfl ?_
  exact wq_ret rfl rfl ⟨h1x, rfl, (wFr_sub f3x (by simp)), (by omega), e2x⟩
set_option maxRecDepth 100000 in
set_option maxHeartbeats 4000000 in
theorem m_undo {h : zH} {n0 n2 n14 n15 n16 n17 n18 n19 n20 n21 n22 n23 n28 n32 n33 n34 n35 n39 n52 : Int32} {u : Nat} {nw am kp hr : List Int32} (hM : zat h 162 = some (.inr (.inr (.inr (10, mO n0 n2 n14 n15 n16 n17 n18 n19 n20 n21 n22 n23 (nI u) n28 n32 n33 n34 n35 n39 n52))))) (hN : zat h 188 = some (.inl (0, 6, nw))) (hA : zat h 190 = some (.inl (0, 6, am))) (hK : zat h 192 = some (.inl (0, 252, kp))) (hR : zat h 212 = some (.inl (2, 2, hr))) (hu : 1 ≤ u ∧ u ≤ 20) : wq 192 0 [(0, .ref 162)] [] h 0 0 (fun r => ∃ (h2 : zH), r = (some (.int (nI (u - 1))), h2, 0, 0) ∧ wFr [162, 188, 190, 212] h h2 ∧ h2.length = h.length ∧ zat h2 162 = some (.inr (.inr (.inr (10, mO (0 : Int32) n2 n14 n15 n16 n17 n18 n19 n20 n21 n22 n23 (nI (u - 1)) n28 n32 (0 : Int32) n34 n35 n39 n52)))) ∧ zat h2 188 = some (.inl (0, 6, (kNow nw kp (u - 1)))) ∧ zat h2 190 = some (.inl (0, 6, (kAim am kp (u - 1)))) ∧ zat h2 212 = some (.inl (2, 2, (mvd hr)))) := by
  have qnu := nI_toInt (n := u) (by omega)
  refine wq_gos (f := 1) (pc2 := 2) (ls2 := [(0, .ref 162)]) (st2 := [.int 0, .ref 162]) (h2 := h) (dc2 := 0) (ds2 := 0) 2 rfl ?_
  refine wq_putf rfl hM rfl rfl rfl ?_
  intro h1x e2x f3x l4x
  have e2x : zat h1x 162 = some (.inr (.inr (.inr (10, mO (0 : Int32) n2 n14 n15 n16 n17 n18 n19 n20 n21 n22 n23 (nI u) n28 n32 n33 n34 n35 n39 n52)))) := e2x
  refine wq_gos (f := 1) (pc2 := 6) (ls2 := [(0, .ref 162)]) (st2 := [.ref 162]) (h2 := h1x) (dc2 := 0) (ds2 := 0) 1 rfl ?_
  refine wq_getf rfl e2x rfl rfl ?_
  try have q5x := nI_toInt (n := u) (by omega)
  refine wq_ne0t rfl (fun q => by have q9 := congrArg Int32.toInt q; have q8 : (0 : Int32).toInt = 0 := rfl; omega) ?_
  refine wq_gos (f := 1) (pc2 := 16) (ls2 := [(0, .ref 162)]) (st2 := [.ref 162, .ref 162]) (h2 := h1x) (dc2 := 0) (ds2 := 0) 2 rfl ?_
  refine wq_getf rfl e2x rfl rfl ?_
  refine wq_gos (f := 1) (pc2 := 21) (ls2 := [(0, .ref 162)]) (st2 := [.int ((nI u) - (1 : Int32)), .ref 162]) (h2 := h1x) (dc2 := 0) (ds2 := 0) 2 rfl ?_
  refine wq_vi (nI_predn (a := u) (by omega)) ?_
  refine wq_putf rfl e2x rfl rfl rfl ?_
  intro h6x e7x f8x l9x
  have e7x : zat h6x 162 = some (.inr (.inr (.inr (10, mO (0 : Int32) n2 n14 n15 n16 n17 n18 n19 n20 n21 n22 n23 (nI (u - 1)) n28 n32 n33 n34 n35 n39 n52)))) := e7x
  refine wq_gos (f := 1) (pc2 := 26) (ls2 := [(0, .ref 162)]) (st2 := [.ref 162, .ref 162]) (h2 := h6x) (dc2 := 0) (ds2 := 0) 2 rfl ?_
  refine wq_getf rfl e7x rfl rfl ?_
  have e10x := (f8x.2 _ _ (wnc (by decide) wn0) (f3x.2 _ _ (wnc (by decide) wn0) hN))
  have e11x := (f8x.2 _ _ (wnc (by decide) wn0) (f3x.2 _ _ (wnc (by decide) wn0) hA))
  have e12x := (f8x.2 _ _ (wnc (by decide) wn0) (f3x.2 _ _ (wnc (by decide) wn0) hK))
  have e13x := (f8x.2 _ _ (wnc (by decide) wn0) (f3x.2 _ _ (wnc (by decide) wn0) hR))
  try have q14x := nI_toInt (n := (u - 1)) (by omega)
  refine wq_inlv (y2 := 190) (as := [.int (nI (u - 1))]) rfl rfl rfl e7x rfl (wq_mono (m_laysB e7x e10x e11x e12x e13x (by first | assumption | omega | decide | (refine ⟨?_, ?_⟩ <;> omega) | (refine ⟨?_, ?_, ?_⟩ <;> omega))) ?_)
  rintro _ ⟨h815x, rfl, f815x, l815x, c015x, c115x, c215x, c315x⟩
  show wq 192 32 [(0, .ref 162)] [] h815x 0 0 _
  refine wq_gos (f := 1) (pc2 := 33) (ls2 := [(0, .ref 162)]) (st2 := [.ref 162]) (h2 := h815x) (dc2 := 0) (ds2 := 0) 1 rfl ?_
  refine wq_getf rfl c015x rfl rfl ?_
  exact wq_ret rfl rfl ⟨h815x, rfl, (wFr_tr (wFr_sub f3x (by simp)) (wFr_tr (wFr_sub f8x (by simp)) (wFr_sub f815x (by simp)))), (by omega), (by rw [show (.inr (.inr (.inr (10, mO (0 : Int32) n2 n14 n15 n16 n17 n18 n19 n20 n21 n22 n23 (nI (u - 1)) n28 n32 (0 : Int32) n34 n35 n39 n52))) : zE) = .inr (.inr (.inr (10, mO (0 : Int32) n2 n14 n15 n16 n17 n18 n19 n20 n21 n22 n23 (nI (u - 1)) n28 n32 (0 : Int32) n34 n35 n39 n52))) from rfl]; exact c015x), c115x, c215x, c315x⟩
set_option maxRecDepth 100000 in
set_option maxHeartbeats 4000000 in
theorem m_backN {h : zH} {n0 n2 n14 n15 n16 n17 n18 n19 n20 n21 n22 n23 n27 n28 n32 n33 n34 n35 n39 n52 : Int32} (hM : zat h 162 = some (.inr (.inr (.inr (10, mO n0 n2 n14 n15 n16 n17 n18 n19 n20 n21 n22 n23 n27 n28 n32 n33 n34 n35 n39 n52))))) (hi : n28 = 0) : wq 194 0 [(0, .ref 162)] [] h 0 0 (fun r => ∃ (h2 : zH), r = (some (.int 0), h2, 0, 0) ∧ wFr [162] h h2 ∧ h2.length = h.length ∧ zat h2 162 = some (.inr (.inr (.inr (10, mO (0 : Int32) n2 n14 n15 n16 n17 n18 n19 n20 n21 n22 n23 n27 n28 n32 n33 n34 n35 n39 n52))))) := by
  refine wq_gos (f := 1) (pc2 := 2) (ls2 := [(0, .ref 162)]) (st2 := [.int 0, .ref 162]) (h2 := h) (dc2 := 0) (ds2 := 0) 2 rfl ?_
  refine wq_putf rfl hM rfl rfl rfl ?_
  intro h1x e2x f3x l4x
  have e2x : zat h1x 162 = some (.inr (.inr (.inr (10, mO (0 : Int32) n2 n14 n15 n16 n17 n18 n19 n20 n21 n22 n23 n27 n28 n32 n33 n34 n35 n39 n52)))) := e2x
  refine wq_gos (f := 1) (pc2 := 6) (ls2 := [(0, .ref 162)]) (st2 := [.ref 162]) (h2 := h1x) (dc2 := 0) (ds2 := 0) 1 rfl ?_
  refine wq_getf rfl e2x rfl rfl ?_
  refine wq_ne0f rfl rfl hi ?_
  refine wq_gos (f := 1) (pc2 := 13) (ls2 := [(0, .ref 162)]) (st2 := [.int 0]) (h2 := h1x) (dc2 := 0) (ds2 := 0) 1 rfl ?_
  exact wq_ret rfl rfl ⟨h1x, rfl, (wFr_sub f3x (by simp)), (by omega), e2x⟩
set_option maxRecDepth 100000 in
set_option maxHeartbeats 4000000 in
theorem m_back {h : zH} {n0 n2 n14 n15 n16 n17 n18 n19 n20 n21 n22 n23 n27 n28 n32 n33 n34 n35 n39 n52 : Int32} {nw am kp hr : List Int32} (hM : zat h 162 = some (.inr (.inr (.inr (10, mO n0 n2 n14 n15 n16 n17 n18 n19 n20 n21 n22 n23 n27 n28 n32 n33 n34 n35 n39 n52))))) (hN : zat h 188 = some (.inl (0, 6, nw))) (hA : zat h 190 = some (.inl (0, 6, am))) (hK : zat h 192 = some (.inl (0, 252, kp))) (hR : zat h 212 = some (.inl (2, 2, hr))) (hi : n28 ≠ 0) : wq 194 0 [(0, .ref 162)] [] h 0 0 (fun r => ∃ (h2 : zH), r = (some (.int 1), h2, 0, 0) ∧ wFr [162, 188, 190, 212] h h2 ∧ h2.length = h.length ∧ zat h2 162 = some (.inr (.inr (.inr (10, mO (0 : Int32) n2 n14 n15 n16 n17 n18 n19 n20 n21 n22 n23 (0 : Int32) n28 n32 (0 : Int32) n34 n35 n39 n52)))) ∧ zat h2 188 = some (.inl (0, 6, (kNow nw kp 20))) ∧ zat h2 190 = some (.inl (0, 6, (kAim am kp 20))) ∧ zat h2 212 = some (.inl (2, 2, (mvd hr)))) := by
  refine wq_gos (f := 1) (pc2 := 2) (ls2 := [(0, .ref 162)]) (st2 := [.int 0, .ref 162]) (h2 := h) (dc2 := 0) (ds2 := 0) 2 rfl ?_
  refine wq_putf rfl hM rfl rfl rfl ?_
  intro h1x e2x f3x l4x
  have e2x : zat h1x 162 = some (.inr (.inr (.inr (10, mO (0 : Int32) n2 n14 n15 n16 n17 n18 n19 n20 n21 n22 n23 n27 n28 n32 n33 n34 n35 n39 n52)))) := e2x
  refine wq_gos (f := 1) (pc2 := 6) (ls2 := [(0, .ref 162)]) (st2 := [.ref 162]) (h2 := h1x) (dc2 := 0) (ds2 := 0) 1 rfl ?_
  refine wq_getf rfl e2x rfl rfl ?_
  refine wq_ne0t rfl hi ?_
  refine wq_gos (f := 1) (pc2 := 17) (ls2 := [(0, .ref 162)]) (st2 := [.int 20, .ref 162]) (h2 := h1x) (dc2 := 0) (ds2 := 0) 2 rfl ?_
  have e5x := (f3x.2 _ _ (wnc (by decide) wn0) hN)
  have e6x := (f3x.2 _ _ (wnc (by decide) wn0) hA)
  have e7x := (f3x.2 _ _ (wnc (by decide) wn0) hK)
  have e8x := (f3x.2 _ _ (wnc (by decide) wn0) hR)
  have q9x : (20 : Int32).toInt = 20 := rfl
  refine wq_inlv (y2 := 190) (as := [.int 20]) rfl rfl rfl e2x rfl (wq_mono (m_laysB e2x e5x e6x e7x e8x (by first | assumption | omega | decide | (refine ⟨?_, ?_⟩ <;> omega) | (refine ⟨?_, ?_, ?_⟩ <;> omega))) ?_)
  rintro _ ⟨h810x, rfl, f810x, l810x, c010x, c110x, c210x, c310x⟩
  show wq 194 20 [(0, .ref 162)] [] h810x 0 0 _
  refine wq_gos (f := 1) (pc2 := 22) (ls2 := [(0, .ref 162)]) (st2 := [.int 0, .ref 162]) (h2 := h810x) (dc2 := 0) (ds2 := 0) 2 rfl ?_
  refine wq_putf rfl c010x rfl rfl rfl ?_
  intro h11x e12x f13x l14x
  have e12x : zat h11x 162 = some (.inr (.inr (.inr (10, mO (0 : Int32) n2 n14 n15 n16 n17 n18 n19 n20 n21 n22 n23 (0 : Int32) n28 n32 (0 : Int32) n34 n35 n39 n52)))) := e12x
  refine wq_gos (f := 1) (pc2 := 26) (ls2 := [(0, .ref 162)]) (st2 := [.int 1]) (h2 := h11x) (dc2 := 0) (ds2 := 0) 1 rfl ?_
  have e15x := (f13x.2 _ _ (wnc (by decide) wn0) c110x)
  have e16x := (f13x.2 _ _ (wnc (by decide) wn0) c210x)
  have e17x := (f13x.2 _ _ (wnc (by decide) wn0) c310x)
  exact wq_ret rfl rfl ⟨h11x, rfl, (wFr_tr (wFr_sub f3x (by simp)) (wFr_tr (wFr_sub f810x (by simp)) (wFr_sub f13x (by simp)))), (by omega), (by rw [show (.inr (.inr (.inr (10, mO (0 : Int32) n2 n14 n15 n16 n17 n18 n19 n20 n21 n22 n23 (0 : Int32) n28 n32 (0 : Int32) n34 n35 n39 n52))) : zE) = .inr (.inr (.inr (10, mO (0 : Int32) n2 n14 n15 n16 n17 n18 n19 n20 n21 n22 n23 (0 : Int32) n28 n32 (0 : Int32) n34 n35 n39 n52))) from rfl]; exact e12x), e15x, e16x, e17x⟩
