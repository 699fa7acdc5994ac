/-! The reference: feed, keep, back, undo, what is remembered. -/
set_option maxRecDepth 100000 in
set_option maxHeartbeats 4000000 in
theorem m_feedN {h : zH} {n0 n14 n15 n16 n17 n18 n19 n20 n21 n22 n23 n27 n28 n32 n33 n34 n35 n39 n52 : Int32} {t : Nat} {a b c d e : Int32} (hM : zat h 162 = some (.inr (.inr (.inr (10, mO n0 (nI t) n14 n15 n16 n17 n18 n19 n20 n21 n22 n23 n27 n28 n32 n33 n34 n35 n39 n52))))) (ht : 680 < t ∧ t ≤ 700) : wq 155 0 [(0, .ref 162), (1, .int a), (2, .int b), (3, .int c), (4, .int d), (5, .int e)] [] h 0 0 (fun rr9 => ∃ (h2 : zH), rr9 = (some (.int (-1)), h2, 0, 0) ∧ wFr [162] h h2 ∧ h2.length = h.length ∧ zat h2 162 = some (.inr (.inr (.inr (10, mO (0 : Int32) (nI t) n14 n15 n16 n17 n18 n19 n20 n21 n22 n23 n27 n28 n32 n33 n34 n35 n39 n52))))) := by
  have qnt := nI_toInt (n := t) (by omega)
  refine wq_gos (f := 1) (pc2 := 2) (ls2 := [(0, .ref 162), (1, .int a), (2, .int b), (3, .int c), (4, .int d), (5, .int e)]) (st2 := [.int 0, .ref 162]) (h2 := h) (dc2 := 0) (ds2 := 0) 2 rfl ?_
  refine wq_putf rfl hM rfl rfl rfl ?_
  intro h1x e2x f3x l4x
  have e2x : zat h1x 162 = some (.inr (.inr (.inr (10, mO (0 : Int32) (nI t) n14 n15 n16 n17 n18 n19 n20 n21 n22 n23 n27 n28 n32 n33 n34 n35 n39 n52)))) := e2x
  refine wq_gos (f := 1) (pc2 := 6) (ls2 := [(0, .ref 162), (1, .int a), (2, .int b), (3, .int c), (4, .int d), (5, .int e)]) (st2 := [.ref 162]) (h2 := h1x) (dc2 := 0) (ds2 := 0) 1 rfl ?_
  refine wq_getf rfl e2x rfl rfl ?_
  refine wq_gos (f := 1) (pc2 := 12) (ls2 := [(0, .ref 162), (1, .int a), (2, .int b), (3, .int c), (4, .int d), (5, .int e)]) (st2 := [.int 680, .int (nI t)]) (h2 := h1x) (dc2 := 0) (ds2 := 0) 1 rfl ?_
  try have q5x := nI_toInt (n := t) (by omega)
  have q6x : (680 : Int32).toInt = 680 := rfl
  refine wq_le2f rfl rfl (by omega) ?_
  refine wq_gos (f := 1) (pc2 := 16) (ls2 := [(0, .ref 162), (1, .int a), (2, .int b), (3, .int c), (4, .int d), (5, .int e)]) (st2 := [.int (-1)]) (h2 := h1x) (dc2 := 0) (ds2 := 0) 1 rfl ?_
  exact wq_ret rfl rfl ⟨h1x, rfl, (wFr_sub f3x (by simp)), (by omega), e2x⟩
noncomputable def mfdF (a b c d e : Int32) : Nat → Nat → Nat → List Int32 → Int32 × Nat × List Int32
  | 0, _, t, tb => (0, t, tb)
  | m + 1, k, t, tb => (if (20 : Int32).toInt ≤ (nI k).toInt then ((nI (t + 20)), (t + 20), tb) else (if (4 : Int32).toInt ≤ (nI k).toInt then (if (8 : Int32).toInt ≤ (nI k).toInt then (if (12 : Int32).toInt ≤ (nI k).toInt then (if (16 : Int32).toInt ≤ (nI k).toInt then (mfdF a b c d e m (k + 1) t (zset 0 tb (t + k) ((e >>> (((24 : Int32) - ((8 : Int32) * ((nI k) - (nI k) / (4 : Int32) * (4 : Int32)))) &&& 31)) &&& (255 : Int32)))) else (mfdF a b c d e m (k + 1) t (zset 0 tb (t + k) ((d >>> (((24 : Int32) - ((8 : Int32) * ((nI k) - (nI k) / (4 : Int32) * (4 : Int32)))) &&& 31)) &&& (255 : Int32))))) else (mfdF a b c d e m (k + 1) t (zset 0 tb (t + k) ((c >>> (((24 : Int32) - ((8 : Int32) * ((nI k) - (nI k) / (4 : Int32) * (4 : Int32)))) &&& 31)) &&& (255 : Int32))))) else (mfdF a b c d e m (k + 1) t (zset 0 tb (t + k) ((b >>> (((24 : Int32) - ((8 : Int32) * ((nI k) - (nI k) / (4 : Int32) * (4 : Int32)))) &&& 31)) &&& (255 : Int32))))) else (mfdF a b c d e m (k + 1) t (zset 0 tb (t + k) ((a >>> (((24 : Int32) - ((8 : Int32) * ((nI k) - (nI k) / (4 : Int32) * (4 : Int32)))) &&& 31)) &&& (255 : Int32))))))
set_option maxRecDepth 100000 in
set_option maxHeartbeats 4000000 in
theorem m_fdL {n0 n14 n15 n16 n17 n18 n19 n20 n21 n22 n23 n27 n28 n32 n33 n34 n35 n39 n52 : Int32} {a b c d e : Int32}  : ∀ (m : Nat) (k : Nat) (t : Nat) (tb : List Int32) (h : zH) , (zat h 162 = some (.inr (.inr (.inr (10, mO n0 (nI t) n14 n15 n16 n17 n18 n19 n20 n21 n22 n23 n27 n28 n32 n33 n34 n35 n39 n52))))) → (zat h 164 = some (.inl (0, 700, tb))) → (k ≤ 20 ∧ t ≤ 680) → (20 - k) < m → ∀ (dc ds : Nat), wq 155 20 [(0, .ref 162), (1, .int a), (2, .int b), (3, .int c), (4, .int d), (5, .int e), (6, .int (nI k))] [] h dc ds (fun rr9 => ∃ (h2 : zH) , rr9 = (some (Value.int ((mfdF a b c d e m k t tb).1)), h2, dc, ds) ∧ wFr [162, 164] h h2 ∧ h2.length = h.length ∧ zat h2 162 = some (.inr (.inr (.inr (10, mO n0 (nI ((mfdF a b c d e m k t tb).2.1)) n14 n15 n16 n17 n18 n19 n20 n21 n22 n23 n27 n28 n32 n33 n34 n35 n39 n52)))) ∧ zat h2 164 = some (.inl (0, 700, ((mfdF a b c d e m k t tb).2.2)))) := by
  intro m
  induction m with
  | zero => intro k t tb h hM hT hk hms dc ds; omega
  | succ m ih =>
    intro k t tb h hM hT hk hms dc ds
    have qnk := nI_toInt (n := k) (by omega)
    have qnt := nI_toInt (n := t) (by omega)
    refine wq_gos (f := 1) (pc2 := 24) (ls2 := [(0, .ref 162), (1, .int a), (2, .int b), (3, .int c), (4, .int d), (5, .int e), (6, .int (nI k))]) (st2 := [.int 20, .int (nI k)]) (h2 := h) (dc2 := dc) (ds2 := ds) 2 rfl ?_
    try have q1x := nI_toInt (n := k) (by omega)
    have q2x : (20 : Int32).toInt = 20 := rfl
    refine wq_ge2 rfl rfl (fun b3x => ?_) (fun b3x => ?_)
    · refine wq_gos (f := 1) (pc2 := 112) (ls2 := [(0, .ref 162), (1, .int a), (2, .int b), (3, .int c), (4, .int d), (5, .int e), (6, .int (nI k))]) (st2 := [.ref 162, .ref 162]) (h2 := h) (dc2 := dc) (ds2 := ds) 2 rfl ?_
      refine wq_getf rfl hM rfl rfl ?_
      refine wq_gos (f := 1) (pc2 := 118) (ls2 := [(0, .ref 162), (1, .int a), (2, .int b), (3, .int c), (4, .int d), (5, .int e), (6, .int (nI k))]) (st2 := [.int ((nI t) + (20 : Int32)), .ref 162]) (h2 := h) (dc2 := dc) (ds2 := ds) 2 rfl ?_
      refine wq_vi (show (nI t) + (20 : Int32) = nI (t + 20) from nI_add t 20) ?_
      refine wq_putf rfl hM rfl rfl rfl ?_
      intro h4x e5x f6x l7x
      have e5x : zat h4x 162 = some (.inr (.inr (.inr (10, mO n0 (nI (t + 20)) n14 n15 n16 n17 n18 n19 n20 n21 n22 n23 n27 n28 n32 n33 n34 n35 n39 n52)))) := e5x
      refine wq_gos (f := 1) (pc2 := 122) (ls2 := [(0, .ref 162), (1, .int a), (2, .int b), (3, .int c), (4, .int d), (5, .int e), (6, .int (nI k))]) (st2 := [.ref 162]) (h2 := h4x) (dc2 := dc) (ds2 := ds) 1 rfl ?_
      refine wq_getf rfl e5x rfl rfl ?_
      have e8x := (f6x.2 _ _ (wnc (by decide) wn0) hT)
      have hx : (mfdF a b c d e (m + 1) k t tb) = ((nI (t + 20)), (t + 20), tb) := by show (if _ then _ else _) = _; rw [if_pos b3x]
      rw [hx]
      exact wq_ret rfl rfl ⟨h4x, rfl, (wFr_sub f6x (by simp)), by omega, e5x, e8x⟩
    · refine wq_gos (f := 1) (pc2 := 30) (ls2 := [(0, .ref 162), (1, .int a), (2, .int b), (3, .int c), (4, .int d), (5, .int e), (6, .int (nI k))]) (st2 := [.int 4, .int (nI k)]) (h2 := h) (dc2 := dc) (ds2 := ds) 2 rfl ?_
      have q9x : (4 : Int32).toInt = 4 := rfl
      refine wq_ge2 rfl rfl (fun b10x => ?_) (fun b10x => ?_)
      · refine wq_gos (f := 1) (pc2 := 41) (ls2 := [(0, .ref 162), (1, .int a), (2, .int b), (3, .int c), (4, .int d), (5, .int e), (6, .int (nI k))]) (st2 := [.int 8, .int (nI k)]) (h2 := h) (dc2 := dc) (ds2 := ds) 2 rfl ?_
        have q11x : (8 : Int32).toInt = 8 := rfl
        refine wq_ge2 rfl rfl (fun b12x => ?_) (fun b12x => ?_)
        · refine wq_gos (f := 1) (pc2 := 52) (ls2 := [(0, .ref 162), (1, .int a), (2, .int b), (3, .int c), (4, .int d), (5, .int e), (6, .int (nI k))]) (st2 := [.int 12, .int (nI k)]) (h2 := h) (dc2 := dc) (ds2 := ds) 2 rfl ?_
          have q13x : (12 : Int32).toInt = 12 := rfl
          refine wq_ge2 rfl rfl (fun b14x => ?_) (fun b14x => ?_)
          · refine wq_gos (f := 1) (pc2 := 63) (ls2 := [(0, .ref 162), (1, .int a), (2, .int b), (3, .int c), (4, .int d), (5, .int e), (6, .int (nI k))]) (st2 := [.int 16, .int (nI k)]) (h2 := h) (dc2 := dc) (ds2 := ds) 2 rfl ?_
            have q15x : (16 : Int32).toInt = 16 := rfl
            refine wq_ge2 rfl rfl (fun b16x => ?_) (fun b16x => ?_)
            · refine wq_gos (f := 1) (pc2 := 76) (ls2 := [(7, .int e), (0, .ref 162), (1, .int a), (2, .int b), (3, .int c), (4, .int d), (5, .int e), (6, .int (nI k))]) (st2 := [.ref 162]) (h2 := h) (dc2 := dc) (ds2 := ds) 3 rfl ?_
              refine wq_getf rfl hM rfl rfl ?_
              refine wq_gos (f := 1) (pc2 := 80) (ls2 := [(7, .int e), (0, .ref 162), (1, .int a), (2, .int b), (3, .int c), (4, .int d), (5, .int e), (6, .int (nI k))]) (st2 := [.ref 162, .ref 164]) (h2 := h) (dc2 := dc) (ds2 := ds) 1 rfl ?_
              refine wq_getf rfl hM rfl rfl ?_
              refine wq_gos (f := 1) (pc2 := 86) (ls2 := [(7, .int e), (0, .ref 162), (1, .int a), (2, .int b), (3, .int c), (4, .int d), (5, .int e), (6, .int (nI k))]) (st2 := [.int ((nI t) + (nI k)), .ref 164]) (h2 := h) (dc2 := dc) (ds2 := ds) 2 rfl ?_
              refine wq_vi (show (nI t) + (nI k) = nI (t + k) from nI_add t k) ?_
              refine wq_gos (f := 1) (pc2 := 103) (ls2 := [(7, .int e), (0, .ref 162), (1, .int a), (2, .int b), (3, .int c), (4, .int d), (5, .int e), (6, .int (nI k))]) (st2 := [.int ((e >>> (((24 : Int32) - ((8 : Int32) * ((nI k) - (nI k) / (4 : Int32) * (4 : Int32)))) &&& 31)) &&& (255 : Int32)), .int (nI (t + k)), .ref 164]) (h2 := h) (dc2 := dc) (ds2 := ds) 11 rfl ?_
              try have q17x := nI_toInt (n := (t + k)) (by omega)
              refine wq_iastn rfl hT (by first | omega | exact zin_t (by omega) (by omega)) (by decide) rfl ?_
              intro h18x e19x f20x l21x
              have e19x : zat h18x 164 = some (.inl (0, 700, (zset 0 tb (t + k) ((e >>> (((24 : Int32) - ((8 : Int32) * ((nI k) - (nI k) / (4 : Int32) * (4 : Int32)))) &&& 31)) &&& (255 : Int32))))) := e19x
              refine wq_gos (f := 1) (pc2 := 107) (ls2 := [(6, .int ((nI k) + 1)), (7, .int e), (0, .ref 162), (1, .int a), (2, .int b), (3, .int c), (4, .int d), (5, .int e)]) (st2 := []) (h2 := h18x) (dc2 := dc) (ds2 := ds) 1 rfl ?_
              rw [nI_1]
              refine wq_gos (f := 1) (pc2 := 20) (ls2 := [(6, .int (nI (k + 1))), (7, .int e), (0, .ref 162), (1, .int a), (2, .int b), (3, .int c), (4, .int d), (5, .int e)]) (st2 := []) (h2 := h18x) (dc2 := dc) (ds2 := ds) 1 rfl ?_
              try have q22x := nI_toInt (n := (k + 1)) (by omega)
              have e23x := (f20x.2 _ _ (wnc (by decide) wn0) hM)
              have hx : (mfdF a b c d e (m + 1) k t tb) = (mfdF a b c d e m (k + 1) t (zset 0 tb (t + k) ((e >>> (((24 : Int32) - ((8 : Int32) * ((nI k) - (nI k) / (4 : Int32) * (4 : Int32)))) &&& 31)) &&& (255 : Int32)))) := by show (if _ then _ else _) = _; rw [if_neg (Int.not_le.mpr b3x), if_pos b10x, if_pos b12x, if_pos b14x, if_pos b16x]
              rw [hx]
              refine wq_ls [(0, .ref 162), (1, .int a), (2, .int b), (3, .int c), (4, .int d), (5, .int e), (6, .int (nI (k + 1)))] (show ([0, 1, 2, 3, 4, 5, 6] : List Nat).Nodup by decide) ⟨rfl, rfl, rfl, rfl, rfl, rfl, rfl, trivial⟩ ?_
              refine wq_mono (ih (k + 1) t (zset 0 tb (t + k) ((e >>> (((24 : Int32) - ((8 : Int32) * ((nI k) - (nI k) / (4 : Int32) * (4 : Int32)))) &&& 31)) &&& (255 : Int32))) h18x e23x e19x (by first | omega | assumption | decide) (by omega) dc ds) ?_
              rintro _ ⟨h9, rfl, f9, l9, y0, y1⟩
              exact ⟨h9, rfl, wFr_tr (wFr_sub f20x (by simp)) f9, by omega, y0, y1⟩
            · refine wq_gos (f := 1) (pc2 := 76) (ls2 := [(7, .int d), (0, .ref 162), (1, .int a), (2, .int b), (3, .int c), (4, .int d), (5, .int e), (6, .int (nI k))]) (st2 := [.ref 162]) (h2 := h) (dc2 := dc) (ds2 := ds) 4 rfl ?_
              refine wq_getf rfl hM rfl rfl ?_
              refine wq_gos (f := 1) (pc2 := 80) (ls2 := [(7, .int d), (0, .ref 162), (1, .int a), (2, .int b), (3, .int c), (4, .int d), (5, .int e), (6, .int (nI k))]) (st2 := [.ref 162, .ref 164]) (h2 := h) (dc2 := dc) (ds2 := ds) 1 rfl ?_
              refine wq_getf rfl hM rfl rfl ?_
              refine wq_gos (f := 1) (pc2 := 86) (ls2 := [(7, .int d), (0, .ref 162), (1, .int a), (2, .int b), (3, .int c), (4, .int d), (5, .int e), (6, .int (nI k))]) (st2 := [.int ((nI t) + (nI k)), .ref 164]) (h2 := h) (dc2 := dc) (ds2 := ds) 2 rfl ?_
              refine wq_vi (show (nI t) + (nI k) = nI (t + k) from nI_add t k) ?_
              refine wq_gos (f := 1) (pc2 := 103) (ls2 := [(7, .int d), (0, .ref 162), (1, .int a), (2, .int b), (3, .int c), (4, .int d), (5, .int e), (6, .int (nI k))]) (st2 := [.int ((d >>> (((24 : Int32) - ((8 : Int32) * ((nI k) - (nI k) / (4 : Int32) * (4 : Int32)))) &&& 31)) &&& (255 : Int32)), .int (nI (t + k)), .ref 164]) (h2 := h) (dc2 := dc) (ds2 := ds) 11 rfl ?_
              try have q24x := nI_toInt (n := (t + k)) (by omega)
              refine wq_iastn rfl hT (by first | omega | exact zin_t (by omega) (by omega)) (by decide) rfl ?_
              intro h25x e26x f27x l28x
              have e26x : zat h25x 164 = some (.inl (0, 700, (zset 0 tb (t + k) ((d >>> (((24 : Int32) - ((8 : Int32) * ((nI k) - (nI k) / (4 : Int32) * (4 : Int32)))) &&& 31)) &&& (255 : Int32))))) := e26x
              refine wq_gos (f := 1) (pc2 := 107) (ls2 := [(6, .int ((nI k) + 1)), (7, .int d), (0, .ref 162), (1, .int a), (2, .int b), (3, .int c), (4, .int d), (5, .int e)]) (st2 := []) (h2 := h25x) (dc2 := dc) (ds2 := ds) 1 rfl ?_
              rw [nI_1]
              refine wq_gos (f := 1) (pc2 := 20) (ls2 := [(6, .int (nI (k + 1))), (7, .int d), (0, .ref 162), (1, .int a), (2, .int b), (3, .int c), (4, .int d), (5, .int e)]) (st2 := []) (h2 := h25x) (dc2 := dc) (ds2 := ds) 1 rfl ?_
              try have q29x := nI_toInt (n := (k + 1)) (by omega)
              have e30x := (f27x.2 _ _ (wnc (by decide) wn0) hM)
              have hx : (mfdF a b c d e (m + 1) k t tb) = (mfdF a b c d e m (k + 1) t (zset 0 tb (t + k) ((d >>> (((24 : Int32) - ((8 : Int32) * ((nI k) - (nI k) / (4 : Int32) * (4 : Int32)))) &&& 31)) &&& (255 : Int32)))) := by show (if _ then _ else _) = _; rw [if_neg (Int.not_le.mpr b3x), if_pos b10x, if_pos b12x, if_pos b14x, if_neg (Int.not_le.mpr b16x)]
              rw [hx]
              refine wq_ls [(0, .ref 162), (1, .int a), (2, .int b), (3, .int c), (4, .int d), (5, .int e), (6, .int (nI (k + 1)))] (show ([0, 1, 2, 3, 4, 5, 6] : List Nat).Nodup by decide) ⟨rfl, rfl, rfl, rfl, rfl, rfl, rfl, trivial⟩ ?_
              refine wq_mono (ih (k + 1) t (zset 0 tb (t + k) ((d >>> (((24 : Int32) - ((8 : Int32) * ((nI k) - (nI k) / (4 : Int32) * (4 : Int32)))) &&& 31)) &&& (255 : Int32))) h25x e30x e26x (by first | omega | assumption | decide) (by omega) dc ds) ?_
              rintro _ ⟨h9, rfl, f9, l9, y0, y1⟩
              exact ⟨h9, rfl, wFr_tr (wFr_sub f27x (by simp)) f9, by omega, y0, y1⟩
          · refine wq_gos (f := 1) (pc2 := 76) (ls2 := [(7, .int c), (0, .ref 162), (1, .int a), (2, .int b), (3, .int c), (4, .int d), (5, .int e), (6, .int (nI k))]) (st2 := [.ref 162]) (h2 := h) (dc2 := dc) (ds2 := ds) 4 rfl ?_
            refine wq_getf rfl hM rfl rfl ?_
            refine wq_gos (f := 1) (pc2 := 80) (ls2 := [(7, .int c), (0, .ref 162), (1, .int a), (2, .int b), (3, .int c), (4, .int d), (5, .int e), (6, .int (nI k))]) (st2 := [.ref 162, .ref 164]) (h2 := h) (dc2 := dc) (ds2 := ds) 1 rfl ?_
            refine wq_getf rfl hM rfl rfl ?_
            refine wq_gos (f := 1) (pc2 := 86) (ls2 := [(7, .int c), (0, .ref 162), (1, .int a), (2, .int b), (3, .int c), (4, .int d), (5, .int e), (6, .int (nI k))]) (st2 := [.int ((nI t) + (nI k)), .ref 164]) (h2 := h) (dc2 := dc) (ds2 := ds) 2 rfl ?_
            refine wq_vi (show (nI t) + (nI k) = nI (t + k) from nI_add t k) ?_
            refine wq_gos (f := 1) (pc2 := 103) (ls2 := [(7, .int c), (0, .ref 162), (1, .int a), (2, .int b), (3, .int c), (4, .int d), (5, .int e), (6, .int (nI k))]) (st2 := [.int ((c >>> (((24 : Int32) - ((8 : Int32) * ((nI k) - (nI k) / (4 : Int32) * (4 : Int32)))) &&& 31)) &&& (255 : Int32)), .int (nI (t + k)), .ref 164]) (h2 := h) (dc2 := dc) (ds2 := ds) 11 rfl ?_
            try have q31x := nI_toInt (n := (t + k)) (by omega)
            refine wq_iastn rfl hT (by first | omega | exact zin_t (by omega) (by omega)) (by decide) rfl ?_
            intro h32x e33x f34x l35x
            have e33x : zat h32x 164 = some (.inl (0, 700, (zset 0 tb (t + k) ((c >>> (((24 : Int32) - ((8 : Int32) * ((nI k) - (nI k) / (4 : Int32) * (4 : Int32)))) &&& 31)) &&& (255 : Int32))))) := e33x
            refine wq_gos (f := 1) (pc2 := 107) (ls2 := [(6, .int ((nI k) + 1)), (7, .int c), (0, .ref 162), (1, .int a), (2, .int b), (3, .int c), (4, .int d), (5, .int e)]) (st2 := []) (h2 := h32x) (dc2 := dc) (ds2 := ds) 1 rfl ?_
            rw [nI_1]
            refine wq_gos (f := 1) (pc2 := 20) (ls2 := [(6, .int (nI (k + 1))), (7, .int c), (0, .ref 162), (1, .int a), (2, .int b), (3, .int c), (4, .int d), (5, .int e)]) (st2 := []) (h2 := h32x) (dc2 := dc) (ds2 := ds) 1 rfl ?_
            try have q36x := nI_toInt (n := (k + 1)) (by omega)
            have e37x := (f34x.2 _ _ (wnc (by decide) wn0) hM)
            have hx : (mfdF a b c d e (m + 1) k t tb) = (mfdF a b c d e m (k + 1) t (zset 0 tb (t + k) ((c >>> (((24 : Int32) - ((8 : Int32) * ((nI k) - (nI k) / (4 : Int32) * (4 : Int32)))) &&& 31)) &&& (255 : Int32)))) := by show (if _ then _ else _) = _; rw [if_neg (Int.not_le.mpr b3x), if_pos b10x, if_pos b12x, if_neg (Int.not_le.mpr b14x)]
            rw [hx]
            refine wq_ls [(0, .ref 162), (1, .int a), (2, .int b), (3, .int c), (4, .int d), (5, .int e), (6, .int (nI (k + 1)))] (show ([0, 1, 2, 3, 4, 5, 6] : List Nat).Nodup by decide) ⟨rfl, rfl, rfl, rfl, rfl, rfl, rfl, trivial⟩ ?_
            refine wq_mono (ih (k + 1) t (zset 0 tb (t + k) ((c >>> (((24 : Int32) - ((8 : Int32) * ((nI k) - (nI k) / (4 : Int32) * (4 : Int32)))) &&& 31)) &&& (255 : Int32))) h32x e37x e33x (by first | omega | assumption | decide) (by omega) dc ds) ?_
            rintro _ ⟨h9, rfl, f9, l9, y0, y1⟩
            exact ⟨h9, rfl, wFr_tr (wFr_sub f34x (by simp)) f9, by omega, y0, y1⟩
        · refine wq_gos (f := 1) (pc2 := 76) (ls2 := [(7, .int b), (0, .ref 162), (1, .int a), (2, .int b), (3, .int c), (4, .int d), (5, .int e), (6, .int (nI k))]) (st2 := [.ref 162]) (h2 := h) (dc2 := dc) (ds2 := ds) 4 rfl ?_
          refine wq_getf rfl hM rfl rfl ?_
          refine wq_gos (f := 1) (pc2 := 80) (ls2 := [(7, .int b), (0, .ref 162), (1, .int a), (2, .int b), (3, .int c), (4, .int d), (5, .int e), (6, .int (nI k))]) (st2 := [.ref 162, .ref 164]) (h2 := h) (dc2 := dc) (ds2 := ds) 1 rfl ?_
          refine wq_getf rfl hM rfl rfl ?_
          refine wq_gos (f := 1) (pc2 := 86) (ls2 := [(7, .int b), (0, .ref 162), (1, .int a), (2, .int b), (3, .int c), (4, .int d), (5, .int e), (6, .int (nI k))]) (st2 := [.int ((nI t) + (nI k)), .ref 164]) (h2 := h) (dc2 := dc) (ds2 := ds) 2 rfl ?_
          refine wq_vi (show (nI t) + (nI k) = nI (t + k) from nI_add t k) ?_
          refine wq_gos (f := 1) (pc2 := 103) (ls2 := [(7, .int b), (0, .ref 162), (1, .int a), (2, .int b), (3, .int c), (4, .int d), (5, .int e), (6, .int (nI k))]) (st2 := [.int ((b >>> (((24 : Int32) - ((8 : Int32) * ((nI k) - (nI k) / (4 : Int32) * (4 : Int32)))) &&& 31)) &&& (255 : Int32)), .int (nI (t + k)), .ref 164]) (h2 := h) (dc2 := dc) (ds2 := ds) 11 rfl ?_
          try have q38x := nI_toInt (n := (t + k)) (by omega)
          refine wq_iastn rfl hT (by first | omega | exact zin_t (by omega) (by omega)) (by decide) rfl ?_
          intro h39x e40x f41x l42x
          have e40x : zat h39x 164 = some (.inl (0, 700, (zset 0 tb (t + k) ((b >>> (((24 : Int32) - ((8 : Int32) * ((nI k) - (nI k) / (4 : Int32) * (4 : Int32)))) &&& 31)) &&& (255 : Int32))))) := e40x
          refine wq_gos (f := 1) (pc2 := 107) (ls2 := [(6, .int ((nI k) + 1)), (7, .int b), (0, .ref 162), (1, .int a), (2, .int b), (3, .int c), (4, .int d), (5, .int e)]) (st2 := []) (h2 := h39x) (dc2 := dc) (ds2 := ds) 1 rfl ?_
          rw [nI_1]
          refine wq_gos (f := 1) (pc2 := 20) (ls2 := [(6, .int (nI (k + 1))), (7, .int b), (0, .ref 162), (1, .int a), (2, .int b), (3, .int c), (4, .int d), (5, .int e)]) (st2 := []) (h2 := h39x) (dc2 := dc) (ds2 := ds) 1 rfl ?_
          try have q43x := nI_toInt (n := (k + 1)) (by omega)
          have e44x := (f41x.2 _ _ (wnc (by decide) wn0) hM)
          have hx : (mfdF a b c d e (m + 1) k t tb) = (mfdF a b c d e m (k + 1) t (zset 0 tb (t + k) ((b >>> (((24 : Int32) - ((8 : Int32) * ((nI k) - (nI k) / (4 : Int32) * (4 : Int32)))) &&& 31)) &&& (255 : Int32)))) := by show (if _ then _ else _) = _; rw [if_neg (Int.not_le.mpr b3x), if_pos b10x, if_neg (Int.not_le.mpr b12x)]
          rw [hx]
          refine wq_ls [(0, .ref 162), (1, .int a), (2, .int b), (3, .int c), (4, .int d), (5, .int e), (6, .int (nI (k + 1)))] (show ([0, 1, 2, 3, 4, 5, 6] : List Nat).Nodup by decide) ⟨rfl, rfl, rfl, rfl, rfl, rfl, rfl, trivial⟩ ?_
          refine wq_mono (ih (k + 1) t (zset 0 tb (t + k) ((b >>> (((24 : Int32) - ((8 : Int32) * ((nI k) - (nI k) / (4 : Int32) * (4 : Int32)))) &&& 31)) &&& (255 : Int32))) h39x e44x e40x (by first | omega | assumption | decide) (by omega) dc ds) ?_
          rintro _ ⟨h9, rfl, f9, l9, y0, y1⟩
          exact ⟨h9, rfl, wFr_tr (wFr_sub f41x (by simp)) f9, by omega, y0, y1⟩
      · refine wq_gos (f := 1) (pc2 := 76) (ls2 := [(7, .int a), (0, .ref 162), (1, .int a), (2, .int b), (3, .int c), (4, .int d), (5, .int e), (6, .int (nI k))]) (st2 := [.ref 162]) (h2 := h) (dc2 := dc) (ds2 := ds) 4 rfl ?_
        refine wq_getf rfl hM rfl rfl ?_
        refine wq_gos (f := 1) (pc2 := 80) (ls2 := [(7, .int a), (0, .ref 162), (1, .int a), (2, .int b), (3, .int c), (4, .int d), (5, .int e), (6, .int (nI k))]) (st2 := [.ref 162, .ref 164]) (h2 := h) (dc2 := dc) (ds2 := ds) 1 rfl ?_
        refine wq_getf rfl hM rfl rfl ?_
        refine wq_gos (f := 1) (pc2 := 86) (ls2 := [(7, .int a), (0, .ref 162), (1, .int a), (2, .int b), (3, .int c), (4, .int d), (5, .int e), (6, .int (nI k))]) (st2 := [.int ((nI t) + (nI k)), .ref 164]) (h2 := h) (dc2 := dc) (ds2 := ds) 2 rfl ?_
        refine wq_vi (show (nI t) + (nI k) = nI (t + k) from nI_add t k) ?_
        refine wq_gos (f := 1) (pc2 := 103) (ls2 := [(7, .int a), (0, .ref 162), (1, .int a), (2, .int b), (3, .int c), (4, .int d), (5, .int e), (6, .int (nI k))]) (st2 := [.int ((a >>> (((24 : Int32) - ((8 : Int32) * ((nI k) - (nI k) / (4 : Int32) * (4 : Int32)))) &&& 31)) &&& (255 : Int32)), .int (nI (t + k)), .ref 164]) (h2 := h) (dc2 := dc) (ds2 := ds) 11 rfl ?_
        try have q45x := nI_toInt (n := (t + k)) (by omega)
        refine wq_iastn rfl hT (by first | omega | exact zin_t (by omega) (by omega)) (by decide) rfl ?_
        intro h46x e47x f48x l49x
        have e47x : zat h46x 164 = some (.inl (0, 700, (zset 0 tb (t + k) ((a >>> (((24 : Int32) - ((8 : Int32) * ((nI k) - (nI k) / (4 : Int32) * (4 : Int32)))) &&& 31)) &&& (255 : Int32))))) := e47x
        refine wq_gos (f := 1) (pc2 := 107) (ls2 := [(6, .int ((nI k) + 1)), (7, .int a), (0, .ref 162), (1, .int a), (2, .int b), (3, .int c), (4, .int d), (5, .int e)]) (st2 := []) (h2 := h46x) (dc2 := dc) (ds2 := ds) 1 rfl ?_
        rw [nI_1]
        refine wq_gos (f := 1) (pc2 := 20) (ls2 := [(6, .int (nI (k + 1))), (7, .int a), (0, .ref 162), (1, .int a), (2, .int b), (3, .int c), (4, .int d), (5, .int e)]) (st2 := []) (h2 := h46x) (dc2 := dc) (ds2 := ds) 1 rfl ?_
        try have q50x := nI_toInt (n := (k + 1)) (by omega)
        have e51x := (f48x.2 _ _ (wnc (by decide) wn0) hM)
        have hx : (mfdF a b c d e (m + 1) k t tb) = (mfdF a b c d e m (k + 1) t (zset 0 tb (t + k) ((a >>> (((24 : Int32) - ((8 : Int32) * ((nI k) - (nI k) / (4 : Int32) * (4 : Int32)))) &&& 31)) &&& (255 : Int32)))) := by show (if _ then _ else _) = _; rw [if_neg (Int.not_le.mpr b3x), if_neg (Int.not_le.mpr b10x)]
        rw [hx]
        refine wq_ls [(0, .ref 162), (1, .int a), (2, .int b), (3, .int c), (4, .int d), (5, .int e), (6, .int (nI (k + 1)))] (show ([0, 1, 2, 3, 4, 5, 6] : List Nat).Nodup by decide) ⟨rfl, rfl, rfl, rfl, rfl, rfl, rfl, trivial⟩ ?_
        refine wq_mono (ih (k + 1) t (zset 0 tb (t + k) ((a >>> (((24 : Int32) - ((8 : Int32) * ((nI k) - (nI k) / (4 : Int32) * (4 : Int32)))) &&& 31)) &&& (255 : Int32))) h46x e51x e47x (by first | omega | assumption | decide) (by omega) dc ds) ?_
        rintro _ ⟨h9, rfl, f9, l9, y0, y1⟩
        exact ⟨h9, rfl, wFr_tr (wFr_sub f48x (by simp)) f9, by omega, y0, y1⟩
set_option maxRecDepth 100000 in
set_option maxHeartbeats 4000000 in
theorem m_feed {h : zH} {n0 n14 n15 n16 n17 n18 n19 n20 n21 n22 n23 n27 n28 n32 n33 n34 n35 n39 n52 : Int32} {t : Nat} {tb : List Int32} {a b c d e : Int32} (hM : zat h 162 = some (.inr (.inr (.inr (10, mO n0 (nI t) n14 n15 n16 n17 n18 n19 n20 n21 n22 n23 n27 n28 n32 n33 n34 n35 n39 n52))))) (hT : zat h 164 = some (.inl (0, 700, tb))) (ht : t ≤ 680) : wq 155 0 [(0, .ref 162), (1, .int a), (2, .int b), (3, .int c), (4, .int d), (5, .int e)] [] h 0 0 (fun rr9 => ∃ (h2 : zH), rr9 = (some (.int ((mfdF a b c d e (20 - 0 + 1) 0 t tb).1)), h2, 0, 0) ∧ wFr [162, 164] h h2 ∧ h2.length = h.length ∧ zat h2 162 = some (.inr (.inr (.inr (10, mO (0 : Int32) (nI (mfdF a b c d e (20 - 0 + 1) 0 t tb).2.1) n14 n15 n16 n17 n18 n19 n20 n21 n22 n23 n27 n28 n32 n33 n34 n35 n39 n52)))) ∧ zat h2 164 = some (.inl (0, 700, ((mfdF a b c d e (20 - 0 + 1) 0 t tb).2.2)))) := by
  have qnt := nI_toInt (n := t) (by omega)
  refine wq_gos (f := 1) (pc2 := 2) (ls2 := [(0, .ref 162), (1, .int a), (2, .int b), (3, .int c), (4, .int d), (5, .int e)]) (st2 := [.int 0, .ref 162]) (h2 := h) (dc2 := 0) (ds2 := 0) 2 rfl ?_
  refine wq_putf rfl hM rfl rfl rfl ?_
  intro h1x e2x f3x l4x
  have e2x : zat h1x 162 = some (.inr (.inr (.inr (10, mO (0 : Int32) (nI t) n14 n15 n16 n17 n18 n19 n20 n21 n22 n23 n27 n28 n32 n33 n34 n35 n39 n52)))) := e2x
  refine wq_gos (f := 1) (pc2 := 6) (ls2 := [(0, .ref 162), (1, .int a), (2, .int b), (3, .int c), (4, .int d), (5, .int e)]) (st2 := [.ref 162]) (h2 := h1x) (dc2 := 0) (ds2 := 0) 1 rfl ?_
  refine wq_getf rfl e2x rfl rfl ?_
  refine wq_gos (f := 1) (pc2 := 12) (ls2 := [(0, .ref 162), (1, .int a), (2, .int b), (3, .int c), (4, .int d), (5, .int e)]) (st2 := [.int 680, .int (nI t)]) (h2 := h1x) (dc2 := 0) (ds2 := 0) 1 rfl ?_
  try have q5x := nI_toInt (n := t) (by omega)
  have q6x : (680 : Int32).toInt = 680 := rfl
  refine wq_le2t rfl (by omega) ?_
  refine wq_gos (f := 1) (pc2 := 20) (ls2 := [(6, .int 0), (0, .ref 162), (1, .int a), (2, .int b), (3, .int c), (4, .int d), (5, .int e)]) (st2 := []) (h2 := h1x) (dc2 := 0) (ds2 := 0) 2 rfl ?_
  have e7x := (f3x.2 _ _ (wnc (by decide) wn0) hT)
  refine wq_ls [(0, .ref 162), (1, .int a), (2, .int b), (3, .int c), (4, .int d), (5, .int e), (6, .int (nI 0))] (show ([0, 1, 2, 3, 4, 5, 6] : List Nat).Nodup by decide) ⟨rfl, rfl, rfl, rfl, rfl, rfl, rfl, trivial⟩ ?_
  refine wq_mono (m_fdL ((20 - 0) + 1) 0 t tb h1x e2x e7x (by first | omega | assumption | decide) (by omega) 0 0) ?_
  rintro _ ⟨h88x, rfl, f88x, l88x, c08x, c18x⟩
  exact ⟨h88x, rfl, (wFr_tr (wFr_sub f3x (by simp)) (wFr_sub f88x (by simp))), (by omega), (by rw [show (.inr (.inr (.inr (10, mO (0 : Int32) (nI (mfdF a b c d e (20 - 0 + 1) 0 t tb).2.1) n14 n15 n16 n17 n18 n19 n20 n21 n22 n23 n27 n28 n32 n33 n34 n35 n39 n52))) : zE) = .inr (.inr (.inr (10, mO (0 : Int32) (nI ((mfdF a b c d e ((20 - 0) + 1) 0 t tb).2.1)) n14 n15 n16 n17 n18 n19 n20 n21 n22 n23 n27 n28 n32 n33 n34 n35 n39 n52))) from rfl]; exact c08x), (by rw [show (.inl (0, 700, ((mfdF a b c d e (20 - 0 + 1) 0 t tb).2.2)) : zE) = .inl (0, 700, ((mfdF a b c d e ((20 - 0) + 1) 0 t tb).2.2)) from rfl]; exact c18x)⟩
noncomputable def kLay (kp nw am : List Int32) (k : Nat) : List Int32 := (zset 0 (zset 0 (zset 0 (zset 0 (zset 0 (zset 0 (zset 0 (zset 0 (zset 0 (zset 0 (zset 0 (zset 0 kp ((12 * k) + 0) (nw.getD 0 0)) (((12 * k) + 6) + 0) (am.getD 0 0)) ((12 * k) + 1) (nw.getD 1 0)) (((12 * k) + 6) + 1) (am.getD 1 0)) ((12 * k) + 2) (nw.getD 2 0)) (((12 * k) + 6) + 2) (am.getD 2 0)) ((12 * k) + 3) (nw.getD 3 0)) (((12 * k) + 6) + 3) (am.getD 3 0)) ((12 * k) + 4) (nw.getD 4 0)) (((12 * k) + 6) + 4) (am.getD 4 0)) ((12 * k) + 5) (nw.getD 5 0)) (((12 * k) + 6) + 5) (am.getD 5 0))
set_option maxRecDepth 100000 in
set_option maxHeartbeats 4000000 in
theorem m_lays {h : zH} {n0 n2 n14 n15 n16 n17 n18 n19 n20 n21 n22 n23 n27 n28 n32 n33 n34 n35 n39 n52 : Int32} {k : Nat} {nw am kp : List Int32} (hM : zat h 162 = some (.inr (.inr (.inr (10, mO n0 n2 n14 n15 n16 n17 n18 n19 n20 n21 n22 n23 n27 n28 n32 n33 n34 n35 n39 n52))))) (hN : zat h 188 = some (.inl (0, 6, nw))) (hA : zat h 190 = some (.inl (0, 6, am))) (hK : zat h 192 = some (.inl (0, 252, kp))) (hk : k ≤ 20) : wq 189 0 [(0, .ref 162), (1, .int (nI k))] [] h 0 0 (fun rr9 => ∃ (h2 : zH), rr9 = (none, h2, 0, 0) ∧ wFr [192] h h2 ∧ h2.length = h.length ∧ zat h2 192 = some (.inl (0, 252, (kLay kp nw am k)))) := by
  have qnk := nI_toInt (n := k) (by omega)
  refine wq_gos (f := 1) (pc2 := 9) (ls2 := [(2, .int 0), (0, .ref 162), (1, .int (nI k))]) (st2 := [.ref 162]) (h2 := h) (dc2 := 0) (ds2 := 0) 6 rfl ?_
  refine wq_getf rfl hM rfl rfl ?_
  refine wq_gos (f := 1) (pc2 := 16) (ls2 := [(2, .int 0), (0, .ref 162), (1, .int (nI k))]) (st2 := [.int ((12 : Int32) * (nI k)), .ref 192]) (h2 := h) (dc2 := 0) (ds2 := 0) 3 rfl ?_
  refine wq_vi (show (12 : Int32) * (nI k) = nI (12 * k) from e_nmul 12 k) ?_
  refine wq_gos (f := 1) (pc2 := 18) (ls2 := [(2, .int 0), (0, .ref 162), (1, .int (nI k))]) (st2 := [.int ((nI (12 * k)) + (0 : Int32)), .ref 192]) (h2 := h) (dc2 := 0) (ds2 := 0) 2 rfl ?_
  refine wq_vi (show (nI (12 * k)) + (0 : Int32) = nI ((12 * k) + 0) from nI_add (12 * k) 0) ?_
  refine wq_gos (f := 1) (pc2 := 19) (ls2 := [(2, .int 0), (0, .ref 162), (1, .int (nI k))]) (st2 := [.ref 162, .int (nI ((12 * k) + 0)), .ref 192]) (h2 := h) (dc2 := 0) (ds2 := 0) 1 rfl ?_
  refine wq_getf rfl hM rfl rfl ?_
  refine wq_gos (f := 1) (pc2 := 23) (ls2 := [(2, .int 0), (0, .ref 162), (1, .int (nI k))]) (st2 := [.int 0, .ref 188, .int (nI ((12 * k) + 0)), .ref 192]) (h2 := h) (dc2 := 0) (ds2 := 0) 1 rfl ?_
  have q1x : (0 : Int32).toInt = 0 := rfl
  refine wq_iald rfl hN rfl rfl ?_
  try have q2x := nI_toInt (n := ((12 * k) + 0)) (by omega)
  refine wq_iastn rfl hK (by first | omega | exact zin_t (by omega) (by omega)) (by decide) rfl ?_
  intro h3x e4x f5x l6x
  have e4x : zat h3x 192 = some (.inl (0, 252, (zset 0 kp ((12 * k) + 0) (nw.getD 0 0)))) := e4x
  obtain ⟨g7x, u8x⟩ : ∃ x, x = (zset 0 kp ((12 * k) + 0) (nw.getD 0 0)) := ⟨_, rfl⟩
  rw [← u8x] at e4x
  refine wq_gos (f := 1) (pc2 := 26) (ls2 := [(2, .int 0), (0, .ref 162), (1, .int (nI k))]) (st2 := [.ref 162]) (h2 := h3x) (dc2 := 0) (ds2 := 0) 1 rfl ?_
  have e9x := (f5x.2 _ _ (wnc (by decide) wn0) hM)
  refine wq_getf rfl e9x rfl rfl ?_
  refine wq_gos (f := 1) (pc2 := 33) (ls2 := [(2, .int 0), (0, .ref 162), (1, .int (nI k))]) (st2 := [.int ((12 : Int32) * (nI k)), .ref 192]) (h2 := h3x) (dc2 := 0) (ds2 := 0) 3 rfl ?_
  refine wq_vi (show (12 : Int32) * (nI k) = nI (12 * k) from e_nmul 12 k) ?_
  refine wq_gos (f := 1) (pc2 := 36) (ls2 := [(2, .int 0), (0, .ref 162), (1, .int (nI k))]) (st2 := [.int ((nI (12 * k)) + (6 : Int32)), .ref 192]) (h2 := h3x) (dc2 := 0) (ds2 := 0) 2 rfl ?_
  refine wq_vi (show (nI (12 * k)) + (6 : Int32) = nI ((12 * k) + 6) from nI_add (12 * k) 6) ?_
  refine wq_gos (f := 1) (pc2 := 38) (ls2 := [(2, .int 0), (0, .ref 162), (1, .int (nI k))]) (st2 := [.int ((nI ((12 * k) + 6)) + (0 : Int32)), .ref 192]) (h2 := h3x) (dc2 := 0) (ds2 := 0) 2 rfl ?_
  refine wq_vi (show (nI ((12 * k) + 6)) + (0 : Int32) = nI (((12 * k) + 6) + 0) from nI_add ((12 * k) + 6) 0) ?_
  refine wq_gos (f := 1) (pc2 := 39) (ls2 := [(2, .int 0), (0, .ref 162), (1, .int (nI k))]) (st2 := [.ref 162, .int (nI (((12 * k) + 6) + 0)), .ref 192]) (h2 := h3x) (dc2 := 0) (ds2 := 0) 1 rfl ?_
  refine wq_getf rfl e9x rfl rfl ?_
  refine wq_gos (f := 1) (pc2 := 43) (ls2 := [(2, .int 0), (0, .ref 162), (1, .int (nI k))]) (st2 := [.int 0, .ref 190, .int (nI (((12 * k) + 6) + 0)), .ref 192]) (h2 := h3x) (dc2 := 0) (ds2 := 0) 1 rfl ?_
  have e10x := (f5x.2 _ _ (wnc (by decide) wn0) hA)
  refine wq_iald rfl e10x rfl rfl ?_
  try have q11x := nI_toInt (n := (((12 * k) + 6) + 0)) (by omega)
  refine wq_iastn rfl e4x (by first | omega | exact zin_t (by omega) (by omega)) (by decide) rfl ?_
  intro h12x e13x f14x l15x
  have e13x : zat h12x 192 = some (.inl (0, 252, (zset 0 g7x (((12 * k) + 6) + 0) (am.getD 0 0)))) := e13x
  obtain ⟨g16x, u17x⟩ : ∃ x, x = (zset 0 g7x (((12 * k) + 6) + 0) (am.getD 0 0)) := ⟨_, rfl⟩
  rw [← u17x] at e13x
  refine wq_gos (f := 1) (pc2 := 9) (ls2 := [(2, .int 1), (0, .ref 162), (1, .int (nI k))]) (st2 := [.ref 162]) (h2 := h12x) (dc2 := 0) (ds2 := 0) 6 rfl ?_
  have e18x := (f14x.2 _ _ (wnc (by decide) wn0) e9x)
  refine wq_getf rfl e18x rfl rfl ?_
  refine wq_gos (f := 1) (pc2 := 16) (ls2 := [(2, .int 1), (0, .ref 162), (1, .int (nI k))]) (st2 := [.int ((12 : Int32) * (nI k)), .ref 192]) (h2 := h12x) (dc2 := 0) (ds2 := 0) 3 rfl ?_
  refine wq_vi (show (12 : Int32) * (nI k) = nI (12 * k) from e_nmul 12 k) ?_
  refine wq_gos (f := 1) (pc2 := 18) (ls2 := [(2, .int 1), (0, .ref 162), (1, .int (nI k))]) (st2 := [.int ((nI (12 * k)) + (1 : Int32)), .ref 192]) (h2 := h12x) (dc2 := 0) (ds2 := 0) 2 rfl ?_
  refine wq_vi (show (nI (12 * k)) + (1 : Int32) = nI ((12 * k) + 1) from nI_add (12 * k) 1) ?_
  refine wq_gos (f := 1) (pc2 := 19) (ls2 := [(2, .int 1), (0, .ref 162), (1, .int (nI k))]) (st2 := [.ref 162, .int (nI ((12 * k) + 1)), .ref 192]) (h2 := h12x) (dc2 := 0) (ds2 := 0) 1 rfl ?_
  refine wq_getf rfl e18x rfl rfl ?_
  refine wq_gos (f := 1) (pc2 := 23) (ls2 := [(2, .int 1), (0, .ref 162), (1, .int (nI k))]) (st2 := [.int 1, .ref 188, .int (nI ((12 * k) + 1)), .ref 192]) (h2 := h12x) (dc2 := 0) (ds2 := 0) 1 rfl ?_
  have e19x := (f14x.2 _ _ (wnc (by decide) wn0) (f5x.2 _ _ (wnc (by decide) wn0) hN))
  have q20x : (1 : Int32).toInt = 1 := rfl
  refine wq_iald rfl e19x rfl rfl ?_
  try have q21x := nI_toInt (n := ((12 * k) + 1)) (by omega)
  refine wq_iastn rfl e13x (by first | omega | exact zin_t (by omega) (by omega)) (by decide) rfl ?_
  intro h22x e23x f24x l25x
  have e23x : zat h22x 192 = some (.inl (0, 252, (zset 0 g16x ((12 * k) + 1) (nw.getD 1 0)))) := e23x
  obtain ⟨g26x, u27x⟩ : ∃ x, x = (zset 0 g16x ((12 * k) + 1) (nw.getD 1 0)) := ⟨_, rfl⟩
  rw [← u27x] at e23x
  refine wq_gos (f := 1) (pc2 := 26) (ls2 := [(2, .int 1), (0, .ref 162), (1, .int (nI k))]) (st2 := [.ref 162]) (h2 := h22x) (dc2 := 0) (ds2 := 0) 1 rfl ?_
  have e28x := (f24x.2 _ _ (wnc (by decide) wn0) e18x)
  refine wq_getf rfl e28x rfl rfl ?_
  refine wq_gos (f := 1) (pc2 := 33) (ls2 := [(2, .int 1), (0, .ref 162), (1, .int (nI k))]) (st2 := [.int ((12 : Int32) * (nI k)), .ref 192]) (h2 := h22x) (dc2 := 0) (ds2 := 0) 3 rfl ?_
  refine wq_vi (show (12 : Int32) * (nI k) = nI (12 * k) from e_nmul 12 k) ?_
  refine wq_gos (f := 1) (pc2 := 36) (ls2 := [(2, .int 1), (0, .ref 162), (1, .int (nI k))]) (st2 := [.int ((nI (12 * k)) + (6 : Int32)), .ref 192]) (h2 := h22x) (dc2 := 0) (ds2 := 0) 2 rfl ?_
  refine wq_vi (show (nI (12 * k)) + (6 : Int32) = nI ((12 * k) + 6) from nI_add (12 * k) 6) ?_
  refine wq_gos (f := 1) (pc2 := 38) (ls2 := [(2, .int 1), (0, .ref 162), (1, .int (nI k))]) (st2 := [.int ((nI ((12 * k) + 6)) + (1 : Int32)), .ref 192]) (h2 := h22x) (dc2 := 0) (ds2 := 0) 2 rfl ?_
  refine wq_vi (show (nI ((12 * k) + 6)) + (1 : Int32) = nI (((12 * k) + 6) + 1) from nI_add ((12 * k) + 6) 1) ?_
  refine wq_gos (f := 1) (pc2 := 39) (ls2 := [(2, .int 1), (0, .ref 162), (1, .int (nI k))]) (st2 := [.ref 162, .int (nI (((12 * k) + 6) + 1)), .ref 192]) (h2 := h22x) (dc2 := 0) (ds2 := 0) 1 rfl ?_
  refine wq_getf rfl e28x rfl rfl ?_
  refine wq_gos (f := 1) (pc2 := 43) (ls2 := [(2, .int 1), (0, .ref 162), (1, .int (nI k))]) (st2 := [.int 1, .ref 190, .int (nI (((12 * k) + 6) + 1)), .ref 192]) (h2 := h22x) (dc2 := 0) (ds2 := 0) 1 rfl ?_
  have e29x := (f24x.2 _ _ (wnc (by decide) wn0) (f14x.2 _ _ (wnc (by decide) wn0) e10x))
  refine wq_iald rfl e29x rfl rfl ?_
  try have q30x := nI_toInt (n := (((12 * k) + 6) + 1)) (by omega)
  refine wq_iastn rfl e23x (by first | omega | exact zin_t (by omega) (by omega)) (by decide) rfl ?_
  intro h31x e32x f33x l34x
  have e32x : zat h31x 192 = some (.inl (0, 252, (zset 0 g26x (((12 * k) + 6) + 1) (am.getD 1 0)))) := e32x
  obtain ⟨g35x, u36x⟩ : ∃ x, x = (zset 0 g26x (((12 * k) + 6) + 1) (am.getD 1 0)) := ⟨_, rfl⟩
  rw [← u36x] at e32x
  refine wq_gos (f := 1) (pc2 := 9) (ls2 := [(2, .int 2), (0, .ref 162), (1, .int (nI k))]) (st2 := [.ref 162]) (h2 := h31x) (dc2 := 0) (ds2 := 0) 6 rfl ?_
  have e37x := (f33x.2 _ _ (wnc (by decide) wn0) e28x)
  refine wq_getf rfl e37x rfl rfl ?_
  refine wq_gos (f := 1) (pc2 := 16) (ls2 := [(2, .int 2), (0, .ref 162), (1, .int (nI k))]) (st2 := [.int ((12 : Int32) * (nI k)), .ref 192]) (h2 := h31x) (dc2 := 0) (ds2 := 0) 3 rfl ?_
  refine wq_vi (show (12 : Int32) * (nI k) = nI (12 * k) from e_nmul 12 k) ?_
  refine wq_gos (f := 1) (pc2 := 18) (ls2 := [(2, .int 2), (0, .ref 162), (1, .int (nI k))]) (st2 := [.int ((nI (12 * k)) + (2 : Int32)), .ref 192]) (h2 := h31x) (dc2 := 0) (ds2 := 0) 2 rfl ?_
  refine wq_vi (show (nI (12 * k)) + (2 : Int32) = nI ((12 * k) + 2) from nI_add (12 * k) 2) ?_
  refine wq_gos (f := 1) (pc2 := 19) (ls2 := [(2, .int 2), (0, .ref 162), (1, .int (nI k))]) (st2 := [.ref 162, .int (nI ((12 * k) + 2)), .ref 192]) (h2 := h31x) (dc2 := 0) (ds2 := 0) 1 rfl ?_
  refine wq_getf rfl e37x rfl rfl ?_
  refine wq_gos (f := 1) (pc2 := 23) (ls2 := [(2, .int 2), (0, .ref 162), (1, .int (nI k))]) (st2 := [.int 2, .ref 188, .int (nI ((12 * k) + 2)), .ref 192]) (h2 := h31x) (dc2 := 0) (ds2 := 0) 1 rfl ?_
  have e38x := (f33x.2 _ _ (wnc (by decide) wn0) (f24x.2 _ _ (wnc (by decide) wn0) e19x))
  have q39x : (2 : Int32).toInt = 2 := rfl
  refine wq_iald rfl e38x rfl rfl ?_
  try have q40x := nI_toInt (n := ((12 * k) + 2)) (by omega)
  refine wq_iastn rfl e32x (by first | omega | exact zin_t (by omega) (by omega)) (by decide) rfl ?_
  intro h41x e42x f43x l44x
  have e42x : zat h41x 192 = some (.inl (0, 252, (zset 0 g35x ((12 * k) + 2) (nw.getD 2 0)))) := e42x
  obtain ⟨g45x, u46x⟩ : ∃ x, x = (zset 0 g35x ((12 * k) + 2) (nw.getD 2 0)) := ⟨_, rfl⟩
  rw [← u46x] at e42x
  refine wq_gos (f := 1) (pc2 := 26) (ls2 := [(2, .int 2), (0, .ref 162), (1, .int (nI k))]) (st2 := [.ref 162]) (h2 := h41x) (dc2 := 0) (ds2 := 0) 1 rfl ?_
  have e47x := (f43x.2 _ _ (wnc (by decide) wn0) e37x)
  refine wq_getf rfl e47x rfl rfl ?_
  refine wq_gos (f := 1) (pc2 := 33) (ls2 := [(2, .int 2), (0, .ref 162), (1, .int (nI k))]) (st2 := [.int ((12 : Int32) * (nI k)), .ref 192]) (h2 := h41x) (dc2 := 0) (ds2 := 0) 3 rfl ?_
  refine wq_vi (show (12 : Int32) * (nI k) = nI (12 * k) from e_nmul 12 k) ?_
  refine wq_gos (f := 1) (pc2 := 36) (ls2 := [(2, .int 2), (0, .ref 162), (1, .int (nI k))]) (st2 := [.int ((nI (12 * k)) + (6 : Int32)), .ref 192]) (h2 := h41x) (dc2 := 0) (ds2 := 0) 2 rfl ?_
  refine wq_vi (show (nI (12 * k)) + (6 : Int32) = nI ((12 * k) + 6) from nI_add (12 * k) 6) ?_
  refine wq_gos (f := 1) (pc2 := 38) (ls2 := [(2, .int 2), (0, .ref 162), (1, .int (nI k))]) (st2 := [.int ((nI ((12 * k) + 6)) + (2 : Int32)), .ref 192]) (h2 := h41x) (dc2 := 0) (ds2 := 0) 2 rfl ?_
  refine wq_vi (show (nI ((12 * k) + 6)) + (2 : Int32) = nI (((12 * k) + 6) + 2) from nI_add ((12 * k) + 6) 2) ?_
  refine wq_gos (f := 1) (pc2 := 39) (ls2 := [(2, .int 2), (0, .ref 162), (1, .int (nI k))]) (st2 := [.ref 162, .int (nI (((12 * k) + 6) + 2)), .ref 192]) (h2 := h41x) (dc2 := 0) (ds2 := 0) 1 rfl ?_
  refine wq_getf rfl e47x rfl rfl ?_
  refine wq_gos (f := 1) (pc2 := 43) (ls2 := [(2, .int 2), (0, .ref 162), (1, .int (nI k))]) (st2 := [.int 2, .ref 190, .int (nI (((12 * k) + 6) + 2)), .ref 192]) (h2 := h41x) (dc2 := 0) (ds2 := 0) 1 rfl ?_
  have e48x := (f43x.2 _ _ (wnc (by decide) wn0) (f33x.2 _ _ (wnc (by decide) wn0) e29x))
  refine wq_iald rfl e48x rfl rfl ?_
  try have q49x := nI_toInt (n := (((12 * k) + 6) + 2)) (by omega)
  refine wq_iastn rfl e42x (by first | omega | exact zin_t (by omega) (by omega)) (by decide) rfl ?_
  intro h50x e51x f52x l53x
  have e51x : zat h50x 192 = some (.inl (0, 252, (zset 0 g45x (((12 * k) + 6) + 2) (am.getD 2 0)))) := e51x
  obtain ⟨g54x, u55x⟩ : ∃ x, x = (zset 0 g45x (((12 * k) + 6) + 2) (am.getD 2 0)) := ⟨_, rfl⟩
  rw [← u55x] at e51x
  refine wq_gos (f := 1) (pc2 := 9) (ls2 := [(2, .int 3), (0, .ref 162), (1, .int (nI k))]) (st2 := [.ref 162]) (h2 := h50x) (dc2 := 0) (ds2 := 0) 6 rfl ?_
  have e56x := (f52x.2 _ _ (wnc (by decide) wn0) e47x)
  refine wq_getf rfl e56x rfl rfl ?_
  refine wq_gos (f := 1) (pc2 := 16) (ls2 := [(2, .int 3), (0, .ref 162), (1, .int (nI k))]) (st2 := [.int ((12 : Int32) * (nI k)), .ref 192]) (h2 := h50x) (dc2 := 0) (ds2 := 0) 3 rfl ?_
  refine wq_vi (show (12 : Int32) * (nI k) = nI (12 * k) from e_nmul 12 k) ?_
  refine wq_gos (f := 1) (pc2 := 18) (ls2 := [(2, .int 3), (0, .ref 162), (1, .int (nI k))]) (st2 := [.int ((nI (12 * k)) + (3 : Int32)), .ref 192]) (h2 := h50x) (dc2 := 0) (ds2 := 0) 2 rfl ?_
  refine wq_vi (show (nI (12 * k)) + (3 : Int32) = nI ((12 * k) + 3) from nI_add (12 * k) 3) ?_
  refine wq_gos (f := 1) (pc2 := 19) (ls2 := [(2, .int 3), (0, .ref 162), (1, .int (nI k))]) (st2 := [.ref 162, .int (nI ((12 * k) + 3)), .ref 192]) (h2 := h50x) (dc2 := 0) (ds2 := 0) 1 rfl ?_
  refine wq_getf rfl e56x rfl rfl ?_
  refine wq_gos (f := 1) (pc2 := 23) (ls2 := [(2, .int 3), (0, .ref 162), (1, .int (nI k))]) (st2 := [.int 3, .ref 188, .int (nI ((12 * k) + 3)), .ref 192]) (h2 := h50x) (dc2 := 0) (ds2 := 0) 1 rfl ?_
  have e57x := (f52x.2 _ _ (wnc (by decide) wn0) (f43x.2 _ _ (wnc (by decide) wn0) e38x))
  have q58x : (3 : Int32).toInt = 3 := rfl
  refine wq_iald rfl e57x rfl rfl ?_
  try have q59x := nI_toInt (n := ((12 * k) + 3)) (by omega)
  refine wq_iastn rfl e51x (by first | omega | exact zin_t (by omega) (by omega)) (by decide) rfl ?_
  intro h60x e61x f62x l63x
  have e61x : zat h60x 192 = some (.inl (0, 252, (zset 0 g54x ((12 * k) + 3) (nw.getD 3 0)))) := e61x
  obtain ⟨g64x, u65x⟩ : ∃ x, x = (zset 0 g54x ((12 * k) + 3) (nw.getD 3 0)) := ⟨_, rfl⟩
  rw [← u65x] at e61x
  refine wq_gos (f := 1) (pc2 := 26) (ls2 := [(2, .int 3), (0, .ref 162), (1, .int (nI k))]) (st2 := [.ref 162]) (h2 := h60x) (dc2 := 0) (ds2 := 0) 1 rfl ?_
  have e66x := (f62x.2 _ _ (wnc (by decide) wn0) e56x)
  refine wq_getf rfl e66x rfl rfl ?_
  refine wq_gos (f := 1) (pc2 := 33) (ls2 := [(2, .int 3), (0, .ref 162), (1, .int (nI k))]) (st2 := [.int ((12 : Int32) * (nI k)), .ref 192]) (h2 := h60x) (dc2 := 0) (ds2 := 0) 3 rfl ?_
  refine wq_vi (show (12 : Int32) * (nI k) = nI (12 * k) from e_nmul 12 k) ?_
  refine wq_gos (f := 1) (pc2 := 36) (ls2 := [(2, .int 3), (0, .ref 162), (1, .int (nI k))]) (st2 := [.int ((nI (12 * k)) + (6 : Int32)), .ref 192]) (h2 := h60x) (dc2 := 0) (ds2 := 0) 2 rfl ?_
  refine wq_vi (show (nI (12 * k)) + (6 : Int32) = nI ((12 * k) + 6) from nI_add (12 * k) 6) ?_
  refine wq_gos (f := 1) (pc2 := 38) (ls2 := [(2, .int 3), (0, .ref 162), (1, .int (nI k))]) (st2 := [.int ((nI ((12 * k) + 6)) + (3 : Int32)), .ref 192]) (h2 := h60x) (dc2 := 0) (ds2 := 0) 2 rfl ?_
  refine wq_vi (show (nI ((12 * k) + 6)) + (3 : Int32) = nI (((12 * k) + 6) + 3) from nI_add ((12 * k) + 6) 3) ?_
  refine wq_gos (f := 1) (pc2 := 39) (ls2 := [(2, .int 3), (0, .ref 162), (1, .int (nI k))]) (st2 := [.ref 162, .int (nI (((12 * k) + 6) + 3)), .ref 192]) (h2 := h60x) (dc2 := 0) (ds2 := 0) 1 rfl ?_
  refine wq_getf rfl e66x rfl rfl ?_
  refine wq_gos (f := 1) (pc2 := 43) (ls2 := [(2, .int 3), (0, .ref 162), (1, .int (nI k))]) (st2 := [.int 3, .ref 190, .int (nI (((12 * k) + 6) + 3)), .ref 192]) (h2 := h60x) (dc2 := 0) (ds2 := 0) 1 rfl ?_
  have e67x := (f62x.2 _ _ (wnc (by decide) wn0) (f52x.2 _ _ (wnc (by decide) wn0) e48x))
  refine wq_iald rfl e67x rfl rfl ?_
  try have q68x := nI_toInt (n := (((12 * k) + 6) + 3)) (by omega)
  refine wq_iastn rfl e61x (by first | omega | exact zin_t (by omega) (by omega)) (by decide) rfl ?_
  intro h69x e70x f71x l72x
  have e70x : zat h69x 192 = some (.inl (0, 252, (zset 0 g64x (((12 * k) + 6) + 3) (am.getD 3 0)))) := e70x
  obtain ⟨g73x, u74x⟩ : ∃ x, x = (zset 0 g64x (((12 * k) + 6) + 3) (am.getD 3 0)) := ⟨_, rfl⟩
  rw [← u74x] at e70x
  refine wq_gos (f := 1) (pc2 := 9) (ls2 := [(2, .int 4), (0, .ref 162), (1, .int (nI k))]) (st2 := [.ref 162]) (h2 := h69x) (dc2 := 0) (ds2 := 0) 6 rfl ?_
  have e75x := (f71x.2 _ _ (wnc (by decide) wn0) e66x)
  refine wq_getf rfl e75x rfl rfl ?_
  refine wq_gos (f := 1) (pc2 := 16) (ls2 := [(2, .int 4), (0, .ref 162), (1, .int (nI k))]) (st2 := [.int ((12 : Int32) * (nI k)), .ref 192]) (h2 := h69x) (dc2 := 0) (ds2 := 0) 3 rfl ?_
  refine wq_vi (show (12 : Int32) * (nI k) = nI (12 * k) from e_nmul 12 k) ?_
  refine wq_gos (f := 1) (pc2 := 18) (ls2 := [(2, .int 4), (0, .ref 162), (1, .int (nI k))]) (st2 := [.int ((nI (12 * k)) + (4 : Int32)), .ref 192]) (h2 := h69x) (dc2 := 0) (ds2 := 0) 2 rfl ?_
  refine wq_vi (show (nI (12 * k)) + (4 : Int32) = nI ((12 * k) + 4) from nI_add (12 * k) 4) ?_
  refine wq_gos (f := 1) (pc2 := 19) (ls2 := [(2, .int 4), (0, .ref 162), (1, .int (nI k))]) (st2 := [.ref 162, .int (nI ((12 * k) + 4)), .ref 192]) (h2 := h69x) (dc2 := 0) (ds2 := 0) 1 rfl ?_
  refine wq_getf rfl e75x rfl rfl ?_
  refine wq_gos (f := 1) (pc2 := 23) (ls2 := [(2, .int 4), (0, .ref 162), (1, .int (nI k))]) (st2 := [.int 4, .ref 188, .int (nI ((12 * k) + 4)), .ref 192]) (h2 := h69x) (dc2 := 0) (ds2 := 0) 1 rfl ?_
  have e76x := (f71x.2 _ _ (wnc (by decide) wn0) (f62x.2 _ _ (wnc (by decide) wn0) e57x))
  have q77x : (4 : Int32).toInt = 4 := rfl
  refine wq_iald rfl e76x rfl rfl ?_
  try have q78x := nI_toInt (n := ((12 * k) + 4)) (by omega)
  refine wq_iastn rfl e70x (by first | omega | exact zin_t (by omega) (by omega)) (by decide) rfl ?_
  intro h79x e80x f81x l82x
  have e80x : zat h79x 192 = some (.inl (0, 252, (zset 0 g73x ((12 * k) + 4) (nw.getD 4 0)))) := e80x
  obtain ⟨g83x, u84x⟩ : ∃ x, x = (zset 0 g73x ((12 * k) + 4) (nw.getD 4 0)) := ⟨_, rfl⟩
  rw [← u84x] at e80x
  refine wq_gos (f := 1) (pc2 := 26) (ls2 := [(2, .int 4), (0, .ref 162), (1, .int (nI k))]) (st2 := [.ref 162]) (h2 := h79x) (dc2 := 0) (ds2 := 0) 1 rfl ?_
  have e85x := (f81x.2 _ _ (wnc (by decide) wn0) e75x)
  refine wq_getf rfl e85x rfl rfl ?_
  refine wq_gos (f := 1) (pc2 := 33) (ls2 := [(2, .int 4), (0, .ref 162), (1, .int (nI k))]) (st2 := [.int ((12 : Int32) * (nI k)), .ref 192]) (h2 := h79x) (dc2 := 0) (ds2 := 0) 3 rfl ?_
  refine wq_vi (show (12 : Int32) * (nI k) = nI (12 * k) from e_nmul 12 k) ?_
  refine wq_gos (f := 1) (pc2 := 36) (ls2 := [(2, .int 4), (0, .ref 162), (1, .int (nI k))]) (st2 := [.int ((nI (12 * k)) + (6 : Int32)), .ref 192]) (h2 := h79x) (dc2 := 0) (ds2 := 0) 2 rfl ?_
  refine wq_vi (show (nI (12 * k)) + (6 : Int32) = nI ((12 * k) + 6) from nI_add (12 * k) 6) ?_
  refine wq_gos (f := 1) (pc2 := 38) (ls2 := [(2, .int 4), (0, .ref 162), (1, .int (nI k))]) (st2 := [.int ((nI ((12 * k) + 6)) + (4 : Int32)), .ref 192]) (h2 := h79x) (dc2 := 0) (ds2 := 0) 2 rfl ?_
  refine wq_vi (show (nI ((12 * k) + 6)) + (4 : Int32) = nI (((12 * k) + 6) + 4) from nI_add ((12 * k) + 6) 4) ?_
  refine wq_gos (f := 1) (pc2 := 39) (ls2 := [(2, .int 4), (0, .ref 162), (1, .int (nI k))]) (st2 := [.ref 162, .int (nI (((12 * k) + 6) + 4)), .ref 192]) (h2 := h79x) (dc2 := 0) (ds2 := 0) 1 rfl ?_
  refine wq_getf rfl e85x rfl rfl ?_
  refine wq_gos (f := 1) (pc2 := 43) (ls2 := [(2, .int 4), (0, .ref 162), (1, .int (nI k))]) (st2 := [.int 4, .ref 190, .int (nI (((12 * k) + 6) + 4)), .ref 192]) (h2 := h79x) (dc2 := 0) (ds2 := 0) 1 rfl ?_
  have e86x := (f81x.2 _ _ (wnc (by decide) wn0) (f71x.2 _ _ (wnc (by decide) wn0) e67x))
  refine wq_iald rfl e86x rfl rfl ?_
  try have q87x := nI_toInt (n := (((12 * k) + 6) + 4)) (by omega)
  refine wq_iastn rfl e80x (by first | omega | exact zin_t (by omega) (by omega)) (by decide) rfl ?_
  intro h88x e89x f90x l91x
  have e89x : zat h88x 192 = some (.inl (0, 252, (zset 0 g83x (((12 * k) + 6) + 4) (am.getD 4 0)))) := e89x
  obtain ⟨g92x, u93x⟩ : ∃ x, x = (zset 0 g83x (((12 * k) + 6) + 4) (am.getD 4 0)) := ⟨_, rfl⟩
  rw [← u93x] at e89x
  refine wq_gos (f := 1) (pc2 := 9) (ls2 := [(2, .int 5), (0, .ref 162), (1, .int (nI k))]) (st2 := [.ref 162]) (h2 := h88x) (dc2 := 0) (ds2 := 0) 6 rfl ?_
  have e94x := (f90x.2 _ _ (wnc (by decide) wn0) e85x)
  refine wq_getf rfl e94x rfl rfl ?_
  refine wq_gos (f := 1) (pc2 := 16) (ls2 := [(2, .int 5), (0, .ref 162), (1, .int (nI k))]) (st2 := [.int ((12 : Int32) * (nI k)), .ref 192]) (h2 := h88x) (dc2 := 0) (ds2 := 0) 3 rfl ?_
  refine wq_vi (show (12 : Int32) * (nI k) = nI (12 * k) from e_nmul 12 k) ?_
  refine wq_gos (f := 1) (pc2 := 18) (ls2 := [(2, .int 5), (0, .ref 162), (1, .int (nI k))]) (st2 := [.int ((nI (12 * k)) + (5 : Int32)), .ref 192]) (h2 := h88x) (dc2 := 0) (ds2 := 0) 2 rfl ?_
  refine wq_vi (show (nI (12 * k)) + (5 : Int32) = nI ((12 * k) + 5) from nI_add (12 * k) 5) ?_
  refine wq_gos (f := 1) (pc2 := 19) (ls2 := [(2, .int 5), (0, .ref 162), (1, .int (nI k))]) (st2 := [.ref 162, .int (nI ((12 * k) + 5)), .ref 192]) (h2 := h88x) (dc2 := 0) (ds2 := 0) 1 rfl ?_
  refine wq_getf rfl e94x rfl rfl ?_
  refine wq_gos (f := 1) (pc2 := 23) (ls2 := [(2, .int 5), (0, .ref 162), (1, .int (nI k))]) (st2 := [.int 5, .ref 188, .int (nI ((12 * k) + 5)), .ref 192]) (h2 := h88x) (dc2 := 0) (ds2 := 0) 1 rfl ?_
  have e95x := (f90x.2 _ _ (wnc (by decide) wn0) (f81x.2 _ _ (wnc (by decide) wn0) e76x))
  have q96x : (5 : Int32).toInt = 5 := rfl
  refine wq_iald rfl e95x rfl rfl ?_
  try have q97x := nI_toInt (n := ((12 * k) + 5)) (by omega)
  refine wq_iastn rfl e89x (by first | omega | exact zin_t (by omega) (by omega)) (by decide) rfl ?_
  intro h98x e99x f100x l101x
  have e99x : zat h98x 192 = some (.inl (0, 252, (zset 0 g92x ((12 * k) + 5) (nw.getD 5 0)))) := e99x
  obtain ⟨g102x, u103x⟩ : ∃ x, x = (zset 0 g92x ((12 * k) + 5) (nw.getD 5 0)) := ⟨_, rfl⟩
  rw [← u103x] at e99x
  refine wq_gos (f := 1) (pc2 := 26) (ls2 := [(2, .int 5), (0, .ref 162), (1, .int (nI k))]) (st2 := [.ref 162]) (h2 := h98x) (dc2 := 0) (ds2 := 0) 1 rfl ?_
  have e104x := (f100x.2 _ _ (wnc (by decide) wn0) e94x)
  refine wq_getf rfl e104x rfl rfl ?_
  refine wq_gos (f := 1) (pc2 := 33) (ls2 := [(2, .int 5), (0, .ref 162), (1, .int (nI k))]) (st2 := [.int ((12 : Int32) * (nI k)), .ref 192]) (h2 := h98x) (dc2 := 0) (ds2 := 0) 3 rfl ?_
  refine wq_vi (show (12 : Int32) * (nI k) = nI (12 * k) from e_nmul 12 k) ?_
  refine wq_gos (f := 1) (pc2 := 36) (ls2 := [(2, .int 5), (0, .ref 162), (1, .int (nI k))]) (st2 := [.int ((nI (12 * k)) + (6 : Int32)), .ref 192]) (h2 := h98x) (dc2 := 0) (ds2 := 0) 2 rfl ?_
  refine wq_vi (show (nI (12 * k)) + (6 : Int32) = nI ((12 * k) + 6) from nI_add (12 * k) 6) ?_
  refine wq_gos (f := 1) (pc2 := 38) (ls2 := [(2, .int 5), (0, .ref 162), (1, .int (nI k))]) (st2 := [.int ((nI ((12 * k) + 6)) + (5 : Int32)), .ref 192]) (h2 := h98x) (dc2 := 0) (ds2 := 0) 2 rfl ?_
  refine wq_vi (show (nI ((12 * k) + 6)) + (5 : Int32) = nI (((12 * k) + 6) + 5) from nI_add ((12 * k) + 6) 5) ?_
  refine wq_gos (f := 1) (pc2 := 39) (ls2 := [(2, .int 5), (0, .ref 162), (1, .int (nI k))]) (st2 := [.ref 162, .int (nI (((12 * k) + 6) + 5)), .ref 192]) (h2 := h98x) (dc2 := 0) (ds2 := 0) 1 rfl ?_
  refine wq_getf rfl e104x rfl rfl ?_
  refine wq_gos (f := 1) (pc2 := 43) (ls2 := [(2, .int 5), (0, .ref 162), (1, .int (nI k))]) (st2 := [.int 5, .ref 190, .int (nI (((12 * k) + 6) + 5)), .ref 192]) (h2 := h98x) (dc2 := 0) (ds2 := 0) 1 rfl ?_
  have e105x := (f100x.2 _ _ (wnc (by decide) wn0) (f90x.2 _ _ (wnc (by decide) wn0) e86x))
  refine wq_iald rfl e105x rfl rfl ?_
  try have q106x := nI_toInt (n := (((12 * k) + 6) + 5)) (by omega)
  refine wq_iastn rfl e99x (by first | omega | exact zin_t (by omega) (by omega)) (by decide) rfl ?_
  intro h107x e108x f109x l110x
  have e108x : zat h107x 192 = some (.inl (0, 252, (zset 0 g102x (((12 * k) + 6) + 5) (am.getD 5 0)))) := e108x
  obtain ⟨g111x, u112x⟩ : ∃ x, x = (zset 0 g102x (((12 * k) + 6) + 5) (am.getD 5 0)) := ⟨_, rfl⟩
  rw [← u112x] at e108x
  refine wq_gos (f := 1) (pc2 := 51) (ls2 := [(2, .int 6), (0, .ref 162), (1, .int (nI k))]) (st2 := []) (h2 := h107x) (dc2 := 0) (ds2 := 0) 5 rfl ?_
  exact wq_ret rfl rfl ⟨h107x, rfl, (wFr_tr (wFr_sub f5x (by simp)) (wFr_tr (wFr_sub f14x (by simp)) (wFr_tr (wFr_sub f24x (by simp)) (wFr_tr (wFr_sub f33x (by simp)) (wFr_tr (wFr_sub f43x (by simp)) (wFr_tr (wFr_sub f52x (by simp)) (wFr_tr (wFr_sub f62x (by simp)) (wFr_tr (wFr_sub f71x (by simp)) (wFr_tr (wFr_sub f81x (by simp)) (wFr_tr (wFr_sub f90x (by simp)) (wFr_tr (wFr_sub f100x (by simp)) (wFr_sub f109x (by simp))))))))))))), (by omega), (by rw [show (kLay kp nw am k) = g111x from (by unfold kLay; rw [u112x, u103x, u93x, u84x, u74x, u65x, u55x, u46x, u36x, u27x, u17x, u8x])]; exact e108x)⟩
set_option maxRecDepth 100000 in
set_option maxHeartbeats 4000000 in
theorem m_keep {h : zH} {n0 n2 n14 n15 n16 n17 n18 n19 n20 n21 n22 n23 n27 n28 n32 n33 n34 n35 n39 n52 : Int32} {nw am kp : List Int32} (hM : zat h 162 = some (.inr (.inr (.inr (10, mO n0 n2 n14 n15 n16 n17 n18 n19 n20 n21 n22 n23 n27 n28 n32 n33 n34 n35 n39 n52))))) (hN : zat h 188 = some (.inl (0, 6, nw))) (hA : zat h 190 = some (.inl (0, 6, am))) (hK : zat h 192 = some (.inl (0, 252, kp)))  : wq 193 0 [(0, .ref 162)] [] h 0 0 (fun rr9 => ∃ (h2 : zH), rr9 = (some (.int 1), h2, 0, 0) ∧ wFr [162, 192] h h2 ∧ h2.length = h.length ∧ zat h2 162 = some (.inr (.inr (.inr (10, mO (0 : Int32) n2 n14 n15 n16 n17 n18 n19 n20 n21 n22 n23 n27 (1 : Int32) n32 n33 n34 n35 n39 n52)))) ∧ zat h2 192 = some (.inl (0, 252, (kLay kp nw am 20)))) := by
  refine wq_gos (f := 1) (pc2 := 2) (ls2 := [(0, .ref 162)]) (st2 := [.int 0, .ref 162]) (h2 := h) (dc2 := 0) (ds2 := 0) 2 rfl ?_
  refine wq_putf rfl hM rfl rfl rfl ?_
  intro h1x e2x f3x l4x
  have e2x : zat h1x 162 = some (.inr (.inr (.inr (10, mO (0 : Int32) n2 n14 n15 n16 n17 n18 n19 n20 n21 n22 n23 n27 n28 n32 n33 n34 n35 n39 n52)))) := e2x
  refine wq_gos (f := 1) (pc2 := 8) (ls2 := [(0, .ref 162)]) (st2 := [.int 20, .ref 162]) (h2 := h1x) (dc2 := 0) (ds2 := 0) 2 rfl ?_
  have e5x := (f3x.2 _ _ (wnc (by decide) wn0) hN)
  have e6x := (f3x.2 _ _ (wnc (by decide) wn0) hA)
  have e7x := (f3x.2 _ _ (wnc (by decide) wn0) hK)
  have q8x : (20 : Int32).toInt = 20 := rfl
  refine wq_inlv (y2 := 189) (as := [.int 20]) rfl rfl rfl e2x rfl (wq_mono (m_lays e2x e5x e6x e7x (by first | omega | assumption | decide)) ?_)
  rintro _ ⟨h89x, rfl, f89x, l89x, c09x⟩
  show wq 193 11 [(0, .ref 162)] [] h89x 0 0 _
  refine wq_gos (f := 1) (pc2 := 13) (ls2 := [(0, .ref 162)]) (st2 := [.int 1, .ref 162]) (h2 := h89x) (dc2 := 0) (ds2 := 0) 2 rfl ?_
  have e10x := (f89x.2 _ _ (wnc (by decide) wn0) e2x)
  refine wq_putf rfl e10x rfl rfl rfl ?_
  intro h11x e12x f13x l14x
  have e12x : zat h11x 162 = some (.inr (.inr (.inr (10, mO (0 : Int32) n2 n14 n15 n16 n17 n18 n19 n20 n21 n22 n23 n27 (1 : Int32) n32 n33 n34 n35 n39 n52)))) := e12x
  refine wq_gos (f := 1) (pc2 := 17) (ls2 := [(0, .ref 162)]) (st2 := [.int 1]) (h2 := h11x) (dc2 := 0) (ds2 := 0) 1 rfl ?_
  have e15x := (f13x.2 _ _ (wnc (by decide) wn0) c09x)
  exact wq_ret rfl rfl ⟨h11x, rfl, (wFr_tr (wFr_sub f3x (by simp)) (wFr_tr (wFr_sub f89x (by simp)) (wFr_sub f13x (by simp)))), (by omega), e12x, e15x⟩
noncomputable def kNow (nw kp : List Int32) (k : Nat) : List Int32 := (zset 0 (zset 0 (zset 0 (zset 0 (zset 0 (zset 0 nw 0 (kp.getD ((12 * k) + 0) 0)) 1 (kp.getD ((12 * k) + 1) 0)) 2 (kp.getD ((12 * k) + 2) 0)) 3 (kp.getD ((12 * k) + 3) 0)) 4 (kp.getD ((12 * k) + 4) 0)) 5 (kp.getD ((12 * k) + 5) 0))
noncomputable def kAim (am kp : List Int32) (k : Nat) : List Int32 := (zset 0 (zset 0 (zset 0 (zset 0 (zset 0 (zset 0 am 0 (kp.getD (((12 * k) + 6) + 0) 0)) 1 (kp.getD (((12 * k) + 6) + 1) 0)) 2 (kp.getD (((12 * k) + 6) + 2) 0)) 3 (kp.getD (((12 * k) + 6) + 3) 0)) 4 (kp.getD (((12 * k) + 6) + 4) 0)) 5 (kp.getD (((12 * k) + 6) + 5) 0))
noncomputable def mvd (hr : List Int32) : List Int32 := zset 0 (zset 0 hr 0 (vp_nar .boolean (0 : Int32))) 1 (vp_nar .boolean (0 : Int32))
set_option maxRecDepth 100000 in
set_option maxHeartbeats 4000000 in
theorem m_laysB {h : zH} {n0 n2 n14 n15 n16 n17 n18 n19 n20 n21 n22 n23 n27 n28 n32 n33 n34 n35 n39 n52 : Int32} {k : Nat} {nw am kp hr : List Int32} (hM : zat h 162 = some (.inr (.inr (.inr (10, mO n0 n2 n14 n15 n16 n17 n18 n19 n20 n21 n22 n23 n27 n28 n32 n33 n34 n35 n39 n52))))) (hN : zat h 188 = some (.inl (0, 6, nw))) (hA : zat h 190 = some (.inl (0, 6, am))) (hK : zat h 192 = some (.inl (0, 252, kp))) (hR : zat h 212 = some (.inl (2, 2, hr))) (hk : k ≤ 20) : wq 190 0 [(0, .ref 162), (1, .int (nI k))] [] h 0 0 (fun rr9 => ∃ (h2 : zH), rr9 = (none, h2, 0, 0) ∧ wFr [162, 188, 190, 212] h h2 ∧ h2.length = h.length ∧ zat h2 162 = some (.inr (.inr (.inr (10, mO n0 n2 n14 n15 n16 n17 n18 n19 n20 n21 n22 n23 n27 n28 n32 (0 : Int32) n34 n35 n39 n52)))) ∧ zat h2 188 = some (.inl (0, 6, (kNow nw kp k))) ∧ zat h2 190 = some (.inl (0, 6, (kAim am kp k))) ∧ zat h2 212 = some (.inl (2, 2, (mvd hr)))) := by
  have qnk := nI_toInt (n := k) (by omega)
  refine wq_gos (f := 1) (pc2 := 9) (ls2 := [(2, .int 0), (0, .ref 162), (1, .int (nI k))]) (st2 := [.ref 162]) (h2 := h) (dc2 := 0) (ds2 := 0) 6 rfl ?_
  refine wq_getf rfl hM rfl rfl ?_
  refine wq_gos (f := 1) (pc2 := 14) (ls2 := [(2, .int 0), (0, .ref 162), (1, .int (nI k))]) (st2 := [.ref 162, .int 0, .ref 188]) (h2 := h) (dc2 := 0) (ds2 := 0) 2 rfl ?_
  refine wq_getf rfl hM rfl rfl ?_
  refine wq_gos (f := 1) (pc2 := 21) (ls2 := [(2, .int 0), (0, .ref 162), (1, .int (nI k))]) (st2 := [.int ((12 : Int32) * (nI k)), .ref 192, .int 0, .ref 188]) (h2 := h) (dc2 := 0) (ds2 := 0) 3 rfl ?_
  refine wq_vi (show (12 : Int32) * (nI k) = nI (12 * k) from e_nmul 12 k) ?_
  refine wq_gos (f := 1) (pc2 := 23) (ls2 := [(2, .int 0), (0, .ref 162), (1, .int (nI k))]) (st2 := [.int ((nI (12 * k)) + (0 : Int32)), .ref 192, .int 0, .ref 188]) (h2 := h) (dc2 := 0) (ds2 := 0) 2 rfl ?_
  refine wq_vi (show (nI (12 * k)) + (0 : Int32) = nI ((12 * k) + 0) from nI_add (12 * k) 0) ?_
  try have q1x := nI_toInt (n := ((12 * k) + 0)) (by omega)
  refine wq_ialdn rfl hK (by first | omega | exact zin_t (by omega) (by omega)) (by decide) rfl ?_
  have q2x : (0 : Int32).toInt = 0 := rfl
  refine wq_iast rfl hN rfl rfl ?_
  intro h3x e4x f5x l6x
  have e4x : zat h3x 188 = some (.inl (0, 6, (zset 0 nw 0 (kp.getD ((12 * k) + 0) 0)))) := e4x
  obtain ⟨g7x, u8x⟩ : ∃ x, x = (zset 0 nw 0 (kp.getD ((12 * k) + 0) 0)) := ⟨_, rfl⟩
  rw [← u8x] at e4x
  refine wq_gos (f := 1) (pc2 := 26) (ls2 := [(2, .int 0), (0, .ref 162), (1, .int (nI k))]) (st2 := [.ref 162]) (h2 := h3x) (dc2 := 0) (ds2 := 0) 1 rfl ?_
  have e9x := (f5x.2 _ _ (wnc (by decide) wn0) hM)
  refine wq_getf rfl e9x rfl rfl ?_
  refine wq_gos (f := 1) (pc2 := 31) (ls2 := [(2, .int 0), (0, .ref 162), (1, .int (nI k))]) (st2 := [.ref 162, .int 0, .ref 190]) (h2 := h3x) (dc2 := 0) (ds2 := 0) 2 rfl ?_
  refine wq_getf rfl e9x rfl rfl ?_
  refine wq_gos (f := 1) (pc2 := 38) (ls2 := [(2, .int 0), (0, .ref 162), (1, .int (nI k))]) (st2 := [.int ((12 : Int32) * (nI k)), .ref 192, .int 0, .ref 190]) (h2 := h3x) (dc2 := 0) (ds2 := 0) 3 rfl ?_
  refine wq_vi (show (12 : Int32) * (nI k) = nI (12 * k) from e_nmul 12 k) ?_
  refine wq_gos (f := 1) (pc2 := 41) (ls2 := [(2, .int 0), (0, .ref 162), (1, .int (nI k))]) (st2 := [.int ((nI (12 * k)) + (6 : Int32)), .ref 192, .int 0, .ref 190]) (h2 := h3x) (dc2 := 0) (ds2 := 0) 2 rfl ?_
  refine wq_vi (show (nI (12 * k)) + (6 : Int32) = nI ((12 * k) + 6) from nI_add (12 * k) 6) ?_
  refine wq_gos (f := 1) (pc2 := 43) (ls2 := [(2, .int 0), (0, .ref 162), (1, .int (nI k))]) (st2 := [.int ((nI ((12 * k) + 6)) + (0 : Int32)), .ref 192, .int 0, .ref 190]) (h2 := h3x) (dc2 := 0) (ds2 := 0) 2 rfl ?_
  refine wq_vi (show (nI ((12 * k) + 6)) + (0 : Int32) = nI (((12 * k) + 6) + 0) from nI_add ((12 * k) + 6) 0) ?_
  have e10x := (f5x.2 _ _ (wnc (by decide) wn0) hK)
  try have q11x := nI_toInt (n := (((12 * k) + 6) + 0)) (by omega)
  refine wq_ialdn rfl e10x (by first | omega | exact zin_t (by omega) (by omega)) (by decide) rfl ?_
  have e12x := (f5x.2 _ _ (wnc (by decide) wn0) hA)
  refine wq_iast rfl e12x rfl rfl ?_
  intro h13x e14x f15x l16x
  have e14x : zat h13x 190 = some (.inl (0, 6, (zset 0 am 0 (kp.getD (((12 * k) + 6) + 0) 0)))) := e14x
  obtain ⟨g17x, u18x⟩ : ∃ x, x = (zset 0 am 0 (kp.getD (((12 * k) + 6) + 0) 0)) := ⟨_, rfl⟩
  rw [← u18x] at e14x
  refine wq_gos (f := 1) (pc2 := 9) (ls2 := [(2, .int 1), (0, .ref 162), (1, .int (nI k))]) (st2 := [.ref 162]) (h2 := h13x) (dc2 := 0) (ds2 := 0) 6 rfl ?_
  have e19x := (f15x.2 _ _ (wnc (by decide) wn0) e9x)
  refine wq_getf rfl e19x rfl rfl ?_
  refine wq_gos (f := 1) (pc2 := 14) (ls2 := [(2, .int 1), (0, .ref 162), (1, .int (nI k))]) (st2 := [.ref 162, .int 1, .ref 188]) (h2 := h13x) (dc2 := 0) (ds2 := 0) 2 rfl ?_
  refine wq_getf rfl e19x rfl rfl ?_
  refine wq_gos (f := 1) (pc2 := 21) (ls2 := [(2, .int 1), (0, .ref 162), (1, .int (nI k))]) (st2 := [.int ((12 : Int32) * (nI k)), .ref 192, .int 1, .ref 188]) (h2 := h13x) (dc2 := 0) (ds2 := 0) 3 rfl ?_
  refine wq_vi (show (12 : Int32) * (nI k) = nI (12 * k) from e_nmul 12 k) ?_
  refine wq_gos (f := 1) (pc2 := 23) (ls2 := [(2, .int 1), (0, .ref 162), (1, .int (nI k))]) (st2 := [.int ((nI (12 * k)) + (1 : Int32)), .ref 192, .int 1, .ref 188]) (h2 := h13x) (dc2 := 0) (ds2 := 0) 2 rfl ?_
  refine wq_vi (show (nI (12 * k)) + (1 : Int32) = nI ((12 * k) + 1) from nI_add (12 * k) 1) ?_
  have e20x := (f15x.2 _ _ (wnc (by decide) wn0) e10x)
  try have q21x := nI_toInt (n := ((12 * k) + 1)) (by omega)
  refine wq_ialdn rfl e20x (by first | omega | exact zin_t (by omega) (by omega)) (by decide) rfl ?_
  have e22x := (f15x.2 _ _ (wnc (by decide) wn0) e4x)
  have q23x : (1 : Int32).toInt = 1 := rfl
  refine wq_iast rfl e22x rfl rfl ?_
  intro h24x e25x f26x l27x
  have e25x : zat h24x 188 = some (.inl (0, 6, (zset 0 g7x 1 (kp.getD ((12 * k) + 1) 0)))) := e25x
  obtain ⟨g28x, u29x⟩ : ∃ x, x = (zset 0 g7x 1 (kp.getD ((12 * k) + 1) 0)) := ⟨_, rfl⟩
  rw [← u29x] at e25x
  refine wq_gos (f := 1) (pc2 := 26) (ls2 := [(2, .int 1), (0, .ref 162), (1, .int (nI k))]) (st2 := [.ref 162]) (h2 := h24x) (dc2 := 0) (ds2 := 0) 1 rfl ?_
  have e30x := (f26x.2 _ _ (wnc (by decide) wn0) e19x)
  refine wq_getf rfl e30x rfl rfl ?_
  refine wq_gos (f := 1) (pc2 := 31) (ls2 := [(2, .int 1), (0, .ref 162), (1, .int (nI k))]) (st2 := [.ref 162, .int 1, .ref 190]) (h2 := h24x) (dc2 := 0) (ds2 := 0) 2 rfl ?_
  refine wq_getf rfl e30x rfl rfl ?_
  refine wq_gos (f := 1) (pc2 := 38) (ls2 := [(2, .int 1), (0, .ref 162), (1, .int (nI k))]) (st2 := [.int ((12 : Int32) * (nI k)), .ref 192, .int 1, .ref 190]) (h2 := h24x) (dc2 := 0) (ds2 := 0) 3 rfl ?_
  refine wq_vi (show (12 : Int32) * (nI k) = nI (12 * k) from e_nmul 12 k) ?_
  refine wq_gos (f := 1) (pc2 := 41) (ls2 := [(2, .int 1), (0, .ref 162), (1, .int (nI k))]) (st2 := [.int ((nI (12 * k)) + (6 : Int32)), .ref 192, .int 1, .ref 190]) (h2 := h24x) (dc2 := 0) (ds2 := 0) 2 rfl ?_
  refine wq_vi (show (nI (12 * k)) + (6 : Int32) = nI ((12 * k) + 6) from nI_add (12 * k) 6) ?_
  refine wq_gos (f := 1) (pc2 := 43) (ls2 := [(2, .int 1), (0, .ref 162), (1, .int (nI k))]) (st2 := [.int ((nI ((12 * k) + 6)) + (1 : Int32)), .ref 192, .int 1, .ref 190]) (h2 := h24x) (dc2 := 0) (ds2 := 0) 2 rfl ?_
  refine wq_vi (show (nI ((12 * k) + 6)) + (1 : Int32) = nI (((12 * k) + 6) + 1) from nI_add ((12 * k) + 6) 1) ?_
  have e31x := (f26x.2 _ _ (wnc (by decide) wn0) e20x)
  try have q32x := nI_toInt (n := (((12 * k) + 6) + 1)) (by omega)
  refine wq_ialdn rfl e31x (by first | omega | exact zin_t (by omega) (by omega)) (by decide) rfl ?_
  have e33x := (f26x.2 _ _ (wnc (by decide) wn0) e14x)
  refine wq_iast rfl e33x rfl rfl ?_
  intro h34x e35x f36x l37x
  have e35x : zat h34x 190 = some (.inl (0, 6, (zset 0 g17x 1 (kp.getD (((12 * k) + 6) + 1) 0)))) := e35x
  obtain ⟨g38x, u39x⟩ : ∃ x, x = (zset 0 g17x 1 (kp.getD (((12 * k) + 6) + 1) 0)) := ⟨_, rfl⟩
  rw [← u39x] at e35x
  refine wq_gos (f := 1) (pc2 := 9) (ls2 := [(2, .int 2), (0, .ref 162), (1, .int (nI k))]) (st2 := [.ref 162]) (h2 := h34x) (dc2 := 0) (ds2 := 0) 6 rfl ?_
  have e40x := (f36x.2 _ _ (wnc (by decide) wn0) e30x)
  refine wq_getf rfl e40x rfl rfl ?_
  refine wq_gos (f := 1) (pc2 := 14) (ls2 := [(2, .int 2), (0, .ref 162), (1, .int (nI k))]) (st2 := [.ref 162, .int 2, .ref 188]) (h2 := h34x) (dc2 := 0) (ds2 := 0) 2 rfl ?_
  refine wq_getf rfl e40x rfl rfl ?_
  refine wq_gos (f := 1) (pc2 := 21) (ls2 := [(2, .int 2), (0, .ref 162), (1, .int (nI k))]) (st2 := [.int ((12 : Int32) * (nI k)), .ref 192, .int 2, .ref 188]) (h2 := h34x) (dc2 := 0) (ds2 := 0) 3 rfl ?_
  refine wq_vi (show (12 : Int32) * (nI k) = nI (12 * k) from e_nmul 12 k) ?_
  refine wq_gos (f := 1) (pc2 := 23) (ls2 := [(2, .int 2), (0, .ref 162), (1, .int (nI k))]) (st2 := [.int ((nI (12 * k)) + (2 : Int32)), .ref 192, .int 2, .ref 188]) (h2 := h34x) (dc2 := 0) (ds2 := 0) 2 rfl ?_
  refine wq_vi (show (nI (12 * k)) + (2 : Int32) = nI ((12 * k) + 2) from nI_add (12 * k) 2) ?_
  have e41x := (f36x.2 _ _ (wnc (by decide) wn0) e31x)
  try have q42x := nI_toInt (n := ((12 * k) + 2)) (by omega)
  refine wq_ialdn rfl e41x (by first | omega | exact zin_t (by omega) (by omega)) (by decide) rfl ?_
  have e43x := (f36x.2 _ _ (wnc (by decide) wn0) e25x)
  have q44x : (2 : Int32).toInt = 2 := rfl
  refine wq_iast rfl e43x rfl rfl ?_
  intro h45x e46x f47x l48x
  have e46x : zat h45x 188 = some (.inl (0, 6, (zset 0 g28x 2 (kp.getD ((12 * k) + 2) 0)))) := e46x
  obtain ⟨g49x, u50x⟩ : ∃ x, x = (zset 0 g28x 2 (kp.getD ((12 * k) + 2) 0)) := ⟨_, rfl⟩
  rw [← u50x] at e46x
  refine wq_gos (f := 1) (pc2 := 26) (ls2 := [(2, .int 2), (0, .ref 162), (1, .int (nI k))]) (st2 := [.ref 162]) (h2 := h45x) (dc2 := 0) (ds2 := 0) 1 rfl ?_
  have e51x := (f47x.2 _ _ (wnc (by decide) wn0) e40x)
  refine wq_getf rfl e51x rfl rfl ?_
  refine wq_gos (f := 1) (pc2 := 31) (ls2 := [(2, .int 2), (0, .ref 162), (1, .int (nI k))]) (st2 := [.ref 162, .int 2, .ref 190]) (h2 := h45x) (dc2 := 0) (ds2 := 0) 2 rfl ?_
  refine wq_getf rfl e51x rfl rfl ?_
  refine wq_gos (f := 1) (pc2 := 38) (ls2 := [(2, .int 2), (0, .ref 162), (1, .int (nI k))]) (st2 := [.int ((12 : Int32) * (nI k)), .ref 192, .int 2, .ref 190]) (h2 := h45x) (dc2 := 0) (ds2 := 0) 3 rfl ?_
  refine wq_vi (show (12 : Int32) * (nI k) = nI (12 * k) from e_nmul 12 k) ?_
  refine wq_gos (f := 1) (pc2 := 41) (ls2 := [(2, .int 2), (0, .ref 162), (1, .int (nI k))]) (st2 := [.int ((nI (12 * k)) + (6 : Int32)), .ref 192, .int 2, .ref 190]) (h2 := h45x) (dc2 := 0) (ds2 := 0) 2 rfl ?_
  refine wq_vi (show (nI (12 * k)) + (6 : Int32) = nI ((12 * k) + 6) from nI_add (12 * k) 6) ?_
  refine wq_gos (f := 1) (pc2 := 43) (ls2 := [(2, .int 2), (0, .ref 162), (1, .int (nI k))]) (st2 := [.int ((nI ((12 * k) + 6)) + (2 : Int32)), .ref 192, .int 2, .ref 190]) (h2 := h45x) (dc2 := 0) (ds2 := 0) 2 rfl ?_
  refine wq_vi (show (nI ((12 * k) + 6)) + (2 : Int32) = nI (((12 * k) + 6) + 2) from nI_add ((12 * k) + 6) 2) ?_
  have e52x := (f47x.2 _ _ (wnc (by decide) wn0) e41x)
  try have q53x := nI_toInt (n := (((12 * k) + 6) + 2)) (by omega)
  refine wq_ialdn rfl e52x (by first | omega | exact zin_t (by omega) (by omega)) (by decide) rfl ?_
  have e54x := (f47x.2 _ _ (wnc (by decide) wn0) e35x)
  refine wq_iast rfl e54x rfl rfl ?_
  intro h55x e56x f57x l58x
  have e56x : zat h55x 190 = some (.inl (0, 6, (zset 0 g38x 2 (kp.getD (((12 * k) + 6) + 2) 0)))) := e56x
  obtain ⟨g59x, u60x⟩ : ∃ x, x = (zset 0 g38x 2 (kp.getD (((12 * k) + 6) + 2) 0)) := ⟨_, rfl⟩
  rw [← u60x] at e56x
  refine wq_gos (f := 1) (pc2 := 9) (ls2 := [(2, .int 3), (0, .ref 162), (1, .int (nI k))]) (st2 := [.ref 162]) (h2 := h55x) (dc2 := 0) (ds2 := 0) 6 rfl ?_
  have e61x := (f57x.2 _ _ (wnc (by decide) wn0) e51x)
  refine wq_getf rfl e61x rfl rfl ?_
  refine wq_gos (f := 1) (pc2 := 14) (ls2 := [(2, .int 3), (0, .ref 162), (1, .int (nI k))]) (st2 := [.ref 162, .int 3, .ref 188]) (h2 := h55x) (dc2 := 0) (ds2 := 0) 2 rfl ?_
  refine wq_getf rfl e61x rfl rfl ?_
  refine wq_gos (f := 1) (pc2 := 21) (ls2 := [(2, .int 3), (0, .ref 162), (1, .int (nI k))]) (st2 := [.int ((12 : Int32) * (nI k)), .ref 192, .int 3, .ref 188]) (h2 := h55x) (dc2 := 0) (ds2 := 0) 3 rfl ?_
  refine wq_vi (show (12 : Int32) * (nI k) = nI (12 * k) from e_nmul 12 k) ?_
  refine wq_gos (f := 1) (pc2 := 23) (ls2 := [(2, .int 3), (0, .ref 162), (1, .int (nI k))]) (st2 := [.int ((nI (12 * k)) + (3 : Int32)), .ref 192, .int 3, .ref 188]) (h2 := h55x) (dc2 := 0) (ds2 := 0) 2 rfl ?_
  refine wq_vi (show (nI (12 * k)) + (3 : Int32) = nI ((12 * k) + 3) from nI_add (12 * k) 3) ?_
  have e62x := (f57x.2 _ _ (wnc (by decide) wn0) e52x)
  try have q63x := nI_toInt (n := ((12 * k) + 3)) (by omega)
  refine wq_ialdn rfl e62x (by first | omega | exact zin_t (by omega) (by omega)) (by decide) rfl ?_
  have e64x := (f57x.2 _ _ (wnc (by decide) wn0) e46x)
  have q65x : (3 : Int32).toInt = 3 := rfl
  refine wq_iast rfl e64x rfl rfl ?_
  intro h66x e67x f68x l69x
  have e67x : zat h66x 188 = some (.inl (0, 6, (zset 0 g49x 3 (kp.getD ((12 * k) + 3) 0)))) := e67x
  obtain ⟨g70x, u71x⟩ : ∃ x, x = (zset 0 g49x 3 (kp.getD ((12 * k) + 3) 0)) := ⟨_, rfl⟩
  rw [← u71x] at e67x
  refine wq_gos (f := 1) (pc2 := 26) (ls2 := [(2, .int 3), (0, .ref 162), (1, .int (nI k))]) (st2 := [.ref 162]) (h2 := h66x) (dc2 := 0) (ds2 := 0) 1 rfl ?_
  have e72x := (f68x.2 _ _ (wnc (by decide) wn0) e61x)
  refine wq_getf rfl e72x rfl rfl ?_
  refine wq_gos (f := 1) (pc2 := 31) (ls2 := [(2, .int 3), (0, .ref 162), (1, .int (nI k))]) (st2 := [.ref 162, .int 3, .ref 190]) (h2 := h66x) (dc2 := 0) (ds2 := 0) 2 rfl ?_
  refine wq_getf rfl e72x rfl rfl ?_
  refine wq_gos (f := 1) (pc2 := 38) (ls2 := [(2, .int 3), (0, .ref 162), (1, .int (nI k))]) (st2 := [.int ((12 : Int32) * (nI k)), .ref 192, .int 3, .ref 190]) (h2 := h66x) (dc2 := 0) (ds2 := 0) 3 rfl ?_
  refine wq_vi (show (12 : Int32) * (nI k) = nI (12 * k) from e_nmul 12 k) ?_
  refine wq_gos (f := 1) (pc2 := 41) (ls2 := [(2, .int 3), (0, .ref 162), (1, .int (nI k))]) (st2 := [.int ((nI (12 * k)) + (6 : Int32)), .ref 192, .int 3, .ref 190]) (h2 := h66x) (dc2 := 0) (ds2 := 0) 2 rfl ?_
  refine wq_vi (show (nI (12 * k)) + (6 : Int32) = nI ((12 * k) + 6) from nI_add (12 * k) 6) ?_
  refine wq_gos (f := 1) (pc2 := 43) (ls2 := [(2, .int 3), (0, .ref 162), (1, .int (nI k))]) (st2 := [.int ((nI ((12 * k) + 6)) + (3 : Int32)), .ref 192, .int 3, .ref 190]) (h2 := h66x) (dc2 := 0) (ds2 := 0) 2 rfl ?_
  refine wq_vi (show (nI ((12 * k) + 6)) + (3 : Int32) = nI (((12 * k) + 6) + 3) from nI_add ((12 * k) + 6) 3) ?_
  have e73x := (f68x.2 _ _ (wnc (by decide) wn0) e62x)
  try have q74x := nI_toInt (n := (((12 * k) + 6) + 3)) (by omega)
  refine wq_ialdn rfl e73x (by first | omega | exact zin_t (by omega) (by omega)) (by decide) rfl ?_
  have e75x := (f68x.2 _ _ (wnc (by decide) wn0) e56x)
  refine wq_iast rfl e75x rfl rfl ?_
  intro h76x e77x f78x l79x
  have e77x : zat h76x 190 = some (.inl (0, 6, (zset 0 g59x 3 (kp.getD (((12 * k) + 6) + 3) 0)))) := e77x
  obtain ⟨g80x, u81x⟩ : ∃ x, x = (zset 0 g59x 3 (kp.getD (((12 * k) + 6) + 3) 0)) := ⟨_, rfl⟩
  rw [← u81x] at e77x
  refine wq_gos (f := 1) (pc2 := 9) (ls2 := [(2, .int 4), (0, .ref 162), (1, .int (nI k))]) (st2 := [.ref 162]) (h2 := h76x) (dc2 := 0) (ds2 := 0) 6 rfl ?_
  have e82x := (f78x.2 _ _ (wnc (by decide) wn0) e72x)
  refine wq_getf rfl e82x rfl rfl ?_
  refine wq_gos (f := 1) (pc2 := 14) (ls2 := [(2, .int 4), (0, .ref 162), (1, .int (nI k))]) (st2 := [.ref 162, .int 4, .ref 188]) (h2 := h76x) (dc2 := 0) (ds2 := 0) 2 rfl ?_
  refine wq_getf rfl e82x rfl rfl ?_
  refine wq_gos (f := 1) (pc2 := 21) (ls2 := [(2, .int 4), (0, .ref 162), (1, .int (nI k))]) (st2 := [.int ((12 : Int32) * (nI k)), .ref 192, .int 4, .ref 188]) (h2 := h76x) (dc2 := 0) (ds2 := 0) 3 rfl ?_
  refine wq_vi (show (12 : Int32) * (nI k) = nI (12 * k) from e_nmul 12 k) ?_
  refine wq_gos (f := 1) (pc2 := 23) (ls2 := [(2, .int 4), (0, .ref 162), (1, .int (nI k))]) (st2 := [.int ((nI (12 * k)) + (4 : Int32)), .ref 192, .int 4, .ref 188]) (h2 := h76x) (dc2 := 0) (ds2 := 0) 2 rfl ?_
  refine wq_vi (show (nI (12 * k)) + (4 : Int32) = nI ((12 * k) + 4) from nI_add (12 * k) 4) ?_
  have e83x := (f78x.2 _ _ (wnc (by decide) wn0) e73x)
  try have q84x := nI_toInt (n := ((12 * k) + 4)) (by omega)
  refine wq_ialdn rfl e83x (by first | omega | exact zin_t (by omega) (by omega)) (by decide) rfl ?_
  have e85x := (f78x.2 _ _ (wnc (by decide) wn0) e67x)
  have q86x : (4 : Int32).toInt = 4 := rfl
  refine wq_iast rfl e85x rfl rfl ?_
  intro h87x e88x f89x l90x
  have e88x : zat h87x 188 = some (.inl (0, 6, (zset 0 g70x 4 (kp.getD ((12 * k) + 4) 0)))) := e88x
  obtain ⟨g91x, u92x⟩ : ∃ x, x = (zset 0 g70x 4 (kp.getD ((12 * k) + 4) 0)) := ⟨_, rfl⟩
  rw [← u92x] at e88x
  refine wq_gos (f := 1) (pc2 := 26) (ls2 := [(2, .int 4), (0, .ref 162), (1, .int (nI k))]) (st2 := [.ref 162]) (h2 := h87x) (dc2 := 0) (ds2 := 0) 1 rfl ?_
  have e93x := (f89x.2 _ _ (wnc (by decide) wn0) e82x)
  refine wq_getf rfl e93x rfl rfl ?_
  refine wq_gos (f := 1) (pc2 := 31) (ls2 := [(2, .int 4), (0, .ref 162), (1, .int (nI k))]) (st2 := [.ref 162, .int 4, .ref 190]) (h2 := h87x) (dc2 := 0) (ds2 := 0) 2 rfl ?_
  refine wq_getf rfl e93x rfl rfl ?_
  refine wq_gos (f := 1) (pc2 := 38) (ls2 := [(2, .int 4), (0, .ref 162), (1, .int (nI k))]) (st2 := [.int ((12 : Int32) * (nI k)), .ref 192, .int 4, .ref 190]) (h2 := h87x) (dc2 := 0) (ds2 := 0) 3 rfl ?_
  refine wq_vi (show (12 : Int32) * (nI k) = nI (12 * k) from e_nmul 12 k) ?_
  refine wq_gos (f := 1) (pc2 := 41) (ls2 := [(2, .int 4), (0, .ref 162), (1, .int (nI k))]) (st2 := [.int ((nI (12 * k)) + (6 : Int32)), .ref 192, .int 4, .ref 190]) (h2 := h87x) (dc2 := 0) (ds2 := 0) 2 rfl ?_
  refine wq_vi (show (nI (12 * k)) + (6 : Int32) = nI ((12 * k) + 6) from nI_add (12 * k) 6) ?_
  refine wq_gos (f := 1) (pc2 := 43) (ls2 := [(2, .int 4), (0, .ref 162), (1, .int (nI k))]) (st2 := [.int ((nI ((12 * k) + 6)) + (4 : Int32)), .ref 192, .int 4, .ref 190]) (h2 := h87x) (dc2 := 0) (ds2 := 0) 2 rfl ?_
  refine wq_vi (show (nI ((12 * k) + 6)) + (4 : Int32) = nI (((12 * k) + 6) + 4) from nI_add ((12 * k) + 6) 4) ?_
  have e94x := (f89x.2 _ _ (wnc (by decide) wn0) e83x)
  try have q95x := nI_toInt (n := (((12 * k) + 6) + 4)) (by omega)
  refine wq_ialdn rfl e94x (by first | omega | exact zin_t (by omega) (by omega)) (by decide) rfl ?_
  have e96x := (f89x.2 _ _ (wnc (by decide) wn0) e77x)
  refine wq_iast rfl e96x rfl rfl ?_
  intro h97x e98x f99x l100x
  have e98x : zat h97x 190 = some (.inl (0, 6, (zset 0 g80x 4 (kp.getD (((12 * k) + 6) + 4) 0)))) := e98x
  obtain ⟨g101x, u102x⟩ : ∃ x, x = (zset 0 g80x 4 (kp.getD (((12 * k) + 6) + 4) 0)) := ⟨_, rfl⟩
  rw [← u102x] at e98x
  refine wq_gos (f := 1) (pc2 := 9) (ls2 := [(2, .int 5), (0, .ref 162), (1, .int (nI k))]) (st2 := [.ref 162]) (h2 := h97x) (dc2 := 0) (ds2 := 0) 6 rfl ?_
  have e103x := (f99x.2 _ _ (wnc (by decide) wn0) e93x)
  refine wq_getf rfl e103x rfl rfl ?_
  refine wq_gos (f := 1) (pc2 := 14) (ls2 := [(2, .int 5), (0, .ref 162), (1, .int (nI k))]) (st2 := [.ref 162, .int 5, .ref 188]) (h2 := h97x) (dc2 := 0) (ds2 := 0) 2 rfl ?_
  refine wq_getf rfl e103x rfl rfl ?_
  refine wq_gos (f := 1) (pc2 := 21) (ls2 := [(2, .int 5), (0, .ref 162), (1, .int (nI k))]) (st2 := [.int ((12 : Int32) * (nI k)), .ref 192, .int 5, .ref 188]) (h2 := h97x) (dc2 := 0) (ds2 := 0) 3 rfl ?_
  refine wq_vi (show (12 : Int32) * (nI k) = nI (12 * k) from e_nmul 12 k) ?_
  refine wq_gos (f := 1) (pc2 := 23) (ls2 := [(2, .int 5), (0, .ref 162), (1, .int (nI k))]) (st2 := [.int ((nI (12 * k)) + (5 : Int32)), .ref 192, .int 5, .ref 188]) (h2 := h97x) (dc2 := 0) (ds2 := 0) 2 rfl ?_
  refine wq_vi (show (nI (12 * k)) + (5 : Int32) = nI ((12 * k) + 5) from nI_add (12 * k) 5) ?_
  have e104x := (f99x.2 _ _ (wnc (by decide) wn0) e94x)
  try have q105x := nI_toInt (n := ((12 * k) + 5)) (by omega)
  refine wq_ialdn rfl e104x (by first | omega | exact zin_t (by omega) (by omega)) (by decide) rfl ?_
  have e106x := (f99x.2 _ _ (wnc (by decide) wn0) e88x)
  have q107x : (5 : Int32).toInt = 5 := rfl
  refine wq_iast rfl e106x rfl rfl ?_
  intro h108x e109x f110x l111x
  have e109x : zat h108x 188 = some (.inl (0, 6, (zset 0 g91x 5 (kp.getD ((12 * k) + 5) 0)))) := e109x
  obtain ⟨g112x, u113x⟩ : ∃ x, x = (zset 0 g91x 5 (kp.getD ((12 * k) + 5) 0)) := ⟨_, rfl⟩
  rw [← u113x] at e109x
  refine wq_gos (f := 1) (pc2 := 26) (ls2 := [(2, .int 5), (0, .ref 162), (1, .int (nI k))]) (st2 := [.ref 162]) (h2 := h108x) (dc2 := 0) (ds2 := 0) 1 rfl ?_
  have e114x := (f110x.2 _ _ (wnc (by decide) wn0) e103x)
  refine wq_getf rfl e114x rfl rfl ?_
  refine wq_gos (f := 1) (pc2 := 31) (ls2 := [(2, .int 5), (0, .ref 162), (1, .int (nI k))]) (st2 := [.ref 162, .int 5, .ref 190]) (h2 := h108x) (dc2 := 0) (ds2 := 0) 2 rfl ?_
  refine wq_getf rfl e114x rfl rfl ?_
  refine wq_gos (f := 1) (pc2 := 38) (ls2 := [(2, .int 5), (0, .ref 162), (1, .int (nI k))]) (st2 := [.int ((12 : Int32) * (nI k)), .ref 192, .int 5, .ref 190]) (h2 := h108x) (dc2 := 0) (ds2 := 0) 3 rfl ?_
  refine wq_vi (show (12 : Int32) * (nI k) = nI (12 * k) from e_nmul 12 k) ?_
  refine wq_gos (f := 1) (pc2 := 41) (ls2 := [(2, .int 5), (0, .ref 162), (1, .int (nI k))]) (st2 := [.int ((nI (12 * k)) + (6 : Int32)), .ref 192, .int 5, .ref 190]) (h2 := h108x) (dc2 := 0) (ds2 := 0) 2 rfl ?_
  refine wq_vi (show (nI (12 * k)) + (6 : Int32) = nI ((12 * k) + 6) from nI_add (12 * k) 6) ?_
  refine wq_gos (f := 1) (pc2 := 43) (ls2 := [(2, .int 5), (0, .ref 162), (1, .int (nI k))]) (st2 := [.int ((nI ((12 * k) + 6)) + (5 : Int32)), .ref 192, .int 5, .ref 190]) (h2 := h108x) (dc2 := 0) (ds2 := 0) 2 rfl ?_
  refine wq_vi (show (nI ((12 * k) + 6)) + (5 : Int32) = nI (((12 * k) + 6) + 5) from nI_add ((12 * k) + 6) 5) ?_
  have e115x := (f110x.2 _ _ (wnc (by decide) wn0) e104x)
  try have q116x := nI_toInt (n := (((12 * k) + 6) + 5)) (by omega)
  refine wq_ialdn rfl e115x (by first | omega | exact zin_t (by omega) (by omega)) (by decide) rfl ?_
  have e117x := (f110x.2 _ _ (wnc (by decide) wn0) e98x)
  refine wq_iast rfl e117x rfl rfl ?_
  intro h118x e119x f120x l121x
  have e119x : zat h118x 190 = some (.inl (0, 6, (zset 0 g101x 5 (kp.getD (((12 * k) + 6) + 5) 0)))) := e119x
  obtain ⟨g122x, u123x⟩ : ∃ x, x = (zset 0 g101x 5 (kp.getD (((12 * k) + 6) + 5) 0)) := ⟨_, rfl⟩
  rw [← u123x] at e119x
  refine wq_gos (f := 1) (pc2 := 52) (ls2 := [(2, .int 6), (0, .ref 162), (1, .int (nI k))]) (st2 := [.ref 162]) (h2 := h118x) (dc2 := 0) (ds2 := 0) 6 rfl ?_
  have e124x := (f120x.2 _ _ (wnc (by decide) wn0) e114x)
  refine wq_inlv (y2 := 242) (as := []) rfl rfl rfl e124x rfl ?_
  show wq 242 0 [(0, .ref 162)] [] h118x 0 0 _
  refine wq_gos (f := 1) (pc2 := 2) (ls2 := [(0, .ref 162)]) (st2 := [.int 0, .ref 162]) (h2 := h118x) (dc2 := 0) (ds2 := 0) 2 rfl ?_
  refine wq_putf rfl e124x rfl rfl rfl ?_
  intro h125x e126x f127x l128x
  have e126x : zat h125x 162 = some (.inr (.inr (.inr (10, mO n0 n2 n14 n15 n16 n17 n18 n19 n20 n21 n22 n23 n27 n28 n32 (0 : Int32) n34 n35 n39 n52)))) := e126x
  refine wq_gos (f := 1) (pc2 := 6) (ls2 := [(0, .ref 162)]) (st2 := [.ref 162]) (h2 := h125x) (dc2 := 0) (ds2 := 0) 1 rfl ?_
  refine wq_getf rfl e126x rfl rfl ?_
  refine wq_gos (f := 1) (pc2 := 11) (ls2 := [(0, .ref 162)]) (st2 := [.int 0, .int 0, .ref 212]) (h2 := h125x) (dc2 := 0) (ds2 := 0) 2 rfl ?_
  have e129x := (f127x.2 _ _ (wnc (by decide) wn0) (f120x.2 _ _ (wnc (by decide) wn0) (f110x.2 _ _ (wnc (by decide) wn0) (f99x.2 _ _ (wnc (by decide) wn0) (f89x.2 _ _ (wnc (by decide) wn0) (f78x.2 _ _ (wnc (by decide) wn0) (f68x.2 _ _ (wnc (by decide) wn0) (f57x.2 _ _ (wnc (by decide) wn0) (f47x.2 _ _ (wnc (by decide) wn0) (f36x.2 _ _ (wnc (by decide) wn0) (f26x.2 _ _ (wnc (by decide) wn0) (f15x.2 _ _ (wnc (by decide) wn0) (f5x.2 _ _ (wnc (by decide) wn0) hR)))))))))))))
  refine wq_bastz rfl e129x rfl rfl ?_
  intro h130x e131x f132x l133x
  have e131x : zat h130x 212 = some (.inl (2, 2, (zset 0 hr 0 (vp_nar .boolean (0 : Int32))))) := e131x
  obtain ⟨g134x, u135x⟩ : ∃ x, x = (zset 0 hr 0 (vp_nar .boolean (0 : Int32))) := ⟨_, rfl⟩
  rw [← u135x] at e131x
  refine wq_gos (f := 1) (pc2 := 13) (ls2 := [(0, .ref 162)]) (st2 := [.ref 162]) (h2 := h130x) (dc2 := 0) (ds2 := 0) 1 rfl ?_
  have e136x := (f132x.2 _ _ (wnc (by decide) wn0) e126x)
  refine wq_getf rfl e136x rfl rfl ?_
  refine wq_gos (f := 1) (pc2 := 18) (ls2 := [(0, .ref 162)]) (st2 := [.int 0, .int 1, .ref 212]) (h2 := h130x) (dc2 := 0) (ds2 := 0) 2 rfl ?_
  refine wq_bastz rfl e131x rfl rfl ?_
  intro h137x e138x f139x l140x
  have e138x : zat h137x 212 = some (.inl (2, 2, (zset 0 g134x 1 (vp_nar .boolean (0 : Int32))))) := e138x
  obtain ⟨g141x, u142x⟩ : ∃ x, x = (zset 0 g134x 1 (vp_nar .boolean (0 : Int32))) := ⟨_, rfl⟩
  rw [← u142x] at e138x
  refine wq_ret rfl rfl ?_
  show wq 190 55 [(2, .int 6), (0, .ref 162), (1, .int (nI k))] [] h137x 0 0 _
  have e143x := (f139x.2 _ _ (wnc (by decide) wn0) e136x)
  have e144x := (f139x.2 _ _ (wnc (by decide) wn0) (f132x.2 _ _ (wnc (by decide) wn0) (f127x.2 _ _ (wnc (by decide) wn0) (f120x.2 _ _ (wnc (by decide) wn0) e109x))))
  have e145x := (f139x.2 _ _ (wnc (by decide) wn0) (f132x.2 _ _ (wnc (by decide) wn0) (f127x.2 _ _ (wnc (by decide) wn0) e119x)))
  exact wq_ret rfl rfl ⟨h137x, rfl, (wFr_tr (wFr_sub f5x (by simp)) (wFr_tr (wFr_sub f15x (by simp)) (wFr_tr (wFr_sub f26x (by simp)) (wFr_tr (wFr_sub f36x (by simp)) (wFr_tr (wFr_sub f47x (by simp)) (wFr_tr (wFr_sub f57x (by simp)) (wFr_tr (wFr_sub f68x (by simp)) (wFr_tr (wFr_sub f78x (by simp)) (wFr_tr (wFr_sub f89x (by simp)) (wFr_tr (wFr_sub f99x (by simp)) (wFr_tr (wFr_sub f110x (by simp)) (wFr_tr (wFr_sub f120x (by simp)) (wFr_tr (wFr_sub f127x (by simp)) (wFr_tr (wFr_sub f132x (by simp)) (wFr_sub f139x (by simp)))))))))))))))), (by omega), e143x, (by rw [show (kNow nw kp k) = g112x from (by unfold kNow; rw [u113x, u92x, u71x, u50x, u29x, u8x])]; exact e144x), (by rw [show (kAim am kp k) = g122x from (by unfold kAim; rw [u123x, u102x, u81x, u60x, u39x, u18x])]; exact e145x), (by rw [show (mvd hr) = g141x from (by unfold mvd; rw [u142x, u135x])]; exact e138x)⟩
set_option maxRecDepth 100000 in
set_option maxHeartbeats 4000000 in
theorem m_undoN {h : zH} {n0 n2 n14 n15 n16 n17 n18 n19 n20 n21 n22 n23 n28 n32 n33 n34 n35 n39 n52 : Int32} {u : Nat} (hM : zat h 162 = some (.inr (.inr (.inr (10, mO n0 n2 n14 n15 n16 n17 n18 n19 n20 n21 n22 n23 (nI u) n28 n32 n33 n34 n35 n39 n52))))) (hu : u = 0) : wq 192 0 [(0, .ref 162)] [] h 0 0 (fun rr9 => ∃ (h2 : zH), rr9 = (some (.int (-1)), h2, 0, 0) ∧ wFr [162] h h2 ∧ h2.length = h.length ∧ zat h2 162 = some (.inr (.inr (.inr (10, mO (0 : Int32) n2 n14 n15 n16 n17 n18 n19 n20 n21 n22 n23 (nI u) n28 n32 n33 n34 n35 n39 n52))))) := by
  refine wq_gos (f := 1) (pc2 := 2) (ls2 := [(0, .ref 162)]) (st2 := [.int 0, .ref 162]) (h2 := h) (dc2 := 0) (ds2 := 0) 2 rfl ?_
  refine wq_putf rfl hM rfl rfl rfl ?_
  intro h1x e2x f3x l4x
  have e2x : zat h1x 162 = some (.inr (.inr (.inr (10, mO (0 : Int32) n2 n14 n15 n16 n17 n18 n19 n20 n21 n22 n23 (nI u) n28 n32 n33 n34 n35 n39 n52)))) := e2x
  refine wq_gos (f := 1) (pc2 := 6) (ls2 := [(0, .ref 162)]) (st2 := [.ref 162]) (h2 := h1x) (dc2 := 0) (ds2 := 0) 1 rfl ?_
  refine wq_getf rfl e2x rfl rfl ?_
  try have q5x := nI_toInt (n := u) (by omega)
  refine wq_ne0f rfl rfl (by rw [hu]; rfl) ?_
  refine wq_gos (f := 1) (pc2 := 13) (ls2 := [(0, .ref 162)]) (st2 := [.int (-1)]) (h2 := h1x) (dc2 := 0) (ds2 := 0) 1 rfl ?_
  exact wq_ret rfl rfl ⟨h1x, rfl, (wFr_sub f3x (by simp)), (by omega), e2x⟩
set_option maxRecDepth 100000 in
set_option maxHeartbeats 4000000 in
theorem m_undo {h : zH} {n0 n2 n14 n15 n16 n17 n18 n19 n20 n21 n22 n23 n28 n32 n33 n34 n35 n39 n52 : Int32} {u : Nat} {nw am kp hr : List Int32} (hM : zat h 162 = some (.inr (.inr (.inr (10, mO n0 n2 n14 n15 n16 n17 n18 n19 n20 n21 n22 n23 (nI u) n28 n32 n33 n34 n35 n39 n52))))) (hN : zat h 188 = some (.inl (0, 6, nw))) (hA : zat h 190 = some (.inl (0, 6, am))) (hK : zat h 192 = some (.inl (0, 252, kp))) (hR : zat h 212 = some (.inl (2, 2, hr))) (hu : 1 ≤ u ∧ u ≤ 20) : wq 192 0 [(0, .ref 162)] [] h 0 0 (fun rr9 => ∃ (h2 : zH), rr9 = (some (.int (nI (u - 1))), h2, 0, 0) ∧ wFr [162, 188, 190, 212] h h2 ∧ h2.length = h.length ∧ zat h2 162 = some (.inr (.inr (.inr (10, mO (0 : Int32) n2 n14 n15 n16 n17 n18 n19 n20 n21 n22 n23 (nI (u - 1)) n28 n32 (0 : Int32) n34 n35 n39 n52)))) ∧ zat h2 188 = some (.inl (0, 6, (kNow nw kp (u - 1)))) ∧ zat h2 190 = some (.inl (0, 6, (kAim am kp (u - 1)))) ∧ zat h2 212 = some (.inl (2, 2, (mvd hr)))) := by
  have qnu := nI_toInt (n := u) (by omega)
  refine wq_gos (f := 1) (pc2 := 2) (ls2 := [(0, .ref 162)]) (st2 := [.int 0, .ref 162]) (h2 := h) (dc2 := 0) (ds2 := 0) 2 rfl ?_
  refine wq_putf rfl hM rfl rfl rfl ?_
  intro h1x e2x f3x l4x
  have e2x : zat h1x 162 = some (.inr (.inr (.inr (10, mO (0 : Int32) n2 n14 n15 n16 n17 n18 n19 n20 n21 n22 n23 (nI u) n28 n32 n33 n34 n35 n39 n52)))) := e2x
  refine wq_gos (f := 1) (pc2 := 6) (ls2 := [(0, .ref 162)]) (st2 := [.ref 162]) (h2 := h1x) (dc2 := 0) (ds2 := 0) 1 rfl ?_
  refine wq_getf rfl e2x rfl rfl ?_
  try have q5x := nI_toInt (n := u) (by omega)
  refine wq_ne0t rfl (fun q => by have q9 := congrArg Int32.toInt q; have q8 : (0 : Int32).toInt = 0 := rfl; omega) ?_
  refine wq_gos (f := 1) (pc2 := 16) (ls2 := [(0, .ref 162)]) (st2 := [.ref 162, .ref 162]) (h2 := h1x) (dc2 := 0) (ds2 := 0) 2 rfl ?_
  refine wq_getf rfl e2x rfl rfl ?_
  refine wq_gos (f := 1) (pc2 := 21) (ls2 := [(0, .ref 162)]) (st2 := [.int ((nI u) - (1 : Int32)), .ref 162]) (h2 := h1x) (dc2 := 0) (ds2 := 0) 2 rfl ?_
  refine wq_vi (nI_predn (a := u) (by omega)) ?_
  refine wq_putf rfl e2x rfl rfl rfl ?_
  intro h6x e7x f8x l9x
  have e7x : zat h6x 162 = some (.inr (.inr (.inr (10, mO (0 : Int32) n2 n14 n15 n16 n17 n18 n19 n20 n21 n22 n23 (nI (u - 1)) n28 n32 n33 n34 n35 n39 n52)))) := e7x
  refine wq_gos (f := 1) (pc2 := 26) (ls2 := [(0, .ref 162)]) (st2 := [.ref 162, .ref 162]) (h2 := h6x) (dc2 := 0) (ds2 := 0) 2 rfl ?_
  refine wq_getf rfl e7x rfl rfl ?_
  have e10x := (f8x.2 _ _ (wnc (by decide) wn0) (f3x.2 _ _ (wnc (by decide) wn0) hN))
  have e11x := (f8x.2 _ _ (wnc (by decide) wn0) (f3x.2 _ _ (wnc (by decide) wn0) hA))
  have e12x := (f8x.2 _ _ (wnc (by decide) wn0) (f3x.2 _ _ (wnc (by decide) wn0) hK))
  have e13x := (f8x.2 _ _ (wnc (by decide) wn0) (f3x.2 _ _ (wnc (by decide) wn0) hR))
  try have q14x := nI_toInt (n := (u - 1)) (by omega)
  refine wq_inlv (y2 := 190) (as := [.int (nI (u - 1))]) rfl rfl rfl e7x rfl (wq_mono (m_laysB e7x e10x e11x e12x e13x (by first | omega | assumption | decide)) ?_)
  rintro _ ⟨h815x, rfl, f815x, l815x, c015x, c115x, c215x, c315x⟩
  show wq 192 32 [(0, .ref 162)] [] h815x 0 0 _
  refine wq_gos (f := 1) (pc2 := 33) (ls2 := [(0, .ref 162)]) (st2 := [.ref 162]) (h2 := h815x) (dc2 := 0) (ds2 := 0) 1 rfl ?_
  refine wq_getf rfl c015x rfl rfl ?_
  exact wq_ret rfl rfl ⟨h815x, rfl, (wFr_tr (wFr_sub f3x (by simp)) (wFr_tr (wFr_sub f8x (by simp)) (wFr_sub f815x (by simp)))), (by omega), (by rw [show (.inr (.inr (.inr (10, mO (0 : Int32) n2 n14 n15 n16 n17 n18 n19 n20 n21 n22 n23 (nI (u - 1)) n28 n32 (0 : Int32) n34 n35 n39 n52))) : zE) = .inr (.inr (.inr (10, mO (0 : Int32) n2 n14 n15 n16 n17 n18 n19 n20 n21 n22 n23 (nI (u - 1)) n28 n32 (0 : Int32) n34 n35 n39 n52))) from rfl]; exact c015x), c115x, c215x, c315x⟩
set_option maxRecDepth 100000 in
set_option maxHeartbeats 4000000 in
theorem m_backN {h : zH} {n0 n2 n14 n15 n16 n17 n18 n19 n20 n21 n22 n23 n27 n28 n32 n33 n34 n35 n39 n52 : Int32} (hM : zat h 162 = some (.inr (.inr (.inr (10, mO n0 n2 n14 n15 n16 n17 n18 n19 n20 n21 n22 n23 n27 n28 n32 n33 n34 n35 n39 n52))))) (hi : n28 = 0) : wq 194 0 [(0, .ref 162)] [] h 0 0 (fun rr9 => ∃ (h2 : zH), rr9 = (some (.int 0), h2, 0, 0) ∧ wFr [162] h h2 ∧ h2.length = h.length ∧ zat h2 162 = some (.inr (.inr (.inr (10, mO (0 : Int32) n2 n14 n15 n16 n17 n18 n19 n20 n21 n22 n23 n27 n28 n32 n33 n34 n35 n39 n52))))) := by
  refine wq_gos (f := 1) (pc2 := 2) (ls2 := [(0, .ref 162)]) (st2 := [.int 0, .ref 162]) (h2 := h) (dc2 := 0) (ds2 := 0) 2 rfl ?_
  refine wq_putf rfl hM rfl rfl rfl ?_
  intro h1x e2x f3x l4x
  have e2x : zat h1x 162 = some (.inr (.inr (.inr (10, mO (0 : Int32) n2 n14 n15 n16 n17 n18 n19 n20 n21 n22 n23 n27 n28 n32 n33 n34 n35 n39 n52)))) := e2x
  refine wq_gos (f := 1) (pc2 := 6) (ls2 := [(0, .ref 162)]) (st2 := [.ref 162]) (h2 := h1x) (dc2 := 0) (ds2 := 0) 1 rfl ?_
  refine wq_getf rfl e2x rfl rfl ?_
  refine wq_ne0f rfl rfl hi ?_
  refine wq_gos (f := 1) (pc2 := 13) (ls2 := [(0, .ref 162)]) (st2 := [.int 0]) (h2 := h1x) (dc2 := 0) (ds2 := 0) 1 rfl ?_
  exact wq_ret rfl rfl ⟨h1x, rfl, (wFr_sub f3x (by simp)), (by omega), e2x⟩
set_option maxRecDepth 100000 in
set_option maxHeartbeats 4000000 in
theorem m_back {h : zH} {n0 n2 n14 n15 n16 n17 n18 n19 n20 n21 n22 n23 n27 n28 n32 n33 n34 n35 n39 n52 : Int32} {nw am kp hr : List Int32} (hM : zat h 162 = some (.inr (.inr (.inr (10, mO n0 n2 n14 n15 n16 n17 n18 n19 n20 n21 n22 n23 n27 n28 n32 n33 n34 n35 n39 n52))))) (hN : zat h 188 = some (.inl (0, 6, nw))) (hA : zat h 190 = some (.inl (0, 6, am))) (hK : zat h 192 = some (.inl (0, 252, kp))) (hR : zat h 212 = some (.inl (2, 2, hr))) (hi : n28 ≠ 0) : wq 194 0 [(0, .ref 162)] [] h 0 0 (fun rr9 => ∃ (h2 : zH), rr9 = (some (.int 1), h2, 0, 0) ∧ wFr [162, 188, 190, 212] h h2 ∧ h2.length = h.length ∧ zat h2 162 = some (.inr (.inr (.inr (10, mO (0 : Int32) n2 n14 n15 n16 n17 n18 n19 n20 n21 n22 n23 (0 : Int32) n28 n32 (0 : Int32) n34 n35 n39 n52)))) ∧ zat h2 188 = some (.inl (0, 6, (kNow nw kp 20))) ∧ zat h2 190 = some (.inl (0, 6, (kAim am kp 20))) ∧ zat h2 212 = some (.inl (2, 2, (mvd hr)))) := by
  refine wq_gos (f := 1) (pc2 := 2) (ls2 := [(0, .ref 162)]) (st2 := [.int 0, .ref 162]) (h2 := h) (dc2 := 0) (ds2 := 0) 2 rfl ?_
  refine wq_putf rfl hM rfl rfl rfl ?_
  intro h1x e2x f3x l4x
  have e2x : zat h1x 162 = some (.inr (.inr (.inr (10, mO (0 : Int32) n2 n14 n15 n16 n17 n18 n19 n20 n21 n22 n23 n27 n28 n32 n33 n34 n35 n39 n52)))) := e2x
  refine wq_gos (f := 1) (pc2 := 6) (ls2 := [(0, .ref 162)]) (st2 := [.ref 162]) (h2 := h1x) (dc2 := 0) (ds2 := 0) 1 rfl ?_
  refine wq_getf rfl e2x rfl rfl ?_
  refine wq_ne0t rfl hi ?_
  refine wq_gos (f := 1) (pc2 := 17) (ls2 := [(0, .ref 162)]) (st2 := [.int 20, .ref 162]) (h2 := h1x) (dc2 := 0) (ds2 := 0) 2 rfl ?_
  have e5x := (f3x.2 _ _ (wnc (by decide) wn0) hN)
  have e6x := (f3x.2 _ _ (wnc (by decide) wn0) hA)
  have e7x := (f3x.2 _ _ (wnc (by decide) wn0) hK)
  have e8x := (f3x.2 _ _ (wnc (by decide) wn0) hR)
  have q9x : (20 : Int32).toInt = 20 := rfl
  refine wq_inlv (y2 := 190) (as := [.int 20]) rfl rfl rfl e2x rfl (wq_mono (m_laysB e2x e5x e6x e7x e8x (by first | omega | assumption | decide)) ?_)
  rintro _ ⟨h810x, rfl, f810x, l810x, c010x, c110x, c210x, c310x⟩
  show wq 194 20 [(0, .ref 162)] [] h810x 0 0 _
  refine wq_gos (f := 1) (pc2 := 22) (ls2 := [(0, .ref 162)]) (st2 := [.int 0, .ref 162]) (h2 := h810x) (dc2 := 0) (ds2 := 0) 2 rfl ?_
  refine wq_putf rfl c010x rfl rfl rfl ?_
  intro h11x e12x f13x l14x
  have e12x : zat h11x 162 = some (.inr (.inr (.inr (10, mO (0 : Int32) n2 n14 n15 n16 n17 n18 n19 n20 n21 n22 n23 (0 : Int32) n28 n32 (0 : Int32) n34 n35 n39 n52)))) := e12x
  refine wq_gos (f := 1) (pc2 := 26) (ls2 := [(0, .ref 162)]) (st2 := [.int 1]) (h2 := h11x) (dc2 := 0) (ds2 := 0) 1 rfl ?_
  have e15x := (f13x.2 _ _ (wnc (by decide) wn0) c110x)
  have e16x := (f13x.2 _ _ (wnc (by decide) wn0) c210x)
  have e17x := (f13x.2 _ _ (wnc (by decide) wn0) c310x)
  exact wq_ret rfl rfl ⟨h11x, rfl, (wFr_tr (wFr_sub f3x (by simp)) (wFr_tr (wFr_sub f810x (by simp)) (wFr_sub f13x (by simp)))), (by omega), (by rw [show (.inr (.inr (.inr (10, mO (0 : Int32) n2 n14 n15 n16 n17 n18 n19 n20 n21 n22 n23 (0 : Int32) n28 n32 (0 : Int32) n34 n35 n39 n52))) : zE) = .inr (.inr (.inr (10, mO (0 : Int32) n2 n14 n15 n16 n17 n18 n19 n20 n21 n22 n23 (0 : Int32) n28 n32 (0 : Int32) n34 n35 n39 n52))) from rfl]; exact e12x), e15x, e16x, e17x⟩
