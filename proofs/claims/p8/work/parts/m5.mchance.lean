/-! The reference: chance at the state. -/
theorem drw_ne {lo hi : List Int32} (h : wLm lo hi) {j : Nat} (hj : j < 6) : hi.getD j 0 - lo.getD j 0 + 1 ≠ 0 := fun e => by
  have a := h j hj
  have z : ∀ j, j < 6 → -64 ≤ (zLow.getD j 0).toInt ∧ (zHigh.getD j 0).toInt ≤ 99 := by decide
  have z2 := z j hj
  have e2 : (hi.getD j 0 - lo.getD j 0 + 1).toInt = 0 := by rw [e]; rfl
  rw [Int32.toInt_add, Int32.toInt_sub, show (1 : Int32).toInt = 1 from rfl] at e2
  rw [Int.bmod_eq_of_le (n := (hi.getD j 0).toInt - (lo.getD j 0).toInt) (by omega) (by omega), Int.bmod_eq_of_le (by omega) (by omega)] at e2
  omega
theorem mNum_le {F : Nat → Int64} {o : Nat} {s : mS} {fo : List Int64} (h : wFe F o s fo) : (mNum s).toInt ≤ 600 := by
  rcases s with _ | l
  · show (-3 : Int32).toInt ≤ 600; decide
  · have e : (mNum (some l)).toInt = (l.length : Int) := nI_toInt (by have := h.1.1; omega)
    have := h.1.1
    omega
noncomputable def mDrw (n52 b : Int32) : Int32 × Int32 := ((((((n52 * (1103515245 : Int32)) + (12345 : Int32)) &&& (2147483647 : Int32)) >>> ((16 : Int32) &&& 31)) - ((((n52 * (1103515245 : Int32)) + (12345 : Int32)) &&& (2147483647 : Int32)) >>> ((16 : Int32) &&& 31)) / b * b), (((n52 * (1103515245 : Int32)) + (12345 : Int32)) &&& (2147483647 : Int32)))
set_option maxRecDepth 100000 in
set_option maxHeartbeats 4000000 in
theorem m_drw {h : zH} {n0 n2 n14 n15 n16 n17 n18 n19 n20 n21 n22 n23 n27 n28 n32 n33 n34 n35 n39 n52 : Int32} {b : Int32} (hM : zat h 162 = some (.inr (.inr (.inr (10, mO n0 n2 n14 n15 n16 n17 n18 n19 n20 n21 n22 n23 n27 n28 n32 n33 n34 n35 n39 n52))))) (hb : b ≠ 0) : wq 278 0 [(0, .ref 162), (1, .int b)] [] h 0 0 (fun rr9 => ∃ (h2 : zH), rr9 = (some (.int ((mDrw n52 b).1)), h2, 0, 0) ∧ wFr [162] h h2 ∧ h2.length = h.length ∧ zat h2 162 = some (.inr (.inr (.inr (10, mO n0 n2 n14 n15 n16 n17 n18 n19 n20 n21 n22 n23 n27 n28 n32 n33 n34 n35 n39 ((mDrw n52 b).2)))))) := by
  refine wq_gos (f := 1) (pc2 := 2) (ls2 := [(0, .ref 162), (1, .int b)]) (st2 := [.ref 162, .ref 162]) (h2 := h) (dc2 := 0) (ds2 := 0) 2 rfl ?_
  refine wq_getf rfl hM rfl rfl ?_
  refine wq_gos (f := 1) (pc2 := 17) (ls2 := [(0, .ref 162), (1, .int b)]) (st2 := [.int (((n52 * (1103515245 : Int32)) + (12345 : Int32)) &&& (2147483647 : Int32)), .ref 162]) (h2 := h) (dc2 := 0) (ds2 := 0) 6 rfl ?_
  refine wq_putf rfl hM rfl rfl rfl ?_
  intro hh1x e2x ff3x lh4x
  have e2x : zat hh1x 162 = some (.inr (.inr (.inr (10, mO n0 n2 n14 n15 n16 n17 n18 n19 n20 n21 n22 n23 n27 n28 n32 n33 n34 n35 n39 (((n52 * (1103515245 : Int32)) + (12345 : Int32)) &&& (2147483647 : Int32)))))) := e2x
  refine wq_gos (f := 1) (pc2 := 21) (ls2 := [(0, .ref 162), (1, .int b)]) (st2 := [.ref 162]) (h2 := hh1x) (dc2 := 0) (ds2 := 0) 1 rfl ?_
  refine wq_getf rfl e2x rfl rfl ?_
  refine wq_gos (f := 1) (pc2 := 28) (ls2 := [(0, .ref 162), (1, .int b)]) (st2 := [.int b, .int ((((n52 * (1103515245 : Int32)) + (12345 : Int32)) &&& (2147483647 : Int32)) >>> ((16 : Int32) &&& 31))]) (h2 := hh1x) (dc2 := 0) (ds2 := 0) 3 rfl ?_
  refine wq_irem rfl (by assumption) ?_
  have hx : (mDrw n52 b) = ((((((n52 * (1103515245 : Int32)) + (12345 : Int32)) &&& (2147483647 : Int32)) >>> ((16 : Int32) &&& 31)) - ((((n52 * (1103515245 : Int32)) + (12345 : Int32)) &&& (2147483647 : Int32)) >>> ((16 : Int32) &&& 31)) / b * b), (((n52 * (1103515245 : Int32)) + (12345 : Int32)) &&& (2147483647 : Int32))) := by unfold mDrw; rfl
  rw [hx]
  exact wq_ret rfl rfl ⟨hh1x, rfl, (wFr_sub ff3x (by simp)), by omega, e2x⟩
theorem m_amL {h : zH} {Q : zR → Prop} {n0 n2 n14 n15 n16 n17 n18 n19 n20 n21 n22 n23 n27 n28 n32 n33 n34 n35 n39 n52 : Int32} {fo : List Int64} {x : Int64} (hM : zat h 162 = some (.inr (.inr (.inr (10, mO n0 n2 n14 n15 n16 n17 n18 n19 n20 n21 n22 n23 n27 n28 n32 n33 n34 n35 n39 n52))))) (hF : zat h 196 = some (.inr (.inl (6000, fo)))) (h6 : n34.toInt ≤ 600) (k0 : Q (some (.int 0), h, 0, 0)) (k1 : Q (some (.int 1), h, 0, 0)) : ∀ (m k : Nat), k ≤ 600 → 600 - k < m → wq 279 8 [(0, .ref 162), (1, .ref 230), (2, .long x), (4, .int (nI k))] [] h 0 0 Q
  | 0, k, _, hm => absurd hm (Nat.not_lt_zero _)
  | m + 1, k, hk, hm => by
    have q1 := nI_toInt (n := k) (by omega)
    refine wq_gos (f := 1) (pc2 := 11) (ls2 := [(0, .ref 162), (1, .ref 230), (2, .long x), (4, .int (nI k))]) (st2 := [.ref 162, .int (nI k)]) (h2 := h) (dc2 := 0) (ds2 := 0) 2 rfl ?_
    refine wq_getf rfl hM rfl rfl ?_
    refine wq_ge2 rfl rfl (fun b0x => ?_) (fun b0x => ?_)
    · refine wq_gos (f := 1) (pc2 := 42) (ls2 := [(0, .ref 162), (1, .ref 230), (2, .long x), (4, .int (nI k))]) (st2 := [.int 0]) (h2 := h) (dc2 := 0) (ds2 := 0) 1 rfl ?_
      exact wq_ret rfl rfl k0
    · refine wq_gos (f := 1) (pc2 := 18) (ls2 := [(0, .ref 162), (1, .ref 230), (2, .long x), (4, .int (nI k))]) (st2 := [.ref 162]) (h2 := h) (dc2 := 0) (ds2 := 0) 1 rfl ?_
      refine wq_getf rfl hM rfl rfl ?_
      refine wq_gos (f := 1) (pc2 := 27) (ls2 := [(0, .ref 162), (1, .ref 230), (2, .long x), (4, .int (nI k))]) (st2 := [.int ((5400 : Int32) + (nI k)), .ref 196]) (h2 := h) (dc2 := 0) (ds2 := 0) 3 rfl ?_
      refine wq_vi (show (5400 : Int32) + nI k = nI (5400 + k) from nI_add 5400 k) ?_
      refine wq_laldn rfl hF (by omega) (by decide) rfl ?_
      refine wq_gos (f := 1) (pc2 := 30) (ls2 := [(0, .ref 162), (1, .ref 230), (2, .long x), (4, .int (nI k))]) (st2 := [.int (lg_cmp (fo.getD (5400 + k) 0) x)]) (h2 := h) (dc2 := 0) (ds2 := 0) 2 rfl ?_
      refine wq_ne0 rfl rfl (fun b1x => ?_) (fun b1x => ?_)
      · refine wq_gos (f := 1) (pc2 := 38) (ls2 := [(4, .int ((nI k) + 1)), (0, .ref 162), (1, .ref 230), (2, .long x)]) (st2 := []) (h2 := h) (dc2 := 0) (ds2 := 0) 1 rfl ?_
        rw [nI_1]
        refine wq_gos (f := 1) (pc2 := 8) (ls2 := [(4, .int (nI (k + 1))), (0, .ref 162), (1, .ref 230), (2, .long x)]) (st2 := []) (h2 := h) (dc2 := 0) (ds2 := 0) 1 rfl ?_
        refine wq_ls [(0, .ref 162), (1, .ref 230), (2, .long x), (4, .int (nI (k + 1)))] (show ([0, 1, 2, 4] : List Nat).Nodup by decide) ⟨rfl, rfl, rfl, rfl, trivial⟩ ?_
        exact m_amL hM hF h6 k0 k1 m (k + 1) (by omega) (by omega)
      · refine wq_gos (f := 1) (pc2 := 34) (ls2 := [(0, .ref 162), (1, .ref 230), (2, .long x), (4, .int (nI k))]) (st2 := [.int 1]) (h2 := h) (dc2 := 0) (ds2 := 0) 1 rfl ?_
        exact wq_ret rfl rfl k1
theorem m_am {h : zH} {Q : zR → Prop} {n0 n2 n14 n15 n16 n17 n18 n19 n20 n21 n22 n23 n27 n28 n32 n33 n34 n35 n39 n52 : Int32} {fo : List Int64} {dq : List Int32} (hM : zat h 162 = some (.inr (.inr (.inr (10, mO n0 n2 n14 n15 n16 n17 n18 n19 n20 n21 n22 n23 n27 n28 n32 n33 n34 n35 n39 n52))))) (hFo : zat h 196 = some (.inr (.inl (6000, fo)))) (hDq : zat h 230 = some (.inl (0, 6, dq))) (h6 : n34.toInt ≤ 600) (k0 : Q (some (.int 0), h, 0, 0)) (k1 : Q (some (.int 1), h, 0, 0)) : wq 279 0 [(0, .ref 162), (1, .ref 230)] [] h 0 0 Q := by
  have hpk := m_packed hDq
  refine wq_gos (f := 1) (pc2 := 1) (ls2 := [(0, .ref 162), (1, .ref 230)]) (st2 := [.ref 230]) (h2 := h) (dc2 := 0) (ds2 := 0) 1 rfl ?_
  refine wq_inl (y2 := 219) (as := [.ref 230]) rfl rfl rfl (wq_T hpk ?_)
  show wq 279 4 [(0, .ref 162), (1, .ref 230)] [.long (jpack (dq.getD 0 0) (dq.getD 1 0) (dq.getD 2 0) (dq.getD 3 0) (dq.getD 4 0) (dq.getD 5 0))] h 0 0 _
  refine wq_gos (f := 1) (pc2 := 8) (ls2 := [(4, .int 0), (2, .long (jpack (dq.getD 0 0) (dq.getD 1 0) (dq.getD 2 0) (dq.getD 3 0) (dq.getD 4 0) (dq.getD 5 0))), (0, .ref 162), (1, .ref 230)]) (st2 := []) (h2 := h) (dc2 := 0) (ds2 := 0) 3 rfl ?_
  refine wq_ls [(0, .ref 162), (1, .ref 230), (2, .long (jpack (dq.getD 0 0) (dq.getD 1 0) (dq.getD 2 0) (dq.getD 3 0) (dq.getD 4 0) (dq.getD 5 0))), (4, .int (nI 0))] (show ([0, 1, 2, 4] : List Nat).Nodup by decide) ⟨rfl, rfl, rfl, rfl, trivial⟩ ?_
  exact m_amL hM hFo h6 k0 k1 601 0 (by decide) (by decide)
set_option maxRecDepth 100000 in
set_option maxHeartbeats 4000000 in
theorem m_chA {h : zH} {Q : zR → Prop} {n0 n2 n14 n15 n16 n17 n18 n19 n20 n21 n22 n23 n27 n28 n32 n33 n34 n35 n39 n52 : Int32} {kn lo hi dq th sg : List Int32} {sd w su : Int32} {N i : Nat} (hM : zat h 162 = some (.inr (.inr (.inr (10, mO n0 n2 n14 n15 n16 n17 n18 n19 n20 n21 n22 n23 n27 n28 n32 n33 n34 n35 n39 n52))))) (hKn : zat h 166 = some (.inl (0, 14, kn))) (hLo : zat h 168 = some (.inl (0, 12, lo))) (hHi : zat h 170 = some (.inl (0, 12, hi))) (hDq : zat h 230 = some (.inl (0, 6, dq))) (hTh : zat h 194 = some (.inl (0, 6, th))) (hSg : zat h 222 = some (.inl (0, 6, sg))) (hlm : wLm lo hi) (kE : ∀ (h2 : zH) (m52 : Int32) (dq2 : List Int32) (th2 : List Int32) (sg2 : List Int32), (wFr [162, 230, 194, 222] h h2) → (h2.length = h.length) → (zat h2 162 = some (.inr (.inr (.inr (10, mO n0 n2 n14 n15 n16 n17 n18 n19 n20 n21 n22 n23 n27 n28 n32 n33 n34 n35 n39 m52))))) → (zat h2 230 = some (.inl (0, 6, dq2))) → (zat h2 194 = some (.inl (0, 6, th2))) → (zat h2 222 = some (.inl (0, 6, sg2))) → wq 280 154 [(0, .ref 162), (1, .int sd), (2, .int (nI N)), (3, .int w), (4, .int su), (5, .int (nI i))] [] h2 0 0 Q) : wq 280 63 [(0, .ref 162), (1, .int sd), (2, .int (nI N)), (3, .int w), (4, .int su), (5, .int (nI i))] [] h 0 0 Q := by
  refine wq_gos (f := 1) (pc2 := 74) (ls2 := [(6, .int 0), (0, .ref 162), (1, .int sd), (2, .int (nI N)), (3, .int w), (4, .int su), (5, .int (nI i))]) (st2 := [.ref 162]) (h2 := h) (dc2 := 0) (ds2 := 0) 6 rfl ?_
  refine wq_getf rfl hM rfl rfl ?_
  refine wq_gos (f := 1) (pc2 := 80) (ls2 := [(6, .int 0), (0, .ref 162), (1, .int sd), (2, .int (nI N)), (3, .int w), (4, .int su), (5, .int (nI i))]) (st2 := [.ref 162, .int 0, .ref 230]) (h2 := h) (dc2 := 0) (ds2 := 0) 2 rfl ?_
  refine wq_getf rfl hM rfl rfl ?_
  refine wq_gos (f := 1) (pc2 := 85) (ls2 := [(6, .int 0), (0, .ref 162), (1, .int sd), (2, .int (nI N)), (3, .int w), (4, .int su), (5, .int (nI i))]) (st2 := [.int 0, .ref 168, .int 0, .ref 230]) (h2 := h) (dc2 := 0) (ds2 := 0) 1 rfl ?_
  have q1x : (0 : Int32).toInt = 0 := rfl
  refine wq_iald rfl hLo rfl rfl ?_
  refine wq_gos (f := 1) (pc2 := 88) (ls2 := [(6, .int 0), (0, .ref 162), (1, .int sd), (2, .int (nI N)), (3, .int w), (4, .int su), (5, .int (nI i))]) (st2 := [.ref 162, .ref 162, .int (lo.getD 0 0), .int 0, .ref 230]) (h2 := h) (dc2 := 0) (ds2 := 0) 2 rfl ?_
  refine wq_getf rfl hM rfl rfl ?_
  refine wq_gos (f := 1) (pc2 := 93) (ls2 := [(6, .int 0), (0, .ref 162), (1, .int sd), (2, .int (nI N)), (3, .int w), (4, .int su), (5, .int (nI i))]) (st2 := [.int 0, .ref 170, .ref 162, .int (lo.getD 0 0), .int 0, .ref 230]) (h2 := h) (dc2 := 0) (ds2 := 0) 1 rfl ?_
  refine wq_iald rfl hHi rfl rfl ?_
  refine wq_gos (f := 1) (pc2 := 95) (ls2 := [(6, .int 0), (0, .ref 162), (1, .int sd), (2, .int (nI N)), (3, .int w), (4, .int su), (5, .int (nI i))]) (st2 := [.ref 162, .int (hi.getD 0 0), .ref 162, .int (lo.getD 0 0), .int 0, .ref 230]) (h2 := h) (dc2 := 0) (ds2 := 0) 1 rfl ?_
  refine wq_getf rfl hM rfl rfl ?_
  refine wq_gos (f := 1) (pc2 := 100) (ls2 := [(6, .int 0), (0, .ref 162), (1, .int sd), (2, .int (nI N)), (3, .int w), (4, .int su), (5, .int (nI i))]) (st2 := [.int 0, .ref 168, .int (hi.getD 0 0), .ref 162, .int (lo.getD 0 0), .int 0, .ref 230]) (h2 := h) (dc2 := 0) (ds2 := 0) 1 rfl ?_
  refine wq_iald rfl hLo rfl rfl ?_
  refine wq_gos (f := 1) (pc2 := 104) (ls2 := [(6, .int 0), (0, .ref 162), (1, .int sd), (2, .int (nI N)), (3, .int w), (4, .int su), (5, .int (nI i))]) (st2 := [.int (((hi.getD 0 0) - (lo.getD 0 0)) + (1 : Int32)), .ref 162, .int (lo.getD 0 0), .int 0, .ref 230]) (h2 := h) (dc2 := 0) (ds2 := 0) 3 rfl ?_
  try have q2x : (((hi.getD 0 0) - (lo.getD 0 0))).toInt = (hi.getD 0 0).toInt - (lo.getD 0 0).toInt := e_sub (by omega) (by omega)
  have q3x : (1 : Int32).toInt = 1 := rfl
  try have q4x : ((((hi.getD 0 0) - (lo.getD 0 0)) + (1 : Int32))).toInt = ((hi.getD 0 0) - (lo.getD 0 0)).toInt + (1 : Int32).toInt := e_add (by omega) (by omega)
  refine wq_inlv (y2 := 278) (as := [.int (((hi.getD 0 0) - (lo.getD 0 0)) + (1 : Int32))]) rfl rfl rfl hM rfl (wq_mono (m_drw hM (drw_ne hlm (by decide))) ?_)
  rintro _ ⟨h85x, rfl, f85x, l85x, c05x⟩
  show wq 280 107 [(6, .int 0), (0, .ref 162), (1, .int sd), (2, .int (nI N)), (3, .int w), (4, .int su), (5, .int (nI i))] [.int ((mDrw n52 (((hi.getD 0 0) - (lo.getD 0 0)) + (1 : Int32))).1), .int (lo.getD 0 0), .int 0, .ref 230] h85x 0 0 _
  obtain ⟨v6x, hv7x⟩ : ∃ x, x = (mDrw n52 (((hi.getD 0 0) - (lo.getD 0 0)) + (1 : Int32))) := ⟨_, rfl⟩
  try rw [← hv7x] at c05x
  try rw [← hv7x]
  refine wq_gos (f := 1) (pc2 := 108) (ls2 := [(6, .int 0), (0, .ref 162), (1, .int sd), (2, .int (nI N)), (3, .int w), (4, .int su), (5, .int (nI i))]) (st2 := [.int ((lo.getD 0 0) + (v6x.1)), .int 0, .ref 230]) (h2 := h85x) (dc2 := 0) (ds2 := 0) 1 rfl ?_
  have e8x := (f85x.2 _ _ (wnc (by decide) wn0) hDq)
  refine wq_iast rfl e8x rfl rfl ?_
  intro hh9x e10x ff11x lh12x
  have e10x : zat hh9x 230 = some (.inl (0, 6, (zset 0 dq 0 ((lo.getD 0 0) + (v6x.1))))) := e10x
  refine wq_gos (f := 1) (pc2 := 74) (ls2 := [(6, .int 1), (0, .ref 162), (1, .int sd), (2, .int (nI N)), (3, .int w), (4, .int su), (5, .int (nI i))]) (st2 := [.ref 162]) (h2 := hh9x) (dc2 := 0) (ds2 := 0) 6 rfl ?_
  have e13x := (ff11x.2 _ _ (wnc (by decide) wn0) c05x)
  refine wq_getf rfl e13x rfl rfl ?_
  refine wq_gos (f := 1) (pc2 := 80) (ls2 := [(6, .int 1), (0, .ref 162), (1, .int sd), (2, .int (nI N)), (3, .int w), (4, .int su), (5, .int (nI i))]) (st2 := [.ref 162, .int 1, .ref 230]) (h2 := hh9x) (dc2 := 0) (ds2 := 0) 2 rfl ?_
  refine wq_getf rfl e13x rfl rfl ?_
  refine wq_gos (f := 1) (pc2 := 85) (ls2 := [(6, .int 1), (0, .ref 162), (1, .int sd), (2, .int (nI N)), (3, .int w), (4, .int su), (5, .int (nI i))]) (st2 := [.int 1, .ref 168, .int 1, .ref 230]) (h2 := hh9x) (dc2 := 0) (ds2 := 0) 1 rfl ?_
  have e14x := (ff11x.2 _ _ (wnc (by decide) wn0) (f85x.2 _ _ (wnc (by decide) wn0) hLo))
  refine wq_iald rfl e14x rfl rfl ?_
  refine wq_gos (f := 1) (pc2 := 88) (ls2 := [(6, .int 1), (0, .ref 162), (1, .int sd), (2, .int (nI N)), (3, .int w), (4, .int su), (5, .int (nI i))]) (st2 := [.ref 162, .ref 162, .int (lo.getD 1 0), .int 1, .ref 230]) (h2 := hh9x) (dc2 := 0) (ds2 := 0) 2 rfl ?_
  refine wq_getf rfl e13x rfl rfl ?_
  refine wq_gos (f := 1) (pc2 := 93) (ls2 := [(6, .int 1), (0, .ref 162), (1, .int sd), (2, .int (nI N)), (3, .int w), (4, .int su), (5, .int (nI i))]) (st2 := [.int 1, .ref 170, .ref 162, .int (lo.getD 1 0), .int 1, .ref 230]) (h2 := hh9x) (dc2 := 0) (ds2 := 0) 1 rfl ?_
  have e15x := (ff11x.2 _ _ (wnc (by decide) wn0) (f85x.2 _ _ (wnc (by decide) wn0) hHi))
  refine wq_iald rfl e15x rfl rfl ?_
  refine wq_gos (f := 1) (pc2 := 95) (ls2 := [(6, .int 1), (0, .ref 162), (1, .int sd), (2, .int (nI N)), (3, .int w), (4, .int su), (5, .int (nI i))]) (st2 := [.ref 162, .int (hi.getD 1 0), .ref 162, .int (lo.getD 1 0), .int 1, .ref 230]) (h2 := hh9x) (dc2 := 0) (ds2 := 0) 1 rfl ?_
  refine wq_getf rfl e13x rfl rfl ?_
  refine wq_gos (f := 1) (pc2 := 100) (ls2 := [(6, .int 1), (0, .ref 162), (1, .int sd), (2, .int (nI N)), (3, .int w), (4, .int su), (5, .int (nI i))]) (st2 := [.int 1, .ref 168, .int (hi.getD 1 0), .ref 162, .int (lo.getD 1 0), .int 1, .ref 230]) (h2 := hh9x) (dc2 := 0) (ds2 := 0) 1 rfl ?_
  refine wq_iald rfl e14x rfl rfl ?_
  refine wq_gos (f := 1) (pc2 := 104) (ls2 := [(6, .int 1), (0, .ref 162), (1, .int sd), (2, .int (nI N)), (3, .int w), (4, .int su), (5, .int (nI i))]) (st2 := [.int (((hi.getD 1 0) - (lo.getD 1 0)) + (1 : Int32)), .ref 162, .int (lo.getD 1 0), .int 1, .ref 230]) (h2 := hh9x) (dc2 := 0) (ds2 := 0) 3 rfl ?_
  try have q16x : (((hi.getD 1 0) - (lo.getD 1 0))).toInt = (hi.getD 1 0).toInt - (lo.getD 1 0).toInt := e_sub (by omega) (by omega)
  try have q17x : ((((hi.getD 1 0) - (lo.getD 1 0)) + (1 : Int32))).toInt = ((hi.getD 1 0) - (lo.getD 1 0)).toInt + (1 : Int32).toInt := e_add (by omega) (by omega)
  refine wq_inlv (y2 := 278) (as := [.int (((hi.getD 1 0) - (lo.getD 1 0)) + (1 : Int32))]) rfl rfl rfl e13x rfl (wq_mono (m_drw e13x (drw_ne hlm (by decide))) ?_)
  rintro _ ⟨h818x, rfl, f818x, l818x, c018x⟩
  show wq 280 107 [(6, .int 1), (0, .ref 162), (1, .int sd), (2, .int (nI N)), (3, .int w), (4, .int su), (5, .int (nI i))] [.int ((mDrw (v6x.2) (((hi.getD 1 0) - (lo.getD 1 0)) + (1 : Int32))).1), .int (lo.getD 1 0), .int 1, .ref 230] h818x 0 0 _
  obtain ⟨v19x, hv20x⟩ : ∃ x, x = (mDrw (v6x.2) (((hi.getD 1 0) - (lo.getD 1 0)) + (1 : Int32))) := ⟨_, rfl⟩
  try rw [← hv20x] at c018x
  try rw [← hv20x]
  refine wq_gos (f := 1) (pc2 := 108) (ls2 := [(6, .int 1), (0, .ref 162), (1, .int sd), (2, .int (nI N)), (3, .int w), (4, .int su), (5, .int (nI i))]) (st2 := [.int ((lo.getD 1 0) + (v19x.1)), .int 1, .ref 230]) (h2 := h818x) (dc2 := 0) (ds2 := 0) 1 rfl ?_
  have e21x := (f818x.2 _ _ (wnc (by decide) wn0) e10x)
  refine wq_iast rfl e21x rfl rfl ?_
  intro hh22x e23x ff24x lh25x
  have e23x : zat hh22x 230 = some (.inl (0, 6, (zset 0 (zset 0 dq 0 ((lo.getD 0 0) + (v6x.1))) 1 ((lo.getD 1 0) + (v19x.1))))) := e23x
  refine wq_gos (f := 1) (pc2 := 74) (ls2 := [(6, .int 2), (0, .ref 162), (1, .int sd), (2, .int (nI N)), (3, .int w), (4, .int su), (5, .int (nI i))]) (st2 := [.ref 162]) (h2 := hh22x) (dc2 := 0) (ds2 := 0) 6 rfl ?_
  have e26x := (ff24x.2 _ _ (wnc (by decide) wn0) c018x)
  refine wq_getf rfl e26x rfl rfl ?_
  refine wq_gos (f := 1) (pc2 := 80) (ls2 := [(6, .int 2), (0, .ref 162), (1, .int sd), (2, .int (nI N)), (3, .int w), (4, .int su), (5, .int (nI i))]) (st2 := [.ref 162, .int 2, .ref 230]) (h2 := hh22x) (dc2 := 0) (ds2 := 0) 2 rfl ?_
  refine wq_getf rfl e26x rfl rfl ?_
  refine wq_gos (f := 1) (pc2 := 85) (ls2 := [(6, .int 2), (0, .ref 162), (1, .int sd), (2, .int (nI N)), (3, .int w), (4, .int su), (5, .int (nI i))]) (st2 := [.int 2, .ref 168, .int 2, .ref 230]) (h2 := hh22x) (dc2 := 0) (ds2 := 0) 1 rfl ?_
  have e27x := (ff24x.2 _ _ (wnc (by decide) wn0) (f818x.2 _ _ (wnc (by decide) wn0) e14x))
  have q28x : (2 : Int32).toInt = 2 := rfl
  refine wq_iald rfl e27x rfl rfl ?_
  refine wq_gos (f := 1) (pc2 := 88) (ls2 := [(6, .int 2), (0, .ref 162), (1, .int sd), (2, .int (nI N)), (3, .int w), (4, .int su), (5, .int (nI i))]) (st2 := [.ref 162, .ref 162, .int (lo.getD 2 0), .int 2, .ref 230]) (h2 := hh22x) (dc2 := 0) (ds2 := 0) 2 rfl ?_
  refine wq_getf rfl e26x rfl rfl ?_
  refine wq_gos (f := 1) (pc2 := 93) (ls2 := [(6, .int 2), (0, .ref 162), (1, .int sd), (2, .int (nI N)), (3, .int w), (4, .int su), (5, .int (nI i))]) (st2 := [.int 2, .ref 170, .ref 162, .int (lo.getD 2 0), .int 2, .ref 230]) (h2 := hh22x) (dc2 := 0) (ds2 := 0) 1 rfl ?_
  have e29x := (ff24x.2 _ _ (wnc (by decide) wn0) (f818x.2 _ _ (wnc (by decide) wn0) e15x))
  refine wq_iald rfl e29x rfl rfl ?_
  refine wq_gos (f := 1) (pc2 := 95) (ls2 := [(6, .int 2), (0, .ref 162), (1, .int sd), (2, .int (nI N)), (3, .int w), (4, .int su), (5, .int (nI i))]) (st2 := [.ref 162, .int (hi.getD 2 0), .ref 162, .int (lo.getD 2 0), .int 2, .ref 230]) (h2 := hh22x) (dc2 := 0) (ds2 := 0) 1 rfl ?_
  refine wq_getf rfl e26x rfl rfl ?_
  refine wq_gos (f := 1) (pc2 := 100) (ls2 := [(6, .int 2), (0, .ref 162), (1, .int sd), (2, .int (nI N)), (3, .int w), (4, .int su), (5, .int (nI i))]) (st2 := [.int 2, .ref 168, .int (hi.getD 2 0), .ref 162, .int (lo.getD 2 0), .int 2, .ref 230]) (h2 := hh22x) (dc2 := 0) (ds2 := 0) 1 rfl ?_
  refine wq_iald rfl e27x rfl rfl ?_
  refine wq_gos (f := 1) (pc2 := 104) (ls2 := [(6, .int 2), (0, .ref 162), (1, .int sd), (2, .int (nI N)), (3, .int w), (4, .int su), (5, .int (nI i))]) (st2 := [.int (((hi.getD 2 0) - (lo.getD 2 0)) + (1 : Int32)), .ref 162, .int (lo.getD 2 0), .int 2, .ref 230]) (h2 := hh22x) (dc2 := 0) (ds2 := 0) 3 rfl ?_
  try have q30x : (((hi.getD 2 0) - (lo.getD 2 0))).toInt = (hi.getD 2 0).toInt - (lo.getD 2 0).toInt := e_sub (by omega) (by omega)
  try have q31x : ((((hi.getD 2 0) - (lo.getD 2 0)) + (1 : Int32))).toInt = ((hi.getD 2 0) - (lo.getD 2 0)).toInt + (1 : Int32).toInt := e_add (by omega) (by omega)
  refine wq_inlv (y2 := 278) (as := [.int (((hi.getD 2 0) - (lo.getD 2 0)) + (1 : Int32))]) rfl rfl rfl e26x rfl (wq_mono (m_drw e26x (drw_ne hlm (by decide))) ?_)
  rintro _ ⟨h832x, rfl, f832x, l832x, c032x⟩
  show wq 280 107 [(6, .int 2), (0, .ref 162), (1, .int sd), (2, .int (nI N)), (3, .int w), (4, .int su), (5, .int (nI i))] [.int ((mDrw (v19x.2) (((hi.getD 2 0) - (lo.getD 2 0)) + (1 : Int32))).1), .int (lo.getD 2 0), .int 2, .ref 230] h832x 0 0 _
  obtain ⟨v33x, hv34x⟩ : ∃ x, x = (mDrw (v19x.2) (((hi.getD 2 0) - (lo.getD 2 0)) + (1 : Int32))) := ⟨_, rfl⟩
  try rw [← hv34x] at c032x
  try rw [← hv34x]
  refine wq_gos (f := 1) (pc2 := 108) (ls2 := [(6, .int 2), (0, .ref 162), (1, .int sd), (2, .int (nI N)), (3, .int w), (4, .int su), (5, .int (nI i))]) (st2 := [.int ((lo.getD 2 0) + (v33x.1)), .int 2, .ref 230]) (h2 := h832x) (dc2 := 0) (ds2 := 0) 1 rfl ?_
  have e35x := (f832x.2 _ _ (wnc (by decide) wn0) e23x)
  refine wq_iast rfl e35x rfl rfl ?_
  intro hh36x e37x ff38x lh39x
  have e37x : zat hh36x 230 = some (.inl (0, 6, (zset 0 (zset 0 (zset 0 dq 0 ((lo.getD 0 0) + (v6x.1))) 1 ((lo.getD 1 0) + (v19x.1))) 2 ((lo.getD 2 0) + (v33x.1))))) := e37x
  refine wq_gos (f := 1) (pc2 := 74) (ls2 := [(6, .int 3), (0, .ref 162), (1, .int sd), (2, .int (nI N)), (3, .int w), (4, .int su), (5, .int (nI i))]) (st2 := [.ref 162]) (h2 := hh36x) (dc2 := 0) (ds2 := 0) 6 rfl ?_
  have e40x := (ff38x.2 _ _ (wnc (by decide) wn0) c032x)
  refine wq_getf rfl e40x rfl rfl ?_
  refine wq_gos (f := 1) (pc2 := 80) (ls2 := [(6, .int 3), (0, .ref 162), (1, .int sd), (2, .int (nI N)), (3, .int w), (4, .int su), (5, .int (nI i))]) (st2 := [.ref 162, .int 3, .ref 230]) (h2 := hh36x) (dc2 := 0) (ds2 := 0) 2 rfl ?_
  refine wq_getf rfl e40x rfl rfl ?_
  refine wq_gos (f := 1) (pc2 := 85) (ls2 := [(6, .int 3), (0, .ref 162), (1, .int sd), (2, .int (nI N)), (3, .int w), (4, .int su), (5, .int (nI i))]) (st2 := [.int 3, .ref 168, .int 3, .ref 230]) (h2 := hh36x) (dc2 := 0) (ds2 := 0) 1 rfl ?_
  have e41x := (ff38x.2 _ _ (wnc (by decide) wn0) (f832x.2 _ _ (wnc (by decide) wn0) e27x))
  have q42x : (3 : Int32).toInt = 3 := rfl
  refine wq_iald rfl e41x rfl rfl ?_
  refine wq_gos (f := 1) (pc2 := 88) (ls2 := [(6, .int 3), (0, .ref 162), (1, .int sd), (2, .int (nI N)), (3, .int w), (4, .int su), (5, .int (nI i))]) (st2 := [.ref 162, .ref 162, .int (lo.getD 3 0), .int 3, .ref 230]) (h2 := hh36x) (dc2 := 0) (ds2 := 0) 2 rfl ?_
  refine wq_getf rfl e40x rfl rfl ?_
  refine wq_gos (f := 1) (pc2 := 93) (ls2 := [(6, .int 3), (0, .ref 162), (1, .int sd), (2, .int (nI N)), (3, .int w), (4, .int su), (5, .int (nI i))]) (st2 := [.int 3, .ref 170, .ref 162, .int (lo.getD 3 0), .int 3, .ref 230]) (h2 := hh36x) (dc2 := 0) (ds2 := 0) 1 rfl ?_
  have e43x := (ff38x.2 _ _ (wnc (by decide) wn0) (f832x.2 _ _ (wnc (by decide) wn0) e29x))
  refine wq_iald rfl e43x rfl rfl ?_
  refine wq_gos (f := 1) (pc2 := 95) (ls2 := [(6, .int 3), (0, .ref 162), (1, .int sd), (2, .int (nI N)), (3, .int w), (4, .int su), (5, .int (nI i))]) (st2 := [.ref 162, .int (hi.getD 3 0), .ref 162, .int (lo.getD 3 0), .int 3, .ref 230]) (h2 := hh36x) (dc2 := 0) (ds2 := 0) 1 rfl ?_
  refine wq_getf rfl e40x rfl rfl ?_
  refine wq_gos (f := 1) (pc2 := 100) (ls2 := [(6, .int 3), (0, .ref 162), (1, .int sd), (2, .int (nI N)), (3, .int w), (4, .int su), (5, .int (nI i))]) (st2 := [.int 3, .ref 168, .int (hi.getD 3 0), .ref 162, .int (lo.getD 3 0), .int 3, .ref 230]) (h2 := hh36x) (dc2 := 0) (ds2 := 0) 1 rfl ?_
  refine wq_iald rfl e41x rfl rfl ?_
  refine wq_gos (f := 1) (pc2 := 104) (ls2 := [(6, .int 3), (0, .ref 162), (1, .int sd), (2, .int (nI N)), (3, .int w), (4, .int su), (5, .int (nI i))]) (st2 := [.int (((hi.getD 3 0) - (lo.getD 3 0)) + (1 : Int32)), .ref 162, .int (lo.getD 3 0), .int 3, .ref 230]) (h2 := hh36x) (dc2 := 0) (ds2 := 0) 3 rfl ?_
  try have q44x : (((hi.getD 3 0) - (lo.getD 3 0))).toInt = (hi.getD 3 0).toInt - (lo.getD 3 0).toInt := e_sub (by omega) (by omega)
  try have q45x : ((((hi.getD 3 0) - (lo.getD 3 0)) + (1 : Int32))).toInt = ((hi.getD 3 0) - (lo.getD 3 0)).toInt + (1 : Int32).toInt := e_add (by omega) (by omega)
  refine wq_inlv (y2 := 278) (as := [.int (((hi.getD 3 0) - (lo.getD 3 0)) + (1 : Int32))]) rfl rfl rfl e40x rfl (wq_mono (m_drw e40x (drw_ne hlm (by decide))) ?_)
  rintro _ ⟨h846x, rfl, f846x, l846x, c046x⟩
  show wq 280 107 [(6, .int 3), (0, .ref 162), (1, .int sd), (2, .int (nI N)), (3, .int w), (4, .int su), (5, .int (nI i))] [.int ((mDrw (v33x.2) (((hi.getD 3 0) - (lo.getD 3 0)) + (1 : Int32))).1), .int (lo.getD 3 0), .int 3, .ref 230] h846x 0 0 _
  obtain ⟨v47x, hv48x⟩ : ∃ x, x = (mDrw (v33x.2) (((hi.getD 3 0) - (lo.getD 3 0)) + (1 : Int32))) := ⟨_, rfl⟩
  try rw [← hv48x] at c046x
  try rw [← hv48x]
  refine wq_gos (f := 1) (pc2 := 108) (ls2 := [(6, .int 3), (0, .ref 162), (1, .int sd), (2, .int (nI N)), (3, .int w), (4, .int su), (5, .int (nI i))]) (st2 := [.int ((lo.getD 3 0) + (v47x.1)), .int 3, .ref 230]) (h2 := h846x) (dc2 := 0) (ds2 := 0) 1 rfl ?_
  have e49x := (f846x.2 _ _ (wnc (by decide) wn0) e37x)
  refine wq_iast rfl e49x rfl rfl ?_
  intro hh50x e51x ff52x lh53x
  have e51x : zat hh50x 230 = some (.inl (0, 6, (zset 0 (zset 0 (zset 0 (zset 0 dq 0 ((lo.getD 0 0) + (v6x.1))) 1 ((lo.getD 1 0) + (v19x.1))) 2 ((lo.getD 2 0) + (v33x.1))) 3 ((lo.getD 3 0) + (v47x.1))))) := e51x
  refine wq_gos (f := 1) (pc2 := 74) (ls2 := [(6, .int 4), (0, .ref 162), (1, .int sd), (2, .int (nI N)), (3, .int w), (4, .int su), (5, .int (nI i))]) (st2 := [.ref 162]) (h2 := hh50x) (dc2 := 0) (ds2 := 0) 6 rfl ?_
  have e54x := (ff52x.2 _ _ (wnc (by decide) wn0) c046x)
  refine wq_getf rfl e54x rfl rfl ?_
  refine wq_gos (f := 1) (pc2 := 80) (ls2 := [(6, .int 4), (0, .ref 162), (1, .int sd), (2, .int (nI N)), (3, .int w), (4, .int su), (5, .int (nI i))]) (st2 := [.ref 162, .int 4, .ref 230]) (h2 := hh50x) (dc2 := 0) (ds2 := 0) 2 rfl ?_
  refine wq_getf rfl e54x rfl rfl ?_
  refine wq_gos (f := 1) (pc2 := 85) (ls2 := [(6, .int 4), (0, .ref 162), (1, .int sd), (2, .int (nI N)), (3, .int w), (4, .int su), (5, .int (nI i))]) (st2 := [.int 4, .ref 168, .int 4, .ref 230]) (h2 := hh50x) (dc2 := 0) (ds2 := 0) 1 rfl ?_
  have e55x := (ff52x.2 _ _ (wnc (by decide) wn0) (f846x.2 _ _ (wnc (by decide) wn0) e41x))
  have q56x : (4 : Int32).toInt = 4 := rfl
  refine wq_iald rfl e55x rfl rfl ?_
  refine wq_gos (f := 1) (pc2 := 88) (ls2 := [(6, .int 4), (0, .ref 162), (1, .int sd), (2, .int (nI N)), (3, .int w), (4, .int su), (5, .int (nI i))]) (st2 := [.ref 162, .ref 162, .int (lo.getD 4 0), .int 4, .ref 230]) (h2 := hh50x) (dc2 := 0) (ds2 := 0) 2 rfl ?_
  refine wq_getf rfl e54x rfl rfl ?_
  refine wq_gos (f := 1) (pc2 := 93) (ls2 := [(6, .int 4), (0, .ref 162), (1, .int sd), (2, .int (nI N)), (3, .int w), (4, .int su), (5, .int (nI i))]) (st2 := [.int 4, .ref 170, .ref 162, .int (lo.getD 4 0), .int 4, .ref 230]) (h2 := hh50x) (dc2 := 0) (ds2 := 0) 1 rfl ?_
  have e57x := (ff52x.2 _ _ (wnc (by decide) wn0) (f846x.2 _ _ (wnc (by decide) wn0) e43x))
  refine wq_iald rfl e57x rfl rfl ?_
  refine wq_gos (f := 1) (pc2 := 95) (ls2 := [(6, .int 4), (0, .ref 162), (1, .int sd), (2, .int (nI N)), (3, .int w), (4, .int su), (5, .int (nI i))]) (st2 := [.ref 162, .int (hi.getD 4 0), .ref 162, .int (lo.getD 4 0), .int 4, .ref 230]) (h2 := hh50x) (dc2 := 0) (ds2 := 0) 1 rfl ?_
  refine wq_getf rfl e54x rfl rfl ?_
  refine wq_gos (f := 1) (pc2 := 100) (ls2 := [(6, .int 4), (0, .ref 162), (1, .int sd), (2, .int (nI N)), (3, .int w), (4, .int su), (5, .int (nI i))]) (st2 := [.int 4, .ref 168, .int (hi.getD 4 0), .ref 162, .int (lo.getD 4 0), .int 4, .ref 230]) (h2 := hh50x) (dc2 := 0) (ds2 := 0) 1 rfl ?_
  refine wq_iald rfl e55x rfl rfl ?_
  refine wq_gos (f := 1) (pc2 := 104) (ls2 := [(6, .int 4), (0, .ref 162), (1, .int sd), (2, .int (nI N)), (3, .int w), (4, .int su), (5, .int (nI i))]) (st2 := [.int (((hi.getD 4 0) - (lo.getD 4 0)) + (1 : Int32)), .ref 162, .int (lo.getD 4 0), .int 4, .ref 230]) (h2 := hh50x) (dc2 := 0) (ds2 := 0) 3 rfl ?_
  try have q58x : (((hi.getD 4 0) - (lo.getD 4 0))).toInt = (hi.getD 4 0).toInt - (lo.getD 4 0).toInt := e_sub (by omega) (by omega)
  try have q59x : ((((hi.getD 4 0) - (lo.getD 4 0)) + (1 : Int32))).toInt = ((hi.getD 4 0) - (lo.getD 4 0)).toInt + (1 : Int32).toInt := e_add (by omega) (by omega)
  refine wq_inlv (y2 := 278) (as := [.int (((hi.getD 4 0) - (lo.getD 4 0)) + (1 : Int32))]) rfl rfl rfl e54x rfl (wq_mono (m_drw e54x (drw_ne hlm (by decide))) ?_)
  rintro _ ⟨h860x, rfl, f860x, l860x, c060x⟩
  show wq 280 107 [(6, .int 4), (0, .ref 162), (1, .int sd), (2, .int (nI N)), (3, .int w), (4, .int su), (5, .int (nI i))] [.int ((mDrw (v47x.2) (((hi.getD 4 0) - (lo.getD 4 0)) + (1 : Int32))).1), .int (lo.getD 4 0), .int 4, .ref 230] h860x 0 0 _
  obtain ⟨v61x, hv62x⟩ : ∃ x, x = (mDrw (v47x.2) (((hi.getD 4 0) - (lo.getD 4 0)) + (1 : Int32))) := ⟨_, rfl⟩
  try rw [← hv62x] at c060x
  try rw [← hv62x]
  refine wq_gos (f := 1) (pc2 := 108) (ls2 := [(6, .int 4), (0, .ref 162), (1, .int sd), (2, .int (nI N)), (3, .int w), (4, .int su), (5, .int (nI i))]) (st2 := [.int ((lo.getD 4 0) + (v61x.1)), .int 4, .ref 230]) (h2 := h860x) (dc2 := 0) (ds2 := 0) 1 rfl ?_
  have e63x := (f860x.2 _ _ (wnc (by decide) wn0) e51x)
  refine wq_iast rfl e63x rfl rfl ?_
  intro hh64x e65x ff66x lh67x
  have e65x : zat hh64x 230 = some (.inl (0, 6, (zset 0 (zset 0 (zset 0 (zset 0 (zset 0 dq 0 ((lo.getD 0 0) + (v6x.1))) 1 ((lo.getD 1 0) + (v19x.1))) 2 ((lo.getD 2 0) + (v33x.1))) 3 ((lo.getD 3 0) + (v47x.1))) 4 ((lo.getD 4 0) + (v61x.1))))) := e65x
  refine wq_gos (f := 1) (pc2 := 74) (ls2 := [(6, .int 5), (0, .ref 162), (1, .int sd), (2, .int (nI N)), (3, .int w), (4, .int su), (5, .int (nI i))]) (st2 := [.ref 162]) (h2 := hh64x) (dc2 := 0) (ds2 := 0) 6 rfl ?_
  have e68x := (ff66x.2 _ _ (wnc (by decide) wn0) c060x)
  refine wq_getf rfl e68x rfl rfl ?_
  refine wq_gos (f := 1) (pc2 := 80) (ls2 := [(6, .int 5), (0, .ref 162), (1, .int sd), (2, .int (nI N)), (3, .int w), (4, .int su), (5, .int (nI i))]) (st2 := [.ref 162, .int 5, .ref 230]) (h2 := hh64x) (dc2 := 0) (ds2 := 0) 2 rfl ?_
  refine wq_getf rfl e68x rfl rfl ?_
  refine wq_gos (f := 1) (pc2 := 85) (ls2 := [(6, .int 5), (0, .ref 162), (1, .int sd), (2, .int (nI N)), (3, .int w), (4, .int su), (5, .int (nI i))]) (st2 := [.int 5, .ref 168, .int 5, .ref 230]) (h2 := hh64x) (dc2 := 0) (ds2 := 0) 1 rfl ?_
  have e69x := (ff66x.2 _ _ (wnc (by decide) wn0) (f860x.2 _ _ (wnc (by decide) wn0) e55x))
  have q70x : (5 : Int32).toInt = 5 := rfl
  refine wq_iald rfl e69x rfl rfl ?_
  refine wq_gos (f := 1) (pc2 := 88) (ls2 := [(6, .int 5), (0, .ref 162), (1, .int sd), (2, .int (nI N)), (3, .int w), (4, .int su), (5, .int (nI i))]) (st2 := [.ref 162, .ref 162, .int (lo.getD 5 0), .int 5, .ref 230]) (h2 := hh64x) (dc2 := 0) (ds2 := 0) 2 rfl ?_
  refine wq_getf rfl e68x rfl rfl ?_
  refine wq_gos (f := 1) (pc2 := 93) (ls2 := [(6, .int 5), (0, .ref 162), (1, .int sd), (2, .int (nI N)), (3, .int w), (4, .int su), (5, .int (nI i))]) (st2 := [.int 5, .ref 170, .ref 162, .int (lo.getD 5 0), .int 5, .ref 230]) (h2 := hh64x) (dc2 := 0) (ds2 := 0) 1 rfl ?_
  have e71x := (ff66x.2 _ _ (wnc (by decide) wn0) (f860x.2 _ _ (wnc (by decide) wn0) e57x))
  refine wq_iald rfl e71x rfl rfl ?_
  refine wq_gos (f := 1) (pc2 := 95) (ls2 := [(6, .int 5), (0, .ref 162), (1, .int sd), (2, .int (nI N)), (3, .int w), (4, .int su), (5, .int (nI i))]) (st2 := [.ref 162, .int (hi.getD 5 0), .ref 162, .int (lo.getD 5 0), .int 5, .ref 230]) (h2 := hh64x) (dc2 := 0) (ds2 := 0) 1 rfl ?_
  refine wq_getf rfl e68x rfl rfl ?_
  refine wq_gos (f := 1) (pc2 := 100) (ls2 := [(6, .int 5), (0, .ref 162), (1, .int sd), (2, .int (nI N)), (3, .int w), (4, .int su), (5, .int (nI i))]) (st2 := [.int 5, .ref 168, .int (hi.getD 5 0), .ref 162, .int (lo.getD 5 0), .int 5, .ref 230]) (h2 := hh64x) (dc2 := 0) (ds2 := 0) 1 rfl ?_
  refine wq_iald rfl e69x rfl rfl ?_
  refine wq_gos (f := 1) (pc2 := 104) (ls2 := [(6, .int 5), (0, .ref 162), (1, .int sd), (2, .int (nI N)), (3, .int w), (4, .int su), (5, .int (nI i))]) (st2 := [.int (((hi.getD 5 0) - (lo.getD 5 0)) + (1 : Int32)), .ref 162, .int (lo.getD 5 0), .int 5, .ref 230]) (h2 := hh64x) (dc2 := 0) (ds2 := 0) 3 rfl ?_
  try have q72x : (((hi.getD 5 0) - (lo.getD 5 0))).toInt = (hi.getD 5 0).toInt - (lo.getD 5 0).toInt := e_sub (by omega) (by omega)
  try have q73x : ((((hi.getD 5 0) - (lo.getD 5 0)) + (1 : Int32))).toInt = ((hi.getD 5 0) - (lo.getD 5 0)).toInt + (1 : Int32).toInt := e_add (by omega) (by omega)
  refine wq_inlv (y2 := 278) (as := [.int (((hi.getD 5 0) - (lo.getD 5 0)) + (1 : Int32))]) rfl rfl rfl e68x rfl (wq_mono (m_drw e68x (drw_ne hlm (by decide))) ?_)
  rintro _ ⟨h874x, rfl, f874x, l874x, c074x⟩
  show wq 280 107 [(6, .int 5), (0, .ref 162), (1, .int sd), (2, .int (nI N)), (3, .int w), (4, .int su), (5, .int (nI i))] [.int ((mDrw (v61x.2) (((hi.getD 5 0) - (lo.getD 5 0)) + (1 : Int32))).1), .int (lo.getD 5 0), .int 5, .ref 230] h874x 0 0 _
  obtain ⟨v75x, hv76x⟩ : ∃ x, x = (mDrw (v61x.2) (((hi.getD 5 0) - (lo.getD 5 0)) + (1 : Int32))) := ⟨_, rfl⟩
  try rw [← hv76x] at c074x
  try rw [← hv76x]
  refine wq_gos (f := 1) (pc2 := 108) (ls2 := [(6, .int 5), (0, .ref 162), (1, .int sd), (2, .int (nI N)), (3, .int w), (4, .int su), (5, .int (nI i))]) (st2 := [.int ((lo.getD 5 0) + (v75x.1)), .int 5, .ref 230]) (h2 := h874x) (dc2 := 0) (ds2 := 0) 1 rfl ?_
  have e77x := (f874x.2 _ _ (wnc (by decide) wn0) e65x)
  refine wq_iast rfl e77x rfl rfl ?_
  intro hh78x e79x ff80x lh81x
  have e79x : zat hh78x 230 = some (.inl (0, 6, (zset 0 (zset 0 (zset 0 (zset 0 (zset 0 (zset 0 dq 0 ((lo.getD 0 0) + (v6x.1))) 1 ((lo.getD 1 0) + (v19x.1))) 2 ((lo.getD 2 0) + (v33x.1))) 3 ((lo.getD 3 0) + (v47x.1))) 4 ((lo.getD 4 0) + (v61x.1))) 5 ((lo.getD 5 0) + (v75x.1))))) := e79x
  refine wq_gos (f := 1) (pc2 := 117) (ls2 := [(6, .int 6), (0, .ref 162), (1, .int sd), (2, .int (nI N)), (3, .int w), (4, .int su), (5, .int (nI i))]) (st2 := [.ref 162, .ref 162]) (h2 := hh78x) (dc2 := 0) (ds2 := 0) 7 rfl ?_
  have e82x := (ff80x.2 _ _ (wnc (by decide) wn0) c074x)
  refine wq_getf rfl e82x rfl rfl ?_
  refine wq_gos (f := 1) (pc2 := 121) (ls2 := [(6, .int 6), (0, .ref 162), (1, .int sd), (2, .int (nI N)), (3, .int w), (4, .int su), (5, .int (nI i))]) (st2 := [.int 0, .ref 230, .ref 162]) (h2 := hh78x) (dc2 := 0) (ds2 := 0) 1 rfl ?_
  have e83x := (ff80x.2 _ _ (wnc (by decide) wn0) (f874x.2 _ _ (wnc (by decide) wn0) (ff66x.2 _ _ (wnc (by decide) wn0) (f860x.2 _ _ (wnc (by decide) wn0) (ff52x.2 _ _ (wnc (by decide) wn0) (f846x.2 _ _ (wnc (by decide) wn0) (ff38x.2 _ _ (wnc (by decide) wn0) (f832x.2 _ _ (wnc (by decide) wn0) (ff24x.2 _ _ (wnc (by decide) wn0) (f818x.2 _ _ (wnc (by decide) wn0) (ff11x.2 _ _ (wnc (by decide) wn0) (f85x.2 _ _ (wnc (by decide) wn0) hKn))))))))))))
  have e84x := (ff80x.2 _ _ (wnc (by decide) wn0) (f874x.2 _ _ (wnc (by decide) wn0) (ff66x.2 _ _ (wnc (by decide) wn0) (f860x.2 _ _ (wnc (by decide) wn0) (ff52x.2 _ _ (wnc (by decide) wn0) (f846x.2 _ _ (wnc (by decide) wn0) (ff38x.2 _ _ (wnc (by decide) wn0) (f832x.2 _ _ (wnc (by decide) wn0) (ff24x.2 _ _ (wnc (by decide) wn0) (f818x.2 _ _ (wnc (by decide) wn0) (ff11x.2 _ _ (wnc (by decide) wn0) (f85x.2 _ _ (wnc (by decide) wn0) hTh))))))))))))
  refine wq_inlv (y2 := 200) (as := [.ref 230, .int 0]) rfl rfl rfl e82x rfl (wq_mono (m_pla (k := 0) e82x e83x e79x e84x (by decide) (by decide)) ?_)
  rintro _ ⟨h885x, rfl, f885x, l885x, c085x⟩
  show wq 280 124 [(6, .int 6), (0, .ref 162), (1, .int sd), (2, .int (nI N)), (3, .int w), (4, .int su), (5, .int (nI i))] [] h885x 0 0 _
  obtain ⟨v86x, hv87x⟩ : ∃ x, x = (mPla kn (zset 0 (zset 0 (zset 0 (zset 0 (zset 0 (zset 0 dq 0 ((lo.getD 0 0) + (v6x.1))) 1 ((lo.getD 1 0) + (v19x.1))) 2 ((lo.getD 2 0) + (v33x.1))) 3 ((lo.getD 3 0) + (v47x.1))) 4 ((lo.getD 4 0) + (v61x.1))) 5 ((lo.getD 5 0) + (v75x.1))) 0 th) := ⟨_, rfl⟩
  try rw [← hv87x] at c085x
  try rw [← hv87x]
  refine wq_gos (f := 1) (pc2 := 135) (ls2 := [(6, .int 0), (0, .ref 162), (1, .int sd), (2, .int (nI N)), (3, .int w), (4, .int su), (5, .int (nI i))]) (st2 := [.ref 162]) (h2 := h885x) (dc2 := 0) (ds2 := 0) 6 rfl ?_
  have e88x := (f885x.2 _ _ (wnc (by decide) wn0) e82x)
  refine wq_getf rfl e88x rfl rfl ?_
  refine wq_gos (f := 1) (pc2 := 141) (ls2 := [(6, .int 0), (0, .ref 162), (1, .int sd), (2, .int (nI N)), (3, .int w), (4, .int su), (5, .int (nI i))]) (st2 := [.ref 162, .int 0, .ref 222]) (h2 := h885x) (dc2 := 0) (ds2 := 0) 2 rfl ?_
  refine wq_getf rfl e88x rfl rfl ?_
  refine wq_gos (f := 1) (pc2 := 146) (ls2 := [(6, .int 0), (0, .ref 162), (1, .int sd), (2, .int (nI N)), (3, .int w), (4, .int su), (5, .int (nI i))]) (st2 := [.int 0, .ref 194, .int 0, .ref 222]) (h2 := h885x) (dc2 := 0) (ds2 := 0) 1 rfl ?_
  refine wq_iald rfl c085x rfl rfl ?_
  have e89x := (f885x.2 _ _ (wnc (by decide) wn0) (ff80x.2 _ _ (wnc (by decide) wn0) (f874x.2 _ _ (wnc (by decide) wn0) (ff66x.2 _ _ (wnc (by decide) wn0) (f860x.2 _ _ (wnc (by decide) wn0) (ff52x.2 _ _ (wnc (by decide) wn0) (f846x.2 _ _ (wnc (by decide) wn0) (ff38x.2 _ _ (wnc (by decide) wn0) (f832x.2 _ _ (wnc (by decide) wn0) (ff24x.2 _ _ (wnc (by decide) wn0) (f818x.2 _ _ (wnc (by decide) wn0) (ff11x.2 _ _ (wnc (by decide) wn0) (f85x.2 _ _ (wnc (by decide) wn0) hSg)))))))))))))
  refine wq_iast rfl e89x rfl rfl ?_
  intro hh90x e91x ff92x lh93x
  have e91x : zat hh90x 222 = some (.inl (0, 6, (zset 0 sg 0 ((v86x).getD 0 0)))) := e91x
  refine wq_gos (f := 1) (pc2 := 135) (ls2 := [(6, .int 1), (0, .ref 162), (1, .int sd), (2, .int (nI N)), (3, .int w), (4, .int su), (5, .int (nI i))]) (st2 := [.ref 162]) (h2 := hh90x) (dc2 := 0) (ds2 := 0) 6 rfl ?_
  have e94x := (ff92x.2 _ _ (wnc (by decide) wn0) e88x)
  refine wq_getf rfl e94x rfl rfl ?_
  refine wq_gos (f := 1) (pc2 := 141) (ls2 := [(6, .int 1), (0, .ref 162), (1, .int sd), (2, .int (nI N)), (3, .int w), (4, .int su), (5, .int (nI i))]) (st2 := [.ref 162, .int 1, .ref 222]) (h2 := hh90x) (dc2 := 0) (ds2 := 0) 2 rfl ?_
  refine wq_getf rfl e94x rfl rfl ?_
  refine wq_gos (f := 1) (pc2 := 146) (ls2 := [(6, .int 1), (0, .ref 162), (1, .int sd), (2, .int (nI N)), (3, .int w), (4, .int su), (5, .int (nI i))]) (st2 := [.int 1, .ref 194, .int 1, .ref 222]) (h2 := hh90x) (dc2 := 0) (ds2 := 0) 1 rfl ?_
  have e95x := (ff92x.2 _ _ (wnc (by decide) wn0) c085x)
  refine wq_iald rfl e95x rfl rfl ?_
  refine wq_iast rfl e91x rfl rfl ?_
  intro hh96x e97x ff98x lh99x
  have e97x : zat hh96x 222 = some (.inl (0, 6, (zset 0 (zset 0 sg 0 ((v86x).getD 0 0)) 1 ((v86x).getD 1 0)))) := e97x
  refine wq_gos (f := 1) (pc2 := 135) (ls2 := [(6, .int 2), (0, .ref 162), (1, .int sd), (2, .int (nI N)), (3, .int w), (4, .int su), (5, .int (nI i))]) (st2 := [.ref 162]) (h2 := hh96x) (dc2 := 0) (ds2 := 0) 6 rfl ?_
  have e100x := (ff98x.2 _ _ (wnc (by decide) wn0) e94x)
  refine wq_getf rfl e100x rfl rfl ?_
  refine wq_gos (f := 1) (pc2 := 141) (ls2 := [(6, .int 2), (0, .ref 162), (1, .int sd), (2, .int (nI N)), (3, .int w), (4, .int su), (5, .int (nI i))]) (st2 := [.ref 162, .int 2, .ref 222]) (h2 := hh96x) (dc2 := 0) (ds2 := 0) 2 rfl ?_
  refine wq_getf rfl e100x rfl rfl ?_
  refine wq_gos (f := 1) (pc2 := 146) (ls2 := [(6, .int 2), (0, .ref 162), (1, .int sd), (2, .int (nI N)), (3, .int w), (4, .int su), (5, .int (nI i))]) (st2 := [.int 2, .ref 194, .int 2, .ref 222]) (h2 := hh96x) (dc2 := 0) (ds2 := 0) 1 rfl ?_
  have e101x := (ff98x.2 _ _ (wnc (by decide) wn0) e95x)
  refine wq_iald rfl e101x rfl rfl ?_
  refine wq_iast rfl e97x rfl rfl ?_
  intro hh102x e103x ff104x lh105x
  have e103x : zat hh102x 222 = some (.inl (0, 6, (zset 0 (zset 0 (zset 0 sg 0 ((v86x).getD 0 0)) 1 ((v86x).getD 1 0)) 2 ((v86x).getD 2 0)))) := e103x
  refine wq_gos (f := 1) (pc2 := 135) (ls2 := [(6, .int 3), (0, .ref 162), (1, .int sd), (2, .int (nI N)), (3, .int w), (4, .int su), (5, .int (nI i))]) (st2 := [.ref 162]) (h2 := hh102x) (dc2 := 0) (ds2 := 0) 6 rfl ?_
  have e106x := (ff104x.2 _ _ (wnc (by decide) wn0) e100x)
  refine wq_getf rfl e106x rfl rfl ?_
  refine wq_gos (f := 1) (pc2 := 141) (ls2 := [(6, .int 3), (0, .ref 162), (1, .int sd), (2, .int (nI N)), (3, .int w), (4, .int su), (5, .int (nI i))]) (st2 := [.ref 162, .int 3, .ref 222]) (h2 := hh102x) (dc2 := 0) (ds2 := 0) 2 rfl ?_
  refine wq_getf rfl e106x rfl rfl ?_
  refine wq_gos (f := 1) (pc2 := 146) (ls2 := [(6, .int 3), (0, .ref 162), (1, .int sd), (2, .int (nI N)), (3, .int w), (4, .int su), (5, .int (nI i))]) (st2 := [.int 3, .ref 194, .int 3, .ref 222]) (h2 := hh102x) (dc2 := 0) (ds2 := 0) 1 rfl ?_
  have e107x := (ff104x.2 _ _ (wnc (by decide) wn0) e101x)
  refine wq_iald rfl e107x rfl rfl ?_
  refine wq_iast rfl e103x rfl rfl ?_
  intro hh108x e109x ff110x lh111x
  have e109x : zat hh108x 222 = some (.inl (0, 6, (zset 0 (zset 0 (zset 0 (zset 0 sg 0 ((v86x).getD 0 0)) 1 ((v86x).getD 1 0)) 2 ((v86x).getD 2 0)) 3 ((v86x).getD 3 0)))) := e109x
  refine wq_gos (f := 1) (pc2 := 135) (ls2 := [(6, .int 4), (0, .ref 162), (1, .int sd), (2, .int (nI N)), (3, .int w), (4, .int su), (5, .int (nI i))]) (st2 := [.ref 162]) (h2 := hh108x) (dc2 := 0) (ds2 := 0) 6 rfl ?_
  have e112x := (ff110x.2 _ _ (wnc (by decide) wn0) e106x)
  refine wq_getf rfl e112x rfl rfl ?_
  refine wq_gos (f := 1) (pc2 := 141) (ls2 := [(6, .int 4), (0, .ref 162), (1, .int sd), (2, .int (nI N)), (3, .int w), (4, .int su), (5, .int (nI i))]) (st2 := [.ref 162, .int 4, .ref 222]) (h2 := hh108x) (dc2 := 0) (ds2 := 0) 2 rfl ?_
  refine wq_getf rfl e112x rfl rfl ?_
  refine wq_gos (f := 1) (pc2 := 146) (ls2 := [(6, .int 4), (0, .ref 162), (1, .int sd), (2, .int (nI N)), (3, .int w), (4, .int su), (5, .int (nI i))]) (st2 := [.int 4, .ref 194, .int 4, .ref 222]) (h2 := hh108x) (dc2 := 0) (ds2 := 0) 1 rfl ?_
  have e113x := (ff110x.2 _ _ (wnc (by decide) wn0) e107x)
  refine wq_iald rfl e113x rfl rfl ?_
  refine wq_iast rfl e109x rfl rfl ?_
  intro hh114x e115x ff116x lh117x
  have e115x : zat hh114x 222 = some (.inl (0, 6, (zset 0 (zset 0 (zset 0 (zset 0 (zset 0 sg 0 ((v86x).getD 0 0)) 1 ((v86x).getD 1 0)) 2 ((v86x).getD 2 0)) 3 ((v86x).getD 3 0)) 4 ((v86x).getD 4 0)))) := e115x
  refine wq_gos (f := 1) (pc2 := 135) (ls2 := [(6, .int 5), (0, .ref 162), (1, .int sd), (2, .int (nI N)), (3, .int w), (4, .int su), (5, .int (nI i))]) (st2 := [.ref 162]) (h2 := hh114x) (dc2 := 0) (ds2 := 0) 6 rfl ?_
  have e118x := (ff116x.2 _ _ (wnc (by decide) wn0) e112x)
  refine wq_getf rfl e118x rfl rfl ?_
  refine wq_gos (f := 1) (pc2 := 141) (ls2 := [(6, .int 5), (0, .ref 162), (1, .int sd), (2, .int (nI N)), (3, .int w), (4, .int su), (5, .int (nI i))]) (st2 := [.ref 162, .int 5, .ref 222]) (h2 := hh114x) (dc2 := 0) (ds2 := 0) 2 rfl ?_
  refine wq_getf rfl e118x rfl rfl ?_
  refine wq_gos (f := 1) (pc2 := 146) (ls2 := [(6, .int 5), (0, .ref 162), (1, .int sd), (2, .int (nI N)), (3, .int w), (4, .int su), (5, .int (nI i))]) (st2 := [.int 5, .ref 194, .int 5, .ref 222]) (h2 := hh114x) (dc2 := 0) (ds2 := 0) 1 rfl ?_
  have e119x := (ff116x.2 _ _ (wnc (by decide) wn0) e113x)
  refine wq_iald rfl e119x rfl rfl ?_
  refine wq_iast rfl e115x rfl rfl ?_
  intro hh120x e121x ff122x lh123x
  have e121x : zat hh120x 222 = some (.inl (0, 6, (zset 0 (zset 0 (zset 0 (zset 0 (zset 0 (zset 0 sg 0 ((v86x).getD 0 0)) 1 ((v86x).getD 1 0)) 2 ((v86x).getD 2 0)) 3 ((v86x).getD 3 0)) 4 ((v86x).getD 4 0)) 5 ((v86x).getD 5 0)))) := e121x
  refine wq_gos (f := 1) (pc2 := 154) (ls2 := [(6, .int 6), (0, .ref 162), (1, .int sd), (2, .int (nI N)), (3, .int w), (4, .int su), (5, .int (nI i))]) (st2 := []) (h2 := hh120x) (dc2 := 0) (ds2 := 0) 5 rfl ?_
  have e124x := (ff122x.2 _ _ (wnc (by decide) wn0) e118x)
  have e125x := (ff122x.2 _ _ (wnc (by decide) wn0) (ff116x.2 _ _ (wnc (by decide) wn0) (ff110x.2 _ _ (wnc (by decide) wn0) (ff104x.2 _ _ (wnc (by decide) wn0) (ff98x.2 _ _ (wnc (by decide) wn0) (ff92x.2 _ _ (wnc (by decide) wn0) (f885x.2 _ _ (wnc (by decide) wn0) e79x)))))))
  have e126x := (ff122x.2 _ _ (wnc (by decide) wn0) e119x)
  subst hv7x
  subst hv20x
  subst hv34x
  subst hv48x
  subst hv62x
  subst hv76x
  subst hv87x
  refine wq_ls [(0, .ref 162), (1, .int sd), (2, .int (nI N)), (3, .int w), (4, .int su), (5, .int (nI i))] (show ([0, 1, 2, 3, 4, 5] : List Nat).Nodup by decide) ⟨rfl, rfl, rfl, rfl, rfl, rfl, trivial⟩ ?_
  exact kE hh120x ((mDrw ((mDrw ((mDrw ((mDrw ((mDrw ((mDrw n52 (((hi.getD 0 0) - (lo.getD 0 0)) + (1 : Int32))).2) (((hi.getD 1 0) - (lo.getD 1 0)) + (1 : Int32))).2) (((hi.getD 2 0) - (lo.getD 2 0)) + (1 : Int32))).2) (((hi.getD 3 0) - (lo.getD 3 0)) + (1 : Int32))).2) (((hi.getD 4 0) - (lo.getD 4 0)) + (1 : Int32))).2) (((hi.getD 5 0) - (lo.getD 5 0)) + (1 : Int32))).2) (zset 0 (zset 0 (zset 0 (zset 0 (zset 0 (zset 0 dq 0 ((lo.getD 0 0) + ((mDrw n52 (((hi.getD 0 0) - (lo.getD 0 0)) + (1 : Int32))).1))) 1 ((lo.getD 1 0) + ((mDrw ((mDrw n52 (((hi.getD 0 0) - (lo.getD 0 0)) + (1 : Int32))).2) (((hi.getD 1 0) - (lo.getD 1 0)) + (1 : Int32))).1))) 2 ((lo.getD 2 0) + ((mDrw ((mDrw ((mDrw n52 (((hi.getD 0 0) - (lo.getD 0 0)) + (1 : Int32))).2) (((hi.getD 1 0) - (lo.getD 1 0)) + (1 : Int32))).2) (((hi.getD 2 0) - (lo.getD 2 0)) + (1 : Int32))).1))) 3 ((lo.getD 3 0) + ((mDrw ((mDrw ((mDrw ((mDrw n52 (((hi.getD 0 0) - (lo.getD 0 0)) + (1 : Int32))).2) (((hi.getD 1 0) - (lo.getD 1 0)) + (1 : Int32))).2) (((hi.getD 2 0) - (lo.getD 2 0)) + (1 : Int32))).2) (((hi.getD 3 0) - (lo.getD 3 0)) + (1 : Int32))).1))) 4 ((lo.getD 4 0) + ((mDrw ((mDrw ((mDrw ((mDrw ((mDrw n52 (((hi.getD 0 0) - (lo.getD 0 0)) + (1 : Int32))).2) (((hi.getD 1 0) - (lo.getD 1 0)) + (1 : Int32))).2) (((hi.getD 2 0) - (lo.getD 2 0)) + (1 : Int32))).2) (((hi.getD 3 0) - (lo.getD 3 0)) + (1 : Int32))).2) (((hi.getD 4 0) - (lo.getD 4 0)) + (1 : Int32))).1))) 5 ((lo.getD 5 0) + ((mDrw ((mDrw ((mDrw ((mDrw ((mDrw ((mDrw n52 (((hi.getD 0 0) - (lo.getD 0 0)) + (1 : Int32))).2) (((hi.getD 1 0) - (lo.getD 1 0)) + (1 : Int32))).2) (((hi.getD 2 0) - (lo.getD 2 0)) + (1 : Int32))).2) (((hi.getD 3 0) - (lo.getD 3 0)) + (1 : Int32))).2) (((hi.getD 4 0) - (lo.getD 4 0)) + (1 : Int32))).2) (((hi.getD 5 0) - (lo.getD 5 0)) + (1 : Int32))).1))) ((mPla kn (zset 0 (zset 0 (zset 0 (zset 0 (zset 0 (zset 0 dq 0 ((lo.getD 0 0) + ((mDrw n52 (((hi.getD 0 0) - (lo.getD 0 0)) + (1 : Int32))).1))) 1 ((lo.getD 1 0) + ((mDrw ((mDrw n52 (((hi.getD 0 0) - (lo.getD 0 0)) + (1 : Int32))).2) (((hi.getD 1 0) - (lo.getD 1 0)) + (1 : Int32))).1))) 2 ((lo.getD 2 0) + ((mDrw ((mDrw ((mDrw n52 (((hi.getD 0 0) - (lo.getD 0 0)) + (1 : Int32))).2) (((hi.getD 1 0) - (lo.getD 1 0)) + (1 : Int32))).2) (((hi.getD 2 0) - (lo.getD 2 0)) + (1 : Int32))).1))) 3 ((lo.getD 3 0) + ((mDrw ((mDrw ((mDrw ((mDrw n52 (((hi.getD 0 0) - (lo.getD 0 0)) + (1 : Int32))).2) (((hi.getD 1 0) - (lo.getD 1 0)) + (1 : Int32))).2) (((hi.getD 2 0) - (lo.getD 2 0)) + (1 : Int32))).2) (((hi.getD 3 0) - (lo.getD 3 0)) + (1 : Int32))).1))) 4 ((lo.getD 4 0) + ((mDrw ((mDrw ((mDrw ((mDrw ((mDrw n52 (((hi.getD 0 0) - (lo.getD 0 0)) + (1 : Int32))).2) (((hi.getD 1 0) - (lo.getD 1 0)) + (1 : Int32))).2) (((hi.getD 2 0) - (lo.getD 2 0)) + (1 : Int32))).2) (((hi.getD 3 0) - (lo.getD 3 0)) + (1 : Int32))).2) (((hi.getD 4 0) - (lo.getD 4 0)) + (1 : Int32))).1))) 5 ((lo.getD 5 0) + ((mDrw ((mDrw ((mDrw ((mDrw ((mDrw ((mDrw n52 (((hi.getD 0 0) - (lo.getD 0 0)) + (1 : Int32))).2) (((hi.getD 1 0) - (lo.getD 1 0)) + (1 : Int32))).2) (((hi.getD 2 0) - (lo.getD 2 0)) + (1 : Int32))).2) (((hi.getD 3 0) - (lo.getD 3 0)) + (1 : Int32))).2) (((hi.getD 4 0) - (lo.getD 4 0)) + (1 : Int32))).2) (((hi.getD 5 0) - (lo.getD 5 0)) + (1 : Int32))).1))) 0 th)) (zset 0 (zset 0 (zset 0 (zset 0 (zset 0 (zset 0 sg 0 (((mPla kn (zset 0 (zset 0 (zset 0 (zset 0 (zset 0 (zset 0 dq 0 ((lo.getD 0 0) + ((mDrw n52 (((hi.getD 0 0) - (lo.getD 0 0)) + (1 : Int32))).1))) 1 ((lo.getD 1 0) + ((mDrw ((mDrw n52 (((hi.getD 0 0) - (lo.getD 0 0)) + (1 : Int32))).2) (((hi.getD 1 0) - (lo.getD 1 0)) + (1 : Int32))).1))) 2 ((lo.getD 2 0) + ((mDrw ((mDrw ((mDrw n52 (((hi.getD 0 0) - (lo.getD 0 0)) + (1 : Int32))).2) (((hi.getD 1 0) - (lo.getD 1 0)) + (1 : Int32))).2) (((hi.getD 2 0) - (lo.getD 2 0)) + (1 : Int32))).1))) 3 ((lo.getD 3 0) + ((mDrw ((mDrw ((mDrw ((mDrw n52 (((hi.getD 0 0) - (lo.getD 0 0)) + (1 : Int32))).2) (((hi.getD 1 0) - (lo.getD 1 0)) + (1 : Int32))).2) (((hi.getD 2 0) - (lo.getD 2 0)) + (1 : Int32))).2) (((hi.getD 3 0) - (lo.getD 3 0)) + (1 : Int32))).1))) 4 ((lo.getD 4 0) + ((mDrw ((mDrw ((mDrw ((mDrw ((mDrw n52 (((hi.getD 0 0) - (lo.getD 0 0)) + (1 : Int32))).2) (((hi.getD 1 0) - (lo.getD 1 0)) + (1 : Int32))).2) (((hi.getD 2 0) - (lo.getD 2 0)) + (1 : Int32))).2) (((hi.getD 3 0) - (lo.getD 3 0)) + (1 : Int32))).2) (((hi.getD 4 0) - (lo.getD 4 0)) + (1 : Int32))).1))) 5 ((lo.getD 5 0) + ((mDrw ((mDrw ((mDrw ((mDrw ((mDrw ((mDrw n52 (((hi.getD 0 0) - (lo.getD 0 0)) + (1 : Int32))).2) (((hi.getD 1 0) - (lo.getD 1 0)) + (1 : Int32))).2) (((hi.getD 2 0) - (lo.getD 2 0)) + (1 : Int32))).2) (((hi.getD 3 0) - (lo.getD 3 0)) + (1 : Int32))).2) (((hi.getD 4 0) - (lo.getD 4 0)) + (1 : Int32))).2) (((hi.getD 5 0) - (lo.getD 5 0)) + (1 : Int32))).1))) 0 th)).getD 0 0)) 1 (((mPla kn (zset 0 (zset 0 (zset 0 (zset 0 (zset 0 (zset 0 dq 0 ((lo.getD 0 0) + ((mDrw n52 (((hi.getD 0 0) - (lo.getD 0 0)) + (1 : Int32))).1))) 1 ((lo.getD 1 0) + ((mDrw ((mDrw n52 (((hi.getD 0 0) - (lo.getD 0 0)) + (1 : Int32))).2) (((hi.getD 1 0) - (lo.getD 1 0)) + (1 : Int32))).1))) 2 ((lo.getD 2 0) + ((mDrw ((mDrw ((mDrw n52 (((hi.getD 0 0) - (lo.getD 0 0)) + (1 : Int32))).2) (((hi.getD 1 0) - (lo.getD 1 0)) + (1 : Int32))).2) (((hi.getD 2 0) - (lo.getD 2 0)) + (1 : Int32))).1))) 3 ((lo.getD 3 0) + ((mDrw ((mDrw ((mDrw ((mDrw n52 (((hi.getD 0 0) - (lo.getD 0 0)) + (1 : Int32))).2) (((hi.getD 1 0) - (lo.getD 1 0)) + (1 : Int32))).2) (((hi.getD 2 0) - (lo.getD 2 0)) + (1 : Int32))).2) (((hi.getD 3 0) - (lo.getD 3 0)) + (1 : Int32))).1))) 4 ((lo.getD 4 0) + ((mDrw ((mDrw ((mDrw ((mDrw ((mDrw n52 (((hi.getD 0 0) - (lo.getD 0 0)) + (1 : Int32))).2) (((hi.getD 1 0) - (lo.getD 1 0)) + (1 : Int32))).2) (((hi.getD 2 0) - (lo.getD 2 0)) + (1 : Int32))).2) (((hi.getD 3 0) - (lo.getD 3 0)) + (1 : Int32))).2) (((hi.getD 4 0) - (lo.getD 4 0)) + (1 : Int32))).1))) 5 ((lo.getD 5 0) + ((mDrw ((mDrw ((mDrw ((mDrw ((mDrw ((mDrw n52 (((hi.getD 0 0) - (lo.getD 0 0)) + (1 : Int32))).2) (((hi.getD 1 0) - (lo.getD 1 0)) + (1 : Int32))).2) (((hi.getD 2 0) - (lo.getD 2 0)) + (1 : Int32))).2) (((hi.getD 3 0) - (lo.getD 3 0)) + (1 : Int32))).2) (((hi.getD 4 0) - (lo.getD 4 0)) + (1 : Int32))).2) (((hi.getD 5 0) - (lo.getD 5 0)) + (1 : Int32))).1))) 0 th)).getD 1 0)) 2 (((mPla kn (zset 0 (zset 0 (zset 0 (zset 0 (zset 0 (zset 0 dq 0 ((lo.getD 0 0) + ((mDrw n52 (((hi.getD 0 0) - (lo.getD 0 0)) + (1 : Int32))).1))) 1 ((lo.getD 1 0) + ((mDrw ((mDrw n52 (((hi.getD 0 0) - (lo.getD 0 0)) + (1 : Int32))).2) (((hi.getD 1 0) - (lo.getD 1 0)) + (1 : Int32))).1))) 2 ((lo.getD 2 0) + ((mDrw ((mDrw ((mDrw n52 (((hi.getD 0 0) - (lo.getD 0 0)) + (1 : Int32))).2) (((hi.getD 1 0) - (lo.getD 1 0)) + (1 : Int32))).2) (((hi.getD 2 0) - (lo.getD 2 0)) + (1 : Int32))).1))) 3 ((lo.getD 3 0) + ((mDrw ((mDrw ((mDrw ((mDrw n52 (((hi.getD 0 0) - (lo.getD 0 0)) + (1 : Int32))).2) (((hi.getD 1 0) - (lo.getD 1 0)) + (1 : Int32))).2) (((hi.getD 2 0) - (lo.getD 2 0)) + (1 : Int32))).2) (((hi.getD 3 0) - (lo.getD 3 0)) + (1 : Int32))).1))) 4 ((lo.getD 4 0) + ((mDrw ((mDrw ((mDrw ((mDrw ((mDrw n52 (((hi.getD 0 0) - (lo.getD 0 0)) + (1 : Int32))).2) (((hi.getD 1 0) - (lo.getD 1 0)) + (1 : Int32))).2) (((hi.getD 2 0) - (lo.getD 2 0)) + (1 : Int32))).2) (((hi.getD 3 0) - (lo.getD 3 0)) + (1 : Int32))).2) (((hi.getD 4 0) - (lo.getD 4 0)) + (1 : Int32))).1))) 5 ((lo.getD 5 0) + ((mDrw ((mDrw ((mDrw ((mDrw ((mDrw ((mDrw n52 (((hi.getD 0 0) - (lo.getD 0 0)) + (1 : Int32))).2) (((hi.getD 1 0) - (lo.getD 1 0)) + (1 : Int32))).2) (((hi.getD 2 0) - (lo.getD 2 0)) + (1 : Int32))).2) (((hi.getD 3 0) - (lo.getD 3 0)) + (1 : Int32))).2) (((hi.getD 4 0) - (lo.getD 4 0)) + (1 : Int32))).2) (((hi.getD 5 0) - (lo.getD 5 0)) + (1 : Int32))).1))) 0 th)).getD 2 0)) 3 (((mPla kn (zset 0 (zset 0 (zset 0 (zset 0 (zset 0 (zset 0 dq 0 ((lo.getD 0 0) + ((mDrw n52 (((hi.getD 0 0) - (lo.getD 0 0)) + (1 : Int32))).1))) 1 ((lo.getD 1 0) + ((mDrw ((mDrw n52 (((hi.getD 0 0) - (lo.getD 0 0)) + (1 : Int32))).2) (((hi.getD 1 0) - (lo.getD 1 0)) + (1 : Int32))).1))) 2 ((lo.getD 2 0) + ((mDrw ((mDrw ((mDrw n52 (((hi.getD 0 0) - (lo.getD 0 0)) + (1 : Int32))).2) (((hi.getD 1 0) - (lo.getD 1 0)) + (1 : Int32))).2) (((hi.getD 2 0) - (lo.getD 2 0)) + (1 : Int32))).1))) 3 ((lo.getD 3 0) + ((mDrw ((mDrw ((mDrw ((mDrw n52 (((hi.getD 0 0) - (lo.getD 0 0)) + (1 : Int32))).2) (((hi.getD 1 0) - (lo.getD 1 0)) + (1 : Int32))).2) (((hi.getD 2 0) - (lo.getD 2 0)) + (1 : Int32))).2) (((hi.getD 3 0) - (lo.getD 3 0)) + (1 : Int32))).1))) 4 ((lo.getD 4 0) + ((mDrw ((mDrw ((mDrw ((mDrw ((mDrw n52 (((hi.getD 0 0) - (lo.getD 0 0)) + (1 : Int32))).2) (((hi.getD 1 0) - (lo.getD 1 0)) + (1 : Int32))).2) (((hi.getD 2 0) - (lo.getD 2 0)) + (1 : Int32))).2) (((hi.getD 3 0) - (lo.getD 3 0)) + (1 : Int32))).2) (((hi.getD 4 0) - (lo.getD 4 0)) + (1 : Int32))).1))) 5 ((lo.getD 5 0) + ((mDrw ((mDrw ((mDrw ((mDrw ((mDrw ((mDrw n52 (((hi.getD 0 0) - (lo.getD 0 0)) + (1 : Int32))).2) (((hi.getD 1 0) - (lo.getD 1 0)) + (1 : Int32))).2) (((hi.getD 2 0) - (lo.getD 2 0)) + (1 : Int32))).2) (((hi.getD 3 0) - (lo.getD 3 0)) + (1 : Int32))).2) (((hi.getD 4 0) - (lo.getD 4 0)) + (1 : Int32))).2) (((hi.getD 5 0) - (lo.getD 5 0)) + (1 : Int32))).1))) 0 th)).getD 3 0)) 4 (((mPla kn (zset 0 (zset 0 (zset 0 (zset 0 (zset 0 (zset 0 dq 0 ((lo.getD 0 0) + ((mDrw n52 (((hi.getD 0 0) - (lo.getD 0 0)) + (1 : Int32))).1))) 1 ((lo.getD 1 0) + ((mDrw ((mDrw n52 (((hi.getD 0 0) - (lo.getD 0 0)) + (1 : Int32))).2) (((hi.getD 1 0) - (lo.getD 1 0)) + (1 : Int32))).1))) 2 ((lo.getD 2 0) + ((mDrw ((mDrw ((mDrw n52 (((hi.getD 0 0) - (lo.getD 0 0)) + (1 : Int32))).2) (((hi.getD 1 0) - (lo.getD 1 0)) + (1 : Int32))).2) (((hi.getD 2 0) - (lo.getD 2 0)) + (1 : Int32))).1))) 3 ((lo.getD 3 0) + ((mDrw ((mDrw ((mDrw ((mDrw n52 (((hi.getD 0 0) - (lo.getD 0 0)) + (1 : Int32))).2) (((hi.getD 1 0) - (lo.getD 1 0)) + (1 : Int32))).2) (((hi.getD 2 0) - (lo.getD 2 0)) + (1 : Int32))).2) (((hi.getD 3 0) - (lo.getD 3 0)) + (1 : Int32))).1))) 4 ((lo.getD 4 0) + ((mDrw ((mDrw ((mDrw ((mDrw ((mDrw n52 (((hi.getD 0 0) - (lo.getD 0 0)) + (1 : Int32))).2) (((hi.getD 1 0) - (lo.getD 1 0)) + (1 : Int32))).2) (((hi.getD 2 0) - (lo.getD 2 0)) + (1 : Int32))).2) (((hi.getD 3 0) - (lo.getD 3 0)) + (1 : Int32))).2) (((hi.getD 4 0) - (lo.getD 4 0)) + (1 : Int32))).1))) 5 ((lo.getD 5 0) + ((mDrw ((mDrw ((mDrw ((mDrw ((mDrw ((mDrw n52 (((hi.getD 0 0) - (lo.getD 0 0)) + (1 : Int32))).2) (((hi.getD 1 0) - (lo.getD 1 0)) + (1 : Int32))).2) (((hi.getD 2 0) - (lo.getD 2 0)) + (1 : Int32))).2) (((hi.getD 3 0) - (lo.getD 3 0)) + (1 : Int32))).2) (((hi.getD 4 0) - (lo.getD 4 0)) + (1 : Int32))).2) (((hi.getD 5 0) - (lo.getD 5 0)) + (1 : Int32))).1))) 0 th)).getD 4 0)) 5 (((mPla kn (zset 0 (zset 0 (zset 0 (zset 0 (zset 0 (zset 0 dq 0 ((lo.getD 0 0) + ((mDrw n52 (((hi.getD 0 0) - (lo.getD 0 0)) + (1 : Int32))).1))) 1 ((lo.getD 1 0) + ((mDrw ((mDrw n52 (((hi.getD 0 0) - (lo.getD 0 0)) + (1 : Int32))).2) (((hi.getD 1 0) - (lo.getD 1 0)) + (1 : Int32))).1))) 2 ((lo.getD 2 0) + ((mDrw ((mDrw ((mDrw n52 (((hi.getD 0 0) - (lo.getD 0 0)) + (1 : Int32))).2) (((hi.getD 1 0) - (lo.getD 1 0)) + (1 : Int32))).2) (((hi.getD 2 0) - (lo.getD 2 0)) + (1 : Int32))).1))) 3 ((lo.getD 3 0) + ((mDrw ((mDrw ((mDrw ((mDrw n52 (((hi.getD 0 0) - (lo.getD 0 0)) + (1 : Int32))).2) (((hi.getD 1 0) - (lo.getD 1 0)) + (1 : Int32))).2) (((hi.getD 2 0) - (lo.getD 2 0)) + (1 : Int32))).2) (((hi.getD 3 0) - (lo.getD 3 0)) + (1 : Int32))).1))) 4 ((lo.getD 4 0) + ((mDrw ((mDrw ((mDrw ((mDrw ((mDrw n52 (((hi.getD 0 0) - (lo.getD 0 0)) + (1 : Int32))).2) (((hi.getD 1 0) - (lo.getD 1 0)) + (1 : Int32))).2) (((hi.getD 2 0) - (lo.getD 2 0)) + (1 : Int32))).2) (((hi.getD 3 0) - (lo.getD 3 0)) + (1 : Int32))).2) (((hi.getD 4 0) - (lo.getD 4 0)) + (1 : Int32))).1))) 5 ((lo.getD 5 0) + ((mDrw ((mDrw ((mDrw ((mDrw ((mDrw ((mDrw n52 (((hi.getD 0 0) - (lo.getD 0 0)) + (1 : Int32))).2) (((hi.getD 1 0) - (lo.getD 1 0)) + (1 : Int32))).2) (((hi.getD 2 0) - (lo.getD 2 0)) + (1 : Int32))).2) (((hi.getD 3 0) - (lo.getD 3 0)) + (1 : Int32))).2) (((hi.getD 4 0) - (lo.getD 4 0)) + (1 : Int32))).2) (((hi.getD 5 0) - (lo.getD 5 0)) + (1 : Int32))).1))) 0 th)).getD 5 0)) (wFr_tr (wFr_sub f85x (by simp)) (wFr_tr (wFr_sub ff11x (by simp)) (wFr_tr (wFr_sub f818x (by simp)) (wFr_tr (wFr_sub ff24x (by simp)) (wFr_tr (wFr_sub f832x (by simp)) (wFr_tr (wFr_sub ff38x (by simp)) (wFr_tr (wFr_sub f846x (by simp)) (wFr_tr (wFr_sub ff52x (by simp)) (wFr_tr (wFr_sub f860x (by simp)) (wFr_tr (wFr_sub ff66x (by simp)) (wFr_tr (wFr_sub f874x (by simp)) (wFr_tr (wFr_sub ff80x (by simp)) (wFr_tr (wFr_sub f885x (by simp)) (wFr_tr (wFr_sub ff92x (by simp)) (wFr_tr (wFr_sub ff98x (by simp)) (wFr_tr (wFr_sub ff104x (by simp)) (wFr_tr (wFr_sub ff110x (by simp)) (wFr_tr (wFr_sub ff116x (by simp)) (wFr_sub ff122x (by simp)))))))))))))))))))) (by omega) e124x e125x e126x e121x
set_option maxRecDepth 100000 in
set_option maxHeartbeats 4000000 in
theorem m_chB0 {h : zH} {Q : zR → Prop} {n0 n2 n14 n15 n16 n17 n18 n19 n20 n21 n22 n23 n27 n28 n32 n33 n34 n35 n39 n52 : Int32} {kn lo hi dq sg on pa pb : List Int32} {fo : List Int64} {sd su : Int32} {N i : Nat} (hM : zat h 162 = some (.inr (.inr (.inr (10, mO n0 n2 n14 n15 n16 n17 n18 n19 n20 n21 n22 n23 n27 n28 n32 n33 n34 n35 n39 n52))))) (hKn : zat h 166 = some (.inl (0, 14, kn))) (hLo : zat h 168 = some (.inl (0, 12, lo))) (hHi : zat h 170 = some (.inl (0, 12, hi))) (hFo : zat h 196 = some (.inr (.inl (6000, fo)))) (hOn : zat h 204 = some (.inl (0, 6, on))) (h200 : zat h 200 = some (.inl (0, 4096, pa))) (h202 : zat h 202 = some (.inl (0, 4096, pb))) (hDq : zat h 230 = some (.inl (0, 6, dq))) (hSg : zat h 222 = some (.inl (0, 6, sg)))  (kA : ∀ (h2 : zH) (m35 : Int32) (fo2 : List Int64) (on2 : List Int32) (pa2 : List Int32) (pb2 : List Int32), (wFr [162, 196, 204, 200, 202] h h2) → (h2.length = h.length) → (zat h2 162 = some (.inr (.inr (.inr (10, mO n0 n2 n14 n15 n16 n17 n18 n19 n20 n21 n22 n23 n27 n28 n32 n33 (mNum (mSol lo hi kn sg)) m35 n39 n52))))) → (zat h2 196 = some (.inr (.inl (6000, fo2)))) → (zat h2 204 = some (.inl (0, 6, on2))) → (zat h2 200 = some (.inl (0, 4096, pa2))) → (zat h2 202 = some (.inl (0, 4096, pb2))) → (wFe (fun q => fo.getD q 0) 5400 (mSol lo hi kn sg) fo2) → wq 280 285 [(0, .ref 162), (1, .int sd), (2, .int (nI N)), (3, .int 0), (4, .int (su + (0 : Int32))), (5, .int (nI i))] [] h2 0 0 Q) (kB : ∀ (h2 : zH) (m35 : Int32) (fo2 : List Int64) (on2 : List Int32) (pa2 : List Int32) (pb2 : List Int32), (wFr [162, 196, 204, 200, 202] h h2) → (h2.length = h.length) → (zat h2 162 = some (.inr (.inr (.inr (10, mO n0 n2 n14 n15 n16 n17 n18 n19 n20 n21 n22 n23 n27 n28 n32 n33 (mNum (mSol lo hi kn sg)) m35 n39 n52))))) → (zat h2 196 = some (.inr (.inl (6000, fo2)))) → (zat h2 204 = some (.inl (0, 6, on2))) → (zat h2 200 = some (.inl (0, 4096, pa2))) → (zat h2 202 = some (.inl (0, 4096, pb2))) → (wFe (fun q => fo.getD q 0) 5400 (mSol lo hi kn sg) fo2) → wq 280 285 [(0, .ref 162), (1, .int sd), (2, .int (nI N)), (3, .int 0), (4, .int (su + (1 : Int32))), (5, .int (nI i))] [] h2 0 0 Q) : wq 280 154 [(0, .ref 162), (1, .int sd), (2, .int (nI N)), (3, .int 0), (4, .int su), (5, .int (nI i))] [] h 0 0 Q := by
  refine wq_gos (f := 1) (pc2 := 161) (ls2 := [(0, .ref 162), (1, .int sd), (2, .int (nI N)), (3, .int 0), (4, .int su), (5, .int (nI i))]) (st2 := [.ref 162, .ref 162]) (h2 := h) (dc2 := 0) (ds2 := 0) 5 rfl ?_
  refine wq_getf rfl hM rfl rfl ?_
  refine wq_gos (f := 1) (pc2 := 167) (ls2 := [(0, .ref 162), (1, .int sd), (2, .int (nI N)), (3, .int 0), (4, .int su), (5, .int (nI i))]) (st2 := [.int 5400, .ref 222, .ref 162]) (h2 := h) (dc2 := 0) (ds2 := 0) 1 rfl ?_
  have q1x : (5400 : Int32).toInt = 5400 := rfl
  refine wq_inlv (y2 := 226) (as := [.ref 222, .int 5400]) rfl rfl rfl hM rfl (wq_mono (m_slv (o := 5400) hM hKn hLo hHi hFo hOn h200 h202 hSg (by omega) (Or.inr rfl)) ?_)
  rintro _ ⟨h82x, wn22x, fo22x, on22x, pa22x, pb22x, rfl, f82x, l82x, c02x, c12x, c22x, c32x, c42x, p02x⟩
  show wq 280 170 [(0, .ref 162), (1, .int sd), (2, .int (nI N)), (3, .int 0), (4, .int su), (5, .int (nI i))] [] h82x 0 0 _
  refine wq_gos (f := 1) (pc2 := 177) (ls2 := [(0, .ref 162), (1, .int sd), (2, .int (nI N)), (3, .int 0), (4, .int su), (5, .int (nI i))]) (st2 := [.ref 162, .int su]) (h2 := h82x) (dc2 := 0) (ds2 := 0) 4 rfl ?_
  refine wq_getf rfl c02x rfl rfl ?_
  refine wq_gos (f := 1) (pc2 := 182) (ls2 := [(0, .ref 162), (1, .int sd), (2, .int (nI N)), (3, .int 0), (4, .int su), (5, .int (nI i))]) (st2 := [.int (-3), .int (mNum (mSol lo hi kn sg)), .int su]) (h2 := h82x) (dc2 := 0) (ds2 := 0) 1 rfl ?_
  have q3x : (-3 : Int32).toInt = -3 := rfl
  refine wq_ne2 rfl rfl (fun b4x => ?_) (fun b4x => ?_)
  · have q5x : (mNum (mSol lo hi kn sg)).toInt ≠ -3 := fun q => b4x (Int32.toInt_inj.mp q)
    refine wq_gos (f := 1) (pc2 := 285) (ls2 := [(4, .int (su + (0 : Int32))), (0, .ref 162), (1, .int sd), (2, .int (nI N)), (3, .int 0), (5, .int (nI i))]) (st2 := []) (h2 := h82x) (dc2 := 0) (ds2 := 0) 4 rfl ?_
    refine wq_ls [(0, .ref 162), (1, .int sd), (2, .int (nI N)), (3, .int 0), (4, .int (su + (0 : Int32))), (5, .int (nI i))] (show ([0, 1, 2, 3, 4, 5] : List Nat).Nodup by decide) ⟨rfl, rfl, rfl, rfl, rfl, rfl, trivial⟩ ?_
    exact kA h82x wn22x fo22x on22x pa22x pb22x (wFr_sub f82x (by simp)) (by omega) c02x c12x c22x c32x c42x (by first | assumption | omega | decide | solve_by_elim)
  · have q6x : (mNum (mSol lo hi kn sg)).toInt = -3 := congrArg Int32.toInt b4x
    refine wq_gos (f := 1) (pc2 := 285) (ls2 := [(4, .int (su + (1 : Int32))), (0, .ref 162), (1, .int sd), (2, .int (nI N)), (3, .int 0), (5, .int (nI i))]) (st2 := []) (h2 := h82x) (dc2 := 0) (ds2 := 0) 5 rfl ?_
    refine wq_ls [(0, .ref 162), (1, .int sd), (2, .int (nI N)), (3, .int 0), (4, .int (su + (1 : Int32))), (5, .int (nI i))] (show ([0, 1, 2, 3, 4, 5] : List Nat).Nodup by decide) ⟨rfl, rfl, rfl, rfl, rfl, rfl, trivial⟩ ?_
    exact kB h82x wn22x fo22x on22x pa22x pb22x (wFr_sub f82x (by simp)) (by omega) c02x c12x c22x c32x c42x (by first | assumption | omega | decide | solve_by_elim)
set_option maxRecDepth 100000 in
set_option maxHeartbeats 4000000 in
theorem m_chB1 {h : zH} {Q : zR → Prop} {n0 n2 n14 n15 n16 n17 n18 n19 n20 n21 n22 n23 n27 n28 n32 n33 n34 n35 n39 n52 : Int32} {kn lo hi dq sg on pa pb : List Int32} {fo : List Int64} {sd su : Int32} {N i : Nat} (hM : zat h 162 = some (.inr (.inr (.inr (10, mO n0 n2 n14 n15 n16 n17 n18 n19 n20 n21 n22 n23 n27 n28 n32 n33 n34 n35 n39 n52))))) (hKn : zat h 166 = some (.inl (0, 14, kn))) (hLo : zat h 168 = some (.inl (0, 12, lo))) (hHi : zat h 170 = some (.inl (0, 12, hi))) (hFo : zat h 196 = some (.inr (.inl (6000, fo)))) (hOn : zat h 204 = some (.inl (0, 6, on))) (h200 : zat h 200 = some (.inl (0, 4096, pa))) (h202 : zat h 202 = some (.inl (0, 4096, pb))) (hDq : zat h 230 = some (.inl (0, 6, dq))) (hSg : zat h 222 = some (.inl (0, 6, sg)))  (kA : ∀ (h2 : zH) (m35 : Int32) (fo2 : List Int64) (on2 : List Int32) (pa2 : List Int32) (pb2 : List Int32), (wFr [162, 196, 204, 200, 202] h h2) → (h2.length = h.length) → (zat h2 162 = some (.inr (.inr (.inr (10, mO n0 n2 n14 n15 n16 n17 n18 n19 n20 n21 n22 n23 n27 n28 n32 n33 (mNum (mSol lo hi kn sg)) m35 n39 n52))))) → (zat h2 196 = some (.inr (.inl (6000, fo2)))) → (zat h2 204 = some (.inl (0, 6, on2))) → (zat h2 200 = some (.inl (0, 4096, pa2))) → (zat h2 202 = some (.inl (0, 4096, pb2))) → (wFe (fun q => fo.getD q 0) 5400 (mSol lo hi kn sg) fo2) → wq 280 285 [(0, .ref 162), (1, .int sd), (2, .int (nI N)), (3, .int 1), (4, .int (su + (0 : Int32))), (5, .int (nI i))] [] h2 0 0 Q) (kB : ∀ (h2 : zH) (m35 : Int32) (fo2 : List Int64) (on2 : List Int32) (pa2 : List Int32) (pb2 : List Int32), (wFr [162, 196, 204, 200, 202] h h2) → (h2.length = h.length) → (zat h2 162 = some (.inr (.inr (.inr (10, mO n0 n2 n14 n15 n16 n17 n18 n19 n20 n21 n22 n23 n27 n28 n32 n33 (mNum (mSol lo hi kn sg)) m35 n39 n52))))) → (zat h2 196 = some (.inr (.inl (6000, fo2)))) → (zat h2 204 = some (.inl (0, 6, on2))) → (zat h2 200 = some (.inl (0, 4096, pa2))) → (zat h2 202 = some (.inl (0, 4096, pb2))) → (wFe (fun q => fo.getD q 0) 5400 (mSol lo hi kn sg) fo2) → wq 280 285 [(0, .ref 162), (1, .int sd), (2, .int (nI N)), (3, .int 1), (4, .int (su + (mNum (mSol lo hi kn sg)))), (5, .int (nI i))] [] h2 0 0 Q) : wq 280 154 [(0, .ref 162), (1, .int sd), (2, .int (nI N)), (3, .int 1), (4, .int su), (5, .int (nI i))] [] h 0 0 Q := by
  refine wq_gos (f := 1) (pc2 := 161) (ls2 := [(0, .ref 162), (1, .int sd), (2, .int (nI N)), (3, .int 1), (4, .int su), (5, .int (nI i))]) (st2 := [.ref 162, .ref 162]) (h2 := h) (dc2 := 0) (ds2 := 0) 5 rfl ?_
  refine wq_getf rfl hM rfl rfl ?_
  refine wq_gos (f := 1) (pc2 := 167) (ls2 := [(0, .ref 162), (1, .int sd), (2, .int (nI N)), (3, .int 1), (4, .int su), (5, .int (nI i))]) (st2 := [.int 5400, .ref 222, .ref 162]) (h2 := h) (dc2 := 0) (ds2 := 0) 1 rfl ?_
  have q1x : (5400 : Int32).toInt = 5400 := rfl
  refine wq_inlv (y2 := 226) (as := [.ref 222, .int 5400]) rfl rfl rfl hM rfl (wq_mono (m_slv (o := 5400) hM hKn hLo hHi hFo hOn h200 h202 hSg (by omega) (Or.inr rfl)) ?_)
  rintro _ ⟨h82x, wn22x, fo22x, on22x, pa22x, pb22x, rfl, f82x, l82x, c02x, c12x, c22x, c32x, c42x, p02x⟩
  show wq 280 170 [(0, .ref 162), (1, .int sd), (2, .int (nI N)), (3, .int 1), (4, .int su), (5, .int (nI i))] [] h82x 0 0 _
  refine wq_gos (f := 1) (pc2 := 204) (ls2 := [(0, .ref 162), (1, .int sd), (2, .int (nI N)), (3, .int 1), (4, .int su), (5, .int (nI i))]) (st2 := [.ref 162, .int su]) (h2 := h82x) (dc2 := 0) (ds2 := 0) 7 rfl ?_
  refine wq_getf rfl c02x rfl rfl ?_
  refine wq_gos (f := 1) (pc2 := 209) (ls2 := [(0, .ref 162), (1, .int sd), (2, .int (nI N)), (3, .int 1), (4, .int su), (5, .int (nI i))]) (st2 := [.int (-3), .int (mNum (mSol lo hi kn sg)), .int su]) (h2 := h82x) (dc2 := 0) (ds2 := 0) 1 rfl ?_
  have q3x : (-3 : Int32).toInt = -3 := rfl
  refine wq_ne2 rfl rfl (fun b4x => ?_) (fun b4x => ?_)
  · have q5x : (mNum (mSol lo hi kn sg)).toInt ≠ -3 := fun q => b4x (Int32.toInt_inj.mp q)
    refine wq_gos (f := 1) (pc2 := 217) (ls2 := [(0, .ref 162), (1, .int sd), (2, .int (nI N)), (3, .int 1), (4, .int su), (5, .int (nI i))]) (st2 := [.ref 162, .int su]) (h2 := h82x) (dc2 := 0) (ds2 := 0) 1 rfl ?_
    refine wq_getf rfl c02x rfl rfl ?_
    refine wq_gos (f := 1) (pc2 := 285) (ls2 := [(4, .int (su + (mNum (mSol lo hi kn sg)))), (0, .ref 162), (1, .int sd), (2, .int (nI N)), (3, .int 1), (5, .int (nI i))]) (st2 := []) (h2 := h82x) (dc2 := 0) (ds2 := 0) 3 rfl ?_
    refine wq_ls [(0, .ref 162), (1, .int sd), (2, .int (nI N)), (3, .int 1), (4, .int (su + (mNum (mSol lo hi kn sg)))), (5, .int (nI i))] (show ([0, 1, 2, 3, 4, 5] : List Nat).Nodup by decide) ⟨rfl, rfl, rfl, rfl, rfl, rfl, trivial⟩ ?_
    exact kB h82x wn22x fo22x on22x pa22x pb22x (wFr_sub f82x (by simp)) (by omega) c02x c12x c22x c32x c42x (by first | assumption | omega | decide | solve_by_elim)
  · have q6x : (mNum (mSol lo hi kn sg)).toInt = -3 := congrArg Int32.toInt b4x
    refine wq_gos (f := 1) (pc2 := 285) (ls2 := [(4, .int (su + (0 : Int32))), (0, .ref 162), (1, .int sd), (2, .int (nI N)), (3, .int 1), (5, .int (nI i))]) (st2 := []) (h2 := h82x) (dc2 := 0) (ds2 := 0) 5 rfl ?_
    refine wq_ls [(0, .ref 162), (1, .int sd), (2, .int (nI N)), (3, .int 1), (4, .int (su + (0 : Int32))), (5, .int (nI i))] (show ([0, 1, 2, 3, 4, 5] : List Nat).Nodup by decide) ⟨rfl, rfl, rfl, rfl, rfl, rfl, trivial⟩ ?_
    exact kA h82x wn22x fo22x on22x pa22x pb22x (wFr_sub f82x (by simp)) (by omega) c02x c12x c22x c32x c42x (by first | assumption | omega | decide | solve_by_elim)
set_option maxRecDepth 100000 in
set_option maxHeartbeats 4000000 in
theorem m_chB2 {h : zH} {Q : zR → Prop} {n0 n2 n14 n15 n16 n17 n18 n19 n20 n21 n22 n23 n27 n28 n32 n33 n34 n35 n39 n52 : Int32} {kn lo hi dq sg on pa pb : List Int32} {fo : List Int64} {sd su : Int32} {N i : Nat} (hM : zat h 162 = some (.inr (.inr (.inr (10, mO n0 n2 n14 n15 n16 n17 n18 n19 n20 n21 n22 n23 n27 n28 n32 n33 n34 n35 n39 n52))))) (hKn : zat h 166 = some (.inl (0, 14, kn))) (hLo : zat h 168 = some (.inl (0, 12, lo))) (hHi : zat h 170 = some (.inl (0, 12, hi))) (hFo : zat h 196 = some (.inr (.inl (6000, fo)))) (hOn : zat h 204 = some (.inl (0, 6, on))) (h200 : zat h 200 = some (.inl (0, 4096, pa))) (h202 : zat h 202 = some (.inl (0, 4096, pb))) (hDq : zat h 230 = some (.inl (0, 6, dq))) (hSg : zat h 222 = some (.inl (0, 6, sg)))  (kA : ∀ (h2 : zH) (m35 : Int32) (fo2 : List Int64) (on2 : List Int32) (pa2 : List Int32) (pb2 : List Int32), (wFr [162, 196, 204, 200, 202] h h2) → (h2.length = h.length) → (zat h2 162 = some (.inr (.inr (.inr (10, mO n0 n2 n14 n15 n16 n17 n18 n19 n20 n21 n22 n23 n27 n28 n32 n33 (mNum (mSol lo hi kn sg)) m35 n39 n52))))) → (zat h2 196 = some (.inr (.inl (6000, fo2)))) → (zat h2 204 = some (.inl (0, 6, on2))) → (zat h2 200 = some (.inl (0, 4096, pa2))) → (zat h2 202 = some (.inl (0, 4096, pb2))) → (wFe (fun q => fo.getD q 0) 5400 (mSol lo hi kn sg) fo2) → wq 280 285 [(0, .ref 162), (1, .int sd), (2, .int (nI N)), (3, .int 2), (4, .int (su + (0 : Int32))), (5, .int (nI i))] [] h2 0 0 Q) (kB : ∀ (h2 : zH) (m35 : Int32) (fo2 : List Int64) (on2 : List Int32) (pa2 : List Int32) (pb2 : List Int32), (wFr [162, 196, 204, 200, 202] h h2) → (h2.length = h.length) → (zat h2 162 = some (.inr (.inr (.inr (10, mO n0 n2 n14 n15 n16 n17 n18 n19 n20 n21 n22 n23 n27 n28 n32 n33 (mNum (mSol lo hi kn sg)) m35 n39 n52))))) → (zat h2 196 = some (.inr (.inl (6000, fo2)))) → (zat h2 204 = some (.inl (0, 6, on2))) → (zat h2 200 = some (.inl (0, 4096, pa2))) → (zat h2 202 = some (.inl (0, 4096, pb2))) → (wFe (fun q => fo.getD q 0) 5400 (mSol lo hi kn sg) fo2) → wq 280 285 [(0, .ref 162), (1, .int sd), (2, .int (nI N)), (3, .int 2), (4, .int (su + (1 : Int32))), (5, .int (nI i))] [] h2 0 0 Q) : wq 280 154 [(0, .ref 162), (1, .int sd), (2, .int (nI N)), (3, .int 2), (4, .int su), (5, .int (nI i))] [] h 0 0 Q := by
  refine wq_gos (f := 1) (pc2 := 161) (ls2 := [(0, .ref 162), (1, .int sd), (2, .int (nI N)), (3, .int 2), (4, .int su), (5, .int (nI i))]) (st2 := [.ref 162, .ref 162]) (h2 := h) (dc2 := 0) (ds2 := 0) 5 rfl ?_
  refine wq_getf rfl hM rfl rfl ?_
  refine wq_gos (f := 1) (pc2 := 167) (ls2 := [(0, .ref 162), (1, .int sd), (2, .int (nI N)), (3, .int 2), (4, .int su), (5, .int (nI i))]) (st2 := [.int 5400, .ref 222, .ref 162]) (h2 := h) (dc2 := 0) (ds2 := 0) 1 rfl ?_
  have q1x : (5400 : Int32).toInt = 5400 := rfl
  refine wq_inlv (y2 := 226) (as := [.ref 222, .int 5400]) rfl rfl rfl hM rfl (wq_mono (m_slv (o := 5400) hM hKn hLo hHi hFo hOn h200 h202 hSg (by omega) (Or.inr rfl)) ?_)
  rintro _ ⟨h82x, wn22x, fo22x, on22x, pa22x, pb22x, rfl, f82x, l82x, c02x, c12x, c22x, c32x, c42x, p02x⟩
  show wq 280 170 [(0, .ref 162), (1, .int sd), (2, .int (nI N)), (3, .int 2), (4, .int su), (5, .int (nI i))] [] h82x 0 0 _
  refine wq_gos (f := 1) (pc2 := 234) (ls2 := [(0, .ref 162), (1, .int sd), (2, .int (nI N)), (3, .int 2), (4, .int su), (5, .int (nI i))]) (st2 := [.ref 162, .int su]) (h2 := h82x) (dc2 := 0) (ds2 := 0) 10 rfl ?_
  refine wq_getf rfl c02x rfl rfl ?_
  refine wq_gos (f := 1) (pc2 := 239) (ls2 := [(0, .ref 162), (1, .int sd), (2, .int (nI N)), (3, .int 2), (4, .int su), (5, .int (nI i))]) (st2 := [.int (-3), .int (mNum (mSol lo hi kn sg)), .int su]) (h2 := h82x) (dc2 := 0) (ds2 := 0) 1 rfl ?_
  have q3x : (-3 : Int32).toInt = -3 := rfl
  refine wq_eq2 rfl rfl (fun b4x => ?_) (fun b4x => ?_)
  · have q5x : (mNum (mSol lo hi kn sg)).toInt = -3 := congrArg Int32.toInt b4x
    refine wq_gos (f := 1) (pc2 := 285) (ls2 := [(4, .int (su + (0 : Int32))), (0, .ref 162), (1, .int sd), (2, .int (nI N)), (3, .int 2), (5, .int (nI i))]) (st2 := []) (h2 := h82x) (dc2 := 0) (ds2 := 0) 4 rfl ?_
    refine wq_ls [(0, .ref 162), (1, .int sd), (2, .int (nI N)), (3, .int 2), (4, .int (su + (0 : Int32))), (5, .int (nI i))] (show ([0, 1, 2, 3, 4, 5] : List Nat).Nodup by decide) ⟨rfl, rfl, rfl, rfl, rfl, rfl, trivial⟩ ?_
    exact kA h82x wn22x fo22x on22x pa22x pb22x (wFr_sub f82x (by simp)) (by omega) c02x c12x c22x c32x c42x (by first | assumption | omega | decide | solve_by_elim)
  · have q6x : (mNum (mSol lo hi kn sg)).toInt ≠ -3 := fun q => b4x (Int32.toInt_inj.mp q)
    refine wq_gos (f := 1) (pc2 := 244) (ls2 := [(0, .ref 162), (1, .int sd), (2, .int (nI N)), (3, .int 2), (4, .int su), (5, .int (nI i))]) (st2 := [.ref 162, .ref 162, .int su]) (h2 := h82x) (dc2 := 0) (ds2 := 0) 2 rfl ?_
    refine wq_getf rfl c02x rfl rfl ?_
    have e7x := (f82x.2 _ _ (wnc (by decide) (wnc (by decide) (wnc (by decide) (wnc (by decide) (wnc (by decide) wn0))))) hDq)
    refine wq_inlv (y2 := 279) (as := [.ref 230]) rfl rfl rfl c02x rfl (m_am c02x c12x e7x (mNum_le (o := 5400) (by assumption)) ?_ ?_)
    · skip
      show wq 280 250 [(0, .ref 162), (1, .int sd), (2, .int (nI N)), (3, .int 2), (4, .int su), (5, .int (nI i))] [.int 0, .int su] h82x 0 0 _
      refine wq_gos (f := 1) (pc2 := 285) (ls2 := [(4, .int (su + (0 : Int32))), (0, .ref 162), (1, .int sd), (2, .int (nI N)), (3, .int 2), (5, .int (nI i))]) (st2 := []) (h2 := h82x) (dc2 := 0) (ds2 := 0) 5 rfl ?_
      refine wq_ls [(0, .ref 162), (1, .int sd), (2, .int (nI N)), (3, .int 2), (4, .int (su + (0 : Int32))), (5, .int (nI i))] (show ([0, 1, 2, 3, 4, 5] : List Nat).Nodup by decide) ⟨rfl, rfl, rfl, rfl, rfl, rfl, trivial⟩ ?_
      exact kA h82x wn22x fo22x on22x pa22x pb22x (wFr_sub f82x (by simp)) (by omega) c02x c12x c22x c32x c42x (by first | assumption | omega | decide | solve_by_elim)
    · skip
      show wq 280 250 [(0, .ref 162), (1, .int sd), (2, .int (nI N)), (3, .int 2), (4, .int su), (5, .int (nI i))] [.int 1, .int su] h82x 0 0 _
      refine wq_gos (f := 1) (pc2 := 285) (ls2 := [(4, .int (su + (1 : Int32))), (0, .ref 162), (1, .int sd), (2, .int (nI N)), (3, .int 2), (5, .int (nI i))]) (st2 := []) (h2 := h82x) (dc2 := 0) (ds2 := 0) 6 rfl ?_
      refine wq_ls [(0, .ref 162), (1, .int sd), (2, .int (nI N)), (3, .int 2), (4, .int (su + (1 : Int32))), (5, .int (nI i))] (show ([0, 1, 2, 3, 4, 5] : List Nat).Nodup by decide) ⟨rfl, rfl, rfl, rfl, rfl, rfl, trivial⟩ ?_
      exact kB h82x wn22x fo22x on22x pa22x pb22x (wFr_sub f82x (by simp)) (by omega) c02x c12x c22x c32x c42x (by first | assumption | omega | decide | solve_by_elim)
set_option maxRecDepth 100000 in
set_option maxHeartbeats 4000000 in
theorem m_chB3 {h : zH} {Q : zR → Prop} {n0 n2 n14 n15 n16 n17 n18 n19 n20 n21 n22 n23 n27 n28 n32 n33 n34 n35 n39 n52 : Int32} {kn lo hi dq sg on pa pb : List Int32} {fo : List Int64} {sd su : Int32} {N i : Nat} (hM : zat h 162 = some (.inr (.inr (.inr (10, mO n0 n2 n14 n15 n16 n17 n18 n19 n20 n21 n22 n23 n27 n28 n32 n33 n34 n35 n39 n52))))) (hKn : zat h 166 = some (.inl (0, 14, kn))) (hLo : zat h 168 = some (.inl (0, 12, lo))) (hHi : zat h 170 = some (.inl (0, 12, hi))) (hFo : zat h 196 = some (.inr (.inl (6000, fo)))) (hOn : zat h 204 = some (.inl (0, 6, on))) (h200 : zat h 200 = some (.inl (0, 4096, pa))) (h202 : zat h 202 = some (.inl (0, 4096, pb))) (hDq : zat h 230 = some (.inl (0, 6, dq))) (hSg : zat h 222 = some (.inl (0, 6, sg)))  (kA : wq 280 285 [(0, .ref 162), (1, .int sd), (2, .int (nI N)), (3, .int 3), (4, .int (su + (0 : Int32))), (5, .int (nI i))] [] h 0 0 Q) (kB : wq 280 285 [(0, .ref 162), (1, .int sd), (2, .int (nI N)), (3, .int 3), (4, .int (su + (1 : Int32))), (5, .int (nI i))] [] h 0 0 Q) : wq 280 154 [(0, .ref 162), (1, .int sd), (2, .int (nI N)), (3, .int 3), (4, .int su), (5, .int (nI i))] [] h 0 0 Q := by
  refine wq_gos (f := 1) (pc2 := 267) (ls2 := [(0, .ref 162), (1, .int sd), (2, .int (nI N)), (3, .int 3), (4, .int su), (5, .int (nI i))]) (st2 := [.ref 162, .int su]) (h2 := h) (dc2 := 0) (ds2 := 0) 13 rfl ?_
  refine wq_getf rfl hM rfl rfl ?_
  refine wq_gos (f := 1) (pc2 := 271) (ls2 := [(0, .ref 162), (1, .int sd), (2, .int (nI N)), (3, .int 3), (4, .int su), (5, .int (nI i))]) (st2 := [.int 0, .ref 230, .int su]) (h2 := h) (dc2 := 0) (ds2 := 0) 1 rfl ?_
  have q1x : (0 : Int32).toInt = 0 := rfl
  refine wq_inl (y2 := 206) (as := [.ref 230, .int 0]) rfl rfl rfl (wq_mono (m_meav (k := 0) hDq (by decide)) ?_)
  rintro _ rfl
  show wq 280 274 [(0, .ref 162), (1, .int sd), (2, .int (nI N)), (3, .int 3), (4, .int su), (5, .int (nI i))] [.int (mMea dq 0), .int su] h 0 0 _
  refine wq_ne0 rfl rfl (fun b3x => ?_) (fun b3x => ?_)
  · have q4x : (mMea dq 0).toInt ≠ 0 := fun q => b3x (Int32.toInt_inj.mp q)
    refine wq_gos (f := 1) (pc2 := 285) (ls2 := [(4, .int (su + (0 : Int32))), (0, .ref 162), (1, .int sd), (2, .int (nI N)), (3, .int 3), (5, .int (nI i))]) (st2 := []) (h2 := h) (dc2 := 0) (ds2 := 0) 3 rfl ?_
    refine wq_ls [(0, .ref 162), (1, .int sd), (2, .int (nI N)), (3, .int 3), (4, .int (su + (0 : Int32))), (5, .int (nI i))] (show ([0, 1, 2, 3, 4, 5] : List Nat).Nodup by decide) ⟨rfl, rfl, rfl, rfl, rfl, rfl, trivial⟩ ?_
    exact kA 
  · have q5x : (mMea dq 0).toInt = 0 := congrArg Int32.toInt b3x
    refine wq_gos (f := 1) (pc2 := 285) (ls2 := [(4, .int (su + (1 : Int32))), (0, .ref 162), (1, .int sd), (2, .int (nI N)), (3, .int 3), (5, .int (nI i))]) (st2 := []) (h2 := h) (dc2 := 0) (ds2 := 0) 4 rfl ?_
    refine wq_ls [(0, .ref 162), (1, .int sd), (2, .int (nI N)), (3, .int 3), (4, .int (su + (1 : Int32))), (5, .int (nI i))] (show ([0, 1, 2, 3, 4, 5] : List Nat).Nodup by decide) ⟨rfl, rfl, rfl, rfl, rfl, rfl, trivial⟩ ?_
    exact kB 
