/-! The reference: the calls of a route. -/
/-- the reference between the pieces of a call of a route -/
noncomputable def mIv (h0 h : zH) (wn : Nat) (kn lo hi sv sq wy nw : List Int32) (n0 n2 n14 n15 n16 n17 n18 n19 n20 n21 n22 n23 n27 n28 n32 n33 n39 n52 : Int32) (am9 : mS) : Prop := wFr [162, 194, 222, 196, 204, 200, 202, 198, 208, 206, 220, 210, 212, 214, 216, 218, 224] h0 h ∧ h.length = h0.length ∧ ∃ (fo : List Int64) (sm hr tk : List Int32), mTx h wn kn lo hi sv sq wy ∧ mSl h n0 n2 n14 n15 n16 n17 n18 n19 n20 n21 n22 n23 n27 n28 n32 n33 n39 n52 fo sm ∧ (∀ w, w < 8 → mSP fo sm w) ∧ wFd 4800 am9 fo ∧ zat h 188 = some (.inl (0, 6, nw)) ∧ mJb nw 0 ∧ mRr h wn hr ∧ zat h 224 = some (.inl (0, 6, tk))
theorem mRr_fr {h h2 : zH} {wn : Nat} {hr : List Int32} {S : List Nat} (k : mRr h wn hr) (f : wFr S h h2) (hS : ∀ q ∈ [208, 206, 220, 210, 212, 214, 216, 218], q ∉ S) : mRr h2 wn hr := by
  obtain ⟨tg, h1, t1, ri, pa, ch, co, a1, a2, a3, a4, a5, a6, a7, a8, a9⟩ := k
  exact ⟨tg, h1, t1, ri, pa, ch, co, wFr_at f (hS _ (by simp)) a1, wFr_at f (hS _ (by simp)) a2, wFr_at f (hS _ (by simp)) a3, wFr_at f (hS _ (by simp)) a4, wFr_at f (hS _ (by simp)) a5, wFr_at f (hS _ (by simp)) a6, wFr_at f (hS _ (by simp)) a7, wFr_at f (hS _ (by simp)) a8, a9⟩
theorem mIv_0 {h0 h h2 : zH} {wn : Nat} {kn lo hi sv sq wy nw : List Int32} {n0 n2 n14 n15 n16 n17 n18 n19 n20 n21 n22 n23 n27 n28 n32 n33 n34 n35 n39 n52 : Int32} {am9 : mS} (k : mIv h0 h wn kn lo hi sv sq wy nw n0 n2 n14 n15 n16 n17 n18 n19 n20 n21 n22 n23 n27 n28 n32 n33 n39 n52 am9) (f : wFr [162] h h2) (l : h2.length = h.length) (e : zat h2 162 = some (.inr (.inr (.inr (10, mO 0 n2 n14 n15 n16 n17 n18 n19 n20 n21 n22 n23 n27 n28 n32 n33 n34 n35 n39 n52))))) : mIv h0 h2 wn kn lo hi sv sq wy nw 0 n2 n14 n15 n16 n17 n18 n19 n20 n21 n22 n23 n27 n28 n32 n33 n39 n52 am9 := by
  obtain ⟨f0, l0, fo, sm, hr, tk, hT, hS, hP, hF, hN, hb, hR, hK⟩ := k
  obtain ⟨m34, m35, on, pa, pb, th, sg, c1, c2, c3, c4, c5, c6, c7, c8⟩ := hS
  exact ⟨wFr_tr f0 (wFr_sub f (by decide)), l.trans l0, fo, sm, hr, tk, mTx_fr hT f (by decide), ⟨n34, n35, on, pa, pb, th, sg, e, wFr_at f (by decide) c2, wFr_at f (by decide) c3, wFr_at f (by decide) c4, wFr_at f (by decide) c5, wFr_at f (by decide) c6, wFr_at f (by decide) c7, wFr_at f (by decide) c8⟩, hP, hF, wFr_at f (by decide) hN, hb, mRr_fr hR f (by decide), wFr_at f (by decide) hK⟩
theorem mIv_w {h0 h h2 : zH} {wn : Nat} {kn lo hi sv sq wy nw tk2 th2 : List Int32} {n0 n2 n14 n15 n16 n17 n18 n19 n20 n21 n22 n23 n27 n28 n32 n33 n39 n52 : Int32} {am9 : mS} (k : mIv h0 h wn kn lo hi sv sq wy nw n0 n2 n14 n15 n16 n17 n18 n19 n20 n21 n22 n23 n27 n28 n32 n33 n39 n52 am9) (f : wFr [224, 194] h h2) (l : h2.length = h.length) (e1 : zat h2 224 = some (.inl (0, 6, tk2))) (e2 : zat h2 194 = some (.inl (0, 6, th2))) : mIv h0 h2 wn kn lo hi sv sq wy nw n0 n2 n14 n15 n16 n17 n18 n19 n20 n21 n22 n23 n27 n28 n32 n33 n39 n52 am9 := by
  obtain ⟨f0, l0, fo, sm, hr, tk, hT, hS, hP, hF, hN, hb, hR, hK⟩ := k
  obtain ⟨m34, m35, on, pa, pb, th, sg, c1, c2, c3, c4, c5, c6, c7, c8⟩ := hS
  exact ⟨wFr_tr f0 (wFr_sub f (by decide)), l.trans l0, fo, sm, hr, tk2, mTx_fr hT f (by decide), ⟨m34, m35, on, pa, pb, th2, sg, wFr_at f (by decide) c1, wFr_at f (by decide) c2, wFr_at f (by decide) c3, wFr_at f (by decide) c4, wFr_at f (by decide) c5, e2, wFr_at f (by decide) c7, wFr_at f (by decide) c8⟩, hP, hF, wFr_at f (by decide) hN, hb, mRr_fr hR f (by decide), e1⟩
theorem m_use0 {h0 h : zH} {Q : zR → Prop} {wn : Nat} {kn lo hi sv sq wy nw : List Int32} {n0 n2 n14 n15 n16 n17 n18 n19 n20 n21 n22 n23 n27 n28 n32 n33 n34 n35 n39 n52 : Int32} {am9 : mS} (hM : zat h 162 = some (.inr (.inr (.inr (10, mO n0 n2 n14 n15 n16 n17 n18 n19 n20 n21 n22 n23 n27 n28 n32 n33 n34 n35 n39 n52))))) (hI : mIv h0 h wn kn lo hi sv sq wy nw n0 n2 n14 n15 n16 n17 n18 n19 n20 n21 n22 n23 n27 n28 n32 n33 n39 n52 am9) (kN : ∀ (h2 : zH) (m34 : Int32) (m35 : Int32) (ri : List Int32) (pa : List Int32) (ch : List Int32) (co : List Int32) (tk : List Int32) (th : List Int32), True → h2.length = h0.length → zat h2 162 = some (.inr (.inr (.inr (10, mO n0 n2 n14 n15 n16 n17 n18 n19 n20 n21 n22 n23 n27 n28 n32 n33 m34 m35 n39 n52)))) → zat h2 166 = some (.inl (0, 14, kn)) → zat h2 210 = some (.inl (0, 2, ri)) → zat h2 214 = some (.inl (0, 132, pa)) → zat h2 216 = some (.inl (0, 20, ch)) → zat h2 218 = some (.inl (0, 22, co)) → zat h2 224 = some (.inl (0, 6, tk)) → zat h2 194 = some (.inl (0, 6, th)) → ((ri.getD 0 0).toInt < 0) → (mIv h0 h2 wn kn lo hi sv sq wy nw n0 n2 n14 n15 n16 n17 n18 n19 n20 n21 n22 n23 n27 n28 n32 n33 n39 n52 am9) → Q (none, h2, 0, 0)) (kT : ∀ (h2 : zH) (m34 : Int32) (m35 : Int32) (ri : List Int32) (pa : List Int32) (ch : List Int32) (co : List Int32) (tk : List Int32) (th : List Int32) (T9 : Nat), True → h2.length = h0.length → zat h2 162 = some (.inr (.inr (.inr (10, mO n0 n2 n14 n15 n16 n17 n18 n19 n20 n21 n22 n23 n27 n28 n32 n33 m34 m35 n39 n52)))) → zat h2 166 = some (.inl (0, 14, kn)) → zat h2 210 = some (.inl (0, 2, ri)) → zat h2 214 = some (.inl (0, 132, pa)) → zat h2 216 = some (.inl (0, 20, ch)) → zat h2 218 = some (.inl (0, 22, co)) → zat h2 224 = some (.inl (0, 6, tk)) → zat h2 194 = some (.inl (0, 6, th)) → (ri.getD 0 0 = nI T9) → (T9 ≤ 30000) → (mRt 0 wn pa co) → (∀ q, q < 22 → -100000 ≤ (co.getD q 0).toInt ∧ (co.getD q 0).toInt ≤ 100000) → (mIv h0 h2 wn kn lo hi sv sq wy nw n0 n2 n14 n15 n16 n17 n18 n19 n20 n21 n22 n23 n27 n28 n32 n33 n39 n52 am9) → Q (none, h2, 0, 0)) : wq 249 0 [(0, .ref 162), (1, .int 0)] [] h 0 0 Q := by
  obtain ⟨f0, l0, fo, sm, hr, tk, hT, hS, hP, hF, hN, hb, hR, hK⟩ := hI
  refine wq_mono (m_lay0 hT hS hP hF hN hb hR) ?_
  rintro _ ⟨h2, fo2, sm2, hr2, rfl, f, l, hT2, hS2, hP2, hF2, hN2, hR2, hne⟩
  have hK2 := wFr_at f (by decide) hK
  have hIv : mIv h0 h2 wn kn lo hi sv sq wy nw n0 n2 n14 n15 n16 n17 n18 n19 n20 n21 n22 n23 n27 n28 n32 n33 n39 n52 am9 := ⟨wFr_tr f0 (wFr_sub f (by decide)), l.trans l0, fo2, sm2, hr2, tk, hT2, hS2, hP2, hF2, hN2, hb, hR2, hK2⟩
  obtain ⟨m34, m35, on, pa9, pb9, th, sg, c1, c2, c3, c4, c5, c6, c7, c8⟩ := hS2
  obtain ⟨tg, h1, t1, ri, pa, ch, co, g1, g2, g3, g4, g5, g6, g7, g8, gk⟩ := hR2
  obtain ⟨q1, q2⟩ := gk.2 0 (by decide) hne
  by_cases e : (ri.getD 0 0).toInt < 0
  · exact kN h2 m34 m35 ri pa ch co tk th trivial (l.trans l0) c1 hT2.1 g4 g6 g7 g8 hK2 c6 e hIv
  · have e1 : ri.getD 0 0 = nI (ri.getD 0 0).toNatClampNeg := nI_cl (by omega)
    have e2 : (ri.getD 0 0).toNatClampNeg ≤ 30000 := by show (ri.getD 0 0).toInt.toNat ≤ 30000; omega
    exact kT h2 m34 m35 ri pa ch co tk th _ trivial (l.trans l0) c1 hT2.1 g4 g6 g7 g8 hK2 c6 e1 e2 (q2 (by omega)) gk.1 hIv
theorem m_use1 {h0 h : zH} {Q : zR → Prop} {wn : Nat} {kn lo hi sv sq wy nw : List Int32} {n0 n2 n14 n15 n16 n17 n18 n19 n20 n21 n22 n23 n27 n28 n32 n33 n34 n35 n39 n52 : Int32} {am9 : mS} (hM : zat h 162 = some (.inr (.inr (.inr (10, mO n0 n2 n14 n15 n16 n17 n18 n19 n20 n21 n22 n23 n27 n28 n32 n33 n34 n35 n39 n52))))) (hI : mIv h0 h wn kn lo hi sv sq wy nw n0 n2 n14 n15 n16 n17 n18 n19 n20 n21 n22 n23 n27 n28 n32 n33 n39 n52 am9) (kN : ∀ (h2 : zH) (m34 : Int32) (m35 : Int32) (ri : List Int32) (pa : List Int32) (ch : List Int32) (co : List Int32) (tk : List Int32) (th : List Int32), True → h2.length = h0.length → zat h2 162 = some (.inr (.inr (.inr (10, mO n0 n2 n14 n15 n16 n17 n18 n19 n20 n21 n22 n23 n27 n28 n32 n33 m34 m35 n39 n52)))) → zat h2 166 = some (.inl (0, 14, kn)) → zat h2 210 = some (.inl (0, 2, ri)) → zat h2 214 = some (.inl (0, 132, pa)) → zat h2 216 = some (.inl (0, 20, ch)) → zat h2 218 = some (.inl (0, 22, co)) → zat h2 224 = some (.inl (0, 6, tk)) → zat h2 194 = some (.inl (0, 6, th)) → ((ri.getD 1 0).toInt < 0) → (mIv h0 h2 wn kn lo hi sv sq wy nw n0 n2 n14 n15 n16 n17 n18 n19 n20 n21 n22 n23 n27 n28 n32 n33 n39 n52 am9) → Q (none, h2, 0, 0)) (kT : ∀ (h2 : zH) (m34 : Int32) (m35 : Int32) (ri : List Int32) (pa : List Int32) (ch : List Int32) (co : List Int32) (tk : List Int32) (th : List Int32) (T9 : Nat), True → h2.length = h0.length → zat h2 162 = some (.inr (.inr (.inr (10, mO n0 n2 n14 n15 n16 n17 n18 n19 n20 n21 n22 n23 n27 n28 n32 n33 m34 m35 n39 n52)))) → zat h2 166 = some (.inl (0, 14, kn)) → zat h2 210 = some (.inl (0, 2, ri)) → zat h2 214 = some (.inl (0, 132, pa)) → zat h2 216 = some (.inl (0, 20, ch)) → zat h2 218 = some (.inl (0, 22, co)) → zat h2 224 = some (.inl (0, 6, tk)) → zat h2 194 = some (.inl (0, 6, th)) → (ri.getD 1 0 = nI T9) → (T9 ≤ 30000) → (mRt 1 wn pa co) → (∀ q, q < 22 → -100000 ≤ (co.getD q 0).toInt ∧ (co.getD q 0).toInt ≤ 100000) → (mIv h0 h2 wn kn lo hi sv sq wy nw n0 n2 n14 n15 n16 n17 n18 n19 n20 n21 n22 n23 n27 n28 n32 n33 n39 n52 am9) → Q (none, h2, 0, 0)) : wq 249 0 [(0, .ref 162), (1, .int 1)] [] h 0 0 Q := by
  obtain ⟨f0, l0, fo, sm, hr, tk, hT, hS, hP, hF, hN, hb, hR, hK⟩ := hI
  refine wq_mono (m_lay1 hT hS hP hF hN hb hR) ?_
  rintro _ ⟨h2, fo2, sm2, hr2, rfl, f, l, hT2, hS2, hP2, hF2, hN2, hR2, hne⟩
  have hK2 := wFr_at f (by decide) hK
  have hIv : mIv h0 h2 wn kn lo hi sv sq wy nw n0 n2 n14 n15 n16 n17 n18 n19 n20 n21 n22 n23 n27 n28 n32 n33 n39 n52 am9 := ⟨wFr_tr f0 (wFr_sub f (by decide)), l.trans l0, fo2, sm2, hr2, tk, hT2, hS2, hP2, hF2, hN2, hb, hR2, hK2⟩
  obtain ⟨m34, m35, on, pa9, pb9, th, sg, c1, c2, c3, c4, c5, c6, c7, c8⟩ := hS2
  obtain ⟨tg, h1, t1, ri, pa, ch, co, g1, g2, g3, g4, g5, g6, g7, g8, gk⟩ := hR2
  obtain ⟨q1, q2⟩ := gk.2 1 (by decide) hne
  by_cases e : (ri.getD 1 0).toInt < 0
  · exact kN h2 m34 m35 ri pa ch co tk th trivial (l.trans l0) c1 hT2.1 g4 g6 g7 g8 hK2 c6 e hIv
  · have e1 : ri.getD 1 0 = nI (ri.getD 1 0).toNatClampNeg := nI_cl (by omega)
    have e2 : (ri.getD 1 0).toNatClampNeg ≤ 30000 := by show (ri.getD 1 0).toInt.toNat ≤ 30000; omega
    exact kT h2 m34 m35 ri pa ch co tk th _ trivial (l.trans l0) c1 hT2.1 g4 g6 g7 g8 hK2 c6 e1 e2 (q2 (by omega)) gk.1 hIv
noncomputable def mtuF0 (pa co : List Int32) (wn n : Nat) (w9 : Int32) : Nat → Int32 → Int32 → Nat → List Int32 → Int32 × List Int32
  | 0, _, _, _, tk => (0, tk)
  | m + 1, c, b, k, tk => (if (nI n).toInt < (nI k).toInt then (c, tk) else (if w9 ≠ (0 : Int32) then (if (mBen (mTick tk pa co wn 0 (nI k)) 0) ≠ b then (mtuF0 pa co wn n w9 m (c + (1 : Int32)) (mBen (mTick tk pa co wn 0 (nI k)) 0) (k + 1) (mTick tk pa co wn 0 (nI k))) else (mtuF0 pa co wn n w9 m (c + (0 : Int32)) (mBen (mTick tk pa co wn 0 (nI k)) 0) (k + 1) (mTick tk pa co wn 0 (nI k)))) else (if (mSid (mTick tk pa co wn 0 (nI k)) 0) ≠ b then (mtuF0 pa co wn n w9 m (c + (1 : Int32)) (mSid (mTick tk pa co wn 0 (nI k)) 0) (k + 1) (mTick tk pa co wn 0 (nI k))) else (mtuF0 pa co wn n w9 m (c + (0 : Int32)) (mSid (mTick tk pa co wn 0 (nI k)) 0) (k + 1) (mTick tk pa co wn 0 (nI k))))))
set_option maxRecDepth 100000 in
set_option maxHeartbeats 4000000 in
theorem m_tuL0 {n0 n2 n14 n15 n16 n17 n18 n19 n20 n21 n22 n23 n27 n28 n32 n33 n34 n35 n39 n52 : Int32} {kn pa co : List Int32} {wn : Nat} {n : Nat} {w9 : Int32} (hkw : kn.getD 6 0 = nI wn ∧ wn ≤ 10) (hn : n ≤ 30000) : ∀ (m : Nat) (c : Int32) (b : Int32) (k : Nat) (tk : List Int32) (h : zH) , (zat h 162 = some (.inr (.inr (.inr (10, mO n0 n2 n14 n15 n16 n17 n18 n19 n20 n21 n22 n23 n27 n28 n32 n33 n34 n35 n39 n52))))) → (zat h 166 = some (.inl (0, 14, kn))) → (zat h 214 = some (.inl (0, 132, pa))) → (zat h 218 = some (.inl (0, 22, co))) → (zat h 224 = some (.inl (0, 6, tk))) → (k ≤ n + 1) → (n + 1 - k) < m → ∀ (dc ds : Nat), wq 264 37 [(0, .ref 162), (1, .int 0), (2, .int (nI n)), (3, .int w9), (4, .int c), (5, .int b), (6, .int (nI k))] [] h dc ds (fun rr9 => ∃ (h2 : zH) , rr9 = (some (Value.int ((mtuF0 pa co wn n w9 m c b k tk).1)), h2, dc, ds) ∧ wFr [224] h h2 ∧ h2.length = h.length ∧ zat h2 224 = some (.inl (0, 6, ((mtuF0 pa co wn n w9 m c b k tk).2)))) := by
  intro m
  induction m with
  | zero => intro c b k tk h hM hK hPa hCo hTk hk hms dc ds; omega
  | succ m ih =>
    intro c b k tk h hM hK hPa hCo hTk hk hms dc ds
    have qnk := nI_toInt (n := k) (by omega)
    have qnn := nI_toInt (n := n) (by omega)
    refine wq_gos (f := 1) (pc2 := 40) (ls2 := [(0, .ref 162), (1, .int 0), (2, .int (nI n)), (3, .int w9), (4, .int c), (5, .int b), (6, .int (nI k))]) (st2 := [.int (nI n), .int (nI k)]) (h2 := h) (dc2 := dc) (ds2 := ds) 2 rfl ?_
    try have q1x := nI_toInt (n := k) (by omega)
    try have q2x := nI_toInt (n := n) (by omega)
    refine wq_gt2 rfl rfl (fun b3x => ?_) (fun b3x => ?_)
    · refine wq_gos (f := 1) (pc2 := 104) (ls2 := [(0, .ref 162), (1, .int 0), (2, .int (nI n)), (3, .int w9), (4, .int c), (5, .int b), (6, .int (nI k))]) (st2 := [.int c]) (h2 := h) (dc2 := dc) (ds2 := ds) 1 rfl ?_
      have hx : (mtuF0 pa co wn n w9 (m + 1) c b k tk) = (c, tk) := by show (if _ then _ else _) = _; rw [if_pos b3x]
      rw [hx]
      exact wq_ret rfl rfl ⟨h, rfl, (wFr_rf _ _), by omega, hTk⟩
    · refine wq_gos (f := 1) (pc2 := 47) (ls2 := [(0, .ref 162), (1, .int 0), (2, .int (nI n)), (3, .int w9), (4, .int c), (5, .int b), (6, .int (nI k))]) (st2 := [.int (nI k), .int 0, .ref 162]) (h2 := h) (dc2 := dc) (ds2 := ds) 3 rfl ?_
      have q4x : (0 : Int32).toInt = 0 := rfl
      refine wq_inlv (y2 := 262) (as := [.int 0, .int (nI k)]) rfl rfl rfl hM rfl (wq_mono (m_lt (r := 0) hM hK hPa hCo hTk ⟨hkw.1, hkw.2, by decide⟩) ?_)
      rintro _ ⟨h85x, rfl, f85x, l85x, c05x⟩
      show wq 264 50 [(0, .ref 162), (1, .int 0), (2, .int (nI n)), (3, .int w9), (4, .int c), (5, .int b), (6, .int (nI k))] [] h85x dc ds _
      refine wq_gos (f := 1) (pc2 := 51) (ls2 := [(0, .ref 162), (1, .int 0), (2, .int (nI n)), (3, .int w9), (4, .int c), (5, .int b), (6, .int (nI k))]) (st2 := [.int w9]) (h2 := h85x) (dc2 := dc) (ds2 := ds) 1 rfl ?_
      refine wq_ne0 rfl rfl (fun b6x => ?_) (fun b6x => ?_)
      · have q7x : w9.toInt ≠ 0 := fun q => b6x (Int32.toInt_inj.mp q)
        refine wq_gos (f := 1) (pc2 := 66) (ls2 := [(0, .ref 162), (1, .int 0), (2, .int (nI n)), (3, .int w9), (4, .int c), (5, .int b), (6, .int (nI k))]) (st2 := [.ref 162]) (h2 := h85x) (dc2 := dc) (ds2 := ds) 1 rfl ?_
        have e8x := (f85x.2 _ _ (wnc (by decide) wn0) hM)
        refine wq_getf rfl e8x rfl rfl ?_
        refine wq_gos (f := 1) (pc2 := 70) (ls2 := [(0, .ref 162), (1, .int 0), (2, .int (nI n)), (3, .int w9), (4, .int c), (5, .int b), (6, .int (nI k))]) (st2 := [.int 0, .ref 224]) (h2 := h85x) (dc2 := dc) (ds2 := ds) 1 rfl ?_
        refine wq_inl (y2 := 205) (as := [.ref 224, .int 0]) rfl rfl rfl (wq_mono (m_bendv (k := 0) c05x (by decide)) ?_)
        rintro _ rfl
        show wq 264 73 [(0, .ref 162), (1, .int 0), (2, .int (nI n)), (3, .int w9), (4, .int c), (5, .int b), (6, .int (nI k))] [.int (mBen (mTick tk pa co wn 0 (nI k)) 0)] h85x dc ds _
        refine wq_gos (f := 1) (pc2 := 81) (ls2 := [(7, .int (mBen (mTick tk pa co wn 0 (nI k)) 0)), (0, .ref 162), (1, .int 0), (2, .int (nI n)), (3, .int w9), (4, .int c), (5, .int b), (6, .int (nI k))]) (st2 := [.int b, .int (mBen (mTick tk pa co wn 0 (nI k)) 0), .int c]) (h2 := h85x) (dc2 := dc) (ds2 := ds) 4 rfl ?_
        refine wq_ne2 rfl rfl (fun b10x => ?_) (fun b10x => ?_)
        · have q11x : (mBen (mTick tk pa co wn 0 (nI k)) 0).toInt ≠ b.toInt := fun q => b10x (Int32.toInt_inj.mp q)
          refine wq_gos (f := 1) (pc2 := 99) (ls2 := [(6, .int ((nI k) + 1)), (5, .int (mBen (mTick tk pa co wn 0 (nI k)) 0)), (4, .int (c + (1 : Int32))), (7, .int (mBen (mTick tk pa co wn 0 (nI k)) 0)), (0, .ref 162), (1, .int 0), (2, .int (nI n)), (3, .int w9)]) (st2 := []) (h2 := h85x) (dc2 := dc) (ds2 := ds) 6 rfl ?_
          rw [nI_1]
          refine wq_gos (f := 1) (pc2 := 37) (ls2 := [(6, .int (nI (k + 1))), (5, .int (mBen (mTick tk pa co wn 0 (nI k)) 0)), (4, .int (c + (1 : Int32))), (7, .int (mBen (mTick tk pa co wn 0 (nI k)) 0)), (0, .ref 162), (1, .int 0), (2, .int (nI n)), (3, .int w9)]) (st2 := []) (h2 := h85x) (dc2 := dc) (ds2 := ds) 1 rfl ?_
          try have q12x := nI_toInt (n := (k + 1)) (by omega)
          have q13x : (1 : Int32).toInt = 1 := rfl
          try have q14x : ((c + (1 : Int32))).toInt = c.toInt + (1 : Int32).toInt := e_add (by omega) (by omega)
          have e15x := (f85x.2 _ _ (wnc (by decide) wn0) hK)
          have e16x := (f85x.2 _ _ (wnc (by decide) wn0) hPa)
          have e17x := (f85x.2 _ _ (wnc (by decide) wn0) hCo)
          have hx : (mtuF0 pa co wn n w9 (m + 1) c b k tk) = (mtuF0 pa co wn n w9 m (c + (1 : Int32)) (mBen (mTick tk pa co wn 0 (nI k)) 0) (k + 1) (mTick tk pa co wn 0 (nI k))) := by show (if _ then _ else _) = _; rw [if_neg (Int.not_lt.mpr b3x), if_pos b6x, if_pos b10x]
          rw [hx]
          refine wq_ls [(0, .ref 162), (1, .int 0), (2, .int (nI n)), (3, .int w9), (4, .int (c + (1 : Int32))), (5, .int (mBen (mTick tk pa co wn 0 (nI k)) 0)), (6, .int (nI (k + 1)))] (show ([0, 1, 2, 3, 4, 5, 6] : List Nat).Nodup by decide) ⟨rfl, rfl, rfl, rfl, rfl, rfl, rfl, trivial⟩ ?_
          refine wq_mono (ih (c + (1 : Int32)) (mBen (mTick tk pa co wn 0 (nI k)) 0) (k + 1) (mTick tk pa co wn 0 (nI k)) h85x e8x e15x e16x e17x c05x (by first | assumption | omega | decide | solve_by_elim) (by omega) dc ds) ?_
          rintro _ ⟨h9, rfl, f9, l9, y0⟩
          exact ⟨h9, rfl, wFr_tr (wFr_sub f85x (by simp)) f9, by omega, y0⟩
        · have q18x : (mBen (mTick tk pa co wn 0 (nI k)) 0).toInt = b.toInt := congrArg Int32.toInt b10x
          refine wq_gos (f := 1) (pc2 := 99) (ls2 := [(6, .int ((nI k) + 1)), (5, .int (mBen (mTick tk pa co wn 0 (nI k)) 0)), (4, .int (c + (0 : Int32))), (7, .int (mBen (mTick tk pa co wn 0 (nI k)) 0)), (0, .ref 162), (1, .int 0), (2, .int (nI n)), (3, .int w9)]) (st2 := []) (h2 := h85x) (dc2 := dc) (ds2 := ds) 7 rfl ?_
          rw [nI_1]
          refine wq_gos (f := 1) (pc2 := 37) (ls2 := [(6, .int (nI (k + 1))), (5, .int (mBen (mTick tk pa co wn 0 (nI k)) 0)), (4, .int (c + (0 : Int32))), (7, .int (mBen (mTick tk pa co wn 0 (nI k)) 0)), (0, .ref 162), (1, .int 0), (2, .int (nI n)), (3, .int w9)]) (st2 := []) (h2 := h85x) (dc2 := dc) (ds2 := ds) 1 rfl ?_
          try have q19x := nI_toInt (n := (k + 1)) (by omega)
          try have q20x : ((c + (0 : Int32))).toInt = c.toInt + (0 : Int32).toInt := e_add (by omega) (by omega)
          have e21x := (f85x.2 _ _ (wnc (by decide) wn0) hK)
          have e22x := (f85x.2 _ _ (wnc (by decide) wn0) hPa)
          have e23x := (f85x.2 _ _ (wnc (by decide) wn0) hCo)
          have hx : (mtuF0 pa co wn n w9 (m + 1) c b k tk) = (mtuF0 pa co wn n w9 m (c + (0 : Int32)) (mBen (mTick tk pa co wn 0 (nI k)) 0) (k + 1) (mTick tk pa co wn 0 (nI k))) := by show (if _ then _ else _) = _; rw [if_neg (Int.not_lt.mpr b3x), if_pos b6x, if_neg (fun q => q b10x)]
          rw [hx]
          refine wq_ls [(0, .ref 162), (1, .int 0), (2, .int (nI n)), (3, .int w9), (4, .int (c + (0 : Int32))), (5, .int (mBen (mTick tk pa co wn 0 (nI k)) 0)), (6, .int (nI (k + 1)))] (show ([0, 1, 2, 3, 4, 5, 6] : List Nat).Nodup by decide) ⟨rfl, rfl, rfl, rfl, rfl, rfl, rfl, trivial⟩ ?_
          refine wq_mono (ih (c + (0 : Int32)) (mBen (mTick tk pa co wn 0 (nI k)) 0) (k + 1) (mTick tk pa co wn 0 (nI k)) h85x e8x e21x e22x e23x c05x (by first | assumption | omega | decide | solve_by_elim) (by omega) dc ds) ?_
          rintro _ ⟨h9, rfl, f9, l9, y0⟩
          exact ⟨h9, rfl, wFr_tr (wFr_sub f85x (by simp)) f9, by omega, y0⟩
      · have q24x : w9.toInt = 0 := congrArg Int32.toInt b6x
        refine wq_gos (f := 1) (pc2 := 55) (ls2 := [(0, .ref 162), (1, .int 0), (2, .int (nI n)), (3, .int w9), (4, .int c), (5, .int b), (6, .int (nI k))]) (st2 := [.ref 162]) (h2 := h85x) (dc2 := dc) (ds2 := ds) 1 rfl ?_
        have e25x := (f85x.2 _ _ (wnc (by decide) wn0) hM)
        refine wq_getf rfl e25x rfl rfl ?_
        refine wq_gos (f := 1) (pc2 := 59) (ls2 := [(0, .ref 162), (1, .int 0), (2, .int (nI n)), (3, .int w9), (4, .int c), (5, .int b), (6, .int (nI k))]) (st2 := [.int 0, .ref 224]) (h2 := h85x) (dc2 := dc) (ds2 := ds) 1 rfl ?_
        refine wq_inl (y2 := 204) (as := [.ref 224, .int 0]) rfl rfl rfl (wq_mono (m_sidev (k := 0) c05x (by decide)) ?_)
        rintro _ rfl
        show wq 264 62 [(0, .ref 162), (1, .int 0), (2, .int (nI n)), (3, .int w9), (4, .int c), (5, .int b), (6, .int (nI k))] [.int (mSid (mTick tk pa co wn 0 (nI k)) 0)] h85x dc ds _
        refine wq_gos (f := 1) (pc2 := 81) (ls2 := [(7, .int (mSid (mTick tk pa co wn 0 (nI k)) 0)), (0, .ref 162), (1, .int 0), (2, .int (nI n)), (3, .int w9), (4, .int c), (5, .int b), (6, .int (nI k))]) (st2 := [.int b, .int (mSid (mTick tk pa co wn 0 (nI k)) 0), .int c]) (h2 := h85x) (dc2 := dc) (ds2 := ds) 5 rfl ?_
        refine wq_ne2 rfl rfl (fun b27x => ?_) (fun b27x => ?_)
        · have q28x : (mSid (mTick tk pa co wn 0 (nI k)) 0).toInt ≠ b.toInt := fun q => b27x (Int32.toInt_inj.mp q)
          refine wq_gos (f := 1) (pc2 := 99) (ls2 := [(6, .int ((nI k) + 1)), (5, .int (mSid (mTick tk pa co wn 0 (nI k)) 0)), (4, .int (c + (1 : Int32))), (7, .int (mSid (mTick tk pa co wn 0 (nI k)) 0)), (0, .ref 162), (1, .int 0), (2, .int (nI n)), (3, .int w9)]) (st2 := []) (h2 := h85x) (dc2 := dc) (ds2 := ds) 6 rfl ?_
          rw [nI_1]
          refine wq_gos (f := 1) (pc2 := 37) (ls2 := [(6, .int (nI (k + 1))), (5, .int (mSid (mTick tk pa co wn 0 (nI k)) 0)), (4, .int (c + (1 : Int32))), (7, .int (mSid (mTick tk pa co wn 0 (nI k)) 0)), (0, .ref 162), (1, .int 0), (2, .int (nI n)), (3, .int w9)]) (st2 := []) (h2 := h85x) (dc2 := dc) (ds2 := ds) 1 rfl ?_
          try have q29x := nI_toInt (n := (k + 1)) (by omega)
          have q30x : (1 : Int32).toInt = 1 := rfl
          try have q31x : ((c + (1 : Int32))).toInt = c.toInt + (1 : Int32).toInt := e_add (by omega) (by omega)
          have e32x := (f85x.2 _ _ (wnc (by decide) wn0) hK)
          have e33x := (f85x.2 _ _ (wnc (by decide) wn0) hPa)
          have e34x := (f85x.2 _ _ (wnc (by decide) wn0) hCo)
          have hx : (mtuF0 pa co wn n w9 (m + 1) c b k tk) = (mtuF0 pa co wn n w9 m (c + (1 : Int32)) (mSid (mTick tk pa co wn 0 (nI k)) 0) (k + 1) (mTick tk pa co wn 0 (nI k))) := by show (if _ then _ else _) = _; rw [if_neg (Int.not_lt.mpr b3x), if_neg (fun q => q b6x), if_pos b27x]
          rw [hx]
          refine wq_ls [(0, .ref 162), (1, .int 0), (2, .int (nI n)), (3, .int w9), (4, .int (c + (1 : Int32))), (5, .int (mSid (mTick tk pa co wn 0 (nI k)) 0)), (6, .int (nI (k + 1)))] (show ([0, 1, 2, 3, 4, 5, 6] : List Nat).Nodup by decide) ⟨rfl, rfl, rfl, rfl, rfl, rfl, rfl, trivial⟩ ?_
          refine wq_mono (ih (c + (1 : Int32)) (mSid (mTick tk pa co wn 0 (nI k)) 0) (k + 1) (mTick tk pa co wn 0 (nI k)) h85x e25x e32x e33x e34x c05x (by first | assumption | omega | decide | solve_by_elim) (by omega) dc ds) ?_
          rintro _ ⟨h9, rfl, f9, l9, y0⟩
          exact ⟨h9, rfl, wFr_tr (wFr_sub f85x (by simp)) f9, by omega, y0⟩
        · have q35x : (mSid (mTick tk pa co wn 0 (nI k)) 0).toInt = b.toInt := congrArg Int32.toInt b27x
          refine wq_gos (f := 1) (pc2 := 99) (ls2 := [(6, .int ((nI k) + 1)), (5, .int (mSid (mTick tk pa co wn 0 (nI k)) 0)), (4, .int (c + (0 : Int32))), (7, .int (mSid (mTick tk pa co wn 0 (nI k)) 0)), (0, .ref 162), (1, .int 0), (2, .int (nI n)), (3, .int w9)]) (st2 := []) (h2 := h85x) (dc2 := dc) (ds2 := ds) 7 rfl ?_
          rw [nI_1]
          refine wq_gos (f := 1) (pc2 := 37) (ls2 := [(6, .int (nI (k + 1))), (5, .int (mSid (mTick tk pa co wn 0 (nI k)) 0)), (4, .int (c + (0 : Int32))), (7, .int (mSid (mTick tk pa co wn 0 (nI k)) 0)), (0, .ref 162), (1, .int 0), (2, .int (nI n)), (3, .int w9)]) (st2 := []) (h2 := h85x) (dc2 := dc) (ds2 := ds) 1 rfl ?_
          try have q36x := nI_toInt (n := (k + 1)) (by omega)
          try have q37x : ((c + (0 : Int32))).toInt = c.toInt + (0 : Int32).toInt := e_add (by omega) (by omega)
          have e38x := (f85x.2 _ _ (wnc (by decide) wn0) hK)
          have e39x := (f85x.2 _ _ (wnc (by decide) wn0) hPa)
          have e40x := (f85x.2 _ _ (wnc (by decide) wn0) hCo)
          have hx : (mtuF0 pa co wn n w9 (m + 1) c b k tk) = (mtuF0 pa co wn n w9 m (c + (0 : Int32)) (mSid (mTick tk pa co wn 0 (nI k)) 0) (k + 1) (mTick tk pa co wn 0 (nI k))) := by show (if _ then _ else _) = _; rw [if_neg (Int.not_lt.mpr b3x), if_neg (fun q => q b6x), if_neg (fun q => q b27x)]
          rw [hx]
          refine wq_ls [(0, .ref 162), (1, .int 0), (2, .int (nI n)), (3, .int w9), (4, .int (c + (0 : Int32))), (5, .int (mSid (mTick tk pa co wn 0 (nI k)) 0)), (6, .int (nI (k + 1)))] (show ([0, 1, 2, 3, 4, 5, 6] : List Nat).Nodup by decide) ⟨rfl, rfl, rfl, rfl, rfl, rfl, rfl, trivial⟩ ?_
          refine wq_mono (ih (c + (0 : Int32)) (mSid (mTick tk pa co wn 0 (nI k)) 0) (k + 1) (mTick tk pa co wn 0 (nI k)) h85x e25x e38x e39x e40x c05x (by first | assumption | omega | decide | solve_by_elim) (by omega) dc ds) ?_
          rintro _ ⟨h9, rfl, f9, l9, y0⟩
          exact ⟨h9, rfl, wFr_tr (wFr_sub f85x (by simp)) f9, by omega, y0⟩
set_option maxRecDepth 100000 in
set_option maxHeartbeats 4000000 in
theorem m_tu0 {h : zH} {n0 n2 n14 n15 n16 n17 n18 n19 n20 n21 n22 n23 n27 n28 n32 n33 n34 n35 n39 n52 : Int32} {kn pa co : List Int32} {wn : Nat} {n : Nat} {w9 : Int32} {tk : List Int32} (hM : zat h 162 = some (.inr (.inr (.inr (10, mO n0 n2 n14 n15 n16 n17 n18 n19 n20 n21 n22 n23 n27 n28 n32 n33 n34 n35 n39 n52))))) (hK : zat h 166 = some (.inl (0, 14, kn))) (hPa : zat h 214 = some (.inl (0, 132, pa))) (hCo : zat h 218 = some (.inl (0, 22, co))) (hTk : zat h 224 = some (.inl (0, 6, tk))) (hkw : kn.getD 6 0 = nI wn ∧ wn ≤ 10) (hn : n ≤ 30000) : wq 264 0 [(0, .ref 162), (1, .int 0), (2, .int (nI n)), (3, .int w9)] [] h 0 0 (fun rr9 => ∃ (h2 : zH) (v9 : Int32) (tk2 : List Int32), rr9 = (some (.int v9), h2, 0, 0) ∧ wFr [224] h h2 ∧ h2.length = h.length ∧ zat h2 224 = some (.inl (0, 6, tk2))) := by
  have qnn := nI_toInt (n := n) (by omega)
  refine wq_gos (f := 1) (pc2 := 6) (ls2 := [(4, .int 0), (0, .ref 162), (1, .int 0), (2, .int (nI n)), (3, .int w9)]) (st2 := [.int 0, .int 0, .ref 162]) (h2 := h) (dc2 := 0) (ds2 := 0) 5 rfl ?_
  have q1x : (0 : Int32).toInt = 0 := rfl
  refine wq_inlv (y2 := 262) (as := [.int 0, .int 0]) rfl rfl rfl hM rfl (wq_mono (m_lt (r := 0) hM hK hPa hCo hTk ⟨hkw.1, hkw.2, by decide⟩) ?_)
  rintro _ ⟨h82x, rfl, f82x, l82x, c02x⟩
  show wq 264 9 [(4, .int 0), (0, .ref 162), (1, .int 0), (2, .int (nI n)), (3, .int w9)] [] h82x 0 0 _
  refine wq_gos (f := 1) (pc2 := 10) (ls2 := [(4, .int 0), (0, .ref 162), (1, .int 0), (2, .int (nI n)), (3, .int w9)]) (st2 := [.int w9]) (h2 := h82x) (dc2 := 0) (ds2 := 0) 1 rfl ?_
  refine wq_ne0 rfl rfl (fun b3x => ?_) (fun b3x => ?_)
  · have q4x : w9.toInt ≠ 0 := fun q => b3x (Int32.toInt_inj.mp q)
    refine wq_gos (f := 1) (pc2 := 25) (ls2 := [(4, .int 0), (0, .ref 162), (1, .int 0), (2, .int (nI n)), (3, .int w9)]) (st2 := [.ref 162]) (h2 := h82x) (dc2 := 0) (ds2 := 0) 1 rfl ?_
    have e5x := (f82x.2 _ _ (wnc (by decide) wn0) hM)
    refine wq_getf rfl e5x rfl rfl ?_
    refine wq_gos (f := 1) (pc2 := 29) (ls2 := [(4, .int 0), (0, .ref 162), (1, .int 0), (2, .int (nI n)), (3, .int w9)]) (st2 := [.int 0, .ref 224]) (h2 := h82x) (dc2 := 0) (ds2 := 0) 1 rfl ?_
    refine wq_inl (y2 := 205) (as := [.ref 224, .int 0]) rfl rfl rfl (wq_mono (m_bendv (k := 0) c02x (by decide)) ?_)
    rintro _ rfl
    show wq 264 32 [(4, .int 0), (0, .ref 162), (1, .int 0), (2, .int (nI n)), (3, .int w9)] [.int (mBen (mTick tk pa co wn 0 (0 : Int32)) 0)] h82x 0 0 _
    refine wq_gos (f := 1) (pc2 := 37) (ls2 := [(6, .int 1), (5, .int (mBen (mTick tk pa co wn 0 (0 : Int32)) 0)), (4, .int 0), (0, .ref 162), (1, .int 0), (2, .int (nI n)), (3, .int w9)]) (st2 := []) (h2 := h82x) (dc2 := 0) (ds2 := 0) 3 rfl ?_
    try have q7x := nI_toInt (n := n) (by omega)
    have e8x := (f82x.2 _ _ (wnc (by decide) wn0) hK)
    have e9x := (f82x.2 _ _ (wnc (by decide) wn0) hPa)
    have e10x := (f82x.2 _ _ (wnc (by decide) wn0) hCo)
    refine wq_ls [(0, .ref 162), (1, .int 0), (2, .int (nI n)), (3, .int w9), (4, .int 0), (5, .int (mBen (mTick tk pa co wn 0 (0 : Int32)) 0)), (6, .int (nI 1))] (show ([0, 1, 2, 3, 4, 5, 6] : List Nat).Nodup by decide) ⟨rfl, rfl, rfl, rfl, rfl, rfl, rfl, trivial⟩ ?_
    refine wq_mono (m_tuL0 (by first | assumption | omega | decide | solve_by_elim) (by first | assumption | omega | decide | solve_by_elim) ((n + 1 - 1) + 1) (0 : Int32) (mBen (mTick tk pa co wn 0 (0 : Int32)) 0) 1 (mTick tk pa co wn 0 (0 : Int32)) h82x e5x e8x e9x e10x c02x (by first | assumption | omega | decide | solve_by_elim) (by omega) 0 0) ?_
    rintro _ ⟨h813x, rfl, f813x, l813x, c013x⟩
    obtain ⟨v11x, hv12x⟩ : ∃ x, x = (mtuF0 pa co wn n w9 ((n + 1 - 1) + 1) (0 : Int32) (mBen (mTick tk pa co wn 0 (0 : Int32)) 0) 1 (mTick tk pa co wn 0 (0 : Int32))) := ⟨_, rfl⟩
    try rw [← hv12x] at c013x
    try rw [← hv12x]
    subst hv12x
    exact ⟨h813x, ((mtuF0 pa co wn n w9 ((n + 1 - 1) + 1) (0 : Int32) (mBen (mTick tk pa co wn 0 (0 : Int32)) 0) 1 (mTick tk pa co wn 0 (0 : Int32))).1), ((mtuF0 pa co wn n w9 ((n + 1 - 1) + 1) (0 : Int32) (mBen (mTick tk pa co wn 0 (0 : Int32)) 0) 1 (mTick tk pa co wn 0 (0 : Int32))).2), rfl, (wFr_tr (wFr_sub f82x (by simp)) (wFr_sub f813x (by simp))), (by omega), c013x⟩
  · have q14x : w9.toInt = 0 := congrArg Int32.toInt b3x
    refine wq_gos (f := 1) (pc2 := 14) (ls2 := [(4, .int 0), (0, .ref 162), (1, .int 0), (2, .int (nI n)), (3, .int w9)]) (st2 := [.ref 162]) (h2 := h82x) (dc2 := 0) (ds2 := 0) 1 rfl ?_
    have e15x := (f82x.2 _ _ (wnc (by decide) wn0) hM)
    refine wq_getf rfl e15x rfl rfl ?_
    refine wq_gos (f := 1) (pc2 := 18) (ls2 := [(4, .int 0), (0, .ref 162), (1, .int 0), (2, .int (nI n)), (3, .int w9)]) (st2 := [.int 0, .ref 224]) (h2 := h82x) (dc2 := 0) (ds2 := 0) 1 rfl ?_
    refine wq_inl (y2 := 204) (as := [.ref 224, .int 0]) rfl rfl rfl (wq_mono (m_sidev (k := 0) c02x (by decide)) ?_)
    rintro _ rfl
    show wq 264 21 [(4, .int 0), (0, .ref 162), (1, .int 0), (2, .int (nI n)), (3, .int w9)] [.int (mSid (mTick tk pa co wn 0 (0 : Int32)) 0)] h82x 0 0 _
    refine wq_gos (f := 1) (pc2 := 37) (ls2 := [(6, .int 1), (5, .int (mSid (mTick tk pa co wn 0 (0 : Int32)) 0)), (4, .int 0), (0, .ref 162), (1, .int 0), (2, .int (nI n)), (3, .int w9)]) (st2 := []) (h2 := h82x) (dc2 := 0) (ds2 := 0) 4 rfl ?_
    try have q17x := nI_toInt (n := n) (by omega)
    have e18x := (f82x.2 _ _ (wnc (by decide) wn0) hK)
    have e19x := (f82x.2 _ _ (wnc (by decide) wn0) hPa)
    have e20x := (f82x.2 _ _ (wnc (by decide) wn0) hCo)
    refine wq_ls [(0, .ref 162), (1, .int 0), (2, .int (nI n)), (3, .int w9), (4, .int 0), (5, .int (mSid (mTick tk pa co wn 0 (0 : Int32)) 0)), (6, .int (nI 1))] (show ([0, 1, 2, 3, 4, 5, 6] : List Nat).Nodup by decide) ⟨rfl, rfl, rfl, rfl, rfl, rfl, rfl, trivial⟩ ?_
    refine wq_mono (m_tuL0 (by first | assumption | omega | decide | solve_by_elim) (by first | assumption | omega | decide | solve_by_elim) ((n + 1 - 1) + 1) (0 : Int32) (mSid (mTick tk pa co wn 0 (0 : Int32)) 0) 1 (mTick tk pa co wn 0 (0 : Int32)) h82x e15x e18x e19x e20x c02x (by first | assumption | omega | decide | solve_by_elim) (by omega) 0 0) ?_
    rintro _ ⟨h823x, rfl, f823x, l823x, c023x⟩
    obtain ⟨v21x, hv22x⟩ : ∃ x, x = (mtuF0 pa co wn n w9 ((n + 1 - 1) + 1) (0 : Int32) (mSid (mTick tk pa co wn 0 (0 : Int32)) 0) 1 (mTick tk pa co wn 0 (0 : Int32))) := ⟨_, rfl⟩
    try rw [← hv22x] at c023x
    try rw [← hv22x]
    subst hv22x
    exact ⟨h823x, ((mtuF0 pa co wn n w9 ((n + 1 - 1) + 1) (0 : Int32) (mSid (mTick tk pa co wn 0 (0 : Int32)) 0) 1 (mTick tk pa co wn 0 (0 : Int32))).1), ((mtuF0 pa co wn n w9 ((n + 1 - 1) + 1) (0 : Int32) (mSid (mTick tk pa co wn 0 (0 : Int32)) 0) 1 (mTick tk pa co wn 0 (0 : Int32))).2), rfl, (wFr_tr (wFr_sub f82x (by simp)) (wFr_sub f823x (by simp))), (by omega), c023x⟩
noncomputable def mrbF0 (pa co : List Int32) (wn n : Nat) : Nat → Int32 → Int32 → Nat → Int32
  | 0, _, _, _ => 0
  | m + 1, c, b, k => (if (nI n).toInt < (nI k).toInt then c else (if (jsg ((mJA pa co wn 0 5 (nI k)) - (mJA pa co wn 0 5 ((nI k) - (1 : Int32))))) ≠ (0 : Int32) then (if b = (0 : Int32) then (mrbF0 pa co wn n m (c + (0 : Int32)) (jsg ((mJA pa co wn 0 5 (nI k)) - (mJA pa co wn 0 5 ((nI k) - (1 : Int32))))) (k + 1)) else (if (jsg ((mJA pa co wn 0 5 (nI k)) - (mJA pa co wn 0 5 ((nI k) - (1 : Int32))))) = b then (mrbF0 pa co wn n m (c + (0 : Int32)) (jsg ((mJA pa co wn 0 5 (nI k)) - (mJA pa co wn 0 5 ((nI k) - (1 : Int32))))) (k + 1)) else (mrbF0 pa co wn n m (c + (1 : Int32)) (jsg ((mJA pa co wn 0 5 (nI k)) - (mJA pa co wn 0 5 ((nI k) - (1 : Int32))))) (k + 1)))) else (mrbF0 pa co wn n m c b (k + 1))))
set_option maxRecDepth 100000 in
set_option maxHeartbeats 4000000 in
theorem m_rbL0 {h : zH} {n0 n2 n14 n15 n16 n17 n18 n19 n20 n21 n22 n23 n27 n28 n32 n33 n34 n35 n39 n52 : Int32} {kn pa co : List Int32} {wn : Nat} {n : Nat} (hM : zat h 162 = some (.inr (.inr (.inr (10, mO n0 n2 n14 n15 n16 n17 n18 n19 n20 n21 n22 n23 n27 n28 n32 n33 n34 n35 n39 n52))))) (hK : zat h 166 = some (.inl (0, 14, kn))) (hPa : zat h 214 = some (.inl (0, 132, pa))) (hCo : zat h 218 = some (.inl (0, 22, co))) (hkw : kn.getD 6 0 = nI wn ∧ wn ≤ 10) (hn : n ≤ 30000) : ∀ (m : Nat) (c : Int32) (b : Int32) (k : Nat), (k ≤ n + 1) → (n + 1 - k) < m → ∀ (dc ds : Nat), wq 265 8 [(0, .ref 162), (1, .int 0), (2, .int (nI n)), (3, .int c), (4, .int b), (5, .int (nI k))] [] h dc ds (fun rr9 => rr9 = (some (Value.int (mrbF0 pa co wn n m c b k)), h, dc, ds)) := by
  intro m
  induction m with
  | zero => intro c b k hk hms dc ds; omega
  | succ m ih =>
    intro c b k hk hms dc ds
    have qnk := nI_toInt (n := k) (by omega)
    have qnn := nI_toInt (n := n) (by omega)
    refine wq_gos (f := 1) (pc2 := 11) (ls2 := [(0, .ref 162), (1, .int 0), (2, .int (nI n)), (3, .int c), (4, .int b), (5, .int (nI k))]) (st2 := [.int (nI n), .int (nI k)]) (h2 := h) (dc2 := dc) (ds2 := ds) 2 rfl ?_
    try have q1x := nI_toInt (n := k) (by omega)
    try have q2x := nI_toInt (n := n) (by omega)
    refine wq_gt2 rfl rfl (fun b3x => ?_) (fun b3x => ?_)
    · refine wq_gos (f := 1) (pc2 := 77) (ls2 := [(0, .ref 162), (1, .int 0), (2, .int (nI n)), (3, .int c), (4, .int b), (5, .int (nI k))]) (st2 := [.int c]) (h2 := h) (dc2 := dc) (ds2 := ds) 1 rfl ?_
      have hx : (mrbF0 pa co wn n (m + 1) c b k) = c := by show (if _ then _ else _) = _; rw [if_pos b3x]
      refine wq_ret rfl rfl ?_
      show (some (Value.int c), h, dc, ds) = (some (Value.int (mrbF0 pa co wn n (m + 1) c b k)), h, dc, ds)
      rw [hx]
    · refine wq_gos (f := 1) (pc2 := 19) (ls2 := [(0, .ref 162), (1, .int 0), (2, .int (nI n)), (3, .int c), (4, .int b), (5, .int (nI k))]) (st2 := [.int 5, .int (nI k), .int 0, .ref 162]) (h2 := h) (dc2 := dc) (ds2 := ds) 4 rfl ?_
      have q4x : (0 : Int32).toInt = 0 := rfl
      have q5x : (5 : Int32).toInt = 5 := rfl
      refine wq_inlv (y2 := 253) (as := [.int 0, .int (nI k), .int 5]) rfl rfl rfl hM rfl (wq_mono (m_ja (r := 0) (j := 5) hM hK hPa hCo ⟨hkw.1, hkw.2, by decide, (by decide)⟩) ?_)
      rintro _ rfl
      show wq 265 22 [(0, .ref 162), (1, .int 0), (2, .int (nI n)), (3, .int c), (4, .int b), (5, .int (nI k))] [.int (mJA pa co wn 0 5 (nI k))] h dc ds _
      refine wq_gos (f := 1) (pc2 := 29) (ls2 := [(0, .ref 162), (1, .int 0), (2, .int (nI n)), (3, .int c), (4, .int b), (5, .int (nI k))]) (st2 := [.int 5, .int ((nI k) - (1 : Int32)), .int 0, .ref 162, .int (mJA pa co wn 0 5 (nI k))]) (h2 := h) (dc2 := dc) (ds2 := ds) 6 rfl ?_
      have q7x : (1 : Int32).toInt = 1 := rfl
      try have q8x : (((nI k) - (1 : Int32))).toInt = (nI k).toInt - (1 : Int32).toInt := e_sub (by omega) (by omega)
      refine wq_inlv (y2 := 253) (as := [.int 0, .int ((nI k) - (1 : Int32)), .int 5]) rfl rfl rfl hM rfl (wq_mono (m_ja (r := 0) (j := 5) hM hK hPa hCo ⟨hkw.1, hkw.2, by decide, (by decide)⟩) ?_)
      rintro _ rfl
      show wq 265 32 [(0, .ref 162), (1, .int 0), (2, .int (nI n)), (3, .int c), (4, .int b), (5, .int (nI k))] [.int (mJA pa co wn 0 5 ((nI k) - (1 : Int32))), .int (mJA pa co wn 0 5 (nI k))] h dc ds _
      refine wq_gos (f := 1) (pc2 := 33) (ls2 := [(0, .ref 162), (1, .int 0), (2, .int (nI n)), (3, .int c), (4, .int b), (5, .int (nI k))]) (st2 := [.int ((mJA pa co wn 0 5 (nI k)) - (mJA pa co wn 0 5 ((nI k) - (1 : Int32))))]) (h2 := h) (dc2 := dc) (ds2 := ds) 1 rfl ?_
      refine wq_inl (y2 := 202) (as := [.int ((mJA pa co wn 0 5 (nI k)) - (mJA pa co wn 0 5 ((nI k) - (1 : Int32))))]) rfl rfl rfl (wq_T (m_sgn ((mJA pa co wn 0 5 (nI k)) - (mJA pa co wn 0 5 ((nI k) - (1 : Int32)))) h) ?_)
      show wq 265 36 [(0, .ref 162), (1, .int 0), (2, .int (nI n)), (3, .int c), (4, .int b), (5, .int (nI k))] [.int (jsg ((mJA pa co wn 0 5 (nI k)) - (mJA pa co wn 0 5 ((nI k) - (1 : Int32)))))] h dc ds _
      refine wq_gos (f := 1) (pc2 := 40) (ls2 := [(6, .int (jsg ((mJA pa co wn 0 5 (nI k)) - (mJA pa co wn 0 5 ((nI k) - (1 : Int32)))))), (0, .ref 162), (1, .int 0), (2, .int (nI n)), (3, .int c), (4, .int b), (5, .int (nI k))]) (st2 := [.int (jsg ((mJA pa co wn 0 5 (nI k)) - (mJA pa co wn 0 5 ((nI k) - (1 : Int32)))))]) (h2 := h) (dc2 := dc) (ds2 := ds) 2 rfl ?_
      refine wq_ne0 rfl rfl (fun b10x => ?_) (fun b10x => ?_)
      · have q11x : (jsg ((mJA pa co wn 0 5 (nI k)) - (mJA pa co wn 0 5 ((nI k) - (1 : Int32))))).toInt ≠ 0 := fun q => b10x (Int32.toInt_inj.mp q)
        refine wq_gos (f := 1) (pc2 := 49) (ls2 := [(6, .int (jsg ((mJA pa co wn 0 5 (nI k)) - (mJA pa co wn 0 5 ((nI k) - (1 : Int32)))))), (0, .ref 162), (1, .int 0), (2, .int (nI n)), (3, .int c), (4, .int b), (5, .int (nI k))]) (st2 := [.int b, .int c]) (h2 := h) (dc2 := dc) (ds2 := ds) 2 rfl ?_
        refine wq_eq0 rfl rfl (fun b12x => ?_) (fun b12x => ?_)
        · have q13x : b.toInt = 0 := congrArg Int32.toInt b12x
          refine wq_gos (f := 1) (pc2 := 73) (ls2 := [(5, .int ((nI k) + 1)), (4, .int (jsg ((mJA pa co wn 0 5 (nI k)) - (mJA pa co wn 0 5 ((nI k) - (1 : Int32)))))), (3, .int (c + (0 : Int32))), (6, .int (jsg ((mJA pa co wn 0 5 (nI k)) - (mJA pa co wn 0 5 ((nI k) - (1 : Int32)))))), (0, .ref 162), (1, .int 0), (2, .int (nI n))]) (st2 := []) (h2 := h) (dc2 := dc) (ds2 := ds) 6 rfl ?_
          rw [nI_1]
          refine wq_gos (f := 1) (pc2 := 8) (ls2 := [(5, .int (nI (k + 1))), (4, .int (jsg ((mJA pa co wn 0 5 (nI k)) - (mJA pa co wn 0 5 ((nI k) - (1 : Int32)))))), (3, .int (c + (0 : Int32))), (6, .int (jsg ((mJA pa co wn 0 5 (nI k)) - (mJA pa co wn 0 5 ((nI k) - (1 : Int32)))))), (0, .ref 162), (1, .int 0), (2, .int (nI n))]) (st2 := []) (h2 := h) (dc2 := dc) (ds2 := ds) 1 rfl ?_
          try have q14x := nI_toInt (n := (k + 1)) (by omega)
          try have q15x : ((c + (0 : Int32))).toInt = c.toInt + (0 : Int32).toInt := e_add (by omega) (by omega)
          have hx : (mrbF0 pa co wn n (m + 1) c b k) = (mrbF0 pa co wn n m (c + (0 : Int32)) (jsg ((mJA pa co wn 0 5 (nI k)) - (mJA pa co wn 0 5 ((nI k) - (1 : Int32))))) (k + 1)) := by show (if _ then _ else _) = _; rw [if_neg (Int.not_lt.mpr b3x), if_pos b10x, if_pos b12x]
          rw [hx]
          refine wq_ls [(0, .ref 162), (1, .int 0), (2, .int (nI n)), (3, .int (c + (0 : Int32))), (4, .int (jsg ((mJA pa co wn 0 5 (nI k)) - (mJA pa co wn 0 5 ((nI k) - (1 : Int32)))))), (5, .int (nI (k + 1)))] (show ([0, 1, 2, 3, 4, 5] : List Nat).Nodup by decide) ⟨rfl, rfl, rfl, rfl, rfl, rfl, trivial⟩ ?_
          exact ih (c + (0 : Int32)) (jsg ((mJA pa co wn 0 5 (nI k)) - (mJA pa co wn 0 5 ((nI k) - (1 : Int32))))) (k + 1) (by first | assumption | omega | decide | solve_by_elim) (by omega) dc ds
        · have q16x : b.toInt ≠ 0 := fun q => b12x (Int32.toInt_inj.mp q)
          refine wq_gos (f := 1) (pc2 := 56) (ls2 := [(6, .int (jsg ((mJA pa co wn 0 5 (nI k)) - (mJA pa co wn 0 5 ((nI k) - (1 : Int32)))))), (0, .ref 162), (1, .int 0), (2, .int (nI n)), (3, .int c), (4, .int b), (5, .int (nI k))]) (st2 := [.int b, .int (jsg ((mJA pa co wn 0 5 (nI k)) - (mJA pa co wn 0 5 ((nI k) - (1 : Int32))))), .int c]) (h2 := h) (dc2 := dc) (ds2 := ds) 2 rfl ?_
          refine wq_eq2 rfl rfl (fun b17x => ?_) (fun b17x => ?_)
          · have q18x : (jsg ((mJA pa co wn 0 5 (nI k)) - (mJA pa co wn 0 5 ((nI k) - (1 : Int32))))).toInt = b.toInt := congrArg Int32.toInt b17x
            refine wq_gos (f := 1) (pc2 := 73) (ls2 := [(5, .int ((nI k) + 1)), (4, .int (jsg ((mJA pa co wn 0 5 (nI k)) - (mJA pa co wn 0 5 ((nI k) - (1 : Int32)))))), (3, .int (c + (0 : Int32))), (6, .int (jsg ((mJA pa co wn 0 5 (nI k)) - (mJA pa co wn 0 5 ((nI k) - (1 : Int32)))))), (0, .ref 162), (1, .int 0), (2, .int (nI n))]) (st2 := []) (h2 := h) (dc2 := dc) (ds2 := ds) 6 rfl ?_
            rw [nI_1]
            refine wq_gos (f := 1) (pc2 := 8) (ls2 := [(5, .int (nI (k + 1))), (4, .int (jsg ((mJA pa co wn 0 5 (nI k)) - (mJA pa co wn 0 5 ((nI k) - (1 : Int32)))))), (3, .int (c + (0 : Int32))), (6, .int (jsg ((mJA pa co wn 0 5 (nI k)) - (mJA pa co wn 0 5 ((nI k) - (1 : Int32)))))), (0, .ref 162), (1, .int 0), (2, .int (nI n))]) (st2 := []) (h2 := h) (dc2 := dc) (ds2 := ds) 1 rfl ?_
            try have q19x := nI_toInt (n := (k + 1)) (by omega)
            try have q20x : ((c + (0 : Int32))).toInt = c.toInt + (0 : Int32).toInt := e_add (by omega) (by omega)
            have hx : (mrbF0 pa co wn n (m + 1) c b k) = (mrbF0 pa co wn n m (c + (0 : Int32)) (jsg ((mJA pa co wn 0 5 (nI k)) - (mJA pa co wn 0 5 ((nI k) - (1 : Int32))))) (k + 1)) := by show (if _ then _ else _) = _; rw [if_neg (Int.not_lt.mpr b3x), if_pos b10x, if_neg b12x, if_pos b17x]
            rw [hx]
            refine wq_ls [(0, .ref 162), (1, .int 0), (2, .int (nI n)), (3, .int (c + (0 : Int32))), (4, .int (jsg ((mJA pa co wn 0 5 (nI k)) - (mJA pa co wn 0 5 ((nI k) - (1 : Int32)))))), (5, .int (nI (k + 1)))] (show ([0, 1, 2, 3, 4, 5] : List Nat).Nodup by decide) ⟨rfl, rfl, rfl, rfl, rfl, rfl, trivial⟩ ?_
            exact ih (c + (0 : Int32)) (jsg ((mJA pa co wn 0 5 (nI k)) - (mJA pa co wn 0 5 ((nI k) - (1 : Int32))))) (k + 1) (by first | assumption | omega | decide | solve_by_elim) (by omega) dc ds
          · have q21x : (jsg ((mJA pa co wn 0 5 (nI k)) - (mJA pa co wn 0 5 ((nI k) - (1 : Int32))))).toInt ≠ b.toInt := fun q => b17x (Int32.toInt_inj.mp q)
            refine wq_gos (f := 1) (pc2 := 73) (ls2 := [(5, .int ((nI k) + 1)), (4, .int (jsg ((mJA pa co wn 0 5 (nI k)) - (mJA pa co wn 0 5 ((nI k) - (1 : Int32)))))), (3, .int (c + (1 : Int32))), (6, .int (jsg ((mJA pa co wn 0 5 (nI k)) - (mJA pa co wn 0 5 ((nI k) - (1 : Int32)))))), (0, .ref 162), (1, .int 0), (2, .int (nI n))]) (st2 := []) (h2 := h) (dc2 := dc) (ds2 := ds) 7 rfl ?_
            rw [nI_1]
            refine wq_gos (f := 1) (pc2 := 8) (ls2 := [(5, .int (nI (k + 1))), (4, .int (jsg ((mJA pa co wn 0 5 (nI k)) - (mJA pa co wn 0 5 ((nI k) - (1 : Int32)))))), (3, .int (c + (1 : Int32))), (6, .int (jsg ((mJA pa co wn 0 5 (nI k)) - (mJA pa co wn 0 5 ((nI k) - (1 : Int32)))))), (0, .ref 162), (1, .int 0), (2, .int (nI n))]) (st2 := []) (h2 := h) (dc2 := dc) (ds2 := ds) 1 rfl ?_
            try have q22x := nI_toInt (n := (k + 1)) (by omega)
            try have q23x : ((c + (1 : Int32))).toInt = c.toInt + (1 : Int32).toInt := e_add (by omega) (by omega)
            have hx : (mrbF0 pa co wn n (m + 1) c b k) = (mrbF0 pa co wn n m (c + (1 : Int32)) (jsg ((mJA pa co wn 0 5 (nI k)) - (mJA pa co wn 0 5 ((nI k) - (1 : Int32))))) (k + 1)) := by show (if _ then _ else _) = _; rw [if_neg (Int.not_lt.mpr b3x), if_pos b10x, if_neg b12x, if_neg b17x]
            rw [hx]
            refine wq_ls [(0, .ref 162), (1, .int 0), (2, .int (nI n)), (3, .int (c + (1 : Int32))), (4, .int (jsg ((mJA pa co wn 0 5 (nI k)) - (mJA pa co wn 0 5 ((nI k) - (1 : Int32)))))), (5, .int (nI (k + 1)))] (show ([0, 1, 2, 3, 4, 5] : List Nat).Nodup by decide) ⟨rfl, rfl, rfl, rfl, rfl, rfl, trivial⟩ ?_
            exact ih (c + (1 : Int32)) (jsg ((mJA pa co wn 0 5 (nI k)) - (mJA pa co wn 0 5 ((nI k) - (1 : Int32))))) (k + 1) (by first | assumption | omega | decide | solve_by_elim) (by omega) dc ds
      · have q24x : (jsg ((mJA pa co wn 0 5 (nI k)) - (mJA pa co wn 0 5 ((nI k) - (1 : Int32))))).toInt = 0 := congrArg Int32.toInt b10x
        refine wq_gos (f := 1) (pc2 := 73) (ls2 := [(5, .int ((nI k) + 1)), (6, .int (jsg ((mJA pa co wn 0 5 (nI k)) - (mJA pa co wn 0 5 ((nI k) - (1 : Int32)))))), (0, .ref 162), (1, .int 0), (2, .int (nI n)), (3, .int c), (4, .int b)]) (st2 := []) (h2 := h) (dc2 := dc) (ds2 := ds) 2 rfl ?_
        rw [nI_1]
        refine wq_gos (f := 1) (pc2 := 8) (ls2 := [(5, .int (nI (k + 1))), (6, .int (jsg ((mJA pa co wn 0 5 (nI k)) - (mJA pa co wn 0 5 ((nI k) - (1 : Int32)))))), (0, .ref 162), (1, .int 0), (2, .int (nI n)), (3, .int c), (4, .int b)]) (st2 := []) (h2 := h) (dc2 := dc) (ds2 := ds) 1 rfl ?_
        try have q25x := nI_toInt (n := (k + 1)) (by omega)
        have hx : (mrbF0 pa co wn n (m + 1) c b k) = (mrbF0 pa co wn n m c b (k + 1)) := by show (if _ then _ else _) = _; rw [if_neg (Int.not_lt.mpr b3x), if_neg (fun q => q b10x)]
        rw [hx]
        refine wq_ls [(0, .ref 162), (1, .int 0), (2, .int (nI n)), (3, .int c), (4, .int b), (5, .int (nI (k + 1)))] (show ([0, 1, 2, 3, 4, 5] : List Nat).Nodup by decide) ⟨rfl, rfl, rfl, rfl, rfl, rfl, trivial⟩ ?_
        exact ih c b (k + 1) (by first | assumption | omega | decide | solve_by_elim) (by omega) dc ds
set_option maxRecDepth 100000 in
set_option maxHeartbeats 4000000 in
theorem m_rb0 {h : zH} {n0 n2 n14 n15 n16 n17 n18 n19 n20 n21 n22 n23 n27 n28 n32 n33 n34 n35 n39 n52 : Int32} {kn pa co : List Int32} {wn : Nat} {n : Nat} (hM : zat h 162 = some (.inr (.inr (.inr (10, mO n0 n2 n14 n15 n16 n17 n18 n19 n20 n21 n22 n23 n27 n28 n32 n33 n34 n35 n39 n52))))) (hK : zat h 166 = some (.inl (0, 14, kn))) (hPa : zat h 214 = some (.inl (0, 132, pa))) (hCo : zat h 218 = some (.inl (0, 22, co))) (hkw : kn.getD 6 0 = nI wn ∧ wn ≤ 10) (hn : n ≤ 30000) : wq 265 0 [(0, .ref 162), (1, .int 0), (2, .int (nI n))] [] h 0 0 (fun rr9 => ∃ (v9 : Int32), rr9 = (some (.int v9), h, 0, 0)) := by
  have qnn := nI_toInt (n := n) (by omega)
  refine wq_gos (f := 1) (pc2 := 8) (ls2 := [(5, .int 1), (4, .int 0), (3, .int 0), (0, .ref 162), (1, .int 0), (2, .int (nI n))]) (st2 := []) (h2 := h) (dc2 := 0) (ds2 := 0) 6 rfl ?_
  try have q1x := nI_toInt (n := n) (by omega)
  refine wq_ls [(0, .ref 162), (1, .int 0), (2, .int (nI n)), (3, .int 0), (4, .int 0), (5, .int (nI 1))] (show ([0, 1, 2, 3, 4, 5] : List Nat).Nodup by decide) ⟨rfl, rfl, rfl, rfl, rfl, rfl, trivial⟩ ?_
  refine wq_mono (m_rbL0 hM hK hPa hCo (by first | assumption | omega | decide | solve_by_elim) (by first | assumption | omega | decide | solve_by_elim) ((n + 1 - 1) + 1) (0 : Int32) (0 : Int32) 1 (by first | assumption | omega | decide | solve_by_elim) (by omega) 0 0) ?_
  rintro _ rfl
  exact ⟨(mrbF0 pa co wn n ((n + 1 - 1) + 1) (0 : Int32) (0 : Int32) 1), rfl⟩
noncomputable def mtrF0 (kn pa co : List Int32) (wn n : Nat) : Nat → Int64 → Nat → List Int32 → List Int32 → Int64 × List Int32 × List Int32
  | 0, _, _, tk, th => (0, tk, th)
  | m + 1, s9, k, tk, th => (if (nI n).toInt < (nI k).toInt then (s9, tk, th) else (zlet (mPla kn (mTick tk pa co wn 0 (nI k)) 0 th) (fun v12x => (mtrF0 kn pa co wn n m (s9 + ((((jabs (((v12x).getD 0 0) - (th.getD 0 0))) + (jabs (((v12x).getD 1 0) - (th.getD 1 0))))).toInt64 + ((1000 : Int64) * ((jabs (((v12x).getD 2 0) - (th.getD 2 0)))).toInt64))) (k + 1) (mTick tk pa co wn 0 (nI k)) (v12x)))))
set_option maxRecDepth 100000 in
set_option maxHeartbeats 4000000 in
theorem m_trL0 {n0 n2 n14 n15 n16 n17 n18 n19 n20 n21 n22 n23 n27 n28 n32 n33 n34 n35 n39 n52 : Int32} {kn pa co : List Int32} {wn : Nat} {n : Nat} (hkw : kn.getD 6 0 = nI wn ∧ wn ≤ 10) (hn : n ≤ 30000) : ∀ (m : Nat) (s9 : Int64) (k : Nat) (tk : List Int32) (th : List Int32) (h : zH) , (zat h 162 = some (.inr (.inr (.inr (10, mO n0 n2 n14 n15 n16 n17 n18 n19 n20 n21 n22 n23 n27 n28 n32 n33 n34 n35 n39 n52))))) → (zat h 166 = some (.inl (0, 14, kn))) → (zat h 214 = some (.inl (0, 132, pa))) → (zat h 218 = some (.inl (0, 22, co))) → (zat h 224 = some (.inl (0, 6, tk))) → (zat h 194 = some (.inl (0, 6, th))) → (k ≤ n + 1) → (n + 1 - k) < m → ∀ (dc ds : Nat), wq 266 49 [(0, .ref 162), (2, .int (nI n)), (3, .int 0), (4, .long s9), (6, .int (nI k))] [] h dc ds (fun rr9 => ∃ (h2 : zH) , rr9 = (some (Value.long ((mtrF0 kn pa co wn n m s9 k tk th).1)), h2, dc, ds) ∧ wFr [224, 194] h h2 ∧ h2.length = h.length ∧ zat h2 224 = some (.inl (0, 6, ((mtrF0 kn pa co wn n m s9 k tk th).2.1))) ∧ zat h2 194 = some (.inl (0, 6, ((mtrF0 kn pa co wn n m s9 k tk th).2.2)))) := by
  intro m
  induction m with
  | zero => intro s9 k tk th h hM hK hPa hCo hTk hTh hk hms dc ds; omega
  | succ m ih =>
    intro s9 k tk th h hM hK hPa hCo hTk hTh hk hms dc ds
    have qnk := nI_toInt (n := k) (by omega)
    have qnn := nI_toInt (n := n) (by omega)
    refine wq_gos (f := 1) (pc2 := 52) (ls2 := [(0, .ref 162), (2, .int (nI n)), (3, .int 0), (4, .long s9), (6, .int (nI k))]) (st2 := [.int (nI n), .int (nI k)]) (h2 := h) (dc2 := dc) (ds2 := ds) 2 rfl ?_
    try have q1x := nI_toInt (n := k) (by omega)
    try have q2x := nI_toInt (n := n) (by omega)
    refine wq_gt2 rfl rfl (fun b3x => ?_) (fun b3x => ?_)
    · refine wq_gos (f := 1) (pc2 := 152) (ls2 := [(0, .ref 162), (2, .int (nI n)), (3, .int 0), (4, .long s9), (6, .int (nI k))]) (st2 := [.long s9]) (h2 := h) (dc2 := dc) (ds2 := ds) 1 rfl ?_
      have hx : (mtrF0 kn pa co wn n (m + 1) s9 k tk th) = (s9, tk, th) := by show (if _ then _ else _) = _; rw [if_pos b3x]
      rw [hx]
      exact wq_ret rfl rfl ⟨h, rfl, (wFr_rf _ _), by omega, hTk, hTh⟩
    · refine wq_gos (f := 1) (pc2 := 56) (ls2 := [(0, .ref 162), (2, .int (nI n)), (3, .int 0), (4, .long s9), (6, .int (nI k))]) (st2 := [.ref 162]) (h2 := h) (dc2 := dc) (ds2 := ds) 1 rfl ?_
      refine wq_getf rfl hM rfl rfl ?_
      refine wq_gos (f := 1) (pc2 := 60) (ls2 := [(0, .ref 162), (2, .int (nI n)), (3, .int 0), (4, .long s9), (6, .int (nI k))]) (st2 := [.int 0, .ref 194]) (h2 := h) (dc2 := dc) (ds2 := ds) 1 rfl ?_
      have q4x : (0 : Int32).toInt = 0 := rfl
      refine wq_iald rfl hTh rfl rfl ?_
      refine wq_gos (f := 1) (pc2 := 64) (ls2 := [(7, .int (th.getD 0 0)), (0, .ref 162), (2, .int (nI n)), (3, .int 0), (4, .long s9), (6, .int (nI k))]) (st2 := [.ref 162]) (h2 := h) (dc2 := dc) (ds2 := ds) 2 rfl ?_
      refine wq_getf rfl hM rfl rfl ?_
      refine wq_gos (f := 1) (pc2 := 68) (ls2 := [(7, .int (th.getD 0 0)), (0, .ref 162), (2, .int (nI n)), (3, .int 0), (4, .long s9), (6, .int (nI k))]) (st2 := [.int 1, .ref 194]) (h2 := h) (dc2 := dc) (ds2 := ds) 1 rfl ?_
      have q5x : (1 : Int32).toInt = 1 := rfl
      refine wq_iald rfl hTh rfl rfl ?_
      refine wq_gos (f := 1) (pc2 := 72) (ls2 := [(8, .int (th.getD 1 0)), (7, .int (th.getD 0 0)), (0, .ref 162), (2, .int (nI n)), (3, .int 0), (4, .long s9), (6, .int (nI k))]) (st2 := [.ref 162]) (h2 := h) (dc2 := dc) (ds2 := ds) 2 rfl ?_
      refine wq_getf rfl hM rfl rfl ?_
      refine wq_gos (f := 1) (pc2 := 76) (ls2 := [(8, .int (th.getD 1 0)), (7, .int (th.getD 0 0)), (0, .ref 162), (2, .int (nI n)), (3, .int 0), (4, .long s9), (6, .int (nI k))]) (st2 := [.int 2, .ref 194]) (h2 := h) (dc2 := dc) (ds2 := ds) 1 rfl ?_
      have q6x : (2 : Int32).toInt = 2 := rfl
      refine wq_iald rfl hTh rfl rfl ?_
      refine wq_gos (f := 1) (pc2 := 83) (ls2 := [(9, .int (th.getD 2 0)), (8, .int (th.getD 1 0)), (7, .int (th.getD 0 0)), (0, .ref 162), (2, .int (nI n)), (3, .int 0), (4, .long s9), (6, .int (nI k))]) (st2 := [.int (nI k), .int 0, .ref 162]) (h2 := h) (dc2 := dc) (ds2 := ds) 4 rfl ?_
      refine wq_inlv (y2 := 262) (as := [.int 0, .int (nI k)]) rfl rfl rfl hM rfl (wq_mono (m_lt (r := 0) hM hK hPa hCo hTk ⟨hkw.1, hkw.2, by decide⟩) ?_)
      rintro _ ⟨h87x, rfl, f87x, l87x, c07x⟩
      show wq 266 86 [(9, .int (th.getD 2 0)), (8, .int (th.getD 1 0)), (7, .int (th.getD 0 0)), (0, .ref 162), (2, .int (nI n)), (3, .int 0), (4, .long s9), (6, .int (nI k))] [] h87x dc ds _
      refine wq_gos (f := 1) (pc2 := 88) (ls2 := [(9, .int (th.getD 2 0)), (8, .int (th.getD 1 0)), (7, .int (th.getD 0 0)), (0, .ref 162), (2, .int (nI n)), (3, .int 0), (4, .long s9), (6, .int (nI k))]) (st2 := [.ref 162, .ref 162]) (h2 := h87x) (dc2 := dc) (ds2 := ds) 2 rfl ?_
      have e8x := (f87x.2 _ _ (wnc (by decide) wn0) hM)
      refine wq_getf rfl e8x rfl rfl ?_
      refine wq_gos (f := 1) (pc2 := 92) (ls2 := [(9, .int (th.getD 2 0)), (8, .int (th.getD 1 0)), (7, .int (th.getD 0 0)), (0, .ref 162), (2, .int (nI n)), (3, .int 0), (4, .long s9), (6, .int (nI k))]) (st2 := [.int 0, .ref 224, .ref 162]) (h2 := h87x) (dc2 := dc) (ds2 := ds) 1 rfl ?_
      have e9x := (f87x.2 _ _ (wnc (by decide) wn0) hK)
      have e10x := (f87x.2 _ _ (wnc (by decide) wn0) hTh)
      refine wq_inlv (y2 := 200) (as := [.ref 224, .int 0]) rfl rfl rfl e8x rfl (wq_mono (m_pla (k := 0) e8x e9x c07x e10x (by decide) (by decide)) ?_)
      rintro _ ⟨h811x, rfl, f811x, l811x, c011x⟩
      show wq 266 95 [(9, .int (th.getD 2 0)), (8, .int (th.getD 1 0)), (7, .int (th.getD 0 0)), (0, .ref 162), (2, .int (nI n)), (3, .int 0), (4, .long s9), (6, .int (nI k))] [] h811x dc ds _
      obtain ⟨v12x, hv13x⟩ : ∃ x, x = (mPla kn (mTick tk pa co wn 0 (nI k)) 0 th) := ⟨_, rfl⟩
      try rw [← hv13x] at c011x
      try rw [← hv13x]
      refine wq_gos (f := 1) (pc2 := 98) (ls2 := [(9, .int (th.getD 2 0)), (8, .int (th.getD 1 0)), (7, .int (th.getD 0 0)), (0, .ref 162), (2, .int (nI n)), (3, .int 0), (4, .long s9), (6, .int (nI k))]) (st2 := [.ref 162, .long s9]) (h2 := h811x) (dc2 := dc) (ds2 := ds) 2 rfl ?_
      have e14x := (f811x.2 _ _ (wnc (by decide) wn0) e8x)
      refine wq_getf rfl e14x rfl rfl ?_
      refine wq_gos (f := 1) (pc2 := 102) (ls2 := [(9, .int (th.getD 2 0)), (8, .int (th.getD 1 0)), (7, .int (th.getD 0 0)), (0, .ref 162), (2, .int (nI n)), (3, .int 0), (4, .long s9), (6, .int (nI k))]) (st2 := [.int 0, .ref 194, .long s9]) (h2 := h811x) (dc2 := dc) (ds2 := ds) 1 rfl ?_
      refine wq_iald rfl c011x rfl rfl ?_
      refine wq_gos (f := 1) (pc2 := 106) (ls2 := [(9, .int (th.getD 2 0)), (8, .int (th.getD 1 0)), (7, .int (th.getD 0 0)), (0, .ref 162), (2, .int (nI n)), (3, .int 0), (4, .long s9), (6, .int (nI k))]) (st2 := [.int (((v12x).getD 0 0) - (th.getD 0 0)), .long s9]) (h2 := h811x) (dc2 := dc) (ds2 := ds) 2 rfl ?_
      refine wq_inl (y2 := 203) (as := [.int (((v12x).getD 0 0) - (th.getD 0 0))]) rfl rfl rfl (wq_T (m_abs (((v12x).getD 0 0) - (th.getD 0 0)) h811x) ?_)
      show wq 266 109 [(9, .int (th.getD 2 0)), (8, .int (th.getD 1 0)), (7, .int (th.getD 0 0)), (0, .ref 162), (2, .int (nI n)), (3, .int 0), (4, .long s9), (6, .int (nI k))] [.int (jabs (((v12x).getD 0 0) - (th.getD 0 0))), .long s9] h811x dc ds _
      refine wq_gos (f := 1) (pc2 := 110) (ls2 := [(9, .int (th.getD 2 0)), (8, .int (th.getD 1 0)), (7, .int (th.getD 0 0)), (0, .ref 162), (2, .int (nI n)), (3, .int 0), (4, .long s9), (6, .int (nI k))]) (st2 := [.ref 162, .int (jabs (((v12x).getD 0 0) - (th.getD 0 0))), .long s9]) (h2 := h811x) (dc2 := dc) (ds2 := ds) 1 rfl ?_
      refine wq_getf rfl e14x rfl rfl ?_
      refine wq_gos (f := 1) (pc2 := 114) (ls2 := [(9, .int (th.getD 2 0)), (8, .int (th.getD 1 0)), (7, .int (th.getD 0 0)), (0, .ref 162), (2, .int (nI n)), (3, .int 0), (4, .long s9), (6, .int (nI k))]) (st2 := [.int 1, .ref 194, .int (jabs (((v12x).getD 0 0) - (th.getD 0 0))), .long s9]) (h2 := h811x) (dc2 := dc) (ds2 := ds) 1 rfl ?_
      refine wq_iald rfl c011x rfl rfl ?_
      refine wq_gos (f := 1) (pc2 := 118) (ls2 := [(9, .int (th.getD 2 0)), (8, .int (th.getD 1 0)), (7, .int (th.getD 0 0)), (0, .ref 162), (2, .int (nI n)), (3, .int 0), (4, .long s9), (6, .int (nI k))]) (st2 := [.int (((v12x).getD 1 0) - (th.getD 1 0)), .int (jabs (((v12x).getD 0 0) - (th.getD 0 0))), .long s9]) (h2 := h811x) (dc2 := dc) (ds2 := ds) 2 rfl ?_
      refine wq_inl (y2 := 203) (as := [.int (((v12x).getD 1 0) - (th.getD 1 0))]) rfl rfl rfl (wq_T (m_abs (((v12x).getD 1 0) - (th.getD 1 0)) h811x) ?_)
      show wq 266 121 [(9, .int (th.getD 2 0)), (8, .int (th.getD 1 0)), (7, .int (th.getD 0 0)), (0, .ref 162), (2, .int (nI n)), (3, .int 0), (4, .long s9), (6, .int (nI k))] [.int (jabs (((v12x).getD 1 0) - (th.getD 1 0))), .int (jabs (((v12x).getD 0 0) - (th.getD 0 0))), .long s9] h811x dc ds _
      refine wq_gos (f := 1) (pc2 := 127) (ls2 := [(9, .int (th.getD 2 0)), (8, .int (th.getD 1 0)), (7, .int (th.getD 0 0)), (0, .ref 162), (2, .int (nI n)), (3, .int 0), (4, .long s9), (6, .int (nI k))]) (st2 := [.ref 162, .long 1000, .long (((jabs (((v12x).getD 0 0) - (th.getD 0 0))) + (jabs (((v12x).getD 1 0) - (th.getD 1 0))))).toInt64, .long s9]) (h2 := h811x) (dc2 := dc) (ds2 := ds) 4 rfl ?_
      refine wq_getf rfl e14x rfl rfl ?_
      refine wq_gos (f := 1) (pc2 := 131) (ls2 := [(9, .int (th.getD 2 0)), (8, .int (th.getD 1 0)), (7, .int (th.getD 0 0)), (0, .ref 162), (2, .int (nI n)), (3, .int 0), (4, .long s9), (6, .int (nI k))]) (st2 := [.int 2, .ref 194, .long 1000, .long (((jabs (((v12x).getD 0 0) - (th.getD 0 0))) + (jabs (((v12x).getD 1 0) - (th.getD 1 0))))).toInt64, .long s9]) (h2 := h811x) (dc2 := dc) (ds2 := ds) 1 rfl ?_
      refine wq_iald rfl c011x rfl rfl ?_
      refine wq_gos (f := 1) (pc2 := 135) (ls2 := [(9, .int (th.getD 2 0)), (8, .int (th.getD 1 0)), (7, .int (th.getD 0 0)), (0, .ref 162), (2, .int (nI n)), (3, .int 0), (4, .long s9), (6, .int (nI k))]) (st2 := [.int (((v12x).getD 2 0) - (th.getD 2 0)), .long 1000, .long (((jabs (((v12x).getD 0 0) - (th.getD 0 0))) + (jabs (((v12x).getD 1 0) - (th.getD 1 0))))).toInt64, .long s9]) (h2 := h811x) (dc2 := dc) (ds2 := ds) 2 rfl ?_
      refine wq_inl (y2 := 203) (as := [.int (((v12x).getD 2 0) - (th.getD 2 0))]) rfl rfl rfl (wq_T (m_abs (((v12x).getD 2 0) - (th.getD 2 0)) h811x) ?_)
      show wq 266 138 [(9, .int (th.getD 2 0)), (8, .int (th.getD 1 0)), (7, .int (th.getD 0 0)), (0, .ref 162), (2, .int (nI n)), (3, .int 0), (4, .long s9), (6, .int (nI k))] [.int (jabs (((v12x).getD 2 0) - (th.getD 2 0))), .long 1000, .long (((jabs (((v12x).getD 0 0) - (th.getD 0 0))) + (jabs (((v12x).getD 1 0) - (th.getD 1 0))))).toInt64, .long s9] h811x dc ds _
      refine wq_gos (f := 1) (pc2 := 147) (ls2 := [(6, .int ((nI k) + 1)), (4, .long (s9 + ((((jabs (((v12x).getD 0 0) - (th.getD 0 0))) + (jabs (((v12x).getD 1 0) - (th.getD 1 0))))).toInt64 + ((1000 : Int64) * ((jabs (((v12x).getD 2 0) - (th.getD 2 0)))).toInt64)))), (9, .int (th.getD 2 0)), (8, .int (th.getD 1 0)), (7, .int (th.getD 0 0)), (0, .ref 162), (2, .int (nI n)), (3, .int 0)]) (st2 := []) (h2 := h811x) (dc2 := dc) (ds2 := ds) 6 rfl ?_
      rw [nI_1]
      refine wq_gos (f := 1) (pc2 := 49) (ls2 := [(6, .int (nI (k + 1))), (4, .long (s9 + ((((jabs (((v12x).getD 0 0) - (th.getD 0 0))) + (jabs (((v12x).getD 1 0) - (th.getD 1 0))))).toInt64 + ((1000 : Int64) * ((jabs (((v12x).getD 2 0) - (th.getD 2 0)))).toInt64)))), (9, .int (th.getD 2 0)), (8, .int (th.getD 1 0)), (7, .int (th.getD 0 0)), (0, .ref 162), (2, .int (nI n)), (3, .int 0)]) (st2 := []) (h2 := h811x) (dc2 := dc) (ds2 := ds) 1 rfl ?_
      try have q15x := nI_toInt (n := (k + 1)) (by omega)
      have e16x := (f811x.2 _ _ (wnc (by decide) wn0) e9x)
      have e17x := (f811x.2 _ _ (wnc (by decide) wn0) (f87x.2 _ _ (wnc (by decide) wn0) hPa))
      have e18x := (f811x.2 _ _ (wnc (by decide) wn0) (f87x.2 _ _ (wnc (by decide) wn0) hCo))
      have e19x := (f811x.2 _ _ (wnc (by decide) wn0) c07x)
      have hx : (mtrF0 kn pa co wn n (m + 1) s9 k tk th) = (mtrF0 kn pa co wn n m (s9 + ((((jabs (((v12x).getD 0 0) - (th.getD 0 0))) + (jabs (((v12x).getD 1 0) - (th.getD 1 0))))).toInt64 + ((1000 : Int64) * ((jabs (((v12x).getD 2 0) - (th.getD 2 0)))).toInt64))) (k + 1) (mTick tk pa co wn 0 (nI k)) (v12x)) := by show (if _ then _ else _) = _; rw [if_neg (Int.not_lt.mpr b3x), zlet_eq hv13x]
      rw [hx]
      refine wq_ls [(0, .ref 162), (2, .int (nI n)), (3, .int 0), (4, .long (s9 + ((((jabs (((v12x).getD 0 0) - (th.getD 0 0))) + (jabs (((v12x).getD 1 0) - (th.getD 1 0))))).toInt64 + ((1000 : Int64) * ((jabs (((v12x).getD 2 0) - (th.getD 2 0)))).toInt64)))), (6, .int (nI (k + 1)))] (show ([0, 2, 3, 4, 6] : List Nat).Nodup by decide) ⟨rfl, rfl, rfl, rfl, rfl, trivial⟩ ?_
      refine wq_mono (ih (s9 + ((((jabs (((v12x).getD 0 0) - (th.getD 0 0))) + (jabs (((v12x).getD 1 0) - (th.getD 1 0))))).toInt64 + ((1000 : Int64) * ((jabs (((v12x).getD 2 0) - (th.getD 2 0)))).toInt64))) (k + 1) (mTick tk pa co wn 0 (nI k)) (v12x) h811x e14x e16x e17x e18x e19x c011x (by first | assumption | omega | decide | solve_by_elim) (by omega) dc ds) ?_
      rintro _ ⟨h9, rfl, f9, l9, y0, y1⟩
      exact ⟨h9, rfl, wFr_tr (wFr_tr (wFr_sub f87x (by simp)) (wFr_sub f811x (by simp))) f9, by omega, y0, y1⟩
noncomputable def mslF0 (pa co : List Int32) (wn n : Nat) : Nat → Int32 → Nat → List Int32 → Int32 × List Int32
  | 0, _, _, tk => (0, tk)
  | m + 1, s9, k, tk => (if (nI n).toInt < (nI k).toInt then (s9, tk) else (if (50 : Int32).toInt ≤ (mMea (mTick tk pa co wn 0 (nI k)) 0).toInt then (if (200 : Int32).toInt ≤ (mMea (mTick tk pa co wn 0 (nI k)) 0).toInt then (mslF0 pa co wn n m (s9 + (1 : Int32)) (k + 1) (mTick tk pa co wn 0 (nI k))) else (mslF0 pa co wn n m (s9 + (2 : Int32)) (k + 1) (mTick tk pa co wn 0 (nI k)))) else (mslF0 pa co wn n m (s9 + (4 : Int32)) (k + 1) (mTick tk pa co wn 0 (nI k)))))
set_option maxRecDepth 100000 in
set_option maxHeartbeats 4000000 in
theorem m_slL0 {n0 n2 n14 n15 n16 n17 n18 n19 n20 n21 n22 n23 n27 n28 n32 n33 n34 n35 n39 n52 : Int32} {kn pa co : List Int32} {wn : Nat} {n : Nat} (hkw : kn.getD 6 0 = nI wn ∧ wn ≤ 10) (hn : n ≤ 30000) : ∀ (m : Nat) (s9 : Int32) (k : Nat) (tk : List Int32) (h : zH) , (zat h 162 = some (.inr (.inr (.inr (10, mO n0 n2 n14 n15 n16 n17 n18 n19 n20 n21 n22 n23 n27 n28 n32 n33 n34 n35 n39 n52))))) → (zat h 166 = some (.inl (0, 14, kn))) → (zat h 214 = some (.inl (0, 132, pa))) → (zat h 218 = some (.inl (0, 22, co))) → (zat h 224 = some (.inl (0, 6, tk))) → (k ≤ n + 1) → (n + 1 - k) < m → ∀ (dc ds : Nat), wq 267 22 [(0, .ref 162), (1, .int 0), (2, .int (nI n)), (3, .int s9), (4, .int (nI k))] [] h dc ds (fun rr9 => ∃ (h2 : zH) , rr9 = (some (Value.int ((mslF0 pa co wn n m s9 k tk).1)), h2, dc, ds) ∧ wFr [224] h h2 ∧ h2.length = h.length ∧ zat h2 224 = some (.inl (0, 6, ((mslF0 pa co wn n m s9 k tk).2)))) := by
  intro m
  induction m with
  | zero => intro s9 k tk h hM hK hPa hCo hTk hk hms dc ds; omega
  | succ m ih =>
    intro s9 k tk h hM hK hPa hCo hTk hk hms dc ds
    have qnk := nI_toInt (n := k) (by omega)
    have qnn := nI_toInt (n := n) (by omega)
    refine wq_gos (f := 1) (pc2 := 25) (ls2 := [(0, .ref 162), (1, .int 0), (2, .int (nI n)), (3, .int s9), (4, .int (nI k))]) (st2 := [.int (nI n), .int (nI k)]) (h2 := h) (dc2 := dc) (ds2 := ds) 2 rfl ?_
    try have q1x := nI_toInt (n := k) (by omega)
    try have q2x := nI_toInt (n := n) (by omega)
    refine wq_gt2 rfl rfl (fun b3x => ?_) (fun b3x => ?_)
    · refine wq_gos (f := 1) (pc2 := 87) (ls2 := [(0, .ref 162), (1, .int 0), (2, .int (nI n)), (3, .int s9), (4, .int (nI k))]) (st2 := [.int s9]) (h2 := h) (dc2 := dc) (ds2 := ds) 1 rfl ?_
      have hx : (mslF0 pa co wn n (m + 1) s9 k tk) = (s9, tk) := by show (if _ then _ else _) = _; rw [if_pos b3x]
      rw [hx]
      exact wq_ret rfl rfl ⟨h, rfl, (wFr_rf _ _), by omega, hTk⟩
    · refine wq_gos (f := 1) (pc2 := 40) (ls2 := [(0, .ref 162), (1, .int 0), (2, .int (nI n)), (3, .int s9), (4, .int (nI k))]) (st2 := [.int (nI k), .int 0, .ref 162]) (h2 := h) (dc2 := dc) (ds2 := ds) 5 rfl ?_
      have q4x : (0 : Int32).toInt = 0 := rfl
      refine wq_inlv (y2 := 262) (as := [.int 0, .int (nI k)]) rfl rfl rfl hM rfl (wq_mono (m_lt (r := 0) hM hK hPa hCo hTk ⟨hkw.1, hkw.2, by decide⟩) ?_)
      rintro _ ⟨h85x, rfl, f85x, l85x, c05x⟩
      show wq 267 43 [(0, .ref 162), (1, .int 0), (2, .int (nI n)), (3, .int s9), (4, .int (nI k))] [] h85x dc ds _
      refine wq_gos (f := 1) (pc2 := 44) (ls2 := [(0, .ref 162), (1, .int 0), (2, .int (nI n)), (3, .int s9), (4, .int (nI k))]) (st2 := [.ref 162]) (h2 := h85x) (dc2 := dc) (ds2 := ds) 1 rfl ?_
      have e6x := (f85x.2 _ _ (wnc (by decide) wn0) hM)
      refine wq_getf rfl e6x rfl rfl ?_
      refine wq_gos (f := 1) (pc2 := 48) (ls2 := [(0, .ref 162), (1, .int 0), (2, .int (nI n)), (3, .int s9), (4, .int (nI k))]) (st2 := [.int 0, .ref 224]) (h2 := h85x) (dc2 := dc) (ds2 := ds) 1 rfl ?_
      refine wq_inl (y2 := 206) (as := [.ref 224, .int 0]) rfl rfl rfl (wq_mono (m_meav (k := 0) c05x (by decide)) ?_)
      rintro _ rfl
      show wq 267 51 [(0, .ref 162), (1, .int 0), (2, .int (nI n)), (3, .int s9), (4, .int (nI k))] [.int (mMea (mTick tk pa co wn 0 (nI k)) 0)] h85x dc ds _
      refine wq_gos (f := 1) (pc2 := 58) (ls2 := [(5, .int (mMea (mTick tk pa co wn 0 (nI k)) 0)), (0, .ref 162), (1, .int 0), (2, .int (nI n)), (3, .int s9), (4, .int (nI k))]) (st2 := [.int 50, .int (mMea (mTick tk pa co wn 0 (nI k)) 0), .int s9]) (h2 := h85x) (dc2 := dc) (ds2 := ds) 4 rfl ?_
      have q8x : (50 : Int32).toInt = 50 := rfl
      refine wq_ge2 rfl rfl (fun b9x => ?_) (fun b9x => ?_)
      · refine wq_gos (f := 1) (pc2 := 70) (ls2 := [(5, .int (mMea (mTick tk pa co wn 0 (nI k)) 0)), (0, .ref 162), (1, .int 0), (2, .int (nI n)), (3, .int s9), (4, .int (nI k))]) (st2 := [.int 200, .int (mMea (mTick tk pa co wn 0 (nI k)) 0), .int s9]) (h2 := h85x) (dc2 := dc) (ds2 := ds) 2 rfl ?_
        have q10x : (200 : Int32).toInt = 200 := rfl
        refine wq_ge2 rfl rfl (fun b11x => ?_) (fun b11x => ?_)
        · refine wq_gos (f := 1) (pc2 := 83) (ls2 := [(4, .int ((nI k) + 1)), (3, .int (s9 + (1 : Int32))), (5, .int (mMea (mTick tk pa co wn 0 (nI k)) 0)), (0, .ref 162), (1, .int 0), (2, .int (nI n))]) (st2 := []) (h2 := h85x) (dc2 := dc) (ds2 := ds) 4 rfl ?_
          rw [nI_1]
          refine wq_gos (f := 1) (pc2 := 22) (ls2 := [(4, .int (nI (k + 1))), (3, .int (s9 + (1 : Int32))), (5, .int (mMea (mTick tk pa co wn 0 (nI k)) 0)), (0, .ref 162), (1, .int 0), (2, .int (nI n))]) (st2 := []) (h2 := h85x) (dc2 := dc) (ds2 := ds) 1 rfl ?_
          try have q12x := nI_toInt (n := (k + 1)) (by omega)
          have q13x : (1 : Int32).toInt = 1 := rfl
          try have q14x : ((s9 + (1 : Int32))).toInt = s9.toInt + (1 : Int32).toInt := e_add (by omega) (by omega)
          have e15x := (f85x.2 _ _ (wnc (by decide) wn0) hK)
          have e16x := (f85x.2 _ _ (wnc (by decide) wn0) hPa)
          have e17x := (f85x.2 _ _ (wnc (by decide) wn0) hCo)
          have hx : (mslF0 pa co wn n (m + 1) s9 k tk) = (mslF0 pa co wn n m (s9 + (1 : Int32)) (k + 1) (mTick tk pa co wn 0 (nI k))) := by show (if _ then _ else _) = _; rw [if_neg (Int.not_lt.mpr b3x), if_pos b9x, if_pos b11x]
          rw [hx]
          refine wq_ls [(0, .ref 162), (1, .int 0), (2, .int (nI n)), (3, .int (s9 + (1 : Int32))), (4, .int (nI (k + 1)))] (show ([0, 1, 2, 3, 4] : List Nat).Nodup by decide) ⟨rfl, rfl, rfl, rfl, rfl, trivial⟩ ?_
          refine wq_mono (ih (s9 + (1 : Int32)) (k + 1) (mTick tk pa co wn 0 (nI k)) h85x e6x e15x e16x e17x c05x (by first | assumption | omega | decide | solve_by_elim) (by omega) dc ds) ?_
          rintro _ ⟨h9, rfl, f9, l9, y0⟩
          exact ⟨h9, rfl, wFr_tr (wFr_sub f85x (by simp)) f9, by omega, y0⟩
        · refine wq_gos (f := 1) (pc2 := 83) (ls2 := [(4, .int ((nI k) + 1)), (3, .int (s9 + (2 : Int32))), (5, .int (mMea (mTick tk pa co wn 0 (nI k)) 0)), (0, .ref 162), (1, .int 0), (2, .int (nI n))]) (st2 := []) (h2 := h85x) (dc2 := dc) (ds2 := ds) 5 rfl ?_
          rw [nI_1]
          refine wq_gos (f := 1) (pc2 := 22) (ls2 := [(4, .int (nI (k + 1))), (3, .int (s9 + (2 : Int32))), (5, .int (mMea (mTick tk pa co wn 0 (nI k)) 0)), (0, .ref 162), (1, .int 0), (2, .int (nI n))]) (st2 := []) (h2 := h85x) (dc2 := dc) (ds2 := ds) 1 rfl ?_
          try have q18x := nI_toInt (n := (k + 1)) (by omega)
          have q19x : (2 : Int32).toInt = 2 := rfl
          try have q20x : ((s9 + (2 : Int32))).toInt = s9.toInt + (2 : Int32).toInt := e_add (by omega) (by omega)
          have e21x := (f85x.2 _ _ (wnc (by decide) wn0) hK)
          have e22x := (f85x.2 _ _ (wnc (by decide) wn0) hPa)
          have e23x := (f85x.2 _ _ (wnc (by decide) wn0) hCo)
          have hx : (mslF0 pa co wn n (m + 1) s9 k tk) = (mslF0 pa co wn n m (s9 + (2 : Int32)) (k + 1) (mTick tk pa co wn 0 (nI k))) := by show (if _ then _ else _) = _; rw [if_neg (Int.not_lt.mpr b3x), if_pos b9x, if_neg (Int.not_le.mpr b11x)]
          rw [hx]
          refine wq_ls [(0, .ref 162), (1, .int 0), (2, .int (nI n)), (3, .int (s9 + (2 : Int32))), (4, .int (nI (k + 1)))] (show ([0, 1, 2, 3, 4] : List Nat).Nodup by decide) ⟨rfl, rfl, rfl, rfl, rfl, trivial⟩ ?_
          refine wq_mono (ih (s9 + (2 : Int32)) (k + 1) (mTick tk pa co wn 0 (nI k)) h85x e6x e21x e22x e23x c05x (by first | assumption | omega | decide | solve_by_elim) (by omega) dc ds) ?_
          rintro _ ⟨h9, rfl, f9, l9, y0⟩
          exact ⟨h9, rfl, wFr_tr (wFr_sub f85x (by simp)) f9, by omega, y0⟩
      · refine wq_gos (f := 1) (pc2 := 83) (ls2 := [(4, .int ((nI k) + 1)), (3, .int (s9 + (4 : Int32))), (5, .int (mMea (mTick tk pa co wn 0 (nI k)) 0)), (0, .ref 162), (1, .int 0), (2, .int (nI n))]) (st2 := []) (h2 := h85x) (dc2 := dc) (ds2 := ds) 5 rfl ?_
        rw [nI_1]
        refine wq_gos (f := 1) (pc2 := 22) (ls2 := [(4, .int (nI (k + 1))), (3, .int (s9 + (4 : Int32))), (5, .int (mMea (mTick tk pa co wn 0 (nI k)) 0)), (0, .ref 162), (1, .int 0), (2, .int (nI n))]) (st2 := []) (h2 := h85x) (dc2 := dc) (ds2 := ds) 1 rfl ?_
        try have q24x := nI_toInt (n := (k + 1)) (by omega)
        have q25x : (4 : Int32).toInt = 4 := rfl
        try have q26x : ((s9 + (4 : Int32))).toInt = s9.toInt + (4 : Int32).toInt := e_add (by omega) (by omega)
        have e27x := (f85x.2 _ _ (wnc (by decide) wn0) hK)
        have e28x := (f85x.2 _ _ (wnc (by decide) wn0) hPa)
        have e29x := (f85x.2 _ _ (wnc (by decide) wn0) hCo)
        have hx : (mslF0 pa co wn n (m + 1) s9 k tk) = (mslF0 pa co wn n m (s9 + (4 : Int32)) (k + 1) (mTick tk pa co wn 0 (nI k))) := by show (if _ then _ else _) = _; rw [if_neg (Int.not_lt.mpr b3x), if_neg (Int.not_le.mpr b9x)]
        rw [hx]
        refine wq_ls [(0, .ref 162), (1, .int 0), (2, .int (nI n)), (3, .int (s9 + (4 : Int32))), (4, .int (nI (k + 1)))] (show ([0, 1, 2, 3, 4] : List Nat).Nodup by decide) ⟨rfl, rfl, rfl, rfl, rfl, trivial⟩ ?_
        refine wq_mono (ih (s9 + (4 : Int32)) (k + 1) (mTick tk pa co wn 0 (nI k)) h85x e6x e27x e28x e29x c05x (by first | assumption | omega | decide | solve_by_elim) (by omega) dc ds) ?_
        rintro _ ⟨h9, rfl, f9, l9, y0⟩
        exact ⟨h9, rfl, wFr_tr (wFr_sub f85x (by simp)) f9, by omega, y0⟩
noncomputable def mcleF0 (pa co : List Int32) (wn n : Nat) : Nat → Int32 → Nat → List Int32 → Int32 × List Int32
  | 0, _, _, tk => (0, tk)
  | m + 1, s9, k, tk => (if (nI n).toInt < (nI k).toInt then (s9, tk) else (if s9.toInt ≤ (mMea (mTick tk pa co wn 0 (nI k)) 0).toInt then (mcleF0 pa co wn n m s9 (k + 1) (mTick tk pa co wn 0 (nI k))) else (mcleF0 pa co wn n m (mMea (mTick tk pa co wn 0 (nI k)) 0) (k + 1) (mTick tk pa co wn 0 (nI k)))))
set_option maxRecDepth 100000 in
set_option maxHeartbeats 4000000 in
theorem m_cleL0 {n0 n2 n14 n15 n16 n17 n18 n19 n20 n21 n22 n23 n27 n28 n32 n33 n34 n35 n39 n52 : Int32} {kn pa co : List Int32} {wn : Nat} {n : Nat} (hkw : kn.getD 6 0 = nI wn ∧ wn ≤ 10) (hn : n ≤ 30000) : ∀ (m : Nat) (s9 : Int32) (k : Nat) (tk : List Int32) (h : zH) , (zat h 162 = some (.inr (.inr (.inr (10, mO n0 n2 n14 n15 n16 n17 n18 n19 n20 n21 n22 n23 n27 n28 n32 n33 n34 n35 n39 n52))))) → (zat h 166 = some (.inl (0, 14, kn))) → (zat h 214 = some (.inl (0, 132, pa))) → (zat h 218 = some (.inl (0, 22, co))) → (zat h 224 = some (.inl (0, 6, tk))) → (k ≤ n + 1) → (n + 1 - k) < m → ∀ (dc ds : Nat), wq 268 24 [(0, .ref 162), (1, .int 0), (2, .int (nI n)), (3, .int s9), (4, .int (nI k))] [] h dc ds (fun rr9 => ∃ (h2 : zH) , rr9 = (some (Value.int ((mcleF0 pa co wn n m s9 k tk).1)), h2, dc, ds) ∧ wFr [224] h h2 ∧ h2.length = h.length ∧ zat h2 224 = some (.inl (0, 6, ((mcleF0 pa co wn n m s9 k tk).2)))) := by
  intro m
  induction m with
  | zero => intro s9 k tk h hM hK hPa hCo hTk hk hms dc ds; omega
  | succ m ih =>
    intro s9 k tk h hM hK hPa hCo hTk hk hms dc ds
    have qnk := nI_toInt (n := k) (by omega)
    have qnn := nI_toInt (n := n) (by omega)
    refine wq_gos (f := 1) (pc2 := 27) (ls2 := [(0, .ref 162), (1, .int 0), (2, .int (nI n)), (3, .int s9), (4, .int (nI k))]) (st2 := [.int (nI n), .int (nI k)]) (h2 := h) (dc2 := dc) (ds2 := ds) 2 rfl ?_
    try have q1x := nI_toInt (n := k) (by omega)
    try have q2x := nI_toInt (n := n) (by omega)
    refine wq_gt2 rfl rfl (fun b3x => ?_) (fun b3x => ?_)
    · refine wq_gos (f := 1) (pc2 := 75) (ls2 := [(0, .ref 162), (1, .int 0), (2, .int (nI n)), (3, .int s9), (4, .int (nI k))]) (st2 := [.int s9]) (h2 := h) (dc2 := dc) (ds2 := ds) 1 rfl ?_
      have hx : (mcleF0 pa co wn n (m + 1) s9 k tk) = (s9, tk) := by show (if _ then _ else _) = _; rw [if_pos b3x]
      rw [hx]
      exact wq_ret rfl rfl ⟨h, rfl, (wFr_rf _ _), by omega, hTk⟩
    · refine wq_gos (f := 1) (pc2 := 42) (ls2 := [(0, .ref 162), (1, .int 0), (2, .int (nI n)), (3, .int s9), (4, .int (nI k))]) (st2 := [.int (nI k), .int 0, .ref 162]) (h2 := h) (dc2 := dc) (ds2 := ds) 5 rfl ?_
      have q4x : (0 : Int32).toInt = 0 := rfl
      refine wq_inlv (y2 := 262) (as := [.int 0, .int (nI k)]) rfl rfl rfl hM rfl (wq_mono (m_lt (r := 0) hM hK hPa hCo hTk ⟨hkw.1, hkw.2, by decide⟩) ?_)
      rintro _ ⟨h85x, rfl, f85x, l85x, c05x⟩
      show wq 268 45 [(0, .ref 162), (1, .int 0), (2, .int (nI n)), (3, .int s9), (4, .int (nI k))] [] h85x dc ds _
      refine wq_gos (f := 1) (pc2 := 46) (ls2 := [(0, .ref 162), (1, .int 0), (2, .int (nI n)), (3, .int s9), (4, .int (nI k))]) (st2 := [.ref 162]) (h2 := h85x) (dc2 := dc) (ds2 := ds) 1 rfl ?_
      have e6x := (f85x.2 _ _ (wnc (by decide) wn0) hM)
      refine wq_getf rfl e6x rfl rfl ?_
      refine wq_gos (f := 1) (pc2 := 50) (ls2 := [(0, .ref 162), (1, .int 0), (2, .int (nI n)), (3, .int s9), (4, .int (nI k))]) (st2 := [.int 0, .ref 224]) (h2 := h85x) (dc2 := dc) (ds2 := ds) 1 rfl ?_
      refine wq_inl (y2 := 206) (as := [.ref 224, .int 0]) rfl rfl rfl (wq_mono (m_meav (k := 0) c05x (by decide)) ?_)
      rintro _ rfl
      show wq 268 53 [(0, .ref 162), (1, .int 0), (2, .int (nI n)), (3, .int s9), (4, .int (nI k))] [.int (mMea (mTick tk pa co wn 0 (nI k)) 0)] h85x dc ds _
      refine wq_gos (f := 1) (pc2 := 58) (ls2 := [(5, .int (mMea (mTick tk pa co wn 0 (nI k)) 0)), (0, .ref 162), (1, .int 0), (2, .int (nI n)), (3, .int s9), (4, .int (nI k))]) (st2 := [.int s9, .int (mMea (mTick tk pa co wn 0 (nI k)) 0)]) (h2 := h85x) (dc2 := dc) (ds2 := ds) 3 rfl ?_
      refine wq_ge2 rfl rfl (fun b8x => ?_) (fun b8x => ?_)
      · refine wq_gos (f := 1) (pc2 := 71) (ls2 := [(4, .int ((nI k) + 1)), (3, .int s9), (5, .int (mMea (mTick tk pa co wn 0 (nI k)) 0)), (0, .ref 162), (1, .int 0), (2, .int (nI n))]) (st2 := []) (h2 := h85x) (dc2 := dc) (ds2 := ds) 3 rfl ?_
        rw [nI_1]
        refine wq_gos (f := 1) (pc2 := 24) (ls2 := [(4, .int (nI (k + 1))), (3, .int s9), (5, .int (mMea (mTick tk pa co wn 0 (nI k)) 0)), (0, .ref 162), (1, .int 0), (2, .int (nI n))]) (st2 := []) (h2 := h85x) (dc2 := dc) (ds2 := ds) 1 rfl ?_
        try have q9x := nI_toInt (n := (k + 1)) (by omega)
        have e10x := (f85x.2 _ _ (wnc (by decide) wn0) hK)
        have e11x := (f85x.2 _ _ (wnc (by decide) wn0) hPa)
        have e12x := (f85x.2 _ _ (wnc (by decide) wn0) hCo)
        have hx : (mcleF0 pa co wn n (m + 1) s9 k tk) = (mcleF0 pa co wn n m s9 (k + 1) (mTick tk pa co wn 0 (nI k))) := by show (if _ then _ else _) = _; rw [if_neg (Int.not_lt.mpr b3x), if_pos b8x]
        rw [hx]
        refine wq_ls [(0, .ref 162), (1, .int 0), (2, .int (nI n)), (3, .int s9), (4, .int (nI (k + 1)))] (show ([0, 1, 2, 3, 4] : List Nat).Nodup by decide) ⟨rfl, rfl, rfl, rfl, rfl, trivial⟩ ?_
        refine wq_mono (ih s9 (k + 1) (mTick tk pa co wn 0 (nI k)) h85x e6x e10x e11x e12x c05x (by first | assumption | omega | decide | solve_by_elim) (by omega) dc ds) ?_
        rintro _ ⟨h9, rfl, f9, l9, y0⟩
        exact ⟨h9, rfl, wFr_tr (wFr_sub f85x (by simp)) f9, by omega, y0⟩
      · refine wq_gos (f := 1) (pc2 := 71) (ls2 := [(4, .int ((nI k) + 1)), (3, .int (mMea (mTick tk pa co wn 0 (nI k)) 0)), (5, .int (mMea (mTick tk pa co wn 0 (nI k)) 0)), (0, .ref 162), (1, .int 0), (2, .int (nI n))]) (st2 := []) (h2 := h85x) (dc2 := dc) (ds2 := ds) 4 rfl ?_
        rw [nI_1]
        refine wq_gos (f := 1) (pc2 := 24) (ls2 := [(4, .int (nI (k + 1))), (3, .int (mMea (mTick tk pa co wn 0 (nI k)) 0)), (5, .int (mMea (mTick tk pa co wn 0 (nI k)) 0)), (0, .ref 162), (1, .int 0), (2, .int (nI n))]) (st2 := []) (h2 := h85x) (dc2 := dc) (ds2 := ds) 1 rfl ?_
        try have q13x := nI_toInt (n := (k + 1)) (by omega)
        have e14x := (f85x.2 _ _ (wnc (by decide) wn0) hK)
        have e15x := (f85x.2 _ _ (wnc (by decide) wn0) hPa)
        have e16x := (f85x.2 _ _ (wnc (by decide) wn0) hCo)
        have hx : (mcleF0 pa co wn n (m + 1) s9 k tk) = (mcleF0 pa co wn n m (mMea (mTick tk pa co wn 0 (nI k)) 0) (k + 1) (mTick tk pa co wn 0 (nI k))) := by show (if _ then _ else _) = _; rw [if_neg (Int.not_lt.mpr b3x), if_neg (Int.not_le.mpr b8x)]
        rw [hx]
        refine wq_ls [(0, .ref 162), (1, .int 0), (2, .int (nI n)), (3, .int (mMea (mTick tk pa co wn 0 (nI k)) 0)), (4, .int (nI (k + 1)))] (show ([0, 1, 2, 3, 4] : List Nat).Nodup by decide) ⟨rfl, rfl, rfl, rfl, rfl, trivial⟩ ?_
        refine wq_mono (ih (mMea (mTick tk pa co wn 0 (nI k)) 0) (k + 1) (mTick tk pa co wn 0 (nI k)) h85x e6x e14x e15x e16x c05x (by first | assumption | omega | decide | solve_by_elim) (by omega) dc ds) ?_
        rintro _ ⟨h9, rfl, f9, l9, y0⟩
        exact ⟨h9, rfl, wFr_tr (wFr_sub f85x (by simp)) f9, by omega, y0⟩
noncomputable def mfaF0 (pa co : List Int32) (wn n j : Nat) (bl : Int32) : Nat → Int32 → Int32 → Int32
  | 0, _, _ => 0
  | m + 1, mo, k => (if ((nI n) + bl).toInt ≤ k.toInt then mo else (if (jabs ((mbbF pa co wn 0 j (k + (1 : Int32)) bl (((k + (1 : Int32)).toInt + bl.toInt + 1 - ((k + (1 : Int32)) - bl).toInt).toNat + 1) 0 ((k + (1 : Int32)) - bl)) - (mbbF pa co wn 0 j k bl ((k.toInt + bl.toInt + 1 - (k - bl).toInt).toNat + 1) 0 (k - bl)))).toInt ≤ mo.toInt then (mfaF0 pa co wn n j bl m mo (k + 1)) else (mfaF0 pa co wn n j bl m (jabs ((mbbF pa co wn 0 j (k + (1 : Int32)) bl (((k + (1 : Int32)).toInt + bl.toInt + 1 - ((k + (1 : Int32)) - bl).toInt).toNat + 1) 0 ((k + (1 : Int32)) - bl)) - (mbbF pa co wn 0 j k bl ((k.toInt + bl.toInt + 1 - (k - bl).toInt).toNat + 1) 0 (k - bl)))) (k + 1))))
set_option maxRecDepth 100000 in
set_option maxHeartbeats 4000000 in
theorem m_faL0 {h : zH} {n0 n2 n14 n15 n16 n17 n18 n19 n20 n21 n22 n23 n27 n28 n32 n33 n34 n35 n39 n52 : Int32} {kn pa co : List Int32} {wn : Nat} {n j : Nat} {bl : Int32} (hM : zat h 162 = some (.inr (.inr (.inr (10, mO n0 n2 n14 n15 n16 n17 n18 n19 n20 n21 n22 n23 n27 n28 n32 n33 n34 n35 n39 n52))))) (hK : zat h 166 = some (.inl (0, 14, kn))) (hPa : zat h 214 = some (.inl (0, 132, pa))) (hCo : zat h 218 = some (.inl (0, 22, co))) (hkw : kn.getD 6 0 = nI wn ∧ wn ≤ 10) (hn : n ≤ 30000) (hj : j < 6) (hbl : 0 ≤ bl.toInt ∧ bl.toInt ≤ 9) : ∀ (m : Nat) (mo : Int32) (k : Int32), (-bl.toInt ≤ k.toInt ∧ k.toInt ≤ n + bl.toInt) → (n + bl.toInt - k.toInt).toNat < m → ∀ (dc ds : Nat), wq 257 64 [(0, .ref 162), (2, .int (nI j)), (4, .int (nI n)), (5, .int bl), (6, .int 0), (7, .int mo), (8, .int k)] [] h dc ds (fun rr9 => rr9 = (some (Value.int (mfaF0 pa co wn n j bl m mo k)), h, dc, ds)) := by
  intro m
  induction m with
  | zero => intro mo k hk hms dc ds; omega
  | succ m ih =>
    intro mo k hk hms dc ds
    have qnn := nI_toInt (n := n) (by omega)
    have qnj := nI_toInt (n := j) (by omega)
    refine wq_gos (f := 1) (pc2 := 71) (ls2 := [(0, .ref 162), (2, .int (nI j)), (4, .int (nI n)), (5, .int bl), (6, .int 0), (7, .int mo), (8, .int k)]) (st2 := [.int ((nI n) + bl), .int k]) (h2 := h) (dc2 := dc) (ds2 := ds) 4 rfl ?_
    try have q1x := nI_toInt (n := n) (by omega)
    try have q2x : (((nI n) + bl)).toInt = (nI n).toInt + bl.toInt := e_add (by omega) (by omega)
    refine wq_ge2 rfl rfl (fun b3x => ?_) (fun b3x => ?_)
    · refine wq_gos (f := 1) (pc2 := 128) (ls2 := [(0, .ref 162), (2, .int (nI j)), (4, .int (nI n)), (5, .int bl), (6, .int 0), (7, .int mo), (8, .int k)]) (st2 := [.int mo]) (h2 := h) (dc2 := dc) (ds2 := ds) 1 rfl ?_
      have hx : (mfaF0 pa co wn n j bl (m + 1) mo k) = mo := by show (if _ then _ else _) = _; rw [if_pos b3x]
      refine wq_ret rfl rfl ?_
      show (some (Value.int mo), h, dc, ds) = (some (Value.int (mfaF0 pa co wn n j bl (m + 1) mo k)), h, dc, ds)
      rw [hx]
    · refine wq_gos (f := 1) (pc2 := 84) (ls2 := [(0, .ref 162), (2, .int (nI j)), (4, .int (nI n)), (5, .int bl), (6, .int 0), (7, .int mo), (8, .int k)]) (st2 := [.int bl, .int (nI j), .int (k + (1 : Int32)), .int 0, .ref 162]) (h2 := h) (dc2 := dc) (ds2 := ds) 7 rfl ?_
      have q4x : (0 : Int32).toInt = 0 := rfl
      have q5x : (1 : Int32).toInt = 1 := rfl
      try have q6x : ((k + (1 : Int32))).toInt = k.toInt + (1 : Int32).toInt := e_add (by omega) (by omega)
      try have q7x := nI_toInt (n := j) (by omega)
      refine wq_inlv (y2 := 254) (as := [.int 0, .int (k + (1 : Int32)), .int (nI j), .int bl]) rfl rfl rfl hM rfl (wq_mono (m_bb (r := 0) hM hK hPa hCo ⟨hkw.1, hkw.2, by decide, hj⟩ (by first | assumption | omega | decide | solve_by_elim)) ?_)
      rintro _ rfl
      show wq 257 87 [(0, .ref 162), (2, .int (nI j)), (4, .int (nI n)), (5, .int bl), (6, .int 0), (7, .int mo), (8, .int k)] [.int (mbbF pa co wn 0 j (k + (1 : Int32)) bl (((k + (1 : Int32)).toInt + bl.toInt + 1 - ((k + (1 : Int32)) - bl).toInt).toNat + 1) 0 ((k + (1 : Int32)) - bl))] h dc ds _
      refine wq_gos (f := 1) (pc2 := 95) (ls2 := [(0, .ref 162), (2, .int (nI j)), (4, .int (nI n)), (5, .int bl), (6, .int 0), (7, .int mo), (8, .int k)]) (st2 := [.int bl, .int (nI j), .int k, .int 0, .ref 162, .int (mbbF pa co wn 0 j (k + (1 : Int32)) bl (((k + (1 : Int32)).toInt + bl.toInt + 1 - ((k + (1 : Int32)) - bl).toInt).toNat + 1) 0 ((k + (1 : Int32)) - bl))]) (h2 := h) (dc2 := dc) (ds2 := ds) 5 rfl ?_
      refine wq_inlv (y2 := 254) (as := [.int 0, .int k, .int (nI j), .int bl]) rfl rfl rfl hM rfl (wq_mono (m_bb (r := 0) hM hK hPa hCo ⟨hkw.1, hkw.2, by decide, hj⟩ (by first | assumption | omega | decide | solve_by_elim)) ?_)
      rintro _ rfl
      show wq 257 98 [(0, .ref 162), (2, .int (nI j)), (4, .int (nI n)), (5, .int bl), (6, .int 0), (7, .int mo), (8, .int k)] [.int (mbbF pa co wn 0 j k bl ((k.toInt + bl.toInt + 1 - (k - bl).toInt).toNat + 1) 0 (k - bl)), .int (mbbF pa co wn 0 j (k + (1 : Int32)) bl (((k + (1 : Int32)).toInt + bl.toInt + 1 - ((k + (1 : Int32)) - bl).toInt).toNat + 1) 0 ((k + (1 : Int32)) - bl))] h dc ds _
      refine wq_gos (f := 1) (pc2 := 99) (ls2 := [(0, .ref 162), (2, .int (nI j)), (4, .int (nI n)), (5, .int bl), (6, .int 0), (7, .int mo), (8, .int k)]) (st2 := [.int ((mbbF pa co wn 0 j (k + (1 : Int32)) bl (((k + (1 : Int32)).toInt + bl.toInt + 1 - ((k + (1 : Int32)) - bl).toInt).toNat + 1) 0 ((k + (1 : Int32)) - bl)) - (mbbF pa co wn 0 j k bl ((k.toInt + bl.toInt + 1 - (k - bl).toInt).toNat + 1) 0 (k - bl)))]) (h2 := h) (dc2 := dc) (ds2 := ds) 1 rfl ?_
      refine wq_inl (y2 := 203) (as := [.int ((mbbF pa co wn 0 j (k + (1 : Int32)) bl (((k + (1 : Int32)).toInt + bl.toInt + 1 - ((k + (1 : Int32)) - bl).toInt).toNat + 1) 0 ((k + (1 : Int32)) - bl)) - (mbbF pa co wn 0 j k bl ((k.toInt + bl.toInt + 1 - (k - bl).toInt).toNat + 1) 0 (k - bl)))]) rfl rfl rfl (wq_T (m_abs ((mbbF pa co wn 0 j (k + (1 : Int32)) bl (((k + (1 : Int32)).toInt + bl.toInt + 1 - ((k + (1 : Int32)) - bl).toInt).toNat + 1) 0 ((k + (1 : Int32)) - bl)) - (mbbF pa co wn 0 j k bl ((k.toInt + bl.toInt + 1 - (k - bl).toInt).toNat + 1) 0 (k - bl))) h) ?_)
      show wq 257 102 [(0, .ref 162), (2, .int (nI j)), (4, .int (nI n)), (5, .int bl), (6, .int 0), (7, .int mo), (8, .int k)] [.int (jabs ((mbbF pa co wn 0 j (k + (1 : Int32)) bl (((k + (1 : Int32)).toInt + bl.toInt + 1 - ((k + (1 : Int32)) - bl).toInt).toNat + 1) 0 ((k + (1 : Int32)) - bl)) - (mbbF pa co wn 0 j k bl ((k.toInt + bl.toInt + 1 - (k - bl).toInt).toNat + 1) 0 (k - bl))))] h dc ds _
      refine wq_gos (f := 1) (pc2 := 108) (ls2 := [(9, .int (jabs ((mbbF pa co wn 0 j (k + (1 : Int32)) bl (((k + (1 : Int32)).toInt + bl.toInt + 1 - ((k + (1 : Int32)) - bl).toInt).toNat + 1) 0 ((k + (1 : Int32)) - bl)) - (mbbF pa co wn 0 j k bl ((k.toInt + bl.toInt + 1 - (k - bl).toInt).toNat + 1) 0 (k - bl))))), (0, .ref 162), (2, .int (nI j)), (4, .int (nI n)), (5, .int bl), (6, .int 0), (7, .int mo), (8, .int k)]) (st2 := [.int mo, .int (jabs ((mbbF pa co wn 0 j (k + (1 : Int32)) bl (((k + (1 : Int32)).toInt + bl.toInt + 1 - ((k + (1 : Int32)) - bl).toInt).toNat + 1) 0 ((k + (1 : Int32)) - bl)) - (mbbF pa co wn 0 j k bl ((k.toInt + bl.toInt + 1 - (k - bl).toInt).toNat + 1) 0 (k - bl))))]) (h2 := h) (dc2 := dc) (ds2 := ds) 3 rfl ?_
      refine wq_le2 rfl rfl (fun b10x => ?_) (fun b10x => ?_)
      · refine wq_gos (f := 1) (pc2 := 64) (ls2 := [(8, .int (k + 1)), (7, .int mo), (9, .int (jabs ((mbbF pa co wn 0 j (k + (1 : Int32)) bl (((k + (1 : Int32)).toInt + bl.toInt + 1 - ((k + (1 : Int32)) - bl).toInt).toNat + 1) 0 ((k + (1 : Int32)) - bl)) - (mbbF pa co wn 0 j k bl ((k.toInt + bl.toInt + 1 - (k - bl).toInt).toNat + 1) 0 (k - bl))))), (0, .ref 162), (2, .int (nI j)), (4, .int (nI n)), (5, .int bl), (6, .int 0)]) (st2 := []) (h2 := h) (dc2 := dc) (ds2 := ds) 4 rfl ?_
        try have q11x : ((k + 1)).toInt = k.toInt + (1 : Int32).toInt := e_add (by omega) (by omega)
        have hx : (mfaF0 pa co wn n j bl (m + 1) mo k) = (mfaF0 pa co wn n j bl m mo (k + 1)) := by show (if _ then _ else _) = _; rw [if_neg (Int.not_le.mpr b3x), if_pos b10x]
        rw [hx]
        refine wq_ls [(0, .ref 162), (2, .int (nI j)), (4, .int (nI n)), (5, .int bl), (6, .int 0), (7, .int mo), (8, .int (k + 1))] (show ([0, 2, 4, 5, 6, 7, 8] : List Nat).Nodup by decide) ⟨rfl, rfl, rfl, rfl, rfl, rfl, rfl, trivial⟩ ?_
        exact ih mo (k + 1) (by first | assumption | omega | decide | solve_by_elim) (by omega) dc ds
      · refine wq_gos (f := 1) (pc2 := 64) (ls2 := [(8, .int (k + 1)), (7, .int (jabs ((mbbF pa co wn 0 j (k + (1 : Int32)) bl (((k + (1 : Int32)).toInt + bl.toInt + 1 - ((k + (1 : Int32)) - bl).toInt).toNat + 1) 0 ((k + (1 : Int32)) - bl)) - (mbbF pa co wn 0 j k bl ((k.toInt + bl.toInt + 1 - (k - bl).toInt).toNat + 1) 0 (k - bl))))), (9, .int (jabs ((mbbF pa co wn 0 j (k + (1 : Int32)) bl (((k + (1 : Int32)).toInt + bl.toInt + 1 - ((k + (1 : Int32)) - bl).toInt).toNat + 1) 0 ((k + (1 : Int32)) - bl)) - (mbbF pa co wn 0 j k bl ((k.toInt + bl.toInt + 1 - (k - bl).toInt).toNat + 1) 0 (k - bl))))), (0, .ref 162), (2, .int (nI j)), (4, .int (nI n)), (5, .int bl), (6, .int 0)]) (st2 := []) (h2 := h) (dc2 := dc) (ds2 := ds) 5 rfl ?_
        try have q12x : ((k + 1)).toInt = k.toInt + (1 : Int32).toInt := e_add (by omega) (by omega)
        have hx : (mfaF0 pa co wn n j bl (m + 1) mo k) = (mfaF0 pa co wn n j bl m (jabs ((mbbF pa co wn 0 j (k + (1 : Int32)) bl (((k + (1 : Int32)).toInt + bl.toInt + 1 - ((k + (1 : Int32)) - bl).toInt).toNat + 1) 0 ((k + (1 : Int32)) - bl)) - (mbbF pa co wn 0 j k bl ((k.toInt + bl.toInt + 1 - (k - bl).toInt).toNat + 1) 0 (k - bl)))) (k + 1)) := by show (if _ then _ else _) = _; rw [if_neg (Int.not_le.mpr b3x), if_neg (Int.not_le.mpr b10x)]
        rw [hx]
        refine wq_ls [(0, .ref 162), (2, .int (nI j)), (4, .int (nI n)), (5, .int bl), (6, .int 0), (7, .int (jabs ((mbbF pa co wn 0 j (k + (1 : Int32)) bl (((k + (1 : Int32)).toInt + bl.toInt + 1 - ((k + (1 : Int32)) - bl).toInt).toNat + 1) 0 ((k + (1 : Int32)) - bl)) - (mbbF pa co wn 0 j k bl ((k.toInt + bl.toInt + 1 - (k - bl).toInt).toNat + 1) 0 (k - bl))))), (8, .int (k + 1))] (show ([0, 2, 4, 5, 6, 7, 8] : List Nat).Nodup by decide) ⟨rfl, rfl, rfl, rfl, rfl, rfl, rfl, trivial⟩ ?_
        exact ih (jabs ((mbbF pa co wn 0 j (k + (1 : Int32)) bl (((k + (1 : Int32)).toInt + bl.toInt + 1 - ((k + (1 : Int32)) - bl).toInt).toNat + 1) 0 ((k + (1 : Int32)) - bl)) - (mbbF pa co wn 0 j k bl ((k.toInt + bl.toInt + 1 - (k - bl).toInt).toNat + 1) 0 (k - bl)))) (k + 1) (by first | assumption | omega | decide | solve_by_elim) (by omega) dc ds
theorem mro_d {b : Int32} (hb : 0 ≤ b.toInt ∧ b.toInt ≤ 9) (h : b.toInt ≠ 0) : 0 ≤ (b + (-1)).toInt ∧ (b + (-1)).toInt ≤ 9 := by
  have z : (-1 : Int32).toInt = -1 := rfl
  have e : (b + (-1 : Int32)).toInt = b.toInt + (-1 : Int32).toInt := e_add (by omega) (by omega)
  omega
theorem mro_m {b : Int32} {m : Nat} (hb : 0 ≤ b.toInt ∧ b.toInt ≤ 9) (h : b.toInt ≠ 0) (hm : b.toInt.toNat < m + 1) : (b + (-1)).toInt.toNat < m := by
  have z : (-1 : Int32).toInt = -1 := rfl
  have e : (b + (-1 : Int32)).toInt = b.toInt + (-1 : Int32).toInt := e_add (by omega) (by omega)
  omega
theorem mro_b0 {wn : Nat} {pa co : List Int32} {b m9 : Int32} (hwn : wn ≤ 10) (hR : mRt 0 wn pa co) (hm : 0 ≤ m9.toInt) (h : (if wn = 0 then 1 else mirF pa co wn 0 b m9 (7 * (wn - 0) + (6 - 0) + 1) 0 0) = (0 : Int32)) : b.toInt ≠ 0 := fun e => by
  have e0 : b = 0 := Int32.toInt_inj.mp e
  subst e0
  exact absurd (h.symm.trans (mir_one hR hwn hm)) (by decide)
noncomputable def mroF0 (pa co : List Int32) (wn : Nat) (m9 : Int32) : Nat → Int32 → Int32
  | 0, _ => 0
  | m + 1, b => (if (if wn = 0 then 1 else mirF pa co wn 0 b m9 (7 * (wn - 0) + (6 - 0) + 1) 0 0) ≠ (0 : Int32) then b else (mroF0 pa co wn m9 m (b + (-1))))
set_option maxRecDepth 100000 in
set_option maxHeartbeats 4000000 in
theorem m_roL0 {h : zH} {n0 n2 n14 n15 n16 n17 n18 n19 n20 n21 n22 n23 n27 n28 n32 n33 n34 n35 n39 n52 : Int32} {kn pa co : List Int32} {wn : Nat} {m9 : Int32} (hM : zat h 162 = some (.inr (.inr (.inr (10, mO n0 n2 n14 n15 n16 n17 n18 n19 n20 n21 n22 n23 n27 n28 n32 n33 n34 n35 n39 n52))))) (hK : zat h 166 = some (.inl (0, 14, kn))) (hPa : zat h 214 = some (.inl (0, 132, pa))) (hCo : zat h 218 = some (.inl (0, 22, co))) (hkw : kn.getD 6 0 = nI wn ∧ wn ≤ 10) (hR : mRt 0 wn pa co) (hcb : ∀ q, q < 22 → -100000 ≤ (co.getD q 0).toInt ∧ (co.getD q 0).toInt ≤ 100000) (hm9 : 0 ≤ m9.toInt) : ∀ (m : Nat) (b : Int32), (0 ≤ b.toInt ∧ b.toInt ≤ 9) → b.toInt.toNat < m → ∀ (dc ds : Nat), wq 260 33 [(0, .ref 162), (1, .int 0), (2, .int m9), (4, .int b)] [] h dc ds (fun rr9 => rr9 = (some (Value.int (mroF0 pa co wn m9 m b)), h, dc, ds)) := by
  intro m
  induction m with
  | zero => intro b hb hms dc ds; omega
  | succ m ih =>
    intro b hb hms dc ds
    refine wq_gos (f := 1) (pc2 := 46) (ls2 := [(0, .ref 162), (1, .int 0), (2, .int m9), (4, .int b)]) (st2 := [.int m9, .int b, .int 0, .ref 162]) (h2 := h) (dc2 := dc) (ds2 := ds) 6 rfl ?_
    have q1x : (0 : Int32).toInt = 0 := rfl
    refine wq_inlv (y2 := 261) (as := [.int 0, .int b, .int m9]) rfl rfl rfl hM rfl (wq_mono (m_ir (r := 0) hM hK hPa hCo ⟨hkw.1, hkw.2, by decide⟩ ⟨hb.1, hb.2, hcb⟩) ?_)
    rintro _ rfl
    show wq 260 49 [(0, .ref 162), (1, .int 0), (2, .int m9), (4, .int b)] [.int (if wn = 0 then 1 else mirF pa co wn 0 b m9 (7 * (wn - 0) + (6 - 0) + 1) 0 0)] h dc ds _
    refine wq_ne0 rfl rfl (fun b3x => ?_) (fun b3x => ?_)
    · have q4x : (if wn = 0 then 1 else mirF pa co wn 0 b m9 (7 * (wn - 0) + (6 - 0) + 1) 0 0).toInt ≠ 0 := fun q => b3x (Int32.toInt_inj.mp q)
      refine wq_gos (f := 1) (pc2 := 60) (ls2 := [(0, .ref 162), (1, .int 0), (2, .int m9), (4, .int b)]) (st2 := [.int b]) (h2 := h) (dc2 := dc) (ds2 := ds) 1 rfl ?_
      have hx : (mroF0 pa co wn m9 (m + 1) b) = b := by show (if _ then _ else _) = _; rw [if_pos b3x]
      refine wq_ret rfl rfl ?_
      show (some (Value.int b), h, dc, ds) = (some (Value.int (mroF0 pa co wn m9 (m + 1) b)), h, dc, ds)
      rw [hx]
    · have q5x : (if wn = 0 then 1 else mirF pa co wn 0 b m9 (7 * (wn - 0) + (6 - 0) + 1) 0 0).toInt = 0 := congrArg Int32.toInt b3x
      have hb1 : b.toInt ≠ 0 := mro_b0 hkw.2 hR hm9 b3x
      refine wq_gos (f := 1) (pc2 := 33) (ls2 := [(4, .int (b + (-1))), (0, .ref 162), (1, .int 0), (2, .int m9)]) (st2 := []) (h2 := h) (dc2 := dc) (ds2 := ds) 2 rfl ?_
      have q6x : (-1 : Int32).toInt = -1 := rfl
      try have q7x : ((b + (-1))).toInt = b.toInt + (-1 : Int32).toInt := e_add (by omega) (by omega)
      have hx : (mroF0 pa co wn m9 (m + 1) b) = (mroF0 pa co wn m9 m (b + (-1))) := by show (if _ then _ else _) = _; rw [if_neg (fun q => q b3x)]
      rw [hx]
      refine wq_ls [(0, .ref 162), (1, .int 0), (2, .int m9), (4, .int (b + (-1)))] (show ([0, 1, 2, 4] : List Nat).Nodup by decide) ⟨rfl, rfl, rfl, rfl, trivial⟩ ?_
      exact ih (b + (-1)) (mro_d hb hb1) (mro_m hb hb1 hms) dc ds
set_option maxRecDepth 100000 in
set_option maxHeartbeats 4000000 in
theorem m_o251_0 {h : zH} {wn : Nat} {kn lo hi sv sq wy nw : List Int32} {n0 n2 n14 n15 n16 n17 n18 n19 n20 n21 n22 n23 n27 n28 n32 n33 n34 n35 n39 n52 : Int32} {am9 : mS}  (hM : zat h 162 = some (.inr (.inr (.inr (10, mO n0 n2 n14 n15 n16 n17 n18 n19 n20 n21 n22 n23 n27 n28 n32 n33 n34 n35 n39 n52))))) (hI : mIv h h wn kn lo hi sv sq wy nw n0 n2 n14 n15 n16 n17 n18 n19 n20 n21 n22 n23 n27 n28 n32 n33 n39 n52 am9)  : wq 251 0 [(0, .ref 162), (1, .int 0)] [] h 0 0 (fun r => ∃ v h2, r = (some (.int v), h2, 0, 0) ∧ mIv h h2 wn kn lo hi sv sq wy nw 0 n2 n14 n15 n16 n17 n18 n19 n20 n21 n22 n23 n27 n28 n32 n33 n39 n52 am9) := by
  have hI0 := hI
  obtain ⟨_, _, fo9, sm9, hr9, tk9, hT9, hS9, hP9, hF9, hN9, hb9, hR9, hK9⟩ := hI0
  have hKn9 := hT9.1
  have tf9 := hT9.2.2.2.2.2.2
  have hkn := tf9.1
  have hw10 := tf9.2.1
  have hbl9 := tf9.2.2.2.1
  have z0 : (0 : Int32).toInt = 0 := rfl
  have z1 : (1 : Int32).toInt = 1 := rfl
  have z5 : (5 : Int32).toInt = 5 := rfl
  have z6 : (6 : Int32).toInt = 6 := rfl
  have zm1 : (-1 : Int32).toInt = -1 := rfl
  have z3 : (3 : Int32).toInt = 3 := rfl
  have z2 : (2 : Int32).toInt = 2 := rfl
  have z20 : (20 : Int32).toInt = 20 := rfl
  have zn99 : (99 : Int32).toInt = 99 := rfl
  have qwn := nI_toInt (n := wn) (by omega)
  refine wq_gos (f := 1) (pc2 := 2) (ls2 := [(0, .ref 162), (1, .int 0)]) (st2 := [.int 0, .ref 162]) (h2 := h) (dc2 := 0) (ds2 := 0) 2 rfl ?_
  refine wq_putf rfl hM rfl rfl rfl ?_
  intro hh1x e2x ff3x lh4x
  have e2x : zat hh1x 162 = some (.inr (.inr (.inr (10, mO (0 : Int32) n2 n14 n15 n16 n17 n18 n19 n20 n21 n22 n23 n27 n28 n32 n33 n34 n35 n39 n52)))) := e2x
  refine wq_gos (f := 1) (pc2 := 7) (ls2 := [(0, .ref 162), (1, .int 0)]) (st2 := [.int 0, .ref 162]) (h2 := hh1x) (dc2 := 0) (ds2 := 0) 2 rfl ?_
  refine wq_inlv (y2 := 250) (as := [.int 0]) rfl rfl rfl e2x rfl ?_
  show wq 250 0 [(0, .ref 162), (1, .int 0)] [] hh1x 0 0 _
  refine wq_gos (f := 1) (pc2 := 10) (ls2 := [(0, .ref 162), (1, .int 0)]) (st2 := [.int 0, .ref 162]) (h2 := hh1x) (dc2 := 0) (ds2 := 0) 4 rfl ?_
  refine wq_inlv (y2 := 249) (as := [.int 0]) rfl rfl rfl e2x rfl (m_use0 e2x (mIv_0 hI ff3x (by omega) e2x) ?_ ?_)
  · intro h85x m345x m355x ri5x pa5x ch5x co5x tk5x th5x f85x l85x c05x c15x c25x c35x c45x c55x c65x c75x p05x p15x
    show wq 250 13 [(0, .ref 162), (1, .int 0)] [] h85x 0 0 _
    refine wq_gos (f := 1) (pc2 := 14) (ls2 := [(0, .ref 162), (1, .int 0)]) (st2 := [.ref 162]) (h2 := h85x) (dc2 := 0) (ds2 := 0) 1 rfl ?_
    refine wq_getf rfl c05x rfl rfl ?_
    refine wq_gos (f := 1) (pc2 := 26) (ls2 := [(0, .ref 162), (1, .int 0)]) (st2 := [.int 0, .ref 210]) (h2 := h85x) (dc2 := 0) (ds2 := 0) 3 rfl ?_
    have q6x : (0 : Int32).toInt = 0 := rfl
    refine wq_iald rfl c25x rfl rfl ?_
    refine wq_ret rfl rfl ?_
    show wq 251 10 [(0, .ref 162), (1, .int 0)] [.int (ri5x.getD 0 0)] h85x 0 0 _
    exact wq_ret rfl rfl ⟨_, h85x, rfl, p15x⟩
  · intro h87x m347x m357x ri7x pa7x ch7x co7x tk7x th7x T97x f87x l87x c07x c17x c27x c37x c47x c57x c67x c77x p07x p17x p27x p37x p47x
    have qT9 := nI_toInt (n := T97x) (by omega)
    show wq 250 13 [(0, .ref 162), (1, .int 0)] [] h87x 0 0 _
    refine wq_gos (f := 1) (pc2 := 14) (ls2 := [(0, .ref 162), (1, .int 0)]) (st2 := [.ref 162]) (h2 := h87x) (dc2 := 0) (ds2 := 0) 1 rfl ?_
    refine wq_getf rfl c07x rfl rfl ?_
    refine wq_gos (f := 1) (pc2 := 26) (ls2 := [(0, .ref 162), (1, .int 0)]) (st2 := [.int 0, .ref 210]) (h2 := h87x) (dc2 := 0) (ds2 := 0) 3 rfl ?_
    have q8x : (0 : Int32).toInt = 0 := rfl
    refine wq_iald rfl c27x rfl rfl ?_
    refine wq_vi p07x ?_
    refine wq_ret rfl rfl ?_
    show wq 251 10 [(0, .ref 162), (1, .int 0)] [.int (nI T97x)] h87x 0 0 _
    exact wq_ret rfl rfl ⟨_, h87x, rfl, p47x⟩
set_option maxRecDepth 100000 in
set_option maxHeartbeats 4000000 in
theorem m_o252_0 {h : zH} {wn : Nat} {kn lo hi sv sq wy nw : List Int32} {n0 n2 n14 n15 n16 n17 n18 n19 n20 n21 n22 n23 n27 n28 n32 n33 n34 n35 n39 n52 : Int32} {am9 : mS} {i : Int32} (hM : zat h 162 = some (.inr (.inr (.inr (10, mO n0 n2 n14 n15 n16 n17 n18 n19 n20 n21 n22 n23 n27 n28 n32 n33 n34 n35 n39 n52))))) (hI : mIv h h wn kn lo hi sv sq wy nw n0 n2 n14 n15 n16 n17 n18 n19 n20 n21 n22 n23 n27 n28 n32 n33 n39 n52 am9)  : wq 252 0 [(0, .ref 162), (1, .int 0), (2, .int i)] [] h 0 0 (fun r => ∃ v h2, r = (some (.int v), h2, 0, 0) ∧ mIv h h2 wn kn lo hi sv sq wy nw 0 n2 n14 n15 n16 n17 n18 n19 n20 n21 n22 n23 n27 n28 n32 n33 n39 n52 am9) := by
  have hI0 := hI
  obtain ⟨_, _, fo9, sm9, hr9, tk9, hT9, hS9, hP9, hF9, hN9, hb9, hR9, hK9⟩ := hI0
  have hKn9 := hT9.1
  have tf9 := hT9.2.2.2.2.2.2
  have hkn := tf9.1
  have hw10 := tf9.2.1
  have hbl9 := tf9.2.2.2.1
  have z0 : (0 : Int32).toInt = 0 := rfl
  have z1 : (1 : Int32).toInt = 1 := rfl
  have z5 : (5 : Int32).toInt = 5 := rfl
  have z6 : (6 : Int32).toInt = 6 := rfl
  have zm1 : (-1 : Int32).toInt = -1 := rfl
  have z3 : (3 : Int32).toInt = 3 := rfl
  have z2 : (2 : Int32).toInt = 2 := rfl
  have z20 : (20 : Int32).toInt = 20 := rfl
  have zn99 : (99 : Int32).toInt = 99 := rfl
  have qwn := nI_toInt (n := wn) (by omega)
  refine wq_gos (f := 1) (pc2 := 2) (ls2 := [(0, .ref 162), (1, .int 0), (2, .int i)]) (st2 := [.int 0, .ref 162]) (h2 := h) (dc2 := 0) (ds2 := 0) 2 rfl ?_
  refine wq_putf rfl hM rfl rfl rfl ?_
  intro hh1x e2x ff3x lh4x
  have e2x : zat hh1x 162 = some (.inr (.inr (.inr (10, mO (0 : Int32) n2 n14 n15 n16 n17 n18 n19 n20 n21 n22 n23 n27 n28 n32 n33 n34 n35 n39 n52)))) := e2x
  refine wq_gos (f := 1) (pc2 := 6) (ls2 := [(0, .ref 162), (1, .int 0), (2, .int i)]) (st2 := [.int i]) (h2 := hh1x) (dc2 := 0) (ds2 := 0) 1 rfl ?_
  refine wq_lt0 rfl rfl (fun b5x => ?_) (fun b5x => ?_)
  · refine wq_gos (f := 1) (pc2 := 18) (ls2 := [(0, .ref 162), (1, .int 0), (2, .int i)]) (st2 := [.int (-1)]) (h2 := hh1x) (dc2 := 0) (ds2 := 0) 1 rfl ?_
    exact wq_ret rfl rfl ⟨_, hh1x, rfl, mIv_0 hI ff3x (by omega) e2x⟩
  · refine wq_gos (f := 1) (pc2 := 11) (ls2 := [(0, .ref 162), (1, .int 0), (2, .int i)]) (st2 := [.ref 162, .int i]) (h2 := hh1x) (dc2 := 0) (ds2 := 0) 2 rfl ?_
    refine wq_inlv (y2 := 244) (as := []) rfl rfl rfl e2x rfl ?_
    show wq 244 0 [(0, .ref 162)] [] hh1x 0 0 _
    refine wq_gos (f := 1) (pc2 := 1) (ls2 := [(0, .ref 162)]) (st2 := [.ref 162]) (h2 := hh1x) (dc2 := 0) (ds2 := 0) 1 rfl ?_
    refine wq_getf rfl e2x rfl rfl ?_
    refine wq_gos (f := 1) (pc2 := 6) (ls2 := [(0, .ref 162)]) (st2 := [.int 6, .ref 166]) (h2 := hh1x) (dc2 := 0) (ds2 := 0) 1 rfl ?_
    have e6x := (ff3x.2 _ _ (wnc (by decide) wn0) hKn9)
    have q7x : (6 : Int32).toInt = 6 := rfl
    refine wq_iald rfl e6x rfl rfl ?_
    refine wq_vi hkn ?_
    refine wq_ret rfl rfl ?_
    show wq 252 14 [(0, .ref 162), (1, .int 0), (2, .int i)] [.int (nI wn), .int i] hh1x 0 0 _
    try have q8x := nI_toInt (n := wn) (by omega)
    refine wq_lt2 rfl rfl (fun b9x => ?_) (fun b9x => ?_)
    · refine wq_gos (f := 1) (pc2 := 21) (ls2 := [(0, .ref 162), (1, .int 0), (2, .int i)]) (st2 := [.int 0, .ref 162]) (h2 := hh1x) (dc2 := 0) (ds2 := 0) 2 rfl ?_
      refine wq_inlv (y2 := 250) (as := [.int 0]) rfl rfl rfl e2x rfl ?_
      show wq 250 0 [(0, .ref 162), (1, .int 0)] [] hh1x 0 0 _
      refine wq_gos (f := 1) (pc2 := 10) (ls2 := [(0, .ref 162), (1, .int 0)]) (st2 := [.int 0, .ref 162]) (h2 := hh1x) (dc2 := 0) (ds2 := 0) 4 rfl ?_
      refine wq_inlv (y2 := 249) (as := [.int 0]) rfl rfl rfl e2x rfl (m_use0 e2x (mIv_0 hI ff3x (by omega) e2x) ?_ ?_)
      · intro h810x m3410x m3510x ri10x pa10x ch10x co10x tk10x th10x f810x l810x c010x c110x c210x c310x c410x c510x c610x c710x p010x p110x
        show wq 250 13 [(0, .ref 162), (1, .int 0)] [] h810x 0 0 _
        refine wq_gos (f := 1) (pc2 := 14) (ls2 := [(0, .ref 162), (1, .int 0)]) (st2 := [.ref 162]) (h2 := h810x) (dc2 := 0) (ds2 := 0) 1 rfl ?_
        refine wq_getf rfl c010x rfl rfl ?_
        refine wq_gos (f := 1) (pc2 := 26) (ls2 := [(0, .ref 162), (1, .int 0)]) (st2 := [.int 0, .ref 210]) (h2 := h810x) (dc2 := 0) (ds2 := 0) 3 rfl ?_
        have q11x : (0 : Int32).toInt = 0 := rfl
        refine wq_iald rfl c210x rfl rfl ?_
        refine wq_ret rfl rfl ?_
        show wq 252 24 [(0, .ref 162), (1, .int 0), (2, .int i)] [.int (ri10x.getD 0 0)] h810x 0 0 _
        refine wq_gos (f := 1) (pc2 := 26) (ls2 := [(3, .int (ri10x.getD 0 0)), (0, .ref 162), (1, .int 0), (2, .int i)]) (st2 := [.int (ri10x.getD 0 0)]) (h2 := h810x) (dc2 := 0) (ds2 := 0) 2 rfl ?_
        refine wq_ge0f rfl rfl (by omega) ?_
        refine wq_gos (f := 1) (pc2 := 50) (ls2 := [(3, .int (ri10x.getD 0 0)), (0, .ref 162), (1, .int 0), (2, .int i)]) (st2 := [.int (ri10x.getD 0 0)]) (h2 := h810x) (dc2 := 0) (ds2 := 0) 2 rfl ?_
        exact wq_ret rfl rfl ⟨_, h810x, rfl, p110x⟩
      · intro h812x m3412x m3512x ri12x pa12x ch12x co12x tk12x th12x T912x f812x l812x c012x c112x c212x c312x c412x c512x c612x c712x p012x p112x p212x p312x p412x
        have qT9 := nI_toInt (n := T912x) (by omega)
        show wq 250 13 [(0, .ref 162), (1, .int 0)] [] h812x 0 0 _
        refine wq_gos (f := 1) (pc2 := 14) (ls2 := [(0, .ref 162), (1, .int 0)]) (st2 := [.ref 162]) (h2 := h812x) (dc2 := 0) (ds2 := 0) 1 rfl ?_
        refine wq_getf rfl c012x rfl rfl ?_
        refine wq_gos (f := 1) (pc2 := 26) (ls2 := [(0, .ref 162), (1, .int 0)]) (st2 := [.int 0, .ref 210]) (h2 := h812x) (dc2 := 0) (ds2 := 0) 3 rfl ?_
        have q13x : (0 : Int32).toInt = 0 := rfl
        refine wq_iald rfl c212x rfl rfl ?_
        refine wq_vi p012x ?_
        refine wq_ret rfl rfl ?_
        show wq 252 24 [(0, .ref 162), (1, .int 0), (2, .int i)] [.int (nI T912x)] h812x 0 0 _
        refine wq_gos (f := 1) (pc2 := 26) (ls2 := [(3, .int (nI T912x)), (0, .ref 162), (1, .int 0), (2, .int i)]) (st2 := [.int (nI T912x)]) (h2 := h812x) (dc2 := 0) (ds2 := 0) 2 rfl ?_
        try have q14x := nI_toInt (n := T912x) (by omega)
        refine wq_ge0t rfl (by omega) ?_
        refine wq_gos (f := 1) (pc2 := 34) (ls2 := [(3, .int (nI T912x)), (0, .ref 162), (1, .int 0), (2, .int i)]) (st2 := [.ref 162]) (h2 := h812x) (dc2 := 0) (ds2 := 0) 1 rfl ?_
        refine wq_getf rfl c012x rfl rfl ?_
        refine wq_gos (f := 1) (pc2 := 49) (ls2 := [(3, .int (nI T912x)), (0, .ref 162), (1, .int 0), (2, .int i)]) (st2 := [.int ((0 : Int32) + i), .ref 216]) (h2 := h812x) (dc2 := 0) (ds2 := 0) 5 rfl ?_
        try have q15x : (((0 : Int32) + i)).toInt = (0 : Int32).toInt + i.toInt := e_add (by omega) (by omega)
        refine wq_iald rfl c412x (by first | omega | exact zin_t (by omega) (by omega)) rfl ?_
        exact wq_ret rfl rfl ⟨_, h812x, rfl, p412x⟩
    · refine wq_gos (f := 1) (pc2 := 18) (ls2 := [(0, .ref 162), (1, .int 0), (2, .int i)]) (st2 := [.int (-1)]) (h2 := hh1x) (dc2 := 0) (ds2 := 0) 1 rfl ?_
      exact wq_ret rfl rfl ⟨_, hh1x, rfl, mIv_0 hI ff3x (by omega) e2x⟩
set_option maxRecDepth 100000 in
set_option maxHeartbeats 4000000 in
theorem m_o255_0 {h : zH} {wn : Nat} {kn lo hi sv sq wy nw : List Int32} {n0 n2 n14 n15 n16 n17 n18 n19 n20 n21 n22 n23 n27 n28 n32 n33 n34 n35 n39 n52 : Int32} {am9 : mS} {n : Int32} {j : Nat} (hM : zat h 162 = some (.inr (.inr (.inr (10, mO n0 n2 n14 n15 n16 n17 n18 n19 n20 n21 n22 n23 n27 n28 n32 n33 n34 n35 n39 n52))))) (hI : mIv h h wn kn lo hi sv sq wy nw n0 n2 n14 n15 n16 n17 n18 n19 n20 n21 n22 n23 n27 n28 n32 n33 n39 n52 am9) (hj : j < 6) : wq 255 0 [(0, .ref 162), (1, .int 0), (2, .int n), (3, .int (nI j))] [] h 0 0 (fun r => ∃ v h2, r = (some (.int v), h2, 0, 0) ∧ mIv h h2 wn kn lo hi sv sq wy nw 0 n2 n14 n15 n16 n17 n18 n19 n20 n21 n22 n23 n27 n28 n32 n33 n39 n52 am9) := by
  have hI0 := hI
  obtain ⟨_, _, fo9, sm9, hr9, tk9, hT9, hS9, hP9, hF9, hN9, hb9, hR9, hK9⟩ := hI0
  have hKn9 := hT9.1
  have tf9 := hT9.2.2.2.2.2.2
  have hkn := tf9.1
  have hw10 := tf9.2.1
  have hbl9 := tf9.2.2.2.1
  have z0 : (0 : Int32).toInt = 0 := rfl
  have z1 : (1 : Int32).toInt = 1 := rfl
  have z5 : (5 : Int32).toInt = 5 := rfl
  have z6 : (6 : Int32).toInt = 6 := rfl
  have zm1 : (-1 : Int32).toInt = -1 := rfl
  have z3 : (3 : Int32).toInt = 3 := rfl
  have z2 : (2 : Int32).toInt = 2 := rfl
  have z20 : (20 : Int32).toInt = 20 := rfl
  have zn99 : (99 : Int32).toInt = 99 := rfl
  have qwn := nI_toInt (n := wn) (by omega)
  have qnj := nI_toInt (n := j) (by omega)
  refine wq_gos (f := 1) (pc2 := 2) (ls2 := [(0, .ref 162), (1, .int 0), (2, .int n), (3, .int (nI j))]) (st2 := [.int 0, .ref 162]) (h2 := h) (dc2 := 0) (ds2 := 0) 2 rfl ?_
  refine wq_putf rfl hM rfl rfl rfl ?_
  intro hh1x e2x ff3x lh4x
  have e2x : zat hh1x 162 = some (.inr (.inr (.inr (10, mO (0 : Int32) n2 n14 n15 n16 n17 n18 n19 n20 n21 n22 n23 n27 n28 n32 n33 n34 n35 n39 n52)))) := e2x
  refine wq_gos (f := 1) (pc2 := 7) (ls2 := [(0, .ref 162), (1, .int 0), (2, .int n), (3, .int (nI j))]) (st2 := [.int 0, .ref 162]) (h2 := hh1x) (dc2 := 0) (ds2 := 0) 2 rfl ?_
  refine wq_inlv (y2 := 250) (as := [.int 0]) rfl rfl rfl e2x rfl ?_
  show wq 250 0 [(0, .ref 162), (1, .int 0)] [] hh1x 0 0 _
  refine wq_gos (f := 1) (pc2 := 10) (ls2 := [(0, .ref 162), (1, .int 0)]) (st2 := [.int 0, .ref 162]) (h2 := hh1x) (dc2 := 0) (ds2 := 0) 4 rfl ?_
  refine wq_inlv (y2 := 249) (as := [.int 0]) rfl rfl rfl e2x rfl (m_use0 e2x (mIv_0 hI ff3x (by omega) e2x) ?_ ?_)
  · intro h85x m345x m355x ri5x pa5x ch5x co5x tk5x th5x f85x l85x c05x c15x c25x c35x c45x c55x c65x c75x p05x p15x
    show wq 250 13 [(0, .ref 162), (1, .int 0)] [] h85x 0 0 _
    refine wq_gos (f := 1) (pc2 := 14) (ls2 := [(0, .ref 162), (1, .int 0)]) (st2 := [.ref 162]) (h2 := h85x) (dc2 := 0) (ds2 := 0) 1 rfl ?_
    refine wq_getf rfl c05x rfl rfl ?_
    refine wq_gos (f := 1) (pc2 := 26) (ls2 := [(0, .ref 162), (1, .int 0)]) (st2 := [.int 0, .ref 210]) (h2 := h85x) (dc2 := 0) (ds2 := 0) 3 rfl ?_
    have q6x : (0 : Int32).toInt = 0 := rfl
    refine wq_iald rfl c25x rfl rfl ?_
    refine wq_ret rfl rfl ?_
    show wq 255 10 [(0, .ref 162), (1, .int 0), (2, .int n), (3, .int (nI j))] [.int (ri5x.getD 0 0)] h85x 0 0 _
    refine wq_gos (f := 1) (pc2 := 14) (ls2 := [(4, .int (ri5x.getD 0 0)), (0, .ref 162), (1, .int 0), (2, .int n), (3, .int (nI j))]) (st2 := [.int (ri5x.getD 0 0)]) (h2 := h85x) (dc2 := 0) (ds2 := 0) 2 rfl ?_
    refine wq_lt0t rfl (by omega) ?_
    refine wq_gos (f := 1) (pc2 := 54) (ls2 := [(4, .int (ri5x.getD 0 0)), (0, .ref 162), (1, .int 0), (2, .int n), (3, .int (nI j))]) (st2 := [.int (-99)]) (h2 := h85x) (dc2 := 0) (ds2 := 0) 2 rfl ?_
    exact wq_ret rfl rfl ⟨_, h85x, rfl, p15x⟩
  · intro h87x m347x m357x ri7x pa7x ch7x co7x tk7x th7x T97x f87x l87x c07x c17x c27x c37x c47x c57x c67x c77x p07x p17x p27x p37x p47x
    have qT9 := nI_toInt (n := T97x) (by omega)
    show wq 250 13 [(0, .ref 162), (1, .int 0)] [] h87x 0 0 _
    refine wq_gos (f := 1) (pc2 := 14) (ls2 := [(0, .ref 162), (1, .int 0)]) (st2 := [.ref 162]) (h2 := h87x) (dc2 := 0) (ds2 := 0) 1 rfl ?_
    refine wq_getf rfl c07x rfl rfl ?_
    refine wq_gos (f := 1) (pc2 := 26) (ls2 := [(0, .ref 162), (1, .int 0)]) (st2 := [.int 0, .ref 210]) (h2 := h87x) (dc2 := 0) (ds2 := 0) 3 rfl ?_
    have q8x : (0 : Int32).toInt = 0 := rfl
    refine wq_iald rfl c27x rfl rfl ?_
    refine wq_vi p07x ?_
    refine wq_ret rfl rfl ?_
    show wq 255 10 [(0, .ref 162), (1, .int 0), (2, .int n), (3, .int (nI j))] [.int (nI T97x)] h87x 0 0 _
    refine wq_gos (f := 1) (pc2 := 14) (ls2 := [(4, .int (nI T97x)), (0, .ref 162), (1, .int 0), (2, .int n), (3, .int (nI j))]) (st2 := [.int (nI T97x)]) (h2 := h87x) (dc2 := 0) (ds2 := 0) 2 rfl ?_
    try have q9x := nI_toInt (n := T97x) (by omega)
    refine wq_lt0f rfl rfl (by omega) ?_
    refine wq_gos (f := 1) (pc2 := 18) (ls2 := [(4, .int (nI T97x)), (0, .ref 162), (1, .int 0), (2, .int n), (3, .int (nI j))]) (st2 := [.int n]) (h2 := h87x) (dc2 := 0) (ds2 := 0) 1 rfl ?_
    refine wq_lt0 rfl rfl (fun b10x => ?_) (fun b10x => ?_)
    · refine wq_gos (f := 1) (pc2 := 54) (ls2 := [(4, .int (nI T97x)), (0, .ref 162), (1, .int 0), (2, .int n), (3, .int (nI j))]) (st2 := [.int (-99)]) (h2 := h87x) (dc2 := 0) (ds2 := 0) 2 rfl ?_
      exact wq_ret rfl rfl ⟨_, h87x, rfl, p47x⟩
    · refine wq_gos (f := 1) (pc2 := 24) (ls2 := [(4, .int (nI T97x)), (0, .ref 162), (1, .int 0), (2, .int n), (3, .int (nI j))]) (st2 := [.int (nI T97x), .int n]) (h2 := h87x) (dc2 := 0) (ds2 := 0) 2 rfl ?_
      refine wq_gt2 rfl rfl (fun b11x => ?_) (fun b11x => ?_)
      · refine wq_gos (f := 1) (pc2 := 54) (ls2 := [(4, .int (nI T97x)), (0, .ref 162), (1, .int 0), (2, .int n), (3, .int (nI j))]) (st2 := [.int (-99)]) (h2 := h87x) (dc2 := 0) (ds2 := 0) 2 rfl ?_
        exact wq_ret rfl rfl ⟨_, h87x, rfl, p47x⟩
      · refine wq_gos (f := 1) (pc2 := 28) (ls2 := [(4, .int (nI T97x)), (0, .ref 162), (1, .int 0), (2, .int n), (3, .int (nI j))]) (st2 := [.int (nI j)]) (h2 := h87x) (dc2 := 0) (ds2 := 0) 1 rfl ?_
        refine wq_inl (y2 := 208) (as := [.int (nI j)]) rfl rfl rfl ?_
        show wq 208 0 [(0, .int (nI j))] [] h87x 0 0 _
        refine wq_gos (f := 1) (pc2 := 1) (ls2 := [(0, .int (nI j))]) (st2 := [.int (nI j)]) (h2 := h87x) (dc2 := 0) (ds2 := 0) 1 rfl ?_
        try have q12x := nI_toInt (n := j) (by omega)
        refine wq_lt0f rfl rfl (by omega) ?_
        refine wq_gos (f := 1) (pc2 := 7) (ls2 := [(0, .int (nI j))]) (st2 := [.int 6, .int (nI j)]) (h2 := h87x) (dc2 := 0) (ds2 := 0) 2 rfl ?_
        have q13x : (6 : Int32).toInt = 6 := rfl
        refine wq_ge2f rfl rfl (by omega) ?_
        refine wq_gos (f := 1) (pc2 := 15) (ls2 := [(0, .int (nI j))]) (st2 := [.int 1]) (h2 := h87x) (dc2 := 0) (ds2 := 0) 2 rfl ?_
        refine wq_ret rfl rfl ?_
        show wq 255 31 [(4, .int (nI T97x)), (0, .ref 162), (1, .int 0), (2, .int n), (3, .int (nI j))] [.int 1] h87x 0 0 _
        refine wq_gos (f := 1) (pc2 := 51) (ls2 := [(4, .int (nI T97x)), (0, .ref 162), (1, .int 0), (2, .int n), (3, .int (nI j))]) (st2 := [.int (nI j), .int n, .int 0, .ref 162]) (h2 := h87x) (dc2 := 0) (ds2 := 0) 7 rfl ?_
        refine wq_inlv (y2 := 253) (as := [.int 0, .int n, .int (nI j)]) rfl rfl rfl c07x rfl (wq_mono (m_ja (r := 0) c07x c17x c37x c57x ⟨hkn, hw10, by decide, hj⟩) ?_)
        rintro _ rfl
        show wq 255 54 [(4, .int (nI T97x)), (0, .ref 162), (1, .int 0), (2, .int n), (3, .int (nI j))] [.int (mJA pa7x co7x wn 0 j n)] h87x 0 0 _
        exact wq_ret rfl rfl ⟨_, h87x, rfl, p47x⟩
set_option maxRecDepth 100000 in
set_option maxHeartbeats 4000000 in
theorem m_o255N_0 {h : zH} {wn : Nat} {kn lo hi sv sq wy nw : List Int32} {n0 n2 n14 n15 n16 n17 n18 n19 n20 n21 n22 n23 n27 n28 n32 n33 n34 n35 n39 n52 : Int32} {am9 : mS} {n j : Int32} (hM : zat h 162 = some (.inr (.inr (.inr (10, mO n0 n2 n14 n15 n16 n17 n18 n19 n20 n21 n22 n23 n27 n28 n32 n33 n34 n35 n39 n52))))) (hI : mIv h h wn kn lo hi sv sq wy nw n0 n2 n14 n15 n16 n17 n18 n19 n20 n21 n22 n23 n27 n28 n32 n33 n39 n52 am9) (hj : j.toInt < 0 ∨ 5 < j.toInt) : wq 255 0 [(0, .ref 162), (1, .int 0), (2, .int n), (3, .int j)] [] h 0 0 (fun r => ∃ v h2, r = (some (.int v), h2, 0, 0) ∧ mIv h h2 wn kn lo hi sv sq wy nw 0 n2 n14 n15 n16 n17 n18 n19 n20 n21 n22 n23 n27 n28 n32 n33 n39 n52 am9) := by
  have hI0 := hI
  obtain ⟨_, _, fo9, sm9, hr9, tk9, hT9, hS9, hP9, hF9, hN9, hb9, hR9, hK9⟩ := hI0
  have hKn9 := hT9.1
  have tf9 := hT9.2.2.2.2.2.2
  have hkn := tf9.1
  have hw10 := tf9.2.1
  have hbl9 := tf9.2.2.2.1
  have z0 : (0 : Int32).toInt = 0 := rfl
  have z1 : (1 : Int32).toInt = 1 := rfl
  have z5 : (5 : Int32).toInt = 5 := rfl
  have z6 : (6 : Int32).toInt = 6 := rfl
  have zm1 : (-1 : Int32).toInt = -1 := rfl
  have z3 : (3 : Int32).toInt = 3 := rfl
  have z2 : (2 : Int32).toInt = 2 := rfl
  have z20 : (20 : Int32).toInt = 20 := rfl
  have zn99 : (99 : Int32).toInt = 99 := rfl
  have qwn := nI_toInt (n := wn) (by omega)
  refine wq_gos (f := 1) (pc2 := 2) (ls2 := [(0, .ref 162), (1, .int 0), (2, .int n), (3, .int j)]) (st2 := [.int 0, .ref 162]) (h2 := h) (dc2 := 0) (ds2 := 0) 2 rfl ?_
  refine wq_putf rfl hM rfl rfl rfl ?_
  intro hh1x e2x ff3x lh4x
  have e2x : zat hh1x 162 = some (.inr (.inr (.inr (10, mO (0 : Int32) n2 n14 n15 n16 n17 n18 n19 n20 n21 n22 n23 n27 n28 n32 n33 n34 n35 n39 n52)))) := e2x
  refine wq_gos (f := 1) (pc2 := 7) (ls2 := [(0, .ref 162), (1, .int 0), (2, .int n), (3, .int j)]) (st2 := [.int 0, .ref 162]) (h2 := hh1x) (dc2 := 0) (ds2 := 0) 2 rfl ?_
  refine wq_inlv (y2 := 250) (as := [.int 0]) rfl rfl rfl e2x rfl ?_
  show wq 250 0 [(0, .ref 162), (1, .int 0)] [] hh1x 0 0 _
  refine wq_gos (f := 1) (pc2 := 10) (ls2 := [(0, .ref 162), (1, .int 0)]) (st2 := [.int 0, .ref 162]) (h2 := hh1x) (dc2 := 0) (ds2 := 0) 4 rfl ?_
  refine wq_inlv (y2 := 249) (as := [.int 0]) rfl rfl rfl e2x rfl (m_use0 e2x (mIv_0 hI ff3x (by omega) e2x) ?_ ?_)
  · intro h85x m345x m355x ri5x pa5x ch5x co5x tk5x th5x f85x l85x c05x c15x c25x c35x c45x c55x c65x c75x p05x p15x
    show wq 250 13 [(0, .ref 162), (1, .int 0)] [] h85x 0 0 _
    refine wq_gos (f := 1) (pc2 := 14) (ls2 := [(0, .ref 162), (1, .int 0)]) (st2 := [.ref 162]) (h2 := h85x) (dc2 := 0) (ds2 := 0) 1 rfl ?_
    refine wq_getf rfl c05x rfl rfl ?_
    refine wq_gos (f := 1) (pc2 := 26) (ls2 := [(0, .ref 162), (1, .int 0)]) (st2 := [.int 0, .ref 210]) (h2 := h85x) (dc2 := 0) (ds2 := 0) 3 rfl ?_
    have q6x : (0 : Int32).toInt = 0 := rfl
    refine wq_iald rfl c25x rfl rfl ?_
    refine wq_ret rfl rfl ?_
    show wq 255 10 [(0, .ref 162), (1, .int 0), (2, .int n), (3, .int j)] [.int (ri5x.getD 0 0)] h85x 0 0 _
    refine wq_gos (f := 1) (pc2 := 14) (ls2 := [(4, .int (ri5x.getD 0 0)), (0, .ref 162), (1, .int 0), (2, .int n), (3, .int j)]) (st2 := [.int (ri5x.getD 0 0)]) (h2 := h85x) (dc2 := 0) (ds2 := 0) 2 rfl ?_
    refine wq_lt0t rfl (by omega) ?_
    refine wq_gos (f := 1) (pc2 := 54) (ls2 := [(4, .int (ri5x.getD 0 0)), (0, .ref 162), (1, .int 0), (2, .int n), (3, .int j)]) (st2 := [.int (-99)]) (h2 := h85x) (dc2 := 0) (ds2 := 0) 2 rfl ?_
    exact wq_ret rfl rfl ⟨_, h85x, rfl, p15x⟩
  · intro h87x m347x m357x ri7x pa7x ch7x co7x tk7x th7x T97x f87x l87x c07x c17x c27x c37x c47x c57x c67x c77x p07x p17x p27x p37x p47x
    have qT9 := nI_toInt (n := T97x) (by omega)
    show wq 250 13 [(0, .ref 162), (1, .int 0)] [] h87x 0 0 _
    refine wq_gos (f := 1) (pc2 := 14) (ls2 := [(0, .ref 162), (1, .int 0)]) (st2 := [.ref 162]) (h2 := h87x) (dc2 := 0) (ds2 := 0) 1 rfl ?_
    refine wq_getf rfl c07x rfl rfl ?_
    refine wq_gos (f := 1) (pc2 := 26) (ls2 := [(0, .ref 162), (1, .int 0)]) (st2 := [.int 0, .ref 210]) (h2 := h87x) (dc2 := 0) (ds2 := 0) 3 rfl ?_
    have q8x : (0 : Int32).toInt = 0 := rfl
    refine wq_iald rfl c27x rfl rfl ?_
    refine wq_vi p07x ?_
    refine wq_ret rfl rfl ?_
    show wq 255 10 [(0, .ref 162), (1, .int 0), (2, .int n), (3, .int j)] [.int (nI T97x)] h87x 0 0 _
    refine wq_gos (f := 1) (pc2 := 14) (ls2 := [(4, .int (nI T97x)), (0, .ref 162), (1, .int 0), (2, .int n), (3, .int j)]) (st2 := [.int (nI T97x)]) (h2 := h87x) (dc2 := 0) (ds2 := 0) 2 rfl ?_
    try have q9x := nI_toInt (n := T97x) (by omega)
    refine wq_lt0f rfl rfl (by omega) ?_
    refine wq_gos (f := 1) (pc2 := 18) (ls2 := [(4, .int (nI T97x)), (0, .ref 162), (1, .int 0), (2, .int n), (3, .int j)]) (st2 := [.int n]) (h2 := h87x) (dc2 := 0) (ds2 := 0) 1 rfl ?_
    refine wq_lt0 rfl rfl (fun b10x => ?_) (fun b10x => ?_)
    · refine wq_gos (f := 1) (pc2 := 54) (ls2 := [(4, .int (nI T97x)), (0, .ref 162), (1, .int 0), (2, .int n), (3, .int j)]) (st2 := [.int (-99)]) (h2 := h87x) (dc2 := 0) (ds2 := 0) 2 rfl ?_
      exact wq_ret rfl rfl ⟨_, h87x, rfl, p47x⟩
    · refine wq_gos (f := 1) (pc2 := 24) (ls2 := [(4, .int (nI T97x)), (0, .ref 162), (1, .int 0), (2, .int n), (3, .int j)]) (st2 := [.int (nI T97x), .int n]) (h2 := h87x) (dc2 := 0) (ds2 := 0) 2 rfl ?_
      refine wq_gt2 rfl rfl (fun b11x => ?_) (fun b11x => ?_)
      · refine wq_gos (f := 1) (pc2 := 54) (ls2 := [(4, .int (nI T97x)), (0, .ref 162), (1, .int 0), (2, .int n), (3, .int j)]) (st2 := [.int (-99)]) (h2 := h87x) (dc2 := 0) (ds2 := 0) 2 rfl ?_
        exact wq_ret rfl rfl ⟨_, h87x, rfl, p47x⟩
      · refine wq_gos (f := 1) (pc2 := 28) (ls2 := [(4, .int (nI T97x)), (0, .ref 162), (1, .int 0), (2, .int n), (3, .int j)]) (st2 := [.int j]) (h2 := h87x) (dc2 := 0) (ds2 := 0) 1 rfl ?_
        refine wq_inl (y2 := 208) (as := [.int j]) rfl rfl rfl ?_
        show wq 208 0 [(0, .int j)] [] h87x 0 0 _
        refine wq_gos (f := 1) (pc2 := 1) (ls2 := [(0, .int j)]) (st2 := [.int j]) (h2 := h87x) (dc2 := 0) (ds2 := 0) 1 rfl ?_
        refine wq_lt0 rfl rfl (fun b12x => ?_) (fun b12x => ?_)
        · refine wq_gos (f := 1) (pc2 := 15) (ls2 := [(0, .int j)]) (st2 := [.int 0]) (h2 := h87x) (dc2 := 0) (ds2 := 0) 1 rfl ?_
          refine wq_ret rfl rfl ?_
          show wq 255 31 [(4, .int (nI T97x)), (0, .ref 162), (1, .int 0), (2, .int n), (3, .int j)] [.int 0] h87x 0 0 _
          refine wq_gos (f := 1) (pc2 := 54) (ls2 := [(4, .int (nI T97x)), (0, .ref 162), (1, .int 0), (2, .int n), (3, .int j)]) (st2 := [.int (-99)]) (h2 := h87x) (dc2 := 0) (ds2 := 0) 3 rfl ?_
          exact wq_ret rfl rfl ⟨_, h87x, rfl, p47x⟩
        · refine wq_gos (f := 1) (pc2 := 7) (ls2 := [(0, .int j)]) (st2 := [.int 6, .int j]) (h2 := h87x) (dc2 := 0) (ds2 := 0) 2 rfl ?_
          have q13x : (6 : Int32).toInt = 6 := rfl
          refine wq_ge2t rfl (by omega) ?_
          refine wq_gos (f := 1) (pc2 := 15) (ls2 := [(0, .int j)]) (st2 := [.int 0]) (h2 := h87x) (dc2 := 0) (ds2 := 0) 1 rfl ?_
          refine wq_ret rfl rfl ?_
          show wq 255 31 [(4, .int (nI T97x)), (0, .ref 162), (1, .int 0), (2, .int n), (3, .int j)] [.int 0] h87x 0 0 _
          refine wq_gos (f := 1) (pc2 := 54) (ls2 := [(4, .int (nI T97x)), (0, .ref 162), (1, .int 0), (2, .int n), (3, .int j)]) (st2 := [.int (-99)]) (h2 := h87x) (dc2 := 0) (ds2 := 0) 3 rfl ?_
          exact wq_ret rfl rfl ⟨_, h87x, rfl, p47x⟩
set_option maxRecDepth 100000 in
set_option maxHeartbeats 4000000 in
theorem m_o256_0 {h : zH} {wn : Nat} {kn lo hi sv sq wy nw : List Int32} {n0 n2 n14 n15 n16 n17 n18 n19 n20 n21 n22 n23 n27 n28 n32 n33 n34 n35 n39 n52 : Int32} {am9 : mS} {n : Int32} {j : Nat} (hM : zat h 162 = some (.inr (.inr (.inr (10, mO n0 n2 n14 n15 n16 n17 n18 n19 n20 n21 n22 n23 n27 n28 n32 n33 n34 n35 n39 n52))))) (hI : mIv h h wn kn lo hi sv sq wy nw n0 n2 n14 n15 n16 n17 n18 n19 n20 n21 n22 n23 n27 n28 n32 n33 n39 n52 am9) (hj : j < 6) : wq 256 0 [(0, .ref 162), (1, .int 0), (2, .int n), (3, .int (nI j))] [] h 0 0 (fun r => ∃ v h2, r = (some (.int v), h2, 0, 0) ∧ mIv h h2 wn kn lo hi sv sq wy nw 0 n2 n14 n15 n16 n17 n18 n19 n20 n21 n22 n23 n27 n28 n32 n33 n39 n52 am9) := by
  have hI0 := hI
  obtain ⟨_, _, fo9, sm9, hr9, tk9, hT9, hS9, hP9, hF9, hN9, hb9, hR9, hK9⟩ := hI0
  have hKn9 := hT9.1
  have tf9 := hT9.2.2.2.2.2.2
  have hkn := tf9.1
  have hw10 := tf9.2.1
  have hbl9 := tf9.2.2.2.1
  have z0 : (0 : Int32).toInt = 0 := rfl
  have z1 : (1 : Int32).toInt = 1 := rfl
  have z5 : (5 : Int32).toInt = 5 := rfl
  have z6 : (6 : Int32).toInt = 6 := rfl
  have zm1 : (-1 : Int32).toInt = -1 := rfl
  have z3 : (3 : Int32).toInt = 3 := rfl
  have z2 : (2 : Int32).toInt = 2 := rfl
  have z20 : (20 : Int32).toInt = 20 := rfl
  have zn99 : (99 : Int32).toInt = 99 := rfl
  have qwn := nI_toInt (n := wn) (by omega)
  have qnj := nI_toInt (n := j) (by omega)
  refine wq_gos (f := 1) (pc2 := 2) (ls2 := [(0, .ref 162), (1, .int 0), (2, .int n), (3, .int (nI j))]) (st2 := [.int 0, .ref 162]) (h2 := h) (dc2 := 0) (ds2 := 0) 2 rfl ?_
  refine wq_putf rfl hM rfl rfl rfl ?_
  intro hh1x e2x ff3x lh4x
  have e2x : zat hh1x 162 = some (.inr (.inr (.inr (10, mO (0 : Int32) n2 n14 n15 n16 n17 n18 n19 n20 n21 n22 n23 n27 n28 n32 n33 n34 n35 n39 n52)))) := e2x
  refine wq_gos (f := 1) (pc2 := 7) (ls2 := [(0, .ref 162), (1, .int 0), (2, .int n), (3, .int (nI j))]) (st2 := [.int 0, .ref 162]) (h2 := hh1x) (dc2 := 0) (ds2 := 0) 2 rfl ?_
  refine wq_inlv (y2 := 250) (as := [.int 0]) rfl rfl rfl e2x rfl ?_
  show wq 250 0 [(0, .ref 162), (1, .int 0)] [] hh1x 0 0 _
  refine wq_gos (f := 1) (pc2 := 10) (ls2 := [(0, .ref 162), (1, .int 0)]) (st2 := [.int 0, .ref 162]) (h2 := hh1x) (dc2 := 0) (ds2 := 0) 4 rfl ?_
  refine wq_inlv (y2 := 249) (as := [.int 0]) rfl rfl rfl e2x rfl (m_use0 e2x (mIv_0 hI ff3x (by omega) e2x) ?_ ?_)
  · intro h85x m345x m355x ri5x pa5x ch5x co5x tk5x th5x f85x l85x c05x c15x c25x c35x c45x c55x c65x c75x p05x p15x
    show wq 250 13 [(0, .ref 162), (1, .int 0)] [] h85x 0 0 _
    refine wq_gos (f := 1) (pc2 := 14) (ls2 := [(0, .ref 162), (1, .int 0)]) (st2 := [.ref 162]) (h2 := h85x) (dc2 := 0) (ds2 := 0) 1 rfl ?_
    refine wq_getf rfl c05x rfl rfl ?_
    refine wq_gos (f := 1) (pc2 := 26) (ls2 := [(0, .ref 162), (1, .int 0)]) (st2 := [.int 0, .ref 210]) (h2 := h85x) (dc2 := 0) (ds2 := 0) 3 rfl ?_
    have q6x : (0 : Int32).toInt = 0 := rfl
    refine wq_iald rfl c25x rfl rfl ?_
    refine wq_ret rfl rfl ?_
    show wq 256 10 [(0, .ref 162), (1, .int 0), (2, .int n), (3, .int (nI j))] [.int (ri5x.getD 0 0)] h85x 0 0 _
    refine wq_gos (f := 1) (pc2 := 13) (ls2 := [(4, .int (ri5x.getD 0 0)), (0, .ref 162), (1, .int 0), (2, .int n), (3, .int (nI j))]) (st2 := [.ref 162]) (h2 := h85x) (dc2 := 0) (ds2 := 0) 2 rfl ?_
    refine wq_getf rfl c05x rfl rfl ?_
    refine wq_gos (f := 1) (pc2 := 17) (ls2 := [(4, .int (ri5x.getD 0 0)), (0, .ref 162), (1, .int 0), (2, .int n), (3, .int (nI j))]) (st2 := [.int 3, .ref 166]) (h2 := h85x) (dc2 := 0) (ds2 := 0) 1 rfl ?_
    have q7x : (3 : Int32).toInt = 3 := rfl
    refine wq_iald rfl c15x rfl rfl ?_
    refine wq_gos (f := 1) (pc2 := 22) (ls2 := [(5, .int (kn.getD 3 0)), (4, .int (ri5x.getD 0 0)), (0, .ref 162), (1, .int 0), (2, .int n), (3, .int (nI j))]) (st2 := [.int (ri5x.getD 0 0)]) (h2 := h85x) (dc2 := 0) (ds2 := 0) 2 rfl ?_
    refine wq_lt0t rfl (by omega) ?_
    refine wq_gos (f := 1) (pc2 := 71) (ls2 := [(5, .int (kn.getD 3 0)), (4, .int (ri5x.getD 0 0)), (0, .ref 162), (1, .int 0), (2, .int n), (3, .int (nI j))]) (st2 := [.int (-9999)]) (h2 := h85x) (dc2 := 0) (ds2 := 0) 2 rfl ?_
    exact wq_ret rfl rfl ⟨_, h85x, rfl, p15x⟩
  · intro h88x m348x m358x ri8x pa8x ch8x co8x tk8x th8x T98x f88x l88x c08x c18x c28x c38x c48x c58x c68x c78x p08x p18x p28x p38x p48x
    have qT9 := nI_toInt (n := T98x) (by omega)
    show wq 250 13 [(0, .ref 162), (1, .int 0)] [] h88x 0 0 _
    refine wq_gos (f := 1) (pc2 := 14) (ls2 := [(0, .ref 162), (1, .int 0)]) (st2 := [.ref 162]) (h2 := h88x) (dc2 := 0) (ds2 := 0) 1 rfl ?_
    refine wq_getf rfl c08x rfl rfl ?_
    refine wq_gos (f := 1) (pc2 := 26) (ls2 := [(0, .ref 162), (1, .int 0)]) (st2 := [.int 0, .ref 210]) (h2 := h88x) (dc2 := 0) (ds2 := 0) 3 rfl ?_
    have q9x : (0 : Int32).toInt = 0 := rfl
    refine wq_iald rfl c28x rfl rfl ?_
    refine wq_vi p08x ?_
    refine wq_ret rfl rfl ?_
    show wq 256 10 [(0, .ref 162), (1, .int 0), (2, .int n), (3, .int (nI j))] [.int (nI T98x)] h88x 0 0 _
    refine wq_gos (f := 1) (pc2 := 13) (ls2 := [(4, .int (nI T98x)), (0, .ref 162), (1, .int 0), (2, .int n), (3, .int (nI j))]) (st2 := [.ref 162]) (h2 := h88x) (dc2 := 0) (ds2 := 0) 2 rfl ?_
    refine wq_getf rfl c08x rfl rfl ?_
    refine wq_gos (f := 1) (pc2 := 17) (ls2 := [(4, .int (nI T98x)), (0, .ref 162), (1, .int 0), (2, .int n), (3, .int (nI j))]) (st2 := [.int 3, .ref 166]) (h2 := h88x) (dc2 := 0) (ds2 := 0) 1 rfl ?_
    have q10x : (3 : Int32).toInt = 3 := rfl
    refine wq_iald rfl c18x rfl rfl ?_
    refine wq_gos (f := 1) (pc2 := 22) (ls2 := [(5, .int (kn.getD 3 0)), (4, .int (nI T98x)), (0, .ref 162), (1, .int 0), (2, .int n), (3, .int (nI j))]) (st2 := [.int (nI T98x)]) (h2 := h88x) (dc2 := 0) (ds2 := 0) 2 rfl ?_
    try have q11x := nI_toInt (n := T98x) (by omega)
    refine wq_lt0f rfl rfl (by omega) ?_
    refine wq_gos (f := 1) (pc2 := 29) (ls2 := [(5, .int (kn.getD 3 0)), (4, .int (nI T98x)), (0, .ref 162), (1, .int 0), (2, .int n), (3, .int (nI j))]) (st2 := [.int (-(kn.getD 3 0)), .int n]) (h2 := h88x) (dc2 := 0) (ds2 := 0) 3 rfl ?_
    try have q12x : ((-(kn.getD 3 0))).toInt = -(kn.getD 3 0).toInt := e_neg (by omega)
    refine wq_lt2 rfl rfl (fun b13x => ?_) (fun b13x => ?_)
    · refine wq_gos (f := 1) (pc2 := 71) (ls2 := [(5, .int (kn.getD 3 0)), (4, .int (nI T98x)), (0, .ref 162), (1, .int 0), (2, .int n), (3, .int (nI j))]) (st2 := [.int (-9999)]) (h2 := h88x) (dc2 := 0) (ds2 := 0) 2 rfl ?_
      exact wq_ret rfl rfl ⟨_, h88x, rfl, p48x⟩
    · refine wq_gos (f := 1) (pc2 := 38) (ls2 := [(5, .int (kn.getD 3 0)), (4, .int (nI T98x)), (0, .ref 162), (1, .int 0), (2, .int n), (3, .int (nI j))]) (st2 := [.int ((nI T98x) + (kn.getD 3 0)), .int n]) (h2 := h88x) (dc2 := 0) (ds2 := 0) 4 rfl ?_
      try have q14x : (((nI T98x) + (kn.getD 3 0))).toInt = (nI T98x).toInt + (kn.getD 3 0).toInt := e_add (by omega) (by omega)
      refine wq_gt2 rfl rfl (fun b15x => ?_) (fun b15x => ?_)
      · refine wq_gos (f := 1) (pc2 := 71) (ls2 := [(5, .int (kn.getD 3 0)), (4, .int (nI T98x)), (0, .ref 162), (1, .int 0), (2, .int n), (3, .int (nI j))]) (st2 := [.int (-9999)]) (h2 := h88x) (dc2 := 0) (ds2 := 0) 2 rfl ?_
        exact wq_ret rfl rfl ⟨_, h88x, rfl, p48x⟩
      · refine wq_gos (f := 1) (pc2 := 42) (ls2 := [(5, .int (kn.getD 3 0)), (4, .int (nI T98x)), (0, .ref 162), (1, .int 0), (2, .int n), (3, .int (nI j))]) (st2 := [.int (nI j)]) (h2 := h88x) (dc2 := 0) (ds2 := 0) 1 rfl ?_
        refine wq_inl (y2 := 208) (as := [.int (nI j)]) rfl rfl rfl ?_
        show wq 208 0 [(0, .int (nI j))] [] h88x 0 0 _
        refine wq_gos (f := 1) (pc2 := 1) (ls2 := [(0, .int (nI j))]) (st2 := [.int (nI j)]) (h2 := h88x) (dc2 := 0) (ds2 := 0) 1 rfl ?_
        try have q16x := nI_toInt (n := j) (by omega)
        refine wq_lt0f rfl rfl (by omega) ?_
        refine wq_gos (f := 1) (pc2 := 7) (ls2 := [(0, .int (nI j))]) (st2 := [.int 6, .int (nI j)]) (h2 := h88x) (dc2 := 0) (ds2 := 0) 2 rfl ?_
        have q17x : (6 : Int32).toInt = 6 := rfl
        refine wq_ge2f rfl rfl (by omega) ?_
        refine wq_gos (f := 1) (pc2 := 15) (ls2 := [(0, .int (nI j))]) (st2 := [.int 1]) (h2 := h88x) (dc2 := 0) (ds2 := 0) 2 rfl ?_
        refine wq_ret rfl rfl ?_
        show wq 256 45 [(5, .int (kn.getD 3 0)), (4, .int (nI T98x)), (0, .ref 162), (1, .int 0), (2, .int n), (3, .int (nI j))] [.int 1] h88x 0 0 _
        refine wq_gos (f := 1) (pc2 := 68) (ls2 := [(5, .int (kn.getD 3 0)), (4, .int (nI T98x)), (0, .ref 162), (1, .int 0), (2, .int n), (3, .int (nI j))]) (st2 := [.int (kn.getD 3 0), .int (nI j), .int n, .int 0, .ref 162]) (h2 := h88x) (dc2 := 0) (ds2 := 0) 8 rfl ?_
        refine wq_inlv (y2 := 254) (as := [.int 0, .int n, .int (nI j), .int (kn.getD 3 0)]) rfl rfl rfl c08x rfl (wq_mono (m_bb (r := 0) c08x c18x c38x c58x ⟨hkn, hw10, by decide, hj⟩ (by first | assumption | omega | decide | solve_by_elim)) ?_)
        rintro _ rfl
        show wq 256 71 [(5, .int (kn.getD 3 0)), (4, .int (nI T98x)), (0, .ref 162), (1, .int 0), (2, .int n), (3, .int (nI j))] [.int (mbbF pa8x co8x wn 0 j n (kn.getD 3 0) ((n.toInt + (kn.getD 3 0).toInt + 1 - (n - (kn.getD 3 0)).toInt).toNat + 1) 0 (n - (kn.getD 3 0)))] h88x 0 0 _
        exact wq_ret rfl rfl ⟨_, h88x, rfl, p48x⟩
set_option maxRecDepth 100000 in
set_option maxHeartbeats 4000000 in
theorem m_o256N_0 {h : zH} {wn : Nat} {kn lo hi sv sq wy nw : List Int32} {n0 n2 n14 n15 n16 n17 n18 n19 n20 n21 n22 n23 n27 n28 n32 n33 n34 n35 n39 n52 : Int32} {am9 : mS} {n j : Int32} (hM : zat h 162 = some (.inr (.inr (.inr (10, mO n0 n2 n14 n15 n16 n17 n18 n19 n20 n21 n22 n23 n27 n28 n32 n33 n34 n35 n39 n52))))) (hI : mIv h h wn kn lo hi sv sq wy nw n0 n2 n14 n15 n16 n17 n18 n19 n20 n21 n22 n23 n27 n28 n32 n33 n39 n52 am9) (hj : j.toInt < 0 ∨ 5 < j.toInt) : wq 256 0 [(0, .ref 162), (1, .int 0), (2, .int n), (3, .int j)] [] h 0 0 (fun r => ∃ v h2, r = (some (.int v), h2, 0, 0) ∧ mIv h h2 wn kn lo hi sv sq wy nw 0 n2 n14 n15 n16 n17 n18 n19 n20 n21 n22 n23 n27 n28 n32 n33 n39 n52 am9) := by
  have hI0 := hI
  obtain ⟨_, _, fo9, sm9, hr9, tk9, hT9, hS9, hP9, hF9, hN9, hb9, hR9, hK9⟩ := hI0
  have hKn9 := hT9.1
  have tf9 := hT9.2.2.2.2.2.2
  have hkn := tf9.1
  have hw10 := tf9.2.1
  have hbl9 := tf9.2.2.2.1
  have z0 : (0 : Int32).toInt = 0 := rfl
  have z1 : (1 : Int32).toInt = 1 := rfl
  have z5 : (5 : Int32).toInt = 5 := rfl
  have z6 : (6 : Int32).toInt = 6 := rfl
  have zm1 : (-1 : Int32).toInt = -1 := rfl
  have z3 : (3 : Int32).toInt = 3 := rfl
  have z2 : (2 : Int32).toInt = 2 := rfl
  have z20 : (20 : Int32).toInt = 20 := rfl
  have zn99 : (99 : Int32).toInt = 99 := rfl
  have qwn := nI_toInt (n := wn) (by omega)
  refine wq_gos (f := 1) (pc2 := 2) (ls2 := [(0, .ref 162), (1, .int 0), (2, .int n), (3, .int j)]) (st2 := [.int 0, .ref 162]) (h2 := h) (dc2 := 0) (ds2 := 0) 2 rfl ?_
  refine wq_putf rfl hM rfl rfl rfl ?_
  intro hh1x e2x ff3x lh4x
  have e2x : zat hh1x 162 = some (.inr (.inr (.inr (10, mO (0 : Int32) n2 n14 n15 n16 n17 n18 n19 n20 n21 n22 n23 n27 n28 n32 n33 n34 n35 n39 n52)))) := e2x
  refine wq_gos (f := 1) (pc2 := 7) (ls2 := [(0, .ref 162), (1, .int 0), (2, .int n), (3, .int j)]) (st2 := [.int 0, .ref 162]) (h2 := hh1x) (dc2 := 0) (ds2 := 0) 2 rfl ?_
  refine wq_inlv (y2 := 250) (as := [.int 0]) rfl rfl rfl e2x rfl ?_
  show wq 250 0 [(0, .ref 162), (1, .int 0)] [] hh1x 0 0 _
  refine wq_gos (f := 1) (pc2 := 10) (ls2 := [(0, .ref 162), (1, .int 0)]) (st2 := [.int 0, .ref 162]) (h2 := hh1x) (dc2 := 0) (ds2 := 0) 4 rfl ?_
  refine wq_inlv (y2 := 249) (as := [.int 0]) rfl rfl rfl e2x rfl (m_use0 e2x (mIv_0 hI ff3x (by omega) e2x) ?_ ?_)
  · intro h85x m345x m355x ri5x pa5x ch5x co5x tk5x th5x f85x l85x c05x c15x c25x c35x c45x c55x c65x c75x p05x p15x
    show wq 250 13 [(0, .ref 162), (1, .int 0)] [] h85x 0 0 _
    refine wq_gos (f := 1) (pc2 := 14) (ls2 := [(0, .ref 162), (1, .int 0)]) (st2 := [.ref 162]) (h2 := h85x) (dc2 := 0) (ds2 := 0) 1 rfl ?_
    refine wq_getf rfl c05x rfl rfl ?_
    refine wq_gos (f := 1) (pc2 := 26) (ls2 := [(0, .ref 162), (1, .int 0)]) (st2 := [.int 0, .ref 210]) (h2 := h85x) (dc2 := 0) (ds2 := 0) 3 rfl ?_
    have q6x : (0 : Int32).toInt = 0 := rfl
    refine wq_iald rfl c25x rfl rfl ?_
    refine wq_ret rfl rfl ?_
    show wq 256 10 [(0, .ref 162), (1, .int 0), (2, .int n), (3, .int j)] [.int (ri5x.getD 0 0)] h85x 0 0 _
    refine wq_gos (f := 1) (pc2 := 13) (ls2 := [(4, .int (ri5x.getD 0 0)), (0, .ref 162), (1, .int 0), (2, .int n), (3, .int j)]) (st2 := [.ref 162]) (h2 := h85x) (dc2 := 0) (ds2 := 0) 2 rfl ?_
    refine wq_getf rfl c05x rfl rfl ?_
    refine wq_gos (f := 1) (pc2 := 17) (ls2 := [(4, .int (ri5x.getD 0 0)), (0, .ref 162), (1, .int 0), (2, .int n), (3, .int j)]) (st2 := [.int 3, .ref 166]) (h2 := h85x) (dc2 := 0) (ds2 := 0) 1 rfl ?_
    have q7x : (3 : Int32).toInt = 3 := rfl
    refine wq_iald rfl c15x rfl rfl ?_
    refine wq_gos (f := 1) (pc2 := 22) (ls2 := [(5, .int (kn.getD 3 0)), (4, .int (ri5x.getD 0 0)), (0, .ref 162), (1, .int 0), (2, .int n), (3, .int j)]) (st2 := [.int (ri5x.getD 0 0)]) (h2 := h85x) (dc2 := 0) (ds2 := 0) 2 rfl ?_
    refine wq_lt0t rfl (by omega) ?_
    refine wq_gos (f := 1) (pc2 := 71) (ls2 := [(5, .int (kn.getD 3 0)), (4, .int (ri5x.getD 0 0)), (0, .ref 162), (1, .int 0), (2, .int n), (3, .int j)]) (st2 := [.int (-9999)]) (h2 := h85x) (dc2 := 0) (ds2 := 0) 2 rfl ?_
    exact wq_ret rfl rfl ⟨_, h85x, rfl, p15x⟩
  · intro h88x m348x m358x ri8x pa8x ch8x co8x tk8x th8x T98x f88x l88x c08x c18x c28x c38x c48x c58x c68x c78x p08x p18x p28x p38x p48x
    have qT9 := nI_toInt (n := T98x) (by omega)
    show wq 250 13 [(0, .ref 162), (1, .int 0)] [] h88x 0 0 _
    refine wq_gos (f := 1) (pc2 := 14) (ls2 := [(0, .ref 162), (1, .int 0)]) (st2 := [.ref 162]) (h2 := h88x) (dc2 := 0) (ds2 := 0) 1 rfl ?_
    refine wq_getf rfl c08x rfl rfl ?_
    refine wq_gos (f := 1) (pc2 := 26) (ls2 := [(0, .ref 162), (1, .int 0)]) (st2 := [.int 0, .ref 210]) (h2 := h88x) (dc2 := 0) (ds2 := 0) 3 rfl ?_
    have q9x : (0 : Int32).toInt = 0 := rfl
    refine wq_iald rfl c28x rfl rfl ?_
    refine wq_vi p08x ?_
    refine wq_ret rfl rfl ?_
    show wq 256 10 [(0, .ref 162), (1, .int 0), (2, .int n), (3, .int j)] [.int (nI T98x)] h88x 0 0 _
    refine wq_gos (f := 1) (pc2 := 13) (ls2 := [(4, .int (nI T98x)), (0, .ref 162), (1, .int 0), (2, .int n), (3, .int j)]) (st2 := [.ref 162]) (h2 := h88x) (dc2 := 0) (ds2 := 0) 2 rfl ?_
    refine wq_getf rfl c08x rfl rfl ?_
    refine wq_gos (f := 1) (pc2 := 17) (ls2 := [(4, .int (nI T98x)), (0, .ref 162), (1, .int 0), (2, .int n), (3, .int j)]) (st2 := [.int 3, .ref 166]) (h2 := h88x) (dc2 := 0) (ds2 := 0) 1 rfl ?_
    have q10x : (3 : Int32).toInt = 3 := rfl
    refine wq_iald rfl c18x rfl rfl ?_
    refine wq_gos (f := 1) (pc2 := 22) (ls2 := [(5, .int (kn.getD 3 0)), (4, .int (nI T98x)), (0, .ref 162), (1, .int 0), (2, .int n), (3, .int j)]) (st2 := [.int (nI T98x)]) (h2 := h88x) (dc2 := 0) (ds2 := 0) 2 rfl ?_
    try have q11x := nI_toInt (n := T98x) (by omega)
    refine wq_lt0f rfl rfl (by omega) ?_
    refine wq_gos (f := 1) (pc2 := 29) (ls2 := [(5, .int (kn.getD 3 0)), (4, .int (nI T98x)), (0, .ref 162), (1, .int 0), (2, .int n), (3, .int j)]) (st2 := [.int (-(kn.getD 3 0)), .int n]) (h2 := h88x) (dc2 := 0) (ds2 := 0) 3 rfl ?_
    try have q12x : ((-(kn.getD 3 0))).toInt = -(kn.getD 3 0).toInt := e_neg (by omega)
    refine wq_lt2 rfl rfl (fun b13x => ?_) (fun b13x => ?_)
    · refine wq_gos (f := 1) (pc2 := 71) (ls2 := [(5, .int (kn.getD 3 0)), (4, .int (nI T98x)), (0, .ref 162), (1, .int 0), (2, .int n), (3, .int j)]) (st2 := [.int (-9999)]) (h2 := h88x) (dc2 := 0) (ds2 := 0) 2 rfl ?_
      exact wq_ret rfl rfl ⟨_, h88x, rfl, p48x⟩
    · refine wq_gos (f := 1) (pc2 := 38) (ls2 := [(5, .int (kn.getD 3 0)), (4, .int (nI T98x)), (0, .ref 162), (1, .int 0), (2, .int n), (3, .int j)]) (st2 := [.int ((nI T98x) + (kn.getD 3 0)), .int n]) (h2 := h88x) (dc2 := 0) (ds2 := 0) 4 rfl ?_
      try have q14x : (((nI T98x) + (kn.getD 3 0))).toInt = (nI T98x).toInt + (kn.getD 3 0).toInt := e_add (by omega) (by omega)
      refine wq_gt2 rfl rfl (fun b15x => ?_) (fun b15x => ?_)
      · refine wq_gos (f := 1) (pc2 := 71) (ls2 := [(5, .int (kn.getD 3 0)), (4, .int (nI T98x)), (0, .ref 162), (1, .int 0), (2, .int n), (3, .int j)]) (st2 := [.int (-9999)]) (h2 := h88x) (dc2 := 0) (ds2 := 0) 2 rfl ?_
        exact wq_ret rfl rfl ⟨_, h88x, rfl, p48x⟩
      · refine wq_gos (f := 1) (pc2 := 42) (ls2 := [(5, .int (kn.getD 3 0)), (4, .int (nI T98x)), (0, .ref 162), (1, .int 0), (2, .int n), (3, .int j)]) (st2 := [.int j]) (h2 := h88x) (dc2 := 0) (ds2 := 0) 1 rfl ?_
        refine wq_inl (y2 := 208) (as := [.int j]) rfl rfl rfl ?_
        show wq 208 0 [(0, .int j)] [] h88x 0 0 _
        refine wq_gos (f := 1) (pc2 := 1) (ls2 := [(0, .int j)]) (st2 := [.int j]) (h2 := h88x) (dc2 := 0) (ds2 := 0) 1 rfl ?_
        refine wq_lt0 rfl rfl (fun b16x => ?_) (fun b16x => ?_)
        · refine wq_gos (f := 1) (pc2 := 15) (ls2 := [(0, .int j)]) (st2 := [.int 0]) (h2 := h88x) (dc2 := 0) (ds2 := 0) 1 rfl ?_
          refine wq_ret rfl rfl ?_
          show wq 256 45 [(5, .int (kn.getD 3 0)), (4, .int (nI T98x)), (0, .ref 162), (1, .int 0), (2, .int n), (3, .int j)] [.int 0] h88x 0 0 _
          refine wq_gos (f := 1) (pc2 := 71) (ls2 := [(5, .int (kn.getD 3 0)), (4, .int (nI T98x)), (0, .ref 162), (1, .int 0), (2, .int n), (3, .int j)]) (st2 := [.int (-9999)]) (h2 := h88x) (dc2 := 0) (ds2 := 0) 3 rfl ?_
          exact wq_ret rfl rfl ⟨_, h88x, rfl, p48x⟩
        · refine wq_gos (f := 1) (pc2 := 7) (ls2 := [(0, .int j)]) (st2 := [.int 6, .int j]) (h2 := h88x) (dc2 := 0) (ds2 := 0) 2 rfl ?_
          have q17x : (6 : Int32).toInt = 6 := rfl
          refine wq_ge2t rfl (by omega) ?_
          refine wq_gos (f := 1) (pc2 := 15) (ls2 := [(0, .int j)]) (st2 := [.int 0]) (h2 := h88x) (dc2 := 0) (ds2 := 0) 1 rfl ?_
          refine wq_ret rfl rfl ?_
          show wq 256 45 [(5, .int (kn.getD 3 0)), (4, .int (nI T98x)), (0, .ref 162), (1, .int 0), (2, .int n), (3, .int j)] [.int 0] h88x 0 0 _
          refine wq_gos (f := 1) (pc2 := 71) (ls2 := [(5, .int (kn.getD 3 0)), (4, .int (nI T98x)), (0, .ref 162), (1, .int 0), (2, .int n), (3, .int j)]) (st2 := [.int (-9999)]) (h2 := h88x) (dc2 := 0) (ds2 := 0) 3 rfl ?_
          exact wq_ret rfl rfl ⟨_, h88x, rfl, p48x⟩
set_option maxRecDepth 100000 in
set_option maxHeartbeats 4000000 in
theorem m_o257_0 {h : zH} {wn : Nat} {kn lo hi sv sq wy nw : List Int32} {n0 n2 n14 n15 n16 n17 n18 n19 n20 n21 n22 n23 n27 n28 n32 n33 n34 n35 n39 n52 : Int32} {am9 : mS} {sm : Int32} {j : Nat} (hM : zat h 162 = some (.inr (.inr (.inr (10, mO n0 n2 n14 n15 n16 n17 n18 n19 n20 n21 n22 n23 n27 n28 n32 n33 n34 n35 n39 n52))))) (hI : mIv h h wn kn lo hi sv sq wy nw n0 n2 n14 n15 n16 n17 n18 n19 n20 n21 n22 n23 n27 n28 n32 n33 n39 n52 am9) (hj : j < 6) : wq 257 0 [(0, .ref 162), (1, .int 0), (2, .int (nI j)), (3, .int sm)] [] h 0 0 (fun r => ∃ v h2, r = (some (.int v), h2, 0, 0) ∧ mIv h h2 wn kn lo hi sv sq wy nw 0 n2 n14 n15 n16 n17 n18 n19 n20 n21 n22 n23 n27 n28 n32 n33 n39 n52 am9) := by
  have hI0 := hI
  obtain ⟨_, _, fo9, sm9, hr9, tk9, hT9, hS9, hP9, hF9, hN9, hb9, hR9, hK9⟩ := hI0
  have hKn9 := hT9.1
  have tf9 := hT9.2.2.2.2.2.2
  have hkn := tf9.1
  have hw10 := tf9.2.1
  have hbl9 := tf9.2.2.2.1
  have z0 : (0 : Int32).toInt = 0 := rfl
  have z1 : (1 : Int32).toInt = 1 := rfl
  have z5 : (5 : Int32).toInt = 5 := rfl
  have z6 : (6 : Int32).toInt = 6 := rfl
  have zm1 : (-1 : Int32).toInt = -1 := rfl
  have z3 : (3 : Int32).toInt = 3 := rfl
  have z2 : (2 : Int32).toInt = 2 := rfl
  have z20 : (20 : Int32).toInt = 20 := rfl
  have zn99 : (99 : Int32).toInt = 99 := rfl
  have qwn := nI_toInt (n := wn) (by omega)
  have qnj := nI_toInt (n := j) (by omega)
  refine wq_gos (f := 1) (pc2 := 2) (ls2 := [(0, .ref 162), (1, .int 0), (2, .int (nI j)), (3, .int sm)]) (st2 := [.int 0, .ref 162]) (h2 := h) (dc2 := 0) (ds2 := 0) 2 rfl ?_
  refine wq_putf rfl hM rfl rfl rfl ?_
  intro hh1x e2x ff3x lh4x
  have e2x : zat hh1x 162 = some (.inr (.inr (.inr (10, mO (0 : Int32) n2 n14 n15 n16 n17 n18 n19 n20 n21 n22 n23 n27 n28 n32 n33 n34 n35 n39 n52)))) := e2x
  refine wq_gos (f := 1) (pc2 := 6) (ls2 := [(0, .ref 162), (1, .int 0), (2, .int (nI j)), (3, .int sm)]) (st2 := [.int (nI j)]) (h2 := hh1x) (dc2 := 0) (ds2 := 0) 1 rfl ?_
  refine wq_inl (y2 := 208) (as := [.int (nI j)]) rfl rfl rfl ?_
  show wq 208 0 [(0, .int (nI j))] [] hh1x 0 0 _
  refine wq_gos (f := 1) (pc2 := 1) (ls2 := [(0, .int (nI j))]) (st2 := [.int (nI j)]) (h2 := hh1x) (dc2 := 0) (ds2 := 0) 1 rfl ?_
  try have q5x := nI_toInt (n := j) (by omega)
  refine wq_lt0f rfl rfl (by omega) ?_
  refine wq_gos (f := 1) (pc2 := 7) (ls2 := [(0, .int (nI j))]) (st2 := [.int 6, .int (nI j)]) (h2 := hh1x) (dc2 := 0) (ds2 := 0) 2 rfl ?_
  have q6x : (6 : Int32).toInt = 6 := rfl
  refine wq_ge2f rfl rfl (by omega) ?_
  refine wq_gos (f := 1) (pc2 := 15) (ls2 := [(0, .int (nI j))]) (st2 := [.int 1]) (h2 := hh1x) (dc2 := 0) (ds2 := 0) 2 rfl ?_
  refine wq_ret rfl rfl ?_
  show wq 257 9 [(0, .ref 162), (1, .int 0), (2, .int (nI j)), (3, .int sm)] [.int 1] hh1x 0 0 _
  refine wq_gos (f := 1) (pc2 := 16) (ls2 := [(0, .ref 162), (1, .int 0), (2, .int (nI j)), (3, .int sm)]) (st2 := [.int 0, .ref 162]) (h2 := hh1x) (dc2 := 0) (ds2 := 0) 3 rfl ?_
  refine wq_inlv (y2 := 250) (as := [.int 0]) rfl rfl rfl e2x rfl ?_
  show wq 250 0 [(0, .ref 162), (1, .int 0)] [] hh1x 0 0 _
  refine wq_gos (f := 1) (pc2 := 10) (ls2 := [(0, .ref 162), (1, .int 0)]) (st2 := [.int 0, .ref 162]) (h2 := hh1x) (dc2 := 0) (ds2 := 0) 4 rfl ?_
  refine wq_inlv (y2 := 249) (as := [.int 0]) rfl rfl rfl e2x rfl (m_use0 e2x (mIv_0 hI ff3x (by omega) e2x) ?_ ?_)
  · intro h87x m347x m357x ri7x pa7x ch7x co7x tk7x th7x f87x l87x c07x c17x c27x c37x c47x c57x c67x c77x p07x p17x
    show wq 250 13 [(0, .ref 162), (1, .int 0)] [] h87x 0 0 _
    refine wq_gos (f := 1) (pc2 := 14) (ls2 := [(0, .ref 162), (1, .int 0)]) (st2 := [.ref 162]) (h2 := h87x) (dc2 := 0) (ds2 := 0) 1 rfl ?_
    refine wq_getf rfl c07x rfl rfl ?_
    refine wq_gos (f := 1) (pc2 := 26) (ls2 := [(0, .ref 162), (1, .int 0)]) (st2 := [.int 0, .ref 210]) (h2 := h87x) (dc2 := 0) (ds2 := 0) 3 rfl ?_
    have q8x : (0 : Int32).toInt = 0 := rfl
    refine wq_iald rfl c27x rfl rfl ?_
    refine wq_ret rfl rfl ?_
    show wq 257 19 [(0, .ref 162), (1, .int 0), (2, .int (nI j)), (3, .int sm)] [.int (ri7x.getD 0 0)] h87x 0 0 _
    refine wq_gos (f := 1) (pc2 := 23) (ls2 := [(4, .int (ri7x.getD 0 0)), (0, .ref 162), (1, .int 0), (2, .int (nI j)), (3, .int sm)]) (st2 := [.int (ri7x.getD 0 0)]) (h2 := h87x) (dc2 := 0) (ds2 := 0) 2 rfl ?_
    refine wq_ge0f rfl rfl (by omega) ?_
    refine wq_gos (f := 1) (pc2 := 28) (ls2 := [(4, .int (ri7x.getD 0 0)), (0, .ref 162), (1, .int 0), (2, .int (nI j)), (3, .int sm)]) (st2 := [.int (ri7x.getD 0 0)]) (h2 := h87x) (dc2 := 0) (ds2 := 0) 1 rfl ?_
    exact wq_ret rfl rfl ⟨_, h87x, rfl, p17x⟩
  · intro h89x m349x m359x ri9x pa9x ch9x co9x tk9x th9x T99x f89x l89x c09x c19x c29x c39x c49x c59x c69x c79x p09x p19x p29x p39x p49x
    have qT9 := nI_toInt (n := T99x) (by omega)
    show wq 250 13 [(0, .ref 162), (1, .int 0)] [] h89x 0 0 _
    refine wq_gos (f := 1) (pc2 := 14) (ls2 := [(0, .ref 162), (1, .int 0)]) (st2 := [.ref 162]) (h2 := h89x) (dc2 := 0) (ds2 := 0) 1 rfl ?_
    refine wq_getf rfl c09x rfl rfl ?_
    refine wq_gos (f := 1) (pc2 := 26) (ls2 := [(0, .ref 162), (1, .int 0)]) (st2 := [.int 0, .ref 210]) (h2 := h89x) (dc2 := 0) (ds2 := 0) 3 rfl ?_
    have q10x : (0 : Int32).toInt = 0 := rfl
    refine wq_iald rfl c29x rfl rfl ?_
    refine wq_vi p09x ?_
    refine wq_ret rfl rfl ?_
    show wq 257 19 [(0, .ref 162), (1, .int 0), (2, .int (nI j)), (3, .int sm)] [.int (nI T99x)] h89x 0 0 _
    refine wq_gos (f := 1) (pc2 := 23) (ls2 := [(4, .int (nI T99x)), (0, .ref 162), (1, .int 0), (2, .int (nI j)), (3, .int sm)]) (st2 := [.int (nI T99x)]) (h2 := h89x) (dc2 := 0) (ds2 := 0) 2 rfl ?_
    try have q11x := nI_toInt (n := T99x) (by omega)
    refine wq_ge0t rfl (by omega) ?_
    refine wq_gos (f := 1) (pc2 := 30) (ls2 := [(4, .int (nI T99x)), (0, .ref 162), (1, .int 0), (2, .int (nI j)), (3, .int sm)]) (st2 := [.int sm]) (h2 := h89x) (dc2 := 0) (ds2 := 0) 1 rfl ?_
    refine wq_eq0 rfl rfl (fun b12x => ?_) (fun b12x => ?_)
    · have q13x : sm.toInt = 0 := congrArg Int32.toInt b12x
      refine wq_gos (f := 1) (pc2 := 64) (ls2 := [(8, .int 0), (7, .int 0), (6, .int 0), (5, .int 0), (4, .int (nI T99x)), (0, .ref 162), (1, .int 0), (2, .int (nI j)), (3, .int sm)]) (st2 := []) (h2 := h89x) (dc2 := 0) (ds2 := 0) 11 rfl ?_
      refine wq_ls [(0, .ref 162), (2, .int (nI j)), (4, .int (nI T99x)), (5, .int 0), (6, .int 0), (7, .int 0), (8, .int 0)] (show ([0, 2, 4, 5, 6, 7, 8] : List Nat).Nodup by decide) ⟨rfl, rfl, rfl, rfl, rfl, rfl, rfl, trivial⟩ ?_
      refine wq_mono (m_faL0 c09x c19x c39x c59x ⟨hkn, hw10⟩ (by first | assumption | omega | decide | solve_by_elim) (by first | assumption | omega | decide | solve_by_elim) (by first | assumption | omega | decide | solve_by_elim) ((T99x + (0 : Int32).toInt - (0 : Int32).toInt).toNat + 1) (0 : Int32) (0 : Int32) (by first | assumption | omega | decide | solve_by_elim) (by omega) 0 0) ?_
      rintro _ rfl
      exact ⟨_, h89x, rfl, p49x⟩
    · have q14x : sm.toInt ≠ 0 := fun q => b12x (Int32.toInt_inj.mp q)
      refine wq_gos (f := 1) (pc2 := 34) (ls2 := [(4, .int (nI T99x)), (0, .ref 162), (1, .int 0), (2, .int (nI j)), (3, .int sm)]) (st2 := [.ref 162]) (h2 := h89x) (dc2 := 0) (ds2 := 0) 1 rfl ?_
      refine wq_getf rfl c09x rfl rfl ?_
      refine wq_gos (f := 1) (pc2 := 38) (ls2 := [(4, .int (nI T99x)), (0, .ref 162), (1, .int 0), (2, .int (nI j)), (3, .int sm)]) (st2 := [.int 3, .ref 166]) (h2 := h89x) (dc2 := 0) (ds2 := 0) 1 rfl ?_
      have q15x : (3 : Int32).toInt = 3 := rfl
      refine wq_iald rfl c19x rfl rfl ?_
      refine wq_gos (f := 1) (pc2 := 64) (ls2 := [(8, .int (-(kn.getD 3 0))), (7, .int 0), (6, .int 0), (5, .int (kn.getD 3 0)), (4, .int (nI T99x)), (0, .ref 162), (1, .int 0), (2, .int (nI j)), (3, .int sm)]) (st2 := []) (h2 := h89x) (dc2 := 0) (ds2 := 0) 11 rfl ?_
      try have q16x : ((-(kn.getD 3 0))).toInt = -(kn.getD 3 0).toInt := e_neg (by omega)
      refine wq_ls [(0, .ref 162), (2, .int (nI j)), (4, .int (nI T99x)), (5, .int (kn.getD 3 0)), (6, .int 0), (7, .int 0), (8, .int (-(kn.getD 3 0)))] (show ([0, 2, 4, 5, 6, 7, 8] : List Nat).Nodup by decide) ⟨rfl, rfl, rfl, rfl, rfl, rfl, rfl, trivial⟩ ?_
      refine wq_mono (m_faL0 c09x c19x c39x c59x ⟨hkn, hw10⟩ (by first | assumption | omega | decide | solve_by_elim) (by first | assumption | omega | decide | solve_by_elim) (by first | assumption | omega | decide | solve_by_elim) ((T99x + (kn.getD 3 0).toInt - (-(kn.getD 3 0)).toInt).toNat + 1) (0 : Int32) (-(kn.getD 3 0)) (by first | assumption | omega | decide | solve_by_elim) (by omega) 0 0) ?_
      rintro _ rfl
      exact ⟨_, h89x, rfl, p49x⟩
set_option maxRecDepth 100000 in
set_option maxHeartbeats 4000000 in
theorem m_o257N_0 {h : zH} {wn : Nat} {kn lo hi sv sq wy nw : List Int32} {n0 n2 n14 n15 n16 n17 n18 n19 n20 n21 n22 n23 n27 n28 n32 n33 n34 n35 n39 n52 : Int32} {am9 : mS} {sm j : Int32} (hM : zat h 162 = some (.inr (.inr (.inr (10, mO n0 n2 n14 n15 n16 n17 n18 n19 n20 n21 n22 n23 n27 n28 n32 n33 n34 n35 n39 n52))))) (hI : mIv h h wn kn lo hi sv sq wy nw n0 n2 n14 n15 n16 n17 n18 n19 n20 n21 n22 n23 n27 n28 n32 n33 n39 n52 am9) (hj : j.toInt < 0 ∨ 5 < j.toInt) : wq 257 0 [(0, .ref 162), (1, .int 0), (2, .int j), (3, .int sm)] [] h 0 0 (fun r => ∃ v h2, r = (some (.int v), h2, 0, 0) ∧ mIv h h2 wn kn lo hi sv sq wy nw 0 n2 n14 n15 n16 n17 n18 n19 n20 n21 n22 n23 n27 n28 n32 n33 n39 n52 am9) := by
  have hI0 := hI
  obtain ⟨_, _, fo9, sm9, hr9, tk9, hT9, hS9, hP9, hF9, hN9, hb9, hR9, hK9⟩ := hI0
  have hKn9 := hT9.1
  have tf9 := hT9.2.2.2.2.2.2
  have hkn := tf9.1
  have hw10 := tf9.2.1
  have hbl9 := tf9.2.2.2.1
  have z0 : (0 : Int32).toInt = 0 := rfl
  have z1 : (1 : Int32).toInt = 1 := rfl
  have z5 : (5 : Int32).toInt = 5 := rfl
  have z6 : (6 : Int32).toInt = 6 := rfl
  have zm1 : (-1 : Int32).toInt = -1 := rfl
  have z3 : (3 : Int32).toInt = 3 := rfl
  have z2 : (2 : Int32).toInt = 2 := rfl
  have z20 : (20 : Int32).toInt = 20 := rfl
  have zn99 : (99 : Int32).toInt = 99 := rfl
  have qwn := nI_toInt (n := wn) (by omega)
  refine wq_gos (f := 1) (pc2 := 2) (ls2 := [(0, .ref 162), (1, .int 0), (2, .int j), (3, .int sm)]) (st2 := [.int 0, .ref 162]) (h2 := h) (dc2 := 0) (ds2 := 0) 2 rfl ?_
  refine wq_putf rfl hM rfl rfl rfl ?_
  intro hh1x e2x ff3x lh4x
  have e2x : zat hh1x 162 = some (.inr (.inr (.inr (10, mO (0 : Int32) n2 n14 n15 n16 n17 n18 n19 n20 n21 n22 n23 n27 n28 n32 n33 n34 n35 n39 n52)))) := e2x
  refine wq_gos (f := 1) (pc2 := 6) (ls2 := [(0, .ref 162), (1, .int 0), (2, .int j), (3, .int sm)]) (st2 := [.int j]) (h2 := hh1x) (dc2 := 0) (ds2 := 0) 1 rfl ?_
  refine wq_inl (y2 := 208) (as := [.int j]) rfl rfl rfl ?_
  show wq 208 0 [(0, .int j)] [] hh1x 0 0 _
  refine wq_gos (f := 1) (pc2 := 1) (ls2 := [(0, .int j)]) (st2 := [.int j]) (h2 := hh1x) (dc2 := 0) (ds2 := 0) 1 rfl ?_
  refine wq_lt0 rfl rfl (fun b5x => ?_) (fun b5x => ?_)
  · refine wq_gos (f := 1) (pc2 := 15) (ls2 := [(0, .int j)]) (st2 := [.int 0]) (h2 := hh1x) (dc2 := 0) (ds2 := 0) 1 rfl ?_
    refine wq_ret rfl rfl ?_
    show wq 257 9 [(0, .ref 162), (1, .int 0), (2, .int j), (3, .int sm)] [.int 0] hh1x 0 0 _
    refine wq_gos (f := 1) (pc2 := 13) (ls2 := [(0, .ref 162), (1, .int 0), (2, .int j), (3, .int sm)]) (st2 := [.int (-1)]) (h2 := hh1x) (dc2 := 0) (ds2 := 0) 2 rfl ?_
    exact wq_ret rfl rfl ⟨_, hh1x, rfl, mIv_0 hI ff3x (by omega) e2x⟩
  · refine wq_gos (f := 1) (pc2 := 7) (ls2 := [(0, .int j)]) (st2 := [.int 6, .int j]) (h2 := hh1x) (dc2 := 0) (ds2 := 0) 2 rfl ?_
    have q6x : (6 : Int32).toInt = 6 := rfl
    refine wq_ge2t rfl (by omega) ?_
    refine wq_gos (f := 1) (pc2 := 15) (ls2 := [(0, .int j)]) (st2 := [.int 0]) (h2 := hh1x) (dc2 := 0) (ds2 := 0) 1 rfl ?_
    refine wq_ret rfl rfl ?_
    show wq 257 9 [(0, .ref 162), (1, .int 0), (2, .int j), (3, .int sm)] [.int 0] hh1x 0 0 _
    refine wq_gos (f := 1) (pc2 := 13) (ls2 := [(0, .ref 162), (1, .int 0), (2, .int j), (3, .int sm)]) (st2 := [.int (-1)]) (h2 := hh1x) (dc2 := 0) (ds2 := 0) 2 rfl ?_
    exact wq_ret rfl rfl ⟨_, hh1x, rfl, mIv_0 hI ff3x (by omega) e2x⟩
set_option maxRecDepth 100000 in
set_option maxHeartbeats 4000000 in
theorem m_o259_0 {h : zH} {wn : Nat} {kn lo hi sv sq wy nw : List Int32} {n0 n2 n14 n15 n16 n17 n18 n19 n20 n21 n22 n23 n27 n28 n32 n33 n34 n35 n39 n52 : Int32} {am9 : mS} {i j : Nat} (hM : zat h 162 = some (.inr (.inr (.inr (10, mO n0 n2 n14 n15 n16 n17 n18 n19 n20 n21 n22 n23 n27 n28 n32 n33 n34 n35 n39 n52))))) (hI : mIv h h wn kn lo hi sv sq wy nw n0 n2 n14 n15 n16 n17 n18 n19 n20 n21 n22 n23 n27 n28 n32 n33 n39 n52 am9) (hj : j < 6) (hiw : i < wn) : wq 259 0 [(0, .ref 162), (1, .int 0), (2, .int (nI i)), (3, .int (nI j))] [] h 0 0 (fun r => ∃ v h2, r = (some (.int v), h2, 0, 0) ∧ mIv h h2 wn kn lo hi sv sq wy nw 0 n2 n14 n15 n16 n17 n18 n19 n20 n21 n22 n23 n27 n28 n32 n33 n39 n52 am9) := by
  have hI0 := hI
  obtain ⟨_, _, fo9, sm9, hr9, tk9, hT9, hS9, hP9, hF9, hN9, hb9, hR9, hK9⟩ := hI0
  have hKn9 := hT9.1
  have tf9 := hT9.2.2.2.2.2.2
  have hkn := tf9.1
  have hw10 := tf9.2.1
  have hbl9 := tf9.2.2.2.1
  have z0 : (0 : Int32).toInt = 0 := rfl
  have z1 : (1 : Int32).toInt = 1 := rfl
  have z5 : (5 : Int32).toInt = 5 := rfl
  have z6 : (6 : Int32).toInt = 6 := rfl
  have zm1 : (-1 : Int32).toInt = -1 := rfl
  have z3 : (3 : Int32).toInt = 3 := rfl
  have z2 : (2 : Int32).toInt = 2 := rfl
  have z20 : (20 : Int32).toInt = 20 := rfl
  have zn99 : (99 : Int32).toInt = 99 := rfl
  have qwn := nI_toInt (n := wn) (by omega)
  have qni := nI_toInt (n := i) (by omega)
  have qnj := nI_toInt (n := j) (by omega)
  refine wq_gos (f := 1) (pc2 := 2) (ls2 := [(0, .ref 162), (1, .int 0), (2, .int (nI i)), (3, .int (nI j))]) (st2 := [.int 0, .ref 162]) (h2 := h) (dc2 := 0) (ds2 := 0) 2 rfl ?_
  refine wq_putf rfl hM rfl rfl rfl ?_
  intro hh1x e2x ff3x lh4x
  have e2x : zat hh1x 162 = some (.inr (.inr (.inr (10, mO (0 : Int32) n2 n14 n15 n16 n17 n18 n19 n20 n21 n22 n23 n27 n28 n32 n33 n34 n35 n39 n52)))) := e2x
  refine wq_gos (f := 1) (pc2 := 6) (ls2 := [(0, .ref 162), (1, .int 0), (2, .int (nI i)), (3, .int (nI j))]) (st2 := [.int (nI i)]) (h2 := hh1x) (dc2 := 0) (ds2 := 0) 1 rfl ?_
  try have q5x := nI_toInt (n := i) (by omega)
  refine wq_lt0f rfl rfl (by omega) ?_
  refine wq_gos (f := 1) (pc2 := 11) (ls2 := [(0, .ref 162), (1, .int 0), (2, .int (nI i)), (3, .int (nI j))]) (st2 := [.ref 162, .int (nI i)]) (h2 := hh1x) (dc2 := 0) (ds2 := 0) 2 rfl ?_
  refine wq_inlv (y2 := 244) (as := []) rfl rfl rfl e2x rfl ?_
  show wq 244 0 [(0, .ref 162)] [] hh1x 0 0 _
  refine wq_gos (f := 1) (pc2 := 1) (ls2 := [(0, .ref 162)]) (st2 := [.ref 162]) (h2 := hh1x) (dc2 := 0) (ds2 := 0) 1 rfl ?_
  refine wq_getf rfl e2x rfl rfl ?_
  refine wq_gos (f := 1) (pc2 := 6) (ls2 := [(0, .ref 162)]) (st2 := [.int 6, .ref 166]) (h2 := hh1x) (dc2 := 0) (ds2 := 0) 1 rfl ?_
  have e6x := (ff3x.2 _ _ (wnc (by decide) wn0) hKn9)
  have q7x : (6 : Int32).toInt = 6 := rfl
  refine wq_iald rfl e6x rfl rfl ?_
  refine wq_vi hkn ?_
  refine wq_ret rfl rfl ?_
  show wq 259 14 [(0, .ref 162), (1, .int 0), (2, .int (nI i)), (3, .int (nI j))] [.int (nI wn), .int (nI i)] hh1x 0 0 _
  try have q8x := nI_toInt (n := wn) (by omega)
  refine wq_ge2f rfl rfl (by omega) ?_
  refine wq_gos (f := 1) (pc2 := 18) (ls2 := [(0, .ref 162), (1, .int 0), (2, .int (nI i)), (3, .int (nI j))]) (st2 := [.int (nI j)]) (h2 := hh1x) (dc2 := 0) (ds2 := 0) 1 rfl ?_
  refine wq_inl (y2 := 208) (as := [.int (nI j)]) rfl rfl rfl ?_
  show wq 208 0 [(0, .int (nI j))] [] hh1x 0 0 _
  refine wq_gos (f := 1) (pc2 := 1) (ls2 := [(0, .int (nI j))]) (st2 := [.int (nI j)]) (h2 := hh1x) (dc2 := 0) (ds2 := 0) 1 rfl ?_
  try have q9x := nI_toInt (n := j) (by omega)
  refine wq_lt0f rfl rfl (by omega) ?_
  refine wq_gos (f := 1) (pc2 := 7) (ls2 := [(0, .int (nI j))]) (st2 := [.int 6, .int (nI j)]) (h2 := hh1x) (dc2 := 0) (ds2 := 0) 2 rfl ?_
  refine wq_ge2f rfl rfl (by omega) ?_
  refine wq_gos (f := 1) (pc2 := 15) (ls2 := [(0, .int (nI j))]) (st2 := [.int 1]) (h2 := hh1x) (dc2 := 0) (ds2 := 0) 2 rfl ?_
  refine wq_ret rfl rfl ?_
  show wq 259 21 [(0, .ref 162), (1, .int 0), (2, .int (nI i)), (3, .int (nI j))] [.int 1] hh1x 0 0 _
  refine wq_gos (f := 1) (pc2 := 28) (ls2 := [(0, .ref 162), (1, .int 0), (2, .int (nI i)), (3, .int (nI j))]) (st2 := [.int 0, .ref 162]) (h2 := hh1x) (dc2 := 0) (ds2 := 0) 3 rfl ?_
  refine wq_inlv (y2 := 250) (as := [.int 0]) rfl rfl rfl e2x rfl ?_
  show wq 250 0 [(0, .ref 162), (1, .int 0)] [] hh1x 0 0 _
  refine wq_gos (f := 1) (pc2 := 10) (ls2 := [(0, .ref 162), (1, .int 0)]) (st2 := [.int 0, .ref 162]) (h2 := hh1x) (dc2 := 0) (ds2 := 0) 4 rfl ?_
  refine wq_inlv (y2 := 249) (as := [.int 0]) rfl rfl rfl e2x rfl (m_use0 e2x (mIv_0 hI ff3x (by omega) e2x) ?_ ?_)
  · intro h810x m3410x m3510x ri10x pa10x ch10x co10x tk10x th10x f810x l810x c010x c110x c210x c310x c410x c510x c610x c710x p010x p110x
    show wq 250 13 [(0, .ref 162), (1, .int 0)] [] h810x 0 0 _
    refine wq_gos (f := 1) (pc2 := 14) (ls2 := [(0, .ref 162), (1, .int 0)]) (st2 := [.ref 162]) (h2 := h810x) (dc2 := 0) (ds2 := 0) 1 rfl ?_
    refine wq_getf rfl c010x rfl rfl ?_
    refine wq_gos (f := 1) (pc2 := 26) (ls2 := [(0, .ref 162), (1, .int 0)]) (st2 := [.int 0, .ref 210]) (h2 := h810x) (dc2 := 0) (ds2 := 0) 3 rfl ?_
    have q11x : (0 : Int32).toInt = 0 := rfl
    refine wq_iald rfl c210x rfl rfl ?_
    refine wq_ret rfl rfl ?_
    show wq 259 31 [(0, .ref 162), (1, .int 0), (2, .int (nI i)), (3, .int (nI j))] [.int (ri10x.getD 0 0)] h810x 0 0 _
    refine wq_gos (f := 1) (pc2 := 35) (ls2 := [(4, .int (ri10x.getD 0 0)), (0, .ref 162), (1, .int 0), (2, .int (nI i)), (3, .int (nI j))]) (st2 := [.int (ri10x.getD 0 0)]) (h2 := h810x) (dc2 := 0) (ds2 := 0) 2 rfl ?_
    refine wq_ge0f rfl rfl (by omega) ?_
    refine wq_gos (f := 1) (pc2 := 64) (ls2 := [(4, .int (ri10x.getD 0 0)), (0, .ref 162), (1, .int 0), (2, .int (nI i)), (3, .int (nI j))]) (st2 := [.int (ri10x.getD 0 0)]) (h2 := h810x) (dc2 := 0) (ds2 := 0) 2 rfl ?_
    exact wq_ret rfl rfl ⟨_, h810x, rfl, p110x⟩
  · intro h812x m3412x m3512x ri12x pa12x ch12x co12x tk12x th12x T912x f812x l812x c012x c112x c212x c312x c412x c512x c612x c712x p012x p112x p212x p312x p412x
    have qT9 := nI_toInt (n := T912x) (by omega)
    show wq 250 13 [(0, .ref 162), (1, .int 0)] [] h812x 0 0 _
    refine wq_gos (f := 1) (pc2 := 14) (ls2 := [(0, .ref 162), (1, .int 0)]) (st2 := [.ref 162]) (h2 := h812x) (dc2 := 0) (ds2 := 0) 1 rfl ?_
    refine wq_getf rfl c012x rfl rfl ?_
    refine wq_gos (f := 1) (pc2 := 26) (ls2 := [(0, .ref 162), (1, .int 0)]) (st2 := [.int 0, .ref 210]) (h2 := h812x) (dc2 := 0) (ds2 := 0) 3 rfl ?_
    have q13x : (0 : Int32).toInt = 0 := rfl
    refine wq_iald rfl c212x rfl rfl ?_
    refine wq_vi p012x ?_
    refine wq_ret rfl rfl ?_
    show wq 259 31 [(0, .ref 162), (1, .int 0), (2, .int (nI i)), (3, .int (nI j))] [.int (nI T912x)] h812x 0 0 _
    refine wq_gos (f := 1) (pc2 := 35) (ls2 := [(4, .int (nI T912x)), (0, .ref 162), (1, .int 0), (2, .int (nI i)), (3, .int (nI j))]) (st2 := [.int (nI T912x)]) (h2 := h812x) (dc2 := 0) (ds2 := 0) 2 rfl ?_
    try have q14x := nI_toInt (n := T912x) (by omega)
    refine wq_ge0t rfl (by omega) ?_
    refine wq_gos (f := 1) (pc2 := 56) (ls2 := [(4, .int (nI T912x)), (0, .ref 162), (1, .int 0), (2, .int (nI i)), (3, .int (nI j))]) (st2 := [.ref 162, .int (nI j), .int (nI i), .int 0, .ref 162]) (h2 := h812x) (dc2 := 0) (ds2 := 0) 7 rfl ?_
    refine wq_getf rfl c012x rfl rfl ?_
    refine wq_gos (f := 1) (pc2 := 60) (ls2 := [(4, .int (nI T912x)), (0, .ref 162), (1, .int 0), (2, .int (nI i)), (3, .int (nI j))]) (st2 := [.int 3, .ref 166, .int (nI j), .int (nI i), .int 0, .ref 162]) (h2 := h812x) (dc2 := 0) (ds2 := 0) 1 rfl ?_
    have q15x : (3 : Int32).toInt = 3 := rfl
    refine wq_iald rfl c112x rfl rfl ?_
    refine wq_inlv (y2 := 258) (as := [.int 0, .int (nI i), .int (nI j), .int (kn.getD 3 0)]) rfl rfl rfl c012x rfl (wq_mono (m_mis (r := 0) c012x c112x c312x c512x ⟨hkn, hw10, by decide, hj⟩ ⟨by omega, by omega, by omega, by assumption⟩) ?_)
    rintro _ rfl
    show wq 259 64 [(4, .int (nI T912x)), (0, .ref 162), (1, .int 0), (2, .int (nI i)), (3, .int (nI j))] [.int (mMis pa12x co12x wn 0 i j (kn.getD 3 0))] h812x 0 0 _
    exact wq_ret rfl rfl ⟨_, h812x, rfl, p412x⟩
set_option maxRecDepth 100000 in
set_option maxHeartbeats 4000000 in
theorem m_o259J_0 {h : zH} {wn : Nat} {kn lo hi sv sq wy nw : List Int32} {n0 n2 n14 n15 n16 n17 n18 n19 n20 n21 n22 n23 n27 n28 n32 n33 n34 n35 n39 n52 : Int32} {am9 : mS} {i j : Int32} (hM : zat h 162 = some (.inr (.inr (.inr (10, mO n0 n2 n14 n15 n16 n17 n18 n19 n20 n21 n22 n23 n27 n28 n32 n33 n34 n35 n39 n52))))) (hI : mIv h h wn kn lo hi sv sq wy nw n0 n2 n14 n15 n16 n17 n18 n19 n20 n21 n22 n23 n27 n28 n32 n33 n39 n52 am9) (hj : j.toInt < 0 ∨ 5 < j.toInt) : wq 259 0 [(0, .ref 162), (1, .int 0), (2, .int i), (3, .int j)] [] h 0 0 (fun r => ∃ v h2, r = (some (.int v), h2, 0, 0) ∧ mIv h h2 wn kn lo hi sv sq wy nw 0 n2 n14 n15 n16 n17 n18 n19 n20 n21 n22 n23 n27 n28 n32 n33 n39 n52 am9) := by
  have hI0 := hI
  obtain ⟨_, _, fo9, sm9, hr9, tk9, hT9, hS9, hP9, hF9, hN9, hb9, hR9, hK9⟩ := hI0
  have hKn9 := hT9.1
  have tf9 := hT9.2.2.2.2.2.2
  have hkn := tf9.1
  have hw10 := tf9.2.1
  have hbl9 := tf9.2.2.2.1
  have z0 : (0 : Int32).toInt = 0 := rfl
  have z1 : (1 : Int32).toInt = 1 := rfl
  have z5 : (5 : Int32).toInt = 5 := rfl
  have z6 : (6 : Int32).toInt = 6 := rfl
  have zm1 : (-1 : Int32).toInt = -1 := rfl
  have z3 : (3 : Int32).toInt = 3 := rfl
  have z2 : (2 : Int32).toInt = 2 := rfl
  have z20 : (20 : Int32).toInt = 20 := rfl
  have zn99 : (99 : Int32).toInt = 99 := rfl
  have qwn := nI_toInt (n := wn) (by omega)
  refine wq_gos (f := 1) (pc2 := 2) (ls2 := [(0, .ref 162), (1, .int 0), (2, .int i), (3, .int j)]) (st2 := [.int 0, .ref 162]) (h2 := h) (dc2 := 0) (ds2 := 0) 2 rfl ?_
  refine wq_putf rfl hM rfl rfl rfl ?_
  intro hh1x e2x ff3x lh4x
  have e2x : zat hh1x 162 = some (.inr (.inr (.inr (10, mO (0 : Int32) n2 n14 n15 n16 n17 n18 n19 n20 n21 n22 n23 n27 n28 n32 n33 n34 n35 n39 n52)))) := e2x
  refine wq_gos (f := 1) (pc2 := 6) (ls2 := [(0, .ref 162), (1, .int 0), (2, .int i), (3, .int j)]) (st2 := [.int i]) (h2 := hh1x) (dc2 := 0) (ds2 := 0) 1 rfl ?_
  refine wq_lt0 rfl rfl (fun b5x => ?_) (fun b5x => ?_)
  · refine wq_gos (f := 1) (pc2 := 25) (ls2 := [(0, .ref 162), (1, .int 0), (2, .int i), (3, .int j)]) (st2 := [.int (-1)]) (h2 := hh1x) (dc2 := 0) (ds2 := 0) 1 rfl ?_
    exact wq_ret rfl rfl ⟨_, hh1x, rfl, mIv_0 hI ff3x (by omega) e2x⟩
  · refine wq_gos (f := 1) (pc2 := 11) (ls2 := [(0, .ref 162), (1, .int 0), (2, .int i), (3, .int j)]) (st2 := [.ref 162, .int i]) (h2 := hh1x) (dc2 := 0) (ds2 := 0) 2 rfl ?_
    refine wq_inlv (y2 := 244) (as := []) rfl rfl rfl e2x rfl ?_
    show wq 244 0 [(0, .ref 162)] [] hh1x 0 0 _
    refine wq_gos (f := 1) (pc2 := 1) (ls2 := [(0, .ref 162)]) (st2 := [.ref 162]) (h2 := hh1x) (dc2 := 0) (ds2 := 0) 1 rfl ?_
    refine wq_getf rfl e2x rfl rfl ?_
    refine wq_gos (f := 1) (pc2 := 6) (ls2 := [(0, .ref 162)]) (st2 := [.int 6, .ref 166]) (h2 := hh1x) (dc2 := 0) (ds2 := 0) 1 rfl ?_
    have e6x := (ff3x.2 _ _ (wnc (by decide) wn0) hKn9)
    have q7x : (6 : Int32).toInt = 6 := rfl
    refine wq_iald rfl e6x rfl rfl ?_
    refine wq_vi hkn ?_
    refine wq_ret rfl rfl ?_
    show wq 259 14 [(0, .ref 162), (1, .int 0), (2, .int i), (3, .int j)] [.int (nI wn), .int i] hh1x 0 0 _
    try have q8x := nI_toInt (n := wn) (by omega)
    refine wq_ge2 rfl rfl (fun b9x => ?_) (fun b9x => ?_)
    · refine wq_gos (f := 1) (pc2 := 25) (ls2 := [(0, .ref 162), (1, .int 0), (2, .int i), (3, .int j)]) (st2 := [.int (-1)]) (h2 := hh1x) (dc2 := 0) (ds2 := 0) 1 rfl ?_
      exact wq_ret rfl rfl ⟨_, hh1x, rfl, mIv_0 hI ff3x (by omega) e2x⟩
    · refine wq_gos (f := 1) (pc2 := 18) (ls2 := [(0, .ref 162), (1, .int 0), (2, .int i), (3, .int j)]) (st2 := [.int j]) (h2 := hh1x) (dc2 := 0) (ds2 := 0) 1 rfl ?_
      refine wq_inl (y2 := 208) (as := [.int j]) rfl rfl rfl ?_
      show wq 208 0 [(0, .int j)] [] hh1x 0 0 _
      refine wq_gos (f := 1) (pc2 := 1) (ls2 := [(0, .int j)]) (st2 := [.int j]) (h2 := hh1x) (dc2 := 0) (ds2 := 0) 1 rfl ?_
      refine wq_lt0 rfl rfl (fun b10x => ?_) (fun b10x => ?_)
      · refine wq_gos (f := 1) (pc2 := 15) (ls2 := [(0, .int j)]) (st2 := [.int 0]) (h2 := hh1x) (dc2 := 0) (ds2 := 0) 1 rfl ?_
        refine wq_ret rfl rfl ?_
        show wq 259 21 [(0, .ref 162), (1, .int 0), (2, .int i), (3, .int j)] [.int 0] hh1x 0 0 _
        refine wq_gos (f := 1) (pc2 := 25) (ls2 := [(0, .ref 162), (1, .int 0), (2, .int i), (3, .int j)]) (st2 := [.int (-1)]) (h2 := hh1x) (dc2 := 0) (ds2 := 0) 2 rfl ?_
        exact wq_ret rfl rfl ⟨_, hh1x, rfl, mIv_0 hI ff3x (by omega) e2x⟩
      · refine wq_gos (f := 1) (pc2 := 7) (ls2 := [(0, .int j)]) (st2 := [.int 6, .int j]) (h2 := hh1x) (dc2 := 0) (ds2 := 0) 2 rfl ?_
        refine wq_ge2t rfl (by omega) ?_
        refine wq_gos (f := 1) (pc2 := 15) (ls2 := [(0, .int j)]) (st2 := [.int 0]) (h2 := hh1x) (dc2 := 0) (ds2 := 0) 1 rfl ?_
        refine wq_ret rfl rfl ?_
        show wq 259 21 [(0, .ref 162), (1, .int 0), (2, .int i), (3, .int j)] [.int 0] hh1x 0 0 _
        refine wq_gos (f := 1) (pc2 := 25) (ls2 := [(0, .ref 162), (1, .int 0), (2, .int i), (3, .int j)]) (st2 := [.int (-1)]) (h2 := hh1x) (dc2 := 0) (ds2 := 0) 2 rfl ?_
        exact wq_ret rfl rfl ⟨_, hh1x, rfl, mIv_0 hI ff3x (by omega) e2x⟩
set_option maxRecDepth 100000 in
set_option maxHeartbeats 4000000 in
theorem m_o259I_0 {h : zH} {wn : Nat} {kn lo hi sv sq wy nw : List Int32} {n0 n2 n14 n15 n16 n17 n18 n19 n20 n21 n22 n23 n27 n28 n32 n33 n34 n35 n39 n52 : Int32} {am9 : mS} {i j : Int32} (hM : zat h 162 = some (.inr (.inr (.inr (10, mO n0 n2 n14 n15 n16 n17 n18 n19 n20 n21 n22 n23 n27 n28 n32 n33 n34 n35 n39 n52))))) (hI : mIv h h wn kn lo hi sv sq wy nw n0 n2 n14 n15 n16 n17 n18 n19 n20 n21 n22 n23 n27 n28 n32 n33 n39 n52 am9) (hiw : i.toInt < 0 ∨ wn ≤ i.toInt) : wq 259 0 [(0, .ref 162), (1, .int 0), (2, .int i), (3, .int j)] [] h 0 0 (fun r => ∃ v h2, r = (some (.int v), h2, 0, 0) ∧ mIv h h2 wn kn lo hi sv sq wy nw 0 n2 n14 n15 n16 n17 n18 n19 n20 n21 n22 n23 n27 n28 n32 n33 n39 n52 am9) := by
  have hI0 := hI
  obtain ⟨_, _, fo9, sm9, hr9, tk9, hT9, hS9, hP9, hF9, hN9, hb9, hR9, hK9⟩ := hI0
  have hKn9 := hT9.1
  have tf9 := hT9.2.2.2.2.2.2
  have hkn := tf9.1
  have hw10 := tf9.2.1
  have hbl9 := tf9.2.2.2.1
  have z0 : (0 : Int32).toInt = 0 := rfl
  have z1 : (1 : Int32).toInt = 1 := rfl
  have z5 : (5 : Int32).toInt = 5 := rfl
  have z6 : (6 : Int32).toInt = 6 := rfl
  have zm1 : (-1 : Int32).toInt = -1 := rfl
  have z3 : (3 : Int32).toInt = 3 := rfl
  have z2 : (2 : Int32).toInt = 2 := rfl
  have z20 : (20 : Int32).toInt = 20 := rfl
  have zn99 : (99 : Int32).toInt = 99 := rfl
  have qwn := nI_toInt (n := wn) (by omega)
  refine wq_gos (f := 1) (pc2 := 2) (ls2 := [(0, .ref 162), (1, .int 0), (2, .int i), (3, .int j)]) (st2 := [.int 0, .ref 162]) (h2 := h) (dc2 := 0) (ds2 := 0) 2 rfl ?_
  refine wq_putf rfl hM rfl rfl rfl ?_
  intro hh1x e2x ff3x lh4x
  have e2x : zat hh1x 162 = some (.inr (.inr (.inr (10, mO (0 : Int32) n2 n14 n15 n16 n17 n18 n19 n20 n21 n22 n23 n27 n28 n32 n33 n34 n35 n39 n52)))) := e2x
  refine wq_gos (f := 1) (pc2 := 6) (ls2 := [(0, .ref 162), (1, .int 0), (2, .int i), (3, .int j)]) (st2 := [.int i]) (h2 := hh1x) (dc2 := 0) (ds2 := 0) 1 rfl ?_
  refine wq_lt0 rfl rfl (fun b5x => ?_) (fun b5x => ?_)
  · refine wq_gos (f := 1) (pc2 := 25) (ls2 := [(0, .ref 162), (1, .int 0), (2, .int i), (3, .int j)]) (st2 := [.int (-1)]) (h2 := hh1x) (dc2 := 0) (ds2 := 0) 1 rfl ?_
    exact wq_ret rfl rfl ⟨_, hh1x, rfl, mIv_0 hI ff3x (by omega) e2x⟩
  · refine wq_gos (f := 1) (pc2 := 11) (ls2 := [(0, .ref 162), (1, .int 0), (2, .int i), (3, .int j)]) (st2 := [.ref 162, .int i]) (h2 := hh1x) (dc2 := 0) (ds2 := 0) 2 rfl ?_
    refine wq_inlv (y2 := 244) (as := []) rfl rfl rfl e2x rfl ?_
    show wq 244 0 [(0, .ref 162)] [] hh1x 0 0 _
    refine wq_gos (f := 1) (pc2 := 1) (ls2 := [(0, .ref 162)]) (st2 := [.ref 162]) (h2 := hh1x) (dc2 := 0) (ds2 := 0) 1 rfl ?_
    refine wq_getf rfl e2x rfl rfl ?_
    refine wq_gos (f := 1) (pc2 := 6) (ls2 := [(0, .ref 162)]) (st2 := [.int 6, .ref 166]) (h2 := hh1x) (dc2 := 0) (ds2 := 0) 1 rfl ?_
    have e6x := (ff3x.2 _ _ (wnc (by decide) wn0) hKn9)
    have q7x : (6 : Int32).toInt = 6 := rfl
    refine wq_iald rfl e6x rfl rfl ?_
    refine wq_vi hkn ?_
    refine wq_ret rfl rfl ?_
    show wq 259 14 [(0, .ref 162), (1, .int 0), (2, .int i), (3, .int j)] [.int (nI wn), .int i] hh1x 0 0 _
    try have q8x := nI_toInt (n := wn) (by omega)
    refine wq_ge2t rfl (by omega) ?_
    refine wq_gos (f := 1) (pc2 := 25) (ls2 := [(0, .ref 162), (1, .int 0), (2, .int i), (3, .int j)]) (st2 := [.int (-1)]) (h2 := hh1x) (dc2 := 0) (ds2 := 0) 1 rfl ?_
    exact wq_ret rfl rfl ⟨_, hh1x, rfl, mIv_0 hI ff3x (by omega) e2x⟩
set_option maxRecDepth 100000 in
set_option maxHeartbeats 4000000 in
theorem m_o260_0 {h : zH} {wn : Nat} {kn lo hi sv sq wy nw : List Int32} {n0 n2 n14 n15 n16 n17 n18 n19 n20 n21 n22 n23 n27 n28 n32 n33 n34 n35 n39 n52 : Int32} {am9 : mS} {m9 : Int32} (hM : zat h 162 = some (.inr (.inr (.inr (10, mO n0 n2 n14 n15 n16 n17 n18 n19 n20 n21 n22 n23 n27 n28 n32 n33 n34 n35 n39 n52))))) (hI : mIv h h wn kn lo hi sv sq wy nw n0 n2 n14 n15 n16 n17 n18 n19 n20 n21 n22 n23 n27 n28 n32 n33 n39 n52 am9)  : wq 260 0 [(0, .ref 162), (1, .int 0), (2, .int m9)] [] h 0 0 (fun r => ∃ v h2, r = (some (.int v), h2, 0, 0) ∧ mIv h h2 wn kn lo hi sv sq wy nw 0 n2 n14 n15 n16 n17 n18 n19 n20 n21 n22 n23 n27 n28 n32 n33 n39 n52 am9) := by
  have hI0 := hI
  obtain ⟨_, _, fo9, sm9, hr9, tk9, hT9, hS9, hP9, hF9, hN9, hb9, hR9, hK9⟩ := hI0
  have hKn9 := hT9.1
  have tf9 := hT9.2.2.2.2.2.2
  have hkn := tf9.1
  have hw10 := tf9.2.1
  have hbl9 := tf9.2.2.2.1
  have z0 : (0 : Int32).toInt = 0 := rfl
  have z1 : (1 : Int32).toInt = 1 := rfl
  have z5 : (5 : Int32).toInt = 5 := rfl
  have z6 : (6 : Int32).toInt = 6 := rfl
  have zm1 : (-1 : Int32).toInt = -1 := rfl
  have z3 : (3 : Int32).toInt = 3 := rfl
  have z2 : (2 : Int32).toInt = 2 := rfl
  have z20 : (20 : Int32).toInt = 20 := rfl
  have zn99 : (99 : Int32).toInt = 99 := rfl
  have qwn := nI_toInt (n := wn) (by omega)
  refine wq_gos (f := 1) (pc2 := 2) (ls2 := [(0, .ref 162), (1, .int 0), (2, .int m9)]) (st2 := [.int 0, .ref 162]) (h2 := h) (dc2 := 0) (ds2 := 0) 2 rfl ?_
  refine wq_putf rfl hM rfl rfl rfl ?_
  intro hh1x e2x ff3x lh4x
  have e2x : zat hh1x 162 = some (.inr (.inr (.inr (10, mO (0 : Int32) n2 n14 n15 n16 n17 n18 n19 n20 n21 n22 n23 n27 n28 n32 n33 n34 n35 n39 n52)))) := e2x
  refine wq_gos (f := 1) (pc2 := 6) (ls2 := [(0, .ref 162), (1, .int 0), (2, .int m9)]) (st2 := [.int m9]) (h2 := hh1x) (dc2 := 0) (ds2 := 0) 1 rfl ?_
  refine wq_lt0 rfl rfl (fun b5x => ?_) (fun b5x => ?_)
  · refine wq_gos (f := 1) (pc2 := 16) (ls2 := [(0, .ref 162), (1, .int 0), (2, .int m9)]) (st2 := [.int (-1)]) (h2 := hh1x) (dc2 := 0) (ds2 := 0) 1 rfl ?_
    exact wq_ret rfl rfl ⟨_, hh1x, rfl, mIv_0 hI ff3x (by omega) e2x⟩
  · refine wq_gos (f := 1) (pc2 := 12) (ls2 := [(0, .ref 162), (1, .int 0), (2, .int m9)]) (st2 := [.int 99, .int m9]) (h2 := hh1x) (dc2 := 0) (ds2 := 0) 2 rfl ?_
    have q6x : (99 : Int32).toInt = 99 := rfl
    refine wq_le2 rfl rfl (fun b7x => ?_) (fun b7x => ?_)
    · refine wq_gos (f := 1) (pc2 := 19) (ls2 := [(0, .ref 162), (1, .int 0), (2, .int m9)]) (st2 := [.int 0, .ref 162]) (h2 := hh1x) (dc2 := 0) (ds2 := 0) 2 rfl ?_
      refine wq_inlv (y2 := 250) (as := [.int 0]) rfl rfl rfl e2x rfl ?_
      show wq 250 0 [(0, .ref 162), (1, .int 0)] [] hh1x 0 0 _
      refine wq_gos (f := 1) (pc2 := 10) (ls2 := [(0, .ref 162), (1, .int 0)]) (st2 := [.int 0, .ref 162]) (h2 := hh1x) (dc2 := 0) (ds2 := 0) 4 rfl ?_
      refine wq_inlv (y2 := 249) (as := [.int 0]) rfl rfl rfl e2x rfl (m_use0 e2x (mIv_0 hI ff3x (by omega) e2x) ?_ ?_)
      · intro h88x m348x m358x ri8x pa8x ch8x co8x tk8x th8x f88x l88x c08x c18x c28x c38x c48x c58x c68x c78x p08x p18x
        show wq 250 13 [(0, .ref 162), (1, .int 0)] [] h88x 0 0 _
        refine wq_gos (f := 1) (pc2 := 14) (ls2 := [(0, .ref 162), (1, .int 0)]) (st2 := [.ref 162]) (h2 := h88x) (dc2 := 0) (ds2 := 0) 1 rfl ?_
        refine wq_getf rfl c08x rfl rfl ?_
        refine wq_gos (f := 1) (pc2 := 26) (ls2 := [(0, .ref 162), (1, .int 0)]) (st2 := [.int 0, .ref 210]) (h2 := h88x) (dc2 := 0) (ds2 := 0) 3 rfl ?_
        have q9x : (0 : Int32).toInt = 0 := rfl
        refine wq_iald rfl c28x rfl rfl ?_
        refine wq_ret rfl rfl ?_
        show wq 260 22 [(0, .ref 162), (1, .int 0), (2, .int m9)] [.int (ri8x.getD 0 0)] h88x 0 0 _
        refine wq_gos (f := 1) (pc2 := 24) (ls2 := [(3, .int (ri8x.getD 0 0)), (0, .ref 162), (1, .int 0), (2, .int m9)]) (st2 := [.int (ri8x.getD 0 0)]) (h2 := h88x) (dc2 := 0) (ds2 := 0) 2 rfl ?_
        refine wq_ge0f rfl rfl (by omega) ?_
        refine wq_gos (f := 1) (pc2 := 28) (ls2 := [(3, .int (ri8x.getD 0 0)), (0, .ref 162), (1, .int 0), (2, .int m9)]) (st2 := [.int (ri8x.getD 0 0)]) (h2 := h88x) (dc2 := 0) (ds2 := 0) 1 rfl ?_
        exact wq_ret rfl rfl ⟨_, h88x, rfl, p18x⟩
      · intro h810x m3410x m3510x ri10x pa10x ch10x co10x tk10x th10x T910x f810x l810x c010x c110x c210x c310x c410x c510x c610x c710x p010x p110x p210x p310x p410x
        have qT9 := nI_toInt (n := T910x) (by omega)
        show wq 250 13 [(0, .ref 162), (1, .int 0)] [] h810x 0 0 _
        refine wq_gos (f := 1) (pc2 := 14) (ls2 := [(0, .ref 162), (1, .int 0)]) (st2 := [.ref 162]) (h2 := h810x) (dc2 := 0) (ds2 := 0) 1 rfl ?_
        refine wq_getf rfl c010x rfl rfl ?_
        refine wq_gos (f := 1) (pc2 := 26) (ls2 := [(0, .ref 162), (1, .int 0)]) (st2 := [.int 0, .ref 210]) (h2 := h810x) (dc2 := 0) (ds2 := 0) 3 rfl ?_
        have q11x : (0 : Int32).toInt = 0 := rfl
        refine wq_iald rfl c210x rfl rfl ?_
        refine wq_vi p010x ?_
        refine wq_ret rfl rfl ?_
        show wq 260 22 [(0, .ref 162), (1, .int 0), (2, .int m9)] [.int (nI T910x)] h810x 0 0 _
        refine wq_gos (f := 1) (pc2 := 24) (ls2 := [(3, .int (nI T910x)), (0, .ref 162), (1, .int 0), (2, .int m9)]) (st2 := [.int (nI T910x)]) (h2 := h810x) (dc2 := 0) (ds2 := 0) 2 rfl ?_
        try have q12x := nI_toInt (n := T910x) (by omega)
        refine wq_ge0t rfl (by omega) ?_
        refine wq_gos (f := 1) (pc2 := 33) (ls2 := [(4, .int 9), (3, .int (nI T910x)), (0, .ref 162), (1, .int 0), (2, .int m9)]) (st2 := []) (h2 := h810x) (dc2 := 0) (ds2 := 0) 2 rfl ?_
        refine wq_ls [(0, .ref 162), (1, .int 0), (2, .int m9), (4, .int 9)] (show ([0, 1, 2, 4] : List Nat).Nodup by decide) ⟨rfl, rfl, rfl, rfl, trivial⟩ ?_
        refine wq_mono (m_roL0 c010x c110x c310x c510x ⟨hkn, hw10⟩ (by first | assumption | omega | decide | solve_by_elim) (by first | assumption | omega | decide | solve_by_elim) (by first | assumption | omega | decide | solve_by_elim) ((9 : Int32).toInt.toNat + 1) (9 : Int32) (by first | assumption | omega | decide | solve_by_elim) (by omega) 0 0) ?_
        rintro _ rfl
        exact ⟨_, h810x, rfl, p410x⟩
    · refine wq_gos (f := 1) (pc2 := 16) (ls2 := [(0, .ref 162), (1, .int 0), (2, .int m9)]) (st2 := [.int (-1)]) (h2 := hh1x) (dc2 := 0) (ds2 := 0) 1 rfl ?_
      exact wq_ret rfl rfl ⟨_, hh1x, rfl, mIv_0 hI ff3x (by omega) e2x⟩
set_option maxRecDepth 100000 in
set_option maxHeartbeats 4000000 in
theorem m_o263_0 {h : zH} {wn : Nat} {kn lo hi sv sq wy nw : List Int32} {n0 n2 n14 n15 n16 n17 n18 n19 n20 n21 n22 n23 n27 n28 n32 n33 n34 n35 n39 n52 : Int32} {am9 : mS} {w : Int32} (hM : zat h 162 = some (.inr (.inr (.inr (10, mO n0 n2 n14 n15 n16 n17 n18 n19 n20 n21 n22 n23 n27 n28 n32 n33 n34 n35 n39 n52))))) (hI : mIv h h wn kn lo hi sv sq wy nw n0 n2 n14 n15 n16 n17 n18 n19 n20 n21 n22 n23 n27 n28 n32 n33 n39 n52 am9)  : wq 263 0 [(0, .ref 162), (1, .int 0), (2, .int w)] [] h 0 0 (fun r => ∃ v h2, r = (some (.int v), h2, 0, 0) ∧ mIv h h2 wn kn lo hi sv sq wy nw 0 n2 n14 n15 n16 n17 n18 n19 n20 n21 n22 n23 n27 n28 n32 n33 n39 n52 am9) := by
  have hI0 := hI
  obtain ⟨_, _, fo9, sm9, hr9, tk9, hT9, hS9, hP9, hF9, hN9, hb9, hR9, hK9⟩ := hI0
  have hKn9 := hT9.1
  have tf9 := hT9.2.2.2.2.2.2
  have hkn := tf9.1
  have hw10 := tf9.2.1
  have hbl9 := tf9.2.2.2.1
  have z0 : (0 : Int32).toInt = 0 := rfl
  have z1 : (1 : Int32).toInt = 1 := rfl
  have z5 : (5 : Int32).toInt = 5 := rfl
  have z6 : (6 : Int32).toInt = 6 := rfl
  have zm1 : (-1 : Int32).toInt = -1 := rfl
  have z3 : (3 : Int32).toInt = 3 := rfl
  have z2 : (2 : Int32).toInt = 2 := rfl
  have z20 : (20 : Int32).toInt = 20 := rfl
  have zn99 : (99 : Int32).toInt = 99 := rfl
  have qwn := nI_toInt (n := wn) (by omega)
  refine wq_gos (f := 1) (pc2 := 2) (ls2 := [(0, .ref 162), (1, .int 0), (2, .int w)]) (st2 := [.int 0, .ref 162]) (h2 := h) (dc2 := 0) (ds2 := 0) 2 rfl ?_
  refine wq_putf rfl hM rfl rfl rfl ?_
  intro hh1x e2x ff3x lh4x
  have e2x : zat hh1x 162 = some (.inr (.inr (.inr (10, mO (0 : Int32) n2 n14 n15 n16 n17 n18 n19 n20 n21 n22 n23 n27 n28 n32 n33 n34 n35 n39 n52)))) := e2x
  refine wq_gos (f := 1) (pc2 := 6) (ls2 := [(0, .ref 162), (1, .int 0), (2, .int w)]) (st2 := [.int w]) (h2 := hh1x) (dc2 := 0) (ds2 := 0) 1 rfl ?_
  refine wq_lt0 rfl rfl (fun b5x => ?_) (fun b5x => ?_)
  · refine wq_gos (f := 1) (pc2 := 15) (ls2 := [(0, .ref 162), (1, .int 0), (2, .int w)]) (st2 := [.int (-1)]) (h2 := hh1x) (dc2 := 0) (ds2 := 0) 1 rfl ?_
    exact wq_ret rfl rfl ⟨_, hh1x, rfl, mIv_0 hI ff3x (by omega) e2x⟩
  · refine wq_gos (f := 1) (pc2 := 11) (ls2 := [(0, .ref 162), (1, .int 0), (2, .int w)]) (st2 := [.int 2, .int w]) (h2 := hh1x) (dc2 := 0) (ds2 := 0) 2 rfl ?_
    have q6x : (2 : Int32).toInt = 2 := rfl
    refine wq_le2 rfl rfl (fun b7x => ?_) (fun b7x => ?_)
    · refine wq_gos (f := 1) (pc2 := 18) (ls2 := [(0, .ref 162), (1, .int 0), (2, .int w)]) (st2 := [.int 0, .ref 162]) (h2 := hh1x) (dc2 := 0) (ds2 := 0) 2 rfl ?_
      refine wq_inlv (y2 := 250) (as := [.int 0]) rfl rfl rfl e2x rfl ?_
      show wq 250 0 [(0, .ref 162), (1, .int 0)] [] hh1x 0 0 _
      refine wq_gos (f := 1) (pc2 := 10) (ls2 := [(0, .ref 162), (1, .int 0)]) (st2 := [.int 0, .ref 162]) (h2 := hh1x) (dc2 := 0) (ds2 := 0) 4 rfl ?_
      refine wq_inlv (y2 := 249) (as := [.int 0]) rfl rfl rfl e2x rfl (m_use0 e2x (mIv_0 hI ff3x (by omega) e2x) ?_ ?_)
      · intro h88x m348x m358x ri8x pa8x ch8x co8x tk8x th8x f88x l88x c08x c18x c28x c38x c48x c58x c68x c78x p08x p18x
        show wq 250 13 [(0, .ref 162), (1, .int 0)] [] h88x 0 0 _
        refine wq_gos (f := 1) (pc2 := 14) (ls2 := [(0, .ref 162), (1, .int 0)]) (st2 := [.ref 162]) (h2 := h88x) (dc2 := 0) (ds2 := 0) 1 rfl ?_
        refine wq_getf rfl c08x rfl rfl ?_
        refine wq_gos (f := 1) (pc2 := 26) (ls2 := [(0, .ref 162), (1, .int 0)]) (st2 := [.int 0, .ref 210]) (h2 := h88x) (dc2 := 0) (ds2 := 0) 3 rfl ?_
        have q9x : (0 : Int32).toInt = 0 := rfl
        refine wq_iald rfl c28x rfl rfl ?_
        refine wq_ret rfl rfl ?_
        show wq 263 21 [(0, .ref 162), (1, .int 0), (2, .int w)] [.int (ri8x.getD 0 0)] h88x 0 0 _
        refine wq_gos (f := 1) (pc2 := 23) (ls2 := [(3, .int (ri8x.getD 0 0)), (0, .ref 162), (1, .int 0), (2, .int w)]) (st2 := [.int (ri8x.getD 0 0)]) (h2 := h88x) (dc2 := 0) (ds2 := 0) 2 rfl ?_
        refine wq_ge0f rfl rfl (by omega) ?_
        refine wq_gos (f := 1) (pc2 := 27) (ls2 := [(3, .int (ri8x.getD 0 0)), (0, .ref 162), (1, .int 0), (2, .int w)]) (st2 := [.int (ri8x.getD 0 0)]) (h2 := h88x) (dc2 := 0) (ds2 := 0) 1 rfl ?_
        exact wq_ret rfl rfl ⟨_, h88x, rfl, p18x⟩
      · intro h810x m3410x m3510x ri10x pa10x ch10x co10x tk10x th10x T910x f810x l810x c010x c110x c210x c310x c410x c510x c610x c710x p010x p110x p210x p310x p410x
        have qT9 := nI_toInt (n := T910x) (by omega)
        show wq 250 13 [(0, .ref 162), (1, .int 0)] [] h810x 0 0 _
        refine wq_gos (f := 1) (pc2 := 14) (ls2 := [(0, .ref 162), (1, .int 0)]) (st2 := [.ref 162]) (h2 := h810x) (dc2 := 0) (ds2 := 0) 1 rfl ?_
        refine wq_getf rfl c010x rfl rfl ?_
        refine wq_gos (f := 1) (pc2 := 26) (ls2 := [(0, .ref 162), (1, .int 0)]) (st2 := [.int 0, .ref 210]) (h2 := h810x) (dc2 := 0) (ds2 := 0) 3 rfl ?_
        have q11x : (0 : Int32).toInt = 0 := rfl
        refine wq_iald rfl c210x rfl rfl ?_
        refine wq_vi p010x ?_
        refine wq_ret rfl rfl ?_
        show wq 263 21 [(0, .ref 162), (1, .int 0), (2, .int w)] [.int (nI T910x)] h810x 0 0 _
        refine wq_gos (f := 1) (pc2 := 23) (ls2 := [(3, .int (nI T910x)), (0, .ref 162), (1, .int 0), (2, .int w)]) (st2 := [.int (nI T910x)]) (h2 := h810x) (dc2 := 0) (ds2 := 0) 2 rfl ?_
        try have q12x := nI_toInt (n := T910x) (by omega)
        refine wq_ge0t rfl (by omega) ?_
        refine wq_gos (f := 1) (pc2 := 41) (ls2 := [(4, .int 0), (3, .int (nI T910x)), (0, .ref 162), (1, .int 0), (2, .int w)]) (st2 := [.int 2, .int w]) (h2 := h810x) (dc2 := 0) (ds2 := 0) 6 rfl ?_
        refine wq_ge2 rfl rfl (fun b13x => ?_) (fun b13x => ?_)
        · refine wq_gos (f := 1) (pc2 := 59) (ls2 := [(4, .int 0), (3, .int (nI T910x)), (0, .ref 162), (1, .int 0), (2, .int w)]) (st2 := [.int (nI T910x), .int 0, .ref 162]) (h2 := h810x) (dc2 := 0) (ds2 := 0) 3 rfl ?_
          refine wq_inlv (y2 := 265) (as := [.int 0, .int (nI T910x)]) rfl rfl rfl c010x rfl (wq_mono (m_rb0 c010x c110x c310x c510x ⟨hkn, hw10⟩ (by first | assumption | omega | decide | solve_by_elim)) ?_)
          rintro _ ⟨v914x, rfl⟩
          show wq 263 62 [(4, .int 0), (3, .int (nI T910x)), (0, .ref 162), (1, .int 0), (2, .int w)] [.int v914x] h810x 0 0 _
          exact wq_ret rfl rfl ⟨_, h810x, rfl, p410x⟩
        · refine wq_gos (f := 1) (pc2 := 49) (ls2 := [(4, .int 0), (3, .int (nI T910x)), (0, .ref 162), (1, .int 0), (2, .int w)]) (st2 := [.int w, .int (nI T910x), .int 0, .ref 162]) (h2 := h810x) (dc2 := 0) (ds2 := 0) 4 rfl ?_
          refine wq_inlv (y2 := 264) (as := [.int 0, .int (nI T910x), .int w]) rfl rfl rfl c010x rfl (wq_mono (m_tu0 c010x c110x c310x c510x c610x ⟨hkn, hw10⟩ (by first | assumption | omega | decide | solve_by_elim)) ?_)
          rintro _ ⟨h815x, v915x, tk215x, rfl, f815x, l815x, c015x⟩
          show wq 263 52 [(4, .int 0), (3, .int (nI T910x)), (0, .ref 162), (1, .int 0), (2, .int w)] [.int v915x] h815x 0 0 _
          refine wq_gos (f := 1) (pc2 := 62) (ls2 := [(4, .int 0), (3, .int (nI T910x)), (0, .ref 162), (1, .int 0), (2, .int w)]) (st2 := [.int v915x]) (h2 := h815x) (dc2 := 0) (ds2 := 0) 1 rfl ?_
          have e16x := (f815x.2 _ _ (wnc (by decide) wn0) c710x)
          exact wq_ret rfl rfl ⟨_, h815x, rfl, (mIv_w p410x (wFr_sub f815x (by simp)) (by omega) c015x e16x)⟩
    · refine wq_gos (f := 1) (pc2 := 15) (ls2 := [(0, .ref 162), (1, .int 0), (2, .int w)]) (st2 := [.int (-1)]) (h2 := hh1x) (dc2 := 0) (ds2 := 0) 1 rfl ?_
      exact wq_ret rfl rfl ⟨_, hh1x, rfl, mIv_0 hI ff3x (by omega) e2x⟩
set_option maxRecDepth 100000 in
set_option maxHeartbeats 4000000 in
theorem m_o266_0 {h : zH} {wn : Nat} {kn lo hi sv sq wy nw : List Int32} {n0 n2 n14 n15 n16 n17 n18 n19 n20 n21 n22 n23 n27 n28 n32 n33 n34 n35 n39 n52 : Int32} {am9 : mS}  (hM : zat h 162 = some (.inr (.inr (.inr (10, mO n0 n2 n14 n15 n16 n17 n18 n19 n20 n21 n22 n23 n27 n28 n32 n33 n34 n35 n39 n52))))) (hI : mIv h h wn kn lo hi sv sq wy nw n0 n2 n14 n15 n16 n17 n18 n19 n20 n21 n22 n23 n27 n28 n32 n33 n39 n52 am9)  : wq 266 0 [(0, .ref 162), (1, .int 0)] [] h 0 0 (fun r => ∃ v h2, r = (some (.long v), h2, 0, 0) ∧ mIv h h2 wn kn lo hi sv sq wy nw 0 n2 n14 n15 n16 n17 n18 n19 n20 n21 n22 n23 n27 n28 n32 n33 n39 n52 am9) := by
  have hI0 := hI
  obtain ⟨_, _, fo9, sm9, hr9, tk9, hT9, hS9, hP9, hF9, hN9, hb9, hR9, hK9⟩ := hI0
  have hKn9 := hT9.1
  have tf9 := hT9.2.2.2.2.2.2
  have hkn := tf9.1
  have hw10 := tf9.2.1
  have hbl9 := tf9.2.2.2.1
  have z0 : (0 : Int32).toInt = 0 := rfl
  have z1 : (1 : Int32).toInt = 1 := rfl
  have z5 : (5 : Int32).toInt = 5 := rfl
  have z6 : (6 : Int32).toInt = 6 := rfl
  have zm1 : (-1 : Int32).toInt = -1 := rfl
  have z3 : (3 : Int32).toInt = 3 := rfl
  have z2 : (2 : Int32).toInt = 2 := rfl
  have z20 : (20 : Int32).toInt = 20 := rfl
  have zn99 : (99 : Int32).toInt = 99 := rfl
  have qwn := nI_toInt (n := wn) (by omega)
  refine wq_gos (f := 1) (pc2 := 2) (ls2 := [(0, .ref 162), (1, .int 0)]) (st2 := [.int 0, .ref 162]) (h2 := h) (dc2 := 0) (ds2 := 0) 2 rfl ?_
  refine wq_putf rfl hM rfl rfl rfl ?_
  intro hh1x e2x ff3x lh4x
  have e2x : zat hh1x 162 = some (.inr (.inr (.inr (10, mO (0 : Int32) n2 n14 n15 n16 n17 n18 n19 n20 n21 n22 n23 n27 n28 n32 n33 n34 n35 n39 n52)))) := e2x
  refine wq_gos (f := 1) (pc2 := 7) (ls2 := [(0, .ref 162), (1, .int 0)]) (st2 := [.int 0, .ref 162]) (h2 := hh1x) (dc2 := 0) (ds2 := 0) 2 rfl ?_
  refine wq_inlv (y2 := 250) (as := [.int 0]) rfl rfl rfl e2x rfl ?_
  show wq 250 0 [(0, .ref 162), (1, .int 0)] [] hh1x 0 0 _
  refine wq_gos (f := 1) (pc2 := 10) (ls2 := [(0, .ref 162), (1, .int 0)]) (st2 := [.int 0, .ref 162]) (h2 := hh1x) (dc2 := 0) (ds2 := 0) 4 rfl ?_
  refine wq_inlv (y2 := 249) (as := [.int 0]) rfl rfl rfl e2x rfl (m_use0 e2x (mIv_0 hI ff3x (by omega) e2x) ?_ ?_)
  · intro h85x m345x m355x ri5x pa5x ch5x co5x tk5x th5x f85x l85x c05x c15x c25x c35x c45x c55x c65x c75x p05x p15x
    show wq 250 13 [(0, .ref 162), (1, .int 0)] [] h85x 0 0 _
    refine wq_gos (f := 1) (pc2 := 14) (ls2 := [(0, .ref 162), (1, .int 0)]) (st2 := [.ref 162]) (h2 := h85x) (dc2 := 0) (ds2 := 0) 1 rfl ?_
    refine wq_getf rfl c05x rfl rfl ?_
    refine wq_gos (f := 1) (pc2 := 26) (ls2 := [(0, .ref 162), (1, .int 0)]) (st2 := [.int 0, .ref 210]) (h2 := h85x) (dc2 := 0) (ds2 := 0) 3 rfl ?_
    have q6x : (0 : Int32).toInt = 0 := rfl
    refine wq_iald rfl c25x rfl rfl ?_
    refine wq_ret rfl rfl ?_
    show wq 266 10 [(0, .ref 162), (1, .int 0)] [.int (ri5x.getD 0 0)] h85x 0 0 _
    refine wq_gos (f := 1) (pc2 := 12) (ls2 := [(2, .int (ri5x.getD 0 0)), (0, .ref 162), (1, .int 0)]) (st2 := [.int (ri5x.getD 0 0)]) (h2 := h85x) (dc2 := 0) (ds2 := 0) 2 rfl ?_
    refine wq_ge0f rfl rfl (by omega) ?_
    refine wq_gos (f := 1) (pc2 := 17) (ls2 := [(2, .int (ri5x.getD 0 0)), (0, .ref 162), (1, .int 0)]) (st2 := [.long ((ri5x.getD 0 0)).toInt64]) (h2 := h85x) (dc2 := 0) (ds2 := 0) 2 rfl ?_
    exact wq_ret rfl rfl ⟨_, h85x, rfl, p15x⟩
  · intro h87x m347x m357x ri7x pa7x ch7x co7x tk7x th7x T97x f87x l87x c07x c17x c27x c37x c47x c57x c67x c77x p07x p17x p27x p37x p47x
    have qT9 := nI_toInt (n := T97x) (by omega)
    show wq 250 13 [(0, .ref 162), (1, .int 0)] [] h87x 0 0 _
    refine wq_gos (f := 1) (pc2 := 14) (ls2 := [(0, .ref 162), (1, .int 0)]) (st2 := [.ref 162]) (h2 := h87x) (dc2 := 0) (ds2 := 0) 1 rfl ?_
    refine wq_getf rfl c07x rfl rfl ?_
    refine wq_gos (f := 1) (pc2 := 26) (ls2 := [(0, .ref 162), (1, .int 0)]) (st2 := [.int 0, .ref 210]) (h2 := h87x) (dc2 := 0) (ds2 := 0) 3 rfl ?_
    have q8x : (0 : Int32).toInt = 0 := rfl
    refine wq_iald rfl c27x rfl rfl ?_
    refine wq_vi p07x ?_
    refine wq_ret rfl rfl ?_
    show wq 266 10 [(0, .ref 162), (1, .int 0)] [.int (nI T97x)] h87x 0 0 _
    refine wq_gos (f := 1) (pc2 := 12) (ls2 := [(2, .int (nI T97x)), (0, .ref 162), (1, .int 0)]) (st2 := [.int (nI T97x)]) (h2 := h87x) (dc2 := 0) (ds2 := 0) 2 rfl ?_
    try have q9x := nI_toInt (n := T97x) (by omega)
    refine wq_ge0t rfl (by omega) ?_
    refine wq_gos (f := 1) (pc2 := 34) (ls2 := [(4, .long 0), (3, .int 0), (2, .int (nI T97x)), (0, .ref 162), (1, .int 0)]) (st2 := [.int 0, .int 0, .ref 162]) (h2 := h87x) (dc2 := 0) (ds2 := 0) 9 rfl ?_
    refine wq_inlv (y2 := 262) (as := [.int 0, .int 0]) rfl rfl rfl c07x rfl (wq_mono (m_lt (r := 0) c07x c17x c37x c57x c67x ⟨hkn, hw10, by decide⟩) ?_)
    rintro _ ⟨h810x, rfl, f810x, l810x, c010x⟩
    show wq 266 37 [(4, .long 0), (3, .int 0), (2, .int (nI T97x)), (0, .ref 162), (1, .int 0)] [] h810x 0 0 _
    refine wq_gos (f := 1) (pc2 := 39) (ls2 := [(4, .long 0), (3, .int 0), (2, .int (nI T97x)), (0, .ref 162), (1, .int 0)]) (st2 := [.ref 162, .ref 162]) (h2 := h810x) (dc2 := 0) (ds2 := 0) 2 rfl ?_
    have e11x := (f810x.2 _ _ (wnc (by decide) wn0) c07x)
    refine wq_getf rfl e11x rfl rfl ?_
    refine wq_gos (f := 1) (pc2 := 43) (ls2 := [(4, .long 0), (3, .int 0), (2, .int (nI T97x)), (0, .ref 162), (1, .int 0)]) (st2 := [.int 0, .ref 224, .ref 162]) (h2 := h810x) (dc2 := 0) (ds2 := 0) 1 rfl ?_
    have e12x := (f810x.2 _ _ (wnc (by decide) wn0) c17x)
    have e13x := (f810x.2 _ _ (wnc (by decide) wn0) c77x)
    refine wq_inlv (y2 := 200) (as := [.ref 224, .int 0]) rfl rfl rfl e11x rfl (wq_mono (m_pla (k := 0) e11x e12x c010x e13x (by first | assumption | omega | decide | solve_by_elim) (by first | assumption | omega | decide | solve_by_elim)) ?_)
    rintro _ ⟨h814x, rfl, f814x, l814x, c014x⟩
    show wq 266 46 [(4, .long 0), (3, .int 0), (2, .int (nI T97x)), (0, .ref 162), (1, .int 0)] [] h814x 0 0 _
    obtain ⟨v15x, hv16x⟩ : ∃ x, x = (mPla kn (mTick tk7x pa7x co7x wn 0 (0 : Int32)) 0 th7x) := ⟨_, rfl⟩
    try rw [← hv16x] at c014x
    try rw [← hv16x]
    refine wq_gos (f := 1) (pc2 := 49) (ls2 := [(6, .int 1), (4, .long 0), (3, .int 0), (2, .int (nI T97x)), (0, .ref 162), (1, .int 0)]) (st2 := []) (h2 := h814x) (dc2 := 0) (ds2 := 0) 2 rfl ?_
    have e17x := (f814x.2 _ _ (wnc (by decide) wn0) e11x)
    have e18x := (f814x.2 _ _ (wnc (by decide) wn0) e12x)
    have e19x := (f814x.2 _ _ (wnc (by decide) wn0) (f810x.2 _ _ (wnc (by decide) wn0) c37x))
    have e20x := (f814x.2 _ _ (wnc (by decide) wn0) (f810x.2 _ _ (wnc (by decide) wn0) c57x))
    have e21x := (f814x.2 _ _ (wnc (by decide) wn0) c010x)
    refine wq_ls [(0, .ref 162), (2, .int (nI T97x)), (3, .int 0), (4, .long 0), (6, .int (nI 1))] (show ([0, 2, 3, 4, 6] : List Nat).Nodup by decide) ⟨rfl, rfl, rfl, rfl, rfl, trivial⟩ ?_
    refine wq_mono (m_trL0 ⟨hkn, hw10⟩ (by first | assumption | omega | decide | solve_by_elim) ((T97x + 1 - 1) + 1) (0 : Int64) 1 (mTick tk7x pa7x co7x wn 0 (0 : Int32)) (v15x) h814x e17x e18x e19x e20x e21x c014x (by first | assumption | omega | decide | solve_by_elim) (by omega) 0 0) ?_
    rintro _ ⟨h824x, rfl, f824x, l824x, c024x, c124x⟩
    obtain ⟨v22x, hv23x⟩ : ∃ x, x = (mtrF0 kn pa7x co7x wn T97x ((T97x + 1 - 1) + 1) (0 : Int64) 1 (mTick tk7x pa7x co7x wn 0 (0 : Int32)) (v15x)) := ⟨_, rfl⟩
    try rw [← hv23x] at c024x
    try rw [← hv23x] at c124x
    try rw [← hv23x]
    exact ⟨_, h824x, rfl, (mIv_w p47x (wFr_tr (wFr_sub f810x (by simp)) (wFr_tr (wFr_sub f814x (by simp)) (wFr_sub f824x (by simp)))) (by omega) c024x c124x)⟩
set_option maxRecDepth 100000 in
set_option maxHeartbeats 4000000 in
theorem m_o267_0 {h : zH} {wn : Nat} {kn lo hi sv sq wy nw : List Int32} {n0 n2 n14 n15 n16 n17 n18 n19 n20 n21 n22 n23 n27 n28 n32 n33 n34 n35 n39 n52 : Int32} {am9 : mS}  (hM : zat h 162 = some (.inr (.inr (.inr (10, mO n0 n2 n14 n15 n16 n17 n18 n19 n20 n21 n22 n23 n27 n28 n32 n33 n34 n35 n39 n52))))) (hI : mIv h h wn kn lo hi sv sq wy nw n0 n2 n14 n15 n16 n17 n18 n19 n20 n21 n22 n23 n27 n28 n32 n33 n39 n52 am9)  : wq 267 0 [(0, .ref 162), (1, .int 0)] [] h 0 0 (fun r => ∃ v h2, r = (some (.int v), h2, 0, 0) ∧ mIv h h2 wn kn lo hi sv sq wy nw 0 n2 n14 n15 n16 n17 n18 n19 n20 n21 n22 n23 n27 n28 n32 n33 n39 n52 am9) := by
  have hI0 := hI
  obtain ⟨_, _, fo9, sm9, hr9, tk9, hT9, hS9, hP9, hF9, hN9, hb9, hR9, hK9⟩ := hI0
  have hKn9 := hT9.1
  have tf9 := hT9.2.2.2.2.2.2
  have hkn := tf9.1
  have hw10 := tf9.2.1
  have hbl9 := tf9.2.2.2.1
  have z0 : (0 : Int32).toInt = 0 := rfl
  have z1 : (1 : Int32).toInt = 1 := rfl
  have z5 : (5 : Int32).toInt = 5 := rfl
  have z6 : (6 : Int32).toInt = 6 := rfl
  have zm1 : (-1 : Int32).toInt = -1 := rfl
  have z3 : (3 : Int32).toInt = 3 := rfl
  have z2 : (2 : Int32).toInt = 2 := rfl
  have z20 : (20 : Int32).toInt = 20 := rfl
  have zn99 : (99 : Int32).toInt = 99 := rfl
  have qwn := nI_toInt (n := wn) (by omega)
  refine wq_gos (f := 1) (pc2 := 2) (ls2 := [(0, .ref 162), (1, .int 0)]) (st2 := [.int 0, .ref 162]) (h2 := h) (dc2 := 0) (ds2 := 0) 2 rfl ?_
  refine wq_putf rfl hM rfl rfl rfl ?_
  intro hh1x e2x ff3x lh4x
  have e2x : zat hh1x 162 = some (.inr (.inr (.inr (10, mO (0 : Int32) n2 n14 n15 n16 n17 n18 n19 n20 n21 n22 n23 n27 n28 n32 n33 n34 n35 n39 n52)))) := e2x
  refine wq_gos (f := 1) (pc2 := 7) (ls2 := [(0, .ref 162), (1, .int 0)]) (st2 := [.int 0, .ref 162]) (h2 := hh1x) (dc2 := 0) (ds2 := 0) 2 rfl ?_
  refine wq_inlv (y2 := 250) (as := [.int 0]) rfl rfl rfl e2x rfl ?_
  show wq 250 0 [(0, .ref 162), (1, .int 0)] [] hh1x 0 0 _
  refine wq_gos (f := 1) (pc2 := 10) (ls2 := [(0, .ref 162), (1, .int 0)]) (st2 := [.int 0, .ref 162]) (h2 := hh1x) (dc2 := 0) (ds2 := 0) 4 rfl ?_
  refine wq_inlv (y2 := 249) (as := [.int 0]) rfl rfl rfl e2x rfl (m_use0 e2x (mIv_0 hI ff3x (by omega) e2x) ?_ ?_)
  · intro h85x m345x m355x ri5x pa5x ch5x co5x tk5x th5x f85x l85x c05x c15x c25x c35x c45x c55x c65x c75x p05x p15x
    show wq 250 13 [(0, .ref 162), (1, .int 0)] [] h85x 0 0 _
    refine wq_gos (f := 1) (pc2 := 14) (ls2 := [(0, .ref 162), (1, .int 0)]) (st2 := [.ref 162]) (h2 := h85x) (dc2 := 0) (ds2 := 0) 1 rfl ?_
    refine wq_getf rfl c05x rfl rfl ?_
    refine wq_gos (f := 1) (pc2 := 26) (ls2 := [(0, .ref 162), (1, .int 0)]) (st2 := [.int 0, .ref 210]) (h2 := h85x) (dc2 := 0) (ds2 := 0) 3 rfl ?_
    have q6x : (0 : Int32).toInt = 0 := rfl
    refine wq_iald rfl c25x rfl rfl ?_
    refine wq_ret rfl rfl ?_
    show wq 267 10 [(0, .ref 162), (1, .int 0)] [.int (ri5x.getD 0 0)] h85x 0 0 _
    refine wq_gos (f := 1) (pc2 := 12) (ls2 := [(2, .int (ri5x.getD 0 0)), (0, .ref 162), (1, .int 0)]) (st2 := [.int (ri5x.getD 0 0)]) (h2 := h85x) (dc2 := 0) (ds2 := 0) 2 rfl ?_
    refine wq_ge0f rfl rfl (by omega) ?_
    refine wq_gos (f := 1) (pc2 := 16) (ls2 := [(2, .int (ri5x.getD 0 0)), (0, .ref 162), (1, .int 0)]) (st2 := [.int (ri5x.getD 0 0)]) (h2 := h85x) (dc2 := 0) (ds2 := 0) 1 rfl ?_
    exact wq_ret rfl rfl ⟨_, h85x, rfl, p15x⟩
  · intro h87x m347x m357x ri7x pa7x ch7x co7x tk7x th7x T97x f87x l87x c07x c17x c27x c37x c47x c57x c67x c77x p07x p17x p27x p37x p47x
    have qT9 := nI_toInt (n := T97x) (by omega)
    show wq 250 13 [(0, .ref 162), (1, .int 0)] [] h87x 0 0 _
    refine wq_gos (f := 1) (pc2 := 14) (ls2 := [(0, .ref 162), (1, .int 0)]) (st2 := [.ref 162]) (h2 := h87x) (dc2 := 0) (ds2 := 0) 1 rfl ?_
    refine wq_getf rfl c07x rfl rfl ?_
    refine wq_gos (f := 1) (pc2 := 26) (ls2 := [(0, .ref 162), (1, .int 0)]) (st2 := [.int 0, .ref 210]) (h2 := h87x) (dc2 := 0) (ds2 := 0) 3 rfl ?_
    have q8x : (0 : Int32).toInt = 0 := rfl
    refine wq_iald rfl c27x rfl rfl ?_
    refine wq_vi p07x ?_
    refine wq_ret rfl rfl ?_
    show wq 267 10 [(0, .ref 162), (1, .int 0)] [.int (nI T97x)] h87x 0 0 _
    refine wq_gos (f := 1) (pc2 := 12) (ls2 := [(2, .int (nI T97x)), (0, .ref 162), (1, .int 0)]) (st2 := [.int (nI T97x)]) (h2 := h87x) (dc2 := 0) (ds2 := 0) 2 rfl ?_
    try have q9x := nI_toInt (n := T97x) (by omega)
    refine wq_ge0t rfl (by omega) ?_
    refine wq_gos (f := 1) (pc2 := 22) (ls2 := [(4, .int 1), (3, .int 0), (2, .int (nI T97x)), (0, .ref 162), (1, .int 0)]) (st2 := []) (h2 := h87x) (dc2 := 0) (ds2 := 0) 4 rfl ?_
    refine wq_ls [(0, .ref 162), (1, .int 0), (2, .int (nI T97x)), (3, .int 0), (4, .int (nI 1))] (show ([0, 1, 2, 3, 4] : List Nat).Nodup by decide) ⟨rfl, rfl, rfl, rfl, rfl, trivial⟩ ?_
    refine wq_mono (m_slL0 ⟨hkn, hw10⟩ (by first | assumption | omega | decide | solve_by_elim) ((T97x + 1 - 1) + 1) (0 : Int32) 1 tk7x h87x c07x c17x c37x c57x c67x (by first | assumption | omega | decide | solve_by_elim) (by omega) 0 0) ?_
    rintro _ ⟨h812x, rfl, f812x, l812x, c012x⟩
    obtain ⟨v10x, hv11x⟩ : ∃ x, x = (mslF0 pa7x co7x wn T97x ((T97x + 1 - 1) + 1) (0 : Int32) 1 tk7x) := ⟨_, rfl⟩
    try rw [← hv11x] at c012x
    try rw [← hv11x]
    have e13x := (f812x.2 _ _ (wnc (by decide) wn0) c77x)
    exact ⟨_, h812x, rfl, (mIv_w p47x (wFr_sub f812x (by simp)) (by omega) c012x e13x)⟩
set_option maxRecDepth 100000 in
set_option maxHeartbeats 4000000 in
theorem m_o268_0 {h : zH} {wn : Nat} {kn lo hi sv sq wy nw : List Int32} {n0 n2 n14 n15 n16 n17 n18 n19 n20 n21 n22 n23 n27 n28 n32 n33 n34 n35 n39 n52 : Int32} {am9 : mS}  (hM : zat h 162 = some (.inr (.inr (.inr (10, mO n0 n2 n14 n15 n16 n17 n18 n19 n20 n21 n22 n23 n27 n28 n32 n33 n34 n35 n39 n52))))) (hI : mIv h h wn kn lo hi sv sq wy nw n0 n2 n14 n15 n16 n17 n18 n19 n20 n21 n22 n23 n27 n28 n32 n33 n39 n52 am9)  : wq 268 0 [(0, .ref 162), (1, .int 0)] [] h 0 0 (fun r => ∃ v h2, r = (some (.int v), h2, 0, 0) ∧ mIv h h2 wn kn lo hi sv sq wy nw 0 n2 n14 n15 n16 n17 n18 n19 n20 n21 n22 n23 n27 n28 n32 n33 n39 n52 am9) := by
  have hI0 := hI
  obtain ⟨_, _, fo9, sm9, hr9, tk9, hT9, hS9, hP9, hF9, hN9, hb9, hR9, hK9⟩ := hI0
  have hKn9 := hT9.1
  have tf9 := hT9.2.2.2.2.2.2
  have hkn := tf9.1
  have hw10 := tf9.2.1
  have hbl9 := tf9.2.2.2.1
  have z0 : (0 : Int32).toInt = 0 := rfl
  have z1 : (1 : Int32).toInt = 1 := rfl
  have z5 : (5 : Int32).toInt = 5 := rfl
  have z6 : (6 : Int32).toInt = 6 := rfl
  have zm1 : (-1 : Int32).toInt = -1 := rfl
  have z3 : (3 : Int32).toInt = 3 := rfl
  have z2 : (2 : Int32).toInt = 2 := rfl
  have z20 : (20 : Int32).toInt = 20 := rfl
  have zn99 : (99 : Int32).toInt = 99 := rfl
  have qwn := nI_toInt (n := wn) (by omega)
  refine wq_gos (f := 1) (pc2 := 2) (ls2 := [(0, .ref 162), (1, .int 0)]) (st2 := [.int 0, .ref 162]) (h2 := h) (dc2 := 0) (ds2 := 0) 2 rfl ?_
  refine wq_putf rfl hM rfl rfl rfl ?_
  intro hh1x e2x ff3x lh4x
  have e2x : zat hh1x 162 = some (.inr (.inr (.inr (10, mO (0 : Int32) n2 n14 n15 n16 n17 n18 n19 n20 n21 n22 n23 n27 n28 n32 n33 n34 n35 n39 n52)))) := e2x
  refine wq_gos (f := 1) (pc2 := 7) (ls2 := [(0, .ref 162), (1, .int 0)]) (st2 := [.int 0, .ref 162]) (h2 := hh1x) (dc2 := 0) (ds2 := 0) 2 rfl ?_
  refine wq_inlv (y2 := 250) (as := [.int 0]) rfl rfl rfl e2x rfl ?_
  show wq 250 0 [(0, .ref 162), (1, .int 0)] [] hh1x 0 0 _
  refine wq_gos (f := 1) (pc2 := 10) (ls2 := [(0, .ref 162), (1, .int 0)]) (st2 := [.int 0, .ref 162]) (h2 := hh1x) (dc2 := 0) (ds2 := 0) 4 rfl ?_
  refine wq_inlv (y2 := 249) (as := [.int 0]) rfl rfl rfl e2x rfl (m_use0 e2x (mIv_0 hI ff3x (by omega) e2x) ?_ ?_)
  · intro h85x m345x m355x ri5x pa5x ch5x co5x tk5x th5x f85x l85x c05x c15x c25x c35x c45x c55x c65x c75x p05x p15x
    show wq 250 13 [(0, .ref 162), (1, .int 0)] [] h85x 0 0 _
    refine wq_gos (f := 1) (pc2 := 14) (ls2 := [(0, .ref 162), (1, .int 0)]) (st2 := [.ref 162]) (h2 := h85x) (dc2 := 0) (ds2 := 0) 1 rfl ?_
    refine wq_getf rfl c05x rfl rfl ?_
    refine wq_gos (f := 1) (pc2 := 26) (ls2 := [(0, .ref 162), (1, .int 0)]) (st2 := [.int 0, .ref 210]) (h2 := h85x) (dc2 := 0) (ds2 := 0) 3 rfl ?_
    have q6x : (0 : Int32).toInt = 0 := rfl
    refine wq_iald rfl c25x rfl rfl ?_
    refine wq_ret rfl rfl ?_
    show wq 268 10 [(0, .ref 162), (1, .int 0)] [.int (ri5x.getD 0 0)] h85x 0 0 _
    refine wq_gos (f := 1) (pc2 := 12) (ls2 := [(2, .int (ri5x.getD 0 0)), (0, .ref 162), (1, .int 0)]) (st2 := [.int (ri5x.getD 0 0)]) (h2 := h85x) (dc2 := 0) (ds2 := 0) 2 rfl ?_
    refine wq_ge0f rfl rfl (by omega) ?_
    refine wq_gos (f := 1) (pc2 := 16) (ls2 := [(2, .int (ri5x.getD 0 0)), (0, .ref 162), (1, .int 0)]) (st2 := [.int (ri5x.getD 0 0)]) (h2 := h85x) (dc2 := 0) (ds2 := 0) 1 rfl ?_
    exact wq_ret rfl rfl ⟨_, h85x, rfl, p15x⟩
  · intro h87x m347x m357x ri7x pa7x ch7x co7x tk7x th7x T97x f87x l87x c07x c17x c27x c37x c47x c57x c67x c77x p07x p17x p27x p37x p47x
    have qT9 := nI_toInt (n := T97x) (by omega)
    show wq 250 13 [(0, .ref 162), (1, .int 0)] [] h87x 0 0 _
    refine wq_gos (f := 1) (pc2 := 14) (ls2 := [(0, .ref 162), (1, .int 0)]) (st2 := [.ref 162]) (h2 := h87x) (dc2 := 0) (ds2 := 0) 1 rfl ?_
    refine wq_getf rfl c07x rfl rfl ?_
    refine wq_gos (f := 1) (pc2 := 26) (ls2 := [(0, .ref 162), (1, .int 0)]) (st2 := [.int 0, .ref 210]) (h2 := h87x) (dc2 := 0) (ds2 := 0) 3 rfl ?_
    have q8x : (0 : Int32).toInt = 0 := rfl
    refine wq_iald rfl c27x rfl rfl ?_
    refine wq_vi p07x ?_
    refine wq_ret rfl rfl ?_
    show wq 268 10 [(0, .ref 162), (1, .int 0)] [.int (nI T97x)] h87x 0 0 _
    refine wq_gos (f := 1) (pc2 := 12) (ls2 := [(2, .int (nI T97x)), (0, .ref 162), (1, .int 0)]) (st2 := [.int (nI T97x)]) (h2 := h87x) (dc2 := 0) (ds2 := 0) 2 rfl ?_
    try have q9x := nI_toInt (n := T97x) (by omega)
    refine wq_ge0t rfl (by omega) ?_
    refine wq_gos (f := 1) (pc2 := 24) (ls2 := [(4, .int 0), (3, .int 1000000), (2, .int (nI T97x)), (0, .ref 162), (1, .int 0)]) (st2 := []) (h2 := h87x) (dc2 := 0) (ds2 := 0) 4 rfl ?_
    refine wq_ls [(0, .ref 162), (1, .int 0), (2, .int (nI T97x)), (3, .int 1000000), (4, .int (nI 0))] (show ([0, 1, 2, 3, 4] : List Nat).Nodup by decide) ⟨rfl, rfl, rfl, rfl, rfl, trivial⟩ ?_
    refine wq_mono (m_cleL0 ⟨hkn, hw10⟩ (by first | assumption | omega | decide | solve_by_elim) ((T97x + 1 - 0) + 1) (1000000 : Int32) 0 tk7x h87x c07x c17x c37x c57x c67x (by first | assumption | omega | decide | solve_by_elim) (by omega) 0 0) ?_
    rintro _ ⟨h812x, rfl, f812x, l812x, c012x⟩
    obtain ⟨v10x, hv11x⟩ : ∃ x, x = (mcleF0 pa7x co7x wn T97x ((T97x + 1 - 0) + 1) (1000000 : Int32) 0 tk7x) := ⟨_, rfl⟩
    try rw [← hv11x] at c012x
    try rw [← hv11x]
    have e13x := (f812x.2 _ _ (wnc (by decide) wn0) c77x)
    exact ⟨_, h812x, rfl, (mIv_w p47x (wFr_sub f812x (by simp)) (by omega) c012x e13x)⟩
noncomputable def mtuF1 (pa co : List Int32) (wn n : Nat) (w9 : Int32) : Nat → Int32 → Int32 → Nat → List Int32 → Int32 × List Int32
  | 0, _, _, _, tk => (0, tk)
  | m + 1, c, b, k, tk => (if (nI n).toInt < (nI k).toInt then (c, tk) else (if w9 ≠ (0 : Int32) then (if (mBen (mTick tk pa co wn 1 (nI k)) 0) ≠ b then (mtuF1 pa co wn n w9 m (c + (1 : Int32)) (mBen (mTick tk pa co wn 1 (nI k)) 0) (k + 1) (mTick tk pa co wn 1 (nI k))) else (mtuF1 pa co wn n w9 m (c + (0 : Int32)) (mBen (mTick tk pa co wn 1 (nI k)) 0) (k + 1) (mTick tk pa co wn 1 (nI k)))) else (if (mSid (mTick tk pa co wn 1 (nI k)) 0) ≠ b then (mtuF1 pa co wn n w9 m (c + (1 : Int32)) (mSid (mTick tk pa co wn 1 (nI k)) 0) (k + 1) (mTick tk pa co wn 1 (nI k))) else (mtuF1 pa co wn n w9 m (c + (0 : Int32)) (mSid (mTick tk pa co wn 1 (nI k)) 0) (k + 1) (mTick tk pa co wn 1 (nI k))))))
set_option maxRecDepth 100000 in
set_option maxHeartbeats 4000000 in
theorem m_tuL1 {n0 n2 n14 n15 n16 n17 n18 n19 n20 n21 n22 n23 n27 n28 n32 n33 n34 n35 n39 n52 : Int32} {kn pa co : List Int32} {wn : Nat} {n : Nat} {w9 : Int32} (hkw : kn.getD 6 0 = nI wn ∧ wn ≤ 10) (hn : n ≤ 30000) : ∀ (m : Nat) (c : Int32) (b : Int32) (k : Nat) (tk : List Int32) (h : zH) , (zat h 162 = some (.inr (.inr (.inr (10, mO n0 n2 n14 n15 n16 n17 n18 n19 n20 n21 n22 n23 n27 n28 n32 n33 n34 n35 n39 n52))))) → (zat h 166 = some (.inl (0, 14, kn))) → (zat h 214 = some (.inl (0, 132, pa))) → (zat h 218 = some (.inl (0, 22, co))) → (zat h 224 = some (.inl (0, 6, tk))) → (k ≤ n + 1) → (n + 1 - k) < m → ∀ (dc ds : Nat), wq 264 37 [(0, .ref 162), (1, .int 1), (2, .int (nI n)), (3, .int w9), (4, .int c), (5, .int b), (6, .int (nI k))] [] h dc ds (fun rr9 => ∃ (h2 : zH) , rr9 = (some (Value.int ((mtuF1 pa co wn n w9 m c b k tk).1)), h2, dc, ds) ∧ wFr [224] h h2 ∧ h2.length = h.length ∧ zat h2 224 = some (.inl (0, 6, ((mtuF1 pa co wn n w9 m c b k tk).2)))) := by
  intro m
  induction m with
  | zero => intro c b k tk h hM hK hPa hCo hTk hk hms dc ds; omega
  | succ m ih =>
    intro c b k tk h hM hK hPa hCo hTk hk hms dc ds
    have qnk := nI_toInt (n := k) (by omega)
    have qnn := nI_toInt (n := n) (by omega)
    refine wq_gos (f := 1) (pc2 := 40) (ls2 := [(0, .ref 162), (1, .int 1), (2, .int (nI n)), (3, .int w9), (4, .int c), (5, .int b), (6, .int (nI k))]) (st2 := [.int (nI n), .int (nI k)]) (h2 := h) (dc2 := dc) (ds2 := ds) 2 rfl ?_
    try have q1x := nI_toInt (n := k) (by omega)
    try have q2x := nI_toInt (n := n) (by omega)
    refine wq_gt2 rfl rfl (fun b3x => ?_) (fun b3x => ?_)
    · refine wq_gos (f := 1) (pc2 := 104) (ls2 := [(0, .ref 162), (1, .int 1), (2, .int (nI n)), (3, .int w9), (4, .int c), (5, .int b), (6, .int (nI k))]) (st2 := [.int c]) (h2 := h) (dc2 := dc) (ds2 := ds) 1 rfl ?_
      have hx : (mtuF1 pa co wn n w9 (m + 1) c b k tk) = (c, tk) := by show (if _ then _ else _) = _; rw [if_pos b3x]
      rw [hx]
      exact wq_ret rfl rfl ⟨h, rfl, (wFr_rf _ _), by omega, hTk⟩
    · refine wq_gos (f := 1) (pc2 := 47) (ls2 := [(0, .ref 162), (1, .int 1), (2, .int (nI n)), (3, .int w9), (4, .int c), (5, .int b), (6, .int (nI k))]) (st2 := [.int (nI k), .int 1, .ref 162]) (h2 := h) (dc2 := dc) (ds2 := ds) 3 rfl ?_
      have q4x : (1 : Int32).toInt = 1 := rfl
      refine wq_inlv (y2 := 262) (as := [.int 1, .int (nI k)]) rfl rfl rfl hM rfl (wq_mono (m_lt (r := 1) hM hK hPa hCo hTk ⟨hkw.1, hkw.2, by decide⟩) ?_)
      rintro _ ⟨h85x, rfl, f85x, l85x, c05x⟩
      show wq 264 50 [(0, .ref 162), (1, .int 1), (2, .int (nI n)), (3, .int w9), (4, .int c), (5, .int b), (6, .int (nI k))] [] h85x dc ds _
      refine wq_gos (f := 1) (pc2 := 51) (ls2 := [(0, .ref 162), (1, .int 1), (2, .int (nI n)), (3, .int w9), (4, .int c), (5, .int b), (6, .int (nI k))]) (st2 := [.int w9]) (h2 := h85x) (dc2 := dc) (ds2 := ds) 1 rfl ?_
      refine wq_ne0 rfl rfl (fun b6x => ?_) (fun b6x => ?_)
      · have q7x : w9.toInt ≠ 0 := fun q => b6x (Int32.toInt_inj.mp q)
        refine wq_gos (f := 1) (pc2 := 66) (ls2 := [(0, .ref 162), (1, .int 1), (2, .int (nI n)), (3, .int w9), (4, .int c), (5, .int b), (6, .int (nI k))]) (st2 := [.ref 162]) (h2 := h85x) (dc2 := dc) (ds2 := ds) 1 rfl ?_
        have e8x := (f85x.2 _ _ (wnc (by decide) wn0) hM)
        refine wq_getf rfl e8x rfl rfl ?_
        refine wq_gos (f := 1) (pc2 := 70) (ls2 := [(0, .ref 162), (1, .int 1), (2, .int (nI n)), (3, .int w9), (4, .int c), (5, .int b), (6, .int (nI k))]) (st2 := [.int 0, .ref 224]) (h2 := h85x) (dc2 := dc) (ds2 := ds) 1 rfl ?_
        have q9x : (0 : Int32).toInt = 0 := rfl
        refine wq_inl (y2 := 205) (as := [.ref 224, .int 0]) rfl rfl rfl (wq_mono (m_bendv (k := 0) c05x (by decide)) ?_)
        rintro _ rfl
        show wq 264 73 [(0, .ref 162), (1, .int 1), (2, .int (nI n)), (3, .int w9), (4, .int c), (5, .int b), (6, .int (nI k))] [.int (mBen (mTick tk pa co wn 1 (nI k)) 0)] h85x dc ds _
        refine wq_gos (f := 1) (pc2 := 81) (ls2 := [(7, .int (mBen (mTick tk pa co wn 1 (nI k)) 0)), (0, .ref 162), (1, .int 1), (2, .int (nI n)), (3, .int w9), (4, .int c), (5, .int b), (6, .int (nI k))]) (st2 := [.int b, .int (mBen (mTick tk pa co wn 1 (nI k)) 0), .int c]) (h2 := h85x) (dc2 := dc) (ds2 := ds) 4 rfl ?_
        refine wq_ne2 rfl rfl (fun b11x => ?_) (fun b11x => ?_)
        · have q12x : (mBen (mTick tk pa co wn 1 (nI k)) 0).toInt ≠ b.toInt := fun q => b11x (Int32.toInt_inj.mp q)
          refine wq_gos (f := 1) (pc2 := 99) (ls2 := [(6, .int ((nI k) + 1)), (5, .int (mBen (mTick tk pa co wn 1 (nI k)) 0)), (4, .int (c + (1 : Int32))), (7, .int (mBen (mTick tk pa co wn 1 (nI k)) 0)), (0, .ref 162), (1, .int 1), (2, .int (nI n)), (3, .int w9)]) (st2 := []) (h2 := h85x) (dc2 := dc) (ds2 := ds) 6 rfl ?_
          rw [nI_1]
          refine wq_gos (f := 1) (pc2 := 37) (ls2 := [(6, .int (nI (k + 1))), (5, .int (mBen (mTick tk pa co wn 1 (nI k)) 0)), (4, .int (c + (1 : Int32))), (7, .int (mBen (mTick tk pa co wn 1 (nI k)) 0)), (0, .ref 162), (1, .int 1), (2, .int (nI n)), (3, .int w9)]) (st2 := []) (h2 := h85x) (dc2 := dc) (ds2 := ds) 1 rfl ?_
          try have q13x := nI_toInt (n := (k + 1)) (by omega)
          try have q14x : ((c + (1 : Int32))).toInt = c.toInt + (1 : Int32).toInt := e_add (by omega) (by omega)
          have e15x := (f85x.2 _ _ (wnc (by decide) wn0) hK)
          have e16x := (f85x.2 _ _ (wnc (by decide) wn0) hPa)
          have e17x := (f85x.2 _ _ (wnc (by decide) wn0) hCo)
          have hx : (mtuF1 pa co wn n w9 (m + 1) c b k tk) = (mtuF1 pa co wn n w9 m (c + (1 : Int32)) (mBen (mTick tk pa co wn 1 (nI k)) 0) (k + 1) (mTick tk pa co wn 1 (nI k))) := by show (if _ then _ else _) = _; rw [if_neg (Int.not_lt.mpr b3x), if_pos b6x, if_pos b11x]
          rw [hx]
          refine wq_ls [(0, .ref 162), (1, .int 1), (2, .int (nI n)), (3, .int w9), (4, .int (c + (1 : Int32))), (5, .int (mBen (mTick tk pa co wn 1 (nI k)) 0)), (6, .int (nI (k + 1)))] (show ([0, 1, 2, 3, 4, 5, 6] : List Nat).Nodup by decide) ⟨rfl, rfl, rfl, rfl, rfl, rfl, rfl, trivial⟩ ?_
          refine wq_mono (ih (c + (1 : Int32)) (mBen (mTick tk pa co wn 1 (nI k)) 0) (k + 1) (mTick tk pa co wn 1 (nI k)) h85x e8x e15x e16x e17x c05x (by first | assumption | omega | decide | solve_by_elim) (by omega) dc ds) ?_
          rintro _ ⟨h9, rfl, f9, l9, y0⟩
          exact ⟨h9, rfl, wFr_tr (wFr_sub f85x (by simp)) f9, by omega, y0⟩
        · have q18x : (mBen (mTick tk pa co wn 1 (nI k)) 0).toInt = b.toInt := congrArg Int32.toInt b11x
          refine wq_gos (f := 1) (pc2 := 99) (ls2 := [(6, .int ((nI k) + 1)), (5, .int (mBen (mTick tk pa co wn 1 (nI k)) 0)), (4, .int (c + (0 : Int32))), (7, .int (mBen (mTick tk pa co wn 1 (nI k)) 0)), (0, .ref 162), (1, .int 1), (2, .int (nI n)), (3, .int w9)]) (st2 := []) (h2 := h85x) (dc2 := dc) (ds2 := ds) 7 rfl ?_
          rw [nI_1]
          refine wq_gos (f := 1) (pc2 := 37) (ls2 := [(6, .int (nI (k + 1))), (5, .int (mBen (mTick tk pa co wn 1 (nI k)) 0)), (4, .int (c + (0 : Int32))), (7, .int (mBen (mTick tk pa co wn 1 (nI k)) 0)), (0, .ref 162), (1, .int 1), (2, .int (nI n)), (3, .int w9)]) (st2 := []) (h2 := h85x) (dc2 := dc) (ds2 := ds) 1 rfl ?_
          try have q19x := nI_toInt (n := (k + 1)) (by omega)
          try have q20x : ((c + (0 : Int32))).toInt = c.toInt + (0 : Int32).toInt := e_add (by omega) (by omega)
          have e21x := (f85x.2 _ _ (wnc (by decide) wn0) hK)
          have e22x := (f85x.2 _ _ (wnc (by decide) wn0) hPa)
          have e23x := (f85x.2 _ _ (wnc (by decide) wn0) hCo)
          have hx : (mtuF1 pa co wn n w9 (m + 1) c b k tk) = (mtuF1 pa co wn n w9 m (c + (0 : Int32)) (mBen (mTick tk pa co wn 1 (nI k)) 0) (k + 1) (mTick tk pa co wn 1 (nI k))) := by show (if _ then _ else _) = _; rw [if_neg (Int.not_lt.mpr b3x), if_pos b6x, if_neg (fun q => q b11x)]
          rw [hx]
          refine wq_ls [(0, .ref 162), (1, .int 1), (2, .int (nI n)), (3, .int w9), (4, .int (c + (0 : Int32))), (5, .int (mBen (mTick tk pa co wn 1 (nI k)) 0)), (6, .int (nI (k + 1)))] (show ([0, 1, 2, 3, 4, 5, 6] : List Nat).Nodup by decide) ⟨rfl, rfl, rfl, rfl, rfl, rfl, rfl, trivial⟩ ?_
          refine wq_mono (ih (c + (0 : Int32)) (mBen (mTick tk pa co wn 1 (nI k)) 0) (k + 1) (mTick tk pa co wn 1 (nI k)) h85x e8x e21x e22x e23x c05x (by first | assumption | omega | decide | solve_by_elim) (by omega) dc ds) ?_
          rintro _ ⟨h9, rfl, f9, l9, y0⟩
          exact ⟨h9, rfl, wFr_tr (wFr_sub f85x (by simp)) f9, by omega, y0⟩
      · have q24x : w9.toInt = 0 := congrArg Int32.toInt b6x
        refine wq_gos (f := 1) (pc2 := 55) (ls2 := [(0, .ref 162), (1, .int 1), (2, .int (nI n)), (3, .int w9), (4, .int c), (5, .int b), (6, .int (nI k))]) (st2 := [.ref 162]) (h2 := h85x) (dc2 := dc) (ds2 := ds) 1 rfl ?_
        have e25x := (f85x.2 _ _ (wnc (by decide) wn0) hM)
        refine wq_getf rfl e25x rfl rfl ?_
        refine wq_gos (f := 1) (pc2 := 59) (ls2 := [(0, .ref 162), (1, .int 1), (2, .int (nI n)), (3, .int w9), (4, .int c), (5, .int b), (6, .int (nI k))]) (st2 := [.int 0, .ref 224]) (h2 := h85x) (dc2 := dc) (ds2 := ds) 1 rfl ?_
        have q26x : (0 : Int32).toInt = 0 := rfl
        refine wq_inl (y2 := 204) (as := [.ref 224, .int 0]) rfl rfl rfl (wq_mono (m_sidev (k := 0) c05x (by decide)) ?_)
        rintro _ rfl
        show wq 264 62 [(0, .ref 162), (1, .int 1), (2, .int (nI n)), (3, .int w9), (4, .int c), (5, .int b), (6, .int (nI k))] [.int (mSid (mTick tk pa co wn 1 (nI k)) 0)] h85x dc ds _
        refine wq_gos (f := 1) (pc2 := 81) (ls2 := [(7, .int (mSid (mTick tk pa co wn 1 (nI k)) 0)), (0, .ref 162), (1, .int 1), (2, .int (nI n)), (3, .int w9), (4, .int c), (5, .int b), (6, .int (nI k))]) (st2 := [.int b, .int (mSid (mTick tk pa co wn 1 (nI k)) 0), .int c]) (h2 := h85x) (dc2 := dc) (ds2 := ds) 5 rfl ?_
        refine wq_ne2 rfl rfl (fun b28x => ?_) (fun b28x => ?_)
        · have q29x : (mSid (mTick tk pa co wn 1 (nI k)) 0).toInt ≠ b.toInt := fun q => b28x (Int32.toInt_inj.mp q)
          refine wq_gos (f := 1) (pc2 := 99) (ls2 := [(6, .int ((nI k) + 1)), (5, .int (mSid (mTick tk pa co wn 1 (nI k)) 0)), (4, .int (c + (1 : Int32))), (7, .int (mSid (mTick tk pa co wn 1 (nI k)) 0)), (0, .ref 162), (1, .int 1), (2, .int (nI n)), (3, .int w9)]) (st2 := []) (h2 := h85x) (dc2 := dc) (ds2 := ds) 6 rfl ?_
          rw [nI_1]
          refine wq_gos (f := 1) (pc2 := 37) (ls2 := [(6, .int (nI (k + 1))), (5, .int (mSid (mTick tk pa co wn 1 (nI k)) 0)), (4, .int (c + (1 : Int32))), (7, .int (mSid (mTick tk pa co wn 1 (nI k)) 0)), (0, .ref 162), (1, .int 1), (2, .int (nI n)), (3, .int w9)]) (st2 := []) (h2 := h85x) (dc2 := dc) (ds2 := ds) 1 rfl ?_
          try have q30x := nI_toInt (n := (k + 1)) (by omega)
          try have q31x : ((c + (1 : Int32))).toInt = c.toInt + (1 : Int32).toInt := e_add (by omega) (by omega)
          have e32x := (f85x.2 _ _ (wnc (by decide) wn0) hK)
          have e33x := (f85x.2 _ _ (wnc (by decide) wn0) hPa)
          have e34x := (f85x.2 _ _ (wnc (by decide) wn0) hCo)
          have hx : (mtuF1 pa co wn n w9 (m + 1) c b k tk) = (mtuF1 pa co wn n w9 m (c + (1 : Int32)) (mSid (mTick tk pa co wn 1 (nI k)) 0) (k + 1) (mTick tk pa co wn 1 (nI k))) := by show (if _ then _ else _) = _; rw [if_neg (Int.not_lt.mpr b3x), if_neg (fun q => q b6x), if_pos b28x]
          rw [hx]
          refine wq_ls [(0, .ref 162), (1, .int 1), (2, .int (nI n)), (3, .int w9), (4, .int (c + (1 : Int32))), (5, .int (mSid (mTick tk pa co wn 1 (nI k)) 0)), (6, .int (nI (k + 1)))] (show ([0, 1, 2, 3, 4, 5, 6] : List Nat).Nodup by decide) ⟨rfl, rfl, rfl, rfl, rfl, rfl, rfl, trivial⟩ ?_
          refine wq_mono (ih (c + (1 : Int32)) (mSid (mTick tk pa co wn 1 (nI k)) 0) (k + 1) (mTick tk pa co wn 1 (nI k)) h85x e25x e32x e33x e34x c05x (by first | assumption | omega | decide | solve_by_elim) (by omega) dc ds) ?_
          rintro _ ⟨h9, rfl, f9, l9, y0⟩
          exact ⟨h9, rfl, wFr_tr (wFr_sub f85x (by simp)) f9, by omega, y0⟩
        · have q35x : (mSid (mTick tk pa co wn 1 (nI k)) 0).toInt = b.toInt := congrArg Int32.toInt b28x
          refine wq_gos (f := 1) (pc2 := 99) (ls2 := [(6, .int ((nI k) + 1)), (5, .int (mSid (mTick tk pa co wn 1 (nI k)) 0)), (4, .int (c + (0 : Int32))), (7, .int (mSid (mTick tk pa co wn 1 (nI k)) 0)), (0, .ref 162), (1, .int 1), (2, .int (nI n)), (3, .int w9)]) (st2 := []) (h2 := h85x) (dc2 := dc) (ds2 := ds) 7 rfl ?_
          rw [nI_1]
          refine wq_gos (f := 1) (pc2 := 37) (ls2 := [(6, .int (nI (k + 1))), (5, .int (mSid (mTick tk pa co wn 1 (nI k)) 0)), (4, .int (c + (0 : Int32))), (7, .int (mSid (mTick tk pa co wn 1 (nI k)) 0)), (0, .ref 162), (1, .int 1), (2, .int (nI n)), (3, .int w9)]) (st2 := []) (h2 := h85x) (dc2 := dc) (ds2 := ds) 1 rfl ?_
          try have q36x := nI_toInt (n := (k + 1)) (by omega)
          try have q37x : ((c + (0 : Int32))).toInt = c.toInt + (0 : Int32).toInt := e_add (by omega) (by omega)
          have e38x := (f85x.2 _ _ (wnc (by decide) wn0) hK)
          have e39x := (f85x.2 _ _ (wnc (by decide) wn0) hPa)
          have e40x := (f85x.2 _ _ (wnc (by decide) wn0) hCo)
          have hx : (mtuF1 pa co wn n w9 (m + 1) c b k tk) = (mtuF1 pa co wn n w9 m (c + (0 : Int32)) (mSid (mTick tk pa co wn 1 (nI k)) 0) (k + 1) (mTick tk pa co wn 1 (nI k))) := by show (if _ then _ else _) = _; rw [if_neg (Int.not_lt.mpr b3x), if_neg (fun q => q b6x), if_neg (fun q => q b28x)]
          rw [hx]
          refine wq_ls [(0, .ref 162), (1, .int 1), (2, .int (nI n)), (3, .int w9), (4, .int (c + (0 : Int32))), (5, .int (mSid (mTick tk pa co wn 1 (nI k)) 0)), (6, .int (nI (k + 1)))] (show ([0, 1, 2, 3, 4, 5, 6] : List Nat).Nodup by decide) ⟨rfl, rfl, rfl, rfl, rfl, rfl, rfl, trivial⟩ ?_
          refine wq_mono (ih (c + (0 : Int32)) (mSid (mTick tk pa co wn 1 (nI k)) 0) (k + 1) (mTick tk pa co wn 1 (nI k)) h85x e25x e38x e39x e40x c05x (by first | assumption | omega | decide | solve_by_elim) (by omega) dc ds) ?_
          rintro _ ⟨h9, rfl, f9, l9, y0⟩
          exact ⟨h9, rfl, wFr_tr (wFr_sub f85x (by simp)) f9, by omega, y0⟩
set_option maxRecDepth 100000 in
set_option maxHeartbeats 4000000 in
theorem m_tu1 {h : zH} {n0 n2 n14 n15 n16 n17 n18 n19 n20 n21 n22 n23 n27 n28 n32 n33 n34 n35 n39 n52 : Int32} {kn pa co : List Int32} {wn : Nat} {n : Nat} {w9 : Int32} {tk : List Int32} (hM : zat h 162 = some (.inr (.inr (.inr (10, mO n0 n2 n14 n15 n16 n17 n18 n19 n20 n21 n22 n23 n27 n28 n32 n33 n34 n35 n39 n52))))) (hK : zat h 166 = some (.inl (0, 14, kn))) (hPa : zat h 214 = some (.inl (0, 132, pa))) (hCo : zat h 218 = some (.inl (0, 22, co))) (hTk : zat h 224 = some (.inl (0, 6, tk))) (hkw : kn.getD 6 0 = nI wn ∧ wn ≤ 10) (hn : n ≤ 30000) : wq 264 0 [(0, .ref 162), (1, .int 1), (2, .int (nI n)), (3, .int w9)] [] h 0 0 (fun rr9 => ∃ (h2 : zH) (v9 : Int32) (tk2 : List Int32), rr9 = (some (.int v9), h2, 0, 0) ∧ wFr [224] h h2 ∧ h2.length = h.length ∧ zat h2 224 = some (.inl (0, 6, tk2))) := by
  have qnn := nI_toInt (n := n) (by omega)
  refine wq_gos (f := 1) (pc2 := 6) (ls2 := [(4, .int 0), (0, .ref 162), (1, .int 1), (2, .int (nI n)), (3, .int w9)]) (st2 := [.int 0, .int 1, .ref 162]) (h2 := h) (dc2 := 0) (ds2 := 0) 5 rfl ?_
  have q1x : (1 : Int32).toInt = 1 := rfl
  have q2x : (0 : Int32).toInt = 0 := rfl
  refine wq_inlv (y2 := 262) (as := [.int 1, .int 0]) rfl rfl rfl hM rfl (wq_mono (m_lt (r := 1) hM hK hPa hCo hTk ⟨hkw.1, hkw.2, by decide⟩) ?_)
  rintro _ ⟨h83x, rfl, f83x, l83x, c03x⟩
  show wq 264 9 [(4, .int 0), (0, .ref 162), (1, .int 1), (2, .int (nI n)), (3, .int w9)] [] h83x 0 0 _
  refine wq_gos (f := 1) (pc2 := 10) (ls2 := [(4, .int 0), (0, .ref 162), (1, .int 1), (2, .int (nI n)), (3, .int w9)]) (st2 := [.int w9]) (h2 := h83x) (dc2 := 0) (ds2 := 0) 1 rfl ?_
  refine wq_ne0 rfl rfl (fun b4x => ?_) (fun b4x => ?_)
  · have q5x : w9.toInt ≠ 0 := fun q => b4x (Int32.toInt_inj.mp q)
    refine wq_gos (f := 1) (pc2 := 25) (ls2 := [(4, .int 0), (0, .ref 162), (1, .int 1), (2, .int (nI n)), (3, .int w9)]) (st2 := [.ref 162]) (h2 := h83x) (dc2 := 0) (ds2 := 0) 1 rfl ?_
    have e6x := (f83x.2 _ _ (wnc (by decide) wn0) hM)
    refine wq_getf rfl e6x rfl rfl ?_
    refine wq_gos (f := 1) (pc2 := 29) (ls2 := [(4, .int 0), (0, .ref 162), (1, .int 1), (2, .int (nI n)), (3, .int w9)]) (st2 := [.int 0, .ref 224]) (h2 := h83x) (dc2 := 0) (ds2 := 0) 1 rfl ?_
    refine wq_inl (y2 := 205) (as := [.ref 224, .int 0]) rfl rfl rfl (wq_mono (m_bendv (k := 0) c03x (by decide)) ?_)
    rintro _ rfl
    show wq 264 32 [(4, .int 0), (0, .ref 162), (1, .int 1), (2, .int (nI n)), (3, .int w9)] [.int (mBen (mTick tk pa co wn 1 (0 : Int32)) 0)] h83x 0 0 _
    refine wq_gos (f := 1) (pc2 := 37) (ls2 := [(6, .int 1), (5, .int (mBen (mTick tk pa co wn 1 (0 : Int32)) 0)), (4, .int 0), (0, .ref 162), (1, .int 1), (2, .int (nI n)), (3, .int w9)]) (st2 := []) (h2 := h83x) (dc2 := 0) (ds2 := 0) 3 rfl ?_
    try have q8x := nI_toInt (n := n) (by omega)
    have e9x := (f83x.2 _ _ (wnc (by decide) wn0) hK)
    have e10x := (f83x.2 _ _ (wnc (by decide) wn0) hPa)
    have e11x := (f83x.2 _ _ (wnc (by decide) wn0) hCo)
    refine wq_ls [(0, .ref 162), (1, .int 1), (2, .int (nI n)), (3, .int w9), (4, .int 0), (5, .int (mBen (mTick tk pa co wn 1 (0 : Int32)) 0)), (6, .int (nI 1))] (show ([0, 1, 2, 3, 4, 5, 6] : List Nat).Nodup by decide) ⟨rfl, rfl, rfl, rfl, rfl, rfl, rfl, trivial⟩ ?_
    refine wq_mono (m_tuL1 (by first | assumption | omega | decide | solve_by_elim) (by first | assumption | omega | decide | solve_by_elim) ((n + 1 - 1) + 1) (0 : Int32) (mBen (mTick tk pa co wn 1 (0 : Int32)) 0) 1 (mTick tk pa co wn 1 (0 : Int32)) h83x e6x e9x e10x e11x c03x (by first | assumption | omega | decide | solve_by_elim) (by omega) 0 0) ?_
    rintro _ ⟨h814x, rfl, f814x, l814x, c014x⟩
    obtain ⟨v12x, hv13x⟩ : ∃ x, x = (mtuF1 pa co wn n w9 ((n + 1 - 1) + 1) (0 : Int32) (mBen (mTick tk pa co wn 1 (0 : Int32)) 0) 1 (mTick tk pa co wn 1 (0 : Int32))) := ⟨_, rfl⟩
    try rw [← hv13x] at c014x
    try rw [← hv13x]
    subst hv13x
    exact ⟨h814x, ((mtuF1 pa co wn n w9 ((n + 1 - 1) + 1) (0 : Int32) (mBen (mTick tk pa co wn 1 (0 : Int32)) 0) 1 (mTick tk pa co wn 1 (0 : Int32))).1), ((mtuF1 pa co wn n w9 ((n + 1 - 1) + 1) (0 : Int32) (mBen (mTick tk pa co wn 1 (0 : Int32)) 0) 1 (mTick tk pa co wn 1 (0 : Int32))).2), rfl, (wFr_tr (wFr_sub f83x (by simp)) (wFr_sub f814x (by simp))), (by omega), c014x⟩
  · have q15x : w9.toInt = 0 := congrArg Int32.toInt b4x
    refine wq_gos (f := 1) (pc2 := 14) (ls2 := [(4, .int 0), (0, .ref 162), (1, .int 1), (2, .int (nI n)), (3, .int w9)]) (st2 := [.ref 162]) (h2 := h83x) (dc2 := 0) (ds2 := 0) 1 rfl ?_
    have e16x := (f83x.2 _ _ (wnc (by decide) wn0) hM)
    refine wq_getf rfl e16x rfl rfl ?_
    refine wq_gos (f := 1) (pc2 := 18) (ls2 := [(4, .int 0), (0, .ref 162), (1, .int 1), (2, .int (nI n)), (3, .int w9)]) (st2 := [.int 0, .ref 224]) (h2 := h83x) (dc2 := 0) (ds2 := 0) 1 rfl ?_
    refine wq_inl (y2 := 204) (as := [.ref 224, .int 0]) rfl rfl rfl (wq_mono (m_sidev (k := 0) c03x (by decide)) ?_)
    rintro _ rfl
    show wq 264 21 [(4, .int 0), (0, .ref 162), (1, .int 1), (2, .int (nI n)), (3, .int w9)] [.int (mSid (mTick tk pa co wn 1 (0 : Int32)) 0)] h83x 0 0 _
    refine wq_gos (f := 1) (pc2 := 37) (ls2 := [(6, .int 1), (5, .int (mSid (mTick tk pa co wn 1 (0 : Int32)) 0)), (4, .int 0), (0, .ref 162), (1, .int 1), (2, .int (nI n)), (3, .int w9)]) (st2 := []) (h2 := h83x) (dc2 := 0) (ds2 := 0) 4 rfl ?_
    try have q18x := nI_toInt (n := n) (by omega)
    have e19x := (f83x.2 _ _ (wnc (by decide) wn0) hK)
    have e20x := (f83x.2 _ _ (wnc (by decide) wn0) hPa)
    have e21x := (f83x.2 _ _ (wnc (by decide) wn0) hCo)
    refine wq_ls [(0, .ref 162), (1, .int 1), (2, .int (nI n)), (3, .int w9), (4, .int 0), (5, .int (mSid (mTick tk pa co wn 1 (0 : Int32)) 0)), (6, .int (nI 1))] (show ([0, 1, 2, 3, 4, 5, 6] : List Nat).Nodup by decide) ⟨rfl, rfl, rfl, rfl, rfl, rfl, rfl, trivial⟩ ?_
    refine wq_mono (m_tuL1 (by first | assumption | omega | decide | solve_by_elim) (by first | assumption | omega | decide | solve_by_elim) ((n + 1 - 1) + 1) (0 : Int32) (mSid (mTick tk pa co wn 1 (0 : Int32)) 0) 1 (mTick tk pa co wn 1 (0 : Int32)) h83x e16x e19x e20x e21x c03x (by first | assumption | omega | decide | solve_by_elim) (by omega) 0 0) ?_
    rintro _ ⟨h824x, rfl, f824x, l824x, c024x⟩
    obtain ⟨v22x, hv23x⟩ : ∃ x, x = (mtuF1 pa co wn n w9 ((n + 1 - 1) + 1) (0 : Int32) (mSid (mTick tk pa co wn 1 (0 : Int32)) 0) 1 (mTick tk pa co wn 1 (0 : Int32))) := ⟨_, rfl⟩
    try rw [← hv23x] at c024x
    try rw [← hv23x]
    subst hv23x
    exact ⟨h824x, ((mtuF1 pa co wn n w9 ((n + 1 - 1) + 1) (0 : Int32) (mSid (mTick tk pa co wn 1 (0 : Int32)) 0) 1 (mTick tk pa co wn 1 (0 : Int32))).1), ((mtuF1 pa co wn n w9 ((n + 1 - 1) + 1) (0 : Int32) (mSid (mTick tk pa co wn 1 (0 : Int32)) 0) 1 (mTick tk pa co wn 1 (0 : Int32))).2), rfl, (wFr_tr (wFr_sub f83x (by simp)) (wFr_sub f824x (by simp))), (by omega), c024x⟩
noncomputable def mrbF1 (pa co : List Int32) (wn n : Nat) : Nat → Int32 → Int32 → Nat → Int32
  | 0, _, _, _ => 0
  | m + 1, c, b, k => (if (nI n).toInt < (nI k).toInt then c else (if (jsg ((mJA pa co wn 1 5 (nI k)) - (mJA pa co wn 1 5 ((nI k) - (1 : Int32))))) ≠ (0 : Int32) then (if b = (0 : Int32) then (mrbF1 pa co wn n m (c + (0 : Int32)) (jsg ((mJA pa co wn 1 5 (nI k)) - (mJA pa co wn 1 5 ((nI k) - (1 : Int32))))) (k + 1)) else (if (jsg ((mJA pa co wn 1 5 (nI k)) - (mJA pa co wn 1 5 ((nI k) - (1 : Int32))))) = b then (mrbF1 pa co wn n m (c + (0 : Int32)) (jsg ((mJA pa co wn 1 5 (nI k)) - (mJA pa co wn 1 5 ((nI k) - (1 : Int32))))) (k + 1)) else (mrbF1 pa co wn n m (c + (1 : Int32)) (jsg ((mJA pa co wn 1 5 (nI k)) - (mJA pa co wn 1 5 ((nI k) - (1 : Int32))))) (k + 1)))) else (mrbF1 pa co wn n m c b (k + 1))))
set_option maxRecDepth 100000 in
set_option maxHeartbeats 4000000 in
theorem m_rbL1 {h : zH} {n0 n2 n14 n15 n16 n17 n18 n19 n20 n21 n22 n23 n27 n28 n32 n33 n34 n35 n39 n52 : Int32} {kn pa co : List Int32} {wn : Nat} {n : Nat} (hM : zat h 162 = some (.inr (.inr (.inr (10, mO n0 n2 n14 n15 n16 n17 n18 n19 n20 n21 n22 n23 n27 n28 n32 n33 n34 n35 n39 n52))))) (hK : zat h 166 = some (.inl (0, 14, kn))) (hPa : zat h 214 = some (.inl (0, 132, pa))) (hCo : zat h 218 = some (.inl (0, 22, co))) (hkw : kn.getD 6 0 = nI wn ∧ wn ≤ 10) (hn : n ≤ 30000) : ∀ (m : Nat) (c : Int32) (b : Int32) (k : Nat), (k ≤ n + 1) → (n + 1 - k) < m → ∀ (dc ds : Nat), wq 265 8 [(0, .ref 162), (1, .int 1), (2, .int (nI n)), (3, .int c), (4, .int b), (5, .int (nI k))] [] h dc ds (fun rr9 => rr9 = (some (Value.int (mrbF1 pa co wn n m c b k)), h, dc, ds)) := by
  intro m
  induction m with
  | zero => intro c b k hk hms dc ds; omega
  | succ m ih =>
    intro c b k hk hms dc ds
    have qnk := nI_toInt (n := k) (by omega)
    have qnn := nI_toInt (n := n) (by omega)
    refine wq_gos (f := 1) (pc2 := 11) (ls2 := [(0, .ref 162), (1, .int 1), (2, .int (nI n)), (3, .int c), (4, .int b), (5, .int (nI k))]) (st2 := [.int (nI n), .int (nI k)]) (h2 := h) (dc2 := dc) (ds2 := ds) 2 rfl ?_
    try have q1x := nI_toInt (n := k) (by omega)
    try have q2x := nI_toInt (n := n) (by omega)
    refine wq_gt2 rfl rfl (fun b3x => ?_) (fun b3x => ?_)
    · refine wq_gos (f := 1) (pc2 := 77) (ls2 := [(0, .ref 162), (1, .int 1), (2, .int (nI n)), (3, .int c), (4, .int b), (5, .int (nI k))]) (st2 := [.int c]) (h2 := h) (dc2 := dc) (ds2 := ds) 1 rfl ?_
      have hx : (mrbF1 pa co wn n (m + 1) c b k) = c := by show (if _ then _ else _) = _; rw [if_pos b3x]
      refine wq_ret rfl rfl ?_
      show (some (Value.int c), h, dc, ds) = (some (Value.int (mrbF1 pa co wn n (m + 1) c b k)), h, dc, ds)
      rw [hx]
    · refine wq_gos (f := 1) (pc2 := 19) (ls2 := [(0, .ref 162), (1, .int 1), (2, .int (nI n)), (3, .int c), (4, .int b), (5, .int (nI k))]) (st2 := [.int 5, .int (nI k), .int 1, .ref 162]) (h2 := h) (dc2 := dc) (ds2 := ds) 4 rfl ?_
      have q4x : (1 : Int32).toInt = 1 := rfl
      have q5x : (5 : Int32).toInt = 5 := rfl
      refine wq_inlv (y2 := 253) (as := [.int 1, .int (nI k), .int 5]) rfl rfl rfl hM rfl (wq_mono (m_ja (r := 1) (j := 5) hM hK hPa hCo ⟨hkw.1, hkw.2, by decide, (by decide)⟩) ?_)
      rintro _ rfl
      show wq 265 22 [(0, .ref 162), (1, .int 1), (2, .int (nI n)), (3, .int c), (4, .int b), (5, .int (nI k))] [.int (mJA pa co wn 1 5 (nI k))] h dc ds _
      refine wq_gos (f := 1) (pc2 := 29) (ls2 := [(0, .ref 162), (1, .int 1), (2, .int (nI n)), (3, .int c), (4, .int b), (5, .int (nI k))]) (st2 := [.int 5, .int ((nI k) - (1 : Int32)), .int 1, .ref 162, .int (mJA pa co wn 1 5 (nI k))]) (h2 := h) (dc2 := dc) (ds2 := ds) 6 rfl ?_
      try have q7x : (((nI k) - (1 : Int32))).toInt = (nI k).toInt - (1 : Int32).toInt := e_sub (by omega) (by omega)
      refine wq_inlv (y2 := 253) (as := [.int 1, .int ((nI k) - (1 : Int32)), .int 5]) rfl rfl rfl hM rfl (wq_mono (m_ja (r := 1) (j := 5) hM hK hPa hCo ⟨hkw.1, hkw.2, by decide, (by decide)⟩) ?_)
      rintro _ rfl
      show wq 265 32 [(0, .ref 162), (1, .int 1), (2, .int (nI n)), (3, .int c), (4, .int b), (5, .int (nI k))] [.int (mJA pa co wn 1 5 ((nI k) - (1 : Int32))), .int (mJA pa co wn 1 5 (nI k))] h dc ds _
      refine wq_gos (f := 1) (pc2 := 33) (ls2 := [(0, .ref 162), (1, .int 1), (2, .int (nI n)), (3, .int c), (4, .int b), (5, .int (nI k))]) (st2 := [.int ((mJA pa co wn 1 5 (nI k)) - (mJA pa co wn 1 5 ((nI k) - (1 : Int32))))]) (h2 := h) (dc2 := dc) (ds2 := ds) 1 rfl ?_
      refine wq_inl (y2 := 202) (as := [.int ((mJA pa co wn 1 5 (nI k)) - (mJA pa co wn 1 5 ((nI k) - (1 : Int32))))]) rfl rfl rfl (wq_T (m_sgn ((mJA pa co wn 1 5 (nI k)) - (mJA pa co wn 1 5 ((nI k) - (1 : Int32)))) h) ?_)
      show wq 265 36 [(0, .ref 162), (1, .int 1), (2, .int (nI n)), (3, .int c), (4, .int b), (5, .int (nI k))] [.int (jsg ((mJA pa co wn 1 5 (nI k)) - (mJA pa co wn 1 5 ((nI k) - (1 : Int32)))))] h dc ds _
      refine wq_gos (f := 1) (pc2 := 40) (ls2 := [(6, .int (jsg ((mJA pa co wn 1 5 (nI k)) - (mJA pa co wn 1 5 ((nI k) - (1 : Int32)))))), (0, .ref 162), (1, .int 1), (2, .int (nI n)), (3, .int c), (4, .int b), (5, .int (nI k))]) (st2 := [.int (jsg ((mJA pa co wn 1 5 (nI k)) - (mJA pa co wn 1 5 ((nI k) - (1 : Int32)))))]) (h2 := h) (dc2 := dc) (ds2 := ds) 2 rfl ?_
      refine wq_ne0 rfl rfl (fun b9x => ?_) (fun b9x => ?_)
      · have q10x : (jsg ((mJA pa co wn 1 5 (nI k)) - (mJA pa co wn 1 5 ((nI k) - (1 : Int32))))).toInt ≠ 0 := fun q => b9x (Int32.toInt_inj.mp q)
        refine wq_gos (f := 1) (pc2 := 49) (ls2 := [(6, .int (jsg ((mJA pa co wn 1 5 (nI k)) - (mJA pa co wn 1 5 ((nI k) - (1 : Int32)))))), (0, .ref 162), (1, .int 1), (2, .int (nI n)), (3, .int c), (4, .int b), (5, .int (nI k))]) (st2 := [.int b, .int c]) (h2 := h) (dc2 := dc) (ds2 := ds) 2 rfl ?_
        refine wq_eq0 rfl rfl (fun b11x => ?_) (fun b11x => ?_)
        · have q12x : b.toInt = 0 := congrArg Int32.toInt b11x
          refine wq_gos (f := 1) (pc2 := 73) (ls2 := [(5, .int ((nI k) + 1)), (4, .int (jsg ((mJA pa co wn 1 5 (nI k)) - (mJA pa co wn 1 5 ((nI k) - (1 : Int32)))))), (3, .int (c + (0 : Int32))), (6, .int (jsg ((mJA pa co wn 1 5 (nI k)) - (mJA pa co wn 1 5 ((nI k) - (1 : Int32)))))), (0, .ref 162), (1, .int 1), (2, .int (nI n))]) (st2 := []) (h2 := h) (dc2 := dc) (ds2 := ds) 6 rfl ?_
          rw [nI_1]
          refine wq_gos (f := 1) (pc2 := 8) (ls2 := [(5, .int (nI (k + 1))), (4, .int (jsg ((mJA pa co wn 1 5 (nI k)) - (mJA pa co wn 1 5 ((nI k) - (1 : Int32)))))), (3, .int (c + (0 : Int32))), (6, .int (jsg ((mJA pa co wn 1 5 (nI k)) - (mJA pa co wn 1 5 ((nI k) - (1 : Int32)))))), (0, .ref 162), (1, .int 1), (2, .int (nI n))]) (st2 := []) (h2 := h) (dc2 := dc) (ds2 := ds) 1 rfl ?_
          try have q13x := nI_toInt (n := (k + 1)) (by omega)
          have q14x : (0 : Int32).toInt = 0 := rfl
          try have q15x : ((c + (0 : Int32))).toInt = c.toInt + (0 : Int32).toInt := e_add (by omega) (by omega)
          have hx : (mrbF1 pa co wn n (m + 1) c b k) = (mrbF1 pa co wn n m (c + (0 : Int32)) (jsg ((mJA pa co wn 1 5 (nI k)) - (mJA pa co wn 1 5 ((nI k) - (1 : Int32))))) (k + 1)) := by show (if _ then _ else _) = _; rw [if_neg (Int.not_lt.mpr b3x), if_pos b9x, if_pos b11x]
          rw [hx]
          refine wq_ls [(0, .ref 162), (1, .int 1), (2, .int (nI n)), (3, .int (c + (0 : Int32))), (4, .int (jsg ((mJA pa co wn 1 5 (nI k)) - (mJA pa co wn 1 5 ((nI k) - (1 : Int32)))))), (5, .int (nI (k + 1)))] (show ([0, 1, 2, 3, 4, 5] : List Nat).Nodup by decide) ⟨rfl, rfl, rfl, rfl, rfl, rfl, trivial⟩ ?_
          exact ih (c + (0 : Int32)) (jsg ((mJA pa co wn 1 5 (nI k)) - (mJA pa co wn 1 5 ((nI k) - (1 : Int32))))) (k + 1) (by first | assumption | omega | decide | solve_by_elim) (by omega) dc ds
        · have q16x : b.toInt ≠ 0 := fun q => b11x (Int32.toInt_inj.mp q)
          refine wq_gos (f := 1) (pc2 := 56) (ls2 := [(6, .int (jsg ((mJA pa co wn 1 5 (nI k)) - (mJA pa co wn 1 5 ((nI k) - (1 : Int32)))))), (0, .ref 162), (1, .int 1), (2, .int (nI n)), (3, .int c), (4, .int b), (5, .int (nI k))]) (st2 := [.int b, .int (jsg ((mJA pa co wn 1 5 (nI k)) - (mJA pa co wn 1 5 ((nI k) - (1 : Int32))))), .int c]) (h2 := h) (dc2 := dc) (ds2 := ds) 2 rfl ?_
          refine wq_eq2 rfl rfl (fun b17x => ?_) (fun b17x => ?_)
          · have q18x : (jsg ((mJA pa co wn 1 5 (nI k)) - (mJA pa co wn 1 5 ((nI k) - (1 : Int32))))).toInt = b.toInt := congrArg Int32.toInt b17x
            refine wq_gos (f := 1) (pc2 := 73) (ls2 := [(5, .int ((nI k) + 1)), (4, .int (jsg ((mJA pa co wn 1 5 (nI k)) - (mJA pa co wn 1 5 ((nI k) - (1 : Int32)))))), (3, .int (c + (0 : Int32))), (6, .int (jsg ((mJA pa co wn 1 5 (nI k)) - (mJA pa co wn 1 5 ((nI k) - (1 : Int32)))))), (0, .ref 162), (1, .int 1), (2, .int (nI n))]) (st2 := []) (h2 := h) (dc2 := dc) (ds2 := ds) 6 rfl ?_
            rw [nI_1]
            refine wq_gos (f := 1) (pc2 := 8) (ls2 := [(5, .int (nI (k + 1))), (4, .int (jsg ((mJA pa co wn 1 5 (nI k)) - (mJA pa co wn 1 5 ((nI k) - (1 : Int32)))))), (3, .int (c + (0 : Int32))), (6, .int (jsg ((mJA pa co wn 1 5 (nI k)) - (mJA pa co wn 1 5 ((nI k) - (1 : Int32)))))), (0, .ref 162), (1, .int 1), (2, .int (nI n))]) (st2 := []) (h2 := h) (dc2 := dc) (ds2 := ds) 1 rfl ?_
            try have q19x := nI_toInt (n := (k + 1)) (by omega)
            have q20x : (0 : Int32).toInt = 0 := rfl
            try have q21x : ((c + (0 : Int32))).toInt = c.toInt + (0 : Int32).toInt := e_add (by omega) (by omega)
            have hx : (mrbF1 pa co wn n (m + 1) c b k) = (mrbF1 pa co wn n m (c + (0 : Int32)) (jsg ((mJA pa co wn 1 5 (nI k)) - (mJA pa co wn 1 5 ((nI k) - (1 : Int32))))) (k + 1)) := by show (if _ then _ else _) = _; rw [if_neg (Int.not_lt.mpr b3x), if_pos b9x, if_neg b11x, if_pos b17x]
            rw [hx]
            refine wq_ls [(0, .ref 162), (1, .int 1), (2, .int (nI n)), (3, .int (c + (0 : Int32))), (4, .int (jsg ((mJA pa co wn 1 5 (nI k)) - (mJA pa co wn 1 5 ((nI k) - (1 : Int32)))))), (5, .int (nI (k + 1)))] (show ([0, 1, 2, 3, 4, 5] : List Nat).Nodup by decide) ⟨rfl, rfl, rfl, rfl, rfl, rfl, trivial⟩ ?_
            exact ih (c + (0 : Int32)) (jsg ((mJA pa co wn 1 5 (nI k)) - (mJA pa co wn 1 5 ((nI k) - (1 : Int32))))) (k + 1) (by first | assumption | omega | decide | solve_by_elim) (by omega) dc ds
          · have q22x : (jsg ((mJA pa co wn 1 5 (nI k)) - (mJA pa co wn 1 5 ((nI k) - (1 : Int32))))).toInt ≠ b.toInt := fun q => b17x (Int32.toInt_inj.mp q)
            refine wq_gos (f := 1) (pc2 := 73) (ls2 := [(5, .int ((nI k) + 1)), (4, .int (jsg ((mJA pa co wn 1 5 (nI k)) - (mJA pa co wn 1 5 ((nI k) - (1 : Int32)))))), (3, .int (c + (1 : Int32))), (6, .int (jsg ((mJA pa co wn 1 5 (nI k)) - (mJA pa co wn 1 5 ((nI k) - (1 : Int32)))))), (0, .ref 162), (1, .int 1), (2, .int (nI n))]) (st2 := []) (h2 := h) (dc2 := dc) (ds2 := ds) 7 rfl ?_
            rw [nI_1]
            refine wq_gos (f := 1) (pc2 := 8) (ls2 := [(5, .int (nI (k + 1))), (4, .int (jsg ((mJA pa co wn 1 5 (nI k)) - (mJA pa co wn 1 5 ((nI k) - (1 : Int32)))))), (3, .int (c + (1 : Int32))), (6, .int (jsg ((mJA pa co wn 1 5 (nI k)) - (mJA pa co wn 1 5 ((nI k) - (1 : Int32)))))), (0, .ref 162), (1, .int 1), (2, .int (nI n))]) (st2 := []) (h2 := h) (dc2 := dc) (ds2 := ds) 1 rfl ?_
            try have q23x := nI_toInt (n := (k + 1)) (by omega)
            try have q24x : ((c + (1 : Int32))).toInt = c.toInt + (1 : Int32).toInt := e_add (by omega) (by omega)
            have hx : (mrbF1 pa co wn n (m + 1) c b k) = (mrbF1 pa co wn n m (c + (1 : Int32)) (jsg ((mJA pa co wn 1 5 (nI k)) - (mJA pa co wn 1 5 ((nI k) - (1 : Int32))))) (k + 1)) := by show (if _ then _ else _) = _; rw [if_neg (Int.not_lt.mpr b3x), if_pos b9x, if_neg b11x, if_neg b17x]
            rw [hx]
            refine wq_ls [(0, .ref 162), (1, .int 1), (2, .int (nI n)), (3, .int (c + (1 : Int32))), (4, .int (jsg ((mJA pa co wn 1 5 (nI k)) - (mJA pa co wn 1 5 ((nI k) - (1 : Int32)))))), (5, .int (nI (k + 1)))] (show ([0, 1, 2, 3, 4, 5] : List Nat).Nodup by decide) ⟨rfl, rfl, rfl, rfl, rfl, rfl, trivial⟩ ?_
            exact ih (c + (1 : Int32)) (jsg ((mJA pa co wn 1 5 (nI k)) - (mJA pa co wn 1 5 ((nI k) - (1 : Int32))))) (k + 1) (by first | assumption | omega | decide | solve_by_elim) (by omega) dc ds
      · have q25x : (jsg ((mJA pa co wn 1 5 (nI k)) - (mJA pa co wn 1 5 ((nI k) - (1 : Int32))))).toInt = 0 := congrArg Int32.toInt b9x
        refine wq_gos (f := 1) (pc2 := 73) (ls2 := [(5, .int ((nI k) + 1)), (6, .int (jsg ((mJA pa co wn 1 5 (nI k)) - (mJA pa co wn 1 5 ((nI k) - (1 : Int32)))))), (0, .ref 162), (1, .int 1), (2, .int (nI n)), (3, .int c), (4, .int b)]) (st2 := []) (h2 := h) (dc2 := dc) (ds2 := ds) 2 rfl ?_
        rw [nI_1]
        refine wq_gos (f := 1) (pc2 := 8) (ls2 := [(5, .int (nI (k + 1))), (6, .int (jsg ((mJA pa co wn 1 5 (nI k)) - (mJA pa co wn 1 5 ((nI k) - (1 : Int32)))))), (0, .ref 162), (1, .int 1), (2, .int (nI n)), (3, .int c), (4, .int b)]) (st2 := []) (h2 := h) (dc2 := dc) (ds2 := ds) 1 rfl ?_
        try have q26x := nI_toInt (n := (k + 1)) (by omega)
        have hx : (mrbF1 pa co wn n (m + 1) c b k) = (mrbF1 pa co wn n m c b (k + 1)) := by show (if _ then _ else _) = _; rw [if_neg (Int.not_lt.mpr b3x), if_neg (fun q => q b9x)]
        rw [hx]
        refine wq_ls [(0, .ref 162), (1, .int 1), (2, .int (nI n)), (3, .int c), (4, .int b), (5, .int (nI (k + 1)))] (show ([0, 1, 2, 3, 4, 5] : List Nat).Nodup by decide) ⟨rfl, rfl, rfl, rfl, rfl, rfl, trivial⟩ ?_
        exact ih c b (k + 1) (by first | assumption | omega | decide | solve_by_elim) (by omega) dc ds
set_option maxRecDepth 100000 in
set_option maxHeartbeats 4000000 in
theorem m_rb1 {h : zH} {n0 n2 n14 n15 n16 n17 n18 n19 n20 n21 n22 n23 n27 n28 n32 n33 n34 n35 n39 n52 : Int32} {kn pa co : List Int32} {wn : Nat} {n : Nat} (hM : zat h 162 = some (.inr (.inr (.inr (10, mO n0 n2 n14 n15 n16 n17 n18 n19 n20 n21 n22 n23 n27 n28 n32 n33 n34 n35 n39 n52))))) (hK : zat h 166 = some (.inl (0, 14, kn))) (hPa : zat h 214 = some (.inl (0, 132, pa))) (hCo : zat h 218 = some (.inl (0, 22, co))) (hkw : kn.getD 6 0 = nI wn ∧ wn ≤ 10) (hn : n ≤ 30000) : wq 265 0 [(0, .ref 162), (1, .int 1), (2, .int (nI n))] [] h 0 0 (fun rr9 => ∃ (v9 : Int32), rr9 = (some (.int v9), h, 0, 0)) := by
  have qnn := nI_toInt (n := n) (by omega)
  refine wq_gos (f := 1) (pc2 := 8) (ls2 := [(5, .int 1), (4, .int 0), (3, .int 0), (0, .ref 162), (1, .int 1), (2, .int (nI n))]) (st2 := []) (h2 := h) (dc2 := 0) (ds2 := 0) 6 rfl ?_
  try have q1x := nI_toInt (n := n) (by omega)
  refine wq_ls [(0, .ref 162), (1, .int 1), (2, .int (nI n)), (3, .int 0), (4, .int 0), (5, .int (nI 1))] (show ([0, 1, 2, 3, 4, 5] : List Nat).Nodup by decide) ⟨rfl, rfl, rfl, rfl, rfl, rfl, trivial⟩ ?_
  refine wq_mono (m_rbL1 hM hK hPa hCo (by first | assumption | omega | decide | solve_by_elim) (by first | assumption | omega | decide | solve_by_elim) ((n + 1 - 1) + 1) (0 : Int32) (0 : Int32) 1 (by first | assumption | omega | decide | solve_by_elim) (by omega) 0 0) ?_
  rintro _ rfl
  exact ⟨(mrbF1 pa co wn n ((n + 1 - 1) + 1) (0 : Int32) (0 : Int32) 1), rfl⟩
noncomputable def mtrF1 (kn pa co : List Int32) (wn n : Nat) : Nat → Int64 → Nat → List Int32 → List Int32 → Int64 × List Int32 × List Int32
  | 0, _, _, tk, th => (0, tk, th)
  | m + 1, s9, k, tk, th => (if (nI n).toInt < (nI k).toInt then (s9, tk, th) else (zlet (mPla kn (mTick tk pa co wn 1 (nI k)) 0 th) (fun v12x => (mtrF1 kn pa co wn n m (s9 + ((((jabs (((v12x).getD 0 0) - (th.getD 0 0))) + (jabs (((v12x).getD 1 0) - (th.getD 1 0))))).toInt64 + ((1000 : Int64) * ((jabs (((v12x).getD 2 0) - (th.getD 2 0)))).toInt64))) (k + 1) (mTick tk pa co wn 1 (nI k)) (v12x)))))
set_option maxRecDepth 100000 in
set_option maxHeartbeats 4000000 in
theorem m_trL1 {n0 n2 n14 n15 n16 n17 n18 n19 n20 n21 n22 n23 n27 n28 n32 n33 n34 n35 n39 n52 : Int32} {kn pa co : List Int32} {wn : Nat} {n : Nat} (hkw : kn.getD 6 0 = nI wn ∧ wn ≤ 10) (hn : n ≤ 30000) : ∀ (m : Nat) (s9 : Int64) (k : Nat) (tk : List Int32) (th : List Int32) (h : zH) , (zat h 162 = some (.inr (.inr (.inr (10, mO n0 n2 n14 n15 n16 n17 n18 n19 n20 n21 n22 n23 n27 n28 n32 n33 n34 n35 n39 n52))))) → (zat h 166 = some (.inl (0, 14, kn))) → (zat h 214 = some (.inl (0, 132, pa))) → (zat h 218 = some (.inl (0, 22, co))) → (zat h 224 = some (.inl (0, 6, tk))) → (zat h 194 = some (.inl (0, 6, th))) → (k ≤ n + 1) → (n + 1 - k) < m → ∀ (dc ds : Nat), wq 266 49 [(0, .ref 162), (2, .int (nI n)), (3, .int 1), (4, .long s9), (6, .int (nI k))] [] h dc ds (fun rr9 => ∃ (h2 : zH) , rr9 = (some (Value.long ((mtrF1 kn pa co wn n m s9 k tk th).1)), h2, dc, ds) ∧ wFr [224, 194] h h2 ∧ h2.length = h.length ∧ zat h2 224 = some (.inl (0, 6, ((mtrF1 kn pa co wn n m s9 k tk th).2.1))) ∧ zat h2 194 = some (.inl (0, 6, ((mtrF1 kn pa co wn n m s9 k tk th).2.2)))) := by
  intro m
  induction m with
  | zero => intro s9 k tk th h hM hK hPa hCo hTk hTh hk hms dc ds; omega
  | succ m ih =>
    intro s9 k tk th h hM hK hPa hCo hTk hTh hk hms dc ds
    have qnk := nI_toInt (n := k) (by omega)
    have qnn := nI_toInt (n := n) (by omega)
    refine wq_gos (f := 1) (pc2 := 52) (ls2 := [(0, .ref 162), (2, .int (nI n)), (3, .int 1), (4, .long s9), (6, .int (nI k))]) (st2 := [.int (nI n), .int (nI k)]) (h2 := h) (dc2 := dc) (ds2 := ds) 2 rfl ?_
    try have q1x := nI_toInt (n := k) (by omega)
    try have q2x := nI_toInt (n := n) (by omega)
    refine wq_gt2 rfl rfl (fun b3x => ?_) (fun b3x => ?_)
    · refine wq_gos (f := 1) (pc2 := 152) (ls2 := [(0, .ref 162), (2, .int (nI n)), (3, .int 1), (4, .long s9), (6, .int (nI k))]) (st2 := [.long s9]) (h2 := h) (dc2 := dc) (ds2 := ds) 1 rfl ?_
      have hx : (mtrF1 kn pa co wn n (m + 1) s9 k tk th) = (s9, tk, th) := by show (if _ then _ else _) = _; rw [if_pos b3x]
      rw [hx]
      exact wq_ret rfl rfl ⟨h, rfl, (wFr_rf _ _), by omega, hTk, hTh⟩
    · refine wq_gos (f := 1) (pc2 := 56) (ls2 := [(0, .ref 162), (2, .int (nI n)), (3, .int 1), (4, .long s9), (6, .int (nI k))]) (st2 := [.ref 162]) (h2 := h) (dc2 := dc) (ds2 := ds) 1 rfl ?_
      refine wq_getf rfl hM rfl rfl ?_
      refine wq_gos (f := 1) (pc2 := 60) (ls2 := [(0, .ref 162), (2, .int (nI n)), (3, .int 1), (4, .long s9), (6, .int (nI k))]) (st2 := [.int 0, .ref 194]) (h2 := h) (dc2 := dc) (ds2 := ds) 1 rfl ?_
      have q4x : (0 : Int32).toInt = 0 := rfl
      refine wq_iald rfl hTh rfl rfl ?_
      refine wq_gos (f := 1) (pc2 := 64) (ls2 := [(7, .int (th.getD 0 0)), (0, .ref 162), (2, .int (nI n)), (3, .int 1), (4, .long s9), (6, .int (nI k))]) (st2 := [.ref 162]) (h2 := h) (dc2 := dc) (ds2 := ds) 2 rfl ?_
      refine wq_getf rfl hM rfl rfl ?_
      refine wq_gos (f := 1) (pc2 := 68) (ls2 := [(7, .int (th.getD 0 0)), (0, .ref 162), (2, .int (nI n)), (3, .int 1), (4, .long s9), (6, .int (nI k))]) (st2 := [.int 1, .ref 194]) (h2 := h) (dc2 := dc) (ds2 := ds) 1 rfl ?_
      have q5x : (1 : Int32).toInt = 1 := rfl
      refine wq_iald rfl hTh rfl rfl ?_
      refine wq_gos (f := 1) (pc2 := 72) (ls2 := [(8, .int (th.getD 1 0)), (7, .int (th.getD 0 0)), (0, .ref 162), (2, .int (nI n)), (3, .int 1), (4, .long s9), (6, .int (nI k))]) (st2 := [.ref 162]) (h2 := h) (dc2 := dc) (ds2 := ds) 2 rfl ?_
      refine wq_getf rfl hM rfl rfl ?_
      refine wq_gos (f := 1) (pc2 := 76) (ls2 := [(8, .int (th.getD 1 0)), (7, .int (th.getD 0 0)), (0, .ref 162), (2, .int (nI n)), (3, .int 1), (4, .long s9), (6, .int (nI k))]) (st2 := [.int 2, .ref 194]) (h2 := h) (dc2 := dc) (ds2 := ds) 1 rfl ?_
      have q6x : (2 : Int32).toInt = 2 := rfl
      refine wq_iald rfl hTh rfl rfl ?_
      refine wq_gos (f := 1) (pc2 := 83) (ls2 := [(9, .int (th.getD 2 0)), (8, .int (th.getD 1 0)), (7, .int (th.getD 0 0)), (0, .ref 162), (2, .int (nI n)), (3, .int 1), (4, .long s9), (6, .int (nI k))]) (st2 := [.int (nI k), .int 1, .ref 162]) (h2 := h) (dc2 := dc) (ds2 := ds) 4 rfl ?_
      refine wq_inlv (y2 := 262) (as := [.int 1, .int (nI k)]) rfl rfl rfl hM rfl (wq_mono (m_lt (r := 1) hM hK hPa hCo hTk ⟨hkw.1, hkw.2, by decide⟩) ?_)
      rintro _ ⟨h87x, rfl, f87x, l87x, c07x⟩
      show wq 266 86 [(9, .int (th.getD 2 0)), (8, .int (th.getD 1 0)), (7, .int (th.getD 0 0)), (0, .ref 162), (2, .int (nI n)), (3, .int 1), (4, .long s9), (6, .int (nI k))] [] h87x dc ds _
      refine wq_gos (f := 1) (pc2 := 88) (ls2 := [(9, .int (th.getD 2 0)), (8, .int (th.getD 1 0)), (7, .int (th.getD 0 0)), (0, .ref 162), (2, .int (nI n)), (3, .int 1), (4, .long s9), (6, .int (nI k))]) (st2 := [.ref 162, .ref 162]) (h2 := h87x) (dc2 := dc) (ds2 := ds) 2 rfl ?_
      have e8x := (f87x.2 _ _ (wnc (by decide) wn0) hM)
      refine wq_getf rfl e8x rfl rfl ?_
      refine wq_gos (f := 1) (pc2 := 92) (ls2 := [(9, .int (th.getD 2 0)), (8, .int (th.getD 1 0)), (7, .int (th.getD 0 0)), (0, .ref 162), (2, .int (nI n)), (3, .int 1), (4, .long s9), (6, .int (nI k))]) (st2 := [.int 0, .ref 224, .ref 162]) (h2 := h87x) (dc2 := dc) (ds2 := ds) 1 rfl ?_
      have e9x := (f87x.2 _ _ (wnc (by decide) wn0) hK)
      have e10x := (f87x.2 _ _ (wnc (by decide) wn0) hTh)
      refine wq_inlv (y2 := 200) (as := [.ref 224, .int 0]) rfl rfl rfl e8x rfl (wq_mono (m_pla (k := 0) e8x e9x c07x e10x (by decide) (by decide)) ?_)
      rintro _ ⟨h811x, rfl, f811x, l811x, c011x⟩
      show wq 266 95 [(9, .int (th.getD 2 0)), (8, .int (th.getD 1 0)), (7, .int (th.getD 0 0)), (0, .ref 162), (2, .int (nI n)), (3, .int 1), (4, .long s9), (6, .int (nI k))] [] h811x dc ds _
      obtain ⟨v12x, hv13x⟩ : ∃ x, x = (mPla kn (mTick tk pa co wn 1 (nI k)) 0 th) := ⟨_, rfl⟩
      try rw [← hv13x] at c011x
      try rw [← hv13x]
      refine wq_gos (f := 1) (pc2 := 98) (ls2 := [(9, .int (th.getD 2 0)), (8, .int (th.getD 1 0)), (7, .int (th.getD 0 0)), (0, .ref 162), (2, .int (nI n)), (3, .int 1), (4, .long s9), (6, .int (nI k))]) (st2 := [.ref 162, .long s9]) (h2 := h811x) (dc2 := dc) (ds2 := ds) 2 rfl ?_
      have e14x := (f811x.2 _ _ (wnc (by decide) wn0) e8x)
      refine wq_getf rfl e14x rfl rfl ?_
      refine wq_gos (f := 1) (pc2 := 102) (ls2 := [(9, .int (th.getD 2 0)), (8, .int (th.getD 1 0)), (7, .int (th.getD 0 0)), (0, .ref 162), (2, .int (nI n)), (3, .int 1), (4, .long s9), (6, .int (nI k))]) (st2 := [.int 0, .ref 194, .long s9]) (h2 := h811x) (dc2 := dc) (ds2 := ds) 1 rfl ?_
      refine wq_iald rfl c011x rfl rfl ?_
      refine wq_gos (f := 1) (pc2 := 106) (ls2 := [(9, .int (th.getD 2 0)), (8, .int (th.getD 1 0)), (7, .int (th.getD 0 0)), (0, .ref 162), (2, .int (nI n)), (3, .int 1), (4, .long s9), (6, .int (nI k))]) (st2 := [.int (((v12x).getD 0 0) - (th.getD 0 0)), .long s9]) (h2 := h811x) (dc2 := dc) (ds2 := ds) 2 rfl ?_
      refine wq_inl (y2 := 203) (as := [.int (((v12x).getD 0 0) - (th.getD 0 0))]) rfl rfl rfl (wq_T (m_abs (((v12x).getD 0 0) - (th.getD 0 0)) h811x) ?_)
      show wq 266 109 [(9, .int (th.getD 2 0)), (8, .int (th.getD 1 0)), (7, .int (th.getD 0 0)), (0, .ref 162), (2, .int (nI n)), (3, .int 1), (4, .long s9), (6, .int (nI k))] [.int (jabs (((v12x).getD 0 0) - (th.getD 0 0))), .long s9] h811x dc ds _
      refine wq_gos (f := 1) (pc2 := 110) (ls2 := [(9, .int (th.getD 2 0)), (8, .int (th.getD 1 0)), (7, .int (th.getD 0 0)), (0, .ref 162), (2, .int (nI n)), (3, .int 1), (4, .long s9), (6, .int (nI k))]) (st2 := [.ref 162, .int (jabs (((v12x).getD 0 0) - (th.getD 0 0))), .long s9]) (h2 := h811x) (dc2 := dc) (ds2 := ds) 1 rfl ?_
      refine wq_getf rfl e14x rfl rfl ?_
      refine wq_gos (f := 1) (pc2 := 114) (ls2 := [(9, .int (th.getD 2 0)), (8, .int (th.getD 1 0)), (7, .int (th.getD 0 0)), (0, .ref 162), (2, .int (nI n)), (3, .int 1), (4, .long s9), (6, .int (nI k))]) (st2 := [.int 1, .ref 194, .int (jabs (((v12x).getD 0 0) - (th.getD 0 0))), .long s9]) (h2 := h811x) (dc2 := dc) (ds2 := ds) 1 rfl ?_
      refine wq_iald rfl c011x rfl rfl ?_
      refine wq_gos (f := 1) (pc2 := 118) (ls2 := [(9, .int (th.getD 2 0)), (8, .int (th.getD 1 0)), (7, .int (th.getD 0 0)), (0, .ref 162), (2, .int (nI n)), (3, .int 1), (4, .long s9), (6, .int (nI k))]) (st2 := [.int (((v12x).getD 1 0) - (th.getD 1 0)), .int (jabs (((v12x).getD 0 0) - (th.getD 0 0))), .long s9]) (h2 := h811x) (dc2 := dc) (ds2 := ds) 2 rfl ?_
      refine wq_inl (y2 := 203) (as := [.int (((v12x).getD 1 0) - (th.getD 1 0))]) rfl rfl rfl (wq_T (m_abs (((v12x).getD 1 0) - (th.getD 1 0)) h811x) ?_)
      show wq 266 121 [(9, .int (th.getD 2 0)), (8, .int (th.getD 1 0)), (7, .int (th.getD 0 0)), (0, .ref 162), (2, .int (nI n)), (3, .int 1), (4, .long s9), (6, .int (nI k))] [.int (jabs (((v12x).getD 1 0) - (th.getD 1 0))), .int (jabs (((v12x).getD 0 0) - (th.getD 0 0))), .long s9] h811x dc ds _
      refine wq_gos (f := 1) (pc2 := 127) (ls2 := [(9, .int (th.getD 2 0)), (8, .int (th.getD 1 0)), (7, .int (th.getD 0 0)), (0, .ref 162), (2, .int (nI n)), (3, .int 1), (4, .long s9), (6, .int (nI k))]) (st2 := [.ref 162, .long 1000, .long (((jabs (((v12x).getD 0 0) - (th.getD 0 0))) + (jabs (((v12x).getD 1 0) - (th.getD 1 0))))).toInt64, .long s9]) (h2 := h811x) (dc2 := dc) (ds2 := ds) 4 rfl ?_
      refine wq_getf rfl e14x rfl rfl ?_
      refine wq_gos (f := 1) (pc2 := 131) (ls2 := [(9, .int (th.getD 2 0)), (8, .int (th.getD 1 0)), (7, .int (th.getD 0 0)), (0, .ref 162), (2, .int (nI n)), (3, .int 1), (4, .long s9), (6, .int (nI k))]) (st2 := [.int 2, .ref 194, .long 1000, .long (((jabs (((v12x).getD 0 0) - (th.getD 0 0))) + (jabs (((v12x).getD 1 0) - (th.getD 1 0))))).toInt64, .long s9]) (h2 := h811x) (dc2 := dc) (ds2 := ds) 1 rfl ?_
      refine wq_iald rfl c011x rfl rfl ?_
      refine wq_gos (f := 1) (pc2 := 135) (ls2 := [(9, .int (th.getD 2 0)), (8, .int (th.getD 1 0)), (7, .int (th.getD 0 0)), (0, .ref 162), (2, .int (nI n)), (3, .int 1), (4, .long s9), (6, .int (nI k))]) (st2 := [.int (((v12x).getD 2 0) - (th.getD 2 0)), .long 1000, .long (((jabs (((v12x).getD 0 0) - (th.getD 0 0))) + (jabs (((v12x).getD 1 0) - (th.getD 1 0))))).toInt64, .long s9]) (h2 := h811x) (dc2 := dc) (ds2 := ds) 2 rfl ?_
      refine wq_inl (y2 := 203) (as := [.int (((v12x).getD 2 0) - (th.getD 2 0))]) rfl rfl rfl (wq_T (m_abs (((v12x).getD 2 0) - (th.getD 2 0)) h811x) ?_)
      show wq 266 138 [(9, .int (th.getD 2 0)), (8, .int (th.getD 1 0)), (7, .int (th.getD 0 0)), (0, .ref 162), (2, .int (nI n)), (3, .int 1), (4, .long s9), (6, .int (nI k))] [.int (jabs (((v12x).getD 2 0) - (th.getD 2 0))), .long 1000, .long (((jabs (((v12x).getD 0 0) - (th.getD 0 0))) + (jabs (((v12x).getD 1 0) - (th.getD 1 0))))).toInt64, .long s9] h811x dc ds _
      refine wq_gos (f := 1) (pc2 := 147) (ls2 := [(6, .int ((nI k) + 1)), (4, .long (s9 + ((((jabs (((v12x).getD 0 0) - (th.getD 0 0))) + (jabs (((v12x).getD 1 0) - (th.getD 1 0))))).toInt64 + ((1000 : Int64) * ((jabs (((v12x).getD 2 0) - (th.getD 2 0)))).toInt64)))), (9, .int (th.getD 2 0)), (8, .int (th.getD 1 0)), (7, .int (th.getD 0 0)), (0, .ref 162), (2, .int (nI n)), (3, .int 1)]) (st2 := []) (h2 := h811x) (dc2 := dc) (ds2 := ds) 6 rfl ?_
      rw [nI_1]
      refine wq_gos (f := 1) (pc2 := 49) (ls2 := [(6, .int (nI (k + 1))), (4, .long (s9 + ((((jabs (((v12x).getD 0 0) - (th.getD 0 0))) + (jabs (((v12x).getD 1 0) - (th.getD 1 0))))).toInt64 + ((1000 : Int64) * ((jabs (((v12x).getD 2 0) - (th.getD 2 0)))).toInt64)))), (9, .int (th.getD 2 0)), (8, .int (th.getD 1 0)), (7, .int (th.getD 0 0)), (0, .ref 162), (2, .int (nI n)), (3, .int 1)]) (st2 := []) (h2 := h811x) (dc2 := dc) (ds2 := ds) 1 rfl ?_
      try have q15x := nI_toInt (n := (k + 1)) (by omega)
      have e16x := (f811x.2 _ _ (wnc (by decide) wn0) e9x)
      have e17x := (f811x.2 _ _ (wnc (by decide) wn0) (f87x.2 _ _ (wnc (by decide) wn0) hPa))
      have e18x := (f811x.2 _ _ (wnc (by decide) wn0) (f87x.2 _ _ (wnc (by decide) wn0) hCo))
      have e19x := (f811x.2 _ _ (wnc (by decide) wn0) c07x)
      have hx : (mtrF1 kn pa co wn n (m + 1) s9 k tk th) = (mtrF1 kn pa co wn n m (s9 + ((((jabs (((v12x).getD 0 0) - (th.getD 0 0))) + (jabs (((v12x).getD 1 0) - (th.getD 1 0))))).toInt64 + ((1000 : Int64) * ((jabs (((v12x).getD 2 0) - (th.getD 2 0)))).toInt64))) (k + 1) (mTick tk pa co wn 1 (nI k)) (v12x)) := by show (if _ then _ else _) = _; rw [if_neg (Int.not_lt.mpr b3x), zlet_eq hv13x]
      rw [hx]
      refine wq_ls [(0, .ref 162), (2, .int (nI n)), (3, .int 1), (4, .long (s9 + ((((jabs (((v12x).getD 0 0) - (th.getD 0 0))) + (jabs (((v12x).getD 1 0) - (th.getD 1 0))))).toInt64 + ((1000 : Int64) * ((jabs (((v12x).getD 2 0) - (th.getD 2 0)))).toInt64)))), (6, .int (nI (k + 1)))] (show ([0, 2, 3, 4, 6] : List Nat).Nodup by decide) ⟨rfl, rfl, rfl, rfl, rfl, trivial⟩ ?_
      refine wq_mono (ih (s9 + ((((jabs (((v12x).getD 0 0) - (th.getD 0 0))) + (jabs (((v12x).getD 1 0) - (th.getD 1 0))))).toInt64 + ((1000 : Int64) * ((jabs (((v12x).getD 2 0) - (th.getD 2 0)))).toInt64))) (k + 1) (mTick tk pa co wn 1 (nI k)) (v12x) h811x e14x e16x e17x e18x e19x c011x (by first | assumption | omega | decide | solve_by_elim) (by omega) dc ds) ?_
      rintro _ ⟨h9, rfl, f9, l9, y0, y1⟩
      exact ⟨h9, rfl, wFr_tr (wFr_tr (wFr_sub f87x (by simp)) (wFr_sub f811x (by simp))) f9, by omega, y0, y1⟩
noncomputable def mslF1 (pa co : List Int32) (wn n : Nat) : Nat → Int32 → Nat → List Int32 → Int32 × List Int32
  | 0, _, _, tk => (0, tk)
  | m + 1, s9, k, tk => (if (nI n).toInt < (nI k).toInt then (s9, tk) else (if (50 : Int32).toInt ≤ (mMea (mTick tk pa co wn 1 (nI k)) 0).toInt then (if (200 : Int32).toInt ≤ (mMea (mTick tk pa co wn 1 (nI k)) 0).toInt then (mslF1 pa co wn n m (s9 + (1 : Int32)) (k + 1) (mTick tk pa co wn 1 (nI k))) else (mslF1 pa co wn n m (s9 + (2 : Int32)) (k + 1) (mTick tk pa co wn 1 (nI k)))) else (mslF1 pa co wn n m (s9 + (4 : Int32)) (k + 1) (mTick tk pa co wn 1 (nI k)))))
set_option maxRecDepth 100000 in
set_option maxHeartbeats 4000000 in
theorem m_slL1 {n0 n2 n14 n15 n16 n17 n18 n19 n20 n21 n22 n23 n27 n28 n32 n33 n34 n35 n39 n52 : Int32} {kn pa co : List Int32} {wn : Nat} {n : Nat} (hkw : kn.getD 6 0 = nI wn ∧ wn ≤ 10) (hn : n ≤ 30000) : ∀ (m : Nat) (s9 : Int32) (k : Nat) (tk : List Int32) (h : zH) , (zat h 162 = some (.inr (.inr (.inr (10, mO n0 n2 n14 n15 n16 n17 n18 n19 n20 n21 n22 n23 n27 n28 n32 n33 n34 n35 n39 n52))))) → (zat h 166 = some (.inl (0, 14, kn))) → (zat h 214 = some (.inl (0, 132, pa))) → (zat h 218 = some (.inl (0, 22, co))) → (zat h 224 = some (.inl (0, 6, tk))) → (k ≤ n + 1) → (n + 1 - k) < m → ∀ (dc ds : Nat), wq 267 22 [(0, .ref 162), (1, .int 1), (2, .int (nI n)), (3, .int s9), (4, .int (nI k))] [] h dc ds (fun rr9 => ∃ (h2 : zH) , rr9 = (some (Value.int ((mslF1 pa co wn n m s9 k tk).1)), h2, dc, ds) ∧ wFr [224] h h2 ∧ h2.length = h.length ∧ zat h2 224 = some (.inl (0, 6, ((mslF1 pa co wn n m s9 k tk).2)))) := by
  intro m
  induction m with
  | zero => intro s9 k tk h hM hK hPa hCo hTk hk hms dc ds; omega
  | succ m ih =>
    intro s9 k tk h hM hK hPa hCo hTk hk hms dc ds
    have qnk := nI_toInt (n := k) (by omega)
    have qnn := nI_toInt (n := n) (by omega)
    refine wq_gos (f := 1) (pc2 := 25) (ls2 := [(0, .ref 162), (1, .int 1), (2, .int (nI n)), (3, .int s9), (4, .int (nI k))]) (st2 := [.int (nI n), .int (nI k)]) (h2 := h) (dc2 := dc) (ds2 := ds) 2 rfl ?_
    try have q1x := nI_toInt (n := k) (by omega)
    try have q2x := nI_toInt (n := n) (by omega)
    refine wq_gt2 rfl rfl (fun b3x => ?_) (fun b3x => ?_)
    · refine wq_gos (f := 1) (pc2 := 87) (ls2 := [(0, .ref 162), (1, .int 1), (2, .int (nI n)), (3, .int s9), (4, .int (nI k))]) (st2 := [.int s9]) (h2 := h) (dc2 := dc) (ds2 := ds) 1 rfl ?_
      have hx : (mslF1 pa co wn n (m + 1) s9 k tk) = (s9, tk) := by show (if _ then _ else _) = _; rw [if_pos b3x]
      rw [hx]
      exact wq_ret rfl rfl ⟨h, rfl, (wFr_rf _ _), by omega, hTk⟩
    · refine wq_gos (f := 1) (pc2 := 40) (ls2 := [(0, .ref 162), (1, .int 1), (2, .int (nI n)), (3, .int s9), (4, .int (nI k))]) (st2 := [.int (nI k), .int 1, .ref 162]) (h2 := h) (dc2 := dc) (ds2 := ds) 6 rfl ?_
      have q4x : (1 : Int32).toInt = 1 := rfl
      refine wq_inlv (y2 := 262) (as := [.int 1, .int (nI k)]) rfl rfl rfl hM rfl (wq_mono (m_lt (r := 1) hM hK hPa hCo hTk ⟨hkw.1, hkw.2, by decide⟩) ?_)
      rintro _ ⟨h85x, rfl, f85x, l85x, c05x⟩
      show wq 267 43 [(0, .ref 162), (1, .int 1), (2, .int (nI n)), (3, .int s9), (4, .int (nI k))] [] h85x dc ds _
      refine wq_gos (f := 1) (pc2 := 44) (ls2 := [(0, .ref 162), (1, .int 1), (2, .int (nI n)), (3, .int s9), (4, .int (nI k))]) (st2 := [.ref 162]) (h2 := h85x) (dc2 := dc) (ds2 := ds) 1 rfl ?_
      have e6x := (f85x.2 _ _ (wnc (by decide) wn0) hM)
      refine wq_getf rfl e6x rfl rfl ?_
      refine wq_gos (f := 1) (pc2 := 48) (ls2 := [(0, .ref 162), (1, .int 1), (2, .int (nI n)), (3, .int s9), (4, .int (nI k))]) (st2 := [.int 0, .ref 224]) (h2 := h85x) (dc2 := dc) (ds2 := ds) 1 rfl ?_
      have q7x : (0 : Int32).toInt = 0 := rfl
      refine wq_inl (y2 := 206) (as := [.ref 224, .int 0]) rfl rfl rfl (wq_mono (m_meav (k := 0) c05x (by decide)) ?_)
      rintro _ rfl
      show wq 267 51 [(0, .ref 162), (1, .int 1), (2, .int (nI n)), (3, .int s9), (4, .int (nI k))] [.int (mMea (mTick tk pa co wn 1 (nI k)) 0)] h85x dc ds _
      refine wq_gos (f := 1) (pc2 := 58) (ls2 := [(5, .int (mMea (mTick tk pa co wn 1 (nI k)) 0)), (0, .ref 162), (1, .int 1), (2, .int (nI n)), (3, .int s9), (4, .int (nI k))]) (st2 := [.int 50, .int (mMea (mTick tk pa co wn 1 (nI k)) 0), .int s9]) (h2 := h85x) (dc2 := dc) (ds2 := ds) 4 rfl ?_
      have q9x : (50 : Int32).toInt = 50 := rfl
      refine wq_ge2 rfl rfl (fun b10x => ?_) (fun b10x => ?_)
      · refine wq_gos (f := 1) (pc2 := 70) (ls2 := [(5, .int (mMea (mTick tk pa co wn 1 (nI k)) 0)), (0, .ref 162), (1, .int 1), (2, .int (nI n)), (3, .int s9), (4, .int (nI k))]) (st2 := [.int 200, .int (mMea (mTick tk pa co wn 1 (nI k)) 0), .int s9]) (h2 := h85x) (dc2 := dc) (ds2 := ds) 2 rfl ?_
        have q11x : (200 : Int32).toInt = 200 := rfl
        refine wq_ge2 rfl rfl (fun b12x => ?_) (fun b12x => ?_)
        · refine wq_gos (f := 1) (pc2 := 83) (ls2 := [(4, .int ((nI k) + 1)), (3, .int (s9 + (1 : Int32))), (5, .int (mMea (mTick tk pa co wn 1 (nI k)) 0)), (0, .ref 162), (1, .int 1), (2, .int (nI n))]) (st2 := []) (h2 := h85x) (dc2 := dc) (ds2 := ds) 4 rfl ?_
          rw [nI_1]
          refine wq_gos (f := 1) (pc2 := 22) (ls2 := [(4, .int (nI (k + 1))), (3, .int (s9 + (1 : Int32))), (5, .int (mMea (mTick tk pa co wn 1 (nI k)) 0)), (0, .ref 162), (1, .int 1), (2, .int (nI n))]) (st2 := []) (h2 := h85x) (dc2 := dc) (ds2 := ds) 1 rfl ?_
          try have q13x := nI_toInt (n := (k + 1)) (by omega)
          try have q14x : ((s9 + (1 : Int32))).toInt = s9.toInt + (1 : Int32).toInt := e_add (by omega) (by omega)
          have e15x := (f85x.2 _ _ (wnc (by decide) wn0) hK)
          have e16x := (f85x.2 _ _ (wnc (by decide) wn0) hPa)
          have e17x := (f85x.2 _ _ (wnc (by decide) wn0) hCo)
          have hx : (mslF1 pa co wn n (m + 1) s9 k tk) = (mslF1 pa co wn n m (s9 + (1 : Int32)) (k + 1) (mTick tk pa co wn 1 (nI k))) := by show (if _ then _ else _) = _; rw [if_neg (Int.not_lt.mpr b3x), if_pos b10x, if_pos b12x]
          rw [hx]
          refine wq_ls [(0, .ref 162), (1, .int 1), (2, .int (nI n)), (3, .int (s9 + (1 : Int32))), (4, .int (nI (k + 1)))] (show ([0, 1, 2, 3, 4] : List Nat).Nodup by decide) ⟨rfl, rfl, rfl, rfl, rfl, trivial⟩ ?_
          refine wq_mono (ih (s9 + (1 : Int32)) (k + 1) (mTick tk pa co wn 1 (nI k)) h85x e6x e15x e16x e17x c05x (by first | assumption | omega | decide | solve_by_elim) (by omega) dc ds) ?_
          rintro _ ⟨h9, rfl, f9, l9, y0⟩
          exact ⟨h9, rfl, wFr_tr (wFr_sub f85x (by simp)) f9, by omega, y0⟩
        · refine wq_gos (f := 1) (pc2 := 83) (ls2 := [(4, .int ((nI k) + 1)), (3, .int (s9 + (2 : Int32))), (5, .int (mMea (mTick tk pa co wn 1 (nI k)) 0)), (0, .ref 162), (1, .int 1), (2, .int (nI n))]) (st2 := []) (h2 := h85x) (dc2 := dc) (ds2 := ds) 5 rfl ?_
          rw [nI_1]
          refine wq_gos (f := 1) (pc2 := 22) (ls2 := [(4, .int (nI (k + 1))), (3, .int (s9 + (2 : Int32))), (5, .int (mMea (mTick tk pa co wn 1 (nI k)) 0)), (0, .ref 162), (1, .int 1), (2, .int (nI n))]) (st2 := []) (h2 := h85x) (dc2 := dc) (ds2 := ds) 1 rfl ?_
          try have q18x := nI_toInt (n := (k + 1)) (by omega)
          have q19x : (2 : Int32).toInt = 2 := rfl
          try have q20x : ((s9 + (2 : Int32))).toInt = s9.toInt + (2 : Int32).toInt := e_add (by omega) (by omega)
          have e21x := (f85x.2 _ _ (wnc (by decide) wn0) hK)
          have e22x := (f85x.2 _ _ (wnc (by decide) wn0) hPa)
          have e23x := (f85x.2 _ _ (wnc (by decide) wn0) hCo)
          have hx : (mslF1 pa co wn n (m + 1) s9 k tk) = (mslF1 pa co wn n m (s9 + (2 : Int32)) (k + 1) (mTick tk pa co wn 1 (nI k))) := by show (if _ then _ else _) = _; rw [if_neg (Int.not_lt.mpr b3x), if_pos b10x, if_neg (Int.not_le.mpr b12x)]
          rw [hx]
          refine wq_ls [(0, .ref 162), (1, .int 1), (2, .int (nI n)), (3, .int (s9 + (2 : Int32))), (4, .int (nI (k + 1)))] (show ([0, 1, 2, 3, 4] : List Nat).Nodup by decide) ⟨rfl, rfl, rfl, rfl, rfl, trivial⟩ ?_
          refine wq_mono (ih (s9 + (2 : Int32)) (k + 1) (mTick tk pa co wn 1 (nI k)) h85x e6x e21x e22x e23x c05x (by first | assumption | omega | decide | solve_by_elim) (by omega) dc ds) ?_
          rintro _ ⟨h9, rfl, f9, l9, y0⟩
          exact ⟨h9, rfl, wFr_tr (wFr_sub f85x (by simp)) f9, by omega, y0⟩
      · refine wq_gos (f := 1) (pc2 := 83) (ls2 := [(4, .int ((nI k) + 1)), (3, .int (s9 + (4 : Int32))), (5, .int (mMea (mTick tk pa co wn 1 (nI k)) 0)), (0, .ref 162), (1, .int 1), (2, .int (nI n))]) (st2 := []) (h2 := h85x) (dc2 := dc) (ds2 := ds) 5 rfl ?_
        rw [nI_1]
        refine wq_gos (f := 1) (pc2 := 22) (ls2 := [(4, .int (nI (k + 1))), (3, .int (s9 + (4 : Int32))), (5, .int (mMea (mTick tk pa co wn 1 (nI k)) 0)), (0, .ref 162), (1, .int 1), (2, .int (nI n))]) (st2 := []) (h2 := h85x) (dc2 := dc) (ds2 := ds) 1 rfl ?_
        try have q24x := nI_toInt (n := (k + 1)) (by omega)
        have q25x : (4 : Int32).toInt = 4 := rfl
        try have q26x : ((s9 + (4 : Int32))).toInt = s9.toInt + (4 : Int32).toInt := e_add (by omega) (by omega)
        have e27x := (f85x.2 _ _ (wnc (by decide) wn0) hK)
        have e28x := (f85x.2 _ _ (wnc (by decide) wn0) hPa)
        have e29x := (f85x.2 _ _ (wnc (by decide) wn0) hCo)
        have hx : (mslF1 pa co wn n (m + 1) s9 k tk) = (mslF1 pa co wn n m (s9 + (4 : Int32)) (k + 1) (mTick tk pa co wn 1 (nI k))) := by show (if _ then _ else _) = _; rw [if_neg (Int.not_lt.mpr b3x), if_neg (Int.not_le.mpr b10x)]
        rw [hx]
        refine wq_ls [(0, .ref 162), (1, .int 1), (2, .int (nI n)), (3, .int (s9 + (4 : Int32))), (4, .int (nI (k + 1)))] (show ([0, 1, 2, 3, 4] : List Nat).Nodup by decide) ⟨rfl, rfl, rfl, rfl, rfl, trivial⟩ ?_
        refine wq_mono (ih (s9 + (4 : Int32)) (k + 1) (mTick tk pa co wn 1 (nI k)) h85x e6x e27x e28x e29x c05x (by first | assumption | omega | decide | solve_by_elim) (by omega) dc ds) ?_
        rintro _ ⟨h9, rfl, f9, l9, y0⟩
        exact ⟨h9, rfl, wFr_tr (wFr_sub f85x (by simp)) f9, by omega, y0⟩
noncomputable def mcleF1 (pa co : List Int32) (wn n : Nat) : Nat → Int32 → Nat → List Int32 → Int32 × List Int32
  | 0, _, _, tk => (0, tk)
  | m + 1, s9, k, tk => (if (nI n).toInt < (nI k).toInt then (s9, tk) else (if s9.toInt ≤ (mMea (mTick tk pa co wn 1 (nI k)) 0).toInt then (mcleF1 pa co wn n m s9 (k + 1) (mTick tk pa co wn 1 (nI k))) else (mcleF1 pa co wn n m (mMea (mTick tk pa co wn 1 (nI k)) 0) (k + 1) (mTick tk pa co wn 1 (nI k)))))
set_option maxRecDepth 100000 in
set_option maxHeartbeats 4000000 in
theorem m_cleL1 {n0 n2 n14 n15 n16 n17 n18 n19 n20 n21 n22 n23 n27 n28 n32 n33 n34 n35 n39 n52 : Int32} {kn pa co : List Int32} {wn : Nat} {n : Nat} (hkw : kn.getD 6 0 = nI wn ∧ wn ≤ 10) (hn : n ≤ 30000) : ∀ (m : Nat) (s9 : Int32) (k : Nat) (tk : List Int32) (h : zH) , (zat h 162 = some (.inr (.inr (.inr (10, mO n0 n2 n14 n15 n16 n17 n18 n19 n20 n21 n22 n23 n27 n28 n32 n33 n34 n35 n39 n52))))) → (zat h 166 = some (.inl (0, 14, kn))) → (zat h 214 = some (.inl (0, 132, pa))) → (zat h 218 = some (.inl (0, 22, co))) → (zat h 224 = some (.inl (0, 6, tk))) → (k ≤ n + 1) → (n + 1 - k) < m → ∀ (dc ds : Nat), wq 268 24 [(0, .ref 162), (1, .int 1), (2, .int (nI n)), (3, .int s9), (4, .int (nI k))] [] h dc ds (fun rr9 => ∃ (h2 : zH) , rr9 = (some (Value.int ((mcleF1 pa co wn n m s9 k tk).1)), h2, dc, ds) ∧ wFr [224] h h2 ∧ h2.length = h.length ∧ zat h2 224 = some (.inl (0, 6, ((mcleF1 pa co wn n m s9 k tk).2)))) := by
  intro m
  induction m with
  | zero => intro s9 k tk h hM hK hPa hCo hTk hk hms dc ds; omega
  | succ m ih =>
    intro s9 k tk h hM hK hPa hCo hTk hk hms dc ds
    have qnk := nI_toInt (n := k) (by omega)
    have qnn := nI_toInt (n := n) (by omega)
    refine wq_gos (f := 1) (pc2 := 27) (ls2 := [(0, .ref 162), (1, .int 1), (2, .int (nI n)), (3, .int s9), (4, .int (nI k))]) (st2 := [.int (nI n), .int (nI k)]) (h2 := h) (dc2 := dc) (ds2 := ds) 2 rfl ?_
    try have q1x := nI_toInt (n := k) (by omega)
    try have q2x := nI_toInt (n := n) (by omega)
    refine wq_gt2 rfl rfl (fun b3x => ?_) (fun b3x => ?_)
    · refine wq_gos (f := 1) (pc2 := 75) (ls2 := [(0, .ref 162), (1, .int 1), (2, .int (nI n)), (3, .int s9), (4, .int (nI k))]) (st2 := [.int s9]) (h2 := h) (dc2 := dc) (ds2 := ds) 1 rfl ?_
      have hx : (mcleF1 pa co wn n (m + 1) s9 k tk) = (s9, tk) := by show (if _ then _ else _) = _; rw [if_pos b3x]
      rw [hx]
      exact wq_ret rfl rfl ⟨h, rfl, (wFr_rf _ _), by omega, hTk⟩
    · refine wq_gos (f := 1) (pc2 := 42) (ls2 := [(0, .ref 162), (1, .int 1), (2, .int (nI n)), (3, .int s9), (4, .int (nI k))]) (st2 := [.int (nI k), .int 1, .ref 162]) (h2 := h) (dc2 := dc) (ds2 := ds) 6 rfl ?_
      have q4x : (1 : Int32).toInt = 1 := rfl
      refine wq_inlv (y2 := 262) (as := [.int 1, .int (nI k)]) rfl rfl rfl hM rfl (wq_mono (m_lt (r := 1) hM hK hPa hCo hTk ⟨hkw.1, hkw.2, by decide⟩) ?_)
      rintro _ ⟨h85x, rfl, f85x, l85x, c05x⟩
      show wq 268 45 [(0, .ref 162), (1, .int 1), (2, .int (nI n)), (3, .int s9), (4, .int (nI k))] [] h85x dc ds _
      refine wq_gos (f := 1) (pc2 := 46) (ls2 := [(0, .ref 162), (1, .int 1), (2, .int (nI n)), (3, .int s9), (4, .int (nI k))]) (st2 := [.ref 162]) (h2 := h85x) (dc2 := dc) (ds2 := ds) 1 rfl ?_
      have e6x := (f85x.2 _ _ (wnc (by decide) wn0) hM)
      refine wq_getf rfl e6x rfl rfl ?_
      refine wq_gos (f := 1) (pc2 := 50) (ls2 := [(0, .ref 162), (1, .int 1), (2, .int (nI n)), (3, .int s9), (4, .int (nI k))]) (st2 := [.int 0, .ref 224]) (h2 := h85x) (dc2 := dc) (ds2 := ds) 1 rfl ?_
      have q7x : (0 : Int32).toInt = 0 := rfl
      refine wq_inl (y2 := 206) (as := [.ref 224, .int 0]) rfl rfl rfl (wq_mono (m_meav (k := 0) c05x (by decide)) ?_)
      rintro _ rfl
      show wq 268 53 [(0, .ref 162), (1, .int 1), (2, .int (nI n)), (3, .int s9), (4, .int (nI k))] [.int (mMea (mTick tk pa co wn 1 (nI k)) 0)] h85x dc ds _
      refine wq_gos (f := 1) (pc2 := 58) (ls2 := [(5, .int (mMea (mTick tk pa co wn 1 (nI k)) 0)), (0, .ref 162), (1, .int 1), (2, .int (nI n)), (3, .int s9), (4, .int (nI k))]) (st2 := [.int s9, .int (mMea (mTick tk pa co wn 1 (nI k)) 0)]) (h2 := h85x) (dc2 := dc) (ds2 := ds) 3 rfl ?_
      refine wq_ge2 rfl rfl (fun b9x => ?_) (fun b9x => ?_)
      · refine wq_gos (f := 1) (pc2 := 71) (ls2 := [(4, .int ((nI k) + 1)), (3, .int s9), (5, .int (mMea (mTick tk pa co wn 1 (nI k)) 0)), (0, .ref 162), (1, .int 1), (2, .int (nI n))]) (st2 := []) (h2 := h85x) (dc2 := dc) (ds2 := ds) 3 rfl ?_
        rw [nI_1]
        refine wq_gos (f := 1) (pc2 := 24) (ls2 := [(4, .int (nI (k + 1))), (3, .int s9), (5, .int (mMea (mTick tk pa co wn 1 (nI k)) 0)), (0, .ref 162), (1, .int 1), (2, .int (nI n))]) (st2 := []) (h2 := h85x) (dc2 := dc) (ds2 := ds) 1 rfl ?_
        try have q10x := nI_toInt (n := (k + 1)) (by omega)
        have e11x := (f85x.2 _ _ (wnc (by decide) wn0) hK)
        have e12x := (f85x.2 _ _ (wnc (by decide) wn0) hPa)
        have e13x := (f85x.2 _ _ (wnc (by decide) wn0) hCo)
        have hx : (mcleF1 pa co wn n (m + 1) s9 k tk) = (mcleF1 pa co wn n m s9 (k + 1) (mTick tk pa co wn 1 (nI k))) := by show (if _ then _ else _) = _; rw [if_neg (Int.not_lt.mpr b3x), if_pos b9x]
        rw [hx]
        refine wq_ls [(0, .ref 162), (1, .int 1), (2, .int (nI n)), (3, .int s9), (4, .int (nI (k + 1)))] (show ([0, 1, 2, 3, 4] : List Nat).Nodup by decide) ⟨rfl, rfl, rfl, rfl, rfl, trivial⟩ ?_
        refine wq_mono (ih s9 (k + 1) (mTick tk pa co wn 1 (nI k)) h85x e6x e11x e12x e13x c05x (by first | assumption | omega | decide | solve_by_elim) (by omega) dc ds) ?_
        rintro _ ⟨h9, rfl, f9, l9, y0⟩
        exact ⟨h9, rfl, wFr_tr (wFr_sub f85x (by simp)) f9, by omega, y0⟩
      · refine wq_gos (f := 1) (pc2 := 71) (ls2 := [(4, .int ((nI k) + 1)), (3, .int (mMea (mTick tk pa co wn 1 (nI k)) 0)), (5, .int (mMea (mTick tk pa co wn 1 (nI k)) 0)), (0, .ref 162), (1, .int 1), (2, .int (nI n))]) (st2 := []) (h2 := h85x) (dc2 := dc) (ds2 := ds) 4 rfl ?_
        rw [nI_1]
        refine wq_gos (f := 1) (pc2 := 24) (ls2 := [(4, .int (nI (k + 1))), (3, .int (mMea (mTick tk pa co wn 1 (nI k)) 0)), (5, .int (mMea (mTick tk pa co wn 1 (nI k)) 0)), (0, .ref 162), (1, .int 1), (2, .int (nI n))]) (st2 := []) (h2 := h85x) (dc2 := dc) (ds2 := ds) 1 rfl ?_
        try have q14x := nI_toInt (n := (k + 1)) (by omega)
        have e15x := (f85x.2 _ _ (wnc (by decide) wn0) hK)
        have e16x := (f85x.2 _ _ (wnc (by decide) wn0) hPa)
        have e17x := (f85x.2 _ _ (wnc (by decide) wn0) hCo)
        have hx : (mcleF1 pa co wn n (m + 1) s9 k tk) = (mcleF1 pa co wn n m (mMea (mTick tk pa co wn 1 (nI k)) 0) (k + 1) (mTick tk pa co wn 1 (nI k))) := by show (if _ then _ else _) = _; rw [if_neg (Int.not_lt.mpr b3x), if_neg (Int.not_le.mpr b9x)]
        rw [hx]
        refine wq_ls [(0, .ref 162), (1, .int 1), (2, .int (nI n)), (3, .int (mMea (mTick tk pa co wn 1 (nI k)) 0)), (4, .int (nI (k + 1)))] (show ([0, 1, 2, 3, 4] : List Nat).Nodup by decide) ⟨rfl, rfl, rfl, rfl, rfl, trivial⟩ ?_
        refine wq_mono (ih (mMea (mTick tk pa co wn 1 (nI k)) 0) (k + 1) (mTick tk pa co wn 1 (nI k)) h85x e6x e15x e16x e17x c05x (by first | assumption | omega | decide | solve_by_elim) (by omega) dc ds) ?_
        rintro _ ⟨h9, rfl, f9, l9, y0⟩
        exact ⟨h9, rfl, wFr_tr (wFr_sub f85x (by simp)) f9, by omega, y0⟩
noncomputable def mfaF1 (pa co : List Int32) (wn n j : Nat) (bl : Int32) : Nat → Int32 → Int32 → Int32
  | 0, _, _ => 0
  | m + 1, mo, k => (if ((nI n) + bl).toInt ≤ k.toInt then mo else (if (jabs ((mbbF pa co wn 1 j (k + (1 : Int32)) bl (((k + (1 : Int32)).toInt + bl.toInt + 1 - ((k + (1 : Int32)) - bl).toInt).toNat + 1) 0 ((k + (1 : Int32)) - bl)) - (mbbF pa co wn 1 j k bl ((k.toInt + bl.toInt + 1 - (k - bl).toInt).toNat + 1) 0 (k - bl)))).toInt ≤ mo.toInt then (mfaF1 pa co wn n j bl m mo (k + 1)) else (mfaF1 pa co wn n j bl m (jabs ((mbbF pa co wn 1 j (k + (1 : Int32)) bl (((k + (1 : Int32)).toInt + bl.toInt + 1 - ((k + (1 : Int32)) - bl).toInt).toNat + 1) 0 ((k + (1 : Int32)) - bl)) - (mbbF pa co wn 1 j k bl ((k.toInt + bl.toInt + 1 - (k - bl).toInt).toNat + 1) 0 (k - bl)))) (k + 1))))
set_option maxRecDepth 100000 in
set_option maxHeartbeats 4000000 in
theorem m_faL1 {h : zH} {n0 n2 n14 n15 n16 n17 n18 n19 n20 n21 n22 n23 n27 n28 n32 n33 n34 n35 n39 n52 : Int32} {kn pa co : List Int32} {wn : Nat} {n j : Nat} {bl : Int32} (hM : zat h 162 = some (.inr (.inr (.inr (10, mO n0 n2 n14 n15 n16 n17 n18 n19 n20 n21 n22 n23 n27 n28 n32 n33 n34 n35 n39 n52))))) (hK : zat h 166 = some (.inl (0, 14, kn))) (hPa : zat h 214 = some (.inl (0, 132, pa))) (hCo : zat h 218 = some (.inl (0, 22, co))) (hkw : kn.getD 6 0 = nI wn ∧ wn ≤ 10) (hn : n ≤ 30000) (hj : j < 6) (hbl : 0 ≤ bl.toInt ∧ bl.toInt ≤ 9) : ∀ (m : Nat) (mo : Int32) (k : Int32), (-bl.toInt ≤ k.toInt ∧ k.toInt ≤ n + bl.toInt) → (n + bl.toInt - k.toInt).toNat < m → ∀ (dc ds : Nat), wq 257 64 [(0, .ref 162), (2, .int (nI j)), (4, .int (nI n)), (5, .int bl), (6, .int 1), (7, .int mo), (8, .int k)] [] h dc ds (fun rr9 => rr9 = (some (Value.int (mfaF1 pa co wn n j bl m mo k)), h, dc, ds)) := by
  intro m
  induction m with
  | zero => intro mo k hk hms dc ds; omega
  | succ m ih =>
    intro mo k hk hms dc ds
    have qnn := nI_toInt (n := n) (by omega)
    have qnj := nI_toInt (n := j) (by omega)
    refine wq_gos (f := 1) (pc2 := 71) (ls2 := [(0, .ref 162), (2, .int (nI j)), (4, .int (nI n)), (5, .int bl), (6, .int 1), (7, .int mo), (8, .int k)]) (st2 := [.int ((nI n) + bl), .int k]) (h2 := h) (dc2 := dc) (ds2 := ds) 4 rfl ?_
    try have q1x := nI_toInt (n := n) (by omega)
    try have q2x : (((nI n) + bl)).toInt = (nI n).toInt + bl.toInt := e_add (by omega) (by omega)
    refine wq_ge2 rfl rfl (fun b3x => ?_) (fun b3x => ?_)
    · refine wq_gos (f := 1) (pc2 := 128) (ls2 := [(0, .ref 162), (2, .int (nI j)), (4, .int (nI n)), (5, .int bl), (6, .int 1), (7, .int mo), (8, .int k)]) (st2 := [.int mo]) (h2 := h) (dc2 := dc) (ds2 := ds) 1 rfl ?_
      have hx : (mfaF1 pa co wn n j bl (m + 1) mo k) = mo := by show (if _ then _ else _) = _; rw [if_pos b3x]
      refine wq_ret rfl rfl ?_
      show (some (Value.int mo), h, dc, ds) = (some (Value.int (mfaF1 pa co wn n j bl (m + 1) mo k)), h, dc, ds)
      rw [hx]
    · refine wq_gos (f := 1) (pc2 := 84) (ls2 := [(0, .ref 162), (2, .int (nI j)), (4, .int (nI n)), (5, .int bl), (6, .int 1), (7, .int mo), (8, .int k)]) (st2 := [.int bl, .int (nI j), .int (k + (1 : Int32)), .int 1, .ref 162]) (h2 := h) (dc2 := dc) (ds2 := ds) 7 rfl ?_
      have q4x : (1 : Int32).toInt = 1 := rfl
      try have q5x : ((k + (1 : Int32))).toInt = k.toInt + (1 : Int32).toInt := e_add (by omega) (by omega)
      try have q6x := nI_toInt (n := j) (by omega)
      refine wq_inlv (y2 := 254) (as := [.int 1, .int (k + (1 : Int32)), .int (nI j), .int bl]) rfl rfl rfl hM rfl (wq_mono (m_bb (r := 1) hM hK hPa hCo ⟨hkw.1, hkw.2, by decide, hj⟩ (by first | assumption | omega | decide | solve_by_elim)) ?_)
      rintro _ rfl
      show wq 257 87 [(0, .ref 162), (2, .int (nI j)), (4, .int (nI n)), (5, .int bl), (6, .int 1), (7, .int mo), (8, .int k)] [.int (mbbF pa co wn 1 j (k + (1 : Int32)) bl (((k + (1 : Int32)).toInt + bl.toInt + 1 - ((k + (1 : Int32)) - bl).toInt).toNat + 1) 0 ((k + (1 : Int32)) - bl))] h dc ds _
      refine wq_gos (f := 1) (pc2 := 95) (ls2 := [(0, .ref 162), (2, .int (nI j)), (4, .int (nI n)), (5, .int bl), (6, .int 1), (7, .int mo), (8, .int k)]) (st2 := [.int bl, .int (nI j), .int k, .int 1, .ref 162, .int (mbbF pa co wn 1 j (k + (1 : Int32)) bl (((k + (1 : Int32)).toInt + bl.toInt + 1 - ((k + (1 : Int32)) - bl).toInt).toNat + 1) 0 ((k + (1 : Int32)) - bl))]) (h2 := h) (dc2 := dc) (ds2 := ds) 5 rfl ?_
      refine wq_inlv (y2 := 254) (as := [.int 1, .int k, .int (nI j), .int bl]) rfl rfl rfl hM rfl (wq_mono (m_bb (r := 1) hM hK hPa hCo ⟨hkw.1, hkw.2, by decide, hj⟩ (by first | assumption | omega | decide | solve_by_elim)) ?_)
      rintro _ rfl
      show wq 257 98 [(0, .ref 162), (2, .int (nI j)), (4, .int (nI n)), (5, .int bl), (6, .int 1), (7, .int mo), (8, .int k)] [.int (mbbF pa co wn 1 j k bl ((k.toInt + bl.toInt + 1 - (k - bl).toInt).toNat + 1) 0 (k - bl)), .int (mbbF pa co wn 1 j (k + (1 : Int32)) bl (((k + (1 : Int32)).toInt + bl.toInt + 1 - ((k + (1 : Int32)) - bl).toInt).toNat + 1) 0 ((k + (1 : Int32)) - bl))] h dc ds _
      refine wq_gos (f := 1) (pc2 := 99) (ls2 := [(0, .ref 162), (2, .int (nI j)), (4, .int (nI n)), (5, .int bl), (6, .int 1), (7, .int mo), (8, .int k)]) (st2 := [.int ((mbbF pa co wn 1 j (k + (1 : Int32)) bl (((k + (1 : Int32)).toInt + bl.toInt + 1 - ((k + (1 : Int32)) - bl).toInt).toNat + 1) 0 ((k + (1 : Int32)) - bl)) - (mbbF pa co wn 1 j k bl ((k.toInt + bl.toInt + 1 - (k - bl).toInt).toNat + 1) 0 (k - bl)))]) (h2 := h) (dc2 := dc) (ds2 := ds) 1 rfl ?_
      refine wq_inl (y2 := 203) (as := [.int ((mbbF pa co wn 1 j (k + (1 : Int32)) bl (((k + (1 : Int32)).toInt + bl.toInt + 1 - ((k + (1 : Int32)) - bl).toInt).toNat + 1) 0 ((k + (1 : Int32)) - bl)) - (mbbF pa co wn 1 j k bl ((k.toInt + bl.toInt + 1 - (k - bl).toInt).toNat + 1) 0 (k - bl)))]) rfl rfl rfl (wq_T (m_abs ((mbbF pa co wn 1 j (k + (1 : Int32)) bl (((k + (1 : Int32)).toInt + bl.toInt + 1 - ((k + (1 : Int32)) - bl).toInt).toNat + 1) 0 ((k + (1 : Int32)) - bl)) - (mbbF pa co wn 1 j k bl ((k.toInt + bl.toInt + 1 - (k - bl).toInt).toNat + 1) 0 (k - bl))) h) ?_)
      show wq 257 102 [(0, .ref 162), (2, .int (nI j)), (4, .int (nI n)), (5, .int bl), (6, .int 1), (7, .int mo), (8, .int k)] [.int (jabs ((mbbF pa co wn 1 j (k + (1 : Int32)) bl (((k + (1 : Int32)).toInt + bl.toInt + 1 - ((k + (1 : Int32)) - bl).toInt).toNat + 1) 0 ((k + (1 : Int32)) - bl)) - (mbbF pa co wn 1 j k bl ((k.toInt + bl.toInt + 1 - (k - bl).toInt).toNat + 1) 0 (k - bl))))] h dc ds _
      refine wq_gos (f := 1) (pc2 := 108) (ls2 := [(9, .int (jabs ((mbbF pa co wn 1 j (k + (1 : Int32)) bl (((k + (1 : Int32)).toInt + bl.toInt + 1 - ((k + (1 : Int32)) - bl).toInt).toNat + 1) 0 ((k + (1 : Int32)) - bl)) - (mbbF pa co wn 1 j k bl ((k.toInt + bl.toInt + 1 - (k - bl).toInt).toNat + 1) 0 (k - bl))))), (0, .ref 162), (2, .int (nI j)), (4, .int (nI n)), (5, .int bl), (6, .int 1), (7, .int mo), (8, .int k)]) (st2 := [.int mo, .int (jabs ((mbbF pa co wn 1 j (k + (1 : Int32)) bl (((k + (1 : Int32)).toInt + bl.toInt + 1 - ((k + (1 : Int32)) - bl).toInt).toNat + 1) 0 ((k + (1 : Int32)) - bl)) - (mbbF pa co wn 1 j k bl ((k.toInt + bl.toInt + 1 - (k - bl).toInt).toNat + 1) 0 (k - bl))))]) (h2 := h) (dc2 := dc) (ds2 := ds) 3 rfl ?_
      refine wq_le2 rfl rfl (fun b9x => ?_) (fun b9x => ?_)
      · refine wq_gos (f := 1) (pc2 := 64) (ls2 := [(8, .int (k + 1)), (7, .int mo), (9, .int (jabs ((mbbF pa co wn 1 j (k + (1 : Int32)) bl (((k + (1 : Int32)).toInt + bl.toInt + 1 - ((k + (1 : Int32)) - bl).toInt).toNat + 1) 0 ((k + (1 : Int32)) - bl)) - (mbbF pa co wn 1 j k bl ((k.toInt + bl.toInt + 1 - (k - bl).toInt).toNat + 1) 0 (k - bl))))), (0, .ref 162), (2, .int (nI j)), (4, .int (nI n)), (5, .int bl), (6, .int 1)]) (st2 := []) (h2 := h) (dc2 := dc) (ds2 := ds) 4 rfl ?_
        try have q10x : ((k + 1)).toInt = k.toInt + (1 : Int32).toInt := e_add (by omega) (by omega)
        have hx : (mfaF1 pa co wn n j bl (m + 1) mo k) = (mfaF1 pa co wn n j bl m mo (k + 1)) := by show (if _ then _ else _) = _; rw [if_neg (Int.not_le.mpr b3x), if_pos b9x]
        rw [hx]
        refine wq_ls [(0, .ref 162), (2, .int (nI j)), (4, .int (nI n)), (5, .int bl), (6, .int 1), (7, .int mo), (8, .int (k + 1))] (show ([0, 2, 4, 5, 6, 7, 8] : List Nat).Nodup by decide) ⟨rfl, rfl, rfl, rfl, rfl, rfl, rfl, trivial⟩ ?_
        exact ih mo (k + 1) (by first | assumption | omega | decide | solve_by_elim) (by omega) dc ds
      · refine wq_gos (f := 1) (pc2 := 64) (ls2 := [(8, .int (k + 1)), (7, .int (jabs ((mbbF pa co wn 1 j (k + (1 : Int32)) bl (((k + (1 : Int32)).toInt + bl.toInt + 1 - ((k + (1 : Int32)) - bl).toInt).toNat + 1) 0 ((k + (1 : Int32)) - bl)) - (mbbF pa co wn 1 j k bl ((k.toInt + bl.toInt + 1 - (k - bl).toInt).toNat + 1) 0 (k - bl))))), (9, .int (jabs ((mbbF pa co wn 1 j (k + (1 : Int32)) bl (((k + (1 : Int32)).toInt + bl.toInt + 1 - ((k + (1 : Int32)) - bl).toInt).toNat + 1) 0 ((k + (1 : Int32)) - bl)) - (mbbF pa co wn 1 j k bl ((k.toInt + bl.toInt + 1 - (k - bl).toInt).toNat + 1) 0 (k - bl))))), (0, .ref 162), (2, .int (nI j)), (4, .int (nI n)), (5, .int bl), (6, .int 1)]) (st2 := []) (h2 := h) (dc2 := dc) (ds2 := ds) 5 rfl ?_
        try have q11x : ((k + 1)).toInt = k.toInt + (1 : Int32).toInt := e_add (by omega) (by omega)
        have hx : (mfaF1 pa co wn n j bl (m + 1) mo k) = (mfaF1 pa co wn n j bl m (jabs ((mbbF pa co wn 1 j (k + (1 : Int32)) bl (((k + (1 : Int32)).toInt + bl.toInt + 1 - ((k + (1 : Int32)) - bl).toInt).toNat + 1) 0 ((k + (1 : Int32)) - bl)) - (mbbF pa co wn 1 j k bl ((k.toInt + bl.toInt + 1 - (k - bl).toInt).toNat + 1) 0 (k - bl)))) (k + 1)) := by show (if _ then _ else _) = _; rw [if_neg (Int.not_le.mpr b3x), if_neg (Int.not_le.mpr b9x)]
        rw [hx]
        refine wq_ls [(0, .ref 162), (2, .int (nI j)), (4, .int (nI n)), (5, .int bl), (6, .int 1), (7, .int (jabs ((mbbF pa co wn 1 j (k + (1 : Int32)) bl (((k + (1 : Int32)).toInt + bl.toInt + 1 - ((k + (1 : Int32)) - bl).toInt).toNat + 1) 0 ((k + (1 : Int32)) - bl)) - (mbbF pa co wn 1 j k bl ((k.toInt + bl.toInt + 1 - (k - bl).toInt).toNat + 1) 0 (k - bl))))), (8, .int (k + 1))] (show ([0, 2, 4, 5, 6, 7, 8] : List Nat).Nodup by decide) ⟨rfl, rfl, rfl, rfl, rfl, rfl, rfl, trivial⟩ ?_
        exact ih (jabs ((mbbF pa co wn 1 j (k + (1 : Int32)) bl (((k + (1 : Int32)).toInt + bl.toInt + 1 - ((k + (1 : Int32)) - bl).toInt).toNat + 1) 0 ((k + (1 : Int32)) - bl)) - (mbbF pa co wn 1 j k bl ((k.toInt + bl.toInt + 1 - (k - bl).toInt).toNat + 1) 0 (k - bl)))) (k + 1) (by first | assumption | omega | decide | solve_by_elim) (by omega) dc ds
theorem mro_b1 {wn : Nat} {pa co : List Int32} {b m9 : Int32} (hwn : wn ≤ 10) (hR : mRt 1 wn pa co) (hm : 0 ≤ m9.toInt) (h : (if wn = 0 then 1 else mirF pa co wn 1 b m9 (7 * (wn - 0) + (6 - 0) + 1) 0 0) = (0 : Int32)) : b.toInt ≠ 0 := fun e => by
  have e0 : b = 0 := Int32.toInt_inj.mp e
  subst e0
  exact absurd (h.symm.trans (mir_one hR hwn hm)) (by decide)
noncomputable def mroF1 (pa co : List Int32) (wn : Nat) (m9 : Int32) : Nat → Int32 → Int32
  | 0, _ => 0
  | m + 1, b => (if (if wn = 0 then 1 else mirF pa co wn 1 b m9 (7 * (wn - 0) + (6 - 0) + 1) 0 0) ≠ (0 : Int32) then b else (mroF1 pa co wn m9 m (b + (-1))))
set_option maxRecDepth 100000 in
set_option maxHeartbeats 4000000 in
theorem m_roL1 {h : zH} {n0 n2 n14 n15 n16 n17 n18 n19 n20 n21 n22 n23 n27 n28 n32 n33 n34 n35 n39 n52 : Int32} {kn pa co : List Int32} {wn : Nat} {m9 : Int32} (hM : zat h 162 = some (.inr (.inr (.inr (10, mO n0 n2 n14 n15 n16 n17 n18 n19 n20 n21 n22 n23 n27 n28 n32 n33 n34 n35 n39 n52))))) (hK : zat h 166 = some (.inl (0, 14, kn))) (hPa : zat h 214 = some (.inl (0, 132, pa))) (hCo : zat h 218 = some (.inl (0, 22, co))) (hkw : kn.getD 6 0 = nI wn ∧ wn ≤ 10) (hR : mRt 1 wn pa co) (hcb : ∀ q, q < 22 → -100000 ≤ (co.getD q 0).toInt ∧ (co.getD q 0).toInt ≤ 100000) (hm9 : 0 ≤ m9.toInt) : ∀ (m : Nat) (b : Int32), (0 ≤ b.toInt ∧ b.toInt ≤ 9) → b.toInt.toNat < m → ∀ (dc ds : Nat), wq 260 33 [(0, .ref 162), (1, .int 1), (2, .int m9), (4, .int b)] [] h dc ds (fun rr9 => rr9 = (some (Value.int (mroF1 pa co wn m9 m b)), h, dc, ds)) := by
  intro m
  induction m with
  | zero => intro b hb hms dc ds; omega
  | succ m ih =>
    intro b hb hms dc ds
    refine wq_gos (f := 1) (pc2 := 46) (ls2 := [(0, .ref 162), (1, .int 1), (2, .int m9), (4, .int b)]) (st2 := [.int m9, .int b, .int 1, .ref 162]) (h2 := h) (dc2 := dc) (ds2 := ds) 7 rfl ?_
    have q1x : (1 : Int32).toInt = 1 := rfl
    refine wq_inlv (y2 := 261) (as := [.int 1, .int b, .int m9]) rfl rfl rfl hM rfl (wq_mono (m_ir (r := 1) hM hK hPa hCo ⟨hkw.1, hkw.2, by decide⟩ ⟨hb.1, hb.2, hcb⟩) ?_)
    rintro _ rfl
    show wq 260 49 [(0, .ref 162), (1, .int 1), (2, .int m9), (4, .int b)] [.int (if wn = 0 then 1 else mirF pa co wn 1 b m9 (7 * (wn - 0) + (6 - 0) + 1) 0 0)] h dc ds _
    refine wq_ne0 rfl rfl (fun b3x => ?_) (fun b3x => ?_)
    · have q4x : (if wn = 0 then 1 else mirF pa co wn 1 b m9 (7 * (wn - 0) + (6 - 0) + 1) 0 0).toInt ≠ 0 := fun q => b3x (Int32.toInt_inj.mp q)
      refine wq_gos (f := 1) (pc2 := 60) (ls2 := [(0, .ref 162), (1, .int 1), (2, .int m9), (4, .int b)]) (st2 := [.int b]) (h2 := h) (dc2 := dc) (ds2 := ds) 1 rfl ?_
      have hx : (mroF1 pa co wn m9 (m + 1) b) = b := by show (if _ then _ else _) = _; rw [if_pos b3x]
      refine wq_ret rfl rfl ?_
      show (some (Value.int b), h, dc, ds) = (some (Value.int (mroF1 pa co wn m9 (m + 1) b)), h, dc, ds)
      rw [hx]
    · have q5x : (if wn = 0 then 1 else mirF pa co wn 1 b m9 (7 * (wn - 0) + (6 - 0) + 1) 0 0).toInt = 0 := congrArg Int32.toInt b3x
      have hb1 : b.toInt ≠ 0 := mro_b1 hkw.2 hR hm9 b3x
      refine wq_gos (f := 1) (pc2 := 33) (ls2 := [(4, .int (b + (-1))), (0, .ref 162), (1, .int 1), (2, .int m9)]) (st2 := []) (h2 := h) (dc2 := dc) (ds2 := ds) 2 rfl ?_
      have q6x : (-1 : Int32).toInt = -1 := rfl
      try have q7x : ((b + (-1))).toInt = b.toInt + (-1 : Int32).toInt := e_add (by omega) (by omega)
      have hx : (mroF1 pa co wn m9 (m + 1) b) = (mroF1 pa co wn m9 m (b + (-1))) := by show (if _ then _ else _) = _; rw [if_neg (fun q => q b3x)]
      rw [hx]
      refine wq_ls [(0, .ref 162), (1, .int 1), (2, .int m9), (4, .int (b + (-1)))] (show ([0, 1, 2, 4] : List Nat).Nodup by decide) ⟨rfl, rfl, rfl, rfl, trivial⟩ ?_
      exact ih (b + (-1)) (mro_d hb hb1) (mro_m hb hb1 hms) dc ds
set_option maxRecDepth 100000 in
set_option maxHeartbeats 4000000 in
theorem m_o251_1 {h : zH} {wn : Nat} {kn lo hi sv sq wy nw : List Int32} {n0 n2 n14 n15 n16 n17 n18 n19 n20 n21 n22 n23 n27 n28 n32 n33 n34 n35 n39 n52 : Int32} {am9 : mS}  (hM : zat h 162 = some (.inr (.inr (.inr (10, mO n0 n2 n14 n15 n16 n17 n18 n19 n20 n21 n22 n23 n27 n28 n32 n33 n34 n35 n39 n52))))) (hI : mIv h h wn kn lo hi sv sq wy nw n0 n2 n14 n15 n16 n17 n18 n19 n20 n21 n22 n23 n27 n28 n32 n33 n39 n52 am9)  : wq 251 0 [(0, .ref 162), (1, .int 1)] [] h 0 0 (fun r => ∃ v h2, r = (some (.int v), h2, 0, 0) ∧ mIv h h2 wn kn lo hi sv sq wy nw 0 n2 n14 n15 n16 n17 n18 n19 n20 n21 n22 n23 n27 n28 n32 n33 n39 n52 am9) := by
  have hI0 := hI
  obtain ⟨_, _, fo9, sm9, hr9, tk9, hT9, hS9, hP9, hF9, hN9, hb9, hR9, hK9⟩ := hI0
  have hKn9 := hT9.1
  have tf9 := hT9.2.2.2.2.2.2
  have hkn := tf9.1
  have hw10 := tf9.2.1
  have hbl9 := tf9.2.2.2.1
  have z0 : (0 : Int32).toInt = 0 := rfl
  have z1 : (1 : Int32).toInt = 1 := rfl
  have z5 : (5 : Int32).toInt = 5 := rfl
  have z6 : (6 : Int32).toInt = 6 := rfl
  have zm1 : (-1 : Int32).toInt = -1 := rfl
  have z3 : (3 : Int32).toInt = 3 := rfl
  have z2 : (2 : Int32).toInt = 2 := rfl
  have z20 : (20 : Int32).toInt = 20 := rfl
  have zn99 : (99 : Int32).toInt = 99 := rfl
  have qwn := nI_toInt (n := wn) (by omega)
  refine wq_gos (f := 1) (pc2 := 2) (ls2 := [(0, .ref 162), (1, .int 1)]) (st2 := [.int 0, .ref 162]) (h2 := h) (dc2 := 0) (ds2 := 0) 2 rfl ?_
  refine wq_putf rfl hM rfl rfl rfl ?_
  intro hh1x e2x ff3x lh4x
  have e2x : zat hh1x 162 = some (.inr (.inr (.inr (10, mO (0 : Int32) n2 n14 n15 n16 n17 n18 n19 n20 n21 n22 n23 n27 n28 n32 n33 n34 n35 n39 n52)))) := e2x
  refine wq_gos (f := 1) (pc2 := 7) (ls2 := [(0, .ref 162), (1, .int 1)]) (st2 := [.int 1, .ref 162]) (h2 := hh1x) (dc2 := 0) (ds2 := 0) 2 rfl ?_
  refine wq_inlv (y2 := 250) (as := [.int 1]) rfl rfl rfl e2x rfl ?_
  show wq 250 0 [(0, .ref 162), (1, .int 1)] [] hh1x 0 0 _
  refine wq_gos (f := 1) (pc2 := 10) (ls2 := [(0, .ref 162), (1, .int 1)]) (st2 := [.int 1, .ref 162]) (h2 := hh1x) (dc2 := 0) (ds2 := 0) 5 rfl ?_
  refine wq_inlv (y2 := 249) (as := [.int 1]) rfl rfl rfl e2x rfl (m_use1 e2x (mIv_0 hI ff3x (by omega) e2x) ?_ ?_)
  · intro h85x m345x m355x ri5x pa5x ch5x co5x tk5x th5x f85x l85x c05x c15x c25x c35x c45x c55x c65x c75x p05x p15x
    show wq 250 13 [(0, .ref 162), (1, .int 1)] [] h85x 0 0 _
    refine wq_gos (f := 1) (pc2 := 14) (ls2 := [(0, .ref 162), (1, .int 1)]) (st2 := [.ref 162]) (h2 := h85x) (dc2 := 0) (ds2 := 0) 1 rfl ?_
    refine wq_getf rfl c05x rfl rfl ?_
    refine wq_gos (f := 1) (pc2 := 26) (ls2 := [(0, .ref 162), (1, .int 1)]) (st2 := [.int 1, .ref 210]) (h2 := h85x) (dc2 := 0) (ds2 := 0) 4 rfl ?_
    have q6x : (1 : Int32).toInt = 1 := rfl
    refine wq_iald rfl c25x rfl rfl ?_
    refine wq_ret rfl rfl ?_
    show wq 251 10 [(0, .ref 162), (1, .int 1)] [.int (ri5x.getD 1 0)] h85x 0 0 _
    exact wq_ret rfl rfl ⟨_, h85x, rfl, p15x⟩
  · intro h87x m347x m357x ri7x pa7x ch7x co7x tk7x th7x T97x f87x l87x c07x c17x c27x c37x c47x c57x c67x c77x p07x p17x p27x p37x p47x
    have qT9 := nI_toInt (n := T97x) (by omega)
    show wq 250 13 [(0, .ref 162), (1, .int 1)] [] h87x 0 0 _
    refine wq_gos (f := 1) (pc2 := 14) (ls2 := [(0, .ref 162), (1, .int 1)]) (st2 := [.ref 162]) (h2 := h87x) (dc2 := 0) (ds2 := 0) 1 rfl ?_
    refine wq_getf rfl c07x rfl rfl ?_
    refine wq_gos (f := 1) (pc2 := 26) (ls2 := [(0, .ref 162), (1, .int 1)]) (st2 := [.int 1, .ref 210]) (h2 := h87x) (dc2 := 0) (ds2 := 0) 4 rfl ?_
    have q8x : (1 : Int32).toInt = 1 := rfl
    refine wq_iald rfl c27x rfl rfl ?_
    refine wq_vi p07x ?_
    refine wq_ret rfl rfl ?_
    show wq 251 10 [(0, .ref 162), (1, .int 1)] [.int (nI T97x)] h87x 0 0 _
    exact wq_ret rfl rfl ⟨_, h87x, rfl, p47x⟩
set_option maxRecDepth 100000 in
set_option maxHeartbeats 4000000 in
theorem m_o252_1 {h : zH} {wn : Nat} {kn lo hi sv sq wy nw : List Int32} {n0 n2 n14 n15 n16 n17 n18 n19 n20 n21 n22 n23 n27 n28 n32 n33 n34 n35 n39 n52 : Int32} {am9 : mS} {i : Int32} (hM : zat h 162 = some (.inr (.inr (.inr (10, mO n0 n2 n14 n15 n16 n17 n18 n19 n20 n21 n22 n23 n27 n28 n32 n33 n34 n35 n39 n52))))) (hI : mIv h h wn kn lo hi sv sq wy nw n0 n2 n14 n15 n16 n17 n18 n19 n20 n21 n22 n23 n27 n28 n32 n33 n39 n52 am9)  : wq 252 0 [(0, .ref 162), (1, .int 1), (2, .int i)] [] h 0 0 (fun r => ∃ v h2, r = (some (.int v), h2, 0, 0) ∧ mIv h h2 wn kn lo hi sv sq wy nw 0 n2 n14 n15 n16 n17 n18 n19 n20 n21 n22 n23 n27 n28 n32 n33 n39 n52 am9) := by
  have hI0 := hI
  obtain ⟨_, _, fo9, sm9, hr9, tk9, hT9, hS9, hP9, hF9, hN9, hb9, hR9, hK9⟩ := hI0
  have hKn9 := hT9.1
  have tf9 := hT9.2.2.2.2.2.2
  have hkn := tf9.1
  have hw10 := tf9.2.1
  have hbl9 := tf9.2.2.2.1
  have z0 : (0 : Int32).toInt = 0 := rfl
  have z1 : (1 : Int32).toInt = 1 := rfl
  have z5 : (5 : Int32).toInt = 5 := rfl
  have z6 : (6 : Int32).toInt = 6 := rfl
  have zm1 : (-1 : Int32).toInt = -1 := rfl
  have z3 : (3 : Int32).toInt = 3 := rfl
  have z2 : (2 : Int32).toInt = 2 := rfl
  have z20 : (20 : Int32).toInt = 20 := rfl
  have zn99 : (99 : Int32).toInt = 99 := rfl
  have qwn := nI_toInt (n := wn) (by omega)
  refine wq_gos (f := 1) (pc2 := 2) (ls2 := [(0, .ref 162), (1, .int 1), (2, .int i)]) (st2 := [.int 0, .ref 162]) (h2 := h) (dc2 := 0) (ds2 := 0) 2 rfl ?_
  refine wq_putf rfl hM rfl rfl rfl ?_
  intro hh1x e2x ff3x lh4x
  have e2x : zat hh1x 162 = some (.inr (.inr (.inr (10, mO (0 : Int32) n2 n14 n15 n16 n17 n18 n19 n20 n21 n22 n23 n27 n28 n32 n33 n34 n35 n39 n52)))) := e2x
  refine wq_gos (f := 1) (pc2 := 6) (ls2 := [(0, .ref 162), (1, .int 1), (2, .int i)]) (st2 := [.int i]) (h2 := hh1x) (dc2 := 0) (ds2 := 0) 1 rfl ?_
  refine wq_lt0 rfl rfl (fun b5x => ?_) (fun b5x => ?_)
  · refine wq_gos (f := 1) (pc2 := 18) (ls2 := [(0, .ref 162), (1, .int 1), (2, .int i)]) (st2 := [.int (-1)]) (h2 := hh1x) (dc2 := 0) (ds2 := 0) 1 rfl ?_
    exact wq_ret rfl rfl ⟨_, hh1x, rfl, mIv_0 hI ff3x (by omega) e2x⟩
  · refine wq_gos (f := 1) (pc2 := 11) (ls2 := [(0, .ref 162), (1, .int 1), (2, .int i)]) (st2 := [.ref 162, .int i]) (h2 := hh1x) (dc2 := 0) (ds2 := 0) 2 rfl ?_
    refine wq_inlv (y2 := 244) (as := []) rfl rfl rfl e2x rfl ?_
    show wq 244 0 [(0, .ref 162)] [] hh1x 0 0 _
    refine wq_gos (f := 1) (pc2 := 1) (ls2 := [(0, .ref 162)]) (st2 := [.ref 162]) (h2 := hh1x) (dc2 := 0) (ds2 := 0) 1 rfl ?_
    refine wq_getf rfl e2x rfl rfl ?_
    refine wq_gos (f := 1) (pc2 := 6) (ls2 := [(0, .ref 162)]) (st2 := [.int 6, .ref 166]) (h2 := hh1x) (dc2 := 0) (ds2 := 0) 1 rfl ?_
    have e6x := (ff3x.2 _ _ (wnc (by decide) wn0) hKn9)
    have q7x : (6 : Int32).toInt = 6 := rfl
    refine wq_iald rfl e6x rfl rfl ?_
    refine wq_vi hkn ?_
    refine wq_ret rfl rfl ?_
    show wq 252 14 [(0, .ref 162), (1, .int 1), (2, .int i)] [.int (nI wn), .int i] hh1x 0 0 _
    try have q8x := nI_toInt (n := wn) (by omega)
    refine wq_lt2 rfl rfl (fun b9x => ?_) (fun b9x => ?_)
    · refine wq_gos (f := 1) (pc2 := 21) (ls2 := [(0, .ref 162), (1, .int 1), (2, .int i)]) (st2 := [.int 1, .ref 162]) (h2 := hh1x) (dc2 := 0) (ds2 := 0) 2 rfl ?_
      refine wq_inlv (y2 := 250) (as := [.int 1]) rfl rfl rfl e2x rfl ?_
      show wq 250 0 [(0, .ref 162), (1, .int 1)] [] hh1x 0 0 _
      refine wq_gos (f := 1) (pc2 := 10) (ls2 := [(0, .ref 162), (1, .int 1)]) (st2 := [.int 1, .ref 162]) (h2 := hh1x) (dc2 := 0) (ds2 := 0) 5 rfl ?_
      refine wq_inlv (y2 := 249) (as := [.int 1]) rfl rfl rfl e2x rfl (m_use1 e2x (mIv_0 hI ff3x (by omega) e2x) ?_ ?_)
      · intro h810x m3410x m3510x ri10x pa10x ch10x co10x tk10x th10x f810x l810x c010x c110x c210x c310x c410x c510x c610x c710x p010x p110x
        show wq 250 13 [(0, .ref 162), (1, .int 1)] [] h810x 0 0 _
        refine wq_gos (f := 1) (pc2 := 14) (ls2 := [(0, .ref 162), (1, .int 1)]) (st2 := [.ref 162]) (h2 := h810x) (dc2 := 0) (ds2 := 0) 1 rfl ?_
        refine wq_getf rfl c010x rfl rfl ?_
        refine wq_gos (f := 1) (pc2 := 26) (ls2 := [(0, .ref 162), (1, .int 1)]) (st2 := [.int 1, .ref 210]) (h2 := h810x) (dc2 := 0) (ds2 := 0) 4 rfl ?_
        have q11x : (1 : Int32).toInt = 1 := rfl
        refine wq_iald rfl c210x rfl rfl ?_
        refine wq_ret rfl rfl ?_
        show wq 252 24 [(0, .ref 162), (1, .int 1), (2, .int i)] [.int (ri10x.getD 1 0)] h810x 0 0 _
        refine wq_gos (f := 1) (pc2 := 26) (ls2 := [(3, .int (ri10x.getD 1 0)), (0, .ref 162), (1, .int 1), (2, .int i)]) (st2 := [.int (ri10x.getD 1 0)]) (h2 := h810x) (dc2 := 0) (ds2 := 0) 2 rfl ?_
        refine wq_ge0f rfl rfl (by omega) ?_
        refine wq_gos (f := 1) (pc2 := 50) (ls2 := [(3, .int (ri10x.getD 1 0)), (0, .ref 162), (1, .int 1), (2, .int i)]) (st2 := [.int (ri10x.getD 1 0)]) (h2 := h810x) (dc2 := 0) (ds2 := 0) 2 rfl ?_
        exact wq_ret rfl rfl ⟨_, h810x, rfl, p110x⟩
      · intro h812x m3412x m3512x ri12x pa12x ch12x co12x tk12x th12x T912x f812x l812x c012x c112x c212x c312x c412x c512x c612x c712x p012x p112x p212x p312x p412x
        have qT9 := nI_toInt (n := T912x) (by omega)
        show wq 250 13 [(0, .ref 162), (1, .int 1)] [] h812x 0 0 _
        refine wq_gos (f := 1) (pc2 := 14) (ls2 := [(0, .ref 162), (1, .int 1)]) (st2 := [.ref 162]) (h2 := h812x) (dc2 := 0) (ds2 := 0) 1 rfl ?_
        refine wq_getf rfl c012x rfl rfl ?_
        refine wq_gos (f := 1) (pc2 := 26) (ls2 := [(0, .ref 162), (1, .int 1)]) (st2 := [.int 1, .ref 210]) (h2 := h812x) (dc2 := 0) (ds2 := 0) 4 rfl ?_
        have q13x : (1 : Int32).toInt = 1 := rfl
        refine wq_iald rfl c212x rfl rfl ?_
        refine wq_vi p012x ?_
        refine wq_ret rfl rfl ?_
        show wq 252 24 [(0, .ref 162), (1, .int 1), (2, .int i)] [.int (nI T912x)] h812x 0 0 _
        refine wq_gos (f := 1) (pc2 := 26) (ls2 := [(3, .int (nI T912x)), (0, .ref 162), (1, .int 1), (2, .int i)]) (st2 := [.int (nI T912x)]) (h2 := h812x) (dc2 := 0) (ds2 := 0) 2 rfl ?_
        try have q14x := nI_toInt (n := T912x) (by omega)
        refine wq_ge0t rfl (by omega) ?_
        refine wq_gos (f := 1) (pc2 := 34) (ls2 := [(3, .int (nI T912x)), (0, .ref 162), (1, .int 1), (2, .int i)]) (st2 := [.ref 162]) (h2 := h812x) (dc2 := 0) (ds2 := 0) 1 rfl ?_
        refine wq_getf rfl c012x rfl rfl ?_
        refine wq_gos (f := 1) (pc2 := 49) (ls2 := [(3, .int (nI T912x)), (0, .ref 162), (1, .int 1), (2, .int i)]) (st2 := [.int ((10 : Int32) + i), .ref 216]) (h2 := h812x) (dc2 := 0) (ds2 := 0) 6 rfl ?_
        have q15x : (10 : Int32).toInt = 10 := rfl
        try have q16x : (((10 : Int32) + i)).toInt = (10 : Int32).toInt + i.toInt := e_add (by omega) (by omega)
        refine wq_iald rfl c412x (by first | omega | exact zin_t (by omega) (by omega)) rfl ?_
        exact wq_ret rfl rfl ⟨_, h812x, rfl, p412x⟩
    · refine wq_gos (f := 1) (pc2 := 18) (ls2 := [(0, .ref 162), (1, .int 1), (2, .int i)]) (st2 := [.int (-1)]) (h2 := hh1x) (dc2 := 0) (ds2 := 0) 1 rfl ?_
      exact wq_ret rfl rfl ⟨_, hh1x, rfl, mIv_0 hI ff3x (by omega) e2x⟩
set_option maxRecDepth 100000 in
set_option maxHeartbeats 4000000 in
theorem m_o255_1 {h : zH} {wn : Nat} {kn lo hi sv sq wy nw : List Int32} {n0 n2 n14 n15 n16 n17 n18 n19 n20 n21 n22 n23 n27 n28 n32 n33 n34 n35 n39 n52 : Int32} {am9 : mS} {n : Int32} {j : Nat} (hM : zat h 162 = some (.inr (.inr (.inr (10, mO n0 n2 n14 n15 n16 n17 n18 n19 n20 n21 n22 n23 n27 n28 n32 n33 n34 n35 n39 n52))))) (hI : mIv h h wn kn lo hi sv sq wy nw n0 n2 n14 n15 n16 n17 n18 n19 n20 n21 n22 n23 n27 n28 n32 n33 n39 n52 am9) (hj : j < 6) : wq 255 0 [(0, .ref 162), (1, .int 1), (2, .int n), (3, .int (nI j))] [] h 0 0 (fun r => ∃ v h2, r = (some (.int v), h2, 0, 0) ∧ mIv h h2 wn kn lo hi sv sq wy nw 0 n2 n14 n15 n16 n17 n18 n19 n20 n21 n22 n23 n27 n28 n32 n33 n39 n52 am9) := by
  have hI0 := hI
  obtain ⟨_, _, fo9, sm9, hr9, tk9, hT9, hS9, hP9, hF9, hN9, hb9, hR9, hK9⟩ := hI0
  have hKn9 := hT9.1
  have tf9 := hT9.2.2.2.2.2.2
  have hkn := tf9.1
  have hw10 := tf9.2.1
  have hbl9 := tf9.2.2.2.1
  have z0 : (0 : Int32).toInt = 0 := rfl
  have z1 : (1 : Int32).toInt = 1 := rfl
  have z5 : (5 : Int32).toInt = 5 := rfl
  have z6 : (6 : Int32).toInt = 6 := rfl
  have zm1 : (-1 : Int32).toInt = -1 := rfl
  have z3 : (3 : Int32).toInt = 3 := rfl
  have z2 : (2 : Int32).toInt = 2 := rfl
  have z20 : (20 : Int32).toInt = 20 := rfl
  have zn99 : (99 : Int32).toInt = 99 := rfl
  have qwn := nI_toInt (n := wn) (by omega)
  have qnj := nI_toInt (n := j) (by omega)
  refine wq_gos (f := 1) (pc2 := 2) (ls2 := [(0, .ref 162), (1, .int 1), (2, .int n), (3, .int (nI j))]) (st2 := [.int 0, .ref 162]) (h2 := h) (dc2 := 0) (ds2 := 0) 2 rfl ?_
  refine wq_putf rfl hM rfl rfl rfl ?_
  intro hh1x e2x ff3x lh4x
  have e2x : zat hh1x 162 = some (.inr (.inr (.inr (10, mO (0 : Int32) n2 n14 n15 n16 n17 n18 n19 n20 n21 n22 n23 n27 n28 n32 n33 n34 n35 n39 n52)))) := e2x
  refine wq_gos (f := 1) (pc2 := 7) (ls2 := [(0, .ref 162), (1, .int 1), (2, .int n), (3, .int (nI j))]) (st2 := [.int 1, .ref 162]) (h2 := hh1x) (dc2 := 0) (ds2 := 0) 2 rfl ?_
  refine wq_inlv (y2 := 250) (as := [.int 1]) rfl rfl rfl e2x rfl ?_
  show wq 250 0 [(0, .ref 162), (1, .int 1)] [] hh1x 0 0 _
  refine wq_gos (f := 1) (pc2 := 10) (ls2 := [(0, .ref 162), (1, .int 1)]) (st2 := [.int 1, .ref 162]) (h2 := hh1x) (dc2 := 0) (ds2 := 0) 5 rfl ?_
  refine wq_inlv (y2 := 249) (as := [.int 1]) rfl rfl rfl e2x rfl (m_use1 e2x (mIv_0 hI ff3x (by omega) e2x) ?_ ?_)
  · intro h85x m345x m355x ri5x pa5x ch5x co5x tk5x th5x f85x l85x c05x c15x c25x c35x c45x c55x c65x c75x p05x p15x
    show wq 250 13 [(0, .ref 162), (1, .int 1)] [] h85x 0 0 _
    refine wq_gos (f := 1) (pc2 := 14) (ls2 := [(0, .ref 162), (1, .int 1)]) (st2 := [.ref 162]) (h2 := h85x) (dc2 := 0) (ds2 := 0) 1 rfl ?_
    refine wq_getf rfl c05x rfl rfl ?_
    refine wq_gos (f := 1) (pc2 := 26) (ls2 := [(0, .ref 162), (1, .int 1)]) (st2 := [.int 1, .ref 210]) (h2 := h85x) (dc2 := 0) (ds2 := 0) 4 rfl ?_
    have q6x : (1 : Int32).toInt = 1 := rfl
    refine wq_iald rfl c25x rfl rfl ?_
    refine wq_ret rfl rfl ?_
    show wq 255 10 [(0, .ref 162), (1, .int 1), (2, .int n), (3, .int (nI j))] [.int (ri5x.getD 1 0)] h85x 0 0 _
    refine wq_gos (f := 1) (pc2 := 14) (ls2 := [(4, .int (ri5x.getD 1 0)), (0, .ref 162), (1, .int 1), (2, .int n), (3, .int (nI j))]) (st2 := [.int (ri5x.getD 1 0)]) (h2 := h85x) (dc2 := 0) (ds2 := 0) 2 rfl ?_
    refine wq_lt0t rfl (by omega) ?_
    refine wq_gos (f := 1) (pc2 := 54) (ls2 := [(4, .int (ri5x.getD 1 0)), (0, .ref 162), (1, .int 1), (2, .int n), (3, .int (nI j))]) (st2 := [.int (-99)]) (h2 := h85x) (dc2 := 0) (ds2 := 0) 2 rfl ?_
    exact wq_ret rfl rfl ⟨_, h85x, rfl, p15x⟩
  · intro h87x m347x m357x ri7x pa7x ch7x co7x tk7x th7x T97x f87x l87x c07x c17x c27x c37x c47x c57x c67x c77x p07x p17x p27x p37x p47x
    have qT9 := nI_toInt (n := T97x) (by omega)
    show wq 250 13 [(0, .ref 162), (1, .int 1)] [] h87x 0 0 _
    refine wq_gos (f := 1) (pc2 := 14) (ls2 := [(0, .ref 162), (1, .int 1)]) (st2 := [.ref 162]) (h2 := h87x) (dc2 := 0) (ds2 := 0) 1 rfl ?_
    refine wq_getf rfl c07x rfl rfl ?_
    refine wq_gos (f := 1) (pc2 := 26) (ls2 := [(0, .ref 162), (1, .int 1)]) (st2 := [.int 1, .ref 210]) (h2 := h87x) (dc2 := 0) (ds2 := 0) 4 rfl ?_
    have q8x : (1 : Int32).toInt = 1 := rfl
    refine wq_iald rfl c27x rfl rfl ?_
    refine wq_vi p07x ?_
    refine wq_ret rfl rfl ?_
    show wq 255 10 [(0, .ref 162), (1, .int 1), (2, .int n), (3, .int (nI j))] [.int (nI T97x)] h87x 0 0 _
    refine wq_gos (f := 1) (pc2 := 14) (ls2 := [(4, .int (nI T97x)), (0, .ref 162), (1, .int 1), (2, .int n), (3, .int (nI j))]) (st2 := [.int (nI T97x)]) (h2 := h87x) (dc2 := 0) (ds2 := 0) 2 rfl ?_
    try have q9x := nI_toInt (n := T97x) (by omega)
    refine wq_lt0f rfl rfl (by omega) ?_
    refine wq_gos (f := 1) (pc2 := 18) (ls2 := [(4, .int (nI T97x)), (0, .ref 162), (1, .int 1), (2, .int n), (3, .int (nI j))]) (st2 := [.int n]) (h2 := h87x) (dc2 := 0) (ds2 := 0) 1 rfl ?_
    refine wq_lt0 rfl rfl (fun b10x => ?_) (fun b10x => ?_)
    · refine wq_gos (f := 1) (pc2 := 54) (ls2 := [(4, .int (nI T97x)), (0, .ref 162), (1, .int 1), (2, .int n), (3, .int (nI j))]) (st2 := [.int (-99)]) (h2 := h87x) (dc2 := 0) (ds2 := 0) 2 rfl ?_
      exact wq_ret rfl rfl ⟨_, h87x, rfl, p47x⟩
    · refine wq_gos (f := 1) (pc2 := 24) (ls2 := [(4, .int (nI T97x)), (0, .ref 162), (1, .int 1), (2, .int n), (3, .int (nI j))]) (st2 := [.int (nI T97x), .int n]) (h2 := h87x) (dc2 := 0) (ds2 := 0) 2 rfl ?_
      refine wq_gt2 rfl rfl (fun b11x => ?_) (fun b11x => ?_)
      · refine wq_gos (f := 1) (pc2 := 54) (ls2 := [(4, .int (nI T97x)), (0, .ref 162), (1, .int 1), (2, .int n), (3, .int (nI j))]) (st2 := [.int (-99)]) (h2 := h87x) (dc2 := 0) (ds2 := 0) 2 rfl ?_
        exact wq_ret rfl rfl ⟨_, h87x, rfl, p47x⟩
      · refine wq_gos (f := 1) (pc2 := 28) (ls2 := [(4, .int (nI T97x)), (0, .ref 162), (1, .int 1), (2, .int n), (3, .int (nI j))]) (st2 := [.int (nI j)]) (h2 := h87x) (dc2 := 0) (ds2 := 0) 1 rfl ?_
        refine wq_inl (y2 := 208) (as := [.int (nI j)]) rfl rfl rfl ?_
        show wq 208 0 [(0, .int (nI j))] [] h87x 0 0 _
        refine wq_gos (f := 1) (pc2 := 1) (ls2 := [(0, .int (nI j))]) (st2 := [.int (nI j)]) (h2 := h87x) (dc2 := 0) (ds2 := 0) 1 rfl ?_
        try have q12x := nI_toInt (n := j) (by omega)
        refine wq_lt0f rfl rfl (by omega) ?_
        refine wq_gos (f := 1) (pc2 := 7) (ls2 := [(0, .int (nI j))]) (st2 := [.int 6, .int (nI j)]) (h2 := h87x) (dc2 := 0) (ds2 := 0) 2 rfl ?_
        have q13x : (6 : Int32).toInt = 6 := rfl
        refine wq_ge2f rfl rfl (by omega) ?_
        refine wq_gos (f := 1) (pc2 := 15) (ls2 := [(0, .int (nI j))]) (st2 := [.int 1]) (h2 := h87x) (dc2 := 0) (ds2 := 0) 2 rfl ?_
        refine wq_ret rfl rfl ?_
        show wq 255 31 [(4, .int (nI T97x)), (0, .ref 162), (1, .int 1), (2, .int n), (3, .int (nI j))] [.int 1] h87x 0 0 _
        refine wq_gos (f := 1) (pc2 := 51) (ls2 := [(4, .int (nI T97x)), (0, .ref 162), (1, .int 1), (2, .int n), (3, .int (nI j))]) (st2 := [.int (nI j), .int n, .int 1, .ref 162]) (h2 := h87x) (dc2 := 0) (ds2 := 0) 8 rfl ?_
        refine wq_inlv (y2 := 253) (as := [.int 1, .int n, .int (nI j)]) rfl rfl rfl c07x rfl (wq_mono (m_ja (r := 1) c07x c17x c37x c57x ⟨hkn, hw10, by decide, hj⟩) ?_)
        rintro _ rfl
        show wq 255 54 [(4, .int (nI T97x)), (0, .ref 162), (1, .int 1), (2, .int n), (3, .int (nI j))] [.int (mJA pa7x co7x wn 1 j n)] h87x 0 0 _
        exact wq_ret rfl rfl ⟨_, h87x, rfl, p47x⟩
set_option maxRecDepth 100000 in
set_option maxHeartbeats 4000000 in
theorem m_o255N_1 {h : zH} {wn : Nat} {kn lo hi sv sq wy nw : List Int32} {n0 n2 n14 n15 n16 n17 n18 n19 n20 n21 n22 n23 n27 n28 n32 n33 n34 n35 n39 n52 : Int32} {am9 : mS} {n j : Int32} (hM : zat h 162 = some (.inr (.inr (.inr (10, mO n0 n2 n14 n15 n16 n17 n18 n19 n20 n21 n22 n23 n27 n28 n32 n33 n34 n35 n39 n52))))) (hI : mIv h h wn kn lo hi sv sq wy nw n0 n2 n14 n15 n16 n17 n18 n19 n20 n21 n22 n23 n27 n28 n32 n33 n39 n52 am9) (hj : j.toInt < 0 ∨ 5 < j.toInt) : wq 255 0 [(0, .ref 162), (1, .int 1), (2, .int n), (3, .int j)] [] h 0 0 (fun r => ∃ v h2, r = (some (.int v), h2, 0, 0) ∧ mIv h h2 wn kn lo hi sv sq wy nw 0 n2 n14 n15 n16 n17 n18 n19 n20 n21 n22 n23 n27 n28 n32 n33 n39 n52 am9) := by
  have hI0 := hI
  obtain ⟨_, _, fo9, sm9, hr9, tk9, hT9, hS9, hP9, hF9, hN9, hb9, hR9, hK9⟩ := hI0
  have hKn9 := hT9.1
  have tf9 := hT9.2.2.2.2.2.2
  have hkn := tf9.1
  have hw10 := tf9.2.1
  have hbl9 := tf9.2.2.2.1
  have z0 : (0 : Int32).toInt = 0 := rfl
  have z1 : (1 : Int32).toInt = 1 := rfl
  have z5 : (5 : Int32).toInt = 5 := rfl
  have z6 : (6 : Int32).toInt = 6 := rfl
  have zm1 : (-1 : Int32).toInt = -1 := rfl
  have z3 : (3 : Int32).toInt = 3 := rfl
  have z2 : (2 : Int32).toInt = 2 := rfl
  have z20 : (20 : Int32).toInt = 20 := rfl
  have zn99 : (99 : Int32).toInt = 99 := rfl
  have qwn := nI_toInt (n := wn) (by omega)
  refine wq_gos (f := 1) (pc2 := 2) (ls2 := [(0, .ref 162), (1, .int 1), (2, .int n), (3, .int j)]) (st2 := [.int 0, .ref 162]) (h2 := h) (dc2 := 0) (ds2 := 0) 2 rfl ?_
  refine wq_putf rfl hM rfl rfl rfl ?_
  intro hh1x e2x ff3x lh4x
  have e2x : zat hh1x 162 = some (.inr (.inr (.inr (10, mO (0 : Int32) n2 n14 n15 n16 n17 n18 n19 n20 n21 n22 n23 n27 n28 n32 n33 n34 n35 n39 n52)))) := e2x
  refine wq_gos (f := 1) (pc2 := 7) (ls2 := [(0, .ref 162), (1, .int 1), (2, .int n), (3, .int j)]) (st2 := [.int 1, .ref 162]) (h2 := hh1x) (dc2 := 0) (ds2 := 0) 2 rfl ?_
  refine wq_inlv (y2 := 250) (as := [.int 1]) rfl rfl rfl e2x rfl ?_
  show wq 250 0 [(0, .ref 162), (1, .int 1)] [] hh1x 0 0 _
  refine wq_gos (f := 1) (pc2 := 10) (ls2 := [(0, .ref 162), (1, .int 1)]) (st2 := [.int 1, .ref 162]) (h2 := hh1x) (dc2 := 0) (ds2 := 0) 5 rfl ?_
  refine wq_inlv (y2 := 249) (as := [.int 1]) rfl rfl rfl e2x rfl (m_use1 e2x (mIv_0 hI ff3x (by omega) e2x) ?_ ?_)
  · intro h85x m345x m355x ri5x pa5x ch5x co5x tk5x th5x f85x l85x c05x c15x c25x c35x c45x c55x c65x c75x p05x p15x
    show wq 250 13 [(0, .ref 162), (1, .int 1)] [] h85x 0 0 _
    refine wq_gos (f := 1) (pc2 := 14) (ls2 := [(0, .ref 162), (1, .int 1)]) (st2 := [.ref 162]) (h2 := h85x) (dc2 := 0) (ds2 := 0) 1 rfl ?_
    refine wq_getf rfl c05x rfl rfl ?_
    refine wq_gos (f := 1) (pc2 := 26) (ls2 := [(0, .ref 162), (1, .int 1)]) (st2 := [.int 1, .ref 210]) (h2 := h85x) (dc2 := 0) (ds2 := 0) 4 rfl ?_
    have q6x : (1 : Int32).toInt = 1 := rfl
    refine wq_iald rfl c25x rfl rfl ?_
    refine wq_ret rfl rfl ?_
    show wq 255 10 [(0, .ref 162), (1, .int 1), (2, .int n), (3, .int j)] [.int (ri5x.getD 1 0)] h85x 0 0 _
    refine wq_gos (f := 1) (pc2 := 14) (ls2 := [(4, .int (ri5x.getD 1 0)), (0, .ref 162), (1, .int 1), (2, .int n), (3, .int j)]) (st2 := [.int (ri5x.getD 1 0)]) (h2 := h85x) (dc2 := 0) (ds2 := 0) 2 rfl ?_
    refine wq_lt0t rfl (by omega) ?_
    refine wq_gos (f := 1) (pc2 := 54) (ls2 := [(4, .int (ri5x.getD 1 0)), (0, .ref 162), (1, .int 1), (2, .int n), (3, .int j)]) (st2 := [.int (-99)]) (h2 := h85x) (dc2 := 0) (ds2 := 0) 2 rfl ?_
    exact wq_ret rfl rfl ⟨_, h85x, rfl, p15x⟩
  · intro h87x m347x m357x ri7x pa7x ch7x co7x tk7x th7x T97x f87x l87x c07x c17x c27x c37x c47x c57x c67x c77x p07x p17x p27x p37x p47x
    have qT9 := nI_toInt (n := T97x) (by omega)
    show wq 250 13 [(0, .ref 162), (1, .int 1)] [] h87x 0 0 _
    refine wq_gos (f := 1) (pc2 := 14) (ls2 := [(0, .ref 162), (1, .int 1)]) (st2 := [.ref 162]) (h2 := h87x) (dc2 := 0) (ds2 := 0) 1 rfl ?_
    refine wq_getf rfl c07x rfl rfl ?_
    refine wq_gos (f := 1) (pc2 := 26) (ls2 := [(0, .ref 162), (1, .int 1)]) (st2 := [.int 1, .ref 210]) (h2 := h87x) (dc2 := 0) (ds2 := 0) 4 rfl ?_
    have q8x : (1 : Int32).toInt = 1 := rfl
    refine wq_iald rfl c27x rfl rfl ?_
    refine wq_vi p07x ?_
    refine wq_ret rfl rfl ?_
    show wq 255 10 [(0, .ref 162), (1, .int 1), (2, .int n), (3, .int j)] [.int (nI T97x)] h87x 0 0 _
    refine wq_gos (f := 1) (pc2 := 14) (ls2 := [(4, .int (nI T97x)), (0, .ref 162), (1, .int 1), (2, .int n), (3, .int j)]) (st2 := [.int (nI T97x)]) (h2 := h87x) (dc2 := 0) (ds2 := 0) 2 rfl ?_
    try have q9x := nI_toInt (n := T97x) (by omega)
    refine wq_lt0f rfl rfl (by omega) ?_
    refine wq_gos (f := 1) (pc2 := 18) (ls2 := [(4, .int (nI T97x)), (0, .ref 162), (1, .int 1), (2, .int n), (3, .int j)]) (st2 := [.int n]) (h2 := h87x) (dc2 := 0) (ds2 := 0) 1 rfl ?_
    refine wq_lt0 rfl rfl (fun b10x => ?_) (fun b10x => ?_)
    · refine wq_gos (f := 1) (pc2 := 54) (ls2 := [(4, .int (nI T97x)), (0, .ref 162), (1, .int 1), (2, .int n), (3, .int j)]) (st2 := [.int (-99)]) (h2 := h87x) (dc2 := 0) (ds2 := 0) 2 rfl ?_
      exact wq_ret rfl rfl ⟨_, h87x, rfl, p47x⟩
    · refine wq_gos (f := 1) (pc2 := 24) (ls2 := [(4, .int (nI T97x)), (0, .ref 162), (1, .int 1), (2, .int n), (3, .int j)]) (st2 := [.int (nI T97x), .int n]) (h2 := h87x) (dc2 := 0) (ds2 := 0) 2 rfl ?_
      refine wq_gt2 rfl rfl (fun b11x => ?_) (fun b11x => ?_)
      · refine wq_gos (f := 1) (pc2 := 54) (ls2 := [(4, .int (nI T97x)), (0, .ref 162), (1, .int 1), (2, .int n), (3, .int j)]) (st2 := [.int (-99)]) (h2 := h87x) (dc2 := 0) (ds2 := 0) 2 rfl ?_
        exact wq_ret rfl rfl ⟨_, h87x, rfl, p47x⟩
      · refine wq_gos (f := 1) (pc2 := 28) (ls2 := [(4, .int (nI T97x)), (0, .ref 162), (1, .int 1), (2, .int n), (3, .int j)]) (st2 := [.int j]) (h2 := h87x) (dc2 := 0) (ds2 := 0) 1 rfl ?_
        refine wq_inl (y2 := 208) (as := [.int j]) rfl rfl rfl ?_
        show wq 208 0 [(0, .int j)] [] h87x 0 0 _
        refine wq_gos (f := 1) (pc2 := 1) (ls2 := [(0, .int j)]) (st2 := [.int j]) (h2 := h87x) (dc2 := 0) (ds2 := 0) 1 rfl ?_
        refine wq_lt0 rfl rfl (fun b12x => ?_) (fun b12x => ?_)
        · refine wq_gos (f := 1) (pc2 := 15) (ls2 := [(0, .int j)]) (st2 := [.int 0]) (h2 := h87x) (dc2 := 0) (ds2 := 0) 1 rfl ?_
          refine wq_ret rfl rfl ?_
          show wq 255 31 [(4, .int (nI T97x)), (0, .ref 162), (1, .int 1), (2, .int n), (3, .int j)] [.int 0] h87x 0 0 _
          refine wq_gos (f := 1) (pc2 := 54) (ls2 := [(4, .int (nI T97x)), (0, .ref 162), (1, .int 1), (2, .int n), (3, .int j)]) (st2 := [.int (-99)]) (h2 := h87x) (dc2 := 0) (ds2 := 0) 3 rfl ?_
          exact wq_ret rfl rfl ⟨_, h87x, rfl, p47x⟩
        · refine wq_gos (f := 1) (pc2 := 7) (ls2 := [(0, .int j)]) (st2 := [.int 6, .int j]) (h2 := h87x) (dc2 := 0) (ds2 := 0) 2 rfl ?_
          have q13x : (6 : Int32).toInt = 6 := rfl
          refine wq_ge2t rfl (by omega) ?_
          refine wq_gos (f := 1) (pc2 := 15) (ls2 := [(0, .int j)]) (st2 := [.int 0]) (h2 := h87x) (dc2 := 0) (ds2 := 0) 1 rfl ?_
          refine wq_ret rfl rfl ?_
          show wq 255 31 [(4, .int (nI T97x)), (0, .ref 162), (1, .int 1), (2, .int n), (3, .int j)] [.int 0] h87x 0 0 _
          refine wq_gos (f := 1) (pc2 := 54) (ls2 := [(4, .int (nI T97x)), (0, .ref 162), (1, .int 1), (2, .int n), (3, .int j)]) (st2 := [.int (-99)]) (h2 := h87x) (dc2 := 0) (ds2 := 0) 3 rfl ?_
          exact wq_ret rfl rfl ⟨_, h87x, rfl, p47x⟩
set_option maxRecDepth 100000 in
set_option maxHeartbeats 4000000 in
theorem m_o256_1 {h : zH} {wn : Nat} {kn lo hi sv sq wy nw : List Int32} {n0 n2 n14 n15 n16 n17 n18 n19 n20 n21 n22 n23 n27 n28 n32 n33 n34 n35 n39 n52 : Int32} {am9 : mS} {n : Int32} {j : Nat} (hM : zat h 162 = some (.inr (.inr (.inr (10, mO n0 n2 n14 n15 n16 n17 n18 n19 n20 n21 n22 n23 n27 n28 n32 n33 n34 n35 n39 n52))))) (hI : mIv h h wn kn lo hi sv sq wy nw n0 n2 n14 n15 n16 n17 n18 n19 n20 n21 n22 n23 n27 n28 n32 n33 n39 n52 am9) (hj : j < 6) : wq 256 0 [(0, .ref 162), (1, .int 1), (2, .int n), (3, .int (nI j))] [] h 0 0 (fun r => ∃ v h2, r = (some (.int v), h2, 0, 0) ∧ mIv h h2 wn kn lo hi sv sq wy nw 0 n2 n14 n15 n16 n17 n18 n19 n20 n21 n22 n23 n27 n28 n32 n33 n39 n52 am9) := by
  have hI0 := hI
  obtain ⟨_, _, fo9, sm9, hr9, tk9, hT9, hS9, hP9, hF9, hN9, hb9, hR9, hK9⟩ := hI0
  have hKn9 := hT9.1
  have tf9 := hT9.2.2.2.2.2.2
  have hkn := tf9.1
  have hw10 := tf9.2.1
  have hbl9 := tf9.2.2.2.1
  have z0 : (0 : Int32).toInt = 0 := rfl
  have z1 : (1 : Int32).toInt = 1 := rfl
  have z5 : (5 : Int32).toInt = 5 := rfl
  have z6 : (6 : Int32).toInt = 6 := rfl
  have zm1 : (-1 : Int32).toInt = -1 := rfl
  have z3 : (3 : Int32).toInt = 3 := rfl
  have z2 : (2 : Int32).toInt = 2 := rfl
  have z20 : (20 : Int32).toInt = 20 := rfl
  have zn99 : (99 : Int32).toInt = 99 := rfl
  have qwn := nI_toInt (n := wn) (by omega)
  have qnj := nI_toInt (n := j) (by omega)
  refine wq_gos (f := 1) (pc2 := 2) (ls2 := [(0, .ref 162), (1, .int 1), (2, .int n), (3, .int (nI j))]) (st2 := [.int 0, .ref 162]) (h2 := h) (dc2 := 0) (ds2 := 0) 2 rfl ?_
  refine wq_putf rfl hM rfl rfl rfl ?_
  intro hh1x e2x ff3x lh4x
  have e2x : zat hh1x 162 = some (.inr (.inr (.inr (10, mO (0 : Int32) n2 n14 n15 n16 n17 n18 n19 n20 n21 n22 n23 n27 n28 n32 n33 n34 n35 n39 n52)))) := e2x
  refine wq_gos (f := 1) (pc2 := 7) (ls2 := [(0, .ref 162), (1, .int 1), (2, .int n), (3, .int (nI j))]) (st2 := [.int 1, .ref 162]) (h2 := hh1x) (dc2 := 0) (ds2 := 0) 2 rfl ?_
  refine wq_inlv (y2 := 250) (as := [.int 1]) rfl rfl rfl e2x rfl ?_
  show wq 250 0 [(0, .ref 162), (1, .int 1)] [] hh1x 0 0 _
  refine wq_gos (f := 1) (pc2 := 10) (ls2 := [(0, .ref 162), (1, .int 1)]) (st2 := [.int 1, .ref 162]) (h2 := hh1x) (dc2 := 0) (ds2 := 0) 5 rfl ?_
  refine wq_inlv (y2 := 249) (as := [.int 1]) rfl rfl rfl e2x rfl (m_use1 e2x (mIv_0 hI ff3x (by omega) e2x) ?_ ?_)
  · intro h85x m345x m355x ri5x pa5x ch5x co5x tk5x th5x f85x l85x c05x c15x c25x c35x c45x c55x c65x c75x p05x p15x
    show wq 250 13 [(0, .ref 162), (1, .int 1)] [] h85x 0 0 _
    refine wq_gos (f := 1) (pc2 := 14) (ls2 := [(0, .ref 162), (1, .int 1)]) (st2 := [.ref 162]) (h2 := h85x) (dc2 := 0) (ds2 := 0) 1 rfl ?_
    refine wq_getf rfl c05x rfl rfl ?_
    refine wq_gos (f := 1) (pc2 := 26) (ls2 := [(0, .ref 162), (1, .int 1)]) (st2 := [.int 1, .ref 210]) (h2 := h85x) (dc2 := 0) (ds2 := 0) 4 rfl ?_
    have q6x : (1 : Int32).toInt = 1 := rfl
    refine wq_iald rfl c25x rfl rfl ?_
    refine wq_ret rfl rfl ?_
    show wq 256 10 [(0, .ref 162), (1, .int 1), (2, .int n), (3, .int (nI j))] [.int (ri5x.getD 1 0)] h85x 0 0 _
    refine wq_gos (f := 1) (pc2 := 13) (ls2 := [(4, .int (ri5x.getD 1 0)), (0, .ref 162), (1, .int 1), (2, .int n), (3, .int (nI j))]) (st2 := [.ref 162]) (h2 := h85x) (dc2 := 0) (ds2 := 0) 2 rfl ?_
    refine wq_getf rfl c05x rfl rfl ?_
    refine wq_gos (f := 1) (pc2 := 17) (ls2 := [(4, .int (ri5x.getD 1 0)), (0, .ref 162), (1, .int 1), (2, .int n), (3, .int (nI j))]) (st2 := [.int 3, .ref 166]) (h2 := h85x) (dc2 := 0) (ds2 := 0) 1 rfl ?_
    have q7x : (3 : Int32).toInt = 3 := rfl
    refine wq_iald rfl c15x rfl rfl ?_
    refine wq_gos (f := 1) (pc2 := 22) (ls2 := [(5, .int (kn.getD 3 0)), (4, .int (ri5x.getD 1 0)), (0, .ref 162), (1, .int 1), (2, .int n), (3, .int (nI j))]) (st2 := [.int (ri5x.getD 1 0)]) (h2 := h85x) (dc2 := 0) (ds2 := 0) 2 rfl ?_
    refine wq_lt0t rfl (by omega) ?_
    refine wq_gos (f := 1) (pc2 := 71) (ls2 := [(5, .int (kn.getD 3 0)), (4, .int (ri5x.getD 1 0)), (0, .ref 162), (1, .int 1), (2, .int n), (3, .int (nI j))]) (st2 := [.int (-9999)]) (h2 := h85x) (dc2 := 0) (ds2 := 0) 2 rfl ?_
    exact wq_ret rfl rfl ⟨_, h85x, rfl, p15x⟩
  · intro h88x m348x m358x ri8x pa8x ch8x co8x tk8x th8x T98x f88x l88x c08x c18x c28x c38x c48x c58x c68x c78x p08x p18x p28x p38x p48x
    have qT9 := nI_toInt (n := T98x) (by omega)
    show wq 250 13 [(0, .ref 162), (1, .int 1)] [] h88x 0 0 _
    refine wq_gos (f := 1) (pc2 := 14) (ls2 := [(0, .ref 162), (1, .int 1)]) (st2 := [.ref 162]) (h2 := h88x) (dc2 := 0) (ds2 := 0) 1 rfl ?_
    refine wq_getf rfl c08x rfl rfl ?_
    refine wq_gos (f := 1) (pc2 := 26) (ls2 := [(0, .ref 162), (1, .int 1)]) (st2 := [.int 1, .ref 210]) (h2 := h88x) (dc2 := 0) (ds2 := 0) 4 rfl ?_
    have q9x : (1 : Int32).toInt = 1 := rfl
    refine wq_iald rfl c28x rfl rfl ?_
    refine wq_vi p08x ?_
    refine wq_ret rfl rfl ?_
    show wq 256 10 [(0, .ref 162), (1, .int 1), (2, .int n), (3, .int (nI j))] [.int (nI T98x)] h88x 0 0 _
    refine wq_gos (f := 1) (pc2 := 13) (ls2 := [(4, .int (nI T98x)), (0, .ref 162), (1, .int 1), (2, .int n), (3, .int (nI j))]) (st2 := [.ref 162]) (h2 := h88x) (dc2 := 0) (ds2 := 0) 2 rfl ?_
    refine wq_getf rfl c08x rfl rfl ?_
    refine wq_gos (f := 1) (pc2 := 17) (ls2 := [(4, .int (nI T98x)), (0, .ref 162), (1, .int 1), (2, .int n), (3, .int (nI j))]) (st2 := [.int 3, .ref 166]) (h2 := h88x) (dc2 := 0) (ds2 := 0) 1 rfl ?_
    have q10x : (3 : Int32).toInt = 3 := rfl
    refine wq_iald rfl c18x rfl rfl ?_
    refine wq_gos (f := 1) (pc2 := 22) (ls2 := [(5, .int (kn.getD 3 0)), (4, .int (nI T98x)), (0, .ref 162), (1, .int 1), (2, .int n), (3, .int (nI j))]) (st2 := [.int (nI T98x)]) (h2 := h88x) (dc2 := 0) (ds2 := 0) 2 rfl ?_
    try have q11x := nI_toInt (n := T98x) (by omega)
    refine wq_lt0f rfl rfl (by omega) ?_
    refine wq_gos (f := 1) (pc2 := 29) (ls2 := [(5, .int (kn.getD 3 0)), (4, .int (nI T98x)), (0, .ref 162), (1, .int 1), (2, .int n), (3, .int (nI j))]) (st2 := [.int (-(kn.getD 3 0)), .int n]) (h2 := h88x) (dc2 := 0) (ds2 := 0) 3 rfl ?_
    try have q12x : ((-(kn.getD 3 0))).toInt = -(kn.getD 3 0).toInt := e_neg (by omega)
    refine wq_lt2 rfl rfl (fun b13x => ?_) (fun b13x => ?_)
    · refine wq_gos (f := 1) (pc2 := 71) (ls2 := [(5, .int (kn.getD 3 0)), (4, .int (nI T98x)), (0, .ref 162), (1, .int 1), (2, .int n), (3, .int (nI j))]) (st2 := [.int (-9999)]) (h2 := h88x) (dc2 := 0) (ds2 := 0) 2 rfl ?_
      exact wq_ret rfl rfl ⟨_, h88x, rfl, p48x⟩
    · refine wq_gos (f := 1) (pc2 := 38) (ls2 := [(5, .int (kn.getD 3 0)), (4, .int (nI T98x)), (0, .ref 162), (1, .int 1), (2, .int n), (3, .int (nI j))]) (st2 := [.int ((nI T98x) + (kn.getD 3 0)), .int n]) (h2 := h88x) (dc2 := 0) (ds2 := 0) 4 rfl ?_
      try have q14x : (((nI T98x) + (kn.getD 3 0))).toInt = (nI T98x).toInt + (kn.getD 3 0).toInt := e_add (by omega) (by omega)
      refine wq_gt2 rfl rfl (fun b15x => ?_) (fun b15x => ?_)
      · refine wq_gos (f := 1) (pc2 := 71) (ls2 := [(5, .int (kn.getD 3 0)), (4, .int (nI T98x)), (0, .ref 162), (1, .int 1), (2, .int n), (3, .int (nI j))]) (st2 := [.int (-9999)]) (h2 := h88x) (dc2 := 0) (ds2 := 0) 2 rfl ?_
        exact wq_ret rfl rfl ⟨_, h88x, rfl, p48x⟩
      · refine wq_gos (f := 1) (pc2 := 42) (ls2 := [(5, .int (kn.getD 3 0)), (4, .int (nI T98x)), (0, .ref 162), (1, .int 1), (2, .int n), (3, .int (nI j))]) (st2 := [.int (nI j)]) (h2 := h88x) (dc2 := 0) (ds2 := 0) 1 rfl ?_
        refine wq_inl (y2 := 208) (as := [.int (nI j)]) rfl rfl rfl ?_
        show wq 208 0 [(0, .int (nI j))] [] h88x 0 0 _
        refine wq_gos (f := 1) (pc2 := 1) (ls2 := [(0, .int (nI j))]) (st2 := [.int (nI j)]) (h2 := h88x) (dc2 := 0) (ds2 := 0) 1 rfl ?_
        try have q16x := nI_toInt (n := j) (by omega)
        refine wq_lt0f rfl rfl (by omega) ?_
        refine wq_gos (f := 1) (pc2 := 7) (ls2 := [(0, .int (nI j))]) (st2 := [.int 6, .int (nI j)]) (h2 := h88x) (dc2 := 0) (ds2 := 0) 2 rfl ?_
        have q17x : (6 : Int32).toInt = 6 := rfl
        refine wq_ge2f rfl rfl (by omega) ?_
        refine wq_gos (f := 1) (pc2 := 15) (ls2 := [(0, .int (nI j))]) (st2 := [.int 1]) (h2 := h88x) (dc2 := 0) (ds2 := 0) 2 rfl ?_
        refine wq_ret rfl rfl ?_
        show wq 256 45 [(5, .int (kn.getD 3 0)), (4, .int (nI T98x)), (0, .ref 162), (1, .int 1), (2, .int n), (3, .int (nI j))] [.int 1] h88x 0 0 _
        refine wq_gos (f := 1) (pc2 := 68) (ls2 := [(5, .int (kn.getD 3 0)), (4, .int (nI T98x)), (0, .ref 162), (1, .int 1), (2, .int n), (3, .int (nI j))]) (st2 := [.int (kn.getD 3 0), .int (nI j), .int n, .int 1, .ref 162]) (h2 := h88x) (dc2 := 0) (ds2 := 0) 9 rfl ?_
        refine wq_inlv (y2 := 254) (as := [.int 1, .int n, .int (nI j), .int (kn.getD 3 0)]) rfl rfl rfl c08x rfl (wq_mono (m_bb (r := 1) c08x c18x c38x c58x ⟨hkn, hw10, by decide, hj⟩ (by first | assumption | omega | decide | solve_by_elim)) ?_)
        rintro _ rfl
        show wq 256 71 [(5, .int (kn.getD 3 0)), (4, .int (nI T98x)), (0, .ref 162), (1, .int 1), (2, .int n), (3, .int (nI j))] [.int (mbbF pa8x co8x wn 1 j n (kn.getD 3 0) ((n.toInt + (kn.getD 3 0).toInt + 1 - (n - (kn.getD 3 0)).toInt).toNat + 1) 0 (n - (kn.getD 3 0)))] h88x 0 0 _
        exact wq_ret rfl rfl ⟨_, h88x, rfl, p48x⟩
set_option maxRecDepth 100000 in
set_option maxHeartbeats 4000000 in
theorem m_o256N_1 {h : zH} {wn : Nat} {kn lo hi sv sq wy nw : List Int32} {n0 n2 n14 n15 n16 n17 n18 n19 n20 n21 n22 n23 n27 n28 n32 n33 n34 n35 n39 n52 : Int32} {am9 : mS} {n j : Int32} (hM : zat h 162 = some (.inr (.inr (.inr (10, mO n0 n2 n14 n15 n16 n17 n18 n19 n20 n21 n22 n23 n27 n28 n32 n33 n34 n35 n39 n52))))) (hI : mIv h h wn kn lo hi sv sq wy nw n0 n2 n14 n15 n16 n17 n18 n19 n20 n21 n22 n23 n27 n28 n32 n33 n39 n52 am9) (hj : j.toInt < 0 ∨ 5 < j.toInt) : wq 256 0 [(0, .ref 162), (1, .int 1), (2, .int n), (3, .int j)] [] h 0 0 (fun r => ∃ v h2, r = (some (.int v), h2, 0, 0) ∧ mIv h h2 wn kn lo hi sv sq wy nw 0 n2 n14 n15 n16 n17 n18 n19 n20 n21 n22 n23 n27 n28 n32 n33 n39 n52 am9) := by
  have hI0 := hI
  obtain ⟨_, _, fo9, sm9, hr9, tk9, hT9, hS9, hP9, hF9, hN9, hb9, hR9, hK9⟩ := hI0
  have hKn9 := hT9.1
  have tf9 := hT9.2.2.2.2.2.2
  have hkn := tf9.1
  have hw10 := tf9.2.1
  have hbl9 := tf9.2.2.2.1
  have z0 : (0 : Int32).toInt = 0 := rfl
  have z1 : (1 : Int32).toInt = 1 := rfl
  have z5 : (5 : Int32).toInt = 5 := rfl
  have z6 : (6 : Int32).toInt = 6 := rfl
  have zm1 : (-1 : Int32).toInt = -1 := rfl
  have z3 : (3 : Int32).toInt = 3 := rfl
  have z2 : (2 : Int32).toInt = 2 := rfl
  have z20 : (20 : Int32).toInt = 20 := rfl
  have zn99 : (99 : Int32).toInt = 99 := rfl
  have qwn := nI_toInt (n := wn) (by omega)
  refine wq_gos (f := 1) (pc2 := 2) (ls2 := [(0, .ref 162), (1, .int 1), (2, .int n), (3, .int j)]) (st2 := [.int 0, .ref 162]) (h2 := h) (dc2 := 0) (ds2 := 0) 2 rfl ?_
  refine wq_putf rfl hM rfl rfl rfl ?_
  intro hh1x e2x ff3x lh4x
  have e2x : zat hh1x 162 = some (.inr (.inr (.inr (10, mO (0 : Int32) n2 n14 n15 n16 n17 n18 n19 n20 n21 n22 n23 n27 n28 n32 n33 n34 n35 n39 n52)))) := e2x
  refine wq_gos (f := 1) (pc2 := 7) (ls2 := [(0, .ref 162), (1, .int 1), (2, .int n), (3, .int j)]) (st2 := [.int 1, .ref 162]) (h2 := hh1x) (dc2 := 0) (ds2 := 0) 2 rfl ?_
  refine wq_inlv (y2 := 250) (as := [.int 1]) rfl rfl rfl e2x rfl ?_
  show wq 250 0 [(0, .ref 162), (1, .int 1)] [] hh1x 0 0 _
  refine wq_gos (f := 1) (pc2 := 10) (ls2 := [(0, .ref 162), (1, .int 1)]) (st2 := [.int 1, .ref 162]) (h2 := hh1x) (dc2 := 0) (ds2 := 0) 5 rfl ?_
  refine wq_inlv (y2 := 249) (as := [.int 1]) rfl rfl rfl e2x rfl (m_use1 e2x (mIv_0 hI ff3x (by omega) e2x) ?_ ?_)
  · intro h85x m345x m355x ri5x pa5x ch5x co5x tk5x th5x f85x l85x c05x c15x c25x c35x c45x c55x c65x c75x p05x p15x
    show wq 250 13 [(0, .ref 162), (1, .int 1)] [] h85x 0 0 _
    refine wq_gos (f := 1) (pc2 := 14) (ls2 := [(0, .ref 162), (1, .int 1)]) (st2 := [.ref 162]) (h2 := h85x) (dc2 := 0) (ds2 := 0) 1 rfl ?_
    refine wq_getf rfl c05x rfl rfl ?_
    refine wq_gos (f := 1) (pc2 := 26) (ls2 := [(0, .ref 162), (1, .int 1)]) (st2 := [.int 1, .ref 210]) (h2 := h85x) (dc2 := 0) (ds2 := 0) 4 rfl ?_
    have q6x : (1 : Int32).toInt = 1 := rfl
    refine wq_iald rfl c25x rfl rfl ?_
    refine wq_ret rfl rfl ?_
    show wq 256 10 [(0, .ref 162), (1, .int 1), (2, .int n), (3, .int j)] [.int (ri5x.getD 1 0)] h85x 0 0 _
    refine wq_gos (f := 1) (pc2 := 13) (ls2 := [(4, .int (ri5x.getD 1 0)), (0, .ref 162), (1, .int 1), (2, .int n), (3, .int j)]) (st2 := [.ref 162]) (h2 := h85x) (dc2 := 0) (ds2 := 0) 2 rfl ?_
    refine wq_getf rfl c05x rfl rfl ?_
    refine wq_gos (f := 1) (pc2 := 17) (ls2 := [(4, .int (ri5x.getD 1 0)), (0, .ref 162), (1, .int 1), (2, .int n), (3, .int j)]) (st2 := [.int 3, .ref 166]) (h2 := h85x) (dc2 := 0) (ds2 := 0) 1 rfl ?_
    have q7x : (3 : Int32).toInt = 3 := rfl
    refine wq_iald rfl c15x rfl rfl ?_
    refine wq_gos (f := 1) (pc2 := 22) (ls2 := [(5, .int (kn.getD 3 0)), (4, .int (ri5x.getD 1 0)), (0, .ref 162), (1, .int 1), (2, .int n), (3, .int j)]) (st2 := [.int (ri5x.getD 1 0)]) (h2 := h85x) (dc2 := 0) (ds2 := 0) 2 rfl ?_
    refine wq_lt0t rfl (by omega) ?_
    refine wq_gos (f := 1) (pc2 := 71) (ls2 := [(5, .int (kn.getD 3 0)), (4, .int (ri5x.getD 1 0)), (0, .ref 162), (1, .int 1), (2, .int n), (3, .int j)]) (st2 := [.int (-9999)]) (h2 := h85x) (dc2 := 0) (ds2 := 0) 2 rfl ?_
    exact wq_ret rfl rfl ⟨_, h85x, rfl, p15x⟩
  · intro h88x m348x m358x ri8x pa8x ch8x co8x tk8x th8x T98x f88x l88x c08x c18x c28x c38x c48x c58x c68x c78x p08x p18x p28x p38x p48x
    have qT9 := nI_toInt (n := T98x) (by omega)
    show wq 250 13 [(0, .ref 162), (1, .int 1)] [] h88x 0 0 _
    refine wq_gos (f := 1) (pc2 := 14) (ls2 := [(0, .ref 162), (1, .int 1)]) (st2 := [.ref 162]) (h2 := h88x) (dc2 := 0) (ds2 := 0) 1 rfl ?_
    refine wq_getf rfl c08x rfl rfl ?_
    refine wq_gos (f := 1) (pc2 := 26) (ls2 := [(0, .ref 162), (1, .int 1)]) (st2 := [.int 1, .ref 210]) (h2 := h88x) (dc2 := 0) (ds2 := 0) 4 rfl ?_
    have q9x : (1 : Int32).toInt = 1 := rfl
    refine wq_iald rfl c28x rfl rfl ?_
    refine wq_vi p08x ?_
    refine wq_ret rfl rfl ?_
    show wq 256 10 [(0, .ref 162), (1, .int 1), (2, .int n), (3, .int j)] [.int (nI T98x)] h88x 0 0 _
    refine wq_gos (f := 1) (pc2 := 13) (ls2 := [(4, .int (nI T98x)), (0, .ref 162), (1, .int 1), (2, .int n), (3, .int j)]) (st2 := [.ref 162]) (h2 := h88x) (dc2 := 0) (ds2 := 0) 2 rfl ?_
    refine wq_getf rfl c08x rfl rfl ?_
    refine wq_gos (f := 1) (pc2 := 17) (ls2 := [(4, .int (nI T98x)), (0, .ref 162), (1, .int 1), (2, .int n), (3, .int j)]) (st2 := [.int 3, .ref 166]) (h2 := h88x) (dc2 := 0) (ds2 := 0) 1 rfl ?_
    have q10x : (3 : Int32).toInt = 3 := rfl
    refine wq_iald rfl c18x rfl rfl ?_
    refine wq_gos (f := 1) (pc2 := 22) (ls2 := [(5, .int (kn.getD 3 0)), (4, .int (nI T98x)), (0, .ref 162), (1, .int 1), (2, .int n), (3, .int j)]) (st2 := [.int (nI T98x)]) (h2 := h88x) (dc2 := 0) (ds2 := 0) 2 rfl ?_
    try have q11x := nI_toInt (n := T98x) (by omega)
    refine wq_lt0f rfl rfl (by omega) ?_
    refine wq_gos (f := 1) (pc2 := 29) (ls2 := [(5, .int (kn.getD 3 0)), (4, .int (nI T98x)), (0, .ref 162), (1, .int 1), (2, .int n), (3, .int j)]) (st2 := [.int (-(kn.getD 3 0)), .int n]) (h2 := h88x) (dc2 := 0) (ds2 := 0) 3 rfl ?_
    try have q12x : ((-(kn.getD 3 0))).toInt = -(kn.getD 3 0).toInt := e_neg (by omega)
    refine wq_lt2 rfl rfl (fun b13x => ?_) (fun b13x => ?_)
    · refine wq_gos (f := 1) (pc2 := 71) (ls2 := [(5, .int (kn.getD 3 0)), (4, .int (nI T98x)), (0, .ref 162), (1, .int 1), (2, .int n), (3, .int j)]) (st2 := [.int (-9999)]) (h2 := h88x) (dc2 := 0) (ds2 := 0) 2 rfl ?_
      exact wq_ret rfl rfl ⟨_, h88x, rfl, p48x⟩
    · refine wq_gos (f := 1) (pc2 := 38) (ls2 := [(5, .int (kn.getD 3 0)), (4, .int (nI T98x)), (0, .ref 162), (1, .int 1), (2, .int n), (3, .int j)]) (st2 := [.int ((nI T98x) + (kn.getD 3 0)), .int n]) (h2 := h88x) (dc2 := 0) (ds2 := 0) 4 rfl ?_
      try have q14x : (((nI T98x) + (kn.getD 3 0))).toInt = (nI T98x).toInt + (kn.getD 3 0).toInt := e_add (by omega) (by omega)
      refine wq_gt2 rfl rfl (fun b15x => ?_) (fun b15x => ?_)
      · refine wq_gos (f := 1) (pc2 := 71) (ls2 := [(5, .int (kn.getD 3 0)), (4, .int (nI T98x)), (0, .ref 162), (1, .int 1), (2, .int n), (3, .int j)]) (st2 := [.int (-9999)]) (h2 := h88x) (dc2 := 0) (ds2 := 0) 2 rfl ?_
        exact wq_ret rfl rfl ⟨_, h88x, rfl, p48x⟩
      · refine wq_gos (f := 1) (pc2 := 42) (ls2 := [(5, .int (kn.getD 3 0)), (4, .int (nI T98x)), (0, .ref 162), (1, .int 1), (2, .int n), (3, .int j)]) (st2 := [.int j]) (h2 := h88x) (dc2 := 0) (ds2 := 0) 1 rfl ?_
        refine wq_inl (y2 := 208) (as := [.int j]) rfl rfl rfl ?_
        show wq 208 0 [(0, .int j)] [] h88x 0 0 _
        refine wq_gos (f := 1) (pc2 := 1) (ls2 := [(0, .int j)]) (st2 := [.int j]) (h2 := h88x) (dc2 := 0) (ds2 := 0) 1 rfl ?_
        refine wq_lt0 rfl rfl (fun b16x => ?_) (fun b16x => ?_)
        · refine wq_gos (f := 1) (pc2 := 15) (ls2 := [(0, .int j)]) (st2 := [.int 0]) (h2 := h88x) (dc2 := 0) (ds2 := 0) 1 rfl ?_
          refine wq_ret rfl rfl ?_
          show wq 256 45 [(5, .int (kn.getD 3 0)), (4, .int (nI T98x)), (0, .ref 162), (1, .int 1), (2, .int n), (3, .int j)] [.int 0] h88x 0 0 _
          refine wq_gos (f := 1) (pc2 := 71) (ls2 := [(5, .int (kn.getD 3 0)), (4, .int (nI T98x)), (0, .ref 162), (1, .int 1), (2, .int n), (3, .int j)]) (st2 := [.int (-9999)]) (h2 := h88x) (dc2 := 0) (ds2 := 0) 3 rfl ?_
          exact wq_ret rfl rfl ⟨_, h88x, rfl, p48x⟩
        · refine wq_gos (f := 1) (pc2 := 7) (ls2 := [(0, .int j)]) (st2 := [.int 6, .int j]) (h2 := h88x) (dc2 := 0) (ds2 := 0) 2 rfl ?_
          have q17x : (6 : Int32).toInt = 6 := rfl
          refine wq_ge2t rfl (by omega) ?_
          refine wq_gos (f := 1) (pc2 := 15) (ls2 := [(0, .int j)]) (st2 := [.int 0]) (h2 := h88x) (dc2 := 0) (ds2 := 0) 1 rfl ?_
          refine wq_ret rfl rfl ?_
          show wq 256 45 [(5, .int (kn.getD 3 0)), (4, .int (nI T98x)), (0, .ref 162), (1, .int 1), (2, .int n), (3, .int j)] [.int 0] h88x 0 0 _
          refine wq_gos (f := 1) (pc2 := 71) (ls2 := [(5, .int (kn.getD 3 0)), (4, .int (nI T98x)), (0, .ref 162), (1, .int 1), (2, .int n), (3, .int j)]) (st2 := [.int (-9999)]) (h2 := h88x) (dc2 := 0) (ds2 := 0) 3 rfl ?_
          exact wq_ret rfl rfl ⟨_, h88x, rfl, p48x⟩
set_option maxRecDepth 100000 in
set_option maxHeartbeats 4000000 in
theorem m_o257_1 {h : zH} {wn : Nat} {kn lo hi sv sq wy nw : List Int32} {n0 n2 n14 n15 n16 n17 n18 n19 n20 n21 n22 n23 n27 n28 n32 n33 n34 n35 n39 n52 : Int32} {am9 : mS} {sm : Int32} {j : Nat} (hM : zat h 162 = some (.inr (.inr (.inr (10, mO n0 n2 n14 n15 n16 n17 n18 n19 n20 n21 n22 n23 n27 n28 n32 n33 n34 n35 n39 n52))))) (hI : mIv h h wn kn lo hi sv sq wy nw n0 n2 n14 n15 n16 n17 n18 n19 n20 n21 n22 n23 n27 n28 n32 n33 n39 n52 am9) (hj : j < 6) : wq 257 0 [(0, .ref 162), (1, .int 1), (2, .int (nI j)), (3, .int sm)] [] h 0 0 (fun r => ∃ v h2, r = (some (.int v), h2, 0, 0) ∧ mIv h h2 wn kn lo hi sv sq wy nw 0 n2 n14 n15 n16 n17 n18 n19 n20 n21 n22 n23 n27 n28 n32 n33 n39 n52 am9) := by
  have hI0 := hI
  obtain ⟨_, _, fo9, sm9, hr9, tk9, hT9, hS9, hP9, hF9, hN9, hb9, hR9, hK9⟩ := hI0
  have hKn9 := hT9.1
  have tf9 := hT9.2.2.2.2.2.2
  have hkn := tf9.1
  have hw10 := tf9.2.1
  have hbl9 := tf9.2.2.2.1
  have z0 : (0 : Int32).toInt = 0 := rfl
  have z1 : (1 : Int32).toInt = 1 := rfl
  have z5 : (5 : Int32).toInt = 5 := rfl
  have z6 : (6 : Int32).toInt = 6 := rfl
  have zm1 : (-1 : Int32).toInt = -1 := rfl
  have z3 : (3 : Int32).toInt = 3 := rfl
  have z2 : (2 : Int32).toInt = 2 := rfl
  have z20 : (20 : Int32).toInt = 20 := rfl
  have zn99 : (99 : Int32).toInt = 99 := rfl
  have qwn := nI_toInt (n := wn) (by omega)
  have qnj := nI_toInt (n := j) (by omega)
  refine wq_gos (f := 1) (pc2 := 2) (ls2 := [(0, .ref 162), (1, .int 1), (2, .int (nI j)), (3, .int sm)]) (st2 := [.int 0, .ref 162]) (h2 := h) (dc2 := 0) (ds2 := 0) 2 rfl ?_
  refine wq_putf rfl hM rfl rfl rfl ?_
  intro hh1x e2x ff3x lh4x
  have e2x : zat hh1x 162 = some (.inr (.inr (.inr (10, mO (0 : Int32) n2 n14 n15 n16 n17 n18 n19 n20 n21 n22 n23 n27 n28 n32 n33 n34 n35 n39 n52)))) := e2x
  refine wq_gos (f := 1) (pc2 := 6) (ls2 := [(0, .ref 162), (1, .int 1), (2, .int (nI j)), (3, .int sm)]) (st2 := [.int (nI j)]) (h2 := hh1x) (dc2 := 0) (ds2 := 0) 1 rfl ?_
  refine wq_inl (y2 := 208) (as := [.int (nI j)]) rfl rfl rfl ?_
  show wq 208 0 [(0, .int (nI j))] [] hh1x 0 0 _
  refine wq_gos (f := 1) (pc2 := 1) (ls2 := [(0, .int (nI j))]) (st2 := [.int (nI j)]) (h2 := hh1x) (dc2 := 0) (ds2 := 0) 1 rfl ?_
  try have q5x := nI_toInt (n := j) (by omega)
  refine wq_lt0f rfl rfl (by omega) ?_
  refine wq_gos (f := 1) (pc2 := 7) (ls2 := [(0, .int (nI j))]) (st2 := [.int 6, .int (nI j)]) (h2 := hh1x) (dc2 := 0) (ds2 := 0) 2 rfl ?_
  have q6x : (6 : Int32).toInt = 6 := rfl
  refine wq_ge2f rfl rfl (by omega) ?_
  refine wq_gos (f := 1) (pc2 := 15) (ls2 := [(0, .int (nI j))]) (st2 := [.int 1]) (h2 := hh1x) (dc2 := 0) (ds2 := 0) 2 rfl ?_
  refine wq_ret rfl rfl ?_
  show wq 257 9 [(0, .ref 162), (1, .int 1), (2, .int (nI j)), (3, .int sm)] [.int 1] hh1x 0 0 _
  refine wq_gos (f := 1) (pc2 := 16) (ls2 := [(0, .ref 162), (1, .int 1), (2, .int (nI j)), (3, .int sm)]) (st2 := [.int 1, .ref 162]) (h2 := hh1x) (dc2 := 0) (ds2 := 0) 3 rfl ?_
  refine wq_inlv (y2 := 250) (as := [.int 1]) rfl rfl rfl e2x rfl ?_
  show wq 250 0 [(0, .ref 162), (1, .int 1)] [] hh1x 0 0 _
  refine wq_gos (f := 1) (pc2 := 10) (ls2 := [(0, .ref 162), (1, .int 1)]) (st2 := [.int 1, .ref 162]) (h2 := hh1x) (dc2 := 0) (ds2 := 0) 5 rfl ?_
  refine wq_inlv (y2 := 249) (as := [.int 1]) rfl rfl rfl e2x rfl (m_use1 e2x (mIv_0 hI ff3x (by omega) e2x) ?_ ?_)
  · intro h87x m347x m357x ri7x pa7x ch7x co7x tk7x th7x f87x l87x c07x c17x c27x c37x c47x c57x c67x c77x p07x p17x
    show wq 250 13 [(0, .ref 162), (1, .int 1)] [] h87x 0 0 _
    refine wq_gos (f := 1) (pc2 := 14) (ls2 := [(0, .ref 162), (1, .int 1)]) (st2 := [.ref 162]) (h2 := h87x) (dc2 := 0) (ds2 := 0) 1 rfl ?_
    refine wq_getf rfl c07x rfl rfl ?_
    refine wq_gos (f := 1) (pc2 := 26) (ls2 := [(0, .ref 162), (1, .int 1)]) (st2 := [.int 1, .ref 210]) (h2 := h87x) (dc2 := 0) (ds2 := 0) 4 rfl ?_
    have q8x : (1 : Int32).toInt = 1 := rfl
    refine wq_iald rfl c27x rfl rfl ?_
    refine wq_ret rfl rfl ?_
    show wq 257 19 [(0, .ref 162), (1, .int 1), (2, .int (nI j)), (3, .int sm)] [.int (ri7x.getD 1 0)] h87x 0 0 _
    refine wq_gos (f := 1) (pc2 := 23) (ls2 := [(4, .int (ri7x.getD 1 0)), (0, .ref 162), (1, .int 1), (2, .int (nI j)), (3, .int sm)]) (st2 := [.int (ri7x.getD 1 0)]) (h2 := h87x) (dc2 := 0) (ds2 := 0) 2 rfl ?_
    refine wq_ge0f rfl rfl (by omega) ?_
    refine wq_gos (f := 1) (pc2 := 28) (ls2 := [(4, .int (ri7x.getD 1 0)), (0, .ref 162), (1, .int 1), (2, .int (nI j)), (3, .int sm)]) (st2 := [.int (ri7x.getD 1 0)]) (h2 := h87x) (dc2 := 0) (ds2 := 0) 1 rfl ?_
    exact wq_ret rfl rfl ⟨_, h87x, rfl, p17x⟩
  · intro h89x m349x m359x ri9x pa9x ch9x co9x tk9x th9x T99x f89x l89x c09x c19x c29x c39x c49x c59x c69x c79x p09x p19x p29x p39x p49x
    have qT9 := nI_toInt (n := T99x) (by omega)
    show wq 250 13 [(0, .ref 162), (1, .int 1)] [] h89x 0 0 _
    refine wq_gos (f := 1) (pc2 := 14) (ls2 := [(0, .ref 162), (1, .int 1)]) (st2 := [.ref 162]) (h2 := h89x) (dc2 := 0) (ds2 := 0) 1 rfl ?_
    refine wq_getf rfl c09x rfl rfl ?_
    refine wq_gos (f := 1) (pc2 := 26) (ls2 := [(0, .ref 162), (1, .int 1)]) (st2 := [.int 1, .ref 210]) (h2 := h89x) (dc2 := 0) (ds2 := 0) 4 rfl ?_
    have q10x : (1 : Int32).toInt = 1 := rfl
    refine wq_iald rfl c29x rfl rfl ?_
    refine wq_vi p09x ?_
    refine wq_ret rfl rfl ?_
    show wq 257 19 [(0, .ref 162), (1, .int 1), (2, .int (nI j)), (3, .int sm)] [.int (nI T99x)] h89x 0 0 _
    refine wq_gos (f := 1) (pc2 := 23) (ls2 := [(4, .int (nI T99x)), (0, .ref 162), (1, .int 1), (2, .int (nI j)), (3, .int sm)]) (st2 := [.int (nI T99x)]) (h2 := h89x) (dc2 := 0) (ds2 := 0) 2 rfl ?_
    try have q11x := nI_toInt (n := T99x) (by omega)
    refine wq_ge0t rfl (by omega) ?_
    refine wq_gos (f := 1) (pc2 := 30) (ls2 := [(4, .int (nI T99x)), (0, .ref 162), (1, .int 1), (2, .int (nI j)), (3, .int sm)]) (st2 := [.int sm]) (h2 := h89x) (dc2 := 0) (ds2 := 0) 1 rfl ?_
    refine wq_eq0 rfl rfl (fun b12x => ?_) (fun b12x => ?_)
    · have q13x : sm.toInt = 0 := congrArg Int32.toInt b12x
      refine wq_gos (f := 1) (pc2 := 64) (ls2 := [(8, .int 0), (7, .int 0), (6, .int 1), (5, .int 0), (4, .int (nI T99x)), (0, .ref 162), (1, .int 1), (2, .int (nI j)), (3, .int sm)]) (st2 := []) (h2 := h89x) (dc2 := 0) (ds2 := 0) 12 rfl ?_
      refine wq_ls [(0, .ref 162), (2, .int (nI j)), (4, .int (nI T99x)), (5, .int 0), (6, .int 1), (7, .int 0), (8, .int 0)] (show ([0, 2, 4, 5, 6, 7, 8] : List Nat).Nodup by decide) ⟨rfl, rfl, rfl, rfl, rfl, rfl, rfl, trivial⟩ ?_
      refine wq_mono (m_faL1 c09x c19x c39x c59x ⟨hkn, hw10⟩ (by first | assumption | omega | decide | solve_by_elim) (by first | assumption | omega | decide | solve_by_elim) (by first | assumption | omega | decide | solve_by_elim) ((T99x + (0 : Int32).toInt - (0 : Int32).toInt).toNat + 1) (0 : Int32) (0 : Int32) (by first | assumption | omega | decide | solve_by_elim) (by omega) 0 0) ?_
      rintro _ rfl
      exact ⟨_, h89x, rfl, p49x⟩
    · have q14x : sm.toInt ≠ 0 := fun q => b12x (Int32.toInt_inj.mp q)
      refine wq_gos (f := 1) (pc2 := 34) (ls2 := [(4, .int (nI T99x)), (0, .ref 162), (1, .int 1), (2, .int (nI j)), (3, .int sm)]) (st2 := [.ref 162]) (h2 := h89x) (dc2 := 0) (ds2 := 0) 1 rfl ?_
      refine wq_getf rfl c09x rfl rfl ?_
      refine wq_gos (f := 1) (pc2 := 38) (ls2 := [(4, .int (nI T99x)), (0, .ref 162), (1, .int 1), (2, .int (nI j)), (3, .int sm)]) (st2 := [.int 3, .ref 166]) (h2 := h89x) (dc2 := 0) (ds2 := 0) 1 rfl ?_
      have q15x : (3 : Int32).toInt = 3 := rfl
      refine wq_iald rfl c19x rfl rfl ?_
      refine wq_gos (f := 1) (pc2 := 64) (ls2 := [(8, .int (-(kn.getD 3 0))), (7, .int 0), (6, .int 1), (5, .int (kn.getD 3 0)), (4, .int (nI T99x)), (0, .ref 162), (1, .int 1), (2, .int (nI j)), (3, .int sm)]) (st2 := []) (h2 := h89x) (dc2 := 0) (ds2 := 0) 12 rfl ?_
      try have q16x : ((-(kn.getD 3 0))).toInt = -(kn.getD 3 0).toInt := e_neg (by omega)
      refine wq_ls [(0, .ref 162), (2, .int (nI j)), (4, .int (nI T99x)), (5, .int (kn.getD 3 0)), (6, .int 1), (7, .int 0), (8, .int (-(kn.getD 3 0)))] (show ([0, 2, 4, 5, 6, 7, 8] : List Nat).Nodup by decide) ⟨rfl, rfl, rfl, rfl, rfl, rfl, rfl, trivial⟩ ?_
      refine wq_mono (m_faL1 c09x c19x c39x c59x ⟨hkn, hw10⟩ (by first | assumption | omega | decide | solve_by_elim) (by first | assumption | omega | decide | solve_by_elim) (by first | assumption | omega | decide | solve_by_elim) ((T99x + (kn.getD 3 0).toInt - (-(kn.getD 3 0)).toInt).toNat + 1) (0 : Int32) (-(kn.getD 3 0)) (by first | assumption | omega | decide | solve_by_elim) (by omega) 0 0) ?_
      rintro _ rfl
      exact ⟨_, h89x, rfl, p49x⟩
set_option maxRecDepth 100000 in
set_option maxHeartbeats 4000000 in
theorem m_o257N_1 {h : zH} {wn : Nat} {kn lo hi sv sq wy nw : List Int32} {n0 n2 n14 n15 n16 n17 n18 n19 n20 n21 n22 n23 n27 n28 n32 n33 n34 n35 n39 n52 : Int32} {am9 : mS} {sm j : Int32} (hM : zat h 162 = some (.inr (.inr (.inr (10, mO n0 n2 n14 n15 n16 n17 n18 n19 n20 n21 n22 n23 n27 n28 n32 n33 n34 n35 n39 n52))))) (hI : mIv h h wn kn lo hi sv sq wy nw n0 n2 n14 n15 n16 n17 n18 n19 n20 n21 n22 n23 n27 n28 n32 n33 n39 n52 am9) (hj : j.toInt < 0 ∨ 5 < j.toInt) : wq 257 0 [(0, .ref 162), (1, .int 1), (2, .int j), (3, .int sm)] [] h 0 0 (fun r => ∃ v h2, r = (some (.int v), h2, 0, 0) ∧ mIv h h2 wn kn lo hi sv sq wy nw 0 n2 n14 n15 n16 n17 n18 n19 n20 n21 n22 n23 n27 n28 n32 n33 n39 n52 am9) := by
  have hI0 := hI
  obtain ⟨_, _, fo9, sm9, hr9, tk9, hT9, hS9, hP9, hF9, hN9, hb9, hR9, hK9⟩ := hI0
  have hKn9 := hT9.1
  have tf9 := hT9.2.2.2.2.2.2
  have hkn := tf9.1
  have hw10 := tf9.2.1
  have hbl9 := tf9.2.2.2.1
  have z0 : (0 : Int32).toInt = 0 := rfl
  have z1 : (1 : Int32).toInt = 1 := rfl
  have z5 : (5 : Int32).toInt = 5 := rfl
  have z6 : (6 : Int32).toInt = 6 := rfl
  have zm1 : (-1 : Int32).toInt = -1 := rfl
  have z3 : (3 : Int32).toInt = 3 := rfl
  have z2 : (2 : Int32).toInt = 2 := rfl
  have z20 : (20 : Int32).toInt = 20 := rfl
  have zn99 : (99 : Int32).toInt = 99 := rfl
  have qwn := nI_toInt (n := wn) (by omega)
  refine wq_gos (f := 1) (pc2 := 2) (ls2 := [(0, .ref 162), (1, .int 1), (2, .int j), (3, .int sm)]) (st2 := [.int 0, .ref 162]) (h2 := h) (dc2 := 0) (ds2 := 0) 2 rfl ?_
  refine wq_putf rfl hM rfl rfl rfl ?_
  intro hh1x e2x ff3x lh4x
  have e2x : zat hh1x 162 = some (.inr (.inr (.inr (10, mO (0 : Int32) n2 n14 n15 n16 n17 n18 n19 n20 n21 n22 n23 n27 n28 n32 n33 n34 n35 n39 n52)))) := e2x
  refine wq_gos (f := 1) (pc2 := 6) (ls2 := [(0, .ref 162), (1, .int 1), (2, .int j), (3, .int sm)]) (st2 := [.int j]) (h2 := hh1x) (dc2 := 0) (ds2 := 0) 1 rfl ?_
  refine wq_inl (y2 := 208) (as := [.int j]) rfl rfl rfl ?_
  show wq 208 0 [(0, .int j)] [] hh1x 0 0 _
  refine wq_gos (f := 1) (pc2 := 1) (ls2 := [(0, .int j)]) (st2 := [.int j]) (h2 := hh1x) (dc2 := 0) (ds2 := 0) 1 rfl ?_
  refine wq_lt0 rfl rfl (fun b5x => ?_) (fun b5x => ?_)
  · refine wq_gos (f := 1) (pc2 := 15) (ls2 := [(0, .int j)]) (st2 := [.int 0]) (h2 := hh1x) (dc2 := 0) (ds2 := 0) 1 rfl ?_
    refine wq_ret rfl rfl ?_
    show wq 257 9 [(0, .ref 162), (1, .int 1), (2, .int j), (3, .int sm)] [.int 0] hh1x 0 0 _
    refine wq_gos (f := 1) (pc2 := 13) (ls2 := [(0, .ref 162), (1, .int 1), (2, .int j), (3, .int sm)]) (st2 := [.int (-1)]) (h2 := hh1x) (dc2 := 0) (ds2 := 0) 2 rfl ?_
    exact wq_ret rfl rfl ⟨_, hh1x, rfl, mIv_0 hI ff3x (by omega) e2x⟩
  · refine wq_gos (f := 1) (pc2 := 7) (ls2 := [(0, .int j)]) (st2 := [.int 6, .int j]) (h2 := hh1x) (dc2 := 0) (ds2 := 0) 2 rfl ?_
    have q6x : (6 : Int32).toInt = 6 := rfl
    refine wq_ge2t rfl (by omega) ?_
    refine wq_gos (f := 1) (pc2 := 15) (ls2 := [(0, .int j)]) (st2 := [.int 0]) (h2 := hh1x) (dc2 := 0) (ds2 := 0) 1 rfl ?_
    refine wq_ret rfl rfl ?_
    show wq 257 9 [(0, .ref 162), (1, .int 1), (2, .int j), (3, .int sm)] [.int 0] hh1x 0 0 _
    refine wq_gos (f := 1) (pc2 := 13) (ls2 := [(0, .ref 162), (1, .int 1), (2, .int j), (3, .int sm)]) (st2 := [.int (-1)]) (h2 := hh1x) (dc2 := 0) (ds2 := 0) 2 rfl ?_
    exact wq_ret rfl rfl ⟨_, hh1x, rfl, mIv_0 hI ff3x (by omega) e2x⟩
set_option maxRecDepth 100000 in
set_option maxHeartbeats 4000000 in
theorem m_o259_1 {h : zH} {wn : Nat} {kn lo hi sv sq wy nw : List Int32} {n0 n2 n14 n15 n16 n17 n18 n19 n20 n21 n22 n23 n27 n28 n32 n33 n34 n35 n39 n52 : Int32} {am9 : mS} {i j : Nat} (hM : zat h 162 = some (.inr (.inr (.inr (10, mO n0 n2 n14 n15 n16 n17 n18 n19 n20 n21 n22 n23 n27 n28 n32 n33 n34 n35 n39 n52))))) (hI : mIv h h wn kn lo hi sv sq wy nw n0 n2 n14 n15 n16 n17 n18 n19 n20 n21 n22 n23 n27 n28 n32 n33 n39 n52 am9) (hj : j < 6) (hiw : i < wn) : wq 259 0 [(0, .ref 162), (1, .int 1), (2, .int (nI i)), (3, .int (nI j))] [] h 0 0 (fun r => ∃ v h2, r = (some (.int v), h2, 0, 0) ∧ mIv h h2 wn kn lo hi sv sq wy nw 0 n2 n14 n15 n16 n17 n18 n19 n20 n21 n22 n23 n27 n28 n32 n33 n39 n52 am9) := by
  have hI0 := hI
  obtain ⟨_, _, fo9, sm9, hr9, tk9, hT9, hS9, hP9, hF9, hN9, hb9, hR9, hK9⟩ := hI0
  have hKn9 := hT9.1
  have tf9 := hT9.2.2.2.2.2.2
  have hkn := tf9.1
  have hw10 := tf9.2.1
  have hbl9 := tf9.2.2.2.1
  have z0 : (0 : Int32).toInt = 0 := rfl
  have z1 : (1 : Int32).toInt = 1 := rfl
  have z5 : (5 : Int32).toInt = 5 := rfl
  have z6 : (6 : Int32).toInt = 6 := rfl
  have zm1 : (-1 : Int32).toInt = -1 := rfl
  have z3 : (3 : Int32).toInt = 3 := rfl
  have z2 : (2 : Int32).toInt = 2 := rfl
  have z20 : (20 : Int32).toInt = 20 := rfl
  have zn99 : (99 : Int32).toInt = 99 := rfl
  have qwn := nI_toInt (n := wn) (by omega)
  have qni := nI_toInt (n := i) (by omega)
  have qnj := nI_toInt (n := j) (by omega)
  refine wq_gos (f := 1) (pc2 := 2) (ls2 := [(0, .ref 162), (1, .int 1), (2, .int (nI i)), (3, .int (nI j))]) (st2 := [.int 0, .ref 162]) (h2 := h) (dc2 := 0) (ds2 := 0) 2 rfl ?_
  refine wq_putf rfl hM rfl rfl rfl ?_
  intro hh1x e2x ff3x lh4x
  have e2x : zat hh1x 162 = some (.inr (.inr (.inr (10, mO (0 : Int32) n2 n14 n15 n16 n17 n18 n19 n20 n21 n22 n23 n27 n28 n32 n33 n34 n35 n39 n52)))) := e2x
  refine wq_gos (f := 1) (pc2 := 6) (ls2 := [(0, .ref 162), (1, .int 1), (2, .int (nI i)), (3, .int (nI j))]) (st2 := [.int (nI i)]) (h2 := hh1x) (dc2 := 0) (ds2 := 0) 1 rfl ?_
  try have q5x := nI_toInt (n := i) (by omega)
  refine wq_lt0f rfl rfl (by omega) ?_
  refine wq_gos (f := 1) (pc2 := 11) (ls2 := [(0, .ref 162), (1, .int 1), (2, .int (nI i)), (3, .int (nI j))]) (st2 := [.ref 162, .int (nI i)]) (h2 := hh1x) (dc2 := 0) (ds2 := 0) 2 rfl ?_
  refine wq_inlv (y2 := 244) (as := []) rfl rfl rfl e2x rfl ?_
  show wq 244 0 [(0, .ref 162)] [] hh1x 0 0 _
  refine wq_gos (f := 1) (pc2 := 1) (ls2 := [(0, .ref 162)]) (st2 := [.ref 162]) (h2 := hh1x) (dc2 := 0) (ds2 := 0) 1 rfl ?_
  refine wq_getf rfl e2x rfl rfl ?_
  refine wq_gos (f := 1) (pc2 := 6) (ls2 := [(0, .ref 162)]) (st2 := [.int 6, .ref 166]) (h2 := hh1x) (dc2 := 0) (ds2 := 0) 1 rfl ?_
  have e6x := (ff3x.2 _ _ (wnc (by decide) wn0) hKn9)
  have q7x : (6 : Int32).toInt = 6 := rfl
  refine wq_iald rfl e6x rfl rfl ?_
  refine wq_vi hkn ?_
  refine wq_ret rfl rfl ?_
  show wq 259 14 [(0, .ref 162), (1, .int 1), (2, .int (nI i)), (3, .int (nI j))] [.int (nI wn), .int (nI i)] hh1x 0 0 _
  try have q8x := nI_toInt (n := wn) (by omega)
  refine wq_ge2f rfl rfl (by omega) ?_
  refine wq_gos (f := 1) (pc2 := 18) (ls2 := [(0, .ref 162), (1, .int 1), (2, .int (nI i)), (3, .int (nI j))]) (st2 := [.int (nI j)]) (h2 := hh1x) (dc2 := 0) (ds2 := 0) 1 rfl ?_
  refine wq_inl (y2 := 208) (as := [.int (nI j)]) rfl rfl rfl ?_
  show wq 208 0 [(0, .int (nI j))] [] hh1x 0 0 _
  refine wq_gos (f := 1) (pc2 := 1) (ls2 := [(0, .int (nI j))]) (st2 := [.int (nI j)]) (h2 := hh1x) (dc2 := 0) (ds2 := 0) 1 rfl ?_
  try have q9x := nI_toInt (n := j) (by omega)
  refine wq_lt0f rfl rfl (by omega) ?_
  refine wq_gos (f := 1) (pc2 := 7) (ls2 := [(0, .int (nI j))]) (st2 := [.int 6, .int (nI j)]) (h2 := hh1x) (dc2 := 0) (ds2 := 0) 2 rfl ?_
  refine wq_ge2f rfl rfl (by omega) ?_
  refine wq_gos (f := 1) (pc2 := 15) (ls2 := [(0, .int (nI j))]) (st2 := [.int 1]) (h2 := hh1x) (dc2 := 0) (ds2 := 0) 2 rfl ?_
  refine wq_ret rfl rfl ?_
  show wq 259 21 [(0, .ref 162), (1, .int 1), (2, .int (nI i)), (3, .int (nI j))] [.int 1] hh1x 0 0 _
  refine wq_gos (f := 1) (pc2 := 28) (ls2 := [(0, .ref 162), (1, .int 1), (2, .int (nI i)), (3, .int (nI j))]) (st2 := [.int 1, .ref 162]) (h2 := hh1x) (dc2 := 0) (ds2 := 0) 3 rfl ?_
  refine wq_inlv (y2 := 250) (as := [.int 1]) rfl rfl rfl e2x rfl ?_
  show wq 250 0 [(0, .ref 162), (1, .int 1)] [] hh1x 0 0 _
  refine wq_gos (f := 1) (pc2 := 10) (ls2 := [(0, .ref 162), (1, .int 1)]) (st2 := [.int 1, .ref 162]) (h2 := hh1x) (dc2 := 0) (ds2 := 0) 5 rfl ?_
  refine wq_inlv (y2 := 249) (as := [.int 1]) rfl rfl rfl e2x rfl (m_use1 e2x (mIv_0 hI ff3x (by omega) e2x) ?_ ?_)
  · intro h810x m3410x m3510x ri10x pa10x ch10x co10x tk10x th10x f810x l810x c010x c110x c210x c310x c410x c510x c610x c710x p010x p110x
    show wq 250 13 [(0, .ref 162), (1, .int 1)] [] h810x 0 0 _
    refine wq_gos (f := 1) (pc2 := 14) (ls2 := [(0, .ref 162), (1, .int 1)]) (st2 := [.ref 162]) (h2 := h810x) (dc2 := 0) (ds2 := 0) 1 rfl ?_
    refine wq_getf rfl c010x rfl rfl ?_
    refine wq_gos (f := 1) (pc2 := 26) (ls2 := [(0, .ref 162), (1, .int 1)]) (st2 := [.int 1, .ref 210]) (h2 := h810x) (dc2 := 0) (ds2 := 0) 4 rfl ?_
    have q11x : (1 : Int32).toInt = 1 := rfl
    refine wq_iald rfl c210x rfl rfl ?_
    refine wq_ret rfl rfl ?_
    show wq 259 31 [(0, .ref 162), (1, .int 1), (2, .int (nI i)), (3, .int (nI j))] [.int (ri10x.getD 1 0)] h810x 0 0 _
    refine wq_gos (f := 1) (pc2 := 35) (ls2 := [(4, .int (ri10x.getD 1 0)), (0, .ref 162), (1, .int 1), (2, .int (nI i)), (3, .int (nI j))]) (st2 := [.int (ri10x.getD 1 0)]) (h2 := h810x) (dc2 := 0) (ds2 := 0) 2 rfl ?_
    refine wq_ge0f rfl rfl (by omega) ?_
    refine wq_gos (f := 1) (pc2 := 64) (ls2 := [(4, .int (ri10x.getD 1 0)), (0, .ref 162), (1, .int 1), (2, .int (nI i)), (3, .int (nI j))]) (st2 := [.int (ri10x.getD 1 0)]) (h2 := h810x) (dc2 := 0) (ds2 := 0) 2 rfl ?_
    exact wq_ret rfl rfl ⟨_, h810x, rfl, p110x⟩
  · intro h812x m3412x m3512x ri12x pa12x ch12x co12x tk12x th12x T912x f812x l812x c012x c112x c212x c312x c412x c512x c612x c712x p012x p112x p212x p312x p412x
    have qT9 := nI_toInt (n := T912x) (by omega)
    show wq 250 13 [(0, .ref 162), (1, .int 1)] [] h812x 0 0 _
    refine wq_gos (f := 1) (pc2 := 14) (ls2 := [(0, .ref 162), (1, .int 1)]) (st2 := [.ref 162]) (h2 := h812x) (dc2 := 0) (ds2 := 0) 1 rfl ?_
    refine wq_getf rfl c012x rfl rfl ?_
    refine wq_gos (f := 1) (pc2 := 26) (ls2 := [(0, .ref 162), (1, .int 1)]) (st2 := [.int 1, .ref 210]) (h2 := h812x) (dc2 := 0) (ds2 := 0) 4 rfl ?_
    have q13x : (1 : Int32).toInt = 1 := rfl
    refine wq_iald rfl c212x rfl rfl ?_
    refine wq_vi p012x ?_
    refine wq_ret rfl rfl ?_
    show wq 259 31 [(0, .ref 162), (1, .int 1), (2, .int (nI i)), (3, .int (nI j))] [.int (nI T912x)] h812x 0 0 _
    refine wq_gos (f := 1) (pc2 := 35) (ls2 := [(4, .int (nI T912x)), (0, .ref 162), (1, .int 1), (2, .int (nI i)), (3, .int (nI j))]) (st2 := [.int (nI T912x)]) (h2 := h812x) (dc2 := 0) (ds2 := 0) 2 rfl ?_
    try have q14x := nI_toInt (n := T912x) (by omega)
    refine wq_ge0t rfl (by omega) ?_
    refine wq_gos (f := 1) (pc2 := 56) (ls2 := [(4, .int (nI T912x)), (0, .ref 162), (1, .int 1), (2, .int (nI i)), (3, .int (nI j))]) (st2 := [.ref 162, .int (nI j), .int (nI i), .int 1, .ref 162]) (h2 := h812x) (dc2 := 0) (ds2 := 0) 8 rfl ?_
    refine wq_getf rfl c012x rfl rfl ?_
    refine wq_gos (f := 1) (pc2 := 60) (ls2 := [(4, .int (nI T912x)), (0, .ref 162), (1, .int 1), (2, .int (nI i)), (3, .int (nI j))]) (st2 := [.int 3, .ref 166, .int (nI j), .int (nI i), .int 1, .ref 162]) (h2 := h812x) (dc2 := 0) (ds2 := 0) 1 rfl ?_
    have q15x : (3 : Int32).toInt = 3 := rfl
    refine wq_iald rfl c112x rfl rfl ?_
    refine wq_inlv (y2 := 258) (as := [.int 1, .int (nI i), .int (nI j), .int (kn.getD 3 0)]) rfl rfl rfl c012x rfl (wq_mono (m_mis (r := 1) c012x c112x c312x c512x ⟨hkn, hw10, by decide, hj⟩ ⟨by omega, by omega, by omega, by assumption⟩) ?_)
    rintro _ rfl
    show wq 259 64 [(4, .int (nI T912x)), (0, .ref 162), (1, .int 1), (2, .int (nI i)), (3, .int (nI j))] [.int (mMis pa12x co12x wn 1 i j (kn.getD 3 0))] h812x 0 0 _
    exact wq_ret rfl rfl ⟨_, h812x, rfl, p412x⟩
set_option maxRecDepth 100000 in
set_option maxHeartbeats 4000000 in
theorem m_o259J_1 {h : zH} {wn : Nat} {kn lo hi sv sq wy nw : List Int32} {n0 n2 n14 n15 n16 n17 n18 n19 n20 n21 n22 n23 n27 n28 n32 n33 n34 n35 n39 n52 : Int32} {am9 : mS} {i j : Int32} (hM : zat h 162 = some (.inr (.inr (.inr (10, mO n0 n2 n14 n15 n16 n17 n18 n19 n20 n21 n22 n23 n27 n28 n32 n33 n34 n35 n39 n52))))) (hI : mIv h h wn kn lo hi sv sq wy nw n0 n2 n14 n15 n16 n17 n18 n19 n20 n21 n22 n23 n27 n28 n32 n33 n39 n52 am9) (hj : j.toInt < 0 ∨ 5 < j.toInt) : wq 259 0 [(0, .ref 162), (1, .int 1), (2, .int i), (3, .int j)] [] h 0 0 (fun r => ∃ v h2, r = (some (.int v), h2, 0, 0) ∧ mIv h h2 wn kn lo hi sv sq wy nw 0 n2 n14 n15 n16 n17 n18 n19 n20 n21 n22 n23 n27 n28 n32 n33 n39 n52 am9) := by
  have hI0 := hI
  obtain ⟨_, _, fo9, sm9, hr9, tk9, hT9, hS9, hP9, hF9, hN9, hb9, hR9, hK9⟩ := hI0
  have hKn9 := hT9.1
  have tf9 := hT9.2.2.2.2.2.2
  have hkn := tf9.1
  have hw10 := tf9.2.1
  have hbl9 := tf9.2.2.2.1
  have z0 : (0 : Int32).toInt = 0 := rfl
  have z1 : (1 : Int32).toInt = 1 := rfl
  have z5 : (5 : Int32).toInt = 5 := rfl
  have z6 : (6 : Int32).toInt = 6 := rfl
  have zm1 : (-1 : Int32).toInt = -1 := rfl
  have z3 : (3 : Int32).toInt = 3 := rfl
  have z2 : (2 : Int32).toInt = 2 := rfl
  have z20 : (20 : Int32).toInt = 20 := rfl
  have zn99 : (99 : Int32).toInt = 99 := rfl
  have qwn := nI_toInt (n := wn) (by omega)
  refine wq_gos (f := 1) (pc2 := 2) (ls2 := [(0, .ref 162), (1, .int 1), (2, .int i), (3, .int j)]) (st2 := [.int 0, .ref 162]) (h2 := h) (dc2 := 0) (ds2 := 0) 2 rfl ?_
  refine wq_putf rfl hM rfl rfl rfl ?_
  intro hh1x e2x ff3x lh4x
  have e2x : zat hh1x 162 = some (.inr (.inr (.inr (10, mO (0 : Int32) n2 n14 n15 n16 n17 n18 n19 n20 n21 n22 n23 n27 n28 n32 n33 n34 n35 n39 n52)))) := e2x
  refine wq_gos (f := 1) (pc2 := 6) (ls2 := [(0, .ref 162), (1, .int 1), (2, .int i), (3, .int j)]) (st2 := [.int i]) (h2 := hh1x) (dc2 := 0) (ds2 := 0) 1 rfl ?_
  refine wq_lt0 rfl rfl (fun b5x => ?_) (fun b5x => ?_)
  · refine wq_gos (f := 1) (pc2 := 25) (ls2 := [(0, .ref 162), (1, .int 1), (2, .int i), (3, .int j)]) (st2 := [.int (-1)]) (h2 := hh1x) (dc2 := 0) (ds2 := 0) 1 rfl ?_
    exact wq_ret rfl rfl ⟨_, hh1x, rfl, mIv_0 hI ff3x (by omega) e2x⟩
  · refine wq_gos (f := 1) (pc2 := 11) (ls2 := [(0, .ref 162), (1, .int 1), (2, .int i), (3, .int j)]) (st2 := [.ref 162, .int i]) (h2 := hh1x) (dc2 := 0) (ds2 := 0) 2 rfl ?_
    refine wq_inlv (y2 := 244) (as := []) rfl rfl rfl e2x rfl ?_
    show wq 244 0 [(0, .ref 162)] [] hh1x 0 0 _
    refine wq_gos (f := 1) (pc2 := 1) (ls2 := [(0, .ref 162)]) (st2 := [.ref 162]) (h2 := hh1x) (dc2 := 0) (ds2 := 0) 1 rfl ?_
    refine wq_getf rfl e2x rfl rfl ?_
    refine wq_gos (f := 1) (pc2 := 6) (ls2 := [(0, .ref 162)]) (st2 := [.int 6, .ref 166]) (h2 := hh1x) (dc2 := 0) (ds2 := 0) 1 rfl ?_
    have e6x := (ff3x.2 _ _ (wnc (by decide) wn0) hKn9)
    have q7x : (6 : Int32).toInt = 6 := rfl
    refine wq_iald rfl e6x rfl rfl ?_
    refine wq_vi hkn ?_
    refine wq_ret rfl rfl ?_
    show wq 259 14 [(0, .ref 162), (1, .int 1), (2, .int i), (3, .int j)] [.int (nI wn), .int i] hh1x 0 0 _
    try have q8x := nI_toInt (n := wn) (by omega)
    refine wq_ge2 rfl rfl (fun b9x => ?_) (fun b9x => ?_)
    · refine wq_gos (f := 1) (pc2 := 25) (ls2 := [(0, .ref 162), (1, .int 1), (2, .int i), (3, .int j)]) (st2 := [.int (-1)]) (h2 := hh1x) (dc2 := 0) (ds2 := 0) 1 rfl ?_
      exact wq_ret rfl rfl ⟨_, hh1x, rfl, mIv_0 hI ff3x (by omega) e2x⟩
    · refine wq_gos (f := 1) (pc2 := 18) (ls2 := [(0, .ref 162), (1, .int 1), (2, .int i), (3, .int j)]) (st2 := [.int j]) (h2 := hh1x) (dc2 := 0) (ds2 := 0) 1 rfl ?_
      refine wq_inl (y2 := 208) (as := [.int j]) rfl rfl rfl ?_
      show wq 208 0 [(0, .int j)] [] hh1x 0 0 _
      refine wq_gos (f := 1) (pc2 := 1) (ls2 := [(0, .int j)]) (st2 := [.int j]) (h2 := hh1x) (dc2 := 0) (ds2 := 0) 1 rfl ?_
      refine wq_lt0 rfl rfl (fun b10x => ?_) (fun b10x => ?_)
      · refine wq_gos (f := 1) (pc2 := 15) (ls2 := [(0, .int j)]) (st2 := [.int 0]) (h2 := hh1x) (dc2 := 0) (ds2 := 0) 1 rfl ?_
        refine wq_ret rfl rfl ?_
        show wq 259 21 [(0, .ref 162), (1, .int 1), (2, .int i), (3, .int j)] [.int 0] hh1x 0 0 _
        refine wq_gos (f := 1) (pc2 := 25) (ls2 := [(0, .ref 162), (1, .int 1), (2, .int i), (3, .int j)]) (st2 := [.int (-1)]) (h2 := hh1x) (dc2 := 0) (ds2 := 0) 2 rfl ?_
        exact wq_ret rfl rfl ⟨_, hh1x, rfl, mIv_0 hI ff3x (by omega) e2x⟩
      · refine wq_gos (f := 1) (pc2 := 7) (ls2 := [(0, .int j)]) (st2 := [.int 6, .int j]) (h2 := hh1x) (dc2 := 0) (ds2 := 0) 2 rfl ?_
        refine wq_ge2t rfl (by omega) ?_
        refine wq_gos (f := 1) (pc2 := 15) (ls2 := [(0, .int j)]) (st2 := [.int 0]) (h2 := hh1x) (dc2 := 0) (ds2 := 0) 1 rfl ?_
        refine wq_ret rfl rfl ?_
        show wq 259 21 [(0, .ref 162), (1, .int 1), (2, .int i), (3, .int j)] [.int 0] hh1x 0 0 _
        refine wq_gos (f := 1) (pc2 := 25) (ls2 := [(0, .ref 162), (1, .int 1), (2, .int i), (3, .int j)]) (st2 := [.int (-1)]) (h2 := hh1x) (dc2 := 0) (ds2 := 0) 2 rfl ?_
        exact wq_ret rfl rfl ⟨_, hh1x, rfl, mIv_0 hI ff3x (by omega) e2x⟩
set_option maxRecDepth 100000 in
set_option maxHeartbeats 4000000 in
theorem m_o259I_1 {h : zH} {wn : Nat} {kn lo hi sv sq wy nw : List Int32} {n0 n2 n14 n15 n16 n17 n18 n19 n20 n21 n22 n23 n27 n28 n32 n33 n34 n35 n39 n52 : Int32} {am9 : mS} {i j : Int32} (hM : zat h 162 = some (.inr (.inr (.inr (10, mO n0 n2 n14 n15 n16 n17 n18 n19 n20 n21 n22 n23 n27 n28 n32 n33 n34 n35 n39 n52))))) (hI : mIv h h wn kn lo hi sv sq wy nw n0 n2 n14 n15 n16 n17 n18 n19 n20 n21 n22 n23 n27 n28 n32 n33 n39 n52 am9) (hiw : i.toInt < 0 ∨ wn ≤ i.toInt) : wq 259 0 [(0, .ref 162), (1, .int 1), (2, .int i), (3, .int j)] [] h 0 0 (fun r => ∃ v h2, r = (some (.int v), h2, 0, 0) ∧ mIv h h2 wn kn lo hi sv sq wy nw 0 n2 n14 n15 n16 n17 n18 n19 n20 n21 n22 n23 n27 n28 n32 n33 n39 n52 am9) := by
  have hI0 := hI
  obtain ⟨_, _, fo9, sm9, hr9, tk9, hT9, hS9, hP9, hF9, hN9, hb9, hR9, hK9⟩ := hI0
  have hKn9 := hT9.1
  have tf9 := hT9.2.2.2.2.2.2
  have hkn := tf9.1
  have hw10 := tf9.2.1
  have hbl9 := tf9.2.2.2.1
  have z0 : (0 : Int32).toInt = 0 := rfl
  have z1 : (1 : Int32).toInt = 1 := rfl
  have z5 : (5 : Int32).toInt = 5 := rfl
  have z6 : (6 : Int32).toInt = 6 := rfl
  have zm1 : (-1 : Int32).toInt = -1 := rfl
  have z3 : (3 : Int32).toInt = 3 := rfl
  have z2 : (2 : Int32).toInt = 2 := rfl
  have z20 : (20 : Int32).toInt = 20 := rfl
  have zn99 : (99 : Int32).toInt = 99 := rfl
  have qwn := nI_toInt (n := wn) (by omega)
  refine wq_gos (f := 1) (pc2 := 2) (ls2 := [(0, .ref 162), (1, .int 1), (2, .int i), (3, .int j)]) (st2 := [.int 0, .ref 162]) (h2 := h) (dc2 := 0) (ds2 := 0) 2 rfl ?_
  refine wq_putf rfl hM rfl rfl rfl ?_
  intro hh1x e2x ff3x lh4x
  have e2x : zat hh1x 162 = some (.inr (.inr (.inr (10, mO (0 : Int32) n2 n14 n15 n16 n17 n18 n19 n20 n21 n22 n23 n27 n28 n32 n33 n34 n35 n39 n52)))) := e2x
  refine wq_gos (f := 1) (pc2 := 6) (ls2 := [(0, .ref 162), (1, .int 1), (2, .int i), (3, .int j)]) (st2 := [.int i]) (h2 := hh1x) (dc2 := 0) (ds2 := 0) 1 rfl ?_
  refine wq_lt0 rfl rfl (fun b5x => ?_) (fun b5x => ?_)
  · refine wq_gos (f := 1) (pc2 := 25) (ls2 := [(0, .ref 162), (1, .int 1), (2, .int i), (3, .int j)]) (st2 := [.int (-1)]) (h2 := hh1x) (dc2 := 0) (ds2 := 0) 1 rfl ?_
    exact wq_ret rfl rfl ⟨_, hh1x, rfl, mIv_0 hI ff3x (by omega) e2x⟩
  · refine wq_gos (f := 1) (pc2 := 11) (ls2 := [(0, .ref 162), (1, .int 1), (2, .int i), (3, .int j)]) (st2 := [.ref 162, .int i]) (h2 := hh1x) (dc2 := 0) (ds2 := 0) 2 rfl ?_
    refine wq_inlv (y2 := 244) (as := []) rfl rfl rfl e2x rfl ?_
    show wq 244 0 [(0, .ref 162)] [] hh1x 0 0 _
    refine wq_gos (f := 1) (pc2 := 1) (ls2 := [(0, .ref 162)]) (st2 := [.ref 162]) (h2 := hh1x) (dc2 := 0) (ds2 := 0) 1 rfl ?_
    refine wq_getf rfl e2x rfl rfl ?_
    refine wq_gos (f := 1) (pc2 := 6) (ls2 := [(0, .ref 162)]) (st2 := [.int 6, .ref 166]) (h2 := hh1x) (dc2 := 0) (ds2 := 0) 1 rfl ?_
    have e6x := (ff3x.2 _ _ (wnc (by decide) wn0) hKn9)
    have q7x : (6 : Int32).toInt = 6 := rfl
    refine wq_iald rfl e6x rfl rfl ?_
    refine wq_vi hkn ?_
    refine wq_ret rfl rfl ?_
    show wq 259 14 [(0, .ref 162), (1, .int 1), (2, .int i), (3, .int j)] [.int (nI wn), .int i] hh1x 0 0 _
    try have q8x := nI_toInt (n := wn) (by omega)
    refine wq_ge2t rfl (by omega) ?_
    refine wq_gos (f := 1) (pc2 := 25) (ls2 := [(0, .ref 162), (1, .int 1), (2, .int i), (3, .int j)]) (st2 := [.int (-1)]) (h2 := hh1x) (dc2 := 0) (ds2 := 0) 1 rfl ?_
    exact wq_ret rfl rfl ⟨_, hh1x, rfl, mIv_0 hI ff3x (by omega) e2x⟩
set_option maxRecDepth 100000 in
set_option maxHeartbeats 4000000 in
theorem m_o260_1 {h : zH} {wn : Nat} {kn lo hi sv sq wy nw : List Int32} {n0 n2 n14 n15 n16 n17 n18 n19 n20 n21 n22 n23 n27 n28 n32 n33 n34 n35 n39 n52 : Int32} {am9 : mS} {m9 : Int32} (hM : zat h 162 = some (.inr (.inr (.inr (10, mO n0 n2 n14 n15 n16 n17 n18 n19 n20 n21 n22 n23 n27 n28 n32 n33 n34 n35 n39 n52))))) (hI : mIv h h wn kn lo hi sv sq wy nw n0 n2 n14 n15 n16 n17 n18 n19 n20 n21 n22 n23 n27 n28 n32 n33 n39 n52 am9)  : wq 260 0 [(0, .ref 162), (1, .int 1), (2, .int m9)] [] h 0 0 (fun r => ∃ v h2, r = (some (.int v), h2, 0, 0) ∧ mIv h h2 wn kn lo hi sv sq wy nw 0 n2 n14 n15 n16 n17 n18 n19 n20 n21 n22 n23 n27 n28 n32 n33 n39 n52 am9) := by
  have hI0 := hI
  obtain ⟨_, _, fo9, sm9, hr9, tk9, hT9, hS9, hP9, hF9, hN9, hb9, hR9, hK9⟩ := hI0
  have hKn9 := hT9.1
  have tf9 := hT9.2.2.2.2.2.2
  have hkn := tf9.1
  have hw10 := tf9.2.1
  have hbl9 := tf9.2.2.2.1
  have z0 : (0 : Int32).toInt = 0 := rfl
  have z1 : (1 : Int32).toInt = 1 := rfl
  have z5 : (5 : Int32).toInt = 5 := rfl
  have z6 : (6 : Int32).toInt = 6 := rfl
  have zm1 : (-1 : Int32).toInt = -1 := rfl
  have z3 : (3 : Int32).toInt = 3 := rfl
  have z2 : (2 : Int32).toInt = 2 := rfl
  have z20 : (20 : Int32).toInt = 20 := rfl
  have zn99 : (99 : Int32).toInt = 99 := rfl
  have qwn := nI_toInt (n := wn) (by omega)
  refine wq_gos (f := 1) (pc2 := 2) (ls2 := [(0, .ref 162), (1, .int 1), (2, .int m9)]) (st2 := [.int 0, .ref 162]) (h2 := h) (dc2 := 0) (ds2 := 0) 2 rfl ?_
  refine wq_putf rfl hM rfl rfl rfl ?_
  intro hh1x e2x ff3x lh4x
  have e2x : zat hh1x 162 = some (.inr (.inr (.inr (10, mO (0 : Int32) n2 n14 n15 n16 n17 n18 n19 n20 n21 n22 n23 n27 n28 n32 n33 n34 n35 n39 n52)))) := e2x
  refine wq_gos (f := 1) (pc2 := 6) (ls2 := [(0, .ref 162), (1, .int 1), (2, .int m9)]) (st2 := [.int m9]) (h2 := hh1x) (dc2 := 0) (ds2 := 0) 1 rfl ?_
  refine wq_lt0 rfl rfl (fun b5x => ?_) (fun b5x => ?_)
  · refine wq_gos (f := 1) (pc2 := 16) (ls2 := [(0, .ref 162), (1, .int 1), (2, .int m9)]) (st2 := [.int (-1)]) (h2 := hh1x) (dc2 := 0) (ds2 := 0) 1 rfl ?_
    exact wq_ret rfl rfl ⟨_, hh1x, rfl, mIv_0 hI ff3x (by omega) e2x⟩
  · refine wq_gos (f := 1) (pc2 := 12) (ls2 := [(0, .ref 162), (1, .int 1), (2, .int m9)]) (st2 := [.int 99, .int m9]) (h2 := hh1x) (dc2 := 0) (ds2 := 0) 2 rfl ?_
    have q6x : (99 : Int32).toInt = 99 := rfl
    refine wq_le2 rfl rfl (fun b7x => ?_) (fun b7x => ?_)
    · refine wq_gos (f := 1) (pc2 := 19) (ls2 := [(0, .ref 162), (1, .int 1), (2, .int m9)]) (st2 := [.int 1, .ref 162]) (h2 := hh1x) (dc2 := 0) (ds2 := 0) 2 rfl ?_
      refine wq_inlv (y2 := 250) (as := [.int 1]) rfl rfl rfl e2x rfl ?_
      show wq 250 0 [(0, .ref 162), (1, .int 1)] [] hh1x 0 0 _
      refine wq_gos (f := 1) (pc2 := 10) (ls2 := [(0, .ref 162), (1, .int 1)]) (st2 := [.int 1, .ref 162]) (h2 := hh1x) (dc2 := 0) (ds2 := 0) 5 rfl ?_
      refine wq_inlv (y2 := 249) (as := [.int 1]) rfl rfl rfl e2x rfl (m_use1 e2x (mIv_0 hI ff3x (by omega) e2x) ?_ ?_)
      · intro h88x m348x m358x ri8x pa8x ch8x co8x tk8x th8x f88x l88x c08x c18x c28x c38x c48x c58x c68x c78x p08x p18x
        show wq 250 13 [(0, .ref 162), (1, .int 1)] [] h88x 0 0 _
        refine wq_gos (f := 1) (pc2 := 14) (ls2 := [(0, .ref 162), (1, .int 1)]) (st2 := [.ref 162]) (h2 := h88x) (dc2 := 0) (ds2 := 0) 1 rfl ?_
        refine wq_getf rfl c08x rfl rfl ?_
        refine wq_gos (f := 1) (pc2 := 26) (ls2 := [(0, .ref 162), (1, .int 1)]) (st2 := [.int 1, .ref 210]) (h2 := h88x) (dc2 := 0) (ds2 := 0) 4 rfl ?_
        have q9x : (1 : Int32).toInt = 1 := rfl
        refine wq_iald rfl c28x rfl rfl ?_
        refine wq_ret rfl rfl ?_
        show wq 260 22 [(0, .ref 162), (1, .int 1), (2, .int m9)] [.int (ri8x.getD 1 0)] h88x 0 0 _
        refine wq_gos (f := 1) (pc2 := 24) (ls2 := [(3, .int (ri8x.getD 1 0)), (0, .ref 162), (1, .int 1), (2, .int m9)]) (st2 := [.int (ri8x.getD 1 0)]) (h2 := h88x) (dc2 := 0) (ds2 := 0) 2 rfl ?_
        refine wq_ge0f rfl rfl (by omega) ?_
        refine wq_gos (f := 1) (pc2 := 28) (ls2 := [(3, .int (ri8x.getD 1 0)), (0, .ref 162), (1, .int 1), (2, .int m9)]) (st2 := [.int (ri8x.getD 1 0)]) (h2 := h88x) (dc2 := 0) (ds2 := 0) 1 rfl ?_
        exact wq_ret rfl rfl ⟨_, h88x, rfl, p18x⟩
      · intro h810x m3410x m3510x ri10x pa10x ch10x co10x tk10x th10x T910x f810x l810x c010x c110x c210x c310x c410x c510x c610x c710x p010x p110x p210x p310x p410x
        have qT9 := nI_toInt (n := T910x) (by omega)
        show wq 250 13 [(0, .ref 162), (1, .int 1)] [] h810x 0 0 _
        refine wq_gos (f := 1) (pc2 := 14) (ls2 := [(0, .ref 162), (1, .int 1)]) (st2 := [.ref 162]) (h2 := h810x) (dc2 := 0) (ds2 := 0) 1 rfl ?_
        refine wq_getf rfl c010x rfl rfl ?_
        refine wq_gos (f := 1) (pc2 := 26) (ls2 := [(0, .ref 162), (1, .int 1)]) (st2 := [.int 1, .ref 210]) (h2 := h810x) (dc2 := 0) (ds2 := 0) 4 rfl ?_
        have q11x : (1 : Int32).toInt = 1 := rfl
        refine wq_iald rfl c210x rfl rfl ?_
        refine wq_vi p010x ?_
        refine wq_ret rfl rfl ?_
        show wq 260 22 [(0, .ref 162), (1, .int 1), (2, .int m9)] [.int (nI T910x)] h810x 0 0 _
        refine wq_gos (f := 1) (pc2 := 24) (ls2 := [(3, .int (nI T910x)), (0, .ref 162), (1, .int 1), (2, .int m9)]) (st2 := [.int (nI T910x)]) (h2 := h810x) (dc2 := 0) (ds2 := 0) 2 rfl ?_
        try have q12x := nI_toInt (n := T910x) (by omega)
        refine wq_ge0t rfl (by omega) ?_
        refine wq_gos (f := 1) (pc2 := 33) (ls2 := [(4, .int 9), (3, .int (nI T910x)), (0, .ref 162), (1, .int 1), (2, .int m9)]) (st2 := []) (h2 := h810x) (dc2 := 0) (ds2 := 0) 2 rfl ?_
        refine wq_ls [(0, .ref 162), (1, .int 1), (2, .int m9), (4, .int 9)] (show ([0, 1, 2, 4] : List Nat).Nodup by decide) ⟨rfl, rfl, rfl, rfl, trivial⟩ ?_
        refine wq_mono (m_roL1 c010x c110x c310x c510x ⟨hkn, hw10⟩ (by first | assumption | omega | decide | solve_by_elim) (by first | assumption | omega | decide | solve_by_elim) (by first | assumption | omega | decide | solve_by_elim) ((9 : Int32).toInt.toNat + 1) (9 : Int32) (by first | assumption | omega | decide | solve_by_elim) (by omega) 0 0) ?_
        rintro _ rfl
        exact ⟨_, h810x, rfl, p410x⟩
    · refine wq_gos (f := 1) (pc2 := 16) (ls2 := [(0, .ref 162), (1, .int 1), (2, .int m9)]) (st2 := [.int (-1)]) (h2 := hh1x) (dc2 := 0) (ds2 := 0) 1 rfl ?_
      exact wq_ret rfl rfl ⟨_, hh1x, rfl, mIv_0 hI ff3x (by omega) e2x⟩
set_option maxRecDepth 100000 in
set_option maxHeartbeats 4000000 in
theorem m_o263_1 {h : zH} {wn : Nat} {kn lo hi sv sq wy nw : List Int32} {n0 n2 n14 n15 n16 n17 n18 n19 n20 n21 n22 n23 n27 n28 n32 n33 n34 n35 n39 n52 : Int32} {am9 : mS} {w : Int32} (hM : zat h 162 = some (.inr (.inr (.inr (10, mO n0 n2 n14 n15 n16 n17 n18 n19 n20 n21 n22 n23 n27 n28 n32 n33 n34 n35 n39 n52))))) (hI : mIv h h wn kn lo hi sv sq wy nw n0 n2 n14 n15 n16 n17 n18 n19 n20 n21 n22 n23 n27 n28 n32 n33 n39 n52 am9)  : wq 263 0 [(0, .ref 162), (1, .int 1), (2, .int w)] [] h 0 0 (fun r => ∃ v h2, r = (some (.int v), h2, 0, 0) ∧ mIv h h2 wn kn lo hi sv sq wy nw 0 n2 n14 n15 n16 n17 n18 n19 n20 n21 n22 n23 n27 n28 n32 n33 n39 n52 am9) := by
  have hI0 := hI
  obtain ⟨_, _, fo9, sm9, hr9, tk9, hT9, hS9, hP9, hF9, hN9, hb9, hR9, hK9⟩ := hI0
  have hKn9 := hT9.1
  have tf9 := hT9.2.2.2.2.2.2
  have hkn := tf9.1
  have hw10 := tf9.2.1
  have hbl9 := tf9.2.2.2.1
  have z0 : (0 : Int32).toInt = 0 := rfl
  have z1 : (1 : Int32).toInt = 1 := rfl
  have z5 : (5 : Int32).toInt = 5 := rfl
  have z6 : (6 : Int32).toInt = 6 := rfl
  have zm1 : (-1 : Int32).toInt = -1 := rfl
  have z3 : (3 : Int32).toInt = 3 := rfl
  have z2 : (2 : Int32).toInt = 2 := rfl
  have z20 : (20 : Int32).toInt = 20 := rfl
  have zn99 : (99 : Int32).toInt = 99 := rfl
  have qwn := nI_toInt (n := wn) (by omega)
  refine wq_gos (f := 1) (pc2 := 2) (ls2 := [(0, .ref 162), (1, .int 1), (2, .int w)]) (st2 := [.int 0, .ref 162]) (h2 := h) (dc2 := 0) (ds2 := 0) 2 rfl ?_
  refine wq_putf rfl hM rfl rfl rfl ?_
  intro hh1x e2x ff3x lh4x
  have e2x : zat hh1x 162 = some (.inr (.inr (.inr (10, mO (0 : Int32) n2 n14 n15 n16 n17 n18 n19 n20 n21 n22 n23 n27 n28 n32 n33 n34 n35 n39 n52)))) := e2x
  refine wq_gos (f := 1) (pc2 := 6) (ls2 := [(0, .ref 162), (1, .int 1), (2, .int w)]) (st2 := [.int w]) (h2 := hh1x) (dc2 := 0) (ds2 := 0) 1 rfl ?_
  refine wq_lt0 rfl rfl (fun b5x => ?_) (fun b5x => ?_)
  · refine wq_gos (f := 1) (pc2 := 15) (ls2 := [(0, .ref 162), (1, .int 1), (2, .int w)]) (st2 := [.int (-1)]) (h2 := hh1x) (dc2 := 0) (ds2 := 0) 1 rfl ?_
    exact wq_ret rfl rfl ⟨_, hh1x, rfl, mIv_0 hI ff3x (by omega) e2x⟩
  · refine wq_gos (f := 1) (pc2 := 11) (ls2 := [(0, .ref 162), (1, .int 1), (2, .int w)]) (st2 := [.int 2, .int w]) (h2 := hh1x) (dc2 := 0) (ds2 := 0) 2 rfl ?_
    have q6x : (2 : Int32).toInt = 2 := rfl
    refine wq_le2 rfl rfl (fun b7x => ?_) (fun b7x => ?_)
    · refine wq_gos (f := 1) (pc2 := 18) (ls2 := [(0, .ref 162), (1, .int 1), (2, .int w)]) (st2 := [.int 1, .ref 162]) (h2 := hh1x) (dc2 := 0) (ds2 := 0) 2 rfl ?_
      refine wq_inlv (y2 := 250) (as := [.int 1]) rfl rfl rfl e2x rfl ?_
      show wq 250 0 [(0, .ref 162), (1, .int 1)] [] hh1x 0 0 _
      refine wq_gos (f := 1) (pc2 := 10) (ls2 := [(0, .ref 162), (1, .int 1)]) (st2 := [.int 1, .ref 162]) (h2 := hh1x) (dc2 := 0) (ds2 := 0) 5 rfl ?_
      refine wq_inlv (y2 := 249) (as := [.int 1]) rfl rfl rfl e2x rfl (m_use1 e2x (mIv_0 hI ff3x (by omega) e2x) ?_ ?_)
      · intro h88x m348x m358x ri8x pa8x ch8x co8x tk8x th8x f88x l88x c08x c18x c28x c38x c48x c58x c68x c78x p08x p18x
        show wq 250 13 [(0, .ref 162), (1, .int 1)] [] h88x 0 0 _
        refine wq_gos (f := 1) (pc2 := 14) (ls2 := [(0, .ref 162), (1, .int 1)]) (st2 := [.ref 162]) (h2 := h88x) (dc2 := 0) (ds2 := 0) 1 rfl ?_
        refine wq_getf rfl c08x rfl rfl ?_
        refine wq_gos (f := 1) (pc2 := 26) (ls2 := [(0, .ref 162), (1, .int 1)]) (st2 := [.int 1, .ref 210]) (h2 := h88x) (dc2 := 0) (ds2 := 0) 4 rfl ?_
        have q9x : (1 : Int32).toInt = 1 := rfl
        refine wq_iald rfl c28x rfl rfl ?_
        refine wq_ret rfl rfl ?_
        show wq 263 21 [(0, .ref 162), (1, .int 1), (2, .int w)] [.int (ri8x.getD 1 0)] h88x 0 0 _
        refine wq_gos (f := 1) (pc2 := 23) (ls2 := [(3, .int (ri8x.getD 1 0)), (0, .ref 162), (1, .int 1), (2, .int w)]) (st2 := [.int (ri8x.getD 1 0)]) (h2 := h88x) (dc2 := 0) (ds2 := 0) 2 rfl ?_
        refine wq_ge0f rfl rfl (by omega) ?_
        refine wq_gos (f := 1) (pc2 := 27) (ls2 := [(3, .int (ri8x.getD 1 0)), (0, .ref 162), (1, .int 1), (2, .int w)]) (st2 := [.int (ri8x.getD 1 0)]) (h2 := h88x) (dc2 := 0) (ds2 := 0) 1 rfl ?_
        exact wq_ret rfl rfl ⟨_, h88x, rfl, p18x⟩
      · intro h810x m3410x m3510x ri10x pa10x ch10x co10x tk10x th10x T910x f810x l810x c010x c110x c210x c310x c410x c510x c610x c710x p010x p110x p210x p310x p410x
        have qT9 := nI_toInt (n := T910x) (by omega)
        show wq 250 13 [(0, .ref 162), (1, .int 1)] [] h810x 0 0 _
        refine wq_gos (f := 1) (pc2 := 14) (ls2 := [(0, .ref 162), (1, .int 1)]) (st2 := [.ref 162]) (h2 := h810x) (dc2 := 0) (ds2 := 0) 1 rfl ?_
        refine wq_getf rfl c010x rfl rfl ?_
        refine wq_gos (f := 1) (pc2 := 26) (ls2 := [(0, .ref 162), (1, .int 1)]) (st2 := [.int 1, .ref 210]) (h2 := h810x) (dc2 := 0) (ds2 := 0) 4 rfl ?_
        have q11x : (1 : Int32).toInt = 1 := rfl
        refine wq_iald rfl c210x rfl rfl ?_
        refine wq_vi p010x ?_
        refine wq_ret rfl rfl ?_
        show wq 263 21 [(0, .ref 162), (1, .int 1), (2, .int w)] [.int (nI T910x)] h810x 0 0 _
        refine wq_gos (f := 1) (pc2 := 23) (ls2 := [(3, .int (nI T910x)), (0, .ref 162), (1, .int 1), (2, .int w)]) (st2 := [.int (nI T910x)]) (h2 := h810x) (dc2 := 0) (ds2 := 0) 2 rfl ?_
        try have q12x := nI_toInt (n := T910x) (by omega)
        refine wq_ge0t rfl (by omega) ?_
        refine wq_gos (f := 1) (pc2 := 41) (ls2 := [(4, .int 1), (3, .int (nI T910x)), (0, .ref 162), (1, .int 1), (2, .int w)]) (st2 := [.int 2, .int w]) (h2 := h810x) (dc2 := 0) (ds2 := 0) 7 rfl ?_
        refine wq_ge2 rfl rfl (fun b13x => ?_) (fun b13x => ?_)
        · refine wq_gos (f := 1) (pc2 := 59) (ls2 := [(4, .int 1), (3, .int (nI T910x)), (0, .ref 162), (1, .int 1), (2, .int w)]) (st2 := [.int (nI T910x), .int 1, .ref 162]) (h2 := h810x) (dc2 := 0) (ds2 := 0) 3 rfl ?_
          refine wq_inlv (y2 := 265) (as := [.int 1, .int (nI T910x)]) rfl rfl rfl c010x rfl (wq_mono (m_rb1 c010x c110x c310x c510x ⟨hkn, hw10⟩ (by first | assumption | omega | decide | solve_by_elim)) ?_)
          rintro _ ⟨v914x, rfl⟩
          show wq 263 62 [(4, .int 1), (3, .int (nI T910x)), (0, .ref 162), (1, .int 1), (2, .int w)] [.int v914x] h810x 0 0 _
          exact wq_ret rfl rfl ⟨_, h810x, rfl, p410x⟩
        · refine wq_gos (f := 1) (pc2 := 49) (ls2 := [(4, .int 1), (3, .int (nI T910x)), (0, .ref 162), (1, .int 1), (2, .int w)]) (st2 := [.int w, .int (nI T910x), .int 1, .ref 162]) (h2 := h810x) (dc2 := 0) (ds2 := 0) 4 rfl ?_
          refine wq_inlv (y2 := 264) (as := [.int 1, .int (nI T910x), .int w]) rfl rfl rfl c010x rfl (wq_mono (m_tu1 c010x c110x c310x c510x c610x ⟨hkn, hw10⟩ (by first | assumption | omega | decide | solve_by_elim)) ?_)
          rintro _ ⟨h815x, v915x, tk215x, rfl, f815x, l815x, c015x⟩
          show wq 263 52 [(4, .int 1), (3, .int (nI T910x)), (0, .ref 162), (1, .int 1), (2, .int w)] [.int v915x] h815x 0 0 _
          refine wq_gos (f := 1) (pc2 := 62) (ls2 := [(4, .int 1), (3, .int (nI T910x)), (0, .ref 162), (1, .int 1), (2, .int w)]) (st2 := [.int v915x]) (h2 := h815x) (dc2 := 0) (ds2 := 0) 1 rfl ?_
          have e16x := (f815x.2 _ _ (wnc (by decide) wn0) c710x)
          exact wq_ret rfl rfl ⟨_, h815x, rfl, (mIv_w p410x (wFr_sub f815x (by simp)) (by omega) c015x e16x)⟩
    · refine wq_gos (f := 1) (pc2 := 15) (ls2 := [(0, .ref 162), (1, .int 1), (2, .int w)]) (st2 := [.int (-1)]) (h2 := hh1x) (dc2 := 0) (ds2 := 0) 1 rfl ?_
      exact wq_ret rfl rfl ⟨_, hh1x, rfl, mIv_0 hI ff3x (by omega) e2x⟩
set_option maxRecDepth 100000 in
set_option maxHeartbeats 4000000 in
theorem m_o266_1 {h : zH} {wn : Nat} {kn lo hi sv sq wy nw : List Int32} {n0 n2 n14 n15 n16 n17 n18 n19 n20 n21 n22 n23 n27 n28 n32 n33 n34 n35 n39 n52 : Int32} {am9 : mS}  (hM : zat h 162 = some (.inr (.inr (.inr (10, mO n0 n2 n14 n15 n16 n17 n18 n19 n20 n21 n22 n23 n27 n28 n32 n33 n34 n35 n39 n52))))) (hI : mIv h h wn kn lo hi sv sq wy nw n0 n2 n14 n15 n16 n17 n18 n19 n20 n21 n22 n23 n27 n28 n32 n33 n39 n52 am9)  : wq 266 0 [(0, .ref 162), (1, .int 1)] [] h 0 0 (fun r => ∃ v h2, r = (some (.long v), h2, 0, 0) ∧ mIv h h2 wn kn lo hi sv sq wy nw 0 n2 n14 n15 n16 n17 n18 n19 n20 n21 n22 n23 n27 n28 n32 n33 n39 n52 am9) := by
  have hI0 := hI
  obtain ⟨_, _, fo9, sm9, hr9, tk9, hT9, hS9, hP9, hF9, hN9, hb9, hR9, hK9⟩ := hI0
  have hKn9 := hT9.1
  have tf9 := hT9.2.2.2.2.2.2
  have hkn := tf9.1
  have hw10 := tf9.2.1
  have hbl9 := tf9.2.2.2.1
  have z0 : (0 : Int32).toInt = 0 := rfl
  have z1 : (1 : Int32).toInt = 1 := rfl
  have z5 : (5 : Int32).toInt = 5 := rfl
  have z6 : (6 : Int32).toInt = 6 := rfl
  have zm1 : (-1 : Int32).toInt = -1 := rfl
  have z3 : (3 : Int32).toInt = 3 := rfl
  have z2 : (2 : Int32).toInt = 2 := rfl
  have z20 : (20 : Int32).toInt = 20 := rfl
  have zn99 : (99 : Int32).toInt = 99 := rfl
  have qwn := nI_toInt (n := wn) (by omega)
  refine wq_gos (f := 1) (pc2 := 2) (ls2 := [(0, .ref 162), (1, .int 1)]) (st2 := [.int 0, .ref 162]) (h2 := h) (dc2 := 0) (ds2 := 0) 2 rfl ?_
  refine wq_putf rfl hM rfl rfl rfl ?_
  intro hh1x e2x ff3x lh4x
  have e2x : zat hh1x 162 = some (.inr (.inr (.inr (10, mO (0 : Int32) n2 n14 n15 n16 n17 n18 n19 n20 n21 n22 n23 n27 n28 n32 n33 n34 n35 n39 n52)))) := e2x
  refine wq_gos (f := 1) (pc2 := 7) (ls2 := [(0, .ref 162), (1, .int 1)]) (st2 := [.int 1, .ref 162]) (h2 := hh1x) (dc2 := 0) (ds2 := 0) 2 rfl ?_
  refine wq_inlv (y2 := 250) (as := [.int 1]) rfl rfl rfl e2x rfl ?_
  show wq 250 0 [(0, .ref 162), (1, .int 1)] [] hh1x 0 0 _
  refine wq_gos (f := 1) (pc2 := 10) (ls2 := [(0, .ref 162), (1, .int 1)]) (st2 := [.int 1, .ref 162]) (h2 := hh1x) (dc2 := 0) (ds2 := 0) 5 rfl ?_
  refine wq_inlv (y2 := 249) (as := [.int 1]) rfl rfl rfl e2x rfl (m_use1 e2x (mIv_0 hI ff3x (by omega) e2x) ?_ ?_)
  · intro h85x m345x m355x ri5x pa5x ch5x co5x tk5x th5x f85x l85x c05x c15x c25x c35x c45x c55x c65x c75x p05x p15x
    show wq 250 13 [(0, .ref 162), (1, .int 1)] [] h85x 0 0 _
    refine wq_gos (f := 1) (pc2 := 14) (ls2 := [(0, .ref 162), (1, .int 1)]) (st2 := [.ref 162]) (h2 := h85x) (dc2 := 0) (ds2 := 0) 1 rfl ?_
    refine wq_getf rfl c05x rfl rfl ?_
    refine wq_gos (f := 1) (pc2 := 26) (ls2 := [(0, .ref 162), (1, .int 1)]) (st2 := [.int 1, .ref 210]) (h2 := h85x) (dc2 := 0) (ds2 := 0) 4 rfl ?_
    have q6x : (1 : Int32).toInt = 1 := rfl
    refine wq_iald rfl c25x rfl rfl ?_
    refine wq_ret rfl rfl ?_
    show wq 266 10 [(0, .ref 162), (1, .int 1)] [.int (ri5x.getD 1 0)] h85x 0 0 _
    refine wq_gos (f := 1) (pc2 := 12) (ls2 := [(2, .int (ri5x.getD 1 0)), (0, .ref 162), (1, .int 1)]) (st2 := [.int (ri5x.getD 1 0)]) (h2 := h85x) (dc2 := 0) (ds2 := 0) 2 rfl ?_
    refine wq_ge0f rfl rfl (by omega) ?_
    refine wq_gos (f := 1) (pc2 := 17) (ls2 := [(2, .int (ri5x.getD 1 0)), (0, .ref 162), (1, .int 1)]) (st2 := [.long ((ri5x.getD 1 0)).toInt64]) (h2 := h85x) (dc2 := 0) (ds2 := 0) 2 rfl ?_
    exact wq_ret rfl rfl ⟨_, h85x, rfl, p15x⟩
  · intro h87x m347x m357x ri7x pa7x ch7x co7x tk7x th7x T97x f87x l87x c07x c17x c27x c37x c47x c57x c67x c77x p07x p17x p27x p37x p47x
    have qT9 := nI_toInt (n := T97x) (by omega)
    show wq 250 13 [(0, .ref 162), (1, .int 1)] [] h87x 0 0 _
    refine wq_gos (f := 1) (pc2 := 14) (ls2 := [(0, .ref 162), (1, .int 1)]) (st2 := [.ref 162]) (h2 := h87x) (dc2 := 0) (ds2 := 0) 1 rfl ?_
    refine wq_getf rfl c07x rfl rfl ?_
    refine wq_gos (f := 1) (pc2 := 26) (ls2 := [(0, .ref 162), (1, .int 1)]) (st2 := [.int 1, .ref 210]) (h2 := h87x) (dc2 := 0) (ds2 := 0) 4 rfl ?_
    have q8x : (1 : Int32).toInt = 1 := rfl
    refine wq_iald rfl c27x rfl rfl ?_
    refine wq_vi p07x ?_
    refine wq_ret rfl rfl ?_
    show wq 266 10 [(0, .ref 162), (1, .int 1)] [.int (nI T97x)] h87x 0 0 _
    refine wq_gos (f := 1) (pc2 := 12) (ls2 := [(2, .int (nI T97x)), (0, .ref 162), (1, .int 1)]) (st2 := [.int (nI T97x)]) (h2 := h87x) (dc2 := 0) (ds2 := 0) 2 rfl ?_
    try have q9x := nI_toInt (n := T97x) (by omega)
    refine wq_ge0t rfl (by omega) ?_
    refine wq_gos (f := 1) (pc2 := 34) (ls2 := [(4, .long 0), (3, .int 1), (2, .int (nI T97x)), (0, .ref 162), (1, .int 1)]) (st2 := [.int 0, .int 1, .ref 162]) (h2 := h87x) (dc2 := 0) (ds2 := 0) 10 rfl ?_
    have q10x : (0 : Int32).toInt = 0 := rfl
    refine wq_inlv (y2 := 262) (as := [.int 1, .int 0]) rfl rfl rfl c07x rfl (wq_mono (m_lt (r := 1) c07x c17x c37x c57x c67x ⟨hkn, hw10, by decide⟩) ?_)
    rintro _ ⟨h811x, rfl, f811x, l811x, c011x⟩
    show wq 266 37 [(4, .long 0), (3, .int 1), (2, .int (nI T97x)), (0, .ref 162), (1, .int 1)] [] h811x 0 0 _
    refine wq_gos (f := 1) (pc2 := 39) (ls2 := [(4, .long 0), (3, .int 1), (2, .int (nI T97x)), (0, .ref 162), (1, .int 1)]) (st2 := [.ref 162, .ref 162]) (h2 := h811x) (dc2 := 0) (ds2 := 0) 2 rfl ?_
    have e12x := (f811x.2 _ _ (wnc (by decide) wn0) c07x)
    refine wq_getf rfl e12x rfl rfl ?_
    refine wq_gos (f := 1) (pc2 := 43) (ls2 := [(4, .long 0), (3, .int 1), (2, .int (nI T97x)), (0, .ref 162), (1, .int 1)]) (st2 := [.int 0, .ref 224, .ref 162]) (h2 := h811x) (dc2 := 0) (ds2 := 0) 1 rfl ?_
    have e13x := (f811x.2 _ _ (wnc (by decide) wn0) c17x)
    have e14x := (f811x.2 _ _ (wnc (by decide) wn0) c77x)
    refine wq_inlv (y2 := 200) (as := [.ref 224, .int 0]) rfl rfl rfl e12x rfl (wq_mono (m_pla (k := 0) e12x e13x c011x e14x (by first | assumption | omega | decide | solve_by_elim) (by first | assumption | omega | decide | solve_by_elim)) ?_)
    rintro _ ⟨h815x, rfl, f815x, l815x, c015x⟩
    show wq 266 46 [(4, .long 0), (3, .int 1), (2, .int (nI T97x)), (0, .ref 162), (1, .int 1)] [] h815x 0 0 _
    obtain ⟨v16x, hv17x⟩ : ∃ x, x = (mPla kn (mTick tk7x pa7x co7x wn 1 (0 : Int32)) 0 th7x) := ⟨_, rfl⟩
    try rw [← hv17x] at c015x
    try rw [← hv17x]
    refine wq_gos (f := 1) (pc2 := 49) (ls2 := [(6, .int 1), (4, .long 0), (3, .int 1), (2, .int (nI T97x)), (0, .ref 162), (1, .int 1)]) (st2 := []) (h2 := h815x) (dc2 := 0) (ds2 := 0) 2 rfl ?_
    have e18x := (f815x.2 _ _ (wnc (by decide) wn0) e12x)
    have e19x := (f815x.2 _ _ (wnc (by decide) wn0) e13x)
    have e20x := (f815x.2 _ _ (wnc (by decide) wn0) (f811x.2 _ _ (wnc (by decide) wn0) c37x))
    have e21x := (f815x.2 _ _ (wnc (by decide) wn0) (f811x.2 _ _ (wnc (by decide) wn0) c57x))
    have e22x := (f815x.2 _ _ (wnc (by decide) wn0) c011x)
    refine wq_ls [(0, .ref 162), (2, .int (nI T97x)), (3, .int 1), (4, .long 0), (6, .int (nI 1))] (show ([0, 2, 3, 4, 6] : List Nat).Nodup by decide) ⟨rfl, rfl, rfl, rfl, rfl, trivial⟩ ?_
    refine wq_mono (m_trL1 ⟨hkn, hw10⟩ (by first | assumption | omega | decide | solve_by_elim) ((T97x + 1 - 1) + 1) (0 : Int64) 1 (mTick tk7x pa7x co7x wn 1 (0 : Int32)) (v16x) h815x e18x e19x e20x e21x e22x c015x (by first | assumption | omega | decide | solve_by_elim) (by omega) 0 0) ?_
    rintro _ ⟨h825x, rfl, f825x, l825x, c025x, c125x⟩
    obtain ⟨v23x, hv24x⟩ : ∃ x, x = (mtrF1 kn pa7x co7x wn T97x ((T97x + 1 - 1) + 1) (0 : Int64) 1 (mTick tk7x pa7x co7x wn 1 (0 : Int32)) (v16x)) := ⟨_, rfl⟩
    try rw [← hv24x] at c025x
    try rw [← hv24x] at c125x
    try rw [← hv24x]
    exact ⟨_, h825x, rfl, (mIv_w p47x (wFr_tr (wFr_sub f811x (by simp)) (wFr_tr (wFr_sub f815x (by simp)) (wFr_sub f825x (by simp)))) (by omega) c025x c125x)⟩
set_option maxRecDepth 100000 in
set_option maxHeartbeats 4000000 in
theorem m_o267_1 {h : zH} {wn : Nat} {kn lo hi sv sq wy nw : List Int32} {n0 n2 n14 n15 n16 n17 n18 n19 n20 n21 n22 n23 n27 n28 n32 n33 n34 n35 n39 n52 : Int32} {am9 : mS}  (hM : zat h 162 = some (.inr (.inr (.inr (10, mO n0 n2 n14 n15 n16 n17 n18 n19 n20 n21 n22 n23 n27 n28 n32 n33 n34 n35 n39 n52))))) (hI : mIv h h wn kn lo hi sv sq wy nw n0 n2 n14 n15 n16 n17 n18 n19 n20 n21 n22 n23 n27 n28 n32 n33 n39 n52 am9)  : wq 267 0 [(0, .ref 162), (1, .int 1)] [] h 0 0 (fun r => ∃ v h2, r = (some (.int v), h2, 0, 0) ∧ mIv h h2 wn kn lo hi sv sq wy nw 0 n2 n14 n15 n16 n17 n18 n19 n20 n21 n22 n23 n27 n28 n32 n33 n39 n52 am9) := by
  have hI0 := hI
  obtain ⟨_, _, fo9, sm9, hr9, tk9, hT9, hS9, hP9, hF9, hN9, hb9, hR9, hK9⟩ := hI0
  have hKn9 := hT9.1
  have tf9 := hT9.2.2.2.2.2.2
  have hkn := tf9.1
  have hw10 := tf9.2.1
  have hbl9 := tf9.2.2.2.1
  have z0 : (0 : Int32).toInt = 0 := rfl
  have z1 : (1 : Int32).toInt = 1 := rfl
  have z5 : (5 : Int32).toInt = 5 := rfl
  have z6 : (6 : Int32).toInt = 6 := rfl
  have zm1 : (-1 : Int32).toInt = -1 := rfl
  have z3 : (3 : Int32).toInt = 3 := rfl
  have z2 : (2 : Int32).toInt = 2 := rfl
  have z20 : (20 : Int32).toInt = 20 := rfl
  have zn99 : (99 : Int32).toInt = 99 := rfl
  have qwn := nI_toInt (n := wn) (by omega)
  refine wq_gos (f := 1) (pc2 := 2) (ls2 := [(0, .ref 162), (1, .int 1)]) (st2 := [.int 0, .ref 162]) (h2 := h) (dc2 := 0) (ds2 := 0) 2 rfl ?_
  refine wq_putf rfl hM rfl rfl rfl ?_
  intro hh1x e2x ff3x lh4x
  have e2x : zat hh1x 162 = some (.inr (.inr (.inr (10, mO (0 : Int32) n2 n14 n15 n16 n17 n18 n19 n20 n21 n22 n23 n27 n28 n32 n33 n34 n35 n39 n52)))) := e2x
  refine wq_gos (f := 1) (pc2 := 7) (ls2 := [(0, .ref 162), (1, .int 1)]) (st2 := [.int 1, .ref 162]) (h2 := hh1x) (dc2 := 0) (ds2 := 0) 2 rfl ?_
  refine wq_inlv (y2 := 250) (as := [.int 1]) rfl rfl rfl e2x rfl ?_
  show wq 250 0 [(0, .ref 162), (1, .int 1)] [] hh1x 0 0 _
  refine wq_gos (f := 1) (pc2 := 10) (ls2 := [(0, .ref 162), (1, .int 1)]) (st2 := [.int 1, .ref 162]) (h2 := hh1x) (dc2 := 0) (ds2 := 0) 5 rfl ?_
  refine wq_inlv (y2 := 249) (as := [.int 1]) rfl rfl rfl e2x rfl (m_use1 e2x (mIv_0 hI ff3x (by omega) e2x) ?_ ?_)
  · intro h85x m345x m355x ri5x pa5x ch5x co5x tk5x th5x f85x l85x c05x c15x c25x c35x c45x c55x c65x c75x p05x p15x
    show wq 250 13 [(0, .ref 162), (1, .int 1)] [] h85x 0 0 _
    refine wq_gos (f := 1) (pc2 := 14) (ls2 := [(0, .ref 162), (1, .int 1)]) (st2 := [.ref 162]) (h2 := h85x) (dc2 := 0) (ds2 := 0) 1 rfl ?_
    refine wq_getf rfl c05x rfl rfl ?_
    refine wq_gos (f := 1) (pc2 := 26) (ls2 := [(0, .ref 162), (1, .int 1)]) (st2 := [.int 1, .ref 210]) (h2 := h85x) (dc2 := 0) (ds2 := 0) 4 rfl ?_
    have q6x : (1 : Int32).toInt = 1 := rfl
    refine wq_iald rfl c25x rfl rfl ?_
    refine wq_ret rfl rfl ?_
    show wq 267 10 [(0, .ref 162), (1, .int 1)] [.int (ri5x.getD 1 0)] h85x 0 0 _
    refine wq_gos (f := 1) (pc2 := 12) (ls2 := [(2, .int (ri5x.getD 1 0)), (0, .ref 162), (1, .int 1)]) (st2 := [.int (ri5x.getD 1 0)]) (h2 := h85x) (dc2 := 0) (ds2 := 0) 2 rfl ?_
    refine wq_ge0f rfl rfl (by omega) ?_
    refine wq_gos (f := 1) (pc2 := 16) (ls2 := [(2, .int (ri5x.getD 1 0)), (0, .ref 162), (1, .int 1)]) (st2 := [.int (ri5x.getD 1 0)]) (h2 := h85x) (dc2 := 0) (ds2 := 0) 1 rfl ?_
    exact wq_ret rfl rfl ⟨_, h85x, rfl, p15x⟩
  · intro h87x m347x m357x ri7x pa7x ch7x co7x tk7x th7x T97x f87x l87x c07x c17x c27x c37x c47x c57x c67x c77x p07x p17x p27x p37x p47x
    have qT9 := nI_toInt (n := T97x) (by omega)
    show wq 250 13 [(0, .ref 162), (1, .int 1)] [] h87x 0 0 _
    refine wq_gos (f := 1) (pc2 := 14) (ls2 := [(0, .ref 162), (1, .int 1)]) (st2 := [.ref 162]) (h2 := h87x) (dc2 := 0) (ds2 := 0) 1 rfl ?_
    refine wq_getf rfl c07x rfl rfl ?_
    refine wq_gos (f := 1) (pc2 := 26) (ls2 := [(0, .ref 162), (1, .int 1)]) (st2 := [.int 1, .ref 210]) (h2 := h87x) (dc2 := 0) (ds2 := 0) 4 rfl ?_
    have q8x : (1 : Int32).toInt = 1 := rfl
    refine wq_iald rfl c27x rfl rfl ?_
    refine wq_vi p07x ?_
    refine wq_ret rfl rfl ?_
    show wq 267 10 [(0, .ref 162), (1, .int 1)] [.int (nI T97x)] h87x 0 0 _
    refine wq_gos (f := 1) (pc2 := 12) (ls2 := [(2, .int (nI T97x)), (0, .ref 162), (1, .int 1)]) (st2 := [.int (nI T97x)]) (h2 := h87x) (dc2 := 0) (ds2 := 0) 2 rfl ?_
    try have q9x := nI_toInt (n := T97x) (by omega)
    refine wq_ge0t rfl (by omega) ?_
    refine wq_gos (f := 1) (pc2 := 22) (ls2 := [(4, .int 1), (3, .int 0), (2, .int (nI T97x)), (0, .ref 162), (1, .int 1)]) (st2 := []) (h2 := h87x) (dc2 := 0) (ds2 := 0) 4 rfl ?_
    refine wq_ls [(0, .ref 162), (1, .int 1), (2, .int (nI T97x)), (3, .int 0), (4, .int (nI 1))] (show ([0, 1, 2, 3, 4] : List Nat).Nodup by decide) ⟨rfl, rfl, rfl, rfl, rfl, trivial⟩ ?_
    refine wq_mono (m_slL1 ⟨hkn, hw10⟩ (by first | assumption | omega | decide | solve_by_elim) ((T97x + 1 - 1) + 1) (0 : Int32) 1 tk7x h87x c07x c17x c37x c57x c67x (by first | assumption | omega | decide | solve_by_elim) (by omega) 0 0) ?_
    rintro _ ⟨h812x, rfl, f812x, l812x, c012x⟩
    obtain ⟨v10x, hv11x⟩ : ∃ x, x = (mslF1 pa7x co7x wn T97x ((T97x + 1 - 1) + 1) (0 : Int32) 1 tk7x) := ⟨_, rfl⟩
    try rw [← hv11x] at c012x
    try rw [← hv11x]
    have e13x := (f812x.2 _ _ (wnc (by decide) wn0) c77x)
    exact ⟨_, h812x, rfl, (mIv_w p47x (wFr_sub f812x (by simp)) (by omega) c012x e13x)⟩
set_option maxRecDepth 100000 in
set_option maxHeartbeats 4000000 in
theorem m_o268_1 {h : zH} {wn : Nat} {kn lo hi sv sq wy nw : List Int32} {n0 n2 n14 n15 n16 n17 n18 n19 n20 n21 n22 n23 n27 n28 n32 n33 n34 n35 n39 n52 : Int32} {am9 : mS}  (hM : zat h 162 = some (.inr (.inr (.inr (10, mO n0 n2 n14 n15 n16 n17 n18 n19 n20 n21 n22 n23 n27 n28 n32 n33 n34 n35 n39 n52))))) (hI : mIv h h wn kn lo hi sv sq wy nw n0 n2 n14 n15 n16 n17 n18 n19 n20 n21 n22 n23 n27 n28 n32 n33 n39 n52 am9)  : wq 268 0 [(0, .ref 162), (1, .int 1)] [] h 0 0 (fun r => ∃ v h2, r = (some (.int v), h2, 0, 0) ∧ mIv h h2 wn kn lo hi sv sq wy nw 0 n2 n14 n15 n16 n17 n18 n19 n20 n21 n22 n23 n27 n28 n32 n33 n39 n52 am9) := by
  have hI0 := hI
  obtain ⟨_, _, fo9, sm9, hr9, tk9, hT9, hS9, hP9, hF9, hN9, hb9, hR9, hK9⟩ := hI0
  have hKn9 := hT9.1
  have tf9 := hT9.2.2.2.2.2.2
  have hkn := tf9.1
  have hw10 := tf9.2.1
  have hbl9 := tf9.2.2.2.1
  have z0 : (0 : Int32).toInt = 0 := rfl
  have z1 : (1 : Int32).toInt = 1 := rfl
  have z5 : (5 : Int32).toInt = 5 := rfl
  have z6 : (6 : Int32).toInt = 6 := rfl
  have zm1 : (-1 : Int32).toInt = -1 := rfl
  have z3 : (3 : Int32).toInt = 3 := rfl
  have z2 : (2 : Int32).toInt = 2 := rfl
  have z20 : (20 : Int32).toInt = 20 := rfl
  have zn99 : (99 : Int32).toInt = 99 := rfl
  have qwn := nI_toInt (n := wn) (by omega)
  refine wq_gos (f := 1) (pc2 := 2) (ls2 := [(0, .ref 162), (1, .int 1)]) (st2 := [.int 0, .ref 162]) (h2 := h) (dc2 := 0) (ds2 := 0) 2 rfl ?_
  refine wq_putf rfl hM rfl rfl rfl ?_
  intro hh1x e2x ff3x lh4x
  have e2x : zat hh1x 162 = some (.inr (.inr (.inr (10, mO (0 : Int32) n2 n14 n15 n16 n17 n18 n19 n20 n21 n22 n23 n27 n28 n32 n33 n34 n35 n39 n52)))) := e2x
  refine wq_gos (f := 1) (pc2 := 7) (ls2 := [(0, .ref 162), (1, .int 1)]) (st2 := [.int 1, .ref 162]) (h2 := hh1x) (dc2 := 0) (ds2 := 0) 2 rfl ?_
  refine wq_inlv (y2 := 250) (as := [.int 1]) rfl rfl rfl e2x rfl ?_
  show wq 250 0 [(0, .ref 162), (1, .int 1)] [] hh1x 0 0 _
  refine wq_gos (f := 1) (pc2 := 10) (ls2 := [(0, .ref 162), (1, .int 1)]) (st2 := [.int 1, .ref 162]) (h2 := hh1x) (dc2 := 0) (ds2 := 0) 5 rfl ?_
  refine wq_inlv (y2 := 249) (as := [.int 1]) rfl rfl rfl e2x rfl (m_use1 e2x (mIv_0 hI ff3x (by omega) e2x) ?_ ?_)
  · intro h85x m345x m355x ri5x pa5x ch5x co5x tk5x th5x f85x l85x c05x c15x c25x c35x c45x c55x c65x c75x p05x p15x
    show wq 250 13 [(0, .ref 162), (1, .int 1)] [] h85x 0 0 _
    refine wq_gos (f := 1) (pc2 := 14) (ls2 := [(0, .ref 162), (1, .int 1)]) (st2 := [.ref 162]) (h2 := h85x) (dc2 := 0) (ds2 := 0) 1 rfl ?_
    refine wq_getf rfl c05x rfl rfl ?_
    refine wq_gos (f := 1) (pc2 := 26) (ls2 := [(0, .ref 162), (1, .int 1)]) (st2 := [.int 1, .ref 210]) (h2 := h85x) (dc2 := 0) (ds2 := 0) 4 rfl ?_
    have q6x : (1 : Int32).toInt = 1 := rfl
    refine wq_iald rfl c25x rfl rfl ?_
    refine wq_ret rfl rfl ?_
    show wq 268 10 [(0, .ref 162), (1, .int 1)] [.int (ri5x.getD 1 0)] h85x 0 0 _
    refine wq_gos (f := 1) (pc2 := 12) (ls2 := [(2, .int (ri5x.getD 1 0)), (0, .ref 162), (1, .int 1)]) (st2 := [.int (ri5x.getD 1 0)]) (h2 := h85x) (dc2 := 0) (ds2 := 0) 2 rfl ?_
    refine wq_ge0f rfl rfl (by omega) ?_
    refine wq_gos (f := 1) (pc2 := 16) (ls2 := [(2, .int (ri5x.getD 1 0)), (0, .ref 162), (1, .int 1)]) (st2 := [.int (ri5x.getD 1 0)]) (h2 := h85x) (dc2 := 0) (ds2 := 0) 1 rfl ?_
    exact wq_ret rfl rfl ⟨_, h85x, rfl, p15x⟩
  · intro h87x m347x m357x ri7x pa7x ch7x co7x tk7x th7x T97x f87x l87x c07x c17x c27x c37x c47x c57x c67x c77x p07x p17x p27x p37x p47x
    have qT9 := nI_toInt (n := T97x) (by omega)
    show wq 250 13 [(0, .ref 162), (1, .int 1)] [] h87x 0 0 _
    refine wq_gos (f := 1) (pc2 := 14) (ls2 := [(0, .ref 162), (1, .int 1)]) (st2 := [.ref 162]) (h2 := h87x) (dc2 := 0) (ds2 := 0) 1 rfl ?_
    refine wq_getf rfl c07x rfl rfl ?_
    refine wq_gos (f := 1) (pc2 := 26) (ls2 := [(0, .ref 162), (1, .int 1)]) (st2 := [.int 1, .ref 210]) (h2 := h87x) (dc2 := 0) (ds2 := 0) 4 rfl ?_
    have q8x : (1 : Int32).toInt = 1 := rfl
    refine wq_iald rfl c27x rfl rfl ?_
    refine wq_vi p07x ?_
    refine wq_ret rfl rfl ?_
    show wq 268 10 [(0, .ref 162), (1, .int 1)] [.int (nI T97x)] h87x 0 0 _
    refine wq_gos (f := 1) (pc2 := 12) (ls2 := [(2, .int (nI T97x)), (0, .ref 162), (1, .int 1)]) (st2 := [.int (nI T97x)]) (h2 := h87x) (dc2 := 0) (ds2 := 0) 2 rfl ?_
    try have q9x := nI_toInt (n := T97x) (by omega)
    refine wq_ge0t rfl (by omega) ?_
    refine wq_gos (f := 1) (pc2 := 24) (ls2 := [(4, .int 0), (3, .int 1000000), (2, .int (nI T97x)), (0, .ref 162), (1, .int 1)]) (st2 := []) (h2 := h87x) (dc2 := 0) (ds2 := 0) 4 rfl ?_
    refine wq_ls [(0, .ref 162), (1, .int 1), (2, .int (nI T97x)), (3, .int 1000000), (4, .int (nI 0))] (show ([0, 1, 2, 3, 4] : List Nat).Nodup by decide) ⟨rfl, rfl, rfl, rfl, rfl, trivial⟩ ?_
    refine wq_mono (m_cleL1 ⟨hkn, hw10⟩ (by first | assumption | omega | decide | solve_by_elim) ((T97x + 1 - 0) + 1) (1000000 : Int32) 0 tk7x h87x c07x c17x c37x c57x c67x (by first | assumption | omega | decide | solve_by_elim) (by omega) 0 0) ?_
    rintro _ ⟨h812x, rfl, f812x, l812x, c012x⟩
    obtain ⟨v10x, hv11x⟩ : ∃ x, x = (mcleF1 pa7x co7x wn T97x ((T97x + 1 - 0) + 1) (1000000 : Int32) 0 tk7x) := ⟨_, rfl⟩
    try rw [← hv11x] at c012x
    try rw [← hv11x]
    have e13x := (f812x.2 _ _ (wnc (by decide) wn0) c77x)
    exact ⟨_, h812x, rfl, (mIv_w p47x (wFr_sub f812x (by simp)) (by omega) c012x e13x)⟩
