/-! The reference: laysRoute. -/
set_option maxRecDepth 100000 in
set_option maxHeartbeats 4000000 in
theorem m_lr0_0 {h : zH} {Q : zR → Prop} {n0 n2 n14 n15 n16 n17 n18 n19 n20 n21 n22 n23 n27 n28 n32 n33 n34 n35 n39 n52 : Int32} {ri hr : List Int32} (hM : zat h 162 = some (.inr (.inr (.inr (10, mO n0 n2 n14 n15 n16 n17 n18 n19 n20 n21 n22 n23 n27 n28 n32 n33 n34 n35 n39 n52))))) (hRi : zat h 210 = some (.inl (0, 2, ri))) (hHr : zat h 212 = some (.inl (2, 2, hr)))  (kR : ∀ (h2 : zH), (wFr [] h h2) → (h2.length = h.length) → (hr.getD 0 0 ≠ 0) → Q (none, h2, 0, 0)) (kG : ∀ (h2 : zH), (wFr [212, 210] h h2) → (h2.length = h.length) → (zat h2 212 = some (.inl (2, 2, (zset 0 hr 0 (vp_nar .boolean (1 : Int32)))))) → (zat h2 210 = some (.inl (0, 2, (zset 0 ri 0 0)))) → (hr.getD 0 0 = 0) → wq 249 31 [(0, .ref 162), (1, .int 0), (2, .int 0), (3, .int 0), (4, .int 0)] [] h2 0 0 Q) : wq 249 0 [(0, .ref 162), (1, .int 0)] [] h 0 0 Q := by
  refine wq_gos (f := 1) (pc2 := 1) (ls2 := [(0, .ref 162), (1, .int 0)]) (st2 := [.ref 162]) (h2 := h) (dc2 := 0) (ds2 := 0) 1 rfl ?_
  refine wq_getf rfl hM rfl rfl ?_
  refine wq_gos (f := 1) (pc2 := 5) (ls2 := [(0, .ref 162), (1, .int 0)]) (st2 := [.int 0, .ref 212]) (h2 := h) (dc2 := 0) (ds2 := 0) 1 rfl ?_
  have q1x : (0 : Int32).toInt = 0 := rfl
  refine wq_bald 2 (Or.inr rfl) rfl hHr rfl rfl ?_
  refine wq_eq0 rfl rfl (fun b2x => ?_) (fun b2x => ?_)
  · have q3x : (hr.getD 0 0).toInt = 0 := congrArg Int32.toInt b2x
    refine wq_gos (f := 1) (pc2 := 11) (ls2 := [(0, .ref 162), (1, .int 0)]) (st2 := [.ref 162]) (h2 := h) (dc2 := 0) (ds2 := 0) 1 rfl ?_
    refine wq_getf rfl hM rfl rfl ?_
    refine wq_gos (f := 1) (pc2 := 16) (ls2 := [(0, .ref 162), (1, .int 0)]) (st2 := [.int 1, .int 0, .ref 212]) (h2 := h) (dc2 := 0) (ds2 := 0) 2 rfl ?_
    refine wq_bastz rfl hHr rfl rfl ?_
    intro hh4x e5x ff6x lh7x
    have e5x : zat hh4x 212 = some (.inl (2, 2, (zset 0 hr 0 (vp_nar .boolean (1 : Int32))))) := e5x
    refine wq_gos (f := 1) (pc2 := 18) (ls2 := [(0, .ref 162), (1, .int 0)]) (st2 := [.ref 162]) (h2 := hh4x) (dc2 := 0) (ds2 := 0) 1 rfl ?_
    have e8x := (ff6x.2 _ _ (wnc (by decide) wn0) hM)
    refine wq_getf rfl e8x rfl rfl ?_
    refine wq_gos (f := 1) (pc2 := 23) (ls2 := [(0, .ref 162), (1, .int 0)]) (st2 := [.int 0, .int 0, .ref 210]) (h2 := hh4x) (dc2 := 0) (ds2 := 0) 2 rfl ?_
    have e9x := (ff6x.2 _ _ (wnc (by decide) wn0) hRi)
    refine wq_iast rfl e9x rfl rfl ?_
    intro hh10x e11x ff12x lh13x
    have e11x : zat hh10x 210 = some (.inl (0, 2, (zset 0 ri 0 (0 : Int32)))) := e11x
    refine wq_gos (f := 1) (pc2 := 31) (ls2 := [(4, .int 0), (3, .int 0), (2, .int 0), (0, .ref 162), (1, .int 0)]) (st2 := []) (h2 := hh10x) (dc2 := 0) (ds2 := 0) 6 rfl ?_
    have e14x := (ff12x.2 _ _ (wnc (by decide) wn0) e5x)
    refine wq_ls [(0, .ref 162), (1, .int 0), (2, .int 0), (3, .int 0), (4, .int 0)] (show ([0, 1, 2, 3, 4] : List Nat).Nodup by decide) ⟨rfl, rfl, rfl, rfl, rfl, trivial⟩ ?_
    exact kG hh10x (wFr_tr (wFr_sub ff6x (by simp)) (wFr_sub ff12x (by simp))) (by omega) e14x e11x (by first | assumption | omega | decide | solve_by_elim)
  · have q15x : (hr.getD 0 0).toInt ≠ 0 := fun q => b2x (Int32.toInt_inj.mp q)
    exact wq_ret rfl rfl (kR h (wFr_rf _ _) (by omega) (by first | assumption | omega | decide | solve_by_elim))
set_option maxRecDepth 100000 in
set_option maxHeartbeats 4000000 in
theorem m_lr0_1 {h : zH} {Q : zR → Prop} {n0 n2 n14 n15 n16 n17 n18 n19 n20 n21 n22 n23 n27 n28 n32 n33 n34 n35 n39 n52 : Int32} {ri hr : List Int32} (hM : zat h 162 = some (.inr (.inr (.inr (10, mO n0 n2 n14 n15 n16 n17 n18 n19 n20 n21 n22 n23 n27 n28 n32 n33 n34 n35 n39 n52))))) (hRi : zat h 210 = some (.inl (0, 2, ri))) (hHr : zat h 212 = some (.inl (2, 2, hr)))  (kR : ∀ (h2 : zH), (wFr [] h h2) → (h2.length = h.length) → (hr.getD 1 0 ≠ 0) → Q (none, h2, 0, 0)) (kG : ∀ (h2 : zH), (wFr [212, 210] h h2) → (h2.length = h.length) → (zat h2 212 = some (.inl (2, 2, (zset 0 hr 1 (vp_nar .boolean (1 : Int32)))))) → (zat h2 210 = some (.inl (0, 2, (zset 0 ri 1 0)))) → (hr.getD 1 0 = 0) → wq 249 31 [(0, .ref 162), (1, .int 1), (2, .int 0), (3, .int 0), (4, .int 0)] [] h2 0 0 Q) : wq 249 0 [(0, .ref 162), (1, .int 1)] [] h 0 0 Q := by
  refine wq_gos (f := 1) (pc2 := 1) (ls2 := [(0, .ref 162), (1, .int 1)]) (st2 := [.ref 162]) (h2 := h) (dc2 := 0) (ds2 := 0) 1 rfl ?_
  refine wq_getf rfl hM rfl rfl ?_
  refine wq_gos (f := 1) (pc2 := 5) (ls2 := [(0, .ref 162), (1, .int 1)]) (st2 := [.int 1, .ref 212]) (h2 := h) (dc2 := 0) (ds2 := 0) 1 rfl ?_
  have q1x : (1 : Int32).toInt = 1 := rfl
  refine wq_bald 2 (Or.inr rfl) rfl hHr rfl rfl ?_
  refine wq_eq0 rfl rfl (fun b2x => ?_) (fun b2x => ?_)
  · have q3x : (hr.getD 1 0).toInt = 0 := congrArg Int32.toInt b2x
    refine wq_gos (f := 1) (pc2 := 11) (ls2 := [(0, .ref 162), (1, .int 1)]) (st2 := [.ref 162]) (h2 := h) (dc2 := 0) (ds2 := 0) 1 rfl ?_
    refine wq_getf rfl hM rfl rfl ?_
    refine wq_gos (f := 1) (pc2 := 16) (ls2 := [(0, .ref 162), (1, .int 1)]) (st2 := [.int 1, .int 1, .ref 212]) (h2 := h) (dc2 := 0) (ds2 := 0) 2 rfl ?_
    refine wq_bastz rfl hHr rfl rfl ?_
    intro hh4x e5x ff6x lh7x
    have e5x : zat hh4x 212 = some (.inl (2, 2, (zset 0 hr 1 (vp_nar .boolean (1 : Int32))))) := e5x
    refine wq_gos (f := 1) (pc2 := 18) (ls2 := [(0, .ref 162), (1, .int 1)]) (st2 := [.ref 162]) (h2 := hh4x) (dc2 := 0) (ds2 := 0) 1 rfl ?_
    have e8x := (ff6x.2 _ _ (wnc (by decide) wn0) hM)
    refine wq_getf rfl e8x rfl rfl ?_
    refine wq_gos (f := 1) (pc2 := 23) (ls2 := [(0, .ref 162), (1, .int 1)]) (st2 := [.int 0, .int 1, .ref 210]) (h2 := hh4x) (dc2 := 0) (ds2 := 0) 2 rfl ?_
    have e9x := (ff6x.2 _ _ (wnc (by decide) wn0) hRi)
    refine wq_iast rfl e9x rfl rfl ?_
    intro hh10x e11x ff12x lh13x
    have e11x : zat hh10x 210 = some (.inl (0, 2, (zset 0 ri 1 (0 : Int32)))) := e11x
    refine wq_gos (f := 1) (pc2 := 31) (ls2 := [(4, .int 0), (3, .int 0), (2, .int 0), (0, .ref 162), (1, .int 1)]) (st2 := []) (h2 := hh10x) (dc2 := 0) (ds2 := 0) 6 rfl ?_
    have e14x := (ff12x.2 _ _ (wnc (by decide) wn0) e5x)
    refine wq_ls [(0, .ref 162), (1, .int 1), (2, .int 0), (3, .int 0), (4, .int 0)] (show ([0, 1, 2, 3, 4] : List Nat).Nodup by decide) ⟨rfl, rfl, rfl, rfl, rfl, trivial⟩ ?_
    exact kG hh10x (wFr_tr (wFr_sub ff6x (by simp)) (wFr_sub ff12x (by simp))) (by omega) e14x e11x (by first | assumption | omega | decide | solve_by_elim)
  · have q15x : (hr.getD 1 0).toInt ≠ 0 := fun q => b2x (Int32.toInt_inj.mp q)
    exact wq_ret rfl rfl (kR h (wFr_rf _ _) (by omega) (by first | assumption | omega | decide | solve_by_elim))
noncomputable def mRk (wn : Nat) (ri hr pa co : List Int32) : Prop := (∀ q, q < 22 → -100000 ≤ (co.getD q 0).toInt ∧ (co.getD q 0).toInt ≤ 100000) ∧ ∀ r, r < 2 → hr.getD r 0 ≠ 0 → (ri.getD r 0).toInt ≤ 30000 ∧ (0 ≤ (ri.getD r 0).toInt → mRt r wn pa co)
/-- the routes' cells -/
noncomputable def mRr (h : zH) (wn : Nat) (hr : List Int32) : Prop := ∃ (tg h1 t1 ri pa ch co : List Int32), zat h 208 = some (.inl (0, 6000, tg)) ∧ zat h 206 = some (.inl (0, 6, h1)) ∧ zat h 220 = some (.inl (0, 6, t1)) ∧ zat h 210 = some (.inl (0, 2, ri)) ∧ zat h 212 = some (.inl (2, 2, hr)) ∧ zat h 214 = some (.inl (0, 132, pa)) ∧ zat h 216 = some (.inl (0, 20, ch)) ∧ zat h 218 = some (.inl (0, 22, co)) ∧ mRk wn ri hr pa co
theorem mRk_set {wn st : Nat} {ri hr pa co ri2 hr2 pa2 co2 : List Int32} (k : mRk wn ri hr pa co) (hst : st < 2) (h1 : ∀ q, q < 22 → -100000 ≤ (co2.getD q 0).toInt ∧ (co2.getD q 0).toInt ≤ 100000) (h2 : (ri2.getD st 0).toInt ≤ 30000 ∧ (0 ≤ (ri2.getD st 0).toInt → mRt st wn pa2 co2)) (h3 : ∀ r, r < 2 → r ≠ st → ri2.getD r 0 = ri.getD r 0 ∧ hr2.getD r 0 = hr.getD r 0) (h4 : ∀ q, q < 66 * st ∨ 66 * st + 66 ≤ q → pa2.getD q 0 = pa.getD q 0) (h5 : ∀ q, q < 11 * st ∨ 11 * st + 11 ≤ q → co2.getD q 0 = co.getD q 0) (hwn : wn ≤ 10) : mRk wn ri2 hr2 pa2 co2 := by
  refine ⟨h1, fun r hr2' hne => ?_⟩
  by_cases e : r = st
  · rw [e]; exact h2
  · obtain ⟨e1, e2⟩ := h3 r hr2' e
    rw [e2] at hne
    rw [e1]
    obtain ⟨a, b⟩ := k.2 r hr2' hne
    refine ⟨a, fun h0 => mRt_cg (b h0) (fun q hq => h4 _ ?_) (fun q hq => h5 _ ?_)⟩
    · omega
    · omega
set_option maxHeartbeats 4000000 in
theorem m_lay0 {h : zH} {wn : Nat} {kn lo hi sv sq wy nw hr : List Int32} {n0 n2 n14 n15 n16 n17 n18 n19 n20 n21 n22 n23 n27 n28 n32 n33 n39 n52 : Int32} {fo : List Int64} {sm : List Int32} {am9 : mS} (hT : mTx h wn kn lo hi sv sq wy) (hS : mSl h n0 n2 n14 n15 n16 n17 n18 n19 n20 n21 n22 n23 n27 n28 n32 n33 n39 n52 fo sm) (hP : ∀ w, w < 8 → mSP fo sm w) (hF : wFd 4800 am9 fo) (hN : zat h 188 = some (.inl (0, 6, nw))) (hnb : mJb nw 0) (hR : mRr h wn hr) : wq 249 0 [(0, .ref 162), (1, .int 0)] [] h 0 0 (fun r => ∃ (h2 : zH) (fo2 : List Int64) (sm2 hr2 : List Int32), r = (none, h2, 0, 0) ∧ wFr [162, 194, 222, 196, 204, 200, 202, 198, 208, 206, 220, 210, 212, 214, 216, 218] h h2 ∧ h2.length = h.length ∧ mTx h2 wn kn lo hi sv sq wy ∧ mSl h2 n0 n2 n14 n15 n16 n17 n18 n19 n20 n21 n22 n23 n27 n28 n32 n33 n39 n52 fo2 sm2 ∧ (∀ w, w < 8 → mSP fo2 sm2 w) ∧ wFd 4800 am9 fo2 ∧ zat h2 188 = some (.inl (0, 6, nw)) ∧ mRr h2 wn hr2 ∧ hr2.getD 0 0 ≠ 0) := by
  have hS0 := hS
  obtain ⟨n34, n35, on, pa9, pb9, th, sg, c1, c2, c3, c4, c5, c6, c7, c8⟩ := hS0
  have hR0 := hR
  obtain ⟨tg, h1, t1, ri, pa, ch, co, g1, g2, g3, g4, g5, g6, g7, g8, gk⟩ := hR0
  refine m_lr0_0 c1 g4 g5 ?_ ?_
  · intro h2 f l p0
    have ff : ∀ (q : Nat) (e : zE), zat h q = some e → zat h2 q = some e := fun q e k => wFr_at f List.not_mem_nil k
    exact ⟨h2, fo, sm, hr, rfl, wFr_sub f (fun q hq => absurd hq List.not_mem_nil), l, mTx_fr hT f (by decide), ⟨n34, n35, on, pa9, pb9, th, sg, ff _ _ c1, ff _ _ c2, ff _ _ c3, ff _ _ c4, ff _ _ c5, ff _ _ c6, ff _ _ c7, ff _ _ c8⟩, hP, hF, ff _ _ hN, ⟨tg, h1, t1, ri, pa, ch, co, ff _ _ g1, ff _ _ g2, ff _ _ g3, ff _ _ g4, ff _ _ g5, ff _ _ g6, ff _ _ g7, ff _ _ g8, gk⟩, p0⟩
  · intro h2 f l d1 d2 p0
    obtain ⟨hr2, hh2⟩ : ∃ x, x = zset 0 hr 0 (vp_nar .boolean (1 : Int32)) := ⟨_, rfl⟩
    rw [← hh2] at d1
    have hrs : hr2.getD 0 0 ≠ 0 := by rw [hh2, zset_get, if_pos rfl]; decide
    have hro : ∀ q, q ≠ 0 → hr2.getD q 0 = hr.getD q 0 := fun q hq => by rw [hh2, zset_get, if_neg hq]
    have hS2 : mSl h2 n0 n2 n14 n15 n16 n17 n18 n19 n20 n21 n22 n23 n27 n28 n32 n33 n39 n52 fo sm := ⟨n34, n35, on, pa9, pb9, th, sg, wFr_at f (by decide) c1, wFr_at f (by decide) c2, wFr_at f (by decide) c3, wFr_at f (by decide) c4, wFr_at f (by decide) c5, wFr_at f (by decide) c6, wFr_at f (by decide) c7, wFr_at f (by decide) c8⟩
    refine m_lr1 (am9 := am9) wn 0 0 0 fo sm h2 (Nat.zero_add wn) (mTx_fr hT f (by decide)) hS2 hP hF ⟨by decide, by decide⟩ ⟨by decide, by decide⟩ (fun _ _ q hq => absurd hq (Nat.not_lt_zero q)) ?_
    intro h3 no tm fo3 sm3 f3 l3 hT3 hS3 hP3 hF3 hno htm hcnt
    have hS30 := hS3
    obtain ⟨n34', n35', on3, pa3, pb3, th3, sg3, e1, e2, e3, e4, e5, e6, e7, e8⟩ := hS30
    have hT30 := hT3
    obtain ⟨u1, u2, u3, u4, u5, u6, tf⟩ := hT30
    have hwn := tf.2.1
    have up : ∀ q e, q ∉ [212, 210] → q ∉ [162, 194, 222, 196, 204, 200, 202, 198] → zat h q = some e → zat h3 q = some e := fun q e q1 q2 k => wFr_at f3 q2 (wFr_at f q1 k)
    refine m_lrB0 e1 (up 188 _ (by decide) (by decide) hN) (up 214 _ (by decide) (by decide) g6) (up 218 _ (by decide) (by decide) g8) ?_
    intro h4 f4 l4 d3 d4
    obtain ⟨pa4, hp4⟩ : ∃ x, x = (zset 0 (zset 0 (zset 0 (zset 0 (zset 0 (zset 0 pa 0 (nw.getD 0 0)) 1 (nw.getD 1 0)) 2 (nw.getD 2 0)) 3 (nw.getD 3 0)) 4 (nw.getD 4 0)) 5 (nw.getD 5 0)) := ⟨_, rfl⟩
    rw [← hp4] at d3
    obtain ⟨co4, hc4⟩ : ∃ x, x = zset 0 co 0 0 := ⟨_, rfl⟩
    rw [← hc4] at d4
    have hpn : ∀ j, j < 6 → pa4.getD (66 * 0 + 6 * 0 + j) 0 = nw.getD (0 + j) 0 := fun j hj => by
      rw [hp4, zset_get, zset_get, zset_get, zset_get, zset_get, zset_get]
      rcases j with _ | _ | _ | _ | _ | _ | j
      all_goals first | rfl | omega
    have hpo : ∀ q, q < 66 * 0 ∨ 66 * 0 + 66 ≤ q → pa4.getD q 0 = pa.getD q 0 := fun q hq => by
      rw [hp4, zset_get, zset_get, zset_get, zset_get, zset_get, zset_get, if_neg (by omega), if_neg (by omega), if_neg (by omega), if_neg (by omega), if_neg (by omega), if_neg (by omega)]
    have hco : ∀ q, q ≠ 0 → co4.getD q 0 = co.getD q 0 := fun q hq => by rw [hc4, zset_get, if_neg hq]
    have hc0 : (co4.getD (11 * 0) 0).toInt = 0 := by rw [hc4, zset_get, if_pos (by decide)]; rfl
    have hcb : ∀ q, q < 22 → -100000 ≤ (co4.getD q 0).toInt ∧ (co4.getD q 0).toInt ≤ 100000 := fun q hq => by
      by_cases e : q = 11 * 0
      · rw [e, hc0]; exact ⟨by decide, by decide⟩
      · rw [hco q e]; exact gk.1 q hq
    have hR4 : mRt 0 0 pa4 co4 := ⟨hc0, fun q hq j hj => by
      have e : q = 0 := by omega
      rw [e, hpn j hj]; exact hnb j hj, fun q hq => absurd hq (Nat.not_lt_zero q)⟩
    have dn : ∀ q e, q ∉ [162, 194, 222, 196, 204, 200, 202, 198] → q ∉ [212, 210] → q ∉ [214, 218] → zat h q = some e → zat h4 q = some e := fun q e q1 q2 q3 k => wFr_at f4 q3 (up q e q2 q1 k)
    have d2' := wFr_at f4 (show 210 ∉ [214, 218] by decide) (wFr_at f3 (show 210 ∉ [162, 194, 222, 196, 204, 200, 202, 198] by decide) d2)
    have d1' := wFr_at f4 (show 212 ∉ [214, 218] by decide) (wFr_at f3 (show 212 ∉ [162, 194, 222, 196, 204, 200, 202, 198] by decide) d1)
    have e1' := wFr_at f4 (show 162 ∉ [214, 218] by decide) e1
    have u1' := wFr_at f4 (show 166 ∉ [214, 218] by decide) u1
    obtain ⟨ri4, hi4⟩ : ∃ x, x = zset 0 ri 0 0 := ⟨_, rfl⟩
    rw [← hi4] at d2'
    have hrio : ∀ q, q ≠ 0 → ri4.getD q 0 = ri.getD q 0 := fun q hq => by rw [hi4, zset_get, if_neg hq]
    have f03 : wFr [162, 194, 222, 196, 204, 200, 202, 198, 208, 206, 220, 210, 212, 214, 216, 218] h h3 := wFr_tr (wFr_sub f (by decide)) (wFr_sub f3 (by decide))
    have f04 : wFr [162, 194, 222, 196, 204, 200, 202, 198, 208, 206, 220, 210, 212, 214, 216, 218] h h4 := wFr_tr f03 (wFr_sub f4 (by decide))
    have l04 : h4.length = h.length := by omega
    have ends : ∀ (h5 : zH) (tg5 h15 t15 ri5 pa5 ch5 co5 : List Int32) (S : List Nat), wFr S h4 h5 → (∀ q ∈ S, q ∈ [208, 206, 220, 210, 214, 216, 218]) → h5.length = h4.length → zat h5 208 = some (.inl (0, 6000, tg5)) → zat h5 206 = some (.inl (0, 6, h15)) → zat h5 220 = some (.inl (0, 6, t15)) → zat h5 210 = some (.inl (0, 2, ri5)) → zat h5 214 = some (.inl (0, 132, pa5)) → zat h5 216 = some (.inl (0, 20, ch5)) → zat h5 218 = some (.inl (0, 22, co5)) → mRk wn ri5 hr2 pa5 co5 → (∃ (h2 : zH) (fo2 : List Int64) (sm2 hr2 : List Int32), ((none, h5, 0, 0) : zR) = (none, h2, 0, 0) ∧ wFr [162, 194, 222, 196, 204, 200, 202, 198, 208, 206, 220, 210, 212, 214, 216, 218] h h2 ∧ h2.length = h.length ∧ mTx h2 wn kn lo hi sv sq wy ∧ mSl h2 n0 n2 n14 n15 n16 n17 n18 n19 n20 n21 n22 n23 n27 n28 n32 n33 n39 n52 fo2 sm2 ∧ (∀ w, w < 8 → mSP fo2 sm2 w) ∧ wFd 4800 am9 fo2 ∧ zat h2 188 = some (.inl (0, 6, nw)) ∧ mRr h2 wn hr2 ∧ hr2.getD 0 0 ≠ 0) := by
      intro h5 tg5 h15 t15 ri5 pa5 ch5 co5 S f5 hS5 l5 k1 k2 k3 k4 k5 k6 k7 k8
      have nm : ∀ q, q ∉ [208, 206, 220, 210, 214, 216, 218] → q ∉ S := fun q hq hm => hq (hS5 q hm)
      have s34 : ∀ q e, q ∉ [214, 218] → q ∉ [208, 206, 220, 210, 214, 216, 218] → zat h3 q = some e → zat h5 q = some e := fun q e q1 q2 k => wFr_at f5 (nm q q2) (wFr_at f4 q1 k)
      refine ⟨h5, fo3, sm3, hr2, rfl, wFr_tr f04 (wFr_sub f5 (fun q hq => ?_)), by omega, ⟨s34 _ _ (by decide) (by decide) u1, s34 _ _ (by decide) (by decide) u2, s34 _ _ (by decide) (by decide) u3, s34 _ _ (by decide) (by decide) u4, s34 _ _ (by decide) (by decide) u5, s34 _ _ (by decide) (by decide) u6, tf⟩, ⟨n34', n35', on3, pa3, pb3, th3, sg3, s34 _ _ (by decide) (by decide) e1, s34 _ _ (by decide) (by decide) e2, s34 _ _ (by decide) (by decide) e3, s34 _ _ (by decide) (by decide) e4, s34 _ _ (by decide) (by decide) e5, s34 _ _ (by decide) (by decide) e6, s34 _ _ (by decide) (by decide) e7, s34 _ _ (by decide) (by decide) e8⟩, hP3, hF3, wFr_at f5 (nm _ (by decide)) (dn 188 _ (by decide) (by decide) (by decide) hN), ⟨tg5, h15, t15, ri5, pa5, ch5, co5, k1, k2, k3, k4, wFr_at f5 (nm _ (by decide)) d1', k5, k6, k7, k8⟩, hrs⟩
      exact (by decide : ∀ q ∈ [208, 206, 220, 210, 214, 216, 218], q ∈ [162, 194, 222, 196, 204, 200, 202, 198, 208, 206, 220, 210, 212, 214, 216, 218]) q (hS5 q hq)
    have g1' := dn 208 _ (by decide) (by decide) (by decide) g1
    have g2' := dn 206 _ (by decide) (by decide) (by decide) g2
    have g3' := dn 220 _ (by decide) (by decide) (by decide) g3
    have g7' := dn 216 _ (by decide) (by decide) (by decide) g7
    have mk : ∀ (ri5 : List Int32) (x : Int32), ri5.getD 0 0 = x → (∀ q, q ≠ 0 → ri5.getD q 0 = ri.getD q 0) → x.toInt < 0 → mRk wn ri5 hr2 pa4 co4 := fun ri5 x h1 h2 h3 => mRk_set gk (st := 0) (by decide) hcb ⟨by rw [h1]; omega, fun h0 => by rw [h1] at h0; omega⟩ (fun r _ hne => ⟨h2 r hne, hro r hne⟩) hpo (fun q hq => hco q (by omega)) hwn
    refine m_lrC0 e1' d2' u1' ⟨tf.1, hwn⟩ ?_ ?_ ?_
    · intro h5 r2 f5 l5 k1 p1 p2
      refine ends h5 tg h1 t1 _ pa4 ch co4 _ f5 (by decide) l5 (wFr_at f5 (by decide) g1') (wFr_at f5 (by decide) g2') (wFr_at f5 (by decide) g3') k1 (wFr_at f5 (by decide) d3) (wFr_at f5 (by decide) g7') (wFr_at f5 (by decide) d4) ?_
      refine mk _ r2 (by rw [zset_get, if_pos rfl]) (fun q hq => by rw [zset_get, if_neg hq]; exact hrio q hq) ?_
      rcases p2 with e | e <;> (rw [e]; decide)
    · intro h5 f5 l5 k1 p1
      refine ends h5 tg h1 t1 _ pa4 ch co4 _ f5 (by decide) l5 (wFr_at f5 (by decide) g1') (wFr_at f5 (by decide) g2') (wFr_at f5 (by decide) g3') k1 (wFr_at f5 (by decide) d3) (wFr_at f5 (by decide) g7') (wFr_at f5 (by decide) d4) ?_
      refine mRk_set gk (st := 0) (by decide) hcb ⟨by rw [hi4, zset_get, if_pos rfl]; decide, fun _ => by rw [p1]; exact hR4⟩ (fun r _ hne => ⟨hrio r hne, hro r hne⟩) hpo (fun q hq => hco q (by omega)) hwn
    · intro h5 f5 l5 k1 p1 p2 p3
      have hz := hcnt (by omega) (by omega)
      have hv : ∀ i, i < 6 → 1 ≤ (sv.getD i 0).toInt ∧ (sv.getD i 0).toInt ≤ 32 := tf.2.2.2.2.2
      have hsp : mSpd sv := fun i hi => ⟨(hv i hi).1, by have := (hv i hi).2; omega⟩
      obtain ⟨mf, hmf⟩ : ∃ mf : Nat → Nat, mf = fun w => (sm3.getD w 0).toNatClampNeg := ⟨_, rfl⟩
      have hW : ∀ i, i < wn → wy.getD i 0 = nI (mWf wy i) ∧ mWf wy i < 8 := fun i hi => mWf_e tf hi
      have hS9 : ∀ i, i < wn → sm3.getD (mWf wy i) 0 = nI (mf (mWf wy i)) ∧ mf (mWf wy i) ≤ 600 := fun i hi => by
        obtain ⟨m, m1, m2⟩ := hz i hi
        have e : mf (mWf wy i) = m := by rw [hmf]; show (sm3.getD (mWf wy i) 0).toNatClampNeg = m; rw [m2]; exact nI_clamp (by omega)
        rw [e]; exact ⟨m2, m1⟩
      have hfo : ∀ i, i < wn → ∀ k, k < mf (mWf wy i) → mPkR (fo3.getD (600 * mWf wy i + k) 0) := fun i hi => mSP_R (hP3 _ (hW i hi).2) (hS9 i hi).1 (hS9 i hi).2
      have s5 : ∀ q e, q ∉ [214, 218] → zat h3 q = some e → zat h5 q = some e := fun q e q1 k => wFr_at f5 List.not_mem_nil (wFr_at f4 q1 k)
      have a1 := s5 _ _ (by decide) e1
      have a2 := s5 _ _ (by decide) u6
      have a3 := s5 _ _ (by decide) e8
      have a4 := s5 _ _ (by decide) e2
      have a5 := s5 _ _ (by decide) u4
      have a6 := s5 _ _ (by decide) u1
      have aN := wFr_at f5 List.not_mem_nil (dn 188 _ (by decide) (by decide) (by decide) hN)
      refine m_lrD0 (wf := mWf wy) (mf := mf) a1 a2 a3 a4 a5 aN (wFr_at f5 List.not_mem_nil g1') (wFr_at f5 List.not_mem_nil g2') (wFr_at f5 List.not_mem_nil g3') k1 a6 ⟨tf.1, hwn⟩ p3 hW hS9 (fun i hi => (hv i hi).1) ?_ ?_
      · intro h6 f6 l6 b1 b2 b3 b4 q1
        refine ends h6 _ _ _ _ pa4 ch co4 [208, 206, 220, 210] (wFr_tr (wFr_sub f5 (fun q hq => absurd hq List.not_mem_nil)) f6) (by decide) (by omega) b1 b2 b3 b4 (wFr_at f6 (by decide) (wFr_at f5 List.not_mem_nil d3)) (wFr_at f6 (by decide) (wFr_at f5 List.not_mem_nil g7')) (wFr_at f6 (by decide) (wFr_at f5 List.not_mem_nil d4)) ?_
        exact mk _ (-2) (by rw [zset_get, if_pos rfl]) (fun q hq => by rw [zset_get, if_neg hq]; exact hrio q hq) (by decide)
      · intro h6 f6 l6 b1 b2 b3 b4 q1
        obtain ⟨tg6, htg⟩ : ∃ x, x = (mLtg fo3 (mWf wy) mf sv wn 0 tg h1 t1).1 := ⟨_, rfl⟩
        have hrow : ∀ i, i < wn → ∀ k, k < mf (mWf wy i) → tg6.getD (600 * i + k) 0 = wRw fo3 (mWf wy) mf sv wn 0 tg6 i k := fun i hi k hk => by
          rw [htg]
          have hiv : (nI wn - (1 : Int32)).toInt = (wn : Int) - 1 := by rw [nI_predn p3, nI_toInt (by omega)]; omega
          have hlt : (mLtg fo3 (mWf wy) mf sv wn 0 tg h1 t1).1 = (mtgO fo3 (mWf wy) mf sv wn 0 (((nI wn - (1 : Int32)).toInt + 1).toNat + 1) (nI wn - (1 : Int32)) tg h1 t1).1 := rfl
          rw [hlt]
          exact (mtgO_r hwn (fun i hi => (hS9 i hi).2) wn _ (nI wn - (1 : Int32)) tg h1 t1 (by omega) (Nat.le_refl _) (by omega)).2 i hi k hk
        rw [← htg] at b1 b3 b4 q1 ⊢
        have hne : (mLef fo3 (mWf wy 0) tg6 sv nw 0 0 (mf (mWf wy 0)) 0 (mLtg fo3 (mWf wy) mf sv wn 0 tg h1 t1).2.2).1 ≠ 1000000 := fun q => by rw [q] at q1; exact absurd q1 (by decide)
        obtain ⟨n9, h9, hit⟩ := mLef_hit (hS9 0 p3).2 hne
        have hv0 := hit.2.2
        have hb0 := mtg_b (fun i hi => (hS9 i hi).2) hsp hrow hfo hwn (wn - 1) 0 (by omega) n9 h9 hit.1
        have tr := mtk_rng hsp hnb (mUnp_b (hfo 0 p3 n9 h9) 0 []) (6 - 0 + 1) 0 0 (by decide) (by decide)
        generalize (mLef fo3 (mWf wy 0) tg6 sv nw 0 0 (mf (mWf wy 0)) 0 (mLtg fo3 (mWf wy) mf sv wn 0 tg h1 t1).2.2).1 = le at b4 q1 hit hv0 ⊢
        have hle : 0 ≤ le.toInt ∧ le.toInt ≤ 30000 := by
          rw [← hv0]
          generalize mtkF sv nw 0 (mUnp (fo3.getD (600 * mWf wy 0 + n9) 0) 0 []) 0 (6 - 0 + 1) 0 0 = y at tr ⊢
          generalize tg6.getD (600 * 0 + n9) 0 = z at hb0 ⊢
          have e2 : (y + z).toInt = y.toInt + z.toInt := e_add (by omega) (by omega)
          omega
        refine m_lr2_0 (mf := mf) (tg := tg6) (fo := fo3) ⟨tf.1, hwn⟩ hW hsp (fun i hi => (hS9 i hi).2) hrow hfo wn 0 le _ pa4 ch co4 h6 (Nat.zero_add wn) (wFr_at f6 (by decide) a1) (wFr_at f6 (by decide) a6) (wFr_at f6 (by decide) a2) (wFr_at f6 (by decide) a4) (wFr_at f6 (by decide) a5) b1 b3 (wFr_at f6 (by decide) (wFr_at f5 List.not_mem_nil d3)) (wFr_at f6 (by decide) (wFr_at f5 List.not_mem_nil g7')) (wFr_at f6 (by decide) (wFr_at f5 List.not_mem_nil d4)) (fun _ => ⟨n9, h9, fHit_g (fun j hj => (hpn j hj).symm) hit⟩) hR4 hcb ?_
        intro h7 t7 pa7 ch7 co7 f7 l7 x1 x2 x3 x4 x5 x6 x7 x8
        refine ends h7 tg6 _ t7 _ pa7 ch7 co7 [208, 206, 220, 210, 214, 216, 218] (wFr_tr (wFr_tr (wFr_sub f5 (fun q hq => absurd hq List.not_mem_nil)) (wFr_sub f6 (by decide))) (wFr_sub f7 (by decide))) (fun q hq => hq) (by omega) (wFr_at f7 (by decide) b1) (wFr_at f7 (by decide) b2) x1 (wFr_at f7 (by decide) b4) x2 x3 x4 ?_
        refine mRk_set gk (st := 0) (by decide) x8 ⟨by rw [zset_get, if_pos rfl]; exact hle.2, fun _ => x5⟩ (fun r _ hne => ⟨by rw [zset_get, if_neg hne]; exact hrio r hne, hro r hne⟩) (fun q hq => (x6 q hq).trans (hpo q hq)) (fun q hq => (x7 q hq).trans (hco q (by omega))) hwn
set_option maxHeartbeats 4000000 in
theorem m_lay1 {h : zH} {wn : Nat} {kn lo hi sv sq wy nw hr : List Int32} {n0 n2 n14 n15 n16 n17 n18 n19 n20 n21 n22 n23 n27 n28 n32 n33 n39 n52 : Int32} {fo : List Int64} {sm : List Int32} {am9 : mS} (hT : mTx h wn kn lo hi sv sq wy) (hS : mSl h n0 n2 n14 n15 n16 n17 n18 n19 n20 n21 n22 n23 n27 n28 n32 n33 n39 n52 fo sm) (hP : ∀ w, w < 8 → mSP fo sm w) (hF : wFd 4800 am9 fo) (hN : zat h 188 = some (.inl (0, 6, nw))) (hnb : mJb nw 0) (hR : mRr h wn hr) : wq 249 0 [(0, .ref 162), (1, .int 1)] [] h 0 0 (fun r => ∃ (h2 : zH) (fo2 : List Int64) (sm2 hr2 : List Int32), r = (none, h2, 0, 0) ∧ wFr [162, 194, 222, 196, 204, 200, 202, 198, 208, 206, 220, 210, 212, 214, 216, 218] h h2 ∧ h2.length = h.length ∧ mTx h2 wn kn lo hi sv sq wy ∧ mSl h2 n0 n2 n14 n15 n16 n17 n18 n19 n20 n21 n22 n23 n27 n28 n32 n33 n39 n52 fo2 sm2 ∧ (∀ w, w < 8 → mSP fo2 sm2 w) ∧ wFd 4800 am9 fo2 ∧ zat h2 188 = some (.inl (0, 6, nw)) ∧ mRr h2 wn hr2 ∧ hr2.getD 1 0 ≠ 0) := by
  have hS0 := hS
  obtain ⟨n34, n35, on, pa9, pb9, th, sg, c1, c2, c3, c4, c5, c6, c7, c8⟩ := hS0
  have hR0 := hR
  obtain ⟨tg, h1, t1, ri, pa, ch, co, g1, g2, g3, g4, g5, g6, g7, g8, gk⟩ := hR0
  refine m_lr0_1 c1 g4 g5 ?_ ?_
  · intro h2 f l p0
    have ff : ∀ (q : Nat) (e : zE), zat h q = some e → zat h2 q = some e := fun q e k => wFr_at f List.not_mem_nil k
    exact ⟨h2, fo, sm, hr, rfl, wFr_sub f (fun q hq => absurd hq List.not_mem_nil), l, mTx_fr hT f (by decide), ⟨n34, n35, on, pa9, pb9, th, sg, ff _ _ c1, ff _ _ c2, ff _ _ c3, ff _ _ c4, ff _ _ c5, ff _ _ c6, ff _ _ c7, ff _ _ c8⟩, hP, hF, ff _ _ hN, ⟨tg, h1, t1, ri, pa, ch, co, ff _ _ g1, ff _ _ g2, ff _ _ g3, ff _ _ g4, ff _ _ g5, ff _ _ g6, ff _ _ g7, ff _ _ g8, gk⟩, p0⟩
  · intro h2 f l d1 d2 p0
    obtain ⟨hr2, hh2⟩ : ∃ x, x = zset 0 hr 1 (vp_nar .boolean (1 : Int32)) := ⟨_, rfl⟩
    rw [← hh2] at d1
    have hrs : hr2.getD 1 0 ≠ 0 := by rw [hh2, zset_get, if_pos rfl]; decide
    have hro : ∀ q, q ≠ 1 → hr2.getD q 0 = hr.getD q 0 := fun q hq => by rw [hh2, zset_get, if_neg hq]
    have hS2 : mSl h2 n0 n2 n14 n15 n16 n17 n18 n19 n20 n21 n22 n23 n27 n28 n32 n33 n39 n52 fo sm := ⟨n34, n35, on, pa9, pb9, th, sg, wFr_at f (by decide) c1, wFr_at f (by decide) c2, wFr_at f (by decide) c3, wFr_at f (by decide) c4, wFr_at f (by decide) c5, wFr_at f (by decide) c6, wFr_at f (by decide) c7, wFr_at f (by decide) c8⟩
    refine m_lr1 (am9 := am9) wn 0 0 0 fo sm h2 (Nat.zero_add wn) (mTx_fr hT f (by decide)) hS2 hP hF ⟨by decide, by decide⟩ ⟨by decide, by decide⟩ (fun _ _ q hq => absurd hq (Nat.not_lt_zero q)) ?_
    intro h3 no tm fo3 sm3 f3 l3 hT3 hS3 hP3 hF3 hno htm hcnt
    have hS30 := hS3
    obtain ⟨n34', n35', on3, pa3, pb3, th3, sg3, e1, e2, e3, e4, e5, e6, e7, e8⟩ := hS30
    have hT30 := hT3
    obtain ⟨u1, u2, u3, u4, u5, u6, tf⟩ := hT30
    have hwn := tf.2.1
    have up : ∀ q e, q ∉ [212, 210] → q ∉ [162, 194, 222, 196, 204, 200, 202, 198] → zat h q = some e → zat h3 q = some e := fun q e q1 q2 k => wFr_at f3 q2 (wFr_at f q1 k)
    refine m_lrB1 e1 (up 188 _ (by decide) (by decide) hN) (up 214 _ (by decide) (by decide) g6) (up 218 _ (by decide) (by decide) g8) ?_
    intro h4 f4 l4 d3 d4
    obtain ⟨pa4, hp4⟩ : ∃ x, x = (zset 0 (zset 0 (zset 0 (zset 0 (zset 0 (zset 0 pa 66 (nw.getD 0 0)) 67 (nw.getD 1 0)) 68 (nw.getD 2 0)) 69 (nw.getD 3 0)) 70 (nw.getD 4 0)) 71 (nw.getD 5 0)) := ⟨_, rfl⟩
    rw [← hp4] at d3
    obtain ⟨co4, hc4⟩ : ∃ x, x = zset 0 co 11 0 := ⟨_, rfl⟩
    rw [← hc4] at d4
    have hpn : ∀ j, j < 6 → pa4.getD (66 * 1 + 6 * 0 + j) 0 = nw.getD (0 + j) 0 := fun j hj => by
      rw [hp4, zset_get, zset_get, zset_get, zset_get, zset_get, zset_get]
      rcases j with _ | _ | _ | _ | _ | _ | j
      all_goals first | rfl | omega
    have hpo : ∀ q, q < 66 * 1 ∨ 66 * 1 + 66 ≤ q → pa4.getD q 0 = pa.getD q 0 := fun q hq => by
      rw [hp4, zset_get, zset_get, zset_get, zset_get, zset_get, zset_get, if_neg (by omega), if_neg (by omega), if_neg (by omega), if_neg (by omega), if_neg (by omega), if_neg (by omega)]
    have hco : ∀ q, q ≠ 11 → co4.getD q 0 = co.getD q 0 := fun q hq => by rw [hc4, zset_get, if_neg hq]
    have hc0 : (co4.getD (11 * 1) 0).toInt = 0 := by rw [hc4, zset_get, if_pos (by decide)]; rfl
    have hcb : ∀ q, q < 22 → -100000 ≤ (co4.getD q 0).toInt ∧ (co4.getD q 0).toInt ≤ 100000 := fun q hq => by
      by_cases e : q = 11 * 1
      · rw [e, hc0]; exact ⟨by decide, by decide⟩
      · rw [hco q e]; exact gk.1 q hq
    have hR4 : mRt 1 0 pa4 co4 := ⟨hc0, fun q hq j hj => by
      have e : q = 0 := by omega
      rw [e, hpn j hj]; exact hnb j hj, fun q hq => absurd hq (Nat.not_lt_zero q)⟩
    have dn : ∀ q e, q ∉ [162, 194, 222, 196, 204, 200, 202, 198] → q ∉ [212, 210] → q ∉ [214, 218] → zat h q = some e → zat h4 q = some e := fun q e q1 q2 q3 k => wFr_at f4 q3 (up q e q2 q1 k)
    have d2' := wFr_at f4 (show 210 ∉ [214, 218] by decide) (wFr_at f3 (show 210 ∉ [162, 194, 222, 196, 204, 200, 202, 198] by decide) d2)
    have d1' := wFr_at f4 (show 212 ∉ [214, 218] by decide) (wFr_at f3 (show 212 ∉ [162, 194, 222, 196, 204, 200, 202, 198] by decide) d1)
    have e1' := wFr_at f4 (show 162 ∉ [214, 218] by decide) e1
    have u1' := wFr_at f4 (show 166 ∉ [214, 218] by decide) u1
    obtain ⟨ri4, hi4⟩ : ∃ x, x = zset 0 ri 1 0 := ⟨_, rfl⟩
    rw [← hi4] at d2'
    have hrio : ∀ q, q ≠ 1 → ri4.getD q 0 = ri.getD q 0 := fun q hq => by rw [hi4, zset_get, if_neg hq]
    have f03 : wFr [162, 194, 222, 196, 204, 200, 202, 198, 208, 206, 220, 210, 212, 214, 216, 218] h h3 := wFr_tr (wFr_sub f (by decide)) (wFr_sub f3 (by decide))
    have f04 : wFr [162, 194, 222, 196, 204, 200, 202, 198, 208, 206, 220, 210, 212, 214, 216, 218] h h4 := wFr_tr f03 (wFr_sub f4 (by decide))
    have l04 : h4.length = h.length := by omega
    have ends : ∀ (h5 : zH) (tg5 h15 t15 ri5 pa5 ch5 co5 : List Int32) (S : List Nat), wFr S h4 h5 → (∀ q ∈ S, q ∈ [208, 206, 220, 210, 214, 216, 218]) → h5.length = h4.length → zat h5 208 = some (.inl (0, 6000, tg5)) → zat h5 206 = some (.inl (0, 6, h15)) → zat h5 220 = some (.inl (0, 6, t15)) → zat h5 210 = some (.inl (0, 2, ri5)) → zat h5 214 = some (.inl (0, 132, pa5)) → zat h5 216 = some (.inl (0, 20, ch5)) → zat h5 218 = some (.inl (0, 22, co5)) → mRk wn ri5 hr2 pa5 co5 → (∃ (h2 : zH) (fo2 : List Int64) (sm2 hr2 : List Int32), ((none, h5, 0, 0) : zR) = (none, h2, 0, 0) ∧ wFr [162, 194, 222, 196, 204, 200, 202, 198, 208, 206, 220, 210, 212, 214, 216, 218] h h2 ∧ h2.length = h.length ∧ mTx h2 wn kn lo hi sv sq wy ∧ mSl h2 n0 n2 n14 n15 n16 n17 n18 n19 n20 n21 n22 n23 n27 n28 n32 n33 n39 n52 fo2 sm2 ∧ (∀ w, w < 8 → mSP fo2 sm2 w) ∧ wFd 4800 am9 fo2 ∧ zat h2 188 = some (.inl (0, 6, nw)) ∧ mRr h2 wn hr2 ∧ hr2.getD 1 0 ≠ 0) := by
      intro h5 tg5 h15 t15 ri5 pa5 ch5 co5 S f5 hS5 l5 k1 k2 k3 k4 k5 k6 k7 k8
      have nm : ∀ q, q ∉ [208, 206, 220, 210, 214, 216, 218] → q ∉ S := fun q hq hm => hq (hS5 q hm)
      have s34 : ∀ q e, q ∉ [214, 218] → q ∉ [208, 206, 220, 210, 214, 216, 218] → zat h3 q = some e → zat h5 q = some e := fun q e q1 q2 k => wFr_at f5 (nm q q2) (wFr_at f4 q1 k)
      refine ⟨h5, fo3, sm3, hr2, rfl, wFr_tr f04 (wFr_sub f5 (fun q hq => ?_)), by omega, ⟨s34 _ _ (by decide) (by decide) u1, s34 _ _ (by decide) (by decide) u2, s34 _ _ (by decide) (by decide) u3, s34 _ _ (by decide) (by decide) u4, s34 _ _ (by decide) (by decide) u5, s34 _ _ (by decide) (by decide) u6, tf⟩, ⟨n34', n35', on3, pa3, pb3, th3, sg3, s34 _ _ (by decide) (by decide) e1, s34 _ _ (by decide) (by decide) e2, s34 _ _ (by decide) (by decide) e3, s34 _ _ (by decide) (by decide) e4, s34 _ _ (by decide) (by decide) e5, s34 _ _ (by decide) (by decide) e6, s34 _ _ (by decide) (by decide) e7, s34 _ _ (by decide) (by decide) e8⟩, hP3, hF3, wFr_at f5 (nm _ (by decide)) (dn 188 _ (by decide) (by decide) (by decide) hN), ⟨tg5, h15, t15, ri5, pa5, ch5, co5, k1, k2, k3, k4, wFr_at f5 (nm _ (by decide)) d1', k5, k6, k7, k8⟩, hrs⟩
      exact (by decide : ∀ q ∈ [208, 206, 220, 210, 214, 216, 218], q ∈ [162, 194, 222, 196, 204, 200, 202, 198, 208, 206, 220, 210, 212, 214, 216, 218]) q (hS5 q hq)
    have g1' := dn 208 _ (by decide) (by decide) (by decide) g1
    have g2' := dn 206 _ (by decide) (by decide) (by decide) g2
    have g3' := dn 220 _ (by decide) (by decide) (by decide) g3
    have g7' := dn 216 _ (by decide) (by decide) (by decide) g7
    have mk : ∀ (ri5 : List Int32) (x : Int32), ri5.getD 1 0 = x → (∀ q, q ≠ 1 → ri5.getD q 0 = ri.getD q 0) → x.toInt < 0 → mRk wn ri5 hr2 pa4 co4 := fun ri5 x h1 h2 h3 => mRk_set gk (st := 1) (by decide) hcb ⟨by rw [h1]; omega, fun h0 => by rw [h1] at h0; omega⟩ (fun r _ hne => ⟨h2 r hne, hro r hne⟩) hpo (fun q hq => hco q (by omega)) hwn
    refine m_lrC1 e1' d2' u1' ⟨tf.1, hwn⟩ ?_ ?_ ?_
    · intro h5 r2 f5 l5 k1 p1 p2
      refine ends h5 tg h1 t1 _ pa4 ch co4 _ f5 (by decide) l5 (wFr_at f5 (by decide) g1') (wFr_at f5 (by decide) g2') (wFr_at f5 (by decide) g3') k1 (wFr_at f5 (by decide) d3) (wFr_at f5 (by decide) g7') (wFr_at f5 (by decide) d4) ?_
      refine mk _ r2 (by rw [zset_get, if_pos rfl]) (fun q hq => by rw [zset_get, if_neg hq]; exact hrio q hq) ?_
      rcases p2 with e | e <;> (rw [e]; decide)
    · intro h5 f5 l5 k1 p1
      refine ends h5 tg h1 t1 _ pa4 ch co4 _ f5 (by decide) l5 (wFr_at f5 (by decide) g1') (wFr_at f5 (by decide) g2') (wFr_at f5 (by decide) g3') k1 (wFr_at f5 (by decide) d3) (wFr_at f5 (by decide) g7') (wFr_at f5 (by decide) d4) ?_
      refine mRk_set gk (st := 1) (by decide) hcb ⟨by rw [hi4, zset_get, if_pos rfl]; decide, fun _ => by rw [p1]; exact hR4⟩ (fun r _ hne => ⟨hrio r hne, hro r hne⟩) hpo (fun q hq => hco q (by omega)) hwn
    · intro h5 f5 l5 k1 p1 p2 p3
      have hz := hcnt (by omega) (by omega)
      have hv : ∀ i, i < 6 → 1 ≤ (sv.getD i 0).toInt ∧ (sv.getD i 0).toInt ≤ 32 := tf.2.2.2.2.2
      have hsp : mSpd sv := fun i hi => ⟨(hv i hi).1, by have := (hv i hi).2; omega⟩
      obtain ⟨mf, hmf⟩ : ∃ mf : Nat → Nat, mf = fun w => (sm3.getD w 0).toNatClampNeg := ⟨_, rfl⟩
      have hW : ∀ i, i < wn → wy.getD i 0 = nI (mWf wy i) ∧ mWf wy i < 8 := fun i hi => mWf_e tf hi
      have hS9 : ∀ i, i < wn → sm3.getD (mWf wy i) 0 = nI (mf (mWf wy i)) ∧ mf (mWf wy i) ≤ 600 := fun i hi => by
        obtain ⟨m, m1, m2⟩ := hz i hi
        have e : mf (mWf wy i) = m := by rw [hmf]; show (sm3.getD (mWf wy i) 0).toNatClampNeg = m; rw [m2]; exact nI_clamp (by omega)
        rw [e]; exact ⟨m2, m1⟩
      have hfo : ∀ i, i < wn → ∀ k, k < mf (mWf wy i) → mPkR (fo3.getD (600 * mWf wy i + k) 0) := fun i hi => mSP_R (hP3 _ (hW i hi).2) (hS9 i hi).1 (hS9 i hi).2
      have s5 : ∀ q e, q ∉ [214, 218] → zat h3 q = some e → zat h5 q = some e := fun q e q1 k => wFr_at f5 List.not_mem_nil (wFr_at f4 q1 k)
      have a1 := s5 _ _ (by decide) e1
      have a2 := s5 _ _ (by decide) u6
      have a3 := s5 _ _ (by decide) e8
      have a4 := s5 _ _ (by decide) e2
      have a5 := s5 _ _ (by decide) u4
      have a6 := s5 _ _ (by decide) u1
      have aN := wFr_at f5 List.not_mem_nil (dn 188 _ (by decide) (by decide) (by decide) hN)
      refine m_lrD1 (wf := mWf wy) (mf := mf) a1 a2 a3 a4 a5 aN (wFr_at f5 List.not_mem_nil g1') (wFr_at f5 List.not_mem_nil g2') (wFr_at f5 List.not_mem_nil g3') k1 a6 ⟨tf.1, hwn⟩ p3 hW hS9 (fun i hi => (hv i hi).1) ?_ ?_
      · intro h6 f6 l6 b1 b2 b3 b4 q1
        refine ends h6 _ _ _ _ pa4 ch co4 [208, 206, 220, 210] (wFr_tr (wFr_sub f5 (fun q hq => absurd hq List.not_mem_nil)) f6) (by decide) (by omega) b1 b2 b3 b4 (wFr_at f6 (by decide) (wFr_at f5 List.not_mem_nil d3)) (wFr_at f6 (by decide) (wFr_at f5 List.not_mem_nil g7')) (wFr_at f6 (by decide) (wFr_at f5 List.not_mem_nil d4)) ?_
        exact mk _ (-2) (by rw [zset_get, if_pos rfl]) (fun q hq => by rw [zset_get, if_neg hq]; exact hrio q hq) (by decide)
      · intro h6 f6 l6 b1 b2 b3 b4 q1
        obtain ⟨tg6, htg⟩ : ∃ x, x = (mLtg fo3 (mWf wy) mf sv wn 1 tg h1 t1).1 := ⟨_, rfl⟩
        have hrow : ∀ i, i < wn → ∀ k, k < mf (mWf wy i) → tg6.getD (600 * i + k) 0 = wRw fo3 (mWf wy) mf sv wn 1 tg6 i k := fun i hi k hk => by
          rw [htg]
          have hiv : (nI wn - (1 : Int32)).toInt = (wn : Int) - 1 := by rw [nI_predn p3, nI_toInt (by omega)]; omega
          have hlt : (mLtg fo3 (mWf wy) mf sv wn 1 tg h1 t1).1 = (mtgO fo3 (mWf wy) mf sv wn 1 (((nI wn - (1 : Int32)).toInt + 1).toNat + 1) (nI wn - (1 : Int32)) tg h1 t1).1 := rfl
          rw [hlt]
          exact (mtgO_r hwn (fun i hi => (hS9 i hi).2) wn _ (nI wn - (1 : Int32)) tg h1 t1 (by omega) (Nat.le_refl _) (by omega)).2 i hi k hk
        rw [← htg] at b1 b3 b4 q1 ⊢
        have hne : (mLef fo3 (mWf wy 0) tg6 sv nw 0 0 (mf (mWf wy 0)) 1 (mLtg fo3 (mWf wy) mf sv wn 1 tg h1 t1).2.2).1 ≠ 1000000 := fun q => by rw [q] at q1; exact absurd q1 (by decide)
        obtain ⟨n9, h9, hit⟩ := mLef_hit (hS9 0 p3).2 hne
        have hv0 := hit.2.2
        have hb0 := mtg_b (fun i hi => (hS9 i hi).2) hsp hrow hfo hwn (wn - 1) 0 (by omega) n9 h9 hit.1
        have tr := mtk_rng hsp hnb (mUnp_b (hfo 0 p3 n9 h9) 0 []) (6 - 0 + 1) 0 0 (by decide) (by decide)
        generalize (mLef fo3 (mWf wy 0) tg6 sv nw 0 0 (mf (mWf wy 0)) 1 (mLtg fo3 (mWf wy) mf sv wn 1 tg h1 t1).2.2).1 = le at b4 q1 hit hv0 ⊢
        have hle : 0 ≤ le.toInt ∧ le.toInt ≤ 30000 := by
          rw [← hv0]
          generalize mtkF sv nw 0 (mUnp (fo3.getD (600 * mWf wy 0 + n9) 0) 0 []) 0 (6 - 0 + 1) 0 0 = y at tr ⊢
          generalize tg6.getD (600 * 0 + n9) 0 = z at hb0 ⊢
          have e2 : (y + z).toInt = y.toInt + z.toInt := e_add (by omega) (by omega)
          omega
        refine m_lr2_1 (mf := mf) (tg := tg6) (fo := fo3) ⟨tf.1, hwn⟩ hW hsp (fun i hi => (hS9 i hi).2) hrow hfo wn 0 le _ pa4 ch co4 h6 (Nat.zero_add wn) (wFr_at f6 (by decide) a1) (wFr_at f6 (by decide) a6) (wFr_at f6 (by decide) a2) (wFr_at f6 (by decide) a4) (wFr_at f6 (by decide) a5) b1 b3 (wFr_at f6 (by decide) (wFr_at f5 List.not_mem_nil d3)) (wFr_at f6 (by decide) (wFr_at f5 List.not_mem_nil g7')) (wFr_at f6 (by decide) (wFr_at f5 List.not_mem_nil d4)) (fun _ => ⟨n9, h9, fHit_g (fun j hj => (hpn j hj).symm) hit⟩) hR4 hcb ?_
        intro h7 t7 pa7 ch7 co7 f7 l7 x1 x2 x3 x4 x5 x6 x7 x8
        refine ends h7 tg6 _ t7 _ pa7 ch7 co7 [208, 206, 220, 210, 214, 216, 218] (wFr_tr (wFr_tr (wFr_sub f5 (fun q hq => absurd hq List.not_mem_nil)) (wFr_sub f6 (by decide))) (wFr_sub f7 (by decide))) (fun q hq => hq) (by omega) (wFr_at f7 (by decide) b1) (wFr_at f7 (by decide) b2) x1 (wFr_at f7 (by decide) b4) x2 x3 x4 ?_
        refine mRk_set gk (st := 1) (by decide) x8 ⟨by rw [zset_get, if_pos rfl]; exact hle.2, fun _ => x5⟩ (fun r _ hne => ⟨by rw [zset_get, if_neg hne]; exact hrio r hne, hro r hne⟩) (fun q hq => (x6 q hq).trans (hpo q hq)) (fun q hq => (x7 q hq).trans (hco q (by omega))) hwn
