/-! The reference: chance as a whole at the state. -/
theorem chm_w {w : Int32} (h1 : 0 ≤ w.toInt) (h2 : w.toInt ≤ 3) : w = 0 ∨ w = 1 ∨ w = 2 ∨ w = 3 := by
  have e : w.toInt = 0 ∨ w.toInt = 1 ∨ w.toInt = 2 ∨ w.toInt = 3 := by omega
  rcases e with e | e | e | e
  · exact Or.inl (Int32.toInt_inj.mp e)
  · exact Or.inr (Or.inl (Int32.toInt_inj.mp e))
  · exact Or.inr (Or.inr (Or.inl (Int32.toInt_inj.mp e)))
  · exact Or.inr (Or.inr (Or.inr (Int32.toInt_inj.mp e)))
theorem wFr_tk {S T : List Nat} {h a b : zH} (f : wFr S h a) (g : wFr T a b) (hT : ∀ q ∈ T, q ∈ S) : wFr S h b := ⟨Nat.le_trans f.1 g.1, fun q e hq z => g.2 q e (fun hm => hq (hT q hm)) (f.2 q e hq z)⟩
theorem wFr_sb {S T : List Nat} {h a : zH} (f : wFr T h a) (hT : ∀ q ∈ T, q ∈ S) : wFr S h a := ⟨f.1, fun q e hq z => f.2 q e (fun hm => hq (hT q hm)) z⟩
set_option maxHeartbeats 4000000 in
theorem m_chM0 {n0 n2 n14 n15 n16 n17 n18 n19 n20 n21 n22 n23 n27 n28 n32 n33 n39 sd : Int32} {kn lo hi : List Int32} {N : Nat} {Q : zR → Prop} (hN : N ≤ 20) (hlm : wLm lo hi) : ∀ (m i : Nat) (su : Int32) (h : zH) (n34 n35 n52 : Int32) (th pa pb on sg dq : List Int32) (fo : List Int64), zat h 166 = some (.inl (0, 14, kn)) → zat h 168 = some (.inl (0, 12, lo)) → zat h 170 = some (.inl (0, 12, hi)) → zat h 162 = some (.inr (.inr (.inr (10, mO n0 n2 n14 n15 n16 n17 n18 n19 n20 n21 n22 n23 n27 n28 n32 n33 n34 n35 n39 n52)))) → zat h 194 = some (.inl (0, 6, th)) → zat h 196 = some (.inr (.inl (6000, fo))) → zat h 200 = some (.inl (0, 4096, pa)) → zat h 202 = some (.inl (0, 4096, pb)) → zat h 204 = some (.inl (0, 6, on)) → zat h 222 = some (.inl (0, 6, sg)) → zat h 230 = some (.inl (0, 6, dq)) → i + m = N → (∀ (h2 : zH) (v : Int32) (n349 n359 n529 : Int32) (th9 pa9 pb9 on9 sg9 dq9 : List Int32) (fo9 : List Int64), wFr [162, 230, 194, 222, 196, 204, 200, 202] h h2 → h2.length = h.length → zat h2 162 = some (.inr (.inr (.inr (10, mO n0 n2 n14 n15 n16 n17 n18 n19 n20 n21 n22 n23 n27 n28 n32 n33 n349 n359 n39 n529)))) → zat h2 194 = some (.inl (0, 6, th9)) → zat h2 196 = some (.inr (.inl (6000, fo9))) → zat h2 200 = some (.inl (0, 4096, pa9)) → zat h2 202 = some (.inl (0, 4096, pb9)) → zat h2 204 = some (.inl (0, 6, on9)) → zat h2 222 = some (.inl (0, 6, sg9)) → zat h2 230 = some (.inl (0, 6, dq9)) → (∀ q, q < 5400 → fo9.getD q 0 = fo.getD q 0) → Q (some (.int v), h2, 0, 0)) → wq 280 57 [(0, .ref 162), (1, .int sd), (2, .int (nI N)), (3, .int 0), (4, .int su), (5, .int (nI i))] [] h 0 0 Q
  | 0, i, su, h, n34, n35, n52, th, pa, pb, on, sg, dq, fo, hKn, hLo, hHi, c162, c194, c196, c200, c202, c204, c222, c230, e, kk => by
    have q1 := nI_toInt (n := i) (by omega)
    have q2 := nI_toInt (n := N) (by omega)
    refine wq_gos (f := 1) (pc2 := 60) (ls2 := [(0, .ref 162), (1, .int sd), (2, .int (nI N)), (3, .int 0), (4, .int su), (5, .int (nI i))]) (st2 := [.int (nI N), .int (nI i)]) (h2 := h) (dc2 := 0) (ds2 := 0) 2 rfl ?_
    refine wq_ge2t rfl (by omega) ?_
    refine wq_gos (f := 1) (pc2 := 293) (ls2 := [(0, .ref 162), (1, .int sd), (2, .int (nI N)), (3, .int 0), (4, .int su), (5, .int (nI i))]) (st2 := [.int su]) (h2 := h) (dc2 := 0) (ds2 := 0) 1 rfl ?_
    exact wq_ret rfl rfl (kk h su n34 n35 n52 th pa pb on sg dq fo (wFr_rf _ _) rfl c162 c194 c196 c200 c202 c204 c222 c230 (fun q _ => rfl))
  | m + 1, i, su, h, n34, n35, n52, th, pa, pb, on, sg, dq, fo, hKn, hLo, hHi, c162, c194, c196, c200, c202, c204, c222, c230, e, kk => by
    have q1 := nI_toInt (n := i) (by omega)
    have q2 := nI_toInt (n := N) (by omega)
    refine wq_gos (f := 1) (pc2 := 60) (ls2 := [(0, .ref 162), (1, .int sd), (2, .int (nI N)), (3, .int 0), (4, .int su), (5, .int (nI i))]) (st2 := [.int (nI N), .int (nI i)]) (h2 := h) (dc2 := 0) (ds2 := 0) 2 rfl ?_
    refine wq_ge2f rfl rfl (by omega) ?_
    refine m_chA c162 hKn hLo hHi c230 c194 c222 hlm ?_
    intro h3 m52 dq2 th2 sg2 f3 l3 d162 d230 d194 d222
    have a166 := wFr_at f3 (by decide) hKn
    have a168 := wFr_at f3 (by decide) hLo
    have a170 := wFr_at f3 (by decide) hHi
    have a196 := wFr_at f3 (by decide) c196
    have a200 := wFr_at f3 (by decide) c200
    have a202 := wFr_at f3 (by decide) c202
    have a204 := wFr_at f3 (by decide) c204
    refine m_chB0 d162 a166 a168 a170 a196 a204 a200 a202 d230 d222 ?_ ?_
    · intro h4 m35 fo2 on2 pa2 pb2 f4 l4 g162 g196 g204 g200 g202 x0
      refine wq_gos (f := 1) (pc2 := 57) (ls2 := [(5, .int ((nI i) + 1)), (0, .ref 162), (1, .int sd), (2, .int (nI N)), (3, .int 0), (4, .int (su + (0 : Int32)))]) (st2 := []) (h2 := h4) (dc2 := 0) (ds2 := 0) 2 rfl ?_
      rw [nI_1]
      refine wq_ls [(0, .ref 162), (1, .int sd), (2, .int (nI N)), (3, .int 0), (4, .int (su + (0 : Int32))), (5, .int (nI (i + 1)))] (show ([0, 1, 2, 3, 4, 5] : List Nat).Nodup by decide) ⟨rfl, rfl, rfl, rfl, rfl, rfl, trivial⟩ ?_
      refine m_chM0 hN hlm m (i + 1) _ h4 _ _ _ _ _ _ _ _ _ _ (wFr_at f4 (by decide) a166) (wFr_at f4 (by decide) a168) (wFr_at f4 (by decide) a170) g162 (wFr_at f4 (by decide) d194) g196 g200 g202 g204 (wFr_at f4 (by decide) d222) (wFr_at f4 (by decide) d230) (by omega) ?_
      intro h5 v n34 n35 n52 th pa pb on sg dq fo5 f5 l5 e162 e194 e196 e200 e202 e204 e222 e230 hz
      exact kk h5 v n34 n35 n52 th pa pb on sg dq fo5 (wFr_tk (wFr_tk (wFr_sb f3 (by decide)) f4 (by decide)) f5 (fun q hq => hq)) (by omega) e162 e194 e196 e200 e202 e204 e222 e230 (fun q hq => (hz q hq).trans (x0.2 q (Or.inl hq)))
    · intro h4 m35 fo2 on2 pa2 pb2 f4 l4 g162 g196 g204 g200 g202 x0
      refine wq_gos (f := 1) (pc2 := 57) (ls2 := [(5, .int ((nI i) + 1)), (0, .ref 162), (1, .int sd), (2, .int (nI N)), (3, .int 0), (4, .int (su + (1 : Int32)))]) (st2 := []) (h2 := h4) (dc2 := 0) (ds2 := 0) 2 rfl ?_
      rw [nI_1]
      refine wq_ls [(0, .ref 162), (1, .int sd), (2, .int (nI N)), (3, .int 0), (4, .int (su + (1 : Int32))), (5, .int (nI (i + 1)))] (show ([0, 1, 2, 3, 4, 5] : List Nat).Nodup by decide) ⟨rfl, rfl, rfl, rfl, rfl, rfl, trivial⟩ ?_
      refine m_chM0 hN hlm m (i + 1) _ h4 _ _ _ _ _ _ _ _ _ _ (wFr_at f4 (by decide) a166) (wFr_at f4 (by decide) a168) (wFr_at f4 (by decide) a170) g162 (wFr_at f4 (by decide) d194) g196 g200 g202 g204 (wFr_at f4 (by decide) d222) (wFr_at f4 (by decide) d230) (by omega) ?_
      intro h5 v n34 n35 n52 th pa pb on sg dq fo5 f5 l5 e162 e194 e196 e200 e202 e204 e222 e230 hz
      exact kk h5 v n34 n35 n52 th pa pb on sg dq fo5 (wFr_tk (wFr_tk (wFr_sb f3 (by decide)) f4 (by decide)) f5 (fun q hq => hq)) (by omega) e162 e194 e196 e200 e202 e204 e222 e230 (fun q hq => (hz q hq).trans (x0.2 q (Or.inl hq)))
set_option maxHeartbeats 4000000 in
theorem m_chM1 {n0 n2 n14 n15 n16 n17 n18 n19 n20 n21 n22 n23 n27 n28 n32 n33 n39 sd : Int32} {kn lo hi : List Int32} {N : Nat} {Q : zR → Prop} (hN : N ≤ 20) (hlm : wLm lo hi) : ∀ (m i : Nat) (su : Int32) (h : zH) (n34 n35 n52 : Int32) (th pa pb on sg dq : List Int32) (fo : List Int64), zat h 166 = some (.inl (0, 14, kn)) → zat h 168 = some (.inl (0, 12, lo)) → zat h 170 = some (.inl (0, 12, hi)) → zat h 162 = some (.inr (.inr (.inr (10, mO n0 n2 n14 n15 n16 n17 n18 n19 n20 n21 n22 n23 n27 n28 n32 n33 n34 n35 n39 n52)))) → zat h 194 = some (.inl (0, 6, th)) → zat h 196 = some (.inr (.inl (6000, fo))) → zat h 200 = some (.inl (0, 4096, pa)) → zat h 202 = some (.inl (0, 4096, pb)) → zat h 204 = some (.inl (0, 6, on)) → zat h 222 = some (.inl (0, 6, sg)) → zat h 230 = some (.inl (0, 6, dq)) → i + m = N → (∀ (h2 : zH) (v : Int32) (n349 n359 n529 : Int32) (th9 pa9 pb9 on9 sg9 dq9 : List Int32) (fo9 : List Int64), wFr [162, 230, 194, 222, 196, 204, 200, 202] h h2 → h2.length = h.length → zat h2 162 = some (.inr (.inr (.inr (10, mO n0 n2 n14 n15 n16 n17 n18 n19 n20 n21 n22 n23 n27 n28 n32 n33 n349 n359 n39 n529)))) → zat h2 194 = some (.inl (0, 6, th9)) → zat h2 196 = some (.inr (.inl (6000, fo9))) → zat h2 200 = some (.inl (0, 4096, pa9)) → zat h2 202 = some (.inl (0, 4096, pb9)) → zat h2 204 = some (.inl (0, 6, on9)) → zat h2 222 = some (.inl (0, 6, sg9)) → zat h2 230 = some (.inl (0, 6, dq9)) → (∀ q, q < 5400 → fo9.getD q 0 = fo.getD q 0) → Q (some (.int v), h2, 0, 0)) → wq 280 57 [(0, .ref 162), (1, .int sd), (2, .int (nI N)), (3, .int 1), (4, .int su), (5, .int (nI i))] [] h 0 0 Q
  | 0, i, su, h, n34, n35, n52, th, pa, pb, on, sg, dq, fo, hKn, hLo, hHi, c162, c194, c196, c200, c202, c204, c222, c230, e, kk => by
    have q1 := nI_toInt (n := i) (by omega)
    have q2 := nI_toInt (n := N) (by omega)
    refine wq_gos (f := 1) (pc2 := 60) (ls2 := [(0, .ref 162), (1, .int sd), (2, .int (nI N)), (3, .int 1), (4, .int su), (5, .int (nI i))]) (st2 := [.int (nI N), .int (nI i)]) (h2 := h) (dc2 := 0) (ds2 := 0) 2 rfl ?_
    refine wq_ge2t rfl (by omega) ?_
    refine wq_gos (f := 1) (pc2 := 293) (ls2 := [(0, .ref 162), (1, .int sd), (2, .int (nI N)), (3, .int 1), (4, .int su), (5, .int (nI i))]) (st2 := [.int su]) (h2 := h) (dc2 := 0) (ds2 := 0) 1 rfl ?_
    exact wq_ret rfl rfl (kk h su n34 n35 n52 th pa pb on sg dq fo (wFr_rf _ _) rfl c162 c194 c196 c200 c202 c204 c222 c230 (fun q _ => rfl))
  | m + 1, i, su, h, n34, n35, n52, th, pa, pb, on, sg, dq, fo, hKn, hLo, hHi, c162, c194, c196, c200, c202, c204, c222, c230, e, kk => by
    have q1 := nI_toInt (n := i) (by omega)
    have q2 := nI_toInt (n := N) (by omega)
    refine wq_gos (f := 1) (pc2 := 60) (ls2 := [(0, .ref 162), (1, .int sd), (2, .int (nI N)), (3, .int 1), (4, .int su), (5, .int (nI i))]) (st2 := [.int (nI N), .int (nI i)]) (h2 := h) (dc2 := 0) (ds2 := 0) 2 rfl ?_
    refine wq_ge2f rfl rfl (by omega) ?_
    refine m_chA c162 hKn hLo hHi c230 c194 c222 hlm ?_
    intro h3 m52 dq2 th2 sg2 f3 l3 d162 d230 d194 d222
    have a166 := wFr_at f3 (by decide) hKn
    have a168 := wFr_at f3 (by decide) hLo
    have a170 := wFr_at f3 (by decide) hHi
    have a196 := wFr_at f3 (by decide) c196
    have a200 := wFr_at f3 (by decide) c200
    have a202 := wFr_at f3 (by decide) c202
    have a204 := wFr_at f3 (by decide) c204
    refine m_chB1 d162 a166 a168 a170 a196 a204 a200 a202 d230 d222 ?_ ?_
    · intro h4 m35 fo2 on2 pa2 pb2 f4 l4 g162 g196 g204 g200 g202 x0
      refine wq_gos (f := 1) (pc2 := 57) (ls2 := [(5, .int ((nI i) + 1)), (0, .ref 162), (1, .int sd), (2, .int (nI N)), (3, .int 1), (4, .int (su + (0 : Int32)))]) (st2 := []) (h2 := h4) (dc2 := 0) (ds2 := 0) 2 rfl ?_
      rw [nI_1]
      refine wq_ls [(0, .ref 162), (1, .int sd), (2, .int (nI N)), (3, .int 1), (4, .int (su + (0 : Int32))), (5, .int (nI (i + 1)))] (show ([0, 1, 2, 3, 4, 5] : List Nat).Nodup by decide) ⟨rfl, rfl, rfl, rfl, rfl, rfl, trivial⟩ ?_
      refine m_chM1 hN hlm m (i + 1) _ h4 _ _ _ _ _ _ _ _ _ _ (wFr_at f4 (by decide) a166) (wFr_at f4 (by decide) a168) (wFr_at f4 (by decide) a170) g162 (wFr_at f4 (by decide) d194) g196 g200 g202 g204 (wFr_at f4 (by decide) d222) (wFr_at f4 (by decide) d230) (by omega) ?_
      intro h5 v n34 n35 n52 th pa pb on sg dq fo5 f5 l5 e162 e194 e196 e200 e202 e204 e222 e230 hz
      exact kk h5 v n34 n35 n52 th pa pb on sg dq fo5 (wFr_tk (wFr_tk (wFr_sb f3 (by decide)) f4 (by decide)) f5 (fun q hq => hq)) (by omega) e162 e194 e196 e200 e202 e204 e222 e230 (fun q hq => (hz q hq).trans (x0.2 q (Or.inl hq)))
    · intro h4 m35 fo2 on2 pa2 pb2 f4 l4 g162 g196 g204 g200 g202 x0
      refine wq_gos (f := 1) (pc2 := 57) (ls2 := [(5, .int ((nI i) + 1)), (0, .ref 162), (1, .int sd), (2, .int (nI N)), (3, .int 1), (4, .int (su + (mNum (mSol lo hi kn sg2))))]) (st2 := []) (h2 := h4) (dc2 := 0) (ds2 := 0) 2 rfl ?_
      rw [nI_1]
      refine wq_ls [(0, .ref 162), (1, .int sd), (2, .int (nI N)), (3, .int 1), (4, .int (su + (mNum (mSol lo hi kn sg2)))), (5, .int (nI (i + 1)))] (show ([0, 1, 2, 3, 4, 5] : List Nat).Nodup by decide) ⟨rfl, rfl, rfl, rfl, rfl, rfl, trivial⟩ ?_
      refine m_chM1 hN hlm m (i + 1) _ h4 _ _ _ _ _ _ _ _ _ _ (wFr_at f4 (by decide) a166) (wFr_at f4 (by decide) a168) (wFr_at f4 (by decide) a170) g162 (wFr_at f4 (by decide) d194) g196 g200 g202 g204 (wFr_at f4 (by decide) d222) (wFr_at f4 (by decide) d230) (by omega) ?_
      intro h5 v n34 n35 n52 th pa pb on sg dq fo5 f5 l5 e162 e194 e196 e200 e202 e204 e222 e230 hz
      exact kk h5 v n34 n35 n52 th pa pb on sg dq fo5 (wFr_tk (wFr_tk (wFr_sb f3 (by decide)) f4 (by decide)) f5 (fun q hq => hq)) (by omega) e162 e194 e196 e200 e202 e204 e222 e230 (fun q hq => (hz q hq).trans (x0.2 q (Or.inl hq)))
set_option maxHeartbeats 4000000 in
theorem m_chM2 {n0 n2 n14 n15 n16 n17 n18 n19 n20 n21 n22 n23 n27 n28 n32 n33 n39 sd : Int32} {kn lo hi : List Int32} {N : Nat} {Q : zR → Prop} (hN : N ≤ 20) (hlm : wLm lo hi) : ∀ (m i : Nat) (su : Int32) (h : zH) (n34 n35 n52 : Int32) (th pa pb on sg dq : List Int32) (fo : List Int64), zat h 166 = some (.inl (0, 14, kn)) → zat h 168 = some (.inl (0, 12, lo)) → zat h 170 = some (.inl (0, 12, hi)) → zat h 162 = some (.inr (.inr (.inr (10, mO n0 n2 n14 n15 n16 n17 n18 n19 n20 n21 n22 n23 n27 n28 n32 n33 n34 n35 n39 n52)))) → zat h 194 = some (.inl (0, 6, th)) → zat h 196 = some (.inr (.inl (6000, fo))) → zat h 200 = some (.inl (0, 4096, pa)) → zat h 202 = some (.inl (0, 4096, pb)) → zat h 204 = some (.inl (0, 6, on)) → zat h 222 = some (.inl (0, 6, sg)) → zat h 230 = some (.inl (0, 6, dq)) → i + m = N → (∀ (h2 : zH) (v : Int32) (n349 n359 n529 : Int32) (th9 pa9 pb9 on9 sg9 dq9 : List Int32) (fo9 : List Int64), wFr [162, 230, 194, 222, 196, 204, 200, 202] h h2 → h2.length = h.length → zat h2 162 = some (.inr (.inr (.inr (10, mO n0 n2 n14 n15 n16 n17 n18 n19 n20 n21 n22 n23 n27 n28 n32 n33 n349 n359 n39 n529)))) → zat h2 194 = some (.inl (0, 6, th9)) → zat h2 196 = some (.inr (.inl (6000, fo9))) → zat h2 200 = some (.inl (0, 4096, pa9)) → zat h2 202 = some (.inl (0, 4096, pb9)) → zat h2 204 = some (.inl (0, 6, on9)) → zat h2 222 = some (.inl (0, 6, sg9)) → zat h2 230 = some (.inl (0, 6, dq9)) → (∀ q, q < 5400 → fo9.getD q 0 = fo.getD q 0) → Q (some (.int v), h2, 0, 0)) → wq 280 57 [(0, .ref 162), (1, .int sd), (2, .int (nI N)), (3, .int 2), (4, .int su), (5, .int (nI i))] [] h 0 0 Q
  | 0, i, su, h, n34, n35, n52, th, pa, pb, on, sg, dq, fo, hKn, hLo, hHi, c162, c194, c196, c200, c202, c204, c222, c230, e, kk => by
    have q1 := nI_toInt (n := i) (by omega)
    have q2 := nI_toInt (n := N) (by omega)
    refine wq_gos (f := 1) (pc2 := 60) (ls2 := [(0, .ref 162), (1, .int sd), (2, .int (nI N)), (3, .int 2), (4, .int su), (5, .int (nI i))]) (st2 := [.int (nI N), .int (nI i)]) (h2 := h) (dc2 := 0) (ds2 := 0) 2 rfl ?_
    refine wq_ge2t rfl (by omega) ?_
    refine wq_gos (f := 1) (pc2 := 293) (ls2 := [(0, .ref 162), (1, .int sd), (2, .int (nI N)), (3, .int 2), (4, .int su), (5, .int (nI i))]) (st2 := [.int su]) (h2 := h) (dc2 := 0) (ds2 := 0) 1 rfl ?_
    exact wq_ret rfl rfl (kk h su n34 n35 n52 th pa pb on sg dq fo (wFr_rf _ _) rfl c162 c194 c196 c200 c202 c204 c222 c230 (fun q _ => rfl))
  | m + 1, i, su, h, n34, n35, n52, th, pa, pb, on, sg, dq, fo, hKn, hLo, hHi, c162, c194, c196, c200, c202, c204, c222, c230, e, kk => by
    have q1 := nI_toInt (n := i) (by omega)
    have q2 := nI_toInt (n := N) (by omega)
    refine wq_gos (f := 1) (pc2 := 60) (ls2 := [(0, .ref 162), (1, .int sd), (2, .int (nI N)), (3, .int 2), (4, .int su), (5, .int (nI i))]) (st2 := [.int (nI N), .int (nI i)]) (h2 := h) (dc2 := 0) (ds2 := 0) 2 rfl ?_
    refine wq_ge2f rfl rfl (by omega) ?_
    refine m_chA c162 hKn hLo hHi c230 c194 c222 hlm ?_
    intro h3 m52 dq2 th2 sg2 f3 l3 d162 d230 d194 d222
    have a166 := wFr_at f3 (by decide) hKn
    have a168 := wFr_at f3 (by decide) hLo
    have a170 := wFr_at f3 (by decide) hHi
    have a196 := wFr_at f3 (by decide) c196
    have a200 := wFr_at f3 (by decide) c200
    have a202 := wFr_at f3 (by decide) c202
    have a204 := wFr_at f3 (by decide) c204
    refine m_chB2 d162 a166 a168 a170 a196 a204 a200 a202 d230 d222 ?_ ?_
    · intro h4 m35 fo2 on2 pa2 pb2 f4 l4 g162 g196 g204 g200 g202 x0
      refine wq_gos (f := 1) (pc2 := 57) (ls2 := [(5, .int ((nI i) + 1)), (0, .ref 162), (1, .int sd), (2, .int (nI N)), (3, .int 2), (4, .int (su + (0 : Int32)))]) (st2 := []) (h2 := h4) (dc2 := 0) (ds2 := 0) 2 rfl ?_
      rw [nI_1]
      refine wq_ls [(0, .ref 162), (1, .int sd), (2, .int (nI N)), (3, .int 2), (4, .int (su + (0 : Int32))), (5, .int (nI (i + 1)))] (show ([0, 1, 2, 3, 4, 5] : List Nat).Nodup by decide) ⟨rfl, rfl, rfl, rfl, rfl, rfl, trivial⟩ ?_
      refine m_chM2 hN hlm m (i + 1) _ h4 _ _ _ _ _ _ _ _ _ _ (wFr_at f4 (by decide) a166) (wFr_at f4 (by decide) a168) (wFr_at f4 (by decide) a170) g162 (wFr_at f4 (by decide) d194) g196 g200 g202 g204 (wFr_at f4 (by decide) d222) (wFr_at f4 (by decide) d230) (by omega) ?_
      intro h5 v n34 n35 n52 th pa pb on sg dq fo5 f5 l5 e162 e194 e196 e200 e202 e204 e222 e230 hz
      exact kk h5 v n34 n35 n52 th pa pb on sg dq fo5 (wFr_tk (wFr_tk (wFr_sb f3 (by decide)) f4 (by decide)) f5 (fun q hq => hq)) (by omega) e162 e194 e196 e200 e202 e204 e222 e230 (fun q hq => (hz q hq).trans (x0.2 q (Or.inl hq)))
    · intro h4 m35 fo2 on2 pa2 pb2 f4 l4 g162 g196 g204 g200 g202 x0
      refine wq_gos (f := 1) (pc2 := 57) (ls2 := [(5, .int ((nI i) + 1)), (0, .ref 162), (1, .int sd), (2, .int (nI N)), (3, .int 2), (4, .int (su + (1 : Int32)))]) (st2 := []) (h2 := h4) (dc2 := 0) (ds2 := 0) 2 rfl ?_
      rw [nI_1]
      refine wq_ls [(0, .ref 162), (1, .int sd), (2, .int (nI N)), (3, .int 2), (4, .int (su + (1 : Int32))), (5, .int (nI (i + 1)))] (show ([0, 1, 2, 3, 4, 5] : List Nat).Nodup by decide) ⟨rfl, rfl, rfl, rfl, rfl, rfl, trivial⟩ ?_
      refine m_chM2 hN hlm m (i + 1) _ h4 _ _ _ _ _ _ _ _ _ _ (wFr_at f4 (by decide) a166) (wFr_at f4 (by decide) a168) (wFr_at f4 (by decide) a170) g162 (wFr_at f4 (by decide) d194) g196 g200 g202 g204 (wFr_at f4 (by decide) d222) (wFr_at f4 (by decide) d230) (by omega) ?_
      intro h5 v n34 n35 n52 th pa pb on sg dq fo5 f5 l5 e162 e194 e196 e200 e202 e204 e222 e230 hz
      exact kk h5 v n34 n35 n52 th pa pb on sg dq fo5 (wFr_tk (wFr_tk (wFr_sb f3 (by decide)) f4 (by decide)) f5 (fun q hq => hq)) (by omega) e162 e194 e196 e200 e202 e204 e222 e230 (fun q hq => (hz q hq).trans (x0.2 q (Or.inl hq)))
set_option maxHeartbeats 4000000 in
theorem m_chM3 {n0 n2 n14 n15 n16 n17 n18 n19 n20 n21 n22 n23 n27 n28 n32 n33 n39 sd : Int32} {kn lo hi : List Int32} {N : Nat} {Q : zR → Prop} (hN : N ≤ 20) (hlm : wLm lo hi) : ∀ (m i : Nat) (su : Int32) (h : zH) (n34 n35 n52 : Int32) (th pa pb on sg dq : List Int32) (fo : List Int64), zat h 166 = some (.inl (0, 14, kn)) → zat h 168 = some (.inl (0, 12, lo)) → zat h 170 = some (.inl (0, 12, hi)) → zat h 162 = some (.inr (.inr (.inr (10, mO n0 n2 n14 n15 n16 n17 n18 n19 n20 n21 n22 n23 n27 n28 n32 n33 n34 n35 n39 n52)))) → zat h 194 = some (.inl (0, 6, th)) → zat h 196 = some (.inr (.inl (6000, fo))) → zat h 200 = some (.inl (0, 4096, pa)) → zat h 202 = some (.inl (0, 4096, pb)) → zat h 204 = some (.inl (0, 6, on)) → zat h 222 = some (.inl (0, 6, sg)) → zat h 230 = some (.inl (0, 6, dq)) → i + m = N → (∀ (h2 : zH) (v : Int32) (n349 n359 n529 : Int32) (th9 pa9 pb9 on9 sg9 dq9 : List Int32) (fo9 : List Int64), wFr [162, 230, 194, 222, 196, 204, 200, 202] h h2 → h2.length = h.length → zat h2 162 = some (.inr (.inr (.inr (10, mO n0 n2 n14 n15 n16 n17 n18 n19 n20 n21 n22 n23 n27 n28 n32 n33 n349 n359 n39 n529)))) → zat h2 194 = some (.inl (0, 6, th9)) → zat h2 196 = some (.inr (.inl (6000, fo9))) → zat h2 200 = some (.inl (0, 4096, pa9)) → zat h2 202 = some (.inl (0, 4096, pb9)) → zat h2 204 = some (.inl (0, 6, on9)) → zat h2 222 = some (.inl (0, 6, sg9)) → zat h2 230 = some (.inl (0, 6, dq9)) → (∀ q, q < 5400 → fo9.getD q 0 = fo.getD q 0) → Q (some (.int v), h2, 0, 0)) → wq 280 57 [(0, .ref 162), (1, .int sd), (2, .int (nI N)), (3, .int 3), (4, .int su), (5, .int (nI i))] [] h 0 0 Q
  | 0, i, su, h, n34, n35, n52, th, pa, pb, on, sg, dq, fo, hKn, hLo, hHi, c162, c194, c196, c200, c202, c204, c222, c230, e, kk => by
    have q1 := nI_toInt (n := i) (by omega)
    have q2 := nI_toInt (n := N) (by omega)
    refine wq_gos (f := 1) (pc2 := 60) (ls2 := [(0, .ref 162), (1, .int sd), (2, .int (nI N)), (3, .int 3), (4, .int su), (5, .int (nI i))]) (st2 := [.int (nI N), .int (nI i)]) (h2 := h) (dc2 := 0) (ds2 := 0) 2 rfl ?_
    refine wq_ge2t rfl (by omega) ?_
    refine wq_gos (f := 1) (pc2 := 293) (ls2 := [(0, .ref 162), (1, .int sd), (2, .int (nI N)), (3, .int 3), (4, .int su), (5, .int (nI i))]) (st2 := [.int su]) (h2 := h) (dc2 := 0) (ds2 := 0) 1 rfl ?_
    exact wq_ret rfl rfl (kk h su n34 n35 n52 th pa pb on sg dq fo (wFr_rf _ _) rfl c162 c194 c196 c200 c202 c204 c222 c230 (fun q _ => rfl))
  | m + 1, i, su, h, n34, n35, n52, th, pa, pb, on, sg, dq, fo, hKn, hLo, hHi, c162, c194, c196, c200, c202, c204, c222, c230, e, kk => by
    have q1 := nI_toInt (n := i) (by omega)
    have q2 := nI_toInt (n := N) (by omega)
    refine wq_gos (f := 1) (pc2 := 60) (ls2 := [(0, .ref 162), (1, .int sd), (2, .int (nI N)), (3, .int 3), (4, .int su), (5, .int (nI i))]) (st2 := [.int (nI N), .int (nI i)]) (h2 := h) (dc2 := 0) (ds2 := 0) 2 rfl ?_
    refine wq_ge2f rfl rfl (by omega) ?_
    refine m_chA c162 hKn hLo hHi c230 c194 c222 hlm ?_
    intro h3 m52 dq2 th2 sg2 f3 l3 d162 d230 d194 d222
    have a166 := wFr_at f3 (by decide) hKn
    have a168 := wFr_at f3 (by decide) hLo
    have a170 := wFr_at f3 (by decide) hHi
    have a196 := wFr_at f3 (by decide) c196
    have a200 := wFr_at f3 (by decide) c200
    have a202 := wFr_at f3 (by decide) c202
    have a204 := wFr_at f3 (by decide) c204
    refine m_chB3 d162 a166 a168 a170 a196 a204 a200 a202 d230 d222 ?_ ?_
    · refine wq_gos (f := 1) (pc2 := 57) (ls2 := [(5, .int ((nI i) + 1)), (0, .ref 162), (1, .int sd), (2, .int (nI N)), (3, .int 3), (4, .int (su + (0 : Int32)))]) (st2 := []) (h2 := h3) (dc2 := 0) (ds2 := 0) 2 rfl ?_
      rw [nI_1]
      refine wq_ls [(0, .ref 162), (1, .int sd), (2, .int (nI N)), (3, .int 3), (4, .int (su + (0 : Int32))), (5, .int (nI (i + 1)))] (show ([0, 1, 2, 3, 4, 5] : List Nat).Nodup by decide) ⟨rfl, rfl, rfl, rfl, rfl, rfl, trivial⟩ ?_
      refine m_chM3 hN hlm m (i + 1) _ h3 _ _ _ _ _ _ _ _ _ _ a166 a168 a170 d162 d194 a196 a200 a202 a204 d222 d230 (by omega) ?_
      intro h5 v n34 n35 n52 th pa pb on sg dq fo5 f5 l5 e162 e194 e196 e200 e202 e204 e222 e230 hz
      exact kk h5 v n34 n35 n52 th pa pb on sg dq fo5 (wFr_tk (wFr_sb f3 (by decide)) f5 (fun q hq => hq)) (by omega) e162 e194 e196 e200 e202 e204 e222 e230 hz
    · refine wq_gos (f := 1) (pc2 := 57) (ls2 := [(5, .int ((nI i) + 1)), (0, .ref 162), (1, .int sd), (2, .int (nI N)), (3, .int 3), (4, .int (su + (1 : Int32)))]) (st2 := []) (h2 := h3) (dc2 := 0) (ds2 := 0) 2 rfl ?_
      rw [nI_1]
      refine wq_ls [(0, .ref 162), (1, .int sd), (2, .int (nI N)), (3, .int 3), (4, .int (su + (1 : Int32))), (5, .int (nI (i + 1)))] (show ([0, 1, 2, 3, 4, 5] : List Nat).Nodup by decide) ⟨rfl, rfl, rfl, rfl, rfl, rfl, trivial⟩ ?_
      refine m_chM3 hN hlm m (i + 1) _ h3 _ _ _ _ _ _ _ _ _ _ a166 a168 a170 d162 d194 a196 a200 a202 a204 d222 d230 (by omega) ?_
      intro h5 v n34 n35 n52 th pa pb on sg dq fo5 f5 l5 e162 e194 e196 e200 e202 e204 e222 e230 hz
      exact kk h5 v n34 n35 n52 th pa pb on sg dq fo5 (wFr_tk (wFr_sb f3 (by decide)) f5 (fun q hq => hq)) (by omega) e162 e194 e196 e200 e202 e204 e222 e230 hz
set_option maxRecDepth 100000 in
set_option maxHeartbeats 4000000 in
theorem m_ch0 {h : zH} {Q : zR → Prop} {n0 n2 n14 n15 n16 n17 n18 n19 n20 n21 n22 n23 n27 n28 n32 n33 n34 n35 n39 n52 : Int32} {sd n w : Int32} {kn : List Int32} (hM : zat h 162 = some (.inr (.inr (.inr (10, mO n0 n2 n14 n15 n16 n17 n18 n19 n20 n21 n22 n23 n27 n28 n32 n33 n34 n35 n39 n52))))) (hKn : zat h 166 = some (.inl (0, 14, kn))) (hx : -1 ≤ sd.toInt ∧ (1 ≤ n.toInt ∧ n.toInt ≤ 20) ∧ 0 ≤ w.toInt ∧ w.toInt ≤ 3) (kE : ∀ (h2 : zH) (m52 : Int32), (wFr [162] h h2) → (h2.length = h.length) → (zat h2 162 = some (.inr (.inr (.inr (10, mO (0 : Int32) n2 n14 n15 n16 n17 n18 n19 n20 n21 n22 n23 n27 n28 n32 n33 n34 n35 n39 m52))))) → wq 280 57 [(0, .ref 162), (1, .int sd), (2, .int n), (3, .int w), (4, .int 0), (5, .int 0)] [] h2 0 0 Q) : wq 280 0 [(0, .ref 162), (1, .int sd), (2, .int n), (3, .int w)] [] h 0 0 Q := by
  have zm1 : (-1 : Int32).toInt = -1 := rfl
  have z1 : (1 : Int32).toInt = 1 := rfl
  have z20 : (20 : Int32).toInt = 20 := rfl
  have z3 : (3 : Int32).toInt = 3 := rfl
  refine wq_gos (f := 1) (pc2 := 2) (ls2 := [(0, .ref 162), (1, .int sd), (2, .int n), (3, .int w)]) (st2 := [.int 0, .ref 162]) (h2 := h) (dc2 := 0) (ds2 := 0) 2 rfl ?_
  refine wq_putf rfl hM rfl rfl rfl ?_
  intro hh1x e2x ff3x lh4x
  have e2x : zat hh1x 162 = some (.inr (.inr (.inr (10, mO (0 : Int32) n2 n14 n15 n16 n17 n18 n19 n20 n21 n22 n23 n27 n28 n32 n33 n34 n35 n39 n52)))) := e2x
  refine wq_gos (f := 1) (pc2 := 7) (ls2 := [(0, .ref 162), (1, .int sd), (2, .int n), (3, .int w)]) (st2 := [.int (-1), .int sd]) (h2 := hh1x) (dc2 := 0) (ds2 := 0) 2 rfl ?_
  have q5x : (-1 : Int32).toInt = -1 := rfl
  refine wq_lt2f rfl rfl (by omega) ?_
  refine wq_gos (f := 1) (pc2 := 12) (ls2 := [(0, .ref 162), (1, .int sd), (2, .int n), (3, .int w)]) (st2 := [.int 1, .int n]) (h2 := hh1x) (dc2 := 0) (ds2 := 0) 2 rfl ?_
  have q6x : (1 : Int32).toInt = 1 := rfl
  refine wq_lt2f rfl rfl (by omega) ?_
  refine wq_gos (f := 1) (pc2 := 18) (ls2 := [(0, .ref 162), (1, .int sd), (2, .int n), (3, .int w)]) (st2 := [.int 20, .int n]) (h2 := hh1x) (dc2 := 0) (ds2 := 0) 2 rfl ?_
  have q7x : (20 : Int32).toInt = 20 := rfl
  refine wq_gt2f rfl rfl (by omega) ?_
  refine wq_gos (f := 1) (pc2 := 22) (ls2 := [(0, .ref 162), (1, .int sd), (2, .int n), (3, .int w)]) (st2 := [.int w]) (h2 := hh1x) (dc2 := 0) (ds2 := 0) 1 rfl ?_
  refine wq_lt0f rfl rfl (by omega) ?_
  refine wq_gos (f := 1) (pc2 := 27) (ls2 := [(0, .ref 162), (1, .int sd), (2, .int n), (3, .int w)]) (st2 := [.int 3, .int w]) (h2 := hh1x) (dc2 := 0) (ds2 := 0) 2 rfl ?_
  have q8x : (3 : Int32).toInt = 3 := rfl
  refine wq_le2t rfl (by omega) ?_
  refine wq_gos (f := 1) (pc2 := 35) (ls2 := [(0, .ref 162), (1, .int sd), (2, .int n), (3, .int w)]) (st2 := [.int (-1), .int sd, .ref 162]) (h2 := hh1x) (dc2 := 0) (ds2 := 0) 3 rfl ?_
  refine wq_ne2 rfl rfl (fun b9x => ?_) (fun b9x => ?_)
  · have q10x : sd.toInt ≠ -1 := fun q => b9x (Int32.toInt_inj.mp q)
    refine wq_gos (f := 1) (pc2 := 48) (ls2 := [(0, .ref 162), (1, .int sd), (2, .int n), (3, .int w)]) (st2 := [.int sd, .ref 162]) (h2 := hh1x) (dc2 := 0) (ds2 := 0) 1 rfl ?_
    refine wq_putf rfl e2x rfl rfl rfl ?_
    intro hh11x e12x ff13x lh14x
    have e12x : zat hh11x 162 = some (.inr (.inr (.inr (10, mO (0 : Int32) n2 n14 n15 n16 n17 n18 n19 n20 n21 n22 n23 n27 n28 n32 n33 n34 n35 n39 sd)))) := e12x
    refine wq_gos (f := 1) (pc2 := 57) (ls2 := [(5, .int 0), (4, .int 0), (0, .ref 162), (1, .int sd), (2, .int n), (3, .int w)]) (st2 := []) (h2 := hh11x) (dc2 := 0) (ds2 := 0) 4 rfl ?_
    refine wq_ls [(0, .ref 162), (1, .int sd), (2, .int n), (3, .int w), (4, .int 0), (5, .int 0)] (show ([0, 1, 2, 3, 4, 5] : List Nat).Nodup by decide) ⟨rfl, rfl, rfl, rfl, rfl, rfl, trivial⟩ ?_
    exact kE hh11x sd (wFr_tr (wFr_sub ff3x (by simp)) (wFr_sub ff13x (by simp))) (by omega) e12x
  · have q15x : sd.toInt = -1 := congrArg Int32.toInt b9x
    refine wq_gos (f := 1) (pc2 := 39) (ls2 := [(0, .ref 162), (1, .int sd), (2, .int n), (3, .int w)]) (st2 := [.ref 162, .ref 162]) (h2 := hh1x) (dc2 := 0) (ds2 := 0) 1 rfl ?_
    refine wq_getf rfl e2x rfl rfl ?_
    refine wq_gos (f := 1) (pc2 := 43) (ls2 := [(0, .ref 162), (1, .int sd), (2, .int n), (3, .int w)]) (st2 := [.int 4, .ref 166, .ref 162]) (h2 := hh1x) (dc2 := 0) (ds2 := 0) 1 rfl ?_
    have e16x := (ff3x.2 _ _ (wnc (by decide) wn0) hKn)
    have q17x : (4 : Int32).toInt = 4 := rfl
    refine wq_iald rfl e16x rfl rfl ?_
    refine wq_gos (f := 1) (pc2 := 48) (ls2 := [(0, .ref 162), (1, .int sd), (2, .int n), (3, .int w)]) (st2 := [.int (kn.getD 4 0), .ref 162]) (h2 := hh1x) (dc2 := 0) (ds2 := 0) 1 rfl ?_
    refine wq_putf rfl e2x rfl rfl rfl ?_
    intro hh18x e19x ff20x lh21x
    have e19x : zat hh18x 162 = some (.inr (.inr (.inr (10, mO (0 : Int32) n2 n14 n15 n16 n17 n18 n19 n20 n21 n22 n23 n27 n28 n32 n33 n34 n35 n39 (kn.getD 4 0))))) := e19x
    refine wq_gos (f := 1) (pc2 := 57) (ls2 := [(5, .int 0), (4, .int 0), (0, .ref 162), (1, .int sd), (2, .int n), (3, .int w)]) (st2 := []) (h2 := hh18x) (dc2 := 0) (ds2 := 0) 4 rfl ?_
    refine wq_ls [(0, .ref 162), (1, .int sd), (2, .int n), (3, .int w), (4, .int 0), (5, .int 0)] (show ([0, 1, 2, 3, 4, 5] : List Nat).Nodup by decide) ⟨rfl, rfl, rfl, rfl, rfl, rfl, trivial⟩ ?_
    exact kE hh18x (kn.getD 4 0) (wFr_tr (wFr_sub ff3x (by simp)) (wFr_sub ff20x (by simp))) (by omega) e19x
set_option maxRecDepth 100000 in
set_option maxHeartbeats 4000000 in
theorem m_chX {h : zH} {n0 n2 n14 n15 n16 n17 n18 n19 n20 n21 n22 n23 n27 n28 n32 n33 n34 n35 n39 n52 : Int32} {sd n w : Int32} (hM : zat h 162 = some (.inr (.inr (.inr (10, mO n0 n2 n14 n15 n16 n17 n18 n19 n20 n21 n22 n23 n27 n28 n32 n33 n34 n35 n39 n52))))) (hx : sd.toInt < -1 ∨ n.toInt < 1 ∨ 20 < n.toInt ∨ w.toInt < 0 ∨ 3 < w.toInt) : wq 280 0 [(0, .ref 162), (1, .int sd), (2, .int n), (3, .int w)] [] h 0 0 (fun rr9 => ∃ (h2 : zH), rr9 = (some (.int (-1)), h2, 0, 0) ∧ wFr [162] h h2 ∧ h2.length = h.length ∧ zat h2 162 = some (.inr (.inr (.inr (10, mO (0 : Int32) n2 n14 n15 n16 n17 n18 n19 n20 n21 n22 n23 n27 n28 n32 n33 n34 n35 n39 n52))))) := by
  have zm1 : (-1 : Int32).toInt = -1 := rfl
  have z1 : (1 : Int32).toInt = 1 := rfl
  have z20 : (20 : Int32).toInt = 20 := rfl
  have z3 : (3 : Int32).toInt = 3 := rfl
  refine wq_gos (f := 1) (pc2 := 2) (ls2 := [(0, .ref 162), (1, .int sd), (2, .int n), (3, .int w)]) (st2 := [.int 0, .ref 162]) (h2 := h) (dc2 := 0) (ds2 := 0) 2 rfl ?_
  refine wq_putf rfl hM rfl rfl rfl ?_
  intro hh1x e2x ff3x lh4x
  have e2x : zat hh1x 162 = some (.inr (.inr (.inr (10, mO (0 : Int32) n2 n14 n15 n16 n17 n18 n19 n20 n21 n22 n23 n27 n28 n32 n33 n34 n35 n39 n52)))) := e2x
  refine wq_gos (f := 1) (pc2 := 7) (ls2 := [(0, .ref 162), (1, .int sd), (2, .int n), (3, .int w)]) (st2 := [.int (-1), .int sd]) (h2 := hh1x) (dc2 := 0) (ds2 := 0) 2 rfl ?_
  have q5x : (-1 : Int32).toInt = -1 := rfl
  refine wq_lt2 rfl rfl (fun b6x => ?_) (fun b6x => ?_)
  · refine wq_gos (f := 1) (pc2 := 31) (ls2 := [(0, .ref 162), (1, .int sd), (2, .int n), (3, .int w)]) (st2 := [.int (-1)]) (h2 := hh1x) (dc2 := 0) (ds2 := 0) 1 rfl ?_
    exact wq_ret rfl rfl ⟨hh1x, rfl, (wFr_sub ff3x (by simp)), (by omega), e2x⟩
  · refine wq_gos (f := 1) (pc2 := 12) (ls2 := [(0, .ref 162), (1, .int sd), (2, .int n), (3, .int w)]) (st2 := [.int 1, .int n]) (h2 := hh1x) (dc2 := 0) (ds2 := 0) 2 rfl ?_
    have q7x : (1 : Int32).toInt = 1 := rfl
    refine wq_lt2 rfl rfl (fun b8x => ?_) (fun b8x => ?_)
    · refine wq_gos (f := 1) (pc2 := 31) (ls2 := [(0, .ref 162), (1, .int sd), (2, .int n), (3, .int w)]) (st2 := [.int (-1)]) (h2 := hh1x) (dc2 := 0) (ds2 := 0) 1 rfl ?_
      exact wq_ret rfl rfl ⟨hh1x, rfl, (wFr_sub ff3x (by simp)), (by omega), e2x⟩
    · refine wq_gos (f := 1) (pc2 := 18) (ls2 := [(0, .ref 162), (1, .int sd), (2, .int n), (3, .int w)]) (st2 := [.int 20, .int n]) (h2 := hh1x) (dc2 := 0) (ds2 := 0) 2 rfl ?_
      have q9x : (20 : Int32).toInt = 20 := rfl
      refine wq_gt2 rfl rfl (fun b10x => ?_) (fun b10x => ?_)
      · refine wq_gos (f := 1) (pc2 := 31) (ls2 := [(0, .ref 162), (1, .int sd), (2, .int n), (3, .int w)]) (st2 := [.int (-1)]) (h2 := hh1x) (dc2 := 0) (ds2 := 0) 1 rfl ?_
        exact wq_ret rfl rfl ⟨hh1x, rfl, (wFr_sub ff3x (by simp)), (by omega), e2x⟩
      · refine wq_gos (f := 1) (pc2 := 22) (ls2 := [(0, .ref 162), (1, .int sd), (2, .int n), (3, .int w)]) (st2 := [.int w]) (h2 := hh1x) (dc2 := 0) (ds2 := 0) 1 rfl ?_
        refine wq_lt0 rfl rfl (fun b11x => ?_) (fun b11x => ?_)
        · refine wq_gos (f := 1) (pc2 := 31) (ls2 := [(0, .ref 162), (1, .int sd), (2, .int n), (3, .int w)]) (st2 := [.int (-1)]) (h2 := hh1x) (dc2 := 0) (ds2 := 0) 1 rfl ?_
          exact wq_ret rfl rfl ⟨hh1x, rfl, (wFr_sub ff3x (by simp)), (by omega), e2x⟩
        · refine wq_gos (f := 1) (pc2 := 27) (ls2 := [(0, .ref 162), (1, .int sd), (2, .int n), (3, .int w)]) (st2 := [.int 3, .int w]) (h2 := hh1x) (dc2 := 0) (ds2 := 0) 2 rfl ?_
          have q12x : (3 : Int32).toInt = 3 := rfl
          refine wq_le2f rfl rfl (by omega) ?_
          refine wq_gos (f := 1) (pc2 := 31) (ls2 := [(0, .ref 162), (1, .int sd), (2, .int n), (3, .int w)]) (st2 := [.int (-1)]) (h2 := hh1x) (dc2 := 0) (ds2 := 0) 1 rfl ?_
          exact wq_ret rfl rfl ⟨hh1x, rfl, (wFr_sub ff3x (by simp)), (by omega), e2x⟩
theorem mSP_b {fo fo2 : List Int64} {sm : List Int32} (h : ∀ w, w < 8 → mSP fo sm w) (hz : ∀ q, q < 5400 → fo2.getD q 0 = fo.getD q 0) : ∀ w, w < 8 → mSP fo2 sm w := fun w hw => by
  rcases h w hw with e | ⟨s, a, b, c⟩
  · exact Or.inl e
  · refine Or.inr ⟨s, a, ?_, c⟩
    rcases s with _ | l
    · trivial
    · exact ⟨b.1, fun i z hi9 => by
        have hl : i < l.length := (List.getElem?_eq_some_iff.mp hi9).1
        have h6 := b.1
        rw [hz _ (by omega)]
        exact b.2 i z hi9⟩
theorem mSA_b {n32 n33 : Int32} {lo hi kn am : List Int32} {fo fo2 : List Int64} (h : mSA n32 n33 lo hi kn am fo) (hz : ∀ q, q < 5400 → fo2.getD q 0 = fo.getD q 0) : mSA n32 n33 lo hi kn am fo2 := fun e => by
  obtain ⟨a, b⟩ := h e
  refine ⟨a, ?_⟩
  revert b
  generalize mSol lo hi kn am = s
  intro b
  rcases s with _ | l
  · trivial
  · exact ⟨b.1, fun i z hi9 => by
      have hl : i < l.length := (List.getElem?_eq_some_iff.mp hi9).1
      have h6 := b.1
      rw [hz _ (by omega)]
      exact b.2 i z hi9⟩
set_option maxHeartbeats 4000000 in
theorem rCall_37 {h : zH} {sd n w : Int32} {R : vRl} (k : MI h R) : wq 280 0 [(0, .ref 162), (1, .int sd), (2, .int n), (3, .int w)] [] h 0 0 (rOk h R) := by
  refine MI_el k ?_
  intro n0 n14 n15 n16 n18 n19 n20 n21 n22 n23 n28 n32 n33 n34 n35 n39 n52 t pl u wn tb kn lo hi sv rt sn sq wy it hl hs nw am kp th fo sm pa pb on h1 tg ri hr pq ch co t1 sg tk tl pz dq ht c162 c164 c166 c168 c170 c172 c174 c176 c178 c180 c182 c184 c186 c188 c190 c192 c194 c196 c198 c200 c202 c204 c206 c208 c210 c212 c214 c216 c218 c220 c222 c224 c226 c228 c230 hu h01 hSA hFa hSP hNw hKp hK0 hRk hR
  by_cases hx9 : -1 ≤ sd.toInt ∧ (1 ≤ n.toInt ∧ n.toInt ≤ 20) ∧ 0 ≤ w.toInt ∧ w.toInt ≤ 3
  · have hw4 := chm_w (w := w) hx9.2.2.1 hx9.2.2.2
    obtain ⟨N, e9, hN⟩ : ∃ N : Nat, n = nI N ∧ N ≤ 20 := ⟨n.toNatClampNeg, nI_cl (by omega), by show n.toInt.toNat ≤ 20; omega⟩
    refine m_ch0 c162 c166 hx9 ?_
    intro h3 m52 f l d162
    have d166 := wFr_at f (by decide) c166
    have d168 := wFr_at f (by decide) c168
    have d170 := wFr_at f (by decide) c170
    have d194 := wFr_at f (by decide) c194
    have d196 := wFr_at f (by decide) c196
    have d200 := wFr_at f (by decide) c200
    have d202 := wFr_at f (by decide) c202
    have d204 := wFr_at f (by decide) c204
    have d222 := wFr_at f (by decide) c222
    have d230 := wFr_at f (by decide) c230
    subst e9
    have sb : ∀ h2, wFr [162, 230, 194, 222, 196, 204, 200, 202] h3 h2 → wFr [162, 230, 194, 222, 196, 204, 200, 202] h h2 := fun h2 g => wFr_tk (wFr_sb f (by decide)) g (fun q hq => hq)
    rcases hw4 with hw4 | hw4 | hw4 | hw4
    · subst hw4
      refine m_chM0 hN hFa.2.2.2.2.1 N 0 0 h3 _ _ _ _ _ _ _ _ _ _ d166 d168 d170 d162 d194 d196 d200 d202 d204 d222 d230 (Nat.zero_add N) ?_
      intro h2 v n34 n35 n52 th pa pb on sg dq fo2 f5 l5 e162 e194 e196 e200 e202 e204 e222 e230 hz
      have f6 := sb h2 f5
      have l6 : h2.length = h.length := by omega
      exact rOk_i f6 l6 (by decide) _ ⟨_, _, _, _, _, _, _, _, _, _, _, _, _, _, _, _, _, _, _, _, _, _, _, _, _, _, _, _, _, _, _, _, _, _, _, _, _, _, _, _, _, _, _, _, _, _, _, _, _, _, _, _, _, _, _, ⟨ht, e162, wFr_at f6 (by decide) c164, wFr_at f6 (by decide) c166, wFr_at f6 (by decide) c168, wFr_at f6 (by decide) c170, wFr_at f6 (by decide) c172, wFr_at f6 (by decide) c174, wFr_at f6 (by decide) c176, wFr_at f6 (by decide) c178, wFr_at f6 (by decide) c180, wFr_at f6 (by decide) c182, wFr_at f6 (by decide) c184, wFr_at f6 (by decide) c186, wFr_at f6 (by decide) c188, wFr_at f6 (by decide) c190, wFr_at f6 (by decide) c192, e194, e196, wFr_at f6 (by decide) c198, e200, e202, e204, wFr_at f6 (by decide) c206, wFr_at f6 (by decide) c208, wFr_at f6 (by decide) c210, wFr_at f6 (by decide) c212, wFr_at f6 (by decide) c214, wFr_at f6 (by decide) c216, wFr_at f6 (by decide) c218, wFr_at f6 (by decide) c220, e222, wFr_at f6 (by decide) c224, wFr_at f6 (by decide) c226, wFr_at f6 (by decide) c228, e230⟩, ⟨hu, h01, (mSA_b hSA hz), hFa, (mSP_b hSP hz), hNw, hKp, hK0, hRk⟩, hR⟩
    · subst hw4
      refine m_chM1 hN hFa.2.2.2.2.1 N 0 0 h3 _ _ _ _ _ _ _ _ _ _ d166 d168 d170 d162 d194 d196 d200 d202 d204 d222 d230 (Nat.zero_add N) ?_
      intro h2 v n34 n35 n52 th pa pb on sg dq fo2 f5 l5 e162 e194 e196 e200 e202 e204 e222 e230 hz
      have f6 := sb h2 f5
      have l6 : h2.length = h.length := by omega
      exact rOk_i f6 l6 (by decide) _ ⟨_, _, _, _, _, _, _, _, _, _, _, _, _, _, _, _, _, _, _, _, _, _, _, _, _, _, _, _, _, _, _, _, _, _, _, _, _, _, _, _, _, _, _, _, _, _, _, _, _, _, _, _, _, _, _, ⟨ht, e162, wFr_at f6 (by decide) c164, wFr_at f6 (by decide) c166, wFr_at f6 (by decide) c168, wFr_at f6 (by decide) c170, wFr_at f6 (by decide) c172, wFr_at f6 (by decide) c174, wFr_at f6 (by decide) c176, wFr_at f6 (by decide) c178, wFr_at f6 (by decide) c180, wFr_at f6 (by decide) c182, wFr_at f6 (by decide) c184, wFr_at f6 (by decide) c186, wFr_at f6 (by decide) c188, wFr_at f6 (by decide) c190, wFr_at f6 (by decide) c192, e194, e196, wFr_at f6 (by decide) c198, e200, e202, e204, wFr_at f6 (by decide) c206, wFr_at f6 (by decide) c208, wFr_at f6 (by decide) c210, wFr_at f6 (by decide) c212, wFr_at f6 (by decide) c214, wFr_at f6 (by decide) c216, wFr_at f6 (by decide) c218, wFr_at f6 (by decide) c220, e222, wFr_at f6 (by decide) c224, wFr_at f6 (by decide) c226, wFr_at f6 (by decide) c228, e230⟩, ⟨hu, h01, (mSA_b hSA hz), hFa, (mSP_b hSP hz), hNw, hKp, hK0, hRk⟩, hR⟩
    · subst hw4
      refine m_chM2 hN hFa.2.2.2.2.1 N 0 0 h3 _ _ _ _ _ _ _ _ _ _ d166 d168 d170 d162 d194 d196 d200 d202 d204 d222 d230 (Nat.zero_add N) ?_
      intro h2 v n34 n35 n52 th pa pb on sg dq fo2 f5 l5 e162 e194 e196 e200 e202 e204 e222 e230 hz
      have f6 := sb h2 f5
      have l6 : h2.length = h.length := by omega
      exact rOk_i f6 l6 (by decide) _ ⟨_, _, _, _, _, _, _, _, _, _, _, _, _, _, _, _, _, _, _, _, _, _, _, _, _, _, _, _, _, _, _, _, _, _, _, _, _, _, _, _, _, _, _, _, _, _, _, _, _, _, _, _, _, _, _, ⟨ht, e162, wFr_at f6 (by decide) c164, wFr_at f6 (by decide) c166, wFr_at f6 (by decide) c168, wFr_at f6 (by decide) c170, wFr_at f6 (by decide) c172, wFr_at f6 (by decide) c174, wFr_at f6 (by decide) c176, wFr_at f6 (by decide) c178, wFr_at f6 (by decide) c180, wFr_at f6 (by decide) c182, wFr_at f6 (by decide) c184, wFr_at f6 (by decide) c186, wFr_at f6 (by decide) c188, wFr_at f6 (by decide) c190, wFr_at f6 (by decide) c192, e194, e196, wFr_at f6 (by decide) c198, e200, e202, e204, wFr_at f6 (by decide) c206, wFr_at f6 (by decide) c208, wFr_at f6 (by decide) c210, wFr_at f6 (by decide) c212, wFr_at f6 (by decide) c214, wFr_at f6 (by decide) c216, wFr_at f6 (by decide) c218, wFr_at f6 (by decide) c220, e222, wFr_at f6 (by decide) c224, wFr_at f6 (by decide) c226, wFr_at f6 (by decide) c228, e230⟩, ⟨hu, h01, (mSA_b hSA hz), hFa, (mSP_b hSP hz), hNw, hKp, hK0, hRk⟩, hR⟩
    · subst hw4
      refine m_chM3 hN hFa.2.2.2.2.1 N 0 0 h3 _ _ _ _ _ _ _ _ _ _ d166 d168 d170 d162 d194 d196 d200 d202 d204 d222 d230 (Nat.zero_add N) ?_
      intro h2 v n34 n35 n52 th pa pb on sg dq fo2 f5 l5 e162 e194 e196 e200 e202 e204 e222 e230 hz
      have f6 := sb h2 f5
      have l6 : h2.length = h.length := by omega
      exact rOk_i f6 l6 (by decide) _ ⟨_, _, _, _, _, _, _, _, _, _, _, _, _, _, _, _, _, _, _, _, _, _, _, _, _, _, _, _, _, _, _, _, _, _, _, _, _, _, _, _, _, _, _, _, _, _, _, _, _, _, _, _, _, _, _, ⟨ht, e162, wFr_at f6 (by decide) c164, wFr_at f6 (by decide) c166, wFr_at f6 (by decide) c168, wFr_at f6 (by decide) c170, wFr_at f6 (by decide) c172, wFr_at f6 (by decide) c174, wFr_at f6 (by decide) c176, wFr_at f6 (by decide) c178, wFr_at f6 (by decide) c180, wFr_at f6 (by decide) c182, wFr_at f6 (by decide) c184, wFr_at f6 (by decide) c186, wFr_at f6 (by decide) c188, wFr_at f6 (by decide) c190, wFr_at f6 (by decide) c192, e194, e196, wFr_at f6 (by decide) c198, e200, e202, e204, wFr_at f6 (by decide) c206, wFr_at f6 (by decide) c208, wFr_at f6 (by decide) c210, wFr_at f6 (by decide) c212, wFr_at f6 (by decide) c214, wFr_at f6 (by decide) c216, wFr_at f6 (by decide) c218, wFr_at f6 (by decide) c220, e222, wFr_at f6 (by decide) c224, wFr_at f6 (by decide) c226, wFr_at f6 (by decide) c228, e230⟩, ⟨hu, h01, (mSA_b hSA hz), hFa, (mSP_b hSP hz), hNw, hKp, hK0, hRk⟩, hR⟩
  · refine wq_mono (m_chX c162 (by omega)) ?_
    rintro _ ⟨h2, rfl, f, l, d162⟩
    exact rOk_i f l (by decide) _ ⟨_, _, _, _, _, _, _, _, _, _, _, _, _, _, _, _, _, _, _, _, _, _, _, _, _, _, _, _, _, _, _, _, _, _, _, _, _, _, _, _, _, _, _, _, _, _, _, _, _, _, _, _, _, _, _, ⟨ht, d162, wFr_at f (by decide) c164, wFr_at f (by decide) c166, wFr_at f (by decide) c168, wFr_at f (by decide) c170, wFr_at f (by decide) c172, wFr_at f (by decide) c174, wFr_at f (by decide) c176, wFr_at f (by decide) c178, wFr_at f (by decide) c180, wFr_at f (by decide) c182, wFr_at f (by decide) c184, wFr_at f (by decide) c186, wFr_at f (by decide) c188, wFr_at f (by decide) c190, wFr_at f (by decide) c192, wFr_at f (by decide) c194, wFr_at f (by decide) c196, wFr_at f (by decide) c198, wFr_at f (by decide) c200, wFr_at f (by decide) c202, wFr_at f (by decide) c204, wFr_at f (by decide) c206, wFr_at f (by decide) c208, wFr_at f (by decide) c210, wFr_at f (by decide) c212, wFr_at f (by decide) c214, wFr_at f (by decide) c216, wFr_at f (by decide) c218, wFr_at f (by decide) c220, wFr_at f (by decide) c222, wFr_at f (by decide) c224, wFr_at f (by decide) c226, wFr_at f (by decide) c228, wFr_at f (by decide) c230⟩, ⟨hu, h01, hSA, hFa, hSP, hNw, hKp, hK0, hRk⟩, hR⟩
