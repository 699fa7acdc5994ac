/-! The reference: stop, high, reach at the state. -/
set_option maxRecDepth 100000 in
set_option maxHeartbeats 4000000 in
theorem m_stopX {h : zH} {n0 n2 n14 n15 n16 n17 n18 n19 n20 n21 n22 n23 n27 n28 n32 n33 n34 n35 n39 n52 : Int32} {ns : Nat} {kn : List Int32} {s : Int32} (hM : zat h 162 = some (.inr (.inr (.inr (10, mO n0 n2 n14 n15 n16 n17 n18 n19 n20 n21 n22 n23 n27 n28 n32 n33 n34 n35 n39 n52))))) (hKn : zat h 166 = some (.inl (0, 14, kn))) (hns : kn.getD 5 0 = nI ns ∧ ns ≤ 8) (hx : s.toInt < 0 ∨ ns ≤ s.toInt) : wq 273 0 [(0, .ref 162), (1, .int s)] [] h 0 0 (fun rr9 => ∃ (h2 : zH), rr9 = (some (.int (-1)), h2, 0, 0) ∧ wFr [162] h h2 ∧ h2.length = h.length ∧ zat h2 162 = some (.inr (.inr (.inr (10, mO (0 : Int32) n2 n14 n15 n16 n17 n18 n19 n20 n21 n22 n23 n27 n28 n32 n33 n34 n35 n39 n52))))) := by
  have z0 : (0 : Int32).toInt = 0 := rfl
  have z1 : (1 : Int32).toInt = 1 := rfl
  have z5 : (5 : Int32).toInt = 5 := rfl
  have z6 : (6 : Int32).toInt = 6 := rfl
  have zm1 : (-1 : Int32).toInt = -1 := rfl
  have z3 : (3 : Int32).toInt = 3 := rfl
  have z2 : (2 : Int32).toInt = 2 := rfl
  have z20 : (20 : Int32).toInt = 20 := rfl
  have hn8 := hns.2
  have qnns := nI_toInt (n := ns) (by omega)
  refine wq_gos (f := 1) (pc2 := 2) (ls2 := [(0, .ref 162), (1, .int s)]) (st2 := [.int 0, .ref 162]) (h2 := h) (dc2 := 0) (ds2 := 0) 2 rfl ?_
  refine wq_putf rfl hM rfl rfl rfl ?_
  intro hh1x e2x ff3x lh4x
  have e2x : zat hh1x 162 = some (.inr (.inr (.inr (10, mO (0 : Int32) n2 n14 n15 n16 n17 n18 n19 n20 n21 n22 n23 n27 n28 n32 n33 n34 n35 n39 n52)))) := e2x
  refine wq_gos (f := 1) (pc2 := 7) (ls2 := [(0, .ref 162), (1, .int s)]) (st2 := [.int s, .ref 162]) (h2 := hh1x) (dc2 := 0) (ds2 := 0) 2 rfl ?_
  refine wq_inlv (y2 := 209) (as := [.int s]) rfl rfl rfl e2x rfl ?_
  show wq 209 0 [(0, .ref 162), (1, .int s)] [] hh1x 0 0 _
  refine wq_gos (f := 1) (pc2 := 1) (ls2 := [(0, .ref 162), (1, .int s)]) (st2 := [.int s]) (h2 := hh1x) (dc2 := 0) (ds2 := 0) 1 rfl ?_
  refine wq_lt0 rfl rfl (fun b5x => ?_) (fun b5x => ?_)
  · refine wq_gos (f := 1) (pc2 := 19) (ls2 := [(0, .ref 162), (1, .int s)]) (st2 := [.int 0]) (h2 := hh1x) (dc2 := 0) (ds2 := 0) 1 rfl ?_
    refine wq_ret rfl rfl ?_
    show wq 273 10 [(0, .ref 162), (1, .int s)] [.int 0] hh1x 0 0 _
    refine wq_gos (f := 1) (pc2 := 14) (ls2 := [(0, .ref 162), (1, .int s)]) (st2 := [.int (-1)]) (h2 := hh1x) (dc2 := 0) (ds2 := 0) 2 rfl ?_
    exact wq_ret rfl rfl ⟨hh1x, rfl, (wFr_sub ff3x (by simp)), (by omega), e2x⟩
  · refine wq_gos (f := 1) (pc2 := 6) (ls2 := [(0, .ref 162), (1, .int s)]) (st2 := [.ref 162, .int s]) (h2 := hh1x) (dc2 := 0) (ds2 := 0) 2 rfl ?_
    refine wq_getf rfl e2x rfl rfl ?_
    refine wq_gos (f := 1) (pc2 := 10) (ls2 := [(0, .ref 162), (1, .int s)]) (st2 := [.int 5, .ref 166, .int s]) (h2 := hh1x) (dc2 := 0) (ds2 := 0) 1 rfl ?_
    have e6x := (ff3x.2 _ _ (wnc (by decide) wn0) hKn)
    have q7x : (5 : Int32).toInt = 5 := rfl
    refine wq_iald rfl e6x rfl rfl ?_
    refine wq_vi hns.1 ?_
    try have q8x := nI_toInt (n := ns) (by omega)
    refine wq_ge2t rfl (by omega) ?_
    refine wq_gos (f := 1) (pc2 := 19) (ls2 := [(0, .ref 162), (1, .int s)]) (st2 := [.int 0]) (h2 := hh1x) (dc2 := 0) (ds2 := 0) 1 rfl ?_
    refine wq_ret rfl rfl ?_
    show wq 273 10 [(0, .ref 162), (1, .int s)] [.int 0] hh1x 0 0 _
    refine wq_gos (f := 1) (pc2 := 14) (ls2 := [(0, .ref 162), (1, .int s)]) (st2 := [.int (-1)]) (h2 := hh1x) (dc2 := 0) (ds2 := 0) 2 rfl ?_
    exact wq_ret rfl rfl ⟨hh1x, rfl, (wFr_sub ff3x (by simp)), (by omega), e2x⟩
set_option maxHeartbeats 4000000 in
theorem rCall_34 {h : zH} {s : Int32} {R : vRl} (k : MI h R) : wq 273 0 [(0, .ref 162), (1, .int s)] [] h 0 0 (rOk h R) := by
  refine MI_el k ?_
  intro n0 n14 n15 n16 n18 n19 n20 n21 n22 n23 n28 n32 n33 n34 n35 n39 n52 t pl u wn tb kn lo hi sv rt sn sq wy it hl hs nw am kp th fo sm pa pb on h1 tg ri hr pq ch co t1 sg tk tl pz dq ht c162 c164 c166 c168 c170 c172 c174 c176 c178 c180 c182 c184 c186 c188 c190 c192 c194 c196 c198 c200 c202 c204 c206 c208 c210 c212 c214 c216 c218 c220 c222 c224 c226 c228 c230 hu h01 hSA hFa hSP hNw hKp hK0 hRk hR
  obtain ⟨ns, hns, hsq⟩ := mFa_n hFa
  by_cases hw9 : 0 ≤ s.toInt ∧ s.toInt < (ns : Int)
  · obtain ⟨w9, e9, hj9⟩ : ∃ n : Nat, s = nI n ∧ n < ns := ⟨s.toNatClampNeg, nI_cl hw9.1, by show s.toInt.toNat < ns; omega⟩
    subst e9
    refine wq_mono (m_stop c162 c172 c178 c188 c226 c166 hns.2 (mFa_d hFa) hns.1 hj9 hsq (mNw_b hNw)) ?_
    rintro _ ⟨v, h2, rfl, f, l, d162, d226⟩
    exact rOk_i f l (by decide) _ ⟨_, _, _, _, _, _, _, _, _, _, _, _, _, _, _, _, _, _, _, _, _, _, _, _, _, _, _, _, _, _, _, _, _, _, _, _, _, _, _, _, _, _, _, _, _, _, _, _, _, _, _, _, _, _, _, ⟨ht, d162, wFr_at f (by decide) c164, wFr_at f (by decide) c166, wFr_at f (by decide) c168, wFr_at f (by decide) c170, wFr_at f (by decide) c172, wFr_at f (by decide) c174, wFr_at f (by decide) c176, wFr_at f (by decide) c178, wFr_at f (by decide) c180, wFr_at f (by decide) c182, wFr_at f (by decide) c184, wFr_at f (by decide) c186, wFr_at f (by decide) c188, wFr_at f (by decide) c190, wFr_at f (by decide) c192, wFr_at f (by decide) c194, wFr_at f (by decide) c196, wFr_at f (by decide) c198, wFr_at f (by decide) c200, wFr_at f (by decide) c202, wFr_at f (by decide) c204, wFr_at f (by decide) c206, wFr_at f (by decide) c208, wFr_at f (by decide) c210, wFr_at f (by decide) c212, wFr_at f (by decide) c214, wFr_at f (by decide) c216, wFr_at f (by decide) c218, wFr_at f (by decide) c220, wFr_at f (by decide) c222, wFr_at f (by decide) c224, d226, wFr_at f (by decide) c228, wFr_at f (by decide) c230⟩, ⟨hu, h01, hSA, hFa, hSP, hNw, hKp, hK0, hRk⟩, hR⟩
  · have hx9 : s.toInt < 0 ∨ ns ≤ s.toInt := by omega
    refine wq_mono (m_stopX c162 c166 hns hx9) ?_
    rintro _ ⟨h2, rfl, f, l, d162⟩
    exact rOk_i f l (by decide) _ ⟨_, _, _, _, _, _, _, _, _, _, _, _, _, _, _, _, _, _, _, _, _, _, _, _, _, _, _, _, _, _, _, _, _, _, _, _, _, _, _, _, _, _, _, _, _, _, _, _, _, _, _, _, _, _, _, ⟨ht, d162, wFr_at f (by decide) c164, wFr_at f (by decide) c166, wFr_at f (by decide) c168, wFr_at f (by decide) c170, wFr_at f (by decide) c172, wFr_at f (by decide) c174, wFr_at f (by decide) c176, wFr_at f (by decide) c178, wFr_at f (by decide) c180, wFr_at f (by decide) c182, wFr_at f (by decide) c184, wFr_at f (by decide) c186, wFr_at f (by decide) c188, wFr_at f (by decide) c190, wFr_at f (by decide) c192, wFr_at f (by decide) c194, wFr_at f (by decide) c196, wFr_at f (by decide) c198, wFr_at f (by decide) c200, wFr_at f (by decide) c202, wFr_at f (by decide) c204, wFr_at f (by decide) c206, wFr_at f (by decide) c208, wFr_at f (by decide) c210, wFr_at f (by decide) c212, wFr_at f (by decide) c214, wFr_at f (by decide) c216, wFr_at f (by decide) c218, wFr_at f (by decide) c220, wFr_at f (by decide) c222, wFr_at f (by decide) c224, wFr_at f (by decide) c226, wFr_at f (by decide) c228, wFr_at f (by decide) c230⟩, ⟨hu, h01, hSA, hFa, hSP, hNw, hKp, hK0, hRk⟩, hR⟩
set_option maxRecDepth 100000 in
set_option maxHeartbeats 4000000 in
theorem m_hi0 {h : zH} {Q : zR → Prop} {n0 n2 n14 n15 n16 n17 n18 n19 n20 n21 n22 n23 n27 n28 n32 n33 n34 n35 n39 n52 : Int32} {lo : List Int32} {out : Int32} (hM : zat h 162 = some (.inr (.inr (.inr (10, mO n0 n2 n14 n15 n16 n17 n18 n19 n20 n21 n22 n23 n27 n28 n32 n33 n34 n35 n39 n52))))) (hLo : zat h 168 = some (.inl (0, 12, lo)))  (kE : ∀ (h2 : zH), (wFr [162] h h2) → (h2.length = h.length) → (zat h2 162 = some (.inr (.inr (.inr (10, mO (0 : Int32) n2 n14 n15 n16 n17 n18 n19 n20 n21 n22 n23 n27 n28 n32 n33 n34 n35 n39 n52))))) → wq 277 16 [(0, .ref 162), (1, .int out), (2, .int (-2147483648)), (3, .int (lo.getD 2 0))] [] h2 0 0 Q) : wq 277 0 [(0, .ref 162), (1, .int out)] [] h 0 0 Q := by
  refine wq_gos (f := 1) (pc2 := 2) (ls2 := [(0, .ref 162), (1, .int out)]) (st2 := [.int 0, .ref 162]) (h2 := h) (dc2 := 0) (ds2 := 0) 2 rfl ?_
  refine wq_putf rfl hM rfl rfl rfl ?_
  intro hh1x e2x ff3x lh4x
  have e2x : zat hh1x 162 = some (.inr (.inr (.inr (10, mO (0 : Int32) n2 n14 n15 n16 n17 n18 n19 n20 n21 n22 n23 n27 n28 n32 n33 n34 n35 n39 n52)))) := e2x
  refine wq_gos (f := 1) (pc2 := 10) (ls2 := [(2, .int (-2147483648)), (0, .ref 162), (1, .int out)]) (st2 := [.ref 162]) (h2 := hh1x) (dc2 := 0) (ds2 := 0) 3 rfl ?_
  refine wq_getf rfl e2x rfl rfl ?_
  refine wq_gos (f := 1) (pc2 := 14) (ls2 := [(2, .int (-2147483648)), (0, .ref 162), (1, .int out)]) (st2 := [.int 2, .ref 168]) (h2 := hh1x) (dc2 := 0) (ds2 := 0) 1 rfl ?_
  have e5x := (ff3x.2 _ _ (wnc (by decide) wn0) hLo)
  have q6x : (2 : Int32).toInt = 2 := rfl
  refine wq_iald rfl e5x rfl rfl ?_
  refine wq_gos (f := 1) (pc2 := 16) (ls2 := [(3, .int (lo.getD 2 0)), (2, .int (-2147483648)), (0, .ref 162), (1, .int out)]) (st2 := []) (h2 := hh1x) (dc2 := 0) (ds2 := 0) 1 rfl ?_
  refine wq_ls [(0, .ref 162), (1, .int out), (2, .int (-2147483648)), (3, .int (lo.getD 2 0))] (show ([0, 1, 2, 3] : List Nat).Nodup by decide) ⟨rfl, rfl, rfl, rfl, trivial⟩ ?_
  exact kE hh1x (wFr_sub ff3x (by simp)) (by omega) e2x
set_option maxHeartbeats 4000000 in
theorem rCall_36 {h : zH} {out : Int32} {R : vRl} (k : MI h R) : wq 277 0 [(0, .ref 162), (1, .int out)] [] h 0 0 (rOk h R) := by
  refine MI_el k ?_
  intro n0 n14 n15 n16 n18 n19 n20 n21 n22 n23 n28 n32 n33 n34 n35 n39 n52 t pl u wn tb kn lo hi sv rt sn sq wy it hl hs nw am kp th fo sm pa pb on h1 tg ri hr pq ch co t1 sg tk tl pz dq ht c162 c164 c166 c168 c170 c172 c174 c176 c178 c180 c182 c184 c186 c188 c190 c192 c194 c196 c198 c200 c202 c204 c206 c208 c210 c212 c214 c216 c218 c220 c222 c224 c226 c228 c230 hu h01 hSA hFa hSP hNw hKp hK0 hRk hR
  have l2 := hFa.2.2.2.2.1 2 (by decide)
  have l3 := hFa.2.2.2.2.1 3 (by decide)
  have l4 := hFa.2.2.2.2.1 4 (by decide)
  have z2 : (zLow.getD 2 0).toInt = -32 := rfl
  have z3 : (zLow.getD 3 0).toInt = -32 := rfl
  have z4 : (zLow.getD 4 0).toInt = -32 := rfl
  have y2 : (zHigh.getD 2 0).toInt = 31 := rfl
  have y3 : (zHigh.getD 3 0).toInt = 31 := rfl
  have y4 : (zHigh.getD 4 0).toInt = 31 := rfl
  obtain ⟨m2, hm2⟩ : ∃ m : Nat, (lo.getD 2 0).toInt + m = (hi.getD 2 0).toInt + 1 := ⟨((hi.getD 2 0).toInt + 1 - (lo.getD 2 0).toInt).toNat, by omega⟩
  obtain ⟨m3, hm3⟩ : ∃ m : Nat, (lo.getD 3 0).toInt + m = (hi.getD 3 0).toInt + 1 := ⟨((hi.getD 3 0).toInt + 1 - (lo.getD 3 0).toInt).toNat, by omega⟩
  obtain ⟨m4, hm4⟩ : ∃ m : Nat, (lo.getD 4 0).toInt + m = (hi.getD 4 0).toInt + 1 := ⟨((hi.getD 4 0).toInt + 1 - (lo.getD 4 0).toInt).toNat, by omega⟩
  refine m_hi0 c162 c168 ?_
  intro h2 f l d162
  have d166 := wFr_at f (by decide) c166
  have d168 := wFr_at f (by decide) c168
  have d170 := wFr_at f (by decide) c170
  refine wq_mono (m_hiA d162 mC_mO d166 d168 d170 hm3 (by omega) hm4 (by omega) m2 (lo.getD 2 0) (-2147483648) 0 0 hm2 (by omega)) ?_
  rintro _ rfl
  exact rOk_i f l (by decide) _ ⟨_, _, _, _, _, _, _, _, _, _, _, _, _, _, _, _, _, _, _, _, _, _, _, _, _, _, _, _, _, _, _, _, _, _, _, _, _, _, _, _, _, _, _, _, _, _, _, _, _, _, _, _, _, _, _, ⟨ht, d162, wFr_at f (by decide) c164, wFr_at f (by decide) c166, wFr_at f (by decide) c168, wFr_at f (by decide) c170, wFr_at f (by decide) c172, wFr_at f (by decide) c174, wFr_at f (by decide) c176, wFr_at f (by decide) c178, wFr_at f (by decide) c180, wFr_at f (by decide) c182, wFr_at f (by decide) c184, wFr_at f (by decide) c186, wFr_at f (by decide) c188, wFr_at f (by decide) c190, wFr_at f (by decide) c192, wFr_at f (by decide) c194, wFr_at f (by decide) c196, wFr_at f (by decide) c198, wFr_at f (by decide) c200, wFr_at f (by decide) c202, wFr_at f (by decide) c204, wFr_at f (by decide) c206, wFr_at f (by decide) c208, wFr_at f (by decide) c210, wFr_at f (by decide) c212, wFr_at f (by decide) c214, wFr_at f (by decide) c216, wFr_at f (by decide) c218, wFr_at f (by decide) c220, wFr_at f (by decide) c222, wFr_at f (by decide) c224, wFr_at f (by decide) c226, wFr_at f (by decide) c228, wFr_at f (by decide) c230⟩, ⟨hu, h01, hSA, hFa, hSP, hNw, hKp, hK0, hRk⟩, hR⟩
set_option maxRecDepth 100000 in
set_option maxHeartbeats 4000000 in
theorem m_re0 {h : zH} {Q : zR → Prop} {n0 n2 n14 n15 n16 n17 n18 n19 n20 n21 n22 n23 n27 n28 n32 n33 n34 n35 n39 n52 : Int32} {pt w : Int32} (hM : zat h 162 = some (.inr (.inr (.inr (10, mO n0 n2 n14 n15 n16 n17 n18 n19 n20 n21 n22 n23 n27 n28 n32 n33 n34 n35 n39 n52))))) (hx : (0 ≤ pt.toInt ∧ pt.toInt ≤ 63) ∧ 0 ≤ w.toInt ∧ w.toInt ≤ 2) (kE : ∀ (h2 : zH), (wFr [162] h h2) → (h2.length = h.length) → (zat h2 162 = some (.inr (.inr (.inr (10, mO (0 : Int32) n2 n14 n15 n16 n17 n18 n19 n20 n21 n22 n23 n27 n28 n32 n33 n34 n35 n39 n52))))) → wq 276 26 [(0, .ref 162), (1, .int pt), (2, .int w)] [] h2 0 0 Q) : wq 276 0 [(0, .ref 162), (1, .int pt), (2, .int w)] [] h 0 0 Q := by
  have z63 : (63 : Int32).toInt = 63 := rfl
  have z2 : (2 : Int32).toInt = 2 := rfl
  refine wq_gos (f := 1) (pc2 := 2) (ls2 := [(0, .ref 162), (1, .int pt), (2, .int w)]) (st2 := [.int 0, .ref 162]) (h2 := h) (dc2 := 0) (ds2 := 0) 2 rfl ?_
  refine wq_putf rfl hM rfl rfl rfl ?_
  intro hh1x e2x ff3x lh4x
  have e2x : zat hh1x 162 = some (.inr (.inr (.inr (10, mO (0 : Int32) n2 n14 n15 n16 n17 n18 n19 n20 n21 n22 n23 n27 n28 n32 n33 n34 n35 n39 n52)))) := e2x
  refine wq_gos (f := 1) (pc2 := 6) (ls2 := [(0, .ref 162), (1, .int pt), (2, .int w)]) (st2 := [.int pt]) (h2 := hh1x) (dc2 := 0) (ds2 := 0) 1 rfl ?_
  refine wq_lt0f rfl rfl (by omega) ?_
  refine wq_gos (f := 1) (pc2 := 12) (ls2 := [(0, .ref 162), (1, .int pt), (2, .int w)]) (st2 := [.int 63, .int pt]) (h2 := hh1x) (dc2 := 0) (ds2 := 0) 2 rfl ?_
  have q5x : (63 : Int32).toInt = 63 := rfl
  refine wq_gt2f rfl rfl (by omega) ?_
  refine wq_gos (f := 1) (pc2 := 16) (ls2 := [(0, .ref 162), (1, .int pt), (2, .int w)]) (st2 := [.int w]) (h2 := hh1x) (dc2 := 0) (ds2 := 0) 1 rfl ?_
  refine wq_lt0f rfl rfl (by omega) ?_
  refine wq_gos (f := 1) (pc2 := 21) (ls2 := [(0, .ref 162), (1, .int pt), (2, .int w)]) (st2 := [.int 2, .int w]) (h2 := hh1x) (dc2 := 0) (ds2 := 0) 2 rfl ?_
  have q6x : (2 : Int32).toInt = 2 := rfl
  refine wq_le2t rfl (by omega) ?_
  refine wq_ls [(0, .ref 162), (1, .int pt), (2, .int w)] (show ([0, 1, 2] : List Nat).Nodup by decide) ⟨rfl, rfl, rfl, trivial⟩ ?_
  exact kE hh1x (wFr_sub ff3x (by simp)) (by omega) e2x
set_option maxRecDepth 100000 in
set_option maxHeartbeats 4000000 in
theorem m_reX {h : zH} {n0 n2 n14 n15 n16 n17 n18 n19 n20 n21 n22 n23 n27 n28 n32 n33 n34 n35 n39 n52 : Int32} {pt w : Int32} (hM : zat h 162 = some (.inr (.inr (.inr (10, mO n0 n2 n14 n15 n16 n17 n18 n19 n20 n21 n22 n23 n27 n28 n32 n33 n34 n35 n39 n52))))) (hx : pt.toInt < 0 ∨ 63 < pt.toInt ∨ w.toInt < 0 ∨ 2 < w.toInt) : wq 276 0 [(0, .ref 162), (1, .int pt), (2, .int w)] [] h 0 0 (fun rr9 => ∃ (h2 : zH), rr9 = (some (.int (-1)), h2, 0, 0) ∧ wFr [162] h h2 ∧ h2.length = h.length ∧ zat h2 162 = some (.inr (.inr (.inr (10, mO (0 : Int32) n2 n14 n15 n16 n17 n18 n19 n20 n21 n22 n23 n27 n28 n32 n33 n34 n35 n39 n52))))) := by
  have z63 : (63 : Int32).toInt = 63 := rfl
  have z2 : (2 : Int32).toInt = 2 := rfl
  refine wq_gos (f := 1) (pc2 := 2) (ls2 := [(0, .ref 162), (1, .int pt), (2, .int w)]) (st2 := [.int 0, .ref 162]) (h2 := h) (dc2 := 0) (ds2 := 0) 2 rfl ?_
  refine wq_putf rfl hM rfl rfl rfl ?_
  intro hh1x e2x ff3x lh4x
  have e2x : zat hh1x 162 = some (.inr (.inr (.inr (10, mO (0 : Int32) n2 n14 n15 n16 n17 n18 n19 n20 n21 n22 n23 n27 n28 n32 n33 n34 n35 n39 n52)))) := e2x
  refine wq_gos (f := 1) (pc2 := 6) (ls2 := [(0, .ref 162), (1, .int pt), (2, .int w)]) (st2 := [.int pt]) (h2 := hh1x) (dc2 := 0) (ds2 := 0) 1 rfl ?_
  refine wq_lt0 rfl rfl (fun b5x => ?_) (fun b5x => ?_)
  · refine wq_gos (f := 1) (pc2 := 25) (ls2 := [(0, .ref 162), (1, .int pt), (2, .int w)]) (st2 := [.int (-1)]) (h2 := hh1x) (dc2 := 0) (ds2 := 0) 1 rfl ?_
    exact wq_ret rfl rfl ⟨hh1x, rfl, (wFr_sub ff3x (by simp)), (by omega), e2x⟩
  · refine wq_gos (f := 1) (pc2 := 12) (ls2 := [(0, .ref 162), (1, .int pt), (2, .int w)]) (st2 := [.int 63, .int pt]) (h2 := hh1x) (dc2 := 0) (ds2 := 0) 2 rfl ?_
    have q6x : (63 : Int32).toInt = 63 := rfl
    refine wq_gt2 rfl rfl (fun b7x => ?_) (fun b7x => ?_)
    · refine wq_gos (f := 1) (pc2 := 25) (ls2 := [(0, .ref 162), (1, .int pt), (2, .int w)]) (st2 := [.int (-1)]) (h2 := hh1x) (dc2 := 0) (ds2 := 0) 1 rfl ?_
      exact wq_ret rfl rfl ⟨hh1x, rfl, (wFr_sub ff3x (by simp)), (by omega), e2x⟩
    · refine wq_gos (f := 1) (pc2 := 16) (ls2 := [(0, .ref 162), (1, .int pt), (2, .int w)]) (st2 := [.int w]) (h2 := hh1x) (dc2 := 0) (ds2 := 0) 1 rfl ?_
      refine wq_lt0 rfl rfl (fun b8x => ?_) (fun b8x => ?_)
      · refine wq_gos (f := 1) (pc2 := 25) (ls2 := [(0, .ref 162), (1, .int pt), (2, .int w)]) (st2 := [.int (-1)]) (h2 := hh1x) (dc2 := 0) (ds2 := 0) 1 rfl ?_
        exact wq_ret rfl rfl ⟨hh1x, rfl, (wFr_sub ff3x (by simp)), (by omega), e2x⟩
      · refine wq_gos (f := 1) (pc2 := 21) (ls2 := [(0, .ref 162), (1, .int pt), (2, .int w)]) (st2 := [.int 2, .int w]) (h2 := hh1x) (dc2 := 0) (ds2 := 0) 2 rfl ?_
        have q9x : (2 : Int32).toInt = 2 := rfl
        refine wq_le2f rfl rfl (by omega) ?_
        refine wq_gos (f := 1) (pc2 := 25) (ls2 := [(0, .ref 162), (1, .int pt), (2, .int w)]) (st2 := [.int (-1)]) (h2 := hh1x) (dc2 := 0) (ds2 := 0) 1 rfl ?_
        exact wq_ret rfl rfl ⟨hh1x, rfl, (wFr_sub ff3x (by simp)), (by omega), e2x⟩
set_option maxRecDepth 100000 in
set_option maxHeartbeats 4000000 in
theorem m_re2 {h : zH} {Q : zR → Prop} {n0 n2 n14 n15 n16 n17 n18 n19 n20 n21 n22 n23 n27 n28 n32 n33 n34 n35 n39 n52 : Int32} {pt w : Int32} {lo : List Int32} (hM : zat h 162 = some (.inr (.inr (.inr (10, mO n0 n2 n14 n15 n16 n17 n18 n19 n20 n21 n22 n23 n27 n28 n32 n33 n34 n35 n39 n52))))) (hLo : zat h 168 = some (.inl (0, 12, lo)))  (kE : wq 276 46 [(0, .ref 162), (1, .int pt), (2, .int w), (3, .int (-2147483648)), (4, .int (-2147483648)), (5, .int 0), (6, .int (lo.getD 2 0))] [] h 0 0 Q) : wq 276 26 [(0, .ref 162), (1, .int pt), (2, .int w)] [] h 0 0 Q := by
  refine wq_gos (f := 1) (pc2 := 39) (ls2 := [(5, .int 0), (4, .int (-2147483648)), (3, .int (-2147483648)), (0, .ref 162), (1, .int pt), (2, .int w)]) (st2 := [.ref 162]) (h2 := h) (dc2 := 0) (ds2 := 0) 7 rfl ?_
  refine wq_getf rfl hM rfl rfl ?_
  refine wq_gos (f := 1) (pc2 := 43) (ls2 := [(5, .int 0), (4, .int (-2147483648)), (3, .int (-2147483648)), (0, .ref 162), (1, .int pt), (2, .int w)]) (st2 := [.int 2, .ref 168]) (h2 := h) (dc2 := 0) (ds2 := 0) 1 rfl ?_
  have q1x : (2 : Int32).toInt = 2 := rfl
  refine wq_iald rfl hLo rfl rfl ?_
  refine wq_gos (f := 1) (pc2 := 46) (ls2 := [(6, .int (lo.getD 2 0)), (5, .int 0), (4, .int (-2147483648)), (3, .int (-2147483648)), (0, .ref 162), (1, .int pt), (2, .int w)]) (st2 := []) (h2 := h) (dc2 := 0) (ds2 := 0) 1 rfl ?_
  refine wq_ls [(0, .ref 162), (1, .int pt), (2, .int w), (3, .int (-2147483648)), (4, .int (-2147483648)), (5, .int 0), (6, .int (lo.getD 2 0))] (show ([0, 1, 2, 3, 4, 5, 6] : List Nat).Nodup by decide) ⟨rfl, rfl, rfl, rfl, rfl, rfl, rfl, trivial⟩ ?_
  exact kE 
set_option maxHeartbeats 4000000 in
theorem m_rcB {fs : List Value} {kn lo hi : List Int32} {pt : Int32} {dc ds m : Nat} (hl : 1 ≤ (kn.getD 0 0).toInt ∧ (kn.getD 0 0).toInt ≤ 99) (hh : 1 ≤ (kn.getD 1 0).toInt ∧ (kn.getD 1 0).toInt ≤ 99) (hg : 1 ≤ (kn.getD 2 0).toInt ∧ (kn.getD 2 0).toInt ≤ 99) (h100 : (hi.getD 3 0).toInt ≤ 100) (h101 : (hi.getD 2 0).toInt ≤ 100) (hm : (lo.getD 3 0).toInt + m = (hi.getD 3 0).toInt + 1) : ∀ (n : Nat) (h : zH) (fo : List Int64) (a mo le : Int32) (D : List (Int32 × Int32)) (k : Nat) (hM : zat h 162 = some (.inr (.inr (.inr (10, fs))))) (hC : mC fs) (hK : zat h 166 = some (.inl (0, 14, kn))) (hO : zat h 168 = some (.inl (0, 12, lo))) (hG : zat h 170 = some (.inl (0, 12, hi))) (hP : zat h 228 = some (.inr (.inl (4096, fo)))), uO fo (D.map (uM (kn.getD 0 0) (kn.getD 1 0) (kn.getD 2 0) pt)) → (∀ q ∈ D, uR q) → D.length ≤ k → k + n * m ≤ 4096 → a.toInt + n = (hi.getD 2 0).toInt + 1 → wq 276 46 [(0, .ref 162), (1, .int pt), (2, .int 2), (3, .int mo), (4, .int le), (5, .int (nI D.length)), (6, .int a)] [] h dc ds (fun r => ∃ (h2 : zH) (fo2 : List Int64), r = (some (.int (nI (uOu lo hi pt m n a D).length)), h2, dc, ds) ∧ wFr [228] h h2 ∧ h2.length = h.length ∧ zat h2 228 = some (.inr (.inl (4096, fo2)))) := by
  intro n
  induction n with
  | zero =>
    intro h fo a mo le D k hM hC hK hO hG hP hU hD hDk hk ha
    refine wq_gos (f := 1) (pc2 := 49) (ls2 := [(0, .ref 162), (1, .int pt), (2, .int 2), (3, .int mo), (4, .int le), (5, .int (nI D.length)), (6, .int a)]) (st2 := [.ref 162, .int a]) (h2 := h) (dc2 := dc) (ds2 := ds) 2 rfl ?_
    refine wq_getf rfl hM (hC.2 (5, 170) (by decide)) rfl ?_
    refine wq_gos (f := 1) (pc2 := 53) (ls2 := [(0, .ref 162), (1, .int pt), (2, .int 2), (3, .int mo), (4, .int le), (5, .int (nI D.length)), (6, .int a)]) (st2 := [.int 2, .ref 170, .int a]) (h2 := h) (dc2 := dc) (ds2 := ds) 1 rfl ?_
    refine wq_ialdk (k := 2) rfl hG rfl rfl rfl ?_
    refine wq_gt2t rfl (by omega) ?_
    refine wq_gos (f := 1) (pc2 := 218) (ls2 := [(0, .ref 162), (1, .int pt), (2, .int 2), (3, .int mo), (4, .int le), (5, .int (nI D.length)), (6, .int a)]) (st2 := [.int (nI D.length)]) (h2 := h) (dc2 := dc) (ds2 := ds) 6 rfl ?_
    exact wq_ret rfl rfl ⟨h, fo, rfl, wFr_rf _ _, rfl, hP⟩
  | succ n ih =>
    intro h fo a mo le D k hM hC hK hO hG hP hU hD hDk hk ha
    have ha2 : (a + 1).toInt = a.toInt + 1 := z_inc (by omega)
    have hmul : (n + 1) * m = n * m + m := Nat.succ_mul n m
    refine wq_gos (f := 1) (pc2 := 49) (ls2 := [(0, .ref 162), (1, .int pt), (2, .int 2), (3, .int mo), (4, .int le), (5, .int (nI D.length)), (6, .int a)]) (st2 := [.ref 162, .int a]) (h2 := h) (dc2 := dc) (ds2 := ds) 2 rfl ?_
    refine wq_getf rfl hM (hC.2 (5, 170) (by decide)) rfl ?_
    refine wq_gos (f := 1) (pc2 := 53) (ls2 := [(0, .ref 162), (1, .int pt), (2, .int 2), (3, .int mo), (4, .int le), (5, .int (nI D.length)), (6, .int a)]) (st2 := [.int 2, .ref 170, .int a]) (h2 := h) (dc2 := dc) (ds2 := ds) 1 rfl ?_
    refine wq_ialdk (k := 2) rfl hG rfl rfl rfl ?_
    refine wq_gt2f rfl rfl (by omega) ?_
    refine wq_gos (f := 1) (pc2 := 58) (ls2 := [(0, .ref 162), (1, .int pt), (2, .int 2), (3, .int mo), (4, .int le), (5, .int (nI D.length)), (6, .int a)]) (st2 := [.ref 162]) (h2 := h) (dc2 := dc) (ds2 := ds) 1 rfl ?_
    refine wq_getf rfl hM (hC.2 (4, 168) (by decide)) rfl ?_
    refine wq_gos (f := 1) (pc2 := 62) (ls2 := [(0, .ref 162), (1, .int pt), (2, .int 2), (3, .int mo), (4, .int le), (5, .int (nI D.length)), (6, .int a)]) (st2 := [.int 3, .ref 168]) (h2 := h) (dc2 := dc) (ds2 := ds) 1 rfl ?_
    refine wq_ialdk (k := 3) rfl hO rfl rfl rfl ?_
    refine wq_gos (f := 1) (pc2 := 65) (ls2 := [(7, .int (lo.getD 3 0)), (0, .ref 162), (1, .int pt), (2, .int 2), (3, .int mo), (4, .int le), (5, .int (nI D.length)), (6, .int a)]) (st2 := []) (h2 := h) (dc2 := dc) (ds2 := ds) 1 rfl ?_
    refine wq_ls [(0, .ref 162), (1, .int pt), (2, .int 2), (3, .int mo), (4, .int le), (5, .int (nI D.length)), (6, .int a), (7, .int (lo.getD 3 0))] (show ([0, 1, 2, 3, 4, 5, 6, 7] : List Nat).Nodup by decide) ⟨rfl, rfl, rfl, rfl, rfl, rfl, rfl, rfl, trivial⟩ ?_
    refine m_rcE hl hh hg h100 m h fo (lo.getD 3 0) mo le D k hM hC hK hO hG hP hU hD hDk (by omega) hm ?_
    intro h8 fo8 mo8 le8 f8 l8 t8 u8 r8 n8
    refine wq_gos (f := 1) (pc2 := 46) (ls2 := [(6, .int (a + 1)), (0, .ref 162), (1, .int pt), (2, .int 2), (3, .int mo8), (4, .int le8), (5, .int (nI (uIn lo hi pt a m (lo.getD 3 0) D).length))]) (st2 := []) (h2 := h8) (dc2 := dc) (ds2 := ds) 2 rfl ?_
    have e1x := (f8.2 _ _ (wnc (by decide) wn0) hM)
    have e2x := (f8.2 _ _ (wnc (by decide) wn0) hK)
    have e3x := (f8.2 _ _ (wnc (by decide) wn0) hO)
    have e4x := (f8.2 _ _ (wnc (by decide) wn0) hG)
    refine wq_ls [(0, .ref 162), (1, .int pt), (2, .int 2), (3, .int mo8), (4, .int le8), (5, .int (nI (uIn lo hi pt a m (lo.getD 3 0) D).length)), (6, .int (a + 1))] (show ([0, 1, 2, 3, 4, 5, 6] : List Nat).Nodup by decide) ⟨rfl, rfl, rfl, rfl, rfl, rfl, rfl, trivial⟩ ?_
    refine wq_mono (ih h8 fo8 (a + 1) mo8 le8 (uIn lo hi pt a m (lo.getD 3 0) D) (k + m) e1x hC e2x e3x e4x t8 u8 r8 n8 (by omega) (by omega)) ?_
    rintro _ ⟨g2, fo9, rfl, gf, gl, gt⟩
    exact ⟨g2, fo9, rfl, wFr_tr f8 gf, by omega, gt⟩
set_option maxHeartbeats 4000000 in
theorem rCall_35 {h : zH} {pt w : Int32} {R : vRl} (k : MI h R) : wq 276 0 [(0, .ref 162), (1, .int pt), (2, .int w)] [] h 0 0 (rOk h R) := by
  refine MI_el k ?_
  intro n0 n14 n15 n16 n18 n19 n20 n21 n22 n23 n28 n32 n33 n34 n35 n39 n52 t pl u wn tb kn lo hi sv rt sn sq wy it hl hs nw am kp th fo sm pa pb on h1 tg ri hr pq ch co t1 sg tk tl pz dq ht c162 c164 c166 c168 c170 c172 c174 c176 c178 c180 c182 c184 c186 c188 c190 c192 c194 c196 c198 c200 c202 c204 c206 c208 c210 c212 c214 c216 c218 c220 c222 c224 c226 c228 c230 hu h01 hSA hFa hSP hNw hKp hK0 hRk hR
  have l2 := hFa.2.2.2.2.1 2 (by decide)
  have l3 := hFa.2.2.2.2.1 3 (by decide)
  have l4 := hFa.2.2.2.2.1 4 (by decide)
  have z2 : (zLow.getD 2 0).toInt = -32 := rfl
  have z3 : (zLow.getD 3 0).toInt = -32 := rfl
  have z4 : (zLow.getD 4 0).toInt = -32 := rfl
  have y2 : (zHigh.getD 2 0).toInt = 31 := rfl
  have y3 : (zHigh.getD 3 0).toInt = 31 := rfl
  have y4 : (zHigh.getD 4 0).toInt = 31 := rfl
  obtain ⟨m2, hm2⟩ : ∃ m : Nat, (lo.getD 2 0).toInt + m = (hi.getD 2 0).toInt + 1 := ⟨((hi.getD 2 0).toInt + 1 - (lo.getD 2 0).toInt).toNat, by omega⟩
  obtain ⟨m3, hm3⟩ : ∃ m : Nat, (lo.getD 3 0).toInt + m = (hi.getD 3 0).toInt + 1 := ⟨((hi.getD 3 0).toInt + 1 - (lo.getD 3 0).toInt).toNat, by omega⟩
  obtain ⟨m4, hm4⟩ : ∃ m : Nat, (lo.getD 4 0).toInt + m = (hi.getD 4 0).toInt + 1 := ⟨((hi.getD 4 0).toInt + 1 - (lo.getD 4 0).toInt).toNat, by omega⟩
  by_cases hx9 : (0 ≤ pt.toInt ∧ pt.toInt ≤ 63) ∧ 0 ≤ w.toInt ∧ w.toInt ≤ 2
  · refine m_re0 c162 hx9 ?_
    intro h3 f l d162
    have d166 := wFr_at f (by decide) c166
    have d168 := wFr_at f (by decide) c168
    have d170 := wFr_at f (by decide) c170
    have d228 := wFr_at f (by decide) c228
    by_cases hw9 : w.toInt = 0
    · refine wq_mono (wq_T (c_mreach0 d162 rfl rfl rfl d166 d168 d170 hw9 (by omega) (by omega) (by omega) (by omega) hm3 hm2) (Q := fun r => ∃ v : Int32, r = (some (.int v), h3, 0, 0)) ⟨_, rfl⟩) ?_
      rintro _ ⟨v, rfl⟩
      exact rOk_i f l (by decide) _ ⟨_, _, _, _, _, _, _, _, _, _, _, _, _, _, _, _, _, _, _, _, _, _, _, _, _, _, _, _, _, _, _, _, _, _, _, _, _, _, _, _, _, _, _, _, _, _, _, _, _, _, _, _, _, _, _, ⟨ht, d162, wFr_at f (by decide) c164, wFr_at f (by decide) c166, wFr_at f (by decide) c168, wFr_at f (by decide) c170, wFr_at f (by decide) c172, wFr_at f (by decide) c174, wFr_at f (by decide) c176, wFr_at f (by decide) c178, wFr_at f (by decide) c180, wFr_at f (by decide) c182, wFr_at f (by decide) c184, wFr_at f (by decide) c186, wFr_at f (by decide) c188, wFr_at f (by decide) c190, wFr_at f (by decide) c192, wFr_at f (by decide) c194, wFr_at f (by decide) c196, wFr_at f (by decide) c198, wFr_at f (by decide) c200, wFr_at f (by decide) c202, wFr_at f (by decide) c204, wFr_at f (by decide) c206, wFr_at f (by decide) c208, wFr_at f (by decide) c210, wFr_at f (by decide) c212, wFr_at f (by decide) c214, wFr_at f (by decide) c216, wFr_at f (by decide) c218, wFr_at f (by decide) c220, wFr_at f (by decide) c222, wFr_at f (by decide) c224, wFr_at f (by decide) c226, wFr_at f (by decide) c228, wFr_at f (by decide) c230⟩, ⟨hu, h01, hSA, hFa, hSP, hNw, hKp, hK0, hRk⟩, hR⟩
    by_cases hw9 : w.toInt = 1
    · refine wq_mono (wq_T (c_mreach1 d162 rfl rfl rfl d166 d168 d170 hw9 (by omega) (by omega) (by omega) (by omega) hm3 hm2) (Q := fun r => ∃ v : Int32, r = (some (.int v), h3, 0, 0)) ⟨_, rfl⟩) ?_
      rintro _ ⟨v, rfl⟩
      exact rOk_i f l (by decide) _ ⟨_, _, _, _, _, _, _, _, _, _, _, _, _, _, _, _, _, _, _, _, _, _, _, _, _, _, _, _, _, _, _, _, _, _, _, _, _, _, _, _, _, _, _, _, _, _, _, _, _, _, _, _, _, _, _, ⟨ht, d162, wFr_at f (by decide) c164, wFr_at f (by decide) c166, wFr_at f (by decide) c168, wFr_at f (by decide) c170, wFr_at f (by decide) c172, wFr_at f (by decide) c174, wFr_at f (by decide) c176, wFr_at f (by decide) c178, wFr_at f (by decide) c180, wFr_at f (by decide) c182, wFr_at f (by decide) c184, wFr_at f (by decide) c186, wFr_at f (by decide) c188, wFr_at f (by decide) c190, wFr_at f (by decide) c192, wFr_at f (by decide) c194, wFr_at f (by decide) c196, wFr_at f (by decide) c198, wFr_at f (by decide) c200, wFr_at f (by decide) c202, wFr_at f (by decide) c204, wFr_at f (by decide) c206, wFr_at f (by decide) c208, wFr_at f (by decide) c210, wFr_at f (by decide) c212, wFr_at f (by decide) c214, wFr_at f (by decide) c216, wFr_at f (by decide) c218, wFr_at f (by decide) c220, wFr_at f (by decide) c222, wFr_at f (by decide) c224, wFr_at f (by decide) c226, wFr_at f (by decide) c228, wFr_at f (by decide) c230⟩, ⟨hu, h01, hSA, hFa, hSP, hNw, hKp, hK0, hRk⟩, hR⟩
    have ew : w = 2 := Int32.toInt_inj.mp (by have z2 : (2 : Int32).toInt = 2 := rfl; omega)
    subst ew
    refine m_re2 d162 d168 ?_
    obtain ⟨⟨k1, k2, k3, k4, k5, k6, k7, k8, k9, k10⟩, _⟩ := hFa.2.2.2
    have hmm : m2 * m3 ≤ 64 * 64 := Nat.mul_le_mul (by omega) (by omega)
    refine wq_mono (m_rcB (m := m3) ⟨k1, k2⟩ ⟨k3, k4⟩ ⟨k5, k6⟩ (by omega) (by omega) hm3 m2 h3 pz (lo.getD 2 0) (-2147483648) (-2147483648) [] 0 d162 mC_mO d166 d168 d170 d228 (uO_0 _) (fun q hq => absurd hq List.not_mem_nil) (Nat.le_refl _) (by omega) hm2) ?_
    rintro _ ⟨h2, fo9, rfl, gf, gl, gt⟩
    have f2 : wFr [162, 228] h h2 := ⟨Nat.le_trans f.1 gf.1, fun q e hq z => gf.2 q e (fun hm => hq (List.mem_cons_of_mem _ hm)) (f.2 q e (fun hm => hq (by rw [List.mem_singleton.mp hm]; exact List.mem_cons_self)) z)⟩
    have l9 : h2.length = h.length := by omega
    have d9 := wFr_at gf (by decide) d162
    exact rOk_i f2 l9 (by decide) _ ⟨_, _, _, _, _, _, _, _, _, _, _, _, _, _, _, _, _, _, _, _, _, _, _, _, _, _, _, _, _, _, _, _, _, _, _, _, _, _, _, _, _, _, _, _, _, _, _, _, _, _, _, _, _, _, _, ⟨ht, d9, wFr_at f2 (by decide) c164, wFr_at f2 (by decide) c166, wFr_at f2 (by decide) c168, wFr_at f2 (by decide) c170, wFr_at f2 (by decide) c172, wFr_at f2 (by decide) c174, wFr_at f2 (by decide) c176, wFr_at f2 (by decide) c178, wFr_at f2 (by decide) c180, wFr_at f2 (by decide) c182, wFr_at f2 (by decide) c184, wFr_at f2 (by decide) c186, wFr_at f2 (by decide) c188, wFr_at f2 (by decide) c190, wFr_at f2 (by decide) c192, wFr_at f2 (by decide) c194, wFr_at f2 (by decide) c196, wFr_at f2 (by decide) c198, wFr_at f2 (by decide) c200, wFr_at f2 (by decide) c202, wFr_at f2 (by decide) c204, wFr_at f2 (by decide) c206, wFr_at f2 (by decide) c208, wFr_at f2 (by decide) c210, wFr_at f2 (by decide) c212, wFr_at f2 (by decide) c214, wFr_at f2 (by decide) c216, wFr_at f2 (by decide) c218, wFr_at f2 (by decide) c220, wFr_at f2 (by decide) c222, wFr_at f2 (by decide) c224, wFr_at f2 (by decide) c226, gt, wFr_at f2 (by decide) c230⟩, ⟨hu, h01, hSA, hFa, hSP, hNw, hKp, hK0, hRk⟩, hR⟩
  · refine wq_mono (m_reX c162 (by omega)) ?_
    rintro _ ⟨h2, rfl, f, l, d162⟩
    exact rOk_i f l (by decide) _ ⟨_, _, _, _, _, _, _, _, _, _, _, _, _, _, _, _, _, _, _, _, _, _, _, _, _, _, _, _, _, _, _, _, _, _, _, _, _, _, _, _, _, _, _, _, _, _, _, _, _, _, _, _, _, _, _, ⟨ht, d162, wFr_at f (by decide) c164, wFr_at f (by decide) c166, wFr_at f (by decide) c168, wFr_at f (by decide) c170, wFr_at f (by decide) c172, wFr_at f (by decide) c174, wFr_at f (by decide) c176, wFr_at f (by decide) c178, wFr_at f (by decide) c180, wFr_at f (by decide) c182, wFr_at f (by decide) c184, wFr_at f (by decide) c186, wFr_at f (by decide) c188, wFr_at f (by decide) c190, wFr_at f (by decide) c192, wFr_at f (by decide) c194, wFr_at f (by decide) c196, wFr_at f (by decide) c198, wFr_at f (by decide) c200, wFr_at f (by decide) c202, wFr_at f (by decide) c204, wFr_at f (by decide) c206, wFr_at f (by decide) c208, wFr_at f (by decide) c210, wFr_at f (by decide) c212, wFr_at f (by decide) c214, wFr_at f (by decide) c216, wFr_at f (by decide) c218, wFr_at f (by decide) c220, wFr_at f (by decide) c222, wFr_at f (by decide) c224, wFr_at f (by decide) c226, wFr_at f (by decide) c228, wFr_at f (by decide) c230⟩, ⟨hu, h01, hSA, hFa, hSP, hNw, hKp, hK0, hRk⟩, hR⟩
