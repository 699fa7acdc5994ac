/-! Drawing by chance: the reference's side. -/
theorem jK_c {lo hi ll lg : List Int32} (h : wLim lo hi ll lg) {j : Nat} (hj : j < 6) : jK lo hi j = jK ll lg j := by
  unfold jK
  rw [(h j hj).1, (h j hj).2]
theorem jv_m {lo hi ll lg : List Int32} (h : wLim lo hi ll lg) (n : Nat) {j : Nat} (hj : j < 6) : lo.getD j 0 + nI (jsd n (j + 1) / 65536 % jK lo hi j) = jv ll lg n j := by
  unfold jv
  rw [jK_c h hj, (h j hj).1]
theorem wLm_c {lo hi ll lg : List Int32} (h : wLim lo hi ll lg) (hm : wLm ll lg) : wLm lo hi := fun j hj => by
  rw [(h j hj).1, (h j hj).2]
  exact hm j hj
theorem nIk_ne0 {k : Nat} (h : 1 ≤ k ∧ k ≤ 128) : nI k ≠ 0 := nI_ne0 (by omega) (by omega)
theorem nI_m3 {a : Nat} (h : a < 2 ^ 31) : nI a ≠ -3 := fun q => by
  have h1 := congrArg Int32.toInt q
  rw [nI_toInt h, show ((-3 : Int32)).toInt = -3 from rfl] at h1
  omega
set_option maxHeartbeats 4000000 in
theorem m_placeD {h : zH} {fs : List Value} {kn lo hi : List Int32} {dq th : List Int32} {v0 v1 v2 v3 v4 v5 : Int32} (hM : zat h 162 = some (.inr (.inr (.inr (10, fs))))) (hC : mC fs) (hK : zat h 166 = some (.inl (0, 14, kn))) (hO : zat h 168 = some (.inl (0, 12, lo))) (hG : zat h 170 = some (.inl (0, 12, hi))) (hD : zat h 230 = some (.inl (0, 6, dq))) (hT : zat h 194 = some (.inl (0, 6, th))) (hd0 : dq.getD 0 0 = v0) (hd1 : dq.getD 1 0 = v1) (hd2 : dq.getD 2 0 = v2) (hd3 : dq.getD 3 0 = v3) (hd4 : dq.getD 4 0 = v4) (hd5 : dq.getD 5 0 = v5) : wq 200 0 [(0, .ref 162), (1, .ref 230), (2, .int 0)] [] h 0 0 (fun r => ∃ (h2 : zH) (th2 : List Int32), r = (none, h2, 0, 0) ∧ wFr [194] h h2 ∧ h2.length = h.length ∧ zat h2 194 = some (.inl (0, 6, th2)) ∧ ∀ i, i < 6 → th2.getD i 0 = (jpl (kn.getD 0 0) (kn.getD 1 0) (kn.getD 2 0) v0 v1 v2 v3 v4 v5).getD i 0) := by
  refine wq_gos (f := 1) (pc2 := 4) (ls2 := [(0, .ref 162), (1, .ref 230), (2, .int 0)]) (st2 := [.int 2, .ref 230]) (h2 := h) (dc2 := 0) (ds2 := 0) 4 rfl ?_
  refine wq_ialdk (k := 2) rfl hD rfl rfl rfl ?_
  refine wq_vi hd2 ?_
  refine wq_gos (f := 1) (pc2 := 9) (ls2 := [(0, .ref 162), (1, .ref 230), (2, .int 0)]) (st2 := [.int 3, .ref 230, .int v2]) (h2 := h) (dc2 := 0) (ds2 := 0) 4 rfl ?_
  refine wq_ialdk (k := 3) rfl hD rfl rfl rfl ?_
  refine wq_vi hd3 ?_
  refine wq_gos (f := 1) (pc2 := 17) (ls2 := [(3, .int (v2 + v3)), (0, .ref 162), (1, .ref 230), (2, .int 0)]) (st2 := [.int 4, .ref 230, .int (v2 + v3)]) (h2 := h) (dc2 := 0) (ds2 := 0) 7 rfl ?_
  refine wq_ialdk (k := 4) rfl hD rfl rfl rfl ?_
  refine wq_vi hd4 ?_
  refine wq_gos (f := 1) (pc2 := 24) (ls2 := [(4, .int ((v2 + v3) + v4)), (3, .int (v2 + v3)), (0, .ref 162), (1, .ref 230), (2, .int 0)]) (st2 := [.int 0, .ref 230, .ref 162]) (h2 := h) (dc2 := 0) (ds2 := 0) 5 rfl ?_
  refine wq_inlv (y2 := 199) (as := [.ref 230, .int 0]) rfl rfl rfl hM rfl ?_
  show wq 199 0 [(0, .ref 162), (1, .ref 230), (2, .int 0)] [] h 0 0 _
  refine wq_gos (f := 1) (pc2 := 4) (ls2 := [(0, .ref 162), (1, .ref 230), (2, .int 0)]) (st2 := [.int 2, .ref 230]) (h2 := h) (dc2 := 0) (ds2 := 0) 4 rfl ?_
  refine wq_ialdk (k := 2) rfl hD rfl rfl rfl ?_
  refine wq_vi hd2 ?_
  refine wq_gos (f := 1) (pc2 := 9) (ls2 := [(0, .ref 162), (1, .ref 230), (2, .int 0)]) (st2 := [.int 3, .ref 230, .int v2]) (h2 := h) (dc2 := 0) (ds2 := 0) 4 rfl ?_
  refine wq_ialdk (k := 3) rfl hD rfl rfl rfl ?_
  refine wq_vi hd3 ?_
  refine wq_gos (f := 1) (pc2 := 17) (ls2 := [(3, .int (v2 + v3)), (0, .ref 162), (1, .ref 230), (2, .int 0)]) (st2 := [.int 2, .ref 230, .ref 162]) (h2 := h) (dc2 := 0) (ds2 := 0) 7 rfl ?_
  refine wq_ialdk (k := 2) rfl hD rfl rfl rfl ?_
  refine wq_vi hd2 ?_
  refine wq_gos (f := 1) (pc2 := 24) (ls2 := [(3, .int (v2 + v3)), (0, .ref 162), (1, .ref 230), (2, .int 0)]) (st2 := [.int 4, .ref 230, .int (v2 + v3), .int (v2 + v3), .int v2, .ref 162]) (h2 := h) (dc2 := 0) (ds2 := 0) 6 rfl ?_
  refine wq_ialdk (k := 4) rfl hD rfl rfl rfl ?_
  refine wq_vi hd4 ?_
  refine wq_gos (f := 1) (pc2 := 26) (ls2 := [(3, .int (v2 + v3)), (0, .ref 162), (1, .ref 230), (2, .int 0)]) (st2 := [.int ((v2 + v3) + v4), .int (v2 + v3), .int v2, .ref 162]) (h2 := h) (dc2 := 0) (ds2 := 0) 1 rfl ?_
  refine wq_inlv (y2 := 197) (as := [.int v2, .int (v2 + v3), .int ((v2 + v3) + v4)]) rfl rfl rfl hM rfl (wq_T (c_outBy hM (hC.2 (3, 166) (by decide)) (hC.2 (4, 168) (by decide)) (hC.2 (5, 170) (by decide)) hK hO hG v2 (v2 + v3) ((v2 + v3) + v4)) ?_)
  show wq 199 29 [(3, .int (v2 + v3)), (0, .ref 162), (1, .ref 230), (2, .int 0)] [.int (jout (kn.getD 0 0) (kn.getD 1 0) v2 (v2 + v3) ((v2 + v3) + v4))] h 0 0 _
  refine wq_ret rfl rfl ?_
  show wq 200 27 [(4, .int ((v2 + v3) + v4)), (3, .int (v2 + v3)), (0, .ref 162), (1, .ref 230), (2, .int 0)] [.int (jout (kn.getD 0 0) (kn.getD 1 0) v2 (v2 + v3) ((v2 + v3) + v4))] h 0 0 _
  refine wq_gos (f := 1) (pc2 := 30) (ls2 := [(5, .int (jout (kn.getD 0 0) (kn.getD 1 0) v2 (v2 + v3) ((v2 + v3) + v4))), (4, .int ((v2 + v3) + v4)), (3, .int (v2 + v3)), (0, .ref 162), (1, .ref 230), (2, .int 0)]) (st2 := [.ref 162]) (h2 := h) (dc2 := 0) (ds2 := 0) 2 rfl ?_
  refine wq_getf rfl hM (hC.2 (29, 194) (by decide)) rfl ?_
  refine wq_gos (f := 1) (pc2 := 41) (ls2 := [(5, .int (jout (kn.getD 0 0) (kn.getD 1 0) v2 (v2 + v3) ((v2 + v3) + v4))), (4, .int ((v2 + v3) + v4)), (3, .int (v2 + v3)), (0, .ref 162), (1, .ref 230), (2, .int 0)]) (st2 := [.int 0, .ref 230, .int 1000000, .int 0, .ref 194]) (h2 := h) (dc2 := 0) (ds2 := 0) 6 rfl ?_
  refine wq_ialdk (k := 0) rfl hD rfl rfl rfl ?_
  refine wq_vi hd0 ?_
  refine wq_gos (f := 1) (pc2 := 49) (ls2 := [(5, .int (jout (kn.getD 0 0) (kn.getD 1 0) v2 (v2 + v3) ((v2 + v3) + v4))), (4, .int ((v2 + v3) + v4)), (3, .int (v2 + v3)), (0, .ref 162), (1, .ref 230), (2, .int 0)]) (st2 := [.int 1, .ref 230, .int (jout (kn.getD 0 0) (kn.getD 1 0) v2 (v2 + v3) ((v2 + v3) + v4)), .int ((1000000 : Int32) * v0), .int 0, .ref 194]) (h2 := h) (dc2 := 0) (ds2 := 0) 6 rfl ?_
  refine wq_ialdk (k := 1) rfl hD rfl rfl rfl ?_
  refine wq_vi hd1 ?_
  refine wq_inl (y2 := 195) (as := [.int v1]) rfl rfl rfl (wq_T (m_cos v1 h) ?_)
  show wq 200 53 [(5, .int (jout (kn.getD 0 0) (kn.getD 1 0) v2 (v2 + v3) ((v2 + v3) + v4))), (4, .int ((v2 + v3) + v4)), (3, .int (v2 + v3)), (0, .ref 162), (1, .ref 230), (2, .int 0)] [.int (jcos v1), .int (jout (kn.getD 0 0) (kn.getD 1 0) v2 (v2 + v3) ((v2 + v3) + v4)), .int ((1000000 : Int32) * v0), .int 0, .ref 194] h 0 0 _
  refine wq_gos (f := 1) (pc2 := 55) (ls2 := [(5, .int (jout (kn.getD 0 0) (kn.getD 1 0) v2 (v2 + v3) ((v2 + v3) + v4))), (4, .int ((v2 + v3) + v4)), (3, .int (v2 + v3)), (0, .ref 162), (1, .ref 230), (2, .int 0)]) (st2 := [.int (((1000000 : Int32) * v0) + ((jout (kn.getD 0 0) (kn.getD 1 0) v2 (v2 + v3) ((v2 + v3) + v4)) * (jcos v1))), .int 0, .ref 194]) (h2 := h) (dc2 := 0) (ds2 := 0) 2 rfl ?_
  refine wq_iast rfl hT rfl rfl ?_
  intro h1x e2x f3x l4x
  have e2x : zat h1x 194 = some (.inl (0, 6, (zset 0 th 0 (((1000000 : Int32) * v0) + ((jout (kn.getD 0 0) (kn.getD 1 0) v2 (v2 + v3) ((v2 + v3) + v4)) * (jcos v1)))))) := e2x
  refine wq_gos (f := 1) (pc2 := 57) (ls2 := [(5, .int (jout (kn.getD 0 0) (kn.getD 1 0) v2 (v2 + v3) ((v2 + v3) + v4))), (4, .int ((v2 + v3) + v4)), (3, .int (v2 + v3)), (0, .ref 162), (1, .ref 230), (2, .int 0)]) (st2 := [.ref 162]) (h2 := h1x) (dc2 := 0) (ds2 := 0) 1 rfl ?_
  have e5x := (f3x.2 _ _ (wnc (by decide) wn0) hM)
  refine wq_getf rfl e5x (hC.2 (29, 194) (by decide)) rfl ?_
  refine wq_gos (f := 1) (pc2 := 67) (ls2 := [(5, .int (jout (kn.getD 0 0) (kn.getD 1 0) v2 (v2 + v3) ((v2 + v3) + v4))), (4, .int ((v2 + v3) + v4)), (3, .int (v2 + v3)), (0, .ref 162), (1, .ref 230), (2, .int 0)]) (st2 := [.int 1, .ref 230, .int (jout (kn.getD 0 0) (kn.getD 1 0) v2 (v2 + v3) ((v2 + v3) + v4)), .int 1, .ref 194]) (h2 := h1x) (dc2 := 0) (ds2 := 0) 6 rfl ?_
  have e6x := (f3x.2 _ _ (wnc (by decide) wn0) hD)
  refine wq_ialdk (k := 1) rfl e6x rfl rfl rfl ?_
  refine wq_vi hd1 ?_
  refine wq_inl (y2 := 196) (as := [.int v1]) rfl rfl rfl (wq_T (m_sin v1 h1x) ?_)
  show wq 200 71 [(5, .int (jout (kn.getD 0 0) (kn.getD 1 0) v2 (v2 + v3) ((v2 + v3) + v4))), (4, .int ((v2 + v3) + v4)), (3, .int (v2 + v3)), (0, .ref 162), (1, .ref 230), (2, .int 0)] [.int (jsin v1), .int (jout (kn.getD 0 0) (kn.getD 1 0) v2 (v2 + v3) ((v2 + v3) + v4)), .int 1, .ref 194] h1x 0 0 _
  refine wq_gos (f := 1) (pc2 := 72) (ls2 := [(5, .int (jout (kn.getD 0 0) (kn.getD 1 0) v2 (v2 + v3) ((v2 + v3) + v4))), (4, .int ((v2 + v3) + v4)), (3, .int (v2 + v3)), (0, .ref 162), (1, .ref 230), (2, .int 0)]) (st2 := [.int ((jout (kn.getD 0 0) (kn.getD 1 0) v2 (v2 + v3) ((v2 + v3) + v4)) * (jsin v1)), .int 1, .ref 194]) (h2 := h1x) (dc2 := 0) (ds2 := 0) 1 rfl ?_
  refine wq_iast rfl e2x rfl rfl ?_
  intro h7x e8x f9x l10x
  have e8x : zat h7x 194 = some (.inl (0, 6, (zset 0 (zset 0 th 0 (((1000000 : Int32) * v0) + ((jout (kn.getD 0 0) (kn.getD 1 0) v2 (v2 + v3) ((v2 + v3) + v4)) * (jcos v1)))) 1 ((jout (kn.getD 0 0) (kn.getD 1 0) v2 (v2 + v3) ((v2 + v3) + v4)) * (jsin v1))))) := e8x
  refine wq_gos (f := 1) (pc2 := 74) (ls2 := [(5, .int (jout (kn.getD 0 0) (kn.getD 1 0) v2 (v2 + v3) ((v2 + v3) + v4))), (4, .int ((v2 + v3) + v4)), (3, .int (v2 + v3)), (0, .ref 162), (1, .ref 230), (2, .int 0)]) (st2 := [.ref 162]) (h2 := h7x) (dc2 := 0) (ds2 := 0) 1 rfl ?_
  have e11x := (f9x.2 _ _ (wnc (by decide) wn0) e5x)
  refine wq_getf rfl e11x (hC.2 (29, 194) (by decide)) rfl ?_
  refine wq_gos (f := 1) (pc2 := 83) (ls2 := [(5, .int (jout (kn.getD 0 0) (kn.getD 1 0) v2 (v2 + v3) ((v2 + v3) + v4))), (4, .int ((v2 + v3) + v4)), (3, .int (v2 + v3)), (0, .ref 162), (1, .ref 230), (2, .int 0)]) (st2 := [.int 2, .ref 230, .ref 162, .int 2, .ref 194]) (h2 := h7x) (dc2 := 0) (ds2 := 0) 6 rfl ?_
  have e12x := (f9x.2 _ _ (wnc (by decide) wn0) e6x)
  refine wq_ialdk (k := 2) rfl e12x rfl rfl rfl ?_
  refine wq_vi hd2 ?_
  refine wq_gos (f := 1) (pc2 := 87) (ls2 := [(5, .int (jout (kn.getD 0 0) (kn.getD 1 0) v2 (v2 + v3) ((v2 + v3) + v4))), (4, .int ((v2 + v3) + v4)), (3, .int (v2 + v3)), (0, .ref 162), (1, .ref 230), (2, .int 0)]) (st2 := [.int ((v2 + v3) + v4), .int (v2 + v3), .int v2, .ref 162, .int 2, .ref 194]) (h2 := h7x) (dc2 := 0) (ds2 := 0) 2 rfl ?_
  have e13x := (f9x.2 _ _ (wnc (by decide) wn0) (f3x.2 _ _ (wnc (by decide) wn0) hK))
  have e14x := (f9x.2 _ _ (wnc (by decide) wn0) (f3x.2 _ _ (wnc (by decide) wn0) hO))
  have e15x := (f9x.2 _ _ (wnc (by decide) wn0) (f3x.2 _ _ (wnc (by decide) wn0) hG))
  refine wq_inlv (y2 := 198) (as := [.int v2, .int (v2 + v3), .int ((v2 + v3) + v4)]) rfl rfl rfl e11x rfl (wq_T (c_heightBy e11x (hC.2 (3, 166) (by decide)) (hC.2 (4, 168) (by decide)) (hC.2 (5, 170) (by decide)) e13x e14x e15x v2 (v2 + v3) ((v2 + v3) + v4)) ?_)
  show wq 200 90 [(5, .int (jout (kn.getD 0 0) (kn.getD 1 0) v2 (v2 + v3) ((v2 + v3) + v4))), (4, .int ((v2 + v3) + v4)), (3, .int (v2 + v3)), (0, .ref 162), (1, .ref 230), (2, .int 0)] [.int (jhgt (kn.getD 2 0) (kn.getD 0 0) (kn.getD 1 0) v2 (v2 + v3) ((v2 + v3) + v4)), .int 2, .ref 194] h7x 0 0 _
  refine wq_iast rfl e8x rfl rfl ?_
  intro h16x e17x f18x l19x
  have e17x : zat h16x 194 = some (.inl (0, 6, (zset 0 (zset 0 (zset 0 th 0 (((1000000 : Int32) * v0) + ((jout (kn.getD 0 0) (kn.getD 1 0) v2 (v2 + v3) ((v2 + v3) + v4)) * (jcos v1)))) 1 ((jout (kn.getD 0 0) (kn.getD 1 0) v2 (v2 + v3) ((v2 + v3) + v4)) * (jsin v1))) 2 (jhgt (kn.getD 2 0) (kn.getD 0 0) (kn.getD 1 0) v2 (v2 + v3) ((v2 + v3) + v4))))) := e17x
  refine wq_gos (f := 1) (pc2 := 92) (ls2 := [(5, .int (jout (kn.getD 0 0) (kn.getD 1 0) v2 (v2 + v3) ((v2 + v3) + v4))), (4, .int ((v2 + v3) + v4)), (3, .int (v2 + v3)), (0, .ref 162), (1, .ref 230), (2, .int 0)]) (st2 := [.ref 162]) (h2 := h16x) (dc2 := 0) (ds2 := 0) 1 rfl ?_
  have e20x := (f18x.2 _ _ (wnc (by decide) wn0) e11x)
  refine wq_getf rfl e20x (hC.2 (29, 194) (by decide)) rfl ?_
  refine wq_gos (f := 1) (pc2 := 100) (ls2 := [(5, .int (jout (kn.getD 0 0) (kn.getD 1 0) v2 (v2 + v3) ((v2 + v3) + v4))), (4, .int ((v2 + v3) + v4)), (3, .int (v2 + v3)), (0, .ref 162), (1, .ref 230), (2, .int 0)]) (st2 := [.int 1, .ref 230, .int 3, .ref 194]) (h2 := h16x) (dc2 := 0) (ds2 := 0) 5 rfl ?_
  have e21x := (f18x.2 _ _ (wnc (by decide) wn0) e12x)
  refine wq_ialdk (k := 1) rfl e21x rfl rfl rfl ?_
  refine wq_vi hd1 ?_
  refine wq_gos (f := 1) (pc2 := 104) (ls2 := [(5, .int (jout (kn.getD 0 0) (kn.getD 1 0) v2 (v2 + v3) ((v2 + v3) + v4))), (4, .int ((v2 + v3) + v4)), (3, .int (v2 + v3)), (0, .ref 162), (1, .ref 230), (2, .int 0)]) (st2 := [.int (v1 &&& (63 : Int32)), .int 3, .ref 194]) (h2 := h16x) (dc2 := 0) (ds2 := 0) 2 rfl ?_
  refine wq_iast rfl e17x rfl rfl ?_
  intro h22x e23x f24x l25x
  have e23x : zat h22x 194 = some (.inl (0, 6, (zset 0 (zset 0 (zset 0 (zset 0 th 0 (((1000000 : Int32) * v0) + ((jout (kn.getD 0 0) (kn.getD 1 0) v2 (v2 + v3) ((v2 + v3) + v4)) * (jcos v1)))) 1 ((jout (kn.getD 0 0) (kn.getD 1 0) v2 (v2 + v3) ((v2 + v3) + v4)) * (jsin v1))) 2 (jhgt (kn.getD 2 0) (kn.getD 0 0) (kn.getD 1 0) v2 (v2 + v3) ((v2 + v3) + v4))) 3 (v1 &&& (63 : Int32))))) := e23x
  refine wq_gos (f := 1) (pc2 := 106) (ls2 := [(5, .int (jout (kn.getD 0 0) (kn.getD 1 0) v2 (v2 + v3) ((v2 + v3) + v4))), (4, .int ((v2 + v3) + v4)), (3, .int (v2 + v3)), (0, .ref 162), (1, .ref 230), (2, .int 0)]) (st2 := [.ref 162]) (h2 := h22x) (dc2 := 0) (ds2 := 0) 1 rfl ?_
  have e26x := (f24x.2 _ _ (wnc (by decide) wn0) e20x)
  refine wq_getf rfl e26x (hC.2 (29, 194) (by decide)) rfl ?_
  refine wq_gos (f := 1) (pc2 := 115) (ls2 := [(5, .int (jout (kn.getD 0 0) (kn.getD 1 0) v2 (v2 + v3) ((v2 + v3) + v4))), (4, .int ((v2 + v3) + v4)), (3, .int (v2 + v3)), (0, .ref 162), (1, .ref 230), (2, .int 0)]) (st2 := [.int (((v2 + v3) + v4) &&& (63 : Int32)), .int 4, .ref 194]) (h2 := h22x) (dc2 := 0) (ds2 := 0) 4 rfl ?_
  refine wq_iast rfl e23x rfl rfl ?_
  intro h27x e28x f29x l30x
  have e28x : zat h27x 194 = some (.inl (0, 6, (zset 0 (zset 0 (zset 0 (zset 0 (zset 0 th 0 (((1000000 : Int32) * v0) + ((jout (kn.getD 0 0) (kn.getD 1 0) v2 (v2 + v3) ((v2 + v3) + v4)) * (jcos v1)))) 1 ((jout (kn.getD 0 0) (kn.getD 1 0) v2 (v2 + v3) ((v2 + v3) + v4)) * (jsin v1))) 2 (jhgt (kn.getD 2 0) (kn.getD 0 0) (kn.getD 1 0) v2 (v2 + v3) ((v2 + v3) + v4))) 3 (v1 &&& (63 : Int32))) 4 (((v2 + v3) + v4) &&& (63 : Int32))))) := e28x
  refine wq_gos (f := 1) (pc2 := 117) (ls2 := [(5, .int (jout (kn.getD 0 0) (kn.getD 1 0) v2 (v2 + v3) ((v2 + v3) + v4))), (4, .int ((v2 + v3) + v4)), (3, .int (v2 + v3)), (0, .ref 162), (1, .ref 230), (2, .int 0)]) (st2 := [.ref 162]) (h2 := h27x) (dc2 := 0) (ds2 := 0) 1 rfl ?_
  have e31x := (f29x.2 _ _ (wnc (by decide) wn0) e26x)
  refine wq_getf rfl e31x (hC.2 (29, 194) (by decide)) rfl ?_
  refine wq_gos (f := 1) (pc2 := 125) (ls2 := [(5, .int (jout (kn.getD 0 0) (kn.getD 1 0) v2 (v2 + v3) ((v2 + v3) + v4))), (4, .int ((v2 + v3) + v4)), (3, .int (v2 + v3)), (0, .ref 162), (1, .ref 230), (2, .int 0)]) (st2 := [.int 5, .ref 230, .int 5, .ref 194]) (h2 := h27x) (dc2 := 0) (ds2 := 0) 5 rfl ?_
  have e32x := (f29x.2 _ _ (wnc (by decide) wn0) (f24x.2 _ _ (wnc (by decide) wn0) e21x))
  refine wq_ialdk (k := 5) rfl e32x rfl rfl rfl ?_
  refine wq_vi hd5 ?_
  refine wq_gos (f := 1) (pc2 := 129) (ls2 := [(5, .int (jout (kn.getD 0 0) (kn.getD 1 0) v2 (v2 + v3) ((v2 + v3) + v4))), (4, .int ((v2 + v3) + v4)), (3, .int (v2 + v3)), (0, .ref 162), (1, .ref 230), (2, .int 0)]) (st2 := [.int (v5 &&& (63 : Int32)), .int 5, .ref 194]) (h2 := h27x) (dc2 := 0) (ds2 := 0) 2 rfl ?_
  refine wq_iast rfl e28x rfl rfl ?_
  intro h33x e34x f35x l36x
  have e34x : zat h33x 194 = some (.inl (0, 6, (zset 0 (zset 0 (zset 0 (zset 0 (zset 0 (zset 0 th 0 (((1000000 : Int32) * v0) + ((jout (kn.getD 0 0) (kn.getD 1 0) v2 (v2 + v3) ((v2 + v3) + v4)) * (jcos v1)))) 1 ((jout (kn.getD 0 0) (kn.getD 1 0) v2 (v2 + v3) ((v2 + v3) + v4)) * (jsin v1))) 2 (jhgt (kn.getD 2 0) (kn.getD 0 0) (kn.getD 1 0) v2 (v2 + v3) ((v2 + v3) + v4))) 3 (v1 &&& (63 : Int32))) 4 (((v2 + v3) + v4) &&& (63 : Int32))) 5 (v5 &&& (63 : Int32))))) := e34x
  refine wq_ret rfl rfl ⟨h33x, _, rfl, (wFr_tr (wFr_sub f3x (by simp)) (wFr_tr (wFr_sub f9x (by simp)) (wFr_tr (wFr_sub f18x (by simp)) (wFr_tr (wFr_sub f24x (by simp)) (wFr_tr (wFr_sub f29x (by simp)) (wFr_sub f35x (by simp))))))), by omega, e34x, lt6 ?_ ?_ ?_ ?_ ?_ ?_⟩ <;> (simp only [zset_get]; rfl)
theorem m_meas {h : zH} {dq : List Int32} {v1 v3 : Int32} (hD : zat h 230 = some (.inl (0, 6, dq))) (hd1 : dq.getD 1 0 = v1) (hd3 : dq.getD 3 0 = v3) : zT zg0 zF zP 206 0 [(0, .ref 230), (1, .int 0)] [] h 0 0 (some (.int (jme v1 v3)), h, 0, 0) := by
  apply wq_toT
  refine wq_gos (f := 1) (pc2 := 4) (ls2 := [(0, .ref 230), (1, .int 0)]) (st2 := [.int 1, .ref 230]) (h2 := h) (dc2 := 0) (ds2 := 0) 4 rfl ?_
  refine wq_ialdk (k := 1) rfl hD rfl rfl rfl ?_
  refine wq_vi hd1 ?_
  refine wq_inl (y2 := 196) (as := [.int v1]) rfl rfl rfl (wq_T (m_sin v1 h) ?_)
  show wq 206 8 [(0, .ref 230), (1, .int 0)] [.int (jsin v1)] h 0 0 _
  refine wq_gos (f := 1) (pc2 := 12) (ls2 := [(0, .ref 230), (1, .int 0)]) (st2 := [.int 3, .ref 230, .int (jsin v1)]) (h2 := h) (dc2 := 0) (ds2 := 0) 4 rfl ?_
  refine wq_ialdk (k := 3) rfl hD rfl rfl rfl ?_
  refine wq_vi hd3 ?_
  refine wq_inl (y2 := 196) (as := [.int v3]) rfl rfl rfl (wq_T (m_sin v3 h) ?_)
  show wq 206 16 [(0, .ref 230), (1, .int 0)] [.int (jsin v3), .int (jsin v1)] h 0 0 _
  refine wq_gos (f := 1) (pc2 := 17) (ls2 := [(0, .ref 230), (1, .int 0)]) (st2 := [.int ((jsin v1) * (jsin v3))]) (h2 := h) (dc2 := 0) (ds2 := 0) 1 rfl ?_
  refine wq_inl (y2 := 203) (as := [.int ((jsin v1) * (jsin v3))]) rfl rfl rfl (wq_T (m_abs ((jsin v1) * (jsin v3)) h) ?_)
  show wq 206 20 [(0, .ref 230), (1, .int 0)] [.int (jabs ((jsin v1) * (jsin v3)))] h 0 0 _
  refine wq_gos (f := 1) (pc2 := 24) (ls2 := [(0, .ref 230), (1, .int 0)]) (st2 := [.int ((jabs ((jsin v1) * (jsin v3))) / (1000 : Int32))]) (h2 := h) (dc2 := 0) (ds2 := 0) 2 rfl ?_
  exact wq_ret rfl rfl rfl
set_option maxHeartbeats 4000000 in
theorem m_amongL {h : zH} {fs : List Value} {fo : List Int64} {N : Nat} {x : Int64} (hM : zat h 162 = some (.inr (.inr (.inr (10, fs))))) (hC : mC fs) (h34 : fs[34]? = some (.int (nI N))) (hF : zat h 196 = some (.inr (.inl (6000, fo)))) (hN : N ≤ 600) {j : Nat} (hj : j < N) (hx : fo.getD (5400 + j) 0 = x) : ∀ (m k : Nat), k + m = j → zT zg0 zF zP 279 8 [(0, .ref 162), (1, .ref 230), (2, .long x), (4, .int (nI k))] [] h 0 0 (some (.int 1), h, 0, 0) := by
  intro m
  induction m with
  | zero =>
    intro k hk
    have q1 := nI_toInt (n := k) (by omega)
    have q2 := nI_toInt (n := N) (by omega)
    apply wq_toT
    refine wq_gos (f := 1) (pc2 := 11) (ls2 := [(0, .ref 162), (1, .ref 230), (2, .long x), (4, .int (nI k))]) (st2 := [.ref 162, .int (nI k)]) (h2 := h) (dc2 := 0) (ds2 := 0) 2 rfl ?_
    refine wq_getf rfl hM h34 rfl ?_
    refine wq_ge2f rfl rfl (by omega) ?_
    refine wq_gos (f := 1) (pc2 := 18) (ls2 := [(0, .ref 162), (1, .ref 230), (2, .long x), (4, .int (nI k))]) (st2 := [.ref 162]) (h2 := h) (dc2 := 0) (ds2 := 0) 1 rfl ?_
    refine wq_getf rfl hM (hC.2 (30, 196) (by decide)) rfl ?_
    refine wq_gos (f := 1) (pc2 := 27) (ls2 := [(0, .ref 162), (1, .ref 230), (2, .long x), (4, .int (nI k))]) (st2 := [.int ((5400 : Int32) + (nI k)), .ref 196]) (h2 := h) (dc2 := 0) (ds2 := 0) 3 rfl ?_
    refine wq_vi (show (5400 : Int32) + nI k = nI (5400 + k) from nI_add 5400 k) ?_
    refine wq_laldn rfl hF (by omega) (by decide) rfl ?_
    refine wq_gos (f := 1) (pc2 := 30) (ls2 := [(0, .ref 162), (1, .ref 230), (2, .long x), (4, .int (nI k))]) (st2 := [.int (lg_cmp (fo.getD (5400 + k) 0) x)]) (h2 := h) (dc2 := 0) (ds2 := 0) 2 rfl ?_
    refine wq_ne0f rfl rfl ((lg_cmp_eq _ _).mpr (by rw [show k = j by omega]; exact hx)) ?_
    refine wq_gos (f := 1) (pc2 := 34) (ls2 := [(0, .ref 162), (1, .ref 230), (2, .long x), (4, .int (nI k))]) (st2 := [.int 1]) (h2 := h) (dc2 := 0) (ds2 := 0) 1 rfl ?_
    exact wq_ret rfl rfl rfl
  | succ m ih =>
    intro k hk
    have q1 := nI_toInt (n := k) (by omega)
    have q2 := nI_toInt (n := N) (by omega)
    apply wq_toT
    refine wq_gos (f := 1) (pc2 := 11) (ls2 := [(0, .ref 162), (1, .ref 230), (2, .long x), (4, .int (nI k))]) (st2 := [.ref 162, .int (nI k)]) (h2 := h) (dc2 := 0) (ds2 := 0) 2 rfl ?_
    refine wq_getf rfl hM h34 rfl ?_
    refine wq_ge2f rfl rfl (by omega) ?_
    refine wq_gos (f := 1) (pc2 := 18) (ls2 := [(0, .ref 162), (1, .ref 230), (2, .long x), (4, .int (nI k))]) (st2 := [.ref 162]) (h2 := h) (dc2 := 0) (ds2 := 0) 1 rfl ?_
    refine wq_getf rfl hM (hC.2 (30, 196) (by decide)) rfl ?_
    refine wq_gos (f := 1) (pc2 := 27) (ls2 := [(0, .ref 162), (1, .ref 230), (2, .long x), (4, .int (nI k))]) (st2 := [.int ((5400 : Int32) + (nI k)), .ref 196]) (h2 := h) (dc2 := 0) (ds2 := 0) 3 rfl ?_
    refine wq_vi (show (5400 : Int32) + nI k = nI (5400 + k) from nI_add 5400 k) ?_
    refine wq_laldn rfl hF (by omega) (by decide) rfl ?_
    refine wq_gos (f := 1) (pc2 := 30) (ls2 := [(0, .ref 162), (1, .ref 230), (2, .long x), (4, .int (nI k))]) (st2 := [.int (lg_cmp (fo.getD (5400 + k) 0) x)]) (h2 := h) (dc2 := 0) (ds2 := 0) 2 rfl ?_
    refine wq_ne0 rfl rfl (fun b1x => ?_) (fun b1x => ?_)
    · refine wq_gos (f := 1) (pc2 := 38) (ls2 := [(4, .int ((nI k) + 1)), (0, .ref 162), (1, .ref 230), (2, .long x)]) (st2 := []) (h2 := h) (dc2 := 0) (ds2 := 0) 1 rfl ?_
      rw [nI_1]
      refine wq_gos (f := 1) (pc2 := 8) (ls2 := [(4, .int (nI (k + 1))), (0, .ref 162), (1, .ref 230), (2, .long x)]) (st2 := []) (h2 := h) (dc2 := 0) (ds2 := 0) 1 rfl ?_
      refine wq_ls [(0, .ref 162), (1, .ref 230), (2, .long x), (4, .int (nI (k + 1)))] (show ([0, 1, 2, 4] : List Nat).Nodup by decide) ⟨rfl, rfl, rfl, rfl, trivial⟩ ?_
      exact wq_T (ih (k + 1) (by omega)) rfl
    · refine wq_gos (f := 1) (pc2 := 34) (ls2 := [(0, .ref 162), (1, .ref 230), (2, .long x), (4, .int (nI k))]) (st2 := [.int 1]) (h2 := h) (dc2 := 0) (ds2 := 0) 1 rfl ?_
      exact wq_ret rfl rfl rfl
theorem m_among {h : zH} {fs : List Value} {fo : List Int64} {dq : List Int32} {N : Nat} {v0 v1 v2 v3 v4 v5 : Int32} (hM : zat h 162 = some (.inr (.inr (.inr (10, fs))))) (hC : mC fs) (h34 : fs[34]? = some (.int (nI N))) (hF : zat h 196 = some (.inr (.inl (6000, fo)))) (hD : zat h 230 = some (.inl (0, 6, dq))) (hd0 : dq.getD 0 0 = v0) (hd1 : dq.getD 1 0 = v1) (hd2 : dq.getD 2 0 = v2) (hd3 : dq.getD 3 0 = v3) (hd4 : dq.getD 4 0 = v4) (hd5 : dq.getD 5 0 = v5) (hN : N ≤ 600) {j : Nat} (hj : j < N) (hx : fo.getD (5400 + j) 0 = jpack v0 v1 v2 v3 v4 v5) : zT zg0 zF zP 279 0 [(0, .ref 162), (1, .ref 230)] [] h 0 0 (some (.int 1), h, 0, 0) := by
  have hpk := m_packed hD
  rw [hd0, hd1, hd2, hd3, hd4, hd5] at hpk
  apply wq_toT
  refine wq_gos (f := 1) (pc2 := 1) (ls2 := [(0, .ref 162), (1, .ref 230)]) (st2 := [.ref 230]) (h2 := h) (dc2 := 0) (ds2 := 0) 1 rfl ?_
  refine wq_inl (y2 := 219) (as := [.ref 230]) rfl rfl rfl (wq_T hpk ?_)
  show wq 279 4 [(0, .ref 162), (1, .ref 230)] [.long (jpack v0 v1 v2 v3 v4 v5)] h 0 0 _
  refine wq_gos (f := 1) (pc2 := 8) (ls2 := [(4, .int 0), (2, .long (jpack v0 v1 v2 v3 v4 v5)), (0, .ref 162), (1, .ref 230)]) (st2 := []) (h2 := h) (dc2 := 0) (ds2 := 0) 3 rfl ?_
  refine wq_ls [(0, .ref 162), (1, .ref 230), (2, .long (jpack v0 v1 v2 v3 v4 v5)), (4, .int (nI 0))] (show ([0, 1, 2, 4] : List Nat).Nodup by decide) ⟨rfl, rfl, rfl, rfl, trivial⟩ ?_
  exact wq_T (m_amongL hM hC h34 hF hN hj hx j 0 (by omega)) rfl
set_option maxHeartbeats 8000000 in
theorem m_draw6 {h : zH} {fs : List Value} {kn lo hi : List Int32} {ll lg dq : List Int32} {sd w su : Int32} {N i n dc ds : Nat} {Q : zR → Prop} (hw : wLim lo hi ll lg) (hlm : wLm lo hi) (hn : n < 2147483648) (hM : zat h 162 = some (.inr (.inr (.inr (10, fs))))) (hC : mC fs) (hK : zat h 166 = some (.inl (0, 14, kn))) (hO : zat h 168 = some (.inl (0, 12, lo))) (hG : zat h 170 = some (.inl (0, 12, hi))) (h52 : fs[52]? = some (.int (nI n))) (hD : zat h 230 = some (.inl (0, 6, dq))) (kk : (∀ (h2 : zH) (fs2 : List Value) (dq2 : List Int32), wFr [162, 230] h h2 → h2.length = h.length → zat h2 162 = some (.inr (.inr (.inr (10, fs2)))) → mC fs2 → fs2[52]? = some (.int (nI (jsd n 6))) → zat h2 230 = some (.inl (0, 6, dq2)) → dq2.getD 0 0 = jv ll lg n 0 → dq2.getD 1 0 = jv ll lg n 1 → dq2.getD 2 0 = jv ll lg n 2 → dq2.getD 3 0 = jv ll lg n 3 → dq2.getD 4 0 = jv ll lg n 4 → dq2.getD 5 0 = jv ll lg n 5 → wq 280 115 [(0, .ref 162), (1, .int sd), (2, .int (nI N)), (3, .int w), (4, .int su), (5, .int (nI i))] [] h2 dc ds Q)) : wq 280 63 [(0, .ref 162), (1, .int sd), (2, .int (nI N)), (3, .int w), (4, .int su), (5, .int (nI i))] [] h dc ds Q := by
  refine wq_gos (f := 1) (pc2 := 74) (ls2 := [(6, .int 0), (0, .ref 162), (1, .int sd), (2, .int (nI N)), (3, .int w), (4, .int su), (5, .int (nI i))]) (st2 := [.ref 162]) (h2 := h) (dc2 := dc) (ds2 := ds) 6 rfl ?_
  refine wq_getf rfl hM (hC.2 (53, 230) (by decide)) rfl ?_
  refine wq_gos (f := 1) (pc2 := 80) (ls2 := [(6, .int 0), (0, .ref 162), (1, .int sd), (2, .int (nI N)), (3, .int w), (4, .int su), (5, .int (nI i))]) (st2 := [.ref 162, .int 0, .ref 230]) (h2 := h) (dc2 := dc) (ds2 := ds) 2 rfl ?_
  refine wq_getf rfl hM (hC.2 (4, 168) (by decide)) rfl ?_
  refine wq_gos (f := 1) (pc2 := 85) (ls2 := [(6, .int 0), (0, .ref 162), (1, .int sd), (2, .int (nI N)), (3, .int w), (4, .int su), (5, .int (nI i))]) (st2 := [.int 0, .ref 168, .int 0, .ref 230]) (h2 := h) (dc2 := dc) (ds2 := ds) 1 rfl ?_
  refine wq_ialdk (k := 0) rfl hO rfl rfl rfl ?_
  refine wq_gos (f := 1) (pc2 := 88) (ls2 := [(6, .int 0), (0, .ref 162), (1, .int sd), (2, .int (nI N)), (3, .int w), (4, .int su), (5, .int (nI i))]) (st2 := [.ref 162, .ref 162, .int (lo.getD 0 0), .int 0, .ref 230]) (h2 := h) (dc2 := dc) (ds2 := ds) 2 rfl ?_
  refine wq_getf rfl hM (hC.2 (5, 170) (by decide)) rfl ?_
  refine wq_gos (f := 1) (pc2 := 93) (ls2 := [(6, .int 0), (0, .ref 162), (1, .int sd), (2, .int (nI N)), (3, .int w), (4, .int su), (5, .int (nI i))]) (st2 := [.int 0, .ref 170, .ref 162, .int (lo.getD 0 0), .int 0, .ref 230]) (h2 := h) (dc2 := dc) (ds2 := ds) 1 rfl ?_
  refine wq_ialdk (k := 0) rfl hG rfl rfl rfl ?_
  refine wq_gos (f := 1) (pc2 := 95) (ls2 := [(6, .int 0), (0, .ref 162), (1, .int sd), (2, .int (nI N)), (3, .int w), (4, .int su), (5, .int (nI i))]) (st2 := [.ref 162, .int (hi.getD 0 0), .ref 162, .int (lo.getD 0 0), .int 0, .ref 230]) (h2 := h) (dc2 := dc) (ds2 := ds) 1 rfl ?_
  refine wq_getf rfl hM (hC.2 (4, 168) (by decide)) rfl ?_
  refine wq_gos (f := 1) (pc2 := 100) (ls2 := [(6, .int 0), (0, .ref 162), (1, .int sd), (2, .int (nI N)), (3, .int w), (4, .int su), (5, .int (nI i))]) (st2 := [.int 0, .ref 168, .int (hi.getD 0 0), .ref 162, .int (lo.getD 0 0), .int 0, .ref 230]) (h2 := h) (dc2 := dc) (ds2 := ds) 1 rfl ?_
  refine wq_ialdk (k := 0) rfl hO rfl rfl rfl ?_
  refine wq_gos (f := 1) (pc2 := 104) (ls2 := [(6, .int 0), (0, .ref 162), (1, .int sd), (2, .int (nI N)), (3, .int w), (4, .int su), (5, .int (nI i))]) (st2 := [.int (((hi.getD 0 0) - (lo.getD 0 0)) + (1 : Int32)), .ref 162, .int (lo.getD 0 0), .int 0, .ref 230]) (h2 := h) (dc2 := dc) (ds2 := ds) 3 rfl ?_
  refine wq_vi (of_nI hlm (j := 0) (by decide)).1 ?_
  refine wq_inlv (y2 := 278) (as := [.int (nI (jK lo hi 0))]) rfl rfl rfl hM rfl ?_
  show wq 278 0 [(0, .ref 162), (1, .int (nI (jK lo hi 0)))] [] h 0 0 _
  refine wq_gos (f := 1) (pc2 := 2) (ls2 := [(0, .ref 162), (1, .int (nI (jK lo hi 0)))]) (st2 := [.ref 162, .ref 162]) (h2 := h) (dc2 := 0) (ds2 := 0) 2 rfl ?_
  refine wq_getf rfl hM h52 rfl ?_
  refine wq_gos (f := 1) (pc2 := 17) (ls2 := [(0, .ref 162), (1, .int (nI (jK lo hi 0)))]) (st2 := [.int ((((nI n) * (1103515245 : Int32)) + (12345 : Int32)) &&& (2147483647 : Int32)), .ref 162]) (h2 := h) (dc2 := 0) (ds2 := 0) 6 rfl ?_
  refine wq_vi (i_next _) ?_
  show wq 278 17 [(0, .ref 162), (1, .int (nI (jK lo hi 0)))] [.int (nI (jsd n 1)), .ref 162] h 0 0 _
  refine wq_putf rfl hM rfl (by rw [hC.1]; rfl) rfl ?_
  intro h1x e2x f3x l4x
  obtain ⟨fs5x, hf6x⟩ : ∃ x, x = fs.set 52 (.int (nI (jsd n 1))) := ⟨_, rfl⟩
  rw [← hf6x] at e2x
  have hC7x : mC fs5x := by rw [hf6x]; exact mC_set hC (by decide) _
  have p8x : fs5x[52]? = some (.int (nI (jsd n 1))) := by rw [hf6x]; exact List.getElem?_set_self (by rw [hC.1]; decide)
  refine wq_gos (f := 1) (pc2 := 21) (ls2 := [(0, .ref 162), (1, .int (nI (jK lo hi 0)))]) (st2 := [.ref 162]) (h2 := h1x) (dc2 := 0) (ds2 := 0) 1 rfl ?_
  refine wq_getf rfl e2x p8x rfl ?_
  refine wq_gos (f := 1) (pc2 := 28) (ls2 := [(0, .ref 162), (1, .int (nI (jK lo hi 0)))]) (st2 := [.int (nI (jK lo hi 0)), .int ((nI (jsd n 1)) >>> ((16 : Int32) &&& 31))]) (h2 := h1x) (dc2 := 0) (ds2 := 0) 3 rfl ?_
  refine wq_irem rfl (nIk_ne0 (of_nI hlm (j := 0) (by decide)).2) ?_
  refine wq_vi (i_draw (jsd_lt hn 1) (of_nI hlm (j := 0) (by decide)).2) ?_
  refine wq_ret rfl rfl ?_
  show wq 280 107 [(6, .int 0), (0, .ref 162), (1, .int sd), (2, .int (nI N)), (3, .int w), (4, .int su), (5, .int (nI i))] [.int (nI (jsd n 1 / 65536 % jK lo hi 0)), .int (lo.getD 0 0), .int 0, .ref 230] h1x dc ds _
  refine wq_gos (f := 1) (pc2 := 108) (ls2 := [(6, .int 0), (0, .ref 162), (1, .int sd), (2, .int (nI N)), (3, .int w), (4, .int su), (5, .int (nI i))]) (st2 := [.int ((lo.getD 0 0) + (nI (jsd n 1 / 65536 % jK lo hi 0))), .int 0, .ref 230]) (h2 := h1x) (dc2 := dc) (ds2 := ds) 1 rfl ?_
  refine wq_vi (jv_m hw n (j := 0) (by decide)) ?_
  have e9x := (f3x.2 _ _ (wnc (by decide) wn0) hD)
  refine wq_iast rfl e9x rfl rfl ?_
  intro h10x e11x f12x l13x
  have e11x : zat h10x 230 = some (.inl (0, 6, (zset 0 dq 0 (jv ll lg n 0)))) := e11x
  refine wq_gos (f := 1) (pc2 := 74) (ls2 := [(6, .int 1), (0, .ref 162), (1, .int sd), (2, .int (nI N)), (3, .int w), (4, .int su), (5, .int (nI i))]) (st2 := [.ref 162]) (h2 := h10x) (dc2 := dc) (ds2 := ds) 6 rfl ?_
  have e14x := (f12x.2 _ _ (wnc (by decide) wn0) e2x)
  refine wq_getf rfl e14x (hC7x.2 (53, 230) (by decide)) rfl ?_
  refine wq_gos (f := 1) (pc2 := 80) (ls2 := [(6, .int 1), (0, .ref 162), (1, .int sd), (2, .int (nI N)), (3, .int w), (4, .int su), (5, .int (nI i))]) (st2 := [.ref 162, .int 1, .ref 230]) (h2 := h10x) (dc2 := dc) (ds2 := ds) 2 rfl ?_
  refine wq_getf rfl e14x (hC7x.2 (4, 168) (by decide)) rfl ?_
  refine wq_gos (f := 1) (pc2 := 85) (ls2 := [(6, .int 1), (0, .ref 162), (1, .int sd), (2, .int (nI N)), (3, .int w), (4, .int su), (5, .int (nI i))]) (st2 := [.int 1, .ref 168, .int 1, .ref 230]) (h2 := h10x) (dc2 := dc) (ds2 := ds) 1 rfl ?_
  have e15x := (f12x.2 _ _ (wnc (by decide) wn0) (f3x.2 _ _ (wnc (by decide) wn0) hO))
  refine wq_ialdk (k := 1) rfl e15x rfl rfl rfl ?_
  refine wq_gos (f := 1) (pc2 := 88) (ls2 := [(6, .int 1), (0, .ref 162), (1, .int sd), (2, .int (nI N)), (3, .int w), (4, .int su), (5, .int (nI i))]) (st2 := [.ref 162, .ref 162, .int (lo.getD 1 0), .int 1, .ref 230]) (h2 := h10x) (dc2 := dc) (ds2 := ds) 2 rfl ?_
  refine wq_getf rfl e14x (hC7x.2 (5, 170) (by decide)) rfl ?_
  refine wq_gos (f := 1) (pc2 := 93) (ls2 := [(6, .int 1), (0, .ref 162), (1, .int sd), (2, .int (nI N)), (3, .int w), (4, .int su), (5, .int (nI i))]) (st2 := [.int 1, .ref 170, .ref 162, .int (lo.getD 1 0), .int 1, .ref 230]) (h2 := h10x) (dc2 := dc) (ds2 := ds) 1 rfl ?_
  have e16x := (f12x.2 _ _ (wnc (by decide) wn0) (f3x.2 _ _ (wnc (by decide) wn0) hG))
  refine wq_ialdk (k := 1) rfl e16x rfl rfl rfl ?_
  refine wq_gos (f := 1) (pc2 := 95) (ls2 := [(6, .int 1), (0, .ref 162), (1, .int sd), (2, .int (nI N)), (3, .int w), (4, .int su), (5, .int (nI i))]) (st2 := [.ref 162, .int (hi.getD 1 0), .ref 162, .int (lo.getD 1 0), .int 1, .ref 230]) (h2 := h10x) (dc2 := dc) (ds2 := ds) 1 rfl ?_
  refine wq_getf rfl e14x (hC7x.2 (4, 168) (by decide)) rfl ?_
  refine wq_gos (f := 1) (pc2 := 100) (ls2 := [(6, .int 1), (0, .ref 162), (1, .int sd), (2, .int (nI N)), (3, .int w), (4, .int su), (5, .int (nI i))]) (st2 := [.int 1, .ref 168, .int (hi.getD 1 0), .ref 162, .int (lo.getD 1 0), .int 1, .ref 230]) (h2 := h10x) (dc2 := dc) (ds2 := ds) 1 rfl ?_
  refine wq_ialdk (k := 1) rfl e15x rfl rfl rfl ?_
  refine wq_gos (f := 1) (pc2 := 104) (ls2 := [(6, .int 1), (0, .ref 162), (1, .int sd), (2, .int (nI N)), (3, .int w), (4, .int su), (5, .int (nI i))]) (st2 := [.int (((hi.getD 1 0) - (lo.getD 1 0)) + (1 : Int32)), .ref 162, .int (lo.getD 1 0), .int 1, .ref 230]) (h2 := h10x) (dc2 := dc) (ds2 := ds) 3 rfl ?_
  refine wq_vi (of_nI hlm (j := 1) (by decide)).1 ?_
  refine wq_inlv (y2 := 278) (as := [.int (nI (jK lo hi 1))]) rfl rfl rfl e14x rfl ?_
  show wq 278 0 [(0, .ref 162), (1, .int (nI (jK lo hi 1)))] [] h10x 0 0 _
  refine wq_gos (f := 1) (pc2 := 2) (ls2 := [(0, .ref 162), (1, .int (nI (jK lo hi 1)))]) (st2 := [.ref 162, .ref 162]) (h2 := h10x) (dc2 := 0) (ds2 := 0) 2 rfl ?_
  refine wq_getf rfl e14x p8x rfl ?_
  refine wq_gos (f := 1) (pc2 := 17) (ls2 := [(0, .ref 162), (1, .int (nI (jK lo hi 1)))]) (st2 := [.int ((((nI (jsd n 1)) * (1103515245 : Int32)) + (12345 : Int32)) &&& (2147483647 : Int32)), .ref 162]) (h2 := h10x) (dc2 := 0) (ds2 := 0) 6 rfl ?_
  refine wq_vi (i_next _) ?_
  show wq 278 17 [(0, .ref 162), (1, .int (nI (jK lo hi 1)))] [.int (nI (jsd n 2)), .ref 162] h10x 0 0 _
  refine wq_putf rfl e14x rfl (by rw [hC7x.1]; rfl) rfl ?_
  intro h17x e18x f19x l20x
  obtain ⟨fs21x, hf22x⟩ : ∃ x, x = fs5x.set 52 (.int (nI (jsd n 2))) := ⟨_, rfl⟩
  rw [← hf22x] at e18x
  have hC23x : mC fs21x := by rw [hf22x]; exact mC_set hC7x (by decide) _
  have p24x : fs21x[52]? = some (.int (nI (jsd n 2))) := by rw [hf22x]; exact List.getElem?_set_self (by rw [hC7x.1]; decide)
  refine wq_gos (f := 1) (pc2 := 21) (ls2 := [(0, .ref 162), (1, .int (nI (jK lo hi 1)))]) (st2 := [.ref 162]) (h2 := h17x) (dc2 := 0) (ds2 := 0) 1 rfl ?_
  refine wq_getf rfl e18x p24x rfl ?_
  refine wq_gos (f := 1) (pc2 := 28) (ls2 := [(0, .ref 162), (1, .int (nI (jK lo hi 1)))]) (st2 := [.int (nI (jK lo hi 1)), .int ((nI (jsd n 2)) >>> ((16 : Int32) &&& 31))]) (h2 := h17x) (dc2 := 0) (ds2 := 0) 3 rfl ?_
  refine wq_irem rfl (nIk_ne0 (of_nI hlm (j := 1) (by decide)).2) ?_
  refine wq_vi (i_draw (jsd_lt hn 2) (of_nI hlm (j := 1) (by decide)).2) ?_
  refine wq_ret rfl rfl ?_
  show wq 280 107 [(6, .int 1), (0, .ref 162), (1, .int sd), (2, .int (nI N)), (3, .int w), (4, .int su), (5, .int (nI i))] [.int (nI (jsd n 2 / 65536 % jK lo hi 1)), .int (lo.getD 1 0), .int 1, .ref 230] h17x dc ds _
  refine wq_gos (f := 1) (pc2 := 108) (ls2 := [(6, .int 1), (0, .ref 162), (1, .int sd), (2, .int (nI N)), (3, .int w), (4, .int su), (5, .int (nI i))]) (st2 := [.int ((lo.getD 1 0) + (nI (jsd n 2 / 65536 % jK lo hi 1))), .int 1, .ref 230]) (h2 := h17x) (dc2 := dc) (ds2 := ds) 1 rfl ?_
  refine wq_vi (jv_m hw n (j := 1) (by decide)) ?_
  have e25x := (f19x.2 _ _ (wnc (by decide) wn0) e11x)
  refine wq_iast rfl e25x rfl rfl ?_
  intro h26x e27x f28x l29x
  have e27x : zat h26x 230 = some (.inl (0, 6, (zset 0 (zset 0 dq 0 (jv ll lg n 0)) 1 (jv ll lg n 1)))) := e27x
  refine wq_gos (f := 1) (pc2 := 74) (ls2 := [(6, .int 2), (0, .ref 162), (1, .int sd), (2, .int (nI N)), (3, .int w), (4, .int su), (5, .int (nI i))]) (st2 := [.ref 162]) (h2 := h26x) (dc2 := dc) (ds2 := ds) 6 rfl ?_
  have e30x := (f28x.2 _ _ (wnc (by decide) wn0) e18x)
  refine wq_getf rfl e30x (hC23x.2 (53, 230) (by decide)) rfl ?_
  refine wq_gos (f := 1) (pc2 := 80) (ls2 := [(6, .int 2), (0, .ref 162), (1, .int sd), (2, .int (nI N)), (3, .int w), (4, .int su), (5, .int (nI i))]) (st2 := [.ref 162, .int 2, .ref 230]) (h2 := h26x) (dc2 := dc) (ds2 := ds) 2 rfl ?_
  refine wq_getf rfl e30x (hC23x.2 (4, 168) (by decide)) rfl ?_
  refine wq_gos (f := 1) (pc2 := 85) (ls2 := [(6, .int 2), (0, .ref 162), (1, .int sd), (2, .int (nI N)), (3, .int w), (4, .int su), (5, .int (nI i))]) (st2 := [.int 2, .ref 168, .int 2, .ref 230]) (h2 := h26x) (dc2 := dc) (ds2 := ds) 1 rfl ?_
  have e31x := (f28x.2 _ _ (wnc (by decide) wn0) (f19x.2 _ _ (wnc (by decide) wn0) e15x))
  refine wq_ialdk (k := 2) rfl e31x rfl rfl rfl ?_
  refine wq_gos (f := 1) (pc2 := 88) (ls2 := [(6, .int 2), (0, .ref 162), (1, .int sd), (2, .int (nI N)), (3, .int w), (4, .int su), (5, .int (nI i))]) (st2 := [.ref 162, .ref 162, .int (lo.getD 2 0), .int 2, .ref 230]) (h2 := h26x) (dc2 := dc) (ds2 := ds) 2 rfl ?_
  refine wq_getf rfl e30x (hC23x.2 (5, 170) (by decide)) rfl ?_
  refine wq_gos (f := 1) (pc2 := 93) (ls2 := [(6, .int 2), (0, .ref 162), (1, .int sd), (2, .int (nI N)), (3, .int w), (4, .int su), (5, .int (nI i))]) (st2 := [.int 2, .ref 170, .ref 162, .int (lo.getD 2 0), .int 2, .ref 230]) (h2 := h26x) (dc2 := dc) (ds2 := ds) 1 rfl ?_
  have e32x := (f28x.2 _ _ (wnc (by decide) wn0) (f19x.2 _ _ (wnc (by decide) wn0) e16x))
  refine wq_ialdk (k := 2) rfl e32x rfl rfl rfl ?_
  refine wq_gos (f := 1) (pc2 := 95) (ls2 := [(6, .int 2), (0, .ref 162), (1, .int sd), (2, .int (nI N)), (3, .int w), (4, .int su), (5, .int (nI i))]) (st2 := [.ref 162, .int (hi.getD 2 0), .ref 162, .int (lo.getD 2 0), .int 2, .ref 230]) (h2 := h26x) (dc2 := dc) (ds2 := ds) 1 rfl ?_
  refine wq_getf rfl e30x (hC23x.2 (4, 168) (by decide)) rfl ?_
  refine wq_gos (f := 1) (pc2 := 100) (ls2 := [(6, .int 2), (0, .ref 162), (1, .int sd), (2, .int (nI N)), (3, .int w), (4, .int su), (5, .int (nI i))]) (st2 := [.int 2, .ref 168, .int (hi.getD 2 0), .ref 162, .int (lo.getD 2 0), .int 2, .ref 230]) (h2 := h26x) (dc2 := dc) (ds2 := ds) 1 rfl ?_
  refine wq_ialdk (k := 2) rfl e31x rfl rfl rfl ?_
  refine wq_gos (f := 1) (pc2 := 104) (ls2 := [(6, .int 2), (0, .ref 162), (1, .int sd), (2, .int (nI N)), (3, .int w), (4, .int su), (5, .int (nI i))]) (st2 := [.int (((hi.getD 2 0) - (lo.getD 2 0)) + (1 : Int32)), .ref 162, .int (lo.getD 2 0), .int 2, .ref 230]) (h2 := h26x) (dc2 := dc) (ds2 := ds) 3 rfl ?_
  refine wq_vi (of_nI hlm (j := 2) (by decide)).1 ?_
  refine wq_inlv (y2 := 278) (as := [.int (nI (jK lo hi 2))]) rfl rfl rfl e30x rfl ?_
  show wq 278 0 [(0, .ref 162), (1, .int (nI (jK lo hi 2)))] [] h26x 0 0 _
  refine wq_gos (f := 1) (pc2 := 2) (ls2 := [(0, .ref 162), (1, .int (nI (jK lo hi 2)))]) (st2 := [.ref 162, .ref 162]) (h2 := h26x) (dc2 := 0) (ds2 := 0) 2 rfl ?_
  refine wq_getf rfl e30x p24x rfl ?_
  refine wq_gos (f := 1) (pc2 := 17) (ls2 := [(0, .ref 162), (1, .int (nI (jK lo hi 2)))]) (st2 := [.int ((((nI (jsd n 2)) * (1103515245 : Int32)) + (12345 : Int32)) &&& (2147483647 : Int32)), .ref 162]) (h2 := h26x) (dc2 := 0) (ds2 := 0) 6 rfl ?_
  refine wq_vi (i_next _) ?_
  show wq 278 17 [(0, .ref 162), (1, .int (nI (jK lo hi 2)))] [.int (nI (jsd n 3)), .ref 162] h26x 0 0 _
  refine wq_putf rfl e30x rfl (by rw [hC23x.1]; rfl) rfl ?_
  intro h33x e34x f35x l36x
  obtain ⟨fs37x, hf38x⟩ : ∃ x, x = fs21x.set 52 (.int (nI (jsd n 3))) := ⟨_, rfl⟩
  rw [← hf38x] at e34x
  have hC39x : mC fs37x := by rw [hf38x]; exact mC_set hC23x (by decide) _
  have p40x : fs37x[52]? = some (.int (nI (jsd n 3))) := by rw [hf38x]; exact List.getElem?_set_self (by rw [hC23x.1]; decide)
  refine wq_gos (f := 1) (pc2 := 21) (ls2 := [(0, .ref 162), (1, .int (nI (jK lo hi 2)))]) (st2 := [.ref 162]) (h2 := h33x) (dc2 := 0) (ds2 := 0) 1 rfl ?_
  refine wq_getf rfl e34x p40x rfl ?_
  refine wq_gos (f := 1) (pc2 := 28) (ls2 := [(0, .ref 162), (1, .int (nI (jK lo hi 2)))]) (st2 := [.int (nI (jK lo hi 2)), .int ((nI (jsd n 3)) >>> ((16 : Int32) &&& 31))]) (h2 := h33x) (dc2 := 0) (ds2 := 0) 3 rfl ?_
  refine wq_irem rfl (nIk_ne0 (of_nI hlm (j := 2) (by decide)).2) ?_
  refine wq_vi (i_draw (jsd_lt hn 3) (of_nI hlm (j := 2) (by decide)).2) ?_
  refine wq_ret rfl rfl ?_
  show wq 280 107 [(6, .int 2), (0, .ref 162), (1, .int sd), (2, .int (nI N)), (3, .int w), (4, .int su), (5, .int (nI i))] [.int (nI (jsd n 3 / 65536 % jK lo hi 2)), .int (lo.getD 2 0), .int 2, .ref 230] h33x dc ds _
  refine wq_gos (f := 1) (pc2 := 108) (ls2 := [(6, .int 2), (0, .ref 162), (1, .int sd), (2, .int (nI N)), (3, .int w), (4, .int su), (5, .int (nI i))]) (st2 := [.int ((lo.getD 2 0) + (nI (jsd n 3 / 65536 % jK lo hi 2))), .int 2, .ref 230]) (h2 := h33x) (dc2 := dc) (ds2 := ds) 1 rfl ?_
  refine wq_vi (jv_m hw n (j := 2) (by decide)) ?_
  have e41x := (f35x.2 _ _ (wnc (by decide) wn0) e27x)
  refine wq_iast rfl e41x rfl rfl ?_
  intro h42x e43x f44x l45x
  have e43x : zat h42x 230 = some (.inl (0, 6, (zset 0 (zset 0 (zset 0 dq 0 (jv ll lg n 0)) 1 (jv ll lg n 1)) 2 (jv ll lg n 2)))) := e43x
  refine wq_gos (f := 1) (pc2 := 74) (ls2 := [(6, .int 3), (0, .ref 162), (1, .int sd), (2, .int (nI N)), (3, .int w), (4, .int su), (5, .int (nI i))]) (st2 := [.ref 162]) (h2 := h42x) (dc2 := dc) (ds2 := ds) 6 rfl ?_
  have e46x := (f44x.2 _ _ (wnc (by decide) wn0) e34x)
  refine wq_getf rfl e46x (hC39x.2 (53, 230) (by decide)) rfl ?_
  refine wq_gos (f := 1) (pc2 := 80) (ls2 := [(6, .int 3), (0, .ref 162), (1, .int sd), (2, .int (nI N)), (3, .int w), (4, .int su), (5, .int (nI i))]) (st2 := [.ref 162, .int 3, .ref 230]) (h2 := h42x) (dc2 := dc) (ds2 := ds) 2 rfl ?_
  refine wq_getf rfl e46x (hC39x.2 (4, 168) (by decide)) rfl ?_
  refine wq_gos (f := 1) (pc2 := 85) (ls2 := [(6, .int 3), (0, .ref 162), (1, .int sd), (2, .int (nI N)), (3, .int w), (4, .int su), (5, .int (nI i))]) (st2 := [.int 3, .ref 168, .int 3, .ref 230]) (h2 := h42x) (dc2 := dc) (ds2 := ds) 1 rfl ?_
  have e47x := (f44x.2 _ _ (wnc (by decide) wn0) (f35x.2 _ _ (wnc (by decide) wn0) e31x))
  refine wq_ialdk (k := 3) rfl e47x rfl rfl rfl ?_
  refine wq_gos (f := 1) (pc2 := 88) (ls2 := [(6, .int 3), (0, .ref 162), (1, .int sd), (2, .int (nI N)), (3, .int w), (4, .int su), (5, .int (nI i))]) (st2 := [.ref 162, .ref 162, .int (lo.getD 3 0), .int 3, .ref 230]) (h2 := h42x) (dc2 := dc) (ds2 := ds) 2 rfl ?_
  refine wq_getf rfl e46x (hC39x.2 (5, 170) (by decide)) rfl ?_
  refine wq_gos (f := 1) (pc2 := 93) (ls2 := [(6, .int 3), (0, .ref 162), (1, .int sd), (2, .int (nI N)), (3, .int w), (4, .int su), (5, .int (nI i))]) (st2 := [.int 3, .ref 170, .ref 162, .int (lo.getD 3 0), .int 3, .ref 230]) (h2 := h42x) (dc2 := dc) (ds2 := ds) 1 rfl ?_
  have e48x := (f44x.2 _ _ (wnc (by decide) wn0) (f35x.2 _ _ (wnc (by decide) wn0) e32x))
  refine wq_ialdk (k := 3) rfl e48x rfl rfl rfl ?_
  refine wq_gos (f := 1) (pc2 := 95) (ls2 := [(6, .int 3), (0, .ref 162), (1, .int sd), (2, .int (nI N)), (3, .int w), (4, .int su), (5, .int (nI i))]) (st2 := [.ref 162, .int (hi.getD 3 0), .ref 162, .int (lo.getD 3 0), .int 3, .ref 230]) (h2 := h42x) (dc2 := dc) (ds2 := ds) 1 rfl ?_
  refine wq_getf rfl e46x (hC39x.2 (4, 168) (by decide)) rfl ?_
  refine wq_gos (f := 1) (pc2 := 100) (ls2 := [(6, .int 3), (0, .ref 162), (1, .int sd), (2, .int (nI N)), (3, .int w), (4, .int su), (5, .int (nI i))]) (st2 := [.int 3, .ref 168, .int (hi.getD 3 0), .ref 162, .int (lo.getD 3 0), .int 3, .ref 230]) (h2 := h42x) (dc2 := dc) (ds2 := ds) 1 rfl ?_
  refine wq_ialdk (k := 3) rfl e47x rfl rfl rfl ?_
  refine wq_gos (f := 1) (pc2 := 104) (ls2 := [(6, .int 3), (0, .ref 162), (1, .int sd), (2, .int (nI N)), (3, .int w), (4, .int su), (5, .int (nI i))]) (st2 := [.int (((hi.getD 3 0) - (lo.getD 3 0)) + (1 : Int32)), .ref 162, .int (lo.getD 3 0), .int 3, .ref 230]) (h2 := h42x) (dc2 := dc) (ds2 := ds) 3 rfl ?_
  refine wq_vi (of_nI hlm (j := 3) (by decide)).1 ?_
  refine wq_inlv (y2 := 278) (as := [.int (nI (jK lo hi 3))]) rfl rfl rfl e46x rfl ?_
  show wq 278 0 [(0, .ref 162), (1, .int (nI (jK lo hi 3)))] [] h42x 0 0 _
  refine wq_gos (f := 1) (pc2 := 2) (ls2 := [(0, .ref 162), (1, .int (nI (jK lo hi 3)))]) (st2 := [.ref 162, .ref 162]) (h2 := h42x) (dc2 := 0) (ds2 := 0) 2 rfl ?_
  refine wq_getf rfl e46x p40x rfl ?_
  refine wq_gos (f := 1) (pc2 := 17) (ls2 := [(0, .ref 162), (1, .int (nI (jK lo hi 3)))]) (st2 := [.int ((((nI (jsd n 3)) * (1103515245 : Int32)) + (12345 : Int32)) &&& (2147483647 : Int32)), .ref 162]) (h2 := h42x) (dc2 := 0) (ds2 := 0) 6 rfl ?_
  refine wq_vi (i_next _) ?_
  show wq 278 17 [(0, .ref 162), (1, .int (nI (jK lo hi 3)))] [.int (nI (jsd n 4)), .ref 162] h42x 0 0 _
  refine wq_putf rfl e46x rfl (by rw [hC39x.1]; rfl) rfl ?_
  intro h49x e50x f51x l52x
  obtain ⟨fs53x, hf54x⟩ : ∃ x, x = fs37x.set 52 (.int (nI (jsd n 4))) := ⟨_, rfl⟩
  rw [← hf54x] at e50x
  have hC55x : mC fs53x := by rw [hf54x]; exact mC_set hC39x (by decide) _
  have p56x : fs53x[52]? = some (.int (nI (jsd n 4))) := by rw [hf54x]; exact List.getElem?_set_self (by rw [hC39x.1]; decide)
  refine wq_gos (f := 1) (pc2 := 21) (ls2 := [(0, .ref 162), (1, .int (nI (jK lo hi 3)))]) (st2 := [.ref 162]) (h2 := h49x) (dc2 := 0) (ds2 := 0) 1 rfl ?_
  refine wq_getf rfl e50x p56x rfl ?_
  refine wq_gos (f := 1) (pc2 := 28) (ls2 := [(0, .ref 162), (1, .int (nI (jK lo hi 3)))]) (st2 := [.int (nI (jK lo hi 3)), .int ((nI (jsd n 4)) >>> ((16 : Int32) &&& 31))]) (h2 := h49x) (dc2 := 0) (ds2 := 0) 3 rfl ?_
  refine wq_irem rfl (nIk_ne0 (of_nI hlm (j := 3) (by decide)).2) ?_
  refine wq_vi (i_draw (jsd_lt hn 4) (of_nI hlm (j := 3) (by decide)).2) ?_
  refine wq_ret rfl rfl ?_
  show wq 280 107 [(6, .int 3), (0, .ref 162), (1, .int sd), (2, .int (nI N)), (3, .int w), (4, .int su), (5, .int (nI i))] [.int (nI (jsd n 4 / 65536 % jK lo hi 3)), .int (lo.getD 3 0), .int 3, .ref 230] h49x dc ds _
  refine wq_gos (f := 1) (pc2 := 108) (ls2 := [(6, .int 3), (0, .ref 162), (1, .int sd), (2, .int (nI N)), (3, .int w), (4, .int su), (5, .int (nI i))]) (st2 := [.int ((lo.getD 3 0) + (nI (jsd n 4 / 65536 % jK lo hi 3))), .int 3, .ref 230]) (h2 := h49x) (dc2 := dc) (ds2 := ds) 1 rfl ?_
  refine wq_vi (jv_m hw n (j := 3) (by decide)) ?_
  have e57x := (f51x.2 _ _ (wnc (by decide) wn0) e43x)
  refine wq_iast rfl e57x rfl rfl ?_
  intro h58x e59x f60x l61x
  have e59x : zat h58x 230 = some (.inl (0, 6, (zset 0 (zset 0 (zset 0 (zset 0 dq 0 (jv ll lg n 0)) 1 (jv ll lg n 1)) 2 (jv ll lg n 2)) 3 (jv ll lg n 3)))) := e59x
  refine wq_gos (f := 1) (pc2 := 74) (ls2 := [(6, .int 4), (0, .ref 162), (1, .int sd), (2, .int (nI N)), (3, .int w), (4, .int su), (5, .int (nI i))]) (st2 := [.ref 162]) (h2 := h58x) (dc2 := dc) (ds2 := ds) 6 rfl ?_
  have e62x := (f60x.2 _ _ (wnc (by decide) wn0) e50x)
  refine wq_getf rfl e62x (hC55x.2 (53, 230) (by decide)) rfl ?_
  refine wq_gos (f := 1) (pc2 := 80) (ls2 := [(6, .int 4), (0, .ref 162), (1, .int sd), (2, .int (nI N)), (3, .int w), (4, .int su), (5, .int (nI i))]) (st2 := [.ref 162, .int 4, .ref 230]) (h2 := h58x) (dc2 := dc) (ds2 := ds) 2 rfl ?_
  refine wq_getf rfl e62x (hC55x.2 (4, 168) (by decide)) rfl ?_
  refine wq_gos (f := 1) (pc2 := 85) (ls2 := [(6, .int 4), (0, .ref 162), (1, .int sd), (2, .int (nI N)), (3, .int w), (4, .int su), (5, .int (nI i))]) (st2 := [.int 4, .ref 168, .int 4, .ref 230]) (h2 := h58x) (dc2 := dc) (ds2 := ds) 1 rfl ?_
  have e63x := (f60x.2 _ _ (wnc (by decide) wn0) (f51x.2 _ _ (wnc (by decide) wn0) e47x))
  refine wq_ialdk (k := 4) rfl e63x rfl rfl rfl ?_
  refine wq_gos (f := 1) (pc2 := 88) (ls2 := [(6, .int 4), (0, .ref 162), (1, .int sd), (2, .int (nI N)), (3, .int w), (4, .int su), (5, .int (nI i))]) (st2 := [.ref 162, .ref 162, .int (lo.getD 4 0), .int 4, .ref 230]) (h2 := h58x) (dc2 := dc) (ds2 := ds) 2 rfl ?_
  refine wq_getf rfl e62x (hC55x.2 (5, 170) (by decide)) rfl ?_
  refine wq_gos (f := 1) (pc2 := 93) (ls2 := [(6, .int 4), (0, .ref 162), (1, .int sd), (2, .int (nI N)), (3, .int w), (4, .int su), (5, .int (nI i))]) (st2 := [.int 4, .ref 170, .ref 162, .int (lo.getD 4 0), .int 4, .ref 230]) (h2 := h58x) (dc2 := dc) (ds2 := ds) 1 rfl ?_
  have e64x := (f60x.2 _ _ (wnc (by decide) wn0) (f51x.2 _ _ (wnc (by decide) wn0) e48x))
  refine wq_ialdk (k := 4) rfl e64x rfl rfl rfl ?_
  refine wq_gos (f := 1) (pc2 := 95) (ls2 := [(6, .int 4), (0, .ref 162), (1, .int sd), (2, .int (nI N)), (3, .int w), (4, .int su), (5, .int (nI i))]) (st2 := [.ref 162, .int (hi.getD 4 0), .ref 162, .int (lo.getD 4 0), .int 4, .ref 230]) (h2 := h58x) (dc2 := dc) (ds2 := ds) 1 rfl ?_
  refine wq_getf rfl e62x (hC55x.2 (4, 168) (by decide)) rfl ?_
  refine wq_gos (f := 1) (pc2 := 100) (ls2 := [(6, .int 4), (0, .ref 162), (1, .int sd), (2, .int (nI N)), (3, .int w), (4, .int su), (5, .int (nI i))]) (st2 := [.int 4, .ref 168, .int (hi.getD 4 0), .ref 162, .int (lo.getD 4 0), .int 4, .ref 230]) (h2 := h58x) (dc2 := dc) (ds2 := ds) 1 rfl ?_
  refine wq_ialdk (k := 4) rfl e63x rfl rfl rfl ?_
  refine wq_gos (f := 1) (pc2 := 104) (ls2 := [(6, .int 4), (0, .ref 162), (1, .int sd), (2, .int (nI N)), (3, .int w), (4, .int su), (5, .int (nI i))]) (st2 := [.int (((hi.getD 4 0) - (lo.getD 4 0)) + (1 : Int32)), .ref 162, .int (lo.getD 4 0), .int 4, .ref 230]) (h2 := h58x) (dc2 := dc) (ds2 := ds) 3 rfl ?_
  refine wq_vi (of_nI hlm (j := 4) (by decide)).1 ?_
  refine wq_inlv (y2 := 278) (as := [.int (nI (jK lo hi 4))]) rfl rfl rfl e62x rfl ?_
  show wq 278 0 [(0, .ref 162), (1, .int (nI (jK lo hi 4)))] [] h58x 0 0 _
  refine wq_gos (f := 1) (pc2 := 2) (ls2 := [(0, .ref 162), (1, .int (nI (jK lo hi 4)))]) (st2 := [.ref 162, .ref 162]) (h2 := h58x) (dc2 := 0) (ds2 := 0) 2 rfl ?_
  refine wq_getf rfl e62x p56x rfl ?_
  refine wq_gos (f := 1) (pc2 := 17) (ls2 := [(0, .ref 162), (1, .int (nI (jK lo hi 4)))]) (st2 := [.int ((((nI (jsd n 4)) * (1103515245 : Int32)) + (12345 : Int32)) &&& (2147483647 : Int32)), .ref 162]) (h2 := h58x) (dc2 := 0) (ds2 := 0) 6 rfl ?_
  refine wq_vi (i_next _) ?_
  show wq 278 17 [(0, .ref 162), (1, .int (nI (jK lo hi 4)))] [.int (nI (jsd n 5)), .ref 162] h58x 0 0 _
  refine wq_putf rfl e62x rfl (by rw [hC55x.1]; rfl) rfl ?_
  intro h65x e66x f67x l68x
  obtain ⟨fs69x, hf70x⟩ : ∃ x, x = fs53x.set 52 (.int (nI (jsd n 5))) := ⟨_, rfl⟩
  rw [← hf70x] at e66x
  have hC71x : mC fs69x := by rw [hf70x]; exact mC_set hC55x (by decide) _
  have p72x : fs69x[52]? = some (.int (nI (jsd n 5))) := by rw [hf70x]; exact List.getElem?_set_self (by rw [hC55x.1]; decide)
  refine wq_gos (f := 1) (pc2 := 21) (ls2 := [(0, .ref 162), (1, .int (nI (jK lo hi 4)))]) (st2 := [.ref 162]) (h2 := h65x) (dc2 := 0) (ds2 := 0) 1 rfl ?_
  refine wq_getf rfl e66x p72x rfl ?_
  refine wq_gos (f := 1) (pc2 := 28) (ls2 := [(0, .ref 162), (1, .int (nI (jK lo hi 4)))]) (st2 := [.int (nI (jK lo hi 4)), .int ((nI (jsd n 5)) >>> ((16 : Int32) &&& 31))]) (h2 := h65x) (dc2 := 0) (ds2 := 0) 3 rfl ?_
  refine wq_irem rfl (nIk_ne0 (of_nI hlm (j := 4) (by decide)).2) ?_
  refine wq_vi (i_draw (jsd_lt hn 5) (of_nI hlm (j := 4) (by decide)).2) ?_
  refine wq_ret rfl rfl ?_
  show wq 280 107 [(6, .int 4), (0, .ref 162), (1, .int sd), (2, .int (nI N)), (3, .int w), (4, .int su), (5, .int (nI i))] [.int (nI (jsd n 5 / 65536 % jK lo hi 4)), .int (lo.getD 4 0), .int 4, .ref 230] h65x dc ds _
  refine wq_gos (f := 1) (pc2 := 108) (ls2 := [(6, .int 4), (0, .ref 162), (1, .int sd), (2, .int (nI N)), (3, .int w), (4, .int su), (5, .int (nI i))]) (st2 := [.int ((lo.getD 4 0) + (nI (jsd n 5 / 65536 % jK lo hi 4))), .int 4, .ref 230]) (h2 := h65x) (dc2 := dc) (ds2 := ds) 1 rfl ?_
  refine wq_vi (jv_m hw n (j := 4) (by decide)) ?_
  have e73x := (f67x.2 _ _ (wnc (by decide) wn0) e59x)
  refine wq_iast rfl e73x rfl rfl ?_
  intro h74x e75x f76x l77x
  have e75x : zat h74x 230 = some (.inl (0, 6, (zset 0 (zset 0 (zset 0 (zset 0 (zset 0 dq 0 (jv ll lg n 0)) 1 (jv ll lg n 1)) 2 (jv ll lg n 2)) 3 (jv ll lg n 3)) 4 (jv ll lg n 4)))) := e75x
  refine wq_gos (f := 1) (pc2 := 74) (ls2 := [(6, .int 5), (0, .ref 162), (1, .int sd), (2, .int (nI N)), (3, .int w), (4, .int su), (5, .int (nI i))]) (st2 := [.ref 162]) (h2 := h74x) (dc2 := dc) (ds2 := ds) 6 rfl ?_
  have e78x := (f76x.2 _ _ (wnc (by decide) wn0) e66x)
  refine wq_getf rfl e78x (hC71x.2 (53, 230) (by decide)) rfl ?_
  refine wq_gos (f := 1) (pc2 := 80) (ls2 := [(6, .int 5), (0, .ref 162), (1, .int sd), (2, .int (nI N)), (3, .int w), (4, .int su), (5, .int (nI i))]) (st2 := [.ref 162, .int 5, .ref 230]) (h2 := h74x) (dc2 := dc) (ds2 := ds) 2 rfl ?_
  refine wq_getf rfl e78x (hC71x.2 (4, 168) (by decide)) rfl ?_
  refine wq_gos (f := 1) (pc2 := 85) (ls2 := [(6, .int 5), (0, .ref 162), (1, .int sd), (2, .int (nI N)), (3, .int w), (4, .int su), (5, .int (nI i))]) (st2 := [.int 5, .ref 168, .int 5, .ref 230]) (h2 := h74x) (dc2 := dc) (ds2 := ds) 1 rfl ?_
  have e79x := (f76x.2 _ _ (wnc (by decide) wn0) (f67x.2 _ _ (wnc (by decide) wn0) e63x))
  refine wq_ialdk (k := 5) rfl e79x rfl rfl rfl ?_
  refine wq_gos (f := 1) (pc2 := 88) (ls2 := [(6, .int 5), (0, .ref 162), (1, .int sd), (2, .int (nI N)), (3, .int w), (4, .int su), (5, .int (nI i))]) (st2 := [.ref 162, .ref 162, .int (lo.getD 5 0), .int 5, .ref 230]) (h2 := h74x) (dc2 := dc) (ds2 := ds) 2 rfl ?_
  refine wq_getf rfl e78x (hC71x.2 (5, 170) (by decide)) rfl ?_
  refine wq_gos (f := 1) (pc2 := 93) (ls2 := [(6, .int 5), (0, .ref 162), (1, .int sd), (2, .int (nI N)), (3, .int w), (4, .int su), (5, .int (nI i))]) (st2 := [.int 5, .ref 170, .ref 162, .int (lo.getD 5 0), .int 5, .ref 230]) (h2 := h74x) (dc2 := dc) (ds2 := ds) 1 rfl ?_
  have e80x := (f76x.2 _ _ (wnc (by decide) wn0) (f67x.2 _ _ (wnc (by decide) wn0) e64x))
  refine wq_ialdk (k := 5) rfl e80x rfl rfl rfl ?_
  refine wq_gos (f := 1) (pc2 := 95) (ls2 := [(6, .int 5), (0, .ref 162), (1, .int sd), (2, .int (nI N)), (3, .int w), (4, .int su), (5, .int (nI i))]) (st2 := [.ref 162, .int (hi.getD 5 0), .ref 162, .int (lo.getD 5 0), .int 5, .ref 230]) (h2 := h74x) (dc2 := dc) (ds2 := ds) 1 rfl ?_
  refine wq_getf rfl e78x (hC71x.2 (4, 168) (by decide)) rfl ?_
  refine wq_gos (f := 1) (pc2 := 100) (ls2 := [(6, .int 5), (0, .ref 162), (1, .int sd), (2, .int (nI N)), (3, .int w), (4, .int su), (5, .int (nI i))]) (st2 := [.int 5, .ref 168, .int (hi.getD 5 0), .ref 162, .int (lo.getD 5 0), .int 5, .ref 230]) (h2 := h74x) (dc2 := dc) (ds2 := ds) 1 rfl ?_
  refine wq_ialdk (k := 5) rfl e79x rfl rfl rfl ?_
  refine wq_gos (f := 1) (pc2 := 104) (ls2 := [(6, .int 5), (0, .ref 162), (1, .int sd), (2, .int (nI N)), (3, .int w), (4, .int su), (5, .int (nI i))]) (st2 := [.int (((hi.getD 5 0) - (lo.getD 5 0)) + (1 : Int32)), .ref 162, .int (lo.getD 5 0), .int 5, .ref 230]) (h2 := h74x) (dc2 := dc) (ds2 := ds) 3 rfl ?_
  refine wq_vi (of_nI hlm (j := 5) (by decide)).1 ?_
  refine wq_inlv (y2 := 278) (as := [.int (nI (jK lo hi 5))]) rfl rfl rfl e78x rfl ?_
  show wq 278 0 [(0, .ref 162), (1, .int (nI (jK lo hi 5)))] [] h74x 0 0 _
  refine wq_gos (f := 1) (pc2 := 2) (ls2 := [(0, .ref 162), (1, .int (nI (jK lo hi 5)))]) (st2 := [.ref 162, .ref 162]) (h2 := h74x) (dc2 := 0) (ds2 := 0) 2 rfl ?_
  refine wq_getf rfl e78x p72x rfl ?_
  refine wq_gos (f := 1) (pc2 := 17) (ls2 := [(0, .ref 162), (1, .int (nI (jK lo hi 5)))]) (st2 := [.int ((((nI (jsd n 5)) * (1103515245 : Int32)) + (12345 : Int32)) &&& (2147483647 : Int32)), .ref 162]) (h2 := h74x) (dc2 := 0) (ds2 := 0) 6 rfl ?_
  refine wq_vi (i_next _) ?_
  show wq 278 17 [(0, .ref 162), (1, .int (nI (jK lo hi 5)))] [.int (nI (jsd n 6)), .ref 162] h74x 0 0 _
  refine wq_putf rfl e78x rfl (by rw [hC71x.1]; rfl) rfl ?_
  intro h81x e82x f83x l84x
  obtain ⟨fs85x, hf86x⟩ : ∃ x, x = fs69x.set 52 (.int (nI (jsd n 6))) := ⟨_, rfl⟩
  rw [← hf86x] at e82x
  have hC87x : mC fs85x := by rw [hf86x]; exact mC_set hC71x (by decide) _
  have p88x : fs85x[52]? = some (.int (nI (jsd n 6))) := by rw [hf86x]; exact List.getElem?_set_self (by rw [hC71x.1]; decide)
  refine wq_gos (f := 1) (pc2 := 21) (ls2 := [(0, .ref 162), (1, .int (nI (jK lo hi 5)))]) (st2 := [.ref 162]) (h2 := h81x) (dc2 := 0) (ds2 := 0) 1 rfl ?_
  refine wq_getf rfl e82x p88x rfl ?_
  refine wq_gos (f := 1) (pc2 := 28) (ls2 := [(0, .ref 162), (1, .int (nI (jK lo hi 5)))]) (st2 := [.int (nI (jK lo hi 5)), .int ((nI (jsd n 6)) >>> ((16 : Int32) &&& 31))]) (h2 := h81x) (dc2 := 0) (ds2 := 0) 3 rfl ?_
  refine wq_irem rfl (nIk_ne0 (of_nI hlm (j := 5) (by decide)).2) ?_
  refine wq_vi (i_draw (jsd_lt hn 6) (of_nI hlm (j := 5) (by decide)).2) ?_
  refine wq_ret rfl rfl ?_
  show wq 280 107 [(6, .int 5), (0, .ref 162), (1, .int sd), (2, .int (nI N)), (3, .int w), (4, .int su), (5, .int (nI i))] [.int (nI (jsd n 6 / 65536 % jK lo hi 5)), .int (lo.getD 5 0), .int 5, .ref 230] h81x dc ds _
  refine wq_gos (f := 1) (pc2 := 108) (ls2 := [(6, .int 5), (0, .ref 162), (1, .int sd), (2, .int (nI N)), (3, .int w), (4, .int su), (5, .int (nI i))]) (st2 := [.int ((lo.getD 5 0) + (nI (jsd n 6 / 65536 % jK lo hi 5))), .int 5, .ref 230]) (h2 := h81x) (dc2 := dc) (ds2 := ds) 1 rfl ?_
  refine wq_vi (jv_m hw n (j := 5) (by decide)) ?_
  have e89x := (f83x.2 _ _ (wnc (by decide) wn0) e75x)
  refine wq_iast rfl e89x rfl rfl ?_
  intro h90x e91x f92x l93x
  have e91x : zat h90x 230 = some (.inl (0, 6, (zset 0 (zset 0 (zset 0 (zset 0 (zset 0 (zset 0 dq 0 (jv ll lg n 0)) 1 (jv ll lg n 1)) 2 (jv ll lg n 2)) 3 (jv ll lg n 3)) 4 (jv ll lg n 4)) 5 (jv ll lg n 5)))) := e91x
  refine wq_gos (f := 1) (pc2 := 115) (ls2 := [(6, .int 6), (0, .ref 162), (1, .int sd), (2, .int (nI N)), (3, .int w), (4, .int su), (5, .int (nI i))]) (st2 := []) (h2 := h90x) (dc2 := dc) (ds2 := ds) 5 rfl ?_
  have e94x := (f92x.2 _ _ (wnc (by decide) wn0) e82x)
  refine wq_ls [(0, .ref 162), (1, .int sd), (2, .int (nI N)), (3, .int w), (4, .int su), (5, .int (nI i))] (show ([0, 1, 2, 3, 4, 5] : List Nat).Nodup by decide) ⟨rfl, rfl, rfl, rfl, rfl, rfl, trivial⟩ ?_
  exact kk h90x fs85x _ (wFr_tr (wFr_sub f3x (by simp)) (wFr_tr (wFr_sub f12x (by simp)) (wFr_tr (wFr_sub f19x (by simp)) (wFr_tr (wFr_sub f28x (by simp)) (wFr_tr (wFr_sub f35x (by simp)) (wFr_tr (wFr_sub f44x (by simp)) (wFr_tr (wFr_sub f51x (by simp)) (wFr_tr (wFr_sub f60x (by simp)) (wFr_tr (wFr_sub f67x (by simp)) (wFr_tr (wFr_sub f76x (by simp)) (wFr_tr (wFr_sub f83x (by simp)) (wFr_sub f92x (by simp))))))))))))) (by omega) e94x hC87x p88x e91x (by simp only [zset_get]; rfl) (by simp only [zset_get]; rfl) (by simp only [zset_get]; rfl) (by simp only [zset_get]; rfl) (by simp only [zset_get]; rfl) (by simp only [zset_get]; rfl)
theorem tCls_c {tg pl : List Int32} (h : ∀ i, i < 6 → tg.getD i 0 = pl.getD i 0) (ll lg : List Int32) (lk hd ht : Int32) : tCls ll lg lk hd ht tg = tCls ll lg lk hd ht pl := by
  have e : tTurn ll lg lk hd ht tg = tTurn ll lg lk hd ht pl := by
    funext t
    unfold tTurn jpit jroll0
    rw [h 0 (by decide), h 1 (by decide), h 2 (by decide), h 3 (by decide), h 4 (by decide), h 5 (by decide)]
  unfold tCls
  rw [e]
/-- the reference's cells that drawing changes, as they may stand -/
def wMS (h : zH) (n : Nat) : Prop := ∃ (fs : List Value) (th on sq dq pa pb : List Int32) (fo : List Int64), zat h 162 = some (.inr (.inr (.inr (10, fs)))) ∧ mC fs ∧ fs[52]? = some (.int (nI n)) ∧ zat h 194 = some (.inl (0, 6, th)) ∧ zat h 196 = some (.inr (.inl (6000, fo))) ∧ zat h 200 = some (.inl (0, 4096, pa)) ∧ zat h 202 = some (.inl (0, 4096, pb)) ∧ zat h 204 = some (.inl (0, 6, on)) ∧ zat h 222 = some (.inl (0, 6, sq)) ∧ zat h 230 = some (.inl (0, 6, dq))
theorem jsd_6 (n m : Nat) : jsd (jsd n 6) m = jsd n (m + 6) := by
  induction m with
  | zero => rfl
  | succ m ih => rw [show m + 1 + 6 = (m + 6) + 1 by omega]; show jnx _ = jnx _; rw [ih]
set_option maxHeartbeats 8000000 in
theorem m_chL0 {kn lo hi ll lg : List Int32} {sd : Int32} {N : Nat} (hN : N ≤ 20) (hw : wLim lo hi ll lg) (hlm : wLm ll lg) (hl9 : 1 ≤ (kn.getD 0 0).toInt ∧ (kn.getD 0 0).toInt ≤ 99) (hh9 : 1 ≤ (kn.getD 1 0).toInt ∧ (kn.getD 1 0).toInt ≤ 99) : ∀ (m i n : Nat) (su : Int32) (h : zH) (dc ds : Nat), i + m = N → n < 2147483648 → zat h 166 = some (.inl (0, 14, kn)) → zat h 168 = some (.inl (0, 12, lo)) → zat h 170 = some (.inl (0, 12, hi)) → wMS h n → wq 280 57 [(0, .ref 162), (1, .int sd), (2, .int (nI N)), (3, .int 0), (4, .int su), (5, .int (nI i))] [] h dc ds (fun r => ∃ (h2 : zH), r = (some (.int (jCh ll lg (kn.getD 0 0) (kn.getD 1 0) (kn.getD 2 0) 0 m n su)), h2, dc, ds) ∧ wFr [162, 230, 194, 222, 196, 204, 200, 202] h h2 ∧ h2.length = h.length ∧ wMS h2 (jsd n (6 * m))) := by
  intro m
  induction m with
  | zero =>
    intro i n su h dc ds him hn hK hO hG hMS
    have q1 := nI_toInt (n := i) (by omega)
    have q2 := nI_toInt (n := N) (by omega)
    refine wq_gos (f := 1) (pc2 := 60) (ls2 := [(0, .ref 162), (1, .int sd), (2, .int (nI N)), (3, .int 0), (4, .int su), (5, .int (nI i))]) (st2 := [.int (nI N), .int (nI i)]) (h2 := h) (dc2 := dc) (ds2 := ds) 2 rfl ?_
    refine wq_ge2t rfl (by omega) ?_
    refine wq_gos (f := 1) (pc2 := 293) (ls2 := [(0, .ref 162), (1, .int sd), (2, .int (nI N)), (3, .int 0), (4, .int su), (5, .int (nI i))]) (st2 := [.int su]) (h2 := h) (dc2 := dc) (ds2 := ds) 1 rfl ?_
    exact wq_ret rfl rfl ⟨h, rfl, wFr_rf _ _, rfl, hMS⟩
  | succ m ih =>
    intro i n su h dc ds him hn hK hO hG hMS
    have q1 := nI_toInt (n := i) (by omega)
    have q2 := nI_toInt (n := N) (by omega)
    obtain ⟨fs, th, on, sq, dq, pa, pb, fo, hM, hC, h52, hT, hF, h200, h202, hNn, hsq, hD⟩ := hMS
    refine wq_gos (f := 1) (pc2 := 60) (ls2 := [(0, .ref 162), (1, .int sd), (2, .int (nI N)), (3, .int 0), (4, .int su), (5, .int (nI i))]) (st2 := [.int (nI N), .int (nI i)]) (h2 := h) (dc2 := dc) (ds2 := ds) 2 rfl ?_
    refine wq_ge2f rfl rfl (by omega) ?_
    refine wq_ls [(0, .ref 162), (1, .int sd), (2, .int (nI N)), (3, .int 0), (4, .int su), (5, .int (nI i))] (show ([0, 1, 2, 3, 4, 5] : List Nat).Nodup by decide) ⟨rfl, rfl, rfl, rfl, rfl, rfl, trivial⟩ ?_
    refine m_draw6 hw (wLm_c hw hlm) hn hM hC hK hO hG h52 hD ?_
    intro h5 fs5 dq5 f5 l5 hM5 hC5 h525 hD5 d0 d1 d2 d3 d4 d5
    refine wq_gos (f := 1) (pc2 := 117) (ls2 := [(0, .ref 162), (1, .int sd), (2, .int (nI N)), (3, .int 0), (4, .int su), (5, .int (nI i))]) (st2 := [.ref 162, .ref 162]) (h2 := h5) (dc2 := dc) (ds2 := ds) 2 rfl ?_
    refine wq_getf rfl hM5 (hC5.2 (53, 230) (by decide)) rfl ?_
    refine wq_gos (f := 1) (pc2 := 121) (ls2 := [(0, .ref 162), (1, .int sd), (2, .int (nI N)), (3, .int 0), (4, .int su), (5, .int (nI i))]) (st2 := [.int 0, .ref 230, .ref 162]) (h2 := h5) (dc2 := dc) (ds2 := ds) 1 rfl ?_
    have e1x := (f5.2 _ _ (wnc (by decide) (wnc (by decide) wn0)) hK)
    have e2x := (f5.2 _ _ (wnc (by decide) (wnc (by decide) wn0)) hO)
    have e3x := (f5.2 _ _ (wnc (by decide) (wnc (by decide) wn0)) hG)
    have e4x := (f5.2 _ _ (wnc (by decide) (wnc (by decide) wn0)) hT)
    refine wq_inlv (y2 := 200) (as := [.ref 230, .int 0]) rfl rfl rfl hM5 rfl (wq_mono (m_placeD hM5 hC5 e1x e2x e3x hD5 e4x d0 d1 d2 d3 d4 d5) ?_)
    rintro _ ⟨h6, th6, rfl, f6, l6, e6, c6⟩
    show wq 280 124 [(0, .ref 162), (1, .int sd), (2, .int (nI N)), (3, .int 0), (4, .int su), (5, .int (nI i))] [] h6 dc ds _
    refine wq_gos (f := 1) (pc2 := 135) (ls2 := [(6, .int 0), (0, .ref 162), (1, .int sd), (2, .int (nI N)), (3, .int 0), (4, .int su), (5, .int (nI i))]) (st2 := [.ref 162]) (h2 := h6) (dc2 := dc) (ds2 := ds) 6 rfl ?_
    have e5x := (f6.2 _ _ (wnc (by decide) wn0) hM5)
    refine wq_getf rfl e5x (hC5.2 (48, 222) (by decide)) rfl ?_
    refine wq_gos (f := 1) (pc2 := 141) (ls2 := [(6, .int 0), (0, .ref 162), (1, .int sd), (2, .int (nI N)), (3, .int 0), (4, .int su), (5, .int (nI i))]) (st2 := [.ref 162, .int 0, .ref 222]) (h2 := h6) (dc2 := dc) (ds2 := ds) 2 rfl ?_
    refine wq_getf rfl e5x (hC5.2 (29, 194) (by decide)) rfl ?_
    refine wq_gos (f := 1) (pc2 := 146) (ls2 := [(6, .int 0), (0, .ref 162), (1, .int sd), (2, .int (nI N)), (3, .int 0), (4, .int su), (5, .int (nI i))]) (st2 := [.int 0, .ref 194, .int 0, .ref 222]) (h2 := h6) (dc2 := dc) (ds2 := ds) 1 rfl ?_
    refine wq_ialdk (k := 0) rfl e6 rfl rfl rfl ?_
    have e6x := (f6.2 _ _ (wnc (by decide) wn0) (f5.2 _ _ (wnc (by decide) (wnc (by decide) wn0)) hsq))
    refine wq_iast rfl e6x rfl rfl ?_
    intro h7x e8x f9x l10x
    have e8x : zat h7x 222 = some (.inl (0, 6, (zset 0 sq 0 (th6.getD 0 0)))) := e8x
    refine wq_gos (f := 1) (pc2 := 135) (ls2 := [(6, .int 1), (0, .ref 162), (1, .int sd), (2, .int (nI N)), (3, .int 0), (4, .int su), (5, .int (nI i))]) (st2 := [.ref 162]) (h2 := h7x) (dc2 := dc) (ds2 := ds) 6 rfl ?_
    have e11x := (f9x.2 _ _ (wnc (by decide) wn0) e5x)
    refine wq_getf rfl e11x (hC5.2 (48, 222) (by decide)) rfl ?_
    refine wq_gos (f := 1) (pc2 := 141) (ls2 := [(6, .int 1), (0, .ref 162), (1, .int sd), (2, .int (nI N)), (3, .int 0), (4, .int su), (5, .int (nI i))]) (st2 := [.ref 162, .int 1, .ref 222]) (h2 := h7x) (dc2 := dc) (ds2 := ds) 2 rfl ?_
    refine wq_getf rfl e11x (hC5.2 (29, 194) (by decide)) rfl ?_
    refine wq_gos (f := 1) (pc2 := 146) (ls2 := [(6, .int 1), (0, .ref 162), (1, .int sd), (2, .int (nI N)), (3, .int 0), (4, .int su), (5, .int (nI i))]) (st2 := [.int 1, .ref 194, .int 1, .ref 222]) (h2 := h7x) (dc2 := dc) (ds2 := ds) 1 rfl ?_
    have e12x := (f9x.2 _ _ (wnc (by decide) wn0) e6)
    refine wq_ialdk (k := 1) rfl e12x rfl rfl rfl ?_
    refine wq_iast rfl e8x rfl rfl ?_
    intro h13x e14x f15x l16x
    have e14x : zat h13x 222 = some (.inl (0, 6, (zset 0 (zset 0 sq 0 (th6.getD 0 0)) 1 (th6.getD 1 0)))) := e14x
    refine wq_gos (f := 1) (pc2 := 135) (ls2 := [(6, .int 2), (0, .ref 162), (1, .int sd), (2, .int (nI N)), (3, .int 0), (4, .int su), (5, .int (nI i))]) (st2 := [.ref 162]) (h2 := h13x) (dc2 := dc) (ds2 := ds) 6 rfl ?_
    have e17x := (f15x.2 _ _ (wnc (by decide) wn0) e11x)
    refine wq_getf rfl e17x (hC5.2 (48, 222) (by decide)) rfl ?_
    refine wq_gos (f := 1) (pc2 := 141) (ls2 := [(6, .int 2), (0, .ref 162), (1, .int sd), (2, .int (nI N)), (3, .int 0), (4, .int su), (5, .int (nI i))]) (st2 := [.ref 162, .int 2, .ref 222]) (h2 := h13x) (dc2 := dc) (ds2 := ds) 2 rfl ?_
    refine wq_getf rfl e17x (hC5.2 (29, 194) (by decide)) rfl ?_
    refine wq_gos (f := 1) (pc2 := 146) (ls2 := [(6, .int 2), (0, .ref 162), (1, .int sd), (2, .int (nI N)), (3, .int 0), (4, .int su), (5, .int (nI i))]) (st2 := [.int 2, .ref 194, .int 2, .ref 222]) (h2 := h13x) (dc2 := dc) (ds2 := ds) 1 rfl ?_
    have e18x := (f15x.2 _ _ (wnc (by decide) wn0) e12x)
    refine wq_ialdk (k := 2) rfl e18x rfl rfl rfl ?_
    refine wq_iast rfl e14x rfl rfl ?_
    intro h19x e20x f21x l22x
    have e20x : zat h19x 222 = some (.inl (0, 6, (zset 0 (zset 0 (zset 0 sq 0 (th6.getD 0 0)) 1 (th6.getD 1 0)) 2 (th6.getD 2 0)))) := e20x
    refine wq_gos (f := 1) (pc2 := 135) (ls2 := [(6, .int 3), (0, .ref 162), (1, .int sd), (2, .int (nI N)), (3, .int 0), (4, .int su), (5, .int (nI i))]) (st2 := [.ref 162]) (h2 := h19x) (dc2 := dc) (ds2 := ds) 6 rfl ?_
    have e23x := (f21x.2 _ _ (wnc (by decide) wn0) e17x)
    refine wq_getf rfl e23x (hC5.2 (48, 222) (by decide)) rfl ?_
    refine wq_gos (f := 1) (pc2 := 141) (ls2 := [(6, .int 3), (0, .ref 162), (1, .int sd), (2, .int (nI N)), (3, .int 0), (4, .int su), (5, .int (nI i))]) (st2 := [.ref 162, .int 3, .ref 222]) (h2 := h19x) (dc2 := dc) (ds2 := ds) 2 rfl ?_
    refine wq_getf rfl e23x (hC5.2 (29, 194) (by decide)) rfl ?_
    refine wq_gos (f := 1) (pc2 := 146) (ls2 := [(6, .int 3), (0, .ref 162), (1, .int sd), (2, .int (nI N)), (3, .int 0), (4, .int su), (5, .int (nI i))]) (st2 := [.int 3, .ref 194, .int 3, .ref 222]) (h2 := h19x) (dc2 := dc) (ds2 := ds) 1 rfl ?_
    have e24x := (f21x.2 _ _ (wnc (by decide) wn0) e18x)
    refine wq_ialdk (k := 3) rfl e24x rfl rfl rfl ?_
    refine wq_iast rfl e20x rfl rfl ?_
    intro h25x e26x f27x l28x
    have e26x : zat h25x 222 = some (.inl (0, 6, (zset 0 (zset 0 (zset 0 (zset 0 sq 0 (th6.getD 0 0)) 1 (th6.getD 1 0)) 2 (th6.getD 2 0)) 3 (th6.getD 3 0)))) := e26x
    refine wq_gos (f := 1) (pc2 := 135) (ls2 := [(6, .int 4), (0, .ref 162), (1, .int sd), (2, .int (nI N)), (3, .int 0), (4, .int su), (5, .int (nI i))]) (st2 := [.ref 162]) (h2 := h25x) (dc2 := dc) (ds2 := ds) 6 rfl ?_
    have e29x := (f27x.2 _ _ (wnc (by decide) wn0) e23x)
    refine wq_getf rfl e29x (hC5.2 (48, 222) (by decide)) rfl ?_
    refine wq_gos (f := 1) (pc2 := 141) (ls2 := [(6, .int 4), (0, .ref 162), (1, .int sd), (2, .int (nI N)), (3, .int 0), (4, .int su), (5, .int (nI i))]) (st2 := [.ref 162, .int 4, .ref 222]) (h2 := h25x) (dc2 := dc) (ds2 := ds) 2 rfl ?_
    refine wq_getf rfl e29x (hC5.2 (29, 194) (by decide)) rfl ?_
    refine wq_gos (f := 1) (pc2 := 146) (ls2 := [(6, .int 4), (0, .ref 162), (1, .int sd), (2, .int (nI N)), (3, .int 0), (4, .int su), (5, .int (nI i))]) (st2 := [.int 4, .ref 194, .int 4, .ref 222]) (h2 := h25x) (dc2 := dc) (ds2 := ds) 1 rfl ?_
    have e30x := (f27x.2 _ _ (wnc (by decide) wn0) e24x)
    refine wq_ialdk (k := 4) rfl e30x rfl rfl rfl ?_
    refine wq_iast rfl e26x rfl rfl ?_
    intro h31x e32x f33x l34x
    have e32x : zat h31x 222 = some (.inl (0, 6, (zset 0 (zset 0 (zset 0 (zset 0 (zset 0 sq 0 (th6.getD 0 0)) 1 (th6.getD 1 0)) 2 (th6.getD 2 0)) 3 (th6.getD 3 0)) 4 (th6.getD 4 0)))) := e32x
    refine wq_gos (f := 1) (pc2 := 135) (ls2 := [(6, .int 5), (0, .ref 162), (1, .int sd), (2, .int (nI N)), (3, .int 0), (4, .int su), (5, .int (nI i))]) (st2 := [.ref 162]) (h2 := h31x) (dc2 := dc) (ds2 := ds) 6 rfl ?_
    have e35x := (f33x.2 _ _ (wnc (by decide) wn0) e29x)
    refine wq_getf rfl e35x (hC5.2 (48, 222) (by decide)) rfl ?_
    refine wq_gos (f := 1) (pc2 := 141) (ls2 := [(6, .int 5), (0, .ref 162), (1, .int sd), (2, .int (nI N)), (3, .int 0), (4, .int su), (5, .int (nI i))]) (st2 := [.ref 162, .int 5, .ref 222]) (h2 := h31x) (dc2 := dc) (ds2 := ds) 2 rfl ?_
    refine wq_getf rfl e35x (hC5.2 (29, 194) (by decide)) rfl ?_
    refine wq_gos (f := 1) (pc2 := 146) (ls2 := [(6, .int 5), (0, .ref 162), (1, .int sd), (2, .int (nI N)), (3, .int 0), (4, .int su), (5, .int (nI i))]) (st2 := [.int 5, .ref 194, .int 5, .ref 222]) (h2 := h31x) (dc2 := dc) (ds2 := ds) 1 rfl ?_
    have e36x := (f33x.2 _ _ (wnc (by decide) wn0) e30x)
    refine wq_ialdk (k := 5) rfl e36x rfl rfl rfl ?_
    refine wq_iast rfl e32x rfl rfl ?_
    intro h37x e38x f39x l40x
    have e38x : zat h37x 222 = some (.inl (0, 6, (zset 0 (zset 0 (zset 0 (zset 0 (zset 0 (zset 0 sq 0 (th6.getD 0 0)) 1 (th6.getD 1 0)) 2 (th6.getD 2 0)) 3 (th6.getD 3 0)) 4 (th6.getD 4 0)) 5 (th6.getD 5 0)))) := e38x
    refine wq_gos (f := 1) (pc2 := 154) (ls2 := [(6, .int 6), (0, .ref 162), (1, .int sd), (2, .int (nI N)), (3, .int 0), (4, .int su), (5, .int (nI i))]) (st2 := []) (h2 := h37x) (dc2 := dc) (ds2 := ds) 5 rfl ?_
    obtain ⟨sq7, hsq7⟩ : ∃ x, x = (zset 0 (zset 0 (zset 0 (zset 0 (zset 0 (zset 0 sq 0 (th6.getD 0 0)) 1 (th6.getD 1 0)) 2 (th6.getD 2 0)) 3 (th6.getD 3 0)) 4 (th6.getD 4 0)) 5 (th6.getD 5 0)) := ⟨_, rfl⟩
    have e7 := e38x
    rw [← hsq7] at e7
    have c7 : ∀ i, i < 6 → sq7.getD i 0 = (jpl (kn.getD 0 0) (kn.getD 1 0) (kn.getD 2 0) (jv ll lg n 0) (jv ll lg n 1) (jv ll lg n 2) (jv ll lg n 3) (jv ll lg n 4) (jv ll lg n 5)).getD i 0 := by rw [hsq7]; refine lt6 ?_ ?_ ?_ ?_ ?_ ?_ <;> (simp only [zset_get]; first | exact c6 0 (by decide) | exact c6 1 (by decide) | exact c6 2 (by decide) | exact c6 3 (by decide) | exact c6 4 (by decide) | exact c6 5 (by decide))
    refine wq_gos (f := 1) (pc2 := 161) (ls2 := [(6, .int 6), (0, .ref 162), (1, .int sd), (2, .int (nI N)), (3, .int 0), (4, .int su), (5, .int (nI i))]) (st2 := [.ref 162, .ref 162]) (h2 := h37x) (dc2 := dc) (ds2 := ds) 5 rfl ?_
    have e41x := (f39x.2 _ _ (wnc (by decide) wn0) e35x)
    refine wq_getf rfl e41x (hC5.2 (48, 222) (by decide)) rfl ?_
    refine wq_gos (f := 1) (pc2 := 167) (ls2 := [(6, .int 6), (0, .ref 162), (1, .int sd), (2, .int (nI N)), (3, .int 0), (4, .int su), (5, .int (nI i))]) (st2 := [.int 5400, .ref 222, .ref 162]) (h2 := h37x) (dc2 := dc) (ds2 := ds) 1 rfl ?_
    have e42x := (f39x.2 _ _ (wnc (by decide) wn0) (f33x.2 _ _ (wnc (by decide) wn0) (f27x.2 _ _ (wnc (by decide) wn0) (f21x.2 _ _ (wnc (by decide) wn0) (f15x.2 _ _ (wnc (by decide) wn0) (f9x.2 _ _ (wnc (by decide) wn0) (f6.2 _ _ (wnc (by decide) wn0) e1x)))))))
    have e43x := (f39x.2 _ _ (wnc (by decide) wn0) (f33x.2 _ _ (wnc (by decide) wn0) (f27x.2 _ _ (wnc (by decide) wn0) (f21x.2 _ _ (wnc (by decide) wn0) (f15x.2 _ _ (wnc (by decide) wn0) (f9x.2 _ _ (wnc (by decide) wn0) (f6.2 _ _ (wnc (by decide) wn0) e2x)))))))
    have e44x := (f39x.2 _ _ (wnc (by decide) wn0) (f33x.2 _ _ (wnc (by decide) wn0) (f27x.2 _ _ (wnc (by decide) wn0) (f21x.2 _ _ (wnc (by decide) wn0) (f15x.2 _ _ (wnc (by decide) wn0) (f9x.2 _ _ (wnc (by decide) wn0) (f6.2 _ _ (wnc (by decide) wn0) e3x)))))))
    have e45x := (f39x.2 _ _ (wnc (by decide) wn0) (f33x.2 _ _ (wnc (by decide) wn0) (f27x.2 _ _ (wnc (by decide) wn0) (f21x.2 _ _ (wnc (by decide) wn0) (f15x.2 _ _ (wnc (by decide) wn0) (f9x.2 _ _ (wnc (by decide) wn0) (f6.2 _ _ (wnc (by decide) wn0) (f5.2 _ _ (wnc (by decide) (wnc (by decide) wn0)) hF))))))))
    have e46x := (f39x.2 _ _ (wnc (by decide) wn0) (f33x.2 _ _ (wnc (by decide) wn0) (f27x.2 _ _ (wnc (by decide) wn0) (f21x.2 _ _ (wnc (by decide) wn0) (f15x.2 _ _ (wnc (by decide) wn0) (f9x.2 _ _ (wnc (by decide) wn0) (f6.2 _ _ (wnc (by decide) wn0) (f5.2 _ _ (wnc (by decide) (wnc (by decide) wn0)) hNn))))))))
    have e47x := (f39x.2 _ _ (wnc (by decide) wn0) (f33x.2 _ _ (wnc (by decide) wn0) (f27x.2 _ _ (wnc (by decide) wn0) (f21x.2 _ _ (wnc (by decide) wn0) (f15x.2 _ _ (wnc (by decide) wn0) (f9x.2 _ _ (wnc (by decide) wn0) (f6.2 _ _ (wnc (by decide) wn0) (f5.2 _ _ (wnc (by decide) (wnc (by decide) wn0)) h200))))))))
    have e48x := (f39x.2 _ _ (wnc (by decide) wn0) (f33x.2 _ _ (wnc (by decide) wn0) (f27x.2 _ _ (wnc (by decide) wn0) (f21x.2 _ _ (wnc (by decide) wn0) (f15x.2 _ _ (wnc (by decide) wn0) (f9x.2 _ _ (wnc (by decide) wn0) (f6.2 _ _ (wnc (by decide) wn0) (f5.2 _ _ (wnc (by decide) (wnc (by decide) wn0)) h202))))))))
    refine wq_inlv (y2 := 226) (as := [.ref 222, .int 5400]) rfl rfl rfl e41x rfl (wq_mono (m_solves (o := 5400) (f34 := .null) (f35 := .null) e41x hC5 e42x e43x e44x e45x (by decide) e46x e7 (Or.inr rfl) e47x e48x) ?_)
    rintro _ ⟨⟨h8, fs8, fo8, wn8, on8, rfl, f8, l8, hM8, hC8, h348, h358, hF8, hfd8, hN8⟩, pa8, pb8, h2008, h2028⟩
    have h4s : 0 ≤ (sq7.getD 4 0).toInt := by rw [c7 4 (by decide)]; exact z_and63 _
    have hns : (sSolL ll lg (kn.getD 0 0) (kn.getD 1 0) (kn.getD 2 0) sq7 64 (-32)).length = (jN ll lg (kn.getD 0 0) (kn.getD 1 0) (kn.getD 2 0) (jv ll lg n 0) (jv ll lg n 1) (jv ll lg n 2) (jv ll lg n 3) (jv ll lg n 4) (jv ll lg n 5)) := by rw [sSolL_c c7]; rfl
    rcases sols_eq (ll := ll) (lg := lg) hw hl9 hh9 h4s with ⟨z1, z2⟩ | ⟨l2, z2, z1, z3, z4⟩
    · rw [z2] at h348 hfd8
      rw [hns] at z1
      have h528 : fs8[52]? = some (.int (nI (jsd n 6))) := by rw [hC8.2 52 ⟨by decide, by decide⟩]; exact h525
      have h348 : fs8[34]? = some (.int (-3)) := h348
      show wq 280 170 [(6, .int 6), (0, .ref 162), (1, .int sd), (2, .int (nI N)), (3, .int 0), (4, .int su), (5, .int (nI i))] [] h8 dc ds _
      refine wq_gos (f := 1) (pc2 := 177) (ls2 := [(6, .int 6), (0, .ref 162), (1, .int sd), (2, .int (nI N)), (3, .int 0), (4, .int su), (5, .int (nI i))]) (st2 := [.ref 162, .int su]) (h2 := h8) (dc2 := dc) (ds2 := ds) 4 rfl ?_
      refine wq_getf rfl hM8 h348 rfl ?_
      refine wq_gos (f := 1) (pc2 := 288) (ls2 := [(5, .int ((nI i) + 1)), (4, .int (su + (1 : Int32))), (6, .int 6), (0, .ref 162), (1, .int sd), (2, .int (nI N)), (3, .int 0)]) (st2 := []) (h2 := h8) (dc2 := dc) (ds2 := ds) 8 rfl ?_
      rw [nI_1]
      refine wq_gos (f := 1) (pc2 := 57) (ls2 := [(5, .int (nI (i + 1))), (4, .int (su + (1 : Int32))), (6, .int 6), (0, .ref 162), (1, .int sd), (2, .int (nI N)), (3, .int 0)]) (st2 := []) (h2 := h8) (dc2 := dc) (ds2 := ds) 1 rfl ?_
      have e49x := (f8.2 _ _ (wnc (by decide) (wnc (by decide) (wnc (by decide) (wnc (by decide) (wnc (by decide) wn0))))) (f39x.2 _ _ (wnc (by decide) wn0) e36x))
      have e50x := (f8.2 _ _ (wnc (by decide) (wnc (by decide) (wnc (by decide) (wnc (by decide) (wnc (by decide) wn0))))) e7)
      have e51x := (f8.2 _ _ (wnc (by decide) (wnc (by decide) (wnc (by decide) (wnc (by decide) (wnc (by decide) wn0))))) (f39x.2 _ _ (wnc (by decide) wn0) (f33x.2 _ _ (wnc (by decide) wn0) (f27x.2 _ _ (wnc (by decide) wn0) (f21x.2 _ _ (wnc (by decide) wn0) (f15x.2 _ _ (wnc (by decide) wn0) (f9x.2 _ _ (wnc (by decide) wn0) (f6.2 _ _ (wnc (by decide) wn0) hD5))))))))
      have e52x := (f8.2 _ _ (wnc (by decide) (wnc (by decide) (wnc (by decide) (wnc (by decide) (wnc (by decide) wn0))))) e42x)
      have e53x := (f8.2 _ _ (wnc (by decide) (wnc (by decide) (wnc (by decide) (wnc (by decide) (wnc (by decide) wn0))))) e43x)
      have e54x := (f8.2 _ _ (wnc (by decide) (wnc (by decide) (wnc (by decide) (wnc (by decide) (wnc (by decide) wn0))))) e44x)
      have hv : jOne ll lg (kn.getD 0 0) (kn.getD 1 0) (kn.getD 2 0) 0 (jv ll lg n 0) (jv ll lg n 1) (jv ll lg n 2) (jv ll lg n 3) (jv ll lg n 4) (jv ll lg n 5) = (1 : Int32) := by unfold jOne; rw [if_neg (by decide), if_pos (show 600 < jN _ _ _ _ _ _ _ _ _ _ _ from z1), if_pos rfl]
      have hjc : jCh ll lg (kn.getD 0 0) (kn.getD 1 0) (kn.getD 2 0) 0 (m + 1) n su = jCh ll lg (kn.getD 0 0) (kn.getD 1 0) (kn.getD 2 0) 0 m (jsd n 6) (su + (1 : Int32)) := by show jCh _ _ _ _ _ _ m (jsd n 6) (su + jOne _ _ _ _ _ _ _ _ _ _ _ _) = _; rw [hv]
      refine wq_ls [(0, .ref 162), (1, .int sd), (2, .int (nI N)), (3, .int 0), (4, .int (su + (1 : Int32))), (5, .int (nI (i + 1)))] (show ([0, 1, 2, 3, 4, 5] : List Nat).Nodup by decide) ⟨rfl, rfl, rfl, rfl, rfl, rfl, trivial⟩ ?_
      rw [hjc, show 6 * (m + 1) = 6 * m + 6 by omega, ← jsd_6]
      refine wq_mono (ih (i + 1) (jsd n 6) (su + (1 : Int32)) h8 dc ds (by omega) (jsd_lt hn 6) e52x e53x e54x ⟨fs8, _, _, _, _, _, _, _, hM8, hC8.1, h528, e49x, hF8, h2008, h2028, hN8, e50x, e51x⟩) ?_
      rintro _ ⟨k0, rfl, k1, k2, k3⟩
      exact ⟨k0, rfl, wFr_tr (wFr_tr (wFr_sub f5 (by simp)) (wFr_tr (wFr_sub f6 (by simp)) (wFr_tr (wFr_sub f9x (by simp)) (wFr_tr (wFr_sub f15x (by simp)) (wFr_tr (wFr_sub f21x (by simp)) (wFr_tr (wFr_sub f27x (by simp)) (wFr_tr (wFr_sub f33x (by simp)) (wFr_tr (wFr_sub f39x (by simp)) (wFr_sub f8 (by simp)))))))))) k1, by omega, k3⟩
    · rw [z2] at h348 hfd8
      rw [hns] at z1
      have h528 : fs8[52]? = some (.int (nI (jsd n 6))) := by rw [hC8.2 52 ⟨by decide, by decide⟩]; exact h525
      have h348 : fs8[34]? = some (.int (nI l2.length)) := h348
      show wq 280 170 [(6, .int 6), (0, .ref 162), (1, .int sd), (2, .int (nI N)), (3, .int 0), (4, .int su), (5, .int (nI i))] [] h8 dc ds _
      refine wq_gos (f := 1) (pc2 := 177) (ls2 := [(6, .int 6), (0, .ref 162), (1, .int sd), (2, .int (nI N)), (3, .int 0), (4, .int su), (5, .int (nI i))]) (st2 := [.ref 162, .int su]) (h2 := h8) (dc2 := dc) (ds2 := ds) 4 rfl ?_
      refine wq_getf rfl hM8 h348 rfl ?_
      refine wq_gos (f := 1) (pc2 := 182) (ls2 := [(6, .int 6), (0, .ref 162), (1, .int sd), (2, .int (nI N)), (3, .int 0), (4, .int su), (5, .int (nI i))]) (st2 := [.int (-3), .int (nI l2.length), .int su]) (h2 := h8) (dc2 := dc) (ds2 := ds) 1 rfl ?_
      refine wq_ne2t rfl (nI_m3 (by omega)) ?_
      refine wq_gos (f := 1) (pc2 := 288) (ls2 := [(5, .int ((nI i) + 1)), (4, .int (su + (0 : Int32))), (6, .int 6), (0, .ref 162), (1, .int sd), (2, .int (nI N)), (3, .int 0)]) (st2 := []) (h2 := h8) (dc2 := dc) (ds2 := ds) 5 rfl ?_
      rw [nI_1]
      refine wq_gos (f := 1) (pc2 := 57) (ls2 := [(5, .int (nI (i + 1))), (4, .int (su + (0 : Int32))), (6, .int 6), (0, .ref 162), (1, .int sd), (2, .int (nI N)), (3, .int 0)]) (st2 := []) (h2 := h8) (dc2 := dc) (ds2 := ds) 1 rfl ?_
      have e55x := (f8.2 _ _ (wnc (by decide) (wnc (by decide) (wnc (by decide) (wnc (by decide) (wnc (by decide) wn0))))) (f39x.2 _ _ (wnc (by decide) wn0) e36x))
      have e56x := (f8.2 _ _ (wnc (by decide) (wnc (by decide) (wnc (by decide) (wnc (by decide) (wnc (by decide) wn0))))) e7)
      have e57x := (f8.2 _ _ (wnc (by decide) (wnc (by decide) (wnc (by decide) (wnc (by decide) (wnc (by decide) wn0))))) (f39x.2 _ _ (wnc (by decide) wn0) (f33x.2 _ _ (wnc (by decide) wn0) (f27x.2 _ _ (wnc (by decide) wn0) (f21x.2 _ _ (wnc (by decide) wn0) (f15x.2 _ _ (wnc (by decide) wn0) (f9x.2 _ _ (wnc (by decide) wn0) (f6.2 _ _ (wnc (by decide) wn0) hD5))))))))
      have e58x := (f8.2 _ _ (wnc (by decide) (wnc (by decide) (wnc (by decide) (wnc (by decide) (wnc (by decide) wn0))))) e42x)
      have e59x := (f8.2 _ _ (wnc (by decide) (wnc (by decide) (wnc (by decide) (wnc (by decide) (wnc (by decide) wn0))))) e43x)
      have e60x := (f8.2 _ _ (wnc (by decide) (wnc (by decide) (wnc (by decide) (wnc (by decide) (wnc (by decide) wn0))))) e44x)
      have hv : jOne ll lg (kn.getD 0 0) (kn.getD 1 0) (kn.getD 2 0) 0 (jv ll lg n 0) (jv ll lg n 1) (jv ll lg n 2) (jv ll lg n 3) (jv ll lg n 4) (jv ll lg n 5) = (0 : Int32) := by unfold jOne; rw [if_neg (by decide), if_neg (show ¬ 600 < jN _ _ _ _ _ _ _ _ _ _ _ from (by rw [z1]; omega)), if_pos rfl]
      have hjc : jCh ll lg (kn.getD 0 0) (kn.getD 1 0) (kn.getD 2 0) 0 (m + 1) n su = jCh ll lg (kn.getD 0 0) (kn.getD 1 0) (kn.getD 2 0) 0 m (jsd n 6) (su + (0 : Int32)) := by show jCh _ _ _ _ _ _ m (jsd n 6) (su + jOne _ _ _ _ _ _ _ _ _ _ _ _) = _; rw [hv]
      refine wq_ls [(0, .ref 162), (1, .int sd), (2, .int (nI N)), (3, .int 0), (4, .int (su + (0 : Int32))), (5, .int (nI (i + 1)))] (show ([0, 1, 2, 3, 4, 5] : List Nat).Nodup by decide) ⟨rfl, rfl, rfl, rfl, rfl, rfl, trivial⟩ ?_
      rw [hjc, show 6 * (m + 1) = 6 * m + 6 by omega, ← jsd_6]
      refine wq_mono (ih (i + 1) (jsd n 6) (su + (0 : Int32)) h8 dc ds (by omega) (jsd_lt hn 6) e58x e59x e60x ⟨fs8, _, _, _, _, _, _, _, hM8, hC8.1, h528, e55x, hF8, h2008, h2028, hN8, e56x, e57x⟩) ?_
      rintro _ ⟨k0, rfl, k1, k2, k3⟩
      exact ⟨k0, rfl, wFr_tr (wFr_tr (wFr_sub f5 (by simp)) (wFr_tr (wFr_sub f6 (by simp)) (wFr_tr (wFr_sub f9x (by simp)) (wFr_tr (wFr_sub f15x (by simp)) (wFr_tr (wFr_sub f21x (by simp)) (wFr_tr (wFr_sub f27x (by simp)) (wFr_tr (wFr_sub f33x (by simp)) (wFr_tr (wFr_sub f39x (by simp)) (wFr_sub f8 (by simp)))))))))) k1, by omega, k3⟩
set_option maxHeartbeats 8000000 in
theorem m_chL1 {kn lo hi ll lg : List Int32} {sd : Int32} {N : Nat} (hN : N ≤ 20) (hw : wLim lo hi ll lg) (hlm : wLm ll lg) (hl9 : 1 ≤ (kn.getD 0 0).toInt ∧ (kn.getD 0 0).toInt ≤ 99) (hh9 : 1 ≤ (kn.getD 1 0).toInt ∧ (kn.getD 1 0).toInt ≤ 99) : ∀ (m i n : Nat) (su : Int32) (h : zH) (dc ds : Nat), i + m = N → n < 2147483648 → zat h 166 = some (.inl (0, 14, kn)) → zat h 168 = some (.inl (0, 12, lo)) → zat h 170 = some (.inl (0, 12, hi)) → wMS h n → wq 280 57 [(0, .ref 162), (1, .int sd), (2, .int (nI N)), (3, .int 1), (4, .int su), (5, .int (nI i))] [] h dc ds (fun r => ∃ (h2 : zH), r = (some (.int (jCh ll lg (kn.getD 0 0) (kn.getD 1 0) (kn.getD 2 0) 1 m n su)), h2, dc, ds) ∧ wFr [162, 230, 194, 222, 196, 204, 200, 202] h h2 ∧ h2.length = h.length ∧ wMS h2 (jsd n (6 * m))) := by
  intro m
  induction m with
  | zero =>
    intro i n su h dc ds him hn hK hO hG hMS
    have q1 := nI_toInt (n := i) (by omega)
    have q2 := nI_toInt (n := N) (by omega)
    refine wq_gos (f := 1) (pc2 := 60) (ls2 := [(0, .ref 162), (1, .int sd), (2, .int (nI N)), (3, .int 1), (4, .int su), (5, .int (nI i))]) (st2 := [.int (nI N), .int (nI i)]) (h2 := h) (dc2 := dc) (ds2 := ds) 2 rfl ?_
    refine wq_ge2t rfl (by omega) ?_
    refine wq_gos (f := 1) (pc2 := 293) (ls2 := [(0, .ref 162), (1, .int sd), (2, .int (nI N)), (3, .int 1), (4, .int su), (5, .int (nI i))]) (st2 := [.int su]) (h2 := h) (dc2 := dc) (ds2 := ds) 1 rfl ?_
    exact wq_ret rfl rfl ⟨h, rfl, wFr_rf _ _, rfl, hMS⟩
  | succ m ih =>
    intro i n su h dc ds him hn hK hO hG hMS
    have q1 := nI_toInt (n := i) (by omega)
    have q2 := nI_toInt (n := N) (by omega)
    obtain ⟨fs, th, on, sq, dq, pa, pb, fo, hM, hC, h52, hT, hF, h200, h202, hNn, hsq, hD⟩ := hMS
    refine wq_gos (f := 1) (pc2 := 60) (ls2 := [(0, .ref 162), (1, .int sd), (2, .int (nI N)), (3, .int 1), (4, .int su), (5, .int (nI i))]) (st2 := [.int (nI N), .int (nI i)]) (h2 := h) (dc2 := dc) (ds2 := ds) 2 rfl ?_
    refine wq_ge2f rfl rfl (by omega) ?_
    refine wq_ls [(0, .ref 162), (1, .int sd), (2, .int (nI N)), (3, .int 1), (4, .int su), (5, .int (nI i))] (show ([0, 1, 2, 3, 4, 5] : List Nat).Nodup by decide) ⟨rfl, rfl, rfl, rfl, rfl, rfl, trivial⟩ ?_
    refine m_draw6 hw (wLm_c hw hlm) hn hM hC hK hO hG h52 hD ?_
    intro h5 fs5 dq5 f5 l5 hM5 hC5 h525 hD5 d0 d1 d2 d3 d4 d5
    refine wq_gos (f := 1) (pc2 := 117) (ls2 := [(0, .ref 162), (1, .int sd), (2, .int (nI N)), (3, .int 1), (4, .int su), (5, .int (nI i))]) (st2 := [.ref 162, .ref 162]) (h2 := h5) (dc2 := dc) (ds2 := ds) 2 rfl ?_
    refine wq_getf rfl hM5 (hC5.2 (53, 230) (by decide)) rfl ?_
    refine wq_gos (f := 1) (pc2 := 121) (ls2 := [(0, .ref 162), (1, .int sd), (2, .int (nI N)), (3, .int 1), (4, .int su), (5, .int (nI i))]) (st2 := [.int 0, .ref 230, .ref 162]) (h2 := h5) (dc2 := dc) (ds2 := ds) 1 rfl ?_
    have e1x := (f5.2 _ _ (wnc (by decide) (wnc (by decide) wn0)) hK)
    have e2x := (f5.2 _ _ (wnc (by decide) (wnc (by decide) wn0)) hO)
    have e3x := (f5.2 _ _ (wnc (by decide) (wnc (by decide) wn0)) hG)
    have e4x := (f5.2 _ _ (wnc (by decide) (wnc (by decide) wn0)) hT)
    refine wq_inlv (y2 := 200) (as := [.ref 230, .int 0]) rfl rfl rfl hM5 rfl (wq_mono (m_placeD hM5 hC5 e1x e2x e3x hD5 e4x d0 d1 d2 d3 d4 d5) ?_)
    rintro _ ⟨h6, th6, rfl, f6, l6, e6, c6⟩
    show wq 280 124 [(0, .ref 162), (1, .int sd), (2, .int (nI N)), (3, .int 1), (4, .int su), (5, .int (nI i))] [] h6 dc ds _
    refine wq_gos (f := 1) (pc2 := 135) (ls2 := [(6, .int 0), (0, .ref 162), (1, .int sd), (2, .int (nI N)), (3, .int 1), (4, .int su), (5, .int (nI i))]) (st2 := [.ref 162]) (h2 := h6) (dc2 := dc) (ds2 := ds) 6 rfl ?_
    have e5x := (f6.2 _ _ (wnc (by decide) wn0) hM5)
    refine wq_getf rfl e5x (hC5.2 (48, 222) (by decide)) rfl ?_
    refine wq_gos (f := 1) (pc2 := 141) (ls2 := [(6, .int 0), (0, .ref 162), (1, .int sd), (2, .int (nI N)), (3, .int 1), (4, .int su), (5, .int (nI i))]) (st2 := [.ref 162, .int 0, .ref 222]) (h2 := h6) (dc2 := dc) (ds2 := ds) 2 rfl ?_
    refine wq_getf rfl e5x (hC5.2 (29, 194) (by decide)) rfl ?_
    refine wq_gos (f := 1) (pc2 := 146) (ls2 := [(6, .int 0), (0, .ref 162), (1, .int sd), (2, .int (nI N)), (3, .int 1), (4, .int su), (5, .int (nI i))]) (st2 := [.int 0, .ref 194, .int 0, .ref 222]) (h2 := h6) (dc2 := dc) (ds2 := ds) 1 rfl ?_
    refine wq_ialdk (k := 0) rfl e6 rfl rfl rfl ?_
    have e6x := (f6.2 _ _ (wnc (by decide) wn0) (f5.2 _ _ (wnc (by decide) (wnc (by decide) wn0)) hsq))
    refine wq_iast rfl e6x rfl rfl ?_
    intro h7x e8x f9x l10x
    have e8x : zat h7x 222 = some (.inl (0, 6, (zset 0 sq 0 (th6.getD 0 0)))) := e8x
    refine wq_gos (f := 1) (pc2 := 135) (ls2 := [(6, .int 1), (0, .ref 162), (1, .int sd), (2, .int (nI N)), (3, .int 1), (4, .int su), (5, .int (nI i))]) (st2 := [.ref 162]) (h2 := h7x) (dc2 := dc) (ds2 := ds) 6 rfl ?_
    have e11x := (f9x.2 _ _ (wnc (by decide) wn0) e5x)
    refine wq_getf rfl e11x (hC5.2 (48, 222) (by decide)) rfl ?_
    refine wq_gos (f := 1) (pc2 := 141) (ls2 := [(6, .int 1), (0, .ref 162), (1, .int sd), (2, .int (nI N)), (3, .int 1), (4, .int su), (5, .int (nI i))]) (st2 := [.ref 162, .int 1, .ref 222]) (h2 := h7x) (dc2 := dc) (ds2 := ds) 2 rfl ?_
    refine wq_getf rfl e11x (hC5.2 (29, 194) (by decide)) rfl ?_
    refine wq_gos (f := 1) (pc2 := 146) (ls2 := [(6, .int 1), (0, .ref 162), (1, .int sd), (2, .int (nI N)), (3, .int 1), (4, .int su), (5, .int (nI i))]) (st2 := [.int 1, .ref 194, .int 1, .ref 222]) (h2 := h7x) (dc2 := dc) (ds2 := ds) 1 rfl ?_
    have e12x := (f9x.2 _ _ (wnc (by decide) wn0) e6)
    refine wq_ialdk (k := 1) rfl e12x rfl rfl rfl ?_
    refine wq_iast rfl e8x rfl rfl ?_
    intro h13x e14x f15x l16x
    have e14x : zat h13x 222 = some (.inl (0, 6, (zset 0 (zset 0 sq 0 (th6.getD 0 0)) 1 (th6.getD 1 0)))) := e14x
    refine wq_gos (f := 1) (pc2 := 135) (ls2 := [(6, .int 2), (0, .ref 162), (1, .int sd), (2, .int (nI N)), (3, .int 1), (4, .int su), (5, .int (nI i))]) (st2 := [.ref 162]) (h2 := h13x) (dc2 := dc) (ds2 := ds) 6 rfl ?_
    have e17x := (f15x.2 _ _ (wnc (by decide) wn0) e11x)
    refine wq_getf rfl e17x (hC5.2 (48, 222) (by decide)) rfl ?_
    refine wq_gos (f := 1) (pc2 := 141) (ls2 := [(6, .int 2), (0, .ref 162), (1, .int sd), (2, .int (nI N)), (3, .int 1), (4, .int su), (5, .int (nI i))]) (st2 := [.ref 162, .int 2, .ref 222]) (h2 := h13x) (dc2 := dc) (ds2 := ds) 2 rfl ?_
    refine wq_getf rfl e17x (hC5.2 (29, 194) (by decide)) rfl ?_
    refine wq_gos (f := 1) (pc2 := 146) (ls2 := [(6, .int 2), (0, .ref 162), (1, .int sd), (2, .int (nI N)), (3, .int 1), (4, .int su), (5, .int (nI i))]) (st2 := [.int 2, .ref 194, .int 2, .ref 222]) (h2 := h13x) (dc2 := dc) (ds2 := ds) 1 rfl ?_
    have e18x := (f15x.2 _ _ (wnc (by decide) wn0) e12x)
    refine wq_ialdk (k := 2) rfl e18x rfl rfl rfl ?_
    refine wq_iast rfl e14x rfl rfl ?_
    intro h19x e20x f21x l22x
    have e20x : zat h19x 222 = some (.inl (0, 6, (zset 0 (zset 0 (zset 0 sq 0 (th6.getD 0 0)) 1 (th6.getD 1 0)) 2 (th6.getD 2 0)))) := e20x
    refine wq_gos (f := 1) (pc2 := 135) (ls2 := [(6, .int 3), (0, .ref 162), (1, .int sd), (2, .int (nI N)), (3, .int 1), (4, .int su), (5, .int (nI i))]) (st2 := [.ref 162]) (h2 := h19x) (dc2 := dc) (ds2 := ds) 6 rfl ?_
    have e23x := (f21x.2 _ _ (wnc (by decide) wn0) e17x)
    refine wq_getf rfl e23x (hC5.2 (48, 222) (by decide)) rfl ?_
    refine wq_gos (f := 1) (pc2 := 141) (ls2 := [(6, .int 3), (0, .ref 162), (1, .int sd), (2, .int (nI N)), (3, .int 1), (4, .int su), (5, .int (nI i))]) (st2 := [.ref 162, .int 3, .ref 222]) (h2 := h19x) (dc2 := dc) (ds2 := ds) 2 rfl ?_
    refine wq_getf rfl e23x (hC5.2 (29, 194) (by decide)) rfl ?_
    refine wq_gos (f := 1) (pc2 := 146) (ls2 := [(6, .int 3), (0, .ref 162), (1, .int sd), (2, .int (nI N)), (3, .int 1), (4, .int su), (5, .int (nI i))]) (st2 := [.int 3, .ref 194, .int 3, .ref 222]) (h2 := h19x) (dc2 := dc) (ds2 := ds) 1 rfl ?_
    have e24x := (f21x.2 _ _ (wnc (by decide) wn0) e18x)
    refine wq_ialdk (k := 3) rfl e24x rfl rfl rfl ?_
    refine wq_iast rfl e20x rfl rfl ?_
    intro h25x e26x f27x l28x
    have e26x : zat h25x 222 = some (.inl (0, 6, (zset 0 (zset 0 (zset 0 (zset 0 sq 0 (th6.getD 0 0)) 1 (th6.getD 1 0)) 2 (th6.getD 2 0)) 3 (th6.getD 3 0)))) := e26x
    refine wq_gos (f := 1) (pc2 := 135) (ls2 := [(6, .int 4), (0, .ref 162), (1, .int sd), (2, .int (nI N)), (3, .int 1), (4, .int su), (5, .int (nI i))]) (st2 := [.ref 162]) (h2 := h25x) (dc2 := dc) (ds2 := ds) 6 rfl ?_
    have e29x := (f27x.2 _ _ (wnc (by decide) wn0) e23x)
    refine wq_getf rfl e29x (hC5.2 (48, 222) (by decide)) rfl ?_
    refine wq_gos (f := 1) (pc2 := 141) (ls2 := [(6, .int 4), (0, .ref 162), (1, .int sd), (2, .int (nI N)), (3, .int 1), (4, .int su), (5, .int (nI i))]) (st2 := [.ref 162, .int 4, .ref 222]) (h2 := h25x) (dc2 := dc) (ds2 := ds) 2 rfl ?_
    refine wq_getf rfl e29x (hC5.2 (29, 194) (by decide)) rfl ?_
    refine wq_gos (f := 1) (pc2 := 146) (ls2 := [(6, .int 4), (0, .ref 162), (1, .int sd), (2, .int (nI N)), (3, .int 1), (4, .int su), (5, .int (nI i))]) (st2 := [.int 4, .ref 194, .int 4, .ref 222]) (h2 := h25x) (dc2 := dc) (ds2 := ds) 1 rfl ?_
    have e30x := (f27x.2 _ _ (wnc (by decide) wn0) e24x)
    refine wq_ialdk (k := 4) rfl e30x rfl rfl rfl ?_
    refine wq_iast rfl e26x rfl rfl ?_
    intro h31x e32x f33x l34x
    have e32x : zat h31x 222 = some (.inl (0, 6, (zset 0 (zset 0 (zset 0 (zset 0 (zset 0 sq 0 (th6.getD 0 0)) 1 (th6.getD 1 0)) 2 (th6.getD 2 0)) 3 (th6.getD 3 0)) 4 (th6.getD 4 0)))) := e32x
    refine wq_gos (f := 1) (pc2 := 135) (ls2 := [(6, .int 5), (0, .ref 162), (1, .int sd), (2, .int (nI N)), (3, .int 1), (4, .int su), (5, .int (nI i))]) (st2 := [.ref 162]) (h2 := h31x) (dc2 := dc) (ds2 := ds) 6 rfl ?_
    have e35x := (f33x.2 _ _ (wnc (by decide) wn0) e29x)
    refine wq_getf rfl e35x (hC5.2 (48, 222) (by decide)) rfl ?_
    refine wq_gos (f := 1) (pc2 := 141) (ls2 := [(6, .int 5), (0, .ref 162), (1, .int sd), (2, .int (nI N)), (3, .int 1), (4, .int su), (5, .int (nI i))]) (st2 := [.ref 162, .int 5, .ref 222]) (h2 := h31x) (dc2 := dc) (ds2 := ds) 2 rfl ?_
    refine wq_getf rfl e35x (hC5.2 (29, 194) (by decide)) rfl ?_
    refine wq_gos (f := 1) (pc2 := 146) (ls2 := [(6, .int 5), (0, .ref 162), (1, .int sd), (2, .int (nI N)), (3, .int 1), (4, .int su), (5, .int (nI i))]) (st2 := [.int 5, .ref 194, .int 5, .ref 222]) (h2 := h31x) (dc2 := dc) (ds2 := ds) 1 rfl ?_
    have e36x := (f33x.2 _ _ (wnc (by decide) wn0) e30x)
    refine wq_ialdk (k := 5) rfl e36x rfl rfl rfl ?_
    refine wq_iast rfl e32x rfl rfl ?_
    intro h37x e38x f39x l40x
    have e38x : zat h37x 222 = some (.inl (0, 6, (zset 0 (zset 0 (zset 0 (zset 0 (zset 0 (zset 0 sq 0 (th6.getD 0 0)) 1 (th6.getD 1 0)) 2 (th6.getD 2 0)) 3 (th6.getD 3 0)) 4 (th6.getD 4 0)) 5 (th6.getD 5 0)))) := e38x
    refine wq_gos (f := 1) (pc2 := 154) (ls2 := [(6, .int 6), (0, .ref 162), (1, .int sd), (2, .int (nI N)), (3, .int 1), (4, .int su), (5, .int (nI i))]) (st2 := []) (h2 := h37x) (dc2 := dc) (ds2 := ds) 5 rfl ?_
    obtain ⟨sq7, hsq7⟩ : ∃ x, x = (zset 0 (zset 0 (zset 0 (zset 0 (zset 0 (zset 0 sq 0 (th6.getD 0 0)) 1 (th6.getD 1 0)) 2 (th6.getD 2 0)) 3 (th6.getD 3 0)) 4 (th6.getD 4 0)) 5 (th6.getD 5 0)) := ⟨_, rfl⟩
    have e7 := e38x
    rw [← hsq7] at e7
    have c7 : ∀ i, i < 6 → sq7.getD i 0 = (jpl (kn.getD 0 0) (kn.getD 1 0) (kn.getD 2 0) (jv ll lg n 0) (jv ll lg n 1) (jv ll lg n 2) (jv ll lg n 3) (jv ll lg n 4) (jv ll lg n 5)).getD i 0 := by rw [hsq7]; refine lt6 ?_ ?_ ?_ ?_ ?_ ?_ <;> (simp only [zset_get]; first | exact c6 0 (by decide) | exact c6 1 (by decide) | exact c6 2 (by decide) | exact c6 3 (by decide) | exact c6 4 (by decide) | exact c6 5 (by decide))
    refine wq_gos (f := 1) (pc2 := 161) (ls2 := [(6, .int 6), (0, .ref 162), (1, .int sd), (2, .int (nI N)), (3, .int 1), (4, .int su), (5, .int (nI i))]) (st2 := [.ref 162, .ref 162]) (h2 := h37x) (dc2 := dc) (ds2 := ds) 5 rfl ?_
    have e41x := (f39x.2 _ _ (wnc (by decide) wn0) e35x)
    refine wq_getf rfl e41x (hC5.2 (48, 222) (by decide)) rfl ?_
    refine wq_gos (f := 1) (pc2 := 167) (ls2 := [(6, .int 6), (0, .ref 162), (1, .int sd), (2, .int (nI N)), (3, .int 1), (4, .int su), (5, .int (nI i))]) (st2 := [.int 5400, .ref 222, .ref 162]) (h2 := h37x) (dc2 := dc) (ds2 := ds) 1 rfl ?_
    have e42x := (f39x.2 _ _ (wnc (by decide) wn0) (f33x.2 _ _ (wnc (by decide) wn0) (f27x.2 _ _ (wnc (by decide) wn0) (f21x.2 _ _ (wnc (by decide) wn0) (f15x.2 _ _ (wnc (by decide) wn0) (f9x.2 _ _ (wnc (by decide) wn0) (f6.2 _ _ (wnc (by decide) wn0) e1x)))))))
    have e43x := (f39x.2 _ _ (wnc (by decide) wn0) (f33x.2 _ _ (wnc (by decide) wn0) (f27x.2 _ _ (wnc (by decide) wn0) (f21x.2 _ _ (wnc (by decide) wn0) (f15x.2 _ _ (wnc (by decide) wn0) (f9x.2 _ _ (wnc (by decide) wn0) (f6.2 _ _ (wnc (by decide) wn0) e2x)))))))
    have e44x := (f39x.2 _ _ (wnc (by decide) wn0) (f33x.2 _ _ (wnc (by decide) wn0) (f27x.2 _ _ (wnc (by decide) wn0) (f21x.2 _ _ (wnc (by decide) wn0) (f15x.2 _ _ (wnc (by decide) wn0) (f9x.2 _ _ (wnc (by decide) wn0) (f6.2 _ _ (wnc (by decide) wn0) e3x)))))))
    have e45x := (f39x.2 _ _ (wnc (by decide) wn0) (f33x.2 _ _ (wnc (by decide) wn0) (f27x.2 _ _ (wnc (by decide) wn0) (f21x.2 _ _ (wnc (by decide) wn0) (f15x.2 _ _ (wnc (by decide) wn0) (f9x.2 _ _ (wnc (by decide) wn0) (f6.2 _ _ (wnc (by decide) wn0) (f5.2 _ _ (wnc (by decide) (wnc (by decide) wn0)) hF))))))))
    have e46x := (f39x.2 _ _ (wnc (by decide) wn0) (f33x.2 _ _ (wnc (by decide) wn0) (f27x.2 _ _ (wnc (by decide) wn0) (f21x.2 _ _ (wnc (by decide) wn0) (f15x.2 _ _ (wnc (by decide) wn0) (f9x.2 _ _ (wnc (by decide) wn0) (f6.2 _ _ (wnc (by decide) wn0) (f5.2 _ _ (wnc (by decide) (wnc (by decide) wn0)) hNn))))))))
    have e47x := (f39x.2 _ _ (wnc (by decide) wn0) (f33x.2 _ _ (wnc (by decide) wn0) (f27x.2 _ _ (wnc (by decide) wn0) (f21x.2 _ _ (wnc (by decide) wn0) (f15x.2 _ _ (wnc (by decide) wn0) (f9x.2 _ _ (wnc (by decide) wn0) (f6.2 _ _ (wnc (by decide) wn0) (f5.2 _ _ (wnc (by decide) (wnc (by decide) wn0)) h200))))))))
    have e48x := (f39x.2 _ _ (wnc (by decide) wn0) (f33x.2 _ _ (wnc (by decide) wn0) (f27x.2 _ _ (wnc (by decide) wn0) (f21x.2 _ _ (wnc (by decide) wn0) (f15x.2 _ _ (wnc (by decide) wn0) (f9x.2 _ _ (wnc (by decide) wn0) (f6.2 _ _ (wnc (by decide) wn0) (f5.2 _ _ (wnc (by decide) (wnc (by decide) wn0)) h202))))))))
    refine wq_inlv (y2 := 226) (as := [.ref 222, .int 5400]) rfl rfl rfl e41x rfl (wq_mono (m_solves (o := 5400) (f34 := .null) (f35 := .null) e41x hC5 e42x e43x e44x e45x (by decide) e46x e7 (Or.inr rfl) e47x e48x) ?_)
    rintro _ ⟨⟨h8, fs8, fo8, wn8, on8, rfl, f8, l8, hM8, hC8, h348, h358, hF8, hfd8, hN8⟩, pa8, pb8, h2008, h2028⟩
    have h4s : 0 ≤ (sq7.getD 4 0).toInt := by rw [c7 4 (by decide)]; exact z_and63 _
    have hns : (sSolL ll lg (kn.getD 0 0) (kn.getD 1 0) (kn.getD 2 0) sq7 64 (-32)).length = (jN ll lg (kn.getD 0 0) (kn.getD 1 0) (kn.getD 2 0) (jv ll lg n 0) (jv ll lg n 1) (jv ll lg n 2) (jv ll lg n 3) (jv ll lg n 4) (jv ll lg n 5)) := by rw [sSolL_c c7]; rfl
    rcases sols_eq (ll := ll) (lg := lg) hw hl9 hh9 h4s with ⟨z1, z2⟩ | ⟨l2, z2, z1, z3, z4⟩
    · rw [z2] at h348 hfd8
      rw [hns] at z1
      have h528 : fs8[52]? = some (.int (nI (jsd n 6))) := by rw [hC8.2 52 ⟨by decide, by decide⟩]; exact h525
      have h348 : fs8[34]? = some (.int (-3)) := h348
      show wq 280 170 [(6, .int 6), (0, .ref 162), (1, .int sd), (2, .int (nI N)), (3, .int 1), (4, .int su), (5, .int (nI i))] [] h8 dc ds _
      refine wq_gos (f := 1) (pc2 := 204) (ls2 := [(6, .int 6), (0, .ref 162), (1, .int sd), (2, .int (nI N)), (3, .int 1), (4, .int su), (5, .int (nI i))]) (st2 := [.ref 162, .int su]) (h2 := h8) (dc2 := dc) (ds2 := ds) 7 rfl ?_
      refine wq_getf rfl hM8 h348 rfl ?_
      refine wq_gos (f := 1) (pc2 := 288) (ls2 := [(5, .int ((nI i) + 1)), (4, .int (su + (0 : Int32))), (6, .int 6), (0, .ref 162), (1, .int sd), (2, .int (nI N)), (3, .int 1)]) (st2 := []) (h2 := h8) (dc2 := dc) (ds2 := ds) 8 rfl ?_
      rw [nI_1]
      refine wq_gos (f := 1) (pc2 := 57) (ls2 := [(5, .int (nI (i + 1))), (4, .int (su + (0 : Int32))), (6, .int 6), (0, .ref 162), (1, .int sd), (2, .int (nI N)), (3, .int 1)]) (st2 := []) (h2 := h8) (dc2 := dc) (ds2 := ds) 1 rfl ?_
      have e49x := (f8.2 _ _ (wnc (by decide) (wnc (by decide) (wnc (by decide) (wnc (by decide) (wnc (by decide) wn0))))) (f39x.2 _ _ (wnc (by decide) wn0) e36x))
      have e50x := (f8.2 _ _ (wnc (by decide) (wnc (by decide) (wnc (by decide) (wnc (by decide) (wnc (by decide) wn0))))) e7)
      have e51x := (f8.2 _ _ (wnc (by decide) (wnc (by decide) (wnc (by decide) (wnc (by decide) (wnc (by decide) wn0))))) (f39x.2 _ _ (wnc (by decide) wn0) (f33x.2 _ _ (wnc (by decide) wn0) (f27x.2 _ _ (wnc (by decide) wn0) (f21x.2 _ _ (wnc (by decide) wn0) (f15x.2 _ _ (wnc (by decide) wn0) (f9x.2 _ _ (wnc (by decide) wn0) (f6.2 _ _ (wnc (by decide) wn0) hD5))))))))
      have e52x := (f8.2 _ _ (wnc (by decide) (wnc (by decide) (wnc (by decide) (wnc (by decide) (wnc (by decide) wn0))))) e42x)
      have e53x := (f8.2 _ _ (wnc (by decide) (wnc (by decide) (wnc (by decide) (wnc (by decide) (wnc (by decide) wn0))))) e43x)
      have e54x := (f8.2 _ _ (wnc (by decide) (wnc (by decide) (wnc (by decide) (wnc (by decide) (wnc (by decide) wn0))))) e44x)
      have hv : jOne ll lg (kn.getD 0 0) (kn.getD 1 0) (kn.getD 2 0) 1 (jv ll lg n 0) (jv ll lg n 1) (jv ll lg n 2) (jv ll lg n 3) (jv ll lg n 4) (jv ll lg n 5) = (0 : Int32) := by unfold jOne; rw [if_neg (by decide), if_pos (show 600 < jN _ _ _ _ _ _ _ _ _ _ _ from z1), if_neg (by decide)]
      have hjc : jCh ll lg (kn.getD 0 0) (kn.getD 1 0) (kn.getD 2 0) 1 (m + 1) n su = jCh ll lg (kn.getD 0 0) (kn.getD 1 0) (kn.getD 2 0) 1 m (jsd n 6) (su + (0 : Int32)) := by show jCh _ _ _ _ _ _ m (jsd n 6) (su + jOne _ _ _ _ _ _ _ _ _ _ _ _) = _; rw [hv]
      refine wq_ls [(0, .ref 162), (1, .int sd), (2, .int (nI N)), (3, .int 1), (4, .int (su + (0 : Int32))), (5, .int (nI (i + 1)))] (show ([0, 1, 2, 3, 4, 5] : List Nat).Nodup by decide) ⟨rfl, rfl, rfl, rfl, rfl, rfl, trivial⟩ ?_
      rw [hjc, show 6 * (m + 1) = 6 * m + 6 by omega, ← jsd_6]
      refine wq_mono (ih (i + 1) (jsd n 6) (su + (0 : Int32)) h8 dc ds (by omega) (jsd_lt hn 6) e52x e53x e54x ⟨fs8, _, _, _, _, _, _, _, hM8, hC8.1, h528, e49x, hF8, h2008, h2028, hN8, e50x, e51x⟩) ?_
      rintro _ ⟨k0, rfl, k1, k2, k3⟩
      exact ⟨k0, rfl, wFr_tr (wFr_tr (wFr_sub f5 (by simp)) (wFr_tr (wFr_sub f6 (by simp)) (wFr_tr (wFr_sub f9x (by simp)) (wFr_tr (wFr_sub f15x (by simp)) (wFr_tr (wFr_sub f21x (by simp)) (wFr_tr (wFr_sub f27x (by simp)) (wFr_tr (wFr_sub f33x (by simp)) (wFr_tr (wFr_sub f39x (by simp)) (wFr_sub f8 (by simp)))))))))) k1, by omega, k3⟩
    · rw [z2] at h348 hfd8
      rw [hns] at z1
      have h528 : fs8[52]? = some (.int (nI (jsd n 6))) := by rw [hC8.2 52 ⟨by decide, by decide⟩]; exact h525
      have h348 : fs8[34]? = some (.int (nI l2.length)) := h348
      show wq 280 170 [(6, .int 6), (0, .ref 162), (1, .int sd), (2, .int (nI N)), (3, .int 1), (4, .int su), (5, .int (nI i))] [] h8 dc ds _
      refine wq_gos (f := 1) (pc2 := 204) (ls2 := [(6, .int 6), (0, .ref 162), (1, .int sd), (2, .int (nI N)), (3, .int 1), (4, .int su), (5, .int (nI i))]) (st2 := [.ref 162, .int su]) (h2 := h8) (dc2 := dc) (ds2 := ds) 7 rfl ?_
      refine wq_getf rfl hM8 h348 rfl ?_
      refine wq_gos (f := 1) (pc2 := 209) (ls2 := [(6, .int 6), (0, .ref 162), (1, .int sd), (2, .int (nI N)), (3, .int 1), (4, .int su), (5, .int (nI i))]) (st2 := [.int (-3), .int (nI l2.length), .int su]) (h2 := h8) (dc2 := dc) (ds2 := ds) 1 rfl ?_
      refine wq_ne2t rfl (nI_m3 (by omega)) ?_
      refine wq_gos (f := 1) (pc2 := 217) (ls2 := [(6, .int 6), (0, .ref 162), (1, .int sd), (2, .int (nI N)), (3, .int 1), (4, .int su), (5, .int (nI i))]) (st2 := [.ref 162, .int su]) (h2 := h8) (dc2 := dc) (ds2 := ds) 1 rfl ?_
      refine wq_getf rfl hM8 h348 rfl ?_
      refine wq_gos (f := 1) (pc2 := 288) (ls2 := [(5, .int ((nI i) + 1)), (4, .int (su + (nI l2.length))), (6, .int 6), (0, .ref 162), (1, .int sd), (2, .int (nI N)), (3, .int 1)]) (st2 := []) (h2 := h8) (dc2 := dc) (ds2 := ds) 4 rfl ?_
      rw [nI_1]
      refine wq_gos (f := 1) (pc2 := 57) (ls2 := [(5, .int (nI (i + 1))), (4, .int (su + (nI l2.length))), (6, .int 6), (0, .ref 162), (1, .int sd), (2, .int (nI N)), (3, .int 1)]) (st2 := []) (h2 := h8) (dc2 := dc) (ds2 := ds) 1 rfl ?_
      have e55x := (f8.2 _ _ (wnc (by decide) (wnc (by decide) (wnc (by decide) (wnc (by decide) (wnc (by decide) wn0))))) (f39x.2 _ _ (wnc (by decide) wn0) e36x))
      have e56x := (f8.2 _ _ (wnc (by decide) (wnc (by decide) (wnc (by decide) (wnc (by decide) (wnc (by decide) wn0))))) e7)
      have e57x := (f8.2 _ _ (wnc (by decide) (wnc (by decide) (wnc (by decide) (wnc (by decide) (wnc (by decide) wn0))))) (f39x.2 _ _ (wnc (by decide) wn0) (f33x.2 _ _ (wnc (by decide) wn0) (f27x.2 _ _ (wnc (by decide) wn0) (f21x.2 _ _ (wnc (by decide) wn0) (f15x.2 _ _ (wnc (by decide) wn0) (f9x.2 _ _ (wnc (by decide) wn0) (f6.2 _ _ (wnc (by decide) wn0) hD5))))))))
      have e58x := (f8.2 _ _ (wnc (by decide) (wnc (by decide) (wnc (by decide) (wnc (by decide) (wnc (by decide) wn0))))) e42x)
      have e59x := (f8.2 _ _ (wnc (by decide) (wnc (by decide) (wnc (by decide) (wnc (by decide) (wnc (by decide) wn0))))) e43x)
      have e60x := (f8.2 _ _ (wnc (by decide) (wnc (by decide) (wnc (by decide) (wnc (by decide) (wnc (by decide) wn0))))) e44x)
      have hv : jOne ll lg (kn.getD 0 0) (kn.getD 1 0) (kn.getD 2 0) 1 (jv ll lg n 0) (jv ll lg n 1) (jv ll lg n 2) (jv ll lg n 3) (jv ll lg n 4) (jv ll lg n 5) = (nI l2.length) := by unfold jOne; rw [if_neg (by decide), if_neg (show ¬ 600 < jN _ _ _ _ _ _ _ _ _ _ _ from (by rw [z1]; omega)), if_neg (by decide), if_pos rfl]; rw [z1]
      have hjc : jCh ll lg (kn.getD 0 0) (kn.getD 1 0) (kn.getD 2 0) 1 (m + 1) n su = jCh ll lg (kn.getD 0 0) (kn.getD 1 0) (kn.getD 2 0) 1 m (jsd n 6) (su + (nI l2.length)) := by show jCh _ _ _ _ _ _ m (jsd n 6) (su + jOne _ _ _ _ _ _ _ _ _ _ _ _) = _; rw [hv]
      refine wq_ls [(0, .ref 162), (1, .int sd), (2, .int (nI N)), (3, .int 1), (4, .int (su + (nI l2.length))), (5, .int (nI (i + 1)))] (show ([0, 1, 2, 3, 4, 5] : List Nat).Nodup by decide) ⟨rfl, rfl, rfl, rfl, rfl, rfl, trivial⟩ ?_
      rw [hjc, show 6 * (m + 1) = 6 * m + 6 by omega, ← jsd_6]
      refine wq_mono (ih (i + 1) (jsd n 6) (su + (nI l2.length)) h8 dc ds (by omega) (jsd_lt hn 6) e58x e59x e60x ⟨fs8, _, _, _, _, _, _, _, hM8, hC8.1, h528, e55x, hF8, h2008, h2028, hN8, e56x, e57x⟩) ?_
      rintro _ ⟨k0, rfl, k1, k2, k3⟩
      exact ⟨k0, rfl, wFr_tr (wFr_tr (wFr_sub f5 (by simp)) (wFr_tr (wFr_sub f6 (by simp)) (wFr_tr (wFr_sub f9x (by simp)) (wFr_tr (wFr_sub f15x (by simp)) (wFr_tr (wFr_sub f21x (by simp)) (wFr_tr (wFr_sub f27x (by simp)) (wFr_tr (wFr_sub f33x (by simp)) (wFr_tr (wFr_sub f39x (by simp)) (wFr_sub f8 (by simp)))))))))) k1, by omega, k3⟩
set_option maxHeartbeats 8000000 in
theorem m_chL2 {kn lo hi ll lg : List Int32} {sd : Int32} {N : Nat} (hN : N ≤ 20) (hw : wLim lo hi ll lg) (hlm : wLm ll lg) (hl9 : 1 ≤ (kn.getD 0 0).toInt ∧ (kn.getD 0 0).toInt ≤ 99) (hh9 : 1 ≤ (kn.getD 1 0).toInt ∧ (kn.getD 1 0).toInt ≤ 99) : ∀ (m i n : Nat) (su : Int32) (h : zH) (dc ds : Nat), i + m = N → n < 2147483648 → zat h 166 = some (.inl (0, 14, kn)) → zat h 168 = some (.inl (0, 12, lo)) → zat h 170 = some (.inl (0, 12, hi)) → wMS h n → wq 280 57 [(0, .ref 162), (1, .int sd), (2, .int (nI N)), (3, .int 2), (4, .int su), (5, .int (nI i))] [] h dc ds (fun r => ∃ (h2 : zH), r = (some (.int (jCh ll lg (kn.getD 0 0) (kn.getD 1 0) (kn.getD 2 0) 2 m n su)), h2, dc, ds) ∧ wFr [162, 230, 194, 222, 196, 204, 200, 202] h h2 ∧ h2.length = h.length ∧ wMS h2 (jsd n (6 * m))) := by
  intro m
  induction m with
  | zero =>
    intro i n su h dc ds him hn hK hO hG hMS
    have q1 := nI_toInt (n := i) (by omega)
    have q2 := nI_toInt (n := N) (by omega)
    refine wq_gos (f := 1) (pc2 := 60) (ls2 := [(0, .ref 162), (1, .int sd), (2, .int (nI N)), (3, .int 2), (4, .int su), (5, .int (nI i))]) (st2 := [.int (nI N), .int (nI i)]) (h2 := h) (dc2 := dc) (ds2 := ds) 2 rfl ?_
    refine wq_ge2t rfl (by omega) ?_
    refine wq_gos (f := 1) (pc2 := 293) (ls2 := [(0, .ref 162), (1, .int sd), (2, .int (nI N)), (3, .int 2), (4, .int su), (5, .int (nI i))]) (st2 := [.int su]) (h2 := h) (dc2 := dc) (ds2 := ds) 1 rfl ?_
    exact wq_ret rfl rfl ⟨h, rfl, wFr_rf _ _, rfl, hMS⟩
  | succ m ih =>
    intro i n su h dc ds him hn hK hO hG hMS
    have q1 := nI_toInt (n := i) (by omega)
    have q2 := nI_toInt (n := N) (by omega)
    obtain ⟨fs, th, on, sq, dq, pa, pb, fo, hM, hC, h52, hT, hF, h200, h202, hNn, hsq, hD⟩ := hMS
    refine wq_gos (f := 1) (pc2 := 60) (ls2 := [(0, .ref 162), (1, .int sd), (2, .int (nI N)), (3, .int 2), (4, .int su), (5, .int (nI i))]) (st2 := [.int (nI N), .int (nI i)]) (h2 := h) (dc2 := dc) (ds2 := ds) 2 rfl ?_
    refine wq_ge2f rfl rfl (by omega) ?_
    refine wq_ls [(0, .ref 162), (1, .int sd), (2, .int (nI N)), (3, .int 2), (4, .int su), (5, .int (nI i))] (show ([0, 1, 2, 3, 4, 5] : List Nat).Nodup by decide) ⟨rfl, rfl, rfl, rfl, rfl, rfl, trivial⟩ ?_
    refine m_draw6 hw (wLm_c hw hlm) hn hM hC hK hO hG h52 hD ?_
    intro h5 fs5 dq5 f5 l5 hM5 hC5 h525 hD5 d0 d1 d2 d3 d4 d5
    refine wq_gos (f := 1) (pc2 := 117) (ls2 := [(0, .ref 162), (1, .int sd), (2, .int (nI N)), (3, .int 2), (4, .int su), (5, .int (nI i))]) (st2 := [.ref 162, .ref 162]) (h2 := h5) (dc2 := dc) (ds2 := ds) 2 rfl ?_
    refine wq_getf rfl hM5 (hC5.2 (53, 230) (by decide)) rfl ?_
    refine wq_gos (f := 1) (pc2 := 121) (ls2 := [(0, .ref 162), (1, .int sd), (2, .int (nI N)), (3, .int 2), (4, .int su), (5, .int (nI i))]) (st2 := [.int 0, .ref 230, .ref 162]) (h2 := h5) (dc2 := dc) (ds2 := ds) 1 rfl ?_
    have e1x := (f5.2 _ _ (wnc (by decide) (wnc (by decide) wn0)) hK)
    have e2x := (f5.2 _ _ (wnc (by decide) (wnc (by decide) wn0)) hO)
    have e3x := (f5.2 _ _ (wnc (by decide) (wnc (by decide) wn0)) hG)
    have e4x := (f5.2 _ _ (wnc (by decide) (wnc (by decide) wn0)) hT)
    refine wq_inlv (y2 := 200) (as := [.ref 230, .int 0]) rfl rfl rfl hM5 rfl (wq_mono (m_placeD hM5 hC5 e1x e2x e3x hD5 e4x d0 d1 d2 d3 d4 d5) ?_)
    rintro _ ⟨h6, th6, rfl, f6, l6, e6, c6⟩
    show wq 280 124 [(0, .ref 162), (1, .int sd), (2, .int (nI N)), (3, .int 2), (4, .int su), (5, .int (nI i))] [] h6 dc ds _
    refine wq_gos (f := 1) (pc2 := 135) (ls2 := [(6, .int 0), (0, .ref 162), (1, .int sd), (2, .int (nI N)), (3, .int 2), (4, .int su), (5, .int (nI i))]) (st2 := [.ref 162]) (h2 := h6) (dc2 := dc) (ds2 := ds) 6 rfl ?_
    have e5x := (f6.2 _ _ (wnc (by decide) wn0) hM5)
    refine wq_getf rfl e5x (hC5.2 (48, 222) (by decide)) rfl ?_
    refine wq_gos (f := 1) (pc2 := 141) (ls2 := [(6, .int 0), (0, .ref 162), (1, .int sd), (2, .int (nI N)), (3, .int 2), (4, .int su), (5, .int (nI i))]) (st2 := [.ref 162, .int 0, .ref 222]) (h2 := h6) (dc2 := dc) (ds2 := ds) 2 rfl ?_
    refine wq_getf rfl e5x (hC5.2 (29, 194) (by decide)) rfl ?_
    refine wq_gos (f := 1) (pc2 := 146) (ls2 := [(6, .int 0), (0, .ref 162), (1, .int sd), (2, .int (nI N)), (3, .int 2), (4, .int su), (5, .int (nI i))]) (st2 := [.int 0, .ref 194, .int 0, .ref 222]) (h2 := h6) (dc2 := dc) (ds2 := ds) 1 rfl ?_
    refine wq_ialdk (k := 0) rfl e6 rfl rfl rfl ?_
    have e6x := (f6.2 _ _ (wnc (by decide) wn0) (f5.2 _ _ (wnc (by decide) (wnc (by decide) wn0)) hsq))
    refine wq_iast rfl e6x rfl rfl ?_
    intro h7x e8x f9x l10x
    have e8x : zat h7x 222 = some (.inl (0, 6, (zset 0 sq 0 (th6.getD 0 0)))) := e8x
    refine wq_gos (f := 1) (pc2 := 135) (ls2 := [(6, .int 1), (0, .ref 162), (1, .int sd), (2, .int (nI N)), (3, .int 2), (4, .int su), (5, .int (nI i))]) (st2 := [.ref 162]) (h2 := h7x) (dc2 := dc) (ds2 := ds) 6 rfl ?_
    have e11x := (f9x.2 _ _ (wnc (by decide) wn0) e5x)
    refine wq_getf rfl e11x (hC5.2 (48, 222) (by decide)) rfl ?_
    refine wq_gos (f := 1) (pc2 := 141) (ls2 := [(6, .int 1), (0, .ref 162), (1, .int sd), (2, .int (nI N)), (3, .int 2), (4, .int su), (5, .int (nI i))]) (st2 := [.ref 162, .int 1, .ref 222]) (h2 := h7x) (dc2 := dc) (ds2 := ds) 2 rfl ?_
    refine wq_getf rfl e11x (hC5.2 (29, 194) (by decide)) rfl ?_
    refine wq_gos (f := 1) (pc2 := 146) (ls2 := [(6, .int 1), (0, .ref 162), (1, .int sd), (2, .int (nI N)), (3, .int 2), (4, .int su), (5, .int (nI i))]) (st2 := [.int 1, .ref 194, .int 1, .ref 222]) (h2 := h7x) (dc2 := dc) (ds2 := ds) 1 rfl ?_
    have e12x := (f9x.2 _ _ (wnc (by decide) wn0) e6)
    refine wq_ialdk (k := 1) rfl e12x rfl rfl rfl ?_
    refine wq_iast rfl e8x rfl rfl ?_
    intro h13x e14x f15x l16x
    have e14x : zat h13x 222 = some (.inl (0, 6, (zset 0 (zset 0 sq 0 (th6.getD 0 0)) 1 (th6.getD 1 0)))) := e14x
    refine wq_gos (f := 1) (pc2 := 135) (ls2 := [(6, .int 2), (0, .ref 162), (1, .int sd), (2, .int (nI N)), (3, .int 2), (4, .int su), (5, .int (nI i))]) (st2 := [.ref 162]) (h2 := h13x) (dc2 := dc) (ds2 := ds) 6 rfl ?_
    have e17x := (f15x.2 _ _ (wnc (by decide) wn0) e11x)
    refine wq_getf rfl e17x (hC5.2 (48, 222) (by decide)) rfl ?_
    refine wq_gos (f := 1) (pc2 := 141) (ls2 := [(6, .int 2), (0, .ref 162), (1, .int sd), (2, .int (nI N)), (3, .int 2), (4, .int su), (5, .int (nI i))]) (st2 := [.ref 162, .int 2, .ref 222]) (h2 := h13x) (dc2 := dc) (ds2 := ds) 2 rfl ?_
    refine wq_getf rfl e17x (hC5.2 (29, 194) (by decide)) rfl ?_
    refine wq_gos (f := 1) (pc2 := 146) (ls2 := [(6, .int 2), (0, .ref 162), (1, .int sd), (2, .int (nI N)), (3, .int 2), (4, .int su), (5, .int (nI i))]) (st2 := [.int 2, .ref 194, .int 2, .ref 222]) (h2 := h13x) (dc2 := dc) (ds2 := ds) 1 rfl ?_
    have e18x := (f15x.2 _ _ (wnc (by decide) wn0) e12x)
    refine wq_ialdk (k := 2) rfl e18x rfl rfl rfl ?_
    refine wq_iast rfl e14x rfl rfl ?_
    intro h19x e20x f21x l22x
    have e20x : zat h19x 222 = some (.inl (0, 6, (zset 0 (zset 0 (zset 0 sq 0 (th6.getD 0 0)) 1 (th6.getD 1 0)) 2 (th6.getD 2 0)))) := e20x
    refine wq_gos (f := 1) (pc2 := 135) (ls2 := [(6, .int 3), (0, .ref 162), (1, .int sd), (2, .int (nI N)), (3, .int 2), (4, .int su), (5, .int (nI i))]) (st2 := [.ref 162]) (h2 := h19x) (dc2 := dc) (ds2 := ds) 6 rfl ?_
    have e23x := (f21x.2 _ _ (wnc (by decide) wn0) e17x)
    refine wq_getf rfl e23x (hC5.2 (48, 222) (by decide)) rfl ?_
    refine wq_gos (f := 1) (pc2 := 141) (ls2 := [(6, .int 3), (0, .ref 162), (1, .int sd), (2, .int (nI N)), (3, .int 2), (4, .int su), (5, .int (nI i))]) (st2 := [.ref 162, .int 3, .ref 222]) (h2 := h19x) (dc2 := dc) (ds2 := ds) 2 rfl ?_
    refine wq_getf rfl e23x (hC5.2 (29, 194) (by decide)) rfl ?_
    refine wq_gos (f := 1) (pc2 := 146) (ls2 := [(6, .int 3), (0, .ref 162), (1, .int sd), (2, .int (nI N)), (3, .int 2), (4, .int su), (5, .int (nI i))]) (st2 := [.int 3, .ref 194, .int 3, .ref 222]) (h2 := h19x) (dc2 := dc) (ds2 := ds) 1 rfl ?_
    have e24x := (f21x.2 _ _ (wnc (by decide) wn0) e18x)
    refine wq_ialdk (k := 3) rfl e24x rfl rfl rfl ?_
    refine wq_iast rfl e20x rfl rfl ?_
    intro h25x e26x f27x l28x
    have e26x : zat h25x 222 = some (.inl (0, 6, (zset 0 (zset 0 (zset 0 (zset 0 sq 0 (th6.getD 0 0)) 1 (th6.getD 1 0)) 2 (th6.getD 2 0)) 3 (th6.getD 3 0)))) := e26x
    refine wq_gos (f := 1) (pc2 := 135) (ls2 := [(6, .int 4), (0, .ref 162), (1, .int sd), (2, .int (nI N)), (3, .int 2), (4, .int su), (5, .int (nI i))]) (st2 := [.ref 162]) (h2 := h25x) (dc2 := dc) (ds2 := ds) 6 rfl ?_
    have e29x := (f27x.2 _ _ (wnc (by decide) wn0) e23x)
    refine wq_getf rfl e29x (hC5.2 (48, 222) (by decide)) rfl ?_
    refine wq_gos (f := 1) (pc2 := 141) (ls2 := [(6, .int 4), (0, .ref 162), (1, .int sd), (2, .int (nI N)), (3, .int 2), (4, .int su), (5, .int (nI i))]) (st2 := [.ref 162, .int 4, .ref 222]) (h2 := h25x) (dc2 := dc) (ds2 := ds) 2 rfl ?_
    refine wq_getf rfl e29x (hC5.2 (29, 194) (by decide)) rfl ?_
    refine wq_gos (f := 1) (pc2 := 146) (ls2 := [(6, .int 4), (0, .ref 162), (1, .int sd), (2, .int (nI N)), (3, .int 2), (4, .int su), (5, .int (nI i))]) (st2 := [.int 4, .ref 194, .int 4, .ref 222]) (h2 := h25x) (dc2 := dc) (ds2 := ds) 1 rfl ?_
    have e30x := (f27x.2 _ _ (wnc (by decide) wn0) e24x)
    refine wq_ialdk (k := 4) rfl e30x rfl rfl rfl ?_
    refine wq_iast rfl e26x rfl rfl ?_
    intro h31x e32x f33x l34x
    have e32x : zat h31x 222 = some (.inl (0, 6, (zset 0 (zset 0 (zset 0 (zset 0 (zset 0 sq 0 (th6.getD 0 0)) 1 (th6.getD 1 0)) 2 (th6.getD 2 0)) 3 (th6.getD 3 0)) 4 (th6.getD 4 0)))) := e32x
    refine wq_gos (f := 1) (pc2 := 135) (ls2 := [(6, .int 5), (0, .ref 162), (1, .int sd), (2, .int (nI N)), (3, .int 2), (4, .int su), (5, .int (nI i))]) (st2 := [.ref 162]) (h2 := h31x) (dc2 := dc) (ds2 := ds) 6 rfl ?_
    have e35x := (f33x.2 _ _ (wnc (by decide) wn0) e29x)
    refine wq_getf rfl e35x (hC5.2 (48, 222) (by decide)) rfl ?_
    refine wq_gos (f := 1) (pc2 := 141) (ls2 := [(6, .int 5), (0, .ref 162), (1, .int sd), (2, .int (nI N)), (3, .int 2), (4, .int su), (5, .int (nI i))]) (st2 := [.ref 162, .int 5, .ref 222]) (h2 := h31x) (dc2 := dc) (ds2 := ds) 2 rfl ?_
    refine wq_getf rfl e35x (hC5.2 (29, 194) (by decide)) rfl ?_
    refine wq_gos (f := 1) (pc2 := 146) (ls2 := [(6, .int 5), (0, .ref 162), (1, .int sd), (2, .int (nI N)), (3, .int 2), (4, .int su), (5, .int (nI i))]) (st2 := [.int 5, .ref 194, .int 5, .ref 222]) (h2 := h31x) (dc2 := dc) (ds2 := ds) 1 rfl ?_
    have e36x := (f33x.2 _ _ (wnc (by decide) wn0) e30x)
    refine wq_ialdk (k := 5) rfl e36x rfl rfl rfl ?_
    refine wq_iast rfl e32x rfl rfl ?_
    intro h37x e38x f39x l40x
    have e38x : zat h37x 222 = some (.inl (0, 6, (zset 0 (zset 0 (zset 0 (zset 0 (zset 0 (zset 0 sq 0 (th6.getD 0 0)) 1 (th6.getD 1 0)) 2 (th6.getD 2 0)) 3 (th6.getD 3 0)) 4 (th6.getD 4 0)) 5 (th6.getD 5 0)))) := e38x
    refine wq_gos (f := 1) (pc2 := 154) (ls2 := [(6, .int 6), (0, .ref 162), (1, .int sd), (2, .int (nI N)), (3, .int 2), (4, .int su), (5, .int (nI i))]) (st2 := []) (h2 := h37x) (dc2 := dc) (ds2 := ds) 5 rfl ?_
    obtain ⟨sq7, hsq7⟩ : ∃ x, x = (zset 0 (zset 0 (zset 0 (zset 0 (zset 0 (zset 0 sq 0 (th6.getD 0 0)) 1 (th6.getD 1 0)) 2 (th6.getD 2 0)) 3 (th6.getD 3 0)) 4 (th6.getD 4 0)) 5 (th6.getD 5 0)) := ⟨_, rfl⟩
    have e7 := e38x
    rw [← hsq7] at e7
    have c7 : ∀ i, i < 6 → sq7.getD i 0 = (jpl (kn.getD 0 0) (kn.getD 1 0) (kn.getD 2 0) (jv ll lg n 0) (jv ll lg n 1) (jv ll lg n 2) (jv ll lg n 3) (jv ll lg n 4) (jv ll lg n 5)).getD i 0 := by rw [hsq7]; refine lt6 ?_ ?_ ?_ ?_ ?_ ?_ <;> (simp only [zset_get]; first | exact c6 0 (by decide) | exact c6 1 (by decide) | exact c6 2 (by decide) | exact c6 3 (by decide) | exact c6 4 (by decide) | exact c6 5 (by decide))
    refine wq_gos (f := 1) (pc2 := 161) (ls2 := [(6, .int 6), (0, .ref 162), (1, .int sd), (2, .int (nI N)), (3, .int 2), (4, .int su), (5, .int (nI i))]) (st2 := [.ref 162, .ref 162]) (h2 := h37x) (dc2 := dc) (ds2 := ds) 5 rfl ?_
    have e41x := (f39x.2 _ _ (wnc (by decide) wn0) e35x)
    refine wq_getf rfl e41x (hC5.2 (48, 222) (by decide)) rfl ?_
    refine wq_gos (f := 1) (pc2 := 167) (ls2 := [(6, .int 6), (0, .ref 162), (1, .int sd), (2, .int (nI N)), (3, .int 2), (4, .int su), (5, .int (nI i))]) (st2 := [.int 5400, .ref 222, .ref 162]) (h2 := h37x) (dc2 := dc) (ds2 := ds) 1 rfl ?_
    have e42x := (f39x.2 _ _ (wnc (by decide) wn0) (f33x.2 _ _ (wnc (by decide) wn0) (f27x.2 _ _ (wnc (by decide) wn0) (f21x.2 _ _ (wnc (by decide) wn0) (f15x.2 _ _ (wnc (by decide) wn0) (f9x.2 _ _ (wnc (by decide) wn0) (f6.2 _ _ (wnc (by decide) wn0) e1x)))))))
    have e43x := (f39x.2 _ _ (wnc (by decide) wn0) (f33x.2 _ _ (wnc (by decide) wn0) (f27x.2 _ _ (wnc (by decide) wn0) (f21x.2 _ _ (wnc (by decide) wn0) (f15x.2 _ _ (wnc (by decide) wn0) (f9x.2 _ _ (wnc (by decide) wn0) (f6.2 _ _ (wnc (by decide) wn0) e2x)))))))
    have e44x := (f39x.2 _ _ (wnc (by decide) wn0) (f33x.2 _ _ (wnc (by decide) wn0) (f27x.2 _ _ (wnc (by decide) wn0) (f21x.2 _ _ (wnc (by decide) wn0) (f15x.2 _ _ (wnc (by decide) wn0) (f9x.2 _ _ (wnc (by decide) wn0) (f6.2 _ _ (wnc (by decide) wn0) e3x)))))))
    have e45x := (f39x.2 _ _ (wnc (by decide) wn0) (f33x.2 _ _ (wnc (by decide) wn0) (f27x.2 _ _ (wnc (by decide) wn0) (f21x.2 _ _ (wnc (by decide) wn0) (f15x.2 _ _ (wnc (by decide) wn0) (f9x.2 _ _ (wnc (by decide) wn0) (f6.2 _ _ (wnc (by decide) wn0) (f5.2 _ _ (wnc (by decide) (wnc (by decide) wn0)) hF))))))))
    have e46x := (f39x.2 _ _ (wnc (by decide) wn0) (f33x.2 _ _ (wnc (by decide) wn0) (f27x.2 _ _ (wnc (by decide) wn0) (f21x.2 _ _ (wnc (by decide) wn0) (f15x.2 _ _ (wnc (by decide) wn0) (f9x.2 _ _ (wnc (by decide) wn0) (f6.2 _ _ (wnc (by decide) wn0) (f5.2 _ _ (wnc (by decide) (wnc (by decide) wn0)) hNn))))))))
    have e47x := (f39x.2 _ _ (wnc (by decide) wn0) (f33x.2 _ _ (wnc (by decide) wn0) (f27x.2 _ _ (wnc (by decide) wn0) (f21x.2 _ _ (wnc (by decide) wn0) (f15x.2 _ _ (wnc (by decide) wn0) (f9x.2 _ _ (wnc (by decide) wn0) (f6.2 _ _ (wnc (by decide) wn0) (f5.2 _ _ (wnc (by decide) (wnc (by decide) wn0)) h200))))))))
    have e48x := (f39x.2 _ _ (wnc (by decide) wn0) (f33x.2 _ _ (wnc (by decide) wn0) (f27x.2 _ _ (wnc (by decide) wn0) (f21x.2 _ _ (wnc (by decide) wn0) (f15x.2 _ _ (wnc (by decide) wn0) (f9x.2 _ _ (wnc (by decide) wn0) (f6.2 _ _ (wnc (by decide) wn0) (f5.2 _ _ (wnc (by decide) (wnc (by decide) wn0)) h202))))))))
    refine wq_inlv (y2 := 226) (as := [.ref 222, .int 5400]) rfl rfl rfl e41x rfl (wq_mono (m_solves (o := 5400) (f34 := .null) (f35 := .null) e41x hC5 e42x e43x e44x e45x (by decide) e46x e7 (Or.inr rfl) e47x e48x) ?_)
    rintro _ ⟨⟨h8, fs8, fo8, wn8, on8, rfl, f8, l8, hM8, hC8, h348, h358, hF8, hfd8, hN8⟩, pa8, pb8, h2008, h2028⟩
    have h4s : 0 ≤ (sq7.getD 4 0).toInt := by rw [c7 4 (by decide)]; exact z_and63 _
    have hns : (sSolL ll lg (kn.getD 0 0) (kn.getD 1 0) (kn.getD 2 0) sq7 64 (-32)).length = (jN ll lg (kn.getD 0 0) (kn.getD 1 0) (kn.getD 2 0) (jv ll lg n 0) (jv ll lg n 1) (jv ll lg n 2) (jv ll lg n 3) (jv ll lg n 4) (jv ll lg n 5)) := by rw [sSolL_c c7]; rfl
    rcases sols_eq (ll := ll) (lg := lg) hw hl9 hh9 h4s with ⟨z1, z2⟩ | ⟨l2, z2, z1, z3, z4⟩
    · rw [z2] at h348 hfd8
      rw [hns] at z1
      have h528 : fs8[52]? = some (.int (nI (jsd n 6))) := by rw [hC8.2 52 ⟨by decide, by decide⟩]; exact h525
      have h348 : fs8[34]? = some (.int (-3)) := h348
      show wq 280 170 [(6, .int 6), (0, .ref 162), (1, .int sd), (2, .int (nI N)), (3, .int 2), (4, .int su), (5, .int (nI i))] [] h8 dc ds _
      refine wq_gos (f := 1) (pc2 := 234) (ls2 := [(6, .int 6), (0, .ref 162), (1, .int sd), (2, .int (nI N)), (3, .int 2), (4, .int su), (5, .int (nI i))]) (st2 := [.ref 162, .int su]) (h2 := h8) (dc2 := dc) (ds2 := ds) 10 rfl ?_
      refine wq_getf rfl hM8 h348 rfl ?_
      refine wq_gos (f := 1) (pc2 := 288) (ls2 := [(5, .int ((nI i) + 1)), (4, .int (su + (0 : Int32))), (6, .int 6), (0, .ref 162), (1, .int sd), (2, .int (nI N)), (3, .int 2)]) (st2 := []) (h2 := h8) (dc2 := dc) (ds2 := ds) 7 rfl ?_
      rw [nI_1]
      refine wq_gos (f := 1) (pc2 := 57) (ls2 := [(5, .int (nI (i + 1))), (4, .int (su + (0 : Int32))), (6, .int 6), (0, .ref 162), (1, .int sd), (2, .int (nI N)), (3, .int 2)]) (st2 := []) (h2 := h8) (dc2 := dc) (ds2 := ds) 1 rfl ?_
      have e49x := (f8.2 _ _ (wnc (by decide) (wnc (by decide) (wnc (by decide) (wnc (by decide) (wnc (by decide) wn0))))) (f39x.2 _ _ (wnc (by decide) wn0) e36x))
      have e50x := (f8.2 _ _ (wnc (by decide) (wnc (by decide) (wnc (by decide) (wnc (by decide) (wnc (by decide) wn0))))) e7)
      have e51x := (f8.2 _ _ (wnc (by decide) (wnc (by decide) (wnc (by decide) (wnc (by decide) (wnc (by decide) wn0))))) (f39x.2 _ _ (wnc (by decide) wn0) (f33x.2 _ _ (wnc (by decide) wn0) (f27x.2 _ _ (wnc (by decide) wn0) (f21x.2 _ _ (wnc (by decide) wn0) (f15x.2 _ _ (wnc (by decide) wn0) (f9x.2 _ _ (wnc (by decide) wn0) (f6.2 _ _ (wnc (by decide) wn0) hD5))))))))
      have e52x := (f8.2 _ _ (wnc (by decide) (wnc (by decide) (wnc (by decide) (wnc (by decide) (wnc (by decide) wn0))))) e42x)
      have e53x := (f8.2 _ _ (wnc (by decide) (wnc (by decide) (wnc (by decide) (wnc (by decide) (wnc (by decide) wn0))))) e43x)
      have e54x := (f8.2 _ _ (wnc (by decide) (wnc (by decide) (wnc (by decide) (wnc (by decide) (wnc (by decide) wn0))))) e44x)
      have hv : jOne ll lg (kn.getD 0 0) (kn.getD 1 0) (kn.getD 2 0) 2 (jv ll lg n 0) (jv ll lg n 1) (jv ll lg n 2) (jv ll lg n 3) (jv ll lg n 4) (jv ll lg n 5) = (0 : Int32) := by unfold jOne; rw [if_neg (by decide), if_pos (show 600 < jN _ _ _ _ _ _ _ _ _ _ _ from z1), if_neg (by decide)]
      have hjc : jCh ll lg (kn.getD 0 0) (kn.getD 1 0) (kn.getD 2 0) 2 (m + 1) n su = jCh ll lg (kn.getD 0 0) (kn.getD 1 0) (kn.getD 2 0) 2 m (jsd n 6) (su + (0 : Int32)) := by show jCh _ _ _ _ _ _ m (jsd n 6) (su + jOne _ _ _ _ _ _ _ _ _ _ _ _) = _; rw [hv]
      refine wq_ls [(0, .ref 162), (1, .int sd), (2, .int (nI N)), (3, .int 2), (4, .int (su + (0 : Int32))), (5, .int (nI (i + 1)))] (show ([0, 1, 2, 3, 4, 5] : List Nat).Nodup by decide) ⟨rfl, rfl, rfl, rfl, rfl, rfl, trivial⟩ ?_
      rw [hjc, show 6 * (m + 1) = 6 * m + 6 by omega, ← jsd_6]
      refine wq_mono (ih (i + 1) (jsd n 6) (su + (0 : Int32)) h8 dc ds (by omega) (jsd_lt hn 6) e52x e53x e54x ⟨fs8, _, _, _, _, _, _, _, hM8, hC8.1, h528, e49x, hF8, h2008, h2028, hN8, e50x, e51x⟩) ?_
      rintro _ ⟨k0, rfl, k1, k2, k3⟩
      exact ⟨k0, rfl, wFr_tr (wFr_tr (wFr_sub f5 (by simp)) (wFr_tr (wFr_sub f6 (by simp)) (wFr_tr (wFr_sub f9x (by simp)) (wFr_tr (wFr_sub f15x (by simp)) (wFr_tr (wFr_sub f21x (by simp)) (wFr_tr (wFr_sub f27x (by simp)) (wFr_tr (wFr_sub f33x (by simp)) (wFr_tr (wFr_sub f39x (by simp)) (wFr_sub f8 (by simp)))))))))) k1, by omega, k3⟩
    · rw [z2] at h348 hfd8
      rw [hns] at z1
      have h528 : fs8[52]? = some (.int (nI (jsd n 6))) := by rw [hC8.2 52 ⟨by decide, by decide⟩]; exact h525
      have h348 : fs8[34]? = some (.int (nI l2.length)) := h348
      show wq 280 170 [(6, .int 6), (0, .ref 162), (1, .int sd), (2, .int (nI N)), (3, .int 2), (4, .int su), (5, .int (nI i))] [] h8 dc ds _
      refine wq_gos (f := 1) (pc2 := 234) (ls2 := [(6, .int 6), (0, .ref 162), (1, .int sd), (2, .int (nI N)), (3, .int 2), (4, .int su), (5, .int (nI i))]) (st2 := [.ref 162, .int su]) (h2 := h8) (dc2 := dc) (ds2 := ds) 10 rfl ?_
      refine wq_getf rfl hM8 h348 rfl ?_
      refine wq_gos (f := 1) (pc2 := 239) (ls2 := [(6, .int 6), (0, .ref 162), (1, .int sd), (2, .int (nI N)), (3, .int 2), (4, .int su), (5, .int (nI i))]) (st2 := [.int (-3), .int (nI l2.length), .int su]) (h2 := h8) (dc2 := dc) (ds2 := ds) 1 rfl ?_
      refine wq_eq2f rfl rfl (nI_m3 (by omega)) ?_
      refine wq_gos (f := 1) (pc2 := 244) (ls2 := [(6, .int 6), (0, .ref 162), (1, .int sd), (2, .int (nI N)), (3, .int 2), (4, .int su), (5, .int (nI i))]) (st2 := [.ref 162, .ref 162, .int su]) (h2 := h8) (dc2 := dc) (ds2 := ds) 2 rfl ?_
      refine wq_getf rfl hM8 (hC8.1.2 (53, 230) (by decide)) rfl ?_
      have hpm : jpack (jv ll lg n 0) (jv ll lg n 1) (jv ll lg n 2) (jv ll lg n 3) (jv ll lg n 4) (jv ll lg n 5) ∈ l2 := z4.mem_iff.mpr (List.mem_map.mpr ⟨_, (by rw [tCls_c c7]; exact tOwnJ hl9 hlm n), rfl⟩)
      obtain ⟨i9, hi9, hx9⟩ := List.mem_iff_getElem.mp hpm
      have hi8 : l2[i9]? = some (jpack (jv ll lg n 0) (jv ll lg n 1) (jv ll lg n 2) (jv ll lg n 3) (jv ll lg n 4) (jv ll lg n 5)) := by rw [List.getElem?_eq_getElem hi9, hx9]
      have e55x := (f8.2 _ _ (wnc (by decide) (wnc (by decide) (wnc (by decide) (wnc (by decide) (wnc (by decide) wn0))))) (f39x.2 _ _ (wnc (by decide) wn0) (f33x.2 _ _ (wnc (by decide) wn0) (f27x.2 _ _ (wnc (by decide) wn0) (f21x.2 _ _ (wnc (by decide) wn0) (f15x.2 _ _ (wnc (by decide) wn0) (f9x.2 _ _ (wnc (by decide) wn0) (f6.2 _ _ (wnc (by decide) wn0) hD5))))))))
      refine wq_inlv (y2 := 279) (as := [.ref 230]) rfl rfl rfl hM8 rfl (wq_T (m_among hM8 hC8.1 h348 hF8 e55x d0 d1 d2 d3 d4 d5 (by omega) hi9 (hfd8.2 i9 _ hi8)) ?_)
      show wq 280 250 [(6, .int 6), (0, .ref 162), (1, .int sd), (2, .int (nI N)), (3, .int 2), (4, .int su), (5, .int (nI i))] [.int 1, .int su] h8 dc ds _
      refine wq_gos (f := 1) (pc2 := 288) (ls2 := [(5, .int ((nI i) + 1)), (4, .int (su + (1 : Int32))), (6, .int 6), (0, .ref 162), (1, .int sd), (2, .int (nI N)), (3, .int 2)]) (st2 := []) (h2 := h8) (dc2 := dc) (ds2 := ds) 7 rfl ?_
      rw [nI_1]
      refine wq_gos (f := 1) (pc2 := 57) (ls2 := [(5, .int (nI (i + 1))), (4, .int (su + (1 : Int32))), (6, .int 6), (0, .ref 162), (1, .int sd), (2, .int (nI N)), (3, .int 2)]) (st2 := []) (h2 := h8) (dc2 := dc) (ds2 := ds) 1 rfl ?_
      have e56x := (f8.2 _ _ (wnc (by decide) (wnc (by decide) (wnc (by decide) (wnc (by decide) (wnc (by decide) wn0))))) (f39x.2 _ _ (wnc (by decide) wn0) e36x))
      have e57x := (f8.2 _ _ (wnc (by decide) (wnc (by decide) (wnc (by decide) (wnc (by decide) (wnc (by decide) wn0))))) e7)
      have e58x := (f8.2 _ _ (wnc (by decide) (wnc (by decide) (wnc (by decide) (wnc (by decide) (wnc (by decide) wn0))))) e42x)
      have e59x := (f8.2 _ _ (wnc (by decide) (wnc (by decide) (wnc (by decide) (wnc (by decide) (wnc (by decide) wn0))))) e43x)
      have e60x := (f8.2 _ _ (wnc (by decide) (wnc (by decide) (wnc (by decide) (wnc (by decide) (wnc (by decide) wn0))))) e44x)
      have hv : jOne ll lg (kn.getD 0 0) (kn.getD 1 0) (kn.getD 2 0) 2 (jv ll lg n 0) (jv ll lg n 1) (jv ll lg n 2) (jv ll lg n 3) (jv ll lg n 4) (jv ll lg n 5) = (1 : Int32) := by unfold jOne; rw [if_neg (by decide), if_neg (show ¬ 600 < jN _ _ _ _ _ _ _ _ _ _ _ from (by rw [z1]; omega)), if_neg (by decide), if_neg (by decide)]
      have hjc : jCh ll lg (kn.getD 0 0) (kn.getD 1 0) (kn.getD 2 0) 2 (m + 1) n su = jCh ll lg (kn.getD 0 0) (kn.getD 1 0) (kn.getD 2 0) 2 m (jsd n 6) (su + (1 : Int32)) := by show jCh _ _ _ _ _ _ m (jsd n 6) (su + jOne _ _ _ _ _ _ _ _ _ _ _ _) = _; rw [hv]
      refine wq_ls [(0, .ref 162), (1, .int sd), (2, .int (nI N)), (3, .int 2), (4, .int (su + (1 : Int32))), (5, .int (nI (i + 1)))] (show ([0, 1, 2, 3, 4, 5] : List Nat).Nodup by decide) ⟨rfl, rfl, rfl, rfl, rfl, rfl, trivial⟩ ?_
      rw [hjc, show 6 * (m + 1) = 6 * m + 6 by omega, ← jsd_6]
      refine wq_mono (ih (i + 1) (jsd n 6) (su + (1 : Int32)) h8 dc ds (by omega) (jsd_lt hn 6) e58x e59x e60x ⟨fs8, _, _, _, _, _, _, _, hM8, hC8.1, h528, e56x, hF8, h2008, h2028, hN8, e57x, e55x⟩) ?_
      rintro _ ⟨k0, rfl, k1, k2, k3⟩
      exact ⟨k0, rfl, wFr_tr (wFr_tr (wFr_sub f5 (by simp)) (wFr_tr (wFr_sub f6 (by simp)) (wFr_tr (wFr_sub f9x (by simp)) (wFr_tr (wFr_sub f15x (by simp)) (wFr_tr (wFr_sub f21x (by simp)) (wFr_tr (wFr_sub f27x (by simp)) (wFr_tr (wFr_sub f33x (by simp)) (wFr_tr (wFr_sub f39x (by simp)) (wFr_sub f8 (by simp)))))))))) k1, by omega, k3⟩
set_option maxHeartbeats 8000000 in
theorem m_chL3 {kn lo hi ll lg : List Int32} {sd : Int32} {N : Nat} (hN : N ≤ 20) (hw : wLim lo hi ll lg) (hlm : wLm ll lg) (hl9 : 1 ≤ (kn.getD 0 0).toInt ∧ (kn.getD 0 0).toInt ≤ 99) (hh9 : 1 ≤ (kn.getD 1 0).toInt ∧ (kn.getD 1 0).toInt ≤ 99) : ∀ (m i n : Nat) (su : Int32) (h : zH) (dc ds : Nat), i + m = N → n < 2147483648 → zat h 166 = some (.inl (0, 14, kn)) → zat h 168 = some (.inl (0, 12, lo)) → zat h 170 = some (.inl (0, 12, hi)) → wMS h n → wq 280 57 [(0, .ref 162), (1, .int sd), (2, .int (nI N)), (3, .int 3), (4, .int su), (5, .int (nI i))] [] h dc ds (fun r => ∃ (h2 : zH), r = (some (.int (jCh ll lg (kn.getD 0 0) (kn.getD 1 0) (kn.getD 2 0) 3 m n su)), h2, dc, ds) ∧ wFr [162, 230, 194, 222, 196, 204, 200, 202] h h2 ∧ h2.length = h.length ∧ wMS h2 (jsd n (6 * m))) := by
  intro m
  induction m with
  | zero =>
    intro i n su h dc ds him hn hK hO hG hMS
    have q1 := nI_toInt (n := i) (by omega)
    have q2 := nI_toInt (n := N) (by omega)
    refine wq_gos (f := 1) (pc2 := 60) (ls2 := [(0, .ref 162), (1, .int sd), (2, .int (nI N)), (3, .int 3), (4, .int su), (5, .int (nI i))]) (st2 := [.int (nI N), .int (nI i)]) (h2 := h) (dc2 := dc) (ds2 := ds) 2 rfl ?_
    refine wq_ge2t rfl (by omega) ?_
    refine wq_gos (f := 1) (pc2 := 293) (ls2 := [(0, .ref 162), (1, .int sd), (2, .int (nI N)), (3, .int 3), (4, .int su), (5, .int (nI i))]) (st2 := [.int su]) (h2 := h) (dc2 := dc) (ds2 := ds) 1 rfl ?_
    exact wq_ret rfl rfl ⟨h, rfl, wFr_rf _ _, rfl, hMS⟩
  | succ m ih =>
    intro i n su h dc ds him hn hK hO hG hMS
    have q1 := nI_toInt (n := i) (by omega)
    have q2 := nI_toInt (n := N) (by omega)
    obtain ⟨fs, th, on, sq, dq, pa, pb, fo, hM, hC, h52, hT, hF, h200, h202, hNn, hsq, hD⟩ := hMS
    refine wq_gos (f := 1) (pc2 := 60) (ls2 := [(0, .ref 162), (1, .int sd), (2, .int (nI N)), (3, .int 3), (4, .int su), (5, .int (nI i))]) (st2 := [.int (nI N), .int (nI i)]) (h2 := h) (dc2 := dc) (ds2 := ds) 2 rfl ?_
    refine wq_ge2f rfl rfl (by omega) ?_
    refine wq_ls [(0, .ref 162), (1, .int sd), (2, .int (nI N)), (3, .int 3), (4, .int su), (5, .int (nI i))] (show ([0, 1, 2, 3, 4, 5] : List Nat).Nodup by decide) ⟨rfl, rfl, rfl, rfl, rfl, rfl, trivial⟩ ?_
    refine m_draw6 hw (wLm_c hw hlm) hn hM hC hK hO hG h52 hD ?_
    intro h5 fs5 dq5 f5 l5 hM5 hC5 h525 hD5 d0 d1 d2 d3 d4 d5
    refine wq_gos (f := 1) (pc2 := 117) (ls2 := [(0, .ref 162), (1, .int sd), (2, .int (nI N)), (3, .int 3), (4, .int su), (5, .int (nI i))]) (st2 := [.ref 162, .ref 162]) (h2 := h5) (dc2 := dc) (ds2 := ds) 2 rfl ?_
    refine wq_getf rfl hM5 (hC5.2 (53, 230) (by decide)) rfl ?_
    refine wq_gos (f := 1) (pc2 := 121) (ls2 := [(0, .ref 162), (1, .int sd), (2, .int (nI N)), (3, .int 3), (4, .int su), (5, .int (nI i))]) (st2 := [.int 0, .ref 230, .ref 162]) (h2 := h5) (dc2 := dc) (ds2 := ds) 1 rfl ?_
    have e1x := (f5.2 _ _ (wnc (by decide) (wnc (by decide) wn0)) hK)
    have e2x := (f5.2 _ _ (wnc (by decide) (wnc (by decide) wn0)) hO)
    have e3x := (f5.2 _ _ (wnc (by decide) (wnc (by decide) wn0)) hG)
    have e4x := (f5.2 _ _ (wnc (by decide) (wnc (by decide) wn0)) hT)
    refine wq_inlv (y2 := 200) (as := [.ref 230, .int 0]) rfl rfl rfl hM5 rfl (wq_mono (m_placeD hM5 hC5 e1x e2x e3x hD5 e4x d0 d1 d2 d3 d4 d5) ?_)
    rintro _ ⟨h6, th6, rfl, f6, l6, e6, c6⟩
    show wq 280 124 [(0, .ref 162), (1, .int sd), (2, .int (nI N)), (3, .int 3), (4, .int su), (5, .int (nI i))] [] h6 dc ds _
    refine wq_gos (f := 1) (pc2 := 135) (ls2 := [(6, .int 0), (0, .ref 162), (1, .int sd), (2, .int (nI N)), (3, .int 3), (4, .int su), (5, .int (nI i))]) (st2 := [.ref 162]) (h2 := h6) (dc2 := dc) (ds2 := ds) 6 rfl ?_
    have e5x := (f6.2 _ _ (wnc (by decide) wn0) hM5)
    refine wq_getf rfl e5x (hC5.2 (48, 222) (by decide)) rfl ?_
    refine wq_gos (f := 1) (pc2 := 141) (ls2 := [(6, .int 0), (0, .ref 162), (1, .int sd), (2, .int (nI N)), (3, .int 3), (4, .int su), (5, .int (nI i))]) (st2 := [.ref 162, .int 0, .ref 222]) (h2 := h6) (dc2 := dc) (ds2 := ds) 2 rfl ?_
    refine wq_getf rfl e5x (hC5.2 (29, 194) (by decide)) rfl ?_
    refine wq_gos (f := 1) (pc2 := 146) (ls2 := [(6, .int 0), (0, .ref 162), (1, .int sd), (2, .int (nI N)), (3, .int 3), (4, .int su), (5, .int (nI i))]) (st2 := [.int 0, .ref 194, .int 0, .ref 222]) (h2 := h6) (dc2 := dc) (ds2 := ds) 1 rfl ?_
    refine wq_ialdk (k := 0) rfl e6 rfl rfl rfl ?_
    have e6x := (f6.2 _ _ (wnc (by decide) wn0) (f5.2 _ _ (wnc (by decide) (wnc (by decide) wn0)) hsq))
    refine wq_iast rfl e6x rfl rfl ?_
    intro h7x e8x f9x l10x
    have e8x : zat h7x 222 = some (.inl (0, 6, (zset 0 sq 0 (th6.getD 0 0)))) := e8x
    refine wq_gos (f := 1) (pc2 := 135) (ls2 := [(6, .int 1), (0, .ref 162), (1, .int sd), (2, .int (nI N)), (3, .int 3), (4, .int su), (5, .int (nI i))]) (st2 := [.ref 162]) (h2 := h7x) (dc2 := dc) (ds2 := ds) 6 rfl ?_
    have e11x := (f9x.2 _ _ (wnc (by decide) wn0) e5x)
    refine wq_getf rfl e11x (hC5.2 (48, 222) (by decide)) rfl ?_
    refine wq_gos (f := 1) (pc2 := 141) (ls2 := [(6, .int 1), (0, .ref 162), (1, .int sd), (2, .int (nI N)), (3, .int 3), (4, .int su), (5, .int (nI i))]) (st2 := [.ref 162, .int 1, .ref 222]) (h2 := h7x) (dc2 := dc) (ds2 := ds) 2 rfl ?_
    refine wq_getf rfl e11x (hC5.2 (29, 194) (by decide)) rfl ?_
    refine wq_gos (f := 1) (pc2 := 146) (ls2 := [(6, .int 1), (0, .ref 162), (1, .int sd), (2, .int (nI N)), (3, .int 3), (4, .int su), (5, .int (nI i))]) (st2 := [.int 1, .ref 194, .int 1, .ref 222]) (h2 := h7x) (dc2 := dc) (ds2 := ds) 1 rfl ?_
    have e12x := (f9x.2 _ _ (wnc (by decide) wn0) e6)
    refine wq_ialdk (k := 1) rfl e12x rfl rfl rfl ?_
    refine wq_iast rfl e8x rfl rfl ?_
    intro h13x e14x f15x l16x
    have e14x : zat h13x 222 = some (.inl (0, 6, (zset 0 (zset 0 sq 0 (th6.getD 0 0)) 1 (th6.getD 1 0)))) := e14x
    refine wq_gos (f := 1) (pc2 := 135) (ls2 := [(6, .int 2), (0, .ref 162), (1, .int sd), (2, .int (nI N)), (3, .int 3), (4, .int su), (5, .int (nI i))]) (st2 := [.ref 162]) (h2 := h13x) (dc2 := dc) (ds2 := ds) 6 rfl ?_
    have e17x := (f15x.2 _ _ (wnc (by decide) wn0) e11x)
    refine wq_getf rfl e17x (hC5.2 (48, 222) (by decide)) rfl ?_
    refine wq_gos (f := 1) (pc2 := 141) (ls2 := [(6, .int 2), (0, .ref 162), (1, .int sd), (2, .int (nI N)), (3, .int 3), (4, .int su), (5, .int (nI i))]) (st2 := [.ref 162, .int 2, .ref 222]) (h2 := h13x) (dc2 := dc) (ds2 := ds) 2 rfl ?_
    refine wq_getf rfl e17x (hC5.2 (29, 194) (by decide)) rfl ?_
    refine wq_gos (f := 1) (pc2 := 146) (ls2 := [(6, .int 2), (0, .ref 162), (1, .int sd), (2, .int (nI N)), (3, .int 3), (4, .int su), (5, .int (nI i))]) (st2 := [.int 2, .ref 194, .int 2, .ref 222]) (h2 := h13x) (dc2 := dc) (ds2 := ds) 1 rfl ?_
    have e18x := (f15x.2 _ _ (wnc (by decide) wn0) e12x)
    refine wq_ialdk (k := 2) rfl e18x rfl rfl rfl ?_
    refine wq_iast rfl e14x rfl rfl ?_
    intro h19x e20x f21x l22x
    have e20x : zat h19x 222 = some (.inl (0, 6, (zset 0 (zset 0 (zset 0 sq 0 (th6.getD 0 0)) 1 (th6.getD 1 0)) 2 (th6.getD 2 0)))) := e20x
    refine wq_gos (f := 1) (pc2 := 135) (ls2 := [(6, .int 3), (0, .ref 162), (1, .int sd), (2, .int (nI N)), (3, .int 3), (4, .int su), (5, .int (nI i))]) (st2 := [.ref 162]) (h2 := h19x) (dc2 := dc) (ds2 := ds) 6 rfl ?_
    have e23x := (f21x.2 _ _ (wnc (by decide) wn0) e17x)
    refine wq_getf rfl e23x (hC5.2 (48, 222) (by decide)) rfl ?_
    refine wq_gos (f := 1) (pc2 := 141) (ls2 := [(6, .int 3), (0, .ref 162), (1, .int sd), (2, .int (nI N)), (3, .int 3), (4, .int su), (5, .int (nI i))]) (st2 := [.ref 162, .int 3, .ref 222]) (h2 := h19x) (dc2 := dc) (ds2 := ds) 2 rfl ?_
    refine wq_getf rfl e23x (hC5.2 (29, 194) (by decide)) rfl ?_
    refine wq_gos (f := 1) (pc2 := 146) (ls2 := [(6, .int 3), (0, .ref 162), (1, .int sd), (2, .int (nI N)), (3, .int 3), (4, .int su), (5, .int (nI i))]) (st2 := [.int 3, .ref 194, .int 3, .ref 222]) (h2 := h19x) (dc2 := dc) (ds2 := ds) 1 rfl ?_
    have e24x := (f21x.2 _ _ (wnc (by decide) wn0) e18x)
    refine wq_ialdk (k := 3) rfl e24x rfl rfl rfl ?_
    refine wq_iast rfl e20x rfl rfl ?_
    intro h25x e26x f27x l28x
    have e26x : zat h25x 222 = some (.inl (0, 6, (zset 0 (zset 0 (zset 0 (zset 0 sq 0 (th6.getD 0 0)) 1 (th6.getD 1 0)) 2 (th6.getD 2 0)) 3 (th6.getD 3 0)))) := e26x
    refine wq_gos (f := 1) (pc2 := 135) (ls2 := [(6, .int 4), (0, .ref 162), (1, .int sd), (2, .int (nI N)), (3, .int 3), (4, .int su), (5, .int (nI i))]) (st2 := [.ref 162]) (h2 := h25x) (dc2 := dc) (ds2 := ds) 6 rfl ?_
    have e29x := (f27x.2 _ _ (wnc (by decide) wn0) e23x)
    refine wq_getf rfl e29x (hC5.2 (48, 222) (by decide)) rfl ?_
    refine wq_gos (f := 1) (pc2 := 141) (ls2 := [(6, .int 4), (0, .ref 162), (1, .int sd), (2, .int (nI N)), (3, .int 3), (4, .int su), (5, .int (nI i))]) (st2 := [.ref 162, .int 4, .ref 222]) (h2 := h25x) (dc2 := dc) (ds2 := ds) 2 rfl ?_
    refine wq_getf rfl e29x (hC5.2 (29, 194) (by decide)) rfl ?_
    refine wq_gos (f := 1) (pc2 := 146) (ls2 := [(6, .int 4), (0, .ref 162), (1, .int sd), (2, .int (nI N)), (3, .int 3), (4, .int su), (5, .int (nI i))]) (st2 := [.int 4, .ref 194, .int 4, .ref 222]) (h2 := h25x) (dc2 := dc) (ds2 := ds) 1 rfl ?_
    have e30x := (f27x.2 _ _ (wnc (by decide) wn0) e24x)
    refine wq_ialdk (k := 4) rfl e30x rfl rfl rfl ?_
    refine wq_iast rfl e26x rfl rfl ?_
    intro h31x e32x f33x l34x
    have e32x : zat h31x 222 = some (.inl (0, 6, (zset 0 (zset 0 (zset 0 (zset 0 (zset 0 sq 0 (th6.getD 0 0)) 1 (th6.getD 1 0)) 2 (th6.getD 2 0)) 3 (th6.getD 3 0)) 4 (th6.getD 4 0)))) := e32x
    refine wq_gos (f := 1) (pc2 := 135) (ls2 := [(6, .int 5), (0, .ref 162), (1, .int sd), (2, .int (nI N)), (3, .int 3), (4, .int su), (5, .int (nI i))]) (st2 := [.ref 162]) (h2 := h31x) (dc2 := dc) (ds2 := ds) 6 rfl ?_
    have e35x := (f33x.2 _ _ (wnc (by decide) wn0) e29x)
    refine wq_getf rfl e35x (hC5.2 (48, 222) (by decide)) rfl ?_
    refine wq_gos (f := 1) (pc2 := 141) (ls2 := [(6, .int 5), (0, .ref 162), (1, .int sd), (2, .int (nI N)), (3, .int 3), (4, .int su), (5, .int (nI i))]) (st2 := [.ref 162, .int 5, .ref 222]) (h2 := h31x) (dc2 := dc) (ds2 := ds) 2 rfl ?_
    refine wq_getf rfl e35x (hC5.2 (29, 194) (by decide)) rfl ?_
    refine wq_gos (f := 1) (pc2 := 146) (ls2 := [(6, .int 5), (0, .ref 162), (1, .int sd), (2, .int (nI N)), (3, .int 3), (4, .int su), (5, .int (nI i))]) (st2 := [.int 5, .ref 194, .int 5, .ref 222]) (h2 := h31x) (dc2 := dc) (ds2 := ds) 1 rfl ?_
    have e36x := (f33x.2 _ _ (wnc (by decide) wn0) e30x)
    refine wq_ialdk (k := 5) rfl e36x rfl rfl rfl ?_
    refine wq_iast rfl e32x rfl rfl ?_
    intro h37x e38x f39x l40x
    have e38x : zat h37x 222 = some (.inl (0, 6, (zset 0 (zset 0 (zset 0 (zset 0 (zset 0 (zset 0 sq 0 (th6.getD 0 0)) 1 (th6.getD 1 0)) 2 (th6.getD 2 0)) 3 (th6.getD 3 0)) 4 (th6.getD 4 0)) 5 (th6.getD 5 0)))) := e38x
    refine wq_gos (f := 1) (pc2 := 154) (ls2 := [(6, .int 6), (0, .ref 162), (1, .int sd), (2, .int (nI N)), (3, .int 3), (4, .int su), (5, .int (nI i))]) (st2 := []) (h2 := h37x) (dc2 := dc) (ds2 := ds) 5 rfl ?_
    obtain ⟨sq7, hsq7⟩ : ∃ x, x = (zset 0 (zset 0 (zset 0 (zset 0 (zset 0 (zset 0 sq 0 (th6.getD 0 0)) 1 (th6.getD 1 0)) 2 (th6.getD 2 0)) 3 (th6.getD 3 0)) 4 (th6.getD 4 0)) 5 (th6.getD 5 0)) := ⟨_, rfl⟩
    have e7 := e38x
    rw [← hsq7] at e7
    have c7 : ∀ i, i < 6 → sq7.getD i 0 = (jpl (kn.getD 0 0) (kn.getD 1 0) (kn.getD 2 0) (jv ll lg n 0) (jv ll lg n 1) (jv ll lg n 2) (jv ll lg n 3) (jv ll lg n 4) (jv ll lg n 5)).getD i 0 := by rw [hsq7]; refine lt6 ?_ ?_ ?_ ?_ ?_ ?_ <;> (simp only [zset_get]; first | exact c6 0 (by decide) | exact c6 1 (by decide) | exact c6 2 (by decide) | exact c6 3 (by decide) | exact c6 4 (by decide) | exact c6 5 (by decide))
    refine wq_gos (f := 1) (pc2 := 267) (ls2 := [(6, .int 6), (0, .ref 162), (1, .int sd), (2, .int (nI N)), (3, .int 3), (4, .int su), (5, .int (nI i))]) (st2 := [.ref 162, .int su]) (h2 := h37x) (dc2 := dc) (ds2 := ds) 13 rfl ?_
    have e41x := (f39x.2 _ _ (wnc (by decide) wn0) e35x)
    refine wq_getf rfl e41x (hC5.2 (53, 230) (by decide)) rfl ?_
    refine wq_gos (f := 1) (pc2 := 271) (ls2 := [(6, .int 6), (0, .ref 162), (1, .int sd), (2, .int (nI N)), (3, .int 3), (4, .int su), (5, .int (nI i))]) (st2 := [.int 0, .ref 230, .int su]) (h2 := h37x) (dc2 := dc) (ds2 := ds) 1 rfl ?_
    have e42x := (f39x.2 _ _ (wnc (by decide) wn0) (f33x.2 _ _ (wnc (by decide) wn0) (f27x.2 _ _ (wnc (by decide) wn0) (f21x.2 _ _ (wnc (by decide) wn0) (f15x.2 _ _ (wnc (by decide) wn0) (f9x.2 _ _ (wnc (by decide) wn0) (f6.2 _ _ (wnc (by decide) wn0) hD5)))))))
    refine wq_inl (y2 := 206) (as := [.ref 230, .int 0]) rfl rfl rfl (wq_T (m_meas e42x d1 d3) ?_)
    show wq 280 274 [(6, .int 6), (0, .ref 162), (1, .int sd), (2, .int (nI N)), (3, .int 3), (4, .int su), (5, .int (nI i))] [.int (jme (jv ll lg n 1) (jv ll lg n 3)), .int su] h37x dc ds _
    refine wq_ne0 rfl rfl (fun b43x => ?_) (fun b43x => ?_)
    · refine wq_gos (f := 1) (pc2 := 288) (ls2 := [(5, .int ((nI i) + 1)), (4, .int (su + (0 : Int32))), (6, .int 6), (0, .ref 162), (1, .int sd), (2, .int (nI N)), (3, .int 3)]) (st2 := []) (h2 := h37x) (dc2 := dc) (ds2 := ds) 4 rfl ?_
      rw [nI_1]
      refine wq_gos (f := 1) (pc2 := 57) (ls2 := [(5, .int (nI (i + 1))), (4, .int (su + (0 : Int32))), (6, .int 6), (0, .ref 162), (1, .int sd), (2, .int (nI N)), (3, .int 3)]) (st2 := []) (h2 := h37x) (dc2 := dc) (ds2 := ds) 1 rfl ?_
      have e44x := (f39x.2 _ _ (wnc (by decide) wn0) e36x)
      have e45x := (f39x.2 _ _ (wnc (by decide) wn0) (f33x.2 _ _ (wnc (by decide) wn0) (f27x.2 _ _ (wnc (by decide) wn0) (f21x.2 _ _ (wnc (by decide) wn0) (f15x.2 _ _ (wnc (by decide) wn0) (f9x.2 _ _ (wnc (by decide) wn0) (f6.2 _ _ (wnc (by decide) wn0) (f5.2 _ _ (wnc (by decide) (wnc (by decide) wn0)) hF))))))))
      have e46x := (f39x.2 _ _ (wnc (by decide) wn0) (f33x.2 _ _ (wnc (by decide) wn0) (f27x.2 _ _ (wnc (by decide) wn0) (f21x.2 _ _ (wnc (by decide) wn0) (f15x.2 _ _ (wnc (by decide) wn0) (f9x.2 _ _ (wnc (by decide) wn0) (f6.2 _ _ (wnc (by decide) wn0) (f5.2 _ _ (wnc (by decide) (wnc (by decide) wn0)) h200))))))))
      have e47x := (f39x.2 _ _ (wnc (by decide) wn0) (f33x.2 _ _ (wnc (by decide) wn0) (f27x.2 _ _ (wnc (by decide) wn0) (f21x.2 _ _ (wnc (by decide) wn0) (f15x.2 _ _ (wnc (by decide) wn0) (f9x.2 _ _ (wnc (by decide) wn0) (f6.2 _ _ (wnc (by decide) wn0) (f5.2 _ _ (wnc (by decide) (wnc (by decide) wn0)) h202))))))))
      have e48x := (f39x.2 _ _ (wnc (by decide) wn0) (f33x.2 _ _ (wnc (by decide) wn0) (f27x.2 _ _ (wnc (by decide) wn0) (f21x.2 _ _ (wnc (by decide) wn0) (f15x.2 _ _ (wnc (by decide) wn0) (f9x.2 _ _ (wnc (by decide) wn0) (f6.2 _ _ (wnc (by decide) wn0) (f5.2 _ _ (wnc (by decide) (wnc (by decide) wn0)) hNn))))))))
      have e49x := (f39x.2 _ _ (wnc (by decide) wn0) (f33x.2 _ _ (wnc (by decide) wn0) (f27x.2 _ _ (wnc (by decide) wn0) (f21x.2 _ _ (wnc (by decide) wn0) (f15x.2 _ _ (wnc (by decide) wn0) (f9x.2 _ _ (wnc (by decide) wn0) (f6.2 _ _ (wnc (by decide) wn0) e1x)))))))
      have e50x := (f39x.2 _ _ (wnc (by decide) wn0) (f33x.2 _ _ (wnc (by decide) wn0) (f27x.2 _ _ (wnc (by decide) wn0) (f21x.2 _ _ (wnc (by decide) wn0) (f15x.2 _ _ (wnc (by decide) wn0) (f9x.2 _ _ (wnc (by decide) wn0) (f6.2 _ _ (wnc (by decide) wn0) e2x)))))))
      have e51x := (f39x.2 _ _ (wnc (by decide) wn0) (f33x.2 _ _ (wnc (by decide) wn0) (f27x.2 _ _ (wnc (by decide) wn0) (f21x.2 _ _ (wnc (by decide) wn0) (f15x.2 _ _ (wnc (by decide) wn0) (f9x.2 _ _ (wnc (by decide) wn0) (f6.2 _ _ (wnc (by decide) wn0) e3x)))))))
      have hv : jOne ll lg (kn.getD 0 0) (kn.getD 1 0) (kn.getD 2 0) 3 (jv ll lg n 0) (jv ll lg n 1) (jv ll lg n 2) (jv ll lg n 3) (jv ll lg n 4) (jv ll lg n 5) = (0 : Int32) := by unfold jOne; rw [if_pos rfl, if_neg b43x]
      have hjc : jCh ll lg (kn.getD 0 0) (kn.getD 1 0) (kn.getD 2 0) 3 (m + 1) n su = jCh ll lg (kn.getD 0 0) (kn.getD 1 0) (kn.getD 2 0) 3 m (jsd n 6) (su + (0 : Int32)) := by show jCh _ _ _ _ _ _ m (jsd n 6) (su + jOne _ _ _ _ _ _ _ _ _ _ _ _) = _; rw [hv]
      refine wq_ls [(0, .ref 162), (1, .int sd), (2, .int (nI N)), (3, .int 3), (4, .int (su + (0 : Int32))), (5, .int (nI (i + 1)))] (show ([0, 1, 2, 3, 4, 5] : List Nat).Nodup by decide) ⟨rfl, rfl, rfl, rfl, rfl, rfl, trivial⟩ ?_
      rw [hjc, show 6 * (m + 1) = 6 * m + 6 by omega, ← jsd_6]
      refine wq_mono (ih (i + 1) (jsd n 6) (su + (0 : Int32)) h37x dc ds (by omega) (jsd_lt hn 6) e49x e50x e51x ⟨fs5, _, _, _, _, _, _, _, e41x, hC5, h525, e44x, e45x, e46x, e47x, e48x, e7, e42x⟩) ?_
      rintro _ ⟨k0, rfl, k1, k2, k3⟩
      exact ⟨k0, rfl, wFr_tr (wFr_tr (wFr_sub f5 (by simp)) (wFr_tr (wFr_sub f6 (by simp)) (wFr_tr (wFr_sub f9x (by simp)) (wFr_tr (wFr_sub f15x (by simp)) (wFr_tr (wFr_sub f21x (by simp)) (wFr_tr (wFr_sub f27x (by simp)) (wFr_tr (wFr_sub f33x (by simp)) (wFr_sub f39x (by simp))))))))) k1, by omega, k3⟩
    · refine wq_gos (f := 1) (pc2 := 288) (ls2 := [(5, .int ((nI i) + 1)), (4, .int (su + (1 : Int32))), (6, .int 6), (0, .ref 162), (1, .int sd), (2, .int (nI N)), (3, .int 3)]) (st2 := []) (h2 := h37x) (dc2 := dc) (ds2 := ds) 5 rfl ?_
      rw [nI_1]
      refine wq_gos (f := 1) (pc2 := 57) (ls2 := [(5, .int (nI (i + 1))), (4, .int (su + (1 : Int32))), (6, .int 6), (0, .ref 162), (1, .int sd), (2, .int (nI N)), (3, .int 3)]) (st2 := []) (h2 := h37x) (dc2 := dc) (ds2 := ds) 1 rfl ?_
      have e52x := (f39x.2 _ _ (wnc (by decide) wn0) e36x)
      have e53x := (f39x.2 _ _ (wnc (by decide) wn0) (f33x.2 _ _ (wnc (by decide) wn0) (f27x.2 _ _ (wnc (by decide) wn0) (f21x.2 _ _ (wnc (by decide) wn0) (f15x.2 _ _ (wnc (by decide) wn0) (f9x.2 _ _ (wnc (by decide) wn0) (f6.2 _ _ (wnc (by decide) wn0) (f5.2 _ _ (wnc (by decide) (wnc (by decide) wn0)) hF))))))))
      have e54x := (f39x.2 _ _ (wnc (by decide) wn0) (f33x.2 _ _ (wnc (by decide) wn0) (f27x.2 _ _ (wnc (by decide) wn0) (f21x.2 _ _ (wnc (by decide) wn0) (f15x.2 _ _ (wnc (by decide) wn0) (f9x.2 _ _ (wnc (by decide) wn0) (f6.2 _ _ (wnc (by decide) wn0) (f5.2 _ _ (wnc (by decide) (wnc (by decide) wn0)) h200))))))))
      have e55x := (f39x.2 _ _ (wnc (by decide) wn0) (f33x.2 _ _ (wnc (by decide) wn0) (f27x.2 _ _ (wnc (by decide) wn0) (f21x.2 _ _ (wnc (by decide) wn0) (f15x.2 _ _ (wnc (by decide) wn0) (f9x.2 _ _ (wnc (by decide) wn0) (f6.2 _ _ (wnc (by decide) wn0) (f5.2 _ _ (wnc (by decide) (wnc (by decide) wn0)) h202))))))))
      have e56x := (f39x.2 _ _ (wnc (by decide) wn0) (f33x.2 _ _ (wnc (by decide) wn0) (f27x.2 _ _ (wnc (by decide) wn0) (f21x.2 _ _ (wnc (by decide) wn0) (f15x.2 _ _ (wnc (by decide) wn0) (f9x.2 _ _ (wnc (by decide) wn0) (f6.2 _ _ (wnc (by decide) wn0) (f5.2 _ _ (wnc (by decide) (wnc (by decide) wn0)) hNn))))))))
      have e57x := (f39x.2 _ _ (wnc (by decide) wn0) (f33x.2 _ _ (wnc (by decide) wn0) (f27x.2 _ _ (wnc (by decide) wn0) (f21x.2 _ _ (wnc (by decide) wn0) (f15x.2 _ _ (wnc (by decide) wn0) (f9x.2 _ _ (wnc (by decide) wn0) (f6.2 _ _ (wnc (by decide) wn0) e1x)))))))
      have e58x := (f39x.2 _ _ (wnc (by decide) wn0) (f33x.2 _ _ (wnc (by decide) wn0) (f27x.2 _ _ (wnc (by decide) wn0) (f21x.2 _ _ (wnc (by decide) wn0) (f15x.2 _ _ (wnc (by decide) wn0) (f9x.2 _ _ (wnc (by decide) wn0) (f6.2 _ _ (wnc (by decide) wn0) e2x)))))))
      have e59x := (f39x.2 _ _ (wnc (by decide) wn0) (f33x.2 _ _ (wnc (by decide) wn0) (f27x.2 _ _ (wnc (by decide) wn0) (f21x.2 _ _ (wnc (by decide) wn0) (f15x.2 _ _ (wnc (by decide) wn0) (f9x.2 _ _ (wnc (by decide) wn0) (f6.2 _ _ (wnc (by decide) wn0) e3x)))))))
      have hv : jOne ll lg (kn.getD 0 0) (kn.getD 1 0) (kn.getD 2 0) 3 (jv ll lg n 0) (jv ll lg n 1) (jv ll lg n 2) (jv ll lg n 3) (jv ll lg n 4) (jv ll lg n 5) = (1 : Int32) := by unfold jOne; rw [if_pos rfl, if_pos b43x]
      have hjc : jCh ll lg (kn.getD 0 0) (kn.getD 1 0) (kn.getD 2 0) 3 (m + 1) n su = jCh ll lg (kn.getD 0 0) (kn.getD 1 0) (kn.getD 2 0) 3 m (jsd n 6) (su + (1 : Int32)) := by show jCh _ _ _ _ _ _ m (jsd n 6) (su + jOne _ _ _ _ _ _ _ _ _ _ _ _) = _; rw [hv]
      refine wq_ls [(0, .ref 162), (1, .int sd), (2, .int (nI N)), (3, .int 3), (4, .int (su + (1 : Int32))), (5, .int (nI (i + 1)))] (show ([0, 1, 2, 3, 4, 5] : List Nat).Nodup by decide) ⟨rfl, rfl, rfl, rfl, rfl, rfl, trivial⟩ ?_
      rw [hjc, show 6 * (m + 1) = 6 * m + 6 by omega, ← jsd_6]
      refine wq_mono (ih (i + 1) (jsd n 6) (su + (1 : Int32)) h37x dc ds (by omega) (jsd_lt hn 6) e57x e58x e59x ⟨fs5, _, _, _, _, _, _, _, e41x, hC5, h525, e52x, e53x, e54x, e55x, e56x, e7, e42x⟩) ?_
      rintro _ ⟨k0, rfl, k1, k2, k3⟩
      exact ⟨k0, rfl, wFr_tr (wFr_tr (wFr_sub f5 (by simp)) (wFr_tr (wFr_sub f6 (by simp)) (wFr_tr (wFr_sub f9x (by simp)) (wFr_tr (wFr_sub f15x (by simp)) (wFr_tr (wFr_sub f21x (by simp)) (wFr_tr (wFr_sub f27x (by simp)) (wFr_tr (wFr_sub f33x (by simp)) (wFr_sub f39x (by simp))))))))) k1, by omega, k3⟩
