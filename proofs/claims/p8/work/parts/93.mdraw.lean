/-! Drawing by chance: the reference's side. -/
theorem jK_c {lo hi ll lg : List Int32} (h : wLim lo hi ll lg) {j : Nat} (hj : j < 6) : jK lo hi j = jK ll lg j := by
  unfold jK
  rw [(h j hj).1, (h j hj).2]
theorem jv_m {lo hi ll lg : List Int32} (h : wLim lo hi ll lg) (n : Nat) {j : Nat} (hj : j < 6) : lo.getD j 0 + nI (jsd n (j + 1) / 65536 % jK lo hi j) = jv ll lg n j := by
  unfold jv
  rw [jK_c h hj, (h j hj).1]
theorem wLm_c {lo hi ll lg : List Int32} (h : wLim lo hi ll lg) (hm : wLm ll lg) : wLm lo hi := fun j hj => by
  rw [(h j hj).1, (h j hj).2]
  exact hm j hj
theorem nIk_ne0 {k : Nat} (h : 1 ≤ k ∧ k ≤ 128) : nI k ≠ 0 := nI_ne0 (by omega) (by omega)
theorem nI_m3 {a : Nat} (h : a < 2 ^ 31) : nI a ≠ -3 := fun q => by
  have h1 := congrArg Int32.toInt q
  rw [nI_toInt h, show ((-3 : Int32)).toInt = -3 from rfl] at h1
  omega
set_option maxHeartbeats 4000000 in
theorem m_placeD {h : zH} {fs : List Value} {kn lo hi : List Int32} {dq th : List Int32} {v0 v1 v2 v3 v4 v5 : Int32} (hM : zat h 162 = some (.inr (.inr (.inr (10, fs))))) (hC : mC fs) (hK : zat h 166 = some (.inl (0, 14, kn))) (hO : zat h 168 = some (.inl (0, 12, lo))) (hG : zat h 170 = some (.inl (0, 12, hi))) (hD : zat h 230 = some (.inl (0, 6, dq))) (hT : zat h 194 = some (.inl (0, 6, th))) (hd0 : dq.getD 0 0 = v0) (hd1 : dq.getD 1 0 = v1) (hd2 : dq.getD 2 0 = v2) (hd3 : dq.getD 3 0 = v3) (hd4 : dq.getD 4 0 = v4) (hd5 : dq.getD 5 0 = v5) : wq 200 0 [(0, .ref 162), (1, .ref 230), (2, .int 0)] [] h 0 0 (fun r => ∃ (h2 : zH) (th2 : List Int32), r = (none, h2, 0, 0) ∧ wFr [194] h h2 ∧ h2.length = h.length ∧ zat h2 194 = some (.inl (0, 6, th2)) ∧ ∀ i, i < 6 → th2.getD i 0 = (jpl (kn.getD 0 0) (kn.getD 1 0) (kn.getD 2 0) v0 v1 v2 v3 v4 v5).getD i 0) := by
  refine wq_gos (f := 1) (pc2 := 4) (ls2 := [(0, .ref 162), (1, .ref 230), (2, .int 0)]) (st2 := [.int 2, .ref 230]) (h2 := h) (dc2 := 0) (ds2 := 0) 4 rfl ?_
  refine wq_ialdk (k := 2) rfl hD rfl rfl rfl ?_
  refine wq_vi hd2 ?_
  refine wq_gos (f := 1) (pc2 := 9) (ls2 := [(0, .ref 162), (1, .ref 230), (2, .int 0)]) (st2 := [.int 3, .ref 230, .int v2]) (h2 := h) (dc2 := 0) (ds2 := 0) 4 rfl ?_
  refine wq_ialdk (k := 3) rfl hD rfl rfl rfl ?_
  refine wq_vi hd3 ?_
  refine wq_gos (f := 1) (pc2 := 17) (ls2 := [(3, .int (v2 + v3)), (0, .ref 162), (1, .ref 230), (2, .int 0)]) (st2 := [.int 4, .ref 230, .int (v2 + v3)]) (h2 := h) (dc2 := 0) (ds2 := 0) 7 rfl ?_
  refine wq_ialdk (k := 4) rfl hD rfl rfl rfl ?_
  refine wq_vi hd4 ?_
  refine wq_gos (f := 1) (pc2 := 24) (ls2 := [(4, .int ((v2 + v3) + v4)), (3, .int (v2 + v3)), (0, .ref 162), (1, .ref 230), (2, .int 0)]) (st2 := [.int 0, .ref 230, .ref 162]) (h2 := h) (dc2 := 0) (ds2 := 0) 5 rfl ?_
  refine wq_inlv (y2 := 199) (as := [.ref 230, .int 0]) rfl rfl rfl hM rfl ?_
  show wq 199 0 [(0, .ref 162), (1, .ref 230), (2, .int 0)] [] h 0 0 _
  refine wq_gos (f := 1) (pc2 := 4) (ls2 := [(0, .ref 162), (1, .ref 230), (2, .int 0)]) (st2 := [.int 2, .ref 230]) (h2 := h) (dc2 := 0) (ds2 := 0) 4 rfl ?_
  refine wq_ialdk (k := 2) rfl hD rfl rfl rfl ?_
  refine wq_vi hd2 ?_
  refine wq_gos (f := 1) (pc2 := 9) (ls2 := [(0, .ref 162), (1, .ref 230), (2, .int 0)]) (st2 := [.int 3, .ref 230, .int v2]) (h2 := h) (dc2 := 0) (ds2 := 0) 4 rfl ?_
  refine wq_ialdk (k := 3) rfl hD rfl rfl rfl ?_
  refine wq_vi hd3 ?_
  refine wq_gos (f := 1) (pc2 := 17) (ls2 := [(3, .int (v2 + v3)), (0, .ref 162), (1, .ref 230), (2, .int 0)]) (st2 := [.int 2, .ref 230, .ref 162]) (h2 := h) (dc2 := 0) (ds2 := 0) 7 rfl ?_
  refine wq_ialdk (k := 2) rfl hD rfl rfl rfl ?_
  refine wq_vi hd2 ?_
  refine wq_gos (f := 1) (pc2 := 24) (ls2 := [(3, .int (v2 + v3)), (0, .ref 162), (1, .ref 230), (2, .int 0)]) (st2 := [.int 4, .ref 230, .int (v2 + v3), .int (v2 + v3), .int v2, .ref 162]) (h2 := h) (dc2 := 0) (ds2 := 0) 6 rfl ?_
  refine wq_ialdk (k := 4) rfl hD rfl rfl rfl ?_
  refine wq_vi hd4 ?_
  refine wq_gos (f := 1) (pc2 := 26) (ls2 := [(3, .int (v2 + v3)), (0, .ref 162), (1, .ref 230), (2, .int 0)]) (st2 := [.int ((v2 + v3) + v4), .int (v2 + v3), .int v2, .ref 162]) (h2 := h) (dc2 := 0) (ds2 := 0) 1 rfl ?_
  refine wq_inlv (y2 := 197) (as := [.int v2, .int (v2 + v3), .int ((v2 + v3) + v4)]) rfl rfl rfl hM rfl (wq_T (c_outBy hM (hC.2 (3, 166) (by decide)) (hC.2 (4, 168) (by decide)) (hC.2 (5, 170) (by decide)) hK hO hG v2 (v2 + v3) ((v2 + v3) + v4)) ?_)
  show wq 199 29 [(3, .int (v2 + v3)), (0, .ref 162), (1, .ref 230), (2, .int 0)] [.int (jout (kn.getD 0 0) (kn.getD 1 0) v2 (v2 + v3) ((v2 + v3) + v4))] h 0 0 _
  refine wq_ret rfl rfl ?_
  show wq 200 27 [(4, .int ((v2 + v3) + v4)), (3, .int (v2 + v3)), (0, .ref 162), (1, .ref 230), (2, .int 0)] [.int (jout (kn.getD 0 0) (kn.getD 1 0) v2 (v2 + v3) ((v2 + v3) + v4))] h 0 0 _
  refine wq_gos (f := 1) (pc2 := 30) (ls2 := [(5, .int (jout (kn.getD 0 0) (kn.getD 1 0) v2 (v2 + v3) ((v2 + v3) + v4))), (4, .int ((v2 + v3) + v4)), (3, .int (v2 + v3)), (0, .ref 162), (1, .ref 230), (2, .int 0)]) (st2 := [.ref 162]) (h2 := h) (dc2 := 0) (ds2 := 0) 2 rfl ?_
  refine wq_getf rfl hM (hC.2 (29, 194) (by decide)) rfl ?_
  refine wq_gos (f := 1) (pc2 := 41) (ls2 := [(5, .int (jout (kn.getD 0 0) (kn.getD 1 0) v2 (v2 + v3) ((v2 + v3) + v4))), (4, .int ((v2 + v3) + v4)), (3, .int (v2 + v3)), (0, .ref 162), (1, .ref 230), (2, .int 0)]) (st2 := [.int 0, .ref 230, .int 1000000, .int 0, .ref 194]) (h2 := h) (dc2 := 0) (ds2 := 0) 6 rfl ?_
  refine wq_ialdk (k := 0) rfl hD rfl rfl rfl ?_
  refine wq_vi hd0 ?_
  refine wq_gos (f := 1) (pc2 := 49) (ls2 := [(5, .int (jout (kn.getD 0 0) (kn.getD 1 0) v2 (v2 + v3) ((v2 + v3) + v4))), (4, .int ((v2 + v3) + v4)), (3, .int (v2 + v3)), (0, .ref 162), (1, .ref 230), (2, .int 0)]) (st2 := [.int 1, .ref 230, .int (jout (kn.getD 0 0) (kn.getD 1 0) v2 (v2 + v3) ((v2 + v3) + v4)), .int ((1000000 : Int32) * v0), .int 0, .ref 194]) (h2 := h) (dc2 := 0) (ds2 := 0) 6 rfl ?_
  refine wq_ialdk (k := 1) rfl hD rfl rfl rfl ?_
  refine wq_vi hd1 ?_
  refine wq_inl (y2 := 195) (as := [.int v1]) rfl rfl rfl (wq_T (m_cos v1 h) ?_)
  show wq 200 53 [(5, .int (jout (kn.getD 0 0) (kn.getD 1 0) v2 (v2 + v3) ((v2 + v3) + v4))), (4, .int ((v2 + v3) + v4)), (3, .int (v2 + v3)), (0, .ref 162), (1, .ref 230), (2, .int 0)] [.int (jcos v1), .int (jout (kn.getD 0 0) (kn.getD 1 0) v2 (v2 + v3) ((v2 + v3) + v4)), .int ((1000000 : Int32) * v0), .int 0, .ref 194] h 0 0 _
  refine wq_gos (f := 1) (pc2 := 55) (ls2 := [(5, .int (jout (kn.getD 0 0) (kn.getD 1 0) v2 (v2 + v3) ((v2 + v3) + v4))), (4, .int ((v2 + v3) + v4)), (3, .int (v2 + v3)), (0, .ref 162), (1, .ref 230), (2, .int 0)]) (st2 := [.int (((1000000 : Int32) * v0) + ((jout (kn.getD 0 0) (kn.getD 1 0) v2 (v2 + v3) ((v2 + v3) + v4)) * (jcos v1))), .int 0, .ref 194]) (h2 := h) (dc2 := 0) (ds2 := 0) 2 rfl ?_
  refine wq_iast rfl hT rfl rfl ?_
  intro h1x e2x f3x l4x
  have e2x : zat h1x 194 = some (.inl (0, 6, (zset 0 th 0 (((1000000 : Int32) * v0) + ((jout (kn.getD 0 0) (kn.getD 1 0) v2 (v2 + v3) ((v2 + v3) + v4)) * (jcos v1)))))) := e2x
  refine wq_gos (f := 1) (pc2 := 57) (ls2 := [(5, .int (jout (kn.getD 0 0) (kn.getD 1 0) v2 (v2 + v3) ((v2 + v3) + v4))), (4, .int ((v2 + v3) + v4)), (3, .int (v2 + v3)), (0, .ref 162), (1, .ref 230), (2, .int 0)]) (st2 := [.ref 162]) (h2 := h1x) (dc2 := 0) (ds2 := 0) 1 rfl ?_
  have e5x := (f3x.2 _ _ (wnc (by decide) wn0) hM)
  refine wq_getf rfl e5x (hC.2 (29, 194) (by decide)) rfl ?_
  refine wq_gos (f := 1) (pc2 := 67) (ls2 := [(5, .int (jout (kn.getD 0 0) (kn.getD 1 0) v2 (v2 + v3) ((v2 + v3) + v4))), (4, .int ((v2 + v3) + v4)), (3, .int (v2 + v3)), (0, .ref 162), (1, .ref 230), (2, .int 0)]) (st2 := [.int 1, .ref 230, .int (jout (kn.getD 0 0) (kn.getD 1 0) v2 (v2 + v3) ((v2 + v3) + v4)), .int 1, .ref 194]) (h2 := h1x) (dc2 := 0) (ds2 := 0) 6 rfl ?_
  have e6x := (f3x.2 _ _ (wnc (by decide) wn0) hD)
  refine wq_ialdk (k := 1) rfl e6x rfl rfl rfl ?_
  refine wq_vi hd1 ?_
  refine wq_inl (y2 := 196) (as := [.int v1]) rfl rfl rfl (wq_T (m_sin v1 h1x) ?_)
  show wq 200 71 [(5, .int (jout (kn.getD 0 0) (kn.getD 1 0) v2 (v2 + v3) ((v2 + v3) + v4))), (4, .int ((v2 + v3) + v4)), (3, .int (v2 + v3)), (0, .ref 162), (1, .ref 230), (2, .int 0)] [.int (jsin v1), .int (jout (kn.getD 0 0) (kn.getD 1 0) v2 (v2 + v3) ((v2 + v3) + v4)), .int 1, .ref 194] h1x 0 0 _
  refine wq_gos (f := 1) (pc2 := 72) (ls2 := [(5, .int (jout (kn.getD 0 0) (kn.getD 1 0) v2 (v2 + v3) ((v2 + v3) + v4))), (4, .int ((v2 + v3) + v4)), (3, .int (v2 + v3)), (0, .ref 162), (1, .ref 230), (2, .int 0)]) (st2 := [.int ((jout (kn.getD 0 0) (kn.getD 1 0) v2 (v2 + v3) ((v2 + v3) + v4)) * (jsin v1)), .int 1, .ref 194]) (h2 := h1x) (dc2 := 0) (ds2 := 0) 1 rfl ?_
  refine wq_iast rfl e2x rfl rfl ?_
  intro h7x e8x f9x l10x
  have e8x : zat h7x 194 = some (.inl (0, 6, (zset 0 (zset 0 th 0 (((1000000 : Int32) * v0) + ((jout (kn.getD 0 0) (kn.getD 1 0) v2 (v2 + v3) ((v2 + v3) + v4)) * (jcos v1)))) 1 ((jout (kn.getD 0 0) (kn.getD 1 0) v2 (v2 + v3) ((v2 + v3) + v4)) * (jsin v1))))) := e8x
  refine wq_gos (f := 1) (pc2 := 74) (ls2 := [(5, .int (jout (kn.getD 0 0) (kn.getD 1 0) v2 (v2 + v3) ((v2 + v3) + v4))), (4, .int ((v2 + v3) + v4)), (3, .int (v2 + v3)), (0, .ref 162), (1, .ref 230), (2, .int 0)]) (st2 := [.ref 162]) (h2 := h7x) (dc2 := 0) (ds2 := 0) 1 rfl ?_
  have e11x := (f9x.2 _ _ (wnc (by decide) wn0) e5x)
  refine wq_getf rfl e11x (hC.2 (29, 194) (by decide)) rfl ?_
  refine wq_gos (f := 1) (pc2 := 83) (ls2 := [(5, .int (jout (kn.getD 0 0) (kn.getD 1 0) v2 (v2 + v3) ((v2 + v3) + v4))), (4, .int ((v2 + v3) + v4)), (3, .int (v2 + v3)), (0, .ref 162), (1, .ref 230), (2, .int 0)]) (st2 := [.int 2, .ref 230, .ref 162, .int 2, .ref 194]) (h2 := h7x) (dc2 := 0) (ds2 := 0) 6 rfl ?_
  have e12x := (f9x.2 _ _ (wnc (by decide) wn0) e6x)
  refine wq_ialdk (k := 2) rfl e12x rfl rfl rfl ?_
  refine wq_vi hd2 ?_
  refine wq_gos (f := 1) (pc2 := 87) (ls2 := [(5, .int (jout (kn.getD 0 0) (kn.getD 1 0) v2 (v2 + v3) ((v2 + v3) + v4))), (4, .int ((v2 + v3) + v4)), (3, .int (v2 + v3)), (0, .ref 162), (1, .ref 230), (2, .int 0)]) (st2 := [.int ((v2 + v3) + v4), .int (v2 + v3), .int v2, .ref 162, .int 2, .ref 194]) (h2 := h7x) (dc2 := 0) (ds2 := 0) 2 rfl ?_
  have e13x := (f9x.2 _ _ (wnc (by decide) wn0) (f3x.2 _ _ (wnc (by decide) wn0) hK))
  have e14x := (f9x.2 _ _ (wnc (by decide) wn0) (f3x.2 _ _ (wnc (by decide) wn0) hO))
  have e15x := (f9x.2 _ _ (wnc (by decide) wn0) (f3x.2 _ _ (wnc (by decide) wn0) hG))
  refine wq_inlv (y2 := 198) (as := [.int v2, .int (v2 + v3), .int ((v2 + v3) + v4)]) rfl rfl rfl e11x rfl (wq_T (c_heightBy e11x (hC.2 (3, 166) (by decide)) (hC.2 (4, 168) (by decide)) (hC.2 (5, 170) (by decide)) e13x e14x e15x v2 (v2 + v3) ((v2 + v3) + v4)) ?_)
  show wq 200 90 [(5, .int (jout (kn.getD 0 0) (kn.getD 1 0) v2 (v2 + v3) ((v2 + v3) + v4))), (4, .int ((v2 + v3) + v4)), (3, .int (v2 + v3)), (0, .ref 162), (1, .ref 230), (2, .int 0)] [.int (jhgt (kn.getD 2 0) (kn.getD 0 0) (kn.getD 1 0) v2 (v2 + v3) ((v2 + v3) + v4)), .int 2, .ref 194] h7x 0 0 _
  refine wq_iast rfl e8x rfl rfl ?_
  intro h16x e17x f18x l19x
  have e17x : zat h16x 194 = some (.inl (0, 6, (zset 0 (zset 0 (zset 0 th 0 (((1000000 : Int32) * v0) + ((jout (kn.getD 0 0) (kn.getD 1 0) v2 (v2 + v3) ((v2 + v3) + v4)) * (jcos v1)))) 1 ((jout (kn.getD 0 0) (kn.getD 1 0) v2 (v2 + v3) ((v2 + v3) + v4)) * (jsin v1))) 2 (jhgt (kn.getD 2 0) (kn.getD 0 0) (kn.getD 1 0) v2 (v2 + v3) ((v2 + v3) + v4))))) := e17x
  refine wq_gos (f := 1) (pc2 := 92) (ls2 := [(5, .int (jout (kn.getD 0 0) (kn.getD 1 0) v2 (v2 + v3) ((v2 + v3) + v4))), (4, .int ((v2 + v3) + v4)), (3, .int (v2 + v3)), (0, .ref 162), (1, .ref 230), (2, .int 0)]) (st2 := [.ref 162]) (h2 := h16x) (dc2 := 0) (ds2 := 0) 1 rfl ?_
  have e20x := (f18x.2 _ _ (wnc (by decide) wn0) e11x)
  refine wq_getf rfl e20x (hC.2 (29, 194) (by decide)) rfl ?_
  refine wq_gos (f := 1) (pc2 := 100) (ls2 := [(5, .int (jout (kn.getD 0 0) (kn.getD 1 0) v2 (v2 + v3) ((v2 + v3) + v4))), (4, .int ((v2 + v3) + v4)), (3, .int (v2 + v3)), (0, .ref 162), (1, .ref 230), (2, .int 0)]) (st2 := [.int 1, .ref 230, .int 3, .ref 194]) (h2 := h16x) (dc2 := 0) (ds2 := 0) 5 rfl ?_
  have e21x := (f18x.2 _ _ (wnc (by decide) wn0) e12x)
  refine wq_ialdk (k := 1) rfl e21x rfl rfl rfl ?_
  refine wq_vi hd1 ?_
  refine wq_gos (f := 1) (pc2 := 104) (ls2 := [(5, .int (jout (kn.getD 0 0) (kn.getD 1 0) v2 (v2 + v3) ((v2 + v3) + v4))), (4, .int ((v2 + v3) + v4)), (3, .int (v2 + v3)), (0, .ref 162), (1, .ref 230), (2, .int 0)]) (st2 := [.int (v1 &&& (63 : Int32)), .int 3, .ref 194]) (h2 := h16x) (dc2 := 0) (ds2 := 0) 2 rfl ?_
  refine wq_iast rfl e17x rfl rfl ?_
  intro h22x e23x f24x l25x
  have e23x : zat h22x 194 = some (.inl (0, 6, (zset 0 (zset 0 (zset 0 (zset 0 th 0 (((1000000 : Int32) * v0) + ((jout (kn.getD 0 0) (kn.getD 1 0) v2 (v2 + v3) ((v2 + v3) + v4)) * (jcos v1)))) 1 ((jout (kn.getD 0 0) (kn.getD 1 0) v2 (v2 + v3) ((v2 + v3) + v4)) * (jsin v1))) 2 (jhgt (kn.getD 2 0) (kn.getD 0 0) (kn.getD 1 0) v2 (v2 + v3) ((v2 + v3) + v4))) 3 (v1 &&& (63 : Int32))))) := e23x
  refine wq_gos (f := 1) (pc2 := 106) (ls2 := [(5, .int (jout (kn.getD 0 0) (kn.getD 1 0) v2 (v2 + v3) ((v2 + v3) + v4))), (4, .int ((v2 + v3) + v4)), (3, .int (v2 + v3)), (0, .ref 162), (1, .ref 230), (2, .int 0)]) (st2 := [.ref 162]) (h2 := h22x) (dc2 := 0) (ds2 := 0) 1 rfl ?_
  have e26x := (f24x.2 _ _ (wnc (by decide) wn0) e20x)
  refine wq_getf rfl e26x (hC.2 (29, 194) (by decide)) rfl ?_
  refine wq_gos (f := 1) (pc2 := 115) (ls2 := [(5, .int (jout (kn.getD 0 0) (kn.getD 1 0) v2 (v2 + v3) ((v2 + v3) + v4))), (4, .int ((v2 + v3) + v4)), (3, .int (v2 + v3)), (0, .ref 162), (1, .ref 230), (2, .int 0)]) (st2 := [.int (((v2 + v3) + v4) &&& (63 : Int32)), .int 4, .ref 194]) (h2 := h22x) (dc2 := 0) (ds2 := 0) 4 rfl ?_
  refine wq_iast rfl e23x rfl rfl ?_
  intro h27x e28x f29x l30x
  have e28x : zat h27x 194 = some (.inl (0, 6, (zset 0 (zset 0 (zset 0 (zset 0 (zset 0 th 0 (((1000000 : Int32) * v0) + ((jout (kn.getD 0 0) (kn.getD 1 0) v2 (v2 + v3) ((v2 + v3) + v4)) * (jcos v1)))) 1 ((jout (kn.getD 0 0) (kn.getD 1 0) v2 (v2 + v3) ((v2 + v3) + v4)) * (jsin v1))) 2 (jhgt (kn.getD 2 0) (kn.getD 0 0) (kn.getD 1 0) v2 (v2 + v3) ((v2 + v3) + v4))) 3 (v1 &&& (63 : Int32))) 4 (((v2 + v3) + v4) &&& (63 : Int32))))) := e28x
  refine wq_gos (f := 1) (pc2 := 117) (ls2 := [(5, .int (jout (kn.getD 0 0) (kn.getD 1 0) v2 (v2 + v3) ((v2 + v3) + v4))), (4, .int ((v2 + v3) + v4)), (3, .int (v2 + v3)), (0, .ref 162), (1, .ref 230), (2, .int 0)]) (st2 := [.ref 162]) (h2 := h27x) (dc2 := 0) (ds2 := 0) 1 rfl ?_
  have e31x := (f29x.2 _ _ (wnc (by decide) wn0) e26x)
  refine wq_getf rfl e31x (hC.2 (29, 194) (by decide)) rfl ?_
  refine wq_gos (f := 1) (pc2 := 125) (ls2 := [(5, .int (jout (kn.getD 0 0) (kn.getD 1 0) v2 (v2 + v3) ((v2 + v3) + v4))), (4, .int ((v2 + v3) + v4)), (3, .int (v2 + v3)), (0, .ref 162), (1, .ref 230), (2, .int 0)]) (st2 := [.int 5, .ref 230, .int 5, .ref 194]) (h2 := h27x) (dc2 := 0) (ds2 := 0) 5 rfl ?_
  have e32x := (f29x.2 _ _ (wnc (by decide) wn0) (f24x.2 _ _ (wnc (by decide) wn0) e21x))
  refine wq_ialdk (k := 5) rfl e32x rfl rfl rfl ?_
  refine wq_vi hd5 ?_
  refine wq_gos (f := 1) (pc2 := 129) (ls2 := [(5, .int (jout (kn.getD 0 0) (kn.getD 1 0) v2 (v2 + v3) ((v2 + v3) + v4))), (4, .int ((v2 + v3) + v4)), (3, .int (v2 + v3)), (0, .ref 162), (1, .ref 230), (2, .int 0)]) (st2 := [.int (v5 &&& (63 : Int32)), .int 5, .ref 194]) (h2 := h27x) (dc2 := 0) (ds2 := 0) 2 rfl ?_
  refine wq_iast rfl e28x rfl rfl ?_
  intro h33x e34x f35x l36x
  have e34x : zat h33x 194 = some (.inl (0, 6, (zset 0 (zset 0 (zset 0 (zset 0 (zset 0 (zset 0 th 0 (((1000000 : Int32) * v0) + ((jout (kn.getD 0 0) (kn.getD 1 0) v2 (v2 + v3) ((v2 + v3) + v4)) * (jcos v1)))) 1 ((jout (kn.getD 0 0) (kn.getD 1 0) v2 (v2 + v3) ((v2 + v3) + v4)) * (jsin v1))) 2 (jhgt (kn.getD 2 0) (kn.getD 0 0) (kn.getD 1 0) v2 (v2 + v3) ((v2 + v3) + v4))) 3 (v1 &&& (63 : Int32))) 4 (((v2 + v3) + v4) &&& (63 : Int32))) 5 (v5 &&& (63 : Int32))))) := e34x
  refine wq_ret rfl rfl ⟨h33x, _, rfl, (wFr_tr (wFr_sub f3x (by simp)) (wFr_tr (wFr_sub f9x (by simp)) (wFr_tr (wFr_sub f18x (by simp)) (wFr_tr (wFr_sub f24x (by simp)) (wFr_tr (wFr_sub f29x (by simp)) (wFr_sub f35x (by simp))))))), by omega, e34x, lt6 ?_ ?_ ?_ ?_ ?_ ?_⟩ <;> (simp only [zset_get]; rfl)
theorem m_meas {h : zH} {dq : List Int32} {v1 v3 : Int32} (hD : zat h 230 = some (.inl (0, 6, dq))) (hd1 : dq.getD 1 0 = v1) (hd3 : dq.getD 3 0 = v3) : zT zg0 zF zP 206 0 [(0, .ref 230), (1, .int 0)] [] h 0 0 (some (.int (jme v1 v3)), h, 0, 0) := by
  apply wq_toT
  refine wq_gos (f := 1) (pc2 := 4) (ls2 := [(0, .ref 230), (1, .int 0)]) (st2 := [.int 1, .ref 230]) (h2 := h) (dc2 := 0) (ds2 := 0) 4 rfl ?_
  refine wq_ialdk (k := 1) rfl hD rfl rfl rfl ?_
  refine wq_vi hd1 ?_
  refine wq_inl (y2 := 196) (as := [.int v1]) rfl rfl rfl (wq_T (m_sin v1 h) ?_)
  show wq 206 8 [(0, .ref 230), (1, .int 0)] [.int (jsin v1)] h 0 0 _
  refine wq_gos (f := 1) (pc2 := 12) (ls2 := [(0, .ref 230), (1, .int 0)]) (st2 := [.int 3, .ref 230, .int (jsin v1)]) (h2 := h) (dc2 := 0) (ds2 := 0) 4 rfl ?_
  refine wq_ialdk (k := 3) rfl hD rfl rfl rfl ?_
  refine wq_vi hd3 ?_
  refine wq_inl (y2 := 196) (as := [.int v3]) rfl rfl rfl (wq_T (m_sin v3 h) ?_)
  show wq 206 16 [(0, .ref 230), (1, .int 0)] [.int (jsin v3), .int (jsin v1)] h 0 0 _
  refine wq_gos (f := 1) (pc2 := 17) (ls2 := [(0, .ref 230), (1, .int 0)]) (st2 := [.int ((jsin v1) * (jsin v3))]) (h2 := h) (dc2 := 0) (ds2 := 0) 1 rfl ?_
  refine wq_inl (y2 := 203) (as := [.int ((jsin v1) * (jsin v3))]) rfl rfl rfl (wq_T (m_abs ((jsin v1) * (jsin v3)) h) ?_)
  show wq 206 20 [(0, .ref 230), (1, .int 0)] [.int (jabs ((jsin v1) * (jsin v3)))] h 0 0 _
  refine wq_gos (f := 1) (pc2 := 24) (ls2 := [(0, .ref 230), (1, .int 0)]) (st2 := [.int ((jabs ((jsin v1) * (jsin v3))) / (1000 : Int32))]) (h2 := h) (dc2 := 0) (ds2 := 0) 2 rfl ?_
  exact wq_ret rfl rfl rfl
set_option maxHeartbeats 4000000 in
theorem m_amongL {h : zH} {fs : List Value} {fo : List Int64} {N : Nat} {x : Int64} (hM : zat h 162 = some (.inr (.inr (.inr (10, fs))))) (hC : mC fs) (h34 : fs[34]? = some (.int (nI N))) (hF : zat h 196 = some (.inr (.inl (6000, fo)))) (hN : N ≤ 600) {j : Nat} (hj : j < N) (hx : fo.getD (5400 + j) 0 = x) : ∀ (m k : Nat), k + m = j → zT zg0 zF zP 279 8 [(0, .ref 162), (1, .ref 230), (2, .long x), (4, .int (nI k))] [] h 0 0 (some (.int 1), h, 0, 0) := by
  intro m
  induction m with
  | zero =>
    intro k hk
    have q1 := nI_toInt (n := k) (by omega)
    have q2 := nI_toInt (n := N) (by omega)
    apply wq_toT
    refine wq_gos (f := 1) (pc2 := 11) (ls2 := [(0, .ref 162), (1, .ref 230), (2, .long x), (4, .int (nI k))]) (st2 := [.ref 162, .int (nI k)]) (h2 := h) (dc2 := 0) (ds2 := 0) 2 rfl ?_
    refine wq_getf rfl hM h34 rfl ?_
    refine wq_ge2f rfl rfl (by omega) ?_
    refine wq_gos (f := 1) (pc2 := 18) (ls2 := [(0, .ref 162), (1, .ref 230), (2, .long x), (4, .int (nI k))]) (st2 := [.ref 162]) (h2 := h) (dc2 := 0) (ds2 := 0) 1 rfl ?_
    refine wq_getf rfl hM (hC.2 (30, 196) (by decide)) rfl ?_
    refine wq_gos (f := 1) (pc2 := 27) (ls2 := [(0, .ref 162), (1, .ref 230), (2, .long x), (4, .int (nI k))]) (st2 := [.int ((5400 : Int32) + (nI k)), .ref 196]) (h2 := h) (dc2 := 0) (ds2 := 0) 3 rfl ?_
    refine wq_vi (show (5400 : Int32) + nI k = nI (5400 + k) from nI_add 5400 k) ?_
    refine wq_laldn rfl hF (by omega) (by decide) rfl ?_
    refine wq_gos (f := 1) (pc2 := 30) (ls2 := [(0, .ref 162), (1, .ref 230), (2, .long x), (4, .int (nI k))]) (st2 := [.int (lg_cmp (fo.getD (5400 + k) 0) x)]) (h2 := h) (dc2 := 0) (ds2 := 0) 2 rfl ?_
    refine wq_ne0f rfl rfl ((lg_cmp_eq _ _).mpr (by rw [show k = j by omega]; exact hx)) ?_
    refine wq_gos (f := 1) (pc2 := 34) (ls2 := [(0, .ref 162), (1, .ref 230), (2, .long x), (4, .int (nI k))]) (st2 := [.int 1]) (h2 := h) (dc2 := 0) (ds2 := 0) 1 rfl ?_
    exact wq_ret rfl rfl rfl
  | succ m ih =>
    intro k hk
    have q1 := nI_toInt (n := k) (by omega)
    have q2 := nI_toInt (n := N) (by omega)
    apply wq_toT
    refine wq_gos (f := 1) (pc2 := 11) (ls2 := [(0, .ref 162), (1, .ref 230), (2, .long x), (4, .int (nI k))]) (st2 := [.ref 162, .int (nI k)]) (h2 := h) (dc2 := 0) (ds2 := 0) 2 rfl ?_
    refine wq_getf rfl hM h34 rfl ?_
    refine wq_ge2f rfl rfl (by omega) ?_
    refine wq_gos (f := 1) (pc2 := 18) (ls2 := [(0, .ref 162), (1, .ref 230), (2, .long x), (4, .int (nI k))]) (st2 := [.ref 162]) (h2 := h) (dc2 := 0) (ds2 := 0) 1 rfl ?_
    refine wq_getf rfl hM (hC.2 (30, 196) (by decide)) rfl ?_
    refine wq_gos (f := 1) (pc2 := 27) (ls2 := [(0, .ref 162), (1, .ref 230), (2, .long x), (4, .int (nI k))]) (st2 := [.int ((5400 : Int32) + (nI k)), .ref 196]) (h2 := h) (dc2 := 0) (ds2 := 0) 3 rfl ?_
    refine wq_vi (show (5400 : Int32) + nI k = nI (5400 + k) from nI_add 5400 k) ?_
    refine wq_laldn rfl hF (by omega) (by decide) rfl ?_
    refine wq_gos (f := 1) (pc2 := 30) (ls2 := [(0, .ref 162), (1, .ref 230), (2, .long x), (4, .int (nI k))]) (st2 := [.int (lg_cmp (fo.getD (5400 + k) 0) x)]) (h2 := h) (dc2 := 0) (ds2 := 0) 2 rfl ?_
    refine wq_ne0 rfl rfl (fun b1x => ?_) (fun b1x => ?_)
    · refine wq_gos (f := 1) (pc2 := 38) (ls2 := [(4, .int ((nI k) + 1)), (0, .ref 162), (1, .ref 230), (2, .long x)]) (st2 := []) (h2 := h) (dc2 := 0) (ds2 := 0) 1 rfl ?_
      rw [nI_1]
      refine wq_gos (f := 1) (pc2 := 8) (ls2 := [(4, .int (nI (k + 1))), (0, .ref 162), (1, .ref 230), (2, .long x)]) (st2 := []) (h2 := h) (dc2 := 0) (ds2 := 0) 1 rfl ?_
      refine wq_ls [(0, .ref 162), (1, .ref 230), (2, .long x), (4, .int (nI (k + 1)))] (show ([0, 1, 2, 4] : List Nat).Nodup by decide) ⟨rfl, rfl, rfl, rfl, trivial⟩ ?_
      exact wq_T (ih (k + 1) (by omega)) rfl
    · refine wq_gos (f := 1) (pc2 := 34) (ls2 := [(0, .ref 162), (1, .ref 230), (2, .long x), (4, .int (nI k))]) (st2 := [.int 1]) (h2 := h) (dc2 := 0) (ds2 := 0) 1 rfl ?_
      exact wq_ret rfl rfl rfl
theorem m_among {h : zH} {fs : List Value} {fo : List Int64} {dq : List Int32} {N : Nat} {v0 v1 v2 v3 v4 v5 : Int32} (hM : zat h 162 = some (.inr (.inr (.inr (10, fs))))) (hC : mC fs) (h34 : fs[34]? = some (.int (nI N))) (hF : zat h 196 = some (.inr (.inl (6000, fo)))) (hD : zat h 230 = some (.inl (0, 6, dq))) (hd0 : dq.getD 0 0 = v0) (hd1 : dq.getD 1 0 = v1) (hd2 : dq.getD 2 0 = v2) (hd3 : dq.getD 3 0 = v3) (hd4 : dq.getD 4 0 = v4) (hd5 : dq.getD 5 0 = v5) (hN : N ≤ 600) {j : Nat} (hj : j < N) (hx : fo.getD (5400 + j) 0 = jpack v0 v1 v2 v3 v4 v5) : zT zg0 zF zP 279 0 [(0, .ref 162), (1, .ref 230)] [] h 0 0 (some (.int 1), h, 0, 0) := by
  have hpk := m_packed hD
  rw [hd0, hd1, hd2, hd3, hd4, hd5] at hpk
  apply wq_toT
  refine wq_gos (f := 1) (pc2 := 1) (ls2 := [(0, .ref 162), (1, .ref 230)]) (st2 := [.ref 230]) (h2 := h) (dc2 := 0) (ds2 := 0) 1 rfl ?_
  refine wq_inl (y2 := 219) (as := [.ref 230]) rfl rfl rfl (wq_T hpk ?_)
  show wq 279 4 [(0, .ref 162), (1, .ref 230)] [.long (jpack v0 v1 v2 v3 v4 v5)] h 0 0 _
  refine wq_gos (f := 1) (pc2 := 8) (ls2 := [(4, .int 0), (2, .long (jpack v0 v1 v2 v3 v4 v5)), (0, .ref 162), (1, .ref 230)]) (st2 := []) (h2 := h) (dc2 := 0) (ds2 := 0) 3 rfl ?_
  refine wq_ls [(0, .ref 162), (1, .ref 230), (2, .long (jpack v0 v1 v2 v3 v4 v5)), (4, .int (nI 0))] (show ([0, 1, 2, 4] : List Nat).Nodup by decide) ⟨rfl, rfl, rfl, rfl, trivial⟩ ?_
  exact wq_T (m_amongL hM hC h34 hF hN hj hx j 0 (by omega)) rfl
set_option maxHeartbeats 8000000 in
theorem m_draw6 {h : zH} {fs : List Value} {kn lo hi : List Int32} {ll lg dq : List Int32} {sd w su : Int32} {N i n dc ds : Nat} {Q : zR → Prop} (hw : wLim lo hi ll lg) (hlm : wLm lo hi) (hn : n < 2147483648) (hM : zat h 162 = some (.inr (.inr (.inr (10, fs))))) (hC : mC fs) (hK : zat h 166 = some (.inl (0, 14, kn))) (hO : zat h 168 = some (.inl (0, 12, lo))) (hG : zat h 170 = some (.inl (0, 12, hi))) (h52 : fs[52]? = some (.int (nI n))) (hD : zat h 230 = some (.inl (0, 6, dq))) (kk : (∀ (h2 : zH) (fs2 : List Value) (dq2 : List Int32), wFr [162, 230] h h2 → h2.length = h.length → zat h2 162 = some (.inr (.inr (.inr (10, fs2)))) → mC fs2 → fs2[52]? = some (.int (nI (jsd n 6))) → zat h2 230 = some (.inl (0, 6, dq2)) → dq2.getD 0 0 = jv ll lg n 0 → dq2.getD 1 0 = jv ll lg n 1 → dq2.getD 2 0 = jv ll lg n 2 → dq2.getD 3 0 = jv ll lg n 3 → dq2.getD 4 0 = jv ll lg n 4 → dq2.getD 5 0 = jv ll lg n 5 → wq 280 115 [(0, .ref 162), (1, .int sd), (2, .int (nI N)), (3, .int w), (4, .int su), (5, .int (nI i))] [] h2 dc ds Q)) : wq 280 63 [(0, .ref 162), (1, .int sd), (2, .int (nI N)), (3, .int w), (4, .int su), (5, .int (nI i))] [] h dc ds Q := by
  refine wq_gos (f := 1) (pc2 := 74) (ls2 := [(6, .int 0), (0, .ref 162), (1, .int sd), (2, .int (nI N)), (3, .int w), (4, .int su), (5, .int (nI i))]) (st2 := [.ref 162]) (h2 := h) (dc2 := dc) (ds2 := ds) 6 rfl ?_
  refine wq_getf rfl hM (hC.2 (53, 230) (by decide)) rfl ?_
  refine wq_gos (f := 1) (pc2 := 80) (ls2 := [(6, .int 0), (0, .ref 162), (1, .int sd), (2, .int (nI N)), (3, .int w), (4, .int su), (5, .int (nI i))]) (st2 := [.ref 162, .int 0, .ref 230]) (h2 := h) (dc2 := dc) (ds2 := ds) 2 rfl ?_
  refine wq_getf rfl hM (hC.2 (4, 168) (by decide)) rfl ?_
  refine wq_gos (f := 1) (pc2 := 85) (ls2 := [(6, .int 0), (0, .ref 162), (1, .int sd), (2, .int (nI N)), (3, .int w), (4, .int su), (5, .int (nI i))]) (st2 := [.int 0, .ref 168, .int 0, .ref 230]) (h2 := h) (dc2 := dc) (ds2 := ds) 1 rfl ?_
  refine wq_ialdk (k := 0) rfl hO rfl rfl rfl ?_
  refine wq_gos (f := 1) (pc2 := 88) (ls2 := [(6, .int 0), (0, .ref 162), (1, .int sd), (2, .int (nI N)), (3, .int w), (4, .int su), (5, .int (nI i))]) (st2 := [.ref 162, .ref 162, .int (lo.getD 0 0), .int 0, .ref 230]) (h2 := h) (dc2 := dc) (ds2 := ds) 2 rfl ?_
  refine wq_getf rfl hM (hC.2 (5, 170) (by decide)) rfl ?_
  refine wq_gos (f := 1) (pc2 := 93) (ls2 := [(6, .int 0), (0, .ref 162), (1, .int sd), (2, .int (nI N)), (3, .int w), (4, .int su), (5, .int (nI i))]) (st2 := [.int 0, .ref 170, .ref 162, .int (lo.getD 0 0), .int 0, .ref 230]) (h2 := h) (dc2 := dc) (ds2 := ds) 1 rfl ?_
  refine wq_ialdk (k := 0) rfl hG rfl rfl rfl ?_
  refine wq_gos (f := 1) (pc2 := 95) (ls2 := [(6, .int 0), (0, .ref 162), (1, .int sd), (2, .int (nI N)), (3, .int w), (4, .int su), (5, .int (nI i))]) (st2 := [.ref 162, .int (hi.getD 0 0), .ref 162, .int (lo.getD 0 0), .int 0, .ref 230]) (h2 := h) (dc2 := dc) (ds2 := ds) 1 rfl ?_
  refine wq_getf rfl hM (hC.2 (4, 168) (by decide)) rfl ?_
  refine wq_gos (f := 1) (pc2 := 100) (ls2 := [(6, .int 0), (0, .ref 162), (1, .int sd), (2, .int (nI N)), (3, .int w), (4, .int su), (5, .int (nI i))]) (st2 := [.int 0, .ref 168, .int (hi.getD 0 0), .ref 162, .int (lo.getD 0 0), .int 0, .ref 230]) (h2 := h) (dc2 := dc) (ds2 := ds) 1 rfl ?_
  refine wq_ialdk (k := 0) rfl hO rfl rfl rfl ?_
  refine wq_gos (f := 1) (pc2 := 104) (ls2 := [(6, .int 0), (0, .ref 162), (1, .int sd), (2, .int (nI N)), (3, .int w), (4, .int su), (5, .int (nI i))]) (st2 := [.int (((hi.getD 0 0) - (lo.getD 0 0)) + (1 : Int32)), .ref 162, .int (lo.getD 0 0), .int 0, .ref 230]) (h2 := h) (dc2 := dc) (ds2 := ds) 3 rfl ?_
  refine wq_vi (of_nI hlm (j := 0) (by decide)).1 ?_
  refine wq_inlv (y2 := 278) (as := [.int (nI (jK lo hi 0))]) rfl rfl rfl hM rfl ?_
  show wq 278 0 [(0, .ref 162), (1, .int (nI (jK lo hi 0)))] [] h 0 0 _
  refine wq_gos (f := 1) (pc2 := 2) (ls2 := [(0, .ref 162), (1, .int (nI (jK lo hi 0)))]) (st2 := [.ref 162, .ref 162]) (h2 := h) (dc2 := 0) (ds2 := 0) 2 rfl ?_
  refine wq_getf rfl hM h52 rfl ?_
  refine wq_gos (f := 1) (pc2 := 17) (ls2 := [(0, .ref 162), (1, .int (nI (jK lo hi 0)))]) (st2 := [.int ((((nI n) * (1103515245 : Int32)) + (12345 : Int32)) &&& (2147483647 : Int32)), .ref 162]) (h2 := h) (dc2 := 0) (ds2 := 0) 6 rfl ?_
  refine wq_vi (i_next _) ?_
  show wq 278 17 [(0, .ref 162), (1, .int (nI (jK lo hi 0)))] [.int (nI (jsd n 1)), .ref 162] h 0 0 _
  refine wq_putf rfl hM rfl (by rw [hC.1]; rfl) rfl ?_
  intro h1x e2x f3x l4x
  obtain ⟨fs5x, hf6x⟩ : ∃ x, x = fs.set 52 (.int (nI (jsd n 1))) := ⟨_, rfl⟩
  rw [← hf6x] at e2x
  have hC7x : mC fs5x := by rw [hf6x]; exact mC_set hC (by decide) _
  have p8x : fs5x[52]? = some (.int (nI (jsd n 1))) := by rw [hf6x]; exact List.getElem?_set_self (by rw [hC.1]; decide)
  refine wq_gos (f := 1) (pc2 := 21) (ls2 := [(0, .ref 162), (1, .int (nI (jK lo hi 0)))]) (st2 := [.ref 162]) (h2 := h1x) (dc2 := 0) (ds2 := 0) 1 rfl ?_
  refine wq_getf rfl e2x p8x rfl ?_
  refine wq_gos (f := 1) (pc2 := 28) (ls2 := [(0, .ref 162), (1, .int (nI (jK lo hi 0)))]) (st2 := [.int (nI (jK lo hi 0)), .int ((nI (jsd n 1)) >>> ((16 : Int32) &&& 31))]) (h2 := h1x) (dc2 := 0) (ds2 := 0) 3 rfl ?_
  refine wq_irem rfl (nIk_ne0 (of_nI hlm (j := 0) (by decide)).2) ?_
  refine wq_vi (i_draw (jsd_lt hn 1) (of_nI hlm (j := 0) (by decide)).2) ?_
  refine wq_ret rfl rfl ?_
  show wq 280 107 [(6, .int 0), (0, .ref 162), (1, .int sd), (2, .int (nI N)), (3, .int w), (4, .int su), (5, .int (nI i))] [.int (nI (jsd n 1 / 65536 % jK lo hi 0)), .int (lo.getD 0 0), .int 0, .ref 230] h1x dc ds _
  refine wq_gos (f := 1) (pc2 := 108) (ls2 := [(6, .int 0), (0, .ref 162), (1, .int sd), (2, .int (nI N)), (3, .int w), (4, .int su), (5, .int (nI i))]) (st2 := [.int ((lo.getD 0 0) + (nI (jsd n 1 / 65536 % jK lo hi 0))), .int 0, .ref 230]) (h2 := h1x) (dc2 := dc) (ds2 := ds) 1 rfl ?_
  refine wq_vi (jv_m hw n (j := 0) (by decide)) ?_
  have e9x := (f3x.2 _ _ (wnc (by decide) wn0) hD)
  refine wq_iast rfl e9x rfl rfl ?_
  intro h10x e11x f12x l13x
  have e11x : zat h10x 230 = some (.inl (0, 6, (zset 0 dq 0 (jv ll lg n 0)))) := e11x
  refine wq_gos (f := 1) (pc2 := 74) (ls2 := [(6, .int 1), (0, .ref 162), (1, .int sd), (2, .int (nI N)), (3, .int w), (4, .int su), (5, .int (nI i))]) (st2 := [.ref 162]) (h2 := h10x) (dc2 := dc) (ds2 := ds) 6 rfl ?_
  have e14x := (f12x.2 _ _ (wnc (by decide) wn0) e2x)
  refine wq_getf rfl e14x (hC7x.2 (53, 230) (by decide)) rfl ?_
  refine wq_gos (f := 1) (pc2 := 80) (ls2 := [(6, .int 1), (0, .ref 162), (1, .int sd), (2, .int (nI N)), (3, .int w), (4, .int su), (5, .int (nI i))]) (st2 := [.ref 162, .int 1, .ref 230]) (h2 := h10x) (dc2 := dc) (ds2 := ds) 2 rfl ?_
  refine wq_getf rfl e14x (hC7x.2 (4, 168) (by decide)) rfl ?_
  refine wq_gos (f := 1) (pc2 := 85) (ls2 := [(6, .int 1), (0, .ref 162), (1, .int sd), (2, .int (nI N)), (3, .int w), (4, .int su), (5, .int (nI i))]) (st2 := [.int 1, .ref 168, .int 1, .ref 230]) (h2 := h10x) (dc2 := dc) (ds2 := ds) 1 rfl ?_
  have e15x := (f12x.2 _ _ (wnc (by decide) wn0) (f3x.2 _ _ (wnc (by decide) wn0) hO))
  refine wq_ialdk (k := 1) rfl e15x rfl rfl rfl ?_
  refine wq_gos (f := 1) (pc2 := 88) (ls2 := [(6, .int 1), (0, .ref 162), (1, .int sd), (2, .int (nI N)), (3, .int w), (4, .int su), (5, .int (nI i))]) (st2 := [.ref 162, .ref 162, .int (lo.getD 1 0), .int 1, .ref 230]) (h2 := h10x) (dc2 := dc) (ds2 := ds) 2 rfl ?_
  refine wq_getf rfl e14x (hC7x.2 (5, 170) (by decide)) rfl ?_
  refine wq_gos (f := 1) (pc2 := 93) (ls2 := [(6, .int 1), (0, .ref 162), (1, .int sd), (2, .int (nI N)), (3, .int w), (4, .int su), (5, .int (nI i))]) (st2 := [.int 1, .ref 170, .ref 162, .int (lo.getD 1 0), .int 1, .ref 230]) (h2 := h10x) (dc2 := dc) (ds2 := ds) 1 rfl ?_
  have e16x := (f12x.2 _ _ (wnc (by decide) wn0) (f3x.2 _ _ (wnc (by decide) wn0) hG))
  refine wq_ialdk (k := 1) rfl e16x rfl rfl rfl ?_
  refine wq_gos (f := 1) (pc2 := 95) (ls2 := [(6, .int 1), (0, .ref 162), (1, .int sd), (2, .int (nI N)), (3, .int w), (4, .int su), (5, .int (nI i))]) (st2 := [.ref 162, .int (hi.getD 1 0), .ref 162, .int (lo.getD 1 0), .int 1, .ref 230]) (h2 := h10x) (dc2 := dc) (ds2 := ds) 1 rfl ?_
  refine wq_getf rfl e14x (hC7x.2 (4, 168) (by decide)) rfl ?_
  refine wq_gos (f := 1) (pc2 := 100) (ls2 := [(6, .int 1), (0, .ref 162), (1, .int sd), (2, .int (nI N)), (3, .int w), (4, .int su), (5, .int (nI i))]) (st2 := [.int 1, .ref 168, .int (hi.getD 1 0), .ref 162, .int (lo.getD 1 0), .int 1, .ref 230]) (h2 := h10x) (dc2 := dc) (ds2 := ds) 1 rfl ?_
  refine wq_ialdk (k := 1) rfl e15x rfl rfl rfl ?_
  refine wq_gos (f := 1) (pc2 := 104) (ls2 := [(6, .int 1), (0, .ref 162), (1, .int sd), (2, .int (nI N)), (3, .int w), (4, .int su), (5, .int (nI i))]) (st2 := [.int (((hi.getD 1 0) - (lo.getD 1 0)) + (1 : Int32)), .ref 162, .int (lo.getD 1 0), .int 1, .ref 230]) (h2 := h10x) (dc2 := dc) (ds2 := ds) 3 rfl ?_
  refine wq_vi (of_nI hlm (j := 1) (by decide)).1 ?_
  refine wq_inlv (y2 := 278) (as := [.int (nI (jK lo hi 1))]) rfl rfl rfl e14x rfl ?_
  show wq 278 0 [(0, .ref 162), (1, .int (nI (jK lo hi 1)))] [] h10x 0 0 _
  refine wq_gos (f := 1) (pc2 := 2) (ls2 := [(0, .ref 162), (1, .int (nI (jK lo hi 1)))]) (st2 := [.ref 162, .ref 162]) (h2 := h10x) (dc2 := 0) (ds2 := 0) 2 rfl ?_
  refine wq_getf rfl e14x p8x rfl ?_
  refine wq_gos (f := 1) (pc2 := 17) (ls2 := [(0, .ref 162), (1, .int (nI (jK lo hi 1)))]) (st2 := [.int ((((nI (jsd n 1)) * (1103515245 : Int32)) + (12345 : Int32)) &&& (2147483647 : Int32)), .ref 162]) (h2 := h10x) (dc2 := 0) (ds2 := 0) 6 rfl ?_
  refine wq_vi (i_next _) ?_
  show wq 278 17 [(0, .ref 162), (1, .int (nI (jK lo hi 1)))] [.int (nI (jsd n 2)), .ref 162] h10x 0 0 _
  refine wq_putf rfl e14x rfl (by rw [hC7x.1]; rfl) rfl ?_
  intro h17x e18x f19x l20x
  obtain ⟨fs21x, hf22x⟩ : ∃ x, x = fs5x.set 52 (.int (nI (jsd n 2))) := ⟨_, rfl⟩
  rw [← hf22x] at e18x
  have hC23x : mC fs21x := by rw [hf22x]; exact mC_set hC7x (by decide) _
  have p24x : fs21x[52]? = some (.int (nI (jsd n 2))) := by rw [hf22x]; exact List.getElem?_set_self (by rw [hC7x.1]; decide)
  refine wq_gos (f := 1) (pc2 := 21) (ls2 := [(0, .ref 162), (1, .int (nI (jK lo hi 1)))]) (st2 := [.ref 162]) (h2 := h17x) (dc2 := 0) (ds2 := 0) 1 rfl ?_
  refine wq_getf rfl e18x p24x rfl ?_
  refine wq_gos (f := 1) (pc2 := 28) (ls2 := [(0, .ref 162), (1, .int (nI (jK lo hi 1)))]) (st2 := [.int (nI (jK lo hi 1)), .int ((nI (jsd n 2)) >>> ((16 : Int32) &&& 31))]) (h2 := h17x) (dc2 := 0) (ds2 := 0) 3 rfl ?_
  refine wq_irem rfl (nIk_ne0 (of_nI hlm (j := 1) (by decide)).2) ?_
  refine wq_vi (i_draw (jsd_lt hn 2) (of_nI hlm (j := 1) (by decide)).2) ?_
  refine wq_ret rfl rfl ?_
  show wq 280 107 [(6, .int 1), (0, .ref 162), (1, .int sd), (2, .int (nI N)), (3, .int w), (4, .int su), (5, .int (nI i))] [.int (nI (jsd n 2 / 65536 % jK lo hi 1)), .int (lo.getD 1 0), .int 1, .ref 230] h17x dc ds _
  refine wq_gos (f := 1) (pc2 := 108) (ls2 := [(6, .int 1), (0, .ref 162), (1, .int sd), (2, .int (nI N)), (3, .int w), (4, .int su), (5, .int (nI i))]) (st2 := [.int ((lo.getD 1 0) + (nI (jsd n 2 / 65536 % jK lo hi 1))), .int 1, .ref 230]) (h2 := h17x) (dc2 := dc) (ds2 := ds) 1 rfl ?_
  refine wq_vi (jv_m hw n (j := 1) (by decide)) ?_
  have e25x := (f19x.2 _ _ (wnc (by decide) wn0) e11x)
  refine wq_iast rfl e25x rfl rfl ?_
  intro h26x e27x f28x l29x
  have e27x : zat h26x 230 = some (.inl (0, 6, (zset 0 (zset 0 dq 0 (jv ll lg n 0)) 1 (jv ll lg n 1)))) := e27x
  refine wq_gos (f := 1) (pc2 := 74) (ls2 := [(6, .int 2), (0, .ref 162), (1, .int sd), (2, .int (nI N)), (3, .int w), (4, .int su), (5, .int (nI i))]) (st2 := [.ref 162]) (h2 := h26x) (dc2 := dc) (ds2 := ds) 6 rfl ?_
  have e30x := (f28x.2 _ _ (wnc (by decide) wn0) e18x)
  refine wq_getf rfl e30x (hC23x.2 (53, 230) (by decide)) rfl ?_
  refine wq_gos (f := 1) (pc2 := 80) (ls2 := [(6, .int 2), (0, .ref 162), (1, .int sd), (2, .int (nI N)), (3, .int w), (4, .int su), (5, .int (nI i))]) (st2 := [.ref 162, .int 2, .ref 230]) (h2 := h26x) (dc2 := dc) (ds2 := ds) 2 rfl ?_
  refine wq_getf rfl e30x (hC23x.2 (4, 168) (by decide)) rfl ?_
  refine wq_gos (f := 1) (pc2 := 85) (ls2 := [(6, .int 2), (0, .ref 162), (1, .int sd), (2, .int (nI N)), (3, .int w), (4, .int su), (5, .int (nI i))]) (st2 := [.int 2, .ref 168, .int 2, .ref 230]) (h2 := h26x) (dc2 := dc) (ds2 := ds) 1 rfl ?_
  have e31x := (f28x.2 _ _ (wnc (by decide) wn0) (f19x.2 _ _ (wnc (by decide) wn0) e15x))
  refine wq_ialdk (k := 2) rfl e31x rfl rfl rfl ?_
  refine wq_gos (f := 1) (pc2 := 88) (ls2 := [(6, .int 2), (0, .ref 162), (1, .int sd), (2, .int (nI N)), (3, .int w), (4, .int su), (5, .int (nI i))]) (st2 := [.ref 162, .ref 162, .int (lo.getD 2 0), .int 2, .ref 230]) (h2 := h26x) (dc2 := dc) (ds2 := ds) 2 rfl ?_
  refine wq_getf rfl e30x (hC23x.2 (5, 170) (by decide)) rfl ?_
  refine wq_gos (f := 1) (pc2 := 93) (ls2 := [(6, .int 2), (0, .ref 162), (1, .int sd), (2, .int (nI N)), (3, .int w), (4, .int su), (5, .int (nI i))]) (st2 := [.int 2, .ref 170, .ref 162, .int (lo.getD 2 0), .int 2, .ref 230]) (h2 := h26x) (dc2 := dc) (ds2 := ds) 1 rfl ?_
  have e32x := (f28x.2 _ _ (wnc (by decide) wn0) (f19x.2 _ _ (wnc (by decide) wn0) e16x))
  refine wq_ialdk (k := 2) rfl e32x rfl rfl rfl ?_
  refine wq_gos (f := 1) (pc2 := 95) (ls2 := [(6, .int 2), (0, .ref 162), (1, .int sd), (2, .int (nI N)), (3, .int w), (4, .int su), (5, .int (nI i))]) (st2 := [.ref 162, .int (hi.getD 2 0), .ref 162, .int (lo.getD 2 0), .int 2, .ref 230]) (h2 := h26x) (dc2 := dc) (ds2 := ds) 1 rfl ?_
  refine wq_getf rfl e30x (hC23x.2 (4, 168) (by decide)) rfl ?_
  refine wq_gos (f := 1) (pc2 := 100) (ls2 := [(6, .int 2), (0, .ref 162), (1, .int sd), (2, .int (nI N)), (3, .int w), (4, .int su), (5, .int (nI i))]) (st2 := [.int 2, .ref 168, .int (hi.getD 2 0), .ref 162, .int (lo.getD 2 0), .int 2, .ref 230]) (h2 := h26x) (dc2 := dc) (ds2 := ds) 1 rfl ?_
  refine wq_ialdk (k := 2) rfl e31x rfl rfl rfl ?_
  refine wq_gos (f := 1) (pc2 := 104) (ls2 := [(6, .int 2), (0, .ref 162), (1, .int sd), (2, .int (nI N)), (3, .int w), (4, .int su), (5, .int (nI i))]) (st2 := [.int (((hi.getD 2 0) - (lo.getD 2 0)) + (1 : Int32)), .ref 162, .int (lo.getD 2 0), .int 2, .ref 230]) (h2 := h26x) (dc2 := dc) (ds2 := ds) 3 rfl ?_
  refine wq_vi (of_nI hlm (j := 2) (by decide)).1 ?_
  refine wq_inlv (y2 := 278) (as := [.int (nI (jK lo hi 2))]) rfl rfl rfl e30x rfl ?_
  show wq 278 0 [(0, .ref 162), (1, .int (nI (jK lo hi 2)))] [] h26x 0 0 _
  refine wq_gos (f := 1) (pc2 := 2) (ls2 := [(0, .ref 162), (1, .int (nI (jK lo hi 2)))]) (st2 := [.ref 162, .ref 162]) (h2 := h26x) (dc2 := 0) (ds2 := 0) 2 rfl ?_
  refine wq_getf rfl e30x p24x rfl ?_
  refine wq_gos (f := 1) (pc2 := 17) (ls2 := [(0, .ref 162), (1, .int (nI (jK lo hi 2)))]) (st2 := [.int ((((nI (jsd n 2)) * (1103515245 : Int32)) + (12345 : Int32)) &&& (2147483647 : Int32)), .ref 162]) (h2 := h26x) (dc2 := 0) (ds2 := 0) 6 rfl ?_
  refine wq_vi (i_next _) ?_
  show wq 278 17 [(0, .ref 162), (1, .int (nI (jK lo hi 2)))] [.int (nI (jsd n 3)), .ref 162] h26x 0 0 _
  refine wq_putf rfl e30x rfl (by rw [hC23x.1]; rfl) rfl ?_
  intro h33x e34x f35x l36x
  obtain ⟨fs37x, hf38x⟩ : ∃ x, x = fs21x.set 52 (.int (nI (jsd n 3))) := ⟨_, rfl⟩
  rw [← hf38x] at e34x
  have hC39x : mC fs37x := by rw [hf38x]; exact mC_set hC23x (by decide) _
  have p40x : fs37x[52]? = some (.int (nI (jsd n 3))) := by rw [hf38x]; exact List.getElem?_set_self (by rw [hC23x.1]; decide)
  refine wq_gos (f := 1) (pc2 := 21) (ls2 := [(0, .ref 162), (1, .int (nI (jK lo hi 2)))]) (st2 := [.ref 162]) (h2 := h33x) (dc2 := 0) (ds2 := 0) 1 rfl ?_
  refine wq_getf rfl e34x p40x rfl ?_
  refine wq_gos (f := 1) (pc2 := 28) (ls2 := [(0, .ref 162), (1, .int (nI (jK lo hi 2)))]) (st2 := [.int (nI (jK lo hi 2)), .int ((nI (jsd n 3)) >>> ((16 : Int32) &&& 31))]) (h2 := h33x) (dc2 := 0) (ds2 := 0) 3 rfl ?_
  refine wq_irem rfl (nIk_ne0 (of_nI hlm (j := 2) (by decide)).2) ?_
  refine wq_vi (i_draw (jsd_lt hn 3) (of_nI hlm (j := 2) (by decide)).2) ?_
  refine wq_ret rfl rfl ?_
  show wq 280 107 [(6, .int 2), (0, .ref 162), (1, .int sd), (2, .int (nI N)), (3, .int w), (4, .int su), (5, .int (nI i))] [.int (nI (jsd n 3 / 65536 % jK lo hi 2)), .int (lo.getD 2 0), .int 2, .ref 230] h33x dc ds _
  refine wq_gos (f := 1) (pc2 := 108) (ls2 := [(6, .int 2), (0, .ref 162), (1, .int sd), (2, .int (nI N)), (3, .int w), (4, .int su), (5, .int (nI i))]) (st2 := [.int ((lo.getD 2 0) + (nI (jsd n 3 / 65536 % jK lo hi 2))), .int 2, .ref 230]) (h2 := h33x) (dc2 := dc) (ds2 := ds) 1 rfl ?_
  refine wq_vi (jv_m hw n (j := 2) (by decide)) ?_
  have e41x := (f35x.2 _ _ (wnc (by decide) wn0) e27x)
  refine wq_iast rfl e41x rfl rfl ?_
  intro h42x e43x f44x l45x
  have e43x : zat h42x 230 = some (.inl (0, 6, (zset 0 (zset 0 (zset 0 dq 0 (jv ll lg n 0)) 1 (jv ll lg n 1)) 2 (jv ll lg n 2)))) := e43x
  refine wq_gos (f := 1) (pc2 := 74) (ls2 := [(6, .int 3), (0, .ref 162), (1, .int sd), (2, .int (nI N)), (3, .int w), (4, .int su), (5, .int (nI i))]) (st2 := [.ref 162]) (h2 := h42x) (dc2 := dc) (ds2 := ds) 6 rfl ?_
  have e46x := (f44x.2 _ _ (wnc (by decide) wn0) e34x)
  refine wq_getf rfl e46x (hC39x.2 (53, 230) (by decide)) rfl ?_
  refine wq_gos (f := 1) (pc2 := 80) (ls2 := [(6, .int 3), (0, .ref 162), (1, .int sd), (2, .int (nI N)), (3, .int w), (4, .int su), (5, .int (nI i))]) (st2 := [.ref 162, .int 3, .ref 230]) (h2 := h42x) (dc2 := dc) (ds2 := ds) 2 rfl ?_
  refine wq_getf rfl e46x (hC39x.2 (4, 168) (by decide)) rfl ?_
  refine wq_gos (f := 1) (pc2 := 85) (ls2 := [(6, .int 3), (0, .ref 162), (1, .int sd), (2, .int (nI N)), (3, .int w), (4, .int su), (5, .int (nI i))]) (st2 := [.int 3, .ref 168, .int 3, .ref 230]) (h2 := h42x) (dc2 := dc) (ds2 := ds) 1 rfl ?_
  have e47x := (f44x.2 _ _ (wnc (by decide) wn0) (f35x.2 _ _ (wnc (by decide) wn0) e31x))
  refine wq_ialdk (k := 3) rfl e47x rfl rfl rfl ?_
  refine wq_gos (f := 1) (pc2 := 88) (ls2 := [(6, .int 3), (0, .ref 162), (1, .int sd), (2, .int (nI N)), (3, .int w), (4, .int su), (5, .int (nI i))]) (st2 := [.ref 162, .ref 162, .int (lo.getD 3 0), .int 3, .ref 230]) (h2 := h42x) (dc2 := dc) (ds2 := ds) 2 rfl ?_
  refine wq_getf rfl e46x (hC39x.2 (5, 170) (by decide)) rfl ?_
  refine wq_gos (f := 1) (pc2 := 93) (ls2 := [(6, .int 3), (0, .ref 162), (1, .int sd), (2, .int (nI N)), (3, .int w), (4, .int su), (5, .int (nI i))]) (st2 := [.int 3, .ref 170, .ref 162, .int (lo.getD 3 0), .int 3, .ref 230]) (h2 := h42x) (dc2 := dc) (ds2 := ds) 1 rfl ?_
  have e48x := (f44x.2 _ _ (wnc (by decide) wn0) (f35x.2 _ _ (wnc (by decide) wn0) e32x))
  refine wq_ialdk (k := 3) rfl e48x rfl rfl rfl ?_
  refine wq_gos (f := 1) (pc2 := 95) (ls2 := [(6, .int 3), (0, .ref 162), (1, .int sd), (2, .int (nI N)), (3, .int w), (4, .int su), (5, .int (nI i))]) (st2 := [.ref 162, .int (hi.getD 3 0), .ref 162, .int (lo.getD 3 0), .int 3, .ref 230]) (h2 := h42x) (dc2 := dc) (ds2 := ds) 1 rfl ?_
  refine wq_getf rfl e46x (hC39x.2 (4, 168) (by decide)) rfl ?_
  refine wq_gos (f := 1) (pc2 := 100) (ls2 := [(6, .int 3), (0, .ref 162), (1, .int sd), (2, .int (nI N)), (3, .int w), (4, .int su), (5, .int (nI i))]) (st2 := [.int 3, .ref 168, .int (hi.getD 3 0), .ref 162, .int (lo.getD 3 0), .int 3, .ref 230]) (h2 := h42x) (dc2 := dc) (ds2 := ds) 1 rfl ?_
  refine wq_ialdk (k := 3) rfl e47x rfl rfl rfl ?_
  refine wq_gos (f := 1) (pc2 := 104) (ls2 := [(6, .int 3), (0, .ref 162), (1, .int sd), (2, .int (nI N)), (3, .int w), (4, .int su), (5, .int (nI i))]) (st2 := [.int (((hi.getD 3 0) - (lo.getD 3 0)) + (1 : Int32)), .ref 162, .int (lo.getD 3 0), .int 3, .ref 230]) (h2 := h42x) (dc2 := dc) (ds2 := ds) 3 rfl ?_
  refine wq_vi (of_nI hlm (j := 3) (by decide)).1 ?_
  refine wq_inlv (y2 := 278) (as := [.int (nI (jK lo hi 3))]) rfl rfl rfl e46x rfl ?_
  show wq 278 0 [(0, .ref 162), (1, .int (nI (jK lo hi 3)))] [] h42x 0 0 _
  refine wq_gos (f := 1) (pc2 := 2) (ls2 := [(0, .ref 162), (1, .int (nI (jK lo hi 3)))]) (st2 := [.ref 162, .ref 162]) (h2 := h42x) (dc2 := 0) (ds2 := 0) 2 rfl ?_
  refine wq_getf rfl e46x p40x rfl ?_
  refine wq_gos (f := 1) (pc2 := 17) (ls2 := [(0, .ref 162), (1, .int (nI (jK lo hi 3)))]) (st2 := [.int ((((nI (jsd n 3)) * (1103515245 : Int32)) + (12345 : Int32)) &&& (2147483647 : Int32)), .ref 162]) (h2 := h42x) (dc2 := 0) (ds2 := 0) 6 rfl ?_
  refine wq_vi (i_next _) ?_
  show wq 278 17 [(0, .ref 162), (1, .int (nI (jK lo hi 3)))] [.int (nI (jsd n 4)), .ref 162] h42x 0 0 _
  refine wq_putf rfl e46x rfl (by rw [hC39x.1]; rfl) rfl ?_
  intro h49x e50x f51x l52x
  obtain ⟨fs53x, hf54x⟩ : ∃ x, x = fs37x.set 52 (.int (nI (jsd n 4))) := ⟨_, rfl⟩
  rw [← hf54x] at e50x
  have hC55x : mC fs53x := by rw [hf54x]; exact mC_set hC39x (by decide) _
  have p56x : fs53x[52]? = some (.int (nI (jsd n 4))) := by rw [hf54x]; exact List.getElem?_set_self (by rw [hC39x.1]; decide)
  refine wq_gos (f := 1) (pc2 := 21) (ls2 := [(0, .ref 162), (1, .int (nI (jK lo hi 3)))]) (st2 := [.ref 162]) (h2 := h49x) (dc2 := 0) (ds2 := 0) 1 rfl ?_
  refine wq_getf rfl e50x p56x rfl ?_
  refine wq_gos (f := 1) (pc2 := 28) (ls2 := [(0, .ref 162), (1, .int (nI (jK lo hi 3)))]) (st2 := [.int (nI (jK lo hi 3)), .int ((nI (jsd n 4)) >>> ((16 : Int32) &&& 31))]) (h2 := h49x) (dc2 := 0) (ds2 := 0) 3 rfl ?_
  refine wq_irem rfl (nIk_ne0 (of_nI hlm (j := 3) (by decide)).2) ?_
  refine wq_vi (i_draw (jsd_lt hn 4) (of_nI hlm (j := 3) (by decide)).2) ?_
  refine wq_ret rfl rfl ?_
  show wq 280 107 [(6, .int 3), (0, .ref 162), (1, .int sd), (2, .int (nI N)), (3, .int w), (4, .int su), (5, .int (nI i))] [.int (nI (jsd n 4 / 65536 % jK lo hi 3)), .int (lo.getD 3 0), .int 3, .ref 230] h49x dc ds _
  refine wq_gos (f := 1) (pc2 := 108) (ls2 := [(6, .int 3), (0, .ref 162), (1, .int sd), (2, .int (nI N)), (3, .int w), (4, .int su), (5, .int (nI i))]) (st2 := [.int ((lo.getD 3 0) + (nI (jsd n 4 / 65536 % jK lo hi 3))), .int 3, .ref 230]) (h2 := h49x) (dc2 := dc) (ds2 := ds) 1 rfl ?_
  refine wq_vi (jv_m hw n (j := 3) (by decide)) ?_
  have e57x := (f51x.2 _ _ (wnc (by decide) wn0) e43x)
  refine wq_iast rfl e57x rfl rfl ?_
  intro h58x e59x f60x l61x
  have e59x : zat h58x 230 = some (.inl (0, 6, (zset 0 (zset 0 (zset 0 (zset 0 dq 0 (jv ll lg n 0)) 1 (jv ll lg n 1)) 2 (jv ll lg n 2)) 3 (jv ll lg n 3)))) := e59x
  refine wq_gos (f := 1) (pc2 := 74) (ls2 := [(6, .int 4), (0, .ref 162), (1, .int sd), (2, .int (nI N)), (3, .int w), (4, .int su), (5, .int (nI i))]) (st2 := [.ref 162]) (h2 := h58x) (dc2 := dc) (ds2 := ds) 6 rfl ?_
  have e62x := (f60x.2 _ _ (wnc (by decide) wn0) e50x)
  refine wq_getf rfl e62x (hC55x.2 (53, 230) (by decide)) rfl ?_
  refine wq_gos (f := 1) (pc2 := 80) (ls2 := [(6, .int 4), (0, .ref 162), (1, .int sd), (2, .int (nI N)), (3, .int w), (4, .int su), (5, .int (nI i))]) (st2 := [.ref 162, .int 4, .ref 230]) (h2 := h58x) (dc2 := dc) (ds2 := ds) 2 rfl ?_
  refine wq_getf rfl e62x (hC55x.2 (4, 168) (by decide)) rfl ?_
  refine wq_gos (f := 1) (pc2 := 85) (ls2 := [(6, .int 4), (0, .ref 162), (1, .int sd), (2, .int (nI N)), (3, .int w), (4, .int su), (5, .int (nI i))]) (st2 := [.int 4, .ref 168, .int 4, .ref 230]) (h2 := h58x) (dc2 := dc) (ds2 := ds) 1 rfl ?_
  have e63x := (f60x.2 _ _ (wnc (by decide) wn0) (f51x.2 _ _ (wnc (by decide) wn0) e47x))
  refine wq_ialdk (k := 4) rfl e63x rfl rfl rfl ?_
  refine wq_gos (f := 1) (pc2 := 88) (ls2 := [(6, .int 4), (0, .ref 162), (1, .int sd), (2, .int (nI N)), (3, .int w), (4, .int su), (5, .int (nI i))]) (st2 := [.ref 162, .ref 162, .int (lo.getD 4 0), .int 4, .ref 230]) (h2 := h58x) (dc2 := dc) (ds2 := ds) 2 rfl ?_
  refine wq_getf rfl e62x (hC55x.2 (5, 170) (by decide)) rfl ?_
  refine wq_gos (f := 1) (pc2 := 93) (ls2 := [(6, .int 4), (0, .ref 162), (1, .int sd), (2, .int (nI N)), (3, .int w), (4, .int su), (5, .int (nI i))]) (st2 := [.int 4, .ref 170, .ref 162, .int (lo.getD 4 0), .int 4, .ref 230]) (h2 := h58x) (dc2 := dc) (ds2 := ds) 1 rfl ?_
  have e64x := (f60x.2 _ _ (wnc (by decide) wn0) (f51x.2 _ _ (wnc (by decide) wn0) e48x))
  refine wq_ialdk (k := 4) rfl e64x rfl rfl rfl ?_
  refine wq_gos (f := 1) (pc2 := 95) (ls2 := [(6, .int 4), (0, .ref 162), (1, .int sd), (2, .int (nI N)), (3, .int w), (4, .int su), (5, .int (nI i))]) (st2 := [.ref 162, .int (hi.getD 4 0), .ref 162, .int (lo.getD 4 0), .int 4, .ref 230]) (h2 := h58x) (dc2 := dc) (ds2 := ds) 1 rfl ?_
  refine wq_getf rfl e62x (hC55x.2 (4, 168) (by decide)) rfl ?_
  refine wq_gos (f := 1) (pc2 := 100) (ls2 := [(6, .int 4), (0, .ref 162), (1, .int sd), (2, .int (nI N)), (3, .int w), (4, .int su), (5, .int (nI i))]) (st2 := [.int 4, .ref 168, .int (hi.getD 4 0), .ref 162, .int (lo.getD 4 0), .int 4, .ref 230]) (h2 := h58x) (dc2 := dc) (ds2 := ds) 1 rfl ?_
  refine wq_ialdk (k := 4) rfl e63x rfl rfl rfl ?_
  refine wq_gos (f := 1) (pc2 := 104) (ls2 := [(6, .int 4), (0, .ref 162), (1, .int sd), (2, .int (nI N)), (3, .int w), (4, .int su), (5, .int (nI i))]) (st2 := [.int (((hi.getD 4 0) - (lo.getD 4 0)) + (1 : Int32)), .ref 162, .int (lo.getD 4 0), .int 4, .ref 230]) (h2 := h58x) (dc2 := dc) (ds2 := ds) 3 rfl ?_
  refine wq_vi (of_nI hlm (j := 4) (by decide)).1 ?_
  refine wq_inlv (y2 := 278) (as := [.int (nI (jK lo hi 4))]) rfl rfl rfl e62x rfl ?_
  show wq 278 0 [(0, .ref 162), (1, .int (nI (jK lo hi 4)))] [] h58x 0 0 _
  refine wq_gos (f := 1) (pc2 := 2) (ls2 := [(0, .ref 162), (1, .int (nI (jK lo hi 4)))]) (st2 := [.ref 162, .ref 162]) (h2 := h58x) (dc2 := 0) (ds2 := 0) 2 rfl ?_
  refine wq_getf rfl e62x p56x rfl ?_
  refine wq_gos (f := 1) (pc2 := 17) (ls2 := [(0, .ref 162), (1, .int (nI (jK lo hi 4)))]) (st2 := [.int ((((nI (jsd n 4)) * (1103515245 : Int32)) + (12345 : Int32)) &&& (2147483647 : Int32)), .ref 162]) (h2 := h58x) (dc2 := 0) (ds2 := 0) 6 rfl ?_
  refine wq_vi (i_next _) ?_
  show wq 278 17 [(0, .ref 162), (1, .int (nI (jK lo hi 4)))] [.int (nI (jsd n 5)), .ref 162] h58x 0 0 _
  refine wq_putf rfl e62x rfl (by rw [hC55x.1]; rfl) rfl ?_
  intro h65x e66x f67x l68x
  obtain ⟨fs69x, hf70x⟩ : ∃ x, x = fs53x.set 52 (.int (nI (jsd n 5))) := ⟨_, rfl⟩
  rw [← hf70x] at e66x
  have hC71x : mC fs69x := by rw [hf70x]; exact mC_set hC55x (by decide) _
  have p72x : fs69x[52]? = some (.int (nI (jsd n 5))) := by rw [hf70x]; exact List.getElem?_set_self (by rw [hC55x.1]; decide)
  refine wq_gos (f := 1) (pc2 := 21) (ls2 := [(0, .ref 162), (1, .int (nI (jK lo hi 4)))]) (st2 := [.ref 162]) (h2 := h65x) (dc2 := 0) (ds2 := 0) 1 rfl ?_
  refine wq_getf rfl e66x p72x rfl ?_
  refine wq_gos (f := 1) (pc2 := 28) (ls2 := [(0, .ref 162), (1, .int (nI (jK lo hi 4)))]) (st2 := [.int (nI (jK lo hi 4)), .int ((nI (jsd n 5)) >>> ((16 : Int32) &&& 31))]) (h2 := h65x) (dc2 := 0) (ds2 := 0) 3 rfl ?_
  refine wq_irem rfl (nIk_ne0 (of_nI hlm (j := 4) (by decide)).2) ?_
  refine wq_vi (i_draw (jsd_lt hn 5) (of_nI hlm (j := 4) (by decide)).2) ?_
  refine wq_ret rfl rfl ?_
  show wq 280 107 [(6, .int 4), (0, .ref 162), (1, .int sd), (2, .int (nI N)), (3, .int w), (4, .int su), (5, .int (nI i))] [.int (nI (jsd n 5 / 65536 % jK lo hi 4)), .int (lo.getD 4 0), .int 4, .ref 230] h65x dc ds _
  refine wq_gos (f := 1) (pc2 := 108) (ls2 := [(6, .int 4), (0, .ref 162), (1, .int sd), (2, .int (nI N)), (3, .int w), (4, .int su), (5, .int (nI i))]) (st2 := [.int ((lo.getD 4 0) + (nI (jsd n 5 / 65536 % jK lo hi 4))), .int 4, .ref 230]) (h2 := h65x) (dc2 := dc) (ds2 := ds) 1 rfl ?_
  refine wq_vi (jv_m hw n (j := 4) (by decide)) ?_
  have e73x := (f67x.2 _ _ (wnc (by decide) wn0) e59x)
  refine wq_iast rfl e73x rfl rfl ?_
  intro h74x e75x f76x l77x
  have e75x : zat h74x 230 = some (.inl (0, 6, (zset 0 (zset 0 (zset 0 (zset 0 (zset 0 dq 0 (jv ll lg n 0)) 1 (jv ll lg n 1)) 2 (jv ll lg n 2)) 3 (jv ll lg n 3)) 4 (jv ll lg n 4)))) := e75x
  refine wq_gos (f := 1) (pc2 := 74) (ls2 := [(6, .int 5), (0, .ref 162), (1, .int sd), (2, .int (nI N)), (3, .int w), (4, .int su), (5, .int (nI i))]) (st2 := [.ref 162]) (h2 := h74x) (dc2 := dc) (ds2 := ds) 6 rfl ?_
  have e78x := (f76x.2 _ _ (wnc (by decide) wn0) e66x)
  refine wq_getf rfl e78x (hC71x.2 (53, 230) (by decide)) rfl ?_
  refine wq_gos (f := 1) (pc2 := 80) (ls2 := [(6, .int 5), (0, .ref 162), (1, .int sd), (2, .int (nI N)), (3, .int w), (4, .int su), (5, .int (nI i))]) (st2 := [.ref 162, .int 5, .ref 230]) (h2 := h74x) (dc2 := dc) (ds2 := ds) 2 rfl ?_
  refine wq_getf rfl e78x (hC71x.2 (4, 168) (by decide)) rfl ?_
  refine wq_gos (f := 1) (pc2 := 85) (ls2 := [(6, .int 5), (0, .ref 162), (1, .int sd), (2, .int (nI N)), (3, .int w), (4, .int su), (5, .int (nI i))]) (st2 := [.int 5, .ref 168, .int 5, .ref 230]) (h2 := h74x) (dc2 := dc) (ds2 := ds) 1 rfl ?_
  have e79x := (f76x.2 _ _ (wnc (by decide) wn0) (f67x.2 _ _ (wnc (by decide) wn0) e63x))
  refine wq_ialdk (k := 5) rfl e79x rfl rfl rfl ?_
  refine wq_gos (f := 1) (pc2 := 88) (ls2 := [(6, .int 5), (0, .ref 162), (1, .int sd), (2, .int (nI N)), (3, .int w), (4, .int su), (5, .int (nI i))]) (st2 := [.ref 162, .ref 162, .int (lo.getD 5 0), .int 5, .ref 230]) (h2 := h74x) (dc2 := dc) (ds2 := ds) 2 rfl ?_
  refine wq_getf rfl e78x (hC71x.2 (5, 170) (by decide)) rfl ?_
  refine wq_gos (f := 1) (pc2 := 93) (ls2 := [(6, .int 5), (0, .ref 162), (1, .int sd), (2, .int (nI N)), (3, .int w), (4, .int su), (5, .int (nI i))]) (st2 := [.int 5, .ref 170, .ref 162, .int (lo.getD 5 0), .int 5, .ref 230]) (h2 := h74x) (dc2 := dc) (ds2 := ds) 1 rfl ?_
  have e80x := (f76x.2 _ _ (wnc (by decide) wn0) (f67x.2 _ _ (wnc (by decide) wn0) e64x))
  refine wq_ialdk (k := 5) rfl e80x rfl rfl rfl ?_
  refine wq_gos (f := 1) (pc2 := 95) (ls2 := [(6, .int 5), (0, .ref 162), (1, .int sd), (2, .int (nI N)), (3, .int w), (4, .int su), (5, .int (nI i))]) (st2 := [.ref 162, .int (hi.getD 5 0), .ref 162, .int (lo.getD 5 0), .int 5, .ref 230]) (h2 := h74x) (dc2 := dc) (ds2 := ds) 1 rfl ?_
  refine wq_getf rfl e78x (hC71x.2 (4, 168) (by decide)) rfl ?_
  refine wq_gos (f := 1) (pc2 := 100) (ls2 := [(6, .int 5), (0, .ref 162), (1, .int sd), (2, .int (nI N)), (3, .int w), (4, .int su), (5, .int (nI i))]) (st2 := [.int 5, .ref 168, .int (hi.getD 5 0), .ref 162, .int (lo.getD 5 0), .int 5, .ref 230]) (h2 := h74x) (dc2 := dc) (ds2 := ds) 1 rfl ?_
  refine wq_ialdk (k := 5) rfl e79x rfl rfl rfl ?_
  refine wq_gos (f := 1) (pc2 := 104) (ls2 := [(6, .int 5), (0, .ref 162), (1, .int sd), (2, .int (nI N)), (3, .int w), (4, .int su), (5, .int (nI i))]) (st2 := [.int (((hi.getD 5 0) - (lo.getD 5 0)) + (1 : Int32)), .ref 162, .int (lo.getD 5 0), .int 5, .ref 230]) (h2 := h74x) (dc2 := dc) (ds2 := ds) 3 rfl ?_
  refine wq_vi (of_nI hlm (j := 5) (by decide)).1 ?_
  refine wq_inlv (y2 := 278) (as := [.int (nI (jK lo hi 5))]) rfl rfl rfl e78x rfl ?_
  show wq 278 0 [(0, .ref 162), (1, .int (nI (jK lo hi 5)))] [] h74x 0 0 _
  refine wq_gos (f := 1) (pc2 := 2) (ls2 := [(0, .ref 162), (1, .int (nI (jK lo hi 5)))]) (st2 := [.ref 162, .ref 162]) (h2 := h74x) (dc2 := 0) (ds2 := 0) 2 rfl ?_
  refine wq_getf rfl e78x p72x rfl ?_
  refine wq_gos (f := 1) (pc2 := 17) (ls2 := [(0, .ref 162), (1, .int (nI (jK lo hi 5)))]) (st2 := [.int ((((nI (jsd n 5)) * (1103515245 : Int32)) + (12345 : Int32)) &&& (2147483647 : Int32)), .ref 162]) (h2 := h74x) (dc2 := 0) (ds2 := 0) 6 rfl ?_
  refine wq_vi (i_next _) ?_
  show wq 278 17 [(0, .ref 162), (1, .int (nI (jK lo hi 5)))] [.int (nI (jsd n 6)), .ref 162] h74x 0 0 _
  refine wq_putf rfl e78x rfl (by rw [hC71x.1]; rfl) rfl ?_
  intro h81x e82x f83x l84x
  obtain ⟨fs85x, hf86x⟩ : ∃ x, x = fs69x.set 52 (.int (nI (jsd n 6))) := ⟨_, rfl⟩
  rw [← hf86x] at e82x
  have hC87x : mC fs85x := by rw [hf86x]; exact mC_set hC71x (by decide) _
  have p88x : fs85x[52]? = some (.int (nI (jsd n 6))) := by rw [hf86x]; exact List.getElem?_set_self (by rw [hC71x.1]; decide)
  refine wq_gos (f := 1) (pc2 := 21) (ls2 := [(0, .ref 162), (1, .int (nI (jK lo hi 5)))]) (st2 := [.ref 162]) (h2 := h81x) (dc2 := 0) (ds2 := 0) 1 rfl ?_
  refine wq_getf rfl e82x p88x rfl ?_
  refine wq_gos (f := 1) (pc2 := 28) (ls2 := [(0, .ref 162), (1, .int (nI (jK lo hi 5)))]) (st2 := [.int (nI (jK lo hi 5)), .int ((nI (jsd n 6)) >>> ((16 : Int32) &&& 31))]) (h2 := h81x) (dc2 := 0) (ds2 := 0) 3 rfl ?_
  refine wq_irem rfl (nIk_ne0 (of_nI hlm (j := 5) (by decide)).2) ?_
  refine wq_vi (i_draw (jsd_lt hn 6) (of_nI hlm (j := 5) (by decide)).2) ?_
  refine wq_ret rfl rfl ?_
  show wq 280 107 [(6, .int 5), (0, .ref 162), (1, .int sd), (2, .int (nI N)), (3, .int w), (4, .int su), (5, .int (nI i))] [.int (nI (jsd n 6 / 65536 % jK lo hi 5)), .int (lo.getD 5 0), .int 5, .ref 230] h81x dc ds _
  refine wq_gos (f := 1) (pc2 := 108) (ls2 := [(6, .int 5), (0, .ref 162), (1, .int sd), (2, .int (nI N)), (3, .int w), (4, .int su), (5, .int (nI i))]) (st2 := [.int ((lo.getD 5 0) + (nI (jsd n 6 / 65536 % jK lo hi 5))), .int 5, .ref 230]) (h2 := h81x) (dc2 := dc) (ds2 := ds) 1 rfl ?_
  refine wq_vi (jv_m hw n (j := 5) (by decide)) ?_
  have e89x := (f83x.2 _ _ (wnc (by decide) wn0) e75x)
  refine wq_iast rfl e89x rfl rfl ?_
  intro h90x e91x f92x l93x
  have e91x : zat h90x 230 = some (.inl (0, 6, (zset 0 (zset 0 (zset 0 (zset 0 (zset 0 (zset 0 dq 0 (jv ll lg n 0)) 1 (jv ll lg n 1)) 2 (jv ll lg n 2)) 3 (jv ll lg n 3)) 4 (jv ll lg n 4)) 5 (jv ll lg n 5)))) := e91x
  refine wq_gos (f := 1) (pc2 := 115) (ls2 := [(6, .int 6), (0, .ref 162), (1, .int sd), (2, .int (nI N)), (3, .int w), (4, .int su), (5, .int (nI i))]) (st2 := []) (h2 := h90x) (dc2 := dc) (ds2 := ds) 5 rfl ?_
  have e94x := (f92x.2 _ _ (wnc (by decide) wn0) e82x)
  refine wq_ls [(0, .ref 162), (1, .int sd), (2, .int (nI N)), (3, .int w), (4, .int su), (5, .int (nI i))] (show ([0, 1, 2, 3, 4, 5] : List Nat).Nodup by decide) ⟨rfl, rfl, rfl, rfl, rfl, rfl, trivial⟩ ?_
  exact kk h90x fs85x _ (wFr_tr (wFr_sub f3x (by simp)) (wFr_tr (wFr_sub f12x (by simp)) (wFr_tr (wFr_sub f19x (by simp)) (wFr_tr (wFr_sub f28x (by simp)) (wFr_tr (wFr_sub f35x (by simp)) (wFr_tr (wFr_sub f44x (by simp)) (wFr_tr (wFr_sub f51x (by simp)) (wFr_tr (wFr_sub f60x (by simp)) (wFr_tr (wFr_sub f67x (by simp)) (wFr_tr (wFr_sub f76x (by simp)) (wFr_tr (wFr_sub f83x (by simp)) (wFr_sub f92x (by simp))))))))))))) (by omega) e94x hC87x p88x e91x (by simp only [zset_get]; rfl) (by simp only [zset_get]; rfl) (by simp only [zset_get]; rfl) (by simp only [zset_get]; rfl) (by simp only [zset_get]; rfl) (by simp only [zset_get]; rfl)
