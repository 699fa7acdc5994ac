/-! The reference's counts and holds. -/
section
variable {F : Nat → Int64}
noncomputable def mOk (lo hi : List Int32) (a b c d e f : Int32) : Prop := jallow lo hi 0 a = true ∧ jallow lo hi 1 b = true ∧ jallow lo hi 2 c = true ∧ jallow lo hi 3 d = true ∧ jallow lo hi 4 e = true ∧ jallow lo hi 5 f = true
noncomputable def mCnt (lo hi : List Int32) (s : mS) (a b c d e f : Int32) : mS := if jallow lo hi 0 a = true ∧ jallow lo hi 1 b = true ∧ jallow lo hi 2 c = true ∧ jallow lo hi 3 d = true ∧ jallow lo hi 4 e = true ∧ jallow lo hi 5 f = true then mAdd s (jpack a b c d e f) else s
set_option maxHeartbeats 8000000 in
theorem m_counts {h : zH} {fs : List Value} {kn lo hi : List Int32} {o : Nat} {wn : Int32} {fo l : List Int64} {on : List Int32} (hM : zat h 162 = some (.inr (.inr (.inr (10, fs))))) (hC : mC fs) (hK : zat h 166 = some (.inl (0, 14, kn))) (hO : zat h 168 = some (.inl (0, 12, lo))) (hG : zat h 170 = some (.inl (0, 12, hi))) (h34 : fs[34]? = some (.int (nI l.length))) (h35 : fs[35]? = some (.int wn)) (hF : zat h 196 = some (.inr (.inl (6000, fo)))) (hfd : wFe F o (some l) fo) (ho : o ≤ 5400) (hN : zat h 204 = some (.inl (0, 6, on))) {v0 v1 v2 v3 v4 v5 : Int32} (hv0 : on.getD 0 0 = v0) (hv1 : on.getD 1 0 = v1) (hv2 : on.getD 2 0 = v2) (hv3 : on.getD 3 0 = v3) (hv4 : on.getD 4 0 = v4) (hv5 : on.getD 5 0 = v5) : wq 223 0 [(0, .ref 162), (1, .int (nI o))] [] h 0 0 (fun r => ∃ (h2 : zH) (fs2 : List Value) (fo2 : List Int64) (wn2 : Int32), r = (none, h2, 0, 0) ∧ wFr [162, 196] h h2 ∧ h2.length = h.length ∧ zat h2 162 = some (.inr (.inr (.inr (10, fs2)))) ∧ (mC fs2 ∧ mK fs fs2) ∧ fs2[34]? = some (.int (mNum (mCnt lo hi (some l) v0 v1 v2 v3 v4 v5))) ∧ fs2[35]? = some (.int wn2) ∧ zat h2 196 = some (.inr (.inl (6000, fo2))) ∧ wFe F o (mCnt lo hi (some l) v0 v1 v2 v3 v4 v5) fo2) := by
  refine wq_gos (f := 1) (pc2 := 11) (ls2 := [(2, .int 0), (0, .ref 162), (1, .int (nI o))]) (st2 := [.ref 162, .int 0, .ref 162]) (h2 := h) (dc2 := 0) (ds2 := 0) 8 rfl ?_
  refine wq_getf rfl hM (hC.2 (38, 204) (by decide)) rfl ?_
  refine wq_gos (f := 1) (pc2 := 15) (ls2 := [(2, .int 0), (0, .ref 162), (1, .int (nI o))]) (st2 := [.int 0, .ref 204, .int 0, .ref 162]) (h2 := h) (dc2 := 0) (ds2 := 0) 1 rfl ?_
  refine wq_ialdk (k := 0) rfl hN rfl rfl rfl ?_
  refine wq_vi hv0 ?_
  cases q1x : jallow lo hi (0 : Int32) v0 with
  | false =>
    refine wq_inlv (y2 := 207) (as := [.int 0, .int v0]) rfl rfl rfl hM rfl (wq_T (show zT zg0 zF zP 207 0 [(0, .ref 162), (1, .int 0), (2, .int v0)] [] h 0 0 (some (.int 0), h, 0, 0) from by have q9 := c_within hM (hC.2 (3, 166) (by decide)) (hC.2 (4, 168) (by decide)) (hC.2 (5, 170) (by decide)) hK hO hG (j := (0 : Int32)) rfl v0; rw [q1x] at q9; exact q9) ?_)
    show wq 223 19 [(2, .int 0), (0, .ref 162), (1, .int (nI o))] [.int 0] h 0 0 _
    refine wq_gos (f := 1) (pc2 := 33) (ls2 := [(2, .int 0), (0, .ref 162), (1, .int (nI o))]) (st2 := [.ref 162, .int 2, .ref 162]) (h2 := h) (dc2 := 0) (ds2 := 0) 6 rfl ?_
    refine wq_getf rfl hM h35 rfl ?_
    refine wq_le2 rfl rfl (fun b2x => ?_) (fun b2x => ?_)
    · refine wq_gos (f := 1) (pc2 := 46) (ls2 := [(2, .int 0), (0, .ref 162), (1, .int (nI o))]) (st2 := [.ref 162, .ref 162]) (h2 := h) (dc2 := 0) (ds2 := 0) 1 rfl ?_
      refine wq_getf rfl hM h35 rfl ?_
      refine wq_putf rfl hM rfl (by rw [hC.1]; rfl) rfl ?_
      intro h3x e4x f5x l6x
      obtain ⟨fs7x, hf8x⟩ : ∃ x, x = fs.set 35 (.int wn) := ⟨_, rfl⟩
      rw [← hf8x] at e4x
      have hC9x : mC fs7x := by rw [hf8x]; exact mC_set hC (by decide) _
      have sm10x := mK_tr (mK_rf fs) (show mK fs fs7x by rw [hf8x]; exact mK_set fs (by decide) _)
      have p11x : fs7x[34]? = some (.int (nI l.length)) := by rw [hf8x, List.getElem?_set_ne (by decide)]; exact h34
      have p12x : fs7x[35]? = some (.int wn) := by rw [hf8x]; exact List.getElem?_set_self (by rw [hC.1]; decide)
      refine wq_gos (f := 1) (pc2 := 70) (ls2 := [(2, .int 0), (0, .ref 162), (1, .int (nI o))]) (st2 := []) (h2 := h3x) (dc2 := 0) (ds2 := 0) 3 rfl ?_
      have e13x := (f5x.2 _ _ (wnc (by decide) wn0) hF)
      have hs : mCnt lo hi (some l) v0 v1 v2 v3 v4 v5 = some l := if_neg (fun q => by rw [q1x] at q; simp at q)
      rw [hs]
      exact wq_ret rfl rfl ⟨h3x, fs7x, _, wn, rfl, (wFr_sub f5x (by simp)), by omega, e4x, ⟨hC9x, sm10x⟩, p11x, p12x, e13x, hfd⟩
    · refine wq_gos (f := 1) (pc2 := 49) (ls2 := [(2, .int 0), (0, .ref 162), (1, .int (nI o))]) (st2 := [.int 2, .ref 162]) (h2 := h) (dc2 := 0) (ds2 := 0) 4 rfl ?_
      refine wq_putf rfl hM rfl (by rw [hC.1]; rfl) rfl ?_
      intro h14x e15x f16x l17x
      obtain ⟨fs18x, hf19x⟩ : ∃ x, x = fs.set 35 (.int 2) := ⟨_, rfl⟩
      rw [← hf19x] at e15x
      have hC20x : mC fs18x := by rw [hf19x]; exact mC_set hC (by decide) _
      have sm21x := mK_tr (mK_rf fs) (show mK fs fs18x by rw [hf19x]; exact mK_set fs (by decide) _)
      have p22x : fs18x[34]? = some (.int (nI l.length)) := by rw [hf19x, List.getElem?_set_ne (by decide)]; exact h34
      have p23x : fs18x[35]? = some (.int 2) := by rw [hf19x]; exact List.getElem?_set_self (by rw [hC.1]; decide)
      refine wq_gos (f := 1) (pc2 := 70) (ls2 := [(2, .int 0), (0, .ref 162), (1, .int (nI o))]) (st2 := []) (h2 := h14x) (dc2 := 0) (ds2 := 0) 3 rfl ?_
      have e24x := (f16x.2 _ _ (wnc (by decide) wn0) hF)
      have hs : mCnt lo hi (some l) v0 v1 v2 v3 v4 v5 = some l := if_neg (fun q => by rw [q1x] at q; simp at q)
      rw [hs]
      exact wq_ret rfl rfl ⟨h14x, fs18x, _, (2 : Int32), rfl, (wFr_sub f16x (by simp)), by omega, e15x, ⟨hC20x, sm21x⟩, p22x, p23x, e24x, hfd⟩
  | true =>
    refine wq_inlv (y2 := 207) (as := [.int 0, .int v0]) rfl rfl rfl hM rfl (wq_T (show zT zg0 zF zP 207 0 [(0, .ref 162), (1, .int 0), (2, .int v0)] [] h 0 0 (some (.int 1), h, 0, 0) from by have q9 := c_within hM (hC.2 (3, 166) (by decide)) (hC.2 (4, 168) (by decide)) (hC.2 (5, 170) (by decide)) hK hO hG (j := (0 : Int32)) rfl v0; rw [q1x] at q9; exact q9) ?_)
    show wq 223 19 [(2, .int 0), (0, .ref 162), (1, .int (nI o))] [.int 1] h 0 0 _
    refine wq_gos (f := 1) (pc2 := 11) (ls2 := [(2, .int 1), (0, .ref 162), (1, .int (nI o))]) (st2 := [.ref 162, .int 1, .ref 162]) (h2 := h) (dc2 := 0) (ds2 := 0) 9 rfl ?_
    refine wq_getf rfl hM (hC.2 (38, 204) (by decide)) rfl ?_
    refine wq_gos (f := 1) (pc2 := 15) (ls2 := [(2, .int 1), (0, .ref 162), (1, .int (nI o))]) (st2 := [.int 1, .ref 204, .int 1, .ref 162]) (h2 := h) (dc2 := 0) (ds2 := 0) 1 rfl ?_
    refine wq_ialdk (k := 1) rfl hN rfl rfl rfl ?_
    refine wq_vi hv1 ?_
    cases q25x : jallow lo hi (1 : Int32) v1 with
    | false =>
      refine wq_inlv (y2 := 207) (as := [.int 1, .int v1]) rfl rfl rfl hM rfl (wq_T (show zT zg0 zF zP 207 0 [(0, .ref 162), (1, .int 1), (2, .int v1)] [] h 0 0 (some (.int 0), h, 0, 0) from by have q9 := c_within hM (hC.2 (3, 166) (by decide)) (hC.2 (4, 168) (by decide)) (hC.2 (5, 170) (by decide)) hK hO hG (j := (1 : Int32)) rfl v1; rw [q25x] at q9; exact q9) ?_)
      show wq 223 19 [(2, .int 1), (0, .ref 162), (1, .int (nI o))] [.int 0] h 0 0 _
      refine wq_gos (f := 1) (pc2 := 33) (ls2 := [(2, .int 1), (0, .ref 162), (1, .int (nI o))]) (st2 := [.ref 162, .int 3, .ref 162]) (h2 := h) (dc2 := 0) (ds2 := 0) 6 rfl ?_
      refine wq_getf rfl hM h35 rfl ?_
      refine wq_le2 rfl rfl (fun b26x => ?_) (fun b26x => ?_)
      · refine wq_gos (f := 1) (pc2 := 46) (ls2 := [(2, .int 1), (0, .ref 162), (1, .int (nI o))]) (st2 := [.ref 162, .ref 162]) (h2 := h) (dc2 := 0) (ds2 := 0) 1 rfl ?_
        refine wq_getf rfl hM h35 rfl ?_
        refine wq_putf rfl hM rfl (by rw [hC.1]; rfl) rfl ?_
        intro h27x e28x f29x l30x
        obtain ⟨fs31x, hf32x⟩ : ∃ x, x = fs.set 35 (.int wn) := ⟨_, rfl⟩
        rw [← hf32x] at e28x
        have hC33x : mC fs31x := by rw [hf32x]; exact mC_set hC (by decide) _
        have sm34x := mK_tr (mK_rf fs) (show mK fs fs31x by rw [hf32x]; exact mK_set fs (by decide) _)
        have p35x : fs31x[34]? = some (.int (nI l.length)) := by rw [hf32x, List.getElem?_set_ne (by decide)]; exact h34
        have p36x : fs31x[35]? = some (.int wn) := by rw [hf32x]; exact List.getElem?_set_self (by rw [hC.1]; decide)
        refine wq_gos (f := 1) (pc2 := 70) (ls2 := [(2, .int 1), (0, .ref 162), (1, .int (nI o))]) (st2 := []) (h2 := h27x) (dc2 := 0) (ds2 := 0) 3 rfl ?_
        have e37x := (f29x.2 _ _ (wnc (by decide) wn0) hF)
        have hs : mCnt lo hi (some l) v0 v1 v2 v3 v4 v5 = some l := if_neg (fun q => by rw [q25x] at q; simp at q)
        rw [hs]
        exact wq_ret rfl rfl ⟨h27x, fs31x, _, wn, rfl, (wFr_sub f29x (by simp)), by omega, e28x, ⟨hC33x, sm34x⟩, p35x, p36x, e37x, hfd⟩
      · refine wq_gos (f := 1) (pc2 := 49) (ls2 := [(2, .int 1), (0, .ref 162), (1, .int (nI o))]) (st2 := [.int 3, .ref 162]) (h2 := h) (dc2 := 0) (ds2 := 0) 4 rfl ?_
        refine wq_putf rfl hM rfl (by rw [hC.1]; rfl) rfl ?_
        intro h38x e39x f40x l41x
        obtain ⟨fs42x, hf43x⟩ : ∃ x, x = fs.set 35 (.int 3) := ⟨_, rfl⟩
        rw [← hf43x] at e39x
        have hC44x : mC fs42x := by rw [hf43x]; exact mC_set hC (by decide) _
        have sm45x := mK_tr (mK_rf fs) (show mK fs fs42x by rw [hf43x]; exact mK_set fs (by decide) _)
        have p46x : fs42x[34]? = some (.int (nI l.length)) := by rw [hf43x, List.getElem?_set_ne (by decide)]; exact h34
        have p47x : fs42x[35]? = some (.int 3) := by rw [hf43x]; exact List.getElem?_set_self (by rw [hC.1]; decide)
        refine wq_gos (f := 1) (pc2 := 70) (ls2 := [(2, .int 1), (0, .ref 162), (1, .int (nI o))]) (st2 := []) (h2 := h38x) (dc2 := 0) (ds2 := 0) 3 rfl ?_
        have e48x := (f40x.2 _ _ (wnc (by decide) wn0) hF)
        have hs : mCnt lo hi (some l) v0 v1 v2 v3 v4 v5 = some l := if_neg (fun q => by rw [q25x] at q; simp at q)
        rw [hs]
        exact wq_ret rfl rfl ⟨h38x, fs42x, _, (3 : Int32), rfl, (wFr_sub f40x (by simp)), by omega, e39x, ⟨hC44x, sm45x⟩, p46x, p47x, e48x, hfd⟩
    | true =>
      refine wq_inlv (y2 := 207) (as := [.int 1, .int v1]) rfl rfl rfl hM rfl (wq_T (show zT zg0 zF zP 207 0 [(0, .ref 162), (1, .int 1), (2, .int v1)] [] h 0 0 (some (.int 1), h, 0, 0) from by have q9 := c_within hM (hC.2 (3, 166) (by decide)) (hC.2 (4, 168) (by decide)) (hC.2 (5, 170) (by decide)) hK hO hG (j := (1 : Int32)) rfl v1; rw [q25x] at q9; exact q9) ?_)
      show wq 223 19 [(2, .int 1), (0, .ref 162), (1, .int (nI o))] [.int 1] h 0 0 _
      refine wq_gos (f := 1) (pc2 := 11) (ls2 := [(2, .int 2), (0, .ref 162), (1, .int (nI o))]) (st2 := [.ref 162, .int 2, .ref 162]) (h2 := h) (dc2 := 0) (ds2 := 0) 9 rfl ?_
      refine wq_getf rfl hM (hC.2 (38, 204) (by decide)) rfl ?_
      refine wq_gos (f := 1) (pc2 := 15) (ls2 := [(2, .int 2), (0, .ref 162), (1, .int (nI o))]) (st2 := [.int 2, .ref 204, .int 2, .ref 162]) (h2 := h) (dc2 := 0) (ds2 := 0) 1 rfl ?_
      refine wq_ialdk (k := 2) rfl hN rfl rfl rfl ?_
      refine wq_vi hv2 ?_
      cases q49x : jallow lo hi (2 : Int32) v2 with
      | false =>
        refine wq_inlv (y2 := 207) (as := [.int 2, .int v2]) rfl rfl rfl hM rfl (wq_T (show zT zg0 zF zP 207 0 [(0, .ref 162), (1, .int 2), (2, .int v2)] [] h 0 0 (some (.int 0), h, 0, 0) from by have q9 := c_within hM (hC.2 (3, 166) (by decide)) (hC.2 (4, 168) (by decide)) (hC.2 (5, 170) (by decide)) hK hO hG (j := (2 : Int32)) rfl v2; rw [q49x] at q9; exact q9) ?_)
        show wq 223 19 [(2, .int 2), (0, .ref 162), (1, .int (nI o))] [.int 0] h 0 0 _
        refine wq_gos (f := 1) (pc2 := 33) (ls2 := [(2, .int 2), (0, .ref 162), (1, .int (nI o))]) (st2 := [.ref 162, .int 4, .ref 162]) (h2 := h) (dc2 := 0) (ds2 := 0) 6 rfl ?_
        refine wq_getf rfl hM h35 rfl ?_
        refine wq_le2 rfl rfl (fun b50x => ?_) (fun b50x => ?_)
        · refine wq_gos (f := 1) (pc2 := 46) (ls2 := [(2, .int 2), (0, .ref 162), (1, .int (nI o))]) (st2 := [.ref 162, .ref 162]) (h2 := h) (dc2 := 0) (ds2 := 0) 1 rfl ?_
          refine wq_getf rfl hM h35 rfl ?_
          refine wq_putf rfl hM rfl (by rw [hC.1]; rfl) rfl ?_
          intro h51x e52x f53x l54x
          obtain ⟨fs55x, hf56x⟩ : ∃ x, x = fs.set 35 (.int wn) := ⟨_, rfl⟩
          rw [← hf56x] at e52x
          have hC57x : mC fs55x := by rw [hf56x]; exact mC_set hC (by decide) _
          have sm58x := mK_tr (mK_rf fs) (show mK fs fs55x by rw [hf56x]; exact mK_set fs (by decide) _)
          have p59x : fs55x[34]? = some (.int (nI l.length)) := by rw [hf56x, List.getElem?_set_ne (by decide)]; exact h34
          have p60x : fs55x[35]? = some (.int wn) := by rw [hf56x]; exact List.getElem?_set_self (by rw [hC.1]; decide)
          refine wq_gos (f := 1) (pc2 := 70) (ls2 := [(2, .int 2), (0, .ref 162), (1, .int (nI o))]) (st2 := []) (h2 := h51x) (dc2 := 0) (ds2 := 0) 3 rfl ?_
          have e61x := (f53x.2 _ _ (wnc (by decide) wn0) hF)
          have hs : mCnt lo hi (some l) v0 v1 v2 v3 v4 v5 = some l := if_neg (fun q => by rw [q49x] at q; simp at q)
          rw [hs]
          exact wq_ret rfl rfl ⟨h51x, fs55x, _, wn, rfl, (wFr_sub f53x (by simp)), by omega, e52x, ⟨hC57x, sm58x⟩, p59x, p60x, e61x, hfd⟩
        · refine wq_gos (f := 1) (pc2 := 49) (ls2 := [(2, .int 2), (0, .ref 162), (1, .int (nI o))]) (st2 := [.int 4, .ref 162]) (h2 := h) (dc2 := 0) (ds2 := 0) 4 rfl ?_
          refine wq_putf rfl hM rfl (by rw [hC.1]; rfl) rfl ?_
          intro h62x e63x f64x l65x
          obtain ⟨fs66x, hf67x⟩ : ∃ x, x = fs.set 35 (.int 4) := ⟨_, rfl⟩
          rw [← hf67x] at e63x
          have hC68x : mC fs66x := by rw [hf67x]; exact mC_set hC (by decide) _
          have sm69x := mK_tr (mK_rf fs) (show mK fs fs66x by rw [hf67x]; exact mK_set fs (by decide) _)
          have p70x : fs66x[34]? = some (.int (nI l.length)) := by rw [hf67x, List.getElem?_set_ne (by decide)]; exact h34
          have p71x : fs66x[35]? = some (.int 4) := by rw [hf67x]; exact List.getElem?_set_self (by rw [hC.1]; decide)
          refine wq_gos (f := 1) (pc2 := 70) (ls2 := [(2, .int 2), (0, .ref 162), (1, .int (nI o))]) (st2 := []) (h2 := h62x) (dc2 := 0) (ds2 := 0) 3 rfl ?_
          have e72x := (f64x.2 _ _ (wnc (by decide) wn0) hF)
          have hs : mCnt lo hi (some l) v0 v1 v2 v3 v4 v5 = some l := if_neg (fun q => by rw [q49x] at q; simp at q)
          rw [hs]
          exact wq_ret rfl rfl ⟨h62x, fs66x, _, (4 : Int32), rfl, (wFr_sub f64x (by simp)), by omega, e63x, ⟨hC68x, sm69x⟩, p70x, p71x, e72x, hfd⟩
      | true =>
        refine wq_inlv (y2 := 207) (as := [.int 2, .int v2]) rfl rfl rfl hM rfl (wq_T (show zT zg0 zF zP 207 0 [(0, .ref 162), (1, .int 2), (2, .int v2)] [] h 0 0 (some (.int 1), h, 0, 0) from by have q9 := c_within hM (hC.2 (3, 166) (by decide)) (hC.2 (4, 168) (by decide)) (hC.2 (5, 170) (by decide)) hK hO hG (j := (2 : Int32)) rfl v2; rw [q49x] at q9; exact q9) ?_)
        show wq 223 19 [(2, .int 2), (0, .ref 162), (1, .int (nI o))] [.int 1] h 0 0 _
        refine wq_gos (f := 1) (pc2 := 11) (ls2 := [(2, .int 3), (0, .ref 162), (1, .int (nI o))]) (st2 := [.ref 162, .int 3, .ref 162]) (h2 := h) (dc2 := 0) (ds2 := 0) 9 rfl ?_
        refine wq_getf rfl hM (hC.2 (38, 204) (by decide)) rfl ?_
        refine wq_gos (f := 1) (pc2 := 15) (ls2 := [(2, .int 3), (0, .ref 162), (1, .int (nI o))]) (st2 := [.int 3, .ref 204, .int 3, .ref 162]) (h2 := h) (dc2 := 0) (ds2 := 0) 1 rfl ?_
        refine wq_ialdk (k := 3) rfl hN rfl rfl rfl ?_
        refine wq_vi hv3 ?_
        cases q73x : jallow lo hi (3 : Int32) v3 with
        | false =>
          refine wq_inlv (y2 := 207) (as := [.int 3, .int v3]) rfl rfl rfl hM rfl (wq_T (show zT zg0 zF zP 207 0 [(0, .ref 162), (1, .int 3), (2, .int v3)] [] h 0 0 (some (.int 0), h, 0, 0) from by have q9 := c_within hM (hC.2 (3, 166) (by decide)) (hC.2 (4, 168) (by decide)) (hC.2 (5, 170) (by decide)) hK hO hG (j := (3 : Int32)) rfl v3; rw [q73x] at q9; exact q9) ?_)
          show wq 223 19 [(2, .int 3), (0, .ref 162), (1, .int (nI o))] [.int 0] h 0 0 _
          refine wq_gos (f := 1) (pc2 := 33) (ls2 := [(2, .int 3), (0, .ref 162), (1, .int (nI o))]) (st2 := [.ref 162, .int 5, .ref 162]) (h2 := h) (dc2 := 0) (ds2 := 0) 6 rfl ?_
          refine wq_getf rfl hM h35 rfl ?_
          refine wq_le2 rfl rfl (fun b74x => ?_) (fun b74x => ?_)
          · refine wq_gos (f := 1) (pc2 := 46) (ls2 := [(2, .int 3), (0, .ref 162), (1, .int (nI o))]) (st2 := [.ref 162, .ref 162]) (h2 := h) (dc2 := 0) (ds2 := 0) 1 rfl ?_
            refine wq_getf rfl hM h35 rfl ?_
            refine wq_putf rfl hM rfl (by rw [hC.1]; rfl) rfl ?_
            intro h75x e76x f77x l78x
            obtain ⟨fs79x, hf80x⟩ : ∃ x, x = fs.set 35 (.int wn) := ⟨_, rfl⟩
            rw [← hf80x] at e76x
            have hC81x : mC fs79x := by rw [hf80x]; exact mC_set hC (by decide) _
            have sm82x := mK_tr (mK_rf fs) (show mK fs fs79x by rw [hf80x]; exact mK_set fs (by decide) _)
            have p83x : fs79x[34]? = some (.int (nI l.length)) := by rw [hf80x, List.getElem?_set_ne (by decide)]; exact h34
            have p84x : fs79x[35]? = some (.int wn) := by rw [hf80x]; exact List.getElem?_set_self (by rw [hC.1]; decide)
            refine wq_gos (f := 1) (pc2 := 70) (ls2 := [(2, .int 3), (0, .ref 162), (1, .int (nI o))]) (st2 := []) (h2 := h75x) (dc2 := 0) (ds2 := 0) 3 rfl ?_
            have e85x := (f77x.2 _ _ (wnc (by decide) wn0) hF)
            have hs : mCnt lo hi (some l) v0 v1 v2 v3 v4 v5 = some l := if_neg (fun q => by rw [q73x] at q; simp at q)
            rw [hs]
            exact wq_ret rfl rfl ⟨h75x, fs79x, _, wn, rfl, (wFr_sub f77x (by simp)), by omega, e76x, ⟨hC81x, sm82x⟩, p83x, p84x, e85x, hfd⟩
          · refine wq_gos (f := 1) (pc2 := 49) (ls2 := [(2, .int 3), (0, .ref 162), (1, .int (nI o))]) (st2 := [.int 5, .ref 162]) (h2 := h) (dc2 := 0) (ds2 := 0) 4 rfl ?_
            refine wq_putf rfl hM rfl (by rw [hC.1]; rfl) rfl ?_
            intro h86x e87x f88x l89x
            obtain ⟨fs90x, hf91x⟩ : ∃ x, x = fs.set 35 (.int 5) := ⟨_, rfl⟩
            rw [← hf91x] at e87x
            have hC92x : mC fs90x := by rw [hf91x]; exact mC_set hC (by decide) _
            have sm93x := mK_tr (mK_rf fs) (show mK fs fs90x by rw [hf91x]; exact mK_set fs (by decide) _)
            have p94x : fs90x[34]? = some (.int (nI l.length)) := by rw [hf91x, List.getElem?_set_ne (by decide)]; exact h34
            have p95x : fs90x[35]? = some (.int 5) := by rw [hf91x]; exact List.getElem?_set_self (by rw [hC.1]; decide)
            refine wq_gos (f := 1) (pc2 := 70) (ls2 := [(2, .int 3), (0, .ref 162), (1, .int (nI o))]) (st2 := []) (h2 := h86x) (dc2 := 0) (ds2 := 0) 3 rfl ?_
            have e96x := (f88x.2 _ _ (wnc (by decide) wn0) hF)
            have hs : mCnt lo hi (some l) v0 v1 v2 v3 v4 v5 = some l := if_neg (fun q => by rw [q73x] at q; simp at q)
            rw [hs]
            exact wq_ret rfl rfl ⟨h86x, fs90x, _, (5 : Int32), rfl, (wFr_sub f88x (by simp)), by omega, e87x, ⟨hC92x, sm93x⟩, p94x, p95x, e96x, hfd⟩
        | true =>
          refine wq_inlv (y2 := 207) (as := [.int 3, .int v3]) rfl rfl rfl hM rfl (wq_T (show zT zg0 zF zP 207 0 [(0, .ref 162), (1, .int 3), (2, .int v3)] [] h 0 0 (some (.int 1), h, 0, 0) from by have q9 := c_within hM (hC.2 (3, 166) (by decide)) (hC.2 (4, 168) (by decide)) (hC.2 (5, 170) (by decide)) hK hO hG (j := (3 : Int32)) rfl v3; rw [q73x] at q9; exact q9) ?_)
          show wq 223 19 [(2, .int 3), (0, .ref 162), (1, .int (nI o))] [.int 1] h 0 0 _
          refine wq_gos (f := 1) (pc2 := 11) (ls2 := [(2, .int 4), (0, .ref 162), (1, .int (nI o))]) (st2 := [.ref 162, .int 4, .ref 162]) (h2 := h) (dc2 := 0) (ds2 := 0) 9 rfl ?_
          refine wq_getf rfl hM (hC.2 (38, 204) (by decide)) rfl ?_
          refine wq_gos (f := 1) (pc2 := 15) (ls2 := [(2, .int 4), (0, .ref 162), (1, .int (nI o))]) (st2 := [.int 4, .ref 204, .int 4, .ref 162]) (h2 := h) (dc2 := 0) (ds2 := 0) 1 rfl ?_
          refine wq_ialdk (k := 4) rfl hN rfl rfl rfl ?_
          refine wq_vi hv4 ?_
          cases q97x : jallow lo hi (4 : Int32) v4 with
          | false =>
            refine wq_inlv (y2 := 207) (as := [.int 4, .int v4]) rfl rfl rfl hM rfl (wq_T (show zT zg0 zF zP 207 0 [(0, .ref 162), (1, .int 4), (2, .int v4)] [] h 0 0 (some (.int 0), h, 0, 0) from by have q9 := c_within hM (hC.2 (3, 166) (by decide)) (hC.2 (4, 168) (by decide)) (hC.2 (5, 170) (by decide)) hK hO hG (j := (4 : Int32)) rfl v4; rw [q97x] at q9; exact q9) ?_)
            show wq 223 19 [(2, .int 4), (0, .ref 162), (1, .int (nI o))] [.int 0] h 0 0 _
            refine wq_gos (f := 1) (pc2 := 33) (ls2 := [(2, .int 4), (0, .ref 162), (1, .int (nI o))]) (st2 := [.ref 162, .int 6, .ref 162]) (h2 := h) (dc2 := 0) (ds2 := 0) 6 rfl ?_
            refine wq_getf rfl hM h35 rfl ?_
            refine wq_le2 rfl rfl (fun b98x => ?_) (fun b98x => ?_)
            · refine wq_gos (f := 1) (pc2 := 46) (ls2 := [(2, .int 4), (0, .ref 162), (1, .int (nI o))]) (st2 := [.ref 162, .ref 162]) (h2 := h) (dc2 := 0) (ds2 := 0) 1 rfl ?_
              refine wq_getf rfl hM h35 rfl ?_
              refine wq_putf rfl hM rfl (by rw [hC.1]; rfl) rfl ?_
              intro h99x e100x f101x l102x
              obtain ⟨fs103x, hf104x⟩ : ∃ x, x = fs.set 35 (.int wn) := ⟨_, rfl⟩
              rw [← hf104x] at e100x
              have hC105x : mC fs103x := by rw [hf104x]; exact mC_set hC (by decide) _
              have sm106x := mK_tr (mK_rf fs) (show mK fs fs103x by rw [hf104x]; exact mK_set fs (by decide) _)
              have p107x : fs103x[34]? = some (.int (nI l.length)) := by rw [hf104x, List.getElem?_set_ne (by decide)]; exact h34
              have p108x : fs103x[35]? = some (.int wn) := by rw [hf104x]; exact List.getElem?_set_self (by rw [hC.1]; decide)
              refine wq_gos (f := 1) (pc2 := 70) (ls2 := [(2, .int 4), (0, .ref 162), (1, .int (nI o))]) (st2 := []) (h2 := h99x) (dc2 := 0) (ds2 := 0) 3 rfl ?_
              have e109x := (f101x.2 _ _ (wnc (by decide) wn0) hF)
              have hs : mCnt lo hi (some l) v0 v1 v2 v3 v4 v5 = some l := if_neg (fun q => by rw [q97x] at q; simp at q)
              rw [hs]
              exact wq_ret rfl rfl ⟨h99x, fs103x, _, wn, rfl, (wFr_sub f101x (by simp)), by omega, e100x, ⟨hC105x, sm106x⟩, p107x, p108x, e109x, hfd⟩
            · refine wq_gos (f := 1) (pc2 := 49) (ls2 := [(2, .int 4), (0, .ref 162), (1, .int (nI o))]) (st2 := [.int 6, .ref 162]) (h2 := h) (dc2 := 0) (ds2 := 0) 4 rfl ?_
              refine wq_putf rfl hM rfl (by rw [hC.1]; rfl) rfl ?_
              intro h110x e111x f112x l113x
              obtain ⟨fs114x, hf115x⟩ : ∃ x, x = fs.set 35 (.int 6) := ⟨_, rfl⟩
              rw [← hf115x] at e111x
              have hC116x : mC fs114x := by rw [hf115x]; exact mC_set hC (by decide) _
              have sm117x := mK_tr (mK_rf fs) (show mK fs fs114x by rw [hf115x]; exact mK_set fs (by decide) _)
              have p118x : fs114x[34]? = some (.int (nI l.length)) := by rw [hf115x, List.getElem?_set_ne (by decide)]; exact h34
              have p119x : fs114x[35]? = some (.int 6) := by rw [hf115x]; exact List.getElem?_set_self (by rw [hC.1]; decide)
              refine wq_gos (f := 1) (pc2 := 70) (ls2 := [(2, .int 4), (0, .ref 162), (1, .int (nI o))]) (st2 := []) (h2 := h110x) (dc2 := 0) (ds2 := 0) 3 rfl ?_
              have e120x := (f112x.2 _ _ (wnc (by decide) wn0) hF)
              have hs : mCnt lo hi (some l) v0 v1 v2 v3 v4 v5 = some l := if_neg (fun q => by rw [q97x] at q; simp at q)
              rw [hs]
              exact wq_ret rfl rfl ⟨h110x, fs114x, _, (6 : Int32), rfl, (wFr_sub f112x (by simp)), by omega, e111x, ⟨hC116x, sm117x⟩, p118x, p119x, e120x, hfd⟩
          | true =>
            refine wq_inlv (y2 := 207) (as := [.int 4, .int v4]) rfl rfl rfl hM rfl (wq_T (show zT zg0 zF zP 207 0 [(0, .ref 162), (1, .int 4), (2, .int v4)] [] h 0 0 (some (.int 1), h, 0, 0) from by have q9 := c_within hM (hC.2 (3, 166) (by decide)) (hC.2 (4, 168) (by decide)) (hC.2 (5, 170) (by decide)) hK hO hG (j := (4 : Int32)) rfl v4; rw [q97x] at q9; exact q9) ?_)
            show wq 223 19 [(2, .int 4), (0, .ref 162), (1, .int (nI o))] [.int 1] h 0 0 _
            refine wq_gos (f := 1) (pc2 := 11) (ls2 := [(2, .int 5), (0, .ref 162), (1, .int (nI o))]) (st2 := [.ref 162, .int 5, .ref 162]) (h2 := h) (dc2 := 0) (ds2 := 0) 9 rfl ?_
            refine wq_getf rfl hM (hC.2 (38, 204) (by decide)) rfl ?_
            refine wq_gos (f := 1) (pc2 := 15) (ls2 := [(2, .int 5), (0, .ref 162), (1, .int (nI o))]) (st2 := [.int 5, .ref 204, .int 5, .ref 162]) (h2 := h) (dc2 := 0) (ds2 := 0) 1 rfl ?_
            refine wq_ialdk (k := 5) rfl hN rfl rfl rfl ?_
            refine wq_vi hv5 ?_
            cases q121x : jallow lo hi (5 : Int32) v5 with
            | false =>
              refine wq_inlv (y2 := 207) (as := [.int 5, .int v5]) rfl rfl rfl hM rfl (wq_T (show zT zg0 zF zP 207 0 [(0, .ref 162), (1, .int 5), (2, .int v5)] [] h 0 0 (some (.int 0), h, 0, 0) from by have q9 := c_within hM (hC.2 (3, 166) (by decide)) (hC.2 (4, 168) (by decide)) (hC.2 (5, 170) (by decide)) hK hO hG (j := (5 : Int32)) rfl v5; rw [q121x] at q9; exact q9) ?_)
              show wq 223 19 [(2, .int 5), (0, .ref 162), (1, .int (nI o))] [.int 0] h 0 0 _
              refine wq_gos (f := 1) (pc2 := 33) (ls2 := [(2, .int 5), (0, .ref 162), (1, .int (nI o))]) (st2 := [.ref 162, .int 7, .ref 162]) (h2 := h) (dc2 := 0) (ds2 := 0) 6 rfl ?_
              refine wq_getf rfl hM h35 rfl ?_
              refine wq_le2 rfl rfl (fun b122x => ?_) (fun b122x => ?_)
              · refine wq_gos (f := 1) (pc2 := 46) (ls2 := [(2, .int 5), (0, .ref 162), (1, .int (nI o))]) (st2 := [.ref 162, .ref 162]) (h2 := h) (dc2 := 0) (ds2 := 0) 1 rfl ?_
                refine wq_getf rfl hM h35 rfl ?_
                refine wq_putf rfl hM rfl (by rw [hC.1]; rfl) rfl ?_
                intro h123x e124x f125x l126x
                obtain ⟨fs127x, hf128x⟩ : ∃ x, x = fs.set 35 (.int wn) := ⟨_, rfl⟩
                rw [← hf128x] at e124x
                have hC129x : mC fs127x := by rw [hf128x]; exact mC_set hC (by decide) _
                have sm130x := mK_tr (mK_rf fs) (show mK fs fs127x by rw [hf128x]; exact mK_set fs (by decide) _)
                have p131x : fs127x[34]? = some (.int (nI l.length)) := by rw [hf128x, List.getElem?_set_ne (by decide)]; exact h34
                have p132x : fs127x[35]? = some (.int wn) := by rw [hf128x]; exact List.getElem?_set_self (by rw [hC.1]; decide)
                refine wq_gos (f := 1) (pc2 := 70) (ls2 := [(2, .int 5), (0, .ref 162), (1, .int (nI o))]) (st2 := []) (h2 := h123x) (dc2 := 0) (ds2 := 0) 3 rfl ?_
                have e133x := (f125x.2 _ _ (wnc (by decide) wn0) hF)
                have hs : mCnt lo hi (some l) v0 v1 v2 v3 v4 v5 = some l := if_neg (fun q => by rw [q121x] at q; simp at q)
                rw [hs]
                exact wq_ret rfl rfl ⟨h123x, fs127x, _, wn, rfl, (wFr_sub f125x (by simp)), by omega, e124x, ⟨hC129x, sm130x⟩, p131x, p132x, e133x, hfd⟩
              · refine wq_gos (f := 1) (pc2 := 49) (ls2 := [(2, .int 5), (0, .ref 162), (1, .int (nI o))]) (st2 := [.int 7, .ref 162]) (h2 := h) (dc2 := 0) (ds2 := 0) 4 rfl ?_
                refine wq_putf rfl hM rfl (by rw [hC.1]; rfl) rfl ?_
                intro h134x e135x f136x l137x
                obtain ⟨fs138x, hf139x⟩ : ∃ x, x = fs.set 35 (.int 7) := ⟨_, rfl⟩
                rw [← hf139x] at e135x
                have hC140x : mC fs138x := by rw [hf139x]; exact mC_set hC (by decide) _
                have sm141x := mK_tr (mK_rf fs) (show mK fs fs138x by rw [hf139x]; exact mK_set fs (by decide) _)
                have p142x : fs138x[34]? = some (.int (nI l.length)) := by rw [hf139x, List.getElem?_set_ne (by decide)]; exact h34
                have p143x : fs138x[35]? = some (.int 7) := by rw [hf139x]; exact List.getElem?_set_self (by rw [hC.1]; decide)
                refine wq_gos (f := 1) (pc2 := 70) (ls2 := [(2, .int 5), (0, .ref 162), (1, .int (nI o))]) (st2 := []) (h2 := h134x) (dc2 := 0) (ds2 := 0) 3 rfl ?_
                have e144x := (f136x.2 _ _ (wnc (by decide) wn0) hF)
                have hs : mCnt lo hi (some l) v0 v1 v2 v3 v4 v5 = some l := if_neg (fun q => by rw [q121x] at q; simp at q)
                rw [hs]
                exact wq_ret rfl rfl ⟨h134x, fs138x, _, (7 : Int32), rfl, (wFr_sub f136x (by simp)), by omega, e135x, ⟨hC140x, sm141x⟩, p142x, p143x, e144x, hfd⟩
            | true =>
              refine wq_inlv (y2 := 207) (as := [.int 5, .int v5]) rfl rfl rfl hM rfl (wq_T (show zT zg0 zF zP 207 0 [(0, .ref 162), (1, .int 5), (2, .int v5)] [] h 0 0 (some (.int 1), h, 0, 0) from by have q9 := c_within hM (hC.2 (3, 166) (by decide)) (hC.2 (4, 168) (by decide)) (hC.2 (5, 170) (by decide)) hK hO hG (j := (5 : Int32)) rfl v5; rw [q121x] at q9; exact q9) ?_)
              show wq 223 19 [(2, .int 5), (0, .ref 162), (1, .int (nI o))] [.int 1] h 0 0 _
              refine wq_gos (f := 1) (pc2 := 33) (ls2 := [(2, .int 6), (0, .ref 162), (1, .int (nI o))]) (st2 := [.ref 162, .int 8, .ref 162]) (h2 := h) (dc2 := 0) (ds2 := 0) 11 rfl ?_
              refine wq_getf rfl hM h35 rfl ?_
              refine wq_le2 rfl rfl (fun b145x => ?_) (fun b145x => ?_)
              · refine wq_gos (f := 1) (pc2 := 46) (ls2 := [(2, .int 6), (0, .ref 162), (1, .int (nI o))]) (st2 := [.ref 162, .ref 162]) (h2 := h) (dc2 := 0) (ds2 := 0) 1 rfl ?_
                refine wq_getf rfl hM h35 rfl ?_
                refine wq_putf rfl hM rfl (by rw [hC.1]; rfl) rfl ?_
                intro h146x e147x f148x l149x
                obtain ⟨fs150x, hf151x⟩ : ∃ x, x = fs.set 35 (.int wn) := ⟨_, rfl⟩
                rw [← hf151x] at e147x
                have hC152x : mC fs150x := by rw [hf151x]; exact mC_set hC (by decide) _
                have sm153x := mK_tr (mK_rf fs) (show mK fs fs150x by rw [hf151x]; exact mK_set fs (by decide) _)
                have p154x : fs150x[34]? = some (.int (nI l.length)) := by rw [hf151x, List.getElem?_set_ne (by decide)]; exact h34
                have p155x : fs150x[35]? = some (.int wn) := by rw [hf151x]; exact List.getElem?_set_self (by rw [hC.1]; decide)
                refine wq_gos (f := 1) (pc2 := 61) (ls2 := [(2, .int 6), (0, .ref 162), (1, .int (nI o))]) (st2 := [.ref 162, .int (nI o), .ref 162]) (h2 := h146x) (dc2 := 0) (ds2 := 0) 6 rfl ?_
                refine wq_getf rfl e147x (hC152x.2 (38, 204) (by decide)) rfl ?_
                have e156x := (f148x.2 _ _ (wnc (by decide) wn0) hN)
                refine wq_inl (y2 := 219) (as := [.ref 204]) rfl rfl rfl (wq_T (show zT zg0 zF zP 219 0 [(0, .ref 204)] [] h146x 0 0 (some (.long (jpack v0 v1 v2 v3 v4 v5)), h146x, 0, 0) from by have q9 := m_packed e156x; rw [hv0, hv1, hv2, hv3, hv4, hv5] at q9; exact q9) ?_)
                show wq 223 67 [(2, .int 6), (0, .ref 162), (1, .int (nI o))] [.long (jpack v0 v1 v2 v3 v4 v5), .int (nI o), .ref 162] h146x 0 0 _
                have e157x := (f148x.2 _ _ (wnc (by decide) wn0) hF)
                refine wq_inlv (y2 := 222) (as := [.int (nI o), .long (jpack v0 v1 v2 v3 v4 v5)]) rfl rfl rfl e147x rfl (wq_mono (m_adds e147x hC152x p154x p155x e157x hfd ho (jpack v0 v1 v2 v3 v4 v5)) ?_)
                rintro _ ⟨h158x, fs159x, fo160x, rfl, f161x, l162x, e163x, e164x, e165x, e166x, e167x, e168x⟩
                show wq 223 70 [(2, .int 6), (0, .ref 162), (1, .int (nI o))] [] h158x 0 0 _
                have hs : mCnt lo hi (some l) v0 v1 v2 v3 v4 v5 = mAdd (some l) (jpack v0 v1 v2 v3 v4 v5) := if_pos ⟨q1x, q25x, q49x, q73x, q97x, q121x⟩
                rw [hs]
                exact wq_ret rfl rfl ⟨h158x, fs159x, _, wn, rfl, (wFr_tr (wFr_sub f148x (by simp)) (wFr_sub f161x (by simp))), by omega, e163x, ⟨e164x.1, (mK_tr sm153x e164x.2)⟩, e165x, e166x, e167x, e168x⟩
              · refine wq_gos (f := 1) (pc2 := 49) (ls2 := [(2, .int 6), (0, .ref 162), (1, .int (nI o))]) (st2 := [.int 8, .ref 162]) (h2 := h) (dc2 := 0) (ds2 := 0) 4 rfl ?_
                refine wq_putf rfl hM rfl (by rw [hC.1]; rfl) rfl ?_
                intro h169x e170x f171x l172x
                obtain ⟨fs173x, hf174x⟩ : ∃ x, x = fs.set 35 (.int 8) := ⟨_, rfl⟩
                rw [← hf174x] at e170x
                have hC175x : mC fs173x := by rw [hf174x]; exact mC_set hC (by decide) _
                have sm176x := mK_tr (mK_rf fs) (show mK fs fs173x by rw [hf174x]; exact mK_set fs (by decide) _)
                have p177x : fs173x[34]? = some (.int (nI l.length)) := by rw [hf174x, List.getElem?_set_ne (by decide)]; exact h34
                have p178x : fs173x[35]? = some (.int 8) := by rw [hf174x]; exact List.getElem?_set_self (by rw [hC.1]; decide)
                refine wq_gos (f := 1) (pc2 := 61) (ls2 := [(2, .int 6), (0, .ref 162), (1, .int (nI o))]) (st2 := [.ref 162, .int (nI o), .ref 162]) (h2 := h169x) (dc2 := 0) (ds2 := 0) 6 rfl ?_
                refine wq_getf rfl e170x (hC175x.2 (38, 204) (by decide)) rfl ?_
                have e179x := (f171x.2 _ _ (wnc (by decide) wn0) hN)
                refine wq_inl (y2 := 219) (as := [.ref 204]) rfl rfl rfl (wq_T (show zT zg0 zF zP 219 0 [(0, .ref 204)] [] h169x 0 0 (some (.long (jpack v0 v1 v2 v3 v4 v5)), h169x, 0, 0) from by have q9 := m_packed e179x; rw [hv0, hv1, hv2, hv3, hv4, hv5] at q9; exact q9) ?_)
                show wq 223 67 [(2, .int 6), (0, .ref 162), (1, .int (nI o))] [.long (jpack v0 v1 v2 v3 v4 v5), .int (nI o), .ref 162] h169x 0 0 _
                have e180x := (f171x.2 _ _ (wnc (by decide) wn0) hF)
                refine wq_inlv (y2 := 222) (as := [.int (nI o), .long (jpack v0 v1 v2 v3 v4 v5)]) rfl rfl rfl e170x rfl (wq_mono (m_adds e170x hC175x p177x p178x e180x hfd ho (jpack v0 v1 v2 v3 v4 v5)) ?_)
                rintro _ ⟨h181x, fs182x, fo183x, rfl, f184x, l185x, e186x, e187x, e188x, e189x, e190x, e191x⟩
                show wq 223 70 [(2, .int 6), (0, .ref 162), (1, .int (nI o))] [] h181x 0 0 _
                have hs : mCnt lo hi (some l) v0 v1 v2 v3 v4 v5 = mAdd (some l) (jpack v0 v1 v2 v3 v4 v5) := if_pos ⟨q1x, q25x, q49x, q73x, q97x, q121x⟩
                rw [hs]
                exact wq_ret rfl rfl ⟨h181x, fs182x, _, (8 : Int32), rfl, (wFr_tr (wFr_sub f171x (by simp)) (wFr_sub f184x (by simp))), by omega, e186x, ⟨e187x.1, (mK_tr sm176x e187x.2)⟩, e188x, e189x, e190x, e191x⟩
noncomputable def mR0 (ro : Int32) : Int32 := ((ro + 64) &&& 63) - 64
theorem mR0_rng (ro : Int32) : -64 ≤ (mR0 ro).toInt ∧ (mR0 ro).toInt ≤ -1 := by
  obtain ⟨j, hj, e⟩ := z64 (ro + 64)
  unfold mR0
  rw [e, Int32.toInt_sub, nI_toInt (by omega), show (64 : Int32).toInt = 64 from rfl, Int.bmod_eq_of_le (by omega) (by omega)]
  omega
theorem mNum_neg {s : mS} {o : Nat} {fo : List Int64} (hf : wFe F o s fo) (h : (mNum s).toInt < 0) : s = none := by
  cases s with
  | none => rfl
  | some l =>
    exfalso
    have h1 : l.length ≤ 600 := hf.1.1
    have h2 : (nI l.length).toInt < 0 := h
    rw [nI_toInt (by omega)] at h2
    omega
theorem mNum_pos {s : mS} (h : 0 ≤ (mNum s).toInt) : ∃ l, s = some l := by
  cases s with
  | none => exact absurd h (by decide)
  | some l => exact ⟨l, rfl⟩
theorem mCnt_none (lo hi : List Int32) (a b c d e f : Int32) : mCnt lo hi none a b c d e f = none := by
  unfold mCnt
  split <;> rfl
noncomputable def mLeft (k0 k1 : Int32) (pl : List Int32) (a b p t : Int32) : Int32 := (pl.getD 0 0) - ((jout k0 k1 a b p) * (jcos t))
noncomputable def mHold (lo hi : List Int32) (k0 k1 : Int32) (pl : List Int32) (s : mS) (a b p t ro : Int32) : mS := if (jout k0 k1 a b p) * (jsin t) ≠ (pl.getD 1 0) then s else if mLeft k0 k1 pl a b p t - mLeft k0 k1 pl a b p t / 1000000 * 1000000 = 0 then mCnt lo hi (mCnt lo hi s (mLeft k0 k1 pl a b p t / 1000000) t a (b - a) (jw (p - b)) (mR0 ro)) (mLeft k0 k1 pl a b p t / 1000000) t a (b - a) (jw (p - b)) (mR0 ro + 64) else s
theorem mHold_none (lo hi : List Int32) (k0 k1 : Int32) (pl : List Int32) (a b p t ro : Int32) : mHold lo hi k0 k1 pl none a b p t ro = none := by
  unfold mHold
  split
  · rfl
  · split
    · rw [mCnt_none, mCnt_none]
    · rfl
set_option maxHeartbeats 8000000 in
theorem m_holds {h : zH} {fs : List Value} {kn lo hi : List Int32} {o rp : Nat} {wn : Int32} {fo l : List Int64} {on pl : List Int32} (hM : zat h 162 = some (.inr (.inr (.inr (10, fs))))) (hC : mC fs) (hK : zat h 166 = some (.inl (0, 14, kn))) (hO : zat h 168 = some (.inl (0, 12, lo))) (hG : zat h 170 = some (.inl (0, 12, hi))) (h34 : fs[34]? = some (.int (nI l.length))) (h35 : fs[35]? = some (.int wn)) (hF : zat h 196 = some (.inr (.inl (6000, fo)))) (hfd : wFe F o (some l) fo) (ho : o ≤ 5400) (hN : zat h 204 = some (.inl (0, 6, on))) (hp : zat h rp = some (.inl (0, 6, pl))) (hrp : rp = 190 ∨ rp = 222) (a b p t ro : Int32) : wq 224 0 [(0, .ref 162), (1, .int (nI o)), (2, .ref rp), (3, .int a), (4, .int b), (5, .int p), (6, .int t), (7, .int ro)] [] h 0 0 (fun r => ∃ (h2 : zH) (fs2 : List Value) (fo2 : List Int64) (wn2 : Int32), r = (none, h2, 0, 0) ∧ wFr [162, 196, 204] h h2 ∧ h2.length = h.length ∧ zat h2 162 = some (.inr (.inr (.inr (10, fs2)))) ∧ (mC fs2 ∧ mK fs fs2) ∧ fs2[34]? = some (.int (mNum (mHold lo hi (kn.getD 0 0) (kn.getD 1 0) pl (some l) a b p t ro))) ∧ fs2[35]? = some (.int wn2) ∧ zat h2 196 = some (.inr (.inl (6000, fo2))) ∧ wFe F o (mHold lo hi (kn.getD 0 0) (kn.getD 1 0) pl (some l) a b p t ro) fo2 ∧ ∃ on2, zat h2 204 = some (.inl (0, 6, on2))) := by
  have q1 := mR0_rng ro
  have q2 : (mR0 ro + 64).toInt = (mR0 ro).toInt + 64 := by rw [Int32.toInt_add, show (64 : Int32).toInt = 64 from rfl, Int.bmod_eq_of_le (by omega) (by omega)]
  have q3 : (mR0 ro + 64 + 64).toInt = (mR0 ro).toInt + 128 := by rw [Int32.toInt_add, q2, show (64 : Int32).toInt = 64 from rfl, Int.bmod_eq_of_le (by omega) (by omega)]; omega
  have q64 : (64 : Int32).toInt = 64 := rfl
  have q5 := nI_toInt (n := l.length) (by have := hfd.1.1; omega)
  refine wq_gos (f := 1) (pc2 := 6) (ls2 := [(0, .ref 162), (1, .int (nI o)), (2, .ref rp), (3, .int a), (4, .int b), (5, .int p), (6, .int t), (7, .int ro)]) (st2 := [.int p, .int b, .int a, .ref 162]) (h2 := h) (dc2 := 0) (ds2 := 0) 4 rfl ?_
  refine wq_inlv (y2 := 197) (as := [.int a, .int b, .int p]) rfl rfl rfl hM rfl (wq_T (c_outBy hM (hC.2 (3, 166) (by decide)) (hC.2 (4, 168) (by decide)) (hC.2 (5, 170) (by decide)) hK hO hG a b p) ?_)
  show wq 224 9 [(0, .ref 162), (1, .int (nI o)), (2, .ref rp), (3, .int a), (4, .int b), (5, .int p), (6, .int t), (7, .int ro)] [.int (jout (kn.getD 0 0) (kn.getD 1 0) a b p)] h 0 0 _
  refine wq_gos (f := 1) (pc2 := 13) (ls2 := [(8, .int (jout (kn.getD 0 0) (kn.getD 1 0) a b p)), (0, .ref 162), (1, .int (nI o)), (2, .ref rp), (3, .int a), (4, .int b), (5, .int p), (6, .int t), (7, .int ro)]) (st2 := [.int 0, .ref rp]) (h2 := h) (dc2 := 0) (ds2 := 0) 3 rfl ?_
  refine wq_ialdk (k := 0) rfl hp rfl rfl rfl ?_
  refine wq_gos (f := 1) (pc2 := 18) (ls2 := [(8, .int (jout (kn.getD 0 0) (kn.getD 1 0) a b p)), (0, .ref 162), (1, .int (nI o)), (2, .ref rp), (3, .int a), (4, .int b), (5, .int p), (6, .int t), (7, .int ro)]) (st2 := [.int t, .int (jout (kn.getD 0 0) (kn.getD 1 0) a b p), .int (pl.getD 0 0)]) (h2 := h) (dc2 := 0) (ds2 := 0) 2 rfl ?_
  refine wq_inl (y2 := 195) (as := [.int t]) rfl rfl rfl (wq_T (m_cos t h) ?_)
  show wq 224 21 [(8, .int (jout (kn.getD 0 0) (kn.getD 1 0) a b p)), (0, .ref 162), (1, .int (nI o)), (2, .ref rp), (3, .int a), (4, .int b), (5, .int p), (6, .int t), (7, .int ro)] [.int (jcos t), .int (jout (kn.getD 0 0) (kn.getD 1 0) a b p), .int (pl.getD 0 0)] h 0 0 _
  refine wq_gos (f := 1) (pc2 := 29) (ls2 := [(9, .int ((pl.getD 0 0) - ((jout (kn.getD 0 0) (kn.getD 1 0) a b p) * (jcos t)))), (8, .int (jout (kn.getD 0 0) (kn.getD 1 0) a b p)), (0, .ref 162), (1, .int (nI o)), (2, .ref rp), (3, .int a), (4, .int b), (5, .int p), (6, .int t), (7, .int ro)]) (st2 := [.int t, .int (jout (kn.getD 0 0) (kn.getD 1 0) a b p)]) (h2 := h) (dc2 := 0) (ds2 := 0) 5 rfl ?_
  refine wq_inl (y2 := 196) (as := [.int t]) rfl rfl rfl (wq_T (m_sin t h) ?_)
  show wq 224 32 [(9, .int ((pl.getD 0 0) - ((jout (kn.getD 0 0) (kn.getD 1 0) a b p) * (jcos t)))), (8, .int (jout (kn.getD 0 0) (kn.getD 1 0) a b p)), (0, .ref 162), (1, .int (nI o)), (2, .ref rp), (3, .int a), (4, .int b), (5, .int p), (6, .int t), (7, .int ro)] [.int (jsin t), .int (jout (kn.getD 0 0) (kn.getD 1 0) a b p)] h 0 0 _
  refine wq_gos (f := 1) (pc2 := 35) (ls2 := [(9, .int ((pl.getD 0 0) - ((jout (kn.getD 0 0) (kn.getD 1 0) a b p) * (jcos t)))), (8, .int (jout (kn.getD 0 0) (kn.getD 1 0) a b p)), (0, .ref 162), (1, .int (nI o)), (2, .ref rp), (3, .int a), (4, .int b), (5, .int p), (6, .int t), (7, .int ro)]) (st2 := [.int 1, .ref rp, .int ((jout (kn.getD 0 0) (kn.getD 1 0) a b p) * (jsin t))]) (h2 := h) (dc2 := 0) (ds2 := 0) 3 rfl ?_
  refine wq_ialdk (k := 1) rfl hp rfl rfl rfl ?_
  refine wq_ne2 rfl rfl (fun b1x => ?_) (fun b1x => ?_)
  · have hs : (mHold lo hi (kn.getD 0 0) (kn.getD 1 0) pl (some l) a b p t ro) = some l := by unfold mHold mLeft; rw [if_pos b1x]
    rw [hs]
    exact wq_ret rfl rfl ⟨h, fs, _, wn, rfl, (wFr_rf _ _), by omega, hM, ⟨hC, (mK_rf fs)⟩, h34, h35, hF, hfd, _, hN⟩
  · refine wq_gos (f := 1) (pc2 := 45) (ls2 := [(9, .int ((pl.getD 0 0) - ((jout (kn.getD 0 0) (kn.getD 1 0) a b p) * (jcos t)))), (8, .int (jout (kn.getD 0 0) (kn.getD 1 0) a b p)), (0, .ref 162), (1, .int (nI o)), (2, .ref rp), (3, .int a), (4, .int b), (5, .int p), (6, .int t), (7, .int ro)]) (st2 := [.int (((pl.getD 0 0) - ((jout (kn.getD 0 0) (kn.getD 1 0) a b p) * (jcos t))) - ((pl.getD 0 0) - ((jout (kn.getD 0 0) (kn.getD 1 0) a b p) * (jcos t))) / (1000000 : Int32) * (1000000 : Int32))]) (h2 := h) (dc2 := 0) (ds2 := 0) 3 rfl ?_
    refine wq_eq0 rfl rfl (fun b2x => ?_) (fun b2x => ?_)
    · refine wq_gos (f := 1) (pc2 := 50) (ls2 := [(9, .int ((pl.getD 0 0) - ((jout (kn.getD 0 0) (kn.getD 1 0) a b p) * (jcos t)))), (8, .int (jout (kn.getD 0 0) (kn.getD 1 0) a b p)), (0, .ref 162), (1, .int (nI o)), (2, .ref rp), (3, .int a), (4, .int b), (5, .int p), (6, .int t), (7, .int ro)]) (st2 := [.ref 162]) (h2 := h) (dc2 := 0) (ds2 := 0) 1 rfl ?_
      refine wq_getf rfl hM (hC.2 (38, 204) (by decide)) rfl ?_
      refine wq_gos (f := 1) (pc2 := 60) (ls2 := [(9, .int ((pl.getD 0 0) - ((jout (kn.getD 0 0) (kn.getD 1 0) a b p) * (jcos t)))), (8, .int (jout (kn.getD 0 0) (kn.getD 1 0) a b p)), (0, .ref 162), (1, .int (nI o)), (2, .ref rp), (3, .int a), (4, .int b), (5, .int p), (6, .int t), (7, .int ro)]) (st2 := [.int (((pl.getD 0 0) - ((jout (kn.getD 0 0) (kn.getD 1 0) a b p) * (jcos t))) / (1000000 : Int32)), .int 0, .ref 204]) (h2 := h) (dc2 := 0) (ds2 := 0) 4 rfl ?_
      refine wq_iast rfl hN rfl rfl ?_
      intro h3x e4x f5x l6x
      have e4x : zat h3x 204 = some (.inl (0, 6, (zset 0 on 0 (((pl.getD 0 0) - ((jout (kn.getD 0 0) (kn.getD 1 0) a b p) * (jcos t))) / (1000000 : Int32))))) := e4x
      refine wq_gos (f := 1) (pc2 := 62) (ls2 := [(9, .int ((pl.getD 0 0) - ((jout (kn.getD 0 0) (kn.getD 1 0) a b p) * (jcos t)))), (8, .int (jout (kn.getD 0 0) (kn.getD 1 0) a b p)), (0, .ref 162), (1, .int (nI o)), (2, .ref rp), (3, .int a), (4, .int b), (5, .int p), (6, .int t), (7, .int ro)]) (st2 := [.ref 162]) (h2 := h3x) (dc2 := 0) (ds2 := 0) 1 rfl ?_
      have e7x := (f5x.2 _ _ (wnc (by decide) wn0) hM)
      refine wq_getf rfl e7x (hC.2 (38, 204) (by decide)) rfl ?_
      refine wq_gos (f := 1) (pc2 := 68) (ls2 := [(9, .int ((pl.getD 0 0) - ((jout (kn.getD 0 0) (kn.getD 1 0) a b p) * (jcos t)))), (8, .int (jout (kn.getD 0 0) (kn.getD 1 0) a b p)), (0, .ref 162), (1, .int (nI o)), (2, .ref rp), (3, .int a), (4, .int b), (5, .int p), (6, .int t), (7, .int ro)]) (st2 := [.int t, .int 1, .ref 204]) (h2 := h3x) (dc2 := 0) (ds2 := 0) 2 rfl ?_
      refine wq_iast rfl e4x rfl rfl ?_
      intro h8x e9x f10x l11x
      have e9x : zat h8x 204 = some (.inl (0, 6, (zset 0 (zset 0 on 0 (((pl.getD 0 0) - ((jout (kn.getD 0 0) (kn.getD 1 0) a b p) * (jcos t))) / (1000000 : Int32))) 1 t))) := e9x
      refine wq_gos (f := 1) (pc2 := 70) (ls2 := [(9, .int ((pl.getD 0 0) - ((jout (kn.getD 0 0) (kn.getD 1 0) a b p) * (jcos t)))), (8, .int (jout (kn.getD 0 0) (kn.getD 1 0) a b p)), (0, .ref 162), (1, .int (nI o)), (2, .ref rp), (3, .int a), (4, .int b), (5, .int p), (6, .int t), (7, .int ro)]) (st2 := [.ref 162]) (h2 := h8x) (dc2 := 0) (ds2 := 0) 1 rfl ?_
      have e12x := (f10x.2 _ _ (wnc (by decide) wn0) e7x)
      refine wq_getf rfl e12x (hC.2 (38, 204) (by decide)) rfl ?_
      refine wq_gos (f := 1) (pc2 := 75) (ls2 := [(9, .int ((pl.getD 0 0) - ((jout (kn.getD 0 0) (kn.getD 1 0) a b p) * (jcos t)))), (8, .int (jout (kn.getD 0 0) (kn.getD 1 0) a b p)), (0, .ref 162), (1, .int (nI o)), (2, .ref rp), (3, .int a), (4, .int b), (5, .int p), (6, .int t), (7, .int ro)]) (st2 := [.int a, .int 2, .ref 204]) (h2 := h8x) (dc2 := 0) (ds2 := 0) 2 rfl ?_
      refine wq_iast rfl e9x rfl rfl ?_
      intro h13x e14x f15x l16x
      have e14x : zat h13x 204 = some (.inl (0, 6, (zset 0 (zset 0 (zset 0 on 0 (((pl.getD 0 0) - ((jout (kn.getD 0 0) (kn.getD 1 0) a b p) * (jcos t))) / (1000000 : Int32))) 1 t) 2 a))) := e14x
      refine wq_gos (f := 1) (pc2 := 77) (ls2 := [(9, .int ((pl.getD 0 0) - ((jout (kn.getD 0 0) (kn.getD 1 0) a b p) * (jcos t)))), (8, .int (jout (kn.getD 0 0) (kn.getD 1 0) a b p)), (0, .ref 162), (1, .int (nI o)), (2, .ref rp), (3, .int a), (4, .int b), (5, .int p), (6, .int t), (7, .int ro)]) (st2 := [.ref 162]) (h2 := h13x) (dc2 := 0) (ds2 := 0) 1 rfl ?_
      have e17x := (f15x.2 _ _ (wnc (by decide) wn0) e12x)
      refine wq_getf rfl e17x (hC.2 (38, 204) (by decide)) rfl ?_
      refine wq_gos (f := 1) (pc2 := 85) (ls2 := [(9, .int ((pl.getD 0 0) - ((jout (kn.getD 0 0) (kn.getD 1 0) a b p) * (jcos t)))), (8, .int (jout (kn.getD 0 0) (kn.getD 1 0) a b p)), (0, .ref 162), (1, .int (nI o)), (2, .ref rp), (3, .int a), (4, .int b), (5, .int p), (6, .int t), (7, .int ro)]) (st2 := [.int (b - a), .int 3, .ref 204]) (h2 := h13x) (dc2 := 0) (ds2 := 0) 4 rfl ?_
      refine wq_iast rfl e14x rfl rfl ?_
      intro h18x e19x f20x l21x
      have e19x : zat h18x 204 = some (.inl (0, 6, (zset 0 (zset 0 (zset 0 (zset 0 on 0 (((pl.getD 0 0) - ((jout (kn.getD 0 0) (kn.getD 1 0) a b p) * (jcos t))) / (1000000 : Int32))) 1 t) 2 a) 3 (b - a)))) := e19x
      refine wq_gos (f := 1) (pc2 := 87) (ls2 := [(9, .int ((pl.getD 0 0) - ((jout (kn.getD 0 0) (kn.getD 1 0) a b p) * (jcos t)))), (8, .int (jout (kn.getD 0 0) (kn.getD 1 0) a b p)), (0, .ref 162), (1, .int (nI o)), (2, .ref rp), (3, .int a), (4, .int b), (5, .int p), (6, .int t), (7, .int ro)]) (st2 := [.ref 162]) (h2 := h18x) (dc2 := 0) (ds2 := 0) 1 rfl ?_
      have e22x := (f20x.2 _ _ (wnc (by decide) wn0) e17x)
      refine wq_getf rfl e22x (hC.2 (38, 204) (by decide)) rfl ?_
      refine wq_gos (f := 1) (pc2 := 105) (ls2 := [(9, .int ((pl.getD 0 0) - ((jout (kn.getD 0 0) (kn.getD 1 0) a b p) * (jcos t)))), (8, .int (jout (kn.getD 0 0) (kn.getD 1 0) a b p)), (0, .ref 162), (1, .int (nI o)), (2, .ref rp), (3, .int a), (4, .int b), (5, .int p), (6, .int t), (7, .int ro)]) (st2 := [.int ((((p - b) + (32 : Int32)) &&& (63 : Int32)) - (32 : Int32)), .int 4, .ref 204]) (h2 := h18x) (dc2 := 0) (ds2 := 0) 10 rfl ?_
      refine wq_iast rfl e19x rfl rfl ?_
      intro h23x e24x f25x l26x
      have e24x : zat h23x 204 = some (.inl (0, 6, (zset 0 (zset 0 (zset 0 (zset 0 (zset 0 on 0 (((pl.getD 0 0) - ((jout (kn.getD 0 0) (kn.getD 1 0) a b p) * (jcos t))) / (1000000 : Int32))) 1 t) 2 a) 3 (b - a)) 4 ((((p - b) + (32 : Int32)) &&& (63 : Int32)) - (32 : Int32))))) := e24x
      refine wq_gos (f := 1) (pc2 := 119) (ls2 := [(10, .int (((ro + (64 : Int32)) &&& (63 : Int32)) - (64 : Int32))), (9, .int ((pl.getD 0 0) - ((jout (kn.getD 0 0) (kn.getD 1 0) a b p) * (jcos t)))), (8, .int (jout (kn.getD 0 0) (kn.getD 1 0) a b p)), (0, .ref 162), (1, .int (nI o)), (2, .ref rp), (3, .int a), (4, .int b), (5, .int p), (6, .int t), (7, .int ro)]) (st2 := []) (h2 := h23x) (dc2 := 0) (ds2 := 0) 8 rfl ?_
      show wq 224 119 [(10, .int (mR0 ro)), (9, .int ((pl.getD 0 0) - ((jout (kn.getD 0 0) (kn.getD 1 0) a b p) * (jcos t)))), (8, .int (jout (kn.getD 0 0) (kn.getD 1 0) a b p)), (0, .ref 162), (1, .int (nI o)), (2, .ref rp), (3, .int a), (4, .int b), (5, .int p), (6, .int t), (7, .int ro)] [] h23x 0 0 _
      refine wq_gos (f := 1) (pc2 := 123) (ls2 := [(10, .int (mR0 ro)), (9, .int ((pl.getD 0 0) - ((jout (kn.getD 0 0) (kn.getD 1 0) a b p) * (jcos t)))), (8, .int (jout (kn.getD 0 0) (kn.getD 1 0) a b p)), (0, .ref 162), (1, .int (nI o)), (2, .ref rp), (3, .int a), (4, .int b), (5, .int p), (6, .int t), (7, .int ro)]) (st2 := [.int 64, .int (mR0 ro)]) (h2 := h23x) (dc2 := 0) (ds2 := 0) 2 rfl ?_
      refine wq_ge2f rfl rfl (by omega) ?_
      refine wq_gos (f := 1) (pc2 := 127) (ls2 := [(10, .int (mR0 ro)), (9, .int ((pl.getD 0 0) - ((jout (kn.getD 0 0) (kn.getD 1 0) a b p) * (jcos t)))), (8, .int (jout (kn.getD 0 0) (kn.getD 1 0) a b p)), (0, .ref 162), (1, .int (nI o)), (2, .ref rp), (3, .int a), (4, .int b), (5, .int p), (6, .int t), (7, .int ro)]) (st2 := [.ref 162]) (h2 := h23x) (dc2 := 0) (ds2 := 0) 1 rfl ?_
      have e27x := (f25x.2 _ _ (wnc (by decide) wn0) e22x)
      refine wq_getf rfl e27x h34 rfl ?_
      refine wq_lt0f rfl rfl (by omega) ?_
      refine wq_gos (f := 1) (pc2 := 134) (ls2 := [(10, .int (mR0 ro)), (9, .int ((pl.getD 0 0) - ((jout (kn.getD 0 0) (kn.getD 1 0) a b p) * (jcos t)))), (8, .int (jout (kn.getD 0 0) (kn.getD 1 0) a b p)), (0, .ref 162), (1, .int (nI o)), (2, .ref rp), (3, .int a), (4, .int b), (5, .int p), (6, .int t), (7, .int ro)]) (st2 := [.ref 162]) (h2 := h23x) (dc2 := 0) (ds2 := 0) 1 rfl ?_
      refine wq_getf rfl e27x (hC.2 (38, 204) (by decide)) rfl ?_
      refine wq_gos (f := 1) (pc2 := 140) (ls2 := [(10, .int (mR0 ro)), (9, .int ((pl.getD 0 0) - ((jout (kn.getD 0 0) (kn.getD 1 0) a b p) * (jcos t)))), (8, .int (jout (kn.getD 0 0) (kn.getD 1 0) a b p)), (0, .ref 162), (1, .int (nI o)), (2, .ref rp), (3, .int a), (4, .int b), (5, .int p), (6, .int t), (7, .int ro)]) (st2 := [.int (mR0 ro), .int 5, .ref 204]) (h2 := h23x) (dc2 := 0) (ds2 := 0) 2 rfl ?_
      refine wq_iast rfl e24x rfl rfl ?_
      intro h28x e29x f30x l31x
      have e29x : zat h28x 204 = some (.inl (0, 6, (zset 0 (zset 0 (zset 0 (zset 0 (zset 0 (zset 0 on 0 (((pl.getD 0 0) - ((jout (kn.getD 0 0) (kn.getD 1 0) a b p) * (jcos t))) / (1000000 : Int32))) 1 t) 2 a) 3 (b - a)) 4 ((((p - b) + (32 : Int32)) &&& (63 : Int32)) - (32 : Int32))) 5 (mR0 ro)))) := e29x
      refine wq_gos (f := 1) (pc2 := 143) (ls2 := [(10, .int (mR0 ro)), (9, .int ((pl.getD 0 0) - ((jout (kn.getD 0 0) (kn.getD 1 0) a b p) * (jcos t)))), (8, .int (jout (kn.getD 0 0) (kn.getD 1 0) a b p)), (0, .ref 162), (1, .int (nI o)), (2, .ref rp), (3, .int a), (4, .int b), (5, .int p), (6, .int t), (7, .int ro)]) (st2 := [.int (nI o), .ref 162]) (h2 := h28x) (dc2 := 0) (ds2 := 0) 2 rfl ?_
      have e32x := (f30x.2 _ _ (wnc (by decide) wn0) e27x)
      have e33x := (f30x.2 _ _ (wnc (by decide) wn0) (f25x.2 _ _ (wnc (by decide) wn0) (f20x.2 _ _ (wnc (by decide) wn0) (f15x.2 _ _ (wnc (by decide) wn0) (f10x.2 _ _ (wnc (by decide) wn0) (f5x.2 _ _ (wnc (by decide) wn0) hK))))))
      have e34x := (f30x.2 _ _ (wnc (by decide) wn0) (f25x.2 _ _ (wnc (by decide) wn0) (f20x.2 _ _ (wnc (by decide) wn0) (f15x.2 _ _ (wnc (by decide) wn0) (f10x.2 _ _ (wnc (by decide) wn0) (f5x.2 _ _ (wnc (by decide) wn0) hO))))))
      have e35x := (f30x.2 _ _ (wnc (by decide) wn0) (f25x.2 _ _ (wnc (by decide) wn0) (f20x.2 _ _ (wnc (by decide) wn0) (f15x.2 _ _ (wnc (by decide) wn0) (f10x.2 _ _ (wnc (by decide) wn0) (f5x.2 _ _ (wnc (by decide) wn0) hG))))))
      have e36x := (f30x.2 _ _ (wnc (by decide) wn0) (f25x.2 _ _ (wnc (by decide) wn0) (f20x.2 _ _ (wnc (by decide) wn0) (f15x.2 _ _ (wnc (by decide) wn0) (f10x.2 _ _ (wnc (by decide) wn0) (f5x.2 _ _ (wnc (by decide) wn0) hF))))))
      refine wq_inlv (y2 := 223) (as := [.int (nI o)]) rfl rfl rfl e32x rfl (wq_mono (m_counts (l := l) (v0 := mLeft (kn.getD 0 0) (kn.getD 1 0) pl a b p t / 1000000) (v1 := t) (v2 := a) (v3 := b - a) (v4 := jw (p - b)) (v5 := (mR0 ro)) e32x hC e33x e34x e35x h34 h35 e36x hfd ho e29x (by simp only [zset_get]; rfl) (by simp only [zset_get]; rfl) (by simp only [zset_get]; rfl) (by simp only [zset_get]; rfl) (by simp only [zset_get]; rfl) (by simp only [zset_get]; rfl)) ?_)
      rintro _ ⟨h37x, fs38x, fo39x, wn40x, rfl, f41x, l42x, e43x, e44x, e45x, e46x, e47x, e48x⟩
      show wq 224 146 [(10, .int (mR0 ro)), (9, .int ((pl.getD 0 0) - ((jout (kn.getD 0 0) (kn.getD 1 0) a b p) * (jcos t)))), (8, .int (jout (kn.getD 0 0) (kn.getD 1 0) a b p)), (0, .ref 162), (1, .int (nI o)), (2, .ref rp), (3, .int a), (4, .int b), (5, .int p), (6, .int t), (7, .int ro)] [] h37x 0 0 _
      refine wq_gos (f := 1) (pc2 := 123) (ls2 := [(10, .int ((mR0 ro) + 64)), (9, .int ((pl.getD 0 0) - ((jout (kn.getD 0 0) (kn.getD 1 0) a b p) * (jcos t)))), (8, .int (jout (kn.getD 0 0) (kn.getD 1 0) a b p)), (0, .ref 162), (1, .int (nI o)), (2, .ref rp), (3, .int a), (4, .int b), (5, .int p), (6, .int t), (7, .int ro)]) (st2 := [.int 64, .int ((mR0 ro) + 64)]) (h2 := h37x) (dc2 := 0) (ds2 := 0) 4 rfl ?_
      refine wq_ge2f rfl rfl (by omega) ?_
      refine wq_gos (f := 1) (pc2 := 127) (ls2 := [(10, .int ((mR0 ro) + 64)), (9, .int ((pl.getD 0 0) - ((jout (kn.getD 0 0) (kn.getD 1 0) a b p) * (jcos t)))), (8, .int (jout (kn.getD 0 0) (kn.getD 1 0) a b p)), (0, .ref 162), (1, .int (nI o)), (2, .ref rp), (3, .int a), (4, .int b), (5, .int p), (6, .int t), (7, .int ro)]) (st2 := [.ref 162]) (h2 := h37x) (dc2 := 0) (ds2 := 0) 1 rfl ?_
      refine wq_getf rfl e43x e45x rfl ?_
      refine wq_lt0 rfl rfl (fun b49x => ?_) (fun b49x => ?_)
      · have e50x := (f41x.2 _ _ (wnc (by decide) (wnc (by decide) wn0)) e29x)
        have hs0 : (mHold lo hi (kn.getD 0 0) (kn.getD 1 0) pl (some l) a b p t ro) = mCnt lo hi (mCnt lo hi (some l) (mLeft (kn.getD 0 0) (kn.getD 1 0) pl a b p t / 1000000) t a (b - a) (jw (p - b)) (mR0 ro)) (mLeft (kn.getD 0 0) (kn.getD 1 0) pl a b p t / 1000000) t a (b - a) (jw (p - b)) (mR0 ro + 64) := by unfold mHold mLeft; rw [if_neg (fun q => q b1x), if_pos b2x]
        have hn := mNum_neg e48x b49x
        have hs : (mHold lo hi (kn.getD 0 0) (kn.getD 1 0) pl (some l) a b p t ro) = mCnt lo hi (some l) (mLeft (kn.getD 0 0) (kn.getD 1 0) pl a b p t / 1000000) t a (b - a) (jw (p - b)) (mR0 ro) := by rw [hs0, hn, mCnt_none]
        rw [hs]
        exact wq_ret rfl rfl ⟨h37x, fs38x, _, wn40x, rfl, (wFr_tr (wFr_sub f5x (by simp)) (wFr_tr (wFr_sub f10x (by simp)) (wFr_tr (wFr_sub f15x (by simp)) (wFr_tr (wFr_sub f20x (by simp)) (wFr_tr (wFr_sub f25x (by simp)) (wFr_tr (wFr_sub f30x (by simp)) (wFr_sub f41x (by simp)))))))), by omega, e43x, ⟨e44x.1, (mK_tr (mK_rf fs) e44x.2)⟩, e45x, e46x, e47x, e48x, _, e50x⟩
      · obtain ⟨l51x, hl52x⟩ := mNum_pos b49x
        have p53x := e45x
        have d54x := e48x
        rw [hl52x] at p53x d54x
        refine wq_gos (f := 1) (pc2 := 134) (ls2 := [(10, .int ((mR0 ro) + 64)), (9, .int ((pl.getD 0 0) - ((jout (kn.getD 0 0) (kn.getD 1 0) a b p) * (jcos t)))), (8, .int (jout (kn.getD 0 0) (kn.getD 1 0) a b p)), (0, .ref 162), (1, .int (nI o)), (2, .ref rp), (3, .int a), (4, .int b), (5, .int p), (6, .int t), (7, .int ro)]) (st2 := [.ref 162]) (h2 := h37x) (dc2 := 0) (ds2 := 0) 1 rfl ?_
        refine wq_getf rfl e43x (e44x.1.2 (38, 204) (by decide)) rfl ?_
        refine wq_gos (f := 1) (pc2 := 140) (ls2 := [(10, .int ((mR0 ro) + 64)), (9, .int ((pl.getD 0 0) - ((jout (kn.getD 0 0) (kn.getD 1 0) a b p) * (jcos t)))), (8, .int (jout (kn.getD 0 0) (kn.getD 1 0) a b p)), (0, .ref 162), (1, .int (nI o)), (2, .ref rp), (3, .int a), (4, .int b), (5, .int p), (6, .int t), (7, .int ro)]) (st2 := [.int ((mR0 ro) + 64), .int 5, .ref 204]) (h2 := h37x) (dc2 := 0) (ds2 := 0) 2 rfl ?_
        have e55x := (f41x.2 _ _ (wnc (by decide) (wnc (by decide) wn0)) e29x)
        refine wq_iast rfl e55x rfl rfl ?_
        intro h56x e57x f58x l59x
        have e57x : zat h56x 204 = some (.inl (0, 6, (zset 0 (zset 0 (zset 0 (zset 0 (zset 0 (zset 0 (zset 0 on 0 (((pl.getD 0 0) - ((jout (kn.getD 0 0) (kn.getD 1 0) a b p) * (jcos t))) / (1000000 : Int32))) 1 t) 2 a) 3 (b - a)) 4 ((((p - b) + (32 : Int32)) &&& (63 : Int32)) - (32 : Int32))) 5 (mR0 ro)) 5 ((mR0 ro) + 64)))) := e57x
        refine wq_gos (f := 1) (pc2 := 143) (ls2 := [(10, .int ((mR0 ro) + 64)), (9, .int ((pl.getD 0 0) - ((jout (kn.getD 0 0) (kn.getD 1 0) a b p) * (jcos t)))), (8, .int (jout (kn.getD 0 0) (kn.getD 1 0) a b p)), (0, .ref 162), (1, .int (nI o)), (2, .ref rp), (3, .int a), (4, .int b), (5, .int p), (6, .int t), (7, .int ro)]) (st2 := [.int (nI o), .ref 162]) (h2 := h56x) (dc2 := 0) (ds2 := 0) 2 rfl ?_
        have e60x := (f58x.2 _ _ (wnc (by decide) wn0) e43x)
        have e61x := (f58x.2 _ _ (wnc (by decide) wn0) (f41x.2 _ _ (wnc (by decide) (wnc (by decide) wn0)) e33x))
        have e62x := (f58x.2 _ _ (wnc (by decide) wn0) (f41x.2 _ _ (wnc (by decide) (wnc (by decide) wn0)) e34x))
        have e63x := (f58x.2 _ _ (wnc (by decide) wn0) (f41x.2 _ _ (wnc (by decide) (wnc (by decide) wn0)) e35x))
        have e64x := (f58x.2 _ _ (wnc (by decide) wn0) e47x)
        refine wq_inlv (y2 := 223) (as := [.int (nI o)]) rfl rfl rfl e60x rfl (wq_mono (m_counts (l := l51x) (v0 := mLeft (kn.getD 0 0) (kn.getD 1 0) pl a b p t / 1000000) (v1 := t) (v2 := a) (v3 := b - a) (v4 := jw (p - b)) (v5 := (mR0 ro + 64)) e60x e44x.1 e61x e62x e63x p53x e46x e64x d54x ho e57x (by simp only [zset_get]; rfl) (by simp only [zset_get]; rfl) (by simp only [zset_get]; rfl) (by simp only [zset_get]; rfl) (by simp only [zset_get]; rfl) (by simp only [zset_get]; rfl)) ?_)
        rintro _ ⟨h65x, fs66x, fo67x, wn68x, rfl, f69x, l70x, e71x, e72x, e73x, e74x, e75x, e76x⟩
        show wq 224 146 [(10, .int ((mR0 ro) + 64)), (9, .int ((pl.getD 0 0) - ((jout (kn.getD 0 0) (kn.getD 1 0) a b p) * (jcos t)))), (8, .int (jout (kn.getD 0 0) (kn.getD 1 0) a b p)), (0, .ref 162), (1, .int (nI o)), (2, .ref rp), (3, .int a), (4, .int b), (5, .int p), (6, .int t), (7, .int ro)] [] h65x 0 0 _
        refine wq_gos (f := 1) (pc2 := 123) (ls2 := [(10, .int (((mR0 ro) + 64) + 64)), (9, .int ((pl.getD 0 0) - ((jout (kn.getD 0 0) (kn.getD 1 0) a b p) * (jcos t)))), (8, .int (jout (kn.getD 0 0) (kn.getD 1 0) a b p)), (0, .ref 162), (1, .int (nI o)), (2, .ref rp), (3, .int a), (4, .int b), (5, .int p), (6, .int t), (7, .int ro)]) (st2 := [.int 64, .int (((mR0 ro) + 64) + 64)]) (h2 := h65x) (dc2 := 0) (ds2 := 0) 4 rfl ?_
        refine wq_ge2t rfl (by omega) ?_
        have e77x := (f69x.2 _ _ (wnc (by decide) (wnc (by decide) wn0)) e57x)
        have hs0 : (mHold lo hi (kn.getD 0 0) (kn.getD 1 0) pl (some l) a b p t ro) = mCnt lo hi (mCnt lo hi (some l) (mLeft (kn.getD 0 0) (kn.getD 1 0) pl a b p t / 1000000) t a (b - a) (jw (p - b)) (mR0 ro)) (mLeft (kn.getD 0 0) (kn.getD 1 0) pl a b p t / 1000000) t a (b - a) (jw (p - b)) (mR0 ro + 64) := by unfold mHold mLeft; rw [if_neg (fun q => q b1x), if_pos b2x]
        have hs : (mHold lo hi (kn.getD 0 0) (kn.getD 1 0) pl (some l) a b p t ro) = mCnt lo hi (some l51x) (mLeft (kn.getD 0 0) (kn.getD 1 0) pl a b p t / 1000000) t a (b - a) (jw (p - b)) (mR0 ro + 64) := by rw [hs0, hl52x]
        rw [hs]
        exact wq_ret rfl rfl ⟨h65x, fs66x, _, wn68x, rfl, (wFr_tr (wFr_sub f5x (by simp)) (wFr_tr (wFr_sub f10x (by simp)) (wFr_tr (wFr_sub f15x (by simp)) (wFr_tr (wFr_sub f20x (by simp)) (wFr_tr (wFr_sub f25x (by simp)) (wFr_tr (wFr_sub f30x (by simp)) (wFr_tr (wFr_sub f41x (by simp)) (wFr_tr (wFr_sub f58x (by simp)) (wFr_sub f69x (by simp)))))))))), by omega, e71x, ⟨e72x.1, (mK_tr (mK_tr (mK_rf fs) e44x.2) e72x.2)⟩, e73x, e74x, e75x, e76x, _, e77x⟩
    · have hs : (mHold lo hi (kn.getD 0 0) (kn.getD 1 0) pl (some l) a b p t ro) = some l := by unfold mHold mLeft; rw [if_neg (fun q => q b1x), if_neg b2x]
      rw [hs]
      exact wq_ret rfl rfl ⟨h, fs, _, wn, rfl, (wFr_rf _ _), by omega, hM, ⟨hC, (mK_rf fs)⟩, h34, h35, hF, hfd, _, hN⟩
end
