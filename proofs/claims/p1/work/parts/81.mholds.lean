/-! The reference's counts and holds. -/
def mOk (lo hi : List Int32) (a b c d e f : Int32) : Prop := jallow lo hi 0 a = true ∧ jallow lo hi 1 b = true ∧ jallow lo hi 2 c = true ∧ jallow lo hi 3 d = true ∧ jallow lo hi 4 e = true ∧ jallow lo hi 5 f = true
def mCnt (lo hi : List Int32) (s : mS) (a b c d e f : Int32) : mS := if jallow lo hi 0 a = true ∧ jallow lo hi 1 b = true ∧ jallow lo hi 2 c = true ∧ jallow lo hi 3 d = true ∧ jallow lo hi 4 e = true ∧ jallow lo hi 5 f = true then mAdd s (jpack a b c d e f) else s
set_option maxHeartbeats 8000000 in
theorem m_counts {h : zH} {fs : List Value} {kn lo hi : List Int32} {o : Nat} {wn : Int32} {fo l : List Int64} {on : List Int32} (hM : zat h 162 = some (.inr (.inr (.inr (10, fs))))) (hC : mC fs) (hK : zat h 166 = some (.inl (0, 14, kn))) (hO : zat h 168 = some (.inl (0, 12, lo))) (hG : zat h 170 = some (.inl (0, 12, hi))) (h34 : fs[34]? = some (.int (nI l.length))) (h35 : fs[35]? = some (.int wn)) (hF : zat h 196 = some (.inr (.inl (6000, fo)))) (hfd : wFd o (some l) fo) (ho : o ≤ 5400) (hN : zat h 204 = some (.inl (0, 6, on))) {v0 v1 v2 v3 v4 v5 : Int32} (hv0 : on.getD 0 0 = v0) (hv1 : on.getD 1 0 = v1) (hv2 : on.getD 2 0 = v2) (hv3 : on.getD 3 0 = v3) (hv4 : on.getD 4 0 = v4) (hv5 : on.getD 5 0 = v5) : wq 223 0 [(0, .ref 162), (1, .int (nI o))] [] h 0 0 (fun r => ∃ (h2 : zH) (fs2 : List Value) (fo2 : List Int64) (wn2 : Int32), r = (none, h2, 0, 0) ∧ wFr [162, 196] h h2 ∧ h2.length = h.length ∧ zat h2 162 = some (.inr (.inr (.inr (10, fs2)))) ∧ mC fs2 ∧ fs2[34]? = some (.int (mNum (mCnt lo hi (some l) v0 v1 v2 v3 v4 v5))) ∧ fs2[35]? = some (.int wn2) ∧ zat h2 196 = some (.inr (.inl (6000, fo2))) ∧ wFd o (mCnt lo hi (some l) v0 v1 v2 v3 v4 v5) fo2) := by
  refine wq_gos (f := 1) (pc2 := 11) (ls2 := [(2, .int 0), (0, .ref 162), (1, .int (nI o))]) (st2 := [.ref 162, .int 0, .ref 162]) (h2 := h) (dc2 := 0) (ds2 := 0) 8 rfl ?_
  refine wq_getf rfl hM (hC.2 (38, 204) (by decide)) rfl ?_
  refine wq_gos (f := 1) (pc2 := 15) (ls2 := [(2, .int 0), (0, .ref 162), (1, .int (nI o))]) (st2 := [.int 0, .ref 204, .int 0, .ref 162]) (h2 := h) (dc2 := 0) (ds2 := 0) 1 rfl ?_
  refine wq_ialdk (k := 0) rfl hN rfl rfl rfl ?_
  refine wq_vi hv0 ?_
  cases q1x : jallow lo hi (0 : Int32) v0 with
  | false =>
    refine wq_inlv (y2 := 207) (as := [.int 0, .int v0]) rfl rfl rfl hM rfl (wq_T (show zT zg0 zF zP 207 0 [(0, .ref 162), (1, .int 0), (2, .int v0)] [] h 0 0 (some (.int 0), h, 0, 0) from by have q9 := c_within hM (hC.2 (3, 166) (by decide)) (hC.2 (4, 168) (by decide)) (hC.2 (5, 170) (by decide)) hK hO hG (j := (0 : Int32)) rfl v0; rw [q1x] at q9; exact q9) ?_)
    show wq 223 19 [(2, .int 0), (0, .ref 162), (1, .int (nI o))] [.int 0] h 0 0 _
    refine wq_gos (f := 1) (pc2 := 33) (ls2 := [(2, .int 0), (0, .ref 162), (1, .int (nI o))]) (st2 := [.ref 162, .int 2, .ref 162]) (h2 := h) (dc2 := 0) (ds2 := 0) 6 rfl ?_
    refine wq_getf rfl hM h35 rfl ?_
    refine wq_le2 rfl rfl (fun b2x => ?_) (fun b2x => ?_)
    · refine wq_gos (f := 1) (pc2 := 46) (ls2 := [(2, .int 0), (0, .ref 162), (1, .int (nI o))]) (st2 := [.ref 162, .ref 162]) (h2 := h) (dc2 := 0) (ds2 := 0) 1 rfl ?_
      refine wq_getf rfl hM h35 rfl ?_
      refine wq_putf rfl hM rfl (by rw [hC.1]; rfl) rfl ?_
      intro h3x e4x f5x l6x
      obtain ⟨fs7x, hf8x⟩ : ∃ x, x = fs.set 35 (.int wn) := ⟨_, rfl⟩
      rw [← hf8x] at e4x
      have hC9x : mC fs7x := by rw [hf8x]; exact mC_set hC (by decide) _
      have p10x : fs7x[34]? = some (.int (nI l.length)) := by rw [hf8x, List.getElem?_set_ne (by decide)]; exact h34
      have p11x : fs7x[35]? = some (.int wn) := by rw [hf8x]; exact List.getElem?_set_self (by rw [hC.1]; decide)
      refine wq_gos (f := 1) (pc2 := 70) (ls2 := [(2, .int 0), (0, .ref 162), (1, .int (nI o))]) (st2 := []) (h2 := h3x) (dc2 := 0) (ds2 := 0) 3 rfl ?_
      have e12x := (f5x.2 _ _ (wnc (by decide) wn0) hF)
      have hs : mCnt lo hi (some l) v0 v1 v2 v3 v4 v5 = some l := if_neg (fun q => by rw [q1x] at q; simp at q)
      rw [hs]
      exact wq_ret rfl rfl ⟨h3x, fs7x, _, wn, rfl, (wFr_sub f5x (by simp)), by omega, e4x, hC9x, p10x, p11x, e12x, hfd⟩
    · refine wq_gos (f := 1) (pc2 := 49) (ls2 := [(2, .int 0), (0, .ref 162), (1, .int (nI o))]) (st2 := [.int 2, .ref 162]) (h2 := h) (dc2 := 0) (ds2 := 0) 4 rfl ?_
      refine wq_putf rfl hM rfl (by rw [hC.1]; rfl) rfl ?_
      intro h13x e14x f15x l16x
      obtain ⟨fs17x, hf18x⟩ : ∃ x, x = fs.set 35 (.int 2) := ⟨_, rfl⟩
      rw [← hf18x] at e14x
      have hC19x : mC fs17x := by rw [hf18x]; exact mC_set hC (by decide) _
      have p20x : fs17x[34]? = some (.int (nI l.length)) := by rw [hf18x, List.getElem?_set_ne (by decide)]; exact h34
      have p21x : fs17x[35]? = some (.int 2) := by rw [hf18x]; exact List.getElem?_set_self (by rw [hC.1]; decide)
      refine wq_gos (f := 1) (pc2 := 70) (ls2 := [(2, .int 0), (0, .ref 162), (1, .int (nI o))]) (st2 := []) (h2 := h13x) (dc2 := 0) (ds2 := 0) 3 rfl ?_
      have e22x := (f15x.2 _ _ (wnc (by decide) wn0) hF)
      have hs : mCnt lo hi (some l) v0 v1 v2 v3 v4 v5 = some l := if_neg (fun q => by rw [q1x] at q; simp at q)
      rw [hs]
      exact wq_ret rfl rfl ⟨h13x, fs17x, _, (2 : Int32), rfl, (wFr_sub f15x (by simp)), by omega, e14x, hC19x, p20x, p21x, e22x, hfd⟩
  | true =>
    refine wq_inlv (y2 := 207) (as := [.int 0, .int v0]) rfl rfl rfl hM rfl (wq_T (show zT zg0 zF zP 207 0 [(0, .ref 162), (1, .int 0), (2, .int v0)] [] h 0 0 (some (.int 1), h, 0, 0) from by have q9 := c_within hM (hC.2 (3, 166) (by decide)) (hC.2 (4, 168) (by decide)) (hC.2 (5, 170) (by decide)) hK hO hG (j := (0 : Int32)) rfl v0; rw [q1x] at q9; exact q9) ?_)
    show wq 223 19 [(2, .int 0), (0, .ref 162), (1, .int (nI o))] [.int 1] h 0 0 _
    refine wq_gos (f := 1) (pc2 := 11) (ls2 := [(2, .int 1), (0, .ref 162), (1, .int (nI o))]) (st2 := [.ref 162, .int 1, .ref 162]) (h2 := h) (dc2 := 0) (ds2 := 0) 9 rfl ?_
    refine wq_getf rfl hM (hC.2 (38, 204) (by decide)) rfl ?_
    refine wq_gos (f := 1) (pc2 := 15) (ls2 := [(2, .int 1), (0, .ref 162), (1, .int (nI o))]) (st2 := [.int 1, .ref 204, .int 1, .ref 162]) (h2 := h) (dc2 := 0) (ds2 := 0) 1 rfl ?_
    refine wq_ialdk (k := 1) rfl hN rfl rfl rfl ?_
    refine wq_vi hv1 ?_
    cases q23x : jallow lo hi (1 : Int32) v1 with
    | false =>
      refine wq_inlv (y2 := 207) (as := [.int 1, .int v1]) rfl rfl rfl hM rfl (wq_T (show zT zg0 zF zP 207 0 [(0, .ref 162), (1, .int 1), (2, .int v1)] [] h 0 0 (some (.int 0), h, 0, 0) from by have q9 := c_within hM (hC.2 (3, 166) (by decide)) (hC.2 (4, 168) (by decide)) (hC.2 (5, 170) (by decide)) hK hO hG (j := (1 : Int32)) rfl v1; rw [q23x] at q9; exact q9) ?_)
      show wq 223 19 [(2, .int 1), (0, .ref 162), (1, .int (nI o))] [.int 0] h 0 0 _
      refine wq_gos (f := 1) (pc2 := 33) (ls2 := [(2, .int 1), (0, .ref 162), (1, .int (nI o))]) (st2 := [.ref 162, .int 3, .ref 162]) (h2 := h) (dc2 := 0) (ds2 := 0) 6 rfl ?_
      refine wq_getf rfl hM h35 rfl ?_
      refine wq_le2 rfl rfl (fun b24x => ?_) (fun b24x => ?_)
      · refine wq_gos (f := 1) (pc2 := 46) (ls2 := [(2, .int 1), (0, .ref 162), (1, .int (nI o))]) (st2 := [.ref 162, .ref 162]) (h2 := h) (dc2 := 0) (ds2 := 0) 1 rfl ?_
        refine wq_getf rfl hM h35 rfl ?_
        refine wq_putf rfl hM rfl (by rw [hC.1]; rfl) rfl ?_
        intro h25x e26x f27x l28x
        obtain ⟨fs29x, hf30x⟩ : ∃ x, x = fs.set 35 (.int wn) := ⟨_, rfl⟩
        rw [← hf30x] at e26x
        have hC31x : mC fs29x := by rw [hf30x]; exact mC_set hC (by decide) _
        have p32x : fs29x[34]? = some (.int (nI l.length)) := by rw [hf30x, List.getElem?_set_ne (by decide)]; exact h34
        have p33x : fs29x[35]? = some (.int wn) := by rw [hf30x]; exact List.getElem?_set_self (by rw [hC.1]; decide)
        refine wq_gos (f := 1) (pc2 := 70) (ls2 := [(2, .int 1), (0, .ref 162), (1, .int (nI o))]) (st2 := []) (h2 := h25x) (dc2 := 0) (ds2 := 0) 3 rfl ?_
        have e34x := (f27x.2 _ _ (wnc (by decide) wn0) hF)
        have hs : mCnt lo hi (some l) v0 v1 v2 v3 v4 v5 = some l := if_neg (fun q => by rw [q23x] at q; simp at q)
        rw [hs]
        exact wq_ret rfl rfl ⟨h25x, fs29x, _, wn, rfl, (wFr_sub f27x (by simp)), by omega, e26x, hC31x, p32x, p33x, e34x, hfd⟩
      · refine wq_gos (f := 1) (pc2 := 49) (ls2 := [(2, .int 1), (0, .ref 162), (1, .int (nI o))]) (st2 := [.int 3, .ref 162]) (h2 := h) (dc2 := 0) (ds2 := 0) 4 rfl ?_
        refine wq_putf rfl hM rfl (by rw [hC.1]; rfl) rfl ?_
        intro h35x e36x f37x l38x
        obtain ⟨fs39x, hf40x⟩ : ∃ x, x = fs.set 35 (.int 3) := ⟨_, rfl⟩
        rw [← hf40x] at e36x
        have hC41x : mC fs39x := by rw [hf40x]; exact mC_set hC (by decide) _
        have p42x : fs39x[34]? = some (.int (nI l.length)) := by rw [hf40x, List.getElem?_set_ne (by decide)]; exact h34
        have p43x : fs39x[35]? = some (.int 3) := by rw [hf40x]; exact List.getElem?_set_self (by rw [hC.1]; decide)
        refine wq_gos (f := 1) (pc2 := 70) (ls2 := [(2, .int 1), (0, .ref 162), (1, .int (nI o))]) (st2 := []) (h2 := h35x) (dc2 := 0) (ds2 := 0) 3 rfl ?_
        have e44x := (f37x.2 _ _ (wnc (by decide) wn0) hF)
        have hs : mCnt lo hi (some l) v0 v1 v2 v3 v4 v5 = some l := if_neg (fun q => by rw [q23x] at q; simp at q)
        rw [hs]
        exact wq_ret rfl rfl ⟨h35x, fs39x, _, (3 : Int32), rfl, (wFr_sub f37x (by simp)), by omega, e36x, hC41x, p42x, p43x, e44x, hfd⟩
    | true =>
      refine wq_inlv (y2 := 207) (as := [.int 1, .int v1]) rfl rfl rfl hM rfl (wq_T (show zT zg0 zF zP 207 0 [(0, .ref 162), (1, .int 1), (2, .int v1)] [] h 0 0 (some (.int 1), h, 0, 0) from by have q9 := c_within hM (hC.2 (3, 166) (by decide)) (hC.2 (4, 168) (by decide)) (hC.2 (5, 170) (by decide)) hK hO hG (j := (1 : Int32)) rfl v1; rw [q23x] at q9; exact q9) ?_)
      show wq 223 19 [(2, .int 1), (0, .ref 162), (1, .int (nI o))] [.int 1] h 0 0 _
      refine wq_gos (f := 1) (pc2 := 11) (ls2 := [(2, .int 2), (0, .ref 162), (1, .int (nI o))]) (st2 := [.ref 162, .int 2, .ref 162]) (h2 := h) (dc2 := 0) (ds2 := 0) 9 rfl ?_
      refine wq_getf rfl hM (hC.2 (38, 204) (by decide)) rfl ?_
      refine wq_gos (f := 1) (pc2 := 15) (ls2 := [(2, .int 2), (0, .ref 162), (1, .int (nI o))]) (st2 := [.int 2, .ref 204, .int 2, .ref 162]) (h2 := h) (dc2 := 0) (ds2 := 0) 1 rfl ?_
      refine wq_ialdk (k := 2) rfl hN rfl rfl rfl ?_
      refine wq_vi hv2 ?_
      cases q45x : jallow lo hi (2 : Int32) v2 with
      | false =>
        refine wq_inlv (y2 := 207) (as := [.int 2, .int v2]) rfl rfl rfl hM rfl (wq_T (show zT zg0 zF zP 207 0 [(0, .ref 162), (1, .int 2), (2, .int v2)] [] h 0 0 (some (.int 0), h, 0, 0) from by have q9 := c_within hM (hC.2 (3, 166) (by decide)) (hC.2 (4, 168) (by decide)) (hC.2 (5, 170) (by decide)) hK hO hG (j := (2 : Int32)) rfl v2; rw [q45x] at q9; exact q9) ?_)
        show wq 223 19 [(2, .int 2), (0, .ref 162), (1, .int (nI o))] [.int 0] h 0 0 _
        refine wq_gos (f := 1) (pc2 := 33) (ls2 := [(2, .int 2), (0, .ref 162), (1, .int (nI o))]) (st2 := [.ref 162, .int 4, .ref 162]) (h2 := h) (dc2 := 0) (ds2 := 0) 6 rfl ?_
        refine wq_getf rfl hM h35 rfl ?_
        refine wq_le2 rfl rfl (fun b46x => ?_) (fun b46x => ?_)
        · refine wq_gos (f := 1) (pc2 := 46) (ls2 := [(2, .int 2), (0, .ref 162), (1, .int (nI o))]) (st2 := [.ref 162, .ref 162]) (h2 := h) (dc2 := 0) (ds2 := 0) 1 rfl ?_
          refine wq_getf rfl hM h35 rfl ?_
          refine wq_putf rfl hM rfl (by rw [hC.1]; rfl) rfl ?_
          intro h47x e48x f49x l50x
          obtain ⟨fs51x, hf52x⟩ : ∃ x, x = fs.set 35 (.int wn) := ⟨_, rfl⟩
          rw [← hf52x] at e48x
          have hC53x : mC fs51x := by rw [hf52x]; exact mC_set hC (by decide) _
          have p54x : fs51x[34]? = some (.int (nI l.length)) := by rw [hf52x, List.getElem?_set_ne (by decide)]; exact h34
          have p55x : fs51x[35]? = some (.int wn) := by rw [hf52x]; exact List.getElem?_set_self (by rw [hC.1]; decide)
          refine wq_gos (f := 1) (pc2 := 70) (ls2 := [(2, .int 2), (0, .ref 162), (1, .int (nI o))]) (st2 := []) (h2 := h47x) (dc2 := 0) (ds2 := 0) 3 rfl ?_
          have e56x := (f49x.2 _ _ (wnc (by decide) wn0) hF)
          have hs : mCnt lo hi (some l) v0 v1 v2 v3 v4 v5 = some l := if_neg (fun q => by rw [q45x] at q; simp at q)
          rw [hs]
          exact wq_ret rfl rfl ⟨h47x, fs51x, _, wn, rfl, (wFr_sub f49x (by simp)), by omega, e48x, hC53x, p54x, p55x, e56x, hfd⟩
        · refine wq_gos (f := 1) (pc2 := 49) (ls2 := [(2, .int 2), (0, .ref 162), (1, .int (nI o))]) (st2 := [.int 4, .ref 162]) (h2 := h) (dc2 := 0) (ds2 := 0) 4 rfl ?_
          refine wq_putf rfl hM rfl (by rw [hC.1]; rfl) rfl ?_
          intro h57x e58x f59x l60x
          obtain ⟨fs61x, hf62x⟩ : ∃ x, x = fs.set 35 (.int 4) := ⟨_, rfl⟩
          rw [← hf62x] at e58x
          have hC63x : mC fs61x := by rw [hf62x]; exact mC_set hC (by decide) _
          have p64x : fs61x[34]? = some (.int (nI l.length)) := by rw [hf62x, List.getElem?_set_ne (by decide)]; exact h34
          have p65x : fs61x[35]? = some (.int 4) := by rw [hf62x]; exact List.getElem?_set_self (by rw [hC.1]; decide)
          refine wq_gos (f := 1) (pc2 := 70) (ls2 := [(2, .int 2), (0, .ref 162), (1, .int (nI o))]) (st2 := []) (h2 := h57x) (dc2 := 0) (ds2 := 0) 3 rfl ?_
          have e66x := (f59x.2 _ _ (wnc (by decide) wn0) hF)
          have hs : mCnt lo hi (some l) v0 v1 v2 v3 v4 v5 = some l := if_neg (fun q => by rw [q45x] at q; simp at q)
          rw [hs]
          exact wq_ret rfl rfl ⟨h57x, fs61x, _, (4 : Int32), rfl, (wFr_sub f59x (by simp)), by omega, e58x, hC63x, p64x, p65x, e66x, hfd⟩
      | true =>
        refine wq_inlv (y2 := 207) (as := [.int 2, .int v2]) rfl rfl rfl hM rfl (wq_T (show zT zg0 zF zP 207 0 [(0, .ref 162), (1, .int 2), (2, .int v2)] [] h 0 0 (some (.int 1), h, 0, 0) from by have q9 := c_within hM (hC.2 (3, 166) (by decide)) (hC.2 (4, 168) (by decide)) (hC.2 (5, 170) (by decide)) hK hO hG (j := (2 : Int32)) rfl v2; rw [q45x] at q9; exact q9) ?_)
        show wq 223 19 [(2, .int 2), (0, .ref 162), (1, .int (nI o))] [.int 1] h 0 0 _
        refine wq_gos (f := 1) (pc2 := 11) (ls2 := [(2, .int 3), (0, .ref 162), (1, .int (nI o))]) (st2 := [.ref 162, .int 3, .ref 162]) (h2 := h) (dc2 := 0) (ds2 := 0) 9 rfl ?_
        refine wq_getf rfl hM (hC.2 (38, 204) (by decide)) rfl ?_
        refine wq_gos (f := 1) (pc2 := 15) (ls2 := [(2, .int 3), (0, .ref 162), (1, .int (nI o))]) (st2 := [.int 3, .ref 204, .int 3, .ref 162]) (h2 := h) (dc2 := 0) (ds2 := 0) 1 rfl ?_
        refine wq_ialdk (k := 3) rfl hN rfl rfl rfl ?_
        refine wq_vi hv3 ?_
        cases q67x : jallow lo hi (3 : Int32) v3 with
        | false =>
          refine wq_inlv (y2 := 207) (as := [.int 3, .int v3]) rfl rfl rfl hM rfl (wq_T (show zT zg0 zF zP 207 0 [(0, .ref 162), (1, .int 3), (2, .int v3)] [] h 0 0 (some (.int 0), h, 0, 0) from by have q9 := c_within hM (hC.2 (3, 166) (by decide)) (hC.2 (4, 168) (by decide)) (hC.2 (5, 170) (by decide)) hK hO hG (j := (3 : Int32)) rfl v3; rw [q67x] at q9; exact q9) ?_)
          show wq 223 19 [(2, .int 3), (0, .ref 162), (1, .int (nI o))] [.int 0] h 0 0 _
          refine wq_gos (f := 1) (pc2 := 33) (ls2 := [(2, .int 3), (0, .ref 162), (1, .int (nI o))]) (st2 := [.ref 162, .int 5, .ref 162]) (h2 := h) (dc2 := 0) (ds2 := 0) 6 rfl ?_
          refine wq_getf rfl hM h35 rfl ?_
          refine wq_le2 rfl rfl (fun b68x => ?_) (fun b68x => ?_)
          · refine wq_gos (f := 1) (pc2 := 46) (ls2 := [(2, .int 3), (0, .ref 162), (1, .int (nI o))]) (st2 := [.ref 162, .ref 162]) (h2 := h) (dc2 := 0) (ds2 := 0) 1 rfl ?_
            refine wq_getf rfl hM h35 rfl ?_
            refine wq_putf rfl hM rfl (by rw [hC.1]; rfl) rfl ?_
            intro h69x e70x f71x l72x
            obtain ⟨fs73x, hf74x⟩ : ∃ x, x = fs.set 35 (.int wn) := ⟨_, rfl⟩
            rw [← hf74x] at e70x
            have hC75x : mC fs73x := by rw [hf74x]; exact mC_set hC (by decide) _
            have p76x : fs73x[34]? = some (.int (nI l.length)) := by rw [hf74x, List.getElem?_set_ne (by decide)]; exact h34
            have p77x : fs73x[35]? = some (.int wn) := by rw [hf74x]; exact List.getElem?_set_self (by rw [hC.1]; decide)
            refine wq_gos (f := 1) (pc2 := 70) (ls2 := [(2, .int 3), (0, .ref 162), (1, .int (nI o))]) (st2 := []) (h2 := h69x) (dc2 := 0) (ds2 := 0) 3 rfl ?_
            have e78x := (f71x.2 _ _ (wnc (by decide) wn0) hF)
            have hs : mCnt lo hi (some l) v0 v1 v2 v3 v4 v5 = some l := if_neg (fun q => by rw [q67x] at q; simp at q)
            rw [hs]
            exact wq_ret rfl rfl ⟨h69x, fs73x, _, wn, rfl, (wFr_sub f71x (by simp)), by omega, e70x, hC75x, p76x, p77x, e78x, hfd⟩
          · refine wq_gos (f := 1) (pc2 := 49) (ls2 := [(2, .int 3), (0, .ref 162), (1, .int (nI o))]) (st2 := [.int 5, .ref 162]) (h2 := h) (dc2 := 0) (ds2 := 0) 4 rfl ?_
            refine wq_putf rfl hM rfl (by rw [hC.1]; rfl) rfl ?_
            intro h79x e80x f81x l82x
            obtain ⟨fs83x, hf84x⟩ : ∃ x, x = fs.set 35 (.int 5) := ⟨_, rfl⟩
            rw [← hf84x] at e80x
            have hC85x : mC fs83x := by rw [hf84x]; exact mC_set hC (by decide) _
            have p86x : fs83x[34]? = some (.int (nI l.length)) := by rw [hf84x, List.getElem?_set_ne (by decide)]; exact h34
            have p87x : fs83x[35]? = some (.int 5) := by rw [hf84x]; exact List.getElem?_set_self (by rw [hC.1]; decide)
            refine wq_gos (f := 1) (pc2 := 70) (ls2 := [(2, .int 3), (0, .ref 162), (1, .int (nI o))]) (st2 := []) (h2 := h79x) (dc2 := 0) (ds2 := 0) 3 rfl ?_
            have e88x := (f81x.2 _ _ (wnc (by decide) wn0) hF)
            have hs : mCnt lo hi (some l) v0 v1 v2 v3 v4 v5 = some l := if_neg (fun q => by rw [q67x] at q; simp at q)
            rw [hs]
            exact wq_ret rfl rfl ⟨h79x, fs83x, _, (5 : Int32), rfl, (wFr_sub f81x (by simp)), by omega, e80x, hC85x, p86x, p87x, e88x, hfd⟩
        | true =>
          refine wq_inlv (y2 := 207) (as := [.int 3, .int v3]) rfl rfl rfl hM rfl (wq_T (show zT zg0 zF zP 207 0 [(0, .ref 162), (1, .int 3), (2, .int v3)] [] h 0 0 (some (.int 1), h, 0, 0) from by have q9 := c_within hM (hC.2 (3, 166) (by decide)) (hC.2 (4, 168) (by decide)) (hC.2 (5, 170) (by decide)) hK hO hG (j := (3 : Int32)) rfl v3; rw [q67x] at q9; exact q9) ?_)
          show wq 223 19 [(2, .int 3), (0, .ref 162), (1, .int (nI o))] [.int 1] h 0 0 _
          refine wq_gos (f := 1) (pc2 := 11) (ls2 := [(2, .int 4), (0, .ref 162), (1, .int (nI o))]) (st2 := [.ref 162, .int 4, .ref 162]) (h2 := h) (dc2 := 0) (ds2 := 0) 9 rfl ?_
          refine wq_getf rfl hM (hC.2 (38, 204) (by decide)) rfl ?_
          refine wq_gos (f := 1) (pc2 := 15) (ls2 := [(2, .int 4), (0, .ref 162), (1, .int (nI o))]) (st2 := [.int 4, .ref 204, .int 4, .ref 162]) (h2 := h) (dc2 := 0) (ds2 := 0) 1 rfl ?_
          refine wq_ialdk (k := 4) rfl hN rfl rfl rfl ?_
          refine wq_vi hv4 ?_
          cases q89x : jallow lo hi (4 : Int32) v4 with
          | false =>
            refine wq_inlv (y2 := 207) (as := [.int 4, .int v4]) rfl rfl rfl hM rfl (wq_T (show zT zg0 zF zP 207 0 [(0, .ref 162), (1, .int 4), (2, .int v4)] [] h 0 0 (some (.int 0), h, 0, 0) from by have q9 := c_within hM (hC.2 (3, 166) (by decide)) (hC.2 (4, 168) (by decide)) (hC.2 (5, 170) (by decide)) hK hO hG (j := (4 : Int32)) rfl v4; rw [q89x] at q9; exact q9) ?_)
            show wq 223 19 [(2, .int 4), (0, .ref 162), (1, .int (nI o))] [.int 0] h 0 0 _
            refine wq_gos (f := 1) (pc2 := 33) (ls2 := [(2, .int 4), (0, .ref 162), (1, .int (nI o))]) (st2 := [.ref 162, .int 6, .ref 162]) (h2 := h) (dc2 := 0) (ds2 := 0) 6 rfl ?_
            refine wq_getf rfl hM h35 rfl ?_
            refine wq_le2 rfl rfl (fun b90x => ?_) (fun b90x => ?_)
            · refine wq_gos (f := 1) (pc2 := 46) (ls2 := [(2, .int 4), (0, .ref 162), (1, .int (nI o))]) (st2 := [.ref 162, .ref 162]) (h2 := h) (dc2 := 0) (ds2 := 0) 1 rfl ?_
              refine wq_getf rfl hM h35 rfl ?_
              refine wq_putf rfl hM rfl (by rw [hC.1]; rfl) rfl ?_
              intro h91x e92x f93x l94x
              obtain ⟨fs95x, hf96x⟩ : ∃ x, x = fs.set 35 (.int wn) := ⟨_, rfl⟩
              rw [← hf96x] at e92x
              have hC97x : mC fs95x := by rw [hf96x]; exact mC_set hC (by decide) _
              have p98x : fs95x[34]? = some (.int (nI l.length)) := by rw [hf96x, List.getElem?_set_ne (by decide)]; exact h34
              have p99x : fs95x[35]? = some (.int wn) := by rw [hf96x]; exact List.getElem?_set_self (by rw [hC.1]; decide)
              refine wq_gos (f := 1) (pc2 := 70) (ls2 := [(2, .int 4), (0, .ref 162), (1, .int (nI o))]) (st2 := []) (h2 := h91x) (dc2 := 0) (ds2 := 0) 3 rfl ?_
              have e100x := (f93x.2 _ _ (wnc (by decide) wn0) hF)
              have hs : mCnt lo hi (some l) v0 v1 v2 v3 v4 v5 = some l := if_neg (fun q => by rw [q89x] at q; simp at q)
              rw [hs]
              exact wq_ret rfl rfl ⟨h91x, fs95x, _, wn, rfl, (wFr_sub f93x (by simp)), by omega, e92x, hC97x, p98x, p99x, e100x, hfd⟩
            · refine wq_gos (f := 1) (pc2 := 49) (ls2 := [(2, .int 4), (0, .ref 162), (1, .int (nI o))]) (st2 := [.int 6, .ref 162]) (h2 := h) (dc2 := 0) (ds2 := 0) 4 rfl ?_
              refine wq_putf rfl hM rfl (by rw [hC.1]; rfl) rfl ?_
              intro h101x e102x f103x l104x
              obtain ⟨fs105x, hf106x⟩ : ∃ x, x = fs.set 35 (.int 6) := ⟨_, rfl⟩
              rw [← hf106x] at e102x
              have hC107x : mC fs105x := by rw [hf106x]; exact mC_set hC (by decide) _
              have p108x : fs105x[34]? = some (.int (nI l.length)) := by rw [hf106x, List.getElem?_set_ne (by decide)]; exact h34
              have p109x : fs105x[35]? = some (.int 6) := by rw [hf106x]; exact List.getElem?_set_self (by rw [hC.1]; decide)
              refine wq_gos (f := 1) (pc2 := 70) (ls2 := [(2, .int 4), (0, .ref 162), (1, .int (nI o))]) (st2 := []) (h2 := h101x) (dc2 := 0) (ds2 := 0) 3 rfl ?_
              have e110x := (f103x.2 _ _ (wnc (by decide) wn0) hF)
              have hs : mCnt lo hi (some l) v0 v1 v2 v3 v4 v5 = some l := if_neg (fun q => by rw [q89x] at q; simp at q)
              rw [hs]
              exact wq_ret rfl rfl ⟨h101x, fs105x, _, (6 : Int32), rfl, (wFr_sub f103x (by simp)), by omega, e102x, hC107x, p108x, p109x, e110x, hfd⟩
          | true =>
            refine wq_inlv (y2 := 207) (as := [.int 4, .int v4]) rfl rfl rfl hM rfl (wq_T (show zT zg0 zF zP 207 0 [(0, .ref 162), (1, .int 4), (2, .int v4)] [] h 0 0 (some (.int 1), h, 0, 0) from by have q9 := c_within hM (hC.2 (3, 166) (by decide)) (hC.2 (4, 168) (by decide)) (hC.2 (5, 170) (by decide)) hK hO hG (j := (4 : Int32)) rfl v4; rw [q89x] at q9; exact q9) ?_)
            show wq 223 19 [(2, .int 4), (0, .ref 162), (1, .int (nI o))] [.int 1] h 0 0 _
            refine wq_gos (f := 1) (pc2 := 11) (ls2 := [(2, .int 5), (0, .ref 162), (1, .int (nI o))]) (st2 := [.ref 162, .int 5, .ref 162]) (h2 := h) (dc2 := 0) (ds2 := 0) 9 rfl ?_
            refine wq_getf rfl hM (hC.2 (38, 204) (by decide)) rfl ?_
            refine wq_gos (f := 1) (pc2 := 15) (ls2 := [(2, .int 5), (0, .ref 162), (1, .int (nI o))]) (st2 := [.int 5, .ref 204, .int 5, .ref 162]) (h2 := h) (dc2 := 0) (ds2 := 0) 1 rfl ?_
            refine wq_ialdk (k := 5) rfl hN rfl rfl rfl ?_
            refine wq_vi hv5 ?_
            cases q111x : jallow lo hi (5 : Int32) v5 with
            | false =>
              refine wq_inlv (y2 := 207) (as := [.int 5, .int v5]) rfl rfl rfl hM rfl (wq_T (show zT zg0 zF zP 207 0 [(0, .ref 162), (1, .int 5), (2, .int v5)] [] h 0 0 (some (.int 0), h, 0, 0) from by have q9 := c_within hM (hC.2 (3, 166) (by decide)) (hC.2 (4, 168) (by decide)) (hC.2 (5, 170) (by decide)) hK hO hG (j := (5 : Int32)) rfl v5; rw [q111x] at q9; exact q9) ?_)
              show wq 223 19 [(2, .int 5), (0, .ref 162), (1, .int (nI o))] [.int 0] h 0 0 _
              refine wq_gos (f := 1) (pc2 := 33) (ls2 := [(2, .int 5), (0, .ref 162), (1, .int (nI o))]) (st2 := [.ref 162, .int 7, .ref 162]) (h2 := h) (dc2 := 0) (ds2 := 0) 6 rfl ?_
              refine wq_getf rfl hM h35 rfl ?_
              refine wq_le2 rfl rfl (fun b112x => ?_) (fun b112x => ?_)
              · refine wq_gos (f := 1) (pc2 := 46) (ls2 := [(2, .int 5), (0, .ref 162), (1, .int (nI o))]) (st2 := [.ref 162, .ref 162]) (h2 := h) (dc2 := 0) (ds2 := 0) 1 rfl ?_
                refine wq_getf rfl hM h35 rfl ?_
                refine wq_putf rfl hM rfl (by rw [hC.1]; rfl) rfl ?_
                intro h113x e114x f115x l116x
                obtain ⟨fs117x, hf118x⟩ : ∃ x, x = fs.set 35 (.int wn) := ⟨_, rfl⟩
                rw [← hf118x] at e114x
                have hC119x : mC fs117x := by rw [hf118x]; exact mC_set hC (by decide) _
                have p120x : fs117x[34]? = some (.int (nI l.length)) := by rw [hf118x, List.getElem?_set_ne (by decide)]; exact h34
                have p121x : fs117x[35]? = some (.int wn) := by rw [hf118x]; exact List.getElem?_set_self (by rw [hC.1]; decide)
                refine wq_gos (f := 1) (pc2 := 70) (ls2 := [(2, .int 5), (0, .ref 162), (1, .int (nI o))]) (st2 := []) (h2 := h113x) (dc2 := 0) (ds2 := 0) 3 rfl ?_
                have e122x := (f115x.2 _ _ (wnc (by decide) wn0) hF)
                have hs : mCnt lo hi (some l) v0 v1 v2 v3 v4 v5 = some l := if_neg (fun q => by rw [q111x] at q; simp at q)
                rw [hs]
                exact wq_ret rfl rfl ⟨h113x, fs117x, _, wn, rfl, (wFr_sub f115x (by simp)), by omega, e114x, hC119x, p120x, p121x, e122x, hfd⟩
              · refine wq_gos (f := 1) (pc2 := 49) (ls2 := [(2, .int 5), (0, .ref 162), (1, .int (nI o))]) (st2 := [.int 7, .ref 162]) (h2 := h) (dc2 := 0) (ds2 := 0) 4 rfl ?_
                refine wq_putf rfl hM rfl (by rw [hC.1]; rfl) rfl ?_
                intro h123x e124x f125x l126x
                obtain ⟨fs127x, hf128x⟩ : ∃ x, x = fs.set 35 (.int 7) := ⟨_, rfl⟩
                rw [← hf128x] at e124x
                have hC129x : mC fs127x := by rw [hf128x]; exact mC_set hC (by decide) _
                have p130x : fs127x[34]? = some (.int (nI l.length)) := by rw [hf128x, List.getElem?_set_ne (by decide)]; exact h34
                have p131x : fs127x[35]? = some (.int 7) := by rw [hf128x]; exact List.getElem?_set_self (by rw [hC.1]; decide)
                refine wq_gos (f := 1) (pc2 := 70) (ls2 := [(2, .int 5), (0, .ref 162), (1, .int (nI o))]) (st2 := []) (h2 := h123x) (dc2 := 0) (ds2 := 0) 3 rfl ?_
                have e132x := (f125x.2 _ _ (wnc (by decide) wn0) hF)
                have hs : mCnt lo hi (some l) v0 v1 v2 v3 v4 v5 = some l := if_neg (fun q => by rw [q111x] at q; simp at q)
                rw [hs]
                exact wq_ret rfl rfl ⟨h123x, fs127x, _, (7 : Int32), rfl, (wFr_sub f125x (by simp)), by omega, e124x, hC129x, p130x, p131x, e132x, hfd⟩
            | true =>
              refine wq_inlv (y2 := 207) (as := [.int 5, .int v5]) rfl rfl rfl hM rfl (wq_T (show zT zg0 zF zP 207 0 [(0, .ref 162), (1, .int 5), (2, .int v5)] [] h 0 0 (some (.int 1), h, 0, 0) from by have q9 := c_within hM (hC.2 (3, 166) (by decide)) (hC.2 (4, 168) (by decide)) (hC.2 (5, 170) (by decide)) hK hO hG (j := (5 : Int32)) rfl v5; rw [q111x] at q9; exact q9) ?_)
              show wq 223 19 [(2, .int 5), (0, .ref 162), (1, .int (nI o))] [.int 1] h 0 0 _
              refine wq_gos (f := 1) (pc2 := 33) (ls2 := [(2, .int 6), (0, .ref 162), (1, .int (nI o))]) (st2 := [.ref 162, .int 8, .ref 162]) (h2 := h) (dc2 := 0) (ds2 := 0) 11 rfl ?_
              refine wq_getf rfl hM h35 rfl ?_
              refine wq_le2 rfl rfl (fun b133x => ?_) (fun b133x => ?_)
              · refine wq_gos (f := 1) (pc2 := 46) (ls2 := [(2, .int 6), (0, .ref 162), (1, .int (nI o))]) (st2 := [.ref 162, .ref 162]) (h2 := h) (dc2 := 0) (ds2 := 0) 1 rfl ?_
                refine wq_getf rfl hM h35 rfl ?_
                refine wq_putf rfl hM rfl (by rw [hC.1]; rfl) rfl ?_
                intro h134x e135x f136x l137x
                obtain ⟨fs138x, hf139x⟩ : ∃ x, x = fs.set 35 (.int wn) := ⟨_, rfl⟩
                rw [← hf139x] at e135x
                have hC140x : mC fs138x := by rw [hf139x]; exact mC_set hC (by decide) _
                have p141x : fs138x[34]? = some (.int (nI l.length)) := by rw [hf139x, List.getElem?_set_ne (by decide)]; exact h34
                have p142x : fs138x[35]? = some (.int wn) := by rw [hf139x]; exact List.getElem?_set_self (by rw [hC.1]; decide)
                refine wq_gos (f := 1) (pc2 := 61) (ls2 := [(2, .int 6), (0, .ref 162), (1, .int (nI o))]) (st2 := [.ref 162, .int (nI o), .ref 162]) (h2 := h134x) (dc2 := 0) (ds2 := 0) 6 rfl ?_
                refine wq_getf rfl e135x (hC140x.2 (38, 204) (by decide)) rfl ?_
                have e143x := (f136x.2 _ _ (wnc (by decide) wn0) hN)
                refine wq_inl (y2 := 219) (as := [.ref 204]) rfl rfl rfl (wq_T (show zT zg0 zF zP 219 0 [(0, .ref 204)] [] h134x 0 0 (some (.long (jpack v0 v1 v2 v3 v4 v5)), h134x, 0, 0) from by have q9 := m_packed e143x; rw [hv0, hv1, hv2, hv3, hv4, hv5] at q9; exact q9) ?_)
                show wq 223 67 [(2, .int 6), (0, .ref 162), (1, .int (nI o))] [.long (jpack v0 v1 v2 v3 v4 v5), .int (nI o), .ref 162] h134x 0 0 _
                have e144x := (f136x.2 _ _ (wnc (by decide) wn0) hF)
                refine wq_inlv (y2 := 222) (as := [.int (nI o), .long (jpack v0 v1 v2 v3 v4 v5)]) rfl rfl rfl e135x rfl (wq_mono (m_adds e135x hC140x p141x p142x e144x hfd ho (jpack v0 v1 v2 v3 v4 v5)) ?_)
                rintro _ ⟨h145x, fs146x, fo147x, rfl, f148x, l149x, e150x, e151x, e152x, e153x, e154x, e155x⟩
                show wq 223 70 [(2, .int 6), (0, .ref 162), (1, .int (nI o))] [] h145x 0 0 _
                have hs : mCnt lo hi (some l) v0 v1 v2 v3 v4 v5 = mAdd (some l) (jpack v0 v1 v2 v3 v4 v5) := if_pos ⟨q1x, q23x, q45x, q67x, q89x, q111x⟩
                rw [hs]
                exact wq_ret rfl rfl ⟨h145x, fs146x, _, wn, rfl, (wFr_tr (wFr_sub f136x (by simp)) (wFr_sub f148x (by simp))), by omega, e150x, e151x, e152x, e153x, e154x, e155x⟩
              · refine wq_gos (f := 1) (pc2 := 49) (ls2 := [(2, .int 6), (0, .ref 162), (1, .int (nI o))]) (st2 := [.int 8, .ref 162]) (h2 := h) (dc2 := 0) (ds2 := 0) 4 rfl ?_
                refine wq_putf rfl hM rfl (by rw [hC.1]; rfl) rfl ?_
                intro h156x e157x f158x l159x
                obtain ⟨fs160x, hf161x⟩ : ∃ x, x = fs.set 35 (.int 8) := ⟨_, rfl⟩
                rw [← hf161x] at e157x
                have hC162x : mC fs160x := by rw [hf161x]; exact mC_set hC (by decide) _
                have p163x : fs160x[34]? = some (.int (nI l.length)) := by rw [hf161x, List.getElem?_set_ne (by decide)]; exact h34
                have p164x : fs160x[35]? = some (.int 8) := by rw [hf161x]; exact List.getElem?_set_self (by rw [hC.1]; decide)
                refine wq_gos (f := 1) (pc2 := 61) (ls2 := [(2, .int 6), (0, .ref 162), (1, .int (nI o))]) (st2 := [.ref 162, .int (nI o), .ref 162]) (h2 := h156x) (dc2 := 0) (ds2 := 0) 6 rfl ?_
                refine wq_getf rfl e157x (hC162x.2 (38, 204) (by decide)) rfl ?_
                have e165x := (f158x.2 _ _ (wnc (by decide) wn0) hN)
                refine wq_inl (y2 := 219) (as := [.ref 204]) rfl rfl rfl (wq_T (show zT zg0 zF zP 219 0 [(0, .ref 204)] [] h156x 0 0 (some (.long (jpack v0 v1 v2 v3 v4 v5)), h156x, 0, 0) from by have q9 := m_packed e165x; rw [hv0, hv1, hv2, hv3, hv4, hv5] at q9; exact q9) ?_)
                show wq 223 67 [(2, .int 6), (0, .ref 162), (1, .int (nI o))] [.long (jpack v0 v1 v2 v3 v4 v5), .int (nI o), .ref 162] h156x 0 0 _
                have e166x := (f158x.2 _ _ (wnc (by decide) wn0) hF)
                refine wq_inlv (y2 := 222) (as := [.int (nI o), .long (jpack v0 v1 v2 v3 v4 v5)]) rfl rfl rfl e157x rfl (wq_mono (m_adds e157x hC162x p163x p164x e166x hfd ho (jpack v0 v1 v2 v3 v4 v5)) ?_)
                rintro _ ⟨h167x, fs168x, fo169x, rfl, f170x, l171x, e172x, e173x, e174x, e175x, e176x, e177x⟩
                show wq 223 70 [(2, .int 6), (0, .ref 162), (1, .int (nI o))] [] h167x 0 0 _
                have hs : mCnt lo hi (some l) v0 v1 v2 v3 v4 v5 = mAdd (some l) (jpack v0 v1 v2 v3 v4 v5) := if_pos ⟨q1x, q23x, q45x, q67x, q89x, q111x⟩
                rw [hs]
                exact wq_ret rfl rfl ⟨h167x, fs168x, _, (8 : Int32), rfl, (wFr_tr (wFr_sub f158x (by simp)) (wFr_sub f170x (by simp))), by omega, e172x, e173x, e174x, e175x, e176x, e177x⟩
def mR0 (ro : Int32) : Int32 := ((ro + 64) &&& 63) - 64
theorem mR0_rng (ro : Int32) : -64 ≤ (mR0 ro).toInt ∧ (mR0 ro).toInt ≤ -1 := by
  obtain ⟨j, hj, e⟩ := z64 (ro + 64)
  unfold mR0
  rw [e, Int32.toInt_sub, nI_toInt (by omega), show (64 : Int32).toInt = 64 from rfl, Int.bmod_eq_of_le (by omega) (by omega)]
  omega
theorem mNum_neg {s : mS} {o : Nat} {fo : List Int64} (hf : wFd o s fo) (h : (mNum s).toInt < 0) : s = none := by
  cases s with
  | none => rfl
  | some l =>
    exfalso
    have h1 : l.length ≤ 600 := hf.1
    have h2 : (nI l.length).toInt < 0 := h
    rw [nI_toInt (by omega)] at h2
    omega
theorem mNum_pos {s : mS} (h : 0 ≤ (mNum s).toInt) : ∃ l, s = some l := by
  cases s with
  | none => exact absurd h (by decide)
  | some l => exact ⟨l, rfl⟩
theorem mCnt_none (lo hi : List Int32) (a b c d e f : Int32) : mCnt lo hi none a b c d e f = none := by
  unfold mCnt
  split <;> rfl
def mLeft (k0 k1 : Int32) (pl : List Int32) (a b p t : Int32) : Int32 := (pl.getD 0 0) - ((jout k0 k1 a b p) * (jcos t))
def mHold (lo hi : List Int32) (k0 k1 : Int32) (pl : List Int32) (s : mS) (a b p t ro : Int32) : mS := if (jout k0 k1 a b p) * (jsin t) ≠ (pl.getD 1 0) then s else if mLeft k0 k1 pl a b p t - mLeft k0 k1 pl a b p t / 1000000 * 1000000 = 0 then mCnt lo hi (mCnt lo hi s (mLeft k0 k1 pl a b p t / 1000000) t a (b - a) (jw (p - b)) (mR0 ro)) (mLeft k0 k1 pl a b p t / 1000000) t a (b - a) (jw (p - b)) (mR0 ro + 64) else s
theorem mHold_none (lo hi : List Int32) (k0 k1 : Int32) (pl : List Int32) (a b p t ro : Int32) : mHold lo hi k0 k1 pl none a b p t ro = none := by
  unfold mHold
  split
  · rfl
  · split
    · rw [mCnt_none, mCnt_none]
    · rfl
set_option maxHeartbeats 8000000 in
theorem m_holds {h : zH} {fs : List Value} {kn lo hi : List Int32} {o rp : Nat} {wn : Int32} {fo l : List Int64} {on pl : List Int32} (hM : zat h 162 = some (.inr (.inr (.inr (10, fs))))) (hC : mC fs) (hK : zat h 166 = some (.inl (0, 14, kn))) (hO : zat h 168 = some (.inl (0, 12, lo))) (hG : zat h 170 = some (.inl (0, 12, hi))) (h34 : fs[34]? = some (.int (nI l.length))) (h35 : fs[35]? = some (.int wn)) (hF : zat h 196 = some (.inr (.inl (6000, fo)))) (hfd : wFd o (some l) fo) (ho : o ≤ 5400) (hN : zat h 204 = some (.inl (0, 6, on))) (hp : zat h rp = some (.inl (0, 6, pl))) (hrp : rp = 190 ∨ rp = 222) (a b p t ro : Int32) : wq 224 0 [(0, .ref 162), (1, .int (nI o)), (2, .ref rp), (3, .int a), (4, .int b), (5, .int p), (6, .int t), (7, .int ro)] [] h 0 0 (fun r => ∃ (h2 : zH) (fs2 : List Value) (fo2 : List Int64) (wn2 : Int32), r = (none, h2, 0, 0) ∧ wFr [162, 196, 204] h h2 ∧ h2.length = h.length ∧ zat h2 162 = some (.inr (.inr (.inr (10, fs2)))) ∧ mC fs2 ∧ fs2[34]? = some (.int (mNum (mHold lo hi (kn.getD 0 0) (kn.getD 1 0) pl (some l) a b p t ro))) ∧ fs2[35]? = some (.int wn2) ∧ zat h2 196 = some (.inr (.inl (6000, fo2))) ∧ wFd o (mHold lo hi (kn.getD 0 0) (kn.getD 1 0) pl (some l) a b p t ro) fo2 ∧ ∃ on2, zat h2 204 = some (.inl (0, 6, on2))) := by
  have q1 := mR0_rng ro
  have q2 : (mR0 ro + 64).toInt = (mR0 ro).toInt + 64 := by rw [Int32.toInt_add, show (64 : Int32).toInt = 64 from rfl, Int.bmod_eq_of_le (by omega) (by omega)]
  have q3 : (mR0 ro + 64 + 64).toInt = (mR0 ro).toInt + 128 := by rw [Int32.toInt_add, q2, show (64 : Int32).toInt = 64 from rfl, Int.bmod_eq_of_le (by omega) (by omega)]; omega
  have q64 : (64 : Int32).toInt = 64 := rfl
  have q5 := nI_toInt (n := l.length) (by have := hfd.1; omega)
  refine wq_gos (f := 1) (pc2 := 6) (ls2 := [(0, .ref 162), (1, .int (nI o)), (2, .ref rp), (3, .int a), (4, .int b), (5, .int p), (6, .int t), (7, .int ro)]) (st2 := [.int p, .int b, .int a, .ref 162]) (h2 := h) (dc2 := 0) (ds2 := 0) 4 rfl ?_
  refine wq_inlv (y2 := 197) (as := [.int a, .int b, .int p]) rfl rfl rfl hM rfl (wq_T (c_outBy hM (hC.2 (3, 166) (by decide)) (hC.2 (4, 168) (by decide)) (hC.2 (5, 170) (by decide)) hK hO hG a b p) ?_)
  show wq 224 9 [(0, .ref 162), (1, .int (nI o)), (2, .ref rp), (3, .int a), (4, .int b), (5, .int p), (6, .int t), (7, .int ro)] [.int (jout (kn.getD 0 0) (kn.getD 1 0) a b p)] h 0 0 _
  refine wq_gos (f := 1) (pc2 := 13) (ls2 := [(8, .int (jout (kn.getD 0 0) (kn.getD 1 0) a b p)), (0, .ref 162), (1, .int (nI o)), (2, .ref rp), (3, .int a), (4, .int b), (5, .int p), (6, .int t), (7, .int ro)]) (st2 := [.int 0, .ref rp]) (h2 := h) (dc2 := 0) (ds2 := 0) 3 rfl ?_
  refine wq_ialdk (k := 0) rfl hp rfl rfl rfl ?_
  refine wq_gos (f := 1) (pc2 := 18) (ls2 := [(8, .int (jout (kn.getD 0 0) (kn.getD 1 0) a b p)), (0, .ref 162), (1, .int (nI o)), (2, .ref rp), (3, .int a), (4, .int b), (5, .int p), (6, .int t), (7, .int ro)]) (st2 := [.int t, .int (jout (kn.getD 0 0) (kn.getD 1 0) a b p), .int (pl.getD 0 0)]) (h2 := h) (dc2 := 0) (ds2 := 0) 2 rfl ?_
  refine wq_inl (y2 := 195) (as := [.int t]) rfl rfl rfl (wq_T (m_cos t h) ?_)
  show wq 224 21 [(8, .int (jout (kn.getD 0 0) (kn.getD 1 0) a b p)), (0, .ref 162), (1, .int (nI o)), (2, .ref rp), (3, .int a), (4, .int b), (5, .int p), (6, .int t), (7, .int ro)] [.int (jcos t), .int (jout (kn.getD 0 0) (kn.getD 1 0) a b p), .int (pl.getD 0 0)] h 0 0 _
  refine wq_gos (f := 1) (pc2 := 29) (ls2 := [(9, .int ((pl.getD 0 0) - ((jout (kn.getD 0 0) (kn.getD 1 0) a b p) * (jcos t)))), (8, .int (jout (kn.getD 0 0) (kn.getD 1 0) a b p)), (0, .ref 162), (1, .int (nI o)), (2, .ref rp), (3, .int a), (4, .int b), (5, .int p), (6, .int t), (7, .int ro)]) (st2 := [.int t, .int (jout (kn.getD 0 0) (kn.getD 1 0) a b p)]) (h2 := h) (dc2 := 0) (ds2 := 0) 5 rfl ?_
  refine wq_inl (y2 := 196) (as := [.int t]) rfl rfl rfl (wq_T (m_sin t h) ?_)
  show wq 224 32 [(9, .int ((pl.getD 0 0) - ((jout (kn.getD 0 0) (kn.getD 1 0) a b p) * (jcos t)))), (8, .int (jout (kn.getD 0 0) (kn.getD 1 0) a b p)), (0, .ref 162), (1, .int (nI o)), (2, .ref rp), (3, .int a), (4, .int b), (5, .int p), (6, .int t), (7, .int ro)] [.int (jsin t), .int (jout (kn.getD 0 0) (kn.getD 1 0) a b p)] h 0 0 _
  refine wq_gos (f := 1) (pc2 := 35) (ls2 := [(9, .int ((pl.getD 0 0) - ((jout (kn.getD 0 0) (kn.getD 1 0) a b p) * (jcos t)))), (8, .int (jout (kn.getD 0 0) (kn.getD 1 0) a b p)), (0, .ref 162), (1, .int (nI o)), (2, .ref rp), (3, .int a), (4, .int b), (5, .int p), (6, .int t), (7, .int ro)]) (st2 := [.int 1, .ref rp, .int ((jout (kn.getD 0 0) (kn.getD 1 0) a b p) * (jsin t))]) (h2 := h) (dc2 := 0) (ds2 := 0) 3 rfl ?_
  refine wq_ialdk (k := 1) rfl hp rfl rfl rfl ?_
  refine wq_ne2 rfl rfl (fun b1x => ?_) (fun b1x => ?_)
  · have hs : (mHold lo hi (kn.getD 0 0) (kn.getD 1 0) pl (some l) a b p t ro) = some l := by unfold mHold mLeft; rw [if_pos b1x]
    rw [hs]
    exact wq_ret rfl rfl ⟨h, fs, _, wn, rfl, (wFr_rf _ _), by omega, hM, hC, h34, h35, hF, hfd, _, hN⟩
  · refine wq_gos (f := 1) (pc2 := 45) (ls2 := [(9, .int ((pl.getD 0 0) - ((jout (kn.getD 0 0) (kn.getD 1 0) a b p) * (jcos t)))), (8, .int (jout (kn.getD 0 0) (kn.getD 1 0) a b p)), (0, .ref 162), (1, .int (nI o)), (2, .ref rp), (3, .int a), (4, .int b), (5, .int p), (6, .int t), (7, .int ro)]) (st2 := [.int (((pl.getD 0 0) - ((jout (kn.getD 0 0) (kn.getD 1 0) a b p) * (jcos t))) - ((pl.getD 0 0) - ((jout (kn.getD 0 0) (kn.getD 1 0) a b p) * (jcos t))) / (1000000 : Int32) * (1000000 : Int32))]) (h2 := h) (dc2 := 0) (ds2 := 0) 3 rfl ?_
    refine wq_eq0 rfl rfl (fun b2x => ?_) (fun b2x => ?_)
    · refine wq_gos (f := 1) (pc2 := 50) (ls2 := [(9, .int ((pl.getD 0 0) - ((jout (kn.getD 0 0) (kn.getD 1 0) a b p) * (jcos t)))), (8, .int (jout (kn.getD 0 0) (kn.getD 1 0) a b p)), (0, .ref 162), (1, .int (nI o)), (2, .ref rp), (3, .int a), (4, .int b), (5, .int p), (6, .int t), (7, .int ro)]) (st2 := [.ref 162]) (h2 := h) (dc2 := 0) (ds2 := 0) 1 rfl ?_
      refine wq_getf rfl hM (hC.2 (38, 204) (by decide)) rfl ?_
      refine wq_gos (f := 1) (pc2 := 60) (ls2 := [(9, .int ((pl.getD 0 0) - ((jout (kn.getD 0 0) (kn.getD 1 0) a b p) * (jcos t)))), (8, .int (jout (kn.getD 0 0) (kn.getD 1 0) a b p)), (0, .ref 162), (1, .int (nI o)), (2, .ref rp), (3, .int a), (4, .int b), (5, .int p), (6, .int t), (7, .int ro)]) (st2 := [.int (((pl.getD 0 0) - ((jout (kn.getD 0 0) (kn.getD 1 0) a b p) * (jcos t))) / (1000000 : Int32)), .int 0, .ref 204]) (h2 := h) (dc2 := 0) (ds2 := 0) 4 rfl ?_
      refine wq_iast rfl hN rfl rfl ?_
      intro h3x e4x f5x l6x
      have e4x : zat h3x 204 = some (.inl (0, 6, (zset 0 on 0 (((pl.getD 0 0) - ((jout (kn.getD 0 0) (kn.getD 1 0) a b p) * (jcos t))) / (1000000 : Int32))))) := e4x
      refine wq_gos (f := 1) (pc2 := 62) (ls2 := [(9, .int ((pl.getD 0 0) - ((jout (kn.getD 0 0) (kn.getD 1 0) a b p) * (jcos t)))), (8, .int (jout (kn.getD 0 0) (kn.getD 1 0) a b p)), (0, .ref 162), (1, .int (nI o)), (2, .ref rp), (3, .int a), (4, .int b), (5, .int p), (6, .int t), (7, .int ro)]) (st2 := [.ref 162]) (h2 := h3x) (dc2 := 0) (ds2 := 0) 1 rfl ?_
      have e7x := (f5x.2 _ _ (wnc (by decide) wn0) hM)
      refine wq_getf rfl e7x (hC.2 (38, 204) (by decide)) rfl ?_
      refine wq_gos (f := 1) (pc2 := 68) (ls2 := [(9, .int ((pl.getD 0 0) - ((jout (kn.getD 0 0) (kn.getD 1 0) a b p) * (jcos t)))), (8, .int (jout (kn.getD 0 0) (kn.getD 1 0) a b p)), (0, .ref 162), (1, .int (nI o)), (2, .ref rp), (3, .int a), (4, .int b), (5, .int p), (6, .int t), (7, .int ro)]) (st2 := [.int t, .int 1, .ref 204]) (h2 := h3x) (dc2 := 0) (ds2 := 0) 2 rfl ?_
      refine wq_iast rfl e4x rfl rfl ?_
      intro h8x e9x f10x l11x
      have e9x : zat h8x 204 = some (.inl (0, 6, (zset 0 (zset 0 on 0 (((pl.getD 0 0) - ((jout (kn.getD 0 0) (kn.getD 1 0) a b p) * (jcos t))) / (1000000 : Int32))) 1 t))) := e9x
      refine wq_gos (f := 1) (pc2 := 70) (ls2 := [(9, .int ((pl.getD 0 0) - ((jout (kn.getD 0 0) (kn.getD 1 0) a b p) * (jcos t)))), (8, .int (jout (kn.getD 0 0) (kn.getD 1 0) a b p)), (0, .ref 162), (1, .int (nI o)), (2, .ref rp), (3, .int a), (4, .int b), (5, .int p), (6, .int t), (7, .int ro)]) (st2 := [.ref 162]) (h2 := h8x) (dc2 := 0) (ds2 := 0) 1 rfl ?_
      have e12x := (f10x.2 _ _ (wnc (by decide) wn0) e7x)
      refine wq_getf rfl e12x (hC.2 (38, 204) (by decide)) rfl ?_
      refine wq_gos (f := 1) (pc2 := 75) (ls2 := [(9, .int ((pl.getD 0 0) - ((jout (kn.getD 0 0) (kn.getD 1 0) a b p) * (jcos t)))), (8, .int (jout (kn.getD 0 0) (kn.getD 1 0) a b p)), (0, .ref 162), (1, .int (nI o)), (2, .ref rp), (3, .int a), (4, .int b), (5, .int p), (6, .int t), (7, .int ro)]) (st2 := [.int a, .int 2, .ref 204]) (h2 := h8x) (dc2 := 0) (ds2 := 0) 2 rfl ?_
      refine wq_iast rfl e9x rfl rfl ?_
      intro h13x e14x f15x l16x
      have e14x : zat h13x 204 = some (.inl (0, 6, (zset 0 (zset 0 (zset 0 on 0 (((pl.getD 0 0) - ((jout (kn.getD 0 0) (kn.getD 1 0) a b p) * (jcos t))) / (1000000 : Int32))) 1 t) 2 a))) := e14x
      refine wq_gos (f := 1) (pc2 := 77) (ls2 := [(9, .int ((pl.getD 0 0) - ((jout (kn.getD 0 0) (kn.getD 1 0) a b p) * (jcos t)))), (8, .int (jout (kn.getD 0 0) (kn.getD 1 0) a b p)), (0, .ref 162), (1, .int (nI o)), (2, .ref rp), (3, .int a), (4, .int b), (5, .int p), (6, .int t), (7, .int ro)]) (st2 := [.ref 162]) (h2 := h13x) (dc2 := 0) (ds2 := 0) 1 rfl ?_
      have e17x := (f15x.2 _ _ (wnc (by decide) wn0) e12x)
      refine wq_getf rfl e17x (hC.2 (38, 204) (by decide)) rfl ?_
      refine wq_gos (f := 1) (pc2 := 85) (ls2 := [(9, .int ((pl.getD 0 0) - ((jout (kn.getD 0 0) (kn.getD 1 0) a b p) * (jcos t)))), (8, .int (jout (kn.getD 0 0) (kn.getD 1 0) a b p)), (0, .ref 162), (1, .int (nI o)), (2, .ref rp), (3, .int a), (4, .int b), (5, .int p), (6, .int t), (7, .int ro)]) (st2 := [.int (b - a), .int 3, .ref 204]) (h2 := h13x) (dc2 := 0) (ds2 := 0) 4 rfl ?_
      refine wq_iast rfl e14x rfl rfl ?_
      intro h18x e19x f20x l21x
      have e19x : zat h18x 204 = some (.inl (0, 6, (zset 0 (zset 0 (zset 0 (zset 0 on 0 (((pl.getD 0 0) - ((jout (kn.getD 0 0) (kn.getD 1 0) a b p) * (jcos t))) / (1000000 : Int32))) 1 t) 2 a) 3 (b - a)))) := e19x
      refine wq_gos (f := 1) (pc2 := 87) (ls2 := [(9, .int ((pl.getD 0 0) - ((jout (kn.getD 0 0) (kn.getD 1 0) a b p) * (jcos t)))), (8, .int (jout (kn.getD 0 0) (kn.getD 1 0) a b p)), (0, .ref 162), (1, .int (nI o)), (2, .ref rp), (3, .int a), (4, .int b), (5, .int p), (6, .int t), (7, .int ro)]) (st2 := [.ref 162]) (h2 := h18x) (dc2 := 0) (ds2 := 0) 1 rfl ?_
      have e22x := (f20x.2 _ _ (wnc (by decide) wn0) e17x)
      refine wq_getf rfl e22x (hC.2 (38, 204) (by decide)) rfl ?_
      refine wq_gos (f := 1) (pc2 := 105) (ls2 := [(9, .int ((pl.getD 0 0) - ((jout (kn.getD 0 0) (kn.getD 1 0) a b p) * (jcos t)))), (8, .int (jout (kn.getD 0 0) (kn.getD 1 0) a b p)), (0, .ref 162), (1, .int (nI o)), (2, .ref rp), (3, .int a), (4, .int b), (5, .int p), (6, .int t), (7, .int ro)]) (st2 := [.int ((((p - b) + (32 : Int32)) &&& (63 : Int32)) - (32 : Int32)), .int 4, .ref 204]) (h2 := h18x) (dc2 := 0) (ds2 := 0) 10 rfl ?_
      refine wq_iast rfl e19x rfl rfl ?_
      intro h23x e24x f25x l26x
      have e24x : zat h23x 204 = some (.inl (0, 6, (zset 0 (zset 0 (zset 0 (zset 0 (zset 0 on 0 (((pl.getD 0 0) - ((jout (kn.getD 0 0) (kn.getD 1 0) a b p) * (jcos t))) / (1000000 : Int32))) 1 t) 2 a) 3 (b - a)) 4 ((((p - b) + (32 : Int32)) &&& (63 : Int32)) - (32 : Int32))))) := e24x
      refine wq_gos (f := 1) (pc2 := 119) (ls2 := [(10, .int (((ro + (64 : Int32)) &&& (63 : Int32)) - (64 : Int32))), (9, .int ((pl.getD 0 0) - ((jout (kn.getD 0 0) (kn.getD 1 0) a b p) * (jcos t)))), (8, .int (jout (kn.getD 0 0) (kn.getD 1 0) a b p)), (0, .ref 162), (1, .int (nI o)), (2, .ref rp), (3, .int a), (4, .int b), (5, .int p), (6, .int t), (7, .int ro)]) (st2 := []) (h2 := h23x) (dc2 := 0) (ds2 := 0) 8 rfl ?_
      show wq 224 119 [(10, .int (mR0 ro)), (9, .int ((pl.getD 0 0) - ((jout (kn.getD 0 0) (kn.getD 1 0) a b p) * (jcos t)))), (8, .int (jout (kn.getD 0 0) (kn.getD 1 0) a b p)), (0, .ref 162), (1, .int (nI o)), (2, .ref rp), (3, .int a), (4, .int b), (5, .int p), (6, .int t), (7, .int ro)] [] h23x 0 0 _
      refine wq_gos (f := 1) (pc2 := 123) (ls2 := [(10, .int (mR0 ro)), (9, .int ((pl.getD 0 0) - ((jout (kn.getD 0 0) (kn.getD 1 0) a b p) * (jcos t)))), (8, .int (jout (kn.getD 0 0) (kn.getD 1 0) a b p)), (0, .ref 162), (1, .int (nI o)), (2, .ref rp), (3, .int a), (4, .int b), (5, .int p), (6, .int t), (7, .int ro)]) (st2 := [.int 64, .int (mR0 ro)]) (h2 := h23x) (dc2 := 0) (ds2 := 0) 2 rfl ?_
      refine wq_ge2f rfl rfl (by omega) ?_
      refine wq_gos (f := 1) (pc2 := 127) (ls2 := [(10, .int (mR0 ro)), (9, .int ((pl.getD 0 0) - ((jout (kn.getD 0 0) (kn.getD 1 0) a b p) * (jcos t)))), (8, .int (jout (kn.getD 0 0) (kn.getD 1 0) a b p)), (0, .ref 162), (1, .int (nI o)), (2, .ref rp), (3, .int a), (4, .int b), (5, .int p), (6, .int t), (7, .int ro)]) (st2 := [.ref 162]) (h2 := h23x) (dc2 := 0) (ds2 := 0) 1 rfl ?_
      have e27x := (f25x.2 _ _ (wnc (by decide) wn0) e22x)
      refine wq_getf rfl e27x h34 rfl ?_
      refine wq_lt0f rfl rfl (by omega) ?_
      refine wq_gos (f := 1) (pc2 := 134) (ls2 := [(10, .int (mR0 ro)), (9, .int ((pl.getD 0 0) - ((jout (kn.getD 0 0) (kn.getD 1 0) a b p) * (jcos t)))), (8, .int (jout (kn.getD 0 0) (kn.getD 1 0) a b p)), (0, .ref 162), (1, .int (nI o)), (2, .ref rp), (3, .int a), (4, .int b), (5, .int p), (6, .int t), (7, .int ro)]) (st2 := [.ref 162]) (h2 := h23x) (dc2 := 0) (ds2 := 0) 1 rfl ?_
      refine wq_getf rfl e27x (hC.2 (38, 204) (by decide)) rfl ?_
      refine wq_gos (f := 1) (pc2 := 140) (ls2 := [(10, .int (mR0 ro)), (9, .int ((pl.getD 0 0) - ((jout (kn.getD 0 0) (kn.getD 1 0) a b p) * (jcos t)))), (8, .int (jout (kn.getD 0 0) (kn.getD 1 0) a b p)), (0, .ref 162), (1, .int (nI o)), (2, .ref rp), (3, .int a), (4, .int b), (5, .int p), (6, .int t), (7, .int ro)]) (st2 := [.int (mR0 ro), .int 5, .ref 204]) (h2 := h23x) (dc2 := 0) (ds2 := 0) 2 rfl ?_
      refine wq_iast rfl e24x rfl rfl ?_
      intro h28x e29x f30x l31x
      have e29x : zat h28x 204 = some (.inl (0, 6, (zset 0 (zset 0 (zset 0 (zset 0 (zset 0 (zset 0 on 0 (((pl.getD 0 0) - ((jout (kn.getD 0 0) (kn.getD 1 0) a b p) * (jcos t))) / (1000000 : Int32))) 1 t) 2 a) 3 (b - a)) 4 ((((p - b) + (32 : Int32)) &&& (63 : Int32)) - (32 : Int32))) 5 (mR0 ro)))) := e29x
      refine wq_gos (f := 1) (pc2 := 143) (ls2 := [(10, .int (mR0 ro)), (9, .int ((pl.getD 0 0) - ((jout (kn.getD 0 0) (kn.getD 1 0) a b p) * (jcos t)))), (8, .int (jout (kn.getD 0 0) (kn.getD 1 0) a b p)), (0, .ref 162), (1, .int (nI o)), (2, .ref rp), (3, .int a), (4, .int b), (5, .int p), (6, .int t), (7, .int ro)]) (st2 := [.int (nI o), .ref 162]) (h2 := h28x) (dc2 := 0) (ds2 := 0) 2 rfl ?_
      have e32x := (f30x.2 _ _ (wnc (by decide) wn0) e27x)
      have e33x := (f30x.2 _ _ (wnc (by decide) wn0) (f25x.2 _ _ (wnc (by decide) wn0) (f20x.2 _ _ (wnc (by decide) wn0) (f15x.2 _ _ (wnc (by decide) wn0) (f10x.2 _ _ (wnc (by decide) wn0) (f5x.2 _ _ (wnc (by decide) wn0) hK))))))
      have e34x := (f30x.2 _ _ (wnc (by decide) wn0) (f25x.2 _ _ (wnc (by decide) wn0) (f20x.2 _ _ (wnc (by decide) wn0) (f15x.2 _ _ (wnc (by decide) wn0) (f10x.2 _ _ (wnc (by decide) wn0) (f5x.2 _ _ (wnc (by decide) wn0) hO))))))
      have e35x := (f30x.2 _ _ (wnc (by decide) wn0) (f25x.2 _ _ (wnc (by decide) wn0) (f20x.2 _ _ (wnc (by decide) wn0) (f15x.2 _ _ (wnc (by decide) wn0) (f10x.2 _ _ (wnc (by decide) wn0) (f5x.2 _ _ (wnc (by decide) wn0) hG))))))
      have e36x := (f30x.2 _ _ (wnc (by decide) wn0) (f25x.2 _ _ (wnc (by decide) wn0) (f20x.2 _ _ (wnc (by decide) wn0) (f15x.2 _ _ (wnc (by decide) wn0) (f10x.2 _ _ (wnc (by decide) wn0) (f5x.2 _ _ (wnc (by decide) wn0) hF))))))
      refine wq_inlv (y2 := 223) (as := [.int (nI o)]) rfl rfl rfl e32x rfl (wq_mono (m_counts (l := l) (v0 := mLeft (kn.getD 0 0) (kn.getD 1 0) pl a b p t / 1000000) (v1 := t) (v2 := a) (v3 := b - a) (v4 := jw (p - b)) (v5 := (mR0 ro)) e32x hC e33x e34x e35x h34 h35 e36x hfd ho e29x (by simp only [zset_get]; rfl) (by simp only [zset_get]; rfl) (by simp only [zset_get]; rfl) (by simp only [zset_get]; rfl) (by simp only [zset_get]; rfl) (by simp only [zset_get]; rfl)) ?_)
      rintro _ ⟨h37x, fs38x, fo39x, wn40x, rfl, f41x, l42x, e43x, e44x, e45x, e46x, e47x, e48x⟩
      show wq 224 146 [(10, .int (mR0 ro)), (9, .int ((pl.getD 0 0) - ((jout (kn.getD 0 0) (kn.getD 1 0) a b p) * (jcos t)))), (8, .int (jout (kn.getD 0 0) (kn.getD 1 0) a b p)), (0, .ref 162), (1, .int (nI o)), (2, .ref rp), (3, .int a), (4, .int b), (5, .int p), (6, .int t), (7, .int ro)] [] h37x 0 0 _
      refine wq_gos (f := 1) (pc2 := 123) (ls2 := [(10, .int ((mR0 ro) + 64)), (9, .int ((pl.getD 0 0) - ((jout (kn.getD 0 0) (kn.getD 1 0) a b p) * (jcos t)))), (8, .int (jout (kn.getD 0 0) (kn.getD 1 0) a b p)), (0, .ref 162), (1, .int (nI o)), (2, .ref rp), (3, .int a), (4, .int b), (5, .int p), (6, .int t), (7, .int ro)]) (st2 := [.int 64, .int ((mR0 ro) + 64)]) (h2 := h37x) (dc2 := 0) (ds2 := 0) 4 rfl ?_
      refine wq_ge2f rfl rfl (by omega) ?_
      refine wq_gos (f := 1) (pc2 := 127) (ls2 := [(10, .int ((mR0 ro) + 64)), (9, .int ((pl.getD 0 0) - ((jout (kn.getD 0 0) (kn.getD 1 0) a b p) * (jcos t)))), (8, .int (jout (kn.getD 0 0) (kn.getD 1 0) a b p)), (0, .ref 162), (1, .int (nI o)), (2, .ref rp), (3, .int a), (4, .int b), (5, .int p), (6, .int t), (7, .int ro)]) (st2 := [.ref 162]) (h2 := h37x) (dc2 := 0) (ds2 := 0) 1 rfl ?_
      refine wq_getf rfl e43x e45x rfl ?_
      refine wq_lt0 rfl rfl (fun b49x => ?_) (fun b49x => ?_)
      · have e50x := (f41x.2 _ _ (wnc (by decide) (wnc (by decide) wn0)) e29x)
        have hs0 : (mHold lo hi (kn.getD 0 0) (kn.getD 1 0) pl (some l) a b p t ro) = mCnt lo hi (mCnt lo hi (some l) (mLeft (kn.getD 0 0) (kn.getD 1 0) pl a b p t / 1000000) t a (b - a) (jw (p - b)) (mR0 ro)) (mLeft (kn.getD 0 0) (kn.getD 1 0) pl a b p t / 1000000) t a (b - a) (jw (p - b)) (mR0 ro + 64) := by unfold mHold mLeft; rw [if_neg (fun q => q b1x), if_pos b2x]
        have hn := mNum_neg e48x b49x
        have hs : (mHold lo hi (kn.getD 0 0) (kn.getD 1 0) pl (some l) a b p t ro) = mCnt lo hi (some l) (mLeft (kn.getD 0 0) (kn.getD 1 0) pl a b p t / 1000000) t a (b - a) (jw (p - b)) (mR0 ro) := by rw [hs0, hn, mCnt_none]
        rw [hs]
        exact wq_ret rfl rfl ⟨h37x, fs38x, _, wn40x, rfl, (wFr_tr (wFr_sub f5x (by simp)) (wFr_tr (wFr_sub f10x (by simp)) (wFr_tr (wFr_sub f15x (by simp)) (wFr_tr (wFr_sub f20x (by simp)) (wFr_tr (wFr_sub f25x (by simp)) (wFr_tr (wFr_sub f30x (by simp)) (wFr_sub f41x (by simp)))))))), by omega, e43x, e44x, e45x, e46x, e47x, e48x, _, e50x⟩
      · obtain ⟨l51x, hl52x⟩ := mNum_pos b49x
        have p53x := e45x
        have d54x := e48x
        rw [hl52x] at p53x d54x
        refine wq_gos (f := 1) (pc2 := 134) (ls2 := [(10, .int ((mR0 ro) + 64)), (9, .int ((pl.getD 0 0) - ((jout (kn.getD 0 0) (kn.getD 1 0) a b p) * (jcos t)))), (8, .int (jout (kn.getD 0 0) (kn.getD 1 0) a b p)), (0, .ref 162), (1, .int (nI o)), (2, .ref rp), (3, .int a), (4, .int b), (5, .int p), (6, .int t), (7, .int ro)]) (st2 := [.ref 162]) (h2 := h37x) (dc2 := 0) (ds2 := 0) 1 rfl ?_
        refine wq_getf rfl e43x (e44x.2 (38, 204) (by decide)) rfl ?_
        refine wq_gos (f := 1) (pc2 := 140) (ls2 := [(10, .int ((mR0 ro) + 64)), (9, .int ((pl.getD 0 0) - ((jout (kn.getD 0 0) (kn.getD 1 0) a b p) * (jcos t)))), (8, .int (jout (kn.getD 0 0) (kn.getD 1 0) a b p)), (0, .ref 162), (1, .int (nI o)), (2, .ref rp), (3, .int a), (4, .int b), (5, .int p), (6, .int t), (7, .int ro)]) (st2 := [.int ((mR0 ro) + 64), .int 5, .ref 204]) (h2 := h37x) (dc2 := 0) (ds2 := 0) 2 rfl ?_
        have e55x := (f41x.2 _ _ (wnc (by decide) (wnc (by decide) wn0)) e29x)
        refine wq_iast rfl e55x rfl rfl ?_
        intro h56x e57x f58x l59x
        have e57x : zat h56x 204 = some (.inl (0, 6, (zset 0 (zset 0 (zset 0 (zset 0 (zset 0 (zset 0 (zset 0 on 0 (((pl.getD 0 0) - ((jout (kn.getD 0 0) (kn.getD 1 0) a b p) * (jcos t))) / (1000000 : Int32))) 1 t) 2 a) 3 (b - a)) 4 ((((p - b) + (32 : Int32)) &&& (63 : Int32)) - (32 : Int32))) 5 (mR0 ro)) 5 ((mR0 ro) + 64)))) := e57x
        refine wq_gos (f := 1) (pc2 := 143) (ls2 := [(10, .int ((mR0 ro) + 64)), (9, .int ((pl.getD 0 0) - ((jout (kn.getD 0 0) (kn.getD 1 0) a b p) * (jcos t)))), (8, .int (jout (kn.getD 0 0) (kn.getD 1 0) a b p)), (0, .ref 162), (1, .int (nI o)), (2, .ref rp), (3, .int a), (4, .int b), (5, .int p), (6, .int t), (7, .int ro)]) (st2 := [.int (nI o), .ref 162]) (h2 := h56x) (dc2 := 0) (ds2 := 0) 2 rfl ?_
        have e60x := (f58x.2 _ _ (wnc (by decide) wn0) e43x)
        have e61x := (f58x.2 _ _ (wnc (by decide) wn0) (f41x.2 _ _ (wnc (by decide) (wnc (by decide) wn0)) e33x))
        have e62x := (f58x.2 _ _ (wnc (by decide) wn0) (f41x.2 _ _ (wnc (by decide) (wnc (by decide) wn0)) e34x))
        have e63x := (f58x.2 _ _ (wnc (by decide) wn0) (f41x.2 _ _ (wnc (by decide) (wnc (by decide) wn0)) e35x))
        have e64x := (f58x.2 _ _ (wnc (by decide) wn0) e47x)
        refine wq_inlv (y2 := 223) (as := [.int (nI o)]) rfl rfl rfl e60x rfl (wq_mono (m_counts (l := l51x) (v0 := mLeft (kn.getD 0 0) (kn.getD 1 0) pl a b p t / 1000000) (v1 := t) (v2 := a) (v3 := b - a) (v4 := jw (p - b)) (v5 := (mR0 ro + 64)) e60x e44x e61x e62x e63x p53x e46x e64x d54x ho e57x (by simp only [zset_get]; rfl) (by simp only [zset_get]; rfl) (by simp only [zset_get]; rfl) (by simp only [zset_get]; rfl) (by simp only [zset_get]; rfl) (by simp only [zset_get]; rfl)) ?_)
        rintro _ ⟨h65x, fs66x, fo67x, wn68x, rfl, f69x, l70x, e71x, e72x, e73x, e74x, e75x, e76x⟩
        show wq 224 146 [(10, .int ((mR0 ro) + 64)), (9, .int ((pl.getD 0 0) - ((jout (kn.getD 0 0) (kn.getD 1 0) a b p) * (jcos t)))), (8, .int (jout (kn.getD 0 0) (kn.getD 1 0) a b p)), (0, .ref 162), (1, .int (nI o)), (2, .ref rp), (3, .int a), (4, .int b), (5, .int p), (6, .int t), (7, .int ro)] [] h65x 0 0 _
        refine wq_gos (f := 1) (pc2 := 123) (ls2 := [(10, .int (((mR0 ro) + 64) + 64)), (9, .int ((pl.getD 0 0) - ((jout (kn.getD 0 0) (kn.getD 1 0) a b p) * (jcos t)))), (8, .int (jout (kn.getD 0 0) (kn.getD 1 0) a b p)), (0, .ref 162), (1, .int (nI o)), (2, .ref rp), (3, .int a), (4, .int b), (5, .int p), (6, .int t), (7, .int ro)]) (st2 := [.int 64, .int (((mR0 ro) + 64) + 64)]) (h2 := h65x) (dc2 := 0) (ds2 := 0) 4 rfl ?_
        refine wq_ge2t rfl (by omega) ?_
        have e77x := (f69x.2 _ _ (wnc (by decide) (wnc (by decide) wn0)) e57x)
        have hs0 : (mHold lo hi (kn.getD 0 0) (kn.getD 1 0) pl (some l) a b p t ro) = mCnt lo hi (mCnt lo hi (some l) (mLeft (kn.getD 0 0) (kn.getD 1 0) pl a b p t / 1000000) t a (b - a) (jw (p - b)) (mR0 ro)) (mLeft (kn.getD 0 0) (kn.getD 1 0) pl a b p t / 1000000) t a (b - a) (jw (p - b)) (mR0 ro + 64) := by unfold mHold mLeft; rw [if_neg (fun q => q b1x), if_pos b2x]
        have hs : (mHold lo hi (kn.getD 0 0) (kn.getD 1 0) pl (some l) a b p t ro) = mCnt lo hi (some l51x) (mLeft (kn.getD 0 0) (kn.getD 1 0) pl a b p t / 1000000) t a (b - a) (jw (p - b)) (mR0 ro + 64) := by rw [hs0, hl52x]
        rw [hs]
        exact wq_ret rfl rfl ⟨h65x, fs66x, _, wn68x, rfl, (wFr_tr (wFr_sub f5x (by simp)) (wFr_tr (wFr_sub f10x (by simp)) (wFr_tr (wFr_sub f15x (by simp)) (wFr_tr (wFr_sub f20x (by simp)) (wFr_tr (wFr_sub f25x (by simp)) (wFr_tr (wFr_sub f30x (by simp)) (wFr_tr (wFr_sub f41x (by simp)) (wFr_tr (wFr_sub f58x (by simp)) (wFr_sub f69x (by simp)))))))))), by omega, e71x, e72x, e73x, e74x, e75x, e76x, _, e77x⟩
    · have hs : (mHold lo hi (kn.getD 0 0) (kn.getD 1 0) pl (some l) a b p t ro) = some l := by unfold mHold mLeft; rw [if_neg (fun q => q b1x), if_neg b2x]
      rw [hs]
      exact wq_ret rfl rfl ⟨h, fs, _, wn, rfl, (wFr_rf _ _), by omega, hM, hC, h34, h35, hF, hfd, _, hN⟩
