/-! The class: plan. -/
set_option maxRecDepth 100000 in
set_option maxHeartbeats 4000000 in
theorem c_pwL {h : zH} {ra rp rs : Nat} {wg ob al9 pr9 sr9 fw : Int32} (hP : zat h 74 = some (.inr (.inr (.inr (3, [.ref 44, .ref ra, .ref 76, .ref 78, .ref 80, .ref 88, .int wg, .int ob, .ref 96, .int al9, .int pr9, .int sr9, .ref rp, .ref rs, .int fw]))))) (hw : wg ≠ 0) : wq 28 0 [(0, .ref 74)] [] h 0 0 (fun rr9 => rr9 = (none, h, 0, 0)) := by
  refine wq_gos (f := 1) (pc2 := 1) (ls2 := [(0, .ref 74)]) (st2 := [.ref 74]) (h2 := h) (dc2 := 0) (ds2 := 0) 1 rfl ?_
  refine wq_getf rfl hP rfl rfl ?_
  refine wq_eq0f rfl rfl hw ?_
  exact wq_ret rfl rfl rfl
theorem c_rtb2 {h : zH} {rr rS N : Nat} {kn : Int32} {fr : Int64} {stp : List Int64} {T9 w9 : Int32} {p : Int64} (hR : zat h rr = some (.inr (.inr (.inr (6, [.int kn, .long fr, .int T9, .ref (rr + 2), .ref (rr + 4), .ref rS]))))) (hS : zat h rS = some (.inr (.inl (N, stp)))) (hN : 1 ≤ N ∧ N ≤ 20000 ∧ rS ≠ rr) : wq 68 0 [(0, .ref rr), (1, .long p), (3, .int w9)] [] h 0 0 (fun rr9 => ∃ (h2 : zH), rr9 = (none, h2, 0, 0) ∧ wFr [rr, rS] h h2 ∧ h2.length = h.length ∧ zat h2 rr = some (.inr (.inr (.inr (6, [.int 1, .long p, .int w9, .ref (rr + 2), .ref (rr + 4), .ref rS])))) ∧ zat h2 rS = some (.inr (.inl (N, (zset 0 stp 0 p))))) := c_rtb (T := 0) hR hS hN
set_option maxRecDepth 100000 in
set_option maxHeartbeats 4000000 in
theorem c_pwA0 {h : zH} {Q : zR → Prop} {ra rp rs rS : Nat} {wg ob al9 pr9 sr9 fw kn9 T9 : Int32} {fr9 nw : Int64} (hP : zat h 74 = some (.inr (.inr (.inr (3, [.ref 44, .ref ra, .ref 76, .ref 78, .ref 80, .ref 88, .int wg, .int ob, .ref 96, .int al9, .int pr9, .int sr9, .ref rp, .ref rs, .int fw]))))) (hR : zat h 80 = some (.inr (.inr (.inr (6, [.int kn9, .long fr9, .int T9, .ref 82, .ref 84, .ref rS])))))  (kR : (kn9 ≠ 0) → Q (some (.ref 80), h, 0, 0)) (kL : wq 27 35 [(0, .ref 74), (1, .long nw), (3, .int 0), (4, .ref 80)] [] h 0 0 Q) : wq 27 0 [(0, .ref 74), (1, .long nw), (3, .int 0)] [] h 0 0 Q := by
  refine wq_gos (f := 1) (pc2 := 12) (ls2 := [(0, .ref 74), (1, .long nw), (3, .int 0)]) (st2 := [.ref 74]) (h2 := h) (dc2 := 0) (ds2 := 0) 3 rfl ?_
  refine wq_getf rfl hP rfl rfl ?_
  refine wq_gos (f := 1) (pc2 := 19) (ls2 := [(4, .ref 80), (0, .ref 74), (1, .long nw), (3, .int 0)]) (st2 := [.ref 80]) (h2 := h) (dc2 := 0) (ds2 := 0) 2 rfl ?_
  refine wq_getf rfl hR rfl rfl ?_
  refine wq_eq0 rfl rfl (fun b1x => ?_) (fun b1x => ?_)
  · have q2x : kn9.toInt = 0 := congrArg Int32.toInt b1x
    refine wq_ls [(0, .ref 74), (1, .long nw), (3, .int 0), (4, .ref 80)] (show ([0, 1, 3, 4] : List Nat).Nodup by decide) ⟨rfl, rfl, rfl, rfl, trivial⟩ ?_
    exact kL 
  · have q3x : kn9.toInt ≠ 0 := fun q => b1x (Int32.toInt_inj.mp q)
    refine wq_gos (f := 1) (pc2 := 27) (ls2 := [(4, .ref 80), (0, .ref 74), (1, .long nw), (3, .int 0)]) (st2 := [.ref 80]) (h2 := h) (dc2 := 0) (ds2 := 0) 1 rfl ?_
    refine wq_getf rfl hR rfl rfl ?_
    refine wq_gos (f := 1) (pc2 := 32) (ls2 := [(4, .ref 80), (0, .ref 74), (1, .long nw), (3, .int 0)]) (st2 := [.int (lg_cmp fr9 nw)]) (h2 := h) (dc2 := 0) (ds2 := 0) 2 rfl ?_
    refine wq_eq0 rfl rfl (fun b4x => ?_) (fun b4x => ?_)
    · have q5x : (lg_cmp fr9 nw).toInt = 0 := congrArg Int32.toInt b4x
      refine wq_gos (f := 1) (pc2 := 75) (ls2 := [(4, .ref 80), (0, .ref 74), (1, .long nw), (3, .int 0)]) (st2 := [.ref 80]) (h2 := h) (dc2 := 0) (ds2 := 0) 1 rfl ?_
      exact wq_ret rfl rfl (kR (by first | assumption | omega | decide | solve_by_elim))
    · have q6x : (lg_cmp fr9 nw).toInt ≠ 0 := fun q => b4x (Int32.toInt_inj.mp q)
      refine wq_ls [(0, .ref 74), (1, .long nw), (3, .int 0), (4, .ref 80)] (show ([0, 1, 3, 4] : List Nat).Nodup by decide) ⟨rfl, rfl, rfl, rfl, trivial⟩ ?_
      exact kL 
set_option maxRecDepth 100000 in
set_option maxHeartbeats 4000000 in
theorem c_pwA1 {h : zH} {Q : zR → Prop} {ra rp rs rS : Nat} {wg ob al9 pr9 sr9 fw kn9 T9 : Int32} {fr9 nw : Int64} (hP : zat h 74 = some (.inr (.inr (.inr (3, [.ref 44, .ref ra, .ref 76, .ref 78, .ref 80, .ref 88, .int wg, .int ob, .ref 96, .int al9, .int pr9, .int sr9, .ref rp, .ref rs, .int fw]))))) (hR : zat h 88 = some (.inr (.inr (.inr (6, [.int kn9, .long fr9, .int T9, .ref 90, .ref 92, .ref rS])))))  (kR : (kn9 ≠ 0) → Q (some (.ref 88), h, 0, 0)) (kL : wq 27 35 [(0, .ref 74), (1, .long nw), (3, .int 1), (4, .ref 88)] [] h 0 0 Q) : wq 27 0 [(0, .ref 74), (1, .long nw), (3, .int 1)] [] h 0 0 Q := by
  refine wq_gos (f := 1) (pc2 := 5) (ls2 := [(0, .ref 74), (1, .long nw), (3, .int 1)]) (st2 := [.ref 74]) (h2 := h) (dc2 := 0) (ds2 := 0) 3 rfl ?_
  refine wq_getf rfl hP rfl rfl ?_
  refine wq_gos (f := 1) (pc2 := 19) (ls2 := [(4, .ref 88), (0, .ref 74), (1, .long nw), (3, .int 1)]) (st2 := [.ref 88]) (h2 := h) (dc2 := 0) (ds2 := 0) 3 rfl ?_
  refine wq_getf rfl hR rfl rfl ?_
  refine wq_eq0 rfl rfl (fun b1x => ?_) (fun b1x => ?_)
  · have q2x : kn9.toInt = 0 := congrArg Int32.toInt b1x
    refine wq_ls [(0, .ref 74), (1, .long nw), (3, .int 1), (4, .ref 88)] (show ([0, 1, 3, 4] : List Nat).Nodup by decide) ⟨rfl, rfl, rfl, rfl, trivial⟩ ?_
    exact kL 
  · have q3x : kn9.toInt ≠ 0 := fun q => b1x (Int32.toInt_inj.mp q)
    refine wq_gos (f := 1) (pc2 := 27) (ls2 := [(4, .ref 88), (0, .ref 74), (1, .long nw), (3, .int 1)]) (st2 := [.ref 88]) (h2 := h) (dc2 := 0) (ds2 := 0) 1 rfl ?_
    refine wq_getf rfl hR rfl rfl ?_
    refine wq_gos (f := 1) (pc2 := 32) (ls2 := [(4, .ref 88), (0, .ref 74), (1, .long nw), (3, .int 1)]) (st2 := [.int (lg_cmp fr9 nw)]) (h2 := h) (dc2 := 0) (ds2 := 0) 2 rfl ?_
    refine wq_eq0 rfl rfl (fun b4x => ?_) (fun b4x => ?_)
    · have q5x : (lg_cmp fr9 nw).toInt = 0 := congrArg Int32.toInt b4x
      refine wq_gos (f := 1) (pc2 := 75) (ls2 := [(4, .ref 88), (0, .ref 74), (1, .long nw), (3, .int 1)]) (st2 := [.ref 88]) (h2 := h) (dc2 := 0) (ds2 := 0) 1 rfl ?_
      exact wq_ret rfl rfl (kR (by first | assumption | omega | decide | solve_by_elim))
    · have q6x : (lg_cmp fr9 nw).toInt ≠ 0 := fun q => b4x (Int32.toInt_inj.mp q)
      refine wq_ls [(0, .ref 74), (1, .long nw), (3, .int 1), (4, .ref 88)] (show ([0, 1, 3, 4] : List Nat).Nodup by decide) ⟨rfl, rfl, rfl, rfl, trivial⟩ ?_
      exact kL 
set_option maxRecDepth 100000 in
set_option maxHeartbeats 4000000 in
theorem c_pwC {h : zH} {Q : zR → Prop} {dc ds : Nat} {ra sp so : Nat} {lk hd ht bl sd : Int32} {rt : Int64} {rp rs : Nat} {wg ob al9 pr9 sr9 fw : Int32} {rr rS N : Nat} {kn9 T9 : Int32} {fr9 : Int64} {stp : List Int64} {nw : Int64} {st : Int32} (hP : zat h 74 = some (.inr (.inr (.inr (3, [.ref 44, .ref ra, .ref 76, .ref 78, .ref 80, .ref 88, .int wg, .int ob, .ref 96, .int al9, .int pr9, .int sr9, .ref rp, .ref rs, .int fw]))))) (hA : zat h ra = some (.inr (.inr (.inr (0, [.int lk, .int hd, .int ht, .int bl, .int sd, .long rt, .ref (ra + 2), .ref (ra + 4), .ref (ra + 6), .int (nI sp), .ref (ra + 8), .ref (ra + 10), .int (nI so), .ref (ra + 12)]))))) (hR : zat h rr = some (.inr (.inr (.inr (6, [.int kn9, .long fr9, .int T9, .ref (rr + 2), .ref (rr + 4), .ref rS]))))) (hSt : zat h rS = some (.inr (.inl (N, stp)))) (hra : ra = 6 ∨ ra = 20) (hso : so ≤ 10) (hN : 1 ≤ N ∧ N ≤ 20000 ∧ rS ≠ rr) (hrr : rr = 80 ∨ rr = 88) (hrS : rS = rr + 6 ∨ 234 ≤ rS) (kE : ∀ (h2 : zH), (wFr [rr, rS] h h2) → (h2.length = h.length) → (zat h2 74 = some (.inr (.inr (.inr (3, [.ref 44, .ref ra, .ref 76, .ref 78, .ref 80, .ref 88, .int wg, .int ob, .ref 96, .int al9, .int pr9, .int sr9, .ref rp, .ref rs, .int fw]))))) → (zat h2 rr = some (.inr (.inr (.inr (6, [.int 1, .long nw, .int ob, .ref (rr + 2), .ref (rr + 4), .ref rS]))))) → (zat h2 rS = some (.inr (.inl (N, (zset 0 stp 0 nw))))) → Q (some (.ref rr), h2, dc, ds)) (kC : ∀ (h2 : zH), (wFr [rr, rS] h h2) → (h2.length = h.length) → (zat h2 74 = some (.inr (.inr (.inr (3, [.ref 44, .ref ra, .ref 76, .ref 78, .ref 80, .ref 88, .int wg, .int ob, .ref 96, .int al9, .int pr9, .int sr9, .ref rp, .ref rs, .int fw]))))) → (zat h2 rr = some (.inr (.inr (.inr (6, [.int 1, .long nw, .int ob, .ref (rr + 2), .ref (rr + 4), .ref rS]))))) → (zat h2 rS = some (.inr (.inl (N, (zset 0 stp 0 nw))))) → (ob = 0) → (1 ≤ so) → wq 27 66 [(0, .ref 74), (1, .long nw), (3, .int st), (4, .ref rr)] [] h2 dc ds Q) : wq 27 39 [(0, .ref 74), (1, .long nw), (3, .int st), (4, .ref rr)] [] h dc ds Q := by
  have qnso := nI_toInt (n := so) (by omega)
  have z0 : (0 : Int32).toInt = 0 := rfl
  have z1 : (1 : Int32).toInt = 1 := rfl
  refine wq_gos (f := 1) (pc2 := 43) (ls2 := [(0, .ref 74), (1, .long nw), (3, .int st), (4, .ref rr)]) (st2 := [.ref 74, .long nw, .ref rr]) (h2 := h) (dc2 := dc) (ds2 := ds) 3 rfl ?_
  refine wq_getf rfl hP rfl rfl ?_
  refine wq_inlv (y2 := 68) (as := [.long nw, .int ob]) rfl rfl rfl hR rfl (wq_mono (c_rtb2 hR hSt (by first | assumption | omega | decide | solve_by_elim)) ?_)
  rintro _ ⟨h81x, rfl, f81x, l81x, c01x, c11x⟩
  show wq 27 49 [(0, .ref 74), (1, .long nw), (3, .int st), (4, .ref rr)] [] h81x dc ds _
  refine wq_gos (f := 1) (pc2 := 50) (ls2 := [(0, .ref 74), (1, .long nw), (3, .int st), (4, .ref rr)]) (st2 := [.ref 74]) (h2 := h81x) (dc2 := dc) (ds2 := ds) 1 rfl ?_
  have e2x := (f81x.2 _ _ (wnc (by omega) (wnc (by omega) wn0)) hP)
  refine wq_getf rfl e2x rfl rfl ?_
  refine wq_ne0 rfl rfl (fun b3x => ?_) (fun b3x => ?_)
  · have q4x : ob.toInt ≠ 0 := fun q => b3x (Int32.toInt_inj.mp q)
    refine wq_gos (f := 1) (pc2 := 75) (ls2 := [(0, .ref 74), (1, .long nw), (3, .int st), (4, .ref rr)]) (st2 := [.ref rr]) (h2 := h81x) (dc2 := dc) (ds2 := ds) 1 rfl ?_
    exact wq_ret rfl rfl (kE h81x (wFr_sub f81x (by simp)) (by omega) e2x c01x c11x)
  · have q5x : ob.toInt = 0 := congrArg Int32.toInt b3x
    refine wq_gos (f := 1) (pc2 := 57) (ls2 := [(0, .ref 74), (1, .long nw), (3, .int st), (4, .ref rr)]) (st2 := [.ref 74]) (h2 := h81x) (dc2 := dc) (ds2 := ds) 1 rfl ?_
    refine wq_getf rfl e2x rfl rfl ?_
    have e6x := (f81x.2 _ _ (wnc (by omega) (wnc (by omega) wn0)) hA)
    refine wq_getf rfl e6x rfl rfl ?_
    try have q7x := nI_toInt (n := so) (by omega)
    refine wq_le0 rfl rfl (fun b8x => ?_) (fun b8x => ?_)
    · refine wq_gos (f := 1) (pc2 := 75) (ls2 := [(0, .ref 74), (1, .long nw), (3, .int st), (4, .ref rr)]) (st2 := [.ref rr]) (h2 := h81x) (dc2 := dc) (ds2 := ds) 1 rfl ?_
      exact wq_ret rfl rfl (kE h81x (wFr_sub f81x (by simp)) (by omega) e2x c01x c11x)
    · refine wq_ls [(0, .ref 74), (1, .long nw), (3, .int st), (4, .ref rr)] (show ([0, 1, 3, 4] : List Nat).Nodup by decide) ⟨rfl, rfl, rfl, rfl, trivial⟩ ?_
      exact kC h81x (wFr_sub f81x (by simp)) (by omega) e2x c01x c11x (by first | assumption | omega | decide | solve_by_elim) (by first | assumption | omega | decide | solve_by_elim)
/-- a call whose run is known by a hypothesis: look-up, choose -/
theorem c_pwB {h : zH} {ra rp rs : Nat} {wg ob al9 pr9 sr9 fw : Int32} {ls : zL} {dc ds : Nat} {Q : zR → Prop} {nw : Int64} {st : Int32} {rr : Nat} (hP : zat h 74 = some (.inr (.inr (.inr (3, [.ref 44, .ref ra, .ref 76, .ref 78, .ref 80, .ref 88, .int wg, .int ob, .ref 96, .int al9, .int pr9, .int sr9, .ref rp, .ref rs, .int fw]))))) (hk : wq 28 0 [(0, .ref 74)] [] h 0 0 (fun r => ∃ h2 d s, r = (none, h2, d, s) ∧ wq 27 39 [(0, .ref 74), (1, .long nw), (3, .int st), (4, .ref rr)] [] h2 (dc + d) (ds + s) Q)) : wq 27 35 [(0, .ref 74), (1, .long nw), (3, .int st), (4, .ref rr)] [] h dc ds Q := by
  refine wq_gos (f := 1) (pc2 := 36) (ls2 := [(0, .ref 74), (1, .long nw), (3, .int st), (4, .ref rr)]) (st2 := [.ref 74]) (h2 := h) (dc2 := dc) (ds2 := ds) 1 rfl ?_
  refine wq_inlv (y2 := 28) (as := []) rfl rfl rfl hP rfl (wq_mono hk ?_)
  rintro _ ⟨h8, d9, s9, rfl, k⟩
  exact k
theorem c_pwD {h : zH} {ra rp rs : Nat} {wg ob al9 pr9 sr9 fw : Int32} {ls : zL} {dc ds : Nat} {Q : zR → Prop} {nw : Int64} {st : Int32} {rr : Nat} (hP : zat h 74 = some (.inr (.inr (.inr (3, [.ref 44, .ref ra, .ref 76, .ref 78, .ref 80, .ref 88, .int wg, .int ob, .ref 96, .int al9, .int pr9, .int sr9, .ref rp, .ref rs, .int fw]))))) (hk : wq 29 0 [(0, .ref 74), (1, .ref rr), (2, .int st)] [] h 0 0 (fun r => ∃ h2 d s, r = (none, h2, d, s) ∧ Q (some (.ref rr), h2, dc + d, ds + s))) : wq 27 66 [(0, .ref 74), (1, .long nw), (3, .int st), (4, .ref rr)] [] h dc ds Q := by
  refine wq_gos (f := 1) (pc2 := 70) (ls2 := [(0, .ref 74), (1, .long nw), (3, .int st), (4, .ref rr)]) (st2 := [.int st, .ref rr, .ref 74]) (h2 := h) (dc2 := dc) (ds2 := ds) 3 rfl ?_
  refine wq_inlv (y2 := 29) (as := [.ref rr, .int st]) rfl rfl rfl hP rfl (wq_mono hk ?_)
  rintro _ ⟨h8, d9, s9, rfl, k⟩
  refine wq_gos (f := 1) (pc2 := 75) (ls2 := [(0, .ref 74), (1, .long nw), (3, .int st), (4, .ref rr)]) (st2 := [.ref rr]) (h2 := h8) (dc2 := dc + d9) (ds2 := ds + s9) 1 rfl ?_
  exact wq_ret rfl rfl k
