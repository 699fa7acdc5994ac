/-! The law: each op. -/
theorem lq_eq2 {L : Nat} {xs : Nat → Int32} {pc : Nat} {ls : zL} {rest : List Value} {h : zH} {dc ds : Nat} {off : Int} {t : Nat} {x z : Int32} (hP : zP 288 pc = some (.if_icmp .eq off, 3, (t, 0, .null), [])) (hx : x = z) (k : lq L xs t ls rest h dc ds) : lq L xs pc ls (.int z :: .int x :: rest) h dc ds := by
  obtain ⟨a, b, c, k1, k2⟩ := k
  exact ⟨a, b, c, zT_if2 true hP (zc_eq_t (by rw [hx])) k1, k2⟩
set_option maxHeartbeats 4000000 in
theorem lop_0 {L : Nat} {xs : Nat → Int32} {i : Nat} {h : zH} {dc ds D S : Nat} {V : cV} (hI : LInv h D S V (tie V)) (hi : i + 6 ≤ L) (hL : L ≤ 3072) (kk : ∀ (h2 : zH) (d s D2 S2 : Nat) (V2 : cV), LInv h2 D2 S2 V2 (tie V2) → d + D ≤ D2 + 1 → s + S ≤ S2 + 6 → lq L xs 1773 [(4, .int (nI i)), (3, .ref 232), (2, .ref 162), (1, .ref 0), (0, .ref 11)] [] h2 (dc + d) (ds + s)) : lq L xs 224 [(4, .int (nI i)), (3, .ref 232), (2, .ref 162), (1, .ref 0), (0, .ref 11)] [] h dc ds := by
  refine lq_gos (f := 200000) (pc2 := 230) (ls2 := [(4, .int (nI i)), (3, .ref 232), (2, .ref 162), (1, .ref 0), (0, .ref 11)]) (st2 := [.int (nI i + (1 : Int32)), .ref 11, .ref 0]) (h2 := h) (dc2 := dc) (ds2 := ds) 5 rfl ?_
  refine lq_vi (show nI i + (1 : Int32) = nI (i + 1) from nI_add i 1) ?_
  refine lq_xs rfl (by omega) hL rfl ?_
  refine lq_gos (f := 200000) (pc2 := 236) (ls2 := [(4, .int (nI i)), (3, .ref 232), (2, .ref 162), (1, .ref 0), (0, .ref 11)]) (st2 := [.int (nI i + (2 : Int32)), .ref 11, .int (xs (i + 1)), .ref 0]) (h2 := h) (dc2 := dc) (ds2 := ds) 4 rfl ?_
  refine lq_vi (show nI i + (2 : Int32) = nI (i + 2) from nI_add i 2) ?_
  refine lq_xs rfl (by omega) hL rfl ?_
  refine lq_gos (f := 200000) (pc2 := 242) (ls2 := [(4, .int (nI i)), (3, .ref 232), (2, .ref 162), (1, .ref 0), (0, .ref 11)]) (st2 := [.int (nI i + (3 : Int32)), .ref 11, .int (xs (i + 2)), .int (xs (i + 1)), .ref 0]) (h2 := h) (dc2 := dc) (ds2 := ds) 4 rfl ?_
  refine lq_vi (show nI i + (3 : Int32) = nI (i + 3) from nI_add i 3) ?_
  refine lq_xs rfl (by omega) hL rfl ?_
  refine lq_gos (f := 200000) (pc2 := 248) (ls2 := [(4, .int (nI i)), (3, .ref 232), (2, .ref 162), (1, .ref 0), (0, .ref 11)]) (st2 := [.int (nI i + (4 : Int32)), .ref 11, .int (xs (i + 3)), .int (xs (i + 2)), .int (xs (i + 1)), .ref 0]) (h2 := h) (dc2 := dc) (ds2 := ds) 4 rfl ?_
  refine lq_vi (show nI i + (4 : Int32) = nI (i + 4) from nI_add i 4) ?_
  refine lq_xs rfl (by omega) hL rfl ?_
  refine lq_gos (f := 200000) (pc2 := 254) (ls2 := [(4, .int (nI i)), (3, .ref 232), (2, .ref 162), (1, .ref 0), (0, .ref 11)]) (st2 := [.int (nI i + (5 : Int32)), .ref 11, .int (xs (i + 4)), .int (xs (i + 3)), .int (xs (i + 2)), .int (xs (i + 1)), .ref 0]) (h2 := h) (dc2 := dc) (ds2 := ds) 4 rfl ?_
  refine lq_vi (show nI i + (5 : Int32) = nI (i + 5) from nI_add i 5) ?_
  refine lq_xs rfl (by omega) hL rfl ?_
  refine lq_cA (as := [.int (xs (i + 1)), .int (xs (i + 2)), .int (xs (i + 3)), .int (xs (i + 4)), .int (xs (i + 5))]) rfl rfl rfl rfl hI (fun z => cCall_0 z) ?_
  intro h1 d s D2 S2 hI1 e1 e2
  refine lq_gos (f := 200000) (pc2 := 265) (ls2 := [(4, .int (nI i)), (3, .ref 232), (2, .ref 162), (1, .ref 0), (0, .ref 11)]) (st2 := [.int (nI i + (1 : Int32)), .ref 11, .ref 162]) (h2 := h1) (dc2 := (dc + d)) (ds2 := (ds + s)) 6 rfl ?_
  refine lq_vi (show nI i + (1 : Int32) = nI (i + 1) from nI_add i 1) ?_
  refine lq_xs rfl (by omega) hL rfl ?_
  refine lq_gos (f := 200000) (pc2 := 271) (ls2 := [(4, .int (nI i)), (3, .ref 232), (2, .ref 162), (1, .ref 0), (0, .ref 11)]) (st2 := [.int (nI i + (2 : Int32)), .ref 11, .int (xs (i + 1)), .ref 162]) (h2 := h1) (dc2 := (dc + d)) (ds2 := (ds + s)) 4 rfl ?_
  refine lq_vi (show nI i + (2 : Int32) = nI (i + 2) from nI_add i 2) ?_
  refine lq_xs rfl (by omega) hL rfl ?_
  refine lq_gos (f := 200000) (pc2 := 277) (ls2 := [(4, .int (nI i)), (3, .ref 232), (2, .ref 162), (1, .ref 0), (0, .ref 11)]) (st2 := [.int (nI i + (3 : Int32)), .ref 11, .int (xs (i + 2)), .int (xs (i + 1)), .ref 162]) (h2 := h1) (dc2 := (dc + d)) (ds2 := (ds + s)) 4 rfl ?_
  refine lq_vi (show nI i + (3 : Int32) = nI (i + 3) from nI_add i 3) ?_
  refine lq_xs rfl (by omega) hL rfl ?_
  refine lq_gos (f := 200000) (pc2 := 283) (ls2 := [(4, .int (nI i)), (3, .ref 232), (2, .ref 162), (1, .ref 0), (0, .ref 11)]) (st2 := [.int (nI i + (4 : Int32)), .ref 11, .int (xs (i + 3)), .int (xs (i + 2)), .int (xs (i + 1)), .ref 162]) (h2 := h1) (dc2 := (dc + d)) (ds2 := (ds + s)) 4 rfl ?_
  refine lq_vi (show nI i + (4 : Int32) = nI (i + 4) from nI_add i 4) ?_
  refine lq_xs rfl (by omega) hL rfl ?_
  refine lq_gos (f := 200000) (pc2 := 289) (ls2 := [(4, .int (nI i)), (3, .ref 232), (2, .ref 162), (1, .ref 0), (0, .ref 11)]) (st2 := [.int (nI i + (5 : Int32)), .ref 11, .int (xs (i + 4)), .int (xs (i + 3)), .int (xs (i + 2)), .int (xs (i + 1)), .ref 162]) (h2 := h1) (dc2 := (dc + d)) (ds2 := (ds + s)) 4 rfl ?_
  refine lq_vi (show nI i + (5 : Int32) = nI (i + 5) from nI_add i 5) ?_
  refine lq_xs rfl (by omega) hL rfl ?_
  refine lq_mA (as := [.int (xs (i + 1)), .int (xs (i + 2)), .int (xs (i + 3)), .int (xs (i + 4)), .int (xs (i + 5))]) rfl rfl rfl rfl hI1 (fun z => rCall_0 (R2 := tie (vFd V (xs (i + 1)) (xs (i + 2)) (xs (i + 3)) (xs (i + 4)) (xs (i + 5)))) z tie_fd) ?_
  intro h2 hI2
  refine lq_gos (f := 200000) (pc2 := 1773) (ls2 := [(4, .int (nI i)), (3, .ref 232), (2, .ref 162), (1, .ref 0), (0, .ref 11)]) (st2 := []) (h2 := h2) (dc2 := (dc + d)) (ds2 := (ds + s)) 2 rfl ?_
  exact kk h2 d s D2 S2 _ hI2 (by omega) (by omega)
set_option maxHeartbeats 4000000 in
theorem lop_1 {L : Nat} {xs : Nat → Int32} {i : Nat} {h : zH} {dc ds D S : Nat} {V : cV} (hI : LInv h D S V (tie V)) (hi : i + 6 ≤ L) (hL : L ≤ 3072) (kk : ∀ (h2 : zH) (d s D2 S2 : Nat) (V2 : cV), LInv h2 D2 S2 V2 (tie V2) → d + D ≤ D2 + 1 → s + S ≤ S2 + 6 → lq L xs 1773 [(4, .int (nI i)), (3, .ref 232), (2, .ref 162), (1, .ref 0), (0, .ref 11)] [] h2 (dc + d) (ds + s)) : lq L xs 297 [(4, .int (nI i)), (3, .ref 232), (2, .ref 162), (1, .ref 0), (0, .ref 11)] [] h dc ds := by
  refine lq_gos (f := 200000) (pc2 := 303) (ls2 := [(4, .int (nI i)), (3, .ref 232), (2, .ref 162), (1, .ref 0), (0, .ref 11)]) (st2 := [.int (nI i + (1 : Int32)), .ref 11, .ref 0]) (h2 := h) (dc2 := dc) (ds2 := ds) 5 rfl ?_
  refine lq_vi (show nI i + (1 : Int32) = nI (i + 1) from nI_add i 1) ?_
  refine lq_xs rfl (by omega) hL rfl ?_
  refine lq_cX (as := [.int (xs (i + 1))]) rfl rfl rfl rfl hI (fun z => cCall_1 z) ?_
  intro a9 V2 x9 h1 d s D2 S2 hI1 e1 e2
  refine lq_gos (f := 200000) (pc2 := 314) (ls2 := [(4, .int (nI i)), (3, .ref 232), (2, .ref 162), (1, .ref 0), (0, .ref 11)]) (st2 := [.int (nI i + (1 : Int32)), .ref 11, .ref 162]) (h2 := h1) (dc2 := (dc + d)) (ds2 := (ds + s)) 6 rfl ?_
  refine lq_vi (show nI i + (1 : Int32) = nI (i + 1) from nI_add i 1) ?_
  refine lq_xs rfl (by omega) hL rfl ?_
  refine lq_mA (as := [.int (xs (i + 1))]) rfl rfl rfl rfl hI1 (fun z => rCall_1 (R2 := tie V2) z (tie_tx x9)) ?_
  intro h2 hI2
  refine lq_gos (f := 200000) (pc2 := 1773) (ls2 := [(4, .int (nI i)), (3, .ref 232), (2, .ref 162), (1, .ref 0), (0, .ref 11)]) (st2 := []) (h2 := h2) (dc2 := (dc + d)) (ds2 := (ds + s)) 2 rfl ?_
  exact kk h2 d s D2 S2 _ hI2 (by omega) (by omega)
set_option maxHeartbeats 4000000 in
theorem lop_2 {L : Nat} {xs : Nat → Int32} {i : Nat} {h : zH} {dc ds D S : Nat} {V : cV} (hI : LInv h D S V (tie V)) (hi : i + 6 ≤ L) (hL : L ≤ 3072) (kk : ∀ (h2 : zH) (d s D2 S2 : Nat) (V2 : cV), LInv h2 D2 S2 V2 (tie V2) → d + D ≤ D2 + 1 → s + S ≤ S2 + 6 → lq L xs 1773 [(4, .int (nI i)), (3, .ref 232), (2, .ref 162), (1, .ref 0), (0, .ref 11)] [] h2 (dc + d) (ds + s)) : lq L xs 322 [(4, .int (nI i)), (3, .ref 232), (2, .ref 162), (1, .ref 0), (0, .ref 11)] [] h dc ds := by
  refine lq_gos (f := 200000) (pc2 := 328) (ls2 := [(4, .int (nI i)), (3, .ref 232), (2, .ref 162), (1, .ref 0), (0, .ref 11)]) (st2 := [.int (nI i + (1 : Int32)), .ref 11, .ref 0]) (h2 := h) (dc2 := dc) (ds2 := ds) 5 rfl ?_
  refine lq_vi (show nI i + (1 : Int32) = nI (i + 1) from nI_add i 1) ?_
  refine lq_xs rfl (by omega) hL rfl ?_
  refine lq_c (as := [.int (xs (i + 1))]) rfl rfl rfl rfl hI (fun z => cCall_2 z) ?_
  intro v1 h1 d s D2 S2 hI1 e1 e2
  refine lq_gos (f := 200000) (pc2 := 339) (ls2 := [(4, .int (nI i)), (3, .ref 232), (2, .ref 162), (1, .ref 0), (0, .ref 11)]) (st2 := [.int (nI i + (1 : Int32)), .ref 11, .ref 162]) (h2 := h1) (dc2 := (dc + d)) (ds2 := (ds + s)) 6 rfl ?_
  refine lq_vi (show nI i + (1 : Int32) = nI (i + 1) from nI_add i 1) ?_
  refine lq_xs rfl (by omega) hL rfl ?_
  refine lq_m (as := [.int (xs (i + 1))]) rfl rfl rfl rfl hI1 (fun z => rCall_2 z) ?_
  intro v2 h2 hI2
  refine lq_gos (f := 200000) (pc2 := 1773) (ls2 := [(4, .int (nI i)), (3, .ref 232), (2, .ref 162), (1, .ref 0), (0, .ref 11)]) (st2 := []) (h2 := h2) (dc2 := (dc + d)) (ds2 := (ds + s)) 2 rfl ?_
  exact kk h2 d s D2 S2 _ hI2 (by omega) (by omega)
set_option maxHeartbeats 4000000 in
theorem lop_3 {L : Nat} {xs : Nat → Int32} {i : Nat} {h : zH} {dc ds D S : Nat} {V : cV} (hI : LInv h D S V (tie V)) (hi : i + 6 ≤ L) (hL : L ≤ 3072) (kk : ∀ (h2 : zH) (d s D2 S2 : Nat) (V2 : cV), LInv h2 D2 S2 V2 (tie V2) → d + D ≤ D2 + 1 → s + S ≤ S2 + 6 → lq L xs 1773 [(4, .int (nI i)), (3, .ref 232), (2, .ref 162), (1, .ref 0), (0, .ref 11)] [] h2 (dc + d) (ds + s)) : lq L xs 347 [(4, .int (nI i)), (3, .ref 232), (2, .ref 162), (1, .ref 0), (0, .ref 11)] [] h dc ds := by
  refine lq_gos (f := 200000) (pc2 := 353) (ls2 := [(4, .int (nI i)), (3, .ref 232), (2, .ref 162), (1, .ref 0), (0, .ref 11)]) (st2 := [.int (nI i + (1 : Int32)), .ref 11, .ref 0]) (h2 := h) (dc2 := dc) (ds2 := ds) 5 rfl ?_
  refine lq_vi (show nI i + (1 : Int32) = nI (i + 1) from nI_add i 1) ?_
  refine lq_xs rfl (by omega) hL rfl ?_
  refine lq_c (as := [.int (xs (i + 1))]) rfl rfl rfl rfl hI (fun z => cCall_3 z) ?_
  intro v1 h1 d s D2 S2 hI1 e1 e2
  refine lq_gos (f := 200000) (pc2 := 364) (ls2 := [(4, .int (nI i)), (3, .ref 232), (2, .ref 162), (1, .ref 0), (0, .ref 11)]) (st2 := [.int (nI i + (1 : Int32)), .ref 11, .ref 162]) (h2 := h1) (dc2 := (dc + d)) (ds2 := (ds + s)) 6 rfl ?_
  refine lq_vi (show nI i + (1 : Int32) = nI (i + 1) from nI_add i 1) ?_
  refine lq_xs rfl (by omega) hL rfl ?_
  refine lq_m (as := [.int (xs (i + 1))]) rfl rfl rfl rfl hI1 (fun z => rCall_3 z) ?_
  intro v2 h2 hI2
  refine lq_gos (f := 200000) (pc2 := 1773) (ls2 := [(4, .int (nI i)), (3, .ref 232), (2, .ref 162), (1, .ref 0), (0, .ref 11)]) (st2 := []) (h2 := h2) (dc2 := (dc + d)) (ds2 := (ds + s)) 2 rfl ?_
  exact kk h2 d s D2 S2 _ hI2 (by omega) (by omega)
set_option maxHeartbeats 4000000 in
theorem lop_5 {L : Nat} {xs : Nat → Int32} {i : Nat} {h : zH} {dc ds D S : Nat} {V : cV} (hI : LInv h D S V (tie V)) (hi : i + 6 ≤ L) (hL : L ≤ 3072) (kk : ∀ (h2 : zH) (d s D2 S2 : Nat) (V2 : cV), LInv h2 D2 S2 V2 (tie V2) → d + D ≤ D2 + 1 → s + S ≤ S2 + 6 → lq L xs 1773 [(4, .int (nI i)), (3, .ref 232), (2, .ref 162), (1, .ref 0), (0, .ref 11)] [] h2 (dc + d) (ds + s)) : lq L xs 412 [(4, .int (nI i)), (3, .ref 232), (2, .ref 162), (1, .ref 0), (0, .ref 11)] [] h dc ds := by
  refine lq_gos (f := 200000) (pc2 := 418) (ls2 := [(4, .int (nI i)), (3, .ref 232), (2, .ref 162), (1, .ref 0), (0, .ref 11)]) (st2 := [.int (nI i + (1 : Int32)), .ref 11, .ref 0]) (h2 := h) (dc2 := dc) (ds2 := ds) 5 rfl ?_
  refine lq_vi (show nI i + (1 : Int32) = nI (i + 1) from nI_add i 1) ?_
  refine lq_xs rfl (by omega) hL rfl ?_
  refine lq_gos (f := 200000) (pc2 := 424) (ls2 := [(4, .int (nI i)), (3, .ref 232), (2, .ref 162), (1, .ref 0), (0, .ref 11)]) (st2 := [.int (nI i + (2 : Int32)), .ref 11, .int (xs (i + 1)), .ref 0]) (h2 := h) (dc2 := dc) (ds2 := ds) 4 rfl ?_
  refine lq_vi (show nI i + (2 : Int32) = nI (i + 2) from nI_add i 2) ?_
  refine lq_xs rfl (by omega) hL rfl ?_
  refine lq_c (as := [.int (xs (i + 1)), .int (xs (i + 2))]) rfl rfl rfl rfl hI (fun z => cCall_5 z) ?_
  intro v1 h1 d s D2 S2 hI1 e1 e2
  refine lq_gos (f := 200000) (pc2 := 435) (ls2 := [(4, .int (nI i)), (3, .ref 232), (2, .ref 162), (1, .ref 0), (0, .ref 11)]) (st2 := [.int (nI i + (1 : Int32)), .ref 11, .ref 162]) (h2 := h1) (dc2 := (dc + d)) (ds2 := (ds + s)) 6 rfl ?_
  refine lq_vi (show nI i + (1 : Int32) = nI (i + 1) from nI_add i 1) ?_
  refine lq_xs rfl (by omega) hL rfl ?_
  refine lq_gos (f := 200000) (pc2 := 441) (ls2 := [(4, .int (nI i)), (3, .ref 232), (2, .ref 162), (1, .ref 0), (0, .ref 11)]) (st2 := [.int (nI i + (2 : Int32)), .ref 11, .int (xs (i + 1)), .ref 162]) (h2 := h1) (dc2 := (dc + d)) (ds2 := (ds + s)) 4 rfl ?_
  refine lq_vi (show nI i + (2 : Int32) = nI (i + 2) from nI_add i 2) ?_
  refine lq_xs rfl (by omega) hL rfl ?_
  refine lq_m (as := [.int (xs (i + 1)), .int (xs (i + 2))]) rfl rfl rfl rfl hI1 (fun z => rCall_5 z) ?_
  intro v2 h2 hI2
  refine lq_gos (f := 200000) (pc2 := 1773) (ls2 := [(4, .int (nI i)), (3, .ref 232), (2, .ref 162), (1, .ref 0), (0, .ref 11)]) (st2 := []) (h2 := h2) (dc2 := (dc + d)) (ds2 := (ds + s)) 2 rfl ?_
  exact kk h2 d s D2 S2 _ hI2 (by omega) (by omega)
set_option maxHeartbeats 4000000 in
theorem lop_6 {L : Nat} {xs : Nat → Int32} {i : Nat} {h : zH} {dc ds D S : Nat} {V : cV} (hI : LInv h D S V (tie V)) (hi : i + 6 ≤ L) (hL : L ≤ 3072) (kk : ∀ (h2 : zH) (d s D2 S2 : Nat) (V2 : cV), LInv h2 D2 S2 V2 (tie V2) → d + D ≤ D2 + 1 → s + S ≤ S2 + 6 → lq L xs 1773 [(4, .int (nI i)), (3, .ref 232), (2, .ref 162), (1, .ref 0), (0, .ref 11)] [] h2 (dc + d) (ds + s)) : lq L xs 449 [(4, .int (nI i)), (3, .ref 232), (2, .ref 162), (1, .ref 0), (0, .ref 11)] [] h dc ds := by
  refine lq_gos (f := 200000) (pc2 := 455) (ls2 := [(4, .int (nI i)), (3, .ref 232), (2, .ref 162), (1, .ref 0), (0, .ref 11)]) (st2 := [.int (nI i + (1 : Int32)), .ref 11, .ref 0]) (h2 := h) (dc2 := dc) (ds2 := ds) 5 rfl ?_
  refine lq_vi (show nI i + (1 : Int32) = nI (i + 1) from nI_add i 1) ?_
  refine lq_xs rfl (by omega) hL rfl ?_
  refine lq_gos (f := 200000) (pc2 := 461) (ls2 := [(4, .int (nI i)), (3, .ref 232), (2, .ref 162), (1, .ref 0), (0, .ref 11)]) (st2 := [.int (nI i + (2 : Int32)), .ref 11, .int (xs (i + 1)), .ref 0]) (h2 := h) (dc2 := dc) (ds2 := ds) 4 rfl ?_
  refine lq_vi (show nI i + (2 : Int32) = nI (i + 2) from nI_add i 2) ?_
  refine lq_xs rfl (by omega) hL rfl ?_
  refine lq_cX (as := [.int (xs (i + 1)), .int (xs (i + 2))]) rfl rfl rfl rfl hI (fun z => cCall_6 z) ?_
  intro a9 V2 x9 h1 d s D2 S2 hI1 e1 e2
  refine lq_gos (f := 200000) (pc2 := 471) (ls2 := [(4, .int (nI i)), (3, .ref 232), (2, .ref 162), (1, .ref 0), (0, .ref 11)]) (st2 := [.int (nI i + (1 : Int32)), .ref 11, .ref 162, .int a9]) (h2 := h1) (dc2 := (dc + d)) (ds2 := (ds + s)) 5 rfl ?_
  refine lq_vi (show nI i + (1 : Int32) = nI (i + 1) from nI_add i 1) ?_
  refine lq_xs rfl (by omega) hL rfl ?_
  refine lq_gos (f := 200000) (pc2 := 477) (ls2 := [(4, .int (nI i)), (3, .ref 232), (2, .ref 162), (1, .ref 0), (0, .ref 11)]) (st2 := [.int (nI i + (2 : Int32)), .ref 11, .int (xs (i + 1)), .ref 162, .int a9]) (h2 := h1) (dc2 := (dc + d)) (ds2 := (ds + s)) 4 rfl ?_
  refine lq_vi (show nI i + (2 : Int32) = nI (i + 2) from nI_add i 2) ?_
  refine lq_xs rfl (by omega) hL rfl ?_
  refine lq_mA (as := [.int (xs (i + 1)), .int (xs (i + 2))]) rfl rfl rfl rfl hI1 (fun z => rCall_6 (R2 := tie V2) z (tie_set x9)) ?_
  intro h2 hI2
  refine lq_eq2 rfl rfl ?_
  exact kk h2 d s D2 S2 _ hI2 (by omega) (by omega)
set_option maxHeartbeats 4000000 in
theorem lop_7 {L : Nat} {xs : Nat → Int32} {i : Nat} {h : zH} {dc ds D S : Nat} {V : cV} (hI : LInv h D S V (tie V)) (hi : i + 6 ≤ L) (hL : L ≤ 3072) (kk : ∀ (h2 : zH) (d s D2 S2 : Nat) (V2 : cV), LInv h2 D2 S2 V2 (tie V2) → d + D ≤ D2 + 1 → s + S ≤ S2 + 6 → lq L xs 1773 [(4, .int (nI i)), (3, .ref 232), (2, .ref 162), (1, .ref 0), (0, .ref 11)] [] h2 (dc + d) (ds + s)) : lq L xs 486 [(4, .int (nI i)), (3, .ref 232), (2, .ref 162), (1, .ref 0), (0, .ref 11)] [] h dc ds := by
  refine lq_gos (f := 200000) (pc2 := 492) (ls2 := [(4, .int (nI i)), (3, .ref 232), (2, .ref 162), (1, .ref 0), (0, .ref 11)]) (st2 := [.int (nI i + (1 : Int32)), .ref 11, .ref 0]) (h2 := h) (dc2 := dc) (ds2 := ds) 5 rfl ?_
  refine lq_vi (show nI i + (1 : Int32) = nI (i + 1) from nI_add i 1) ?_
  refine lq_xs rfl (by omega) hL rfl ?_
  refine lq_cL (as := [.int (xs (i + 1))]) rfl rfl rfl rfl hI (fun z => cCall_7 z) ?_
  intro v1 h1 d s D2 S2 hI1 e1 e2
  refine lq_gos (f := 200000) (pc2 := 503) (ls2 := [(4, .int (nI i)), (3, .ref 232), (2, .ref 162), (1, .ref 0), (0, .ref 11)]) (st2 := [.int (nI i + (1 : Int32)), .ref 11, .ref 162]) (h2 := h1) (dc2 := (dc + d)) (ds2 := (ds + s)) 6 rfl ?_
  refine lq_vi (show nI i + (1 : Int32) = nI (i + 1) from nI_add i 1) ?_
  refine lq_xs rfl (by omega) hL rfl ?_
  refine lq_mL (as := [.int (xs (i + 1))]) rfl rfl rfl rfl hI1 (fun z => rCall_7 z) ?_
  intro v2 h2 hI2
  refine lq_gos (f := 200000) (pc2 := 1773) (ls2 := [(4, .int (nI i)), (3, .ref 232), (2, .ref 162), (1, .ref 0), (0, .ref 11)]) (st2 := []) (h2 := h2) (dc2 := (dc + d)) (ds2 := (ds + s)) 2 rfl ?_
  exact kk h2 d s D2 S2 _ hI2 (by omega) (by omega)
set_option maxHeartbeats 4000000 in
theorem lop_8 {L : Nat} {xs : Nat → Int32} {i : Nat} {h : zH} {dc ds D S : Nat} {V : cV} (hI : LInv h D S V (tie V)) (hi : i + 6 ≤ L) (hL : L ≤ 3072) (kk : ∀ (h2 : zH) (d s D2 S2 : Nat) (V2 : cV), LInv h2 D2 S2 V2 (tie V2) → d + D ≤ D2 + 1 → s + S ≤ S2 + 6 → lq L xs 1773 [(4, .int (nI i)), (3, .ref 232), (2, .ref 162), (1, .ref 0), (0, .ref 11)] [] h2 (dc + d) (ds + s)) : lq L xs 511 [(4, .int (nI i)), (3, .ref 232), (2, .ref 162), (1, .ref 0), (0, .ref 11)] [] h dc ds := by
  refine lq_gos (f := 200000) (pc2 := 517) (ls2 := [(4, .int (nI i)), (3, .ref 232), (2, .ref 162), (1, .ref 0), (0, .ref 11)]) (st2 := [.int (nI i + (1 : Int32)), .ref 11, .ref 0]) (h2 := h) (dc2 := dc) (ds2 := ds) 5 rfl ?_
  refine lq_vi (show nI i + (1 : Int32) = nI (i + 1) from nI_add i 1) ?_
  refine lq_xs rfl (by omega) hL rfl ?_
  refine lq_c (as := [.int (xs (i + 1))]) rfl rfl rfl rfl hI (fun z => cCall_8 z) ?_
  intro v1 h1 d s D2 S2 hI1 e1 e2
  refine lq_gos (f := 200000) (pc2 := 528) (ls2 := [(4, .int (nI i)), (3, .ref 232), (2, .ref 162), (1, .ref 0), (0, .ref 11)]) (st2 := [.int (nI i + (1 : Int32)), .ref 11, .ref 162]) (h2 := h1) (dc2 := (dc + d)) (ds2 := (ds + s)) 6 rfl ?_
  refine lq_vi (show nI i + (1 : Int32) = nI (i + 1) from nI_add i 1) ?_
  refine lq_xs rfl (by omega) hL rfl ?_
  refine lq_m (as := [.int (xs (i + 1))]) rfl rfl rfl rfl hI1 (fun z => rCall_8 z) ?_
  intro v2 h2 hI2
  refine lq_gos (f := 200000) (pc2 := 1773) (ls2 := [(4, .int (nI i)), (3, .ref 232), (2, .ref 162), (1, .ref 0), (0, .ref 11)]) (st2 := []) (h2 := h2) (dc2 := (dc + d)) (ds2 := (ds + s)) 2 rfl ?_
  exact kk h2 d s D2 S2 _ hI2 (by omega) (by omega)
set_option maxHeartbeats 4000000 in
theorem lop_9 {L : Nat} {xs : Nat → Int32} {i : Nat} {h : zH} {dc ds D S : Nat} {V : cV} (hI : LInv h D S V (tie V)) (hi : i + 6 ≤ L) (hL : L ≤ 3072) (kk : ∀ (h2 : zH) (d s D2 S2 : Nat) (V2 : cV), LInv h2 D2 S2 V2 (tie V2) → d + D ≤ D2 + 1 → s + S ≤ S2 + 6 → lq L xs 1773 [(4, .int (nI i)), (3, .ref 232), (2, .ref 162), (1, .ref 0), (0, .ref 11)] [] h2 (dc + d) (ds + s)) : lq L xs 536 [(4, .int (nI i)), (3, .ref 232), (2, .ref 162), (1, .ref 0), (0, .ref 11)] [] h dc ds := by
  refine lq_gos (f := 200000) (pc2 := 542) (ls2 := [(4, .int (nI i)), (3, .ref 232), (2, .ref 162), (1, .ref 0), (0, .ref 11)]) (st2 := [.int (nI i + (1 : Int32)), .ref 11, .ref 0]) (h2 := h) (dc2 := dc) (ds2 := ds) 5 rfl ?_
  refine lq_vi (show nI i + (1 : Int32) = nI (i + 1) from nI_add i 1) ?_
  refine lq_xs rfl (by omega) hL rfl ?_
  refine lq_cL (as := [.int (xs (i + 1))]) rfl rfl rfl rfl hI (fun z => cCall_9 z) ?_
  intro v1 h1 d s D2 S2 hI1 e1 e2
  refine lq_gos (f := 200000) (pc2 := 553) (ls2 := [(4, .int (nI i)), (3, .ref 232), (2, .ref 162), (1, .ref 0), (0, .ref 11)]) (st2 := [.int (nI i + (1 : Int32)), .ref 11, .ref 162]) (h2 := h1) (dc2 := (dc + d)) (ds2 := (ds + s)) 6 rfl ?_
  refine lq_vi (show nI i + (1 : Int32) = nI (i + 1) from nI_add i 1) ?_
  refine lq_xs rfl (by omega) hL rfl ?_
  refine lq_mL (as := [.int (xs (i + 1))]) rfl rfl rfl rfl hI1 (fun z => rCall_9 z) ?_
  intro v2 h2 hI2
  refine lq_gos (f := 200000) (pc2 := 1773) (ls2 := [(4, .int (nI i)), (3, .ref 232), (2, .ref 162), (1, .ref 0), (0, .ref 11)]) (st2 := []) (h2 := h2) (dc2 := (dc + d)) (ds2 := (ds + s)) 2 rfl ?_
  exact kk h2 d s D2 S2 _ hI2 (by omega) (by omega)
set_option maxHeartbeats 4000000 in
theorem lop_10 {L : Nat} {xs : Nat → Int32} {i : Nat} {h : zH} {dc ds D S : Nat} {V : cV} (hI : LInv h D S V (tie V)) (hi : i + 6 ≤ L) (hL : L ≤ 3072) (kk : ∀ (h2 : zH) (d s D2 S2 : Nat) (V2 : cV), LInv h2 D2 S2 V2 (tie V2) → d + D ≤ D2 + 1 → s + S ≤ S2 + 6 → lq L xs 1773 [(4, .int (nI i)), (3, .ref 232), (2, .ref 162), (1, .ref 0), (0, .ref 11)] [] h2 (dc + d) (ds + s)) : lq L xs 561 [(4, .int (nI i)), (3, .ref 232), (2, .ref 162), (1, .ref 0), (0, .ref 11)] [] h dc ds := by
  refine lq_gos (f := 200000) (pc2 := 567) (ls2 := [(4, .int (nI i)), (3, .ref 232), (2, .ref 162), (1, .ref 0), (0, .ref 11)]) (st2 := [.int (nI i + (1 : Int32)), .ref 11, .ref 0]) (h2 := h) (dc2 := dc) (ds2 := ds) 5 rfl ?_
  refine lq_vi (show nI i + (1 : Int32) = nI (i + 1) from nI_add i 1) ?_
  refine lq_xs rfl (by omega) hL rfl ?_
  refine lq_cX (as := [.int (xs (i + 1))]) rfl rfl rfl rfl hI (fun z => cCall_10 z) ?_
  intro a9 V2 x9 h1 d s D2 S2 hI1 e1 e2
  refine lq_gos (f := 200000) (pc2 := 578) (ls2 := [(4, .int (nI i)), (3, .ref 232), (2, .ref 162), (1, .ref 0), (0, .ref 11)]) (st2 := [.int (nI i + (1 : Int32)), .ref 11, .ref 162]) (h2 := h1) (dc2 := (dc + d)) (ds2 := (ds + s)) 6 rfl ?_
  refine lq_vi (show nI i + (1 : Int32) = nI (i + 1) from nI_add i 1) ?_
  refine lq_xs rfl (by omega) hL rfl ?_
  refine lq_mA (as := [.int (xs (i + 1))]) rfl rfl rfl rfl hI1 (fun z => rCall_10 (R2 := tie V2) z (tie_aat x9)) ?_
  intro h2 hI2
  refine lq_gos (f := 200000) (pc2 := 1773) (ls2 := [(4, .int (nI i)), (3, .ref 232), (2, .ref 162), (1, .ref 0), (0, .ref 11)]) (st2 := []) (h2 := h2) (dc2 := (dc + d)) (ds2 := (ds + s)) 2 rfl ?_
  exact kk h2 d s D2 S2 _ hI2 (by omega) (by omega)
set_option maxHeartbeats 4000000 in
theorem lop_11 {L : Nat} {xs : Nat → Int32} {i : Nat} {h : zH} {dc ds D S : Nat} {V : cV} (hI : LInv h D S V (tie V)) (hi : i + 6 ≤ L) (hL : L ≤ 3072) (kk : ∀ (h2 : zH) (d s D2 S2 : Nat) (V2 : cV), LInv h2 D2 S2 V2 (tie V2) → d + D ≤ D2 + 1 → s + S ≤ S2 + 6 → lq L xs 1773 [(4, .int (nI i)), (3, .ref 232), (2, .ref 162), (1, .ref 0), (0, .ref 11)] [] h2 (dc + d) (ds + s)) : lq L xs 586 [(4, .int (nI i)), (3, .ref 232), (2, .ref 162), (1, .ref 0), (0, .ref 11)] [] h dc ds := by
  refine lq_gos (f := 200000) (pc2 := 592) (ls2 := [(4, .int (nI i)), (3, .ref 232), (2, .ref 162), (1, .ref 0), (0, .ref 11)]) (st2 := [.int (nI i + (1 : Int32)), .ref 11, .ref 0]) (h2 := h) (dc2 := dc) (ds2 := ds) 5 rfl ?_
  refine lq_vi (show nI i + (1 : Int32) = nI (i + 1) from nI_add i 1) ?_
  refine lq_xs rfl (by omega) hL rfl ?_
  refine lq_gos (f := 200000) (pc2 := 598) (ls2 := [(4, .int (nI i)), (3, .ref 232), (2, .ref 162), (1, .ref 0), (0, .ref 11)]) (st2 := [.int (nI i + (2 : Int32)), .ref 11, .int (xs (i + 1)), .ref 0]) (h2 := h) (dc2 := dc) (ds2 := ds) 4 rfl ?_
  refine lq_vi (show nI i + (2 : Int32) = nI (i + 2) from nI_add i 2) ?_
  refine lq_xs rfl (by omega) hL rfl ?_
  refine lq_gos (f := 200000) (pc2 := 608) (ls2 := [(4, .int (nI i)), (3, .ref 232), (2, .ref 162), (1, .ref 0), (0, .ref 11)]) (st2 := [.int (nI i + (3 : Int32)), .ref 11, .long ((xs (i + 2)).toInt64 <<< (((32 : Int32)).toInt64 &&& 63)), .int (xs (i + 1)), .ref 0]) (h2 := h) (dc2 := dc) (ds2 := ds) 7 rfl ?_
  refine lq_vi (show nI i + (3 : Int32) = nI (i + 3) from nI_add i 3) ?_
  refine lq_xs rfl (by omega) hL rfl ?_
  refine lq_gos (f := 200000) (pc2 := 615) (ls2 := [(4, .int (nI i)), (3, .ref 232), (2, .ref 162), (1, .ref 0), (0, .ref 11)]) (st2 := [.long (((xs (i + 2)).toInt64 <<< (((32 : Int32)).toInt64 &&& 63)) ||| ((xs (i + 3)).toInt64 &&& (4294967295 : Int64))), .int (xs (i + 1)), .ref 0]) (h2 := h) (dc2 := dc) (ds2 := ds) 4 rfl ?_
  refine lq_cX (as := [.int (xs (i + 1)), .long (((xs (i + 2)).toInt64 <<< (((32 : Int32)).toInt64 &&& 63)) ||| ((xs (i + 3)).toInt64 &&& (4294967295 : Int64)))]) rfl rfl rfl rfl hI (fun z => cCall_11 z) ?_
  intro a9 V2 x9 h1 d s D2 S2 hI1 e1 e2
  refine lq_gos (f := 200000) (pc2 := 625) (ls2 := [(4, .int (nI i)), (3, .ref 232), (2, .ref 162), (1, .ref 0), (0, .ref 11)]) (st2 := [.int (nI i + (1 : Int32)), .ref 11, .ref 162]) (h2 := h1) (dc2 := (dc + d)) (ds2 := (ds + s)) 6 rfl ?_
  refine lq_vi (show nI i + (1 : Int32) = nI (i + 1) from nI_add i 1) ?_
  refine lq_xs rfl (by omega) hL rfl ?_
  refine lq_gos (f := 200000) (pc2 := 631) (ls2 := [(4, .int (nI i)), (3, .ref 232), (2, .ref 162), (1, .ref 0), (0, .ref 11)]) (st2 := [.int (nI i + (2 : Int32)), .ref 11, .int (xs (i + 1)), .ref 162]) (h2 := h1) (dc2 := (dc + d)) (ds2 := (ds + s)) 4 rfl ?_
  refine lq_vi (show nI i + (2 : Int32) = nI (i + 2) from nI_add i 2) ?_
  refine lq_xs rfl (by omega) hL rfl ?_
  refine lq_gos (f := 200000) (pc2 := 641) (ls2 := [(4, .int (nI i)), (3, .ref 232), (2, .ref 162), (1, .ref 0), (0, .ref 11)]) (st2 := [.int (nI i + (3 : Int32)), .ref 11, .long ((xs (i + 2)).toInt64 <<< (((32 : Int32)).toInt64 &&& 63)), .int (xs (i + 1)), .ref 162]) (h2 := h1) (dc2 := (dc + d)) (ds2 := (ds + s)) 7 rfl ?_
  refine lq_vi (show nI i + (3 : Int32) = nI (i + 3) from nI_add i 3) ?_
  refine lq_xs rfl (by omega) hL rfl ?_
  refine lq_gos (f := 200000) (pc2 := 648) (ls2 := [(4, .int (nI i)), (3, .ref 232), (2, .ref 162), (1, .ref 0), (0, .ref 11)]) (st2 := [.long (((xs (i + 2)).toInt64 <<< (((32 : Int32)).toInt64 &&& 63)) ||| ((xs (i + 3)).toInt64 &&& (4294967295 : Int64))), .int (xs (i + 1)), .ref 162]) (h2 := h1) (dc2 := (dc + d)) (ds2 := (ds + s)) 4 rfl ?_
  refine lq_mA (as := [.int (xs (i + 1)), .long (((xs (i + 2)).toInt64 <<< (((32 : Int32)).toInt64 &&& 63)) ||| ((xs (i + 3)).toInt64 &&& (4294967295 : Int64)))]) rfl rfl rfl rfl hI1 (fun z => rCall_11 (R2 := tie V2) z (tie_aby x9)) ?_
  intro h2 hI2
  refine lq_gos (f := 200000) (pc2 := 1773) (ls2 := [(4, .int (nI i)), (3, .ref 232), (2, .ref 162), (1, .ref 0), (0, .ref 11)]) (st2 := []) (h2 := h2) (dc2 := (dc + d)) (ds2 := (ds + s)) 2 rfl ?_
  exact kk h2 d s D2 S2 _ hI2 (by omega) (by omega)
set_option maxHeartbeats 4000000 in
theorem lop_12 {L : Nat} {xs : Nat → Int32} {i : Nat} {h : zH} {dc ds D S : Nat} {V : cV} (hI : LInv h D S V (tie V)) (hi : i + 6 ≤ L) (hL : L ≤ 3072) (kk : ∀ (h2 : zH) (d s D2 S2 : Nat) (V2 : cV), LInv h2 D2 S2 V2 (tie V2) → d + D ≤ D2 + 1 → s + S ≤ S2 + 6 → lq L xs 1773 [(4, .int (nI i)), (3, .ref 232), (2, .ref 162), (1, .ref 0), (0, .ref 11)] [] h2 (dc + d) (ds + s)) : lq L xs 655 [(4, .int (nI i)), (3, .ref 232), (2, .ref 162), (1, .ref 0), (0, .ref 11)] [] h dc ds := by
  refine lq_gos (f := 200000) (pc2 := 656) (ls2 := [(4, .int (nI i)), (3, .ref 232), (2, .ref 162), (1, .ref 0), (0, .ref 11)]) (st2 := [.ref 0]) (h2 := h) (dc2 := dc) (ds2 := ds) 1 rfl ?_
  refine lq_c (as := []) rfl rfl rfl rfl hI (fun z => cCall_12 z) ?_
  intro v1 h1 d s D2 S2 hI1 e1 e2
  refine lq_gos (f := 200000) (pc2 := 661) (ls2 := [(4, .int (nI i)), (3, .ref 232), (2, .ref 162), (1, .ref 0), (0, .ref 11)]) (st2 := [.ref 162]) (h2 := h1) (dc2 := (dc + d)) (ds2 := (ds + s)) 2 rfl ?_
  refine lq_m (as := []) rfl rfl rfl rfl hI1 (fun z => rCall_12 z) ?_
  intro v2 h2 hI2
  refine lq_gos (f := 200000) (pc2 := 1773) (ls2 := [(4, .int (nI i)), (3, .ref 232), (2, .ref 162), (1, .ref 0), (0, .ref 11)]) (st2 := []) (h2 := h2) (dc2 := (dc + d)) (ds2 := (ds + s)) 2 rfl ?_
  exact kk h2 d s D2 S2 _ hI2 (by omega) (by omega)
set_option maxHeartbeats 4000000 in
theorem lop_13 {L : Nat} {xs : Nat → Int32} {i : Nat} {h : zH} {dc ds D S : Nat} {V : cV} (hI : LInv h D S V (tie V)) (hi : i + 6 ≤ L) (hL : L ≤ 3072) (kk : ∀ (h2 : zH) (d s D2 S2 : Nat) (V2 : cV), LInv h2 D2 S2 V2 (tie V2) → d + D ≤ D2 + 1 → s + S ≤ S2 + 6 → lq L xs 1773 [(4, .int (nI i)), (3, .ref 232), (2, .ref 162), (1, .ref 0), (0, .ref 11)] [] h2 (dc + d) (ds + s)) : lq L xs 668 [(4, .int (nI i)), (3, .ref 232), (2, .ref 162), (1, .ref 0), (0, .ref 11)] [] h dc ds := by
  refine lq_gos (f := 200000) (pc2 := 674) (ls2 := [(4, .int (nI i)), (3, .ref 232), (2, .ref 162), (1, .ref 0), (0, .ref 11)]) (st2 := [.int (nI i + (1 : Int32)), .ref 11, .ref 0]) (h2 := h) (dc2 := dc) (ds2 := ds) 5 rfl ?_
  refine lq_vi (show nI i + (1 : Int32) = nI (i + 1) from nI_add i 1) ?_
  refine lq_xs rfl (by omega) hL rfl ?_
  refine lq_gos (f := 200000) (pc2 := 680) (ls2 := [(4, .int (nI i)), (3, .ref 232), (2, .ref 162), (1, .ref 0), (0, .ref 11)]) (st2 := [.int (nI i + (2 : Int32)), .ref 11, .int (xs (i + 1)), .ref 0]) (h2 := h) (dc2 := dc) (ds2 := ds) 4 rfl ?_
  refine lq_vi (show nI i + (2 : Int32) = nI (i + 2) from nI_add i 2) ?_
  refine lq_xs rfl (by omega) hL rfl ?_
  refine lq_c (as := [.int (xs (i + 1)), .int (xs (i + 2))]) rfl rfl rfl rfl hI (fun z => cCall_13 z) ?_
  intro v1 h1 d s D2 S2 hI1 e1 e2
  refine lq_gos (f := 200000) (pc2 := 691) (ls2 := [(4, .int (nI i)), (3, .ref 232), (2, .ref 162), (1, .ref 0), (0, .ref 11)]) (st2 := [.int (nI i + (1 : Int32)), .ref 11, .ref 162]) (h2 := h1) (dc2 := (dc + d)) (ds2 := (ds + s)) 6 rfl ?_
  refine lq_vi (show nI i + (1 : Int32) = nI (i + 1) from nI_add i 1) ?_
  refine lq_xs rfl (by omega) hL rfl ?_
  refine lq_gos (f := 200000) (pc2 := 697) (ls2 := [(4, .int (nI i)), (3, .ref 232), (2, .ref 162), (1, .ref 0), (0, .ref 11)]) (st2 := [.int (nI i + (2 : Int32)), .ref 11, .int (xs (i + 1)), .ref 162]) (h2 := h1) (dc2 := (dc + d)) (ds2 := (ds + s)) 4 rfl ?_
  refine lq_vi (show nI i + (2 : Int32) = nI (i + 2) from nI_add i 2) ?_
  refine lq_xs rfl (by omega) hL rfl ?_
  refine lq_m (as := [.int (xs (i + 1)), .int (xs (i + 2))]) rfl rfl rfl rfl hI1 (fun z => rCall_13 z) ?_
  intro v2 h2 hI2
  refine lq_gos (f := 200000) (pc2 := 1773) (ls2 := [(4, .int (nI i)), (3, .ref 232), (2, .ref 162), (1, .ref 0), (0, .ref 11)]) (st2 := []) (h2 := h2) (dc2 := (dc + d)) (ds2 := (ds + s)) 2 rfl ?_
  exact kk h2 d s D2 S2 _ hI2 (by omega) (by omega)
set_option maxHeartbeats 4000000 in
theorem lop_14 {L : Nat} {xs : Nat → Int32} {i : Nat} {h : zH} {dc ds D S : Nat} {V : cV} (hI : LInv h D S V (tie V)) (hi : i + 6 ≤ L) (hL : L ≤ 3072) (kk : ∀ (h2 : zH) (d s D2 S2 : Nat) (V2 : cV), LInv h2 D2 S2 V2 (tie V2) → d + D ≤ D2 + 1 → s + S ≤ S2 + 6 → lq L xs 1773 [(4, .int (nI i)), (3, .ref 232), (2, .ref 162), (1, .ref 0), (0, .ref 11)] [] h2 (dc + d) (ds + s)) : lq L xs 705 [(4, .int (nI i)), (3, .ref 232), (2, .ref 162), (1, .ref 0), (0, .ref 11)] [] h dc ds := by
  refine lq_gos (f := 200000) (pc2 := 711) (ls2 := [(4, .int (nI i)), (3, .ref 232), (2, .ref 162), (1, .ref 0), (0, .ref 11)]) (st2 := [.int (nI i + (1 : Int32)), .ref 11, .ref 0]) (h2 := h) (dc2 := dc) (ds2 := ds) 5 rfl ?_
  refine lq_vi (show nI i + (1 : Int32) = nI (i + 1) from nI_add i 1) ?_
  refine lq_xs rfl (by omega) hL rfl ?_
  refine lq_gos (f := 200000) (pc2 := 717) (ls2 := [(4, .int (nI i)), (3, .ref 232), (2, .ref 162), (1, .ref 0), (0, .ref 11)]) (st2 := [.int (nI i + (2 : Int32)), .ref 11, .int (xs (i + 1)), .ref 0]) (h2 := h) (dc2 := dc) (ds2 := ds) 4 rfl ?_
  refine lq_vi (show nI i + (2 : Int32) = nI (i + 2) from nI_add i 2) ?_
  refine lq_xs rfl (by omega) hL rfl ?_
  refine lq_c (as := [.int (xs (i + 1)), .int (xs (i + 2))]) rfl rfl rfl rfl hI (fun z => cCall_14 z) ?_
  intro v1 h1 d s D2 S2 hI1 e1 e2
  refine lq_gos (f := 200000) (pc2 := 728) (ls2 := [(4, .int (nI i)), (3, .ref 232), (2, .ref 162), (1, .ref 0), (0, .ref 11)]) (st2 := [.int (nI i + (1 : Int32)), .ref 11, .ref 162]) (h2 := h1) (dc2 := (dc + d)) (ds2 := (ds + s)) 6 rfl ?_
  refine lq_vi (show nI i + (1 : Int32) = nI (i + 1) from nI_add i 1) ?_
  refine lq_xs rfl (by omega) hL rfl ?_
  refine lq_gos (f := 200000) (pc2 := 734) (ls2 := [(4, .int (nI i)), (3, .ref 232), (2, .ref 162), (1, .ref 0), (0, .ref 11)]) (st2 := [.int (nI i + (2 : Int32)), .ref 11, .int (xs (i + 1)), .ref 162]) (h2 := h1) (dc2 := (dc + d)) (ds2 := (ds + s)) 4 rfl ?_
  refine lq_vi (show nI i + (2 : Int32) = nI (i + 2) from nI_add i 2) ?_
  refine lq_xs rfl (by omega) hL rfl ?_
  refine lq_m (as := [.int (xs (i + 1)), .int (xs (i + 2))]) rfl rfl rfl rfl hI1 (fun z => rCall_14 z) ?_
  intro v2 h2 hI2
  refine lq_gos (f := 200000) (pc2 := 1773) (ls2 := [(4, .int (nI i)), (3, .ref 232), (2, .ref 162), (1, .ref 0), (0, .ref 11)]) (st2 := []) (h2 := h2) (dc2 := (dc + d)) (ds2 := (ds + s)) 2 rfl ?_
  exact kk h2 d s D2 S2 _ hI2 (by omega) (by omega)
set_option maxHeartbeats 4000000 in
theorem lop_15 {L : Nat} {xs : Nat → Int32} {i : Nat} {h : zH} {dc ds D S : Nat} {V : cV} (hI : LInv h D S V (tie V)) (hi : i + 6 ≤ L) (hL : L ≤ 3072) (kk : ∀ (h2 : zH) (d s D2 S2 : Nat) (V2 : cV), LInv h2 D2 S2 V2 (tie V2) → d + D ≤ D2 + 1 → s + S ≤ S2 + 6 → lq L xs 1773 [(4, .int (nI i)), (3, .ref 232), (2, .ref 162), (1, .ref 0), (0, .ref 11)] [] h2 (dc + d) (ds + s)) : lq L xs 742 [(4, .int (nI i)), (3, .ref 232), (2, .ref 162), (1, .ref 0), (0, .ref 11)] [] h dc ds := by
  refine lq_gos (f := 200000) (pc2 := 743) (ls2 := [(4, .int (nI i)), (3, .ref 232), (2, .ref 162), (1, .ref 0), (0, .ref 11)]) (st2 := [.ref 0]) (h2 := h) (dc2 := dc) (ds2 := ds) 1 rfl ?_
  refine lq_c (as := []) rfl rfl rfl rfl hI (fun z => cCall_15 z) ?_
  intro v1 h1 d s D2 S2 hI1 e1 e2
  refine lq_gos (f := 200000) (pc2 := 748) (ls2 := [(4, .int (nI i)), (3, .ref 232), (2, .ref 162), (1, .ref 0), (0, .ref 11)]) (st2 := [.ref 162]) (h2 := h1) (dc2 := (dc + d)) (ds2 := (ds + s)) 2 rfl ?_
  refine lq_m (as := []) rfl rfl rfl rfl hI1 (fun z => rCall_15 z) ?_
  intro v2 h2 hI2
  refine lq_gos (f := 200000) (pc2 := 1773) (ls2 := [(4, .int (nI i)), (3, .ref 232), (2, .ref 162), (1, .ref 0), (0, .ref 11)]) (st2 := []) (h2 := h2) (dc2 := (dc + d)) (ds2 := (ds + s)) 2 rfl ?_
  exact kk h2 d s D2 S2 _ hI2 (by omega) (by omega)
set_option maxHeartbeats 4000000 in
theorem lop_16 {L : Nat} {xs : Nat → Int32} {i : Nat} {h : zH} {dc ds D S : Nat} {V : cV} (hI : LInv h D S V (tie V)) (hi : i + 6 ≤ L) (hL : L ≤ 3072) (kk : ∀ (h2 : zH) (d s D2 S2 : Nat) (V2 : cV), LInv h2 D2 S2 V2 (tie V2) → d + D ≤ D2 + 1 → s + S ≤ S2 + 6 → lq L xs 1773 [(4, .int (nI i)), (3, .ref 232), (2, .ref 162), (1, .ref 0), (0, .ref 11)] [] h2 (dc + d) (ds + s)) : lq L xs 755 [(4, .int (nI i)), (3, .ref 232), (2, .ref 162), (1, .ref 0), (0, .ref 11)] [] h dc ds := by
  refine lq_gos (f := 200000) (pc2 := 761) (ls2 := [(4, .int (nI i)), (3, .ref 232), (2, .ref 162), (1, .ref 0), (0, .ref 11)]) (st2 := [.int (nI i + (1 : Int32)), .ref 11, .ref 0]) (h2 := h) (dc2 := dc) (ds2 := ds) 5 rfl ?_
  refine lq_vi (show nI i + (1 : Int32) = nI (i + 1) from nI_add i 1) ?_
  refine lq_xs rfl (by omega) hL rfl ?_
  by_cases hb1 : xs (i + 1) = 0
  · refine lq_eqt rfl hb1 ?_
    refine lq_gos (f := 200000) (pc2 := 770) (ls2 := [(4, .int (nI i)), (3, .ref 232), (2, .ref 162), (1, .ref 0), (0, .ref 11)]) (st2 := [.int 0, .ref 0]) (h2 := h) (dc2 := dc) (ds2 := ds) 1 rfl ?_
    refine lq_c (as := [.int 0]) rfl rfl rfl rfl hI (fun z => cCall_16 z) ?_
    intro v1 h1 d s D2 S2 hI1 e1 e2
    refine lq_gos (f := 200000) (pc2 := 780) (ls2 := [(4, .int (nI i)), (3, .ref 232), (2, .ref 162), (1, .ref 0), (0, .ref 11)]) (st2 := [.int (nI i + (1 : Int32)), .ref 11, .ref 162]) (h2 := h1) (dc2 := (dc + d)) (ds2 := (ds + s)) 6 rfl ?_
    refine lq_vi (show nI i + (1 : Int32) = nI (i + 1) from nI_add i 1) ?_
    refine lq_xs rfl (by omega) hL rfl ?_
    refine lq_eqt rfl hb1 ?_
    refine lq_gos (f := 200000) (pc2 := 789) (ls2 := [(4, .int (nI i)), (3, .ref 232), (2, .ref 162), (1, .ref 0), (0, .ref 11)]) (st2 := [.int 0, .ref 162]) (h2 := h1) (dc2 := (dc + d)) (ds2 := (ds + s)) 1 rfl ?_
    refine lq_m (as := [.int 0]) rfl rfl rfl rfl hI1 (fun z => rCall_16 z) ?_
    intro v2 h2 hI2
    refine lq_gos (f := 200000) (pc2 := 1773) (ls2 := [(4, .int (nI i)), (3, .ref 232), (2, .ref 162), (1, .ref 0), (0, .ref 11)]) (st2 := []) (h2 := h2) (dc2 := (dc + d)) (ds2 := (ds + s)) 2 rfl ?_
    exact kk h2 d s D2 S2 _ hI2 (by omega) (by omega)
  · refine lq_eqf rfl rfl hb1 ?_
    refine lq_gos (f := 200000) (pc2 := 770) (ls2 := [(4, .int (nI i)), (3, .ref 232), (2, .ref 162), (1, .ref 0), (0, .ref 11)]) (st2 := [.int 1, .ref 0]) (h2 := h) (dc2 := dc) (ds2 := ds) 2 rfl ?_
    refine lq_c (as := [.int 1]) rfl rfl rfl rfl hI (fun z => cCall_16 z) ?_
    intro v1 h1 d s D2 S2 hI1 e1 e2
    refine lq_gos (f := 200000) (pc2 := 780) (ls2 := [(4, .int (nI i)), (3, .ref 232), (2, .ref 162), (1, .ref 0), (0, .ref 11)]) (st2 := [.int (nI i + (1 : Int32)), .ref 11, .ref 162]) (h2 := h1) (dc2 := (dc + d)) (ds2 := (ds + s)) 6 rfl ?_
    refine lq_vi (show nI i + (1 : Int32) = nI (i + 1) from nI_add i 1) ?_
    refine lq_xs rfl (by omega) hL rfl ?_
    refine lq_eqf rfl rfl hb1 ?_
    refine lq_gos (f := 200000) (pc2 := 789) (ls2 := [(4, .int (nI i)), (3, .ref 232), (2, .ref 162), (1, .ref 0), (0, .ref 11)]) (st2 := [.int 1, .ref 162]) (h2 := h1) (dc2 := (dc + d)) (ds2 := (ds + s)) 2 rfl ?_
    refine lq_m (as := [.int 1]) rfl rfl rfl rfl hI1 (fun z => rCall_16 z) ?_
    intro v2 h2 hI2
    refine lq_gos (f := 200000) (pc2 := 1773) (ls2 := [(4, .int (nI i)), (3, .ref 232), (2, .ref 162), (1, .ref 0), (0, .ref 11)]) (st2 := []) (h2 := h2) (dc2 := (dc + d)) (ds2 := (ds + s)) 2 rfl ?_
    exact kk h2 d s D2 S2 _ hI2 (by omega) (by omega)
set_option maxHeartbeats 4000000 in
theorem lop_17 {L : Nat} {xs : Nat → Int32} {i : Nat} {h : zH} {dc ds D S : Nat} {V : cV} (hI : LInv h D S V (tie V)) (hi : i + 6 ≤ L) (hL : L ≤ 3072) (kk : ∀ (h2 : zH) (d s D2 S2 : Nat) (V2 : cV), LInv h2 D2 S2 V2 (tie V2) → d + D ≤ D2 + 1 → s + S ≤ S2 + 6 → lq L xs 1773 [(4, .int (nI i)), (3, .ref 232), (2, .ref 162), (1, .ref 0), (0, .ref 11)] [] h2 (dc + d) (ds + s)) : lq L xs 796 [(4, .int (nI i)), (3, .ref 232), (2, .ref 162), (1, .ref 0), (0, .ref 11)] [] h dc ds := by
  refine lq_gos (f := 200000) (pc2 := 797) (ls2 := [(4, .int (nI i)), (3, .ref 232), (2, .ref 162), (1, .ref 0), (0, .ref 11)]) (st2 := [.ref 0]) (h2 := h) (dc2 := dc) (ds2 := ds) 1 rfl ?_
  refine lq_c (as := []) rfl rfl rfl rfl hI (fun z => cCall_17 z) ?_
  intro v1 h1 d s D2 S2 hI1 e1 e2
  refine lq_gos (f := 200000) (pc2 := 802) (ls2 := [(4, .int (nI i)), (3, .ref 232), (2, .ref 162), (1, .ref 0), (0, .ref 11)]) (st2 := [.ref 162]) (h2 := h1) (dc2 := (dc + d)) (ds2 := (ds + s)) 2 rfl ?_
  refine lq_m (as := []) rfl rfl rfl rfl hI1 (fun z => rCall_17 z) ?_
  intro v2 h2 hI2
  refine lq_gos (f := 200000) (pc2 := 1773) (ls2 := [(4, .int (nI i)), (3, .ref 232), (2, .ref 162), (1, .ref 0), (0, .ref 11)]) (st2 := []) (h2 := h2) (dc2 := (dc + d)) (ds2 := (ds + s)) 2 rfl ?_
  exact kk h2 d s D2 S2 _ hI2 (by omega) (by omega)
set_option maxHeartbeats 4000000 in
theorem lop_18 {L : Nat} {xs : Nat → Int32} {i : Nat} {h : zH} {dc ds D S : Nat} {V : cV} (hI : LInv h D S V (tie V)) (hi : i + 6 ≤ L) (hL : L ≤ 3072) (kk : ∀ (h2 : zH) (d s D2 S2 : Nat) (V2 : cV), LInv h2 D2 S2 V2 (tie V2) → d + D ≤ D2 + 1 → s + S ≤ S2 + 6 → lq L xs 1773 [(4, .int (nI i)), (3, .ref 232), (2, .ref 162), (1, .ref 0), (0, .ref 11)] [] h2 (dc + d) (ds + s)) : lq L xs 809 [(4, .int (nI i)), (3, .ref 232), (2, .ref 162), (1, .ref 0), (0, .ref 11)] [] h dc ds := by
  refine lq_gos (f := 200000) (pc2 := 815) (ls2 := [(4, .int (nI i)), (3, .ref 232), (2, .ref 162), (1, .ref 0), (0, .ref 11)]) (st2 := [.int (nI i + (1 : Int32)), .ref 11, .ref 0]) (h2 := h) (dc2 := dc) (ds2 := ds) 5 rfl ?_
  refine lq_vi (show nI i + (1 : Int32) = nI (i + 1) from nI_add i 1) ?_
  refine lq_xs rfl (by omega) hL rfl ?_
  refine lq_cX (as := [.int (xs (i + 1))]) rfl rfl rfl rfl hI (fun z => cCall_18 z) ?_
  intro a9 V2 x9 h1 d s D2 S2 hI1 e1 e2
  refine lq_gos (f := 200000) (pc2 := 826) (ls2 := [(4, .int (nI i)), (3, .ref 232), (2, .ref 162), (1, .ref 0), (0, .ref 11)]) (st2 := [.int (nI i + (1 : Int32)), .ref 11, .ref 162]) (h2 := h1) (dc2 := (dc + d)) (ds2 := (ds + s)) 6 rfl ?_
  refine lq_vi (show nI i + (1 : Int32) = nI (i + 1) from nI_add i 1) ?_
  refine lq_xs rfl (by omega) hL rfl ?_
  refine lq_mA (as := [.int (xs (i + 1))]) rfl rfl rfl rfl hI1 (fun z => rCall_18 (R2 := tie V2) z (tie_tak x9)) ?_
  intro h2 hI2
  refine lq_gos (f := 200000) (pc2 := 1773) (ls2 := [(4, .int (nI i)), (3, .ref 232), (2, .ref 162), (1, .ref 0), (0, .ref 11)]) (st2 := []) (h2 := h2) (dc2 := (dc + d)) (ds2 := (ds + s)) 2 rfl ?_
  exact kk h2 d s D2 S2 _ hI2 (by omega) (by omega)
set_option maxHeartbeats 4000000 in
theorem lop_19 {L : Nat} {xs : Nat → Int32} {i : Nat} {h : zH} {dc ds D S : Nat} {V : cV} (hI : LInv h D S V (tie V)) (hi : i + 6 ≤ L) (hL : L ≤ 3072) (kk : ∀ (h2 : zH) (d s D2 S2 : Nat) (V2 : cV), LInv h2 D2 S2 V2 (tie V2) → d + D ≤ D2 + 1 → s + S ≤ S2 + 6 → lq L xs 1773 [(4, .int (nI i)), (3, .ref 232), (2, .ref 162), (1, .ref 0), (0, .ref 11)] [] h2 (dc + d) (ds + s)) : lq L xs 834 [(4, .int (nI i)), (3, .ref 232), (2, .ref 162), (1, .ref 0), (0, .ref 11)] [] h dc ds := by
  refine lq_gos (f := 200000) (pc2 := 840) (ls2 := [(4, .int (nI i)), (3, .ref 232), (2, .ref 162), (1, .ref 0), (0, .ref 11)]) (st2 := [.int (nI i + (1 : Int32)), .ref 11, .ref 0]) (h2 := h) (dc2 := dc) (ds2 := ds) 5 rfl ?_
  refine lq_vi (show nI i + (1 : Int32) = nI (i + 1) from nI_add i 1) ?_
  refine lq_xs rfl (by omega) hL rfl ?_
  refine lq_gos (f := 200000) (pc2 := 846) (ls2 := [(4, .int (nI i)), (3, .ref 232), (2, .ref 162), (1, .ref 0), (0, .ref 11)]) (st2 := [.int (nI i + (2 : Int32)), .ref 11, .int (xs (i + 1)), .ref 0]) (h2 := h) (dc2 := dc) (ds2 := ds) 4 rfl ?_
  refine lq_vi (show nI i + (2 : Int32) = nI (i + 2) from nI_add i 2) ?_
  refine lq_xs rfl (by omega) hL rfl ?_
  refine lq_gos (f := 200000) (pc2 := 852) (ls2 := [(4, .int (nI i)), (3, .ref 232), (2, .ref 162), (1, .ref 0), (0, .ref 11)]) (st2 := [.int (nI i + (3 : Int32)), .ref 11, .int (xs (i + 2)), .int (xs (i + 1)), .ref 0]) (h2 := h) (dc2 := dc) (ds2 := ds) 4 rfl ?_
  refine lq_vi (show nI i + (3 : Int32) = nI (i + 3) from nI_add i 3) ?_
  refine lq_xs rfl (by omega) hL rfl ?_
  refine lq_c (as := [.int (xs (i + 1)), .int (xs (i + 2)), .int (xs (i + 3))]) rfl rfl rfl rfl hI (fun z => cCall_19 z) ?_
  intro v1 h1 d s D2 S2 hI1 e1 e2
  refine lq_gos (f := 200000) (pc2 := 863) (ls2 := [(4, .int (nI i)), (3, .ref 232), (2, .ref 162), (1, .ref 0), (0, .ref 11)]) (st2 := [.int (nI i + (1 : Int32)), .ref 11, .ref 162]) (h2 := h1) (dc2 := (dc + d)) (ds2 := (ds + s)) 6 rfl ?_
  refine lq_vi (show nI i + (1 : Int32) = nI (i + 1) from nI_add i 1) ?_
  refine lq_xs rfl (by omega) hL rfl ?_
  refine lq_gos (f := 200000) (pc2 := 869) (ls2 := [(4, .int (nI i)), (3, .ref 232), (2, .ref 162), (1, .ref 0), (0, .ref 11)]) (st2 := [.int (nI i + (2 : Int32)), .ref 11, .int (xs (i + 1)), .ref 162]) (h2 := h1) (dc2 := (dc + d)) (ds2 := (ds + s)) 4 rfl ?_
  refine lq_vi (show nI i + (2 : Int32) = nI (i + 2) from nI_add i 2) ?_
  refine lq_xs rfl (by omega) hL rfl ?_
  refine lq_gos (f := 200000) (pc2 := 875) (ls2 := [(4, .int (nI i)), (3, .ref 232), (2, .ref 162), (1, .ref 0), (0, .ref 11)]) (st2 := [.int (nI i + (3 : Int32)), .ref 11, .int (xs (i + 2)), .int (xs (i + 1)), .ref 162]) (h2 := h1) (dc2 := (dc + d)) (ds2 := (ds + s)) 4 rfl ?_
  refine lq_vi (show nI i + (3 : Int32) = nI (i + 3) from nI_add i 3) ?_
  refine lq_xs rfl (by omega) hL rfl ?_
  refine lq_m (as := [.int (xs (i + 1)), .int (xs (i + 2)), .int (xs (i + 3))]) rfl rfl rfl rfl hI1 (fun z => rCall_19 z) ?_
  intro v2 h2 hI2
  refine lq_gos (f := 200000) (pc2 := 1773) (ls2 := [(4, .int (nI i)), (3, .ref 232), (2, .ref 162), (1, .ref 0), (0, .ref 11)]) (st2 := []) (h2 := h2) (dc2 := (dc + d)) (ds2 := (ds + s)) 2 rfl ?_
  exact kk h2 d s D2 S2 _ hI2 (by omega) (by omega)
set_option maxHeartbeats 4000000 in
theorem lop_20 {L : Nat} {xs : Nat → Int32} {i : Nat} {h : zH} {dc ds D S : Nat} {V : cV} (hI : LInv h D S V (tie V)) (hi : i + 6 ≤ L) (hL : L ≤ 3072) (kk : ∀ (h2 : zH) (d s D2 S2 : Nat) (V2 : cV), LInv h2 D2 S2 V2 (tie V2) → d + D ≤ D2 + 1 → s + S ≤ S2 + 6 → lq L xs 1773 [(4, .int (nI i)), (3, .ref 232), (2, .ref 162), (1, .ref 0), (0, .ref 11)] [] h2 (dc + d) (ds + s)) : lq L xs 883 [(4, .int (nI i)), (3, .ref 232), (2, .ref 162), (1, .ref 0), (0, .ref 11)] [] h dc ds := by
  refine lq_gos (f := 200000) (pc2 := 889) (ls2 := [(4, .int (nI i)), (3, .ref 232), (2, .ref 162), (1, .ref 0), (0, .ref 11)]) (st2 := [.int (nI i + (1 : Int32)), .ref 11, .ref 0]) (h2 := h) (dc2 := dc) (ds2 := ds) 5 rfl ?_
  refine lq_vi (show nI i + (1 : Int32) = nI (i + 1) from nI_add i 1) ?_
  refine lq_xs rfl (by omega) hL rfl ?_
  refine lq_c (as := [.int (xs (i + 1))]) rfl rfl rfl rfl hI (fun z => cCall_20 z) ?_
  intro v1 h1 d s D2 S2 hI1 e1 e2
  refine lq_gos (f := 200000) (pc2 := 900) (ls2 := [(4, .int (nI i)), (3, .ref 232), (2, .ref 162), (1, .ref 0), (0, .ref 11)]) (st2 := [.int (nI i + (1 : Int32)), .ref 11, .ref 162]) (h2 := h1) (dc2 := (dc + d)) (ds2 := (ds + s)) 6 rfl ?_
  refine lq_vi (show nI i + (1 : Int32) = nI (i + 1) from nI_add i 1) ?_
  refine lq_xs rfl (by omega) hL rfl ?_
  refine lq_m (as := [.int (xs (i + 1))]) rfl rfl rfl rfl hI1 (fun z => rCall_20 z) ?_
  intro v2 h2 hI2
  refine lq_gos (f := 200000) (pc2 := 1773) (ls2 := [(4, .int (nI i)), (3, .ref 232), (2, .ref 162), (1, .ref 0), (0, .ref 11)]) (st2 := []) (h2 := h2) (dc2 := (dc + d)) (ds2 := (ds + s)) 2 rfl ?_
  exact kk h2 d s D2 S2 _ hI2 (by omega) (by omega)
set_option maxHeartbeats 4000000 in
theorem lop_21 {L : Nat} {xs : Nat → Int32} {i : Nat} {h : zH} {dc ds D S : Nat} {V : cV} (hI : LInv h D S V (tie V)) (hi : i + 6 ≤ L) (hL : L ≤ 3072) (kk : ∀ (h2 : zH) (d s D2 S2 : Nat) (V2 : cV), LInv h2 D2 S2 V2 (tie V2) → d + D ≤ D2 + 1 → s + S ≤ S2 + 6 → lq L xs 1773 [(4, .int (nI i)), (3, .ref 232), (2, .ref 162), (1, .ref 0), (0, .ref 11)] [] h2 (dc + d) (ds + s)) : lq L xs 908 [(4, .int (nI i)), (3, .ref 232), (2, .ref 162), (1, .ref 0), (0, .ref 11)] [] h dc ds := by
  refine lq_gos (f := 200000) (pc2 := 914) (ls2 := [(4, .int (nI i)), (3, .ref 232), (2, .ref 162), (1, .ref 0), (0, .ref 11)]) (st2 := [.int (nI i + (1 : Int32)), .ref 11, .ref 0]) (h2 := h) (dc2 := dc) (ds2 := ds) 5 rfl ?_
  refine lq_vi (show nI i + (1 : Int32) = nI (i + 1) from nI_add i 1) ?_
  refine lq_xs rfl (by omega) hL rfl ?_
  by_cases hb1 : xs (i + 1) = 0
  · refine lq_eqt rfl hb1 ?_
    refine lq_gos (f := 200000) (pc2 := 923) (ls2 := [(4, .int (nI i)), (3, .ref 232), (2, .ref 162), (1, .ref 0), (0, .ref 11)]) (st2 := [.int 0, .ref 0]) (h2 := h) (dc2 := dc) (ds2 := ds) 1 rfl ?_
    refine lq_c (as := [.int 0]) rfl rfl rfl rfl hI (fun z => cCall_21_0 z) ?_
    intro v1 h1 d s D2 S2 hI1 e1 e2
    refine lq_gos (f := 200000) (pc2 := 933) (ls2 := [(4, .int (nI i)), (3, .ref 232), (2, .ref 162), (1, .ref 0), (0, .ref 11)]) (st2 := [.int (nI i + (1 : Int32)), .ref 11, .ref 162]) (h2 := h1) (dc2 := (dc + d)) (ds2 := (ds + s)) 6 rfl ?_
    refine lq_vi (show nI i + (1 : Int32) = nI (i + 1) from nI_add i 1) ?_
    refine lq_xs rfl (by omega) hL rfl ?_
    refine lq_eqt rfl hb1 ?_
    refine lq_gos (f := 200000) (pc2 := 942) (ls2 := [(4, .int (nI i)), (3, .ref 232), (2, .ref 162), (1, .ref 0), (0, .ref 11)]) (st2 := [.int 0, .ref 162]) (h2 := h1) (dc2 := (dc + d)) (ds2 := (ds + s)) 1 rfl ?_
    refine lq_m (as := [.int 0]) rfl rfl rfl rfl hI1 (fun z => rCall_m251_0 z) ?_
    intro v2 h2 hI2
    refine lq_gos (f := 200000) (pc2 := 1773) (ls2 := [(4, .int (nI i)), (3, .ref 232), (2, .ref 162), (1, .ref 0), (0, .ref 11)]) (st2 := []) (h2 := h2) (dc2 := (dc + d)) (ds2 := (ds + s)) 2 rfl ?_
    exact kk h2 d s D2 S2 _ hI2 (by omega) (by omega)
  · refine lq_eqf rfl rfl hb1 ?_
    refine lq_gos (f := 200000) (pc2 := 923) (ls2 := [(4, .int (nI i)), (3, .ref 232), (2, .ref 162), (1, .ref 0), (0, .ref 11)]) (st2 := [.int 1, .ref 0]) (h2 := h) (dc2 := dc) (ds2 := ds) 2 rfl ?_
    refine lq_c (as := [.int 1]) rfl rfl rfl rfl hI (fun z => cCall_21_1 z) ?_
    intro v1 h1 d s D2 S2 hI1 e1 e2
    refine lq_gos (f := 200000) (pc2 := 933) (ls2 := [(4, .int (nI i)), (3, .ref 232), (2, .ref 162), (1, .ref 0), (0, .ref 11)]) (st2 := [.int (nI i + (1 : Int32)), .ref 11, .ref 162]) (h2 := h1) (dc2 := (dc + d)) (ds2 := (ds + s)) 6 rfl ?_
    refine lq_vi (show nI i + (1 : Int32) = nI (i + 1) from nI_add i 1) ?_
    refine lq_xs rfl (by omega) hL rfl ?_
    refine lq_eqf rfl rfl hb1 ?_
    refine lq_gos (f := 200000) (pc2 := 942) (ls2 := [(4, .int (nI i)), (3, .ref 232), (2, .ref 162), (1, .ref 0), (0, .ref 11)]) (st2 := [.int 1, .ref 162]) (h2 := h1) (dc2 := (dc + d)) (ds2 := (ds + s)) 2 rfl ?_
    refine lq_m (as := [.int 1]) rfl rfl rfl rfl hI1 (fun z => rCall_m251_1 z) ?_
    intro v2 h2 hI2
    refine lq_gos (f := 200000) (pc2 := 1773) (ls2 := [(4, .int (nI i)), (3, .ref 232), (2, .ref 162), (1, .ref 0), (0, .ref 11)]) (st2 := []) (h2 := h2) (dc2 := (dc + d)) (ds2 := (ds + s)) 2 rfl ?_
    exact kk h2 d s D2 S2 _ hI2 (by omega) (by omega)
set_option maxHeartbeats 4000000 in
theorem lop_22 {L : Nat} {xs : Nat → Int32} {i : Nat} {h : zH} {dc ds D S : Nat} {V : cV} (hI : LInv h D S V (tie V)) (hi : i + 6 ≤ L) (hL : L ≤ 3072) (kk : ∀ (h2 : zH) (d s D2 S2 : Nat) (V2 : cV), LInv h2 D2 S2 V2 (tie V2) → d + D ≤ D2 + 1 → s + S ≤ S2 + 6 → lq L xs 1773 [(4, .int (nI i)), (3, .ref 232), (2, .ref 162), (1, .ref 0), (0, .ref 11)] [] h2 (dc + d) (ds + s)) : lq L xs 949 [(4, .int (nI i)), (3, .ref 232), (2, .ref 162), (1, .ref 0), (0, .ref 11)] [] h dc ds := by
  refine lq_gos (f := 200000) (pc2 := 955) (ls2 := [(4, .int (nI i)), (3, .ref 232), (2, .ref 162), (1, .ref 0), (0, .ref 11)]) (st2 := [.int (nI i + (1 : Int32)), .ref 11, .ref 0]) (h2 := h) (dc2 := dc) (ds2 := ds) 5 rfl ?_
  refine lq_vi (show nI i + (1 : Int32) = nI (i + 1) from nI_add i 1) ?_
  refine lq_xs rfl (by omega) hL rfl ?_
  by_cases hb1 : xs (i + 1) = 0
  · refine lq_eqt rfl hb1 ?_
    refine lq_gos (f := 200000) (pc2 := 969) (ls2 := [(4, .int (nI i)), (3, .ref 232), (2, .ref 162), (1, .ref 0), (0, .ref 11)]) (st2 := [.int (nI i + (2 : Int32)), .ref 11, .int 0, .ref 0]) (h2 := h) (dc2 := dc) (ds2 := ds) 5 rfl ?_
    refine lq_vi (show nI i + (2 : Int32) = nI (i + 2) from nI_add i 2) ?_
    refine lq_xs rfl (by omega) hL rfl ?_
    refine lq_c (as := [.int 0, .int (xs (i + 2))]) rfl rfl rfl rfl hI (fun z => cCall_22_0 z) ?_
    intro v1 h1 d s D2 S2 hI1 e1 e2
    refine lq_gos (f := 200000) (pc2 := 980) (ls2 := [(4, .int (nI i)), (3, .ref 232), (2, .ref 162), (1, .ref 0), (0, .ref 11)]) (st2 := [.int (nI i + (1 : Int32)), .ref 11, .ref 162]) (h2 := h1) (dc2 := (dc + d)) (ds2 := (ds + s)) 6 rfl ?_
    refine lq_vi (show nI i + (1 : Int32) = nI (i + 1) from nI_add i 1) ?_
    refine lq_xs rfl (by omega) hL rfl ?_
    refine lq_eqt rfl hb1 ?_
    refine lq_gos (f := 200000) (pc2 := 994) (ls2 := [(4, .int (nI i)), (3, .ref 232), (2, .ref 162), (1, .ref 0), (0, .ref 11)]) (st2 := [.int (nI i + (2 : Int32)), .ref 11, .int 0, .ref 162]) (h2 := h1) (dc2 := (dc + d)) (ds2 := (ds + s)) 5 rfl ?_
    refine lq_vi (show nI i + (2 : Int32) = nI (i + 2) from nI_add i 2) ?_
    refine lq_xs rfl (by omega) hL rfl ?_
    refine lq_m (as := [.int 0, .int (xs (i + 2))]) rfl rfl rfl rfl hI1 (fun z => rCall_m252_0 z) ?_
    intro v2 h2 hI2
    refine lq_gos (f := 200000) (pc2 := 1773) (ls2 := [(4, .int (nI i)), (3, .ref 232), (2, .ref 162), (1, .ref 0), (0, .ref 11)]) (st2 := []) (h2 := h2) (dc2 := (dc + d)) (ds2 := (ds + s)) 2 rfl ?_
    exact kk h2 d s D2 S2 _ hI2 (by omega) (by omega)
  · refine lq_eqf rfl rfl hb1 ?_
    refine lq_gos (f := 200000) (pc2 := 969) (ls2 := [(4, .int (nI i)), (3, .ref 232), (2, .ref 162), (1, .ref 0), (0, .ref 11)]) (st2 := [.int (nI i + (2 : Int32)), .ref 11, .int 1, .ref 0]) (h2 := h) (dc2 := dc) (ds2 := ds) 6 rfl ?_
    refine lq_vi (show nI i + (2 : Int32) = nI (i + 2) from nI_add i 2) ?_
    refine lq_xs rfl (by omega) hL rfl ?_
    refine lq_c (as := [.int 1, .int (xs (i + 2))]) rfl rfl rfl rfl hI (fun z => cCall_22_1 z) ?_
    intro v1 h1 d s D2 S2 hI1 e1 e2
    refine lq_gos (f := 200000) (pc2 := 980) (ls2 := [(4, .int (nI i)), (3, .ref 232), (2, .ref 162), (1, .ref 0), (0, .ref 11)]) (st2 := [.int (nI i + (1 : Int32)), .ref 11, .ref 162]) (h2 := h1) (dc2 := (dc + d)) (ds2 := (ds + s)) 6 rfl ?_
    refine lq_vi (show nI i + (1 : Int32) = nI (i + 1) from nI_add i 1) ?_
    refine lq_xs rfl (by omega) hL rfl ?_
    refine lq_eqf rfl rfl hb1 ?_
    refine lq_gos (f := 200000) (pc2 := 994) (ls2 := [(4, .int (nI i)), (3, .ref 232), (2, .ref 162), (1, .ref 0), (0, .ref 11)]) (st2 := [.int (nI i + (2 : Int32)), .ref 11, .int 1, .ref 162]) (h2 := h1) (dc2 := (dc + d)) (ds2 := (ds + s)) 6 rfl ?_
    refine lq_vi (show nI i + (2 : Int32) = nI (i + 2) from nI_add i 2) ?_
    refine lq_xs rfl (by omega) hL rfl ?_
    refine lq_m (as := [.int 1, .int (xs (i + 2))]) rfl rfl rfl rfl hI1 (fun z => rCall_m252_1 z) ?_
    intro v2 h2 hI2
    refine lq_gos (f := 200000) (pc2 := 1773) (ls2 := [(4, .int (nI i)), (3, .ref 232), (2, .ref 162), (1, .ref 0), (0, .ref 11)]) (st2 := []) (h2 := h2) (dc2 := (dc + d)) (ds2 := (ds + s)) 2 rfl ?_
    exact kk h2 d s D2 S2 _ hI2 (by omega) (by omega)
set_option maxHeartbeats 4000000 in
theorem lop_23 {L : Nat} {xs : Nat → Int32} {i : Nat} {h : zH} {dc ds D S : Nat} {V : cV} (hI : LInv h D S V (tie V)) (hi : i + 6 ≤ L) (hL : L ≤ 3072) (kk : ∀ (h2 : zH) (d s D2 S2 : Nat) (V2 : cV), LInv h2 D2 S2 V2 (tie V2) → d + D ≤ D2 + 1 → s + S ≤ S2 + 6 → lq L xs 1773 [(4, .int (nI i)), (3, .ref 232), (2, .ref 162), (1, .ref 0), (0, .ref 11)] [] h2 (dc + d) (ds + s)) : lq L xs 1002 [(4, .int (nI i)), (3, .ref 232), (2, .ref 162), (1, .ref 0), (0, .ref 11)] [] h dc ds := by
  refine lq_gos (f := 200000) (pc2 := 1008) (ls2 := [(4, .int (nI i)), (3, .ref 232), (2, .ref 162), (1, .ref 0), (0, .ref 11)]) (st2 := [.int (nI i + (1 : Int32)), .ref 11, .ref 0]) (h2 := h) (dc2 := dc) (ds2 := ds) 5 rfl ?_
  refine lq_vi (show nI i + (1 : Int32) = nI (i + 1) from nI_add i 1) ?_
  refine lq_xs rfl (by omega) hL rfl ?_
  by_cases hb1 : xs (i + 1) = 0
  · refine lq_eqt rfl hb1 ?_
    refine lq_gos (f := 200000) (pc2 := 1022) (ls2 := [(4, .int (nI i)), (3, .ref 232), (2, .ref 162), (1, .ref 0), (0, .ref 11)]) (st2 := [.int (nI i + (2 : Int32)), .ref 11, .int 0, .ref 0]) (h2 := h) (dc2 := dc) (ds2 := ds) 5 rfl ?_
    refine lq_vi (show nI i + (2 : Int32) = nI (i + 2) from nI_add i 2) ?_
    refine lq_xs rfl (by omega) hL rfl ?_
    refine lq_gos (f := 200000) (pc2 := 1028) (ls2 := [(4, .int (nI i)), (3, .ref 232), (2, .ref 162), (1, .ref 0), (0, .ref 11)]) (st2 := [.int (nI i + (3 : Int32)), .ref 11, .int (xs (i + 2)), .int 0, .ref 0]) (h2 := h) (dc2 := dc) (ds2 := ds) 4 rfl ?_
    refine lq_vi (show nI i + (3 : Int32) = nI (i + 3) from nI_add i 3) ?_
    refine lq_xs rfl (by omega) hL rfl ?_
    refine lq_c (as := [.int 0, .int (xs (i + 2)), .int (xs (i + 3))]) rfl rfl rfl rfl hI (fun z => cCall_23_0 z) ?_
    intro v1 h1 d s D2 S2 hI1 e1 e2
    refine lq_gos (f := 200000) (pc2 := 1039) (ls2 := [(4, .int (nI i)), (3, .ref 232), (2, .ref 162), (1, .ref 0), (0, .ref 11)]) (st2 := [.int (nI i + (1 : Int32)), .ref 11, .ref 162]) (h2 := h1) (dc2 := (dc + d)) (ds2 := (ds + s)) 6 rfl ?_
    refine lq_vi (show nI i + (1 : Int32) = nI (i + 1) from nI_add i 1) ?_
    refine lq_xs rfl (by omega) hL rfl ?_
    refine lq_eqt rfl hb1 ?_
    refine lq_gos (f := 200000) (pc2 := 1053) (ls2 := [(4, .int (nI i)), (3, .ref 232), (2, .ref 162), (1, .ref 0), (0, .ref 11)]) (st2 := [.int (nI i + (2 : Int32)), .ref 11, .int 0, .ref 162]) (h2 := h1) (dc2 := (dc + d)) (ds2 := (ds + s)) 5 rfl ?_
    refine lq_vi (show nI i + (2 : Int32) = nI (i + 2) from nI_add i 2) ?_
    refine lq_xs rfl (by omega) hL rfl ?_
    refine lq_gos (f := 200000) (pc2 := 1059) (ls2 := [(4, .int (nI i)), (3, .ref 232), (2, .ref 162), (1, .ref 0), (0, .ref 11)]) (st2 := [.int (nI i + (3 : Int32)), .ref 11, .int (xs (i + 2)), .int 0, .ref 162]) (h2 := h1) (dc2 := (dc + d)) (ds2 := (ds + s)) 4 rfl ?_
    refine lq_vi (show nI i + (3 : Int32) = nI (i + 3) from nI_add i 3) ?_
    refine lq_xs rfl (by omega) hL rfl ?_
    refine lq_m (as := [.int 0, .int (xs (i + 2)), .int (xs (i + 3))]) rfl rfl rfl rfl hI1 (fun z => rCall_m255_0 z) ?_
    intro v2 h2 hI2
    refine lq_gos (f := 200000) (pc2 := 1773) (ls2 := [(4, .int (nI i)), (3, .ref 232), (2, .ref 162), (1, .ref 0), (0, .ref 11)]) (st2 := []) (h2 := h2) (dc2 := (dc + d)) (ds2 := (ds + s)) 2 rfl ?_
    exact kk h2 d s D2 S2 _ hI2 (by omega) (by omega)
  · refine lq_eqf rfl rfl hb1 ?_
    refine lq_gos (f := 200000) (pc2 := 1022) (ls2 := [(4, .int (nI i)), (3, .ref 232), (2, .ref 162), (1, .ref 0), (0, .ref 11)]) (st2 := [.int (nI i + (2 : Int32)), .ref 11, .int 1, .ref 0]) (h2 := h) (dc2 := dc) (ds2 := ds) 6 rfl ?_
    refine lq_vi (show nI i + (2 : Int32) = nI (i + 2) from nI_add i 2) ?_
    refine lq_xs rfl (by omega) hL rfl ?_
    refine lq_gos (f := 200000) (pc2 := 1028) (ls2 := [(4, .int (nI i)), (3, .ref 232), (2, .ref 162), (1, .ref 0), (0, .ref 11)]) (st2 := [.int (nI i + (3 : Int32)), .ref 11, .int (xs (i + 2)), .int 1, .ref 0]) (h2 := h) (dc2 := dc) (ds2 := ds) 4 rfl ?_
    refine lq_vi (show nI i + (3 : Int32) = nI (i + 3) from nI_add i 3) ?_
    refine lq_xs rfl (by omega) hL rfl ?_
    refine lq_c (as := [.int 1, .int (xs (i + 2)), .int (xs (i + 3))]) rfl rfl rfl rfl hI (fun z => cCall_23_1 z) ?_
    intro v1 h1 d s D2 S2 hI1 e1 e2
    refine lq_gos (f := 200000) (pc2 := 1039) (ls2 := [(4, .int (nI i)), (3, .ref 232), (2, .ref 162), (1, .ref 0), (0, .ref 11)]) (st2 := [.int (nI i + (1 : Int32)), .ref 11, .ref 162]) (h2 := h1) (dc2 := (dc + d)) (ds2 := (ds + s)) 6 rfl ?_
    refine lq_vi (show nI i + (1 : Int32) = nI (i + 1) from nI_add i 1) ?_
    refine lq_xs rfl (by omega) hL rfl ?_
    refine lq_eqf rfl rfl hb1 ?_
    refine lq_gos (f := 200000) (pc2 := 1053) (ls2 := [(4, .int (nI i)), (3, .ref 232), (2, .ref 162), (1, .ref 0), (0, .ref 11)]) (st2 := [.int (nI i + (2 : Int32)), .ref 11, .int 1, .ref 162]) (h2 := h1) (dc2 := (dc + d)) (ds2 := (ds + s)) 6 rfl ?_
    refine lq_vi (show nI i + (2 : Int32) = nI (i + 2) from nI_add i 2) ?_
    refine lq_xs rfl (by omega) hL rfl ?_
    refine lq_gos (f := 200000) (pc2 := 1059) (ls2 := [(4, .int (nI i)), (3, .ref 232), (2, .ref 162), (1, .ref 0), (0, .ref 11)]) (st2 := [.int (nI i + (3 : Int32)), .ref 11, .int (xs (i + 2)), .int 1, .ref 162]) (h2 := h1) (dc2 := (dc + d)) (ds2 := (ds + s)) 4 rfl ?_
    refine lq_vi (show nI i + (3 : Int32) = nI (i + 3) from nI_add i 3) ?_
    refine lq_xs rfl (by omega) hL rfl ?_
    refine lq_m (as := [.int 1, .int (xs (i + 2)), .int (xs (i + 3))]) rfl rfl rfl rfl hI1 (fun z => rCall_m255_1 z) ?_
    intro v2 h2 hI2
    refine lq_gos (f := 200000) (pc2 := 1773) (ls2 := [(4, .int (nI i)), (3, .ref 232), (2, .ref 162), (1, .ref 0), (0, .ref 11)]) (st2 := []) (h2 := h2) (dc2 := (dc + d)) (ds2 := (ds + s)) 2 rfl ?_
    exact kk h2 d s D2 S2 _ hI2 (by omega) (by omega)
set_option maxHeartbeats 4000000 in
theorem lop_24 {L : Nat} {xs : Nat → Int32} {i : Nat} {h : zH} {dc ds D S : Nat} {V : cV} (hI : LInv h D S V (tie V)) (hi : i + 6 ≤ L) (hL : L ≤ 3072) (kk : ∀ (h2 : zH) (d s D2 S2 : Nat) (V2 : cV), LInv h2 D2 S2 V2 (tie V2) → d + D ≤ D2 + 1 → s + S ≤ S2 + 6 → lq L xs 1773 [(4, .int (nI i)), (3, .ref 232), (2, .ref 162), (1, .ref 0), (0, .ref 11)] [] h2 (dc + d) (ds + s)) : lq L xs 1067 [(4, .int (nI i)), (3, .ref 232), (2, .ref 162), (1, .ref 0), (0, .ref 11)] [] h dc ds := by
  refine lq_gos (f := 200000) (pc2 := 1073) (ls2 := [(4, .int (nI i)), (3, .ref 232), (2, .ref 162), (1, .ref 0), (0, .ref 11)]) (st2 := [.int (nI i + (1 : Int32)), .ref 11, .ref 0]) (h2 := h) (dc2 := dc) (ds2 := ds) 5 rfl ?_
  refine lq_vi (show nI i + (1 : Int32) = nI (i + 1) from nI_add i 1) ?_
  refine lq_xs rfl (by omega) hL rfl ?_
  by_cases hb1 : xs (i + 1) = 0
  · refine lq_eqt rfl hb1 ?_
    refine lq_gos (f := 200000) (pc2 := 1087) (ls2 := [(4, .int (nI i)), (3, .ref 232), (2, .ref 162), (1, .ref 0), (0, .ref 11)]) (st2 := [.int (nI i + (2 : Int32)), .ref 11, .int 0, .ref 0]) (h2 := h) (dc2 := dc) (ds2 := ds) 5 rfl ?_
    refine lq_vi (show nI i + (2 : Int32) = nI (i + 2) from nI_add i 2) ?_
    refine lq_xs rfl (by omega) hL rfl ?_
    refine lq_gos (f := 200000) (pc2 := 1093) (ls2 := [(4, .int (nI i)), (3, .ref 232), (2, .ref 162), (1, .ref 0), (0, .ref 11)]) (st2 := [.int (nI i + (3 : Int32)), .ref 11, .int (xs (i + 2)), .int 0, .ref 0]) (h2 := h) (dc2 := dc) (ds2 := ds) 4 rfl ?_
    refine lq_vi (show nI i + (3 : Int32) = nI (i + 3) from nI_add i 3) ?_
    refine lq_xs rfl (by omega) hL rfl ?_
    refine lq_c (as := [.int 0, .int (xs (i + 2)), .int (xs (i + 3))]) rfl rfl rfl rfl hI (fun z => cCall_24_0 z) ?_
    intro v1 h1 d s D2 S2 hI1 e1 e2
    refine lq_gos (f := 200000) (pc2 := 1104) (ls2 := [(4, .int (nI i)), (3, .ref 232), (2, .ref 162), (1, .ref 0), (0, .ref 11)]) (st2 := [.int (nI i + (1 : Int32)), .ref 11, .ref 162]) (h2 := h1) (dc2 := (dc + d)) (ds2 := (ds + s)) 6 rfl ?_
    refine lq_vi (show nI i + (1 : Int32) = nI (i + 1) from nI_add i 1) ?_
    refine lq_xs rfl (by omega) hL rfl ?_
    refine lq_eqt rfl hb1 ?_
    refine lq_gos (f := 200000) (pc2 := 1118) (ls2 := [(4, .int (nI i)), (3, .ref 232), (2, .ref 162), (1, .ref 0), (0, .ref 11)]) (st2 := [.int (nI i + (2 : Int32)), .ref 11, .int 0, .ref 162]) (h2 := h1) (dc2 := (dc + d)) (ds2 := (ds + s)) 5 rfl ?_
    refine lq_vi (show nI i + (2 : Int32) = nI (i + 2) from nI_add i 2) ?_
    refine lq_xs rfl (by omega) hL rfl ?_
    refine lq_gos (f := 200000) (pc2 := 1124) (ls2 := [(4, .int (nI i)), (3, .ref 232), (2, .ref 162), (1, .ref 0), (0, .ref 11)]) (st2 := [.int (nI i + (3 : Int32)), .ref 11, .int (xs (i + 2)), .int 0, .ref 162]) (h2 := h1) (dc2 := (dc + d)) (ds2 := (ds + s)) 4 rfl ?_
    refine lq_vi (show nI i + (3 : Int32) = nI (i + 3) from nI_add i 3) ?_
    refine lq_xs rfl (by omega) hL rfl ?_
    refine lq_m (as := [.int 0, .int (xs (i + 2)), .int (xs (i + 3))]) rfl rfl rfl rfl hI1 (fun z => rCall_m256_0 z) ?_
    intro v2 h2 hI2
    refine lq_gos (f := 200000) (pc2 := 1773) (ls2 := [(4, .int (nI i)), (3, .ref 232), (2, .ref 162), (1, .ref 0), (0, .ref 11)]) (st2 := []) (h2 := h2) (dc2 := (dc + d)) (ds2 := (ds + s)) 2 rfl ?_
    exact kk h2 d s D2 S2 _ hI2 (by omega) (by omega)
  · refine lq_eqf rfl rfl hb1 ?_
    refine lq_gos (f := 200000) (pc2 := 1087) (ls2 := [(4, .int (nI i)), (3, .ref 232), (2, .ref 162), (1, .ref 0), (0, .ref 11)]) (st2 := [.int (nI i + (2 : Int32)), .ref 11, .int 1, .ref 0]) (h2 := h) (dc2 := dc) (ds2 := ds) 6 rfl ?_
    refine lq_vi (show nI i + (2 : Int32) = nI (i + 2) from nI_add i 2) ?_
    refine lq_xs rfl (by omega) hL rfl ?_
    refine lq_gos (f := 200000) (pc2 := 1093) (ls2 := [(4, .int (nI i)), (3, .ref 232), (2, .ref 162), (1, .ref 0), (0, .ref 11)]) (st2 := [.int (nI i + (3 : Int32)), .ref 11, .int (xs (i + 2)), .int 1, .ref 0]) (h2 := h) (dc2 := dc) (ds2 := ds) 4 rfl ?_
    refine lq_vi (show nI i + (3 : Int32) = nI (i + 3) from nI_add i 3) ?_
    refine lq_xs rfl (by omega) hL rfl ?_
    refine lq_c (as := [.int 1, .int (xs (i + 2)), .int (xs (i + 3))]) rfl rfl rfl rfl hI (fun z => cCall_24_1 z) ?_
    intro v1 h1 d s D2 S2 hI1 e1 e2
    refine lq_gos (f := 200000) (pc2 := 1104) (ls2 := [(4, .int (nI i)), (3, .ref 232), (2, .ref 162), (1, .ref 0), (0, .ref 11)]) (st2 := [.int (nI i + (1 : Int32)), .ref 11, .ref 162]) (h2 := h1) (dc2 := (dc + d)) (ds2 := (ds + s)) 6 rfl ?_
    refine lq_vi (show nI i + (1 : Int32) = nI (i + 1) from nI_add i 1) ?_
    refine lq_xs rfl (by omega) hL rfl ?_
    refine lq_eqf rfl rfl hb1 ?_
    refine lq_gos (f := 200000) (pc2 := 1118) (ls2 := [(4, .int (nI i)), (3, .ref 232), (2, .ref 162), (1, .ref 0), (0, .ref 11)]) (st2 := [.int (nI i + (2 : Int32)), .ref 11, .int 1, .ref 162]) (h2 := h1) (dc2 := (dc + d)) (ds2 := (ds + s)) 6 rfl ?_
    refine lq_vi (show nI i + (2 : Int32) = nI (i + 2) from nI_add i 2) ?_
    refine lq_xs rfl (by omega) hL rfl ?_
    refine lq_gos (f := 200000) (pc2 := 1124) (ls2 := [(4, .int (nI i)), (3, .ref 232), (2, .ref 162), (1, .ref 0), (0, .ref 11)]) (st2 := [.int (nI i + (3 : Int32)), .ref 11, .int (xs (i + 2)), .int 1, .ref 162]) (h2 := h1) (dc2 := (dc + d)) (ds2 := (ds + s)) 4 rfl ?_
    refine lq_vi (show nI i + (3 : Int32) = nI (i + 3) from nI_add i 3) ?_
    refine lq_xs rfl (by omega) hL rfl ?_
    refine lq_m (as := [.int 1, .int (xs (i + 2)), .int (xs (i + 3))]) rfl rfl rfl rfl hI1 (fun z => rCall_m256_1 z) ?_
    intro v2 h2 hI2
    refine lq_gos (f := 200000) (pc2 := 1773) (ls2 := [(4, .int (nI i)), (3, .ref 232), (2, .ref 162), (1, .ref 0), (0, .ref 11)]) (st2 := []) (h2 := h2) (dc2 := (dc + d)) (ds2 := (ds + s)) 2 rfl ?_
    exact kk h2 d s D2 S2 _ hI2 (by omega) (by omega)
set_option maxHeartbeats 4000000 in
theorem lop_25 {L : Nat} {xs : Nat → Int32} {i : Nat} {h : zH} {dc ds D S : Nat} {V : cV} (hI : LInv h D S V (tie V)) (hi : i + 6 ≤ L) (hL : L ≤ 3072) (kk : ∀ (h2 : zH) (d s D2 S2 : Nat) (V2 : cV), LInv h2 D2 S2 V2 (tie V2) → d + D ≤ D2 + 1 → s + S ≤ S2 + 6 → lq L xs 1773 [(4, .int (nI i)), (3, .ref 232), (2, .ref 162), (1, .ref 0), (0, .ref 11)] [] h2 (dc + d) (ds + s)) : lq L xs 1132 [(4, .int (nI i)), (3, .ref 232), (2, .ref 162), (1, .ref 0), (0, .ref 11)] [] h dc ds := by
  refine lq_gos (f := 200000) (pc2 := 1138) (ls2 := [(4, .int (nI i)), (3, .ref 232), (2, .ref 162), (1, .ref 0), (0, .ref 11)]) (st2 := [.int (nI i + (1 : Int32)), .ref 11, .ref 0]) (h2 := h) (dc2 := dc) (ds2 := ds) 5 rfl ?_
  refine lq_vi (show nI i + (1 : Int32) = nI (i + 1) from nI_add i 1) ?_
  refine lq_xs rfl (by omega) hL rfl ?_
  by_cases hb1 : xs (i + 1) = 0
  · refine lq_eqt rfl hb1 ?_
    refine lq_gos (f := 200000) (pc2 := 1152) (ls2 := [(4, .int (nI i)), (3, .ref 232), (2, .ref 162), (1, .ref 0), (0, .ref 11)]) (st2 := [.int (nI i + (2 : Int32)), .ref 11, .int 0, .ref 0]) (h2 := h) (dc2 := dc) (ds2 := ds) 5 rfl ?_
    refine lq_vi (show nI i + (2 : Int32) = nI (i + 2) from nI_add i 2) ?_
    refine lq_xs rfl (by omega) hL rfl ?_
    refine lq_gos (f := 200000) (pc2 := 1158) (ls2 := [(4, .int (nI i)), (3, .ref 232), (2, .ref 162), (1, .ref 0), (0, .ref 11)]) (st2 := [.int (nI i + (3 : Int32)), .ref 11, .int (xs (i + 2)), .int 0, .ref 0]) (h2 := h) (dc2 := dc) (ds2 := ds) 4 rfl ?_
    refine lq_vi (show nI i + (3 : Int32) = nI (i + 3) from nI_add i 3) ?_
    refine lq_xs rfl (by omega) hL rfl ?_
    by_cases hb3 : xs (i + 3) = 0
    · refine lq_eqt rfl hb3 ?_
      refine lq_gos (f := 200000) (pc2 := 1167) (ls2 := [(4, .int (nI i)), (3, .ref 232), (2, .ref 162), (1, .ref 0), (0, .ref 11)]) (st2 := [.int 0, .int (xs (i + 2)), .int 0, .ref 0]) (h2 := h) (dc2 := dc) (ds2 := ds) 1 rfl ?_
      refine lq_c (as := [.int 0, .int (xs (i + 2)), .int 0]) rfl rfl rfl rfl hI (fun z => cCall_25_0 z) ?_
      intro v1 h1 d s D2 S2 hI1 e1 e2
      refine lq_gos (f := 200000) (pc2 := 1177) (ls2 := [(4, .int (nI i)), (3, .ref 232), (2, .ref 162), (1, .ref 0), (0, .ref 11)]) (st2 := [.int (nI i + (1 : Int32)), .ref 11, .ref 162]) (h2 := h1) (dc2 := (dc + d)) (ds2 := (ds + s)) 6 rfl ?_
      refine lq_vi (show nI i + (1 : Int32) = nI (i + 1) from nI_add i 1) ?_
      refine lq_xs rfl (by omega) hL rfl ?_
      refine lq_eqt rfl hb1 ?_
      refine lq_gos (f := 200000) (pc2 := 1191) (ls2 := [(4, .int (nI i)), (3, .ref 232), (2, .ref 162), (1, .ref 0), (0, .ref 11)]) (st2 := [.int (nI i + (2 : Int32)), .ref 11, .int 0, .ref 162]) (h2 := h1) (dc2 := (dc + d)) (ds2 := (ds + s)) 5 rfl ?_
      refine lq_vi (show nI i + (2 : Int32) = nI (i + 2) from nI_add i 2) ?_
      refine lq_xs rfl (by omega) hL rfl ?_
      refine lq_gos (f := 200000) (pc2 := 1197) (ls2 := [(4, .int (nI i)), (3, .ref 232), (2, .ref 162), (1, .ref 0), (0, .ref 11)]) (st2 := [.int (nI i + (3 : Int32)), .ref 11, .int (xs (i + 2)), .int 0, .ref 162]) (h2 := h1) (dc2 := (dc + d)) (ds2 := (ds + s)) 4 rfl ?_
      refine lq_vi (show nI i + (3 : Int32) = nI (i + 3) from nI_add i 3) ?_
      refine lq_xs rfl (by omega) hL rfl ?_
      refine lq_eqt rfl hb3 ?_
      refine lq_gos (f := 200000) (pc2 := 1206) (ls2 := [(4, .int (nI i)), (3, .ref 232), (2, .ref 162), (1, .ref 0), (0, .ref 11)]) (st2 := [.int 0, .int (xs (i + 2)), .int 0, .ref 162]) (h2 := h1) (dc2 := (dc + d)) (ds2 := (ds + s)) 1 rfl ?_
      refine lq_m (as := [.int 0, .int (xs (i + 2)), .int 0]) rfl rfl rfl rfl hI1 (fun z => rCall_m257_0 z) ?_
      intro v2 h2 hI2
      refine lq_gos (f := 200000) (pc2 := 1773) (ls2 := [(4, .int (nI i)), (3, .ref 232), (2, .ref 162), (1, .ref 0), (0, .ref 11)]) (st2 := []) (h2 := h2) (dc2 := (dc + d)) (ds2 := (ds + s)) 2 rfl ?_
      exact kk h2 d s D2 S2 _ hI2 (by omega) (by omega)
    · refine lq_eqf rfl rfl hb3 ?_
      refine lq_gos (f := 200000) (pc2 := 1167) (ls2 := [(4, .int (nI i)), (3, .ref 232), (2, .ref 162), (1, .ref 0), (0, .ref 11)]) (st2 := [.int 1, .int (xs (i + 2)), .int 0, .ref 0]) (h2 := h) (dc2 := dc) (ds2 := ds) 2 rfl ?_
      refine lq_c (as := [.int 0, .int (xs (i + 2)), .int 1]) rfl rfl rfl rfl hI (fun z => cCall_25_0 z) ?_
      intro v1 h1 d s D2 S2 hI1 e1 e2
      refine lq_gos (f := 200000) (pc2 := 1177) (ls2 := [(4, .int (nI i)), (3, .ref 232), (2, .ref 162), (1, .ref 0), (0, .ref 11)]) (st2 := [.int (nI i + (1 : Int32)), .ref 11, .ref 162]) (h2 := h1) (dc2 := (dc + d)) (ds2 := (ds + s)) 6 rfl ?_
      refine lq_vi (show nI i + (1 : Int32) = nI (i + 1) from nI_add i 1) ?_
      refine lq_xs rfl (by omega) hL rfl ?_
      refine lq_eqt rfl hb1 ?_
      refine lq_gos (f := 200000) (pc2 := 1191) (ls2 := [(4, .int (nI i)), (3, .ref 232), (2, .ref 162), (1, .ref 0), (0, .ref 11)]) (st2 := [.int (nI i + (2 : Int32)), .ref 11, .int 0, .ref 162]) (h2 := h1) (dc2 := (dc + d)) (ds2 := (ds + s)) 5 rfl ?_
      refine lq_vi (show nI i + (2 : Int32) = nI (i + 2) from nI_add i 2) ?_
      refine lq_xs rfl (by omega) hL rfl ?_
      refine lq_gos (f := 200000) (pc2 := 1197) (ls2 := [(4, .int (nI i)), (3, .ref 232), (2, .ref 162), (1, .ref 0), (0, .ref 11)]) (st2 := [.int (nI i + (3 : Int32)), .ref 11, .int (xs (i + 2)), .int 0, .ref 162]) (h2 := h1) (dc2 := (dc + d)) (ds2 := (ds + s)) 4 rfl ?_
      refine lq_vi (show nI i + (3 : Int32) = nI (i + 3) from nI_add i 3) ?_
      refine lq_xs rfl (by omega) hL rfl ?_
      refine lq_eqf rfl rfl hb3 ?_
      refine lq_gos (f := 200000) (pc2 := 1206) (ls2 := [(4, .int (nI i)), (3, .ref 232), (2, .ref 162), (1, .ref 0), (0, .ref 11)]) (st2 := [.int 1, .int (xs (i + 2)), .int 0, .ref 162]) (h2 := h1) (dc2 := (dc + d)) (ds2 := (ds + s)) 2 rfl ?_
      refine lq_m (as := [.int 0, .int (xs (i + 2)), .int 1]) rfl rfl rfl rfl hI1 (fun z => rCall_m257_0 z) ?_
      intro v2 h2 hI2
      refine lq_gos (f := 200000) (pc2 := 1773) (ls2 := [(4, .int (nI i)), (3, .ref 232), (2, .ref 162), (1, .ref 0), (0, .ref 11)]) (st2 := []) (h2 := h2) (dc2 := (dc + d)) (ds2 := (ds + s)) 2 rfl ?_
      exact kk h2 d s D2 S2 _ hI2 (by omega) (by omega)
  · refine lq_eqf rfl rfl hb1 ?_
    refine lq_gos (f := 200000) (pc2 := 1152) (ls2 := [(4, .int (nI i)), (3, .ref 232), (2, .ref 162), (1, .ref 0), (0, .ref 11)]) (st2 := [.int (nI i + (2 : Int32)), .ref 11, .int 1, .ref 0]) (h2 := h) (dc2 := dc) (ds2 := ds) 6 rfl ?_
    refine lq_vi (show nI i + (2 : Int32) = nI (i + 2) from nI_add i 2) ?_
    refine lq_xs rfl (by omega) hL rfl ?_
    refine lq_gos (f := 200000) (pc2 := 1158) (ls2 := [(4, .int (nI i)), (3, .ref 232), (2, .ref 162), (1, .ref 0), (0, .ref 11)]) (st2 := [.int (nI i + (3 : Int32)), .ref 11, .int (xs (i + 2)), .int 1, .ref 0]) (h2 := h) (dc2 := dc) (ds2 := ds) 4 rfl ?_
    refine lq_vi (show nI i + (3 : Int32) = nI (i + 3) from nI_add i 3) ?_
    refine lq_xs rfl (by omega) hL rfl ?_
    by_cases hb3 : xs (i + 3) = 0
    · refine lq_eqt rfl hb3 ?_
      refine lq_gos (f := 200000) (pc2 := 1167) (ls2 := [(4, .int (nI i)), (3, .ref 232), (2, .ref 162), (1, .ref 0), (0, .ref 11)]) (st2 := [.int 0, .int (xs (i + 2)), .int 1, .ref 0]) (h2 := h) (dc2 := dc) (ds2 := ds) 1 rfl ?_
      refine lq_c (as := [.int 1, .int (xs (i + 2)), .int 0]) rfl rfl rfl rfl hI (fun z => cCall_25_1 z) ?_
      intro v1 h1 d s D2 S2 hI1 e1 e2
      refine lq_gos (f := 200000) (pc2 := 1177) (ls2 := [(4, .int (nI i)), (3, .ref 232), (2, .ref 162), (1, .ref 0), (0, .ref 11)]) (st2 := [.int (nI i + (1 : Int32)), .ref 11, .ref 162]) (h2 := h1) (dc2 := (dc + d)) (ds2 := (ds + s)) 6 rfl ?_
      refine lq_vi (show nI i + (1 : Int32) = nI (i + 1) from nI_add i 1) ?_
      refine lq_xs rfl (by omega) hL rfl ?_
      refine lq_eqf rfl rfl hb1 ?_
      refine lq_gos (f := 200000) (pc2 := 1191) (ls2 := [(4, .int (nI i)), (3, .ref 232), (2, .ref 162), (1, .ref 0), (0, .ref 11)]) (st2 := [.int (nI i + (2 : Int32)), .ref 11, .int 1, .ref 162]) (h2 := h1) (dc2 := (dc + d)) (ds2 := (ds + s)) 6 rfl ?_
      refine lq_vi (show nI i + (2 : Int32) = nI (i + 2) from nI_add i 2) ?_
      refine lq_xs rfl (by omega) hL rfl ?_
      refine lq_gos (f := 200000) (pc2 := 1197) (ls2 := [(4, .int (nI i)), (3, .ref 232), (2, .ref 162), (1, .ref 0), (0, .ref 11)]) (st2 := [.int (nI i + (3 : Int32)), .ref 11, .int (xs (i + 2)), .int 1, .ref 162]) (h2 := h1) (dc2 := (dc + d)) (ds2 := (ds + s)) 4 rfl ?_
      refine lq_vi (show nI i + (3 : Int32) = nI (i + 3) from nI_add i 3) ?_
      refine lq_xs rfl (by omega) hL rfl ?_
      refine lq_eqt rfl hb3 ?_
      refine lq_gos (f := 200000) (pc2 := 1206) (ls2 := [(4, .int (nI i)), (3, .ref 232), (2, .ref 162), (1, .ref 0), (0, .ref 11)]) (st2 := [.int 0, .int (xs (i + 2)), .int 1, .ref 162]) (h2 := h1) (dc2 := (dc + d)) (ds2 := (ds + s)) 1 rfl ?_
      refine lq_m (as := [.int 1, .int (xs (i + 2)), .int 0]) rfl rfl rfl rfl hI1 (fun z => rCall_m257_1 z) ?_
      intro v2 h2 hI2
      refine lq_gos (f := 200000) (pc2 := 1773) (ls2 := [(4, .int (nI i)), (3, .ref 232), (2, .ref 162), (1, .ref 0), (0, .ref 11)]) (st2 := []) (h2 := h2) (dc2 := (dc + d)) (ds2 := (ds + s)) 2 rfl ?_
      exact kk h2 d s D2 S2 _ hI2 (by omega) (by omega)
    · refine lq_eqf rfl rfl hb3 ?_
      refine lq_gos (f := 200000) (pc2 := 1167) (ls2 := [(4, .int (nI i)), (3, .ref 232), (2, .ref 162), (1, .ref 0), (0, .ref 11)]) (st2 := [.int 1, .int (xs (i + 2)), .int 1, .ref 0]) (h2 := h) (dc2 := dc) (ds2 := ds) 2 rfl ?_
      refine lq_c (as := [.int 1, .int (xs (i + 2)), .int 1]) rfl rfl rfl rfl hI (fun z => cCall_25_1 z) ?_
      intro v1 h1 d s D2 S2 hI1 e1 e2
      refine lq_gos (f := 200000) (pc2 := 1177) (ls2 := [(4, .int (nI i)), (3, .ref 232), (2, .ref 162), (1, .ref 0), (0, .ref 11)]) (st2 := [.int (nI i + (1 : Int32)), .ref 11, .ref 162]) (h2 := h1) (dc2 := (dc + d)) (ds2 := (ds + s)) 6 rfl ?_
      refine lq_vi (show nI i + (1 : Int32) = nI (i + 1) from nI_add i 1) ?_
      refine lq_xs rfl (by omega) hL rfl ?_
      refine lq_eqf rfl rfl hb1 ?_
      refine lq_gos (f := 200000) (pc2 := 1191) (ls2 := [(4, .int (nI i)), (3, .ref 232), (2, .ref 162), (1, .ref 0), (0, .ref 11)]) (st2 := [.int (nI i + (2 : Int32)), .ref 11, .int 1, .ref 162]) (h2 := h1) (dc2 := (dc + d)) (ds2 := (ds + s)) 6 rfl ?_
      refine lq_vi (show nI i + (2 : Int32) = nI (i + 2) from nI_add i 2) ?_
      refine lq_xs rfl (by omega) hL rfl ?_
      refine lq_gos (f := 200000) (pc2 := 1197) (ls2 := [(4, .int (nI i)), (3, .ref 232), (2, .ref 162), (1, .ref 0), (0, .ref 11)]) (st2 := [.int (nI i + (3 : Int32)), .ref 11, .int (xs (i + 2)), .int 1, .ref 162]) (h2 := h1) (dc2 := (dc + d)) (ds2 := (ds + s)) 4 rfl ?_
      refine lq_vi (show nI i + (3 : Int32) = nI (i + 3) from nI_add i 3) ?_
      refine lq_xs rfl (by omega) hL rfl ?_
      refine lq_eqf rfl rfl hb3 ?_
      refine lq_gos (f := 200000) (pc2 := 1206) (ls2 := [(4, .int (nI i)), (3, .ref 232), (2, .ref 162), (1, .ref 0), (0, .ref 11)]) (st2 := [.int 1, .int (xs (i + 2)), .int 1, .ref 162]) (h2 := h1) (dc2 := (dc + d)) (ds2 := (ds + s)) 2 rfl ?_
      refine lq_m (as := [.int 1, .int (xs (i + 2)), .int 1]) rfl rfl rfl rfl hI1 (fun z => rCall_m257_1 z) ?_
      intro v2 h2 hI2
      refine lq_gos (f := 200000) (pc2 := 1773) (ls2 := [(4, .int (nI i)), (3, .ref 232), (2, .ref 162), (1, .ref 0), (0, .ref 11)]) (st2 := []) (h2 := h2) (dc2 := (dc + d)) (ds2 := (ds + s)) 2 rfl ?_
      exact kk h2 d s D2 S2 _ hI2 (by omega) (by omega)
set_option maxHeartbeats 4000000 in
theorem lop_26 {L : Nat} {xs : Nat → Int32} {i : Nat} {h : zH} {dc ds D S : Nat} {V : cV} (hI : LInv h D S V (tie V)) (hi : i + 6 ≤ L) (hL : L ≤ 3072) (kk : ∀ (h2 : zH) (d s D2 S2 : Nat) (V2 : cV), LInv h2 D2 S2 V2 (tie V2) → d + D ≤ D2 + 1 → s + S ≤ S2 + 6 → lq L xs 1773 [(4, .int (nI i)), (3, .ref 232), (2, .ref 162), (1, .ref 0), (0, .ref 11)] [] h2 (dc + d) (ds + s)) : lq L xs 1213 [(4, .int (nI i)), (3, .ref 232), (2, .ref 162), (1, .ref 0), (0, .ref 11)] [] h dc ds := by
  refine lq_gos (f := 200000) (pc2 := 1219) (ls2 := [(4, .int (nI i)), (3, .ref 232), (2, .ref 162), (1, .ref 0), (0, .ref 11)]) (st2 := [.int (nI i + (1 : Int32)), .ref 11, .ref 0]) (h2 := h) (dc2 := dc) (ds2 := ds) 5 rfl ?_
  refine lq_vi (show nI i + (1 : Int32) = nI (i + 1) from nI_add i 1) ?_
  refine lq_xs rfl (by omega) hL rfl ?_
  by_cases hb1 : xs (i + 1) = 0
  · refine lq_eqt rfl hb1 ?_
    refine lq_gos (f := 200000) (pc2 := 1233) (ls2 := [(4, .int (nI i)), (3, .ref 232), (2, .ref 162), (1, .ref 0), (0, .ref 11)]) (st2 := [.int (nI i + (2 : Int32)), .ref 11, .int 0, .ref 0]) (h2 := h) (dc2 := dc) (ds2 := ds) 5 rfl ?_
    refine lq_vi (show nI i + (2 : Int32) = nI (i + 2) from nI_add i 2) ?_
    refine lq_xs rfl (by omega) hL rfl ?_
    refine lq_gos (f := 200000) (pc2 := 1239) (ls2 := [(4, .int (nI i)), (3, .ref 232), (2, .ref 162), (1, .ref 0), (0, .ref 11)]) (st2 := [.int (nI i + (3 : Int32)), .ref 11, .int (xs (i + 2)), .int 0, .ref 0]) (h2 := h) (dc2 := dc) (ds2 := ds) 4 rfl ?_
    refine lq_vi (show nI i + (3 : Int32) = nI (i + 3) from nI_add i 3) ?_
    refine lq_xs rfl (by omega) hL rfl ?_
    refine lq_c (as := [.int 0, .int (xs (i + 2)), .int (xs (i + 3))]) rfl rfl rfl rfl hI (fun z => cCall_26_0 z) ?_
    intro v1 h1 d s D2 S2 hI1 e1 e2
    refine lq_gos (f := 200000) (pc2 := 1250) (ls2 := [(4, .int (nI i)), (3, .ref 232), (2, .ref 162), (1, .ref 0), (0, .ref 11)]) (st2 := [.int (nI i + (1 : Int32)), .ref 11, .ref 162]) (h2 := h1) (dc2 := (dc + d)) (ds2 := (ds + s)) 6 rfl ?_
    refine lq_vi (show nI i + (1 : Int32) = nI (i + 1) from nI_add i 1) ?_
    refine lq_xs rfl (by omega) hL rfl ?_
    refine lq_eqt rfl hb1 ?_
    refine lq_gos (f := 200000) (pc2 := 1264) (ls2 := [(4, .int (nI i)), (3, .ref 232), (2, .ref 162), (1, .ref 0), (0, .ref 11)]) (st2 := [.int (nI i + (2 : Int32)), .ref 11, .int 0, .ref 162]) (h2 := h1) (dc2 := (dc + d)) (ds2 := (ds + s)) 5 rfl ?_
    refine lq_vi (show nI i + (2 : Int32) = nI (i + 2) from nI_add i 2) ?_
    refine lq_xs rfl (by omega) hL rfl ?_
    refine lq_gos (f := 200000) (pc2 := 1270) (ls2 := [(4, .int (nI i)), (3, .ref 232), (2, .ref 162), (1, .ref 0), (0, .ref 11)]) (st2 := [.int (nI i + (3 : Int32)), .ref 11, .int (xs (i + 2)), .int 0, .ref 162]) (h2 := h1) (dc2 := (dc + d)) (ds2 := (ds + s)) 4 rfl ?_
    refine lq_vi (show nI i + (3 : Int32) = nI (i + 3) from nI_add i 3) ?_
    refine lq_xs rfl (by omega) hL rfl ?_
    refine lq_m (as := [.int 0, .int (xs (i + 2)), .int (xs (i + 3))]) rfl rfl rfl rfl hI1 (fun z => rCall_m259_0 z) ?_
    intro v2 h2 hI2
    refine lq_gos (f := 200000) (pc2 := 1773) (ls2 := [(4, .int (nI i)), (3, .ref 232), (2, .ref 162), (1, .ref 0), (0, .ref 11)]) (st2 := []) (h2 := h2) (dc2 := (dc + d)) (ds2 := (ds + s)) 2 rfl ?_
    exact kk h2 d s D2 S2 _ hI2 (by omega) (by omega)
  · refine lq_eqf rfl rfl hb1 ?_
    refine lq_gos (f := 200000) (pc2 := 1233) (ls2 := [(4, .int (nI i)), (3, .ref 232), (2, .ref 162), (1, .ref 0), (0, .ref 11)]) (st2 := [.int (nI i + (2 : Int32)), .ref 11, .int 1, .ref 0]) (h2 := h) (dc2 := dc) (ds2 := ds) 6 rfl ?_
    refine lq_vi (show nI i + (2 : Int32) = nI (i + 2) from nI_add i 2) ?_
    refine lq_xs rfl (by omega) hL rfl ?_
    refine lq_gos (f := 200000) (pc2 := 1239) (ls2 := [(4, .int (nI i)), (3, .ref 232), (2, .ref 162), (1, .ref 0), (0, .ref 11)]) (st2 := [.int (nI i + (3 : Int32)), .ref 11, .int (xs (i + 2)), .int 1, .ref 0]) (h2 := h) (dc2 := dc) (ds2 := ds) 4 rfl ?_
    refine lq_vi (show nI i + (3 : Int32) = nI (i + 3) from nI_add i 3) ?_
    refine lq_xs rfl (by omega) hL rfl ?_
    refine lq_c (as := [.int 1, .int (xs (i + 2)), .int (xs (i + 3))]) rfl rfl rfl rfl hI (fun z => cCall_26_1 z) ?_
    intro v1 h1 d s D2 S2 hI1 e1 e2
    refine lq_gos (f := 200000) (pc2 := 1250) (ls2 := [(4, .int (nI i)), (3, .ref 232), (2, .ref 162), (1, .ref 0), (0, .ref 11)]) (st2 := [.int (nI i + (1 : Int32)), .ref 11, .ref 162]) (h2 := h1) (dc2 := (dc + d)) (ds2 := (ds + s)) 6 rfl ?_
    refine lq_vi (show nI i + (1 : Int32) = nI (i + 1) from nI_add i 1) ?_
    refine lq_xs rfl (by omega) hL rfl ?_
    refine lq_eqf rfl rfl hb1 ?_
    refine lq_gos (f := 200000) (pc2 := 1264) (ls2 := [(4, .int (nI i)), (3, .ref 232), (2, .ref 162), (1, .ref 0), (0, .ref 11)]) (st2 := [.int (nI i + (2 : Int32)), .ref 11, .int 1, .ref 162]) (h2 := h1) (dc2 := (dc + d)) (ds2 := (ds + s)) 6 rfl ?_
    refine lq_vi (show nI i + (2 : Int32) = nI (i + 2) from nI_add i 2) ?_
    refine lq_xs rfl (by omega) hL rfl ?_
    refine lq_gos (f := 200000) (pc2 := 1270) (ls2 := [(4, .int (nI i)), (3, .ref 232), (2, .ref 162), (1, .ref 0), (0, .ref 11)]) (st2 := [.int (nI i + (3 : Int32)), .ref 11, .int (xs (i + 2)), .int 1, .ref 162]) (h2 := h1) (dc2 := (dc + d)) (ds2 := (ds + s)) 4 rfl ?_
    refine lq_vi (show nI i + (3 : Int32) = nI (i + 3) from nI_add i 3) ?_
    refine lq_xs rfl (by omega) hL rfl ?_
    refine lq_m (as := [.int 1, .int (xs (i + 2)), .int (xs (i + 3))]) rfl rfl rfl rfl hI1 (fun z => rCall_m259_1 z) ?_
    intro v2 h2 hI2
    refine lq_gos (f := 200000) (pc2 := 1773) (ls2 := [(4, .int (nI i)), (3, .ref 232), (2, .ref 162), (1, .ref 0), (0, .ref 11)]) (st2 := []) (h2 := h2) (dc2 := (dc + d)) (ds2 := (ds + s)) 2 rfl ?_
    exact kk h2 d s D2 S2 _ hI2 (by omega) (by omega)
set_option maxHeartbeats 4000000 in
theorem lop_27 {L : Nat} {xs : Nat → Int32} {i : Nat} {h : zH} {dc ds D S : Nat} {V : cV} (hI : LInv h D S V (tie V)) (hi : i + 6 ≤ L) (hL : L ≤ 3072) (kk : ∀ (h2 : zH) (d s D2 S2 : Nat) (V2 : cV), LInv h2 D2 S2 V2 (tie V2) → d + D ≤ D2 + 1 → s + S ≤ S2 + 6 → lq L xs 1773 [(4, .int (nI i)), (3, .ref 232), (2, .ref 162), (1, .ref 0), (0, .ref 11)] [] h2 (dc + d) (ds + s)) : lq L xs 1278 [(4, .int (nI i)), (3, .ref 232), (2, .ref 162), (1, .ref 0), (0, .ref 11)] [] h dc ds := by
  refine lq_gos (f := 200000) (pc2 := 1284) (ls2 := [(4, .int (nI i)), (3, .ref 232), (2, .ref 162), (1, .ref 0), (0, .ref 11)]) (st2 := [.int (nI i + (1 : Int32)), .ref 11, .ref 0]) (h2 := h) (dc2 := dc) (ds2 := ds) 5 rfl ?_
  refine lq_vi (show nI i + (1 : Int32) = nI (i + 1) from nI_add i 1) ?_
  refine lq_xs rfl (by omega) hL rfl ?_
  by_cases hb1 : xs (i + 1) = 0
  · refine lq_eqt rfl hb1 ?_
    refine lq_gos (f := 200000) (pc2 := 1298) (ls2 := [(4, .int (nI i)), (3, .ref 232), (2, .ref 162), (1, .ref 0), (0, .ref 11)]) (st2 := [.int (nI i + (2 : Int32)), .ref 11, .int 0, .ref 0]) (h2 := h) (dc2 := dc) (ds2 := ds) 5 rfl ?_
    refine lq_vi (show nI i + (2 : Int32) = nI (i + 2) from nI_add i 2) ?_
    refine lq_xs rfl (by omega) hL rfl ?_
    refine lq_c (as := [.int 0, .int (xs (i + 2))]) rfl rfl rfl rfl hI (fun z => cCall_27_0 z) ?_
    intro v1 h1 d s D2 S2 hI1 e1 e2
    refine lq_gos (f := 200000) (pc2 := 1309) (ls2 := [(4, .int (nI i)), (3, .ref 232), (2, .ref 162), (1, .ref 0), (0, .ref 11)]) (st2 := [.int (nI i + (1 : Int32)), .ref 11, .ref 162]) (h2 := h1) (dc2 := (dc + d)) (ds2 := (ds + s)) 6 rfl ?_
    refine lq_vi (show nI i + (1 : Int32) = nI (i + 1) from nI_add i 1) ?_
    refine lq_xs rfl (by omega) hL rfl ?_
    refine lq_eqt rfl hb1 ?_
    refine lq_gos (f := 200000) (pc2 := 1323) (ls2 := [(4, .int (nI i)), (3, .ref 232), (2, .ref 162), (1, .ref 0), (0, .ref 11)]) (st2 := [.int (nI i + (2 : Int32)), .ref 11, .int 0, .ref 162]) (h2 := h1) (dc2 := (dc + d)) (ds2 := (ds + s)) 5 rfl ?_
    refine lq_vi (show nI i + (2 : Int32) = nI (i + 2) from nI_add i 2) ?_
    refine lq_xs rfl (by omega) hL rfl ?_
    refine lq_m (as := [.int 0, .int (xs (i + 2))]) rfl rfl rfl rfl hI1 (fun z => rCall_m260_0 z) ?_
    intro v2 h2 hI2
    refine lq_gos (f := 200000) (pc2 := 1773) (ls2 := [(4, .int (nI i)), (3, .ref 232), (2, .ref 162), (1, .ref 0), (0, .ref 11)]) (st2 := []) (h2 := h2) (dc2 := (dc + d)) (ds2 := (ds + s)) 2 rfl ?_
    exact kk h2 d s D2 S2 _ hI2 (by omega) (by omega)
  · refine lq_eqf rfl rfl hb1 ?_
    refine lq_gos (f := 200000) (pc2 := 1298) (ls2 := [(4, .int (nI i)), (3, .ref 232), (2, .ref 162), (1, .ref 0), (0, .ref 11)]) (st2 := [.int (nI i + (2 : Int32)), .ref 11, .int 1, .ref 0]) (h2 := h) (dc2 := dc) (ds2 := ds) 6 rfl ?_
    refine lq_vi (show nI i + (2 : Int32) = nI (i + 2) from nI_add i 2) ?_
    refine lq_xs rfl (by omega) hL rfl ?_
    refine lq_c (as := [.int 1, .int (xs (i + 2))]) rfl rfl rfl rfl hI (fun z => cCall_27_1 z) ?_
    intro v1 h1 d s D2 S2 hI1 e1 e2
    refine lq_gos (f := 200000) (pc2 := 1309) (ls2 := [(4, .int (nI i)), (3, .ref 232), (2, .ref 162), (1, .ref 0), (0, .ref 11)]) (st2 := [.int (nI i + (1 : Int32)), .ref 11, .ref 162]) (h2 := h1) (dc2 := (dc + d)) (ds2 := (ds + s)) 6 rfl ?_
    refine lq_vi (show nI i + (1 : Int32) = nI (i + 1) from nI_add i 1) ?_
    refine lq_xs rfl (by omega) hL rfl ?_
    refine lq_eqf rfl rfl hb1 ?_
    refine lq_gos (f := 200000) (pc2 := 1323) (ls2 := [(4, .int (nI i)), (3, .ref 232), (2, .ref 162), (1, .ref 0), (0, .ref 11)]) (st2 := [.int (nI i + (2 : Int32)), .ref 11, .int 1, .ref 162]) (h2 := h1) (dc2 := (dc + d)) (ds2 := (ds + s)) 6 rfl ?_
    refine lq_vi (show nI i + (2 : Int32) = nI (i + 2) from nI_add i 2) ?_
    refine lq_xs rfl (by omega) hL rfl ?_
    refine lq_m (as := [.int 1, .int (xs (i + 2))]) rfl rfl rfl rfl hI1 (fun z => rCall_m260_1 z) ?_
    intro v2 h2 hI2
    refine lq_gos (f := 200000) (pc2 := 1773) (ls2 := [(4, .int (nI i)), (3, .ref 232), (2, .ref 162), (1, .ref 0), (0, .ref 11)]) (st2 := []) (h2 := h2) (dc2 := (dc + d)) (ds2 := (ds + s)) 2 rfl ?_
    exact kk h2 d s D2 S2 _ hI2 (by omega) (by omega)
set_option maxHeartbeats 4000000 in
theorem lop_28 {L : Nat} {xs : Nat → Int32} {i : Nat} {h : zH} {dc ds D S : Nat} {V : cV} (hI : LInv h D S V (tie V)) (hi : i + 6 ≤ L) (hL : L ≤ 3072) (kk : ∀ (h2 : zH) (d s D2 S2 : Nat) (V2 : cV), LInv h2 D2 S2 V2 (tie V2) → d + D ≤ D2 + 1 → s + S ≤ S2 + 6 → lq L xs 1773 [(4, .int (nI i)), (3, .ref 232), (2, .ref 162), (1, .ref 0), (0, .ref 11)] [] h2 (dc + d) (ds + s)) : lq L xs 1331 [(4, .int (nI i)), (3, .ref 232), (2, .ref 162), (1, .ref 0), (0, .ref 11)] [] h dc ds := by
  refine lq_gos (f := 200000) (pc2 := 1337) (ls2 := [(4, .int (nI i)), (3, .ref 232), (2, .ref 162), (1, .ref 0), (0, .ref 11)]) (st2 := [.int (nI i + (1 : Int32)), .ref 11, .ref 0]) (h2 := h) (dc2 := dc) (ds2 := ds) 5 rfl ?_
  refine lq_vi (show nI i + (1 : Int32) = nI (i + 1) from nI_add i 1) ?_
  refine lq_xs rfl (by omega) hL rfl ?_
  by_cases hb1 : xs (i + 1) = 0
  · refine lq_eqt rfl hb1 ?_
    refine lq_gos (f := 200000) (pc2 := 1351) (ls2 := [(4, .int (nI i)), (3, .ref 232), (2, .ref 162), (1, .ref 0), (0, .ref 11)]) (st2 := [.int (nI i + (2 : Int32)), .ref 11, .int 0, .ref 0]) (h2 := h) (dc2 := dc) (ds2 := ds) 5 rfl ?_
    refine lq_vi (show nI i + (2 : Int32) = nI (i + 2) from nI_add i 2) ?_
    refine lq_xs rfl (by omega) hL rfl ?_
    refine lq_c (as := [.int 0, .int (xs (i + 2))]) rfl rfl rfl rfl hI (fun z => cCall_28_0 z) ?_
    intro v1 h1 d s D2 S2 hI1 e1 e2
    refine lq_gos (f := 200000) (pc2 := 1362) (ls2 := [(4, .int (nI i)), (3, .ref 232), (2, .ref 162), (1, .ref 0), (0, .ref 11)]) (st2 := [.int (nI i + (1 : Int32)), .ref 11, .ref 162]) (h2 := h1) (dc2 := (dc + d)) (ds2 := (ds + s)) 6 rfl ?_
    refine lq_vi (show nI i + (1 : Int32) = nI (i + 1) from nI_add i 1) ?_
    refine lq_xs rfl (by omega) hL rfl ?_
    refine lq_eqt rfl hb1 ?_
    refine lq_gos (f := 200000) (pc2 := 1376) (ls2 := [(4, .int (nI i)), (3, .ref 232), (2, .ref 162), (1, .ref 0), (0, .ref 11)]) (st2 := [.int (nI i + (2 : Int32)), .ref 11, .int 0, .ref 162]) (h2 := h1) (dc2 := (dc + d)) (ds2 := (ds + s)) 5 rfl ?_
    refine lq_vi (show nI i + (2 : Int32) = nI (i + 2) from nI_add i 2) ?_
    refine lq_xs rfl (by omega) hL rfl ?_
    refine lq_m (as := [.int 0, .int (xs (i + 2))]) rfl rfl rfl rfl hI1 (fun z => rCall_m263_0 z) ?_
    intro v2 h2 hI2
    refine lq_gos (f := 200000) (pc2 := 1773) (ls2 := [(4, .int (nI i)), (3, .ref 232), (2, .ref 162), (1, .ref 0), (0, .ref 11)]) (st2 := []) (h2 := h2) (dc2 := (dc + d)) (ds2 := (ds + s)) 2 rfl ?_
    exact kk h2 d s D2 S2 _ hI2 (by omega) (by omega)
  · refine lq_eqf rfl rfl hb1 ?_
    refine lq_gos (f := 200000) (pc2 := 1351) (ls2 := [(4, .int (nI i)), (3, .ref 232), (2, .ref 162), (1, .ref 0), (0, .ref 11)]) (st2 := [.int (nI i + (2 : Int32)), .ref 11, .int 1, .ref 0]) (h2 := h) (dc2 := dc) (ds2 := ds) 6 rfl ?_
    refine lq_vi (show nI i + (2 : Int32) = nI (i + 2) from nI_add i 2) ?_
    refine lq_xs rfl (by omega) hL rfl ?_
    refine lq_c (as := [.int 1, .int (xs (i + 2))]) rfl rfl rfl rfl hI (fun z => cCall_28_1 z) ?_
    intro v1 h1 d s D2 S2 hI1 e1 e2
    refine lq_gos (f := 200000) (pc2 := 1362) (ls2 := [(4, .int (nI i)), (3, .ref 232), (2, .ref 162), (1, .ref 0), (0, .ref 11)]) (st2 := [.int (nI i + (1 : Int32)), .ref 11, .ref 162]) (h2 := h1) (dc2 := (dc + d)) (ds2 := (ds + s)) 6 rfl ?_
    refine lq_vi (show nI i + (1 : Int32) = nI (i + 1) from nI_add i 1) ?_
    refine lq_xs rfl (by omega) hL rfl ?_
    refine lq_eqf rfl rfl hb1 ?_
    refine lq_gos (f := 200000) (pc2 := 1376) (ls2 := [(4, .int (nI i)), (3, .ref 232), (2, .ref 162), (1, .ref 0), (0, .ref 11)]) (st2 := [.int (nI i + (2 : Int32)), .ref 11, .int 1, .ref 162]) (h2 := h1) (dc2 := (dc + d)) (ds2 := (ds + s)) 6 rfl ?_
    refine lq_vi (show nI i + (2 : Int32) = nI (i + 2) from nI_add i 2) ?_
    refine lq_xs rfl (by omega) hL rfl ?_
    refine lq_m (as := [.int 1, .int (xs (i + 2))]) rfl rfl rfl rfl hI1 (fun z => rCall_m263_1 z) ?_
    intro v2 h2 hI2
    refine lq_gos (f := 200000) (pc2 := 1773) (ls2 := [(4, .int (nI i)), (3, .ref 232), (2, .ref 162), (1, .ref 0), (0, .ref 11)]) (st2 := []) (h2 := h2) (dc2 := (dc + d)) (ds2 := (ds + s)) 2 rfl ?_
    exact kk h2 d s D2 S2 _ hI2 (by omega) (by omega)
set_option maxHeartbeats 4000000 in
theorem lop_29 {L : Nat} {xs : Nat → Int32} {i : Nat} {h : zH} {dc ds D S : Nat} {V : cV} (hI : LInv h D S V (tie V)) (hi : i + 6 ≤ L) (hL : L ≤ 3072) (kk : ∀ (h2 : zH) (d s D2 S2 : Nat) (V2 : cV), LInv h2 D2 S2 V2 (tie V2) → d + D ≤ D2 + 1 → s + S ≤ S2 + 6 → lq L xs 1773 [(4, .int (nI i)), (3, .ref 232), (2, .ref 162), (1, .ref 0), (0, .ref 11)] [] h2 (dc + d) (ds + s)) : lq L xs 1384 [(4, .int (nI i)), (3, .ref 232), (2, .ref 162), (1, .ref 0), (0, .ref 11)] [] h dc ds := by
  refine lq_gos (f := 200000) (pc2 := 1390) (ls2 := [(4, .int (nI i)), (3, .ref 232), (2, .ref 162), (1, .ref 0), (0, .ref 11)]) (st2 := [.int (nI i + (1 : Int32)), .ref 11, .ref 0]) (h2 := h) (dc2 := dc) (ds2 := ds) 5 rfl ?_
  refine lq_vi (show nI i + (1 : Int32) = nI (i + 1) from nI_add i 1) ?_
  refine lq_xs rfl (by omega) hL rfl ?_
  by_cases hb1 : xs (i + 1) = 0
  · refine lq_eqt rfl hb1 ?_
    refine lq_gos (f := 200000) (pc2 := 1399) (ls2 := [(4, .int (nI i)), (3, .ref 232), (2, .ref 162), (1, .ref 0), (0, .ref 11)]) (st2 := [.int 0, .ref 0]) (h2 := h) (dc2 := dc) (ds2 := ds) 1 rfl ?_
    refine lq_cL (as := [.int 0]) rfl rfl rfl rfl hI (fun z => cCall_29_0 z) ?_
    intro v1 h1 d s D2 S2 hI1 e1 e2
    refine lq_gos (f := 200000) (pc2 := 1409) (ls2 := [(4, .int (nI i)), (3, .ref 232), (2, .ref 162), (1, .ref 0), (0, .ref 11)]) (st2 := [.int (nI i + (1 : Int32)), .ref 11, .ref 162]) (h2 := h1) (dc2 := (dc + d)) (ds2 := (ds + s)) 6 rfl ?_
    refine lq_vi (show nI i + (1 : Int32) = nI (i + 1) from nI_add i 1) ?_
    refine lq_xs rfl (by omega) hL rfl ?_
    refine lq_eqt rfl hb1 ?_
    refine lq_gos (f := 200000) (pc2 := 1418) (ls2 := [(4, .int (nI i)), (3, .ref 232), (2, .ref 162), (1, .ref 0), (0, .ref 11)]) (st2 := [.int 0, .ref 162]) (h2 := h1) (dc2 := (dc + d)) (ds2 := (ds + s)) 1 rfl ?_
    refine lq_mL (as := [.int 0]) rfl rfl rfl rfl hI1 (fun z => rCall_m266_0 z) ?_
    intro v2 h2 hI2
    refine lq_gos (f := 200000) (pc2 := 1773) (ls2 := [(4, .int (nI i)), (3, .ref 232), (2, .ref 162), (1, .ref 0), (0, .ref 11)]) (st2 := []) (h2 := h2) (dc2 := (dc + d)) (ds2 := (ds + s)) 2 rfl ?_
    exact kk h2 d s D2 S2 _ hI2 (by omega) (by omega)
  · refine lq_eqf rfl rfl hb1 ?_
    refine lq_gos (f := 200000) (pc2 := 1399) (ls2 := [(4, .int (nI i)), (3, .ref 232), (2, .ref 162), (1, .ref 0), (0, .ref 11)]) (st2 := [.int 1, .ref 0]) (h2 := h) (dc2 := dc) (ds2 := ds) 2 rfl ?_
    refine lq_cL (as := [.int 1]) rfl rfl rfl rfl hI (fun z => cCall_29_1 z) ?_
    intro v1 h1 d s D2 S2 hI1 e1 e2
    refine lq_gos (f := 200000) (pc2 := 1409) (ls2 := [(4, .int (nI i)), (3, .ref 232), (2, .ref 162), (1, .ref 0), (0, .ref 11)]) (st2 := [.int (nI i + (1 : Int32)), .ref 11, .ref 162]) (h2 := h1) (dc2 := (dc + d)) (ds2 := (ds + s)) 6 rfl ?_
    refine lq_vi (show nI i + (1 : Int32) = nI (i + 1) from nI_add i 1) ?_
    refine lq_xs rfl (by omega) hL rfl ?_
    refine lq_eqf rfl rfl hb1 ?_
    refine lq_gos (f := 200000) (pc2 := 1418) (ls2 := [(4, .int (nI i)), (3, .ref 232), (2, .ref 162), (1, .ref 0), (0, .ref 11)]) (st2 := [.int 1, .ref 162]) (h2 := h1) (dc2 := (dc + d)) (ds2 := (ds + s)) 2 rfl ?_
    refine lq_mL (as := [.int 1]) rfl rfl rfl rfl hI1 (fun z => rCall_m266_1 z) ?_
    intro v2 h2 hI2
    refine lq_gos (f := 200000) (pc2 := 1773) (ls2 := [(4, .int (nI i)), (3, .ref 232), (2, .ref 162), (1, .ref 0), (0, .ref 11)]) (st2 := []) (h2 := h2) (dc2 := (dc + d)) (ds2 := (ds + s)) 2 rfl ?_
    exact kk h2 d s D2 S2 _ hI2 (by omega) (by omega)
set_option maxHeartbeats 4000000 in
theorem lop_30 {L : Nat} {xs : Nat → Int32} {i : Nat} {h : zH} {dc ds D S : Nat} {V : cV} (hI : LInv h D S V (tie V)) (hi : i + 6 ≤ L) (hL : L ≤ 3072) (kk : ∀ (h2 : zH) (d s D2 S2 : Nat) (V2 : cV), LInv h2 D2 S2 V2 (tie V2) → d + D ≤ D2 + 1 → s + S ≤ S2 + 6 → lq L xs 1773 [(4, .int (nI i)), (3, .ref 232), (2, .ref 162), (1, .ref 0), (0, .ref 11)] [] h2 (dc + d) (ds + s)) : lq L xs 1425 [(4, .int (nI i)), (3, .ref 232), (2, .ref 162), (1, .ref 0), (0, .ref 11)] [] h dc ds := by
  refine lq_gos (f := 200000) (pc2 := 1426) (ls2 := [(4, .int (nI i)), (3, .ref 232), (2, .ref 162), (1, .ref 0), (0, .ref 11)]) (st2 := [.ref 0]) (h2 := h) (dc2 := dc) (ds2 := ds) 1 rfl ?_
  refine lq_c (as := []) rfl rfl rfl rfl hI (fun z => cCall_30 z) ?_
  intro v1 h1 d s D2 S2 hI1 e1 e2
  refine lq_gos (f := 200000) (pc2 := 1431) (ls2 := [(4, .int (nI i)), (3, .ref 232), (2, .ref 162), (1, .ref 0), (0, .ref 11)]) (st2 := [.ref 162]) (h2 := h1) (dc2 := (dc + d)) (ds2 := (ds + s)) 2 rfl ?_
  refine lq_m (as := []) rfl rfl rfl rfl hI1 (fun z => rCall_33 z) ?_
  intro v2 h2 hI2
  refine lq_gos (f := 200000) (pc2 := 1773) (ls2 := [(4, .int (nI i)), (3, .ref 232), (2, .ref 162), (1, .ref 0), (0, .ref 11)]) (st2 := []) (h2 := h2) (dc2 := (dc + d)) (ds2 := (ds + s)) 2 rfl ?_
  exact kk h2 d s D2 S2 _ hI2 (by omega) (by omega)
set_option maxHeartbeats 4000000 in
theorem lop_31 {L : Nat} {xs : Nat → Int32} {i : Nat} {h : zH} {dc ds D S : Nat} {V : cV} (hI : LInv h D S V (tie V)) (hi : i + 6 ≤ L) (hL : L ≤ 3072) (kk : ∀ (h2 : zH) (d s D2 S2 : Nat) (V2 : cV), LInv h2 D2 S2 V2 (tie V2) → d + D ≤ D2 + 1 → s + S ≤ S2 + 6 → lq L xs 1773 [(4, .int (nI i)), (3, .ref 232), (2, .ref 162), (1, .ref 0), (0, .ref 11)] [] h2 (dc + d) (ds + s)) : lq L xs 1438 [(4, .int (nI i)), (3, .ref 232), (2, .ref 162), (1, .ref 0), (0, .ref 11)] [] h dc ds := by
  refine lq_gos (f := 200000) (pc2 := 1444) (ls2 := [(4, .int (nI i)), (3, .ref 232), (2, .ref 162), (1, .ref 0), (0, .ref 11)]) (st2 := [.int (nI i + (1 : Int32)), .ref 11, .ref 0]) (h2 := h) (dc2 := dc) (ds2 := ds) 5 rfl ?_
  refine lq_vi (show nI i + (1 : Int32) = nI (i + 1) from nI_add i 1) ?_
  refine lq_xs rfl (by omega) hL rfl ?_
  refine lq_c (as := [.int (xs (i + 1))]) rfl rfl rfl rfl hI (fun z => cCall_31 z) ?_
  intro v1 h1 d s D2 S2 hI1 e1 e2
  refine lq_gos (f := 200000) (pc2 := 1455) (ls2 := [(4, .int (nI i)), (3, .ref 232), (2, .ref 162), (1, .ref 0), (0, .ref 11)]) (st2 := [.int (nI i + (1 : Int32)), .ref 11, .ref 162]) (h2 := h1) (dc2 := (dc + d)) (ds2 := (ds + s)) 6 rfl ?_
  refine lq_vi (show nI i + (1 : Int32) = nI (i + 1) from nI_add i 1) ?_
  refine lq_xs rfl (by omega) hL rfl ?_
  refine lq_m (as := [.int (xs (i + 1))]) rfl rfl rfl rfl hI1 (fun z => rCall_34 z) ?_
  intro v2 h2 hI2
  refine lq_gos (f := 200000) (pc2 := 1773) (ls2 := [(4, .int (nI i)), (3, .ref 232), (2, .ref 162), (1, .ref 0), (0, .ref 11)]) (st2 := []) (h2 := h2) (dc2 := (dc + d)) (ds2 := (ds + s)) 2 rfl ?_
  exact kk h2 d s D2 S2 _ hI2 (by omega) (by omega)
set_option maxHeartbeats 4000000 in
theorem lop_32 {L : Nat} {xs : Nat → Int32} {i : Nat} {h : zH} {dc ds D S : Nat} {V : cV} (hI : LInv h D S V (tie V)) (hi : i + 6 ≤ L) (hL : L ≤ 3072) (kk : ∀ (h2 : zH) (d s D2 S2 : Nat) (V2 : cV), LInv h2 D2 S2 V2 (tie V2) → d + D ≤ D2 + 1 → s + S ≤ S2 + 6 → lq L xs 1773 [(4, .int (nI i)), (3, .ref 232), (2, .ref 162), (1, .ref 0), (0, .ref 11)] [] h2 (dc + d) (ds + s)) : lq L xs 1463 [(4, .int (nI i)), (3, .ref 232), (2, .ref 162), (1, .ref 0), (0, .ref 11)] [] h dc ds := by
  refine lq_gos (f := 200000) (pc2 := 1469) (ls2 := [(4, .int (nI i)), (3, .ref 232), (2, .ref 162), (1, .ref 0), (0, .ref 11)]) (st2 := [.int (nI i + (1 : Int32)), .ref 11, .ref 0]) (h2 := h) (dc2 := dc) (ds2 := ds) 5 rfl ?_
  refine lq_vi (show nI i + (1 : Int32) = nI (i + 1) from nI_add i 1) ?_
  refine lq_xs rfl (by omega) hL rfl ?_
  refine lq_gos (f := 200000) (pc2 := 1475) (ls2 := [(4, .int (nI i)), (3, .ref 232), (2, .ref 162), (1, .ref 0), (0, .ref 11)]) (st2 := [.int (nI i + (2 : Int32)), .ref 11, .int (xs (i + 1)), .ref 0]) (h2 := h) (dc2 := dc) (ds2 := ds) 4 rfl ?_
  refine lq_vi (show nI i + (2 : Int32) = nI (i + 2) from nI_add i 2) ?_
  refine lq_xs rfl (by omega) hL rfl ?_
  by_cases hb2 : xs (i + 2) = 0
  · refine lq_eqt rfl hb2 ?_
    refine lq_gos (f := 200000) (pc2 := 1484) (ls2 := [(4, .int (nI i)), (3, .ref 232), (2, .ref 162), (1, .ref 0), (0, .ref 11)]) (st2 := [.int 0, .int (xs (i + 1)), .ref 0]) (h2 := h) (dc2 := dc) (ds2 := ds) 1 rfl ?_
    refine lq_c (as := [.int (xs (i + 1)), .int 0]) rfl rfl rfl rfl hI (fun z => cCall_32 z) ?_
    intro v1 h1 d s D2 S2 hI1 e1 e2
    refine lq_gos (f := 200000) (pc2 := 1494) (ls2 := [(4, .int (nI i)), (3, .ref 232), (2, .ref 162), (1, .ref 0), (0, .ref 11)]) (st2 := [.int (nI i + (1 : Int32)), .ref 11, .ref 162]) (h2 := h1) (dc2 := (dc + d)) (ds2 := (ds + s)) 6 rfl ?_
    refine lq_vi (show nI i + (1 : Int32) = nI (i + 1) from nI_add i 1) ?_
    refine lq_xs rfl (by omega) hL rfl ?_
    refine lq_gos (f := 200000) (pc2 := 1500) (ls2 := [(4, .int (nI i)), (3, .ref 232), (2, .ref 162), (1, .ref 0), (0, .ref 11)]) (st2 := [.int (nI i + (2 : Int32)), .ref 11, .int (xs (i + 1)), .ref 162]) (h2 := h1) (dc2 := (dc + d)) (ds2 := (ds + s)) 4 rfl ?_
    refine lq_vi (show nI i + (2 : Int32) = nI (i + 2) from nI_add i 2) ?_
    refine lq_xs rfl (by omega) hL rfl ?_
    refine lq_eqt rfl hb2 ?_
    refine lq_gos (f := 200000) (pc2 := 1509) (ls2 := [(4, .int (nI i)), (3, .ref 232), (2, .ref 162), (1, .ref 0), (0, .ref 11)]) (st2 := [.int 0, .int (xs (i + 1)), .ref 162]) (h2 := h1) (dc2 := (dc + d)) (ds2 := (ds + s)) 1 rfl ?_
    refine lq_m (as := [.int (xs (i + 1)), .int 0]) rfl rfl rfl rfl hI1 (fun z => rCall_32_0 z) ?_
    intro v2 h2 hI2
    refine lq_gos (f := 200000) (pc2 := 1773) (ls2 := [(4, .int (nI i)), (3, .ref 232), (2, .ref 162), (1, .ref 0), (0, .ref 11)]) (st2 := []) (h2 := h2) (dc2 := (dc + d)) (ds2 := (ds + s)) 2 rfl ?_
    exact kk h2 d s D2 S2 _ hI2 (by omega) (by omega)
  · refine lq_eqf rfl rfl hb2 ?_
    refine lq_gos (f := 200000) (pc2 := 1484) (ls2 := [(4, .int (nI i)), (3, .ref 232), (2, .ref 162), (1, .ref 0), (0, .ref 11)]) (st2 := [.int 1, .int (xs (i + 1)), .ref 0]) (h2 := h) (dc2 := dc) (ds2 := ds) 2 rfl ?_
    refine lq_c (as := [.int (xs (i + 1)), .int 1]) rfl rfl rfl rfl hI (fun z => cCall_32 z) ?_
    intro v1 h1 d s D2 S2 hI1 e1 e2
    refine lq_gos (f := 200000) (pc2 := 1494) (ls2 := [(4, .int (nI i)), (3, .ref 232), (2, .ref 162), (1, .ref 0), (0, .ref 11)]) (st2 := [.int (nI i + (1 : Int32)), .ref 11, .ref 162]) (h2 := h1) (dc2 := (dc + d)) (ds2 := (ds + s)) 6 rfl ?_
    refine lq_vi (show nI i + (1 : Int32) = nI (i + 1) from nI_add i 1) ?_
    refine lq_xs rfl (by omega) hL rfl ?_
    refine lq_gos (f := 200000) (pc2 := 1500) (ls2 := [(4, .int (nI i)), (3, .ref 232), (2, .ref 162), (1, .ref 0), (0, .ref 11)]) (st2 := [.int (nI i + (2 : Int32)), .ref 11, .int (xs (i + 1)), .ref 162]) (h2 := h1) (dc2 := (dc + d)) (ds2 := (ds + s)) 4 rfl ?_
    refine lq_vi (show nI i + (2 : Int32) = nI (i + 2) from nI_add i 2) ?_
    refine lq_xs rfl (by omega) hL rfl ?_
    refine lq_eqf rfl rfl hb2 ?_
    refine lq_gos (f := 200000) (pc2 := 1509) (ls2 := [(4, .int (nI i)), (3, .ref 232), (2, .ref 162), (1, .ref 0), (0, .ref 11)]) (st2 := [.int 1, .int (xs (i + 1)), .ref 162]) (h2 := h1) (dc2 := (dc + d)) (ds2 := (ds + s)) 2 rfl ?_
    refine lq_m (as := [.int (xs (i + 1)), .int 1]) rfl rfl rfl rfl hI1 (fun z => rCall_32_1 z) ?_
    intro v2 h2 hI2
    refine lq_gos (f := 200000) (pc2 := 1773) (ls2 := [(4, .int (nI i)), (3, .ref 232), (2, .ref 162), (1, .ref 0), (0, .ref 11)]) (st2 := []) (h2 := h2) (dc2 := (dc + d)) (ds2 := (ds + s)) 2 rfl ?_
    exact kk h2 d s D2 S2 _ hI2 (by omega) (by omega)
set_option maxHeartbeats 4000000 in
theorem lop_33 {L : Nat} {xs : Nat → Int32} {i : Nat} {h : zH} {dc ds D S : Nat} {V : cV} (hI : LInv h D S V (tie V)) (hi : i + 6 ≤ L) (hL : L ≤ 3072) (kk : ∀ (h2 : zH) (d s D2 S2 : Nat) (V2 : cV), LInv h2 D2 S2 V2 (tie V2) → d + D ≤ D2 + 1 → s + S ≤ S2 + 6 → lq L xs 1773 [(4, .int (nI i)), (3, .ref 232), (2, .ref 162), (1, .ref 0), (0, .ref 11)] [] h2 (dc + d) (ds + s)) : lq L xs 1516 [(4, .int (nI i)), (3, .ref 232), (2, .ref 162), (1, .ref 0), (0, .ref 11)] [] h dc ds := by
  refine lq_gos (f := 200000) (pc2 := 1522) (ls2 := [(4, .int (nI i)), (3, .ref 232), (2, .ref 162), (1, .ref 0), (0, .ref 11)]) (st2 := [.int (nI i + (1 : Int32)), .ref 11, .ref 0]) (h2 := h) (dc2 := dc) (ds2 := ds) 5 rfl ?_
  refine lq_vi (show nI i + (1 : Int32) = nI (i + 1) from nI_add i 1) ?_
  refine lq_xs rfl (by omega) hL rfl ?_
  by_cases hb1 : xs (i + 1) = 0
  · refine lq_eqt rfl hb1 ?_
    refine lq_gos (f := 200000) (pc2 := 1531) (ls2 := [(4, .int (nI i)), (3, .ref 232), (2, .ref 162), (1, .ref 0), (0, .ref 11)]) (st2 := [.int 0, .ref 0]) (h2 := h) (dc2 := dc) (ds2 := ds) 1 rfl ?_
    refine lq_c (as := [.int 0]) rfl rfl rfl rfl hI (fun z => cCall_33_0 z) ?_
    intro v1 h1 d s D2 S2 hI1 e1 e2
    refine lq_gos (f := 200000) (pc2 := 1541) (ls2 := [(4, .int (nI i)), (3, .ref 232), (2, .ref 162), (1, .ref 0), (0, .ref 11)]) (st2 := [.int (nI i + (1 : Int32)), .ref 11, .ref 162]) (h2 := h1) (dc2 := (dc + d)) (ds2 := (ds + s)) 6 rfl ?_
    refine lq_vi (show nI i + (1 : Int32) = nI (i + 1) from nI_add i 1) ?_
    refine lq_xs rfl (by omega) hL rfl ?_
    refine lq_eqt rfl hb1 ?_
    refine lq_gos (f := 200000) (pc2 := 1550) (ls2 := [(4, .int (nI i)), (3, .ref 232), (2, .ref 162), (1, .ref 0), (0, .ref 11)]) (st2 := [.int 0, .ref 162]) (h2 := h1) (dc2 := (dc + d)) (ds2 := (ds + s)) 1 rfl ?_
    refine lq_m (as := [.int 0]) rfl rfl rfl rfl hI1 (fun z => rCall_m267_0 z) ?_
    intro v2 h2 hI2
    refine lq_gos (f := 200000) (pc2 := 1773) (ls2 := [(4, .int (nI i)), (3, .ref 232), (2, .ref 162), (1, .ref 0), (0, .ref 11)]) (st2 := []) (h2 := h2) (dc2 := (dc + d)) (ds2 := (ds + s)) 2 rfl ?_
    exact kk h2 d s D2 S2 _ hI2 (by omega) (by omega)
  · refine lq_eqf rfl rfl hb1 ?_
    refine lq_gos (f := 200000) (pc2 := 1531) (ls2 := [(4, .int (nI i)), (3, .ref 232), (2, .ref 162), (1, .ref 0), (0, .ref 11)]) (st2 := [.int 1, .ref 0]) (h2 := h) (dc2 := dc) (ds2 := ds) 2 rfl ?_
    refine lq_c (as := [.int 1]) rfl rfl rfl rfl hI (fun z => cCall_33_1 z) ?_
    intro v1 h1 d s D2 S2 hI1 e1 e2
    refine lq_gos (f := 200000) (pc2 := 1541) (ls2 := [(4, .int (nI i)), (3, .ref 232), (2, .ref 162), (1, .ref 0), (0, .ref 11)]) (st2 := [.int (nI i + (1 : Int32)), .ref 11, .ref 162]) (h2 := h1) (dc2 := (dc + d)) (ds2 := (ds + s)) 6 rfl ?_
    refine lq_vi (show nI i + (1 : Int32) = nI (i + 1) from nI_add i 1) ?_
    refine lq_xs rfl (by omega) hL rfl ?_
    refine lq_eqf rfl rfl hb1 ?_
    refine lq_gos (f := 200000) (pc2 := 1550) (ls2 := [(4, .int (nI i)), (3, .ref 232), (2, .ref 162), (1, .ref 0), (0, .ref 11)]) (st2 := [.int 1, .ref 162]) (h2 := h1) (dc2 := (dc + d)) (ds2 := (ds + s)) 2 rfl ?_
    refine lq_m (as := [.int 1]) rfl rfl rfl rfl hI1 (fun z => rCall_m267_1 z) ?_
    intro v2 h2 hI2
    refine lq_gos (f := 200000) (pc2 := 1773) (ls2 := [(4, .int (nI i)), (3, .ref 232), (2, .ref 162), (1, .ref 0), (0, .ref 11)]) (st2 := []) (h2 := h2) (dc2 := (dc + d)) (ds2 := (ds + s)) 2 rfl ?_
    exact kk h2 d s D2 S2 _ hI2 (by omega) (by omega)
set_option maxHeartbeats 4000000 in
theorem lop_34 {L : Nat} {xs : Nat → Int32} {i : Nat} {h : zH} {dc ds D S : Nat} {V : cV} (hI : LInv h D S V (tie V)) (hi : i + 6 ≤ L) (hL : L ≤ 3072) (kk : ∀ (h2 : zH) (d s D2 S2 : Nat) (V2 : cV), LInv h2 D2 S2 V2 (tie V2) → d + D ≤ D2 + 1 → s + S ≤ S2 + 6 → lq L xs 1773 [(4, .int (nI i)), (3, .ref 232), (2, .ref 162), (1, .ref 0), (0, .ref 11)] [] h2 (dc + d) (ds + s)) : lq L xs 1557 [(4, .int (nI i)), (3, .ref 232), (2, .ref 162), (1, .ref 0), (0, .ref 11)] [] h dc ds := by
  refine lq_gos (f := 200000) (pc2 := 1563) (ls2 := [(4, .int (nI i)), (3, .ref 232), (2, .ref 162), (1, .ref 0), (0, .ref 11)]) (st2 := [.int (nI i + (1 : Int32)), .ref 11, .ref 0]) (h2 := h) (dc2 := dc) (ds2 := ds) 5 rfl ?_
  refine lq_vi (show nI i + (1 : Int32) = nI (i + 1) from nI_add i 1) ?_
  refine lq_xs rfl (by omega) hL rfl ?_
  by_cases hb1 : xs (i + 1) = 0
  · refine lq_eqt rfl hb1 ?_
    refine lq_gos (f := 200000) (pc2 := 1572) (ls2 := [(4, .int (nI i)), (3, .ref 232), (2, .ref 162), (1, .ref 0), (0, .ref 11)]) (st2 := [.int 0, .ref 0]) (h2 := h) (dc2 := dc) (ds2 := ds) 1 rfl ?_
    refine lq_c (as := [.int 0]) rfl rfl rfl rfl hI (fun z => cCall_34_0 z) ?_
    intro v1 h1 d s D2 S2 hI1 e1 e2
    refine lq_gos (f := 200000) (pc2 := 1582) (ls2 := [(4, .int (nI i)), (3, .ref 232), (2, .ref 162), (1, .ref 0), (0, .ref 11)]) (st2 := [.int (nI i + (1 : Int32)), .ref 11, .ref 162]) (h2 := h1) (dc2 := (dc + d)) (ds2 := (ds + s)) 6 rfl ?_
    refine lq_vi (show nI i + (1 : Int32) = nI (i + 1) from nI_add i 1) ?_
    refine lq_xs rfl (by omega) hL rfl ?_
    refine lq_eqt rfl hb1 ?_
    refine lq_gos (f := 200000) (pc2 := 1591) (ls2 := [(4, .int (nI i)), (3, .ref 232), (2, .ref 162), (1, .ref 0), (0, .ref 11)]) (st2 := [.int 0, .ref 162]) (h2 := h1) (dc2 := (dc + d)) (ds2 := (ds + s)) 1 rfl ?_
    refine lq_m (as := [.int 0]) rfl rfl rfl rfl hI1 (fun z => rCall_m268_0 z) ?_
    intro v2 h2 hI2
    refine lq_gos (f := 200000) (pc2 := 1773) (ls2 := [(4, .int (nI i)), (3, .ref 232), (2, .ref 162), (1, .ref 0), (0, .ref 11)]) (st2 := []) (h2 := h2) (dc2 := (dc + d)) (ds2 := (ds + s)) 2 rfl ?_
    exact kk h2 d s D2 S2 _ hI2 (by omega) (by omega)
  · refine lq_eqf rfl rfl hb1 ?_
    refine lq_gos (f := 200000) (pc2 := 1572) (ls2 := [(4, .int (nI i)), (3, .ref 232), (2, .ref 162), (1, .ref 0), (0, .ref 11)]) (st2 := [.int 1, .ref 0]) (h2 := h) (dc2 := dc) (ds2 := ds) 2 rfl ?_
    refine lq_c (as := [.int 1]) rfl rfl rfl rfl hI (fun z => cCall_34_1 z) ?_
    intro v1 h1 d s D2 S2 hI1 e1 e2
    refine lq_gos (f := 200000) (pc2 := 1582) (ls2 := [(4, .int (nI i)), (3, .ref 232), (2, .ref 162), (1, .ref 0), (0, .ref 11)]) (st2 := [.int (nI i + (1 : Int32)), .ref 11, .ref 162]) (h2 := h1) (dc2 := (dc + d)) (ds2 := (ds + s)) 6 rfl ?_
    refine lq_vi (show nI i + (1 : Int32) = nI (i + 1) from nI_add i 1) ?_
    refine lq_xs rfl (by omega) hL rfl ?_
    refine lq_eqf rfl rfl hb1 ?_
    refine lq_gos (f := 200000) (pc2 := 1591) (ls2 := [(4, .int (nI i)), (3, .ref 232), (2, .ref 162), (1, .ref 0), (0, .ref 11)]) (st2 := [.int 1, .ref 162]) (h2 := h1) (dc2 := (dc + d)) (ds2 := (ds + s)) 2 rfl ?_
    refine lq_m (as := [.int 1]) rfl rfl rfl rfl hI1 (fun z => rCall_m268_1 z) ?_
    intro v2 h2 hI2
    refine lq_gos (f := 200000) (pc2 := 1773) (ls2 := [(4, .int (nI i)), (3, .ref 232), (2, .ref 162), (1, .ref 0), (0, .ref 11)]) (st2 := []) (h2 := h2) (dc2 := (dc + d)) (ds2 := (ds + s)) 2 rfl ?_
    exact kk h2 d s D2 S2 _ hI2 (by omega) (by omega)
set_option maxHeartbeats 4000000 in
theorem lop_35 {L : Nat} {xs : Nat → Int32} {i : Nat} {h : zH} {dc ds D S : Nat} {V : cV} (hI : LInv h D S V (tie V)) (hi : i + 6 ≤ L) (hL : L ≤ 3072) (kk : ∀ (h2 : zH) (d s D2 S2 : Nat) (V2 : cV), LInv h2 D2 S2 V2 (tie V2) → d + D ≤ D2 + 1 → s + S ≤ S2 + 6 → lq L xs 1773 [(4, .int (nI i)), (3, .ref 232), (2, .ref 162), (1, .ref 0), (0, .ref 11)] [] h2 (dc + d) (ds + s)) : lq L xs 1598 [(4, .int (nI i)), (3, .ref 232), (2, .ref 162), (1, .ref 0), (0, .ref 11)] [] h dc ds := by
  refine lq_gos (f := 200000) (pc2 := 1604) (ls2 := [(4, .int (nI i)), (3, .ref 232), (2, .ref 162), (1, .ref 0), (0, .ref 11)]) (st2 := [.int (nI i + (1 : Int32)), .ref 11, .ref 0]) (h2 := h) (dc2 := dc) (ds2 := ds) 5 rfl ?_
  refine lq_vi (show nI i + (1 : Int32) = nI (i + 1) from nI_add i 1) ?_
  refine lq_xs rfl (by omega) hL rfl ?_
  refine lq_gos (f := 200000) (pc2 := 1610) (ls2 := [(4, .int (nI i)), (3, .ref 232), (2, .ref 162), (1, .ref 0), (0, .ref 11)]) (st2 := [.int (nI i + (2 : Int32)), .ref 11, .int (xs (i + 1)), .ref 0]) (h2 := h) (dc2 := dc) (ds2 := ds) 4 rfl ?_
  refine lq_vi (show nI i + (2 : Int32) = nI (i + 2) from nI_add i 2) ?_
  refine lq_xs rfl (by omega) hL rfl ?_
  refine lq_c (as := [.int (xs (i + 1)), .int (xs (i + 2))]) rfl rfl rfl rfl hI (fun z => cCall_35 z) ?_
  intro v1 h1 d s D2 S2 hI1 e1 e2
  refine lq_gos (f := 200000) (pc2 := 1621) (ls2 := [(4, .int (nI i)), (3, .ref 232), (2, .ref 162), (1, .ref 0), (0, .ref 11)]) (st2 := [.int (nI i + (1 : Int32)), .ref 11, .ref 162]) (h2 := h1) (dc2 := (dc + d)) (ds2 := (ds + s)) 6 rfl ?_
  refine lq_vi (show nI i + (1 : Int32) = nI (i + 1) from nI_add i 1) ?_
  refine lq_xs rfl (by omega) hL rfl ?_
  refine lq_gos (f := 200000) (pc2 := 1627) (ls2 := [(4, .int (nI i)), (3, .ref 232), (2, .ref 162), (1, .ref 0), (0, .ref 11)]) (st2 := [.int (nI i + (2 : Int32)), .ref 11, .int (xs (i + 1)), .ref 162]) (h2 := h1) (dc2 := (dc + d)) (ds2 := (ds + s)) 4 rfl ?_
  refine lq_vi (show nI i + (2 : Int32) = nI (i + 2) from nI_add i 2) ?_
  refine lq_xs rfl (by omega) hL rfl ?_
  refine lq_m (as := [.int (xs (i + 1)), .int (xs (i + 2))]) rfl rfl rfl rfl hI1 (fun z => rCall_35 z) ?_
  intro v2 h2 hI2
  refine lq_gos (f := 200000) (pc2 := 1773) (ls2 := [(4, .int (nI i)), (3, .ref 232), (2, .ref 162), (1, .ref 0), (0, .ref 11)]) (st2 := []) (h2 := h2) (dc2 := (dc + d)) (ds2 := (ds + s)) 2 rfl ?_
  exact kk h2 d s D2 S2 _ hI2 (by omega) (by omega)
set_option maxHeartbeats 4000000 in
theorem lop_36 {L : Nat} {xs : Nat → Int32} {i : Nat} {h : zH} {dc ds D S : Nat} {V : cV} (hI : LInv h D S V (tie V)) (hi : i + 6 ≤ L) (hL : L ≤ 3072) (kk : ∀ (h2 : zH) (d s D2 S2 : Nat) (V2 : cV), LInv h2 D2 S2 V2 (tie V2) → d + D ≤ D2 + 1 → s + S ≤ S2 + 6 → lq L xs 1773 [(4, .int (nI i)), (3, .ref 232), (2, .ref 162), (1, .ref 0), (0, .ref 11)] [] h2 (dc + d) (ds + s)) : lq L xs 1635 [(4, .int (nI i)), (3, .ref 232), (2, .ref 162), (1, .ref 0), (0, .ref 11)] [] h dc ds := by
  refine lq_gos (f := 200000) (pc2 := 1641) (ls2 := [(4, .int (nI i)), (3, .ref 232), (2, .ref 162), (1, .ref 0), (0, .ref 11)]) (st2 := [.int (nI i + (1 : Int32)), .ref 11, .ref 0]) (h2 := h) (dc2 := dc) (ds2 := ds) 5 rfl ?_
  refine lq_vi (show nI i + (1 : Int32) = nI (i + 1) from nI_add i 1) ?_
  refine lq_xs rfl (by omega) hL rfl ?_
  refine lq_c (as := [.int (xs (i + 1))]) rfl rfl rfl rfl hI (fun z => cCall_36 z) ?_
  intro v1 h1 d s D2 S2 hI1 e1 e2
  refine lq_gos (f := 200000) (pc2 := 1652) (ls2 := [(4, .int (nI i)), (3, .ref 232), (2, .ref 162), (1, .ref 0), (0, .ref 11)]) (st2 := [.int (nI i + (1 : Int32)), .ref 11, .ref 162]) (h2 := h1) (dc2 := (dc + d)) (ds2 := (ds + s)) 6 rfl ?_
  refine lq_vi (show nI i + (1 : Int32) = nI (i + 1) from nI_add i 1) ?_
  refine lq_xs rfl (by omega) hL rfl ?_
  refine lq_m (as := [.int (xs (i + 1))]) rfl rfl rfl rfl hI1 (fun z => rCall_36 z) ?_
  intro v2 h2 hI2
  refine lq_gos (f := 200000) (pc2 := 1773) (ls2 := [(4, .int (nI i)), (3, .ref 232), (2, .ref 162), (1, .ref 0), (0, .ref 11)]) (st2 := []) (h2 := h2) (dc2 := (dc + d)) (ds2 := (ds + s)) 2 rfl ?_
  exact kk h2 d s D2 S2 _ hI2 (by omega) (by omega)
set_option maxHeartbeats 4000000 in
theorem lop_37 {L : Nat} {xs : Nat → Int32} {i : Nat} {h : zH} {dc ds D S : Nat} {V : cV} (hI : LInv h D S V (tie V)) (hi : i + 6 ≤ L) (hL : L ≤ 3072) (kk : ∀ (h2 : zH) (d s D2 S2 : Nat) (V2 : cV), LInv h2 D2 S2 V2 (tie V2) → d + D ≤ D2 + 1 → s + S ≤ S2 + 6 → lq L xs 1773 [(4, .int (nI i)), (3, .ref 232), (2, .ref 162), (1, .ref 0), (0, .ref 11)] [] h2 (dc + d) (ds + s)) : lq L xs 1660 [(4, .int (nI i)), (3, .ref 232), (2, .ref 162), (1, .ref 0), (0, .ref 11)] [] h dc ds := by
  refine lq_gos (f := 200000) (pc2 := 1666) (ls2 := [(4, .int (nI i)), (3, .ref 232), (2, .ref 162), (1, .ref 0), (0, .ref 11)]) (st2 := [.int (nI i + (1 : Int32)), .ref 11, .ref 0]) (h2 := h) (dc2 := dc) (ds2 := ds) 5 rfl ?_
  refine lq_vi (show nI i + (1 : Int32) = nI (i + 1) from nI_add i 1) ?_
  refine lq_xs rfl (by omega) hL rfl ?_
  refine lq_gos (f := 200000) (pc2 := 1672) (ls2 := [(4, .int (nI i)), (3, .ref 232), (2, .ref 162), (1, .ref 0), (0, .ref 11)]) (st2 := [.int (nI i + (2 : Int32)), .ref 11, .int (xs (i + 1)), .ref 0]) (h2 := h) (dc2 := dc) (ds2 := ds) 4 rfl ?_
  refine lq_vi (show nI i + (2 : Int32) = nI (i + 2) from nI_add i 2) ?_
  refine lq_xs rfl (by omega) hL rfl ?_
  refine lq_gos (f := 200000) (pc2 := 1678) (ls2 := [(4, .int (nI i)), (3, .ref 232), (2, .ref 162), (1, .ref 0), (0, .ref 11)]) (st2 := [.int (nI i + (3 : Int32)), .ref 11, .int (xs (i + 2)), .int (xs (i + 1)), .ref 0]) (h2 := h) (dc2 := dc) (ds2 := ds) 4 rfl ?_
  refine lq_vi (show nI i + (3 : Int32) = nI (i + 3) from nI_add i 3) ?_
  refine lq_xs rfl (by omega) hL rfl ?_
  refine lq_c (as := [.int (xs (i + 1)), .int (xs (i + 2)), .int (xs (i + 3))]) rfl rfl rfl rfl hI (fun z => cCall_37 z) ?_
  intro v1 h1 d s D2 S2 hI1 e1 e2
  refine lq_gos (f := 200000) (pc2 := 1689) (ls2 := [(4, .int (nI i)), (3, .ref 232), (2, .ref 162), (1, .ref 0), (0, .ref 11)]) (st2 := [.int (nI i + (1 : Int32)), .ref 11, .ref 162]) (h2 := h1) (dc2 := (dc + d)) (ds2 := (ds + s)) 6 rfl ?_
  refine lq_vi (show nI i + (1 : Int32) = nI (i + 1) from nI_add i 1) ?_
  refine lq_xs rfl (by omega) hL rfl ?_
  refine lq_gos (f := 200000) (pc2 := 1695) (ls2 := [(4, .int (nI i)), (3, .ref 232), (2, .ref 162), (1, .ref 0), (0, .ref 11)]) (st2 := [.int (nI i + (2 : Int32)), .ref 11, .int (xs (i + 1)), .ref 162]) (h2 := h1) (dc2 := (dc + d)) (ds2 := (ds + s)) 4 rfl ?_
  refine lq_vi (show nI i + (2 : Int32) = nI (i + 2) from nI_add i 2) ?_
  refine lq_xs rfl (by omega) hL rfl ?_
  refine lq_gos (f := 200000) (pc2 := 1701) (ls2 := [(4, .int (nI i)), (3, .ref 232), (2, .ref 162), (1, .ref 0), (0, .ref 11)]) (st2 := [.int (nI i + (3 : Int32)), .ref 11, .int (xs (i + 2)), .int (xs (i + 1)), .ref 162]) (h2 := h1) (dc2 := (dc + d)) (ds2 := (ds + s)) 4 rfl ?_
  refine lq_vi (show nI i + (3 : Int32) = nI (i + 3) from nI_add i 3) ?_
  refine lq_xs rfl (by omega) hL rfl ?_
  refine lq_m (as := [.int (xs (i + 1)), .int (xs (i + 2)), .int (xs (i + 3))]) rfl rfl rfl rfl hI1 (fun z => rCall_37 z) ?_
  intro v2 h2 hI2
  refine lq_gos (f := 200000) (pc2 := 1773) (ls2 := [(4, .int (nI i)), (3, .ref 232), (2, .ref 162), (1, .ref 0), (0, .ref 11)]) (st2 := []) (h2 := h2) (dc2 := (dc + d)) (ds2 := (ds + s)) 2 rfl ?_
  exact kk h2 d s D2 S2 _ hI2 (by omega) (by omega)
set_option maxHeartbeats 4000000 in
theorem lop_38 {L : Nat} {xs : Nat → Int32} {i : Nat} {h : zH} {dc ds D S : Nat} {V : cV} (hI : LInv h D S V (tie V)) (hi : i + 6 ≤ L) (hL : L ≤ 3072) (kk : ∀ (h2 : zH) (d s D2 S2 : Nat) (V2 : cV), LInv h2 D2 S2 V2 (tie V2) → d + D ≤ D2 + 1 → s + S ≤ S2 + 6 → lq L xs 1773 [(4, .int (nI i)), (3, .ref 232), (2, .ref 162), (1, .ref 0), (0, .ref 11)] [] h2 (dc + d) (ds + s)) : lq L xs 1709 [(4, .int (nI i)), (3, .ref 232), (2, .ref 162), (1, .ref 0), (0, .ref 11)] [] h dc ds := by
  refine lq_gos (f := 200000) (pc2 := 1710) (ls2 := [(4, .int (nI i)), (3, .ref 232), (2, .ref 162), (1, .ref 0), (0, .ref 11)]) (st2 := [.ref 0]) (h2 := h) (dc2 := dc) (ds2 := ds) 1 rfl ?_
  refine lq_cX (as := []) rfl rfl rfl rfl hI (fun z => cCall_38 z) ?_
  intro a9 V2 x9 h1 d s D2 S2 hI1 e1 e2
  refine lq_gos (f := 200000) (pc2 := 1715) (ls2 := [(4, .int (nI i)), (3, .ref 232), (2, .ref 162), (1, .ref 0), (0, .ref 11)]) (st2 := [.ref 162]) (h2 := h1) (dc2 := (dc + d)) (ds2 := (ds + s)) 2 rfl ?_
  refine lq_mA (as := []) rfl rfl rfl rfl hI1 (fun z => rCall_38 (R2 := tie V2) z (tie_und x9)) ?_
  intro h2 hI2
  refine lq_gos (f := 200000) (pc2 := 1773) (ls2 := [(4, .int (nI i)), (3, .ref 232), (2, .ref 162), (1, .ref 0), (0, .ref 11)]) (st2 := []) (h2 := h2) (dc2 := (dc + d)) (ds2 := (ds + s)) 2 rfl ?_
  exact kk h2 d s D2 S2 _ hI2 (by omega) (by omega)
set_option maxHeartbeats 4000000 in
theorem lop_39 {L : Nat} {xs : Nat → Int32} {i : Nat} {h : zH} {dc ds D S : Nat} {V : cV} (hI : LInv h D S V (tie V)) (hi : i + 6 ≤ L) (hL : L ≤ 3072) (kk : ∀ (h2 : zH) (d s D2 S2 : Nat) (V2 : cV), LInv h2 D2 S2 V2 (tie V2) → d + D ≤ D2 + 1 → s + S ≤ S2 + 6 → lq L xs 1773 [(4, .int (nI i)), (3, .ref 232), (2, .ref 162), (1, .ref 0), (0, .ref 11)] [] h2 (dc + d) (ds + s)) : lq L xs 1722 [(4, .int (nI i)), (3, .ref 232), (2, .ref 162), (1, .ref 0), (0, .ref 11)] [] h dc ds := by
  refine lq_gos (f := 200000) (pc2 := 1723) (ls2 := [(4, .int (nI i)), (3, .ref 232), (2, .ref 162), (1, .ref 0), (0, .ref 11)]) (st2 := [.ref 0]) (h2 := h) (dc2 := dc) (ds2 := ds) 1 rfl ?_
  refine lq_c (as := []) rfl rfl rfl rfl hI (fun z => wq_mono (cCall_39 z) (fun _ k => k.2)) ?_
  intro v1 h1 d s D2 S2 hI1 e1 e2
  refine lq_gos (f := 200000) (pc2 := 1728) (ls2 := [(4, .int (nI i)), (3, .ref 232), (2, .ref 162), (1, .ref 0), (0, .ref 11)]) (st2 := [.ref 162]) (h2 := h1) (dc2 := (dc + d)) (ds2 := (ds + s)) 2 rfl ?_
  refine lq_m (as := []) rfl rfl rfl rfl hI1 (fun z => rCall_39 (R2 := tie (vKp V)) z tie_kp) ?_
  intro v2 h2 hI2
  refine lq_gos (f := 200000) (pc2 := 1773) (ls2 := [(4, .int (nI i)), (3, .ref 232), (2, .ref 162), (1, .ref 0), (0, .ref 11)]) (st2 := []) (h2 := h2) (dc2 := (dc + d)) (ds2 := (ds + s)) 2 rfl ?_
  exact kk h2 d s D2 S2 _ hI2 (by omega) (by omega)
set_option maxHeartbeats 4000000 in
theorem lop_40 {L : Nat} {xs : Nat → Int32} {i : Nat} {h : zH} {dc ds D S : Nat} {V : cV} (hI : LInv h D S V (tie V)) (hi : i + 6 ≤ L) (hL : L ≤ 3072) (kk : ∀ (h2 : zH) (d s D2 S2 : Nat) (V2 : cV), LInv h2 D2 S2 V2 (tie V2) → d + D ≤ D2 + 1 → s + S ≤ S2 + 6 → lq L xs 1773 [(4, .int (nI i)), (3, .ref 232), (2, .ref 162), (1, .ref 0), (0, .ref 11)] [] h2 (dc + d) (ds + s)) : lq L xs 1735 [(4, .int (nI i)), (3, .ref 232), (2, .ref 162), (1, .ref 0), (0, .ref 11)] [] h dc ds := by
  refine lq_gos (f := 200000) (pc2 := 1736) (ls2 := [(4, .int (nI i)), (3, .ref 232), (2, .ref 162), (1, .ref 0), (0, .ref 11)]) (st2 := [.ref 0]) (h2 := h) (dc2 := dc) (ds2 := ds) 1 rfl ?_
  refine lq_cX (as := []) rfl rfl rfl rfl hI (fun z => cCall_40 z) ?_
  intro a9 V2 x9 h1 d s D2 S2 hI1 e1 e2
  refine lq_gos (f := 200000) (pc2 := 1741) (ls2 := [(4, .int (nI i)), (3, .ref 232), (2, .ref 162), (1, .ref 0), (0, .ref 11)]) (st2 := [.ref 162]) (h2 := h1) (dc2 := (dc + d)) (ds2 := (ds + s)) 2 rfl ?_
  refine lq_mA (as := []) rfl rfl rfl rfl hI1 (fun z => rCall_40 (R2 := tie V2) z (tie_bck x9)) ?_
  intro h2 hI2
  refine lq_gos (f := 200000) (pc2 := 1773) (ls2 := [(4, .int (nI i)), (3, .ref 232), (2, .ref 162), (1, .ref 0), (0, .ref 11)]) (st2 := []) (h2 := h2) (dc2 := (dc + d)) (ds2 := (ds + s)) 2 rfl ?_
  exact kk h2 d s D2 S2 _ hI2 (by omega) (by omega)
set_option maxHeartbeats 4000000 in
theorem lop_41 {L : Nat} {xs : Nat → Int32} {i : Nat} {h : zH} {dc ds D S : Nat} {V : cV} (hI : LInv h D S V (tie V)) (hi : i + 6 ≤ L) (hL : L ≤ 3072) (kk : ∀ (h2 : zH) (d s D2 S2 : Nat) (V2 : cV), LInv h2 D2 S2 V2 (tie V2) → d + D ≤ D2 + 1 → s + S ≤ S2 + 6 → lq L xs 1773 [(4, .int (nI i)), (3, .ref 232), (2, .ref 162), (1, .ref 0), (0, .ref 11)] [] h2 (dc + d) (ds + s)) : lq L xs 1748 [(4, .int (nI i)), (3, .ref 232), (2, .ref 162), (1, .ref 0), (0, .ref 11)] [] h dc ds := by
  refine lq_gos (f := 200000) (pc2 := 1754) (ls2 := [(4, .int (nI i)), (3, .ref 232), (2, .ref 162), (1, .ref 0), (0, .ref 11)]) (st2 := [.int (nI i + (1 : Int32)), .ref 11, .ref 0]) (h2 := h) (dc2 := dc) (ds2 := ds) 5 rfl ?_
  refine lq_vi (show nI i + (1 : Int32) = nI (i + 1) from nI_add i 1) ?_
  refine lq_xs rfl (by omega) hL rfl ?_
  refine lq_c (as := [.int (xs (i + 1))]) rfl rfl rfl rfl hI (fun z => cCall_41 z) ?_
  intro v1 h1 d s D2 S2 hI1 e1 e2
  refine lq_gos (f := 200000) (pc2 := 1765) (ls2 := [(4, .int (nI i)), (3, .ref 232), (2, .ref 162), (1, .ref 0), (0, .ref 11)]) (st2 := [.int (nI i + (1 : Int32)), .ref 11, .ref 162]) (h2 := h1) (dc2 := (dc + d)) (ds2 := (ds + s)) 6 rfl ?_
  refine lq_vi (show nI i + (1 : Int32) = nI (i + 1) from nI_add i 1) ?_
  refine lq_xs rfl (by omega) hL rfl ?_
  refine lq_m (as := [.int (xs (i + 1))]) rfl rfl rfl rfl hI1 (fun z => rCall_41 z) ?_
  intro v2 h2 hI2
  refine lq_gos (f := 200000) (pc2 := 1773) (ls2 := [(4, .int (nI i)), (3, .ref 232), (2, .ref 162), (1, .ref 0), (0, .ref 11)]) (st2 := []) (h2 := h2) (dc2 := (dc + d)) (ds2 := (ds + s)) 2 rfl ?_
  exact kk h2 d s D2 S2 _ hI2 (by omega) (by omega)
