/-! The law: joint, keep, the loop. -/
section LQ
variable {L : Nat} {xs : Nat → Int32} {pc pf : Nat} {ls : zL} {st rest : List Value} {h : zH} {dc ds D S : Nat} {V : cV} {R : vRl} {len : Nat} {K : zK} {tg : List Nat}
theorem lq_ls (ls : zL) {l2 : zL} (hn : (ls.map (fun q => q.1)).Nodup) (hs : ∀ q ∈ ls, zlv l2 q.1 = some q.2) (k : lq L xs pc ls st h dc ds) : lq L xs pc l2 st h dc ds := by
  obtain ⟨a, b, c, k1, k2⟩ := k
  exact ⟨a, b, c, zT_ls ls rfl hn hs k1, k2⟩
theorem zat_ap {h : zH} (e : zE) {q : Nat} {x : zE} (k : zat h q = some x) : zat (h ++ [e]) q = some x := by
  unfold zat at k ⊢
  cases hq : (q % 2 == 0) with
  | false => rw [hq] at k; cases k
  | true =>
    rw [hq] at k
    have k2 : h[q / 2]? = some x := k
    show (h ++ [e])[q / 2]? = some x
    rw [List.getElem?_append_left (List.getElem?_eq_some_iff.mp k2).1]
    exact k2
theorem zat_st {h : zH} (e : zE) {n q : Nat} {x : zE} (hn : q ≠ 2 * n) (k : zat h q = some x) : zat (h.set n e) q = some x := by
  unfold zat at k ⊢
  cases hq : (q % 2 == 0) with
  | false => rw [hq] at k; cases k
  | true =>
    rw [hq] at k
    have k2 : h[q / 2]? = some x := k
    show (h.set n e)[q / 2]? = some x
    have hq2 : q % 2 = 0 := by simpa using hq
    rw [List.getElem?_set_ne (by omega)]
    exact k2
theorem LI_ap (hI : LInv h D S V R) (e : zE) : LInv (h ++ [e]) D S V R := by
  have f : wFx (fun _ => False) h (h ++ [e]) := ⟨by rw [List.length_append]; omega, fun q x _ z => zat_ap e z⟩
  obtain ⟨c, m, g, hg⟩ := hI
  exact ⟨CI_fx c f (fun _ _ z => z), MI_fx m (wFx_mono f (fun _ z => z.elim)), g, zat_ap e hg⟩
theorem LI_st (hI : LInv h D S V R) {g : List Int64} : LInv (h.set 116 (.inr (.inl (1, g)))) D S V R := by
  have f : wFx (fun q => q = 232) h (h.set 116 (.inr (.inl (1, g)))) := ⟨by rw [List.length_set]; omega, fun q x hq z => zat_st _ hq z⟩
  obtain ⟨c, m, g9, hg⟩ := hI
  refine ⟨CI_fx c f (fun q hq e => by omega), MI_fx m (wFx_mono f (fun q e => by omega)), g, ?_⟩
  have hl : 116 < h.length := by
    have k2 : h[116]? = some (.inr (.inl (1, g9))) := hg
    exact (List.getElem?_eq_some_iff.mp k2).1
  show (h.set 116 (.inr (.inl (1, g))))[116]? = _
  rw [List.getElem?_set_self hl]
set_option maxHeartbeats 4000000 in
theorem lop4_t {i : Nat} {x : Int32} (hI : LInv h D S V (tie V)) (hi : i + 6 ≤ L) (hL : L ≤ 3072) (kk : ∀ h2, LInv h2 D S V (tie V) → lq L xs 1773 [(4, .int (nI i)), (3, .ref 232), (2, .ref 162), (1, .ref 0), (0, .ref 11)] [] h2 dc ds) : lq L xs 389 [(4, .int (nI i)), (3, .ref 232), (2, .ref 162), (1, .ref 0), (0, .ref 11)] [.int x] h dc ds := by
  refine lq_gos (f := 200000) (pc2 := 397) (ls2 := [(5, .int x), (4, .int (nI i)), (3, .ref 232), (2, .ref 162), (1, .ref 0), (0, .ref 11)]) (st2 := [.int (nI i + (1 : Int32)), .ref 11, .ref 162]) (h2 := h) (dc2 := dc) (ds2 := ds) 6 rfl ?_
  refine lq_vi (show nI i + (1 : Int32) = nI (i + 1) from nI_add i 1) ?_
  refine lq_xs rfl (by omega) hL rfl ?_
  refine lq_gos (f := 200000) (pc2 := 403) (ls2 := [(5, .int x), (4, .int (nI i)), (3, .ref 232), (2, .ref 162), (1, .ref 0), (0, .ref 11)]) (st2 := [.int (nI i + (2 : Int32)), .ref 11, .int (xs (i + 1)), .ref 162]) (h2 := h) (dc2 := dc) (ds2 := ds) 4 rfl ?_
  refine lq_vi (show nI i + (2 : Int32) = nI (i + 2) from nI_add i 2) ?_
  refine lq_xs rfl (by omega) hL rfl ?_
  refine lq_m (as := [.int (xs (i + 1)), .int (xs (i + 2))]) rfl rfl rfl rfl hI (fun z => rCall_4 z) ?_
  intro v2 h2 hI2
  refine lq_gos (f := 200000) (pc2 := 1773) (ls2 := [(6, .int v2), (5, .int x), (4, .int (nI i)), (3, .ref 232), (2, .ref 162), (1, .ref 0), (0, .ref 11)]) (st2 := []) (h2 := h2) (dc2 := dc) (ds2 := ds) 2 rfl ?_
  refine lq_ls [(4, .int (nI i)), (3, .ref 232), (2, .ref 162), (1, .ref 0), (0, .ref 11)] (show ([4, 3, 2, 1, 0] : List Nat).Nodup by decide) (fun q hq => ?_) (kk h2 hI2)
  simp only [List.mem_cons, List.not_mem_nil, or_false] at hq
  rcases hq with e | e | e | e | e <;> (subst e; rfl)
set_option maxHeartbeats 4000000 in
theorem lop_4 {i : Nat} (hI : LInv h D S V (tie V)) (hi : i + 6 ≤ L) (hL : L ≤ 3072) (kk : ∀ (h2 : zH) (d s D2 S2 : Nat) (V2 : cV), LInv h2 D2 S2 V2 (tie V2) → d + D ≤ D2 + 1 → s + S ≤ S2 + 6 → lq L xs 1773 [(4, .int (nI i)), (3, .ref 232), (2, .ref 162), (1, .ref 0), (0, .ref 11)] [] h2 (dc + d) (ds + s)) : lq L xs 372 [(4, .int (nI i)), (3, .ref 232), (2, .ref 162), (1, .ref 0), (0, .ref 11)] [] h dc ds := by
  refine lq_gos (f := 200000) (pc2 := 378) (ls2 := [(4, .int (nI i)), (3, .ref 232), (2, .ref 162), (1, .ref 0), (0, .ref 11)]) (st2 := [.int (nI i + (1 : Int32)), .ref 11, .ref 0]) (h2 := h) (dc2 := dc) (ds2 := ds) 5 rfl ?_
  refine lq_vi (show nI i + (1 : Int32) = nI (i + 1) from nI_add i 1) ?_
  refine lq_xs rfl (by omega) hL rfl ?_
  refine lq_gos (f := 200000) (pc2 := 384) (ls2 := [(4, .int (nI i)), (3, .ref 232), (2, .ref 162), (1, .ref 0), (0, .ref 11)]) (st2 := [.int (nI i + (2 : Int32)), .ref 11, .int (xs (i + 1)), .ref 0]) (h2 := h) (dc2 := dc) (ds2 := ds) 4 rfl ?_
  refine lq_vi (show nI i + (2 : Int32) = nI (i + 2) from nI_add i 2) ?_
  refine lq_xs rfl (by omega) hL rfl ?_
  refine lq_gos (f := 200000) (pc2 := 386) (ls2 := [(4, .int (nI i)), (3, .ref 232), (2, .ref 162), (1, .ref 0), (0, .ref 11)]) (st2 := [.ref 232, .int (xs (i + 2)), .int (xs (i + 1)), .ref 0]) (h2 := h) (dc2 := dc) (ds2 := ds) 1 rfl ?_
  obtain ⟨fs, h0⟩ := CI_0 hI.1
  by_cases hj : (xs (i + 1)).toInt < 0 ∨ 5 < (xs (i + 1)).toInt
  · obtain ⟨a, b, c, k1, k2⟩ := lop4_t (x := 1) (LI_ap hI (.inr (.inr (.inr (11, []))))) hi hL (dc := dc + 1) (ds := ds + 6) (fun h2 hI2 => kk h2 1 6 D S V hI2 (by omega) (by omega))
    exact ⟨a, b, c, zT_sp2 rfl h0 hj (zT_le (zg0_le L xs) (q4_nj1 hj h)) k1, k2⟩
  · by_cases hw : (xs (i + 2)).toInt < 0 ∨ 3 < (xs (i + 2)).toInt
    · obtain ⟨a, b, c, k1, k2⟩ := lop4_t (x := 2) (LI_ap hI (.inr (.inr (.inr (12, []))))) hi hL (dc := dc + 1) (ds := ds + 6) (fun h2 hI2 => kk h2 1 6 D S V hI2 (by omega) (by omega))
      exact ⟨a, b, c, zT_sp4 rfl h0 (by omega) hw (zT_le (zg0_le L xs) (q4_njC (by omega) h)) k1, k2⟩
    · obtain ⟨v, hv⟩ := cJt hI.1 (j := xs (i + 1)) (w := xs (i + 2)) (by omega) (by omega)
      obtain ⟨g, hg⟩ := hI.2.2
      obtain ⟨a, b, c, k1, k2⟩ := lop4_t (x := 0) (LI_st hI (g := zset 0 g 0 v.toInt64)) hi hL (dc := dc) (ds := ds) (fun h2 hI2 => kk h2 0 0 D S V hI2 (by omega) (by omega))
      exact ⟨a, b, c, zT_sp3 rfl h0 hg (by omega) (by omega) (zT_le (zg0_le L xs) (q4_njC (by omega) h)) (zT_le (zg0_le L xs) hv) k1, k2⟩
theorem lq_gtt {off : Int} {t : Nat} {x z : Int32} (hP : zP 288 pc = some (.if_icmp .gt off, 3, (t, 0, .null), [])) (hx : z.toInt < x.toInt) (k : lq L xs t ls rest h dc ds) : lq L xs pc ls (.int z :: .int x :: rest) h dc ds := by
  obtain ⟨a, b, c, k1, k2⟩ := k
  exact ⟨a, b, c, zT_if2 true hP (zc_gt_t hx) k1, k2⟩
theorem lq_gtf {off : Int} {t : Nat} {x z : Int32} (hP : zP 288 pc = some (.if_icmp .gt off, 3, (t, 0, .null), [])) (hpf : pc + 3 = pf) (hx : x.toInt ≤ z.toInt) (k : lq L xs pf ls rest h dc ds) : lq L xs pc ls (.int z :: .int x :: rest) h dc ds := by
  obtain ⟨a, b, c, k1, k2⟩ := k
  subst hpf
  exact ⟨a, b, c, zT_if2 false hP (zc_gt_f hx) k1, k2⟩
theorem z_and64 (v : Int32) : ∃ k : Nat, k < 64 ∧ (v &&& 63) = nI k := by
  have a := z_and63 v
  have b : (v &&& 63).toInt < 64 := by
    have h : (v &&& 63).toBitVec.toNat ≤ 63 := by
      rw [Int32.toBitVec_and, BitVec.toNat_and]
      exact Nat.and_le_right
    have h1 : (v &&& 63).toInt = (v &&& 63).toBitVec.toInt := rfl
    rw [h1, BitVec.toInt_eq_toNat_of_lt (by omega)]
    omega
  exact ⟨(v &&& 63).toNatClampNeg, by show (v &&& 63).toInt.toNat < 64; omega, nI_cl a⟩
theorem lsub {L : Nat} (hL : L ≤ 3072) : (Int32.ofNat L - (6 : Int32)).toInt = (L : Int) - 6 := by
  have e : (Int32.ofNat L).toInt = (L : Int) := nI_toInt (n := L) (by omega)
  rw [Int32.toInt_sub, e, show (6 : Int32).toInt = 6 from rfl, Int.bmod_eq_of_le (by omega) (by omega)]
set_option maxHeartbeats 8000000 in
theorem lswitch {n : Nat} {x : Int32} (hI : LInv h D S V (tie V)) (hi : 6 * n + 6 ≤ L) (hL : L ≤ 3072) (kk : ∀ (h2 : zH) (d s D2 S2 : Nat) (V2 : cV), LInv h2 D2 S2 V2 (tie V2) → d + D ≤ D2 + 1 → s + S ≤ S2 + 6 → lq L xs 1773 [(4, .int (nI (6 * n))), (3, .ref 232), (2, .ref 162), (1, .ref 0), (0, .ref 11)] [] h2 (dc + d) (ds + s)) : ∀ k : Nat, k < 64 → x = nI k → lq L xs 40 [(4, .int (nI (6 * n))), (3, .ref 232), (2, .ref 162), (1, .ref 0), (0, .ref 11)] [.int x] h dc ds
  | 0, _, e => by
    refine lq_vi e ?_
    refine lq_gos (f := 200000) (pc2 := 224) (ls2 := [(4, .int (nI (6 * n))), (3, .ref 232), (2, .ref 162), (1, .ref 0), (0, .ref 11)]) (st2 := []) (h2 := h) (dc2 := dc) (ds2 := ds) 1 rfl ?_
    exact lop_0 hI hi hL kk
  | 1, _, e => by
    refine lq_vi e ?_
    refine lq_gos (f := 200000) (pc2 := 297) (ls2 := [(4, .int (nI (6 * n))), (3, .ref 232), (2, .ref 162), (1, .ref 0), (0, .ref 11)]) (st2 := []) (h2 := h) (dc2 := dc) (ds2 := ds) 1 rfl ?_
    exact lop_1 hI hi hL kk
  | 2, _, e => by
    refine lq_vi e ?_
    refine lq_gos (f := 200000) (pc2 := 322) (ls2 := [(4, .int (nI (6 * n))), (3, .ref 232), (2, .ref 162), (1, .ref 0), (0, .ref 11)]) (st2 := []) (h2 := h) (dc2 := dc) (ds2 := ds) 1 rfl ?_
    exact lop_2 hI hi hL kk
  | 3, _, e => by
    refine lq_vi e ?_
    refine lq_gos (f := 200000) (pc2 := 347) (ls2 := [(4, .int (nI (6 * n))), (3, .ref 232), (2, .ref 162), (1, .ref 0), (0, .ref 11)]) (st2 := []) (h2 := h) (dc2 := dc) (ds2 := ds) 1 rfl ?_
    exact lop_3 hI hi hL kk
  | 4, _, e => by
    refine lq_vi e ?_
    refine lq_gos (f := 200000) (pc2 := 372) (ls2 := [(4, .int (nI (6 * n))), (3, .ref 232), (2, .ref 162), (1, .ref 0), (0, .ref 11)]) (st2 := []) (h2 := h) (dc2 := dc) (ds2 := ds) 1 rfl ?_
    exact lop_4 hI hi hL kk
  | 5, _, e => by
    refine lq_vi e ?_
    refine lq_gos (f := 200000) (pc2 := 412) (ls2 := [(4, .int (nI (6 * n))), (3, .ref 232), (2, .ref 162), (1, .ref 0), (0, .ref 11)]) (st2 := []) (h2 := h) (dc2 := dc) (ds2 := ds) 1 rfl ?_
    exact lop_5 hI hi hL kk
  | 6, _, e => by
    refine lq_vi e ?_
    refine lq_gos (f := 200000) (pc2 := 449) (ls2 := [(4, .int (nI (6 * n))), (3, .ref 232), (2, .ref 162), (1, .ref 0), (0, .ref 11)]) (st2 := []) (h2 := h) (dc2 := dc) (ds2 := ds) 1 rfl ?_
    exact lop_6 hI hi hL kk
  | 7, _, e => by
    refine lq_vi e ?_
    refine lq_gos (f := 200000) (pc2 := 486) (ls2 := [(4, .int (nI (6 * n))), (3, .ref 232), (2, .ref 162), (1, .ref 0), (0, .ref 11)]) (st2 := []) (h2 := h) (dc2 := dc) (ds2 := ds) 1 rfl ?_
    exact lop_7 hI hi hL kk
  | 8, _, e => by
    refine lq_vi e ?_
    refine lq_gos (f := 200000) (pc2 := 511) (ls2 := [(4, .int (nI (6 * n))), (3, .ref 232), (2, .ref 162), (1, .ref 0), (0, .ref 11)]) (st2 := []) (h2 := h) (dc2 := dc) (ds2 := ds) 1 rfl ?_
    exact lop_8 hI hi hL kk
  | 9, _, e => by
    refine lq_vi e ?_
    refine lq_gos (f := 200000) (pc2 := 536) (ls2 := [(4, .int (nI (6 * n))), (3, .ref 232), (2, .ref 162), (1, .ref 0), (0, .ref 11)]) (st2 := []) (h2 := h) (dc2 := dc) (ds2 := ds) 1 rfl ?_
    exact lop_9 hI hi hL kk
  | 10, _, e => by
    refine lq_vi e ?_
    refine lq_gos (f := 200000) (pc2 := 561) (ls2 := [(4, .int (nI (6 * n))), (3, .ref 232), (2, .ref 162), (1, .ref 0), (0, .ref 11)]) (st2 := []) (h2 := h) (dc2 := dc) (ds2 := ds) 1 rfl ?_
    exact lop_10 hI hi hL kk
  | 11, _, e => by
    refine lq_vi e ?_
    refine lq_gos (f := 200000) (pc2 := 586) (ls2 := [(4, .int (nI (6 * n))), (3, .ref 232), (2, .ref 162), (1, .ref 0), (0, .ref 11)]) (st2 := []) (h2 := h) (dc2 := dc) (ds2 := ds) 1 rfl ?_
    exact lop_11 hI hi hL kk
  | 12, _, e => by
    refine lq_vi e ?_
    refine lq_gos (f := 200000) (pc2 := 655) (ls2 := [(4, .int (nI (6 * n))), (3, .ref 232), (2, .ref 162), (1, .ref 0), (0, .ref 11)]) (st2 := []) (h2 := h) (dc2 := dc) (ds2 := ds) 1 rfl ?_
    exact lop_12 hI hi hL kk
  | 13, _, e => by
    refine lq_vi e ?_
    refine lq_gos (f := 200000) (pc2 := 668) (ls2 := [(4, .int (nI (6 * n))), (3, .ref 232), (2, .ref 162), (1, .ref 0), (0, .ref 11)]) (st2 := []) (h2 := h) (dc2 := dc) (ds2 := ds) 1 rfl ?_
    exact lop_13 hI hi hL kk
  | 14, _, e => by
    refine lq_vi e ?_
    refine lq_gos (f := 200000) (pc2 := 705) (ls2 := [(4, .int (nI (6 * n))), (3, .ref 232), (2, .ref 162), (1, .ref 0), (0, .ref 11)]) (st2 := []) (h2 := h) (dc2 := dc) (ds2 := ds) 1 rfl ?_
    exact lop_14 hI hi hL kk
  | 15, _, e => by
    refine lq_vi e ?_
    refine lq_gos (f := 200000) (pc2 := 742) (ls2 := [(4, .int (nI (6 * n))), (3, .ref 232), (2, .ref 162), (1, .ref 0), (0, .ref 11)]) (st2 := []) (h2 := h) (dc2 := dc) (ds2 := ds) 1 rfl ?_
    exact lop_15 hI hi hL kk
  | 16, _, e => by
    refine lq_vi e ?_
    refine lq_gos (f := 200000) (pc2 := 755) (ls2 := [(4, .int (nI (6 * n))), (3, .ref 232), (2, .ref 162), (1, .ref 0), (0, .ref 11)]) (st2 := []) (h2 := h) (dc2 := dc) (ds2 := ds) 1 rfl ?_
    exact lop_16 hI hi hL kk
  | 17, _, e => by
    refine lq_vi e ?_
    refine lq_gos (f := 200000) (pc2 := 796) (ls2 := [(4, .int (nI (6 * n))), (3, .ref 232), (2, .ref 162), (1, .ref 0), (0, .ref 11)]) (st2 := []) (h2 := h) (dc2 := dc) (ds2 := ds) 1 rfl ?_
    exact lop_17 hI hi hL kk
  | 18, _, e => by
    refine lq_vi e ?_
    refine lq_gos (f := 200000) (pc2 := 809) (ls2 := [(4, .int (nI (6 * n))), (3, .ref 232), (2, .ref 162), (1, .ref 0), (0, .ref 11)]) (st2 := []) (h2 := h) (dc2 := dc) (ds2 := ds) 1 rfl ?_
    exact lop_18 hI hi hL kk
  | 19, _, e => by
    refine lq_vi e ?_
    refine lq_gos (f := 200000) (pc2 := 834) (ls2 := [(4, .int (nI (6 * n))), (3, .ref 232), (2, .ref 162), (1, .ref 0), (0, .ref 11)]) (st2 := []) (h2 := h) (dc2 := dc) (ds2 := ds) 1 rfl ?_
    exact lop_19 hI hi hL kk
  | 20, _, e => by
    refine lq_vi e ?_
    refine lq_gos (f := 200000) (pc2 := 883) (ls2 := [(4, .int (nI (6 * n))), (3, .ref 232), (2, .ref 162), (1, .ref 0), (0, .ref 11)]) (st2 := []) (h2 := h) (dc2 := dc) (ds2 := ds) 1 rfl ?_
    exact lop_20 hI hi hL kk
  | 21, _, e => by
    refine lq_vi e ?_
    refine lq_gos (f := 200000) (pc2 := 908) (ls2 := [(4, .int (nI (6 * n))), (3, .ref 232), (2, .ref 162), (1, .ref 0), (0, .ref 11)]) (st2 := []) (h2 := h) (dc2 := dc) (ds2 := ds) 1 rfl ?_
    exact lop_21 hI hi hL kk
  | 22, _, e => by
    refine lq_vi e ?_
    refine lq_gos (f := 200000) (pc2 := 949) (ls2 := [(4, .int (nI (6 * n))), (3, .ref 232), (2, .ref 162), (1, .ref 0), (0, .ref 11)]) (st2 := []) (h2 := h) (dc2 := dc) (ds2 := ds) 1 rfl ?_
    exact lop_22 hI hi hL kk
  | 23, _, e => by
    refine lq_vi e ?_
    refine lq_gos (f := 200000) (pc2 := 1002) (ls2 := [(4, .int (nI (6 * n))), (3, .ref 232), (2, .ref 162), (1, .ref 0), (0, .ref 11)]) (st2 := []) (h2 := h) (dc2 := dc) (ds2 := ds) 1 rfl ?_
    exact lop_23 hI hi hL kk
  | 24, _, e => by
    refine lq_vi e ?_
    refine lq_gos (f := 200000) (pc2 := 1067) (ls2 := [(4, .int (nI (6 * n))), (3, .ref 232), (2, .ref 162), (1, .ref 0), (0, .ref 11)]) (st2 := []) (h2 := h) (dc2 := dc) (ds2 := ds) 1 rfl ?_
    exact lop_24 hI hi hL kk
  | 25, _, e => by
    refine lq_vi e ?_
    refine lq_gos (f := 200000) (pc2 := 1132) (ls2 := [(4, .int (nI (6 * n))), (3, .ref 232), (2, .ref 162), (1, .ref 0), (0, .ref 11)]) (st2 := []) (h2 := h) (dc2 := dc) (ds2 := ds) 1 rfl ?_
    exact lop_25 hI hi hL kk
  | 26, _, e => by
    refine lq_vi e ?_
    refine lq_gos (f := 200000) (pc2 := 1213) (ls2 := [(4, .int (nI (6 * n))), (3, .ref 232), (2, .ref 162), (1, .ref 0), (0, .ref 11)]) (st2 := []) (h2 := h) (dc2 := dc) (ds2 := ds) 1 rfl ?_
    exact lop_26 hI hi hL kk
  | 27, _, e => by
    refine lq_vi e ?_
    refine lq_gos (f := 200000) (pc2 := 1278) (ls2 := [(4, .int (nI (6 * n))), (3, .ref 232), (2, .ref 162), (1, .ref 0), (0, .ref 11)]) (st2 := []) (h2 := h) (dc2 := dc) (ds2 := ds) 1 rfl ?_
    exact lop_27 hI hi hL kk
  | 28, _, e => by
    refine lq_vi e ?_
    refine lq_gos (f := 200000) (pc2 := 1331) (ls2 := [(4, .int (nI (6 * n))), (3, .ref 232), (2, .ref 162), (1, .ref 0), (0, .ref 11)]) (st2 := []) (h2 := h) (dc2 := dc) (ds2 := ds) 1 rfl ?_
    exact lop_28 hI hi hL kk
  | 29, _, e => by
    refine lq_vi e ?_
    refine lq_gos (f := 200000) (pc2 := 1384) (ls2 := [(4, .int (nI (6 * n))), (3, .ref 232), (2, .ref 162), (1, .ref 0), (0, .ref 11)]) (st2 := []) (h2 := h) (dc2 := dc) (ds2 := ds) 1 rfl ?_
    exact lop_29 hI hi hL kk
  | 30, _, e => by
    refine lq_vi e ?_
    refine lq_gos (f := 200000) (pc2 := 1425) (ls2 := [(4, .int (nI (6 * n))), (3, .ref 232), (2, .ref 162), (1, .ref 0), (0, .ref 11)]) (st2 := []) (h2 := h) (dc2 := dc) (ds2 := ds) 1 rfl ?_
    exact lop_30 hI hi hL kk
  | 31, _, e => by
    refine lq_vi e ?_
    refine lq_gos (f := 200000) (pc2 := 1438) (ls2 := [(4, .int (nI (6 * n))), (3, .ref 232), (2, .ref 162), (1, .ref 0), (0, .ref 11)]) (st2 := []) (h2 := h) (dc2 := dc) (ds2 := ds) 1 rfl ?_
    exact lop_31 hI hi hL kk
  | 32, _, e => by
    refine lq_vi e ?_
    refine lq_gos (f := 200000) (pc2 := 1463) (ls2 := [(4, .int (nI (6 * n))), (3, .ref 232), (2, .ref 162), (1, .ref 0), (0, .ref 11)]) (st2 := []) (h2 := h) (dc2 := dc) (ds2 := ds) 1 rfl ?_
    exact lop_32 hI hi hL kk
  | 33, _, e => by
    refine lq_vi e ?_
    refine lq_gos (f := 200000) (pc2 := 1516) (ls2 := [(4, .int (nI (6 * n))), (3, .ref 232), (2, .ref 162), (1, .ref 0), (0, .ref 11)]) (st2 := []) (h2 := h) (dc2 := dc) (ds2 := ds) 1 rfl ?_
    exact lop_33 hI hi hL kk
  | 34, _, e => by
    refine lq_vi e ?_
    refine lq_gos (f := 200000) (pc2 := 1557) (ls2 := [(4, .int (nI (6 * n))), (3, .ref 232), (2, .ref 162), (1, .ref 0), (0, .ref 11)]) (st2 := []) (h2 := h) (dc2 := dc) (ds2 := ds) 1 rfl ?_
    exact lop_34 hI hi hL kk
  | 35, _, e => by
    refine lq_vi e ?_
    refine lq_gos (f := 200000) (pc2 := 1598) (ls2 := [(4, .int (nI (6 * n))), (3, .ref 232), (2, .ref 162), (1, .ref 0), (0, .ref 11)]) (st2 := []) (h2 := h) (dc2 := dc) (ds2 := ds) 1 rfl ?_
    exact lop_35 hI hi hL kk
  | 36, _, e => by
    refine lq_vi e ?_
    refine lq_gos (f := 200000) (pc2 := 1635) (ls2 := [(4, .int (nI (6 * n))), (3, .ref 232), (2, .ref 162), (1, .ref 0), (0, .ref 11)]) (st2 := []) (h2 := h) (dc2 := dc) (ds2 := ds) 1 rfl ?_
    exact lop_36 hI hi hL kk
  | 37, _, e => by
    refine lq_vi e ?_
    refine lq_gos (f := 200000) (pc2 := 1660) (ls2 := [(4, .int (nI (6 * n))), (3, .ref 232), (2, .ref 162), (1, .ref 0), (0, .ref 11)]) (st2 := []) (h2 := h) (dc2 := dc) (ds2 := ds) 1 rfl ?_
    exact lop_37 hI hi hL kk
  | 38, _, e => by
    refine lq_vi e ?_
    refine lq_gos (f := 200000) (pc2 := 1709) (ls2 := [(4, .int (nI (6 * n))), (3, .ref 232), (2, .ref 162), (1, .ref 0), (0, .ref 11)]) (st2 := []) (h2 := h) (dc2 := dc) (ds2 := ds) 1 rfl ?_
    exact lop_38 hI hi hL kk
  | 39, _, e => by
    refine lq_vi e ?_
    refine lq_gos (f := 200000) (pc2 := 1722) (ls2 := [(4, .int (nI (6 * n))), (3, .ref 232), (2, .ref 162), (1, .ref 0), (0, .ref 11)]) (st2 := []) (h2 := h) (dc2 := dc) (ds2 := ds) 1 rfl ?_
    exact lop_39 hI hi hL kk
  | 40, _, e => by
    refine lq_vi e ?_
    refine lq_gos (f := 200000) (pc2 := 1735) (ls2 := [(4, .int (nI (6 * n))), (3, .ref 232), (2, .ref 162), (1, .ref 0), (0, .ref 11)]) (st2 := []) (h2 := h) (dc2 := dc) (ds2 := ds) 1 rfl ?_
    exact lop_40 hI hi hL kk
  | 41, _, e => by
    refine lq_vi e ?_
    refine lq_gos (f := 200000) (pc2 := 1748) (ls2 := [(4, .int (nI (6 * n))), (3, .ref 232), (2, .ref 162), (1, .ref 0), (0, .ref 11)]) (st2 := []) (h2 := h) (dc2 := dc) (ds2 := ds) 1 rfl ?_
    exact lop_41 hI hi hL kk
  | 42, _, e => by
    refine lq_vi e ?_
    refine lq_gos (f := 200000) (pc2 := 1773) (ls2 := [(4, .int (nI (6 * n))), (3, .ref 232), (2, .ref 162), (1, .ref 0), (0, .ref 11)]) (st2 := []) (h2 := h) (dc2 := dc) (ds2 := ds) 1 rfl ?_
    exact kk h 0 0 D S _ hI (by omega) (by omega)
  | 43, _, e => by
    refine lq_vi e ?_
    refine lq_gos (f := 200000) (pc2 := 1773) (ls2 := [(4, .int (nI (6 * n))), (3, .ref 232), (2, .ref 162), (1, .ref 0), (0, .ref 11)]) (st2 := []) (h2 := h) (dc2 := dc) (ds2 := ds) 1 rfl ?_
    exact kk h 0 0 D S _ hI (by omega) (by omega)
  | 44, _, e => by
    refine lq_vi e ?_
    refine lq_gos (f := 200000) (pc2 := 1773) (ls2 := [(4, .int (nI (6 * n))), (3, .ref 232), (2, .ref 162), (1, .ref 0), (0, .ref 11)]) (st2 := []) (h2 := h) (dc2 := dc) (ds2 := ds) 1 rfl ?_
    exact kk h 0 0 D S _ hI (by omega) (by omega)
  | 45, _, e => by
    refine lq_vi e ?_
    refine lq_gos (f := 200000) (pc2 := 1773) (ls2 := [(4, .int (nI (6 * n))), (3, .ref 232), (2, .ref 162), (1, .ref 0), (0, .ref 11)]) (st2 := []) (h2 := h) (dc2 := dc) (ds2 := ds) 1 rfl ?_
    exact kk h 0 0 D S _ hI (by omega) (by omega)
  | 46, _, e => by
    refine lq_vi e ?_
    refine lq_gos (f := 200000) (pc2 := 1773) (ls2 := [(4, .int (nI (6 * n))), (3, .ref 232), (2, .ref 162), (1, .ref 0), (0, .ref 11)]) (st2 := []) (h2 := h) (dc2 := dc) (ds2 := ds) 1 rfl ?_
    exact kk h 0 0 D S _ hI (by omega) (by omega)
  | 47, _, e => by
    refine lq_vi e ?_
    refine lq_gos (f := 200000) (pc2 := 1773) (ls2 := [(4, .int (nI (6 * n))), (3, .ref 232), (2, .ref 162), (1, .ref 0), (0, .ref 11)]) (st2 := []) (h2 := h) (dc2 := dc) (ds2 := ds) 1 rfl ?_
    exact kk h 0 0 D S _ hI (by omega) (by omega)
  | 48, _, e => by
    refine lq_vi e ?_
    refine lq_gos (f := 200000) (pc2 := 1773) (ls2 := [(4, .int (nI (6 * n))), (3, .ref 232), (2, .ref 162), (1, .ref 0), (0, .ref 11)]) (st2 := []) (h2 := h) (dc2 := dc) (ds2 := ds) 1 rfl ?_
    exact kk h 0 0 D S _ hI (by omega) (by omega)
  | 49, _, e => by
    refine lq_vi e ?_
    refine lq_gos (f := 200000) (pc2 := 1773) (ls2 := [(4, .int (nI (6 * n))), (3, .ref 232), (2, .ref 162), (1, .ref 0), (0, .ref 11)]) (st2 := []) (h2 := h) (dc2 := dc) (ds2 := ds) 1 rfl ?_
    exact kk h 0 0 D S _ hI (by omega) (by omega)
  | 50, _, e => by
    refine lq_vi e ?_
    refine lq_gos (f := 200000) (pc2 := 1773) (ls2 := [(4, .int (nI (6 * n))), (3, .ref 232), (2, .ref 162), (1, .ref 0), (0, .ref 11)]) (st2 := []) (h2 := h) (dc2 := dc) (ds2 := ds) 1 rfl ?_
    exact kk h 0 0 D S _ hI (by omega) (by omega)
  | 51, _, e => by
    refine lq_vi e ?_
    refine lq_gos (f := 200000) (pc2 := 1773) (ls2 := [(4, .int (nI (6 * n))), (3, .ref 232), (2, .ref 162), (1, .ref 0), (0, .ref 11)]) (st2 := []) (h2 := h) (dc2 := dc) (ds2 := ds) 1 rfl ?_
    exact kk h 0 0 D S _ hI (by omega) (by omega)
  | 52, _, e => by
    refine lq_vi e ?_
    refine lq_gos (f := 200000) (pc2 := 1773) (ls2 := [(4, .int (nI (6 * n))), (3, .ref 232), (2, .ref 162), (1, .ref 0), (0, .ref 11)]) (st2 := []) (h2 := h) (dc2 := dc) (ds2 := ds) 1 rfl ?_
    exact kk h 0 0 D S _ hI (by omega) (by omega)
  | 53, _, e => by
    refine lq_vi e ?_
    refine lq_gos (f := 200000) (pc2 := 1773) (ls2 := [(4, .int (nI (6 * n))), (3, .ref 232), (2, .ref 162), (1, .ref 0), (0, .ref 11)]) (st2 := []) (h2 := h) (dc2 := dc) (ds2 := ds) 1 rfl ?_
    exact kk h 0 0 D S _ hI (by omega) (by omega)
  | 54, _, e => by
    refine lq_vi e ?_
    refine lq_gos (f := 200000) (pc2 := 1773) (ls2 := [(4, .int (nI (6 * n))), (3, .ref 232), (2, .ref 162), (1, .ref 0), (0, .ref 11)]) (st2 := []) (h2 := h) (dc2 := dc) (ds2 := ds) 1 rfl ?_
    exact kk h 0 0 D S _ hI (by omega) (by omega)
  | 55, _, e => by
    refine lq_vi e ?_
    refine lq_gos (f := 200000) (pc2 := 1773) (ls2 := [(4, .int (nI (6 * n))), (3, .ref 232), (2, .ref 162), (1, .ref 0), (0, .ref 11)]) (st2 := []) (h2 := h) (dc2 := dc) (ds2 := ds) 1 rfl ?_
    exact kk h 0 0 D S _ hI (by omega) (by omega)
  | 56, _, e => by
    refine lq_vi e ?_
    refine lq_gos (f := 200000) (pc2 := 1773) (ls2 := [(4, .int (nI (6 * n))), (3, .ref 232), (2, .ref 162), (1, .ref 0), (0, .ref 11)]) (st2 := []) (h2 := h) (dc2 := dc) (ds2 := ds) 1 rfl ?_
    exact kk h 0 0 D S _ hI (by omega) (by omega)
  | 57, _, e => by
    refine lq_vi e ?_
    refine lq_gos (f := 200000) (pc2 := 1773) (ls2 := [(4, .int (nI (6 * n))), (3, .ref 232), (2, .ref 162), (1, .ref 0), (0, .ref 11)]) (st2 := []) (h2 := h) (dc2 := dc) (ds2 := ds) 1 rfl ?_
    exact kk h 0 0 D S _ hI (by omega) (by omega)
  | 58, _, e => by
    refine lq_vi e ?_
    refine lq_gos (f := 200000) (pc2 := 1773) (ls2 := [(4, .int (nI (6 * n))), (3, .ref 232), (2, .ref 162), (1, .ref 0), (0, .ref 11)]) (st2 := []) (h2 := h) (dc2 := dc) (ds2 := ds) 1 rfl ?_
    exact kk h 0 0 D S _ hI (by omega) (by omega)
  | 59, _, e => by
    refine lq_vi e ?_
    refine lq_gos (f := 200000) (pc2 := 1773) (ls2 := [(4, .int (nI (6 * n))), (3, .ref 232), (2, .ref 162), (1, .ref 0), (0, .ref 11)]) (st2 := []) (h2 := h) (dc2 := dc) (ds2 := ds) 1 rfl ?_
    exact kk h 0 0 D S _ hI (by omega) (by omega)
  | 60, _, e => by
    refine lq_vi e ?_
    refine lq_gos (f := 200000) (pc2 := 1773) (ls2 := [(4, .int (nI (6 * n))), (3, .ref 232), (2, .ref 162), (1, .ref 0), (0, .ref 11)]) (st2 := []) (h2 := h) (dc2 := dc) (ds2 := ds) 1 rfl ?_
    exact kk h 0 0 D S _ hI (by omega) (by omega)
  | 61, _, e => by
    refine lq_vi e ?_
    refine lq_gos (f := 200000) (pc2 := 1773) (ls2 := [(4, .int (nI (6 * n))), (3, .ref 232), (2, .ref 162), (1, .ref 0), (0, .ref 11)]) (st2 := []) (h2 := h) (dc2 := dc) (ds2 := ds) 1 rfl ?_
    exact kk h 0 0 D S _ hI (by omega) (by omega)
  | 62, _, e => by
    refine lq_vi e ?_
    refine lq_gos (f := 200000) (pc2 := 1773) (ls2 := [(4, .int (nI (6 * n))), (3, .ref 232), (2, .ref 162), (1, .ref 0), (0, .ref 11)]) (st2 := []) (h2 := h) (dc2 := dc) (ds2 := ds) 1 rfl ?_
    exact kk h 0 0 D S _ hI (by omega) (by omega)
  | 63, _, e => by
    refine lq_vi e ?_
    refine lq_gos (f := 200000) (pc2 := 1773) (ls2 := [(4, .int (nI (6 * n))), (3, .ref 232), (2, .ref 162), (1, .ref 0), (0, .ref 11)]) (st2 := []) (h2 := h) (dc2 := dc) (ds2 := ds) 1 rfl ?_
    exact kk h 0 0 D S _ hI (by omega) (by omega)
  | k + 64, hk, _ => absurd hk (by omega)
set_option maxHeartbeats 4000000 in
theorem lloop (hL : L ≤ 3072) : ∀ (m n : Nat) (h : zH) (dc ds D S : Nat) (V : cV), LInv h D S V (tie V) → L < 6 * n + 6 + 6 * m → 6 * n ≤ L → dc ≤ 117 + D + n → ds ≤ 29934 + S + 6 * n → lq L xs 23 [(4, .int (nI (6 * n))), (3, .ref 232), (2, .ref 162), (1, .ref 0), (0, .ref 11)] [] h dc ds := by
  intro m
  induction m with
  | zero =>
    intro n h dc ds D S V hI hm hn hd hs
    have b := CI_bd hI.1
    have q1 := nI_toInt (n := 6 * n) (by omega)
    refine lq_gos (f := 200000) (pc2 := 30) (ls2 := [(4, .int (nI (6 * n))), (3, .ref 232), (2, .ref 162), (1, .ref 0), (0, .ref 11)]) (st2 := [.int (Int32.ofNat L - (6 : Int32)), .int (nI (6 * n))]) (h2 := h) (dc2 := dc) (ds2 := ds) 5 rfl ?_
    refine lq_gtt rfl (by rw [lsub hL, q1]; omega) ?_
    refine lq_gos (f := 200000) (pc2 := 1780) (ls2 := [(4, .int (nI (6 * n))), (3, .ref 232), (2, .ref 162), (1, .ref 0), (0, .ref 11)]) (st2 := [.int 1]) (h2 := h) (dc2 := dc) (ds2 := ds) 1 rfl ?_
    exact ⟨h, dc, ds, zT_ret rfl rfl, by omega, by omega⟩
  | succ m ih =>
    intro n h dc ds D S V hI hm hn hd hs
    have b := CI_bd hI.1
    have q1 := nI_toInt (n := 6 * n) (by omega)
    refine lq_gos (f := 200000) (pc2 := 30) (ls2 := [(4, .int (nI (6 * n))), (3, .ref 232), (2, .ref 162), (1, .ref 0), (0, .ref 11)]) (st2 := [.int (Int32.ofNat L - (6 : Int32)), .int (nI (6 * n))]) (h2 := h) (dc2 := dc) (ds2 := ds) 5 rfl ?_
    by_cases he : L < 6 * n + 6
    · refine lq_gtt rfl (by rw [lsub hL, q1]; omega) ?_
      refine lq_gos (f := 200000) (pc2 := 1780) (ls2 := [(4, .int (nI (6 * n))), (3, .ref 232), (2, .ref 162), (1, .ref 0), (0, .ref 11)]) (st2 := [.int 1]) (h2 := h) (dc2 := dc) (ds2 := ds) 1 rfl ?_
      exact ⟨h, dc, ds, zT_ret rfl rfl, by omega, by omega⟩
    · refine lq_gtf rfl rfl (by rw [lsub hL, q1]; omega) ?_
      refine lq_gos (f := 200000) (pc2 := 36) (ls2 := [(4, .int (nI (6 * n))), (3, .ref 232), (2, .ref 162), (1, .ref 0), (0, .ref 11)]) (st2 := [.int (nI (6 * n)), .ref 11]) (h2 := h) (dc2 := dc) (ds2 := ds) 2 rfl ?_
      refine lq_xs rfl (by omega) hL rfl ?_
      refine lq_gos (f := 200000) (pc2 := 40) (ls2 := [(4, .int (nI (6 * n))), (3, .ref 232), (2, .ref 162), (1, .ref 0), (0, .ref 11)]) (st2 := [.int (xs (6 * n) &&& (63 : Int32))]) (h2 := h) (dc2 := dc) (ds2 := ds) 2 rfl ?_
      obtain ⟨k, hk, e⟩ := z_and64 (xs (6 * n))
      refine lswitch hI (by omega) hL ?_ k hk e
      intro h2 d s D2 S2 V2 hI2 e1 e2
      refine lq_gos (f := 200000) (pc2 := 23) (ls2 := [(4, .int (nI (6 * n) + (6 : Int32))), (3, .ref 232), (2, .ref 162), (1, .ref 0), (0, .ref 11)]) (st2 := []) (h2 := h2) (dc2 := (dc + d)) (ds2 := (ds + s)) 2 rfl ?_
      have e6 : nI (6 * n) + (6 : Int32) = nI (6 * (n + 1)) := nI_add (6 * n) 6
      rw [e6]
      exact ih (n + 1) h2 (dc + d) (ds + s) D2 S2 V2 hI2 (by omega) (by omega) (by omega) (by omega)
end LQ
