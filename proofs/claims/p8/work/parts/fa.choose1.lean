/-! The class: a route is chosen, step by step. -/
set_option maxRecDepth 100000 in
set_option maxHeartbeats 4000000 in
theorem c_ch10 {h : zH} {Q : zR → Prop} {dc ds : Nat} {ra sp so : Nat} {lk hd ht bl sd : Int32} {rt : Int64} {rp rs al : Nat} {wg ob pr9 sr9 fw : Int32} {w to rL cap : Nat} {hkn hks hfa : Int32} {li : List Int64} {rl n9 i f0 : Nat} {wy sv fi lf pks cns : List Int32} {rr rS T N : Nat} {kn9 : Int32} {fr9 he : Int64} {stp : List Int64} (hP : zat h 74 = some (.inr (.inr (.inr (3, [.ref 44, .ref ra, .ref 76, .ref 78, .ref 80, .ref 88, .int wg, .int ob, .ref 96, .int (nI al), .int pr9, .int sr9, .ref rp, .ref rs, .int fw]))))) (hH : zat h 78 = some (.inr (.inr (.inl (8, [some 102, some 108, some 114, some 120, some 126, some 132, some 138, some 144]))))) (hA : zat h ra = some (.inr (.inr (.inr (0, [.int lk, .int hd, .int ht, .int bl, .int sd, .long rt, .ref (ra + 2), .ref (ra + 4), .ref (ra + 6), .int (nI sp), .ref (ra + 8), .ref (ra + 10), .int (nI so), .ref (ra + 12)]))))) (hW : zat h (ra + 12) = some (.inl (0, 10, wy))) (hV : zat h (ra + 6) = some (.inl (0, 6, sv))) (hE : zat h (102 + 6 * w) = some (.inr (.inr (.inr (1, [.int hkn, .int (nI to), .ref rL, .ref (102 + 6 * w + 4), .int hks, .int hfa]))))) (hI : zat h rL = some (.inr (.inl (cap, li)))) (hF : zat h 96 = some (.inl (0, 10, fi))) (hLf : zat h rl = some (.inl (0, n9, lf))) (hR : zat h rr = some (.inr (.inr (.inr (6, [.int kn9, .long fr9, .int (nI T), .ref (rr + 2), .ref (rr + 4), .ref rS]))))) (hSt : zat h rS = some (.inr (.inl (N, stp)))) (hPk : zat h (rr + 2) = some (.inl (0, 10, pks))) (hCn : zat h (rr + 4) = some (.inl (0, 10, cns))) (hw : wy.getD i 0 = nI w ∧ fi.getD i 0 = nI f0) (hb : w < 8 ∧ i < 10 ∧ f0 + to ≤ n9 ∧ n9 ≤ 20000 ∧ to ≤ cap ∧ cap ≤ 600) (hi : i < so ∧ so ≤ 10) (hra : ra = 6 ∨ ra = 20) (hne : (rl = 98 ∨ rl = 100 ∨ 234 ≤ rl) ∧ (rL = 104 + 6 * w ∨ 234 ≤ rL)) (hsv : wSpd sv) (hT : T < N ∧ T ≤ 2700 ∧ N ≤ 6002) (hrr : (rr = 80 ∨ rr = 88) ∧ (rS = rr + 6 ∨ 234 ≤ rS)) (hds : rS ≠ rL ∧ rS ≠ rl) (hlen : 117 ≤ h.length) (kN : ∀ (h2 : zH), (wFr [74, rr] h h2) → (h2.length = h.length) → (zat h2 74 = some (.inr (.inr (.inr (3, [.ref 44, .ref ra, .ref 76, .ref 78, .ref 80, .ref 88, .int wg, .int ob, .ref 96, .int (nI al), .int pr9, .int sr9, .ref rp, .ref rs, .int ((pnR0 sv li lf f0 to he).2)]))))) → (zat h2 rr = some (.inr (.inr (.inr (6, [.int kn9, .long fr9, .int (-2), .ref (rr + 2), .ref (rr + 4), .ref rS]))))) → (((pnR0 sv li lf f0 to he).1) = -1) → Q (none, h2, dc, ds)) (kC : ∀ (h2 : zH) (rS2 : Nat) (N2 : Nat) (a2 : Nat) (st2 : List Int64) (sb2 : List Int64) (d9 s9 : Nat), (wFr [74, rr, rS, (rr + 2), (rr + 4)] h h2) → (h.length ≤ h2.length) → (zat h2 74 = some (.inr (.inr (.inr (3, [.ref 44, .ref ra, .ref 76, .ref 78, .ref 80, .ref 88, .int wg, .int ob, .ref 96, .int (nI al), .int pr9, .int sr9, .ref rp, .ref rs, .int ((pnR0 sv li lf f0 to he).2)]))))) → (zat h2 rr = some (.inr (.inr (.inr (6, [.int kn9, .long fr9, .int (nI (T + a2)), .ref (rr + 2), .ref (rr + 4), .ref rS2]))))) → (zat h2 rS2 = some (.inr (.inl (N2, st2)))) → (zat h2 (rr + 2) = some (.inl (0, 10, (zset 0 pks i ((pnR0 sv li lf f0 to he).1))))) → (zat h2 (rr + 4) = some (.inl (0, 10, (zset 0 cns i (nI (T + a2)))))) → (((pnR0 sv li lf f0 to he).1) ≠ -1) → (a2 = ((tkF sv he (li.getD ((pnR0 sv li lf f0 to he).1).toNatClampNeg 0) (1000000 : Int32) (6 - 0 + 1) 0 0)).toNatClampNeg) → (a2 ≤ 300) → (T + a2 < N2 ∧ N2 ≤ 6002 ∧ N ≤ N2) → (rS2 = rS ∨ 2 * h.length ≤ rS2) → (st2 = gtF T a2 (stp.getD T 0) (li.getD ((pnR0 sv li lf f0 to he).1).toNatClampNeg 0) (a2 + 1 - 1 + 1) 1 sb2) → (∀ q, q < N → sb2.getD q 0 = stp.getD q 0) → (d9 + N ≤ dc + N2) → (s9 + 2 * N ≤ ds + 2 * N2) → wq 29 15 [(0, .ref 74), (1, .ref rr), (2, .int 0), (3, .ref rl), (4, .long (li.getD ((pnR0 sv li lf f0 to he).1).toNatClampNeg 0)), (6, .int (nI (i + 1)))] [] h2 d9 s9 Q) : wq 29 15 [(0, .ref 74), (1, .ref rr), (2, .int 0), (3, .ref rl), (4, .long he), (6, .int (nI i))] [] h dc ds Q := by
  have qni := nI_toInt (n := i) (by omega)
  have qnso := nI_toInt (n := so) (by omega)
  have z0 : (0 : Int32).toInt = 0 := rfl
  have z1 : (1 : Int32).toInt = 1 := rfl
  have zm1 : (-1 : Int32).toInt = -1 := rfl
  refine wq_gos (f := 1) (pc2 := 18) (ls2 := [(0, .ref 74), (1, .ref rr), (2, .int 0), (3, .ref rl), (4, .long he), (6, .int (nI i))]) (st2 := [.ref 74, .int (nI i)]) (h2 := h) (dc2 := dc) (ds2 := ds) 2 rfl ?_
  refine wq_getf rfl hP rfl rfl ?_
  refine wq_getf rfl hA rfl rfl ?_
  try have q1x := nI_toInt (n := i) (by omega)
  try have q2x := nI_toInt (n := so) (by omega)
  refine wq_ge2f rfl rfl (by omega) ?_
  refine wq_gos (f := 1) (pc2 := 34) (ls2 := [(0, .ref 74), (1, .ref rr), (2, .int 0), (3, .ref rl), (4, .long he), (6, .int (nI i))]) (st2 := [.int 0, .ref rl, .int (nI i), .long he, .ref 74]) (h2 := h) (dc2 := dc) (ds2 := ds) 5 rfl ?_
  have q3x : (0 : Int32).toInt = 0 := rfl
  refine wq_inlv (y2 := 32) (as := [.long he, .int (nI i), .ref rl, .int 0]) rfl rfl rfl hP rfl (wq_mono (c_pq0 hP hH hA hW hV hE hI hF hLf (by first | assumption | omega | decide | solve_by_elim) (by first | assumption | omega | decide | solve_by_elim) (by first | assumption | omega | decide | solve_by_elim) (by first | assumption | omega | decide | solve_by_elim)) ?_)
  rintro _ ⟨h84x, rfl, f84x, l84x, c04x, p04x⟩
  show wq 29 37 [(0, .ref 74), (1, .ref rr), (2, .int 0), (3, .ref rl), (4, .long he), (6, .int (nI i))] [.int ((pnR0 sv li lf f0 to he).1)] h84x dc ds _
  obtain ⟨v5x, hv6x⟩ : ∃ x, x = (pnR0 sv li lf f0 to he) := ⟨_, rfl⟩
  try rw [← hv6x] at c04x
  try rw [← hv6x] at p04x
  try rw [← hv6x]
  refine wq_gos (f := 1) (pc2 := 42) (ls2 := [(7, .int (v5x.1)), (0, .ref 74), (1, .ref rr), (2, .int 0), (3, .ref rl), (4, .long he), (6, .int (nI i))]) (st2 := [.int (-1), .int (v5x.1)]) (h2 := h84x) (dc2 := dc) (ds2 := ds) 3 rfl ?_
  have q7x : (-1 : Int32).toInt = -1 := rfl
  refine wq_ne2 rfl rfl (fun b8x => ?_) (fun b8x => ?_)
  · have q9x : (v5x.1).toInt ≠ -1 := fun q => b8x (Int32.toInt_inj.mp q)
    refine wq_gos (f := 1) (pc2 := 53) (ls2 := [(7, .int (v5x.1)), (0, .ref 74), (1, .ref rr), (2, .int 0), (3, .ref rl), (4, .long he), (6, .int (nI i))]) (st2 := [.ref 74]) (h2 := h84x) (dc2 := dc) (ds2 := ds) 1 rfl ?_
    refine wq_getf rfl c04x rfl rfl ?_
    refine wq_gos (f := 1) (pc2 := 57) (ls2 := [(7, .int (v5x.1)), (0, .ref 74), (1, .ref rr), (2, .int 0), (3, .ref rl), (4, .long he), (6, .int (nI i))]) (st2 := [.ref 74, .ref 78]) (h2 := h84x) (dc2 := dc) (ds2 := ds) 1 rfl ?_
    refine wq_getf rfl c04x rfl rfl ?_
    have e10x := (f84x.2 _ _ (wnc (by omega) wn0) hA)
    refine wq_getf rfl e10x rfl rfl ?_
    refine wq_gos (f := 1) (pc2 := 65) (ls2 := [(7, .int (v5x.1)), (0, .ref 74), (1, .ref rr), (2, .int 0), (3, .ref rl), (4, .long he), (6, .int (nI i))]) (st2 := [.int (nI i), .ref (ra + 12), .ref 78]) (h2 := h84x) (dc2 := dc) (ds2 := ds) 1 rfl ?_
    have e11x := (f84x.2 _ _ (wnc (by omega) wn0) hW)
    refine wq_ialdn rfl e11x (by first | omega | exact zin_t (by omega) (by omega)) (by decide) rfl ?_
    refine wq_vi hw.1 ?_
    have e12x := (f84x.2 _ _ (wnc (by decide) wn0) hH)
    try have q13x := nI_toInt (n := w) (by omega)
    refine wq_aald rfl e12x (by first | omega | exact zin_t (by omega) (by omega)) (heldAt (by omega)) rfl ?_
    have e14x := (f84x.2 _ _ (wnc (by omega) wn0) hE)
    refine wq_getf rfl e14x rfl rfl ?_
    refine wq_gos (f := 1) (pc2 := 72) (ls2 := [(7, .int (v5x.1)), (0, .ref 74), (1, .ref rr), (2, .int 0), (3, .ref rl), (4, .long he), (6, .int (nI i))]) (st2 := [.int (v5x.1), .ref rL]) (h2 := h84x) (dc2 := dc) (ds2 := ds) 1 rfl ?_
    have e15x := (f84x.2 _ _ (wnc (by omega) wn0) hI)
    refine wq_lald rfl e15x (by first | omega | exact zin_t (by omega) (by omega)) rfl ?_
    refine wq_gos (f := 1) (pc2 := 83) (ls2 := [(8, .long (li.getD ((v5x.1)).toNatClampNeg 0)), (7, .int (v5x.1)), (0, .ref 74), (1, .ref rr), (2, .int 0), (3, .ref rl), (4, .long he), (6, .int (nI i))]) (st2 := [.ref 74, .long (li.getD ((v5x.1)).toNatClampNeg 0), .int (v5x.1), .int (nI i), .ref rr]) (h2 := h84x) (dc2 := dc) (ds2 := ds) 6 rfl ?_
    refine wq_getf rfl c04x rfl rfl ?_
    refine wq_gos (f := 1) (pc2 := 90) (ls2 := [(8, .long (li.getD ((v5x.1)).toNatClampNeg 0)), (7, .int (v5x.1)), (0, .ref 74), (1, .ref rr), (2, .int 0), (3, .ref rl), (4, .long he), (6, .int (nI i))]) (st2 := [.long (li.getD ((v5x.1)).toNatClampNeg 0), .long he, .ref ra, .long (li.getD ((v5x.1)).toNatClampNeg 0), .int (v5x.1), .int (nI i), .ref rr]) (h2 := h84x) (dc2 := dc) (ds2 := ds) 2 rfl ?_
    have e16x := (f84x.2 _ _ (wnc (by omega) wn0) hV)
    refine wq_inlv (y2 := 9) (as := [.long he, .long (li.getD ((v5x.1)).toNatClampNeg 0)]) rfl rfl rfl e10x rfl (wq_mono (c_tks e10x e16x) ?_)
    rintro _ rfl
    show wq 29 93 [(8, .long (li.getD ((v5x.1)).toNatClampNeg 0)), (7, .int (v5x.1)), (0, .ref 74), (1, .ref rr), (2, .int 0), (3, .ref rl), (4, .long he), (6, .int (nI i))] [.int (tkF sv he (li.getD ((v5x.1)).toNatClampNeg 0) (1000000 : Int32) (6 - 0 + 1) 0 0), .long (li.getD ((v5x.1)).toNatClampNeg 0), .int (v5x.1), .int (nI i), .ref rr] h84x dc ds _
    have hR9 := tk_rng hsv he (li.getD ((v5x.1)).toNatClampNeg 0) (1000000 : Int32) (6 - 0 + 1) 0 0 (by decide) (by decide)
    refine wq_vi (nI_cl hR9.1) ?_
    have hA9 : (tkF sv he (li.getD ((v5x.1)).toNatClampNeg 0) (1000000 : Int32) (6 - 0 + 1) 0 0).toNatClampNeg ≤ 300 := by show (tkF sv he (li.getD ((v5x.1)).toNatClampNeg 0) (1000000 : Int32) (6 - 0 + 1) 0 0).toInt.toNat ≤ 300; omega
    have e18x := (f84x.2 _ _ (wnc (by omega) wn0) hR)
    have e19x := (f84x.2 _ _ (wnc (by omega) wn0) hSt)
    have e20x := (f84x.2 _ _ (wnc (by omega) wn0) hPk)
    have e21x := (f84x.2 _ _ (wnc (by omega) wn0) hCn)
    try have q22x := nI_toInt (n := ((tkF sv he (li.getD ((v5x.1)).toNatClampNeg 0) (1000000 : Int32) (6 - 0 + 1) 0 0).toNatClampNeg)) (by omega)
    refine wq_inlv (y2 := 69) (as := [.int (nI i), .int (v5x.1), .long (li.getD ((v5x.1)).toNatClampNeg 0), .int (nI ((tkF sv he (li.getD ((v5x.1)).toNatClampNeg 0) (1000000 : Int32) (6 - 0 + 1) 0 0).toNatClampNeg))]) rfl rfl rfl e18x rfl (wq_mono (c_goto e18x e19x e20x e21x (by first | assumption | omega | decide | solve_by_elim) (by first | assumption | omega | decide | solve_by_elim) (by first | assumption | omega | decide | solve_by_elim)) ?_)
    rintro _ ⟨h823x, rS223x, N223x, st223x, sb23x, d923x, s923x, rfl, f823x, l823x, c023x, c123x, c223x, c323x, p023x, p123x, p223x, p323x, al023x, al123x⟩
    show wq 29 96 [(8, .long (li.getD ((v5x.1)).toNatClampNeg 0)), (7, .int (v5x.1)), (0, .ref 74), (1, .ref rr), (2, .int 0), (3, .ref rl), (4, .long he), (6, .int (nI i))] [] h823x (dc + d923x) (ds + s923x) _
    refine wq_gos (f := 1) (pc2 := 103) (ls2 := [(6, .int ((nI i) + 1)), (4, .long (li.getD ((v5x.1)).toNatClampNeg 0)), (8, .long (li.getD ((v5x.1)).toNatClampNeg 0)), (7, .int (v5x.1)), (0, .ref 74), (1, .ref rr), (2, .int 0), (3, .ref rl)]) (st2 := []) (h2 := h823x) (dc2 := (dc + d923x)) (ds2 := (ds + s923x)) 3 rfl ?_
    rw [nI_1]
    refine wq_gos (f := 1) (pc2 := 15) (ls2 := [(6, .int (nI (i + 1))), (4, .long (li.getD ((v5x.1)).toNatClampNeg 0)), (8, .long (li.getD ((v5x.1)).toNatClampNeg 0)), (7, .int (v5x.1)), (0, .ref 74), (1, .ref rr), (2, .int 0), (3, .ref rl)]) (st2 := []) (h2 := h823x) (dc2 := (dc + d923x)) (ds2 := (ds + s923x)) 1 rfl ?_
    have e24x := (f823x.2 _ _ (wnc (by omega) (wnc (by omega) (wnc (by omega) (wnc (by omega) wn0)))) c04x)
    subst hv6x
    refine wq_ls [(0, .ref 74), (1, .ref rr), (2, .int 0), (3, .ref rl), (4, .long (li.getD (((pnR0 sv li lf f0 to he).1)).toNatClampNeg 0)), (6, .int (nI (i + 1)))] (show ([0, 1, 2, 3, 4, 6] : List Nat).Nodup by decide) ⟨rfl, rfl, rfl, rfl, rfl, rfl, trivial⟩ ?_
    exact kC h823x rS223x N223x ((tkF sv he (li.getD (((pnR0 sv li lf f0 to he).1)).toNatClampNeg 0) (1000000 : Int32) (6 - 0 + 1) 0 0).toNatClampNeg) st223x sb23x (dc + d923x) (ds + s923x) (wFr_tr (wFr_sub f84x (by simp)) (wFr_sub f823x (by simp))) (by omega) e24x c023x c123x c223x c323x (by first | assumption | omega | decide | solve_by_elim) rfl (by first | assumption | omega | decide | solve_by_elim) (by first | assumption | omega | decide | solve_by_elim) (by first | assumption | omega | decide | solve_by_elim) (by assumption) (by assumption) (by omega) (by omega)
  · have q25x : (v5x.1).toInt = -1 := congrArg Int32.toInt b8x
    refine wq_gos (f := 1) (pc2 := 48) (ls2 := [(7, .int (v5x.1)), (0, .ref 74), (1, .ref rr), (2, .int 0), (3, .ref rl), (4, .long he), (6, .int (nI i))]) (st2 := [.int (-2), .ref rr]) (h2 := h84x) (dc2 := dc) (ds2 := ds) 2 rfl ?_
    have e26x := (f84x.2 _ _ (wnc (by omega) wn0) hR)
    refine wq_putf rfl e26x rfl rfl rfl ?_
    intro hh27x e28x ff29x lh30x
    have e28x : zat hh27x rr = some (.inr (.inr (.inr (6, [.int kn9, .long fr9, .int (-2), .ref (rr + 2), .ref (rr + 4), .ref rS])))) := e28x
    have e31x := (ff29x.2 _ _ (wnc (by omega) wn0) c04x)
    subst hv6x
    exact wq_ret rfl rfl (kN hh27x (wFr_tr (wFr_sub f84x (by simp)) (wFr_sub ff29x (by simp))) (by omega) e31x e28x (by first | assumption | omega | decide | solve_by_elim))
set_option maxRecDepth 100000 in
set_option maxHeartbeats 4000000 in
theorem c_ch11 {h : zH} {Q : zR → Prop} {dc ds : Nat} {ra sp so : Nat} {lk hd ht bl sd : Int32} {rt : Int64} {rp rs al : Nat} {wg ob pr9 sr9 fw : Int32} {w to rL cap : Nat} {hkn hks hfa : Int32} {li : List Int64} {rl n9 i f0 : Nat} {wy sv fi lf pks cns : List Int32} {rr rS T N : Nat} {kn9 : Int32} {fr9 he : Int64} {stp : List Int64} (hP : zat h 74 = some (.inr (.inr (.inr (3, [.ref 44, .ref ra, .ref 76, .ref 78, .ref 80, .ref 88, .int wg, .int ob, .ref 96, .int (nI al), .int pr9, .int sr9, .ref rp, .ref rs, .int fw]))))) (hH : zat h 78 = some (.inr (.inr (.inl (8, [some 102, some 108, some 114, some 120, some 126, some 132, some 138, some 144]))))) (hA : zat h ra = some (.inr (.inr (.inr (0, [.int lk, .int hd, .int ht, .int bl, .int sd, .long rt, .ref (ra + 2), .ref (ra + 4), .ref (ra + 6), .int (nI sp), .ref (ra + 8), .ref (ra + 10), .int (nI so), .ref (ra + 12)]))))) (hW : zat h (ra + 12) = some (.inl (0, 10, wy))) (hV : zat h (ra + 6) = some (.inl (0, 6, sv))) (hE : zat h (102 + 6 * w) = some (.inr (.inr (.inr (1, [.int hkn, .int (nI to), .ref rL, .ref (102 + 6 * w + 4), .int hks, .int hfa]))))) (hI : zat h rL = some (.inr (.inl (cap, li)))) (hF : zat h 96 = some (.inl (0, 10, fi))) (hLf : zat h rl = some (.inl (0, n9, lf))) (hR : zat h rr = some (.inr (.inr (.inr (6, [.int kn9, .long fr9, .int (nI T), .ref (rr + 2), .ref (rr + 4), .ref rS]))))) (hSt : zat h rS = some (.inr (.inl (N, stp)))) (hPk : zat h (rr + 2) = some (.inl (0, 10, pks))) (hCn : zat h (rr + 4) = some (.inl (0, 10, cns))) (hw : wy.getD i 0 = nI w ∧ fi.getD i 0 = nI f0) (hb : w < 8 ∧ i < 10 ∧ f0 + to ≤ n9 ∧ n9 ≤ 20000 ∧ to ≤ cap ∧ cap ≤ 600) (hi : i < so ∧ so ≤ 10) (hra : ra = 6 ∨ ra = 20) (hne : (rl = 98 ∨ rl = 100 ∨ 234 ≤ rl) ∧ (rL = 104 + 6 * w ∨ 234 ≤ rL)) (hsv : wSpd sv) (hT : T < N ∧ T ≤ 2700 ∧ N ≤ 6002) (hrr : (rr = 80 ∨ rr = 88) ∧ (rS = rr + 6 ∨ 234 ≤ rS)) (hds : rS ≠ rL ∧ rS ≠ rl) (hlen : 117 ≤ h.length) (kN : ∀ (h2 : zH), (wFr [74, rr] h h2) → (h2.length = h.length) → (zat h2 74 = some (.inr (.inr (.inr (3, [.ref 44, .ref ra, .ref 76, .ref 78, .ref 80, .ref 88, .int wg, .int ob, .ref 96, .int (nI al), .int pr9, .int sr9, .ref rp, .ref rs, .int ((pnR1 sv li lf f0 to he).2)]))))) → (zat h2 rr = some (.inr (.inr (.inr (6, [.int kn9, .long fr9, .int (-2), .ref (rr + 2), .ref (rr + 4), .ref rS]))))) → (((pnR1 sv li lf f0 to he).1) = -1) → Q (none, h2, dc, ds)) (kC : ∀ (h2 : zH) (rS2 : Nat) (N2 : Nat) (a2 : Nat) (st2 : List Int64) (sb2 : List Int64) (d9 s9 : Nat), (wFr [74, rr, rS, (rr + 2), (rr + 4)] h h2) → (h.length ≤ h2.length) → (zat h2 74 = some (.inr (.inr (.inr (3, [.ref 44, .ref ra, .ref 76, .ref 78, .ref 80, .ref 88, .int wg, .int ob, .ref 96, .int (nI al), .int pr9, .int sr9, .ref rp, .ref rs, .int ((pnR1 sv li lf f0 to he).2)]))))) → (zat h2 rr = some (.inr (.inr (.inr (6, [.int kn9, .long fr9, .int (nI (T + a2)), .ref (rr + 2), .ref (rr + 4), .ref rS2]))))) → (zat h2 rS2 = some (.inr (.inl (N2, st2)))) → (zat h2 (rr + 2) = some (.inl (0, 10, (zset 0 pks i ((pnR1 sv li lf f0 to he).1))))) → (zat h2 (rr + 4) = some (.inl (0, 10, (zset 0 cns i (nI (T + a2)))))) → (((pnR1 sv li lf f0 to he).1) ≠ -1) → (a2 = ((tkF sv he (li.getD ((pnR1 sv li lf f0 to he).1).toNatClampNeg 0) (1000000 : Int32) (6 - 0 + 1) 0 0)).toNatClampNeg) → (a2 ≤ 300) → (T + a2 < N2 ∧ N2 ≤ 6002 ∧ N ≤ N2) → (rS2 = rS ∨ 2 * h.length ≤ rS2) → (st2 = gtF T a2 (stp.getD T 0) (li.getD ((pnR1 sv li lf f0 to he).1).toNatClampNeg 0) (a2 + 1 - 1 + 1) 1 sb2) → (∀ q, q < N → sb2.getD q 0 = stp.getD q 0) → (d9 + N ≤ dc + N2) → (s9 + 2 * N ≤ ds + 2 * N2) → wq 29 15 [(0, .ref 74), (1, .ref rr), (2, .int 1), (3, .ref rl), (4, .long (li.getD ((pnR1 sv li lf f0 to he).1).toNatClampNeg 0)), (6, .int (nI (i + 1)))] [] h2 d9 s9 Q) : wq 29 15 [(0, .ref 74), (1, .ref rr), (2, .int 1), (3, .ref rl), (4, .long he), (6, .int (nI i))] [] h dc ds Q := by
  have qni := nI_toInt (n := i) (by omega)
  have qnso := nI_toInt (n := so) (by omega)
  have z0 : (0 : Int32).toInt = 0 := rfl
  have z1 : (1 : Int32).toInt = 1 := rfl
  have zm1 : (-1 : Int32).toInt = -1 := rfl
  refine wq_gos (f := 1) (pc2 := 18) (ls2 := [(0, .ref 74), (1, .ref rr), (2, .int 1), (3, .ref rl), (4, .long he), (6, .int (nI i))]) (st2 := [.ref 74, .int (nI i)]) (h2 := h) (dc2 := dc) (ds2 := ds) 2 rfl ?_
  refine wq_getf rfl hP rfl rfl ?_
  refine wq_getf rfl hA rfl rfl ?_
  try have q1x := nI_toInt (n := i) (by omega)
  try have q2x := nI_toInt (n := so) (by omega)
  refine wq_ge2f rfl rfl (by omega) ?_
  refine wq_gos (f := 1) (pc2 := 34) (ls2 := [(0, .ref 74), (1, .ref rr), (2, .int 1), (3, .ref rl), (4, .long he), (6, .int (nI i))]) (st2 := [.int 1, .ref rl, .int (nI i), .long he, .ref 74]) (h2 := h) (dc2 := dc) (ds2 := ds) 5 rfl ?_
  have q3x : (1 : Int32).toInt = 1 := rfl
  refine wq_inlv (y2 := 32) (as := [.long he, .int (nI i), .ref rl, .int 1]) rfl rfl rfl hP rfl (wq_mono (c_pq1 hP hH hA hW hV hE hI hF hLf (by first | assumption | omega | decide | solve_by_elim) (by first | assumption | omega | decide | solve_by_elim) (by first | assumption | omega | decide | solve_by_elim) (by first | assumption | omega | decide | solve_by_elim)) ?_)
  rintro _ ⟨h84x, rfl, f84x, l84x, c04x, p04x⟩
  show wq 29 37 [(0, .ref 74), (1, .ref rr), (2, .int 1), (3, .ref rl), (4, .long he), (6, .int (nI i))] [.int ((pnR1 sv li lf f0 to he).1)] h84x dc ds _
  obtain ⟨v5x, hv6x⟩ : ∃ x, x = (pnR1 sv li lf f0 to he) := ⟨_, rfl⟩
  try rw [← hv6x] at c04x
  try rw [← hv6x] at p04x
  try rw [← hv6x]
  refine wq_gos (f := 1) (pc2 := 42) (ls2 := [(7, .int (v5x.1)), (0, .ref 74), (1, .ref rr), (2, .int 1), (3, .ref rl), (4, .long he), (6, .int (nI i))]) (st2 := [.int (-1), .int (v5x.1)]) (h2 := h84x) (dc2 := dc) (ds2 := ds) 3 rfl ?_
  have q7x : (-1 : Int32).toInt = -1 := rfl
  refine wq_ne2 rfl rfl (fun b8x => ?_) (fun b8x => ?_)
  · have q9x : (v5x.1).toInt ≠ -1 := fun q => b8x (Int32.toInt_inj.mp q)
    refine wq_gos (f := 1) (pc2 := 53) (ls2 := [(7, .int (v5x.1)), (0, .ref 74), (1, .ref rr), (2, .int 1), (3, .ref rl), (4, .long he), (6, .int (nI i))]) (st2 := [.ref 74]) (h2 := h84x) (dc2 := dc) (ds2 := ds) 1 rfl ?_
    refine wq_getf rfl c04x rfl rfl ?_
    refine wq_gos (f := 1) (pc2 := 57) (ls2 := [(7, .int (v5x.1)), (0, .ref 74), (1, .ref rr), (2, .int 1), (3, .ref rl), (4, .long he), (6, .int (nI i))]) (st2 := [.ref 74, .ref 78]) (h2 := h84x) (dc2 := dc) (ds2 := ds) 1 rfl ?_
    refine wq_getf rfl c04x rfl rfl ?_
    have e10x := (f84x.2 _ _ (wnc (by omega) wn0) hA)
    refine wq_getf rfl e10x rfl rfl ?_
    refine wq_gos (f := 1) (pc2 := 65) (ls2 := [(7, .int (v5x.1)), (0, .ref 74), (1, .ref rr), (2, .int 1), (3, .ref rl), (4, .long he), (6, .int (nI i))]) (st2 := [.int (nI i), .ref (ra + 12), .ref 78]) (h2 := h84x) (dc2 := dc) (ds2 := ds) 1 rfl ?_
    have e11x := (f84x.2 _ _ (wnc (by omega) wn0) hW)
    refine wq_ialdn rfl e11x (by first | omega | exact zin_t (by omega) (by omega)) (by decide) rfl ?_
    refine wq_vi hw.1 ?_
    have e12x := (f84x.2 _ _ (wnc (by decide) wn0) hH)
    try have q13x := nI_toInt (n := w) (by omega)
    refine wq_aald rfl e12x (by first | omega | exact zin_t (by omega) (by omega)) (heldAt (by omega)) rfl ?_
    have e14x := (f84x.2 _ _ (wnc (by omega) wn0) hE)
    refine wq_getf rfl e14x rfl rfl ?_
    refine wq_gos (f := 1) (pc2 := 72) (ls2 := [(7, .int (v5x.1)), (0, .ref 74), (1, .ref rr), (2, .int 1), (3, .ref rl), (4, .long he), (6, .int (nI i))]) (st2 := [.int (v5x.1), .ref rL]) (h2 := h84x) (dc2 := dc) (ds2 := ds) 1 rfl ?_
    have e15x := (f84x.2 _ _ (wnc (by omega) wn0) hI)
    refine wq_lald rfl e15x (by first | omega | exact zin_t (by omega) (by omega)) rfl ?_
    refine wq_gos (f := 1) (pc2 := 83) (ls2 := [(8, .long (li.getD ((v5x.1)).toNatClampNeg 0)), (7, .int (v5x.1)), (0, .ref 74), (1, .ref rr), (2, .int 1), (3, .ref rl), (4, .long he), (6, .int (nI i))]) (st2 := [.ref 74, .long (li.getD ((v5x.1)).toNatClampNeg 0), .int (v5x.1), .int (nI i), .ref rr]) (h2 := h84x) (dc2 := dc) (ds2 := ds) 6 rfl ?_
    refine wq_getf rfl c04x rfl rfl ?_
    refine wq_gos (f := 1) (pc2 := 90) (ls2 := [(8, .long (li.getD ((v5x.1)).toNatClampNeg 0)), (7, .int (v5x.1)), (0, .ref 74), (1, .ref rr), (2, .int 1), (3, .ref rl), (4, .long he), (6, .int (nI i))]) (st2 := [.long (li.getD ((v5x.1)).toNatClampNeg 0), .long he, .ref ra, .long (li.getD ((v5x.1)).toNatClampNeg 0), .int (v5x.1), .int (nI i), .ref rr]) (h2 := h84x) (dc2 := dc) (ds2 := ds) 2 rfl ?_
    have e16x := (f84x.2 _ _ (wnc (by omega) wn0) hV)
    refine wq_inlv (y2 := 9) (as := [.long he, .long (li.getD ((v5x.1)).toNatClampNeg 0)]) rfl rfl rfl e10x rfl (wq_mono (c_tks e10x e16x) ?_)
    rintro _ rfl
    show wq 29 93 [(8, .long (li.getD ((v5x.1)).toNatClampNeg 0)), (7, .int (v5x.1)), (0, .ref 74), (1, .ref rr), (2, .int 1), (3, .ref rl), (4, .long he), (6, .int (nI i))] [.int (tkF sv he (li.getD ((v5x.1)).toNatClampNeg 0) (1000000 : Int32) (6 - 0 + 1) 0 0), .long (li.getD ((v5x.1)).toNatClampNeg 0), .int (v5x.1), .int (nI i), .ref rr] h84x dc ds _
    have hR9 := tk_rng hsv he (li.getD ((v5x.1)).toNatClampNeg 0) (1000000 : Int32) (6 - 0 + 1) 0 0 (by decide) (by decide)
    refine wq_vi (nI_cl hR9.1) ?_
    have hA9 : (tkF sv he (li.getD ((v5x.1)).toNatClampNeg 0) (1000000 : Int32) (6 - 0 + 1) 0 0).toNatClampNeg ≤ 300 := by show (tkF sv he (li.getD ((v5x.1)).toNatClampNeg 0) (1000000 : Int32) (6 - 0 + 1) 0 0).toInt.toNat ≤ 300; omega
    have e18x := (f84x.2 _ _ (wnc (by omega) wn0) hR)
    have e19x := (f84x.2 _ _ (wnc (by omega) wn0) hSt)
    have e20x := (f84x.2 _ _ (wnc (by omega) wn0) hPk)
    have e21x := (f84x.2 _ _ (wnc (by omega) wn0) hCn)
    try have q22x := nI_toInt (n := ((tkF sv he (li.getD ((v5x.1)).toNatClampNeg 0) (1000000 : Int32) (6 - 0 + 1) 0 0).toNatClampNeg)) (by omega)
    refine wq_inlv (y2 := 69) (as := [.int (nI i), .int (v5x.1), .long (li.getD ((v5x.1)).toNatClampNeg 0), .int (nI ((tkF sv he (li.getD ((v5x.1)).toNatClampNeg 0) (1000000 : Int32) (6 - 0 + 1) 0 0).toNatClampNeg))]) rfl rfl rfl e18x rfl (wq_mono (c_goto e18x e19x e20x e21x (by first | assumption | omega | decide | solve_by_elim) (by first | assumption | omega | decide | solve_by_elim) (by first | assumption | omega | decide | solve_by_elim)) ?_)
    rintro _ ⟨h823x, rS223x, N223x, st223x, sb23x, d923x, s923x, rfl, f823x, l823x, c023x, c123x, c223x, c323x, p023x, p123x, p223x, p323x, al023x, al123x⟩
    show wq 29 96 [(8, .long (li.getD ((v5x.1)).toNatClampNeg 0)), (7, .int (v5x.1)), (0, .ref 74), (1, .ref rr), (2, .int 1), (3, .ref rl), (4, .long he), (6, .int (nI i))] [] h823x (dc + d923x) (ds + s923x) _
    refine wq_gos (f := 1) (pc2 := 103) (ls2 := [(6, .int ((nI i) + 1)), (4, .long (li.getD ((v5x.1)).toNatClampNeg 0)), (8, .long (li.getD ((v5x.1)).toNatClampNeg 0)), (7, .int (v5x.1)), (0, .ref 74), (1, .ref rr), (2, .int 1), (3, .ref rl)]) (st2 := []) (h2 := h823x) (dc2 := (dc + d923x)) (ds2 := (ds + s923x)) 3 rfl ?_
    rw [nI_1]
    refine wq_gos (f := 1) (pc2 := 15) (ls2 := [(6, .int (nI (i + 1))), (4, .long (li.getD ((v5x.1)).toNatClampNeg 0)), (8, .long (li.getD ((v5x.1)).toNatClampNeg 0)), (7, .int (v5x.1)), (0, .ref 74), (1, .ref rr), (2, .int 1), (3, .ref rl)]) (st2 := []) (h2 := h823x) (dc2 := (dc + d923x)) (ds2 := (ds + s923x)) 1 rfl ?_
    have e24x := (f823x.2 _ _ (wnc (by omega) (wnc (by omega) (wnc (by omega) (wnc (by omega) wn0)))) c04x)
    subst hv6x
    refine wq_ls [(0, .ref 74), (1, .ref rr), (2, .int 1), (3, .ref rl), (4, .long (li.getD (((pnR1 sv li lf f0 to he).1)).toNatClampNeg 0)), (6, .int (nI (i + 1)))] (show ([0, 1, 2, 3, 4, 6] : List Nat).Nodup by decide) ⟨rfl, rfl, rfl, rfl, rfl, rfl, trivial⟩ ?_
    exact kC h823x rS223x N223x ((tkF sv he (li.getD (((pnR1 sv li lf f0 to he).1)).toNatClampNeg 0) (1000000 : Int32) (6 - 0 + 1) 0 0).toNatClampNeg) st223x sb23x (dc + d923x) (ds + s923x) (wFr_tr (wFr_sub f84x (by simp)) (wFr_sub f823x (by simp))) (by omega) e24x c023x c123x c223x c323x (by first | assumption | omega | decide | solve_by_elim) rfl (by first | assumption | omega | decide | solve_by_elim) (by first | assumption | omega | decide | solve_by_elim) (by first | assumption | omega | decide | solve_by_elim) (by assumption) (by assumption) (by omega) (by omega)
  · have q25x : (v5x.1).toInt = -1 := congrArg Int32.toInt b8x
    refine wq_gos (f := 1) (pc2 := 48) (ls2 := [(7, .int (v5x.1)), (0, .ref 74), (1, .ref rr), (2, .int 1), (3, .ref rl), (4, .long he), (6, .int (nI i))]) (st2 := [.int (-2), .ref rr]) (h2 := h84x) (dc2 := dc) (ds2 := ds) 2 rfl ?_
    have e26x := (f84x.2 _ _ (wnc (by omega) wn0) hR)
    refine wq_putf rfl e26x rfl rfl rfl ?_
    intro hh27x e28x ff29x lh30x
    have e28x : zat hh27x rr = some (.inr (.inr (.inr (6, [.int kn9, .long fr9, .int (-2), .ref (rr + 2), .ref (rr + 4), .ref rS])))) := e28x
    have e31x := (ff29x.2 _ _ (wnc (by omega) wn0) c04x)
    subst hv6x
    exact wq_ret rfl rfl (kN hh27x (wFr_tr (wFr_sub f84x (by simp)) (wFr_sub ff29x (by simp))) (by omega) e31x e28x (by first | assumption | omega | decide | solve_by_elim))
