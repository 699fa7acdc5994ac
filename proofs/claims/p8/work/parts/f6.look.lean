/-! The class: the planner looks its spots up. -/
set_option maxRecDepth 100000 in
set_option maxHeartbeats 4000000 in
theorem c_lk1 {h : zH} {Q : zR → Prop} {dc ds : Nat} {ra sp so : Nat} {lk hd ht bl sd : Int32} {rt : Int64} {rp rs al : Nat} {wg ob pr9 sr9 fw : Int32} {rv sc : Nat} {v0 v1 : Value} {nf : Int32} {tg sh el wr ou bh : List Int32} {so1 : List Int64} {w to rL cap : Nat} {kn ks fa : Int32} {hp : List Int32} {li : List Int64} {ll lg wy fi hpl : List Int32} {po : List Int64} {no tm : Int32} {b i : Nat} (hPl : zat h 74 = some (.inr (.inr (.inr (3, [.ref 44, .ref ra, .ref 76, .ref 78, .ref 80, .ref 88, .int wg, .int ob, .ref 96, .int (nI al), .int pr9, .int sr9, .ref rp, .ref rs, .int fw]))))) (hA : zat h ra = some (.inr (.inr (.inr (0, [.int lk, .int hd, .int ht, .int bl, .int sd, .long rt, .ref (ra + 2), .ref (ra + 4), .ref (ra + 6), .int (nI sp), .ref (ra + 8), .ref (ra + 10), .int (nI so), .ref (ra + 12)]))))) (hL : zat h (ra + 2) = some (.inl (0, 6, ll))) (hG : zat h (ra + 4) = some (.inl (0, 6, lg))) (hQ : zat h (ra + 10) = some (.inr (.inl (8, po)))) (hW : zat h (ra + 12) = some (.inl (0, 10, wy))) (h78 : zat h 78 = some (.inr (.inr (.inl (8, [some 102, some 108, some 114, some 120, some 126, some 132, some 138, some 144]))))) (h76 : zat h 76 = some (.inl (0, 6, hpl))) (hF : zat h 96 = some (.inl (0, 10, fi))) (hS : zat h 44 = some (.inr (.inr (.inr (7, [v0, v1, .ref 46, .int nf, .ref 48, .ref 50, .ref 52, .ref 54, .ref 56, .ref rv]))))) (h46 : zat h 46 = some (.inl (0, 6, tg))) (h48 : zat h 48 = some (.inl (0, 128, sh))) (h50 : zat h 50 = some (.inl (0, 128, el))) (h52 : zat h 52 = some (.inl (0, 128, wr))) (h54 : zat h 54 = some (.inl (0, 128, ou))) (hB : zat h 56 = some (.inl (0, 101, bh))) (hO : zat h rv = some (.inr (.inl (sc, so1)))) (hH : zat h (102 + 6 * w) = some (.inr (.inr (.inr (1, [.int kn, .int (nI to), .ref rL, .ref (102 + 6 * w + 4), .int ks, .int fa]))))) (hP4 : zat h (102 + 6 * w + 4) = some (.inl (0, 6, hp))) (hI : zat h rL = some (.inr (.inl (cap, li)))) (hra : ra = 6 ∨ ra = 20) (hsp : sp ≤ 8) (hsc : wScl lk hd ht bl sd) (hlm : wLm ll lg) (hi : i < so ∧ so ≤ 10) (hw : wy.getD i 0 = nI w) (hw8 : w < sp) (hb : b < 256) (hal : al ≤ 6000) (hto : to ≤ 16384) (hd1 : rL = 102 + 6 * w + 2 ∨ 234 ≤ rL) (hd2 : (rv = 58 ∨ 234 ≤ rv) ∧ rv ≠ rL) (hcs : 16 ≤ cap ∧ cap ≤ 600 ∧ sc ≤ 600) (hlen : 117 ≤ h.length) (kA : ∀ (h2 : zH) (no2 : Int32) (tm2 : Int32), (wFr [74, 96] h h2) → (h2.length = h.length) → (zat h2 74 = some (.inr (.inr (.inr (3, [.ref 44, .ref ra, .ref 76, .ref 78, .ref 80, .ref 88, .int wg, .int ob, .ref 96, .int (nI (al + min to 600)), .int pr9, .int sr9, .ref rp, .ref rs, .int fw]))))) → (zat h2 96 = some (.inl (0, 10, (zset 0 fi i (nI al))))) → (b >>> w % 2 ≠ 0) → ((no2.toInt = 1 ∧ (no.toInt ≠ 0 ∨ to = 0)) ∨ (no2.toInt = 0 ∧ no.toInt = 0 ∧ to ≠ 0)) → ((tm2.toInt = 1 ∧ (tm.toInt ≠ 0 ∨ 600 < to)) ∨ (tm2.toInt = 0 ∧ tm.toInt = 0 ∧ to ≤ 600)) → wq 28 27 [(0, .ref 74), (1, .int no2), (2, .int tm2), (3, .int (nI b)), (4, .int (nI (i + 1)))] [] h2 dc ds Q) (kB : ∀ (h2 : zH) (no2 : Int32) (tm2 : Int32) (rL2 : Nat) (cap2 : Nat) (rv2 : Nat) (sc2 : Nat) (nf2 : Int32) (kn2 : Int32) (ks2 : Int32) (fa2 : Int32) (tg2 : List Int32) (hp2 : List Int32) (sh2 : List Int32) (el2 : List Int32) (wr2 : List Int32) (ou2 : List Int32) (bh2 : List Int32) (li2 : List Int64) (so2 : List Int64) (d9 s9 : Nat), (wFr [74, 96, 76, 44, 46, 48, 50, 52, 54, 56, rv, (102 + 6 * w), (102 + 6 * w + 4), rL] h h2) → (h.length ≤ h2.length) → (zat h2 74 = some (.inr (.inr (.inr (3, [.ref 44, .ref ra, .ref 76, .ref 78, .ref 80, .ref 88, .int wg, .int ob, .ref 96, .int (nI (al + min (sSolL ll lg lk hd ht (jPlo lk hd ht (po.getD w 0) hpl) 64 (-32)).length 600)), .int pr9, .int sr9, .ref rp, .ref rs, .int fw]))))) → (zat h2 96 = some (.inl (0, 10, (zset 0 fi i (nI al))))) → (zat h2 76 = some (.inl (0, 6, (jPlo lk hd ht (po.getD w 0) hpl)))) → (zat h2 44 = some (.inr (.inr (.inr (7, [.ref ra, .ref (102 + 6 * w), .ref 46, .int nf2, .ref 48, .ref 50, .ref 52, .ref 54, .ref 56, .ref rv2]))))) → (zat h2 46 = some (.inl (0, 6, tg2))) → (zat h2 48 = some (.inl (0, 128, sh2))) → (zat h2 50 = some (.inl (0, 128, el2))) → (zat h2 52 = some (.inl (0, 128, wr2))) → (zat h2 54 = some (.inl (0, 128, ou2))) → (zat h2 56 = some (.inl (0, 101, bh2))) → (zat h2 rv2 = some (.inr (.inl (sc2, so2)))) → (zat h2 (102 + 6 * w) = some (.inr (.inr (.inr (1, [.int kn2, .int (nI (sSolL ll lg lk hd ht (jPlo lk hd ht (po.getD w 0) hpl) 64 (-32)).length), .ref rL2, .ref (102 + 6 * w + 4), .int ks2, .int fa2]))))) → (zat h2 (102 + 6 * w + 4) = some (.inl (0, 6, hp2))) → (zat h2 rL2 = some (.inr (.inl (cap2, li2)))) → (b >>> w % 2 = 0) → ((no2.toInt = 1 ∧ (no.toInt ≠ 0 ∨ (sSolL ll lg lk hd ht (jPlo lk hd ht (po.getD w 0) hpl) 64 (-32)).length = 0)) ∨ (no2.toInt = 0 ∧ no.toInt = 0 ∧ (sSolL ll lg lk hd ht (jPlo lk hd ht (po.getD w 0) hpl) 64 (-32)).length ≠ 0)) → ((tm2.toInt = 1 ∧ (tm.toInt ≠ 0 ∨ 600 < (sSolL ll lg lk hd ht (jPlo lk hd ht (po.getD w 0) hpl) 64 (-32)).length)) ∨ (tm2.toInt = 0 ∧ tm.toInt = 0 ∧ (sSolL ll lg lk hd ht (jPlo lk hd ht (po.getD w 0) hpl) 64 (-32)).length ≤ 600)) → (kn2 = 1) → (∀ i, i < 6 → hp2.getD i 0 = (jPlo lk hd ht (po.getD w 0) hpl).getD i 0) → (wHK (sSolL ll lg lk hd ht (jPlo lk hd ht (po.getD w 0) hpl) 64 (-32)) cap2 li2) → ((sSolL ll lg lk hd ht (jPlo lk hd ht (po.getD w 0) hpl) 64 (-32)).length ≤ 16384) → (16 ≤ cap2 ∧ cap2 ≤ 600 ∧ sc2 ≤ 600 ∧ cap ≤ cap2 ∧ sc ≤ sc2) → (rL2 = rL ∨ 2 * h.length ≤ rL2) → (rv2 = rv ∨ 2 * h.length ≤ rv2) → (rv2 ≠ rL2) → (d9 + cap + sc ≤ dc + cap2 + sc2) → (s9 + 600 * (cap + sc) ≤ ds + 600 * (cap2 + sc2)) → wq 28 27 [(0, .ref 74), (1, .int no2), (2, .int tm2), (3, .int (nI (b ||| 2 ^ w))), (4, .int (nI (i + 1)))] [] h2 d9 s9 Q) : wq 28 27 [(0, .ref 74), (1, .int no), (2, .int tm), (3, .int (nI b)), (4, .int (nI i))] [] h dc ds Q := by
  have qni := nI_toInt (n := i) (by omega)
  have qnso := nI_toInt (n := so) (by omega)
  have qnb := nI_toInt (n := b) (by omega)
  have qnw := nI_toInt (n := w) (by omega)
  have qnto := nI_toInt (n := to) (by omega)
  have qnal := nI_toInt (n := al) (by omega)
  have z0 : (0 : Int32).toInt = 0 := rfl
  have z1 : (1 : Int32).toInt = 1 := rfl
  have z600 : (600 : Int32).toInt = 600 := rfl
  have hsh := shr_le b w
  have zr := zat_lt hI
  have zo := zat_lt hO
  have qbm := nI_toInt (n := b >>> w % 2) (by omega)
  have qm0 := nI_toInt (n := min to 600) (by omega)
  refine wq_gos (f := 1) (pc2 := 30) (ls2 := [(0, .ref 74), (1, .int no), (2, .int tm), (3, .int (nI b)), (4, .int (nI i))]) (st2 := [.ref 74, .int (nI i)]) (h2 := h) (dc2 := dc) (ds2 := ds) 2 rfl ?_
  refine wq_getf rfl hPl rfl rfl ?_
  refine wq_getf rfl hA rfl rfl ?_
  try have q1x := nI_toInt (n := i) (by omega)
  try have q2x := nI_toInt (n := so) (by omega)
  refine wq_ge2f rfl rfl (by omega) ?_
  refine wq_gos (f := 1) (pc2 := 40) (ls2 := [(0, .ref 74), (1, .int no), (2, .int tm), (3, .int (nI b)), (4, .int (nI i))]) (st2 := [.ref 74]) (h2 := h) (dc2 := dc) (ds2 := ds) 1 rfl ?_
  refine wq_getf rfl hPl rfl rfl ?_
  refine wq_getf rfl hA rfl rfl ?_
  refine wq_gos (f := 1) (pc2 := 48) (ls2 := [(0, .ref 74), (1, .int no), (2, .int tm), (3, .int (nI b)), (4, .int (nI i))]) (st2 := [.int (nI i), .ref (ra + 12)]) (h2 := h) (dc2 := dc) (ds2 := ds) 1 rfl ?_
  refine wq_ialdn rfl hW (by first | omega | exact zin_t (by omega) (by omega)) (by decide) rfl ?_
  refine wq_vi hw ?_
  refine wq_gos (f := 1) (pc2 := 52) (ls2 := [(5, .int (nI w)), (0, .ref 74), (1, .int no), (2, .int tm), (3, .int (nI b)), (4, .int (nI i))]) (st2 := [.ref 74]) (h2 := h) (dc2 := dc) (ds2 := ds) 2 rfl ?_
  refine wq_getf rfl hPl rfl rfl ?_
  refine wq_gos (f := 1) (pc2 := 57) (ls2 := [(5, .int (nI w)), (0, .ref 74), (1, .int no), (2, .int tm), (3, .int (nI b)), (4, .int (nI i))]) (st2 := [.int (nI w), .ref 78]) (h2 := h) (dc2 := dc) (ds2 := ds) 1 rfl ?_
  try have q3x := nI_toInt (n := w) (by omega)
  refine wq_aald rfl h78 (by first | omega | exact zin_t (by omega) (by omega)) (heldAt (by omega)) rfl ?_
  refine wq_gos (f := 1) (pc2 := 64) (ls2 := [(6, .ref (102 + 6 * w)), (5, .int (nI w)), (0, .ref 74), (1, .int no), (2, .int tm), (3, .int (nI b)), (4, .int (nI i))]) (st2 := [.int (((nI b)).toUInt32 >>> (((nI w)).toUInt32 &&& Int32.toUInt32 31)).toInt32]) (h2 := h) (dc2 := dc) (ds2 := ds) 4 rfl ?_
  refine wq_vi (show (((nI b)).toUInt32 >>> (((nI w)).toUInt32 &&& Int32.toUInt32 31)).toInt32 = nI (b >>> w) from e_ushr (b := b) (k := w) (by omega) (by omega)) ?_
  refine wq_gos (f := 1) (pc2 := 66) (ls2 := [(6, .ref (102 + 6 * w)), (5, .int (nI w)), (0, .ref 74), (1, .int no), (2, .int tm), (3, .int (nI b)), (4, .int (nI i))]) (st2 := [.int ((nI (b >>> w)) &&& (1 : Int32))]) (h2 := h) (dc2 := dc) (ds2 := ds) 2 rfl ?_
  refine wq_vi (show ((nI (b >>> w)) &&& (1 : Int32)) = nI ((b >>> w) % 2) from e_and1 (b >>> w)) ?_
  try have q4x := nI_toInt (n := ((b >>> w) % 2)) (by omega)
  refine wq_ne0 rfl rfl (fun b5x => ?_) (fun b5x => ?_)
  · have q6x : (nI ((b >>> w) % 2)).toInt ≠ 0 := fun q => b5x (Int32.toInt_inj.mp q)
    refine wq_gos (f := 1) (pc2 := 115) (ls2 := [(6, .ref (102 + 6 * w)), (5, .int (nI w)), (0, .ref 74), (1, .int no), (2, .int tm), (3, .int (nI b)), (4, .int (nI i))]) (st2 := [.int no]) (h2 := h) (dc2 := dc) (ds2 := ds) 1 rfl ?_
    refine wq_ne0 rfl rfl (fun b7x => ?_) (fun b7x => ?_)
    · have q8x : no.toInt ≠ 0 := fun q => b7x (Int32.toInt_inj.mp q)
      refine wq_gos (f := 1) (pc2 := 133) (ls2 := [(1, .int 1), (6, .ref (102 + 6 * w)), (5, .int (nI w)), (0, .ref 74), (2, .int tm), (3, .int (nI b)), (4, .int (nI i))]) (st2 := [.int tm]) (h2 := h) (dc2 := dc) (ds2 := ds) 4 rfl ?_
      refine wq_ne0 rfl rfl (fun b9x => ?_) (fun b9x => ?_)
      · have q10x : tm.toInt ≠ 0 := fun q => b9x (Int32.toInt_inj.mp q)
        refine wq_gos (f := 1) (pc2 := 151) (ls2 := [(2, .int 1), (1, .int 1), (6, .ref (102 + 6 * w)), (5, .int (nI w)), (0, .ref 74), (3, .int (nI b)), (4, .int (nI i))]) (st2 := [.ref 74]) (h2 := h) (dc2 := dc) (ds2 := ds) 4 rfl ?_
        refine wq_getf rfl hPl rfl rfl ?_
        refine wq_gos (f := 1) (pc2 := 157) (ls2 := [(2, .int 1), (1, .int 1), (6, .ref (102 + 6 * w)), (5, .int (nI w)), (0, .ref 74), (3, .int (nI b)), (4, .int (nI i))]) (st2 := [.ref 74, .int (nI i), .ref 96]) (h2 := h) (dc2 := dc) (ds2 := ds) 2 rfl ?_
        refine wq_getf rfl hPl rfl rfl ?_
        refine wq_iastn rfl hF (by first | omega | exact zin_t (by omega) (by omega)) (by decide) rfl ?_
        intro h11x e12x f13x l14x
        have e12x : zat h11x 96 = some (.inl (0, 10, (zset 0 fi i (nI al)))) := e12x
        refine wq_gos (f := 1) (pc2 := 163) (ls2 := [(2, .int 1), (1, .int 1), (6, .ref (102 + 6 * w)), (5, .int (nI w)), (0, .ref 74), (3, .int (nI b)), (4, .int (nI i))]) (st2 := [.ref 74, .ref 74]) (h2 := h11x) (dc2 := dc) (ds2 := ds) 2 rfl ?_
        have e15x := (f13x.2 _ _ (wnc (by decide) wn0) hPl)
        refine wq_getf rfl e15x rfl rfl ?_
        refine wq_gos (f := 1) (pc2 := 168) (ls2 := [(2, .int 1), (1, .int 1), (6, .ref (102 + 6 * w)), (5, .int (nI w)), (0, .ref 74), (3, .int (nI b)), (4, .int (nI i))]) (st2 := [.ref (102 + 6 * w), .int (nI al), .ref 74]) (h2 := h11x) (dc2 := dc) (ds2 := ds) 1 rfl ?_
        have e16x := (f13x.2 _ _ (wnc (by omega) wn0) hH)
        refine wq_getf rfl e16x rfl rfl ?_
        refine wq_gos (f := 1) (pc2 := 174) (ls2 := [(2, .int 1), (1, .int 1), (6, .ref (102 + 6 * w)), (5, .int (nI w)), (0, .ref 74), (3, .int (nI b)), (4, .int (nI i))]) (st2 := [.int 600, .int (nI to), .int (nI al), .ref 74]) (h2 := h11x) (dc2 := dc) (ds2 := ds) 1 rfl ?_
        refine wq_inl (y2 := 285) (as := [.int (nI to), .int 600]) rfl rfl rfl (wq_T (c_min (nI to) (600 : Int32) h11x) ?_)
        show wq 28 177 [(2, .int 1), (1, .int 1), (6, .ref (102 + 6 * w)), (5, .int (nI w)), (0, .ref 74), (3, .int (nI b)), (4, .int (nI i))] [.int (jmin (nI to) (600 : Int32)), .int (nI al), .ref 74] h11x dc ds _
        refine wq_vi (show (jmin (nI to) (600 : Int32)) = nI (min to 600) from jmin_n (a := to) (b := 600) (by omega) (by omega)) ?_
        refine wq_gos (f := 1) (pc2 := 178) (ls2 := [(2, .int 1), (1, .int 1), (6, .ref (102 + 6 * w)), (5, .int (nI w)), (0, .ref 74), (3, .int (nI b)), (4, .int (nI i))]) (st2 := [.int ((nI al) + (nI (min to 600))), .ref 74]) (h2 := h11x) (dc2 := dc) (ds2 := ds) 1 rfl ?_
        refine wq_vi (show (nI al) + (nI (min to 600)) = nI (al + (min to 600)) from nI_add al (min to 600)) ?_
        refine wq_putf rfl e15x rfl rfl rfl ?_
        intro h17x e18x f19x l20x
        have e18x : zat h17x 74 = some (.inr (.inr (.inr (3, [.ref 44, .ref ra, .ref 76, .ref 78, .ref 80, .ref 88, .int wg, .int ob, .ref 96, .int (nI (al + (min to 600))), .int pr9, .int sr9, .ref rp, .ref rs, .int fw])))) := e18x
        refine wq_gos (f := 1) (pc2 := 184) (ls2 := [(4, .int ((nI i) + 1)), (2, .int 1), (1, .int 1), (6, .ref (102 + 6 * w)), (5, .int (nI w)), (0, .ref 74), (3, .int (nI b))]) (st2 := []) (h2 := h17x) (dc2 := dc) (ds2 := ds) 1 rfl ?_
        rw [nI_1]
        refine wq_gos (f := 1) (pc2 := 27) (ls2 := [(4, .int (nI (i + 1))), (2, .int 1), (1, .int 1), (6, .ref (102 + 6 * w)), (5, .int (nI w)), (0, .ref 74), (3, .int (nI b))]) (st2 := []) (h2 := h17x) (dc2 := dc) (ds2 := ds) 1 rfl ?_
        have e21x := (f19x.2 _ _ (wnc (by decide) wn0) e12x)
        refine wq_ls [(0, .ref 74), (1, .int 1), (2, .int 1), (3, .int (nI b)), (4, .int (nI (i + 1)))] (show ([0, 1, 2, 3, 4] : List Nat).Nodup by decide) ⟨rfl, rfl, rfl, rfl, rfl, trivial⟩ ?_
        exact kA h17x (1 : Int32) (1 : Int32) (wFr_tr (wFr_sub f13x (by simp)) (wFr_sub f19x (by simp))) (by omega) e18x e21x (by first | omega | assumption | decide | solve_by_elim) (by first | omega | assumption | decide | solve_by_elim) (by first | omega | assumption | decide | solve_by_elim)
      · have q22x : tm.toInt = 0 := congrArg Int32.toInt b9x
        refine wq_gos (f := 1) (pc2 := 138) (ls2 := [(1, .int 1), (6, .ref (102 + 6 * w)), (5, .int (nI w)), (0, .ref 74), (2, .int tm), (3, .int (nI b)), (4, .int (nI i))]) (st2 := [.ref (102 + 6 * w)]) (h2 := h) (dc2 := dc) (ds2 := ds) 1 rfl ?_
        refine wq_inlv (y2 := 16) (as := []) rfl rfl rfl hH rfl ?_
        show wq 16 0 [(0, .ref (102 + 6 * w))] [] h 0 0 _
        refine wq_gos (f := 1) (pc2 := 1) (ls2 := [(0, .ref (102 + 6 * w))]) (st2 := [.ref (102 + 6 * w)]) (h2 := h) (dc2 := 0) (ds2 := 0) 1 rfl ?_
        refine wq_getf rfl hH rfl rfl ?_
        refine wq_gos (f := 1) (pc2 := 7) (ls2 := [(0, .ref (102 + 6 * w))]) (st2 := [.int 600, .int (nI to)]) (h2 := h) (dc2 := 0) (ds2 := 0) 1 rfl ?_
        try have q23x := nI_toInt (n := to) (by omega)
        have q24x : (600 : Int32).toInt = 600 := rfl
        refine wq_le2 rfl rfl (fun b25x => ?_) (fun b25x => ?_)
        · refine wq_gos (f := 1) (pc2 := 15) (ls2 := [(0, .ref (102 + 6 * w))]) (st2 := [.int 0]) (h2 := h) (dc2 := 0) (ds2 := 0) 1 rfl ?_
          refine wq_ret rfl rfl ?_
          show wq 28 141 [(1, .int 1), (6, .ref (102 + 6 * w)), (5, .int (nI w)), (0, .ref 74), (2, .int tm), (3, .int (nI b)), (4, .int (nI i))] [.int 0] h dc ds _
          refine wq_gos (f := 1) (pc2 := 151) (ls2 := [(2, .int 0), (1, .int 1), (6, .ref (102 + 6 * w)), (5, .int (nI w)), (0, .ref 74), (3, .int (nI b)), (4, .int (nI i))]) (st2 := [.ref 74]) (h2 := h) (dc2 := dc) (ds2 := ds) 4 rfl ?_
          refine wq_getf rfl hPl rfl rfl ?_
          refine wq_gos (f := 1) (pc2 := 157) (ls2 := [(2, .int 0), (1, .int 1), (6, .ref (102 + 6 * w)), (5, .int (nI w)), (0, .ref 74), (3, .int (nI b)), (4, .int (nI i))]) (st2 := [.ref 74, .int (nI i), .ref 96]) (h2 := h) (dc2 := dc) (ds2 := ds) 2 rfl ?_
          refine wq_getf rfl hPl rfl rfl ?_
          refine wq_iastn rfl hF (by first | omega | exact zin_t (by omega) (by omega)) (by decide) rfl ?_
          intro h26x e27x f28x l29x
          have e27x : zat h26x 96 = some (.inl (0, 10, (zset 0 fi i (nI al)))) := e27x
          refine wq_gos (f := 1) (pc2 := 163) (ls2 := [(2, .int 0), (1, .int 1), (6, .ref (102 + 6 * w)), (5, .int (nI w)), (0, .ref 74), (3, .int (nI b)), (4, .int (nI i))]) (st2 := [.ref 74, .ref 74]) (h2 := h26x) (dc2 := dc) (ds2 := ds) 2 rfl ?_
          have e30x := (f28x.2 _ _ (wnc (by decide) wn0) hPl)
          refine wq_getf rfl e30x rfl rfl ?_
          refine wq_gos (f := 1) (pc2 := 168) (ls2 := [(2, .int 0), (1, .int 1), (6, .ref (102 + 6 * w)), (5, .int (nI w)), (0, .ref 74), (3, .int (nI b)), (4, .int (nI i))]) (st2 := [.ref (102 + 6 * w), .int (nI al), .ref 74]) (h2 := h26x) (dc2 := dc) (ds2 := ds) 1 rfl ?_
          have e31x := (f28x.2 _ _ (wnc (by omega) wn0) hH)
          refine wq_getf rfl e31x rfl rfl ?_
          refine wq_gos (f := 1) (pc2 := 174) (ls2 := [(2, .int 0), (1, .int 1), (6, .ref (102 + 6 * w)), (5, .int (nI w)), (0, .ref 74), (3, .int (nI b)), (4, .int (nI i))]) (st2 := [.int 600, .int (nI to), .int (nI al), .ref 74]) (h2 := h26x) (dc2 := dc) (ds2 := ds) 1 rfl ?_
          refine wq_inl (y2 := 285) (as := [.int (nI to), .int 600]) rfl rfl rfl (wq_T (c_min (nI to) (600 : Int32) h26x) ?_)
          show wq 28 177 [(2, .int 0), (1, .int 1), (6, .ref (102 + 6 * w)), (5, .int (nI w)), (0, .ref 74), (3, .int (nI b)), (4, .int (nI i))] [.int (jmin (nI to) (600 : Int32)), .int (nI al), .ref 74] h26x dc ds _
          refine wq_vi (show (jmin (nI to) (600 : Int32)) = nI (min to 600) from jmin_n (a := to) (b := 600) (by omega) (by omega)) ?_
          refine wq_gos (f := 1) (pc2 := 178) (ls2 := [(2, .int 0), (1, .int 1), (6, .ref (102 + 6 * w)), (5, .int (nI w)), (0, .ref 74), (3, .int (nI b)), (4, .int (nI i))]) (st2 := [.int ((nI al) + (nI (min to 600))), .ref 74]) (h2 := h26x) (dc2 := dc) (ds2 := ds) 1 rfl ?_
          refine wq_vi (show (nI al) + (nI (min to 600)) = nI (al + (min to 600)) from nI_add al (min to 600)) ?_
          refine wq_putf rfl e30x rfl rfl rfl ?_
          intro h32x e33x f34x l35x
          have e33x : zat h32x 74 = some (.inr (.inr (.inr (3, [.ref 44, .ref ra, .ref 76, .ref 78, .ref 80, .ref 88, .int wg, .int ob, .ref 96, .int (nI (al + (min to 600))), .int pr9, .int sr9, .ref rp, .ref rs, .int fw])))) := e33x
          refine wq_gos (f := 1) (pc2 := 184) (ls2 := [(4, .int ((nI i) + 1)), (2, .int 0), (1, .int 1), (6, .ref (102 + 6 * w)), (5, .int (nI w)), (0, .ref 74), (3, .int (nI b))]) (st2 := []) (h2 := h32x) (dc2 := dc) (ds2 := ds) 1 rfl ?_
          rw [nI_1]
          refine wq_gos (f := 1) (pc2 := 27) (ls2 := [(4, .int (nI (i + 1))), (2, .int 0), (1, .int 1), (6, .ref (102 + 6 * w)), (5, .int (nI w)), (0, .ref 74), (3, .int (nI b))]) (st2 := []) (h2 := h32x) (dc2 := dc) (ds2 := ds) 1 rfl ?_
          have e36x := (f34x.2 _ _ (wnc (by decide) wn0) e27x)
          refine wq_ls [(0, .ref 74), (1, .int 1), (2, .int 0), (3, .int (nI b)), (4, .int (nI (i + 1)))] (show ([0, 1, 2, 3, 4] : List Nat).Nodup by decide) ⟨rfl, rfl, rfl, rfl, rfl, trivial⟩ ?_
          exact kA h32x (1 : Int32) (0 : Int32) (wFr_tr (wFr_sub f28x (by simp)) (wFr_sub f34x (by simp))) (by omega) e33x e36x (by first | omega | assumption | decide | solve_by_elim) (by first | omega | assumption | decide | solve_by_elim) (by first | omega | assumption | decide | solve_by_elim)
        · refine wq_gos (f := 1) (pc2 := 15) (ls2 := [(0, .ref (102 + 6 * w))]) (st2 := [.int 1]) (h2 := h) (dc2 := 0) (ds2 := 0) 2 rfl ?_
          refine wq_ret rfl rfl ?_
          show wq 28 141 [(1, .int 1), (6, .ref (102 + 6 * w)), (5, .int (nI w)), (0, .ref 74), (2, .int tm), (3, .int (nI b)), (4, .int (nI i))] [.int 1] h dc ds _
          refine wq_gos (f := 1) (pc2 := 151) (ls2 := [(2, .int 1), (1, .int 1), (6, .ref (102 + 6 * w)), (5, .int (nI w)), (0, .ref 74), (3, .int (nI b)), (4, .int (nI i))]) (st2 := [.ref 74]) (h2 := h) (dc2 := dc) (ds2 := ds) 5 rfl ?_
          refine wq_getf rfl hPl rfl rfl ?_
          refine wq_gos (f := 1) (pc2 := 157) (ls2 := [(2, .int 1), (1, .int 1), (6, .ref (102 + 6 * w)), (5, .int (nI w)), (0, .ref 74), (3, .int (nI b)), (4, .int (nI i))]) (st2 := [.ref 74, .int (nI i), .ref 96]) (h2 := h) (dc2 := dc) (ds2 := ds) 2 rfl ?_
          refine wq_getf rfl hPl rfl rfl ?_
          refine wq_iastn rfl hF (by first | omega | exact zin_t (by omega) (by omega)) (by decide) rfl ?_
          intro h37x e38x f39x l40x
          have e38x : zat h37x 96 = some (.inl (0, 10, (zset 0 fi i (nI al)))) := e38x
          refine wq_gos (f := 1) (pc2 := 163) (ls2 := [(2, .int 1), (1, .int 1), (6, .ref (102 + 6 * w)), (5, .int (nI w)), (0, .ref 74), (3, .int (nI b)), (4, .int (nI i))]) (st2 := [.ref 74, .ref 74]) (h2 := h37x) (dc2 := dc) (ds2 := ds) 2 rfl ?_
          have e41x := (f39x.2 _ _ (wnc (by decide) wn0) hPl)
          refine wq_getf rfl e41x rfl rfl ?_
          refine wq_gos (f := 1) (pc2 := 168) (ls2 := [(2, .int 1), (1, .int 1), (6, .ref (102 + 6 * w)), (5, .int (nI w)), (0, .ref 74), (3, .int (nI b)), (4, .int (nI i))]) (st2 := [.ref (102 + 6 * w), .int (nI al), .ref 74]) (h2 := h37x) (dc2 := dc) (ds2 := ds) 1 rfl ?_
          have e42x := (f39x.2 _ _ (wnc (by omega) wn0) hH)
          refine wq_getf rfl e42x rfl rfl ?_
          refine wq_gos (f := 1) (pc2 := 174) (ls2 := [(2, .int 1), (1, .int 1), (6, .ref (102 + 6 * w)), (5, .int (nI w)), (0, .ref 74), (3, .int (nI b)), (4, .int (nI i))]) (st2 := [.int 600, .int (nI to), .int (nI al), .ref 74]) (h2 := h37x) (dc2 := dc) (ds2 := ds) 1 rfl ?_
          refine wq_inl (y2 := 285) (as := [.int (nI to), .int 600]) rfl rfl rfl (wq_T (c_min (nI to) (600 : Int32) h37x) ?_)
          show wq 28 177 [(2, .int 1), (1, .int 1), (6, .ref (102 + 6 * w)), (5, .int (nI w)), (0, .ref 74), (3, .int (nI b)), (4, .int (nI i))] [.int (jmin (nI to) (600 : Int32)), .int (nI al), .ref 74] h37x dc ds _
          refine wq_vi (show (jmin (nI to) (600 : Int32)) = nI (min to 600) from jmin_n (a := to) (b := 600) (by omega) (by omega)) ?_
          refine wq_gos (f := 1) (pc2 := 178) (ls2 := [(2, .int 1), (1, .int 1), (6, .ref (102 + 6 * w)), (5, .int (nI w)), (0, .ref 74), (3, .int (nI b)), (4, .int (nI i))]) (st2 := [.int ((nI al) + (nI (min to 600))), .ref 74]) (h2 := h37x) (dc2 := dc) (ds2 := ds) 1 rfl ?_
          refine wq_vi (show (nI al) + (nI (min to 600)) = nI (al + (min to 600)) from nI_add al (min to 600)) ?_
          refine wq_putf rfl e41x rfl rfl rfl ?_
          intro h43x e44x f45x l46x
          have e44x : zat h43x 74 = some (.inr (.inr (.inr (3, [.ref 44, .ref ra, .ref 76, .ref 78, .ref 80, .ref 88, .int wg, .int ob, .ref 96, .int (nI (al + (min to 600))), .int pr9, .int sr9, .ref rp, .ref rs, .int fw])))) := e44x
          refine wq_gos (f := 1) (pc2 := 184) (ls2 := [(4, .int ((nI i) + 1)), (2, .int 1), (1, .int 1), (6, .ref (102 + 6 * w)), (5, .int (nI w)), (0, .ref 74), (3, .int (nI b))]) (st2 := []) (h2 := h43x) (dc2 := dc) (ds2 := ds) 1 rfl ?_
          rw [nI_1]
          refine wq_gos (f := 1) (pc2 := 27) (ls2 := [(4, .int (nI (i + 1))), (2, .int 1), (1, .int 1), (6, .ref (102 + 6 * w)), (5, .int (nI w)), (0, .ref 74), (3, .int (nI b))]) (st2 := []) (h2 := h43x) (dc2 := dc) (ds2 := ds) 1 rfl ?_
          have e47x := (f45x.2 _ _ (wnc (by decide) wn0) e38x)
          refine wq_ls [(0, .ref 74), (1, .int 1), (2, .int 1), (3, .int (nI b)), (4, .int (nI (i + 1)))] (show ([0, 1, 2, 3, 4] : List Nat).Nodup by decide) ⟨rfl, rfl, rfl, rfl, rfl, trivial⟩ ?_
          exact kA h43x (1 : Int32) (1 : Int32) (wFr_tr (wFr_sub f39x (by simp)) (wFr_sub f45x (by simp))) (by omega) e44x e47x (by first | omega | assumption | decide | solve_by_elim) (by first | omega | assumption | decide | solve_by_elim) (by first | omega | assumption | decide | solve_by_elim)
    · have q48x : no.toInt = 0 := congrArg Int32.toInt b7x
      refine wq_gos (f := 1) (pc2 := 120) (ls2 := [(6, .ref (102 + 6 * w)), (5, .int (nI w)), (0, .ref 74), (1, .int no), (2, .int tm), (3, .int (nI b)), (4, .int (nI i))]) (st2 := [.ref (102 + 6 * w)]) (h2 := h) (dc2 := dc) (ds2 := ds) 1 rfl ?_
      refine wq_getf rfl hH rfl rfl ?_
      try have q49x := nI_toInt (n := to) (by omega)
      refine wq_ne0 rfl rfl (fun b50x => ?_) (fun b50x => ?_)
      · have q51x : (nI to).toInt ≠ 0 := fun q => b50x (Int32.toInt_inj.mp q)
        refine wq_gos (f := 1) (pc2 := 133) (ls2 := [(1, .int 0), (6, .ref (102 + 6 * w)), (5, .int (nI w)), (0, .ref 74), (2, .int tm), (3, .int (nI b)), (4, .int (nI i))]) (st2 := [.int tm]) (h2 := h) (dc2 := dc) (ds2 := ds) 3 rfl ?_
        refine wq_ne0 rfl rfl (fun b52x => ?_) (fun b52x => ?_)
        · have q53x : tm.toInt ≠ 0 := fun q => b52x (Int32.toInt_inj.mp q)
          refine wq_gos (f := 1) (pc2 := 151) (ls2 := [(2, .int 1), (1, .int 0), (6, .ref (102 + 6 * w)), (5, .int (nI w)), (0, .ref 74), (3, .int (nI b)), (4, .int (nI i))]) (st2 := [.ref 74]) (h2 := h) (dc2 := dc) (ds2 := ds) 4 rfl ?_
          refine wq_getf rfl hPl rfl rfl ?_
          refine wq_gos (f := 1) (pc2 := 157) (ls2 := [(2, .int 1), (1, .int 0), (6, .ref (102 + 6 * w)), (5, .int (nI w)), (0, .ref 74), (3, .int (nI b)), (4, .int (nI i))]) (st2 := [.ref 74, .int (nI i), .ref 96]) (h2 := h) (dc2 := dc) (ds2 := ds) 2 rfl ?_
          refine wq_getf rfl hPl rfl rfl ?_
          refine wq_iastn rfl hF (by first | omega | exact zin_t (by omega) (by omega)) (by decide) rfl ?_
          intro h54x e55x f56x l57x
          have e55x : zat h54x 96 = some (.inl (0, 10, (zset 0 fi i (nI al)))) := e55x
          refine wq_gos (f := 1) (pc2 := 163) (ls2 := [(2, .int 1), (1, .int 0), (6, .ref (102 + 6 * w)), (5, .int (nI w)), (0, .ref 74), (3, .int (nI b)), (4, .int (nI i))]) (st2 := [.ref 74, .ref 74]) (h2 := h54x) (dc2 := dc) (ds2 := ds) 2 rfl ?_
          have e58x := (f56x.2 _ _ (wnc (by decide) wn0) hPl)
          refine wq_getf rfl e58x rfl rfl ?_
          refine wq_gos (f := 1) (pc2 := 168) (ls2 := [(2, .int 1), (1, .int 0), (6, .ref (102 + 6 * w)), (5, .int (nI w)), (0, .ref 74), (3, .int (nI b)), (4, .int (nI i))]) (st2 := [.ref (102 + 6 * w), .int (nI al), .ref 74]) (h2 := h54x) (dc2 := dc) (ds2 := ds) 1 rfl ?_
          have e59x := (f56x.2 _ _ (wnc (by omega) wn0) hH)
          refine wq_getf rfl e59x rfl rfl ?_
          refine wq_gos (f := 1) (pc2 := 174) (ls2 := [(2, .int 1), (1, .int 0), (6, .ref (102 + 6 * w)), (5, .int (nI w)), (0, .ref 74), (3, .int (nI b)), (4, .int (nI i))]) (st2 := [.int 600, .int (nI to), .int (nI al), .ref 74]) (h2 := h54x) (dc2 := dc) (ds2 := ds) 1 rfl ?_
          refine wq_inl (y2 := 285) (as := [.int (nI to), .int 600]) rfl rfl rfl (wq_T (c_min (nI to) (600 : Int32) h54x) ?_)
          show wq 28 177 [(2, .int 1), (1, .int 0), (6, .ref (102 + 6 * w)), (5, .int (nI w)), (0, .ref 74), (3, .int (nI b)), (4, .int (nI i))] [.int (jmin (nI to) (600 : Int32)), .int (nI al), .ref 74] h54x dc ds _
          refine wq_vi (show (jmin (nI to) (600 : Int32)) = nI (min to 600) from jmin_n (a := to) (b := 600) (by omega) (by omega)) ?_
          refine wq_gos (f := 1) (pc2 := 178) (ls2 := [(2, .int 1), (1, .int 0), (6, .ref (102 + 6 * w)), (5, .int (nI w)), (0, .ref 74), (3, .int (nI b)), (4, .int (nI i))]) (st2 := [.int ((nI al) + (nI (min to 600))), .ref 74]) (h2 := h54x) (dc2 := dc) (ds2 := ds) 1 rfl ?_
          refine wq_vi (show (nI al) + (nI (min to 600)) = nI (al + (min to 600)) from nI_add al (min to 600)) ?_
          refine wq_putf rfl e58x rfl rfl rfl ?_
          intro h60x e61x f62x l63x
          have e61x : zat h60x 74 = some (.inr (.inr (.inr (3, [.ref 44, .ref ra, .ref 76, .ref 78, .ref 80, .ref 88, .int wg, .int ob, .ref 96, .int (nI (al + (min to 600))), .int pr9, .int sr9, .ref rp, .ref rs, .int fw])))) := e61x
          refine wq_gos (f := 1) (pc2 := 184) (ls2 := [(4, .int ((nI i) + 1)), (2, .int 1), (1, .int 0), (6, .ref (102 + 6 * w)), (5, .int (nI w)), (0, .ref 74), (3, .int (nI b))]) (st2 := []) (h2 := h60x) (dc2 := dc) (ds2 := ds) 1 rfl ?_
          rw [nI_1]
          refine wq_gos (f := 1) (pc2 := 27) (ls2 := [(4, .int (nI (i + 1))), (2, .int 1), (1, .int 0), (6, .ref (102 + 6 * w)), (5, .int (nI w)), (0, .ref 74), (3, .int (nI b))]) (st2 := []) (h2 := h60x) (dc2 := dc) (ds2 := ds) 1 rfl ?_
          have e64x := (f62x.2 _ _ (wnc (by decide) wn0) e55x)
          refine wq_ls [(0, .ref 74), (1, .int 0), (2, .int 1), (3, .int (nI b)), (4, .int (nI (i + 1)))] (show ([0, 1, 2, 3, 4] : List Nat).Nodup by decide) ⟨rfl, rfl, rfl, rfl, rfl, trivial⟩ ?_
          exact kA h60x (0 : Int32) (1 : Int32) (wFr_tr (wFr_sub f56x (by simp)) (wFr_sub f62x (by simp))) (by omega) e61x e64x (by first | omega | assumption | decide | solve_by_elim) (by first | omega | assumption | decide | solve_by_elim) (by first | omega | assumption | decide | solve_by_elim)
        · have q65x : tm.toInt = 0 := congrArg Int32.toInt b52x
          refine wq_gos (f := 1) (pc2 := 138) (ls2 := [(1, .int 0), (6, .ref (102 + 6 * w)), (5, .int (nI w)), (0, .ref 74), (2, .int tm), (3, .int (nI b)), (4, .int (nI i))]) (st2 := [.ref (102 + 6 * w)]) (h2 := h) (dc2 := dc) (ds2 := ds) 1 rfl ?_
          refine wq_inlv (y2 := 16) (as := []) rfl rfl rfl hH rfl ?_
          show wq 16 0 [(0, .ref (102 + 6 * w))] [] h 0 0 _
          refine wq_gos (f := 1) (pc2 := 1) (ls2 := [(0, .ref (102 + 6 * w))]) (st2 := [.ref (102 + 6 * w)]) (h2 := h) (dc2 := 0) (ds2 := 0) 1 rfl ?_
          refine wq_getf rfl hH rfl rfl ?_
          refine wq_gos (f := 1) (pc2 := 7) (ls2 := [(0, .ref (102 + 6 * w))]) (st2 := [.int 600, .int (nI to)]) (h2 := h) (dc2 := 0) (ds2 := 0) 1 rfl ?_
          have q66x : (600 : Int32).toInt = 600 := rfl
          refine wq_le2 rfl rfl (fun b67x => ?_) (fun b67x => ?_)
          · refine wq_gos (f := 1) (pc2 := 15) (ls2 := [(0, .ref (102 + 6 * w))]) (st2 := [.int 0]) (h2 := h) (dc2 := 0) (ds2 := 0) 1 rfl ?_
            refine wq_ret rfl rfl ?_
            show wq 28 141 [(1, .int 0), (6, .ref (102 + 6 * w)), (5, .int (nI w)), (0, .ref 74), (2, .int tm), (3, .int (nI b)), (4, .int (nI i))] [.int 0] h dc ds _
            refine wq_gos (f := 1) (pc2 := 151) (ls2 := [(2, .int 0), (1, .int 0), (6, .ref (102 + 6 * w)), (5, .int (nI w)), (0, .ref 74), (3, .int (nI b)), (4, .int (nI i))]) (st2 := [.ref 74]) (h2 := h) (dc2 := dc) (ds2 := ds) 4 rfl ?_
            refine wq_getf rfl hPl rfl rfl ?_
            refine wq_gos (f := 1) (pc2 := 157) (ls2 := [(2, .int 0), (1, .int 0), (6, .ref (102 + 6 * w)), (5, .int (nI w)), (0, .ref 74), (3, .int (nI b)), (4, .int (nI i))]) (st2 := [.ref 74, .int (nI i), .ref 96]) (h2 := h) (dc2 := dc) (ds2 := ds) 2 rfl ?_
            refine wq_getf rfl hPl rfl rfl ?_
            refine wq_iastn rfl hF (by first | omega | exact zin_t (by omega) (by omega)) (by decide) rfl ?_
            intro h68x e69x f70x l71x
            have e69x : zat h68x 96 = some (.inl (0, 10, (zset 0 fi i (nI al)))) := e69x
            refine wq_gos (f := 1) (pc2 := 163) (ls2 := [(2, .int 0), (1, .int 0), (6, .ref (102 + 6 * w)), (5, .int (nI w)), (0, .ref 74), (3, .int (nI b)), (4, .int (nI i))]) (st2 := [.ref 74, .ref 74]) (h2 := h68x) (dc2 := dc) (ds2 := ds) 2 rfl ?_
            have e72x := (f70x.2 _ _ (wnc (by decide) wn0) hPl)
            refine wq_getf rfl e72x rfl rfl ?_
            refine wq_gos (f := 1) (pc2 := 168) (ls2 := [(2, .int 0), (1, .int 0), (6, .ref (102 + 6 * w)), (5, .int (nI w)), (0, .ref 74), (3, .int (nI b)), (4, .int (nI i))]) (st2 := [.ref (102 + 6 * w), .int (nI al), .ref 74]) (h2 := h68x) (dc2 := dc) (ds2 := ds) 1 rfl ?_
            have e73x := (f70x.2 _ _ (wnc (by omega) wn0) hH)
            refine wq_getf rfl e73x rfl rfl ?_
            refine wq_gos (f := 1) (pc2 := 174) (ls2 := [(2, .int 0), (1, .int 0), (6, .ref (102 + 6 * w)), (5, .int (nI w)), (0, .ref 74), (3, .int (nI b)), (4, .int (nI i))]) (st2 := [.int 600, .int (nI to), .int (nI al), .ref 74]) (h2 := h68x) (dc2 := dc) (ds2 := ds) 1 rfl ?_
            refine wq_inl (y2 := 285) (as := [.int (nI to), .int 600]) rfl rfl rfl (wq_T (c_min (nI to) (600 : Int32) h68x) ?_)
            show wq 28 177 [(2, .int 0), (1, .int 0), (6, .ref (102 + 6 * w)), (5, .int (nI w)), (0, .ref 74), (3, .int (nI b)), (4, .int (nI i))] [.int (jmin (nI to) (600 : Int32)), .int (nI al), .ref 74] h68x dc ds _
            refine wq_vi (show (jmin (nI to) (600 : Int32)) = nI (min to 600) from jmin_n (a := to) (b := 600) (by omega) (by omega)) ?_
            refine wq_gos (f := 1) (pc2 := 178) (ls2 := [(2, .int 0), (1, .int 0), (6, .ref (102 + 6 * w)), (5, .int (nI w)), (0, .ref 74), (3, .int (nI b)), (4, .int (nI i))]) (st2 := [.int ((nI al) + (nI (min to 600))), .ref 74]) (h2 := h68x) (dc2 := dc) (ds2 := ds) 1 rfl ?_
            refine wq_vi (show (nI al) + (nI (min to 600)) = nI (al + (min to 600)) from nI_add al (min to 600)) ?_
            refine wq_putf rfl e72x rfl rfl rfl ?_
            intro h74x e75x f76x l77x
            have e75x : zat h74x 74 = some (.inr (.inr (.inr (3, [.ref 44, .ref ra, .ref 76, .ref 78, .ref 80, .ref 88, .int wg, .int ob, .ref 96, .int (nI (al + (min to 600))), .int pr9, .int sr9, .ref rp, .ref rs, .int fw])))) := e75x
            refine wq_gos (f := 1) (pc2 := 184) (ls2 := [(4, .int ((nI i) + 1)), (2, .int 0), (1, .int 0), (6, .ref (102 + 6 * w)), (5, .int (nI w)), (0, .ref 74), (3, .int (nI b))]) (st2 := []) (h2 := h74x) (dc2 := dc) (ds2 := ds) 1 rfl ?_
            rw [nI_1]
            refine wq_gos (f := 1) (pc2 := 27) (ls2 := [(4, .int (nI (i + 1))), (2, .int 0), (1, .int 0), (6, .ref (102 + 6 * w)), (5, .int (nI w)), (0, .ref 74), (3, .int (nI b))]) (st2 := []) (h2 := h74x) (dc2 := dc) (ds2 := ds) 1 rfl ?_
            have e78x := (f76x.2 _ _ (wnc (by decide) wn0) e69x)
            refine wq_ls [(0, .ref 74), (1, .int 0), (2, .int 0), (3, .int (nI b)), (4, .int (nI (i + 1)))] (show ([0, 1, 2, 3, 4] : List Nat).Nodup by decide) ⟨rfl, rfl, rfl, rfl, rfl, trivial⟩ ?_
            exact kA h74x (0 : Int32) (0 : Int32) (wFr_tr (wFr_sub f70x (by simp)) (wFr_sub f76x (by simp))) (by omega) e75x e78x (by first | omega | assumption | decide | solve_by_elim) (by first | omega | assumption | decide | solve_by_elim) (by first | omega | assumption | decide | solve_by_elim)
          · refine wq_gos (f := 1) (pc2 := 15) (ls2 := [(0, .ref (102 + 6 * w))]) (st2 := [.int 1]) (h2 := h) (dc2 := 0) (ds2 := 0) 2 rfl ?_
            refine wq_ret rfl rfl ?_
            show wq 28 141 [(1, .int 0), (6, .ref (102 + 6 * w)), (5, .int (nI w)), (0, .ref 74), (2, .int tm), (3, .int (nI b)), (4, .int (nI i))] [.int 1] h dc ds _
            refine wq_gos (f := 1) (pc2 := 151) (ls2 := [(2, .int 1), (1, .int 0), (6, .ref (102 + 6 * w)), (5, .int (nI w)), (0, .ref 74), (3, .int (nI b)), (4, .int (nI i))]) (st2 := [.ref 74]) (h2 := h) (dc2 := dc) (ds2 := ds) 5 rfl ?_
            refine wq_getf rfl hPl rfl rfl ?_
            refine wq_gos (f := 1) (pc2 := 157) (ls2 := [(2, .int 1), (1, .int 0), (6, .ref (102 + 6 * w)), (5, .int (nI w)), (0, .ref 74), (3, .int (nI b)), (4, .int (nI i))]) (st2 := [.ref 74, .int (nI i), .ref 96]) (h2 := h) (dc2 := dc) (ds2 := ds) 2 rfl ?_
            refine wq_getf rfl hPl rfl rfl ?_
            refine wq_iastn rfl hF (by first | omega | exact zin_t (by omega) (by omega)) (by decide) rfl ?_
            intro h79x e80x f81x l82x
            have e80x : zat h79x 96 = some (.inl (0, 10, (zset 0 fi i (nI al)))) := e80x
            refine wq_gos (f := 1) (pc2 := 163) (ls2 := [(2, .int 1), (1, .int 0), (6, .ref (102 + 6 * w)), (5, .int (nI w)), (0, .ref 74), (3, .int (nI b)), (4, .int (nI i))]) (st2 := [.ref 74, .ref 74]) (h2 := h79x) (dc2 := dc) (ds2 := ds) 2 rfl ?_
            have e83x := (f81x.2 _ _ (wnc (by decide) wn0) hPl)
            refine wq_getf rfl e83x rfl rfl ?_
            refine wq_gos (f := 1) (pc2 := 168) (ls2 := [(2, .int 1), (1, .int 0), (6, .ref (102 + 6 * w)), (5, .int (nI w)), (0, .ref 74), (3, .int (nI b)), (4, .int (nI i))]) (st2 := [.ref (102 + 6 * w), .int (nI al), .ref 74]) (h2 := h79x) (dc2 := dc) (ds2 := ds) 1 rfl ?_
            have e84x := (f81x.2 _ _ (wnc (by omega) wn0) hH)
            refine wq_getf rfl e84x rfl rfl ?_
            refine wq_gos (f := 1) (pc2 := 174) (ls2 := [(2, .int 1), (1, .int 0), (6, .ref (102 + 6 * w)), (5, .int (nI w)), (0, .ref 74), (3, .int (nI b)), (4, .int (nI i))]) (st2 := [.int 600, .int (nI to), .int (nI al), .ref 74]) (h2 := h79x) (dc2 := dc) (ds2 := ds) 1 rfl ?_
            refine wq_inl (y2 := 285) (as := [.int (nI to), .int 600]) rfl rfl rfl (wq_T (c_min (nI to) (600 : Int32) h79x) ?_)
            show wq 28 177 [(2, .int 1), (1, .int 0), (6, .ref (102 + 6 * w)), (5, .int (nI w)), (0, .ref 74), (3, .int (nI b)), (4, .int (nI i))] [.int (jmin (nI to) (600 : Int32)), .int (nI al), .ref 74] h79x dc ds _
            refine wq_vi (show (jmin (nI to) (600 : Int32)) = nI (min to 600) from jmin_n (a := to) (b := 600) (by omega) (by omega)) ?_
            refine wq_gos (f := 1) (pc2 := 178) (ls2 := [(2, .int 1), (1, .int 0), (6, .ref (102 + 6 * w)), (5, .int (nI w)), (0, .ref 74), (3, .int (nI b)), (4, .int (nI i))]) (st2 := [.int ((nI al) + (nI (min to 600))), .ref 74]) (h2 := h79x) (dc2 := dc) (ds2 := ds) 1 rfl ?_
            refine wq_vi (show (nI al) + (nI (min to 600)) = nI (al + (min to 600)) from nI_add al (min to 600)) ?_
            refine wq_putf rfl e83x rfl rfl rfl ?_
            intro h85x e86x f87x l88x
            have e86x : zat h85x 74 = some (.inr (.inr (.inr (3, [.ref 44, .ref ra, .ref 76, .ref 78, .ref 80, .ref 88, .int wg, .int ob, .ref 96, .int (nI (al + (min to 600))), .int pr9, .int sr9, .ref rp, .ref rs, .int fw])))) := e86x
            refine wq_gos (f := 1) (pc2 := 184) (ls2 := [(4, .int ((nI i) + 1)), (2, .int 1), (1, .int 0), (6, .ref (102 + 6 * w)), (5, .int (nI w)), (0, .ref 74), (3, .int (nI b))]) (st2 := []) (h2 := h85x) (dc2 := dc) (ds2 := ds) 1 rfl ?_
            rw [nI_1]
            refine wq_gos (f := 1) (pc2 := 27) (ls2 := [(4, .int (nI (i + 1))), (2, .int 1), (1, .int 0), (6, .ref (102 + 6 * w)), (5, .int (nI w)), (0, .ref 74), (3, .int (nI b))]) (st2 := []) (h2 := h85x) (dc2 := dc) (ds2 := ds) 1 rfl ?_
            have e89x := (f87x.2 _ _ (wnc (by decide) wn0) e80x)
            refine wq_ls [(0, .ref 74), (1, .int 0), (2, .int 1), (3, .int (nI b)), (4, .int (nI (i + 1)))] (show ([0, 1, 2, 3, 4] : List Nat).Nodup by decide) ⟨rfl, rfl, rfl, rfl, rfl, trivial⟩ ?_
            exact kA h85x (0 : Int32) (1 : Int32) (wFr_tr (wFr_sub f81x (by simp)) (wFr_sub f87x (by simp))) (by omega) e86x e89x (by first | omega | assumption | decide | solve_by_elim) (by first | omega | assumption | decide | solve_by_elim) (by first | omega | assumption | decide | solve_by_elim)
      · have q90x : (nI to).toInt = 0 := congrArg Int32.toInt b50x
        refine wq_gos (f := 1) (pc2 := 133) (ls2 := [(1, .int 1), (6, .ref (102 + 6 * w)), (5, .int (nI w)), (0, .ref 74), (2, .int tm), (3, .int (nI b)), (4, .int (nI i))]) (st2 := [.int tm]) (h2 := h) (dc2 := dc) (ds2 := ds) 4 rfl ?_
        refine wq_ne0 rfl rfl (fun b91x => ?_) (fun b91x => ?_)
        · have q92x : tm.toInt ≠ 0 := fun q => b91x (Int32.toInt_inj.mp q)
          refine wq_gos (f := 1) (pc2 := 151) (ls2 := [(2, .int 1), (1, .int 1), (6, .ref (102 + 6 * w)), (5, .int (nI w)), (0, .ref 74), (3, .int (nI b)), (4, .int (nI i))]) (st2 := [.ref 74]) (h2 := h) (dc2 := dc) (ds2 := ds) 4 rfl ?_
          refine wq_getf rfl hPl rfl rfl ?_
          refine wq_gos (f := 1) (pc2 := 157) (ls2 := [(2, .int 1), (1, .int 1), (6, .ref (102 + 6 * w)), (5, .int (nI w)), (0, .ref 74), (3, .int (nI b)), (4, .int (nI i))]) (st2 := [.ref 74, .int (nI i), .ref 96]) (h2 := h) (dc2 := dc) (ds2 := ds) 2 rfl ?_
          refine wq_getf rfl hPl rfl rfl ?_
          refine wq_iastn rfl hF (by first | omega | exact zin_t (by omega) (by omega)) (by decide) rfl ?_
          intro h93x e94x f95x l96x
          have e94x : zat h93x 96 = some (.inl (0, 10, (zset 0 fi i (nI al)))) := e94x
          refine wq_gos (f := 1) (pc2 := 163) (ls2 := [(2, .int 1), (1, .int 1), (6, .ref (102 + 6 * w)), (5, .int (nI w)), (0, .ref 74), (3, .int (nI b)), (4, .int (nI i))]) (st2 := [.ref 74, .ref 74]) (h2 := h93x) (dc2 := dc) (ds2 := ds) 2 rfl ?_
          have e97x := (f95x.2 _ _ (wnc (by decide) wn0) hPl)
          refine wq_getf rfl e97x rfl rfl ?_
          refine wq_gos (f := 1) (pc2 := 168) (ls2 := [(2, .int 1), (1, .int 1), (6, .ref (102 + 6 * w)), (5, .int (nI w)), (0, .ref 74), (3, .int (nI b)), (4, .int (nI i))]) (st2 := [.ref (102 + 6 * w), .int (nI al), .ref 74]) (h2 := h93x) (dc2 := dc) (ds2 := ds) 1 rfl ?_
          have e98x := (f95x.2 _ _ (wnc (by omega) wn0) hH)
          refine wq_getf rfl e98x rfl rfl ?_
          refine wq_gos (f := 1) (pc2 := 174) (ls2 := [(2, .int 1), (1, .int 1), (6, .ref (102 + 6 * w)), (5, .int (nI w)), (0, .ref 74), (3, .int (nI b)), (4, .int (nI i))]) (st2 := [.int 600, .int (nI to), .int (nI al), .ref 74]) (h2 := h93x) (dc2 := dc) (ds2 := ds) 1 rfl ?_
          refine wq_inl (y2 := 285) (as := [.int (nI to), .int 600]) rfl rfl rfl (wq_T (c_min (nI to) (600 : Int32) h93x) ?_)
          show wq 28 177 [(2, .int 1), (1, .int 1), (6, .ref (102 + 6 * w)), (5, .int (nI w)), (0, .ref 74), (3, .int (nI b)), (4, .int (nI i))] [.int (jmin (nI to) (600 : Int32)), .int (nI al), .ref 74] h93x dc ds _
          refine wq_vi (show (jmin (nI to) (600 : Int32)) = nI (min to 600) from jmin_n (a := to) (b := 600) (by omega) (by omega)) ?_
          refine wq_gos (f := 1) (pc2 := 178) (ls2 := [(2, .int 1), (1, .int 1), (6, .ref (102 + 6 * w)), (5, .int (nI w)), (0, .ref 74), (3, .int (nI b)), (4, .int (nI i))]) (st2 := [.int ((nI al) + (nI (min to 600))), .ref 74]) (h2 := h93x) (dc2 := dc) (ds2 := ds) 1 rfl ?_
          refine wq_vi (show (nI al) + (nI (min to 600)) = nI (al + (min to 600)) from nI_add al (min to 600)) ?_
          refine wq_putf rfl e97x rfl rfl rfl ?_
          intro h99x e100x f101x l102x
          have e100x : zat h99x 74 = some (.inr (.inr (.inr (3, [.ref 44, .ref ra, .ref 76, .ref 78, .ref 80, .ref 88, .int wg, .int ob, .ref 96, .int (nI (al + (min to 600))), .int pr9, .int sr9, .ref rp, .ref rs, .int fw])))) := e100x
          refine wq_gos (f := 1) (pc2 := 184) (ls2 := [(4, .int ((nI i) + 1)), (2, .int 1), (1, .int 1), (6, .ref (102 + 6 * w)), (5, .int (nI w)), (0, .ref 74), (3, .int (nI b))]) (st2 := []) (h2 := h99x) (dc2 := dc) (ds2 := ds) 1 rfl ?_
          rw [nI_1]
          refine wq_gos (f := 1) (pc2 := 27) (ls2 := [(4, .int (nI (i + 1))), (2, .int 1), (1, .int 1), (6, .ref (102 + 6 * w)), (5, .int (nI w)), (0, .ref 74), (3, .int (nI b))]) (st2 := []) (h2 := h99x) (dc2 := dc) (ds2 := ds) 1 rfl ?_
          have e103x := (f101x.2 _ _ (wnc (by decide) wn0) e94x)
          refine wq_ls [(0, .ref 74), (1, .int 1), (2, .int 1), (3, .int (nI b)), (4, .int (nI (i + 1)))] (show ([0, 1, 2, 3, 4] : List Nat).Nodup by decide) ⟨rfl, rfl, rfl, rfl, rfl, trivial⟩ ?_
          exact kA h99x (1 : Int32) (1 : Int32) (wFr_tr (wFr_sub f95x (by simp)) (wFr_sub f101x (by simp))) (by omega) e100x e103x (by first | omega | assumption | decide | solve_by_elim) (by first | omega | assumption | decide | solve_by_elim) (by first | omega | assumption | decide | solve_by_elim)
        · have q104x : tm.toInt = 0 := congrArg Int32.toInt b91x
          refine wq_gos (f := 1) (pc2 := 138) (ls2 := [(1, .int 1), (6, .ref (102 + 6 * w)), (5, .int (nI w)), (0, .ref 74), (2, .int tm), (3, .int (nI b)), (4, .int (nI i))]) (st2 := [.ref (102 + 6 * w)]) (h2 := h) (dc2 := dc) (ds2 := ds) 1 rfl ?_
          refine wq_inlv (y2 := 16) (as := []) rfl rfl rfl hH rfl ?_
          show wq 16 0 [(0, .ref (102 + 6 * w))] [] h 0 0 _
          refine wq_gos (f := 1) (pc2 := 1) (ls2 := [(0, .ref (102 + 6 * w))]) (st2 := [.ref (102 + 6 * w)]) (h2 := h) (dc2 := 0) (ds2 := 0) 1 rfl ?_
          refine wq_getf rfl hH rfl rfl ?_
          refine wq_gos (f := 1) (pc2 := 7) (ls2 := [(0, .ref (102 + 6 * w))]) (st2 := [.int 600, .int (nI to)]) (h2 := h) (dc2 := 0) (ds2 := 0) 1 rfl ?_
          have q105x : (600 : Int32).toInt = 600 := rfl
          refine wq_le2 rfl rfl (fun b106x => ?_) (fun b106x => ?_)
          · refine wq_gos (f := 1) (pc2 := 15) (ls2 := [(0, .ref (102 + 6 * w))]) (st2 := [.int 0]) (h2 := h) (dc2 := 0) (ds2 := 0) 1 rfl ?_
            refine wq_ret rfl rfl ?_
            show wq 28 141 [(1, .int 1), (6, .ref (102 + 6 * w)), (5, .int (nI w)), (0, .ref 74), (2, .int tm), (3, .int (nI b)), (4, .int (nI i))] [.int 0] h dc ds _
            refine wq_gos (f := 1) (pc2 := 151) (ls2 := [(2, .int 0), (1, .int 1), (6, .ref (102 + 6 * w)), (5, .int (nI w)), (0, .ref 74), (3, .int (nI b)), (4, .int (nI i))]) (st2 := [.ref 74]) (h2 := h) (dc2 := dc) (ds2 := ds) 4 rfl ?_
            refine wq_getf rfl hPl rfl rfl ?_
            refine wq_gos (f := 1) (pc2 := 157) (ls2 := [(2, .int 0), (1, .int 1), (6, .ref (102 + 6 * w)), (5, .int (nI w)), (0, .ref 74), (3, .int (nI b)), (4, .int (nI i))]) (st2 := [.ref 74, .int (nI i), .ref 96]) (h2 := h) (dc2 := dc) (ds2 := ds) 2 rfl ?_
            refine wq_getf rfl hPl rfl rfl ?_
            refine wq_iastn rfl hF (by first | omega | exact zin_t (by omega) (by omega)) (by decide) rfl ?_
            intro h107x e108x f109x l110x
            have e108x : zat h107x 96 = some (.inl (0, 10, (zset 0 fi i (nI al)))) := e108x
            refine wq_gos (f := 1) (pc2 := 163) (ls2 := [(2, .int 0), (1, .int 1), (6, .ref (102 + 6 * w)), (5, .int (nI w)), (0, .ref 74), (3, .int (nI b)), (4, .int (nI i))]) (st2 := [.ref 74, .ref 74]) (h2 := h107x) (dc2 := dc) (ds2 := ds) 2 rfl ?_
            have e111x := (f109x.2 _ _ (wnc (by decide) wn0) hPl)
            refine wq_getf rfl e111x rfl rfl ?_
            refine wq_gos (f := 1) (pc2 := 168) (ls2 := [(2, .int 0), (1, .int 1), (6, .ref (102 + 6 * w)), (5, .int (nI w)), (0, .ref 74), (3, .int (nI b)), (4, .int (nI i))]) (st2 := [.ref (102 + 6 * w), .int (nI al), .ref 74]) (h2 := h107x) (dc2 := dc) (ds2 := ds) 1 rfl ?_
            have e112x := (f109x.2 _ _ (wnc (by omega) wn0) hH)
            refine wq_getf rfl e112x rfl rfl ?_
            refine wq_gos (f := 1) (pc2 := 174) (ls2 := [(2, .int 0), (1, .int 1), (6, .ref (102 + 6 * w)), (5, .int (nI w)), (0, .ref 74), (3, .int (nI b)), (4, .int (nI i))]) (st2 := [.int 600, .int (nI to), .int (nI al), .ref 74]) (h2 := h107x) (dc2 := dc) (ds2 := ds) 1 rfl ?_
            refine wq_inl (y2 := 285) (as := [.int (nI to), .int 600]) rfl rfl rfl (wq_T (c_min (nI to) (600 : Int32) h107x) ?_)
            show wq 28 177 [(2, .int 0), (1, .int 1), (6, .ref (102 + 6 * w)), (5, .int (nI w)), (0, .ref 74), (3, .int (nI b)), (4, .int (nI i))] [.int (jmin (nI to) (600 : Int32)), .int (nI al), .ref 74] h107x dc ds _
            refine wq_vi (show (jmin (nI to) (600 : Int32)) = nI (min to 600) from jmin_n (a := to) (b := 600) (by omega) (by omega)) ?_
            refine wq_gos (f := 1) (pc2 := 178) (ls2 := [(2, .int 0), (1, .int 1), (6, .ref (102 + 6 * w)), (5, .int (nI w)), (0, .ref 74), (3, .int (nI b)), (4, .int (nI i))]) (st2 := [.int ((nI al) + (nI (min to 600))), .ref 74]) (h2 := h107x) (dc2 := dc) (ds2 := ds) 1 rfl ?_
            refine wq_vi (show (nI al) + (nI (min to 600)) = nI (al + (min to 600)) from nI_add al (min to 600)) ?_
            refine wq_putf rfl e111x rfl rfl rfl ?_
            intro h113x e114x f115x l116x
            have e114x : zat h113x 74 = some (.inr (.inr (.inr (3, [.ref 44, .ref ra, .ref 76, .ref 78, .ref 80, .ref 88, .int wg, .int ob, .ref 96, .int (nI (al + (min to 600))), .int pr9, .int sr9, .ref rp, .ref rs, .int fw])))) := e114x
            refine wq_gos (f := 1) (pc2 := 184) (ls2 := [(4, .int ((nI i) + 1)), (2, .int 0), (1, .int 1), (6, .ref (102 + 6 * w)), (5, .int (nI w)), (0, .ref 74), (3, .int (nI b))]) (st2 := []) (h2 := h113x) (dc2 := dc) (ds2 := ds) 1 rfl ?_
            rw [nI_1]
            refine wq_gos (f := 1) (pc2 := 27) (ls2 := [(4, .int (nI (i + 1))), (2, .int 0), (1, .int 1), (6, .ref (102 + 6 * w)), (5, .int (nI w)), (0, .ref 74), (3, .int (nI b))]) (st2 := []) (h2 := h113x) (dc2 := dc) (ds2 := ds) 1 rfl ?_
            have e117x := (f115x.2 _ _ (wnc (by decide) wn0) e108x)
            refine wq_ls [(0, .ref 74), (1, .int 1), (2, .int 0), (3, .int (nI b)), (4, .int (nI (i + 1)))] (show ([0, 1, 2, 3, 4] : List Nat).Nodup by decide) ⟨rfl, rfl, rfl, rfl, rfl, trivial⟩ ?_
            exact kA h113x (1 : Int32) (0 : Int32) (wFr_tr (wFr_sub f109x (by simp)) (wFr_sub f115x (by simp))) (by omega) e114x e117x (by first | omega | assumption | decide | solve_by_elim) (by first | omega | assumption | decide | solve_by_elim) (by first | omega | assumption | decide | solve_by_elim)
          · refine wq_gos (f := 1) (pc2 := 15) (ls2 := [(0, .ref (102 + 6 * w))]) (st2 := [.int 1]) (h2 := h) (dc2 := 0) (ds2 := 0) 2 rfl ?_
            refine wq_ret rfl rfl ?_
            show wq 28 141 [(1, .int 1), (6, .ref (102 + 6 * w)), (5, .int (nI w)), (0, .ref 74), (2, .int tm), (3, .int (nI b)), (4, .int (nI i))] [.int 1] h dc ds _
            refine wq_gos (f := 1) (pc2 := 151) (ls2 := [(2, .int 1), (1, .int 1), (6, .ref (102 + 6 * w)), (5, .int (nI w)), (0, .ref 74), (3, .int (nI b)), (4, .int (nI i))]) (st2 := [.ref 74]) (h2 := h) (dc2 := dc) (ds2 := ds) 5 rfl ?_
            refine wq_getf rfl hPl rfl rfl ?_
            refine wq_gos (f := 1) (pc2 := 157) (ls2 := [(2, .int 1), (1, .int 1), (6, .ref (102 + 6 * w)), (5, .int (nI w)), (0, .ref 74), (3, .int (nI b)), (4, .int (nI i))]) (st2 := [.ref 74, .int (nI i), .ref 96]) (h2 := h) (dc2 := dc) (ds2 := ds) 2 rfl ?_
            refine wq_getf rfl hPl rfl rfl ?_
            refine wq_iastn rfl hF (by first | omega | exact zin_t (by omega) (by omega)) (by decide) rfl ?_
            intro h118x e119x f120x l121x
            have e119x : zat h118x 96 = some (.inl (0, 10, (zset 0 fi i (nI al)))) := e119x
            refine wq_gos (f := 1) (pc2 := 163) (ls2 := [(2, .int 1), (1, .int 1), (6, .ref (102 + 6 * w)), (5, .int (nI w)), (0, .ref 74), (3, .int (nI b)), (4, .int (nI i))]) (st2 := [.ref 74, .ref 74]) (h2 := h118x) (dc2 := dc) (ds2 := ds) 2 rfl ?_
            have e122x := (f120x.2 _ _ (wnc (by decide) wn0) hPl)
            refine wq_getf rfl e122x rfl rfl ?_
            refine wq_gos (f := 1) (pc2 := 168) (ls2 := [(2, .int 1), (1, .int 1), (6, .ref (102 + 6 * w)), (5, .int (nI w)), (0, .ref 74), (3, .int (nI b)), (4, .int (nI i))]) (st2 := [.ref (102 + 6 * w), .int (nI al), .ref 74]) (h2 := h118x) (dc2 := dc) (ds2 := ds) 1 rfl ?_
            have e123x := (f120x.2 _ _ (wnc (by omega) wn0) hH)
            refine wq_getf rfl e123x rfl rfl ?_
            refine wq_gos (f := 1) (pc2 := 174) (ls2 := [(2, .int 1), (1, .int 1), (6, .ref (102 + 6 * w)), (5, .int (nI w)), (0, .ref 74), (3, .int (nI b)), (4, .int (nI i))]) (st2 := [.int 600, .int (nI to), .int (nI al), .ref 74]) (h2 := h118x) (dc2 := dc) (ds2 := ds) 1 rfl ?_
            refine wq_inl (y2 := 285) (as := [.int (nI to), .int 600]) rfl rfl rfl (wq_T (c_min (nI to) (600 : Int32) h118x) ?_)
            show wq 28 177 [(2, .int 1), (1, .int 1), (6, .ref (102 + 6 * w)), (5, .int (nI w)), (0, .ref 74), (3, .int (nI b)), (4, .int (nI i))] [.int (jmin (nI to) (600 : Int32)), .int (nI al), .ref 74] h118x dc ds _
            refine wq_vi (show (jmin (nI to) (600 : Int32)) = nI (min to 600) from jmin_n (a := to) (b := 600) (by omega) (by omega)) ?_
            refine wq_gos (f := 1) (pc2 := 178) (ls2 := [(2, .int 1), (1, .int 1), (6, .ref (102 + 6 * w)), (5, .int (nI w)), (0, .ref 74), (3, .int (nI b)), (4, .int (nI i))]) (st2 := [.int ((nI al) + (nI (min to 600))), .ref 74]) (h2 := h118x) (dc2 := dc) (ds2 := ds) 1 rfl ?_
            refine wq_vi (show (nI al) + (nI (min to 600)) = nI (al + (min to 600)) from nI_add al (min to 600)) ?_
            refine wq_putf rfl e122x rfl rfl rfl ?_
            intro h124x e125x f126x l127x
            have e125x : zat h124x 74 = some (.inr (.inr (.inr (3, [.ref 44, .ref ra, .ref 76, .ref 78, .ref 80, .ref 88, .int wg, .int ob, .ref 96, .int (nI (al + (min to 600))), .int pr9, .int sr9, .ref rp, .ref rs, .int fw])))) := e125x
            refine wq_gos (f := 1) (pc2 := 184) (ls2 := [(4, .int ((nI i) + 1)), (2, .int 1), (1, .int 1), (6, .ref (102 + 6 * w)), (5, .int (nI w)), (0, .ref 74), (3, .int (nI b))]) (st2 := []) (h2 := h124x) (dc2 := dc) (ds2 := ds) 1 rfl ?_
            rw [nI_1]
            refine wq_gos (f := 1) (pc2 := 27) (ls2 := [(4, .int (nI (i + 1))), (2, .int 1), (1, .int 1), (6, .ref (102 + 6 * w)), (5, .int (nI w)), (0, .ref 74), (3, .int (nI b))]) (st2 := []) (h2 := h124x) (dc2 := dc) (ds2 := ds) 1 rfl ?_
            have e128x := (f126x.2 _ _ (wnc (by decide) wn0) e119x)
            refine wq_ls [(0, .ref 74), (1, .int 1), (2, .int 1), (3, .int (nI b)), (4, .int (nI (i + 1)))] (show ([0, 1, 2, 3, 4] : List Nat).Nodup by decide) ⟨rfl, rfl, rfl, rfl, rfl, trivial⟩ ?_
            exact kA h124x (1 : Int32) (1 : Int32) (wFr_tr (wFr_sub f120x (by simp)) (wFr_sub f126x (by simp))) (by omega) e125x e128x (by first | omega | assumption | decide | solve_by_elim) (by first | omega | assumption | decide | solve_by_elim) (by first | omega | assumption | decide | solve_by_elim)
  · have q129x : (nI ((b >>> w) % 2)).toInt = 0 := congrArg Int32.toInt b5x
    refine wq_gos (f := 1) (pc2 := 70) (ls2 := [(6, .ref (102 + 6 * w)), (5, .int (nI w)), (0, .ref 74), (1, .int no), (2, .int tm), (3, .int (nI b)), (4, .int (nI i))]) (st2 := [.ref 74]) (h2 := h) (dc2 := dc) (ds2 := ds) 1 rfl ?_
    refine wq_getf rfl hPl rfl rfl ?_
    refine wq_gos (f := 1) (pc2 := 74) (ls2 := [(6, .ref (102 + 6 * w)), (5, .int (nI w)), (0, .ref 74), (1, .int no), (2, .int tm), (3, .int (nI b)), (4, .int (nI i))]) (st2 := [.ref 74, .ref ra]) (h2 := h) (dc2 := dc) (ds2 := ds) 1 rfl ?_
    refine wq_getf rfl hPl rfl rfl ?_
    refine wq_getf rfl hA rfl rfl ?_
    refine wq_gos (f := 1) (pc2 := 82) (ls2 := [(6, .ref (102 + 6 * w)), (5, .int (nI w)), (0, .ref 74), (1, .int no), (2, .int tm), (3, .int (nI b)), (4, .int (nI i))]) (st2 := [.int (nI w), .ref (ra + 10), .ref ra]) (h2 := h) (dc2 := dc) (ds2 := ds) 1 rfl ?_
    refine wq_laldn rfl hQ (by first | omega | exact zin_t (by omega) (by omega)) (by decide) rfl ?_
    refine wq_gos (f := 1) (pc2 := 84) (ls2 := [(6, .ref (102 + 6 * w)), (5, .int (nI w)), (0, .ref 74), (1, .int no), (2, .int tm), (3, .int (nI b)), (4, .int (nI i))]) (st2 := [.ref 74, .long (po.getD w 0), .ref ra]) (h2 := h) (dc2 := dc) (ds2 := ds) 1 rfl ?_
    refine wq_getf rfl hPl rfl rfl ?_
    refine wq_inlv (y2 := 8) (as := [.long (po.getD w 0), .ref 76]) rfl rfl rfl hA rfl (wq_mono (c_plo hA h76 (by first | omega | assumption | decide | solve_by_elim) (by first | omega | assumption | decide | solve_by_elim)) ?_)
    rintro _ ⟨h8130x, rfl, f8130x, l8130x, c0130x⟩
    show wq 28 90 [(6, .ref (102 + 6 * w)), (5, .int (nI w)), (0, .ref 74), (1, .int no), (2, .int tm), (3, .int (nI b)), (4, .int (nI i))] [] h8130x dc ds _
    obtain ⟨v131x, hv132x⟩ : ∃ x, x = (jPlo lk hd ht (po.getD w 0) hpl) := ⟨_, rfl⟩
    try rw [← hv132x] at c0130x
    try rw [← hv132x]
    refine wq_gos (f := 1) (pc2 := 91) (ls2 := [(6, .ref (102 + 6 * w)), (5, .int (nI w)), (0, .ref 74), (1, .int no), (2, .int tm), (3, .int (nI b)), (4, .int (nI i))]) (st2 := [.ref 74]) (h2 := h8130x) (dc2 := dc) (ds2 := ds) 1 rfl ?_
    have e133x := (f8130x.2 _ _ (wnc (by decide) wn0) hPl)
    refine wq_getf rfl e133x rfl rfl ?_
    refine wq_gos (f := 1) (pc2 := 95) (ls2 := [(6, .ref (102 + 6 * w)), (5, .int (nI w)), (0, .ref 74), (1, .int no), (2, .int tm), (3, .int (nI b)), (4, .int (nI i))]) (st2 := [.ref 74, .ref 44]) (h2 := h8130x) (dc2 := dc) (ds2 := ds) 1 rfl ?_
    refine wq_getf rfl e133x rfl rfl ?_
    refine wq_gos (f := 1) (pc2 := 99) (ls2 := [(6, .ref (102 + 6 * w)), (5, .int (nI w)), (0, .ref 74), (1, .int no), (2, .int tm), (3, .int (nI b)), (4, .int (nI i))]) (st2 := [.ref 74, .ref ra, .ref 44]) (h2 := h8130x) (dc2 := dc) (ds2 := ds) 1 rfl ?_
    refine wq_getf rfl e133x rfl rfl ?_
    refine wq_gos (f := 1) (pc2 := 104) (ls2 := [(6, .ref (102 + 6 * w)), (5, .int (nI w)), (0, .ref 74), (1, .int no), (2, .int tm), (3, .int (nI b)), (4, .int (nI i))]) (st2 := [.ref (102 + 6 * w), .ref 76, .ref ra, .ref 44]) (h2 := h8130x) (dc2 := dc) (ds2 := ds) 1 rfl ?_
    have e134x := (f8130x.2 _ _ (wnc (by omega) wn0) hA)
    have e135x := (f8130x.2 _ _ (wnc (by omega) wn0) hL)
    have e136x := (f8130x.2 _ _ (wnc (by omega) wn0) hG)
    have e137x := (f8130x.2 _ _ (wnc (by decide) wn0) hS)
    have e138x := (f8130x.2 _ _ (wnc (by decide) wn0) h46)
    have e139x := (f8130x.2 _ _ (wnc (by decide) wn0) h48)
    have e140x := (f8130x.2 _ _ (wnc (by decide) wn0) h50)
    have e141x := (f8130x.2 _ _ (wnc (by decide) wn0) h52)
    have e142x := (f8130x.2 _ _ (wnc (by decide) wn0) h54)
    have e143x := (f8130x.2 _ _ (wnc (by decide) wn0) hB)
    have e144x := (f8130x.2 _ _ (wnc (by omega) wn0) hO)
    have e145x := (f8130x.2 _ _ (wnc (by omega) wn0) hH)
    have e146x := (f8130x.2 _ _ (wnc (by omega) wn0) hP4)
    have e147x := (f8130x.2 _ _ (wnc (by omega) wn0) hI)
    subst hv132x
    have hlm0 := hlm 0 (by decide)
    have zlh := zLow_rng 0 (by decide)
    have zl0 : (zLow.getD 0 0).toInt = 0 := rfl
    have zh0 : (zHigh.getD 0 0).toInt = 99 := rfl
    have hsc9 := hsc
    unfold wScl at hsc9
    have hq0 := f8130x.1
    refine wq_inlv (y2 := 82) (as := [.ref ra, .ref 76, .ref (102 + 6 * w)]) rfl rfl rfl e137x rfl (wq_mono (c_solve (rh := 102 + 6 * w) e134x e135x e136x e137x e138x e139x e140x e141x e142x e143x e144x e145x e146x e147x c0130x ⟨by omega, by omega⟩ ⟨by omega, by omega⟩ ⟨by omega, by omega⟩ ⟨by omega, by omega, by omega⟩ ⟨by omega, by omega, by omega⟩ ⟨by omega, by omega⟩ ⟨by omega, by omega, by omega, by omega, by omega, by omega, by omega⟩ ⟨by omega, by omega, by omega⟩ (by omega)) ?_)
    rintro _ ⟨h8, rL2, cap2, rv2, sc2, nf2, ks2, fa2, tg2, hp2, sh2, el2, wr2, ou2, bh2, li2, so2, d, s, rfl, f8, j1, j2, j3, j4, j5, j6, j7, j8, j9, j10, j11, j12, j13, j14⟩
    have f8l := f8.1
    have hsl := sSolL_len ll lg lk hd ht (jPlo lk hd ht (po.getD w 0) hpl) 64 (-32)
    show wq 28 107 [(6, .ref (102 + 6 * w)), (5, .int (nI w)), (0, .ref 74), (1, .int no), (2, .int tm), (3, .int (nI b)), (4, .int (nI i))] [] h8 (dc + d) (ds + s) _
    refine wq_gos (f := 1) (pc2 := 112) (ls2 := [(6, .ref (102 + 6 * w)), (5, .int (nI w)), (0, .ref 74), (1, .int no), (2, .int tm), (3, .int (nI b)), (4, .int (nI i))]) (st2 := [.int ((1 : Int32) <<< ((nI w) &&& 31)), .int (nI b)]) (h2 := h8) (dc2 := (dc + d)) (ds2 := (ds + s)) 4 rfl ?_
    refine wq_vi (show ((1 : Int32) <<< ((nI w) &&& 31)) = nI (2 ^ w) from e_shl (k := w) (by omega)) ?_
    refine wq_gos (f := 1) (pc2 := 113) (ls2 := [(6, .ref (102 + 6 * w)), (5, .int (nI w)), (0, .ref 74), (1, .int no), (2, .int tm), (3, .int (nI b)), (4, .int (nI i))]) (st2 := [.int ((nI b) ||| (nI (2 ^ w)))]) (h2 := h8) (dc2 := (dc + d)) (ds2 := (ds + s)) 1 rfl ?_
    refine wq_vi (show ((nI b) ||| (nI (2 ^ w))) = nI (b ||| (2 ^ w)) from e_or b (2 ^ w)) ?_
    refine wq_gos (f := 1) (pc2 := 115) (ls2 := [(3, .int (nI (b ||| (2 ^ w)))), (6, .ref (102 + 6 * w)), (5, .int (nI w)), (0, .ref 74), (1, .int no), (2, .int tm), (4, .int (nI i))]) (st2 := [.int no]) (h2 := h8) (dc2 := (dc + d)) (ds2 := (ds + s)) 2 rfl ?_
    refine wq_ne0 rfl rfl (fun b148x => ?_) (fun b148x => ?_)
    · have q149x : no.toInt ≠ 0 := fun q => b148x (Int32.toInt_inj.mp q)
      refine wq_gos (f := 1) (pc2 := 133) (ls2 := [(1, .int 1), (3, .int (nI (b ||| (2 ^ w)))), (6, .ref (102 + 6 * w)), (5, .int (nI w)), (0, .ref 74), (2, .int tm), (4, .int (nI i))]) (st2 := [.int tm]) (h2 := h8) (dc2 := (dc + d)) (ds2 := (ds + s)) 4 rfl ?_
      refine wq_ne0 rfl rfl (fun b150x => ?_) (fun b150x => ?_)
      · have q151x : tm.toInt ≠ 0 := fun q => b150x (Int32.toInt_inj.mp q)
        refine wq_gos (f := 1) (pc2 := 151) (ls2 := [(2, .int 1), (1, .int 1), (3, .int (nI (b ||| (2 ^ w)))), (6, .ref (102 + 6 * w)), (5, .int (nI w)), (0, .ref 74), (4, .int (nI i))]) (st2 := [.ref 74]) (h2 := h8) (dc2 := (dc + d)) (ds2 := (ds + s)) 4 rfl ?_
        have e152x := (f8.2 _ _ (wnc (by omega) (wnc (by omega) (wnc (by omega) (wnc (by decide) (wnc (by decide) (wnc (by decide) (wnc (by decide) (wnc (by decide) (wnc (by decide) (wnc (by decide) (wnc (by omega) wn0))))))))))) e133x)
        refine wq_getf rfl e152x rfl rfl ?_
        refine wq_gos (f := 1) (pc2 := 157) (ls2 := [(2, .int 1), (1, .int 1), (3, .int (nI (b ||| (2 ^ w)))), (6, .ref (102 + 6 * w)), (5, .int (nI w)), (0, .ref 74), (4, .int (nI i))]) (st2 := [.ref 74, .int (nI i), .ref 96]) (h2 := h8) (dc2 := (dc + d)) (ds2 := (ds + s)) 2 rfl ?_
        refine wq_getf rfl e152x rfl rfl ?_
        have e153x := (f8.2 _ _ (wnc (by omega) (wnc (by omega) (wnc (by omega) (wnc (by decide) (wnc (by decide) (wnc (by decide) (wnc (by decide) (wnc (by decide) (wnc (by decide) (wnc (by decide) (wnc (by omega) wn0))))))))))) (f8130x.2 _ _ (wnc (by decide) wn0) hF))
        refine wq_iastn rfl e153x (by first | omega | exact zin_t (by omega) (by omega)) (by decide) rfl ?_
        intro h154x e155x f156x l157x
        have e155x : zat h154x 96 = some (.inl (0, 10, (zset 0 fi i (nI al)))) := e155x
        refine wq_gos (f := 1) (pc2 := 163) (ls2 := [(2, .int 1), (1, .int 1), (3, .int (nI (b ||| (2 ^ w)))), (6, .ref (102 + 6 * w)), (5, .int (nI w)), (0, .ref 74), (4, .int (nI i))]) (st2 := [.ref 74, .ref 74]) (h2 := h154x) (dc2 := (dc + d)) (ds2 := (ds + s)) 2 rfl ?_
        have e158x := (f156x.2 _ _ (wnc (by decide) wn0) e152x)
        refine wq_getf rfl e158x rfl rfl ?_
        refine wq_gos (f := 1) (pc2 := 168) (ls2 := [(2, .int 1), (1, .int 1), (3, .int (nI (b ||| (2 ^ w)))), (6, .ref (102 + 6 * w)), (5, .int (nI w)), (0, .ref 74), (4, .int (nI i))]) (st2 := [.ref (102 + 6 * w), .int (nI al), .ref 74]) (h2 := h154x) (dc2 := (dc + d)) (ds2 := (ds + s)) 1 rfl ?_
        have e159x := (f156x.2 _ _ (wnc (by omega) wn0) j9)
        refine wq_getf rfl e159x rfl rfl ?_
        refine wq_gos (f := 1) (pc2 := 174) (ls2 := [(2, .int 1), (1, .int 1), (3, .int (nI (b ||| (2 ^ w)))), (6, .ref (102 + 6 * w)), (5, .int (nI w)), (0, .ref 74), (4, .int (nI i))]) (st2 := [.int 600, .int (nI (sSolL ll lg lk hd ht (jPlo lk hd ht (po.getD w 0) hpl) 64 (-32)).length), .int (nI al), .ref 74]) (h2 := h154x) (dc2 := (dc + d)) (ds2 := (ds + s)) 1 rfl ?_
        refine wq_inl (y2 := 285) (as := [.int (nI (sSolL ll lg lk hd ht (jPlo lk hd ht (po.getD w 0) hpl) 64 (-32)).length), .int 600]) rfl rfl rfl (wq_T (c_min (nI (sSolL ll lg lk hd ht (jPlo lk hd ht (po.getD w 0) hpl) 64 (-32)).length) (600 : Int32) h154x) ?_)
        show wq 28 177 [(2, .int 1), (1, .int 1), (3, .int (nI (b ||| (2 ^ w)))), (6, .ref (102 + 6 * w)), (5, .int (nI w)), (0, .ref 74), (4, .int (nI i))] [.int (jmin (nI (sSolL ll lg lk hd ht (jPlo lk hd ht (po.getD w 0) hpl) 64 (-32)).length) (600 : Int32)), .int (nI al), .ref 74] h154x (dc + d) (ds + s) _
        refine wq_vi (show (jmin (nI (sSolL ll lg lk hd ht (jPlo lk hd ht (po.getD w 0) hpl) 64 (-32)).length) (600 : Int32)) = nI (min ((sSolL ll lg lk hd ht (jPlo lk hd ht (po.getD w 0) hpl) 64 (-32)).length) 600) from jmin_n (a := ((sSolL ll lg lk hd ht (jPlo lk hd ht (po.getD w 0) hpl) 64 (-32)).length)) (b := 600) (by omega) (by omega)) ?_
        refine wq_gos (f := 1) (pc2 := 178) (ls2 := [(2, .int 1), (1, .int 1), (3, .int (nI (b ||| (2 ^ w)))), (6, .ref (102 + 6 * w)), (5, .int (nI w)), (0, .ref 74), (4, .int (nI i))]) (st2 := [.int ((nI al) + (nI (min ((sSolL ll lg lk hd ht (jPlo lk hd ht (po.getD w 0) hpl) 64 (-32)).length) 600))), .ref 74]) (h2 := h154x) (dc2 := (dc + d)) (ds2 := (ds + s)) 1 rfl ?_
        refine wq_vi (show (nI al) + (nI (min ((sSolL ll lg lk hd ht (jPlo lk hd ht (po.getD w 0) hpl) 64 (-32)).length) 600)) = nI (al + (min ((sSolL ll lg lk hd ht (jPlo lk hd ht (po.getD w 0) hpl) 64 (-32)).length) 600)) from nI_add al (min ((sSolL ll lg lk hd ht (jPlo lk hd ht (po.getD w 0) hpl) 64 (-32)).length) 600)) ?_
        refine wq_putf rfl e158x rfl rfl rfl ?_
        intro h160x e161x f162x l163x
        have e161x : zat h160x 74 = some (.inr (.inr (.inr (3, [.ref 44, .ref ra, .ref 76, .ref 78, .ref 80, .ref 88, .int wg, .int ob, .ref 96, .int (nI (al + (min ((sSolL ll lg lk hd ht (jPlo lk hd ht (po.getD w 0) hpl) 64 (-32)).length) 600))), .int pr9, .int sr9, .ref rp, .ref rs, .int fw])))) := e161x
        refine wq_gos (f := 1) (pc2 := 184) (ls2 := [(4, .int ((nI i) + 1)), (2, .int 1), (1, .int 1), (3, .int (nI (b ||| (2 ^ w)))), (6, .ref (102 + 6 * w)), (5, .int (nI w)), (0, .ref 74)]) (st2 := []) (h2 := h160x) (dc2 := (dc + d)) (ds2 := (ds + s)) 1 rfl ?_
        rw [nI_1]
        refine wq_gos (f := 1) (pc2 := 27) (ls2 := [(4, .int (nI (i + 1))), (2, .int 1), (1, .int 1), (3, .int (nI (b ||| (2 ^ w)))), (6, .ref (102 + 6 * w)), (5, .int (nI w)), (0, .ref 74)]) (st2 := []) (h2 := h160x) (dc2 := (dc + d)) (ds2 := (ds + s)) 1 rfl ?_
        have e164x := (f162x.2 _ _ (wnc (by decide) wn0) e155x)
        have e165x := (f162x.2 _ _ (wnc (by decide) wn0) (f156x.2 _ _ (wnc (by decide) wn0) (f8.2 _ _ (wnc (by omega) (wnc (by omega) (wnc (by omega) (wnc (by decide) (wnc (by decide) (wnc (by decide) (wnc (by decide) (wnc (by decide) (wnc (by decide) (wnc (by decide) (wnc (by omega) wn0))))))))))) c0130x)))
        have e166x := (f162x.2 _ _ (wnc (by decide) wn0) (f156x.2 _ _ (wnc (by decide) wn0) j1))
        have e167x := (f162x.2 _ _ (wnc (by decide) wn0) (f156x.2 _ _ (wnc (by decide) wn0) j2))
        have e168x := (f162x.2 _ _ (wnc (by decide) wn0) (f156x.2 _ _ (wnc (by decide) wn0) j3))
        have e169x := (f162x.2 _ _ (wnc (by decide) wn0) (f156x.2 _ _ (wnc (by decide) wn0) j4))
        have e170x := (f162x.2 _ _ (wnc (by decide) wn0) (f156x.2 _ _ (wnc (by decide) wn0) j5))
        have e171x := (f162x.2 _ _ (wnc (by decide) wn0) (f156x.2 _ _ (wnc (by decide) wn0) j6))
        have e172x := (f162x.2 _ _ (wnc (by decide) wn0) (f156x.2 _ _ (wnc (by decide) wn0) j7))
        have e173x := (f162x.2 _ _ (wnc (by omega) wn0) (f156x.2 _ _ (wnc (by omega) wn0) j8))
        have e174x := (f162x.2 _ _ (wnc (by omega) wn0) e159x)
        have e175x := (f162x.2 _ _ (wnc (by omega) wn0) (f156x.2 _ _ (wnc (by omega) wn0) j10))
        have e176x := (f162x.2 _ _ (wnc (by omega) wn0) (f156x.2 _ _ (wnc (by omega) wn0) j11))
        refine wq_ls [(0, .ref 74), (1, .int 1), (2, .int 1), (3, .int (nI (b ||| (2 ^ w)))), (4, .int (nI (i + 1)))] (show ([0, 1, 2, 3, 4] : List Nat).Nodup by decide) ⟨rfl, rfl, rfl, rfl, rfl, trivial⟩ ?_
        exact kB h160x (1 : Int32) (1 : Int32) rL2 cap2 rv2 sc2 nf2 (1 : Int32) ks2 fa2 tg2 hp2 sh2 el2 wr2 ou2 bh2 li2 so2 (dc + d) (ds + s) (wFr_tr (wFr_sub f8130x (by simp)) (wFr_tr (wFr_sub f8 (by simp)) (wFr_tr (wFr_sub f156x (by simp)) (wFr_sub f162x (by simp))))) (by omega) e161x e164x e165x e166x e167x e168x e169x e170x e171x e172x e173x e174x e175x e176x (by first | omega | assumption | decide | solve_by_elim) (by first | omega | assumption | decide | solve_by_elim) (by first | omega | assumption | decide | solve_by_elim) rfl j12 ⟨j13, by omega⟩ (by first | omega | assumption | decide | solve_by_elim) (by first | omega | assumption | decide | solve_by_elim) (by first | omega | assumption | decide | solve_by_elim) (by first | omega | assumption | decide | solve_by_elim) (by first | omega | assumption | decide | solve_by_elim) (by omega) (by omega)
      · have q177x : tm.toInt = 0 := congrArg Int32.toInt b150x
        refine wq_gos (f := 1) (pc2 := 138) (ls2 := [(1, .int 1), (3, .int (nI (b ||| (2 ^ w)))), (6, .ref (102 + 6 * w)), (5, .int (nI w)), (0, .ref 74), (2, .int tm), (4, .int (nI i))]) (st2 := [.ref (102 + 6 * w)]) (h2 := h8) (dc2 := (dc + d)) (ds2 := (ds + s)) 1 rfl ?_
        refine wq_inlv (y2 := 16) (as := []) rfl rfl rfl j9 rfl ?_
        show wq 16 0 [(0, .ref (102 + 6 * w))] [] h8 0 0 _
        refine wq_gos (f := 1) (pc2 := 1) (ls2 := [(0, .ref (102 + 6 * w))]) (st2 := [.ref (102 + 6 * w)]) (h2 := h8) (dc2 := 0) (ds2 := 0) 1 rfl ?_
        refine wq_getf rfl j9 rfl rfl ?_
        refine wq_gos (f := 1) (pc2 := 7) (ls2 := [(0, .ref (102 + 6 * w))]) (st2 := [.int 600, .int (nI (sSolL ll lg lk hd ht (jPlo lk hd ht (po.getD w 0) hpl) 64 (-32)).length)]) (h2 := h8) (dc2 := 0) (ds2 := 0) 1 rfl ?_
        try have q178x := nI_toInt (n := (sSolL ll lg lk hd ht (jPlo lk hd ht (po.getD w 0) hpl) 64 (-32)).length) (by omega)
        have q179x : (600 : Int32).toInt = 600 := rfl
        refine wq_le2 rfl rfl (fun b180x => ?_) (fun b180x => ?_)
        · refine wq_gos (f := 1) (pc2 := 15) (ls2 := [(0, .ref (102 + 6 * w))]) (st2 := [.int 0]) (h2 := h8) (dc2 := 0) (ds2 := 0) 1 rfl ?_
          refine wq_ret rfl rfl ?_
          show wq 28 141 [(1, .int 1), (3, .int (nI (b ||| (2 ^ w)))), (6, .ref (102 + 6 * w)), (5, .int (nI w)), (0, .ref 74), (2, .int tm), (4, .int (nI i))] [.int 0] h8 (dc + d) (ds + s) _
          refine wq_gos (f := 1) (pc2 := 151) (ls2 := [(2, .int 0), (1, .int 1), (3, .int (nI (b ||| (2 ^ w)))), (6, .ref (102 + 6 * w)), (5, .int (nI w)), (0, .ref 74), (4, .int (nI i))]) (st2 := [.ref 74]) (h2 := h8) (dc2 := (dc + d)) (ds2 := (ds + s)) 4 rfl ?_
          have e181x := (f8.2 _ _ (wnc (by omega) (wnc (by omega) (wnc (by omega) (wnc (by decide) (wnc (by decide) (wnc (by decide) (wnc (by decide) (wnc (by decide) (wnc (by decide) (wnc (by decide) (wnc (by omega) wn0))))))))))) e133x)
          refine wq_getf rfl e181x rfl rfl ?_
          refine wq_gos (f := 1) (pc2 := 157) (ls2 := [(2, .int 0), (1, .int 1), (3, .int (nI (b ||| (2 ^ w)))), (6, .ref (102 + 6 * w)), (5, .int (nI w)), (0, .ref 74), (4, .int (nI i))]) (st2 := [.ref 74, .int (nI i), .ref 96]) (h2 := h8) (dc2 := (dc + d)) (ds2 := (ds + s)) 2 rfl ?_
          refine wq_getf rfl e181x rfl rfl ?_
          have e182x := (f8.2 _ _ (wnc (by omega) (wnc (by omega) (wnc (by omega) (wnc (by decide) (wnc (by decide) (wnc (by decide) (wnc (by decide) (wnc (by decide) (wnc (by decide) (wnc (by decide) (wnc (by omega) wn0))))))))))) (f8130x.2 _ _ (wnc (by decide) wn0) hF))
          refine wq_iastn rfl e182x (by first | omega | exact zin_t (by omega) (by omega)) (by decide) rfl ?_
          intro h183x e184x f185x l186x
          have e184x : zat h183x 96 = some (.inl (0, 10, (zset 0 fi i (nI al)))) := e184x
          refine wq_gos (f := 1) (pc2 := 163) (ls2 := [(2, .int 0), (1, .int 1), (3, .int (nI (b ||| (2 ^ w)))), (6, .ref (102 + 6 * w)), (5, .int (nI w)), (0, .ref 74), (4, .int (nI i))]) (st2 := [.ref 74, .ref 74]) (h2 := h183x) (dc2 := (dc + d)) (ds2 := (ds + s)) 2 rfl ?_
          have e187x := (f185x.2 _ _ (wnc (by decide) wn0) e181x)
          refine wq_getf rfl e187x rfl rfl ?_
          refine wq_gos (f := 1) (pc2 := 168) (ls2 := [(2, .int 0), (1, .int 1), (3, .int (nI (b ||| (2 ^ w)))), (6, .ref (102 + 6 * w)), (5, .int (nI w)), (0, .ref 74), (4, .int (nI i))]) (st2 := [.ref (102 + 6 * w), .int (nI al), .ref 74]) (h2 := h183x) (dc2 := (dc + d)) (ds2 := (ds + s)) 1 rfl ?_
          have e188x := (f185x.2 _ _ (wnc (by omega) wn0) j9)
          refine wq_getf rfl e188x rfl rfl ?_
          refine wq_gos (f := 1) (pc2 := 174) (ls2 := [(2, .int 0), (1, .int 1), (3, .int (nI (b ||| (2 ^ w)))), (6, .ref (102 + 6 * w)), (5, .int (nI w)), (0, .ref 74), (4, .int (nI i))]) (st2 := [.int 600, .int (nI (sSolL ll lg lk hd ht (jPlo lk hd ht (po.getD w 0) hpl) 64 (-32)).length), .int (nI al), .ref 74]) (h2 := h183x) (dc2 := (dc + d)) (ds2 := (ds + s)) 1 rfl ?_
          refine wq_inl (y2 := 285) (as := [.int (nI (sSolL ll lg lk hd ht (jPlo lk hd ht (po.getD w 0) hpl) 64 (-32)).length), .int 600]) rfl rfl rfl (wq_T (c_min (nI (sSolL ll lg lk hd ht (jPlo lk hd ht (po.getD w 0) hpl) 64 (-32)).length) (600 : Int32) h183x) ?_)
          show wq 28 177 [(2, .int 0), (1, .int 1), (3, .int (nI (b ||| (2 ^ w)))), (6, .ref (102 + 6 * w)), (5, .int (nI w)), (0, .ref 74), (4, .int (nI i))] [.int (jmin (nI (sSolL ll lg lk hd ht (jPlo lk hd ht (po.getD w 0) hpl) 64 (-32)).length) (600 : Int32)), .int (nI al), .ref 74] h183x (dc + d) (ds + s) _
          refine wq_vi (show (jmin (nI (sSolL ll lg lk hd ht (jPlo lk hd ht (po.getD w 0) hpl) 64 (-32)).length) (600 : Int32)) = nI (min ((sSolL ll lg lk hd ht (jPlo lk hd ht (po.getD w 0) hpl) 64 (-32)).length) 600) from jmin_n (a := ((sSolL ll lg lk hd ht (jPlo lk hd ht (po.getD w 0) hpl) 64 (-32)).length)) (b := 600) (by omega) (by omega)) ?_
          refine wq_gos (f := 1) (pc2 := 178) (ls2 := [(2, .int 0), (1, .int 1), (3, .int (nI (b ||| (2 ^ w)))), (6, .ref (102 + 6 * w)), (5, .int (nI w)), (0, .ref 74), (4, .int (nI i))]) (st2 := [.int ((nI al) + (nI (min ((sSolL ll lg lk hd ht (jPlo lk hd ht (po.getD w 0) hpl) 64 (-32)).length) 600))), .ref 74]) (h2 := h183x) (dc2 := (dc + d)) (ds2 := (ds + s)) 1 rfl ?_
          refine wq_vi (show (nI al) + (nI (min ((sSolL ll lg lk hd ht (jPlo lk hd ht (po.getD w 0) hpl) 64 (-32)).length) 600)) = nI (al + (min ((sSolL ll lg lk hd ht (jPlo lk hd ht (po.getD w 0) hpl) 64 (-32)).length) 600)) from nI_add al (min ((sSolL ll lg lk hd ht (jPlo lk hd ht (po.getD w 0) hpl) 64 (-32)).length) 600)) ?_
          refine wq_putf rfl e187x rfl rfl rfl ?_
          intro h189x e190x f191x l192x
          have e190x : zat h189x 74 = some (.inr (.inr (.inr (3, [.ref 44, .ref ra, .ref 76, .ref 78, .ref 80, .ref 88, .int wg, .int ob, .ref 96, .int (nI (al + (min ((sSolL ll lg lk hd ht (jPlo lk hd ht (po.getD w 0) hpl) 64 (-32)).length) 600))), .int pr9, .int sr9, .ref rp, .ref rs, .int fw])))) := e190x
          refine wq_gos (f := 1) (pc2 := 184) (ls2 := [(4, .int ((nI i) + 1)), (2, .int 0), (1, .int 1), (3, .int (nI (b ||| (2 ^ w)))), (6, .ref (102 + 6 * w)), (5, .int (nI w)), (0, .ref 74)]) (st2 := []) (h2 := h189x) (dc2 := (dc + d)) (ds2 := (ds + s)) 1 rfl ?_
          rw [nI_1]
          refine wq_gos (f := 1) (pc2 := 27) (ls2 := [(4, .int (nI (i + 1))), (2, .int 0), (1, .int 1), (3, .int (nI (b ||| (2 ^ w)))), (6, .ref (102 + 6 * w)), (5, .int (nI w)), (0, .ref 74)]) (st2 := []) (h2 := h189x) (dc2 := (dc + d)) (ds2 := (ds + s)) 1 rfl ?_
          have e193x := (f191x.2 _ _ (wnc (by decide) wn0) e184x)
          have e194x := (f191x.2 _ _ (wnc (by decide) wn0) (f185x.2 _ _ (wnc (by decide) wn0) (f8.2 _ _ (wnc (by omega) (wnc (by omega) (wnc (by omega) (wnc (by decide) (wnc (by decide) (wnc (by decide) (wnc (by decide) (wnc (by decide) (wnc (by decide) (wnc (by decide) (wnc (by omega) wn0))))))))))) c0130x)))
          have e195x := (f191x.2 _ _ (wnc (by decide) wn0) (f185x.2 _ _ (wnc (by decide) wn0) j1))
          have e196x := (f191x.2 _ _ (wnc (by decide) wn0) (f185x.2 _ _ (wnc (by decide) wn0) j2))
          have e197x := (f191x.2 _ _ (wnc (by decide) wn0) (f185x.2 _ _ (wnc (by decide) wn0) j3))
          have e198x := (f191x.2 _ _ (wnc (by decide) wn0) (f185x.2 _ _ (wnc (by decide) wn0) j4))
          have e199x := (f191x.2 _ _ (wnc (by decide) wn0) (f185x.2 _ _ (wnc (by decide) wn0) j5))
          have e200x := (f191x.2 _ _ (wnc (by decide) wn0) (f185x.2 _ _ (wnc (by decide) wn0) j6))
          have e201x := (f191x.2 _ _ (wnc (by decide) wn0) (f185x.2 _ _ (wnc (by decide) wn0) j7))
          have e202x := (f191x.2 _ _ (wnc (by omega) wn0) (f185x.2 _ _ (wnc (by omega) wn0) j8))
          have e203x := (f191x.2 _ _ (wnc (by omega) wn0) e188x)
          have e204x := (f191x.2 _ _ (wnc (by omega) wn0) (f185x.2 _ _ (wnc (by omega) wn0) j10))
          have e205x := (f191x.2 _ _ (wnc (by omega) wn0) (f185x.2 _ _ (wnc (by omega) wn0) j11))
          refine wq_ls [(0, .ref 74), (1, .int 1), (2, .int 0), (3, .int (nI (b ||| (2 ^ w)))), (4, .int (nI (i + 1)))] (show ([0, 1, 2, 3, 4] : List Nat).Nodup by decide) ⟨rfl, rfl, rfl, rfl, rfl, trivial⟩ ?_
          exact kB h189x (1 : Int32) (0 : Int32) rL2 cap2 rv2 sc2 nf2 (1 : Int32) ks2 fa2 tg2 hp2 sh2 el2 wr2 ou2 bh2 li2 so2 (dc + d) (ds + s) (wFr_tr (wFr_sub f8130x (by simp)) (wFr_tr (wFr_sub f8 (by simp)) (wFr_tr (wFr_sub f185x (by simp)) (wFr_sub f191x (by simp))))) (by omega) e190x e193x e194x e195x e196x e197x e198x e199x e200x e201x e202x e203x e204x e205x (by first | omega | assumption | decide | solve_by_elim) (by first | omega | assumption | decide | solve_by_elim) (by first | omega | assumption | decide | solve_by_elim) rfl j12 ⟨j13, by omega⟩ (by first | omega | assumption | decide | solve_by_elim) (by first | omega | assumption | decide | solve_by_elim) (by first | omega | assumption | decide | solve_by_elim) (by first | omega | assumption | decide | solve_by_elim) (by first | omega | assumption | decide | solve_by_elim) (by omega) (by omega)
        · refine wq_gos (f := 1) (pc2 := 15) (ls2 := [(0, .ref (102 + 6 * w))]) (st2 := [.int 1]) (h2 := h8) (dc2 := 0) (ds2 := 0) 2 rfl ?_
          refine wq_ret rfl rfl ?_
          show wq 28 141 [(1, .int 1), (3, .int (nI (b ||| (2 ^ w)))), (6, .ref (102 + 6 * w)), (5, .int (nI w)), (0, .ref 74), (2, .int tm), (4, .int (nI i))] [.int 1] h8 (dc + d) (ds + s) _
          refine wq_gos (f := 1) (pc2 := 151) (ls2 := [(2, .int 1), (1, .int 1), (3, .int (nI (b ||| (2 ^ w)))), (6, .ref (102 + 6 * w)), (5, .int (nI w)), (0, .ref 74), (4, .int (nI i))]) (st2 := [.ref 74]) (h2 := h8) (dc2 := (dc + d)) (ds2 := (ds + s)) 5 rfl ?_
          have e206x := (f8.2 _ _ (wnc (by omega) (wnc (by omega) (wnc (by omega) (wnc (by decide) (wnc (by decide) (wnc (by decide) (wnc (by decide) (wnc (by decide) (wnc (by decide) (wnc (by decide) (wnc (by omega) wn0))))))))))) e133x)
          refine wq_getf rfl e206x rfl rfl ?_
          refine wq_gos (f := 1) (pc2 := 157) (ls2 := [(2, .int 1), (1, .int 1), (3, .int (nI (b ||| (2 ^ w)))), (6, .ref (102 + 6 * w)), (5, .int (nI w)), (0, .ref 74), (4, .int (nI i))]) (st2 := [.ref 74, .int (nI i), .ref 96]) (h2 := h8) (dc2 := (dc + d)) (ds2 := (ds + s)) 2 rfl ?_
          refine wq_getf rfl e206x rfl rfl ?_
          have e207x := (f8.2 _ _ (wnc (by omega) (wnc (by omega) (wnc (by omega) (wnc (by decide) (wnc (by decide) (wnc (by decide) (wnc (by decide) (wnc (by decide) (wnc (by decide) (wnc (by decide) (wnc (by omega) wn0))))))))))) (f8130x.2 _ _ (wnc (by decide) wn0) hF))
          refine wq_iastn rfl e207x (by first | omega | exact zin_t (by omega) (by omega)) (by decide) rfl ?_
          intro h208x e209x f210x l211x
          have e209x : zat h208x 96 = some (.inl (0, 10, (zset 0 fi i (nI al)))) := e209x
          refine wq_gos (f := 1) (pc2 := 163) (ls2 := [(2, .int 1), (1, .int 1), (3, .int (nI (b ||| (2 ^ w)))), (6, .ref (102 + 6 * w)), (5, .int (nI w)), (0, .ref 74), (4, .int (nI i))]) (st2 := [.ref 74, .ref 74]) (h2 := h208x) (dc2 := (dc + d)) (ds2 := (ds + s)) 2 rfl ?_
          have e212x := (f210x.2 _ _ (wnc (by decide) wn0) e206x)
          refine wq_getf rfl e212x rfl rfl ?_
          refine wq_gos (f := 1) (pc2 := 168) (ls2 := [(2, .int 1), (1, .int 1), (3, .int (nI (b ||| (2 ^ w)))), (6, .ref (102 + 6 * w)), (5, .int (nI w)), (0, .ref 74), (4, .int (nI i))]) (st2 := [.ref (102 + 6 * w), .int (nI al), .ref 74]) (h2 := h208x) (dc2 := (dc + d)) (ds2 := (ds + s)) 1 rfl ?_
          have e213x := (f210x.2 _ _ (wnc (by omega) wn0) j9)
          refine wq_getf rfl e213x rfl rfl ?_
          refine wq_gos (f := 1) (pc2 := 174) (ls2 := [(2, .int 1), (1, .int 1), (3, .int (nI (b ||| (2 ^ w)))), (6, .ref (102 + 6 * w)), (5, .int (nI w)), (0, .ref 74), (4, .int (nI i))]) (st2 := [.int 600, .int (nI (sSolL ll lg lk hd ht (jPlo lk hd ht (po.getD w 0) hpl) 64 (-32)).length), .int (nI al), .ref 74]) (h2 := h208x) (dc2 := (dc + d)) (ds2 := (ds + s)) 1 rfl ?_
          refine wq_inl (y2 := 285) (as := [.int (nI (sSolL ll lg lk hd ht (jPlo lk hd ht (po.getD w 0) hpl) 64 (-32)).length), .int 600]) rfl rfl rfl (wq_T (c_min (nI (sSolL ll lg lk hd ht (jPlo lk hd ht (po.getD w 0) hpl) 64 (-32)).length) (600 : Int32) h208x) ?_)
          show wq 28 177 [(2, .int 1), (1, .int 1), (3, .int (nI (b ||| (2 ^ w)))), (6, .ref (102 + 6 * w)), (5, .int (nI w)), (0, .ref 74), (4, .int (nI i))] [.int (jmin (nI (sSolL ll lg lk hd ht (jPlo lk hd ht (po.getD w 0) hpl) 64 (-32)).length) (600 : Int32)), .int (nI al), .ref 74] h208x (dc + d) (ds + s) _
          refine wq_vi (show (jmin (nI (sSolL ll lg lk hd ht (jPlo lk hd ht (po.getD w 0) hpl) 64 (-32)).length) (600 : Int32)) = nI (min ((sSolL ll lg lk hd ht (jPlo lk hd ht (po.getD w 0) hpl) 64 (-32)).length) 600) from jmin_n (a := ((sSolL ll lg lk hd ht (jPlo lk hd ht (po.getD w 0) hpl) 64 (-32)).length)) (b := 600) (by omega) (by omega)) ?_
          refine wq_gos (f := 1) (pc2 := 178) (ls2 := [(2, .int 1), (1, .int 1), (3, .int (nI (b ||| (2 ^ w)))), (6, .ref (102 + 6 * w)), (5, .int (nI w)), (0, .ref 74), (4, .int (nI i))]) (st2 := [.int ((nI al) + (nI (min ((sSolL ll lg lk hd ht (jPlo lk hd ht (po.getD w 0) hpl) 64 (-32)).length) 600))), .ref 74]) (h2 := h208x) (dc2 := (dc + d)) (ds2 := (ds + s)) 1 rfl ?_
          refine wq_vi (show (nI al) + (nI (min ((sSolL ll lg lk hd ht (jPlo lk hd ht (po.getD w 0) hpl) 64 (-32)).length) 600)) = nI (al + (min ((sSolL ll lg lk hd ht (jPlo lk hd ht (po.getD w 0) hpl) 64 (-32)).length) 600)) from nI_add al (min ((sSolL ll lg lk hd ht (jPlo lk hd ht (po.getD w 0) hpl) 64 (-32)).length) 600)) ?_
          refine wq_putf rfl e212x rfl rfl rfl ?_
          intro h214x e215x f216x l217x
          have e215x : zat h214x 74 = some (.inr (.inr (.inr (3, [.ref 44, .ref ra, .ref 76, .ref 78, .ref 80, .ref 88, .int wg, .int ob, .ref 96, .int (nI (al + (min ((sSolL ll lg lk hd ht (jPlo lk hd ht (po.getD w 0) hpl) 64 (-32)).length) 600))), .int pr9, .int sr9, .ref rp, .ref rs, .int fw])))) := e215x
          refine wq_gos (f := 1) (pc2 := 184) (ls2 := [(4, .int ((nI i) + 1)), (2, .int 1), (1, .int 1), (3, .int (nI (b ||| (2 ^ w)))), (6, .ref (102 + 6 * w)), (5, .int (nI w)), (0, .ref 74)]) (st2 := []) (h2 := h214x) (dc2 := (dc + d)) (ds2 := (ds + s)) 1 rfl ?_
          rw [nI_1]
          refine wq_gos (f := 1) (pc2 := 27) (ls2 := [(4, .int (nI (i + 1))), (2, .int 1), (1, .int 1), (3, .int (nI (b ||| (2 ^ w)))), (6, .ref (102 + 6 * w)), (5, .int (nI w)), (0, .ref 74)]) (st2 := []) (h2 := h214x) (dc2 := (dc + d)) (ds2 := (ds + s)) 1 rfl ?_
          have e218x := (f216x.2 _ _ (wnc (by decide) wn0) e209x)
          have e219x := (f216x.2 _ _ (wnc (by decide) wn0) (f210x.2 _ _ (wnc (by decide) wn0) (f8.2 _ _ (wnc (by omega) (wnc (by omega) (wnc (by omega) (wnc (by decide) (wnc (by decide) (wnc (by decide) (wnc (by decide) (wnc (by decide) (wnc (by decide) (wnc (by decide) (wnc (by omega) wn0))))))))))) c0130x)))
          have e220x := (f216x.2 _ _ (wnc (by decide) wn0) (f210x.2 _ _ (wnc (by decide) wn0) j1))
          have e221x := (f216x.2 _ _ (wnc (by decide) wn0) (f210x.2 _ _ (wnc (by decide) wn0) j2))
          have e222x := (f216x.2 _ _ (wnc (by decide) wn0) (f210x.2 _ _ (wnc (by decide) wn0) j3))
          have e223x := (f216x.2 _ _ (wnc (by decide) wn0) (f210x.2 _ _ (wnc (by decide) wn0) j4))
          have e224x := (f216x.2 _ _ (wnc (by decide) wn0) (f210x.2 _ _ (wnc (by decide) wn0) j5))
          have e225x := (f216x.2 _ _ (wnc (by decide) wn0) (f210x.2 _ _ (wnc (by decide) wn0) j6))
          have e226x := (f216x.2 _ _ (wnc (by decide) wn0) (f210x.2 _ _ (wnc (by decide) wn0) j7))
          have e227x := (f216x.2 _ _ (wnc (by omega) wn0) (f210x.2 _ _ (wnc (by omega) wn0) j8))
          have e228x := (f216x.2 _ _ (wnc (by omega) wn0) e213x)
          have e229x := (f216x.2 _ _ (wnc (by omega) wn0) (f210x.2 _ _ (wnc (by omega) wn0) j10))
          have e230x := (f216x.2 _ _ (wnc (by omega) wn0) (f210x.2 _ _ (wnc (by omega) wn0) j11))
          refine wq_ls [(0, .ref 74), (1, .int 1), (2, .int 1), (3, .int (nI (b ||| (2 ^ w)))), (4, .int (nI (i + 1)))] (show ([0, 1, 2, 3, 4] : List Nat).Nodup by decide) ⟨rfl, rfl, rfl, rfl, rfl, trivial⟩ ?_
          exact kB h214x (1 : Int32) (1 : Int32) rL2 cap2 rv2 sc2 nf2 (1 : Int32) ks2 fa2 tg2 hp2 sh2 el2 wr2 ou2 bh2 li2 so2 (dc + d) (ds + s) (wFr_tr (wFr_sub f8130x (by simp)) (wFr_tr (wFr_sub f8 (by simp)) (wFr_tr (wFr_sub f210x (by simp)) (wFr_sub f216x (by simp))))) (by omega) e215x e218x e219x e220x e221x e222x e223x e224x e225x e226x e227x e228x e229x e230x (by first | omega | assumption | decide | solve_by_elim) (by first | omega | assumption | decide | solve_by_elim) (by first | omega | assumption | decide | solve_by_elim) rfl j12 ⟨j13, by omega⟩ (by first | omega | assumption | decide | solve_by_elim) (by first | omega | assumption | decide | solve_by_elim) (by first | omega | assumption | decide | solve_by_elim) (by first | omega | assumption | decide | solve_by_elim) (by first | omega | assumption | decide | solve_by_elim) (by omega) (by omega)
    · have q231x : no.toInt = 0 := congrArg Int32.toInt b148x
      refine wq_gos (f := 1) (pc2 := 120) (ls2 := [(3, .int (nI (b ||| (2 ^ w)))), (6, .ref (102 + 6 * w)), (5, .int (nI w)), (0, .ref 74), (1, .int no), (2, .int tm), (4, .int (nI i))]) (st2 := [.ref (102 + 6 * w)]) (h2 := h8) (dc2 := (dc + d)) (ds2 := (ds + s)) 1 rfl ?_
      refine wq_getf rfl j9 rfl rfl ?_
      try have q232x := nI_toInt (n := (sSolL ll lg lk hd ht (jPlo lk hd ht (po.getD w 0) hpl) 64 (-32)).length) (by omega)
      refine wq_ne0 rfl rfl (fun b233x => ?_) (fun b233x => ?_)
      · have q234x : (nI (sSolL ll lg lk hd ht (jPlo lk hd ht (po.getD w 0) hpl) 64 (-32)).length).toInt ≠ 0 := fun q => b233x (Int32.toInt_inj.mp q)
        refine wq_gos (f := 1) (pc2 := 133) (ls2 := [(1, .int 0), (3, .int (nI (b ||| (2 ^ w)))), (6, .ref (102 + 6 * w)), (5, .int (nI w)), (0, .ref 74), (2, .int tm), (4, .int (nI i))]) (st2 := [.int tm]) (h2 := h8) (dc2 := (dc + d)) (ds2 := (ds + s)) 3 rfl ?_
        refine wq_ne0 rfl rfl (fun b235x => ?_) (fun b235x => ?_)
        · have q236x : tm.toInt ≠ 0 := fun q => b235x (Int32.toInt_inj.mp q)
          refine wq_gos (f := 1) (pc2 := 151) (ls2 := [(2, .int 1), (1, .int 0), (3, .int (nI (b ||| (2 ^ w)))), (6, .ref (102 + 6 * w)), (5, .int (nI w)), (0, .ref 74), (4, .int (nI i))]) (st2 := [.ref 74]) (h2 := h8) (dc2 := (dc + d)) (ds2 := (ds + s)) 4 rfl ?_
          have e237x := (f8.2 _ _ (wnc (by omega) (wnc (by omega) (wnc (by omega) (wnc (by decide) (wnc (by decide) (wnc (by decide) (wnc (by decide) (wnc (by decide) (wnc (by decide) (wnc (by decide) (wnc (by omega) wn0))))))))))) e133x)
          refine wq_getf rfl e237x rfl rfl ?_
          refine wq_gos (f := 1) (pc2 := 157) (ls2 := [(2, .int 1), (1, .int 0), (3, .int (nI (b ||| (2 ^ w)))), (6, .ref (102 + 6 * w)), (5, .int (nI w)), (0, .ref 74), (4, .int (nI i))]) (st2 := [.ref 74, .int (nI i), .ref 96]) (h2 := h8) (dc2 := (dc + d)) (ds2 := (ds + s)) 2 rfl ?_
          refine wq_getf rfl e237x rfl rfl ?_
          have e238x := (f8.2 _ _ (wnc (by omega) (wnc (by omega) (wnc (by omega) (wnc (by decide) (wnc (by decide) (wnc (by decide) (wnc (by decide) (wnc (by decide) (wnc (by decide) (wnc (by decide) (wnc (by omega) wn0))))))))))) (f8130x.2 _ _ (wnc (by decide) wn0) hF))
          refine wq_iastn rfl e238x (by first | omega | exact zin_t (by omega) (by omega)) (by decide) rfl ?_
          intro h239x e240x f241x l242x
          have e240x : zat h239x 96 = some (.inl (0, 10, (zset 0 fi i (nI al)))) := e240x
          refine wq_gos (f := 1) (pc2 := 163) (ls2 := [(2, .int 1), (1, .int 0), (3, .int (nI (b ||| (2 ^ w)))), (6, .ref (102 + 6 * w)), (5, .int (nI w)), (0, .ref 74), (4, .int (nI i))]) (st2 := [.ref 74, .ref 74]) (h2 := h239x) (dc2 := (dc + d)) (ds2 := (ds + s)) 2 rfl ?_
          have e243x := (f241x.2 _ _ (wnc (by decide) wn0) e237x)
          refine wq_getf rfl e243x rfl rfl ?_
          refine wq_gos (f := 1) (pc2 := 168) (ls2 := [(2, .int 1), (1, .int 0), (3, .int (nI (b ||| (2 ^ w)))), (6, .ref (102 + 6 * w)), (5, .int (nI w)), (0, .ref 74), (4, .int (nI i))]) (st2 := [.ref (102 + 6 * w), .int (nI al), .ref 74]) (h2 := h239x) (dc2 := (dc + d)) (ds2 := (ds + s)) 1 rfl ?_
          have e244x := (f241x.2 _ _ (wnc (by omega) wn0) j9)
          refine wq_getf rfl e244x rfl rfl ?_
          refine wq_gos (f := 1) (pc2 := 174) (ls2 := [(2, .int 1), (1, .int 0), (3, .int (nI (b ||| (2 ^ w)))), (6, .ref (102 + 6 * w)), (5, .int (nI w)), (0, .ref 74), (4, .int (nI i))]) (st2 := [.int 600, .int (nI (sSolL ll lg lk hd ht (jPlo lk hd ht (po.getD w 0) hpl) 64 (-32)).length), .int (nI al), .ref 74]) (h2 := h239x) (dc2 := (dc + d)) (ds2 := (ds + s)) 1 rfl ?_
          refine wq_inl (y2 := 285) (as := [.int (nI (sSolL ll lg lk hd ht (jPlo lk hd ht (po.getD w 0) hpl) 64 (-32)).length), .int 600]) rfl rfl rfl (wq_T (c_min (nI (sSolL ll lg lk hd ht (jPlo lk hd ht (po.getD w 0) hpl) 64 (-32)).length) (600 : Int32) h239x) ?_)
          show wq 28 177 [(2, .int 1), (1, .int 0), (3, .int (nI (b ||| (2 ^ w)))), (6, .ref (102 + 6 * w)), (5, .int (nI w)), (0, .ref 74), (4, .int (nI i))] [.int (jmin (nI (sSolL ll lg lk hd ht (jPlo lk hd ht (po.getD w 0) hpl) 64 (-32)).length) (600 : Int32)), .int (nI al), .ref 74] h239x (dc + d) (ds + s) _
          refine wq_vi (show (jmin (nI (sSolL ll lg lk hd ht (jPlo lk hd ht (po.getD w 0) hpl) 64 (-32)).length) (600 : Int32)) = nI (min ((sSolL ll lg lk hd ht (jPlo lk hd ht (po.getD w 0) hpl) 64 (-32)).length) 600) from jmin_n (a := ((sSolL ll lg lk hd ht (jPlo lk hd ht (po.getD w 0) hpl) 64 (-32)).length)) (b := 600) (by omega) (by omega)) ?_
          refine wq_gos (f := 1) (pc2 := 178) (ls2 := [(2, .int 1), (1, .int 0), (3, .int (nI (b ||| (2 ^ w)))), (6, .ref (102 + 6 * w)), (5, .int (nI w)), (0, .ref 74), (4, .int (nI i))]) (st2 := [.int ((nI al) + (nI (min ((sSolL ll lg lk hd ht (jPlo lk hd ht (po.getD w 0) hpl) 64 (-32)).length) 600))), .ref 74]) (h2 := h239x) (dc2 := (dc + d)) (ds2 := (ds + s)) 1 rfl ?_
          refine wq_vi (show (nI al) + (nI (min ((sSolL ll lg lk hd ht (jPlo lk hd ht (po.getD w 0) hpl) 64 (-32)).length) 600)) = nI (al + (min ((sSolL ll lg lk hd ht (jPlo lk hd ht (po.getD w 0) hpl) 64 (-32)).length) 600)) from nI_add al (min ((sSolL ll lg lk hd ht (jPlo lk hd ht (po.getD w 0) hpl) 64 (-32)).length) 600)) ?_
          refine wq_putf rfl e243x rfl rfl rfl ?_
          intro h245x e246x f247x l248x
          have e246x : zat h245x 74 = some (.inr (.inr (.inr (3, [.ref 44, .ref ra, .ref 76, .ref 78, .ref 80, .ref 88, .int wg, .int ob, .ref 96, .int (nI (al + (min ((sSolL ll lg lk hd ht (jPlo lk hd ht (po.getD w 0) hpl) 64 (-32)).length) 600))), .int pr9, .int sr9, .ref rp, .ref rs, .int fw])))) := e246x
          refine wq_gos (f := 1) (pc2 := 184) (ls2 := [(4, .int ((nI i) + 1)), (2, .int 1), (1, .int 0), (3, .int (nI (b ||| (2 ^ w)))), (6, .ref (102 + 6 * w)), (5, .int (nI w)), (0, .ref 74)]) (st2 := []) (h2 := h245x) (dc2 := (dc + d)) (ds2 := (ds + s)) 1 rfl ?_
          rw [nI_1]
          refine wq_gos (f := 1) (pc2 := 27) (ls2 := [(4, .int (nI (i + 1))), (2, .int 1), (1, .int 0), (3, .int (nI (b ||| (2 ^ w)))), (6, .ref (102 + 6 * w)), (5, .int (nI w)), (0, .ref 74)]) (st2 := []) (h2 := h245x) (dc2 := (dc + d)) (ds2 := (ds + s)) 1 rfl ?_
          have e249x := (f247x.2 _ _ (wnc (by decide) wn0) e240x)
          have e250x := (f247x.2 _ _ (wnc (by decide) wn0) (f241x.2 _ _ (wnc (by decide) wn0) (f8.2 _ _ (wnc (by omega) (wnc (by omega) (wnc (by omega) (wnc (by decide) (wnc (by decide) (wnc (by decide) (wnc (by decide) (wnc (by decide) (wnc (by decide) (wnc (by decide) (wnc (by omega) wn0))))))))))) c0130x)))
          have e251x := (f247x.2 _ _ (wnc (by decide) wn0) (f241x.2 _ _ (wnc (by decide) wn0) j1))
          have e252x := (f247x.2 _ _ (wnc (by decide) wn0) (f241x.2 _ _ (wnc (by decide) wn0) j2))
          have e253x := (f247x.2 _ _ (wnc (by decide) wn0) (f241x.2 _ _ (wnc (by decide) wn0) j3))
          have e254x := (f247x.2 _ _ (wnc (by decide) wn0) (f241x.2 _ _ (wnc (by decide) wn0) j4))
          have e255x := (f247x.2 _ _ (wnc (by decide) wn0) (f241x.2 _ _ (wnc (by decide) wn0) j5))
          have e256x := (f247x.2 _ _ (wnc (by decide) wn0) (f241x.2 _ _ (wnc (by decide) wn0) j6))
          have e257x := (f247x.2 _ _ (wnc (by decide) wn0) (f241x.2 _ _ (wnc (by decide) wn0) j7))
          have e258x := (f247x.2 _ _ (wnc (by omega) wn0) (f241x.2 _ _ (wnc (by omega) wn0) j8))
          have e259x := (f247x.2 _ _ (wnc (by omega) wn0) e244x)
          have e260x := (f247x.2 _ _ (wnc (by omega) wn0) (f241x.2 _ _ (wnc (by omega) wn0) j10))
          have e261x := (f247x.2 _ _ (wnc (by omega) wn0) (f241x.2 _ _ (wnc (by omega) wn0) j11))
          refine wq_ls [(0, .ref 74), (1, .int 0), (2, .int 1), (3, .int (nI (b ||| (2 ^ w)))), (4, .int (nI (i + 1)))] (show ([0, 1, 2, 3, 4] : List Nat).Nodup by decide) ⟨rfl, rfl, rfl, rfl, rfl, trivial⟩ ?_
          exact kB h245x (0 : Int32) (1 : Int32) rL2 cap2 rv2 sc2 nf2 (1 : Int32) ks2 fa2 tg2 hp2 sh2 el2 wr2 ou2 bh2 li2 so2 (dc + d) (ds + s) (wFr_tr (wFr_sub f8130x (by simp)) (wFr_tr (wFr_sub f8 (by simp)) (wFr_tr (wFr_sub f241x (by simp)) (wFr_sub f247x (by simp))))) (by omega) e246x e249x e250x e251x e252x e253x e254x e255x e256x e257x e258x e259x e260x e261x (by first | omega | assumption | decide | solve_by_elim) (by first | omega | assumption | decide | solve_by_elim) (by first | omega | assumption | decide | solve_by_elim) rfl j12 ⟨j13, by omega⟩ (by first | omega | assumption | decide | solve_by_elim) (by first | omega | assumption | decide | solve_by_elim) (by first | omega | assumption | decide | solve_by_elim) (by first | omega | assumption | decide | solve_by_elim) (by first | omega | assumption | decide | solve_by_elim) (by omega) (by omega)
        · have q262x : tm.toInt = 0 := congrArg Int32.toInt b235x
          refine wq_gos (f := 1) (pc2 := 138) (ls2 := [(1, .int 0), (3, .int (nI (b ||| (2 ^ w)))), (6, .ref (102 + 6 * w)), (5, .int (nI w)), (0, .ref 74), (2, .int tm), (4, .int (nI i))]) (st2 := [.ref (102 + 6 * w)]) (h2 := h8) (dc2 := (dc + d)) (ds2 := (ds + s)) 1 rfl ?_
          refine wq_inlv (y2 := 16) (as := []) rfl rfl rfl j9 rfl ?_
          show wq 16 0 [(0, .ref (102 + 6 * w))] [] h8 0 0 _
          refine wq_gos (f := 1) (pc2 := 1) (ls2 := [(0, .ref (102 + 6 * w))]) (st2 := [.ref (102 + 6 * w)]) (h2 := h8) (dc2 := 0) (ds2 := 0) 1 rfl ?_
          refine wq_getf rfl j9 rfl rfl ?_
          refine wq_gos (f := 1) (pc2 := 7) (ls2 := [(0, .ref (102 + 6 * w))]) (st2 := [.int 600, .int (nI (sSolL ll lg lk hd ht (jPlo lk hd ht (po.getD w 0) hpl) 64 (-32)).length)]) (h2 := h8) (dc2 := 0) (ds2 := 0) 1 rfl ?_
          have q263x : (600 : Int32).toInt = 600 := rfl
          refine wq_le2 rfl rfl (fun b264x => ?_) (fun b264x => ?_)
          · refine wq_gos (f := 1) (pc2 := 15) (ls2 := [(0, .ref (102 + 6 * w))]) (st2 := [.int 0]) (h2 := h8) (dc2 := 0) (ds2 := 0) 1 rfl ?_
            refine wq_ret rfl rfl ?_
            show wq 28 141 [(1, .int 0), (3, .int (nI (b ||| (2 ^ w)))), (6, .ref (102 + 6 * w)), (5, .int (nI w)), (0, .ref 74), (2, .int tm), (4, .int (nI i))] [.int 0] h8 (dc + d) (ds + s) _
            refine wq_gos (f := 1) (pc2 := 151) (ls2 := [(2, .int 0), (1, .int 0), (3, .int (nI (b ||| (2 ^ w)))), (6, .ref (102 + 6 * w)), (5, .int (nI w)), (0, .ref 74), (4, .int (nI i))]) (st2 := [.ref 74]) (h2 := h8) (dc2 := (dc + d)) (ds2 := (ds + s)) 4 rfl ?_
            have e265x := (f8.2 _ _ (wnc (by omega) (wnc (by omega) (wnc (by omega) (wnc (by decide) (wnc (by decide) (wnc (by decide) (wnc (by decide) (wnc (by decide) (wnc (by decide) (wnc (by decide) (wnc (by omega) wn0))))))))))) e133x)
            refine wq_getf rfl e265x rfl rfl ?_
            refine wq_gos (f := 1) (pc2 := 157) (ls2 := [(2, .int 0), (1, .int 0), (3, .int (nI (b ||| (2 ^ w)))), (6, .ref (102 + 6 * w)), (5, .int (nI w)), (0, .ref 74), (4, .int (nI i))]) (st2 := [.ref 74, .int (nI i), .ref 96]) (h2 := h8) (dc2 := (dc + d)) (ds2 := (ds + s)) 2 rfl ?_
            refine wq_getf rfl e265x rfl rfl ?_
            have e266x := (f8.2 _ _ (wnc (by omega) (wnc (by omega) (wnc (by omega) (wnc (by decide) (wnc (by decide) (wnc (by decide) (wnc (by decide) (wnc (by decide) (wnc (by decide) (wnc (by decide) (wnc (by omega) wn0))))))))))) (f8130x.2 _ _ (wnc (by decide) wn0) hF))
            refine wq_iastn rfl e266x (by first | omega | exact zin_t (by omega) (by omega)) (by decide) rfl ?_
            intro h267x e268x f269x l270x
            have e268x : zat h267x 96 = some (.inl (0, 10, (zset 0 fi i (nI al)))) := e268x
            refine wq_gos (f := 1) (pc2 := 163) (ls2 := [(2, .int 0), (1, .int 0), (3, .int (nI (b ||| (2 ^ w)))), (6, .ref (102 + 6 * w)), (5, .int (nI w)), (0, .ref 74), (4, .int (nI i))]) (st2 := [.ref 74, .ref 74]) (h2 := h267x) (dc2 := (dc + d)) (ds2 := (ds + s)) 2 rfl ?_
            have e271x := (f269x.2 _ _ (wnc (by decide) wn0) e265x)
            refine wq_getf rfl e271x rfl rfl ?_
            refine wq_gos (f := 1) (pc2 := 168) (ls2 := [(2, .int 0), (1, .int 0), (3, .int (nI (b ||| (2 ^ w)))), (6, .ref (102 + 6 * w)), (5, .int (nI w)), (0, .ref 74), (4, .int (nI i))]) (st2 := [.ref (102 + 6 * w), .int (nI al), .ref 74]) (h2 := h267x) (dc2 := (dc + d)) (ds2 := (ds + s)) 1 rfl ?_
            have e272x := (f269x.2 _ _ (wnc (by omega) wn0) j9)
            refine wq_getf rfl e272x rfl rfl ?_
            refine wq_gos (f := 1) (pc2 := 174) (ls2 := [(2, .int 0), (1, .int 0), (3, .int (nI (b ||| (2 ^ w)))), (6, .ref (102 + 6 * w)), (5, .int (nI w)), (0, .ref 74), (4, .int (nI i))]) (st2 := [.int 600, .int (nI (sSolL ll lg lk hd ht (jPlo lk hd ht (po.getD w 0) hpl) 64 (-32)).length), .int (nI al), .ref 74]) (h2 := h267x) (dc2 := (dc + d)) (ds2 := (ds + s)) 1 rfl ?_
            refine wq_inl (y2 := 285) (as := [.int (nI (sSolL ll lg lk hd ht (jPlo lk hd ht (po.getD w 0) hpl) 64 (-32)).length), .int 600]) rfl rfl rfl (wq_T (c_min (nI (sSolL ll lg lk hd ht (jPlo lk hd ht (po.getD w 0) hpl) 64 (-32)).length) (600 : Int32) h267x) ?_)
            show wq 28 177 [(2, .int 0), (1, .int 0), (3, .int (nI (b ||| (2 ^ w)))), (6, .ref (102 + 6 * w)), (5, .int (nI w)), (0, .ref 74), (4, .int (nI i))] [.int (jmin (nI (sSolL ll lg lk hd ht (jPlo lk hd ht (po.getD w 0) hpl) 64 (-32)).length) (600 : Int32)), .int (nI al), .ref 74] h267x (dc + d) (ds + s) _
            refine wq_vi (show (jmin (nI (sSolL ll lg lk hd ht (jPlo lk hd ht (po.getD w 0) hpl) 64 (-32)).length) (600 : Int32)) = nI (min ((sSolL ll lg lk hd ht (jPlo lk hd ht (po.getD w 0) hpl) 64 (-32)).length) 600) from jmin_n (a := ((sSolL ll lg lk hd ht (jPlo lk hd ht (po.getD w 0) hpl) 64 (-32)).length)) (b := 600) (by omega) (by omega)) ?_
            refine wq_gos (f := 1) (pc2 := 178) (ls2 := [(2, .int 0), (1, .int 0), (3, .int (nI (b ||| (2 ^ w)))), (6, .ref (102 + 6 * w)), (5, .int (nI w)), (0, .ref 74), (4, .int (nI i))]) (st2 := [.int ((nI al) + (nI (min ((sSolL ll lg lk hd ht (jPlo lk hd ht (po.getD w 0) hpl) 64 (-32)).length) 600))), .ref 74]) (h2 := h267x) (dc2 := (dc + d)) (ds2 := (ds + s)) 1 rfl ?_
            refine wq_vi (show (nI al) + (nI (min ((sSolL ll lg lk hd ht (jPlo lk hd ht (po.getD w 0) hpl) 64 (-32)).length) 600)) = nI (al + (min ((sSolL ll lg lk hd ht (jPlo lk hd ht (po.getD w 0) hpl) 64 (-32)).length) 600)) from nI_add al (min ((sSolL ll lg lk hd ht (jPlo lk hd ht (po.getD w 0) hpl) 64 (-32)).length) 600)) ?_
            refine wq_putf rfl e271x rfl rfl rfl ?_
            intro h273x e274x f275x l276x
            have e274x : zat h273x 74 = some (.inr (.inr (.inr (3, [.ref 44, .ref ra, .ref 76, .ref 78, .ref 80, .ref 88, .int wg, .int ob, .ref 96, .int (nI (al + (min ((sSolL ll lg lk hd ht (jPlo lk hd ht (po.getD w 0) hpl) 64 (-32)).length) 600))), .int pr9, .int sr9, .ref rp, .ref rs, .int fw])))) := e274x
            refine wq_gos (f := 1) (pc2 := 184) (ls2 := [(4, .int ((nI i) + 1)), (2, .int 0), (1, .int 0), (3, .int (nI (b ||| (2 ^ w)))), (6, .ref (102 + 6 * w)), (5, .int (nI w)), (0, .ref 74)]) (st2 := []) (h2 := h273x) (dc2 := (dc + d)) (ds2 := (ds + s)) 1 rfl ?_
            rw [nI_1]
            refine wq_gos (f := 1) (pc2 := 27) (ls2 := [(4, .int (nI (i + 1))), (2, .int 0), (1, .int 0), (3, .int (nI (b ||| (2 ^ w)))), (6, .ref (102 + 6 * w)), (5, .int (nI w)), (0, .ref 74)]) (st2 := []) (h2 := h273x) (dc2 := (dc + d)) (ds2 := (ds + s)) 1 rfl ?_
            have e277x := (f275x.2 _ _ (wnc (by decide) wn0) e268x)
            have e278x := (f275x.2 _ _ (wnc (by decide) wn0) (f269x.2 _ _ (wnc (by decide) wn0) (f8.2 _ _ (wnc (by omega) (wnc (by omega) (wnc (by omega) (wnc (by decide) (wnc (by decide) (wnc (by decide) (wnc (by decide) (wnc (by decide) (wnc (by decide) (wnc (by decide) (wnc (by omega) wn0))))))))))) c0130x)))
            have e279x := (f275x.2 _ _ (wnc (by decide) wn0) (f269x.2 _ _ (wnc (by decide) wn0) j1))
            have e280x := (f275x.2 _ _ (wnc (by decide) wn0) (f269x.2 _ _ (wnc (by decide) wn0) j2))
            have e281x := (f275x.2 _ _ (wnc (by decide) wn0) (f269x.2 _ _ (wnc (by decide) wn0) j3))
            have e282x := (f275x.2 _ _ (wnc (by decide) wn0) (f269x.2 _ _ (wnc (by decide) wn0) j4))
            have e283x := (f275x.2 _ _ (wnc (by decide) wn0) (f269x.2 _ _ (wnc (by decide) wn0) j5))
            have e284x := (f275x.2 _ _ (wnc (by decide) wn0) (f269x.2 _ _ (wnc (by decide) wn0) j6))
            have e285x := (f275x.2 _ _ (wnc (by decide) wn0) (f269x.2 _ _ (wnc (by decide) wn0) j7))
            have e286x := (f275x.2 _ _ (wnc (by omega) wn0) (f269x.2 _ _ (wnc (by omega) wn0) j8))
            have e287x := (f275x.2 _ _ (wnc (by omega) wn0) e272x)
            have e288x := (f275x.2 _ _ (wnc (by omega) wn0) (f269x.2 _ _ (wnc (by omega) wn0) j10))
            have e289x := (f275x.2 _ _ (wnc (by omega) wn0) (f269x.2 _ _ (wnc (by omega) wn0) j11))
            refine wq_ls [(0, .ref 74), (1, .int 0), (2, .int 0), (3, .int (nI (b ||| (2 ^ w)))), (4, .int (nI (i + 1)))] (show ([0, 1, 2, 3, 4] : List Nat).Nodup by decide) ⟨rfl, rfl, rfl, rfl, rfl, trivial⟩ ?_
            exact kB h273x (0 : Int32) (0 : Int32) rL2 cap2 rv2 sc2 nf2 (1 : Int32) ks2 fa2 tg2 hp2 sh2 el2 wr2 ou2 bh2 li2 so2 (dc + d) (ds + s) (wFr_tr (wFr_sub f8130x (by simp)) (wFr_tr (wFr_sub f8 (by simp)) (wFr_tr (wFr_sub f269x (by simp)) (wFr_sub f275x (by simp))))) (by omega) e274x e277x e278x e279x e280x e281x e282x e283x e284x e285x e286x e287x e288x e289x (by first | omega | assumption | decide | solve_by_elim) (by first | omega | assumption | decide | solve_by_elim) (by first | omega | assumption | decide | solve_by_elim) rfl j12 ⟨j13, by omega⟩ (by first | omega | assumption | decide | solve_by_elim) (by first | omega | assumption | decide | solve_by_elim) (by first | omega | assumption | decide | solve_by_elim) (by first | omega | assumption | decide | solve_by_elim) (by first | omega | assumption | decide | solve_by_elim) (by omega) (by omega)
          · refine wq_gos (f := 1) (pc2 := 15) (ls2 := [(0, .ref (102 + 6 * w))]) (st2 := [.int 1]) (h2 := h8) (dc2 := 0) (ds2 := 0) 2 rfl ?_
            refine wq_ret rfl rfl ?_
            show wq 28 141 [(1, .int 0), (3, .int (nI (b ||| (2 ^ w)))), (6, .ref (102 + 6 * w)), (5, .int (nI w)), (0, .ref 74), (2, .int tm), (4, .int (nI i))] [.int 1] h8 (dc + d) (ds + s) _
            refine wq_gos (f := 1) (pc2 := 151) (ls2 := [(2, .int 1), (1, .int 0), (3, .int (nI (b ||| (2 ^ w)))), (6, .ref (102 + 6 * w)), (5, .int (nI w)), (0, .ref 74), (4, .int (nI i))]) (st2 := [.ref 74]) (h2 := h8) (dc2 := (dc + d)) (ds2 := (ds + s)) 5 rfl ?_
            have e290x := (f8.2 _ _ (wnc (by omega) (wnc (by omega) (wnc (by omega) (wnc (by decide) (wnc (by decide) (wnc (by decide) (wnc (by decide) (wnc (by decide) (wnc (by decide) (wnc (by decide) (wnc (by omega) wn0))))))))))) e133x)
            refine wq_getf rfl e290x rfl rfl ?_
            refine wq_gos (f := 1) (pc2 := 157) (ls2 := [(2, .int 1), (1, .int 0), (3, .int (nI (b ||| (2 ^ w)))), (6, .ref (102 + 6 * w)), (5, .int (nI w)), (0, .ref 74), (4, .int (nI i))]) (st2 := [.ref 74, .int (nI i), .ref 96]) (h2 := h8) (dc2 := (dc + d)) (ds2 := (ds + s)) 2 rfl ?_
            refine wq_getf rfl e290x rfl rfl ?_
            have e291x := (f8.2 _ _ (wnc (by omega) (wnc (by omega) (wnc (by omega) (wnc (by decide) (wnc (by decide) (wnc (by decide) (wnc (by decide) (wnc (by decide) (wnc (by decide) (wnc (by decide) (wnc (by omega) wn0))))))))))) (f8130x.2 _ _ (wnc (by decide) wn0) hF))
            refine wq_iastn rfl e291x (by first | omega | exact zin_t (by omega) (by omega)) (by decide) rfl ?_
            intro h292x e293x f294x l295x
            have e293x : zat h292x 96 = some (.inl (0, 10, (zset 0 fi i (nI al)))) := e293x
            refine wq_gos (f := 1) (pc2 := 163) (ls2 := [(2, .int 1), (1, .int 0), (3, .int (nI (b ||| (2 ^ w)))), (6, .ref (102 + 6 * w)), (5, .int (nI w)), (0, .ref 74), (4, .int (nI i))]) (st2 := [.ref 74, .ref 74]) (h2 := h292x) (dc2 := (dc + d)) (ds2 := (ds + s)) 2 rfl ?_
            have e296x := (f294x.2 _ _ (wnc (by decide) wn0) e290x)
            refine wq_getf rfl e296x rfl rfl ?_
            refine wq_gos (f := 1) (pc2 := 168) (ls2 := [(2, .int 1), (1, .int 0), (3, .int (nI (b ||| (2 ^ w)))), (6, .ref (102 + 6 * w)), (5, .int (nI w)), (0, .ref 74), (4, .int (nI i))]) (st2 := [.ref (102 + 6 * w), .int (nI al), .ref 74]) (h2 := h292x) (dc2 := (dc + d)) (ds2 := (ds + s)) 1 rfl ?_
            have e297x := (f294x.2 _ _ (wnc (by omega) wn0) j9)
            refine wq_getf rfl e297x rfl rfl ?_
            refine wq_gos (f := 1) (pc2 := 174) (ls2 := [(2, .int 1), (1, .int 0), (3, .int (nI (b ||| (2 ^ w)))), (6, .ref (102 + 6 * w)), (5, .int (nI w)), (0, .ref 74), (4, .int (nI i))]) (st2 := [.int 600, .int (nI (sSolL ll lg lk hd ht (jPlo lk hd ht (po.getD w 0) hpl) 64 (-32)).length), .int (nI al), .ref 74]) (h2 := h292x) (dc2 := (dc + d)) (ds2 := (ds + s)) 1 rfl ?_
            refine wq_inl (y2 := 285) (as := [.int (nI (sSolL ll lg lk hd ht (jPlo lk hd ht (po.getD w 0) hpl) 64 (-32)).length), .int 600]) rfl rfl rfl (wq_T (c_min (nI (sSolL ll lg lk hd ht (jPlo lk hd ht (po.getD w 0) hpl) 64 (-32)).length) (600 : Int32) h292x) ?_)
            show wq 28 177 [(2, .int 1), (1, .int 0), (3, .int (nI (b ||| (2 ^ w)))), (6, .ref (102 + 6 * w)), (5, .int (nI w)), (0, .ref 74), (4, .int (nI i))] [.int (jmin (nI (sSolL ll lg lk hd ht (jPlo lk hd ht (po.getD w 0) hpl) 64 (-32)).length) (600 : Int32)), .int (nI al), .ref 74] h292x (dc + d) (ds + s) _
            refine wq_vi (show (jmin (nI (sSolL ll lg lk hd ht (jPlo lk hd ht (po.getD w 0) hpl) 64 (-32)).length) (600 : Int32)) = nI (min ((sSolL ll lg lk hd ht (jPlo lk hd ht (po.getD w 0) hpl) 64 (-32)).length) 600) from jmin_n (a := ((sSolL ll lg lk hd ht (jPlo lk hd ht (po.getD w 0) hpl) 64 (-32)).length)) (b := 600) (by omega) (by omega)) ?_
            refine wq_gos (f := 1) (pc2 := 178) (ls2 := [(2, .int 1), (1, .int 0), (3, .int (nI (b ||| (2 ^ w)))), (6, .ref (102 + 6 * w)), (5, .int (nI w)), (0, .ref 74), (4, .int (nI i))]) (st2 := [.int ((nI al) + (nI (min ((sSolL ll lg lk hd ht (jPlo lk hd ht (po.getD w 0) hpl) 64 (-32)).length) 600))), .ref 74]) (h2 := h292x) (dc2 := (dc + d)) (ds2 := (ds + s)) 1 rfl ?_
            refine wq_vi (show (nI al) + (nI (min ((sSolL ll lg lk hd ht (jPlo lk hd ht (po.getD w 0) hpl) 64 (-32)).length) 600)) = nI (al + (min ((sSolL ll lg lk hd ht (jPlo lk hd ht (po.getD w 0) hpl) 64 (-32)).length) 600)) from nI_add al (min ((sSolL ll lg lk hd ht (jPlo lk hd ht (po.getD w 0) hpl) 64 (-32)).length) 600)) ?_
            refine wq_putf rfl e296x rfl rfl rfl ?_
            intro h298x e299x f300x l301x
            have e299x : zat h298x 74 = some (.inr (.inr (.inr (3, [.ref 44, .ref ra, .ref 76, .ref 78, .ref 80, .ref 88, .int wg, .int ob, .ref 96, .int (nI (al + (min ((sSolL ll lg lk hd ht (jPlo lk hd ht (po.getD w 0) hpl) 64 (-32)).length) 600))), .int pr9, .int sr9, .ref rp, .ref rs, .int fw])))) := e299x
            refine wq_gos (f := 1) (pc2 := 184) (ls2 := [(4, .int ((nI i) + 1)), (2, .int 1), (1, .int 0), (3, .int (nI (b ||| (2 ^ w)))), (6, .ref (102 + 6 * w)), (5, .int (nI w)), (0, .ref 74)]) (st2 := []) (h2 := h298x) (dc2 := (dc + d)) (ds2 := (ds + s)) 1 rfl ?_
            rw [nI_1]
            refine wq_gos (f := 1) (pc2 := 27) (ls2 := [(4, .int (nI (i + 1))), (2, .int 1), (1, .int 0), (3, .int (nI (b ||| (2 ^ w)))), (6, .ref (102 + 6 * w)), (5, .int (nI w)), (0, .ref 74)]) (st2 := []) (h2 := h298x) (dc2 := (dc + d)) (ds2 := (ds + s)) 1 rfl ?_
            have e302x := (f300x.2 _ _ (wnc (by decide) wn0) e293x)
            have e303x := (f300x.2 _ _ (wnc (by decide) wn0) (f294x.2 _ _ (wnc (by decide) wn0) (f8.2 _ _ (wnc (by omega) (wnc (by omega) (wnc (by omega) (wnc (by decide) (wnc (by decide) (wnc (by decide) (wnc (by decide) (wnc (by decide) (wnc (by decide) (wnc (by decide) (wnc (by omega) wn0))))))))))) c0130x)))
            have e304x := (f300x.2 _ _ (wnc (by decide) wn0) (f294x.2 _ _ (wnc (by decide) wn0) j1))
            have e305x := (f300x.2 _ _ (wnc (by decide) wn0) (f294x.2 _ _ (wnc (by decide) wn0) j2))
            have e306x := (f300x.2 _ _ (wnc (by decide) wn0) (f294x.2 _ _ (wnc (by decide) wn0) j3))
            have e307x := (f300x.2 _ _ (wnc (by decide) wn0) (f294x.2 _ _ (wnc (by decide) wn0) j4))
            have e308x := (f300x.2 _ _ (wnc (by decide) wn0) (f294x.2 _ _ (wnc (by decide) wn0) j5))
            have e309x := (f300x.2 _ _ (wnc (by decide) wn0) (f294x.2 _ _ (wnc (by decide) wn0) j6))
            have e310x := (f300x.2 _ _ (wnc (by decide) wn0) (f294x.2 _ _ (wnc (by decide) wn0) j7))
            have e311x := (f300x.2 _ _ (wnc (by omega) wn0) (f294x.2 _ _ (wnc (by omega) wn0) j8))
            have e312x := (f300x.2 _ _ (wnc (by omega) wn0) e297x)
            have e313x := (f300x.2 _ _ (wnc (by omega) wn0) (f294x.2 _ _ (wnc (by omega) wn0) j10))
            have e314x := (f300x.2 _ _ (wnc (by omega) wn0) (f294x.2 _ _ (wnc (by omega) wn0) j11))
            refine wq_ls [(0, .ref 74), (1, .int 0), (2, .int 1), (3, .int (nI (b ||| (2 ^ w)))), (4, .int (nI (i + 1)))] (show ([0, 1, 2, 3, 4] : List Nat).Nodup by decide) ⟨rfl, rfl, rfl, rfl, rfl, trivial⟩ ?_
            exact kB h298x (0 : Int32) (1 : Int32) rL2 cap2 rv2 sc2 nf2 (1 : Int32) ks2 fa2 tg2 hp2 sh2 el2 wr2 ou2 bh2 li2 so2 (dc + d) (ds + s) (wFr_tr (wFr_sub f8130x (by simp)) (wFr_tr (wFr_sub f8 (by simp)) (wFr_tr (wFr_sub f294x (by simp)) (wFr_sub f300x (by simp))))) (by omega) e299x e302x e303x e304x e305x e306x e307x e308x e309x e310x e311x e312x e313x e314x (by first | omega | assumption | decide | solve_by_elim) (by first | omega | assumption | decide | solve_by_elim) (by first | omega | assumption | decide | solve_by_elim) rfl j12 ⟨j13, by omega⟩ (by first | omega | assumption | decide | solve_by_elim) (by first | omega | assumption | decide | solve_by_elim) (by first | omega | assumption | decide | solve_by_elim) (by first | omega | assumption | decide | solve_by_elim) (by first | omega | assumption | decide | solve_by_elim) (by omega) (by omega)
      · have q315x : (nI (sSolL ll lg lk hd ht (jPlo lk hd ht (po.getD w 0) hpl) 64 (-32)).length).toInt = 0 := congrArg Int32.toInt b233x
        refine wq_gos (f := 1) (pc2 := 133) (ls2 := [(1, .int 1), (3, .int (nI (b ||| (2 ^ w)))), (6, .ref (102 + 6 * w)), (5, .int (nI w)), (0, .ref 74), (2, .int tm), (4, .int (nI i))]) (st2 := [.int tm]) (h2 := h8) (dc2 := (dc + d)) (ds2 := (ds + s)) 4 rfl ?_
        refine wq_ne0 rfl rfl (fun b316x => ?_) (fun b316x => ?_)
        · have q317x : tm.toInt ≠ 0 := fun q => b316x (Int32.toInt_inj.mp q)
          refine wq_gos (f := 1) (pc2 := 151) (ls2 := [(2, .int 1), (1, .int 1), (3, .int (nI (b ||| (2 ^ w)))), (6, .ref (102 + 6 * w)), (5, .int (nI w)), (0, .ref 74), (4, .int (nI i))]) (st2 := [.ref 74]) (h2 := h8) (dc2 := (dc + d)) (ds2 := (ds + s)) 4 rfl ?_
          have e318x := (f8.2 _ _ (wnc (by omega) (wnc (by omega) (wnc (by omega) (wnc (by decide) (wnc (by decide) (wnc (by decide) (wnc (by decide) (wnc (by decide) (wnc (by decide) (wnc (by decide) (wnc (by omega) wn0))))))))))) e133x)
          refine wq_getf rfl e318x rfl rfl ?_
          refine wq_gos (f := 1) (pc2 := 157) (ls2 := [(2, .int 1), (1, .int 1), (3, .int (nI (b ||| (2 ^ w)))), (6, .ref (102 + 6 * w)), (5, .int (nI w)), (0, .ref 74), (4, .int (nI i))]) (st2 := [.ref 74, .int (nI i), .ref 96]) (h2 := h8) (dc2 := (dc + d)) (ds2 := (ds + s)) 2 rfl ?_
          refine wq_getf rfl e318x rfl rfl ?_
          have e319x := (f8.2 _ _ (wnc (by omega) (wnc (by omega) (wnc (by omega) (wnc (by decide) (wnc (by decide) (wnc (by decide) (wnc (by decide) (wnc (by decide) (wnc (by decide) (wnc (by decide) (wnc (by omega) wn0))))))))))) (f8130x.2 _ _ (wnc (by decide) wn0) hF))
          refine wq_iastn rfl e319x (by first | omega | exact zin_t (by omega) (by omega)) (by decide) rfl ?_
          intro h320x e321x f322x l323x
          have e321x : zat h320x 96 = some (.inl (0, 10, (zset 0 fi i (nI al)))) := e321x
          refine wq_gos (f := 1) (pc2 := 163) (ls2 := [(2, .int 1), (1, .int 1), (3, .int (nI (b ||| (2 ^ w)))), (6, .ref (102 + 6 * w)), (5, .int (nI w)), (0, .ref 74), (4, .int (nI i))]) (st2 := [.ref 74, .ref 74]) (h2 := h320x) (dc2 := (dc + d)) (ds2 := (ds + s)) 2 rfl ?_
          have e324x := (f322x.2 _ _ (wnc (by decide) wn0) e318x)
          refine wq_getf rfl e324x rfl rfl ?_
          refine wq_gos (f := 1) (pc2 := 168) (ls2 := [(2, .int 1), (1, .int 1), (3, .int (nI (b ||| (2 ^ w)))), (6, .ref (102 + 6 * w)), (5, .int (nI w)), (0, .ref 74), (4, .int (nI i))]) (st2 := [.ref (102 + 6 * w), .int (nI al), .ref 74]) (h2 := h320x) (dc2 := (dc + d)) (ds2 := (ds + s)) 1 rfl ?_
          have e325x := (f322x.2 _ _ (wnc (by omega) wn0) j9)
          refine wq_getf rfl e325x rfl rfl ?_
          refine wq_gos (f := 1) (pc2 := 174) (ls2 := [(2, .int 1), (1, .int 1), (3, .int (nI (b ||| (2 ^ w)))), (6, .ref (102 + 6 * w)), (5, .int (nI w)), (0, .ref 74), (4, .int (nI i))]) (st2 := [.int 600, .int (nI (sSolL ll lg lk hd ht (jPlo lk hd ht (po.getD w 0) hpl) 64 (-32)).length), .int (nI al), .ref 74]) (h2 := h320x) (dc2 := (dc + d)) (ds2 := (ds + s)) 1 rfl ?_
          refine wq_inl (y2 := 285) (as := [.int (nI (sSolL ll lg lk hd ht (jPlo lk hd ht (po.getD w 0) hpl) 64 (-32)).length), .int 600]) rfl rfl rfl (wq_T (c_min (nI (sSolL ll lg lk hd ht (jPlo lk hd ht (po.getD w 0) hpl) 64 (-32)).length) (600 : Int32) h320x) ?_)
          show wq 28 177 [(2, .int 1), (1, .int 1), (3, .int (nI (b ||| (2 ^ w)))), (6, .ref (102 + 6 * w)), (5, .int (nI w)), (0, .ref 74), (4, .int (nI i))] [.int (jmin (nI (sSolL ll lg lk hd ht (jPlo lk hd ht (po.getD w 0) hpl) 64 (-32)).length) (600 : Int32)), .int (nI al), .ref 74] h320x (dc + d) (ds + s) _
          refine wq_vi (show (jmin (nI (sSolL ll lg lk hd ht (jPlo lk hd ht (po.getD w 0) hpl) 64 (-32)).length) (600 : Int32)) = nI (min ((sSolL ll lg lk hd ht (jPlo lk hd ht (po.getD w 0) hpl) 64 (-32)).length) 600) from jmin_n (a := ((sSolL ll lg lk hd ht (jPlo lk hd ht (po.getD w 0) hpl) 64 (-32)).length)) (b := 600) (by omega) (by omega)) ?_
          refine wq_gos (f := 1) (pc2 := 178) (ls2 := [(2, .int 1), (1, .int 1), (3, .int (nI (b ||| (2 ^ w)))), (6, .ref (102 + 6 * w)), (5, .int (nI w)), (0, .ref 74), (4, .int (nI i))]) (st2 := [.int ((nI al) + (nI (min ((sSolL ll lg lk hd ht (jPlo lk hd ht (po.getD w 0) hpl) 64 (-32)).length) 600))), .ref 74]) (h2 := h320x) (dc2 := (dc + d)) (ds2 := (ds + s)) 1 rfl ?_
          refine wq_vi (show (nI al) + (nI (min ((sSolL ll lg lk hd ht (jPlo lk hd ht (po.getD w 0) hpl) 64 (-32)).length) 600)) = nI (al + (min ((sSolL ll lg lk hd ht (jPlo lk hd ht (po.getD w 0) hpl) 64 (-32)).length) 600)) from nI_add al (min ((sSolL ll lg lk hd ht (jPlo lk hd ht (po.getD w 0) hpl) 64 (-32)).length) 600)) ?_
          refine wq_putf rfl e324x rfl rfl rfl ?_
          intro h326x e327x f328x l329x
          have e327x : zat h326x 74 = some (.inr (.inr (.inr (3, [.ref 44, .ref ra, .ref 76, .ref 78, .ref 80, .ref 88, .int wg, .int ob, .ref 96, .int (nI (al + (min ((sSolL ll lg lk hd ht (jPlo lk hd ht (po.getD w 0) hpl) 64 (-32)).length) 600))), .int pr9, .int sr9, .ref rp, .ref rs, .int fw])))) := e327x
          refine wq_gos (f := 1) (pc2 := 184) (ls2 := [(4, .int ((nI i) + 1)), (2, .int 1), (1, .int 1), (3, .int (nI (b ||| (2 ^ w)))), (6, .ref (102 + 6 * w)), (5, .int (nI w)), (0, .ref 74)]) (st2 := []) (h2 := h326x) (dc2 := (dc + d)) (ds2 := (ds + s)) 1 rfl ?_
          rw [nI_1]
          refine wq_gos (f := 1) (pc2 := 27) (ls2 := [(4, .int (nI (i + 1))), (2, .int 1), (1, .int 1), (3, .int (nI (b ||| (2 ^ w)))), (6, .ref (102 + 6 * w)), (5, .int (nI w)), (0, .ref 74)]) (st2 := []) (h2 := h326x) (dc2 := (dc + d)) (ds2 := (ds + s)) 1 rfl ?_
          have e330x := (f328x.2 _ _ (wnc (by decide) wn0) e321x)
          have e331x := (f328x.2 _ _ (wnc (by decide) wn0) (f322x.2 _ _ (wnc (by decide) wn0) (f8.2 _ _ (wnc (by omega) (wnc (by omega) (wnc (by omega) (wnc (by decide) (wnc (by decide) (wnc (by decide) (wnc (by decide) (wnc (by decide) (wnc (by decide) (wnc (by decide) (wnc (by omega) wn0))))))))))) c0130x)))
          have e332x := (f328x.2 _ _ (wnc (by decide) wn0) (f322x.2 _ _ (wnc (by decide) wn0) j1))
          have e333x := (f328x.2 _ _ (wnc (by decide) wn0) (f322x.2 _ _ (wnc (by decide) wn0) j2))
          have e334x := (f328x.2 _ _ (wnc (by decide) wn0) (f322x.2 _ _ (wnc (by decide) wn0) j3))
          have e335x := (f328x.2 _ _ (wnc (by decide) wn0) (f322x.2 _ _ (wnc (by decide) wn0) j4))
          have e336x := (f328x.2 _ _ (wnc (by decide) wn0) (f322x.2 _ _ (wnc (by decide) wn0) j5))
          have e337x := (f328x.2 _ _ (wnc (by decide) wn0) (f322x.2 _ _ (wnc (by decide) wn0) j6))
          have e338x := (f328x.2 _ _ (wnc (by decide) wn0) (f322x.2 _ _ (wnc (by decide) wn0) j7))
          have e339x := (f328x.2 _ _ (wnc (by omega) wn0) (f322x.2 _ _ (wnc (by omega) wn0) j8))
          have e340x := (f328x.2 _ _ (wnc (by omega) wn0) e325x)
          have e341x := (f328x.2 _ _ (wnc (by omega) wn0) (f322x.2 _ _ (wnc (by omega) wn0) j10))
          have e342x := (f328x.2 _ _ (wnc (by omega) wn0) (f322x.2 _ _ (wnc (by omega) wn0) j11))
          refine wq_ls [(0, .ref 74), (1, .int 1), (2, .int 1), (3, .int (nI (b ||| (2 ^ w)))), (4, .int (nI (i + 1)))] (show ([0, 1, 2, 3, 4] : List Nat).Nodup by decide) ⟨rfl, rfl, rfl, rfl, rfl, trivial⟩ ?_
          exact kB h326x (1 : Int32) (1 : Int32) rL2 cap2 rv2 sc2 nf2 (1 : Int32) ks2 fa2 tg2 hp2 sh2 el2 wr2 ou2 bh2 li2 so2 (dc + d) (ds + s) (wFr_tr (wFr_sub f8130x (by simp)) (wFr_tr (wFr_sub f8 (by simp)) (wFr_tr (wFr_sub f322x (by simp)) (wFr_sub f328x (by simp))))) (by omega) e327x e330x e331x e332x e333x e334x e335x e336x e337x e338x e339x e340x e341x e342x (by first | omega | assumption | decide | solve_by_elim) (by first | omega | assumption | decide | solve_by_elim) (by first | omega | assumption | decide | solve_by_elim) rfl j12 ⟨j13, by omega⟩ (by first | omega | assumption | decide | solve_by_elim) (by first | omega | assumption | decide | solve_by_elim) (by first | omega | assumption | decide | solve_by_elim) (by first | omega | assumption | decide | solve_by_elim) (by first | omega | assumption | decide | solve_by_elim) (by omega) (by omega)
        · have q343x : tm.toInt = 0 := congrArg Int32.toInt b316x
          refine wq_gos (f := 1) (pc2 := 138) (ls2 := [(1, .int 1), (3, .int (nI (b ||| (2 ^ w)))), (6, .ref (102 + 6 * w)), (5, .int (nI w)), (0, .ref 74), (2, .int tm), (4, .int (nI i))]) (st2 := [.ref (102 + 6 * w)]) (h2 := h8) (dc2 := (dc + d)) (ds2 := (ds + s)) 1 rfl ?_
          refine wq_inlv (y2 := 16) (as := []) rfl rfl rfl j9 rfl ?_
          show wq 16 0 [(0, .ref (102 + 6 * w))] [] h8 0 0 _
          refine wq_gos (f := 1) (pc2 := 1) (ls2 := [(0, .ref (102 + 6 * w))]) (st2 := [.ref (102 + 6 * w)]) (h2 := h8) (dc2 := 0) (ds2 := 0) 1 rfl ?_
          refine wq_getf rfl j9 rfl rfl ?_
          refine wq_gos (f := 1) (pc2 := 7) (ls2 := [(0, .ref (102 + 6 * w))]) (st2 := [.int 600, .int (nI (sSolL ll lg lk hd ht (jPlo lk hd ht (po.getD w 0) hpl) 64 (-32)).length)]) (h2 := h8) (dc2 := 0) (ds2 := 0) 1 rfl ?_
          have q344x : (600 : Int32).toInt = 600 := rfl
          refine wq_le2 rfl rfl (fun b345x => ?_) (fun b345x => ?_)
          · refine wq_gos (f := 1) (pc2 := 15) (ls2 := [(0, .ref (102 + 6 * w))]) (st2 := [.int 0]) (h2 := h8) (dc2 := 0) (ds2 := 0) 1 rfl ?_
            refine wq_ret rfl rfl ?_
            show wq 28 141 [(1, .int 1), (3, .int (nI (b ||| (2 ^ w)))), (6, .ref (102 + 6 * w)), (5, .int (nI w)), (0, .ref 74), (2, .int tm), (4, .int (nI i))] [.int 0] h8 (dc + d) (ds + s) _
            refine wq_gos (f := 1) (pc2 := 151) (ls2 := [(2, .int 0), (1, .int 1), (3, .int (nI (b ||| (2 ^ w)))), (6, .ref (102 + 6 * w)), (5, .int (nI w)), (0, .ref 74), (4, .int (nI i))]) (st2 := [.ref 74]) (h2 := h8) (dc2 := (dc + d)) (ds2 := (ds + s)) 4 rfl ?_
            have e346x := (f8.2 _ _ (wnc (by omega) (wnc (by omega) (wnc (by omega) (wnc (by decide) (wnc (by decide) (wnc (by decide) (wnc (by decide) (wnc (by decide) (wnc (by decide) (wnc (by decide) (wnc (by omega) wn0))))))))))) e133x)
            refine wq_getf rfl e346x rfl rfl ?_
            refine wq_gos (f := 1) (pc2 := 157) (ls2 := [(2, .int 0), (1, .int 1), (3, .int (nI (b ||| (2 ^ w)))), (6, .ref (102 + 6 * w)), (5, .int (nI w)), (0, .ref 74), (4, .int (nI i))]) (st2 := [.ref 74, .int (nI i), .ref 96]) (h2 := h8) (dc2 := (dc + d)) (ds2 := (ds + s)) 2 rfl ?_
            refine wq_getf rfl e346x rfl rfl ?_
            have e347x := (f8.2 _ _ (wnc (by omega) (wnc (by omega) (wnc (by omega) (wnc (by decide) (wnc (by decide) (wnc (by decide) (wnc (by decide) (wnc (by decide) (wnc (by decide) (wnc (by decide) (wnc (by omega) wn0))))))))))) (f8130x.2 _ _ (wnc (by decide) wn0) hF))
            refine wq_iastn rfl e347x (by first | omega | exact zin_t (by omega) (by omega)) (by decide) rfl ?_
            intro h348x e349x f350x l351x
            have e349x : zat h348x 96 = some (.inl (0, 10, (zset 0 fi i (nI al)))) := e349x
            refine wq_gos (f := 1) (pc2 := 163) (ls2 := [(2, .int 0), (1, .int 1), (3, .int (nI (b ||| (2 ^ w)))), (6, .ref (102 + 6 * w)), (5, .int (nI w)), (0, .ref 74), (4, .int (nI i))]) (st2 := [.ref 74, .ref 74]) (h2 := h348x) (dc2 := (dc + d)) (ds2 := (ds + s)) 2 rfl ?_
            have e352x := (f350x.2 _ _ (wnc (by decide) wn0) e346x)
            refine wq_getf rfl e352x rfl rfl ?_
            refine wq_gos (f := 1) (pc2 := 168) (ls2 := [(2, .int 0), (1, .int 1), (3, .int (nI (b ||| (2 ^ w)))), (6, .ref (102 + 6 * w)), (5, .int (nI w)), (0, .ref 74), (4, .int (nI i))]) (st2 := [.ref (102 + 6 * w), .int (nI al), .ref 74]) (h2 := h348x) (dc2 := (dc + d)) (ds2 := (ds + s)) 1 rfl ?_
            have e353x := (f350x.2 _ _ (wnc (by omega) wn0) j9)
            refine wq_getf rfl e353x rfl rfl ?_
            refine wq_gos (f := 1) (pc2 := 174) (ls2 := [(2, .int 0), (1, .int 1), (3, .int (nI (b ||| (2 ^ w)))), (6, .ref (102 + 6 * w)), (5, .int (nI w)), (0, .ref 74), (4, .int (nI i))]) (st2 := [.int 600, .int (nI (sSolL ll lg lk hd ht (jPlo lk hd ht (po.getD w 0) hpl) 64 (-32)).length), .int (nI al), .ref 74]) (h2 := h348x) (dc2 := (dc + d)) (ds2 := (ds + s)) 1 rfl ?_
            refine wq_inl (y2 := 285) (as := [.int (nI (sSolL ll lg lk hd ht (jPlo lk hd ht (po.getD w 0) hpl) 64 (-32)).length), .int 600]) rfl rfl rfl (wq_T (c_min (nI (sSolL ll lg lk hd ht (jPlo lk hd ht (po.getD w 0) hpl) 64 (-32)).length) (600 : Int32) h348x) ?_)
            show wq 28 177 [(2, .int 0), (1, .int 1), (3, .int (nI (b ||| (2 ^ w)))), (6, .ref (102 + 6 * w)), (5, .int (nI w)), (0, .ref 74), (4, .int (nI i))] [.int (jmin (nI (sSolL ll lg lk hd ht (jPlo lk hd ht (po.getD w 0) hpl) 64 (-32)).length) (600 : Int32)), .int (nI al), .ref 74] h348x (dc + d) (ds + s) _
            refine wq_vi (show (jmin (nI (sSolL ll lg lk hd ht (jPlo lk hd ht (po.getD w 0) hpl) 64 (-32)).length) (600 : Int32)) = nI (min ((sSolL ll lg lk hd ht (jPlo lk hd ht (po.getD w 0) hpl) 64 (-32)).length) 600) from jmin_n (a := ((sSolL ll lg lk hd ht (jPlo lk hd ht (po.getD w 0) hpl) 64 (-32)).length)) (b := 600) (by omega) (by omega)) ?_
            refine wq_gos (f := 1) (pc2 := 178) (ls2 := [(2, .int 0), (1, .int 1), (3, .int (nI (b ||| (2 ^ w)))), (6, .ref (102 + 6 * w)), (5, .int (nI w)), (0, .ref 74), (4, .int (nI i))]) (st2 := [.int ((nI al) + (nI (min ((sSolL ll lg lk hd ht (jPlo lk hd ht (po.getD w 0) hpl) 64 (-32)).length) 600))), .ref 74]) (h2 := h348x) (dc2 := (dc + d)) (ds2 := (ds + s)) 1 rfl ?_
            refine wq_vi (show (nI al) + (nI (min ((sSolL ll lg lk hd ht (jPlo lk hd ht (po.getD w 0) hpl) 64 (-32)).length) 600)) = nI (al + (min ((sSolL ll lg lk hd ht (jPlo lk hd ht (po.getD w 0) hpl) 64 (-32)).length) 600)) from nI_add al (min ((sSolL ll lg lk hd ht (jPlo lk hd ht (po.getD w 0) hpl) 64 (-32)).length) 600)) ?_
            refine wq_putf rfl e352x rfl rfl rfl ?_
            intro h354x e355x f356x l357x
            have e355x : zat h354x 74 = some (.inr (.inr (.inr (3, [.ref 44, .ref ra, .ref 76, .ref 78, .ref 80, .ref 88, .int wg, .int ob, .ref 96, .int (nI (al + (min ((sSolL ll lg lk hd ht (jPlo lk hd ht (po.getD w 0) hpl) 64 (-32)).length) 600))), .int pr9, .int sr9, .ref rp, .ref rs, .int fw])))) := e355x
            refine wq_gos (f := 1) (pc2 := 184) (ls2 := [(4, .int ((nI i) + 1)), (2, .int 0), (1, .int 1), (3, .int (nI (b ||| (2 ^ w)))), (6, .ref (102 + 6 * w)), (5, .int (nI w)), (0, .ref 74)]) (st2 := []) (h2 := h354x) (dc2 := (dc + d)) (ds2 := (ds + s)) 1 rfl ?_
            rw [nI_1]
            refine wq_gos (f := 1) (pc2 := 27) (ls2 := [(4, .int (nI (i + 1))), (2, .int 0), (1, .int 1), (3, .int (nI (b ||| (2 ^ w)))), (6, .ref (102 + 6 * w)), (5, .int (nI w)), (0, .ref 74)]) (st2 := []) (h2 := h354x) (dc2 := (dc + d)) (ds2 := (ds + s)) 1 rfl ?_
            have e358x := (f356x.2 _ _ (wnc (by decide) wn0) e349x)
            have e359x := (f356x.2 _ _ (wnc (by decide) wn0) (f350x.2 _ _ (wnc (by decide) wn0) (f8.2 _ _ (wnc (by omega) (wnc (by omega) (wnc (by omega) (wnc (by decide) (wnc (by decide) (wnc (by decide) (wnc (by decide) (wnc (by decide) (wnc (by decide) (wnc (by decide) (wnc (by omega) wn0))))))))))) c0130x)))
            have e360x := (f356x.2 _ _ (wnc (by decide) wn0) (f350x.2 _ _ (wnc (by decide) wn0) j1))
            have e361x := (f356x.2 _ _ (wnc (by decide) wn0) (f350x.2 _ _ (wnc (by decide) wn0) j2))
            have e362x := (f356x.2 _ _ (wnc (by decide) wn0) (f350x.2 _ _ (wnc (by decide) wn0) j3))
            have e363x := (f356x.2 _ _ (wnc (by decide) wn0) (f350x.2 _ _ (wnc (by decide) wn0) j4))
            have e364x := (f356x.2 _ _ (wnc (by decide) wn0) (f350x.2 _ _ (wnc (by decide) wn0) j5))
            have e365x := (f356x.2 _ _ (wnc (by decide) wn0) (f350x.2 _ _ (wnc (by decide) wn0) j6))
            have e366x := (f356x.2 _ _ (wnc (by decide) wn0) (f350x.2 _ _ (wnc (by decide) wn0) j7))
            have e367x := (f356x.2 _ _ (wnc (by omega) wn0) (f350x.2 _ _ (wnc (by omega) wn0) j8))
            have e368x := (f356x.2 _ _ (wnc (by omega) wn0) e353x)
            have e369x := (f356x.2 _ _ (wnc (by omega) wn0) (f350x.2 _ _ (wnc (by omega) wn0) j10))
            have e370x := (f356x.2 _ _ (wnc (by omega) wn0) (f350x.2 _ _ (wnc (by omega) wn0) j11))
            refine wq_ls [(0, .ref 74), (1, .int 1), (2, .int 0), (3, .int (nI (b ||| (2 ^ w)))), (4, .int (nI (i + 1)))] (show ([0, 1, 2, 3, 4] : List Nat).Nodup by decide) ⟨rfl, rfl, rfl, rfl, rfl, trivial⟩ ?_
            exact kB h354x (1 : Int32) (0 : Int32) rL2 cap2 rv2 sc2 nf2 (1 : Int32) ks2 fa2 tg2 hp2 sh2 el2 wr2 ou2 bh2 li2 so2 (dc + d) (ds + s) (wFr_tr (wFr_sub f8130x (by simp)) (wFr_tr (wFr_sub f8 (by simp)) (wFr_tr (wFr_sub f350x (by simp)) (wFr_sub f356x (by simp))))) (by omega) e355x e358x e359x e360x e361x e362x e363x e364x e365x e366x e367x e368x e369x e370x (by first | omega | assumption | decide | solve_by_elim) (by first | omega | assumption | decide | solve_by_elim) (by first | omega | assumption | decide | solve_by_elim) rfl j12 ⟨j13, by omega⟩ (by first | omega | assumption | decide | solve_by_elim) (by first | omega | assumption | decide | solve_by_elim) (by first | omega | assumption | decide | solve_by_elim) (by first | omega | assumption | decide | solve_by_elim) (by first | omega | assumption | decide | solve_by_elim) (by omega) (by omega)
          · refine wq_gos (f := 1) (pc2 := 15) (ls2 := [(0, .ref (102 + 6 * w))]) (st2 := [.int 1]) (h2 := h8) (dc2 := 0) (ds2 := 0) 2 rfl ?_
            refine wq_ret rfl rfl ?_
            show wq 28 141 [(1, .int 1), (3, .int (nI (b ||| (2 ^ w)))), (6, .ref (102 + 6 * w)), (5, .int (nI w)), (0, .ref 74), (2, .int tm), (4, .int (nI i))] [.int 1] h8 (dc + d) (ds + s) _
            refine wq_gos (f := 1) (pc2 := 151) (ls2 := [(2, .int 1), (1, .int 1), (3, .int (nI (b ||| (2 ^ w)))), (6, .ref (102 + 6 * w)), (5, .int (nI w)), (0, .ref 74), (4, .int (nI i))]) (st2 := [.ref 74]) (h2 := h8) (dc2 := (dc + d)) (ds2 := (ds + s)) 5 rfl ?_
            have e371x := (f8.2 _ _ (wnc (by omega) (wnc (by omega) (wnc (by omega) (wnc (by decide) (wnc (by decide) (wnc (by decide) (wnc (by decide) (wnc (by decide) (wnc (by decide) (wnc (by decide) (wnc (by omega) wn0))))))))))) e133x)
            refine wq_getf rfl e371x rfl rfl ?_
            refine wq_gos (f := 1) (pc2 := 157) (ls2 := [(2, .int 1), (1, .int 1), (3, .int (nI (b ||| (2 ^ w)))), (6, .ref (102 + 6 * w)), (5, .int (nI w)), (0, .ref 74), (4, .int (nI i))]) (st2 := [.ref 74, .int (nI i), .ref 96]) (h2 := h8) (dc2 := (dc + d)) (ds2 := (ds + s)) 2 rfl ?_
            refine wq_getf rfl e371x rfl rfl ?_
            have e372x := (f8.2 _ _ (wnc (by omega) (wnc (by omega) (wnc (by omega) (wnc (by decide) (wnc (by decide) (wnc (by decide) (wnc (by decide) (wnc (by decide) (wnc (by decide) (wnc (by decide) (wnc (by omega) wn0))))))))))) (f8130x.2 _ _ (wnc (by decide) wn0) hF))
            refine wq_iastn rfl e372x (by first | omega | exact zin_t (by omega) (by omega)) (by decide) rfl ?_
            intro h373x e374x f375x l376x
            have e374x : zat h373x 96 = some (.inl (0, 10, (zset 0 fi i (nI al)))) := e374x
            refine wq_gos (f := 1) (pc2 := 163) (ls2 := [(2, .int 1), (1, .int 1), (3, .int (nI (b ||| (2 ^ w)))), (6, .ref (102 + 6 * w)), (5, .int (nI w)), (0, .ref 74), (4, .int (nI i))]) (st2 := [.ref 74, .ref 74]) (h2 := h373x) (dc2 := (dc + d)) (ds2 := (ds + s)) 2 rfl ?_
            have e377x := (f375x.2 _ _ (wnc (by decide) wn0) e371x)
            refine wq_getf rfl e377x rfl rfl ?_
            refine wq_gos (f := 1) (pc2 := 168) (ls2 := [(2, .int 1), (1, .int 1), (3, .int (nI (b ||| (2 ^ w)))), (6, .ref (102 + 6 * w)), (5, .int (nI w)), (0, .ref 74), (4, .int (nI i))]) (st2 := [.ref (102 + 6 * w), .int (nI al), .ref 74]) (h2 := h373x) (dc2 := (dc + d)) (ds2 := (ds + s)) 1 rfl ?_
            have e378x := (f375x.2 _ _ (wnc (by omega) wn0) j9)
            refine wq_getf rfl e378x rfl rfl ?_
            refine wq_gos (f := 1) (pc2 := 174) (ls2 := [(2, .int 1), (1, .int 1), (3, .int (nI (b ||| (2 ^ w)))), (6, .ref (102 + 6 * w)), (5, .int (nI w)), (0, .ref 74), (4, .int (nI i))]) (st2 := [.int 600, .int (nI (sSolL ll lg lk hd ht (jPlo lk hd ht (po.getD w 0) hpl) 64 (-32)).length), .int (nI al), .ref 74]) (h2 := h373x) (dc2 := (dc + d)) (ds2 := (ds + s)) 1 rfl ?_
            refine wq_inl (y2 := 285) (as := [.int (nI (sSolL ll lg lk hd ht (jPlo lk hd ht (po.getD w 0) hpl) 64 (-32)).length), .int 600]) rfl rfl rfl (wq_T (c_min (nI (sSolL ll lg lk hd ht (jPlo lk hd ht (po.getD w 0) hpl) 64 (-32)).length) (600 : Int32) h373x) ?_)
            show wq 28 177 [(2, .int 1), (1, .int 1), (3, .int (nI (b ||| (2 ^ w)))), (6, .ref (102 + 6 * w)), (5, .int (nI w)), (0, .ref 74), (4, .int (nI i))] [.int (jmin (nI (sSolL ll lg lk hd ht (jPlo lk hd ht (po.getD w 0) hpl) 64 (-32)).length) (600 : Int32)), .int (nI al), .ref 74] h373x (dc + d) (ds + s) _
            refine wq_vi (show (jmin (nI (sSolL ll lg lk hd ht (jPlo lk hd ht (po.getD w 0) hpl) 64 (-32)).length) (600 : Int32)) = nI (min ((sSolL ll lg lk hd ht (jPlo lk hd ht (po.getD w 0) hpl) 64 (-32)).length) 600) from jmin_n (a := ((sSolL ll lg lk hd ht (jPlo lk hd ht (po.getD w 0) hpl) 64 (-32)).length)) (b := 600) (by omega) (by omega)) ?_
            refine wq_gos (f := 1) (pc2 := 178) (ls2 := [(2, .int 1), (1, .int 1), (3, .int (nI (b ||| (2 ^ w)))), (6, .ref (102 + 6 * w)), (5, .int (nI w)), (0, .ref 74), (4, .int (nI i))]) (st2 := [.int ((nI al) + (nI (min ((sSolL ll lg lk hd ht (jPlo lk hd ht (po.getD w 0) hpl) 64 (-32)).length) 600))), .ref 74]) (h2 := h373x) (dc2 := (dc + d)) (ds2 := (ds + s)) 1 rfl ?_
            refine wq_vi (show (nI al) + (nI (min ((sSolL ll lg lk hd ht (jPlo lk hd ht (po.getD w 0) hpl) 64 (-32)).length) 600)) = nI (al + (min ((sSolL ll lg lk hd ht (jPlo lk hd ht (po.getD w 0) hpl) 64 (-32)).length) 600)) from nI_add al (min ((sSolL ll lg lk hd ht (jPlo lk hd ht (po.getD w 0) hpl) 64 (-32)).length) 600)) ?_
            refine wq_putf rfl e377x rfl rfl rfl ?_
            intro h379x e380x f381x l382x
            have e380x : zat h379x 74 = some (.inr (.inr (.inr (3, [.ref 44, .ref ra, .ref 76, .ref 78, .ref 80, .ref 88, .int wg, .int ob, .ref 96, .int (nI (al + (min ((sSolL ll lg lk hd ht (jPlo lk hd ht (po.getD w 0) hpl) 64 (-32)).length) 600))), .int pr9, .int sr9, .ref rp, .ref rs, .int fw])))) := e380x
            refine wq_gos (f := 1) (pc2 := 184) (ls2 := [(4, .int ((nI i) + 1)), (2, .int 1), (1, .int 1), (3, .int (nI (b ||| (2 ^ w)))), (6, .ref (102 + 6 * w)), (5, .int (nI w)), (0, .ref 74)]) (st2 := []) (h2 := h379x) (dc2 := (dc + d)) (ds2 := (ds + s)) 1 rfl ?_
            rw [nI_1]
            refine wq_gos (f := 1) (pc2 := 27) (ls2 := [(4, .int (nI (i + 1))), (2, .int 1), (1, .int 1), (3, .int (nI (b ||| (2 ^ w)))), (6, .ref (102 + 6 * w)), (5, .int (nI w)), (0, .ref 74)]) (st2 := []) (h2 := h379x) (dc2 := (dc + d)) (ds2 := (ds + s)) 1 rfl ?_
            have e383x := (f381x.2 _ _ (wnc (by decide) wn0) e374x)
            have e384x := (f381x.2 _ _ (wnc (by decide) wn0) (f375x.2 _ _ (wnc (by decide) wn0) (f8.2 _ _ (wnc (by omega) (wnc (by omega) (wnc (by omega) (wnc (by decide) (wnc (by decide) (wnc (by decide) (wnc (by decide) (wnc (by decide) (wnc (by decide) (wnc (by decide) (wnc (by omega) wn0))))))))))) c0130x)))
            have e385x := (f381x.2 _ _ (wnc (by decide) wn0) (f375x.2 _ _ (wnc (by decide) wn0) j1))
            have e386x := (f381x.2 _ _ (wnc (by decide) wn0) (f375x.2 _ _ (wnc (by decide) wn0) j2))
            have e387x := (f381x.2 _ _ (wnc (by decide) wn0) (f375x.2 _ _ (wnc (by decide) wn0) j3))
            have e388x := (f381x.2 _ _ (wnc (by decide) wn0) (f375x.2 _ _ (wnc (by decide) wn0) j4))
            have e389x := (f381x.2 _ _ (wnc (by decide) wn0) (f375x.2 _ _ (wnc (by decide) wn0) j5))
            have e390x := (f381x.2 _ _ (wnc (by decide) wn0) (f375x.2 _ _ (wnc (by decide) wn0) j6))
            have e391x := (f381x.2 _ _ (wnc (by decide) wn0) (f375x.2 _ _ (wnc (by decide) wn0) j7))
            have e392x := (f381x.2 _ _ (wnc (by omega) wn0) (f375x.2 _ _ (wnc (by omega) wn0) j8))
            have e393x := (f381x.2 _ _ (wnc (by omega) wn0) e378x)
            have e394x := (f381x.2 _ _ (wnc (by omega) wn0) (f375x.2 _ _ (wnc (by omega) wn0) j10))
            have e395x := (f381x.2 _ _ (wnc (by omega) wn0) (f375x.2 _ _ (wnc (by omega) wn0) j11))
            refine wq_ls [(0, .ref 74), (1, .int 1), (2, .int 1), (3, .int (nI (b ||| (2 ^ w)))), (4, .int (nI (i + 1)))] (show ([0, 1, 2, 3, 4] : List Nat).Nodup by decide) ⟨rfl, rfl, rfl, rfl, rfl, trivial⟩ ?_
            exact kB h379x (1 : Int32) (1 : Int32) rL2 cap2 rv2 sc2 nf2 (1 : Int32) ks2 fa2 tg2 hp2 sh2 el2 wr2 ou2 bh2 li2 so2 (dc + d) (ds + s) (wFr_tr (wFr_sub f8130x (by simp)) (wFr_tr (wFr_sub f8 (by simp)) (wFr_tr (wFr_sub f375x (by simp)) (wFr_sub f381x (by simp))))) (by omega) e380x e383x e384x e385x e386x e387x e388x e389x e390x e391x e392x e393x e394x e395x (by first | omega | assumption | decide | solve_by_elim) (by first | omega | assumption | decide | solve_by_elim) (by first | omega | assumption | decide | solve_by_elim) rfl j12 ⟨j13, by omega⟩ (by first | omega | assumption | decide | solve_by_elim) (by first | omega | assumption | decide | solve_by_elim) (by first | omega | assumption | decide | solve_by_elim) (by first | omega | assumption | decide | solve_by_elim) (by first | omega | assumption | decide | solve_by_elim) (by omega) (by omega)
