/-! The class: AIM's solutions as they are held. -/
/-- what is held of a place: how many, which ones -/
noncomputable def wHK (SL : List Int64) (cap : Nat) (li : List Int64) : Prop := (SL.length ≤ 600 → ∀ i x, SL[i]? = some x → li.getD (pN SL i x) 0 = x) ∧ (SL.length ≤ cap ∨ cap = 600)
noncomputable def wHO (ll lg : List Int32) (lk hd ht : Int32) (kn to : Int32) (cap : Nat) (hp : List Int32) (li : List Int64) : Prop := kn ≠ 0 → to = nI (sSolL ll lg lk hd ht hp 64 (-32)).length ∧ wHK (sSolL ll lg lk hd ht hp 64 (-32)) cap li
noncomputable def cIsOf (kn : Int32) (hp pl : List Int32) : Int32 := (if (hp.getD 0 0) = (pl.getD 0 0) then (if (hp.getD 1 0) = (pl.getD 1 0) then (if (hp.getD 2 0) = (pl.getD 2 0) then (if (hp.getD 3 0) = (pl.getD 3 0) then (if (hp.getD 4 0) = (pl.getD 4 0) then (if (hp.getD 5 0) = (pl.getD 5 0) then kn else 0) else 0) else 0) else 0) else 0) else 0)
set_option maxRecDepth 100000 in
set_option maxHeartbeats 4000000 in
theorem c_isof {h : zH} {rh rL rq : Nat} {kn to ks fa : Int32} {hp pl : List Int32} (hH : zat h rh = some (.inr (.inr (.inr (1, [.int kn, .int to, .ref rL, .ref (rh + 4), .int ks, .int fa]))))) (hP4 : zat h (rh + 4) = some (.inl (0, 6, hp))) (hPl : zat h rq = some (.inl (0, 6, pl))) (hkn : kn = 0 ∨ kn = 1) : wq 13 0 [(0, .ref rh), (1, .ref rq)] [] h 0 0 (fun rr9 => rr9 = (some (.int (cIsOf kn hp pl)), h, 0, 0)) := by
  refine wq_gos (f := 1) (pc2 := 9) (ls2 := [(2, .int 0), (0, .ref rh), (1, .ref rq)]) (st2 := [.ref rh]) (h2 := h) (dc2 := 0) (ds2 := 0) 6 rfl ?_
  refine wq_getf rfl hH rfl rfl ?_
  refine wq_gos (f := 1) (pc2 := 13) (ls2 := [(2, .int 0), (0, .ref rh), (1, .ref rq)]) (st2 := [.int 0, .ref (rh + 4)]) (h2 := h) (dc2 := 0) (ds2 := 0) 1 rfl ?_
  have q1x : (0 : Int32).toInt = 0 := rfl
  refine wq_ialdk (k := 0) rfl hP4 rfl rfl rfl ?_
  refine wq_gos (f := 1) (pc2 := 16) (ls2 := [(2, .int 0), (0, .ref rh), (1, .ref rq)]) (st2 := [.int 0, .ref rq, .int (hp.getD 0 0)]) (h2 := h) (dc2 := 0) (ds2 := 0) 2 rfl ?_
  refine wq_ialdk (k := 0) rfl hPl rfl rfl rfl ?_
  refine wq_eq2 rfl rfl (fun b2x => ?_) (fun b2x => ?_)
  · have q3x : (hp.getD 0 0).toInt = (pl.getD 0 0).toInt := congrArg Int32.toInt b2x
    refine wq_gos (f := 1) (pc2 := 9) (ls2 := [(2, .int 1), (0, .ref rh), (1, .ref rq)]) (st2 := [.ref rh]) (h2 := h) (dc2 := 0) (ds2 := 0) 6 rfl ?_
    refine wq_getf rfl hH rfl rfl ?_
    refine wq_gos (f := 1) (pc2 := 13) (ls2 := [(2, .int 1), (0, .ref rh), (1, .ref rq)]) (st2 := [.int 1, .ref (rh + 4)]) (h2 := h) (dc2 := 0) (ds2 := 0) 1 rfl ?_
    have q4x : (1 : Int32).toInt = 1 := rfl
    refine wq_ialdk (k := 1) rfl hP4 rfl rfl rfl ?_
    refine wq_gos (f := 1) (pc2 := 16) (ls2 := [(2, .int 1), (0, .ref rh), (1, .ref rq)]) (st2 := [.int 1, .ref rq, .int (hp.getD 1 0)]) (h2 := h) (dc2 := 0) (ds2 := 0) 2 rfl ?_
    refine wq_ialdk (k := 1) rfl hPl rfl rfl rfl ?_
    refine wq_eq2 rfl rfl (fun b5x => ?_) (fun b5x => ?_)
    · have q6x : (hp.getD 1 0).toInt = (pl.getD 1 0).toInt := congrArg Int32.toInt b5x
      refine wq_gos (f := 1) (pc2 := 9) (ls2 := [(2, .int 2), (0, .ref rh), (1, .ref rq)]) (st2 := [.ref rh]) (h2 := h) (dc2 := 0) (ds2 := 0) 6 rfl ?_
      refine wq_getf rfl hH rfl rfl ?_
      refine wq_gos (f := 1) (pc2 := 13) (ls2 := [(2, .int 2), (0, .ref rh), (1, .ref rq)]) (st2 := [.int 2, .ref (rh + 4)]) (h2 := h) (dc2 := 0) (ds2 := 0) 1 rfl ?_
      have q7x : (2 : Int32).toInt = 2 := rfl
      refine wq_ialdk (k := 2) rfl hP4 rfl rfl rfl ?_
      refine wq_gos (f := 1) (pc2 := 16) (ls2 := [(2, .int 2), (0, .ref rh), (1, .ref rq)]) (st2 := [.int 2, .ref rq, .int (hp.getD 2 0)]) (h2 := h) (dc2 := 0) (ds2 := 0) 2 rfl ?_
      refine wq_ialdk (k := 2) rfl hPl rfl rfl rfl ?_
      refine wq_eq2 rfl rfl (fun b8x => ?_) (fun b8x => ?_)
      · have q9x : (hp.getD 2 0).toInt = (pl.getD 2 0).toInt := congrArg Int32.toInt b8x
        refine wq_gos (f := 1) (pc2 := 9) (ls2 := [(2, .int 3), (0, .ref rh), (1, .ref rq)]) (st2 := [.ref rh]) (h2 := h) (dc2 := 0) (ds2 := 0) 6 rfl ?_
        refine wq_getf rfl hH rfl rfl ?_
        refine wq_gos (f := 1) (pc2 := 13) (ls2 := [(2, .int 3), (0, .ref rh), (1, .ref rq)]) (st2 := [.int 3, .ref (rh + 4)]) (h2 := h) (dc2 := 0) (ds2 := 0) 1 rfl ?_
        have q10x : (3 : Int32).toInt = 3 := rfl
        refine wq_ialdk (k := 3) rfl hP4 rfl rfl rfl ?_
        refine wq_gos (f := 1) (pc2 := 16) (ls2 := [(2, .int 3), (0, .ref rh), (1, .ref rq)]) (st2 := [.int 3, .ref rq, .int (hp.getD 3 0)]) (h2 := h) (dc2 := 0) (ds2 := 0) 2 rfl ?_
        refine wq_ialdk (k := 3) rfl hPl rfl rfl rfl ?_
        refine wq_eq2 rfl rfl (fun b11x => ?_) (fun b11x => ?_)
        · have q12x : (hp.getD 3 0).toInt = (pl.getD 3 0).toInt := congrArg Int32.toInt b11x
          refine wq_gos (f := 1) (pc2 := 9) (ls2 := [(2, .int 4), (0, .ref rh), (1, .ref rq)]) (st2 := [.ref rh]) (h2 := h) (dc2 := 0) (ds2 := 0) 6 rfl ?_
          refine wq_getf rfl hH rfl rfl ?_
          refine wq_gos (f := 1) (pc2 := 13) (ls2 := [(2, .int 4), (0, .ref rh), (1, .ref rq)]) (st2 := [.int 4, .ref (rh + 4)]) (h2 := h) (dc2 := 0) (ds2 := 0) 1 rfl ?_
          have q13x : (4 : Int32).toInt = 4 := rfl
          refine wq_ialdk (k := 4) rfl hP4 rfl rfl rfl ?_
          refine wq_gos (f := 1) (pc2 := 16) (ls2 := [(2, .int 4), (0, .ref rh), (1, .ref rq)]) (st2 := [.int 4, .ref rq, .int (hp.getD 4 0)]) (h2 := h) (dc2 := 0) (ds2 := 0) 2 rfl ?_
          refine wq_ialdk (k := 4) rfl hPl rfl rfl rfl ?_
          refine wq_eq2 rfl rfl (fun b14x => ?_) (fun b14x => ?_)
          · have q15x : (hp.getD 4 0).toInt = (pl.getD 4 0).toInt := congrArg Int32.toInt b14x
            refine wq_gos (f := 1) (pc2 := 9) (ls2 := [(2, .int 5), (0, .ref rh), (1, .ref rq)]) (st2 := [.ref rh]) (h2 := h) (dc2 := 0) (ds2 := 0) 6 rfl ?_
            refine wq_getf rfl hH rfl rfl ?_
            refine wq_gos (f := 1) (pc2 := 13) (ls2 := [(2, .int 5), (0, .ref rh), (1, .ref rq)]) (st2 := [.int 5, .ref (rh + 4)]) (h2 := h) (dc2 := 0) (ds2 := 0) 1 rfl ?_
            have q16x : (5 : Int32).toInt = 5 := rfl
            refine wq_ialdk (k := 5) rfl hP4 rfl rfl rfl ?_
            refine wq_gos (f := 1) (pc2 := 16) (ls2 := [(2, .int 5), (0, .ref rh), (1, .ref rq)]) (st2 := [.int 5, .ref rq, .int (hp.getD 5 0)]) (h2 := h) (dc2 := 0) (ds2 := 0) 2 rfl ?_
            refine wq_ialdk (k := 5) rfl hPl rfl rfl rfl ?_
            refine wq_eq2 rfl rfl (fun b17x => ?_) (fun b17x => ?_)
            · have q18x : (hp.getD 5 0).toInt = (pl.getD 5 0).toInt := congrArg Int32.toInt b17x
              refine wq_gos (f := 1) (pc2 := 29) (ls2 := [(2, .int 6), (0, .ref rh), (1, .ref rq)]) (st2 := [.ref rh]) (h2 := h) (dc2 := 0) (ds2 := 0) 6 rfl ?_
              refine wq_getf rfl hH rfl rfl ?_
              have w19x : (cIsOf kn hp pl) = kn := by unfold cIsOf; rw [if_pos b2x, if_pos b5x, if_pos b8x, if_pos b11x, if_pos b14x, if_pos b17x]
              rw [w19x]
              rcases hkn with q9 | q9 <;> (subst q9; exact wq_ret rfl rfl rfl)
            · have q20x : (hp.getD 5 0).toInt ≠ (pl.getD 5 0).toInt := fun q => b17x (Int32.toInt_inj.mp q)
              refine wq_gos (f := 1) (pc2 := 21) (ls2 := [(2, .int 5), (0, .ref rh), (1, .ref rq)]) (st2 := [.int 0]) (h2 := h) (dc2 := 0) (ds2 := 0) 1 rfl ?_
              have w21x : (cIsOf kn hp pl) = (0 : Int32) := by unfold cIsOf; rw [if_pos b2x, if_pos b5x, if_pos b8x, if_pos b11x, if_pos b14x, if_neg b17x]
              rw [w21x]
              exact wq_ret rfl rfl rfl
          · have q22x : (hp.getD 4 0).toInt ≠ (pl.getD 4 0).toInt := fun q => b14x (Int32.toInt_inj.mp q)
            refine wq_gos (f := 1) (pc2 := 21) (ls2 := [(2, .int 4), (0, .ref rh), (1, .ref rq)]) (st2 := [.int 0]) (h2 := h) (dc2 := 0) (ds2 := 0) 1 rfl ?_
            have w23x : (cIsOf kn hp pl) = (0 : Int32) := by unfold cIsOf; rw [if_pos b2x, if_pos b5x, if_pos b8x, if_pos b11x, if_neg b14x]
            rw [w23x]
            exact wq_ret rfl rfl rfl
        · have q24x : (hp.getD 3 0).toInt ≠ (pl.getD 3 0).toInt := fun q => b11x (Int32.toInt_inj.mp q)
          refine wq_gos (f := 1) (pc2 := 21) (ls2 := [(2, .int 3), (0, .ref rh), (1, .ref rq)]) (st2 := [.int 0]) (h2 := h) (dc2 := 0) (ds2 := 0) 1 rfl ?_
          have w25x : (cIsOf kn hp pl) = (0 : Int32) := by unfold cIsOf; rw [if_pos b2x, if_pos b5x, if_pos b8x, if_neg b11x]
          rw [w25x]
          exact wq_ret rfl rfl rfl
      · have q26x : (hp.getD 2 0).toInt ≠ (pl.getD 2 0).toInt := fun q => b8x (Int32.toInt_inj.mp q)
        refine wq_gos (f := 1) (pc2 := 21) (ls2 := [(2, .int 2), (0, .ref rh), (1, .ref rq)]) (st2 := [.int 0]) (h2 := h) (dc2 := 0) (ds2 := 0) 1 rfl ?_
        have w27x : (cIsOf kn hp pl) = (0 : Int32) := by unfold cIsOf; rw [if_pos b2x, if_pos b5x, if_neg b8x]
        rw [w27x]
        exact wq_ret rfl rfl rfl
    · have q28x : (hp.getD 1 0).toInt ≠ (pl.getD 1 0).toInt := fun q => b5x (Int32.toInt_inj.mp q)
      refine wq_gos (f := 1) (pc2 := 21) (ls2 := [(2, .int 1), (0, .ref rh), (1, .ref rq)]) (st2 := [.int 0]) (h2 := h) (dc2 := 0) (ds2 := 0) 1 rfl ?_
      have w29x : (cIsOf kn hp pl) = (0 : Int32) := by unfold cIsOf; rw [if_pos b2x, if_neg b5x]
      rw [w29x]
      exact wq_ret rfl rfl rfl
  · have q30x : (hp.getD 0 0).toInt ≠ (pl.getD 0 0).toInt := fun q => b2x (Int32.toInt_inj.mp q)
    refine wq_gos (f := 1) (pc2 := 21) (ls2 := [(2, .int 0), (0, .ref rh), (1, .ref rq)]) (st2 := [.int 0]) (h2 := h) (dc2 := 0) (ds2 := 0) 1 rfl ?_
    have w31x : (cIsOf kn hp pl) = (0 : Int32) := by unfold cIsOf; rw [if_neg b2x]
    rw [w31x]
    exact wq_ret rfl rfl rfl
theorem isof_t {kn : Int32} {hp pl : List Int32} (h : cIsOf kn hp pl ≠ 0) : kn ≠ 0 ∧ ∀ i, i < 6 → hp.getD i 0 = pl.getD i 0 := by
  unfold cIsOf at h
  by_cases q0 : hp.getD 0 0 = pl.getD 0 0
  · by_cases q1 : hp.getD 1 0 = pl.getD 1 0
    · by_cases q2 : hp.getD 2 0 = pl.getD 2 0
      · by_cases q3 : hp.getD 3 0 = pl.getD 3 0
        · by_cases q4 : hp.getD 4 0 = pl.getD 4 0
          · by_cases q5 : hp.getD 5 0 = pl.getD 5 0
            · rw [if_pos q0, if_pos q1, if_pos q2, if_pos q3, if_pos q4, if_pos q5] at h
              refine ⟨h, fun i hi => ?_⟩
              rcases i with _ | _ | _ | _ | _ | _ | i
              · exact q0
              · exact q1
              · exact q2
              · exact q3
              · exact q4
              · exact q5
              · omega
            · rw [if_pos q0, if_pos q1, if_pos q2, if_pos q3, if_pos q4, if_neg q5] at h; exact absurd rfl h
          · rw [if_pos q0, if_pos q1, if_pos q2, if_pos q3, if_neg q4] at h; exact absurd rfl h
        · rw [if_pos q0, if_pos q1, if_pos q2, if_neg q3] at h; exact absurd rfl h
      · rw [if_pos q0, if_pos q1, if_neg q2] at h; exact absurd rfl h
    · rw [if_pos q0, if_neg q1] at h; exact absurd rfl h
  · rw [if_neg q0] at h; exact absurd rfl h
set_option maxRecDepth 100000 in
set_option maxHeartbeats 4000000 in
theorem c_hn {h : zH} {t ra rd : Nat} {ps ip : Int64} {im : Int32} {sp so : Nat} {lk hd ht bl sd : Int32} {rt : Int64} {ll lg : List Int32} {hrL cap rs sc : Nat} {v0 v1 : Value} {nf kn to ks fa : Int32} {tg hp sh el wr ou bh pl : List Int32} {li so1 : List Int64} (hX : zat h 0 = some (.inr (.inr (.inr (9, [.ref 2, .int (nI t), .ref 4, .ref ra, .ref rd, .long ps, .ref 34, .ref 36, .int im, .long ip, .ref 42, .ref 44, .ref 60, .ref 66, .ref 72, .ref 74, .ref 150, .ref 158]))))) (hA : zat h ra = some (.inr (.inr (.inr (0, [.int lk, .int hd, .int ht, .int bl, .int sd, .long rt, .ref (ra + 2), .ref (ra + 4), .ref (ra + 6), .int (nI sp), .ref (ra + 8), .ref (ra + 10), .int (nI so), .ref (ra + 12)]))))) (hL : zat h (ra + 2) = some (.inl (0, 6, ll))) (hG : zat h (ra + 4) = some (.inl (0, 6, lg))) (hAi : zat h 34 = some (.inl (0, 6, pl))) (hH : zat h 60 = some (.inr (.inr (.inr (1, [.int kn, .int to, .ref hrL, .ref 64, .int ks, .int fa]))))) (hP4 : zat h 64 = some (.inl (0, 6, hp))) (hI : zat h hrL = some (.inr (.inl (cap, li)))) (hS : zat h 44 = some (.inr (.inr (.inr (7, [v0, v1, .ref 46, .int nf, .ref 48, .ref 50, .ref 52, .ref 54, .ref 56, .ref rs]))))) (h46 : zat h 46 = some (.inl (0, 6, tg))) (h48 : zat h 48 = some (.inl (0, 128, sh))) (h50 : zat h 50 = some (.inl (0, 128, el))) (h52 : zat h 52 = some (.inl (0, 128, wr))) (h54 : zat h 54 = some (.inl (0, 128, ou))) (hB : zat h 56 = some (.inl (0, 101, bh))) (hO : zat h rs = some (.inr (.inl (sc, so1)))) (hra : ra = 6 ∨ ra = 20) (hkn : kn = 0 ∨ kn = 1) (hsc : wScl lk hd ht bl sd) (hlm : wLm ll lg) (hK : wHO ll lg lk hd ht kn to cap hp li) (hd1 : hrL = 62 ∨ 234 ≤ hrL) (hd2 : (rs = 58 ∨ 234 ≤ rs) ∧ rs ≠ hrL) (hcs : 16 ≤ cap ∧ cap ≤ 600 ∧ sc ≤ 600) (hlen : 117 ≤ h.length) : wq 148 0 [(0, .ref 0)] [] h 0 0 (fun rr9 => ∃ (h2 : zH) (rL2 : Nat) (cap2 : Nat) (rs2 : Nat) (sc2 : Nat) (v02 : Value) (v12 : Value) (nf2 : Int32) (kn2 : Int32) (ks2 : Int32) (fa2 : Int32) (tg2 : List Int32) (hp2 : List Int32) (sh2 : List Int32) (el2 : List Int32) (wr2 : List Int32) (ou2 : List Int32) (bh2 : List Int32) (li2 : List Int64) (so2 : List Int64) (d9 s9 : Nat), rr9 = (some (.ref 60), h2, d9, s9) ∧ wFr [hrL, 60, 64, 44, 46, 48, 50, 52, 54, 56, rs] h h2 ∧ h.length ≤ h2.length ∧ zat h2 60 = some (.inr (.inr (.inr (1, [.int kn2, .int (nI (sSolL ll lg lk hd ht pl 64 (-32)).length), .ref rL2, .ref 64, .int ks2, .int fa2])))) ∧ zat h2 64 = some (.inl (0, 6, hp2)) ∧ zat h2 rL2 = some (.inr (.inl (cap2, li2))) ∧ zat h2 44 = some (.inr (.inr (.inr (7, [v02, v12, .ref 46, .int nf2, .ref 48, .ref 50, .ref 52, .ref 54, .ref 56, .ref rs2])))) ∧ zat h2 46 = some (.inl (0, 6, tg2)) ∧ zat h2 48 = some (.inl (0, 128, sh2)) ∧ zat h2 50 = some (.inl (0, 128, el2)) ∧ zat h2 52 = some (.inl (0, 128, wr2)) ∧ zat h2 54 = some (.inl (0, 128, ou2)) ∧ zat h2 56 = some (.inl (0, 101, bh2)) ∧ zat h2 rs2 = some (.inr (.inl (sc2, so2))) ∧ (kn2 = 1) ∧ (∀ i, i < 6 → hp2.getD i 0 = pl.getD i 0) ∧ (wHK (sSolL ll lg lk hd ht pl 64 (-32)) cap2 li2) ∧ (wHO ll lg lk hd ht kn2 (nI (sSolL ll lg lk hd ht pl 64 (-32)).length) cap2 hp2 li2) ∧ (16 ≤ cap2 ∧ cap2 ≤ 600 ∧ sc2 ≤ 600 ∧ cap ≤ cap2 ∧ sc ≤ sc2) ∧ (rL2 = hrL ∨ 2 * h.length ≤ rL2) ∧ (rs2 = rs ∨ 2 * h.length ≤ rs2) ∧ (rs2 ≠ rL2) ∧ (((sSolL ll lg lk hd ht pl 64 (-32)).length ≤ cap2 ∨ cap2 = 600) ∧ (sSolL ll lg lk hd ht pl 64 (-32)).length ≤ 16384) ∧ (d9 + cap + sc ≤ cap2 + sc2) ∧ (s9 + 600 * (cap + sc) ≤ 600 * (cap2 + sc2))) := by
  have zi := zat_lt hI
  have zo := zat_lt hO
  refine wq_gos (f := 1) (pc2 := 1) (ls2 := [(0, .ref 0)]) (st2 := [.ref 0]) (h2 := h) (dc2 := 0) (ds2 := 0) 1 rfl ?_
  refine wq_getf rfl hX rfl rfl ?_
  refine wq_gos (f := 1) (pc2 := 5) (ls2 := [(0, .ref 0)]) (st2 := [.ref 0, .ref 60]) (h2 := h) (dc2 := 0) (ds2 := 0) 1 rfl ?_
  refine wq_getf rfl hX rfl rfl ?_
  refine wq_inlv (y2 := 13) (as := [.ref 34]) rfl rfl rfl hH rfl (wq_mono (c_isof hH hP4 hAi (by first | omega | assumption | decide | solve_by_elim)) ?_)
  rintro _ rfl
  show wq 148 11 [(0, .ref 0)] [.int (cIsOf kn hp pl)] h 0 0 _
  refine wq_ne0 rfl rfl (fun b2x => ?_) (fun b2x => ?_)
  · have q3x : (cIsOf kn hp pl).toInt ≠ 0 := fun q => b2x (Int32.toInt_inj.mp q)
    obtain ⟨hk1, hk2⟩ := isof_t b2x
    obtain ⟨hk3, hk4⟩ := hK hk1
    have hk5 := hK
    rw [hk3] at hk5
    rw [sSolL_c hk2] at hk3 hk4 hk5
    rw [hk3] at hH
    refine wq_gos (f := 1) (pc2 := 34) (ls2 := [(0, .ref 0)]) (st2 := [.ref 0]) (h2 := h) (dc2 := 0) (ds2 := 0) 1 rfl ?_
    refine wq_getf rfl hX rfl rfl ?_
    exact wq_ret rfl rfl ⟨h, hrL, cap, rs, sc, v0, v1, nf, kn, ks, fa, tg, hp, sh, el, wr, ou, bh, li, so1, 0, 0, rfl, (wFr_rf _ _), (by omega), hH, hP4, hI, hS, h46, h48, h50, h52, h54, hB, hO, (by rcases hkn with q9 | q9; exact absurd q9 hk1; exact q9), hk2, hk4, hk5, (by first | omega | assumption | decide | solve_by_elim), (by first | omega | assumption | decide | solve_by_elim), (by first | omega | assumption | decide | solve_by_elim), (by first | omega | assumption | decide | solve_by_elim), ⟨hk4.2, sSolL_len ll lg lk hd ht pl 64 (-32)⟩, (by first | omega | assumption | decide | solve_by_elim), (by first | omega | assumption | decide | solve_by_elim)⟩
  · have q4x : (cIsOf kn hp pl).toInt = 0 := congrArg Int32.toInt b2x
    refine wq_gos (f := 1) (pc2 := 15) (ls2 := [(0, .ref 0)]) (st2 := [.ref 0]) (h2 := h) (dc2 := 0) (ds2 := 0) 1 rfl ?_
    refine wq_getf rfl hX rfl rfl ?_
    refine wq_gos (f := 1) (pc2 := 19) (ls2 := [(0, .ref 0)]) (st2 := [.ref 0, .ref 44]) (h2 := h) (dc2 := 0) (ds2 := 0) 1 rfl ?_
    refine wq_getf rfl hX rfl rfl ?_
    refine wq_gos (f := 1) (pc2 := 23) (ls2 := [(0, .ref 0)]) (st2 := [.ref 0, .ref ra, .ref 44]) (h2 := h) (dc2 := 0) (ds2 := 0) 1 rfl ?_
    refine wq_getf rfl hX rfl rfl ?_
    refine wq_gos (f := 1) (pc2 := 27) (ls2 := [(0, .ref 0)]) (st2 := [.ref 0, .ref 34, .ref ra, .ref 44]) (h2 := h) (dc2 := 0) (ds2 := 0) 1 rfl ?_
    refine wq_getf rfl hX rfl rfl ?_
    have hlm0 := hlm 0 (by decide)
    have zlh := zLow_rng 0 (by decide)
    have zl0 : (zLow.getD 0 0).toInt = 0 := rfl
    have zh0 : (zHigh.getD 0 0).toInt = 99 := rfl
    have hsc9 := hsc
    unfold wScl at hsc9
    refine wq_inlv (y2 := 82) (as := [.ref ra, .ref 34, .ref 60]) rfl rfl rfl hS rfl (wq_mono (c_solve (rh := 60) hA hL hG hS h46 h48 h50 h52 h54 hB hO hH hP4 hI hAi ⟨by omega, by omega⟩ ⟨by omega, by omega⟩ ⟨by omega, by omega⟩ ⟨by omega, by omega, by omega⟩ ⟨by decide, by decide, by omega⟩ ⟨by omega, by omega⟩ ⟨by decide, by decide, by decide, by decide, by decide, by decide, by omega⟩ ⟨by omega, by omega, by omega⟩ hlen) ?_)
    rintro _ ⟨h8, rL2, cap2, rs2, sc2, nf2, ks2, fa2, tg2, hp2, sh2, el2, wr2, ou2, bh2, li2, so2, d, s, rfl, f8, j1, j2, j3, j4, j5, j6, j7, j8, j9, j10, j11, j12, j13, j14⟩
    have f8l := f8.1
    show wq 148 33 [(0, .ref 0)] [] h8 (0 + d) (0 + s) _
    rw [Nat.zero_add, Nat.zero_add]
    refine wq_gos (f := 1) (pc2 := 34) (ls2 := [(0, .ref 0)]) (st2 := [.ref 0]) (h2 := h8) (dc2 := d) (ds2 := s) 1 rfl ?_
    have e5x := (f8.2 _ _ (wnc (by omega) (wnc (by decide) (wnc (by decide) (wnc (by decide) (wnc (by decide) (wnc (by decide) (wnc (by decide) (wnc (by decide) (wnc (by decide) (wnc (by decide) (wnc (by omega) wn0))))))))))) hX)
    refine wq_getf rfl e5x rfl rfl ?_
    exact wq_ret rfl rfl ⟨h8, rL2, cap2, rs2, sc2, (.ref ra), (.ref 60), nf2, (1 : Int32), ks2, fa2, tg2, hp2, sh2, el2, wr2, ou2, bh2, li2, so2, d, s, rfl, (wFr_sub f8 (by simp)), (by omega), j9, j10, j11, j1, j2, j3, j4, j5, j6, j7, j8, (by decide), j12, ⟨j13, by omega⟩, (fun _ => by rw [sSolL_c j12]; exact ⟨rfl, j13, by omega⟩), (by first | omega | assumption | decide | solve_by_elim), (by first | omega | assumption | decide | solve_by_elim), (by first | omega | assumption | decide | solve_by_elim), (by first | omega | assumption | decide | solve_by_elim), ⟨by omega, sSolL_len ll lg lk hd ht pl 64 (-32)⟩, (by first | omega | assumption | decide | solve_by_elim), (by first | omega | assumption | decide | solve_by_elim)⟩
noncomputable def cSols (n9 : Nat) (li9 : List Int64)  : Int32 := (if (nI n9).toInt ≤ (600 : Int32).toInt then (nI n9) else (-3))
set_option maxRecDepth 100000 in
set_option maxHeartbeats 4000000 in
theorem c_sols {h : zH} {t ra rd : Nat} {ps ip : Int64} {im : Int32} {sp so : Nat} {lk hd ht bl sd : Int32} {rt : Int64} {ll lg : List Int32} {hrL cap rs sc : Nat} {v0 v1 : Value} {nf kn to ks fa : Int32} {tg hp sh el wr ou bh pl : List Int32} {li so1 : List Int64} (hX : zat h 0 = some (.inr (.inr (.inr (9, [.ref 2, .int (nI t), .ref 4, .ref ra, .ref rd, .long ps, .ref 34, .ref 36, .int im, .long ip, .ref 42, .ref 44, .ref 60, .ref 66, .ref 72, .ref 74, .ref 150, .ref 158]))))) (hA : zat h ra = some (.inr (.inr (.inr (0, [.int lk, .int hd, .int ht, .int bl, .int sd, .long rt, .ref (ra + 2), .ref (ra + 4), .ref (ra + 6), .int (nI sp), .ref (ra + 8), .ref (ra + 10), .int (nI so), .ref (ra + 12)]))))) (hL : zat h (ra + 2) = some (.inl (0, 6, ll))) (hG : zat h (ra + 4) = some (.inl (0, 6, lg))) (hAi : zat h 34 = some (.inl (0, 6, pl))) (hH : zat h 60 = some (.inr (.inr (.inr (1, [.int kn, .int to, .ref hrL, .ref 64, .int ks, .int fa]))))) (hP4 : zat h 64 = some (.inl (0, 6, hp))) (hI : zat h hrL = some (.inr (.inl (cap, li)))) (hS : zat h 44 = some (.inr (.inr (.inr (7, [v0, v1, .ref 46, .int nf, .ref 48, .ref 50, .ref 52, .ref 54, .ref 56, .ref rs]))))) (h46 : zat h 46 = some (.inl (0, 6, tg))) (h48 : zat h 48 = some (.inl (0, 128, sh))) (h50 : zat h 50 = some (.inl (0, 128, el))) (h52 : zat h 52 = some (.inl (0, 128, wr))) (h54 : zat h 54 = some (.inl (0, 128, ou))) (hB : zat h 56 = some (.inl (0, 101, bh))) (hO : zat h rs = some (.inr (.inl (sc, so1)))) (hra : ra = 6 ∨ ra = 20) (hkn : kn = 0 ∨ kn = 1) (hsc : wScl lk hd ht bl sd) (hlm : wLm ll lg) (hK : wHO ll lg lk hd ht kn to cap hp li) (hd1 : hrL = 62 ∨ 234 ≤ hrL) (hd2 : (rs = 58 ∨ 234 ≤ rs) ∧ rs ≠ hrL) (hcs : 16 ≤ cap ∧ cap ≤ 600 ∧ sc ≤ 600) (hlen : 117 ≤ h.length) : wq 113 0 [(0, .ref 0)] [] h 0 0 (fun rr9 => ∃ (h2 : zH) (rL2 : Nat) (cap2 : Nat) (rs2 : Nat) (sc2 : Nat) (v02 : Value) (v12 : Value) (nf2 : Int32) (kn2 : Int32) (ks2 : Int32) (fa2 : Int32) (tg2 : List Int32) (hp2 : List Int32) (sh2 : List Int32) (el2 : List Int32) (wr2 : List Int32) (ou2 : List Int32) (bh2 : List Int32) (li2 : List Int64) (so2 : List Int64) (d9 s9 : Nat), rr9 = (some (.int (cSols (sSolL ll lg lk hd ht pl 64 (-32)).length li2 )), h2, d9, s9) ∧ wFr [hrL, 60, 64, 44, 46, 48, 50, 52, 54, 56, rs] h h2 ∧ h.length ≤ h2.length ∧ zat h2 60 = some (.inr (.inr (.inr (1, [.int kn2, .int (nI (sSolL ll lg lk hd ht pl 64 (-32)).length), .ref rL2, .ref 64, .int ks2, .int fa2])))) ∧ zat h2 64 = some (.inl (0, 6, hp2)) ∧ zat h2 rL2 = some (.inr (.inl (cap2, li2))) ∧ zat h2 44 = some (.inr (.inr (.inr (7, [v02, v12, .ref 46, .int nf2, .ref 48, .ref 50, .ref 52, .ref 54, .ref 56, .ref rs2])))) ∧ zat h2 46 = some (.inl (0, 6, tg2)) ∧ zat h2 48 = some (.inl (0, 128, sh2)) ∧ zat h2 50 = some (.inl (0, 128, el2)) ∧ zat h2 52 = some (.inl (0, 128, wr2)) ∧ zat h2 54 = some (.inl (0, 128, ou2)) ∧ zat h2 56 = some (.inl (0, 101, bh2)) ∧ zat h2 rs2 = some (.inr (.inl (sc2, so2))) ∧ (kn2 = 1) ∧ (∀ i, i < 6 → hp2.getD i 0 = pl.getD i 0) ∧ (wHK (sSolL ll lg lk hd ht pl 64 (-32)) cap2 li2) ∧ (wHO ll lg lk hd ht kn2 (nI (sSolL ll lg lk hd ht pl 64 (-32)).length) cap2 hp2 li2) ∧ (16 ≤ cap2 ∧ cap2 ≤ 600 ∧ sc2 ≤ 600 ∧ cap ≤ cap2 ∧ sc ≤ sc2) ∧ (rL2 = hrL ∨ 2 * h.length ≤ rL2) ∧ (rs2 = rs ∨ 2 * h.length ≤ rs2) ∧ (rs2 ≠ rL2) ∧ (((sSolL ll lg lk hd ht pl 64 (-32)).length ≤ cap2 ∨ cap2 = 600) ∧ (sSolL ll lg lk hd ht pl 64 (-32)).length ≤ 16384) ∧ (d9 + cap + sc ≤ cap2 + sc2) ∧ (s9 + 600 * (cap + sc) ≤ 600 * (cap2 + sc2))) := by
  have zi := zat_lt hI
  have zo := zat_lt hO
  have z0 : (0 : Int32).toInt = 0 := rfl
  have z1 : (1 : Int32).toInt = 1 := rfl
  have z5 : (5 : Int32).toInt = 5 := rfl
  have z6 : (6 : Int32).toInt = 6 := rfl
  have z600 : (600 : Int32).toInt = 600 := rfl
  refine wq_gos (f := 1) (pc2 := 1) (ls2 := [(0, .ref 0)]) (st2 := [.ref 0]) (h2 := h) (dc2 := 0) (ds2 := 0) 1 rfl ?_
  refine wq_inlv (y2 := 148) (as := []) rfl rfl rfl hX rfl (wq_mono (c_hn hX hA hL hG hAi hH hP4 hI hS h46 h48 h50 h52 h54 hB hO (by first | omega | assumption | decide | solve_by_elim) (by first | omega | assumption | decide | solve_by_elim) (by first | omega | assumption | decide | solve_by_elim) (by first | omega | assumption | decide | solve_by_elim) (by first | omega | assumption | decide | solve_by_elim) (by first | omega | assumption | decide | solve_by_elim) (by first | omega | assumption | decide | solve_by_elim) (by first | omega | assumption | decide | solve_by_elim) (by first | omega | assumption | decide | solve_by_elim)) ?_)
  rintro _ ⟨h81x, rL21x, cap21x, rs21x, sc21x, v021x, v121x, nf21x, kn21x, ks21x, fa21x, tg21x, hp21x, sh21x, el21x, wr21x, ou21x, bh21x, li21x, so21x, d91x, s91x, rfl, f81x, l81x, c01x, c11x, c21x, c31x, c41x, c51x, c61x, c71x, c81x, c91x, c101x, p01x, p11x, p21x, p31x, p41x, p51x, p61x, p71x, p81x, al01x, al11x⟩
  show wq 113 4 [(0, .ref 0)] [.ref 60] h81x (0 + d91x) (0 + s91x) _
  refine wq_gos (f := 1) (pc2 := 6) (ls2 := [(1, .ref 60), (0, .ref 0)]) (st2 := [.ref 60]) (h2 := h81x) (dc2 := (0 + d91x)) (ds2 := (0 + s91x)) 2 rfl ?_
  refine wq_inlv (y2 := 16) (as := []) rfl rfl rfl c01x rfl ?_
  show wq 16 0 [(0, .ref 60)] [] h81x 0 0 _
  refine wq_gos (f := 1) (pc2 := 1) (ls2 := [(0, .ref 60)]) (st2 := [.ref 60]) (h2 := h81x) (dc2 := 0) (ds2 := 0) 1 rfl ?_
  refine wq_getf rfl c01x rfl rfl ?_
  refine wq_gos (f := 1) (pc2 := 7) (ls2 := [(0, .ref 60)]) (st2 := [.int 600, .int (nI (sSolL ll lg lk hd ht pl 64 (-32)).length)]) (h2 := h81x) (dc2 := 0) (ds2 := 0) 1 rfl ?_
  try have q2x := nI_toInt (n := (sSolL ll lg lk hd ht pl 64 (-32)).length) (by omega)
  have q3x : (600 : Int32).toInt = 600 := rfl
  refine wq_le2 rfl rfl (fun b4x => ?_) (fun b4x => ?_)
  · refine wq_gos (f := 1) (pc2 := 15) (ls2 := [(0, .ref 60)]) (st2 := [.int 0]) (h2 := h81x) (dc2 := 0) (ds2 := 0) 1 rfl ?_
    refine wq_ret rfl rfl ?_
    show wq 113 9 [(1, .ref 60), (0, .ref 0)] [.int 0] h81x (0 + d91x) (0 + s91x) _
    refine wq_gos (f := 1) (pc2 := 18) (ls2 := [(1, .ref 60), (0, .ref 0)]) (st2 := [.ref 60]) (h2 := h81x) (dc2 := (0 + d91x)) (ds2 := (0 + s91x)) 2 rfl ?_
    refine wq_getf rfl c01x rfl rfl ?_
    have w5x : (cSols (sSolL ll lg lk hd ht pl 64 (-32)).length li21x ) = (nI (sSolL ll lg lk hd ht pl 64 (-32)).length) := by unfold cSols; rw [if_pos b4x]
    exact wq_ret rfl rfl ⟨h81x, rL21x, cap21x, rs21x, sc21x, v021x, v121x, nf21x, kn21x, ks21x, fa21x, tg21x, hp21x, sh21x, el21x, wr21x, ou21x, bh21x, li21x, so21x, (0 + d91x), (0 + s91x), (by rw [w5x]), (wFr_sub f81x (by simp)), (by omega), c01x, c11x, c21x, c31x, c41x, c51x, c61x, c71x, c81x, c91x, c101x, (by first | omega | assumption | decide | solve_by_elim), (by first | omega | assumption | decide | solve_by_elim), (by first | omega | assumption | decide | solve_by_elim), (by first | omega | assumption | decide | solve_by_elim), (by first | omega | assumption | decide | solve_by_elim), (by first | omega | assumption | decide | solve_by_elim), (by first | omega | assumption | decide | solve_by_elim), (by first | omega | assumption | decide | solve_by_elim), (by first | omega | assumption | decide | solve_by_elim), (by first | omega | assumption | decide | solve_by_elim), (by first | omega | assumption | decide | solve_by_elim)⟩
  · refine wq_gos (f := 1) (pc2 := 15) (ls2 := [(0, .ref 60)]) (st2 := [.int 1]) (h2 := h81x) (dc2 := 0) (ds2 := 0) 2 rfl ?_
    refine wq_ret rfl rfl ?_
    show wq 113 9 [(1, .ref 60), (0, .ref 0)] [.int 1] h81x (0 + d91x) (0 + s91x) _
    refine wq_gos (f := 1) (pc2 := 21) (ls2 := [(1, .ref 60), (0, .ref 0)]) (st2 := [.int (-3)]) (h2 := h81x) (dc2 := (0 + d91x)) (ds2 := (0 + s91x)) 3 rfl ?_
    have w6x : (cSols (sSolL ll lg lk hd ht pl 64 (-32)).length li21x ) = (-3 : Int32) := by unfold cSols; rw [if_neg (Int.not_le.mpr b4x)]
    exact wq_ret rfl rfl ⟨h81x, rL21x, cap21x, rs21x, sc21x, v021x, v121x, nf21x, kn21x, ks21x, fa21x, tg21x, hp21x, sh21x, el21x, wr21x, ou21x, bh21x, li21x, so21x, (0 + d91x), (0 + s91x), (by rw [w6x]), (wFr_sub f81x (by simp)), (by omega), c01x, c11x, c21x, c31x, c41x, c51x, c61x, c71x, c81x, c91x, c101x, (by first | omega | assumption | decide | solve_by_elim), (by first | omega | assumption | decide | solve_by_elim), (by first | omega | assumption | decide | solve_by_elim), (by first | omega | assumption | decide | solve_by_elim), (by first | omega | assumption | decide | solve_by_elim), (by first | omega | assumption | decide | solve_by_elim), (by first | omega | assumption | decide | solve_by_elim), (by first | omega | assumption | decide | solve_by_elim), (by first | omega | assumption | decide | solve_by_elim), (by first | omega | assumption | decide | solve_by_elim), (by first | omega | assumption | decide | solve_by_elim)⟩
noncomputable def cSol (n9 : Nat) (li9 : List Int64) (k j : Int32) : Int32 := (if j.toInt < 0 then (-99) else (if j.toInt < (6 : Int32).toInt then (if k.toInt < 0 then (-99) else (if (nI n9).toInt ≤ k.toInt then (-99) else (if (nI n9).toInt ≤ (600 : Int32).toInt then (jnumv (li9.getD (k).toNatClampNeg 0) j) else (-99)))) else (-99)))
set_option maxRecDepth 100000 in
set_option maxHeartbeats 4000000 in
theorem c_sol {h : zH} {t ra rd : Nat} {ps ip : Int64} {im : Int32} {sp so : Nat} {lk hd ht bl sd : Int32} {rt : Int64} {ll lg : List Int32} {hrL cap rs sc : Nat} {v0 v1 : Value} {nf kn to ks fa : Int32} {tg hp sh el wr ou bh pl : List Int32} {li so1 : List Int64} {k j : Int32} (hX : zat h 0 = some (.inr (.inr (.inr (9, [.ref 2, .int (nI t), .ref 4, .ref ra, .ref rd, .long ps, .ref 34, .ref 36, .int im, .long ip, .ref 42, .ref 44, .ref 60, .ref 66, .ref 72, .ref 74, .ref 150, .ref 158]))))) (hA : zat h ra = some (.inr (.inr (.inr (0, [.int lk, .int hd, .int ht, .int bl, .int sd, .long rt, .ref (ra + 2), .ref (ra + 4), .ref (ra + 6), .int (nI sp), .ref (ra + 8), .ref (ra + 10), .int (nI so), .ref (ra + 12)]))))) (hL : zat h (ra + 2) = some (.inl (0, 6, ll))) (hG : zat h (ra + 4) = some (.inl (0, 6, lg))) (hAi : zat h 34 = some (.inl (0, 6, pl))) (hH : zat h 60 = some (.inr (.inr (.inr (1, [.int kn, .int to, .ref hrL, .ref 64, .int ks, .int fa]))))) (hP4 : zat h 64 = some (.inl (0, 6, hp))) (hI : zat h hrL = some (.inr (.inl (cap, li)))) (hS : zat h 44 = some (.inr (.inr (.inr (7, [v0, v1, .ref 46, .int nf, .ref 48, .ref 50, .ref 52, .ref 54, .ref 56, .ref rs]))))) (h46 : zat h 46 = some (.inl (0, 6, tg))) (h48 : zat h 48 = some (.inl (0, 128, sh))) (h50 : zat h 50 = some (.inl (0, 128, el))) (h52 : zat h 52 = some (.inl (0, 128, wr))) (h54 : zat h 54 = some (.inl (0, 128, ou))) (hB : zat h 56 = some (.inl (0, 101, bh))) (hO : zat h rs = some (.inr (.inl (sc, so1)))) (hra : ra = 6 ∨ ra = 20) (hkn : kn = 0 ∨ kn = 1) (hsc : wScl lk hd ht bl sd) (hlm : wLm ll lg) (hK : wHO ll lg lk hd ht kn to cap hp li) (hd1 : hrL = 62 ∨ 234 ≤ hrL) (hd2 : (rs = 58 ∨ 234 ≤ rs) ∧ rs ≠ hrL) (hcs : 16 ≤ cap ∧ cap ≤ 600 ∧ sc ≤ 600) (hlen : 117 ≤ h.length) : wq 114 0 [(0, .ref 0), (1, .int k), (2, .int j)] [] h 0 0 (fun rr9 => ∃ (h2 : zH) (rL2 : Nat) (cap2 : Nat) (rs2 : Nat) (sc2 : Nat) (v02 : Value) (v12 : Value) (nf2 : Int32) (kn2 : Int32) (ks2 : Int32) (fa2 : Int32) (tg2 : List Int32) (hp2 : List Int32) (sh2 : List Int32) (el2 : List Int32) (wr2 : List Int32) (ou2 : List Int32) (bh2 : List Int32) (li2 : List Int64) (so2 : List Int64) (d9 s9 : Nat), rr9 = (some (.int (cSol (sSolL ll lg lk hd ht pl 64 (-32)).length li2 k j)), h2, d9, s9) ∧ wFr [hrL, 60, 64, 44, 46, 48, 50, 52, 54, 56, rs] h h2 ∧ h.length ≤ h2.length ∧ zat h2 60 = some (.inr (.inr (.inr (1, [.int kn2, .int (nI (sSolL ll lg lk hd ht pl 64 (-32)).length), .ref rL2, .ref 64, .int ks2, .int fa2])))) ∧ zat h2 64 = some (.inl (0, 6, hp2)) ∧ zat h2 rL2 = some (.inr (.inl (cap2, li2))) ∧ zat h2 44 = some (.inr (.inr (.inr (7, [v02, v12, .ref 46, .int nf2, .ref 48, .ref 50, .ref 52, .ref 54, .ref 56, .ref rs2])))) ∧ zat h2 46 = some (.inl (0, 6, tg2)) ∧ zat h2 48 = some (.inl (0, 128, sh2)) ∧ zat h2 50 = some (.inl (0, 128, el2)) ∧ zat h2 52 = some (.inl (0, 128, wr2)) ∧ zat h2 54 = some (.inl (0, 128, ou2)) ∧ zat h2 56 = some (.inl (0, 101, bh2)) ∧ zat h2 rs2 = some (.inr (.inl (sc2, so2))) ∧ (kn2 = 1) ∧ (∀ i, i < 6 → hp2.getD i 0 = pl.getD i 0) ∧ (wHK (sSolL ll lg lk hd ht pl 64 (-32)) cap2 li2) ∧ (wHO ll lg lk hd ht kn2 (nI (sSolL ll lg lk hd ht pl 64 (-32)).length) cap2 hp2 li2) ∧ (16 ≤ cap2 ∧ cap2 ≤ 600 ∧ sc2 ≤ 600 ∧ cap ≤ cap2 ∧ sc ≤ sc2) ∧ (rL2 = hrL ∨ 2 * h.length ≤ rL2) ∧ (rs2 = rs ∨ 2 * h.length ≤ rs2) ∧ (rs2 ≠ rL2) ∧ (((sSolL ll lg lk hd ht pl 64 (-32)).length ≤ cap2 ∨ cap2 = 600) ∧ (sSolL ll lg lk hd ht pl 64 (-32)).length ≤ 16384) ∧ (d9 + cap + sc ≤ cap2 + sc2) ∧ (s9 + 600 * (cap + sc) ≤ 600 * (cap2 + sc2))) := by
  have zi := zat_lt hI
  have zo := zat_lt hO
  have z0 : (0 : Int32).toInt = 0 := rfl
  have z1 : (1 : Int32).toInt = 1 := rfl
  have z5 : (5 : Int32).toInt = 5 := rfl
  have z6 : (6 : Int32).toInt = 6 := rfl
  have z600 : (600 : Int32).toInt = 600 := rfl
  refine wq_gos (f := 1) (pc2 := 1) (ls2 := [(0, .ref 0), (1, .int k), (2, .int j)]) (st2 := [.ref 0]) (h2 := h) (dc2 := 0) (ds2 := 0) 1 rfl ?_
  refine wq_inlv (y2 := 148) (as := []) rfl rfl rfl hX rfl (wq_mono (c_hn hX hA hL hG hAi hH hP4 hI hS h46 h48 h50 h52 h54 hB hO (by first | omega | assumption | decide | solve_by_elim) (by first | omega | assumption | decide | solve_by_elim) (by first | omega | assumption | decide | solve_by_elim) (by first | omega | assumption | decide | solve_by_elim) (by first | omega | assumption | decide | solve_by_elim) (by first | omega | assumption | decide | solve_by_elim) (by first | omega | assumption | decide | solve_by_elim) (by first | omega | assumption | decide | solve_by_elim) (by first | omega | assumption | decide | solve_by_elim)) ?_)
  rintro _ ⟨h81x, rL21x, cap21x, rs21x, sc21x, v021x, v121x, nf21x, kn21x, ks21x, fa21x, tg21x, hp21x, sh21x, el21x, wr21x, ou21x, bh21x, li21x, so21x, d91x, s91x, rfl, f81x, l81x, c01x, c11x, c21x, c31x, c41x, c51x, c61x, c71x, c81x, c91x, c101x, p01x, p11x, p21x, p31x, p41x, p51x, p61x, p71x, p81x, al01x, al11x⟩
  show wq 114 4 [(0, .ref 0), (1, .int k), (2, .int j)] [.ref 60] h81x (0 + d91x) (0 + s91x) _
  refine wq_gos (f := 1) (pc2 := 6) (ls2 := [(3, .ref 60), (0, .ref 0), (1, .int k), (2, .int j)]) (st2 := [.int j]) (h2 := h81x) (dc2 := (0 + d91x)) (ds2 := (0 + s91x)) 2 rfl ?_
  refine wq_inl (y2 := 144) (as := [.int j]) rfl rfl rfl ?_
  show wq 144 0 [(0, .int j)] [] h81x 0 0 _
  refine wq_gos (f := 1) (pc2 := 1) (ls2 := [(0, .int j)]) (st2 := [.int j]) (h2 := h81x) (dc2 := 0) (ds2 := 0) 1 rfl ?_
  refine wq_lt0 rfl rfl (fun b2x => ?_) (fun b2x => ?_)
  · refine wq_gos (f := 1) (pc2 := 15) (ls2 := [(0, .int j)]) (st2 := [.int 1]) (h2 := h81x) (dc2 := 0) (ds2 := 0) 2 rfl ?_
    refine wq_ret rfl rfl ?_
    show wq 114 9 [(3, .ref 60), (0, .ref 0), (1, .int k), (2, .int j)] [.int 1] h81x (0 + d91x) (0 + s91x) _
    refine wq_gos (f := 1) (pc2 := 35) (ls2 := [(3, .ref 60), (0, .ref 0), (1, .int k), (2, .int j)]) (st2 := [.int (-99)]) (h2 := h81x) (dc2 := (0 + d91x)) (ds2 := (0 + s91x)) 3 rfl ?_
    have w3x : (cSol (sSolL ll lg lk hd ht pl 64 (-32)).length li21x k j) = (-99 : Int32) := by unfold cSol; rw [if_pos b2x]
    exact wq_ret rfl rfl ⟨h81x, rL21x, cap21x, rs21x, sc21x, v021x, v121x, nf21x, kn21x, ks21x, fa21x, tg21x, hp21x, sh21x, el21x, wr21x, ou21x, bh21x, li21x, so21x, (0 + d91x), (0 + s91x), (by rw [w3x]), (wFr_sub f81x (by simp)), (by omega), c01x, c11x, c21x, c31x, c41x, c51x, c61x, c71x, c81x, c91x, c101x, (by first | omega | assumption | decide | solve_by_elim), (by first | omega | assumption | decide | solve_by_elim), (by first | omega | assumption | decide | solve_by_elim), (by first | omega | assumption | decide | solve_by_elim), (by first | omega | assumption | decide | solve_by_elim), (by first | omega | assumption | decide | solve_by_elim), (by first | omega | assumption | decide | solve_by_elim), (by first | omega | assumption | decide | solve_by_elim), (by first | omega | assumption | decide | solve_by_elim), (by first | omega | assumption | decide | solve_by_elim), (by first | omega | assumption | decide | solve_by_elim)⟩
  · refine wq_gos (f := 1) (pc2 := 7) (ls2 := [(0, .int j)]) (st2 := [.int 6, .int j]) (h2 := h81x) (dc2 := 0) (ds2 := 0) 2 rfl ?_
    have q4x : (6 : Int32).toInt = 6 := rfl
    refine wq_lt2 rfl rfl (fun b5x => ?_) (fun b5x => ?_)
    · refine wq_gos (f := 1) (pc2 := 15) (ls2 := [(0, .int j)]) (st2 := [.int 0]) (h2 := h81x) (dc2 := 0) (ds2 := 0) 1 rfl ?_
      refine wq_ret rfl rfl ?_
      show wq 114 9 [(3, .ref 60), (0, .ref 0), (1, .int k), (2, .int j)] [.int 0] h81x (0 + d91x) (0 + s91x) _
      refine wq_gos (f := 1) (pc2 := 14) (ls2 := [(3, .ref 60), (0, .ref 0), (1, .int k), (2, .int j)]) (st2 := [.int k, .ref 60]) (h2 := h81x) (dc2 := (0 + d91x)) (ds2 := (0 + s91x)) 3 rfl ?_
      refine wq_inlv (y2 := 17) (as := [.int k]) rfl rfl rfl c01x rfl ?_
      show wq 17 0 [(0, .ref 60), (1, .int k)] [] h81x 0 0 _
      refine wq_gos (f := 1) (pc2 := 1) (ls2 := [(0, .ref 60), (1, .int k)]) (st2 := [.int k]) (h2 := h81x) (dc2 := 0) (ds2 := 0) 1 rfl ?_
      refine wq_lt0 rfl rfl (fun b6x => ?_) (fun b6x => ?_)
      · refine wq_gos (f := 1) (pc2 := 24) (ls2 := [(0, .ref 60), (1, .int k)]) (st2 := [.int 0]) (h2 := h81x) (dc2 := 0) (ds2 := 0) 1 rfl ?_
        refine wq_ret rfl rfl ?_
        show wq 114 17 [(3, .ref 60), (0, .ref 0), (1, .int k), (2, .int j)] [.int 0] h81x (0 + d91x) (0 + s91x) _
        refine wq_gos (f := 1) (pc2 := 35) (ls2 := [(3, .ref 60), (0, .ref 0), (1, .int k), (2, .int j)]) (st2 := [.int (-99)]) (h2 := h81x) (dc2 := (0 + d91x)) (ds2 := (0 + s91x)) 3 rfl ?_
        have w7x : (cSol (sSolL ll lg lk hd ht pl 64 (-32)).length li21x k j) = (-99 : Int32) := by unfold cSol; rw [if_neg (Int.not_lt.mpr b2x), if_pos b5x, if_pos b6x]
        exact wq_ret rfl rfl ⟨h81x, rL21x, cap21x, rs21x, sc21x, v021x, v121x, nf21x, kn21x, ks21x, fa21x, tg21x, hp21x, sh21x, el21x, wr21x, ou21x, bh21x, li21x, so21x, (0 + d91x), (0 + s91x), (by rw [w7x]), (wFr_sub f81x (by simp)), (by omega), c01x, c11x, c21x, c31x, c41x, c51x, c61x, c71x, c81x, c91x, c101x, (by first | omega | assumption | decide | solve_by_elim), (by first | omega | assumption | decide | solve_by_elim), (by first | omega | assumption | decide | solve_by_elim), (by first | omega | assumption | decide | solve_by_elim), (by first | omega | assumption | decide | solve_by_elim), (by first | omega | assumption | decide | solve_by_elim), (by first | omega | assumption | decide | solve_by_elim), (by first | omega | assumption | decide | solve_by_elim), (by first | omega | assumption | decide | solve_by_elim), (by first | omega | assumption | decide | solve_by_elim), (by first | omega | assumption | decide | solve_by_elim)⟩
      · refine wq_gos (f := 1) (pc2 := 6) (ls2 := [(0, .ref 60), (1, .int k)]) (st2 := [.ref 60, .int k]) (h2 := h81x) (dc2 := 0) (ds2 := 0) 2 rfl ?_
        refine wq_getf rfl c01x rfl rfl ?_
        try have q8x := nI_toInt (n := (sSolL ll lg lk hd ht pl 64 (-32)).length) (by omega)
        refine wq_ge2 rfl rfl (fun b9x => ?_) (fun b9x => ?_)
        · refine wq_gos (f := 1) (pc2 := 24) (ls2 := [(0, .ref 60), (1, .int k)]) (st2 := [.int 0]) (h2 := h81x) (dc2 := 0) (ds2 := 0) 1 rfl ?_
          refine wq_ret rfl rfl ?_
          show wq 114 17 [(3, .ref 60), (0, .ref 0), (1, .int k), (2, .int j)] [.int 0] h81x (0 + d91x) (0 + s91x) _
          refine wq_gos (f := 1) (pc2 := 35) (ls2 := [(3, .ref 60), (0, .ref 0), (1, .int k), (2, .int j)]) (st2 := [.int (-99)]) (h2 := h81x) (dc2 := (0 + d91x)) (ds2 := (0 + s91x)) 3 rfl ?_
          have w10x : (cSol (sSolL ll lg lk hd ht pl 64 (-32)).length li21x k j) = (-99 : Int32) := by unfold cSol; rw [if_neg (Int.not_lt.mpr b2x), if_pos b5x, if_neg (Int.not_lt.mpr b6x), if_pos b9x]
          exact wq_ret rfl rfl ⟨h81x, rL21x, cap21x, rs21x, sc21x, v021x, v121x, nf21x, kn21x, ks21x, fa21x, tg21x, hp21x, sh21x, el21x, wr21x, ou21x, bh21x, li21x, so21x, (0 + d91x), (0 + s91x), (by rw [w10x]), (wFr_sub f81x (by simp)), (by omega), c01x, c11x, c21x, c31x, c41x, c51x, c61x, c71x, c81x, c91x, c101x, (by first | omega | assumption | decide | solve_by_elim), (by first | omega | assumption | decide | solve_by_elim), (by first | omega | assumption | decide | solve_by_elim), (by first | omega | assumption | decide | solve_by_elim), (by first | omega | assumption | decide | solve_by_elim), (by first | omega | assumption | decide | solve_by_elim), (by first | omega | assumption | decide | solve_by_elim), (by first | omega | assumption | decide | solve_by_elim), (by first | omega | assumption | decide | solve_by_elim), (by first | omega | assumption | decide | solve_by_elim), (by first | omega | assumption | decide | solve_by_elim)⟩
        · refine wq_gos (f := 1) (pc2 := 13) (ls2 := [(0, .ref 60), (1, .int k)]) (st2 := [.ref 60]) (h2 := h81x) (dc2 := 0) (ds2 := 0) 1 rfl ?_
          refine wq_inlv (y2 := 16) (as := []) rfl rfl rfl c01x rfl ?_
          show wq 16 0 [(0, .ref 60)] [] h81x 0 0 _
          refine wq_gos (f := 1) (pc2 := 1) (ls2 := [(0, .ref 60)]) (st2 := [.ref 60]) (h2 := h81x) (dc2 := 0) (ds2 := 0) 1 rfl ?_
          refine wq_getf rfl c01x rfl rfl ?_
          refine wq_gos (f := 1) (pc2 := 7) (ls2 := [(0, .ref 60)]) (st2 := [.int 600, .int (nI (sSolL ll lg lk hd ht pl 64 (-32)).length)]) (h2 := h81x) (dc2 := 0) (ds2 := 0) 1 rfl ?_
          have q11x : (600 : Int32).toInt = 600 := rfl
          refine wq_le2 rfl rfl (fun b12x => ?_) (fun b12x => ?_)
          · refine wq_gos (f := 1) (pc2 := 15) (ls2 := [(0, .ref 60)]) (st2 := [.int 0]) (h2 := h81x) (dc2 := 0) (ds2 := 0) 1 rfl ?_
            refine wq_ret rfl rfl ?_
            show wq 17 16 [(0, .ref 60), (1, .int k)] [.int 0] h81x 0 0 _
            refine wq_gos (f := 1) (pc2 := 24) (ls2 := [(0, .ref 60), (1, .int k)]) (st2 := [.int 1]) (h2 := h81x) (dc2 := 0) (ds2 := 0) 3 rfl ?_
            refine wq_ret rfl rfl ?_
            show wq 114 17 [(3, .ref 60), (0, .ref 0), (1, .int k), (2, .int j)] [.int 1] h81x (0 + d91x) (0 + s91x) _
            refine wq_gos (f := 1) (pc2 := 26) (ls2 := [(3, .ref 60), (0, .ref 0), (1, .int k), (2, .int j)]) (st2 := [.ref 60]) (h2 := h81x) (dc2 := (0 + d91x)) (ds2 := (0 + s91x)) 2 rfl ?_
            refine wq_getf rfl c01x rfl rfl ?_
            refine wq_gos (f := 1) (pc2 := 30) (ls2 := [(3, .ref 60), (0, .ref 0), (1, .int k), (2, .int j)]) (st2 := [.int k, .ref rL21x]) (h2 := h81x) (dc2 := (0 + d91x)) (ds2 := (0 + s91x)) 1 rfl ?_
            refine wq_lald rfl c21x (by first | omega | exact zin_t (by omega) (by omega)) rfl ?_
            refine wq_gos (f := 1) (pc2 := 32) (ls2 := [(3, .ref 60), (0, .ref 0), (1, .int k), (2, .int j)]) (st2 := [.int j, .long (li21x.getD (k).toNatClampNeg 0)]) (h2 := h81x) (dc2 := (0 + d91x)) (ds2 := (0 + s91x)) 1 rfl ?_
            refine wq_inl (y2 := 33) (as := [.long (li21x.getD (k).toNatClampNeg 0), .int j]) rfl rfl rfl (wq_mono c_numv ?_)
            rintro _ rfl
            show wq 114 35 [(3, .ref 60), (0, .ref 0), (1, .int k), (2, .int j)] [.int (jnumv (li21x.getD (k).toNatClampNeg 0) j)] h81x (0 + d91x) (0 + s91x) _
            have w14x : (cSol (sSolL ll lg lk hd ht pl 64 (-32)).length li21x k j) = (jnumv (li21x.getD (k).toNatClampNeg 0) j) := by unfold cSol; rw [if_neg (Int.not_lt.mpr b2x), if_pos b5x, if_neg (Int.not_lt.mpr b6x), if_neg (Int.not_le.mpr b9x), if_pos b12x]
            exact wq_ret rfl rfl ⟨h81x, rL21x, cap21x, rs21x, sc21x, v021x, v121x, nf21x, kn21x, ks21x, fa21x, tg21x, hp21x, sh21x, el21x, wr21x, ou21x, bh21x, li21x, so21x, (0 + d91x), (0 + s91x), (by rw [w14x]), (wFr_sub f81x (by simp)), (by omega), c01x, c11x, c21x, c31x, c41x, c51x, c61x, c71x, c81x, c91x, c101x, (by first | omega | assumption | decide | solve_by_elim), (by first | omega | assumption | decide | solve_by_elim), (by first | omega | assumption | decide | solve_by_elim), (by first | omega | assumption | decide | solve_by_elim), (by first | omega | assumption | decide | solve_by_elim), (by first | omega | assumption | decide | solve_by_elim), (by first | omega | assumption | decide | solve_by_elim), (by first | omega | assumption | decide | solve_by_elim), (by first | omega | assumption | decide | solve_by_elim), (by first | omega | assumption | decide | solve_by_elim), (by first | omega | assumption | decide | solve_by_elim)⟩
          · refine wq_gos (f := 1) (pc2 := 15) (ls2 := [(0, .ref 60)]) (st2 := [.int 1]) (h2 := h81x) (dc2 := 0) (ds2 := 0) 2 rfl ?_
            refine wq_ret rfl rfl ?_
            show wq 17 16 [(0, .ref 60), (1, .int k)] [.int 1] h81x 0 0 _
            refine wq_gos (f := 1) (pc2 := 24) (ls2 := [(0, .ref 60), (1, .int k)]) (st2 := [.int 0]) (h2 := h81x) (dc2 := 0) (ds2 := 0) 2 rfl ?_
            refine wq_ret rfl rfl ?_
            show wq 114 17 [(3, .ref 60), (0, .ref 0), (1, .int k), (2, .int j)] [.int 0] h81x (0 + d91x) (0 + s91x) _
            refine wq_gos (f := 1) (pc2 := 35) (ls2 := [(3, .ref 60), (0, .ref 0), (1, .int k), (2, .int j)]) (st2 := [.int (-99)]) (h2 := h81x) (dc2 := (0 + d91x)) (ds2 := (0 + s91x)) 3 rfl ?_
            have w15x : (cSol (sSolL ll lg lk hd ht pl 64 (-32)).length li21x k j) = (-99 : Int32) := by unfold cSol; rw [if_neg (Int.not_lt.mpr b2x), if_pos b5x, if_neg (Int.not_lt.mpr b6x), if_neg (Int.not_le.mpr b9x), if_neg (Int.not_le.mpr b12x)]
            exact wq_ret rfl rfl ⟨h81x, rL21x, cap21x, rs21x, sc21x, v021x, v121x, nf21x, kn21x, ks21x, fa21x, tg21x, hp21x, sh21x, el21x, wr21x, ou21x, bh21x, li21x, so21x, (0 + d91x), (0 + s91x), (by rw [w15x]), (wFr_sub f81x (by simp)), (by omega), c01x, c11x, c21x, c31x, c41x, c51x, c61x, c71x, c81x, c91x, c101x, (by first | omega | assumption | decide | solve_by_elim), (by first | omega | assumption | decide | solve_by_elim), (by first | omega | assumption | decide | solve_by_elim), (by first | omega | assumption | decide | solve_by_elim), (by first | omega | assumption | decide | solve_by_elim), (by first | omega | assumption | decide | solve_by_elim), (by first | omega | assumption | decide | solve_by_elim), (by first | omega | assumption | decide | solve_by_elim), (by first | omega | assumption | decide | solve_by_elim), (by first | omega | assumption | decide | solve_by_elim), (by first | omega | assumption | decide | solve_by_elim)⟩
    · refine wq_gos (f := 1) (pc2 := 15) (ls2 := [(0, .int j)]) (st2 := [.int 1]) (h2 := h81x) (dc2 := 0) (ds2 := 0) 2 rfl ?_
      refine wq_ret rfl rfl ?_
      show wq 114 9 [(3, .ref 60), (0, .ref 0), (1, .int k), (2, .int j)] [.int 1] h81x (0 + d91x) (0 + s91x) _
      refine wq_gos (f := 1) (pc2 := 35) (ls2 := [(3, .ref 60), (0, .ref 0), (1, .int k), (2, .int j)]) (st2 := [.int (-99)]) (h2 := h81x) (dc2 := (0 + d91x)) (ds2 := (0 + s91x)) 3 rfl ?_
      have w16x : (cSol (sSolL ll lg lk hd ht pl 64 (-32)).length li21x k j) = (-99 : Int32) := by unfold cSol; rw [if_neg (Int.not_lt.mpr b2x), if_neg (Int.not_lt.mpr b5x)]
      exact wq_ret rfl rfl ⟨h81x, rL21x, cap21x, rs21x, sc21x, v021x, v121x, nf21x, kn21x, ks21x, fa21x, tg21x, hp21x, sh21x, el21x, wr21x, ou21x, bh21x, li21x, so21x, (0 + d91x), (0 + s91x), (by rw [w16x]), (wFr_sub f81x (by simp)), (by omega), c01x, c11x, c21x, c31x, c41x, c51x, c61x, c71x, c81x, c91x, c101x, (by first | omega | assumption | decide | solve_by_elim), (by first | omega | assumption | decide | solve_by_elim), (by first | omega | assumption | decide | solve_by_elim), (by first | omega | assumption | decide | solve_by_elim), (by first | omega | assumption | decide | solve_by_elim), (by first | omega | assumption | decide | solve_by_elim), (by first | omega | assumption | decide | solve_by_elim), (by first | omega | assumption | decide | solve_by_elim), (by first | omega | assumption | decide | solve_by_elim), (by first | omega | assumption | decide | solve_by_elim), (by first | omega | assumption | decide | solve_by_elim)⟩
noncomputable def cWay (n9 : Nat) (li9 : List Int64) (sv : List Int32) (ps : Int64) (k w : Int32) : Int32 := (if k.toInt < 0 then (-9) else (if (nI n9).toInt ≤ k.toInt then (-9) else (if (nI n9).toInt ≤ (600 : Int32).toInt then (if w ≠ (3 : Int32) then (if w ≠ (4 : Int32) then (jSom (li9.getD (k).toNatClampNeg 0) w) else (if (jkept ps (li9.getD (k).toNatClampNeg 0)) = (0 : Int32) then 0 else 1)) else (tkF sv ps (li9.getD (k).toNatClampNeg 0) (1000000 : Int32) (6 - 0 + 1) 0 0)) else (-9))))
set_option maxRecDepth 100000 in
set_option maxHeartbeats 4000000 in
theorem c_way {h : zH} {t ra rd : Nat} {ps ip : Int64} {im : Int32} {sp so : Nat} {lk hd ht bl sd : Int32} {rt : Int64} {ll lg : List Int32} {hrL cap rs sc : Nat} {v0 v1 : Value} {nf kn to ks fa : Int32} {tg hp sh el wr ou bh pl : List Int32} {li so1 : List Int64} {sv : List Int32} {k w : Int32} (hX : zat h 0 = some (.inr (.inr (.inr (9, [.ref 2, .int (nI t), .ref 4, .ref ra, .ref rd, .long ps, .ref 34, .ref 36, .int im, .long ip, .ref 42, .ref 44, .ref 60, .ref 66, .ref 72, .ref 74, .ref 150, .ref 158]))))) (hA : zat h ra = some (.inr (.inr (.inr (0, [.int lk, .int hd, .int ht, .int bl, .int sd, .long rt, .ref (ra + 2), .ref (ra + 4), .ref (ra + 6), .int (nI sp), .ref (ra + 8), .ref (ra + 10), .int (nI so), .ref (ra + 12)]))))) (hL : zat h (ra + 2) = some (.inl (0, 6, ll))) (hG : zat h (ra + 4) = some (.inl (0, 6, lg))) (hAi : zat h 34 = some (.inl (0, 6, pl))) (hH : zat h 60 = some (.inr (.inr (.inr (1, [.int kn, .int to, .ref hrL, .ref 64, .int ks, .int fa]))))) (hP4 : zat h 64 = some (.inl (0, 6, hp))) (hI : zat h hrL = some (.inr (.inl (cap, li)))) (hS : zat h 44 = some (.inr (.inr (.inr (7, [v0, v1, .ref 46, .int nf, .ref 48, .ref 50, .ref 52, .ref 54, .ref 56, .ref rs]))))) (h46 : zat h 46 = some (.inl (0, 6, tg))) (h48 : zat h 48 = some (.inl (0, 128, sh))) (h50 : zat h 50 = some (.inl (0, 128, el))) (h52 : zat h 52 = some (.inl (0, 128, wr))) (h54 : zat h 54 = some (.inl (0, 128, ou))) (hB : zat h 56 = some (.inl (0, 101, bh))) (hO : zat h rs = some (.inr (.inl (sc, so1)))) (hV : zat h (ra + 6) = some (.inl (0, 6, sv))) (hra : ra = 6 ∨ ra = 20) (hkn : kn = 0 ∨ kn = 1) (hsc : wScl lk hd ht bl sd) (hlm : wLm ll lg) (hK : wHO ll lg lk hd ht kn to cap hp li) (hd1 : hrL = 62 ∨ 234 ≤ hrL) (hd2 : (rs = 58 ∨ 234 ≤ rs) ∧ rs ≠ hrL) (hcs : 16 ≤ cap ∧ cap ≤ 600 ∧ sc ≤ 600) (hlen : 117 ≤ h.length) : wq 115 0 [(0, .ref 0), (1, .int k), (2, .int w)] [] h 0 0 (fun rr9 => ∃ (h2 : zH) (rL2 : Nat) (cap2 : Nat) (rs2 : Nat) (sc2 : Nat) (v02 : Value) (v12 : Value) (nf2 : Int32) (kn2 : Int32) (ks2 : Int32) (fa2 : Int32) (tg2 : List Int32) (hp2 : List Int32) (sh2 : List Int32) (el2 : List Int32) (wr2 : List Int32) (ou2 : List Int32) (bh2 : List Int32) (li2 : List Int64) (so2 : List Int64) (d9 s9 : Nat), rr9 = (some (.int (cWay (sSolL ll lg lk hd ht pl 64 (-32)).length li2 sv ps k w)), h2, d9, s9) ∧ wFr [hrL, 60, 64, 44, 46, 48, 50, 52, 54, 56, rs] h h2 ∧ h.length ≤ h2.length ∧ zat h2 60 = some (.inr (.inr (.inr (1, [.int kn2, .int (nI (sSolL ll lg lk hd ht pl 64 (-32)).length), .ref rL2, .ref 64, .int ks2, .int fa2])))) ∧ zat h2 64 = some (.inl (0, 6, hp2)) ∧ zat h2 rL2 = some (.inr (.inl (cap2, li2))) ∧ zat h2 44 = some (.inr (.inr (.inr (7, [v02, v12, .ref 46, .int nf2, .ref 48, .ref 50, .ref 52, .ref 54, .ref 56, .ref rs2])))) ∧ zat h2 46 = some (.inl (0, 6, tg2)) ∧ zat h2 48 = some (.inl (0, 128, sh2)) ∧ zat h2 50 = some (.inl (0, 128, el2)) ∧ zat h2 52 = some (.inl (0, 128, wr2)) ∧ zat h2 54 = some (.inl (0, 128, ou2)) ∧ zat h2 56 = some (.inl (0, 101, bh2)) ∧ zat h2 rs2 = some (.inr (.inl (sc2, so2))) ∧ (kn2 = 1) ∧ (∀ i, i < 6 → hp2.getD i 0 = pl.getD i 0) ∧ (wHK (sSolL ll lg lk hd ht pl 64 (-32)) cap2 li2) ∧ (wHO ll lg lk hd ht kn2 (nI (sSolL ll lg lk hd ht pl 64 (-32)).length) cap2 hp2 li2) ∧ (16 ≤ cap2 ∧ cap2 ≤ 600 ∧ sc2 ≤ 600 ∧ cap ≤ cap2 ∧ sc ≤ sc2) ∧ (rL2 = hrL ∨ 2 * h.length ≤ rL2) ∧ (rs2 = rs ∨ 2 * h.length ≤ rs2) ∧ (rs2 ≠ rL2) ∧ (((sSolL ll lg lk hd ht pl 64 (-32)).length ≤ cap2 ∨ cap2 = 600) ∧ (sSolL ll lg lk hd ht pl 64 (-32)).length ≤ 16384) ∧ (d9 + cap + sc ≤ cap2 + sc2) ∧ (s9 + 600 * (cap + sc) ≤ 600 * (cap2 + sc2))) := by
  have zi := zat_lt hI
  have zo := zat_lt hO
  have z0 : (0 : Int32).toInt = 0 := rfl
  have z1 : (1 : Int32).toInt = 1 := rfl
  have z5 : (5 : Int32).toInt = 5 := rfl
  have z6 : (6 : Int32).toInt = 6 := rfl
  have z600 : (600 : Int32).toInt = 600 := rfl
  refine wq_gos (f := 1) (pc2 := 1) (ls2 := [(0, .ref 0), (1, .int k), (2, .int w)]) (st2 := [.ref 0]) (h2 := h) (dc2 := 0) (ds2 := 0) 1 rfl ?_
  refine wq_inlv (y2 := 148) (as := []) rfl rfl rfl hX rfl (wq_mono (c_hn hX hA hL hG hAi hH hP4 hI hS h46 h48 h50 h52 h54 hB hO (by first | omega | assumption | decide | solve_by_elim) (by first | omega | assumption | decide | solve_by_elim) (by first | omega | assumption | decide | solve_by_elim) (by first | omega | assumption | decide | solve_by_elim) (by first | omega | assumption | decide | solve_by_elim) (by first | omega | assumption | decide | solve_by_elim) (by first | omega | assumption | decide | solve_by_elim) (by first | omega | assumption | decide | solve_by_elim) (by first | omega | assumption | decide | solve_by_elim)) ?_)
  rintro _ ⟨h81x, rL21x, cap21x, rs21x, sc21x, v021x, v121x, nf21x, kn21x, ks21x, fa21x, tg21x, hp21x, sh21x, el21x, wr21x, ou21x, bh21x, li21x, so21x, d91x, s91x, rfl, f81x, l81x, c01x, c11x, c21x, c31x, c41x, c51x, c61x, c71x, c81x, c91x, c101x, p01x, p11x, p21x, p31x, p41x, p51x, p61x, p71x, p81x, al01x, al11x⟩
  show wq 115 4 [(0, .ref 0), (1, .int k), (2, .int w)] [.ref 60] h81x (0 + d91x) (0 + s91x) _
  refine wq_gos (f := 1) (pc2 := 7) (ls2 := [(3, .ref 60), (0, .ref 0), (1, .int k), (2, .int w)]) (st2 := [.int k, .ref 60]) (h2 := h81x) (dc2 := (0 + d91x)) (ds2 := (0 + s91x)) 3 rfl ?_
  refine wq_inlv (y2 := 17) (as := [.int k]) rfl rfl rfl c01x rfl ?_
  show wq 17 0 [(0, .ref 60), (1, .int k)] [] h81x 0 0 _
  refine wq_gos (f := 1) (pc2 := 1) (ls2 := [(0, .ref 60), (1, .int k)]) (st2 := [.int k]) (h2 := h81x) (dc2 := 0) (ds2 := 0) 1 rfl ?_
  refine wq_lt0 rfl rfl (fun b2x => ?_) (fun b2x => ?_)
  · refine wq_gos (f := 1) (pc2 := 24) (ls2 := [(0, .ref 60), (1, .int k)]) (st2 := [.int 0]) (h2 := h81x) (dc2 := 0) (ds2 := 0) 1 rfl ?_
    refine wq_ret rfl rfl ?_
    show wq 115 10 [(3, .ref 60), (0, .ref 0), (1, .int k), (2, .int w)] [.int 0] h81x (0 + d91x) (0 + s91x) _
    refine wq_gos (f := 1) (pc2 := 15) (ls2 := [(3, .ref 60), (0, .ref 0), (1, .int k), (2, .int w)]) (st2 := [.int (-9)]) (h2 := h81x) (dc2 := (0 + d91x)) (ds2 := (0 + s91x)) 2 rfl ?_
    have w3x : (cWay (sSolL ll lg lk hd ht pl 64 (-32)).length li21x sv ps k w) = (-9 : Int32) := by unfold cWay; rw [if_pos b2x]
    exact wq_ret rfl rfl ⟨h81x, rL21x, cap21x, rs21x, sc21x, v021x, v121x, nf21x, kn21x, ks21x, fa21x, tg21x, hp21x, sh21x, el21x, wr21x, ou21x, bh21x, li21x, so21x, (0 + d91x), (0 + s91x), (by rw [w3x]), (wFr_sub f81x (by simp)), (by omega), c01x, c11x, c21x, c31x, c41x, c51x, c61x, c71x, c81x, c91x, c101x, (by first | omega | assumption | decide | solve_by_elim), (by first | omega | assumption | decide | solve_by_elim), (by first | omega | assumption | decide | solve_by_elim), (by first | omega | assumption | decide | solve_by_elim), (by first | omega | assumption | decide | solve_by_elim), (by first | omega | assumption | decide | solve_by_elim), (by first | omega | assumption | decide | solve_by_elim), (by first | omega | assumption | decide | solve_by_elim), (by first | omega | assumption | decide | solve_by_elim), (by first | omega | assumption | decide | solve_by_elim), (by first | omega | assumption | decide | solve_by_elim)⟩
  · refine wq_gos (f := 1) (pc2 := 6) (ls2 := [(0, .ref 60), (1, .int k)]) (st2 := [.ref 60, .int k]) (h2 := h81x) (dc2 := 0) (ds2 := 0) 2 rfl ?_
    refine wq_getf rfl c01x rfl rfl ?_
    try have q4x := nI_toInt (n := (sSolL ll lg lk hd ht pl 64 (-32)).length) (by omega)
    refine wq_ge2 rfl rfl (fun b5x => ?_) (fun b5x => ?_)
    · refine wq_gos (f := 1) (pc2 := 24) (ls2 := [(0, .ref 60), (1, .int k)]) (st2 := [.int 0]) (h2 := h81x) (dc2 := 0) (ds2 := 0) 1 rfl ?_
      refine wq_ret rfl rfl ?_
      show wq 115 10 [(3, .ref 60), (0, .ref 0), (1, .int k), (2, .int w)] [.int 0] h81x (0 + d91x) (0 + s91x) _
      refine wq_gos (f := 1) (pc2 := 15) (ls2 := [(3, .ref 60), (0, .ref 0), (1, .int k), (2, .int w)]) (st2 := [.int (-9)]) (h2 := h81x) (dc2 := (0 + d91x)) (ds2 := (0 + s91x)) 2 rfl ?_
      have w6x : (cWay (sSolL ll lg lk hd ht pl 64 (-32)).length li21x sv ps k w) = (-9 : Int32) := by unfold cWay; rw [if_neg (Int.not_lt.mpr b2x), if_pos b5x]
      exact wq_ret rfl rfl ⟨h81x, rL21x, cap21x, rs21x, sc21x, v021x, v121x, nf21x, kn21x, ks21x, fa21x, tg21x, hp21x, sh21x, el21x, wr21x, ou21x, bh21x, li21x, so21x, (0 + d91x), (0 + s91x), (by rw [w6x]), (wFr_sub f81x (by simp)), (by omega), c01x, c11x, c21x, c31x, c41x, c51x, c61x, c71x, c81x, c91x, c101x, (by first | omega | assumption | decide | solve_by_elim), (by first | omega | assumption | decide | solve_by_elim), (by first | omega | assumption | decide | solve_by_elim), (by first | omega | assumption | decide | solve_by_elim), (by first | omega | assumption | decide | solve_by_elim), (by first | omega | assumption | decide | solve_by_elim), (by first | omega | assumption | decide | solve_by_elim), (by first | omega | assumption | decide | solve_by_elim), (by first | omega | assumption | decide | solve_by_elim), (by first | omega | assumption | decide | solve_by_elim), (by first | omega | assumption | decide | solve_by_elim)⟩
    · refine wq_gos (f := 1) (pc2 := 13) (ls2 := [(0, .ref 60), (1, .int k)]) (st2 := [.ref 60]) (h2 := h81x) (dc2 := 0) (ds2 := 0) 1 rfl ?_
      refine wq_inlv (y2 := 16) (as := []) rfl rfl rfl c01x rfl ?_
      show wq 16 0 [(0, .ref 60)] [] h81x 0 0 _
      refine wq_gos (f := 1) (pc2 := 1) (ls2 := [(0, .ref 60)]) (st2 := [.ref 60]) (h2 := h81x) (dc2 := 0) (ds2 := 0) 1 rfl ?_
      refine wq_getf rfl c01x rfl rfl ?_
      refine wq_gos (f := 1) (pc2 := 7) (ls2 := [(0, .ref 60)]) (st2 := [.int 600, .int (nI (sSolL ll lg lk hd ht pl 64 (-32)).length)]) (h2 := h81x) (dc2 := 0) (ds2 := 0) 1 rfl ?_
      have q7x : (600 : Int32).toInt = 600 := rfl
      refine wq_le2 rfl rfl (fun b8x => ?_) (fun b8x => ?_)
      · refine wq_gos (f := 1) (pc2 := 15) (ls2 := [(0, .ref 60)]) (st2 := [.int 0]) (h2 := h81x) (dc2 := 0) (ds2 := 0) 1 rfl ?_
        refine wq_ret rfl rfl ?_
        show wq 17 16 [(0, .ref 60), (1, .int k)] [.int 0] h81x 0 0 _
        refine wq_gos (f := 1) (pc2 := 24) (ls2 := [(0, .ref 60), (1, .int k)]) (st2 := [.int 1]) (h2 := h81x) (dc2 := 0) (ds2 := 0) 3 rfl ?_
        refine wq_ret rfl rfl ?_
        show wq 115 10 [(3, .ref 60), (0, .ref 0), (1, .int k), (2, .int w)] [.int 1] h81x (0 + d91x) (0 + s91x) _
        refine wq_gos (f := 1) (pc2 := 17) (ls2 := [(3, .ref 60), (0, .ref 0), (1, .int k), (2, .int w)]) (st2 := [.ref 60]) (h2 := h81x) (dc2 := (0 + d91x)) (ds2 := (0 + s91x)) 2 rfl ?_
        refine wq_getf rfl c01x rfl rfl ?_
        refine wq_gos (f := 1) (pc2 := 21) (ls2 := [(3, .ref 60), (0, .ref 0), (1, .int k), (2, .int w)]) (st2 := [.int k, .ref rL21x]) (h2 := h81x) (dc2 := (0 + d91x)) (ds2 := (0 + s91x)) 1 rfl ?_
        refine wq_lald rfl c21x (by first | omega | exact zin_t (by omega) (by omega)) rfl ?_
        refine wq_gos (f := 1) (pc2 := 26) (ls2 := [(4, .long (li21x.getD (k).toNatClampNeg 0)), (3, .ref 60), (0, .ref 0), (1, .int k), (2, .int w)]) (st2 := [.int 3, .int w]) (h2 := h81x) (dc2 := (0 + d91x)) (ds2 := (0 + s91x)) 3 rfl ?_
        have q9x : (3 : Int32).toInt = 3 := rfl
        refine wq_ne2 rfl rfl (fun b10x => ?_) (fun b10x => ?_)
        · have q11x : w.toInt ≠ 3 := fun q => b10x (Int32.toInt_inj.mp q)
          refine wq_gos (f := 1) (pc2 := 45) (ls2 := [(4, .long (li21x.getD (k).toNatClampNeg 0)), (3, .ref 60), (0, .ref 0), (1, .int k), (2, .int w)]) (st2 := [.int 4, .int w]) (h2 := h81x) (dc2 := (0 + d91x)) (ds2 := (0 + s91x)) 2 rfl ?_
          have q12x : (4 : Int32).toInt = 4 := rfl
          refine wq_ne2 rfl rfl (fun b13x => ?_) (fun b13x => ?_)
          · have q14x : w.toInt ≠ 4 := fun q => b13x (Int32.toInt_inj.mp q)
            refine wq_gos (f := 1) (pc2 := 69) (ls2 := [(4, .long (li21x.getD (k).toNatClampNeg 0)), (3, .ref 60), (0, .ref 0), (1, .int k), (2, .int w)]) (st2 := [.int w, .long (li21x.getD (k).toNatClampNeg 0)]) (h2 := h81x) (dc2 := (0 + d91x)) (ds2 := (0 + s91x)) 2 rfl ?_
            refine wq_inl (y2 := 147) (as := [.long (li21x.getD (k).toNatClampNeg 0), .int w]) rfl rfl rfl (wq_mono c_som ?_)
            rintro _ rfl
            show wq 115 72 [(4, .long (li21x.getD (k).toNatClampNeg 0)), (3, .ref 60), (0, .ref 0), (1, .int k), (2, .int w)] [.int (jSom (li21x.getD (k).toNatClampNeg 0) w)] h81x (0 + d91x) (0 + s91x) _
            have w16x : (cWay (sSolL ll lg lk hd ht pl 64 (-32)).length li21x sv ps k w) = (jSom (li21x.getD (k).toNatClampNeg 0) w) := by unfold cWay; rw [if_neg (Int.not_lt.mpr b2x), if_neg (Int.not_le.mpr b5x), if_pos b8x, if_pos b10x, if_pos b13x]
            exact wq_ret rfl rfl ⟨h81x, rL21x, cap21x, rs21x, sc21x, v021x, v121x, nf21x, kn21x, ks21x, fa21x, tg21x, hp21x, sh21x, el21x, wr21x, ou21x, bh21x, li21x, so21x, (0 + d91x), (0 + s91x), (by rw [w16x]), (wFr_sub f81x (by simp)), (by omega), c01x, c11x, c21x, c31x, c41x, c51x, c61x, c71x, c81x, c91x, c101x, (by first | omega | assumption | decide | solve_by_elim), (by first | omega | assumption | decide | solve_by_elim), (by first | omega | assumption | decide | solve_by_elim), (by first | omega | assumption | decide | solve_by_elim), (by first | omega | assumption | decide | solve_by_elim), (by first | omega | assumption | decide | solve_by_elim), (by first | omega | assumption | decide | solve_by_elim), (by first | omega | assumption | decide | solve_by_elim), (by first | omega | assumption | decide | solve_by_elim), (by first | omega | assumption | decide | solve_by_elim), (by first | omega | assumption | decide | solve_by_elim)⟩
          · have q17x : w.toInt = 4 := congrArg Int32.toInt b13x
            refine wq_gos (f := 1) (pc2 := 49) (ls2 := [(4, .long (li21x.getD (k).toNatClampNeg 0)), (3, .ref 60), (0, .ref 0), (1, .int k), (2, .int w)]) (st2 := [.ref 0]) (h2 := h81x) (dc2 := (0 + d91x)) (ds2 := (0 + s91x)) 1 rfl ?_
            have e18x := (f81x.2 _ _ (wnc (by omega) (wnc (by decide) (wnc (by decide) (wnc (by decide) (wnc (by decide) (wnc (by decide) (wnc (by decide) (wnc (by decide) (wnc (by decide) (wnc (by decide) (wnc (by omega) wn0))))))))))) hX)
            refine wq_getf rfl e18x rfl rfl ?_
            refine wq_gos (f := 1) (pc2 := 54) (ls2 := [(4, .long (li21x.getD (k).toNatClampNeg 0)), (3, .ref 60), (0, .ref 0), (1, .int k), (2, .int w)]) (st2 := [.long (li21x.getD (k).toNatClampNeg 0), .long ps]) (h2 := h81x) (dc2 := (0 + d91x)) (ds2 := (0 + s91x)) 1 rfl ?_
            refine wq_inl (y2 := 38) (as := [.long ps, .long (li21x.getD (k).toNatClampNeg 0)]) rfl rfl rfl (wq_T (c_kept ps (li21x.getD (k).toNatClampNeg 0) h81x) ?_)
            show wq 115 57 [(4, .long (li21x.getD (k).toNatClampNeg 0)), (3, .ref 60), (0, .ref 0), (1, .int k), (2, .int w)] [.int (jkept ps (li21x.getD (k).toNatClampNeg 0))] h81x (0 + d91x) (0 + s91x) _
            refine wq_eq0 rfl rfl (fun b19x => ?_) (fun b19x => ?_)
            · have q20x : (jkept ps (li21x.getD (k).toNatClampNeg 0)).toInt = 0 := congrArg Int32.toInt b19x
              refine wq_gos (f := 1) (pc2 := 65) (ls2 := [(4, .long (li21x.getD (k).toNatClampNeg 0)), (3, .ref 60), (0, .ref 0), (1, .int k), (2, .int w)]) (st2 := [.int 0]) (h2 := h81x) (dc2 := (0 + d91x)) (ds2 := (0 + s91x)) 1 rfl ?_
              have w21x : (cWay (sSolL ll lg lk hd ht pl 64 (-32)).length li21x sv ps k w) = (0 : Int32) := by unfold cWay; rw [if_neg (Int.not_lt.mpr b2x), if_neg (Int.not_le.mpr b5x), if_pos b8x, if_pos b10x, if_neg (fun q => q b13x), if_pos b19x]
              exact wq_ret rfl rfl ⟨h81x, rL21x, cap21x, rs21x, sc21x, v021x, v121x, nf21x, kn21x, ks21x, fa21x, tg21x, hp21x, sh21x, el21x, wr21x, ou21x, bh21x, li21x, so21x, (0 + d91x), (0 + s91x), (by rw [w21x]), (wFr_sub f81x (by simp)), (by omega), c01x, c11x, c21x, c31x, c41x, c51x, c61x, c71x, c81x, c91x, c101x, (by first | omega | assumption | decide | solve_by_elim), (by first | omega | assumption | decide | solve_by_elim), (by first | omega | assumption | decide | solve_by_elim), (by first | omega | assumption | decide | solve_by_elim), (by first | omega | assumption | decide | solve_by_elim), (by first | omega | assumption | decide | solve_by_elim), (by first | omega | assumption | decide | solve_by_elim), (by first | omega | assumption | decide | solve_by_elim), (by first | omega | assumption | decide | solve_by_elim), (by first | omega | assumption | decide | solve_by_elim), (by first | omega | assumption | decide | solve_by_elim)⟩
            · have q22x : (jkept ps (li21x.getD (k).toNatClampNeg 0)).toInt ≠ 0 := fun q => b19x (Int32.toInt_inj.mp q)
              refine wq_gos (f := 1) (pc2 := 65) (ls2 := [(4, .long (li21x.getD (k).toNatClampNeg 0)), (3, .ref 60), (0, .ref 0), (1, .int k), (2, .int w)]) (st2 := [.int 1]) (h2 := h81x) (dc2 := (0 + d91x)) (ds2 := (0 + s91x)) 2 rfl ?_
              have w23x : (cWay (sSolL ll lg lk hd ht pl 64 (-32)).length li21x sv ps k w) = (1 : Int32) := by unfold cWay; rw [if_neg (Int.not_lt.mpr b2x), if_neg (Int.not_le.mpr b5x), if_pos b8x, if_pos b10x, if_neg (fun q => q b13x), if_neg b19x]
              exact wq_ret rfl rfl ⟨h81x, rL21x, cap21x, rs21x, sc21x, v021x, v121x, nf21x, kn21x, ks21x, fa21x, tg21x, hp21x, sh21x, el21x, wr21x, ou21x, bh21x, li21x, so21x, (0 + d91x), (0 + s91x), (by rw [w23x]), (wFr_sub f81x (by simp)), (by omega), c01x, c11x, c21x, c31x, c41x, c51x, c61x, c71x, c81x, c91x, c101x, (by first | omega | assumption | decide | solve_by_elim), (by first | omega | assumption | decide | solve_by_elim), (by first | omega | assumption | decide | solve_by_elim), (by first | omega | assumption | decide | solve_by_elim), (by first | omega | assumption | decide | solve_by_elim), (by first | omega | assumption | decide | solve_by_elim), (by first | omega | assumption | decide | solve_by_elim), (by first | omega | assumption | decide | solve_by_elim), (by first | omega | assumption | decide | solve_by_elim), (by first | omega | assumption | decide | solve_by_elim), (by first | omega | assumption | decide | solve_by_elim)⟩
        · have q24x : w.toInt = 3 := congrArg Int32.toInt b10x
          refine wq_gos (f := 1) (pc2 := 30) (ls2 := [(4, .long (li21x.getD (k).toNatClampNeg 0)), (3, .ref 60), (0, .ref 0), (1, .int k), (2, .int w)]) (st2 := [.ref 0]) (h2 := h81x) (dc2 := (0 + d91x)) (ds2 := (0 + s91x)) 1 rfl ?_
          have e25x := (f81x.2 _ _ (wnc (by omega) (wnc (by decide) (wnc (by decide) (wnc (by decide) (wnc (by decide) (wnc (by decide) (wnc (by decide) (wnc (by decide) (wnc (by decide) (wnc (by decide) (wnc (by omega) wn0))))))))))) hX)
          refine wq_getf rfl e25x rfl rfl ?_
          refine wq_gos (f := 1) (pc2 := 34) (ls2 := [(4, .long (li21x.getD (k).toNatClampNeg 0)), (3, .ref 60), (0, .ref 0), (1, .int k), (2, .int w)]) (st2 := [.ref 0, .ref ra]) (h2 := h81x) (dc2 := (0 + d91x)) (ds2 := (0 + s91x)) 1 rfl ?_
          refine wq_getf rfl e25x rfl rfl ?_
          refine wq_gos (f := 1) (pc2 := 39) (ls2 := [(4, .long (li21x.getD (k).toNatClampNeg 0)), (3, .ref 60), (0, .ref 0), (1, .int k), (2, .int w)]) (st2 := [.long (li21x.getD (k).toNatClampNeg 0), .long ps, .ref ra]) (h2 := h81x) (dc2 := (0 + d91x)) (ds2 := (0 + s91x)) 1 rfl ?_
          have e26x := (f81x.2 _ _ (wnc (by omega) (wnc (by omega) (wnc (by omega) (wnc (by omega) (wnc (by omega) (wnc (by omega) (wnc (by omega) (wnc (by omega) (wnc (by omega) (wnc (by omega) (wnc (by omega) wn0))))))))))) hA)
          have e27x := (f81x.2 _ _ (wnc (by omega) (wnc (by omega) (wnc (by omega) (wnc (by omega) (wnc (by omega) (wnc (by omega) (wnc (by omega) (wnc (by omega) (wnc (by omega) (wnc (by omega) (wnc (by omega) wn0))))))))))) hV)
          refine wq_inlv (y2 := 9) (as := [.long ps, .long (li21x.getD (k).toNatClampNeg 0)]) rfl rfl rfl e26x rfl (wq_mono (c_tks e26x e27x) ?_)
          rintro _ rfl
          show wq 115 42 [(4, .long (li21x.getD (k).toNatClampNeg 0)), (3, .ref 60), (0, .ref 0), (1, .int k), (2, .int w)] [.int (tkF sv ps (li21x.getD (k).toNatClampNeg 0) (1000000 : Int32) (6 - 0 + 1) 0 0)] h81x (0 + d91x) (0 + s91x) _
          have w29x : (cWay (sSolL ll lg lk hd ht pl 64 (-32)).length li21x sv ps k w) = (tkF sv ps (li21x.getD (k).toNatClampNeg 0) (1000000 : Int32) (6 - 0 + 1) 0 0) := by unfold cWay; rw [if_neg (Int.not_lt.mpr b2x), if_neg (Int.not_le.mpr b5x), if_pos b8x, if_neg (fun q => q b10x)]
          exact wq_ret rfl rfl ⟨h81x, rL21x, cap21x, rs21x, sc21x, v021x, v121x, nf21x, kn21x, ks21x, fa21x, tg21x, hp21x, sh21x, el21x, wr21x, ou21x, bh21x, li21x, so21x, (0 + d91x), (0 + s91x), (by rw [w29x]), (wFr_sub f81x (by simp)), (by omega), c01x, c11x, c21x, c31x, c41x, c51x, c61x, c71x, c81x, c91x, c101x, (by first | omega | assumption | decide | solve_by_elim), (by first | omega | assumption | decide | solve_by_elim), (by first | omega | assumption | decide | solve_by_elim), (by first | omega | assumption | decide | solve_by_elim), (by first | omega | assumption | decide | solve_by_elim), (by first | omega | assumption | decide | solve_by_elim), (by first | omega | assumption | decide | solve_by_elim), (by first | omega | assumption | decide | solve_by_elim), (by first | omega | assumption | decide | solve_by_elim), (by first | omega | assumption | decide | solve_by_elim), (by first | omega | assumption | decide | solve_by_elim)⟩
      · refine wq_gos (f := 1) (pc2 := 15) (ls2 := [(0, .ref 60)]) (st2 := [.int 1]) (h2 := h81x) (dc2 := 0) (ds2 := 0) 2 rfl ?_
        refine wq_ret rfl rfl ?_
        show wq 17 16 [(0, .ref 60), (1, .int k)] [.int 1] h81x 0 0 _
        refine wq_gos (f := 1) (pc2 := 24) (ls2 := [(0, .ref 60), (1, .int k)]) (st2 := [.int 0]) (h2 := h81x) (dc2 := 0) (ds2 := 0) 2 rfl ?_
        refine wq_ret rfl rfl ?_
        show wq 115 10 [(3, .ref 60), (0, .ref 0), (1, .int k), (2, .int w)] [.int 0] h81x (0 + d91x) (0 + s91x) _
        refine wq_gos (f := 1) (pc2 := 15) (ls2 := [(3, .ref 60), (0, .ref 0), (1, .int k), (2, .int w)]) (st2 := [.int (-9)]) (h2 := h81x) (dc2 := (0 + d91x)) (ds2 := (0 + s91x)) 2 rfl ?_
        have w30x : (cWay (sSolL ll lg lk hd ht pl 64 (-32)).length li21x sv ps k w) = (-9 : Int32) := by unfold cWay; rw [if_neg (Int.not_lt.mpr b2x), if_neg (Int.not_le.mpr b5x), if_neg (Int.not_le.mpr b8x)]
        exact wq_ret rfl rfl ⟨h81x, rL21x, cap21x, rs21x, sc21x, v021x, v121x, nf21x, kn21x, ks21x, fa21x, tg21x, hp21x, sh21x, el21x, wr21x, ou21x, bh21x, li21x, so21x, (0 + d91x), (0 + s91x), (by rw [w30x]), (wFr_sub f81x (by simp)), (by omega), c01x, c11x, c21x, c31x, c41x, c51x, c61x, c71x, c81x, c91x, c101x, (by first | omega | assumption | decide | solve_by_elim), (by first | omega | assumption | decide | solve_by_elim), (by first | omega | assumption | decide | solve_by_elim), (by first | omega | assumption | decide | solve_by_elim), (by first | omega | assumption | decide | solve_by_elim), (by first | omega | assumption | decide | solve_by_elim), (by first | omega | assumption | decide | solve_by_elim), (by first | omega | assumption | decide | solve_by_elim), (by first | omega | assumption | decide | solve_by_elim), (by first | omega | assumption | decide | solve_by_elim), (by first | omega | assumption | decide | solve_by_elim)⟩
noncomputable def cWhy (n9 : Nat) (li9 : List Int64) (fa9 : Int32) : Int32 := (if (nI n9).toInt ≤ 0 then (fa9 + (2 : Int32)) else 0)
set_option maxRecDepth 100000 in
set_option maxHeartbeats 4000000 in
theorem c_why {h : zH} {t ra rd : Nat} {ps ip : Int64} {im : Int32} {sp so : Nat} {lk hd ht bl sd : Int32} {rt : Int64} {ll lg : List Int32} {hrL cap rs sc : Nat} {v0 v1 : Value} {nf kn to ks fa : Int32} {tg hp sh el wr ou bh pl : List Int32} {li so1 : List Int64} (hX : zat h 0 = some (.inr (.inr (.inr (9, [.ref 2, .int (nI t), .ref 4, .ref ra, .ref rd, .long ps, .ref 34, .ref 36, .int im, .long ip, .ref 42, .ref 44, .ref 60, .ref 66, .ref 72, .ref 74, .ref 150, .ref 158]))))) (hA : zat h ra = some (.inr (.inr (.inr (0, [.int lk, .int hd, .int ht, .int bl, .int sd, .long rt, .ref (ra + 2), .ref (ra + 4), .ref (ra + 6), .int (nI sp), .ref (ra + 8), .ref (ra + 10), .int (nI so), .ref (ra + 12)]))))) (hL : zat h (ra + 2) = some (.inl (0, 6, ll))) (hG : zat h (ra + 4) = some (.inl (0, 6, lg))) (hAi : zat h 34 = some (.inl (0, 6, pl))) (hH : zat h 60 = some (.inr (.inr (.inr (1, [.int kn, .int to, .ref hrL, .ref 64, .int ks, .int fa]))))) (hP4 : zat h 64 = some (.inl (0, 6, hp))) (hI : zat h hrL = some (.inr (.inl (cap, li)))) (hS : zat h 44 = some (.inr (.inr (.inr (7, [v0, v1, .ref 46, .int nf, .ref 48, .ref 50, .ref 52, .ref 54, .ref 56, .ref rs]))))) (h46 : zat h 46 = some (.inl (0, 6, tg))) (h48 : zat h 48 = some (.inl (0, 128, sh))) (h50 : zat h 50 = some (.inl (0, 128, el))) (h52 : zat h 52 = some (.inl (0, 128, wr))) (h54 : zat h 54 = some (.inl (0, 128, ou))) (hB : zat h 56 = some (.inl (0, 101, bh))) (hO : zat h rs = some (.inr (.inl (sc, so1)))) (hra : ra = 6 ∨ ra = 20) (hkn : kn = 0 ∨ kn = 1) (hsc : wScl lk hd ht bl sd) (hlm : wLm ll lg) (hK : wHO ll lg lk hd ht kn to cap hp li) (hd1 : hrL = 62 ∨ 234 ≤ hrL) (hd2 : (rs = 58 ∨ 234 ≤ rs) ∧ rs ≠ hrL) (hcs : 16 ≤ cap ∧ cap ≤ 600 ∧ sc ≤ 600) (hlen : 117 ≤ h.length) : wq 116 0 [(0, .ref 0)] [] h 0 0 (fun rr9 => ∃ (h2 : zH) (rL2 : Nat) (cap2 : Nat) (rs2 : Nat) (sc2 : Nat) (v02 : Value) (v12 : Value) (nf2 : Int32) (kn2 : Int32) (ks2 : Int32) (fa2 : Int32) (tg2 : List Int32) (hp2 : List Int32) (sh2 : List Int32) (el2 : List Int32) (wr2 : List Int32) (ou2 : List Int32) (bh2 : List Int32) (li2 : List Int64) (so2 : List Int64) (d9 s9 : Nat), rr9 = (some (.int (cWhy (sSolL ll lg lk hd ht pl 64 (-32)).length li2 fa2)), h2, d9, s9) ∧ wFr [hrL, 60, 64, 44, 46, 48, 50, 52, 54, 56, rs] h h2 ∧ h.length ≤ h2.length ∧ zat h2 60 = some (.inr (.inr (.inr (1, [.int kn2, .int (nI (sSolL ll lg lk hd ht pl 64 (-32)).length), .ref rL2, .ref 64, .int ks2, .int fa2])))) ∧ zat h2 64 = some (.inl (0, 6, hp2)) ∧ zat h2 rL2 = some (.inr (.inl (cap2, li2))) ∧ zat h2 44 = some (.inr (.inr (.inr (7, [v02, v12, .ref 46, .int nf2, .ref 48, .ref 50, .ref 52, .ref 54, .ref 56, .ref rs2])))) ∧ zat h2 46 = some (.inl (0, 6, tg2)) ∧ zat h2 48 = some (.inl (0, 128, sh2)) ∧ zat h2 50 = some (.inl (0, 128, el2)) ∧ zat h2 52 = some (.inl (0, 128, wr2)) ∧ zat h2 54 = some (.inl (0, 128, ou2)) ∧ zat h2 56 = some (.inl (0, 101, bh2)) ∧ zat h2 rs2 = some (.inr (.inl (sc2, so2))) ∧ (kn2 = 1) ∧ (∀ i, i < 6 → hp2.getD i 0 = pl.getD i 0) ∧ (wHK (sSolL ll lg lk hd ht pl 64 (-32)) cap2 li2) ∧ (wHO ll lg lk hd ht kn2 (nI (sSolL ll lg lk hd ht pl 64 (-32)).length) cap2 hp2 li2) ∧ (16 ≤ cap2 ∧ cap2 ≤ 600 ∧ sc2 ≤ 600 ∧ cap ≤ cap2 ∧ sc ≤ sc2) ∧ (rL2 = hrL ∨ 2 * h.length ≤ rL2) ∧ (rs2 = rs ∨ 2 * h.length ≤ rs2) ∧ (rs2 ≠ rL2) ∧ (((sSolL ll lg lk hd ht pl 64 (-32)).length ≤ cap2 ∨ cap2 = 600) ∧ (sSolL ll lg lk hd ht pl 64 (-32)).length ≤ 16384) ∧ (d9 + cap + sc ≤ cap2 + sc2) ∧ (s9 + 600 * (cap + sc) ≤ 600 * (cap2 + sc2))) := by
  have zi := zat_lt hI
  have zo := zat_lt hO
  have z0 : (0 : Int32).toInt = 0 := rfl
  have z1 : (1 : Int32).toInt = 1 := rfl
  have z5 : (5 : Int32).toInt = 5 := rfl
  have z6 : (6 : Int32).toInt = 6 := rfl
  have z600 : (600 : Int32).toInt = 600 := rfl
  refine wq_gos (f := 1) (pc2 := 1) (ls2 := [(0, .ref 0)]) (st2 := [.ref 0]) (h2 := h) (dc2 := 0) (ds2 := 0) 1 rfl ?_
  refine wq_inlv (y2 := 148) (as := []) rfl rfl rfl hX rfl (wq_mono (c_hn hX hA hL hG hAi hH hP4 hI hS h46 h48 h50 h52 h54 hB hO (by first | omega | assumption | decide | solve_by_elim) (by first | omega | assumption | decide | solve_by_elim) (by first | omega | assumption | decide | solve_by_elim) (by first | omega | assumption | decide | solve_by_elim) (by first | omega | assumption | decide | solve_by_elim) (by first | omega | assumption | decide | solve_by_elim) (by first | omega | assumption | decide | solve_by_elim) (by first | omega | assumption | decide | solve_by_elim) (by first | omega | assumption | decide | solve_by_elim)) ?_)
  rintro _ ⟨h81x, rL21x, cap21x, rs21x, sc21x, v021x, v121x, nf21x, kn21x, ks21x, fa21x, tg21x, hp21x, sh21x, el21x, wr21x, ou21x, bh21x, li21x, so21x, d91x, s91x, rfl, f81x, l81x, c01x, c11x, c21x, c31x, c41x, c51x, c61x, c71x, c81x, c91x, c101x, p01x, p11x, p21x, p31x, p41x, p51x, p61x, p71x, p81x, al01x, al11x⟩
  show wq 116 4 [(0, .ref 0)] [.ref 60] h81x (0 + d91x) (0 + s91x) _
  refine wq_inlv (y2 := 20) (as := []) rfl rfl rfl c01x rfl ?_
  show wq 20 0 [(0, .ref 60)] [] h81x 0 0 _
  refine wq_gos (f := 1) (pc2 := 1) (ls2 := [(0, .ref 60)]) (st2 := [.ref 60]) (h2 := h81x) (dc2 := 0) (ds2 := 0) 1 rfl ?_
  refine wq_getf rfl c01x rfl rfl ?_
  try have q2x := nI_toInt (n := (sSolL ll lg lk hd ht pl 64 (-32)).length) (by omega)
  refine wq_le0 rfl rfl (fun b3x => ?_) (fun b3x => ?_)
  · refine wq_gos (f := 1) (pc2 := 12) (ls2 := [(0, .ref 60)]) (st2 := [.ref 60]) (h2 := h81x) (dc2 := 0) (ds2 := 0) 1 rfl ?_
    refine wq_getf rfl c01x rfl rfl ?_
    refine wq_gos (f := 1) (pc2 := 17) (ls2 := [(0, .ref 60)]) (st2 := [.int (fa21x + (2 : Int32))]) (h2 := h81x) (dc2 := 0) (ds2 := 0) 2 rfl ?_
    refine wq_ret rfl rfl ?_
    show wq 116 7 [(0, .ref 0)] [.int (fa21x + (2 : Int32))] h81x (0 + d91x) (0 + s91x) _
    have w4x : (cWhy (sSolL ll lg lk hd ht pl 64 (-32)).length li21x fa21x) = (fa21x + (2 : Int32)) := by unfold cWhy; rw [if_pos b3x]
    exact wq_ret rfl rfl ⟨h81x, rL21x, cap21x, rs21x, sc21x, v021x, v121x, nf21x, kn21x, ks21x, fa21x, tg21x, hp21x, sh21x, el21x, wr21x, ou21x, bh21x, li21x, so21x, (0 + d91x), (0 + s91x), (by rw [w4x]), (wFr_sub f81x (by simp)), (by omega), c01x, c11x, c21x, c31x, c41x, c51x, c61x, c71x, c81x, c91x, c101x, (by first | omega | assumption | decide | solve_by_elim), (by first | omega | assumption | decide | solve_by_elim), (by first | omega | assumption | decide | solve_by_elim), (by first | omega | assumption | decide | solve_by_elim), (by first | omega | assumption | decide | solve_by_elim), (by first | omega | assumption | decide | solve_by_elim), (by first | omega | assumption | decide | solve_by_elim), (by first | omega | assumption | decide | solve_by_elim), (by first | omega | assumption | decide | solve_by_elim), (by first | omega | assumption | decide | solve_by_elim), (by first | omega | assumption | decide | solve_by_elim)⟩
  · refine wq_gos (f := 1) (pc2 := 17) (ls2 := [(0, .ref 60)]) (st2 := [.int 0]) (h2 := h81x) (dc2 := 0) (ds2 := 0) 2 rfl ?_
    refine wq_ret rfl rfl ?_
    show wq 116 7 [(0, .ref 0)] [.int 0] h81x (0 + d91x) (0 + s91x) _
    have w5x : (cWhy (sSolL ll lg lk hd ht pl 64 (-32)).length li21x fa21x) = (0 : Int32) := by unfold cWhy; rw [if_neg (Int.not_le.mpr b3x)]
    exact wq_ret rfl rfl ⟨h81x, rL21x, cap21x, rs21x, sc21x, v021x, v121x, nf21x, kn21x, ks21x, fa21x, tg21x, hp21x, sh21x, el21x, wr21x, ou21x, bh21x, li21x, so21x, (0 + d91x), (0 + s91x), (by rw [w5x]), (wFr_sub f81x (by simp)), (by omega), c01x, c11x, c21x, c31x, c41x, c51x, c61x, c71x, c81x, c91x, c101x, (by first | omega | assumption | decide | solve_by_elim), (by first | omega | assumption | decide | solve_by_elim), (by first | omega | assumption | decide | solve_by_elim), (by first | omega | assumption | decide | solve_by_elim), (by first | omega | assumption | decide | solve_by_elim), (by first | omega | assumption | decide | solve_by_elim), (by first | omega | assumption | decide | solve_by_elim), (by first | omega | assumption | decide | solve_by_elim), (by first | omega | assumption | decide | solve_by_elim), (by first | omega | assumption | decide | solve_by_elim), (by first | omega | assumption | decide | solve_by_elim)⟩
noncomputable def neF (sv : List Int32) (ps : Int64) (n : Nat) (li : List Int64) (u : Int32) : Nat → Int32 → Int32 → Nat → Int32
  | 0, _, _, _ => 0
  | m + 1, b, fw, k => (if (nI n).toInt ≤ (nI k).toInt then b else (if u = (0 : Int32) then (if fw.toInt ≤ (tkF sv ps (li.getD k 0) (1000000 : Int32) (6 - 0 + 1) 0 0).toInt then (neF sv ps n li u m b fw (k + 1)) else (neF sv ps n li u m (nI k) (tkF sv ps (li.getD k 0) (1000000 : Int32) (6 - 0 + 1) 0 0) (k + 1))) else (if (jkept ps (li.getD k 0)) ≠ (0 : Int32) then (if fw.toInt ≤ (tkF sv ps (li.getD k 0) (1000000 : Int32) (6 - 0 + 1) 0 0).toInt then (neF sv ps n li u m b fw (k + 1)) else (neF sv ps n li u m (nI k) (tkF sv ps (li.getD k 0) (1000000 : Int32) (6 - 0 + 1) 0 0) (k + 1))) else (neF sv ps n li u m b fw (k + 1)))))
set_option maxRecDepth 100000 in
set_option maxHeartbeats 4000000 in
theorem c_neL {h : zH} {t ra rd : Nat} {ps ip : Int64} {im : Int32} {sp so hr n cap : Nat} {lk hd ht bl sd kn ks fa : Int32} {rt : Int64} {sv : List Int32} {li : List Int64} {u : Int32} (hX : zat h 0 = some (.inr (.inr (.inr (9, [.ref 2, .int (nI t), .ref 4, .ref ra, .ref rd, .long ps, .ref 34, .ref 36, .int im, .long ip, .ref 42, .ref 44, .ref 60, .ref 66, .ref 72, .ref 74, .ref 150, .ref 158]))))) (hA : zat h ra = some (.inr (.inr (.inr (0, [.int lk, .int hd, .int ht, .int bl, .int sd, .long rt, .ref (ra + 2), .ref (ra + 4), .ref (ra + 6), .int (nI sp), .ref (ra + 8), .ref (ra + 10), .int (nI so), .ref (ra + 12)]))))) (hV : zat h (ra + 6) = some (.inl (0, 6, sv))) (hH : zat h 60 = some (.inr (.inr (.inr (1, [.int kn, .int (nI n), .ref hr, .ref 64, .int ks, .int fa]))))) (hI : zat h hr = some (.inr (.inl (cap, li)))) (hra : ra = 6 ∨ ra = 20) (hn : n ≤ cap ∧ n ≤ 600 ∧ cap ≤ 600) : ∀ (m : Nat) (b : Int32) (fw : Int32) (k : Nat), (k ≤ n) → (n - k) < m → ∀ (dc ds : Nat), wq 117 45 [(0, .ref 0), (1, .int u), (2, .ref 60), (3, .int b), (4, .int fw), (5, .int (nI k))] [] h dc ds (fun rr9 => rr9 = (some (Value.int (neF sv ps n li u m b fw k)), h, dc, ds)) := by
  intro m
  induction m with
  | zero => intro b fw k hk hms dc ds; omega
  | succ m ih =>
    intro b fw k hk hms dc ds
    have qnk := nI_toInt (n := k) (by omega)
    have qnn := nI_toInt (n := n) (by omega)
    refine wq_gos (f := 1) (pc2 := 48) (ls2 := [(0, .ref 0), (1, .int u), (2, .ref 60), (3, .int b), (4, .int fw), (5, .int (nI k))]) (st2 := [.ref 60, .int (nI k)]) (h2 := h) (dc2 := dc) (ds2 := ds) 2 rfl ?_
    refine wq_getf rfl hH rfl rfl ?_
    try have q1x := nI_toInt (n := k) (by omega)
    try have q2x := nI_toInt (n := n) (by omega)
    refine wq_ge2 rfl rfl (fun b3x => ?_) (fun b3x => ?_)
    · refine wq_gos (f := 1) (pc2 := 118) (ls2 := [(0, .ref 0), (1, .int u), (2, .ref 60), (3, .int b), (4, .int fw), (5, .int (nI k))]) (st2 := [.int b]) (h2 := h) (dc2 := dc) (ds2 := ds) 1 rfl ?_
      have hx : (neF sv ps n li u (m + 1) b fw k) = b := by show (if _ then _ else _) = _; rw [if_pos b3x]
      refine wq_ret rfl rfl ?_
      show (some (Value.int b), h, dc, ds) = (some (Value.int (neF sv ps n li u (m + 1) b fw k)), h, dc, ds)
      rw [hx]
    · refine wq_gos (f := 1) (pc2 := 55) (ls2 := [(0, .ref 0), (1, .int u), (2, .ref 60), (3, .int b), (4, .int fw), (5, .int (nI k))]) (st2 := [.ref 60]) (h2 := h) (dc2 := dc) (ds2 := ds) 1 rfl ?_
      refine wq_getf rfl hH rfl rfl ?_
      refine wq_gos (f := 1) (pc2 := 60) (ls2 := [(0, .ref 0), (1, .int u), (2, .ref 60), (3, .int b), (4, .int fw), (5, .int (nI k))]) (st2 := [.int (nI k), .ref hr]) (h2 := h) (dc2 := dc) (ds2 := ds) 1 rfl ?_
      refine wq_laldn rfl hI (by first | omega | exact zin_t (by omega) (by omega)) (by omega) rfl ?_
      refine wq_gos (f := 1) (pc2 := 64) (ls2 := [(6, .long (li.getD k 0)), (0, .ref 0), (1, .int u), (2, .ref 60), (3, .int b), (4, .int fw), (5, .int (nI k))]) (st2 := [.int u]) (h2 := h) (dc2 := dc) (ds2 := ds) 2 rfl ?_
      refine wq_eq0 rfl rfl (fun b4x => ?_) (fun b4x => ?_)
      · have q5x : u.toInt = 0 := congrArg Int32.toInt b4x
        refine wq_gos (f := 1) (pc2 := 83) (ls2 := [(6, .long (li.getD k 0)), (0, .ref 0), (1, .int u), (2, .ref 60), (3, .int b), (4, .int fw), (5, .int (nI k))]) (st2 := [.ref 0]) (h2 := h) (dc2 := dc) (ds2 := ds) 1 rfl ?_
        refine wq_getf rfl hX rfl rfl ?_
        refine wq_gos (f := 1) (pc2 := 87) (ls2 := [(6, .long (li.getD k 0)), (0, .ref 0), (1, .int u), (2, .ref 60), (3, .int b), (4, .int fw), (5, .int (nI k))]) (st2 := [.ref 0, .ref ra]) (h2 := h) (dc2 := dc) (ds2 := ds) 1 rfl ?_
        refine wq_getf rfl hX rfl rfl ?_
        refine wq_gos (f := 1) (pc2 := 92) (ls2 := [(6, .long (li.getD k 0)), (0, .ref 0), (1, .int u), (2, .ref 60), (3, .int b), (4, .int fw), (5, .int (nI k))]) (st2 := [.long (li.getD k 0), .long ps, .ref ra]) (h2 := h) (dc2 := dc) (ds2 := ds) 1 rfl ?_
        refine wq_inlv (y2 := 9) (as := [.long ps, .long (li.getD k 0)]) rfl rfl rfl hA rfl (wq_mono (c_tks hA hV) ?_)
        rintro _ rfl
        show wq 117 95 [(6, .long (li.getD k 0)), (0, .ref 0), (1, .int u), (2, .ref 60), (3, .int b), (4, .int fw), (5, .int (nI k))] [.int (tkF sv ps (li.getD k 0) (1000000 : Int32) (6 - 0 + 1) 0 0)] h dc ds _
        refine wq_gos (f := 1) (pc2 := 101) (ls2 := [(8, .int (tkF sv ps (li.getD k 0) (1000000 : Int32) (6 - 0 + 1) 0 0)), (6, .long (li.getD k 0)), (0, .ref 0), (1, .int u), (2, .ref 60), (3, .int b), (4, .int fw), (5, .int (nI k))]) (st2 := [.int fw, .int (tkF sv ps (li.getD k 0) (1000000 : Int32) (6 - 0 + 1) 0 0)]) (h2 := h) (dc2 := dc) (ds2 := ds) 3 rfl ?_
        refine wq_ge2 rfl rfl (fun b7x => ?_) (fun b7x => ?_)
        · refine wq_gos (f := 1) (pc2 := 114) (ls2 := [(5, .int ((nI k) + 1)), (8, .int (tkF sv ps (li.getD k 0) (1000000 : Int32) (6 - 0 + 1) 0 0)), (6, .long (li.getD k 0)), (0, .ref 0), (1, .int u), (2, .ref 60), (3, .int b), (4, .int fw)]) (st2 := []) (h2 := h) (dc2 := dc) (ds2 := ds) 1 rfl ?_
          rw [nI_1]
          refine wq_gos (f := 1) (pc2 := 45) (ls2 := [(5, .int (nI (k + 1))), (8, .int (tkF sv ps (li.getD k 0) (1000000 : Int32) (6 - 0 + 1) 0 0)), (6, .long (li.getD k 0)), (0, .ref 0), (1, .int u), (2, .ref 60), (3, .int b), (4, .int fw)]) (st2 := []) (h2 := h) (dc2 := dc) (ds2 := ds) 1 rfl ?_
          try have q8x := nI_toInt (n := (k + 1)) (by omega)
          have hx : (neF sv ps n li u (m + 1) b fw k) = (neF sv ps n li u m b fw (k + 1)) := by show (if _ then _ else _) = _; rw [if_neg (Int.not_le.mpr b3x), if_pos b4x, if_pos b7x]
          rw [hx]
          refine wq_ls [(0, .ref 0), (1, .int u), (2, .ref 60), (3, .int b), (4, .int fw), (5, .int (nI (k + 1)))] (show ([0, 1, 2, 3, 4, 5] : List Nat).Nodup by decide) ⟨rfl, rfl, rfl, rfl, rfl, rfl, trivial⟩ ?_
          exact ih b fw (k + 1) (by first | omega | assumption | decide | solve_by_elim) (by omega) dc ds
        · refine wq_gos (f := 1) (pc2 := 114) (ls2 := [(5, .int ((nI k) + 1)), (3, .int (nI k)), (4, .int (tkF sv ps (li.getD k 0) (1000000 : Int32) (6 - 0 + 1) 0 0)), (8, .int (tkF sv ps (li.getD k 0) (1000000 : Int32) (6 - 0 + 1) 0 0)), (6, .long (li.getD k 0)), (0, .ref 0), (1, .int u), (2, .ref 60)]) (st2 := []) (h2 := h) (dc2 := dc) (ds2 := ds) 5 rfl ?_
          rw [nI_1]
          refine wq_gos (f := 1) (pc2 := 45) (ls2 := [(5, .int (nI (k + 1))), (3, .int (nI k)), (4, .int (tkF sv ps (li.getD k 0) (1000000 : Int32) (6 - 0 + 1) 0 0)), (8, .int (tkF sv ps (li.getD k 0) (1000000 : Int32) (6 - 0 + 1) 0 0)), (6, .long (li.getD k 0)), (0, .ref 0), (1, .int u), (2, .ref 60)]) (st2 := []) (h2 := h) (dc2 := dc) (ds2 := ds) 1 rfl ?_
          try have q9x := nI_toInt (n := (k + 1)) (by omega)
          have hx : (neF sv ps n li u (m + 1) b fw k) = (neF sv ps n li u m (nI k) (tkF sv ps (li.getD k 0) (1000000 : Int32) (6 - 0 + 1) 0 0) (k + 1)) := by show (if _ then _ else _) = _; rw [if_neg (Int.not_le.mpr b3x), if_pos b4x, if_neg (Int.not_le.mpr b7x)]
          rw [hx]
          refine wq_ls [(0, .ref 0), (1, .int u), (2, .ref 60), (3, .int (nI k)), (4, .int (tkF sv ps (li.getD k 0) (1000000 : Int32) (6 - 0 + 1) 0 0)), (5, .int (nI (k + 1)))] (show ([0, 1, 2, 3, 4, 5] : List Nat).Nodup by decide) ⟨rfl, rfl, rfl, rfl, rfl, rfl, trivial⟩ ?_
          exact ih (nI k) (tkF sv ps (li.getD k 0) (1000000 : Int32) (6 - 0 + 1) 0 0) (k + 1) (by first | omega | assumption | decide | solve_by_elim) (by omega) dc ds
      · have q10x : u.toInt ≠ 0 := fun q => b4x (Int32.toInt_inj.mp q)
        refine wq_gos (f := 1) (pc2 := 68) (ls2 := [(6, .long (li.getD k 0)), (0, .ref 0), (1, .int u), (2, .ref 60), (3, .int b), (4, .int fw), (5, .int (nI k))]) (st2 := [.ref 0]) (h2 := h) (dc2 := dc) (ds2 := ds) 1 rfl ?_
        refine wq_getf rfl hX rfl rfl ?_
        refine wq_gos (f := 1) (pc2 := 73) (ls2 := [(6, .long (li.getD k 0)), (0, .ref 0), (1, .int u), (2, .ref 60), (3, .int b), (4, .int fw), (5, .int (nI k))]) (st2 := [.long (li.getD k 0), .long ps]) (h2 := h) (dc2 := dc) (ds2 := ds) 1 rfl ?_
        refine wq_inl (y2 := 38) (as := [.long ps, .long (li.getD k 0)]) rfl rfl rfl (wq_T (c_kept ps (li.getD k 0) h) ?_)
        show wq 117 76 [(6, .long (li.getD k 0)), (0, .ref 0), (1, .int u), (2, .ref 60), (3, .int b), (4, .int fw), (5, .int (nI k))] [.int (jkept ps (li.getD k 0))] h dc ds _
        refine wq_ne0 rfl rfl (fun b11x => ?_) (fun b11x => ?_)
        · have q12x : (jkept ps (li.getD k 0)).toInt ≠ 0 := fun q => b11x (Int32.toInt_inj.mp q)
          refine wq_gos (f := 1) (pc2 := 83) (ls2 := [(6, .long (li.getD k 0)), (0, .ref 0), (1, .int u), (2, .ref 60), (3, .int b), (4, .int fw), (5, .int (nI k))]) (st2 := [.ref 0]) (h2 := h) (dc2 := dc) (ds2 := ds) 1 rfl ?_
          refine wq_getf rfl hX rfl rfl ?_
          refine wq_gos (f := 1) (pc2 := 87) (ls2 := [(6, .long (li.getD k 0)), (0, .ref 0), (1, .int u), (2, .ref 60), (3, .int b), (4, .int fw), (5, .int (nI k))]) (st2 := [.ref 0, .ref ra]) (h2 := h) (dc2 := dc) (ds2 := ds) 1 rfl ?_
          refine wq_getf rfl hX rfl rfl ?_
          refine wq_gos (f := 1) (pc2 := 92) (ls2 := [(6, .long (li.getD k 0)), (0, .ref 0), (1, .int u), (2, .ref 60), (3, .int b), (4, .int fw), (5, .int (nI k))]) (st2 := [.long (li.getD k 0), .long ps, .ref ra]) (h2 := h) (dc2 := dc) (ds2 := ds) 1 rfl ?_
          refine wq_inlv (y2 := 9) (as := [.long ps, .long (li.getD k 0)]) rfl rfl rfl hA rfl (wq_mono (c_tks hA hV) ?_)
          rintro _ rfl
          show wq 117 95 [(6, .long (li.getD k 0)), (0, .ref 0), (1, .int u), (2, .ref 60), (3, .int b), (4, .int fw), (5, .int (nI k))] [.int (tkF sv ps (li.getD k 0) (1000000 : Int32) (6 - 0 + 1) 0 0)] h dc ds _
          refine wq_gos (f := 1) (pc2 := 101) (ls2 := [(8, .int (tkF sv ps (li.getD k 0) (1000000 : Int32) (6 - 0 + 1) 0 0)), (6, .long (li.getD k 0)), (0, .ref 0), (1, .int u), (2, .ref 60), (3, .int b), (4, .int fw), (5, .int (nI k))]) (st2 := [.int fw, .int (tkF sv ps (li.getD k 0) (1000000 : Int32) (6 - 0 + 1) 0 0)]) (h2 := h) (dc2 := dc) (ds2 := ds) 3 rfl ?_
          refine wq_ge2 rfl rfl (fun b14x => ?_) (fun b14x => ?_)
          · refine wq_gos (f := 1) (pc2 := 114) (ls2 := [(5, .int ((nI k) + 1)), (8, .int (tkF sv ps (li.getD k 0) (1000000 : Int32) (6 - 0 + 1) 0 0)), (6, .long (li.getD k 0)), (0, .ref 0), (1, .int u), (2, .ref 60), (3, .int b), (4, .int fw)]) (st2 := []) (h2 := h) (dc2 := dc) (ds2 := ds) 1 rfl ?_
            rw [nI_1]
            refine wq_gos (f := 1) (pc2 := 45) (ls2 := [(5, .int (nI (k + 1))), (8, .int (tkF sv ps (li.getD k 0) (1000000 : Int32) (6 - 0 + 1) 0 0)), (6, .long (li.getD k 0)), (0, .ref 0), (1, .int u), (2, .ref 60), (3, .int b), (4, .int fw)]) (st2 := []) (h2 := h) (dc2 := dc) (ds2 := ds) 1 rfl ?_
            try have q15x := nI_toInt (n := (k + 1)) (by omega)
            have hx : (neF sv ps n li u (m + 1) b fw k) = (neF sv ps n li u m b fw (k + 1)) := by show (if _ then _ else _) = _; rw [if_neg (Int.not_le.mpr b3x), if_neg b4x, if_pos b11x, if_pos b14x]
            rw [hx]
            refine wq_ls [(0, .ref 0), (1, .int u), (2, .ref 60), (3, .int b), (4, .int fw), (5, .int (nI (k + 1)))] (show ([0, 1, 2, 3, 4, 5] : List Nat).Nodup by decide) ⟨rfl, rfl, rfl, rfl, rfl, rfl, trivial⟩ ?_
            exact ih b fw (k + 1) (by first | omega | assumption | decide | solve_by_elim) (by omega) dc ds
          · refine wq_gos (f := 1) (pc2 := 114) (ls2 := [(5, .int ((nI k) + 1)), (3, .int (nI k)), (4, .int (tkF sv ps (li.getD k 0) (1000000 : Int32) (6 - 0 + 1) 0 0)), (8, .int (tkF sv ps (li.getD k 0) (1000000 : Int32) (6 - 0 + 1) 0 0)), (6, .long (li.getD k 0)), (0, .ref 0), (1, .int u), (2, .ref 60)]) (st2 := []) (h2 := h) (dc2 := dc) (ds2 := ds) 5 rfl ?_
            rw [nI_1]
            refine wq_gos (f := 1) (pc2 := 45) (ls2 := [(5, .int (nI (k + 1))), (3, .int (nI k)), (4, .int (tkF sv ps (li.getD k 0) (1000000 : Int32) (6 - 0 + 1) 0 0)), (8, .int (tkF sv ps (li.getD k 0) (1000000 : Int32) (6 - 0 + 1) 0 0)), (6, .long (li.getD k 0)), (0, .ref 0), (1, .int u), (2, .ref 60)]) (st2 := []) (h2 := h) (dc2 := dc) (ds2 := ds) 1 rfl ?_
            try have q16x := nI_toInt (n := (k + 1)) (by omega)
            have hx : (neF sv ps n li u (m + 1) b fw k) = (neF sv ps n li u m (nI k) (tkF sv ps (li.getD k 0) (1000000 : Int32) (6 - 0 + 1) 0 0) (k + 1)) := by show (if _ then _ else _) = _; rw [if_neg (Int.not_le.mpr b3x), if_neg b4x, if_pos b11x, if_neg (Int.not_le.mpr b14x)]
            rw [hx]
            refine wq_ls [(0, .ref 0), (1, .int u), (2, .ref 60), (3, .int (nI k)), (4, .int (tkF sv ps (li.getD k 0) (1000000 : Int32) (6 - 0 + 1) 0 0)), (5, .int (nI (k + 1)))] (show ([0, 1, 2, 3, 4, 5] : List Nat).Nodup by decide) ⟨rfl, rfl, rfl, rfl, rfl, rfl, trivial⟩ ?_
            exact ih (nI k) (tkF sv ps (li.getD k 0) (1000000 : Int32) (6 - 0 + 1) 0 0) (k + 1) (by first | omega | assumption | decide | solve_by_elim) (by omega) dc ds
        · have q17x : (jkept ps (li.getD k 0)).toInt = 0 := congrArg Int32.toInt b11x
          refine wq_gos (f := 1) (pc2 := 114) (ls2 := [(5, .int ((nI k) + 1)), (6, .long (li.getD k 0)), (0, .ref 0), (1, .int u), (2, .ref 60), (3, .int b), (4, .int fw)]) (st2 := []) (h2 := h) (dc2 := dc) (ds2 := ds) 2 rfl ?_
          rw [nI_1]
          refine wq_gos (f := 1) (pc2 := 45) (ls2 := [(5, .int (nI (k + 1))), (6, .long (li.getD k 0)), (0, .ref 0), (1, .int u), (2, .ref 60), (3, .int b), (4, .int fw)]) (st2 := []) (h2 := h) (dc2 := dc) (ds2 := ds) 1 rfl ?_
          try have q18x := nI_toInt (n := (k + 1)) (by omega)
          have hx : (neF sv ps n li u (m + 1) b fw k) = (neF sv ps n li u m b fw (k + 1)) := by show (if _ then _ else _) = _; rw [if_neg (Int.not_le.mpr b3x), if_neg b4x, if_neg (fun q => q b11x)]
          rw [hx]
          refine wq_ls [(0, .ref 0), (1, .int u), (2, .ref 60), (3, .int b), (4, .int fw), (5, .int (nI (k + 1)))] (show ([0, 1, 2, 3, 4, 5] : List Nat).Nodup by decide) ⟨rfl, rfl, rfl, rfl, rfl, rfl, trivial⟩ ?_
          exact ih b fw (k + 1) (by first | omega | assumption | decide | solve_by_elim) (by omega) dc ds
noncomputable def cNear (n9 : Nat) (li9 : List Int64) (ks9 : Int32) (sv : List Int32) (ps : Int64) (u : Int32) : Int32 := (if (nI n9).toInt ≤ (600 : Int32).toInt then (neF sv ps n9 li9 u ((n9 - 0) + 1) (-2 : Int32) (1000000 : Int32) 0) else (if u = (0 : Int32) then (-3) else (if (ks9 &&& (jkind ps)) = (0 : Int32) then (-2) else (-3))))
set_option maxRecDepth 100000 in
set_option maxHeartbeats 4000000 in
theorem c_near {h : zH} {t ra rd : Nat} {ps ip : Int64} {im : Int32} {sp so : Nat} {lk hd ht bl sd : Int32} {rt : Int64} {ll lg : List Int32} {hrL cap rs sc : Nat} {v0 v1 : Value} {nf kn to ks fa : Int32} {tg hp sh el wr ou bh pl : List Int32} {li so1 : List Int64} {sv : List Int32} {u : Int32} (hX : zat h 0 = some (.inr (.inr (.inr (9, [.ref 2, .int (nI t), .ref 4, .ref ra, .ref rd, .long ps, .ref 34, .ref 36, .int im, .long ip, .ref 42, .ref 44, .ref 60, .ref 66, .ref 72, .ref 74, .ref 150, .ref 158]))))) (hA : zat h ra = some (.inr (.inr (.inr (0, [.int lk, .int hd, .int ht, .int bl, .int sd, .long rt, .ref (ra + 2), .ref (ra + 4), .ref (ra + 6), .int (nI sp), .ref (ra + 8), .ref (ra + 10), .int (nI so), .ref (ra + 12)]))))) (hL : zat h (ra + 2) = some (.inl (0, 6, ll))) (hG : zat h (ra + 4) = some (.inl (0, 6, lg))) (hAi : zat h 34 = some (.inl (0, 6, pl))) (hH : zat h 60 = some (.inr (.inr (.inr (1, [.int kn, .int to, .ref hrL, .ref 64, .int ks, .int fa]))))) (hP4 : zat h 64 = some (.inl (0, 6, hp))) (hI : zat h hrL = some (.inr (.inl (cap, li)))) (hS : zat h 44 = some (.inr (.inr (.inr (7, [v0, v1, .ref 46, .int nf, .ref 48, .ref 50, .ref 52, .ref 54, .ref 56, .ref rs]))))) (h46 : zat h 46 = some (.inl (0, 6, tg))) (h48 : zat h 48 = some (.inl (0, 128, sh))) (h50 : zat h 50 = some (.inl (0, 128, el))) (h52 : zat h 52 = some (.inl (0, 128, wr))) (h54 : zat h 54 = some (.inl (0, 128, ou))) (hB : zat h 56 = some (.inl (0, 101, bh))) (hO : zat h rs = some (.inr (.inl (sc, so1)))) (hV : zat h (ra + 6) = some (.inl (0, 6, sv))) (hra : ra = 6 ∨ ra = 20) (hkn : kn = 0 ∨ kn = 1) (hsc : wScl lk hd ht bl sd) (hlm : wLm ll lg) (hK : wHO ll lg lk hd ht kn to cap hp li) (hd1 : hrL = 62 ∨ 234 ≤ hrL) (hd2 : (rs = 58 ∨ 234 ≤ rs) ∧ rs ≠ hrL) (hcs : 16 ≤ cap ∧ cap ≤ 600 ∧ sc ≤ 600) (hlen : 117 ≤ h.length) : wq 117 0 [(0, .ref 0), (1, .int u)] [] h 0 0 (fun rr9 => ∃ (h2 : zH) (rL2 : Nat) (cap2 : Nat) (rs2 : Nat) (sc2 : Nat) (v02 : Value) (v12 : Value) (nf2 : Int32) (kn2 : Int32) (ks2 : Int32) (fa2 : Int32) (tg2 : List Int32) (hp2 : List Int32) (sh2 : List Int32) (el2 : List Int32) (wr2 : List Int32) (ou2 : List Int32) (bh2 : List Int32) (li2 : List Int64) (so2 : List Int64) (d9 s9 : Nat), rr9 = (some (.int (cNear (sSolL ll lg lk hd ht pl 64 (-32)).length li2 ks2 sv ps u)), h2, d9, s9) ∧ wFr [hrL, 60, 64, 44, 46, 48, 50, 52, 54, 56, rs] h h2 ∧ h.length ≤ h2.length ∧ zat h2 60 = some (.inr (.inr (.inr (1, [.int kn2, .int (nI (sSolL ll lg lk hd ht pl 64 (-32)).length), .ref rL2, .ref 64, .int ks2, .int fa2])))) ∧ zat h2 64 = some (.inl (0, 6, hp2)) ∧ zat h2 rL2 = some (.inr (.inl (cap2, li2))) ∧ zat h2 44 = some (.inr (.inr (.inr (7, [v02, v12, .ref 46, .int nf2, .ref 48, .ref 50, .ref 52, .ref 54, .ref 56, .ref rs2])))) ∧ zat h2 46 = some (.inl (0, 6, tg2)) ∧ zat h2 48 = some (.inl (0, 128, sh2)) ∧ zat h2 50 = some (.inl (0, 128, el2)) ∧ zat h2 52 = some (.inl (0, 128, wr2)) ∧ zat h2 54 = some (.inl (0, 128, ou2)) ∧ zat h2 56 = some (.inl (0, 101, bh2)) ∧ zat h2 rs2 = some (.inr (.inl (sc2, so2))) ∧ (kn2 = 1) ∧ (∀ i, i < 6 → hp2.getD i 0 = pl.getD i 0) ∧ (wHK (sSolL ll lg lk hd ht pl 64 (-32)) cap2 li2) ∧ (wHO ll lg lk hd ht kn2 (nI (sSolL ll lg lk hd ht pl 64 (-32)).length) cap2 hp2 li2) ∧ (16 ≤ cap2 ∧ cap2 ≤ 600 ∧ sc2 ≤ 600 ∧ cap ≤ cap2 ∧ sc ≤ sc2) ∧ (rL2 = hrL ∨ 2 * h.length ≤ rL2) ∧ (rs2 = rs ∨ 2 * h.length ≤ rs2) ∧ (rs2 ≠ rL2) ∧ (((sSolL ll lg lk hd ht pl 64 (-32)).length ≤ cap2 ∨ cap2 = 600) ∧ (sSolL ll lg lk hd ht pl 64 (-32)).length ≤ 16384) ∧ (d9 + cap + sc ≤ cap2 + sc2) ∧ (s9 + 600 * (cap + sc) ≤ 600 * (cap2 + sc2))) := by
  have zi := zat_lt hI
  have zo := zat_lt hO
  have z0 : (0 : Int32).toInt = 0 := rfl
  have z1 : (1 : Int32).toInt = 1 := rfl
  have z5 : (5 : Int32).toInt = 5 := rfl
  have z6 : (6 : Int32).toInt = 6 := rfl
  have z600 : (600 : Int32).toInt = 600 := rfl
  refine wq_gos (f := 1) (pc2 := 1) (ls2 := [(0, .ref 0), (1, .int u)]) (st2 := [.ref 0]) (h2 := h) (dc2 := 0) (ds2 := 0) 1 rfl ?_
  refine wq_inlv (y2 := 148) (as := []) rfl rfl rfl hX rfl (wq_mono (c_hn hX hA hL hG hAi hH hP4 hI hS h46 h48 h50 h52 h54 hB hO (by first | omega | assumption | decide | solve_by_elim) (by first | omega | assumption | decide | solve_by_elim) (by first | omega | assumption | decide | solve_by_elim) (by first | omega | assumption | decide | solve_by_elim) (by first | omega | assumption | decide | solve_by_elim) (by first | omega | assumption | decide | solve_by_elim) (by first | omega | assumption | decide | solve_by_elim) (by first | omega | assumption | decide | solve_by_elim) (by first | omega | assumption | decide | solve_by_elim)) ?_)
  rintro _ ⟨h81x, rL21x, cap21x, rs21x, sc21x, v021x, v121x, nf21x, kn21x, ks21x, fa21x, tg21x, hp21x, sh21x, el21x, wr21x, ou21x, bh21x, li21x, so21x, d91x, s91x, rfl, f81x, l81x, c01x, c11x, c21x, c31x, c41x, c51x, c61x, c71x, c81x, c91x, c101x, p01x, p11x, p21x, p31x, p41x, p51x, p61x, p71x, p81x, al01x, al11x⟩
  show wq 117 4 [(0, .ref 0), (1, .int u)] [.ref 60] h81x (0 + d91x) (0 + s91x) _
  refine wq_gos (f := 1) (pc2 := 6) (ls2 := [(2, .ref 60), (0, .ref 0), (1, .int u)]) (st2 := [.ref 60]) (h2 := h81x) (dc2 := (0 + d91x)) (ds2 := (0 + s91x)) 2 rfl ?_
  refine wq_inlv (y2 := 16) (as := []) rfl rfl rfl c01x rfl ?_
  show wq 16 0 [(0, .ref 60)] [] h81x 0 0 _
  refine wq_gos (f := 1) (pc2 := 1) (ls2 := [(0, .ref 60)]) (st2 := [.ref 60]) (h2 := h81x) (dc2 := 0) (ds2 := 0) 1 rfl ?_
  refine wq_getf rfl c01x rfl rfl ?_
  refine wq_gos (f := 1) (pc2 := 7) (ls2 := [(0, .ref 60)]) (st2 := [.int 600, .int (nI (sSolL ll lg lk hd ht pl 64 (-32)).length)]) (h2 := h81x) (dc2 := 0) (ds2 := 0) 1 rfl ?_
  try have q2x := nI_toInt (n := (sSolL ll lg lk hd ht pl 64 (-32)).length) (by omega)
  have q3x : (600 : Int32).toInt = 600 := rfl
  refine wq_le2 rfl rfl (fun b4x => ?_) (fun b4x => ?_)
  · refine wq_gos (f := 1) (pc2 := 15) (ls2 := [(0, .ref 60)]) (st2 := [.int 0]) (h2 := h81x) (dc2 := 0) (ds2 := 0) 1 rfl ?_
    refine wq_ret rfl rfl ?_
    show wq 117 9 [(2, .ref 60), (0, .ref 0), (1, .int u)] [.int 0] h81x (0 + d91x) (0 + s91x) _
    refine wq_gos (f := 1) (pc2 := 45) (ls2 := [(5, .int 0), (4, .int 1000000), (3, .int (-2)), (2, .ref 60), (0, .ref 0), (1, .int u)]) (st2 := []) (h2 := h81x) (dc2 := (0 + d91x)) (ds2 := (0 + s91x)) 7 rfl ?_
    have e5x := (f81x.2 _ _ (wnc (by omega) (wnc (by decide) (wnc (by decide) (wnc (by decide) (wnc (by decide) (wnc (by decide) (wnc (by decide) (wnc (by decide) (wnc (by decide) (wnc (by decide) (wnc (by omega) wn0))))))))))) hX)
    have e6x := (f81x.2 _ _ (wnc (by omega) (wnc (by omega) (wnc (by omega) (wnc (by omega) (wnc (by omega) (wnc (by omega) (wnc (by omega) (wnc (by omega) (wnc (by omega) (wnc (by omega) (wnc (by omega) wn0))))))))))) hA)
    have e7x := (f81x.2 _ _ (wnc (by omega) (wnc (by omega) (wnc (by omega) (wnc (by omega) (wnc (by omega) (wnc (by omega) (wnc (by omega) (wnc (by omega) (wnc (by omega) (wnc (by omega) (wnc (by omega) wn0))))))))))) hV)
    refine wq_ls [(0, .ref 0), (1, .int u), (2, .ref 60), (3, .int (-2 : Int32)), (4, .int (1000000 : Int32)), (5, .int (nI 0))] (show ([0, 1, 2, 3, 4, 5] : List Nat).Nodup by decide) ⟨rfl, rfl, rfl, rfl, rfl, rfl, trivial⟩ ?_
    refine wq_mono (c_neL e5x e6x e7x c01x c21x (by first | omega | assumption | decide | solve_by_elim) (by first | omega | assumption | decide | solve_by_elim) (((sSolL ll lg lk hd ht pl 64 (-32)).length - 0) + 1) (-2 : Int32) (1000000 : Int32) 0 (by first | omega | assumption | decide | solve_by_elim) (by omega) (0 + d91x) (0 + s91x)) ?_
    rintro _ rfl
    have w8x : (cNear (sSolL ll lg lk hd ht pl 64 (-32)).length li21x ks21x sv ps u) = (neF sv ps (sSolL ll lg lk hd ht pl 64 (-32)).length li21x u (((sSolL ll lg lk hd ht pl 64 (-32)).length - 0) + 1) (-2 : Int32) (1000000 : Int32) 0) := by unfold cNear; rw [if_pos b4x]
    exact ⟨h81x, rL21x, cap21x, rs21x, sc21x, v021x, v121x, nf21x, kn21x, ks21x, fa21x, tg21x, hp21x, sh21x, el21x, wr21x, ou21x, bh21x, li21x, so21x, (0 + d91x), (0 + s91x), (by rw [w8x]), (wFr_sub f81x (by simp)), (by omega), c01x, c11x, c21x, c31x, c41x, c51x, c61x, c71x, c81x, c91x, c101x, (by first | omega | assumption | decide | solve_by_elim), (by first | omega | assumption | decide | solve_by_elim), (by first | omega | assumption | decide | solve_by_elim), (by first | omega | assumption | decide | solve_by_elim), (by first | omega | assumption | decide | solve_by_elim), (by first | omega | assumption | decide | solve_by_elim), (by first | omega | assumption | decide | solve_by_elim), (by first | omega | assumption | decide | solve_by_elim), (by first | omega | assumption | decide | solve_by_elim), (by first | omega | assumption | decide | solve_by_elim), (by first | omega | assumption | decide | solve_by_elim)⟩
  · refine wq_gos (f := 1) (pc2 := 15) (ls2 := [(0, .ref 60)]) (st2 := [.int 1]) (h2 := h81x) (dc2 := 0) (ds2 := 0) 2 rfl ?_
    refine wq_ret rfl rfl ?_
    show wq 117 9 [(2, .ref 60), (0, .ref 0), (1, .int u)] [.int 1] h81x (0 + d91x) (0 + s91x) _
    refine wq_gos (f := 1) (pc2 := 13) (ls2 := [(2, .ref 60), (0, .ref 0), (1, .int u)]) (st2 := [.int u]) (h2 := h81x) (dc2 := (0 + d91x)) (ds2 := (0 + s91x)) 2 rfl ?_
    refine wq_eq0 rfl rfl (fun b9x => ?_) (fun b9x => ?_)
    · have q10x : u.toInt = 0 := congrArg Int32.toInt b9x
      refine wq_gos (f := 1) (pc2 := 34) (ls2 := [(2, .ref 60), (0, .ref 0), (1, .int u)]) (st2 := [.int (-3)]) (h2 := h81x) (dc2 := (0 + d91x)) (ds2 := (0 + s91x)) 1 rfl ?_
      have w11x : (cNear (sSolL ll lg lk hd ht pl 64 (-32)).length li21x ks21x sv ps u) = (-3 : Int32) := by unfold cNear; rw [if_neg (Int.not_le.mpr b4x), if_pos b9x]
      exact wq_ret rfl rfl ⟨h81x, rL21x, cap21x, rs21x, sc21x, v021x, v121x, nf21x, kn21x, ks21x, fa21x, tg21x, hp21x, sh21x, el21x, wr21x, ou21x, bh21x, li21x, so21x, (0 + d91x), (0 + s91x), (by rw [w11x]), (wFr_sub f81x (by simp)), (by omega), c01x, c11x, c21x, c31x, c41x, c51x, c61x, c71x, c81x, c91x, c101x, (by first | omega | assumption | decide | solve_by_elim), (by first | omega | assumption | decide | solve_by_elim), (by first | omega | assumption | decide | solve_by_elim), (by first | omega | assumption | decide | solve_by_elim), (by first | omega | assumption | decide | solve_by_elim), (by first | omega | assumption | decide | solve_by_elim), (by first | omega | assumption | decide | solve_by_elim), (by first | omega | assumption | decide | solve_by_elim), (by first | omega | assumption | decide | solve_by_elim), (by first | omega | assumption | decide | solve_by_elim), (by first | omega | assumption | decide | solve_by_elim)⟩
    · have q12x : u.toInt ≠ 0 := fun q => b9x (Int32.toInt_inj.mp q)
      refine wq_gos (f := 1) (pc2 := 18) (ls2 := [(2, .ref 60), (0, .ref 0), (1, .int u)]) (st2 := [.ref 0, .ref 60]) (h2 := h81x) (dc2 := (0 + d91x)) (ds2 := (0 + s91x)) 2 rfl ?_
      have e13x := (f81x.2 _ _ (wnc (by omega) (wnc (by decide) (wnc (by decide) (wnc (by decide) (wnc (by decide) (wnc (by decide) (wnc (by decide) (wnc (by decide) (wnc (by decide) (wnc (by decide) (wnc (by omega) wn0))))))))))) hX)
      refine wq_getf rfl e13x rfl rfl ?_
      refine wq_inlv (y2 := 18) (as := [.long ps]) rfl rfl rfl c01x rfl ?_
      show wq 18 0 [(0, .ref 60), (1, .long ps)] [] h81x 0 0 _
      refine wq_gos (f := 1) (pc2 := 1) (ls2 := [(0, .ref 60), (1, .long ps)]) (st2 := [.ref 60]) (h2 := h81x) (dc2 := 0) (ds2 := 0) 1 rfl ?_
      refine wq_getf rfl c01x rfl rfl ?_
      refine wq_gos (f := 1) (pc2 := 5) (ls2 := [(0, .ref 60), (1, .long ps)]) (st2 := [.long ps, .int ks21x]) (h2 := h81x) (dc2 := 0) (ds2 := 0) 1 rfl ?_
      refine wq_inl (y2 := 39) (as := [.long ps]) rfl rfl rfl (wq_T (c_kind ps h81x) ?_)
      show wq 18 8 [(0, .ref 60), (1, .long ps)] [.int (jkind ps), .int ks21x] h81x 0 0 _
      refine wq_gos (f := 1) (pc2 := 9) (ls2 := [(0, .ref 60), (1, .long ps)]) (st2 := [.int (ks21x &&& (jkind ps))]) (h2 := h81x) (dc2 := 0) (ds2 := 0) 1 rfl ?_
      refine wq_eq0 rfl rfl (fun b14x => ?_) (fun b14x => ?_)
      · have q15x : (ks21x &&& (jkind ps)).toInt = 0 := congrArg Int32.toInt b14x
        refine wq_gos (f := 1) (pc2 := 17) (ls2 := [(0, .ref 60), (1, .long ps)]) (st2 := [.int 0]) (h2 := h81x) (dc2 := 0) (ds2 := 0) 1 rfl ?_
        refine wq_ret rfl rfl ?_
        show wq 117 24 [(2, .ref 60), (0, .ref 0), (1, .int u)] [.int 0] h81x (0 + d91x) (0 + s91x) _
        refine wq_gos (f := 1) (pc2 := 34) (ls2 := [(2, .ref 60), (0, .ref 0), (1, .int u)]) (st2 := [.int (-2)]) (h2 := h81x) (dc2 := (0 + d91x)) (ds2 := (0 + s91x)) 3 rfl ?_
        have w16x : (cNear (sSolL ll lg lk hd ht pl 64 (-32)).length li21x ks21x sv ps u) = (-2 : Int32) := by unfold cNear; rw [if_neg (Int.not_le.mpr b4x), if_neg b9x, if_pos b14x]
        exact wq_ret rfl rfl ⟨h81x, rL21x, cap21x, rs21x, sc21x, v021x, v121x, nf21x, kn21x, ks21x, fa21x, tg21x, hp21x, sh21x, el21x, wr21x, ou21x, bh21x, li21x, so21x, (0 + d91x), (0 + s91x), (by rw [w16x]), (wFr_sub f81x (by simp)), (by omega), c01x, c11x, c21x, c31x, c41x, c51x, c61x, c71x, c81x, c91x, c101x, (by first | omega | assumption | decide | solve_by_elim), (by first | omega | assumption | decide | solve_by_elim), (by first | omega | assumption | decide | solve_by_elim), (by first | omega | assumption | decide | solve_by_elim), (by first | omega | assumption | decide | solve_by_elim), (by first | omega | assumption | decide | solve_by_elim), (by first | omega | assumption | decide | solve_by_elim), (by first | omega | assumption | decide | solve_by_elim), (by first | omega | assumption | decide | solve_by_elim), (by first | omega | assumption | decide | solve_by_elim), (by first | omega | assumption | decide | solve_by_elim)⟩
      · have q17x : (ks21x &&& (jkind ps)).toInt ≠ 0 := fun q => b14x (Int32.toInt_inj.mp q)
        refine wq_gos (f := 1) (pc2 := 17) (ls2 := [(0, .ref 60), (1, .long ps)]) (st2 := [.int 1]) (h2 := h81x) (dc2 := 0) (ds2 := 0) 2 rfl ?_
        refine wq_ret rfl rfl ?_
        show wq 117 24 [(2, .ref 60), (0, .ref 0), (1, .int u)] [.int 1] h81x (0 + d91x) (0 + s91x) _
        refine wq_gos (f := 1) (pc2 := 34) (ls2 := [(2, .ref 60), (0, .ref 0), (1, .int u)]) (st2 := [.int (-3)]) (h2 := h81x) (dc2 := (0 + d91x)) (ds2 := (0 + s91x)) 2 rfl ?_
        have w18x : (cNear (sSolL ll lg lk hd ht pl 64 (-32)).length li21x ks21x sv ps u) = (-3 : Int32) := by unfold cNear; rw [if_neg (Int.not_le.mpr b4x), if_neg b9x, if_neg b14x]
        exact wq_ret rfl rfl ⟨h81x, rL21x, cap21x, rs21x, sc21x, v021x, v121x, nf21x, kn21x, ks21x, fa21x, tg21x, hp21x, sh21x, el21x, wr21x, ou21x, bh21x, li21x, so21x, (0 + d91x), (0 + s91x), (by rw [w18x]), (wFr_sub f81x (by simp)), (by omega), c01x, c11x, c21x, c31x, c41x, c51x, c61x, c71x, c81x, c91x, c101x, (by first | omega | assumption | decide | solve_by_elim), (by first | omega | assumption | decide | solve_by_elim), (by first | omega | assumption | decide | solve_by_elim), (by first | omega | assumption | decide | solve_by_elim), (by first | omega | assumption | decide | solve_by_elim), (by first | omega | assumption | decide | solve_by_elim), (by first | omega | assumption | decide | solve_by_elim), (by first | omega | assumption | decide | solve_by_elim), (by first | omega | assumption | decide | solve_by_elim), (by first | omega | assumption | decide | solve_by_elim), (by first | omega | assumption | decide | solve_by_elim)⟩
noncomputable def clF (n : Nat) (li : List Int64) : Nat → Int32 → Int32 → Nat → Int32
  | 0, _, _, _ => 0
  | m + 1, b, mo, k => (if (nI n).toInt ≤ (nI k).toInt then b else (if (jmea (li.getD k 0)).toInt ≤ mo.toInt then (clF n li m b mo (k + 1)) else (clF n li m (nI k) (jmea (li.getD k 0)) (k + 1))))
set_option maxRecDepth 100000 in
set_option maxHeartbeats 4000000 in
theorem c_clL {h : zH} {t ra rd : Nat} {ps ip : Int64} {im : Int32} {hr n cap : Nat} {kn ks fa : Int32} {li : List Int64} (hX : zat h 0 = some (.inr (.inr (.inr (9, [.ref 2, .int (nI t), .ref 4, .ref ra, .ref rd, .long ps, .ref 34, .ref 36, .int im, .long ip, .ref 42, .ref 44, .ref 60, .ref 66, .ref 72, .ref 74, .ref 150, .ref 158]))))) (hH : zat h 60 = some (.inr (.inr (.inr (1, [.int kn, .int (nI n), .ref hr, .ref 64, .int ks, .int fa]))))) (hI : zat h hr = some (.inr (.inl (cap, li)))) (hn : n ≤ cap ∧ n ≤ 600 ∧ cap ≤ 600) : ∀ (m : Nat) (b : Int32) (mo : Int32) (k : Nat), (k ≤ n) → (n - k) < m → ∀ (dc ds : Nat), wq 118 23 [(0, .ref 0), (1, .ref 60), (2, .int b), (3, .int mo), (4, .int (nI k))] [] h dc ds (fun rr9 => rr9 = (some (Value.int (clF n li m b mo k)), h, dc, ds)) := by
  intro m
  induction m with
  | zero => intro b mo k hk hms dc ds; omega
  | succ m ih =>
    intro b mo k hk hms dc ds
    have qnk := nI_toInt (n := k) (by omega)
    have qnn := nI_toInt (n := n) (by omega)
    refine wq_gos (f := 1) (pc2 := 26) (ls2 := [(0, .ref 0), (1, .ref 60), (2, .int b), (3, .int mo), (4, .int (nI k))]) (st2 := [.ref 60, .int (nI k)]) (h2 := h) (dc2 := dc) (ds2 := ds) 2 rfl ?_
    refine wq_getf rfl hH rfl rfl ?_
    try have q1x := nI_toInt (n := k) (by omega)
    try have q2x := nI_toInt (n := n) (by omega)
    refine wq_ge2 rfl rfl (fun b3x => ?_) (fun b3x => ?_)
    · refine wq_gos (f := 1) (pc2 := 63) (ls2 := [(0, .ref 0), (1, .ref 60), (2, .int b), (3, .int mo), (4, .int (nI k))]) (st2 := [.int b]) (h2 := h) (dc2 := dc) (ds2 := ds) 1 rfl ?_
      have hx : (clF n li (m + 1) b mo k) = b := by show (if _ then _ else _) = _; rw [if_pos b3x]
      refine wq_ret rfl rfl ?_
      show (some (Value.int b), h, dc, ds) = (some (Value.int (clF n li (m + 1) b mo k)), h, dc, ds)
      rw [hx]
    · refine wq_gos (f := 1) (pc2 := 33) (ls2 := [(0, .ref 0), (1, .ref 60), (2, .int b), (3, .int mo), (4, .int (nI k))]) (st2 := [.ref 60]) (h2 := h) (dc2 := dc) (ds2 := ds) 1 rfl ?_
      refine wq_getf rfl hH rfl rfl ?_
      refine wq_gos (f := 1) (pc2 := 38) (ls2 := [(0, .ref 0), (1, .ref 60), (2, .int b), (3, .int mo), (4, .int (nI k))]) (st2 := [.int (nI k), .ref hr]) (h2 := h) (dc2 := dc) (ds2 := ds) 1 rfl ?_
      refine wq_laldn rfl hI (by first | omega | exact zin_t (by omega) (by omega)) (by omega) rfl ?_
      refine wq_inl (y2 := 37) (as := [.long (li.getD k 0)]) rfl rfl rfl (wq_T (c_mea (li.getD k 0) h) ?_)
      show wq 118 42 [(0, .ref 0), (1, .ref 60), (2, .int b), (3, .int mo), (4, .int (nI k))] [.int (jmea (li.getD k 0))] h dc ds _
      refine wq_gos (f := 1) (pc2 := 47) (ls2 := [(5, .int (jmea (li.getD k 0))), (0, .ref 0), (1, .ref 60), (2, .int b), (3, .int mo), (4, .int (nI k))]) (st2 := [.int mo, .int (jmea (li.getD k 0))]) (h2 := h) (dc2 := dc) (ds2 := ds) 3 rfl ?_
      refine wq_le2 rfl rfl (fun b4x => ?_) (fun b4x => ?_)
      · refine wq_gos (f := 1) (pc2 := 59) (ls2 := [(4, .int ((nI k) + 1)), (5, .int (jmea (li.getD k 0))), (0, .ref 0), (1, .ref 60), (2, .int b), (3, .int mo)]) (st2 := []) (h2 := h) (dc2 := dc) (ds2 := ds) 1 rfl ?_
        rw [nI_1]
        refine wq_gos (f := 1) (pc2 := 23) (ls2 := [(4, .int (nI (k + 1))), (5, .int (jmea (li.getD k 0))), (0, .ref 0), (1, .ref 60), (2, .int b), (3, .int mo)]) (st2 := []) (h2 := h) (dc2 := dc) (ds2 := ds) 1 rfl ?_
        try have q5x := nI_toInt (n := (k + 1)) (by omega)
        have hx : (clF n li (m + 1) b mo k) = (clF n li m b mo (k + 1)) := by show (if _ then _ else _) = _; rw [if_neg (Int.not_le.mpr b3x), if_pos b4x]
        rw [hx]
        refine wq_ls [(0, .ref 0), (1, .ref 60), (2, .int b), (3, .int mo), (4, .int (nI (k + 1)))] (show ([0, 1, 2, 3, 4] : List Nat).Nodup by decide) ⟨rfl, rfl, rfl, rfl, rfl, trivial⟩ ?_
        exact ih b mo (k + 1) (by first | omega | assumption | decide | solve_by_elim) (by omega) dc ds
      · refine wq_gos (f := 1) (pc2 := 59) (ls2 := [(4, .int ((nI k) + 1)), (2, .int (nI k)), (3, .int (jmea (li.getD k 0))), (5, .int (jmea (li.getD k 0))), (0, .ref 0), (1, .ref 60)]) (st2 := []) (h2 := h) (dc2 := dc) (ds2 := ds) 5 rfl ?_
        rw [nI_1]
        refine wq_gos (f := 1) (pc2 := 23) (ls2 := [(4, .int (nI (k + 1))), (2, .int (nI k)), (3, .int (jmea (li.getD k 0))), (5, .int (jmea (li.getD k 0))), (0, .ref 0), (1, .ref 60)]) (st2 := []) (h2 := h) (dc2 := dc) (ds2 := ds) 1 rfl ?_
        try have q6x := nI_toInt (n := (k + 1)) (by omega)
        have hx : (clF n li (m + 1) b mo k) = (clF n li m (nI k) (jmea (li.getD k 0)) (k + 1)) := by show (if _ then _ else _) = _; rw [if_neg (Int.not_le.mpr b3x), if_neg (Int.not_le.mpr b4x)]
        rw [hx]
        refine wq_ls [(0, .ref 0), (1, .ref 60), (2, .int (nI k)), (3, .int (jmea (li.getD k 0))), (4, .int (nI (k + 1)))] (show ([0, 1, 2, 3, 4] : List Nat).Nodup by decide) ⟨rfl, rfl, rfl, rfl, rfl, trivial⟩ ?_
        exact ih (nI k) (jmea (li.getD k 0)) (k + 1) (by first | omega | assumption | decide | solve_by_elim) (by omega) dc ds
noncomputable def cClrs (n9 : Nat) (li9 : List Int64)  : Int32 := (if (nI n9).toInt ≤ (600 : Int32).toInt then (clF n9 li9 ((n9 - 0) + 1) (-2 : Int32) (-1 : Int32) 0) else (-3))
set_option maxRecDepth 100000 in
set_option maxHeartbeats 4000000 in
theorem c_clrs {h : zH} {t ra rd : Nat} {ps ip : Int64} {im : Int32} {sp so : Nat} {lk hd ht bl sd : Int32} {rt : Int64} {ll lg : List Int32} {hrL cap rs sc : Nat} {v0 v1 : Value} {nf kn to ks fa : Int32} {tg hp sh el wr ou bh pl : List Int32} {li so1 : List Int64} (hX : zat h 0 = some (.inr (.inr (.inr (9, [.ref 2, .int (nI t), .ref 4, .ref ra, .ref rd, .long ps, .ref 34, .ref 36, .int im, .long ip, .ref 42, .ref 44, .ref 60, .ref 66, .ref 72, .ref 74, .ref 150, .ref 158]))))) (hA : zat h ra = some (.inr (.inr (.inr (0, [.int lk, .int hd, .int ht, .int bl, .int sd, .long rt, .ref (ra + 2), .ref (ra + 4), .ref (ra + 6), .int (nI sp), .ref (ra + 8), .ref (ra + 10), .int (nI so), .ref (ra + 12)]))))) (hL : zat h (ra + 2) = some (.inl (0, 6, ll))) (hG : zat h (ra + 4) = some (.inl (0, 6, lg))) (hAi : zat h 34 = some (.inl (0, 6, pl))) (hH : zat h 60 = some (.inr (.inr (.inr (1, [.int kn, .int to, .ref hrL, .ref 64, .int ks, .int fa]))))) (hP4 : zat h 64 = some (.inl (0, 6, hp))) (hI : zat h hrL = some (.inr (.inl (cap, li)))) (hS : zat h 44 = some (.inr (.inr (.inr (7, [v0, v1, .ref 46, .int nf, .ref 48, .ref 50, .ref 52, .ref 54, .ref 56, .ref rs]))))) (h46 : zat h 46 = some (.inl (0, 6, tg))) (h48 : zat h 48 = some (.inl (0, 128, sh))) (h50 : zat h 50 = some (.inl (0, 128, el))) (h52 : zat h 52 = some (.inl (0, 128, wr))) (h54 : zat h 54 = some (.inl (0, 128, ou))) (hB : zat h 56 = some (.inl (0, 101, bh))) (hO : zat h rs = some (.inr (.inl (sc, so1)))) (hra : ra = 6 ∨ ra = 20) (hkn : kn = 0 ∨ kn = 1) (hsc : wScl lk hd ht bl sd) (hlm : wLm ll lg) (hK : wHO ll lg lk hd ht kn to cap hp li) (hd1 : hrL = 62 ∨ 234 ≤ hrL) (hd2 : (rs = 58 ∨ 234 ≤ rs) ∧ rs ≠ hrL) (hcs : 16 ≤ cap ∧ cap ≤ 600 ∧ sc ≤ 600) (hlen : 117 ≤ h.length) : wq 118 0 [(0, .ref 0)] [] h 0 0 (fun rr9 => ∃ (h2 : zH) (rL2 : Nat) (cap2 : Nat) (rs2 : Nat) (sc2 : Nat) (v02 : Value) (v12 : Value) (nf2 : Int32) (kn2 : Int32) (ks2 : Int32) (fa2 : Int32) (tg2 : List Int32) (hp2 : List Int32) (sh2 : List Int32) (el2 : List Int32) (wr2 : List Int32) (ou2 : List Int32) (bh2 : List Int32) (li2 : List Int64) (so2 : List Int64) (d9 s9 : Nat), rr9 = (some (.int (cClrs (sSolL ll lg lk hd ht pl 64 (-32)).length li2 )), h2, d9, s9) ∧ wFr [hrL, 60, 64, 44, 46, 48, 50, 52, 54, 56, rs] h h2 ∧ h.length ≤ h2.length ∧ zat h2 60 = some (.inr (.inr (.inr (1, [.int kn2, .int (nI (sSolL ll lg lk hd ht pl 64 (-32)).length), .ref rL2, .ref 64, .int ks2, .int fa2])))) ∧ zat h2 64 = some (.inl (0, 6, hp2)) ∧ zat h2 rL2 = some (.inr (.inl (cap2, li2))) ∧ zat h2 44 = some (.inr (.inr (.inr (7, [v02, v12, .ref 46, .int nf2, .ref 48, .ref 50, .ref 52, .ref 54, .ref 56, .ref rs2])))) ∧ zat h2 46 = some (.inl (0, 6, tg2)) ∧ zat h2 48 = some (.inl (0, 128, sh2)) ∧ zat h2 50 = some (.inl (0, 128, el2)) ∧ zat h2 52 = some (.inl (0, 128, wr2)) ∧ zat h2 54 = some (.inl (0, 128, ou2)) ∧ zat h2 56 = some (.inl (0, 101, bh2)) ∧ zat h2 rs2 = some (.inr (.inl (sc2, so2))) ∧ (kn2 = 1) ∧ (∀ i, i < 6 → hp2.getD i 0 = pl.getD i 0) ∧ (wHK (sSolL ll lg lk hd ht pl 64 (-32)) cap2 li2) ∧ (wHO ll lg lk hd ht kn2 (nI (sSolL ll lg lk hd ht pl 64 (-32)).length) cap2 hp2 li2) ∧ (16 ≤ cap2 ∧ cap2 ≤ 600 ∧ sc2 ≤ 600 ∧ cap ≤ cap2 ∧ sc ≤ sc2) ∧ (rL2 = hrL ∨ 2 * h.length ≤ rL2) ∧ (rs2 = rs ∨ 2 * h.length ≤ rs2) ∧ (rs2 ≠ rL2) ∧ (((sSolL ll lg lk hd ht pl 64 (-32)).length ≤ cap2 ∨ cap2 = 600) ∧ (sSolL ll lg lk hd ht pl 64 (-32)).length ≤ 16384) ∧ (d9 + cap + sc ≤ cap2 + sc2) ∧ (s9 + 600 * (cap + sc) ≤ 600 * (cap2 + sc2))) := by
  have zi := zat_lt hI
  have zo := zat_lt hO
  have z0 : (0 : Int32).toInt = 0 := rfl
  have z1 : (1 : Int32).toInt = 1 := rfl
  have z5 : (5 : Int32).toInt = 5 := rfl
  have z6 : (6 : Int32).toInt = 6 := rfl
  have z600 : (600 : Int32).toInt = 600 := rfl
  refine wq_gos (f := 1) (pc2 := 1) (ls2 := [(0, .ref 0)]) (st2 := [.ref 0]) (h2 := h) (dc2 := 0) (ds2 := 0) 1 rfl ?_
  refine wq_inlv (y2 := 148) (as := []) rfl rfl rfl hX rfl (wq_mono (c_hn hX hA hL hG hAi hH hP4 hI hS h46 h48 h50 h52 h54 hB hO (by first | omega | assumption | decide | solve_by_elim) (by first | omega | assumption | decide | solve_by_elim) (by first | omega | assumption | decide | solve_by_elim) (by first | omega | assumption | decide | solve_by_elim) (by first | omega | assumption | decide | solve_by_elim) (by first | omega | assumption | decide | solve_by_elim) (by first | omega | assumption | decide | solve_by_elim) (by first | omega | assumption | decide | solve_by_elim) (by first | omega | assumption | decide | solve_by_elim)) ?_)
  rintro _ ⟨h81x, rL21x, cap21x, rs21x, sc21x, v021x, v121x, nf21x, kn21x, ks21x, fa21x, tg21x, hp21x, sh21x, el21x, wr21x, ou21x, bh21x, li21x, so21x, d91x, s91x, rfl, f81x, l81x, c01x, c11x, c21x, c31x, c41x, c51x, c61x, c71x, c81x, c91x, c101x, p01x, p11x, p21x, p31x, p41x, p51x, p61x, p71x, p81x, al01x, al11x⟩
  show wq 118 4 [(0, .ref 0)] [.ref 60] h81x (0 + d91x) (0 + s91x) _
  refine wq_gos (f := 1) (pc2 := 6) (ls2 := [(1, .ref 60), (0, .ref 0)]) (st2 := [.ref 60]) (h2 := h81x) (dc2 := (0 + d91x)) (ds2 := (0 + s91x)) 2 rfl ?_
  refine wq_inlv (y2 := 16) (as := []) rfl rfl rfl c01x rfl ?_
  show wq 16 0 [(0, .ref 60)] [] h81x 0 0 _
  refine wq_gos (f := 1) (pc2 := 1) (ls2 := [(0, .ref 60)]) (st2 := [.ref 60]) (h2 := h81x) (dc2 := 0) (ds2 := 0) 1 rfl ?_
  refine wq_getf rfl c01x rfl rfl ?_
  refine wq_gos (f := 1) (pc2 := 7) (ls2 := [(0, .ref 60)]) (st2 := [.int 600, .int (nI (sSolL ll lg lk hd ht pl 64 (-32)).length)]) (h2 := h81x) (dc2 := 0) (ds2 := 0) 1 rfl ?_
  try have q2x := nI_toInt (n := (sSolL ll lg lk hd ht pl 64 (-32)).length) (by omega)
  have q3x : (600 : Int32).toInt = 600 := rfl
  refine wq_le2 rfl rfl (fun b4x => ?_) (fun b4x => ?_)
  · refine wq_gos (f := 1) (pc2 := 15) (ls2 := [(0, .ref 60)]) (st2 := [.int 0]) (h2 := h81x) (dc2 := 0) (ds2 := 0) 1 rfl ?_
    refine wq_ret rfl rfl ?_
    show wq 118 9 [(1, .ref 60), (0, .ref 0)] [.int 0] h81x (0 + d91x) (0 + s91x) _
    refine wq_gos (f := 1) (pc2 := 23) (ls2 := [(4, .int 0), (3, .int (-1)), (2, .int (-2)), (1, .ref 60), (0, .ref 0)]) (st2 := []) (h2 := h81x) (dc2 := (0 + d91x)) (ds2 := (0 + s91x)) 7 rfl ?_
    have e5x := (f81x.2 _ _ (wnc (by omega) (wnc (by decide) (wnc (by decide) (wnc (by decide) (wnc (by decide) (wnc (by decide) (wnc (by decide) (wnc (by decide) (wnc (by decide) (wnc (by decide) (wnc (by omega) wn0))))))))))) hX)
    refine wq_ls [(0, .ref 0), (1, .ref 60), (2, .int (-2 : Int32)), (3, .int (-1 : Int32)), (4, .int (nI 0))] (show ([0, 1, 2, 3, 4] : List Nat).Nodup by decide) ⟨rfl, rfl, rfl, rfl, rfl, trivial⟩ ?_
    refine wq_mono (c_clL e5x c01x c21x (by first | omega | assumption | decide | solve_by_elim) (((sSolL ll lg lk hd ht pl 64 (-32)).length - 0) + 1) (-2 : Int32) (-1 : Int32) 0 (by first | omega | assumption | decide | solve_by_elim) (by omega) (0 + d91x) (0 + s91x)) ?_
    rintro _ rfl
    have w6x : (cClrs (sSolL ll lg lk hd ht pl 64 (-32)).length li21x ) = (clF (sSolL ll lg lk hd ht pl 64 (-32)).length li21x (((sSolL ll lg lk hd ht pl 64 (-32)).length - 0) + 1) (-2 : Int32) (-1 : Int32) 0) := by unfold cClrs; rw [if_pos b4x]
    exact ⟨h81x, rL21x, cap21x, rs21x, sc21x, v021x, v121x, nf21x, kn21x, ks21x, fa21x, tg21x, hp21x, sh21x, el21x, wr21x, ou21x, bh21x, li21x, so21x, (0 + d91x), (0 + s91x), (by rw [w6x]), (wFr_sub f81x (by simp)), (by omega), c01x, c11x, c21x, c31x, c41x, c51x, c61x, c71x, c81x, c91x, c101x, (by first | omega | assumption | decide | solve_by_elim), (by first | omega | assumption | decide | solve_by_elim), (by first | omega | assumption | decide | solve_by_elim), (by first | omega | assumption | decide | solve_by_elim), (by first | omega | assumption | decide | solve_by_elim), (by first | omega | assumption | decide | solve_by_elim), (by first | omega | assumption | decide | solve_by_elim), (by first | omega | assumption | decide | solve_by_elim), (by first | omega | assumption | decide | solve_by_elim), (by first | omega | assumption | decide | solve_by_elim), (by first | omega | assumption | decide | solve_by_elim)⟩
  · refine wq_gos (f := 1) (pc2 := 15) (ls2 := [(0, .ref 60)]) (st2 := [.int 1]) (h2 := h81x) (dc2 := 0) (ds2 := 0) 2 rfl ?_
    refine wq_ret rfl rfl ?_
    show wq 118 9 [(1, .ref 60), (0, .ref 0)] [.int 1] h81x (0 + d91x) (0 + s91x) _
    refine wq_gos (f := 1) (pc2 := 14) (ls2 := [(1, .ref 60), (0, .ref 0)]) (st2 := [.int (-3)]) (h2 := h81x) (dc2 := (0 + d91x)) (ds2 := (0 + s91x)) 2 rfl ?_
    have w7x : (cClrs (sSolL ll lg lk hd ht pl 64 (-32)).length li21x ) = (-3 : Int32) := by unfold cClrs; rw [if_neg (Int.not_le.mpr b4x)]
    exact wq_ret rfl rfl ⟨h81x, rL21x, cap21x, rs21x, sc21x, v021x, v121x, nf21x, kn21x, ks21x, fa21x, tg21x, hp21x, sh21x, el21x, wr21x, ou21x, bh21x, li21x, so21x, (0 + d91x), (0 + s91x), (by rw [w7x]), (wFr_sub f81x (by simp)), (by omega), c01x, c11x, c21x, c31x, c41x, c51x, c61x, c71x, c81x, c91x, c101x, (by first | omega | assumption | decide | solve_by_elim), (by first | omega | assumption | decide | solve_by_elim), (by first | omega | assumption | decide | solve_by_elim), (by first | omega | assumption | decide | solve_by_elim), (by first | omega | assumption | decide | solve_by_elim), (by first | omega | assumption | decide | solve_by_elim), (by first | omega | assumption | decide | solve_by_elim), (by first | omega | assumption | decide | solve_by_elim), (by first | omega | assumption | decide | solve_by_elim), (by first | omega | assumption | decide | solve_by_elim), (by first | omega | assumption | decide | solve_by_elim)⟩
noncomputable def cTak (n9 : Nat) (k : Int32) : Nat := (if k.toInt < 0 then 0 else (if (nI n9).toInt ≤ k.toInt then 0 else (if (nI n9).toInt ≤ (600 : Int32).toInt then 1 else 0)))
set_option maxRecDepth 100000 in
set_option maxHeartbeats 4000000 in
theorem c_take {h : zH} {Q : zR → Prop} {t ra rd : Nat} {ps ip : Int64} {im : Int32} {sp so : Nat} {lk hd ht bl sd : Int32} {rt : Int64} {ll lg : List Int32} {hrL cap rs sc : Nat} {v0 v1 : Value} {nf kn to ks fa : Int32} {tg hp sh el wr ou bh pl : List Int32} {li so1 : List Int64} {us un : Nat} {pp : List Int64} {ua : List Int32} {k : Int32} (hX : zat h 0 = some (.inr (.inr (.inr (9, [.ref 2, .int (nI t), .ref 4, .ref ra, .ref rd, .long ps, .ref 34, .ref 36, .int im, .long ip, .ref 42, .ref 44, .ref 60, .ref 66, .ref 72, .ref 74, .ref 150, .ref 158]))))) (hA : zat h ra = some (.inr (.inr (.inr (0, [.int lk, .int hd, .int ht, .int bl, .int sd, .long rt, .ref (ra + 2), .ref (ra + 4), .ref (ra + 6), .int (nI sp), .ref (ra + 8), .ref (ra + 10), .int (nI so), .ref (ra + 12)]))))) (hL : zat h (ra + 2) = some (.inl (0, 6, ll))) (hG : zat h (ra + 4) = some (.inl (0, 6, lg))) (hAi : zat h 34 = some (.inl (0, 6, pl))) (hH : zat h 60 = some (.inr (.inr (.inr (1, [.int kn, .int to, .ref hrL, .ref 64, .int ks, .int fa]))))) (hP4 : zat h 64 = some (.inl (0, 6, hp))) (hI : zat h hrL = some (.inr (.inl (cap, li)))) (hS : zat h 44 = some (.inr (.inr (.inr (7, [v0, v1, .ref 46, .int nf, .ref 48, .ref 50, .ref 52, .ref 54, .ref 56, .ref rs]))))) (h46 : zat h 46 = some (.inl (0, 6, tg))) (h48 : zat h 48 = some (.inl (0, 128, sh))) (h50 : zat h 50 = some (.inl (0, 128, el))) (h52 : zat h 52 = some (.inl (0, 128, wr))) (h54 : zat h 54 = some (.inl (0, 128, ou))) (hB : zat h 56 = some (.inl (0, 101, bh))) (hO : zat h rs = some (.inr (.inl (sc, so1)))) (hP : zat h 36 = some (.inr (.inr (.inr (2, [.int (nI us), .int (nI un), .ref 38, .ref 40]))))) (hP8 : zat h 38 = some (.inr (.inl (20, pp)))) (hP0 : zat h 40 = some (.inl (0, 120, ua))) (hra : ra = 6 ∨ ra = 20) (hkn : kn = 0 ∨ kn = 1) (hsc : wScl lk hd ht bl sd) (hlm : wLm ll lg) (hK : wHO ll lg lk hd ht kn to cap hp li) (hd1 : hrL = 62 ∨ 234 ≤ hrL) (hd2 : (rs = 58 ∨ 234 ≤ rs) ∧ rs ≠ hrL) (hcs : 16 ≤ cap ∧ cap ≤ 600 ∧ sc ≤ 600) (hlen : 117 ≤ h.length) (hu : un < 20 ∧ us ≤ 20) (kF : ∀ (h2 : zH) (rL2 : Nat) (cap2 : Nat) (rs2 : Nat) (sc2 : Nat) (v02 : Value) (v12 : Value) (nf2 : Int32) (kn2 : Int32) (ks2 : Int32) (fa2 : Int32) (tg2 : List Int32) (hp2 : List Int32) (sh2 : List Int32) (el2 : List Int32) (wr2 : List Int32) (ou2 : List Int32) (bh2 : List Int32) (li2 : List Int64) (so2 : List Int64) (d9 s9 : Nat), (wFr [hrL, 60, 64, 44, 46, 48, 50, 52, 54, 56, rs] h h2) → (h.length ≤ h2.length) → (zat h2 60 = some (.inr (.inr (.inr (1, [.int kn2, .int (nI (sSolL ll lg lk hd ht pl 64 (-32)).length), .ref rL2, .ref 64, .int ks2, .int fa2]))))) → (zat h2 64 = some (.inl (0, 6, hp2))) → (zat h2 rL2 = some (.inr (.inl (cap2, li2)))) → (zat h2 44 = some (.inr (.inr (.inr (7, [v02, v12, .ref 46, .int nf2, .ref 48, .ref 50, .ref 52, .ref 54, .ref 56, .ref rs2]))))) → (zat h2 46 = some (.inl (0, 6, tg2))) → (zat h2 48 = some (.inl (0, 128, sh2))) → (zat h2 50 = some (.inl (0, 128, el2))) → (zat h2 52 = some (.inl (0, 128, wr2))) → (zat h2 54 = some (.inl (0, 128, ou2))) → (zat h2 56 = some (.inl (0, 101, bh2))) → (zat h2 rs2 = some (.inr (.inl (sc2, so2)))) → ((cTak (sSolL ll lg lk hd ht pl 64 (-32)).length k) = 0) → (kn2 = 1) → (∀ i, i < 6 → hp2.getD i 0 = pl.getD i 0) → (wHK (sSolL ll lg lk hd ht pl 64 (-32)) cap2 li2) → (wHO ll lg lk hd ht kn2 (nI (sSolL ll lg lk hd ht pl 64 (-32)).length) cap2 hp2 li2) → (16 ≤ cap2 ∧ cap2 ≤ 600 ∧ sc2 ≤ 600 ∧ cap ≤ cap2 ∧ sc ≤ sc2) → (rL2 = hrL ∨ 2 * h.length ≤ rL2) → (rs2 = rs ∨ 2 * h.length ≤ rs2) → (rs2 ≠ rL2) → (((sSolL ll lg lk hd ht pl 64 (-32)).length ≤ cap2 ∨ cap2 = 600) ∧ (sSolL ll lg lk hd ht pl 64 (-32)).length ≤ 16384) → (d9 + cap + sc ≤ cap2 + sc2) → (s9 + 600 * (cap + sc) ≤ 600 * (cap2 + sc2)) → Q (some (.int 0), h2, d9, s9)) (kS : ∀ (h2 : zH) (rL2 : Nat) (cap2 : Nat) (rs2 : Nat) (sc2 : Nat) (v02 : Value) (v12 : Value) (nf2 : Int32) (kn2 : Int32) (ks2 : Int32) (fa2 : Int32) (tg2 : List Int32) (hp2 : List Int32) (sh2 : List Int32) (el2 : List Int32) (wr2 : List Int32) (ou2 : List Int32) (bh2 : List Int32) (li2 : List Int64) (so2 : List Int64) (d9 s9 : Nat), (wFr [0, 36, 38, 40, hrL, 60, 64, 44, 46, 48, 50, 52, 54, 56, rs] h h2) → (h.length ≤ h2.length) → (zat h2 0 = some (.inr (.inr (.inr (9, [.ref 2, .int (nI t), .ref 4, .ref ra, .ref rd, .long (li2.getD k.toNatClampNeg 0), .ref 34, .ref 36, .int im, .long ip, .ref 42, .ref 44, .ref 60, .ref 66, .ref 72, .ref 74, .ref 150, .ref 158]))))) → (zat h2 60 = some (.inr (.inr (.inr (1, [.int kn2, .int (nI (sSolL ll lg lk hd ht pl 64 (-32)).length), .ref rL2, .ref 64, .int ks2, .int fa2]))))) → (zat h2 64 = some (.inl (0, 6, hp2))) → (zat h2 rL2 = some (.inr (.inl (cap2, li2)))) → (zat h2 44 = some (.inr (.inr (.inr (7, [v02, v12, .ref 46, .int nf2, .ref 48, .ref 50, .ref 52, .ref 54, .ref 56, .ref rs2]))))) → (zat h2 46 = some (.inl (0, 6, tg2))) → (zat h2 48 = some (.inl (0, 128, sh2))) → (zat h2 50 = some (.inl (0, 128, el2))) → (zat h2 52 = some (.inl (0, 128, wr2))) → (zat h2 54 = some (.inl (0, 128, ou2))) → (zat h2 56 = some (.inl (0, 101, bh2))) → (zat h2 rs2 = some (.inr (.inl (sc2, so2)))) → (zat h2 36 = some (.inr (.inr (.inr (2, [.int (nI (min (us + 1) 20)), .int (nI ((un + 1) % 20)), .ref 38, .ref 40]))))) → (zat h2 38 = some (.inr (.inl (20, (zset 0 pp un ps))))) → (zat h2 40 = some (.inl (0, 120, (zcpy 0 pl ua 0 (6 * un) 6)))) → ((cTak (sSolL ll lg lk hd ht pl 64 (-32)).length k) = 1) → (kn2 = 1) → (∀ i, i < 6 → hp2.getD i 0 = pl.getD i 0) → (wHK (sSolL ll lg lk hd ht pl 64 (-32)) cap2 li2) → (wHO ll lg lk hd ht kn2 (nI (sSolL ll lg lk hd ht pl 64 (-32)).length) cap2 hp2 li2) → (16 ≤ cap2 ∧ cap2 ≤ 600 ∧ sc2 ≤ 600 ∧ cap ≤ cap2 ∧ sc ≤ sc2) → (rL2 = hrL ∨ 2 * h.length ≤ rL2) → (rs2 = rs ∨ 2 * h.length ≤ rs2) → (rs2 ≠ rL2) → (((sSolL ll lg lk hd ht pl 64 (-32)).length ≤ cap2 ∨ cap2 = 600) ∧ (sSolL ll lg lk hd ht pl 64 (-32)).length ≤ 16384) → (0 ≤ k.toInt ∧ k.toInt < (sSolL ll lg lk hd ht pl 64 (-32)).length ∧ (sSolL ll lg lk hd ht pl 64 (-32)).length ≤ 600) → (d9 + cap + sc ≤ cap2 + sc2) → (s9 + 600 * (cap + sc) ≤ 600 * (cap2 + sc2)) → Q (some (.int 1), h2, d9, s9)) : wq 119 0 [(0, .ref 0), (1, .int k)] [] h 0 0 Q := by
  have zi := zat_lt hI
  have zo := zat_lt hO
  have z0 : (0 : Int32).toInt = 0 := rfl
  have z1 : (1 : Int32).toInt = 1 := rfl
  have z5 : (5 : Int32).toInt = 5 := rfl
  have z6 : (6 : Int32).toInt = 6 := rfl
  have z600 : (600 : Int32).toInt = 600 := rfl
  refine wq_gos (f := 1) (pc2 := 1) (ls2 := [(0, .ref 0), (1, .int k)]) (st2 := [.ref 0]) (h2 := h) (dc2 := 0) (ds2 := 0) 1 rfl ?_
  refine wq_inlv (y2 := 148) (as := []) rfl rfl rfl hX rfl (wq_mono (c_hn hX hA hL hG hAi hH hP4 hI hS h46 h48 h50 h52 h54 hB hO (by first | omega | assumption | decide | solve_by_elim) (by first | omega | assumption | decide | solve_by_elim) (by first | omega | assumption | decide | solve_by_elim) (by first | omega | assumption | decide | solve_by_elim) (by first | omega | assumption | decide | solve_by_elim) (by first | omega | assumption | decide | solve_by_elim) (by first | omega | assumption | decide | solve_by_elim) (by first | omega | assumption | decide | solve_by_elim) (by first | omega | assumption | decide | solve_by_elim)) ?_)
  rintro _ ⟨h81x, rL21x, cap21x, rs21x, sc21x, v021x, v121x, nf21x, kn21x, ks21x, fa21x, tg21x, hp21x, sh21x, el21x, wr21x, ou21x, bh21x, li21x, so21x, d91x, s91x, rfl, f81x, l81x, c01x, c11x, c21x, c31x, c41x, c51x, c61x, c71x, c81x, c91x, c101x, p01x, p11x, p21x, p31x, p41x, p51x, p61x, p71x, p81x, al01x, al11x⟩
  show wq 119 4 [(0, .ref 0), (1, .int k)] [.ref 60] h81x (0 + d91x) (0 + s91x) _
  refine wq_gos (f := 1) (pc2 := 7) (ls2 := [(2, .ref 60), (0, .ref 0), (1, .int k)]) (st2 := [.int k, .ref 60]) (h2 := h81x) (dc2 := (0 + d91x)) (ds2 := (0 + s91x)) 3 rfl ?_
  refine wq_inlv (y2 := 17) (as := [.int k]) rfl rfl rfl c01x rfl ?_
  show wq 17 0 [(0, .ref 60), (1, .int k)] [] h81x 0 0 _
  refine wq_gos (f := 1) (pc2 := 1) (ls2 := [(0, .ref 60), (1, .int k)]) (st2 := [.int k]) (h2 := h81x) (dc2 := 0) (ds2 := 0) 1 rfl ?_
  refine wq_lt0 rfl rfl (fun b2x => ?_) (fun b2x => ?_)
  · refine wq_gos (f := 1) (pc2 := 24) (ls2 := [(0, .ref 60), (1, .int k)]) (st2 := [.int 0]) (h2 := h81x) (dc2 := 0) (ds2 := 0) 1 rfl ?_
    refine wq_ret rfl rfl ?_
    show wq 119 10 [(2, .ref 60), (0, .ref 0), (1, .int k)] [.int 0] h81x (0 + d91x) (0 + s91x) _
    refine wq_gos (f := 1) (pc2 := 14) (ls2 := [(2, .ref 60), (0, .ref 0), (1, .int k)]) (st2 := [.int 0]) (h2 := h81x) (dc2 := (0 + d91x)) (ds2 := (0 + s91x)) 2 rfl ?_
    exact wq_ret rfl rfl (kF h81x rL21x cap21x rs21x sc21x v021x v121x nf21x kn21x ks21x fa21x tg21x hp21x sh21x el21x wr21x ou21x bh21x li21x so21x (0 + d91x) (0 + s91x) (wFr_sub f81x (by simp)) (by omega) c01x c11x c21x c31x c41x c51x c61x c71x c81x c91x c101x (by unfold cTak; rw [if_pos b2x]) (by first | omega | assumption | decide | solve_by_elim) (by first | omega | assumption | decide | solve_by_elim) (by first | omega | assumption | decide | solve_by_elim) (by first | omega | assumption | decide | solve_by_elim) (by first | omega | assumption | decide | solve_by_elim) (by first | omega | assumption | decide | solve_by_elim) (by first | omega | assumption | decide | solve_by_elim) (by first | omega | assumption | decide | solve_by_elim) (by first | omega | assumption | decide | solve_by_elim) (by omega) (by omega))
  · refine wq_gos (f := 1) (pc2 := 6) (ls2 := [(0, .ref 60), (1, .int k)]) (st2 := [.ref 60, .int k]) (h2 := h81x) (dc2 := 0) (ds2 := 0) 2 rfl ?_
    refine wq_getf rfl c01x rfl rfl ?_
    try have q3x := nI_toInt (n := (sSolL ll lg lk hd ht pl 64 (-32)).length) (by omega)
    refine wq_ge2 rfl rfl (fun b4x => ?_) (fun b4x => ?_)
    · refine wq_gos (f := 1) (pc2 := 24) (ls2 := [(0, .ref 60), (1, .int k)]) (st2 := [.int 0]) (h2 := h81x) (dc2 := 0) (ds2 := 0) 1 rfl ?_
      refine wq_ret rfl rfl ?_
      show wq 119 10 [(2, .ref 60), (0, .ref 0), (1, .int k)] [.int 0] h81x (0 + d91x) (0 + s91x) _
      refine wq_gos (f := 1) (pc2 := 14) (ls2 := [(2, .ref 60), (0, .ref 0), (1, .int k)]) (st2 := [.int 0]) (h2 := h81x) (dc2 := (0 + d91x)) (ds2 := (0 + s91x)) 2 rfl ?_
      exact wq_ret rfl rfl (kF h81x rL21x cap21x rs21x sc21x v021x v121x nf21x kn21x ks21x fa21x tg21x hp21x sh21x el21x wr21x ou21x bh21x li21x so21x (0 + d91x) (0 + s91x) (wFr_sub f81x (by simp)) (by omega) c01x c11x c21x c31x c41x c51x c61x c71x c81x c91x c101x (by unfold cTak; rw [if_neg (Int.not_lt.mpr b2x), if_pos b4x]) (by first | omega | assumption | decide | solve_by_elim) (by first | omega | assumption | decide | solve_by_elim) (by first | omega | assumption | decide | solve_by_elim) (by first | omega | assumption | decide | solve_by_elim) (by first | omega | assumption | decide | solve_by_elim) (by first | omega | assumption | decide | solve_by_elim) (by first | omega | assumption | decide | solve_by_elim) (by first | omega | assumption | decide | solve_by_elim) (by first | omega | assumption | decide | solve_by_elim) (by omega) (by omega))
    · refine wq_gos (f := 1) (pc2 := 13) (ls2 := [(0, .ref 60), (1, .int k)]) (st2 := [.ref 60]) (h2 := h81x) (dc2 := 0) (ds2 := 0) 1 rfl ?_
      refine wq_inlv (y2 := 16) (as := []) rfl rfl rfl c01x rfl ?_
      show wq 16 0 [(0, .ref 60)] [] h81x 0 0 _
      refine wq_gos (f := 1) (pc2 := 1) (ls2 := [(0, .ref 60)]) (st2 := [.ref 60]) (h2 := h81x) (dc2 := 0) (ds2 := 0) 1 rfl ?_
      refine wq_getf rfl c01x rfl rfl ?_
      refine wq_gos (f := 1) (pc2 := 7) (ls2 := [(0, .ref 60)]) (st2 := [.int 600, .int (nI (sSolL ll lg lk hd ht pl 64 (-32)).length)]) (h2 := h81x) (dc2 := 0) (ds2 := 0) 1 rfl ?_
      have q5x : (600 : Int32).toInt = 600 := rfl
      refine wq_le2 rfl rfl (fun b6x => ?_) (fun b6x => ?_)
      · refine wq_gos (f := 1) (pc2 := 15) (ls2 := [(0, .ref 60)]) (st2 := [.int 0]) (h2 := h81x) (dc2 := 0) (ds2 := 0) 1 rfl ?_
        refine wq_ret rfl rfl ?_
        show wq 17 16 [(0, .ref 60), (1, .int k)] [.int 0] h81x 0 0 _
        refine wq_gos (f := 1) (pc2 := 24) (ls2 := [(0, .ref 60), (1, .int k)]) (st2 := [.int 1]) (h2 := h81x) (dc2 := 0) (ds2 := 0) 3 rfl ?_
        refine wq_ret rfl rfl ?_
        show wq 119 10 [(2, .ref 60), (0, .ref 0), (1, .int k)] [.int 1] h81x (0 + d91x) (0 + s91x) _
        refine wq_gos (f := 1) (pc2 := 16) (ls2 := [(2, .ref 60), (0, .ref 0), (1, .int k)]) (st2 := [.ref 0]) (h2 := h81x) (dc2 := (0 + d91x)) (ds2 := (0 + s91x)) 2 rfl ?_
        have e7x := (f81x.2 _ _ (wnc (by omega) (wnc (by decide) (wnc (by decide) (wnc (by decide) (wnc (by decide) (wnc (by decide) (wnc (by decide) (wnc (by decide) (wnc (by decide) (wnc (by decide) (wnc (by omega) wn0))))))))))) hX)
        refine wq_getf rfl e7x rfl rfl ?_
        refine wq_gos (f := 1) (pc2 := 20) (ls2 := [(2, .ref 60), (0, .ref 0), (1, .int k)]) (st2 := [.ref 0, .ref 36]) (h2 := h81x) (dc2 := (0 + d91x)) (ds2 := (0 + s91x)) 1 rfl ?_
        refine wq_getf rfl e7x rfl rfl ?_
        refine wq_gos (f := 1) (pc2 := 24) (ls2 := [(2, .ref 60), (0, .ref 0), (1, .int k)]) (st2 := [.ref 0, .long ps, .ref 36]) (h2 := h81x) (dc2 := (0 + d91x)) (ds2 := (0 + s91x)) 1 rfl ?_
        refine wq_getf rfl e7x rfl rfl ?_
        have e8x := (f81x.2 _ _ (wnc (by omega) (wnc (by decide) (wnc (by decide) (wnc (by decide) (wnc (by decide) (wnc (by decide) (wnc (by decide) (wnc (by decide) (wnc (by decide) (wnc (by decide) (wnc (by omega) wn0))))))))))) hP)
        have e9x := (f81x.2 _ _ (wnc (by omega) (wnc (by decide) (wnc (by decide) (wnc (by decide) (wnc (by decide) (wnc (by decide) (wnc (by decide) (wnc (by decide) (wnc (by decide) (wnc (by decide) (wnc (by omega) wn0))))))))))) hP8)
        have e10x := (f81x.2 _ _ (wnc (by omega) (wnc (by decide) (wnc (by decide) (wnc (by decide) (wnc (by decide) (wnc (by decide) (wnc (by decide) (wnc (by decide) (wnc (by decide) (wnc (by decide) (wnc (by omega) wn0))))))))))) hP0)
        have e11x := (f81x.2 _ _ (wnc (by omega) (wnc (by decide) (wnc (by decide) (wnc (by decide) (wnc (by decide) (wnc (by decide) (wnc (by decide) (wnc (by decide) (wnc (by decide) (wnc (by decide) (wnc (by omega) wn0))))))))))) hAi)
        refine wq_inlv (y2 := 23) (as := [.long ps, .ref 34]) rfl rfl rfl e8x rfl (wq_mono (c_push e8x e9x e10x e11x (by first | omega | assumption | decide | solve_by_elim)) ?_)
        rintro _ ⟨h812x, un212x, us212x, rfl, f812x, l812x, c012x, c112x, c212x, p012x, p112x⟩
        subst p012x
        subst p112x
        show wq 119 30 [(2, .ref 60), (0, .ref 0), (1, .int k)] [] h812x (0 + d91x) (0 + s91x) _
        refine wq_gos (f := 1) (pc2 := 32) (ls2 := [(2, .ref 60), (0, .ref 0), (1, .int k)]) (st2 := [.ref 60, .ref 0]) (h2 := h812x) (dc2 := (0 + d91x)) (ds2 := (0 + s91x)) 2 rfl ?_
        have e13x := (f812x.2 _ _ (wnc (by decide) (wnc (by decide) (wnc (by decide) wn0))) c01x)
        refine wq_getf rfl e13x rfl rfl ?_
        refine wq_gos (f := 1) (pc2 := 36) (ls2 := [(2, .ref 60), (0, .ref 0), (1, .int k)]) (st2 := [.int k, .ref rL21x, .ref 0]) (h2 := h812x) (dc2 := (0 + d91x)) (ds2 := (0 + s91x)) 1 rfl ?_
        have e14x := (f812x.2 _ _ (wnc (by omega) (wnc (by omega) (wnc (by omega) wn0))) c21x)
        refine wq_lald rfl e14x (by first | omega | exact zin_t (by omega) (by omega)) rfl ?_
        have e15x := (f812x.2 _ _ (wnc (by decide) (wnc (by decide) (wnc (by decide) wn0))) e7x)
        refine wq_putf rfl e15x rfl rfl rfl ?_
        intro h16x e17x f18x l19x
        have e17x : zat h16x 0 = some (.inr (.inr (.inr (9, [.ref 2, .int (nI t), .ref 4, .ref ra, .ref rd, .long (li21x.getD (k).toNatClampNeg 0), .ref 34, .ref 36, .int im, .long ip, .ref 42, .ref 44, .ref 60, .ref 66, .ref 72, .ref 74, .ref 150, .ref 158])))) := e17x
        refine wq_gos (f := 1) (pc2 := 41) (ls2 := [(2, .ref 60), (0, .ref 0), (1, .int k)]) (st2 := [.int 1]) (h2 := h16x) (dc2 := (0 + d91x)) (ds2 := (0 + s91x)) 1 rfl ?_
        have e20x := (f18x.2 _ _ (wnc (by decide) wn0) e13x)
        have e21x := (f18x.2 _ _ (wnc (by decide) wn0) (f812x.2 _ _ (wnc (by decide) (wnc (by decide) (wnc (by decide) wn0))) c11x))
        have e22x := (f18x.2 _ _ (wnc (by omega) wn0) e14x)
        have e23x := (f18x.2 _ _ (wnc (by decide) wn0) (f812x.2 _ _ (wnc (by decide) (wnc (by decide) (wnc (by decide) wn0))) c31x))
        have e24x := (f18x.2 _ _ (wnc (by decide) wn0) (f812x.2 _ _ (wnc (by decide) (wnc (by decide) (wnc (by decide) wn0))) c41x))
        have e25x := (f18x.2 _ _ (wnc (by decide) wn0) (f812x.2 _ _ (wnc (by decide) (wnc (by decide) (wnc (by decide) wn0))) c51x))
        have e26x := (f18x.2 _ _ (wnc (by decide) wn0) (f812x.2 _ _ (wnc (by decide) (wnc (by decide) (wnc (by decide) wn0))) c61x))
        have e27x := (f18x.2 _ _ (wnc (by decide) wn0) (f812x.2 _ _ (wnc (by decide) (wnc (by decide) (wnc (by decide) wn0))) c71x))
        have e28x := (f18x.2 _ _ (wnc (by decide) wn0) (f812x.2 _ _ (wnc (by decide) (wnc (by decide) (wnc (by decide) wn0))) c81x))
        have e29x := (f18x.2 _ _ (wnc (by decide) wn0) (f812x.2 _ _ (wnc (by decide) (wnc (by decide) (wnc (by decide) wn0))) c91x))
        have e30x := (f18x.2 _ _ (wnc (by omega) wn0) (f812x.2 _ _ (wnc (by omega) (wnc (by omega) (wnc (by omega) wn0))) c101x))
        have e31x := (f18x.2 _ _ (wnc (by decide) wn0) c012x)
        have e32x := (f18x.2 _ _ (wnc (by decide) wn0) c112x)
        have e33x := (f18x.2 _ _ (wnc (by decide) wn0) c212x)
        exact wq_ret rfl rfl (kS h16x rL21x cap21x rs21x sc21x v021x v121x nf21x kn21x ks21x fa21x tg21x hp21x sh21x el21x wr21x ou21x bh21x li21x so21x (0 + d91x) (0 + s91x) (wFr_tr (wFr_sub f81x (by simp)) (wFr_tr (wFr_sub f812x (by simp)) (wFr_sub f18x (by simp)))) (by omega) e17x e20x e21x e22x e23x e24x e25x e26x e27x e28x e29x e30x e31x e32x e33x (by unfold cTak; rw [if_neg (Int.not_lt.mpr b2x), if_neg (Int.not_le.mpr b4x), if_pos b6x]) (by first | omega | assumption | decide | solve_by_elim) (by first | omega | assumption | decide | solve_by_elim) (by first | omega | assumption | decide | solve_by_elim) (by first | omega | assumption | decide | solve_by_elim) (by first | omega | assumption | decide | solve_by_elim) (by first | omega | assumption | decide | solve_by_elim) (by first | omega | assumption | decide | solve_by_elim) (by first | omega | assumption | decide | solve_by_elim) (by first | omega | assumption | decide | solve_by_elim) (by first | omega | assumption | decide | solve_by_elim) (by omega) (by omega))
      · refine wq_gos (f := 1) (pc2 := 15) (ls2 := [(0, .ref 60)]) (st2 := [.int 1]) (h2 := h81x) (dc2 := 0) (ds2 := 0) 2 rfl ?_
        refine wq_ret rfl rfl ?_
        show wq 17 16 [(0, .ref 60), (1, .int k)] [.int 1] h81x 0 0 _
        refine wq_gos (f := 1) (pc2 := 24) (ls2 := [(0, .ref 60), (1, .int k)]) (st2 := [.int 0]) (h2 := h81x) (dc2 := 0) (ds2 := 0) 2 rfl ?_
        refine wq_ret rfl rfl ?_
        show wq 119 10 [(2, .ref 60), (0, .ref 0), (1, .int k)] [.int 0] h81x (0 + d91x) (0 + s91x) _
        refine wq_gos (f := 1) (pc2 := 14) (ls2 := [(2, .ref 60), (0, .ref 0), (1, .int k)]) (st2 := [.int 0]) (h2 := h81x) (dc2 := (0 + d91x)) (ds2 := (0 + s91x)) 2 rfl ?_
        exact wq_ret rfl rfl (kF h81x rL21x cap21x rs21x sc21x v021x v121x nf21x kn21x ks21x fa21x tg21x hp21x sh21x el21x wr21x ou21x bh21x li21x so21x (0 + d91x) (0 + s91x) (wFr_sub f81x (by simp)) (by omega) c01x c11x c21x c31x c41x c51x c61x c71x c81x c91x c101x (by unfold cTak; rw [if_neg (Int.not_lt.mpr b2x), if_neg (Int.not_le.mpr b4x), if_neg (Int.not_le.mpr b6x)]) (by first | omega | assumption | decide | solve_by_elim) (by first | omega | assumption | decide | solve_by_elim) (by first | omega | assumption | decide | solve_by_elim) (by first | omega | assumption | decide | solve_by_elim) (by first | omega | assumption | decide | solve_by_elim) (by first | omega | assumption | decide | solve_by_elim) (by first | omega | assumption | decide | solve_by_elim) (by first | omega | assumption | decide | solve_by_elim) (by first | omega | assumption | decide | solve_by_elim) (by omega) (by omega))
