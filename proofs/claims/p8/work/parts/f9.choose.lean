/-! The class: a route is chosen. -/
/-- a row of what is left: by what is held -/
noncomputable def wLf0 (sv : List Int32) (to : Nat → Nat) (li : Nat → List Int64) (wy : List Int32) (S : Nat → Nat) (so n : Nat) (lf : List Int32) : Prop := ∃ lf0 fw0, (∀ j, j < n → lf0.getD j 0 = 0) ∧ lf = (foG0 sv to li (fun q => (wy.getD q 0).toNatClampNeg) S (so - 1) (lf0, fw0)).1
set_option maxRecDepth 100000 in
set_option maxHeartbeats 4000000 in
theorem c_lff0 {h : zH} {Q : zR → Prop} {ra sp so : Nat} {lk hd ht bl sd : Int32} {rt : Int64} {ll lg wy sv fi : List Int32} {po : List Int64} {rp rs al : Nat} {wg ob pr9 sr9 fw : Int32} {to rL cap : Nat → Nat} {kn ks fa : Nat → Int32} {hp : Nat → List Int32} {li : Nat → List Int64} {S : Nat → Nat} {n9 : Nat} {lf : List Int32} (hP : zat h 74 = some (.inr (.inr (.inr (3, [.ref 44, .ref ra, .ref 76, .ref 78, .ref 80, .ref 88, .int wg, .int ob, .ref 96, .int (nI al), .int pr9, .int sr9, .ref rp, .ref rs, .int fw]))))) (hLf : zat h rp = some (.inl (0, n9, lf))) (hra : ra = 6 ∨ ra = 20) (hsp : sp ≤ 8) (h1 : 1 ≤ so) (hway : wWay wy sp so) (hto : ∀ q, q < so → to ((wy.getD q 0).toNatClampNeg) ≤ 600 ∧ to ((wy.getD q 0).toNatClampNeg) ≤ cap ((wy.getD q 0).toNatClampNeg) ∧ fi.getD q 0 = nI (S q) ∧ S q + to ((wy.getD q 0).toNatClampNeg) ≤ al) (hal : al ≤ 6000 ∧ n9 ≤ 12000) (hrl : rp = 98 ∨ 234 ≤ rp) (hrn : ∀ w, w < 8 → rp ≠ rL w) (hlen : 117 ≤ h.length) (hAc : wAc h ra sp so lk hd ht bl sd rt ll lg wy po) (hV : zat h (ra + 6) = some (.inl (0, 6, sv))) (hHs : wHs h to rL cap kn ks fa hp li) (hF : zat h 96 = some (.inl (0, 10, fi))) (kR : ∀ (h2 : zH), (wFr [] h h2) → (h2.length = h.length) → (pr9 ≠ 0) → Q (some (.ref rp), h2, 0, 0)) (kN : ∀ (h2 : zH) (rl2 : Nat) (n2 : Nat) (lf2 : List Int32) (fw2 : Int32) (d9 s9 : Nat), (wFr [74, rp] h h2) → (h.length ≤ h2.length) → (zat h2 74 = some (.inr (.inr (.inr (3, [.ref 44, .ref ra, .ref 76, .ref 78, .ref 80, .ref 88, .int wg, .int ob, .ref 96, .int (nI al), .int (1 : Int32), .int sr9, .ref rl2, .ref rs, .int fw2]))))) → (zat h2 rl2 = some (.inl (0, n2, lf2))) → (pr9 = 0) → (wLf0 sv to li wy S so n2 lf2) → (al ≤ n2 ∧ n2 ≤ 12000) → (rl2 = rp ∨ 2 * h.length ≤ rl2) → (n9 ≤ n2) → (d9 + n9 ≤ n2) → (s9 + 2 * n9 ≤ 2 * n2) → Q (some (.ref rl2), h2, d9, s9)) : wq 30 0 [(0, .ref 74), (1, .int 0)] [] h 0 0 Q := by
  have qnal := nI_toInt (n := al) (by omega)
  have qnn9 := nI_toInt (n := n9) (by omega)
  have q2n := nI_toInt (n := 2 * n9) (by omega)
  have zp := zat_lt hP
  refine wq_gos (f := 1) (pc2 := 12) (ls2 := [(0, .ref 74), (1, .int 0)]) (st2 := [.ref 74]) (h2 := h) (dc2 := 0) (ds2 := 0) 3 rfl ?_
  refine wq_getf rfl hP rfl rfl ?_
  refine wq_gos (f := 1) (pc2 := 31) (ls2 := [(2, .ref rp), (0, .ref 74), (1, .int 0)]) (st2 := [.ref 74]) (h2 := h) (dc2 := 0) (ds2 := 0) 4 rfl ?_
  refine wq_getf rfl hP rfl rfl ?_
  refine wq_eq0 rfl rfl (fun b1x => ?_) (fun b1x => ?_)
  · have q2x : pr9.toInt = 0 := congrArg Int32.toInt b1x
    refine wq_gos (f := 1) (pc2 := 40) (ls2 := [(2, .ref rp), (0, .ref 74), (1, .int 0)]) (st2 := [.ref 74]) (h2 := h) (dc2 := 0) (ds2 := 0) 1 rfl ?_
    refine wq_getf rfl hP rfl rfl ?_
    refine wq_gos (f := 1) (pc2 := 44) (ls2 := [(2, .ref rp), (0, .ref 74), (1, .int 0)]) (st2 := [.ref rp, .int (nI al)]) (h2 := h) (dc2 := 0) (ds2 := 0) 1 rfl ?_
    refine wq_alen rfl hLf rfl ?_
    try have q3x := nI_toInt (n := al) (by omega)
    try have q4x := nI_toInt (n := n9) (by omega)
    refine wq_le2 rfl rfl (fun b5x => ?_) (fun b5x => ?_)
    · refine wq_gos (f := 1) (pc2 := 65) (ls2 := [(2, .ref rp), (0, .ref 74), (1, .int 0)]) (st2 := [.int 0, .ref rp, .ref 74]) (h2 := h) (dc2 := 0) (ds2 := 0) 3 rfl ?_
      refine wq_inlv (y2 := 31) (as := [.ref rp, .int 0]) rfl rfl rfl hP rfl (wq_mono (c_fle0 (rl := rp) (n9 := n9) hra hsp hway (fun q hq => by obtain ⟨a1, a2, a3, a4⟩ := hto q hq; exact ⟨a1, a2, a3, by omega⟩) (by omega) (by omega) hrn h1 hAc hV hHs hF hP hLf) ?_)
      rintro _ ⟨h8, lf0, rfl, f8, l8, e8, r8, z8⟩
      show wq 30 68 [(2, .ref rp), (0, .ref 74), (1, .int 0)] [] h8 0 0 _
      refine wq_gos (f := 1) (pc2 := 87) (ls2 := [(2, .ref rp), (0, .ref 74), (1, .int 0)]) (st2 := [.ref rp, .ref 74]) (h2 := h8) (dc2 := 0) (ds2 := 0) 4 rfl ?_
      refine wq_putf rfl e8 rfl rfl rfl ?_
      intro h6x e7x f8x l9x
      have e7x : zat h6x 74 = some (.inr (.inr (.inr (3, [.ref 44, .ref ra, .ref 76, .ref 78, .ref 80, .ref 88, .int wg, .int ob, .ref 96, .int (nI al), .int pr9, .int sr9, .ref rp, .ref rs, .int ((foG0 sv to li (fun q => (wy.getD q 0).toNatClampNeg) S (so - 1) (lf0, fw)).2)])))) := e7x
      refine wq_gos (f := 1) (pc2 := 92) (ls2 := [(2, .ref rp), (0, .ref 74), (1, .int 0)]) (st2 := [.int 1, .ref 74]) (h2 := h6x) (dc2 := 0) (ds2 := 0) 2 rfl ?_
      refine wq_putf rfl e7x rfl rfl rfl ?_
      intro h10x e11x f12x l13x
      have e11x : zat h10x 74 = some (.inr (.inr (.inr (3, [.ref 44, .ref ra, .ref 76, .ref 78, .ref 80, .ref 88, .int wg, .int ob, .ref 96, .int (nI al), .int 1, .int sr9, .ref rp, .ref rs, .int ((foG0 sv to li (fun q => (wy.getD q 0).toNatClampNeg) S (so - 1) (lf0, fw)).2)])))) := e11x
      refine wq_gos (f := 1) (pc2 := 96) (ls2 := [(2, .ref rp), (0, .ref 74), (1, .int 0)]) (st2 := [.ref rp]) (h2 := h10x) (dc2 := 0) (ds2 := 0) 1 rfl ?_
      have e14x := (f12x.2 _ _ (wnc (by omega) wn0) (f8x.2 _ _ (wnc (by omega) wn0) r8))
      exact wq_ret rfl rfl (kN h10x rp n9 ((foG0 sv to li (fun q => (wy.getD q 0).toNatClampNeg) S (so - 1) (lf0, fw)).1) ((foG0 sv to li (fun q => (wy.getD q 0).toNatClampNeg) S (so - 1) (lf0, fw)).2) 0 0 (wFr_tr (wFr_sub f8 (by simp)) (wFr_tr (wFr_sub f8x (by simp)) (wFr_sub f12x (by simp)))) (by omega) e11x e14x (by first | assumption | omega | decide | solve_by_elim) ⟨lf0, fw, z8, rfl⟩ (by omega) (by first | assumption | omega | decide | solve_by_elim) (by first | assumption | omega | decide | solve_by_elim) (by omega) (by omega))
    · refine wq_gos (f := 1) (pc2 := 49) (ls2 := [(2, .ref rp), (0, .ref 74), (1, .int 0)]) (st2 := [.ref 74]) (h2 := h) (dc2 := 0) (ds2 := 0) 1 rfl ?_
      refine wq_getf rfl hP rfl rfl ?_
      refine wq_gos (f := 1) (pc2 := 54) (ls2 := [(2, .ref rp), (0, .ref 74), (1, .int 0)]) (st2 := [.ref rp, .int 2, .int (nI al)]) (h2 := h) (dc2 := 0) (ds2 := 0) 2 rfl ?_
      refine wq_alen rfl hLf rfl ?_
      refine wq_gos (f := 1) (pc2 := 56) (ls2 := [(2, .ref rp), (0, .ref 74), (1, .int 0)]) (st2 := [.int ((2 : Int32) * (nI n9)), .int (nI al)]) (h2 := h) (dc2 := 0) (ds2 := 0) 1 rfl ?_
      refine wq_vi (show (2 : Int32) * (nI n9) = nI (2 * n9) from e_nmul 2 n9) ?_
      refine wq_inl (y2 := 284) (as := [.int (nI al), .int (nI (2 * n9))]) rfl rfl rfl (wq_T (c_max (nI al) (nI (2 * n9)) h) ?_)
      show wq 30 59 [(2, .ref rp), (0, .ref 74), (1, .int 0)] [.int (jmax (nI al) (nI (2 * n9)))] h 0 0 _
      refine wq_vi (show (jmax (nI al) (nI (2 * n9))) = nI (max al (2 * n9)) from jmax_n (a := al) (b := (2 * n9)) (by omega) (by omega)) ?_
      try have q15x := nI_toInt (n := (max al (2 * n9))) (by omega)
      refine wq_newin rfl (by omega) rfl ?_
      intro h16x e17x f18x l19x
      refine wq_gos (f := 1) (pc2 := 65) (ls2 := [(2, .ref (2 * h.length)), (0, .ref 74), (1, .int 0)]) (st2 := [.int 0, .ref (2 * h.length), .ref 74]) (h2 := h16x) (dc2 := (0 + 1)) (ds2 := (0 + (max al (2 * n9)))) 4 rfl ?_
      have hq0 := f18x.1
      have e20x := (f18x.2 _ _ wn0 hP)
      refine wq_inlv (y2 := 31) (as := [.ref (2 * h.length), .int 0]) rfl rfl rfl e20x rfl (wq_mono (c_fle0 (rl := (2 * h.length)) (n9 := (max al (2 * n9))) hra hsp hway (fun q hq => by obtain ⟨a1, a2, a3, a4⟩ := hto q hq; exact ⟨a1, a2, a3, by omega⟩) (by omega) (by omega) (fun w hw => by have := zat_lt (hHs w hw).2.2.1; omega) h1 (wAc_fr hAc f18x hra (by intro q hq; exact absurd hq List.not_mem_nil)) (wFr_at f18x List.not_mem_nil hV) (wHs_fr hHs f18x (by intro q hq; exact absurd hq List.not_mem_nil)) (wFr_at f18x List.not_mem_nil hF) e20x e17x) ?_)
      rintro _ ⟨h8, lf0, rfl, f8, l8, e8, r8, z8⟩
      show wq 30 68 [(2, .ref (2 * h.length)), (0, .ref 74), (1, .int 0)] [] h8 (0 + 1) (0 + (max al (2 * n9))) _
      refine wq_gos (f := 1) (pc2 := 87) (ls2 := [(2, .ref (2 * h.length)), (0, .ref 74), (1, .int 0)]) (st2 := [.ref (2 * h.length), .ref 74]) (h2 := h8) (dc2 := (0 + 1)) (ds2 := (0 + (max al (2 * n9)))) 4 rfl ?_
      refine wq_putf rfl e8 rfl rfl rfl ?_
      intro h21x e22x f23x l24x
      have e22x : zat h21x 74 = some (.inr (.inr (.inr (3, [.ref 44, .ref ra, .ref 76, .ref 78, .ref 80, .ref 88, .int wg, .int ob, .ref 96, .int (nI al), .int pr9, .int sr9, .ref (2 * h.length), .ref rs, .int ((foG0 sv to li (fun q => (wy.getD q 0).toNatClampNeg) S (so - 1) (lf0, fw)).2)])))) := e22x
      refine wq_gos (f := 1) (pc2 := 92) (ls2 := [(2, .ref (2 * h.length)), (0, .ref 74), (1, .int 0)]) (st2 := [.int 1, .ref 74]) (h2 := h21x) (dc2 := (0 + 1)) (ds2 := (0 + (max al (2 * n9)))) 2 rfl ?_
      refine wq_putf rfl e22x rfl rfl rfl ?_
      intro h25x e26x f27x l28x
      have e26x : zat h25x 74 = some (.inr (.inr (.inr (3, [.ref 44, .ref ra, .ref 76, .ref 78, .ref 80, .ref 88, .int wg, .int ob, .ref 96, .int (nI al), .int 1, .int sr9, .ref (2 * h.length), .ref rs, .int ((foG0 sv to li (fun q => (wy.getD q 0).toNatClampNeg) S (so - 1) (lf0, fw)).2)])))) := e26x
      refine wq_gos (f := 1) (pc2 := 96) (ls2 := [(2, .ref (2 * h.length)), (0, .ref 74), (1, .int 0)]) (st2 := [.ref (2 * h.length)]) (h2 := h25x) (dc2 := (0 + 1)) (ds2 := (0 + (max al (2 * n9)))) 1 rfl ?_
      have e29x := (f27x.2 _ _ (wnc (by omega) wn0) (f23x.2 _ _ (wnc (by omega) wn0) r8))
      exact wq_ret rfl rfl (kN h25x (2 * h.length) (max al (2 * n9)) ((foG0 sv to li (fun q => (wy.getD q 0).toNatClampNeg) S (so - 1) (lf0, fw)).1) ((foG0 sv to li (fun q => (wy.getD q 0).toNatClampNeg) S (so - 1) (lf0, fw)).2) (0 + 1) (0 + (max al (2 * n9))) (wFr_tr (wFr_tr (wFr_gen (wFr_tr (wFr_rf _ _) (wFr_sub f18x (by simp))) f8 (by intro q hq; simp only [List.mem_cons, List.not_mem_nil, or_false] at hq ⊢; omega)) (wFr_sub f23x (by simp))) (wFr_sub f27x (by simp))) (by omega) e26x e29x (by first | assumption | omega | decide | solve_by_elim) ⟨lf0, fw, z8, rfl⟩ (by omega) (by first | assumption | omega | decide | solve_by_elim) (by first | assumption | omega | decide | solve_by_elim) (by omega) (by omega))
  · have q30x : pr9.toInt ≠ 0 := fun q => b1x (Int32.toInt_inj.mp q)
    refine wq_gos (f := 1) (pc2 := 38) (ls2 := [(2, .ref rp), (0, .ref 74), (1, .int 0)]) (st2 := [.ref rp]) (h2 := h) (dc2 := 0) (ds2 := 0) 1 rfl ?_
    exact wq_ret rfl rfl (kR h (wFr_rf _ _) (by omega) (by first | assumption | omega | decide | solve_by_elim))
noncomputable def wLf1 (sv : List Int32) (to : Nat → Nat) (li : Nat → List Int64) (wy : List Int32) (S : Nat → Nat) (so n : Nat) (lf : List Int32) : Prop := ∃ lf0 fw0, (∀ j, j < n → lf0.getD j 0 = 0) ∧ lf = (foG1 sv to li (fun q => (wy.getD q 0).toNatClampNeg) S (so - 1) (lf0, fw0)).1
set_option maxRecDepth 100000 in
set_option maxHeartbeats 4000000 in
theorem c_lff1 {h : zH} {Q : zR → Prop} {ra sp so : Nat} {lk hd ht bl sd : Int32} {rt : Int64} {ll lg wy sv fi : List Int32} {po : List Int64} {rp rs al : Nat} {wg ob pr9 sr9 fw : Int32} {to rL cap : Nat → Nat} {kn ks fa : Nat → Int32} {hp : Nat → List Int32} {li : Nat → List Int64} {S : Nat → Nat} {n9 : Nat} {lf : List Int32} (hP : zat h 74 = some (.inr (.inr (.inr (3, [.ref 44, .ref ra, .ref 76, .ref 78, .ref 80, .ref 88, .int wg, .int ob, .ref 96, .int (nI al), .int pr9, .int sr9, .ref rp, .ref rs, .int fw]))))) (hLf : zat h rs = some (.inl (0, n9, lf))) (hra : ra = 6 ∨ ra = 20) (hsp : sp ≤ 8) (h1 : 1 ≤ so) (hway : wWay wy sp so) (hto : ∀ q, q < so → to ((wy.getD q 0).toNatClampNeg) ≤ 600 ∧ to ((wy.getD q 0).toNatClampNeg) ≤ cap ((wy.getD q 0).toNatClampNeg) ∧ fi.getD q 0 = nI (S q) ∧ S q + to ((wy.getD q 0).toNatClampNeg) ≤ al) (hal : al ≤ 6000 ∧ n9 ≤ 12000) (hrl : rs = 100 ∨ 234 ≤ rs) (hrn : ∀ w, w < 8 → rs ≠ rL w) (hlen : 117 ≤ h.length) (hAc : wAc h ra sp so lk hd ht bl sd rt ll lg wy po) (hV : zat h (ra + 6) = some (.inl (0, 6, sv))) (hHs : wHs h to rL cap kn ks fa hp li) (hF : zat h 96 = some (.inl (0, 10, fi))) (kR : ∀ (h2 : zH), (wFr [] h h2) → (h2.length = h.length) → (sr9 ≠ 0) → Q (some (.ref rs), h2, 0, 0)) (kN : ∀ (h2 : zH) (rl2 : Nat) (n2 : Nat) (lf2 : List Int32) (fw2 : Int32) (d9 s9 : Nat), (wFr [74, rs] h h2) → (h.length ≤ h2.length) → (zat h2 74 = some (.inr (.inr (.inr (3, [.ref 44, .ref ra, .ref 76, .ref 78, .ref 80, .ref 88, .int wg, .int ob, .ref 96, .int (nI al), .int pr9, .int (1 : Int32), .ref rp, .ref rl2, .int fw2]))))) → (zat h2 rl2 = some (.inl (0, n2, lf2))) → (sr9 = 0) → (wLf1 sv to li wy S so n2 lf2) → (al ≤ n2 ∧ n2 ≤ 12000) → (rl2 = rs ∨ 2 * h.length ≤ rl2) → (n9 ≤ n2) → (d9 + n9 ≤ n2) → (s9 + 2 * n9 ≤ 2 * n2) → Q (some (.ref rl2), h2, d9, s9)) : wq 30 0 [(0, .ref 74), (1, .int 1)] [] h 0 0 Q := by
  have qnal := nI_toInt (n := al) (by omega)
  have qnn9 := nI_toInt (n := n9) (by omega)
  have q2n := nI_toInt (n := 2 * n9) (by omega)
  have zp := zat_lt hP
  refine wq_gos (f := 1) (pc2 := 5) (ls2 := [(0, .ref 74), (1, .int 1)]) (st2 := [.ref 74]) (h2 := h) (dc2 := 0) (ds2 := 0) 3 rfl ?_
  refine wq_getf rfl hP rfl rfl ?_
  refine wq_gos (f := 1) (pc2 := 21) (ls2 := [(2, .ref rs), (0, .ref 74), (1, .int 1)]) (st2 := [.ref 74]) (h2 := h) (dc2 := 0) (ds2 := 0) 5 rfl ?_
  refine wq_getf rfl hP rfl rfl ?_
  refine wq_eq0 rfl rfl (fun b1x => ?_) (fun b1x => ?_)
  · have q2x : sr9.toInt = 0 := congrArg Int32.toInt b1x
    refine wq_gos (f := 1) (pc2 := 40) (ls2 := [(2, .ref rs), (0, .ref 74), (1, .int 1)]) (st2 := [.ref 74]) (h2 := h) (dc2 := 0) (ds2 := 0) 1 rfl ?_
    refine wq_getf rfl hP rfl rfl ?_
    refine wq_gos (f := 1) (pc2 := 44) (ls2 := [(2, .ref rs), (0, .ref 74), (1, .int 1)]) (st2 := [.ref rs, .int (nI al)]) (h2 := h) (dc2 := 0) (ds2 := 0) 1 rfl ?_
    refine wq_alen rfl hLf rfl ?_
    try have q3x := nI_toInt (n := al) (by omega)
    try have q4x := nI_toInt (n := n9) (by omega)
    refine wq_le2 rfl rfl (fun b5x => ?_) (fun b5x => ?_)
    · refine wq_gos (f := 1) (pc2 := 65) (ls2 := [(2, .ref rs), (0, .ref 74), (1, .int 1)]) (st2 := [.int 1, .ref rs, .ref 74]) (h2 := h) (dc2 := 0) (ds2 := 0) 3 rfl ?_
      refine wq_inlv (y2 := 31) (as := [.ref rs, .int 1]) rfl rfl rfl hP rfl (wq_mono (c_fle1 (rl := rs) (n9 := n9) hra hsp hway (fun q hq => by obtain ⟨a1, a2, a3, a4⟩ := hto q hq; exact ⟨a1, a2, a3, by omega⟩) (by omega) (by omega) hrn h1 hAc hV hHs hF hP hLf) ?_)
      rintro _ ⟨h8, lf0, rfl, f8, l8, e8, r8, z8⟩
      show wq 30 68 [(2, .ref rs), (0, .ref 74), (1, .int 1)] [] h8 0 0 _
      refine wq_gos (f := 1) (pc2 := 74) (ls2 := [(2, .ref rs), (0, .ref 74), (1, .int 1)]) (st2 := [.ref rs, .ref 74]) (h2 := h8) (dc2 := 0) (ds2 := 0) 4 rfl ?_
      refine wq_putf rfl e8 rfl rfl rfl ?_
      intro h6x e7x f8x l9x
      have e7x : zat h6x 74 = some (.inr (.inr (.inr (3, [.ref 44, .ref ra, .ref 76, .ref 78, .ref 80, .ref 88, .int wg, .int ob, .ref 96, .int (nI al), .int pr9, .int sr9, .ref rp, .ref rs, .int ((foG1 sv to li (fun q => (wy.getD q 0).toNatClampNeg) S (so - 1) (lf0, fw)).2)])))) := e7x
      refine wq_gos (f := 1) (pc2 := 79) (ls2 := [(2, .ref rs), (0, .ref 74), (1, .int 1)]) (st2 := [.int 1, .ref 74]) (h2 := h6x) (dc2 := 0) (ds2 := 0) 2 rfl ?_
      refine wq_putf rfl e7x rfl rfl rfl ?_
      intro h10x e11x f12x l13x
      have e11x : zat h10x 74 = some (.inr (.inr (.inr (3, [.ref 44, .ref ra, .ref 76, .ref 78, .ref 80, .ref 88, .int wg, .int ob, .ref 96, .int (nI al), .int pr9, .int 1, .ref rp, .ref rs, .int ((foG1 sv to li (fun q => (wy.getD q 0).toNatClampNeg) S (so - 1) (lf0, fw)).2)])))) := e11x
      refine wq_gos (f := 1) (pc2 := 96) (ls2 := [(2, .ref rs), (0, .ref 74), (1, .int 1)]) (st2 := [.ref rs]) (h2 := h10x) (dc2 := 0) (ds2 := 0) 2 rfl ?_
      have e14x := (f12x.2 _ _ (wnc (by omega) wn0) (f8x.2 _ _ (wnc (by omega) wn0) r8))
      exact wq_ret rfl rfl (kN h10x rs n9 ((foG1 sv to li (fun q => (wy.getD q 0).toNatClampNeg) S (so - 1) (lf0, fw)).1) ((foG1 sv to li (fun q => (wy.getD q 0).toNatClampNeg) S (so - 1) (lf0, fw)).2) 0 0 (wFr_tr (wFr_sub f8 (by simp)) (wFr_tr (wFr_sub f8x (by simp)) (wFr_sub f12x (by simp)))) (by omega) e11x e14x (by first | assumption | omega | decide | solve_by_elim) ⟨lf0, fw, z8, rfl⟩ (by omega) (by first | assumption | omega | decide | solve_by_elim) (by first | assumption | omega | decide | solve_by_elim) (by omega) (by omega))
    · refine wq_gos (f := 1) (pc2 := 49) (ls2 := [(2, .ref rs), (0, .ref 74), (1, .int 1)]) (st2 := [.ref 74]) (h2 := h) (dc2 := 0) (ds2 := 0) 1 rfl ?_
      refine wq_getf rfl hP rfl rfl ?_
      refine wq_gos (f := 1) (pc2 := 54) (ls2 := [(2, .ref rs), (0, .ref 74), (1, .int 1)]) (st2 := [.ref rs, .int 2, .int (nI al)]) (h2 := h) (dc2 := 0) (ds2 := 0) 2 rfl ?_
      refine wq_alen rfl hLf rfl ?_
      refine wq_gos (f := 1) (pc2 := 56) (ls2 := [(2, .ref rs), (0, .ref 74), (1, .int 1)]) (st2 := [.int ((2 : Int32) * (nI n9)), .int (nI al)]) (h2 := h) (dc2 := 0) (ds2 := 0) 1 rfl ?_
      refine wq_vi (show (2 : Int32) * (nI n9) = nI (2 * n9) from e_nmul 2 n9) ?_
      refine wq_inl (y2 := 284) (as := [.int (nI al), .int (nI (2 * n9))]) rfl rfl rfl (wq_T (c_max (nI al) (nI (2 * n9)) h) ?_)
      show wq 30 59 [(2, .ref rs), (0, .ref 74), (1, .int 1)] [.int (jmax (nI al) (nI (2 * n9)))] h 0 0 _
      refine wq_vi (show (jmax (nI al) (nI (2 * n9))) = nI (max al (2 * n9)) from jmax_n (a := al) (b := (2 * n9)) (by omega) (by omega)) ?_
      try have q15x := nI_toInt (n := (max al (2 * n9))) (by omega)
      refine wq_newin rfl (by omega) rfl ?_
      intro h16x e17x f18x l19x
      refine wq_gos (f := 1) (pc2 := 65) (ls2 := [(2, .ref (2 * h.length)), (0, .ref 74), (1, .int 1)]) (st2 := [.int 1, .ref (2 * h.length), .ref 74]) (h2 := h16x) (dc2 := (0 + 1)) (ds2 := (0 + (max al (2 * n9)))) 4 rfl ?_
      have hq0 := f18x.1
      have e20x := (f18x.2 _ _ wn0 hP)
      refine wq_inlv (y2 := 31) (as := [.ref (2 * h.length), .int 1]) rfl rfl rfl e20x rfl (wq_mono (c_fle1 (rl := (2 * h.length)) (n9 := (max al (2 * n9))) hra hsp hway (fun q hq => by obtain ⟨a1, a2, a3, a4⟩ := hto q hq; exact ⟨a1, a2, a3, by omega⟩) (by omega) (by omega) (fun w hw => by have := zat_lt (hHs w hw).2.2.1; omega) h1 (wAc_fr hAc f18x hra (by intro q hq; exact absurd hq List.not_mem_nil)) (wFr_at f18x List.not_mem_nil hV) (wHs_fr hHs f18x (by intro q hq; exact absurd hq List.not_mem_nil)) (wFr_at f18x List.not_mem_nil hF) e20x e17x) ?_)
      rintro _ ⟨h8, lf0, rfl, f8, l8, e8, r8, z8⟩
      show wq 30 68 [(2, .ref (2 * h.length)), (0, .ref 74), (1, .int 1)] [] h8 (0 + 1) (0 + (max al (2 * n9))) _
      refine wq_gos (f := 1) (pc2 := 74) (ls2 := [(2, .ref (2 * h.length)), (0, .ref 74), (1, .int 1)]) (st2 := [.ref (2 * h.length), .ref 74]) (h2 := h8) (dc2 := (0 + 1)) (ds2 := (0 + (max al (2 * n9)))) 4 rfl ?_
      refine wq_putf rfl e8 rfl rfl rfl ?_
      intro h21x e22x f23x l24x
      have e22x : zat h21x 74 = some (.inr (.inr (.inr (3, [.ref 44, .ref ra, .ref 76, .ref 78, .ref 80, .ref 88, .int wg, .int ob, .ref 96, .int (nI al), .int pr9, .int sr9, .ref rp, .ref (2 * h.length), .int ((foG1 sv to li (fun q => (wy.getD q 0).toNatClampNeg) S (so - 1) (lf0, fw)).2)])))) := e22x
      refine wq_gos (f := 1) (pc2 := 79) (ls2 := [(2, .ref (2 * h.length)), (0, .ref 74), (1, .int 1)]) (st2 := [.int 1, .ref 74]) (h2 := h21x) (dc2 := (0 + 1)) (ds2 := (0 + (max al (2 * n9)))) 2 rfl ?_
      refine wq_putf rfl e22x rfl rfl rfl ?_
      intro h25x e26x f27x l28x
      have e26x : zat h25x 74 = some (.inr (.inr (.inr (3, [.ref 44, .ref ra, .ref 76, .ref 78, .ref 80, .ref 88, .int wg, .int ob, .ref 96, .int (nI al), .int pr9, .int 1, .ref rp, .ref (2 * h.length), .int ((foG1 sv to li (fun q => (wy.getD q 0).toNatClampNeg) S (so - 1) (lf0, fw)).2)])))) := e26x
      refine wq_gos (f := 1) (pc2 := 96) (ls2 := [(2, .ref (2 * h.length)), (0, .ref 74), (1, .int 1)]) (st2 := [.ref (2 * h.length)]) (h2 := h25x) (dc2 := (0 + 1)) (ds2 := (0 + (max al (2 * n9)))) 2 rfl ?_
      have e29x := (f27x.2 _ _ (wnc (by omega) wn0) (f23x.2 _ _ (wnc (by omega) wn0) r8))
      exact wq_ret rfl rfl (kN h25x (2 * h.length) (max al (2 * n9)) ((foG1 sv to li (fun q => (wy.getD q 0).toNatClampNeg) S (so - 1) (lf0, fw)).1) ((foG1 sv to li (fun q => (wy.getD q 0).toNatClampNeg) S (so - 1) (lf0, fw)).2) (0 + 1) (0 + (max al (2 * n9))) (wFr_tr (wFr_tr (wFr_gen (wFr_tr (wFr_rf _ _) (wFr_sub f18x (by simp))) f8 (by intro q hq; simp only [List.mem_cons, List.not_mem_nil, or_false] at hq ⊢; omega)) (wFr_sub f23x (by simp))) (wFr_sub f27x (by simp))) (by omega) e26x e29x (by first | assumption | omega | decide | solve_by_elim) ⟨lf0, fw, z8, rfl⟩ (by omega) (by first | assumption | omega | decide | solve_by_elim) (by first | assumption | omega | decide | solve_by_elim) (by omega) (by omega))
  · have q30x : sr9.toInt ≠ 0 := fun q => b1x (Int32.toInt_inj.mp q)
    refine wq_gos (f := 1) (pc2 := 38) (ls2 := [(2, .ref rs), (0, .ref 74), (1, .int 1)]) (st2 := [.ref rs]) (h2 := h) (dc2 := 0) (ds2 := 0) 2 rfl ?_
    exact wq_ret rfl rfl (kR h (wFr_rf _ _) (by omega) (by first | assumption | omega | decide | solve_by_elim))
