/-! The class: what is left from each solution on. -/
noncomputable def pnR0 (sv : List Int32) (li : List Int64) (lf : List Int32) (f0 to : Nat) (fr : Int64) : Int32 × Int32 := pnF0 sv li lf f0 to fr (to - 0 + 1) (-1) 0 1000000
theorem pnF0_r (sv : List Int32) (li : List Int64) (lf : List Int32) (f0 to : Nat) (fr : Int64) (hto : to ≤ 600) : ∀ (m : Nat) (pk : Int32) (k : Nat) (fw : Int32), (pk = -1 ∨ ∃ q, pk = nI q ∧ q < to) → k ≤ to → to - k < m → (pnF0 sv li lf f0 to fr m pk k fw).1 = -1 ∨ ∃ q, (pnF0 sv li lf f0 to fr m pk k fw).1 = nI q ∧ q < to := by
  intro m
  induction m with
  | zero => intro pk k fw h1 h2 h3; omega
  | succ m ih =>
    intro pk k fw h1 h2 h3
    unfold pnF0
    have q1 := nI_toInt (n := k) (by omega)
    have q2 := nI_toInt (n := to) (by omega)
    by_cases c1 : (nI to).toInt ≤ (nI k).toInt
    · rw [if_pos c1]; exact h1
    · rw [if_neg c1]
      have hk : k < to := by omega
      split
      · exact ih _ _ _ h1 (by omega) (by omega)
      · split
        · exact ih _ _ _ h1 (by omega) (by omega)
        · exact ih _ _ _ (Or.inr ⟨k, rfl, hk⟩) (by omega) (by omega)
theorem pnR0_r {sv : List Int32} {li : List Int64} {lf : List Int32} {f0 to : Nat} {fr : Int64} (hto : to ≤ 600) : (pnR0 sv li lf f0 to fr).1.toInt = -1 ∨ (0 ≤ (pnR0 sv li lf f0 to fr).1.toInt ∧ (pnR0 sv li lf f0 to fr).1.toInt < to) := by
  have z1 : (-1 : Int32).toInt = -1 := rfl
  have h : (pnR0 sv li lf f0 to fr).1 = -1 ∨ ∃ q, (pnR0 sv li lf f0 to fr).1 = nI q ∧ q < to := by
    unfold pnR0
    exact pnF0_r sv li lf f0 to fr hto _ _ _ _ (Or.inl rfl) (by omega) (by omega)
  rcases h with h | ⟨q, h, hq⟩
  · rw [h]; exact Or.inl rfl
  · rw [h, nI_toInt (by omega)]; right; omega
theorem c_pq0 {h : zH} {rp rs al : Nat} {wg ob pr9 sr9 : Int32} {ra : Nat} {lk hd ht bl sd sp so : Int32} {rt : Int64} {w to rL cap : Nat} {hkn hks hfa : Int32} {li : List Int64} {rl n9 i f0 : Nat} {wy sv fi lf : List Int32} {fr : Int64} {fw : Int32} (hP : zat h 74 = some (.inr (.inr (.inr (3, [.ref 44, .ref ra, .ref 76, .ref 78, .ref 80, .ref 88, .int wg, .int ob, .ref 96, .int (nI al), .int pr9, .int sr9, .ref rp, .ref rs, .int fw]))))) (hH : zat h 78 = some (.inr (.inr (.inl (8, [some 102, some 108, some 114, some 120, some 126, some 132, some 138, some 144]))))) (hA : zat h ra = some (.inr (.inr (.inr (0, [.int lk, .int hd, .int ht, .int bl, .int sd, .long rt, .ref (ra + 2), .ref (ra + 4), .ref (ra + 6), .int sp, .ref (ra + 8), .ref (ra + 10), .int so, .ref (ra + 12)]))))) (hW : zat h (ra + 12) = some (.inl (0, 10, wy))) (hV : zat h (ra + 6) = some (.inl (0, 6, sv))) (hE : zat h (102 + 6 * w) = some (.inr (.inr (.inr (1, [.int hkn, .int (nI to), .ref rL, .ref (102 + 6 * w + 4), .int hks, .int hfa]))))) (hI : zat h rL = some (.inr (.inl (cap, li)))) (hF : zat h 96 = some (.inl (0, 10, fi))) (hLf : zat h rl = some (.inl (0, n9, lf))) (hw : wy.getD i 0 = nI w ∧ fi.getD i 0 = nI f0) (hb : w < 8 ∧ i < 10 ∧ f0 + to ≤ n9 ∧ n9 ≤ 20000 ∧ to ≤ cap ∧ cap ≤ 600) (hra : ra = 6 ∨ ra = 20) (hne : (rl = 98 ∨ rl = 100 ∨ 234 ≤ rl) ∧ (rL = 104 + 6 * w ∨ 234 ≤ rL)) : wq 32 0 [(0, .ref 74), (1, .long fr), (3, .int (nI i)), (4, .ref rl), (5, .int 0)] [] h 0 0 (fun rr9 => ∃ (h2 : zH), rr9 = (some (.int ((pnR0 sv li lf f0 to fr).1)), h2, 0, 0) ∧ wFr [74] h h2 ∧ h2.length = h.length ∧ zat h2 74 = some (.inr (.inr (.inr (3, [.ref 44, .ref ra, .ref 76, .ref 78, .ref 80, .ref 88, .int wg, .int ob, .ref 96, .int (nI al), .int pr9, .int sr9, .ref rp, .ref rs, .int ((pnR0 sv li lf f0 to fr).2)])))) ∧ (((pnR0 sv li lf f0 to fr).1).toInt = -1 ∨ (0 ≤ ((pnR0 sv li lf f0 to fr).1).toInt ∧ ((pnR0 sv li lf f0 to fr).1).toInt < to))) := by
  refine wq_mono (c_pn0 hP hH hA hW hV hE hI hF hLf hw hb hra hne) ?_
  rintro _ ⟨h2, pk, fw2, rfl, a, b, c, d⟩
  have d2 : (pk, fw2) = (pnR0 sv li lf f0 to fr) := d
  have e1 : (pnR0 sv li lf f0 to fr).1 = pk := by rw [← d2]
  have e2 : (pnR0 sv li lf f0 to fr).2 = fw2 := by rw [← d2]
  exact ⟨h2, by rw [e1], a, b, by rw [e2]; exact c, pnR0_r (by omega)⟩
noncomputable def pnR1 (sv : List Int32) (li : List Int64) (lf : List Int32) (f0 to : Nat) (fr : Int64) : Int32 × Int32 := if jkind fr = 0 then (-1, 1000000) else pnF1 sv li lf f0 to fr (jkind fr) (to - 0 + 1) (-1) 0 1000000
theorem pnF1_r (sv : List Int32) (li : List Int64) (lf : List Int32) (f0 to : Nat) (fr : Int64) (kd : Int32) (hto : to ≤ 600) : ∀ (m : Nat) (pk : Int32) (k : Nat) (fw : Int32), (pk = -1 ∨ ∃ q, pk = nI q ∧ q < to) → k ≤ to → to - k < m → (pnF1 sv li lf f0 to fr kd m pk k fw).1 = -1 ∨ ∃ q, (pnF1 sv li lf f0 to fr kd m pk k fw).1 = nI q ∧ q < to := by
  intro m
  induction m with
  | zero => intro pk k fw h1 h2 h3; omega
  | succ m ih =>
    intro pk k fw h1 h2 h3
    unfold pnF1
    have q1 := nI_toInt (n := k) (by omega)
    have q2 := nI_toInt (n := to) (by omega)
    by_cases c1 : (nI to).toInt ≤ (nI k).toInt
    · rw [if_pos c1]; exact h1
    · rw [if_neg c1]
      have hk : k < to := by omega
      split
      · exact ih _ _ _ h1 (by omega) (by omega)
      · split
        · split
          · exact ih _ _ _ h1 (by omega) (by omega)
          · exact ih _ _ _ (Or.inr ⟨k, rfl, hk⟩) (by omega) (by omega)
        · exact ih _ _ _ h1 (by omega) (by omega)
theorem pnR1_r {sv : List Int32} {li : List Int64} {lf : List Int32} {f0 to : Nat} {fr : Int64} (hto : to ≤ 600) : (pnR1 sv li lf f0 to fr).1.toInt = -1 ∨ (0 ≤ (pnR1 sv li lf f0 to fr).1.toInt ∧ (pnR1 sv li lf f0 to fr).1.toInt < to) := by
  have z1 : (-1 : Int32).toInt = -1 := rfl
  have h : (pnR1 sv li lf f0 to fr).1 = -1 ∨ ∃ q, (pnR1 sv li lf f0 to fr).1 = nI q ∧ q < to := by
    unfold pnR1
    split
    · exact Or.inl rfl
    · exact pnF1_r sv li lf f0 to fr _ hto _ _ _ _ (Or.inl rfl) (by omega) (by omega)
  rcases h with h | ⟨q, h, hq⟩
  · rw [h]; exact Or.inl rfl
  · rw [h, nI_toInt (by omega)]; right; omega
theorem c_pq1 {h : zH} {rp rs al : Nat} {wg ob pr9 sr9 : Int32} {ra : Nat} {lk hd ht bl sd sp so : Int32} {rt : Int64} {w to rL cap : Nat} {hkn hks hfa : Int32} {li : List Int64} {rl n9 i f0 : Nat} {wy sv fi lf : List Int32} {fr : Int64} {fw : Int32} (hP : zat h 74 = some (.inr (.inr (.inr (3, [.ref 44, .ref ra, .ref 76, .ref 78, .ref 80, .ref 88, .int wg, .int ob, .ref 96, .int (nI al), .int pr9, .int sr9, .ref rp, .ref rs, .int fw]))))) (hH : zat h 78 = some (.inr (.inr (.inl (8, [some 102, some 108, some 114, some 120, some 126, some 132, some 138, some 144]))))) (hA : zat h ra = some (.inr (.inr (.inr (0, [.int lk, .int hd, .int ht, .int bl, .int sd, .long rt, .ref (ra + 2), .ref (ra + 4), .ref (ra + 6), .int sp, .ref (ra + 8), .ref (ra + 10), .int so, .ref (ra + 12)]))))) (hW : zat h (ra + 12) = some (.inl (0, 10, wy))) (hV : zat h (ra + 6) = some (.inl (0, 6, sv))) (hE : zat h (102 + 6 * w) = some (.inr (.inr (.inr (1, [.int hkn, .int (nI to), .ref rL, .ref (102 + 6 * w + 4), .int hks, .int hfa]))))) (hI : zat h rL = some (.inr (.inl (cap, li)))) (hF : zat h 96 = some (.inl (0, 10, fi))) (hLf : zat h rl = some (.inl (0, n9, lf))) (hw : wy.getD i 0 = nI w ∧ fi.getD i 0 = nI f0) (hb : w < 8 ∧ i < 10 ∧ f0 + to ≤ n9 ∧ n9 ≤ 20000 ∧ to ≤ cap ∧ cap ≤ 600) (hra : ra = 6 ∨ ra = 20) (hne : (rl = 98 ∨ rl = 100 ∨ 234 ≤ rl) ∧ (rL = 104 + 6 * w ∨ 234 ≤ rL)) : wq 32 0 [(0, .ref 74), (1, .long fr), (3, .int (nI i)), (4, .ref rl), (5, .int 1)] [] h 0 0 (fun rr9 => ∃ (h2 : zH), rr9 = (some (.int ((pnR1 sv li lf f0 to fr).1)), h2, 0, 0) ∧ wFr [74] h h2 ∧ h2.length = h.length ∧ zat h2 74 = some (.inr (.inr (.inr (3, [.ref 44, .ref ra, .ref 76, .ref 78, .ref 80, .ref 88, .int wg, .int ob, .ref 96, .int (nI al), .int pr9, .int sr9, .ref rp, .ref rs, .int ((pnR1 sv li lf f0 to fr).2)])))) ∧ (((pnR1 sv li lf f0 to fr).1).toInt = -1 ∨ (0 ≤ ((pnR1 sv li lf f0 to fr).1).toInt ∧ ((pnR1 sv li lf f0 to fr).1).toInt < to))) := by
  refine wq_mono (c_pn1 hP hH hA hW hV hE hI hF hLf hw hb hra hne) ?_
  rintro _ ⟨h2, pk, fw2, rfl, a, b, c, d⟩
  have d2 : (pk, fw2) = (pnR1 sv li lf f0 to fr) := d
  have e1 : (pnR1 sv li lf f0 to fr).1 = pk := by rw [← d2]
  have e2 : (pnR1 sv li lf f0 to fr).2 = fw2 := by rw [← d2]
  exact ⟨h2, by rw [e1], a, b, by rw [e2]; exact c, pnR1_r (by omega)⟩
noncomputable def fiI0 (sv : List Int32) (li li2 : List Int64) (f0 f2 to to2 : Nat) : Nat → Nat → List Int32 → Int32 → List Int32 × Int32
  | 0, _, lf, fw => (lf, fw)
  | m + 1, k, lf, fw => (if (nI to).toInt ≤ (nI k).toInt then (lf, fw) else (zlet (pnR0 sv li2 lf f2 to2 (li.getD k 0)) (fun v7x => (fiI0 sv li li2 f0 f2 to to2 m (k + 1) (zset 0 lf (f0 + k) (v7x.2)) (v7x.2)))))
set_option maxRecDepth 100000 in
set_option maxHeartbeats 4000000 in
theorem c_fiI0 {ra sp so : Nat} {lk hd ht bl sd : Int32} {rt : Int64} {rp rs al : Nat} {wg ob pr9 sr9 : Int32} {w to rL cap w2 to2 rL2 cap2 : Nat} {hkn hks hfa hkn2 hks2 hfa2 : Int32} {li li2 : List Int64} {rl n9 i f0 f2 : Nat} {wy sv fi : List Int32} (hw : wy.getD i 0 = nI w ∧ fi.getD i 0 = nI f0) (hw2 : wy.getD (i + 1) 0 = nI w2 ∧ fi.getD (i + 1) 0 = nI f2) (hb : w < 8 ∧ w2 < 8 ∧ i + 1 < 10 ∧ f0 + to ≤ n9 ∧ f2 + to2 ≤ n9 ∧ n9 ≤ 20000 ∧ to ≤ cap ∧ cap ≤ 600 ∧ to2 ≤ cap2 ∧ cap2 ≤ 600) (hra : ra = 6 ∨ ra = 20) (hne : (rl = 98 ∨ rl = 100 ∨ 234 ≤ rl) ∧ (rL = 104 + 6 * w ∨ 234 ≤ rL) ∧ (rL2 = 104 + 6 * w2 ∨ 234 ≤ rL2) ∧ rl ≠ rL ∧ rl ≠ rL2) {dc ds : Nat} {Q : zR → Prop} : ∀ (m : Nat) (k : Nat) (lf : List Int32) (fw : Int32) (h : zH) , (zat h 74 = some (.inr (.inr (.inr (3, [.ref 44, .ref ra, .ref 76, .ref 78, .ref 80, .ref 88, .int wg, .int ob, .ref 96, .int (nI al), .int pr9, .int sr9, .ref rp, .ref rs, .int fw]))))) → (zat h 78 = some (.inr (.inr (.inl (8, [some 102, some 108, some 114, some 120, some 126, some 132, some 138, some 144]))))) → (zat h ra = some (.inr (.inr (.inr (0, [.int lk, .int hd, .int ht, .int bl, .int sd, .long rt, .ref (ra + 2), .ref (ra + 4), .ref (ra + 6), .int (nI sp), .ref (ra + 8), .ref (ra + 10), .int (nI so), .ref (ra + 12)]))))) → (zat h (ra + 12) = some (.inl (0, 10, wy))) → (zat h (ra + 6) = some (.inl (0, 6, sv))) → (zat h (102 + 6 * w) = some (.inr (.inr (.inr (1, [.int hkn, .int (nI to), .ref rL, .ref (102 + 6 * w + 4), .int hks, .int hfa]))))) → (zat h rL = some (.inr (.inl (cap, li)))) → (zat h (102 + 6 * w2) = some (.inr (.inr (.inr (1, [.int hkn2, .int (nI to2), .ref rL2, .ref (102 + 6 * w2 + 4), .int hks2, .int hfa2]))))) → (zat h rL2 = some (.inr (.inl (cap2, li2)))) → (zat h 96 = some (.inl (0, 10, fi))) → (zat h rl = some (.inl (0, n9, lf))) → (k ≤ to) → (to - k) < m → (∀ (h2 : zH) , (wFr [74, rl] h h2) → (h2.length = h.length) → (zat h2 74 = some (.inr (.inr (.inr (3, [.ref 44, .ref ra, .ref 76, .ref 78, .ref 80, .ref 88, .int wg, .int ob, .ref 96, .int (nI al), .int pr9, .int sr9, .ref rp, .ref rs, .int ((fiI0 sv li li2 f0 f2 to to2 m k lf fw).2)]))))) → (zat h2 rl = some (.inl (0, n9, ((fiI0 sv li li2 f0 f2 to to2 m k lf fw).1)))) → wq 31 87 [(0, .ref 74), (1, .ref rl), (2, .int 0), (3, .int (nI i))] [] h2 dc ds Q) → wq 31 38 [(0, .ref 74), (1, .ref rl), (2, .int 0), (3, .int (nI i)), (4, .ref (102 + 6 * w)), (5, .int (nI k))] [] h dc ds Q := by
  intro m
  induction m with
  | zero => intro k lf fw h hP hH hA hW hV hE hI hE2 hI2 hF hLf hk hms kk; omega
  | succ m ih =>
    intro k lf fw h hP hH hA hW hV hE hI hE2 hI2 hF hLf hk hms kk
    have qni := nI_toInt (n := i) (by omega)
    have qnk := nI_toInt (n := k) (by omega)
    have qnto := nI_toInt (n := to) (by omega)
    refine wq_gos (f := 1) (pc2 := 42) (ls2 := [(0, .ref 74), (1, .ref rl), (2, .int 0), (3, .int (nI i)), (4, .ref (102 + 6 * w)), (5, .int (nI k))]) (st2 := [.ref (102 + 6 * w), .int (nI k)]) (h2 := h) (dc2 := dc) (ds2 := ds) 2 rfl ?_
    refine wq_getf rfl hE rfl rfl ?_
    try have q1x := nI_toInt (n := k) (by omega)
    try have q2x := nI_toInt (n := to) (by omega)
    refine wq_ge2 rfl rfl (fun b3x => ?_) (fun b3x => ?_)
    · have hx : (fiI0 sv li li2 f0 f2 to to2 (m + 1) k lf fw) = (lf, fw) := by show (if _ then _ else _) = _; rw [if_pos b3x]
      rw [hx] at kk
      refine wq_ls [(0, .ref 74), (1, .ref rl), (2, .int 0), (3, .int (nI i))] (show ([0, 1, 2, 3] : List Nat).Nodup by decide) ⟨rfl, rfl, rfl, rfl, trivial⟩ ?_
      exact kk h (wFr_rf _ _) (by omega) hP hLf
    · refine wq_gos (f := 1) (pc2 := 51) (ls2 := [(0, .ref 74), (1, .ref rl), (2, .int 0), (3, .int (nI i)), (4, .ref (102 + 6 * w)), (5, .int (nI k))]) (st2 := [.ref (102 + 6 * w), .ref 74]) (h2 := h) (dc2 := dc) (ds2 := ds) 2 rfl ?_
      refine wq_getf rfl hE rfl rfl ?_
      refine wq_gos (f := 1) (pc2 := 56) (ls2 := [(0, .ref 74), (1, .ref rl), (2, .int 0), (3, .int (nI i)), (4, .ref (102 + 6 * w)), (5, .int (nI k))]) (st2 := [.int (nI k), .ref rL, .ref 74]) (h2 := h) (dc2 := dc) (ds2 := ds) 1 rfl ?_
      refine wq_laldn rfl hI (by first | omega | exact zin_t (by omega) (by omega)) (by omega) rfl ?_
      refine wq_gos (f := 1) (pc2 := 60) (ls2 := [(0, .ref 74), (1, .ref rl), (2, .int 0), (3, .int (nI i)), (4, .ref (102 + 6 * w)), (5, .int (nI k))]) (st2 := [.int ((nI i) + (1 : Int32)), .long (li.getD k 0), .ref 74]) (h2 := h) (dc2 := dc) (ds2 := ds) 3 rfl ?_
      refine wq_vi (show (nI i) + (1 : Int32) = nI (i + 1) from nI_add i 1) ?_
      refine wq_gos (f := 1) (pc2 := 62) (ls2 := [(0, .ref 74), (1, .ref rl), (2, .int 0), (3, .int (nI i)), (4, .ref (102 + 6 * w)), (5, .int (nI k))]) (st2 := [.int 0, .ref rl, .int (nI (i + 1)), .long (li.getD k 0), .ref 74]) (h2 := h) (dc2 := dc) (ds2 := ds) 2 rfl ?_
      try have q4x := nI_toInt (n := (i + 1)) (by omega)
      have q5x : (0 : Int32).toInt = 0 := rfl
      refine wq_inlv (y2 := 32) (as := [.long (li.getD k 0), .int (nI (i + 1)), .ref rl, .int 0]) rfl rfl rfl hP rfl (wq_mono (c_pq0 hP hH hA hW hV hE2 hI2 hF hLf hw2 ⟨by omega, by omega, by omega, by omega, by omega, by omega⟩ (by first | omega | assumption | decide | solve_by_elim) ⟨by omega, by omega⟩) ?_)
      rintro _ ⟨h86x, rfl, f86x, l86x, c06x, p06x⟩
      show wq 31 65 [(0, .ref 74), (1, .ref rl), (2, .int 0), (3, .int (nI i)), (4, .ref (102 + 6 * w)), (5, .int (nI k))] [.int ((pnR0 sv li2 lf f2 to2 (li.getD k 0)).1)] h86x dc ds _
      obtain ⟨v7x, hv8x⟩ : ∃ x, x = (pnR0 sv li2 lf f2 to2 (li.getD k 0)) := ⟨_, rfl⟩
      try rw [← hv8x] at c06x
      try rw [← hv8x] at p06x
      try rw [← hv8x]
      refine wq_gos (f := 1) (pc2 := 68) (ls2 := [(0, .ref 74), (1, .ref rl), (2, .int 0), (3, .int (nI i)), (4, .ref (102 + 6 * w)), (5, .int (nI k))]) (st2 := [.ref 74, .ref rl]) (h2 := h86x) (dc2 := dc) (ds2 := ds) 3 rfl ?_
      refine wq_getf rfl c06x rfl rfl ?_
      refine wq_gos (f := 1) (pc2 := 72) (ls2 := [(0, .ref 74), (1, .ref rl), (2, .int 0), (3, .int (nI i)), (4, .ref (102 + 6 * w)), (5, .int (nI k))]) (st2 := [.int (nI i), .ref 96, .ref rl]) (h2 := h86x) (dc2 := dc) (ds2 := ds) 1 rfl ?_
      have e9x := (f86x.2 _ _ (wnc (by decide) wn0) hF)
      try have q10x := nI_toInt (n := i) (by omega)
      refine wq_ialdn rfl e9x (by first | omega | exact zin_t (by omega) (by omega)) (by decide) rfl ?_
      refine wq_vi hw.2 ?_
      refine wq_gos (f := 1) (pc2 := 76) (ls2 := [(0, .ref 74), (1, .ref rl), (2, .int 0), (3, .int (nI i)), (4, .ref (102 + 6 * w)), (5, .int (nI k))]) (st2 := [.int ((nI f0) + (nI k)), .ref rl]) (h2 := h86x) (dc2 := dc) (ds2 := ds) 2 rfl ?_
      refine wq_vi (show (nI f0) + (nI k) = nI (f0 + k) from nI_add f0 k) ?_
      refine wq_gos (f := 1) (pc2 := 77) (ls2 := [(0, .ref 74), (1, .ref rl), (2, .int 0), (3, .int (nI i)), (4, .ref (102 + 6 * w)), (5, .int (nI k))]) (st2 := [.ref 74, .int (nI (f0 + k)), .ref rl]) (h2 := h86x) (dc2 := dc) (ds2 := ds) 1 rfl ?_
      refine wq_getf rfl c06x rfl rfl ?_
      have e11x := (f86x.2 _ _ (wnc (by omega) wn0) hLf)
      try have q12x := nI_toInt (n := (f0 + k)) (by omega)
      refine wq_iastn rfl e11x (by first | omega | exact zin_t (by omega) (by omega)) (by omega) rfl ?_
      intro h13x e14x f15x l16x
      have e14x : zat h13x rl = some (.inl (0, n9, (zset 0 lf (f0 + k) (v7x.2)))) := e14x
      refine wq_gos (f := 1) (pc2 := 84) (ls2 := [(5, .int ((nI k) + 1)), (0, .ref 74), (1, .ref rl), (2, .int 0), (3, .int (nI i)), (4, .ref (102 + 6 * w))]) (st2 := []) (h2 := h13x) (dc2 := dc) (ds2 := ds) 1 rfl ?_
      rw [nI_1]
      refine wq_gos (f := 1) (pc2 := 38) (ls2 := [(5, .int (nI (k + 1))), (0, .ref 74), (1, .ref rl), (2, .int 0), (3, .int (nI i)), (4, .ref (102 + 6 * w))]) (st2 := []) (h2 := h13x) (dc2 := dc) (ds2 := ds) 1 rfl ?_
      try have q17x := nI_toInt (n := (k + 1)) (by omega)
      have e18x := (f15x.2 _ _ (wnc (by omega) wn0) c06x)
      have e19x := (f15x.2 _ _ (wnc (by omega) wn0) (f86x.2 _ _ (wnc (by decide) wn0) hH))
      have e20x := (f15x.2 _ _ (wnc (by omega) wn0) (f86x.2 _ _ (wnc (by omega) wn0) hA))
      have e21x := (f15x.2 _ _ (wnc (by omega) wn0) (f86x.2 _ _ (wnc (by omega) wn0) hW))
      have e22x := (f15x.2 _ _ (wnc (by omega) wn0) (f86x.2 _ _ (wnc (by omega) wn0) hV))
      have e23x := (f15x.2 _ _ (wnc (by omega) wn0) (f86x.2 _ _ (wnc (by omega) wn0) hE))
      have e24x := (f15x.2 _ _ (wnc (by omega) wn0) (f86x.2 _ _ (wnc (by omega) wn0) hI))
      have e25x := (f15x.2 _ _ (wnc (by omega) wn0) (f86x.2 _ _ (wnc (by omega) wn0) hE2))
      have e26x := (f15x.2 _ _ (wnc (by omega) wn0) (f86x.2 _ _ (wnc (by omega) wn0) hI2))
      have e27x := (f15x.2 _ _ (wnc (by omega) wn0) e9x)
      have hx : (fiI0 sv li li2 f0 f2 to to2 (m + 1) k lf fw) = (fiI0 sv li li2 f0 f2 to to2 m (k + 1) (zset 0 lf (f0 + k) (v7x.2)) (v7x.2)) := by show (if _ then _ else _) = _; rw [if_neg (Int.not_le.mpr b3x), zlet_eq hv8x]
      rw [hx] at kk
      refine wq_ls [(0, .ref 74), (1, .ref rl), (2, .int 0), (3, .int (nI i)), (4, .ref (102 + 6 * w)), (5, .int (nI (k + 1)))] (show ([0, 1, 2, 3, 4, 5] : List Nat).Nodup by decide) ⟨rfl, rfl, rfl, rfl, rfl, rfl, trivial⟩ ?_
      exact ih (k + 1) (zset 0 lf (f0 + k) (v7x.2)) (v7x.2) h13x e18x e19x e20x e21x e22x e23x e24x e25x e26x e27x e14x (by first | omega | assumption | decide | solve_by_elim) (by omega) (fun h9 f9 l9 y0 y1 => kk h9 (wFr_tr (wFr_tr (wFr_sub f86x (by simp)) (wFr_sub f15x (by simp))) f9) (by omega) y0 y1)
set_option maxRecDepth 100000 in
set_option maxHeartbeats 4000000 in
theorem c_fo10 {h : zH} {Q : zR → Prop} {dc ds : Nat} {ra sp so : Nat} {lk hd ht bl sd : Int32} {rt : Int64} {rp rs al : Nat} {wg ob pr9 sr9 : Int32} {w to rL cap w2 to2 rL2 cap2 : Nat} {hkn hks hfa hkn2 hks2 hfa2 : Int32} {li li2 : List Int64} {rl n9 i f0 f2 : Nat} {wy sv fi : List Int32} {lf : List Int32} {fw : Int32} (hP : zat h 74 = some (.inr (.inr (.inr (3, [.ref 44, .ref ra, .ref 76, .ref 78, .ref 80, .ref 88, .int wg, .int ob, .ref 96, .int (nI al), .int pr9, .int sr9, .ref rp, .ref rs, .int fw]))))) (hH : zat h 78 = some (.inr (.inr (.inl (8, [some 102, some 108, some 114, some 120, some 126, some 132, some 138, some 144]))))) (hA : zat h ra = some (.inr (.inr (.inr (0, [.int lk, .int hd, .int ht, .int bl, .int sd, .long rt, .ref (ra + 2), .ref (ra + 4), .ref (ra + 6), .int (nI sp), .ref (ra + 8), .ref (ra + 10), .int (nI so), .ref (ra + 12)]))))) (hW : zat h (ra + 12) = some (.inl (0, 10, wy))) (hV : zat h (ra + 6) = some (.inl (0, 6, sv))) (hE : zat h (102 + 6 * w) = some (.inr (.inr (.inr (1, [.int hkn, .int (nI to), .ref rL, .ref (102 + 6 * w + 4), .int hks, .int hfa]))))) (hI : zat h rL = some (.inr (.inl (cap, li)))) (hE2 : zat h (102 + 6 * w2) = some (.inr (.inr (.inr (1, [.int hkn2, .int (nI to2), .ref rL2, .ref (102 + 6 * w2 + 4), .int hks2, .int hfa2]))))) (hI2 : zat h rL2 = some (.inr (.inl (cap2, li2)))) (hF : zat h 96 = some (.inl (0, 10, fi))) (hLf : zat h rl = some (.inl (0, n9, lf))) (hw : wy.getD i 0 = nI w ∧ fi.getD i 0 = nI f0) (hw2 : wy.getD (i + 1) 0 = nI w2 ∧ fi.getD (i + 1) 0 = nI f2) (hb : w < 8 ∧ w2 < 8 ∧ i + 1 < 10 ∧ f0 + to ≤ n9 ∧ f2 + to2 ≤ n9 ∧ n9 ≤ 20000 ∧ to ≤ cap ∧ cap ≤ 600 ∧ to2 ≤ cap2 ∧ cap2 ≤ 600) (hra : ra = 6 ∨ ra = 20) (hne : (rl = 98 ∨ rl = 100 ∨ 234 ≤ rl) ∧ (rL = 104 + 6 * w ∨ 234 ≤ rL) ∧ (rL2 = 104 + 6 * w2 ∨ 234 ≤ rL2) ∧ rl ≠ rL ∧ rl ≠ rL2) (kE : ∀ (h2 : zH), (wFr [74, rl] h h2) → (h2.length = h.length) → (zat h2 74 = some (.inr (.inr (.inr (3, [.ref 44, .ref ra, .ref 76, .ref 78, .ref 80, .ref 88, .int wg, .int ob, .ref 96, .int (nI al), .int pr9, .int sr9, .ref rp, .ref rs, .int ((fiI0 sv li li2 f0 f2 to to2 (to - 0 + 1) 0 lf fw).2)]))))) → (zat h2 rl = some (.inl (0, n9, ((fiI0 sv li li2 f0 f2 to to2 (to - 0 + 1) 0 lf fw).1)))) → wq 31 15 [(0, .ref 74), (1, .ref rl), (2, .int 0), (3, .int ((nI i) + (-1 : Int32)))] [] h2 dc ds Q) : wq 31 15 [(0, .ref 74), (1, .ref rl), (2, .int 0), (3, .int (nI i))] [] h dc ds Q := by
  have qni := nI_toInt (n := i) (by omega)
  have z0 : (0 : Int32).toInt = 0 := rfl
  have z1 : (1 : Int32).toInt = 1 := rfl
  refine wq_gos (f := 1) (pc2 := 16) (ls2 := [(0, .ref 74), (1, .ref rl), (2, .int 0), (3, .int (nI i))]) (st2 := [.int (nI i)]) (h2 := h) (dc2 := dc) (ds2 := ds) 1 rfl ?_
  try have q1x := nI_toInt (n := i) (by omega)
  refine wq_lt0f rfl rfl (by omega) ?_
  refine wq_gos (f := 1) (pc2 := 20) (ls2 := [(0, .ref 74), (1, .ref rl), (2, .int 0), (3, .int (nI i))]) (st2 := [.ref 74]) (h2 := h) (dc2 := dc) (ds2 := ds) 1 rfl ?_
  refine wq_getf rfl hP rfl rfl ?_
  refine wq_gos (f := 1) (pc2 := 24) (ls2 := [(0, .ref 74), (1, .ref rl), (2, .int 0), (3, .int (nI i))]) (st2 := [.ref 74, .ref 78]) (h2 := h) (dc2 := dc) (ds2 := ds) 1 rfl ?_
  refine wq_getf rfl hP rfl rfl ?_
  refine wq_getf rfl hA rfl rfl ?_
  refine wq_gos (f := 1) (pc2 := 31) (ls2 := [(0, .ref 74), (1, .ref rl), (2, .int 0), (3, .int (nI i))]) (st2 := [.int (nI i), .ref (ra + 12), .ref 78]) (h2 := h) (dc2 := dc) (ds2 := ds) 1 rfl ?_
  refine wq_ialdn rfl hW (by first | omega | exact zin_t (by omega) (by omega)) (by decide) rfl ?_
  refine wq_vi hw.1 ?_
  try have q2x := nI_toInt (n := w) (by omega)
  refine wq_aald rfl hH (by first | omega | exact zin_t (by omega) (by omega)) (heldAt (by omega)) rfl ?_
  refine wq_gos (f := 1) (pc2 := 38) (ls2 := [(5, .int 0), (4, .ref (102 + 6 * w)), (0, .ref 74), (1, .ref rl), (2, .int 0), (3, .int (nI i))]) (st2 := []) (h2 := h) (dc2 := dc) (ds2 := ds) 3 rfl ?_
  refine wq_ls [(0, .ref 74), (1, .ref rl), (2, .int 0), (3, .int (nI i)), (4, .ref (102 + 6 * w)), (5, .int (nI 0))] (show ([0, 1, 2, 3, 4, 5] : List Nat).Nodup by decide) ⟨rfl, rfl, rfl, rfl, rfl, rfl, trivial⟩ ?_
  refine c_fiI0 (by first | omega | assumption | decide | solve_by_elim) (by first | omega | assumption | decide | solve_by_elim) (by first | omega | assumption | decide | solve_by_elim) (by first | omega | assumption | decide | solve_by_elim) (by first | omega | assumption | decide | solve_by_elim) ((to - 0) + 1) 0 lf fw h hP hH hA hW hV hE hI hE2 hI2 hF hLf (by first | omega | assumption | decide | solve_by_elim) (by omega) ?_
  intro h83x f83x l83x c03x c13x
  obtain ⟨v4x, hv5x⟩ : ∃ x, x = (fiI0 sv li li2 f0 f2 to to2 ((to - 0) + 1) 0 lf fw) := ⟨_, rfl⟩
  try rw [← hv5x] at c03x
  try rw [← hv5x] at c13x
  try rw [← hv5x]
  show wq 31 87 [(0, .ref 74), (1, .ref rl), (2, .int 0), (3, .int (nI i))] [] h83x dc ds _
  refine wq_gos (f := 1) (pc2 := 15) (ls2 := [(3, .int ((nI i) + (-1))), (0, .ref 74), (1, .ref rl), (2, .int 0)]) (st2 := []) (h2 := h83x) (dc2 := dc) (ds2 := ds) 2 rfl ?_
  subst hv5x
  refine wq_ls [(0, .ref 74), (1, .ref rl), (2, .int 0), (3, .int ((nI i) + (-1)))] (show ([0, 1, 2, 3] : List Nat).Nodup by decide) ⟨rfl, rfl, rfl, rfl, trivial⟩ ?_
  exact kE h83x (wFr_sub f83x (by simp)) (by omega) c03x c13x
noncomputable def fiI1 (sv : List Int32) (li li2 : List Int64) (f0 f2 to to2 : Nat) : Nat → Nat → List Int32 → Int32 → List Int32 × Int32
  | 0, _, lf, fw => (lf, fw)
  | m + 1, k, lf, fw => (if (nI to).toInt ≤ (nI k).toInt then (lf, fw) else (zlet (pnR1 sv li2 lf f2 to2 (li.getD k 0)) (fun v7x => (fiI1 sv li li2 f0 f2 to to2 m (k + 1) (zset 0 lf (f0 + k) (v7x.2)) (v7x.2)))))
set_option maxRecDepth 100000 in
set_option maxHeartbeats 4000000 in
theorem c_fiI1 {ra sp so : Nat} {lk hd ht bl sd : Int32} {rt : Int64} {rp rs al : Nat} {wg ob pr9 sr9 : Int32} {w to rL cap w2 to2 rL2 cap2 : Nat} {hkn hks hfa hkn2 hks2 hfa2 : Int32} {li li2 : List Int64} {rl n9 i f0 f2 : Nat} {wy sv fi : List Int32} (hw : wy.getD i 0 = nI w ∧ fi.getD i 0 = nI f0) (hw2 : wy.getD (i + 1) 0 = nI w2 ∧ fi.getD (i + 1) 0 = nI f2) (hb : w < 8 ∧ w2 < 8 ∧ i + 1 < 10 ∧ f0 + to ≤ n9 ∧ f2 + to2 ≤ n9 ∧ n9 ≤ 20000 ∧ to ≤ cap ∧ cap ≤ 600 ∧ to2 ≤ cap2 ∧ cap2 ≤ 600) (hra : ra = 6 ∨ ra = 20) (hne : (rl = 98 ∨ rl = 100 ∨ 234 ≤ rl) ∧ (rL = 104 + 6 * w ∨ 234 ≤ rL) ∧ (rL2 = 104 + 6 * w2 ∨ 234 ≤ rL2) ∧ rl ≠ rL ∧ rl ≠ rL2) {dc ds : Nat} {Q : zR → Prop} : ∀ (m : Nat) (k : Nat) (lf : List Int32) (fw : Int32) (h : zH) , (zat h 74 = some (.inr (.inr (.inr (3, [.ref 44, .ref ra, .ref 76, .ref 78, .ref 80, .ref 88, .int wg, .int ob, .ref 96, .int (nI al), .int pr9, .int sr9, .ref rp, .ref rs, .int fw]))))) → (zat h 78 = some (.inr (.inr (.inl (8, [some 102, some 108, some 114, some 120, some 126, some 132, some 138, some 144]))))) → (zat h ra = some (.inr (.inr (.inr (0, [.int lk, .int hd, .int ht, .int bl, .int sd, .long rt, .ref (ra + 2), .ref (ra + 4), .ref (ra + 6), .int (nI sp), .ref (ra + 8), .ref (ra + 10), .int (nI so), .ref (ra + 12)]))))) → (zat h (ra + 12) = some (.inl (0, 10, wy))) → (zat h (ra + 6) = some (.inl (0, 6, sv))) → (zat h (102 + 6 * w) = some (.inr (.inr (.inr (1, [.int hkn, .int (nI to), .ref rL, .ref (102 + 6 * w + 4), .int hks, .int hfa]))))) → (zat h rL = some (.inr (.inl (cap, li)))) → (zat h (102 + 6 * w2) = some (.inr (.inr (.inr (1, [.int hkn2, .int (nI to2), .ref rL2, .ref (102 + 6 * w2 + 4), .int hks2, .int hfa2]))))) → (zat h rL2 = some (.inr (.inl (cap2, li2)))) → (zat h 96 = some (.inl (0, 10, fi))) → (zat h rl = some (.inl (0, n9, lf))) → (k ≤ to) → (to - k) < m → (∀ (h2 : zH) , (wFr [74, rl] h h2) → (h2.length = h.length) → (zat h2 74 = some (.inr (.inr (.inr (3, [.ref 44, .ref ra, .ref 76, .ref 78, .ref 80, .ref 88, .int wg, .int ob, .ref 96, .int (nI al), .int pr9, .int sr9, .ref rp, .ref rs, .int ((fiI1 sv li li2 f0 f2 to to2 m k lf fw).2)]))))) → (zat h2 rl = some (.inl (0, n9, ((fiI1 sv li li2 f0 f2 to to2 m k lf fw).1)))) → wq 31 87 [(0, .ref 74), (1, .ref rl), (2, .int 1), (3, .int (nI i))] [] h2 dc ds Q) → wq 31 38 [(0, .ref 74), (1, .ref rl), (2, .int 1), (3, .int (nI i)), (4, .ref (102 + 6 * w)), (5, .int (nI k))] [] h dc ds Q := by
  intro m
  induction m with
  | zero => intro k lf fw h hP hH hA hW hV hE hI hE2 hI2 hF hLf hk hms kk; omega
  | succ m ih =>
    intro k lf fw h hP hH hA hW hV hE hI hE2 hI2 hF hLf hk hms kk
    have qni := nI_toInt (n := i) (by omega)
    have qnk := nI_toInt (n := k) (by omega)
    have qnto := nI_toInt (n := to) (by omega)
    refine wq_gos (f := 1) (pc2 := 42) (ls2 := [(0, .ref 74), (1, .ref rl), (2, .int 1), (3, .int (nI i)), (4, .ref (102 + 6 * w)), (5, .int (nI k))]) (st2 := [.ref (102 + 6 * w), .int (nI k)]) (h2 := h) (dc2 := dc) (ds2 := ds) 2 rfl ?_
    refine wq_getf rfl hE rfl rfl ?_
    try have q1x := nI_toInt (n := k) (by omega)
    try have q2x := nI_toInt (n := to) (by omega)
    refine wq_ge2 rfl rfl (fun b3x => ?_) (fun b3x => ?_)
    · have hx : (fiI1 sv li li2 f0 f2 to to2 (m + 1) k lf fw) = (lf, fw) := by show (if _ then _ else _) = _; rw [if_pos b3x]
      rw [hx] at kk
      refine wq_ls [(0, .ref 74), (1, .ref rl), (2, .int 1), (3, .int (nI i))] (show ([0, 1, 2, 3] : List Nat).Nodup by decide) ⟨rfl, rfl, rfl, rfl, trivial⟩ ?_
      exact kk h (wFr_rf _ _) (by omega) hP hLf
    · refine wq_gos (f := 1) (pc2 := 51) (ls2 := [(0, .ref 74), (1, .ref rl), (2, .int 1), (3, .int (nI i)), (4, .ref (102 + 6 * w)), (5, .int (nI k))]) (st2 := [.ref (102 + 6 * w), .ref 74]) (h2 := h) (dc2 := dc) (ds2 := ds) 2 rfl ?_
      refine wq_getf rfl hE rfl rfl ?_
      refine wq_gos (f := 1) (pc2 := 56) (ls2 := [(0, .ref 74), (1, .ref rl), (2, .int 1), (3, .int (nI i)), (4, .ref (102 + 6 * w)), (5, .int (nI k))]) (st2 := [.int (nI k), .ref rL, .ref 74]) (h2 := h) (dc2 := dc) (ds2 := ds) 1 rfl ?_
      refine wq_laldn rfl hI (by first | omega | exact zin_t (by omega) (by omega)) (by omega) rfl ?_
      refine wq_gos (f := 1) (pc2 := 60) (ls2 := [(0, .ref 74), (1, .ref rl), (2, .int 1), (3, .int (nI i)), (4, .ref (102 + 6 * w)), (5, .int (nI k))]) (st2 := [.int ((nI i) + (1 : Int32)), .long (li.getD k 0), .ref 74]) (h2 := h) (dc2 := dc) (ds2 := ds) 3 rfl ?_
      refine wq_vi (show (nI i) + (1 : Int32) = nI (i + 1) from nI_add i 1) ?_
      refine wq_gos (f := 1) (pc2 := 62) (ls2 := [(0, .ref 74), (1, .ref rl), (2, .int 1), (3, .int (nI i)), (4, .ref (102 + 6 * w)), (5, .int (nI k))]) (st2 := [.int 1, .ref rl, .int (nI (i + 1)), .long (li.getD k 0), .ref 74]) (h2 := h) (dc2 := dc) (ds2 := ds) 2 rfl ?_
      try have q4x := nI_toInt (n := (i + 1)) (by omega)
      have q5x : (1 : Int32).toInt = 1 := rfl
      refine wq_inlv (y2 := 32) (as := [.long (li.getD k 0), .int (nI (i + 1)), .ref rl, .int 1]) rfl rfl rfl hP rfl (wq_mono (c_pq1 hP hH hA hW hV hE2 hI2 hF hLf hw2 ⟨by omega, by omega, by omega, by omega, by omega, by omega⟩ (by first | omega | assumption | decide | solve_by_elim) ⟨by omega, by omega⟩) ?_)
      rintro _ ⟨h86x, rfl, f86x, l86x, c06x, p06x⟩
      show wq 31 65 [(0, .ref 74), (1, .ref rl), (2, .int 1), (3, .int (nI i)), (4, .ref (102 + 6 * w)), (5, .int (nI k))] [.int ((pnR1 sv li2 lf f2 to2 (li.getD k 0)).1)] h86x dc ds _
      obtain ⟨v7x, hv8x⟩ : ∃ x, x = (pnR1 sv li2 lf f2 to2 (li.getD k 0)) := ⟨_, rfl⟩
      try rw [← hv8x] at c06x
      try rw [← hv8x] at p06x
      try rw [← hv8x]
      refine wq_gos (f := 1) (pc2 := 68) (ls2 := [(0, .ref 74), (1, .ref rl), (2, .int 1), (3, .int (nI i)), (4, .ref (102 + 6 * w)), (5, .int (nI k))]) (st2 := [.ref 74, .ref rl]) (h2 := h86x) (dc2 := dc) (ds2 := ds) 3 rfl ?_
      refine wq_getf rfl c06x rfl rfl ?_
      refine wq_gos (f := 1) (pc2 := 72) (ls2 := [(0, .ref 74), (1, .ref rl), (2, .int 1), (3, .int (nI i)), (4, .ref (102 + 6 * w)), (5, .int (nI k))]) (st2 := [.int (nI i), .ref 96, .ref rl]) (h2 := h86x) (dc2 := dc) (ds2 := ds) 1 rfl ?_
      have e9x := (f86x.2 _ _ (wnc (by decide) wn0) hF)
      try have q10x := nI_toInt (n := i) (by omega)
      refine wq_ialdn rfl e9x (by first | omega | exact zin_t (by omega) (by omega)) (by decide) rfl ?_
      refine wq_vi hw.2 ?_
      refine wq_gos (f := 1) (pc2 := 76) (ls2 := [(0, .ref 74), (1, .ref rl), (2, .int 1), (3, .int (nI i)), (4, .ref (102 + 6 * w)), (5, .int (nI k))]) (st2 := [.int ((nI f0) + (nI k)), .ref rl]) (h2 := h86x) (dc2 := dc) (ds2 := ds) 2 rfl ?_
      refine wq_vi (show (nI f0) + (nI k) = nI (f0 + k) from nI_add f0 k) ?_
      refine wq_gos (f := 1) (pc2 := 77) (ls2 := [(0, .ref 74), (1, .ref rl), (2, .int 1), (3, .int (nI i)), (4, .ref (102 + 6 * w)), (5, .int (nI k))]) (st2 := [.ref 74, .int (nI (f0 + k)), .ref rl]) (h2 := h86x) (dc2 := dc) (ds2 := ds) 1 rfl ?_
      refine wq_getf rfl c06x rfl rfl ?_
      have e11x := (f86x.2 _ _ (wnc (by omega) wn0) hLf)
      try have q12x := nI_toInt (n := (f0 + k)) (by omega)
      refine wq_iastn rfl e11x (by first | omega | exact zin_t (by omega) (by omega)) (by omega) rfl ?_
      intro h13x e14x f15x l16x
      have e14x : zat h13x rl = some (.inl (0, n9, (zset 0 lf (f0 + k) (v7x.2)))) := e14x
      refine wq_gos (f := 1) (pc2 := 84) (ls2 := [(5, .int ((nI k) + 1)), (0, .ref 74), (1, .ref rl), (2, .int 1), (3, .int (nI i)), (4, .ref (102 + 6 * w))]) (st2 := []) (h2 := h13x) (dc2 := dc) (ds2 := ds) 1 rfl ?_
      rw [nI_1]
      refine wq_gos (f := 1) (pc2 := 38) (ls2 := [(5, .int (nI (k + 1))), (0, .ref 74), (1, .ref rl), (2, .int 1), (3, .int (nI i)), (4, .ref (102 + 6 * w))]) (st2 := []) (h2 := h13x) (dc2 := dc) (ds2 := ds) 1 rfl ?_
      try have q17x := nI_toInt (n := (k + 1)) (by omega)
      have e18x := (f15x.2 _ _ (wnc (by omega) wn0) c06x)
      have e19x := (f15x.2 _ _ (wnc (by omega) wn0) (f86x.2 _ _ (wnc (by decide) wn0) hH))
      have e20x := (f15x.2 _ _ (wnc (by omega) wn0) (f86x.2 _ _ (wnc (by omega) wn0) hA))
      have e21x := (f15x.2 _ _ (wnc (by omega) wn0) (f86x.2 _ _ (wnc (by omega) wn0) hW))
      have e22x := (f15x.2 _ _ (wnc (by omega) wn0) (f86x.2 _ _ (wnc (by omega) wn0) hV))
      have e23x := (f15x.2 _ _ (wnc (by omega) wn0) (f86x.2 _ _ (wnc (by omega) wn0) hE))
      have e24x := (f15x.2 _ _ (wnc (by omega) wn0) (f86x.2 _ _ (wnc (by omega) wn0) hI))
      have e25x := (f15x.2 _ _ (wnc (by omega) wn0) (f86x.2 _ _ (wnc (by omega) wn0) hE2))
      have e26x := (f15x.2 _ _ (wnc (by omega) wn0) (f86x.2 _ _ (wnc (by omega) wn0) hI2))
      have e27x := (f15x.2 _ _ (wnc (by omega) wn0) e9x)
      have hx : (fiI1 sv li li2 f0 f2 to to2 (m + 1) k lf fw) = (fiI1 sv li li2 f0 f2 to to2 m (k + 1) (zset 0 lf (f0 + k) (v7x.2)) (v7x.2)) := by show (if _ then _ else _) = _; rw [if_neg (Int.not_le.mpr b3x), zlet_eq hv8x]
      rw [hx] at kk
      refine wq_ls [(0, .ref 74), (1, .ref rl), (2, .int 1), (3, .int (nI i)), (4, .ref (102 + 6 * w)), (5, .int (nI (k + 1)))] (show ([0, 1, 2, 3, 4, 5] : List Nat).Nodup by decide) ⟨rfl, rfl, rfl, rfl, rfl, rfl, trivial⟩ ?_
      exact ih (k + 1) (zset 0 lf (f0 + k) (v7x.2)) (v7x.2) h13x e18x e19x e20x e21x e22x e23x e24x e25x e26x e27x e14x (by first | omega | assumption | decide | solve_by_elim) (by omega) (fun h9 f9 l9 y0 y1 => kk h9 (wFr_tr (wFr_tr (wFr_sub f86x (by simp)) (wFr_sub f15x (by simp))) f9) (by omega) y0 y1)
set_option maxRecDepth 100000 in
set_option maxHeartbeats 4000000 in
theorem c_fo11 {h : zH} {Q : zR → Prop} {dc ds : Nat} {ra sp so : Nat} {lk hd ht bl sd : Int32} {rt : Int64} {rp rs al : Nat} {wg ob pr9 sr9 : Int32} {w to rL cap w2 to2 rL2 cap2 : Nat} {hkn hks hfa hkn2 hks2 hfa2 : Int32} {li li2 : List Int64} {rl n9 i f0 f2 : Nat} {wy sv fi : List Int32} {lf : List Int32} {fw : Int32} (hP : zat h 74 = some (.inr (.inr (.inr (3, [.ref 44, .ref ra, .ref 76, .ref 78, .ref 80, .ref 88, .int wg, .int ob, .ref 96, .int (nI al), .int pr9, .int sr9, .ref rp, .ref rs, .int fw]))))) (hH : zat h 78 = some (.inr (.inr (.inl (8, [some 102, some 108, some 114, some 120, some 126, some 132, some 138, some 144]))))) (hA : zat h ra = some (.inr (.inr (.inr (0, [.int lk, .int hd, .int ht, .int bl, .int sd, .long rt, .ref (ra + 2), .ref (ra + 4), .ref (ra + 6), .int (nI sp), .ref (ra + 8), .ref (ra + 10), .int (nI so), .ref (ra + 12)]))))) (hW : zat h (ra + 12) = some (.inl (0, 10, wy))) (hV : zat h (ra + 6) = some (.inl (0, 6, sv))) (hE : zat h (102 + 6 * w) = some (.inr (.inr (.inr (1, [.int hkn, .int (nI to), .ref rL, .ref (102 + 6 * w + 4), .int hks, .int hfa]))))) (hI : zat h rL = some (.inr (.inl (cap, li)))) (hE2 : zat h (102 + 6 * w2) = some (.inr (.inr (.inr (1, [.int hkn2, .int (nI to2), .ref rL2, .ref (102 + 6 * w2 + 4), .int hks2, .int hfa2]))))) (hI2 : zat h rL2 = some (.inr (.inl (cap2, li2)))) (hF : zat h 96 = some (.inl (0, 10, fi))) (hLf : zat h rl = some (.inl (0, n9, lf))) (hw : wy.getD i 0 = nI w ∧ fi.getD i 0 = nI f0) (hw2 : wy.getD (i + 1) 0 = nI w2 ∧ fi.getD (i + 1) 0 = nI f2) (hb : w < 8 ∧ w2 < 8 ∧ i + 1 < 10 ∧ f0 + to ≤ n9 ∧ f2 + to2 ≤ n9 ∧ n9 ≤ 20000 ∧ to ≤ cap ∧ cap ≤ 600 ∧ to2 ≤ cap2 ∧ cap2 ≤ 600) (hra : ra = 6 ∨ ra = 20) (hne : (rl = 98 ∨ rl = 100 ∨ 234 ≤ rl) ∧ (rL = 104 + 6 * w ∨ 234 ≤ rL) ∧ (rL2 = 104 + 6 * w2 ∨ 234 ≤ rL2) ∧ rl ≠ rL ∧ rl ≠ rL2) (kE : ∀ (h2 : zH), (wFr [74, rl] h h2) → (h2.length = h.length) → (zat h2 74 = some (.inr (.inr (.inr (3, [.ref 44, .ref ra, .ref 76, .ref 78, .ref 80, .ref 88, .int wg, .int ob, .ref 96, .int (nI al), .int pr9, .int sr9, .ref rp, .ref rs, .int ((fiI1 sv li li2 f0 f2 to to2 (to - 0 + 1) 0 lf fw).2)]))))) → (zat h2 rl = some (.inl (0, n9, ((fiI1 sv li li2 f0 f2 to to2 (to - 0 + 1) 0 lf fw).1)))) → wq 31 15 [(0, .ref 74), (1, .ref rl), (2, .int 1), (3, .int ((nI i) + (-1 : Int32)))] [] h2 dc ds Q) : wq 31 15 [(0, .ref 74), (1, .ref rl), (2, .int 1), (3, .int (nI i))] [] h dc ds Q := by
  have qni := nI_toInt (n := i) (by omega)
  have z0 : (0 : Int32).toInt = 0 := rfl
  have z1 : (1 : Int32).toInt = 1 := rfl
  refine wq_gos (f := 1) (pc2 := 16) (ls2 := [(0, .ref 74), (1, .ref rl), (2, .int 1), (3, .int (nI i))]) (st2 := [.int (nI i)]) (h2 := h) (dc2 := dc) (ds2 := ds) 1 rfl ?_
  try have q1x := nI_toInt (n := i) (by omega)
  refine wq_lt0f rfl rfl (by omega) ?_
  refine wq_gos (f := 1) (pc2 := 20) (ls2 := [(0, .ref 74), (1, .ref rl), (2, .int 1), (3, .int (nI i))]) (st2 := [.ref 74]) (h2 := h) (dc2 := dc) (ds2 := ds) 1 rfl ?_
  refine wq_getf rfl hP rfl rfl ?_
  refine wq_gos (f := 1) (pc2 := 24) (ls2 := [(0, .ref 74), (1, .ref rl), (2, .int 1), (3, .int (nI i))]) (st2 := [.ref 74, .ref 78]) (h2 := h) (dc2 := dc) (ds2 := ds) 1 rfl ?_
  refine wq_getf rfl hP rfl rfl ?_
  refine wq_getf rfl hA rfl rfl ?_
  refine wq_gos (f := 1) (pc2 := 31) (ls2 := [(0, .ref 74), (1, .ref rl), (2, .int 1), (3, .int (nI i))]) (st2 := [.int (nI i), .ref (ra + 12), .ref 78]) (h2 := h) (dc2 := dc) (ds2 := ds) 1 rfl ?_
  refine wq_ialdn rfl hW (by first | omega | exact zin_t (by omega) (by omega)) (by decide) rfl ?_
  refine wq_vi hw.1 ?_
  try have q2x := nI_toInt (n := w) (by omega)
  refine wq_aald rfl hH (by first | omega | exact zin_t (by omega) (by omega)) (heldAt (by omega)) rfl ?_
  refine wq_gos (f := 1) (pc2 := 38) (ls2 := [(5, .int 0), (4, .ref (102 + 6 * w)), (0, .ref 74), (1, .ref rl), (2, .int 1), (3, .int (nI i))]) (st2 := []) (h2 := h) (dc2 := dc) (ds2 := ds) 3 rfl ?_
  refine wq_ls [(0, .ref 74), (1, .ref rl), (2, .int 1), (3, .int (nI i)), (4, .ref (102 + 6 * w)), (5, .int (nI 0))] (show ([0, 1, 2, 3, 4, 5] : List Nat).Nodup by decide) ⟨rfl, rfl, rfl, rfl, rfl, rfl, trivial⟩ ?_
  refine c_fiI1 (by first | omega | assumption | decide | solve_by_elim) (by first | omega | assumption | decide | solve_by_elim) (by first | omega | assumption | decide | solve_by_elim) (by first | omega | assumption | decide | solve_by_elim) (by first | omega | assumption | decide | solve_by_elim) ((to - 0) + 1) 0 lf fw h hP hH hA hW hV hE hI hE2 hI2 hF hLf (by first | omega | assumption | decide | solve_by_elim) (by omega) ?_
  intro h83x f83x l83x c03x c13x
  obtain ⟨v4x, hv5x⟩ : ∃ x, x = (fiI1 sv li li2 f0 f2 to to2 ((to - 0) + 1) 0 lf fw) := ⟨_, rfl⟩
  try rw [← hv5x] at c03x
  try rw [← hv5x] at c13x
  try rw [← hv5x]
  show wq 31 87 [(0, .ref 74), (1, .ref rl), (2, .int 1), (3, .int (nI i))] [] h83x dc ds _
  refine wq_gos (f := 1) (pc2 := 15) (ls2 := [(3, .int ((nI i) + (-1))), (0, .ref 74), (1, .ref rl), (2, .int 1)]) (st2 := []) (h2 := h83x) (dc2 := dc) (ds2 := ds) 2 rfl ?_
  subst hv5x
  refine wq_ls [(0, .ref 74), (1, .ref rl), (2, .int 1), (3, .int ((nI i) + (-1)))] (show ([0, 1, 2, 3] : List Nat).Nodup by decide) ⟨rfl, rfl, rfl, rfl, trivial⟩ ?_
  exact kE h83x (wFr_sub f83x (by simp)) (by omega) c03x c13x
set_option maxRecDepth 100000 in
set_option maxHeartbeats 4000000 in
theorem c_fo0 {h : zH} {Q : zR → Prop} {dc ds : Nat} {iv : Int32} {rl : Nat} {st : Int32}  (hi : iv.toInt < 0) (kE : ∀ (h2 : zH), (wFr [] h h2) → (h2.length = h.length) → Q (none, h2, dc, ds)) : wq 31 15 [(0, .ref 74), (1, .ref rl), (2, .int st), (3, .int iv)] [] h dc ds Q := by
  refine wq_gos (f := 1) (pc2 := 16) (ls2 := [(0, .ref 74), (1, .ref rl), (2, .int st), (3, .int iv)]) (st2 := [.int iv]) (h2 := h) (dc2 := dc) (ds2 := ds) 1 rfl ?_
  refine wq_lt0t rfl (by omega) ?_
  exact wq_ret rfl rfl (kE h (wFr_rf _ _) (by omega))
theorem c_afl {h : zH} {a N : Nat} {f : List Int32} {v : Int32} (hf : zat h a = some (.inl (0, N, f))) (hN : N < 2147483648) : wq 286 0 [(0, .ref a), (1, .int v)] [] h 0 0 (fun rr9 => ∃ (h2 : zH) (f2 : List Int32), rr9 = (none, h2, 0, 0) ∧ wFr [a] h h2 ∧ h2.length = h.length ∧ zat h2 a = some (.inl (0, N, f2)) ∧ (∀ j, j < N → f2.getD j 0 = v)) := by
  refine wq_mono (c_fill hN hf v) ?_
  rintro _ ⟨h2, f2, rfl, a, b, c, d⟩
  exact ⟨h2, f2, rfl, a, b, c, d⟩
theorem q2_o {j so : Nat} (h : j + 1 + 1 ≤ so ∨ j + 1 = 0) : j + 1 ≤ so ∨ j = 0 := by omega
theorem q2_a {rl : Nat} (hrl : rl = 98 ∨ rl = 100 ∨ 234 ≤ rl) : ∀ q ∈ [74, rl], 34 ≤ q ∧ q ≠ 78 := by
  intro q hq
  simp only [List.mem_cons, List.not_mem_nil, or_false] at hq
  omega
theorem q2_b {rl : Nat} (hrl : rl = 98 ∨ rl = 100 ∨ 234 ≤ rl) : ∀ q ∈ [rl], 34 ≤ q ∧ q ≠ 78 := by
  intro q hq
  simp only [List.mem_cons, List.not_mem_nil, or_false] at hq
  omega
theorem q2_c {rl q : Nat} (hrl : rl = 98 ∨ rl = 100 ∨ 234 ≤ rl) (h : q < 74 ∨ q = 96) : q ∉ [74, rl] := by
  simp only [List.mem_cons, List.not_mem_nil, or_false, not_or]
  omega
theorem q2_d {rl q : Nat} (hrl : rl = 98 ∨ rl = 100 ∨ 234 ≤ rl) (h : q ≤ 96) : q ∉ [rl] := by
  simp only [List.mem_cons, List.not_mem_nil, or_false]
  omega
theorem q2_e {h : zH} {to rL cap : Nat → Nat} {kn ks fa : Nat → Int32} {hp : Nat → List Int32} {li : Nat → List Int64} {rl : Nat} (k : wHs h to rL cap kn ks fa hp li) (hrl : rl = 98 ∨ rl = 100 ∨ 234 ≤ rl) (hrn : ∀ w, w < 8 → rl ≠ rL w) : ∀ q ∈ [74, rl], (q < 102 ∨ 150 ≤ q) ∧ ∀ w, w < 8 → q ≠ rL w := by
  intro q hq
  simp only [List.mem_cons, List.not_mem_nil, or_false] at hq
  rcases hq with hq | hq
  · rw [hq]
    exact ⟨by decide, fun w hw => by have := (k w hw).2.2.2.1; omega⟩
  · rw [hq]
    exact ⟨by omega, hrn⟩
theorem q2_f {rL : Nat → Nat} {rl : Nat} (hrl : rl = 98 ∨ rl = 100 ∨ 234 ≤ rl) (hrn : ∀ w, w < 8 → rl ≠ rL w) : ∀ q ∈ [rl], (q < 102 ∨ 150 ≤ q) ∧ ∀ w, w < 8 → q ≠ rL w := by
  intro q hq
  simp only [List.mem_cons, List.not_mem_nil, or_false] at hq
  rw [hq]
  exact ⟨by omega, hrn⟩
theorem nI_mj {j : Nat} (h : j < 2 ^ 31) : (nI j + (-1 : Int32)).toInt + 1 = j := by
  have zm : (-1 : Int32).toInt = -1 := rfl
  have zj := nI_toInt h
  have za : (nI j + (-1 : Int32)).toInt = (nI j).toInt + (-1 : Int32).toInt := e_add (by omega) (by omega)
  omega
theorem nI_mk {n : Nat} (h : n < 2 ^ 31) : (nI n - (2 : Int32)).toInt = (n : Int) - 2 := by
  have zs := nI_toInt h
  have z2 : (2 : Int32).toInt = 2 := rfl
  have za : (nI n - (2 : Int32)).toInt = (nI n).toInt - (2 : Int32).toInt := e_sub (by omega) (by omega)
  omega
theorem wHs_fr {h h2 : zH} {to rL cap : Nat → Nat} {kn ks fa : Nat → Int32} {hp : Nat → List Int32} {li : Nat → List Int64} {S : List Nat} (k : wHs h to rL cap kn ks fa hp li) (f : wFr S h h2) (hS : ∀ q ∈ S, (q < 102 ∨ 150 ≤ q) ∧ ∀ w, w < 8 → q ≠ rL w) : wHs h2 to rL cap kn ks fa hp li := by
  intro v hv
  obtain ⟨a1, a2, a3, a4, a5, a6⟩ := k v hv
  exact ⟨wFr_at f (fun hm => by have := hS _ hm; omega) a1, wFr_at f (fun hm => by have := hS _ hm; omega) a2, wFr_at f (fun hm => (hS _ hm).2 v hv rfl) a3, a4, a5, a6⟩
noncomputable def foG0 (sv : List Int32) (to : Nat → Nat) (li : Nat → List Int64) (wn S : Nat → Nat) : Nat → List Int32 × Int32 → List Int32 × Int32
  | 0, p => p
  | j + 1, p => foG0 sv to li wn S j (fiI0 sv (li (wn j)) (li (wn (j + 1))) (S j) (S (j + 1)) (to (wn j)) (to (wn (j + 1))) (to (wn j) - 0 + 1) 0 p.1 p.2)
set_option maxRecDepth 100000 in
theorem c_foL0 {ra sp so : Nat} {lk hd ht bl sd : Int32} {rt : Int64} {ll lg wy sv fi : List Int32} {po : List Int64} {rp rs al : Nat} {wg ob pr9 sr9 : Int32} {to rL cap : Nat → Nat} {kn ks fa : Nat → Int32} {hp : Nat → List Int32} {li : Nat → List Int64} {S : Nat → Nat} {rl n9 : Nat} (hra : ra = 6 ∨ ra = 20) (hsp : sp ≤ 8) (hway : wWay wy sp so) (hto : ∀ q, q < so → to ((wy.getD q 0).toNatClampNeg) ≤ 600 ∧ to ((wy.getD q 0).toNatClampNeg) ≤ cap ((wy.getD q 0).toNatClampNeg) ∧ fi.getD q 0 = nI (S q) ∧ S q + to ((wy.getD q 0).toNatClampNeg) ≤ n9) (hn9 : n9 ≤ 20000) (hrl : rl = 98 ∨ rl = 100 ∨ 234 ≤ rl) (hrn : ∀ w, w < 8 → rl ≠ rL w) : ∀ (j : Nat) (iv : Int32) (lf : List Int32) (fw : Int32) (dc ds : Nat) (h : zH), iv.toInt + 1 = j → j + 1 ≤ so ∨ j = 0 → wAc h ra sp so lk hd ht bl sd rt ll lg wy po → zat h (ra + 6) = some (.inl (0, 6, sv)) → wHs h to rL cap kn ks fa hp li → zat h 96 = some (.inl (0, 10, fi)) → zat h 74 = some (.inr (.inr (.inr (3, [.ref 44, .ref ra, .ref 76, .ref 78, .ref 80, .ref 88, .int wg, .int ob, .ref 96, .int (nI al), .int pr9, .int sr9, .ref rp, .ref rs, .int fw])))) → zat h rl = some (.inl (0, n9, lf)) → wq 31 15 [(0, .ref 74), (1, .ref rl), (2, .int 0), (3, .int iv)] [] h dc ds (fun r => ∃ (h2 : zH), r = (none, h2, dc, ds) ∧ wFr [74, rl] h h2 ∧ h2.length = h.length ∧ zat h2 74 = some (.inr (.inr (.inr (3, [.ref 44, .ref ra, .ref 76, .ref 78, .ref 80, .ref 88, .int wg, .int ob, .ref 96, .int (nI al), .int pr9, .int sr9, .ref rp, .ref rs, .int (foG0 sv to li (fun q => (wy.getD q 0).toNatClampNeg) S j (lf, fw)).2])))) ∧ zat h2 rl = some (.inl (0, n9, (foG0 sv to li (fun q => (wy.getD q 0).toNatClampNeg) S j (lf, fw)).1))) := by
  intro j
  induction j with
  | zero =>
    intro iv lf fw dc ds h hj hs hAc hV hHs hF hP hLf
    refine c_fo0 (by omega) ?_
    intro h2 f l
    exact ⟨h2, rfl, wFr_sub f (by simp), l, wFr_at f (by simp) hP, wFr_at f (by simp) hLf⟩
  | succ j ih =>
    intro iv lf fw dc ds h hj hs hAc hV hHs hF hP hLf
    have hso := hway.1
    obtain ⟨w, hw, hw8⟩ := hway.2 j (by omega)
    obtain ⟨w2, hw2, hw28⟩ := hway.2 (j + 1) (by omega)
    have hwn : (wy.getD j 0).toNatClampNeg = w := by rw [hw]; exact nI_clamp (by omega)
    have hwn2 : (wy.getD (j + 1) 0).toNatClampNeg = w2 := by rw [hw2]; exact nI_clamp (by omega)
    obtain ⟨t1, t2, t3, t4⟩ := hto j (by omega)
    obtain ⟨u1, u2, u3, u4⟩ := hto (j + 1) (by omega)
    rw [hwn] at t1 t2 t4
    rw [hwn2] at u1 u2 u4
    obtain ⟨hA, hL, hG, hQ, hW, h78⟩ := id hAc
    obtain ⟨b1, b2, b3, b4, b5, b6⟩ := hHs w (by omega)
    obtain ⟨c1, c2, c3, c4, c5, c6⟩ := hHs w2 (by omega)
    have hiv : iv = nI j := Int32.toInt_inj.mp (by rw [nI_toInt (by omega)]; omega)
    rw [hiv]
    have n1 := hrn w (by omega)
    have n2 := hrn w2 (by omega)
    refine c_fo10 hP h78 hA hW hV b1 b3 c1 c3 hF hLf ⟨hw, t3⟩ ⟨hw2, u3⟩ (by omega) hra (by omega) ?_
    intro h2 f l e74 erl
    have za := nI_mj (j := j) (by omega)
    have hAc2 := wAc_fr hAc f hra (q2_a hrl)
    have hV2 := wFr_at f (q2_c hrl (by clear ih n1 n2 b4 c4 hs hrl; omega)) hV
    have hF2 := wFr_at f (q2_c hrl (Or.inr rfl)) hF
    have hHs2 := wHs_fr hHs f (q2_e hHs hrl hrn)
    obtain ⟨pf, hpf⟩ : ∃ x, x = fiI0 sv (li w) (li w2) (S j) (S (j + 1)) (to w) (to w2) (to w - 0 + 1) 0 lf fw := ⟨_, rfl⟩
    rw [← hpf] at e74 erl
    have o2 := q2_o hs
    refine wq_mono (ih (nI j + (-1 : Int32)) pf.1 pf.2 dc ds h2 za o2 hAc2 hV2 hHs2 hF2 e74 erl) ?_
    rintro _ ⟨h3, rfl, f3, l3, a, b⟩
    refine ⟨h3, rfl, wFr_tr f f3, l3.trans l, ?_, ?_⟩
    · rw [a]; simp only [foG0, hwn, hwn2, hpf]
    · rw [b]; simp only [foG0, hwn, hwn2, hpf]
set_option maxRecDepth 100000 in
set_option maxHeartbeats 4000000 in
theorem c_fo20 {h : zH} {Q : zR → Prop} {ra sp so : Nat} {lk hd ht bl sd : Int32} {rt : Int64} {rp rs al : Nat} {wg ob pr9 sr9 fw : Int32} {rl n9 : Nat} {lf : List Int32} (hP : zat h 74 = some (.inr (.inr (.inr (3, [.ref 44, .ref ra, .ref 76, .ref 78, .ref 80, .ref 88, .int wg, .int ob, .ref 96, .int (nI al), .int pr9, .int sr9, .ref rp, .ref rs, .int fw]))))) (hA : zat h ra = some (.inr (.inr (.inr (0, [.int lk, .int hd, .int ht, .int bl, .int sd, .long rt, .ref (ra + 2), .ref (ra + 4), .ref (ra + 6), .int (nI sp), .ref (ra + 8), .ref (ra + 10), .int (nI so), .ref (ra + 12)]))))) (hLf : zat h rl = some (.inl (0, n9, lf))) (hra : ra = 6 ∨ ra = 20) (hn9 : n9 ≤ 20000) (hrl : rl = 98 ∨ rl = 100 ∨ 234 ≤ rl) (kE : ∀ (h2 : zH) (lf2 : List Int32), (wFr [rl] h h2) → (h2.length = h.length) → (zat h2 rl = some (.inl (0, n9, lf2))) → (∀ j, j < n9 → lf2.getD j 0 = 0) → wq 31 15 [(0, .ref 74), (1, .ref rl), (2, .int 0), (3, .int ((nI so) - (2 : Int32)))] [] h2 0 0 Q) : wq 31 0 [(0, .ref 74), (1, .ref rl), (2, .int 0)] [] h 0 0 Q := by
  refine wq_gos (f := 1) (pc2 := 2) (ls2 := [(0, .ref 74), (1, .ref rl), (2, .int 0)]) (st2 := [.int 0, .ref rl]) (h2 := h) (dc2 := 0) (ds2 := 0) 2 rfl ?_
  have q1x : (0 : Int32).toInt = 0 := rfl
  refine wq_inl (y2 := 286) (as := [.ref rl, .int 0]) rfl rfl rfl (wq_mono (c_afl hLf (by first | omega | assumption | decide | solve_by_elim)) ?_)
  rintro _ ⟨h82x, f22x, rfl, f82x, l82x, c02x, p02x⟩
  show wq 31 5 [(0, .ref 74), (1, .ref rl), (2, .int 0)] [] h82x 0 0 _
  refine wq_gos (f := 1) (pc2 := 6) (ls2 := [(0, .ref 74), (1, .ref rl), (2, .int 0)]) (st2 := [.ref 74]) (h2 := h82x) (dc2 := 0) (ds2 := 0) 1 rfl ?_
  have e3x := (f82x.2 _ _ (wnc (by omega) wn0) hP)
  refine wq_getf rfl e3x rfl rfl ?_
  have e4x := (f82x.2 _ _ (wnc (by omega) wn0) hA)
  refine wq_getf rfl e4x rfl rfl ?_
  refine wq_gos (f := 1) (pc2 := 15) (ls2 := [(3, .int ((nI so) - (2 : Int32))), (0, .ref 74), (1, .ref rl), (2, .int 0)]) (st2 := []) (h2 := h82x) (dc2 := 0) (ds2 := 0) 3 rfl ?_
  refine wq_ls [(0, .ref 74), (1, .ref rl), (2, .int 0), (3, .int ((nI so) - (2 : Int32)))] (show ([0, 1, 2, 3] : List Nat).Nodup by decide) ⟨rfl, rfl, rfl, rfl, trivial⟩ ?_
  exact kE h82x f22x (wFr_sub f82x (by simp)) (by omega) c02x (by first | omega | assumption | decide | solve_by_elim)
set_option maxRecDepth 100000 in
theorem c_fle0 {ra sp so : Nat} {lk hd ht bl sd : Int32} {rt : Int64} {ll lg wy sv fi : List Int32} {po : List Int64} {rp rs al : Nat} {wg ob pr9 sr9 : Int32} {to rL cap : Nat → Nat} {kn ks fa : Nat → Int32} {hp : Nat → List Int32} {li : Nat → List Int64} {S : Nat → Nat} {rl n9 : Nat} {lf : List Int32} {fw : Int32} {h : zH} (hra : ra = 6 ∨ ra = 20) (hsp : sp ≤ 8) (hway : wWay wy sp so) (hto : ∀ q, q < so → to ((wy.getD q 0).toNatClampNeg) ≤ 600 ∧ to ((wy.getD q 0).toNatClampNeg) ≤ cap ((wy.getD q 0).toNatClampNeg) ∧ fi.getD q 0 = nI (S q) ∧ S q + to ((wy.getD q 0).toNatClampNeg) ≤ n9) (hn9 : n9 ≤ 20000) (hrl : rl = 98 ∨ rl = 100 ∨ 234 ≤ rl) (hrn : ∀ w, w < 8 → rl ≠ rL w) (h1 : 1 ≤ so) : wAc h ra sp so lk hd ht bl sd rt ll lg wy po → zat h (ra + 6) = some (.inl (0, 6, sv)) → wHs h to rL cap kn ks fa hp li → zat h 96 = some (.inl (0, 10, fi)) → zat h 74 = some (.inr (.inr (.inr (3, [.ref 44, .ref ra, .ref 76, .ref 78, .ref 80, .ref 88, .int wg, .int ob, .ref 96, .int (nI al), .int pr9, .int sr9, .ref rp, .ref rs, .int fw])))) → zat h rl = some (.inl (0, n9, lf)) → wq 31 0 [(0, .ref 74), (1, .ref rl), (2, .int 0)] [] h 0 0 (fun r => ∃ (h2 : zH) (lf0 : List Int32), r = (none, h2, 0, 0) ∧ wFr [74, rl] h h2 ∧ h2.length = h.length ∧ zat h2 74 = some (.inr (.inr (.inr (3, [.ref 44, .ref ra, .ref 76, .ref 78, .ref 80, .ref 88, .int wg, .int ob, .ref 96, .int (nI al), .int pr9, .int sr9, .ref rp, .ref rs, .int (foG0 sv to li (fun q => (wy.getD q 0).toNatClampNeg) S (so - 1) (lf0, fw)).2])))) ∧ zat h2 rl = some (.inl (0, n9, (foG0 sv to li (fun q => (wy.getD q 0).toNatClampNeg) S (so - 1) (lf0, fw)).1)) ∧ ∀ j, j < n9 → lf0.getD j 0 = 0) := by
  intro hAc hV hHs hF hP hLf
  have hso := hway.1
  refine c_fo20 hP hAc.1 hLf hra hn9 hrl ?_
  intro h2 lf2 f l erl z
  have za := nI_mk (n := so) (by omega)
  refine wq_mono (c_foL0 hra hsp hway hto hn9 hrl hrn (so - 1) (nI so - 2) lf2 fw 0 0 h2 (by omega) (by omega) (wAc_fr hAc f hra (q2_b hrl)) (wFr_at f (q2_d hrl (by omega)) hV) (wHs_fr hHs f (q2_f hrl hrn)) (wFr_at f (q2_d hrl (by decide)) hF) (wFr_at f (q2_d hrl (by decide)) hP) erl) ?_
  rintro _ ⟨h3, rfl, f3, l3, a, b⟩
  exact ⟨h3, lf2, rfl, wFr_tr (wFr_sub f (by simp)) f3, by omega, a, b, z⟩
noncomputable def foG1 (sv : List Int32) (to : Nat → Nat) (li : Nat → List Int64) (wn S : Nat → Nat) : Nat → List Int32 × Int32 → List Int32 × Int32
  | 0, p => p
  | j + 1, p => foG1 sv to li wn S j (fiI1 sv (li (wn j)) (li (wn (j + 1))) (S j) (S (j + 1)) (to (wn j)) (to (wn (j + 1))) (to (wn j) - 0 + 1) 0 p.1 p.2)
set_option maxRecDepth 100000 in
theorem c_foL1 {ra sp so : Nat} {lk hd ht bl sd : Int32} {rt : Int64} {ll lg wy sv fi : List Int32} {po : List Int64} {rp rs al : Nat} {wg ob pr9 sr9 : Int32} {to rL cap : Nat → Nat} {kn ks fa : Nat → Int32} {hp : Nat → List Int32} {li : Nat → List Int64} {S : Nat → Nat} {rl n9 : Nat} (hra : ra = 6 ∨ ra = 20) (hsp : sp ≤ 8) (hway : wWay wy sp so) (hto : ∀ q, q < so → to ((wy.getD q 0).toNatClampNeg) ≤ 600 ∧ to ((wy.getD q 0).toNatClampNeg) ≤ cap ((wy.getD q 0).toNatClampNeg) ∧ fi.getD q 0 = nI (S q) ∧ S q + to ((wy.getD q 0).toNatClampNeg) ≤ n9) (hn9 : n9 ≤ 20000) (hrl : rl = 98 ∨ rl = 100 ∨ 234 ≤ rl) (hrn : ∀ w, w < 8 → rl ≠ rL w) : ∀ (j : Nat) (iv : Int32) (lf : List Int32) (fw : Int32) (dc ds : Nat) (h : zH), iv.toInt + 1 = j → j + 1 ≤ so ∨ j = 0 → wAc h ra sp so lk hd ht bl sd rt ll lg wy po → zat h (ra + 6) = some (.inl (0, 6, sv)) → wHs h to rL cap kn ks fa hp li → zat h 96 = some (.inl (0, 10, fi)) → zat h 74 = some (.inr (.inr (.inr (3, [.ref 44, .ref ra, .ref 76, .ref 78, .ref 80, .ref 88, .int wg, .int ob, .ref 96, .int (nI al), .int pr9, .int sr9, .ref rp, .ref rs, .int fw])))) → zat h rl = some (.inl (0, n9, lf)) → wq 31 15 [(0, .ref 74), (1, .ref rl), (2, .int 1), (3, .int iv)] [] h dc ds (fun r => ∃ (h2 : zH), r = (none, h2, dc, ds) ∧ wFr [74, rl] h h2 ∧ h2.length = h.length ∧ zat h2 74 = some (.inr (.inr (.inr (3, [.ref 44, .ref ra, .ref 76, .ref 78, .ref 80, .ref 88, .int wg, .int ob, .ref 96, .int (nI al), .int pr9, .int sr9, .ref rp, .ref rs, .int (foG1 sv to li (fun q => (wy.getD q 0).toNatClampNeg) S j (lf, fw)).2])))) ∧ zat h2 rl = some (.inl (0, n9, (foG1 sv to li (fun q => (wy.getD q 0).toNatClampNeg) S j (lf, fw)).1))) := by
  intro j
  induction j with
  | zero =>
    intro iv lf fw dc ds h hj hs hAc hV hHs hF hP hLf
    refine c_fo0 (by omega) ?_
    intro h2 f l
    exact ⟨h2, rfl, wFr_sub f (by simp), l, wFr_at f (by simp) hP, wFr_at f (by simp) hLf⟩
  | succ j ih =>
    intro iv lf fw dc ds h hj hs hAc hV hHs hF hP hLf
    have hso := hway.1
    obtain ⟨w, hw, hw8⟩ := hway.2 j (by omega)
    obtain ⟨w2, hw2, hw28⟩ := hway.2 (j + 1) (by omega)
    have hwn : (wy.getD j 0).toNatClampNeg = w := by rw [hw]; exact nI_clamp (by omega)
    have hwn2 : (wy.getD (j + 1) 0).toNatClampNeg = w2 := by rw [hw2]; exact nI_clamp (by omega)
    obtain ⟨t1, t2, t3, t4⟩ := hto j (by omega)
    obtain ⟨u1, u2, u3, u4⟩ := hto (j + 1) (by omega)
    rw [hwn] at t1 t2 t4
    rw [hwn2] at u1 u2 u4
    obtain ⟨hA, hL, hG, hQ, hW, h78⟩ := id hAc
    obtain ⟨b1, b2, b3, b4, b5, b6⟩ := hHs w (by omega)
    obtain ⟨c1, c2, c3, c4, c5, c6⟩ := hHs w2 (by omega)
    have hiv : iv = nI j := Int32.toInt_inj.mp (by rw [nI_toInt (by omega)]; omega)
    rw [hiv]
    have n1 := hrn w (by omega)
    have n2 := hrn w2 (by omega)
    refine c_fo11 hP h78 hA hW hV b1 b3 c1 c3 hF hLf ⟨hw, t3⟩ ⟨hw2, u3⟩ (by omega) hra (by omega) ?_
    intro h2 f l e74 erl
    have za := nI_mj (j := j) (by omega)
    have hAc2 := wAc_fr hAc f hra (q2_a hrl)
    have hV2 := wFr_at f (q2_c hrl (by clear ih n1 n2 b4 c4 hs hrl; omega)) hV
    have hF2 := wFr_at f (q2_c hrl (Or.inr rfl)) hF
    have hHs2 := wHs_fr hHs f (q2_e hHs hrl hrn)
    obtain ⟨pf, hpf⟩ : ∃ x, x = fiI1 sv (li w) (li w2) (S j) (S (j + 1)) (to w) (to w2) (to w - 0 + 1) 0 lf fw := ⟨_, rfl⟩
    rw [← hpf] at e74 erl
    have o2 := q2_o hs
    refine wq_mono (ih (nI j + (-1 : Int32)) pf.1 pf.2 dc ds h2 za o2 hAc2 hV2 hHs2 hF2 e74 erl) ?_
    rintro _ ⟨h3, rfl, f3, l3, a, b⟩
    refine ⟨h3, rfl, wFr_tr f f3, l3.trans l, ?_, ?_⟩
    · rw [a]; simp only [foG1, hwn, hwn2, hpf]
    · rw [b]; simp only [foG1, hwn, hwn2, hpf]
set_option maxRecDepth 100000 in
set_option maxHeartbeats 4000000 in
theorem c_fo21 {h : zH} {Q : zR → Prop} {ra sp so : Nat} {lk hd ht bl sd : Int32} {rt : Int64} {rp rs al : Nat} {wg ob pr9 sr9 fw : Int32} {rl n9 : Nat} {lf : List Int32} (hP : zat h 74 = some (.inr (.inr (.inr (3, [.ref 44, .ref ra, .ref 76, .ref 78, .ref 80, .ref 88, .int wg, .int ob, .ref 96, .int (nI al), .int pr9, .int sr9, .ref rp, .ref rs, .int fw]))))) (hA : zat h ra = some (.inr (.inr (.inr (0, [.int lk, .int hd, .int ht, .int bl, .int sd, .long rt, .ref (ra + 2), .ref (ra + 4), .ref (ra + 6), .int (nI sp), .ref (ra + 8), .ref (ra + 10), .int (nI so), .ref (ra + 12)]))))) (hLf : zat h rl = some (.inl (0, n9, lf))) (hra : ra = 6 ∨ ra = 20) (hn9 : n9 ≤ 20000) (hrl : rl = 98 ∨ rl = 100 ∨ 234 ≤ rl) (kE : ∀ (h2 : zH) (lf2 : List Int32), (wFr [rl] h h2) → (h2.length = h.length) → (zat h2 rl = some (.inl (0, n9, lf2))) → (∀ j, j < n9 → lf2.getD j 0 = 0) → wq 31 15 [(0, .ref 74), (1, .ref rl), (2, .int 1), (3, .int ((nI so) - (2 : Int32)))] [] h2 0 0 Q) : wq 31 0 [(0, .ref 74), (1, .ref rl), (2, .int 1)] [] h 0 0 Q := by
  refine wq_gos (f := 1) (pc2 := 2) (ls2 := [(0, .ref 74), (1, .ref rl), (2, .int 1)]) (st2 := [.int 0, .ref rl]) (h2 := h) (dc2 := 0) (ds2 := 0) 2 rfl ?_
  have q1x : (0 : Int32).toInt = 0 := rfl
  refine wq_inl (y2 := 286) (as := [.ref rl, .int 0]) rfl rfl rfl (wq_mono (c_afl hLf (by first | omega | assumption | decide | solve_by_elim)) ?_)
  rintro _ ⟨h82x, f22x, rfl, f82x, l82x, c02x, p02x⟩
  show wq 31 5 [(0, .ref 74), (1, .ref rl), (2, .int 1)] [] h82x 0 0 _
  refine wq_gos (f := 1) (pc2 := 6) (ls2 := [(0, .ref 74), (1, .ref rl), (2, .int 1)]) (st2 := [.ref 74]) (h2 := h82x) (dc2 := 0) (ds2 := 0) 1 rfl ?_
  have e3x := (f82x.2 _ _ (wnc (by omega) wn0) hP)
  refine wq_getf rfl e3x rfl rfl ?_
  have e4x := (f82x.2 _ _ (wnc (by omega) wn0) hA)
  refine wq_getf rfl e4x rfl rfl ?_
  refine wq_gos (f := 1) (pc2 := 15) (ls2 := [(3, .int ((nI so) - (2 : Int32))), (0, .ref 74), (1, .ref rl), (2, .int 1)]) (st2 := []) (h2 := h82x) (dc2 := 0) (ds2 := 0) 3 rfl ?_
  refine wq_ls [(0, .ref 74), (1, .ref rl), (2, .int 1), (3, .int ((nI so) - (2 : Int32)))] (show ([0, 1, 2, 3] : List Nat).Nodup by decide) ⟨rfl, rfl, rfl, rfl, trivial⟩ ?_
  exact kE h82x f22x (wFr_sub f82x (by simp)) (by omega) c02x (by first | omega | assumption | decide | solve_by_elim)
set_option maxRecDepth 100000 in
theorem c_fle1 {ra sp so : Nat} {lk hd ht bl sd : Int32} {rt : Int64} {ll lg wy sv fi : List Int32} {po : List Int64} {rp rs al : Nat} {wg ob pr9 sr9 : Int32} {to rL cap : Nat → Nat} {kn ks fa : Nat → Int32} {hp : Nat → List Int32} {li : Nat → List Int64} {S : Nat → Nat} {rl n9 : Nat} {lf : List Int32} {fw : Int32} {h : zH} (hra : ra = 6 ∨ ra = 20) (hsp : sp ≤ 8) (hway : wWay wy sp so) (hto : ∀ q, q < so → to ((wy.getD q 0).toNatClampNeg) ≤ 600 ∧ to ((wy.getD q 0).toNatClampNeg) ≤ cap ((wy.getD q 0).toNatClampNeg) ∧ fi.getD q 0 = nI (S q) ∧ S q + to ((wy.getD q 0).toNatClampNeg) ≤ n9) (hn9 : n9 ≤ 20000) (hrl : rl = 98 ∨ rl = 100 ∨ 234 ≤ rl) (hrn : ∀ w, w < 8 → rl ≠ rL w) (h1 : 1 ≤ so) : wAc h ra sp so lk hd ht bl sd rt ll lg wy po → zat h (ra + 6) = some (.inl (0, 6, sv)) → wHs h to rL cap kn ks fa hp li → zat h 96 = some (.inl (0, 10, fi)) → zat h 74 = some (.inr (.inr (.inr (3, [.ref 44, .ref ra, .ref 76, .ref 78, .ref 80, .ref 88, .int wg, .int ob, .ref 96, .int (nI al), .int pr9, .int sr9, .ref rp, .ref rs, .int fw])))) → zat h rl = some (.inl (0, n9, lf)) → wq 31 0 [(0, .ref 74), (1, .ref rl), (2, .int 1)] [] h 0 0 (fun r => ∃ (h2 : zH) (lf0 : List Int32), r = (none, h2, 0, 0) ∧ wFr [74, rl] h h2 ∧ h2.length = h.length ∧ zat h2 74 = some (.inr (.inr (.inr (3, [.ref 44, .ref ra, .ref 76, .ref 78, .ref 80, .ref 88, .int wg, .int ob, .ref 96, .int (nI al), .int pr9, .int sr9, .ref rp, .ref rs, .int (foG1 sv to li (fun q => (wy.getD q 0).toNatClampNeg) S (so - 1) (lf0, fw)).2])))) ∧ zat h2 rl = some (.inl (0, n9, (foG1 sv to li (fun q => (wy.getD q 0).toNatClampNeg) S (so - 1) (lf0, fw)).1)) ∧ ∀ j, j < n9 → lf0.getD j 0 = 0) := by
  intro hAc hV hHs hF hP hLf
  have hso := hway.1
  refine c_fo21 hP hAc.1 hLf hra hn9 hrl ?_
  intro h2 lf2 f l erl z
  have za := nI_mk (n := so) (by omega)
  refine wq_mono (c_foL1 hra hsp hway hto hn9 hrl hrn (so - 1) (nI so - 2) lf2 fw 0 0 h2 (by omega) (by omega) (wAc_fr hAc f hra (q2_b hrl)) (wFr_at f (q2_d hrl (by omega)) hV) (wHs_fr hHs f (q2_f hrl hrn)) (wFr_at f (q2_d hrl (by decide)) hF) (wFr_at f (q2_d hrl (by decide)) hP) erl) ?_
  rintro _ ⟨h3, rfl, f3, l3, a, b⟩
  exact ⟨h3, lf2, rfl, wFr_tr (wFr_sub f (by simp)) f3, by omega, a, b, z⟩
