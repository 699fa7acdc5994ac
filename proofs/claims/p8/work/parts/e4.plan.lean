/-! The class: the planner's choice of the next solution. -/
theorem heldAt {w : Nat} (hw : w < 8) : ([some 102, some 108, some 114, some 120, some 126, some 132, some 138, some 144] : List (Option Nat)).getD (nI w).toNatClampNeg none = some (102 + 6 * w) := by
  rw [nI_clamp (by omega)]
  rcases w with _ | _ | _ | _ | _ | _ | _ | _ | w
  all_goals first | rfl | omega
noncomputable def pnF0 (sv : List Int32) (li : List Int64) (lf : List Int32) (f0 to : Nat) (fr : Int64) : Nat → Int32 → Nat → Int32 → Int32 × Int32
  | 0, _, _, fw => (0, fw)
  | m + 1, pk, k, fw => (if (nI to).toInt ≤ (nI k).toInt then (pk, fw) else (if fw.toInt ≤ (lf.getD (f0 + k) 0).toInt then (pnF0 sv li lf f0 to fr m pk (k + 1) fw) else (if fw.toInt ≤ ((lf.getD (f0 + k) 0) + (tkF sv fr (li.getD k 0) (fw - (lf.getD (f0 + k) 0)) (6 - 0 + 1) 0 0)).toInt then (pnF0 sv li lf f0 to fr m pk (k + 1) fw) else (pnF0 sv li lf f0 to fr m (nI k) (k + 1) ((lf.getD (f0 + k) 0) + (tkF sv fr (li.getD k 0) (fw - (lf.getD (f0 + k) 0)) (6 - 0 + 1) 0 0))))))
set_option maxRecDepth 100000 in
set_option maxHeartbeats 4000000 in
theorem c_pnL0 {rp rs al : Nat} {wg ob pr9 sr9 : Int32} {ra : Nat} {lk hd ht bl sd sp so : Int32} {rt : Int64} {w to rL cap : Nat} {hkn hks hfa : Int32} {li : List Int64} {rl n9 i f0 : Nat} {wy sv fi lf : List Int32} {fr : Int64} {kd : Int32} (hw : wy.getD i 0 = nI w ∧ fi.getD i 0 = nI f0) (hb : w < 8 ∧ i < 10 ∧ f0 + to ≤ n9 ∧ n9 ≤ 20000 ∧ to ≤ cap ∧ cap ≤ 600) (hra : ra = 6 ∨ ra = 20) (hne : (rl = 98 ∨ rl = 100 ∨ 234 ≤ rl) ∧ (rL = 104 + 6 * w ∨ 234 ≤ rL)) : ∀ (m : Nat) (pk : Int32) (k : Nat) (fw : Int32) (h : zH) , (zat h 74 = some (.inr (.inr (.inr (3, [.ref 44, .ref ra, .ref 76, .ref 78, .ref 80, .ref 88, .int wg, .int ob, .ref 96, .int (nI al), .int pr9, .int sr9, .ref rp, .ref rs, .int fw]))))) → (zat h 78 = some (.inr (.inr (.inl (8, [some 102, some 108, some 114, some 120, some 126, some 132, some 138, some 144]))))) → (zat h ra = some (.inr (.inr (.inr (0, [.int lk, .int hd, .int ht, .int bl, .int sd, .long rt, .ref (ra + 2), .ref (ra + 4), .ref (ra + 6), .int sp, .ref (ra + 8), .ref (ra + 10), .int so, .ref (ra + 12)]))))) → (zat h (ra + 12) = some (.inl (0, 10, wy))) → (zat h (ra + 6) = some (.inl (0, 6, sv))) → (zat h (102 + 6 * w) = some (.inr (.inr (.inr (1, [.int hkn, .int (nI to), .ref rL, .ref (102 + 6 * w + 4), .int hks, .int hfa]))))) → (zat h rL = some (.inr (.inl (cap, li)))) → (zat h 96 = some (.inl (0, 10, fi))) → (zat h rl = some (.inl (0, n9, lf))) → (k ≤ to) → (to - k) < m → ∀ (dc ds : Nat), wq 32 46 [(0, .ref 74), (1, .long fr), (3, .int (nI i)), (4, .ref rl), (5, .int 0), (6, .ref (102 + 6 * w)), (7, .int kd), (8, .int pk), (9, .int (nI k))] [] h dc ds (fun rr9 => ∃ (h2 : zH) , rr9 = (some (Value.int ((pnF0 sv li lf f0 to fr m pk k fw).1)), h2, dc, ds) ∧ wFr [74] h h2 ∧ h2.length = h.length ∧ zat h2 74 = some (.inr (.inr (.inr (3, [.ref 44, .ref ra, .ref 76, .ref 78, .ref 80, .ref 88, .int wg, .int ob, .ref 96, .int (nI al), .int pr9, .int sr9, .ref rp, .ref rs, .int ((pnF0 sv li lf f0 to fr m pk k fw).2)]))))) := by
  intro m
  induction m with
  | zero => intro pk k fw h hP hH hA hW hV hE hI hF hLf hk hms dc ds; omega
  | succ m ih =>
    intro pk k fw h hP hH hA hW hV hE hI hF hLf hk hms dc ds
    have qnk := nI_toInt (n := k) (by omega)
    have qnto := nI_toInt (n := to) (by omega)
    have qni := nI_toInt (n := i) (by omega)
    have qnf0 := nI_toInt (n := f0) (by omega)
    refine wq_gos (f := 1) (pc2 := 50) (ls2 := [(0, .ref 74), (1, .long fr), (3, .int (nI i)), (4, .ref rl), (5, .int 0), (6, .ref (102 + 6 * w)), (7, .int kd), (8, .int pk), (9, .int (nI k))]) (st2 := [.ref (102 + 6 * w), .int (nI k)]) (h2 := h) (dc2 := dc) (ds2 := ds) 2 rfl ?_
    refine wq_getf rfl hE rfl rfl ?_
    try have q1x := nI_toInt (n := k) (by omega)
    try have q2x := nI_toInt (n := to) (by omega)
    refine wq_ge2 rfl rfl (fun b3x => ?_) (fun b3x => ?_)
    · refine wq_gos (f := 1) (pc2 := 158) (ls2 := [(0, .ref 74), (1, .long fr), (3, .int (nI i)), (4, .ref rl), (5, .int 0), (6, .ref (102 + 6 * w)), (7, .int kd), (8, .int pk), (9, .int (nI k))]) (st2 := [.int pk]) (h2 := h) (dc2 := dc) (ds2 := ds) 1 rfl ?_
      have hx : (pnF0 sv li lf f0 to fr (m + 1) pk k fw) = (pk, fw) := by show (if _ then _ else _) = _; rw [if_pos b3x]
      rw [hx]
      exact wq_ret rfl rfl ⟨h, rfl, (wFr_rf _ _), by omega, hP⟩
    · refine wq_gos (f := 1) (pc2 := 59) (ls2 := [(0, .ref 74), (1, .long fr), (3, .int (nI i)), (4, .ref rl), (5, .int 0), (6, .ref (102 + 6 * w)), (7, .int kd), (8, .int pk), (9, .int (nI k))]) (st2 := [.ref 74, .ref rl]) (h2 := h) (dc2 := dc) (ds2 := ds) 2 rfl ?_
      refine wq_getf rfl hP rfl rfl ?_
      refine wq_gos (f := 1) (pc2 := 63) (ls2 := [(0, .ref 74), (1, .long fr), (3, .int (nI i)), (4, .ref rl), (5, .int 0), (6, .ref (102 + 6 * w)), (7, .int kd), (8, .int pk), (9, .int (nI k))]) (st2 := [.int (nI i), .ref 96, .ref rl]) (h2 := h) (dc2 := dc) (ds2 := ds) 1 rfl ?_
      try have q4x := nI_toInt (n := i) (by omega)
      refine wq_ialdn rfl hF (by first | omega | exact zin_t (by omega) (by omega)) (by decide) rfl ?_
      refine wq_vi hw.2 ?_
      refine wq_gos (f := 1) (pc2 := 67) (ls2 := [(0, .ref 74), (1, .long fr), (3, .int (nI i)), (4, .ref rl), (5, .int 0), (6, .ref (102 + 6 * w)), (7, .int kd), (8, .int pk), (9, .int (nI k))]) (st2 := [.int ((nI f0) + (nI k)), .ref rl]) (h2 := h) (dc2 := dc) (ds2 := ds) 2 rfl ?_
      refine wq_vi (nI_addn f0 k) ?_
      try have q5x := nI_toInt (n := (f0 + k)) (by omega)
      refine wq_ialdn rfl hLf (by first | omega | exact zin_t (by omega) (by omega)) (by omega) rfl ?_
      refine wq_gos (f := 1) (pc2 := 73) (ls2 := [(10, .int (lf.getD (f0 + k) 0)), (0, .ref 74), (1, .long fr), (3, .int (nI i)), (4, .ref rl), (5, .int 0), (6, .ref (102 + 6 * w)), (7, .int kd), (8, .int pk), (9, .int (nI k))]) (st2 := [.ref 74, .int (lf.getD (f0 + k) 0)]) (h2 := h) (dc2 := dc) (ds2 := ds) 3 rfl ?_
      refine wq_getf rfl hP rfl rfl ?_
      refine wq_ge2 rfl rfl (fun b6x => ?_) (fun b6x => ?_)
      · refine wq_gos (f := 1) (pc2 := 153) (ls2 := [(9, .int ((nI k) + 1)), (10, .int (lf.getD (f0 + k) 0)), (0, .ref 74), (1, .long fr), (3, .int (nI i)), (4, .ref rl), (5, .int 0), (6, .ref (102 + 6 * w)), (7, .int kd), (8, .int pk)]) (st2 := []) (h2 := h) (dc2 := dc) (ds2 := ds) 1 rfl ?_
        rw [nI_1]
        refine wq_gos (f := 1) (pc2 := 46) (ls2 := [(9, .int (nI (k + 1))), (10, .int (lf.getD (f0 + k) 0)), (0, .ref 74), (1, .long fr), (3, .int (nI i)), (4, .ref rl), (5, .int 0), (6, .ref (102 + 6 * w)), (7, .int kd), (8, .int pk)]) (st2 := []) (h2 := h) (dc2 := dc) (ds2 := ds) 1 rfl ?_
        try have q7x := nI_toInt (n := (k + 1)) (by omega)
        have hx : (pnF0 sv li lf f0 to fr (m + 1) pk k fw) = (pnF0 sv li lf f0 to fr m pk (k + 1) fw) := by show (if _ then _ else _) = _; rw [if_neg (Int.not_le.mpr b3x), if_pos b6x]
        rw [hx]
        refine wq_ls [(0, .ref 74), (1, .long fr), (3, .int (nI i)), (4, .ref rl), (5, .int 0), (6, .ref (102 + 6 * w)), (7, .int kd), (8, .int pk), (9, .int (nI (k + 1)))] (show ([0, 1, 3, 4, 5, 6, 7, 8, 9] : List Nat).Nodup by decide) ⟨rfl, rfl, rfl, rfl, rfl, rfl, rfl, rfl, rfl, trivial⟩ ?_
        refine wq_mono (ih pk (k + 1) fw h hP hH hA hW hV hE hI hF hLf (by first | omega | assumption | decide) (by omega) dc ds) ?_
        rintro _ ⟨h9, rfl, f9, l9, y0⟩
        exact ⟨h9, rfl, wFr_tr (wFr_rf _ _) f9, by omega, y0⟩
      · refine wq_gos (f := 1) (pc2 := 106) (ls2 := [(10, .int (lf.getD (f0 + k) 0)), (0, .ref 74), (1, .long fr), (3, .int (nI i)), (4, .ref rl), (5, .int 0), (6, .ref (102 + 6 * w)), (7, .int kd), (8, .int pk), (9, .int (nI k))]) (st2 := [.ref 74, .int (lf.getD (f0 + k) 0)]) (h2 := h) (dc2 := dc) (ds2 := ds) 4 rfl ?_
        refine wq_getf rfl hP rfl rfl ?_
        refine wq_gos (f := 1) (pc2 := 112) (ls2 := [(10, .int (lf.getD (f0 + k) 0)), (0, .ref 74), (1, .long fr), (3, .int (nI i)), (4, .ref rl), (5, .int 0), (6, .ref (102 + 6 * w)), (7, .int kd), (8, .int pk), (9, .int (nI k))]) (st2 := [.ref (102 + 6 * w), .long fr, .ref ra, .int (lf.getD (f0 + k) 0)]) (h2 := h) (dc2 := dc) (ds2 := ds) 2 rfl ?_
        refine wq_getf rfl hE rfl rfl ?_
        refine wq_gos (f := 1) (pc2 := 117) (ls2 := [(10, .int (lf.getD (f0 + k) 0)), (0, .ref 74), (1, .long fr), (3, .int (nI i)), (4, .ref rl), (5, .int 0), (6, .ref (102 + 6 * w)), (7, .int kd), (8, .int pk), (9, .int (nI k))]) (st2 := [.int (nI k), .ref rL, .long fr, .ref ra, .int (lf.getD (f0 + k) 0)]) (h2 := h) (dc2 := dc) (ds2 := ds) 1 rfl ?_
        refine wq_laldn rfl hI (by first | omega | exact zin_t (by omega) (by omega)) (by omega) rfl ?_
        refine wq_gos (f := 1) (pc2 := 119) (ls2 := [(10, .int (lf.getD (f0 + k) 0)), (0, .ref 74), (1, .long fr), (3, .int (nI i)), (4, .ref rl), (5, .int 0), (6, .ref (102 + 6 * w)), (7, .int kd), (8, .int pk), (9, .int (nI k))]) (st2 := [.ref 74, .long (li.getD k 0), .long fr, .ref ra, .int (lf.getD (f0 + k) 0)]) (h2 := h) (dc2 := dc) (ds2 := ds) 1 rfl ?_
        refine wq_getf rfl hP rfl rfl ?_
        refine wq_gos (f := 1) (pc2 := 125) (ls2 := [(10, .int (lf.getD (f0 + k) 0)), (0, .ref 74), (1, .long fr), (3, .int (nI i)), (4, .ref rl), (5, .int 0), (6, .ref (102 + 6 * w)), (7, .int kd), (8, .int pk), (9, .int (nI k))]) (st2 := [.int (fw - (lf.getD (f0 + k) 0)), .long (li.getD k 0), .long fr, .ref ra, .int (lf.getD (f0 + k) 0)]) (h2 := h) (dc2 := dc) (ds2 := ds) 2 rfl ?_
        try have q8x : ((fw - (lf.getD (f0 + k) 0))).toInt = fw.toInt - (lf.getD (f0 + k) 0).toInt := e_sub (by omega) (by omega)
        refine wq_inlv (y2 := 10) (as := [.long fr, .long (li.getD k 0), .int (fw - (lf.getD (f0 + k) 0))]) rfl rfl rfl hA rfl (wq_mono (c_tkb hA hV) ?_)
        rintro _ rfl
        show wq 32 128 [(10, .int (lf.getD (f0 + k) 0)), (0, .ref 74), (1, .long fr), (3, .int (nI i)), (4, .ref rl), (5, .int 0), (6, .ref (102 + 6 * w)), (7, .int kd), (8, .int pk), (9, .int (nI k))] [.int (tkF sv fr (li.getD k 0) (fw - (lf.getD (f0 + k) 0)) (6 - 0 + 1) 0 0), .int (lf.getD (f0 + k) 0)] h dc ds _
        refine wq_gos (f := 1) (pc2 := 134) (ls2 := [(11, .int ((lf.getD (f0 + k) 0) + (tkF sv fr (li.getD k 0) (fw - (lf.getD (f0 + k) 0)) (6 - 0 + 1) 0 0))), (10, .int (lf.getD (f0 + k) 0)), (0, .ref 74), (1, .long fr), (3, .int (nI i)), (4, .ref rl), (5, .int 0), (6, .ref (102 + 6 * w)), (7, .int kd), (8, .int pk), (9, .int (nI k))]) (st2 := [.ref 74, .int ((lf.getD (f0 + k) 0) + (tkF sv fr (li.getD k 0) (fw - (lf.getD (f0 + k) 0)) (6 - 0 + 1) 0 0))]) (h2 := h) (dc2 := dc) (ds2 := ds) 4 rfl ?_
        refine wq_getf rfl hP rfl rfl ?_
        try have q10x : (((lf.getD (f0 + k) 0) + (tkF sv fr (li.getD k 0) (fw - (lf.getD (f0 + k) 0)) (6 - 0 + 1) 0 0))).toInt = (lf.getD (f0 + k) 0).toInt + (tkF sv fr (li.getD k 0) (fw - (lf.getD (f0 + k) 0)) (6 - 0 + 1) 0 0).toInt := e_add (by omega) (by omega)
        refine wq_ge2 rfl rfl (fun b11x => ?_) (fun b11x => ?_)
        · refine wq_gos (f := 1) (pc2 := 153) (ls2 := [(9, .int ((nI k) + 1)), (11, .int ((lf.getD (f0 + k) 0) + (tkF sv fr (li.getD k 0) (fw - (lf.getD (f0 + k) 0)) (6 - 0 + 1) 0 0))), (10, .int (lf.getD (f0 + k) 0)), (0, .ref 74), (1, .long fr), (3, .int (nI i)), (4, .ref rl), (5, .int 0), (6, .ref (102 + 6 * w)), (7, .int kd), (8, .int pk)]) (st2 := []) (h2 := h) (dc2 := dc) (ds2 := ds) 1 rfl ?_
          rw [nI_1]
          refine wq_gos (f := 1) (pc2 := 46) (ls2 := [(9, .int (nI (k + 1))), (11, .int ((lf.getD (f0 + k) 0) + (tkF sv fr (li.getD k 0) (fw - (lf.getD (f0 + k) 0)) (6 - 0 + 1) 0 0))), (10, .int (lf.getD (f0 + k) 0)), (0, .ref 74), (1, .long fr), (3, .int (nI i)), (4, .ref rl), (5, .int 0), (6, .ref (102 + 6 * w)), (7, .int kd), (8, .int pk)]) (st2 := []) (h2 := h) (dc2 := dc) (ds2 := ds) 1 rfl ?_
          try have q12x := nI_toInt (n := (k + 1)) (by omega)
          have hx : (pnF0 sv li lf f0 to fr (m + 1) pk k fw) = (pnF0 sv li lf f0 to fr m pk (k + 1) fw) := by show (if _ then _ else _) = _; rw [if_neg (Int.not_le.mpr b3x), if_neg (Int.not_le.mpr b6x), if_pos b11x]
          rw [hx]
          refine wq_ls [(0, .ref 74), (1, .long fr), (3, .int (nI i)), (4, .ref rl), (5, .int 0), (6, .ref (102 + 6 * w)), (7, .int kd), (8, .int pk), (9, .int (nI (k + 1)))] (show ([0, 1, 3, 4, 5, 6, 7, 8, 9] : List Nat).Nodup by decide) ⟨rfl, rfl, rfl, rfl, rfl, rfl, rfl, rfl, rfl, trivial⟩ ?_
          refine wq_mono (ih pk (k + 1) fw h hP hH hA hW hV hE hI hF hLf (by first | omega | assumption | decide) (by omega) dc ds) ?_
          rintro _ ⟨h9, rfl, f9, l9, y0⟩
          exact ⟨h9, rfl, wFr_tr (wFr_rf _ _) f9, by omega, y0⟩
        · refine wq_gos (f := 1) (pc2 := 143) (ls2 := [(11, .int ((lf.getD (f0 + k) 0) + (tkF sv fr (li.getD k 0) (fw - (lf.getD (f0 + k) 0)) (6 - 0 + 1) 0 0))), (10, .int (lf.getD (f0 + k) 0)), (0, .ref 74), (1, .long fr), (3, .int (nI i)), (4, .ref rl), (5, .int 0), (6, .ref (102 + 6 * w)), (7, .int kd), (8, .int pk), (9, .int (nI k))]) (st2 := [.int ((lf.getD (f0 + k) 0) + (tkF sv fr (li.getD k 0) (fw - (lf.getD (f0 + k) 0)) (6 - 0 + 1) 0 0)), .ref 74]) (h2 := h) (dc2 := dc) (ds2 := ds) 2 rfl ?_
          refine wq_putf rfl hP rfl rfl rfl ?_
          intro h13x e14x f15x l16x
          have e14x : zat h13x 74 = some (.inr (.inr (.inr (3, [.ref 44, .ref ra, .ref 76, .ref 78, .ref 80, .ref 88, .int wg, .int ob, .ref 96, .int (nI al), .int pr9, .int sr9, .ref rp, .ref rs, .int ((lf.getD (f0 + k) 0) + (tkF sv fr (li.getD k 0) (fw - (lf.getD (f0 + k) 0)) (6 - 0 + 1) 0 0))])))) := e14x
          refine wq_gos (f := 1) (pc2 := 153) (ls2 := [(9, .int ((nI k) + 1)), (8, .int (nI k)), (11, .int ((lf.getD (f0 + k) 0) + (tkF sv fr (li.getD k 0) (fw - (lf.getD (f0 + k) 0)) (6 - 0 + 1) 0 0))), (10, .int (lf.getD (f0 + k) 0)), (0, .ref 74), (1, .long fr), (3, .int (nI i)), (4, .ref rl), (5, .int 0), (6, .ref (102 + 6 * w)), (7, .int kd)]) (st2 := []) (h2 := h13x) (dc2 := dc) (ds2 := ds) 3 rfl ?_
          rw [nI_1]
          refine wq_gos (f := 1) (pc2 := 46) (ls2 := [(9, .int (nI (k + 1))), (8, .int (nI k)), (11, .int ((lf.getD (f0 + k) 0) + (tkF sv fr (li.getD k 0) (fw - (lf.getD (f0 + k) 0)) (6 - 0 + 1) 0 0))), (10, .int (lf.getD (f0 + k) 0)), (0, .ref 74), (1, .long fr), (3, .int (nI i)), (4, .ref rl), (5, .int 0), (6, .ref (102 + 6 * w)), (7, .int kd)]) (st2 := []) (h2 := h13x) (dc2 := dc) (ds2 := ds) 1 rfl ?_
          try have q17x := nI_toInt (n := (k + 1)) (by omega)
          have e18x := (f15x.2 _ _ (wnc (by decide) wn0) hH)
          have e19x := (f15x.2 _ _ (wnc (by omega) wn0) hA)
          have e20x := (f15x.2 _ _ (wnc (by omega) wn0) hW)
          have e21x := (f15x.2 _ _ (wnc (by omega) wn0) hV)
          have e22x := (f15x.2 _ _ (wnc (by omega) wn0) hE)
          have e23x := (f15x.2 _ _ (wnc (by omega) wn0) hI)
          have e24x := (f15x.2 _ _ (wnc (by decide) wn0) hF)
          have e25x := (f15x.2 _ _ (wnc (by omega) wn0) hLf)
          have hx : (pnF0 sv li lf f0 to fr (m + 1) pk k fw) = (pnF0 sv li lf f0 to fr m (nI k) (k + 1) ((lf.getD (f0 + k) 0) + (tkF sv fr (li.getD k 0) (fw - (lf.getD (f0 + k) 0)) (6 - 0 + 1) 0 0))) := by show (if _ then _ else _) = _; rw [if_neg (Int.not_le.mpr b3x), if_neg (Int.not_le.mpr b6x), if_neg (Int.not_le.mpr b11x)]
          rw [hx]
          refine wq_ls [(0, .ref 74), (1, .long fr), (3, .int (nI i)), (4, .ref rl), (5, .int 0), (6, .ref (102 + 6 * w)), (7, .int kd), (8, .int (nI k)), (9, .int (nI (k + 1)))] (show ([0, 1, 3, 4, 5, 6, 7, 8, 9] : List Nat).Nodup by decide) ⟨rfl, rfl, rfl, rfl, rfl, rfl, rfl, rfl, rfl, trivial⟩ ?_
          refine wq_mono (ih (nI k) (k + 1) ((lf.getD (f0 + k) 0) + (tkF sv fr (li.getD k 0) (fw - (lf.getD (f0 + k) 0)) (6 - 0 + 1) 0 0)) h13x e14x e18x e19x e20x e21x e22x e23x e24x e25x (by first | omega | assumption | decide) (by omega) dc ds) ?_
          rintro _ ⟨h9, rfl, f9, l9, y0⟩
          exact ⟨h9, rfl, wFr_tr (wFr_sub f15x (by simp)) f9, by omega, y0⟩
set_option maxRecDepth 100000 in
set_option maxHeartbeats 4000000 in
theorem c_pn0 {h : zH} {rp rs al : Nat} {wg ob pr9 sr9 : Int32} {ra : Nat} {lk hd ht bl sd sp so : Int32} {rt : Int64} {w to rL cap : Nat} {hkn hks hfa : Int32} {li : List Int64} {rl n9 i f0 : Nat} {wy sv fi lf : List Int32} {fr : Int64} {fw : Int32} (hP : zat h 74 = some (.inr (.inr (.inr (3, [.ref 44, .ref ra, .ref 76, .ref 78, .ref 80, .ref 88, .int wg, .int ob, .ref 96, .int (nI al), .int pr9, .int sr9, .ref rp, .ref rs, .int fw]))))) (hH : zat h 78 = some (.inr (.inr (.inl (8, [some 102, some 108, some 114, some 120, some 126, some 132, some 138, some 144]))))) (hA : zat h ra = some (.inr (.inr (.inr (0, [.int lk, .int hd, .int ht, .int bl, .int sd, .long rt, .ref (ra + 2), .ref (ra + 4), .ref (ra + 6), .int sp, .ref (ra + 8), .ref (ra + 10), .int so, .ref (ra + 12)]))))) (hW : zat h (ra + 12) = some (.inl (0, 10, wy))) (hV : zat h (ra + 6) = some (.inl (0, 6, sv))) (hE : zat h (102 + 6 * w) = some (.inr (.inr (.inr (1, [.int hkn, .int (nI to), .ref rL, .ref (102 + 6 * w + 4), .int hks, .int hfa]))))) (hI : zat h rL = some (.inr (.inl (cap, li)))) (hF : zat h 96 = some (.inl (0, 10, fi))) (hLf : zat h rl = some (.inl (0, n9, lf))) (hw : wy.getD i 0 = nI w ∧ fi.getD i 0 = nI f0) (hb : w < 8 ∧ i < 10 ∧ f0 + to ≤ n9 ∧ n9 ≤ 20000 ∧ to ≤ cap ∧ cap ≤ 600) (hra : ra = 6 ∨ ra = 20) (hne : (rl = 98 ∨ rl = 100 ∨ 234 ≤ rl) ∧ (rL = 104 + 6 * w ∨ 234 ≤ rL)) : wq 32 0 [(0, .ref 74), (1, .long fr), (3, .int (nI i)), (4, .ref rl), (5, .int 0)] [] h 0 0 (fun rr9 => ∃ (h2 : zH) (pk : Int32) (fw2 : Int32), rr9 = (some (.int pk), h2, 0, 0) ∧ wFr [74] h h2 ∧ h2.length = h.length ∧ zat h2 74 = some (.inr (.inr (.inr (3, [.ref 44, .ref ra, .ref 76, .ref 78, .ref 80, .ref 88, .int wg, .int ob, .ref 96, .int (nI al), .int pr9, .int sr9, .ref rp, .ref rs, .int fw2])))) ∧ (pk, fw2) = pnF0 sv li lf f0 to fr (to - 0 + 1) (-1) 0 1000000) := by
  have qni := nI_toInt (n := i) (by omega)
  refine wq_gos (f := 1) (pc2 := 1) (ls2 := [(0, .ref 74), (1, .long fr), (3, .int (nI i)), (4, .ref rl), (5, .int 0)]) (st2 := [.ref 74]) (h2 := h) (dc2 := 0) (ds2 := 0) 1 rfl ?_
  refine wq_getf rfl hP rfl rfl ?_
  refine wq_gos (f := 1) (pc2 := 5) (ls2 := [(0, .ref 74), (1, .long fr), (3, .int (nI i)), (4, .ref rl), (5, .int 0)]) (st2 := [.ref 74, .ref 78]) (h2 := h) (dc2 := 0) (ds2 := 0) 1 rfl ?_
  refine wq_getf rfl hP rfl rfl ?_
  refine wq_getf rfl hA rfl rfl ?_
  refine wq_gos (f := 1) (pc2 := 12) (ls2 := [(0, .ref 74), (1, .long fr), (3, .int (nI i)), (4, .ref rl), (5, .int 0)]) (st2 := [.int (nI i), .ref (ra + 12), .ref 78]) (h2 := h) (dc2 := 0) (ds2 := 0) 1 rfl ?_
  try have q1x := nI_toInt (n := i) (by omega)
  refine wq_ialdn rfl hW (by first | omega | exact zin_t (by omega) (by omega)) (by decide) rfl ?_
  refine wq_vi hw.1 ?_
  try have q2x := nI_toInt (n := w) (by omega)
  refine wq_aald rfl hH (by first | omega | exact zin_t (by omega) (by omega)) (heldAt (by omega)) rfl ?_
  refine wq_gos (f := 1) (pc2 := 17) (ls2 := [(6, .ref (102 + 6 * w)), (0, .ref 74), (1, .long fr), (3, .int (nI i)), (4, .ref rl), (5, .int 0)]) (st2 := [.long fr]) (h2 := h) (dc2 := 0) (ds2 := 0) 2 rfl ?_
  refine wq_inl (y2 := 39) (as := [.long fr]) rfl rfl rfl (wq_T (c_kind fr h) ?_)
  show wq 32 20 [(6, .ref (102 + 6 * w)), (0, .ref 74), (1, .long fr), (3, .int (nI i)), (4, .ref rl), (5, .int 0)] [.int (jkind fr)] h 0 0 _
  refine wq_gos (f := 1) (pc2 := 28) (ls2 := [(8, .int (-1)), (7, .int (jkind fr)), (6, .ref (102 + 6 * w)), (0, .ref 74), (1, .long fr), (3, .int (nI i)), (4, .ref rl), (5, .int 0)]) (st2 := [.int 1000000, .ref 74]) (h2 := h) (dc2 := 0) (ds2 := 0) 5 rfl ?_
  refine wq_putf rfl hP rfl rfl rfl ?_
  intro h3x e4x f5x l6x
  have e4x : zat h3x 74 = some (.inr (.inr (.inr (3, [.ref 44, .ref ra, .ref 76, .ref 78, .ref 80, .ref 88, .int wg, .int ob, .ref 96, .int (nI al), .int pr9, .int sr9, .ref rp, .ref rs, .int 1000000])))) := e4x
  refine wq_gos (f := 1) (pc2 := 46) (ls2 := [(9, .int 0), (8, .int (-1)), (7, .int (jkind fr)), (6, .ref (102 + 6 * w)), (0, .ref 74), (1, .long fr), (3, .int (nI i)), (4, .ref rl), (5, .int 0)]) (st2 := []) (h2 := h3x) (dc2 := 0) (ds2 := 0) 4 rfl ?_
  have e7x := (f5x.2 _ _ (wnc (by decide) wn0) hH)
  have e8x := (f5x.2 _ _ (wnc (by omega) wn0) hA)
  have e9x := (f5x.2 _ _ (wnc (by omega) wn0) hW)
  have e10x := (f5x.2 _ _ (wnc (by omega) wn0) hV)
  have e11x := (f5x.2 _ _ (wnc (by omega) wn0) hE)
  have e12x := (f5x.2 _ _ (wnc (by omega) wn0) hI)
  have e13x := (f5x.2 _ _ (wnc (by decide) wn0) hF)
  have e14x := (f5x.2 _ _ (wnc (by omega) wn0) hLf)
  refine wq_ls [(0, .ref 74), (1, .long fr), (3, .int (nI i)), (4, .ref rl), (5, .int 0), (6, .ref (102 + 6 * w)), (7, .int (jkind fr)), (8, .int (-1 : Int32)), (9, .int (nI 0))] (show ([0, 1, 3, 4, 5, 6, 7, 8, 9] : List Nat).Nodup by decide) ⟨rfl, rfl, rfl, rfl, rfl, rfl, rfl, rfl, rfl, trivial⟩ ?_
  refine wq_mono (c_pnL0 (by first | omega | assumption | decide) (by first | omega | assumption | decide) (by first | omega | assumption | decide) (by first | omega | assumption | decide) ((to - 0) + 1) (-1 : Int32) 0 (1000000 : Int32) h3x e4x e7x e8x e9x e10x e11x e12x e13x e14x (by first | omega | assumption | decide) (by omega) 0 0) ?_
  rintro _ ⟨h815x, rfl, f815x, l815x, c015x⟩
  exact ⟨h815x, ((pnF0 sv li lf f0 to fr ((to - 0) + 1) (-1 : Int32) 0 (1000000 : Int32)).1), ((pnF0 sv li lf f0 to fr ((to - 0) + 1) (-1 : Int32) 0 (1000000 : Int32)).2), rfl, (wFr_tr (wFr_sub f5x (by simp)) (wFr_sub f815x (by simp))), (by omega), c015x, rfl⟩
noncomputable def pnF1 (sv : List Int32) (li : List Int64) (lf : List Int32) (f0 to : Nat) (fr : Int64) (kd : Int32) : Nat → Int32 → Nat → Int32 → Int32 × Int32
  | 0, _, _, fw => (0, fw)
  | m + 1, pk, k, fw => (if (nI to).toInt ≤ (nI k).toInt then (pk, fw) else (if fw.toInt ≤ (lf.getD (f0 + k) 0).toInt then (pnF1 sv li lf f0 to fr kd m pk (k + 1) fw) else (if (jkind (li.getD k 0)) = kd then (if fw.toInt ≤ ((lf.getD (f0 + k) 0) + (tkF sv fr (li.getD k 0) (fw - (lf.getD (f0 + k) 0)) (6 - 0 + 1) 0 0)).toInt then (pnF1 sv li lf f0 to fr kd m pk (k + 1) fw) else (pnF1 sv li lf f0 to fr kd m (nI k) (k + 1) ((lf.getD (f0 + k) 0) + (tkF sv fr (li.getD k 0) (fw - (lf.getD (f0 + k) 0)) (6 - 0 + 1) 0 0)))) else (pnF1 sv li lf f0 to fr kd m pk (k + 1) fw))))
set_option maxRecDepth 100000 in
set_option maxHeartbeats 4000000 in
theorem c_pnL1 {rp rs al : Nat} {wg ob pr9 sr9 : Int32} {ra : Nat} {lk hd ht bl sd sp so : Int32} {rt : Int64} {w to rL cap : Nat} {hkn hks hfa : Int32} {li : List Int64} {rl n9 i f0 : Nat} {wy sv fi lf : List Int32} {fr : Int64} {kd : Int32} (hw : wy.getD i 0 = nI w ∧ fi.getD i 0 = nI f0) (hb : w < 8 ∧ i < 10 ∧ f0 + to ≤ n9 ∧ n9 ≤ 20000 ∧ to ≤ cap ∧ cap ≤ 600) (hra : ra = 6 ∨ ra = 20) (hne : (rl = 98 ∨ rl = 100 ∨ 234 ≤ rl) ∧ (rL = 104 + 6 * w ∨ 234 ≤ rL)) : ∀ (m : Nat) (pk : Int32) (k : Nat) (fw : Int32) (h : zH) , (zat h 74 = some (.inr (.inr (.inr (3, [.ref 44, .ref ra, .ref 76, .ref 78, .ref 80, .ref 88, .int wg, .int ob, .ref 96, .int (nI al), .int pr9, .int sr9, .ref rp, .ref rs, .int fw]))))) → (zat h 78 = some (.inr (.inr (.inl (8, [some 102, some 108, some 114, some 120, some 126, some 132, some 138, some 144]))))) → (zat h ra = some (.inr (.inr (.inr (0, [.int lk, .int hd, .int ht, .int bl, .int sd, .long rt, .ref (ra + 2), .ref (ra + 4), .ref (ra + 6), .int sp, .ref (ra + 8), .ref (ra + 10), .int so, .ref (ra + 12)]))))) → (zat h (ra + 12) = some (.inl (0, 10, wy))) → (zat h (ra + 6) = some (.inl (0, 6, sv))) → (zat h (102 + 6 * w) = some (.inr (.inr (.inr (1, [.int hkn, .int (nI to), .ref rL, .ref (102 + 6 * w + 4), .int hks, .int hfa]))))) → (zat h rL = some (.inr (.inl (cap, li)))) → (zat h 96 = some (.inl (0, 10, fi))) → (zat h rl = some (.inl (0, n9, lf))) → (k ≤ to) → (to - k) < m → ∀ (dc ds : Nat), wq 32 46 [(0, .ref 74), (1, .long fr), (3, .int (nI i)), (4, .ref rl), (5, .int 1), (6, .ref (102 + 6 * w)), (7, .int kd), (8, .int pk), (9, .int (nI k))] [] h dc ds (fun rr9 => ∃ (h2 : zH) , rr9 = (some (Value.int ((pnF1 sv li lf f0 to fr kd m pk k fw).1)), h2, dc, ds) ∧ wFr [74] h h2 ∧ h2.length = h.length ∧ zat h2 74 = some (.inr (.inr (.inr (3, [.ref 44, .ref ra, .ref 76, .ref 78, .ref 80, .ref 88, .int wg, .int ob, .ref 96, .int (nI al), .int pr9, .int sr9, .ref rp, .ref rs, .int ((pnF1 sv li lf f0 to fr kd m pk k fw).2)]))))) := by
  intro m
  induction m with
  | zero => intro pk k fw h hP hH hA hW hV hE hI hF hLf hk hms dc ds; omega
  | succ m ih =>
    intro pk k fw h hP hH hA hW hV hE hI hF hLf hk hms dc ds
    have qnk := nI_toInt (n := k) (by omega)
    have qnto := nI_toInt (n := to) (by omega)
    have qni := nI_toInt (n := i) (by omega)
    have qnf0 := nI_toInt (n := f0) (by omega)
    refine wq_gos (f := 1) (pc2 := 50) (ls2 := [(0, .ref 74), (1, .long fr), (3, .int (nI i)), (4, .ref rl), (5, .int 1), (6, .ref (102 + 6 * w)), (7, .int kd), (8, .int pk), (9, .int (nI k))]) (st2 := [.ref (102 + 6 * w), .int (nI k)]) (h2 := h) (dc2 := dc) (ds2 := ds) 2 rfl ?_
    refine wq_getf rfl hE rfl rfl ?_
    try have q1x := nI_toInt (n := k) (by omega)
    try have q2x := nI_toInt (n := to) (by omega)
    refine wq_ge2 rfl rfl (fun b3x => ?_) (fun b3x => ?_)
    · refine wq_gos (f := 1) (pc2 := 158) (ls2 := [(0, .ref 74), (1, .long fr), (3, .int (nI i)), (4, .ref rl), (5, .int 1), (6, .ref (102 + 6 * w)), (7, .int kd), (8, .int pk), (9, .int (nI k))]) (st2 := [.int pk]) (h2 := h) (dc2 := dc) (ds2 := ds) 1 rfl ?_
      have hx : (pnF1 sv li lf f0 to fr kd (m + 1) pk k fw) = (pk, fw) := by show (if _ then _ else _) = _; rw [if_pos b3x]
      rw [hx]
      exact wq_ret rfl rfl ⟨h, rfl, (wFr_rf _ _), by omega, hP⟩
    · refine wq_gos (f := 1) (pc2 := 59) (ls2 := [(0, .ref 74), (1, .long fr), (3, .int (nI i)), (4, .ref rl), (5, .int 1), (6, .ref (102 + 6 * w)), (7, .int kd), (8, .int pk), (9, .int (nI k))]) (st2 := [.ref 74, .ref rl]) (h2 := h) (dc2 := dc) (ds2 := ds) 2 rfl ?_
      refine wq_getf rfl hP rfl rfl ?_
      refine wq_gos (f := 1) (pc2 := 63) (ls2 := [(0, .ref 74), (1, .long fr), (3, .int (nI i)), (4, .ref rl), (5, .int 1), (6, .ref (102 + 6 * w)), (7, .int kd), (8, .int pk), (9, .int (nI k))]) (st2 := [.int (nI i), .ref 96, .ref rl]) (h2 := h) (dc2 := dc) (ds2 := ds) 1 rfl ?_
      try have q4x := nI_toInt (n := i) (by omega)
      refine wq_ialdn rfl hF (by first | omega | exact zin_t (by omega) (by omega)) (by decide) rfl ?_
      refine wq_vi hw.2 ?_
      refine wq_gos (f := 1) (pc2 := 67) (ls2 := [(0, .ref 74), (1, .long fr), (3, .int (nI i)), (4, .ref rl), (5, .int 1), (6, .ref (102 + 6 * w)), (7, .int kd), (8, .int pk), (9, .int (nI k))]) (st2 := [.int ((nI f0) + (nI k)), .ref rl]) (h2 := h) (dc2 := dc) (ds2 := ds) 2 rfl ?_
      refine wq_vi (nI_addn f0 k) ?_
      try have q5x := nI_toInt (n := (f0 + k)) (by omega)
      refine wq_ialdn rfl hLf (by first | omega | exact zin_t (by omega) (by omega)) (by omega) rfl ?_
      refine wq_gos (f := 1) (pc2 := 73) (ls2 := [(10, .int (lf.getD (f0 + k) 0)), (0, .ref 74), (1, .long fr), (3, .int (nI i)), (4, .ref rl), (5, .int 1), (6, .ref (102 + 6 * w)), (7, .int kd), (8, .int pk), (9, .int (nI k))]) (st2 := [.ref 74, .int (lf.getD (f0 + k) 0)]) (h2 := h) (dc2 := dc) (ds2 := ds) 3 rfl ?_
      refine wq_getf rfl hP rfl rfl ?_
      refine wq_ge2 rfl rfl (fun b6x => ?_) (fun b6x => ?_)
      · refine wq_gos (f := 1) (pc2 := 153) (ls2 := [(9, .int ((nI k) + 1)), (10, .int (lf.getD (f0 + k) 0)), (0, .ref 74), (1, .long fr), (3, .int (nI i)), (4, .ref rl), (5, .int 1), (6, .ref (102 + 6 * w)), (7, .int kd), (8, .int pk)]) (st2 := []) (h2 := h) (dc2 := dc) (ds2 := ds) 1 rfl ?_
        rw [nI_1]
        refine wq_gos (f := 1) (pc2 := 46) (ls2 := [(9, .int (nI (k + 1))), (10, .int (lf.getD (f0 + k) 0)), (0, .ref 74), (1, .long fr), (3, .int (nI i)), (4, .ref rl), (5, .int 1), (6, .ref (102 + 6 * w)), (7, .int kd), (8, .int pk)]) (st2 := []) (h2 := h) (dc2 := dc) (ds2 := ds) 1 rfl ?_
        try have q7x := nI_toInt (n := (k + 1)) (by omega)
        have hx : (pnF1 sv li lf f0 to fr kd (m + 1) pk k fw) = (pnF1 sv li lf f0 to fr kd m pk (k + 1) fw) := by show (if _ then _ else _) = _; rw [if_neg (Int.not_le.mpr b3x), if_pos b6x]
        rw [hx]
        refine wq_ls [(0, .ref 74), (1, .long fr), (3, .int (nI i)), (4, .ref rl), (5, .int 1), (6, .ref (102 + 6 * w)), (7, .int kd), (8, .int pk), (9, .int (nI (k + 1)))] (show ([0, 1, 3, 4, 5, 6, 7, 8, 9] : List Nat).Nodup by decide) ⟨rfl, rfl, rfl, rfl, rfl, rfl, rfl, rfl, rfl, trivial⟩ ?_
        refine wq_mono (ih pk (k + 1) fw h hP hH hA hW hV hE hI hF hLf (by first | omega | assumption | decide) (by omega) dc ds) ?_
        rintro _ ⟨h9, rfl, f9, l9, y0⟩
        exact ⟨h9, rfl, wFr_tr (wFr_rf _ _) f9, by omega, y0⟩
      · refine wq_gos (f := 1) (pc2 := 86) (ls2 := [(10, .int (lf.getD (f0 + k) 0)), (0, .ref 74), (1, .long fr), (3, .int (nI i)), (4, .ref rl), (5, .int 1), (6, .ref (102 + 6 * w)), (7, .int kd), (8, .int pk), (9, .int (nI k))]) (st2 := [.ref (102 + 6 * w)]) (h2 := h) (dc2 := dc) (ds2 := ds) 3 rfl ?_
        refine wq_getf rfl hE rfl rfl ?_
        refine wq_gos (f := 1) (pc2 := 91) (ls2 := [(10, .int (lf.getD (f0 + k) 0)), (0, .ref 74), (1, .long fr), (3, .int (nI i)), (4, .ref rl), (5, .int 1), (6, .ref (102 + 6 * w)), (7, .int kd), (8, .int pk), (9, .int (nI k))]) (st2 := [.int (nI k), .ref rL]) (h2 := h) (dc2 := dc) (ds2 := ds) 1 rfl ?_
        refine wq_laldn rfl hI (by first | omega | exact zin_t (by omega) (by omega)) (by omega) rfl ?_
        refine wq_inl (y2 := 39) (as := [.long (li.getD k 0)]) rfl rfl rfl (wq_T (c_kind (li.getD k 0) h) ?_)
        show wq 32 95 [(10, .int (lf.getD (f0 + k) 0)), (0, .ref 74), (1, .long fr), (3, .int (nI i)), (4, .ref rl), (5, .int 1), (6, .ref (102 + 6 * w)), (7, .int kd), (8, .int pk), (9, .int (nI k))] [.int (jkind (li.getD k 0))] h dc ds _
        refine wq_gos (f := 1) (pc2 := 97) (ls2 := [(10, .int (lf.getD (f0 + k) 0)), (0, .ref 74), (1, .long fr), (3, .int (nI i)), (4, .ref rl), (5, .int 1), (6, .ref (102 + 6 * w)), (7, .int kd), (8, .int pk), (9, .int (nI k))]) (st2 := [.int kd, .int (jkind (li.getD k 0))]) (h2 := h) (dc2 := dc) (ds2 := ds) 1 rfl ?_
        refine wq_eq2 rfl rfl (fun b8x => ?_) (fun b8x => ?_)
        · have q9x : (jkind (li.getD k 0)).toInt = kd.toInt := congrArg Int32.toInt b8x
          refine wq_gos (f := 1) (pc2 := 106) (ls2 := [(10, .int (lf.getD (f0 + k) 0)), (0, .ref 74), (1, .long fr), (3, .int (nI i)), (4, .ref rl), (5, .int 1), (6, .ref (102 + 6 * w)), (7, .int kd), (8, .int pk), (9, .int (nI k))]) (st2 := [.ref 74, .int (lf.getD (f0 + k) 0)]) (h2 := h) (dc2 := dc) (ds2 := ds) 2 rfl ?_
          refine wq_getf rfl hP rfl rfl ?_
          refine wq_gos (f := 1) (pc2 := 112) (ls2 := [(10, .int (lf.getD (f0 + k) 0)), (0, .ref 74), (1, .long fr), (3, .int (nI i)), (4, .ref rl), (5, .int 1), (6, .ref (102 + 6 * w)), (7, .int kd), (8, .int pk), (9, .int (nI k))]) (st2 := [.ref (102 + 6 * w), .long fr, .ref ra, .int (lf.getD (f0 + k) 0)]) (h2 := h) (dc2 := dc) (ds2 := ds) 2 rfl ?_
          refine wq_getf rfl hE rfl rfl ?_
          refine wq_gos (f := 1) (pc2 := 117) (ls2 := [(10, .int (lf.getD (f0 + k) 0)), (0, .ref 74), (1, .long fr), (3, .int (nI i)), (4, .ref rl), (5, .int 1), (6, .ref (102 + 6 * w)), (7, .int kd), (8, .int pk), (9, .int (nI k))]) (st2 := [.int (nI k), .ref rL, .long fr, .ref ra, .int (lf.getD (f0 + k) 0)]) (h2 := h) (dc2 := dc) (ds2 := ds) 1 rfl ?_
          refine wq_laldn rfl hI (by first | omega | exact zin_t (by omega) (by omega)) (by omega) rfl ?_
          refine wq_gos (f := 1) (pc2 := 119) (ls2 := [(10, .int (lf.getD (f0 + k) 0)), (0, .ref 74), (1, .long fr), (3, .int (nI i)), (4, .ref rl), (5, .int 1), (6, .ref (102 + 6 * w)), (7, .int kd), (8, .int pk), (9, .int (nI k))]) (st2 := [.ref 74, .long (li.getD k 0), .long fr, .ref ra, .int (lf.getD (f0 + k) 0)]) (h2 := h) (dc2 := dc) (ds2 := ds) 1 rfl ?_
          refine wq_getf rfl hP rfl rfl ?_
          refine wq_gos (f := 1) (pc2 := 125) (ls2 := [(10, .int (lf.getD (f0 + k) 0)), (0, .ref 74), (1, .long fr), (3, .int (nI i)), (4, .ref rl), (5, .int 1), (6, .ref (102 + 6 * w)), (7, .int kd), (8, .int pk), (9, .int (nI k))]) (st2 := [.int (fw - (lf.getD (f0 + k) 0)), .long (li.getD k 0), .long fr, .ref ra, .int (lf.getD (f0 + k) 0)]) (h2 := h) (dc2 := dc) (ds2 := ds) 2 rfl ?_
          try have q10x : ((fw - (lf.getD (f0 + k) 0))).toInt = fw.toInt - (lf.getD (f0 + k) 0).toInt := e_sub (by omega) (by omega)
          refine wq_inlv (y2 := 10) (as := [.long fr, .long (li.getD k 0), .int (fw - (lf.getD (f0 + k) 0))]) rfl rfl rfl hA rfl (wq_mono (c_tkb hA hV) ?_)
          rintro _ rfl
          show wq 32 128 [(10, .int (lf.getD (f0 + k) 0)), (0, .ref 74), (1, .long fr), (3, .int (nI i)), (4, .ref rl), (5, .int 1), (6, .ref (102 + 6 * w)), (7, .int kd), (8, .int pk), (9, .int (nI k))] [.int (tkF sv fr (li.getD k 0) (fw - (lf.getD (f0 + k) 0)) (6 - 0 + 1) 0 0), .int (lf.getD (f0 + k) 0)] h dc ds _
          refine wq_gos (f := 1) (pc2 := 134) (ls2 := [(11, .int ((lf.getD (f0 + k) 0) + (tkF sv fr (li.getD k 0) (fw - (lf.getD (f0 + k) 0)) (6 - 0 + 1) 0 0))), (10, .int (lf.getD (f0 + k) 0)), (0, .ref 74), (1, .long fr), (3, .int (nI i)), (4, .ref rl), (5, .int 1), (6, .ref (102 + 6 * w)), (7, .int kd), (8, .int pk), (9, .int (nI k))]) (st2 := [.ref 74, .int ((lf.getD (f0 + k) 0) + (tkF sv fr (li.getD k 0) (fw - (lf.getD (f0 + k) 0)) (6 - 0 + 1) 0 0))]) (h2 := h) (dc2 := dc) (ds2 := ds) 4 rfl ?_
          refine wq_getf rfl hP rfl rfl ?_
          try have q12x : (((lf.getD (f0 + k) 0) + (tkF sv fr (li.getD k 0) (fw - (lf.getD (f0 + k) 0)) (6 - 0 + 1) 0 0))).toInt = (lf.getD (f0 + k) 0).toInt + (tkF sv fr (li.getD k 0) (fw - (lf.getD (f0 + k) 0)) (6 - 0 + 1) 0 0).toInt := e_add (by omega) (by omega)
          refine wq_ge2 rfl rfl (fun b13x => ?_) (fun b13x => ?_)
          · refine wq_gos (f := 1) (pc2 := 153) (ls2 := [(9, .int ((nI k) + 1)), (11, .int ((lf.getD (f0 + k) 0) + (tkF sv fr (li.getD k 0) (fw - (lf.getD (f0 + k) 0)) (6 - 0 + 1) 0 0))), (10, .int (lf.getD (f0 + k) 0)), (0, .ref 74), (1, .long fr), (3, .int (nI i)), (4, .ref rl), (5, .int 1), (6, .ref (102 + 6 * w)), (7, .int kd), (8, .int pk)]) (st2 := []) (h2 := h) (dc2 := dc) (ds2 := ds) 1 rfl ?_
            rw [nI_1]
            refine wq_gos (f := 1) (pc2 := 46) (ls2 := [(9, .int (nI (k + 1))), (11, .int ((lf.getD (f0 + k) 0) + (tkF sv fr (li.getD k 0) (fw - (lf.getD (f0 + k) 0)) (6 - 0 + 1) 0 0))), (10, .int (lf.getD (f0 + k) 0)), (0, .ref 74), (1, .long fr), (3, .int (nI i)), (4, .ref rl), (5, .int 1), (6, .ref (102 + 6 * w)), (7, .int kd), (8, .int pk)]) (st2 := []) (h2 := h) (dc2 := dc) (ds2 := ds) 1 rfl ?_
            try have q14x := nI_toInt (n := (k + 1)) (by omega)
            have hx : (pnF1 sv li lf f0 to fr kd (m + 1) pk k fw) = (pnF1 sv li lf f0 to fr kd m pk (k + 1) fw) := by show (if _ then _ else _) = _; rw [if_neg (Int.not_le.mpr b3x), if_neg (Int.not_le.mpr b6x), if_pos b8x, if_pos b13x]
            rw [hx]
            refine wq_ls [(0, .ref 74), (1, .long fr), (3, .int (nI i)), (4, .ref rl), (5, .int 1), (6, .ref (102 + 6 * w)), (7, .int kd), (8, .int pk), (9, .int (nI (k + 1)))] (show ([0, 1, 3, 4, 5, 6, 7, 8, 9] : List Nat).Nodup by decide) ⟨rfl, rfl, rfl, rfl, rfl, rfl, rfl, rfl, rfl, trivial⟩ ?_
            refine wq_mono (ih pk (k + 1) fw h hP hH hA hW hV hE hI hF hLf (by first | omega | assumption | decide) (by omega) dc ds) ?_
            rintro _ ⟨h9, rfl, f9, l9, y0⟩
            exact ⟨h9, rfl, wFr_tr (wFr_rf _ _) f9, by omega, y0⟩
          · refine wq_gos (f := 1) (pc2 := 143) (ls2 := [(11, .int ((lf.getD (f0 + k) 0) + (tkF sv fr (li.getD k 0) (fw - (lf.getD (f0 + k) 0)) (6 - 0 + 1) 0 0))), (10, .int (lf.getD (f0 + k) 0)), (0, .ref 74), (1, .long fr), (3, .int (nI i)), (4, .ref rl), (5, .int 1), (6, .ref (102 + 6 * w)), (7, .int kd), (8, .int pk), (9, .int (nI k))]) (st2 := [.int ((lf.getD (f0 + k) 0) + (tkF sv fr (li.getD k 0) (fw - (lf.getD (f0 + k) 0)) (6 - 0 + 1) 0 0)), .ref 74]) (h2 := h) (dc2 := dc) (ds2 := ds) 2 rfl ?_
            refine wq_putf rfl hP rfl rfl rfl ?_
            intro h15x e16x f17x l18x
            have e16x : zat h15x 74 = some (.inr (.inr (.inr (3, [.ref 44, .ref ra, .ref 76, .ref 78, .ref 80, .ref 88, .int wg, .int ob, .ref 96, .int (nI al), .int pr9, .int sr9, .ref rp, .ref rs, .int ((lf.getD (f0 + k) 0) + (tkF sv fr (li.getD k 0) (fw - (lf.getD (f0 + k) 0)) (6 - 0 + 1) 0 0))])))) := e16x
            refine wq_gos (f := 1) (pc2 := 153) (ls2 := [(9, .int ((nI k) + 1)), (8, .int (nI k)), (11, .int ((lf.getD (f0 + k) 0) + (tkF sv fr (li.getD k 0) (fw - (lf.getD (f0 + k) 0)) (6 - 0 + 1) 0 0))), (10, .int (lf.getD (f0 + k) 0)), (0, .ref 74), (1, .long fr), (3, .int (nI i)), (4, .ref rl), (5, .int 1), (6, .ref (102 + 6 * w)), (7, .int kd)]) (st2 := []) (h2 := h15x) (dc2 := dc) (ds2 := ds) 3 rfl ?_
            rw [nI_1]
            refine wq_gos (f := 1) (pc2 := 46) (ls2 := [(9, .int (nI (k + 1))), (8, .int (nI k)), (11, .int ((lf.getD (f0 + k) 0) + (tkF sv fr (li.getD k 0) (fw - (lf.getD (f0 + k) 0)) (6 - 0 + 1) 0 0))), (10, .int (lf.getD (f0 + k) 0)), (0, .ref 74), (1, .long fr), (3, .int (nI i)), (4, .ref rl), (5, .int 1), (6, .ref (102 + 6 * w)), (7, .int kd)]) (st2 := []) (h2 := h15x) (dc2 := dc) (ds2 := ds) 1 rfl ?_
            try have q19x := nI_toInt (n := (k + 1)) (by omega)
            have e20x := (f17x.2 _ _ (wnc (by decide) wn0) hH)
            have e21x := (f17x.2 _ _ (wnc (by omega) wn0) hA)
            have e22x := (f17x.2 _ _ (wnc (by omega) wn0) hW)
            have e23x := (f17x.2 _ _ (wnc (by omega) wn0) hV)
            have e24x := (f17x.2 _ _ (wnc (by omega) wn0) hE)
            have e25x := (f17x.2 _ _ (wnc (by omega) wn0) hI)
            have e26x := (f17x.2 _ _ (wnc (by decide) wn0) hF)
            have e27x := (f17x.2 _ _ (wnc (by omega) wn0) hLf)
            have hx : (pnF1 sv li lf f0 to fr kd (m + 1) pk k fw) = (pnF1 sv li lf f0 to fr kd m (nI k) (k + 1) ((lf.getD (f0 + k) 0) + (tkF sv fr (li.getD k 0) (fw - (lf.getD (f0 + k) 0)) (6 - 0 + 1) 0 0))) := by show (if _ then _ else _) = _; rw [if_neg (Int.not_le.mpr b3x), if_neg (Int.not_le.mpr b6x), if_pos b8x, if_neg (Int.not_le.mpr b13x)]
            rw [hx]
            refine wq_ls [(0, .ref 74), (1, .long fr), (3, .int (nI i)), (4, .ref rl), (5, .int 1), (6, .ref (102 + 6 * w)), (7, .int kd), (8, .int (nI k)), (9, .int (nI (k + 1)))] (show ([0, 1, 3, 4, 5, 6, 7, 8, 9] : List Nat).Nodup by decide) ⟨rfl, rfl, rfl, rfl, rfl, rfl, rfl, rfl, rfl, trivial⟩ ?_
            refine wq_mono (ih (nI k) (k + 1) ((lf.getD (f0 + k) 0) + (tkF sv fr (li.getD k 0) (fw - (lf.getD (f0 + k) 0)) (6 - 0 + 1) 0 0)) h15x e16x e20x e21x e22x e23x e24x e25x e26x e27x (by first | omega | assumption | decide) (by omega) dc ds) ?_
            rintro _ ⟨h9, rfl, f9, l9, y0⟩
            exact ⟨h9, rfl, wFr_tr (wFr_sub f17x (by simp)) f9, by omega, y0⟩
        · have q28x : (jkind (li.getD k 0)).toInt ≠ kd.toInt := fun q => b8x (Int32.toInt_inj.mp q)
          refine wq_gos (f := 1) (pc2 := 153) (ls2 := [(9, .int ((nI k) + 1)), (10, .int (lf.getD (f0 + k) 0)), (0, .ref 74), (1, .long fr), (3, .int (nI i)), (4, .ref rl), (5, .int 1), (6, .ref (102 + 6 * w)), (7, .int kd), (8, .int pk)]) (st2 := []) (h2 := h) (dc2 := dc) (ds2 := ds) 2 rfl ?_
          rw [nI_1]
          refine wq_gos (f := 1) (pc2 := 46) (ls2 := [(9, .int (nI (k + 1))), (10, .int (lf.getD (f0 + k) 0)), (0, .ref 74), (1, .long fr), (3, .int (nI i)), (4, .ref rl), (5, .int 1), (6, .ref (102 + 6 * w)), (7, .int kd), (8, .int pk)]) (st2 := []) (h2 := h) (dc2 := dc) (ds2 := ds) 1 rfl ?_
          try have q29x := nI_toInt (n := (k + 1)) (by omega)
          have hx : (pnF1 sv li lf f0 to fr kd (m + 1) pk k fw) = (pnF1 sv li lf f0 to fr kd m pk (k + 1) fw) := by show (if _ then _ else _) = _; rw [if_neg (Int.not_le.mpr b3x), if_neg (Int.not_le.mpr b6x), if_neg b8x]
          rw [hx]
          refine wq_ls [(0, .ref 74), (1, .long fr), (3, .int (nI i)), (4, .ref rl), (5, .int 1), (6, .ref (102 + 6 * w)), (7, .int kd), (8, .int pk), (9, .int (nI (k + 1)))] (show ([0, 1, 3, 4, 5, 6, 7, 8, 9] : List Nat).Nodup by decide) ⟨rfl, rfl, rfl, rfl, rfl, rfl, rfl, rfl, rfl, trivial⟩ ?_
          refine wq_mono (ih pk (k + 1) fw h hP hH hA hW hV hE hI hF hLf (by first | omega | assumption | decide) (by omega) dc ds) ?_
          rintro _ ⟨h9, rfl, f9, l9, y0⟩
          exact ⟨h9, rfl, wFr_tr (wFr_rf _ _) f9, by omega, y0⟩
set_option maxRecDepth 100000 in
set_option maxHeartbeats 4000000 in
theorem c_pn1 {h : zH} {rp rs al : Nat} {wg ob pr9 sr9 : Int32} {ra : Nat} {lk hd ht bl sd sp so : Int32} {rt : Int64} {w to rL cap : Nat} {hkn hks hfa : Int32} {li : List Int64} {rl n9 i f0 : Nat} {wy sv fi lf : List Int32} {fr : Int64} {fw : Int32} (hP : zat h 74 = some (.inr (.inr (.inr (3, [.ref 44, .ref ra, .ref 76, .ref 78, .ref 80, .ref 88, .int wg, .int ob, .ref 96, .int (nI al), .int pr9, .int sr9, .ref rp, .ref rs, .int fw]))))) (hH : zat h 78 = some (.inr (.inr (.inl (8, [some 102, some 108, some 114, some 120, some 126, some 132, some 138, some 144]))))) (hA : zat h ra = some (.inr (.inr (.inr (0, [.int lk, .int hd, .int ht, .int bl, .int sd, .long rt, .ref (ra + 2), .ref (ra + 4), .ref (ra + 6), .int sp, .ref (ra + 8), .ref (ra + 10), .int so, .ref (ra + 12)]))))) (hW : zat h (ra + 12) = some (.inl (0, 10, wy))) (hV : zat h (ra + 6) = some (.inl (0, 6, sv))) (hE : zat h (102 + 6 * w) = some (.inr (.inr (.inr (1, [.int hkn, .int (nI to), .ref rL, .ref (102 + 6 * w + 4), .int hks, .int hfa]))))) (hI : zat h rL = some (.inr (.inl (cap, li)))) (hF : zat h 96 = some (.inl (0, 10, fi))) (hLf : zat h rl = some (.inl (0, n9, lf))) (hw : wy.getD i 0 = nI w ∧ fi.getD i 0 = nI f0) (hb : w < 8 ∧ i < 10 ∧ f0 + to ≤ n9 ∧ n9 ≤ 20000 ∧ to ≤ cap ∧ cap ≤ 600) (hra : ra = 6 ∨ ra = 20) (hne : (rl = 98 ∨ rl = 100 ∨ 234 ≤ rl) ∧ (rL = 104 + 6 * w ∨ 234 ≤ rL)) : wq 32 0 [(0, .ref 74), (1, .long fr), (3, .int (nI i)), (4, .ref rl), (5, .int 1)] [] h 0 0 (fun rr9 => ∃ (h2 : zH) (pk : Int32) (fw2 : Int32), rr9 = (some (.int pk), h2, 0, 0) ∧ wFr [74] h h2 ∧ h2.length = h.length ∧ zat h2 74 = some (.inr (.inr (.inr (3, [.ref 44, .ref ra, .ref 76, .ref 78, .ref 80, .ref 88, .int wg, .int ob, .ref 96, .int (nI al), .int pr9, .int sr9, .ref rp, .ref rs, .int fw2])))) ∧ (pk, fw2) = if jkind fr = 0 then (-1, 1000000) else pnF1 sv li lf f0 to fr (jkind fr) (to - 0 + 1) (-1) 0 1000000) := by
  have qni := nI_toInt (n := i) (by omega)
  refine wq_gos (f := 1) (pc2 := 1) (ls2 := [(0, .ref 74), (1, .long fr), (3, .int (nI i)), (4, .ref rl), (5, .int 1)]) (st2 := [.ref 74]) (h2 := h) (dc2 := 0) (ds2 := 0) 1 rfl ?_
  refine wq_getf rfl hP rfl rfl ?_
  refine wq_gos (f := 1) (pc2 := 5) (ls2 := [(0, .ref 74), (1, .long fr), (3, .int (nI i)), (4, .ref rl), (5, .int 1)]) (st2 := [.ref 74, .ref 78]) (h2 := h) (dc2 := 0) (ds2 := 0) 1 rfl ?_
  refine wq_getf rfl hP rfl rfl ?_
  refine wq_getf rfl hA rfl rfl ?_
  refine wq_gos (f := 1) (pc2 := 12) (ls2 := [(0, .ref 74), (1, .long fr), (3, .int (nI i)), (4, .ref rl), (5, .int 1)]) (st2 := [.int (nI i), .ref (ra + 12), .ref 78]) (h2 := h) (dc2 := 0) (ds2 := 0) 1 rfl ?_
  try have q1x := nI_toInt (n := i) (by omega)
  refine wq_ialdn rfl hW (by first | omega | exact zin_t (by omega) (by omega)) (by decide) rfl ?_
  refine wq_vi hw.1 ?_
  try have q2x := nI_toInt (n := w) (by omega)
  refine wq_aald rfl hH (by first | omega | exact zin_t (by omega) (by omega)) (heldAt (by omega)) rfl ?_
  refine wq_gos (f := 1) (pc2 := 17) (ls2 := [(6, .ref (102 + 6 * w)), (0, .ref 74), (1, .long fr), (3, .int (nI i)), (4, .ref rl), (5, .int 1)]) (st2 := [.long fr]) (h2 := h) (dc2 := 0) (ds2 := 0) 2 rfl ?_
  refine wq_inl (y2 := 39) (as := [.long fr]) rfl rfl rfl (wq_T (c_kind fr h) ?_)
  show wq 32 20 [(6, .ref (102 + 6 * w)), (0, .ref 74), (1, .long fr), (3, .int (nI i)), (4, .ref rl), (5, .int 1)] [.int (jkind fr)] h 0 0 _
  refine wq_gos (f := 1) (pc2 := 28) (ls2 := [(8, .int (-1)), (7, .int (jkind fr)), (6, .ref (102 + 6 * w)), (0, .ref 74), (1, .long fr), (3, .int (nI i)), (4, .ref rl), (5, .int 1)]) (st2 := [.int 1000000, .ref 74]) (h2 := h) (dc2 := 0) (ds2 := 0) 5 rfl ?_
  refine wq_putf rfl hP rfl rfl rfl ?_
  intro h3x e4x f5x l6x
  have e4x : zat h3x 74 = some (.inr (.inr (.inr (3, [.ref 44, .ref ra, .ref 76, .ref 78, .ref 80, .ref 88, .int wg, .int ob, .ref 96, .int (nI al), .int pr9, .int sr9, .ref rp, .ref rs, .int 1000000])))) := e4x
  refine wq_gos (f := 1) (pc2 := 38) (ls2 := [(8, .int (-1)), (7, .int (jkind fr)), (6, .ref (102 + 6 * w)), (0, .ref 74), (1, .long fr), (3, .int (nI i)), (4, .ref rl), (5, .int 1)]) (st2 := [.int (jkind fr)]) (h2 := h3x) (dc2 := 0) (ds2 := 0) 3 rfl ?_
  refine wq_ne0 rfl rfl (fun b7x => ?_) (fun b7x => ?_)
  · have q8x : (jkind fr).toInt ≠ 0 := fun q => b7x (Int32.toInt_inj.mp q)
    refine wq_gos (f := 1) (pc2 := 46) (ls2 := [(9, .int 0), (8, .int (-1)), (7, .int (jkind fr)), (6, .ref (102 + 6 * w)), (0, .ref 74), (1, .long fr), (3, .int (nI i)), (4, .ref rl), (5, .int 1)]) (st2 := []) (h2 := h3x) (dc2 := 0) (ds2 := 0) 2 rfl ?_
    have e9x := (f5x.2 _ _ (wnc (by decide) wn0) hH)
    have e10x := (f5x.2 _ _ (wnc (by omega) wn0) hA)
    have e11x := (f5x.2 _ _ (wnc (by omega) wn0) hW)
    have e12x := (f5x.2 _ _ (wnc (by omega) wn0) hV)
    have e13x := (f5x.2 _ _ (wnc (by omega) wn0) hE)
    have e14x := (f5x.2 _ _ (wnc (by omega) wn0) hI)
    have e15x := (f5x.2 _ _ (wnc (by decide) wn0) hF)
    have e16x := (f5x.2 _ _ (wnc (by omega) wn0) hLf)
    refine wq_ls [(0, .ref 74), (1, .long fr), (3, .int (nI i)), (4, .ref rl), (5, .int 1), (6, .ref (102 + 6 * w)), (7, .int (jkind fr)), (8, .int (-1 : Int32)), (9, .int (nI 0))] (show ([0, 1, 3, 4, 5, 6, 7, 8, 9] : List Nat).Nodup by decide) ⟨rfl, rfl, rfl, rfl, rfl, rfl, rfl, rfl, rfl, trivial⟩ ?_
    refine wq_mono (c_pnL1 (by first | omega | assumption | decide) (by first | omega | assumption | decide) (by first | omega | assumption | decide) (by first | omega | assumption | decide) ((to - 0) + 1) (-1 : Int32) 0 (1000000 : Int32) h3x e4x e9x e10x e11x e12x e13x e14x e15x e16x (by first | omega | assumption | decide) (by omega) 0 0) ?_
    rintro _ ⟨h817x, rfl, f817x, l817x, c017x⟩
    exact ⟨h817x, ((pnF1 sv li lf f0 to fr (jkind fr) ((to - 0) + 1) (-1 : Int32) 0 (1000000 : Int32)).1), ((pnF1 sv li lf f0 to fr (jkind fr) ((to - 0) + 1) (-1 : Int32) 0 (1000000 : Int32)).2), rfl, (wFr_tr (wFr_sub f5x (by simp)) (wFr_sub f817x (by simp))), (by omega), c017x, (by rw [if_neg b7x])⟩
  · have q18x : (jkind fr).toInt = 0 := congrArg Int32.toInt b7x
    refine wq_gos (f := 1) (pc2 := 42) (ls2 := [(8, .int (-1)), (7, .int (jkind fr)), (6, .ref (102 + 6 * w)), (0, .ref 74), (1, .long fr), (3, .int (nI i)), (4, .ref rl), (5, .int 1)]) (st2 := [.int (-1)]) (h2 := h3x) (dc2 := 0) (ds2 := 0) 1 rfl ?_
    exact wq_ret rfl rfl ⟨h3x, (-1 : Int32), (1000000 : Int32), rfl, (wFr_sub f5x (by simp)), (by omega), e4x, (by rw [if_pos b7x])⟩
