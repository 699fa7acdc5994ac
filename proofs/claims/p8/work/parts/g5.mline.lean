/-! The reference: a line, a text. -/
theorem wNm_7 {kn : List Int32} {ns nw : Nat} {v : Int32} (h : wNm kn ns nw) (hv : 1 ≤ v.toInt ∧ v.toInt ≤ 99) : wNm (zset 0 kn 7 v) ns nw := by
  unfold wNm at h ⊢
  rw [zset_get, zset_get, zset_get, zset_get, zset_get, zset_get, zset_get, if_neg (by decide), if_neg (by decide), if_pos rfl, if_neg (by decide), if_neg (by decide), if_neg (by decide), if_neg (by decide)]
  obtain ⟨a, b, c, d, e⟩ := h
  exact ⟨a, b, c, d, by omega⟩
theorem wNm_8 {kn : List Int32} {ns nw : Nat} {v : Int32} (h : wNm kn ns nw) (hv : 1 ≤ v.toInt ∧ v.toInt ≤ 99) : wNm (zset 0 kn 8 v) ns nw := by
  unfold wNm at h ⊢
  rw [zset_get, zset_get, zset_get, zset_get, zset_get, zset_get, zset_get, if_neg (by decide), if_neg (by decide), if_neg (by decide), if_pos rfl, if_neg (by decide), if_neg (by decide), if_neg (by decide)]
  obtain ⟨a, b, c, d, e⟩ := h
  exact ⟨a, b, c, d, by omega⟩
theorem wNm_9 {kn : List Int32} {ns nw : Nat} {v : Int32} (h : wNm kn ns nw) (hv : 1 ≤ v.toInt ∧ v.toInt ≤ 99) : wNm (zset 0 kn 9 v) ns nw := by
  unfold wNm at h ⊢
  rw [zset_get, zset_get, zset_get, zset_get, zset_get, zset_get, zset_get, if_neg (by decide), if_neg (by decide), if_neg (by decide), if_neg (by decide), if_pos rfl, if_neg (by decide), if_neg (by decide)]
  obtain ⟨a, b, c, d, e⟩ := h
  exact ⟨a, b, c, d, by omega⟩
theorem wNm_10 {kn : List Int32} {ns nw : Nat} {v : Int32} (h : wNm kn ns nw) (hv : 0 ≤ v.toInt ∧ v.toInt ≤ 9) : wNm (zset 0 kn 10 v) ns nw := by
  unfold wNm at h ⊢
  rw [zset_get, zset_get, zset_get, zset_get, zset_get, zset_get, zset_get, if_neg (by decide), if_neg (by decide), if_neg (by decide), if_neg (by decide), if_neg (by decide), if_pos rfl, if_neg (by decide)]
  obtain ⟨a, b, c, d, e⟩ := h
  exact ⟨a, b, c, d, by omega⟩
theorem wNm_11 {kn : List Int32} {ns nw : Nat} {v : Int32} (h : wNm kn ns nw) (hv : 0 ≤ v.toInt ∧ v.toInt ≤ 99999) : wNm (zset 0 kn 11 v) ns nw := by
  unfold wNm at h ⊢
  rw [zset_get, zset_get, zset_get, zset_get, zset_get, zset_get, zset_get, if_neg (by decide), if_neg (by decide), if_neg (by decide), if_neg (by decide), if_neg (by decide), if_neg (by decide), if_pos rfl]
  obtain ⟨a, b, c, d, e⟩ := h
  exact ⟨a, b, c, d, by omega⟩
noncomputable def mRdR (tb : List Int32) (sz at9 pl : Nat) (so va ft fp : Int32) (it rt : List Int32) : Int32 × Int32 × Nat × Nat × Int32 × Int32 × List Int32 × List Int32 := (zlet (mOnc tb sz at9 pl so va ft fp 7 it) (fun v3x => (zlet (mRdP tb sz (v3x.2.2.1) (v3x.2.2.2.1) (v3x.2.2.2.2.1) (v3x.2.2.2.2.2.1) (v3x.1) (v3x.2.1) 6 rt) (fun v9x => ((v9x.1), (v9x.2.1), (v9x.2.2.1), (v9x.2.2.2.1), (v9x.2.2.2.2.1), (v9x.2.2.2.2.2.1), (v3x.2.2.2.2.2.2), (v9x.2.2.2.2.2.2))))))
set_option maxRecDepth 100000 in
set_option maxHeartbeats 4000000 in
theorem m_rdR {h : zH} {n0 n2 n14 n22 n23 n27 n28 n32 n33 n34 n35 n39 n52 : Int32} {sz at9 pl : Nat} {so va ft fp : Int32} {tb : List Int32} {a0 : Nat} {it rt : List Int32} (hM : zat h 162 = some (.inr (.inr (.inr (10, mO n0 n2 n14 (nI sz) (nI at9) (nI pl) so va ft fp n22 n23 n27 n28 n32 n33 n34 n35 n39 n52))))) (hT : zat h 164 = some (.inl (0, 700, tb))) (hIt : zat h 182 = some (.inl (2, 10, it))) (hRt : zat h 174 = some (.inl (0, 12, rt))) (hsz : sz ≤ 700) (ha : a0 ≤ at9 ∧ at9 ≤ sz) (hp : pl ≤ at9) (hf0 : 0 ≤ ft.toInt) : wq 181 0 [(0, .ref 162)] [] h 0 0 (fun rr9 => ∃ (h2 : zH), rr9 = (none, h2, 0, 0) ∧ wFr [162, 182, 174] h h2 ∧ h2.length = h.length ∧ zat h2 162 = some (.inr (.inr (.inr (10, mO n0 n2 n14 (nI sz) (nI ((mRdR tb sz at9 pl so va ft fp it rt).2.2.1)) (nI ((mRdR tb sz at9 pl so va ft fp it rt).2.2.2.1)) ((mRdR tb sz at9 pl so va ft fp it rt).2.2.2.2.1) ((mRdR tb sz at9 pl so va ft fp it rt).2.2.2.2.2.1) ((mRdR tb sz at9 pl so va ft fp it rt).1) ((mRdR tb sz at9 pl so va ft fp it rt).2.1) n22 n23 n27 n28 n32 n33 n34 n35 n39 n52)))) ∧ zat h2 182 = some (.inl (2, 10, ((mRdR tb sz at9 pl so va ft fp it rt).2.2.2.2.2.2.1))) ∧ zat h2 174 = some (.inl (0, 12, ((mRdR tb sz at9 pl so va ft fp it rt).2.2.2.2.2.2.2))) ∧ ((a0 ≤ ((mRdR tb sz at9 pl so va ft fp it rt).2.2.1))) ∧ ((((mRdR tb sz at9 pl so va ft fp it rt).2.2.1) ≤ sz)) ∧ ((((mRdR tb sz at9 pl so va ft fp it rt).2.2.2.1) ≤ ((mRdR tb sz at9 pl so va ft fp it rt).2.2.1))) ∧ ((0 ≤ (((mRdR tb sz at9 pl so va ft fp it rt).1)).toInt)) ∧ ((((((mRdR tb sz at9 pl so va ft fp it rt).1)).toInt ≠ 0 ∨ (((mRdR tb sz at9 pl so va ft fp it rt).2.2.2.2.1)).toInt ≠ 4 ∨ a0 < ((mRdR tb sz at9 pl so va ft fp it rt).2.2.1)))) ∧ ((wPL (((mRdR tb sz at9 pl so va ft fp it rt).2.2.2.2.2.2.2)) 6 6))) := by
  have zm1 : (-1 : Int32).toInt = -1 := rfl
  have z0 : (0 : Int32).toInt = 0 := rfl
  have z1 : (1 : Int32).toInt = 1 := rfl
  have z2 : (2 : Int32).toInt = 2 := rfl
  have z3 : (3 : Int32).toInt = 3 := rfl
  have z4 : (4 : Int32).toInt = 4 := rfl
  have z5 : (5 : Int32).toInt = 5 := rfl
  have z6 : (6 : Int32).toInt = 6 := rfl
  have z8 : (8 : Int32).toInt = 8 := rfl
  have z9 : (9 : Int32).toInt = 9 := rfl
  have z10 : (10 : Int32).toInt = 10 := rfl
  have z32 : (32 : Int32).toInt = 32 := rfl
  have z99 : (99 : Int32).toInt = 99 := rfl
  have z99999 : (99999 : Int32).toInt = 99999 := rfl
  refine wq_gos (f := 1) (pc2 := 3) (ls2 := [(0, .ref 162)]) (st2 := [.int 7, .ref 162]) (h2 := h) (dc2 := 0) (ds2 := 0) 2 rfl ?_
  have q1x : (7 : Int32).toInt = 7 := rfl
  refine wq_inlv (y2 := 171) (as := [.int 7]) rfl rfl rfl hM rfl (wq_mono (m_onc (w := 7) hM hT hIt (by first | assumption | omega | decide | solve_by_elim) ⟨Nat.le_refl _, by omega⟩ (by first | assumption | omega | decide | solve_by_elim) (by first | assumption | omega | decide | solve_by_elim) (by first | assumption | omega | decide | solve_by_elim)) ?_)
  rintro _ ⟨h82x, rfl, f82x, l82x, c02x, c12x, p02x, p12x, p22x, p32x, p42x⟩
  show wq 181 6 [(0, .ref 162)] [] h82x 0 0 _
  obtain ⟨v3x, hv4x⟩ : ∃ x, x = (mOnc tb sz at9 pl so va ft fp 7 it) := ⟨_, rfl⟩
  try rw [← hv4x] at c02x
  try rw [← hv4x] at c12x
  try rw [← hv4x] at p02x
  try rw [← hv4x] at p12x
  try rw [← hv4x] at p22x
  try rw [← hv4x] at p32x
  try rw [← hv4x] at p42x
  try rw [← hv4x]
  refine wq_gos (f := 1) (pc2 := 8) (ls2 := [(0, .ref 162)]) (st2 := [.ref 162, .ref 162]) (h2 := h82x) (dc2 := 0) (ds2 := 0) 2 rfl ?_
  refine wq_getf rfl c02x rfl rfl ?_
  refine wq_gos (f := 1) (pc2 := 13) (ls2 := [(0, .ref 162)]) (st2 := [.int 6, .ref 174, .ref 162]) (h2 := h82x) (dc2 := 0) (ds2 := 0) 1 rfl ?_
  have e5x := (f82x.2 _ _ (wnc (by decide) (wnc (by decide) wn0)) hT)
  have e6x := (f82x.2 _ _ (wnc (by decide) (wnc (by decide) wn0)) hRt)
  have q7x : (6 : Int32).toInt = 6 := rfl
  refine wq_inlv (y2 := 172) (as := [.ref 174, .int 6]) rfl rfl rfl c02x rfl (wq_mono (m_rdP (k := 6) c02x e5x e6x (by first | assumption | omega | decide | solve_by_elim) ⟨Nat.le_refl _, by omega⟩ (by first | assumption | omega | decide | solve_by_elim) (by first | assumption | omega | decide | solve_by_elim) (by first | assumption | omega | decide | solve_by_elim) (by first | assumption | omega | decide | solve_by_elim) (fun _ _ => rfl)) ?_)
  rintro _ ⟨h88x, rfl, f88x, l88x, c08x, c18x, p08x, p18x, p28x, p38x, p48x, p58x, p68x⟩
  show wq 181 16 [(0, .ref 162)] [] h88x 0 0 _
  obtain ⟨v9x, hv10x⟩ : ∃ x, x = (mRdP tb sz (v3x.2.2.1) (v3x.2.2.2.1) (v3x.2.2.2.2.1) (v3x.2.2.2.2.2.1) (v3x.1) (v3x.2.1) 6 rt) := ⟨_, rfl⟩
  try rw [← hv10x] at c08x
  try rw [← hv10x] at c18x
  try rw [← hv10x] at p08x
  try rw [← hv10x] at p18x
  try rw [← hv10x] at p28x
  try rw [← hv10x] at p38x
  try rw [← hv10x] at p48x
  try rw [← hv10x] at p58x
  try rw [← hv10x] at p68x
  try rw [← hv10x]
  have e11x := (f88x.2 _ _ (wnc (by decide) (wnc (by decide) wn0)) c12x)
  have hx : (mRdR tb sz at9 pl so va ft fp it rt) = ((v9x.1), (v9x.2.1), (v9x.2.2.1), (v9x.2.2.2.1), (v9x.2.2.2.2.1), (v9x.2.2.2.2.2.1), (v3x.2.2.2.2.2.2), (v9x.2.2.2.2.2.2)) := by unfold mRdR; rw [zlet_eq hv4x, zlet_eq hv10x]
  rw [hx]
  exact wq_ret rfl rfl ⟨h88x, rfl, (wFr_tr (wFr_sub f82x (by simp)) (wFr_sub f88x (by simp))), by omega, c08x, e11x, c18x, (by (try dsimp only); first | assumption | omega | (intro q9; first | assumption | omega)), (by (try dsimp only); first | assumption | omega | (intro q9; first | assumption | omega)), (by (try dsimp only); first | assumption | omega | (intro q9; first | assumption | omega)), (by (try dsimp only); first | assumption | omega | (intro q9; first | assumption | omega)), (by (try dsimp only); first | assumption | omega | (intro q9; first | assumption | omega)), (by (try dsimp only); first | assumption | omega | (intro q9; first | assumption | omega))⟩
noncomputable def mLin (tb : List Int32) (sz at9 pl : Nat) (so va ft fp n14 : Int32) (ns nw : Nat) (kn lo hi sv rt sn sq wy it hl hs : List Int32) : Int32 × Int32 × Nat × Nat × Int32 × Int32 × Int32 × List Int32 × List Int32 × List Int32 × List Int32 × List Int32 × List Int32 × List Int32 × List Int32 × List Int32 × List Int32 × List Int32 := (if so = (0 : Int32) then (if va ≠ (0 : Int32) then (if va ≠ (1 : Int32) then (if va ≠ (2 : Int32) then (if va ≠ (3 : Int32) then (if va ≠ (4 : Int32) then (if va ≠ (5 : Int32) then (if va ≠ (6 : Int32) then (if va ≠ (8 : Int32) then (if va ≠ (9 : Int32) then (zlet (mRdR tb sz at9 pl so va ft fp it rt) (fun v30x => (if (v30x.1) ≠ (0 : Int32) then (zlet (mGo tb sz (v30x.2.2.1) (v30x.2.2.2.1) (v30x.2.2.2.2.1) (v30x.2.2.2.2.2.1) (v30x.1)) (fun v36x => ((v30x.1), (v30x.2.1), (v36x.1), (v36x.2.1), (v36x.2.2.1), (v36x.2.2.2), (n14 + (1 : Int32)), kn, lo, hi, sv, (v30x.2.2.2.2.2.2.2), sn, sq, wy, (v30x.2.2.2.2.2.2.1), hl, hs))) else (if (v30x.2.2.2.2.1) = (4 : Int32) then (zlet (mGo tb sz (v30x.2.2.1) (v30x.2.2.2.1) (v30x.2.2.2.2.1) (v30x.2.2.2.2.2.1) (v30x.1)) (fun v58x => ((v30x.1), (v30x.2.1), (v58x.1), (v58x.2.1), (v58x.2.2.1), (v58x.2.2.2), (n14 + (1 : Int32)), kn, lo, hi, sv, (v30x.2.2.2.2.2.2.2), sn, sq, wy, (v30x.2.2.2.2.2.2.1), hl, hs))) else (zlet (mWro (v30x.2.2.2.1) (v30x.1) (v30x.2.1) (1 : Int32)) (fun v77x => (zlet (mGo tb sz (v30x.2.2.1) (v30x.2.2.2.1) (v30x.2.2.2.2.1) (v30x.2.2.2.2.2.1) (v77x.1)) (fun v81x => ((v77x.1), (v77x.2), (v81x.1), (v81x.2.1), (v81x.2.2.1), (v81x.2.2.2), (n14 + (1 : Int32)), kn, lo, hi, sv, (v30x.2.2.2.2.2.2.2), sn, sq, wy, (v30x.2.2.2.2.2.2.1), hl, hs))))))))) else (zlet (mRdG tb sz at9 pl so va ft fp ns nw kn sn wy) (fun v100x => (if (v100x.1) ≠ (0 : Int32) then (zlet (mGo tb sz (v100x.2.2.1) (v100x.2.2.2.1) (v100x.2.2.2.2.1) (v100x.2.2.2.2.2.1) (v100x.1)) (fun v106x => ((v100x.1), (v100x.2.1), (v106x.1), (v106x.2.1), (v106x.2.2.1), (v106x.2.2.2), (n14 + (1 : Int32)), (v100x.2.2.2.2.2.2.1), lo, hi, sv, rt, sn, sq, (v100x.2.2.2.2.2.2.2), it, hl, hs))) else (if (v100x.2.2.2.2.1) = (4 : Int32) then (zlet (mGo tb sz (v100x.2.2.1) (v100x.2.2.2.1) (v100x.2.2.2.2.1) (v100x.2.2.2.2.2.1) (v100x.1)) (fun v128x => ((v100x.1), (v100x.2.1), (v128x.1), (v128x.2.1), (v128x.2.2.1), (v128x.2.2.2), (n14 + (1 : Int32)), (v100x.2.2.2.2.2.2.1), lo, hi, sv, rt, sn, sq, (v100x.2.2.2.2.2.2.2), it, hl, hs))) else (zlet (mWro (v100x.2.2.2.1) (v100x.1) (v100x.2.1) (1 : Int32)) (fun v147x => (zlet (mGo tb sz (v100x.2.2.1) (v100x.2.2.2.1) (v100x.2.2.2.2.1) (v100x.2.2.2.2.2.1) (v147x.1)) (fun v151x => ((v147x.1), (v147x.2), (v151x.1), (v151x.2.1), (v151x.2.2.1), (v151x.2.2.2), (n14 + (1 : Int32)), (v100x.2.2.2.2.2.2.1), lo, hi, sv, rt, sn, sq, (v100x.2.2.2.2.2.2.2), it, hl, hs)))))))))) else (zlet (mRdO tb sz at9 pl so va ft fp ns kn sn sq) (fun v170x => (if (v170x.1) ≠ (0 : Int32) then (zlet (mGo tb sz (v170x.2.2.1) (v170x.2.2.2.1) (v170x.2.2.2.2.1) (v170x.2.2.2.2.2.1) (v170x.1)) (fun v176x => ((v170x.1), (v170x.2.1), (v176x.1), (v176x.2.1), (v176x.2.2.1), (v176x.2.2.2), (n14 + (1 : Int32)), (v170x.2.2.2.2.2.2.1), lo, hi, sv, rt, (v170x.2.2.2.2.2.2.2.1), (v170x.2.2.2.2.2.2.2.2), wy, it, hl, hs))) else (if (v170x.2.2.2.2.1) = (4 : Int32) then (zlet (mGo tb sz (v170x.2.2.1) (v170x.2.2.2.1) (v170x.2.2.2.2.1) (v170x.2.2.2.2.2.1) (v170x.1)) (fun v198x => ((v170x.1), (v170x.2.1), (v198x.1), (v198x.2.1), (v198x.2.2.1), (v198x.2.2.2), (n14 + (1 : Int32)), (v170x.2.2.2.2.2.2.1), lo, hi, sv, rt, (v170x.2.2.2.2.2.2.2.1), (v170x.2.2.2.2.2.2.2.2), wy, it, hl, hs))) else (zlet (mWro (v170x.2.2.2.1) (v170x.1) (v170x.2.1) (1 : Int32)) (fun v217x => (zlet (mGo tb sz (v170x.2.2.1) (v170x.2.2.2.1) (v170x.2.2.2.2.1) (v170x.2.2.2.2.2.1) (v217x.1)) (fun v221x => ((v217x.1), (v217x.2), (v221x.1), (v221x.2.1), (v221x.2.2.1), (v221x.2.2.2), (n14 + (1 : Int32)), (v170x.2.2.2.2.2.2.1), lo, hi, sv, rt, (v170x.2.2.2.2.2.2.2.1), (v170x.2.2.2.2.2.2.2.2), wy, it, hl, hs)))))))))) else (zlet (mOnc tb sz at9 pl so va ft fp 6 it) (fun v240x => (zlet (mNml tb sz (v240x.2.2.1) (v240x.2.2.2.1) (v240x.2.2.2.2.1) (v240x.2.2.2.2.2.1) (v240x.1) (v240x.2.1) (0 : Int32) (99999 : Int32)) (fun v246x => (if (v246x.2.1) ≠ (0 : Int32) then (zlet (mGo tb sz (v246x.2.2.2.1) (v246x.2.2.2.2.1) (v246x.2.2.2.2.2.1) (v246x.2.2.2.2.2.2) (v246x.2.1)) (fun v259x => ((v246x.2.1), (v246x.2.2.1), (v259x.1), (v259x.2.1), (v259x.2.2.1), (v259x.2.2.2), (n14 + (1 : Int32)), (zset 0 kn 11 (v246x.1)), lo, hi, sv, rt, sn, sq, wy, (v240x.2.2.2.2.2.2), hl, hs))) else (if (v246x.2.2.2.2.2.1) = (4 : Int32) then (zlet (mGo tb sz (v246x.2.2.2.1) (v246x.2.2.2.2.1) (v246x.2.2.2.2.2.1) (v246x.2.2.2.2.2.2) (v246x.2.1)) (fun v281x => ((v246x.2.1), (v246x.2.2.1), (v281x.1), (v281x.2.1), (v281x.2.2.1), (v281x.2.2.2), (n14 + (1 : Int32)), (zset 0 kn 11 (v246x.1)), lo, hi, sv, rt, sn, sq, wy, (v240x.2.2.2.2.2.2), hl, hs))) else (zlet (mWro (v246x.2.2.2.2.1) (v246x.2.1) (v246x.2.2.1) (1 : Int32)) (fun v300x => (zlet (mGo tb sz (v246x.2.2.2.1) (v246x.2.2.2.2.1) (v246x.2.2.2.2.2.1) (v246x.2.2.2.2.2.2) (v300x.1)) (fun v304x => ((v300x.1), (v300x.2), (v304x.1), (v304x.2.1), (v304x.2.2.1), (v304x.2.2.2), (n14 + (1 : Int32)), (zset 0 kn 11 (v246x.1)), lo, hi, sv, rt, sn, sq, wy, (v240x.2.2.2.2.2.2), hl, hs)))))))))))) else (zlet (mOnc tb sz at9 pl so va ft fp 5 it) (fun v323x => (zlet (mNml tb sz (v323x.2.2.1) (v323x.2.2.2.1) (v323x.2.2.2.2.1) (v323x.2.2.2.2.2.1) (v323x.1) (v323x.2.1) (0 : Int32) (9 : Int32)) (fun v329x => (if (v329x.2.1) ≠ (0 : Int32) then (zlet (mGo tb sz (v329x.2.2.2.1) (v329x.2.2.2.2.1) (v329x.2.2.2.2.2.1) (v329x.2.2.2.2.2.2) (v329x.2.1)) (fun v342x => ((v329x.2.1), (v329x.2.2.1), (v342x.1), (v342x.2.1), (v342x.2.2.1), (v342x.2.2.2), (n14 + (1 : Int32)), (zset 0 kn 10 (v329x.1)), lo, hi, sv, rt, sn, sq, wy, (v323x.2.2.2.2.2.2), hl, hs))) else (if (v329x.2.2.2.2.2.1) = (4 : Int32) then (zlet (mGo tb sz (v329x.2.2.2.1) (v329x.2.2.2.2.1) (v329x.2.2.2.2.2.1) (v329x.2.2.2.2.2.2) (v329x.2.1)) (fun v364x => ((v329x.2.1), (v329x.2.2.1), (v364x.1), (v364x.2.1), (v364x.2.2.1), (v364x.2.2.2), (n14 + (1 : Int32)), (zset 0 kn 10 (v329x.1)), lo, hi, sv, rt, sn, sq, wy, (v323x.2.2.2.2.2.2), hl, hs))) else (zlet (mWro (v329x.2.2.2.2.1) (v329x.2.1) (v329x.2.2.1) (1 : Int32)) (fun v383x => (zlet (mGo tb sz (v329x.2.2.2.1) (v329x.2.2.2.2.1) (v329x.2.2.2.2.2.1) (v329x.2.2.2.2.2.2) (v383x.1)) (fun v387x => ((v383x.1), (v383x.2), (v387x.1), (v387x.2.1), (v387x.2.2.1), (v387x.2.2.2), (n14 + (1 : Int32)), (zset 0 kn 10 (v329x.1)), lo, hi, sv, rt, sn, sq, wy, (v323x.2.2.2.2.2.2), hl, hs)))))))))))) else (zlet (mRdS tb sz at9 pl so va ft fp hs sv) (fun v406x => (if (v406x.1) ≠ (0 : Int32) then (zlet (mGo tb sz (v406x.2.2.1) (v406x.2.2.2.1) (v406x.2.2.2.2.1) (v406x.2.2.2.2.2.1) (v406x.1)) (fun v412x => ((v406x.1), (v406x.2.1), (v412x.1), (v412x.2.1), (v412x.2.2.1), (v412x.2.2.2), (n14 + (1 : Int32)), kn, lo, hi, (v406x.2.2.2.2.2.2.2), rt, sn, sq, wy, it, hl, (v406x.2.2.2.2.2.2.1)))) else (if (v406x.2.2.2.2.1) = (4 : Int32) then (zlet (mGo tb sz (v406x.2.2.1) (v406x.2.2.2.1) (v406x.2.2.2.2.1) (v406x.2.2.2.2.2.1) (v406x.1)) (fun v434x => ((v406x.1), (v406x.2.1), (v434x.1), (v434x.2.1), (v434x.2.2.1), (v434x.2.2.2), (n14 + (1 : Int32)), kn, lo, hi, (v406x.2.2.2.2.2.2.2), rt, sn, sq, wy, it, hl, (v406x.2.2.2.2.2.2.1)))) else (zlet (mWro (v406x.2.2.2.1) (v406x.1) (v406x.2.1) (1 : Int32)) (fun v453x => (zlet (mGo tb sz (v406x.2.2.1) (v406x.2.2.2.1) (v406x.2.2.2.2.1) (v406x.2.2.2.2.2.1) (v453x.1)) (fun v457x => ((v453x.1), (v453x.2), (v457x.1), (v457x.2.1), (v457x.2.2.1), (v457x.2.2.2), (n14 + (1 : Int32)), kn, lo, hi, (v406x.2.2.2.2.2.2.2), rt, sn, sq, wy, it, hl, (v406x.2.2.2.2.2.2.1))))))))))) else (zlet (mRdL tb sz at9 pl so va ft fp hl lo hi) (fun v476x => (if (v476x.1) ≠ (0 : Int32) then (zlet (mGo tb sz (v476x.2.2.1) (v476x.2.2.2.1) (v476x.2.2.2.2.1) (v476x.2.2.2.2.2.1) (v476x.1)) (fun v482x => ((v476x.1), (v476x.2.1), (v482x.1), (v482x.2.1), (v482x.2.2.1), (v482x.2.2.2), (n14 + (1 : Int32)), kn, (v476x.2.2.2.2.2.2.2.1), (v476x.2.2.2.2.2.2.2.2), sv, rt, sn, sq, wy, it, (v476x.2.2.2.2.2.2.1), hs))) else (if (v476x.2.2.2.2.1) = (4 : Int32) then (zlet (mGo tb sz (v476x.2.2.1) (v476x.2.2.2.1) (v476x.2.2.2.2.1) (v476x.2.2.2.2.2.1) (v476x.1)) (fun v505x => ((v476x.1), (v476x.2.1), (v505x.1), (v505x.2.1), (v505x.2.2.1), (v505x.2.2.2), (n14 + (1 : Int32)), kn, (v476x.2.2.2.2.2.2.2.1), (v476x.2.2.2.2.2.2.2.2), sv, rt, sn, sq, wy, it, (v476x.2.2.2.2.2.2.1), hs))) else (zlet (mWro (v476x.2.2.2.1) (v476x.1) (v476x.2.1) (1 : Int32)) (fun v524x => (zlet (mGo tb sz (v476x.2.2.1) (v476x.2.2.2.1) (v476x.2.2.2.2.1) (v476x.2.2.2.2.2.1) (v524x.1)) (fun v528x => ((v524x.1), (v524x.2), (v528x.1), (v528x.2.1), (v528x.2.2.1), (v528x.2.2.2), (n14 + (1 : Int32)), kn, (v476x.2.2.2.2.2.2.2.1), (v476x.2.2.2.2.2.2.2.2), sv, rt, sn, sq, wy, it, (v476x.2.2.2.2.2.2.1), hs)))))))))) else (zlet (mOnc tb sz at9 pl so va ft fp 2 it) (fun v547x => (zlet (mNml tb sz (v547x.2.2.1) (v547x.2.2.2.1) (v547x.2.2.2.2.1) (v547x.2.2.2.2.2.1) (v547x.1) (v547x.2.1) (1 : Int32) (99 : Int32)) (fun v552x => (if (v552x.2.1) ≠ (0 : Int32) then (zlet (mGo tb sz (v552x.2.2.2.1) (v552x.2.2.2.2.1) (v552x.2.2.2.2.2.1) (v552x.2.2.2.2.2.2) (v552x.2.1)) (fun v565x => ((v552x.2.1), (v552x.2.2.1), (v565x.1), (v565x.2.1), (v565x.2.2.1), (v565x.2.2.2), (n14 + (1 : Int32)), (zset 0 kn 9 (v552x.1)), lo, hi, sv, rt, sn, sq, wy, (v547x.2.2.2.2.2.2), hl, hs))) else (if (v552x.2.2.2.2.2.1) = (4 : Int32) then (zlet (mGo tb sz (v552x.2.2.2.1) (v552x.2.2.2.2.1) (v552x.2.2.2.2.2.1) (v552x.2.2.2.2.2.2) (v552x.2.1)) (fun v588x => ((v552x.2.1), (v552x.2.2.1), (v588x.1), (v588x.2.1), (v588x.2.2.1), (v588x.2.2.2), (n14 + (1 : Int32)), (zset 0 kn 9 (v552x.1)), lo, hi, sv, rt, sn, sq, wy, (v547x.2.2.2.2.2.2), hl, hs))) else (zlet (mWro (v552x.2.2.2.2.1) (v552x.2.1) (v552x.2.2.1) (1 : Int32)) (fun v607x => (zlet (mGo tb sz (v552x.2.2.2.1) (v552x.2.2.2.2.1) (v552x.2.2.2.2.2.1) (v552x.2.2.2.2.2.2) (v607x.1)) (fun v611x => ((v607x.1), (v607x.2), (v611x.1), (v611x.2.1), (v611x.2.2.1), (v611x.2.2.2), (n14 + (1 : Int32)), (zset 0 kn 9 (v552x.1)), lo, hi, sv, rt, sn, sq, wy, (v547x.2.2.2.2.2.2), hl, hs)))))))))))) else (zlet (mOnc tb sz at9 pl so va ft fp 1 it) (fun v630x => (zlet (mNml tb sz (v630x.2.2.1) (v630x.2.2.2.1) (v630x.2.2.2.2.1) (v630x.2.2.2.2.2.1) (v630x.1) (v630x.2.1) (1 : Int32) (99 : Int32)) (fun v635x => (if (v635x.2.1) ≠ (0 : Int32) then (zlet (mGo tb sz (v635x.2.2.2.1) (v635x.2.2.2.2.1) (v635x.2.2.2.2.2.1) (v635x.2.2.2.2.2.2) (v635x.2.1)) (fun v648x => ((v635x.2.1), (v635x.2.2.1), (v648x.1), (v648x.2.1), (v648x.2.2.1), (v648x.2.2.2), (n14 + (1 : Int32)), (zset 0 kn 8 (v635x.1)), lo, hi, sv, rt, sn, sq, wy, (v630x.2.2.2.2.2.2), hl, hs))) else (if (v635x.2.2.2.2.2.1) = (4 : Int32) then (zlet (mGo tb sz (v635x.2.2.2.1) (v635x.2.2.2.2.1) (v635x.2.2.2.2.2.1) (v635x.2.2.2.2.2.2) (v635x.2.1)) (fun v671x => ((v635x.2.1), (v635x.2.2.1), (v671x.1), (v671x.2.1), (v671x.2.2.1), (v671x.2.2.2), (n14 + (1 : Int32)), (zset 0 kn 8 (v635x.1)), lo, hi, sv, rt, sn, sq, wy, (v630x.2.2.2.2.2.2), hl, hs))) else (zlet (mWro (v635x.2.2.2.2.1) (v635x.2.1) (v635x.2.2.1) (1 : Int32)) (fun v690x => (zlet (mGo tb sz (v635x.2.2.2.1) (v635x.2.2.2.2.1) (v635x.2.2.2.2.2.1) (v635x.2.2.2.2.2.2) (v690x.1)) (fun v694x => ((v690x.1), (v690x.2), (v694x.1), (v694x.2.1), (v694x.2.2.1), (v694x.2.2.2), (n14 + (1 : Int32)), (zset 0 kn 8 (v635x.1)), lo, hi, sv, rt, sn, sq, wy, (v630x.2.2.2.2.2.2), hl, hs)))))))))))) else (zlet (mOnc tb sz at9 pl so va ft fp 0 it) (fun v714x => (zlet (mNml tb sz (v714x.2.2.1) (v714x.2.2.2.1) (v714x.2.2.2.2.1) (v714x.2.2.2.2.2.1) (v714x.1) (v714x.2.1) (1 : Int32) (99 : Int32)) (fun v720x => (if (v720x.2.1) ≠ (0 : Int32) then (zlet (mGo tb sz (v720x.2.2.2.1) (v720x.2.2.2.2.1) (v720x.2.2.2.2.2.1) (v720x.2.2.2.2.2.2) (v720x.2.1)) (fun v733x => ((v720x.2.1), (v720x.2.2.1), (v733x.1), (v733x.2.1), (v733x.2.2.1), (v733x.2.2.2), (n14 + (1 : Int32)), (zset 0 kn 7 (v720x.1)), lo, hi, sv, rt, sn, sq, wy, (v714x.2.2.2.2.2.2), hl, hs))) else (if (v720x.2.2.2.2.2.1) = (4 : Int32) then (zlet (mGo tb sz (v720x.2.2.2.1) (v720x.2.2.2.2.1) (v720x.2.2.2.2.2.1) (v720x.2.2.2.2.2.2) (v720x.2.1)) (fun v756x => ((v720x.2.1), (v720x.2.2.1), (v756x.1), (v756x.2.1), (v756x.2.2.1), (v756x.2.2.2), (n14 + (1 : Int32)), (zset 0 kn 7 (v720x.1)), lo, hi, sv, rt, sn, sq, wy, (v714x.2.2.2.2.2.2), hl, hs))) else (zlet (mWro (v720x.2.2.2.2.1) (v720x.2.1) (v720x.2.2.1) (1 : Int32)) (fun v775x => (zlet (mGo tb sz (v720x.2.2.2.1) (v720x.2.2.2.2.1) (v720x.2.2.2.2.2.1) (v720x.2.2.2.2.2.2) (v775x.1)) (fun v779x => ((v775x.1), (v775x.2), (v779x.1), (v779x.2.1), (v779x.2.2.1), (v779x.2.2.2), (n14 + (1 : Int32)), (zset 0 kn 7 (v720x.1)), lo, hi, sv, rt, sn, sq, wy, (v714x.2.2.2.2.2.2), hl, hs)))))))))))) else (zlet (mWro pl ft fp (1 : Int32)) (fun v799x => (if (v799x.1) ≠ (0 : Int32) then (zlet (mGo tb sz at9 pl so va (v799x.1)) (fun v805x => ((v799x.1), (v799x.2), (v805x.1), (v805x.2.1), (v805x.2.2.1), (v805x.2.2.2), (n14 + (1 : Int32)), kn, lo, hi, sv, rt, sn, sq, wy, it, hl, hs))) else (if so = (4 : Int32) then (zlet (mGo tb sz at9 pl so va (v799x.1)) (fun v828x => ((v799x.1), (v799x.2), (v828x.1), (v828x.2.1), (v828x.2.2.1), (v828x.2.2.2), (n14 + (1 : Int32)), kn, lo, hi, sv, rt, sn, sq, wy, it, hl, hs))) else (zlet (mWro pl (v799x.1) (v799x.2) (1 : Int32)) (fun v847x => (zlet (mGo tb sz at9 pl so va (v847x.1)) (fun v851x => ((v847x.1), (v847x.2), (v851x.1), (v851x.2.1), (v851x.2.2.1), (v851x.2.2.2), (n14 + (1 : Int32)), kn, lo, hi, sv, rt, sn, sq, wy, it, hl, hs))))))))))
set_option maxRecDepth 100000 in
set_option maxHeartbeats 4000000 in
theorem m_lin {h : zH} {n0 n2 n22 n23 n27 n28 n32 n33 n34 n35 n39 n52 : Int32} {sz at9 pl : Nat} {so va ft fp : Int32} {tb : List Int32} {n14 : Int32} {a0 : Nat} {kn lo hi sv rt sn sq wy it hl hs : List Int32} {k0 l0 u0 s0 r0 w0 : List Int32} {ns nw : Nat} (hM : zat h 162 = some (.inr (.inr (.inr (10, mO n0 n2 n14 (nI sz) (nI at9) (nI pl) so va ft fp n22 n23 n27 n28 n32 n33 n34 n35 n39 n52))))) (hT : zat h 164 = some (.inl (0, 700, tb))) (hKn : zat h 166 = some (.inl (0, 14, kn))) (hLo : zat h 168 = some (.inl (0, 12, lo))) (hHi : zat h 170 = some (.inl (0, 12, hi))) (hSv : zat h 172 = some (.inl (0, 12, sv))) (hRt : zat h 174 = some (.inl (0, 12, rt))) (hSn : zat h 176 = some (.inl (0, 16, sn))) (hSq : zat h 178 = some (.inl (0, 96, sq))) (hWy : zat h 180 = some (.inl (0, 20, wy))) (hIt : zat h 182 = some (.inl (2, 10, it))) (hHd : zat h 184 = some (.inl (2, 6, hl))) (hHs : zat h 186 = some (.inl (2, 6, hs))) (hsz : sz ≤ 700) (ha : a0 ≤ at9 ∧ at9 ≤ sz) (hp : pl ≤ at9) (hf0 : 0 ≤ ft.toInt) (hN : wNm kn ns nw) (hL : wL2 lo hi) (hS : wS2 sv) (hR : wPL rt 6 6) (hQ : wQ2 sq ns) (hW : wW2 wy nw ns) (hz : wFz k0 l0 u0 s0 r0 w0 kn lo hi sv sq wy) : wq 180 0 [(0, .ref 162)] [] h 0 0 (fun rr9 => ∃ (h2 : zH), rr9 = (none, h2, 0, 0) ∧ wFr [162, 166, 168, 170, 172, 174, 176, 178, 180, 182, 184, 186] h h2 ∧ h2.length = h.length ∧ zat h2 162 = some (.inr (.inr (.inr (10, mO n0 n2 ((mLin tb sz at9 pl so va ft fp n14 ns nw kn lo hi sv rt sn sq wy it hl hs).2.2.2.2.2.2.1) (nI sz) (nI ((mLin tb sz at9 pl so va ft fp n14 ns nw kn lo hi sv rt sn sq wy it hl hs).2.2.1)) (nI ((mLin tb sz at9 pl so va ft fp n14 ns nw kn lo hi sv rt sn sq wy it hl hs).2.2.2.1)) ((mLin tb sz at9 pl so va ft fp n14 ns nw kn lo hi sv rt sn sq wy it hl hs).2.2.2.2.1) ((mLin tb sz at9 pl so va ft fp n14 ns nw kn lo hi sv rt sn sq wy it hl hs).2.2.2.2.2.1) ((mLin tb sz at9 pl so va ft fp n14 ns nw kn lo hi sv rt sn sq wy it hl hs).1) ((mLin tb sz at9 pl so va ft fp n14 ns nw kn lo hi sv rt sn sq wy it hl hs).2.1) n22 n23 n27 n28 n32 n33 n34 n35 n39 n52)))) ∧ zat h2 166 = some (.inl (0, 14, ((mLin tb sz at9 pl so va ft fp n14 ns nw kn lo hi sv rt sn sq wy it hl hs).2.2.2.2.2.2.2.1))) ∧ zat h2 168 = some (.inl (0, 12, ((mLin tb sz at9 pl so va ft fp n14 ns nw kn lo hi sv rt sn sq wy it hl hs).2.2.2.2.2.2.2.2.1))) ∧ zat h2 170 = some (.inl (0, 12, ((mLin tb sz at9 pl so va ft fp n14 ns nw kn lo hi sv rt sn sq wy it hl hs).2.2.2.2.2.2.2.2.2.1))) ∧ zat h2 172 = some (.inl (0, 12, ((mLin tb sz at9 pl so va ft fp n14 ns nw kn lo hi sv rt sn sq wy it hl hs).2.2.2.2.2.2.2.2.2.2.1))) ∧ zat h2 174 = some (.inl (0, 12, ((mLin tb sz at9 pl so va ft fp n14 ns nw kn lo hi sv rt sn sq wy it hl hs).2.2.2.2.2.2.2.2.2.2.2.1))) ∧ zat h2 176 = some (.inl (0, 16, ((mLin tb sz at9 pl so va ft fp n14 ns nw kn lo hi sv rt sn sq wy it hl hs).2.2.2.2.2.2.2.2.2.2.2.2.1))) ∧ zat h2 178 = some (.inl (0, 96, ((mLin tb sz at9 pl so va ft fp n14 ns nw kn lo hi sv rt sn sq wy it hl hs).2.2.2.2.2.2.2.2.2.2.2.2.2.1))) ∧ zat h2 180 = some (.inl (0, 20, ((mLin tb sz at9 pl so va ft fp n14 ns nw kn lo hi sv rt sn sq wy it hl hs).2.2.2.2.2.2.2.2.2.2.2.2.2.2.1))) ∧ zat h2 182 = some (.inl (2, 10, ((mLin tb sz at9 pl so va ft fp n14 ns nw kn lo hi sv rt sn sq wy it hl hs).2.2.2.2.2.2.2.2.2.2.2.2.2.2.2.1))) ∧ zat h2 184 = some (.inl (2, 6, ((mLin tb sz at9 pl so va ft fp n14 ns nw kn lo hi sv rt sn sq wy it hl hs).2.2.2.2.2.2.2.2.2.2.2.2.2.2.2.2.1))) ∧ zat h2 186 = some (.inl (2, 6, ((mLin tb sz at9 pl so va ft fp n14 ns nw kn lo hi sv rt sn sq wy it hl hs).2.2.2.2.2.2.2.2.2.2.2.2.2.2.2.2.2))) ∧ ((a0 ≤ ((mLin tb sz at9 pl so va ft fp n14 ns nw kn lo hi sv rt sn sq wy it hl hs).2.2.1))) ∧ ((((mLin tb sz at9 pl so va ft fp n14 ns nw kn lo hi sv rt sn sq wy it hl hs).2.2.1) ≤ sz)) ∧ ((((mLin tb sz at9 pl so va ft fp n14 ns nw kn lo hi sv rt sn sq wy it hl hs).2.2.2.1) ≤ ((mLin tb sz at9 pl so va ft fp n14 ns nw kn lo hi sv rt sn sq wy it hl hs).2.2.1))) ∧ ((0 ≤ (((mLin tb sz at9 pl so va ft fp n14 ns nw kn lo hi sv rt sn sq wy it hl hs).1)).toInt)) ∧ (((((mLin tb sz at9 pl so va ft fp n14 ns nw kn lo hi sv rt sn sq wy it hl hs).1)).toInt ≠ 0 ∨ a0 < ((mLin tb sz at9 pl so va ft fp n14 ns nw kn lo hi sv rt sn sq wy it hl hs).2.2.1))) ∧ (((((mLin tb sz at9 pl so va ft fp n14 ns nw kn lo hi sv rt sn sq wy it hl hs).1)).toInt = 0 → wMT (((mLin tb sz at9 pl so va ft fp n14 ns nw kn lo hi sv rt sn sq wy it hl hs).2.2.2.2.2.2.2.1)) (((mLin tb sz at9 pl so va ft fp n14 ns nw kn lo hi sv rt sn sq wy it hl hs).2.2.2.2.2.2.2.2.1)) (((mLin tb sz at9 pl so va ft fp n14 ns nw kn lo hi sv rt sn sq wy it hl hs).2.2.2.2.2.2.2.2.2.1)) (((mLin tb sz at9 pl so va ft fp n14 ns nw kn lo hi sv rt sn sq wy it hl hs).2.2.2.2.2.2.2.2.2.2.1)) (((mLin tb sz at9 pl so va ft fp n14 ns nw kn lo hi sv rt sn sq wy it hl hs).2.2.2.2.2.2.2.2.2.2.2.1)) (((mLin tb sz at9 pl so va ft fp n14 ns nw kn lo hi sv rt sn sq wy it hl hs).2.2.2.2.2.2.2.2.2.2.2.2.2.1)) (((mLin tb sz at9 pl so va ft fp n14 ns nw kn lo hi sv rt sn sq wy it hl hs).2.2.2.2.2.2.2.2.2.2.2.2.2.2.1)))) ∧ ((wFz k0 l0 u0 s0 r0 w0 (((mLin tb sz at9 pl so va ft fp n14 ns nw kn lo hi sv rt sn sq wy it hl hs).2.2.2.2.2.2.2.1)) (((mLin tb sz at9 pl so va ft fp n14 ns nw kn lo hi sv rt sn sq wy it hl hs).2.2.2.2.2.2.2.2.1)) (((mLin tb sz at9 pl so va ft fp n14 ns nw kn lo hi sv rt sn sq wy it hl hs).2.2.2.2.2.2.2.2.2.1)) (((mLin tb sz at9 pl so va ft fp n14 ns nw kn lo hi sv rt sn sq wy it hl hs).2.2.2.2.2.2.2.2.2.2.1)) (((mLin tb sz at9 pl so va ft fp n14 ns nw kn lo hi sv rt sn sq wy it hl hs).2.2.2.2.2.2.2.2.2.2.2.2.2.1)) (((mLin tb sz at9 pl so va ft fp n14 ns nw kn lo hi sv rt sn sq wy it hl hs).2.2.2.2.2.2.2.2.2.2.2.2.2.2.1))))) := by
  have zm1 : (-1 : Int32).toInt = -1 := rfl
  have z0 : (0 : Int32).toInt = 0 := rfl
  have z1 : (1 : Int32).toInt = 1 := rfl
  have z2 : (2 : Int32).toInt = 2 := rfl
  have z3 : (3 : Int32).toInt = 3 := rfl
  have z4 : (4 : Int32).toInt = 4 := rfl
  have z5 : (5 : Int32).toInt = 5 := rfl
  have z6 : (6 : Int32).toInt = 6 := rfl
  have z8 : (8 : Int32).toInt = 8 := rfl
  have z9 : (9 : Int32).toInt = 9 := rfl
  have z10 : (10 : Int32).toInt = 10 := rfl
  have z32 : (32 : Int32).toInt = 32 := rfl
  have z99 : (99 : Int32).toInt = 99 := rfl
  have z99999 : (99999 : Int32).toInt = 99999 := rfl
  refine wq_gos (f := 1) (pc2 := 1) (ls2 := [(0, .ref 162)]) (st2 := [.ref 162]) (h2 := h) (dc2 := 0) (ds2 := 0) 1 rfl ?_
  refine wq_getf rfl hM rfl rfl ?_
  refine wq_eq0 rfl rfl (fun b1x => ?_) (fun b1x => ?_)
  · have q2x : so.toInt = 0 := congrArg Int32.toInt b1x
    refine wq_gos (f := 1) (pc2 := 16) (ls2 := [(0, .ref 162)]) (st2 := [.ref 162]) (h2 := h) (dc2 := 0) (ds2 := 0) 1 rfl ?_
    refine wq_getf rfl hM rfl rfl ?_
    refine wq_ne0 rfl rfl (fun b3x => ?_) (fun b3x => ?_)
    · have q4x : va.toInt ≠ 0 := fun q => b3x (Int32.toInt_inj.mp q)
      refine wq_gos (f := 1) (pc2 := 35) (ls2 := [(0, .ref 162)]) (st2 := [.ref 162]) (h2 := h) (dc2 := 0) (ds2 := 0) 1 rfl ?_
      refine wq_getf rfl hM rfl rfl ?_
      refine wq_gos (f := 1) (pc2 := 39) (ls2 := [(0, .ref 162)]) (st2 := [.int 1, .int va]) (h2 := h) (dc2 := 0) (ds2 := 0) 1 rfl ?_
      have q5x : (1 : Int32).toInt = 1 := rfl
      refine wq_ne2 rfl rfl (fun b6x => ?_) (fun b6x => ?_)
      · have q7x : va.toInt ≠ 1 := fun q => b6x (Int32.toInt_inj.mp q)
        refine wq_gos (f := 1) (pc2 := 55) (ls2 := [(0, .ref 162)]) (st2 := [.ref 162]) (h2 := h) (dc2 := 0) (ds2 := 0) 1 rfl ?_
        refine wq_getf rfl hM rfl rfl ?_
        refine wq_gos (f := 1) (pc2 := 59) (ls2 := [(0, .ref 162)]) (st2 := [.int 2, .int va]) (h2 := h) (dc2 := 0) (ds2 := 0) 1 rfl ?_
        have q8x : (2 : Int32).toInt = 2 := rfl
        refine wq_ne2 rfl rfl (fun b9x => ?_) (fun b9x => ?_)
        · have q10x : va.toInt ≠ 2 := fun q => b9x (Int32.toInt_inj.mp q)
          refine wq_gos (f := 1) (pc2 := 75) (ls2 := [(0, .ref 162)]) (st2 := [.ref 162]) (h2 := h) (dc2 := 0) (ds2 := 0) 1 rfl ?_
          refine wq_getf rfl hM rfl rfl ?_
          refine wq_gos (f := 1) (pc2 := 79) (ls2 := [(0, .ref 162)]) (st2 := [.int 3, .int va]) (h2 := h) (dc2 := 0) (ds2 := 0) 1 rfl ?_
          have q11x : (3 : Int32).toInt = 3 := rfl
          refine wq_ne2 rfl rfl (fun b12x => ?_) (fun b12x => ?_)
          · have q13x : va.toInt ≠ 3 := fun q => b12x (Int32.toInt_inj.mp q)
            refine wq_gos (f := 1) (pc2 := 90) (ls2 := [(0, .ref 162)]) (st2 := [.ref 162]) (h2 := h) (dc2 := 0) (ds2 := 0) 1 rfl ?_
            refine wq_getf rfl hM rfl rfl ?_
            refine wq_gos (f := 1) (pc2 := 94) (ls2 := [(0, .ref 162)]) (st2 := [.int 4, .int va]) (h2 := h) (dc2 := 0) (ds2 := 0) 1 rfl ?_
            have q14x : (4 : Int32).toInt = 4 := rfl
            refine wq_ne2 rfl rfl (fun b15x => ?_) (fun b15x => ?_)
            · have q16x : va.toInt ≠ 4 := fun q => b15x (Int32.toInt_inj.mp q)
              refine wq_gos (f := 1) (pc2 := 105) (ls2 := [(0, .ref 162)]) (st2 := [.ref 162]) (h2 := h) (dc2 := 0) (ds2 := 0) 1 rfl ?_
              refine wq_getf rfl hM rfl rfl ?_
              refine wq_gos (f := 1) (pc2 := 109) (ls2 := [(0, .ref 162)]) (st2 := [.int 5, .int va]) (h2 := h) (dc2 := 0) (ds2 := 0) 1 rfl ?_
              have q17x : (5 : Int32).toInt = 5 := rfl
              refine wq_ne2 rfl rfl (fun b18x => ?_) (fun b18x => ?_)
              · have q19x : va.toInt ≠ 5 := fun q => b18x (Int32.toInt_inj.mp q)
                refine wq_gos (f := 1) (pc2 := 125) (ls2 := [(0, .ref 162)]) (st2 := [.ref 162]) (h2 := h) (dc2 := 0) (ds2 := 0) 1 rfl ?_
                refine wq_getf rfl hM rfl rfl ?_
                refine wq_gos (f := 1) (pc2 := 130) (ls2 := [(0, .ref 162)]) (st2 := [.int 6, .int va]) (h2 := h) (dc2 := 0) (ds2 := 0) 1 rfl ?_
                have q20x : (6 : Int32).toInt = 6 := rfl
                refine wq_ne2 rfl rfl (fun b21x => ?_) (fun b21x => ?_)
                · have q22x : va.toInt ≠ 6 := fun q => b21x (Int32.toInt_inj.mp q)
                  refine wq_gos (f := 1) (pc2 := 147) (ls2 := [(0, .ref 162)]) (st2 := [.ref 162]) (h2 := h) (dc2 := 0) (ds2 := 0) 1 rfl ?_
                  refine wq_getf rfl hM rfl rfl ?_
                  refine wq_gos (f := 1) (pc2 := 152) (ls2 := [(0, .ref 162)]) (st2 := [.int 8, .int va]) (h2 := h) (dc2 := 0) (ds2 := 0) 1 rfl ?_
                  have q23x : (8 : Int32).toInt = 8 := rfl
                  refine wq_ne2 rfl rfl (fun b24x => ?_) (fun b24x => ?_)
                  · have q25x : va.toInt ≠ 8 := fun q => b24x (Int32.toInt_inj.mp q)
                    refine wq_gos (f := 1) (pc2 := 163) (ls2 := [(0, .ref 162)]) (st2 := [.ref 162]) (h2 := h) (dc2 := 0) (ds2 := 0) 1 rfl ?_
                    refine wq_getf rfl hM rfl rfl ?_
                    refine wq_gos (f := 1) (pc2 := 168) (ls2 := [(0, .ref 162)]) (st2 := [.int 9, .int va]) (h2 := h) (dc2 := 0) (ds2 := 0) 1 rfl ?_
                    have q26x : (9 : Int32).toInt = 9 := rfl
                    refine wq_ne2 rfl rfl (fun b27x => ?_) (fun b27x => ?_)
                    · have q28x : va.toInt ≠ 9 := fun q => b27x (Int32.toInt_inj.mp q)
                      refine wq_gos (f := 1) (pc2 := 179) (ls2 := [(0, .ref 162)]) (st2 := [.ref 162]) (h2 := h) (dc2 := 0) (ds2 := 0) 1 rfl ?_
                      refine wq_inlv (y2 := 181) (as := []) rfl rfl rfl hM rfl (wq_mono (m_rdR hM hT hIt hRt (by first | assumption | omega | decide | solve_by_elim) ⟨Nat.le_refl _, by omega⟩ (by first | assumption | omega | decide | solve_by_elim) (by first | assumption | omega | decide | solve_by_elim)) ?_)
                      rintro _ ⟨h829x, rfl, f829x, l829x, c029x, c129x, c229x, p029x, p129x, p229x, p329x, p429x, p529x⟩
                      show wq 180 182 [(0, .ref 162)] [] h829x 0 0 _
                      obtain ⟨v30x, hv31x⟩ : ∃ x, x = (mRdR tb sz at9 pl so va ft fp it rt) := ⟨_, rfl⟩
                      try rw [← hv31x] at c029x
                      try rw [← hv31x] at c129x
                      try rw [← hv31x] at c229x
                      try rw [← hv31x] at p029x
                      try rw [← hv31x] at p129x
                      try rw [← hv31x] at p229x
                      try rw [← hv31x] at p329x
                      try rw [← hv31x] at p429x
                      try rw [← hv31x] at p529x
                      try rw [← hv31x]
                      have hX9 := p529x
                      refine wq_gos (f := 1) (pc2 := 183) (ls2 := [(0, .ref 162)]) (st2 := [.ref 162]) (h2 := h829x) (dc2 := 0) (ds2 := 0) 1 rfl ?_
                      refine wq_getf rfl c029x rfl rfl ?_
                      refine wq_ne0 rfl rfl (fun b32x => ?_) (fun b32x => ?_)
                      · have q33x : (v30x.1).toInt ≠ 0 := fun q => b32x (Int32.toInt_inj.mp q)
                        refine wq_gos (f := 1) (pc2 := 203) (ls2 := [(0, .ref 162)]) (st2 := [.ref 162]) (h2 := h829x) (dc2 := 0) (ds2 := 0) 1 rfl ?_
                        have e34x := (f829x.2 _ _ (wnc (by decide) (wnc (by decide) (wnc (by decide) wn0))) hT)
                        refine wq_inlv (y2 := 164) (as := []) rfl rfl rfl c029x rfl (wq_mono (m_go c029x e34x (by first | assumption | omega | decide | solve_by_elim) ⟨Nat.le_refl _, by omega⟩ (by first | assumption | omega | decide | solve_by_elim)) ?_)
                        rintro _ ⟨h835x, rfl, f835x, l835x, c035x, p035x, p135x, p235x, p335x⟩
                        show wq 180 206 [(0, .ref 162)] [] h835x 0 0 _
                        obtain ⟨v36x, hv37x⟩ : ∃ x, x = (mGo tb sz (v30x.2.2.1) (v30x.2.2.2.1) (v30x.2.2.2.2.1) (v30x.2.2.2.2.2.1) (v30x.1)) := ⟨_, rfl⟩
                        try rw [← hv37x] at c035x
                        try rw [← hv37x] at p035x
                        try rw [← hv37x] at p135x
                        try rw [← hv37x] at p235x
                        try rw [← hv37x] at p335x
                        try rw [← hv37x]
                        refine wq_gos (f := 1) (pc2 := 208) (ls2 := [(0, .ref 162)]) (st2 := [.ref 162, .ref 162]) (h2 := h835x) (dc2 := 0) (ds2 := 0) 2 rfl ?_
                        refine wq_getf rfl c035x rfl rfl ?_
                        refine wq_gos (f := 1) (pc2 := 213) (ls2 := [(0, .ref 162)]) (st2 := [.int (n14 + (1 : Int32)), .ref 162]) (h2 := h835x) (dc2 := 0) (ds2 := 0) 2 rfl ?_
                        refine wq_putf rfl c035x rfl rfl rfl ?_
                        intro hh38x e39x ff40x lh41x
                        have e39x : zat hh38x 162 = some (.inr (.inr (.inr (10, mO n0 n2 (n14 + (1 : Int32)) (nI sz) (nI (v36x.1)) (nI (v36x.2.1)) (v36x.2.2.1) (v36x.2.2.2) (v30x.1) (v30x.2.1) n22 n23 n27 n28 n32 n33 n34 n35 n39 n52)))) := e39x
                        have e42x := (ff40x.2 _ _ (wnc (by decide) wn0) (f835x.2 _ _ (wnc (by decide) wn0) (f829x.2 _ _ (wnc (by decide) (wnc (by decide) (wnc (by decide) wn0))) hKn)))
                        have e43x := (ff40x.2 _ _ (wnc (by decide) wn0) (f835x.2 _ _ (wnc (by decide) wn0) (f829x.2 _ _ (wnc (by decide) (wnc (by decide) (wnc (by decide) wn0))) hLo)))
                        have e44x := (ff40x.2 _ _ (wnc (by decide) wn0) (f835x.2 _ _ (wnc (by decide) wn0) (f829x.2 _ _ (wnc (by decide) (wnc (by decide) (wnc (by decide) wn0))) hHi)))
                        have e45x := (ff40x.2 _ _ (wnc (by decide) wn0) (f835x.2 _ _ (wnc (by decide) wn0) (f829x.2 _ _ (wnc (by decide) (wnc (by decide) (wnc (by decide) wn0))) hSv)))
                        have e46x := (ff40x.2 _ _ (wnc (by decide) wn0) (f835x.2 _ _ (wnc (by decide) wn0) c229x))
                        have e47x := (ff40x.2 _ _ (wnc (by decide) wn0) (f835x.2 _ _ (wnc (by decide) wn0) (f829x.2 _ _ (wnc (by decide) (wnc (by decide) (wnc (by decide) wn0))) hSn)))
                        have e48x := (ff40x.2 _ _ (wnc (by decide) wn0) (f835x.2 _ _ (wnc (by decide) wn0) (f829x.2 _ _ (wnc (by decide) (wnc (by decide) (wnc (by decide) wn0))) hSq)))
                        have e49x := (ff40x.2 _ _ (wnc (by decide) wn0) (f835x.2 _ _ (wnc (by decide) wn0) (f829x.2 _ _ (wnc (by decide) (wnc (by decide) (wnc (by decide) wn0))) hWy)))
                        have e50x := (ff40x.2 _ _ (wnc (by decide) wn0) (f835x.2 _ _ (wnc (by decide) wn0) c129x))
                        have e51x := (ff40x.2 _ _ (wnc (by decide) wn0) (f835x.2 _ _ (wnc (by decide) wn0) (f829x.2 _ _ (wnc (by decide) (wnc (by decide) (wnc (by decide) wn0))) hHd)))
                        have e52x := (ff40x.2 _ _ (wnc (by decide) wn0) (f835x.2 _ _ (wnc (by decide) wn0) (f829x.2 _ _ (wnc (by decide) (wnc (by decide) (wnc (by decide) wn0))) hHs)))
                        have hx : (mLin tb sz at9 pl so va ft fp n14 ns nw kn lo hi sv rt sn sq wy it hl hs) = ((v30x.1), (v30x.2.1), (v36x.1), (v36x.2.1), (v36x.2.2.1), (v36x.2.2.2), (n14 + (1 : Int32)), kn, lo, hi, sv, (v30x.2.2.2.2.2.2.2), sn, sq, wy, (v30x.2.2.2.2.2.2.1), hl, hs) := by unfold mLin; rw [if_pos b1x, if_pos b3x, if_pos b6x, if_pos b9x, if_pos b12x, if_pos b15x, if_pos b18x, if_pos b21x, if_pos b24x, if_pos b27x, zlet_eq hv31x, if_pos b32x, zlet_eq hv37x]
                        rw [hx]
                        exact wq_ret rfl rfl ⟨hh38x, rfl, (wFr_tr (wFr_sub f829x (by simp)) (wFr_tr (wFr_sub f835x (by simp)) (wFr_sub ff40x (by simp)))), by omega, e39x, e42x, e43x, e44x, e45x, e46x, e47x, e48x, e49x, e50x, e51x, e52x, (by (try dsimp only); first | assumption | omega), (by (try dsimp only); first | assumption | omega), (by (try dsimp only); first | assumption | omega), (by (try dsimp only); first | assumption | omega), (by (try dsimp only); omega), (by (try dsimp only); intro q9; first | omega | exact ⟨ns, nw, hN, hL, hS, hR, hQ, hW⟩ | exact ⟨ns, nw, wNm_7 hN (by omega), hL, hS, hR, hQ, hW⟩ | exact ⟨ns, nw, wNm_8 hN (by omega), hL, hS, hR, hQ, hW⟩ | exact ⟨ns, nw, wNm_9 hN (by omega), hL, hS, hR, hQ, hW⟩ | exact ⟨ns, nw, wNm_10 hN (by omega), hL, hS, hR, hQ, hW⟩ | exact ⟨ns, nw, wNm_11 hN (by omega), hL, hS, hR, hQ, hW⟩ | exact ⟨ns, nw, hN, hX9 (by omega), hS, hR, hQ, hW⟩ | exact ⟨ns, nw, hN, hL, hX9, hR, hQ, hW⟩ | exact ⟨ns, nw, hN, hL, hS, hX9, hQ, hW⟩ | (obtain ⟨m9, a9, b9, c9⟩ := hX9 (by omega); exact ⟨m9, nw, b9, hL, hS, hR, c9, wW2_m hW a9⟩) | (obtain ⟨m9, b9, c9⟩ := hX9 (by omega); exact ⟨ns, m9, b9, hL, hS, hR, hQ, c9⟩)), (by (try dsimp only); exact ⟨by first | assumption | exact hz.1 | exact wFh_set hz.1 (by decide), by first | assumption | exact hz.2.1, by first | assumption | exact hz.2.2.1, by first | assumption | exact hz.2.2.2.1, by first | assumption | exact hz.2.2.2.2.1, by first | assumption | exact hz.2.2.2.2.2⟩)⟩
                      · have q53x : (v30x.1).toInt = 0 := congrArg Int32.toInt b32x
                        refine wq_gos (f := 1) (pc2 := 190) (ls2 := [(0, .ref 162)]) (st2 := [.ref 162]) (h2 := h829x) (dc2 := 0) (ds2 := 0) 1 rfl ?_
                        refine wq_getf rfl c029x rfl rfl ?_
                        refine wq_gos (f := 1) (pc2 := 194) (ls2 := [(0, .ref 162)]) (st2 := [.int 4, .int (v30x.2.2.2.2.1)]) (h2 := h829x) (dc2 := 0) (ds2 := 0) 1 rfl ?_
                        refine wq_eq2 rfl rfl (fun b54x => ?_) (fun b54x => ?_)
                        · have q55x : (v30x.2.2.2.2.1).toInt = 4 := congrArg Int32.toInt b54x
                          refine wq_gos (f := 1) (pc2 := 203) (ls2 := [(0, .ref 162)]) (st2 := [.ref 162]) (h2 := h829x) (dc2 := 0) (ds2 := 0) 1 rfl ?_
                          have e56x := (f829x.2 _ _ (wnc (by decide) (wnc (by decide) (wnc (by decide) wn0))) hT)
                          refine wq_inlv (y2 := 164) (as := []) rfl rfl rfl c029x rfl (wq_mono (m_go c029x e56x (by first | assumption | omega | decide | solve_by_elim) ⟨Nat.le_refl _, by omega⟩ (by first | assumption | omega | decide | solve_by_elim)) ?_)
                          rintro _ ⟨h857x, rfl, f857x, l857x, c057x, p057x, p157x, p257x, p357x⟩
                          show wq 180 206 [(0, .ref 162)] [] h857x 0 0 _
                          obtain ⟨v58x, hv59x⟩ : ∃ x, x = (mGo tb sz (v30x.2.2.1) (v30x.2.2.2.1) (v30x.2.2.2.2.1) (v30x.2.2.2.2.2.1) (v30x.1)) := ⟨_, rfl⟩
                          try rw [← hv59x] at c057x
                          try rw [← hv59x] at p057x
                          try rw [← hv59x] at p157x
                          try rw [← hv59x] at p257x
                          try rw [← hv59x] at p357x
                          try rw [← hv59x]
                          refine wq_gos (f := 1) (pc2 := 208) (ls2 := [(0, .ref 162)]) (st2 := [.ref 162, .ref 162]) (h2 := h857x) (dc2 := 0) (ds2 := 0) 2 rfl ?_
                          refine wq_getf rfl c057x rfl rfl ?_
                          refine wq_gos (f := 1) (pc2 := 213) (ls2 := [(0, .ref 162)]) (st2 := [.int (n14 + (1 : Int32)), .ref 162]) (h2 := h857x) (dc2 := 0) (ds2 := 0) 2 rfl ?_
                          refine wq_putf rfl c057x rfl rfl rfl ?_
                          intro hh60x e61x ff62x lh63x
                          have e61x : zat hh60x 162 = some (.inr (.inr (.inr (10, mO n0 n2 (n14 + (1 : Int32)) (nI sz) (nI (v58x.1)) (nI (v58x.2.1)) (v58x.2.2.1) (v58x.2.2.2) (v30x.1) (v30x.2.1) n22 n23 n27 n28 n32 n33 n34 n35 n39 n52)))) := e61x
                          have e64x := (ff62x.2 _ _ (wnc (by decide) wn0) (f857x.2 _ _ (wnc (by decide) wn0) (f829x.2 _ _ (wnc (by decide) (wnc (by decide) (wnc (by decide) wn0))) hKn)))
                          have e65x := (ff62x.2 _ _ (wnc (by decide) wn0) (f857x.2 _ _ (wnc (by decide) wn0) (f829x.2 _ _ (wnc (by decide) (wnc (by decide) (wnc (by decide) wn0))) hLo)))
                          have e66x := (ff62x.2 _ _ (wnc (by decide) wn0) (f857x.2 _ _ (wnc (by decide) wn0) (f829x.2 _ _ (wnc (by decide) (wnc (by decide) (wnc (by decide) wn0))) hHi)))
                          have e67x := (ff62x.2 _ _ (wnc (by decide) wn0) (f857x.2 _ _ (wnc (by decide) wn0) (f829x.2 _ _ (wnc (by decide) (wnc (by decide) (wnc (by decide) wn0))) hSv)))
                          have e68x := (ff62x.2 _ _ (wnc (by decide) wn0) (f857x.2 _ _ (wnc (by decide) wn0) c229x))
                          have e69x := (ff62x.2 _ _ (wnc (by decide) wn0) (f857x.2 _ _ (wnc (by decide) wn0) (f829x.2 _ _ (wnc (by decide) (wnc (by decide) (wnc (by decide) wn0))) hSn)))
                          have e70x := (ff62x.2 _ _ (wnc (by decide) wn0) (f857x.2 _ _ (wnc (by decide) wn0) (f829x.2 _ _ (wnc (by decide) (wnc (by decide) (wnc (by decide) wn0))) hSq)))
                          have e71x := (ff62x.2 _ _ (wnc (by decide) wn0) (f857x.2 _ _ (wnc (by decide) wn0) (f829x.2 _ _ (wnc (by decide) (wnc (by decide) (wnc (by decide) wn0))) hWy)))
                          have e72x := (ff62x.2 _ _ (wnc (by decide) wn0) (f857x.2 _ _ (wnc (by decide) wn0) c129x))
                          have e73x := (ff62x.2 _ _ (wnc (by decide) wn0) (f857x.2 _ _ (wnc (by decide) wn0) (f829x.2 _ _ (wnc (by decide) (wnc (by decide) (wnc (by decide) wn0))) hHd)))
                          have e74x := (ff62x.2 _ _ (wnc (by decide) wn0) (f857x.2 _ _ (wnc (by decide) wn0) (f829x.2 _ _ (wnc (by decide) (wnc (by decide) (wnc (by decide) wn0))) hHs)))
                          have hx : (mLin tb sz at9 pl so va ft fp n14 ns nw kn lo hi sv rt sn sq wy it hl hs) = ((v30x.1), (v30x.2.1), (v58x.1), (v58x.2.1), (v58x.2.2.1), (v58x.2.2.2), (n14 + (1 : Int32)), kn, lo, hi, sv, (v30x.2.2.2.2.2.2.2), sn, sq, wy, (v30x.2.2.2.2.2.2.1), hl, hs) := by unfold mLin; rw [if_pos b1x, if_pos b3x, if_pos b6x, if_pos b9x, if_pos b12x, if_pos b15x, if_pos b18x, if_pos b21x, if_pos b24x, if_pos b27x, zlet_eq hv31x, if_neg (fun q => q b32x), if_pos b54x, zlet_eq hv59x]
                          rw [hx]
                          exact wq_ret rfl rfl ⟨hh60x, rfl, (wFr_tr (wFr_sub f829x (by simp)) (wFr_tr (wFr_sub f857x (by simp)) (wFr_sub ff62x (by simp)))), by omega, e61x, e64x, e65x, e66x, e67x, e68x, e69x, e70x, e71x, e72x, e73x, e74x, (by (try dsimp only); first | assumption | omega), (by (try dsimp only); first | assumption | omega), (by (try dsimp only); first | assumption | omega), (by (try dsimp only); first | assumption | omega), (by (try dsimp only); omega), (by (try dsimp only); intro q9; first | omega | exact ⟨ns, nw, hN, hL, hS, hR, hQ, hW⟩ | exact ⟨ns, nw, wNm_7 hN (by omega), hL, hS, hR, hQ, hW⟩ | exact ⟨ns, nw, wNm_8 hN (by omega), hL, hS, hR, hQ, hW⟩ | exact ⟨ns, nw, wNm_9 hN (by omega), hL, hS, hR, hQ, hW⟩ | exact ⟨ns, nw, wNm_10 hN (by omega), hL, hS, hR, hQ, hW⟩ | exact ⟨ns, nw, wNm_11 hN (by omega), hL, hS, hR, hQ, hW⟩ | exact ⟨ns, nw, hN, hX9 (by omega), hS, hR, hQ, hW⟩ | exact ⟨ns, nw, hN, hL, hX9, hR, hQ, hW⟩ | exact ⟨ns, nw, hN, hL, hS, hX9, hQ, hW⟩ | (obtain ⟨m9, a9, b9, c9⟩ := hX9 (by omega); exact ⟨m9, nw, b9, hL, hS, hR, c9, wW2_m hW a9⟩) | (obtain ⟨m9, b9, c9⟩ := hX9 (by omega); exact ⟨ns, m9, b9, hL, hS, hR, hQ, c9⟩)), (by (try dsimp only); exact ⟨by first | assumption | exact hz.1 | exact wFh_set hz.1 (by decide), by first | assumption | exact hz.2.1, by first | assumption | exact hz.2.2.1, by first | assumption | exact hz.2.2.2.1, by first | assumption | exact hz.2.2.2.2.1, by first | assumption | exact hz.2.2.2.2.2⟩)⟩
                        · have q75x : (v30x.2.2.2.2.1).toInt ≠ 4 := fun q => b54x (Int32.toInt_inj.mp q)
                          refine wq_gos (f := 1) (pc2 := 199) (ls2 := [(0, .ref 162)]) (st2 := [.int 1, .ref 162]) (h2 := h829x) (dc2 := 0) (ds2 := 0) 2 rfl ?_
                          refine wq_inlv (y2 := 163) (as := [.int 1]) rfl rfl rfl c029x rfl (wq_mono (m_wro c029x (by first | assumption | omega | decide | solve_by_elim) (by first | assumption | omega | decide | solve_by_elim)) ?_)
                          rintro _ ⟨h876x, rfl, f876x, l876x, c076x, p076x⟩
                          show wq 180 202 [(0, .ref 162)] [] h876x 0 0 _
                          obtain ⟨v77x, hv78x⟩ : ∃ x, x = (mWro (v30x.2.2.2.1) (v30x.1) (v30x.2.1) (1 : Int32)) := ⟨_, rfl⟩
                          try rw [← hv78x] at c076x
                          try rw [← hv78x] at p076x
                          try rw [← hv78x]
                          refine wq_gos (f := 1) (pc2 := 203) (ls2 := [(0, .ref 162)]) (st2 := [.ref 162]) (h2 := h876x) (dc2 := 0) (ds2 := 0) 1 rfl ?_
                          have e79x := (f876x.2 _ _ (wnc (by decide) wn0) (f829x.2 _ _ (wnc (by decide) (wnc (by decide) (wnc (by decide) wn0))) hT))
                          refine wq_inlv (y2 := 164) (as := []) rfl rfl rfl c076x rfl (wq_mono (m_go c076x e79x (by first | assumption | omega | decide | solve_by_elim) ⟨Nat.le_refl _, by omega⟩ (by first | assumption | omega | decide | solve_by_elim)) ?_)
                          rintro _ ⟨h880x, rfl, f880x, l880x, c080x, p080x, p180x, p280x, p380x⟩
                          show wq 180 206 [(0, .ref 162)] [] h880x 0 0 _
                          obtain ⟨v81x, hv82x⟩ : ∃ x, x = (mGo tb sz (v30x.2.2.1) (v30x.2.2.2.1) (v30x.2.2.2.2.1) (v30x.2.2.2.2.2.1) (v77x.1)) := ⟨_, rfl⟩
                          try rw [← hv82x] at c080x
                          try rw [← hv82x] at p080x
                          try rw [← hv82x] at p180x
                          try rw [← hv82x] at p280x
                          try rw [← hv82x] at p380x
                          try rw [← hv82x]
                          refine wq_gos (f := 1) (pc2 := 208) (ls2 := [(0, .ref 162)]) (st2 := [.ref 162, .ref 162]) (h2 := h880x) (dc2 := 0) (ds2 := 0) 2 rfl ?_
                          refine wq_getf rfl c080x rfl rfl ?_
                          refine wq_gos (f := 1) (pc2 := 213) (ls2 := [(0, .ref 162)]) (st2 := [.int (n14 + (1 : Int32)), .ref 162]) (h2 := h880x) (dc2 := 0) (ds2 := 0) 2 rfl ?_
                          refine wq_putf rfl c080x rfl rfl rfl ?_
                          intro hh83x e84x ff85x lh86x
                          have e84x : zat hh83x 162 = some (.inr (.inr (.inr (10, mO n0 n2 (n14 + (1 : Int32)) (nI sz) (nI (v81x.1)) (nI (v81x.2.1)) (v81x.2.2.1) (v81x.2.2.2) (v77x.1) (v77x.2) n22 n23 n27 n28 n32 n33 n34 n35 n39 n52)))) := e84x
                          have e87x := (ff85x.2 _ _ (wnc (by decide) wn0) (f880x.2 _ _ (wnc (by decide) wn0) (f876x.2 _ _ (wnc (by decide) wn0) (f829x.2 _ _ (wnc (by decide) (wnc (by decide) (wnc (by decide) wn0))) hKn))))
                          have e88x := (ff85x.2 _ _ (wnc (by decide) wn0) (f880x.2 _ _ (wnc (by decide) wn0) (f876x.2 _ _ (wnc (by decide) wn0) (f829x.2 _ _ (wnc (by decide) (wnc (by decide) (wnc (by decide) wn0))) hLo))))
                          have e89x := (ff85x.2 _ _ (wnc (by decide) wn0) (f880x.2 _ _ (wnc (by decide) wn0) (f876x.2 _ _ (wnc (by decide) wn0) (f829x.2 _ _ (wnc (by decide) (wnc (by decide) (wnc (by decide) wn0))) hHi))))
                          have e90x := (ff85x.2 _ _ (wnc (by decide) wn0) (f880x.2 _ _ (wnc (by decide) wn0) (f876x.2 _ _ (wnc (by decide) wn0) (f829x.2 _ _ (wnc (by decide) (wnc (by decide) (wnc (by decide) wn0))) hSv))))
                          have e91x := (ff85x.2 _ _ (wnc (by decide) wn0) (f880x.2 _ _ (wnc (by decide) wn0) (f876x.2 _ _ (wnc (by decide) wn0) c229x)))
                          have e92x := (ff85x.2 _ _ (wnc (by decide) wn0) (f880x.2 _ _ (wnc (by decide) wn0) (f876x.2 _ _ (wnc (by decide) wn0) (f829x.2 _ _ (wnc (by decide) (wnc (by decide) (wnc (by decide) wn0))) hSn))))
                          have e93x := (ff85x.2 _ _ (wnc (by decide) wn0) (f880x.2 _ _ (wnc (by decide) wn0) (f876x.2 _ _ (wnc (by decide) wn0) (f829x.2 _ _ (wnc (by decide) (wnc (by decide) (wnc (by decide) wn0))) hSq))))
                          have e94x := (ff85x.2 _ _ (wnc (by decide) wn0) (f880x.2 _ _ (wnc (by decide) wn0) (f876x.2 _ _ (wnc (by decide) wn0) (f829x.2 _ _ (wnc (by decide) (wnc (by decide) (wnc (by decide) wn0))) hWy))))
                          have e95x := (ff85x.2 _ _ (wnc (by decide) wn0) (f880x.2 _ _ (wnc (by decide) wn0) (f876x.2 _ _ (wnc (by decide) wn0) c129x)))
                          have e96x := (ff85x.2 _ _ (wnc (by decide) wn0) (f880x.2 _ _ (wnc (by decide) wn0) (f876x.2 _ _ (wnc (by decide) wn0) (f829x.2 _ _ (wnc (by decide) (wnc (by decide) (wnc (by decide) wn0))) hHd))))
                          have e97x := (ff85x.2 _ _ (wnc (by decide) wn0) (f880x.2 _ _ (wnc (by decide) wn0) (f876x.2 _ _ (wnc (by decide) wn0) (f829x.2 _ _ (wnc (by decide) (wnc (by decide) (wnc (by decide) wn0))) hHs))))
                          have hx : (mLin tb sz at9 pl so va ft fp n14 ns nw kn lo hi sv rt sn sq wy it hl hs) = ((v77x.1), (v77x.2), (v81x.1), (v81x.2.1), (v81x.2.2.1), (v81x.2.2.2), (n14 + (1 : Int32)), kn, lo, hi, sv, (v30x.2.2.2.2.2.2.2), sn, sq, wy, (v30x.2.2.2.2.2.2.1), hl, hs) := by unfold mLin; rw [if_pos b1x, if_pos b3x, if_pos b6x, if_pos b9x, if_pos b12x, if_pos b15x, if_pos b18x, if_pos b21x, if_pos b24x, if_pos b27x, zlet_eq hv31x, if_neg (fun q => q b32x), if_neg b54x, zlet_eq hv78x, zlet_eq hv82x]
                          rw [hx]
                          exact wq_ret rfl rfl ⟨hh83x, rfl, (wFr_tr (wFr_sub f829x (by simp)) (wFr_tr (wFr_sub f876x (by simp)) (wFr_tr (wFr_sub f880x (by simp)) (wFr_sub ff85x (by simp))))), by omega, e84x, e87x, e88x, e89x, e90x, e91x, e92x, e93x, e94x, e95x, e96x, e97x, (by (try dsimp only); first | assumption | omega), (by (try dsimp only); first | assumption | omega), (by (try dsimp only); first | assumption | omega), (by (try dsimp only); first | assumption | omega), (by (try dsimp only); omega), (by (try dsimp only); intro q9; first | omega | exact ⟨ns, nw, hN, hL, hS, hR, hQ, hW⟩ | exact ⟨ns, nw, wNm_7 hN (by omega), hL, hS, hR, hQ, hW⟩ | exact ⟨ns, nw, wNm_8 hN (by omega), hL, hS, hR, hQ, hW⟩ | exact ⟨ns, nw, wNm_9 hN (by omega), hL, hS, hR, hQ, hW⟩ | exact ⟨ns, nw, wNm_10 hN (by omega), hL, hS, hR, hQ, hW⟩ | exact ⟨ns, nw, wNm_11 hN (by omega), hL, hS, hR, hQ, hW⟩ | exact ⟨ns, nw, hN, hX9 (by omega), hS, hR, hQ, hW⟩ | exact ⟨ns, nw, hN, hL, hX9, hR, hQ, hW⟩ | exact ⟨ns, nw, hN, hL, hS, hX9, hQ, hW⟩ | (obtain ⟨m9, a9, b9, c9⟩ := hX9 (by omega); exact ⟨m9, nw, b9, hL, hS, hR, c9, wW2_m hW a9⟩) | (obtain ⟨m9, b9, c9⟩ := hX9 (by omega); exact ⟨ns, m9, b9, hL, hS, hR, hQ, c9⟩)), (by (try dsimp only); exact ⟨by first | assumption | exact hz.1 | exact wFh_set hz.1 (by decide), by first | assumption | exact hz.2.1, by first | assumption | exact hz.2.2.1, by first | assumption | exact hz.2.2.2.1, by first | assumption | exact hz.2.2.2.2.1, by first | assumption | exact hz.2.2.2.2.2⟩)⟩
                    · have q98x : va.toInt = 9 := congrArg Int32.toInt b27x
                      refine wq_gos (f := 1) (pc2 := 172) (ls2 := [(0, .ref 162)]) (st2 := [.ref 162]) (h2 := h) (dc2 := 0) (ds2 := 0) 1 rfl ?_
                      refine wq_inlv (y2 := 178) (as := []) rfl rfl rfl hM rfl (wq_mono (m_rdG hM hT hKn hSn hWy (by first | assumption | omega | decide | solve_by_elim) ⟨Nat.le_refl _, by omega⟩ (by first | assumption | omega | decide | solve_by_elim) (by first | assumption | omega | decide | solve_by_elim) (by first | assumption | omega | decide | solve_by_elim) (by first | assumption | omega | decide | solve_by_elim) hz.1 hz.2.2.2.2.2) ?_)
                      rintro _ ⟨h899x, rfl, f899x, l899x, c099x, c199x, c299x, p099x, p199x, p299x, p399x, p499x, p599x, p699x, p799x⟩
                      show wq 180 175 [(0, .ref 162)] [] h899x 0 0 _
                      obtain ⟨v100x, hv101x⟩ : ∃ x, x = (mRdG tb sz at9 pl so va ft fp ns nw kn sn wy) := ⟨_, rfl⟩
                      try rw [← hv101x] at c099x
                      try rw [← hv101x] at c199x
                      try rw [← hv101x] at c299x
                      try rw [← hv101x] at p099x
                      try rw [← hv101x] at p199x
                      try rw [← hv101x] at p299x
                      try rw [← hv101x] at p399x
                      try rw [← hv101x] at p499x
                      try rw [← hv101x] at p599x
                      try rw [← hv101x] at p699x
                      try rw [← hv101x] at p799x
                      try rw [← hv101x]
                      have hX9 := p599x
                      refine wq_gos (f := 1) (pc2 := 183) (ls2 := [(0, .ref 162)]) (st2 := [.ref 162]) (h2 := h899x) (dc2 := 0) (ds2 := 0) 2 rfl ?_
                      refine wq_getf rfl c099x rfl rfl ?_
                      refine wq_ne0 rfl rfl (fun b102x => ?_) (fun b102x => ?_)
                      · have q103x : (v100x.1).toInt ≠ 0 := fun q => b102x (Int32.toInt_inj.mp q)
                        refine wq_gos (f := 1) (pc2 := 203) (ls2 := [(0, .ref 162)]) (st2 := [.ref 162]) (h2 := h899x) (dc2 := 0) (ds2 := 0) 1 rfl ?_
                        have e104x := (f899x.2 _ _ (wnc (by decide) (wnc (by decide) (wnc (by decide) wn0))) hT)
                        refine wq_inlv (y2 := 164) (as := []) rfl rfl rfl c099x rfl (wq_mono (m_go c099x e104x (by first | assumption | omega | decide | solve_by_elim) ⟨Nat.le_refl _, by omega⟩ (by first | assumption | omega | decide | solve_by_elim)) ?_)
                        rintro _ ⟨h8105x, rfl, f8105x, l8105x, c0105x, p0105x, p1105x, p2105x, p3105x⟩
                        show wq 180 206 [(0, .ref 162)] [] h8105x 0 0 _
                        obtain ⟨v106x, hv107x⟩ : ∃ x, x = (mGo tb sz (v100x.2.2.1) (v100x.2.2.2.1) (v100x.2.2.2.2.1) (v100x.2.2.2.2.2.1) (v100x.1)) := ⟨_, rfl⟩
                        try rw [← hv107x] at c0105x
                        try rw [← hv107x] at p0105x
                        try rw [← hv107x] at p1105x
                        try rw [← hv107x] at p2105x
                        try rw [← hv107x] at p3105x
                        try rw [← hv107x]
                        refine wq_gos (f := 1) (pc2 := 208) (ls2 := [(0, .ref 162)]) (st2 := [.ref 162, .ref 162]) (h2 := h8105x) (dc2 := 0) (ds2 := 0) 2 rfl ?_
                        refine wq_getf rfl c0105x rfl rfl ?_
                        refine wq_gos (f := 1) (pc2 := 213) (ls2 := [(0, .ref 162)]) (st2 := [.int (n14 + (1 : Int32)), .ref 162]) (h2 := h8105x) (dc2 := 0) (ds2 := 0) 2 rfl ?_
                        refine wq_putf rfl c0105x rfl rfl rfl ?_
                        intro hh108x e109x ff110x lh111x
                        have e109x : zat hh108x 162 = some (.inr (.inr (.inr (10, mO n0 n2 (n14 + (1 : Int32)) (nI sz) (nI (v106x.1)) (nI (v106x.2.1)) (v106x.2.2.1) (v106x.2.2.2) (v100x.1) (v100x.2.1) n22 n23 n27 n28 n32 n33 n34 n35 n39 n52)))) := e109x
                        have e112x := (ff110x.2 _ _ (wnc (by decide) wn0) (f8105x.2 _ _ (wnc (by decide) wn0) c199x))
                        have e113x := (ff110x.2 _ _ (wnc (by decide) wn0) (f8105x.2 _ _ (wnc (by decide) wn0) (f899x.2 _ _ (wnc (by decide) (wnc (by decide) (wnc (by decide) wn0))) hLo)))
                        have e114x := (ff110x.2 _ _ (wnc (by decide) wn0) (f8105x.2 _ _ (wnc (by decide) wn0) (f899x.2 _ _ (wnc (by decide) (wnc (by decide) (wnc (by decide) wn0))) hHi)))
                        have e115x := (ff110x.2 _ _ (wnc (by decide) wn0) (f8105x.2 _ _ (wnc (by decide) wn0) (f899x.2 _ _ (wnc (by decide) (wnc (by decide) (wnc (by decide) wn0))) hSv)))
                        have e116x := (ff110x.2 _ _ (wnc (by decide) wn0) (f8105x.2 _ _ (wnc (by decide) wn0) (f899x.2 _ _ (wnc (by decide) (wnc (by decide) (wnc (by decide) wn0))) hRt)))
                        have e117x := (ff110x.2 _ _ (wnc (by decide) wn0) (f8105x.2 _ _ (wnc (by decide) wn0) (f899x.2 _ _ (wnc (by decide) (wnc (by decide) (wnc (by decide) wn0))) hSn)))
                        have e118x := (ff110x.2 _ _ (wnc (by decide) wn0) (f8105x.2 _ _ (wnc (by decide) wn0) (f899x.2 _ _ (wnc (by decide) (wnc (by decide) (wnc (by decide) wn0))) hSq)))
                        have e119x := (ff110x.2 _ _ (wnc (by decide) wn0) (f8105x.2 _ _ (wnc (by decide) wn0) c299x))
                        have e120x := (ff110x.2 _ _ (wnc (by decide) wn0) (f8105x.2 _ _ (wnc (by decide) wn0) (f899x.2 _ _ (wnc (by decide) (wnc (by decide) (wnc (by decide) wn0))) hIt)))
                        have e121x := (ff110x.2 _ _ (wnc (by decide) wn0) (f8105x.2 _ _ (wnc (by decide) wn0) (f899x.2 _ _ (wnc (by decide) (wnc (by decide) (wnc (by decide) wn0))) hHd)))
                        have e122x := (ff110x.2 _ _ (wnc (by decide) wn0) (f8105x.2 _ _ (wnc (by decide) wn0) (f899x.2 _ _ (wnc (by decide) (wnc (by decide) (wnc (by decide) wn0))) hHs)))
                        have hx : (mLin tb sz at9 pl so va ft fp n14 ns nw kn lo hi sv rt sn sq wy it hl hs) = ((v100x.1), (v100x.2.1), (v106x.1), (v106x.2.1), (v106x.2.2.1), (v106x.2.2.2), (n14 + (1 : Int32)), (v100x.2.2.2.2.2.2.1), lo, hi, sv, rt, sn, sq, (v100x.2.2.2.2.2.2.2), it, hl, hs) := by unfold mLin; rw [if_pos b1x, if_pos b3x, if_pos b6x, if_pos b9x, if_pos b12x, if_pos b15x, if_pos b18x, if_pos b21x, if_pos b24x, if_neg (fun q => q b27x), zlet_eq hv101x, if_pos b102x, zlet_eq hv107x]
                        rw [hx]
                        exact wq_ret rfl rfl ⟨hh108x, rfl, (wFr_tr (wFr_sub f899x (by simp)) (wFr_tr (wFr_sub f8105x (by simp)) (wFr_sub ff110x (by simp)))), by omega, e109x, e112x, e113x, e114x, e115x, e116x, e117x, e118x, e119x, e120x, e121x, e122x, (by (try dsimp only); first | assumption | omega), (by (try dsimp only); first | assumption | omega), (by (try dsimp only); first | assumption | omega), (by (try dsimp only); first | assumption | omega), (by (try dsimp only); omega), (by (try dsimp only); intro q9; first | omega | exact ⟨ns, nw, hN, hL, hS, hR, hQ, hW⟩ | exact ⟨ns, nw, wNm_7 hN (by omega), hL, hS, hR, hQ, hW⟩ | exact ⟨ns, nw, wNm_8 hN (by omega), hL, hS, hR, hQ, hW⟩ | exact ⟨ns, nw, wNm_9 hN (by omega), hL, hS, hR, hQ, hW⟩ | exact ⟨ns, nw, wNm_10 hN (by omega), hL, hS, hR, hQ, hW⟩ | exact ⟨ns, nw, wNm_11 hN (by omega), hL, hS, hR, hQ, hW⟩ | exact ⟨ns, nw, hN, hX9 (by omega), hS, hR, hQ, hW⟩ | exact ⟨ns, nw, hN, hL, hX9, hR, hQ, hW⟩ | exact ⟨ns, nw, hN, hL, hS, hX9, hQ, hW⟩ | (obtain ⟨m9, a9, b9, c9⟩ := hX9 (by omega); exact ⟨m9, nw, b9, hL, hS, hR, c9, wW2_m hW a9⟩) | (obtain ⟨m9, b9, c9⟩ := hX9 (by omega); exact ⟨ns, m9, b9, hL, hS, hR, hQ, c9⟩)), (by (try dsimp only); exact ⟨by first | assumption | exact hz.1 | exact wFh_set hz.1 (by decide), by first | assumption | exact hz.2.1, by first | assumption | exact hz.2.2.1, by first | assumption | exact hz.2.2.2.1, by first | assumption | exact hz.2.2.2.2.1, by first | assumption | exact hz.2.2.2.2.2⟩)⟩
                      · have q123x : (v100x.1).toInt = 0 := congrArg Int32.toInt b102x
                        refine wq_gos (f := 1) (pc2 := 190) (ls2 := [(0, .ref 162)]) (st2 := [.ref 162]) (h2 := h899x) (dc2 := 0) (ds2 := 0) 1 rfl ?_
                        refine wq_getf rfl c099x rfl rfl ?_
                        refine wq_gos (f := 1) (pc2 := 194) (ls2 := [(0, .ref 162)]) (st2 := [.int 4, .int (v100x.2.2.2.2.1)]) (h2 := h899x) (dc2 := 0) (ds2 := 0) 1 rfl ?_
                        refine wq_eq2 rfl rfl (fun b124x => ?_) (fun b124x => ?_)
                        · have q125x : (v100x.2.2.2.2.1).toInt = 4 := congrArg Int32.toInt b124x
                          refine wq_gos (f := 1) (pc2 := 203) (ls2 := [(0, .ref 162)]) (st2 := [.ref 162]) (h2 := h899x) (dc2 := 0) (ds2 := 0) 1 rfl ?_
                          have e126x := (f899x.2 _ _ (wnc (by decide) (wnc (by decide) (wnc (by decide) wn0))) hT)
                          refine wq_inlv (y2 := 164) (as := []) rfl rfl rfl c099x rfl (wq_mono (m_go c099x e126x (by first | assumption | omega | decide | solve_by_elim) ⟨Nat.le_refl _, by omega⟩ (by first | assumption | omega | decide | solve_by_elim)) ?_)
                          rintro _ ⟨h8127x, rfl, f8127x, l8127x, c0127x, p0127x, p1127x, p2127x, p3127x⟩
                          show wq 180 206 [(0, .ref 162)] [] h8127x 0 0 _
                          obtain ⟨v128x, hv129x⟩ : ∃ x, x = (mGo tb sz (v100x.2.2.1) (v100x.2.2.2.1) (v100x.2.2.2.2.1) (v100x.2.2.2.2.2.1) (v100x.1)) := ⟨_, rfl⟩
                          try rw [← hv129x] at c0127x
                          try rw [← hv129x] at p0127x
                          try rw [← hv129x] at p1127x
                          try rw [← hv129x] at p2127x
                          try rw [← hv129x] at p3127x
                          try rw [← hv129x]
                          refine wq_gos (f := 1) (pc2 := 208) (ls2 := [(0, .ref 162)]) (st2 := [.ref 162, .ref 162]) (h2 := h8127x) (dc2 := 0) (ds2 := 0) 2 rfl ?_
                          refine wq_getf rfl c0127x rfl rfl ?_
                          refine wq_gos (f := 1) (pc2 := 213) (ls2 := [(0, .ref 162)]) (st2 := [.int (n14 + (1 : Int32)), .ref 162]) (h2 := h8127x) (dc2 := 0) (ds2 := 0) 2 rfl ?_
                          refine wq_putf rfl c0127x rfl rfl rfl ?_
                          intro hh130x e131x ff132x lh133x
                          have e131x : zat hh130x 162 = some (.inr (.inr (.inr (10, mO n0 n2 (n14 + (1 : Int32)) (nI sz) (nI (v128x.1)) (nI (v128x.2.1)) (v128x.2.2.1) (v128x.2.2.2) (v100x.1) (v100x.2.1) n22 n23 n27 n28 n32 n33 n34 n35 n39 n52)))) := e131x
                          have e134x := (ff132x.2 _ _ (wnc (by decide) wn0) (f8127x.2 _ _ (wnc (by decide) wn0) c199x))
                          have e135x := (ff132x.2 _ _ (wnc (by decide) wn0) (f8127x.2 _ _ (wnc (by decide) wn0) (f899x.2 _ _ (wnc (by decide) (wnc (by decide) (wnc (by decide) wn0))) hLo)))
                          have e136x := (ff132x.2 _ _ (wnc (by decide) wn0) (f8127x.2 _ _ (wnc (by decide) wn0) (f899x.2 _ _ (wnc (by decide) (wnc (by decide) (wnc (by decide) wn0))) hHi)))
                          have e137x := (ff132x.2 _ _ (wnc (by decide) wn0) (f8127x.2 _ _ (wnc (by decide) wn0) (f899x.2 _ _ (wnc (by decide) (wnc (by decide) (wnc (by decide) wn0))) hSv)))
                          have e138x := (ff132x.2 _ _ (wnc (by decide) wn0) (f8127x.2 _ _ (wnc (by decide) wn0) (f899x.2 _ _ (wnc (by decide) (wnc (by decide) (wnc (by decide) wn0))) hRt)))
                          have e139x := (ff132x.2 _ _ (wnc (by decide) wn0) (f8127x.2 _ _ (wnc (by decide) wn0) (f899x.2 _ _ (wnc (by decide) (wnc (by decide) (wnc (by decide) wn0))) hSn)))
                          have e140x := (ff132x.2 _ _ (wnc (by decide) wn0) (f8127x.2 _ _ (wnc (by decide) wn0) (f899x.2 _ _ (wnc (by decide) (wnc (by decide) (wnc (by decide) wn0))) hSq)))
                          have e141x := (ff132x.2 _ _ (wnc (by decide) wn0) (f8127x.2 _ _ (wnc (by decide) wn0) c299x))
                          have e142x := (ff132x.2 _ _ (wnc (by decide) wn0) (f8127x.2 _ _ (wnc (by decide) wn0) (f899x.2 _ _ (wnc (by decide) (wnc (by decide) (wnc (by decide) wn0))) hIt)))
                          have e143x := (ff132x.2 _ _ (wnc (by decide) wn0) (f8127x.2 _ _ (wnc (by decide) wn0) (f899x.2 _ _ (wnc (by decide) (wnc (by decide) (wnc (by decide) wn0))) hHd)))
                          have e144x := (ff132x.2 _ _ (wnc (by decide) wn0) (f8127x.2 _ _ (wnc (by decide) wn0) (f899x.2 _ _ (wnc (by decide) (wnc (by decide) (wnc (by decide) wn0))) hHs)))
                          have hx : (mLin tb sz at9 pl so va ft fp n14 ns nw kn lo hi sv rt sn sq wy it hl hs) = ((v100x.1), (v100x.2.1), (v128x.1), (v128x.2.1), (v128x.2.2.1), (v128x.2.2.2), (n14 + (1 : Int32)), (v100x.2.2.2.2.2.2.1), lo, hi, sv, rt, sn, sq, (v100x.2.2.2.2.2.2.2), it, hl, hs) := by unfold mLin; rw [if_pos b1x, if_pos b3x, if_pos b6x, if_pos b9x, if_pos b12x, if_pos b15x, if_pos b18x, if_pos b21x, if_pos b24x, if_neg (fun q => q b27x), zlet_eq hv101x, if_neg (fun q => q b102x), if_pos b124x, zlet_eq hv129x]
                          rw [hx]
                          exact wq_ret rfl rfl ⟨hh130x, rfl, (wFr_tr (wFr_sub f899x (by simp)) (wFr_tr (wFr_sub f8127x (by simp)) (wFr_sub ff132x (by simp)))), by omega, e131x, e134x, e135x, e136x, e137x, e138x, e139x, e140x, e141x, e142x, e143x, e144x, (by (try dsimp only); first | assumption | omega), (by (try dsimp only); first | assumption | omega), (by (try dsimp only); first | assumption | omega), (by (try dsimp only); first | assumption | omega), (by (try dsimp only); omega), (by (try dsimp only); intro q9; first | omega | exact ⟨ns, nw, hN, hL, hS, hR, hQ, hW⟩ | exact ⟨ns, nw, wNm_7 hN (by omega), hL, hS, hR, hQ, hW⟩ | exact ⟨ns, nw, wNm_8 hN (by omega), hL, hS, hR, hQ, hW⟩ | exact ⟨ns, nw, wNm_9 hN (by omega), hL, hS, hR, hQ, hW⟩ | exact ⟨ns, nw, wNm_10 hN (by omega), hL, hS, hR, hQ, hW⟩ | exact ⟨ns, nw, wNm_11 hN (by omega), hL, hS, hR, hQ, hW⟩ | exact ⟨ns, nw, hN, hX9 (by omega), hS, hR, hQ, hW⟩ | exact ⟨ns, nw, hN, hL, hX9, hR, hQ, hW⟩ | exact ⟨ns, nw, hN, hL, hS, hX9, hQ, hW⟩ | (obtain ⟨m9, a9, b9, c9⟩ := hX9 (by omega); exact ⟨m9, nw, b9, hL, hS, hR, c9, wW2_m hW a9⟩) | (obtain ⟨m9, b9, c9⟩ := hX9 (by omega); exact ⟨ns, m9, b9, hL, hS, hR, hQ, c9⟩)), (by (try dsimp only); exact ⟨by first | assumption | exact hz.1 | exact wFh_set hz.1 (by decide), by first | assumption | exact hz.2.1, by first | assumption | exact hz.2.2.1, by first | assumption | exact hz.2.2.2.1, by first | assumption | exact hz.2.2.2.2.1, by first | assumption | exact hz.2.2.2.2.2⟩)⟩
                        · have q145x : (v100x.2.2.2.2.1).toInt ≠ 4 := fun q => b124x (Int32.toInt_inj.mp q)
                          refine wq_gos (f := 1) (pc2 := 199) (ls2 := [(0, .ref 162)]) (st2 := [.int 1, .ref 162]) (h2 := h899x) (dc2 := 0) (ds2 := 0) 2 rfl ?_
                          refine wq_inlv (y2 := 163) (as := [.int 1]) rfl rfl rfl c099x rfl (wq_mono (m_wro c099x (by first | assumption | omega | decide | solve_by_elim) (by first | assumption | omega | decide | solve_by_elim)) ?_)
                          rintro _ ⟨h8146x, rfl, f8146x, l8146x, c0146x, p0146x⟩
                          show wq 180 202 [(0, .ref 162)] [] h8146x 0 0 _
                          obtain ⟨v147x, hv148x⟩ : ∃ x, x = (mWro (v100x.2.2.2.1) (v100x.1) (v100x.2.1) (1 : Int32)) := ⟨_, rfl⟩
                          try rw [← hv148x] at c0146x
                          try rw [← hv148x] at p0146x
                          try rw [← hv148x]
                          refine wq_gos (f := 1) (pc2 := 203) (ls2 := [(0, .ref 162)]) (st2 := [.ref 162]) (h2 := h8146x) (dc2 := 0) (ds2 := 0) 1 rfl ?_
                          have e149x := (f8146x.2 _ _ (wnc (by decide) wn0) (f899x.2 _ _ (wnc (by decide) (wnc (by decide) (wnc (by decide) wn0))) hT))
                          refine wq_inlv (y2 := 164) (as := []) rfl rfl rfl c0146x rfl (wq_mono (m_go c0146x e149x (by first | assumption | omega | decide | solve_by_elim) ⟨Nat.le_refl _, by omega⟩ (by first | assumption | omega | decide | solve_by_elim)) ?_)
                          rintro _ ⟨h8150x, rfl, f8150x, l8150x, c0150x, p0150x, p1150x, p2150x, p3150x⟩
                          show wq 180 206 [(0, .ref 162)] [] h8150x 0 0 _
                          obtain ⟨v151x, hv152x⟩ : ∃ x, x = (mGo tb sz (v100x.2.2.1) (v100x.2.2.2.1) (v100x.2.2.2.2.1) (v100x.2.2.2.2.2.1) (v147x.1)) := ⟨_, rfl⟩
                          try rw [← hv152x] at c0150x
                          try rw [← hv152x] at p0150x
                          try rw [← hv152x] at p1150x
                          try rw [← hv152x] at p2150x
                          try rw [← hv152x] at p3150x
                          try rw [← hv152x]
                          refine wq_gos (f := 1) (pc2 := 208) (ls2 := [(0, .ref 162)]) (st2 := [.ref 162, .ref 162]) (h2 := h8150x) (dc2 := 0) (ds2 := 0) 2 rfl ?_
                          refine wq_getf rfl c0150x rfl rfl ?_
                          refine wq_gos (f := 1) (pc2 := 213) (ls2 := [(0, .ref 162)]) (st2 := [.int (n14 + (1 : Int32)), .ref 162]) (h2 := h8150x) (dc2 := 0) (ds2 := 0) 2 rfl ?_
                          refine wq_putf rfl c0150x rfl rfl rfl ?_
                          intro hh153x e154x ff155x lh156x
                          have e154x : zat hh153x 162 = some (.inr (.inr (.inr (10, mO n0 n2 (n14 + (1 : Int32)) (nI sz) (nI (v151x.1)) (nI (v151x.2.1)) (v151x.2.2.1) (v151x.2.2.2) (v147x.1) (v147x.2) n22 n23 n27 n28 n32 n33 n34 n35 n39 n52)))) := e154x
                          have e157x := (ff155x.2 _ _ (wnc (by decide) wn0) (f8150x.2 _ _ (wnc (by decide) wn0) (f8146x.2 _ _ (wnc (by decide) wn0) c199x)))
                          have e158x := (ff155x.2 _ _ (wnc (by decide) wn0) (f8150x.2 _ _ (wnc (by decide) wn0) (f8146x.2 _ _ (wnc (by decide) wn0) (f899x.2 _ _ (wnc (by decide) (wnc (by decide) (wnc (by decide) wn0))) hLo))))
                          have e159x := (ff155x.2 _ _ (wnc (by decide) wn0) (f8150x.2 _ _ (wnc (by decide) wn0) (f8146x.2 _ _ (wnc (by decide) wn0) (f899x.2 _ _ (wnc (by decide) (wnc (by decide) (wnc (by decide) wn0))) hHi))))
                          have e160x := (ff155x.2 _ _ (wnc (by decide) wn0) (f8150x.2 _ _ (wnc (by decide) wn0) (f8146x.2 _ _ (wnc (by decide) wn0) (f899x.2 _ _ (wnc (by decide) (wnc (by decide) (wnc (by decide) wn0))) hSv))))
                          have e161x := (ff155x.2 _ _ (wnc (by decide) wn0) (f8150x.2 _ _ (wnc (by decide) wn0) (f8146x.2 _ _ (wnc (by decide) wn0) (f899x.2 _ _ (wnc (by decide) (wnc (by decide) (wnc (by decide) wn0))) hRt))))
                          have e162x := (ff155x.2 _ _ (wnc (by decide) wn0) (f8150x.2 _ _ (wnc (by decide) wn0) (f8146x.2 _ _ (wnc (by decide) wn0) (f899x.2 _ _ (wnc (by decide) (wnc (by decide) (wnc (by decide) wn0))) hSn))))
                          have e163x := (ff155x.2 _ _ (wnc (by decide) wn0) (f8150x.2 _ _ (wnc (by decide) wn0) (f8146x.2 _ _ (wnc (by decide) wn0) (f899x.2 _ _ (wnc (by decide) (wnc (by decide) (wnc (by decide) wn0))) hSq))))
                          have e164x := (ff155x.2 _ _ (wnc (by decide) wn0) (f8150x.2 _ _ (wnc (by decide) wn0) (f8146x.2 _ _ (wnc (by decide) wn0) c299x)))
                          have e165x := (ff155x.2 _ _ (wnc (by decide) wn0) (f8150x.2 _ _ (wnc (by decide) wn0) (f8146x.2 _ _ (wnc (by decide) wn0) (f899x.2 _ _ (wnc (by decide) (wnc (by decide) (wnc (by decide) wn0))) hIt))))
                          have e166x := (ff155x.2 _ _ (wnc (by decide) wn0) (f8150x.2 _ _ (wnc (by decide) wn0) (f8146x.2 _ _ (wnc (by decide) wn0) (f899x.2 _ _ (wnc (by decide) (wnc (by decide) (wnc (by decide) wn0))) hHd))))
                          have e167x := (ff155x.2 _ _ (wnc (by decide) wn0) (f8150x.2 _ _ (wnc (by decide) wn0) (f8146x.2 _ _ (wnc (by decide) wn0) (f899x.2 _ _ (wnc (by decide) (wnc (by decide) (wnc (by decide) wn0))) hHs))))
                          have hx : (mLin tb sz at9 pl so va ft fp n14 ns nw kn lo hi sv rt sn sq wy it hl hs) = ((v147x.1), (v147x.2), (v151x.1), (v151x.2.1), (v151x.2.2.1), (v151x.2.2.2), (n14 + (1 : Int32)), (v100x.2.2.2.2.2.2.1), lo, hi, sv, rt, sn, sq, (v100x.2.2.2.2.2.2.2), it, hl, hs) := by unfold mLin; rw [if_pos b1x, if_pos b3x, if_pos b6x, if_pos b9x, if_pos b12x, if_pos b15x, if_pos b18x, if_pos b21x, if_pos b24x, if_neg (fun q => q b27x), zlet_eq hv101x, if_neg (fun q => q b102x), if_neg b124x, zlet_eq hv148x, zlet_eq hv152x]
                          rw [hx]
                          exact wq_ret rfl rfl ⟨hh153x, rfl, (wFr_tr (wFr_sub f899x (by simp)) (wFr_tr (wFr_sub f8146x (by simp)) (wFr_tr (wFr_sub f8150x (by simp)) (wFr_sub ff155x (by simp))))), by omega, e154x, e157x, e158x, e159x, e160x, e161x, e162x, e163x, e164x, e165x, e166x, e167x, (by (try dsimp only); first | assumption | omega), (by (try dsimp only); first | assumption | omega), (by (try dsimp only); first | assumption | omega), (by (try dsimp only); first | assumption | omega), (by (try dsimp only); omega), (by (try dsimp only); intro q9; first | omega | exact ⟨ns, nw, hN, hL, hS, hR, hQ, hW⟩ | exact ⟨ns, nw, wNm_7 hN (by omega), hL, hS, hR, hQ, hW⟩ | exact ⟨ns, nw, wNm_8 hN (by omega), hL, hS, hR, hQ, hW⟩ | exact ⟨ns, nw, wNm_9 hN (by omega), hL, hS, hR, hQ, hW⟩ | exact ⟨ns, nw, wNm_10 hN (by omega), hL, hS, hR, hQ, hW⟩ | exact ⟨ns, nw, wNm_11 hN (by omega), hL, hS, hR, hQ, hW⟩ | exact ⟨ns, nw, hN, hX9 (by omega), hS, hR, hQ, hW⟩ | exact ⟨ns, nw, hN, hL, hX9, hR, hQ, hW⟩ | exact ⟨ns, nw, hN, hL, hS, hX9, hQ, hW⟩ | (obtain ⟨m9, a9, b9, c9⟩ := hX9 (by omega); exact ⟨m9, nw, b9, hL, hS, hR, c9, wW2_m hW a9⟩) | (obtain ⟨m9, b9, c9⟩ := hX9 (by omega); exact ⟨ns, m9, b9, hL, hS, hR, hQ, c9⟩)), (by (try dsimp only); exact ⟨by first | assumption | exact hz.1 | exact wFh_set hz.1 (by decide), by first | assumption | exact hz.2.1, by first | assumption | exact hz.2.2.1, by first | assumption | exact hz.2.2.2.1, by first | assumption | exact hz.2.2.2.2.1, by first | assumption | exact hz.2.2.2.2.2⟩)⟩
                  · have q168x : va.toInt = 8 := congrArg Int32.toInt b24x
                    refine wq_gos (f := 1) (pc2 := 156) (ls2 := [(0, .ref 162)]) (st2 := [.ref 162]) (h2 := h) (dc2 := 0) (ds2 := 0) 1 rfl ?_
                    refine wq_inlv (y2 := 177) (as := []) rfl rfl rfl hM rfl (wq_mono (m_rdO hM hT hKn hSn hSq (by first | assumption | omega | decide | solve_by_elim) ⟨Nat.le_refl _, by omega⟩ (by first | assumption | omega | decide | solve_by_elim) (by first | assumption | omega | decide | solve_by_elim) (by first | assumption | omega | decide | solve_by_elim) (by first | assumption | omega | decide | solve_by_elim) hz.1 hz.2.2.2.2.1) ?_)
                    rintro _ ⟨h8169x, rfl, f8169x, l8169x, c0169x, c1169x, c2169x, c3169x, p0169x, p1169x, p2169x, p3169x, p4169x, p5169x, p6169x, p7169x⟩
                    show wq 180 159 [(0, .ref 162)] [] h8169x 0 0 _
                    obtain ⟨v170x, hv171x⟩ : ∃ x, x = (mRdO tb sz at9 pl so va ft fp ns kn sn sq) := ⟨_, rfl⟩
                    try rw [← hv171x] at c0169x
                    try rw [← hv171x] at c1169x
                    try rw [← hv171x] at c2169x
                    try rw [← hv171x] at c3169x
                    try rw [← hv171x] at p0169x
                    try rw [← hv171x] at p1169x
                    try rw [← hv171x] at p2169x
                    try rw [← hv171x] at p3169x
                    try rw [← hv171x] at p4169x
                    try rw [← hv171x] at p5169x
                    try rw [← hv171x] at p6169x
                    try rw [← hv171x] at p7169x
                    try rw [← hv171x]
                    have hX9 := p5169x
                    refine wq_gos (f := 1) (pc2 := 183) (ls2 := [(0, .ref 162)]) (st2 := [.ref 162]) (h2 := h8169x) (dc2 := 0) (ds2 := 0) 2 rfl ?_
                    refine wq_getf rfl c0169x rfl rfl ?_
                    refine wq_ne0 rfl rfl (fun b172x => ?_) (fun b172x => ?_)
                    · have q173x : (v170x.1).toInt ≠ 0 := fun q => b172x (Int32.toInt_inj.mp q)
                      refine wq_gos (f := 1) (pc2 := 203) (ls2 := [(0, .ref 162)]) (st2 := [.ref 162]) (h2 := h8169x) (dc2 := 0) (ds2 := 0) 1 rfl ?_
                      have e174x := (f8169x.2 _ _ (wnc (by decide) (wnc (by decide) (wnc (by decide) (wnc (by decide) wn0)))) hT)
                      refine wq_inlv (y2 := 164) (as := []) rfl rfl rfl c0169x rfl (wq_mono (m_go c0169x e174x (by first | assumption | omega | decide | solve_by_elim) ⟨Nat.le_refl _, by omega⟩ (by first | assumption | omega | decide | solve_by_elim)) ?_)
                      rintro _ ⟨h8175x, rfl, f8175x, l8175x, c0175x, p0175x, p1175x, p2175x, p3175x⟩
                      show wq 180 206 [(0, .ref 162)] [] h8175x 0 0 _
                      obtain ⟨v176x, hv177x⟩ : ∃ x, x = (mGo tb sz (v170x.2.2.1) (v170x.2.2.2.1) (v170x.2.2.2.2.1) (v170x.2.2.2.2.2.1) (v170x.1)) := ⟨_, rfl⟩
                      try rw [← hv177x] at c0175x
                      try rw [← hv177x] at p0175x
                      try rw [← hv177x] at p1175x
                      try rw [← hv177x] at p2175x
                      try rw [← hv177x] at p3175x
                      try rw [← hv177x]
                      refine wq_gos (f := 1) (pc2 := 208) (ls2 := [(0, .ref 162)]) (st2 := [.ref 162, .ref 162]) (h2 := h8175x) (dc2 := 0) (ds2 := 0) 2 rfl ?_
                      refine wq_getf rfl c0175x rfl rfl ?_
                      refine wq_gos (f := 1) (pc2 := 213) (ls2 := [(0, .ref 162)]) (st2 := [.int (n14 + (1 : Int32)), .ref 162]) (h2 := h8175x) (dc2 := 0) (ds2 := 0) 2 rfl ?_
                      refine wq_putf rfl c0175x rfl rfl rfl ?_
                      intro hh178x e179x ff180x lh181x
                      have e179x : zat hh178x 162 = some (.inr (.inr (.inr (10, mO n0 n2 (n14 + (1 : Int32)) (nI sz) (nI (v176x.1)) (nI (v176x.2.1)) (v176x.2.2.1) (v176x.2.2.2) (v170x.1) (v170x.2.1) n22 n23 n27 n28 n32 n33 n34 n35 n39 n52)))) := e179x
                      have e182x := (ff180x.2 _ _ (wnc (by decide) wn0) (f8175x.2 _ _ (wnc (by decide) wn0) c1169x))
                      have e183x := (ff180x.2 _ _ (wnc (by decide) wn0) (f8175x.2 _ _ (wnc (by decide) wn0) (f8169x.2 _ _ (wnc (by decide) (wnc (by decide) (wnc (by decide) (wnc (by decide) wn0)))) hLo)))
                      have e184x := (ff180x.2 _ _ (wnc (by decide) wn0) (f8175x.2 _ _ (wnc (by decide) wn0) (f8169x.2 _ _ (wnc (by decide) (wnc (by decide) (wnc (by decide) (wnc (by decide) wn0)))) hHi)))
                      have e185x := (ff180x.2 _ _ (wnc (by decide) wn0) (f8175x.2 _ _ (wnc (by decide) wn0) (f8169x.2 _ _ (wnc (by decide) (wnc (by decide) (wnc (by decide) (wnc (by decide) wn0)))) hSv)))
                      have e186x := (ff180x.2 _ _ (wnc (by decide) wn0) (f8175x.2 _ _ (wnc (by decide) wn0) (f8169x.2 _ _ (wnc (by decide) (wnc (by decide) (wnc (by decide) (wnc (by decide) wn0)))) hRt)))
                      have e187x := (ff180x.2 _ _ (wnc (by decide) wn0) (f8175x.2 _ _ (wnc (by decide) wn0) c2169x))
                      have e188x := (ff180x.2 _ _ (wnc (by decide) wn0) (f8175x.2 _ _ (wnc (by decide) wn0) c3169x))
                      have e189x := (ff180x.2 _ _ (wnc (by decide) wn0) (f8175x.2 _ _ (wnc (by decide) wn0) (f8169x.2 _ _ (wnc (by decide) (wnc (by decide) (wnc (by decide) (wnc (by decide) wn0)))) hWy)))
                      have e190x := (ff180x.2 _ _ (wnc (by decide) wn0) (f8175x.2 _ _ (wnc (by decide) wn0) (f8169x.2 _ _ (wnc (by decide) (wnc (by decide) (wnc (by decide) (wnc (by decide) wn0)))) hIt)))
                      have e191x := (ff180x.2 _ _ (wnc (by decide) wn0) (f8175x.2 _ _ (wnc (by decide) wn0) (f8169x.2 _ _ (wnc (by decide) (wnc (by decide) (wnc (by decide) (wnc (by decide) wn0)))) hHd)))
                      have e192x := (ff180x.2 _ _ (wnc (by decide) wn0) (f8175x.2 _ _ (wnc (by decide) wn0) (f8169x.2 _ _ (wnc (by decide) (wnc (by decide) (wnc (by decide) (wnc (by decide) wn0)))) hHs)))
                      have hx : (mLin tb sz at9 pl so va ft fp n14 ns nw kn lo hi sv rt sn sq wy it hl hs) = ((v170x.1), (v170x.2.1), (v176x.1), (v176x.2.1), (v176x.2.2.1), (v176x.2.2.2), (n14 + (1 : Int32)), (v170x.2.2.2.2.2.2.1), lo, hi, sv, rt, (v170x.2.2.2.2.2.2.2.1), (v170x.2.2.2.2.2.2.2.2), wy, it, hl, hs) := by unfold mLin; rw [if_pos b1x, if_pos b3x, if_pos b6x, if_pos b9x, if_pos b12x, if_pos b15x, if_pos b18x, if_pos b21x, if_neg (fun q => q b24x), zlet_eq hv171x, if_pos b172x, zlet_eq hv177x]
                      rw [hx]
                      exact wq_ret rfl rfl ⟨hh178x, rfl, (wFr_tr (wFr_sub f8169x (by simp)) (wFr_tr (wFr_sub f8175x (by simp)) (wFr_sub ff180x (by simp)))), by omega, e179x, e182x, e183x, e184x, e185x, e186x, e187x, e188x, e189x, e190x, e191x, e192x, (by (try dsimp only); first | assumption | omega), (by (try dsimp only); first | assumption | omega), (by (try dsimp only); first | assumption | omega), (by (try dsimp only); first | assumption | omega), (by (try dsimp only); omega), (by (try dsimp only); intro q9; first | omega | exact ⟨ns, nw, hN, hL, hS, hR, hQ, hW⟩ | exact ⟨ns, nw, wNm_7 hN (by omega), hL, hS, hR, hQ, hW⟩ | exact ⟨ns, nw, wNm_8 hN (by omega), hL, hS, hR, hQ, hW⟩ | exact ⟨ns, nw, wNm_9 hN (by omega), hL, hS, hR, hQ, hW⟩ | exact ⟨ns, nw, wNm_10 hN (by omega), hL, hS, hR, hQ, hW⟩ | exact ⟨ns, nw, wNm_11 hN (by omega), hL, hS, hR, hQ, hW⟩ | exact ⟨ns, nw, hN, hX9 (by omega), hS, hR, hQ, hW⟩ | exact ⟨ns, nw, hN, hL, hX9, hR, hQ, hW⟩ | exact ⟨ns, nw, hN, hL, hS, hX9, hQ, hW⟩ | (obtain ⟨m9, a9, b9, c9⟩ := hX9 (by omega); exact ⟨m9, nw, b9, hL, hS, hR, c9, wW2_m hW a9⟩) | (obtain ⟨m9, b9, c9⟩ := hX9 (by omega); exact ⟨ns, m9, b9, hL, hS, hR, hQ, c9⟩)), (by (try dsimp only); exact ⟨by first | assumption | exact hz.1 | exact wFh_set hz.1 (by decide), by first | assumption | exact hz.2.1, by first | assumption | exact hz.2.2.1, by first | assumption | exact hz.2.2.2.1, by first | assumption | exact hz.2.2.2.2.1, by first | assumption | exact hz.2.2.2.2.2⟩)⟩
                    · have q193x : (v170x.1).toInt = 0 := congrArg Int32.toInt b172x
                      refine wq_gos (f := 1) (pc2 := 190) (ls2 := [(0, .ref 162)]) (st2 := [.ref 162]) (h2 := h8169x) (dc2 := 0) (ds2 := 0) 1 rfl ?_
                      refine wq_getf rfl c0169x rfl rfl ?_
                      refine wq_gos (f := 1) (pc2 := 194) (ls2 := [(0, .ref 162)]) (st2 := [.int 4, .int (v170x.2.2.2.2.1)]) (h2 := h8169x) (dc2 := 0) (ds2 := 0) 1 rfl ?_
                      refine wq_eq2 rfl rfl (fun b194x => ?_) (fun b194x => ?_)
                      · have q195x : (v170x.2.2.2.2.1).toInt = 4 := congrArg Int32.toInt b194x
                        refine wq_gos (f := 1) (pc2 := 203) (ls2 := [(0, .ref 162)]) (st2 := [.ref 162]) (h2 := h8169x) (dc2 := 0) (ds2 := 0) 1 rfl ?_
                        have e196x := (f8169x.2 _ _ (wnc (by decide) (wnc (by decide) (wnc (by decide) (wnc (by decide) wn0)))) hT)
                        refine wq_inlv (y2 := 164) (as := []) rfl rfl rfl c0169x rfl (wq_mono (m_go c0169x e196x (by first | assumption | omega | decide | solve_by_elim) ⟨Nat.le_refl _, by omega⟩ (by first | assumption | omega | decide | solve_by_elim)) ?_)
                        rintro _ ⟨h8197x, rfl, f8197x, l8197x, c0197x, p0197x, p1197x, p2197x, p3197x⟩
                        show wq 180 206 [(0, .ref 162)] [] h8197x 0 0 _
                        obtain ⟨v198x, hv199x⟩ : ∃ x, x = (mGo tb sz (v170x.2.2.1) (v170x.2.2.2.1) (v170x.2.2.2.2.1) (v170x.2.2.2.2.2.1) (v170x.1)) := ⟨_, rfl⟩
                        try rw [← hv199x] at c0197x
                        try rw [← hv199x] at p0197x
                        try rw [← hv199x] at p1197x
                        try rw [← hv199x] at p2197x
                        try rw [← hv199x] at p3197x
                        try rw [← hv199x]
                        refine wq_gos (f := 1) (pc2 := 208) (ls2 := [(0, .ref 162)]) (st2 := [.ref 162, .ref 162]) (h2 := h8197x) (dc2 := 0) (ds2 := 0) 2 rfl ?_
                        refine wq_getf rfl c0197x rfl rfl ?_
                        refine wq_gos (f := 1) (pc2 := 213) (ls2 := [(0, .ref 162)]) (st2 := [.int (n14 + (1 : Int32)), .ref 162]) (h2 := h8197x) (dc2 := 0) (ds2 := 0) 2 rfl ?_
                        refine wq_putf rfl c0197x rfl rfl rfl ?_
                        intro hh200x e201x ff202x lh203x
                        have e201x : zat hh200x 162 = some (.inr (.inr (.inr (10, mO n0 n2 (n14 + (1 : Int32)) (nI sz) (nI (v198x.1)) (nI (v198x.2.1)) (v198x.2.2.1) (v198x.2.2.2) (v170x.1) (v170x.2.1) n22 n23 n27 n28 n32 n33 n34 n35 n39 n52)))) := e201x
                        have e204x := (ff202x.2 _ _ (wnc (by decide) wn0) (f8197x.2 _ _ (wnc (by decide) wn0) c1169x))
                        have e205x := (ff202x.2 _ _ (wnc (by decide) wn0) (f8197x.2 _ _ (wnc (by decide) wn0) (f8169x.2 _ _ (wnc (by decide) (wnc (by decide) (wnc (by decide) (wnc (by decide) wn0)))) hLo)))
                        have e206x := (ff202x.2 _ _ (wnc (by decide) wn0) (f8197x.2 _ _ (wnc (by decide) wn0) (f8169x.2 _ _ (wnc (by decide) (wnc (by decide) (wnc (by decide) (wnc (by decide) wn0)))) hHi)))
                        have e207x := (ff202x.2 _ _ (wnc (by decide) wn0) (f8197x.2 _ _ (wnc (by decide) wn0) (f8169x.2 _ _ (wnc (by decide) (wnc (by decide) (wnc (by decide) (wnc (by decide) wn0)))) hSv)))
                        have e208x := (ff202x.2 _ _ (wnc (by decide) wn0) (f8197x.2 _ _ (wnc (by decide) wn0) (f8169x.2 _ _ (wnc (by decide) (wnc (by decide) (wnc (by decide) (wnc (by decide) wn0)))) hRt)))
                        have e209x := (ff202x.2 _ _ (wnc (by decide) wn0) (f8197x.2 _ _ (wnc (by decide) wn0) c2169x))
                        have e210x := (ff202x.2 _ _ (wnc (by decide) wn0) (f8197x.2 _ _ (wnc (by decide) wn0) c3169x))
                        have e211x := (ff202x.2 _ _ (wnc (by decide) wn0) (f8197x.2 _ _ (wnc (by decide) wn0) (f8169x.2 _ _ (wnc (by decide) (wnc (by decide) (wnc (by decide) (wnc (by decide) wn0)))) hWy)))
                        have e212x := (ff202x.2 _ _ (wnc (by decide) wn0) (f8197x.2 _ _ (wnc (by decide) wn0) (f8169x.2 _ _ (wnc (by decide) (wnc (by decide) (wnc (by decide) (wnc (by decide) wn0)))) hIt)))
                        have e213x := (ff202x.2 _ _ (wnc (by decide) wn0) (f8197x.2 _ _ (wnc (by decide) wn0) (f8169x.2 _ _ (wnc (by decide) (wnc (by decide) (wnc (by decide) (wnc (by decide) wn0)))) hHd)))
                        have e214x := (ff202x.2 _ _ (wnc (by decide) wn0) (f8197x.2 _ _ (wnc (by decide) wn0) (f8169x.2 _ _ (wnc (by decide) (wnc (by decide) (wnc (by decide) (wnc (by decide) wn0)))) hHs)))
                        have hx : (mLin tb sz at9 pl so va ft fp n14 ns nw kn lo hi sv rt sn sq wy it hl hs) = ((v170x.1), (v170x.2.1), (v198x.1), (v198x.2.1), (v198x.2.2.1), (v198x.2.2.2), (n14 + (1 : Int32)), (v170x.2.2.2.2.2.2.1), lo, hi, sv, rt, (v170x.2.2.2.2.2.2.2.1), (v170x.2.2.2.2.2.2.2.2), wy, it, hl, hs) := by unfold mLin; rw [if_pos b1x, if_pos b3x, if_pos b6x, if_pos b9x, if_pos b12x, if_pos b15x, if_pos b18x, if_pos b21x, if_neg (fun q => q b24x), zlet_eq hv171x, if_neg (fun q => q b172x), if_pos b194x, zlet_eq hv199x]
                        rw [hx]
                        exact wq_ret rfl rfl ⟨hh200x, rfl, (wFr_tr (wFr_sub f8169x (by simp)) (wFr_tr (wFr_sub f8197x (by simp)) (wFr_sub ff202x (by simp)))), by omega, e201x, e204x, e205x, e206x, e207x, e208x, e209x, e210x, e211x, e212x, e213x, e214x, (by (try dsimp only); first | assumption | omega), (by (try dsimp only); first | assumption | omega), (by (try dsimp only); first | assumption | omega), (by (try dsimp only); first | assumption | omega), (by (try dsimp only); omega), (by (try dsimp only); intro q9; first | omega | exact ⟨ns, nw, hN, hL, hS, hR, hQ, hW⟩ | exact ⟨ns, nw, wNm_7 hN (by omega), hL, hS, hR, hQ, hW⟩ | exact ⟨ns, nw, wNm_8 hN (by omega), hL, hS, hR, hQ, hW⟩ | exact ⟨ns, nw, wNm_9 hN (by omega), hL, hS, hR, hQ, hW⟩ | exact ⟨ns, nw, wNm_10 hN (by omega), hL, hS, hR, hQ, hW⟩ | exact ⟨ns, nw, wNm_11 hN (by omega), hL, hS, hR, hQ, hW⟩ | exact ⟨ns, nw, hN, hX9 (by omega), hS, hR, hQ, hW⟩ | exact ⟨ns, nw, hN, hL, hX9, hR, hQ, hW⟩ | exact ⟨ns, nw, hN, hL, hS, hX9, hQ, hW⟩ | (obtain ⟨m9, a9, b9, c9⟩ := hX9 (by omega); exact ⟨m9, nw, b9, hL, hS, hR, c9, wW2_m hW a9⟩) | (obtain ⟨m9, b9, c9⟩ := hX9 (by omega); exact ⟨ns, m9, b9, hL, hS, hR, hQ, c9⟩)), (by (try dsimp only); exact ⟨by first | assumption | exact hz.1 | exact wFh_set hz.1 (by decide), by first | assumption | exact hz.2.1, by first | assumption | exact hz.2.2.1, by first | assumption | exact hz.2.2.2.1, by first | assumption | exact hz.2.2.2.2.1, by first | assumption | exact hz.2.2.2.2.2⟩)⟩
                      · have q215x : (v170x.2.2.2.2.1).toInt ≠ 4 := fun q => b194x (Int32.toInt_inj.mp q)
                        refine wq_gos (f := 1) (pc2 := 199) (ls2 := [(0, .ref 162)]) (st2 := [.int 1, .ref 162]) (h2 := h8169x) (dc2 := 0) (ds2 := 0) 2 rfl ?_
                        refine wq_inlv (y2 := 163) (as := [.int 1]) rfl rfl rfl c0169x rfl (wq_mono (m_wro c0169x (by first | assumption | omega | decide | solve_by_elim) (by first | assumption | omega | decide | solve_by_elim)) ?_)
                        rintro _ ⟨h8216x, rfl, f8216x, l8216x, c0216x, p0216x⟩
                        show wq 180 202 [(0, .ref 162)] [] h8216x 0 0 _
                        obtain ⟨v217x, hv218x⟩ : ∃ x, x = (mWro (v170x.2.2.2.1) (v170x.1) (v170x.2.1) (1 : Int32)) := ⟨_, rfl⟩
                        try rw [← hv218x] at c0216x
                        try rw [← hv218x] at p0216x
                        try rw [← hv218x]
                        refine wq_gos (f := 1) (pc2 := 203) (ls2 := [(0, .ref 162)]) (st2 := [.ref 162]) (h2 := h8216x) (dc2 := 0) (ds2 := 0) 1 rfl ?_
                        have e219x := (f8216x.2 _ _ (wnc (by decide) wn0) (f8169x.2 _ _ (wnc (by decide) (wnc (by decide) (wnc (by decide) (wnc (by decide) wn0)))) hT))
                        refine wq_inlv (y2 := 164) (as := []) rfl rfl rfl c0216x rfl (wq_mono (m_go c0216x e219x (by first | assumption | omega | decide | solve_by_elim) ⟨Nat.le_refl _, by omega⟩ (by first | assumption | omega | decide | solve_by_elim)) ?_)
                        rintro _ ⟨h8220x, rfl, f8220x, l8220x, c0220x, p0220x, p1220x, p2220x, p3220x⟩
                        show wq 180 206 [(0, .ref 162)] [] h8220x 0 0 _
                        obtain ⟨v221x, hv222x⟩ : ∃ x, x = (mGo tb sz (v170x.2.2.1) (v170x.2.2.2.1) (v170x.2.2.2.2.1) (v170x.2.2.2.2.2.1) (v217x.1)) := ⟨_, rfl⟩
                        try rw [← hv222x] at c0220x
                        try rw [← hv222x] at p0220x
                        try rw [← hv222x] at p1220x
                        try rw [← hv222x] at p2220x
                        try rw [← hv222x] at p3220x
                        try rw [← hv222x]
                        refine wq_gos (f := 1) (pc2 := 208) (ls2 := [(0, .ref 162)]) (st2 := [.ref 162, .ref 162]) (h2 := h8220x) (dc2 := 0) (ds2 := 0) 2 rfl ?_
                        refine wq_getf rfl c0220x rfl rfl ?_
                        refine wq_gos (f := 1) (pc2 := 213) (ls2 := [(0, .ref 162)]) (st2 := [.int (n14 + (1 : Int32)), .ref 162]) (h2 := h8220x) (dc2 := 0) (ds2 := 0) 2 rfl ?_
                        refine wq_putf rfl c0220x rfl rfl rfl ?_
                        intro hh223x e224x ff225x lh226x
                        have e224x : zat hh223x 162 = some (.inr (.inr (.inr (10, mO n0 n2 (n14 + (1 : Int32)) (nI sz) (nI (v221x.1)) (nI (v221x.2.1)) (v221x.2.2.1) (v221x.2.2.2) (v217x.1) (v217x.2) n22 n23 n27 n28 n32 n33 n34 n35 n39 n52)))) := e224x
                        have e227x := (ff225x.2 _ _ (wnc (by decide) wn0) (f8220x.2 _ _ (wnc (by decide) wn0) (f8216x.2 _ _ (wnc (by decide) wn0) c1169x)))
                        have e228x := (ff225x.2 _ _ (wnc (by decide) wn0) (f8220x.2 _ _ (wnc (by decide) wn0) (f8216x.2 _ _ (wnc (by decide) wn0) (f8169x.2 _ _ (wnc (by decide) (wnc (by decide) (wnc (by decide) (wnc (by decide) wn0)))) hLo))))
                        have e229x := (ff225x.2 _ _ (wnc (by decide) wn0) (f8220x.2 _ _ (wnc (by decide) wn0) (f8216x.2 _ _ (wnc (by decide) wn0) (f8169x.2 _ _ (wnc (by decide) (wnc (by decide) (wnc (by decide) (wnc (by decide) wn0)))) hHi))))
                        have e230x := (ff225x.2 _ _ (wnc (by decide) wn0) (f8220x.2 _ _ (wnc (by decide) wn0) (f8216x.2 _ _ (wnc (by decide) wn0) (f8169x.2 _ _ (wnc (by decide) (wnc (by decide) (wnc (by decide) (wnc (by decide) wn0)))) hSv))))
                        have e231x := (ff225x.2 _ _ (wnc (by decide) wn0) (f8220x.2 _ _ (wnc (by decide) wn0) (f8216x.2 _ _ (wnc (by decide) wn0) (f8169x.2 _ _ (wnc (by decide) (wnc (by decide) (wnc (by decide) (wnc (by decide) wn0)))) hRt))))
                        have e232x := (ff225x.2 _ _ (wnc (by decide) wn0) (f8220x.2 _ _ (wnc (by decide) wn0) (f8216x.2 _ _ (wnc (by decide) wn0) c2169x)))
                        have e233x := (ff225x.2 _ _ (wnc (by decide) wn0) (f8220x.2 _ _ (wnc (by decide) wn0) (f8216x.2 _ _ (wnc (by decide) wn0) c3169x)))
                        have e234x := (ff225x.2 _ _ (wnc (by decide) wn0) (f8220x.2 _ _ (wnc (by decide) wn0) (f8216x.2 _ _ (wnc (by decide) wn0) (f8169x.2 _ _ (wnc (by decide) (wnc (by decide) (wnc (by decide) (wnc (by decide) wn0)))) hWy))))
                        have e235x := (ff225x.2 _ _ (wnc (by decide) wn0) (f8220x.2 _ _ (wnc (by decide) wn0) (f8216x.2 _ _ (wnc (by decide) wn0) (f8169x.2 _ _ (wnc (by decide) (wnc (by decide) (wnc (by decide) (wnc (by decide) wn0)))) hIt))))
                        have e236x := (ff225x.2 _ _ (wnc (by decide) wn0) (f8220x.2 _ _ (wnc (by decide) wn0) (f8216x.2 _ _ (wnc (by decide) wn0) (f8169x.2 _ _ (wnc (by decide) (wnc (by decide) (wnc (by decide) (wnc (by decide) wn0)))) hHd))))
                        have e237x := (ff225x.2 _ _ (wnc (by decide) wn0) (f8220x.2 _ _ (wnc (by decide) wn0) (f8216x.2 _ _ (wnc (by decide) wn0) (f8169x.2 _ _ (wnc (by decide) (wnc (by decide) (wnc (by decide) (wnc (by decide) wn0)))) hHs))))
                        have hx : (mLin tb sz at9 pl so va ft fp n14 ns nw kn lo hi sv rt sn sq wy it hl hs) = ((v217x.1), (v217x.2), (v221x.1), (v221x.2.1), (v221x.2.2.1), (v221x.2.2.2), (n14 + (1 : Int32)), (v170x.2.2.2.2.2.2.1), lo, hi, sv, rt, (v170x.2.2.2.2.2.2.2.1), (v170x.2.2.2.2.2.2.2.2), wy, it, hl, hs) := by unfold mLin; rw [if_pos b1x, if_pos b3x, if_pos b6x, if_pos b9x, if_pos b12x, if_pos b15x, if_pos b18x, if_pos b21x, if_neg (fun q => q b24x), zlet_eq hv171x, if_neg (fun q => q b172x), if_neg b194x, zlet_eq hv218x, zlet_eq hv222x]
                        rw [hx]
                        exact wq_ret rfl rfl ⟨hh223x, rfl, (wFr_tr (wFr_sub f8169x (by simp)) (wFr_tr (wFr_sub f8216x (by simp)) (wFr_tr (wFr_sub f8220x (by simp)) (wFr_sub ff225x (by simp))))), by omega, e224x, e227x, e228x, e229x, e230x, e231x, e232x, e233x, e234x, e235x, e236x, e237x, (by (try dsimp only); first | assumption | omega), (by (try dsimp only); first | assumption | omega), (by (try dsimp only); first | assumption | omega), (by (try dsimp only); first | assumption | omega), (by (try dsimp only); omega), (by (try dsimp only); intro q9; first | omega | exact ⟨ns, nw, hN, hL, hS, hR, hQ, hW⟩ | exact ⟨ns, nw, wNm_7 hN (by omega), hL, hS, hR, hQ, hW⟩ | exact ⟨ns, nw, wNm_8 hN (by omega), hL, hS, hR, hQ, hW⟩ | exact ⟨ns, nw, wNm_9 hN (by omega), hL, hS, hR, hQ, hW⟩ | exact ⟨ns, nw, wNm_10 hN (by omega), hL, hS, hR, hQ, hW⟩ | exact ⟨ns, nw, wNm_11 hN (by omega), hL, hS, hR, hQ, hW⟩ | exact ⟨ns, nw, hN, hX9 (by omega), hS, hR, hQ, hW⟩ | exact ⟨ns, nw, hN, hL, hX9, hR, hQ, hW⟩ | exact ⟨ns, nw, hN, hL, hS, hX9, hQ, hW⟩ | (obtain ⟨m9, a9, b9, c9⟩ := hX9 (by omega); exact ⟨m9, nw, b9, hL, hS, hR, c9, wW2_m hW a9⟩) | (obtain ⟨m9, b9, c9⟩ := hX9 (by omega); exact ⟨ns, m9, b9, hL, hS, hR, hQ, c9⟩)), (by (try dsimp only); exact ⟨by first | assumption | exact hz.1 | exact wFh_set hz.1 (by decide), by first | assumption | exact hz.2.1, by first | assumption | exact hz.2.2.1, by first | assumption | exact hz.2.2.2.1, by first | assumption | exact hz.2.2.2.2.1, by first | assumption | exact hz.2.2.2.2.2⟩)⟩
                · have q238x : va.toInt = 6 := congrArg Int32.toInt b21x
                  refine wq_gos (f := 1) (pc2 := 140) (ls2 := [(0, .ref 162)]) (st2 := [.int 99999, .int 0, .int 4, .int 6, .ref 162]) (h2 := h) (dc2 := 0) (ds2 := 0) 5 rfl ?_
                  refine wq_inlv (y2 := 179) (as := [.int 6, .int 4, .int 0, .int 99999]) rfl rfl rfl hM rfl ?_
                  show wq 179 0 [(0, .ref 162), (1, .int 6), (2, .int 4), (3, .int 0), (4, .int 99999)] [] h 0 0 _
                  refine wq_gos (f := 1) (pc2 := 2) (ls2 := [(0, .ref 162), (1, .int 6), (2, .int 4), (3, .int 0), (4, .int 99999)]) (st2 := [.int 6, .ref 162]) (h2 := h) (dc2 := 0) (ds2 := 0) 2 rfl ?_
                  refine wq_inlv (y2 := 171) (as := [.int 6]) rfl rfl rfl hM rfl (wq_mono (m_onc (w := 6) hM hT hIt (by first | assumption | omega | decide | solve_by_elim) ⟨Nat.le_refl _, by omega⟩ (by first | assumption | omega | decide | solve_by_elim) (by first | assumption | omega | decide | solve_by_elim) (by first | assumption | omega | decide | solve_by_elim)) ?_)
                  rintro _ ⟨h8239x, rfl, f8239x, l8239x, c0239x, c1239x, p0239x, p1239x, p2239x, p3239x, p4239x⟩
                  show wq 179 5 [(0, .ref 162), (1, .int 6), (2, .int 4), (3, .int 0), (4, .int 99999)] [] h8239x 0 0 _
                  obtain ⟨v240x, hv241x⟩ : ∃ x, x = (mOnc tb sz at9 pl so va ft fp 6 it) := ⟨_, rfl⟩
                  try rw [← hv241x] at c0239x
                  try rw [← hv241x] at c1239x
                  try rw [← hv241x] at p0239x
                  try rw [← hv241x] at p1239x
                  try rw [← hv241x] at p2239x
                  try rw [← hv241x] at p3239x
                  try rw [← hv241x] at p4239x
                  try rw [← hv241x]
                  refine wq_gos (f := 1) (pc2 := 11) (ls2 := [(0, .ref 162), (1, .int 6), (2, .int 4), (3, .int 0), (4, .int 99999)]) (st2 := [.int 99999, .int 0, .ref 162, .int 4, .ref 162]) (h2 := h8239x) (dc2 := 0) (ds2 := 0) 5 rfl ?_
                  have e242x := (f8239x.2 _ _ (wnc (by decide) (wnc (by decide) wn0)) hT)
                  have q243x : (0 : Int32).toInt = 0 := rfl
                  have q244x : (99999 : Int32).toInt = 99999 := rfl
                  refine wq_inlv (y2 := 166) (as := [.int 0, .int 99999]) rfl rfl rfl c0239x rfl (wq_mono (m_nml c0239x e242x (by first | assumption | omega | decide | solve_by_elim) ⟨Nat.le_refl _, by omega⟩ (by first | assumption | omega | decide | solve_by_elim) (by first | assumption | omega | decide | solve_by_elim)) ?_)
                  rintro _ ⟨h8245x, rfl, f8245x, l8245x, c0245x, p0245x, p1245x, p2245x, p3245x, p4245x, p5245x⟩
                  show wq 179 14 [(0, .ref 162), (1, .int 6), (2, .int 4), (3, .int 0), (4, .int 99999)] [.int ((mNml tb sz (v240x.2.2.1) (v240x.2.2.2.1) (v240x.2.2.2.2.1) (v240x.2.2.2.2.2.1) (v240x.1) (v240x.2.1) (0 : Int32) (99999 : Int32)).1), .int 4, .ref 162] h8245x 0 0 _
                  obtain ⟨v246x, hv247x⟩ : ∃ x, x = (mNml tb sz (v240x.2.2.1) (v240x.2.2.2.1) (v240x.2.2.2.2.1) (v240x.2.2.2.2.2.1) (v240x.1) (v240x.2.1) (0 : Int32) (99999 : Int32)) := ⟨_, rfl⟩
                  try rw [← hv247x] at c0245x
                  try rw [← hv247x] at p0245x
                  try rw [← hv247x] at p1245x
                  try rw [← hv247x] at p2245x
                  try rw [← hv247x] at p3245x
                  try rw [← hv247x] at p4245x
                  try rw [← hv247x] at p5245x
                  try rw [← hv247x]
                  refine wq_inlv (y2 := 170) (as := [.int 4, .int (v246x.1)]) rfl rfl rfl c0245x rfl ?_
                  show wq 170 0 [(0, .ref 162), (1, .int 4), (2, .int (v246x.1))] [] h8245x 0 0 _
                  refine wq_gos (f := 1) (pc2 := 1) (ls2 := [(0, .ref 162), (1, .int 4), (2, .int (v246x.1))]) (st2 := [.ref 162]) (h2 := h8245x) (dc2 := 0) (ds2 := 0) 1 rfl ?_
                  refine wq_getf rfl c0245x rfl rfl ?_
                  refine wq_gos (f := 1) (pc2 := 9) (ls2 := [(0, .ref 162), (1, .int 4), (2, .int (v246x.1))]) (st2 := [.int (v246x.1), .int 11, .ref 166]) (h2 := h8245x) (dc2 := 0) (ds2 := 0) 4 rfl ?_
                  have e248x := (f8245x.2 _ _ (wnc (by decide) wn0) (f8239x.2 _ _ (wnc (by decide) (wnc (by decide) wn0)) hKn))
                  have q249x : (11 : Int32).toInt = 11 := rfl
                  refine wq_iast rfl e248x rfl rfl ?_
                  intro hh250x e251x ff252x lh253x
                  have e251x : zat hh250x 166 = some (.inl (0, 14, (zset 0 kn 11 (v246x.1)))) := e251x
                  refine wq_ret rfl rfl ?_
                  show wq 179 17 [(0, .ref 162), (1, .int 6), (2, .int 4), (3, .int 0), (4, .int 99999)] [] hh250x 0 0 _
                  refine wq_ret rfl rfl ?_
                  show wq 180 143 [(0, .ref 162)] [] hh250x 0 0 _
                  refine wq_gos (f := 1) (pc2 := 183) (ls2 := [(0, .ref 162)]) (st2 := [.ref 162]) (h2 := hh250x) (dc2 := 0) (ds2 := 0) 2 rfl ?_
                  have e254x := (ff252x.2 _ _ (wnc (by decide) wn0) c0245x)
                  refine wq_getf rfl e254x rfl rfl ?_
                  refine wq_ne0 rfl rfl (fun b255x => ?_) (fun b255x => ?_)
                  · have q256x : (v246x.2.1).toInt ≠ 0 := fun q => b255x (Int32.toInt_inj.mp q)
                    refine wq_gos (f := 1) (pc2 := 203) (ls2 := [(0, .ref 162)]) (st2 := [.ref 162]) (h2 := hh250x) (dc2 := 0) (ds2 := 0) 1 rfl ?_
                    have e257x := (ff252x.2 _ _ (wnc (by decide) wn0) (f8245x.2 _ _ (wnc (by decide) wn0) e242x))
                    refine wq_inlv (y2 := 164) (as := []) rfl rfl rfl e254x rfl (wq_mono (m_go e254x e257x (by first | assumption | omega | decide | solve_by_elim) ⟨Nat.le_refl _, by omega⟩ (by first | assumption | omega | decide | solve_by_elim)) ?_)
                    rintro _ ⟨h8258x, rfl, f8258x, l8258x, c0258x, p0258x, p1258x, p2258x, p3258x⟩
                    show wq 180 206 [(0, .ref 162)] [] h8258x 0 0 _
                    obtain ⟨v259x, hv260x⟩ : ∃ x, x = (mGo tb sz (v246x.2.2.2.1) (v246x.2.2.2.2.1) (v246x.2.2.2.2.2.1) (v246x.2.2.2.2.2.2) (v246x.2.1)) := ⟨_, rfl⟩
                    try rw [← hv260x] at c0258x
                    try rw [← hv260x] at p0258x
                    try rw [← hv260x] at p1258x
                    try rw [← hv260x] at p2258x
                    try rw [← hv260x] at p3258x
                    try rw [← hv260x]
                    refine wq_gos (f := 1) (pc2 := 208) (ls2 := [(0, .ref 162)]) (st2 := [.ref 162, .ref 162]) (h2 := h8258x) (dc2 := 0) (ds2 := 0) 2 rfl ?_
                    refine wq_getf rfl c0258x rfl rfl ?_
                    refine wq_gos (f := 1) (pc2 := 213) (ls2 := [(0, .ref 162)]) (st2 := [.int (n14 + (1 : Int32)), .ref 162]) (h2 := h8258x) (dc2 := 0) (ds2 := 0) 2 rfl ?_
                    refine wq_putf rfl c0258x rfl rfl rfl ?_
                    intro hh261x e262x ff263x lh264x
                    have e262x : zat hh261x 162 = some (.inr (.inr (.inr (10, mO n0 n2 (n14 + (1 : Int32)) (nI sz) (nI (v259x.1)) (nI (v259x.2.1)) (v259x.2.2.1) (v259x.2.2.2) (v246x.2.1) (v246x.2.2.1) n22 n23 n27 n28 n32 n33 n34 n35 n39 n52)))) := e262x
                    have e265x := (ff263x.2 _ _ (wnc (by decide) wn0) (f8258x.2 _ _ (wnc (by decide) wn0) e251x))
                    have e266x := (ff263x.2 _ _ (wnc (by decide) wn0) (f8258x.2 _ _ (wnc (by decide) wn0) (ff252x.2 _ _ (wnc (by decide) wn0) (f8245x.2 _ _ (wnc (by decide) wn0) (f8239x.2 _ _ (wnc (by decide) (wnc (by decide) wn0)) hLo)))))
                    have e267x := (ff263x.2 _ _ (wnc (by decide) wn0) (f8258x.2 _ _ (wnc (by decide) wn0) (ff252x.2 _ _ (wnc (by decide) wn0) (f8245x.2 _ _ (wnc (by decide) wn0) (f8239x.2 _ _ (wnc (by decide) (wnc (by decide) wn0)) hHi)))))
                    have e268x := (ff263x.2 _ _ (wnc (by decide) wn0) (f8258x.2 _ _ (wnc (by decide) wn0) (ff252x.2 _ _ (wnc (by decide) wn0) (f8245x.2 _ _ (wnc (by decide) wn0) (f8239x.2 _ _ (wnc (by decide) (wnc (by decide) wn0)) hSv)))))
                    have e269x := (ff263x.2 _ _ (wnc (by decide) wn0) (f8258x.2 _ _ (wnc (by decide) wn0) (ff252x.2 _ _ (wnc (by decide) wn0) (f8245x.2 _ _ (wnc (by decide) wn0) (f8239x.2 _ _ (wnc (by decide) (wnc (by decide) wn0)) hRt)))))
                    have e270x := (ff263x.2 _ _ (wnc (by decide) wn0) (f8258x.2 _ _ (wnc (by decide) wn0) (ff252x.2 _ _ (wnc (by decide) wn0) (f8245x.2 _ _ (wnc (by decide) wn0) (f8239x.2 _ _ (wnc (by decide) (wnc (by decide) wn0)) hSn)))))
                    have e271x := (ff263x.2 _ _ (wnc (by decide) wn0) (f8258x.2 _ _ (wnc (by decide) wn0) (ff252x.2 _ _ (wnc (by decide) wn0) (f8245x.2 _ _ (wnc (by decide) wn0) (f8239x.2 _ _ (wnc (by decide) (wnc (by decide) wn0)) hSq)))))
                    have e272x := (ff263x.2 _ _ (wnc (by decide) wn0) (f8258x.2 _ _ (wnc (by decide) wn0) (ff252x.2 _ _ (wnc (by decide) wn0) (f8245x.2 _ _ (wnc (by decide) wn0) (f8239x.2 _ _ (wnc (by decide) (wnc (by decide) wn0)) hWy)))))
                    have e273x := (ff263x.2 _ _ (wnc (by decide) wn0) (f8258x.2 _ _ (wnc (by decide) wn0) (ff252x.2 _ _ (wnc (by decide) wn0) (f8245x.2 _ _ (wnc (by decide) wn0) c1239x))))
                    have e274x := (ff263x.2 _ _ (wnc (by decide) wn0) (f8258x.2 _ _ (wnc (by decide) wn0) (ff252x.2 _ _ (wnc (by decide) wn0) (f8245x.2 _ _ (wnc (by decide) wn0) (f8239x.2 _ _ (wnc (by decide) (wnc (by decide) wn0)) hHd)))))
                    have e275x := (ff263x.2 _ _ (wnc (by decide) wn0) (f8258x.2 _ _ (wnc (by decide) wn0) (ff252x.2 _ _ (wnc (by decide) wn0) (f8245x.2 _ _ (wnc (by decide) wn0) (f8239x.2 _ _ (wnc (by decide) (wnc (by decide) wn0)) hHs)))))
                    have hx : (mLin tb sz at9 pl so va ft fp n14 ns nw kn lo hi sv rt sn sq wy it hl hs) = ((v246x.2.1), (v246x.2.2.1), (v259x.1), (v259x.2.1), (v259x.2.2.1), (v259x.2.2.2), (n14 + (1 : Int32)), (zset 0 kn 11 (v246x.1)), lo, hi, sv, rt, sn, sq, wy, (v240x.2.2.2.2.2.2), hl, hs) := by unfold mLin; rw [if_pos b1x, if_pos b3x, if_pos b6x, if_pos b9x, if_pos b12x, if_pos b15x, if_pos b18x, if_neg (fun q => q b21x), zlet_eq hv241x, zlet_eq hv247x, if_pos b255x, zlet_eq hv260x]
                    rw [hx]
                    exact wq_ret rfl rfl ⟨hh261x, rfl, (wFr_tr (wFr_sub f8239x (by simp)) (wFr_tr (wFr_sub f8245x (by simp)) (wFr_tr (wFr_sub ff252x (by simp)) (wFr_tr (wFr_sub f8258x (by simp)) (wFr_sub ff263x (by simp)))))), by omega, e262x, e265x, e266x, e267x, e268x, e269x, e270x, e271x, e272x, e273x, e274x, e275x, (by (try dsimp only); first | assumption | omega), (by (try dsimp only); first | assumption | omega), (by (try dsimp only); first | assumption | omega), (by (try dsimp only); first | assumption | omega), (by (try dsimp only); omega), (by (try dsimp only); intro q9; first | omega | exact ⟨ns, nw, hN, hL, hS, hR, hQ, hW⟩ | exact ⟨ns, nw, wNm_7 hN (by omega), hL, hS, hR, hQ, hW⟩ | exact ⟨ns, nw, wNm_8 hN (by omega), hL, hS, hR, hQ, hW⟩ | exact ⟨ns, nw, wNm_9 hN (by omega), hL, hS, hR, hQ, hW⟩ | exact ⟨ns, nw, wNm_10 hN (by omega), hL, hS, hR, hQ, hW⟩ | exact ⟨ns, nw, wNm_11 hN (by omega), hL, hS, hR, hQ, hW⟩ | exact ⟨ns, nw, hN, hX9 (by omega), hS, hR, hQ, hW⟩ | exact ⟨ns, nw, hN, hL, hX9, hR, hQ, hW⟩ | exact ⟨ns, nw, hN, hL, hS, hX9, hQ, hW⟩ | (obtain ⟨m9, a9, b9, c9⟩ := hX9 (by omega); exact ⟨m9, nw, b9, hL, hS, hR, c9, wW2_m hW a9⟩) | (obtain ⟨m9, b9, c9⟩ := hX9 (by omega); exact ⟨ns, m9, b9, hL, hS, hR, hQ, c9⟩)), (by (try dsimp only); exact ⟨by first | assumption | exact hz.1 | exact wFh_set hz.1 (by decide), by first | assumption | exact hz.2.1, by first | assumption | exact hz.2.2.1, by first | assumption | exact hz.2.2.2.1, by first | assumption | exact hz.2.2.2.2.1, by first | assumption | exact hz.2.2.2.2.2⟩)⟩
                  · have q276x : (v246x.2.1).toInt = 0 := congrArg Int32.toInt b255x
                    refine wq_gos (f := 1) (pc2 := 190) (ls2 := [(0, .ref 162)]) (st2 := [.ref 162]) (h2 := hh250x) (dc2 := 0) (ds2 := 0) 1 rfl ?_
                    refine wq_getf rfl e254x rfl rfl ?_
                    refine wq_gos (f := 1) (pc2 := 194) (ls2 := [(0, .ref 162)]) (st2 := [.int 4, .int (v246x.2.2.2.2.2.1)]) (h2 := hh250x) (dc2 := 0) (ds2 := 0) 1 rfl ?_
                    refine wq_eq2 rfl rfl (fun b277x => ?_) (fun b277x => ?_)
                    · have q278x : (v246x.2.2.2.2.2.1).toInt = 4 := congrArg Int32.toInt b277x
                      refine wq_gos (f := 1) (pc2 := 203) (ls2 := [(0, .ref 162)]) (st2 := [.ref 162]) (h2 := hh250x) (dc2 := 0) (ds2 := 0) 1 rfl ?_
                      have e279x := (ff252x.2 _ _ (wnc (by decide) wn0) (f8245x.2 _ _ (wnc (by decide) wn0) e242x))
                      refine wq_inlv (y2 := 164) (as := []) rfl rfl rfl e254x rfl (wq_mono (m_go e254x e279x (by first | assumption | omega | decide | solve_by_elim) ⟨Nat.le_refl _, by omega⟩ (by first | assumption | omega | decide | solve_by_elim)) ?_)
                      rintro _ ⟨h8280x, rfl, f8280x, l8280x, c0280x, p0280x, p1280x, p2280x, p3280x⟩
                      show wq 180 206 [(0, .ref 162)] [] h8280x 0 0 _
                      obtain ⟨v281x, hv282x⟩ : ∃ x, x = (mGo tb sz (v246x.2.2.2.1) (v246x.2.2.2.2.1) (v246x.2.2.2.2.2.1) (v246x.2.2.2.2.2.2) (v246x.2.1)) := ⟨_, rfl⟩
                      try rw [← hv282x] at c0280x
                      try rw [← hv282x] at p0280x
                      try rw [← hv282x] at p1280x
                      try rw [← hv282x] at p2280x
                      try rw [← hv282x] at p3280x
                      try rw [← hv282x]
                      refine wq_gos (f := 1) (pc2 := 208) (ls2 := [(0, .ref 162)]) (st2 := [.ref 162, .ref 162]) (h2 := h8280x) (dc2 := 0) (ds2 := 0) 2 rfl ?_
                      refine wq_getf rfl c0280x rfl rfl ?_
                      refine wq_gos (f := 1) (pc2 := 213) (ls2 := [(0, .ref 162)]) (st2 := [.int (n14 + (1 : Int32)), .ref 162]) (h2 := h8280x) (dc2 := 0) (ds2 := 0) 2 rfl ?_
                      refine wq_putf rfl c0280x rfl rfl rfl ?_
                      intro hh283x e284x ff285x lh286x
                      have e284x : zat hh283x 162 = some (.inr (.inr (.inr (10, mO n0 n2 (n14 + (1 : Int32)) (nI sz) (nI (v281x.1)) (nI (v281x.2.1)) (v281x.2.2.1) (v281x.2.2.2) (v246x.2.1) (v246x.2.2.1) n22 n23 n27 n28 n32 n33 n34 n35 n39 n52)))) := e284x
                      have e287x := (ff285x.2 _ _ (wnc (by decide) wn0) (f8280x.2 _ _ (wnc (by decide) wn0) e251x))
                      have e288x := (ff285x.2 _ _ (wnc (by decide) wn0) (f8280x.2 _ _ (wnc (by decide) wn0) (ff252x.2 _ _ (wnc (by decide) wn0) (f8245x.2 _ _ (wnc (by decide) wn0) (f8239x.2 _ _ (wnc (by decide) (wnc (by decide) wn0)) hLo)))))
                      have e289x := (ff285x.2 _ _ (wnc (by decide) wn0) (f8280x.2 _ _ (wnc (by decide) wn0) (ff252x.2 _ _ (wnc (by decide) wn0) (f8245x.2 _ _ (wnc (by decide) wn0) (f8239x.2 _ _ (wnc (by decide) (wnc (by decide) wn0)) hHi)))))
                      have e290x := (ff285x.2 _ _ (wnc (by decide) wn0) (f8280x.2 _ _ (wnc (by decide) wn0) (ff252x.2 _ _ (wnc (by decide) wn0) (f8245x.2 _ _ (wnc (by decide) wn0) (f8239x.2 _ _ (wnc (by decide) (wnc (by decide) wn0)) hSv)))))
                      have e291x := (ff285x.2 _ _ (wnc (by decide) wn0) (f8280x.2 _ _ (wnc (by decide) wn0) (ff252x.2 _ _ (wnc (by decide) wn0) (f8245x.2 _ _ (wnc (by decide) wn0) (f8239x.2 _ _ (wnc (by decide) (wnc (by decide) wn0)) hRt)))))
                      have e292x := (ff285x.2 _ _ (wnc (by decide) wn0) (f8280x.2 _ _ (wnc (by decide) wn0) (ff252x.2 _ _ (wnc (by decide) wn0) (f8245x.2 _ _ (wnc (by decide) wn0) (f8239x.2 _ _ (wnc (by decide) (wnc (by decide) wn0)) hSn)))))
                      have e293x := (ff285x.2 _ _ (wnc (by decide) wn0) (f8280x.2 _ _ (wnc (by decide) wn0) (ff252x.2 _ _ (wnc (by decide) wn0) (f8245x.2 _ _ (wnc (by decide) wn0) (f8239x.2 _ _ (wnc (by decide) (wnc (by decide) wn0)) hSq)))))
                      have e294x := (ff285x.2 _ _ (wnc (by decide) wn0) (f8280x.2 _ _ (wnc (by decide) wn0) (ff252x.2 _ _ (wnc (by decide) wn0) (f8245x.2 _ _ (wnc (by decide) wn0) (f8239x.2 _ _ (wnc (by decide) (wnc (by decide) wn0)) hWy)))))
                      have e295x := (ff285x.2 _ _ (wnc (by decide) wn0) (f8280x.2 _ _ (wnc (by decide) wn0) (ff252x.2 _ _ (wnc (by decide) wn0) (f8245x.2 _ _ (wnc (by decide) wn0) c1239x))))
                      have e296x := (ff285x.2 _ _ (wnc (by decide) wn0) (f8280x.2 _ _ (wnc (by decide) wn0) (ff252x.2 _ _ (wnc (by decide) wn0) (f8245x.2 _ _ (wnc (by decide) wn0) (f8239x.2 _ _ (wnc (by decide) (wnc (by decide) wn0)) hHd)))))
                      have e297x := (ff285x.2 _ _ (wnc (by decide) wn0) (f8280x.2 _ _ (wnc (by decide) wn0) (ff252x.2 _ _ (wnc (by decide) wn0) (f8245x.2 _ _ (wnc (by decide) wn0) (f8239x.2 _ _ (wnc (by decide) (wnc (by decide) wn0)) hHs)))))
                      have hx : (mLin tb sz at9 pl so va ft fp n14 ns nw kn lo hi sv rt sn sq wy it hl hs) = ((v246x.2.1), (v246x.2.2.1), (v281x.1), (v281x.2.1), (v281x.2.2.1), (v281x.2.2.2), (n14 + (1 : Int32)), (zset 0 kn 11 (v246x.1)), lo, hi, sv, rt, sn, sq, wy, (v240x.2.2.2.2.2.2), hl, hs) := by unfold mLin; rw [if_pos b1x, if_pos b3x, if_pos b6x, if_pos b9x, if_pos b12x, if_pos b15x, if_pos b18x, if_neg (fun q => q b21x), zlet_eq hv241x, zlet_eq hv247x, if_neg (fun q => q b255x), if_pos b277x, zlet_eq hv282x]
                      rw [hx]
                      exact wq_ret rfl rfl ⟨hh283x, rfl, (wFr_tr (wFr_sub f8239x (by simp)) (wFr_tr (wFr_sub f8245x (by simp)) (wFr_tr (wFr_sub ff252x (by simp)) (wFr_tr (wFr_sub f8280x (by simp)) (wFr_sub ff285x (by simp)))))), by omega, e284x, e287x, e288x, e289x, e290x, e291x, e292x, e293x, e294x, e295x, e296x, e297x, (by (try dsimp only); first | assumption | omega), (by (try dsimp only); first | assumption | omega), (by (try dsimp only); first | assumption | omega), (by (try dsimp only); first | assumption | omega), (by (try dsimp only); omega), (by (try dsimp only); intro q9; first | omega | exact ⟨ns, nw, hN, hL, hS, hR, hQ, hW⟩ | exact ⟨ns, nw, wNm_7 hN (by omega), hL, hS, hR, hQ, hW⟩ | exact ⟨ns, nw, wNm_8 hN (by omega), hL, hS, hR, hQ, hW⟩ | exact ⟨ns, nw, wNm_9 hN (by omega), hL, hS, hR, hQ, hW⟩ | exact ⟨ns, nw, wNm_10 hN (by omega), hL, hS, hR, hQ, hW⟩ | exact ⟨ns, nw, wNm_11 hN (by omega), hL, hS, hR, hQ, hW⟩ | exact ⟨ns, nw, hN, hX9 (by omega), hS, hR, hQ, hW⟩ | exact ⟨ns, nw, hN, hL, hX9, hR, hQ, hW⟩ | exact ⟨ns, nw, hN, hL, hS, hX9, hQ, hW⟩ | (obtain ⟨m9, a9, b9, c9⟩ := hX9 (by omega); exact ⟨m9, nw, b9, hL, hS, hR, c9, wW2_m hW a9⟩) | (obtain ⟨m9, b9, c9⟩ := hX9 (by omega); exact ⟨ns, m9, b9, hL, hS, hR, hQ, c9⟩)), (by (try dsimp only); exact ⟨by first | assumption | exact hz.1 | exact wFh_set hz.1 (by decide), by first | assumption | exact hz.2.1, by first | assumption | exact hz.2.2.1, by first | assumption | exact hz.2.2.2.1, by first | assumption | exact hz.2.2.2.2.1, by first | assumption | exact hz.2.2.2.2.2⟩)⟩
                    · have q298x : (v246x.2.2.2.2.2.1).toInt ≠ 4 := fun q => b277x (Int32.toInt_inj.mp q)
                      refine wq_gos (f := 1) (pc2 := 199) (ls2 := [(0, .ref 162)]) (st2 := [.int 1, .ref 162]) (h2 := hh250x) (dc2 := 0) (ds2 := 0) 2 rfl ?_
                      refine wq_inlv (y2 := 163) (as := [.int 1]) rfl rfl rfl e254x rfl (wq_mono (m_wro e254x (by first | assumption | omega | decide | solve_by_elim) (by first | assumption | omega | decide | solve_by_elim)) ?_)
                      rintro _ ⟨h8299x, rfl, f8299x, l8299x, c0299x, p0299x⟩
                      show wq 180 202 [(0, .ref 162)] [] h8299x 0 0 _
                      obtain ⟨v300x, hv301x⟩ : ∃ x, x = (mWro (v246x.2.2.2.2.1) (v246x.2.1) (v246x.2.2.1) (1 : Int32)) := ⟨_, rfl⟩
                      try rw [← hv301x] at c0299x
                      try rw [← hv301x] at p0299x
                      try rw [← hv301x]
                      refine wq_gos (f := 1) (pc2 := 203) (ls2 := [(0, .ref 162)]) (st2 := [.ref 162]) (h2 := h8299x) (dc2 := 0) (ds2 := 0) 1 rfl ?_
                      have e302x := (f8299x.2 _ _ (wnc (by decide) wn0) (ff252x.2 _ _ (wnc (by decide) wn0) (f8245x.2 _ _ (wnc (by decide) wn0) e242x)))
                      refine wq_inlv (y2 := 164) (as := []) rfl rfl rfl c0299x rfl (wq_mono (m_go c0299x e302x (by first | assumption | omega | decide | solve_by_elim) ⟨Nat.le_refl _, by omega⟩ (by first | assumption | omega | decide | solve_by_elim)) ?_)
                      rintro _ ⟨h8303x, rfl, f8303x, l8303x, c0303x, p0303x, p1303x, p2303x, p3303x⟩
                      show wq 180 206 [(0, .ref 162)] [] h8303x 0 0 _
                      obtain ⟨v304x, hv305x⟩ : ∃ x, x = (mGo tb sz (v246x.2.2.2.1) (v246x.2.2.2.2.1) (v246x.2.2.2.2.2.1) (v246x.2.2.2.2.2.2) (v300x.1)) := ⟨_, rfl⟩
                      try rw [← hv305x] at c0303x
                      try rw [← hv305x] at p0303x
                      try rw [← hv305x] at p1303x
                      try rw [← hv305x] at p2303x
                      try rw [← hv305x] at p3303x
                      try rw [← hv305x]
                      refine wq_gos (f := 1) (pc2 := 208) (ls2 := [(0, .ref 162)]) (st2 := [.ref 162, .ref 162]) (h2 := h8303x) (dc2 := 0) (ds2 := 0) 2 rfl ?_
                      refine wq_getf rfl c0303x rfl rfl ?_
                      refine wq_gos (f := 1) (pc2 := 213) (ls2 := [(0, .ref 162)]) (st2 := [.int (n14 + (1 : Int32)), .ref 162]) (h2 := h8303x) (dc2 := 0) (ds2 := 0) 2 rfl ?_
                      refine wq_putf rfl c0303x rfl rfl rfl ?_
                      intro hh306x e307x ff308x lh309x
                      have e307x : zat hh306x 162 = some (.inr (.inr (.inr (10, mO n0 n2 (n14 + (1 : Int32)) (nI sz) (nI (v304x.1)) (nI (v304x.2.1)) (v304x.2.2.1) (v304x.2.2.2) (v300x.1) (v300x.2) n22 n23 n27 n28 n32 n33 n34 n35 n39 n52)))) := e307x
                      have e310x := (ff308x.2 _ _ (wnc (by decide) wn0) (f8303x.2 _ _ (wnc (by decide) wn0) (f8299x.2 _ _ (wnc (by decide) wn0) e251x)))
                      have e311x := (ff308x.2 _ _ (wnc (by decide) wn0) (f8303x.2 _ _ (wnc (by decide) wn0) (f8299x.2 _ _ (wnc (by decide) wn0) (ff252x.2 _ _ (wnc (by decide) wn0) (f8245x.2 _ _ (wnc (by decide) wn0) (f8239x.2 _ _ (wnc (by decide) (wnc (by decide) wn0)) hLo))))))
                      have e312x := (ff308x.2 _ _ (wnc (by decide) wn0) (f8303x.2 _ _ (wnc (by decide) wn0) (f8299x.2 _ _ (wnc (by decide) wn0) (ff252x.2 _ _ (wnc (by decide) wn0) (f8245x.2 _ _ (wnc (by decide) wn0) (f8239x.2 _ _ (wnc (by decide) (wnc (by decide) wn0)) hHi))))))
                      have e313x := (ff308x.2 _ _ (wnc (by decide) wn0) (f8303x.2 _ _ (wnc (by decide) wn0) (f8299x.2 _ _ (wnc (by decide) wn0) (ff252x.2 _ _ (wnc (by decide) wn0) (f8245x.2 _ _ (wnc (by decide) wn0) (f8239x.2 _ _ (wnc (by decide) (wnc (by decide) wn0)) hSv))))))
                      have e314x := (ff308x.2 _ _ (wnc (by decide) wn0) (f8303x.2 _ _ (wnc (by decide) wn0) (f8299x.2 _ _ (wnc (by decide) wn0) (ff252x.2 _ _ (wnc (by decide) wn0) (f8245x.2 _ _ (wnc (by decide) wn0) (f8239x.2 _ _ (wnc (by decide) (wnc (by decide) wn0)) hRt))))))
                      have e315x := (ff308x.2 _ _ (wnc (by decide) wn0) (f8303x.2 _ _ (wnc (by decide) wn0) (f8299x.2 _ _ (wnc (by decide) wn0) (ff252x.2 _ _ (wnc (by decide) wn0) (f8245x.2 _ _ (wnc (by decide) wn0) (f8239x.2 _ _ (wnc (by decide) (wnc (by decide) wn0)) hSn))))))
                      have e316x := (ff308x.2 _ _ (wnc (by decide) wn0) (f8303x.2 _ _ (wnc (by decide) wn0) (f8299x.2 _ _ (wnc (by decide) wn0) (ff252x.2 _ _ (wnc (by decide) wn0) (f8245x.2 _ _ (wnc (by decide) wn0) (f8239x.2 _ _ (wnc (by decide) (wnc (by decide) wn0)) hSq))))))
                      have e317x := (ff308x.2 _ _ (wnc (by decide) wn0) (f8303x.2 _ _ (wnc (by decide) wn0) (f8299x.2 _ _ (wnc (by decide) wn0) (ff252x.2 _ _ (wnc (by decide) wn0) (f8245x.2 _ _ (wnc (by decide) wn0) (f8239x.2 _ _ (wnc (by decide) (wnc (by decide) wn0)) hWy))))))
                      have e318x := (ff308x.2 _ _ (wnc (by decide) wn0) (f8303x.2 _ _ (wnc (by decide) wn0) (f8299x.2 _ _ (wnc (by decide) wn0) (ff252x.2 _ _ (wnc (by decide) wn0) (f8245x.2 _ _ (wnc (by decide) wn0) c1239x)))))
                      have e319x := (ff308x.2 _ _ (wnc (by decide) wn0) (f8303x.2 _ _ (wnc (by decide) wn0) (f8299x.2 _ _ (wnc (by decide) wn0) (ff252x.2 _ _ (wnc (by decide) wn0) (f8245x.2 _ _ (wnc (by decide) wn0) (f8239x.2 _ _ (wnc (by decide) (wnc (by decide) wn0)) hHd))))))
                      have e320x := (ff308x.2 _ _ (wnc (by decide) wn0) (f8303x.2 _ _ (wnc (by decide) wn0) (f8299x.2 _ _ (wnc (by decide) wn0) (ff252x.2 _ _ (wnc (by decide) wn0) (f8245x.2 _ _ (wnc (by decide) wn0) (f8239x.2 _ _ (wnc (by decide) (wnc (by decide) wn0)) hHs))))))
                      have hx : (mLin tb sz at9 pl so va ft fp n14 ns nw kn lo hi sv rt sn sq wy it hl hs) = ((v300x.1), (v300x.2), (v304x.1), (v304x.2.1), (v304x.2.2.1), (v304x.2.2.2), (n14 + (1 : Int32)), (zset 0 kn 11 (v246x.1)), lo, hi, sv, rt, sn, sq, wy, (v240x.2.2.2.2.2.2), hl, hs) := by unfold mLin; rw [if_pos b1x, if_pos b3x, if_pos b6x, if_pos b9x, if_pos b12x, if_pos b15x, if_pos b18x, if_neg (fun q => q b21x), zlet_eq hv241x, zlet_eq hv247x, if_neg (fun q => q b255x), if_neg b277x, zlet_eq hv301x, zlet_eq hv305x]
                      rw [hx]
                      exact wq_ret rfl rfl ⟨hh306x, rfl, (wFr_tr (wFr_sub f8239x (by simp)) (wFr_tr (wFr_sub f8245x (by simp)) (wFr_tr (wFr_sub ff252x (by simp)) (wFr_tr (wFr_sub f8299x (by simp)) (wFr_tr (wFr_sub f8303x (by simp)) (wFr_sub ff308x (by simp))))))), by omega, e307x, e310x, e311x, e312x, e313x, e314x, e315x, e316x, e317x, e318x, e319x, e320x, (by (try dsimp only); first | assumption | omega), (by (try dsimp only); first | assumption | omega), (by (try dsimp only); first | assumption | omega), (by (try dsimp only); first | assumption | omega), (by (try dsimp only); omega), (by (try dsimp only); intro q9; first | omega | exact ⟨ns, nw, hN, hL, hS, hR, hQ, hW⟩ | exact ⟨ns, nw, wNm_7 hN (by omega), hL, hS, hR, hQ, hW⟩ | exact ⟨ns, nw, wNm_8 hN (by omega), hL, hS, hR, hQ, hW⟩ | exact ⟨ns, nw, wNm_9 hN (by omega), hL, hS, hR, hQ, hW⟩ | exact ⟨ns, nw, wNm_10 hN (by omega), hL, hS, hR, hQ, hW⟩ | exact ⟨ns, nw, wNm_11 hN (by omega), hL, hS, hR, hQ, hW⟩ | exact ⟨ns, nw, hN, hX9 (by omega), hS, hR, hQ, hW⟩ | exact ⟨ns, nw, hN, hL, hX9, hR, hQ, hW⟩ | exact ⟨ns, nw, hN, hL, hS, hX9, hQ, hW⟩ | (obtain ⟨m9, a9, b9, c9⟩ := hX9 (by omega); exact ⟨m9, nw, b9, hL, hS, hR, c9, wW2_m hW a9⟩) | (obtain ⟨m9, b9, c9⟩ := hX9 (by omega); exact ⟨ns, m9, b9, hL, hS, hR, hQ, c9⟩)), (by (try dsimp only); exact ⟨by first | assumption | exact hz.1 | exact wFh_set hz.1 (by decide), by first | assumption | exact hz.2.1, by first | assumption | exact hz.2.2.1, by first | assumption | exact hz.2.2.2.1, by first | assumption | exact hz.2.2.2.2.1, by first | assumption | exact hz.2.2.2.2.2⟩)⟩
              · have q321x : va.toInt = 5 := congrArg Int32.toInt b18x
                refine wq_gos (f := 1) (pc2 := 118) (ls2 := [(0, .ref 162)]) (st2 := [.int 9, .int 0, .int 3, .int 5, .ref 162]) (h2 := h) (dc2 := 0) (ds2 := 0) 5 rfl ?_
                refine wq_inlv (y2 := 179) (as := [.int 5, .int 3, .int 0, .int 9]) rfl rfl rfl hM rfl ?_
                show wq 179 0 [(0, .ref 162), (1, .int 5), (2, .int 3), (3, .int 0), (4, .int 9)] [] h 0 0 _
                refine wq_gos (f := 1) (pc2 := 2) (ls2 := [(0, .ref 162), (1, .int 5), (2, .int 3), (3, .int 0), (4, .int 9)]) (st2 := [.int 5, .ref 162]) (h2 := h) (dc2 := 0) (ds2 := 0) 2 rfl ?_
                refine wq_inlv (y2 := 171) (as := [.int 5]) rfl rfl rfl hM rfl (wq_mono (m_onc (w := 5) hM hT hIt (by first | assumption | omega | decide | solve_by_elim) ⟨Nat.le_refl _, by omega⟩ (by first | assumption | omega | decide | solve_by_elim) (by first | assumption | omega | decide | solve_by_elim) (by first | assumption | omega | decide | solve_by_elim)) ?_)
                rintro _ ⟨h8322x, rfl, f8322x, l8322x, c0322x, c1322x, p0322x, p1322x, p2322x, p3322x, p4322x⟩
                show wq 179 5 [(0, .ref 162), (1, .int 5), (2, .int 3), (3, .int 0), (4, .int 9)] [] h8322x 0 0 _
                obtain ⟨v323x, hv324x⟩ : ∃ x, x = (mOnc tb sz at9 pl so va ft fp 5 it) := ⟨_, rfl⟩
                try rw [← hv324x] at c0322x
                try rw [← hv324x] at c1322x
                try rw [← hv324x] at p0322x
                try rw [← hv324x] at p1322x
                try rw [← hv324x] at p2322x
                try rw [← hv324x] at p3322x
                try rw [← hv324x] at p4322x
                try rw [← hv324x]
                refine wq_gos (f := 1) (pc2 := 11) (ls2 := [(0, .ref 162), (1, .int 5), (2, .int 3), (3, .int 0), (4, .int 9)]) (st2 := [.int 9, .int 0, .ref 162, .int 3, .ref 162]) (h2 := h8322x) (dc2 := 0) (ds2 := 0) 5 rfl ?_
                have e325x := (f8322x.2 _ _ (wnc (by decide) (wnc (by decide) wn0)) hT)
                have q326x : (0 : Int32).toInt = 0 := rfl
                have q327x : (9 : Int32).toInt = 9 := rfl
                refine wq_inlv (y2 := 166) (as := [.int 0, .int 9]) rfl rfl rfl c0322x rfl (wq_mono (m_nml c0322x e325x (by first | assumption | omega | decide | solve_by_elim) ⟨Nat.le_refl _, by omega⟩ (by first | assumption | omega | decide | solve_by_elim) (by first | assumption | omega | decide | solve_by_elim)) ?_)
                rintro _ ⟨h8328x, rfl, f8328x, l8328x, c0328x, p0328x, p1328x, p2328x, p3328x, p4328x, p5328x⟩
                show wq 179 14 [(0, .ref 162), (1, .int 5), (2, .int 3), (3, .int 0), (4, .int 9)] [.int ((mNml tb sz (v323x.2.2.1) (v323x.2.2.2.1) (v323x.2.2.2.2.1) (v323x.2.2.2.2.2.1) (v323x.1) (v323x.2.1) (0 : Int32) (9 : Int32)).1), .int 3, .ref 162] h8328x 0 0 _
                obtain ⟨v329x, hv330x⟩ : ∃ x, x = (mNml tb sz (v323x.2.2.1) (v323x.2.2.2.1) (v323x.2.2.2.2.1) (v323x.2.2.2.2.2.1) (v323x.1) (v323x.2.1) (0 : Int32) (9 : Int32)) := ⟨_, rfl⟩
                try rw [← hv330x] at c0328x
                try rw [← hv330x] at p0328x
                try rw [← hv330x] at p1328x
                try rw [← hv330x] at p2328x
                try rw [← hv330x] at p3328x
                try rw [← hv330x] at p4328x
                try rw [← hv330x] at p5328x
                try rw [← hv330x]
                refine wq_inlv (y2 := 170) (as := [.int 3, .int (v329x.1)]) rfl rfl rfl c0328x rfl ?_
                show wq 170 0 [(0, .ref 162), (1, .int 3), (2, .int (v329x.1))] [] h8328x 0 0 _
                refine wq_gos (f := 1) (pc2 := 1) (ls2 := [(0, .ref 162), (1, .int 3), (2, .int (v329x.1))]) (st2 := [.ref 162]) (h2 := h8328x) (dc2 := 0) (ds2 := 0) 1 rfl ?_
                refine wq_getf rfl c0328x rfl rfl ?_
                refine wq_gos (f := 1) (pc2 := 9) (ls2 := [(0, .ref 162), (1, .int 3), (2, .int (v329x.1))]) (st2 := [.int (v329x.1), .int 10, .ref 166]) (h2 := h8328x) (dc2 := 0) (ds2 := 0) 4 rfl ?_
                have e331x := (f8328x.2 _ _ (wnc (by decide) wn0) (f8322x.2 _ _ (wnc (by decide) (wnc (by decide) wn0)) hKn))
                have q332x : (10 : Int32).toInt = 10 := rfl
                refine wq_iast rfl e331x rfl rfl ?_
                intro hh333x e334x ff335x lh336x
                have e334x : zat hh333x 166 = some (.inl (0, 14, (zset 0 kn 10 (v329x.1)))) := e334x
                refine wq_ret rfl rfl ?_
                show wq 179 17 [(0, .ref 162), (1, .int 5), (2, .int 3), (3, .int 0), (4, .int 9)] [] hh333x 0 0 _
                refine wq_ret rfl rfl ?_
                show wq 180 121 [(0, .ref 162)] [] hh333x 0 0 _
                refine wq_gos (f := 1) (pc2 := 183) (ls2 := [(0, .ref 162)]) (st2 := [.ref 162]) (h2 := hh333x) (dc2 := 0) (ds2 := 0) 2 rfl ?_
                have e337x := (ff335x.2 _ _ (wnc (by decide) wn0) c0328x)
                refine wq_getf rfl e337x rfl rfl ?_
                refine wq_ne0 rfl rfl (fun b338x => ?_) (fun b338x => ?_)
                · have q339x : (v329x.2.1).toInt ≠ 0 := fun q => b338x (Int32.toInt_inj.mp q)
                  refine wq_gos (f := 1) (pc2 := 203) (ls2 := [(0, .ref 162)]) (st2 := [.ref 162]) (h2 := hh333x) (dc2 := 0) (ds2 := 0) 1 rfl ?_
                  have e340x := (ff335x.2 _ _ (wnc (by decide) wn0) (f8328x.2 _ _ (wnc (by decide) wn0) e325x))
                  refine wq_inlv (y2 := 164) (as := []) rfl rfl rfl e337x rfl (wq_mono (m_go e337x e340x (by first | assumption | omega | decide | solve_by_elim) ⟨Nat.le_refl _, by omega⟩ (by first | assumption | omega | decide | solve_by_elim)) ?_)
                  rintro _ ⟨h8341x, rfl, f8341x, l8341x, c0341x, p0341x, p1341x, p2341x, p3341x⟩
                  show wq 180 206 [(0, .ref 162)] [] h8341x 0 0 _
                  obtain ⟨v342x, hv343x⟩ : ∃ x, x = (mGo tb sz (v329x.2.2.2.1) (v329x.2.2.2.2.1) (v329x.2.2.2.2.2.1) (v329x.2.2.2.2.2.2) (v329x.2.1)) := ⟨_, rfl⟩
                  try rw [← hv343x] at c0341x
                  try rw [← hv343x] at p0341x
                  try rw [← hv343x] at p1341x
                  try rw [← hv343x] at p2341x
                  try rw [← hv343x] at p3341x
                  try rw [← hv343x]
                  refine wq_gos (f := 1) (pc2 := 208) (ls2 := [(0, .ref 162)]) (st2 := [.ref 162, .ref 162]) (h2 := h8341x) (dc2 := 0) (ds2 := 0) 2 rfl ?_
                  refine wq_getf rfl c0341x rfl rfl ?_
                  refine wq_gos (f := 1) (pc2 := 213) (ls2 := [(0, .ref 162)]) (st2 := [.int (n14 + (1 : Int32)), .ref 162]) (h2 := h8341x) (dc2 := 0) (ds2 := 0) 2 rfl ?_
                  refine wq_putf rfl c0341x rfl rfl rfl ?_
                  intro hh344x e345x ff346x lh347x
                  have e345x : zat hh344x 162 = some (.inr (.inr (.inr (10, mO n0 n2 (n14 + (1 : Int32)) (nI sz) (nI (v342x.1)) (nI (v342x.2.1)) (v342x.2.2.1) (v342x.2.2.2) (v329x.2.1) (v329x.2.2.1) n22 n23 n27 n28 n32 n33 n34 n35 n39 n52)))) := e345x
                  have e348x := (ff346x.2 _ _ (wnc (by decide) wn0) (f8341x.2 _ _ (wnc (by decide) wn0) e334x))
                  have e349x := (ff346x.2 _ _ (wnc (by decide) wn0) (f8341x.2 _ _ (wnc (by decide) wn0) (ff335x.2 _ _ (wnc (by decide) wn0) (f8328x.2 _ _ (wnc (by decide) wn0) (f8322x.2 _ _ (wnc (by decide) (wnc (by decide) wn0)) hLo)))))
                  have e350x := (ff346x.2 _ _ (wnc (by decide) wn0) (f8341x.2 _ _ (wnc (by decide) wn0) (ff335x.2 _ _ (wnc (by decide) wn0) (f8328x.2 _ _ (wnc (by decide) wn0) (f8322x.2 _ _ (wnc (by decide) (wnc (by decide) wn0)) hHi)))))
                  have e351x := (ff346x.2 _ _ (wnc (by decide) wn0) (f8341x.2 _ _ (wnc (by decide) wn0) (ff335x.2 _ _ (wnc (by decide) wn0) (f8328x.2 _ _ (wnc (by decide) wn0) (f8322x.2 _ _ (wnc (by decide) (wnc (by decide) wn0)) hSv)))))
                  have e352x := (ff346x.2 _ _ (wnc (by decide) wn0) (f8341x.2 _ _ (wnc (by decide) wn0) (ff335x.2 _ _ (wnc (by decide) wn0) (f8328x.2 _ _ (wnc (by decide) wn0) (f8322x.2 _ _ (wnc (by decide) (wnc (by decide) wn0)) hRt)))))
                  have e353x := (ff346x.2 _ _ (wnc (by decide) wn0) (f8341x.2 _ _ (wnc (by decide) wn0) (ff335x.2 _ _ (wnc (by decide) wn0) (f8328x.2 _ _ (wnc (by decide) wn0) (f8322x.2 _ _ (wnc (by decide) (wnc (by decide) wn0)) hSn)))))
                  have e354x := (ff346x.2 _ _ (wnc (by decide) wn0) (f8341x.2 _ _ (wnc (by decide) wn0) (ff335x.2 _ _ (wnc (by decide) wn0) (f8328x.2 _ _ (wnc (by decide) wn0) (f8322x.2 _ _ (wnc (by decide) (wnc (by decide) wn0)) hSq)))))
                  have e355x := (ff346x.2 _ _ (wnc (by decide) wn0) (f8341x.2 _ _ (wnc (by decide) wn0) (ff335x.2 _ _ (wnc (by decide) wn0) (f8328x.2 _ _ (wnc (by decide) wn0) (f8322x.2 _ _ (wnc (by decide) (wnc (by decide) wn0)) hWy)))))
                  have e356x := (ff346x.2 _ _ (wnc (by decide) wn0) (f8341x.2 _ _ (wnc (by decide) wn0) (ff335x.2 _ _ (wnc (by decide) wn0) (f8328x.2 _ _ (wnc (by decide) wn0) c1322x))))
                  have e357x := (ff346x.2 _ _ (wnc (by decide) wn0) (f8341x.2 _ _ (wnc (by decide) wn0) (ff335x.2 _ _ (wnc (by decide) wn0) (f8328x.2 _ _ (wnc (by decide) wn0) (f8322x.2 _ _ (wnc (by decide) (wnc (by decide) wn0)) hHd)))))
                  have e358x := (ff346x.2 _ _ (wnc (by decide) wn0) (f8341x.2 _ _ (wnc (by decide) wn0) (ff335x.2 _ _ (wnc (by decide) wn0) (f8328x.2 _ _ (wnc (by decide) wn0) (f8322x.2 _ _ (wnc (by decide) (wnc (by decide) wn0)) hHs)))))
                  have hx : (mLin tb sz at9 pl so va ft fp n14 ns nw kn lo hi sv rt sn sq wy it hl hs) = ((v329x.2.1), (v329x.2.2.1), (v342x.1), (v342x.2.1), (v342x.2.2.1), (v342x.2.2.2), (n14 + (1 : Int32)), (zset 0 kn 10 (v329x.1)), lo, hi, sv, rt, sn, sq, wy, (v323x.2.2.2.2.2.2), hl, hs) := by unfold mLin; rw [if_pos b1x, if_pos b3x, if_pos b6x, if_pos b9x, if_pos b12x, if_pos b15x, if_neg (fun q => q b18x), zlet_eq hv324x, zlet_eq hv330x, if_pos b338x, zlet_eq hv343x]
                  rw [hx]
                  exact wq_ret rfl rfl ⟨hh344x, rfl, (wFr_tr (wFr_sub f8322x (by simp)) (wFr_tr (wFr_sub f8328x (by simp)) (wFr_tr (wFr_sub ff335x (by simp)) (wFr_tr (wFr_sub f8341x (by simp)) (wFr_sub ff346x (by simp)))))), by omega, e345x, e348x, e349x, e350x, e351x, e352x, e353x, e354x, e355x, e356x, e357x, e358x, (by (try dsimp only); first | assumption | omega), (by (try dsimp only); first | assumption | omega), (by (try dsimp only); first | assumption | omega), (by (try dsimp only); first | assumption | omega), (by (try dsimp only); omega), (by (try dsimp only); intro q9; first | omega | exact ⟨ns, nw, hN, hL, hS, hR, hQ, hW⟩ | exact ⟨ns, nw, wNm_7 hN (by omega), hL, hS, hR, hQ, hW⟩ | exact ⟨ns, nw, wNm_8 hN (by omega), hL, hS, hR, hQ, hW⟩ | exact ⟨ns, nw, wNm_9 hN (by omega), hL, hS, hR, hQ, hW⟩ | exact ⟨ns, nw, wNm_10 hN (by omega), hL, hS, hR, hQ, hW⟩ | exact ⟨ns, nw, wNm_11 hN (by omega), hL, hS, hR, hQ, hW⟩ | exact ⟨ns, nw, hN, hX9 (by omega), hS, hR, hQ, hW⟩ | exact ⟨ns, nw, hN, hL, hX9, hR, hQ, hW⟩ | exact ⟨ns, nw, hN, hL, hS, hX9, hQ, hW⟩ | (obtain ⟨m9, a9, b9, c9⟩ := hX9 (by omega); exact ⟨m9, nw, b9, hL, hS, hR, c9, wW2_m hW a9⟩) | (obtain ⟨m9, b9, c9⟩ := hX9 (by omega); exact ⟨ns, m9, b9, hL, hS, hR, hQ, c9⟩)), (by (try dsimp only); exact ⟨by first | assumption | exact hz.1 | exact wFh_set hz.1 (by decide), by first | assumption | exact hz.2.1, by first | assumption | exact hz.2.2.1, by first | assumption | exact hz.2.2.2.1, by first | assumption | exact hz.2.2.2.2.1, by first | assumption | exact hz.2.2.2.2.2⟩)⟩
                · have q359x : (v329x.2.1).toInt = 0 := congrArg Int32.toInt b338x
                  refine wq_gos (f := 1) (pc2 := 190) (ls2 := [(0, .ref 162)]) (st2 := [.ref 162]) (h2 := hh333x) (dc2 := 0) (ds2 := 0) 1 rfl ?_
                  refine wq_getf rfl e337x rfl rfl ?_
                  refine wq_gos (f := 1) (pc2 := 194) (ls2 := [(0, .ref 162)]) (st2 := [.int 4, .int (v329x.2.2.2.2.2.1)]) (h2 := hh333x) (dc2 := 0) (ds2 := 0) 1 rfl ?_
                  refine wq_eq2 rfl rfl (fun b360x => ?_) (fun b360x => ?_)
                  · have q361x : (v329x.2.2.2.2.2.1).toInt = 4 := congrArg Int32.toInt b360x
                    refine wq_gos (f := 1) (pc2 := 203) (ls2 := [(0, .ref 162)]) (st2 := [.ref 162]) (h2 := hh333x) (dc2 := 0) (ds2 := 0) 1 rfl ?_
                    have e362x := (ff335x.2 _ _ (wnc (by decide) wn0) (f8328x.2 _ _ (wnc (by decide) wn0) e325x))
                    refine wq_inlv (y2 := 164) (as := []) rfl rfl rfl e337x rfl (wq_mono (m_go e337x e362x (by first | assumption | omega | decide | solve_by_elim) ⟨Nat.le_refl _, by omega⟩ (by first | assumption | omega | decide | solve_by_elim)) ?_)
                    rintro _ ⟨h8363x, rfl, f8363x, l8363x, c0363x, p0363x, p1363x, p2363x, p3363x⟩
                    show wq 180 206 [(0, .ref 162)] [] h8363x 0 0 _
                    obtain ⟨v364x, hv365x⟩ : ∃ x, x = (mGo tb sz (v329x.2.2.2.1) (v329x.2.2.2.2.1) (v329x.2.2.2.2.2.1) (v329x.2.2.2.2.2.2) (v329x.2.1)) := ⟨_, rfl⟩
                    try rw [← hv365x] at c0363x
                    try rw [← hv365x] at p0363x
                    try rw [← hv365x] at p1363x
                    try rw [← hv365x] at p2363x
                    try rw [← hv365x] at p3363x
                    try rw [← hv365x]
                    refine wq_gos (f := 1) (pc2 := 208) (ls2 := [(0, .ref 162)]) (st2 := [.ref 162, .ref 162]) (h2 := h8363x) (dc2 := 0) (ds2 := 0) 2 rfl ?_
                    refine wq_getf rfl c0363x rfl rfl ?_
                    refine wq_gos (f := 1) (pc2 := 213) (ls2 := [(0, .ref 162)]) (st2 := [.int (n14 + (1 : Int32)), .ref 162]) (h2 := h8363x) (dc2 := 0) (ds2 := 0) 2 rfl ?_
                    refine wq_putf rfl c0363x rfl rfl rfl ?_
                    intro hh366x e367x ff368x lh369x
                    have e367x : zat hh366x 162 = some (.inr (.inr (.inr (10, mO n0 n2 (n14 + (1 : Int32)) (nI sz) (nI (v364x.1)) (nI (v364x.2.1)) (v364x.2.2.1) (v364x.2.2.2) (v329x.2.1) (v329x.2.2.1) n22 n23 n27 n28 n32 n33 n34 n35 n39 n52)))) := e367x
                    have e370x := (ff368x.2 _ _ (wnc (by decide) wn0) (f8363x.2 _ _ (wnc (by decide) wn0) e334x))
                    have e371x := (ff368x.2 _ _ (wnc (by decide) wn0) (f8363x.2 _ _ (wnc (by decide) wn0) (ff335x.2 _ _ (wnc (by decide) wn0) (f8328x.2 _ _ (wnc (by decide) wn0) (f8322x.2 _ _ (wnc (by decide) (wnc (by decide) wn0)) hLo)))))
                    have e372x := (ff368x.2 _ _ (wnc (by decide) wn0) (f8363x.2 _ _ (wnc (by decide) wn0) (ff335x.2 _ _ (wnc (by decide) wn0) (f8328x.2 _ _ (wnc (by decide) wn0) (f8322x.2 _ _ (wnc (by decide) (wnc (by decide) wn0)) hHi)))))
                    have e373x := (ff368x.2 _ _ (wnc (by decide) wn0) (f8363x.2 _ _ (wnc (by decide) wn0) (ff335x.2 _ _ (wnc (by decide) wn0) (f8328x.2 _ _ (wnc (by decide) wn0) (f8322x.2 _ _ (wnc (by decide) (wnc (by decide) wn0)) hSv)))))
                    have e374x := (ff368x.2 _ _ (wnc (by decide) wn0) (f8363x.2 _ _ (wnc (by decide) wn0) (ff335x.2 _ _ (wnc (by decide) wn0) (f8328x.2 _ _ (wnc (by decide) wn0) (f8322x.2 _ _ (wnc (by decide) (wnc (by decide) wn0)) hRt)))))
                    have e375x := (ff368x.2 _ _ (wnc (by decide) wn0) (f8363x.2 _ _ (wnc (by decide) wn0) (ff335x.2 _ _ (wnc (by decide) wn0) (f8328x.2 _ _ (wnc (by decide) wn0) (f8322x.2 _ _ (wnc (by decide) (wnc (by decide) wn0)) hSn)))))
                    have e376x := (ff368x.2 _ _ (wnc (by decide) wn0) (f8363x.2 _ _ (wnc (by decide) wn0) (ff335x.2 _ _ (wnc (by decide) wn0) (f8328x.2 _ _ (wnc (by decide) wn0) (f8322x.2 _ _ (wnc (by decide) (wnc (by decide) wn0)) hSq)))))
                    have e377x := (ff368x.2 _ _ (wnc (by decide) wn0) (f8363x.2 _ _ (wnc (by decide) wn0) (ff335x.2 _ _ (wnc (by decide) wn0) (f8328x.2 _ _ (wnc (by decide) wn0) (f8322x.2 _ _ (wnc (by decide) (wnc (by decide) wn0)) hWy)))))
                    have e378x := (ff368x.2 _ _ (wnc (by decide) wn0) (f8363x.2 _ _ (wnc (by decide) wn0) (ff335x.2 _ _ (wnc (by decide) wn0) (f8328x.2 _ _ (wnc (by decide) wn0) c1322x))))
                    have e379x := (ff368x.2 _ _ (wnc (by decide) wn0) (f8363x.2 _ _ (wnc (by decide) wn0) (ff335x.2 _ _ (wnc (by decide) wn0) (f8328x.2 _ _ (wnc (by decide) wn0) (f8322x.2 _ _ (wnc (by decide) (wnc (by decide) wn0)) hHd)))))
                    have e380x := (ff368x.2 _ _ (wnc (by decide) wn0) (f8363x.2 _ _ (wnc (by decide) wn0) (ff335x.2 _ _ (wnc (by decide) wn0) (f8328x.2 _ _ (wnc (by decide) wn0) (f8322x.2 _ _ (wnc (by decide) (wnc (by decide) wn0)) hHs)))))
                    have hx : (mLin tb sz at9 pl so va ft fp n14 ns nw kn lo hi sv rt sn sq wy it hl hs) = ((v329x.2.1), (v329x.2.2.1), (v364x.1), (v364x.2.1), (v364x.2.2.1), (v364x.2.2.2), (n14 + (1 : Int32)), (zset 0 kn 10 (v329x.1)), lo, hi, sv, rt, sn, sq, wy, (v323x.2.2.2.2.2.2), hl, hs) := by unfold mLin; rw [if_pos b1x, if_pos b3x, if_pos b6x, if_pos b9x, if_pos b12x, if_pos b15x, if_neg (fun q => q b18x), zlet_eq hv324x, zlet_eq hv330x, if_neg (fun q => q b338x), if_pos b360x, zlet_eq hv365x]
                    rw [hx]
                    exact wq_ret rfl rfl ⟨hh366x, rfl, (wFr_tr (wFr_sub f8322x (by simp)) (wFr_tr (wFr_sub f8328x (by simp)) (wFr_tr (wFr_sub ff335x (by simp)) (wFr_tr (wFr_sub f8363x (by simp)) (wFr_sub ff368x (by simp)))))), by omega, e367x, e370x, e371x, e372x, e373x, e374x, e375x, e376x, e377x, e378x, e379x, e380x, (by (try dsimp only); first | assumption | omega), (by (try dsimp only); first | assumption | omega), (by (try dsimp only); first | assumption | omega), (by (try dsimp only); first | assumption | omega), (by (try dsimp only); omega), (by (try dsimp only); intro q9; first | omega | exact ⟨ns, nw, hN, hL, hS, hR, hQ, hW⟩ | exact ⟨ns, nw, wNm_7 hN (by omega), hL, hS, hR, hQ, hW⟩ | exact ⟨ns, nw, wNm_8 hN (by omega), hL, hS, hR, hQ, hW⟩ | exact ⟨ns, nw, wNm_9 hN (by omega), hL, hS, hR, hQ, hW⟩ | exact ⟨ns, nw, wNm_10 hN (by omega), hL, hS, hR, hQ, hW⟩ | exact ⟨ns, nw, wNm_11 hN (by omega), hL, hS, hR, hQ, hW⟩ | exact ⟨ns, nw, hN, hX9 (by omega), hS, hR, hQ, hW⟩ | exact ⟨ns, nw, hN, hL, hX9, hR, hQ, hW⟩ | exact ⟨ns, nw, hN, hL, hS, hX9, hQ, hW⟩ | (obtain ⟨m9, a9, b9, c9⟩ := hX9 (by omega); exact ⟨m9, nw, b9, hL, hS, hR, c9, wW2_m hW a9⟩) | (obtain ⟨m9, b9, c9⟩ := hX9 (by omega); exact ⟨ns, m9, b9, hL, hS, hR, hQ, c9⟩)), (by (try dsimp only); exact ⟨by first | assumption | exact hz.1 | exact wFh_set hz.1 (by decide), by first | assumption | exact hz.2.1, by first | assumption | exact hz.2.2.1, by first | assumption | exact hz.2.2.2.1, by first | assumption | exact hz.2.2.2.2.1, by first | assumption | exact hz.2.2.2.2.2⟩)⟩
                  · have q381x : (v329x.2.2.2.2.2.1).toInt ≠ 4 := fun q => b360x (Int32.toInt_inj.mp q)
                    refine wq_gos (f := 1) (pc2 := 199) (ls2 := [(0, .ref 162)]) (st2 := [.int 1, .ref 162]) (h2 := hh333x) (dc2 := 0) (ds2 := 0) 2 rfl ?_
                    refine wq_inlv (y2 := 163) (as := [.int 1]) rfl rfl rfl e337x rfl (wq_mono (m_wro e337x (by first | assumption | omega | decide | solve_by_elim) (by first | assumption | omega | decide | solve_by_elim)) ?_)
                    rintro _ ⟨h8382x, rfl, f8382x, l8382x, c0382x, p0382x⟩
                    show wq 180 202 [(0, .ref 162)] [] h8382x 0 0 _
                    obtain ⟨v383x, hv384x⟩ : ∃ x, x = (mWro (v329x.2.2.2.2.1) (v329x.2.1) (v329x.2.2.1) (1 : Int32)) := ⟨_, rfl⟩
                    try rw [← hv384x] at c0382x
                    try rw [← hv384x] at p0382x
                    try rw [← hv384x]
                    refine wq_gos (f := 1) (pc2 := 203) (ls2 := [(0, .ref 162)]) (st2 := [.ref 162]) (h2 := h8382x) (dc2 := 0) (ds2 := 0) 1 rfl ?_
                    have e385x := (f8382x.2 _ _ (wnc (by decide) wn0) (ff335x.2 _ _ (wnc (by decide) wn0) (f8328x.2 _ _ (wnc (by decide) wn0) e325x)))
                    refine wq_inlv (y2 := 164) (as := []) rfl rfl rfl c0382x rfl (wq_mono (m_go c0382x e385x (by first | assumption | omega | decide | solve_by_elim) ⟨Nat.le_refl _, by omega⟩ (by first | assumption | omega | decide | solve_by_elim)) ?_)
                    rintro _ ⟨h8386x, rfl, f8386x, l8386x, c0386x, p0386x, p1386x, p2386x, p3386x⟩
                    show wq 180 206 [(0, .ref 162)] [] h8386x 0 0 _
                    obtain ⟨v387x, hv388x⟩ : ∃ x, x = (mGo tb sz (v329x.2.2.2.1) (v329x.2.2.2.2.1) (v329x.2.2.2.2.2.1) (v329x.2.2.2.2.2.2) (v383x.1)) := ⟨_, rfl⟩
                    try rw [← hv388x] at c0386x
                    try rw [← hv388x] at p0386x
                    try rw [← hv388x] at p1386x
                    try rw [← hv388x] at p2386x
                    try rw [← hv388x] at p3386x
                    try rw [← hv388x]
                    refine wq_gos (f := 1) (pc2 := 208) (ls2 := [(0, .ref 162)]) (st2 := [.ref 162, .ref 162]) (h2 := h8386x) (dc2 := 0) (ds2 := 0) 2 rfl ?_
                    refine wq_getf rfl c0386x rfl rfl ?_
                    refine wq_gos (f := 1) (pc2 := 213) (ls2 := [(0, .ref 162)]) (st2 := [.int (n14 + (1 : Int32)), .ref 162]) (h2 := h8386x) (dc2 := 0) (ds2 := 0) 2 rfl ?_
                    refine wq_putf rfl c0386x rfl rfl rfl ?_
                    intro hh389x e390x ff391x lh392x
                    have e390x : zat hh389x 162 = some (.inr (.inr (.inr (10, mO n0 n2 (n14 + (1 : Int32)) (nI sz) (nI (v387x.1)) (nI (v387x.2.1)) (v387x.2.2.1) (v387x.2.2.2) (v383x.1) (v383x.2) n22 n23 n27 n28 n32 n33 n34 n35 n39 n52)))) := e390x
                    have e393x := (ff391x.2 _ _ (wnc (by decide) wn0) (f8386x.2 _ _ (wnc (by decide) wn0) (f8382x.2 _ _ (wnc (by decide) wn0) e334x)))
                    have e394x := (ff391x.2 _ _ (wnc (by decide) wn0) (f8386x.2 _ _ (wnc (by decide) wn0) (f8382x.2 _ _ (wnc (by decide) wn0) (ff335x.2 _ _ (wnc (by decide) wn0) (f8328x.2 _ _ (wnc (by decide) wn0) (f8322x.2 _ _ (wnc (by decide) (wnc (by decide) wn0)) hLo))))))
                    have e395x := (ff391x.2 _ _ (wnc (by decide) wn0) (f8386x.2 _ _ (wnc (by decide) wn0) (f8382x.2 _ _ (wnc (by decide) wn0) (ff335x.2 _ _ (wnc (by decide) wn0) (f8328x.2 _ _ (wnc (by decide) wn0) (f8322x.2 _ _ (wnc (by decide) (wnc (by decide) wn0)) hHi))))))
                    have e396x := (ff391x.2 _ _ (wnc (by decide) wn0) (f8386x.2 _ _ (wnc (by decide) wn0) (f8382x.2 _ _ (wnc (by decide) wn0) (ff335x.2 _ _ (wnc (by decide) wn0) (f8328x.2 _ _ (wnc (by decide) wn0) (f8322x.2 _ _ (wnc (by decide) (wnc (by decide) wn0)) hSv))))))
                    have e397x := (ff391x.2 _ _ (wnc (by decide) wn0) (f8386x.2 _ _ (wnc (by decide) wn0) (f8382x.2 _ _ (wnc (by decide) wn0) (ff335x.2 _ _ (wnc (by decide) wn0) (f8328x.2 _ _ (wnc (by decide) wn0) (f8322x.2 _ _ (wnc (by decide) (wnc (by decide) wn0)) hRt))))))
                    have e398x := (ff391x.2 _ _ (wnc (by decide) wn0) (f8386x.2 _ _ (wnc (by decide) wn0) (f8382x.2 _ _ (wnc (by decide) wn0) (ff335x.2 _ _ (wnc (by decide) wn0) (f8328x.2 _ _ (wnc (by decide) wn0) (f8322x.2 _ _ (wnc (by decide) (wnc (by decide) wn0)) hSn))))))
                    have e399x := (ff391x.2 _ _ (wnc (by decide) wn0) (f8386x.2 _ _ (wnc (by decide) wn0) (f8382x.2 _ _ (wnc (by decide) wn0) (ff335x.2 _ _ (wnc (by decide) wn0) (f8328x.2 _ _ (wnc (by decide) wn0) (f8322x.2 _ _ (wnc (by decide) (wnc (by decide) wn0)) hSq))))))
                    have e400x := (ff391x.2 _ _ (wnc (by decide) wn0) (f8386x.2 _ _ (wnc (by decide) wn0) (f8382x.2 _ _ (wnc (by decide) wn0) (ff335x.2 _ _ (wnc (by decide) wn0) (f8328x.2 _ _ (wnc (by decide) wn0) (f8322x.2 _ _ (wnc (by decide) (wnc (by decide) wn0)) hWy))))))
                    have e401x := (ff391x.2 _ _ (wnc (by decide) wn0) (f8386x.2 _ _ (wnc (by decide) wn0) (f8382x.2 _ _ (wnc (by decide) wn0) (ff335x.2 _ _ (wnc (by decide) wn0) (f8328x.2 _ _ (wnc (by decide) wn0) c1322x)))))
                    have e402x := (ff391x.2 _ _ (wnc (by decide) wn0) (f8386x.2 _ _ (wnc (by decide) wn0) (f8382x.2 _ _ (wnc (by decide) wn0) (ff335x.2 _ _ (wnc (by decide) wn0) (f8328x.2 _ _ (wnc (by decide) wn0) (f8322x.2 _ _ (wnc (by decide) (wnc (by decide) wn0)) hHd))))))
                    have e403x := (ff391x.2 _ _ (wnc (by decide) wn0) (f8386x.2 _ _ (wnc (by decide) wn0) (f8382x.2 _ _ (wnc (by decide) wn0) (ff335x.2 _ _ (wnc (by decide) wn0) (f8328x.2 _ _ (wnc (by decide) wn0) (f8322x.2 _ _ (wnc (by decide) (wnc (by decide) wn0)) hHs))))))
                    have hx : (mLin tb sz at9 pl so va ft fp n14 ns nw kn lo hi sv rt sn sq wy it hl hs) = ((v383x.1), (v383x.2), (v387x.1), (v387x.2.1), (v387x.2.2.1), (v387x.2.2.2), (n14 + (1 : Int32)), (zset 0 kn 10 (v329x.1)), lo, hi, sv, rt, sn, sq, wy, (v323x.2.2.2.2.2.2), hl, hs) := by unfold mLin; rw [if_pos b1x, if_pos b3x, if_pos b6x, if_pos b9x, if_pos b12x, if_pos b15x, if_neg (fun q => q b18x), zlet_eq hv324x, zlet_eq hv330x, if_neg (fun q => q b338x), if_neg b360x, zlet_eq hv384x, zlet_eq hv388x]
                    rw [hx]
                    exact wq_ret rfl rfl ⟨hh389x, rfl, (wFr_tr (wFr_sub f8322x (by simp)) (wFr_tr (wFr_sub f8328x (by simp)) (wFr_tr (wFr_sub ff335x (by simp)) (wFr_tr (wFr_sub f8382x (by simp)) (wFr_tr (wFr_sub f8386x (by simp)) (wFr_sub ff391x (by simp))))))), by omega, e390x, e393x, e394x, e395x, e396x, e397x, e398x, e399x, e400x, e401x, e402x, e403x, (by (try dsimp only); first | assumption | omega), (by (try dsimp only); first | assumption | omega), (by (try dsimp only); first | assumption | omega), (by (try dsimp only); first | assumption | omega), (by (try dsimp only); omega), (by (try dsimp only); intro q9; first | omega | exact ⟨ns, nw, hN, hL, hS, hR, hQ, hW⟩ | exact ⟨ns, nw, wNm_7 hN (by omega), hL, hS, hR, hQ, hW⟩ | exact ⟨ns, nw, wNm_8 hN (by omega), hL, hS, hR, hQ, hW⟩ | exact ⟨ns, nw, wNm_9 hN (by omega), hL, hS, hR, hQ, hW⟩ | exact ⟨ns, nw, wNm_10 hN (by omega), hL, hS, hR, hQ, hW⟩ | exact ⟨ns, nw, wNm_11 hN (by omega), hL, hS, hR, hQ, hW⟩ | exact ⟨ns, nw, hN, hX9 (by omega), hS, hR, hQ, hW⟩ | exact ⟨ns, nw, hN, hL, hX9, hR, hQ, hW⟩ | exact ⟨ns, nw, hN, hL, hS, hX9, hQ, hW⟩ | (obtain ⟨m9, a9, b9, c9⟩ := hX9 (by omega); exact ⟨m9, nw, b9, hL, hS, hR, c9, wW2_m hW a9⟩) | (obtain ⟨m9, b9, c9⟩ := hX9 (by omega); exact ⟨ns, m9, b9, hL, hS, hR, hQ, c9⟩)), (by (try dsimp only); exact ⟨by first | assumption | exact hz.1 | exact wFh_set hz.1 (by decide), by first | assumption | exact hz.2.1, by first | assumption | exact hz.2.2.1, by first | assumption | exact hz.2.2.2.1, by first | assumption | exact hz.2.2.2.2.1, by first | assumption | exact hz.2.2.2.2.2⟩)⟩
            · have q404x : va.toInt = 4 := congrArg Int32.toInt b15x
              refine wq_gos (f := 1) (pc2 := 98) (ls2 := [(0, .ref 162)]) (st2 := [.ref 162]) (h2 := h) (dc2 := 0) (ds2 := 0) 1 rfl ?_
              refine wq_inlv (y2 := 175) (as := []) rfl rfl rfl hM rfl (wq_mono (m_rdS hM hT hHs hSv (by first | assumption | omega | decide | solve_by_elim) ⟨Nat.le_refl _, by omega⟩ (by first | assumption | omega | decide | solve_by_elim) (by first | assumption | omega | decide | solve_by_elim) (by first | assumption | omega | decide | solve_by_elim) hz.2.2.2.1) ?_)
              rintro _ ⟨h8405x, rfl, f8405x, l8405x, c0405x, c1405x, c2405x, p0405x, p1405x, p2405x, p3405x, p4405x, p5405x, p6405x⟩
              show wq 180 101 [(0, .ref 162)] [] h8405x 0 0 _
              obtain ⟨v406x, hv407x⟩ : ∃ x, x = (mRdS tb sz at9 pl so va ft fp hs sv) := ⟨_, rfl⟩
              try rw [← hv407x] at c0405x
              try rw [← hv407x] at c1405x
              try rw [← hv407x] at c2405x
              try rw [← hv407x] at p0405x
              try rw [← hv407x] at p1405x
              try rw [← hv407x] at p2405x
              try rw [← hv407x] at p3405x
              try rw [← hv407x] at p4405x
              try rw [← hv407x] at p5405x
              try rw [← hv407x] at p6405x
              try rw [← hv407x]
              have hX9 := p5405x
              refine wq_gos (f := 1) (pc2 := 183) (ls2 := [(0, .ref 162)]) (st2 := [.ref 162]) (h2 := h8405x) (dc2 := 0) (ds2 := 0) 2 rfl ?_
              refine wq_getf rfl c0405x rfl rfl ?_
              refine wq_ne0 rfl rfl (fun b408x => ?_) (fun b408x => ?_)
              · have q409x : (v406x.1).toInt ≠ 0 := fun q => b408x (Int32.toInt_inj.mp q)
                refine wq_gos (f := 1) (pc2 := 203) (ls2 := [(0, .ref 162)]) (st2 := [.ref 162]) (h2 := h8405x) (dc2 := 0) (ds2 := 0) 1 rfl ?_
                have e410x := (f8405x.2 _ _ (wnc (by decide) (wnc (by decide) (wnc (by decide) wn0))) hT)
                refine wq_inlv (y2 := 164) (as := []) rfl rfl rfl c0405x rfl (wq_mono (m_go c0405x e410x (by first | assumption | omega | decide | solve_by_elim) ⟨Nat.le_refl _, by omega⟩ (by first | assumption | omega | decide | solve_by_elim)) ?_)
                rintro _ ⟨h8411x, rfl, f8411x, l8411x, c0411x, p0411x, p1411x, p2411x, p3411x⟩
                show wq 180 206 [(0, .ref 162)] [] h8411x 0 0 _
                obtain ⟨v412x, hv413x⟩ : ∃ x, x = (mGo tb sz (v406x.2.2.1) (v406x.2.2.2.1) (v406x.2.2.2.2.1) (v406x.2.2.2.2.2.1) (v406x.1)) := ⟨_, rfl⟩
                try rw [← hv413x] at c0411x
                try rw [← hv413x] at p0411x
                try rw [← hv413x] at p1411x
                try rw [← hv413x] at p2411x
                try rw [← hv413x] at p3411x
                try rw [← hv413x]
                refine wq_gos (f := 1) (pc2 := 208) (ls2 := [(0, .ref 162)]) (st2 := [.ref 162, .ref 162]) (h2 := h8411x) (dc2 := 0) (ds2 := 0) 2 rfl ?_
                refine wq_getf rfl c0411x rfl rfl ?_
                refine wq_gos (f := 1) (pc2 := 213) (ls2 := [(0, .ref 162)]) (st2 := [.int (n14 + (1 : Int32)), .ref 162]) (h2 := h8411x) (dc2 := 0) (ds2 := 0) 2 rfl ?_
                refine wq_putf rfl c0411x rfl rfl rfl ?_
                intro hh414x e415x ff416x lh417x
                have e415x : zat hh414x 162 = some (.inr (.inr (.inr (10, mO n0 n2 (n14 + (1 : Int32)) (nI sz) (nI (v412x.1)) (nI (v412x.2.1)) (v412x.2.2.1) (v412x.2.2.2) (v406x.1) (v406x.2.1) n22 n23 n27 n28 n32 n33 n34 n35 n39 n52)))) := e415x
                have e418x := (ff416x.2 _ _ (wnc (by decide) wn0) (f8411x.2 _ _ (wnc (by decide) wn0) (f8405x.2 _ _ (wnc (by decide) (wnc (by decide) (wnc (by decide) wn0))) hKn)))
                have e419x := (ff416x.2 _ _ (wnc (by decide) wn0) (f8411x.2 _ _ (wnc (by decide) wn0) (f8405x.2 _ _ (wnc (by decide) (wnc (by decide) (wnc (by decide) wn0))) hLo)))
                have e420x := (ff416x.2 _ _ (wnc (by decide) wn0) (f8411x.2 _ _ (wnc (by decide) wn0) (f8405x.2 _ _ (wnc (by decide) (wnc (by decide) (wnc (by decide) wn0))) hHi)))
                have e421x := (ff416x.2 _ _ (wnc (by decide) wn0) (f8411x.2 _ _ (wnc (by decide) wn0) c2405x))
                have e422x := (ff416x.2 _ _ (wnc (by decide) wn0) (f8411x.2 _ _ (wnc (by decide) wn0) (f8405x.2 _ _ (wnc (by decide) (wnc (by decide) (wnc (by decide) wn0))) hRt)))
                have e423x := (ff416x.2 _ _ (wnc (by decide) wn0) (f8411x.2 _ _ (wnc (by decide) wn0) (f8405x.2 _ _ (wnc (by decide) (wnc (by decide) (wnc (by decide) wn0))) hSn)))
                have e424x := (ff416x.2 _ _ (wnc (by decide) wn0) (f8411x.2 _ _ (wnc (by decide) wn0) (f8405x.2 _ _ (wnc (by decide) (wnc (by decide) (wnc (by decide) wn0))) hSq)))
                have e425x := (ff416x.2 _ _ (wnc (by decide) wn0) (f8411x.2 _ _ (wnc (by decide) wn0) (f8405x.2 _ _ (wnc (by decide) (wnc (by decide) (wnc (by decide) wn0))) hWy)))
                have e426x := (ff416x.2 _ _ (wnc (by decide) wn0) (f8411x.2 _ _ (wnc (by decide) wn0) (f8405x.2 _ _ (wnc (by decide) (wnc (by decide) (wnc (by decide) wn0))) hIt)))
                have e427x := (ff416x.2 _ _ (wnc (by decide) wn0) (f8411x.2 _ _ (wnc (by decide) wn0) (f8405x.2 _ _ (wnc (by decide) (wnc (by decide) (wnc (by decide) wn0))) hHd)))
                have e428x := (ff416x.2 _ _ (wnc (by decide) wn0) (f8411x.2 _ _ (wnc (by decide) wn0) c1405x))
                have hx : (mLin tb sz at9 pl so va ft fp n14 ns nw kn lo hi sv rt sn sq wy it hl hs) = ((v406x.1), (v406x.2.1), (v412x.1), (v412x.2.1), (v412x.2.2.1), (v412x.2.2.2), (n14 + (1 : Int32)), kn, lo, hi, (v406x.2.2.2.2.2.2.2), rt, sn, sq, wy, it, hl, (v406x.2.2.2.2.2.2.1)) := by unfold mLin; rw [if_pos b1x, if_pos b3x, if_pos b6x, if_pos b9x, if_pos b12x, if_neg (fun q => q b15x), zlet_eq hv407x, if_pos b408x, zlet_eq hv413x]
                rw [hx]
                exact wq_ret rfl rfl ⟨hh414x, rfl, (wFr_tr (wFr_sub f8405x (by simp)) (wFr_tr (wFr_sub f8411x (by simp)) (wFr_sub ff416x (by simp)))), by omega, e415x, e418x, e419x, e420x, e421x, e422x, e423x, e424x, e425x, e426x, e427x, e428x, (by (try dsimp only); first | assumption | omega), (by (try dsimp only); first | assumption | omega), (by (try dsimp only); first | assumption | omega), (by (try dsimp only); first | assumption | omega), (by (try dsimp only); omega), (by (try dsimp only); intro q9; first | omega | exact ⟨ns, nw, hN, hL, hS, hR, hQ, hW⟩ | exact ⟨ns, nw, wNm_7 hN (by omega), hL, hS, hR, hQ, hW⟩ | exact ⟨ns, nw, wNm_8 hN (by omega), hL, hS, hR, hQ, hW⟩ | exact ⟨ns, nw, wNm_9 hN (by omega), hL, hS, hR, hQ, hW⟩ | exact ⟨ns, nw, wNm_10 hN (by omega), hL, hS, hR, hQ, hW⟩ | exact ⟨ns, nw, wNm_11 hN (by omega), hL, hS, hR, hQ, hW⟩ | exact ⟨ns, nw, hN, hX9 (by omega), hS, hR, hQ, hW⟩ | exact ⟨ns, nw, hN, hL, hX9, hR, hQ, hW⟩ | exact ⟨ns, nw, hN, hL, hS, hX9, hQ, hW⟩ | (obtain ⟨m9, a9, b9, c9⟩ := hX9 (by omega); exact ⟨m9, nw, b9, hL, hS, hR, c9, wW2_m hW a9⟩) | (obtain ⟨m9, b9, c9⟩ := hX9 (by omega); exact ⟨ns, m9, b9, hL, hS, hR, hQ, c9⟩)), (by (try dsimp only); exact ⟨by first | assumption | exact hz.1 | exact wFh_set hz.1 (by decide), by first | assumption | exact hz.2.1, by first | assumption | exact hz.2.2.1, by first | assumption | exact hz.2.2.2.1, by first | assumption | exact hz.2.2.2.2.1, by first | assumption | exact hz.2.2.2.2.2⟩)⟩
              · have q429x : (v406x.1).toInt = 0 := congrArg Int32.toInt b408x
                refine wq_gos (f := 1) (pc2 := 190) (ls2 := [(0, .ref 162)]) (st2 := [.ref 162]) (h2 := h8405x) (dc2 := 0) (ds2 := 0) 1 rfl ?_
                refine wq_getf rfl c0405x rfl rfl ?_
                refine wq_gos (f := 1) (pc2 := 194) (ls2 := [(0, .ref 162)]) (st2 := [.int 4, .int (v406x.2.2.2.2.1)]) (h2 := h8405x) (dc2 := 0) (ds2 := 0) 1 rfl ?_
                refine wq_eq2 rfl rfl (fun b430x => ?_) (fun b430x => ?_)
                · have q431x : (v406x.2.2.2.2.1).toInt = 4 := congrArg Int32.toInt b430x
                  refine wq_gos (f := 1) (pc2 := 203) (ls2 := [(0, .ref 162)]) (st2 := [.ref 162]) (h2 := h8405x) (dc2 := 0) (ds2 := 0) 1 rfl ?_
                  have e432x := (f8405x.2 _ _ (wnc (by decide) (wnc (by decide) (wnc (by decide) wn0))) hT)
                  refine wq_inlv (y2 := 164) (as := []) rfl rfl rfl c0405x rfl (wq_mono (m_go c0405x e432x (by first | assumption | omega | decide | solve_by_elim) ⟨Nat.le_refl _, by omega⟩ (by first | assumption | omega | decide | solve_by_elim)) ?_)
                  rintro _ ⟨h8433x, rfl, f8433x, l8433x, c0433x, p0433x, p1433x, p2433x, p3433x⟩
                  show wq 180 206 [(0, .ref 162)] [] h8433x 0 0 _
                  obtain ⟨v434x, hv435x⟩ : ∃ x, x = (mGo tb sz (v406x.2.2.1) (v406x.2.2.2.1) (v406x.2.2.2.2.1) (v406x.2.2.2.2.2.1) (v406x.1)) := ⟨_, rfl⟩
                  try rw [← hv435x] at c0433x
                  try rw [← hv435x] at p0433x
                  try rw [← hv435x] at p1433x
                  try rw [← hv435x] at p2433x
                  try rw [← hv435x] at p3433x
                  try rw [← hv435x]
                  refine wq_gos (f := 1) (pc2 := 208) (ls2 := [(0, .ref 162)]) (st2 := [.ref 162, .ref 162]) (h2 := h8433x) (dc2 := 0) (ds2 := 0) 2 rfl ?_
                  refine wq_getf rfl c0433x rfl rfl ?_
                  refine wq_gos (f := 1) (pc2 := 213) (ls2 := [(0, .ref 162)]) (st2 := [.int (n14 + (1 : Int32)), .ref 162]) (h2 := h8433x) (dc2 := 0) (ds2 := 0) 2 rfl ?_
                  refine wq_putf rfl c0433x rfl rfl rfl ?_
                  intro hh436x e437x ff438x lh439x
                  have e437x : zat hh436x 162 = some (.inr (.inr (.inr (10, mO n0 n2 (n14 + (1 : Int32)) (nI sz) (nI (v434x.1)) (nI (v434x.2.1)) (v434x.2.2.1) (v434x.2.2.2) (v406x.1) (v406x.2.1) n22 n23 n27 n28 n32 n33 n34 n35 n39 n52)))) := e437x
                  have e440x := (ff438x.2 _ _ (wnc (by decide) wn0) (f8433x.2 _ _ (wnc (by decide) wn0) (f8405x.2 _ _ (wnc (by decide) (wnc (by decide) (wnc (by decide) wn0))) hKn)))
                  have e441x := (ff438x.2 _ _ (wnc (by decide) wn0) (f8433x.2 _ _ (wnc (by decide) wn0) (f8405x.2 _ _ (wnc (by decide) (wnc (by decide) (wnc (by decide) wn0))) hLo)))
                  have e442x := (ff438x.2 _ _ (wnc (by decide) wn0) (f8433x.2 _ _ (wnc (by decide) wn0) (f8405x.2 _ _ (wnc (by decide) (wnc (by decide) (wnc (by decide) wn0))) hHi)))
                  have e443x := (ff438x.2 _ _ (wnc (by decide) wn0) (f8433x.2 _ _ (wnc (by decide) wn0) c2405x))
                  have e444x := (ff438x.2 _ _ (wnc (by decide) wn0) (f8433x.2 _ _ (wnc (by decide) wn0) (f8405x.2 _ _ (wnc (by decide) (wnc (by decide) (wnc (by decide) wn0))) hRt)))
                  have e445x := (ff438x.2 _ _ (wnc (by decide) wn0) (f8433x.2 _ _ (wnc (by decide) wn0) (f8405x.2 _ _ (wnc (by decide) (wnc (by decide) (wnc (by decide) wn0))) hSn)))
                  have e446x := (ff438x.2 _ _ (wnc (by decide) wn0) (f8433x.2 _ _ (wnc (by decide) wn0) (f8405x.2 _ _ (wnc (by decide) (wnc (by decide) (wnc (by decide) wn0))) hSq)))
                  have e447x := (ff438x.2 _ _ (wnc (by decide) wn0) (f8433x.2 _ _ (wnc (by decide) wn0) (f8405x.2 _ _ (wnc (by decide) (wnc (by decide) (wnc (by decide) wn0))) hWy)))
                  have e448x := (ff438x.2 _ _ (wnc (by decide) wn0) (f8433x.2 _ _ (wnc (by decide) wn0) (f8405x.2 _ _ (wnc (by decide) (wnc (by decide) (wnc (by decide) wn0))) hIt)))
                  have e449x := (ff438x.2 _ _ (wnc (by decide) wn0) (f8433x.2 _ _ (wnc (by decide) wn0) (f8405x.2 _ _ (wnc (by decide) (wnc (by decide) (wnc (by decide) wn0))) hHd)))
                  have e450x := (ff438x.2 _ _ (wnc (by decide) wn0) (f8433x.2 _ _ (wnc (by decide) wn0) c1405x))
                  have hx : (mLin tb sz at9 pl so va ft fp n14 ns nw kn lo hi sv rt sn sq wy it hl hs) = ((v406x.1), (v406x.2.1), (v434x.1), (v434x.2.1), (v434x.2.2.1), (v434x.2.2.2), (n14 + (1 : Int32)), kn, lo, hi, (v406x.2.2.2.2.2.2.2), rt, sn, sq, wy, it, hl, (v406x.2.2.2.2.2.2.1)) := by unfold mLin; rw [if_pos b1x, if_pos b3x, if_pos b6x, if_pos b9x, if_pos b12x, if_neg (fun q => q b15x), zlet_eq hv407x, if_neg (fun q => q b408x), if_pos b430x, zlet_eq hv435x]
                  rw [hx]
                  exact wq_ret rfl rfl ⟨hh436x, rfl, (wFr_tr (wFr_sub f8405x (by simp)) (wFr_tr (wFr_sub f8433x (by simp)) (wFr_sub ff438x (by simp)))), by omega, e437x, e440x, e441x, e442x, e443x, e444x, e445x, e446x, e447x, e448x, e449x, e450x, (by (try dsimp only); first | assumption | omega), (by (try dsimp only); first | assumption | omega), (by (try dsimp only); first | assumption | omega), (by (try dsimp only); first | assumption | omega), (by (try dsimp only); omega), (by (try dsimp only); intro q9; first | omega | exact ⟨ns, nw, hN, hL, hS, hR, hQ, hW⟩ | exact ⟨ns, nw, wNm_7 hN (by omega), hL, hS, hR, hQ, hW⟩ | exact ⟨ns, nw, wNm_8 hN (by omega), hL, hS, hR, hQ, hW⟩ | exact ⟨ns, nw, wNm_9 hN (by omega), hL, hS, hR, hQ, hW⟩ | exact ⟨ns, nw, wNm_10 hN (by omega), hL, hS, hR, hQ, hW⟩ | exact ⟨ns, nw, wNm_11 hN (by omega), hL, hS, hR, hQ, hW⟩ | exact ⟨ns, nw, hN, hX9 (by omega), hS, hR, hQ, hW⟩ | exact ⟨ns, nw, hN, hL, hX9, hR, hQ, hW⟩ | exact ⟨ns, nw, hN, hL, hS, hX9, hQ, hW⟩ | (obtain ⟨m9, a9, b9, c9⟩ := hX9 (by omega); exact ⟨m9, nw, b9, hL, hS, hR, c9, wW2_m hW a9⟩) | (obtain ⟨m9, b9, c9⟩ := hX9 (by omega); exact ⟨ns, m9, b9, hL, hS, hR, hQ, c9⟩)), (by (try dsimp only); exact ⟨by first | assumption | exact hz.1 | exact wFh_set hz.1 (by decide), by first | assumption | exact hz.2.1, by first | assumption | exact hz.2.2.1, by first | assumption | exact hz.2.2.2.1, by first | assumption | exact hz.2.2.2.2.1, by first | assumption | exact hz.2.2.2.2.2⟩)⟩
                · have q451x : (v406x.2.2.2.2.1).toInt ≠ 4 := fun q => b430x (Int32.toInt_inj.mp q)
                  refine wq_gos (f := 1) (pc2 := 199) (ls2 := [(0, .ref 162)]) (st2 := [.int 1, .ref 162]) (h2 := h8405x) (dc2 := 0) (ds2 := 0) 2 rfl ?_
                  refine wq_inlv (y2 := 163) (as := [.int 1]) rfl rfl rfl c0405x rfl (wq_mono (m_wro c0405x (by first | assumption | omega | decide | solve_by_elim) (by first | assumption | omega | decide | solve_by_elim)) ?_)
                  rintro _ ⟨h8452x, rfl, f8452x, l8452x, c0452x, p0452x⟩
                  show wq 180 202 [(0, .ref 162)] [] h8452x 0 0 _
                  obtain ⟨v453x, hv454x⟩ : ∃ x, x = (mWro (v406x.2.2.2.1) (v406x.1) (v406x.2.1) (1 : Int32)) := ⟨_, rfl⟩
                  try rw [← hv454x] at c0452x
                  try rw [← hv454x] at p0452x
                  try rw [← hv454x]
                  refine wq_gos (f := 1) (pc2 := 203) (ls2 := [(0, .ref 162)]) (st2 := [.ref 162]) (h2 := h8452x) (dc2 := 0) (ds2 := 0) 1 rfl ?_
                  have e455x := (f8452x.2 _ _ (wnc (by decide) wn0) (f8405x.2 _ _ (wnc (by decide) (wnc (by decide) (wnc (by decide) wn0))) hT))
                  refine wq_inlv (y2 := 164) (as := []) rfl rfl rfl c0452x rfl (wq_mono (m_go c0452x e455x (by first | assumption | omega | decide | solve_by_elim) ⟨Nat.le_refl _, by omega⟩ (by first | assumption | omega | decide | solve_by_elim)) ?_)
                  rintro _ ⟨h8456x, rfl, f8456x, l8456x, c0456x, p0456x, p1456x, p2456x, p3456x⟩
                  show wq 180 206 [(0, .ref 162)] [] h8456x 0 0 _
                  obtain ⟨v457x, hv458x⟩ : ∃ x, x = (mGo tb sz (v406x.2.2.1) (v406x.2.2.2.1) (v406x.2.2.2.2.1) (v406x.2.2.2.2.2.1) (v453x.1)) := ⟨_, rfl⟩
                  try rw [← hv458x] at c0456x
                  try rw [← hv458x] at p0456x
                  try rw [← hv458x] at p1456x
                  try rw [← hv458x] at p2456x
                  try rw [← hv458x] at p3456x
                  try rw [← hv458x]
                  refine wq_gos (f := 1) (pc2 := 208) (ls2 := [(0, .ref 162)]) (st2 := [.ref 162, .ref 162]) (h2 := h8456x) (dc2 := 0) (ds2 := 0) 2 rfl ?_
                  refine wq_getf rfl c0456x rfl rfl ?_
                  refine wq_gos (f := 1) (pc2 := 213) (ls2 := [(0, .ref 162)]) (st2 := [.int (n14 + (1 : Int32)), .ref 162]) (h2 := h8456x) (dc2 := 0) (ds2 := 0) 2 rfl ?_
                  refine wq_putf rfl c0456x rfl rfl rfl ?_
                  intro hh459x e460x ff461x lh462x
                  have e460x : zat hh459x 162 = some (.inr (.inr (.inr (10, mO n0 n2 (n14 + (1 : Int32)) (nI sz) (nI (v457x.1)) (nI (v457x.2.1)) (v457x.2.2.1) (v457x.2.2.2) (v453x.1) (v453x.2) n22 n23 n27 n28 n32 n33 n34 n35 n39 n52)))) := e460x
                  have e463x := (ff461x.2 _ _ (wnc (by decide) wn0) (f8456x.2 _ _ (wnc (by decide) wn0) (f8452x.2 _ _ (wnc (by decide) wn0) (f8405x.2 _ _ (wnc (by decide) (wnc (by decide) (wnc (by decide) wn0))) hKn))))
                  have e464x := (ff461x.2 _ _ (wnc (by decide) wn0) (f8456x.2 _ _ (wnc (by decide) wn0) (f8452x.2 _ _ (wnc (by decide) wn0) (f8405x.2 _ _ (wnc (by decide) (wnc (by decide) (wnc (by decide) wn0))) hLo))))
                  have e465x := (ff461x.2 _ _ (wnc (by decide) wn0) (f8456x.2 _ _ (wnc (by decide) wn0) (f8452x.2 _ _ (wnc (by decide) wn0) (f8405x.2 _ _ (wnc (by decide) (wnc (by decide) (wnc (by decide) wn0))) hHi))))
                  have e466x := (ff461x.2 _ _ (wnc (by decide) wn0) (f8456x.2 _ _ (wnc (by decide) wn0) (f8452x.2 _ _ (wnc (by decide) wn0) c2405x)))
                  have e467x := (ff461x.2 _ _ (wnc (by decide) wn0) (f8456x.2 _ _ (wnc (by decide) wn0) (f8452x.2 _ _ (wnc (by decide) wn0) (f8405x.2 _ _ (wnc (by decide) (wnc (by decide) (wnc (by decide) wn0))) hRt))))
                  have e468x := (ff461x.2 _ _ (wnc (by decide) wn0) (f8456x.2 _ _ (wnc (by decide) wn0) (f8452x.2 _ _ (wnc (by decide) wn0) (f8405x.2 _ _ (wnc (by decide) (wnc (by decide) (wnc (by decide) wn0))) hSn))))
                  have e469x := (ff461x.2 _ _ (wnc (by decide) wn0) (f8456x.2 _ _ (wnc (by decide) wn0) (f8452x.2 _ _ (wnc (by decide) wn0) (f8405x.2 _ _ (wnc (by decide) (wnc (by decide) (wnc (by decide) wn0))) hSq))))
                  have e470x := (ff461x.2 _ _ (wnc (by decide) wn0) (f8456x.2 _ _ (wnc (by decide) wn0) (f8452x.2 _ _ (wnc (by decide) wn0) (f8405x.2 _ _ (wnc (by decide) (wnc (by decide) (wnc (by decide) wn0))) hWy))))
                  have e471x := (ff461x.2 _ _ (wnc (by decide) wn0) (f8456x.2 _ _ (wnc (by decide) wn0) (f8452x.2 _ _ (wnc (by decide) wn0) (f8405x.2 _ _ (wnc (by decide) (wnc (by decide) (wnc (by decide) wn0))) hIt))))
                  have e472x := (ff461x.2 _ _ (wnc (by decide) wn0) (f8456x.2 _ _ (wnc (by decide) wn0) (f8452x.2 _ _ (wnc (by decide) wn0) (f8405x.2 _ _ (wnc (by decide) (wnc (by decide) (wnc (by decide) wn0))) hHd))))
                  have e473x := (ff461x.2 _ _ (wnc (by decide) wn0) (f8456x.2 _ _ (wnc (by decide) wn0) (f8452x.2 _ _ (wnc (by decide) wn0) c1405x)))
                  have hx : (mLin tb sz at9 pl so va ft fp n14 ns nw kn lo hi sv rt sn sq wy it hl hs) = ((v453x.1), (v453x.2), (v457x.1), (v457x.2.1), (v457x.2.2.1), (v457x.2.2.2), (n14 + (1 : Int32)), kn, lo, hi, (v406x.2.2.2.2.2.2.2), rt, sn, sq, wy, it, hl, (v406x.2.2.2.2.2.2.1)) := by unfold mLin; rw [if_pos b1x, if_pos b3x, if_pos b6x, if_pos b9x, if_pos b12x, if_neg (fun q => q b15x), zlet_eq hv407x, if_neg (fun q => q b408x), if_neg b430x, zlet_eq hv454x, zlet_eq hv458x]
                  rw [hx]
                  exact wq_ret rfl rfl ⟨hh459x, rfl, (wFr_tr (wFr_sub f8405x (by simp)) (wFr_tr (wFr_sub f8452x (by simp)) (wFr_tr (wFr_sub f8456x (by simp)) (wFr_sub ff461x (by simp))))), by omega, e460x, e463x, e464x, e465x, e466x, e467x, e468x, e469x, e470x, e471x, e472x, e473x, (by (try dsimp only); first | assumption | omega), (by (try dsimp only); first | assumption | omega), (by (try dsimp only); first | assumption | omega), (by (try dsimp only); first | assumption | omega), (by (try dsimp only); omega), (by (try dsimp only); intro q9; first | omega | exact ⟨ns, nw, hN, hL, hS, hR, hQ, hW⟩ | exact ⟨ns, nw, wNm_7 hN (by omega), hL, hS, hR, hQ, hW⟩ | exact ⟨ns, nw, wNm_8 hN (by omega), hL, hS, hR, hQ, hW⟩ | exact ⟨ns, nw, wNm_9 hN (by omega), hL, hS, hR, hQ, hW⟩ | exact ⟨ns, nw, wNm_10 hN (by omega), hL, hS, hR, hQ, hW⟩ | exact ⟨ns, nw, wNm_11 hN (by omega), hL, hS, hR, hQ, hW⟩ | exact ⟨ns, nw, hN, hX9 (by omega), hS, hR, hQ, hW⟩ | exact ⟨ns, nw, hN, hL, hX9, hR, hQ, hW⟩ | exact ⟨ns, nw, hN, hL, hS, hX9, hQ, hW⟩ | (obtain ⟨m9, a9, b9, c9⟩ := hX9 (by omega); exact ⟨m9, nw, b9, hL, hS, hR, c9, wW2_m hW a9⟩) | (obtain ⟨m9, b9, c9⟩ := hX9 (by omega); exact ⟨ns, m9, b9, hL, hS, hR, hQ, c9⟩)), (by (try dsimp only); exact ⟨by first | assumption | exact hz.1 | exact wFh_set hz.1 (by decide), by first | assumption | exact hz.2.1, by first | assumption | exact hz.2.2.1, by first | assumption | exact hz.2.2.2.1, by first | assumption | exact hz.2.2.2.2.1, by first | assumption | exact hz.2.2.2.2.2⟩)⟩
          · have q474x : va.toInt = 3 := congrArg Int32.toInt b12x
            refine wq_gos (f := 1) (pc2 := 83) (ls2 := [(0, .ref 162)]) (st2 := [.ref 162]) (h2 := h) (dc2 := 0) (ds2 := 0) 1 rfl ?_
            refine wq_inlv (y2 := 174) (as := []) rfl rfl rfl hM rfl (wq_mono (m_rdL hM hT hHd hLo hHi (by first | assumption | omega | decide | solve_by_elim) ⟨Nat.le_refl _, by omega⟩ (by first | assumption | omega | decide | solve_by_elim) (by first | assumption | omega | decide | solve_by_elim) (by first | assumption | omega | decide | solve_by_elim) hz.2.1 hz.2.2.1) ?_)
            rintro _ ⟨h8475x, rfl, f8475x, l8475x, c0475x, c1475x, c2475x, c3475x, p0475x, p1475x, p2475x, p3475x, p4475x, p5475x, p6475x, p7475x⟩
            show wq 180 86 [(0, .ref 162)] [] h8475x 0 0 _
            obtain ⟨v476x, hv477x⟩ : ∃ x, x = (mRdL tb sz at9 pl so va ft fp hl lo hi) := ⟨_, rfl⟩
            try rw [← hv477x] at c0475x
            try rw [← hv477x] at c1475x
            try rw [← hv477x] at c2475x
            try rw [← hv477x] at c3475x
            try rw [← hv477x] at p0475x
            try rw [← hv477x] at p1475x
            try rw [← hv477x] at p2475x
            try rw [← hv477x] at p3475x
            try rw [← hv477x] at p4475x
            try rw [← hv477x] at p5475x
            try rw [← hv477x] at p6475x
            try rw [← hv477x] at p7475x
            try rw [← hv477x]
            have hX9 := p5475x
            refine wq_gos (f := 1) (pc2 := 183) (ls2 := [(0, .ref 162)]) (st2 := [.ref 162]) (h2 := h8475x) (dc2 := 0) (ds2 := 0) 2 rfl ?_
            refine wq_getf rfl c0475x rfl rfl ?_
            refine wq_ne0 rfl rfl (fun b478x => ?_) (fun b478x => ?_)
            · have q479x : (v476x.1).toInt ≠ 0 := fun q => b478x (Int32.toInt_inj.mp q)
              refine wq_gos (f := 1) (pc2 := 203) (ls2 := [(0, .ref 162)]) (st2 := [.ref 162]) (h2 := h8475x) (dc2 := 0) (ds2 := 0) 1 rfl ?_
              have e480x := (f8475x.2 _ _ (wnc (by decide) (wnc (by decide) (wnc (by decide) (wnc (by decide) wn0)))) hT)
              refine wq_inlv (y2 := 164) (as := []) rfl rfl rfl c0475x rfl (wq_mono (m_go c0475x e480x (by first | assumption | omega | decide | solve_by_elim) ⟨Nat.le_refl _, by omega⟩ (by first | assumption | omega | decide | solve_by_elim)) ?_)
              rintro _ ⟨h8481x, rfl, f8481x, l8481x, c0481x, p0481x, p1481x, p2481x, p3481x⟩
              show wq 180 206 [(0, .ref 162)] [] h8481x 0 0 _
              obtain ⟨v482x, hv483x⟩ : ∃ x, x = (mGo tb sz (v476x.2.2.1) (v476x.2.2.2.1) (v476x.2.2.2.2.1) (v476x.2.2.2.2.2.1) (v476x.1)) := ⟨_, rfl⟩
              try rw [← hv483x] at c0481x
              try rw [← hv483x] at p0481x
              try rw [← hv483x] at p1481x
              try rw [← hv483x] at p2481x
              try rw [← hv483x] at p3481x
              try rw [← hv483x]
              refine wq_gos (f := 1) (pc2 := 208) (ls2 := [(0, .ref 162)]) (st2 := [.ref 162, .ref 162]) (h2 := h8481x) (dc2 := 0) (ds2 := 0) 2 rfl ?_
              refine wq_getf rfl c0481x rfl rfl ?_
              refine wq_gos (f := 1) (pc2 := 213) (ls2 := [(0, .ref 162)]) (st2 := [.int (n14 + (1 : Int32)), .ref 162]) (h2 := h8481x) (dc2 := 0) (ds2 := 0) 2 rfl ?_
              refine wq_putf rfl c0481x rfl rfl rfl ?_
              intro hh484x e485x ff486x lh487x
              have e485x : zat hh484x 162 = some (.inr (.inr (.inr (10, mO n0 n2 (n14 + (1 : Int32)) (nI sz) (nI (v482x.1)) (nI (v482x.2.1)) (v482x.2.2.1) (v482x.2.2.2) (v476x.1) (v476x.2.1) n22 n23 n27 n28 n32 n33 n34 n35 n39 n52)))) := e485x
              have e488x := (ff486x.2 _ _ (wnc (by decide) wn0) (f8481x.2 _ _ (wnc (by decide) wn0) (f8475x.2 _ _ (wnc (by decide) (wnc (by decide) (wnc (by decide) (wnc (by decide) wn0)))) hKn)))
              have e489x := (ff486x.2 _ _ (wnc (by decide) wn0) (f8481x.2 _ _ (wnc (by decide) wn0) c2475x))
              have e490x := (ff486x.2 _ _ (wnc (by decide) wn0) (f8481x.2 _ _ (wnc (by decide) wn0) c3475x))
              have e491x := (ff486x.2 _ _ (wnc (by decide) wn0) (f8481x.2 _ _ (wnc (by decide) wn0) (f8475x.2 _ _ (wnc (by decide) (wnc (by decide) (wnc (by decide) (wnc (by decide) wn0)))) hSv)))
              have e492x := (ff486x.2 _ _ (wnc (by decide) wn0) (f8481x.2 _ _ (wnc (by decide) wn0) (f8475x.2 _ _ (wnc (by decide) (wnc (by decide) (wnc (by decide) (wnc (by decide) wn0)))) hRt)))
              have e493x := (ff486x.2 _ _ (wnc (by decide) wn0) (f8481x.2 _ _ (wnc (by decide) wn0) (f8475x.2 _ _ (wnc (by decide) (wnc (by decide) (wnc (by decide) (wnc (by decide) wn0)))) hSn)))
              have e494x := (ff486x.2 _ _ (wnc (by decide) wn0) (f8481x.2 _ _ (wnc (by decide) wn0) (f8475x.2 _ _ (wnc (by decide) (wnc (by decide) (wnc (by decide) (wnc (by decide) wn0)))) hSq)))
              have e495x := (ff486x.2 _ _ (wnc (by decide) wn0) (f8481x.2 _ _ (wnc (by decide) wn0) (f8475x.2 _ _ (wnc (by decide) (wnc (by decide) (wnc (by decide) (wnc (by decide) wn0)))) hWy)))
              have e496x := (ff486x.2 _ _ (wnc (by decide) wn0) (f8481x.2 _ _ (wnc (by decide) wn0) (f8475x.2 _ _ (wnc (by decide) (wnc (by decide) (wnc (by decide) (wnc (by decide) wn0)))) hIt)))
              have e497x := (ff486x.2 _ _ (wnc (by decide) wn0) (f8481x.2 _ _ (wnc (by decide) wn0) c1475x))
              have e498x := (ff486x.2 _ _ (wnc (by decide) wn0) (f8481x.2 _ _ (wnc (by decide) wn0) (f8475x.2 _ _ (wnc (by decide) (wnc (by decide) (wnc (by decide) (wnc (by decide) wn0)))) hHs)))
              have hx : (mLin tb sz at9 pl so va ft fp n14 ns nw kn lo hi sv rt sn sq wy it hl hs) = ((v476x.1), (v476x.2.1), (v482x.1), (v482x.2.1), (v482x.2.2.1), (v482x.2.2.2), (n14 + (1 : Int32)), kn, (v476x.2.2.2.2.2.2.2.1), (v476x.2.2.2.2.2.2.2.2), sv, rt, sn, sq, wy, it, (v476x.2.2.2.2.2.2.1), hs) := by unfold mLin; rw [if_pos b1x, if_pos b3x, if_pos b6x, if_pos b9x, if_neg (fun q => q b12x), zlet_eq hv477x, if_pos b478x, zlet_eq hv483x]
              rw [hx]
              exact wq_ret rfl rfl ⟨hh484x, rfl, (wFr_tr (wFr_sub f8475x (by simp)) (wFr_tr (wFr_sub f8481x (by simp)) (wFr_sub ff486x (by simp)))), by omega, e485x, e488x, e489x, e490x, e491x, e492x, e493x, e494x, e495x, e496x, e497x, e498x, (by (try dsimp only); first | assumption | omega), (by (try dsimp only); first | assumption | omega), (by (try dsimp only); first | assumption | omega), (by (try dsimp only); first | assumption | omega), (by (try dsimp only); omega), (by (try dsimp only); intro q9; first | omega | exact ⟨ns, nw, hN, hL, hS, hR, hQ, hW⟩ | exact ⟨ns, nw, wNm_7 hN (by omega), hL, hS, hR, hQ, hW⟩ | exact ⟨ns, nw, wNm_8 hN (by omega), hL, hS, hR, hQ, hW⟩ | exact ⟨ns, nw, wNm_9 hN (by omega), hL, hS, hR, hQ, hW⟩ | exact ⟨ns, nw, wNm_10 hN (by omega), hL, hS, hR, hQ, hW⟩ | exact ⟨ns, nw, wNm_11 hN (by omega), hL, hS, hR, hQ, hW⟩ | exact ⟨ns, nw, hN, hX9 (by omega), hS, hR, hQ, hW⟩ | exact ⟨ns, nw, hN, hL, hX9, hR, hQ, hW⟩ | exact ⟨ns, nw, hN, hL, hS, hX9, hQ, hW⟩ | (obtain ⟨m9, a9, b9, c9⟩ := hX9 (by omega); exact ⟨m9, nw, b9, hL, hS, hR, c9, wW2_m hW a9⟩) | (obtain ⟨m9, b9, c9⟩ := hX9 (by omega); exact ⟨ns, m9, b9, hL, hS, hR, hQ, c9⟩)), (by (try dsimp only); exact ⟨by first | assumption | exact hz.1 | exact wFh_set hz.1 (by decide), by first | assumption | exact hz.2.1, by first | assumption | exact hz.2.2.1, by first | assumption | exact hz.2.2.2.1, by first | assumption | exact hz.2.2.2.2.1, by first | assumption | exact hz.2.2.2.2.2⟩)⟩
            · have q499x : (v476x.1).toInt = 0 := congrArg Int32.toInt b478x
              refine wq_gos (f := 1) (pc2 := 190) (ls2 := [(0, .ref 162)]) (st2 := [.ref 162]) (h2 := h8475x) (dc2 := 0) (ds2 := 0) 1 rfl ?_
              refine wq_getf rfl c0475x rfl rfl ?_
              refine wq_gos (f := 1) (pc2 := 194) (ls2 := [(0, .ref 162)]) (st2 := [.int 4, .int (v476x.2.2.2.2.1)]) (h2 := h8475x) (dc2 := 0) (ds2 := 0) 1 rfl ?_
              have q500x : (4 : Int32).toInt = 4 := rfl
              refine wq_eq2 rfl rfl (fun b501x => ?_) (fun b501x => ?_)
              · have q502x : (v476x.2.2.2.2.1).toInt = 4 := congrArg Int32.toInt b501x
                refine wq_gos (f := 1) (pc2 := 203) (ls2 := [(0, .ref 162)]) (st2 := [.ref 162]) (h2 := h8475x) (dc2 := 0) (ds2 := 0) 1 rfl ?_
                have e503x := (f8475x.2 _ _ (wnc (by decide) (wnc (by decide) (wnc (by decide) (wnc (by decide) wn0)))) hT)
                refine wq_inlv (y2 := 164) (as := []) rfl rfl rfl c0475x rfl (wq_mono (m_go c0475x e503x (by first | assumption | omega | decide | solve_by_elim) ⟨Nat.le_refl _, by omega⟩ (by first | assumption | omega | decide | solve_by_elim)) ?_)
                rintro _ ⟨h8504x, rfl, f8504x, l8504x, c0504x, p0504x, p1504x, p2504x, p3504x⟩
                show wq 180 206 [(0, .ref 162)] [] h8504x 0 0 _
                obtain ⟨v505x, hv506x⟩ : ∃ x, x = (mGo tb sz (v476x.2.2.1) (v476x.2.2.2.1) (v476x.2.2.2.2.1) (v476x.2.2.2.2.2.1) (v476x.1)) := ⟨_, rfl⟩
                try rw [← hv506x] at c0504x
                try rw [← hv506x] at p0504x
                try rw [← hv506x] at p1504x
                try rw [← hv506x] at p2504x
                try rw [← hv506x] at p3504x
                try rw [← hv506x]
                refine wq_gos (f := 1) (pc2 := 208) (ls2 := [(0, .ref 162)]) (st2 := [.ref 162, .ref 162]) (h2 := h8504x) (dc2 := 0) (ds2 := 0) 2 rfl ?_
                refine wq_getf rfl c0504x rfl rfl ?_
                refine wq_gos (f := 1) (pc2 := 213) (ls2 := [(0, .ref 162)]) (st2 := [.int (n14 + (1 : Int32)), .ref 162]) (h2 := h8504x) (dc2 := 0) (ds2 := 0) 2 rfl ?_
                refine wq_putf rfl c0504x rfl rfl rfl ?_
                intro hh507x e508x ff509x lh510x
                have e508x : zat hh507x 162 = some (.inr (.inr (.inr (10, mO n0 n2 (n14 + (1 : Int32)) (nI sz) (nI (v505x.1)) (nI (v505x.2.1)) (v505x.2.2.1) (v505x.2.2.2) (v476x.1) (v476x.2.1) n22 n23 n27 n28 n32 n33 n34 n35 n39 n52)))) := e508x
                have e511x := (ff509x.2 _ _ (wnc (by decide) wn0) (f8504x.2 _ _ (wnc (by decide) wn0) (f8475x.2 _ _ (wnc (by decide) (wnc (by decide) (wnc (by decide) (wnc (by decide) wn0)))) hKn)))
                have e512x := (ff509x.2 _ _ (wnc (by decide) wn0) (f8504x.2 _ _ (wnc (by decide) wn0) c2475x))
                have e513x := (ff509x.2 _ _ (wnc (by decide) wn0) (f8504x.2 _ _ (wnc (by decide) wn0) c3475x))
                have e514x := (ff509x.2 _ _ (wnc (by decide) wn0) (f8504x.2 _ _ (wnc (by decide) wn0) (f8475x.2 _ _ (wnc (by decide) (wnc (by decide) (wnc (by decide) (wnc (by decide) wn0)))) hSv)))
                have e515x := (ff509x.2 _ _ (wnc (by decide) wn0) (f8504x.2 _ _ (wnc (by decide) wn0) (f8475x.2 _ _ (wnc (by decide) (wnc (by decide) (wnc (by decide) (wnc (by decide) wn0)))) hRt)))
                have e516x := (ff509x.2 _ _ (wnc (by decide) wn0) (f8504x.2 _ _ (wnc (by decide) wn0) (f8475x.2 _ _ (wnc (by decide) (wnc (by decide) (wnc (by decide) (wnc (by decide) wn0)))) hSn)))
                have e517x := (ff509x.2 _ _ (wnc (by decide) wn0) (f8504x.2 _ _ (wnc (by decide) wn0) (f8475x.2 _ _ (wnc (by decide) (wnc (by decide) (wnc (by decide) (wnc (by decide) wn0)))) hSq)))
                have e518x := (ff509x.2 _ _ (wnc (by decide) wn0) (f8504x.2 _ _ (wnc (by decide) wn0) (f8475x.2 _ _ (wnc (by decide) (wnc (by decide) (wnc (by decide) (wnc (by decide) wn0)))) hWy)))
                have e519x := (ff509x.2 _ _ (wnc (by decide) wn0) (f8504x.2 _ _ (wnc (by decide) wn0) (f8475x.2 _ _ (wnc (by decide) (wnc (by decide) (wnc (by decide) (wnc (by decide) wn0)))) hIt)))
                have e520x := (ff509x.2 _ _ (wnc (by decide) wn0) (f8504x.2 _ _ (wnc (by decide) wn0) c1475x))
                have e521x := (ff509x.2 _ _ (wnc (by decide) wn0) (f8504x.2 _ _ (wnc (by decide) wn0) (f8475x.2 _ _ (wnc (by decide) (wnc (by decide) (wnc (by decide) (wnc (by decide) wn0)))) hHs)))
                have hx : (mLin tb sz at9 pl so va ft fp n14 ns nw kn lo hi sv rt sn sq wy it hl hs) = ((v476x.1), (v476x.2.1), (v505x.1), (v505x.2.1), (v505x.2.2.1), (v505x.2.2.2), (n14 + (1 : Int32)), kn, (v476x.2.2.2.2.2.2.2.1), (v476x.2.2.2.2.2.2.2.2), sv, rt, sn, sq, wy, it, (v476x.2.2.2.2.2.2.1), hs) := by unfold mLin; rw [if_pos b1x, if_pos b3x, if_pos b6x, if_pos b9x, if_neg (fun q => q b12x), zlet_eq hv477x, if_neg (fun q => q b478x), if_pos b501x, zlet_eq hv506x]
                rw [hx]
                exact wq_ret rfl rfl ⟨hh507x, rfl, (wFr_tr (wFr_sub f8475x (by simp)) (wFr_tr (wFr_sub f8504x (by simp)) (wFr_sub ff509x (by simp)))), by omega, e508x, e511x, e512x, e513x, e514x, e515x, e516x, e517x, e518x, e519x, e520x, e521x, (by (try dsimp only); first | assumption | omega), (by (try dsimp only); first | assumption | omega), (by (try dsimp only); first | assumption | omega), (by (try dsimp only); first | assumption | omega), (by (try dsimp only); omega), (by (try dsimp only); intro q9; first | omega | exact ⟨ns, nw, hN, hL, hS, hR, hQ, hW⟩ | exact ⟨ns, nw, wNm_7 hN (by omega), hL, hS, hR, hQ, hW⟩ | exact ⟨ns, nw, wNm_8 hN (by omega), hL, hS, hR, hQ, hW⟩ | exact ⟨ns, nw, wNm_9 hN (by omega), hL, hS, hR, hQ, hW⟩ | exact ⟨ns, nw, wNm_10 hN (by omega), hL, hS, hR, hQ, hW⟩ | exact ⟨ns, nw, wNm_11 hN (by omega), hL, hS, hR, hQ, hW⟩ | exact ⟨ns, nw, hN, hX9 (by omega), hS, hR, hQ, hW⟩ | exact ⟨ns, nw, hN, hL, hX9, hR, hQ, hW⟩ | exact ⟨ns, nw, hN, hL, hS, hX9, hQ, hW⟩ | (obtain ⟨m9, a9, b9, c9⟩ := hX9 (by omega); exact ⟨m9, nw, b9, hL, hS, hR, c9, wW2_m hW a9⟩) | (obtain ⟨m9, b9, c9⟩ := hX9 (by omega); exact ⟨ns, m9, b9, hL, hS, hR, hQ, c9⟩)), (by (try dsimp only); exact ⟨by first | assumption | exact hz.1 | exact wFh_set hz.1 (by decide), by first | assumption | exact hz.2.1, by first | assumption | exact hz.2.2.1, by first | assumption | exact hz.2.2.2.1, by first | assumption | exact hz.2.2.2.2.1, by first | assumption | exact hz.2.2.2.2.2⟩)⟩
              · have q522x : (v476x.2.2.2.2.1).toInt ≠ 4 := fun q => b501x (Int32.toInt_inj.mp q)
                refine wq_gos (f := 1) (pc2 := 199) (ls2 := [(0, .ref 162)]) (st2 := [.int 1, .ref 162]) (h2 := h8475x) (dc2 := 0) (ds2 := 0) 2 rfl ?_
                refine wq_inlv (y2 := 163) (as := [.int 1]) rfl rfl rfl c0475x rfl (wq_mono (m_wro c0475x (by first | assumption | omega | decide | solve_by_elim) (by first | assumption | omega | decide | solve_by_elim)) ?_)
                rintro _ ⟨h8523x, rfl, f8523x, l8523x, c0523x, p0523x⟩
                show wq 180 202 [(0, .ref 162)] [] h8523x 0 0 _
                obtain ⟨v524x, hv525x⟩ : ∃ x, x = (mWro (v476x.2.2.2.1) (v476x.1) (v476x.2.1) (1 : Int32)) := ⟨_, rfl⟩
                try rw [← hv525x] at c0523x
                try rw [← hv525x] at p0523x
                try rw [← hv525x]
                refine wq_gos (f := 1) (pc2 := 203) (ls2 := [(0, .ref 162)]) (st2 := [.ref 162]) (h2 := h8523x) (dc2 := 0) (ds2 := 0) 1 rfl ?_
                have e526x := (f8523x.2 _ _ (wnc (by decide) wn0) (f8475x.2 _ _ (wnc (by decide) (wnc (by decide) (wnc (by decide) (wnc (by decide) wn0)))) hT))
                refine wq_inlv (y2 := 164) (as := []) rfl rfl rfl c0523x rfl (wq_mono (m_go c0523x e526x (by first | assumption | omega | decide | solve_by_elim) ⟨Nat.le_refl _, by omega⟩ (by first | assumption | omega | decide | solve_by_elim)) ?_)
                rintro _ ⟨h8527x, rfl, f8527x, l8527x, c0527x, p0527x, p1527x, p2527x, p3527x⟩
                show wq 180 206 [(0, .ref 162)] [] h8527x 0 0 _
                obtain ⟨v528x, hv529x⟩ : ∃ x, x = (mGo tb sz (v476x.2.2.1) (v476x.2.2.2.1) (v476x.2.2.2.2.1) (v476x.2.2.2.2.2.1) (v524x.1)) := ⟨_, rfl⟩
                try rw [← hv529x] at c0527x
                try rw [← hv529x] at p0527x
                try rw [← hv529x] at p1527x
                try rw [← hv529x] at p2527x
                try rw [← hv529x] at p3527x
                try rw [← hv529x]
                refine wq_gos (f := 1) (pc2 := 208) (ls2 := [(0, .ref 162)]) (st2 := [.ref 162, .ref 162]) (h2 := h8527x) (dc2 := 0) (ds2 := 0) 2 rfl ?_
                refine wq_getf rfl c0527x rfl rfl ?_
                refine wq_gos (f := 1) (pc2 := 213) (ls2 := [(0, .ref 162)]) (st2 := [.int (n14 + (1 : Int32)), .ref 162]) (h2 := h8527x) (dc2 := 0) (ds2 := 0) 2 rfl ?_
                refine wq_putf rfl c0527x rfl rfl rfl ?_
                intro hh530x e531x ff532x lh533x
                have e531x : zat hh530x 162 = some (.inr (.inr (.inr (10, mO n0 n2 (n14 + (1 : Int32)) (nI sz) (nI (v528x.1)) (nI (v528x.2.1)) (v528x.2.2.1) (v528x.2.2.2) (v524x.1) (v524x.2) n22 n23 n27 n28 n32 n33 n34 n35 n39 n52)))) := e531x
                have e534x := (ff532x.2 _ _ (wnc (by decide) wn0) (f8527x.2 _ _ (wnc (by decide) wn0) (f8523x.2 _ _ (wnc (by decide) wn0) (f8475x.2 _ _ (wnc (by decide) (wnc (by decide) (wnc (by decide) (wnc (by decide) wn0)))) hKn))))
                have e535x := (ff532x.2 _ _ (wnc (by decide) wn0) (f8527x.2 _ _ (wnc (by decide) wn0) (f8523x.2 _ _ (wnc (by decide) wn0) c2475x)))
                have e536x := (ff532x.2 _ _ (wnc (by decide) wn0) (f8527x.2 _ _ (wnc (by decide) wn0) (f8523x.2 _ _ (wnc (by decide) wn0) c3475x)))
                have e537x := (ff532x.2 _ _ (wnc (by decide) wn0) (f8527x.2 _ _ (wnc (by decide) wn0) (f8523x.2 _ _ (wnc (by decide) wn0) (f8475x.2 _ _ (wnc (by decide) (wnc (by decide) (wnc (by decide) (wnc (by decide) wn0)))) hSv))))
                have e538x := (ff532x.2 _ _ (wnc (by decide) wn0) (f8527x.2 _ _ (wnc (by decide) wn0) (f8523x.2 _ _ (wnc (by decide) wn0) (f8475x.2 _ _ (wnc (by decide) (wnc (by decide) (wnc (by decide) (wnc (by decide) wn0)))) hRt))))
                have e539x := (ff532x.2 _ _ (wnc (by decide) wn0) (f8527x.2 _ _ (wnc (by decide) wn0) (f8523x.2 _ _ (wnc (by decide) wn0) (f8475x.2 _ _ (wnc (by decide) (wnc (by decide) (wnc (by decide) (wnc (by decide) wn0)))) hSn))))
                have e540x := (ff532x.2 _ _ (wnc (by decide) wn0) (f8527x.2 _ _ (wnc (by decide) wn0) (f8523x.2 _ _ (wnc (by decide) wn0) (f8475x.2 _ _ (wnc (by decide) (wnc (by decide) (wnc (by decide) (wnc (by decide) wn0)))) hSq))))
                have e541x := (ff532x.2 _ _ (wnc (by decide) wn0) (f8527x.2 _ _ (wnc (by decide) wn0) (f8523x.2 _ _ (wnc (by decide) wn0) (f8475x.2 _ _ (wnc (by decide) (wnc (by decide) (wnc (by decide) (wnc (by decide) wn0)))) hWy))))
                have e542x := (ff532x.2 _ _ (wnc (by decide) wn0) (f8527x.2 _ _ (wnc (by decide) wn0) (f8523x.2 _ _ (wnc (by decide) wn0) (f8475x.2 _ _ (wnc (by decide) (wnc (by decide) (wnc (by decide) (wnc (by decide) wn0)))) hIt))))
                have e543x := (ff532x.2 _ _ (wnc (by decide) wn0) (f8527x.2 _ _ (wnc (by decide) wn0) (f8523x.2 _ _ (wnc (by decide) wn0) c1475x)))
                have e544x := (ff532x.2 _ _ (wnc (by decide) wn0) (f8527x.2 _ _ (wnc (by decide) wn0) (f8523x.2 _ _ (wnc (by decide) wn0) (f8475x.2 _ _ (wnc (by decide) (wnc (by decide) (wnc (by decide) (wnc (by decide) wn0)))) hHs))))
                have hx : (mLin tb sz at9 pl so va ft fp n14 ns nw kn lo hi sv rt sn sq wy it hl hs) = ((v524x.1), (v524x.2), (v528x.1), (v528x.2.1), (v528x.2.2.1), (v528x.2.2.2), (n14 + (1 : Int32)), kn, (v476x.2.2.2.2.2.2.2.1), (v476x.2.2.2.2.2.2.2.2), sv, rt, sn, sq, wy, it, (v476x.2.2.2.2.2.2.1), hs) := by unfold mLin; rw [if_pos b1x, if_pos b3x, if_pos b6x, if_pos b9x, if_neg (fun q => q b12x), zlet_eq hv477x, if_neg (fun q => q b478x), if_neg b501x, zlet_eq hv525x, zlet_eq hv529x]
                rw [hx]
                exact wq_ret rfl rfl ⟨hh530x, rfl, (wFr_tr (wFr_sub f8475x (by simp)) (wFr_tr (wFr_sub f8523x (by simp)) (wFr_tr (wFr_sub f8527x (by simp)) (wFr_sub ff532x (by simp))))), by omega, e531x, e534x, e535x, e536x, e537x, e538x, e539x, e540x, e541x, e542x, e543x, e544x, (by (try dsimp only); first | assumption | omega), (by (try dsimp only); first | assumption | omega), (by (try dsimp only); first | assumption | omega), (by (try dsimp only); first | assumption | omega), (by (try dsimp only); omega), (by (try dsimp only); intro q9; first | omega | exact ⟨ns, nw, hN, hL, hS, hR, hQ, hW⟩ | exact ⟨ns, nw, wNm_7 hN (by omega), hL, hS, hR, hQ, hW⟩ | exact ⟨ns, nw, wNm_8 hN (by omega), hL, hS, hR, hQ, hW⟩ | exact ⟨ns, nw, wNm_9 hN (by omega), hL, hS, hR, hQ, hW⟩ | exact ⟨ns, nw, wNm_10 hN (by omega), hL, hS, hR, hQ, hW⟩ | exact ⟨ns, nw, wNm_11 hN (by omega), hL, hS, hR, hQ, hW⟩ | exact ⟨ns, nw, hN, hX9 (by omega), hS, hR, hQ, hW⟩ | exact ⟨ns, nw, hN, hL, hX9, hR, hQ, hW⟩ | exact ⟨ns, nw, hN, hL, hS, hX9, hQ, hW⟩ | (obtain ⟨m9, a9, b9, c9⟩ := hX9 (by omega); exact ⟨m9, nw, b9, hL, hS, hR, c9, wW2_m hW a9⟩) | (obtain ⟨m9, b9, c9⟩ := hX9 (by omega); exact ⟨ns, m9, b9, hL, hS, hR, hQ, c9⟩)), (by (try dsimp only); exact ⟨by first | assumption | exact hz.1 | exact wFh_set hz.1 (by decide), by first | assumption | exact hz.2.1, by first | assumption | exact hz.2.2.1, by first | assumption | exact hz.2.2.2.1, by first | assumption | exact hz.2.2.2.2.1, by first | assumption | exact hz.2.2.2.2.2⟩)⟩
        · have q545x : va.toInt = 2 := congrArg Int32.toInt b9x
          refine wq_gos (f := 1) (pc2 := 68) (ls2 := [(0, .ref 162)]) (st2 := [.int 99, .int 1, .int 2, .int 2, .ref 162]) (h2 := h) (dc2 := 0) (ds2 := 0) 5 rfl ?_
          refine wq_inlv (y2 := 179) (as := [.int 2, .int 2, .int 1, .int 99]) rfl rfl rfl hM rfl ?_
          show wq 179 0 [(0, .ref 162), (1, .int 2), (2, .int 2), (3, .int 1), (4, .int 99)] [] h 0 0 _
          refine wq_gos (f := 1) (pc2 := 2) (ls2 := [(0, .ref 162), (1, .int 2), (2, .int 2), (3, .int 1), (4, .int 99)]) (st2 := [.int 2, .ref 162]) (h2 := h) (dc2 := 0) (ds2 := 0) 2 rfl ?_
          refine wq_inlv (y2 := 171) (as := [.int 2]) rfl rfl rfl hM rfl (wq_mono (m_onc (w := 2) hM hT hIt (by first | assumption | omega | decide | solve_by_elim) ⟨Nat.le_refl _, by omega⟩ (by first | assumption | omega | decide | solve_by_elim) (by first | assumption | omega | decide | solve_by_elim) (by first | assumption | omega | decide | solve_by_elim)) ?_)
          rintro _ ⟨h8546x, rfl, f8546x, l8546x, c0546x, c1546x, p0546x, p1546x, p2546x, p3546x, p4546x⟩
          show wq 179 5 [(0, .ref 162), (1, .int 2), (2, .int 2), (3, .int 1), (4, .int 99)] [] h8546x 0 0 _
          obtain ⟨v547x, hv548x⟩ : ∃ x, x = (mOnc tb sz at9 pl so va ft fp 2 it) := ⟨_, rfl⟩
          try rw [← hv548x] at c0546x
          try rw [← hv548x] at c1546x
          try rw [← hv548x] at p0546x
          try rw [← hv548x] at p1546x
          try rw [← hv548x] at p2546x
          try rw [← hv548x] at p3546x
          try rw [← hv548x] at p4546x
          try rw [← hv548x]
          refine wq_gos (f := 1) (pc2 := 11) (ls2 := [(0, .ref 162), (1, .int 2), (2, .int 2), (3, .int 1), (4, .int 99)]) (st2 := [.int 99, .int 1, .ref 162, .int 2, .ref 162]) (h2 := h8546x) (dc2 := 0) (ds2 := 0) 5 rfl ?_
          have e549x := (f8546x.2 _ _ (wnc (by decide) (wnc (by decide) wn0)) hT)
          have q550x : (99 : Int32).toInt = 99 := rfl
          refine wq_inlv (y2 := 166) (as := [.int 1, .int 99]) rfl rfl rfl c0546x rfl (wq_mono (m_nml c0546x e549x (by first | assumption | omega | decide | solve_by_elim) ⟨Nat.le_refl _, by omega⟩ (by first | assumption | omega | decide | solve_by_elim) (by first | assumption | omega | decide | solve_by_elim)) ?_)
          rintro _ ⟨h8551x, rfl, f8551x, l8551x, c0551x, p0551x, p1551x, p2551x, p3551x, p4551x, p5551x⟩
          show wq 179 14 [(0, .ref 162), (1, .int 2), (2, .int 2), (3, .int 1), (4, .int 99)] [.int ((mNml tb sz (v547x.2.2.1) (v547x.2.2.2.1) (v547x.2.2.2.2.1) (v547x.2.2.2.2.2.1) (v547x.1) (v547x.2.1) (1 : Int32) (99 : Int32)).1), .int 2, .ref 162] h8551x 0 0 _
          obtain ⟨v552x, hv553x⟩ : ∃ x, x = (mNml tb sz (v547x.2.2.1) (v547x.2.2.2.1) (v547x.2.2.2.2.1) (v547x.2.2.2.2.2.1) (v547x.1) (v547x.2.1) (1 : Int32) (99 : Int32)) := ⟨_, rfl⟩
          try rw [← hv553x] at c0551x
          try rw [← hv553x] at p0551x
          try rw [← hv553x] at p1551x
          try rw [← hv553x] at p2551x
          try rw [← hv553x] at p3551x
          try rw [← hv553x] at p4551x
          try rw [← hv553x] at p5551x
          try rw [← hv553x]
          refine wq_inlv (y2 := 170) (as := [.int 2, .int (v552x.1)]) rfl rfl rfl c0551x rfl ?_
          show wq 170 0 [(0, .ref 162), (1, .int 2), (2, .int (v552x.1))] [] h8551x 0 0 _
          refine wq_gos (f := 1) (pc2 := 1) (ls2 := [(0, .ref 162), (1, .int 2), (2, .int (v552x.1))]) (st2 := [.ref 162]) (h2 := h8551x) (dc2 := 0) (ds2 := 0) 1 rfl ?_
          refine wq_getf rfl c0551x rfl rfl ?_
          refine wq_gos (f := 1) (pc2 := 9) (ls2 := [(0, .ref 162), (1, .int 2), (2, .int (v552x.1))]) (st2 := [.int (v552x.1), .int 9, .ref 166]) (h2 := h8551x) (dc2 := 0) (ds2 := 0) 4 rfl ?_
          have e554x := (f8551x.2 _ _ (wnc (by decide) wn0) (f8546x.2 _ _ (wnc (by decide) (wnc (by decide) wn0)) hKn))
          have q555x : (9 : Int32).toInt = 9 := rfl
          refine wq_iast rfl e554x rfl rfl ?_
          intro hh556x e557x ff558x lh559x
          have e557x : zat hh556x 166 = some (.inl (0, 14, (zset 0 kn 9 (v552x.1)))) := e557x
          refine wq_ret rfl rfl ?_
          show wq 179 17 [(0, .ref 162), (1, .int 2), (2, .int 2), (3, .int 1), (4, .int 99)] [] hh556x 0 0 _
          refine wq_ret rfl rfl ?_
          show wq 180 71 [(0, .ref 162)] [] hh556x 0 0 _
          refine wq_gos (f := 1) (pc2 := 183) (ls2 := [(0, .ref 162)]) (st2 := [.ref 162]) (h2 := hh556x) (dc2 := 0) (ds2 := 0) 2 rfl ?_
          have e560x := (ff558x.2 _ _ (wnc (by decide) wn0) c0551x)
          refine wq_getf rfl e560x rfl rfl ?_
          refine wq_ne0 rfl rfl (fun b561x => ?_) (fun b561x => ?_)
          · have q562x : (v552x.2.1).toInt ≠ 0 := fun q => b561x (Int32.toInt_inj.mp q)
            refine wq_gos (f := 1) (pc2 := 203) (ls2 := [(0, .ref 162)]) (st2 := [.ref 162]) (h2 := hh556x) (dc2 := 0) (ds2 := 0) 1 rfl ?_
            have e563x := (ff558x.2 _ _ (wnc (by decide) wn0) (f8551x.2 _ _ (wnc (by decide) wn0) e549x))
            refine wq_inlv (y2 := 164) (as := []) rfl rfl rfl e560x rfl (wq_mono (m_go e560x e563x (by first | assumption | omega | decide | solve_by_elim) ⟨Nat.le_refl _, by omega⟩ (by first | assumption | omega | decide | solve_by_elim)) ?_)
            rintro _ ⟨h8564x, rfl, f8564x, l8564x, c0564x, p0564x, p1564x, p2564x, p3564x⟩
            show wq 180 206 [(0, .ref 162)] [] h8564x 0 0 _
            obtain ⟨v565x, hv566x⟩ : ∃ x, x = (mGo tb sz (v552x.2.2.2.1) (v552x.2.2.2.2.1) (v552x.2.2.2.2.2.1) (v552x.2.2.2.2.2.2) (v552x.2.1)) := ⟨_, rfl⟩
            try rw [← hv566x] at c0564x
            try rw [← hv566x] at p0564x
            try rw [← hv566x] at p1564x
            try rw [← hv566x] at p2564x
            try rw [← hv566x] at p3564x
            try rw [← hv566x]
            refine wq_gos (f := 1) (pc2 := 208) (ls2 := [(0, .ref 162)]) (st2 := [.ref 162, .ref 162]) (h2 := h8564x) (dc2 := 0) (ds2 := 0) 2 rfl ?_
            refine wq_getf rfl c0564x rfl rfl ?_
            refine wq_gos (f := 1) (pc2 := 213) (ls2 := [(0, .ref 162)]) (st2 := [.int (n14 + (1 : Int32)), .ref 162]) (h2 := h8564x) (dc2 := 0) (ds2 := 0) 2 rfl ?_
            refine wq_putf rfl c0564x rfl rfl rfl ?_
            intro hh567x e568x ff569x lh570x
            have e568x : zat hh567x 162 = some (.inr (.inr (.inr (10, mO n0 n2 (n14 + (1 : Int32)) (nI sz) (nI (v565x.1)) (nI (v565x.2.1)) (v565x.2.2.1) (v565x.2.2.2) (v552x.2.1) (v552x.2.2.1) n22 n23 n27 n28 n32 n33 n34 n35 n39 n52)))) := e568x
            have e571x := (ff569x.2 _ _ (wnc (by decide) wn0) (f8564x.2 _ _ (wnc (by decide) wn0) e557x))
            have e572x := (ff569x.2 _ _ (wnc (by decide) wn0) (f8564x.2 _ _ (wnc (by decide) wn0) (ff558x.2 _ _ (wnc (by decide) wn0) (f8551x.2 _ _ (wnc (by decide) wn0) (f8546x.2 _ _ (wnc (by decide) (wnc (by decide) wn0)) hLo)))))
            have e573x := (ff569x.2 _ _ (wnc (by decide) wn0) (f8564x.2 _ _ (wnc (by decide) wn0) (ff558x.2 _ _ (wnc (by decide) wn0) (f8551x.2 _ _ (wnc (by decide) wn0) (f8546x.2 _ _ (wnc (by decide) (wnc (by decide) wn0)) hHi)))))
            have e574x := (ff569x.2 _ _ (wnc (by decide) wn0) (f8564x.2 _ _ (wnc (by decide) wn0) (ff558x.2 _ _ (wnc (by decide) wn0) (f8551x.2 _ _ (wnc (by decide) wn0) (f8546x.2 _ _ (wnc (by decide) (wnc (by decide) wn0)) hSv)))))
            have e575x := (ff569x.2 _ _ (wnc (by decide) wn0) (f8564x.2 _ _ (wnc (by decide) wn0) (ff558x.2 _ _ (wnc (by decide) wn0) (f8551x.2 _ _ (wnc (by decide) wn0) (f8546x.2 _ _ (wnc (by decide) (wnc (by decide) wn0)) hRt)))))
            have e576x := (ff569x.2 _ _ (wnc (by decide) wn0) (f8564x.2 _ _ (wnc (by decide) wn0) (ff558x.2 _ _ (wnc (by decide) wn0) (f8551x.2 _ _ (wnc (by decide) wn0) (f8546x.2 _ _ (wnc (by decide) (wnc (by decide) wn0)) hSn)))))
            have e577x := (ff569x.2 _ _ (wnc (by decide) wn0) (f8564x.2 _ _ (wnc (by decide) wn0) (ff558x.2 _ _ (wnc (by decide) wn0) (f8551x.2 _ _ (wnc (by decide) wn0) (f8546x.2 _ _ (wnc (by decide) (wnc (by decide) wn0)) hSq)))))
            have e578x := (ff569x.2 _ _ (wnc (by decide) wn0) (f8564x.2 _ _ (wnc (by decide) wn0) (ff558x.2 _ _ (wnc (by decide) wn0) (f8551x.2 _ _ (wnc (by decide) wn0) (f8546x.2 _ _ (wnc (by decide) (wnc (by decide) wn0)) hWy)))))
            have e579x := (ff569x.2 _ _ (wnc (by decide) wn0) (f8564x.2 _ _ (wnc (by decide) wn0) (ff558x.2 _ _ (wnc (by decide) wn0) (f8551x.2 _ _ (wnc (by decide) wn0) c1546x))))
            have e580x := (ff569x.2 _ _ (wnc (by decide) wn0) (f8564x.2 _ _ (wnc (by decide) wn0) (ff558x.2 _ _ (wnc (by decide) wn0) (f8551x.2 _ _ (wnc (by decide) wn0) (f8546x.2 _ _ (wnc (by decide) (wnc (by decide) wn0)) hHd)))))
            have e581x := (ff569x.2 _ _ (wnc (by decide) wn0) (f8564x.2 _ _ (wnc (by decide) wn0) (ff558x.2 _ _ (wnc (by decide) wn0) (f8551x.2 _ _ (wnc (by decide) wn0) (f8546x.2 _ _ (wnc (by decide) (wnc (by decide) wn0)) hHs)))))
            have hx : (mLin tb sz at9 pl so va ft fp n14 ns nw kn lo hi sv rt sn sq wy it hl hs) = ((v552x.2.1), (v552x.2.2.1), (v565x.1), (v565x.2.1), (v565x.2.2.1), (v565x.2.2.2), (n14 + (1 : Int32)), (zset 0 kn 9 (v552x.1)), lo, hi, sv, rt, sn, sq, wy, (v547x.2.2.2.2.2.2), hl, hs) := by unfold mLin; rw [if_pos b1x, if_pos b3x, if_pos b6x, if_neg (fun q => q b9x), zlet_eq hv548x, zlet_eq hv553x, if_pos b561x, zlet_eq hv566x]
            rw [hx]
            exact wq_ret rfl rfl ⟨hh567x, rfl, (wFr_tr (wFr_sub f8546x (by simp)) (wFr_tr (wFr_sub f8551x (by simp)) (wFr_tr (wFr_sub ff558x (by simp)) (wFr_tr (wFr_sub f8564x (by simp)) (wFr_sub ff569x (by simp)))))), by omega, e568x, e571x, e572x, e573x, e574x, e575x, e576x, e577x, e578x, e579x, e580x, e581x, (by (try dsimp only); first | assumption | omega), (by (try dsimp only); first | assumption | omega), (by (try dsimp only); first | assumption | omega), (by (try dsimp only); first | assumption | omega), (by (try dsimp only); omega), (by (try dsimp only); intro q9; first | omega | exact ⟨ns, nw, hN, hL, hS, hR, hQ, hW⟩ | exact ⟨ns, nw, wNm_7 hN (by omega), hL, hS, hR, hQ, hW⟩ | exact ⟨ns, nw, wNm_8 hN (by omega), hL, hS, hR, hQ, hW⟩ | exact ⟨ns, nw, wNm_9 hN (by omega), hL, hS, hR, hQ, hW⟩ | exact ⟨ns, nw, wNm_10 hN (by omega), hL, hS, hR, hQ, hW⟩ | exact ⟨ns, nw, wNm_11 hN (by omega), hL, hS, hR, hQ, hW⟩ | exact ⟨ns, nw, hN, hX9 (by omega), hS, hR, hQ, hW⟩ | exact ⟨ns, nw, hN, hL, hX9, hR, hQ, hW⟩ | exact ⟨ns, nw, hN, hL, hS, hX9, hQ, hW⟩ | (obtain ⟨m9, a9, b9, c9⟩ := hX9 (by omega); exact ⟨m9, nw, b9, hL, hS, hR, c9, wW2_m hW a9⟩) | (obtain ⟨m9, b9, c9⟩ := hX9 (by omega); exact ⟨ns, m9, b9, hL, hS, hR, hQ, c9⟩)), (by (try dsimp only); exact ⟨by first | assumption | exact hz.1 | exact wFh_set hz.1 (by decide), by first | assumption | exact hz.2.1, by first | assumption | exact hz.2.2.1, by first | assumption | exact hz.2.2.2.1, by first | assumption | exact hz.2.2.2.2.1, by first | assumption | exact hz.2.2.2.2.2⟩)⟩
          · have q582x : (v552x.2.1).toInt = 0 := congrArg Int32.toInt b561x
            refine wq_gos (f := 1) (pc2 := 190) (ls2 := [(0, .ref 162)]) (st2 := [.ref 162]) (h2 := hh556x) (dc2 := 0) (ds2 := 0) 1 rfl ?_
            refine wq_getf rfl e560x rfl rfl ?_
            refine wq_gos (f := 1) (pc2 := 194) (ls2 := [(0, .ref 162)]) (st2 := [.int 4, .int (v552x.2.2.2.2.2.1)]) (h2 := hh556x) (dc2 := 0) (ds2 := 0) 1 rfl ?_
            have q583x : (4 : Int32).toInt = 4 := rfl
            refine wq_eq2 rfl rfl (fun b584x => ?_) (fun b584x => ?_)
            · have q585x : (v552x.2.2.2.2.2.1).toInt = 4 := congrArg Int32.toInt b584x
              refine wq_gos (f := 1) (pc2 := 203) (ls2 := [(0, .ref 162)]) (st2 := [.ref 162]) (h2 := hh556x) (dc2 := 0) (ds2 := 0) 1 rfl ?_
              have e586x := (ff558x.2 _ _ (wnc (by decide) wn0) (f8551x.2 _ _ (wnc (by decide) wn0) e549x))
              refine wq_inlv (y2 := 164) (as := []) rfl rfl rfl e560x rfl (wq_mono (m_go e560x e586x (by first | assumption | omega | decide | solve_by_elim) ⟨Nat.le_refl _, by omega⟩ (by first | assumption | omega | decide | solve_by_elim)) ?_)
              rintro _ ⟨h8587x, rfl, f8587x, l8587x, c0587x, p0587x, p1587x, p2587x, p3587x⟩
              show wq 180 206 [(0, .ref 162)] [] h8587x 0 0 _
              obtain ⟨v588x, hv589x⟩ : ∃ x, x = (mGo tb sz (v552x.2.2.2.1) (v552x.2.2.2.2.1) (v552x.2.2.2.2.2.1) (v552x.2.2.2.2.2.2) (v552x.2.1)) := ⟨_, rfl⟩
              try rw [← hv589x] at c0587x
              try rw [← hv589x] at p0587x
              try rw [← hv589x] at p1587x
              try rw [← hv589x] at p2587x
              try rw [← hv589x] at p3587x
              try rw [← hv589x]
              refine wq_gos (f := 1) (pc2 := 208) (ls2 := [(0, .ref 162)]) (st2 := [.ref 162, .ref 162]) (h2 := h8587x) (dc2 := 0) (ds2 := 0) 2 rfl ?_
              refine wq_getf rfl c0587x rfl rfl ?_
              refine wq_gos (f := 1) (pc2 := 213) (ls2 := [(0, .ref 162)]) (st2 := [.int (n14 + (1 : Int32)), .ref 162]) (h2 := h8587x) (dc2 := 0) (ds2 := 0) 2 rfl ?_
              refine wq_putf rfl c0587x rfl rfl rfl ?_
              intro hh590x e591x ff592x lh593x
              have e591x : zat hh590x 162 = some (.inr (.inr (.inr (10, mO n0 n2 (n14 + (1 : Int32)) (nI sz) (nI (v588x.1)) (nI (v588x.2.1)) (v588x.2.2.1) (v588x.2.2.2) (v552x.2.1) (v552x.2.2.1) n22 n23 n27 n28 n32 n33 n34 n35 n39 n52)))) := e591x
              have e594x := (ff592x.2 _ _ (wnc (by decide) wn0) (f8587x.2 _ _ (wnc (by decide) wn0) e557x))
              have e595x := (ff592x.2 _ _ (wnc (by decide) wn0) (f8587x.2 _ _ (wnc (by decide) wn0) (ff558x.2 _ _ (wnc (by decide) wn0) (f8551x.2 _ _ (wnc (by decide) wn0) (f8546x.2 _ _ (wnc (by decide) (wnc (by decide) wn0)) hLo)))))
              have e596x := (ff592x.2 _ _ (wnc (by decide) wn0) (f8587x.2 _ _ (wnc (by decide) wn0) (ff558x.2 _ _ (wnc (by decide) wn0) (f8551x.2 _ _ (wnc (by decide) wn0) (f8546x.2 _ _ (wnc (by decide) (wnc (by decide) wn0)) hHi)))))
              have e597x := (ff592x.2 _ _ (wnc (by decide) wn0) (f8587x.2 _ _ (wnc (by decide) wn0) (ff558x.2 _ _ (wnc (by decide) wn0) (f8551x.2 _ _ (wnc (by decide) wn0) (f8546x.2 _ _ (wnc (by decide) (wnc (by decide) wn0)) hSv)))))
              have e598x := (ff592x.2 _ _ (wnc (by decide) wn0) (f8587x.2 _ _ (wnc (by decide) wn0) (ff558x.2 _ _ (wnc (by decide) wn0) (f8551x.2 _ _ (wnc (by decide) wn0) (f8546x.2 _ _ (wnc (by decide) (wnc (by decide) wn0)) hRt)))))
              have e599x := (ff592x.2 _ _ (wnc (by decide) wn0) (f8587x.2 _ _ (wnc (by decide) wn0) (ff558x.2 _ _ (wnc (by decide) wn0) (f8551x.2 _ _ (wnc (by decide) wn0) (f8546x.2 _ _ (wnc (by decide) (wnc (by decide) wn0)) hSn)))))
              have e600x := (ff592x.2 _ _ (wnc (by decide) wn0) (f8587x.2 _ _ (wnc (by decide) wn0) (ff558x.2 _ _ (wnc (by decide) wn0) (f8551x.2 _ _ (wnc (by decide) wn0) (f8546x.2 _ _ (wnc (by decide) (wnc (by decide) wn0)) hSq)))))
              have e601x := (ff592x.2 _ _ (wnc (by decide) wn0) (f8587x.2 _ _ (wnc (by decide) wn0) (ff558x.2 _ _ (wnc (by decide) wn0) (f8551x.2 _ _ (wnc (by decide) wn0) (f8546x.2 _ _ (wnc (by decide) (wnc (by decide) wn0)) hWy)))))
              have e602x := (ff592x.2 _ _ (wnc (by decide) wn0) (f8587x.2 _ _ (wnc (by decide) wn0) (ff558x.2 _ _ (wnc (by decide) wn0) (f8551x.2 _ _ (wnc (by decide) wn0) c1546x))))
              have e603x := (ff592x.2 _ _ (wnc (by decide) wn0) (f8587x.2 _ _ (wnc (by decide) wn0) (ff558x.2 _ _ (wnc (by decide) wn0) (f8551x.2 _ _ (wnc (by decide) wn0) (f8546x.2 _ _ (wnc (by decide) (wnc (by decide) wn0)) hHd)))))
              have e604x := (ff592x.2 _ _ (wnc (by decide) wn0) (f8587x.2 _ _ (wnc (by decide) wn0) (ff558x.2 _ _ (wnc (by decide) wn0) (f8551x.2 _ _ (wnc (by decide) wn0) (f8546x.2 _ _ (wnc (by decide) (wnc (by decide) wn0)) hHs)))))
              have hx : (mLin tb sz at9 pl so va ft fp n14 ns nw kn lo hi sv rt sn sq wy it hl hs) = ((v552x.2.1), (v552x.2.2.1), (v588x.1), (v588x.2.1), (v588x.2.2.1), (v588x.2.2.2), (n14 + (1 : Int32)), (zset 0 kn 9 (v552x.1)), lo, hi, sv, rt, sn, sq, wy, (v547x.2.2.2.2.2.2), hl, hs) := by unfold mLin; rw [if_pos b1x, if_pos b3x, if_pos b6x, if_neg (fun q => q b9x), zlet_eq hv548x, zlet_eq hv553x, if_neg (fun q => q b561x), if_pos b584x, zlet_eq hv589x]
              rw [hx]
              exact wq_ret rfl rfl ⟨hh590x, rfl, (wFr_tr (wFr_sub f8546x (by simp)) (wFr_tr (wFr_sub f8551x (by simp)) (wFr_tr (wFr_sub ff558x (by simp)) (wFr_tr (wFr_sub f8587x (by simp)) (wFr_sub ff592x (by simp)))))), by omega, e591x, e594x, e595x, e596x, e597x, e598x, e599x, e600x, e601x, e602x, e603x, e604x, (by (try dsimp only); first | assumption | omega), (by (try dsimp only); first | assumption | omega), (by (try dsimp only); first | assumption | omega), (by (try dsimp only); first | assumption | omega), (by (try dsimp only); omega), (by (try dsimp only); intro q9; first | omega | exact ⟨ns, nw, hN, hL, hS, hR, hQ, hW⟩ | exact ⟨ns, nw, wNm_7 hN (by omega), hL, hS, hR, hQ, hW⟩ | exact ⟨ns, nw, wNm_8 hN (by omega), hL, hS, hR, hQ, hW⟩ | exact ⟨ns, nw, wNm_9 hN (by omega), hL, hS, hR, hQ, hW⟩ | exact ⟨ns, nw, wNm_10 hN (by omega), hL, hS, hR, hQ, hW⟩ | exact ⟨ns, nw, wNm_11 hN (by omega), hL, hS, hR, hQ, hW⟩ | exact ⟨ns, nw, hN, hX9 (by omega), hS, hR, hQ, hW⟩ | exact ⟨ns, nw, hN, hL, hX9, hR, hQ, hW⟩ | exact ⟨ns, nw, hN, hL, hS, hX9, hQ, hW⟩ | (obtain ⟨m9, a9, b9, c9⟩ := hX9 (by omega); exact ⟨m9, nw, b9, hL, hS, hR, c9, wW2_m hW a9⟩) | (obtain ⟨m9, b9, c9⟩ := hX9 (by omega); exact ⟨ns, m9, b9, hL, hS, hR, hQ, c9⟩)), (by (try dsimp only); exact ⟨by first | assumption | exact hz.1 | exact wFh_set hz.1 (by decide), by first | assumption | exact hz.2.1, by first | assumption | exact hz.2.2.1, by first | assumption | exact hz.2.2.2.1, by first | assumption | exact hz.2.2.2.2.1, by first | assumption | exact hz.2.2.2.2.2⟩)⟩
            · have q605x : (v552x.2.2.2.2.2.1).toInt ≠ 4 := fun q => b584x (Int32.toInt_inj.mp q)
              refine wq_gos (f := 1) (pc2 := 199) (ls2 := [(0, .ref 162)]) (st2 := [.int 1, .ref 162]) (h2 := hh556x) (dc2 := 0) (ds2 := 0) 2 rfl ?_
              refine wq_inlv (y2 := 163) (as := [.int 1]) rfl rfl rfl e560x rfl (wq_mono (m_wro e560x (by first | assumption | omega | decide | solve_by_elim) (by first | assumption | omega | decide | solve_by_elim)) ?_)
              rintro _ ⟨h8606x, rfl, f8606x, l8606x, c0606x, p0606x⟩
              show wq 180 202 [(0, .ref 162)] [] h8606x 0 0 _
              obtain ⟨v607x, hv608x⟩ : ∃ x, x = (mWro (v552x.2.2.2.2.1) (v552x.2.1) (v552x.2.2.1) (1 : Int32)) := ⟨_, rfl⟩
              try rw [← hv608x] at c0606x
              try rw [← hv608x] at p0606x
              try rw [← hv608x]
              refine wq_gos (f := 1) (pc2 := 203) (ls2 := [(0, .ref 162)]) (st2 := [.ref 162]) (h2 := h8606x) (dc2 := 0) (ds2 := 0) 1 rfl ?_
              have e609x := (f8606x.2 _ _ (wnc (by decide) wn0) (ff558x.2 _ _ (wnc (by decide) wn0) (f8551x.2 _ _ (wnc (by decide) wn0) e549x)))
              refine wq_inlv (y2 := 164) (as := []) rfl rfl rfl c0606x rfl (wq_mono (m_go c0606x e609x (by first | assumption | omega | decide | solve_by_elim) ⟨Nat.le_refl _, by omega⟩ (by first | assumption | omega | decide | solve_by_elim)) ?_)
              rintro _ ⟨h8610x, rfl, f8610x, l8610x, c0610x, p0610x, p1610x, p2610x, p3610x⟩
              show wq 180 206 [(0, .ref 162)] [] h8610x 0 0 _
              obtain ⟨v611x, hv612x⟩ : ∃ x, x = (mGo tb sz (v552x.2.2.2.1) (v552x.2.2.2.2.1) (v552x.2.2.2.2.2.1) (v552x.2.2.2.2.2.2) (v607x.1)) := ⟨_, rfl⟩
              try rw [← hv612x] at c0610x
              try rw [← hv612x] at p0610x
              try rw [← hv612x] at p1610x
              try rw [← hv612x] at p2610x
              try rw [← hv612x] at p3610x
              try rw [← hv612x]
              refine wq_gos (f := 1) (pc2 := 208) (ls2 := [(0, .ref 162)]) (st2 := [.ref 162, .ref 162]) (h2 := h8610x) (dc2 := 0) (ds2 := 0) 2 rfl ?_
              refine wq_getf rfl c0610x rfl rfl ?_
              refine wq_gos (f := 1) (pc2 := 213) (ls2 := [(0, .ref 162)]) (st2 := [.int (n14 + (1 : Int32)), .ref 162]) (h2 := h8610x) (dc2 := 0) (ds2 := 0) 2 rfl ?_
              refine wq_putf rfl c0610x rfl rfl rfl ?_
              intro hh613x e614x ff615x lh616x
              have e614x : zat hh613x 162 = some (.inr (.inr (.inr (10, mO n0 n2 (n14 + (1 : Int32)) (nI sz) (nI (v611x.1)) (nI (v611x.2.1)) (v611x.2.2.1) (v611x.2.2.2) (v607x.1) (v607x.2) n22 n23 n27 n28 n32 n33 n34 n35 n39 n52)))) := e614x
              have e617x := (ff615x.2 _ _ (wnc (by decide) wn0) (f8610x.2 _ _ (wnc (by decide) wn0) (f8606x.2 _ _ (wnc (by decide) wn0) e557x)))
              have e618x := (ff615x.2 _ _ (wnc (by decide) wn0) (f8610x.2 _ _ (wnc (by decide) wn0) (f8606x.2 _ _ (wnc (by decide) wn0) (ff558x.2 _ _ (wnc (by decide) wn0) (f8551x.2 _ _ (wnc (by decide) wn0) (f8546x.2 _ _ (wnc (by decide) (wnc (by decide) wn0)) hLo))))))
              have e619x := (ff615x.2 _ _ (wnc (by decide) wn0) (f8610x.2 _ _ (wnc (by decide) wn0) (f8606x.2 _ _ (wnc (by decide) wn0) (ff558x.2 _ _ (wnc (by decide) wn0) (f8551x.2 _ _ (wnc (by decide) wn0) (f8546x.2 _ _ (wnc (by decide) (wnc (by decide) wn0)) hHi))))))
              have e620x := (ff615x.2 _ _ (wnc (by decide) wn0) (f8610x.2 _ _ (wnc (by decide) wn0) (f8606x.2 _ _ (wnc (by decide) wn0) (ff558x.2 _ _ (wnc (by decide) wn0) (f8551x.2 _ _ (wnc (by decide) wn0) (f8546x.2 _ _ (wnc (by decide) (wnc (by decide) wn0)) hSv))))))
              have e621x := (ff615x.2 _ _ (wnc (by decide) wn0) (f8610x.2 _ _ (wnc (by decide) wn0) (f8606x.2 _ _ (wnc (by decide) wn0) (ff558x.2 _ _ (wnc (by decide) wn0) (f8551x.2 _ _ (wnc (by decide) wn0) (f8546x.2 _ _ (wnc (by decide) (wnc (by decide) wn0)) hRt))))))
              have e622x := (ff615x.2 _ _ (wnc (by decide) wn0) (f8610x.2 _ _ (wnc (by decide) wn0) (f8606x.2 _ _ (wnc (by decide) wn0) (ff558x.2 _ _ (wnc (by decide) wn0) (f8551x.2 _ _ (wnc (by decide) wn0) (f8546x.2 _ _ (wnc (by decide) (wnc (by decide) wn0)) hSn))))))
              have e623x := (ff615x.2 _ _ (wnc (by decide) wn0) (f8610x.2 _ _ (wnc (by decide) wn0) (f8606x.2 _ _ (wnc (by decide) wn0) (ff558x.2 _ _ (wnc (by decide) wn0) (f8551x.2 _ _ (wnc (by decide) wn0) (f8546x.2 _ _ (wnc (by decide) (wnc (by decide) wn0)) hSq))))))
              have e624x := (ff615x.2 _ _ (wnc (by decide) wn0) (f8610x.2 _ _ (wnc (by decide) wn0) (f8606x.2 _ _ (wnc (by decide) wn0) (ff558x.2 _ _ (wnc (by decide) wn0) (f8551x.2 _ _ (wnc (by decide) wn0) (f8546x.2 _ _ (wnc (by decide) (wnc (by decide) wn0)) hWy))))))
              have e625x := (ff615x.2 _ _ (wnc (by decide) wn0) (f8610x.2 _ _ (wnc (by decide) wn0) (f8606x.2 _ _ (wnc (by decide) wn0) (ff558x.2 _ _ (wnc (by decide) wn0) (f8551x.2 _ _ (wnc (by decide) wn0) c1546x)))))
              have e626x := (ff615x.2 _ _ (wnc (by decide) wn0) (f8610x.2 _ _ (wnc (by decide) wn0) (f8606x.2 _ _ (wnc (by decide) wn0) (ff558x.2 _ _ (wnc (by decide) wn0) (f8551x.2 _ _ (wnc (by decide) wn0) (f8546x.2 _ _ (wnc (by decide) (wnc (by decide) wn0)) hHd))))))
              have e627x := (ff615x.2 _ _ (wnc (by decide) wn0) (f8610x.2 _ _ (wnc (by decide) wn0) (f8606x.2 _ _ (wnc (by decide) wn0) (ff558x.2 _ _ (wnc (by decide) wn0) (f8551x.2 _ _ (wnc (by decide) wn0) (f8546x.2 _ _ (wnc (by decide) (wnc (by decide) wn0)) hHs))))))
              have hx : (mLin tb sz at9 pl so va ft fp n14 ns nw kn lo hi sv rt sn sq wy it hl hs) = ((v607x.1), (v607x.2), (v611x.1), (v611x.2.1), (v611x.2.2.1), (v611x.2.2.2), (n14 + (1 : Int32)), (zset 0 kn 9 (v552x.1)), lo, hi, sv, rt, sn, sq, wy, (v547x.2.2.2.2.2.2), hl, hs) := by unfold mLin; rw [if_pos b1x, if_pos b3x, if_pos b6x, if_neg (fun q => q b9x), zlet_eq hv548x, zlet_eq hv553x, if_neg (fun q => q b561x), if_neg b584x, zlet_eq hv608x, zlet_eq hv612x]
              rw [hx]
              exact wq_ret rfl rfl ⟨hh613x, rfl, (wFr_tr (wFr_sub f8546x (by simp)) (wFr_tr (wFr_sub f8551x (by simp)) (wFr_tr (wFr_sub ff558x (by simp)) (wFr_tr (wFr_sub f8606x (by simp)) (wFr_tr (wFr_sub f8610x (by simp)) (wFr_sub ff615x (by simp))))))), by omega, e614x, e617x, e618x, e619x, e620x, e621x, e622x, e623x, e624x, e625x, e626x, e627x, (by (try dsimp only); first | assumption | omega), (by (try dsimp only); first | assumption | omega), (by (try dsimp only); first | assumption | omega), (by (try dsimp only); first | assumption | omega), (by (try dsimp only); omega), (by (try dsimp only); intro q9; first | omega | exact ⟨ns, nw, hN, hL, hS, hR, hQ, hW⟩ | exact ⟨ns, nw, wNm_7 hN (by omega), hL, hS, hR, hQ, hW⟩ | exact ⟨ns, nw, wNm_8 hN (by omega), hL, hS, hR, hQ, hW⟩ | exact ⟨ns, nw, wNm_9 hN (by omega), hL, hS, hR, hQ, hW⟩ | exact ⟨ns, nw, wNm_10 hN (by omega), hL, hS, hR, hQ, hW⟩ | exact ⟨ns, nw, wNm_11 hN (by omega), hL, hS, hR, hQ, hW⟩ | exact ⟨ns, nw, hN, hX9 (by omega), hS, hR, hQ, hW⟩ | exact ⟨ns, nw, hN, hL, hX9, hR, hQ, hW⟩ | exact ⟨ns, nw, hN, hL, hS, hX9, hQ, hW⟩ | (obtain ⟨m9, a9, b9, c9⟩ := hX9 (by omega); exact ⟨m9, nw, b9, hL, hS, hR, c9, wW2_m hW a9⟩) | (obtain ⟨m9, b9, c9⟩ := hX9 (by omega); exact ⟨ns, m9, b9, hL, hS, hR, hQ, c9⟩)), (by (try dsimp only); exact ⟨by first | assumption | exact hz.1 | exact wFh_set hz.1 (by decide), by first | assumption | exact hz.2.1, by first | assumption | exact hz.2.2.1, by first | assumption | exact hz.2.2.2.1, by first | assumption | exact hz.2.2.2.2.1, by first | assumption | exact hz.2.2.2.2.2⟩)⟩
      · have q628x : va.toInt = 1 := congrArg Int32.toInt b6x
        refine wq_gos (f := 1) (pc2 := 48) (ls2 := [(0, .ref 162)]) (st2 := [.int 99, .int 1, .int 1, .int 1, .ref 162]) (h2 := h) (dc2 := 0) (ds2 := 0) 5 rfl ?_
        refine wq_inlv (y2 := 179) (as := [.int 1, .int 1, .int 1, .int 99]) rfl rfl rfl hM rfl ?_
        show wq 179 0 [(0, .ref 162), (1, .int 1), (2, .int 1), (3, .int 1), (4, .int 99)] [] h 0 0 _
        refine wq_gos (f := 1) (pc2 := 2) (ls2 := [(0, .ref 162), (1, .int 1), (2, .int 1), (3, .int 1), (4, .int 99)]) (st2 := [.int 1, .ref 162]) (h2 := h) (dc2 := 0) (ds2 := 0) 2 rfl ?_
        refine wq_inlv (y2 := 171) (as := [.int 1]) rfl rfl rfl hM rfl (wq_mono (m_onc (w := 1) hM hT hIt (by first | assumption | omega | decide | solve_by_elim) ⟨Nat.le_refl _, by omega⟩ (by first | assumption | omega | decide | solve_by_elim) (by first | assumption | omega | decide | solve_by_elim) (by first | assumption | omega | decide | solve_by_elim)) ?_)
        rintro _ ⟨h8629x, rfl, f8629x, l8629x, c0629x, c1629x, p0629x, p1629x, p2629x, p3629x, p4629x⟩
        show wq 179 5 [(0, .ref 162), (1, .int 1), (2, .int 1), (3, .int 1), (4, .int 99)] [] h8629x 0 0 _
        obtain ⟨v630x, hv631x⟩ : ∃ x, x = (mOnc tb sz at9 pl so va ft fp 1 it) := ⟨_, rfl⟩
        try rw [← hv631x] at c0629x
        try rw [← hv631x] at c1629x
        try rw [← hv631x] at p0629x
        try rw [← hv631x] at p1629x
        try rw [← hv631x] at p2629x
        try rw [← hv631x] at p3629x
        try rw [← hv631x] at p4629x
        try rw [← hv631x]
        refine wq_gos (f := 1) (pc2 := 11) (ls2 := [(0, .ref 162), (1, .int 1), (2, .int 1), (3, .int 1), (4, .int 99)]) (st2 := [.int 99, .int 1, .ref 162, .int 1, .ref 162]) (h2 := h8629x) (dc2 := 0) (ds2 := 0) 5 rfl ?_
        have e632x := (f8629x.2 _ _ (wnc (by decide) (wnc (by decide) wn0)) hT)
        have q633x : (99 : Int32).toInt = 99 := rfl
        refine wq_inlv (y2 := 166) (as := [.int 1, .int 99]) rfl rfl rfl c0629x rfl (wq_mono (m_nml c0629x e632x (by first | assumption | omega | decide | solve_by_elim) ⟨Nat.le_refl _, by omega⟩ (by first | assumption | omega | decide | solve_by_elim) (by first | assumption | omega | decide | solve_by_elim)) ?_)
        rintro _ ⟨h8634x, rfl, f8634x, l8634x, c0634x, p0634x, p1634x, p2634x, p3634x, p4634x, p5634x⟩
        show wq 179 14 [(0, .ref 162), (1, .int 1), (2, .int 1), (3, .int 1), (4, .int 99)] [.int ((mNml tb sz (v630x.2.2.1) (v630x.2.2.2.1) (v630x.2.2.2.2.1) (v630x.2.2.2.2.2.1) (v630x.1) (v630x.2.1) (1 : Int32) (99 : Int32)).1), .int 1, .ref 162] h8634x 0 0 _
        obtain ⟨v635x, hv636x⟩ : ∃ x, x = (mNml tb sz (v630x.2.2.1) (v630x.2.2.2.1) (v630x.2.2.2.2.1) (v630x.2.2.2.2.2.1) (v630x.1) (v630x.2.1) (1 : Int32) (99 : Int32)) := ⟨_, rfl⟩
        try rw [← hv636x] at c0634x
        try rw [← hv636x] at p0634x
        try rw [← hv636x] at p1634x
        try rw [← hv636x] at p2634x
        try rw [← hv636x] at p3634x
        try rw [← hv636x] at p4634x
        try rw [← hv636x] at p5634x
        try rw [← hv636x]
        refine wq_inlv (y2 := 170) (as := [.int 1, .int (v635x.1)]) rfl rfl rfl c0634x rfl ?_
        show wq 170 0 [(0, .ref 162), (1, .int 1), (2, .int (v635x.1))] [] h8634x 0 0 _
        refine wq_gos (f := 1) (pc2 := 1) (ls2 := [(0, .ref 162), (1, .int 1), (2, .int (v635x.1))]) (st2 := [.ref 162]) (h2 := h8634x) (dc2 := 0) (ds2 := 0) 1 rfl ?_
        refine wq_getf rfl c0634x rfl rfl ?_
        refine wq_gos (f := 1) (pc2 := 9) (ls2 := [(0, .ref 162), (1, .int 1), (2, .int (v635x.1))]) (st2 := [.int (v635x.1), .int 8, .ref 166]) (h2 := h8634x) (dc2 := 0) (ds2 := 0) 4 rfl ?_
        have e637x := (f8634x.2 _ _ (wnc (by decide) wn0) (f8629x.2 _ _ (wnc (by decide) (wnc (by decide) wn0)) hKn))
        have q638x : (8 : Int32).toInt = 8 := rfl
        refine wq_iast rfl e637x rfl rfl ?_
        intro hh639x e640x ff641x lh642x
        have e640x : zat hh639x 166 = some (.inl (0, 14, (zset 0 kn 8 (v635x.1)))) := e640x
        refine wq_ret rfl rfl ?_
        show wq 179 17 [(0, .ref 162), (1, .int 1), (2, .int 1), (3, .int 1), (4, .int 99)] [] hh639x 0 0 _
        refine wq_ret rfl rfl ?_
        show wq 180 51 [(0, .ref 162)] [] hh639x 0 0 _
        refine wq_gos (f := 1) (pc2 := 183) (ls2 := [(0, .ref 162)]) (st2 := [.ref 162]) (h2 := hh639x) (dc2 := 0) (ds2 := 0) 2 rfl ?_
        have e643x := (ff641x.2 _ _ (wnc (by decide) wn0) c0634x)
        refine wq_getf rfl e643x rfl rfl ?_
        refine wq_ne0 rfl rfl (fun b644x => ?_) (fun b644x => ?_)
        · have q645x : (v635x.2.1).toInt ≠ 0 := fun q => b644x (Int32.toInt_inj.mp q)
          refine wq_gos (f := 1) (pc2 := 203) (ls2 := [(0, .ref 162)]) (st2 := [.ref 162]) (h2 := hh639x) (dc2 := 0) (ds2 := 0) 1 rfl ?_
          have e646x := (ff641x.2 _ _ (wnc (by decide) wn0) (f8634x.2 _ _ (wnc (by decide) wn0) e632x))
          refine wq_inlv (y2 := 164) (as := []) rfl rfl rfl e643x rfl (wq_mono (m_go e643x e646x (by first | assumption | omega | decide | solve_by_elim) ⟨Nat.le_refl _, by omega⟩ (by first | assumption | omega | decide | solve_by_elim)) ?_)
          rintro _ ⟨h8647x, rfl, f8647x, l8647x, c0647x, p0647x, p1647x, p2647x, p3647x⟩
          show wq 180 206 [(0, .ref 162)] [] h8647x 0 0 _
          obtain ⟨v648x, hv649x⟩ : ∃ x, x = (mGo tb sz (v635x.2.2.2.1) (v635x.2.2.2.2.1) (v635x.2.2.2.2.2.1) (v635x.2.2.2.2.2.2) (v635x.2.1)) := ⟨_, rfl⟩
          try rw [← hv649x] at c0647x
          try rw [← hv649x] at p0647x
          try rw [← hv649x] at p1647x
          try rw [← hv649x] at p2647x
          try rw [← hv649x] at p3647x
          try rw [← hv649x]
          refine wq_gos (f := 1) (pc2 := 208) (ls2 := [(0, .ref 162)]) (st2 := [.ref 162, .ref 162]) (h2 := h8647x) (dc2 := 0) (ds2 := 0) 2 rfl ?_
          refine wq_getf rfl c0647x rfl rfl ?_
          refine wq_gos (f := 1) (pc2 := 213) (ls2 := [(0, .ref 162)]) (st2 := [.int (n14 + (1 : Int32)), .ref 162]) (h2 := h8647x) (dc2 := 0) (ds2 := 0) 2 rfl ?_
          refine wq_putf rfl c0647x rfl rfl rfl ?_
          intro hh650x e651x ff652x lh653x
          have e651x : zat hh650x 162 = some (.inr (.inr (.inr (10, mO n0 n2 (n14 + (1 : Int32)) (nI sz) (nI (v648x.1)) (nI (v648x.2.1)) (v648x.2.2.1) (v648x.2.2.2) (v635x.2.1) (v635x.2.2.1) n22 n23 n27 n28 n32 n33 n34 n35 n39 n52)))) := e651x
          have e654x := (ff652x.2 _ _ (wnc (by decide) wn0) (f8647x.2 _ _ (wnc (by decide) wn0) e640x))
          have e655x := (ff652x.2 _ _ (wnc (by decide) wn0) (f8647x.2 _ _ (wnc (by decide) wn0) (ff641x.2 _ _ (wnc (by decide) wn0) (f8634x.2 _ _ (wnc (by decide) wn0) (f8629x.2 _ _ (wnc (by decide) (wnc (by decide) wn0)) hLo)))))
          have e656x := (ff652x.2 _ _ (wnc (by decide) wn0) (f8647x.2 _ _ (wnc (by decide) wn0) (ff641x.2 _ _ (wnc (by decide) wn0) (f8634x.2 _ _ (wnc (by decide) wn0) (f8629x.2 _ _ (wnc (by decide) (wnc (by decide) wn0)) hHi)))))
          have e657x := (ff652x.2 _ _ (wnc (by decide) wn0) (f8647x.2 _ _ (wnc (by decide) wn0) (ff641x.2 _ _ (wnc (by decide) wn0) (f8634x.2 _ _ (wnc (by decide) wn0) (f8629x.2 _ _ (wnc (by decide) (wnc (by decide) wn0)) hSv)))))
          have e658x := (ff652x.2 _ _ (wnc (by decide) wn0) (f8647x.2 _ _ (wnc (by decide) wn0) (ff641x.2 _ _ (wnc (by decide) wn0) (f8634x.2 _ _ (wnc (by decide) wn0) (f8629x.2 _ _ (wnc (by decide) (wnc (by decide) wn0)) hRt)))))
          have e659x := (ff652x.2 _ _ (wnc (by decide) wn0) (f8647x.2 _ _ (wnc (by decide) wn0) (ff641x.2 _ _ (wnc (by decide) wn0) (f8634x.2 _ _ (wnc (by decide) wn0) (f8629x.2 _ _ (wnc (by decide) (wnc (by decide) wn0)) hSn)))))
          have e660x := (ff652x.2 _ _ (wnc (by decide) wn0) (f8647x.2 _ _ (wnc (by decide) wn0) (ff641x.2 _ _ (wnc (by decide) wn0) (f8634x.2 _ _ (wnc (by decide) wn0) (f8629x.2 _ _ (wnc (by decide) (wnc (by decide) wn0)) hSq)))))
          have e661x := (ff652x.2 _ _ (wnc (by decide) wn0) (f8647x.2 _ _ (wnc (by decide) wn0) (ff641x.2 _ _ (wnc (by decide) wn0) (f8634x.2 _ _ (wnc (by decide) wn0) (f8629x.2 _ _ (wnc (by decide) (wnc (by decide) wn0)) hWy)))))
          have e662x := (ff652x.2 _ _ (wnc (by decide) wn0) (f8647x.2 _ _ (wnc (by decide) wn0) (ff641x.2 _ _ (wnc (by decide) wn0) (f8634x.2 _ _ (wnc (by decide) wn0) c1629x))))
          have e663x := (ff652x.2 _ _ (wnc (by decide) wn0) (f8647x.2 _ _ (wnc (by decide) wn0) (ff641x.2 _ _ (wnc (by decide) wn0) (f8634x.2 _ _ (wnc (by decide) wn0) (f8629x.2 _ _ (wnc (by decide) (wnc (by decide) wn0)) hHd)))))
          have e664x := (ff652x.2 _ _ (wnc (by decide) wn0) (f8647x.2 _ _ (wnc (by decide) wn0) (ff641x.2 _ _ (wnc (by decide) wn0) (f8634x.2 _ _ (wnc (by decide) wn0) (f8629x.2 _ _ (wnc (by decide) (wnc (by decide) wn0)) hHs)))))
          have hx : (mLin tb sz at9 pl so va ft fp n14 ns nw kn lo hi sv rt sn sq wy it hl hs) = ((v635x.2.1), (v635x.2.2.1), (v648x.1), (v648x.2.1), (v648x.2.2.1), (v648x.2.2.2), (n14 + (1 : Int32)), (zset 0 kn 8 (v635x.1)), lo, hi, sv, rt, sn, sq, wy, (v630x.2.2.2.2.2.2), hl, hs) := by unfold mLin; rw [if_pos b1x, if_pos b3x, if_neg (fun q => q b6x), zlet_eq hv631x, zlet_eq hv636x, if_pos b644x, zlet_eq hv649x]
          rw [hx]
          exact wq_ret rfl rfl ⟨hh650x, rfl, (wFr_tr (wFr_sub f8629x (by simp)) (wFr_tr (wFr_sub f8634x (by simp)) (wFr_tr (wFr_sub ff641x (by simp)) (wFr_tr (wFr_sub f8647x (by simp)) (wFr_sub ff652x (by simp)))))), by omega, e651x, e654x, e655x, e656x, e657x, e658x, e659x, e660x, e661x, e662x, e663x, e664x, (by (try dsimp only); first | assumption | omega), (by (try dsimp only); first | assumption | omega), (by (try dsimp only); first | assumption | omega), (by (try dsimp only); first | assumption | omega), (by (try dsimp only); omega), (by (try dsimp only); intro q9; first | omega | exact ⟨ns, nw, hN, hL, hS, hR, hQ, hW⟩ | exact ⟨ns, nw, wNm_7 hN (by omega), hL, hS, hR, hQ, hW⟩ | exact ⟨ns, nw, wNm_8 hN (by omega), hL, hS, hR, hQ, hW⟩ | exact ⟨ns, nw, wNm_9 hN (by omega), hL, hS, hR, hQ, hW⟩ | exact ⟨ns, nw, wNm_10 hN (by omega), hL, hS, hR, hQ, hW⟩ | exact ⟨ns, nw, wNm_11 hN (by omega), hL, hS, hR, hQ, hW⟩ | exact ⟨ns, nw, hN, hX9 (by omega), hS, hR, hQ, hW⟩ | exact ⟨ns, nw, hN, hL, hX9, hR, hQ, hW⟩ | exact ⟨ns, nw, hN, hL, hS, hX9, hQ, hW⟩ | (obtain ⟨m9, a9, b9, c9⟩ := hX9 (by omega); exact ⟨m9, nw, b9, hL, hS, hR, c9, wW2_m hW a9⟩) | (obtain ⟨m9, b9, c9⟩ := hX9 (by omega); exact ⟨ns, m9, b9, hL, hS, hR, hQ, c9⟩)), (by (try dsimp only); exact ⟨by first | assumption | exact hz.1 | exact wFh_set hz.1 (by decide), by first | assumption | exact hz.2.1, by first | assumption | exact hz.2.2.1, by first | assumption | exact hz.2.2.2.1, by first | assumption | exact hz.2.2.2.2.1, by first | assumption | exact hz.2.2.2.2.2⟩)⟩
        · have q665x : (v635x.2.1).toInt = 0 := congrArg Int32.toInt b644x
          refine wq_gos (f := 1) (pc2 := 190) (ls2 := [(0, .ref 162)]) (st2 := [.ref 162]) (h2 := hh639x) (dc2 := 0) (ds2 := 0) 1 rfl ?_
          refine wq_getf rfl e643x rfl rfl ?_
          refine wq_gos (f := 1) (pc2 := 194) (ls2 := [(0, .ref 162)]) (st2 := [.int 4, .int (v635x.2.2.2.2.2.1)]) (h2 := hh639x) (dc2 := 0) (ds2 := 0) 1 rfl ?_
          have q666x : (4 : Int32).toInt = 4 := rfl
          refine wq_eq2 rfl rfl (fun b667x => ?_) (fun b667x => ?_)
          · have q668x : (v635x.2.2.2.2.2.1).toInt = 4 := congrArg Int32.toInt b667x
            refine wq_gos (f := 1) (pc2 := 203) (ls2 := [(0, .ref 162)]) (st2 := [.ref 162]) (h2 := hh639x) (dc2 := 0) (ds2 := 0) 1 rfl ?_
            have e669x := (ff641x.2 _ _ (wnc (by decide) wn0) (f8634x.2 _ _ (wnc (by decide) wn0) e632x))
            refine wq_inlv (y2 := 164) (as := []) rfl rfl rfl e643x rfl (wq_mono (m_go e643x e669x (by first | assumption | omega | decide | solve_by_elim) ⟨Nat.le_refl _, by omega⟩ (by first | assumption | omega | decide | solve_by_elim)) ?_)
            rintro _ ⟨h8670x, rfl, f8670x, l8670x, c0670x, p0670x, p1670x, p2670x, p3670x⟩
            show wq 180 206 [(0, .ref 162)] [] h8670x 0 0 _
            obtain ⟨v671x, hv672x⟩ : ∃ x, x = (mGo tb sz (v635x.2.2.2.1) (v635x.2.2.2.2.1) (v635x.2.2.2.2.2.1) (v635x.2.2.2.2.2.2) (v635x.2.1)) := ⟨_, rfl⟩
            try rw [← hv672x] at c0670x
            try rw [← hv672x] at p0670x
            try rw [← hv672x] at p1670x
            try rw [← hv672x] at p2670x
            try rw [← hv672x] at p3670x
            try rw [← hv672x]
            refine wq_gos (f := 1) (pc2 := 208) (ls2 := [(0, .ref 162)]) (st2 := [.ref 162, .ref 162]) (h2 := h8670x) (dc2 := 0) (ds2 := 0) 2 rfl ?_
            refine wq_getf rfl c0670x rfl rfl ?_
            refine wq_gos (f := 1) (pc2 := 213) (ls2 := [(0, .ref 162)]) (st2 := [.int (n14 + (1 : Int32)), .ref 162]) (h2 := h8670x) (dc2 := 0) (ds2 := 0) 2 rfl ?_
            refine wq_putf rfl c0670x rfl rfl rfl ?_
            intro hh673x e674x ff675x lh676x
            have e674x : zat hh673x 162 = some (.inr (.inr (.inr (10, mO n0 n2 (n14 + (1 : Int32)) (nI sz) (nI (v671x.1)) (nI (v671x.2.1)) (v671x.2.2.1) (v671x.2.2.2) (v635x.2.1) (v635x.2.2.1) n22 n23 n27 n28 n32 n33 n34 n35 n39 n52)))) := e674x
            have e677x := (ff675x.2 _ _ (wnc (by decide) wn0) (f8670x.2 _ _ (wnc (by decide) wn0) e640x))
            have e678x := (ff675x.2 _ _ (wnc (by decide) wn0) (f8670x.2 _ _ (wnc (by decide) wn0) (ff641x.2 _ _ (wnc (by decide) wn0) (f8634x.2 _ _ (wnc (by decide) wn0) (f8629x.2 _ _ (wnc (by decide) (wnc (by decide) wn0)) hLo)))))
            have e679x := (ff675x.2 _ _ (wnc (by decide) wn0) (f8670x.2 _ _ (wnc (by decide) wn0) (ff641x.2 _ _ (wnc (by decide) wn0) (f8634x.2 _ _ (wnc (by decide) wn0) (f8629x.2 _ _ (wnc (by decide) (wnc (by decide) wn0)) hHi)))))
            have e680x := (ff675x.2 _ _ (wnc (by decide) wn0) (f8670x.2 _ _ (wnc (by decide) wn0) (ff641x.2 _ _ (wnc (by decide) wn0) (f8634x.2 _ _ (wnc (by decide) wn0) (f8629x.2 _ _ (wnc (by decide) (wnc (by decide) wn0)) hSv)))))
            have e681x := (ff675x.2 _ _ (wnc (by decide) wn0) (f8670x.2 _ _ (wnc (by decide) wn0) (ff641x.2 _ _ (wnc (by decide) wn0) (f8634x.2 _ _ (wnc (by decide) wn0) (f8629x.2 _ _ (wnc (by decide) (wnc (by decide) wn0)) hRt)))))
            have e682x := (ff675x.2 _ _ (wnc (by decide) wn0) (f8670x.2 _ _ (wnc (by decide) wn0) (ff641x.2 _ _ (wnc (by decide) wn0) (f8634x.2 _ _ (wnc (by decide) wn0) (f8629x.2 _ _ (wnc (by decide) (wnc (by decide) wn0)) hSn)))))
            have e683x := (ff675x.2 _ _ (wnc (by decide) wn0) (f8670x.2 _ _ (wnc (by decide) wn0) (ff641x.2 _ _ (wnc (by decide) wn0) (f8634x.2 _ _ (wnc (by decide) wn0) (f8629x.2 _ _ (wnc (by decide) (wnc (by decide) wn0)) hSq)))))
            have e684x := (ff675x.2 _ _ (wnc (by decide) wn0) (f8670x.2 _ _ (wnc (by decide) wn0) (ff641x.2 _ _ (wnc (by decide) wn0) (f8634x.2 _ _ (wnc (by decide) wn0) (f8629x.2 _ _ (wnc (by decide) (wnc (by decide) wn0)) hWy)))))
            have e685x := (ff675x.2 _ _ (wnc (by decide) wn0) (f8670x.2 _ _ (wnc (by decide) wn0) (ff641x.2 _ _ (wnc (by decide) wn0) (f8634x.2 _ _ (wnc (by decide) wn0) c1629x))))
            have e686x := (ff675x.2 _ _ (wnc (by decide) wn0) (f8670x.2 _ _ (wnc (by decide) wn0) (ff641x.2 _ _ (wnc (by decide) wn0) (f8634x.2 _ _ (wnc (by decide) wn0) (f8629x.2 _ _ (wnc (by decide) (wnc (by decide) wn0)) hHd)))))
            have e687x := (ff675x.2 _ _ (wnc (by decide) wn0) (f8670x.2 _ _ (wnc (by decide) wn0) (ff641x.2 _ _ (wnc (by decide) wn0) (f8634x.2 _ _ (wnc (by decide) wn0) (f8629x.2 _ _ (wnc (by decide) (wnc (by decide) wn0)) hHs)))))
            have hx : (mLin tb sz at9 pl so va ft fp n14 ns nw kn lo hi sv rt sn sq wy it hl hs) = ((v635x.2.1), (v635x.2.2.1), (v671x.1), (v671x.2.1), (v671x.2.2.1), (v671x.2.2.2), (n14 + (1 : Int32)), (zset 0 kn 8 (v635x.1)), lo, hi, sv, rt, sn, sq, wy, (v630x.2.2.2.2.2.2), hl, hs) := by unfold mLin; rw [if_pos b1x, if_pos b3x, if_neg (fun q => q b6x), zlet_eq hv631x, zlet_eq hv636x, if_neg (fun q => q b644x), if_pos b667x, zlet_eq hv672x]
            rw [hx]
            exact wq_ret rfl rfl ⟨hh673x, rfl, (wFr_tr (wFr_sub f8629x (by simp)) (wFr_tr (wFr_sub f8634x (by simp)) (wFr_tr (wFr_sub ff641x (by simp)) (wFr_tr (wFr_sub f8670x (by simp)) (wFr_sub ff675x (by simp)))))), by omega, e674x, e677x, e678x, e679x, e680x, e681x, e682x, e683x, e684x, e685x, e686x, e687x, (by (try dsimp only); first | assumption | omega), (by (try dsimp only); first | assumption | omega), (by (try dsimp only); first | assumption | omega), (by (try dsimp only); first | assumption | omega), (by (try dsimp only); omega), (by (try dsimp only); intro q9; first | omega | exact ⟨ns, nw, hN, hL, hS, hR, hQ, hW⟩ | exact ⟨ns, nw, wNm_7 hN (by omega), hL, hS, hR, hQ, hW⟩ | exact ⟨ns, nw, wNm_8 hN (by omega), hL, hS, hR, hQ, hW⟩ | exact ⟨ns, nw, wNm_9 hN (by omega), hL, hS, hR, hQ, hW⟩ | exact ⟨ns, nw, wNm_10 hN (by omega), hL, hS, hR, hQ, hW⟩ | exact ⟨ns, nw, wNm_11 hN (by omega), hL, hS, hR, hQ, hW⟩ | exact ⟨ns, nw, hN, hX9 (by omega), hS, hR, hQ, hW⟩ | exact ⟨ns, nw, hN, hL, hX9, hR, hQ, hW⟩ | exact ⟨ns, nw, hN, hL, hS, hX9, hQ, hW⟩ | (obtain ⟨m9, a9, b9, c9⟩ := hX9 (by omega); exact ⟨m9, nw, b9, hL, hS, hR, c9, wW2_m hW a9⟩) | (obtain ⟨m9, b9, c9⟩ := hX9 (by omega); exact ⟨ns, m9, b9, hL, hS, hR, hQ, c9⟩)), (by (try dsimp only); exact ⟨by first | assumption | exact hz.1 | exact wFh_set hz.1 (by decide), by first | assumption | exact hz.2.1, by first | assumption | exact hz.2.2.1, by first | assumption | exact hz.2.2.2.1, by first | assumption | exact hz.2.2.2.2.1, by first | assumption | exact hz.2.2.2.2.2⟩)⟩
          · have q688x : (v635x.2.2.2.2.2.1).toInt ≠ 4 := fun q => b667x (Int32.toInt_inj.mp q)
            refine wq_gos (f := 1) (pc2 := 199) (ls2 := [(0, .ref 162)]) (st2 := [.int 1, .ref 162]) (h2 := hh639x) (dc2 := 0) (ds2 := 0) 2 rfl ?_
            refine wq_inlv (y2 := 163) (as := [.int 1]) rfl rfl rfl e643x rfl (wq_mono (m_wro e643x (by first | assumption | omega | decide | solve_by_elim) (by first | assumption | omega | decide | solve_by_elim)) ?_)
            rintro _ ⟨h8689x, rfl, f8689x, l8689x, c0689x, p0689x⟩
            show wq 180 202 [(0, .ref 162)] [] h8689x 0 0 _
            obtain ⟨v690x, hv691x⟩ : ∃ x, x = (mWro (v635x.2.2.2.2.1) (v635x.2.1) (v635x.2.2.1) (1 : Int32)) := ⟨_, rfl⟩
            try rw [← hv691x] at c0689x
            try rw [← hv691x] at p0689x
            try rw [← hv691x]
            refine wq_gos (f := 1) (pc2 := 203) (ls2 := [(0, .ref 162)]) (st2 := [.ref 162]) (h2 := h8689x) (dc2 := 0) (ds2 := 0) 1 rfl ?_
            have e692x := (f8689x.2 _ _ (wnc (by decide) wn0) (ff641x.2 _ _ (wnc (by decide) wn0) (f8634x.2 _ _ (wnc (by decide) wn0) e632x)))
            refine wq_inlv (y2 := 164) (as := []) rfl rfl rfl c0689x rfl (wq_mono (m_go c0689x e692x (by first | assumption | omega | decide | solve_by_elim) ⟨Nat.le_refl _, by omega⟩ (by first | assumption | omega | decide | solve_by_elim)) ?_)
            rintro _ ⟨h8693x, rfl, f8693x, l8693x, c0693x, p0693x, p1693x, p2693x, p3693x⟩
            show wq 180 206 [(0, .ref 162)] [] h8693x 0 0 _
            obtain ⟨v694x, hv695x⟩ : ∃ x, x = (mGo tb sz (v635x.2.2.2.1) (v635x.2.2.2.2.1) (v635x.2.2.2.2.2.1) (v635x.2.2.2.2.2.2) (v690x.1)) := ⟨_, rfl⟩
            try rw [← hv695x] at c0693x
            try rw [← hv695x] at p0693x
            try rw [← hv695x] at p1693x
            try rw [← hv695x] at p2693x
            try rw [← hv695x] at p3693x
            try rw [← hv695x]
            refine wq_gos (f := 1) (pc2 := 208) (ls2 := [(0, .ref 162)]) (st2 := [.ref 162, .ref 162]) (h2 := h8693x) (dc2 := 0) (ds2 := 0) 2 rfl ?_
            refine wq_getf rfl c0693x rfl rfl ?_
            refine wq_gos (f := 1) (pc2 := 213) (ls2 := [(0, .ref 162)]) (st2 := [.int (n14 + (1 : Int32)), .ref 162]) (h2 := h8693x) (dc2 := 0) (ds2 := 0) 2 rfl ?_
            refine wq_putf rfl c0693x rfl rfl rfl ?_
            intro hh696x e697x ff698x lh699x
            have e697x : zat hh696x 162 = some (.inr (.inr (.inr (10, mO n0 n2 (n14 + (1 : Int32)) (nI sz) (nI (v694x.1)) (nI (v694x.2.1)) (v694x.2.2.1) (v694x.2.2.2) (v690x.1) (v690x.2) n22 n23 n27 n28 n32 n33 n34 n35 n39 n52)))) := e697x
            have e700x := (ff698x.2 _ _ (wnc (by decide) wn0) (f8693x.2 _ _ (wnc (by decide) wn0) (f8689x.2 _ _ (wnc (by decide) wn0) e640x)))
            have e701x := (ff698x.2 _ _ (wnc (by decide) wn0) (f8693x.2 _ _ (wnc (by decide) wn0) (f8689x.2 _ _ (wnc (by decide) wn0) (ff641x.2 _ _ (wnc (by decide) wn0) (f8634x.2 _ _ (wnc (by decide) wn0) (f8629x.2 _ _ (wnc (by decide) (wnc (by decide) wn0)) hLo))))))
            have e702x := (ff698x.2 _ _ (wnc (by decide) wn0) (f8693x.2 _ _ (wnc (by decide) wn0) (f8689x.2 _ _ (wnc (by decide) wn0) (ff641x.2 _ _ (wnc (by decide) wn0) (f8634x.2 _ _ (wnc (by decide) wn0) (f8629x.2 _ _ (wnc (by decide) (wnc (by decide) wn0)) hHi))))))
            have e703x := (ff698x.2 _ _ (wnc (by decide) wn0) (f8693x.2 _ _ (wnc (by decide) wn0) (f8689x.2 _ _ (wnc (by decide) wn0) (ff641x.2 _ _ (wnc (by decide) wn0) (f8634x.2 _ _ (wnc (by decide) wn0) (f8629x.2 _ _ (wnc (by decide) (wnc (by decide) wn0)) hSv))))))
            have e704x := (ff698x.2 _ _ (wnc (by decide) wn0) (f8693x.2 _ _ (wnc (by decide) wn0) (f8689x.2 _ _ (wnc (by decide) wn0) (ff641x.2 _ _ (wnc (by decide) wn0) (f8634x.2 _ _ (wnc (by decide) wn0) (f8629x.2 _ _ (wnc (by decide) (wnc (by decide) wn0)) hRt))))))
            have e705x := (ff698x.2 _ _ (wnc (by decide) wn0) (f8693x.2 _ _ (wnc (by decide) wn0) (f8689x.2 _ _ (wnc (by decide) wn0) (ff641x.2 _ _ (wnc (by decide) wn0) (f8634x.2 _ _ (wnc (by decide) wn0) (f8629x.2 _ _ (wnc (by decide) (wnc (by decide) wn0)) hSn))))))
            have e706x := (ff698x.2 _ _ (wnc (by decide) wn0) (f8693x.2 _ _ (wnc (by decide) wn0) (f8689x.2 _ _ (wnc (by decide) wn0) (ff641x.2 _ _ (wnc (by decide) wn0) (f8634x.2 _ _ (wnc (by decide) wn0) (f8629x.2 _ _ (wnc (by decide) (wnc (by decide) wn0)) hSq))))))
            have e707x := (ff698x.2 _ _ (wnc (by decide) wn0) (f8693x.2 _ _ (wnc (by decide) wn0) (f8689x.2 _ _ (wnc (by decide) wn0) (ff641x.2 _ _ (wnc (by decide) wn0) (f8634x.2 _ _ (wnc (by decide) wn0) (f8629x.2 _ _ (wnc (by decide) (wnc (by decide) wn0)) hWy))))))
            have e708x := (ff698x.2 _ _ (wnc (by decide) wn0) (f8693x.2 _ _ (wnc (by decide) wn0) (f8689x.2 _ _ (wnc (by decide) wn0) (ff641x.2 _ _ (wnc (by decide) wn0) (f8634x.2 _ _ (wnc (by decide) wn0) c1629x)))))
            have e709x := (ff698x.2 _ _ (wnc (by decide) wn0) (f8693x.2 _ _ (wnc (by decide) wn0) (f8689x.2 _ _ (wnc (by decide) wn0) (ff641x.2 _ _ (wnc (by decide) wn0) (f8634x.2 _ _ (wnc (by decide) wn0) (f8629x.2 _ _ (wnc (by decide) (wnc (by decide) wn0)) hHd))))))
            have e710x := (ff698x.2 _ _ (wnc (by decide) wn0) (f8693x.2 _ _ (wnc (by decide) wn0) (f8689x.2 _ _ (wnc (by decide) wn0) (ff641x.2 _ _ (wnc (by decide) wn0) (f8634x.2 _ _ (wnc (by decide) wn0) (f8629x.2 _ _ (wnc (by decide) (wnc (by decide) wn0)) hHs))))))
            have hx : (mLin tb sz at9 pl so va ft fp n14 ns nw kn lo hi sv rt sn sq wy it hl hs) = ((v690x.1), (v690x.2), (v694x.1), (v694x.2.1), (v694x.2.2.1), (v694x.2.2.2), (n14 + (1 : Int32)), (zset 0 kn 8 (v635x.1)), lo, hi, sv, rt, sn, sq, wy, (v630x.2.2.2.2.2.2), hl, hs) := by unfold mLin; rw [if_pos b1x, if_pos b3x, if_neg (fun q => q b6x), zlet_eq hv631x, zlet_eq hv636x, if_neg (fun q => q b644x), if_neg b667x, zlet_eq hv691x, zlet_eq hv695x]
            rw [hx]
            exact wq_ret rfl rfl ⟨hh696x, rfl, (wFr_tr (wFr_sub f8629x (by simp)) (wFr_tr (wFr_sub f8634x (by simp)) (wFr_tr (wFr_sub ff641x (by simp)) (wFr_tr (wFr_sub f8689x (by simp)) (wFr_tr (wFr_sub f8693x (by simp)) (wFr_sub ff698x (by simp))))))), by omega, e697x, e700x, e701x, e702x, e703x, e704x, e705x, e706x, e707x, e708x, e709x, e710x, (by (try dsimp only); first | assumption | omega), (by (try dsimp only); first | assumption | omega), (by (try dsimp only); first | assumption | omega), (by (try dsimp only); first | assumption | omega), (by (try dsimp only); omega), (by (try dsimp only); intro q9; first | omega | exact ⟨ns, nw, hN, hL, hS, hR, hQ, hW⟩ | exact ⟨ns, nw, wNm_7 hN (by omega), hL, hS, hR, hQ, hW⟩ | exact ⟨ns, nw, wNm_8 hN (by omega), hL, hS, hR, hQ, hW⟩ | exact ⟨ns, nw, wNm_9 hN (by omega), hL, hS, hR, hQ, hW⟩ | exact ⟨ns, nw, wNm_10 hN (by omega), hL, hS, hR, hQ, hW⟩ | exact ⟨ns, nw, wNm_11 hN (by omega), hL, hS, hR, hQ, hW⟩ | exact ⟨ns, nw, hN, hX9 (by omega), hS, hR, hQ, hW⟩ | exact ⟨ns, nw, hN, hL, hX9, hR, hQ, hW⟩ | exact ⟨ns, nw, hN, hL, hS, hX9, hQ, hW⟩ | (obtain ⟨m9, a9, b9, c9⟩ := hX9 (by omega); exact ⟨m9, nw, b9, hL, hS, hR, c9, wW2_m hW a9⟩) | (obtain ⟨m9, b9, c9⟩ := hX9 (by omega); exact ⟨ns, m9, b9, hL, hS, hR, hQ, c9⟩)), (by (try dsimp only); exact ⟨by first | assumption | exact hz.1 | exact wFh_set hz.1 (by decide), by first | assumption | exact hz.2.1, by first | assumption | exact hz.2.2.1, by first | assumption | exact hz.2.2.2.1, by first | assumption | exact hz.2.2.2.2.1, by first | assumption | exact hz.2.2.2.2.2⟩)⟩
    · have q711x : va.toInt = 0 := congrArg Int32.toInt b3x
      refine wq_gos (f := 1) (pc2 := 28) (ls2 := [(0, .ref 162)]) (st2 := [.int 99, .int 1, .int 0, .int 0, .ref 162]) (h2 := h) (dc2 := 0) (ds2 := 0) 5 rfl ?_
      refine wq_inlv (y2 := 179) (as := [.int 0, .int 0, .int 1, .int 99]) rfl rfl rfl hM rfl ?_
      show wq 179 0 [(0, .ref 162), (1, .int 0), (2, .int 0), (3, .int 1), (4, .int 99)] [] h 0 0 _
      refine wq_gos (f := 1) (pc2 := 2) (ls2 := [(0, .ref 162), (1, .int 0), (2, .int 0), (3, .int 1), (4, .int 99)]) (st2 := [.int 0, .ref 162]) (h2 := h) (dc2 := 0) (ds2 := 0) 2 rfl ?_
      have q712x : (0 : Int32).toInt = 0 := rfl
      refine wq_inlv (y2 := 171) (as := [.int 0]) rfl rfl rfl hM rfl (wq_mono (m_onc (w := 0) hM hT hIt (by first | assumption | omega | decide | solve_by_elim) ⟨Nat.le_refl _, by omega⟩ (by first | assumption | omega | decide | solve_by_elim) (by first | assumption | omega | decide | solve_by_elim) (by first | assumption | omega | decide | solve_by_elim)) ?_)
      rintro _ ⟨h8713x, rfl, f8713x, l8713x, c0713x, c1713x, p0713x, p1713x, p2713x, p3713x, p4713x⟩
      show wq 179 5 [(0, .ref 162), (1, .int 0), (2, .int 0), (3, .int 1), (4, .int 99)] [] h8713x 0 0 _
      obtain ⟨v714x, hv715x⟩ : ∃ x, x = (mOnc tb sz at9 pl so va ft fp 0 it) := ⟨_, rfl⟩
      try rw [← hv715x] at c0713x
      try rw [← hv715x] at c1713x
      try rw [← hv715x] at p0713x
      try rw [← hv715x] at p1713x
      try rw [← hv715x] at p2713x
      try rw [← hv715x] at p3713x
      try rw [← hv715x] at p4713x
      try rw [← hv715x]
      refine wq_gos (f := 1) (pc2 := 11) (ls2 := [(0, .ref 162), (1, .int 0), (2, .int 0), (3, .int 1), (4, .int 99)]) (st2 := [.int 99, .int 1, .ref 162, .int 0, .ref 162]) (h2 := h8713x) (dc2 := 0) (ds2 := 0) 5 rfl ?_
      have e716x := (f8713x.2 _ _ (wnc (by decide) (wnc (by decide) wn0)) hT)
      have q717x : (1 : Int32).toInt = 1 := rfl
      have q718x : (99 : Int32).toInt = 99 := rfl
      refine wq_inlv (y2 := 166) (as := [.int 1, .int 99]) rfl rfl rfl c0713x rfl (wq_mono (m_nml c0713x e716x (by first | assumption | omega | decide | solve_by_elim) ⟨Nat.le_refl _, by omega⟩ (by first | assumption | omega | decide | solve_by_elim) (by first | assumption | omega | decide | solve_by_elim)) ?_)
      rintro _ ⟨h8719x, rfl, f8719x, l8719x, c0719x, p0719x, p1719x, p2719x, p3719x, p4719x, p5719x⟩
      show wq 179 14 [(0, .ref 162), (1, .int 0), (2, .int 0), (3, .int 1), (4, .int 99)] [.int ((mNml tb sz (v714x.2.2.1) (v714x.2.2.2.1) (v714x.2.2.2.2.1) (v714x.2.2.2.2.2.1) (v714x.1) (v714x.2.1) (1 : Int32) (99 : Int32)).1), .int 0, .ref 162] h8719x 0 0 _
      obtain ⟨v720x, hv721x⟩ : ∃ x, x = (mNml tb sz (v714x.2.2.1) (v714x.2.2.2.1) (v714x.2.2.2.2.1) (v714x.2.2.2.2.2.1) (v714x.1) (v714x.2.1) (1 : Int32) (99 : Int32)) := ⟨_, rfl⟩
      try rw [← hv721x] at c0719x
      try rw [← hv721x] at p0719x
      try rw [← hv721x] at p1719x
      try rw [← hv721x] at p2719x
      try rw [← hv721x] at p3719x
      try rw [← hv721x] at p4719x
      try rw [← hv721x] at p5719x
      try rw [← hv721x]
      refine wq_inlv (y2 := 170) (as := [.int 0, .int (v720x.1)]) rfl rfl rfl c0719x rfl ?_
      show wq 170 0 [(0, .ref 162), (1, .int 0), (2, .int (v720x.1))] [] h8719x 0 0 _
      refine wq_gos (f := 1) (pc2 := 1) (ls2 := [(0, .ref 162), (1, .int 0), (2, .int (v720x.1))]) (st2 := [.ref 162]) (h2 := h8719x) (dc2 := 0) (ds2 := 0) 1 rfl ?_
      refine wq_getf rfl c0719x rfl rfl ?_
      refine wq_gos (f := 1) (pc2 := 9) (ls2 := [(0, .ref 162), (1, .int 0), (2, .int (v720x.1))]) (st2 := [.int (v720x.1), .int 7, .ref 166]) (h2 := h8719x) (dc2 := 0) (ds2 := 0) 4 rfl ?_
      have e722x := (f8719x.2 _ _ (wnc (by decide) wn0) (f8713x.2 _ _ (wnc (by decide) (wnc (by decide) wn0)) hKn))
      have q723x : (7 : Int32).toInt = 7 := rfl
      refine wq_iast rfl e722x rfl rfl ?_
      intro hh724x e725x ff726x lh727x
      have e725x : zat hh724x 166 = some (.inl (0, 14, (zset 0 kn 7 (v720x.1)))) := e725x
      refine wq_ret rfl rfl ?_
      show wq 179 17 [(0, .ref 162), (1, .int 0), (2, .int 0), (3, .int 1), (4, .int 99)] [] hh724x 0 0 _
      refine wq_ret rfl rfl ?_
      show wq 180 31 [(0, .ref 162)] [] hh724x 0 0 _
      refine wq_gos (f := 1) (pc2 := 183) (ls2 := [(0, .ref 162)]) (st2 := [.ref 162]) (h2 := hh724x) (dc2 := 0) (ds2 := 0) 2 rfl ?_
      have e728x := (ff726x.2 _ _ (wnc (by decide) wn0) c0719x)
      refine wq_getf rfl e728x rfl rfl ?_
      refine wq_ne0 rfl rfl (fun b729x => ?_) (fun b729x => ?_)
      · have q730x : (v720x.2.1).toInt ≠ 0 := fun q => b729x (Int32.toInt_inj.mp q)
        refine wq_gos (f := 1) (pc2 := 203) (ls2 := [(0, .ref 162)]) (st2 := [.ref 162]) (h2 := hh724x) (dc2 := 0) (ds2 := 0) 1 rfl ?_
        have e731x := (ff726x.2 _ _ (wnc (by decide) wn0) (f8719x.2 _ _ (wnc (by decide) wn0) e716x))
        refine wq_inlv (y2 := 164) (as := []) rfl rfl rfl e728x rfl (wq_mono (m_go e728x e731x (by first | assumption | omega | decide | solve_by_elim) ⟨Nat.le_refl _, by omega⟩ (by first | assumption | omega | decide | solve_by_elim)) ?_)
        rintro _ ⟨h8732x, rfl, f8732x, l8732x, c0732x, p0732x, p1732x, p2732x, p3732x⟩
        show wq 180 206 [(0, .ref 162)] [] h8732x 0 0 _
        obtain ⟨v733x, hv734x⟩ : ∃ x, x = (mGo tb sz (v720x.2.2.2.1) (v720x.2.2.2.2.1) (v720x.2.2.2.2.2.1) (v720x.2.2.2.2.2.2) (v720x.2.1)) := ⟨_, rfl⟩
        try rw [← hv734x] at c0732x
        try rw [← hv734x] at p0732x
        try rw [← hv734x] at p1732x
        try rw [← hv734x] at p2732x
        try rw [← hv734x] at p3732x
        try rw [← hv734x]
        refine wq_gos (f := 1) (pc2 := 208) (ls2 := [(0, .ref 162)]) (st2 := [.ref 162, .ref 162]) (h2 := h8732x) (dc2 := 0) (ds2 := 0) 2 rfl ?_
        refine wq_getf rfl c0732x rfl rfl ?_
        refine wq_gos (f := 1) (pc2 := 213) (ls2 := [(0, .ref 162)]) (st2 := [.int (n14 + (1 : Int32)), .ref 162]) (h2 := h8732x) (dc2 := 0) (ds2 := 0) 2 rfl ?_
        refine wq_putf rfl c0732x rfl rfl rfl ?_
        intro hh735x e736x ff737x lh738x
        have e736x : zat hh735x 162 = some (.inr (.inr (.inr (10, mO n0 n2 (n14 + (1 : Int32)) (nI sz) (nI (v733x.1)) (nI (v733x.2.1)) (v733x.2.2.1) (v733x.2.2.2) (v720x.2.1) (v720x.2.2.1) n22 n23 n27 n28 n32 n33 n34 n35 n39 n52)))) := e736x
        have e739x := (ff737x.2 _ _ (wnc (by decide) wn0) (f8732x.2 _ _ (wnc (by decide) wn0) e725x))
        have e740x := (ff737x.2 _ _ (wnc (by decide) wn0) (f8732x.2 _ _ (wnc (by decide) wn0) (ff726x.2 _ _ (wnc (by decide) wn0) (f8719x.2 _ _ (wnc (by decide) wn0) (f8713x.2 _ _ (wnc (by decide) (wnc (by decide) wn0)) hLo)))))
        have e741x := (ff737x.2 _ _ (wnc (by decide) wn0) (f8732x.2 _ _ (wnc (by decide) wn0) (ff726x.2 _ _ (wnc (by decide) wn0) (f8719x.2 _ _ (wnc (by decide) wn0) (f8713x.2 _ _ (wnc (by decide) (wnc (by decide) wn0)) hHi)))))
        have e742x := (ff737x.2 _ _ (wnc (by decide) wn0) (f8732x.2 _ _ (wnc (by decide) wn0) (ff726x.2 _ _ (wnc (by decide) wn0) (f8719x.2 _ _ (wnc (by decide) wn0) (f8713x.2 _ _ (wnc (by decide) (wnc (by decide) wn0)) hSv)))))
        have e743x := (ff737x.2 _ _ (wnc (by decide) wn0) (f8732x.2 _ _ (wnc (by decide) wn0) (ff726x.2 _ _ (wnc (by decide) wn0) (f8719x.2 _ _ (wnc (by decide) wn0) (f8713x.2 _ _ (wnc (by decide) (wnc (by decide) wn0)) hRt)))))
        have e744x := (ff737x.2 _ _ (wnc (by decide) wn0) (f8732x.2 _ _ (wnc (by decide) wn0) (ff726x.2 _ _ (wnc (by decide) wn0) (f8719x.2 _ _ (wnc (by decide) wn0) (f8713x.2 _ _ (wnc (by decide) (wnc (by decide) wn0)) hSn)))))
        have e745x := (ff737x.2 _ _ (wnc (by decide) wn0) (f8732x.2 _ _ (wnc (by decide) wn0) (ff726x.2 _ _ (wnc (by decide) wn0) (f8719x.2 _ _ (wnc (by decide) wn0) (f8713x.2 _ _ (wnc (by decide) (wnc (by decide) wn0)) hSq)))))
        have e746x := (ff737x.2 _ _ (wnc (by decide) wn0) (f8732x.2 _ _ (wnc (by decide) wn0) (ff726x.2 _ _ (wnc (by decide) wn0) (f8719x.2 _ _ (wnc (by decide) wn0) (f8713x.2 _ _ (wnc (by decide) (wnc (by decide) wn0)) hWy)))))
        have e747x := (ff737x.2 _ _ (wnc (by decide) wn0) (f8732x.2 _ _ (wnc (by decide) wn0) (ff726x.2 _ _ (wnc (by decide) wn0) (f8719x.2 _ _ (wnc (by decide) wn0) c1713x))))
        have e748x := (ff737x.2 _ _ (wnc (by decide) wn0) (f8732x.2 _ _ (wnc (by decide) wn0) (ff726x.2 _ _ (wnc (by decide) wn0) (f8719x.2 _ _ (wnc (by decide) wn0) (f8713x.2 _ _ (wnc (by decide) (wnc (by decide) wn0)) hHd)))))
        have e749x := (ff737x.2 _ _ (wnc (by decide) wn0) (f8732x.2 _ _ (wnc (by decide) wn0) (ff726x.2 _ _ (wnc (by decide) wn0) (f8719x.2 _ _ (wnc (by decide) wn0) (f8713x.2 _ _ (wnc (by decide) (wnc (by decide) wn0)) hHs)))))
        have hx : (mLin tb sz at9 pl so va ft fp n14 ns nw kn lo hi sv rt sn sq wy it hl hs) = ((v720x.2.1), (v720x.2.2.1), (v733x.1), (v733x.2.1), (v733x.2.2.1), (v733x.2.2.2), (n14 + (1 : Int32)), (zset 0 kn 7 (v720x.1)), lo, hi, sv, rt, sn, sq, wy, (v714x.2.2.2.2.2.2), hl, hs) := by unfold mLin; rw [if_pos b1x, if_neg (fun q => q b3x), zlet_eq hv715x, zlet_eq hv721x, if_pos b729x, zlet_eq hv734x]
        rw [hx]
        exact wq_ret rfl rfl ⟨hh735x, rfl, (wFr_tr (wFr_sub f8713x (by simp)) (wFr_tr (wFr_sub f8719x (by simp)) (wFr_tr (wFr_sub ff726x (by simp)) (wFr_tr (wFr_sub f8732x (by simp)) (wFr_sub ff737x (by simp)))))), by omega, e736x, e739x, e740x, e741x, e742x, e743x, e744x, e745x, e746x, e747x, e748x, e749x, (by (try dsimp only); first | assumption | omega), (by (try dsimp only); first | assumption | omega), (by (try dsimp only); first | assumption | omega), (by (try dsimp only); first | assumption | omega), (by (try dsimp only); omega), (by (try dsimp only); intro q9; first | omega | exact ⟨ns, nw, hN, hL, hS, hR, hQ, hW⟩ | exact ⟨ns, nw, wNm_7 hN (by omega), hL, hS, hR, hQ, hW⟩ | exact ⟨ns, nw, wNm_8 hN (by omega), hL, hS, hR, hQ, hW⟩ | exact ⟨ns, nw, wNm_9 hN (by omega), hL, hS, hR, hQ, hW⟩ | exact ⟨ns, nw, wNm_10 hN (by omega), hL, hS, hR, hQ, hW⟩ | exact ⟨ns, nw, wNm_11 hN (by omega), hL, hS, hR, hQ, hW⟩ | exact ⟨ns, nw, hN, hX9 (by omega), hS, hR, hQ, hW⟩ | exact ⟨ns, nw, hN, hL, hX9, hR, hQ, hW⟩ | exact ⟨ns, nw, hN, hL, hS, hX9, hQ, hW⟩ | (obtain ⟨m9, a9, b9, c9⟩ := hX9 (by omega); exact ⟨m9, nw, b9, hL, hS, hR, c9, wW2_m hW a9⟩) | (obtain ⟨m9, b9, c9⟩ := hX9 (by omega); exact ⟨ns, m9, b9, hL, hS, hR, hQ, c9⟩)), (by (try dsimp only); exact ⟨by first | assumption | exact hz.1 | exact wFh_set hz.1 (by decide), by first | assumption | exact hz.2.1, by first | assumption | exact hz.2.2.1, by first | assumption | exact hz.2.2.2.1, by first | assumption | exact hz.2.2.2.2.1, by first | assumption | exact hz.2.2.2.2.2⟩)⟩
      · have q750x : (v720x.2.1).toInt = 0 := congrArg Int32.toInt b729x
        refine wq_gos (f := 1) (pc2 := 190) (ls2 := [(0, .ref 162)]) (st2 := [.ref 162]) (h2 := hh724x) (dc2 := 0) (ds2 := 0) 1 rfl ?_
        refine wq_getf rfl e728x rfl rfl ?_
        refine wq_gos (f := 1) (pc2 := 194) (ls2 := [(0, .ref 162)]) (st2 := [.int 4, .int (v720x.2.2.2.2.2.1)]) (h2 := hh724x) (dc2 := 0) (ds2 := 0) 1 rfl ?_
        have q751x : (4 : Int32).toInt = 4 := rfl
        refine wq_eq2 rfl rfl (fun b752x => ?_) (fun b752x => ?_)
        · have q753x : (v720x.2.2.2.2.2.1).toInt = 4 := congrArg Int32.toInt b752x
          refine wq_gos (f := 1) (pc2 := 203) (ls2 := [(0, .ref 162)]) (st2 := [.ref 162]) (h2 := hh724x) (dc2 := 0) (ds2 := 0) 1 rfl ?_
          have e754x := (ff726x.2 _ _ (wnc (by decide) wn0) (f8719x.2 _ _ (wnc (by decide) wn0) e716x))
          refine wq_inlv (y2 := 164) (as := []) rfl rfl rfl e728x rfl (wq_mono (m_go e728x e754x (by first | assumption | omega | decide | solve_by_elim) ⟨Nat.le_refl _, by omega⟩ (by first | assumption | omega | decide | solve_by_elim)) ?_)
          rintro _ ⟨h8755x, rfl, f8755x, l8755x, c0755x, p0755x, p1755x, p2755x, p3755x⟩
          show wq 180 206 [(0, .ref 162)] [] h8755x 0 0 _
          obtain ⟨v756x, hv757x⟩ : ∃ x, x = (mGo tb sz (v720x.2.2.2.1) (v720x.2.2.2.2.1) (v720x.2.2.2.2.2.1) (v720x.2.2.2.2.2.2) (v720x.2.1)) := ⟨_, rfl⟩
          try rw [← hv757x] at c0755x
          try rw [← hv757x] at p0755x
          try rw [← hv757x] at p1755x
          try rw [← hv757x] at p2755x
          try rw [← hv757x] at p3755x
          try rw [← hv757x]
          refine wq_gos (f := 1) (pc2 := 208) (ls2 := [(0, .ref 162)]) (st2 := [.ref 162, .ref 162]) (h2 := h8755x) (dc2 := 0) (ds2 := 0) 2 rfl ?_
          refine wq_getf rfl c0755x rfl rfl ?_
          refine wq_gos (f := 1) (pc2 := 213) (ls2 := [(0, .ref 162)]) (st2 := [.int (n14 + (1 : Int32)), .ref 162]) (h2 := h8755x) (dc2 := 0) (ds2 := 0) 2 rfl ?_
          refine wq_putf rfl c0755x rfl rfl rfl ?_
          intro hh758x e759x ff760x lh761x
          have e759x : zat hh758x 162 = some (.inr (.inr (.inr (10, mO n0 n2 (n14 + (1 : Int32)) (nI sz) (nI (v756x.1)) (nI (v756x.2.1)) (v756x.2.2.1) (v756x.2.2.2) (v720x.2.1) (v720x.2.2.1) n22 n23 n27 n28 n32 n33 n34 n35 n39 n52)))) := e759x
          have e762x := (ff760x.2 _ _ (wnc (by decide) wn0) (f8755x.2 _ _ (wnc (by decide) wn0) e725x))
          have e763x := (ff760x.2 _ _ (wnc (by decide) wn0) (f8755x.2 _ _ (wnc (by decide) wn0) (ff726x.2 _ _ (wnc (by decide) wn0) (f8719x.2 _ _ (wnc (by decide) wn0) (f8713x.2 _ _ (wnc (by decide) (wnc (by decide) wn0)) hLo)))))
          have e764x := (ff760x.2 _ _ (wnc (by decide) wn0) (f8755x.2 _ _ (wnc (by decide) wn0) (ff726x.2 _ _ (wnc (by decide) wn0) (f8719x.2 _ _ (wnc (by decide) wn0) (f8713x.2 _ _ (wnc (by decide) (wnc (by decide) wn0)) hHi)))))
          have e765x := (ff760x.2 _ _ (wnc (by decide) wn0) (f8755x.2 _ _ (wnc (by decide) wn0) (ff726x.2 _ _ (wnc (by decide) wn0) (f8719x.2 _ _ (wnc (by decide) wn0) (f8713x.2 _ _ (wnc (by decide) (wnc (by decide) wn0)) hSv)))))
          have e766x := (ff760x.2 _ _ (wnc (by decide) wn0) (f8755x.2 _ _ (wnc (by decide) wn0) (ff726x.2 _ _ (wnc (by decide) wn0) (f8719x.2 _ _ (wnc (by decide) wn0) (f8713x.2 _ _ (wnc (by decide) (wnc (by decide) wn0)) hRt)))))
          have e767x := (ff760x.2 _ _ (wnc (by decide) wn0) (f8755x.2 _ _ (wnc (by decide) wn0) (ff726x.2 _ _ (wnc (by decide) wn0) (f8719x.2 _ _ (wnc (by decide) wn0) (f8713x.2 _ _ (wnc (by decide) (wnc (by decide) wn0)) hSn)))))
          have e768x := (ff760x.2 _ _ (wnc (by decide) wn0) (f8755x.2 _ _ (wnc (by decide) wn0) (ff726x.2 _ _ (wnc (by decide) wn0) (f8719x.2 _ _ (wnc (by decide) wn0) (f8713x.2 _ _ (wnc (by decide) (wnc (by decide) wn0)) hSq)))))
          have e769x := (ff760x.2 _ _ (wnc (by decide) wn0) (f8755x.2 _ _ (wnc (by decide) wn0) (ff726x.2 _ _ (wnc (by decide) wn0) (f8719x.2 _ _ (wnc (by decide) wn0) (f8713x.2 _ _ (wnc (by decide) (wnc (by decide) wn0)) hWy)))))
          have e770x := (ff760x.2 _ _ (wnc (by decide) wn0) (f8755x.2 _ _ (wnc (by decide) wn0) (ff726x.2 _ _ (wnc (by decide) wn0) (f8719x.2 _ _ (wnc (by decide) wn0) c1713x))))
          have e771x := (ff760x.2 _ _ (wnc (by decide) wn0) (f8755x.2 _ _ (wnc (by decide) wn0) (ff726x.2 _ _ (wnc (by decide) wn0) (f8719x.2 _ _ (wnc (by decide) wn0) (f8713x.2 _ _ (wnc (by decide) (wnc (by decide) wn0)) hHd)))))
          have e772x := (ff760x.2 _ _ (wnc (by decide) wn0) (f8755x.2 _ _ (wnc (by decide) wn0) (ff726x.2 _ _ (wnc (by decide) wn0) (f8719x.2 _ _ (wnc (by decide) wn0) (f8713x.2 _ _ (wnc (by decide) (wnc (by decide) wn0)) hHs)))))
          have hx : (mLin tb sz at9 pl so va ft fp n14 ns nw kn lo hi sv rt sn sq wy it hl hs) = ((v720x.2.1), (v720x.2.2.1), (v756x.1), (v756x.2.1), (v756x.2.2.1), (v756x.2.2.2), (n14 + (1 : Int32)), (zset 0 kn 7 (v720x.1)), lo, hi, sv, rt, sn, sq, wy, (v714x.2.2.2.2.2.2), hl, hs) := by unfold mLin; rw [if_pos b1x, if_neg (fun q => q b3x), zlet_eq hv715x, zlet_eq hv721x, if_neg (fun q => q b729x), if_pos b752x, zlet_eq hv757x]
          rw [hx]
          exact wq_ret rfl rfl ⟨hh758x, rfl, (wFr_tr (wFr_sub f8713x (by simp)) (wFr_tr (wFr_sub f8719x (by simp)) (wFr_tr (wFr_sub ff726x (by simp)) (wFr_tr (wFr_sub f8755x (by simp)) (wFr_sub ff760x (by simp)))))), by omega, e759x, e762x, e763x, e764x, e765x, e766x, e767x, e768x, e769x, e770x, e771x, e772x, (by (try dsimp only); first | assumption | omega), (by (try dsimp only); first | assumption | omega), (by (try dsimp only); first | assumption | omega), (by (try dsimp only); first | assumption | omega), (by (try dsimp only); omega), (by (try dsimp only); intro q9; first | omega | exact ⟨ns, nw, hN, hL, hS, hR, hQ, hW⟩ | exact ⟨ns, nw, wNm_7 hN (by omega), hL, hS, hR, hQ, hW⟩ | exact ⟨ns, nw, wNm_8 hN (by omega), hL, hS, hR, hQ, hW⟩ | exact ⟨ns, nw, wNm_9 hN (by omega), hL, hS, hR, hQ, hW⟩ | exact ⟨ns, nw, wNm_10 hN (by omega), hL, hS, hR, hQ, hW⟩ | exact ⟨ns, nw, wNm_11 hN (by omega), hL, hS, hR, hQ, hW⟩ | exact ⟨ns, nw, hN, hX9 (by omega), hS, hR, hQ, hW⟩ | exact ⟨ns, nw, hN, hL, hX9, hR, hQ, hW⟩ | exact ⟨ns, nw, hN, hL, hS, hX9, hQ, hW⟩ | (obtain ⟨m9, a9, b9, c9⟩ := hX9 (by omega); exact ⟨m9, nw, b9, hL, hS, hR, c9, wW2_m hW a9⟩) | (obtain ⟨m9, b9, c9⟩ := hX9 (by omega); exact ⟨ns, m9, b9, hL, hS, hR, hQ, c9⟩)), (by (try dsimp only); exact ⟨by first | assumption | exact hz.1 | exact wFh_set hz.1 (by decide), by first | assumption | exact hz.2.1, by first | assumption | exact hz.2.2.1, by first | assumption | exact hz.2.2.2.1, by first | assumption | exact hz.2.2.2.2.1, by first | assumption | exact hz.2.2.2.2.2⟩)⟩
        · have q773x : (v720x.2.2.2.2.2.1).toInt ≠ 4 := fun q => b752x (Int32.toInt_inj.mp q)
          refine wq_gos (f := 1) (pc2 := 199) (ls2 := [(0, .ref 162)]) (st2 := [.int 1, .ref 162]) (h2 := hh724x) (dc2 := 0) (ds2 := 0) 2 rfl ?_
          refine wq_inlv (y2 := 163) (as := [.int 1]) rfl rfl rfl e728x rfl (wq_mono (m_wro e728x (by first | assumption | omega | decide | solve_by_elim) (by first | assumption | omega | decide | solve_by_elim)) ?_)
          rintro _ ⟨h8774x, rfl, f8774x, l8774x, c0774x, p0774x⟩
          show wq 180 202 [(0, .ref 162)] [] h8774x 0 0 _
          obtain ⟨v775x, hv776x⟩ : ∃ x, x = (mWro (v720x.2.2.2.2.1) (v720x.2.1) (v720x.2.2.1) (1 : Int32)) := ⟨_, rfl⟩
          try rw [← hv776x] at c0774x
          try rw [← hv776x] at p0774x
          try rw [← hv776x]
          refine wq_gos (f := 1) (pc2 := 203) (ls2 := [(0, .ref 162)]) (st2 := [.ref 162]) (h2 := h8774x) (dc2 := 0) (ds2 := 0) 1 rfl ?_
          have e777x := (f8774x.2 _ _ (wnc (by decide) wn0) (ff726x.2 _ _ (wnc (by decide) wn0) (f8719x.2 _ _ (wnc (by decide) wn0) e716x)))
          refine wq_inlv (y2 := 164) (as := []) rfl rfl rfl c0774x rfl (wq_mono (m_go c0774x e777x (by first | assumption | omega | decide | solve_by_elim) ⟨Nat.le_refl _, by omega⟩ (by first | assumption | omega | decide | solve_by_elim)) ?_)
          rintro _ ⟨h8778x, rfl, f8778x, l8778x, c0778x, p0778x, p1778x, p2778x, p3778x⟩
          show wq 180 206 [(0, .ref 162)] [] h8778x 0 0 _
          obtain ⟨v779x, hv780x⟩ : ∃ x, x = (mGo tb sz (v720x.2.2.2.1) (v720x.2.2.2.2.1) (v720x.2.2.2.2.2.1) (v720x.2.2.2.2.2.2) (v775x.1)) := ⟨_, rfl⟩
          try rw [← hv780x] at c0778x
          try rw [← hv780x] at p0778x
          try rw [← hv780x] at p1778x
          try rw [← hv780x] at p2778x
          try rw [← hv780x] at p3778x
          try rw [← hv780x]
          refine wq_gos (f := 1) (pc2 := 208) (ls2 := [(0, .ref 162)]) (st2 := [.ref 162, .ref 162]) (h2 := h8778x) (dc2 := 0) (ds2 := 0) 2 rfl ?_
          refine wq_getf rfl c0778x rfl rfl ?_
          refine wq_gos (f := 1) (pc2 := 213) (ls2 := [(0, .ref 162)]) (st2 := [.int (n14 + (1 : Int32)), .ref 162]) (h2 := h8778x) (dc2 := 0) (ds2 := 0) 2 rfl ?_
          refine wq_putf rfl c0778x rfl rfl rfl ?_
          intro hh781x e782x ff783x lh784x
          have e782x : zat hh781x 162 = some (.inr (.inr (.inr (10, mO n0 n2 (n14 + (1 : Int32)) (nI sz) (nI (v779x.1)) (nI (v779x.2.1)) (v779x.2.2.1) (v779x.2.2.2) (v775x.1) (v775x.2) n22 n23 n27 n28 n32 n33 n34 n35 n39 n52)))) := e782x
          have e785x := (ff783x.2 _ _ (wnc (by decide) wn0) (f8778x.2 _ _ (wnc (by decide) wn0) (f8774x.2 _ _ (wnc (by decide) wn0) e725x)))
          have e786x := (ff783x.2 _ _ (wnc (by decide) wn0) (f8778x.2 _ _ (wnc (by decide) wn0) (f8774x.2 _ _ (wnc (by decide) wn0) (ff726x.2 _ _ (wnc (by decide) wn0) (f8719x.2 _ _ (wnc (by decide) wn0) (f8713x.2 _ _ (wnc (by decide) (wnc (by decide) wn0)) hLo))))))
          have e787x := (ff783x.2 _ _ (wnc (by decide) wn0) (f8778x.2 _ _ (wnc (by decide) wn0) (f8774x.2 _ _ (wnc (by decide) wn0) (ff726x.2 _ _ (wnc (by decide) wn0) (f8719x.2 _ _ (wnc (by decide) wn0) (f8713x.2 _ _ (wnc (by decide) (wnc (by decide) wn0)) hHi))))))
          have e788x := (ff783x.2 _ _ (wnc (by decide) wn0) (f8778x.2 _ _ (wnc (by decide) wn0) (f8774x.2 _ _ (wnc (by decide) wn0) (ff726x.2 _ _ (wnc (by decide) wn0) (f8719x.2 _ _ (wnc (by decide) wn0) (f8713x.2 _ _ (wnc (by decide) (wnc (by decide) wn0)) hSv))))))
          have e789x := (ff783x.2 _ _ (wnc (by decide) wn0) (f8778x.2 _ _ (wnc (by decide) wn0) (f8774x.2 _ _ (wnc (by decide) wn0) (ff726x.2 _ _ (wnc (by decide) wn0) (f8719x.2 _ _ (wnc (by decide) wn0) (f8713x.2 _ _ (wnc (by decide) (wnc (by decide) wn0)) hRt))))))
          have e790x := (ff783x.2 _ _ (wnc (by decide) wn0) (f8778x.2 _ _ (wnc (by decide) wn0) (f8774x.2 _ _ (wnc (by decide) wn0) (ff726x.2 _ _ (wnc (by decide) wn0) (f8719x.2 _ _ (wnc (by decide) wn0) (f8713x.2 _ _ (wnc (by decide) (wnc (by decide) wn0)) hSn))))))
          have e791x := (ff783x.2 _ _ (wnc (by decide) wn0) (f8778x.2 _ _ (wnc (by decide) wn0) (f8774x.2 _ _ (wnc (by decide) wn0) (ff726x.2 _ _ (wnc (by decide) wn0) (f8719x.2 _ _ (wnc (by decide) wn0) (f8713x.2 _ _ (wnc (by decide) (wnc (by decide) wn0)) hSq))))))
          have e792x := (ff783x.2 _ _ (wnc (by decide) wn0) (f8778x.2 _ _ (wnc (by decide) wn0) (f8774x.2 _ _ (wnc (by decide) wn0) (ff726x.2 _ _ (wnc (by decide) wn0) (f8719x.2 _ _ (wnc (by decide) wn0) (f8713x.2 _ _ (wnc (by decide) (wnc (by decide) wn0)) hWy))))))
          have e793x := (ff783x.2 _ _ (wnc (by decide) wn0) (f8778x.2 _ _ (wnc (by decide) wn0) (f8774x.2 _ _ (wnc (by decide) wn0) (ff726x.2 _ _ (wnc (by decide) wn0) (f8719x.2 _ _ (wnc (by decide) wn0) c1713x)))))
          have e794x := (ff783x.2 _ _ (wnc (by decide) wn0) (f8778x.2 _ _ (wnc (by decide) wn0) (f8774x.2 _ _ (wnc (by decide) wn0) (ff726x.2 _ _ (wnc (by decide) wn0) (f8719x.2 _ _ (wnc (by decide) wn0) (f8713x.2 _ _ (wnc (by decide) (wnc (by decide) wn0)) hHd))))))
          have e795x := (ff783x.2 _ _ (wnc (by decide) wn0) (f8778x.2 _ _ (wnc (by decide) wn0) (f8774x.2 _ _ (wnc (by decide) wn0) (ff726x.2 _ _ (wnc (by decide) wn0) (f8719x.2 _ _ (wnc (by decide) wn0) (f8713x.2 _ _ (wnc (by decide) (wnc (by decide) wn0)) hHs))))))
          have hx : (mLin tb sz at9 pl so va ft fp n14 ns nw kn lo hi sv rt sn sq wy it hl hs) = ((v775x.1), (v775x.2), (v779x.1), (v779x.2.1), (v779x.2.2.1), (v779x.2.2.2), (n14 + (1 : Int32)), (zset 0 kn 7 (v720x.1)), lo, hi, sv, rt, sn, sq, wy, (v714x.2.2.2.2.2.2), hl, hs) := by unfold mLin; rw [if_pos b1x, if_neg (fun q => q b3x), zlet_eq hv715x, zlet_eq hv721x, if_neg (fun q => q b729x), if_neg b752x, zlet_eq hv776x, zlet_eq hv780x]
          rw [hx]
          exact wq_ret rfl rfl ⟨hh781x, rfl, (wFr_tr (wFr_sub f8713x (by simp)) (wFr_tr (wFr_sub f8719x (by simp)) (wFr_tr (wFr_sub ff726x (by simp)) (wFr_tr (wFr_sub f8774x (by simp)) (wFr_tr (wFr_sub f8778x (by simp)) (wFr_sub ff783x (by simp))))))), by omega, e782x, e785x, e786x, e787x, e788x, e789x, e790x, e791x, e792x, e793x, e794x, e795x, (by (try dsimp only); first | assumption | omega), (by (try dsimp only); first | assumption | omega), (by (try dsimp only); first | assumption | omega), (by (try dsimp only); first | assumption | omega), (by (try dsimp only); omega), (by (try dsimp only); intro q9; first | omega | exact ⟨ns, nw, hN, hL, hS, hR, hQ, hW⟩ | exact ⟨ns, nw, wNm_7 hN (by omega), hL, hS, hR, hQ, hW⟩ | exact ⟨ns, nw, wNm_8 hN (by omega), hL, hS, hR, hQ, hW⟩ | exact ⟨ns, nw, wNm_9 hN (by omega), hL, hS, hR, hQ, hW⟩ | exact ⟨ns, nw, wNm_10 hN (by omega), hL, hS, hR, hQ, hW⟩ | exact ⟨ns, nw, wNm_11 hN (by omega), hL, hS, hR, hQ, hW⟩ | exact ⟨ns, nw, hN, hX9 (by omega), hS, hR, hQ, hW⟩ | exact ⟨ns, nw, hN, hL, hX9, hR, hQ, hW⟩ | exact ⟨ns, nw, hN, hL, hS, hX9, hQ, hW⟩ | (obtain ⟨m9, a9, b9, c9⟩ := hX9 (by omega); exact ⟨m9, nw, b9, hL, hS, hR, c9, wW2_m hW a9⟩) | (obtain ⟨m9, b9, c9⟩ := hX9 (by omega); exact ⟨ns, m9, b9, hL, hS, hR, hQ, c9⟩)), (by (try dsimp only); exact ⟨by first | assumption | exact hz.1 | exact wFh_set hz.1 (by decide), by first | assumption | exact hz.2.1, by first | assumption | exact hz.2.2.1, by first | assumption | exact hz.2.2.2.1, by first | assumption | exact hz.2.2.2.2.1, by first | assumption | exact hz.2.2.2.2.2⟩)⟩
  · have q796x : so.toInt ≠ 0 := fun q => b1x (Int32.toInt_inj.mp q)
    refine wq_gos (f := 1) (pc2 := 9) (ls2 := [(0, .ref 162)]) (st2 := [.int 1, .ref 162]) (h2 := h) (dc2 := 0) (ds2 := 0) 2 rfl ?_
    have q797x : (1 : Int32).toInt = 1 := rfl
    refine wq_inlv (y2 := 163) (as := [.int 1]) rfl rfl rfl hM rfl (wq_mono (m_wro hM (by first | assumption | omega | decide | solve_by_elim) (by first | assumption | omega | decide | solve_by_elim)) ?_)
    rintro _ ⟨h8798x, rfl, f8798x, l8798x, c0798x, p0798x⟩
    show wq 180 12 [(0, .ref 162)] [] h8798x 0 0 _
    obtain ⟨v799x, hv800x⟩ : ∃ x, x = (mWro pl ft fp (1 : Int32)) := ⟨_, rfl⟩
    try rw [← hv800x] at c0798x
    try rw [← hv800x] at p0798x
    try rw [← hv800x]
    refine wq_gos (f := 1) (pc2 := 183) (ls2 := [(0, .ref 162)]) (st2 := [.ref 162]) (h2 := h8798x) (dc2 := 0) (ds2 := 0) 2 rfl ?_
    refine wq_getf rfl c0798x rfl rfl ?_
    refine wq_ne0 rfl rfl (fun b801x => ?_) (fun b801x => ?_)
    · have q802x : (v799x.1).toInt ≠ 0 := fun q => b801x (Int32.toInt_inj.mp q)
      refine wq_gos (f := 1) (pc2 := 203) (ls2 := [(0, .ref 162)]) (st2 := [.ref 162]) (h2 := h8798x) (dc2 := 0) (ds2 := 0) 1 rfl ?_
      have e803x := (f8798x.2 _ _ (wnc (by decide) wn0) hT)
      refine wq_inlv (y2 := 164) (as := []) rfl rfl rfl c0798x rfl (wq_mono (m_go c0798x e803x (by first | assumption | omega | decide | solve_by_elim) ⟨Nat.le_refl _, by omega⟩ (by first | assumption | omega | decide | solve_by_elim)) ?_)
      rintro _ ⟨h8804x, rfl, f8804x, l8804x, c0804x, p0804x, p1804x, p2804x, p3804x⟩
      show wq 180 206 [(0, .ref 162)] [] h8804x 0 0 _
      obtain ⟨v805x, hv806x⟩ : ∃ x, x = (mGo tb sz at9 pl so va (v799x.1)) := ⟨_, rfl⟩
      try rw [← hv806x] at c0804x
      try rw [← hv806x] at p0804x
      try rw [← hv806x] at p1804x
      try rw [← hv806x] at p2804x
      try rw [← hv806x] at p3804x
      try rw [← hv806x]
      refine wq_gos (f := 1) (pc2 := 208) (ls2 := [(0, .ref 162)]) (st2 := [.ref 162, .ref 162]) (h2 := h8804x) (dc2 := 0) (ds2 := 0) 2 rfl ?_
      refine wq_getf rfl c0804x rfl rfl ?_
      refine wq_gos (f := 1) (pc2 := 213) (ls2 := [(0, .ref 162)]) (st2 := [.int (n14 + (1 : Int32)), .ref 162]) (h2 := h8804x) (dc2 := 0) (ds2 := 0) 2 rfl ?_
      refine wq_putf rfl c0804x rfl rfl rfl ?_
      intro hh807x e808x ff809x lh810x
      have e808x : zat hh807x 162 = some (.inr (.inr (.inr (10, mO n0 n2 (n14 + (1 : Int32)) (nI sz) (nI (v805x.1)) (nI (v805x.2.1)) (v805x.2.2.1) (v805x.2.2.2) (v799x.1) (v799x.2) n22 n23 n27 n28 n32 n33 n34 n35 n39 n52)))) := e808x
      have e811x := (ff809x.2 _ _ (wnc (by decide) wn0) (f8804x.2 _ _ (wnc (by decide) wn0) (f8798x.2 _ _ (wnc (by decide) wn0) hKn)))
      have e812x := (ff809x.2 _ _ (wnc (by decide) wn0) (f8804x.2 _ _ (wnc (by decide) wn0) (f8798x.2 _ _ (wnc (by decide) wn0) hLo)))
      have e813x := (ff809x.2 _ _ (wnc (by decide) wn0) (f8804x.2 _ _ (wnc (by decide) wn0) (f8798x.2 _ _ (wnc (by decide) wn0) hHi)))
      have e814x := (ff809x.2 _ _ (wnc (by decide) wn0) (f8804x.2 _ _ (wnc (by decide) wn0) (f8798x.2 _ _ (wnc (by decide) wn0) hSv)))
      have e815x := (ff809x.2 _ _ (wnc (by decide) wn0) (f8804x.2 _ _ (wnc (by decide) wn0) (f8798x.2 _ _ (wnc (by decide) wn0) hRt)))
      have e816x := (ff809x.2 _ _ (wnc (by decide) wn0) (f8804x.2 _ _ (wnc (by decide) wn0) (f8798x.2 _ _ (wnc (by decide) wn0) hSn)))
      have e817x := (ff809x.2 _ _ (wnc (by decide) wn0) (f8804x.2 _ _ (wnc (by decide) wn0) (f8798x.2 _ _ (wnc (by decide) wn0) hSq)))
      have e818x := (ff809x.2 _ _ (wnc (by decide) wn0) (f8804x.2 _ _ (wnc (by decide) wn0) (f8798x.2 _ _ (wnc (by decide) wn0) hWy)))
      have e819x := (ff809x.2 _ _ (wnc (by decide) wn0) (f8804x.2 _ _ (wnc (by decide) wn0) (f8798x.2 _ _ (wnc (by decide) wn0) hIt)))
      have e820x := (ff809x.2 _ _ (wnc (by decide) wn0) (f8804x.2 _ _ (wnc (by decide) wn0) (f8798x.2 _ _ (wnc (by decide) wn0) hHd)))
      have e821x := (ff809x.2 _ _ (wnc (by decide) wn0) (f8804x.2 _ _ (wnc (by decide) wn0) (f8798x.2 _ _ (wnc (by decide) wn0) hHs)))
      have hx : (mLin tb sz at9 pl so va ft fp n14 ns nw kn lo hi sv rt sn sq wy it hl hs) = ((v799x.1), (v799x.2), (v805x.1), (v805x.2.1), (v805x.2.2.1), (v805x.2.2.2), (n14 + (1 : Int32)), kn, lo, hi, sv, rt, sn, sq, wy, it, hl, hs) := by unfold mLin; rw [if_neg b1x, zlet_eq hv800x, if_pos b801x, zlet_eq hv806x]
      rw [hx]
      exact wq_ret rfl rfl ⟨hh807x, rfl, (wFr_tr (wFr_sub f8798x (by simp)) (wFr_tr (wFr_sub f8804x (by simp)) (wFr_sub ff809x (by simp)))), by omega, e808x, e811x, e812x, e813x, e814x, e815x, e816x, e817x, e818x, e819x, e820x, e821x, (by (try dsimp only); first | assumption | omega), (by (try dsimp only); first | assumption | omega), (by (try dsimp only); first | assumption | omega), (by (try dsimp only); first | assumption | omega), (by (try dsimp only); omega), (by (try dsimp only); intro q9; first | omega | exact ⟨ns, nw, hN, hL, hS, hR, hQ, hW⟩ | exact ⟨ns, nw, wNm_7 hN (by omega), hL, hS, hR, hQ, hW⟩ | exact ⟨ns, nw, wNm_8 hN (by omega), hL, hS, hR, hQ, hW⟩ | exact ⟨ns, nw, wNm_9 hN (by omega), hL, hS, hR, hQ, hW⟩ | exact ⟨ns, nw, wNm_10 hN (by omega), hL, hS, hR, hQ, hW⟩ | exact ⟨ns, nw, wNm_11 hN (by omega), hL, hS, hR, hQ, hW⟩ | exact ⟨ns, nw, hN, hX9 (by omega), hS, hR, hQ, hW⟩ | exact ⟨ns, nw, hN, hL, hX9, hR, hQ, hW⟩ | exact ⟨ns, nw, hN, hL, hS, hX9, hQ, hW⟩ | (obtain ⟨m9, a9, b9, c9⟩ := hX9 (by omega); exact ⟨m9, nw, b9, hL, hS, hR, c9, wW2_m hW a9⟩) | (obtain ⟨m9, b9, c9⟩ := hX9 (by omega); exact ⟨ns, m9, b9, hL, hS, hR, hQ, c9⟩)), (by (try dsimp only); exact ⟨by first | assumption | exact hz.1 | exact wFh_set hz.1 (by decide), by first | assumption | exact hz.2.1, by first | assumption | exact hz.2.2.1, by first | assumption | exact hz.2.2.2.1, by first | assumption | exact hz.2.2.2.2.1, by first | assumption | exact hz.2.2.2.2.2⟩)⟩
    · have q822x : (v799x.1).toInt = 0 := congrArg Int32.toInt b801x
      refine wq_gos (f := 1) (pc2 := 190) (ls2 := [(0, .ref 162)]) (st2 := [.ref 162]) (h2 := h8798x) (dc2 := 0) (ds2 := 0) 1 rfl ?_
      refine wq_getf rfl c0798x rfl rfl ?_
      refine wq_gos (f := 1) (pc2 := 194) (ls2 := [(0, .ref 162)]) (st2 := [.int 4, .int so]) (h2 := h8798x) (dc2 := 0) (ds2 := 0) 1 rfl ?_
      have q823x : (4 : Int32).toInt = 4 := rfl
      refine wq_eq2 rfl rfl (fun b824x => ?_) (fun b824x => ?_)
      · have q825x : so.toInt = 4 := congrArg Int32.toInt b824x
        refine wq_gos (f := 1) (pc2 := 203) (ls2 := [(0, .ref 162)]) (st2 := [.ref 162]) (h2 := h8798x) (dc2 := 0) (ds2 := 0) 1 rfl ?_
        have e826x := (f8798x.2 _ _ (wnc (by decide) wn0) hT)
        refine wq_inlv (y2 := 164) (as := []) rfl rfl rfl c0798x rfl (wq_mono (m_go c0798x e826x (by first | assumption | omega | decide | solve_by_elim) ⟨Nat.le_refl _, by omega⟩ (by first | assumption | omega | decide | solve_by_elim)) ?_)
        rintro _ ⟨h8827x, rfl, f8827x, l8827x, c0827x, p0827x, p1827x, p2827x, p3827x⟩
        show wq 180 206 [(0, .ref 162)] [] h8827x 0 0 _
        obtain ⟨v828x, hv829x⟩ : ∃ x, x = (mGo tb sz at9 pl so va (v799x.1)) := ⟨_, rfl⟩
        try rw [← hv829x] at c0827x
        try rw [← hv829x] at p0827x
        try rw [← hv829x] at p1827x
        try rw [← hv829x] at p2827x
        try rw [← hv829x] at p3827x
        try rw [← hv829x]
        refine wq_gos (f := 1) (pc2 := 208) (ls2 := [(0, .ref 162)]) (st2 := [.ref 162, .ref 162]) (h2 := h8827x) (dc2 := 0) (ds2 := 0) 2 rfl ?_
        refine wq_getf rfl c0827x rfl rfl ?_
        refine wq_gos (f := 1) (pc2 := 213) (ls2 := [(0, .ref 162)]) (st2 := [.int (n14 + (1 : Int32)), .ref 162]) (h2 := h8827x) (dc2 := 0) (ds2 := 0) 2 rfl ?_
        refine wq_putf rfl c0827x rfl rfl rfl ?_
        intro hh830x e831x ff832x lh833x
        have e831x : zat hh830x 162 = some (.inr (.inr (.inr (10, mO n0 n2 (n14 + (1 : Int32)) (nI sz) (nI (v828x.1)) (nI (v828x.2.1)) (v828x.2.2.1) (v828x.2.2.2) (v799x.1) (v799x.2) n22 n23 n27 n28 n32 n33 n34 n35 n39 n52)))) := e831x
        have e834x := (ff832x.2 _ _ (wnc (by decide) wn0) (f8827x.2 _ _ (wnc (by decide) wn0) (f8798x.2 _ _ (wnc (by decide) wn0) hKn)))
        have e835x := (ff832x.2 _ _ (wnc (by decide) wn0) (f8827x.2 _ _ (wnc (by decide) wn0) (f8798x.2 _ _ (wnc (by decide) wn0) hLo)))
        have e836x := (ff832x.2 _ _ (wnc (by decide) wn0) (f8827x.2 _ _ (wnc (by decide) wn0) (f8798x.2 _ _ (wnc (by decide) wn0) hHi)))
        have e837x := (ff832x.2 _ _ (wnc (by decide) wn0) (f8827x.2 _ _ (wnc (by decide) wn0) (f8798x.2 _ _ (wnc (by decide) wn0) hSv)))
        have e838x := (ff832x.2 _ _ (wnc (by decide) wn0) (f8827x.2 _ _ (wnc (by decide) wn0) (f8798x.2 _ _ (wnc (by decide) wn0) hRt)))
        have e839x := (ff832x.2 _ _ (wnc (by decide) wn0) (f8827x.2 _ _ (wnc (by decide) wn0) (f8798x.2 _ _ (wnc (by decide) wn0) hSn)))
        have e840x := (ff832x.2 _ _ (wnc (by decide) wn0) (f8827x.2 _ _ (wnc (by decide) wn0) (f8798x.2 _ _ (wnc (by decide) wn0) hSq)))
        have e841x := (ff832x.2 _ _ (wnc (by decide) wn0) (f8827x.2 _ _ (wnc (by decide) wn0) (f8798x.2 _ _ (wnc (by decide) wn0) hWy)))
        have e842x := (ff832x.2 _ _ (wnc (by decide) wn0) (f8827x.2 _ _ (wnc (by decide) wn0) (f8798x.2 _ _ (wnc (by decide) wn0) hIt)))
        have e843x := (ff832x.2 _ _ (wnc (by decide) wn0) (f8827x.2 _ _ (wnc (by decide) wn0) (f8798x.2 _ _ (wnc (by decide) wn0) hHd)))
        have e844x := (ff832x.2 _ _ (wnc (by decide) wn0) (f8827x.2 _ _ (wnc (by decide) wn0) (f8798x.2 _ _ (wnc (by decide) wn0) hHs)))
        have hx : (mLin tb sz at9 pl so va ft fp n14 ns nw kn lo hi sv rt sn sq wy it hl hs) = ((v799x.1), (v799x.2), (v828x.1), (v828x.2.1), (v828x.2.2.1), (v828x.2.2.2), (n14 + (1 : Int32)), kn, lo, hi, sv, rt, sn, sq, wy, it, hl, hs) := by unfold mLin; rw [if_neg b1x, zlet_eq hv800x, if_neg (fun q => q b801x), if_pos b824x, zlet_eq hv829x]
        rw [hx]
        exact wq_ret rfl rfl ⟨hh830x, rfl, (wFr_tr (wFr_sub f8798x (by simp)) (wFr_tr (wFr_sub f8827x (by simp)) (wFr_sub ff832x (by simp)))), by omega, e831x, e834x, e835x, e836x, e837x, e838x, e839x, e840x, e841x, e842x, e843x, e844x, (by (try dsimp only); first | assumption | omega), (by (try dsimp only); first | assumption | omega), (by (try dsimp only); first | assumption | omega), (by (try dsimp only); first | assumption | omega), (by (try dsimp only); omega), (by (try dsimp only); intro q9; first | omega | exact ⟨ns, nw, hN, hL, hS, hR, hQ, hW⟩ | exact ⟨ns, nw, wNm_7 hN (by omega), hL, hS, hR, hQ, hW⟩ | exact ⟨ns, nw, wNm_8 hN (by omega), hL, hS, hR, hQ, hW⟩ | exact ⟨ns, nw, wNm_9 hN (by omega), hL, hS, hR, hQ, hW⟩ | exact ⟨ns, nw, wNm_10 hN (by omega), hL, hS, hR, hQ, hW⟩ | exact ⟨ns, nw, wNm_11 hN (by omega), hL, hS, hR, hQ, hW⟩ | exact ⟨ns, nw, hN, hX9 (by omega), hS, hR, hQ, hW⟩ | exact ⟨ns, nw, hN, hL, hX9, hR, hQ, hW⟩ | exact ⟨ns, nw, hN, hL, hS, hX9, hQ, hW⟩ | (obtain ⟨m9, a9, b9, c9⟩ := hX9 (by omega); exact ⟨m9, nw, b9, hL, hS, hR, c9, wW2_m hW a9⟩) | (obtain ⟨m9, b9, c9⟩ := hX9 (by omega); exact ⟨ns, m9, b9, hL, hS, hR, hQ, c9⟩)), (by (try dsimp only); exact ⟨by first | assumption | exact hz.1 | exact wFh_set hz.1 (by decide), by first | assumption | exact hz.2.1, by first | assumption | exact hz.2.2.1, by first | assumption | exact hz.2.2.2.1, by first | assumption | exact hz.2.2.2.2.1, by first | assumption | exact hz.2.2.2.2.2⟩)⟩
      · have q845x : so.toInt ≠ 4 := fun q => b824x (Int32.toInt_inj.mp q)
        refine wq_gos (f := 1) (pc2 := 199) (ls2 := [(0, .ref 162)]) (st2 := [.int 1, .ref 162]) (h2 := h8798x) (dc2 := 0) (ds2 := 0) 2 rfl ?_
        refine wq_inlv (y2 := 163) (as := [.int 1]) rfl rfl rfl c0798x rfl (wq_mono (m_wro c0798x (by first | assumption | omega | decide | solve_by_elim) (by first | assumption | omega | decide | solve_by_elim)) ?_)
        rintro _ ⟨h8846x, rfl, f8846x, l8846x, c0846x, p0846x⟩
        show wq 180 202 [(0, .ref 162)] [] h8846x 0 0 _
        obtain ⟨v847x, hv848x⟩ : ∃ x, x = (mWro pl (v799x.1) (v799x.2) (1 : Int32)) := ⟨_, rfl⟩
        try rw [← hv848x] at c0846x
        try rw [← hv848x] at p0846x
        try rw [← hv848x]
        refine wq_gos (f := 1) (pc2 := 203) (ls2 := [(0, .ref 162)]) (st2 := [.ref 162]) (h2 := h8846x) (dc2 := 0) (ds2 := 0) 1 rfl ?_
        have e849x := (f8846x.2 _ _ (wnc (by decide) wn0) (f8798x.2 _ _ (wnc (by decide) wn0) hT))
        refine wq_inlv (y2 := 164) (as := []) rfl rfl rfl c0846x rfl (wq_mono (m_go c0846x e849x (by first | assumption | omega | decide | solve_by_elim) ⟨Nat.le_refl _, by omega⟩ (by first | assumption | omega | decide | solve_by_elim)) ?_)
        rintro _ ⟨h8850x, rfl, f8850x, l8850x, c0850x, p0850x, p1850x, p2850x, p3850x⟩
        show wq 180 206 [(0, .ref 162)] [] h8850x 0 0 _
        obtain ⟨v851x, hv852x⟩ : ∃ x, x = (mGo tb sz at9 pl so va (v847x.1)) := ⟨_, rfl⟩
        try rw [← hv852x] at c0850x
        try rw [← hv852x] at p0850x
        try rw [← hv852x] at p1850x
        try rw [← hv852x] at p2850x
        try rw [← hv852x] at p3850x
        try rw [← hv852x]
        refine wq_gos (f := 1) (pc2 := 208) (ls2 := [(0, .ref 162)]) (st2 := [.ref 162, .ref 162]) (h2 := h8850x) (dc2 := 0) (ds2 := 0) 2 rfl ?_
        refine wq_getf rfl c0850x rfl rfl ?_
        refine wq_gos (f := 1) (pc2 := 213) (ls2 := [(0, .ref 162)]) (st2 := [.int (n14 + (1 : Int32)), .ref 162]) (h2 := h8850x) (dc2 := 0) (ds2 := 0) 2 rfl ?_
        refine wq_putf rfl c0850x rfl rfl rfl ?_
        intro hh853x e854x ff855x lh856x
        have e854x : zat hh853x 162 = some (.inr (.inr (.inr (10, mO n0 n2 (n14 + (1 : Int32)) (nI sz) (nI (v851x.1)) (nI (v851x.2.1)) (v851x.2.2.1) (v851x.2.2.2) (v847x.1) (v847x.2) n22 n23 n27 n28 n32 n33 n34 n35 n39 n52)))) := e854x
        have e857x := (ff855x.2 _ _ (wnc (by decide) wn0) (f8850x.2 _ _ (wnc (by decide) wn0) (f8846x.2 _ _ (wnc (by decide) wn0) (f8798x.2 _ _ (wnc (by decide) wn0) hKn))))
        have e858x := (ff855x.2 _ _ (wnc (by decide) wn0) (f8850x.2 _ _ (wnc (by decide) wn0) (f8846x.2 _ _ (wnc (by decide) wn0) (f8798x.2 _ _ (wnc (by decide) wn0) hLo))))
        have e859x := (ff855x.2 _ _ (wnc (by decide) wn0) (f8850x.2 _ _ (wnc (by decide) wn0) (f8846x.2 _ _ (wnc (by decide) wn0) (f8798x.2 _ _ (wnc (by decide) wn0) hHi))))
        have e860x := (ff855x.2 _ _ (wnc (by decide) wn0) (f8850x.2 _ _ (wnc (by decide) wn0) (f8846x.2 _ _ (wnc (by decide) wn0) (f8798x.2 _ _ (wnc (by decide) wn0) hSv))))
        have e861x := (ff855x.2 _ _ (wnc (by decide) wn0) (f8850x.2 _ _ (wnc (by decide) wn0) (f8846x.2 _ _ (wnc (by decide) wn0) (f8798x.2 _ _ (wnc (by decide) wn0) hRt))))
        have e862x := (ff855x.2 _ _ (wnc (by decide) wn0) (f8850x.2 _ _ (wnc (by decide) wn0) (f8846x.2 _ _ (wnc (by decide) wn0) (f8798x.2 _ _ (wnc (by decide) wn0) hSn))))
        have e863x := (ff855x.2 _ _ (wnc (by decide) wn0) (f8850x.2 _ _ (wnc (by decide) wn0) (f8846x.2 _ _ (wnc (by decide) wn0) (f8798x.2 _ _ (wnc (by decide) wn0) hSq))))
        have e864x := (ff855x.2 _ _ (wnc (by decide) wn0) (f8850x.2 _ _ (wnc (by decide) wn0) (f8846x.2 _ _ (wnc (by decide) wn0) (f8798x.2 _ _ (wnc (by decide) wn0) hWy))))
        have e865x := (ff855x.2 _ _ (wnc (by decide) wn0) (f8850x.2 _ _ (wnc (by decide) wn0) (f8846x.2 _ _ (wnc (by decide) wn0) (f8798x.2 _ _ (wnc (by decide) wn0) hIt))))
        have e866x := (ff855x.2 _ _ (wnc (by decide) wn0) (f8850x.2 _ _ (wnc (by decide) wn0) (f8846x.2 _ _ (wnc (by decide) wn0) (f8798x.2 _ _ (wnc (by decide) wn0) hHd))))
        have e867x := (ff855x.2 _ _ (wnc (by decide) wn0) (f8850x.2 _ _ (wnc (by decide) wn0) (f8846x.2 _ _ (wnc (by decide) wn0) (f8798x.2 _ _ (wnc (by decide) wn0) hHs))))
        have hx : (mLin tb sz at9 pl so va ft fp n14 ns nw kn lo hi sv rt sn sq wy it hl hs) = ((v847x.1), (v847x.2), (v851x.1), (v851x.2.1), (v851x.2.2.1), (v851x.2.2.2), (n14 + (1 : Int32)), kn, lo, hi, sv, rt, sn, sq, wy, it, hl, hs) := by unfold mLin; rw [if_neg b1x, zlet_eq hv800x, if_neg (fun q => q b801x), if_neg b824x, zlet_eq hv848x, zlet_eq hv852x]
        rw [hx]
        exact wq_ret rfl rfl ⟨hh853x, rfl, (wFr_tr (wFr_sub f8798x (by simp)) (wFr_tr (wFr_sub f8846x (by simp)) (wFr_tr (wFr_sub f8850x (by simp)) (wFr_sub ff855x (by simp))))), by omega, e854x, e857x, e858x, e859x, e860x, e861x, e862x, e863x, e864x, e865x, e866x, e867x, (by (try dsimp only); first | assumption | omega), (by (try dsimp only); first | assumption | omega), (by (try dsimp only); first | assumption | omega), (by (try dsimp only); first | assumption | omega), (by (try dsimp only); omega), (by (try dsimp only); intro q9; first | omega | exact ⟨ns, nw, hN, hL, hS, hR, hQ, hW⟩ | exact ⟨ns, nw, wNm_7 hN (by omega), hL, hS, hR, hQ, hW⟩ | exact ⟨ns, nw, wNm_8 hN (by omega), hL, hS, hR, hQ, hW⟩ | exact ⟨ns, nw, wNm_9 hN (by omega), hL, hS, hR, hQ, hW⟩ | exact ⟨ns, nw, wNm_10 hN (by omega), hL, hS, hR, hQ, hW⟩ | exact ⟨ns, nw, wNm_11 hN (by omega), hL, hS, hR, hQ, hW⟩ | exact ⟨ns, nw, hN, hX9 (by omega), hS, hR, hQ, hW⟩ | exact ⟨ns, nw, hN, hL, hX9, hR, hQ, hW⟩ | exact ⟨ns, nw, hN, hL, hS, hX9, hQ, hW⟩ | (obtain ⟨m9, a9, b9, c9⟩ := hX9 (by omega); exact ⟨m9, nw, b9, hL, hS, hR, c9, wW2_m hW a9⟩) | (obtain ⟨m9, b9, c9⟩ := hX9 (by omega); exact ⟨ns, m9, b9, hL, hS, hR, hQ, c9⟩)), (by (try dsimp only); exact ⟨by first | assumption | exact hz.1 | exact wFh_set hz.1 (by decide), by first | assumption | exact hz.2.1, by first | assumption | exact hz.2.2.1, by first | assumption | exact hz.2.2.2.1, by first | assumption | exact hz.2.2.2.2.1, by first | assumption | exact hz.2.2.2.2.2⟩)⟩
