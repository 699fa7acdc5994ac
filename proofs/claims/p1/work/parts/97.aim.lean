/-! set and aimBy: ops 6, 11. -/
theorem lgc_ge {x y : Int64} (h : y.toInt ≤ x.toInt) : 0 ≤ (lg_cmp x y).toInt := Int32.le_iff_toInt_le.mp ((lg_cmp_ge x y).mpr (Int64.le_iff_toInt_le.mpr h))
theorem lgc_le {x y : Int64} (h : x.toInt ≤ y.toInt) : (lg_cmp x y).toInt ≤ 0 := Int32.le_iff_toInt_le.mp ((lg_cmp_le x y).mpr (Int64.le_iff_toInt_le.mpr h))
theorem lgc_gt {x y : Int64} (h : y.toInt < x.toInt) : 0 < (lg_cmp x y).toInt := Int32.lt_iff_toInt_lt.mp ((lg_cmp_gt x y).mpr (Int64.lt_iff_toInt_lt.mpr h))
theorem lgc_lt {x y : Int64} (h : x.toInt < y.toInt) : (lg_cmp x y).toInt < 0 := Int32.lt_iff_toInt_lt.mp ((lg_cmp_lt x y).mpr (Int64.lt_iff_toInt_lt.mpr h))
theorem c_setL {h : zH} {jj v : Int32} (hj : jj.toInt < 0) : zT zg0 zF zP 107 0 [(0, .ref 0), (1, .int jj), (2, .int v)] [] h 0 0 (some (.int 0), h, 0, 0) := by
  have e_0 : (0 : Int32).toInt = 0 := rfl
  have e3 : (3 : Int32).toInt = 3 := rfl
  have e5 : (5 : Int32).toInt = 5 := rfl
  have e6 : (6 : Int32).toInt = 6 := rfl
  apply wq_toT
  refine wq_gos (f := 1) (pc2 := 1) (ls2 := [(0, .ref 0), (1, .int jj), (2, .int v)]) (st2 := [.int jj]) (h2 := h) (dc2 := 0) (ds2 := 0) 1 rfl ?_
  refine wq_inl (y2 := 144) (as := [.int jj]) rfl rfl rfl ?_
  show wq 144 0 [(0, .int jj)] [] h 0 0 _
  refine wq_gos (f := 1) (pc2 := 1) (ls2 := [(0, .int jj)]) (st2 := [.int jj]) (h2 := h) (dc2 := 0) (ds2 := 0) 1 rfl ?_
  refine wq_lt0t rfl (by omega) ?_
  refine wq_gos (f := 1) (pc2 := 15) (ls2 := [(0, .int jj)]) (st2 := [.int 1]) (h2 := h) (dc2 := 0) (ds2 := 0) 2 rfl ?_
  refine wq_ret rfl rfl ?_
  show wq 107 4 [(0, .ref 0), (1, .int jj), (2, .int v)] [.int 1] h 0 0 _
  refine wq_gos (f := 1) (pc2 := 20) (ls2 := [(0, .ref 0), (1, .int jj), (2, .int v)]) (st2 := [.int 0]) (h2 := h) (dc2 := 0) (ds2 := 0) 2 rfl ?_
  exact wq_ret rfl rfl rfl
theorem m_setL {h : zH} {fs : List Value} (hM : zat h 162 = some (.inr (.inr (.inr (10, fs))))) (hC : mC fs) {jj v : Int32} (hj : jj.toInt < 0) : wq 212 0 [(0, .ref 162), (1, .int jj), (2, .int v)] [] h 0 0 (fun r => ∃ h2, r = (some (.int 0), h2, 0, 0)) := by
  have e_0 : (0 : Int32).toInt = 0 := rfl
  have e3 : (3 : Int32).toInt = 3 := rfl
  have e5 : (5 : Int32).toInt = 5 := rfl
  have e6 : (6 : Int32).toInt = 6 := rfl
  refine wq_gos (f := 1) (pc2 := 2) (ls2 := [(0, .ref 162), (1, .int jj), (2, .int v)]) (st2 := [.int 0, .ref 162]) (h2 := h) (dc2 := 0) (ds2 := 0) 2 rfl ?_
  refine wq_putf rfl hM rfl (by rw [hC.1]; rfl) rfl ?_
  intro h1x e2x f3x l4x
  obtain ⟨fs5x, hf6x⟩ : ∃ x, x = fs.set 0 (.int 0) := ⟨_, rfl⟩
  rw [← hf6x] at e2x
  have hC7x : mC fs5x := by rw [hf6x]; exact mC_set hC (by decide) _
  have p8x : fs5x[0]? = some (.int 0) := by rw [hf6x]; exact List.getElem?_set_self (by rw [hC.1]; decide)
  refine wq_gos (f := 1) (pc2 := 6) (ls2 := [(0, .ref 162), (1, .int jj), (2, .int v)]) (st2 := [.int jj]) (h2 := h1x) (dc2 := 0) (ds2 := 0) 1 rfl ?_
  refine wq_inl (y2 := 208) (as := [.int jj]) rfl rfl rfl ?_
  show wq 208 0 [(0, .int jj)] [] h1x 0 0 _
  refine wq_gos (f := 1) (pc2 := 1) (ls2 := [(0, .int jj)]) (st2 := [.int jj]) (h2 := h1x) (dc2 := 0) (ds2 := 0) 1 rfl ?_
  refine wq_lt0t rfl (by omega) ?_
  refine wq_gos (f := 1) (pc2 := 15) (ls2 := [(0, .int jj)]) (st2 := [.int 0]) (h2 := h1x) (dc2 := 0) (ds2 := 0) 1 rfl ?_
  refine wq_ret rfl rfl ?_
  show wq 212 9 [(0, .ref 162), (1, .int jj), (2, .int v)] [.int 0] h1x 0 0 _
  refine wq_gos (f := 1) (pc2 := 22) (ls2 := [(0, .ref 162), (1, .int jj), (2, .int v)]) (st2 := [.int 0]) (h2 := h1x) (dc2 := 0) (ds2 := 0) 2 rfl ?_
  exact wq_ret rfl rfl ⟨h1x, rfl⟩
theorem c_aimL {h : zH} {jj : Int32} {v : Int64} (hj : jj.toInt < 0) : zT zg0 zF zP 112 0 [(0, .ref 0), (1, .int jj), (2, .long v)] [] h 0 0 (some (.int 0), h, 0, 0) := by
  have e_0 : (0 : Int32).toInt = 0 := rfl
  have e3 : (3 : Int32).toInt = 3 := rfl
  have e5 : (5 : Int32).toInt = 5 := rfl
  have e6 : (6 : Int32).toInt = 6 := rfl
  apply wq_toT
  refine wq_gos (f := 1) (pc2 := 1) (ls2 := [(0, .ref 0), (1, .int jj), (2, .long v)]) (st2 := [.int jj]) (h2 := h) (dc2 := 0) (ds2 := 0) 1 rfl ?_
  refine wq_lt0t rfl (by omega) ?_
  refine wq_gos (f := 1) (pc2 := 10) (ls2 := [(0, .ref 0), (1, .int jj), (2, .long v)]) (st2 := [.int 0]) (h2 := h) (dc2 := 0) (ds2 := 0) 1 rfl ?_
  exact wq_ret rfl rfl rfl
theorem m_aimL {h : zH} {fs : List Value} (hM : zat h 162 = some (.inr (.inr (.inr (10, fs))))) (hC : mC fs) {jj : Int32} {v : Int64} (hj : jj.toInt < 0) : wq 218 0 [(0, .ref 162), (1, .int jj), (2, .long v)] [] h 0 0 (fun r => ∃ h2, r = (some (.int 0), h2, 0, 0)) := by
  have e_0 : (0 : Int32).toInt = 0 := rfl
  have e3 : (3 : Int32).toInt = 3 := rfl
  have e5 : (5 : Int32).toInt = 5 := rfl
  have e6 : (6 : Int32).toInt = 6 := rfl
  refine wq_gos (f := 1) (pc2 := 2) (ls2 := [(0, .ref 162), (1, .int jj), (2, .long v)]) (st2 := [.int 0, .ref 162]) (h2 := h) (dc2 := 0) (ds2 := 0) 2 rfl ?_
  refine wq_putf rfl hM rfl (by rw [hC.1]; rfl) rfl ?_
  intro h1x e2x f3x l4x
  obtain ⟨fs5x, hf6x⟩ : ∃ x, x = fs.set 0 (.int 0) := ⟨_, rfl⟩
  rw [← hf6x] at e2x
  have hC7x : mC fs5x := by rw [hf6x]; exact mC_set hC (by decide) _
  have p8x : fs5x[0]? = some (.int 0) := by rw [hf6x]; exact List.getElem?_set_self (by rw [hC.1]; decide)
  refine wq_gos (f := 1) (pc2 := 7) (ls2 := [(0, .ref 162), (1, .int jj), (2, .long v)]) (st2 := [.int 3, .int jj]) (h2 := h1x) (dc2 := 0) (ds2 := 0) 2 rfl ?_
  refine wq_ge2f rfl rfl (by omega) ?_
  refine wq_gos (f := 1) (pc2 := 22) (ls2 := [(4, .long 1000000000), (0, .ref 162), (1, .int jj), (2, .long v)]) (st2 := [.int jj]) (h2 := h1x) (dc2 := 0) (ds2 := 0) 4 rfl ?_
  refine wq_inl (y2 := 208) (as := [.int jj]) rfl rfl rfl ?_
  show wq 208 0 [(0, .int jj)] [] h1x 0 0 _
  refine wq_gos (f := 1) (pc2 := 1) (ls2 := [(0, .int jj)]) (st2 := [.int jj]) (h2 := h1x) (dc2 := 0) (ds2 := 0) 1 rfl ?_
  refine wq_lt0t rfl (by omega) ?_
  refine wq_gos (f := 1) (pc2 := 15) (ls2 := [(0, .int jj)]) (st2 := [.int 0]) (h2 := h1x) (dc2 := 0) (ds2 := 0) 1 rfl ?_
  refine wq_ret rfl rfl ?_
  show wq 218 25 [(4, .long 1000000000), (0, .ref 162), (1, .int jj), (2, .long v)] [.int 0] h1x 0 0 _
  refine wq_gos (f := 1) (pc2 := 53) (ls2 := [(4, .long 1000000000), (0, .ref 162), (1, .int jj), (2, .long v)]) (st2 := [.int 0]) (h2 := h1x) (dc2 := 0) (ds2 := 0) 2 rfl ?_
  exact wq_ret rfl rfl ⟨h1x, rfl⟩
theorem c_setH {h : zH} {jj v : Int32} (hj : 6 ≤ jj.toInt) : zT zg0 zF zP 107 0 [(0, .ref 0), (1, .int jj), (2, .int v)] [] h 0 0 (some (.int 0), h, 0, 0) := by
  have e_0 : (0 : Int32).toInt = 0 := rfl
  have e3 : (3 : Int32).toInt = 3 := rfl
  have e5 : (5 : Int32).toInt = 5 := rfl
  have e6 : (6 : Int32).toInt = 6 := rfl
  apply wq_toT
  refine wq_gos (f := 1) (pc2 := 1) (ls2 := [(0, .ref 0), (1, .int jj), (2, .int v)]) (st2 := [.int jj]) (h2 := h) (dc2 := 0) (ds2 := 0) 1 rfl ?_
  refine wq_inl (y2 := 144) (as := [.int jj]) rfl rfl rfl ?_
  show wq 144 0 [(0, .int jj)] [] h 0 0 _
  refine wq_gos (f := 1) (pc2 := 1) (ls2 := [(0, .int jj)]) (st2 := [.int jj]) (h2 := h) (dc2 := 0) (ds2 := 0) 1 rfl ?_
  refine wq_lt0f rfl rfl (by omega) ?_
  refine wq_gos (f := 1) (pc2 := 7) (ls2 := [(0, .int jj)]) (st2 := [.int 6, .int jj]) (h2 := h) (dc2 := 0) (ds2 := 0) 2 rfl ?_
  refine wq_lt2f rfl rfl (by omega) ?_
  refine wq_gos (f := 1) (pc2 := 15) (ls2 := [(0, .int jj)]) (st2 := [.int 1]) (h2 := h) (dc2 := 0) (ds2 := 0) 2 rfl ?_
  refine wq_ret rfl rfl ?_
  show wq 107 4 [(0, .ref 0), (1, .int jj), (2, .int v)] [.int 1] h 0 0 _
  refine wq_gos (f := 1) (pc2 := 20) (ls2 := [(0, .ref 0), (1, .int jj), (2, .int v)]) (st2 := [.int 0]) (h2 := h) (dc2 := 0) (ds2 := 0) 2 rfl ?_
  exact wq_ret rfl rfl rfl
theorem m_setH {h : zH} {fs : List Value} (hM : zat h 162 = some (.inr (.inr (.inr (10, fs))))) (hC : mC fs) {jj v : Int32} (hj : 6 ≤ jj.toInt) : wq 212 0 [(0, .ref 162), (1, .int jj), (2, .int v)] [] h 0 0 (fun r => ∃ h2, r = (some (.int 0), h2, 0, 0)) := by
  have e_0 : (0 : Int32).toInt = 0 := rfl
  have e3 : (3 : Int32).toInt = 3 := rfl
  have e5 : (5 : Int32).toInt = 5 := rfl
  have e6 : (6 : Int32).toInt = 6 := rfl
  refine wq_gos (f := 1) (pc2 := 2) (ls2 := [(0, .ref 162), (1, .int jj), (2, .int v)]) (st2 := [.int 0, .ref 162]) (h2 := h) (dc2 := 0) (ds2 := 0) 2 rfl ?_
  refine wq_putf rfl hM rfl (by rw [hC.1]; rfl) rfl ?_
  intro h1x e2x f3x l4x
  obtain ⟨fs5x, hf6x⟩ : ∃ x, x = fs.set 0 (.int 0) := ⟨_, rfl⟩
  rw [← hf6x] at e2x
  have hC7x : mC fs5x := by rw [hf6x]; exact mC_set hC (by decide) _
  have p8x : fs5x[0]? = some (.int 0) := by rw [hf6x]; exact List.getElem?_set_self (by rw [hC.1]; decide)
  refine wq_gos (f := 1) (pc2 := 6) (ls2 := [(0, .ref 162), (1, .int jj), (2, .int v)]) (st2 := [.int jj]) (h2 := h1x) (dc2 := 0) (ds2 := 0) 1 rfl ?_
  refine wq_inl (y2 := 208) (as := [.int jj]) rfl rfl rfl ?_
  show wq 208 0 [(0, .int jj)] [] h1x 0 0 _
  refine wq_gos (f := 1) (pc2 := 1) (ls2 := [(0, .int jj)]) (st2 := [.int jj]) (h2 := h1x) (dc2 := 0) (ds2 := 0) 1 rfl ?_
  refine wq_lt0f rfl rfl (by omega) ?_
  refine wq_gos (f := 1) (pc2 := 7) (ls2 := [(0, .int jj)]) (st2 := [.int 6, .int jj]) (h2 := h1x) (dc2 := 0) (ds2 := 0) 2 rfl ?_
  refine wq_ge2t rfl (by omega) ?_
  refine wq_gos (f := 1) (pc2 := 15) (ls2 := [(0, .int jj)]) (st2 := [.int 0]) (h2 := h1x) (dc2 := 0) (ds2 := 0) 1 rfl ?_
  refine wq_ret rfl rfl ?_
  show wq 212 9 [(0, .ref 162), (1, .int jj), (2, .int v)] [.int 0] h1x 0 0 _
  refine wq_gos (f := 1) (pc2 := 22) (ls2 := [(0, .ref 162), (1, .int jj), (2, .int v)]) (st2 := [.int 0]) (h2 := h1x) (dc2 := 0) (ds2 := 0) 2 rfl ?_
  exact wq_ret rfl rfl ⟨h1x, rfl⟩
theorem c_aimH {h : zH} {jj : Int32} {v : Int64} (hj : 6 ≤ jj.toInt) : zT zg0 zF zP 112 0 [(0, .ref 0), (1, .int jj), (2, .long v)] [] h 0 0 (some (.int 0), h, 0, 0) := by
  have e_0 : (0 : Int32).toInt = 0 := rfl
  have e3 : (3 : Int32).toInt = 3 := rfl
  have e5 : (5 : Int32).toInt = 5 := rfl
  have e6 : (6 : Int32).toInt = 6 := rfl
  apply wq_toT
  refine wq_gos (f := 1) (pc2 := 1) (ls2 := [(0, .ref 0), (1, .int jj), (2, .long v)]) (st2 := [.int jj]) (h2 := h) (dc2 := 0) (ds2 := 0) 1 rfl ?_
  refine wq_lt0f rfl rfl (by omega) ?_
  refine wq_gos (f := 1) (pc2 := 6) (ls2 := [(0, .ref 0), (1, .int jj), (2, .long v)]) (st2 := [.int 5, .int jj]) (h2 := h) (dc2 := 0) (ds2 := 0) 2 rfl ?_
  refine wq_le2f rfl rfl (by omega) ?_
  refine wq_gos (f := 1) (pc2 := 10) (ls2 := [(0, .ref 0), (1, .int jj), (2, .long v)]) (st2 := [.int 0]) (h2 := h) (dc2 := 0) (ds2 := 0) 1 rfl ?_
  exact wq_ret rfl rfl rfl
theorem m_aimH {h : zH} {fs : List Value} (hM : zat h 162 = some (.inr (.inr (.inr (10, fs))))) (hC : mC fs) {jj : Int32} {v : Int64} (hj : 6 ≤ jj.toInt) : wq 218 0 [(0, .ref 162), (1, .int jj), (2, .long v)] [] h 0 0 (fun r => ∃ h2, r = (some (.int 0), h2, 0, 0)) := by
  have e_0 : (0 : Int32).toInt = 0 := rfl
  have e3 : (3 : Int32).toInt = 3 := rfl
  have e5 : (5 : Int32).toInt = 5 := rfl
  have e6 : (6 : Int32).toInt = 6 := rfl
  refine wq_gos (f := 1) (pc2 := 2) (ls2 := [(0, .ref 162), (1, .int jj), (2, .long v)]) (st2 := [.int 0, .ref 162]) (h2 := h) (dc2 := 0) (ds2 := 0) 2 rfl ?_
  refine wq_putf rfl hM rfl (by rw [hC.1]; rfl) rfl ?_
  intro h1x e2x f3x l4x
  obtain ⟨fs5x, hf6x⟩ : ∃ x, x = fs.set 0 (.int 0) := ⟨_, rfl⟩
  rw [← hf6x] at e2x
  have hC7x : mC fs5x := by rw [hf6x]; exact mC_set hC (by decide) _
  have p8x : fs5x[0]? = some (.int 0) := by rw [hf6x]; exact List.getElem?_set_self (by rw [hC.1]; decide)
  refine wq_gos (f := 1) (pc2 := 7) (ls2 := [(0, .ref 162), (1, .int jj), (2, .long v)]) (st2 := [.int 3, .int jj]) (h2 := h1x) (dc2 := 0) (ds2 := 0) 2 rfl ?_
  refine wq_ge2t rfl (by omega) ?_
  refine wq_gos (f := 1) (pc2 := 22) (ls2 := [(4, .long 63), (0, .ref 162), (1, .int jj), (2, .long v)]) (st2 := [.int jj]) (h2 := h1x) (dc2 := 0) (ds2 := 0) 3 rfl ?_
  refine wq_inl (y2 := 208) (as := [.int jj]) rfl rfl rfl ?_
  show wq 208 0 [(0, .int jj)] [] h1x 0 0 _
  refine wq_gos (f := 1) (pc2 := 1) (ls2 := [(0, .int jj)]) (st2 := [.int jj]) (h2 := h1x) (dc2 := 0) (ds2 := 0) 1 rfl ?_
  refine wq_lt0f rfl rfl (by omega) ?_
  refine wq_gos (f := 1) (pc2 := 7) (ls2 := [(0, .int jj)]) (st2 := [.int 6, .int jj]) (h2 := h1x) (dc2 := 0) (ds2 := 0) 2 rfl ?_
  refine wq_ge2t rfl (by omega) ?_
  refine wq_gos (f := 1) (pc2 := 15) (ls2 := [(0, .int jj)]) (st2 := [.int 0]) (h2 := h1x) (dc2 := 0) (ds2 := 0) 1 rfl ?_
  refine wq_ret rfl rfl ?_
  show wq 218 25 [(4, .long 63), (0, .ref 162), (1, .int jj), (2, .long v)] [.int 0] h1x 0 0 _
  refine wq_gos (f := 1) (pc2 := 53) (ls2 := [(4, .long 63), (0, .ref 162), (1, .int jj), (2, .long v)]) (st2 := [.int 0]) (h2 := h1x) (dc2 := 0) (ds2 := 0) 2 rfl ?_
  exact wq_ret rfl rfl ⟨h1x, rfl⟩
theorem c_setN0 {h : zH} {ra rl rg rv rn rp rw : Nat} {lk hd ht bl sd sp so : Int32} {rt : Int64} {ll lg : List Int32} {rd : Nat} {ta im : Int32} {ps ip : Int64} (hX : zat h 0 = some (.inr (.inr (.inr (9, [.ref 2, .int ta, .ref 4, .ref ra, .ref rd, .long ps, .ref 34, .ref 36, .int im, .long ip, .ref 42, .ref 44, .ref 60, .ref 66, .ref 72, .ref 74, .ref 150, .ref 158]))))) (hA : zat h ra = some (.inr (.inr (.inr (0, [.int lk, .int hd, .int ht, .int bl, .int sd, .long rt, .ref rl, .ref rg, .ref rv, .int sp, .ref rn, .ref rp, .int so, .ref rw]))))) (hL : zat h rl = some (.inl (0, 6, ll))) (hG : zat h rg = some (.inl (0, 6, lg))) (v : Int32) (hal : jallow ll lg 0 v = false) : zT zg0 zF zP 107 0 [(0, .ref 0), (1, .int 0), (2, .int v)] [] h 0 0 (some (.int 0), h, 0, 0) := by
  apply wq_toT
  refine wq_gos (f := 1) (pc2 := 1) (ls2 := [(0, .ref 0), (1, .int 0), (2, .int v)]) (st2 := [.int 0]) (h2 := h) (dc2 := 0) (ds2 := 0) 1 rfl ?_
  refine wq_inl (y2 := 144) (as := [.int 0]) rfl rfl rfl ?_
  show wq 144 0 [(0, .int 0)] [] h 0 0 _
  refine wq_gos (f := 1) (pc2 := 15) (ls2 := [(0, .int 0)]) (st2 := [.int 0]) (h2 := h) (dc2 := 0) (ds2 := 0) 6 rfl ?_
  refine wq_ret rfl rfl ?_
  show wq 107 4 [(0, .ref 0), (1, .int 0), (2, .int v)] [.int 0] h 0 0 _
  refine wq_gos (f := 1) (pc2 := 8) (ls2 := [(0, .ref 0), (1, .int 0), (2, .int v)]) (st2 := [.ref 0]) (h2 := h) (dc2 := 0) (ds2 := 0) 2 rfl ?_
  refine wq_getf rfl hX rfl rfl ?_
  refine wq_gos (f := 1) (pc2 := 13) (ls2 := [(0, .ref 0), (1, .int 0), (2, .int v)]) (st2 := [.int v, .int 0, .ref ra]) (h2 := h) (dc2 := 0) (ds2 := 0) 2 rfl ?_
  cases q1x : jallow ll lg (0 : Int32) v with
  | false =>
    refine wq_inlv (y2 := 3) (as := [.int 0, .int v]) rfl rfl rfl hA rfl (wq_T (show zT zg0 zF zP 3 0 [(0, .ref ra), (1, .int 0), (2, .int v)] [] h 0 0 (some (.int 0), h, 0, 0) from by have q9 := c_allows hA hL hG (j := (0 : Int32)) rfl v; rw [q1x] at q9; exact q9) ?_)
    show wq 107 16 [(0, .ref 0), (1, .int 0), (2, .int v)] [.int 0] h 0 0 _
    refine wq_gos (f := 1) (pc2 := 20) (ls2 := [(0, .ref 0), (1, .int 0), (2, .int v)]) (st2 := [.int 0]) (h2 := h) (dc2 := 0) (ds2 := 0) 2 rfl ?_
    exact wq_ret rfl rfl rfl
  | true =>
    refine wq_inlv (y2 := 3) (as := [.int 0, .int v]) rfl rfl rfl hA rfl (wq_T (show zT zg0 zF zP 3 0 [(0, .ref ra), (1, .int 0), (2, .int v)] [] h 0 0 (some (.int 1), h, 0, 0) from by have q9 := c_allows hA hL hG (j := (0 : Int32)) rfl v; rw [q1x] at q9; exact q9) ?_)
    show wq 107 16 [(0, .ref 0), (1, .int 0), (2, .int v)] [.int 1] h 0 0 _
    refine wq_gos (f := 1) (pc2 := 21) (ls2 := [(0, .ref 0), (1, .int 0), (2, .int v)]) (st2 := []) (h2 := h) (dc2 := 0) (ds2 := 0) 1 rfl ?_
    exfalso; rw [hal] at q1x; exact absurd q1x (by decide)
theorem m_setN0 {h : zH} {fs : List Value} {kn lo hi : List Int32} (hM : zat h 162 = some (.inr (.inr (.inr (10, fs))))) (hC : mC fs) (hK : zat h 166 = some (.inl (0, 14, kn))) (hO : zat h 168 = some (.inl (0, 12, lo))) (hG : zat h 170 = some (.inl (0, 12, hi))) (v : Int32) (hal : jallow lo hi 0 v = false) : wq 212 0 [(0, .ref 162), (1, .int 0), (2, .int v)] [] h 0 0 (fun r => ∃ h2, r = (some (.int 0), h2, 0, 0)) := by
  refine wq_gos (f := 1) (pc2 := 2) (ls2 := [(0, .ref 162), (1, .int 0), (2, .int v)]) (st2 := [.int 0, .ref 162]) (h2 := h) (dc2 := 0) (ds2 := 0) 2 rfl ?_
  refine wq_putf rfl hM rfl (by rw [hC.1]; rfl) rfl ?_
  intro h1x e2x f3x l4x
  obtain ⟨fs5x, hf6x⟩ : ∃ x, x = fs.set 0 (.int 0) := ⟨_, rfl⟩
  rw [← hf6x] at e2x
  have hC7x : mC fs5x := by rw [hf6x]; exact mC_set hC (by decide) _
  have p8x : fs5x[0]? = some (.int 0) := by rw [hf6x]; exact List.getElem?_set_self (by rw [hC.1]; decide)
  refine wq_gos (f := 1) (pc2 := 6) (ls2 := [(0, .ref 162), (1, .int 0), (2, .int v)]) (st2 := [.int 0]) (h2 := h1x) (dc2 := 0) (ds2 := 0) 1 rfl ?_
  refine wq_inl (y2 := 208) (as := [.int 0]) rfl rfl rfl ?_
  show wq 208 0 [(0, .int 0)] [] h1x 0 0 _
  refine wq_gos (f := 1) (pc2 := 15) (ls2 := [(0, .int 0)]) (st2 := [.int 1]) (h2 := h1x) (dc2 := 0) (ds2 := 0) 7 rfl ?_
  refine wq_ret rfl rfl ?_
  show wq 212 9 [(0, .ref 162), (1, .int 0), (2, .int v)] [.int 1] h1x 0 0 _
  refine wq_gos (f := 1) (pc2 := 15) (ls2 := [(0, .ref 162), (1, .int 0), (2, .int v)]) (st2 := [.int v, .int 0, .ref 162]) (h2 := h1x) (dc2 := 0) (ds2 := 0) 4 rfl ?_
  have e9x := (f3x.2 _ _ (wnc (by decide) wn0) hK)
  have e10x := (f3x.2 _ _ (wnc (by decide) wn0) hO)
  have e11x := (f3x.2 _ _ (wnc (by decide) wn0) hG)
  cases q12x : jallow lo hi (0 : Int32) v with
  | false =>
    refine wq_inlv (y2 := 207) (as := [.int 0, .int v]) rfl rfl rfl e2x rfl (wq_T (show zT zg0 zF zP 207 0 [(0, .ref 162), (1, .int 0), (2, .int v)] [] h1x 0 0 (some (.int 0), h1x, 0, 0) from by have q9 := c_within e2x (hC7x.2 (3, 166) (by decide)) (hC7x.2 (4, 168) (by decide)) (hC7x.2 (5, 170) (by decide)) e9x e10x e11x (j := (0 : Int32)) rfl v; rw [q12x] at q9; exact q9) ?_)
    show wq 212 18 [(0, .ref 162), (1, .int 0), (2, .int v)] [.int 0] h1x 0 0 _
    refine wq_gos (f := 1) (pc2 := 22) (ls2 := [(0, .ref 162), (1, .int 0), (2, .int v)]) (st2 := [.int 0]) (h2 := h1x) (dc2 := 0) (ds2 := 0) 2 rfl ?_
    exact wq_ret rfl rfl ⟨h1x, rfl⟩
  | true =>
    refine wq_inlv (y2 := 207) (as := [.int 0, .int v]) rfl rfl rfl e2x rfl (wq_T (show zT zg0 zF zP 207 0 [(0, .ref 162), (1, .int 0), (2, .int v)] [] h1x 0 0 (some (.int 1), h1x, 0, 0) from by have q9 := c_within e2x (hC7x.2 (3, 166) (by decide)) (hC7x.2 (4, 168) (by decide)) (hC7x.2 (5, 170) (by decide)) e9x e10x e11x (j := (0 : Int32)) rfl v; rw [q12x] at q9; exact q9) ?_)
    show wq 212 18 [(0, .ref 162), (1, .int 0), (2, .int v)] [.int 1] h1x 0 0 _
    refine wq_gos (f := 1) (pc2 := 23) (ls2 := [(0, .ref 162), (1, .int 0), (2, .int v)]) (st2 := []) (h2 := h1x) (dc2 := 0) (ds2 := 0) 1 rfl ?_
    exfalso; rw [hal] at q12x; exact absurd q12x (by decide)
theorem c_setN1 {h : zH} {ra rl rg rv rn rp rw : Nat} {lk hd ht bl sd sp so : Int32} {rt : Int64} {ll lg : List Int32} {rd : Nat} {ta im : Int32} {ps ip : Int64} (hX : zat h 0 = some (.inr (.inr (.inr (9, [.ref 2, .int ta, .ref 4, .ref ra, .ref rd, .long ps, .ref 34, .ref 36, .int im, .long ip, .ref 42, .ref 44, .ref 60, .ref 66, .ref 72, .ref 74, .ref 150, .ref 158]))))) (hA : zat h ra = some (.inr (.inr (.inr (0, [.int lk, .int hd, .int ht, .int bl, .int sd, .long rt, .ref rl, .ref rg, .ref rv, .int sp, .ref rn, .ref rp, .int so, .ref rw]))))) (hL : zat h rl = some (.inl (0, 6, ll))) (hG : zat h rg = some (.inl (0, 6, lg))) (v : Int32) (hal : jallow ll lg 1 v = false) : zT zg0 zF zP 107 0 [(0, .ref 0), (1, .int 1), (2, .int v)] [] h 0 0 (some (.int 0), h, 0, 0) := by
  apply wq_toT
  refine wq_gos (f := 1) (pc2 := 1) (ls2 := [(0, .ref 0), (1, .int 1), (2, .int v)]) (st2 := [.int 1]) (h2 := h) (dc2 := 0) (ds2 := 0) 1 rfl ?_
  refine wq_inl (y2 := 144) (as := [.int 1]) rfl rfl rfl ?_
  show wq 144 0 [(0, .int 1)] [] h 0 0 _
  refine wq_gos (f := 1) (pc2 := 15) (ls2 := [(0, .int 1)]) (st2 := [.int 0]) (h2 := h) (dc2 := 0) (ds2 := 0) 6 rfl ?_
  refine wq_ret rfl rfl ?_
  show wq 107 4 [(0, .ref 0), (1, .int 1), (2, .int v)] [.int 0] h 0 0 _
  refine wq_gos (f := 1) (pc2 := 8) (ls2 := [(0, .ref 0), (1, .int 1), (2, .int v)]) (st2 := [.ref 0]) (h2 := h) (dc2 := 0) (ds2 := 0) 2 rfl ?_
  refine wq_getf rfl hX rfl rfl ?_
  refine wq_gos (f := 1) (pc2 := 13) (ls2 := [(0, .ref 0), (1, .int 1), (2, .int v)]) (st2 := [.int v, .int 1, .ref ra]) (h2 := h) (dc2 := 0) (ds2 := 0) 2 rfl ?_
  cases q1x : jallow ll lg (1 : Int32) v with
  | false =>
    refine wq_inlv (y2 := 3) (as := [.int 1, .int v]) rfl rfl rfl hA rfl (wq_T (show zT zg0 zF zP 3 0 [(0, .ref ra), (1, .int 1), (2, .int v)] [] h 0 0 (some (.int 0), h, 0, 0) from by have q9 := c_allows hA hL hG (j := (1 : Int32)) rfl v; rw [q1x] at q9; exact q9) ?_)
    show wq 107 16 [(0, .ref 0), (1, .int 1), (2, .int v)] [.int 0] h 0 0 _
    refine wq_gos (f := 1) (pc2 := 20) (ls2 := [(0, .ref 0), (1, .int 1), (2, .int v)]) (st2 := [.int 0]) (h2 := h) (dc2 := 0) (ds2 := 0) 2 rfl ?_
    exact wq_ret rfl rfl rfl
  | true =>
    refine wq_inlv (y2 := 3) (as := [.int 1, .int v]) rfl rfl rfl hA rfl (wq_T (show zT zg0 zF zP 3 0 [(0, .ref ra), (1, .int 1), (2, .int v)] [] h 0 0 (some (.int 1), h, 0, 0) from by have q9 := c_allows hA hL hG (j := (1 : Int32)) rfl v; rw [q1x] at q9; exact q9) ?_)
    show wq 107 16 [(0, .ref 0), (1, .int 1), (2, .int v)] [.int 1] h 0 0 _
    refine wq_gos (f := 1) (pc2 := 21) (ls2 := [(0, .ref 0), (1, .int 1), (2, .int v)]) (st2 := []) (h2 := h) (dc2 := 0) (ds2 := 0) 1 rfl ?_
    exfalso; rw [hal] at q1x; exact absurd q1x (by decide)
theorem m_setN1 {h : zH} {fs : List Value} {kn lo hi : List Int32} (hM : zat h 162 = some (.inr (.inr (.inr (10, fs))))) (hC : mC fs) (hK : zat h 166 = some (.inl (0, 14, kn))) (hO : zat h 168 = some (.inl (0, 12, lo))) (hG : zat h 170 = some (.inl (0, 12, hi))) (v : Int32) (hal : jallow lo hi 1 v = false) : wq 212 0 [(0, .ref 162), (1, .int 1), (2, .int v)] [] h 0 0 (fun r => ∃ h2, r = (some (.int 0), h2, 0, 0)) := by
  refine wq_gos (f := 1) (pc2 := 2) (ls2 := [(0, .ref 162), (1, .int 1), (2, .int v)]) (st2 := [.int 0, .ref 162]) (h2 := h) (dc2 := 0) (ds2 := 0) 2 rfl ?_
  refine wq_putf rfl hM rfl (by rw [hC.1]; rfl) rfl ?_
  intro h1x e2x f3x l4x
  obtain ⟨fs5x, hf6x⟩ : ∃ x, x = fs.set 0 (.int 0) := ⟨_, rfl⟩
  rw [← hf6x] at e2x
  have hC7x : mC fs5x := by rw [hf6x]; exact mC_set hC (by decide) _
  have p8x : fs5x[0]? = some (.int 0) := by rw [hf6x]; exact List.getElem?_set_self (by rw [hC.1]; decide)
  refine wq_gos (f := 1) (pc2 := 6) (ls2 := [(0, .ref 162), (1, .int 1), (2, .int v)]) (st2 := [.int 1]) (h2 := h1x) (dc2 := 0) (ds2 := 0) 1 rfl ?_
  refine wq_inl (y2 := 208) (as := [.int 1]) rfl rfl rfl ?_
  show wq 208 0 [(0, .int 1)] [] h1x 0 0 _
  refine wq_gos (f := 1) (pc2 := 15) (ls2 := [(0, .int 1)]) (st2 := [.int 1]) (h2 := h1x) (dc2 := 0) (ds2 := 0) 7 rfl ?_
  refine wq_ret rfl rfl ?_
  show wq 212 9 [(0, .ref 162), (1, .int 1), (2, .int v)] [.int 1] h1x 0 0 _
  refine wq_gos (f := 1) (pc2 := 15) (ls2 := [(0, .ref 162), (1, .int 1), (2, .int v)]) (st2 := [.int v, .int 1, .ref 162]) (h2 := h1x) (dc2 := 0) (ds2 := 0) 4 rfl ?_
  have e9x := (f3x.2 _ _ (wnc (by decide) wn0) hK)
  have e10x := (f3x.2 _ _ (wnc (by decide) wn0) hO)
  have e11x := (f3x.2 _ _ (wnc (by decide) wn0) hG)
  cases q12x : jallow lo hi (1 : Int32) v with
  | false =>
    refine wq_inlv (y2 := 207) (as := [.int 1, .int v]) rfl rfl rfl e2x rfl (wq_T (show zT zg0 zF zP 207 0 [(0, .ref 162), (1, .int 1), (2, .int v)] [] h1x 0 0 (some (.int 0), h1x, 0, 0) from by have q9 := c_within e2x (hC7x.2 (3, 166) (by decide)) (hC7x.2 (4, 168) (by decide)) (hC7x.2 (5, 170) (by decide)) e9x e10x e11x (j := (1 : Int32)) rfl v; rw [q12x] at q9; exact q9) ?_)
    show wq 212 18 [(0, .ref 162), (1, .int 1), (2, .int v)] [.int 0] h1x 0 0 _
    refine wq_gos (f := 1) (pc2 := 22) (ls2 := [(0, .ref 162), (1, .int 1), (2, .int v)]) (st2 := [.int 0]) (h2 := h1x) (dc2 := 0) (ds2 := 0) 2 rfl ?_
    exact wq_ret rfl rfl ⟨h1x, rfl⟩
  | true =>
    refine wq_inlv (y2 := 207) (as := [.int 1, .int v]) rfl rfl rfl e2x rfl (wq_T (show zT zg0 zF zP 207 0 [(0, .ref 162), (1, .int 1), (2, .int v)] [] h1x 0 0 (some (.int 1), h1x, 0, 0) from by have q9 := c_within e2x (hC7x.2 (3, 166) (by decide)) (hC7x.2 (4, 168) (by decide)) (hC7x.2 (5, 170) (by decide)) e9x e10x e11x (j := (1 : Int32)) rfl v; rw [q12x] at q9; exact q9) ?_)
    show wq 212 18 [(0, .ref 162), (1, .int 1), (2, .int v)] [.int 1] h1x 0 0 _
    refine wq_gos (f := 1) (pc2 := 23) (ls2 := [(0, .ref 162), (1, .int 1), (2, .int v)]) (st2 := []) (h2 := h1x) (dc2 := 0) (ds2 := 0) 1 rfl ?_
    exfalso; rw [hal] at q12x; exact absurd q12x (by decide)
theorem c_setN2 {h : zH} {ra rl rg rv rn rp rw : Nat} {lk hd ht bl sd sp so : Int32} {rt : Int64} {ll lg : List Int32} {rd : Nat} {ta im : Int32} {ps ip : Int64} (hX : zat h 0 = some (.inr (.inr (.inr (9, [.ref 2, .int ta, .ref 4, .ref ra, .ref rd, .long ps, .ref 34, .ref 36, .int im, .long ip, .ref 42, .ref 44, .ref 60, .ref 66, .ref 72, .ref 74, .ref 150, .ref 158]))))) (hA : zat h ra = some (.inr (.inr (.inr (0, [.int lk, .int hd, .int ht, .int bl, .int sd, .long rt, .ref rl, .ref rg, .ref rv, .int sp, .ref rn, .ref rp, .int so, .ref rw]))))) (hL : zat h rl = some (.inl (0, 6, ll))) (hG : zat h rg = some (.inl (0, 6, lg))) (v : Int32) (hal : jallow ll lg 2 v = false) : zT zg0 zF zP 107 0 [(0, .ref 0), (1, .int 2), (2, .int v)] [] h 0 0 (some (.int 0), h, 0, 0) := by
  apply wq_toT
  refine wq_gos (f := 1) (pc2 := 1) (ls2 := [(0, .ref 0), (1, .int 2), (2, .int v)]) (st2 := [.int 2]) (h2 := h) (dc2 := 0) (ds2 := 0) 1 rfl ?_
  refine wq_inl (y2 := 144) (as := [.int 2]) rfl rfl rfl ?_
  show wq 144 0 [(0, .int 2)] [] h 0 0 _
  refine wq_gos (f := 1) (pc2 := 15) (ls2 := [(0, .int 2)]) (st2 := [.int 0]) (h2 := h) (dc2 := 0) (ds2 := 0) 6 rfl ?_
  refine wq_ret rfl rfl ?_
  show wq 107 4 [(0, .ref 0), (1, .int 2), (2, .int v)] [.int 0] h 0 0 _
  refine wq_gos (f := 1) (pc2 := 8) (ls2 := [(0, .ref 0), (1, .int 2), (2, .int v)]) (st2 := [.ref 0]) (h2 := h) (dc2 := 0) (ds2 := 0) 2 rfl ?_
  refine wq_getf rfl hX rfl rfl ?_
  refine wq_gos (f := 1) (pc2 := 13) (ls2 := [(0, .ref 0), (1, .int 2), (2, .int v)]) (st2 := [.int v, .int 2, .ref ra]) (h2 := h) (dc2 := 0) (ds2 := 0) 2 rfl ?_
  cases q1x : jallow ll lg (2 : Int32) v with
  | false =>
    refine wq_inlv (y2 := 3) (as := [.int 2, .int v]) rfl rfl rfl hA rfl (wq_T (show zT zg0 zF zP 3 0 [(0, .ref ra), (1, .int 2), (2, .int v)] [] h 0 0 (some (.int 0), h, 0, 0) from by have q9 := c_allows hA hL hG (j := (2 : Int32)) rfl v; rw [q1x] at q9; exact q9) ?_)
    show wq 107 16 [(0, .ref 0), (1, .int 2), (2, .int v)] [.int 0] h 0 0 _
    refine wq_gos (f := 1) (pc2 := 20) (ls2 := [(0, .ref 0), (1, .int 2), (2, .int v)]) (st2 := [.int 0]) (h2 := h) (dc2 := 0) (ds2 := 0) 2 rfl ?_
    exact wq_ret rfl rfl rfl
  | true =>
    refine wq_inlv (y2 := 3) (as := [.int 2, .int v]) rfl rfl rfl hA rfl (wq_T (show zT zg0 zF zP 3 0 [(0, .ref ra), (1, .int 2), (2, .int v)] [] h 0 0 (some (.int 1), h, 0, 0) from by have q9 := c_allows hA hL hG (j := (2 : Int32)) rfl v; rw [q1x] at q9; exact q9) ?_)
    show wq 107 16 [(0, .ref 0), (1, .int 2), (2, .int v)] [.int 1] h 0 0 _
    refine wq_gos (f := 1) (pc2 := 21) (ls2 := [(0, .ref 0), (1, .int 2), (2, .int v)]) (st2 := []) (h2 := h) (dc2 := 0) (ds2 := 0) 1 rfl ?_
    exfalso; rw [hal] at q1x; exact absurd q1x (by decide)
theorem m_setN2 {h : zH} {fs : List Value} {kn lo hi : List Int32} (hM : zat h 162 = some (.inr (.inr (.inr (10, fs))))) (hC : mC fs) (hK : zat h 166 = some (.inl (0, 14, kn))) (hO : zat h 168 = some (.inl (0, 12, lo))) (hG : zat h 170 = some (.inl (0, 12, hi))) (v : Int32) (hal : jallow lo hi 2 v = false) : wq 212 0 [(0, .ref 162), (1, .int 2), (2, .int v)] [] h 0 0 (fun r => ∃ h2, r = (some (.int 0), h2, 0, 0)) := by
  refine wq_gos (f := 1) (pc2 := 2) (ls2 := [(0, .ref 162), (1, .int 2), (2, .int v)]) (st2 := [.int 0, .ref 162]) (h2 := h) (dc2 := 0) (ds2 := 0) 2 rfl ?_
  refine wq_putf rfl hM rfl (by rw [hC.1]; rfl) rfl ?_
  intro h1x e2x f3x l4x
  obtain ⟨fs5x, hf6x⟩ : ∃ x, x = fs.set 0 (.int 0) := ⟨_, rfl⟩
  rw [← hf6x] at e2x
  have hC7x : mC fs5x := by rw [hf6x]; exact mC_set hC (by decide) _
  have p8x : fs5x[0]? = some (.int 0) := by rw [hf6x]; exact List.getElem?_set_self (by rw [hC.1]; decide)
  refine wq_gos (f := 1) (pc2 := 6) (ls2 := [(0, .ref 162), (1, .int 2), (2, .int v)]) (st2 := [.int 2]) (h2 := h1x) (dc2 := 0) (ds2 := 0) 1 rfl ?_
  refine wq_inl (y2 := 208) (as := [.int 2]) rfl rfl rfl ?_
  show wq 208 0 [(0, .int 2)] [] h1x 0 0 _
  refine wq_gos (f := 1) (pc2 := 15) (ls2 := [(0, .int 2)]) (st2 := [.int 1]) (h2 := h1x) (dc2 := 0) (ds2 := 0) 7 rfl ?_
  refine wq_ret rfl rfl ?_
  show wq 212 9 [(0, .ref 162), (1, .int 2), (2, .int v)] [.int 1] h1x 0 0 _
  refine wq_gos (f := 1) (pc2 := 15) (ls2 := [(0, .ref 162), (1, .int 2), (2, .int v)]) (st2 := [.int v, .int 2, .ref 162]) (h2 := h1x) (dc2 := 0) (ds2 := 0) 4 rfl ?_
  have e9x := (f3x.2 _ _ (wnc (by decide) wn0) hK)
  have e10x := (f3x.2 _ _ (wnc (by decide) wn0) hO)
  have e11x := (f3x.2 _ _ (wnc (by decide) wn0) hG)
  cases q12x : jallow lo hi (2 : Int32) v with
  | false =>
    refine wq_inlv (y2 := 207) (as := [.int 2, .int v]) rfl rfl rfl e2x rfl (wq_T (show zT zg0 zF zP 207 0 [(0, .ref 162), (1, .int 2), (2, .int v)] [] h1x 0 0 (some (.int 0), h1x, 0, 0) from by have q9 := c_within e2x (hC7x.2 (3, 166) (by decide)) (hC7x.2 (4, 168) (by decide)) (hC7x.2 (5, 170) (by decide)) e9x e10x e11x (j := (2 : Int32)) rfl v; rw [q12x] at q9; exact q9) ?_)
    show wq 212 18 [(0, .ref 162), (1, .int 2), (2, .int v)] [.int 0] h1x 0 0 _
    refine wq_gos (f := 1) (pc2 := 22) (ls2 := [(0, .ref 162), (1, .int 2), (2, .int v)]) (st2 := [.int 0]) (h2 := h1x) (dc2 := 0) (ds2 := 0) 2 rfl ?_
    exact wq_ret rfl rfl ⟨h1x, rfl⟩
  | true =>
    refine wq_inlv (y2 := 207) (as := [.int 2, .int v]) rfl rfl rfl e2x rfl (wq_T (show zT zg0 zF zP 207 0 [(0, .ref 162), (1, .int 2), (2, .int v)] [] h1x 0 0 (some (.int 1), h1x, 0, 0) from by have q9 := c_within e2x (hC7x.2 (3, 166) (by decide)) (hC7x.2 (4, 168) (by decide)) (hC7x.2 (5, 170) (by decide)) e9x e10x e11x (j := (2 : Int32)) rfl v; rw [q12x] at q9; exact q9) ?_)
    show wq 212 18 [(0, .ref 162), (1, .int 2), (2, .int v)] [.int 1] h1x 0 0 _
    refine wq_gos (f := 1) (pc2 := 23) (ls2 := [(0, .ref 162), (1, .int 2), (2, .int v)]) (st2 := []) (h2 := h1x) (dc2 := 0) (ds2 := 0) 1 rfl ?_
    exfalso; rw [hal] at q12x; exact absurd q12x (by decide)
theorem c_setN3 {h : zH} {ra rl rg rv rn rp rw : Nat} {lk hd ht bl sd sp so : Int32} {rt : Int64} {ll lg : List Int32} {rd : Nat} {ta im : Int32} {ps ip : Int64} (hX : zat h 0 = some (.inr (.inr (.inr (9, [.ref 2, .int ta, .ref 4, .ref ra, .ref rd, .long ps, .ref 34, .ref 36, .int im, .long ip, .ref 42, .ref 44, .ref 60, .ref 66, .ref 72, .ref 74, .ref 150, .ref 158]))))) (hA : zat h ra = some (.inr (.inr (.inr (0, [.int lk, .int hd, .int ht, .int bl, .int sd, .long rt, .ref rl, .ref rg, .ref rv, .int sp, .ref rn, .ref rp, .int so, .ref rw]))))) (hL : zat h rl = some (.inl (0, 6, ll))) (hG : zat h rg = some (.inl (0, 6, lg))) (v : Int32) (hal : jallow ll lg 3 v = false) : zT zg0 zF zP 107 0 [(0, .ref 0), (1, .int 3), (2, .int v)] [] h 0 0 (some (.int 0), h, 0, 0) := by
  apply wq_toT
  refine wq_gos (f := 1) (pc2 := 1) (ls2 := [(0, .ref 0), (1, .int 3), (2, .int v)]) (st2 := [.int 3]) (h2 := h) (dc2 := 0) (ds2 := 0) 1 rfl ?_
  refine wq_inl (y2 := 144) (as := [.int 3]) rfl rfl rfl ?_
  show wq 144 0 [(0, .int 3)] [] h 0 0 _
  refine wq_gos (f := 1) (pc2 := 15) (ls2 := [(0, .int 3)]) (st2 := [.int 0]) (h2 := h) (dc2 := 0) (ds2 := 0) 6 rfl ?_
  refine wq_ret rfl rfl ?_
  show wq 107 4 [(0, .ref 0), (1, .int 3), (2, .int v)] [.int 0] h 0 0 _
  refine wq_gos (f := 1) (pc2 := 8) (ls2 := [(0, .ref 0), (1, .int 3), (2, .int v)]) (st2 := [.ref 0]) (h2 := h) (dc2 := 0) (ds2 := 0) 2 rfl ?_
  refine wq_getf rfl hX rfl rfl ?_
  refine wq_gos (f := 1) (pc2 := 13) (ls2 := [(0, .ref 0), (1, .int 3), (2, .int v)]) (st2 := [.int v, .int 3, .ref ra]) (h2 := h) (dc2 := 0) (ds2 := 0) 2 rfl ?_
  cases q1x : jallow ll lg (3 : Int32) v with
  | false =>
    refine wq_inlv (y2 := 3) (as := [.int 3, .int v]) rfl rfl rfl hA rfl (wq_T (show zT zg0 zF zP 3 0 [(0, .ref ra), (1, .int 3), (2, .int v)] [] h 0 0 (some (.int 0), h, 0, 0) from by have q9 := c_allows hA hL hG (j := (3 : Int32)) rfl v; rw [q1x] at q9; exact q9) ?_)
    show wq 107 16 [(0, .ref 0), (1, .int 3), (2, .int v)] [.int 0] h 0 0 _
    refine wq_gos (f := 1) (pc2 := 20) (ls2 := [(0, .ref 0), (1, .int 3), (2, .int v)]) (st2 := [.int 0]) (h2 := h) (dc2 := 0) (ds2 := 0) 2 rfl ?_
    exact wq_ret rfl rfl rfl
  | true =>
    refine wq_inlv (y2 := 3) (as := [.int 3, .int v]) rfl rfl rfl hA rfl (wq_T (show zT zg0 zF zP 3 0 [(0, .ref ra), (1, .int 3), (2, .int v)] [] h 0 0 (some (.int 1), h, 0, 0) from by have q9 := c_allows hA hL hG (j := (3 : Int32)) rfl v; rw [q1x] at q9; exact q9) ?_)
    show wq 107 16 [(0, .ref 0), (1, .int 3), (2, .int v)] [.int 1] h 0 0 _
    refine wq_gos (f := 1) (pc2 := 21) (ls2 := [(0, .ref 0), (1, .int 3), (2, .int v)]) (st2 := []) (h2 := h) (dc2 := 0) (ds2 := 0) 1 rfl ?_
    exfalso; rw [hal] at q1x; exact absurd q1x (by decide)
theorem m_setN3 {h : zH} {fs : List Value} {kn lo hi : List Int32} (hM : zat h 162 = some (.inr (.inr (.inr (10, fs))))) (hC : mC fs) (hK : zat h 166 = some (.inl (0, 14, kn))) (hO : zat h 168 = some (.inl (0, 12, lo))) (hG : zat h 170 = some (.inl (0, 12, hi))) (v : Int32) (hal : jallow lo hi 3 v = false) : wq 212 0 [(0, .ref 162), (1, .int 3), (2, .int v)] [] h 0 0 (fun r => ∃ h2, r = (some (.int 0), h2, 0, 0)) := by
  refine wq_gos (f := 1) (pc2 := 2) (ls2 := [(0, .ref 162), (1, .int 3), (2, .int v)]) (st2 := [.int 0, .ref 162]) (h2 := h) (dc2 := 0) (ds2 := 0) 2 rfl ?_
  refine wq_putf rfl hM rfl (by rw [hC.1]; rfl) rfl ?_
  intro h1x e2x f3x l4x
  obtain ⟨fs5x, hf6x⟩ : ∃ x, x = fs.set 0 (.int 0) := ⟨_, rfl⟩
  rw [← hf6x] at e2x
  have hC7x : mC fs5x := by rw [hf6x]; exact mC_set hC (by decide) _
  have p8x : fs5x[0]? = some (.int 0) := by rw [hf6x]; exact List.getElem?_set_self (by rw [hC.1]; decide)
  refine wq_gos (f := 1) (pc2 := 6) (ls2 := [(0, .ref 162), (1, .int 3), (2, .int v)]) (st2 := [.int 3]) (h2 := h1x) (dc2 := 0) (ds2 := 0) 1 rfl ?_
  refine wq_inl (y2 := 208) (as := [.int 3]) rfl rfl rfl ?_
  show wq 208 0 [(0, .int 3)] [] h1x 0 0 _
  refine wq_gos (f := 1) (pc2 := 15) (ls2 := [(0, .int 3)]) (st2 := [.int 1]) (h2 := h1x) (dc2 := 0) (ds2 := 0) 7 rfl ?_
  refine wq_ret rfl rfl ?_
  show wq 212 9 [(0, .ref 162), (1, .int 3), (2, .int v)] [.int 1] h1x 0 0 _
  refine wq_gos (f := 1) (pc2 := 15) (ls2 := [(0, .ref 162), (1, .int 3), (2, .int v)]) (st2 := [.int v, .int 3, .ref 162]) (h2 := h1x) (dc2 := 0) (ds2 := 0) 4 rfl ?_
  have e9x := (f3x.2 _ _ (wnc (by decide) wn0) hK)
  have e10x := (f3x.2 _ _ (wnc (by decide) wn0) hO)
  have e11x := (f3x.2 _ _ (wnc (by decide) wn0) hG)
  cases q12x : jallow lo hi (3 : Int32) v with
  | false =>
    refine wq_inlv (y2 := 207) (as := [.int 3, .int v]) rfl rfl rfl e2x rfl (wq_T (show zT zg0 zF zP 207 0 [(0, .ref 162), (1, .int 3), (2, .int v)] [] h1x 0 0 (some (.int 0), h1x, 0, 0) from by have q9 := c_within e2x (hC7x.2 (3, 166) (by decide)) (hC7x.2 (4, 168) (by decide)) (hC7x.2 (5, 170) (by decide)) e9x e10x e11x (j := (3 : Int32)) rfl v; rw [q12x] at q9; exact q9) ?_)
    show wq 212 18 [(0, .ref 162), (1, .int 3), (2, .int v)] [.int 0] h1x 0 0 _
    refine wq_gos (f := 1) (pc2 := 22) (ls2 := [(0, .ref 162), (1, .int 3), (2, .int v)]) (st2 := [.int 0]) (h2 := h1x) (dc2 := 0) (ds2 := 0) 2 rfl ?_
    exact wq_ret rfl rfl ⟨h1x, rfl⟩
  | true =>
    refine wq_inlv (y2 := 207) (as := [.int 3, .int v]) rfl rfl rfl e2x rfl (wq_T (show zT zg0 zF zP 207 0 [(0, .ref 162), (1, .int 3), (2, .int v)] [] h1x 0 0 (some (.int 1), h1x, 0, 0) from by have q9 := c_within e2x (hC7x.2 (3, 166) (by decide)) (hC7x.2 (4, 168) (by decide)) (hC7x.2 (5, 170) (by decide)) e9x e10x e11x (j := (3 : Int32)) rfl v; rw [q12x] at q9; exact q9) ?_)
    show wq 212 18 [(0, .ref 162), (1, .int 3), (2, .int v)] [.int 1] h1x 0 0 _
    refine wq_gos (f := 1) (pc2 := 23) (ls2 := [(0, .ref 162), (1, .int 3), (2, .int v)]) (st2 := []) (h2 := h1x) (dc2 := 0) (ds2 := 0) 1 rfl ?_
    exfalso; rw [hal] at q12x; exact absurd q12x (by decide)
theorem c_setN4 {h : zH} {ra rl rg rv rn rp rw : Nat} {lk hd ht bl sd sp so : Int32} {rt : Int64} {ll lg : List Int32} {rd : Nat} {ta im : Int32} {ps ip : Int64} (hX : zat h 0 = some (.inr (.inr (.inr (9, [.ref 2, .int ta, .ref 4, .ref ra, .ref rd, .long ps, .ref 34, .ref 36, .int im, .long ip, .ref 42, .ref 44, .ref 60, .ref 66, .ref 72, .ref 74, .ref 150, .ref 158]))))) (hA : zat h ra = some (.inr (.inr (.inr (0, [.int lk, .int hd, .int ht, .int bl, .int sd, .long rt, .ref rl, .ref rg, .ref rv, .int sp, .ref rn, .ref rp, .int so, .ref rw]))))) (hL : zat h rl = some (.inl (0, 6, ll))) (hG : zat h rg = some (.inl (0, 6, lg))) (v : Int32) (hal : jallow ll lg 4 v = false) : zT zg0 zF zP 107 0 [(0, .ref 0), (1, .int 4), (2, .int v)] [] h 0 0 (some (.int 0), h, 0, 0) := by
  apply wq_toT
  refine wq_gos (f := 1) (pc2 := 1) (ls2 := [(0, .ref 0), (1, .int 4), (2, .int v)]) (st2 := [.int 4]) (h2 := h) (dc2 := 0) (ds2 := 0) 1 rfl ?_
  refine wq_inl (y2 := 144) (as := [.int 4]) rfl rfl rfl ?_
  show wq 144 0 [(0, .int 4)] [] h 0 0 _
  refine wq_gos (f := 1) (pc2 := 15) (ls2 := [(0, .int 4)]) (st2 := [.int 0]) (h2 := h) (dc2 := 0) (ds2 := 0) 6 rfl ?_
  refine wq_ret rfl rfl ?_
  show wq 107 4 [(0, .ref 0), (1, .int 4), (2, .int v)] [.int 0] h 0 0 _
  refine wq_gos (f := 1) (pc2 := 8) (ls2 := [(0, .ref 0), (1, .int 4), (2, .int v)]) (st2 := [.ref 0]) (h2 := h) (dc2 := 0) (ds2 := 0) 2 rfl ?_
  refine wq_getf rfl hX rfl rfl ?_
  refine wq_gos (f := 1) (pc2 := 13) (ls2 := [(0, .ref 0), (1, .int 4), (2, .int v)]) (st2 := [.int v, .int 4, .ref ra]) (h2 := h) (dc2 := 0) (ds2 := 0) 2 rfl ?_
  cases q1x : jallow ll lg (4 : Int32) v with
  | false =>
    refine wq_inlv (y2 := 3) (as := [.int 4, .int v]) rfl rfl rfl hA rfl (wq_T (show zT zg0 zF zP 3 0 [(0, .ref ra), (1, .int 4), (2, .int v)] [] h 0 0 (some (.int 0), h, 0, 0) from by have q9 := c_allows hA hL hG (j := (4 : Int32)) rfl v; rw [q1x] at q9; exact q9) ?_)
    show wq 107 16 [(0, .ref 0), (1, .int 4), (2, .int v)] [.int 0] h 0 0 _
    refine wq_gos (f := 1) (pc2 := 20) (ls2 := [(0, .ref 0), (1, .int 4), (2, .int v)]) (st2 := [.int 0]) (h2 := h) (dc2 := 0) (ds2 := 0) 2 rfl ?_
    exact wq_ret rfl rfl rfl
  | true =>
    refine wq_inlv (y2 := 3) (as := [.int 4, .int v]) rfl rfl rfl hA rfl (wq_T (show zT zg0 zF zP 3 0 [(0, .ref ra), (1, .int 4), (2, .int v)] [] h 0 0 (some (.int 1), h, 0, 0) from by have q9 := c_allows hA hL hG (j := (4 : Int32)) rfl v; rw [q1x] at q9; exact q9) ?_)
    show wq 107 16 [(0, .ref 0), (1, .int 4), (2, .int v)] [.int 1] h 0 0 _
    refine wq_gos (f := 1) (pc2 := 21) (ls2 := [(0, .ref 0), (1, .int 4), (2, .int v)]) (st2 := []) (h2 := h) (dc2 := 0) (ds2 := 0) 1 rfl ?_
    exfalso; rw [hal] at q1x; exact absurd q1x (by decide)
theorem m_setN4 {h : zH} {fs : List Value} {kn lo hi : List Int32} (hM : zat h 162 = some (.inr (.inr (.inr (10, fs))))) (hC : mC fs) (hK : zat h 166 = some (.inl (0, 14, kn))) (hO : zat h 168 = some (.inl (0, 12, lo))) (hG : zat h 170 = some (.inl (0, 12, hi))) (v : Int32) (hal : jallow lo hi 4 v = false) : wq 212 0 [(0, .ref 162), (1, .int 4), (2, .int v)] [] h 0 0 (fun r => ∃ h2, r = (some (.int 0), h2, 0, 0)) := by
  refine wq_gos (f := 1) (pc2 := 2) (ls2 := [(0, .ref 162), (1, .int 4), (2, .int v)]) (st2 := [.int 0, .ref 162]) (h2 := h) (dc2 := 0) (ds2 := 0) 2 rfl ?_
  refine wq_putf rfl hM rfl (by rw [hC.1]; rfl) rfl ?_
  intro h1x e2x f3x l4x
  obtain ⟨fs5x, hf6x⟩ : ∃ x, x = fs.set 0 (.int 0) := ⟨_, rfl⟩
  rw [← hf6x] at e2x
  have hC7x : mC fs5x := by rw [hf6x]; exact mC_set hC (by decide) _
  have p8x : fs5x[0]? = some (.int 0) := by rw [hf6x]; exact List.getElem?_set_self (by rw [hC.1]; decide)
  refine wq_gos (f := 1) (pc2 := 6) (ls2 := [(0, .ref 162), (1, .int 4), (2, .int v)]) (st2 := [.int 4]) (h2 := h1x) (dc2 := 0) (ds2 := 0) 1 rfl ?_
  refine wq_inl (y2 := 208) (as := [.int 4]) rfl rfl rfl ?_
  show wq 208 0 [(0, .int 4)] [] h1x 0 0 _
  refine wq_gos (f := 1) (pc2 := 15) (ls2 := [(0, .int 4)]) (st2 := [.int 1]) (h2 := h1x) (dc2 := 0) (ds2 := 0) 7 rfl ?_
  refine wq_ret rfl rfl ?_
  show wq 212 9 [(0, .ref 162), (1, .int 4), (2, .int v)] [.int 1] h1x 0 0 _
  refine wq_gos (f := 1) (pc2 := 15) (ls2 := [(0, .ref 162), (1, .int 4), (2, .int v)]) (st2 := [.int v, .int 4, .ref 162]) (h2 := h1x) (dc2 := 0) (ds2 := 0) 4 rfl ?_
  have e9x := (f3x.2 _ _ (wnc (by decide) wn0) hK)
  have e10x := (f3x.2 _ _ (wnc (by decide) wn0) hO)
  have e11x := (f3x.2 _ _ (wnc (by decide) wn0) hG)
  cases q12x : jallow lo hi (4 : Int32) v with
  | false =>
    refine wq_inlv (y2 := 207) (as := [.int 4, .int v]) rfl rfl rfl e2x rfl (wq_T (show zT zg0 zF zP 207 0 [(0, .ref 162), (1, .int 4), (2, .int v)] [] h1x 0 0 (some (.int 0), h1x, 0, 0) from by have q9 := c_within e2x (hC7x.2 (3, 166) (by decide)) (hC7x.2 (4, 168) (by decide)) (hC7x.2 (5, 170) (by decide)) e9x e10x e11x (j := (4 : Int32)) rfl v; rw [q12x] at q9; exact q9) ?_)
    show wq 212 18 [(0, .ref 162), (1, .int 4), (2, .int v)] [.int 0] h1x 0 0 _
    refine wq_gos (f := 1) (pc2 := 22) (ls2 := [(0, .ref 162), (1, .int 4), (2, .int v)]) (st2 := [.int 0]) (h2 := h1x) (dc2 := 0) (ds2 := 0) 2 rfl ?_
    exact wq_ret rfl rfl ⟨h1x, rfl⟩
  | true =>
    refine wq_inlv (y2 := 207) (as := [.int 4, .int v]) rfl rfl rfl e2x rfl (wq_T (show zT zg0 zF zP 207 0 [(0, .ref 162), (1, .int 4), (2, .int v)] [] h1x 0 0 (some (.int 1), h1x, 0, 0) from by have q9 := c_within e2x (hC7x.2 (3, 166) (by decide)) (hC7x.2 (4, 168) (by decide)) (hC7x.2 (5, 170) (by decide)) e9x e10x e11x (j := (4 : Int32)) rfl v; rw [q12x] at q9; exact q9) ?_)
    show wq 212 18 [(0, .ref 162), (1, .int 4), (2, .int v)] [.int 1] h1x 0 0 _
    refine wq_gos (f := 1) (pc2 := 23) (ls2 := [(0, .ref 162), (1, .int 4), (2, .int v)]) (st2 := []) (h2 := h1x) (dc2 := 0) (ds2 := 0) 1 rfl ?_
    exfalso; rw [hal] at q12x; exact absurd q12x (by decide)
theorem c_setN5 {h : zH} {ra rl rg rv rn rp rw : Nat} {lk hd ht bl sd sp so : Int32} {rt : Int64} {ll lg : List Int32} {rd : Nat} {ta im : Int32} {ps ip : Int64} (hX : zat h 0 = some (.inr (.inr (.inr (9, [.ref 2, .int ta, .ref 4, .ref ra, .ref rd, .long ps, .ref 34, .ref 36, .int im, .long ip, .ref 42, .ref 44, .ref 60, .ref 66, .ref 72, .ref 74, .ref 150, .ref 158]))))) (hA : zat h ra = some (.inr (.inr (.inr (0, [.int lk, .int hd, .int ht, .int bl, .int sd, .long rt, .ref rl, .ref rg, .ref rv, .int sp, .ref rn, .ref rp, .int so, .ref rw]))))) (hL : zat h rl = some (.inl (0, 6, ll))) (hG : zat h rg = some (.inl (0, 6, lg))) (v : Int32) (hal : jallow ll lg 5 v = false) : zT zg0 zF zP 107 0 [(0, .ref 0), (1, .int 5), (2, .int v)] [] h 0 0 (some (.int 0), h, 0, 0) := by
  apply wq_toT
  refine wq_gos (f := 1) (pc2 := 1) (ls2 := [(0, .ref 0), (1, .int 5), (2, .int v)]) (st2 := [.int 5]) (h2 := h) (dc2 := 0) (ds2 := 0) 1 rfl ?_
  refine wq_inl (y2 := 144) (as := [.int 5]) rfl rfl rfl ?_
  show wq 144 0 [(0, .int 5)] [] h 0 0 _
  refine wq_gos (f := 1) (pc2 := 15) (ls2 := [(0, .int 5)]) (st2 := [.int 0]) (h2 := h) (dc2 := 0) (ds2 := 0) 6 rfl ?_
  refine wq_ret rfl rfl ?_
  show wq 107 4 [(0, .ref 0), (1, .int 5), (2, .int v)] [.int 0] h 0 0 _
  refine wq_gos (f := 1) (pc2 := 8) (ls2 := [(0, .ref 0), (1, .int 5), (2, .int v)]) (st2 := [.ref 0]) (h2 := h) (dc2 := 0) (ds2 := 0) 2 rfl ?_
  refine wq_getf rfl hX rfl rfl ?_
  refine wq_gos (f := 1) (pc2 := 13) (ls2 := [(0, .ref 0), (1, .int 5), (2, .int v)]) (st2 := [.int v, .int 5, .ref ra]) (h2 := h) (dc2 := 0) (ds2 := 0) 2 rfl ?_
  cases q1x : jallow ll lg (5 : Int32) v with
  | false =>
    refine wq_inlv (y2 := 3) (as := [.int 5, .int v]) rfl rfl rfl hA rfl (wq_T (show zT zg0 zF zP 3 0 [(0, .ref ra), (1, .int 5), (2, .int v)] [] h 0 0 (some (.int 0), h, 0, 0) from by have q9 := c_allows hA hL hG (j := (5 : Int32)) rfl v; rw [q1x] at q9; exact q9) ?_)
    show wq 107 16 [(0, .ref 0), (1, .int 5), (2, .int v)] [.int 0] h 0 0 _
    refine wq_gos (f := 1) (pc2 := 20) (ls2 := [(0, .ref 0), (1, .int 5), (2, .int v)]) (st2 := [.int 0]) (h2 := h) (dc2 := 0) (ds2 := 0) 2 rfl ?_
    exact wq_ret rfl rfl rfl
  | true =>
    refine wq_inlv (y2 := 3) (as := [.int 5, .int v]) rfl rfl rfl hA rfl (wq_T (show zT zg0 zF zP 3 0 [(0, .ref ra), (1, .int 5), (2, .int v)] [] h 0 0 (some (.int 1), h, 0, 0) from by have q9 := c_allows hA hL hG (j := (5 : Int32)) rfl v; rw [q1x] at q9; exact q9) ?_)
    show wq 107 16 [(0, .ref 0), (1, .int 5), (2, .int v)] [.int 1] h 0 0 _
    refine wq_gos (f := 1) (pc2 := 21) (ls2 := [(0, .ref 0), (1, .int 5), (2, .int v)]) (st2 := []) (h2 := h) (dc2 := 0) (ds2 := 0) 1 rfl ?_
    exfalso; rw [hal] at q1x; exact absurd q1x (by decide)
theorem m_setN5 {h : zH} {fs : List Value} {kn lo hi : List Int32} (hM : zat h 162 = some (.inr (.inr (.inr (10, fs))))) (hC : mC fs) (hK : zat h 166 = some (.inl (0, 14, kn))) (hO : zat h 168 = some (.inl (0, 12, lo))) (hG : zat h 170 = some (.inl (0, 12, hi))) (v : Int32) (hal : jallow lo hi 5 v = false) : wq 212 0 [(0, .ref 162), (1, .int 5), (2, .int v)] [] h 0 0 (fun r => ∃ h2, r = (some (.int 0), h2, 0, 0)) := by
  refine wq_gos (f := 1) (pc2 := 2) (ls2 := [(0, .ref 162), (1, .int 5), (2, .int v)]) (st2 := [.int 0, .ref 162]) (h2 := h) (dc2 := 0) (ds2 := 0) 2 rfl ?_
  refine wq_putf rfl hM rfl (by rw [hC.1]; rfl) rfl ?_
  intro h1x e2x f3x l4x
  obtain ⟨fs5x, hf6x⟩ : ∃ x, x = fs.set 0 (.int 0) := ⟨_, rfl⟩
  rw [← hf6x] at e2x
  have hC7x : mC fs5x := by rw [hf6x]; exact mC_set hC (by decide) _
  have p8x : fs5x[0]? = some (.int 0) := by rw [hf6x]; exact List.getElem?_set_self (by rw [hC.1]; decide)
  refine wq_gos (f := 1) (pc2 := 6) (ls2 := [(0, .ref 162), (1, .int 5), (2, .int v)]) (st2 := [.int 5]) (h2 := h1x) (dc2 := 0) (ds2 := 0) 1 rfl ?_
  refine wq_inl (y2 := 208) (as := [.int 5]) rfl rfl rfl ?_
  show wq 208 0 [(0, .int 5)] [] h1x 0 0 _
  refine wq_gos (f := 1) (pc2 := 15) (ls2 := [(0, .int 5)]) (st2 := [.int 1]) (h2 := h1x) (dc2 := 0) (ds2 := 0) 7 rfl ?_
  refine wq_ret rfl rfl ?_
  show wq 212 9 [(0, .ref 162), (1, .int 5), (2, .int v)] [.int 1] h1x 0 0 _
  refine wq_gos (f := 1) (pc2 := 15) (ls2 := [(0, .ref 162), (1, .int 5), (2, .int v)]) (st2 := [.int v, .int 5, .ref 162]) (h2 := h1x) (dc2 := 0) (ds2 := 0) 4 rfl ?_
  have e9x := (f3x.2 _ _ (wnc (by decide) wn0) hK)
  have e10x := (f3x.2 _ _ (wnc (by decide) wn0) hO)
  have e11x := (f3x.2 _ _ (wnc (by decide) wn0) hG)
  cases q12x : jallow lo hi (5 : Int32) v with
  | false =>
    refine wq_inlv (y2 := 207) (as := [.int 5, .int v]) rfl rfl rfl e2x rfl (wq_T (show zT zg0 zF zP 207 0 [(0, .ref 162), (1, .int 5), (2, .int v)] [] h1x 0 0 (some (.int 0), h1x, 0, 0) from by have q9 := c_within e2x (hC7x.2 (3, 166) (by decide)) (hC7x.2 (4, 168) (by decide)) (hC7x.2 (5, 170) (by decide)) e9x e10x e11x (j := (5 : Int32)) rfl v; rw [q12x] at q9; exact q9) ?_)
    show wq 212 18 [(0, .ref 162), (1, .int 5), (2, .int v)] [.int 0] h1x 0 0 _
    refine wq_gos (f := 1) (pc2 := 22) (ls2 := [(0, .ref 162), (1, .int 5), (2, .int v)]) (st2 := [.int 0]) (h2 := h1x) (dc2 := 0) (ds2 := 0) 2 rfl ?_
    exact wq_ret rfl rfl ⟨h1x, rfl⟩
  | true =>
    refine wq_inlv (y2 := 207) (as := [.int 5, .int v]) rfl rfl rfl e2x rfl (wq_T (show zT zg0 zF zP 207 0 [(0, .ref 162), (1, .int 5), (2, .int v)] [] h1x 0 0 (some (.int 1), h1x, 0, 0) from by have q9 := c_within e2x (hC7x.2 (3, 166) (by decide)) (hC7x.2 (4, 168) (by decide)) (hC7x.2 (5, 170) (by decide)) e9x e10x e11x (j := (5 : Int32)) rfl v; rw [q12x] at q9; exact q9) ?_)
    show wq 212 18 [(0, .ref 162), (1, .int 5), (2, .int v)] [.int 1] h1x 0 0 _
    refine wq_gos (f := 1) (pc2 := 23) (ls2 := [(0, .ref 162), (1, .int 5), (2, .int v)]) (st2 := []) (h2 := h1x) (dc2 := 0) (ds2 := 0) 1 rfl ?_
    exfalso; rw [hal] at q12x; exact absurd q12x (by decide)
set_option maxHeartbeats 4000000 in
theorem c_aimG0 {h : zH} {ra : Nat} {rd : Nat} {ta im : Int32} {ps ip : Int64} {pp : List Int64} {pa am : List Int32} (hX : zat h 0 = some (.inr (.inr (.inr (9, [.ref 2, .int ta, .ref 4, .ref ra, .ref rd, .long ps, .ref 34, .ref 36, .int im, .long ip, .ref 42, .ref 44, .ref 60, .ref 66, .ref 72, .ref 74, .ref 150, .ref 158]))))) (hP : zat h 36 = some (.inr (.inr (.inr (2, [.int 0, .int 0, .ref 38, .ref 40]))))) (hPp : zat h 38 = some (.inr (.inl (20, pp)))) (hPa : zat h 40 = some (.inl (0, 120, pa))) (hAm : zat h 34 = some (.inl (0, 6, am))) {v : Int64} (h1 : -1000000000 ≤ v.toInt) (h2 : v.toInt ≤ 1000000000) : wq 112 0 [(0, .ref 0), (1, .int 0), (2, .long v)] [] h 0 0 (fun r => ∃ h2, r = (some (.int 1), h2, 0, 0) ∧ wFr [0, 36, 38, 40, 34] h h2) := by
  have el : ((-1000000000 : Int64)).toInt = -1000000000 := rfl
  have eh : ((1000000000 : Int64)).toInt = 1000000000 := rfl
  refine wq_gos (f := 1) (pc2 := 45) (ls2 := [(6, .long 1000000000), (4, .long (-1000000000)), (0, .ref 0), (1, .int 0), (2, .long v)]) (st2 := [.int (lg_cmp v (-1000000000 : Int64))]) (h2 := h) (dc2 := 0) (ds2 := 0) 20 rfl ?_
  refine wq_lt0f rfl rfl (lgc_ge (by omega)) ?_
  refine wq_gos (f := 1) (pc2 := 52) (ls2 := [(6, .long 1000000000), (4, .long (-1000000000)), (0, .ref 0), (1, .int 0), (2, .long v)]) (st2 := [.int (lg_cmp v (1000000000 : Int64))]) (h2 := h) (dc2 := 0) (ds2 := 0) 3 rfl ?_
  refine wq_le0t rfl (lgc_le (by omega)) ?_
  refine wq_gos (f := 1) (pc2 := 58) (ls2 := [(6, .long 1000000000), (4, .long (-1000000000)), (0, .ref 0), (1, .int 0), (2, .long v)]) (st2 := [.ref 0]) (h2 := h) (dc2 := 0) (ds2 := 0) 1 rfl ?_
  refine wq_getf rfl hX rfl rfl ?_
  refine wq_gos (f := 1) (pc2 := 62) (ls2 := [(6, .long 1000000000), (4, .long (-1000000000)), (0, .ref 0), (1, .int 0), (2, .long v)]) (st2 := [.ref 0, .ref 36]) (h2 := h) (dc2 := 0) (ds2 := 0) 1 rfl ?_
  refine wq_getf rfl hX rfl rfl ?_
  refine wq_gos (f := 1) (pc2 := 66) (ls2 := [(6, .long 1000000000), (4, .long (-1000000000)), (0, .ref 0), (1, .int 0), (2, .long v)]) (st2 := [.ref 0, .long ps, .ref 36]) (h2 := h) (dc2 := 0) (ds2 := 0) 1 rfl ?_
  refine wq_getf rfl hX rfl rfl ?_
  refine wq_inlv (y2 := 23) (as := [.long ps, .ref 34]) rfl rfl rfl hP rfl ?_
  show wq 23 0 [(0, .ref 36), (1, .long ps), (3, .ref 34)] [] h 0 0 _
  refine wq_gos (f := 1) (pc2 := 1) (ls2 := [(0, .ref 36), (1, .long ps), (3, .ref 34)]) (st2 := [.ref 36]) (h2 := h) (dc2 := 0) (ds2 := 0) 1 rfl ?_
  refine wq_getf rfl hP rfl rfl ?_
  refine wq_gos (f := 1) (pc2 := 5) (ls2 := [(0, .ref 36), (1, .long ps), (3, .ref 34)]) (st2 := [.ref 36, .ref 38]) (h2 := h) (dc2 := 0) (ds2 := 0) 1 rfl ?_
  refine wq_getf rfl hP rfl rfl ?_
  refine wq_gos (f := 1) (pc2 := 9) (ls2 := [(0, .ref 36), (1, .long ps), (3, .ref 34)]) (st2 := [.long ps, .int 0, .ref 38]) (h2 := h) (dc2 := 0) (ds2 := 0) 1 rfl ?_
  refine wq_last rfl hPp rfl rfl ?_
  intro h1x e2x f3x l4x
  have e2x : zat h1x 38 = some (.inr (.inl (20, (zset 0 pp 0 ps)))) := e2x
  refine wq_gos (f := 1) (pc2 := 13) (ls2 := [(0, .ref 36), (1, .long ps), (3, .ref 34)]) (st2 := [.ref 36, .int 0, .ref 34]) (h2 := h1x) (dc2 := 0) (ds2 := 0) 3 rfl ?_
  have e5x := (f3x.2 _ _ (wnc (by decide) wn0) hP)
  refine wq_getf rfl e5x rfl rfl ?_
  refine wq_gos (f := 1) (pc2 := 17) (ls2 := [(0, .ref 36), (1, .long ps), (3, .ref 34)]) (st2 := [.ref 36, .ref 40, .int 0, .ref 34]) (h2 := h1x) (dc2 := 0) (ds2 := 0) 1 rfl ?_
  refine wq_getf rfl e5x rfl rfl ?_
  refine wq_gos (f := 1) (pc2 := 25) (ls2 := [(0, .ref 36), (1, .long ps), (3, .ref 34)]) (st2 := [.int 6, .int 0, .ref 40, .int 0, .ref 34]) (h2 := h1x) (dc2 := 0) (ds2 := 0) 3 rfl ?_
  have e6x := (f3x.2 _ _ (wnc (by decide) wn0) hPa)
  have e7x := (f3x.2 _ _ (wnc (by decide) wn0) hAm)
  refine wq_cpi rfl e7x e6x (by decide) (by decide) (by decide) (by decide) (by decide) rfl ?_
  intro h8x e9x f10x l11x
  have e9x : zat h8x 40 = some (.inl (0, 120, (zcpy 0 am pa 0 0 6))) := e9x
  refine wq_gos (f := 1) (pc2 := 30) (ls2 := [(0, .ref 36), (1, .long ps), (3, .ref 34)]) (st2 := [.ref 36, .ref 36]) (h2 := h8x) (dc2 := 0) (ds2 := 0) 2 rfl ?_
  have e12x := (f10x.2 _ _ (wnc (by decide) wn0) e5x)
  refine wq_getf rfl e12x rfl rfl ?_
  refine wq_gos (f := 1) (pc2 := 45) (ls2 := [(0, .ref 36), (1, .long ps), (3, .ref 34)]) (st2 := [.ref 36, .ref 36]) (h2 := h8x) (dc2 := 0) (ds2 := 0) 5 rfl ?_
  refine wq_getf rfl e12x rfl rfl ?_
  refine wq_gos (f := 1) (pc2 := 50) (ls2 := [(0, .ref 36), (1, .long ps), (3, .ref 34)]) (st2 := [.int 1, .ref 36]) (h2 := h8x) (dc2 := 0) (ds2 := 0) 2 rfl ?_
  refine wq_putf rfl e12x rfl rfl rfl ?_
  intro h13x e14x f15x l16x
  have e14x : zat h13x 36 = some (.inr (.inr (.inr (2, [.int 0, .int 1, .ref 38, .ref 40])))) := e14x
  refine wq_gos (f := 1) (pc2 := 55) (ls2 := [(0, .ref 36), (1, .long ps), (3, .ref 34)]) (st2 := [.ref 36, .ref 36]) (h2 := h13x) (dc2 := 0) (ds2 := 0) 2 rfl ?_
  refine wq_getf rfl e14x rfl rfl ?_
  refine wq_gos (f := 1) (pc2 := 62) (ls2 := [(0, .ref 36), (1, .long ps), (3, .ref 34)]) (st2 := [.int 20, .int 1, .ref 36]) (h2 := h13x) (dc2 := 0) (ds2 := 0) 3 rfl ?_
  refine wq_inl (y2 := 285) (as := [.int 1, .int 20]) rfl rfl rfl (wq_T (c_min (1 : Int32) (20 : Int32) h13x) ?_)
  show wq 23 65 [(0, .ref 36), (1, .long ps), (3, .ref 34)] [.int (jmin (1 : Int32) (20 : Int32)), .ref 36] h13x 0 0 _
  refine wq_putf rfl e14x rfl rfl rfl ?_
  intro h17x e18x f19x l20x
  have e18x : zat h17x 36 = some (.inr (.inr (.inr (2, [.int (jmin (1 : Int32) (20 : Int32)), .int 1, .ref 38, .ref 40])))) := e18x
  refine wq_ret rfl rfl ?_
  show wq 112 72 [(6, .long 1000000000), (4, .long (-1000000000)), (0, .ref 0), (1, .int 0), (2, .long v)] [] h17x 0 0 _
  refine wq_gos (f := 1) (pc2 := 73) (ls2 := [(6, .long 1000000000), (4, .long (-1000000000)), (0, .ref 0), (1, .int 0), (2, .long v)]) (st2 := [.ref 0]) (h2 := h17x) (dc2 := 0) (ds2 := 0) 1 rfl ?_
  have e21x := (f19x.2 _ _ (wnc (by decide) wn0) (f15x.2 _ _ (wnc (by decide) wn0) (f10x.2 _ _ (wnc (by decide) wn0) (f3x.2 _ _ (wnc (by decide) wn0) hX))))
  refine wq_getf rfl e21x rfl rfl ?_
  refine wq_gos (f := 1) (pc2 := 79) (ls2 := [(6, .long 1000000000), (4, .long (-1000000000)), (0, .ref 0), (1, .int 0), (2, .long v)]) (st2 := [.int (v).toInt32, .int 0, .ref 34]) (h2 := h17x) (dc2 := 0) (ds2 := 0) 3 rfl ?_
  have e22x := (f19x.2 _ _ (wnc (by decide) wn0) (f15x.2 _ _ (wnc (by decide) wn0) (f10x.2 _ _ (wnc (by decide) wn0) e7x)))
  refine wq_iast rfl e22x rfl rfl ?_
  intro h23x e24x f25x l26x
  have e24x : zat h23x 34 = some (.inl (0, 6, (zset 0 am 0 (v).toInt32))) := e24x
  refine wq_gos (f := 1) (pc2 := 81) (ls2 := [(6, .long 1000000000), (4, .long (-1000000000)), (0, .ref 0), (1, .int 0), (2, .long v)]) (st2 := [.int 1]) (h2 := h23x) (dc2 := 0) (ds2 := 0) 1 rfl ?_
  exact wq_ret rfl rfl ⟨h23x, rfl, (wFr_tr (wFr_sub f3x (by simp)) (wFr_tr (wFr_sub f10x (by simp)) (wFr_tr (wFr_sub f15x (by simp)) (wFr_tr (wFr_sub f19x (by simp)) (wFr_sub f25x (by simp))))))⟩
set_option maxHeartbeats 4000000 in
theorem m_aimG0 {h : zH} {fs : List Value} {kn lo hi : List Int32} {nw ai ke hr : List Int32} (hM : zat h 162 = some (.inr (.inr (.inr (10, fs))))) (hC : mC fs) (hK : zat h 166 = some (.inl (0, 14, kn))) (hO : zat h 168 = some (.inl (0, 12, lo))) (hG : zat h 170 = some (.inl (0, 12, hi))) (h27 : fs[27]? = some (.int 0)) (hNw : zat h 188 = some (.inl (0, 6, nw))) (hAi : zat h 190 = some (.inl (0, 6, ai))) (hKe : zat h 192 = some (.inl (0, 252, ke))) (hHr : zat h 212 = some (.inl (2, 2, hr))) {v : Int64} (h1 : -1000000000 ≤ v.toInt) (h2 : v.toInt ≤ 1000000000) : wq 218 0 [(0, .ref 162), (1, .int 0), (2, .long v)] [] h 0 0 (fun r => ∃ h2, r = (some (.int 1), h2, 0, 0)) := by
  have el : ((-1000000000 : Int64)).toInt = -1000000000 := rfl
  have eh : ((1000000000 : Int64)).toInt = 1000000000 := rfl
  refine wq_gos (f := 1) (pc2 := 2) (ls2 := [(0, .ref 162), (1, .int 0), (2, .long v)]) (st2 := [.int 0, .ref 162]) (h2 := h) (dc2 := 0) (ds2 := 0) 2 rfl ?_
  refine wq_putf rfl hM rfl (by rw [hC.1]; rfl) rfl ?_
  intro h1x e2x f3x l4x
  obtain ⟨fs5x, hf6x⟩ : ∃ x, x = fs.set 0 (.int 0) := ⟨_, rfl⟩
  rw [← hf6x] at e2x
  have hC7x : mC fs5x := by rw [hf6x]; exact mC_set hC (by decide) _
  have p8x : fs5x[27]? = some (.int 0) := by rw [hf6x, List.getElem?_set_ne (by decide)]; exact h27
  have p9x : fs5x[0]? = some (.int 0) := by rw [hf6x]; exact List.getElem?_set_self (by rw [hC.1]; decide)
  refine wq_gos (f := 1) (pc2 := 22) (ls2 := [(4, .long 1000000000), (0, .ref 162), (1, .int 0), (2, .long v)]) (st2 := [.int 0]) (h2 := h1x) (dc2 := 0) (ds2 := 0) 7 rfl ?_
  refine wq_inl (y2 := 208) (as := [.int 0]) rfl rfl rfl ?_
  show wq 208 0 [(0, .int 0)] [] h1x 0 0 _
  refine wq_gos (f := 1) (pc2 := 15) (ls2 := [(0, .int 0)]) (st2 := [.int 1]) (h2 := h1x) (dc2 := 0) (ds2 := 0) 7 rfl ?_
  refine wq_ret rfl rfl ?_
  show wq 218 25 [(4, .long 1000000000), (0, .ref 162), (1, .int 0), (2, .long v)] [.int 1] h1x 0 0 _
  refine wq_gos (f := 1) (pc2 := 32) (ls2 := [(4, .long 1000000000), (0, .ref 162), (1, .int 0), (2, .long v)]) (st2 := [.int (lg_cmp v (1000000000 : Int64))]) (h2 := h1x) (dc2 := 0) (ds2 := 0) 4 rfl ?_
  refine wq_gt0f rfl rfl (lgc_le (by omega)) ?_
  refine wq_gos (f := 1) (pc2 := 49) (ls2 := [(4, .long 1000000000), (0, .ref 162), (1, .int 0), (2, .long v)]) (st2 := [.int (lg_cmp v (-1000000000 : Int64))]) (h2 := h1x) (dc2 := 0) (ds2 := 0) 8 rfl ?_
  refine wq_ge0t rfl (lgc_ge (by omega)) ?_
  refine wq_gos (f := 1) (pc2 := 55) (ls2 := [(4, .long 1000000000), (0, .ref 162), (1, .int 0), (2, .long v)]) (st2 := [.ref 162]) (h2 := h1x) (dc2 := 0) (ds2 := 0) 1 rfl ?_
  refine wq_inlv (y2 := 191) (as := []) rfl rfl rfl e2x rfl ?_
  show wq 191 0 [(0, .ref 162)] [] h1x 0 0 _
  refine wq_gos (f := 1) (pc2 := 1) (ls2 := [(0, .ref 162)]) (st2 := [.ref 162]) (h2 := h1x) (dc2 := 0) (ds2 := 0) 1 rfl ?_
  refine wq_getf rfl e2x p8x rfl ?_
  refine wq_gos (f := 1) (pc2 := 51) (ls2 := [(0, .ref 162)]) (st2 := [.ref 162, .ref 162]) (h2 := h1x) (dc2 := 0) (ds2 := 0) 4 rfl ?_
  refine wq_getf rfl e2x p8x rfl ?_
  refine wq_inlv (y2 := 189) (as := [.int 0]) rfl rfl rfl e2x rfl ?_
  show wq 189 0 [(0, .ref 162), (1, .int 0)] [] h1x 0 0 _
  refine wq_gos (f := 1) (pc2 := 9) (ls2 := [(2, .int 0), (0, .ref 162), (1, .int 0)]) (st2 := [.ref 162]) (h2 := h1x) (dc2 := 0) (ds2 := 0) 6 rfl ?_
  refine wq_getf rfl e2x (hC7x.2 (26, 192) (by decide)) rfl ?_
  refine wq_gos (f := 1) (pc2 := 19) (ls2 := [(2, .int 0), (0, .ref 162), (1, .int 0)]) (st2 := [.ref 162, .int 0, .ref 192]) (h2 := h1x) (dc2 := 0) (ds2 := 0) 6 rfl ?_
  refine wq_getf rfl e2x (hC7x.2 (24, 188) (by decide)) rfl ?_
  refine wq_gos (f := 1) (pc2 := 23) (ls2 := [(2, .int 0), (0, .ref 162), (1, .int 0)]) (st2 := [.int 0, .ref 188, .int 0, .ref 192]) (h2 := h1x) (dc2 := 0) (ds2 := 0) 1 rfl ?_
  have e10x := (f3x.2 _ _ (wnc (by decide) wn0) hNw)
  refine wq_ialdk (k := 0) rfl e10x rfl rfl rfl ?_
  have e11x := (f3x.2 _ _ (wnc (by decide) wn0) hKe)
  refine wq_iast rfl e11x rfl rfl ?_
  intro h12x e13x f14x l15x
  have e13x : zat h12x 192 = some (.inl (0, 252, (zset 0 ke 0 (nw.getD 0 0)))) := e13x
  refine wq_gos (f := 1) (pc2 := 26) (ls2 := [(2, .int 0), (0, .ref 162), (1, .int 0)]) (st2 := [.ref 162]) (h2 := h12x) (dc2 := 0) (ds2 := 0) 1 rfl ?_
  have e16x := (f14x.2 _ _ (wnc (by decide) wn0) e2x)
  refine wq_getf rfl e16x (hC7x.2 (26, 192) (by decide)) rfl ?_
  refine wq_gos (f := 1) (pc2 := 39) (ls2 := [(2, .int 0), (0, .ref 162), (1, .int 0)]) (st2 := [.ref 162, .int 6, .ref 192]) (h2 := h12x) (dc2 := 0) (ds2 := 0) 8 rfl ?_
  refine wq_getf rfl e16x (hC7x.2 (25, 190) (by decide)) rfl ?_
  refine wq_gos (f := 1) (pc2 := 43) (ls2 := [(2, .int 0), (0, .ref 162), (1, .int 0)]) (st2 := [.int 0, .ref 190, .int 6, .ref 192]) (h2 := h12x) (dc2 := 0) (ds2 := 0) 1 rfl ?_
  have e17x := (f14x.2 _ _ (wnc (by decide) wn0) (f3x.2 _ _ (wnc (by decide) wn0) hAi))
  refine wq_ialdk (k := 0) rfl e17x rfl rfl rfl ?_
  refine wq_iast rfl e13x rfl rfl ?_
  intro h18x e19x f20x l21x
  have e19x : zat h18x 192 = some (.inl (0, 252, (zset 0 (zset 0 ke 0 (nw.getD 0 0)) 6 (ai.getD 0 0)))) := e19x
  refine wq_gos (f := 1) (pc2 := 9) (ls2 := [(2, .int 1), (0, .ref 162), (1, .int 0)]) (st2 := [.ref 162]) (h2 := h18x) (dc2 := 0) (ds2 := 0) 6 rfl ?_
  have e22x := (f20x.2 _ _ (wnc (by decide) wn0) e16x)
  refine wq_getf rfl e22x (hC7x.2 (26, 192) (by decide)) rfl ?_
  refine wq_gos (f := 1) (pc2 := 19) (ls2 := [(2, .int 1), (0, .ref 162), (1, .int 0)]) (st2 := [.ref 162, .int 1, .ref 192]) (h2 := h18x) (dc2 := 0) (ds2 := 0) 6 rfl ?_
  refine wq_getf rfl e22x (hC7x.2 (24, 188) (by decide)) rfl ?_
  refine wq_gos (f := 1) (pc2 := 23) (ls2 := [(2, .int 1), (0, .ref 162), (1, .int 0)]) (st2 := [.int 1, .ref 188, .int 1, .ref 192]) (h2 := h18x) (dc2 := 0) (ds2 := 0) 1 rfl ?_
  have e23x := (f20x.2 _ _ (wnc (by decide) wn0) (f14x.2 _ _ (wnc (by decide) wn0) e10x))
  refine wq_ialdk (k := 1) rfl e23x rfl rfl rfl ?_
  refine wq_iast rfl e19x rfl rfl ?_
  intro h24x e25x f26x l27x
  have e25x : zat h24x 192 = some (.inl (0, 252, (zset 0 (zset 0 (zset 0 ke 0 (nw.getD 0 0)) 6 (ai.getD 0 0)) 1 (nw.getD 1 0)))) := e25x
  refine wq_gos (f := 1) (pc2 := 26) (ls2 := [(2, .int 1), (0, .ref 162), (1, .int 0)]) (st2 := [.ref 162]) (h2 := h24x) (dc2 := 0) (ds2 := 0) 1 rfl ?_
  have e28x := (f26x.2 _ _ (wnc (by decide) wn0) e22x)
  refine wq_getf rfl e28x (hC7x.2 (26, 192) (by decide)) rfl ?_
  refine wq_gos (f := 1) (pc2 := 39) (ls2 := [(2, .int 1), (0, .ref 162), (1, .int 0)]) (st2 := [.ref 162, .int 7, .ref 192]) (h2 := h24x) (dc2 := 0) (ds2 := 0) 8 rfl ?_
  refine wq_getf rfl e28x (hC7x.2 (25, 190) (by decide)) rfl ?_
  refine wq_gos (f := 1) (pc2 := 43) (ls2 := [(2, .int 1), (0, .ref 162), (1, .int 0)]) (st2 := [.int 1, .ref 190, .int 7, .ref 192]) (h2 := h24x) (dc2 := 0) (ds2 := 0) 1 rfl ?_
  have e29x := (f26x.2 _ _ (wnc (by decide) wn0) (f20x.2 _ _ (wnc (by decide) wn0) e17x))
  refine wq_ialdk (k := 1) rfl e29x rfl rfl rfl ?_
  refine wq_iast rfl e25x rfl rfl ?_
  intro h30x e31x f32x l33x
  have e31x : zat h30x 192 = some (.inl (0, 252, (zset 0 (zset 0 (zset 0 (zset 0 ke 0 (nw.getD 0 0)) 6 (ai.getD 0 0)) 1 (nw.getD 1 0)) 7 (ai.getD 1 0)))) := e31x
  refine wq_gos (f := 1) (pc2 := 9) (ls2 := [(2, .int 2), (0, .ref 162), (1, .int 0)]) (st2 := [.ref 162]) (h2 := h30x) (dc2 := 0) (ds2 := 0) 6 rfl ?_
  have e34x := (f32x.2 _ _ (wnc (by decide) wn0) e28x)
  refine wq_getf rfl e34x (hC7x.2 (26, 192) (by decide)) rfl ?_
  refine wq_gos (f := 1) (pc2 := 19) (ls2 := [(2, .int 2), (0, .ref 162), (1, .int 0)]) (st2 := [.ref 162, .int 2, .ref 192]) (h2 := h30x) (dc2 := 0) (ds2 := 0) 6 rfl ?_
  refine wq_getf rfl e34x (hC7x.2 (24, 188) (by decide)) rfl ?_
  refine wq_gos (f := 1) (pc2 := 23) (ls2 := [(2, .int 2), (0, .ref 162), (1, .int 0)]) (st2 := [.int 2, .ref 188, .int 2, .ref 192]) (h2 := h30x) (dc2 := 0) (ds2 := 0) 1 rfl ?_
  have e35x := (f32x.2 _ _ (wnc (by decide) wn0) (f26x.2 _ _ (wnc (by decide) wn0) e23x))
  refine wq_ialdk (k := 2) rfl e35x rfl rfl rfl ?_
  refine wq_iast rfl e31x rfl rfl ?_
  intro h36x e37x f38x l39x
  have e37x : zat h36x 192 = some (.inl (0, 252, (zset 0 (zset 0 (zset 0 (zset 0 (zset 0 ke 0 (nw.getD 0 0)) 6 (ai.getD 0 0)) 1 (nw.getD 1 0)) 7 (ai.getD 1 0)) 2 (nw.getD 2 0)))) := e37x
  refine wq_gos (f := 1) (pc2 := 26) (ls2 := [(2, .int 2), (0, .ref 162), (1, .int 0)]) (st2 := [.ref 162]) (h2 := h36x) (dc2 := 0) (ds2 := 0) 1 rfl ?_
  have e40x := (f38x.2 _ _ (wnc (by decide) wn0) e34x)
  refine wq_getf rfl e40x (hC7x.2 (26, 192) (by decide)) rfl ?_
  refine wq_gos (f := 1) (pc2 := 39) (ls2 := [(2, .int 2), (0, .ref 162), (1, .int 0)]) (st2 := [.ref 162, .int 8, .ref 192]) (h2 := h36x) (dc2 := 0) (ds2 := 0) 8 rfl ?_
  refine wq_getf rfl e40x (hC7x.2 (25, 190) (by decide)) rfl ?_
  refine wq_gos (f := 1) (pc2 := 43) (ls2 := [(2, .int 2), (0, .ref 162), (1, .int 0)]) (st2 := [.int 2, .ref 190, .int 8, .ref 192]) (h2 := h36x) (dc2 := 0) (ds2 := 0) 1 rfl ?_
  have e41x := (f38x.2 _ _ (wnc (by decide) wn0) (f32x.2 _ _ (wnc (by decide) wn0) e29x))
  refine wq_ialdk (k := 2) rfl e41x rfl rfl rfl ?_
  refine wq_iast rfl e37x rfl rfl ?_
  intro h42x e43x f44x l45x
  have e43x : zat h42x 192 = some (.inl (0, 252, (zset 0 (zset 0 (zset 0 (zset 0 (zset 0 (zset 0 ke 0 (nw.getD 0 0)) 6 (ai.getD 0 0)) 1 (nw.getD 1 0)) 7 (ai.getD 1 0)) 2 (nw.getD 2 0)) 8 (ai.getD 2 0)))) := e43x
  refine wq_gos (f := 1) (pc2 := 9) (ls2 := [(2, .int 3), (0, .ref 162), (1, .int 0)]) (st2 := [.ref 162]) (h2 := h42x) (dc2 := 0) (ds2 := 0) 6 rfl ?_
  have e46x := (f44x.2 _ _ (wnc (by decide) wn0) e40x)
  refine wq_getf rfl e46x (hC7x.2 (26, 192) (by decide)) rfl ?_
  refine wq_gos (f := 1) (pc2 := 19) (ls2 := [(2, .int 3), (0, .ref 162), (1, .int 0)]) (st2 := [.ref 162, .int 3, .ref 192]) (h2 := h42x) (dc2 := 0) (ds2 := 0) 6 rfl ?_
  refine wq_getf rfl e46x (hC7x.2 (24, 188) (by decide)) rfl ?_
  refine wq_gos (f := 1) (pc2 := 23) (ls2 := [(2, .int 3), (0, .ref 162), (1, .int 0)]) (st2 := [.int 3, .ref 188, .int 3, .ref 192]) (h2 := h42x) (dc2 := 0) (ds2 := 0) 1 rfl ?_
  have e47x := (f44x.2 _ _ (wnc (by decide) wn0) (f38x.2 _ _ (wnc (by decide) wn0) e35x))
  refine wq_ialdk (k := 3) rfl e47x rfl rfl rfl ?_
  refine wq_iast rfl e43x rfl rfl ?_
  intro h48x e49x f50x l51x
  have e49x : zat h48x 192 = some (.inl (0, 252, (zset 0 (zset 0 (zset 0 (zset 0 (zset 0 (zset 0 (zset 0 ke 0 (nw.getD 0 0)) 6 (ai.getD 0 0)) 1 (nw.getD 1 0)) 7 (ai.getD 1 0)) 2 (nw.getD 2 0)) 8 (ai.getD 2 0)) 3 (nw.getD 3 0)))) := e49x
  refine wq_gos (f := 1) (pc2 := 26) (ls2 := [(2, .int 3), (0, .ref 162), (1, .int 0)]) (st2 := [.ref 162]) (h2 := h48x) (dc2 := 0) (ds2 := 0) 1 rfl ?_
  have e52x := (f50x.2 _ _ (wnc (by decide) wn0) e46x)
  refine wq_getf rfl e52x (hC7x.2 (26, 192) (by decide)) rfl ?_
  refine wq_gos (f := 1) (pc2 := 39) (ls2 := [(2, .int 3), (0, .ref 162), (1, .int 0)]) (st2 := [.ref 162, .int 9, .ref 192]) (h2 := h48x) (dc2 := 0) (ds2 := 0) 8 rfl ?_
  refine wq_getf rfl e52x (hC7x.2 (25, 190) (by decide)) rfl ?_
  refine wq_gos (f := 1) (pc2 := 43) (ls2 := [(2, .int 3), (0, .ref 162), (1, .int 0)]) (st2 := [.int 3, .ref 190, .int 9, .ref 192]) (h2 := h48x) (dc2 := 0) (ds2 := 0) 1 rfl ?_
  have e53x := (f50x.2 _ _ (wnc (by decide) wn0) (f44x.2 _ _ (wnc (by decide) wn0) e41x))
  refine wq_ialdk (k := 3) rfl e53x rfl rfl rfl ?_
  refine wq_iast rfl e49x rfl rfl ?_
  intro h54x e55x f56x l57x
  have e55x : zat h54x 192 = some (.inl (0, 252, (zset 0 (zset 0 (zset 0 (zset 0 (zset 0 (zset 0 (zset 0 (zset 0 ke 0 (nw.getD 0 0)) 6 (ai.getD 0 0)) 1 (nw.getD 1 0)) 7 (ai.getD 1 0)) 2 (nw.getD 2 0)) 8 (ai.getD 2 0)) 3 (nw.getD 3 0)) 9 (ai.getD 3 0)))) := e55x
  refine wq_gos (f := 1) (pc2 := 9) (ls2 := [(2, .int 4), (0, .ref 162), (1, .int 0)]) (st2 := [.ref 162]) (h2 := h54x) (dc2 := 0) (ds2 := 0) 6 rfl ?_
  have e58x := (f56x.2 _ _ (wnc (by decide) wn0) e52x)
  refine wq_getf rfl e58x (hC7x.2 (26, 192) (by decide)) rfl ?_
  refine wq_gos (f := 1) (pc2 := 19) (ls2 := [(2, .int 4), (0, .ref 162), (1, .int 0)]) (st2 := [.ref 162, .int 4, .ref 192]) (h2 := h54x) (dc2 := 0) (ds2 := 0) 6 rfl ?_
  refine wq_getf rfl e58x (hC7x.2 (24, 188) (by decide)) rfl ?_
  refine wq_gos (f := 1) (pc2 := 23) (ls2 := [(2, .int 4), (0, .ref 162), (1, .int 0)]) (st2 := [.int 4, .ref 188, .int 4, .ref 192]) (h2 := h54x) (dc2 := 0) (ds2 := 0) 1 rfl ?_
  have e59x := (f56x.2 _ _ (wnc (by decide) wn0) (f50x.2 _ _ (wnc (by decide) wn0) e47x))
  refine wq_ialdk (k := 4) rfl e59x rfl rfl rfl ?_
  refine wq_iast rfl e55x rfl rfl ?_
  intro h60x e61x f62x l63x
  have e61x : zat h60x 192 = some (.inl (0, 252, (zset 0 (zset 0 (zset 0 (zset 0 (zset 0 (zset 0 (zset 0 (zset 0 (zset 0 ke 0 (nw.getD 0 0)) 6 (ai.getD 0 0)) 1 (nw.getD 1 0)) 7 (ai.getD 1 0)) 2 (nw.getD 2 0)) 8 (ai.getD 2 0)) 3 (nw.getD 3 0)) 9 (ai.getD 3 0)) 4 (nw.getD 4 0)))) := e61x
  refine wq_gos (f := 1) (pc2 := 26) (ls2 := [(2, .int 4), (0, .ref 162), (1, .int 0)]) (st2 := [.ref 162]) (h2 := h60x) (dc2 := 0) (ds2 := 0) 1 rfl ?_
  have e64x := (f62x.2 _ _ (wnc (by decide) wn0) e58x)
  refine wq_getf rfl e64x (hC7x.2 (26, 192) (by decide)) rfl ?_
  refine wq_gos (f := 1) (pc2 := 39) (ls2 := [(2, .int 4), (0, .ref 162), (1, .int 0)]) (st2 := [.ref 162, .int 10, .ref 192]) (h2 := h60x) (dc2 := 0) (ds2 := 0) 8 rfl ?_
  refine wq_getf rfl e64x (hC7x.2 (25, 190) (by decide)) rfl ?_
  refine wq_gos (f := 1) (pc2 := 43) (ls2 := [(2, .int 4), (0, .ref 162), (1, .int 0)]) (st2 := [.int 4, .ref 190, .int 10, .ref 192]) (h2 := h60x) (dc2 := 0) (ds2 := 0) 1 rfl ?_
  have e65x := (f62x.2 _ _ (wnc (by decide) wn0) (f56x.2 _ _ (wnc (by decide) wn0) e53x))
  refine wq_ialdk (k := 4) rfl e65x rfl rfl rfl ?_
  refine wq_iast rfl e61x rfl rfl ?_
  intro h66x e67x f68x l69x
  have e67x : zat h66x 192 = some (.inl (0, 252, (zset 0 (zset 0 (zset 0 (zset 0 (zset 0 (zset 0 (zset 0 (zset 0 (zset 0 (zset 0 ke 0 (nw.getD 0 0)) 6 (ai.getD 0 0)) 1 (nw.getD 1 0)) 7 (ai.getD 1 0)) 2 (nw.getD 2 0)) 8 (ai.getD 2 0)) 3 (nw.getD 3 0)) 9 (ai.getD 3 0)) 4 (nw.getD 4 0)) 10 (ai.getD 4 0)))) := e67x
  refine wq_gos (f := 1) (pc2 := 9) (ls2 := [(2, .int 5), (0, .ref 162), (1, .int 0)]) (st2 := [.ref 162]) (h2 := h66x) (dc2 := 0) (ds2 := 0) 6 rfl ?_
  have e70x := (f68x.2 _ _ (wnc (by decide) wn0) e64x)
  refine wq_getf rfl e70x (hC7x.2 (26, 192) (by decide)) rfl ?_
  refine wq_gos (f := 1) (pc2 := 19) (ls2 := [(2, .int 5), (0, .ref 162), (1, .int 0)]) (st2 := [.ref 162, .int 5, .ref 192]) (h2 := h66x) (dc2 := 0) (ds2 := 0) 6 rfl ?_
  refine wq_getf rfl e70x (hC7x.2 (24, 188) (by decide)) rfl ?_
  refine wq_gos (f := 1) (pc2 := 23) (ls2 := [(2, .int 5), (0, .ref 162), (1, .int 0)]) (st2 := [.int 5, .ref 188, .int 5, .ref 192]) (h2 := h66x) (dc2 := 0) (ds2 := 0) 1 rfl ?_
  have e71x := (f68x.2 _ _ (wnc (by decide) wn0) (f62x.2 _ _ (wnc (by decide) wn0) e59x))
  refine wq_ialdk (k := 5) rfl e71x rfl rfl rfl ?_
  refine wq_iast rfl e67x rfl rfl ?_
  intro h72x e73x f74x l75x
  have e73x : zat h72x 192 = some (.inl (0, 252, (zset 0 (zset 0 (zset 0 (zset 0 (zset 0 (zset 0 (zset 0 (zset 0 (zset 0 (zset 0 (zset 0 ke 0 (nw.getD 0 0)) 6 (ai.getD 0 0)) 1 (nw.getD 1 0)) 7 (ai.getD 1 0)) 2 (nw.getD 2 0)) 8 (ai.getD 2 0)) 3 (nw.getD 3 0)) 9 (ai.getD 3 0)) 4 (nw.getD 4 0)) 10 (ai.getD 4 0)) 5 (nw.getD 5 0)))) := e73x
  refine wq_gos (f := 1) (pc2 := 26) (ls2 := [(2, .int 5), (0, .ref 162), (1, .int 0)]) (st2 := [.ref 162]) (h2 := h72x) (dc2 := 0) (ds2 := 0) 1 rfl ?_
  have e76x := (f74x.2 _ _ (wnc (by decide) wn0) e70x)
  refine wq_getf rfl e76x (hC7x.2 (26, 192) (by decide)) rfl ?_
  refine wq_gos (f := 1) (pc2 := 39) (ls2 := [(2, .int 5), (0, .ref 162), (1, .int 0)]) (st2 := [.ref 162, .int 11, .ref 192]) (h2 := h72x) (dc2 := 0) (ds2 := 0) 8 rfl ?_
  refine wq_getf rfl e76x (hC7x.2 (25, 190) (by decide)) rfl ?_
  refine wq_gos (f := 1) (pc2 := 43) (ls2 := [(2, .int 5), (0, .ref 162), (1, .int 0)]) (st2 := [.int 5, .ref 190, .int 11, .ref 192]) (h2 := h72x) (dc2 := 0) (ds2 := 0) 1 rfl ?_
  have e77x := (f74x.2 _ _ (wnc (by decide) wn0) (f68x.2 _ _ (wnc (by decide) wn0) e65x))
  refine wq_ialdk (k := 5) rfl e77x rfl rfl rfl ?_
  refine wq_iast rfl e73x rfl rfl ?_
  intro h78x e79x f80x l81x
  have e79x : zat h78x 192 = some (.inl (0, 252, (zset 0 (zset 0 (zset 0 (zset 0 (zset 0 (zset 0 (zset 0 (zset 0 (zset 0 (zset 0 (zset 0 (zset 0 ke 0 (nw.getD 0 0)) 6 (ai.getD 0 0)) 1 (nw.getD 1 0)) 7 (ai.getD 1 0)) 2 (nw.getD 2 0)) 8 (ai.getD 2 0)) 3 (nw.getD 3 0)) 9 (ai.getD 3 0)) 4 (nw.getD 4 0)) 10 (ai.getD 4 0)) 5 (nw.getD 5 0)) 11 (ai.getD 5 0)))) := e79x
  refine wq_gos (f := 1) (pc2 := 51) (ls2 := [(2, .int 6), (0, .ref 162), (1, .int 0)]) (st2 := []) (h2 := h78x) (dc2 := 0) (ds2 := 0) 5 rfl ?_
  refine wq_ret rfl rfl ?_
  show wq 191 57 [(0, .ref 162)] [] h78x 0 0 _
  refine wq_gos (f := 1) (pc2 := 59) (ls2 := [(0, .ref 162)]) (st2 := [.ref 162, .ref 162]) (h2 := h78x) (dc2 := 0) (ds2 := 0) 2 rfl ?_
  have e82x := (f80x.2 _ _ (wnc (by decide) wn0) e76x)
  refine wq_getf rfl e82x p8x rfl ?_
  refine wq_gos (f := 1) (pc2 := 64) (ls2 := [(0, .ref 162)]) (st2 := [.int 1, .ref 162]) (h2 := h78x) (dc2 := 0) (ds2 := 0) 2 rfl ?_
  refine wq_putf rfl e82x rfl (by rw [hC7x.1]; rfl) rfl ?_
  intro h83x e84x f85x l86x
  obtain ⟨fs87x, hf88x⟩ : ∃ x, x = fs5x.set 27 (.int 1) := ⟨_, rfl⟩
  rw [← hf88x] at e84x
  have hC89x : mC fs87x := by rw [hf88x]; exact mC_set hC7x (by decide) _
  have p90x : fs87x[0]? = some (.int 0) := by rw [hf88x, List.getElem?_set_ne (by decide)]; exact p9x
  have p91x : fs87x[27]? = some (.int 1) := by rw [hf88x]; exact List.getElem?_set_self (by rw [hC7x.1]; decide)
  refine wq_ret rfl rfl ?_
  show wq 218 58 [(4, .long 1000000000), (0, .ref 162), (1, .int 0), (2, .long v)] [] h83x 0 0 _
  refine wq_gos (f := 1) (pc2 := 59) (ls2 := [(4, .long 1000000000), (0, .ref 162), (1, .int 0), (2, .long v)]) (st2 := [.ref 162]) (h2 := h83x) (dc2 := 0) (ds2 := 0) 1 rfl ?_
  refine wq_getf rfl e84x (hC89x.2 (25, 190) (by decide)) rfl ?_
  refine wq_gos (f := 1) (pc2 := 65) (ls2 := [(4, .long 1000000000), (0, .ref 162), (1, .int 0), (2, .long v)]) (st2 := [.int (v).toInt32, .int 0, .ref 190]) (h2 := h83x) (dc2 := 0) (ds2 := 0) 3 rfl ?_
  have e92x := (f85x.2 _ _ (wnc (by decide) wn0) (f80x.2 _ _ (wnc (by decide) wn0) e77x))
  refine wq_iast rfl e92x rfl rfl ?_
  intro h93x e94x f95x l96x
  have e94x : zat h93x 190 = some (.inl (0, 6, (zset 0 ai 0 (v).toInt32))) := e94x
  refine wq_gos (f := 1) (pc2 := 68) (ls2 := [(4, .long 1000000000), (0, .ref 162), (1, .int 0), (2, .long v)]) (st2 := [.int 0, .ref 162]) (h2 := h93x) (dc2 := 0) (ds2 := 0) 2 rfl ?_
  have e97x := (f95x.2 _ _ (wnc (by decide) wn0) e84x)
  refine wq_putf rfl e97x rfl (by rw [hC89x.1]; rfl) rfl ?_
  intro h98x e99x f100x l101x
  obtain ⟨fs102x, hf103x⟩ : ∃ x, x = fs87x.set 33 (.int 0) := ⟨_, rfl⟩
  rw [← hf103x] at e99x
  have hC104x : mC fs102x := by rw [hf103x]; exact mC_set hC89x (by decide) _
  have p105x : fs102x[0]? = some (.int 0) := by rw [hf103x, List.getElem?_set_ne (by decide)]; exact p90x
  have p106x : fs102x[27]? = some (.int 1) := by rw [hf103x, List.getElem?_set_ne (by decide)]; exact p91x
  have p107x : fs102x[33]? = some (.int 0) := by rw [hf103x]; exact List.getElem?_set_self (by rw [hC89x.1]; decide)
  refine wq_gos (f := 1) (pc2 := 72) (ls2 := [(4, .long 1000000000), (0, .ref 162), (1, .int 0), (2, .long v)]) (st2 := [.int 1]) (h2 := h98x) (dc2 := 0) (ds2 := 0) 1 rfl ?_
  exact wq_ret rfl rfl ⟨h98x, rfl⟩
theorem c_aimA0 {h : zH} {v : Int64} (h1 : v.toInt < -1000000000) : zT zg0 zF zP 112 0 [(0, .ref 0), (1, .int 0), (2, .long v)] [] h 0 0 (some (.int 0), h, 0, 0) := by
  have el : ((-1000000000 : Int64)).toInt = -1000000000 := rfl
  have eh : ((1000000000 : Int64)).toInt = 1000000000 := rfl
  apply wq_toT
  refine wq_gos (f := 1) (pc2 := 45) (ls2 := [(6, .long 1000000000), (4, .long (-1000000000)), (0, .ref 0), (1, .int 0), (2, .long v)]) (st2 := [.int (lg_cmp v (-1000000000 : Int64))]) (h2 := h) (dc2 := 0) (ds2 := 0) 20 rfl ?_
  refine wq_lt0t rfl (lgc_lt (by omega)) ?_
  refine wq_gos (f := 1) (pc2 := 56) (ls2 := [(6, .long 1000000000), (4, .long (-1000000000)), (0, .ref 0), (1, .int 0), (2, .long v)]) (st2 := [.int 0]) (h2 := h) (dc2 := 0) (ds2 := 0) 1 rfl ?_
  exact wq_ret rfl rfl rfl
theorem m_aimA0 {h : zH} {fs : List Value} (hM : zat h 162 = some (.inr (.inr (.inr (10, fs))))) (hC : mC fs) {v : Int64} (h1 : v.toInt < -1000000000) : wq 218 0 [(0, .ref 162), (1, .int 0), (2, .long v)] [] h 0 0 (fun r => ∃ h2, r = (some (.int 0), h2, 0, 0)) := by
  have el : ((-1000000000 : Int64)).toInt = -1000000000 := rfl
  have eh : ((1000000000 : Int64)).toInt = 1000000000 := rfl
  refine wq_gos (f := 1) (pc2 := 2) (ls2 := [(0, .ref 162), (1, .int 0), (2, .long v)]) (st2 := [.int 0, .ref 162]) (h2 := h) (dc2 := 0) (ds2 := 0) 2 rfl ?_
  refine wq_putf rfl hM rfl (by rw [hC.1]; rfl) rfl ?_
  intro h1x e2x f3x l4x
  obtain ⟨fs5x, hf6x⟩ : ∃ x, x = fs.set 0 (.int 0) := ⟨_, rfl⟩
  rw [← hf6x] at e2x
  have hC7x : mC fs5x := by rw [hf6x]; exact mC_set hC (by decide) _
  have p8x : fs5x[0]? = some (.int 0) := by rw [hf6x]; exact List.getElem?_set_self (by rw [hC.1]; decide)
  refine wq_gos (f := 1) (pc2 := 22) (ls2 := [(4, .long 1000000000), (0, .ref 162), (1, .int 0), (2, .long v)]) (st2 := [.int 0]) (h2 := h1x) (dc2 := 0) (ds2 := 0) 7 rfl ?_
  refine wq_inl (y2 := 208) (as := [.int 0]) rfl rfl rfl ?_
  show wq 208 0 [(0, .int 0)] [] h1x 0 0 _
  refine wq_gos (f := 1) (pc2 := 15) (ls2 := [(0, .int 0)]) (st2 := [.int 1]) (h2 := h1x) (dc2 := 0) (ds2 := 0) 7 rfl ?_
  refine wq_ret rfl rfl ?_
  show wq 218 25 [(4, .long 1000000000), (0, .ref 162), (1, .int 0), (2, .long v)] [.int 1] h1x 0 0 _
  refine wq_gos (f := 1) (pc2 := 32) (ls2 := [(4, .long 1000000000), (0, .ref 162), (1, .int 0), (2, .long v)]) (st2 := [.int (lg_cmp v (1000000000 : Int64))]) (h2 := h1x) (dc2 := 0) (ds2 := 0) 4 rfl ?_
  refine wq_gt0f rfl rfl (lgc_le (by omega)) ?_
  refine wq_gos (f := 1) (pc2 := 49) (ls2 := [(4, .long 1000000000), (0, .ref 162), (1, .int 0), (2, .long v)]) (st2 := [.int (lg_cmp v (-1000000000 : Int64))]) (h2 := h1x) (dc2 := 0) (ds2 := 0) 8 rfl ?_
  refine wq_ge0f rfl rfl (lgc_lt (by omega)) ?_
  refine wq_gos (f := 1) (pc2 := 53) (ls2 := [(4, .long 1000000000), (0, .ref 162), (1, .int 0), (2, .long v)]) (st2 := [.int 0]) (h2 := h1x) (dc2 := 0) (ds2 := 0) 1 rfl ?_
  exact wq_ret rfl rfl ⟨h1x, rfl⟩
theorem c_aimB0 {h : zH} {v : Int64} (h2 : 1000000000 < v.toInt) : zT zg0 zF zP 112 0 [(0, .ref 0), (1, .int 0), (2, .long v)] [] h 0 0 (some (.int 0), h, 0, 0) := by
  have el : ((-1000000000 : Int64)).toInt = -1000000000 := rfl
  have eh : ((1000000000 : Int64)).toInt = 1000000000 := rfl
  apply wq_toT
  refine wq_gos (f := 1) (pc2 := 45) (ls2 := [(6, .long 1000000000), (4, .long (-1000000000)), (0, .ref 0), (1, .int 0), (2, .long v)]) (st2 := [.int (lg_cmp v (-1000000000 : Int64))]) (h2 := h) (dc2 := 0) (ds2 := 0) 20 rfl ?_
  refine wq_lt0f rfl rfl (lgc_ge (by omega)) ?_
  refine wq_gos (f := 1) (pc2 := 52) (ls2 := [(6, .long 1000000000), (4, .long (-1000000000)), (0, .ref 0), (1, .int 0), (2, .long v)]) (st2 := [.int (lg_cmp v (1000000000 : Int64))]) (h2 := h) (dc2 := 0) (ds2 := 0) 3 rfl ?_
  refine wq_le0f rfl rfl (lgc_gt (by omega)) ?_
  refine wq_gos (f := 1) (pc2 := 56) (ls2 := [(6, .long 1000000000), (4, .long (-1000000000)), (0, .ref 0), (1, .int 0), (2, .long v)]) (st2 := [.int 0]) (h2 := h) (dc2 := 0) (ds2 := 0) 1 rfl ?_
  exact wq_ret rfl rfl rfl
theorem m_aimB0 {h : zH} {fs : List Value} (hM : zat h 162 = some (.inr (.inr (.inr (10, fs))))) (hC : mC fs) {v : Int64} (h2 : 1000000000 < v.toInt) : wq 218 0 [(0, .ref 162), (1, .int 0), (2, .long v)] [] h 0 0 (fun r => ∃ h2, r = (some (.int 0), h2, 0, 0)) := by
  have el : ((-1000000000 : Int64)).toInt = -1000000000 := rfl
  have eh : ((1000000000 : Int64)).toInt = 1000000000 := rfl
  refine wq_gos (f := 1) (pc2 := 2) (ls2 := [(0, .ref 162), (1, .int 0), (2, .long v)]) (st2 := [.int 0, .ref 162]) (h2 := h) (dc2 := 0) (ds2 := 0) 2 rfl ?_
  refine wq_putf rfl hM rfl (by rw [hC.1]; rfl) rfl ?_
  intro h1x e2x f3x l4x
  obtain ⟨fs5x, hf6x⟩ : ∃ x, x = fs.set 0 (.int 0) := ⟨_, rfl⟩
  rw [← hf6x] at e2x
  have hC7x : mC fs5x := by rw [hf6x]; exact mC_set hC (by decide) _
  have p8x : fs5x[0]? = some (.int 0) := by rw [hf6x]; exact List.getElem?_set_self (by rw [hC.1]; decide)
  refine wq_gos (f := 1) (pc2 := 22) (ls2 := [(4, .long 1000000000), (0, .ref 162), (1, .int 0), (2, .long v)]) (st2 := [.int 0]) (h2 := h1x) (dc2 := 0) (ds2 := 0) 7 rfl ?_
  refine wq_inl (y2 := 208) (as := [.int 0]) rfl rfl rfl ?_
  show wq 208 0 [(0, .int 0)] [] h1x 0 0 _
  refine wq_gos (f := 1) (pc2 := 15) (ls2 := [(0, .int 0)]) (st2 := [.int 1]) (h2 := h1x) (dc2 := 0) (ds2 := 0) 7 rfl ?_
  refine wq_ret rfl rfl ?_
  show wq 218 25 [(4, .long 1000000000), (0, .ref 162), (1, .int 0), (2, .long v)] [.int 1] h1x 0 0 _
  refine wq_gos (f := 1) (pc2 := 32) (ls2 := [(4, .long 1000000000), (0, .ref 162), (1, .int 0), (2, .long v)]) (st2 := [.int (lg_cmp v (1000000000 : Int64))]) (h2 := h1x) (dc2 := 0) (ds2 := 0) 4 rfl ?_
  refine wq_gt0t rfl (lgc_gt (by omega)) ?_
  refine wq_gos (f := 1) (pc2 := 53) (ls2 := [(4, .long 1000000000), (0, .ref 162), (1, .int 0), (2, .long v)]) (st2 := [.int 0]) (h2 := h1x) (dc2 := 0) (ds2 := 0) 1 rfl ?_
  exact wq_ret rfl rfl ⟨h1x, rfl⟩
set_option maxHeartbeats 4000000 in
theorem c_aimG1 {h : zH} {ra : Nat} {rd : Nat} {ta im : Int32} {ps ip : Int64} {pp : List Int64} {pa am : List Int32} (hX : zat h 0 = some (.inr (.inr (.inr (9, [.ref 2, .int ta, .ref 4, .ref ra, .ref rd, .long ps, .ref 34, .ref 36, .int im, .long ip, .ref 42, .ref 44, .ref 60, .ref 66, .ref 72, .ref 74, .ref 150, .ref 158]))))) (hP : zat h 36 = some (.inr (.inr (.inr (2, [.int 0, .int 0, .ref 38, .ref 40]))))) (hPp : zat h 38 = some (.inr (.inl (20, pp)))) (hPa : zat h 40 = some (.inl (0, 120, pa))) (hAm : zat h 34 = some (.inl (0, 6, am))) {v : Int64} (h1 : -1000000000 ≤ v.toInt) (h2 : v.toInt ≤ 1000000000) : wq 112 0 [(0, .ref 0), (1, .int 1), (2, .long v)] [] h 0 0 (fun r => ∃ h2, r = (some (.int 1), h2, 0, 0) ∧ wFr [0, 36, 38, 40, 34] h h2) := by
  have el : ((-1000000000 : Int64)).toInt = -1000000000 := rfl
  have eh : ((1000000000 : Int64)).toInt = 1000000000 := rfl
  refine wq_gos (f := 1) (pc2 := 45) (ls2 := [(6, .long 1000000000), (4, .long (-1000000000)), (0, .ref 0), (1, .int 1), (2, .long v)]) (st2 := [.int (lg_cmp v (-1000000000 : Int64))]) (h2 := h) (dc2 := 0) (ds2 := 0) 20 rfl ?_
  refine wq_lt0f rfl rfl (lgc_ge (by omega)) ?_
  refine wq_gos (f := 1) (pc2 := 52) (ls2 := [(6, .long 1000000000), (4, .long (-1000000000)), (0, .ref 0), (1, .int 1), (2, .long v)]) (st2 := [.int (lg_cmp v (1000000000 : Int64))]) (h2 := h) (dc2 := 0) (ds2 := 0) 3 rfl ?_
  refine wq_le0t rfl (lgc_le (by omega)) ?_
  refine wq_gos (f := 1) (pc2 := 58) (ls2 := [(6, .long 1000000000), (4, .long (-1000000000)), (0, .ref 0), (1, .int 1), (2, .long v)]) (st2 := [.ref 0]) (h2 := h) (dc2 := 0) (ds2 := 0) 1 rfl ?_
  refine wq_getf rfl hX rfl rfl ?_
  refine wq_gos (f := 1) (pc2 := 62) (ls2 := [(6, .long 1000000000), (4, .long (-1000000000)), (0, .ref 0), (1, .int 1), (2, .long v)]) (st2 := [.ref 0, .ref 36]) (h2 := h) (dc2 := 0) (ds2 := 0) 1 rfl ?_
  refine wq_getf rfl hX rfl rfl ?_
  refine wq_gos (f := 1) (pc2 := 66) (ls2 := [(6, .long 1000000000), (4, .long (-1000000000)), (0, .ref 0), (1, .int 1), (2, .long v)]) (st2 := [.ref 0, .long ps, .ref 36]) (h2 := h) (dc2 := 0) (ds2 := 0) 1 rfl ?_
  refine wq_getf rfl hX rfl rfl ?_
  refine wq_inlv (y2 := 23) (as := [.long ps, .ref 34]) rfl rfl rfl hP rfl ?_
  show wq 23 0 [(0, .ref 36), (1, .long ps), (3, .ref 34)] [] h 0 0 _
  refine wq_gos (f := 1) (pc2 := 1) (ls2 := [(0, .ref 36), (1, .long ps), (3, .ref 34)]) (st2 := [.ref 36]) (h2 := h) (dc2 := 0) (ds2 := 0) 1 rfl ?_
  refine wq_getf rfl hP rfl rfl ?_
  refine wq_gos (f := 1) (pc2 := 5) (ls2 := [(0, .ref 36), (1, .long ps), (3, .ref 34)]) (st2 := [.ref 36, .ref 38]) (h2 := h) (dc2 := 0) (ds2 := 0) 1 rfl ?_
  refine wq_getf rfl hP rfl rfl ?_
  refine wq_gos (f := 1) (pc2 := 9) (ls2 := [(0, .ref 36), (1, .long ps), (3, .ref 34)]) (st2 := [.long ps, .int 0, .ref 38]) (h2 := h) (dc2 := 0) (ds2 := 0) 1 rfl ?_
  refine wq_last rfl hPp rfl rfl ?_
  intro h1x e2x f3x l4x
  have e2x : zat h1x 38 = some (.inr (.inl (20, (zset 0 pp 0 ps)))) := e2x
  refine wq_gos (f := 1) (pc2 := 13) (ls2 := [(0, .ref 36), (1, .long ps), (3, .ref 34)]) (st2 := [.ref 36, .int 0, .ref 34]) (h2 := h1x) (dc2 := 0) (ds2 := 0) 3 rfl ?_
  have e5x := (f3x.2 _ _ (wnc (by decide) wn0) hP)
  refine wq_getf rfl e5x rfl rfl ?_
  refine wq_gos (f := 1) (pc2 := 17) (ls2 := [(0, .ref 36), (1, .long ps), (3, .ref 34)]) (st2 := [.ref 36, .ref 40, .int 0, .ref 34]) (h2 := h1x) (dc2 := 0) (ds2 := 0) 1 rfl ?_
  refine wq_getf rfl e5x rfl rfl ?_
  refine wq_gos (f := 1) (pc2 := 25) (ls2 := [(0, .ref 36), (1, .long ps), (3, .ref 34)]) (st2 := [.int 6, .int 0, .ref 40, .int 0, .ref 34]) (h2 := h1x) (dc2 := 0) (ds2 := 0) 3 rfl ?_
  have e6x := (f3x.2 _ _ (wnc (by decide) wn0) hPa)
  have e7x := (f3x.2 _ _ (wnc (by decide) wn0) hAm)
  refine wq_cpi rfl e7x e6x (by decide) (by decide) (by decide) (by decide) (by decide) rfl ?_
  intro h8x e9x f10x l11x
  have e9x : zat h8x 40 = some (.inl (0, 120, (zcpy 0 am pa 0 0 6))) := e9x
  refine wq_gos (f := 1) (pc2 := 30) (ls2 := [(0, .ref 36), (1, .long ps), (3, .ref 34)]) (st2 := [.ref 36, .ref 36]) (h2 := h8x) (dc2 := 0) (ds2 := 0) 2 rfl ?_
  have e12x := (f10x.2 _ _ (wnc (by decide) wn0) e5x)
  refine wq_getf rfl e12x rfl rfl ?_
  refine wq_gos (f := 1) (pc2 := 45) (ls2 := [(0, .ref 36), (1, .long ps), (3, .ref 34)]) (st2 := [.ref 36, .ref 36]) (h2 := h8x) (dc2 := 0) (ds2 := 0) 5 rfl ?_
  refine wq_getf rfl e12x rfl rfl ?_
  refine wq_gos (f := 1) (pc2 := 50) (ls2 := [(0, .ref 36), (1, .long ps), (3, .ref 34)]) (st2 := [.int 1, .ref 36]) (h2 := h8x) (dc2 := 0) (ds2 := 0) 2 rfl ?_
  refine wq_putf rfl e12x rfl rfl rfl ?_
  intro h13x e14x f15x l16x
  have e14x : zat h13x 36 = some (.inr (.inr (.inr (2, [.int 0, .int 1, .ref 38, .ref 40])))) := e14x
  refine wq_gos (f := 1) (pc2 := 55) (ls2 := [(0, .ref 36), (1, .long ps), (3, .ref 34)]) (st2 := [.ref 36, .ref 36]) (h2 := h13x) (dc2 := 0) (ds2 := 0) 2 rfl ?_
  refine wq_getf rfl e14x rfl rfl ?_
  refine wq_gos (f := 1) (pc2 := 62) (ls2 := [(0, .ref 36), (1, .long ps), (3, .ref 34)]) (st2 := [.int 20, .int 1, .ref 36]) (h2 := h13x) (dc2 := 0) (ds2 := 0) 3 rfl ?_
  refine wq_inl (y2 := 285) (as := [.int 1, .int 20]) rfl rfl rfl (wq_T (c_min (1 : Int32) (20 : Int32) h13x) ?_)
  show wq 23 65 [(0, .ref 36), (1, .long ps), (3, .ref 34)] [.int (jmin (1 : Int32) (20 : Int32)), .ref 36] h13x 0 0 _
  refine wq_putf rfl e14x rfl rfl rfl ?_
  intro h17x e18x f19x l20x
  have e18x : zat h17x 36 = some (.inr (.inr (.inr (2, [.int (jmin (1 : Int32) (20 : Int32)), .int 1, .ref 38, .ref 40])))) := e18x
  refine wq_ret rfl rfl ?_
  show wq 112 72 [(6, .long 1000000000), (4, .long (-1000000000)), (0, .ref 0), (1, .int 1), (2, .long v)] [] h17x 0 0 _
  refine wq_gos (f := 1) (pc2 := 73) (ls2 := [(6, .long 1000000000), (4, .long (-1000000000)), (0, .ref 0), (1, .int 1), (2, .long v)]) (st2 := [.ref 0]) (h2 := h17x) (dc2 := 0) (ds2 := 0) 1 rfl ?_
  have e21x := (f19x.2 _ _ (wnc (by decide) wn0) (f15x.2 _ _ (wnc (by decide) wn0) (f10x.2 _ _ (wnc (by decide) wn0) (f3x.2 _ _ (wnc (by decide) wn0) hX))))
  refine wq_getf rfl e21x rfl rfl ?_
  refine wq_gos (f := 1) (pc2 := 79) (ls2 := [(6, .long 1000000000), (4, .long (-1000000000)), (0, .ref 0), (1, .int 1), (2, .long v)]) (st2 := [.int (v).toInt32, .int 1, .ref 34]) (h2 := h17x) (dc2 := 0) (ds2 := 0) 3 rfl ?_
  have e22x := (f19x.2 _ _ (wnc (by decide) wn0) (f15x.2 _ _ (wnc (by decide) wn0) (f10x.2 _ _ (wnc (by decide) wn0) e7x)))
  refine wq_iast rfl e22x rfl rfl ?_
  intro h23x e24x f25x l26x
  have e24x : zat h23x 34 = some (.inl (0, 6, (zset 0 am 1 (v).toInt32))) := e24x
  refine wq_gos (f := 1) (pc2 := 81) (ls2 := [(6, .long 1000000000), (4, .long (-1000000000)), (0, .ref 0), (1, .int 1), (2, .long v)]) (st2 := [.int 1]) (h2 := h23x) (dc2 := 0) (ds2 := 0) 1 rfl ?_
  exact wq_ret rfl rfl ⟨h23x, rfl, (wFr_tr (wFr_sub f3x (by simp)) (wFr_tr (wFr_sub f10x (by simp)) (wFr_tr (wFr_sub f15x (by simp)) (wFr_tr (wFr_sub f19x (by simp)) (wFr_sub f25x (by simp))))))⟩
set_option maxHeartbeats 4000000 in
theorem m_aimG1 {h : zH} {fs : List Value} {kn lo hi : List Int32} {nw ai ke hr : List Int32} (hM : zat h 162 = some (.inr (.inr (.inr (10, fs))))) (hC : mC fs) (hK : zat h 166 = some (.inl (0, 14, kn))) (hO : zat h 168 = some (.inl (0, 12, lo))) (hG : zat h 170 = some (.inl (0, 12, hi))) (h27 : fs[27]? = some (.int 0)) (hNw : zat h 188 = some (.inl (0, 6, nw))) (hAi : zat h 190 = some (.inl (0, 6, ai))) (hKe : zat h 192 = some (.inl (0, 252, ke))) (hHr : zat h 212 = some (.inl (2, 2, hr))) {v : Int64} (h1 : -1000000000 ≤ v.toInt) (h2 : v.toInt ≤ 1000000000) : wq 218 0 [(0, .ref 162), (1, .int 1), (2, .long v)] [] h 0 0 (fun r => ∃ h2, r = (some (.int 1), h2, 0, 0)) := by
  have el : ((-1000000000 : Int64)).toInt = -1000000000 := rfl
  have eh : ((1000000000 : Int64)).toInt = 1000000000 := rfl
  refine wq_gos (f := 1) (pc2 := 2) (ls2 := [(0, .ref 162), (1, .int 1), (2, .long v)]) (st2 := [.int 0, .ref 162]) (h2 := h) (dc2 := 0) (ds2 := 0) 2 rfl ?_
  refine wq_putf rfl hM rfl (by rw [hC.1]; rfl) rfl ?_
  intro h1x e2x f3x l4x
  obtain ⟨fs5x, hf6x⟩ : ∃ x, x = fs.set 0 (.int 0) := ⟨_, rfl⟩
  rw [← hf6x] at e2x
  have hC7x : mC fs5x := by rw [hf6x]; exact mC_set hC (by decide) _
  have p8x : fs5x[27]? = some (.int 0) := by rw [hf6x, List.getElem?_set_ne (by decide)]; exact h27
  have p9x : fs5x[0]? = some (.int 0) := by rw [hf6x]; exact List.getElem?_set_self (by rw [hC.1]; decide)
  refine wq_gos (f := 1) (pc2 := 22) (ls2 := [(4, .long 1000000000), (0, .ref 162), (1, .int 1), (2, .long v)]) (st2 := [.int 1]) (h2 := h1x) (dc2 := 0) (ds2 := 0) 7 rfl ?_
  refine wq_inl (y2 := 208) (as := [.int 1]) rfl rfl rfl ?_
  show wq 208 0 [(0, .int 1)] [] h1x 0 0 _
  refine wq_gos (f := 1) (pc2 := 15) (ls2 := [(0, .int 1)]) (st2 := [.int 1]) (h2 := h1x) (dc2 := 0) (ds2 := 0) 7 rfl ?_
  refine wq_ret rfl rfl ?_
  show wq 218 25 [(4, .long 1000000000), (0, .ref 162), (1, .int 1), (2, .long v)] [.int 1] h1x 0 0 _
  refine wq_gos (f := 1) (pc2 := 32) (ls2 := [(4, .long 1000000000), (0, .ref 162), (1, .int 1), (2, .long v)]) (st2 := [.int (lg_cmp v (1000000000 : Int64))]) (h2 := h1x) (dc2 := 0) (ds2 := 0) 4 rfl ?_
  refine wq_gt0f rfl rfl (lgc_le (by omega)) ?_
  refine wq_gos (f := 1) (pc2 := 49) (ls2 := [(4, .long 1000000000), (0, .ref 162), (1, .int 1), (2, .long v)]) (st2 := [.int (lg_cmp v (-1000000000 : Int64))]) (h2 := h1x) (dc2 := 0) (ds2 := 0) 8 rfl ?_
  refine wq_ge0t rfl (lgc_ge (by omega)) ?_
  refine wq_gos (f := 1) (pc2 := 55) (ls2 := [(4, .long 1000000000), (0, .ref 162), (1, .int 1), (2, .long v)]) (st2 := [.ref 162]) (h2 := h1x) (dc2 := 0) (ds2 := 0) 1 rfl ?_
  refine wq_inlv (y2 := 191) (as := []) rfl rfl rfl e2x rfl ?_
  show wq 191 0 [(0, .ref 162)] [] h1x 0 0 _
  refine wq_gos (f := 1) (pc2 := 1) (ls2 := [(0, .ref 162)]) (st2 := [.ref 162]) (h2 := h1x) (dc2 := 0) (ds2 := 0) 1 rfl ?_
  refine wq_getf rfl e2x p8x rfl ?_
  refine wq_gos (f := 1) (pc2 := 51) (ls2 := [(0, .ref 162)]) (st2 := [.ref 162, .ref 162]) (h2 := h1x) (dc2 := 0) (ds2 := 0) 4 rfl ?_
  refine wq_getf rfl e2x p8x rfl ?_
  refine wq_inlv (y2 := 189) (as := [.int 0]) rfl rfl rfl e2x rfl ?_
  show wq 189 0 [(0, .ref 162), (1, .int 0)] [] h1x 0 0 _
  refine wq_gos (f := 1) (pc2 := 9) (ls2 := [(2, .int 0), (0, .ref 162), (1, .int 0)]) (st2 := [.ref 162]) (h2 := h1x) (dc2 := 0) (ds2 := 0) 6 rfl ?_
  refine wq_getf rfl e2x (hC7x.2 (26, 192) (by decide)) rfl ?_
  refine wq_gos (f := 1) (pc2 := 19) (ls2 := [(2, .int 0), (0, .ref 162), (1, .int 0)]) (st2 := [.ref 162, .int 0, .ref 192]) (h2 := h1x) (dc2 := 0) (ds2 := 0) 6 rfl ?_
  refine wq_getf rfl e2x (hC7x.2 (24, 188) (by decide)) rfl ?_
  refine wq_gos (f := 1) (pc2 := 23) (ls2 := [(2, .int 0), (0, .ref 162), (1, .int 0)]) (st2 := [.int 0, .ref 188, .int 0, .ref 192]) (h2 := h1x) (dc2 := 0) (ds2 := 0) 1 rfl ?_
  have e10x := (f3x.2 _ _ (wnc (by decide) wn0) hNw)
  refine wq_ialdk (k := 0) rfl e10x rfl rfl rfl ?_
  have e11x := (f3x.2 _ _ (wnc (by decide) wn0) hKe)
  refine wq_iast rfl e11x rfl rfl ?_
  intro h12x e13x f14x l15x
  have e13x : zat h12x 192 = some (.inl (0, 252, (zset 0 ke 0 (nw.getD 0 0)))) := e13x
  refine wq_gos (f := 1) (pc2 := 26) (ls2 := [(2, .int 0), (0, .ref 162), (1, .int 0)]) (st2 := [.ref 162]) (h2 := h12x) (dc2 := 0) (ds2 := 0) 1 rfl ?_
  have e16x := (f14x.2 _ _ (wnc (by decide) wn0) e2x)
  refine wq_getf rfl e16x (hC7x.2 (26, 192) (by decide)) rfl ?_
  refine wq_gos (f := 1) (pc2 := 39) (ls2 := [(2, .int 0), (0, .ref 162), (1, .int 0)]) (st2 := [.ref 162, .int 6, .ref 192]) (h2 := h12x) (dc2 := 0) (ds2 := 0) 8 rfl ?_
  refine wq_getf rfl e16x (hC7x.2 (25, 190) (by decide)) rfl ?_
  refine wq_gos (f := 1) (pc2 := 43) (ls2 := [(2, .int 0), (0, .ref 162), (1, .int 0)]) (st2 := [.int 0, .ref 190, .int 6, .ref 192]) (h2 := h12x) (dc2 := 0) (ds2 := 0) 1 rfl ?_
  have e17x := (f14x.2 _ _ (wnc (by decide) wn0) (f3x.2 _ _ (wnc (by decide) wn0) hAi))
  refine wq_ialdk (k := 0) rfl e17x rfl rfl rfl ?_
  refine wq_iast rfl e13x rfl rfl ?_
  intro h18x e19x f20x l21x
  have e19x : zat h18x 192 = some (.inl (0, 252, (zset 0 (zset 0 ke 0 (nw.getD 0 0)) 6 (ai.getD 0 0)))) := e19x
  refine wq_gos (f := 1) (pc2 := 9) (ls2 := [(2, .int 1), (0, .ref 162), (1, .int 0)]) (st2 := [.ref 162]) (h2 := h18x) (dc2 := 0) (ds2 := 0) 6 rfl ?_
  have e22x := (f20x.2 _ _ (wnc (by decide) wn0) e16x)
  refine wq_getf rfl e22x (hC7x.2 (26, 192) (by decide)) rfl ?_
  refine wq_gos (f := 1) (pc2 := 19) (ls2 := [(2, .int 1), (0, .ref 162), (1, .int 0)]) (st2 := [.ref 162, .int 1, .ref 192]) (h2 := h18x) (dc2 := 0) (ds2 := 0) 6 rfl ?_
  refine wq_getf rfl e22x (hC7x.2 (24, 188) (by decide)) rfl ?_
  refine wq_gos (f := 1) (pc2 := 23) (ls2 := [(2, .int 1), (0, .ref 162), (1, .int 0)]) (st2 := [.int 1, .ref 188, .int 1, .ref 192]) (h2 := h18x) (dc2 := 0) (ds2 := 0) 1 rfl ?_
  have e23x := (f20x.2 _ _ (wnc (by decide) wn0) (f14x.2 _ _ (wnc (by decide) wn0) e10x))
  refine wq_ialdk (k := 1) rfl e23x rfl rfl rfl ?_
  refine wq_iast rfl e19x rfl rfl ?_
  intro h24x e25x f26x l27x
  have e25x : zat h24x 192 = some (.inl (0, 252, (zset 0 (zset 0 (zset 0 ke 0 (nw.getD 0 0)) 6 (ai.getD 0 0)) 1 (nw.getD 1 0)))) := e25x
  refine wq_gos (f := 1) (pc2 := 26) (ls2 := [(2, .int 1), (0, .ref 162), (1, .int 0)]) (st2 := [.ref 162]) (h2 := h24x) (dc2 := 0) (ds2 := 0) 1 rfl ?_
  have e28x := (f26x.2 _ _ (wnc (by decide) wn0) e22x)
  refine wq_getf rfl e28x (hC7x.2 (26, 192) (by decide)) rfl ?_
  refine wq_gos (f := 1) (pc2 := 39) (ls2 := [(2, .int 1), (0, .ref 162), (1, .int 0)]) (st2 := [.ref 162, .int 7, .ref 192]) (h2 := h24x) (dc2 := 0) (ds2 := 0) 8 rfl ?_
  refine wq_getf rfl e28x (hC7x.2 (25, 190) (by decide)) rfl ?_
  refine wq_gos (f := 1) (pc2 := 43) (ls2 := [(2, .int 1), (0, .ref 162), (1, .int 0)]) (st2 := [.int 1, .ref 190, .int 7, .ref 192]) (h2 := h24x) (dc2 := 0) (ds2 := 0) 1 rfl ?_
  have e29x := (f26x.2 _ _ (wnc (by decide) wn0) (f20x.2 _ _ (wnc (by decide) wn0) e17x))
  refine wq_ialdk (k := 1) rfl e29x rfl rfl rfl ?_
  refine wq_iast rfl e25x rfl rfl ?_
  intro h30x e31x f32x l33x
  have e31x : zat h30x 192 = some (.inl (0, 252, (zset 0 (zset 0 (zset 0 (zset 0 ke 0 (nw.getD 0 0)) 6 (ai.getD 0 0)) 1 (nw.getD 1 0)) 7 (ai.getD 1 0)))) := e31x
  refine wq_gos (f := 1) (pc2 := 9) (ls2 := [(2, .int 2), (0, .ref 162), (1, .int 0)]) (st2 := [.ref 162]) (h2 := h30x) (dc2 := 0) (ds2 := 0) 6 rfl ?_
  have e34x := (f32x.2 _ _ (wnc (by decide) wn0) e28x)
  refine wq_getf rfl e34x (hC7x.2 (26, 192) (by decide)) rfl ?_
  refine wq_gos (f := 1) (pc2 := 19) (ls2 := [(2, .int 2), (0, .ref 162), (1, .int 0)]) (st2 := [.ref 162, .int 2, .ref 192]) (h2 := h30x) (dc2 := 0) (ds2 := 0) 6 rfl ?_
  refine wq_getf rfl e34x (hC7x.2 (24, 188) (by decide)) rfl ?_
  refine wq_gos (f := 1) (pc2 := 23) (ls2 := [(2, .int 2), (0, .ref 162), (1, .int 0)]) (st2 := [.int 2, .ref 188, .int 2, .ref 192]) (h2 := h30x) (dc2 := 0) (ds2 := 0) 1 rfl ?_
  have e35x := (f32x.2 _ _ (wnc (by decide) wn0) (f26x.2 _ _ (wnc (by decide) wn0) e23x))
  refine wq_ialdk (k := 2) rfl e35x rfl rfl rfl ?_
  refine wq_iast rfl e31x rfl rfl ?_
  intro h36x e37x f38x l39x
  have e37x : zat h36x 192 = some (.inl (0, 252, (zset 0 (zset 0 (zset 0 (zset 0 (zset 0 ke 0 (nw.getD 0 0)) 6 (ai.getD 0 0)) 1 (nw.getD 1 0)) 7 (ai.getD 1 0)) 2 (nw.getD 2 0)))) := e37x
  refine wq_gos (f := 1) (pc2 := 26) (ls2 := [(2, .int 2), (0, .ref 162), (1, .int 0)]) (st2 := [.ref 162]) (h2 := h36x) (dc2 := 0) (ds2 := 0) 1 rfl ?_
  have e40x := (f38x.2 _ _ (wnc (by decide) wn0) e34x)
  refine wq_getf rfl e40x (hC7x.2 (26, 192) (by decide)) rfl ?_
  refine wq_gos (f := 1) (pc2 := 39) (ls2 := [(2, .int 2), (0, .ref 162), (1, .int 0)]) (st2 := [.ref 162, .int 8, .ref 192]) (h2 := h36x) (dc2 := 0) (ds2 := 0) 8 rfl ?_
  refine wq_getf rfl e40x (hC7x.2 (25, 190) (by decide)) rfl ?_
  refine wq_gos (f := 1) (pc2 := 43) (ls2 := [(2, .int 2), (0, .ref 162), (1, .int 0)]) (st2 := [.int 2, .ref 190, .int 8, .ref 192]) (h2 := h36x) (dc2 := 0) (ds2 := 0) 1 rfl ?_
  have e41x := (f38x.2 _ _ (wnc (by decide) wn0) (f32x.2 _ _ (wnc (by decide) wn0) e29x))
  refine wq_ialdk (k := 2) rfl e41x rfl rfl rfl ?_
  refine wq_iast rfl e37x rfl rfl ?_
  intro h42x e43x f44x l45x
  have e43x : zat h42x 192 = some (.inl (0, 252, (zset 0 (zset 0 (zset 0 (zset 0 (zset 0 (zset 0 ke 0 (nw.getD 0 0)) 6 (ai.getD 0 0)) 1 (nw.getD 1 0)) 7 (ai.getD 1 0)) 2 (nw.getD 2 0)) 8 (ai.getD 2 0)))) := e43x
  refine wq_gos (f := 1) (pc2 := 9) (ls2 := [(2, .int 3), (0, .ref 162), (1, .int 0)]) (st2 := [.ref 162]) (h2 := h42x) (dc2 := 0) (ds2 := 0) 6 rfl ?_
  have e46x := (f44x.2 _ _ (wnc (by decide) wn0) e40x)
  refine wq_getf rfl e46x (hC7x.2 (26, 192) (by decide)) rfl ?_
  refine wq_gos (f := 1) (pc2 := 19) (ls2 := [(2, .int 3), (0, .ref 162), (1, .int 0)]) (st2 := [.ref 162, .int 3, .ref 192]) (h2 := h42x) (dc2 := 0) (ds2 := 0) 6 rfl ?_
  refine wq_getf rfl e46x (hC7x.2 (24, 188) (by decide)) rfl ?_
  refine wq_gos (f := 1) (pc2 := 23) (ls2 := [(2, .int 3), (0, .ref 162), (1, .int 0)]) (st2 := [.int 3, .ref 188, .int 3, .ref 192]) (h2 := h42x) (dc2 := 0) (ds2 := 0) 1 rfl ?_
  have e47x := (f44x.2 _ _ (wnc (by decide) wn0) (f38x.2 _ _ (wnc (by decide) wn0) e35x))
  refine wq_ialdk (k := 3) rfl e47x rfl rfl rfl ?_
  refine wq_iast rfl e43x rfl rfl ?_
  intro h48x e49x f50x l51x
  have e49x : zat h48x 192 = some (.inl (0, 252, (zset 0 (zset 0 (zset 0 (zset 0 (zset 0 (zset 0 (zset 0 ke 0 (nw.getD 0 0)) 6 (ai.getD 0 0)) 1 (nw.getD 1 0)) 7 (ai.getD 1 0)) 2 (nw.getD 2 0)) 8 (ai.getD 2 0)) 3 (nw.getD 3 0)))) := e49x
  refine wq_gos (f := 1) (pc2 := 26) (ls2 := [(2, .int 3), (0, .ref 162), (1, .int 0)]) (st2 := [.ref 162]) (h2 := h48x) (dc2 := 0) (ds2 := 0) 1 rfl ?_
  have e52x := (f50x.2 _ _ (wnc (by decide) wn0) e46x)
  refine wq_getf rfl e52x (hC7x.2 (26, 192) (by decide)) rfl ?_
  refine wq_gos (f := 1) (pc2 := 39) (ls2 := [(2, .int 3), (0, .ref 162), (1, .int 0)]) (st2 := [.ref 162, .int 9, .ref 192]) (h2 := h48x) (dc2 := 0) (ds2 := 0) 8 rfl ?_
  refine wq_getf rfl e52x (hC7x.2 (25, 190) (by decide)) rfl ?_
  refine wq_gos (f := 1) (pc2 := 43) (ls2 := [(2, .int 3), (0, .ref 162), (1, .int 0)]) (st2 := [.int 3, .ref 190, .int 9, .ref 192]) (h2 := h48x) (dc2 := 0) (ds2 := 0) 1 rfl ?_
  have e53x := (f50x.2 _ _ (wnc (by decide) wn0) (f44x.2 _ _ (wnc (by decide) wn0) e41x))
  refine wq_ialdk (k := 3) rfl e53x rfl rfl rfl ?_
  refine wq_iast rfl e49x rfl rfl ?_
  intro h54x e55x f56x l57x
  have e55x : zat h54x 192 = some (.inl (0, 252, (zset 0 (zset 0 (zset 0 (zset 0 (zset 0 (zset 0 (zset 0 (zset 0 ke 0 (nw.getD 0 0)) 6 (ai.getD 0 0)) 1 (nw.getD 1 0)) 7 (ai.getD 1 0)) 2 (nw.getD 2 0)) 8 (ai.getD 2 0)) 3 (nw.getD 3 0)) 9 (ai.getD 3 0)))) := e55x
  refine wq_gos (f := 1) (pc2 := 9) (ls2 := [(2, .int 4), (0, .ref 162), (1, .int 0)]) (st2 := [.ref 162]) (h2 := h54x) (dc2 := 0) (ds2 := 0) 6 rfl ?_
  have e58x := (f56x.2 _ _ (wnc (by decide) wn0) e52x)
  refine wq_getf rfl e58x (hC7x.2 (26, 192) (by decide)) rfl ?_
  refine wq_gos (f := 1) (pc2 := 19) (ls2 := [(2, .int 4), (0, .ref 162), (1, .int 0)]) (st2 := [.ref 162, .int 4, .ref 192]) (h2 := h54x) (dc2 := 0) (ds2 := 0) 6 rfl ?_
  refine wq_getf rfl e58x (hC7x.2 (24, 188) (by decide)) rfl ?_
  refine wq_gos (f := 1) (pc2 := 23) (ls2 := [(2, .int 4), (0, .ref 162), (1, .int 0)]) (st2 := [.int 4, .ref 188, .int 4, .ref 192]) (h2 := h54x) (dc2 := 0) (ds2 := 0) 1 rfl ?_
  have e59x := (f56x.2 _ _ (wnc (by decide) wn0) (f50x.2 _ _ (wnc (by decide) wn0) e47x))
  refine wq_ialdk (k := 4) rfl e59x rfl rfl rfl ?_
  refine wq_iast rfl e55x rfl rfl ?_
  intro h60x e61x f62x l63x
  have e61x : zat h60x 192 = some (.inl (0, 252, (zset 0 (zset 0 (zset 0 (zset 0 (zset 0 (zset 0 (zset 0 (zset 0 (zset 0 ke 0 (nw.getD 0 0)) 6 (ai.getD 0 0)) 1 (nw.getD 1 0)) 7 (ai.getD 1 0)) 2 (nw.getD 2 0)) 8 (ai.getD 2 0)) 3 (nw.getD 3 0)) 9 (ai.getD 3 0)) 4 (nw.getD 4 0)))) := e61x
  refine wq_gos (f := 1) (pc2 := 26) (ls2 := [(2, .int 4), (0, .ref 162), (1, .int 0)]) (st2 := [.ref 162]) (h2 := h60x) (dc2 := 0) (ds2 := 0) 1 rfl ?_
  have e64x := (f62x.2 _ _ (wnc (by decide) wn0) e58x)
  refine wq_getf rfl e64x (hC7x.2 (26, 192) (by decide)) rfl ?_
  refine wq_gos (f := 1) (pc2 := 39) (ls2 := [(2, .int 4), (0, .ref 162), (1, .int 0)]) (st2 := [.ref 162, .int 10, .ref 192]) (h2 := h60x) (dc2 := 0) (ds2 := 0) 8 rfl ?_
  refine wq_getf rfl e64x (hC7x.2 (25, 190) (by decide)) rfl ?_
  refine wq_gos (f := 1) (pc2 := 43) (ls2 := [(2, .int 4), (0, .ref 162), (1, .int 0)]) (st2 := [.int 4, .ref 190, .int 10, .ref 192]) (h2 := h60x) (dc2 := 0) (ds2 := 0) 1 rfl ?_
  have e65x := (f62x.2 _ _ (wnc (by decide) wn0) (f56x.2 _ _ (wnc (by decide) wn0) e53x))
  refine wq_ialdk (k := 4) rfl e65x rfl rfl rfl ?_
  refine wq_iast rfl e61x rfl rfl ?_
  intro h66x e67x f68x l69x
  have e67x : zat h66x 192 = some (.inl (0, 252, (zset 0 (zset 0 (zset 0 (zset 0 (zset 0 (zset 0 (zset 0 (zset 0 (zset 0 (zset 0 ke 0 (nw.getD 0 0)) 6 (ai.getD 0 0)) 1 (nw.getD 1 0)) 7 (ai.getD 1 0)) 2 (nw.getD 2 0)) 8 (ai.getD 2 0)) 3 (nw.getD 3 0)) 9 (ai.getD 3 0)) 4 (nw.getD 4 0)) 10 (ai.getD 4 0)))) := e67x
  refine wq_gos (f := 1) (pc2 := 9) (ls2 := [(2, .int 5), (0, .ref 162), (1, .int 0)]) (st2 := [.ref 162]) (h2 := h66x) (dc2 := 0) (ds2 := 0) 6 rfl ?_
  have e70x := (f68x.2 _ _ (wnc (by decide) wn0) e64x)
  refine wq_getf rfl e70x (hC7x.2 (26, 192) (by decide)) rfl ?_
  refine wq_gos (f := 1) (pc2 := 19) (ls2 := [(2, .int 5), (0, .ref 162), (1, .int 0)]) (st2 := [.ref 162, .int 5, .ref 192]) (h2 := h66x) (dc2 := 0) (ds2 := 0) 6 rfl ?_
  refine wq_getf rfl e70x (hC7x.2 (24, 188) (by decide)) rfl ?_
  refine wq_gos (f := 1) (pc2 := 23) (ls2 := [(2, .int 5), (0, .ref 162), (1, .int 0)]) (st2 := [.int 5, .ref 188, .int 5, .ref 192]) (h2 := h66x) (dc2 := 0) (ds2 := 0) 1 rfl ?_
  have e71x := (f68x.2 _ _ (wnc (by decide) wn0) (f62x.2 _ _ (wnc (by decide) wn0) e59x))
  refine wq_ialdk (k := 5) rfl e71x rfl rfl rfl ?_
  refine wq_iast rfl e67x rfl rfl ?_
  intro h72x e73x f74x l75x
  have e73x : zat h72x 192 = some (.inl (0, 252, (zset 0 (zset 0 (zset 0 (zset 0 (zset 0 (zset 0 (zset 0 (zset 0 (zset 0 (zset 0 (zset 0 ke 0 (nw.getD 0 0)) 6 (ai.getD 0 0)) 1 (nw.getD 1 0)) 7 (ai.getD 1 0)) 2 (nw.getD 2 0)) 8 (ai.getD 2 0)) 3 (nw.getD 3 0)) 9 (ai.getD 3 0)) 4 (nw.getD 4 0)) 10 (ai.getD 4 0)) 5 (nw.getD 5 0)))) := e73x
  refine wq_gos (f := 1) (pc2 := 26) (ls2 := [(2, .int 5), (0, .ref 162), (1, .int 0)]) (st2 := [.ref 162]) (h2 := h72x) (dc2 := 0) (ds2 := 0) 1 rfl ?_
  have e76x := (f74x.2 _ _ (wnc (by decide) wn0) e70x)
  refine wq_getf rfl e76x (hC7x.2 (26, 192) (by decide)) rfl ?_
  refine wq_gos (f := 1) (pc2 := 39) (ls2 := [(2, .int 5), (0, .ref 162), (1, .int 0)]) (st2 := [.ref 162, .int 11, .ref 192]) (h2 := h72x) (dc2 := 0) (ds2 := 0) 8 rfl ?_
  refine wq_getf rfl e76x (hC7x.2 (25, 190) (by decide)) rfl ?_
  refine wq_gos (f := 1) (pc2 := 43) (ls2 := [(2, .int 5), (0, .ref 162), (1, .int 0)]) (st2 := [.int 5, .ref 190, .int 11, .ref 192]) (h2 := h72x) (dc2 := 0) (ds2 := 0) 1 rfl ?_
  have e77x := (f74x.2 _ _ (wnc (by decide) wn0) (f68x.2 _ _ (wnc (by decide) wn0) e65x))
  refine wq_ialdk (k := 5) rfl e77x rfl rfl rfl ?_
  refine wq_iast rfl e73x rfl rfl ?_
  intro h78x e79x f80x l81x
  have e79x : zat h78x 192 = some (.inl (0, 252, (zset 0 (zset 0 (zset 0 (zset 0 (zset 0 (zset 0 (zset 0 (zset 0 (zset 0 (zset 0 (zset 0 (zset 0 ke 0 (nw.getD 0 0)) 6 (ai.getD 0 0)) 1 (nw.getD 1 0)) 7 (ai.getD 1 0)) 2 (nw.getD 2 0)) 8 (ai.getD 2 0)) 3 (nw.getD 3 0)) 9 (ai.getD 3 0)) 4 (nw.getD 4 0)) 10 (ai.getD 4 0)) 5 (nw.getD 5 0)) 11 (ai.getD 5 0)))) := e79x
  refine wq_gos (f := 1) (pc2 := 51) (ls2 := [(2, .int 6), (0, .ref 162), (1, .int 0)]) (st2 := []) (h2 := h78x) (dc2 := 0) (ds2 := 0) 5 rfl ?_
  refine wq_ret rfl rfl ?_
  show wq 191 57 [(0, .ref 162)] [] h78x 0 0 _
  refine wq_gos (f := 1) (pc2 := 59) (ls2 := [(0, .ref 162)]) (st2 := [.ref 162, .ref 162]) (h2 := h78x) (dc2 := 0) (ds2 := 0) 2 rfl ?_
  have e82x := (f80x.2 _ _ (wnc (by decide) wn0) e76x)
  refine wq_getf rfl e82x p8x rfl ?_
  refine wq_gos (f := 1) (pc2 := 64) (ls2 := [(0, .ref 162)]) (st2 := [.int 1, .ref 162]) (h2 := h78x) (dc2 := 0) (ds2 := 0) 2 rfl ?_
  refine wq_putf rfl e82x rfl (by rw [hC7x.1]; rfl) rfl ?_
  intro h83x e84x f85x l86x
  obtain ⟨fs87x, hf88x⟩ : ∃ x, x = fs5x.set 27 (.int 1) := ⟨_, rfl⟩
  rw [← hf88x] at e84x
  have hC89x : mC fs87x := by rw [hf88x]; exact mC_set hC7x (by decide) _
  have p90x : fs87x[0]? = some (.int 0) := by rw [hf88x, List.getElem?_set_ne (by decide)]; exact p9x
  have p91x : fs87x[27]? = some (.int 1) := by rw [hf88x]; exact List.getElem?_set_self (by rw [hC7x.1]; decide)
  refine wq_ret rfl rfl ?_
  show wq 218 58 [(4, .long 1000000000), (0, .ref 162), (1, .int 1), (2, .long v)] [] h83x 0 0 _
  refine wq_gos (f := 1) (pc2 := 59) (ls2 := [(4, .long 1000000000), (0, .ref 162), (1, .int 1), (2, .long v)]) (st2 := [.ref 162]) (h2 := h83x) (dc2 := 0) (ds2 := 0) 1 rfl ?_
  refine wq_getf rfl e84x (hC89x.2 (25, 190) (by decide)) rfl ?_
  refine wq_gos (f := 1) (pc2 := 65) (ls2 := [(4, .long 1000000000), (0, .ref 162), (1, .int 1), (2, .long v)]) (st2 := [.int (v).toInt32, .int 1, .ref 190]) (h2 := h83x) (dc2 := 0) (ds2 := 0) 3 rfl ?_
  have e92x := (f85x.2 _ _ (wnc (by decide) wn0) (f80x.2 _ _ (wnc (by decide) wn0) e77x))
  refine wq_iast rfl e92x rfl rfl ?_
  intro h93x e94x f95x l96x
  have e94x : zat h93x 190 = some (.inl (0, 6, (zset 0 ai 1 (v).toInt32))) := e94x
  refine wq_gos (f := 1) (pc2 := 68) (ls2 := [(4, .long 1000000000), (0, .ref 162), (1, .int 1), (2, .long v)]) (st2 := [.int 0, .ref 162]) (h2 := h93x) (dc2 := 0) (ds2 := 0) 2 rfl ?_
  have e97x := (f95x.2 _ _ (wnc (by decide) wn0) e84x)
  refine wq_putf rfl e97x rfl (by rw [hC89x.1]; rfl) rfl ?_
  intro h98x e99x f100x l101x
  obtain ⟨fs102x, hf103x⟩ : ∃ x, x = fs87x.set 33 (.int 0) := ⟨_, rfl⟩
  rw [← hf103x] at e99x
  have hC104x : mC fs102x := by rw [hf103x]; exact mC_set hC89x (by decide) _
  have p105x : fs102x[0]? = some (.int 0) := by rw [hf103x, List.getElem?_set_ne (by decide)]; exact p90x
  have p106x : fs102x[27]? = some (.int 1) := by rw [hf103x, List.getElem?_set_ne (by decide)]; exact p91x
  have p107x : fs102x[33]? = some (.int 0) := by rw [hf103x]; exact List.getElem?_set_self (by rw [hC89x.1]; decide)
  refine wq_gos (f := 1) (pc2 := 72) (ls2 := [(4, .long 1000000000), (0, .ref 162), (1, .int 1), (2, .long v)]) (st2 := [.int 1]) (h2 := h98x) (dc2 := 0) (ds2 := 0) 1 rfl ?_
  exact wq_ret rfl rfl ⟨h98x, rfl⟩
theorem c_aimA1 {h : zH} {v : Int64} (h1 : v.toInt < -1000000000) : zT zg0 zF zP 112 0 [(0, .ref 0), (1, .int 1), (2, .long v)] [] h 0 0 (some (.int 0), h, 0, 0) := by
  have el : ((-1000000000 : Int64)).toInt = -1000000000 := rfl
  have eh : ((1000000000 : Int64)).toInt = 1000000000 := rfl
  apply wq_toT
  refine wq_gos (f := 1) (pc2 := 45) (ls2 := [(6, .long 1000000000), (4, .long (-1000000000)), (0, .ref 0), (1, .int 1), (2, .long v)]) (st2 := [.int (lg_cmp v (-1000000000 : Int64))]) (h2 := h) (dc2 := 0) (ds2 := 0) 20 rfl ?_
  refine wq_lt0t rfl (lgc_lt (by omega)) ?_
  refine wq_gos (f := 1) (pc2 := 56) (ls2 := [(6, .long 1000000000), (4, .long (-1000000000)), (0, .ref 0), (1, .int 1), (2, .long v)]) (st2 := [.int 0]) (h2 := h) (dc2 := 0) (ds2 := 0) 1 rfl ?_
  exact wq_ret rfl rfl rfl
theorem m_aimA1 {h : zH} {fs : List Value} (hM : zat h 162 = some (.inr (.inr (.inr (10, fs))))) (hC : mC fs) {v : Int64} (h1 : v.toInt < -1000000000) : wq 218 0 [(0, .ref 162), (1, .int 1), (2, .long v)] [] h 0 0 (fun r => ∃ h2, r = (some (.int 0), h2, 0, 0)) := by
  have el : ((-1000000000 : Int64)).toInt = -1000000000 := rfl
  have eh : ((1000000000 : Int64)).toInt = 1000000000 := rfl
  refine wq_gos (f := 1) (pc2 := 2) (ls2 := [(0, .ref 162), (1, .int 1), (2, .long v)]) (st2 := [.int 0, .ref 162]) (h2 := h) (dc2 := 0) (ds2 := 0) 2 rfl ?_
  refine wq_putf rfl hM rfl (by rw [hC.1]; rfl) rfl ?_
  intro h1x e2x f3x l4x
  obtain ⟨fs5x, hf6x⟩ : ∃ x, x = fs.set 0 (.int 0) := ⟨_, rfl⟩
  rw [← hf6x] at e2x
  have hC7x : mC fs5x := by rw [hf6x]; exact mC_set hC (by decide) _
  have p8x : fs5x[0]? = some (.int 0) := by rw [hf6x]; exact List.getElem?_set_self (by rw [hC.1]; decide)
  refine wq_gos (f := 1) (pc2 := 22) (ls2 := [(4, .long 1000000000), (0, .ref 162), (1, .int 1), (2, .long v)]) (st2 := [.int 1]) (h2 := h1x) (dc2 := 0) (ds2 := 0) 7 rfl ?_
  refine wq_inl (y2 := 208) (as := [.int 1]) rfl rfl rfl ?_
  show wq 208 0 [(0, .int 1)] [] h1x 0 0 _
  refine wq_gos (f := 1) (pc2 := 15) (ls2 := [(0, .int 1)]) (st2 := [.int 1]) (h2 := h1x) (dc2 := 0) (ds2 := 0) 7 rfl ?_
  refine wq_ret rfl rfl ?_
  show wq 218 25 [(4, .long 1000000000), (0, .ref 162), (1, .int 1), (2, .long v)] [.int 1] h1x 0 0 _
  refine wq_gos (f := 1) (pc2 := 32) (ls2 := [(4, .long 1000000000), (0, .ref 162), (1, .int 1), (2, .long v)]) (st2 := [.int (lg_cmp v (1000000000 : Int64))]) (h2 := h1x) (dc2 := 0) (ds2 := 0) 4 rfl ?_
  refine wq_gt0f rfl rfl (lgc_le (by omega)) ?_
  refine wq_gos (f := 1) (pc2 := 49) (ls2 := [(4, .long 1000000000), (0, .ref 162), (1, .int 1), (2, .long v)]) (st2 := [.int (lg_cmp v (-1000000000 : Int64))]) (h2 := h1x) (dc2 := 0) (ds2 := 0) 8 rfl ?_
  refine wq_ge0f rfl rfl (lgc_lt (by omega)) ?_
  refine wq_gos (f := 1) (pc2 := 53) (ls2 := [(4, .long 1000000000), (0, .ref 162), (1, .int 1), (2, .long v)]) (st2 := [.int 0]) (h2 := h1x) (dc2 := 0) (ds2 := 0) 1 rfl ?_
  exact wq_ret rfl rfl ⟨h1x, rfl⟩
theorem c_aimB1 {h : zH} {v : Int64} (h2 : 1000000000 < v.toInt) : zT zg0 zF zP 112 0 [(0, .ref 0), (1, .int 1), (2, .long v)] [] h 0 0 (some (.int 0), h, 0, 0) := by
  have el : ((-1000000000 : Int64)).toInt = -1000000000 := rfl
  have eh : ((1000000000 : Int64)).toInt = 1000000000 := rfl
  apply wq_toT
  refine wq_gos (f := 1) (pc2 := 45) (ls2 := [(6, .long 1000000000), (4, .long (-1000000000)), (0, .ref 0), (1, .int 1), (2, .long v)]) (st2 := [.int (lg_cmp v (-1000000000 : Int64))]) (h2 := h) (dc2 := 0) (ds2 := 0) 20 rfl ?_
  refine wq_lt0f rfl rfl (lgc_ge (by omega)) ?_
  refine wq_gos (f := 1) (pc2 := 52) (ls2 := [(6, .long 1000000000), (4, .long (-1000000000)), (0, .ref 0), (1, .int 1), (2, .long v)]) (st2 := [.int (lg_cmp v (1000000000 : Int64))]) (h2 := h) (dc2 := 0) (ds2 := 0) 3 rfl ?_
  refine wq_le0f rfl rfl (lgc_gt (by omega)) ?_
  refine wq_gos (f := 1) (pc2 := 56) (ls2 := [(6, .long 1000000000), (4, .long (-1000000000)), (0, .ref 0), (1, .int 1), (2, .long v)]) (st2 := [.int 0]) (h2 := h) (dc2 := 0) (ds2 := 0) 1 rfl ?_
  exact wq_ret rfl rfl rfl
theorem m_aimB1 {h : zH} {fs : List Value} (hM : zat h 162 = some (.inr (.inr (.inr (10, fs))))) (hC : mC fs) {v : Int64} (h2 : 1000000000 < v.toInt) : wq 218 0 [(0, .ref 162), (1, .int 1), (2, .long v)] [] h 0 0 (fun r => ∃ h2, r = (some (.int 0), h2, 0, 0)) := by
  have el : ((-1000000000 : Int64)).toInt = -1000000000 := rfl
  have eh : ((1000000000 : Int64)).toInt = 1000000000 := rfl
  refine wq_gos (f := 1) (pc2 := 2) (ls2 := [(0, .ref 162), (1, .int 1), (2, .long v)]) (st2 := [.int 0, .ref 162]) (h2 := h) (dc2 := 0) (ds2 := 0) 2 rfl ?_
  refine wq_putf rfl hM rfl (by rw [hC.1]; rfl) rfl ?_
  intro h1x e2x f3x l4x
  obtain ⟨fs5x, hf6x⟩ : ∃ x, x = fs.set 0 (.int 0) := ⟨_, rfl⟩
  rw [← hf6x] at e2x
  have hC7x : mC fs5x := by rw [hf6x]; exact mC_set hC (by decide) _
  have p8x : fs5x[0]? = some (.int 0) := by rw [hf6x]; exact List.getElem?_set_self (by rw [hC.1]; decide)
  refine wq_gos (f := 1) (pc2 := 22) (ls2 := [(4, .long 1000000000), (0, .ref 162), (1, .int 1), (2, .long v)]) (st2 := [.int 1]) (h2 := h1x) (dc2 := 0) (ds2 := 0) 7 rfl ?_
  refine wq_inl (y2 := 208) (as := [.int 1]) rfl rfl rfl ?_
  show wq 208 0 [(0, .int 1)] [] h1x 0 0 _
  refine wq_gos (f := 1) (pc2 := 15) (ls2 := [(0, .int 1)]) (st2 := [.int 1]) (h2 := h1x) (dc2 := 0) (ds2 := 0) 7 rfl ?_
  refine wq_ret rfl rfl ?_
  show wq 218 25 [(4, .long 1000000000), (0, .ref 162), (1, .int 1), (2, .long v)] [.int 1] h1x 0 0 _
  refine wq_gos (f := 1) (pc2 := 32) (ls2 := [(4, .long 1000000000), (0, .ref 162), (1, .int 1), (2, .long v)]) (st2 := [.int (lg_cmp v (1000000000 : Int64))]) (h2 := h1x) (dc2 := 0) (ds2 := 0) 4 rfl ?_
  refine wq_gt0t rfl (lgc_gt (by omega)) ?_
  refine wq_gos (f := 1) (pc2 := 53) (ls2 := [(4, .long 1000000000), (0, .ref 162), (1, .int 1), (2, .long v)]) (st2 := [.int 0]) (h2 := h1x) (dc2 := 0) (ds2 := 0) 1 rfl ?_
  exact wq_ret rfl rfl ⟨h1x, rfl⟩
set_option maxHeartbeats 4000000 in
theorem c_aimG2 {h : zH} {ra : Nat} {rd : Nat} {ta im : Int32} {ps ip : Int64} {pp : List Int64} {pa am : List Int32} (hX : zat h 0 = some (.inr (.inr (.inr (9, [.ref 2, .int ta, .ref 4, .ref ra, .ref rd, .long ps, .ref 34, .ref 36, .int im, .long ip, .ref 42, .ref 44, .ref 60, .ref 66, .ref 72, .ref 74, .ref 150, .ref 158]))))) (hP : zat h 36 = some (.inr (.inr (.inr (2, [.int 0, .int 0, .ref 38, .ref 40]))))) (hPp : zat h 38 = some (.inr (.inl (20, pp)))) (hPa : zat h 40 = some (.inl (0, 120, pa))) (hAm : zat h 34 = some (.inl (0, 6, am))) {v : Int64} (h1 : -1000000000 ≤ v.toInt) (h2 : v.toInt ≤ 1000000000) : wq 112 0 [(0, .ref 0), (1, .int 2), (2, .long v)] [] h 0 0 (fun r => ∃ h2, r = (some (.int 1), h2, 0, 0) ∧ wFr [0, 36, 38, 40, 34] h h2) := by
  have el : ((-1000000000 : Int64)).toInt = -1000000000 := rfl
  have eh : ((1000000000 : Int64)).toInt = 1000000000 := rfl
  refine wq_gos (f := 1) (pc2 := 45) (ls2 := [(6, .long 1000000000), (4, .long (-1000000000)), (0, .ref 0), (1, .int 2), (2, .long v)]) (st2 := [.int (lg_cmp v (-1000000000 : Int64))]) (h2 := h) (dc2 := 0) (ds2 := 0) 20 rfl ?_
  refine wq_lt0f rfl rfl (lgc_ge (by omega)) ?_
  refine wq_gos (f := 1) (pc2 := 52) (ls2 := [(6, .long 1000000000), (4, .long (-1000000000)), (0, .ref 0), (1, .int 2), (2, .long v)]) (st2 := [.int (lg_cmp v (1000000000 : Int64))]) (h2 := h) (dc2 := 0) (ds2 := 0) 3 rfl ?_
  refine wq_le0t rfl (lgc_le (by omega)) ?_
  refine wq_gos (f := 1) (pc2 := 58) (ls2 := [(6, .long 1000000000), (4, .long (-1000000000)), (0, .ref 0), (1, .int 2), (2, .long v)]) (st2 := [.ref 0]) (h2 := h) (dc2 := 0) (ds2 := 0) 1 rfl ?_
  refine wq_getf rfl hX rfl rfl ?_
  refine wq_gos (f := 1) (pc2 := 62) (ls2 := [(6, .long 1000000000), (4, .long (-1000000000)), (0, .ref 0), (1, .int 2), (2, .long v)]) (st2 := [.ref 0, .ref 36]) (h2 := h) (dc2 := 0) (ds2 := 0) 1 rfl ?_
  refine wq_getf rfl hX rfl rfl ?_
  refine wq_gos (f := 1) (pc2 := 66) (ls2 := [(6, .long 1000000000), (4, .long (-1000000000)), (0, .ref 0), (1, .int 2), (2, .long v)]) (st2 := [.ref 0, .long ps, .ref 36]) (h2 := h) (dc2 := 0) (ds2 := 0) 1 rfl ?_
  refine wq_getf rfl hX rfl rfl ?_
  refine wq_inlv (y2 := 23) (as := [.long ps, .ref 34]) rfl rfl rfl hP rfl ?_
  show wq 23 0 [(0, .ref 36), (1, .long ps), (3, .ref 34)] [] h 0 0 _
  refine wq_gos (f := 1) (pc2 := 1) (ls2 := [(0, .ref 36), (1, .long ps), (3, .ref 34)]) (st2 := [.ref 36]) (h2 := h) (dc2 := 0) (ds2 := 0) 1 rfl ?_
  refine wq_getf rfl hP rfl rfl ?_
  refine wq_gos (f := 1) (pc2 := 5) (ls2 := [(0, .ref 36), (1, .long ps), (3, .ref 34)]) (st2 := [.ref 36, .ref 38]) (h2 := h) (dc2 := 0) (ds2 := 0) 1 rfl ?_
  refine wq_getf rfl hP rfl rfl ?_
  refine wq_gos (f := 1) (pc2 := 9) (ls2 := [(0, .ref 36), (1, .long ps), (3, .ref 34)]) (st2 := [.long ps, .int 0, .ref 38]) (h2 := h) (dc2 := 0) (ds2 := 0) 1 rfl ?_
  refine wq_last rfl hPp rfl rfl ?_
  intro h1x e2x f3x l4x
  have e2x : zat h1x 38 = some (.inr (.inl (20, (zset 0 pp 0 ps)))) := e2x
  refine wq_gos (f := 1) (pc2 := 13) (ls2 := [(0, .ref 36), (1, .long ps), (3, .ref 34)]) (st2 := [.ref 36, .int 0, .ref 34]) (h2 := h1x) (dc2 := 0) (ds2 := 0) 3 rfl ?_
  have e5x := (f3x.2 _ _ (wnc (by decide) wn0) hP)
  refine wq_getf rfl e5x rfl rfl ?_
  refine wq_gos (f := 1) (pc2 := 17) (ls2 := [(0, .ref 36), (1, .long ps), (3, .ref 34)]) (st2 := [.ref 36, .ref 40, .int 0, .ref 34]) (h2 := h1x) (dc2 := 0) (ds2 := 0) 1 rfl ?_
  refine wq_getf rfl e5x rfl rfl ?_
  refine wq_gos (f := 1) (pc2 := 25) (ls2 := [(0, .ref 36), (1, .long ps), (3, .ref 34)]) (st2 := [.int 6, .int 0, .ref 40, .int 0, .ref 34]) (h2 := h1x) (dc2 := 0) (ds2 := 0) 3 rfl ?_
  have e6x := (f3x.2 _ _ (wnc (by decide) wn0) hPa)
  have e7x := (f3x.2 _ _ (wnc (by decide) wn0) hAm)
  refine wq_cpi rfl e7x e6x (by decide) (by decide) (by decide) (by decide) (by decide) rfl ?_
  intro h8x e9x f10x l11x
  have e9x : zat h8x 40 = some (.inl (0, 120, (zcpy 0 am pa 0 0 6))) := e9x
  refine wq_gos (f := 1) (pc2 := 30) (ls2 := [(0, .ref 36), (1, .long ps), (3, .ref 34)]) (st2 := [.ref 36, .ref 36]) (h2 := h8x) (dc2 := 0) (ds2 := 0) 2 rfl ?_
  have e12x := (f10x.2 _ _ (wnc (by decide) wn0) e5x)
  refine wq_getf rfl e12x rfl rfl ?_
  refine wq_gos (f := 1) (pc2 := 45) (ls2 := [(0, .ref 36), (1, .long ps), (3, .ref 34)]) (st2 := [.ref 36, .ref 36]) (h2 := h8x) (dc2 := 0) (ds2 := 0) 5 rfl ?_
  refine wq_getf rfl e12x rfl rfl ?_
  refine wq_gos (f := 1) (pc2 := 50) (ls2 := [(0, .ref 36), (1, .long ps), (3, .ref 34)]) (st2 := [.int 1, .ref 36]) (h2 := h8x) (dc2 := 0) (ds2 := 0) 2 rfl ?_
  refine wq_putf rfl e12x rfl rfl rfl ?_
  intro h13x e14x f15x l16x
  have e14x : zat h13x 36 = some (.inr (.inr (.inr (2, [.int 0, .int 1, .ref 38, .ref 40])))) := e14x
  refine wq_gos (f := 1) (pc2 := 55) (ls2 := [(0, .ref 36), (1, .long ps), (3, .ref 34)]) (st2 := [.ref 36, .ref 36]) (h2 := h13x) (dc2 := 0) (ds2 := 0) 2 rfl ?_
  refine wq_getf rfl e14x rfl rfl ?_
  refine wq_gos (f := 1) (pc2 := 62) (ls2 := [(0, .ref 36), (1, .long ps), (3, .ref 34)]) (st2 := [.int 20, .int 1, .ref 36]) (h2 := h13x) (dc2 := 0) (ds2 := 0) 3 rfl ?_
  refine wq_inl (y2 := 285) (as := [.int 1, .int 20]) rfl rfl rfl (wq_T (c_min (1 : Int32) (20 : Int32) h13x) ?_)
  show wq 23 65 [(0, .ref 36), (1, .long ps), (3, .ref 34)] [.int (jmin (1 : Int32) (20 : Int32)), .ref 36] h13x 0 0 _
  refine wq_putf rfl e14x rfl rfl rfl ?_
  intro h17x e18x f19x l20x
  have e18x : zat h17x 36 = some (.inr (.inr (.inr (2, [.int (jmin (1 : Int32) (20 : Int32)), .int 1, .ref 38, .ref 40])))) := e18x
  refine wq_ret rfl rfl ?_
  show wq 112 72 [(6, .long 1000000000), (4, .long (-1000000000)), (0, .ref 0), (1, .int 2), (2, .long v)] [] h17x 0 0 _
  refine wq_gos (f := 1) (pc2 := 73) (ls2 := [(6, .long 1000000000), (4, .long (-1000000000)), (0, .ref 0), (1, .int 2), (2, .long v)]) (st2 := [.ref 0]) (h2 := h17x) (dc2 := 0) (ds2 := 0) 1 rfl ?_
  have e21x := (f19x.2 _ _ (wnc (by decide) wn0) (f15x.2 _ _ (wnc (by decide) wn0) (f10x.2 _ _ (wnc (by decide) wn0) (f3x.2 _ _ (wnc (by decide) wn0) hX))))
  refine wq_getf rfl e21x rfl rfl ?_
  refine wq_gos (f := 1) (pc2 := 79) (ls2 := [(6, .long 1000000000), (4, .long (-1000000000)), (0, .ref 0), (1, .int 2), (2, .long v)]) (st2 := [.int (v).toInt32, .int 2, .ref 34]) (h2 := h17x) (dc2 := 0) (ds2 := 0) 3 rfl ?_
  have e22x := (f19x.2 _ _ (wnc (by decide) wn0) (f15x.2 _ _ (wnc (by decide) wn0) (f10x.2 _ _ (wnc (by decide) wn0) e7x)))
  refine wq_iast rfl e22x rfl rfl ?_
  intro h23x e24x f25x l26x
  have e24x : zat h23x 34 = some (.inl (0, 6, (zset 0 am 2 (v).toInt32))) := e24x
  refine wq_gos (f := 1) (pc2 := 81) (ls2 := [(6, .long 1000000000), (4, .long (-1000000000)), (0, .ref 0), (1, .int 2), (2, .long v)]) (st2 := [.int 1]) (h2 := h23x) (dc2 := 0) (ds2 := 0) 1 rfl ?_
  exact wq_ret rfl rfl ⟨h23x, rfl, (wFr_tr (wFr_sub f3x (by simp)) (wFr_tr (wFr_sub f10x (by simp)) (wFr_tr (wFr_sub f15x (by simp)) (wFr_tr (wFr_sub f19x (by simp)) (wFr_sub f25x (by simp))))))⟩
set_option maxHeartbeats 4000000 in
theorem m_aimG2 {h : zH} {fs : List Value} {kn lo hi : List Int32} {nw ai ke hr : List Int32} (hM : zat h 162 = some (.inr (.inr (.inr (10, fs))))) (hC : mC fs) (hK : zat h 166 = some (.inl (0, 14, kn))) (hO : zat h 168 = some (.inl (0, 12, lo))) (hG : zat h 170 = some (.inl (0, 12, hi))) (h27 : fs[27]? = some (.int 0)) (hNw : zat h 188 = some (.inl (0, 6, nw))) (hAi : zat h 190 = some (.inl (0, 6, ai))) (hKe : zat h 192 = some (.inl (0, 252, ke))) (hHr : zat h 212 = some (.inl (2, 2, hr))) {v : Int64} (h1 : -1000000000 ≤ v.toInt) (h2 : v.toInt ≤ 1000000000) : wq 218 0 [(0, .ref 162), (1, .int 2), (2, .long v)] [] h 0 0 (fun r => ∃ h2, r = (some (.int 1), h2, 0, 0)) := by
  have el : ((-1000000000 : Int64)).toInt = -1000000000 := rfl
  have eh : ((1000000000 : Int64)).toInt = 1000000000 := rfl
  refine wq_gos (f := 1) (pc2 := 2) (ls2 := [(0, .ref 162), (1, .int 2), (2, .long v)]) (st2 := [.int 0, .ref 162]) (h2 := h) (dc2 := 0) (ds2 := 0) 2 rfl ?_
  refine wq_putf rfl hM rfl (by rw [hC.1]; rfl) rfl ?_
  intro h1x e2x f3x l4x
  obtain ⟨fs5x, hf6x⟩ : ∃ x, x = fs.set 0 (.int 0) := ⟨_, rfl⟩
  rw [← hf6x] at e2x
  have hC7x : mC fs5x := by rw [hf6x]; exact mC_set hC (by decide) _
  have p8x : fs5x[27]? = some (.int 0) := by rw [hf6x, List.getElem?_set_ne (by decide)]; exact h27
  have p9x : fs5x[0]? = some (.int 0) := by rw [hf6x]; exact List.getElem?_set_self (by rw [hC.1]; decide)
  refine wq_gos (f := 1) (pc2 := 22) (ls2 := [(4, .long 1000000000), (0, .ref 162), (1, .int 2), (2, .long v)]) (st2 := [.int 2]) (h2 := h1x) (dc2 := 0) (ds2 := 0) 7 rfl ?_
  refine wq_inl (y2 := 208) (as := [.int 2]) rfl rfl rfl ?_
  show wq 208 0 [(0, .int 2)] [] h1x 0 0 _
  refine wq_gos (f := 1) (pc2 := 15) (ls2 := [(0, .int 2)]) (st2 := [.int 1]) (h2 := h1x) (dc2 := 0) (ds2 := 0) 7 rfl ?_
  refine wq_ret rfl rfl ?_
  show wq 218 25 [(4, .long 1000000000), (0, .ref 162), (1, .int 2), (2, .long v)] [.int 1] h1x 0 0 _
  refine wq_gos (f := 1) (pc2 := 32) (ls2 := [(4, .long 1000000000), (0, .ref 162), (1, .int 2), (2, .long v)]) (st2 := [.int (lg_cmp v (1000000000 : Int64))]) (h2 := h1x) (dc2 := 0) (ds2 := 0) 4 rfl ?_
  refine wq_gt0f rfl rfl (lgc_le (by omega)) ?_
  refine wq_gos (f := 1) (pc2 := 49) (ls2 := [(4, .long 1000000000), (0, .ref 162), (1, .int 2), (2, .long v)]) (st2 := [.int (lg_cmp v (-1000000000 : Int64))]) (h2 := h1x) (dc2 := 0) (ds2 := 0) 8 rfl ?_
  refine wq_ge0t rfl (lgc_ge (by omega)) ?_
  refine wq_gos (f := 1) (pc2 := 55) (ls2 := [(4, .long 1000000000), (0, .ref 162), (1, .int 2), (2, .long v)]) (st2 := [.ref 162]) (h2 := h1x) (dc2 := 0) (ds2 := 0) 1 rfl ?_
  refine wq_inlv (y2 := 191) (as := []) rfl rfl rfl e2x rfl ?_
  show wq 191 0 [(0, .ref 162)] [] h1x 0 0 _
  refine wq_gos (f := 1) (pc2 := 1) (ls2 := [(0, .ref 162)]) (st2 := [.ref 162]) (h2 := h1x) (dc2 := 0) (ds2 := 0) 1 rfl ?_
  refine wq_getf rfl e2x p8x rfl ?_
  refine wq_gos (f := 1) (pc2 := 51) (ls2 := [(0, .ref 162)]) (st2 := [.ref 162, .ref 162]) (h2 := h1x) (dc2 := 0) (ds2 := 0) 4 rfl ?_
  refine wq_getf rfl e2x p8x rfl ?_
  refine wq_inlv (y2 := 189) (as := [.int 0]) rfl rfl rfl e2x rfl ?_
  show wq 189 0 [(0, .ref 162), (1, .int 0)] [] h1x 0 0 _
  refine wq_gos (f := 1) (pc2 := 9) (ls2 := [(2, .int 0), (0, .ref 162), (1, .int 0)]) (st2 := [.ref 162]) (h2 := h1x) (dc2 := 0) (ds2 := 0) 6 rfl ?_
  refine wq_getf rfl e2x (hC7x.2 (26, 192) (by decide)) rfl ?_
  refine wq_gos (f := 1) (pc2 := 19) (ls2 := [(2, .int 0), (0, .ref 162), (1, .int 0)]) (st2 := [.ref 162, .int 0, .ref 192]) (h2 := h1x) (dc2 := 0) (ds2 := 0) 6 rfl ?_
  refine wq_getf rfl e2x (hC7x.2 (24, 188) (by decide)) rfl ?_
  refine wq_gos (f := 1) (pc2 := 23) (ls2 := [(2, .int 0), (0, .ref 162), (1, .int 0)]) (st2 := [.int 0, .ref 188, .int 0, .ref 192]) (h2 := h1x) (dc2 := 0) (ds2 := 0) 1 rfl ?_
  have e10x := (f3x.2 _ _ (wnc (by decide) wn0) hNw)
  refine wq_ialdk (k := 0) rfl e10x rfl rfl rfl ?_
  have e11x := (f3x.2 _ _ (wnc (by decide) wn0) hKe)
  refine wq_iast rfl e11x rfl rfl ?_
  intro h12x e13x f14x l15x
  have e13x : zat h12x 192 = some (.inl (0, 252, (zset 0 ke 0 (nw.getD 0 0)))) := e13x
  refine wq_gos (f := 1) (pc2 := 26) (ls2 := [(2, .int 0), (0, .ref 162), (1, .int 0)]) (st2 := [.ref 162]) (h2 := h12x) (dc2 := 0) (ds2 := 0) 1 rfl ?_
  have e16x := (f14x.2 _ _ (wnc (by decide) wn0) e2x)
  refine wq_getf rfl e16x (hC7x.2 (26, 192) (by decide)) rfl ?_
  refine wq_gos (f := 1) (pc2 := 39) (ls2 := [(2, .int 0), (0, .ref 162), (1, .int 0)]) (st2 := [.ref 162, .int 6, .ref 192]) (h2 := h12x) (dc2 := 0) (ds2 := 0) 8 rfl ?_
  refine wq_getf rfl e16x (hC7x.2 (25, 190) (by decide)) rfl ?_
  refine wq_gos (f := 1) (pc2 := 43) (ls2 := [(2, .int 0), (0, .ref 162), (1, .int 0)]) (st2 := [.int 0, .ref 190, .int 6, .ref 192]) (h2 := h12x) (dc2 := 0) (ds2 := 0) 1 rfl ?_
  have e17x := (f14x.2 _ _ (wnc (by decide) wn0) (f3x.2 _ _ (wnc (by decide) wn0) hAi))
  refine wq_ialdk (k := 0) rfl e17x rfl rfl rfl ?_
  refine wq_iast rfl e13x rfl rfl ?_
  intro h18x e19x f20x l21x
  have e19x : zat h18x 192 = some (.inl (0, 252, (zset 0 (zset 0 ke 0 (nw.getD 0 0)) 6 (ai.getD 0 0)))) := e19x
  refine wq_gos (f := 1) (pc2 := 9) (ls2 := [(2, .int 1), (0, .ref 162), (1, .int 0)]) (st2 := [.ref 162]) (h2 := h18x) (dc2 := 0) (ds2 := 0) 6 rfl ?_
  have e22x := (f20x.2 _ _ (wnc (by decide) wn0) e16x)
  refine wq_getf rfl e22x (hC7x.2 (26, 192) (by decide)) rfl ?_
  refine wq_gos (f := 1) (pc2 := 19) (ls2 := [(2, .int 1), (0, .ref 162), (1, .int 0)]) (st2 := [.ref 162, .int 1, .ref 192]) (h2 := h18x) (dc2 := 0) (ds2 := 0) 6 rfl ?_
  refine wq_getf rfl e22x (hC7x.2 (24, 188) (by decide)) rfl ?_
  refine wq_gos (f := 1) (pc2 := 23) (ls2 := [(2, .int 1), (0, .ref 162), (1, .int 0)]) (st2 := [.int 1, .ref 188, .int 1, .ref 192]) (h2 := h18x) (dc2 := 0) (ds2 := 0) 1 rfl ?_
  have e23x := (f20x.2 _ _ (wnc (by decide) wn0) (f14x.2 _ _ (wnc (by decide) wn0) e10x))
  refine wq_ialdk (k := 1) rfl e23x rfl rfl rfl ?_
  refine wq_iast rfl e19x rfl rfl ?_
  intro h24x e25x f26x l27x
  have e25x : zat h24x 192 = some (.inl (0, 252, (zset 0 (zset 0 (zset 0 ke 0 (nw.getD 0 0)) 6 (ai.getD 0 0)) 1 (nw.getD 1 0)))) := e25x
  refine wq_gos (f := 1) (pc2 := 26) (ls2 := [(2, .int 1), (0, .ref 162), (1, .int 0)]) (st2 := [.ref 162]) (h2 := h24x) (dc2 := 0) (ds2 := 0) 1 rfl ?_
  have e28x := (f26x.2 _ _ (wnc (by decide) wn0) e22x)
  refine wq_getf rfl e28x (hC7x.2 (26, 192) (by decide)) rfl ?_
  refine wq_gos (f := 1) (pc2 := 39) (ls2 := [(2, .int 1), (0, .ref 162), (1, .int 0)]) (st2 := [.ref 162, .int 7, .ref 192]) (h2 := h24x) (dc2 := 0) (ds2 := 0) 8 rfl ?_
  refine wq_getf rfl e28x (hC7x.2 (25, 190) (by decide)) rfl ?_
  refine wq_gos (f := 1) (pc2 := 43) (ls2 := [(2, .int 1), (0, .ref 162), (1, .int 0)]) (st2 := [.int 1, .ref 190, .int 7, .ref 192]) (h2 := h24x) (dc2 := 0) (ds2 := 0) 1 rfl ?_
  have e29x := (f26x.2 _ _ (wnc (by decide) wn0) (f20x.2 _ _ (wnc (by decide) wn0) e17x))
  refine wq_ialdk (k := 1) rfl e29x rfl rfl rfl ?_
  refine wq_iast rfl e25x rfl rfl ?_
  intro h30x e31x f32x l33x
  have e31x : zat h30x 192 = some (.inl (0, 252, (zset 0 (zset 0 (zset 0 (zset 0 ke 0 (nw.getD 0 0)) 6 (ai.getD 0 0)) 1 (nw.getD 1 0)) 7 (ai.getD 1 0)))) := e31x
  refine wq_gos (f := 1) (pc2 := 9) (ls2 := [(2, .int 2), (0, .ref 162), (1, .int 0)]) (st2 := [.ref 162]) (h2 := h30x) (dc2 := 0) (ds2 := 0) 6 rfl ?_
  have e34x := (f32x.2 _ _ (wnc (by decide) wn0) e28x)
  refine wq_getf rfl e34x (hC7x.2 (26, 192) (by decide)) rfl ?_
  refine wq_gos (f := 1) (pc2 := 19) (ls2 := [(2, .int 2), (0, .ref 162), (1, .int 0)]) (st2 := [.ref 162, .int 2, .ref 192]) (h2 := h30x) (dc2 := 0) (ds2 := 0) 6 rfl ?_
  refine wq_getf rfl e34x (hC7x.2 (24, 188) (by decide)) rfl ?_
  refine wq_gos (f := 1) (pc2 := 23) (ls2 := [(2, .int 2), (0, .ref 162), (1, .int 0)]) (st2 := [.int 2, .ref 188, .int 2, .ref 192]) (h2 := h30x) (dc2 := 0) (ds2 := 0) 1 rfl ?_
  have e35x := (f32x.2 _ _ (wnc (by decide) wn0) (f26x.2 _ _ (wnc (by decide) wn0) e23x))
  refine wq_ialdk (k := 2) rfl e35x rfl rfl rfl ?_
  refine wq_iast rfl e31x rfl rfl ?_
  intro h36x e37x f38x l39x
  have e37x : zat h36x 192 = some (.inl (0, 252, (zset 0 (zset 0 (zset 0 (zset 0 (zset 0 ke 0 (nw.getD 0 0)) 6 (ai.getD 0 0)) 1 (nw.getD 1 0)) 7 (ai.getD 1 0)) 2 (nw.getD 2 0)))) := e37x
  refine wq_gos (f := 1) (pc2 := 26) (ls2 := [(2, .int 2), (0, .ref 162), (1, .int 0)]) (st2 := [.ref 162]) (h2 := h36x) (dc2 := 0) (ds2 := 0) 1 rfl ?_
  have e40x := (f38x.2 _ _ (wnc (by decide) wn0) e34x)
  refine wq_getf rfl e40x (hC7x.2 (26, 192) (by decide)) rfl ?_
  refine wq_gos (f := 1) (pc2 := 39) (ls2 := [(2, .int 2), (0, .ref 162), (1, .int 0)]) (st2 := [.ref 162, .int 8, .ref 192]) (h2 := h36x) (dc2 := 0) (ds2 := 0) 8 rfl ?_
  refine wq_getf rfl e40x (hC7x.2 (25, 190) (by decide)) rfl ?_
  refine wq_gos (f := 1) (pc2 := 43) (ls2 := [(2, .int 2), (0, .ref 162), (1, .int 0)]) (st2 := [.int 2, .ref 190, .int 8, .ref 192]) (h2 := h36x) (dc2 := 0) (ds2 := 0) 1 rfl ?_
  have e41x := (f38x.2 _ _ (wnc (by decide) wn0) (f32x.2 _ _ (wnc (by decide) wn0) e29x))
  refine wq_ialdk (k := 2) rfl e41x rfl rfl rfl ?_
  refine wq_iast rfl e37x rfl rfl ?_
  intro h42x e43x f44x l45x
  have e43x : zat h42x 192 = some (.inl (0, 252, (zset 0 (zset 0 (zset 0 (zset 0 (zset 0 (zset 0 ke 0 (nw.getD 0 0)) 6 (ai.getD 0 0)) 1 (nw.getD 1 0)) 7 (ai.getD 1 0)) 2 (nw.getD 2 0)) 8 (ai.getD 2 0)))) := e43x
  refine wq_gos (f := 1) (pc2 := 9) (ls2 := [(2, .int 3), (0, .ref 162), (1, .int 0)]) (st2 := [.ref 162]) (h2 := h42x) (dc2 := 0) (ds2 := 0) 6 rfl ?_
  have e46x := (f44x.2 _ _ (wnc (by decide) wn0) e40x)
  refine wq_getf rfl e46x (hC7x.2 (26, 192) (by decide)) rfl ?_
  refine wq_gos (f := 1) (pc2 := 19) (ls2 := [(2, .int 3), (0, .ref 162), (1, .int 0)]) (st2 := [.ref 162, .int 3, .ref 192]) (h2 := h42x) (dc2 := 0) (ds2 := 0) 6 rfl ?_
  refine wq_getf rfl e46x (hC7x.2 (24, 188) (by decide)) rfl ?_
  refine wq_gos (f := 1) (pc2 := 23) (ls2 := [(2, .int 3), (0, .ref 162), (1, .int 0)]) (st2 := [.int 3, .ref 188, .int 3, .ref 192]) (h2 := h42x) (dc2 := 0) (ds2 := 0) 1 rfl ?_
  have e47x := (f44x.2 _ _ (wnc (by decide) wn0) (f38x.2 _ _ (wnc (by decide) wn0) e35x))
  refine wq_ialdk (k := 3) rfl e47x rfl rfl rfl ?_
  refine wq_iast rfl e43x rfl rfl ?_
  intro h48x e49x f50x l51x
  have e49x : zat h48x 192 = some (.inl (0, 252, (zset 0 (zset 0 (zset 0 (zset 0 (zset 0 (zset 0 (zset 0 ke 0 (nw.getD 0 0)) 6 (ai.getD 0 0)) 1 (nw.getD 1 0)) 7 (ai.getD 1 0)) 2 (nw.getD 2 0)) 8 (ai.getD 2 0)) 3 (nw.getD 3 0)))) := e49x
  refine wq_gos (f := 1) (pc2 := 26) (ls2 := [(2, .int 3), (0, .ref 162), (1, .int 0)]) (st2 := [.ref 162]) (h2 := h48x) (dc2 := 0) (ds2 := 0) 1 rfl ?_
  have e52x := (f50x.2 _ _ (wnc (by decide) wn0) e46x)
  refine wq_getf rfl e52x (hC7x.2 (26, 192) (by decide)) rfl ?_
  refine wq_gos (f := 1) (pc2 := 39) (ls2 := [(2, .int 3), (0, .ref 162), (1, .int 0)]) (st2 := [.ref 162, .int 9, .ref 192]) (h2 := h48x) (dc2 := 0) (ds2 := 0) 8 rfl ?_
  refine wq_getf rfl e52x (hC7x.2 (25, 190) (by decide)) rfl ?_
  refine wq_gos (f := 1) (pc2 := 43) (ls2 := [(2, .int 3), (0, .ref 162), (1, .int 0)]) (st2 := [.int 3, .ref 190, .int 9, .ref 192]) (h2 := h48x) (dc2 := 0) (ds2 := 0) 1 rfl ?_
  have e53x := (f50x.2 _ _ (wnc (by decide) wn0) (f44x.2 _ _ (wnc (by decide) wn0) e41x))
  refine wq_ialdk (k := 3) rfl e53x rfl rfl rfl ?_
  refine wq_iast rfl e49x rfl rfl ?_
  intro h54x e55x f56x l57x
  have e55x : zat h54x 192 = some (.inl (0, 252, (zset 0 (zset 0 (zset 0 (zset 0 (zset 0 (zset 0 (zset 0 (zset 0 ke 0 (nw.getD 0 0)) 6 (ai.getD 0 0)) 1 (nw.getD 1 0)) 7 (ai.getD 1 0)) 2 (nw.getD 2 0)) 8 (ai.getD 2 0)) 3 (nw.getD 3 0)) 9 (ai.getD 3 0)))) := e55x
  refine wq_gos (f := 1) (pc2 := 9) (ls2 := [(2, .int 4), (0, .ref 162), (1, .int 0)]) (st2 := [.ref 162]) (h2 := h54x) (dc2 := 0) (ds2 := 0) 6 rfl ?_
  have e58x := (f56x.2 _ _ (wnc (by decide) wn0) e52x)
  refine wq_getf rfl e58x (hC7x.2 (26, 192) (by decide)) rfl ?_
  refine wq_gos (f := 1) (pc2 := 19) (ls2 := [(2, .int 4), (0, .ref 162), (1, .int 0)]) (st2 := [.ref 162, .int 4, .ref 192]) (h2 := h54x) (dc2 := 0) (ds2 := 0) 6 rfl ?_
  refine wq_getf rfl e58x (hC7x.2 (24, 188) (by decide)) rfl ?_
  refine wq_gos (f := 1) (pc2 := 23) (ls2 := [(2, .int 4), (0, .ref 162), (1, .int 0)]) (st2 := [.int 4, .ref 188, .int 4, .ref 192]) (h2 := h54x) (dc2 := 0) (ds2 := 0) 1 rfl ?_
  have e59x := (f56x.2 _ _ (wnc (by decide) wn0) (f50x.2 _ _ (wnc (by decide) wn0) e47x))
  refine wq_ialdk (k := 4) rfl e59x rfl rfl rfl ?_
  refine wq_iast rfl e55x rfl rfl ?_
  intro h60x e61x f62x l63x
  have e61x : zat h60x 192 = some (.inl (0, 252, (zset 0 (zset 0 (zset 0 (zset 0 (zset 0 (zset 0 (zset 0 (zset 0 (zset 0 ke 0 (nw.getD 0 0)) 6 (ai.getD 0 0)) 1 (nw.getD 1 0)) 7 (ai.getD 1 0)) 2 (nw.getD 2 0)) 8 (ai.getD 2 0)) 3 (nw.getD 3 0)) 9 (ai.getD 3 0)) 4 (nw.getD 4 0)))) := e61x
  refine wq_gos (f := 1) (pc2 := 26) (ls2 := [(2, .int 4), (0, .ref 162), (1, .int 0)]) (st2 := [.ref 162]) (h2 := h60x) (dc2 := 0) (ds2 := 0) 1 rfl ?_
  have e64x := (f62x.2 _ _ (wnc (by decide) wn0) e58x)
  refine wq_getf rfl e64x (hC7x.2 (26, 192) (by decide)) rfl ?_
  refine wq_gos (f := 1) (pc2 := 39) (ls2 := [(2, .int 4), (0, .ref 162), (1, .int 0)]) (st2 := [.ref 162, .int 10, .ref 192]) (h2 := h60x) (dc2 := 0) (ds2 := 0) 8 rfl ?_
  refine wq_getf rfl e64x (hC7x.2 (25, 190) (by decide)) rfl ?_
  refine wq_gos (f := 1) (pc2 := 43) (ls2 := [(2, .int 4), (0, .ref 162), (1, .int 0)]) (st2 := [.int 4, .ref 190, .int 10, .ref 192]) (h2 := h60x) (dc2 := 0) (ds2 := 0) 1 rfl ?_
  have e65x := (f62x.2 _ _ (wnc (by decide) wn0) (f56x.2 _ _ (wnc (by decide) wn0) e53x))
  refine wq_ialdk (k := 4) rfl e65x rfl rfl rfl ?_
  refine wq_iast rfl e61x rfl rfl ?_
  intro h66x e67x f68x l69x
  have e67x : zat h66x 192 = some (.inl (0, 252, (zset 0 (zset 0 (zset 0 (zset 0 (zset 0 (zset 0 (zset 0 (zset 0 (zset 0 (zset 0 ke 0 (nw.getD 0 0)) 6 (ai.getD 0 0)) 1 (nw.getD 1 0)) 7 (ai.getD 1 0)) 2 (nw.getD 2 0)) 8 (ai.getD 2 0)) 3 (nw.getD 3 0)) 9 (ai.getD 3 0)) 4 (nw.getD 4 0)) 10 (ai.getD 4 0)))) := e67x
  refine wq_gos (f := 1) (pc2 := 9) (ls2 := [(2, .int 5), (0, .ref 162), (1, .int 0)]) (st2 := [.ref 162]) (h2 := h66x) (dc2 := 0) (ds2 := 0) 6 rfl ?_
  have e70x := (f68x.2 _ _ (wnc (by decide) wn0) e64x)
  refine wq_getf rfl e70x (hC7x.2 (26, 192) (by decide)) rfl ?_
  refine wq_gos (f := 1) (pc2 := 19) (ls2 := [(2, .int 5), (0, .ref 162), (1, .int 0)]) (st2 := [.ref 162, .int 5, .ref 192]) (h2 := h66x) (dc2 := 0) (ds2 := 0) 6 rfl ?_
  refine wq_getf rfl e70x (hC7x.2 (24, 188) (by decide)) rfl ?_
  refine wq_gos (f := 1) (pc2 := 23) (ls2 := [(2, .int 5), (0, .ref 162), (1, .int 0)]) (st2 := [.int 5, .ref 188, .int 5, .ref 192]) (h2 := h66x) (dc2 := 0) (ds2 := 0) 1 rfl ?_
  have e71x := (f68x.2 _ _ (wnc (by decide) wn0) (f62x.2 _ _ (wnc (by decide) wn0) e59x))
  refine wq_ialdk (k := 5) rfl e71x rfl rfl rfl ?_
  refine wq_iast rfl e67x rfl rfl ?_
  intro h72x e73x f74x l75x
  have e73x : zat h72x 192 = some (.inl (0, 252, (zset 0 (zset 0 (zset 0 (zset 0 (zset 0 (zset 0 (zset 0 (zset 0 (zset 0 (zset 0 (zset 0 ke 0 (nw.getD 0 0)) 6 (ai.getD 0 0)) 1 (nw.getD 1 0)) 7 (ai.getD 1 0)) 2 (nw.getD 2 0)) 8 (ai.getD 2 0)) 3 (nw.getD 3 0)) 9 (ai.getD 3 0)) 4 (nw.getD 4 0)) 10 (ai.getD 4 0)) 5 (nw.getD 5 0)))) := e73x
  refine wq_gos (f := 1) (pc2 := 26) (ls2 := [(2, .int 5), (0, .ref 162), (1, .int 0)]) (st2 := [.ref 162]) (h2 := h72x) (dc2 := 0) (ds2 := 0) 1 rfl ?_
  have e76x := (f74x.2 _ _ (wnc (by decide) wn0) e70x)
  refine wq_getf rfl e76x (hC7x.2 (26, 192) (by decide)) rfl ?_
  refine wq_gos (f := 1) (pc2 := 39) (ls2 := [(2, .int 5), (0, .ref 162), (1, .int 0)]) (st2 := [.ref 162, .int 11, .ref 192]) (h2 := h72x) (dc2 := 0) (ds2 := 0) 8 rfl ?_
  refine wq_getf rfl e76x (hC7x.2 (25, 190) (by decide)) rfl ?_
  refine wq_gos (f := 1) (pc2 := 43) (ls2 := [(2, .int 5), (0, .ref 162), (1, .int 0)]) (st2 := [.int 5, .ref 190, .int 11, .ref 192]) (h2 := h72x) (dc2 := 0) (ds2 := 0) 1 rfl ?_
  have e77x := (f74x.2 _ _ (wnc (by decide) wn0) (f68x.2 _ _ (wnc (by decide) wn0) e65x))
  refine wq_ialdk (k := 5) rfl e77x rfl rfl rfl ?_
  refine wq_iast rfl e73x rfl rfl ?_
  intro h78x e79x f80x l81x
  have e79x : zat h78x 192 = some (.inl (0, 252, (zset 0 (zset 0 (zset 0 (zset 0 (zset 0 (zset 0 (zset 0 (zset 0 (zset 0 (zset 0 (zset 0 (zset 0 ke 0 (nw.getD 0 0)) 6 (ai.getD 0 0)) 1 (nw.getD 1 0)) 7 (ai.getD 1 0)) 2 (nw.getD 2 0)) 8 (ai.getD 2 0)) 3 (nw.getD 3 0)) 9 (ai.getD 3 0)) 4 (nw.getD 4 0)) 10 (ai.getD 4 0)) 5 (nw.getD 5 0)) 11 (ai.getD 5 0)))) := e79x
  refine wq_gos (f := 1) (pc2 := 51) (ls2 := [(2, .int 6), (0, .ref 162), (1, .int 0)]) (st2 := []) (h2 := h78x) (dc2 := 0) (ds2 := 0) 5 rfl ?_
  refine wq_ret rfl rfl ?_
  show wq 191 57 [(0, .ref 162)] [] h78x 0 0 _
  refine wq_gos (f := 1) (pc2 := 59) (ls2 := [(0, .ref 162)]) (st2 := [.ref 162, .ref 162]) (h2 := h78x) (dc2 := 0) (ds2 := 0) 2 rfl ?_
  have e82x := (f80x.2 _ _ (wnc (by decide) wn0) e76x)
  refine wq_getf rfl e82x p8x rfl ?_
  refine wq_gos (f := 1) (pc2 := 64) (ls2 := [(0, .ref 162)]) (st2 := [.int 1, .ref 162]) (h2 := h78x) (dc2 := 0) (ds2 := 0) 2 rfl ?_
  refine wq_putf rfl e82x rfl (by rw [hC7x.1]; rfl) rfl ?_
  intro h83x e84x f85x l86x
  obtain ⟨fs87x, hf88x⟩ : ∃ x, x = fs5x.set 27 (.int 1) := ⟨_, rfl⟩
  rw [← hf88x] at e84x
  have hC89x : mC fs87x := by rw [hf88x]; exact mC_set hC7x (by decide) _
  have p90x : fs87x[0]? = some (.int 0) := by rw [hf88x, List.getElem?_set_ne (by decide)]; exact p9x
  have p91x : fs87x[27]? = some (.int 1) := by rw [hf88x]; exact List.getElem?_set_self (by rw [hC7x.1]; decide)
  refine wq_ret rfl rfl ?_
  show wq 218 58 [(4, .long 1000000000), (0, .ref 162), (1, .int 2), (2, .long v)] [] h83x 0 0 _
  refine wq_gos (f := 1) (pc2 := 59) (ls2 := [(4, .long 1000000000), (0, .ref 162), (1, .int 2), (2, .long v)]) (st2 := [.ref 162]) (h2 := h83x) (dc2 := 0) (ds2 := 0) 1 rfl ?_
  refine wq_getf rfl e84x (hC89x.2 (25, 190) (by decide)) rfl ?_
  refine wq_gos (f := 1) (pc2 := 65) (ls2 := [(4, .long 1000000000), (0, .ref 162), (1, .int 2), (2, .long v)]) (st2 := [.int (v).toInt32, .int 2, .ref 190]) (h2 := h83x) (dc2 := 0) (ds2 := 0) 3 rfl ?_
  have e92x := (f85x.2 _ _ (wnc (by decide) wn0) (f80x.2 _ _ (wnc (by decide) wn0) e77x))
  refine wq_iast rfl e92x rfl rfl ?_
  intro h93x e94x f95x l96x
  have e94x : zat h93x 190 = some (.inl (0, 6, (zset 0 ai 2 (v).toInt32))) := e94x
  refine wq_gos (f := 1) (pc2 := 68) (ls2 := [(4, .long 1000000000), (0, .ref 162), (1, .int 2), (2, .long v)]) (st2 := [.int 0, .ref 162]) (h2 := h93x) (dc2 := 0) (ds2 := 0) 2 rfl ?_
  have e97x := (f95x.2 _ _ (wnc (by decide) wn0) e84x)
  refine wq_putf rfl e97x rfl (by rw [hC89x.1]; rfl) rfl ?_
  intro h98x e99x f100x l101x
  obtain ⟨fs102x, hf103x⟩ : ∃ x, x = fs87x.set 33 (.int 0) := ⟨_, rfl⟩
  rw [← hf103x] at e99x
  have hC104x : mC fs102x := by rw [hf103x]; exact mC_set hC89x (by decide) _
  have p105x : fs102x[0]? = some (.int 0) := by rw [hf103x, List.getElem?_set_ne (by decide)]; exact p90x
  have p106x : fs102x[27]? = some (.int 1) := by rw [hf103x, List.getElem?_set_ne (by decide)]; exact p91x
  have p107x : fs102x[33]? = some (.int 0) := by rw [hf103x]; exact List.getElem?_set_self (by rw [hC89x.1]; decide)
  refine wq_gos (f := 1) (pc2 := 72) (ls2 := [(4, .long 1000000000), (0, .ref 162), (1, .int 2), (2, .long v)]) (st2 := [.int 1]) (h2 := h98x) (dc2 := 0) (ds2 := 0) 1 rfl ?_
  exact wq_ret rfl rfl ⟨h98x, rfl⟩
theorem c_aimA2 {h : zH} {v : Int64} (h1 : v.toInt < -1000000000) : zT zg0 zF zP 112 0 [(0, .ref 0), (1, .int 2), (2, .long v)] [] h 0 0 (some (.int 0), h, 0, 0) := by
  have el : ((-1000000000 : Int64)).toInt = -1000000000 := rfl
  have eh : ((1000000000 : Int64)).toInt = 1000000000 := rfl
  apply wq_toT
  refine wq_gos (f := 1) (pc2 := 45) (ls2 := [(6, .long 1000000000), (4, .long (-1000000000)), (0, .ref 0), (1, .int 2), (2, .long v)]) (st2 := [.int (lg_cmp v (-1000000000 : Int64))]) (h2 := h) (dc2 := 0) (ds2 := 0) 20 rfl ?_
  refine wq_lt0t rfl (lgc_lt (by omega)) ?_
  refine wq_gos (f := 1) (pc2 := 56) (ls2 := [(6, .long 1000000000), (4, .long (-1000000000)), (0, .ref 0), (1, .int 2), (2, .long v)]) (st2 := [.int 0]) (h2 := h) (dc2 := 0) (ds2 := 0) 1 rfl ?_
  exact wq_ret rfl rfl rfl
theorem m_aimA2 {h : zH} {fs : List Value} (hM : zat h 162 = some (.inr (.inr (.inr (10, fs))))) (hC : mC fs) {v : Int64} (h1 : v.toInt < -1000000000) : wq 218 0 [(0, .ref 162), (1, .int 2), (2, .long v)] [] h 0 0 (fun r => ∃ h2, r = (some (.int 0), h2, 0, 0)) := by
  have el : ((-1000000000 : Int64)).toInt = -1000000000 := rfl
  have eh : ((1000000000 : Int64)).toInt = 1000000000 := rfl
  refine wq_gos (f := 1) (pc2 := 2) (ls2 := [(0, .ref 162), (1, .int 2), (2, .long v)]) (st2 := [.int 0, .ref 162]) (h2 := h) (dc2 := 0) (ds2 := 0) 2 rfl ?_
  refine wq_putf rfl hM rfl (by rw [hC.1]; rfl) rfl ?_
  intro h1x e2x f3x l4x
  obtain ⟨fs5x, hf6x⟩ : ∃ x, x = fs.set 0 (.int 0) := ⟨_, rfl⟩
  rw [← hf6x] at e2x
  have hC7x : mC fs5x := by rw [hf6x]; exact mC_set hC (by decide) _
  have p8x : fs5x[0]? = some (.int 0) := by rw [hf6x]; exact List.getElem?_set_self (by rw [hC.1]; decide)
  refine wq_gos (f := 1) (pc2 := 22) (ls2 := [(4, .long 1000000000), (0, .ref 162), (1, .int 2), (2, .long v)]) (st2 := [.int 2]) (h2 := h1x) (dc2 := 0) (ds2 := 0) 7 rfl ?_
  refine wq_inl (y2 := 208) (as := [.int 2]) rfl rfl rfl ?_
  show wq 208 0 [(0, .int 2)] [] h1x 0 0 _
  refine wq_gos (f := 1) (pc2 := 15) (ls2 := [(0, .int 2)]) (st2 := [.int 1]) (h2 := h1x) (dc2 := 0) (ds2 := 0) 7 rfl ?_
  refine wq_ret rfl rfl ?_
  show wq 218 25 [(4, .long 1000000000), (0, .ref 162), (1, .int 2), (2, .long v)] [.int 1] h1x 0 0 _
  refine wq_gos (f := 1) (pc2 := 32) (ls2 := [(4, .long 1000000000), (0, .ref 162), (1, .int 2), (2, .long v)]) (st2 := [.int (lg_cmp v (1000000000 : Int64))]) (h2 := h1x) (dc2 := 0) (ds2 := 0) 4 rfl ?_
  refine wq_gt0f rfl rfl (lgc_le (by omega)) ?_
  refine wq_gos (f := 1) (pc2 := 49) (ls2 := [(4, .long 1000000000), (0, .ref 162), (1, .int 2), (2, .long v)]) (st2 := [.int (lg_cmp v (-1000000000 : Int64))]) (h2 := h1x) (dc2 := 0) (ds2 := 0) 8 rfl ?_
  refine wq_ge0f rfl rfl (lgc_lt (by omega)) ?_
  refine wq_gos (f := 1) (pc2 := 53) (ls2 := [(4, .long 1000000000), (0, .ref 162), (1, .int 2), (2, .long v)]) (st2 := [.int 0]) (h2 := h1x) (dc2 := 0) (ds2 := 0) 1 rfl ?_
  exact wq_ret rfl rfl ⟨h1x, rfl⟩
theorem c_aimB2 {h : zH} {v : Int64} (h2 : 1000000000 < v.toInt) : zT zg0 zF zP 112 0 [(0, .ref 0), (1, .int 2), (2, .long v)] [] h 0 0 (some (.int 0), h, 0, 0) := by
  have el : ((-1000000000 : Int64)).toInt = -1000000000 := rfl
  have eh : ((1000000000 : Int64)).toInt = 1000000000 := rfl
  apply wq_toT
  refine wq_gos (f := 1) (pc2 := 45) (ls2 := [(6, .long 1000000000), (4, .long (-1000000000)), (0, .ref 0), (1, .int 2), (2, .long v)]) (st2 := [.int (lg_cmp v (-1000000000 : Int64))]) (h2 := h) (dc2 := 0) (ds2 := 0) 20 rfl ?_
  refine wq_lt0f rfl rfl (lgc_ge (by omega)) ?_
  refine wq_gos (f := 1) (pc2 := 52) (ls2 := [(6, .long 1000000000), (4, .long (-1000000000)), (0, .ref 0), (1, .int 2), (2, .long v)]) (st2 := [.int (lg_cmp v (1000000000 : Int64))]) (h2 := h) (dc2 := 0) (ds2 := 0) 3 rfl ?_
  refine wq_le0f rfl rfl (lgc_gt (by omega)) ?_
  refine wq_gos (f := 1) (pc2 := 56) (ls2 := [(6, .long 1000000000), (4, .long (-1000000000)), (0, .ref 0), (1, .int 2), (2, .long v)]) (st2 := [.int 0]) (h2 := h) (dc2 := 0) (ds2 := 0) 1 rfl ?_
  exact wq_ret rfl rfl rfl
theorem m_aimB2 {h : zH} {fs : List Value} (hM : zat h 162 = some (.inr (.inr (.inr (10, fs))))) (hC : mC fs) {v : Int64} (h2 : 1000000000 < v.toInt) : wq 218 0 [(0, .ref 162), (1, .int 2), (2, .long v)] [] h 0 0 (fun r => ∃ h2, r = (some (.int 0), h2, 0, 0)) := by
  have el : ((-1000000000 : Int64)).toInt = -1000000000 := rfl
  have eh : ((1000000000 : Int64)).toInt = 1000000000 := rfl
  refine wq_gos (f := 1) (pc2 := 2) (ls2 := [(0, .ref 162), (1, .int 2), (2, .long v)]) (st2 := [.int 0, .ref 162]) (h2 := h) (dc2 := 0) (ds2 := 0) 2 rfl ?_
  refine wq_putf rfl hM rfl (by rw [hC.1]; rfl) rfl ?_
  intro h1x e2x f3x l4x
  obtain ⟨fs5x, hf6x⟩ : ∃ x, x = fs.set 0 (.int 0) := ⟨_, rfl⟩
  rw [← hf6x] at e2x
  have hC7x : mC fs5x := by rw [hf6x]; exact mC_set hC (by decide) _
  have p8x : fs5x[0]? = some (.int 0) := by rw [hf6x]; exact List.getElem?_set_self (by rw [hC.1]; decide)
  refine wq_gos (f := 1) (pc2 := 22) (ls2 := [(4, .long 1000000000), (0, .ref 162), (1, .int 2), (2, .long v)]) (st2 := [.int 2]) (h2 := h1x) (dc2 := 0) (ds2 := 0) 7 rfl ?_
  refine wq_inl (y2 := 208) (as := [.int 2]) rfl rfl rfl ?_
  show wq 208 0 [(0, .int 2)] [] h1x 0 0 _
  refine wq_gos (f := 1) (pc2 := 15) (ls2 := [(0, .int 2)]) (st2 := [.int 1]) (h2 := h1x) (dc2 := 0) (ds2 := 0) 7 rfl ?_
  refine wq_ret rfl rfl ?_
  show wq 218 25 [(4, .long 1000000000), (0, .ref 162), (1, .int 2), (2, .long v)] [.int 1] h1x 0 0 _
  refine wq_gos (f := 1) (pc2 := 32) (ls2 := [(4, .long 1000000000), (0, .ref 162), (1, .int 2), (2, .long v)]) (st2 := [.int (lg_cmp v (1000000000 : Int64))]) (h2 := h1x) (dc2 := 0) (ds2 := 0) 4 rfl ?_
  refine wq_gt0t rfl (lgc_gt (by omega)) ?_
  refine wq_gos (f := 1) (pc2 := 53) (ls2 := [(4, .long 1000000000), (0, .ref 162), (1, .int 2), (2, .long v)]) (st2 := [.int 0]) (h2 := h1x) (dc2 := 0) (ds2 := 0) 1 rfl ?_
  exact wq_ret rfl rfl ⟨h1x, rfl⟩
set_option maxHeartbeats 4000000 in
theorem c_aimG3 {h : zH} {ra : Nat} {rd : Nat} {ta im : Int32} {ps ip : Int64} {pp : List Int64} {pa am : List Int32} (hX : zat h 0 = some (.inr (.inr (.inr (9, [.ref 2, .int ta, .ref 4, .ref ra, .ref rd, .long ps, .ref 34, .ref 36, .int im, .long ip, .ref 42, .ref 44, .ref 60, .ref 66, .ref 72, .ref 74, .ref 150, .ref 158]))))) (hP : zat h 36 = some (.inr (.inr (.inr (2, [.int 0, .int 0, .ref 38, .ref 40]))))) (hPp : zat h 38 = some (.inr (.inl (20, pp)))) (hPa : zat h 40 = some (.inl (0, 120, pa))) (hAm : zat h 34 = some (.inl (0, 6, am))) {v : Int64} (h1 : 0 ≤ v.toInt) (h2 : v.toInt ≤ 63) : wq 112 0 [(0, .ref 0), (1, .int 3), (2, .long v)] [] h 0 0 (fun r => ∃ h2, r = (some (.int 1), h2, 0, 0) ∧ wFr [0, 36, 38, 40, 34] h h2) := by
  have el : ((0 : Int64)).toInt = 0 := rfl
  have eh : ((63 : Int64)).toInt = 63 := rfl
  refine wq_gos (f := 1) (pc2 := 45) (ls2 := [(6, .long 63), (4, .long 0), (0, .ref 0), (1, .int 3), (2, .long v)]) (st2 := [.int (lg_cmp v (0 : Int64))]) (h2 := h) (dc2 := 0) (ds2 := 0) 18 rfl ?_
  refine wq_lt0f rfl rfl (lgc_ge (by omega)) ?_
  refine wq_gos (f := 1) (pc2 := 52) (ls2 := [(6, .long 63), (4, .long 0), (0, .ref 0), (1, .int 3), (2, .long v)]) (st2 := [.int (lg_cmp v (63 : Int64))]) (h2 := h) (dc2 := 0) (ds2 := 0) 3 rfl ?_
  refine wq_le0t rfl (lgc_le (by omega)) ?_
  refine wq_gos (f := 1) (pc2 := 58) (ls2 := [(6, .long 63), (4, .long 0), (0, .ref 0), (1, .int 3), (2, .long v)]) (st2 := [.ref 0]) (h2 := h) (dc2 := 0) (ds2 := 0) 1 rfl ?_
  refine wq_getf rfl hX rfl rfl ?_
  refine wq_gos (f := 1) (pc2 := 62) (ls2 := [(6, .long 63), (4, .long 0), (0, .ref 0), (1, .int 3), (2, .long v)]) (st2 := [.ref 0, .ref 36]) (h2 := h) (dc2 := 0) (ds2 := 0) 1 rfl ?_
  refine wq_getf rfl hX rfl rfl ?_
  refine wq_gos (f := 1) (pc2 := 66) (ls2 := [(6, .long 63), (4, .long 0), (0, .ref 0), (1, .int 3), (2, .long v)]) (st2 := [.ref 0, .long ps, .ref 36]) (h2 := h) (dc2 := 0) (ds2 := 0) 1 rfl ?_
  refine wq_getf rfl hX rfl rfl ?_
  refine wq_inlv (y2 := 23) (as := [.long ps, .ref 34]) rfl rfl rfl hP rfl ?_
  show wq 23 0 [(0, .ref 36), (1, .long ps), (3, .ref 34)] [] h 0 0 _
  refine wq_gos (f := 1) (pc2 := 1) (ls2 := [(0, .ref 36), (1, .long ps), (3, .ref 34)]) (st2 := [.ref 36]) (h2 := h) (dc2 := 0) (ds2 := 0) 1 rfl ?_
  refine wq_getf rfl hP rfl rfl ?_
  refine wq_gos (f := 1) (pc2 := 5) (ls2 := [(0, .ref 36), (1, .long ps), (3, .ref 34)]) (st2 := [.ref 36, .ref 38]) (h2 := h) (dc2 := 0) (ds2 := 0) 1 rfl ?_
  refine wq_getf rfl hP rfl rfl ?_
  refine wq_gos (f := 1) (pc2 := 9) (ls2 := [(0, .ref 36), (1, .long ps), (3, .ref 34)]) (st2 := [.long ps, .int 0, .ref 38]) (h2 := h) (dc2 := 0) (ds2 := 0) 1 rfl ?_
  refine wq_last rfl hPp rfl rfl ?_
  intro h1x e2x f3x l4x
  have e2x : zat h1x 38 = some (.inr (.inl (20, (zset 0 pp 0 ps)))) := e2x
  refine wq_gos (f := 1) (pc2 := 13) (ls2 := [(0, .ref 36), (1, .long ps), (3, .ref 34)]) (st2 := [.ref 36, .int 0, .ref 34]) (h2 := h1x) (dc2 := 0) (ds2 := 0) 3 rfl ?_
  have e5x := (f3x.2 _ _ (wnc (by decide) wn0) hP)
  refine wq_getf rfl e5x rfl rfl ?_
  refine wq_gos (f := 1) (pc2 := 17) (ls2 := [(0, .ref 36), (1, .long ps), (3, .ref 34)]) (st2 := [.ref 36, .ref 40, .int 0, .ref 34]) (h2 := h1x) (dc2 := 0) (ds2 := 0) 1 rfl ?_
  refine wq_getf rfl e5x rfl rfl ?_
  refine wq_gos (f := 1) (pc2 := 25) (ls2 := [(0, .ref 36), (1, .long ps), (3, .ref 34)]) (st2 := [.int 6, .int 0, .ref 40, .int 0, .ref 34]) (h2 := h1x) (dc2 := 0) (ds2 := 0) 3 rfl ?_
  have e6x := (f3x.2 _ _ (wnc (by decide) wn0) hPa)
  have e7x := (f3x.2 _ _ (wnc (by decide) wn0) hAm)
  refine wq_cpi rfl e7x e6x (by decide) (by decide) (by decide) (by decide) (by decide) rfl ?_
  intro h8x e9x f10x l11x
  have e9x : zat h8x 40 = some (.inl (0, 120, (zcpy 0 am pa 0 0 6))) := e9x
  refine wq_gos (f := 1) (pc2 := 30) (ls2 := [(0, .ref 36), (1, .long ps), (3, .ref 34)]) (st2 := [.ref 36, .ref 36]) (h2 := h8x) (dc2 := 0) (ds2 := 0) 2 rfl ?_
  have e12x := (f10x.2 _ _ (wnc (by decide) wn0) e5x)
  refine wq_getf rfl e12x rfl rfl ?_
  refine wq_gos (f := 1) (pc2 := 45) (ls2 := [(0, .ref 36), (1, .long ps), (3, .ref 34)]) (st2 := [.ref 36, .ref 36]) (h2 := h8x) (dc2 := 0) (ds2 := 0) 5 rfl ?_
  refine wq_getf rfl e12x rfl rfl ?_
  refine wq_gos (f := 1) (pc2 := 50) (ls2 := [(0, .ref 36), (1, .long ps), (3, .ref 34)]) (st2 := [.int 1, .ref 36]) (h2 := h8x) (dc2 := 0) (ds2 := 0) 2 rfl ?_
  refine wq_putf rfl e12x rfl rfl rfl ?_
  intro h13x e14x f15x l16x
  have e14x : zat h13x 36 = some (.inr (.inr (.inr (2, [.int 0, .int 1, .ref 38, .ref 40])))) := e14x
  refine wq_gos (f := 1) (pc2 := 55) (ls2 := [(0, .ref 36), (1, .long ps), (3, .ref 34)]) (st2 := [.ref 36, .ref 36]) (h2 := h13x) (dc2 := 0) (ds2 := 0) 2 rfl ?_
  refine wq_getf rfl e14x rfl rfl ?_
  refine wq_gos (f := 1) (pc2 := 62) (ls2 := [(0, .ref 36), (1, .long ps), (3, .ref 34)]) (st2 := [.int 20, .int 1, .ref 36]) (h2 := h13x) (dc2 := 0) (ds2 := 0) 3 rfl ?_
  refine wq_inl (y2 := 285) (as := [.int 1, .int 20]) rfl rfl rfl (wq_T (c_min (1 : Int32) (20 : Int32) h13x) ?_)
  show wq 23 65 [(0, .ref 36), (1, .long ps), (3, .ref 34)] [.int (jmin (1 : Int32) (20 : Int32)), .ref 36] h13x 0 0 _
  refine wq_putf rfl e14x rfl rfl rfl ?_
  intro h17x e18x f19x l20x
  have e18x : zat h17x 36 = some (.inr (.inr (.inr (2, [.int (jmin (1 : Int32) (20 : Int32)), .int 1, .ref 38, .ref 40])))) := e18x
  refine wq_ret rfl rfl ?_
  show wq 112 72 [(6, .long 63), (4, .long 0), (0, .ref 0), (1, .int 3), (2, .long v)] [] h17x 0 0 _
  refine wq_gos (f := 1) (pc2 := 73) (ls2 := [(6, .long 63), (4, .long 0), (0, .ref 0), (1, .int 3), (2, .long v)]) (st2 := [.ref 0]) (h2 := h17x) (dc2 := 0) (ds2 := 0) 1 rfl ?_
  have e21x := (f19x.2 _ _ (wnc (by decide) wn0) (f15x.2 _ _ (wnc (by decide) wn0) (f10x.2 _ _ (wnc (by decide) wn0) (f3x.2 _ _ (wnc (by decide) wn0) hX))))
  refine wq_getf rfl e21x rfl rfl ?_
  refine wq_gos (f := 1) (pc2 := 79) (ls2 := [(6, .long 63), (4, .long 0), (0, .ref 0), (1, .int 3), (2, .long v)]) (st2 := [.int (v).toInt32, .int 3, .ref 34]) (h2 := h17x) (dc2 := 0) (ds2 := 0) 3 rfl ?_
  have e22x := (f19x.2 _ _ (wnc (by decide) wn0) (f15x.2 _ _ (wnc (by decide) wn0) (f10x.2 _ _ (wnc (by decide) wn0) e7x)))
  refine wq_iast rfl e22x rfl rfl ?_
  intro h23x e24x f25x l26x
  have e24x : zat h23x 34 = some (.inl (0, 6, (zset 0 am 3 (v).toInt32))) := e24x
  refine wq_gos (f := 1) (pc2 := 81) (ls2 := [(6, .long 63), (4, .long 0), (0, .ref 0), (1, .int 3), (2, .long v)]) (st2 := [.int 1]) (h2 := h23x) (dc2 := 0) (ds2 := 0) 1 rfl ?_
  exact wq_ret rfl rfl ⟨h23x, rfl, (wFr_tr (wFr_sub f3x (by simp)) (wFr_tr (wFr_sub f10x (by simp)) (wFr_tr (wFr_sub f15x (by simp)) (wFr_tr (wFr_sub f19x (by simp)) (wFr_sub f25x (by simp))))))⟩
set_option maxHeartbeats 4000000 in
theorem m_aimG3 {h : zH} {fs : List Value} {kn lo hi : List Int32} {nw ai ke hr : List Int32} (hM : zat h 162 = some (.inr (.inr (.inr (10, fs))))) (hC : mC fs) (hK : zat h 166 = some (.inl (0, 14, kn))) (hO : zat h 168 = some (.inl (0, 12, lo))) (hG : zat h 170 = some (.inl (0, 12, hi))) (h27 : fs[27]? = some (.int 0)) (hNw : zat h 188 = some (.inl (0, 6, nw))) (hAi : zat h 190 = some (.inl (0, 6, ai))) (hKe : zat h 192 = some (.inl (0, 252, ke))) (hHr : zat h 212 = some (.inl (2, 2, hr))) {v : Int64} (h1 : 0 ≤ v.toInt) (h2 : v.toInt ≤ 63) : wq 218 0 [(0, .ref 162), (1, .int 3), (2, .long v)] [] h 0 0 (fun r => ∃ h2, r = (some (.int 1), h2, 0, 0)) := by
  have el : ((0 : Int64)).toInt = 0 := rfl
  have eh : ((63 : Int64)).toInt = 63 := rfl
  refine wq_gos (f := 1) (pc2 := 2) (ls2 := [(0, .ref 162), (1, .int 3), (2, .long v)]) (st2 := [.int 0, .ref 162]) (h2 := h) (dc2 := 0) (ds2 := 0) 2 rfl ?_
  refine wq_putf rfl hM rfl (by rw [hC.1]; rfl) rfl ?_
  intro h1x e2x f3x l4x
  obtain ⟨fs5x, hf6x⟩ : ∃ x, x = fs.set 0 (.int 0) := ⟨_, rfl⟩
  rw [← hf6x] at e2x
  have hC7x : mC fs5x := by rw [hf6x]; exact mC_set hC (by decide) _
  have p8x : fs5x[27]? = some (.int 0) := by rw [hf6x, List.getElem?_set_ne (by decide)]; exact h27
  have p9x : fs5x[0]? = some (.int 0) := by rw [hf6x]; exact List.getElem?_set_self (by rw [hC.1]; decide)
  refine wq_gos (f := 1) (pc2 := 22) (ls2 := [(4, .long 63), (0, .ref 162), (1, .int 3), (2, .long v)]) (st2 := [.int 3]) (h2 := h1x) (dc2 := 0) (ds2 := 0) 6 rfl ?_
  refine wq_inl (y2 := 208) (as := [.int 3]) rfl rfl rfl ?_
  show wq 208 0 [(0, .int 3)] [] h1x 0 0 _
  refine wq_gos (f := 1) (pc2 := 15) (ls2 := [(0, .int 3)]) (st2 := [.int 1]) (h2 := h1x) (dc2 := 0) (ds2 := 0) 7 rfl ?_
  refine wq_ret rfl rfl ?_
  show wq 218 25 [(4, .long 63), (0, .ref 162), (1, .int 3), (2, .long v)] [.int 1] h1x 0 0 _
  refine wq_gos (f := 1) (pc2 := 32) (ls2 := [(4, .long 63), (0, .ref 162), (1, .int 3), (2, .long v)]) (st2 := [.int (lg_cmp v (63 : Int64))]) (h2 := h1x) (dc2 := 0) (ds2 := 0) 4 rfl ?_
  refine wq_gt0f rfl rfl (lgc_le (by omega)) ?_
  refine wq_gos (f := 1) (pc2 := 49) (ls2 := [(4, .long 63), (0, .ref 162), (1, .int 3), (2, .long v)]) (st2 := [.int (lg_cmp v (0 : Int64))]) (h2 := h1x) (dc2 := 0) (ds2 := 0) 6 rfl ?_
  refine wq_ge0t rfl (lgc_ge (by omega)) ?_
  refine wq_gos (f := 1) (pc2 := 55) (ls2 := [(4, .long 63), (0, .ref 162), (1, .int 3), (2, .long v)]) (st2 := [.ref 162]) (h2 := h1x) (dc2 := 0) (ds2 := 0) 1 rfl ?_
  refine wq_inlv (y2 := 191) (as := []) rfl rfl rfl e2x rfl ?_
  show wq 191 0 [(0, .ref 162)] [] h1x 0 0 _
  refine wq_gos (f := 1) (pc2 := 1) (ls2 := [(0, .ref 162)]) (st2 := [.ref 162]) (h2 := h1x) (dc2 := 0) (ds2 := 0) 1 rfl ?_
  refine wq_getf rfl e2x p8x rfl ?_
  refine wq_gos (f := 1) (pc2 := 51) (ls2 := [(0, .ref 162)]) (st2 := [.ref 162, .ref 162]) (h2 := h1x) (dc2 := 0) (ds2 := 0) 4 rfl ?_
  refine wq_getf rfl e2x p8x rfl ?_
  refine wq_inlv (y2 := 189) (as := [.int 0]) rfl rfl rfl e2x rfl ?_
  show wq 189 0 [(0, .ref 162), (1, .int 0)] [] h1x 0 0 _
  refine wq_gos (f := 1) (pc2 := 9) (ls2 := [(2, .int 0), (0, .ref 162), (1, .int 0)]) (st2 := [.ref 162]) (h2 := h1x) (dc2 := 0) (ds2 := 0) 6 rfl ?_
  refine wq_getf rfl e2x (hC7x.2 (26, 192) (by decide)) rfl ?_
  refine wq_gos (f := 1) (pc2 := 19) (ls2 := [(2, .int 0), (0, .ref 162), (1, .int 0)]) (st2 := [.ref 162, .int 0, .ref 192]) (h2 := h1x) (dc2 := 0) (ds2 := 0) 6 rfl ?_
  refine wq_getf rfl e2x (hC7x.2 (24, 188) (by decide)) rfl ?_
  refine wq_gos (f := 1) (pc2 := 23) (ls2 := [(2, .int 0), (0, .ref 162), (1, .int 0)]) (st2 := [.int 0, .ref 188, .int 0, .ref 192]) (h2 := h1x) (dc2 := 0) (ds2 := 0) 1 rfl ?_
  have e10x := (f3x.2 _ _ (wnc (by decide) wn0) hNw)
  refine wq_ialdk (k := 0) rfl e10x rfl rfl rfl ?_
  have e11x := (f3x.2 _ _ (wnc (by decide) wn0) hKe)
  refine wq_iast rfl e11x rfl rfl ?_
  intro h12x e13x f14x l15x
  have e13x : zat h12x 192 = some (.inl (0, 252, (zset 0 ke 0 (nw.getD 0 0)))) := e13x
  refine wq_gos (f := 1) (pc2 := 26) (ls2 := [(2, .int 0), (0, .ref 162), (1, .int 0)]) (st2 := [.ref 162]) (h2 := h12x) (dc2 := 0) (ds2 := 0) 1 rfl ?_
  have e16x := (f14x.2 _ _ (wnc (by decide) wn0) e2x)
  refine wq_getf rfl e16x (hC7x.2 (26, 192) (by decide)) rfl ?_
  refine wq_gos (f := 1) (pc2 := 39) (ls2 := [(2, .int 0), (0, .ref 162), (1, .int 0)]) (st2 := [.ref 162, .int 6, .ref 192]) (h2 := h12x) (dc2 := 0) (ds2 := 0) 8 rfl ?_
  refine wq_getf rfl e16x (hC7x.2 (25, 190) (by decide)) rfl ?_
  refine wq_gos (f := 1) (pc2 := 43) (ls2 := [(2, .int 0), (0, .ref 162), (1, .int 0)]) (st2 := [.int 0, .ref 190, .int 6, .ref 192]) (h2 := h12x) (dc2 := 0) (ds2 := 0) 1 rfl ?_
  have e17x := (f14x.2 _ _ (wnc (by decide) wn0) (f3x.2 _ _ (wnc (by decide) wn0) hAi))
  refine wq_ialdk (k := 0) rfl e17x rfl rfl rfl ?_
  refine wq_iast rfl e13x rfl rfl ?_
  intro h18x e19x f20x l21x
  have e19x : zat h18x 192 = some (.inl (0, 252, (zset 0 (zset 0 ke 0 (nw.getD 0 0)) 6 (ai.getD 0 0)))) := e19x
  refine wq_gos (f := 1) (pc2 := 9) (ls2 := [(2, .int 1), (0, .ref 162), (1, .int 0)]) (st2 := [.ref 162]) (h2 := h18x) (dc2 := 0) (ds2 := 0) 6 rfl ?_
  have e22x := (f20x.2 _ _ (wnc (by decide) wn0) e16x)
  refine wq_getf rfl e22x (hC7x.2 (26, 192) (by decide)) rfl ?_
  refine wq_gos (f := 1) (pc2 := 19) (ls2 := [(2, .int 1), (0, .ref 162), (1, .int 0)]) (st2 := [.ref 162, .int 1, .ref 192]) (h2 := h18x) (dc2 := 0) (ds2 := 0) 6 rfl ?_
  refine wq_getf rfl e22x (hC7x.2 (24, 188) (by decide)) rfl ?_
  refine wq_gos (f := 1) (pc2 := 23) (ls2 := [(2, .int 1), (0, .ref 162), (1, .int 0)]) (st2 := [.int 1, .ref 188, .int 1, .ref 192]) (h2 := h18x) (dc2 := 0) (ds2 := 0) 1 rfl ?_
  have e23x := (f20x.2 _ _ (wnc (by decide) wn0) (f14x.2 _ _ (wnc (by decide) wn0) e10x))
  refine wq_ialdk (k := 1) rfl e23x rfl rfl rfl ?_
  refine wq_iast rfl e19x rfl rfl ?_
  intro h24x e25x f26x l27x
  have e25x : zat h24x 192 = some (.inl (0, 252, (zset 0 (zset 0 (zset 0 ke 0 (nw.getD 0 0)) 6 (ai.getD 0 0)) 1 (nw.getD 1 0)))) := e25x
  refine wq_gos (f := 1) (pc2 := 26) (ls2 := [(2, .int 1), (0, .ref 162), (1, .int 0)]) (st2 := [.ref 162]) (h2 := h24x) (dc2 := 0) (ds2 := 0) 1 rfl ?_
  have e28x := (f26x.2 _ _ (wnc (by decide) wn0) e22x)
  refine wq_getf rfl e28x (hC7x.2 (26, 192) (by decide)) rfl ?_
  refine wq_gos (f := 1) (pc2 := 39) (ls2 := [(2, .int 1), (0, .ref 162), (1, .int 0)]) (st2 := [.ref 162, .int 7, .ref 192]) (h2 := h24x) (dc2 := 0) (ds2 := 0) 8 rfl ?_
  refine wq_getf rfl e28x (hC7x.2 (25, 190) (by decide)) rfl ?_
  refine wq_gos (f := 1) (pc2 := 43) (ls2 := [(2, .int 1), (0, .ref 162), (1, .int 0)]) (st2 := [.int 1, .ref 190, .int 7, .ref 192]) (h2 := h24x) (dc2 := 0) (ds2 := 0) 1 rfl ?_
  have e29x := (f26x.2 _ _ (wnc (by decide) wn0) (f20x.2 _ _ (wnc (by decide) wn0) e17x))
  refine wq_ialdk (k := 1) rfl e29x rfl rfl rfl ?_
  refine wq_iast rfl e25x rfl rfl ?_
  intro h30x e31x f32x l33x
  have e31x : zat h30x 192 = some (.inl (0, 252, (zset 0 (zset 0 (zset 0 (zset 0 ke 0 (nw.getD 0 0)) 6 (ai.getD 0 0)) 1 (nw.getD 1 0)) 7 (ai.getD 1 0)))) := e31x
  refine wq_gos (f := 1) (pc2 := 9) (ls2 := [(2, .int 2), (0, .ref 162), (1, .int 0)]) (st2 := [.ref 162]) (h2 := h30x) (dc2 := 0) (ds2 := 0) 6 rfl ?_
  have e34x := (f32x.2 _ _ (wnc (by decide) wn0) e28x)
  refine wq_getf rfl e34x (hC7x.2 (26, 192) (by decide)) rfl ?_
  refine wq_gos (f := 1) (pc2 := 19) (ls2 := [(2, .int 2), (0, .ref 162), (1, .int 0)]) (st2 := [.ref 162, .int 2, .ref 192]) (h2 := h30x) (dc2 := 0) (ds2 := 0) 6 rfl ?_
  refine wq_getf rfl e34x (hC7x.2 (24, 188) (by decide)) rfl ?_
  refine wq_gos (f := 1) (pc2 := 23) (ls2 := [(2, .int 2), (0, .ref 162), (1, .int 0)]) (st2 := [.int 2, .ref 188, .int 2, .ref 192]) (h2 := h30x) (dc2 := 0) (ds2 := 0) 1 rfl ?_
  have e35x := (f32x.2 _ _ (wnc (by decide) wn0) (f26x.2 _ _ (wnc (by decide) wn0) e23x))
  refine wq_ialdk (k := 2) rfl e35x rfl rfl rfl ?_
  refine wq_iast rfl e31x rfl rfl ?_
  intro h36x e37x f38x l39x
  have e37x : zat h36x 192 = some (.inl (0, 252, (zset 0 (zset 0 (zset 0 (zset 0 (zset 0 ke 0 (nw.getD 0 0)) 6 (ai.getD 0 0)) 1 (nw.getD 1 0)) 7 (ai.getD 1 0)) 2 (nw.getD 2 0)))) := e37x
  refine wq_gos (f := 1) (pc2 := 26) (ls2 := [(2, .int 2), (0, .ref 162), (1, .int 0)]) (st2 := [.ref 162]) (h2 := h36x) (dc2 := 0) (ds2 := 0) 1 rfl ?_
  have e40x := (f38x.2 _ _ (wnc (by decide) wn0) e34x)
  refine wq_getf rfl e40x (hC7x.2 (26, 192) (by decide)) rfl ?_
  refine wq_gos (f := 1) (pc2 := 39) (ls2 := [(2, .int 2), (0, .ref 162), (1, .int 0)]) (st2 := [.ref 162, .int 8, .ref 192]) (h2 := h36x) (dc2 := 0) (ds2 := 0) 8 rfl ?_
  refine wq_getf rfl e40x (hC7x.2 (25, 190) (by decide)) rfl ?_
  refine wq_gos (f := 1) (pc2 := 43) (ls2 := [(2, .int 2), (0, .ref 162), (1, .int 0)]) (st2 := [.int 2, .ref 190, .int 8, .ref 192]) (h2 := h36x) (dc2 := 0) (ds2 := 0) 1 rfl ?_
  have e41x := (f38x.2 _ _ (wnc (by decide) wn0) (f32x.2 _ _ (wnc (by decide) wn0) e29x))
  refine wq_ialdk (k := 2) rfl e41x rfl rfl rfl ?_
  refine wq_iast rfl e37x rfl rfl ?_
  intro h42x e43x f44x l45x
  have e43x : zat h42x 192 = some (.inl (0, 252, (zset 0 (zset 0 (zset 0 (zset 0 (zset 0 (zset 0 ke 0 (nw.getD 0 0)) 6 (ai.getD 0 0)) 1 (nw.getD 1 0)) 7 (ai.getD 1 0)) 2 (nw.getD 2 0)) 8 (ai.getD 2 0)))) := e43x
  refine wq_gos (f := 1) (pc2 := 9) (ls2 := [(2, .int 3), (0, .ref 162), (1, .int 0)]) (st2 := [.ref 162]) (h2 := h42x) (dc2 := 0) (ds2 := 0) 6 rfl ?_
  have e46x := (f44x.2 _ _ (wnc (by decide) wn0) e40x)
  refine wq_getf rfl e46x (hC7x.2 (26, 192) (by decide)) rfl ?_
  refine wq_gos (f := 1) (pc2 := 19) (ls2 := [(2, .int 3), (0, .ref 162), (1, .int 0)]) (st2 := [.ref 162, .int 3, .ref 192]) (h2 := h42x) (dc2 := 0) (ds2 := 0) 6 rfl ?_
  refine wq_getf rfl e46x (hC7x.2 (24, 188) (by decide)) rfl ?_
  refine wq_gos (f := 1) (pc2 := 23) (ls2 := [(2, .int 3), (0, .ref 162), (1, .int 0)]) (st2 := [.int 3, .ref 188, .int 3, .ref 192]) (h2 := h42x) (dc2 := 0) (ds2 := 0) 1 rfl ?_
  have e47x := (f44x.2 _ _ (wnc (by decide) wn0) (f38x.2 _ _ (wnc (by decide) wn0) e35x))
  refine wq_ialdk (k := 3) rfl e47x rfl rfl rfl ?_
  refine wq_iast rfl e43x rfl rfl ?_
  intro h48x e49x f50x l51x
  have e49x : zat h48x 192 = some (.inl (0, 252, (zset 0 (zset 0 (zset 0 (zset 0 (zset 0 (zset 0 (zset 0 ke 0 (nw.getD 0 0)) 6 (ai.getD 0 0)) 1 (nw.getD 1 0)) 7 (ai.getD 1 0)) 2 (nw.getD 2 0)) 8 (ai.getD 2 0)) 3 (nw.getD 3 0)))) := e49x
  refine wq_gos (f := 1) (pc2 := 26) (ls2 := [(2, .int 3), (0, .ref 162), (1, .int 0)]) (st2 := [.ref 162]) (h2 := h48x) (dc2 := 0) (ds2 := 0) 1 rfl ?_
  have e52x := (f50x.2 _ _ (wnc (by decide) wn0) e46x)
  refine wq_getf rfl e52x (hC7x.2 (26, 192) (by decide)) rfl ?_
  refine wq_gos (f := 1) (pc2 := 39) (ls2 := [(2, .int 3), (0, .ref 162), (1, .int 0)]) (st2 := [.ref 162, .int 9, .ref 192]) (h2 := h48x) (dc2 := 0) (ds2 := 0) 8 rfl ?_
  refine wq_getf rfl e52x (hC7x.2 (25, 190) (by decide)) rfl ?_
  refine wq_gos (f := 1) (pc2 := 43) (ls2 := [(2, .int 3), (0, .ref 162), (1, .int 0)]) (st2 := [.int 3, .ref 190, .int 9, .ref 192]) (h2 := h48x) (dc2 := 0) (ds2 := 0) 1 rfl ?_
  have e53x := (f50x.2 _ _ (wnc (by decide) wn0) (f44x.2 _ _ (wnc (by decide) wn0) e41x))
  refine wq_ialdk (k := 3) rfl e53x rfl rfl rfl ?_
  refine wq_iast rfl e49x rfl rfl ?_
  intro h54x e55x f56x l57x
  have e55x : zat h54x 192 = some (.inl (0, 252, (zset 0 (zset 0 (zset 0 (zset 0 (zset 0 (zset 0 (zset 0 (zset 0 ke 0 (nw.getD 0 0)) 6 (ai.getD 0 0)) 1 (nw.getD 1 0)) 7 (ai.getD 1 0)) 2 (nw.getD 2 0)) 8 (ai.getD 2 0)) 3 (nw.getD 3 0)) 9 (ai.getD 3 0)))) := e55x
  refine wq_gos (f := 1) (pc2 := 9) (ls2 := [(2, .int 4), (0, .ref 162), (1, .int 0)]) (st2 := [.ref 162]) (h2 := h54x) (dc2 := 0) (ds2 := 0) 6 rfl ?_
  have e58x := (f56x.2 _ _ (wnc (by decide) wn0) e52x)
  refine wq_getf rfl e58x (hC7x.2 (26, 192) (by decide)) rfl ?_
  refine wq_gos (f := 1) (pc2 := 19) (ls2 := [(2, .int 4), (0, .ref 162), (1, .int 0)]) (st2 := [.ref 162, .int 4, .ref 192]) (h2 := h54x) (dc2 := 0) (ds2 := 0) 6 rfl ?_
  refine wq_getf rfl e58x (hC7x.2 (24, 188) (by decide)) rfl ?_
  refine wq_gos (f := 1) (pc2 := 23) (ls2 := [(2, .int 4), (0, .ref 162), (1, .int 0)]) (st2 := [.int 4, .ref 188, .int 4, .ref 192]) (h2 := h54x) (dc2 := 0) (ds2 := 0) 1 rfl ?_
  have e59x := (f56x.2 _ _ (wnc (by decide) wn0) (f50x.2 _ _ (wnc (by decide) wn0) e47x))
  refine wq_ialdk (k := 4) rfl e59x rfl rfl rfl ?_
  refine wq_iast rfl e55x rfl rfl ?_
  intro h60x e61x f62x l63x
  have e61x : zat h60x 192 = some (.inl (0, 252, (zset 0 (zset 0 (zset 0 (zset 0 (zset 0 (zset 0 (zset 0 (zset 0 (zset 0 ke 0 (nw.getD 0 0)) 6 (ai.getD 0 0)) 1 (nw.getD 1 0)) 7 (ai.getD 1 0)) 2 (nw.getD 2 0)) 8 (ai.getD 2 0)) 3 (nw.getD 3 0)) 9 (ai.getD 3 0)) 4 (nw.getD 4 0)))) := e61x
  refine wq_gos (f := 1) (pc2 := 26) (ls2 := [(2, .int 4), (0, .ref 162), (1, .int 0)]) (st2 := [.ref 162]) (h2 := h60x) (dc2 := 0) (ds2 := 0) 1 rfl ?_
  have e64x := (f62x.2 _ _ (wnc (by decide) wn0) e58x)
  refine wq_getf rfl e64x (hC7x.2 (26, 192) (by decide)) rfl ?_
  refine wq_gos (f := 1) (pc2 := 39) (ls2 := [(2, .int 4), (0, .ref 162), (1, .int 0)]) (st2 := [.ref 162, .int 10, .ref 192]) (h2 := h60x) (dc2 := 0) (ds2 := 0) 8 rfl ?_
  refine wq_getf rfl e64x (hC7x.2 (25, 190) (by decide)) rfl ?_
  refine wq_gos (f := 1) (pc2 := 43) (ls2 := [(2, .int 4), (0, .ref 162), (1, .int 0)]) (st2 := [.int 4, .ref 190, .int 10, .ref 192]) (h2 := h60x) (dc2 := 0) (ds2 := 0) 1 rfl ?_
  have e65x := (f62x.2 _ _ (wnc (by decide) wn0) (f56x.2 _ _ (wnc (by decide) wn0) e53x))
  refine wq_ialdk (k := 4) rfl e65x rfl rfl rfl ?_
  refine wq_iast rfl e61x rfl rfl ?_
  intro h66x e67x f68x l69x
  have e67x : zat h66x 192 = some (.inl (0, 252, (zset 0 (zset 0 (zset 0 (zset 0 (zset 0 (zset 0 (zset 0 (zset 0 (zset 0 (zset 0 ke 0 (nw.getD 0 0)) 6 (ai.getD 0 0)) 1 (nw.getD 1 0)) 7 (ai.getD 1 0)) 2 (nw.getD 2 0)) 8 (ai.getD 2 0)) 3 (nw.getD 3 0)) 9 (ai.getD 3 0)) 4 (nw.getD 4 0)) 10 (ai.getD 4 0)))) := e67x
  refine wq_gos (f := 1) (pc2 := 9) (ls2 := [(2, .int 5), (0, .ref 162), (1, .int 0)]) (st2 := [.ref 162]) (h2 := h66x) (dc2 := 0) (ds2 := 0) 6 rfl ?_
  have e70x := (f68x.2 _ _ (wnc (by decide) wn0) e64x)
  refine wq_getf rfl e70x (hC7x.2 (26, 192) (by decide)) rfl ?_
  refine wq_gos (f := 1) (pc2 := 19) (ls2 := [(2, .int 5), (0, .ref 162), (1, .int 0)]) (st2 := [.ref 162, .int 5, .ref 192]) (h2 := h66x) (dc2 := 0) (ds2 := 0) 6 rfl ?_
  refine wq_getf rfl e70x (hC7x.2 (24, 188) (by decide)) rfl ?_
  refine wq_gos (f := 1) (pc2 := 23) (ls2 := [(2, .int 5), (0, .ref 162), (1, .int 0)]) (st2 := [.int 5, .ref 188, .int 5, .ref 192]) (h2 := h66x) (dc2 := 0) (ds2 := 0) 1 rfl ?_
  have e71x := (f68x.2 _ _ (wnc (by decide) wn0) (f62x.2 _ _ (wnc (by decide) wn0) e59x))
  refine wq_ialdk (k := 5) rfl e71x rfl rfl rfl ?_
  refine wq_iast rfl e67x rfl rfl ?_
  intro h72x e73x f74x l75x
  have e73x : zat h72x 192 = some (.inl (0, 252, (zset 0 (zset 0 (zset 0 (zset 0 (zset 0 (zset 0 (zset 0 (zset 0 (zset 0 (zset 0 (zset 0 ke 0 (nw.getD 0 0)) 6 (ai.getD 0 0)) 1 (nw.getD 1 0)) 7 (ai.getD 1 0)) 2 (nw.getD 2 0)) 8 (ai.getD 2 0)) 3 (nw.getD 3 0)) 9 (ai.getD 3 0)) 4 (nw.getD 4 0)) 10 (ai.getD 4 0)) 5 (nw.getD 5 0)))) := e73x
  refine wq_gos (f := 1) (pc2 := 26) (ls2 := [(2, .int 5), (0, .ref 162), (1, .int 0)]) (st2 := [.ref 162]) (h2 := h72x) (dc2 := 0) (ds2 := 0) 1 rfl ?_
  have e76x := (f74x.2 _ _ (wnc (by decide) wn0) e70x)
  refine wq_getf rfl e76x (hC7x.2 (26, 192) (by decide)) rfl ?_
  refine wq_gos (f := 1) (pc2 := 39) (ls2 := [(2, .int 5), (0, .ref 162), (1, .int 0)]) (st2 := [.ref 162, .int 11, .ref 192]) (h2 := h72x) (dc2 := 0) (ds2 := 0) 8 rfl ?_
  refine wq_getf rfl e76x (hC7x.2 (25, 190) (by decide)) rfl ?_
  refine wq_gos (f := 1) (pc2 := 43) (ls2 := [(2, .int 5), (0, .ref 162), (1, .int 0)]) (st2 := [.int 5, .ref 190, .int 11, .ref 192]) (h2 := h72x) (dc2 := 0) (ds2 := 0) 1 rfl ?_
  have e77x := (f74x.2 _ _ (wnc (by decide) wn0) (f68x.2 _ _ (wnc (by decide) wn0) e65x))
  refine wq_ialdk (k := 5) rfl e77x rfl rfl rfl ?_
  refine wq_iast rfl e73x rfl rfl ?_
  intro h78x e79x f80x l81x
  have e79x : zat h78x 192 = some (.inl (0, 252, (zset 0 (zset 0 (zset 0 (zset 0 (zset 0 (zset 0 (zset 0 (zset 0 (zset 0 (zset 0 (zset 0 (zset 0 ke 0 (nw.getD 0 0)) 6 (ai.getD 0 0)) 1 (nw.getD 1 0)) 7 (ai.getD 1 0)) 2 (nw.getD 2 0)) 8 (ai.getD 2 0)) 3 (nw.getD 3 0)) 9 (ai.getD 3 0)) 4 (nw.getD 4 0)) 10 (ai.getD 4 0)) 5 (nw.getD 5 0)) 11 (ai.getD 5 0)))) := e79x
  refine wq_gos (f := 1) (pc2 := 51) (ls2 := [(2, .int 6), (0, .ref 162), (1, .int 0)]) (st2 := []) (h2 := h78x) (dc2 := 0) (ds2 := 0) 5 rfl ?_
  refine wq_ret rfl rfl ?_
  show wq 191 57 [(0, .ref 162)] [] h78x 0 0 _
  refine wq_gos (f := 1) (pc2 := 59) (ls2 := [(0, .ref 162)]) (st2 := [.ref 162, .ref 162]) (h2 := h78x) (dc2 := 0) (ds2 := 0) 2 rfl ?_
  have e82x := (f80x.2 _ _ (wnc (by decide) wn0) e76x)
  refine wq_getf rfl e82x p8x rfl ?_
  refine wq_gos (f := 1) (pc2 := 64) (ls2 := [(0, .ref 162)]) (st2 := [.int 1, .ref 162]) (h2 := h78x) (dc2 := 0) (ds2 := 0) 2 rfl ?_
  refine wq_putf rfl e82x rfl (by rw [hC7x.1]; rfl) rfl ?_
  intro h83x e84x f85x l86x
  obtain ⟨fs87x, hf88x⟩ : ∃ x, x = fs5x.set 27 (.int 1) := ⟨_, rfl⟩
  rw [← hf88x] at e84x
  have hC89x : mC fs87x := by rw [hf88x]; exact mC_set hC7x (by decide) _
  have p90x : fs87x[0]? = some (.int 0) := by rw [hf88x, List.getElem?_set_ne (by decide)]; exact p9x
  have p91x : fs87x[27]? = some (.int 1) := by rw [hf88x]; exact List.getElem?_set_self (by rw [hC7x.1]; decide)
  refine wq_ret rfl rfl ?_
  show wq 218 58 [(4, .long 63), (0, .ref 162), (1, .int 3), (2, .long v)] [] h83x 0 0 _
  refine wq_gos (f := 1) (pc2 := 59) (ls2 := [(4, .long 63), (0, .ref 162), (1, .int 3), (2, .long v)]) (st2 := [.ref 162]) (h2 := h83x) (dc2 := 0) (ds2 := 0) 1 rfl ?_
  refine wq_getf rfl e84x (hC89x.2 (25, 190) (by decide)) rfl ?_
  refine wq_gos (f := 1) (pc2 := 65) (ls2 := [(4, .long 63), (0, .ref 162), (1, .int 3), (2, .long v)]) (st2 := [.int (v).toInt32, .int 3, .ref 190]) (h2 := h83x) (dc2 := 0) (ds2 := 0) 3 rfl ?_
  have e92x := (f85x.2 _ _ (wnc (by decide) wn0) (f80x.2 _ _ (wnc (by decide) wn0) e77x))
  refine wq_iast rfl e92x rfl rfl ?_
  intro h93x e94x f95x l96x
  have e94x : zat h93x 190 = some (.inl (0, 6, (zset 0 ai 3 (v).toInt32))) := e94x
  refine wq_gos (f := 1) (pc2 := 68) (ls2 := [(4, .long 63), (0, .ref 162), (1, .int 3), (2, .long v)]) (st2 := [.int 0, .ref 162]) (h2 := h93x) (dc2 := 0) (ds2 := 0) 2 rfl ?_
  have e97x := (f95x.2 _ _ (wnc (by decide) wn0) e84x)
  refine wq_putf rfl e97x rfl (by rw [hC89x.1]; rfl) rfl ?_
  intro h98x e99x f100x l101x
  obtain ⟨fs102x, hf103x⟩ : ∃ x, x = fs87x.set 33 (.int 0) := ⟨_, rfl⟩
  rw [← hf103x] at e99x
  have hC104x : mC fs102x := by rw [hf103x]; exact mC_set hC89x (by decide) _
  have p105x : fs102x[0]? = some (.int 0) := by rw [hf103x, List.getElem?_set_ne (by decide)]; exact p90x
  have p106x : fs102x[27]? = some (.int 1) := by rw [hf103x, List.getElem?_set_ne (by decide)]; exact p91x
  have p107x : fs102x[33]? = some (.int 0) := by rw [hf103x]; exact List.getElem?_set_self (by rw [hC89x.1]; decide)
  refine wq_gos (f := 1) (pc2 := 72) (ls2 := [(4, .long 63), (0, .ref 162), (1, .int 3), (2, .long v)]) (st2 := [.int 1]) (h2 := h98x) (dc2 := 0) (ds2 := 0) 1 rfl ?_
  exact wq_ret rfl rfl ⟨h98x, rfl⟩
theorem c_aimA3 {h : zH} {v : Int64} (h1 : v.toInt < 0) : zT zg0 zF zP 112 0 [(0, .ref 0), (1, .int 3), (2, .long v)] [] h 0 0 (some (.int 0), h, 0, 0) := by
  have el : ((0 : Int64)).toInt = 0 := rfl
  have eh : ((63 : Int64)).toInt = 63 := rfl
  apply wq_toT
  refine wq_gos (f := 1) (pc2 := 45) (ls2 := [(6, .long 63), (4, .long 0), (0, .ref 0), (1, .int 3), (2, .long v)]) (st2 := [.int (lg_cmp v (0 : Int64))]) (h2 := h) (dc2 := 0) (ds2 := 0) 18 rfl ?_
  refine wq_lt0t rfl (lgc_lt (by omega)) ?_
  refine wq_gos (f := 1) (pc2 := 56) (ls2 := [(6, .long 63), (4, .long 0), (0, .ref 0), (1, .int 3), (2, .long v)]) (st2 := [.int 0]) (h2 := h) (dc2 := 0) (ds2 := 0) 1 rfl ?_
  exact wq_ret rfl rfl rfl
theorem m_aimA3 {h : zH} {fs : List Value} (hM : zat h 162 = some (.inr (.inr (.inr (10, fs))))) (hC : mC fs) {v : Int64} (h1 : v.toInt < 0) : wq 218 0 [(0, .ref 162), (1, .int 3), (2, .long v)] [] h 0 0 (fun r => ∃ h2, r = (some (.int 0), h2, 0, 0)) := by
  have el : ((0 : Int64)).toInt = 0 := rfl
  have eh : ((63 : Int64)).toInt = 63 := rfl
  refine wq_gos (f := 1) (pc2 := 2) (ls2 := [(0, .ref 162), (1, .int 3), (2, .long v)]) (st2 := [.int 0, .ref 162]) (h2 := h) (dc2 := 0) (ds2 := 0) 2 rfl ?_
  refine wq_putf rfl hM rfl (by rw [hC.1]; rfl) rfl ?_
  intro h1x e2x f3x l4x
  obtain ⟨fs5x, hf6x⟩ : ∃ x, x = fs.set 0 (.int 0) := ⟨_, rfl⟩
  rw [← hf6x] at e2x
  have hC7x : mC fs5x := by rw [hf6x]; exact mC_set hC (by decide) _
  have p8x : fs5x[0]? = some (.int 0) := by rw [hf6x]; exact List.getElem?_set_self (by rw [hC.1]; decide)
  refine wq_gos (f := 1) (pc2 := 22) (ls2 := [(4, .long 63), (0, .ref 162), (1, .int 3), (2, .long v)]) (st2 := [.int 3]) (h2 := h1x) (dc2 := 0) (ds2 := 0) 6 rfl ?_
  refine wq_inl (y2 := 208) (as := [.int 3]) rfl rfl rfl ?_
  show wq 208 0 [(0, .int 3)] [] h1x 0 0 _
  refine wq_gos (f := 1) (pc2 := 15) (ls2 := [(0, .int 3)]) (st2 := [.int 1]) (h2 := h1x) (dc2 := 0) (ds2 := 0) 7 rfl ?_
  refine wq_ret rfl rfl ?_
  show wq 218 25 [(4, .long 63), (0, .ref 162), (1, .int 3), (2, .long v)] [.int 1] h1x 0 0 _
  refine wq_gos (f := 1) (pc2 := 32) (ls2 := [(4, .long 63), (0, .ref 162), (1, .int 3), (2, .long v)]) (st2 := [.int (lg_cmp v (63 : Int64))]) (h2 := h1x) (dc2 := 0) (ds2 := 0) 4 rfl ?_
  refine wq_gt0f rfl rfl (lgc_le (by omega)) ?_
  refine wq_gos (f := 1) (pc2 := 49) (ls2 := [(4, .long 63), (0, .ref 162), (1, .int 3), (2, .long v)]) (st2 := [.int (lg_cmp v (0 : Int64))]) (h2 := h1x) (dc2 := 0) (ds2 := 0) 6 rfl ?_
  refine wq_ge0f rfl rfl (lgc_lt (by omega)) ?_
  refine wq_gos (f := 1) (pc2 := 53) (ls2 := [(4, .long 63), (0, .ref 162), (1, .int 3), (2, .long v)]) (st2 := [.int 0]) (h2 := h1x) (dc2 := 0) (ds2 := 0) 1 rfl ?_
  exact wq_ret rfl rfl ⟨h1x, rfl⟩
theorem c_aimB3 {h : zH} {v : Int64} (h2 : 63 < v.toInt) : zT zg0 zF zP 112 0 [(0, .ref 0), (1, .int 3), (2, .long v)] [] h 0 0 (some (.int 0), h, 0, 0) := by
  have el : ((0 : Int64)).toInt = 0 := rfl
  have eh : ((63 : Int64)).toInt = 63 := rfl
  apply wq_toT
  refine wq_gos (f := 1) (pc2 := 45) (ls2 := [(6, .long 63), (4, .long 0), (0, .ref 0), (1, .int 3), (2, .long v)]) (st2 := [.int (lg_cmp v (0 : Int64))]) (h2 := h) (dc2 := 0) (ds2 := 0) 18 rfl ?_
  refine wq_lt0f rfl rfl (lgc_ge (by omega)) ?_
  refine wq_gos (f := 1) (pc2 := 52) (ls2 := [(6, .long 63), (4, .long 0), (0, .ref 0), (1, .int 3), (2, .long v)]) (st2 := [.int (lg_cmp v (63 : Int64))]) (h2 := h) (dc2 := 0) (ds2 := 0) 3 rfl ?_
  refine wq_le0f rfl rfl (lgc_gt (by omega)) ?_
  refine wq_gos (f := 1) (pc2 := 56) (ls2 := [(6, .long 63), (4, .long 0), (0, .ref 0), (1, .int 3), (2, .long v)]) (st2 := [.int 0]) (h2 := h) (dc2 := 0) (ds2 := 0) 1 rfl ?_
  exact wq_ret rfl rfl rfl
theorem m_aimB3 {h : zH} {fs : List Value} (hM : zat h 162 = some (.inr (.inr (.inr (10, fs))))) (hC : mC fs) {v : Int64} (h2 : 63 < v.toInt) : wq 218 0 [(0, .ref 162), (1, .int 3), (2, .long v)] [] h 0 0 (fun r => ∃ h2, r = (some (.int 0), h2, 0, 0)) := by
  have el : ((0 : Int64)).toInt = 0 := rfl
  have eh : ((63 : Int64)).toInt = 63 := rfl
  refine wq_gos (f := 1) (pc2 := 2) (ls2 := [(0, .ref 162), (1, .int 3), (2, .long v)]) (st2 := [.int 0, .ref 162]) (h2 := h) (dc2 := 0) (ds2 := 0) 2 rfl ?_
  refine wq_putf rfl hM rfl (by rw [hC.1]; rfl) rfl ?_
  intro h1x e2x f3x l4x
  obtain ⟨fs5x, hf6x⟩ : ∃ x, x = fs.set 0 (.int 0) := ⟨_, rfl⟩
  rw [← hf6x] at e2x
  have hC7x : mC fs5x := by rw [hf6x]; exact mC_set hC (by decide) _
  have p8x : fs5x[0]? = some (.int 0) := by rw [hf6x]; exact List.getElem?_set_self (by rw [hC.1]; decide)
  refine wq_gos (f := 1) (pc2 := 22) (ls2 := [(4, .long 63), (0, .ref 162), (1, .int 3), (2, .long v)]) (st2 := [.int 3]) (h2 := h1x) (dc2 := 0) (ds2 := 0) 6 rfl ?_
  refine wq_inl (y2 := 208) (as := [.int 3]) rfl rfl rfl ?_
  show wq 208 0 [(0, .int 3)] [] h1x 0 0 _
  refine wq_gos (f := 1) (pc2 := 15) (ls2 := [(0, .int 3)]) (st2 := [.int 1]) (h2 := h1x) (dc2 := 0) (ds2 := 0) 7 rfl ?_
  refine wq_ret rfl rfl ?_
  show wq 218 25 [(4, .long 63), (0, .ref 162), (1, .int 3), (2, .long v)] [.int 1] h1x 0 0 _
  refine wq_gos (f := 1) (pc2 := 32) (ls2 := [(4, .long 63), (0, .ref 162), (1, .int 3), (2, .long v)]) (st2 := [.int (lg_cmp v (63 : Int64))]) (h2 := h1x) (dc2 := 0) (ds2 := 0) 4 rfl ?_
  refine wq_gt0t rfl (lgc_gt (by omega)) ?_
  refine wq_gos (f := 1) (pc2 := 53) (ls2 := [(4, .long 63), (0, .ref 162), (1, .int 3), (2, .long v)]) (st2 := [.int 0]) (h2 := h1x) (dc2 := 0) (ds2 := 0) 1 rfl ?_
  exact wq_ret rfl rfl ⟨h1x, rfl⟩
set_option maxHeartbeats 4000000 in
theorem c_aimG4 {h : zH} {ra : Nat} {rd : Nat} {ta im : Int32} {ps ip : Int64} {pp : List Int64} {pa am : List Int32} (hX : zat h 0 = some (.inr (.inr (.inr (9, [.ref 2, .int ta, .ref 4, .ref ra, .ref rd, .long ps, .ref 34, .ref 36, .int im, .long ip, .ref 42, .ref 44, .ref 60, .ref 66, .ref 72, .ref 74, .ref 150, .ref 158]))))) (hP : zat h 36 = some (.inr (.inr (.inr (2, [.int 0, .int 0, .ref 38, .ref 40]))))) (hPp : zat h 38 = some (.inr (.inl (20, pp)))) (hPa : zat h 40 = some (.inl (0, 120, pa))) (hAm : zat h 34 = some (.inl (0, 6, am))) {v : Int64} (h1 : 0 ≤ v.toInt) (h2 : v.toInt ≤ 63) : wq 112 0 [(0, .ref 0), (1, .int 4), (2, .long v)] [] h 0 0 (fun r => ∃ h2, r = (some (.int 1), h2, 0, 0) ∧ wFr [0, 36, 38, 40, 34] h h2) := by
  have el : ((0 : Int64)).toInt = 0 := rfl
  have eh : ((63 : Int64)).toInt = 63 := rfl
  refine wq_gos (f := 1) (pc2 := 45) (ls2 := [(6, .long 63), (4, .long 0), (0, .ref 0), (1, .int 4), (2, .long v)]) (st2 := [.int (lg_cmp v (0 : Int64))]) (h2 := h) (dc2 := 0) (ds2 := 0) 18 rfl ?_
  refine wq_lt0f rfl rfl (lgc_ge (by omega)) ?_
  refine wq_gos (f := 1) (pc2 := 52) (ls2 := [(6, .long 63), (4, .long 0), (0, .ref 0), (1, .int 4), (2, .long v)]) (st2 := [.int (lg_cmp v (63 : Int64))]) (h2 := h) (dc2 := 0) (ds2 := 0) 3 rfl ?_
  refine wq_le0t rfl (lgc_le (by omega)) ?_
  refine wq_gos (f := 1) (pc2 := 58) (ls2 := [(6, .long 63), (4, .long 0), (0, .ref 0), (1, .int 4), (2, .long v)]) (st2 := [.ref 0]) (h2 := h) (dc2 := 0) (ds2 := 0) 1 rfl ?_
  refine wq_getf rfl hX rfl rfl ?_
  refine wq_gos (f := 1) (pc2 := 62) (ls2 := [(6, .long 63), (4, .long 0), (0, .ref 0), (1, .int 4), (2, .long v)]) (st2 := [.ref 0, .ref 36]) (h2 := h) (dc2 := 0) (ds2 := 0) 1 rfl ?_
  refine wq_getf rfl hX rfl rfl ?_
  refine wq_gos (f := 1) (pc2 := 66) (ls2 := [(6, .long 63), (4, .long 0), (0, .ref 0), (1, .int 4), (2, .long v)]) (st2 := [.ref 0, .long ps, .ref 36]) (h2 := h) (dc2 := 0) (ds2 := 0) 1 rfl ?_
  refine wq_getf rfl hX rfl rfl ?_
  refine wq_inlv (y2 := 23) (as := [.long ps, .ref 34]) rfl rfl rfl hP rfl ?_
  show wq 23 0 [(0, .ref 36), (1, .long ps), (3, .ref 34)] [] h 0 0 _
  refine wq_gos (f := 1) (pc2 := 1) (ls2 := [(0, .ref 36), (1, .long ps), (3, .ref 34)]) (st2 := [.ref 36]) (h2 := h) (dc2 := 0) (ds2 := 0) 1 rfl ?_
  refine wq_getf rfl hP rfl rfl ?_
  refine wq_gos (f := 1) (pc2 := 5) (ls2 := [(0, .ref 36), (1, .long ps), (3, .ref 34)]) (st2 := [.ref 36, .ref 38]) (h2 := h) (dc2 := 0) (ds2 := 0) 1 rfl ?_
  refine wq_getf rfl hP rfl rfl ?_
  refine wq_gos (f := 1) (pc2 := 9) (ls2 := [(0, .ref 36), (1, .long ps), (3, .ref 34)]) (st2 := [.long ps, .int 0, .ref 38]) (h2 := h) (dc2 := 0) (ds2 := 0) 1 rfl ?_
  refine wq_last rfl hPp rfl rfl ?_
  intro h1x e2x f3x l4x
  have e2x : zat h1x 38 = some (.inr (.inl (20, (zset 0 pp 0 ps)))) := e2x
  refine wq_gos (f := 1) (pc2 := 13) (ls2 := [(0, .ref 36), (1, .long ps), (3, .ref 34)]) (st2 := [.ref 36, .int 0, .ref 34]) (h2 := h1x) (dc2 := 0) (ds2 := 0) 3 rfl ?_
  have e5x := (f3x.2 _ _ (wnc (by decide) wn0) hP)
  refine wq_getf rfl e5x rfl rfl ?_
  refine wq_gos (f := 1) (pc2 := 17) (ls2 := [(0, .ref 36), (1, .long ps), (3, .ref 34)]) (st2 := [.ref 36, .ref 40, .int 0, .ref 34]) (h2 := h1x) (dc2 := 0) (ds2 := 0) 1 rfl ?_
  refine wq_getf rfl e5x rfl rfl ?_
  refine wq_gos (f := 1) (pc2 := 25) (ls2 := [(0, .ref 36), (1, .long ps), (3, .ref 34)]) (st2 := [.int 6, .int 0, .ref 40, .int 0, .ref 34]) (h2 := h1x) (dc2 := 0) (ds2 := 0) 3 rfl ?_
  have e6x := (f3x.2 _ _ (wnc (by decide) wn0) hPa)
  have e7x := (f3x.2 _ _ (wnc (by decide) wn0) hAm)
  refine wq_cpi rfl e7x e6x (by decide) (by decide) (by decide) (by decide) (by decide) rfl ?_
  intro h8x e9x f10x l11x
  have e9x : zat h8x 40 = some (.inl (0, 120, (zcpy 0 am pa 0 0 6))) := e9x
  refine wq_gos (f := 1) (pc2 := 30) (ls2 := [(0, .ref 36), (1, .long ps), (3, .ref 34)]) (st2 := [.ref 36, .ref 36]) (h2 := h8x) (dc2 := 0) (ds2 := 0) 2 rfl ?_
  have e12x := (f10x.2 _ _ (wnc (by decide) wn0) e5x)
  refine wq_getf rfl e12x rfl rfl ?_
  refine wq_gos (f := 1) (pc2 := 45) (ls2 := [(0, .ref 36), (1, .long ps), (3, .ref 34)]) (st2 := [.ref 36, .ref 36]) (h2 := h8x) (dc2 := 0) (ds2 := 0) 5 rfl ?_
  refine wq_getf rfl e12x rfl rfl ?_
  refine wq_gos (f := 1) (pc2 := 50) (ls2 := [(0, .ref 36), (1, .long ps), (3, .ref 34)]) (st2 := [.int 1, .ref 36]) (h2 := h8x) (dc2 := 0) (ds2 := 0) 2 rfl ?_
  refine wq_putf rfl e12x rfl rfl rfl ?_
  intro h13x e14x f15x l16x
  have e14x : zat h13x 36 = some (.inr (.inr (.inr (2, [.int 0, .int 1, .ref 38, .ref 40])))) := e14x
  refine wq_gos (f := 1) (pc2 := 55) (ls2 := [(0, .ref 36), (1, .long ps), (3, .ref 34)]) (st2 := [.ref 36, .ref 36]) (h2 := h13x) (dc2 := 0) (ds2 := 0) 2 rfl ?_
  refine wq_getf rfl e14x rfl rfl ?_
  refine wq_gos (f := 1) (pc2 := 62) (ls2 := [(0, .ref 36), (1, .long ps), (3, .ref 34)]) (st2 := [.int 20, .int 1, .ref 36]) (h2 := h13x) (dc2 := 0) (ds2 := 0) 3 rfl ?_
  refine wq_inl (y2 := 285) (as := [.int 1, .int 20]) rfl rfl rfl (wq_T (c_min (1 : Int32) (20 : Int32) h13x) ?_)
  show wq 23 65 [(0, .ref 36), (1, .long ps), (3, .ref 34)] [.int (jmin (1 : Int32) (20 : Int32)), .ref 36] h13x 0 0 _
  refine wq_putf rfl e14x rfl rfl rfl ?_
  intro h17x e18x f19x l20x
  have e18x : zat h17x 36 = some (.inr (.inr (.inr (2, [.int (jmin (1 : Int32) (20 : Int32)), .int 1, .ref 38, .ref 40])))) := e18x
  refine wq_ret rfl rfl ?_
  show wq 112 72 [(6, .long 63), (4, .long 0), (0, .ref 0), (1, .int 4), (2, .long v)] [] h17x 0 0 _
  refine wq_gos (f := 1) (pc2 := 73) (ls2 := [(6, .long 63), (4, .long 0), (0, .ref 0), (1, .int 4), (2, .long v)]) (st2 := [.ref 0]) (h2 := h17x) (dc2 := 0) (ds2 := 0) 1 rfl ?_
  have e21x := (f19x.2 _ _ (wnc (by decide) wn0) (f15x.2 _ _ (wnc (by decide) wn0) (f10x.2 _ _ (wnc (by decide) wn0) (f3x.2 _ _ (wnc (by decide) wn0) hX))))
  refine wq_getf rfl e21x rfl rfl ?_
  refine wq_gos (f := 1) (pc2 := 79) (ls2 := [(6, .long 63), (4, .long 0), (0, .ref 0), (1, .int 4), (2, .long v)]) (st2 := [.int (v).toInt32, .int 4, .ref 34]) (h2 := h17x) (dc2 := 0) (ds2 := 0) 3 rfl ?_
  have e22x := (f19x.2 _ _ (wnc (by decide) wn0) (f15x.2 _ _ (wnc (by decide) wn0) (f10x.2 _ _ (wnc (by decide) wn0) e7x)))
  refine wq_iast rfl e22x rfl rfl ?_
  intro h23x e24x f25x l26x
  have e24x : zat h23x 34 = some (.inl (0, 6, (zset 0 am 4 (v).toInt32))) := e24x
  refine wq_gos (f := 1) (pc2 := 81) (ls2 := [(6, .long 63), (4, .long 0), (0, .ref 0), (1, .int 4), (2, .long v)]) (st2 := [.int 1]) (h2 := h23x) (dc2 := 0) (ds2 := 0) 1 rfl ?_
  exact wq_ret rfl rfl ⟨h23x, rfl, (wFr_tr (wFr_sub f3x (by simp)) (wFr_tr (wFr_sub f10x (by simp)) (wFr_tr (wFr_sub f15x (by simp)) (wFr_tr (wFr_sub f19x (by simp)) (wFr_sub f25x (by simp))))))⟩
set_option maxHeartbeats 4000000 in
theorem m_aimG4 {h : zH} {fs : List Value} {kn lo hi : List Int32} {nw ai ke hr : List Int32} (hM : zat h 162 = some (.inr (.inr (.inr (10, fs))))) (hC : mC fs) (hK : zat h 166 = some (.inl (0, 14, kn))) (hO : zat h 168 = some (.inl (0, 12, lo))) (hG : zat h 170 = some (.inl (0, 12, hi))) (h27 : fs[27]? = some (.int 0)) (hNw : zat h 188 = some (.inl (0, 6, nw))) (hAi : zat h 190 = some (.inl (0, 6, ai))) (hKe : zat h 192 = some (.inl (0, 252, ke))) (hHr : zat h 212 = some (.inl (2, 2, hr))) {v : Int64} (h1 : 0 ≤ v.toInt) (h2 : v.toInt ≤ 63) : wq 218 0 [(0, .ref 162), (1, .int 4), (2, .long v)] [] h 0 0 (fun r => ∃ h2, r = (some (.int 1), h2, 0, 0)) := by
  have el : ((0 : Int64)).toInt = 0 := rfl
  have eh : ((63 : Int64)).toInt = 63 := rfl
  refine wq_gos (f := 1) (pc2 := 2) (ls2 := [(0, .ref 162), (1, .int 4), (2, .long v)]) (st2 := [.int 0, .ref 162]) (h2 := h) (dc2 := 0) (ds2 := 0) 2 rfl ?_
  refine wq_putf rfl hM rfl (by rw [hC.1]; rfl) rfl ?_
  intro h1x e2x f3x l4x
  obtain ⟨fs5x, hf6x⟩ : ∃ x, x = fs.set 0 (.int 0) := ⟨_, rfl⟩
  rw [← hf6x] at e2x
  have hC7x : mC fs5x := by rw [hf6x]; exact mC_set hC (by decide) _
  have p8x : fs5x[27]? = some (.int 0) := by rw [hf6x, List.getElem?_set_ne (by decide)]; exact h27
  have p9x : fs5x[0]? = some (.int 0) := by rw [hf6x]; exact List.getElem?_set_self (by rw [hC.1]; decide)
  refine wq_gos (f := 1) (pc2 := 22) (ls2 := [(4, .long 63), (0, .ref 162), (1, .int 4), (2, .long v)]) (st2 := [.int 4]) (h2 := h1x) (dc2 := 0) (ds2 := 0) 6 rfl ?_
  refine wq_inl (y2 := 208) (as := [.int 4]) rfl rfl rfl ?_
  show wq 208 0 [(0, .int 4)] [] h1x 0 0 _
  refine wq_gos (f := 1) (pc2 := 15) (ls2 := [(0, .int 4)]) (st2 := [.int 1]) (h2 := h1x) (dc2 := 0) (ds2 := 0) 7 rfl ?_
  refine wq_ret rfl rfl ?_
  show wq 218 25 [(4, .long 63), (0, .ref 162), (1, .int 4), (2, .long v)] [.int 1] h1x 0 0 _
  refine wq_gos (f := 1) (pc2 := 32) (ls2 := [(4, .long 63), (0, .ref 162), (1, .int 4), (2, .long v)]) (st2 := [.int (lg_cmp v (63 : Int64))]) (h2 := h1x) (dc2 := 0) (ds2 := 0) 4 rfl ?_
  refine wq_gt0f rfl rfl (lgc_le (by omega)) ?_
  refine wq_gos (f := 1) (pc2 := 49) (ls2 := [(4, .long 63), (0, .ref 162), (1, .int 4), (2, .long v)]) (st2 := [.int (lg_cmp v (0 : Int64))]) (h2 := h1x) (dc2 := 0) (ds2 := 0) 6 rfl ?_
  refine wq_ge0t rfl (lgc_ge (by omega)) ?_
  refine wq_gos (f := 1) (pc2 := 55) (ls2 := [(4, .long 63), (0, .ref 162), (1, .int 4), (2, .long v)]) (st2 := [.ref 162]) (h2 := h1x) (dc2 := 0) (ds2 := 0) 1 rfl ?_
  refine wq_inlv (y2 := 191) (as := []) rfl rfl rfl e2x rfl ?_
  show wq 191 0 [(0, .ref 162)] [] h1x 0 0 _
  refine wq_gos (f := 1) (pc2 := 1) (ls2 := [(0, .ref 162)]) (st2 := [.ref 162]) (h2 := h1x) (dc2 := 0) (ds2 := 0) 1 rfl ?_
  refine wq_getf rfl e2x p8x rfl ?_
  refine wq_gos (f := 1) (pc2 := 51) (ls2 := [(0, .ref 162)]) (st2 := [.ref 162, .ref 162]) (h2 := h1x) (dc2 := 0) (ds2 := 0) 4 rfl ?_
  refine wq_getf rfl e2x p8x rfl ?_
  refine wq_inlv (y2 := 189) (as := [.int 0]) rfl rfl rfl e2x rfl ?_
  show wq 189 0 [(0, .ref 162), (1, .int 0)] [] h1x 0 0 _
  refine wq_gos (f := 1) (pc2 := 9) (ls2 := [(2, .int 0), (0, .ref 162), (1, .int 0)]) (st2 := [.ref 162]) (h2 := h1x) (dc2 := 0) (ds2 := 0) 6 rfl ?_
  refine wq_getf rfl e2x (hC7x.2 (26, 192) (by decide)) rfl ?_
  refine wq_gos (f := 1) (pc2 := 19) (ls2 := [(2, .int 0), (0, .ref 162), (1, .int 0)]) (st2 := [.ref 162, .int 0, .ref 192]) (h2 := h1x) (dc2 := 0) (ds2 := 0) 6 rfl ?_
  refine wq_getf rfl e2x (hC7x.2 (24, 188) (by decide)) rfl ?_
  refine wq_gos (f := 1) (pc2 := 23) (ls2 := [(2, .int 0), (0, .ref 162), (1, .int 0)]) (st2 := [.int 0, .ref 188, .int 0, .ref 192]) (h2 := h1x) (dc2 := 0) (ds2 := 0) 1 rfl ?_
  have e10x := (f3x.2 _ _ (wnc (by decide) wn0) hNw)
  refine wq_ialdk (k := 0) rfl e10x rfl rfl rfl ?_
  have e11x := (f3x.2 _ _ (wnc (by decide) wn0) hKe)
  refine wq_iast rfl e11x rfl rfl ?_
  intro h12x e13x f14x l15x
  have e13x : zat h12x 192 = some (.inl (0, 252, (zset 0 ke 0 (nw.getD 0 0)))) := e13x
  refine wq_gos (f := 1) (pc2 := 26) (ls2 := [(2, .int 0), (0, .ref 162), (1, .int 0)]) (st2 := [.ref 162]) (h2 := h12x) (dc2 := 0) (ds2 := 0) 1 rfl ?_
  have e16x := (f14x.2 _ _ (wnc (by decide) wn0) e2x)
  refine wq_getf rfl e16x (hC7x.2 (26, 192) (by decide)) rfl ?_
  refine wq_gos (f := 1) (pc2 := 39) (ls2 := [(2, .int 0), (0, .ref 162), (1, .int 0)]) (st2 := [.ref 162, .int 6, .ref 192]) (h2 := h12x) (dc2 := 0) (ds2 := 0) 8 rfl ?_
  refine wq_getf rfl e16x (hC7x.2 (25, 190) (by decide)) rfl ?_
  refine wq_gos (f := 1) (pc2 := 43) (ls2 := [(2, .int 0), (0, .ref 162), (1, .int 0)]) (st2 := [.int 0, .ref 190, .int 6, .ref 192]) (h2 := h12x) (dc2 := 0) (ds2 := 0) 1 rfl ?_
  have e17x := (f14x.2 _ _ (wnc (by decide) wn0) (f3x.2 _ _ (wnc (by decide) wn0) hAi))
  refine wq_ialdk (k := 0) rfl e17x rfl rfl rfl ?_
  refine wq_iast rfl e13x rfl rfl ?_
  intro h18x e19x f20x l21x
  have e19x : zat h18x 192 = some (.inl (0, 252, (zset 0 (zset 0 ke 0 (nw.getD 0 0)) 6 (ai.getD 0 0)))) := e19x
  refine wq_gos (f := 1) (pc2 := 9) (ls2 := [(2, .int 1), (0, .ref 162), (1, .int 0)]) (st2 := [.ref 162]) (h2 := h18x) (dc2 := 0) (ds2 := 0) 6 rfl ?_
  have e22x := (f20x.2 _ _ (wnc (by decide) wn0) e16x)
  refine wq_getf rfl e22x (hC7x.2 (26, 192) (by decide)) rfl ?_
  refine wq_gos (f := 1) (pc2 := 19) (ls2 := [(2, .int 1), (0, .ref 162), (1, .int 0)]) (st2 := [.ref 162, .int 1, .ref 192]) (h2 := h18x) (dc2 := 0) (ds2 := 0) 6 rfl ?_
  refine wq_getf rfl e22x (hC7x.2 (24, 188) (by decide)) rfl ?_
  refine wq_gos (f := 1) (pc2 := 23) (ls2 := [(2, .int 1), (0, .ref 162), (1, .int 0)]) (st2 := [.int 1, .ref 188, .int 1, .ref 192]) (h2 := h18x) (dc2 := 0) (ds2 := 0) 1 rfl ?_
  have e23x := (f20x.2 _ _ (wnc (by decide) wn0) (f14x.2 _ _ (wnc (by decide) wn0) e10x))
  refine wq_ialdk (k := 1) rfl e23x rfl rfl rfl ?_
  refine wq_iast rfl e19x rfl rfl ?_
  intro h24x e25x f26x l27x
  have e25x : zat h24x 192 = some (.inl (0, 252, (zset 0 (zset 0 (zset 0 ke 0 (nw.getD 0 0)) 6 (ai.getD 0 0)) 1 (nw.getD 1 0)))) := e25x
  refine wq_gos (f := 1) (pc2 := 26) (ls2 := [(2, .int 1), (0, .ref 162), (1, .int 0)]) (st2 := [.ref 162]) (h2 := h24x) (dc2 := 0) (ds2 := 0) 1 rfl ?_
  have e28x := (f26x.2 _ _ (wnc (by decide) wn0) e22x)
  refine wq_getf rfl e28x (hC7x.2 (26, 192) (by decide)) rfl ?_
  refine wq_gos (f := 1) (pc2 := 39) (ls2 := [(2, .int 1), (0, .ref 162), (1, .int 0)]) (st2 := [.ref 162, .int 7, .ref 192]) (h2 := h24x) (dc2 := 0) (ds2 := 0) 8 rfl ?_
  refine wq_getf rfl e28x (hC7x.2 (25, 190) (by decide)) rfl ?_
  refine wq_gos (f := 1) (pc2 := 43) (ls2 := [(2, .int 1), (0, .ref 162), (1, .int 0)]) (st2 := [.int 1, .ref 190, .int 7, .ref 192]) (h2 := h24x) (dc2 := 0) (ds2 := 0) 1 rfl ?_
  have e29x := (f26x.2 _ _ (wnc (by decide) wn0) (f20x.2 _ _ (wnc (by decide) wn0) e17x))
  refine wq_ialdk (k := 1) rfl e29x rfl rfl rfl ?_
  refine wq_iast rfl e25x rfl rfl ?_
  intro h30x e31x f32x l33x
  have e31x : zat h30x 192 = some (.inl (0, 252, (zset 0 (zset 0 (zset 0 (zset 0 ke 0 (nw.getD 0 0)) 6 (ai.getD 0 0)) 1 (nw.getD 1 0)) 7 (ai.getD 1 0)))) := e31x
  refine wq_gos (f := 1) (pc2 := 9) (ls2 := [(2, .int 2), (0, .ref 162), (1, .int 0)]) (st2 := [.ref 162]) (h2 := h30x) (dc2 := 0) (ds2 := 0) 6 rfl ?_
  have e34x := (f32x.2 _ _ (wnc (by decide) wn0) e28x)
  refine wq_getf rfl e34x (hC7x.2 (26, 192) (by decide)) rfl ?_
  refine wq_gos (f := 1) (pc2 := 19) (ls2 := [(2, .int 2), (0, .ref 162), (1, .int 0)]) (st2 := [.ref 162, .int 2, .ref 192]) (h2 := h30x) (dc2 := 0) (ds2 := 0) 6 rfl ?_
  refine wq_getf rfl e34x (hC7x.2 (24, 188) (by decide)) rfl ?_
  refine wq_gos (f := 1) (pc2 := 23) (ls2 := [(2, .int 2), (0, .ref 162), (1, .int 0)]) (st2 := [.int 2, .ref 188, .int 2, .ref 192]) (h2 := h30x) (dc2 := 0) (ds2 := 0) 1 rfl ?_
  have e35x := (f32x.2 _ _ (wnc (by decide) wn0) (f26x.2 _ _ (wnc (by decide) wn0) e23x))
  refine wq_ialdk (k := 2) rfl e35x rfl rfl rfl ?_
  refine wq_iast rfl e31x rfl rfl ?_
  intro h36x e37x f38x l39x
  have e37x : zat h36x 192 = some (.inl (0, 252, (zset 0 (zset 0 (zset 0 (zset 0 (zset 0 ke 0 (nw.getD 0 0)) 6 (ai.getD 0 0)) 1 (nw.getD 1 0)) 7 (ai.getD 1 0)) 2 (nw.getD 2 0)))) := e37x
  refine wq_gos (f := 1) (pc2 := 26) (ls2 := [(2, .int 2), (0, .ref 162), (1, .int 0)]) (st2 := [.ref 162]) (h2 := h36x) (dc2 := 0) (ds2 := 0) 1 rfl ?_
  have e40x := (f38x.2 _ _ (wnc (by decide) wn0) e34x)
  refine wq_getf rfl e40x (hC7x.2 (26, 192) (by decide)) rfl ?_
  refine wq_gos (f := 1) (pc2 := 39) (ls2 := [(2, .int 2), (0, .ref 162), (1, .int 0)]) (st2 := [.ref 162, .int 8, .ref 192]) (h2 := h36x) (dc2 := 0) (ds2 := 0) 8 rfl ?_
  refine wq_getf rfl e40x (hC7x.2 (25, 190) (by decide)) rfl ?_
  refine wq_gos (f := 1) (pc2 := 43) (ls2 := [(2, .int 2), (0, .ref 162), (1, .int 0)]) (st2 := [.int 2, .ref 190, .int 8, .ref 192]) (h2 := h36x) (dc2 := 0) (ds2 := 0) 1 rfl ?_
  have e41x := (f38x.2 _ _ (wnc (by decide) wn0) (f32x.2 _ _ (wnc (by decide) wn0) e29x))
  refine wq_ialdk (k := 2) rfl e41x rfl rfl rfl ?_
  refine wq_iast rfl e37x rfl rfl ?_
  intro h42x e43x f44x l45x
  have e43x : zat h42x 192 = some (.inl (0, 252, (zset 0 (zset 0 (zset 0 (zset 0 (zset 0 (zset 0 ke 0 (nw.getD 0 0)) 6 (ai.getD 0 0)) 1 (nw.getD 1 0)) 7 (ai.getD 1 0)) 2 (nw.getD 2 0)) 8 (ai.getD 2 0)))) := e43x
  refine wq_gos (f := 1) (pc2 := 9) (ls2 := [(2, .int 3), (0, .ref 162), (1, .int 0)]) (st2 := [.ref 162]) (h2 := h42x) (dc2 := 0) (ds2 := 0) 6 rfl ?_
  have e46x := (f44x.2 _ _ (wnc (by decide) wn0) e40x)
  refine wq_getf rfl e46x (hC7x.2 (26, 192) (by decide)) rfl ?_
  refine wq_gos (f := 1) (pc2 := 19) (ls2 := [(2, .int 3), (0, .ref 162), (1, .int 0)]) (st2 := [.ref 162, .int 3, .ref 192]) (h2 := h42x) (dc2 := 0) (ds2 := 0) 6 rfl ?_
  refine wq_getf rfl e46x (hC7x.2 (24, 188) (by decide)) rfl ?_
  refine wq_gos (f := 1) (pc2 := 23) (ls2 := [(2, .int 3), (0, .ref 162), (1, .int 0)]) (st2 := [.int 3, .ref 188, .int 3, .ref 192]) (h2 := h42x) (dc2 := 0) (ds2 := 0) 1 rfl ?_
  have e47x := (f44x.2 _ _ (wnc (by decide) wn0) (f38x.2 _ _ (wnc (by decide) wn0) e35x))
  refine wq_ialdk (k := 3) rfl e47x rfl rfl rfl ?_
  refine wq_iast rfl e43x rfl rfl ?_
  intro h48x e49x f50x l51x
  have e49x : zat h48x 192 = some (.inl (0, 252, (zset 0 (zset 0 (zset 0 (zset 0 (zset 0 (zset 0 (zset 0 ke 0 (nw.getD 0 0)) 6 (ai.getD 0 0)) 1 (nw.getD 1 0)) 7 (ai.getD 1 0)) 2 (nw.getD 2 0)) 8 (ai.getD 2 0)) 3 (nw.getD 3 0)))) := e49x
  refine wq_gos (f := 1) (pc2 := 26) (ls2 := [(2, .int 3), (0, .ref 162), (1, .int 0)]) (st2 := [.ref 162]) (h2 := h48x) (dc2 := 0) (ds2 := 0) 1 rfl ?_
  have e52x := (f50x.2 _ _ (wnc (by decide) wn0) e46x)
  refine wq_getf rfl e52x (hC7x.2 (26, 192) (by decide)) rfl ?_
  refine wq_gos (f := 1) (pc2 := 39) (ls2 := [(2, .int 3), (0, .ref 162), (1, .int 0)]) (st2 := [.ref 162, .int 9, .ref 192]) (h2 := h48x) (dc2 := 0) (ds2 := 0) 8 rfl ?_
  refine wq_getf rfl e52x (hC7x.2 (25, 190) (by decide)) rfl ?_
  refine wq_gos (f := 1) (pc2 := 43) (ls2 := [(2, .int 3), (0, .ref 162), (1, .int 0)]) (st2 := [.int 3, .ref 190, .int 9, .ref 192]) (h2 := h48x) (dc2 := 0) (ds2 := 0) 1 rfl ?_
  have e53x := (f50x.2 _ _ (wnc (by decide) wn0) (f44x.2 _ _ (wnc (by decide) wn0) e41x))
  refine wq_ialdk (k := 3) rfl e53x rfl rfl rfl ?_
  refine wq_iast rfl e49x rfl rfl ?_
  intro h54x e55x f56x l57x
  have e55x : zat h54x 192 = some (.inl (0, 252, (zset 0 (zset 0 (zset 0 (zset 0 (zset 0 (zset 0 (zset 0 (zset 0 ke 0 (nw.getD 0 0)) 6 (ai.getD 0 0)) 1 (nw.getD 1 0)) 7 (ai.getD 1 0)) 2 (nw.getD 2 0)) 8 (ai.getD 2 0)) 3 (nw.getD 3 0)) 9 (ai.getD 3 0)))) := e55x
  refine wq_gos (f := 1) (pc2 := 9) (ls2 := [(2, .int 4), (0, .ref 162), (1, .int 0)]) (st2 := [.ref 162]) (h2 := h54x) (dc2 := 0) (ds2 := 0) 6 rfl ?_
  have e58x := (f56x.2 _ _ (wnc (by decide) wn0) e52x)
  refine wq_getf rfl e58x (hC7x.2 (26, 192) (by decide)) rfl ?_
  refine wq_gos (f := 1) (pc2 := 19) (ls2 := [(2, .int 4), (0, .ref 162), (1, .int 0)]) (st2 := [.ref 162, .int 4, .ref 192]) (h2 := h54x) (dc2 := 0) (ds2 := 0) 6 rfl ?_
  refine wq_getf rfl e58x (hC7x.2 (24, 188) (by decide)) rfl ?_
  refine wq_gos (f := 1) (pc2 := 23) (ls2 := [(2, .int 4), (0, .ref 162), (1, .int 0)]) (st2 := [.int 4, .ref 188, .int 4, .ref 192]) (h2 := h54x) (dc2 := 0) (ds2 := 0) 1 rfl ?_
  have e59x := (f56x.2 _ _ (wnc (by decide) wn0) (f50x.2 _ _ (wnc (by decide) wn0) e47x))
  refine wq_ialdk (k := 4) rfl e59x rfl rfl rfl ?_
  refine wq_iast rfl e55x rfl rfl ?_
  intro h60x e61x f62x l63x
  have e61x : zat h60x 192 = some (.inl (0, 252, (zset 0 (zset 0 (zset 0 (zset 0 (zset 0 (zset 0 (zset 0 (zset 0 (zset 0 ke 0 (nw.getD 0 0)) 6 (ai.getD 0 0)) 1 (nw.getD 1 0)) 7 (ai.getD 1 0)) 2 (nw.getD 2 0)) 8 (ai.getD 2 0)) 3 (nw.getD 3 0)) 9 (ai.getD 3 0)) 4 (nw.getD 4 0)))) := e61x
  refine wq_gos (f := 1) (pc2 := 26) (ls2 := [(2, .int 4), (0, .ref 162), (1, .int 0)]) (st2 := [.ref 162]) (h2 := h60x) (dc2 := 0) (ds2 := 0) 1 rfl ?_
  have e64x := (f62x.2 _ _ (wnc (by decide) wn0) e58x)
  refine wq_getf rfl e64x (hC7x.2 (26, 192) (by decide)) rfl ?_
  refine wq_gos (f := 1) (pc2 := 39) (ls2 := [(2, .int 4), (0, .ref 162), (1, .int 0)]) (st2 := [.ref 162, .int 10, .ref 192]) (h2 := h60x) (dc2 := 0) (ds2 := 0) 8 rfl ?_
  refine wq_getf rfl e64x (hC7x.2 (25, 190) (by decide)) rfl ?_
  refine wq_gos (f := 1) (pc2 := 43) (ls2 := [(2, .int 4), (0, .ref 162), (1, .int 0)]) (st2 := [.int 4, .ref 190, .int 10, .ref 192]) (h2 := h60x) (dc2 := 0) (ds2 := 0) 1 rfl ?_
  have e65x := (f62x.2 _ _ (wnc (by decide) wn0) (f56x.2 _ _ (wnc (by decide) wn0) e53x))
  refine wq_ialdk (k := 4) rfl e65x rfl rfl rfl ?_
  refine wq_iast rfl e61x rfl rfl ?_
  intro h66x e67x f68x l69x
  have e67x : zat h66x 192 = some (.inl (0, 252, (zset 0 (zset 0 (zset 0 (zset 0 (zset 0 (zset 0 (zset 0 (zset 0 (zset 0 (zset 0 ke 0 (nw.getD 0 0)) 6 (ai.getD 0 0)) 1 (nw.getD 1 0)) 7 (ai.getD 1 0)) 2 (nw.getD 2 0)) 8 (ai.getD 2 0)) 3 (nw.getD 3 0)) 9 (ai.getD 3 0)) 4 (nw.getD 4 0)) 10 (ai.getD 4 0)))) := e67x
  refine wq_gos (f := 1) (pc2 := 9) (ls2 := [(2, .int 5), (0, .ref 162), (1, .int 0)]) (st2 := [.ref 162]) (h2 := h66x) (dc2 := 0) (ds2 := 0) 6 rfl ?_
  have e70x := (f68x.2 _ _ (wnc (by decide) wn0) e64x)
  refine wq_getf rfl e70x (hC7x.2 (26, 192) (by decide)) rfl ?_
  refine wq_gos (f := 1) (pc2 := 19) (ls2 := [(2, .int 5), (0, .ref 162), (1, .int 0)]) (st2 := [.ref 162, .int 5, .ref 192]) (h2 := h66x) (dc2 := 0) (ds2 := 0) 6 rfl ?_
  refine wq_getf rfl e70x (hC7x.2 (24, 188) (by decide)) rfl ?_
  refine wq_gos (f := 1) (pc2 := 23) (ls2 := [(2, .int 5), (0, .ref 162), (1, .int 0)]) (st2 := [.int 5, .ref 188, .int 5, .ref 192]) (h2 := h66x) (dc2 := 0) (ds2 := 0) 1 rfl ?_
  have e71x := (f68x.2 _ _ (wnc (by decide) wn0) (f62x.2 _ _ (wnc (by decide) wn0) e59x))
  refine wq_ialdk (k := 5) rfl e71x rfl rfl rfl ?_
  refine wq_iast rfl e67x rfl rfl ?_
  intro h72x e73x f74x l75x
  have e73x : zat h72x 192 = some (.inl (0, 252, (zset 0 (zset 0 (zset 0 (zset 0 (zset 0 (zset 0 (zset 0 (zset 0 (zset 0 (zset 0 (zset 0 ke 0 (nw.getD 0 0)) 6 (ai.getD 0 0)) 1 (nw.getD 1 0)) 7 (ai.getD 1 0)) 2 (nw.getD 2 0)) 8 (ai.getD 2 0)) 3 (nw.getD 3 0)) 9 (ai.getD 3 0)) 4 (nw.getD 4 0)) 10 (ai.getD 4 0)) 5 (nw.getD 5 0)))) := e73x
  refine wq_gos (f := 1) (pc2 := 26) (ls2 := [(2, .int 5), (0, .ref 162), (1, .int 0)]) (st2 := [.ref 162]) (h2 := h72x) (dc2 := 0) (ds2 := 0) 1 rfl ?_
  have e76x := (f74x.2 _ _ (wnc (by decide) wn0) e70x)
  refine wq_getf rfl e76x (hC7x.2 (26, 192) (by decide)) rfl ?_
  refine wq_gos (f := 1) (pc2 := 39) (ls2 := [(2, .int 5), (0, .ref 162), (1, .int 0)]) (st2 := [.ref 162, .int 11, .ref 192]) (h2 := h72x) (dc2 := 0) (ds2 := 0) 8 rfl ?_
  refine wq_getf rfl e76x (hC7x.2 (25, 190) (by decide)) rfl ?_
  refine wq_gos (f := 1) (pc2 := 43) (ls2 := [(2, .int 5), (0, .ref 162), (1, .int 0)]) (st2 := [.int 5, .ref 190, .int 11, .ref 192]) (h2 := h72x) (dc2 := 0) (ds2 := 0) 1 rfl ?_
  have e77x := (f74x.2 _ _ (wnc (by decide) wn0) (f68x.2 _ _ (wnc (by decide) wn0) e65x))
  refine wq_ialdk (k := 5) rfl e77x rfl rfl rfl ?_
  refine wq_iast rfl e73x rfl rfl ?_
  intro h78x e79x f80x l81x
  have e79x : zat h78x 192 = some (.inl (0, 252, (zset 0 (zset 0 (zset 0 (zset 0 (zset 0 (zset 0 (zset 0 (zset 0 (zset 0 (zset 0 (zset 0 (zset 0 ke 0 (nw.getD 0 0)) 6 (ai.getD 0 0)) 1 (nw.getD 1 0)) 7 (ai.getD 1 0)) 2 (nw.getD 2 0)) 8 (ai.getD 2 0)) 3 (nw.getD 3 0)) 9 (ai.getD 3 0)) 4 (nw.getD 4 0)) 10 (ai.getD 4 0)) 5 (nw.getD 5 0)) 11 (ai.getD 5 0)))) := e79x
  refine wq_gos (f := 1) (pc2 := 51) (ls2 := [(2, .int 6), (0, .ref 162), (1, .int 0)]) (st2 := []) (h2 := h78x) (dc2 := 0) (ds2 := 0) 5 rfl ?_
  refine wq_ret rfl rfl ?_
  show wq 191 57 [(0, .ref 162)] [] h78x 0 0 _
  refine wq_gos (f := 1) (pc2 := 59) (ls2 := [(0, .ref 162)]) (st2 := [.ref 162, .ref 162]) (h2 := h78x) (dc2 := 0) (ds2 := 0) 2 rfl ?_
  have e82x := (f80x.2 _ _ (wnc (by decide) wn0) e76x)
  refine wq_getf rfl e82x p8x rfl ?_
  refine wq_gos (f := 1) (pc2 := 64) (ls2 := [(0, .ref 162)]) (st2 := [.int 1, .ref 162]) (h2 := h78x) (dc2 := 0) (ds2 := 0) 2 rfl ?_
  refine wq_putf rfl e82x rfl (by rw [hC7x.1]; rfl) rfl ?_
  intro h83x e84x f85x l86x
  obtain ⟨fs87x, hf88x⟩ : ∃ x, x = fs5x.set 27 (.int 1) := ⟨_, rfl⟩
  rw [← hf88x] at e84x
  have hC89x : mC fs87x := by rw [hf88x]; exact mC_set hC7x (by decide) _
  have p90x : fs87x[0]? = some (.int 0) := by rw [hf88x, List.getElem?_set_ne (by decide)]; exact p9x
  have p91x : fs87x[27]? = some (.int 1) := by rw [hf88x]; exact List.getElem?_set_self (by rw [hC7x.1]; decide)
  refine wq_ret rfl rfl ?_
  show wq 218 58 [(4, .long 63), (0, .ref 162), (1, .int 4), (2, .long v)] [] h83x 0 0 _
  refine wq_gos (f := 1) (pc2 := 59) (ls2 := [(4, .long 63), (0, .ref 162), (1, .int 4), (2, .long v)]) (st2 := [.ref 162]) (h2 := h83x) (dc2 := 0) (ds2 := 0) 1 rfl ?_
  refine wq_getf rfl e84x (hC89x.2 (25, 190) (by decide)) rfl ?_
  refine wq_gos (f := 1) (pc2 := 65) (ls2 := [(4, .long 63), (0, .ref 162), (1, .int 4), (2, .long v)]) (st2 := [.int (v).toInt32, .int 4, .ref 190]) (h2 := h83x) (dc2 := 0) (ds2 := 0) 3 rfl ?_
  have e92x := (f85x.2 _ _ (wnc (by decide) wn0) (f80x.2 _ _ (wnc (by decide) wn0) e77x))
  refine wq_iast rfl e92x rfl rfl ?_
  intro h93x e94x f95x l96x
  have e94x : zat h93x 190 = some (.inl (0, 6, (zset 0 ai 4 (v).toInt32))) := e94x
  refine wq_gos (f := 1) (pc2 := 68) (ls2 := [(4, .long 63), (0, .ref 162), (1, .int 4), (2, .long v)]) (st2 := [.int 0, .ref 162]) (h2 := h93x) (dc2 := 0) (ds2 := 0) 2 rfl ?_
  have e97x := (f95x.2 _ _ (wnc (by decide) wn0) e84x)
  refine wq_putf rfl e97x rfl (by rw [hC89x.1]; rfl) rfl ?_
  intro h98x e99x f100x l101x
  obtain ⟨fs102x, hf103x⟩ : ∃ x, x = fs87x.set 33 (.int 0) := ⟨_, rfl⟩
  rw [← hf103x] at e99x
  have hC104x : mC fs102x := by rw [hf103x]; exact mC_set hC89x (by decide) _
  have p105x : fs102x[0]? = some (.int 0) := by rw [hf103x, List.getElem?_set_ne (by decide)]; exact p90x
  have p106x : fs102x[27]? = some (.int 1) := by rw [hf103x, List.getElem?_set_ne (by decide)]; exact p91x
  have p107x : fs102x[33]? = some (.int 0) := by rw [hf103x]; exact List.getElem?_set_self (by rw [hC89x.1]; decide)
  refine wq_gos (f := 1) (pc2 := 72) (ls2 := [(4, .long 63), (0, .ref 162), (1, .int 4), (2, .long v)]) (st2 := [.int 1]) (h2 := h98x) (dc2 := 0) (ds2 := 0) 1 rfl ?_
  exact wq_ret rfl rfl ⟨h98x, rfl⟩
theorem c_aimA4 {h : zH} {v : Int64} (h1 : v.toInt < 0) : zT zg0 zF zP 112 0 [(0, .ref 0), (1, .int 4), (2, .long v)] [] h 0 0 (some (.int 0), h, 0, 0) := by
  have el : ((0 : Int64)).toInt = 0 := rfl
  have eh : ((63 : Int64)).toInt = 63 := rfl
  apply wq_toT
  refine wq_gos (f := 1) (pc2 := 45) (ls2 := [(6, .long 63), (4, .long 0), (0, .ref 0), (1, .int 4), (2, .long v)]) (st2 := [.int (lg_cmp v (0 : Int64))]) (h2 := h) (dc2 := 0) (ds2 := 0) 18 rfl ?_
  refine wq_lt0t rfl (lgc_lt (by omega)) ?_
  refine wq_gos (f := 1) (pc2 := 56) (ls2 := [(6, .long 63), (4, .long 0), (0, .ref 0), (1, .int 4), (2, .long v)]) (st2 := [.int 0]) (h2 := h) (dc2 := 0) (ds2 := 0) 1 rfl ?_
  exact wq_ret rfl rfl rfl
theorem m_aimA4 {h : zH} {fs : List Value} (hM : zat h 162 = some (.inr (.inr (.inr (10, fs))))) (hC : mC fs) {v : Int64} (h1 : v.toInt < 0) : wq 218 0 [(0, .ref 162), (1, .int 4), (2, .long v)] [] h 0 0 (fun r => ∃ h2, r = (some (.int 0), h2, 0, 0)) := by
  have el : ((0 : Int64)).toInt = 0 := rfl
  have eh : ((63 : Int64)).toInt = 63 := rfl
  refine wq_gos (f := 1) (pc2 := 2) (ls2 := [(0, .ref 162), (1, .int 4), (2, .long v)]) (st2 := [.int 0, .ref 162]) (h2 := h) (dc2 := 0) (ds2 := 0) 2 rfl ?_
  refine wq_putf rfl hM rfl (by rw [hC.1]; rfl) rfl ?_
  intro h1x e2x f3x l4x
  obtain ⟨fs5x, hf6x⟩ : ∃ x, x = fs.set 0 (.int 0) := ⟨_, rfl⟩
  rw [← hf6x] at e2x
  have hC7x : mC fs5x := by rw [hf6x]; exact mC_set hC (by decide) _
  have p8x : fs5x[0]? = some (.int 0) := by rw [hf6x]; exact List.getElem?_set_self (by rw [hC.1]; decide)
  refine wq_gos (f := 1) (pc2 := 22) (ls2 := [(4, .long 63), (0, .ref 162), (1, .int 4), (2, .long v)]) (st2 := [.int 4]) (h2 := h1x) (dc2 := 0) (ds2 := 0) 6 rfl ?_
  refine wq_inl (y2 := 208) (as := [.int 4]) rfl rfl rfl ?_
  show wq 208 0 [(0, .int 4)] [] h1x 0 0 _
  refine wq_gos (f := 1) (pc2 := 15) (ls2 := [(0, .int 4)]) (st2 := [.int 1]) (h2 := h1x) (dc2 := 0) (ds2 := 0) 7 rfl ?_
  refine wq_ret rfl rfl ?_
  show wq 218 25 [(4, .long 63), (0, .ref 162), (1, .int 4), (2, .long v)] [.int 1] h1x 0 0 _
  refine wq_gos (f := 1) (pc2 := 32) (ls2 := [(4, .long 63), (0, .ref 162), (1, .int 4), (2, .long v)]) (st2 := [.int (lg_cmp v (63 : Int64))]) (h2 := h1x) (dc2 := 0) (ds2 := 0) 4 rfl ?_
  refine wq_gt0f rfl rfl (lgc_le (by omega)) ?_
  refine wq_gos (f := 1) (pc2 := 49) (ls2 := [(4, .long 63), (0, .ref 162), (1, .int 4), (2, .long v)]) (st2 := [.int (lg_cmp v (0 : Int64))]) (h2 := h1x) (dc2 := 0) (ds2 := 0) 6 rfl ?_
  refine wq_ge0f rfl rfl (lgc_lt (by omega)) ?_
  refine wq_gos (f := 1) (pc2 := 53) (ls2 := [(4, .long 63), (0, .ref 162), (1, .int 4), (2, .long v)]) (st2 := [.int 0]) (h2 := h1x) (dc2 := 0) (ds2 := 0) 1 rfl ?_
  exact wq_ret rfl rfl ⟨h1x, rfl⟩
theorem c_aimB4 {h : zH} {v : Int64} (h2 : 63 < v.toInt) : zT zg0 zF zP 112 0 [(0, .ref 0), (1, .int 4), (2, .long v)] [] h 0 0 (some (.int 0), h, 0, 0) := by
  have el : ((0 : Int64)).toInt = 0 := rfl
  have eh : ((63 : Int64)).toInt = 63 := rfl
  apply wq_toT
  refine wq_gos (f := 1) (pc2 := 45) (ls2 := [(6, .long 63), (4, .long 0), (0, .ref 0), (1, .int 4), (2, .long v)]) (st2 := [.int (lg_cmp v (0 : Int64))]) (h2 := h) (dc2 := 0) (ds2 := 0) 18 rfl ?_
  refine wq_lt0f rfl rfl (lgc_ge (by omega)) ?_
  refine wq_gos (f := 1) (pc2 := 52) (ls2 := [(6, .long 63), (4, .long 0), (0, .ref 0), (1, .int 4), (2, .long v)]) (st2 := [.int (lg_cmp v (63 : Int64))]) (h2 := h) (dc2 := 0) (ds2 := 0) 3 rfl ?_
  refine wq_le0f rfl rfl (lgc_gt (by omega)) ?_
  refine wq_gos (f := 1) (pc2 := 56) (ls2 := [(6, .long 63), (4, .long 0), (0, .ref 0), (1, .int 4), (2, .long v)]) (st2 := [.int 0]) (h2 := h) (dc2 := 0) (ds2 := 0) 1 rfl ?_
  exact wq_ret rfl rfl rfl
theorem m_aimB4 {h : zH} {fs : List Value} (hM : zat h 162 = some (.inr (.inr (.inr (10, fs))))) (hC : mC fs) {v : Int64} (h2 : 63 < v.toInt) : wq 218 0 [(0, .ref 162), (1, .int 4), (2, .long v)] [] h 0 0 (fun r => ∃ h2, r = (some (.int 0), h2, 0, 0)) := by
  have el : ((0 : Int64)).toInt = 0 := rfl
  have eh : ((63 : Int64)).toInt = 63 := rfl
  refine wq_gos (f := 1) (pc2 := 2) (ls2 := [(0, .ref 162), (1, .int 4), (2, .long v)]) (st2 := [.int 0, .ref 162]) (h2 := h) (dc2 := 0) (ds2 := 0) 2 rfl ?_
  refine wq_putf rfl hM rfl (by rw [hC.1]; rfl) rfl ?_
  intro h1x e2x f3x l4x
  obtain ⟨fs5x, hf6x⟩ : ∃ x, x = fs.set 0 (.int 0) := ⟨_, rfl⟩
  rw [← hf6x] at e2x
  have hC7x : mC fs5x := by rw [hf6x]; exact mC_set hC (by decide) _
  have p8x : fs5x[0]? = some (.int 0) := by rw [hf6x]; exact List.getElem?_set_self (by rw [hC.1]; decide)
  refine wq_gos (f := 1) (pc2 := 22) (ls2 := [(4, .long 63), (0, .ref 162), (1, .int 4), (2, .long v)]) (st2 := [.int 4]) (h2 := h1x) (dc2 := 0) (ds2 := 0) 6 rfl ?_
  refine wq_inl (y2 := 208) (as := [.int 4]) rfl rfl rfl ?_
  show wq 208 0 [(0, .int 4)] [] h1x 0 0 _
  refine wq_gos (f := 1) (pc2 := 15) (ls2 := [(0, .int 4)]) (st2 := [.int 1]) (h2 := h1x) (dc2 := 0) (ds2 := 0) 7 rfl ?_
  refine wq_ret rfl rfl ?_
  show wq 218 25 [(4, .long 63), (0, .ref 162), (1, .int 4), (2, .long v)] [.int 1] h1x 0 0 _
  refine wq_gos (f := 1) (pc2 := 32) (ls2 := [(4, .long 63), (0, .ref 162), (1, .int 4), (2, .long v)]) (st2 := [.int (lg_cmp v (63 : Int64))]) (h2 := h1x) (dc2 := 0) (ds2 := 0) 4 rfl ?_
  refine wq_gt0t rfl (lgc_gt (by omega)) ?_
  refine wq_gos (f := 1) (pc2 := 53) (ls2 := [(4, .long 63), (0, .ref 162), (1, .int 4), (2, .long v)]) (st2 := [.int 0]) (h2 := h1x) (dc2 := 0) (ds2 := 0) 1 rfl ?_
  exact wq_ret rfl rfl ⟨h1x, rfl⟩
set_option maxHeartbeats 4000000 in
theorem c_aimG5 {h : zH} {ra : Nat} {rd : Nat} {ta im : Int32} {ps ip : Int64} {pp : List Int64} {pa am : List Int32} (hX : zat h 0 = some (.inr (.inr (.inr (9, [.ref 2, .int ta, .ref 4, .ref ra, .ref rd, .long ps, .ref 34, .ref 36, .int im, .long ip, .ref 42, .ref 44, .ref 60, .ref 66, .ref 72, .ref 74, .ref 150, .ref 158]))))) (hP : zat h 36 = some (.inr (.inr (.inr (2, [.int 0, .int 0, .ref 38, .ref 40]))))) (hPp : zat h 38 = some (.inr (.inl (20, pp)))) (hPa : zat h 40 = some (.inl (0, 120, pa))) (hAm : zat h 34 = some (.inl (0, 6, am))) {v : Int64} (h1 : 0 ≤ v.toInt) (h2 : v.toInt ≤ 63) : wq 112 0 [(0, .ref 0), (1, .int 5), (2, .long v)] [] h 0 0 (fun r => ∃ h2, r = (some (.int 1), h2, 0, 0) ∧ wFr [0, 36, 38, 40, 34] h h2) := by
  have el : ((0 : Int64)).toInt = 0 := rfl
  have eh : ((63 : Int64)).toInt = 63 := rfl
  refine wq_gos (f := 1) (pc2 := 45) (ls2 := [(6, .long 63), (4, .long 0), (0, .ref 0), (1, .int 5), (2, .long v)]) (st2 := [.int (lg_cmp v (0 : Int64))]) (h2 := h) (dc2 := 0) (ds2 := 0) 18 rfl ?_
  refine wq_lt0f rfl rfl (lgc_ge (by omega)) ?_
  refine wq_gos (f := 1) (pc2 := 52) (ls2 := [(6, .long 63), (4, .long 0), (0, .ref 0), (1, .int 5), (2, .long v)]) (st2 := [.int (lg_cmp v (63 : Int64))]) (h2 := h) (dc2 := 0) (ds2 := 0) 3 rfl ?_
  refine wq_le0t rfl (lgc_le (by omega)) ?_
  refine wq_gos (f := 1) (pc2 := 58) (ls2 := [(6, .long 63), (4, .long 0), (0, .ref 0), (1, .int 5), (2, .long v)]) (st2 := [.ref 0]) (h2 := h) (dc2 := 0) (ds2 := 0) 1 rfl ?_
  refine wq_getf rfl hX rfl rfl ?_
  refine wq_gos (f := 1) (pc2 := 62) (ls2 := [(6, .long 63), (4, .long 0), (0, .ref 0), (1, .int 5), (2, .long v)]) (st2 := [.ref 0, .ref 36]) (h2 := h) (dc2 := 0) (ds2 := 0) 1 rfl ?_
  refine wq_getf rfl hX rfl rfl ?_
  refine wq_gos (f := 1) (pc2 := 66) (ls2 := [(6, .long 63), (4, .long 0), (0, .ref 0), (1, .int 5), (2, .long v)]) (st2 := [.ref 0, .long ps, .ref 36]) (h2 := h) (dc2 := 0) (ds2 := 0) 1 rfl ?_
  refine wq_getf rfl hX rfl rfl ?_
  refine wq_inlv (y2 := 23) (as := [.long ps, .ref 34]) rfl rfl rfl hP rfl ?_
  show wq 23 0 [(0, .ref 36), (1, .long ps), (3, .ref 34)] [] h 0 0 _
  refine wq_gos (f := 1) (pc2 := 1) (ls2 := [(0, .ref 36), (1, .long ps), (3, .ref 34)]) (st2 := [.ref 36]) (h2 := h) (dc2 := 0) (ds2 := 0) 1 rfl ?_
  refine wq_getf rfl hP rfl rfl ?_
  refine wq_gos (f := 1) (pc2 := 5) (ls2 := [(0, .ref 36), (1, .long ps), (3, .ref 34)]) (st2 := [.ref 36, .ref 38]) (h2 := h) (dc2 := 0) (ds2 := 0) 1 rfl ?_
  refine wq_getf rfl hP rfl rfl ?_
  refine wq_gos (f := 1) (pc2 := 9) (ls2 := [(0, .ref 36), (1, .long ps), (3, .ref 34)]) (st2 := [.long ps, .int 0, .ref 38]) (h2 := h) (dc2 := 0) (ds2 := 0) 1 rfl ?_
  refine wq_last rfl hPp rfl rfl ?_
  intro h1x e2x f3x l4x
  have e2x : zat h1x 38 = some (.inr (.inl (20, (zset 0 pp 0 ps)))) := e2x
  refine wq_gos (f := 1) (pc2 := 13) (ls2 := [(0, .ref 36), (1, .long ps), (3, .ref 34)]) (st2 := [.ref 36, .int 0, .ref 34]) (h2 := h1x) (dc2 := 0) (ds2 := 0) 3 rfl ?_
  have e5x := (f3x.2 _ _ (wnc (by decide) wn0) hP)
  refine wq_getf rfl e5x rfl rfl ?_
  refine wq_gos (f := 1) (pc2 := 17) (ls2 := [(0, .ref 36), (1, .long ps), (3, .ref 34)]) (st2 := [.ref 36, .ref 40, .int 0, .ref 34]) (h2 := h1x) (dc2 := 0) (ds2 := 0) 1 rfl ?_
  refine wq_getf rfl e5x rfl rfl ?_
  refine wq_gos (f := 1) (pc2 := 25) (ls2 := [(0, .ref 36), (1, .long ps), (3, .ref 34)]) (st2 := [.int 6, .int 0, .ref 40, .int 0, .ref 34]) (h2 := h1x) (dc2 := 0) (ds2 := 0) 3 rfl ?_
  have e6x := (f3x.2 _ _ (wnc (by decide) wn0) hPa)
  have e7x := (f3x.2 _ _ (wnc (by decide) wn0) hAm)
  refine wq_cpi rfl e7x e6x (by decide) (by decide) (by decide) (by decide) (by decide) rfl ?_
  intro h8x e9x f10x l11x
  have e9x : zat h8x 40 = some (.inl (0, 120, (zcpy 0 am pa 0 0 6))) := e9x
  refine wq_gos (f := 1) (pc2 := 30) (ls2 := [(0, .ref 36), (1, .long ps), (3, .ref 34)]) (st2 := [.ref 36, .ref 36]) (h2 := h8x) (dc2 := 0) (ds2 := 0) 2 rfl ?_
  have e12x := (f10x.2 _ _ (wnc (by decide) wn0) e5x)
  refine wq_getf rfl e12x rfl rfl ?_
  refine wq_gos (f := 1) (pc2 := 45) (ls2 := [(0, .ref 36), (1, .long ps), (3, .ref 34)]) (st2 := [.ref 36, .ref 36]) (h2 := h8x) (dc2 := 0) (ds2 := 0) 5 rfl ?_
  refine wq_getf rfl e12x rfl rfl ?_
  refine wq_gos (f := 1) (pc2 := 50) (ls2 := [(0, .ref 36), (1, .long ps), (3, .ref 34)]) (st2 := [.int 1, .ref 36]) (h2 := h8x) (dc2 := 0) (ds2 := 0) 2 rfl ?_
  refine wq_putf rfl e12x rfl rfl rfl ?_
  intro h13x e14x f15x l16x
  have e14x : zat h13x 36 = some (.inr (.inr (.inr (2, [.int 0, .int 1, .ref 38, .ref 40])))) := e14x
  refine wq_gos (f := 1) (pc2 := 55) (ls2 := [(0, .ref 36), (1, .long ps), (3, .ref 34)]) (st2 := [.ref 36, .ref 36]) (h2 := h13x) (dc2 := 0) (ds2 := 0) 2 rfl ?_
  refine wq_getf rfl e14x rfl rfl ?_
  refine wq_gos (f := 1) (pc2 := 62) (ls2 := [(0, .ref 36), (1, .long ps), (3, .ref 34)]) (st2 := [.int 20, .int 1, .ref 36]) (h2 := h13x) (dc2 := 0) (ds2 := 0) 3 rfl ?_
  refine wq_inl (y2 := 285) (as := [.int 1, .int 20]) rfl rfl rfl (wq_T (c_min (1 : Int32) (20 : Int32) h13x) ?_)
  show wq 23 65 [(0, .ref 36), (1, .long ps), (3, .ref 34)] [.int (jmin (1 : Int32) (20 : Int32)), .ref 36] h13x 0 0 _
  refine wq_putf rfl e14x rfl rfl rfl ?_
  intro h17x e18x f19x l20x
  have e18x : zat h17x 36 = some (.inr (.inr (.inr (2, [.int (jmin (1 : Int32) (20 : Int32)), .int 1, .ref 38, .ref 40])))) := e18x
  refine wq_ret rfl rfl ?_
  show wq 112 72 [(6, .long 63), (4, .long 0), (0, .ref 0), (1, .int 5), (2, .long v)] [] h17x 0 0 _
  refine wq_gos (f := 1) (pc2 := 73) (ls2 := [(6, .long 63), (4, .long 0), (0, .ref 0), (1, .int 5), (2, .long v)]) (st2 := [.ref 0]) (h2 := h17x) (dc2 := 0) (ds2 := 0) 1 rfl ?_
  have e21x := (f19x.2 _ _ (wnc (by decide) wn0) (f15x.2 _ _ (wnc (by decide) wn0) (f10x.2 _ _ (wnc (by decide) wn0) (f3x.2 _ _ (wnc (by decide) wn0) hX))))
  refine wq_getf rfl e21x rfl rfl ?_
  refine wq_gos (f := 1) (pc2 := 79) (ls2 := [(6, .long 63), (4, .long 0), (0, .ref 0), (1, .int 5), (2, .long v)]) (st2 := [.int (v).toInt32, .int 5, .ref 34]) (h2 := h17x) (dc2 := 0) (ds2 := 0) 3 rfl ?_
  have e22x := (f19x.2 _ _ (wnc (by decide) wn0) (f15x.2 _ _ (wnc (by decide) wn0) (f10x.2 _ _ (wnc (by decide) wn0) e7x)))
  refine wq_iast rfl e22x rfl rfl ?_
  intro h23x e24x f25x l26x
  have e24x : zat h23x 34 = some (.inl (0, 6, (zset 0 am 5 (v).toInt32))) := e24x
  refine wq_gos (f := 1) (pc2 := 81) (ls2 := [(6, .long 63), (4, .long 0), (0, .ref 0), (1, .int 5), (2, .long v)]) (st2 := [.int 1]) (h2 := h23x) (dc2 := 0) (ds2 := 0) 1 rfl ?_
  exact wq_ret rfl rfl ⟨h23x, rfl, (wFr_tr (wFr_sub f3x (by simp)) (wFr_tr (wFr_sub f10x (by simp)) (wFr_tr (wFr_sub f15x (by simp)) (wFr_tr (wFr_sub f19x (by simp)) (wFr_sub f25x (by simp))))))⟩
set_option maxHeartbeats 4000000 in
theorem m_aimG5 {h : zH} {fs : List Value} {kn lo hi : List Int32} {nw ai ke hr : List Int32} (hM : zat h 162 = some (.inr (.inr (.inr (10, fs))))) (hC : mC fs) (hK : zat h 166 = some (.inl (0, 14, kn))) (hO : zat h 168 = some (.inl (0, 12, lo))) (hG : zat h 170 = some (.inl (0, 12, hi))) (h27 : fs[27]? = some (.int 0)) (hNw : zat h 188 = some (.inl (0, 6, nw))) (hAi : zat h 190 = some (.inl (0, 6, ai))) (hKe : zat h 192 = some (.inl (0, 252, ke))) (hHr : zat h 212 = some (.inl (2, 2, hr))) {v : Int64} (h1 : 0 ≤ v.toInt) (h2 : v.toInt ≤ 63) : wq 218 0 [(0, .ref 162), (1, .int 5), (2, .long v)] [] h 0 0 (fun r => ∃ h2, r = (some (.int 1), h2, 0, 0)) := by
  have el : ((0 : Int64)).toInt = 0 := rfl
  have eh : ((63 : Int64)).toInt = 63 := rfl
  refine wq_gos (f := 1) (pc2 := 2) (ls2 := [(0, .ref 162), (1, .int 5), (2, .long v)]) (st2 := [.int 0, .ref 162]) (h2 := h) (dc2 := 0) (ds2 := 0) 2 rfl ?_
  refine wq_putf rfl hM rfl (by rw [hC.1]; rfl) rfl ?_
  intro h1x e2x f3x l4x
  obtain ⟨fs5x, hf6x⟩ : ∃ x, x = fs.set 0 (.int 0) := ⟨_, rfl⟩
  rw [← hf6x] at e2x
  have hC7x : mC fs5x := by rw [hf6x]; exact mC_set hC (by decide) _
  have p8x : fs5x[27]? = some (.int 0) := by rw [hf6x, List.getElem?_set_ne (by decide)]; exact h27
  have p9x : fs5x[0]? = some (.int 0) := by rw [hf6x]; exact List.getElem?_set_self (by rw [hC.1]; decide)
  refine wq_gos (f := 1) (pc2 := 22) (ls2 := [(4, .long 63), (0, .ref 162), (1, .int 5), (2, .long v)]) (st2 := [.int 5]) (h2 := h1x) (dc2 := 0) (ds2 := 0) 6 rfl ?_
  refine wq_inl (y2 := 208) (as := [.int 5]) rfl rfl rfl ?_
  show wq 208 0 [(0, .int 5)] [] h1x 0 0 _
  refine wq_gos (f := 1) (pc2 := 15) (ls2 := [(0, .int 5)]) (st2 := [.int 1]) (h2 := h1x) (dc2 := 0) (ds2 := 0) 7 rfl ?_
  refine wq_ret rfl rfl ?_
  show wq 218 25 [(4, .long 63), (0, .ref 162), (1, .int 5), (2, .long v)] [.int 1] h1x 0 0 _
  refine wq_gos (f := 1) (pc2 := 32) (ls2 := [(4, .long 63), (0, .ref 162), (1, .int 5), (2, .long v)]) (st2 := [.int (lg_cmp v (63 : Int64))]) (h2 := h1x) (dc2 := 0) (ds2 := 0) 4 rfl ?_
  refine wq_gt0f rfl rfl (lgc_le (by omega)) ?_
  refine wq_gos (f := 1) (pc2 := 49) (ls2 := [(4, .long 63), (0, .ref 162), (1, .int 5), (2, .long v)]) (st2 := [.int (lg_cmp v (0 : Int64))]) (h2 := h1x) (dc2 := 0) (ds2 := 0) 6 rfl ?_
  refine wq_ge0t rfl (lgc_ge (by omega)) ?_
  refine wq_gos (f := 1) (pc2 := 55) (ls2 := [(4, .long 63), (0, .ref 162), (1, .int 5), (2, .long v)]) (st2 := [.ref 162]) (h2 := h1x) (dc2 := 0) (ds2 := 0) 1 rfl ?_
  refine wq_inlv (y2 := 191) (as := []) rfl rfl rfl e2x rfl ?_
  show wq 191 0 [(0, .ref 162)] [] h1x 0 0 _
  refine wq_gos (f := 1) (pc2 := 1) (ls2 := [(0, .ref 162)]) (st2 := [.ref 162]) (h2 := h1x) (dc2 := 0) (ds2 := 0) 1 rfl ?_
  refine wq_getf rfl e2x p8x rfl ?_
  refine wq_gos (f := 1) (pc2 := 51) (ls2 := [(0, .ref 162)]) (st2 := [.ref 162, .ref 162]) (h2 := h1x) (dc2 := 0) (ds2 := 0) 4 rfl ?_
  refine wq_getf rfl e2x p8x rfl ?_
  refine wq_inlv (y2 := 189) (as := [.int 0]) rfl rfl rfl e2x rfl ?_
  show wq 189 0 [(0, .ref 162), (1, .int 0)] [] h1x 0 0 _
  refine wq_gos (f := 1) (pc2 := 9) (ls2 := [(2, .int 0), (0, .ref 162), (1, .int 0)]) (st2 := [.ref 162]) (h2 := h1x) (dc2 := 0) (ds2 := 0) 6 rfl ?_
  refine wq_getf rfl e2x (hC7x.2 (26, 192) (by decide)) rfl ?_
  refine wq_gos (f := 1) (pc2 := 19) (ls2 := [(2, .int 0), (0, .ref 162), (1, .int 0)]) (st2 := [.ref 162, .int 0, .ref 192]) (h2 := h1x) (dc2 := 0) (ds2 := 0) 6 rfl ?_
  refine wq_getf rfl e2x (hC7x.2 (24, 188) (by decide)) rfl ?_
  refine wq_gos (f := 1) (pc2 := 23) (ls2 := [(2, .int 0), (0, .ref 162), (1, .int 0)]) (st2 := [.int 0, .ref 188, .int 0, .ref 192]) (h2 := h1x) (dc2 := 0) (ds2 := 0) 1 rfl ?_
  have e10x := (f3x.2 _ _ (wnc (by decide) wn0) hNw)
  refine wq_ialdk (k := 0) rfl e10x rfl rfl rfl ?_
  have e11x := (f3x.2 _ _ (wnc (by decide) wn0) hKe)
  refine wq_iast rfl e11x rfl rfl ?_
  intro h12x e13x f14x l15x
  have e13x : zat h12x 192 = some (.inl (0, 252, (zset 0 ke 0 (nw.getD 0 0)))) := e13x
  refine wq_gos (f := 1) (pc2 := 26) (ls2 := [(2, .int 0), (0, .ref 162), (1, .int 0)]) (st2 := [.ref 162]) (h2 := h12x) (dc2 := 0) (ds2 := 0) 1 rfl ?_
  have e16x := (f14x.2 _ _ (wnc (by decide) wn0) e2x)
  refine wq_getf rfl e16x (hC7x.2 (26, 192) (by decide)) rfl ?_
  refine wq_gos (f := 1) (pc2 := 39) (ls2 := [(2, .int 0), (0, .ref 162), (1, .int 0)]) (st2 := [.ref 162, .int 6, .ref 192]) (h2 := h12x) (dc2 := 0) (ds2 := 0) 8 rfl ?_
  refine wq_getf rfl e16x (hC7x.2 (25, 190) (by decide)) rfl ?_
  refine wq_gos (f := 1) (pc2 := 43) (ls2 := [(2, .int 0), (0, .ref 162), (1, .int 0)]) (st2 := [.int 0, .ref 190, .int 6, .ref 192]) (h2 := h12x) (dc2 := 0) (ds2 := 0) 1 rfl ?_
  have e17x := (f14x.2 _ _ (wnc (by decide) wn0) (f3x.2 _ _ (wnc (by decide) wn0) hAi))
  refine wq_ialdk (k := 0) rfl e17x rfl rfl rfl ?_
  refine wq_iast rfl e13x rfl rfl ?_
  intro h18x e19x f20x l21x
  have e19x : zat h18x 192 = some (.inl (0, 252, (zset 0 (zset 0 ke 0 (nw.getD 0 0)) 6 (ai.getD 0 0)))) := e19x
  refine wq_gos (f := 1) (pc2 := 9) (ls2 := [(2, .int 1), (0, .ref 162), (1, .int 0)]) (st2 := [.ref 162]) (h2 := h18x) (dc2 := 0) (ds2 := 0) 6 rfl ?_
  have e22x := (f20x.2 _ _ (wnc (by decide) wn0) e16x)
  refine wq_getf rfl e22x (hC7x.2 (26, 192) (by decide)) rfl ?_
  refine wq_gos (f := 1) (pc2 := 19) (ls2 := [(2, .int 1), (0, .ref 162), (1, .int 0)]) (st2 := [.ref 162, .int 1, .ref 192]) (h2 := h18x) (dc2 := 0) (ds2 := 0) 6 rfl ?_
  refine wq_getf rfl e22x (hC7x.2 (24, 188) (by decide)) rfl ?_
  refine wq_gos (f := 1) (pc2 := 23) (ls2 := [(2, .int 1), (0, .ref 162), (1, .int 0)]) (st2 := [.int 1, .ref 188, .int 1, .ref 192]) (h2 := h18x) (dc2 := 0) (ds2 := 0) 1 rfl ?_
  have e23x := (f20x.2 _ _ (wnc (by decide) wn0) (f14x.2 _ _ (wnc (by decide) wn0) e10x))
  refine wq_ialdk (k := 1) rfl e23x rfl rfl rfl ?_
  refine wq_iast rfl e19x rfl rfl ?_
  intro h24x e25x f26x l27x
  have e25x : zat h24x 192 = some (.inl (0, 252, (zset 0 (zset 0 (zset 0 ke 0 (nw.getD 0 0)) 6 (ai.getD 0 0)) 1 (nw.getD 1 0)))) := e25x
  refine wq_gos (f := 1) (pc2 := 26) (ls2 := [(2, .int 1), (0, .ref 162), (1, .int 0)]) (st2 := [.ref 162]) (h2 := h24x) (dc2 := 0) (ds2 := 0) 1 rfl ?_
  have e28x := (f26x.2 _ _ (wnc (by decide) wn0) e22x)
  refine wq_getf rfl e28x (hC7x.2 (26, 192) (by decide)) rfl ?_
  refine wq_gos (f := 1) (pc2 := 39) (ls2 := [(2, .int 1), (0, .ref 162), (1, .int 0)]) (st2 := [.ref 162, .int 7, .ref 192]) (h2 := h24x) (dc2 := 0) (ds2 := 0) 8 rfl ?_
  refine wq_getf rfl e28x (hC7x.2 (25, 190) (by decide)) rfl ?_
  refine wq_gos (f := 1) (pc2 := 43) (ls2 := [(2, .int 1), (0, .ref 162), (1, .int 0)]) (st2 := [.int 1, .ref 190, .int 7, .ref 192]) (h2 := h24x) (dc2 := 0) (ds2 := 0) 1 rfl ?_
  have e29x := (f26x.2 _ _ (wnc (by decide) wn0) (f20x.2 _ _ (wnc (by decide) wn0) e17x))
  refine wq_ialdk (k := 1) rfl e29x rfl rfl rfl ?_
  refine wq_iast rfl e25x rfl rfl ?_
  intro h30x e31x f32x l33x
  have e31x : zat h30x 192 = some (.inl (0, 252, (zset 0 (zset 0 (zset 0 (zset 0 ke 0 (nw.getD 0 0)) 6 (ai.getD 0 0)) 1 (nw.getD 1 0)) 7 (ai.getD 1 0)))) := e31x
  refine wq_gos (f := 1) (pc2 := 9) (ls2 := [(2, .int 2), (0, .ref 162), (1, .int 0)]) (st2 := [.ref 162]) (h2 := h30x) (dc2 := 0) (ds2 := 0) 6 rfl ?_
  have e34x := (f32x.2 _ _ (wnc (by decide) wn0) e28x)
  refine wq_getf rfl e34x (hC7x.2 (26, 192) (by decide)) rfl ?_
  refine wq_gos (f := 1) (pc2 := 19) (ls2 := [(2, .int 2), (0, .ref 162), (1, .int 0)]) (st2 := [.ref 162, .int 2, .ref 192]) (h2 := h30x) (dc2 := 0) (ds2 := 0) 6 rfl ?_
  refine wq_getf rfl e34x (hC7x.2 (24, 188) (by decide)) rfl ?_
  refine wq_gos (f := 1) (pc2 := 23) (ls2 := [(2, .int 2), (0, .ref 162), (1, .int 0)]) (st2 := [.int 2, .ref 188, .int 2, .ref 192]) (h2 := h30x) (dc2 := 0) (ds2 := 0) 1 rfl ?_
  have e35x := (f32x.2 _ _ (wnc (by decide) wn0) (f26x.2 _ _ (wnc (by decide) wn0) e23x))
  refine wq_ialdk (k := 2) rfl e35x rfl rfl rfl ?_
  refine wq_iast rfl e31x rfl rfl ?_
  intro h36x e37x f38x l39x
  have e37x : zat h36x 192 = some (.inl (0, 252, (zset 0 (zset 0 (zset 0 (zset 0 (zset 0 ke 0 (nw.getD 0 0)) 6 (ai.getD 0 0)) 1 (nw.getD 1 0)) 7 (ai.getD 1 0)) 2 (nw.getD 2 0)))) := e37x
  refine wq_gos (f := 1) (pc2 := 26) (ls2 := [(2, .int 2), (0, .ref 162), (1, .int 0)]) (st2 := [.ref 162]) (h2 := h36x) (dc2 := 0) (ds2 := 0) 1 rfl ?_
  have e40x := (f38x.2 _ _ (wnc (by decide) wn0) e34x)
  refine wq_getf rfl e40x (hC7x.2 (26, 192) (by decide)) rfl ?_
  refine wq_gos (f := 1) (pc2 := 39) (ls2 := [(2, .int 2), (0, .ref 162), (1, .int 0)]) (st2 := [.ref 162, .int 8, .ref 192]) (h2 := h36x) (dc2 := 0) (ds2 := 0) 8 rfl ?_
  refine wq_getf rfl e40x (hC7x.2 (25, 190) (by decide)) rfl ?_
  refine wq_gos (f := 1) (pc2 := 43) (ls2 := [(2, .int 2), (0, .ref 162), (1, .int 0)]) (st2 := [.int 2, .ref 190, .int 8, .ref 192]) (h2 := h36x) (dc2 := 0) (ds2 := 0) 1 rfl ?_
  have e41x := (f38x.2 _ _ (wnc (by decide) wn0) (f32x.2 _ _ (wnc (by decide) wn0) e29x))
  refine wq_ialdk (k := 2) rfl e41x rfl rfl rfl ?_
  refine wq_iast rfl e37x rfl rfl ?_
  intro h42x e43x f44x l45x
  have e43x : zat h42x 192 = some (.inl (0, 252, (zset 0 (zset 0 (zset 0 (zset 0 (zset 0 (zset 0 ke 0 (nw.getD 0 0)) 6 (ai.getD 0 0)) 1 (nw.getD 1 0)) 7 (ai.getD 1 0)) 2 (nw.getD 2 0)) 8 (ai.getD 2 0)))) := e43x
  refine wq_gos (f := 1) (pc2 := 9) (ls2 := [(2, .int 3), (0, .ref 162), (1, .int 0)]) (st2 := [.ref 162]) (h2 := h42x) (dc2 := 0) (ds2 := 0) 6 rfl ?_
  have e46x := (f44x.2 _ _ (wnc (by decide) wn0) e40x)
  refine wq_getf rfl e46x (hC7x.2 (26, 192) (by decide)) rfl ?_
  refine wq_gos (f := 1) (pc2 := 19) (ls2 := [(2, .int 3), (0, .ref 162), (1, .int 0)]) (st2 := [.ref 162, .int 3, .ref 192]) (h2 := h42x) (dc2 := 0) (ds2 := 0) 6 rfl ?_
  refine wq_getf rfl e46x (hC7x.2 (24, 188) (by decide)) rfl ?_
  refine wq_gos (f := 1) (pc2 := 23) (ls2 := [(2, .int 3), (0, .ref 162), (1, .int 0)]) (st2 := [.int 3, .ref 188, .int 3, .ref 192]) (h2 := h42x) (dc2 := 0) (ds2 := 0) 1 rfl ?_
  have e47x := (f44x.2 _ _ (wnc (by decide) wn0) (f38x.2 _ _ (wnc (by decide) wn0) e35x))
  refine wq_ialdk (k := 3) rfl e47x rfl rfl rfl ?_
  refine wq_iast rfl e43x rfl rfl ?_
  intro h48x e49x f50x l51x
  have e49x : zat h48x 192 = some (.inl (0, 252, (zset 0 (zset 0 (zset 0 (zset 0 (zset 0 (zset 0 (zset 0 ke 0 (nw.getD 0 0)) 6 (ai.getD 0 0)) 1 (nw.getD 1 0)) 7 (ai.getD 1 0)) 2 (nw.getD 2 0)) 8 (ai.getD 2 0)) 3 (nw.getD 3 0)))) := e49x
  refine wq_gos (f := 1) (pc2 := 26) (ls2 := [(2, .int 3), (0, .ref 162), (1, .int 0)]) (st2 := [.ref 162]) (h2 := h48x) (dc2 := 0) (ds2 := 0) 1 rfl ?_
  have e52x := (f50x.2 _ _ (wnc (by decide) wn0) e46x)
  refine wq_getf rfl e52x (hC7x.2 (26, 192) (by decide)) rfl ?_
  refine wq_gos (f := 1) (pc2 := 39) (ls2 := [(2, .int 3), (0, .ref 162), (1, .int 0)]) (st2 := [.ref 162, .int 9, .ref 192]) (h2 := h48x) (dc2 := 0) (ds2 := 0) 8 rfl ?_
  refine wq_getf rfl e52x (hC7x.2 (25, 190) (by decide)) rfl ?_
  refine wq_gos (f := 1) (pc2 := 43) (ls2 := [(2, .int 3), (0, .ref 162), (1, .int 0)]) (st2 := [.int 3, .ref 190, .int 9, .ref 192]) (h2 := h48x) (dc2 := 0) (ds2 := 0) 1 rfl ?_
  have e53x := (f50x.2 _ _ (wnc (by decide) wn0) (f44x.2 _ _ (wnc (by decide) wn0) e41x))
  refine wq_ialdk (k := 3) rfl e53x rfl rfl rfl ?_
  refine wq_iast rfl e49x rfl rfl ?_
  intro h54x e55x f56x l57x
  have e55x : zat h54x 192 = some (.inl (0, 252, (zset 0 (zset 0 (zset 0 (zset 0 (zset 0 (zset 0 (zset 0 (zset 0 ke 0 (nw.getD 0 0)) 6 (ai.getD 0 0)) 1 (nw.getD 1 0)) 7 (ai.getD 1 0)) 2 (nw.getD 2 0)) 8 (ai.getD 2 0)) 3 (nw.getD 3 0)) 9 (ai.getD 3 0)))) := e55x
  refine wq_gos (f := 1) (pc2 := 9) (ls2 := [(2, .int 4), (0, .ref 162), (1, .int 0)]) (st2 := [.ref 162]) (h2 := h54x) (dc2 := 0) (ds2 := 0) 6 rfl ?_
  have e58x := (f56x.2 _ _ (wnc (by decide) wn0) e52x)
  refine wq_getf rfl e58x (hC7x.2 (26, 192) (by decide)) rfl ?_
  refine wq_gos (f := 1) (pc2 := 19) (ls2 := [(2, .int 4), (0, .ref 162), (1, .int 0)]) (st2 := [.ref 162, .int 4, .ref 192]) (h2 := h54x) (dc2 := 0) (ds2 := 0) 6 rfl ?_
  refine wq_getf rfl e58x (hC7x.2 (24, 188) (by decide)) rfl ?_
  refine wq_gos (f := 1) (pc2 := 23) (ls2 := [(2, .int 4), (0, .ref 162), (1, .int 0)]) (st2 := [.int 4, .ref 188, .int 4, .ref 192]) (h2 := h54x) (dc2 := 0) (ds2 := 0) 1 rfl ?_
  have e59x := (f56x.2 _ _ (wnc (by decide) wn0) (f50x.2 _ _ (wnc (by decide) wn0) e47x))
  refine wq_ialdk (k := 4) rfl e59x rfl rfl rfl ?_
  refine wq_iast rfl e55x rfl rfl ?_
  intro h60x e61x f62x l63x
  have e61x : zat h60x 192 = some (.inl (0, 252, (zset 0 (zset 0 (zset 0 (zset 0 (zset 0 (zset 0 (zset 0 (zset 0 (zset 0 ke 0 (nw.getD 0 0)) 6 (ai.getD 0 0)) 1 (nw.getD 1 0)) 7 (ai.getD 1 0)) 2 (nw.getD 2 0)) 8 (ai.getD 2 0)) 3 (nw.getD 3 0)) 9 (ai.getD 3 0)) 4 (nw.getD 4 0)))) := e61x
  refine wq_gos (f := 1) (pc2 := 26) (ls2 := [(2, .int 4), (0, .ref 162), (1, .int 0)]) (st2 := [.ref 162]) (h2 := h60x) (dc2 := 0) (ds2 := 0) 1 rfl ?_
  have e64x := (f62x.2 _ _ (wnc (by decide) wn0) e58x)
  refine wq_getf rfl e64x (hC7x.2 (26, 192) (by decide)) rfl ?_
  refine wq_gos (f := 1) (pc2 := 39) (ls2 := [(2, .int 4), (0, .ref 162), (1, .int 0)]) (st2 := [.ref 162, .int 10, .ref 192]) (h2 := h60x) (dc2 := 0) (ds2 := 0) 8 rfl ?_
  refine wq_getf rfl e64x (hC7x.2 (25, 190) (by decide)) rfl ?_
  refine wq_gos (f := 1) (pc2 := 43) (ls2 := [(2, .int 4), (0, .ref 162), (1, .int 0)]) (st2 := [.int 4, .ref 190, .int 10, .ref 192]) (h2 := h60x) (dc2 := 0) (ds2 := 0) 1 rfl ?_
  have e65x := (f62x.2 _ _ (wnc (by decide) wn0) (f56x.2 _ _ (wnc (by decide) wn0) e53x))
  refine wq_ialdk (k := 4) rfl e65x rfl rfl rfl ?_
  refine wq_iast rfl e61x rfl rfl ?_
  intro h66x e67x f68x l69x
  have e67x : zat h66x 192 = some (.inl (0, 252, (zset 0 (zset 0 (zset 0 (zset 0 (zset 0 (zset 0 (zset 0 (zset 0 (zset 0 (zset 0 ke 0 (nw.getD 0 0)) 6 (ai.getD 0 0)) 1 (nw.getD 1 0)) 7 (ai.getD 1 0)) 2 (nw.getD 2 0)) 8 (ai.getD 2 0)) 3 (nw.getD 3 0)) 9 (ai.getD 3 0)) 4 (nw.getD 4 0)) 10 (ai.getD 4 0)))) := e67x
  refine wq_gos (f := 1) (pc2 := 9) (ls2 := [(2, .int 5), (0, .ref 162), (1, .int 0)]) (st2 := [.ref 162]) (h2 := h66x) (dc2 := 0) (ds2 := 0) 6 rfl ?_
  have e70x := (f68x.2 _ _ (wnc (by decide) wn0) e64x)
  refine wq_getf rfl e70x (hC7x.2 (26, 192) (by decide)) rfl ?_
  refine wq_gos (f := 1) (pc2 := 19) (ls2 := [(2, .int 5), (0, .ref 162), (1, .int 0)]) (st2 := [.ref 162, .int 5, .ref 192]) (h2 := h66x) (dc2 := 0) (ds2 := 0) 6 rfl ?_
  refine wq_getf rfl e70x (hC7x.2 (24, 188) (by decide)) rfl ?_
  refine wq_gos (f := 1) (pc2 := 23) (ls2 := [(2, .int 5), (0, .ref 162), (1, .int 0)]) (st2 := [.int 5, .ref 188, .int 5, .ref 192]) (h2 := h66x) (dc2 := 0) (ds2 := 0) 1 rfl ?_
  have e71x := (f68x.2 _ _ (wnc (by decide) wn0) (f62x.2 _ _ (wnc (by decide) wn0) e59x))
  refine wq_ialdk (k := 5) rfl e71x rfl rfl rfl ?_
  refine wq_iast rfl e67x rfl rfl ?_
  intro h72x e73x f74x l75x
  have e73x : zat h72x 192 = some (.inl (0, 252, (zset 0 (zset 0 (zset 0 (zset 0 (zset 0 (zset 0 (zset 0 (zset 0 (zset 0 (zset 0 (zset 0 ke 0 (nw.getD 0 0)) 6 (ai.getD 0 0)) 1 (nw.getD 1 0)) 7 (ai.getD 1 0)) 2 (nw.getD 2 0)) 8 (ai.getD 2 0)) 3 (nw.getD 3 0)) 9 (ai.getD 3 0)) 4 (nw.getD 4 0)) 10 (ai.getD 4 0)) 5 (nw.getD 5 0)))) := e73x
  refine wq_gos (f := 1) (pc2 := 26) (ls2 := [(2, .int 5), (0, .ref 162), (1, .int 0)]) (st2 := [.ref 162]) (h2 := h72x) (dc2 := 0) (ds2 := 0) 1 rfl ?_
  have e76x := (f74x.2 _ _ (wnc (by decide) wn0) e70x)
  refine wq_getf rfl e76x (hC7x.2 (26, 192) (by decide)) rfl ?_
  refine wq_gos (f := 1) (pc2 := 39) (ls2 := [(2, .int 5), (0, .ref 162), (1, .int 0)]) (st2 := [.ref 162, .int 11, .ref 192]) (h2 := h72x) (dc2 := 0) (ds2 := 0) 8 rfl ?_
  refine wq_getf rfl e76x (hC7x.2 (25, 190) (by decide)) rfl ?_
  refine wq_gos (f := 1) (pc2 := 43) (ls2 := [(2, .int 5), (0, .ref 162), (1, .int 0)]) (st2 := [.int 5, .ref 190, .int 11, .ref 192]) (h2 := h72x) (dc2 := 0) (ds2 := 0) 1 rfl ?_
  have e77x := (f74x.2 _ _ (wnc (by decide) wn0) (f68x.2 _ _ (wnc (by decide) wn0) e65x))
  refine wq_ialdk (k := 5) rfl e77x rfl rfl rfl ?_
  refine wq_iast rfl e73x rfl rfl ?_
  intro h78x e79x f80x l81x
  have e79x : zat h78x 192 = some (.inl (0, 252, (zset 0 (zset 0 (zset 0 (zset 0 (zset 0 (zset 0 (zset 0 (zset 0 (zset 0 (zset 0 (zset 0 (zset 0 ke 0 (nw.getD 0 0)) 6 (ai.getD 0 0)) 1 (nw.getD 1 0)) 7 (ai.getD 1 0)) 2 (nw.getD 2 0)) 8 (ai.getD 2 0)) 3 (nw.getD 3 0)) 9 (ai.getD 3 0)) 4 (nw.getD 4 0)) 10 (ai.getD 4 0)) 5 (nw.getD 5 0)) 11 (ai.getD 5 0)))) := e79x
  refine wq_gos (f := 1) (pc2 := 51) (ls2 := [(2, .int 6), (0, .ref 162), (1, .int 0)]) (st2 := []) (h2 := h78x) (dc2 := 0) (ds2 := 0) 5 rfl ?_
  refine wq_ret rfl rfl ?_
  show wq 191 57 [(0, .ref 162)] [] h78x 0 0 _
  refine wq_gos (f := 1) (pc2 := 59) (ls2 := [(0, .ref 162)]) (st2 := [.ref 162, .ref 162]) (h2 := h78x) (dc2 := 0) (ds2 := 0) 2 rfl ?_
  have e82x := (f80x.2 _ _ (wnc (by decide) wn0) e76x)
  refine wq_getf rfl e82x p8x rfl ?_
  refine wq_gos (f := 1) (pc2 := 64) (ls2 := [(0, .ref 162)]) (st2 := [.int 1, .ref 162]) (h2 := h78x) (dc2 := 0) (ds2 := 0) 2 rfl ?_
  refine wq_putf rfl e82x rfl (by rw [hC7x.1]; rfl) rfl ?_
  intro h83x e84x f85x l86x
  obtain ⟨fs87x, hf88x⟩ : ∃ x, x = fs5x.set 27 (.int 1) := ⟨_, rfl⟩
  rw [← hf88x] at e84x
  have hC89x : mC fs87x := by rw [hf88x]; exact mC_set hC7x (by decide) _
  have p90x : fs87x[0]? = some (.int 0) := by rw [hf88x, List.getElem?_set_ne (by decide)]; exact p9x
  have p91x : fs87x[27]? = some (.int 1) := by rw [hf88x]; exact List.getElem?_set_self (by rw [hC7x.1]; decide)
  refine wq_ret rfl rfl ?_
  show wq 218 58 [(4, .long 63), (0, .ref 162), (1, .int 5), (2, .long v)] [] h83x 0 0 _
  refine wq_gos (f := 1) (pc2 := 59) (ls2 := [(4, .long 63), (0, .ref 162), (1, .int 5), (2, .long v)]) (st2 := [.ref 162]) (h2 := h83x) (dc2 := 0) (ds2 := 0) 1 rfl ?_
  refine wq_getf rfl e84x (hC89x.2 (25, 190) (by decide)) rfl ?_
  refine wq_gos (f := 1) (pc2 := 65) (ls2 := [(4, .long 63), (0, .ref 162), (1, .int 5), (2, .long v)]) (st2 := [.int (v).toInt32, .int 5, .ref 190]) (h2 := h83x) (dc2 := 0) (ds2 := 0) 3 rfl ?_
  have e92x := (f85x.2 _ _ (wnc (by decide) wn0) (f80x.2 _ _ (wnc (by decide) wn0) e77x))
  refine wq_iast rfl e92x rfl rfl ?_
  intro h93x e94x f95x l96x
  have e94x : zat h93x 190 = some (.inl (0, 6, (zset 0 ai 5 (v).toInt32))) := e94x
  refine wq_gos (f := 1) (pc2 := 68) (ls2 := [(4, .long 63), (0, .ref 162), (1, .int 5), (2, .long v)]) (st2 := [.int 0, .ref 162]) (h2 := h93x) (dc2 := 0) (ds2 := 0) 2 rfl ?_
  have e97x := (f95x.2 _ _ (wnc (by decide) wn0) e84x)
  refine wq_putf rfl e97x rfl (by rw [hC89x.1]; rfl) rfl ?_
  intro h98x e99x f100x l101x
  obtain ⟨fs102x, hf103x⟩ : ∃ x, x = fs87x.set 33 (.int 0) := ⟨_, rfl⟩
  rw [← hf103x] at e99x
  have hC104x : mC fs102x := by rw [hf103x]; exact mC_set hC89x (by decide) _
  have p105x : fs102x[0]? = some (.int 0) := by rw [hf103x, List.getElem?_set_ne (by decide)]; exact p90x
  have p106x : fs102x[27]? = some (.int 1) := by rw [hf103x, List.getElem?_set_ne (by decide)]; exact p91x
  have p107x : fs102x[33]? = some (.int 0) := by rw [hf103x]; exact List.getElem?_set_self (by rw [hC89x.1]; decide)
  refine wq_gos (f := 1) (pc2 := 72) (ls2 := [(4, .long 63), (0, .ref 162), (1, .int 5), (2, .long v)]) (st2 := [.int 1]) (h2 := h98x) (dc2 := 0) (ds2 := 0) 1 rfl ?_
  exact wq_ret rfl rfl ⟨h98x, rfl⟩
theorem c_aimA5 {h : zH} {v : Int64} (h1 : v.toInt < 0) : zT zg0 zF zP 112 0 [(0, .ref 0), (1, .int 5), (2, .long v)] [] h 0 0 (some (.int 0), h, 0, 0) := by
  have el : ((0 : Int64)).toInt = 0 := rfl
  have eh : ((63 : Int64)).toInt = 63 := rfl
  apply wq_toT
  refine wq_gos (f := 1) (pc2 := 45) (ls2 := [(6, .long 63), (4, .long 0), (0, .ref 0), (1, .int 5), (2, .long v)]) (st2 := [.int (lg_cmp v (0 : Int64))]) (h2 := h) (dc2 := 0) (ds2 := 0) 18 rfl ?_
  refine wq_lt0t rfl (lgc_lt (by omega)) ?_
  refine wq_gos (f := 1) (pc2 := 56) (ls2 := [(6, .long 63), (4, .long 0), (0, .ref 0), (1, .int 5), (2, .long v)]) (st2 := [.int 0]) (h2 := h) (dc2 := 0) (ds2 := 0) 1 rfl ?_
  exact wq_ret rfl rfl rfl
theorem m_aimA5 {h : zH} {fs : List Value} (hM : zat h 162 = some (.inr (.inr (.inr (10, fs))))) (hC : mC fs) {v : Int64} (h1 : v.toInt < 0) : wq 218 0 [(0, .ref 162), (1, .int 5), (2, .long v)] [] h 0 0 (fun r => ∃ h2, r = (some (.int 0), h2, 0, 0)) := by
  have el : ((0 : Int64)).toInt = 0 := rfl
  have eh : ((63 : Int64)).toInt = 63 := rfl
  refine wq_gos (f := 1) (pc2 := 2) (ls2 := [(0, .ref 162), (1, .int 5), (2, .long v)]) (st2 := [.int 0, .ref 162]) (h2 := h) (dc2 := 0) (ds2 := 0) 2 rfl ?_
  refine wq_putf rfl hM rfl (by rw [hC.1]; rfl) rfl ?_
  intro h1x e2x f3x l4x
  obtain ⟨fs5x, hf6x⟩ : ∃ x, x = fs.set 0 (.int 0) := ⟨_, rfl⟩
  rw [← hf6x] at e2x
  have hC7x : mC fs5x := by rw [hf6x]; exact mC_set hC (by decide) _
  have p8x : fs5x[0]? = some (.int 0) := by rw [hf6x]; exact List.getElem?_set_self (by rw [hC.1]; decide)
  refine wq_gos (f := 1) (pc2 := 22) (ls2 := [(4, .long 63), (0, .ref 162), (1, .int 5), (2, .long v)]) (st2 := [.int 5]) (h2 := h1x) (dc2 := 0) (ds2 := 0) 6 rfl ?_
  refine wq_inl (y2 := 208) (as := [.int 5]) rfl rfl rfl ?_
  show wq 208 0 [(0, .int 5)] [] h1x 0 0 _
  refine wq_gos (f := 1) (pc2 := 15) (ls2 := [(0, .int 5)]) (st2 := [.int 1]) (h2 := h1x) (dc2 := 0) (ds2 := 0) 7 rfl ?_
  refine wq_ret rfl rfl ?_
  show wq 218 25 [(4, .long 63), (0, .ref 162), (1, .int 5), (2, .long v)] [.int 1] h1x 0 0 _
  refine wq_gos (f := 1) (pc2 := 32) (ls2 := [(4, .long 63), (0, .ref 162), (1, .int 5), (2, .long v)]) (st2 := [.int (lg_cmp v (63 : Int64))]) (h2 := h1x) (dc2 := 0) (ds2 := 0) 4 rfl ?_
  refine wq_gt0f rfl rfl (lgc_le (by omega)) ?_
  refine wq_gos (f := 1) (pc2 := 49) (ls2 := [(4, .long 63), (0, .ref 162), (1, .int 5), (2, .long v)]) (st2 := [.int (lg_cmp v (0 : Int64))]) (h2 := h1x) (dc2 := 0) (ds2 := 0) 6 rfl ?_
  refine wq_ge0f rfl rfl (lgc_lt (by omega)) ?_
  refine wq_gos (f := 1) (pc2 := 53) (ls2 := [(4, .long 63), (0, .ref 162), (1, .int 5), (2, .long v)]) (st2 := [.int 0]) (h2 := h1x) (dc2 := 0) (ds2 := 0) 1 rfl ?_
  exact wq_ret rfl rfl ⟨h1x, rfl⟩
theorem c_aimB5 {h : zH} {v : Int64} (h2 : 63 < v.toInt) : zT zg0 zF zP 112 0 [(0, .ref 0), (1, .int 5), (2, .long v)] [] h 0 0 (some (.int 0), h, 0, 0) := by
  have el : ((0 : Int64)).toInt = 0 := rfl
  have eh : ((63 : Int64)).toInt = 63 := rfl
  apply wq_toT
  refine wq_gos (f := 1) (pc2 := 45) (ls2 := [(6, .long 63), (4, .long 0), (0, .ref 0), (1, .int 5), (2, .long v)]) (st2 := [.int (lg_cmp v (0 : Int64))]) (h2 := h) (dc2 := 0) (ds2 := 0) 18 rfl ?_
  refine wq_lt0f rfl rfl (lgc_ge (by omega)) ?_
  refine wq_gos (f := 1) (pc2 := 52) (ls2 := [(6, .long 63), (4, .long 0), (0, .ref 0), (1, .int 5), (2, .long v)]) (st2 := [.int (lg_cmp v (63 : Int64))]) (h2 := h) (dc2 := 0) (ds2 := 0) 3 rfl ?_
  refine wq_le0f rfl rfl (lgc_gt (by omega)) ?_
  refine wq_gos (f := 1) (pc2 := 56) (ls2 := [(6, .long 63), (4, .long 0), (0, .ref 0), (1, .int 5), (2, .long v)]) (st2 := [.int 0]) (h2 := h) (dc2 := 0) (ds2 := 0) 1 rfl ?_
  exact wq_ret rfl rfl rfl
theorem m_aimB5 {h : zH} {fs : List Value} (hM : zat h 162 = some (.inr (.inr (.inr (10, fs))))) (hC : mC fs) {v : Int64} (h2 : 63 < v.toInt) : wq 218 0 [(0, .ref 162), (1, .int 5), (2, .long v)] [] h 0 0 (fun r => ∃ h2, r = (some (.int 0), h2, 0, 0)) := by
  have el : ((0 : Int64)).toInt = 0 := rfl
  have eh : ((63 : Int64)).toInt = 63 := rfl
  refine wq_gos (f := 1) (pc2 := 2) (ls2 := [(0, .ref 162), (1, .int 5), (2, .long v)]) (st2 := [.int 0, .ref 162]) (h2 := h) (dc2 := 0) (ds2 := 0) 2 rfl ?_
  refine wq_putf rfl hM rfl (by rw [hC.1]; rfl) rfl ?_
  intro h1x e2x f3x l4x
  obtain ⟨fs5x, hf6x⟩ : ∃ x, x = fs.set 0 (.int 0) := ⟨_, rfl⟩
  rw [← hf6x] at e2x
  have hC7x : mC fs5x := by rw [hf6x]; exact mC_set hC (by decide) _
  have p8x : fs5x[0]? = some (.int 0) := by rw [hf6x]; exact List.getElem?_set_self (by rw [hC.1]; decide)
  refine wq_gos (f := 1) (pc2 := 22) (ls2 := [(4, .long 63), (0, .ref 162), (1, .int 5), (2, .long v)]) (st2 := [.int 5]) (h2 := h1x) (dc2 := 0) (ds2 := 0) 6 rfl ?_
  refine wq_inl (y2 := 208) (as := [.int 5]) rfl rfl rfl ?_
  show wq 208 0 [(0, .int 5)] [] h1x 0 0 _
  refine wq_gos (f := 1) (pc2 := 15) (ls2 := [(0, .int 5)]) (st2 := [.int 1]) (h2 := h1x) (dc2 := 0) (ds2 := 0) 7 rfl ?_
  refine wq_ret rfl rfl ?_
  show wq 218 25 [(4, .long 63), (0, .ref 162), (1, .int 5), (2, .long v)] [.int 1] h1x 0 0 _
  refine wq_gos (f := 1) (pc2 := 32) (ls2 := [(4, .long 63), (0, .ref 162), (1, .int 5), (2, .long v)]) (st2 := [.int (lg_cmp v (63 : Int64))]) (h2 := h1x) (dc2 := 0) (ds2 := 0) 4 rfl ?_
  refine wq_gt0t rfl (lgc_gt (by omega)) ?_
  refine wq_gos (f := 1) (pc2 := 53) (ls2 := [(4, .long 63), (0, .ref 162), (1, .int 5), (2, .long v)]) (st2 := [.int 0]) (h2 := h1x) (dc2 := 0) (ds2 := 0) 1 rfl ?_
  exact wq_ret rfl rfl ⟨h1x, rfl⟩
