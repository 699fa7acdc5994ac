/-! op 4: the runs ahead of and behind the call that may throw. -/
theorem q4_njA {j : Int32} (hj : j.toInt < 0) (h : zH) : zT zg0 zF zP 144 0 [(0, .int j)] [] h 0 0 (some (.int 1), h, 0, 0) := by
  have e6 : (6 : Int32).toInt = 6 := rfl
  apply wq_toT
  refine wq_gos (f := 1) (pc2 := 1) (ls2 := [(0, .int j)]) (st2 := [.int j]) (h2 := h) (dc2 := 0) (ds2 := 0) 1 rfl ?_
  refine wq_lt0t rfl (by omega) ?_
  refine wq_gos (f := 1) (pc2 := 15) (ls2 := [(0, .int j)]) (st2 := [.int 1]) (h2 := h) (dc2 := 0) (ds2 := 0) 2 rfl ?_
  exact wq_ret rfl rfl rfl
theorem q4_njB {j : Int32} (hj : 5 < j.toInt) (h : zH) : zT zg0 zF zP 144 0 [(0, .int j)] [] h 0 0 (some (.int 1), h, 0, 0) := by
  have e6 : (6 : Int32).toInt = 6 := rfl
  apply wq_toT
  refine wq_gos (f := 1) (pc2 := 1) (ls2 := [(0, .int j)]) (st2 := [.int j]) (h2 := h) (dc2 := 0) (ds2 := 0) 1 rfl ?_
  refine wq_lt0f rfl rfl (by omega) ?_
  refine wq_gos (f := 1) (pc2 := 7) (ls2 := [(0, .int j)]) (st2 := [.int 6, .int j]) (h2 := h) (dc2 := 0) (ds2 := 0) 2 rfl ?_
  refine wq_lt2f rfl rfl (by omega) ?_
  refine wq_gos (f := 1) (pc2 := 15) (ls2 := [(0, .int j)]) (st2 := [.int 1]) (h2 := h) (dc2 := 0) (ds2 := 0) 2 rfl ?_
  exact wq_ret rfl rfl rfl
theorem q4_njC {j : Int32} (hj : 0 ≤ j.toInt ∧ j.toInt ≤ 5) (h : zH) : zT zg0 zF zP 144 0 [(0, .int j)] [] h 0 0 (some (.int 0), h, 0, 0) := by
  have e6 : (6 : Int32).toInt = 6 := rfl
  apply wq_toT
  refine wq_gos (f := 1) (pc2 := 1) (ls2 := [(0, .int j)]) (st2 := [.int j]) (h2 := h) (dc2 := 0) (ds2 := 0) 1 rfl ?_
  refine wq_lt0f rfl rfl (by omega) ?_
  refine wq_gos (f := 1) (pc2 := 7) (ls2 := [(0, .int j)]) (st2 := [.int 6, .int j]) (h2 := h) (dc2 := 0) (ds2 := 0) 2 rfl ?_
  refine wq_lt2t rfl (by omega) ?_
  refine wq_gos (f := 1) (pc2 := 15) (ls2 := [(0, .int j)]) (st2 := [.int 0]) (h2 := h) (dc2 := 0) (ds2 := 0) 1 rfl ?_
  exact wq_ret rfl rfl rfl
theorem q4_nj1 {j : Int32} (hj : j.toInt < 0 ∨ 5 < j.toInt) (h : zH) : zT zg0 zF zP 144 0 [(0, .int j)] [] h 0 0 (some (.int 1), h, 0, 0) := by
  rcases hj with hj | hj
  · exact q4_njA hj h
  · exact q4_njB hj h
theorem zgo_st {g : zCt} {F : zFs} {P : zCd} {f y n : Nat} {s s2 s3 : zS6} (h1 : zone g F P f y s = some s2) (h2 : zgo g F P f y n s2 = some s3) : zgo g F P f y (n + 1) s = some s3 := by
  unfold zgo
  rw [h1]
  exact h2
theorem zone_cal {g : zCt} {F : zFs} {P : zCd} {f y pc dc ds y2 d1 s1 len : Nat} {ls : zL} {st as rest : List Value} {h h2 : zH} {v : Option Value} {i : Instr} {K : zK} {tg : List Nat} (hP : P y pc = some (i, len, K, tg)) (hi : zins g F tg i K len pc ls st h = some (.inr (.inl (y2, as, rest)))) (hc : zrun g F P f y2 0 (lv_args 0 as) [] h 0 0 = some (v, h2, d1, s1)) : zone g F P f y (pc, ls, st, h, dc, ds) = some (pc + 3, ls, v.toList ++ rest, h2, dc + d1, ds + s1) := by
  simp only [zone, hP, hi, hc]
theorem zone_stp {g : zCt} {F : zFs} {P : zCd} {f y pc dc ds pc2 len : Nat} {ls ls2 : zL} {st st2 : List Value} {h h2 : zH} {i : Instr} {K : zK} {tg : List Nat} (hP : P y pc = some (i, len, K, tg)) (hi : zins g F tg i K len pc ls st h = some (.inl (pc2, ls2, st2, h2))) : zone g F P f y (pc, ls, st, h, dc, ds) = some (pc2, ls2, st2, h2, dc, ds) := by
  simp only [zone, hP, hi]
set_option maxRecDepth 1000000 in
set_option maxHeartbeats 4000000 in
theorem q4_p7 {j : Int32} (w : Int32) (hj : j.toInt < 0 ∨ 5 < j.toInt) (h : zH) : ∃ f, zgo zg0 zF zP f 105 3 (0, lv_args 0 [.ref 0, .int j, .int w], [], h, 0, 0) = some (7, [(0, .ref 0), (1, .int j), (2, .int w)], [], h, 0, 0) := by
  obtain ⟨f, hf⟩ := q4_nj1 hj h
  exact ⟨f, zgo_st (s2 := (1, [(0, .ref 0), (1, .int j), (2, .int w)], [.int j], h, 0, 0)) rfl (zgo_st (s2 := (4, [(0, .ref 0), (1, .int j), (2, .int w)], [.int 1], h, 0, 0)) (zone_cal (y2 := 144) (as := [.int j]) (rest := []) rfl rfl hf) (zgo_st (s2 := (7, [(0, .ref 0), (1, .int j), (2, .int w)], [], h, 0, 0)) rfl rfl))⟩
set_option maxRecDepth 1000000 in
set_option maxHeartbeats 4000000 in
theorem q4_p87 {j w : Int32} (hj : 0 ≤ j.toInt ∧ j.toInt ≤ 5) (hw : w.toInt < 0 ∨ 3 < w.toInt) (h : zH) : ∃ f, zgo zg0 zF zP f 105 5 (0, lv_args 0 [.ref 0, .int j, .int w], [], h, 0, 0) = some (87, [(0, .ref 0), (1, .int j), (2, .int w)], [], h, 0, 0) := by
  obtain ⟨f, hf⟩ := q4_njC hj h
  refine ⟨f, zgo_st (s2 := (1, [(0, .ref 0), (1, .int j), (2, .int w)], [.int j], h, 0, 0)) rfl (zgo_st (s2 := (4, [(0, .ref 0), (1, .int j), (2, .int w)], [.int 0], h, 0, 0)) (zone_cal (y2 := 144) (as := [.int j]) (rest := []) rfl rfl hf) (zgo_st (s2 := (17, [(0, .ref 0), (1, .int j), (2, .int w)], [], h, 0, 0)) rfl (zgo_st (s2 := (18, [(0, .ref 0), (1, .int j), (2, .int w)], [.int w], h, 0, 0)) rfl (zgo_st (s2 := (87, [(0, .ref 0), (1, .int j), (2, .int w)], [], h, 0, 0)) (zone_stp rfl ?_) rfl))))⟩
  show (bif decide (w.toInt < (0 : Int)) || decide ((3 : Int) < w.toInt) then zs 87 _ _ _ else _) = _
  rw [show (decide (w.toInt < (0 : Int)) || decide ((3 : Int) < w.toInt)) = true by simpa using hw]
  rfl
set_option maxRecDepth 1000000 in
set_option maxHeartbeats 4000000 in
theorem m_j1A {h : zH} {fs : List Value} {j w : Int32} (hj : j.toInt < 0) (hM : zat h 162 = some (.inr (.inr (.inr (10, fs))))) (hC : mC fs) : wq 210 0 [(0, .ref 162), (1, .int j), (2, .int w)] [] h 0 0 (fun r => ∃ (h2 : zH) (fs2 : List Value), r = (some (.int 0), h2, 0, 0) ∧ zat h2 162 = some (.inr (.inr (.inr (10, fs2)))) ∧ fs2[0]? = some (.int 1)) := by
  have e6 : (6 : Int32).toInt = 6 := rfl
  have e5 : (5 : Int32).toInt = 5 := rfl
  have e3 : (3 : Int32).toInt = 3 := rfl
  refine wq_gos (f := 1) (pc2 := 2) (ls2 := [(0, .ref 162), (1, .int j), (2, .int w)]) (st2 := [.int 0, .ref 162]) (h2 := h) (dc2 := 0) (ds2 := 0) 2 rfl ?_
  refine wq_putf rfl hM rfl (by rw [hC.1]; rfl) rfl ?_
  intro h1x e2x f3x l4x
  obtain ⟨fs5x, hf6x⟩ : ∃ x, x = fs.set 0 (.int 0) := ⟨_, rfl⟩
  rw [← hf6x] at e2x
  have hC7x : mC fs5x := by rw [hf6x]; exact mC_set hC (by decide) _
  have p8x : fs5x[0]? = some (.int 0) := by rw [hf6x]; exact List.getElem?_set_self (by rw [hC.1]; decide)
  refine wq_gos (f := 1) (pc2 := 6) (ls2 := [(0, .ref 162), (1, .int j), (2, .int w)]) (st2 := [.int j]) (h2 := h1x) (dc2 := 0) (ds2 := 0) 1 rfl ?_
  refine wq_inl (y2 := 208) (as := [.int j]) rfl rfl rfl ?_
  show wq 208 0 [(0, .int j)] [] h1x 0 0 _
  refine wq_gos (f := 1) (pc2 := 1) (ls2 := [(0, .int j)]) (st2 := [.int j]) (h2 := h1x) (dc2 := 0) (ds2 := 0) 1 rfl ?_
  refine wq_lt0t rfl (by omega) ?_
  refine wq_gos (f := 1) (pc2 := 15) (ls2 := [(0, .int j)]) (st2 := [.int 0]) (h2 := h1x) (dc2 := 0) (ds2 := 0) 1 rfl ?_
  refine wq_ret rfl rfl ?_
  show wq 210 9 [(0, .ref 162), (1, .int j), (2, .int w)] [.int 0] h1x 0 0 _
  refine wq_gos (f := 1) (pc2 := 14) (ls2 := [(0, .ref 162), (1, .int j), (2, .int w)]) (st2 := [.int 1, .ref 162]) (h2 := h1x) (dc2 := 0) (ds2 := 0) 3 rfl ?_
  refine wq_putf rfl e2x rfl (by rw [hC7x.1]; rfl) rfl ?_
  intro h9x e10x f11x l12x
  obtain ⟨fs13x, hf14x⟩ : ∃ x, x = fs5x.set 0 (.int 1) := ⟨_, rfl⟩
  rw [← hf14x] at e10x
  have hC15x : mC fs13x := by rw [hf14x]; exact mC_set hC7x (by decide) _
  have p16x : fs13x[0]? = some (.int 1) := by rw [hf14x]; exact List.getElem?_set_self (by rw [hC7x.1]; decide)
  refine wq_gos (f := 1) (pc2 := 18) (ls2 := [(0, .ref 162), (1, .int j), (2, .int w)]) (st2 := [.int 0]) (h2 := h9x) (dc2 := 0) (ds2 := 0) 1 rfl ?_
  exact wq_ret rfl rfl ⟨h9x, fs13x, rfl, e10x, p16x⟩
set_option maxRecDepth 1000000 in
set_option maxHeartbeats 4000000 in
theorem m_j1B {h : zH} {fs : List Value} {j w : Int32} (hj : 5 < j.toInt) (hM : zat h 162 = some (.inr (.inr (.inr (10, fs))))) (hC : mC fs) : wq 210 0 [(0, .ref 162), (1, .int j), (2, .int w)] [] h 0 0 (fun r => ∃ (h2 : zH) (fs2 : List Value), r = (some (.int 0), h2, 0, 0) ∧ zat h2 162 = some (.inr (.inr (.inr (10, fs2)))) ∧ fs2[0]? = some (.int 1)) := by
  have e6 : (6 : Int32).toInt = 6 := rfl
  have e5 : (5 : Int32).toInt = 5 := rfl
  have e3 : (3 : Int32).toInt = 3 := rfl
  refine wq_gos (f := 1) (pc2 := 2) (ls2 := [(0, .ref 162), (1, .int j), (2, .int w)]) (st2 := [.int 0, .ref 162]) (h2 := h) (dc2 := 0) (ds2 := 0) 2 rfl ?_
  refine wq_putf rfl hM rfl (by rw [hC.1]; rfl) rfl ?_
  intro h1x e2x f3x l4x
  obtain ⟨fs5x, hf6x⟩ : ∃ x, x = fs.set 0 (.int 0) := ⟨_, rfl⟩
  rw [← hf6x] at e2x
  have hC7x : mC fs5x := by rw [hf6x]; exact mC_set hC (by decide) _
  have p8x : fs5x[0]? = some (.int 0) := by rw [hf6x]; exact List.getElem?_set_self (by rw [hC.1]; decide)
  refine wq_gos (f := 1) (pc2 := 6) (ls2 := [(0, .ref 162), (1, .int j), (2, .int w)]) (st2 := [.int j]) (h2 := h1x) (dc2 := 0) (ds2 := 0) 1 rfl ?_
  refine wq_inl (y2 := 208) (as := [.int j]) rfl rfl rfl ?_
  show wq 208 0 [(0, .int j)] [] h1x 0 0 _
  refine wq_gos (f := 1) (pc2 := 1) (ls2 := [(0, .int j)]) (st2 := [.int j]) (h2 := h1x) (dc2 := 0) (ds2 := 0) 1 rfl ?_
  refine wq_lt0f rfl rfl (by omega) ?_
  refine wq_gos (f := 1) (pc2 := 7) (ls2 := [(0, .int j)]) (st2 := [.int 6, .int j]) (h2 := h1x) (dc2 := 0) (ds2 := 0) 2 rfl ?_
  refine wq_ge2t rfl (by omega) ?_
  refine wq_gos (f := 1) (pc2 := 15) (ls2 := [(0, .int j)]) (st2 := [.int 0]) (h2 := h1x) (dc2 := 0) (ds2 := 0) 1 rfl ?_
  refine wq_ret rfl rfl ?_
  show wq 210 9 [(0, .ref 162), (1, .int j), (2, .int w)] [.int 0] h1x 0 0 _
  refine wq_gos (f := 1) (pc2 := 14) (ls2 := [(0, .ref 162), (1, .int j), (2, .int w)]) (st2 := [.int 1, .ref 162]) (h2 := h1x) (dc2 := 0) (ds2 := 0) 3 rfl ?_
  refine wq_putf rfl e2x rfl (by rw [hC7x.1]; rfl) rfl ?_
  intro h9x e10x f11x l12x
  obtain ⟨fs13x, hf14x⟩ : ∃ x, x = fs5x.set 0 (.int 1) := ⟨_, rfl⟩
  rw [← hf14x] at e10x
  have hC15x : mC fs13x := by rw [hf14x]; exact mC_set hC7x (by decide) _
  have p16x : fs13x[0]? = some (.int 1) := by rw [hf14x]; exact List.getElem?_set_self (by rw [hC7x.1]; decide)
  refine wq_gos (f := 1) (pc2 := 18) (ls2 := [(0, .ref 162), (1, .int j), (2, .int w)]) (st2 := [.int 0]) (h2 := h9x) (dc2 := 0) (ds2 := 0) 1 rfl ?_
  exact wq_ret rfl rfl ⟨h9x, fs13x, rfl, e10x, p16x⟩
set_option maxRecDepth 1000000 in
set_option maxHeartbeats 4000000 in
theorem m_j2A {h : zH} {fs : List Value} {j w : Int32} (hj : 0 ≤ j.toInt ∧ j.toInt ≤ 5) (hw : w.toInt < 0) (hM : zat h 162 = some (.inr (.inr (.inr (10, fs))))) (hC : mC fs) : wq 210 0 [(0, .ref 162), (1, .int j), (2, .int w)] [] h 0 0 (fun r => ∃ (h2 : zH) (fs2 : List Value), r = (some (.int 0), h2, 0, 0) ∧ zat h2 162 = some (.inr (.inr (.inr (10, fs2)))) ∧ fs2[0]? = some (.int 2)) := by
  have e6 : (6 : Int32).toInt = 6 := rfl
  have e5 : (5 : Int32).toInt = 5 := rfl
  have e3 : (3 : Int32).toInt = 3 := rfl
  refine wq_gos (f := 1) (pc2 := 2) (ls2 := [(0, .ref 162), (1, .int j), (2, .int w)]) (st2 := [.int 0, .ref 162]) (h2 := h) (dc2 := 0) (ds2 := 0) 2 rfl ?_
  refine wq_putf rfl hM rfl (by rw [hC.1]; rfl) rfl ?_
  intro h1x e2x f3x l4x
  obtain ⟨fs5x, hf6x⟩ : ∃ x, x = fs.set 0 (.int 0) := ⟨_, rfl⟩
  rw [← hf6x] at e2x
  have hC7x : mC fs5x := by rw [hf6x]; exact mC_set hC (by decide) _
  have p8x : fs5x[0]? = some (.int 0) := by rw [hf6x]; exact List.getElem?_set_self (by rw [hC.1]; decide)
  refine wq_gos (f := 1) (pc2 := 6) (ls2 := [(0, .ref 162), (1, .int j), (2, .int w)]) (st2 := [.int j]) (h2 := h1x) (dc2 := 0) (ds2 := 0) 1 rfl ?_
  refine wq_inl (y2 := 208) (as := [.int j]) rfl rfl rfl ?_
  show wq 208 0 [(0, .int j)] [] h1x 0 0 _
  refine wq_gos (f := 1) (pc2 := 1) (ls2 := [(0, .int j)]) (st2 := [.int j]) (h2 := h1x) (dc2 := 0) (ds2 := 0) 1 rfl ?_
  refine wq_lt0f rfl rfl (by omega) ?_
  refine wq_gos (f := 1) (pc2 := 7) (ls2 := [(0, .int j)]) (st2 := [.int 6, .int j]) (h2 := h1x) (dc2 := 0) (ds2 := 0) 2 rfl ?_
  refine wq_ge2f rfl rfl (by omega) ?_
  refine wq_gos (f := 1) (pc2 := 15) (ls2 := [(0, .int j)]) (st2 := [.int 1]) (h2 := h1x) (dc2 := 0) (ds2 := 0) 2 rfl ?_
  refine wq_ret rfl rfl ?_
  show wq 210 9 [(0, .ref 162), (1, .int j), (2, .int w)] [.int 1] h1x 0 0 _
  refine wq_gos (f := 1) (pc2 := 20) (ls2 := [(0, .ref 162), (1, .int j), (2, .int w)]) (st2 := [.int w]) (h2 := h1x) (dc2 := 0) (ds2 := 0) 2 rfl ?_
  refine wq_lt0t rfl (by omega) ?_
  refine wq_gos (f := 1) (pc2 := 30) (ls2 := [(0, .ref 162), (1, .int j), (2, .int w)]) (st2 := [.int 2, .ref 162]) (h2 := h1x) (dc2 := 0) (ds2 := 0) 2 rfl ?_
  refine wq_putf rfl e2x rfl (by rw [hC7x.1]; rfl) rfl ?_
  intro h9x e10x f11x l12x
  obtain ⟨fs13x, hf14x⟩ : ∃ x, x = fs5x.set 0 (.int 2) := ⟨_, rfl⟩
  rw [← hf14x] at e10x
  have hC15x : mC fs13x := by rw [hf14x]; exact mC_set hC7x (by decide) _
  have p16x : fs13x[0]? = some (.int 2) := by rw [hf14x]; exact List.getElem?_set_self (by rw [hC7x.1]; decide)
  refine wq_gos (f := 1) (pc2 := 34) (ls2 := [(0, .ref 162), (1, .int j), (2, .int w)]) (st2 := [.int 0]) (h2 := h9x) (dc2 := 0) (ds2 := 0) 1 rfl ?_
  exact wq_ret rfl rfl ⟨h9x, fs13x, rfl, e10x, p16x⟩
set_option maxRecDepth 1000000 in
set_option maxHeartbeats 4000000 in
theorem m_j2B {h : zH} {fs : List Value} {j w : Int32} (hj : 0 ≤ j.toInt ∧ j.toInt ≤ 5) (hw : 3 < w.toInt) (hM : zat h 162 = some (.inr (.inr (.inr (10, fs))))) (hC : mC fs) : wq 210 0 [(0, .ref 162), (1, .int j), (2, .int w)] [] h 0 0 (fun r => ∃ (h2 : zH) (fs2 : List Value), r = (some (.int 0), h2, 0, 0) ∧ zat h2 162 = some (.inr (.inr (.inr (10, fs2)))) ∧ fs2[0]? = some (.int 2)) := by
  have e6 : (6 : Int32).toInt = 6 := rfl
  have e5 : (5 : Int32).toInt = 5 := rfl
  have e3 : (3 : Int32).toInt = 3 := rfl
  refine wq_gos (f := 1) (pc2 := 2) (ls2 := [(0, .ref 162), (1, .int j), (2, .int w)]) (st2 := [.int 0, .ref 162]) (h2 := h) (dc2 := 0) (ds2 := 0) 2 rfl ?_
  refine wq_putf rfl hM rfl (by rw [hC.1]; rfl) rfl ?_
  intro h1x e2x f3x l4x
  obtain ⟨fs5x, hf6x⟩ : ∃ x, x = fs.set 0 (.int 0) := ⟨_, rfl⟩
  rw [← hf6x] at e2x
  have hC7x : mC fs5x := by rw [hf6x]; exact mC_set hC (by decide) _
  have p8x : fs5x[0]? = some (.int 0) := by rw [hf6x]; exact List.getElem?_set_self (by rw [hC.1]; decide)
  refine wq_gos (f := 1) (pc2 := 6) (ls2 := [(0, .ref 162), (1, .int j), (2, .int w)]) (st2 := [.int j]) (h2 := h1x) (dc2 := 0) (ds2 := 0) 1 rfl ?_
  refine wq_inl (y2 := 208) (as := [.int j]) rfl rfl rfl ?_
  show wq 208 0 [(0, .int j)] [] h1x 0 0 _
  refine wq_gos (f := 1) (pc2 := 1) (ls2 := [(0, .int j)]) (st2 := [.int j]) (h2 := h1x) (dc2 := 0) (ds2 := 0) 1 rfl ?_
  refine wq_lt0f rfl rfl (by omega) ?_
  refine wq_gos (f := 1) (pc2 := 7) (ls2 := [(0, .int j)]) (st2 := [.int 6, .int j]) (h2 := h1x) (dc2 := 0) (ds2 := 0) 2 rfl ?_
  refine wq_ge2f rfl rfl (by omega) ?_
  refine wq_gos (f := 1) (pc2 := 15) (ls2 := [(0, .int j)]) (st2 := [.int 1]) (h2 := h1x) (dc2 := 0) (ds2 := 0) 2 rfl ?_
  refine wq_ret rfl rfl ?_
  show wq 210 9 [(0, .ref 162), (1, .int j), (2, .int w)] [.int 1] h1x 0 0 _
  refine wq_gos (f := 1) (pc2 := 20) (ls2 := [(0, .ref 162), (1, .int j), (2, .int w)]) (st2 := [.int w]) (h2 := h1x) (dc2 := 0) (ds2 := 0) 2 rfl ?_
  refine wq_lt0f rfl rfl (by omega) ?_
  refine wq_gos (f := 1) (pc2 := 25) (ls2 := [(0, .ref 162), (1, .int j), (2, .int w)]) (st2 := [.int 3, .int w]) (h2 := h1x) (dc2 := 0) (ds2 := 0) 2 rfl ?_
  refine wq_le2f rfl rfl (by omega) ?_
  refine wq_gos (f := 1) (pc2 := 30) (ls2 := [(0, .ref 162), (1, .int j), (2, .int w)]) (st2 := [.int 2, .ref 162]) (h2 := h1x) (dc2 := 0) (ds2 := 0) 2 rfl ?_
  refine wq_putf rfl e2x rfl (by rw [hC7x.1]; rfl) rfl ?_
  intro h9x e10x f11x l12x
  obtain ⟨fs13x, hf14x⟩ : ∃ x, x = fs5x.set 0 (.int 2) := ⟨_, rfl⟩
  rw [← hf14x] at e10x
  have hC15x : mC fs13x := by rw [hf14x]; exact mC_set hC7x (by decide) _
  have p16x : fs13x[0]? = some (.int 2) := by rw [hf14x]; exact List.getElem?_set_self (by rw [hC7x.1]; decide)
  refine wq_gos (f := 1) (pc2 := 34) (ls2 := [(0, .ref 162), (1, .int j), (2, .int w)]) (st2 := [.int 0]) (h2 := h9x) (dc2 := 0) (ds2 := 0) 1 rfl ?_
  exact wq_ret rfl rfl ⟨h9x, fs13x, rfl, e10x, p16x⟩
theorem m_thr {h : zH} {fs : List Value} {k : Int32} (hX : zat h 162 = some (.inr (.inr (.inr (10, fs))))) (h0 : fs[0]? = some (.int k)) : zT zg0 zF zP 154 0 [(0, .ref 162)] [] h 0 0 (some (.int k), h, 0, 0) := by
  apply wq_toT
  refine wq_gos (f := 1) (pc2 := 1) (ls2 := [(0, .ref 162)]) (st2 := [.ref 162]) (h2 := h) (dc2 := 0) (ds2 := 0) 1 rfl ?_
  refine wq_getf rfl hX h0 rfl ?_
  exact wq_ret rfl rfl rfl
set_option maxRecDepth 1000000 in
set_option maxHeartbeats 4000000 in
theorem q4_rt1 (xs : Nat → Int32) {dc ds : Nat} {h2 : zH} {fs2 : List Value} (hm : zT zg0 zF zP 210 0 [(0, .ref 162), (1, .int (xs 1)), (2, .int (xs 2))] [] zH0 0 0 (some (.int 0), h2, 0, 0)) (hX : zat h2 162 = some (.inr (.inr (.inr (10, fs2))))) (h0 : fs2[0]? = some (.int 1)) : zT (zg 6 xs) zF zP 288 389 [(4, .int 0), (3, .ref 232), (2, .ref 162), (1, .ref 0), (0, .ref 11)] [.int 1] zH0 dc ds (some (.int 1), h2, dc, ds) := by
  refine zT_gos (f := 200000) (pc2 := 404) (ls2 := [(5, .int 1), (4, .int 0), (3, .ref 232), (2, .ref 162), (1, .ref 0), (0, .ref 11)]) (st2 := [.int (xs 2), .int (xs 1), .ref 162]) (h2 := zH0) (dc2 := dc) (ds2 := ds) 12 rfl ?_
  refine zT_call (y2 := 210) (as := [.ref 162, .int (xs 1), .int (xs 2)]) rfl rfl (zT_le (zg0_le 6 xs) hm) ?_
  refine zT_here (pc2 := 407) rfl ?_
  refine zT_gos (f := 200000) (pc2 := 410) (ls2 := [(6, .int 0), (5, .int 1), (4, .int 0), (3, .ref 232), (2, .ref 162), (1, .ref 0), (0, .ref 11)]) (st2 := [.ref 162]) (h2 := h2) (dc2 := dc) (ds2 := ds) 2 rfl ?_
  refine zT_calv (y2 := 154) (as := []) rfl rfl hX rfl (zT_le (zg0_le 6 xs) (m_thr hX h0)) ?_
  refine zT_here (pc2 := 413) rfl ?_
  refine zT_gos (f := 200000) (pc2 := 1811) (ls2 := [(4, .int 6), (6, .int 0), (5, .int 1), (3, .ref 232), (2, .ref 162), (1, .ref 0), (0, .ref 11)]) (st2 := [.int 1]) (h2 := h2) (dc2 := dc) (ds2 := ds) 14 rfl ?_
  exact zT_ret rfl rfl
set_option maxRecDepth 1000000 in
set_option maxHeartbeats 4000000 in
theorem q4_rt2 (xs : Nat → Int32) {dc ds : Nat} {h2 : zH} {fs2 : List Value} (hm : zT zg0 zF zP 210 0 [(0, .ref 162), (1, .int (xs 1)), (2, .int (xs 2))] [] zH0 0 0 (some (.int 0), h2, 0, 0)) (hX : zat h2 162 = some (.inr (.inr (.inr (10, fs2))))) (h0 : fs2[0]? = some (.int 2)) : zT (zg 6 xs) zF zP 288 389 [(4, .int 0), (3, .ref 232), (2, .ref 162), (1, .ref 0), (0, .ref 11)] [.int 2] zH0 dc ds (some (.int 1), h2, dc, ds) := by
  refine zT_gos (f := 200000) (pc2 := 404) (ls2 := [(5, .int 2), (4, .int 0), (3, .ref 232), (2, .ref 162), (1, .ref 0), (0, .ref 11)]) (st2 := [.int (xs 2), .int (xs 1), .ref 162]) (h2 := zH0) (dc2 := dc) (ds2 := ds) 12 rfl ?_
  refine zT_call (y2 := 210) (as := [.ref 162, .int (xs 1), .int (xs 2)]) rfl rfl (zT_le (zg0_le 6 xs) hm) ?_
  refine zT_here (pc2 := 407) rfl ?_
  refine zT_gos (f := 200000) (pc2 := 410) (ls2 := [(6, .int 0), (5, .int 2), (4, .int 0), (3, .ref 232), (2, .ref 162), (1, .ref 0), (0, .ref 11)]) (st2 := [.ref 162]) (h2 := h2) (dc2 := dc) (ds2 := ds) 2 rfl ?_
  refine zT_calv (y2 := 154) (as := []) rfl rfl hX rfl (zT_le (zg0_le 6 xs) (m_thr hX h0)) ?_
  refine zT_here (pc2 := 413) rfl ?_
  refine zT_gos (f := 200000) (pc2 := 1811) (ls2 := [(4, .int 6), (6, .int 0), (5, .int 2), (3, .ref 232), (2, .ref 162), (1, .ref 0), (0, .ref 11)]) (st2 := [.int 1]) (h2 := h2) (dc2 := dc) (ds2 := ds) 14 rfl ?_
  exact zT_ret rfl rfl
set_option maxRecDepth 1000000 in
theorem q4_c00 : zT zg0 zF zP 105 0 (lv_args 0 [.ref 0, .int 0, .int 0]) [] zH0 0 0 (some (.int 0), zH0, 0, 0) := ⟨60, rfl⟩
set_option maxRecDepth 1000000 in
set_option maxHeartbeats 4000000 in
theorem q4_r00 (xs : Nat → Int32) (h1 : xs 1 = 0) (h2 : xs 2 = 0) : zT (zg 6 xs) zF zP 288 389 [(4, .int 0), (3, .ref 232), (2, .ref 162), (1, .ref 0), (0, .ref 11)] [.int 0] (zH0.set 116 (.inr (.inl (1, zset 0 [] 0 (0 : Int32).toInt64)))) 117 29934 (some (.int 1), (zH0.set 116 (.inr (.inl (1, zset 0 [] 0 (0 : Int32).toInt64)))), 117, 29934) := by
  refine zT_gos (f := 200000) (pc2 := 404) (ls2 := [(5, .int 0), (4, .int 0), (3, .ref 232), (2, .ref 162), (1, .ref 0), (0, .ref 11)]) (st2 := [.int (xs 2), .int (xs 1), .ref 162]) (h2 := (zH0.set 116 (.inr (.inl (1, zset 0 [] 0 (0 : Int32).toInt64))))) (dc2 := 117) (ds2 := 29934) 12 rfl ?_
  rw [h1, h2]
  refine zT_gos (f := 60) (pc2 := 1811) (ls2 := [(4, .int 6), (6, .int 0), (5, .int 0), (3, .ref 232), (2, .ref 162), (1, .ref 0), (0, .ref 11)]) (st2 := [.int 1]) (h2 := (zH0.set 116 (.inr (.inl (1, zset 0 [] 0 (0 : Int32).toInt64))))) (dc2 := 117) (ds2 := 29934) 25 rfl ?_
  exact zT_ret rfl rfl
set_option maxRecDepth 1000000 in
theorem q4_c01 : zT zg0 zF zP 105 0 (lv_args 0 [.ref 0, .int 0, .int 1]) [] zH0 0 0 (some (.int 0), zH0, 0, 0) := ⟨60, rfl⟩
set_option maxRecDepth 1000000 in
set_option maxHeartbeats 4000000 in
theorem q4_r01 (xs : Nat → Int32) (h1 : xs 1 = 0) (h2 : xs 2 = 1) : zT (zg 6 xs) zF zP 288 389 [(4, .int 0), (3, .ref 232), (2, .ref 162), (1, .ref 0), (0, .ref 11)] [.int 0] (zH0.set 116 (.inr (.inl (1, zset 0 [] 0 (0 : Int32).toInt64)))) 117 29934 (some (.int 1), (zH0.set 116 (.inr (.inl (1, zset 0 [] 0 (0 : Int32).toInt64)))), 117, 29934) := by
  refine zT_gos (f := 200000) (pc2 := 404) (ls2 := [(5, .int 0), (4, .int 0), (3, .ref 232), (2, .ref 162), (1, .ref 0), (0, .ref 11)]) (st2 := [.int (xs 2), .int (xs 1), .ref 162]) (h2 := (zH0.set 116 (.inr (.inl (1, zset 0 [] 0 (0 : Int32).toInt64))))) (dc2 := 117) (ds2 := 29934) 12 rfl ?_
  rw [h1, h2]
  refine zT_gos (f := 60) (pc2 := 1811) (ls2 := [(4, .int 6), (6, .int 0), (5, .int 0), (3, .ref 232), (2, .ref 162), (1, .ref 0), (0, .ref 11)]) (st2 := [.int 1]) (h2 := (zH0.set 116 (.inr (.inl (1, zset 0 [] 0 (0 : Int32).toInt64))))) (dc2 := 117) (ds2 := 29934) 25 rfl ?_
  exact zT_ret rfl rfl
set_option maxRecDepth 1000000 in
theorem q4_c02 : zT zg0 zF zP 105 0 (lv_args 0 [.ref 0, .int 0, .int 2]) [] zH0 0 0 (some (.int 99), zH0, 0, 0) := ⟨60, rfl⟩
set_option maxRecDepth 1000000 in
set_option maxHeartbeats 4000000 in
theorem q4_r02 (xs : Nat → Int32) (h1 : xs 1 = 0) (h2 : xs 2 = 2) : zT (zg 6 xs) zF zP 288 389 [(4, .int 0), (3, .ref 232), (2, .ref 162), (1, .ref 0), (0, .ref 11)] [.int 0] (zH0.set 116 (.inr (.inl (1, zset 0 [] 0 (99 : Int32).toInt64)))) 117 29934 (some (.int 1), (zH0.set 116 (.inr (.inl (1, zset 0 [] 0 (99 : Int32).toInt64)))), 117, 29934) := by
  refine zT_gos (f := 200000) (pc2 := 404) (ls2 := [(5, .int 0), (4, .int 0), (3, .ref 232), (2, .ref 162), (1, .ref 0), (0, .ref 11)]) (st2 := [.int (xs 2), .int (xs 1), .ref 162]) (h2 := (zH0.set 116 (.inr (.inl (1, zset 0 [] 0 (99 : Int32).toInt64))))) (dc2 := 117) (ds2 := 29934) 12 rfl ?_
  rw [h1, h2]
  refine zT_gos (f := 60) (pc2 := 1811) (ls2 := [(4, .int 6), (6, .int 99), (5, .int 0), (3, .ref 232), (2, .ref 162), (1, .ref 0), (0, .ref 11)]) (st2 := [.int 1]) (h2 := (zH0.set 116 (.inr (.inl (1, zset 0 [] 0 (99 : Int32).toInt64))))) (dc2 := 117) (ds2 := 29934) 25 rfl ?_
  exact zT_ret rfl rfl
set_option maxRecDepth 1000000 in
theorem q4_c03 : zT zg0 zF zP 105 0 (lv_args 0 [.ref 0, .int 0, .int 3]) [] zH0 0 0 (some (.int 4), zH0, 0, 0) := ⟨60, rfl⟩
set_option maxRecDepth 1000000 in
set_option maxHeartbeats 4000000 in
theorem q4_r03 (xs : Nat → Int32) (h1 : xs 1 = 0) (h2 : xs 2 = 3) : zT (zg 6 xs) zF zP 288 389 [(4, .int 0), (3, .ref 232), (2, .ref 162), (1, .ref 0), (0, .ref 11)] [.int 0] (zH0.set 116 (.inr (.inl (1, zset 0 [] 0 (4 : Int32).toInt64)))) 117 29934 (some (.int 1), (zH0.set 116 (.inr (.inl (1, zset 0 [] 0 (4 : Int32).toInt64)))), 117, 29934) := by
  refine zT_gos (f := 200000) (pc2 := 404) (ls2 := [(5, .int 0), (4, .int 0), (3, .ref 232), (2, .ref 162), (1, .ref 0), (0, .ref 11)]) (st2 := [.int (xs 2), .int (xs 1), .ref 162]) (h2 := (zH0.set 116 (.inr (.inl (1, zset 0 [] 0 (4 : Int32).toInt64))))) (dc2 := 117) (ds2 := 29934) 12 rfl ?_
  rw [h1, h2]
  refine zT_gos (f := 60) (pc2 := 1811) (ls2 := [(4, .int 6), (6, .int 4), (5, .int 0), (3, .ref 232), (2, .ref 162), (1, .ref 0), (0, .ref 11)]) (st2 := [.int 1]) (h2 := (zH0.set 116 (.inr (.inl (1, zset 0 [] 0 (4 : Int32).toInt64))))) (dc2 := 117) (ds2 := 29934) 25 rfl ?_
  exact zT_ret rfl rfl
set_option maxRecDepth 1000000 in
theorem q4_c10 : zT zg0 zF zP 105 0 (lv_args 0 [.ref 0, .int 1, .int 0]) [] zH0 0 0 (some (.int 0), zH0, 0, 0) := ⟨60, rfl⟩
set_option maxRecDepth 1000000 in
set_option maxHeartbeats 4000000 in
theorem q4_r10 (xs : Nat → Int32) (h1 : xs 1 = 1) (h2 : xs 2 = 0) : zT (zg 6 xs) zF zP 288 389 [(4, .int 0), (3, .ref 232), (2, .ref 162), (1, .ref 0), (0, .ref 11)] [.int 0] (zH0.set 116 (.inr (.inl (1, zset 0 [] 0 (0 : Int32).toInt64)))) 117 29934 (some (.int 1), (zH0.set 116 (.inr (.inl (1, zset 0 [] 0 (0 : Int32).toInt64)))), 117, 29934) := by
  refine zT_gos (f := 200000) (pc2 := 404) (ls2 := [(5, .int 0), (4, .int 0), (3, .ref 232), (2, .ref 162), (1, .ref 0), (0, .ref 11)]) (st2 := [.int (xs 2), .int (xs 1), .ref 162]) (h2 := (zH0.set 116 (.inr (.inl (1, zset 0 [] 0 (0 : Int32).toInt64))))) (dc2 := 117) (ds2 := 29934) 12 rfl ?_
  rw [h1, h2]
  refine zT_gos (f := 60) (pc2 := 1811) (ls2 := [(4, .int 6), (6, .int 0), (5, .int 0), (3, .ref 232), (2, .ref 162), (1, .ref 0), (0, .ref 11)]) (st2 := [.int 1]) (h2 := (zH0.set 116 (.inr (.inl (1, zset 0 [] 0 (0 : Int32).toInt64))))) (dc2 := 117) (ds2 := 29934) 25 rfl ?_
  exact zT_ret rfl rfl
set_option maxRecDepth 1000000 in
theorem q4_c11 : zT zg0 zF zP 105 0 (lv_args 0 [.ref 0, .int 1, .int 1]) [] zH0 0 0 (some (.int (-32)), zH0, 0, 0) := ⟨60, rfl⟩
set_option maxRecDepth 1000000 in
set_option maxHeartbeats 4000000 in
theorem q4_r11 (xs : Nat → Int32) (h1 : xs 1 = 1) (h2 : xs 2 = 1) : zT (zg 6 xs) zF zP 288 389 [(4, .int 0), (3, .ref 232), (2, .ref 162), (1, .ref 0), (0, .ref 11)] [.int 0] (zH0.set 116 (.inr (.inl (1, zset 0 [] 0 ((-32) : Int32).toInt64)))) 117 29934 (some (.int 1), (zH0.set 116 (.inr (.inl (1, zset 0 [] 0 ((-32) : Int32).toInt64)))), 117, 29934) := by
  refine zT_gos (f := 200000) (pc2 := 404) (ls2 := [(5, .int 0), (4, .int 0), (3, .ref 232), (2, .ref 162), (1, .ref 0), (0, .ref 11)]) (st2 := [.int (xs 2), .int (xs 1), .ref 162]) (h2 := (zH0.set 116 (.inr (.inl (1, zset 0 [] 0 ((-32) : Int32).toInt64))))) (dc2 := 117) (ds2 := 29934) 12 rfl ?_
  rw [h1, h2]
  refine zT_gos (f := 60) (pc2 := 1811) (ls2 := [(4, .int 6), (6, .int (-32)), (5, .int 0), (3, .ref 232), (2, .ref 162), (1, .ref 0), (0, .ref 11)]) (st2 := [.int 1]) (h2 := (zH0.set 116 (.inr (.inl (1, zset 0 [] 0 ((-32) : Int32).toInt64))))) (dc2 := 117) (ds2 := 29934) 25 rfl ?_
  exact zT_ret rfl rfl
set_option maxRecDepth 1000000 in
theorem q4_c12 : zT zg0 zF zP 105 0 (lv_args 0 [.ref 0, .int 1, .int 2]) [] zH0 0 0 (some (.int 31), zH0, 0, 0) := ⟨60, rfl⟩
set_option maxRecDepth 1000000 in
set_option maxHeartbeats 4000000 in
theorem q4_r12 (xs : Nat → Int32) (h1 : xs 1 = 1) (h2 : xs 2 = 2) : zT (zg 6 xs) zF zP 288 389 [(4, .int 0), (3, .ref 232), (2, .ref 162), (1, .ref 0), (0, .ref 11)] [.int 0] (zH0.set 116 (.inr (.inl (1, zset 0 [] 0 (31 : Int32).toInt64)))) 117 29934 (some (.int 1), (zH0.set 116 (.inr (.inl (1, zset 0 [] 0 (31 : Int32).toInt64)))), 117, 29934) := by
  refine zT_gos (f := 200000) (pc2 := 404) (ls2 := [(5, .int 0), (4, .int 0), (3, .ref 232), (2, .ref 162), (1, .ref 0), (0, .ref 11)]) (st2 := [.int (xs 2), .int (xs 1), .ref 162]) (h2 := (zH0.set 116 (.inr (.inl (1, zset 0 [] 0 (31 : Int32).toInt64))))) (dc2 := 117) (ds2 := 29934) 12 rfl ?_
  rw [h1, h2]
  refine zT_gos (f := 60) (pc2 := 1811) (ls2 := [(4, .int 6), (6, .int 31), (5, .int 0), (3, .ref 232), (2, .ref 162), (1, .ref 0), (0, .ref 11)]) (st2 := [.int 1]) (h2 := (zH0.set 116 (.inr (.inl (1, zset 0 [] 0 (31 : Int32).toInt64))))) (dc2 := 117) (ds2 := 29934) 25 rfl ?_
  exact zT_ret rfl rfl
set_option maxRecDepth 1000000 in
theorem q4_c13 : zT zg0 zF zP 105 0 (lv_args 0 [.ref 0, .int 1, .int 3]) [] zH0 0 0 (some (.int 4), zH0, 0, 0) := ⟨60, rfl⟩
set_option maxRecDepth 1000000 in
set_option maxHeartbeats 4000000 in
theorem q4_r13 (xs : Nat → Int32) (h1 : xs 1 = 1) (h2 : xs 2 = 3) : zT (zg 6 xs) zF zP 288 389 [(4, .int 0), (3, .ref 232), (2, .ref 162), (1, .ref 0), (0, .ref 11)] [.int 0] (zH0.set 116 (.inr (.inl (1, zset 0 [] 0 (4 : Int32).toInt64)))) 117 29934 (some (.int 1), (zH0.set 116 (.inr (.inl (1, zset 0 [] 0 (4 : Int32).toInt64)))), 117, 29934) := by
  refine zT_gos (f := 200000) (pc2 := 404) (ls2 := [(5, .int 0), (4, .int 0), (3, .ref 232), (2, .ref 162), (1, .ref 0), (0, .ref 11)]) (st2 := [.int (xs 2), .int (xs 1), .ref 162]) (h2 := (zH0.set 116 (.inr (.inl (1, zset 0 [] 0 (4 : Int32).toInt64))))) (dc2 := 117) (ds2 := 29934) 12 rfl ?_
  rw [h1, h2]
  refine zT_gos (f := 60) (pc2 := 1811) (ls2 := [(4, .int 6), (6, .int 4), (5, .int 0), (3, .ref 232), (2, .ref 162), (1, .ref 0), (0, .ref 11)]) (st2 := [.int 1]) (h2 := (zH0.set 116 (.inr (.inl (1, zset 0 [] 0 (4 : Int32).toInt64))))) (dc2 := 117) (ds2 := 29934) 25 rfl ?_
  exact zT_ret rfl rfl
set_option maxRecDepth 1000000 in
theorem q4_c20 : zT zg0 zF zP 105 0 (lv_args 0 [.ref 0, .int 2, .int 0]) [] zH0 0 0 (some (.int 0), zH0, 0, 0) := ⟨60, rfl⟩
set_option maxRecDepth 1000000 in
set_option maxHeartbeats 4000000 in
theorem q4_r20 (xs : Nat → Int32) (h1 : xs 1 = 2) (h2 : xs 2 = 0) : zT (zg 6 xs) zF zP 288 389 [(4, .int 0), (3, .ref 232), (2, .ref 162), (1, .ref 0), (0, .ref 11)] [.int 0] (zH0.set 116 (.inr (.inl (1, zset 0 [] 0 (0 : Int32).toInt64)))) 117 29934 (some (.int 1), (zH0.set 116 (.inr (.inl (1, zset 0 [] 0 (0 : Int32).toInt64)))), 117, 29934) := by
  refine zT_gos (f := 200000) (pc2 := 404) (ls2 := [(5, .int 0), (4, .int 0), (3, .ref 232), (2, .ref 162), (1, .ref 0), (0, .ref 11)]) (st2 := [.int (xs 2), .int (xs 1), .ref 162]) (h2 := (zH0.set 116 (.inr (.inl (1, zset 0 [] 0 (0 : Int32).toInt64))))) (dc2 := 117) (ds2 := 29934) 12 rfl ?_
  rw [h1, h2]
  refine zT_gos (f := 60) (pc2 := 1811) (ls2 := [(4, .int 6), (6, .int 0), (5, .int 0), (3, .ref 232), (2, .ref 162), (1, .ref 0), (0, .ref 11)]) (st2 := [.int 1]) (h2 := (zH0.set 116 (.inr (.inl (1, zset 0 [] 0 (0 : Int32).toInt64))))) (dc2 := 117) (ds2 := 29934) 25 rfl ?_
  exact zT_ret rfl rfl
set_option maxRecDepth 1000000 in
theorem q4_c21 : zT zg0 zF zP 105 0 (lv_args 0 [.ref 0, .int 2, .int 1]) [] zH0 0 0 (some (.int (-32)), zH0, 0, 0) := ⟨60, rfl⟩
set_option maxRecDepth 1000000 in
set_option maxHeartbeats 4000000 in
theorem q4_r21 (xs : Nat → Int32) (h1 : xs 1 = 2) (h2 : xs 2 = 1) : zT (zg 6 xs) zF zP 288 389 [(4, .int 0), (3, .ref 232), (2, .ref 162), (1, .ref 0), (0, .ref 11)] [.int 0] (zH0.set 116 (.inr (.inl (1, zset 0 [] 0 ((-32) : Int32).toInt64)))) 117 29934 (some (.int 1), (zH0.set 116 (.inr (.inl (1, zset 0 [] 0 ((-32) : Int32).toInt64)))), 117, 29934) := by
  refine zT_gos (f := 200000) (pc2 := 404) (ls2 := [(5, .int 0), (4, .int 0), (3, .ref 232), (2, .ref 162), (1, .ref 0), (0, .ref 11)]) (st2 := [.int (xs 2), .int (xs 1), .ref 162]) (h2 := (zH0.set 116 (.inr (.inl (1, zset 0 [] 0 ((-32) : Int32).toInt64))))) (dc2 := 117) (ds2 := 29934) 12 rfl ?_
  rw [h1, h2]
  refine zT_gos (f := 60) (pc2 := 1811) (ls2 := [(4, .int 6), (6, .int (-32)), (5, .int 0), (3, .ref 232), (2, .ref 162), (1, .ref 0), (0, .ref 11)]) (st2 := [.int 1]) (h2 := (zH0.set 116 (.inr (.inl (1, zset 0 [] 0 ((-32) : Int32).toInt64))))) (dc2 := 117) (ds2 := 29934) 25 rfl ?_
  exact zT_ret rfl rfl
set_option maxRecDepth 1000000 in
theorem q4_c22 : zT zg0 zF zP 105 0 (lv_args 0 [.ref 0, .int 2, .int 2]) [] zH0 0 0 (some (.int 31), zH0, 0, 0) := ⟨60, rfl⟩
set_option maxRecDepth 1000000 in
set_option maxHeartbeats 4000000 in
theorem q4_r22 (xs : Nat → Int32) (h1 : xs 1 = 2) (h2 : xs 2 = 2) : zT (zg 6 xs) zF zP 288 389 [(4, .int 0), (3, .ref 232), (2, .ref 162), (1, .ref 0), (0, .ref 11)] [.int 0] (zH0.set 116 (.inr (.inl (1, zset 0 [] 0 (31 : Int32).toInt64)))) 117 29934 (some (.int 1), (zH0.set 116 (.inr (.inl (1, zset 0 [] 0 (31 : Int32).toInt64)))), 117, 29934) := by
  refine zT_gos (f := 200000) (pc2 := 404) (ls2 := [(5, .int 0), (4, .int 0), (3, .ref 232), (2, .ref 162), (1, .ref 0), (0, .ref 11)]) (st2 := [.int (xs 2), .int (xs 1), .ref 162]) (h2 := (zH0.set 116 (.inr (.inl (1, zset 0 [] 0 (31 : Int32).toInt64))))) (dc2 := 117) (ds2 := 29934) 12 rfl ?_
  rw [h1, h2]
  refine zT_gos (f := 60) (pc2 := 1811) (ls2 := [(4, .int 6), (6, .int 31), (5, .int 0), (3, .ref 232), (2, .ref 162), (1, .ref 0), (0, .ref 11)]) (st2 := [.int 1]) (h2 := (zH0.set 116 (.inr (.inl (1, zset 0 [] 0 (31 : Int32).toInt64))))) (dc2 := 117) (ds2 := 29934) 25 rfl ?_
  exact zT_ret rfl rfl
set_option maxRecDepth 1000000 in
theorem q4_c23 : zT zg0 zF zP 105 0 (lv_args 0 [.ref 0, .int 2, .int 3]) [] zH0 0 0 (some (.int 4), zH0, 0, 0) := ⟨60, rfl⟩
set_option maxRecDepth 1000000 in
set_option maxHeartbeats 4000000 in
theorem q4_r23 (xs : Nat → Int32) (h1 : xs 1 = 2) (h2 : xs 2 = 3) : zT (zg 6 xs) zF zP 288 389 [(4, .int 0), (3, .ref 232), (2, .ref 162), (1, .ref 0), (0, .ref 11)] [.int 0] (zH0.set 116 (.inr (.inl (1, zset 0 [] 0 (4 : Int32).toInt64)))) 117 29934 (some (.int 1), (zH0.set 116 (.inr (.inl (1, zset 0 [] 0 (4 : Int32).toInt64)))), 117, 29934) := by
  refine zT_gos (f := 200000) (pc2 := 404) (ls2 := [(5, .int 0), (4, .int 0), (3, .ref 232), (2, .ref 162), (1, .ref 0), (0, .ref 11)]) (st2 := [.int (xs 2), .int (xs 1), .ref 162]) (h2 := (zH0.set 116 (.inr (.inl (1, zset 0 [] 0 (4 : Int32).toInt64))))) (dc2 := 117) (ds2 := 29934) 12 rfl ?_
  rw [h1, h2]
  refine zT_gos (f := 60) (pc2 := 1811) (ls2 := [(4, .int 6), (6, .int 4), (5, .int 0), (3, .ref 232), (2, .ref 162), (1, .ref 0), (0, .ref 11)]) (st2 := [.int 1]) (h2 := (zH0.set 116 (.inr (.inl (1, zset 0 [] 0 (4 : Int32).toInt64))))) (dc2 := 117) (ds2 := 29934) 25 rfl ?_
  exact zT_ret rfl rfl
set_option maxRecDepth 1000000 in
theorem q4_c30 : zT zg0 zF zP 105 0 (lv_args 0 [.ref 0, .int 3, .int 0]) [] zH0 0 0 (some (.int 0), zH0, 0, 0) := ⟨60, rfl⟩
set_option maxRecDepth 1000000 in
set_option maxHeartbeats 4000000 in
theorem q4_r30 (xs : Nat → Int32) (h1 : xs 1 = 3) (h2 : xs 2 = 0) : zT (zg 6 xs) zF zP 288 389 [(4, .int 0), (3, .ref 232), (2, .ref 162), (1, .ref 0), (0, .ref 11)] [.int 0] (zH0.set 116 (.inr (.inl (1, zset 0 [] 0 (0 : Int32).toInt64)))) 117 29934 (some (.int 1), (zH0.set 116 (.inr (.inl (1, zset 0 [] 0 (0 : Int32).toInt64)))), 117, 29934) := by
  refine zT_gos (f := 200000) (pc2 := 404) (ls2 := [(5, .int 0), (4, .int 0), (3, .ref 232), (2, .ref 162), (1, .ref 0), (0, .ref 11)]) (st2 := [.int (xs 2), .int (xs 1), .ref 162]) (h2 := (zH0.set 116 (.inr (.inl (1, zset 0 [] 0 (0 : Int32).toInt64))))) (dc2 := 117) (ds2 := 29934) 12 rfl ?_
  rw [h1, h2]
  refine zT_gos (f := 60) (pc2 := 1811) (ls2 := [(4, .int 6), (6, .int 0), (5, .int 0), (3, .ref 232), (2, .ref 162), (1, .ref 0), (0, .ref 11)]) (st2 := [.int 1]) (h2 := (zH0.set 116 (.inr (.inl (1, zset 0 [] 0 (0 : Int32).toInt64))))) (dc2 := 117) (ds2 := 29934) 25 rfl ?_
  exact zT_ret rfl rfl
set_option maxRecDepth 1000000 in
theorem q4_c31 : zT zg0 zF zP 105 0 (lv_args 0 [.ref 0, .int 3, .int 1]) [] zH0 0 0 (some (.int (-32)), zH0, 0, 0) := ⟨60, rfl⟩
set_option maxRecDepth 1000000 in
set_option maxHeartbeats 4000000 in
theorem q4_r31 (xs : Nat → Int32) (h1 : xs 1 = 3) (h2 : xs 2 = 1) : zT (zg 6 xs) zF zP 288 389 [(4, .int 0), (3, .ref 232), (2, .ref 162), (1, .ref 0), (0, .ref 11)] [.int 0] (zH0.set 116 (.inr (.inl (1, zset 0 [] 0 ((-32) : Int32).toInt64)))) 117 29934 (some (.int 1), (zH0.set 116 (.inr (.inl (1, zset 0 [] 0 ((-32) : Int32).toInt64)))), 117, 29934) := by
  refine zT_gos (f := 200000) (pc2 := 404) (ls2 := [(5, .int 0), (4, .int 0), (3, .ref 232), (2, .ref 162), (1, .ref 0), (0, .ref 11)]) (st2 := [.int (xs 2), .int (xs 1), .ref 162]) (h2 := (zH0.set 116 (.inr (.inl (1, zset 0 [] 0 ((-32) : Int32).toInt64))))) (dc2 := 117) (ds2 := 29934) 12 rfl ?_
  rw [h1, h2]
  refine zT_gos (f := 60) (pc2 := 1811) (ls2 := [(4, .int 6), (6, .int (-32)), (5, .int 0), (3, .ref 232), (2, .ref 162), (1, .ref 0), (0, .ref 11)]) (st2 := [.int 1]) (h2 := (zH0.set 116 (.inr (.inl (1, zset 0 [] 0 ((-32) : Int32).toInt64))))) (dc2 := 117) (ds2 := 29934) 25 rfl ?_
  exact zT_ret rfl rfl
set_option maxRecDepth 1000000 in
theorem q4_c32 : zT zg0 zF zP 105 0 (lv_args 0 [.ref 0, .int 3, .int 2]) [] zH0 0 0 (some (.int 31), zH0, 0, 0) := ⟨60, rfl⟩
set_option maxRecDepth 1000000 in
set_option maxHeartbeats 4000000 in
theorem q4_r32 (xs : Nat → Int32) (h1 : xs 1 = 3) (h2 : xs 2 = 2) : zT (zg 6 xs) zF zP 288 389 [(4, .int 0), (3, .ref 232), (2, .ref 162), (1, .ref 0), (0, .ref 11)] [.int 0] (zH0.set 116 (.inr (.inl (1, zset 0 [] 0 (31 : Int32).toInt64)))) 117 29934 (some (.int 1), (zH0.set 116 (.inr (.inl (1, zset 0 [] 0 (31 : Int32).toInt64)))), 117, 29934) := by
  refine zT_gos (f := 200000) (pc2 := 404) (ls2 := [(5, .int 0), (4, .int 0), (3, .ref 232), (2, .ref 162), (1, .ref 0), (0, .ref 11)]) (st2 := [.int (xs 2), .int (xs 1), .ref 162]) (h2 := (zH0.set 116 (.inr (.inl (1, zset 0 [] 0 (31 : Int32).toInt64))))) (dc2 := 117) (ds2 := 29934) 12 rfl ?_
  rw [h1, h2]
  refine zT_gos (f := 60) (pc2 := 1811) (ls2 := [(4, .int 6), (6, .int 31), (5, .int 0), (3, .ref 232), (2, .ref 162), (1, .ref 0), (0, .ref 11)]) (st2 := [.int 1]) (h2 := (zH0.set 116 (.inr (.inl (1, zset 0 [] 0 (31 : Int32).toInt64))))) (dc2 := 117) (ds2 := 29934) 25 rfl ?_
  exact zT_ret rfl rfl
set_option maxRecDepth 1000000 in
theorem q4_c33 : zT zg0 zF zP 105 0 (lv_args 0 [.ref 0, .int 3, .int 3]) [] zH0 0 0 (some (.int 4), zH0, 0, 0) := ⟨60, rfl⟩
set_option maxRecDepth 1000000 in
set_option maxHeartbeats 4000000 in
theorem q4_r33 (xs : Nat → Int32) (h1 : xs 1 = 3) (h2 : xs 2 = 3) : zT (zg 6 xs) zF zP 288 389 [(4, .int 0), (3, .ref 232), (2, .ref 162), (1, .ref 0), (0, .ref 11)] [.int 0] (zH0.set 116 (.inr (.inl (1, zset 0 [] 0 (4 : Int32).toInt64)))) 117 29934 (some (.int 1), (zH0.set 116 (.inr (.inl (1, zset 0 [] 0 (4 : Int32).toInt64)))), 117, 29934) := by
  refine zT_gos (f := 200000) (pc2 := 404) (ls2 := [(5, .int 0), (4, .int 0), (3, .ref 232), (2, .ref 162), (1, .ref 0), (0, .ref 11)]) (st2 := [.int (xs 2), .int (xs 1), .ref 162]) (h2 := (zH0.set 116 (.inr (.inl (1, zset 0 [] 0 (4 : Int32).toInt64))))) (dc2 := 117) (ds2 := 29934) 12 rfl ?_
  rw [h1, h2]
  refine zT_gos (f := 60) (pc2 := 1811) (ls2 := [(4, .int 6), (6, .int 4), (5, .int 0), (3, .ref 232), (2, .ref 162), (1, .ref 0), (0, .ref 11)]) (st2 := [.int 1]) (h2 := (zH0.set 116 (.inr (.inl (1, zset 0 [] 0 (4 : Int32).toInt64))))) (dc2 := 117) (ds2 := 29934) 25 rfl ?_
  exact zT_ret rfl rfl
set_option maxRecDepth 1000000 in
theorem q4_c40 : zT zg0 zF zP 105 0 (lv_args 0 [.ref 0, .int 4, .int 0]) [] zH0 0 0 (some (.int 0), zH0, 0, 0) := ⟨60, rfl⟩
set_option maxRecDepth 1000000 in
set_option maxHeartbeats 4000000 in
theorem q4_r40 (xs : Nat → Int32) (h1 : xs 1 = 4) (h2 : xs 2 = 0) : zT (zg 6 xs) zF zP 288 389 [(4, .int 0), (3, .ref 232), (2, .ref 162), (1, .ref 0), (0, .ref 11)] [.int 0] (zH0.set 116 (.inr (.inl (1, zset 0 [] 0 (0 : Int32).toInt64)))) 117 29934 (some (.int 1), (zH0.set 116 (.inr (.inl (1, zset 0 [] 0 (0 : Int32).toInt64)))), 117, 29934) := by
  refine zT_gos (f := 200000) (pc2 := 404) (ls2 := [(5, .int 0), (4, .int 0), (3, .ref 232), (2, .ref 162), (1, .ref 0), (0, .ref 11)]) (st2 := [.int (xs 2), .int (xs 1), .ref 162]) (h2 := (zH0.set 116 (.inr (.inl (1, zset 0 [] 0 (0 : Int32).toInt64))))) (dc2 := 117) (ds2 := 29934) 12 rfl ?_
  rw [h1, h2]
  refine zT_gos (f := 60) (pc2 := 1811) (ls2 := [(4, .int 6), (6, .int 0), (5, .int 0), (3, .ref 232), (2, .ref 162), (1, .ref 0), (0, .ref 11)]) (st2 := [.int 1]) (h2 := (zH0.set 116 (.inr (.inl (1, zset 0 [] 0 (0 : Int32).toInt64))))) (dc2 := 117) (ds2 := 29934) 25 rfl ?_
  exact zT_ret rfl rfl
set_option maxRecDepth 1000000 in
theorem q4_c41 : zT zg0 zF zP 105 0 (lv_args 0 [.ref 0, .int 4, .int 1]) [] zH0 0 0 (some (.int (-32)), zH0, 0, 0) := ⟨60, rfl⟩
set_option maxRecDepth 1000000 in
set_option maxHeartbeats 4000000 in
theorem q4_r41 (xs : Nat → Int32) (h1 : xs 1 = 4) (h2 : xs 2 = 1) : zT (zg 6 xs) zF zP 288 389 [(4, .int 0), (3, .ref 232), (2, .ref 162), (1, .ref 0), (0, .ref 11)] [.int 0] (zH0.set 116 (.inr (.inl (1, zset 0 [] 0 ((-32) : Int32).toInt64)))) 117 29934 (some (.int 1), (zH0.set 116 (.inr (.inl (1, zset 0 [] 0 ((-32) : Int32).toInt64)))), 117, 29934) := by
  refine zT_gos (f := 200000) (pc2 := 404) (ls2 := [(5, .int 0), (4, .int 0), (3, .ref 232), (2, .ref 162), (1, .ref 0), (0, .ref 11)]) (st2 := [.int (xs 2), .int (xs 1), .ref 162]) (h2 := (zH0.set 116 (.inr (.inl (1, zset 0 [] 0 ((-32) : Int32).toInt64))))) (dc2 := 117) (ds2 := 29934) 12 rfl ?_
  rw [h1, h2]
  refine zT_gos (f := 60) (pc2 := 1811) (ls2 := [(4, .int 6), (6, .int (-32)), (5, .int 0), (3, .ref 232), (2, .ref 162), (1, .ref 0), (0, .ref 11)]) (st2 := [.int 1]) (h2 := (zH0.set 116 (.inr (.inl (1, zset 0 [] 0 ((-32) : Int32).toInt64))))) (dc2 := 117) (ds2 := 29934) 25 rfl ?_
  exact zT_ret rfl rfl
set_option maxRecDepth 1000000 in
theorem q4_c42 : zT zg0 zF zP 105 0 (lv_args 0 [.ref 0, .int 4, .int 2]) [] zH0 0 0 (some (.int 31), zH0, 0, 0) := ⟨60, rfl⟩
set_option maxRecDepth 1000000 in
set_option maxHeartbeats 4000000 in
theorem q4_r42 (xs : Nat → Int32) (h1 : xs 1 = 4) (h2 : xs 2 = 2) : zT (zg 6 xs) zF zP 288 389 [(4, .int 0), (3, .ref 232), (2, .ref 162), (1, .ref 0), (0, .ref 11)] [.int 0] (zH0.set 116 (.inr (.inl (1, zset 0 [] 0 (31 : Int32).toInt64)))) 117 29934 (some (.int 1), (zH0.set 116 (.inr (.inl (1, zset 0 [] 0 (31 : Int32).toInt64)))), 117, 29934) := by
  refine zT_gos (f := 200000) (pc2 := 404) (ls2 := [(5, .int 0), (4, .int 0), (3, .ref 232), (2, .ref 162), (1, .ref 0), (0, .ref 11)]) (st2 := [.int (xs 2), .int (xs 1), .ref 162]) (h2 := (zH0.set 116 (.inr (.inl (1, zset 0 [] 0 (31 : Int32).toInt64))))) (dc2 := 117) (ds2 := 29934) 12 rfl ?_
  rw [h1, h2]
  refine zT_gos (f := 60) (pc2 := 1811) (ls2 := [(4, .int 6), (6, .int 31), (5, .int 0), (3, .ref 232), (2, .ref 162), (1, .ref 0), (0, .ref 11)]) (st2 := [.int 1]) (h2 := (zH0.set 116 (.inr (.inl (1, zset 0 [] 0 (31 : Int32).toInt64))))) (dc2 := 117) (ds2 := 29934) 25 rfl ?_
  exact zT_ret rfl rfl
set_option maxRecDepth 1000000 in
theorem q4_c43 : zT zg0 zF zP 105 0 (lv_args 0 [.ref 0, .int 4, .int 3]) [] zH0 0 0 (some (.int 4), zH0, 0, 0) := ⟨60, rfl⟩
set_option maxRecDepth 1000000 in
set_option maxHeartbeats 4000000 in
theorem q4_r43 (xs : Nat → Int32) (h1 : xs 1 = 4) (h2 : xs 2 = 3) : zT (zg 6 xs) zF zP 288 389 [(4, .int 0), (3, .ref 232), (2, .ref 162), (1, .ref 0), (0, .ref 11)] [.int 0] (zH0.set 116 (.inr (.inl (1, zset 0 [] 0 (4 : Int32).toInt64)))) 117 29934 (some (.int 1), (zH0.set 116 (.inr (.inl (1, zset 0 [] 0 (4 : Int32).toInt64)))), 117, 29934) := by
  refine zT_gos (f := 200000) (pc2 := 404) (ls2 := [(5, .int 0), (4, .int 0), (3, .ref 232), (2, .ref 162), (1, .ref 0), (0, .ref 11)]) (st2 := [.int (xs 2), .int (xs 1), .ref 162]) (h2 := (zH0.set 116 (.inr (.inl (1, zset 0 [] 0 (4 : Int32).toInt64))))) (dc2 := 117) (ds2 := 29934) 12 rfl ?_
  rw [h1, h2]
  refine zT_gos (f := 60) (pc2 := 1811) (ls2 := [(4, .int 6), (6, .int 4), (5, .int 0), (3, .ref 232), (2, .ref 162), (1, .ref 0), (0, .ref 11)]) (st2 := [.int 1]) (h2 := (zH0.set 116 (.inr (.inl (1, zset 0 [] 0 (4 : Int32).toInt64))))) (dc2 := 117) (ds2 := 29934) 25 rfl ?_
  exact zT_ret rfl rfl
set_option maxRecDepth 1000000 in
theorem q4_c50 : zT zg0 zF zP 105 0 (lv_args 0 [.ref 0, .int 5, .int 0]) [] zH0 0 0 (some (.int 0), zH0, 0, 0) := ⟨60, rfl⟩
set_option maxRecDepth 1000000 in
set_option maxHeartbeats 4000000 in
theorem q4_r50 (xs : Nat → Int32) (h1 : xs 1 = 5) (h2 : xs 2 = 0) : zT (zg 6 xs) zF zP 288 389 [(4, .int 0), (3, .ref 232), (2, .ref 162), (1, .ref 0), (0, .ref 11)] [.int 0] (zH0.set 116 (.inr (.inl (1, zset 0 [] 0 (0 : Int32).toInt64)))) 117 29934 (some (.int 1), (zH0.set 116 (.inr (.inl (1, zset 0 [] 0 (0 : Int32).toInt64)))), 117, 29934) := by
  refine zT_gos (f := 200000) (pc2 := 404) (ls2 := [(5, .int 0), (4, .int 0), (3, .ref 232), (2, .ref 162), (1, .ref 0), (0, .ref 11)]) (st2 := [.int (xs 2), .int (xs 1), .ref 162]) (h2 := (zH0.set 116 (.inr (.inl (1, zset 0 [] 0 (0 : Int32).toInt64))))) (dc2 := 117) (ds2 := 29934) 12 rfl ?_
  rw [h1, h2]
  refine zT_gos (f := 60) (pc2 := 1811) (ls2 := [(4, .int 6), (6, .int 0), (5, .int 0), (3, .ref 232), (2, .ref 162), (1, .ref 0), (0, .ref 11)]) (st2 := [.int 1]) (h2 := (zH0.set 116 (.inr (.inl (1, zset 0 [] 0 (0 : Int32).toInt64))))) (dc2 := 117) (ds2 := 29934) 25 rfl ?_
  exact zT_ret rfl rfl
set_option maxRecDepth 1000000 in
theorem q4_c51 : zT zg0 zF zP 105 0 (lv_args 0 [.ref 0, .int 5, .int 1]) [] zH0 0 0 (some (.int (-64)), zH0, 0, 0) := ⟨60, rfl⟩
set_option maxRecDepth 1000000 in
set_option maxHeartbeats 4000000 in
theorem q4_r51 (xs : Nat → Int32) (h1 : xs 1 = 5) (h2 : xs 2 = 1) : zT (zg 6 xs) zF zP 288 389 [(4, .int 0), (3, .ref 232), (2, .ref 162), (1, .ref 0), (0, .ref 11)] [.int 0] (zH0.set 116 (.inr (.inl (1, zset 0 [] 0 ((-64) : Int32).toInt64)))) 117 29934 (some (.int 1), (zH0.set 116 (.inr (.inl (1, zset 0 [] 0 ((-64) : Int32).toInt64)))), 117, 29934) := by
  refine zT_gos (f := 200000) (pc2 := 404) (ls2 := [(5, .int 0), (4, .int 0), (3, .ref 232), (2, .ref 162), (1, .ref 0), (0, .ref 11)]) (st2 := [.int (xs 2), .int (xs 1), .ref 162]) (h2 := (zH0.set 116 (.inr (.inl (1, zset 0 [] 0 ((-64) : Int32).toInt64))))) (dc2 := 117) (ds2 := 29934) 12 rfl ?_
  rw [h1, h2]
  refine zT_gos (f := 60) (pc2 := 1811) (ls2 := [(4, .int 6), (6, .int (-64)), (5, .int 0), (3, .ref 232), (2, .ref 162), (1, .ref 0), (0, .ref 11)]) (st2 := [.int 1]) (h2 := (zH0.set 116 (.inr (.inl (1, zset 0 [] 0 ((-64) : Int32).toInt64))))) (dc2 := 117) (ds2 := 29934) 25 rfl ?_
  exact zT_ret rfl rfl
set_option maxRecDepth 1000000 in
theorem q4_c52 : zT zg0 zF zP 105 0 (lv_args 0 [.ref 0, .int 5, .int 2]) [] zH0 0 0 (some (.int 63), zH0, 0, 0) := ⟨60, rfl⟩
set_option maxRecDepth 1000000 in
set_option maxHeartbeats 4000000 in
theorem q4_r52 (xs : Nat → Int32) (h1 : xs 1 = 5) (h2 : xs 2 = 2) : zT (zg 6 xs) zF zP 288 389 [(4, .int 0), (3, .ref 232), (2, .ref 162), (1, .ref 0), (0, .ref 11)] [.int 0] (zH0.set 116 (.inr (.inl (1, zset 0 [] 0 (63 : Int32).toInt64)))) 117 29934 (some (.int 1), (zH0.set 116 (.inr (.inl (1, zset 0 [] 0 (63 : Int32).toInt64)))), 117, 29934) := by
  refine zT_gos (f := 200000) (pc2 := 404) (ls2 := [(5, .int 0), (4, .int 0), (3, .ref 232), (2, .ref 162), (1, .ref 0), (0, .ref 11)]) (st2 := [.int (xs 2), .int (xs 1), .ref 162]) (h2 := (zH0.set 116 (.inr (.inl (1, zset 0 [] 0 (63 : Int32).toInt64))))) (dc2 := 117) (ds2 := 29934) 12 rfl ?_
  rw [h1, h2]
  refine zT_gos (f := 60) (pc2 := 1811) (ls2 := [(4, .int 6), (6, .int 63), (5, .int 0), (3, .ref 232), (2, .ref 162), (1, .ref 0), (0, .ref 11)]) (st2 := [.int 1]) (h2 := (zH0.set 116 (.inr (.inl (1, zset 0 [] 0 (63 : Int32).toInt64))))) (dc2 := 117) (ds2 := 29934) 25 rfl ?_
  exact zT_ret rfl rfl
set_option maxRecDepth 1000000 in
theorem q4_c53 : zT zg0 zF zP 105 0 (lv_args 0 [.ref 0, .int 5, .int 3]) [] zH0 0 0 (some (.int 4), zH0, 0, 0) := ⟨60, rfl⟩
set_option maxRecDepth 1000000 in
set_option maxHeartbeats 4000000 in
theorem q4_r53 (xs : Nat → Int32) (h1 : xs 1 = 5) (h2 : xs 2 = 3) : zT (zg 6 xs) zF zP 288 389 [(4, .int 0), (3, .ref 232), (2, .ref 162), (1, .ref 0), (0, .ref 11)] [.int 0] (zH0.set 116 (.inr (.inl (1, zset 0 [] 0 (4 : Int32).toInt64)))) 117 29934 (some (.int 1), (zH0.set 116 (.inr (.inl (1, zset 0 [] 0 (4 : Int32).toInt64)))), 117, 29934) := by
  refine zT_gos (f := 200000) (pc2 := 404) (ls2 := [(5, .int 0), (4, .int 0), (3, .ref 232), (2, .ref 162), (1, .ref 0), (0, .ref 11)]) (st2 := [.int (xs 2), .int (xs 1), .ref 162]) (h2 := (zH0.set 116 (.inr (.inl (1, zset 0 [] 0 (4 : Int32).toInt64))))) (dc2 := 117) (ds2 := 29934) 12 rfl ?_
  rw [h1, h2]
  refine zT_gos (f := 60) (pc2 := 1811) (ls2 := [(4, .int 6), (6, .int 4), (5, .int 0), (3, .ref 232), (2, .ref 162), (1, .ref 0), (0, .ref 11)]) (st2 := [.int 1]) (h2 := (zH0.set 116 (.inr (.inl (1, zset 0 [] 0 (4 : Int32).toInt64))))) (dc2 := 117) (ds2 := 29934) 25 rfl ?_
  exact zT_ret rfl rfl
theorem q4_ok {j w : Int32} (hj : 0 ≤ j.toInt ∧ j.toInt ≤ 5) (hw : 0 ≤ w.toInt ∧ w.toInt ≤ 3) : ∃ v : Int32, zT zg0 zF zP 105 0 (lv_args 0 [.ref 0, .int j, .int w]) [] zH0 0 0 (some (.int v), zH0, 0, 0) ∧ ∀ xs : Nat → Int32, xs 1 = j → xs 2 = w → ∃ h2, zT (zg 6 xs) zF zP 288 389 [(4, .int 0), (3, .ref 232), (2, .ref 162), (1, .ref 0), (0, .ref 11)] [.int 0] (zH0.set 116 (.inr (.inl (1, zset 0 [] 0 v.toInt64)))) 117 29934 (some (.int 1), h2, 117, 29934) := by
  have c5 : ∀ {x : Int32} {n : Int}, x.toInt = n → x = Int32.ofInt n := fun {x n} e => by rw [← e, Int32.ofInt_toInt]
  have j6 : j = 0 ∨ j = 1 ∨ j = 2 ∨ j = 3 ∨ j = 4 ∨ j = 5 := by
    have : j.toInt = 0 ∨ j.toInt = 1 ∨ j.toInt = 2 ∨ j.toInt = 3 ∨ j.toInt = 4 ∨ j.toInt = 5 := by omega
    rcases this with e | e | e | e | e | e
    · exact Or.inl (c5 e)
    · exact Or.inr (Or.inl (c5 e))
    · exact Or.inr (Or.inr (Or.inl (c5 e)))
    · exact Or.inr (Or.inr (Or.inr (Or.inl (c5 e))))
    · exact Or.inr (Or.inr (Or.inr (Or.inr (Or.inl (c5 e)))))
    · exact Or.inr (Or.inr (Or.inr (Or.inr (Or.inr ((c5 e))))))
  have w4 : w = 0 ∨ w = 1 ∨ w = 2 ∨ w = 3 := by
    have : w.toInt = 0 ∨ w.toInt = 1 ∨ w.toInt = 2 ∨ w.toInt = 3 := by omega
    rcases this with e | e | e | e
    · exact Or.inl (c5 e)
    · exact Or.inr (Or.inl (c5 e))
    · exact Or.inr (Or.inr (Or.inl (c5 e)))
    · exact Or.inr (Or.inr (Or.inr ((c5 e))))
  rcases j6 with rfl | rfl | rfl | rfl | rfl | rfl <;> rcases w4 with rfl | rfl | rfl | rfl
  · exact ⟨_, q4_c00, fun xs h1 h2 => ⟨_, q4_r00 xs h1 h2⟩⟩
  · exact ⟨_, q4_c01, fun xs h1 h2 => ⟨_, q4_r01 xs h1 h2⟩⟩
  · exact ⟨_, q4_c02, fun xs h1 h2 => ⟨_, q4_r02 xs h1 h2⟩⟩
  · exact ⟨_, q4_c03, fun xs h1 h2 => ⟨_, q4_r03 xs h1 h2⟩⟩
  · exact ⟨_, q4_c10, fun xs h1 h2 => ⟨_, q4_r10 xs h1 h2⟩⟩
  · exact ⟨_, q4_c11, fun xs h1 h2 => ⟨_, q4_r11 xs h1 h2⟩⟩
  · exact ⟨_, q4_c12, fun xs h1 h2 => ⟨_, q4_r12 xs h1 h2⟩⟩
  · exact ⟨_, q4_c13, fun xs h1 h2 => ⟨_, q4_r13 xs h1 h2⟩⟩
  · exact ⟨_, q4_c20, fun xs h1 h2 => ⟨_, q4_r20 xs h1 h2⟩⟩
  · exact ⟨_, q4_c21, fun xs h1 h2 => ⟨_, q4_r21 xs h1 h2⟩⟩
  · exact ⟨_, q4_c22, fun xs h1 h2 => ⟨_, q4_r22 xs h1 h2⟩⟩
  · exact ⟨_, q4_c23, fun xs h1 h2 => ⟨_, q4_r23 xs h1 h2⟩⟩
  · exact ⟨_, q4_c30, fun xs h1 h2 => ⟨_, q4_r30 xs h1 h2⟩⟩
  · exact ⟨_, q4_c31, fun xs h1 h2 => ⟨_, q4_r31 xs h1 h2⟩⟩
  · exact ⟨_, q4_c32, fun xs h1 h2 => ⟨_, q4_r32 xs h1 h2⟩⟩
  · exact ⟨_, q4_c33, fun xs h1 h2 => ⟨_, q4_r33 xs h1 h2⟩⟩
  · exact ⟨_, q4_c40, fun xs h1 h2 => ⟨_, q4_r40 xs h1 h2⟩⟩
  · exact ⟨_, q4_c41, fun xs h1 h2 => ⟨_, q4_r41 xs h1 h2⟩⟩
  · exact ⟨_, q4_c42, fun xs h1 h2 => ⟨_, q4_r42 xs h1 h2⟩⟩
  · exact ⟨_, q4_c43, fun xs h1 h2 => ⟨_, q4_r43 xs h1 h2⟩⟩
  · exact ⟨_, q4_c50, fun xs h1 h2 => ⟨_, q4_r50 xs h1 h2⟩⟩
  · exact ⟨_, q4_c51, fun xs h1 h2 => ⟨_, q4_r51 xs h1 h2⟩⟩
  · exact ⟨_, q4_c52, fun xs h1 h2 => ⟨_, q4_r52 xs h1 h2⟩⟩
  · exact ⟨_, q4_c53, fun xs h1 h2 => ⟨_, q4_r53 xs h1 h2⟩⟩
