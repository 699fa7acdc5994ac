/-! The smallest methods: cosines, sines, the angle within 32. -/
noncomputable def jcos (k : Int32) : Int32 := zCos.getD (k &&& 63).toNatClampNeg 0
noncomputable def jsin (k : Int32) : Int32 := zCos.getD ((k - 16) &&& 63).toNatClampNeg 0
noncomputable def jw (k : Int32) : Int32 := ((k + 32) &&& 63) - 32
theorem jsin_cos (k : Int32) : jsin k = jcos (k - 16) := rfl
theorem z64 (k : Int32) : ∃ j : Nat, j < 64 ∧ k &&& 63 = nI j := pk_andE k 6 (by decide)
theorem zin64 (k : Int32) : zin (k &&& 63) 64 = true := by
  obtain ⟨j, hj, e⟩ := z64 k
  rw [e]
  have h1 := nI_toInt (n := j) (by omega)
  exact zin_t (by omega) (by omega)
theorem c_cos (k : Int32) (h : zH) : zT zg0 zF zP 149 0 [(0, .int k)] [] h 0 0 (some (.int (jcos k)), h, 0, 0) := by
  refine zT_gos (f := 10) (pc2 := 7) (ls2 := [(0, .int k)]) (st2 := [.int (k &&& 63), .ref 5]) (h2 := h) (dc2 := 0) (ds2 := 0) 4 rfl ?_
  refine zT_ialdc (n := 64) rfl ⟨rfl, rfl⟩ (zin64 k) ?_
  exact zT_ret rfl rfl
theorem c_sin (k : Int32) (h : zH) : zT zg0 zF zP 150 0 [(0, .int k)] [] h 0 0 (some (.int (jsin k)), h, 0, 0) := by
  refine zT_gos (f := 10) (pc2 := 10) (ls2 := [(0, .int k)]) (st2 := [.int ((k - 16) &&& 63), .ref 5]) (h2 := h) (dc2 := 0) (ds2 := 0) 6 rfl ?_
  refine zT_ialdc (n := 64) rfl ⟨rfl, rfl⟩ (zin64 (k - 16)) ?_
  exact zT_ret rfl rfl
theorem c_w32 (k : Int32) (h : zH) : zT zg0 zF zP 152 0 [(0, .int k)] [] h 0 0 (some (.int (jw k)), h, 0, 0) := ⟨20, rfl⟩
theorem m_cos (k : Int32) (h : zH) : zT zg0 zF zP 195 0 [(0, .int k)] [] h 0 0 (some (.int (jcos k)), h, 0, 0) := by
  obtain ⟨j, hj, e⟩ := z64 k
  refine zT_gos (f := 10) (pc2 := 4) (ls2 := [(0, .int k)]) (st2 := [.int (k &&& 63)]) (h2 := h) (dc2 := 0) (ds2 := 0) 3 rfl ?_
  refine zT_val e ?_
  unfold jcos
  rw [e]
  rcases (show j = 0 ∨ j = 1 ∨ j = 2 ∨ j = 3 ∨ j = 4 ∨ j = 5 ∨ j = 6 ∨ j = 7 ∨ j = 8 ∨ j = 9 ∨ j = 10 ∨ j = 11 ∨ j = 12 ∨ j = 13 ∨ j = 14 ∨ j = 15 ∨ j = 16 ∨ j = 17 ∨ j = 18 ∨ j = 19 ∨ j = 20 ∨ j = 21 ∨ j = 22 ∨ j = 23 ∨ j = 24 ∨ j = 25 ∨ j = 26 ∨ j = 27 ∨ j = 28 ∨ j = 29 ∨ j = 30 ∨ j = 31 ∨ j = 32 ∨ j = 33 ∨ j = 34 ∨ j = 35 ∨ j = 36 ∨ j = 37 ∨ j = 38 ∨ j = 39 ∨ j = 40 ∨ j = 41 ∨ j = 42 ∨ j = 43 ∨ j = 44 ∨ j = 45 ∨ j = 46 ∨ j = 47 ∨ j = 48 ∨ j = 49 ∨ j = 50 ∨ j = 51 ∨ j = 52 ∨ j = 53 ∨ j = 54 ∨ j = 55 ∨ j = 56 ∨ j = 57 ∨ j = 58 ∨ j = 59 ∨ j = 60 ∨ j = 61 ∨ j = 62 ∨ j = 63 by omega) with rfl | rfl | rfl | rfl | rfl | rfl | rfl | rfl | rfl | rfl | rfl | rfl | rfl | rfl | rfl | rfl | rfl | rfl | rfl | rfl | rfl | rfl | rfl | rfl | rfl | rfl | rfl | rfl | rfl | rfl | rfl | rfl | rfl | rfl | rfl | rfl | rfl | rfl | rfl | rfl | rfl | rfl | rfl | rfl | rfl | rfl | rfl | rfl | rfl | rfl | rfl | rfl | rfl | rfl | rfl | rfl | rfl | rfl | rfl | rfl | rfl | rfl | rfl | rfl <;> exact ⟨30, rfl⟩
theorem m_sin (k : Int32) (h : zH) : zT zg0 zF zP 196 0 [(0, .int k)] [] h 0 0 (some (.int (jsin k)), h, 0, 0) := by
  refine zT_gos (f := 10) (pc2 := 4) (ls2 := [(0, .int k)]) (st2 := [.int (k - 16)]) (h2 := h) (dc2 := 0) (ds2 := 0) 3 rfl ?_
  refine zT_call (v := some (.int (jcos (k - 16)))) (h2 := h) (d1 := 0) (s1 := 0) rfl rfl (m_cos (k - 16) h) ?_
  exact zT_ret rfl rfl
