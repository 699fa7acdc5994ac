/-! The reference: isWithin, outBy, heightBy. -/
theorem c_within {h : zH} {rm rk ro rh : Nat} {fs : List Value} {kn lo hi : List Int32} (hM : zat h rm = some (.inr (.inr (.inr (10, fs))))) (hf3 : fs[3]? = some (.ref rk)) (hf4 : fs[4]? = some (.ref ro)) (hf5 : fs[5]? = some (.ref rh)) (hK : zat h rk = some (.inl (0, 14, kn))) (hO : zat h ro = some (.inl (0, 12, lo))) (hH : zat h rh = some (.inl (0, 12, hi))) {j : Int32} (hj : zin j 12 = true) (v : Int32) : zT zg0 zF zP 207 0 [(0, .ref rm), (1, .int j), (2, .int v)] [] h 0 0 (some (.int (bif jallow lo hi j v then 1 else 0)), h, 0, 0) := by
  by_cases h1 : v < lo.getD j.toNatClampNeg 0
  · rw [show jallow lo hi j v = false by unfold jallow; rw [decide_eq_true h1]; rfl]
    refine zT_gos (f := 200000) (pc2 := 2) (ls2 := [(0, .ref rm), (1, .int j), (2, .int v)]) (st2 := [.ref rm, .int v]) (h2 := h) (dc2 := 0) (ds2 := 0) 2 rfl ?_
    refine zT_getf rfl hM hf4 ?_
    refine zT_gos (f := 200000) (pc2 := 6) (ls2 := [(0, .ref rm), (1, .int j), (2, .int v)]) (st2 := [.int j, .ref ro, .int v]) (h2 := h) (dc2 := 0) (ds2 := 0) 1 rfl ?_
    refine zT_iald (n := 12) rfl hO hj ?_
    refine zT_if2 true rfl (decide_eq_true h1) ?_
    refine zT_here (pc2 := 24) rfl ?_
    refine zT_gos (f := 200000) (pc2 := 25) (ls2 := [(0, .ref rm), (1, .int j), (2, .int v)]) (st2 := [.int 0]) (h2 := h) (dc2 := 0) (ds2 := 0) 1 rfl ?_
    exact zT_ret rfl rfl
  · by_cases h2 : hi.getD j.toNatClampNeg 0 < v
    · rw [show jallow lo hi j v = false by unfold jallow; rw [decide_eq_false h1, decide_eq_true h2]; rfl]
      refine zT_gos (f := 200000) (pc2 := 2) (ls2 := [(0, .ref rm), (1, .int j), (2, .int v)]) (st2 := [.ref rm, .int v]) (h2 := h) (dc2 := 0) (ds2 := 0) 2 rfl ?_
      refine zT_getf rfl hM hf4 ?_
      refine zT_gos (f := 200000) (pc2 := 6) (ls2 := [(0, .ref rm), (1, .int j), (2, .int v)]) (st2 := [.int j, .ref ro, .int v]) (h2 := h) (dc2 := 0) (ds2 := 0) 1 rfl ?_
      refine zT_iald (n := 12) rfl hO hj ?_
      refine zT_if2 false rfl (decide_eq_false h1) ?_
      refine zT_here (pc2 := 10) rfl ?_
      refine zT_gos (f := 200000) (pc2 := 12) (ls2 := [(0, .ref rm), (1, .int j), (2, .int v)]) (st2 := [.ref rm, .int v]) (h2 := h) (dc2 := 0) (ds2 := 0) 2 rfl ?_
      refine zT_getf rfl hM hf5 ?_
      refine zT_gos (f := 200000) (pc2 := 16) (ls2 := [(0, .ref rm), (1, .int j), (2, .int v)]) (st2 := [.int j, .ref rh, .int v]) (h2 := h) (dc2 := 0) (ds2 := 0) 1 rfl ?_
      refine zT_iald (n := 12) rfl hH hj ?_
      refine zT_if2 true rfl (decide_eq_true h2) ?_
      refine zT_here (pc2 := 24) rfl ?_
      refine zT_gos (f := 200000) (pc2 := 25) (ls2 := [(0, .ref rm), (1, .int j), (2, .int v)]) (st2 := [.int 0]) (h2 := h) (dc2 := 0) (ds2 := 0) 1 rfl ?_
      exact zT_ret rfl rfl
    · rw [show jallow lo hi j v = true by unfold jallow; rw [decide_eq_false h1, decide_eq_false h2]; rfl]
      refine zT_gos (f := 200000) (pc2 := 2) (ls2 := [(0, .ref rm), (1, .int j), (2, .int v)]) (st2 := [.ref rm, .int v]) (h2 := h) (dc2 := 0) (ds2 := 0) 2 rfl ?_
      refine zT_getf rfl hM hf4 ?_
      refine zT_gos (f := 200000) (pc2 := 6) (ls2 := [(0, .ref rm), (1, .int j), (2, .int v)]) (st2 := [.int j, .ref ro, .int v]) (h2 := h) (dc2 := 0) (ds2 := 0) 1 rfl ?_
      refine zT_iald (n := 12) rfl hO hj ?_
      refine zT_if2 false rfl (decide_eq_false h1) ?_
      refine zT_here (pc2 := 10) rfl ?_
      refine zT_gos (f := 200000) (pc2 := 12) (ls2 := [(0, .ref rm), (1, .int j), (2, .int v)]) (st2 := [.ref rm, .int v]) (h2 := h) (dc2 := 0) (ds2 := 0) 2 rfl ?_
      refine zT_getf rfl hM hf5 ?_
      refine zT_gos (f := 200000) (pc2 := 16) (ls2 := [(0, .ref rm), (1, .int j), (2, .int v)]) (st2 := [.int j, .ref rh, .int v]) (h2 := h) (dc2 := 0) (ds2 := 0) 1 rfl ?_
      refine zT_iald (n := 12) rfl hH hj ?_
      refine zT_if2 false rfl (decide_eq_false h2) ?_
      refine zT_here (pc2 := 20) rfl ?_
      refine zT_gos (f := 200000) (pc2 := 25) (ls2 := [(0, .ref rm), (1, .int j), (2, .int v)]) (st2 := [.int 1]) (h2 := h) (dc2 := 0) (ds2 := 0) 2 rfl ?_
      exact zT_ret rfl rfl
theorem c_outBy {h : zH} {rm rk ro rh : Nat} {fs : List Value} {kn lo hi : List Int32} (hM : zat h rm = some (.inr (.inr (.inr (10, fs))))) (hf3 : fs[3]? = some (.ref rk)) (hf4 : fs[4]? = some (.ref ro)) (hf5 : fs[5]? = some (.ref rh)) (hK : zat h rk = some (.inl (0, 14, kn))) (hO : zat h ro = some (.inl (0, 12, lo))) (hH : zat h rh = some (.inl (0, 12, hi))) (a b p : Int32) : zT zg0 zF zP 197 0 [(0, .ref rm), (1, .int a), (2, .int b), (3, .int p)] [] h 0 0 (some (.int (jout (kn.getD 0 0) (kn.getD 1 0) a b p)), h, 0, 0) := by
  refine zT_gos (f := 200000) (pc2 := 1) (ls2 := [(0, .ref rm), (1, .int a), (2, .int b), (3, .int p)]) (st2 := [.ref rm]) (h2 := h) (dc2 := 0) (ds2 := 0) 1 rfl ?_
  refine zT_getf rfl hM hf3 ?_
  refine zT_gos (f := 200000) (pc2 := 5) (ls2 := [(0, .ref rm), (1, .int a), (2, .int b), (3, .int p)]) (st2 := [.int 0, .ref rk]) (h2 := h) (dc2 := 0) (ds2 := 0) 1 rfl ?_
  refine zT_iald (n := 14) rfl hK rfl ?_
  refine zT_gos (f := 200000) (pc2 := 7) (ls2 := [(0, .ref rm), (1, .int a), (2, .int b), (3, .int p)]) (st2 := [.int a, .int (kn.getD 0 0)]) (h2 := h) (dc2 := 0) (ds2 := 0) 1 rfl ?_
  refine zT_call (y2 := 195) (as := [.int a]) rfl rfl (m_cos a h) ?_
  refine zT_here (pc2 := 10) rfl ?_
  refine zT_gos (f := 200000) (pc2 := 11) (ls2 := [(0, .ref rm), (1, .int a), (2, .int b), (3, .int p)]) (st2 := [.int b, .int (jcos a), .int (kn.getD 0 0)]) (h2 := h) (dc2 := 0) (ds2 := 0) 1 rfl ?_
  refine zT_call (y2 := 195) (as := [.int b]) rfl rfl (m_cos b h) ?_
  refine zT_here (pc2 := 14) rfl ?_
  refine zT_gos (f := 200000) (pc2 := 17) (ls2 := [(0, .ref rm), (1, .int a), (2, .int b), (3, .int p)]) (st2 := [.ref rm, .int ((kn.getD 0 0) * ((jcos a) + (jcos b)))]) (h2 := h) (dc2 := 0) (ds2 := 0) 3 rfl ?_
  refine zT_getf rfl hM hf3 ?_
  refine zT_gos (f := 200000) (pc2 := 21) (ls2 := [(0, .ref rm), (1, .int a), (2, .int b), (3, .int p)]) (st2 := [.int 1, .ref rk, .int ((kn.getD 0 0) * ((jcos a) + (jcos b)))]) (h2 := h) (dc2 := 0) (ds2 := 0) 1 rfl ?_
  refine zT_iald (n := 14) rfl hK rfl ?_
  refine zT_gos (f := 200000) (pc2 := 23) (ls2 := [(0, .ref rm), (1, .int a), (2, .int b), (3, .int p)]) (st2 := [.int p, .int (kn.getD 1 0), .int ((kn.getD 0 0) * ((jcos a) + (jcos b)))]) (h2 := h) (dc2 := 0) (ds2 := 0) 1 rfl ?_
  refine zT_call (y2 := 195) (as := [.int p]) rfl rfl (m_cos p h) ?_
  refine zT_here (pc2 := 26) rfl ?_
  refine zT_gos (f := 200000) (pc2 := 28) (ls2 := [(0, .ref rm), (1, .int a), (2, .int b), (3, .int p)]) (st2 := [.int (((kn.getD 0 0) * ((jcos a) + (jcos b))) + ((kn.getD 1 0) * (jcos p)))]) (h2 := h) (dc2 := 0) (ds2 := 0) 2 rfl ?_
  exact zT_ret rfl rfl
noncomputable def jhgt (ht lk hd a b p : Int32) : Int32 := 1000 * ht + lk * (jsin a + jsin b) + hd * jsin p
theorem c_heightBy {h : zH} {rm rk ro rh : Nat} {fs : List Value} {kn lo hi : List Int32} (hM : zat h rm = some (.inr (.inr (.inr (10, fs))))) (hf3 : fs[3]? = some (.ref rk)) (hf4 : fs[4]? = some (.ref ro)) (hf5 : fs[5]? = some (.ref rh)) (hK : zat h rk = some (.inl (0, 14, kn))) (hO : zat h ro = some (.inl (0, 12, lo))) (hH : zat h rh = some (.inl (0, 12, hi))) (a b p : Int32) : zT zg0 zF zP 198 0 [(0, .ref rm), (1, .int a), (2, .int b), (3, .int p)] [] h 0 0 (some (.int (jhgt (kn.getD 2 0) (kn.getD 0 0) (kn.getD 1 0) a b p)), h, 0, 0) := by
  refine zT_gos (f := 200000) (pc2 := 4) (ls2 := [(0, .ref rm), (1, .int a), (2, .int b), (3, .int p)]) (st2 := [.ref rm, .int 1000]) (h2 := h) (dc2 := 0) (ds2 := 0) 2 rfl ?_
  refine zT_getf rfl hM hf3 ?_
  refine zT_gos (f := 200000) (pc2 := 8) (ls2 := [(0, .ref rm), (1, .int a), (2, .int b), (3, .int p)]) (st2 := [.int 2, .ref rk, .int 1000]) (h2 := h) (dc2 := 0) (ds2 := 0) 1 rfl ?_
  refine zT_iald (n := 14) rfl hK rfl ?_
  refine zT_gos (f := 200000) (pc2 := 11) (ls2 := [(0, .ref rm), (1, .int a), (2, .int b), (3, .int p)]) (st2 := [.ref rm, .int ((1000 : Int32) * (kn.getD 2 0))]) (h2 := h) (dc2 := 0) (ds2 := 0) 2 rfl ?_
  refine zT_getf rfl hM hf3 ?_
  refine zT_gos (f := 200000) (pc2 := 15) (ls2 := [(0, .ref rm), (1, .int a), (2, .int b), (3, .int p)]) (st2 := [.int 0, .ref rk, .int ((1000 : Int32) * (kn.getD 2 0))]) (h2 := h) (dc2 := 0) (ds2 := 0) 1 rfl ?_
  refine zT_iald (n := 14) rfl hK rfl ?_
  refine zT_gos (f := 200000) (pc2 := 17) (ls2 := [(0, .ref rm), (1, .int a), (2, .int b), (3, .int p)]) (st2 := [.int a, .int (kn.getD 0 0), .int ((1000 : Int32) * (kn.getD 2 0))]) (h2 := h) (dc2 := 0) (ds2 := 0) 1 rfl ?_
  refine zT_call (y2 := 196) (as := [.int a]) rfl rfl (m_sin a h) ?_
  refine zT_here (pc2 := 20) rfl ?_
  refine zT_gos (f := 200000) (pc2 := 21) (ls2 := [(0, .ref rm), (1, .int a), (2, .int b), (3, .int p)]) (st2 := [.int b, .int (jsin a), .int (kn.getD 0 0), .int ((1000 : Int32) * (kn.getD 2 0))]) (h2 := h) (dc2 := 0) (ds2 := 0) 1 rfl ?_
  refine zT_call (y2 := 196) (as := [.int b]) rfl rfl (m_sin b h) ?_
  refine zT_here (pc2 := 24) rfl ?_
  refine zT_gos (f := 200000) (pc2 := 28) (ls2 := [(0, .ref rm), (1, .int a), (2, .int b), (3, .int p)]) (st2 := [.ref rm, .int (((1000 : Int32) * (kn.getD 2 0)) + ((kn.getD 0 0) * ((jsin a) + (jsin b))))]) (h2 := h) (dc2 := 0) (ds2 := 0) 4 rfl ?_
  refine zT_getf rfl hM hf3 ?_
  refine zT_gos (f := 200000) (pc2 := 32) (ls2 := [(0, .ref rm), (1, .int a), (2, .int b), (3, .int p)]) (st2 := [.int 1, .ref rk, .int (((1000 : Int32) * (kn.getD 2 0)) + ((kn.getD 0 0) * ((jsin a) + (jsin b))))]) (h2 := h) (dc2 := 0) (ds2 := 0) 1 rfl ?_
  refine zT_iald (n := 14) rfl hK rfl ?_
  refine zT_gos (f := 200000) (pc2 := 34) (ls2 := [(0, .ref rm), (1, .int a), (2, .int b), (3, .int p)]) (st2 := [.int p, .int (kn.getD 1 0), .int (((1000 : Int32) * (kn.getD 2 0)) + ((kn.getD 0 0) * ((jsin a) + (jsin b))))]) (h2 := h) (dc2 := 0) (ds2 := 0) 1 rfl ?_
  refine zT_call (y2 := 196) (as := [.int p]) rfl rfl (m_sin p h) ?_
  refine zT_here (pc2 := 37) rfl ?_
  refine zT_gos (f := 200000) (pc2 := 39) (ls2 := [(0, .ref rm), (1, .int a), (2, .int b), (3, .int p)]) (st2 := [.int ((((1000 : Int32) * (kn.getD 2 0)) + ((kn.getD 0 0) * ((jsin a) + (jsin b)))) + ((kn.getD 1 0) * (jsin p)))]) (h2 := h) (dc2 := 0) (ds2 := 0) 2 rfl ?_
  exact zT_ret rfl rfl
