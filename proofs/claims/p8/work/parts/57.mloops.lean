theorem oStep_max (ll lg : List Int32) (lk hd p a e best : Int32) : oStep ll lg lk hd p 1 a e best = if jallow ll lg 4 (jw (p - a - e)) = true then (if best < jout lk hd a (a + e) p then jout lk hd a (a + e) p else best) else best := by
  unfold oStep
  rw [if_neg (show ¬ (1 : Int32) = 0 by decide)]
  split
  · by_cases hb : best = -2147483648
    · rw [if_pos hb]
      split
      · rfl
      · rename_i hx
        have h1 := Int32.not_lt.mp hx
        have h2 := Int32.le_toInt (jout lk hd a (a + e) p)
        apply Int32.toInt_inj.mp
        have h3 := Int32.le_iff_toInt_le.mp h1
        have h4 : best.toInt = -2147483648 := by rw [hb]; rfl
        omega
    · rw [if_neg hb]
  · rfl
set_option maxHeartbeats 4000000 in
theorem c_mr_in {h : zH} {rm rk ro rh : Nat} {fs : List Value} {kn lo hi : List Int32} (hM : zat h rm = some (.inr (.inr (.inr (10, fs))))) (hf3 : fs[3]? = some (.ref rk)) (hf4 : fs[4]? = some (.ref ro)) (hf5 : fs[5]? = some (.ref rh)) (hK : zat h rk = some (.inl (0, 14, kn))) (hO : zat h ro = some (.inl (0, 12, lo))) (hH : zat h rh = some (.inl (0, 12, hi))) {p w mn a : Int32} {r : zR} (hw : w.toInt = 0 ∨ w.toInt = 1) (hg3 : (hi.getD 3 0).toInt ≤ 31) : ∀ (n : Nat) (e most least : Int32), -32 ≤ e.toInt → e.toInt + n = (hi.getD 3 0).toInt + 1 → zT zg0 zF zP 276 192 [(0, .ref rm), (1, .int p), (2, .int w), (3, .int (oIn lo hi (kn.getD 0 0) (kn.getD 1 0) p 1 a n e most)), (4, .int (oIn lo hi (kn.getD 0 0) (kn.getD 1 0) p 0 a n e least)), (5, .int mn), (6, .int a)] [] h 0 0 r → zT zg0 zF zP 276 65 [(0, .ref rm), (1, .int p), (2, .int w), (3, .int most), (4, .int least), (5, .int mn), (6, .int a), (7, .int e)] [] h 0 0 r := by
  intro n
  induction n with
  | zero =>
    intro e most least he hn k
    refine zT_gos (f := 200000) (pc2 := 68) (ls2 := [(0, .ref rm), (1, .int p), (2, .int w), (3, .int most), (4, .int least), (5, .int mn), (6, .int a), (7, .int e)]) (st2 := [.ref rm, .int e]) (h2 := h) (dc2 := 0) (ds2 := 0) 2 rfl ?_
    refine zT_getf rfl hM hf5 ?_
    refine zT_gos (f := 200000) (pc2 := 72) (ls2 := [(0, .ref rm), (1, .int p), (2, .int w), (3, .int most), (4, .int least), (5, .int mn), (6, .int a), (7, .int e)]) (st2 := [.int 3, .ref rh, .int e]) (h2 := h) (dc2 := 0) (ds2 := 0) 1 rfl ?_
    refine zT_iald (n := 12) rfl hH rfl ?_
    refine zT_if2 true rfl (zc_gt_t (by simp only [show Int32.toNatClampNeg 3 = 3 from rfl]; omega)) ?_
    refine zT_here (pc2 := 192) rfl ?_
    refine zT_ls (ls := [(0, .ref rm), (1, .int p), (2, .int w), (3, .int most), (4, .int least), (5, .int mn), (6, .int a)]) _ rfl (show ([0, 1, 2, 3, 4, 5, 6] : List Nat).Nodup by decide) (List.forall_mem_cons.mpr ⟨rfl, List.forall_mem_cons.mpr ⟨rfl, List.forall_mem_cons.mpr ⟨rfl, List.forall_mem_cons.mpr ⟨rfl, List.forall_mem_cons.mpr ⟨rfl, List.forall_mem_cons.mpr ⟨rfl, List.forall_mem_cons.mpr ⟨rfl, fun _ hq => absurd hq List.not_mem_nil⟩⟩⟩⟩⟩⟩⟩) ?_
    exact k
  | succ n ih =>
    intro e most least he hn k
    have he1 : (e + 1).toInt = e.toInt + 1 := z_inc (by omega)
    have hx : (((p - (a + e)) + 32) &&& 63) - 32 = jw (p - a - e) := by unfold jw; rw [show p - (a + e) = p - a - e by rw [Int32.sub_sub]]
    cases hal : jallow lo hi 4 ((((p - (a + e)) + 32) &&& 63) - 32) with
    | false =>
      have hal2 := hal
      rw [hx] at hal2
      have q1 : oIn lo hi (kn.getD 0 0) (kn.getD 1 0) p 1 a (n + 1) e most = oIn lo hi (kn.getD 0 0) (kn.getD 1 0) p 1 a n (e + 1) most := by simp only [oIn, oStep_max, hal2, eq_self, ↓reduceIte, Bool.false_eq_true]
      have q2 : oIn lo hi (kn.getD 0 0) (kn.getD 1 0) p 0 a (n + 1) e least = oIn lo hi (kn.getD 0 0) (kn.getD 1 0) p 0 a n (e + 1) least := by simp only [oIn, oStep, hal2, eq_self, ↓reduceIte, Bool.false_eq_true]
      rw [q1, q2] at k
      refine zT_gos (f := 200000) (pc2 := 68) (ls2 := [(0, .ref rm), (1, .int p), (2, .int w), (3, .int most), (4, .int least), (5, .int mn), (6, .int a), (7, .int e)]) (st2 := [.ref rm, .int e]) (h2 := h) (dc2 := 0) (ds2 := 0) 2 rfl ?_
      refine zT_getf rfl hM hf5 ?_
      refine zT_gos (f := 200000) (pc2 := 72) (ls2 := [(0, .ref rm), (1, .int p), (2, .int w), (3, .int most), (4, .int least), (5, .int mn), (6, .int a), (7, .int e)]) (st2 := [.int 3, .ref rh, .int e]) (h2 := h) (dc2 := 0) (ds2 := 0) 1 rfl ?_
      refine zT_iald (n := 12) rfl hH rfl ?_
      refine zT_if2 false rfl (zc_gt_f (by simp only [show Int32.toNatClampNeg 3 = 3 from rfl]; omega)) ?_
      refine zT_here (pc2 := 76) rfl ?_
      refine zT_gos (f := 200000) (pc2 := 98) (ls2 := [(8, .int (a + e)), (0, .ref rm), (1, .int p), (2, .int w), (3, .int most), (4, .int least), (5, .int mn), (6, .int a), (7, .int e)]) (st2 := [.int ((((p - (a + e)) + (32 : Int32)) &&& (63 : Int32)) - (32 : Int32)), .int 4, .ref rm]) (h2 := h) (dc2 := 0) (ds2 := 0) 15 rfl ?_
      refine zT_calv (y2 := 207) (as := [.int 4, .int ((((p - (a + e)) + (32 : Int32)) &&& (63 : Int32)) - (32 : Int32))]) rfl rfl hM rfl (c_within hM hf3 hf4 hf5 hK hO hH (j := (4 : Int32)) rfl ((((p - (a + e)) + (32 : Int32)) &&& (63 : Int32)) - (32 : Int32))) ?_
      refine zT_here (pc2 := 101) rfl ?_
      refine zT_if0 false rfl (by rw [hal]; rfl) ?_
      refine zT_here (pc2 := 104) rfl ?_
      refine zT_gos (f := 200000) (pc2 := 65) (ls2 := [(7, .int (e + 1)), (8, .int (a + e)), (0, .ref rm), (1, .int p), (2, .int w), (3, .int most), (4, .int least), (5, .int mn), (6, .int a)]) (st2 := []) (h2 := h) (dc2 := 0) (ds2 := 0) 3 rfl ?_
      refine zT_ls (ls := [(0, .ref rm), (1, .int p), (2, .int w), (3, .int most), (4, .int least), (5, .int mn), (6, .int a), (7, .int (e + 1))]) _ rfl (show ([0, 1, 2, 3, 4, 5, 6, 7] : List Nat).Nodup by decide) (List.forall_mem_cons.mpr ⟨rfl, List.forall_mem_cons.mpr ⟨rfl, List.forall_mem_cons.mpr ⟨rfl, List.forall_mem_cons.mpr ⟨rfl, List.forall_mem_cons.mpr ⟨rfl, List.forall_mem_cons.mpr ⟨rfl, List.forall_mem_cons.mpr ⟨rfl, List.forall_mem_cons.mpr ⟨rfl, fun _ hq => absurd hq List.not_mem_nil⟩⟩⟩⟩⟩⟩⟩⟩) ?_
      exact ih (e + 1) _ _ (by omega) (by omega) k
    | true =>
      have hal2 := hal
      rw [hx] at hal2
      by_cases hm : most < (jout (kn.getD 0 0) (kn.getD 1 0) a (a + e) p)
      · by_cases hl : least = -2147483648
        · have q1 : oIn lo hi (kn.getD 0 0) (kn.getD 1 0) p 1 a (n + 1) e most = oIn lo hi (kn.getD 0 0) (kn.getD 1 0) p 1 a n (e + 1) (jout (kn.getD 0 0) (kn.getD 1 0) a (a + e) p) := by simp only [oIn, oStep_max, hal2, hm, eq_self, ↓reduceIte, Bool.false_eq_true]
          have q2 : oIn lo hi (kn.getD 0 0) (kn.getD 1 0) p 0 a (n + 1) e least = oIn lo hi (kn.getD 0 0) (kn.getD 1 0) p 0 a n (e + 1) (jout (kn.getD 0 0) (kn.getD 1 0) a (a + e) p) := by simp only [oIn, oStep, hal2, hl, eq_self, ↓reduceIte, Bool.false_eq_true]
          rw [q1, q2] at k
          refine zT_gos (f := 200000) (pc2 := 68) (ls2 := [(0, .ref rm), (1, .int p), (2, .int w), (3, .int most), (4, .int least), (5, .int mn), (6, .int a), (7, .int e)]) (st2 := [.ref rm, .int e]) (h2 := h) (dc2 := 0) (ds2 := 0) 2 rfl ?_
          refine zT_getf rfl hM hf5 ?_
          refine zT_gos (f := 200000) (pc2 := 72) (ls2 := [(0, .ref rm), (1, .int p), (2, .int w), (3, .int most), (4, .int least), (5, .int mn), (6, .int a), (7, .int e)]) (st2 := [.int 3, .ref rh, .int e]) (h2 := h) (dc2 := 0) (ds2 := 0) 1 rfl ?_
          refine zT_iald (n := 12) rfl hH rfl ?_
          refine zT_if2 false rfl (zc_gt_f (by simp only [show Int32.toNatClampNeg 3 = 3 from rfl]; omega)) ?_
          refine zT_here (pc2 := 76) rfl ?_
          refine zT_gos (f := 200000) (pc2 := 98) (ls2 := [(8, .int (a + e)), (0, .ref rm), (1, .int p), (2, .int w), (3, .int most), (4, .int least), (5, .int mn), (6, .int a), (7, .int e)]) (st2 := [.int ((((p - (a + e)) + (32 : Int32)) &&& (63 : Int32)) - (32 : Int32)), .int 4, .ref rm]) (h2 := h) (dc2 := 0) (ds2 := 0) 15 rfl ?_
          refine zT_calv (y2 := 207) (as := [.int 4, .int ((((p - (a + e)) + (32 : Int32)) &&& (63 : Int32)) - (32 : Int32))]) rfl rfl hM rfl (c_within hM hf3 hf4 hf5 hK hO hH (j := (4 : Int32)) rfl ((((p - (a + e)) + (32 : Int32)) &&& (63 : Int32)) - (32 : Int32))) ?_
          refine zT_here (pc2 := 101) rfl ?_
          refine zT_if0 true rfl (by rw [hal]; rfl) ?_
          refine zT_here (pc2 := 107) rfl ?_
          refine zT_gos (f := 200000) (pc2 := 113) (ls2 := [(8, .int (a + e)), (0, .ref rm), (1, .int p), (2, .int w), (3, .int most), (4, .int least), (5, .int mn), (6, .int a), (7, .int e)]) (st2 := [.int p, .int (a + e), .int a, .ref rm]) (h2 := h) (dc2 := 0) (ds2 := 0) 4 rfl ?_
          refine zT_calv (y2 := 197) (as := [.int a, .int (a + e), .int p]) rfl rfl hM rfl (c_outBy hM hf3 hf4 hf5 hK hO hH a (a + e) p) ?_
          refine zT_here (pc2 := 116) rfl ?_
          refine zT_gos (f := 200000) (pc2 := 121) (ls2 := [(9, .int (jout (kn.getD 0 0) (kn.getD 1 0) a (a + e) p)), (8, .int (a + e)), (0, .ref rm), (1, .int p), (2, .int w), (3, .int most), (4, .int least), (5, .int mn), (6, .int a), (7, .int e)]) (st2 := [.int most, .int (jout (kn.getD 0 0) (kn.getD 1 0) a (a + e) p)]) (h2 := h) (dc2 := 0) (ds2 := 0) 3 rfl ?_
          refine zT_if2 false rfl (decide_eq_false (Int32.not_le.mpr hm)) ?_
          refine zT_here (pc2 := 124) rfl ?_
          refine zT_gos (f := 200000) (pc2 := 136) (ls2 := [(3, .int (jout (kn.getD 0 0) (kn.getD 1 0) a (a + e) p)), (9, .int (jout (kn.getD 0 0) (kn.getD 1 0) a (a + e) p)), (8, .int (a + e)), (0, .ref rm), (1, .int p), (2, .int w), (4, .int least), (5, .int mn), (6, .int a), (7, .int e)]) (st2 := [.int (-2147483648), .int least]) (h2 := h) (dc2 := 0) (ds2 := 0) 5 rfl ?_
          refine zT_if2 true rfl (decide_eq_true hl) ?_
          refine zT_here (pc2 := 146) rfl ?_
          refine zT_gos (f := 200000) (pc2 := 157) (ls2 := [(4, .int (jout (kn.getD 0 0) (kn.getD 1 0) a (a + e) p)), (3, .int (jout (kn.getD 0 0) (kn.getD 1 0) a (a + e) p)), (9, .int (jout (kn.getD 0 0) (kn.getD 1 0) a (a + e) p)), (8, .int (a + e)), (0, .ref rm), (1, .int p), (2, .int w), (5, .int mn), (6, .int a), (7, .int e)]) (st2 := [.int 2, .int w]) (h2 := h) (dc2 := 0) (ds2 := 0) 5 rfl ?_
          refine zT_if2 true rfl (zc_ne_t (by show w.toInt ≠ 2; omega)) ?_
          refine zT_here (pc2 := 186) rfl ?_
          refine zT_gos (f := 200000) (pc2 := 65) (ls2 := [(7, .int (e + 1)), (4, .int (jout (kn.getD 0 0) (kn.getD 1 0) a (a + e) p)), (3, .int (jout (kn.getD 0 0) (kn.getD 1 0) a (a + e) p)), (9, .int (jout (kn.getD 0 0) (kn.getD 1 0) a (a + e) p)), (8, .int (a + e)), (0, .ref rm), (1, .int p), (2, .int w), (5, .int mn), (6, .int a)]) (st2 := []) (h2 := h) (dc2 := 0) (ds2 := 0) 2 rfl ?_
          refine zT_ls (ls := [(0, .ref rm), (1, .int p), (2, .int w), (3, .int (jout (kn.getD 0 0) (kn.getD 1 0) a (a + e) p)), (4, .int (jout (kn.getD 0 0) (kn.getD 1 0) a (a + e) p)), (5, .int mn), (6, .int a), (7, .int (e + 1))]) _ rfl (show ([0, 1, 2, 3, 4, 5, 6, 7] : List Nat).Nodup by decide) (List.forall_mem_cons.mpr ⟨rfl, List.forall_mem_cons.mpr ⟨rfl, List.forall_mem_cons.mpr ⟨rfl, List.forall_mem_cons.mpr ⟨rfl, List.forall_mem_cons.mpr ⟨rfl, List.forall_mem_cons.mpr ⟨rfl, List.forall_mem_cons.mpr ⟨rfl, List.forall_mem_cons.mpr ⟨rfl, fun _ hq => absurd hq List.not_mem_nil⟩⟩⟩⟩⟩⟩⟩⟩) ?_
          exact ih (e + 1) _ _ (by omega) (by omega) k
        · by_cases hl2 : (jout (kn.getD 0 0) (kn.getD 1 0) a (a + e) p) < least
          · have q1 : oIn lo hi (kn.getD 0 0) (kn.getD 1 0) p 1 a (n + 1) e most = oIn lo hi (kn.getD 0 0) (kn.getD 1 0) p 1 a n (e + 1) (jout (kn.getD 0 0) (kn.getD 1 0) a (a + e) p) := by simp only [oIn, oStep_max, hal2, hm, eq_self, ↓reduceIte, Bool.false_eq_true]
            have q2 : oIn lo hi (kn.getD 0 0) (kn.getD 1 0) p 0 a (n + 1) e least = oIn lo hi (kn.getD 0 0) (kn.getD 1 0) p 0 a n (e + 1) (jout (kn.getD 0 0) (kn.getD 1 0) a (a + e) p) := by simp only [oIn, oStep, hal2, hl, hl2, eq_self, ↓reduceIte, Bool.false_eq_true]
            rw [q1, q2] at k
            refine zT_gos (f := 200000) (pc2 := 68) (ls2 := [(0, .ref rm), (1, .int p), (2, .int w), (3, .int most), (4, .int least), (5, .int mn), (6, .int a), (7, .int e)]) (st2 := [.ref rm, .int e]) (h2 := h) (dc2 := 0) (ds2 := 0) 2 rfl ?_
            refine zT_getf rfl hM hf5 ?_
            refine zT_gos (f := 200000) (pc2 := 72) (ls2 := [(0, .ref rm), (1, .int p), (2, .int w), (3, .int most), (4, .int least), (5, .int mn), (6, .int a), (7, .int e)]) (st2 := [.int 3, .ref rh, .int e]) (h2 := h) (dc2 := 0) (ds2 := 0) 1 rfl ?_
            refine zT_iald (n := 12) rfl hH rfl ?_
            refine zT_if2 false rfl (zc_gt_f (by simp only [show Int32.toNatClampNeg 3 = 3 from rfl]; omega)) ?_
            refine zT_here (pc2 := 76) rfl ?_
            refine zT_gos (f := 200000) (pc2 := 98) (ls2 := [(8, .int (a + e)), (0, .ref rm), (1, .int p), (2, .int w), (3, .int most), (4, .int least), (5, .int mn), (6, .int a), (7, .int e)]) (st2 := [.int ((((p - (a + e)) + (32 : Int32)) &&& (63 : Int32)) - (32 : Int32)), .int 4, .ref rm]) (h2 := h) (dc2 := 0) (ds2 := 0) 15 rfl ?_
            refine zT_calv (y2 := 207) (as := [.int 4, .int ((((p - (a + e)) + (32 : Int32)) &&& (63 : Int32)) - (32 : Int32))]) rfl rfl hM rfl (c_within hM hf3 hf4 hf5 hK hO hH (j := (4 : Int32)) rfl ((((p - (a + e)) + (32 : Int32)) &&& (63 : Int32)) - (32 : Int32))) ?_
            refine zT_here (pc2 := 101) rfl ?_
            refine zT_if0 true rfl (by rw [hal]; rfl) ?_
            refine zT_here (pc2 := 107) rfl ?_
            refine zT_gos (f := 200000) (pc2 := 113) (ls2 := [(8, .int (a + e)), (0, .ref rm), (1, .int p), (2, .int w), (3, .int most), (4, .int least), (5, .int mn), (6, .int a), (7, .int e)]) (st2 := [.int p, .int (a + e), .int a, .ref rm]) (h2 := h) (dc2 := 0) (ds2 := 0) 4 rfl ?_
            refine zT_calv (y2 := 197) (as := [.int a, .int (a + e), .int p]) rfl rfl hM rfl (c_outBy hM hf3 hf4 hf5 hK hO hH a (a + e) p) ?_
            refine zT_here (pc2 := 116) rfl ?_
            refine zT_gos (f := 200000) (pc2 := 121) (ls2 := [(9, .int (jout (kn.getD 0 0) (kn.getD 1 0) a (a + e) p)), (8, .int (a + e)), (0, .ref rm), (1, .int p), (2, .int w), (3, .int most), (4, .int least), (5, .int mn), (6, .int a), (7, .int e)]) (st2 := [.int most, .int (jout (kn.getD 0 0) (kn.getD 1 0) a (a + e) p)]) (h2 := h) (dc2 := 0) (ds2 := 0) 3 rfl ?_
            refine zT_if2 false rfl (decide_eq_false (Int32.not_le.mpr hm)) ?_
            refine zT_here (pc2 := 124) rfl ?_
            refine zT_gos (f := 200000) (pc2 := 136) (ls2 := [(3, .int (jout (kn.getD 0 0) (kn.getD 1 0) a (a + e) p)), (9, .int (jout (kn.getD 0 0) (kn.getD 1 0) a (a + e) p)), (8, .int (a + e)), (0, .ref rm), (1, .int p), (2, .int w), (4, .int least), (5, .int mn), (6, .int a), (7, .int e)]) (st2 := [.int (-2147483648), .int least]) (h2 := h) (dc2 := 0) (ds2 := 0) 5 rfl ?_
            refine zT_if2 false rfl (decide_eq_false hl) ?_
            refine zT_here (pc2 := 139) rfl ?_
            refine zT_gos (f := 200000) (pc2 := 143) (ls2 := [(3, .int (jout (kn.getD 0 0) (kn.getD 1 0) a (a + e) p)), (9, .int (jout (kn.getD 0 0) (kn.getD 1 0) a (a + e) p)), (8, .int (a + e)), (0, .ref rm), (1, .int p), (2, .int w), (4, .int least), (5, .int mn), (6, .int a), (7, .int e)]) (st2 := [.int least, .int (jout (kn.getD 0 0) (kn.getD 1 0) a (a + e) p)]) (h2 := h) (dc2 := 0) (ds2 := 0) 2 rfl ?_
            refine zT_if2 false rfl (decide_eq_false (Int32.not_le.mpr hl2)) ?_
            refine zT_here (pc2 := 146) rfl ?_
            refine zT_gos (f := 200000) (pc2 := 157) (ls2 := [(4, .int (jout (kn.getD 0 0) (kn.getD 1 0) a (a + e) p)), (3, .int (jout (kn.getD 0 0) (kn.getD 1 0) a (a + e) p)), (9, .int (jout (kn.getD 0 0) (kn.getD 1 0) a (a + e) p)), (8, .int (a + e)), (0, .ref rm), (1, .int p), (2, .int w), (5, .int mn), (6, .int a), (7, .int e)]) (st2 := [.int 2, .int w]) (h2 := h) (dc2 := 0) (ds2 := 0) 5 rfl ?_
            refine zT_if2 true rfl (zc_ne_t (by show w.toInt ≠ 2; omega)) ?_
            refine zT_here (pc2 := 186) rfl ?_
            refine zT_gos (f := 200000) (pc2 := 65) (ls2 := [(7, .int (e + 1)), (4, .int (jout (kn.getD 0 0) (kn.getD 1 0) a (a + e) p)), (3, .int (jout (kn.getD 0 0) (kn.getD 1 0) a (a + e) p)), (9, .int (jout (kn.getD 0 0) (kn.getD 1 0) a (a + e) p)), (8, .int (a + e)), (0, .ref rm), (1, .int p), (2, .int w), (5, .int mn), (6, .int a)]) (st2 := []) (h2 := h) (dc2 := 0) (ds2 := 0) 2 rfl ?_
            refine zT_ls (ls := [(0, .ref rm), (1, .int p), (2, .int w), (3, .int (jout (kn.getD 0 0) (kn.getD 1 0) a (a + e) p)), (4, .int (jout (kn.getD 0 0) (kn.getD 1 0) a (a + e) p)), (5, .int mn), (6, .int a), (7, .int (e + 1))]) _ rfl (show ([0, 1, 2, 3, 4, 5, 6, 7] : List Nat).Nodup by decide) (List.forall_mem_cons.mpr ⟨rfl, List.forall_mem_cons.mpr ⟨rfl, List.forall_mem_cons.mpr ⟨rfl, List.forall_mem_cons.mpr ⟨rfl, List.forall_mem_cons.mpr ⟨rfl, List.forall_mem_cons.mpr ⟨rfl, List.forall_mem_cons.mpr ⟨rfl, List.forall_mem_cons.mpr ⟨rfl, fun _ hq => absurd hq List.not_mem_nil⟩⟩⟩⟩⟩⟩⟩⟩) ?_
            exact ih (e + 1) _ _ (by omega) (by omega) k
          · have q1 : oIn lo hi (kn.getD 0 0) (kn.getD 1 0) p 1 a (n + 1) e most = oIn lo hi (kn.getD 0 0) (kn.getD 1 0) p 1 a n (e + 1) (jout (kn.getD 0 0) (kn.getD 1 0) a (a + e) p) := by simp only [oIn, oStep_max, hal2, hm, eq_self, ↓reduceIte, Bool.false_eq_true]
            have q2 : oIn lo hi (kn.getD 0 0) (kn.getD 1 0) p 0 a (n + 1) e least = oIn lo hi (kn.getD 0 0) (kn.getD 1 0) p 0 a n (e + 1) least := by simp only [oIn, oStep, hal2, hl, hl2, eq_self, ↓reduceIte, Bool.false_eq_true]
            rw [q1, q2] at k
            refine zT_gos (f := 200000) (pc2 := 68) (ls2 := [(0, .ref rm), (1, .int p), (2, .int w), (3, .int most), (4, .int least), (5, .int mn), (6, .int a), (7, .int e)]) (st2 := [.ref rm, .int e]) (h2 := h) (dc2 := 0) (ds2 := 0) 2 rfl ?_
            refine zT_getf rfl hM hf5 ?_
            refine zT_gos (f := 200000) (pc2 := 72) (ls2 := [(0, .ref rm), (1, .int p), (2, .int w), (3, .int most), (4, .int least), (5, .int mn), (6, .int a), (7, .int e)]) (st2 := [.int 3, .ref rh, .int e]) (h2 := h) (dc2 := 0) (ds2 := 0) 1 rfl ?_
            refine zT_iald (n := 12) rfl hH rfl ?_
            refine zT_if2 false rfl (zc_gt_f (by simp only [show Int32.toNatClampNeg 3 = 3 from rfl]; omega)) ?_
            refine zT_here (pc2 := 76) rfl ?_
            refine zT_gos (f := 200000) (pc2 := 98) (ls2 := [(8, .int (a + e)), (0, .ref rm), (1, .int p), (2, .int w), (3, .int most), (4, .int least), (5, .int mn), (6, .int a), (7, .int e)]) (st2 := [.int ((((p - (a + e)) + (32 : Int32)) &&& (63 : Int32)) - (32 : Int32)), .int 4, .ref rm]) (h2 := h) (dc2 := 0) (ds2 := 0) 15 rfl ?_
            refine zT_calv (y2 := 207) (as := [.int 4, .int ((((p - (a + e)) + (32 : Int32)) &&& (63 : Int32)) - (32 : Int32))]) rfl rfl hM rfl (c_within hM hf3 hf4 hf5 hK hO hH (j := (4 : Int32)) rfl ((((p - (a + e)) + (32 : Int32)) &&& (63 : Int32)) - (32 : Int32))) ?_
            refine zT_here (pc2 := 101) rfl ?_
            refine zT_if0 true rfl (by rw [hal]; rfl) ?_
            refine zT_here (pc2 := 107) rfl ?_
            refine zT_gos (f := 200000) (pc2 := 113) (ls2 := [(8, .int (a + e)), (0, .ref rm), (1, .int p), (2, .int w), (3, .int most), (4, .int least), (5, .int mn), (6, .int a), (7, .int e)]) (st2 := [.int p, .int (a + e), .int a, .ref rm]) (h2 := h) (dc2 := 0) (ds2 := 0) 4 rfl ?_
            refine zT_calv (y2 := 197) (as := [.int a, .int (a + e), .int p]) rfl rfl hM rfl (c_outBy hM hf3 hf4 hf5 hK hO hH a (a + e) p) ?_
            refine zT_here (pc2 := 116) rfl ?_
            refine zT_gos (f := 200000) (pc2 := 121) (ls2 := [(9, .int (jout (kn.getD 0 0) (kn.getD 1 0) a (a + e) p)), (8, .int (a + e)), (0, .ref rm), (1, .int p), (2, .int w), (3, .int most), (4, .int least), (5, .int mn), (6, .int a), (7, .int e)]) (st2 := [.int most, .int (jout (kn.getD 0 0) (kn.getD 1 0) a (a + e) p)]) (h2 := h) (dc2 := 0) (ds2 := 0) 3 rfl ?_
            refine zT_if2 false rfl (decide_eq_false (Int32.not_le.mpr hm)) ?_
            refine zT_here (pc2 := 124) rfl ?_
            refine zT_gos (f := 200000) (pc2 := 136) (ls2 := [(3, .int (jout (kn.getD 0 0) (kn.getD 1 0) a (a + e) p)), (9, .int (jout (kn.getD 0 0) (kn.getD 1 0) a (a + e) p)), (8, .int (a + e)), (0, .ref rm), (1, .int p), (2, .int w), (4, .int least), (5, .int mn), (6, .int a), (7, .int e)]) (st2 := [.int (-2147483648), .int least]) (h2 := h) (dc2 := 0) (ds2 := 0) 5 rfl ?_
            refine zT_if2 false rfl (decide_eq_false hl) ?_
            refine zT_here (pc2 := 139) rfl ?_
            refine zT_gos (f := 200000) (pc2 := 143) (ls2 := [(3, .int (jout (kn.getD 0 0) (kn.getD 1 0) a (a + e) p)), (9, .int (jout (kn.getD 0 0) (kn.getD 1 0) a (a + e) p)), (8, .int (a + e)), (0, .ref rm), (1, .int p), (2, .int w), (4, .int least), (5, .int mn), (6, .int a), (7, .int e)]) (st2 := [.int least, .int (jout (kn.getD 0 0) (kn.getD 1 0) a (a + e) p)]) (h2 := h) (dc2 := 0) (ds2 := 0) 2 rfl ?_
            refine zT_if2 true rfl (decide_eq_true (Int32.not_lt.mp hl2)) ?_
            refine zT_here (pc2 := 151) rfl ?_
            refine zT_gos (f := 200000) (pc2 := 157) (ls2 := [(4, .int least), (3, .int (jout (kn.getD 0 0) (kn.getD 1 0) a (a + e) p)), (9, .int (jout (kn.getD 0 0) (kn.getD 1 0) a (a + e) p)), (8, .int (a + e)), (0, .ref rm), (1, .int p), (2, .int w), (5, .int mn), (6, .int a), (7, .int e)]) (st2 := [.int 2, .int w]) (h2 := h) (dc2 := 0) (ds2 := 0) 4 rfl ?_
            refine zT_if2 true rfl (zc_ne_t (by show w.toInt ≠ 2; omega)) ?_
            refine zT_here (pc2 := 186) rfl ?_
            refine zT_gos (f := 200000) (pc2 := 65) (ls2 := [(7, .int (e + 1)), (4, .int least), (3, .int (jout (kn.getD 0 0) (kn.getD 1 0) a (a + e) p)), (9, .int (jout (kn.getD 0 0) (kn.getD 1 0) a (a + e) p)), (8, .int (a + e)), (0, .ref rm), (1, .int p), (2, .int w), (5, .int mn), (6, .int a)]) (st2 := []) (h2 := h) (dc2 := 0) (ds2 := 0) 2 rfl ?_
            refine zT_ls (ls := [(0, .ref rm), (1, .int p), (2, .int w), (3, .int (jout (kn.getD 0 0) (kn.getD 1 0) a (a + e) p)), (4, .int least), (5, .int mn), (6, .int a), (7, .int (e + 1))]) _ rfl (show ([0, 1, 2, 3, 4, 5, 6, 7] : List Nat).Nodup by decide) (List.forall_mem_cons.mpr ⟨rfl, List.forall_mem_cons.mpr ⟨rfl, List.forall_mem_cons.mpr ⟨rfl, List.forall_mem_cons.mpr ⟨rfl, List.forall_mem_cons.mpr ⟨rfl, List.forall_mem_cons.mpr ⟨rfl, List.forall_mem_cons.mpr ⟨rfl, List.forall_mem_cons.mpr ⟨rfl, fun _ hq => absurd hq List.not_mem_nil⟩⟩⟩⟩⟩⟩⟩⟩) ?_
            exact ih (e + 1) _ _ (by omega) (by omega) k
      · by_cases hl : least = -2147483648
        · have q1 : oIn lo hi (kn.getD 0 0) (kn.getD 1 0) p 1 a (n + 1) e most = oIn lo hi (kn.getD 0 0) (kn.getD 1 0) p 1 a n (e + 1) most := by simp only [oIn, oStep_max, hal2, hm, eq_self, ↓reduceIte, Bool.false_eq_true]
          have q2 : oIn lo hi (kn.getD 0 0) (kn.getD 1 0) p 0 a (n + 1) e least = oIn lo hi (kn.getD 0 0) (kn.getD 1 0) p 0 a n (e + 1) (jout (kn.getD 0 0) (kn.getD 1 0) a (a + e) p) := by simp only [oIn, oStep, hal2, hl, eq_self, ↓reduceIte, Bool.false_eq_true]
          rw [q1, q2] at k
          refine zT_gos (f := 200000) (pc2 := 68) (ls2 := [(0, .ref rm), (1, .int p), (2, .int w), (3, .int most), (4, .int least), (5, .int mn), (6, .int a), (7, .int e)]) (st2 := [.ref rm, .int e]) (h2 := h) (dc2 := 0) (ds2 := 0) 2 rfl ?_
          refine zT_getf rfl hM hf5 ?_
          refine zT_gos (f := 200000) (pc2 := 72) (ls2 := [(0, .ref rm), (1, .int p), (2, .int w), (3, .int most), (4, .int least), (5, .int mn), (6, .int a), (7, .int e)]) (st2 := [.int 3, .ref rh, .int e]) (h2 := h) (dc2 := 0) (ds2 := 0) 1 rfl ?_
          refine zT_iald (n := 12) rfl hH rfl ?_
          refine zT_if2 false rfl (zc_gt_f (by simp only [show Int32.toNatClampNeg 3 = 3 from rfl]; omega)) ?_
          refine zT_here (pc2 := 76) rfl ?_
          refine zT_gos (f := 200000) (pc2 := 98) (ls2 := [(8, .int (a + e)), (0, .ref rm), (1, .int p), (2, .int w), (3, .int most), (4, .int least), (5, .int mn), (6, .int a), (7, .int e)]) (st2 := [.int ((((p - (a + e)) + (32 : Int32)) &&& (63 : Int32)) - (32 : Int32)), .int 4, .ref rm]) (h2 := h) (dc2 := 0) (ds2 := 0) 15 rfl ?_
          refine zT_calv (y2 := 207) (as := [.int 4, .int ((((p - (a + e)) + (32 : Int32)) &&& (63 : Int32)) - (32 : Int32))]) rfl rfl hM rfl (c_within hM hf3 hf4 hf5 hK hO hH (j := (4 : Int32)) rfl ((((p - (a + e)) + (32 : Int32)) &&& (63 : Int32)) - (32 : Int32))) ?_
          refine zT_here (pc2 := 101) rfl ?_
          refine zT_if0 true rfl (by rw [hal]; rfl) ?_
          refine zT_here (pc2 := 107) rfl ?_
          refine zT_gos (f := 200000) (pc2 := 113) (ls2 := [(8, .int (a + e)), (0, .ref rm), (1, .int p), (2, .int w), (3, .int most), (4, .int least), (5, .int mn), (6, .int a), (7, .int e)]) (st2 := [.int p, .int (a + e), .int a, .ref rm]) (h2 := h) (dc2 := 0) (ds2 := 0) 4 rfl ?_
          refine zT_calv (y2 := 197) (as := [.int a, .int (a + e), .int p]) rfl rfl hM rfl (c_outBy hM hf3 hf4 hf5 hK hO hH a (a + e) p) ?_
          refine zT_here (pc2 := 116) rfl ?_
          refine zT_gos (f := 200000) (pc2 := 121) (ls2 := [(9, .int (jout (kn.getD 0 0) (kn.getD 1 0) a (a + e) p)), (8, .int (a + e)), (0, .ref rm), (1, .int p), (2, .int w), (3, .int most), (4, .int least), (5, .int mn), (6, .int a), (7, .int e)]) (st2 := [.int most, .int (jout (kn.getD 0 0) (kn.getD 1 0) a (a + e) p)]) (h2 := h) (dc2 := 0) (ds2 := 0) 3 rfl ?_
          refine zT_if2 true rfl (decide_eq_true (Int32.not_lt.mp hm)) ?_
          refine zT_here (pc2 := 129) rfl ?_
          refine zT_gos (f := 200000) (pc2 := 136) (ls2 := [(3, .int most), (9, .int (jout (kn.getD 0 0) (kn.getD 1 0) a (a + e) p)), (8, .int (a + e)), (0, .ref rm), (1, .int p), (2, .int w), (4, .int least), (5, .int mn), (6, .int a), (7, .int e)]) (st2 := [.int (-2147483648), .int least]) (h2 := h) (dc2 := 0) (ds2 := 0) 4 rfl ?_
          refine zT_if2 true rfl (decide_eq_true hl) ?_
          refine zT_here (pc2 := 146) rfl ?_
          refine zT_gos (f := 200000) (pc2 := 157) (ls2 := [(4, .int (jout (kn.getD 0 0) (kn.getD 1 0) a (a + e) p)), (3, .int most), (9, .int (jout (kn.getD 0 0) (kn.getD 1 0) a (a + e) p)), (8, .int (a + e)), (0, .ref rm), (1, .int p), (2, .int w), (5, .int mn), (6, .int a), (7, .int e)]) (st2 := [.int 2, .int w]) (h2 := h) (dc2 := 0) (ds2 := 0) 5 rfl ?_
          refine zT_if2 true rfl (zc_ne_t (by show w.toInt ≠ 2; omega)) ?_
          refine zT_here (pc2 := 186) rfl ?_
          refine zT_gos (f := 200000) (pc2 := 65) (ls2 := [(7, .int (e + 1)), (4, .int (jout (kn.getD 0 0) (kn.getD 1 0) a (a + e) p)), (3, .int most), (9, .int (jout (kn.getD 0 0) (kn.getD 1 0) a (a + e) p)), (8, .int (a + e)), (0, .ref rm), (1, .int p), (2, .int w), (5, .int mn), (6, .int a)]) (st2 := []) (h2 := h) (dc2 := 0) (ds2 := 0) 2 rfl ?_
          refine zT_ls (ls := [(0, .ref rm), (1, .int p), (2, .int w), (3, .int most), (4, .int (jout (kn.getD 0 0) (kn.getD 1 0) a (a + e) p)), (5, .int mn), (6, .int a), (7, .int (e + 1))]) _ rfl (show ([0, 1, 2, 3, 4, 5, 6, 7] : List Nat).Nodup by decide) (List.forall_mem_cons.mpr ⟨rfl, List.forall_mem_cons.mpr ⟨rfl, List.forall_mem_cons.mpr ⟨rfl, List.forall_mem_cons.mpr ⟨rfl, List.forall_mem_cons.mpr ⟨rfl, List.forall_mem_cons.mpr ⟨rfl, List.forall_mem_cons.mpr ⟨rfl, List.forall_mem_cons.mpr ⟨rfl, fun _ hq => absurd hq List.not_mem_nil⟩⟩⟩⟩⟩⟩⟩⟩) ?_
          exact ih (e + 1) _ _ (by omega) (by omega) k
        · by_cases hl2 : (jout (kn.getD 0 0) (kn.getD 1 0) a (a + e) p) < least
          · have q1 : oIn lo hi (kn.getD 0 0) (kn.getD 1 0) p 1 a (n + 1) e most = oIn lo hi (kn.getD 0 0) (kn.getD 1 0) p 1 a n (e + 1) most := by simp only [oIn, oStep_max, hal2, hm, eq_self, ↓reduceIte, Bool.false_eq_true]
            have q2 : oIn lo hi (kn.getD 0 0) (kn.getD 1 0) p 0 a (n + 1) e least = oIn lo hi (kn.getD 0 0) (kn.getD 1 0) p 0 a n (e + 1) (jout (kn.getD 0 0) (kn.getD 1 0) a (a + e) p) := by simp only [oIn, oStep, hal2, hl, hl2, eq_self, ↓reduceIte, Bool.false_eq_true]
            rw [q1, q2] at k
            refine zT_gos (f := 200000) (pc2 := 68) (ls2 := [(0, .ref rm), (1, .int p), (2, .int w), (3, .int most), (4, .int least), (5, .int mn), (6, .int a), (7, .int e)]) (st2 := [.ref rm, .int e]) (h2 := h) (dc2 := 0) (ds2 := 0) 2 rfl ?_
            refine zT_getf rfl hM hf5 ?_
            refine zT_gos (f := 200000) (pc2 := 72) (ls2 := [(0, .ref rm), (1, .int p), (2, .int w), (3, .int most), (4, .int least), (5, .int mn), (6, .int a), (7, .int e)]) (st2 := [.int 3, .ref rh, .int e]) (h2 := h) (dc2 := 0) (ds2 := 0) 1 rfl ?_
            refine zT_iald (n := 12) rfl hH rfl ?_
            refine zT_if2 false rfl (zc_gt_f (by simp only [show Int32.toNatClampNeg 3 = 3 from rfl]; omega)) ?_
            refine zT_here (pc2 := 76) rfl ?_
            refine zT_gos (f := 200000) (pc2 := 98) (ls2 := [(8, .int (a + e)), (0, .ref rm), (1, .int p), (2, .int w), (3, .int most), (4, .int least), (5, .int mn), (6, .int a), (7, .int e)]) (st2 := [.int ((((p - (a + e)) + (32 : Int32)) &&& (63 : Int32)) - (32 : Int32)), .int 4, .ref rm]) (h2 := h) (dc2 := 0) (ds2 := 0) 15 rfl ?_
            refine zT_calv (y2 := 207) (as := [.int 4, .int ((((p - (a + e)) + (32 : Int32)) &&& (63 : Int32)) - (32 : Int32))]) rfl rfl hM rfl (c_within hM hf3 hf4 hf5 hK hO hH (j := (4 : Int32)) rfl ((((p - (a + e)) + (32 : Int32)) &&& (63 : Int32)) - (32 : Int32))) ?_
            refine zT_here (pc2 := 101) rfl ?_
            refine zT_if0 true rfl (by rw [hal]; rfl) ?_
            refine zT_here (pc2 := 107) rfl ?_
            refine zT_gos (f := 200000) (pc2 := 113) (ls2 := [(8, .int (a + e)), (0, .ref rm), (1, .int p), (2, .int w), (3, .int most), (4, .int least), (5, .int mn), (6, .int a), (7, .int e)]) (st2 := [.int p, .int (a + e), .int a, .ref rm]) (h2 := h) (dc2 := 0) (ds2 := 0) 4 rfl ?_
            refine zT_calv (y2 := 197) (as := [.int a, .int (a + e), .int p]) rfl rfl hM rfl (c_outBy hM hf3 hf4 hf5 hK hO hH a (a + e) p) ?_
            refine zT_here (pc2 := 116) rfl ?_
            refine zT_gos (f := 200000) (pc2 := 121) (ls2 := [(9, .int (jout (kn.getD 0 0) (kn.getD 1 0) a (a + e) p)), (8, .int (a + e)), (0, .ref rm), (1, .int p), (2, .int w), (3, .int most), (4, .int least), (5, .int mn), (6, .int a), (7, .int e)]) (st2 := [.int most, .int (jout (kn.getD 0 0) (kn.getD 1 0) a (a + e) p)]) (h2 := h) (dc2 := 0) (ds2 := 0) 3 rfl ?_
            refine zT_if2 true rfl (decide_eq_true (Int32.not_lt.mp hm)) ?_
            refine zT_here (pc2 := 129) rfl ?_
            refine zT_gos (f := 200000) (pc2 := 136) (ls2 := [(3, .int most), (9, .int (jout (kn.getD 0 0) (kn.getD 1 0) a (a + e) p)), (8, .int (a + e)), (0, .ref rm), (1, .int p), (2, .int w), (4, .int least), (5, .int mn), (6, .int a), (7, .int e)]) (st2 := [.int (-2147483648), .int least]) (h2 := h) (dc2 := 0) (ds2 := 0) 4 rfl ?_
            refine zT_if2 false rfl (decide_eq_false hl) ?_
            refine zT_here (pc2 := 139) rfl ?_
            refine zT_gos (f := 200000) (pc2 := 143) (ls2 := [(3, .int most), (9, .int (jout (kn.getD 0 0) (kn.getD 1 0) a (a + e) p)), (8, .int (a + e)), (0, .ref rm), (1, .int p), (2, .int w), (4, .int least), (5, .int mn), (6, .int a), (7, .int e)]) (st2 := [.int least, .int (jout (kn.getD 0 0) (kn.getD 1 0) a (a + e) p)]) (h2 := h) (dc2 := 0) (ds2 := 0) 2 rfl ?_
            refine zT_if2 false rfl (decide_eq_false (Int32.not_le.mpr hl2)) ?_
            refine zT_here (pc2 := 146) rfl ?_
            refine zT_gos (f := 200000) (pc2 := 157) (ls2 := [(4, .int (jout (kn.getD 0 0) (kn.getD 1 0) a (a + e) p)), (3, .int most), (9, .int (jout (kn.getD 0 0) (kn.getD 1 0) a (a + e) p)), (8, .int (a + e)), (0, .ref rm), (1, .int p), (2, .int w), (5, .int mn), (6, .int a), (7, .int e)]) (st2 := [.int 2, .int w]) (h2 := h) (dc2 := 0) (ds2 := 0) 5 rfl ?_
            refine zT_if2 true rfl (zc_ne_t (by show w.toInt ≠ 2; omega)) ?_
            refine zT_here (pc2 := 186) rfl ?_
            refine zT_gos (f := 200000) (pc2 := 65) (ls2 := [(7, .int (e + 1)), (4, .int (jout (kn.getD 0 0) (kn.getD 1 0) a (a + e) p)), (3, .int most), (9, .int (jout (kn.getD 0 0) (kn.getD 1 0) a (a + e) p)), (8, .int (a + e)), (0, .ref rm), (1, .int p), (2, .int w), (5, .int mn), (6, .int a)]) (st2 := []) (h2 := h) (dc2 := 0) (ds2 := 0) 2 rfl ?_
            refine zT_ls (ls := [(0, .ref rm), (1, .int p), (2, .int w), (3, .int most), (4, .int (jout (kn.getD 0 0) (kn.getD 1 0) a (a + e) p)), (5, .int mn), (6, .int a), (7, .int (e + 1))]) _ rfl (show ([0, 1, 2, 3, 4, 5, 6, 7] : List Nat).Nodup by decide) (List.forall_mem_cons.mpr ⟨rfl, List.forall_mem_cons.mpr ⟨rfl, List.forall_mem_cons.mpr ⟨rfl, List.forall_mem_cons.mpr ⟨rfl, List.forall_mem_cons.mpr ⟨rfl, List.forall_mem_cons.mpr ⟨rfl, List.forall_mem_cons.mpr ⟨rfl, List.forall_mem_cons.mpr ⟨rfl, fun _ hq => absurd hq List.not_mem_nil⟩⟩⟩⟩⟩⟩⟩⟩) ?_
            exact ih (e + 1) _ _ (by omega) (by omega) k
          · have q1 : oIn lo hi (kn.getD 0 0) (kn.getD 1 0) p 1 a (n + 1) e most = oIn lo hi (kn.getD 0 0) (kn.getD 1 0) p 1 a n (e + 1) most := by simp only [oIn, oStep_max, hal2, hm, eq_self, ↓reduceIte, Bool.false_eq_true]
            have q2 : oIn lo hi (kn.getD 0 0) (kn.getD 1 0) p 0 a (n + 1) e least = oIn lo hi (kn.getD 0 0) (kn.getD 1 0) p 0 a n (e + 1) least := by simp only [oIn, oStep, hal2, hl, hl2, eq_self, ↓reduceIte, Bool.false_eq_true]
            rw [q1, q2] at k
            refine zT_gos (f := 200000) (pc2 := 68) (ls2 := [(0, .ref rm), (1, .int p), (2, .int w), (3, .int most), (4, .int least), (5, .int mn), (6, .int a), (7, .int e)]) (st2 := [.ref rm, .int e]) (h2 := h) (dc2 := 0) (ds2 := 0) 2 rfl ?_
            refine zT_getf rfl hM hf5 ?_
            refine zT_gos (f := 200000) (pc2 := 72) (ls2 := [(0, .ref rm), (1, .int p), (2, .int w), (3, .int most), (4, .int least), (5, .int mn), (6, .int a), (7, .int e)]) (st2 := [.int 3, .ref rh, .int e]) (h2 := h) (dc2 := 0) (ds2 := 0) 1 rfl ?_
            refine zT_iald (n := 12) rfl hH rfl ?_
            refine zT_if2 false rfl (zc_gt_f (by simp only [show Int32.toNatClampNeg 3 = 3 from rfl]; omega)) ?_
            refine zT_here (pc2 := 76) rfl ?_
            refine zT_gos (f := 200000) (pc2 := 98) (ls2 := [(8, .int (a + e)), (0, .ref rm), (1, .int p), (2, .int w), (3, .int most), (4, .int least), (5, .int mn), (6, .int a), (7, .int e)]) (st2 := [.int ((((p - (a + e)) + (32 : Int32)) &&& (63 : Int32)) - (32 : Int32)), .int 4, .ref rm]) (h2 := h) (dc2 := 0) (ds2 := 0) 15 rfl ?_
            refine zT_calv (y2 := 207) (as := [.int 4, .int ((((p - (a + e)) + (32 : Int32)) &&& (63 : Int32)) - (32 : Int32))]) rfl rfl hM rfl (c_within hM hf3 hf4 hf5 hK hO hH (j := (4 : Int32)) rfl ((((p - (a + e)) + (32 : Int32)) &&& (63 : Int32)) - (32 : Int32))) ?_
            refine zT_here (pc2 := 101) rfl ?_
            refine zT_if0 true rfl (by rw [hal]; rfl) ?_
            refine zT_here (pc2 := 107) rfl ?_
            refine zT_gos (f := 200000) (pc2 := 113) (ls2 := [(8, .int (a + e)), (0, .ref rm), (1, .int p), (2, .int w), (3, .int most), (4, .int least), (5, .int mn), (6, .int a), (7, .int e)]) (st2 := [.int p, .int (a + e), .int a, .ref rm]) (h2 := h) (dc2 := 0) (ds2 := 0) 4 rfl ?_
            refine zT_calv (y2 := 197) (as := [.int a, .int (a + e), .int p]) rfl rfl hM rfl (c_outBy hM hf3 hf4 hf5 hK hO hH a (a + e) p) ?_
            refine zT_here (pc2 := 116) rfl ?_
            refine zT_gos (f := 200000) (pc2 := 121) (ls2 := [(9, .int (jout (kn.getD 0 0) (kn.getD 1 0) a (a + e) p)), (8, .int (a + e)), (0, .ref rm), (1, .int p), (2, .int w), (3, .int most), (4, .int least), (5, .int mn), (6, .int a), (7, .int e)]) (st2 := [.int most, .int (jout (kn.getD 0 0) (kn.getD 1 0) a (a + e) p)]) (h2 := h) (dc2 := 0) (ds2 := 0) 3 rfl ?_
            refine zT_if2 true rfl (decide_eq_true (Int32.not_lt.mp hm)) ?_
            refine zT_here (pc2 := 129) rfl ?_
            refine zT_gos (f := 200000) (pc2 := 136) (ls2 := [(3, .int most), (9, .int (jout (kn.getD 0 0) (kn.getD 1 0) a (a + e) p)), (8, .int (a + e)), (0, .ref rm), (1, .int p), (2, .int w), (4, .int least), (5, .int mn), (6, .int a), (7, .int e)]) (st2 := [.int (-2147483648), .int least]) (h2 := h) (dc2 := 0) (ds2 := 0) 4 rfl ?_
            refine zT_if2 false rfl (decide_eq_false hl) ?_
            refine zT_here (pc2 := 139) rfl ?_
            refine zT_gos (f := 200000) (pc2 := 143) (ls2 := [(3, .int most), (9, .int (jout (kn.getD 0 0) (kn.getD 1 0) a (a + e) p)), (8, .int (a + e)), (0, .ref rm), (1, .int p), (2, .int w), (4, .int least), (5, .int mn), (6, .int a), (7, .int e)]) (st2 := [.int least, .int (jout (kn.getD 0 0) (kn.getD 1 0) a (a + e) p)]) (h2 := h) (dc2 := 0) (ds2 := 0) 2 rfl ?_
            refine zT_if2 true rfl (decide_eq_true (Int32.not_lt.mp hl2)) ?_
            refine zT_here (pc2 := 151) rfl ?_
            refine zT_gos (f := 200000) (pc2 := 157) (ls2 := [(4, .int least), (3, .int most), (9, .int (jout (kn.getD 0 0) (kn.getD 1 0) a (a + e) p)), (8, .int (a + e)), (0, .ref rm), (1, .int p), (2, .int w), (5, .int mn), (6, .int a), (7, .int e)]) (st2 := [.int 2, .int w]) (h2 := h) (dc2 := 0) (ds2 := 0) 4 rfl ?_
            refine zT_if2 true rfl (zc_ne_t (by show w.toInt ≠ 2; omega)) ?_
            refine zT_here (pc2 := 186) rfl ?_
            refine zT_gos (f := 200000) (pc2 := 65) (ls2 := [(7, .int (e + 1)), (4, .int least), (3, .int most), (9, .int (jout (kn.getD 0 0) (kn.getD 1 0) a (a + e) p)), (8, .int (a + e)), (0, .ref rm), (1, .int p), (2, .int w), (5, .int mn), (6, .int a)]) (st2 := []) (h2 := h) (dc2 := 0) (ds2 := 0) 2 rfl ?_
            refine zT_ls (ls := [(0, .ref rm), (1, .int p), (2, .int w), (3, .int most), (4, .int least), (5, .int mn), (6, .int a), (7, .int (e + 1))]) _ rfl (show ([0, 1, 2, 3, 4, 5, 6, 7] : List Nat).Nodup by decide) (List.forall_mem_cons.mpr ⟨rfl, List.forall_mem_cons.mpr ⟨rfl, List.forall_mem_cons.mpr ⟨rfl, List.forall_mem_cons.mpr ⟨rfl, List.forall_mem_cons.mpr ⟨rfl, List.forall_mem_cons.mpr ⟨rfl, List.forall_mem_cons.mpr ⟨rfl, List.forall_mem_cons.mpr ⟨rfl, fun _ hq => absurd hq List.not_mem_nil⟩⟩⟩⟩⟩⟩⟩⟩) ?_
            exact ih (e + 1) _ _ (by omega) (by omega) k
set_option maxHeartbeats 4000000 in
theorem c_mr_out {h : zH} {rm rk ro rh : Nat} {fs : List Value} {kn lo hi : List Int32} (hM : zat h rm = some (.inr (.inr (.inr (10, fs))))) (hf3 : fs[3]? = some (.ref rk)) (hf4 : fs[4]? = some (.ref ro)) (hf5 : fs[5]? = some (.ref rh)) (hK : zat h rk = some (.inl (0, 14, kn))) (hO : zat h ro = some (.inl (0, 12, lo))) (hH : zat h rh = some (.inl (0, 12, hi))) {p w mn : Int32} {r : zR} (hw : w.toInt = 0 ∨ w.toInt = 1) (hl2 : -32 ≤ (lo.getD 2 0).toInt) (hg2 : (hi.getD 2 0).toInt ≤ 31) (hl3 : -32 ≤ (lo.getD 3 0).toInt) (hg3 : (hi.getD 3 0).toInt ≤ 31) {m : Nat} (hm : (lo.getD 3 0).toInt + m = (hi.getD 3 0).toInt + 1) : ∀ (n : Nat) (a most least : Int32), -32 ≤ a.toInt → a.toInt + n = (hi.getD 2 0).toInt + 1 → zT zg0 zF zP 276 198 [(0, .ref rm), (1, .int p), (2, .int w), (3, .int (oOut lo hi (kn.getD 0 0) (kn.getD 1 0) p 1 m n a most)), (4, .int (oOut lo hi (kn.getD 0 0) (kn.getD 1 0) p 0 m n a least)), (5, .int mn)] [] h 0 0 r → zT zg0 zF zP 276 46 [(0, .ref rm), (1, .int p), (2, .int w), (3, .int most), (4, .int least), (5, .int mn), (6, .int a)] [] h 0 0 r := by
  intro n
  induction n with
  | zero =>
    intro a most least he hn k
    refine zT_gos (f := 200000) (pc2 := 49) (ls2 := [(0, .ref rm), (1, .int p), (2, .int w), (3, .int most), (4, .int least), (5, .int mn), (6, .int a)]) (st2 := [.ref rm, .int a]) (h2 := h) (dc2 := 0) (ds2 := 0) 2 rfl ?_
    refine zT_getf rfl hM hf5 ?_
    refine zT_gos (f := 200000) (pc2 := 53) (ls2 := [(0, .ref rm), (1, .int p), (2, .int w), (3, .int most), (4, .int least), (5, .int mn), (6, .int a)]) (st2 := [.int 2, .ref rh, .int a]) (h2 := h) (dc2 := 0) (ds2 := 0) 1 rfl ?_
    refine zT_iald (n := 12) rfl hH rfl ?_
    refine zT_if2 true rfl (zc_gt_t (by simp only [show Int32.toNatClampNeg 2 = 2 from rfl]; omega)) ?_
    refine zT_here (pc2 := 198) rfl ?_
    refine zT_ls (ls := [(0, .ref rm), (1, .int p), (2, .int w), (3, .int most), (4, .int least), (5, .int mn)]) _ rfl (show ([0, 1, 2, 3, 4, 5] : List Nat).Nodup by decide) (List.forall_mem_cons.mpr ⟨rfl, List.forall_mem_cons.mpr ⟨rfl, List.forall_mem_cons.mpr ⟨rfl, List.forall_mem_cons.mpr ⟨rfl, List.forall_mem_cons.mpr ⟨rfl, List.forall_mem_cons.mpr ⟨rfl, fun _ hq => absurd hq List.not_mem_nil⟩⟩⟩⟩⟩⟩) ?_
    exact k
  | succ n ih =>
    intro a most least he hn k
    have he1 : (a + 1).toInt = a.toInt + 1 := z_inc (by omega)
    refine zT_gos (f := 200000) (pc2 := 49) (ls2 := [(0, .ref rm), (1, .int p), (2, .int w), (3, .int most), (4, .int least), (5, .int mn), (6, .int a)]) (st2 := [.ref rm, .int a]) (h2 := h) (dc2 := 0) (ds2 := 0) 2 rfl ?_
    refine zT_getf rfl hM hf5 ?_
    refine zT_gos (f := 200000) (pc2 := 53) (ls2 := [(0, .ref rm), (1, .int p), (2, .int w), (3, .int most), (4, .int least), (5, .int mn), (6, .int a)]) (st2 := [.int 2, .ref rh, .int a]) (h2 := h) (dc2 := 0) (ds2 := 0) 1 rfl ?_
    refine zT_iald (n := 12) rfl hH rfl ?_
    refine zT_if2 false rfl (zc_gt_f (by simp only [show Int32.toNatClampNeg 2 = 2 from rfl]; omega)) ?_
    refine zT_here (pc2 := 57) rfl ?_
    refine zT_gos (f := 200000) (pc2 := 58) (ls2 := [(0, .ref rm), (1, .int p), (2, .int w), (3, .int most), (4, .int least), (5, .int mn), (6, .int a)]) (st2 := [.ref rm]) (h2 := h) (dc2 := 0) (ds2 := 0) 1 rfl ?_
    refine zT_getf rfl hM hf4 ?_
    refine zT_gos (f := 200000) (pc2 := 62) (ls2 := [(0, .ref rm), (1, .int p), (2, .int w), (3, .int most), (4, .int least), (5, .int mn), (6, .int a)]) (st2 := [.int 3, .ref ro]) (h2 := h) (dc2 := 0) (ds2 := 0) 1 rfl ?_
    refine zT_iald (n := 12) rfl hO rfl ?_
    refine zT_gos (f := 200000) (pc2 := 65) (ls2 := [(7, .int (lo.getD 3 0)), (0, .ref rm), (1, .int p), (2, .int w), (3, .int most), (4, .int least), (5, .int mn), (6, .int a)]) (st2 := []) (h2 := h) (dc2 := 0) (ds2 := 0) 1 rfl ?_
    refine zT_ls (ls := [(0, .ref rm), (1, .int p), (2, .int w), (3, .int most), (4, .int least), (5, .int mn), (6, .int a), (7, .int (lo.getD 3 0))]) _ rfl (show ([0, 1, 2, 3, 4, 5, 6, 7] : List Nat).Nodup by decide) (List.forall_mem_cons.mpr ⟨rfl, List.forall_mem_cons.mpr ⟨rfl, List.forall_mem_cons.mpr ⟨rfl, List.forall_mem_cons.mpr ⟨rfl, List.forall_mem_cons.mpr ⟨rfl, List.forall_mem_cons.mpr ⟨rfl, List.forall_mem_cons.mpr ⟨rfl, List.forall_mem_cons.mpr ⟨rfl, fun _ hq => absurd hq List.not_mem_nil⟩⟩⟩⟩⟩⟩⟩⟩) ?_
    refine c_mr_in hM hf3 hf4 hf5 hK hO hH hw hg3 m _ _ _ hl3 hm ?_
    refine zT_gos (f := 200000) (pc2 := 46) (ls2 := [(6, .int (a + 1)), (0, .ref rm), (1, .int p), (2, .int w), (3, .int (oIn lo hi (kn.getD 0 0) (kn.getD 1 0) p 1 a m (lo.getD 3 0) most)), (4, .int (oIn lo hi (kn.getD 0 0) (kn.getD 1 0) p 0 a m (lo.getD 3 0) least)), (5, .int mn)]) (st2 := []) (h2 := h) (dc2 := 0) (ds2 := 0) 2 rfl ?_
    refine zT_ls (ls := [(0, .ref rm), (1, .int p), (2, .int w), (3, .int (oIn lo hi (kn.getD 0 0) (kn.getD 1 0) p 1 a m (lo.getD 3 0) most)), (4, .int (oIn lo hi (kn.getD 0 0) (kn.getD 1 0) p 0 a m (lo.getD 3 0) least)), (5, .int mn), (6, .int (a + 1))]) _ rfl (show ([0, 1, 2, 3, 4, 5, 6] : List Nat).Nodup by decide) (List.forall_mem_cons.mpr ⟨rfl, List.forall_mem_cons.mpr ⟨rfl, List.forall_mem_cons.mpr ⟨rfl, List.forall_mem_cons.mpr ⟨rfl, List.forall_mem_cons.mpr ⟨rfl, List.forall_mem_cons.mpr ⟨rfl, List.forall_mem_cons.mpr ⟨rfl, fun _ hq => absurd hq List.not_mem_nil⟩⟩⟩⟩⟩⟩⟩) ?_
    exact ih (a + 1) _ _ (by omega) (by omega) k
set_option maxHeartbeats 4000000 in
theorem c_mreach0 {h : zH} {rm rk ro rh : Nat} {fs : List Value} {kn lo hi : List Int32} (hM : zat h rm = some (.inr (.inr (.inr (10, fs))))) (hf3 : fs[3]? = some (.ref rk)) (hf4 : fs[4]? = some (.ref ro)) (hf5 : fs[5]? = some (.ref rh)) (hK : zat h rk = some (.inl (0, 14, kn))) (hO : zat h ro = some (.inl (0, 12, lo))) (hH : zat h rh = some (.inl (0, 12, hi))) {p w : Int32} (hw : w.toInt = 0) (hl2 : -32 ≤ (lo.getD 2 0).toInt) (hg2 : (hi.getD 2 0).toInt ≤ 31) (hl3 : -32 ≤ (lo.getD 3 0).toInt) (hg3 : (hi.getD 3 0).toInt ≤ 31) {m : Nat} (hm : (lo.getD 3 0).toInt + m = (hi.getD 3 0).toInt + 1) {n : Nat} (hn : (lo.getD 2 0).toInt + n = (hi.getD 2 0).toInt + 1) : zT zg0 zF zP 276 26 [(0, .ref rm), (1, .int p), (2, .int w)] [] h 0 0 (some (.int (oOut lo hi (kn.getD 0 0) (kn.getD 1 0) p 1 m n (lo.getD 2 0) (-2147483648))), h, 0, 0) := by
  refine zT_gos (f := 200000) (pc2 := 39) (ls2 := [(5, .int 0), (4, .int (-2147483648)), (3, .int (-2147483648)), (0, .ref rm), (1, .int p), (2, .int w)]) (st2 := [.ref rm]) (h2 := h) (dc2 := 0) (ds2 := 0) 7 rfl ?_
  refine zT_getf rfl hM hf4 ?_
  refine zT_gos (f := 200000) (pc2 := 43) (ls2 := [(5, .int 0), (4, .int (-2147483648)), (3, .int (-2147483648)), (0, .ref rm), (1, .int p), (2, .int w)]) (st2 := [.int 2, .ref ro]) (h2 := h) (dc2 := 0) (ds2 := 0) 1 rfl ?_
  refine zT_iald (n := 12) rfl hO rfl ?_
  refine zT_gos (f := 200000) (pc2 := 46) (ls2 := [(6, .int (lo.getD 2 0)), (5, .int 0), (4, .int (-2147483648)), (3, .int (-2147483648)), (0, .ref rm), (1, .int p), (2, .int w)]) (st2 := []) (h2 := h) (dc2 := 0) (ds2 := 0) 1 rfl ?_
  refine zT_ls (ls := [(0, .ref rm), (1, .int p), (2, .int w), (3, .int (-2147483648)), (4, .int (-2147483648)), (5, .int 0), (6, .int (lo.getD 2 0))]) _ rfl (show ([0, 1, 2, 3, 4, 5, 6] : List Nat).Nodup by decide) (List.forall_mem_cons.mpr ⟨rfl, List.forall_mem_cons.mpr ⟨rfl, List.forall_mem_cons.mpr ⟨rfl, List.forall_mem_cons.mpr ⟨rfl, List.forall_mem_cons.mpr ⟨rfl, List.forall_mem_cons.mpr ⟨rfl, List.forall_mem_cons.mpr ⟨rfl, fun _ hq => absurd hq List.not_mem_nil⟩⟩⟩⟩⟩⟩⟩) ?_
  refine c_mr_out hM hf3 hf4 hf5 hK hO hH (by omega) hl2 hg2 hl3 hg3 hm n _ _ _ hl2 hn ?_
  refine zT_gos (f := 200000) (pc2 := 199) (ls2 := [(0, .ref rm), (1, .int p), (2, .int w), (3, .int (oOut lo hi (kn.getD 0 0) (kn.getD 1 0) p 1 m n (lo.getD 2 0) (-2147483648))), (4, .int (oOut lo hi (kn.getD 0 0) (kn.getD 1 0) p 0 m n (lo.getD 2 0) (-2147483648))), (5, .int 0)]) (st2 := [.int w]) (h2 := h) (dc2 := 0) (ds2 := 0) 1 rfl ?_
  refine zT_if0 false rfl (zc_ne_f (by show w.toInt = 0; omega)) ?_
  refine zT_here (pc2 := 202) rfl ?_
  refine zT_gos (f := 200000) (pc2 := 218) (ls2 := [(0, .ref rm), (1, .int p), (2, .int w), (3, .int (oOut lo hi (kn.getD 0 0) (kn.getD 1 0) p 1 m n (lo.getD 2 0) (-2147483648))), (4, .int (oOut lo hi (kn.getD 0 0) (kn.getD 1 0) p 0 m n (lo.getD 2 0) (-2147483648))), (5, .int 0)]) (st2 := [.int (oOut lo hi (kn.getD 0 0) (kn.getD 1 0) p 1 m n (lo.getD 2 0) (-2147483648))]) (h2 := h) (dc2 := 0) (ds2 := 0) 2 rfl ?_
  exact zT_ret rfl rfl
set_option maxHeartbeats 4000000 in
theorem c_mreach1 {h : zH} {rm rk ro rh : Nat} {fs : List Value} {kn lo hi : List Int32} (hM : zat h rm = some (.inr (.inr (.inr (10, fs))))) (hf3 : fs[3]? = some (.ref rk)) (hf4 : fs[4]? = some (.ref ro)) (hf5 : fs[5]? = some (.ref rh)) (hK : zat h rk = some (.inl (0, 14, kn))) (hO : zat h ro = some (.inl (0, 12, lo))) (hH : zat h rh = some (.inl (0, 12, hi))) {p w : Int32} (hw : w.toInt = 1) (hl2 : -32 ≤ (lo.getD 2 0).toInt) (hg2 : (hi.getD 2 0).toInt ≤ 31) (hl3 : -32 ≤ (lo.getD 3 0).toInt) (hg3 : (hi.getD 3 0).toInt ≤ 31) {m : Nat} (hm : (lo.getD 3 0).toInt + m = (hi.getD 3 0).toInt + 1) {n : Nat} (hn : (lo.getD 2 0).toInt + n = (hi.getD 2 0).toInt + 1) : zT zg0 zF zP 276 26 [(0, .ref rm), (1, .int p), (2, .int w)] [] h 0 0 (some (.int (oOut lo hi (kn.getD 0 0) (kn.getD 1 0) p 0 m n (lo.getD 2 0) (-2147483648))), h, 0, 0) := by
  refine zT_gos (f := 200000) (pc2 := 39) (ls2 := [(5, .int 0), (4, .int (-2147483648)), (3, .int (-2147483648)), (0, .ref rm), (1, .int p), (2, .int w)]) (st2 := [.ref rm]) (h2 := h) (dc2 := 0) (ds2 := 0) 7 rfl ?_
  refine zT_getf rfl hM hf4 ?_
  refine zT_gos (f := 200000) (pc2 := 43) (ls2 := [(5, .int 0), (4, .int (-2147483648)), (3, .int (-2147483648)), (0, .ref rm), (1, .int p), (2, .int w)]) (st2 := [.int 2, .ref ro]) (h2 := h) (dc2 := 0) (ds2 := 0) 1 rfl ?_
  refine zT_iald (n := 12) rfl hO rfl ?_
  refine zT_gos (f := 200000) (pc2 := 46) (ls2 := [(6, .int (lo.getD 2 0)), (5, .int 0), (4, .int (-2147483648)), (3, .int (-2147483648)), (0, .ref rm), (1, .int p), (2, .int w)]) (st2 := []) (h2 := h) (dc2 := 0) (ds2 := 0) 1 rfl ?_
  refine zT_ls (ls := [(0, .ref rm), (1, .int p), (2, .int w), (3, .int (-2147483648)), (4, .int (-2147483648)), (5, .int 0), (6, .int (lo.getD 2 0))]) _ rfl (show ([0, 1, 2, 3, 4, 5, 6] : List Nat).Nodup by decide) (List.forall_mem_cons.mpr ⟨rfl, List.forall_mem_cons.mpr ⟨rfl, List.forall_mem_cons.mpr ⟨rfl, List.forall_mem_cons.mpr ⟨rfl, List.forall_mem_cons.mpr ⟨rfl, List.forall_mem_cons.mpr ⟨rfl, List.forall_mem_cons.mpr ⟨rfl, fun _ hq => absurd hq List.not_mem_nil⟩⟩⟩⟩⟩⟩⟩) ?_
  refine c_mr_out hM hf3 hf4 hf5 hK hO hH (by omega) hl2 hg2 hl3 hg3 hm n _ _ _ hl2 hn ?_
  refine zT_gos (f := 200000) (pc2 := 199) (ls2 := [(0, .ref rm), (1, .int p), (2, .int w), (3, .int (oOut lo hi (kn.getD 0 0) (kn.getD 1 0) p 1 m n (lo.getD 2 0) (-2147483648))), (4, .int (oOut lo hi (kn.getD 0 0) (kn.getD 1 0) p 0 m n (lo.getD 2 0) (-2147483648))), (5, .int 0)]) (st2 := [.int w]) (h2 := h) (dc2 := 0) (ds2 := 0) 1 rfl ?_
  refine zT_if0 true rfl (zc_ne_t (by show w.toInt ≠ 0; omega)) ?_
  refine zT_here (pc2 := 206) rfl ?_
  refine zT_gos (f := 200000) (pc2 := 208) (ls2 := [(0, .ref rm), (1, .int p), (2, .int w), (3, .int (oOut lo hi (kn.getD 0 0) (kn.getD 1 0) p 1 m n (lo.getD 2 0) (-2147483648))), (4, .int (oOut lo hi (kn.getD 0 0) (kn.getD 1 0) p 0 m n (lo.getD 2 0) (-2147483648))), (5, .int 0)]) (st2 := [.int 1, .int w]) (h2 := h) (dc2 := 0) (ds2 := 0) 2 rfl ?_
  refine zT_if2 false rfl (zc_ne_f (by show w.toInt = 1; omega)) ?_
  refine zT_here (pc2 := 211) rfl ?_
  refine zT_gos (f := 200000) (pc2 := 218) (ls2 := [(0, .ref rm), (1, .int p), (2, .int w), (3, .int (oOut lo hi (kn.getD 0 0) (kn.getD 1 0) p 1 m n (lo.getD 2 0) (-2147483648))), (4, .int (oOut lo hi (kn.getD 0 0) (kn.getD 1 0) p 0 m n (lo.getD 2 0) (-2147483648))), (5, .int 0)]) (st2 := [.int (oOut lo hi (kn.getD 0 0) (kn.getD 1 0) p 0 m n (lo.getD 2 0) (-2147483648))]) (h2 := h) (dc2 := 0) (ds2 := 0) 2 rfl ?_
  exact zT_ret rfl rfl
