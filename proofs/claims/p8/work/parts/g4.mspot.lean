/-! The reference: spots, ways, a line, a text. -/
noncomputable def mspF (sn : List Int32) (f n : Nat) (nm9 : Int32) : Nat → Nat → Int32
  | 0, _ => 0
  | m + 1, k => (if (nI n).toInt ≤ (nI k).toInt then (-1) else (if (sn.getD (f + k) 0) ≠ nm9 then (mspF sn f n nm9 m (k + 1)) else (nI k)))
set_option maxRecDepth 100000 in
set_option maxHeartbeats 4000000 in
theorem m_spL {h : zH} {n0 n2 n14 n22 n23 n27 n28 n32 n33 n34 n35 n39 n52 : Int32} {sz : Nat} {so va ft fp nm9 : Int32} {at9 pl f n : Nat} {sn : List Int32} (hM : zat h 162 = some (.inr (.inr (.inr (10, mO n0 n2 n14 (nI sz) (nI at9) (nI pl) so va ft fp n22 n23 n27 n28 n32 n33 n34 n35 n39 n52))))) (hSn : zat h 176 = some (.inl (0, 16, sn))) (hf : f + n ≤ 16) : ∀ (m : Nat) (k : Nat), (k ≤ n) → (n - k) < m → ∀ (dc ds : Nat), wq 176 3 [(0, .ref 162), (1, .int (nI f)), (2, .int (nI n)), (3, .int nm9), (4, .int (nI k))] [] h dc ds (fun rr9 => rr9 = (some (Value.int (mspF sn f n nm9 m k)), h, dc, ds)) := by
  intro m
  induction m with
  | zero => intro k hk hms dc ds; omega
  | succ m ih =>
    intro k hk hms dc ds
    have qnk := nI_toInt (n := k) (by omega)
    have qnn := nI_toInt (n := n) (by omega)
    have qnf := nI_toInt (n := f) (by omega)
    refine wq_gos (f := 1) (pc2 := 6) (ls2 := [(0, .ref 162), (1, .int (nI f)), (2, .int (nI n)), (3, .int nm9), (4, .int (nI k))]) (st2 := [.int (nI n), .int (nI k)]) (h2 := h) (dc2 := dc) (ds2 := ds) 2 rfl ?_
    try have q1x := nI_toInt (n := k) (by omega)
    try have q2x := nI_toInt (n := n) (by omega)
    refine wq_ge2 rfl rfl (fun b3x => ?_) (fun b3x => ?_)
    · refine wq_gos (f := 1) (pc2 := 32) (ls2 := [(0, .ref 162), (1, .int (nI f)), (2, .int (nI n)), (3, .int nm9), (4, .int (nI k))]) (st2 := [.int (-1)]) (h2 := h) (dc2 := dc) (ds2 := ds) 1 rfl ?_
      have hx : (mspF sn f n nm9 (m + 1) k) = (-1) := by show (if _ then _ else _) = _; rw [if_pos b3x]
      refine wq_ret rfl rfl ?_
      show (some (Value.int (-1)), h, dc, ds) = (some (Value.int (mspF sn f n nm9 (m + 1) k)), h, dc, ds)
      rw [hx]
    · refine wq_gos (f := 1) (pc2 := 10) (ls2 := [(0, .ref 162), (1, .int (nI f)), (2, .int (nI n)), (3, .int nm9), (4, .int (nI k))]) (st2 := [.ref 162]) (h2 := h) (dc2 := dc) (ds2 := ds) 1 rfl ?_
      refine wq_getf rfl hM rfl rfl ?_
      refine wq_gos (f := 1) (pc2 := 17) (ls2 := [(0, .ref 162), (1, .int (nI f)), (2, .int (nI n)), (3, .int nm9), (4, .int (nI k))]) (st2 := [.int ((nI f) + (nI k)), .ref 176]) (h2 := h) (dc2 := dc) (ds2 := ds) 3 rfl ?_
      refine wq_vi (show (nI f) + (nI k) = nI (f + k) from nI_add f k) ?_
      try have q4x := nI_toInt (n := (f + k)) (by omega)
      refine wq_ialdn rfl hSn (by first | omega | exact zin_t (by omega) (by omega)) (by decide) rfl ?_
      refine wq_gos (f := 1) (pc2 := 19) (ls2 := [(0, .ref 162), (1, .int (nI f)), (2, .int (nI n)), (3, .int nm9), (4, .int (nI k))]) (st2 := [.int nm9, .int (sn.getD (f + k) 0)]) (h2 := h) (dc2 := dc) (ds2 := ds) 1 rfl ?_
      refine wq_ne2 rfl rfl (fun b5x => ?_) (fun b5x => ?_)
      · have q6x : (sn.getD (f + k) 0).toInt ≠ nm9.toInt := fun q => b5x (Int32.toInt_inj.mp q)
        refine wq_gos (f := 1) (pc2 := 28) (ls2 := [(4, .int ((nI k) + 1)), (0, .ref 162), (1, .int (nI f)), (2, .int (nI n)), (3, .int nm9)]) (st2 := []) (h2 := h) (dc2 := dc) (ds2 := ds) 1 rfl ?_
        rw [nI_1]
        refine wq_gos (f := 1) (pc2 := 3) (ls2 := [(4, .int (nI (k + 1))), (0, .ref 162), (1, .int (nI f)), (2, .int (nI n)), (3, .int nm9)]) (st2 := []) (h2 := h) (dc2 := dc) (ds2 := ds) 1 rfl ?_
        try have q7x := nI_toInt (n := (k + 1)) (by omega)
        try have q8x := nI_toInt (n := f) (by omega)
        have hx : (mspF sn f n nm9 (m + 1) k) = (mspF sn f n nm9 m (k + 1)) := by show (if _ then _ else _) = _; rw [if_neg (Int.not_le.mpr b3x), if_pos b5x]
        rw [hx]
        refine wq_ls [(0, .ref 162), (1, .int (nI f)), (2, .int (nI n)), (3, .int nm9), (4, .int (nI (k + 1)))] (show ([0, 1, 2, 3, 4] : List Nat).Nodup by decide) ⟨rfl, rfl, rfl, rfl, rfl, trivial⟩ ?_
        exact ih (k + 1) (by first | assumption | omega | decide | solve_by_elim) (by omega) dc ds
      · have q9x : (sn.getD (f + k) 0).toInt = nm9.toInt := congrArg Int32.toInt b5x
        refine wq_gos (f := 1) (pc2 := 24) (ls2 := [(0, .ref 162), (1, .int (nI f)), (2, .int (nI n)), (3, .int nm9), (4, .int (nI k))]) (st2 := [.int (nI k)]) (h2 := h) (dc2 := dc) (ds2 := ds) 1 rfl ?_
        have hx : (mspF sn f n nm9 (m + 1) k) = (nI k) := by show (if _ then _ else _) = _; rw [if_neg (Int.not_le.mpr b3x), if_neg (fun q => q b5x)]
        refine wq_ret rfl rfl ?_
        show (some (Value.int (nI k)), h, dc, ds) = (some (Value.int (mspF sn f n nm9 (m + 1) k)), h, dc, ds)
        rw [hx]
theorem mspF_r {sn : List Int32} {f n : Nat} {nm9 : Int32} (hn : n ≤ 16) : ∀ m k, k ≤ n → n - k < m → (mspF sn f n nm9 m k).toInt = -1 ∨ (0 ≤ (mspF sn f n nm9 m k).toInt ∧ (mspF sn f n nm9 m k).toInt < n) := by
  intro m
  induction m with
  | zero => intro k h1 h2; omega
  | succ m ih =>
    intro k h1 h2
    unfold mspF
    have q1 := nI_toInt (n := n) (by omega)
    have q2 := nI_toInt (n := k) (by omega)
    by_cases c : (nI n).toInt ≤ (nI k).toInt
    · rw [if_pos c]; exact Or.inl rfl
    · rw [if_neg c]
      split
      · exact ih (k + 1) (by omega) (by omega)
      · right; omega
set_option maxRecDepth 100000 in
set_option maxHeartbeats 4000000 in
theorem m_spA {h : zH} {n0 n2 n14 n22 n23 n27 n28 n32 n33 n34 n35 n39 n52 : Int32} {sz : Nat} {so va ft fp nm9 : Int32} {at9 pl f n : Nat} {sn : List Int32} (hM : zat h 162 = some (.inr (.inr (.inr (10, mO n0 n2 n14 (nI sz) (nI at9) (nI pl) so va ft fp n22 n23 n27 n28 n32 n33 n34 n35 n39 n52))))) (hSn : zat h 176 = some (.inl (0, 16, sn))) (hf : f + n ≤ 16) : wq 176 0 [(0, .ref 162), (1, .int (nI f)), (2, .int (nI n)), (3, .int nm9)] [] h 0 0 (fun rr9 => rr9 = (some (.int (mspF sn f n nm9 (n - 0 + 1) 0)), h, 0, 0) ∧ ((mspF sn f n nm9 (n - 0 + 1) 0).toInt = -1 ∨ (0 ≤ (mspF sn f n nm9 (n - 0 + 1) 0).toInt ∧ (mspF sn f n nm9 (n - 0 + 1) 0).toInt < n))) := by
  refine wq_gos (f := 1) (pc2 := 3) (ls2 := [(4, .int 0), (0, .ref 162), (1, .int (nI f)), (2, .int (nI n)), (3, .int nm9)]) (st2 := []) (h2 := h) (dc2 := 0) (ds2 := 0) 2 rfl ?_
  try have q1x := nI_toInt (n := f) (by omega)
  try have q2x := nI_toInt (n := n) (by omega)
  refine wq_ls [(0, .ref 162), (1, .int (nI f)), (2, .int (nI n)), (3, .int nm9), (4, .int (nI 0))] (show ([0, 1, 2, 3, 4] : List Nat).Nodup by decide) ⟨rfl, rfl, rfl, rfl, rfl, trivial⟩ ?_
  refine wq_mono (m_spL hM hSn (by first | assumption | omega | decide | solve_by_elim) ((n - 0) + 1) 0 (by first | assumption | omega | decide | solve_by_elim) (by omega) 0 0) ?_
  rintro _ rfl
  exact ⟨rfl, (mspF_r (by omega) _ _ (by omega) (by omega))⟩
/-- what a text has told so far: the numbers, the spots, the way -/
noncomputable def wNm (kn : List Int32) (ns nw : Nat) : Prop := kn.getD 12 0 = nI ns ∧ kn.getD 13 0 = nI nw ∧ ns ≤ 8 ∧ nw ≤ 10 ∧ 1 ≤ (kn.getD 7 0).toInt ∧ (kn.getD 7 0).toInt ≤ 99 ∧ 1 ≤ (kn.getD 8 0).toInt ∧ (kn.getD 8 0).toInt ≤ 99 ∧ 1 ≤ (kn.getD 9 0).toInt ∧ (kn.getD 9 0).toInt ≤ 99 ∧ 0 ≤ (kn.getD 10 0).toInt ∧ (kn.getD 10 0).toInt ≤ 9 ∧ 0 ≤ (kn.getD 11 0).toInt ∧ (kn.getD 11 0).toInt ≤ 99999
noncomputable def wQ2 (sq : List Int32) (ns : Nat) : Prop := ∀ k, k < ns → wPL sq (6 * (8 + k)) 6
noncomputable def wW2 (wy : List Int32) (nw ns : Nat) : Prop := ∀ i, i < nw → ∃ w, wy.getD (10 + i) 0 = nI w ∧ w < ns
noncomputable def wEO (kn sq : List Int32) (ns nw : Nat) : Prop := ∃ m9, ns ≤ m9 ∧ wNm kn m9 nw ∧ wQ2 sq m9
noncomputable def wEG (kn wy : List Int32) (ns : Nat) : Prop := ∃ m9, wNm kn ns m9 ∧ wW2 wy m9 ns
noncomputable def wMT (kn lo hi sv rt sq wy : List Int32) : Prop := ∃ ns nw, wNm kn ns nw ∧ wL2 lo hi ∧ wS2 sv ∧ wPL rt 6 6 ∧ wQ2 sq ns ∧ wW2 wy nw ns
theorem wNm_12 {kn : List Int32} {ns nw : Nat} (h : wNm kn ns nw) (hn : ns < 8) : wNm (zset 0 kn 12 (nI (ns + 1))) (ns + 1) nw := by
  unfold wNm at h ⊢
  obtain ⟨a, b, c, d, e⟩ := h
  refine ⟨by rw [zset_get, if_pos rfl], by rw [zset_get, if_neg (by decide)]; exact b, by omega, d, ?_⟩
  rw [zset_get, zset_get, zset_get, zset_get, zset_get, if_neg (by decide), if_neg (by decide), if_neg (by decide), if_neg (by decide), if_neg (by decide)]
  exact e
theorem wNm_13 {kn : List Int32} {ns nw : Nat} (h : wNm kn ns nw) (hn : nw < 10) : wNm (zset 0 kn 13 (nI (nw + 1))) ns (nw + 1) := by
  unfold wNm at h ⊢
  obtain ⟨a, b, c, d, e⟩ := h
  refine ⟨by rw [zset_get, if_neg (by decide)]; exact a, by rw [zset_get, if_pos rfl], c, by omega, ?_⟩
  rw [zset_get, zset_get, zset_get, zset_get, zset_get, if_neg (by decide), if_neg (by decide), if_neg (by decide), if_neg (by decide), if_neg (by decide)]
  exact e
theorem wQ2_s {sq sq2 : List Int32} {ns : Nat} (h : wQ2 sq ns) (h1 : wPL sq2 (6 * (8 + ns)) 6) (h2 : ∀ q, q < 6 * (8 + ns) ∨ 6 * (8 + ns) + 6 ≤ q → sq2.getD q 0 = sq.getD q 0) : wQ2 sq2 (ns + 1) := by
  intro k hk
  by_cases e : k = ns
  · rw [e]; exact h1
  · intro i hi
    rw [h2 _ (Or.inl (by omega))]
    exact h k (by omega) i hi
theorem wW2_m {wy : List Int32} {nw ns ns2 : Nat} (h : wW2 wy nw ns) (hn : ns ≤ ns2) : wW2 wy nw ns2 := fun i hi => by
  obtain ⟨w, a, b⟩ := h i hi
  exact ⟨w, a, by omega⟩
theorem wW2_s {wy : List Int32} {nw ns : Nat} {v : Int32} (h : wW2 wy nw ns) (hv : 0 ≤ v.toInt ∧ v.toInt < ns) : wW2 (zset 0 wy (10 + nw) v) (nw + 1) ns := by
  intro i hi
  rw [zset_get]
  by_cases e : i = nw
  · rw [if_pos (by omega)]
    exact ⟨v.toNatClampNeg, nI_cl hv.1, by show v.toInt.toNat < ns; omega⟩
  · rw [if_neg (by omega)]; exact h i (by omega)
noncomputable def mRdO (tb : List Int32) (sz at9 pl : Nat) (so va ft fp : Int32) (ns : Nat) (kn sn sq : List Int32) : Int32 × Int32 × Nat × Nat × Int32 × Int32 × List Int32 × List Int32 × List Int32 := (if (nI ns) ≠ (8 : Int32) then (zlet (mGo tb sz at9 pl so va ft) (fun v7x => (if ft = (0 : Int32) then (if (v7x.2.2.1) = (1 : Int32) then (if (mspF sn 8 ns (v7x.2.2.2) (ns - 0 + 1) 0) = (-1 : Int32) then (if ft = (0 : Int32) then (zlet (mTok tb sz (v7x.1) (v7x.2.2.2)) (fun v30x => (zlet (mRdP tb sz (v30x.1) (v30x.2.1) (v30x.2.2.1) (v30x.2.2.2) ft fp (6 * (8 + ns)) sq) (fun v36x => ((v36x.1), (v36x.2.1), (v36x.2.2.1), (v36x.2.2.2.1), (v36x.2.2.2.2.1), (v36x.2.2.2.2.2.1), (zset 0 kn 12 (nI (ns + 1))), (zset 0 sn (8 + ns) (v7x.2.2.2)), (v36x.2.2.2.2.2.2)))))) else (ft, fp, (v7x.1), (v7x.2.1), (v7x.2.2.1), (v7x.2.2.2), kn, sn, sq)) else (zlet (mWro (v7x.2.1) ft fp (3 : Int32)) (fun v51x => (if (v51x.1) = (0 : Int32) then (zlet (mTok tb sz (v7x.1) (v7x.2.2.2)) (fun v65x => (zlet (mRdP tb sz (v65x.1) (v65x.2.1) (v65x.2.2.1) (v65x.2.2.2) (v51x.1) (v51x.2) (6 * (8 + ns)) sq) (fun v71x => ((v71x.1), (v71x.2.1), (v71x.2.2.1), (v71x.2.2.2.1), (v71x.2.2.2.2.1), (v71x.2.2.2.2.2.1), (zset 0 kn 12 (nI (ns + 1))), (zset 0 sn (8 + ns) (v7x.2.2.2)), (v71x.2.2.2.2.2.2)))))) else ((v51x.1), (v51x.2), (v7x.1), (v7x.2.1), (v7x.2.2.1), (v7x.2.2.2), kn, sn, sq))))) else (zlet (mWro (v7x.2.1) ft fp (1 : Int32)) (fun v87x => (if (v87x.1) = (0 : Int32) then (zlet (mTok tb sz (v7x.1) (v7x.2.2.2)) (fun v101x => (zlet (mRdP tb sz (v101x.1) (v101x.2.1) (v101x.2.2.1) (v101x.2.2.2) (v87x.1) (v87x.2) (6 * (8 + ns)) sq) (fun v107x => ((v107x.1), (v107x.2.1), (v107x.2.2.1), (v107x.2.2.2.1), (v107x.2.2.2.2.1), (v107x.2.2.2.2.2.1), (zset 0 kn 12 (nI (ns + 1))), (zset 0 sn (8 + ns) (v7x.2.2.2)), (v107x.2.2.2.2.2.2)))))) else ((v87x.1), (v87x.2), (v7x.1), (v7x.2.1), (v7x.2.2.1), (v7x.2.2.2), kn, sn, sq))))) else (ft, fp, (v7x.1), (v7x.2.1), (v7x.2.2.1), (v7x.2.2.2), kn, sn, sq)))) else (zlet (mWro pl ft fp (2 : Int32)) (fun v128x => (zlet (mGo tb sz at9 pl so va (v128x.1)) (fun v132x => (if (v128x.1) = (0 : Int32) then (if (v132x.2.2.1) = (1 : Int32) then (if (mspF sn 8 ns (v132x.2.2.2) (ns - 0 + 1) 0) = (-1 : Int32) then (if (v128x.1) = (0 : Int32) then (zlet (mTok tb sz (v132x.1) (v132x.2.2.2)) (fun v155x => (zlet (mRdP tb sz (v155x.1) (v155x.2.1) (v155x.2.2.1) (v155x.2.2.2) (v128x.1) (v128x.2) (6 * (8 + ns)) sq) (fun v161x => ((v161x.1), (v161x.2.1), (v161x.2.2.1), (v161x.2.2.2.1), (v161x.2.2.2.2.1), (v161x.2.2.2.2.2.1), (zset 0 kn 12 (nI (ns + 1))), (zset 0 sn (8 + ns) (v132x.2.2.2)), (v161x.2.2.2.2.2.2)))))) else ((v128x.1), (v128x.2), (v132x.1), (v132x.2.1), (v132x.2.2.1), (v132x.2.2.2), kn, sn, sq)) else (zlet (mWro (v132x.2.1) (v128x.1) (v128x.2) (3 : Int32)) (fun v176x => (if (v176x.1) = (0 : Int32) then (zlet (mTok tb sz (v132x.1) (v132x.2.2.2)) (fun v190x => (zlet (mRdP tb sz (v190x.1) (v190x.2.1) (v190x.2.2.1) (v190x.2.2.2) (v176x.1) (v176x.2) (6 * (8 + ns)) sq) (fun v196x => ((v196x.1), (v196x.2.1), (v196x.2.2.1), (v196x.2.2.2.1), (v196x.2.2.2.2.1), (v196x.2.2.2.2.2.1), (zset 0 kn 12 (nI (ns + 1))), (zset 0 sn (8 + ns) (v132x.2.2.2)), (v196x.2.2.2.2.2.2)))))) else ((v176x.1), (v176x.2), (v132x.1), (v132x.2.1), (v132x.2.2.1), (v132x.2.2.2), kn, sn, sq))))) else (zlet (mWro (v132x.2.1) (v128x.1) (v128x.2) (1 : Int32)) (fun v212x => (if (v212x.1) = (0 : Int32) then (zlet (mTok tb sz (v132x.1) (v132x.2.2.2)) (fun v226x => (zlet (mRdP tb sz (v226x.1) (v226x.2.1) (v226x.2.2.1) (v226x.2.2.2) (v212x.1) (v212x.2) (6 * (8 + ns)) sq) (fun v232x => ((v232x.1), (v232x.2.1), (v232x.2.2.1), (v232x.2.2.2.1), (v232x.2.2.2.2.1), (v232x.2.2.2.2.2.1), (zset 0 kn 12 (nI (ns + 1))), (zset 0 sn (8 + ns) (v132x.2.2.2)), (v232x.2.2.2.2.2.2)))))) else ((v212x.1), (v212x.2), (v132x.1), (v132x.2.1), (v132x.2.2.1), (v132x.2.2.2), kn, sn, sq))))) else ((v128x.1), (v128x.2), (v132x.1), (v132x.2.1), (v132x.2.2.1), (v132x.2.2.2), kn, sn, sq)))))))
set_option maxRecDepth 100000 in
set_option maxHeartbeats 4000000 in
theorem m_rdO {h : zH} {n0 n2 n14 n22 n23 n27 n28 n32 n33 n34 n35 n39 n52 : Int32} {sz at9 pl : Nat} {so va ft fp : Int32} {tb : List Int32} {a0 : Nat} {ns nw : Nat} {kn sn sq k0 r0 : List Int32} (hM : zat h 162 = some (.inr (.inr (.inr (10, mO n0 n2 n14 (nI sz) (nI at9) (nI pl) so va ft fp n22 n23 n27 n28 n32 n33 n34 n35 n39 n52))))) (hT : zat h 164 = some (.inl (0, 700, tb))) (hKn : zat h 166 = some (.inl (0, 14, kn))) (hSn : zat h 176 = some (.inl (0, 16, sn))) (hSq : zat h 178 = some (.inl (0, 96, sq))) (hsz : sz ≤ 700) (ha : a0 ≤ at9 ∧ at9 ≤ sz) (hp : pl ≤ at9) (hf0 : 0 ≤ ft.toInt) (hN : wNm kn ns nw) (hQ : wQ2 sq ns) (hz1 : wFh 7 k0 kn) (hz2 : wFh 48 r0 sq) : wq 177 0 [(0, .ref 162)] [] h 0 0 (fun rr9 => ∃ (h2 : zH), rr9 = (none, h2, 0, 0) ∧ wFr [162, 166, 176, 178] h h2 ∧ h2.length = h.length ∧ zat h2 162 = some (.inr (.inr (.inr (10, mO n0 n2 n14 (nI sz) (nI ((mRdO tb sz at9 pl so va ft fp ns kn sn sq).2.2.1)) (nI ((mRdO tb sz at9 pl so va ft fp ns kn sn sq).2.2.2.1)) ((mRdO tb sz at9 pl so va ft fp ns kn sn sq).2.2.2.2.1) ((mRdO tb sz at9 pl so va ft fp ns kn sn sq).2.2.2.2.2.1) ((mRdO tb sz at9 pl so va ft fp ns kn sn sq).1) ((mRdO tb sz at9 pl so va ft fp ns kn sn sq).2.1) n22 n23 n27 n28 n32 n33 n34 n35 n39 n52)))) ∧ zat h2 166 = some (.inl (0, 14, ((mRdO tb sz at9 pl so va ft fp ns kn sn sq).2.2.2.2.2.2.1))) ∧ zat h2 176 = some (.inl (0, 16, ((mRdO tb sz at9 pl so va ft fp ns kn sn sq).2.2.2.2.2.2.2.1))) ∧ zat h2 178 = some (.inl (0, 96, ((mRdO tb sz at9 pl so va ft fp ns kn sn sq).2.2.2.2.2.2.2.2))) ∧ ((a0 ≤ ((mRdO tb sz at9 pl so va ft fp ns kn sn sq).2.2.1))) ∧ ((((mRdO tb sz at9 pl so va ft fp ns kn sn sq).2.2.1) ≤ sz)) ∧ ((((mRdO tb sz at9 pl so va ft fp ns kn sn sq).2.2.2.1) ≤ ((mRdO tb sz at9 pl so va ft fp ns kn sn sq).2.2.1))) ∧ ((0 ≤ (((mRdO tb sz at9 pl so va ft fp ns kn sn sq).1)).toInt)) ∧ ((((((mRdO tb sz at9 pl so va ft fp ns kn sn sq).1)).toInt ≠ 0 ∨ (((mRdO tb sz at9 pl so va ft fp ns kn sn sq).2.2.2.2.1)).toInt ≠ 4 ∨ a0 < ((mRdO tb sz at9 pl so va ft fp ns kn sn sq).2.2.1)))) ∧ (((((mRdO tb sz at9 pl so va ft fp ns kn sn sq).1)).toInt = 0 → wEO (((mRdO tb sz at9 pl so va ft fp ns kn sn sq).2.2.2.2.2.2.1)) (((mRdO tb sz at9 pl so va ft fp ns kn sn sq).2.2.2.2.2.2.2.2)) ns nw)) ∧ ((wFh 7 k0 (((mRdO tb sz at9 pl so va ft fp ns kn sn sq).2.2.2.2.2.2.1)))) ∧ ((wFh 48 r0 (((mRdO tb sz at9 pl so va ft fp ns kn sn sq).2.2.2.2.2.2.2.2))))) := by
  have zm1 : (-1 : Int32).toInt = -1 := rfl
  have z0 : (0 : Int32).toInt = 0 := rfl
  have z1 : (1 : Int32).toInt = 1 := rfl
  have z2 : (2 : Int32).toInt = 2 := rfl
  have z3 : (3 : Int32).toInt = 3 := rfl
  have z4 : (4 : Int32).toInt = 4 := rfl
  have z5 : (5 : Int32).toInt = 5 := rfl
  have z6 : (6 : Int32).toInt = 6 := rfl
  have z8 : (8 : Int32).toInt = 8 := rfl
  have z9 : (9 : Int32).toInt = 9 := rfl
  have z10 : (10 : Int32).toInt = 10 := rfl
  have z32 : (32 : Int32).toInt = 32 := rfl
  have z99 : (99 : Int32).toInt = 99 := rfl
  have z99999 : (99999 : Int32).toInt = 99999 := rfl
  have hn8 := hN.2.2.1
  have hn10 := hN.2.2.2.1
  have qnns := nI_toInt (n := ns) (by omega)
  refine wq_gos (f := 1) (pc2 := 2) (ls2 := [(0, .ref 162)]) (st2 := [.int 5, .ref 162]) (h2 := h) (dc2 := 0) (ds2 := 0) 2 rfl ?_
  refine wq_inlv (y2 := 169) (as := [.int 5]) rfl rfl rfl hM rfl ?_
  show wq 169 0 [(0, .ref 162), (1, .int 5)] [] h 0 0 _
  refine wq_gos (f := 1) (pc2 := 1) (ls2 := [(0, .ref 162), (1, .int 5)]) (st2 := [.ref 162]) (h2 := h) (dc2 := 0) (ds2 := 0) 1 rfl ?_
  refine wq_getf rfl hM rfl rfl ?_
  refine wq_gos (f := 1) (pc2 := 8) (ls2 := [(0, .ref 162), (1, .int 5)]) (st2 := [.int 12, .ref 166]) (h2 := h) (dc2 := 0) (ds2 := 0) 3 rfl ?_
  have q1x : (12 : Int32).toInt = 12 := rfl
  refine wq_iald rfl hKn rfl rfl ?_
  refine wq_vi hN.1 ?_
  refine wq_ret rfl rfl ?_
  show wq 177 5 [(0, .ref 162)] [.int (nI ns)] h 0 0 _
  refine wq_gos (f := 1) (pc2 := 7) (ls2 := [(0, .ref 162)]) (st2 := [.int 8, .int (nI ns)]) (h2 := h) (dc2 := 0) (ds2 := 0) 1 rfl ?_
  try have q2x := nI_toInt (n := ns) (by omega)
  have q3x : (8 : Int32).toInt = 8 := rfl
  refine wq_ne2 rfl rfl (fun b4x => ?_) (fun b4x => ?_)
  · have q5x : (nI ns).toInt ≠ 8 := fun q => b4x (Int32.toInt_inj.mp q)
    refine wq_gos (f := 1) (pc2 := 16) (ls2 := [(0, .ref 162)]) (st2 := [.ref 162]) (h2 := h) (dc2 := 0) (ds2 := 0) 1 rfl ?_
    refine wq_inlv (y2 := 164) (as := []) rfl rfl rfl hM rfl (wq_mono (m_go hM hT (by first | assumption | omega | decide | solve_by_elim) ⟨Nat.le_refl _, by omega⟩ (by first | assumption | omega | decide | solve_by_elim)) ?_)
    rintro _ ⟨h86x, rfl, f86x, l86x, c06x, p06x, p16x, p26x, p36x⟩
    show wq 177 19 [(0, .ref 162)] [] h86x 0 0 _
    obtain ⟨v7x, hv8x⟩ : ∃ x, x = (mGo tb sz at9 pl so va ft) := ⟨_, rfl⟩
    try rw [← hv8x] at c06x
    try rw [← hv8x] at p06x
    try rw [← hv8x] at p16x
    try rw [← hv8x] at p26x
    try rw [← hv8x] at p36x
    try rw [← hv8x]
    refine wq_gos (f := 1) (pc2 := 20) (ls2 := [(0, .ref 162)]) (st2 := [.ref 162]) (h2 := h86x) (dc2 := 0) (ds2 := 0) 1 rfl ?_
    refine wq_getf rfl c06x rfl rfl ?_
    refine wq_eq0 rfl rfl (fun b9x => ?_) (fun b9x => ?_)
    · have q10x : ft.toInt = 0 := congrArg Int32.toInt b9x
      refine wq_gos (f := 1) (pc2 := 28) (ls2 := [(0, .ref 162)]) (st2 := [.ref 162]) (h2 := h86x) (dc2 := 0) (ds2 := 0) 1 rfl ?_
      refine wq_getf rfl c06x rfl rfl ?_
      refine wq_gos (f := 1) (pc2 := 32) (ls2 := [(0, .ref 162)]) (st2 := [.int 1, .int (v7x.2.2.1)]) (h2 := h86x) (dc2 := 0) (ds2 := 0) 1 rfl ?_
      have q11x : (1 : Int32).toInt = 1 := rfl
      refine wq_eq2 rfl rfl (fun b12x => ?_) (fun b12x => ?_)
      · have q13x : (v7x.2.2.1).toInt = 1 := congrArg Int32.toInt b12x
        refine wq_gos (f := 1) (pc2 := 48) (ls2 := [(0, .ref 162)]) (st2 := [.int 5, .ref 162, .int 8, .ref 162]) (h2 := h86x) (dc2 := 0) (ds2 := 0) 4 rfl ?_
        refine wq_inlv (y2 := 169) (as := [.int 5]) rfl rfl rfl c06x rfl ?_
        show wq 169 0 [(0, .ref 162), (1, .int 5)] [] h86x 0 0 _
        refine wq_gos (f := 1) (pc2 := 1) (ls2 := [(0, .ref 162), (1, .int 5)]) (st2 := [.ref 162]) (h2 := h86x) (dc2 := 0) (ds2 := 0) 1 rfl ?_
        refine wq_getf rfl c06x rfl rfl ?_
        refine wq_gos (f := 1) (pc2 := 8) (ls2 := [(0, .ref 162), (1, .int 5)]) (st2 := [.int 12, .ref 166]) (h2 := h86x) (dc2 := 0) (ds2 := 0) 3 rfl ?_
        have e14x := (f86x.2 _ _ (wnc (by decide) wn0) hKn)
        refine wq_iald rfl e14x rfl rfl ?_
        refine wq_vi hN.1 ?_
        refine wq_ret rfl rfl ?_
        show wq 177 51 [(0, .ref 162)] [.int (nI ns), .int 8, .ref 162] h86x 0 0 _
        refine wq_gos (f := 1) (pc2 := 52) (ls2 := [(0, .ref 162)]) (st2 := [.ref 162, .int (nI ns), .int 8, .ref 162]) (h2 := h86x) (dc2 := 0) (ds2 := 0) 1 rfl ?_
        refine wq_getf rfl c06x rfl rfl ?_
        have e15x := (f86x.2 _ _ (wnc (by decide) wn0) hSn)
        refine wq_inlv (y2 := 176) (as := [.int 8, .int (nI ns), .int (v7x.2.2.2)]) rfl rfl rfl c06x rfl (wq_mono (m_spA (f := 8) c06x e15x (by first | assumption | omega | decide | solve_by_elim)) ?_)
        rintro _ ⟨rfl, p016x⟩
        show wq 177 58 [(0, .ref 162)] [.int (mspF sn 8 ns (v7x.2.2.2) (ns - 0 + 1) 0)] h86x 0 0 _
        refine wq_gos (f := 1) (pc2 := 59) (ls2 := [(0, .ref 162)]) (st2 := [.int (-1), .int (mspF sn 8 ns (v7x.2.2.2) (ns - 0 + 1) 0)]) (h2 := h86x) (dc2 := 0) (ds2 := 0) 1 rfl ?_
        have q17x : (-1 : Int32).toInt = -1 := rfl
        refine wq_eq2 rfl rfl (fun b18x => ?_) (fun b18x => ?_)
        · have q19x : (mspF sn 8 ns (v7x.2.2.2) (ns - 0 + 1) 0).toInt = -1 := congrArg Int32.toInt b18x
          refine wq_gos (f := 1) (pc2 := 68) (ls2 := [(0, .ref 162)]) (st2 := [.ref 162]) (h2 := h86x) (dc2 := 0) (ds2 := 0) 1 rfl ?_
          refine wq_getf rfl c06x rfl rfl ?_
          refine wq_eq0 rfl rfl (fun b20x => ?_) (fun b20x => ?_)
          · have q21x : ft.toInt = 0 := congrArg Int32.toInt b20x
            refine wq_gos (f := 1) (pc2 := 79) (ls2 := [(0, .ref 162)]) (st2 := [.int 5, .ref 162, .int 8]) (h2 := h86x) (dc2 := 0) (ds2 := 0) 3 rfl ?_
            refine wq_inlv (y2 := 169) (as := [.int 5]) rfl rfl rfl c06x rfl ?_
            show wq 169 0 [(0, .ref 162), (1, .int 5)] [] h86x 0 0 _
            refine wq_gos (f := 1) (pc2 := 1) (ls2 := [(0, .ref 162), (1, .int 5)]) (st2 := [.ref 162]) (h2 := h86x) (dc2 := 0) (ds2 := 0) 1 rfl ?_
            refine wq_getf rfl c06x rfl rfl ?_
            refine wq_gos (f := 1) (pc2 := 8) (ls2 := [(0, .ref 162), (1, .int 5)]) (st2 := [.int 12, .ref 166]) (h2 := h86x) (dc2 := 0) (ds2 := 0) 3 rfl ?_
            refine wq_iald rfl e14x rfl rfl ?_
            refine wq_vi hN.1 ?_
            refine wq_ret rfl rfl ?_
            show wq 177 82 [(0, .ref 162)] [.int (nI ns), .int 8] h86x 0 0 _
            refine wq_gos (f := 1) (pc2 := 83) (ls2 := [(0, .ref 162)]) (st2 := [.int ((8 : Int32) + (nI ns))]) (h2 := h86x) (dc2 := 0) (ds2 := 0) 1 rfl ?_
            refine wq_vi (show (8 : Int32) + (nI ns) = nI (8 + ns) from nI_add 8 ns) ?_
            refine wq_gos (f := 1) (pc2 := 85) (ls2 := [(1, .int (nI (8 + ns))), (0, .ref 162)]) (st2 := [.ref 162]) (h2 := h86x) (dc2 := 0) (ds2 := 0) 2 rfl ?_
            refine wq_getf rfl c06x rfl rfl ?_
            refine wq_gos (f := 1) (pc2 := 90) (ls2 := [(1, .int (nI (8 + ns))), (0, .ref 162)]) (st2 := [.ref 162, .int (nI (8 + ns)), .ref 176]) (h2 := h86x) (dc2 := 0) (ds2 := 0) 2 rfl ?_
            refine wq_getf rfl c06x rfl rfl ?_
            try have q22x := nI_toInt (n := (8 + ns)) (by omega)
            refine wq_iastn rfl e15x (by first | omega | exact zin_t (by omega) (by omega)) (by decide) rfl ?_
            intro hh23x e24x ff25x lh26x
            have e24x : zat hh23x 176 = some (.inl (0, 16, (zset 0 sn (8 + ns) (v7x.2.2.2)))) := e24x
            refine wq_gos (f := 1) (pc2 := 95) (ls2 := [(1, .int (nI (8 + ns))), (0, .ref 162)]) (st2 := [.ref 162]) (h2 := hh23x) (dc2 := 0) (ds2 := 0) 1 rfl ?_
            have e27x := (ff25x.2 _ _ (wnc (by decide) wn0) c06x)
            have e28x := (ff25x.2 _ _ (wnc (by decide) wn0) (f86x.2 _ _ (wnc (by decide) wn0) hT))
            refine wq_inlv (y2 := 159) (as := []) rfl rfl rfl e27x rfl (wq_mono (m_tok e27x e28x (by first | assumption | omega | decide | solve_by_elim) ⟨Nat.le_refl _, by omega⟩) ?_)
            rintro _ ⟨h829x, rfl, f829x, l829x, c029x, p029x, p129x, p229x, p329x⟩
            show wq 177 98 [(1, .int (nI (8 + ns))), (0, .ref 162)] [] h829x 0 0 _
            obtain ⟨v30x, hv31x⟩ : ∃ x, x = (mTok tb sz (v7x.1) (v7x.2.2.2)) := ⟨_, rfl⟩
            try rw [← hv31x] at c029x
            try rw [← hv31x] at p029x
            try rw [← hv31x] at p129x
            try rw [← hv31x] at p229x
            try rw [← hv31x] at p329x
            try rw [← hv31x]
            refine wq_gos (f := 1) (pc2 := 100) (ls2 := [(1, .int (nI (8 + ns))), (0, .ref 162)]) (st2 := [.ref 162, .ref 162]) (h2 := h829x) (dc2 := 0) (ds2 := 0) 2 rfl ?_
            refine wq_getf rfl c029x rfl rfl ?_
            refine wq_gos (f := 1) (pc2 := 107) (ls2 := [(1, .int (nI (8 + ns))), (0, .ref 162)]) (st2 := [.int ((6 : Int32) * (nI (8 + ns))), .ref 178, .ref 162]) (h2 := h829x) (dc2 := 0) (ds2 := 0) 3 rfl ?_
            refine wq_vi (show (6 : Int32) * (nI (8 + ns)) = nI (6 * (8 + ns)) from e_nmul 6 (8 + ns)) ?_
            have e32x := (f829x.2 _ _ (wnc (by decide) wn0) e28x)
            have e33x := (f829x.2 _ _ (wnc (by decide) wn0) (ff25x.2 _ _ (wnc (by decide) wn0) (f86x.2 _ _ (wnc (by decide) wn0) hSq)))
            try have q34x := nI_toInt (n := (6 * (8 + ns))) (by omega)
            refine wq_inlv (y2 := 172) (as := [.ref 178, .int (nI (6 * (8 + ns)))]) rfl rfl rfl c029x rfl (wq_mono (m_rdP c029x e32x e33x (by first | assumption | omega | decide | solve_by_elim) ⟨Nat.le_refl _, by omega⟩ (by first | assumption | omega | decide | solve_by_elim) (by first | assumption | omega | decide | solve_by_elim) (by first | assumption | omega | decide | solve_by_elim) (by first | assumption | omega | decide | solve_by_elim) (fun _ _ => rfl)) ?_)
            rintro _ ⟨h835x, rfl, f835x, l835x, c035x, c135x, p035x, p135x, p235x, p335x, p435x, p535x, p635x⟩
            show wq 177 110 [(1, .int (nI (8 + ns))), (0, .ref 162)] [] h835x 0 0 _
            obtain ⟨v36x, hv37x⟩ : ∃ x, x = (mRdP tb sz (v30x.1) (v30x.2.1) (v30x.2.2.1) (v30x.2.2.2) ft fp (6 * (8 + ns)) sq) := ⟨_, rfl⟩
            try rw [← hv37x] at c035x
            try rw [← hv37x] at c135x
            try rw [← hv37x] at p035x
            try rw [← hv37x] at p135x
            try rw [← hv37x] at p235x
            try rw [← hv37x] at p335x
            try rw [← hv37x] at p435x
            try rw [← hv37x] at p535x
            try rw [← hv37x] at p635x
            try rw [← hv37x]
            refine wq_gos (f := 1) (pc2 := 114) (ls2 := [(1, .int (nI (8 + ns))), (0, .ref 162)]) (st2 := [.int 5, .ref 162, .int 5, .ref 162]) (h2 := h835x) (dc2 := 0) (ds2 := 0) 4 rfl ?_
            refine wq_inlv (y2 := 169) (as := [.int 5]) rfl rfl rfl c035x rfl ?_
            show wq 169 0 [(0, .ref 162), (1, .int 5)] [] h835x 0 0 _
            refine wq_gos (f := 1) (pc2 := 1) (ls2 := [(0, .ref 162), (1, .int 5)]) (st2 := [.ref 162]) (h2 := h835x) (dc2 := 0) (ds2 := 0) 1 rfl ?_
            refine wq_getf rfl c035x rfl rfl ?_
            refine wq_gos (f := 1) (pc2 := 8) (ls2 := [(0, .ref 162), (1, .int 5)]) (st2 := [.int 12, .ref 166]) (h2 := h835x) (dc2 := 0) (ds2 := 0) 3 rfl ?_
            have e38x := (f835x.2 _ _ (wnc (by decide) (wnc (by decide) wn0)) (f829x.2 _ _ (wnc (by decide) wn0) (ff25x.2 _ _ (wnc (by decide) wn0) e14x)))
            refine wq_iald rfl e38x rfl rfl ?_
            refine wq_vi hN.1 ?_
            refine wq_ret rfl rfl ?_
            show wq 177 117 [(1, .int (nI (8 + ns))), (0, .ref 162)] [.int (nI ns), .int 5, .ref 162] h835x 0 0 _
            refine wq_gos (f := 1) (pc2 := 119) (ls2 := [(1, .int (nI (8 + ns))), (0, .ref 162)]) (st2 := [.int ((nI ns) + (1 : Int32)), .int 5, .ref 162]) (h2 := h835x) (dc2 := 0) (ds2 := 0) 2 rfl ?_
            refine wq_vi (show (nI ns) + (1 : Int32) = nI (ns + 1) from nI_add ns 1) ?_
            refine wq_inlv (y2 := 170) (as := [.int 5, .int (nI (ns + 1))]) rfl rfl rfl c035x rfl ?_
            show wq 170 0 [(0, .ref 162), (1, .int 5), (2, .int (nI (ns + 1)))] [] h835x 0 0 _
            refine wq_gos (f := 1) (pc2 := 1) (ls2 := [(0, .ref 162), (1, .int 5), (2, .int (nI (ns + 1)))]) (st2 := [.ref 162]) (h2 := h835x) (dc2 := 0) (ds2 := 0) 1 rfl ?_
            refine wq_getf rfl c035x rfl rfl ?_
            refine wq_gos (f := 1) (pc2 := 9) (ls2 := [(0, .ref 162), (1, .int 5), (2, .int (nI (ns + 1)))]) (st2 := [.int (nI (ns + 1)), .int 12, .ref 166]) (h2 := h835x) (dc2 := 0) (ds2 := 0) 4 rfl ?_
            refine wq_iast rfl e38x rfl rfl ?_
            intro hh39x e40x ff41x lh42x
            have e40x : zat hh39x 166 = some (.inl (0, 14, (zset 0 kn 12 (nI (ns + 1))))) := e40x
            refine wq_ret rfl rfl ?_
            show wq 177 122 [(1, .int (nI (8 + ns))), (0, .ref 162)] [] hh39x 0 0 _
            have e43x := (ff41x.2 _ _ (wnc (by decide) wn0) c035x)
            have e44x := (ff41x.2 _ _ (wnc (by decide) wn0) (f835x.2 _ _ (wnc (by decide) (wnc (by decide) wn0)) (f829x.2 _ _ (wnc (by decide) wn0) e24x)))
            have e45x := (ff41x.2 _ _ (wnc (by decide) wn0) c135x)
            have hx : (mRdO tb sz at9 pl so va ft fp ns kn sn sq) = ((v36x.1), (v36x.2.1), (v36x.2.2.1), (v36x.2.2.2.1), (v36x.2.2.2.2.1), (v36x.2.2.2.2.2.1), (zset 0 kn 12 (nI (ns + 1))), (zset 0 sn (8 + ns) (v7x.2.2.2)), (v36x.2.2.2.2.2.2)) := by unfold mRdO; rw [if_pos b4x, zlet_eq hv8x, if_pos b9x, if_pos b12x, if_pos b18x, if_pos b20x, zlet_eq hv31x, zlet_eq hv37x]
            rw [hx]
            exact wq_ret rfl rfl ⟨hh39x, rfl, (wFr_tr (wFr_sub f86x (by simp)) (wFr_tr (wFr_sub ff25x (by simp)) (wFr_tr (wFr_sub f829x (by simp)) (wFr_tr (wFr_sub f835x (by simp)) (wFr_sub ff41x (by simp)))))), by omega, e43x, e40x, e44x, e45x, (by (try dsimp only); first | assumption | omega), (by (try dsimp only); first | assumption | omega), (by (try dsimp only); first | assumption | omega), (by (try dsimp only); first | assumption | omega), (by (try dsimp only); first | assumption | omega), (by (try dsimp only); intro q9; first | omega | exact ⟨ns + 1, by omega, wNm_12 hN (by omega), wQ2_s hQ (by assumption) (by assumption)⟩), (by (try dsimp only); first | assumption | exact wFh_set hz1 (by decide) | exact wFh_up hz2 (by assumption) (by omega)), (by (try dsimp only); first | assumption | exact wFh_set hz1 (by decide) | exact wFh_up hz2 (by assumption) (by omega))⟩
          · have q46x : ft.toInt ≠ 0 := fun q => b20x (Int32.toInt_inj.mp q)
            have e47x := (f86x.2 _ _ (wnc (by decide) wn0) hSq)
            have hx : (mRdO tb sz at9 pl so va ft fp ns kn sn sq) = (ft, fp, (v7x.1), (v7x.2.1), (v7x.2.2.1), (v7x.2.2.2), kn, sn, sq) := by unfold mRdO; rw [if_pos b4x, zlet_eq hv8x, if_pos b9x, if_pos b12x, if_pos b18x, if_neg b20x]
            rw [hx]
            exact wq_ret rfl rfl ⟨h86x, rfl, (wFr_sub f86x (by simp)), by omega, c06x, e14x, e15x, e47x, (by (try dsimp only); first | assumption | omega), (by (try dsimp only); first | assumption | omega), (by (try dsimp only); first | assumption | omega), (by (try dsimp only); first | assumption | omega), (by (try dsimp only); first | assumption | omega), (by (try dsimp only); intro q9; first | omega | exact ⟨ns + 1, by omega, wNm_12 hN (by omega), wQ2_s hQ (by assumption) (by assumption)⟩), (by (try dsimp only); first | assumption | exact wFh_set hz1 (by decide) | exact wFh_up hz2 (by assumption) (by omega)), (by (try dsimp only); first | assumption | exact wFh_set hz1 (by decide) | exact wFh_up hz2 (by assumption) (by omega))⟩
        · have q48x : (mspF sn 8 ns (v7x.2.2.2) (ns - 0 + 1) 0).toInt ≠ -1 := fun q => b18x (Int32.toInt_inj.mp q)
          refine wq_gos (f := 1) (pc2 := 64) (ls2 := [(0, .ref 162)]) (st2 := [.int 3, .ref 162]) (h2 := h86x) (dc2 := 0) (ds2 := 0) 2 rfl ?_
          have q49x : (3 : Int32).toInt = 3 := rfl
          refine wq_inlv (y2 := 163) (as := [.int 3]) rfl rfl rfl c06x rfl (wq_mono (m_wro c06x (by first | assumption | omega | decide | solve_by_elim) (by first | assumption | omega | decide | solve_by_elim)) ?_)
          rintro _ ⟨h850x, rfl, f850x, l850x, c050x, p050x⟩
          show wq 177 67 [(0, .ref 162)] [] h850x 0 0 _
          obtain ⟨v51x, hv52x⟩ : ∃ x, x = (mWro (v7x.2.1) ft fp (3 : Int32)) := ⟨_, rfl⟩
          try rw [← hv52x] at c050x
          try rw [← hv52x] at p050x
          try rw [← hv52x]
          refine wq_gos (f := 1) (pc2 := 68) (ls2 := [(0, .ref 162)]) (st2 := [.ref 162]) (h2 := h850x) (dc2 := 0) (ds2 := 0) 1 rfl ?_
          refine wq_getf rfl c050x rfl rfl ?_
          refine wq_eq0 rfl rfl (fun b53x => ?_) (fun b53x => ?_)
          · have q54x : (v51x.1).toInt = 0 := congrArg Int32.toInt b53x
            refine wq_gos (f := 1) (pc2 := 79) (ls2 := [(0, .ref 162)]) (st2 := [.int 5, .ref 162, .int 8]) (h2 := h850x) (dc2 := 0) (ds2 := 0) 3 rfl ?_
            refine wq_inlv (y2 := 169) (as := [.int 5]) rfl rfl rfl c050x rfl ?_
            show wq 169 0 [(0, .ref 162), (1, .int 5)] [] h850x 0 0 _
            refine wq_gos (f := 1) (pc2 := 1) (ls2 := [(0, .ref 162), (1, .int 5)]) (st2 := [.ref 162]) (h2 := h850x) (dc2 := 0) (ds2 := 0) 1 rfl ?_
            refine wq_getf rfl c050x rfl rfl ?_
            refine wq_gos (f := 1) (pc2 := 8) (ls2 := [(0, .ref 162), (1, .int 5)]) (st2 := [.int 12, .ref 166]) (h2 := h850x) (dc2 := 0) (ds2 := 0) 3 rfl ?_
            have e55x := (f850x.2 _ _ (wnc (by decide) wn0) e14x)
            refine wq_iald rfl e55x rfl rfl ?_
            refine wq_vi hN.1 ?_
            refine wq_ret rfl rfl ?_
            show wq 177 82 [(0, .ref 162)] [.int (nI ns), .int 8] h850x 0 0 _
            refine wq_gos (f := 1) (pc2 := 83) (ls2 := [(0, .ref 162)]) (st2 := [.int ((8 : Int32) + (nI ns))]) (h2 := h850x) (dc2 := 0) (ds2 := 0) 1 rfl ?_
            refine wq_vi (show (8 : Int32) + (nI ns) = nI (8 + ns) from nI_add 8 ns) ?_
            refine wq_gos (f := 1) (pc2 := 85) (ls2 := [(1, .int (nI (8 + ns))), (0, .ref 162)]) (st2 := [.ref 162]) (h2 := h850x) (dc2 := 0) (ds2 := 0) 2 rfl ?_
            refine wq_getf rfl c050x rfl rfl ?_
            refine wq_gos (f := 1) (pc2 := 90) (ls2 := [(1, .int (nI (8 + ns))), (0, .ref 162)]) (st2 := [.ref 162, .int (nI (8 + ns)), .ref 176]) (h2 := h850x) (dc2 := 0) (ds2 := 0) 2 rfl ?_
            refine wq_getf rfl c050x rfl rfl ?_
            have e56x := (f850x.2 _ _ (wnc (by decide) wn0) e15x)
            try have q57x := nI_toInt (n := (8 + ns)) (by omega)
            refine wq_iastn rfl e56x (by first | omega | exact zin_t (by omega) (by omega)) (by decide) rfl ?_
            intro hh58x e59x ff60x lh61x
            have e59x : zat hh58x 176 = some (.inl (0, 16, (zset 0 sn (8 + ns) (v7x.2.2.2)))) := e59x
            refine wq_gos (f := 1) (pc2 := 95) (ls2 := [(1, .int (nI (8 + ns))), (0, .ref 162)]) (st2 := [.ref 162]) (h2 := hh58x) (dc2 := 0) (ds2 := 0) 1 rfl ?_
            have e62x := (ff60x.2 _ _ (wnc (by decide) wn0) c050x)
            have e63x := (ff60x.2 _ _ (wnc (by decide) wn0) (f850x.2 _ _ (wnc (by decide) wn0) (f86x.2 _ _ (wnc (by decide) wn0) hT)))
            refine wq_inlv (y2 := 159) (as := []) rfl rfl rfl e62x rfl (wq_mono (m_tok e62x e63x (by first | assumption | omega | decide | solve_by_elim) ⟨Nat.le_refl _, by omega⟩) ?_)
            rintro _ ⟨h864x, rfl, f864x, l864x, c064x, p064x, p164x, p264x, p364x⟩
            show wq 177 98 [(1, .int (nI (8 + ns))), (0, .ref 162)] [] h864x 0 0 _
            obtain ⟨v65x, hv66x⟩ : ∃ x, x = (mTok tb sz (v7x.1) (v7x.2.2.2)) := ⟨_, rfl⟩
            try rw [← hv66x] at c064x
            try rw [← hv66x] at p064x
            try rw [← hv66x] at p164x
            try rw [← hv66x] at p264x
            try rw [← hv66x] at p364x
            try rw [← hv66x]
            refine wq_gos (f := 1) (pc2 := 100) (ls2 := [(1, .int (nI (8 + ns))), (0, .ref 162)]) (st2 := [.ref 162, .ref 162]) (h2 := h864x) (dc2 := 0) (ds2 := 0) 2 rfl ?_
            refine wq_getf rfl c064x rfl rfl ?_
            refine wq_gos (f := 1) (pc2 := 107) (ls2 := [(1, .int (nI (8 + ns))), (0, .ref 162)]) (st2 := [.int ((6 : Int32) * (nI (8 + ns))), .ref 178, .ref 162]) (h2 := h864x) (dc2 := 0) (ds2 := 0) 3 rfl ?_
            refine wq_vi (show (6 : Int32) * (nI (8 + ns)) = nI (6 * (8 + ns)) from e_nmul 6 (8 + ns)) ?_
            have e67x := (f864x.2 _ _ (wnc (by decide) wn0) e63x)
            have e68x := (f864x.2 _ _ (wnc (by decide) wn0) (ff60x.2 _ _ (wnc (by decide) wn0) (f850x.2 _ _ (wnc (by decide) wn0) (f86x.2 _ _ (wnc (by decide) wn0) hSq))))
            try have q69x := nI_toInt (n := (6 * (8 + ns))) (by omega)
            refine wq_inlv (y2 := 172) (as := [.ref 178, .int (nI (6 * (8 + ns)))]) rfl rfl rfl c064x rfl (wq_mono (m_rdP c064x e67x e68x (by first | assumption | omega | decide | solve_by_elim) ⟨Nat.le_refl _, by omega⟩ (by first | assumption | omega | decide | solve_by_elim) (by first | assumption | omega | decide | solve_by_elim) (by first | assumption | omega | decide | solve_by_elim) (by first | assumption | omega | decide | solve_by_elim) (fun _ _ => rfl)) ?_)
            rintro _ ⟨h870x, rfl, f870x, l870x, c070x, c170x, p070x, p170x, p270x, p370x, p470x, p570x, p670x⟩
            show wq 177 110 [(1, .int (nI (8 + ns))), (0, .ref 162)] [] h870x 0 0 _
            obtain ⟨v71x, hv72x⟩ : ∃ x, x = (mRdP tb sz (v65x.1) (v65x.2.1) (v65x.2.2.1) (v65x.2.2.2) (v51x.1) (v51x.2) (6 * (8 + ns)) sq) := ⟨_, rfl⟩
            try rw [← hv72x] at c070x
            try rw [← hv72x] at c170x
            try rw [← hv72x] at p070x
            try rw [← hv72x] at p170x
            try rw [← hv72x] at p270x
            try rw [← hv72x] at p370x
            try rw [← hv72x] at p470x
            try rw [← hv72x] at p570x
            try rw [← hv72x] at p670x
            try rw [← hv72x]
            refine wq_gos (f := 1) (pc2 := 114) (ls2 := [(1, .int (nI (8 + ns))), (0, .ref 162)]) (st2 := [.int 5, .ref 162, .int 5, .ref 162]) (h2 := h870x) (dc2 := 0) (ds2 := 0) 4 rfl ?_
            refine wq_inlv (y2 := 169) (as := [.int 5]) rfl rfl rfl c070x rfl ?_
            show wq 169 0 [(0, .ref 162), (1, .int 5)] [] h870x 0 0 _
            refine wq_gos (f := 1) (pc2 := 1) (ls2 := [(0, .ref 162), (1, .int 5)]) (st2 := [.ref 162]) (h2 := h870x) (dc2 := 0) (ds2 := 0) 1 rfl ?_
            refine wq_getf rfl c070x rfl rfl ?_
            refine wq_gos (f := 1) (pc2 := 8) (ls2 := [(0, .ref 162), (1, .int 5)]) (st2 := [.int 12, .ref 166]) (h2 := h870x) (dc2 := 0) (ds2 := 0) 3 rfl ?_
            have e73x := (f870x.2 _ _ (wnc (by decide) (wnc (by decide) wn0)) (f864x.2 _ _ (wnc (by decide) wn0) (ff60x.2 _ _ (wnc (by decide) wn0) e55x)))
            refine wq_iald rfl e73x rfl rfl ?_
            refine wq_vi hN.1 ?_
            refine wq_ret rfl rfl ?_
            show wq 177 117 [(1, .int (nI (8 + ns))), (0, .ref 162)] [.int (nI ns), .int 5, .ref 162] h870x 0 0 _
            refine wq_gos (f := 1) (pc2 := 119) (ls2 := [(1, .int (nI (8 + ns))), (0, .ref 162)]) (st2 := [.int ((nI ns) + (1 : Int32)), .int 5, .ref 162]) (h2 := h870x) (dc2 := 0) (ds2 := 0) 2 rfl ?_
            refine wq_vi (show (nI ns) + (1 : Int32) = nI (ns + 1) from nI_add ns 1) ?_
            refine wq_inlv (y2 := 170) (as := [.int 5, .int (nI (ns + 1))]) rfl rfl rfl c070x rfl ?_
            show wq 170 0 [(0, .ref 162), (1, .int 5), (2, .int (nI (ns + 1)))] [] h870x 0 0 _
            refine wq_gos (f := 1) (pc2 := 1) (ls2 := [(0, .ref 162), (1, .int 5), (2, .int (nI (ns + 1)))]) (st2 := [.ref 162]) (h2 := h870x) (dc2 := 0) (ds2 := 0) 1 rfl ?_
            refine wq_getf rfl c070x rfl rfl ?_
            refine wq_gos (f := 1) (pc2 := 9) (ls2 := [(0, .ref 162), (1, .int 5), (2, .int (nI (ns + 1)))]) (st2 := [.int (nI (ns + 1)), .int 12, .ref 166]) (h2 := h870x) (dc2 := 0) (ds2 := 0) 4 rfl ?_
            refine wq_iast rfl e73x rfl rfl ?_
            intro hh74x e75x ff76x lh77x
            have e75x : zat hh74x 166 = some (.inl (0, 14, (zset 0 kn 12 (nI (ns + 1))))) := e75x
            refine wq_ret rfl rfl ?_
            show wq 177 122 [(1, .int (nI (8 + ns))), (0, .ref 162)] [] hh74x 0 0 _
            have e78x := (ff76x.2 _ _ (wnc (by decide) wn0) c070x)
            have e79x := (ff76x.2 _ _ (wnc (by decide) wn0) (f870x.2 _ _ (wnc (by decide) (wnc (by decide) wn0)) (f864x.2 _ _ (wnc (by decide) wn0) e59x)))
            have e80x := (ff76x.2 _ _ (wnc (by decide) wn0) c170x)
            have hx : (mRdO tb sz at9 pl so va ft fp ns kn sn sq) = ((v71x.1), (v71x.2.1), (v71x.2.2.1), (v71x.2.2.2.1), (v71x.2.2.2.2.1), (v71x.2.2.2.2.2.1), (zset 0 kn 12 (nI (ns + 1))), (zset 0 sn (8 + ns) (v7x.2.2.2)), (v71x.2.2.2.2.2.2)) := by unfold mRdO; rw [if_pos b4x, zlet_eq hv8x, if_pos b9x, if_pos b12x, if_neg b18x, zlet_eq hv52x, if_pos b53x, zlet_eq hv66x, zlet_eq hv72x]
            rw [hx]
            exact wq_ret rfl rfl ⟨hh74x, rfl, (wFr_tr (wFr_sub f86x (by simp)) (wFr_tr (wFr_sub f850x (by simp)) (wFr_tr (wFr_sub ff60x (by simp)) (wFr_tr (wFr_sub f864x (by simp)) (wFr_tr (wFr_sub f870x (by simp)) (wFr_sub ff76x (by simp))))))), by omega, e78x, e75x, e79x, e80x, (by (try dsimp only); first | assumption | omega), (by (try dsimp only); first | assumption | omega), (by (try dsimp only); first | assumption | omega), (by (try dsimp only); first | assumption | omega), (by (try dsimp only); first | assumption | omega), (by (try dsimp only); intro q9; first | omega | exact ⟨ns + 1, by omega, wNm_12 hN (by omega), wQ2_s hQ (by assumption) (by assumption)⟩), (by (try dsimp only); first | assumption | exact wFh_set hz1 (by decide) | exact wFh_up hz2 (by assumption) (by omega)), (by (try dsimp only); first | assumption | exact wFh_set hz1 (by decide) | exact wFh_up hz2 (by assumption) (by omega))⟩
          · have q81x : (v51x.1).toInt ≠ 0 := fun q => b53x (Int32.toInt_inj.mp q)
            have e82x := (f850x.2 _ _ (wnc (by decide) wn0) e14x)
            have e83x := (f850x.2 _ _ (wnc (by decide) wn0) e15x)
            have e84x := (f850x.2 _ _ (wnc (by decide) wn0) (f86x.2 _ _ (wnc (by decide) wn0) hSq))
            have hx : (mRdO tb sz at9 pl so va ft fp ns kn sn sq) = ((v51x.1), (v51x.2), (v7x.1), (v7x.2.1), (v7x.2.2.1), (v7x.2.2.2), kn, sn, sq) := by unfold mRdO; rw [if_pos b4x, zlet_eq hv8x, if_pos b9x, if_pos b12x, if_neg b18x, zlet_eq hv52x, if_neg b53x]
            rw [hx]
            exact wq_ret rfl rfl ⟨h850x, rfl, (wFr_tr (wFr_sub f86x (by simp)) (wFr_sub f850x (by simp))), by omega, c050x, e82x, e83x, e84x, (by (try dsimp only); first | assumption | omega), (by (try dsimp only); first | assumption | omega), (by (try dsimp only); first | assumption | omega), (by (try dsimp only); first | assumption | omega), (by (try dsimp only); first | assumption | omega), (by (try dsimp only); intro q9; first | omega | exact ⟨ns + 1, by omega, wNm_12 hN (by omega), wQ2_s hQ (by assumption) (by assumption)⟩), (by (try dsimp only); first | assumption | exact wFh_set hz1 (by decide) | exact wFh_up hz2 (by assumption) (by omega)), (by (try dsimp only); first | assumption | exact wFh_set hz1 (by decide) | exact wFh_up hz2 (by assumption) (by omega))⟩
      · have q85x : (v7x.2.2.1).toInt ≠ 1 := fun q => b12x (Int32.toInt_inj.mp q)
        refine wq_gos (f := 1) (pc2 := 37) (ls2 := [(0, .ref 162)]) (st2 := [.int 1, .ref 162]) (h2 := h86x) (dc2 := 0) (ds2 := 0) 2 rfl ?_
        refine wq_inlv (y2 := 163) (as := [.int 1]) rfl rfl rfl c06x rfl (wq_mono (m_wro c06x (by first | assumption | omega | decide | solve_by_elim) (by first | assumption | omega | decide | solve_by_elim)) ?_)
        rintro _ ⟨h886x, rfl, f886x, l886x, c086x, p086x⟩
        show wq 177 40 [(0, .ref 162)] [] h886x 0 0 _
        obtain ⟨v87x, hv88x⟩ : ∃ x, x = (mWro (v7x.2.1) ft fp (1 : Int32)) := ⟨_, rfl⟩
        try rw [← hv88x] at c086x
        try rw [← hv88x] at p086x
        try rw [← hv88x]
        refine wq_gos (f := 1) (pc2 := 68) (ls2 := [(0, .ref 162)]) (st2 := [.ref 162]) (h2 := h886x) (dc2 := 0) (ds2 := 0) 2 rfl ?_
        refine wq_getf rfl c086x rfl rfl ?_
        refine wq_eq0 rfl rfl (fun b89x => ?_) (fun b89x => ?_)
        · have q90x : (v87x.1).toInt = 0 := congrArg Int32.toInt b89x
          refine wq_gos (f := 1) (pc2 := 79) (ls2 := [(0, .ref 162)]) (st2 := [.int 5, .ref 162, .int 8]) (h2 := h886x) (dc2 := 0) (ds2 := 0) 3 rfl ?_
          refine wq_inlv (y2 := 169) (as := [.int 5]) rfl rfl rfl c086x rfl ?_
          show wq 169 0 [(0, .ref 162), (1, .int 5)] [] h886x 0 0 _
          refine wq_gos (f := 1) (pc2 := 1) (ls2 := [(0, .ref 162), (1, .int 5)]) (st2 := [.ref 162]) (h2 := h886x) (dc2 := 0) (ds2 := 0) 1 rfl ?_
          refine wq_getf rfl c086x rfl rfl ?_
          refine wq_gos (f := 1) (pc2 := 8) (ls2 := [(0, .ref 162), (1, .int 5)]) (st2 := [.int 12, .ref 166]) (h2 := h886x) (dc2 := 0) (ds2 := 0) 3 rfl ?_
          have e91x := (f886x.2 _ _ (wnc (by decide) wn0) (f86x.2 _ _ (wnc (by decide) wn0) hKn))
          refine wq_iald rfl e91x rfl rfl ?_
          refine wq_vi hN.1 ?_
          refine wq_ret rfl rfl ?_
          show wq 177 82 [(0, .ref 162)] [.int (nI ns), .int 8] h886x 0 0 _
          refine wq_gos (f := 1) (pc2 := 83) (ls2 := [(0, .ref 162)]) (st2 := [.int ((8 : Int32) + (nI ns))]) (h2 := h886x) (dc2 := 0) (ds2 := 0) 1 rfl ?_
          refine wq_vi (show (8 : Int32) + (nI ns) = nI (8 + ns) from nI_add 8 ns) ?_
          refine wq_gos (f := 1) (pc2 := 85) (ls2 := [(1, .int (nI (8 + ns))), (0, .ref 162)]) (st2 := [.ref 162]) (h2 := h886x) (dc2 := 0) (ds2 := 0) 2 rfl ?_
          refine wq_getf rfl c086x rfl rfl ?_
          refine wq_gos (f := 1) (pc2 := 90) (ls2 := [(1, .int (nI (8 + ns))), (0, .ref 162)]) (st2 := [.ref 162, .int (nI (8 + ns)), .ref 176]) (h2 := h886x) (dc2 := 0) (ds2 := 0) 2 rfl ?_
          refine wq_getf rfl c086x rfl rfl ?_
          have e92x := (f886x.2 _ _ (wnc (by decide) wn0) (f86x.2 _ _ (wnc (by decide) wn0) hSn))
          try have q93x := nI_toInt (n := (8 + ns)) (by omega)
          refine wq_iastn rfl e92x (by first | omega | exact zin_t (by omega) (by omega)) (by decide) rfl ?_
          intro hh94x e95x ff96x lh97x
          have e95x : zat hh94x 176 = some (.inl (0, 16, (zset 0 sn (8 + ns) (v7x.2.2.2)))) := e95x
          refine wq_gos (f := 1) (pc2 := 95) (ls2 := [(1, .int (nI (8 + ns))), (0, .ref 162)]) (st2 := [.ref 162]) (h2 := hh94x) (dc2 := 0) (ds2 := 0) 1 rfl ?_
          have e98x := (ff96x.2 _ _ (wnc (by decide) wn0) c086x)
          have e99x := (ff96x.2 _ _ (wnc (by decide) wn0) (f886x.2 _ _ (wnc (by decide) wn0) (f86x.2 _ _ (wnc (by decide) wn0) hT)))
          refine wq_inlv (y2 := 159) (as := []) rfl rfl rfl e98x rfl (wq_mono (m_tok e98x e99x (by first | assumption | omega | decide | solve_by_elim) ⟨Nat.le_refl _, by omega⟩) ?_)
          rintro _ ⟨h8100x, rfl, f8100x, l8100x, c0100x, p0100x, p1100x, p2100x, p3100x⟩
          show wq 177 98 [(1, .int (nI (8 + ns))), (0, .ref 162)] [] h8100x 0 0 _
          obtain ⟨v101x, hv102x⟩ : ∃ x, x = (mTok tb sz (v7x.1) (v7x.2.2.2)) := ⟨_, rfl⟩
          try rw [← hv102x] at c0100x
          try rw [← hv102x] at p0100x
          try rw [← hv102x] at p1100x
          try rw [← hv102x] at p2100x
          try rw [← hv102x] at p3100x
          try rw [← hv102x]
          refine wq_gos (f := 1) (pc2 := 100) (ls2 := [(1, .int (nI (8 + ns))), (0, .ref 162)]) (st2 := [.ref 162, .ref 162]) (h2 := h8100x) (dc2 := 0) (ds2 := 0) 2 rfl ?_
          refine wq_getf rfl c0100x rfl rfl ?_
          refine wq_gos (f := 1) (pc2 := 107) (ls2 := [(1, .int (nI (8 + ns))), (0, .ref 162)]) (st2 := [.int ((6 : Int32) * (nI (8 + ns))), .ref 178, .ref 162]) (h2 := h8100x) (dc2 := 0) (ds2 := 0) 3 rfl ?_
          refine wq_vi (show (6 : Int32) * (nI (8 + ns)) = nI (6 * (8 + ns)) from e_nmul 6 (8 + ns)) ?_
          have e103x := (f8100x.2 _ _ (wnc (by decide) wn0) e99x)
          have e104x := (f8100x.2 _ _ (wnc (by decide) wn0) (ff96x.2 _ _ (wnc (by decide) wn0) (f886x.2 _ _ (wnc (by decide) wn0) (f86x.2 _ _ (wnc (by decide) wn0) hSq))))
          try have q105x := nI_toInt (n := (6 * (8 + ns))) (by omega)
          refine wq_inlv (y2 := 172) (as := [.ref 178, .int (nI (6 * (8 + ns)))]) rfl rfl rfl c0100x rfl (wq_mono (m_rdP c0100x e103x e104x (by first | assumption | omega | decide | solve_by_elim) ⟨Nat.le_refl _, by omega⟩ (by first | assumption | omega | decide | solve_by_elim) (by first | assumption | omega | decide | solve_by_elim) (by first | assumption | omega | decide | solve_by_elim) (by first | assumption | omega | decide | solve_by_elim) (fun _ _ => rfl)) ?_)
          rintro _ ⟨h8106x, rfl, f8106x, l8106x, c0106x, c1106x, p0106x, p1106x, p2106x, p3106x, p4106x, p5106x, p6106x⟩
          show wq 177 110 [(1, .int (nI (8 + ns))), (0, .ref 162)] [] h8106x 0 0 _
          obtain ⟨v107x, hv108x⟩ : ∃ x, x = (mRdP tb sz (v101x.1) (v101x.2.1) (v101x.2.2.1) (v101x.2.2.2) (v87x.1) (v87x.2) (6 * (8 + ns)) sq) := ⟨_, rfl⟩
          try rw [← hv108x] at c0106x
          try rw [← hv108x] at c1106x
          try rw [← hv108x] at p0106x
          try rw [← hv108x] at p1106x
          try rw [← hv108x] at p2106x
          try rw [← hv108x] at p3106x
          try rw [← hv108x] at p4106x
          try rw [← hv108x] at p5106x
          try rw [← hv108x] at p6106x
          try rw [← hv108x]
          refine wq_gos (f := 1) (pc2 := 114) (ls2 := [(1, .int (nI (8 + ns))), (0, .ref 162)]) (st2 := [.int 5, .ref 162, .int 5, .ref 162]) (h2 := h8106x) (dc2 := 0) (ds2 := 0) 4 rfl ?_
          refine wq_inlv (y2 := 169) (as := [.int 5]) rfl rfl rfl c0106x rfl ?_
          show wq 169 0 [(0, .ref 162), (1, .int 5)] [] h8106x 0 0 _
          refine wq_gos (f := 1) (pc2 := 1) (ls2 := [(0, .ref 162), (1, .int 5)]) (st2 := [.ref 162]) (h2 := h8106x) (dc2 := 0) (ds2 := 0) 1 rfl ?_
          refine wq_getf rfl c0106x rfl rfl ?_
          refine wq_gos (f := 1) (pc2 := 8) (ls2 := [(0, .ref 162), (1, .int 5)]) (st2 := [.int 12, .ref 166]) (h2 := h8106x) (dc2 := 0) (ds2 := 0) 3 rfl ?_
          have e109x := (f8106x.2 _ _ (wnc (by decide) (wnc (by decide) wn0)) (f8100x.2 _ _ (wnc (by decide) wn0) (ff96x.2 _ _ (wnc (by decide) wn0) e91x)))
          refine wq_iald rfl e109x rfl rfl ?_
          refine wq_vi hN.1 ?_
          refine wq_ret rfl rfl ?_
          show wq 177 117 [(1, .int (nI (8 + ns))), (0, .ref 162)] [.int (nI ns), .int 5, .ref 162] h8106x 0 0 _
          refine wq_gos (f := 1) (pc2 := 119) (ls2 := [(1, .int (nI (8 + ns))), (0, .ref 162)]) (st2 := [.int ((nI ns) + (1 : Int32)), .int 5, .ref 162]) (h2 := h8106x) (dc2 := 0) (ds2 := 0) 2 rfl ?_
          refine wq_vi (show (nI ns) + (1 : Int32) = nI (ns + 1) from nI_add ns 1) ?_
          refine wq_inlv (y2 := 170) (as := [.int 5, .int (nI (ns + 1))]) rfl rfl rfl c0106x rfl ?_
          show wq 170 0 [(0, .ref 162), (1, .int 5), (2, .int (nI (ns + 1)))] [] h8106x 0 0 _
          refine wq_gos (f := 1) (pc2 := 1) (ls2 := [(0, .ref 162), (1, .int 5), (2, .int (nI (ns + 1)))]) (st2 := [.ref 162]) (h2 := h8106x) (dc2 := 0) (ds2 := 0) 1 rfl ?_
          refine wq_getf rfl c0106x rfl rfl ?_
          refine wq_gos (f := 1) (pc2 := 9) (ls2 := [(0, .ref 162), (1, .int 5), (2, .int (nI (ns + 1)))]) (st2 := [.int (nI (ns + 1)), .int 12, .ref 166]) (h2 := h8106x) (dc2 := 0) (ds2 := 0) 4 rfl ?_
          refine wq_iast rfl e109x rfl rfl ?_
          intro hh110x e111x ff112x lh113x
          have e111x : zat hh110x 166 = some (.inl (0, 14, (zset 0 kn 12 (nI (ns + 1))))) := e111x
          refine wq_ret rfl rfl ?_
          show wq 177 122 [(1, .int (nI (8 + ns))), (0, .ref 162)] [] hh110x 0 0 _
          have e114x := (ff112x.2 _ _ (wnc (by decide) wn0) c0106x)
          have e115x := (ff112x.2 _ _ (wnc (by decide) wn0) (f8106x.2 _ _ (wnc (by decide) (wnc (by decide) wn0)) (f8100x.2 _ _ (wnc (by decide) wn0) e95x)))
          have e116x := (ff112x.2 _ _ (wnc (by decide) wn0) c1106x)
          have hx : (mRdO tb sz at9 pl so va ft fp ns kn sn sq) = ((v107x.1), (v107x.2.1), (v107x.2.2.1), (v107x.2.2.2.1), (v107x.2.2.2.2.1), (v107x.2.2.2.2.2.1), (zset 0 kn 12 (nI (ns + 1))), (zset 0 sn (8 + ns) (v7x.2.2.2)), (v107x.2.2.2.2.2.2)) := by unfold mRdO; rw [if_pos b4x, zlet_eq hv8x, if_pos b9x, if_neg b12x, zlet_eq hv88x, if_pos b89x, zlet_eq hv102x, zlet_eq hv108x]
          rw [hx]
          exact wq_ret rfl rfl ⟨hh110x, rfl, (wFr_tr (wFr_sub f86x (by simp)) (wFr_tr (wFr_sub f886x (by simp)) (wFr_tr (wFr_sub ff96x (by simp)) (wFr_tr (wFr_sub f8100x (by simp)) (wFr_tr (wFr_sub f8106x (by simp)) (wFr_sub ff112x (by simp))))))), by omega, e114x, e111x, e115x, e116x, (by (try dsimp only); first | assumption | omega), (by (try dsimp only); first | assumption | omega), (by (try dsimp only); first | assumption | omega), (by (try dsimp only); first | assumption | omega), (by (try dsimp only); first | assumption | omega), (by (try dsimp only); intro q9; first | omega | exact ⟨ns + 1, by omega, wNm_12 hN (by omega), wQ2_s hQ (by assumption) (by assumption)⟩), (by (try dsimp only); first | assumption | exact wFh_set hz1 (by decide) | exact wFh_up hz2 (by assumption) (by omega)), (by (try dsimp only); first | assumption | exact wFh_set hz1 (by decide) | exact wFh_up hz2 (by assumption) (by omega))⟩
        · have q117x : (v87x.1).toInt ≠ 0 := fun q => b89x (Int32.toInt_inj.mp q)
          have e118x := (f886x.2 _ _ (wnc (by decide) wn0) (f86x.2 _ _ (wnc (by decide) wn0) hKn))
          have e119x := (f886x.2 _ _ (wnc (by decide) wn0) (f86x.2 _ _ (wnc (by decide) wn0) hSn))
          have e120x := (f886x.2 _ _ (wnc (by decide) wn0) (f86x.2 _ _ (wnc (by decide) wn0) hSq))
          have hx : (mRdO tb sz at9 pl so va ft fp ns kn sn sq) = ((v87x.1), (v87x.2), (v7x.1), (v7x.2.1), (v7x.2.2.1), (v7x.2.2.2), kn, sn, sq) := by unfold mRdO; rw [if_pos b4x, zlet_eq hv8x, if_pos b9x, if_neg b12x, zlet_eq hv88x, if_neg b89x]
          rw [hx]
          exact wq_ret rfl rfl ⟨h886x, rfl, (wFr_tr (wFr_sub f86x (by simp)) (wFr_sub f886x (by simp))), by omega, c086x, e118x, e119x, e120x, (by (try dsimp only); first | assumption | omega), (by (try dsimp only); first | assumption | omega), (by (try dsimp only); first | assumption | omega), (by (try dsimp only); first | assumption | omega), (by (try dsimp only); first | assumption | omega), (by (try dsimp only); intro q9; first | omega | exact ⟨ns + 1, by omega, wNm_12 hN (by omega), wQ2_s hQ (by assumption) (by assumption)⟩), (by (try dsimp only); first | assumption | exact wFh_set hz1 (by decide) | exact wFh_up hz2 (by assumption) (by omega)), (by (try dsimp only); first | assumption | exact wFh_set hz1 (by decide) | exact wFh_up hz2 (by assumption) (by omega))⟩
    · have q121x : ft.toInt ≠ 0 := fun q => b9x (Int32.toInt_inj.mp q)
      have e122x := (f86x.2 _ _ (wnc (by decide) wn0) hKn)
      have e123x := (f86x.2 _ _ (wnc (by decide) wn0) hSn)
      have e124x := (f86x.2 _ _ (wnc (by decide) wn0) hSq)
      have hx : (mRdO tb sz at9 pl so va ft fp ns kn sn sq) = (ft, fp, (v7x.1), (v7x.2.1), (v7x.2.2.1), (v7x.2.2.2), kn, sn, sq) := by unfold mRdO; rw [if_pos b4x, zlet_eq hv8x, if_neg b9x]
      rw [hx]
      exact wq_ret rfl rfl ⟨h86x, rfl, (wFr_sub f86x (by simp)), by omega, c06x, e122x, e123x, e124x, (by (try dsimp only); first | assumption | omega), (by (try dsimp only); first | assumption | omega), (by (try dsimp only); first | assumption | omega), (by (try dsimp only); first | assumption | omega), (by (try dsimp only); first | assumption | omega), (by (try dsimp only); intro q9; first | omega | exact ⟨ns + 1, by omega, wNm_12 hN (by omega), wQ2_s hQ (by assumption) (by assumption)⟩), (by (try dsimp only); first | assumption | exact wFh_set hz1 (by decide) | exact wFh_up hz2 (by assumption) (by omega)), (by (try dsimp only); first | assumption | exact wFh_set hz1 (by decide) | exact wFh_up hz2 (by assumption) (by omega))⟩
  · have q125x : (nI ns).toInt = 8 := congrArg Int32.toInt b4x
    refine wq_gos (f := 1) (pc2 := 12) (ls2 := [(0, .ref 162)]) (st2 := [.int 2, .ref 162]) (h2 := h) (dc2 := 0) (ds2 := 0) 2 rfl ?_
    have q126x : (2 : Int32).toInt = 2 := rfl
    refine wq_inlv (y2 := 163) (as := [.int 2]) rfl rfl rfl hM rfl (wq_mono (m_wro hM (by first | assumption | omega | decide | solve_by_elim) (by first | assumption | omega | decide | solve_by_elim)) ?_)
    rintro _ ⟨h8127x, rfl, f8127x, l8127x, c0127x, p0127x⟩
    show wq 177 15 [(0, .ref 162)] [] h8127x 0 0 _
    obtain ⟨v128x, hv129x⟩ : ∃ x, x = (mWro pl ft fp (2 : Int32)) := ⟨_, rfl⟩
    try rw [← hv129x] at c0127x
    try rw [← hv129x] at p0127x
    try rw [← hv129x]
    refine wq_gos (f := 1) (pc2 := 16) (ls2 := [(0, .ref 162)]) (st2 := [.ref 162]) (h2 := h8127x) (dc2 := 0) (ds2 := 0) 1 rfl ?_
    have e130x := (f8127x.2 _ _ (wnc (by decide) wn0) hT)
    refine wq_inlv (y2 := 164) (as := []) rfl rfl rfl c0127x rfl (wq_mono (m_go c0127x e130x (by first | assumption | omega | decide | solve_by_elim) ⟨Nat.le_refl _, by omega⟩ (by first | assumption | omega | decide | solve_by_elim)) ?_)
    rintro _ ⟨h8131x, rfl, f8131x, l8131x, c0131x, p0131x, p1131x, p2131x, p3131x⟩
    show wq 177 19 [(0, .ref 162)] [] h8131x 0 0 _
    obtain ⟨v132x, hv133x⟩ : ∃ x, x = (mGo tb sz at9 pl so va (v128x.1)) := ⟨_, rfl⟩
    try rw [← hv133x] at c0131x
    try rw [← hv133x] at p0131x
    try rw [← hv133x] at p1131x
    try rw [← hv133x] at p2131x
    try rw [← hv133x] at p3131x
    try rw [← hv133x]
    refine wq_gos (f := 1) (pc2 := 20) (ls2 := [(0, .ref 162)]) (st2 := [.ref 162]) (h2 := h8131x) (dc2 := 0) (ds2 := 0) 1 rfl ?_
    refine wq_getf rfl c0131x rfl rfl ?_
    refine wq_eq0 rfl rfl (fun b134x => ?_) (fun b134x => ?_)
    · have q135x : (v128x.1).toInt = 0 := congrArg Int32.toInt b134x
      refine wq_gos (f := 1) (pc2 := 28) (ls2 := [(0, .ref 162)]) (st2 := [.ref 162]) (h2 := h8131x) (dc2 := 0) (ds2 := 0) 1 rfl ?_
      refine wq_getf rfl c0131x rfl rfl ?_
      refine wq_gos (f := 1) (pc2 := 32) (ls2 := [(0, .ref 162)]) (st2 := [.int 1, .int (v132x.2.2.1)]) (h2 := h8131x) (dc2 := 0) (ds2 := 0) 1 rfl ?_
      have q136x : (1 : Int32).toInt = 1 := rfl
      refine wq_eq2 rfl rfl (fun b137x => ?_) (fun b137x => ?_)
      · have q138x : (v132x.2.2.1).toInt = 1 := congrArg Int32.toInt b137x
        refine wq_gos (f := 1) (pc2 := 48) (ls2 := [(0, .ref 162)]) (st2 := [.int 5, .ref 162, .int 8, .ref 162]) (h2 := h8131x) (dc2 := 0) (ds2 := 0) 4 rfl ?_
        refine wq_inlv (y2 := 169) (as := [.int 5]) rfl rfl rfl c0131x rfl ?_
        show wq 169 0 [(0, .ref 162), (1, .int 5)] [] h8131x 0 0 _
        refine wq_gos (f := 1) (pc2 := 1) (ls2 := [(0, .ref 162), (1, .int 5)]) (st2 := [.ref 162]) (h2 := h8131x) (dc2 := 0) (ds2 := 0) 1 rfl ?_
        refine wq_getf rfl c0131x rfl rfl ?_
        refine wq_gos (f := 1) (pc2 := 8) (ls2 := [(0, .ref 162), (1, .int 5)]) (st2 := [.int 12, .ref 166]) (h2 := h8131x) (dc2 := 0) (ds2 := 0) 3 rfl ?_
        have e139x := (f8131x.2 _ _ (wnc (by decide) wn0) (f8127x.2 _ _ (wnc (by decide) wn0) hKn))
        refine wq_iald rfl e139x rfl rfl ?_
        refine wq_vi hN.1 ?_
        refine wq_ret rfl rfl ?_
        show wq 177 51 [(0, .ref 162)] [.int (nI ns), .int 8, .ref 162] h8131x 0 0 _
        refine wq_gos (f := 1) (pc2 := 52) (ls2 := [(0, .ref 162)]) (st2 := [.ref 162, .int (nI ns), .int 8, .ref 162]) (h2 := h8131x) (dc2 := 0) (ds2 := 0) 1 rfl ?_
        refine wq_getf rfl c0131x rfl rfl ?_
        have e140x := (f8131x.2 _ _ (wnc (by decide) wn0) (f8127x.2 _ _ (wnc (by decide) wn0) hSn))
        refine wq_inlv (y2 := 176) (as := [.int 8, .int (nI ns), .int (v132x.2.2.2)]) rfl rfl rfl c0131x rfl (wq_mono (m_spA (f := 8) c0131x e140x (by first | assumption | omega | decide | solve_by_elim)) ?_)
        rintro _ ⟨rfl, p0141x⟩
        show wq 177 58 [(0, .ref 162)] [.int (mspF sn 8 ns (v132x.2.2.2) (ns - 0 + 1) 0)] h8131x 0 0 _
        refine wq_gos (f := 1) (pc2 := 59) (ls2 := [(0, .ref 162)]) (st2 := [.int (-1), .int (mspF sn 8 ns (v132x.2.2.2) (ns - 0 + 1) 0)]) (h2 := h8131x) (dc2 := 0) (ds2 := 0) 1 rfl ?_
        have q142x : (-1 : Int32).toInt = -1 := rfl
        refine wq_eq2 rfl rfl (fun b143x => ?_) (fun b143x => ?_)
        · have q144x : (mspF sn 8 ns (v132x.2.2.2) (ns - 0 + 1) 0).toInt = -1 := congrArg Int32.toInt b143x
          refine wq_gos (f := 1) (pc2 := 68) (ls2 := [(0, .ref 162)]) (st2 := [.ref 162]) (h2 := h8131x) (dc2 := 0) (ds2 := 0) 1 rfl ?_
          refine wq_getf rfl c0131x rfl rfl ?_
          refine wq_eq0 rfl rfl (fun b145x => ?_) (fun b145x => ?_)
          · have q146x : (v128x.1).toInt = 0 := congrArg Int32.toInt b145x
            refine wq_gos (f := 1) (pc2 := 79) (ls2 := [(0, .ref 162)]) (st2 := [.int 5, .ref 162, .int 8]) (h2 := h8131x) (dc2 := 0) (ds2 := 0) 3 rfl ?_
            refine wq_inlv (y2 := 169) (as := [.int 5]) rfl rfl rfl c0131x rfl ?_
            show wq 169 0 [(0, .ref 162), (1, .int 5)] [] h8131x 0 0 _
            refine wq_gos (f := 1) (pc2 := 1) (ls2 := [(0, .ref 162), (1, .int 5)]) (st2 := [.ref 162]) (h2 := h8131x) (dc2 := 0) (ds2 := 0) 1 rfl ?_
            refine wq_getf rfl c0131x rfl rfl ?_
            refine wq_gos (f := 1) (pc2 := 8) (ls2 := [(0, .ref 162), (1, .int 5)]) (st2 := [.int 12, .ref 166]) (h2 := h8131x) (dc2 := 0) (ds2 := 0) 3 rfl ?_
            refine wq_iald rfl e139x rfl rfl ?_
            refine wq_vi hN.1 ?_
            refine wq_ret rfl rfl ?_
            show wq 177 82 [(0, .ref 162)] [.int (nI ns), .int 8] h8131x 0 0 _
            refine wq_gos (f := 1) (pc2 := 83) (ls2 := [(0, .ref 162)]) (st2 := [.int ((8 : Int32) + (nI ns))]) (h2 := h8131x) (dc2 := 0) (ds2 := 0) 1 rfl ?_
            refine wq_vi (show (8 : Int32) + (nI ns) = nI (8 + ns) from nI_add 8 ns) ?_
            refine wq_gos (f := 1) (pc2 := 85) (ls2 := [(1, .int (nI (8 + ns))), (0, .ref 162)]) (st2 := [.ref 162]) (h2 := h8131x) (dc2 := 0) (ds2 := 0) 2 rfl ?_
            refine wq_getf rfl c0131x rfl rfl ?_
            refine wq_gos (f := 1) (pc2 := 90) (ls2 := [(1, .int (nI (8 + ns))), (0, .ref 162)]) (st2 := [.ref 162, .int (nI (8 + ns)), .ref 176]) (h2 := h8131x) (dc2 := 0) (ds2 := 0) 2 rfl ?_
            refine wq_getf rfl c0131x rfl rfl ?_
            try have q147x := nI_toInt (n := (8 + ns)) (by omega)
            refine wq_iastn rfl e140x (by first | omega | exact zin_t (by omega) (by omega)) (by decide) rfl ?_
            intro hh148x e149x ff150x lh151x
            have e149x : zat hh148x 176 = some (.inl (0, 16, (zset 0 sn (8 + ns) (v132x.2.2.2)))) := e149x
            refine wq_gos (f := 1) (pc2 := 95) (ls2 := [(1, .int (nI (8 + ns))), (0, .ref 162)]) (st2 := [.ref 162]) (h2 := hh148x) (dc2 := 0) (ds2 := 0) 1 rfl ?_
            have e152x := (ff150x.2 _ _ (wnc (by decide) wn0) c0131x)
            have e153x := (ff150x.2 _ _ (wnc (by decide) wn0) (f8131x.2 _ _ (wnc (by decide) wn0) e130x))
            refine wq_inlv (y2 := 159) (as := []) rfl rfl rfl e152x rfl (wq_mono (m_tok e152x e153x (by first | assumption | omega | decide | solve_by_elim) ⟨Nat.le_refl _, by omega⟩) ?_)
            rintro _ ⟨h8154x, rfl, f8154x, l8154x, c0154x, p0154x, p1154x, p2154x, p3154x⟩
            show wq 177 98 [(1, .int (nI (8 + ns))), (0, .ref 162)] [] h8154x 0 0 _
            obtain ⟨v155x, hv156x⟩ : ∃ x, x = (mTok tb sz (v132x.1) (v132x.2.2.2)) := ⟨_, rfl⟩
            try rw [← hv156x] at c0154x
            try rw [← hv156x] at p0154x
            try rw [← hv156x] at p1154x
            try rw [← hv156x] at p2154x
            try rw [← hv156x] at p3154x
            try rw [← hv156x]
            refine wq_gos (f := 1) (pc2 := 100) (ls2 := [(1, .int (nI (8 + ns))), (0, .ref 162)]) (st2 := [.ref 162, .ref 162]) (h2 := h8154x) (dc2 := 0) (ds2 := 0) 2 rfl ?_
            refine wq_getf rfl c0154x rfl rfl ?_
            refine wq_gos (f := 1) (pc2 := 107) (ls2 := [(1, .int (nI (8 + ns))), (0, .ref 162)]) (st2 := [.int ((6 : Int32) * (nI (8 + ns))), .ref 178, .ref 162]) (h2 := h8154x) (dc2 := 0) (ds2 := 0) 3 rfl ?_
            refine wq_vi (show (6 : Int32) * (nI (8 + ns)) = nI (6 * (8 + ns)) from e_nmul 6 (8 + ns)) ?_
            have e157x := (f8154x.2 _ _ (wnc (by decide) wn0) e153x)
            have e158x := (f8154x.2 _ _ (wnc (by decide) wn0) (ff150x.2 _ _ (wnc (by decide) wn0) (f8131x.2 _ _ (wnc (by decide) wn0) (f8127x.2 _ _ (wnc (by decide) wn0) hSq))))
            try have q159x := nI_toInt (n := (6 * (8 + ns))) (by omega)
            refine wq_inlv (y2 := 172) (as := [.ref 178, .int (nI (6 * (8 + ns)))]) rfl rfl rfl c0154x rfl (wq_mono (m_rdP c0154x e157x e158x (by first | assumption | omega | decide | solve_by_elim) ⟨Nat.le_refl _, by omega⟩ (by first | assumption | omega | decide | solve_by_elim) (by first | assumption | omega | decide | solve_by_elim) (by first | assumption | omega | decide | solve_by_elim) (by first | assumption | omega | decide | solve_by_elim) (fun _ _ => rfl)) ?_)
            rintro _ ⟨h8160x, rfl, f8160x, l8160x, c0160x, c1160x, p0160x, p1160x, p2160x, p3160x, p4160x, p5160x, p6160x⟩
            show wq 177 110 [(1, .int (nI (8 + ns))), (0, .ref 162)] [] h8160x 0 0 _
            obtain ⟨v161x, hv162x⟩ : ∃ x, x = (mRdP tb sz (v155x.1) (v155x.2.1) (v155x.2.2.1) (v155x.2.2.2) (v128x.1) (v128x.2) (6 * (8 + ns)) sq) := ⟨_, rfl⟩
            try rw [← hv162x] at c0160x
            try rw [← hv162x] at c1160x
            try rw [← hv162x] at p0160x
            try rw [← hv162x] at p1160x
            try rw [← hv162x] at p2160x
            try rw [← hv162x] at p3160x
            try rw [← hv162x] at p4160x
            try rw [← hv162x] at p5160x
            try rw [← hv162x] at p6160x
            try rw [← hv162x]
            refine wq_gos (f := 1) (pc2 := 114) (ls2 := [(1, .int (nI (8 + ns))), (0, .ref 162)]) (st2 := [.int 5, .ref 162, .int 5, .ref 162]) (h2 := h8160x) (dc2 := 0) (ds2 := 0) 4 rfl ?_
            refine wq_inlv (y2 := 169) (as := [.int 5]) rfl rfl rfl c0160x rfl ?_
            show wq 169 0 [(0, .ref 162), (1, .int 5)] [] h8160x 0 0 _
            refine wq_gos (f := 1) (pc2 := 1) (ls2 := [(0, .ref 162), (1, .int 5)]) (st2 := [.ref 162]) (h2 := h8160x) (dc2 := 0) (ds2 := 0) 1 rfl ?_
            refine wq_getf rfl c0160x rfl rfl ?_
            refine wq_gos (f := 1) (pc2 := 8) (ls2 := [(0, .ref 162), (1, .int 5)]) (st2 := [.int 12, .ref 166]) (h2 := h8160x) (dc2 := 0) (ds2 := 0) 3 rfl ?_
            have e163x := (f8160x.2 _ _ (wnc (by decide) (wnc (by decide) wn0)) (f8154x.2 _ _ (wnc (by decide) wn0) (ff150x.2 _ _ (wnc (by decide) wn0) e139x)))
            refine wq_iald rfl e163x rfl rfl ?_
            refine wq_vi hN.1 ?_
            refine wq_ret rfl rfl ?_
            show wq 177 117 [(1, .int (nI (8 + ns))), (0, .ref 162)] [.int (nI ns), .int 5, .ref 162] h8160x 0 0 _
            refine wq_gos (f := 1) (pc2 := 119) (ls2 := [(1, .int (nI (8 + ns))), (0, .ref 162)]) (st2 := [.int ((nI ns) + (1 : Int32)), .int 5, .ref 162]) (h2 := h8160x) (dc2 := 0) (ds2 := 0) 2 rfl ?_
            refine wq_vi (show (nI ns) + (1 : Int32) = nI (ns + 1) from nI_add ns 1) ?_
            refine wq_inlv (y2 := 170) (as := [.int 5, .int (nI (ns + 1))]) rfl rfl rfl c0160x rfl ?_
            show wq 170 0 [(0, .ref 162), (1, .int 5), (2, .int (nI (ns + 1)))] [] h8160x 0 0 _
            refine wq_gos (f := 1) (pc2 := 1) (ls2 := [(0, .ref 162), (1, .int 5), (2, .int (nI (ns + 1)))]) (st2 := [.ref 162]) (h2 := h8160x) (dc2 := 0) (ds2 := 0) 1 rfl ?_
            refine wq_getf rfl c0160x rfl rfl ?_
            refine wq_gos (f := 1) (pc2 := 9) (ls2 := [(0, .ref 162), (1, .int 5), (2, .int (nI (ns + 1)))]) (st2 := [.int (nI (ns + 1)), .int 12, .ref 166]) (h2 := h8160x) (dc2 := 0) (ds2 := 0) 4 rfl ?_
            refine wq_iast rfl e163x rfl rfl ?_
            intro hh164x e165x ff166x lh167x
            have e165x : zat hh164x 166 = some (.inl (0, 14, (zset 0 kn 12 (nI (ns + 1))))) := e165x
            refine wq_ret rfl rfl ?_
            show wq 177 122 [(1, .int (nI (8 + ns))), (0, .ref 162)] [] hh164x 0 0 _
            have e168x := (ff166x.2 _ _ (wnc (by decide) wn0) c0160x)
            have e169x := (ff166x.2 _ _ (wnc (by decide) wn0) (f8160x.2 _ _ (wnc (by decide) (wnc (by decide) wn0)) (f8154x.2 _ _ (wnc (by decide) wn0) e149x)))
            have e170x := (ff166x.2 _ _ (wnc (by decide) wn0) c1160x)
            have hx : (mRdO tb sz at9 pl so va ft fp ns kn sn sq) = ((v161x.1), (v161x.2.1), (v161x.2.2.1), (v161x.2.2.2.1), (v161x.2.2.2.2.1), (v161x.2.2.2.2.2.1), (zset 0 kn 12 (nI (ns + 1))), (zset 0 sn (8 + ns) (v132x.2.2.2)), (v161x.2.2.2.2.2.2)) := by unfold mRdO; rw [if_neg (fun q => q b4x), zlet_eq hv129x, zlet_eq hv133x, if_pos b134x, if_pos b137x, if_pos b143x, if_pos b145x, zlet_eq hv156x, zlet_eq hv162x]
            rw [hx]
            exact wq_ret rfl rfl ⟨hh164x, rfl, (wFr_tr (wFr_sub f8127x (by simp)) (wFr_tr (wFr_sub f8131x (by simp)) (wFr_tr (wFr_sub ff150x (by simp)) (wFr_tr (wFr_sub f8154x (by simp)) (wFr_tr (wFr_sub f8160x (by simp)) (wFr_sub ff166x (by simp))))))), by omega, e168x, e165x, e169x, e170x, (by (try dsimp only); first | assumption | omega), (by (try dsimp only); first | assumption | omega), (by (try dsimp only); first | assumption | omega), (by (try dsimp only); first | assumption | omega), (by (try dsimp only); first | assumption | omega), (by (try dsimp only); intro q9; first | omega | exact ⟨ns + 1, by omega, wNm_12 hN (by omega), wQ2_s hQ (by assumption) (by assumption)⟩), (by (try dsimp only); first | assumption | exact wFh_set hz1 (by decide) | exact wFh_up hz2 (by assumption) (by omega)), (by (try dsimp only); first | assumption | exact wFh_set hz1 (by decide) | exact wFh_up hz2 (by assumption) (by omega))⟩
          · have q171x : (v128x.1).toInt ≠ 0 := fun q => b145x (Int32.toInt_inj.mp q)
            have e172x := (f8131x.2 _ _ (wnc (by decide) wn0) (f8127x.2 _ _ (wnc (by decide) wn0) hSq))
            have hx : (mRdO tb sz at9 pl so va ft fp ns kn sn sq) = ((v128x.1), (v128x.2), (v132x.1), (v132x.2.1), (v132x.2.2.1), (v132x.2.2.2), kn, sn, sq) := by unfold mRdO; rw [if_neg (fun q => q b4x), zlet_eq hv129x, zlet_eq hv133x, if_pos b134x, if_pos b137x, if_pos b143x, if_neg b145x]
            rw [hx]
            exact wq_ret rfl rfl ⟨h8131x, rfl, (wFr_tr (wFr_sub f8127x (by simp)) (wFr_sub f8131x (by simp))), by omega, c0131x, e139x, e140x, e172x, (by (try dsimp only); first | assumption | omega), (by (try dsimp only); first | assumption | omega), (by (try dsimp only); first | assumption | omega), (by (try dsimp only); first | assumption | omega), (by (try dsimp only); first | assumption | omega), (by (try dsimp only); intro q9; first | omega | exact ⟨ns + 1, by omega, wNm_12 hN (by omega), wQ2_s hQ (by assumption) (by assumption)⟩), (by (try dsimp only); first | assumption | exact wFh_set hz1 (by decide) | exact wFh_up hz2 (by assumption) (by omega)), (by (try dsimp only); first | assumption | exact wFh_set hz1 (by decide) | exact wFh_up hz2 (by assumption) (by omega))⟩
        · have q173x : (mspF sn 8 ns (v132x.2.2.2) (ns - 0 + 1) 0).toInt ≠ -1 := fun q => b143x (Int32.toInt_inj.mp q)
          refine wq_gos (f := 1) (pc2 := 64) (ls2 := [(0, .ref 162)]) (st2 := [.int 3, .ref 162]) (h2 := h8131x) (dc2 := 0) (ds2 := 0) 2 rfl ?_
          have q174x : (3 : Int32).toInt = 3 := rfl
          refine wq_inlv (y2 := 163) (as := [.int 3]) rfl rfl rfl c0131x rfl (wq_mono (m_wro c0131x (by first | assumption | omega | decide | solve_by_elim) (by first | assumption | omega | decide | solve_by_elim)) ?_)
          rintro _ ⟨h8175x, rfl, f8175x, l8175x, c0175x, p0175x⟩
          show wq 177 67 [(0, .ref 162)] [] h8175x 0 0 _
          obtain ⟨v176x, hv177x⟩ : ∃ x, x = (mWro (v132x.2.1) (v128x.1) (v128x.2) (3 : Int32)) := ⟨_, rfl⟩
          try rw [← hv177x] at c0175x
          try rw [← hv177x] at p0175x
          try rw [← hv177x]
          refine wq_gos (f := 1) (pc2 := 68) (ls2 := [(0, .ref 162)]) (st2 := [.ref 162]) (h2 := h8175x) (dc2 := 0) (ds2 := 0) 1 rfl ?_
          refine wq_getf rfl c0175x rfl rfl ?_
          refine wq_eq0 rfl rfl (fun b178x => ?_) (fun b178x => ?_)
          · have q179x : (v176x.1).toInt = 0 := congrArg Int32.toInt b178x
            refine wq_gos (f := 1) (pc2 := 79) (ls2 := [(0, .ref 162)]) (st2 := [.int 5, .ref 162, .int 8]) (h2 := h8175x) (dc2 := 0) (ds2 := 0) 3 rfl ?_
            refine wq_inlv (y2 := 169) (as := [.int 5]) rfl rfl rfl c0175x rfl ?_
            show wq 169 0 [(0, .ref 162), (1, .int 5)] [] h8175x 0 0 _
            refine wq_gos (f := 1) (pc2 := 1) (ls2 := [(0, .ref 162), (1, .int 5)]) (st2 := [.ref 162]) (h2 := h8175x) (dc2 := 0) (ds2 := 0) 1 rfl ?_
            refine wq_getf rfl c0175x rfl rfl ?_
            refine wq_gos (f := 1) (pc2 := 8) (ls2 := [(0, .ref 162), (1, .int 5)]) (st2 := [.int 12, .ref 166]) (h2 := h8175x) (dc2 := 0) (ds2 := 0) 3 rfl ?_
            have e180x := (f8175x.2 _ _ (wnc (by decide) wn0) e139x)
            refine wq_iald rfl e180x rfl rfl ?_
            refine wq_vi hN.1 ?_
            refine wq_ret rfl rfl ?_
            show wq 177 82 [(0, .ref 162)] [.int (nI ns), .int 8] h8175x 0 0 _
            refine wq_gos (f := 1) (pc2 := 83) (ls2 := [(0, .ref 162)]) (st2 := [.int ((8 : Int32) + (nI ns))]) (h2 := h8175x) (dc2 := 0) (ds2 := 0) 1 rfl ?_
            refine wq_vi (show (8 : Int32) + (nI ns) = nI (8 + ns) from nI_add 8 ns) ?_
            refine wq_gos (f := 1) (pc2 := 85) (ls2 := [(1, .int (nI (8 + ns))), (0, .ref 162)]) (st2 := [.ref 162]) (h2 := h8175x) (dc2 := 0) (ds2 := 0) 2 rfl ?_
            refine wq_getf rfl c0175x rfl rfl ?_
            refine wq_gos (f := 1) (pc2 := 90) (ls2 := [(1, .int (nI (8 + ns))), (0, .ref 162)]) (st2 := [.ref 162, .int (nI (8 + ns)), .ref 176]) (h2 := h8175x) (dc2 := 0) (ds2 := 0) 2 rfl ?_
            refine wq_getf rfl c0175x rfl rfl ?_
            have e181x := (f8175x.2 _ _ (wnc (by decide) wn0) e140x)
            try have q182x := nI_toInt (n := (8 + ns)) (by omega)
            refine wq_iastn rfl e181x (by first | omega | exact zin_t (by omega) (by omega)) (by decide) rfl ?_
            intro hh183x e184x ff185x lh186x
            have e184x : zat hh183x 176 = some (.inl (0, 16, (zset 0 sn (8 + ns) (v132x.2.2.2)))) := e184x
            refine wq_gos (f := 1) (pc2 := 95) (ls2 := [(1, .int (nI (8 + ns))), (0, .ref 162)]) (st2 := [.ref 162]) (h2 := hh183x) (dc2 := 0) (ds2 := 0) 1 rfl ?_
            have e187x := (ff185x.2 _ _ (wnc (by decide) wn0) c0175x)
            have e188x := (ff185x.2 _ _ (wnc (by decide) wn0) (f8175x.2 _ _ (wnc (by decide) wn0) (f8131x.2 _ _ (wnc (by decide) wn0) e130x)))
            refine wq_inlv (y2 := 159) (as := []) rfl rfl rfl e187x rfl (wq_mono (m_tok e187x e188x (by first | assumption | omega | decide | solve_by_elim) ⟨Nat.le_refl _, by omega⟩) ?_)
            rintro _ ⟨h8189x, rfl, f8189x, l8189x, c0189x, p0189x, p1189x, p2189x, p3189x⟩
            show wq 177 98 [(1, .int (nI (8 + ns))), (0, .ref 162)] [] h8189x 0 0 _
            obtain ⟨v190x, hv191x⟩ : ∃ x, x = (mTok tb sz (v132x.1) (v132x.2.2.2)) := ⟨_, rfl⟩
            try rw [← hv191x] at c0189x
            try rw [← hv191x] at p0189x
            try rw [← hv191x] at p1189x
            try rw [← hv191x] at p2189x
            try rw [← hv191x] at p3189x
            try rw [← hv191x]
            refine wq_gos (f := 1) (pc2 := 100) (ls2 := [(1, .int (nI (8 + ns))), (0, .ref 162)]) (st2 := [.ref 162, .ref 162]) (h2 := h8189x) (dc2 := 0) (ds2 := 0) 2 rfl ?_
            refine wq_getf rfl c0189x rfl rfl ?_
            refine wq_gos (f := 1) (pc2 := 107) (ls2 := [(1, .int (nI (8 + ns))), (0, .ref 162)]) (st2 := [.int ((6 : Int32) * (nI (8 + ns))), .ref 178, .ref 162]) (h2 := h8189x) (dc2 := 0) (ds2 := 0) 3 rfl ?_
            refine wq_vi (show (6 : Int32) * (nI (8 + ns)) = nI (6 * (8 + ns)) from e_nmul 6 (8 + ns)) ?_
            have e192x := (f8189x.2 _ _ (wnc (by decide) wn0) e188x)
            have e193x := (f8189x.2 _ _ (wnc (by decide) wn0) (ff185x.2 _ _ (wnc (by decide) wn0) (f8175x.2 _ _ (wnc (by decide) wn0) (f8131x.2 _ _ (wnc (by decide) wn0) (f8127x.2 _ _ (wnc (by decide) wn0) hSq)))))
            try have q194x := nI_toInt (n := (6 * (8 + ns))) (by omega)
            refine wq_inlv (y2 := 172) (as := [.ref 178, .int (nI (6 * (8 + ns)))]) rfl rfl rfl c0189x rfl (wq_mono (m_rdP c0189x e192x e193x (by first | assumption | omega | decide | solve_by_elim) ⟨Nat.le_refl _, by omega⟩ (by first | assumption | omega | decide | solve_by_elim) (by first | assumption | omega | decide | solve_by_elim) (by first | assumption | omega | decide | solve_by_elim) (by first | assumption | omega | decide | solve_by_elim) (fun _ _ => rfl)) ?_)
            rintro _ ⟨h8195x, rfl, f8195x, l8195x, c0195x, c1195x, p0195x, p1195x, p2195x, p3195x, p4195x, p5195x, p6195x⟩
            show wq 177 110 [(1, .int (nI (8 + ns))), (0, .ref 162)] [] h8195x 0 0 _
            obtain ⟨v196x, hv197x⟩ : ∃ x, x = (mRdP tb sz (v190x.1) (v190x.2.1) (v190x.2.2.1) (v190x.2.2.2) (v176x.1) (v176x.2) (6 * (8 + ns)) sq) := ⟨_, rfl⟩
            try rw [← hv197x] at c0195x
            try rw [← hv197x] at c1195x
            try rw [← hv197x] at p0195x
            try rw [← hv197x] at p1195x
            try rw [← hv197x] at p2195x
            try rw [← hv197x] at p3195x
            try rw [← hv197x] at p4195x
            try rw [← hv197x] at p5195x
            try rw [← hv197x] at p6195x
            try rw [← hv197x]
            refine wq_gos (f := 1) (pc2 := 114) (ls2 := [(1, .int (nI (8 + ns))), (0, .ref 162)]) (st2 := [.int 5, .ref 162, .int 5, .ref 162]) (h2 := h8195x) (dc2 := 0) (ds2 := 0) 4 rfl ?_
            refine wq_inlv (y2 := 169) (as := [.int 5]) rfl rfl rfl c0195x rfl ?_
            show wq 169 0 [(0, .ref 162), (1, .int 5)] [] h8195x 0 0 _
            refine wq_gos (f := 1) (pc2 := 1) (ls2 := [(0, .ref 162), (1, .int 5)]) (st2 := [.ref 162]) (h2 := h8195x) (dc2 := 0) (ds2 := 0) 1 rfl ?_
            refine wq_getf rfl c0195x rfl rfl ?_
            refine wq_gos (f := 1) (pc2 := 8) (ls2 := [(0, .ref 162), (1, .int 5)]) (st2 := [.int 12, .ref 166]) (h2 := h8195x) (dc2 := 0) (ds2 := 0) 3 rfl ?_
            have e198x := (f8195x.2 _ _ (wnc (by decide) (wnc (by decide) wn0)) (f8189x.2 _ _ (wnc (by decide) wn0) (ff185x.2 _ _ (wnc (by decide) wn0) e180x)))
            refine wq_iald rfl e198x rfl rfl ?_
            refine wq_vi hN.1 ?_
            refine wq_ret rfl rfl ?_
            show wq 177 117 [(1, .int (nI (8 + ns))), (0, .ref 162)] [.int (nI ns), .int 5, .ref 162] h8195x 0 0 _
            refine wq_gos (f := 1) (pc2 := 119) (ls2 := [(1, .int (nI (8 + ns))), (0, .ref 162)]) (st2 := [.int ((nI ns) + (1 : Int32)), .int 5, .ref 162]) (h2 := h8195x) (dc2 := 0) (ds2 := 0) 2 rfl ?_
            refine wq_vi (show (nI ns) + (1 : Int32) = nI (ns + 1) from nI_add ns 1) ?_
            refine wq_inlv (y2 := 170) (as := [.int 5, .int (nI (ns + 1))]) rfl rfl rfl c0195x rfl ?_
            show wq 170 0 [(0, .ref 162), (1, .int 5), (2, .int (nI (ns + 1)))] [] h8195x 0 0 _
            refine wq_gos (f := 1) (pc2 := 1) (ls2 := [(0, .ref 162), (1, .int 5), (2, .int (nI (ns + 1)))]) (st2 := [.ref 162]) (h2 := h8195x) (dc2 := 0) (ds2 := 0) 1 rfl ?_
            refine wq_getf rfl c0195x rfl rfl ?_
            refine wq_gos (f := 1) (pc2 := 9) (ls2 := [(0, .ref 162), (1, .int 5), (2, .int (nI (ns + 1)))]) (st2 := [.int (nI (ns + 1)), .int 12, .ref 166]) (h2 := h8195x) (dc2 := 0) (ds2 := 0) 4 rfl ?_
            refine wq_iast rfl e198x rfl rfl ?_
            intro hh199x e200x ff201x lh202x
            have e200x : zat hh199x 166 = some (.inl (0, 14, (zset 0 kn 12 (nI (ns + 1))))) := e200x
            refine wq_ret rfl rfl ?_
            show wq 177 122 [(1, .int (nI (8 + ns))), (0, .ref 162)] [] hh199x 0 0 _
            have e203x := (ff201x.2 _ _ (wnc (by decide) wn0) c0195x)
            have e204x := (ff201x.2 _ _ (wnc (by decide) wn0) (f8195x.2 _ _ (wnc (by decide) (wnc (by decide) wn0)) (f8189x.2 _ _ (wnc (by decide) wn0) e184x)))
            have e205x := (ff201x.2 _ _ (wnc (by decide) wn0) c1195x)
            have hx : (mRdO tb sz at9 pl so va ft fp ns kn sn sq) = ((v196x.1), (v196x.2.1), (v196x.2.2.1), (v196x.2.2.2.1), (v196x.2.2.2.2.1), (v196x.2.2.2.2.2.1), (zset 0 kn 12 (nI (ns + 1))), (zset 0 sn (8 + ns) (v132x.2.2.2)), (v196x.2.2.2.2.2.2)) := by unfold mRdO; rw [if_neg (fun q => q b4x), zlet_eq hv129x, zlet_eq hv133x, if_pos b134x, if_pos b137x, if_neg b143x, zlet_eq hv177x, if_pos b178x, zlet_eq hv191x, zlet_eq hv197x]
            rw [hx]
            exact wq_ret rfl rfl ⟨hh199x, rfl, (wFr_tr (wFr_sub f8127x (by simp)) (wFr_tr (wFr_sub f8131x (by simp)) (wFr_tr (wFr_sub f8175x (by simp)) (wFr_tr (wFr_sub ff185x (by simp)) (wFr_tr (wFr_sub f8189x (by simp)) (wFr_tr (wFr_sub f8195x (by simp)) (wFr_sub ff201x (by simp)))))))), by omega, e203x, e200x, e204x, e205x, (by (try dsimp only); first | assumption | omega), (by (try dsimp only); first | assumption | omega), (by (try dsimp only); first | assumption | omega), (by (try dsimp only); first | assumption | omega), (by (try dsimp only); first | assumption | omega), (by (try dsimp only); intro q9; first | omega | exact ⟨ns + 1, by omega, wNm_12 hN (by omega), wQ2_s hQ (by assumption) (by assumption)⟩), (by (try dsimp only); first | assumption | exact wFh_set hz1 (by decide) | exact wFh_up hz2 (by assumption) (by omega)), (by (try dsimp only); first | assumption | exact wFh_set hz1 (by decide) | exact wFh_up hz2 (by assumption) (by omega))⟩
          · have q206x : (v176x.1).toInt ≠ 0 := fun q => b178x (Int32.toInt_inj.mp q)
            have e207x := (f8175x.2 _ _ (wnc (by decide) wn0) e139x)
            have e208x := (f8175x.2 _ _ (wnc (by decide) wn0) e140x)
            have e209x := (f8175x.2 _ _ (wnc (by decide) wn0) (f8131x.2 _ _ (wnc (by decide) wn0) (f8127x.2 _ _ (wnc (by decide) wn0) hSq)))
            have hx : (mRdO tb sz at9 pl so va ft fp ns kn sn sq) = ((v176x.1), (v176x.2), (v132x.1), (v132x.2.1), (v132x.2.2.1), (v132x.2.2.2), kn, sn, sq) := by unfold mRdO; rw [if_neg (fun q => q b4x), zlet_eq hv129x, zlet_eq hv133x, if_pos b134x, if_pos b137x, if_neg b143x, zlet_eq hv177x, if_neg b178x]
            rw [hx]
            exact wq_ret rfl rfl ⟨h8175x, rfl, (wFr_tr (wFr_sub f8127x (by simp)) (wFr_tr (wFr_sub f8131x (by simp)) (wFr_sub f8175x (by simp)))), by omega, c0175x, e207x, e208x, e209x, (by (try dsimp only); first | assumption | omega), (by (try dsimp only); first | assumption | omega), (by (try dsimp only); first | assumption | omega), (by (try dsimp only); first | assumption | omega), (by (try dsimp only); first | assumption | omega), (by (try dsimp only); intro q9; first | omega | exact ⟨ns + 1, by omega, wNm_12 hN (by omega), wQ2_s hQ (by assumption) (by assumption)⟩), (by (try dsimp only); first | assumption | exact wFh_set hz1 (by decide) | exact wFh_up hz2 (by assumption) (by omega)), (by (try dsimp only); first | assumption | exact wFh_set hz1 (by decide) | exact wFh_up hz2 (by assumption) (by omega))⟩
      · have q210x : (v132x.2.2.1).toInt ≠ 1 := fun q => b137x (Int32.toInt_inj.mp q)
        refine wq_gos (f := 1) (pc2 := 37) (ls2 := [(0, .ref 162)]) (st2 := [.int 1, .ref 162]) (h2 := h8131x) (dc2 := 0) (ds2 := 0) 2 rfl ?_
        refine wq_inlv (y2 := 163) (as := [.int 1]) rfl rfl rfl c0131x rfl (wq_mono (m_wro c0131x (by first | assumption | omega | decide | solve_by_elim) (by first | assumption | omega | decide | solve_by_elim)) ?_)
        rintro _ ⟨h8211x, rfl, f8211x, l8211x, c0211x, p0211x⟩
        show wq 177 40 [(0, .ref 162)] [] h8211x 0 0 _
        obtain ⟨v212x, hv213x⟩ : ∃ x, x = (mWro (v132x.2.1) (v128x.1) (v128x.2) (1 : Int32)) := ⟨_, rfl⟩
        try rw [← hv213x] at c0211x
        try rw [← hv213x] at p0211x
        try rw [← hv213x]
        refine wq_gos (f := 1) (pc2 := 68) (ls2 := [(0, .ref 162)]) (st2 := [.ref 162]) (h2 := h8211x) (dc2 := 0) (ds2 := 0) 2 rfl ?_
        refine wq_getf rfl c0211x rfl rfl ?_
        refine wq_eq0 rfl rfl (fun b214x => ?_) (fun b214x => ?_)
        · have q215x : (v212x.1).toInt = 0 := congrArg Int32.toInt b214x
          refine wq_gos (f := 1) (pc2 := 79) (ls2 := [(0, .ref 162)]) (st2 := [.int 5, .ref 162, .int 8]) (h2 := h8211x) (dc2 := 0) (ds2 := 0) 3 rfl ?_
          refine wq_inlv (y2 := 169) (as := [.int 5]) rfl rfl rfl c0211x rfl ?_
          show wq 169 0 [(0, .ref 162), (1, .int 5)] [] h8211x 0 0 _
          refine wq_gos (f := 1) (pc2 := 1) (ls2 := [(0, .ref 162), (1, .int 5)]) (st2 := [.ref 162]) (h2 := h8211x) (dc2 := 0) (ds2 := 0) 1 rfl ?_
          refine wq_getf rfl c0211x rfl rfl ?_
          refine wq_gos (f := 1) (pc2 := 8) (ls2 := [(0, .ref 162), (1, .int 5)]) (st2 := [.int 12, .ref 166]) (h2 := h8211x) (dc2 := 0) (ds2 := 0) 3 rfl ?_
          have e216x := (f8211x.2 _ _ (wnc (by decide) wn0) (f8131x.2 _ _ (wnc (by decide) wn0) (f8127x.2 _ _ (wnc (by decide) wn0) hKn)))
          refine wq_iald rfl e216x rfl rfl ?_
          refine wq_vi hN.1 ?_
          refine wq_ret rfl rfl ?_
          show wq 177 82 [(0, .ref 162)] [.int (nI ns), .int 8] h8211x 0 0 _
          refine wq_gos (f := 1) (pc2 := 83) (ls2 := [(0, .ref 162)]) (st2 := [.int ((8 : Int32) + (nI ns))]) (h2 := h8211x) (dc2 := 0) (ds2 := 0) 1 rfl ?_
          refine wq_vi (show (8 : Int32) + (nI ns) = nI (8 + ns) from nI_add 8 ns) ?_
          refine wq_gos (f := 1) (pc2 := 85) (ls2 := [(1, .int (nI (8 + ns))), (0, .ref 162)]) (st2 := [.ref 162]) (h2 := h8211x) (dc2 := 0) (ds2 := 0) 2 rfl ?_
          refine wq_getf rfl c0211x rfl rfl ?_
          refine wq_gos (f := 1) (pc2 := 90) (ls2 := [(1, .int (nI (8 + ns))), (0, .ref 162)]) (st2 := [.ref 162, .int (nI (8 + ns)), .ref 176]) (h2 := h8211x) (dc2 := 0) (ds2 := 0) 2 rfl ?_
          refine wq_getf rfl c0211x rfl rfl ?_
          have e217x := (f8211x.2 _ _ (wnc (by decide) wn0) (f8131x.2 _ _ (wnc (by decide) wn0) (f8127x.2 _ _ (wnc (by decide) wn0) hSn)))
          try have q218x := nI_toInt (n := (8 + ns)) (by omega)
          refine wq_iastn rfl e217x (by first | omega | exact zin_t (by omega) (by omega)) (by decide) rfl ?_
          intro hh219x e220x ff221x lh222x
          have e220x : zat hh219x 176 = some (.inl (0, 16, (zset 0 sn (8 + ns) (v132x.2.2.2)))) := e220x
          refine wq_gos (f := 1) (pc2 := 95) (ls2 := [(1, .int (nI (8 + ns))), (0, .ref 162)]) (st2 := [.ref 162]) (h2 := hh219x) (dc2 := 0) (ds2 := 0) 1 rfl ?_
          have e223x := (ff221x.2 _ _ (wnc (by decide) wn0) c0211x)
          have e224x := (ff221x.2 _ _ (wnc (by decide) wn0) (f8211x.2 _ _ (wnc (by decide) wn0) (f8131x.2 _ _ (wnc (by decide) wn0) e130x)))
          refine wq_inlv (y2 := 159) (as := []) rfl rfl rfl e223x rfl (wq_mono (m_tok e223x e224x (by first | assumption | omega | decide | solve_by_elim) ⟨Nat.le_refl _, by omega⟩) ?_)
          rintro _ ⟨h8225x, rfl, f8225x, l8225x, c0225x, p0225x, p1225x, p2225x, p3225x⟩
          show wq 177 98 [(1, .int (nI (8 + ns))), (0, .ref 162)] [] h8225x 0 0 _
          obtain ⟨v226x, hv227x⟩ : ∃ x, x = (mTok tb sz (v132x.1) (v132x.2.2.2)) := ⟨_, rfl⟩
          try rw [← hv227x] at c0225x
          try rw [← hv227x] at p0225x
          try rw [← hv227x] at p1225x
          try rw [← hv227x] at p2225x
          try rw [← hv227x] at p3225x
          try rw [← hv227x]
          refine wq_gos (f := 1) (pc2 := 100) (ls2 := [(1, .int (nI (8 + ns))), (0, .ref 162)]) (st2 := [.ref 162, .ref 162]) (h2 := h8225x) (dc2 := 0) (ds2 := 0) 2 rfl ?_
          refine wq_getf rfl c0225x rfl rfl ?_
          refine wq_gos (f := 1) (pc2 := 107) (ls2 := [(1, .int (nI (8 + ns))), (0, .ref 162)]) (st2 := [.int ((6 : Int32) * (nI (8 + ns))), .ref 178, .ref 162]) (h2 := h8225x) (dc2 := 0) (ds2 := 0) 3 rfl ?_
          refine wq_vi (show (6 : Int32) * (nI (8 + ns)) = nI (6 * (8 + ns)) from e_nmul 6 (8 + ns)) ?_
          have e228x := (f8225x.2 _ _ (wnc (by decide) wn0) e224x)
          have e229x := (f8225x.2 _ _ (wnc (by decide) wn0) (ff221x.2 _ _ (wnc (by decide) wn0) (f8211x.2 _ _ (wnc (by decide) wn0) (f8131x.2 _ _ (wnc (by decide) wn0) (f8127x.2 _ _ (wnc (by decide) wn0) hSq)))))
          try have q230x := nI_toInt (n := (6 * (8 + ns))) (by omega)
          refine wq_inlv (y2 := 172) (as := [.ref 178, .int (nI (6 * (8 + ns)))]) rfl rfl rfl c0225x rfl (wq_mono (m_rdP c0225x e228x e229x (by first | assumption | omega | decide | solve_by_elim) ⟨Nat.le_refl _, by omega⟩ (by first | assumption | omega | decide | solve_by_elim) (by first | assumption | omega | decide | solve_by_elim) (by first | assumption | omega | decide | solve_by_elim) (by first | assumption | omega | decide | solve_by_elim) (fun _ _ => rfl)) ?_)
          rintro _ ⟨h8231x, rfl, f8231x, l8231x, c0231x, c1231x, p0231x, p1231x, p2231x, p3231x, p4231x, p5231x, p6231x⟩
          show wq 177 110 [(1, .int (nI (8 + ns))), (0, .ref 162)] [] h8231x 0 0 _
          obtain ⟨v232x, hv233x⟩ : ∃ x, x = (mRdP tb sz (v226x.1) (v226x.2.1) (v226x.2.2.1) (v226x.2.2.2) (v212x.1) (v212x.2) (6 * (8 + ns)) sq) := ⟨_, rfl⟩
          try rw [← hv233x] at c0231x
          try rw [← hv233x] at c1231x
          try rw [← hv233x] at p0231x
          try rw [← hv233x] at p1231x
          try rw [← hv233x] at p2231x
          try rw [← hv233x] at p3231x
          try rw [← hv233x] at p4231x
          try rw [← hv233x] at p5231x
          try rw [← hv233x] at p6231x
          try rw [← hv233x]
          refine wq_gos (f := 1) (pc2 := 114) (ls2 := [(1, .int (nI (8 + ns))), (0, .ref 162)]) (st2 := [.int 5, .ref 162, .int 5, .ref 162]) (h2 := h8231x) (dc2 := 0) (ds2 := 0) 4 rfl ?_
          refine wq_inlv (y2 := 169) (as := [.int 5]) rfl rfl rfl c0231x rfl ?_
          show wq 169 0 [(0, .ref 162), (1, .int 5)] [] h8231x 0 0 _
          refine wq_gos (f := 1) (pc2 := 1) (ls2 := [(0, .ref 162), (1, .int 5)]) (st2 := [.ref 162]) (h2 := h8231x) (dc2 := 0) (ds2 := 0) 1 rfl ?_
          refine wq_getf rfl c0231x rfl rfl ?_
          refine wq_gos (f := 1) (pc2 := 8) (ls2 := [(0, .ref 162), (1, .int 5)]) (st2 := [.int 12, .ref 166]) (h2 := h8231x) (dc2 := 0) (ds2 := 0) 3 rfl ?_
          have e234x := (f8231x.2 _ _ (wnc (by decide) (wnc (by decide) wn0)) (f8225x.2 _ _ (wnc (by decide) wn0) (ff221x.2 _ _ (wnc (by decide) wn0) e216x)))
          refine wq_iald rfl e234x rfl rfl ?_
          refine wq_vi hN.1 ?_
          refine wq_ret rfl rfl ?_
          show wq 177 117 [(1, .int (nI (8 + ns))), (0, .ref 162)] [.int (nI ns), .int 5, .ref 162] h8231x 0 0 _
          refine wq_gos (f := 1) (pc2 := 119) (ls2 := [(1, .int (nI (8 + ns))), (0, .ref 162)]) (st2 := [.int ((nI ns) + (1 : Int32)), .int 5, .ref 162]) (h2 := h8231x) (dc2 := 0) (ds2 := 0) 2 rfl ?_
          refine wq_vi (show (nI ns) + (1 : Int32) = nI (ns + 1) from nI_add ns 1) ?_
          refine wq_inlv (y2 := 170) (as := [.int 5, .int (nI (ns + 1))]) rfl rfl rfl c0231x rfl ?_
          show wq 170 0 [(0, .ref 162), (1, .int 5), (2, .int (nI (ns + 1)))] [] h8231x 0 0 _
          refine wq_gos (f := 1) (pc2 := 1) (ls2 := [(0, .ref 162), (1, .int 5), (2, .int (nI (ns + 1)))]) (st2 := [.ref 162]) (h2 := h8231x) (dc2 := 0) (ds2 := 0) 1 rfl ?_
          refine wq_getf rfl c0231x rfl rfl ?_
          refine wq_gos (f := 1) (pc2 := 9) (ls2 := [(0, .ref 162), (1, .int 5), (2, .int (nI (ns + 1)))]) (st2 := [.int (nI (ns + 1)), .int 12, .ref 166]) (h2 := h8231x) (dc2 := 0) (ds2 := 0) 4 rfl ?_
          refine wq_iast rfl e234x rfl rfl ?_
          intro hh235x e236x ff237x lh238x
          have e236x : zat hh235x 166 = some (.inl (0, 14, (zset 0 kn 12 (nI (ns + 1))))) := e236x
          refine wq_ret rfl rfl ?_
          show wq 177 122 [(1, .int (nI (8 + ns))), (0, .ref 162)] [] hh235x 0 0 _
          have e239x := (ff237x.2 _ _ (wnc (by decide) wn0) c0231x)
          have e240x := (ff237x.2 _ _ (wnc (by decide) wn0) (f8231x.2 _ _ (wnc (by decide) (wnc (by decide) wn0)) (f8225x.2 _ _ (wnc (by decide) wn0) e220x)))
          have e241x := (ff237x.2 _ _ (wnc (by decide) wn0) c1231x)
          have hx : (mRdO tb sz at9 pl so va ft fp ns kn sn sq) = ((v232x.1), (v232x.2.1), (v232x.2.2.1), (v232x.2.2.2.1), (v232x.2.2.2.2.1), (v232x.2.2.2.2.2.1), (zset 0 kn 12 (nI (ns + 1))), (zset 0 sn (8 + ns) (v132x.2.2.2)), (v232x.2.2.2.2.2.2)) := by unfold mRdO; rw [if_neg (fun q => q b4x), zlet_eq hv129x, zlet_eq hv133x, if_pos b134x, if_neg b137x, zlet_eq hv213x, if_pos b214x, zlet_eq hv227x, zlet_eq hv233x]
          rw [hx]
          exact wq_ret rfl rfl ⟨hh235x, rfl, (wFr_tr (wFr_sub f8127x (by simp)) (wFr_tr (wFr_sub f8131x (by simp)) (wFr_tr (wFr_sub f8211x (by simp)) (wFr_tr (wFr_sub ff221x (by simp)) (wFr_tr (wFr_sub f8225x (by simp)) (wFr_tr (wFr_sub f8231x (by simp)) (wFr_sub ff237x (by simp)))))))), by omega, e239x, e236x, e240x, e241x, (by (try dsimp only); first | assumption | omega), (by (try dsimp only); first | assumption | omega), (by (try dsimp only); first | assumption | omega), (by (try dsimp only); first | assumption | omega), (by (try dsimp only); first | assumption | omega), (by (try dsimp only); intro q9; first | omega | exact ⟨ns + 1, by omega, wNm_12 hN (by omega), wQ2_s hQ (by assumption) (by assumption)⟩), (by (try dsimp only); first | assumption | exact wFh_set hz1 (by decide) | exact wFh_up hz2 (by assumption) (by omega)), (by (try dsimp only); first | assumption | exact wFh_set hz1 (by decide) | exact wFh_up hz2 (by assumption) (by omega))⟩
        · have q242x : (v212x.1).toInt ≠ 0 := fun q => b214x (Int32.toInt_inj.mp q)
          have e243x := (f8211x.2 _ _ (wnc (by decide) wn0) (f8131x.2 _ _ (wnc (by decide) wn0) (f8127x.2 _ _ (wnc (by decide) wn0) hKn)))
          have e244x := (f8211x.2 _ _ (wnc (by decide) wn0) (f8131x.2 _ _ (wnc (by decide) wn0) (f8127x.2 _ _ (wnc (by decide) wn0) hSn)))
          have e245x := (f8211x.2 _ _ (wnc (by decide) wn0) (f8131x.2 _ _ (wnc (by decide) wn0) (f8127x.2 _ _ (wnc (by decide) wn0) hSq)))
          have hx : (mRdO tb sz at9 pl so va ft fp ns kn sn sq) = ((v212x.1), (v212x.2), (v132x.1), (v132x.2.1), (v132x.2.2.1), (v132x.2.2.2), kn, sn, sq) := by unfold mRdO; rw [if_neg (fun q => q b4x), zlet_eq hv129x, zlet_eq hv133x, if_pos b134x, if_neg b137x, zlet_eq hv213x, if_neg b214x]
          rw [hx]
          exact wq_ret rfl rfl ⟨h8211x, rfl, (wFr_tr (wFr_sub f8127x (by simp)) (wFr_tr (wFr_sub f8131x (by simp)) (wFr_sub f8211x (by simp)))), by omega, c0211x, e243x, e244x, e245x, (by (try dsimp only); first | assumption | omega), (by (try dsimp only); first | assumption | omega), (by (try dsimp only); first | assumption | omega), (by (try dsimp only); first | assumption | omega), (by (try dsimp only); first | assumption | omega), (by (try dsimp only); intro q9; first | omega | exact ⟨ns + 1, by omega, wNm_12 hN (by omega), wQ2_s hQ (by assumption) (by assumption)⟩), (by (try dsimp only); first | assumption | exact wFh_set hz1 (by decide) | exact wFh_up hz2 (by assumption) (by omega)), (by (try dsimp only); first | assumption | exact wFh_set hz1 (by decide) | exact wFh_up hz2 (by assumption) (by omega))⟩
    · have q246x : (v128x.1).toInt ≠ 0 := fun q => b134x (Int32.toInt_inj.mp q)
      have e247x := (f8131x.2 _ _ (wnc (by decide) wn0) (f8127x.2 _ _ (wnc (by decide) wn0) hKn))
      have e248x := (f8131x.2 _ _ (wnc (by decide) wn0) (f8127x.2 _ _ (wnc (by decide) wn0) hSn))
      have e249x := (f8131x.2 _ _ (wnc (by decide) wn0) (f8127x.2 _ _ (wnc (by decide) wn0) hSq))
      have hx : (mRdO tb sz at9 pl so va ft fp ns kn sn sq) = ((v128x.1), (v128x.2), (v132x.1), (v132x.2.1), (v132x.2.2.1), (v132x.2.2.2), kn, sn, sq) := by unfold mRdO; rw [if_neg (fun q => q b4x), zlet_eq hv129x, zlet_eq hv133x, if_neg b134x]
      rw [hx]
      exact wq_ret rfl rfl ⟨h8131x, rfl, (wFr_tr (wFr_sub f8127x (by simp)) (wFr_sub f8131x (by simp))), by omega, c0131x, e247x, e248x, e249x, (by (try dsimp only); first | assumption | omega), (by (try dsimp only); first | assumption | omega), (by (try dsimp only); first | assumption | omega), (by (try dsimp only); first | assumption | omega), (by (try dsimp only); first | assumption | omega), (by (try dsimp only); intro q9; first | omega | exact ⟨ns + 1, by omega, wNm_12 hN (by omega), wQ2_s hQ (by assumption) (by assumption)⟩), (by (try dsimp only); first | assumption | exact wFh_set hz1 (by decide) | exact wFh_up hz2 (by assumption) (by omega)), (by (try dsimp only); first | assumption | exact wFh_set hz1 (by decide) | exact wFh_up hz2 (by assumption) (by omega))⟩
noncomputable def mRdG (tb : List Int32) (sz at9 pl : Nat) (so va ft fp : Int32) (ns nw : Nat) (kn sn wy : List Int32) : Int32 × Int32 × Nat × Nat × Int32 × Int32 × List Int32 × List Int32 := (if (nI nw) ≠ (10 : Int32) then (zlet (mGo tb sz at9 pl so va ft) (fun v7x => (if ft = (0 : Int32) then (if (v7x.2.2.1) = (1 : Int32) then (if ft ≠ (0 : Int32) then (if ft = (0 : Int32) then (zlet (mTok tb sz (v7x.1) (v7x.2.2.2)) (fun v34x => (ft, fp, (v34x.1), (v34x.2.1), (v34x.2.2.1), (v34x.2.2.2), (zset 0 kn 13 (nI (nw + 1))), (zset 0 wy (10 + nw) (0 : Int32))))) else (ft, fp, (v7x.1), (v7x.2.1), (v7x.2.2.1), (v7x.2.2.2), kn, wy)) else (if (mspF sn 8 ns (v7x.2.2.2) (ns - 0 + 1) 0) ≠ (-1 : Int32) then (if ft = (0 : Int32) then (zlet (mTok tb sz (v7x.1) (v7x.2.2.2)) (fun v68x => (ft, fp, (v68x.1), (v68x.2.1), (v68x.2.2.1), (v68x.2.2.2), (zset 0 kn 13 (nI (nw + 1))), (zset 0 wy (10 + nw) (mspF sn 8 ns (v7x.2.2.2) (ns - 0 + 1) 0))))) else (ft, fp, (v7x.1), (v7x.2.1), (v7x.2.2.1), (v7x.2.2.2), kn, wy)) else (zlet (mWro (v7x.2.1) ft fp (4 : Int32)) (fun v77x => (if (v77x.1) = (0 : Int32) then (zlet (mTok tb sz (v7x.1) (v7x.2.2.2)) (fun v97x => ((v77x.1), (v77x.2), (v97x.1), (v97x.2.1), (v97x.2.2.1), (v97x.2.2.2), (zset 0 kn 13 (nI (nw + 1))), (zset 0 wy (10 + nw) (mspF sn 8 ns (v7x.2.2.2) (ns - 0 + 1) 0))))) else ((v77x.1), (v77x.2), (v7x.1), (v7x.2.1), (v7x.2.2.1), (v7x.2.2.2), kn, wy)))))) else (zlet (mWro (v7x.2.1) ft fp (1 : Int32)) (fun v106x => (if (v106x.1) ≠ (0 : Int32) then (if (v106x.1) = (0 : Int32) then (zlet (mTok tb sz (v7x.1) (v7x.2.2.2)) (fun v128x => ((v106x.1), (v106x.2), (v128x.1), (v128x.2.1), (v128x.2.2.1), (v128x.2.2.2), (zset 0 kn 13 (nI (nw + 1))), (zset 0 wy (10 + nw) (0 : Int32))))) else ((v106x.1), (v106x.2), (v7x.1), (v7x.2.1), (v7x.2.2.1), (v7x.2.2.2), kn, wy)) else (if (mspF sn 8 ns (v7x.2.2.2) (ns - 0 + 1) 0) ≠ (-1 : Int32) then (if (v106x.1) = (0 : Int32) then (zlet (mTok tb sz (v7x.1) (v7x.2.2.2)) (fun v162x => ((v106x.1), (v106x.2), (v162x.1), (v162x.2.1), (v162x.2.2.1), (v162x.2.2.2), (zset 0 kn 13 (nI (nw + 1))), (zset 0 wy (10 + nw) (mspF sn 8 ns (v7x.2.2.2) (ns - 0 + 1) 0))))) else ((v106x.1), (v106x.2), (v7x.1), (v7x.2.1), (v7x.2.2.1), (v7x.2.2.2), kn, wy)) else (zlet (mWro (v7x.2.1) (v106x.1) (v106x.2) (4 : Int32)) (fun v171x => (if (v171x.1) = (0 : Int32) then (zlet (mTok tb sz (v7x.1) (v7x.2.2.2)) (fun v191x => ((v171x.1), (v171x.2), (v191x.1), (v191x.2.1), (v191x.2.2.1), (v191x.2.2.2), (zset 0 kn 13 (nI (nw + 1))), (zset 0 wy (10 + nw) (mspF sn 8 ns (v7x.2.2.2) (ns - 0 + 1) 0))))) else ((v171x.1), (v171x.2), (v7x.1), (v7x.2.1), (v7x.2.2.1), (v7x.2.2.2), kn, wy))))))))) else (ft, fp, (v7x.1), (v7x.2.1), (v7x.2.2.1), (v7x.2.2.2), kn, wy)))) else (zlet (mWro pl ft fp (2 : Int32)) (fun v204x => (zlet (mGo tb sz at9 pl so va (v204x.1)) (fun v208x => (if (v204x.1) = (0 : Int32) then (if (v208x.2.2.1) = (1 : Int32) then (if (v204x.1) ≠ (0 : Int32) then (if (v204x.1) = (0 : Int32) then (zlet (mTok tb sz (v208x.1) (v208x.2.2.2)) (fun v235x => ((v204x.1), (v204x.2), (v235x.1), (v235x.2.1), (v235x.2.2.1), (v235x.2.2.2), (zset 0 kn 13 (nI (nw + 1))), (zset 0 wy (10 + nw) (0 : Int32))))) else ((v204x.1), (v204x.2), (v208x.1), (v208x.2.1), (v208x.2.2.1), (v208x.2.2.2), kn, wy)) else (if (mspF sn 8 ns (v208x.2.2.2) (ns - 0 + 1) 0) ≠ (-1 : Int32) then (if (v204x.1) = (0 : Int32) then (zlet (mTok tb sz (v208x.1) (v208x.2.2.2)) (fun v269x => ((v204x.1), (v204x.2), (v269x.1), (v269x.2.1), (v269x.2.2.1), (v269x.2.2.2), (zset 0 kn 13 (nI (nw + 1))), (zset 0 wy (10 + nw) (mspF sn 8 ns (v208x.2.2.2) (ns - 0 + 1) 0))))) else ((v204x.1), (v204x.2), (v208x.1), (v208x.2.1), (v208x.2.2.1), (v208x.2.2.2), kn, wy)) else (zlet (mWro (v208x.2.1) (v204x.1) (v204x.2) (4 : Int32)) (fun v278x => (if (v278x.1) = (0 : Int32) then (zlet (mTok tb sz (v208x.1) (v208x.2.2.2)) (fun v298x => ((v278x.1), (v278x.2), (v298x.1), (v298x.2.1), (v298x.2.2.1), (v298x.2.2.2), (zset 0 kn 13 (nI (nw + 1))), (zset 0 wy (10 + nw) (mspF sn 8 ns (v208x.2.2.2) (ns - 0 + 1) 0))))) else ((v278x.1), (v278x.2), (v208x.1), (v208x.2.1), (v208x.2.2.1), (v208x.2.2.2), kn, wy)))))) else (zlet (mWro (v208x.2.1) (v204x.1) (v204x.2) (1 : Int32)) (fun v307x => (if (v307x.1) ≠ (0 : Int32) then (if (v307x.1) = (0 : Int32) then (zlet (mTok tb sz (v208x.1) (v208x.2.2.2)) (fun v329x => ((v307x.1), (v307x.2), (v329x.1), (v329x.2.1), (v329x.2.2.1), (v329x.2.2.2), (zset 0 kn 13 (nI (nw + 1))), (zset 0 wy (10 + nw) (0 : Int32))))) else ((v307x.1), (v307x.2), (v208x.1), (v208x.2.1), (v208x.2.2.1), (v208x.2.2.2), kn, wy)) else (if (mspF sn 8 ns (v208x.2.2.2) (ns - 0 + 1) 0) ≠ (-1 : Int32) then (if (v307x.1) = (0 : Int32) then (zlet (mTok tb sz (v208x.1) (v208x.2.2.2)) (fun v363x => ((v307x.1), (v307x.2), (v363x.1), (v363x.2.1), (v363x.2.2.1), (v363x.2.2.2), (zset 0 kn 13 (nI (nw + 1))), (zset 0 wy (10 + nw) (mspF sn 8 ns (v208x.2.2.2) (ns - 0 + 1) 0))))) else ((v307x.1), (v307x.2), (v208x.1), (v208x.2.1), (v208x.2.2.1), (v208x.2.2.2), kn, wy)) else (zlet (mWro (v208x.2.1) (v307x.1) (v307x.2) (4 : Int32)) (fun v372x => (if (v372x.1) = (0 : Int32) then (zlet (mTok tb sz (v208x.1) (v208x.2.2.2)) (fun v392x => ((v372x.1), (v372x.2), (v392x.1), (v392x.2.1), (v392x.2.2.1), (v392x.2.2.2), (zset 0 kn 13 (nI (nw + 1))), (zset 0 wy (10 + nw) (mspF sn 8 ns (v208x.2.2.2) (ns - 0 + 1) 0))))) else ((v372x.1), (v372x.2), (v208x.1), (v208x.2.1), (v208x.2.2.1), (v208x.2.2.2), kn, wy))))))))) else ((v204x.1), (v204x.2), (v208x.1), (v208x.2.1), (v208x.2.2.1), (v208x.2.2.2), kn, wy)))))))
set_option maxRecDepth 100000 in
set_option maxHeartbeats 4000000 in
theorem m_rdG {h : zH} {n0 n2 n14 n22 n23 n27 n28 n32 n33 n34 n35 n39 n52 : Int32} {sz at9 pl : Nat} {so va ft fp : Int32} {tb : List Int32} {a0 : Nat} {ns nw : Nat} {kn sn wy k0 w0 : List Int32} (hM : zat h 162 = some (.inr (.inr (.inr (10, mO n0 n2 n14 (nI sz) (nI at9) (nI pl) so va ft fp n22 n23 n27 n28 n32 n33 n34 n35 n39 n52))))) (hT : zat h 164 = some (.inl (0, 700, tb))) (hKn : zat h 166 = some (.inl (0, 14, kn))) (hSn : zat h 176 = some (.inl (0, 16, sn))) (hWy : zat h 180 = some (.inl (0, 20, wy))) (hsz : sz ≤ 700) (ha : a0 ≤ at9 ∧ at9 ≤ sz) (hp : pl ≤ at9) (hf0 : 0 ≤ ft.toInt) (hN : wNm kn ns nw) (hW : wW2 wy nw ns) (hz1 : wFh 7 k0 kn) (hz2 : wFh 10 w0 wy) : wq 178 0 [(0, .ref 162)] [] h 0 0 (fun rr9 => ∃ (h2 : zH), rr9 = (none, h2, 0, 0) ∧ wFr [162, 166, 180] h h2 ∧ h2.length = h.length ∧ zat h2 162 = some (.inr (.inr (.inr (10, mO n0 n2 n14 (nI sz) (nI ((mRdG tb sz at9 pl so va ft fp ns nw kn sn wy).2.2.1)) (nI ((mRdG tb sz at9 pl so va ft fp ns nw kn sn wy).2.2.2.1)) ((mRdG tb sz at9 pl so va ft fp ns nw kn sn wy).2.2.2.2.1) ((mRdG tb sz at9 pl so va ft fp ns nw kn sn wy).2.2.2.2.2.1) ((mRdG tb sz at9 pl so va ft fp ns nw kn sn wy).1) ((mRdG tb sz at9 pl so va ft fp ns nw kn sn wy).2.1) n22 n23 n27 n28 n32 n33 n34 n35 n39 n52)))) ∧ zat h2 166 = some (.inl (0, 14, ((mRdG tb sz at9 pl so va ft fp ns nw kn sn wy).2.2.2.2.2.2.1))) ∧ zat h2 180 = some (.inl (0, 20, ((mRdG tb sz at9 pl so va ft fp ns nw kn sn wy).2.2.2.2.2.2.2))) ∧ ((a0 ≤ ((mRdG tb sz at9 pl so va ft fp ns nw kn sn wy).2.2.1))) ∧ ((((mRdG tb sz at9 pl so va ft fp ns nw kn sn wy).2.2.1) ≤ sz)) ∧ ((((mRdG tb sz at9 pl so va ft fp ns nw kn sn wy).2.2.2.1) ≤ ((mRdG tb sz at9 pl so va ft fp ns nw kn sn wy).2.2.1))) ∧ ((0 ≤ (((mRdG tb sz at9 pl so va ft fp ns nw kn sn wy).1)).toInt)) ∧ ((((((mRdG tb sz at9 pl so va ft fp ns nw kn sn wy).1)).toInt ≠ 0 ∨ (((mRdG tb sz at9 pl so va ft fp ns nw kn sn wy).2.2.2.2.1)).toInt ≠ 4 ∨ a0 < ((mRdG tb sz at9 pl so va ft fp ns nw kn sn wy).2.2.1)))) ∧ (((((mRdG tb sz at9 pl so va ft fp ns nw kn sn wy).1)).toInt = 0 → wEG (((mRdG tb sz at9 pl so va ft fp ns nw kn sn wy).2.2.2.2.2.2.1)) (((mRdG tb sz at9 pl so va ft fp ns nw kn sn wy).2.2.2.2.2.2.2)) ns)) ∧ ((wFh 7 k0 (((mRdG tb sz at9 pl so va ft fp ns nw kn sn wy).2.2.2.2.2.2.1)))) ∧ ((wFh 10 w0 (((mRdG tb sz at9 pl so va ft fp ns nw kn sn wy).2.2.2.2.2.2.2))))) := by
  have zm1 : (-1 : Int32).toInt = -1 := rfl
  have z0 : (0 : Int32).toInt = 0 := rfl
  have z1 : (1 : Int32).toInt = 1 := rfl
  have z2 : (2 : Int32).toInt = 2 := rfl
  have z3 : (3 : Int32).toInt = 3 := rfl
  have z4 : (4 : Int32).toInt = 4 := rfl
  have z5 : (5 : Int32).toInt = 5 := rfl
  have z6 : (6 : Int32).toInt = 6 := rfl
  have z8 : (8 : Int32).toInt = 8 := rfl
  have z9 : (9 : Int32).toInt = 9 := rfl
  have z10 : (10 : Int32).toInt = 10 := rfl
  have z32 : (32 : Int32).toInt = 32 := rfl
  have z99 : (99 : Int32).toInt = 99 := rfl
  have z99999 : (99999 : Int32).toInt = 99999 := rfl
  have hn8 := hN.2.2.1
  have hn10 := hN.2.2.2.1
  have qnns := nI_toInt (n := ns) (by omega)
  have qnnw := nI_toInt (n := nw) (by omega)
  refine wq_gos (f := 1) (pc2 := 3) (ls2 := [(0, .ref 162)]) (st2 := [.int 6, .ref 162]) (h2 := h) (dc2 := 0) (ds2 := 0) 2 rfl ?_
  refine wq_inlv (y2 := 169) (as := [.int 6]) rfl rfl rfl hM rfl ?_
  show wq 169 0 [(0, .ref 162), (1, .int 6)] [] h 0 0 _
  refine wq_gos (f := 1) (pc2 := 1) (ls2 := [(0, .ref 162), (1, .int 6)]) (st2 := [.ref 162]) (h2 := h) (dc2 := 0) (ds2 := 0) 1 rfl ?_
  refine wq_getf rfl hM rfl rfl ?_
  refine wq_gos (f := 1) (pc2 := 8) (ls2 := [(0, .ref 162), (1, .int 6)]) (st2 := [.int 13, .ref 166]) (h2 := h) (dc2 := 0) (ds2 := 0) 3 rfl ?_
  have q1x : (13 : Int32).toInt = 13 := rfl
  refine wq_iald rfl hKn rfl rfl ?_
  refine wq_vi hN.2.1 ?_
  refine wq_ret rfl rfl ?_
  show wq 178 6 [(0, .ref 162)] [.int (nI nw)] h 0 0 _
  refine wq_gos (f := 1) (pc2 := 8) (ls2 := [(0, .ref 162)]) (st2 := [.int 10, .int (nI nw)]) (h2 := h) (dc2 := 0) (ds2 := 0) 1 rfl ?_
  try have q2x := nI_toInt (n := nw) (by omega)
  have q3x : (10 : Int32).toInt = 10 := rfl
  refine wq_ne2 rfl rfl (fun b4x => ?_) (fun b4x => ?_)
  · have q5x : (nI nw).toInt ≠ 10 := fun q => b4x (Int32.toInt_inj.mp q)
    refine wq_gos (f := 1) (pc2 := 17) (ls2 := [(0, .ref 162)]) (st2 := [.ref 162]) (h2 := h) (dc2 := 0) (ds2 := 0) 1 rfl ?_
    refine wq_inlv (y2 := 164) (as := []) rfl rfl rfl hM rfl (wq_mono (m_go hM hT (by first | assumption | omega | decide | solve_by_elim) ⟨Nat.le_refl _, by omega⟩ (by first | assumption | omega | decide | solve_by_elim)) ?_)
    rintro _ ⟨h86x, rfl, f86x, l86x, c06x, p06x, p16x, p26x, p36x⟩
    show wq 178 20 [(0, .ref 162)] [] h86x 0 0 _
    obtain ⟨v7x, hv8x⟩ : ∃ x, x = (mGo tb sz at9 pl so va ft) := ⟨_, rfl⟩
    try rw [← hv8x] at c06x
    try rw [← hv8x] at p06x
    try rw [← hv8x] at p16x
    try rw [← hv8x] at p26x
    try rw [← hv8x] at p36x
    try rw [← hv8x]
    refine wq_gos (f := 1) (pc2 := 21) (ls2 := [(0, .ref 162)]) (st2 := [.ref 162]) (h2 := h86x) (dc2 := 0) (ds2 := 0) 1 rfl ?_
    refine wq_getf rfl c06x rfl rfl ?_
    refine wq_eq0 rfl rfl (fun b9x => ?_) (fun b9x => ?_)
    · have q10x : ft.toInt = 0 := congrArg Int32.toInt b9x
      refine wq_gos (f := 1) (pc2 := 29) (ls2 := [(0, .ref 162)]) (st2 := [.ref 162]) (h2 := h86x) (dc2 := 0) (ds2 := 0) 1 rfl ?_
      refine wq_getf rfl c06x rfl rfl ?_
      refine wq_gos (f := 1) (pc2 := 33) (ls2 := [(0, .ref 162)]) (st2 := [.int 1, .int (v7x.2.2.1)]) (h2 := h86x) (dc2 := 0) (ds2 := 0) 1 rfl ?_
      have q11x : (1 : Int32).toInt = 1 := rfl
      refine wq_eq2 rfl rfl (fun b12x => ?_) (fun b12x => ?_)
      · have q13x : (v7x.2.2.1).toInt = 1 := congrArg Int32.toInt b12x
        refine wq_gos (f := 1) (pc2 := 42) (ls2 := [(0, .ref 162)]) (st2 := [.ref 162]) (h2 := h86x) (dc2 := 0) (ds2 := 0) 1 rfl ?_
        refine wq_getf rfl c06x rfl rfl ?_
        refine wq_ne0 rfl rfl (fun b14x => ?_) (fun b14x => ?_)
        · have q15x : ft.toInt ≠ 0 := fun q => b14x (Int32.toInt_inj.mp q)
          refine wq_gos (f := 1) (pc2 := 79) (ls2 := [(1, .int 0), (0, .ref 162)]) (st2 := [.ref 162]) (h2 := h86x) (dc2 := 0) (ds2 := 0) 6 rfl ?_
          refine wq_getf rfl c06x rfl rfl ?_
          refine wq_eq0 rfl rfl (fun b16x => ?_) (fun b16x => ?_)
          · have q17x : ft.toInt = 0 := congrArg Int32.toInt b16x
            refine wq_gos (f := 1) (pc2 := 87) (ls2 := [(1, .int 0), (0, .ref 162)]) (st2 := [.ref 162]) (h2 := h86x) (dc2 := 0) (ds2 := 0) 1 rfl ?_
            refine wq_getf rfl c06x rfl rfl ?_
            refine wq_gos (f := 1) (pc2 := 95) (ls2 := [(1, .int 0), (0, .ref 162)]) (st2 := [.int 6, .ref 162, .int 10, .ref 180]) (h2 := h86x) (dc2 := 0) (ds2 := 0) 3 rfl ?_
            refine wq_inlv (y2 := 169) (as := [.int 6]) rfl rfl rfl c06x rfl ?_
            show wq 169 0 [(0, .ref 162), (1, .int 6)] [] h86x 0 0 _
            refine wq_gos (f := 1) (pc2 := 1) (ls2 := [(0, .ref 162), (1, .int 6)]) (st2 := [.ref 162]) (h2 := h86x) (dc2 := 0) (ds2 := 0) 1 rfl ?_
            refine wq_getf rfl c06x rfl rfl ?_
            refine wq_gos (f := 1) (pc2 := 8) (ls2 := [(0, .ref 162), (1, .int 6)]) (st2 := [.int 13, .ref 166]) (h2 := h86x) (dc2 := 0) (ds2 := 0) 3 rfl ?_
            have e18x := (f86x.2 _ _ (wnc (by decide) wn0) hKn)
            refine wq_iald rfl e18x rfl rfl ?_
            refine wq_vi hN.2.1 ?_
            refine wq_ret rfl rfl ?_
            show wq 178 98 [(1, .int 0), (0, .ref 162)] [.int (nI nw), .int 10, .ref 180] h86x 0 0 _
            refine wq_gos (f := 1) (pc2 := 99) (ls2 := [(1, .int 0), (0, .ref 162)]) (st2 := [.int ((10 : Int32) + (nI nw)), .ref 180]) (h2 := h86x) (dc2 := 0) (ds2 := 0) 1 rfl ?_
            refine wq_vi (show (10 : Int32) + (nI nw) = nI (10 + nw) from nI_add 10 nw) ?_
            refine wq_gos (f := 1) (pc2 := 100) (ls2 := [(1, .int 0), (0, .ref 162)]) (st2 := [.int 0, .int (nI (10 + nw)), .ref 180]) (h2 := h86x) (dc2 := 0) (ds2 := 0) 1 rfl ?_
            have e19x := (f86x.2 _ _ (wnc (by decide) wn0) hWy)
            try have q20x := nI_toInt (n := (10 + nw)) (by omega)
            refine wq_iastn rfl e19x (by first | omega | exact zin_t (by omega) (by omega)) (by decide) rfl ?_
            intro hh21x e22x ff23x lh24x
            have e22x : zat hh21x 180 = some (.inl (0, 20, (zset 0 wy (10 + nw) (0 : Int32)))) := e22x
            refine wq_gos (f := 1) (pc2 := 107) (ls2 := [(1, .int 0), (0, .ref 162)]) (st2 := [.int 6, .ref 162, .int 6, .ref 162]) (h2 := hh21x) (dc2 := 0) (ds2 := 0) 4 rfl ?_
            have e25x := (ff23x.2 _ _ (wnc (by decide) wn0) c06x)
            refine wq_inlv (y2 := 169) (as := [.int 6]) rfl rfl rfl e25x rfl ?_
            show wq 169 0 [(0, .ref 162), (1, .int 6)] [] hh21x 0 0 _
            refine wq_gos (f := 1) (pc2 := 1) (ls2 := [(0, .ref 162), (1, .int 6)]) (st2 := [.ref 162]) (h2 := hh21x) (dc2 := 0) (ds2 := 0) 1 rfl ?_
            refine wq_getf rfl e25x rfl rfl ?_
            refine wq_gos (f := 1) (pc2 := 8) (ls2 := [(0, .ref 162), (1, .int 6)]) (st2 := [.int 13, .ref 166]) (h2 := hh21x) (dc2 := 0) (ds2 := 0) 3 rfl ?_
            have e26x := (ff23x.2 _ _ (wnc (by decide) wn0) e18x)
            refine wq_iald rfl e26x rfl rfl ?_
            refine wq_vi hN.2.1 ?_
            refine wq_ret rfl rfl ?_
            show wq 178 110 [(1, .int 0), (0, .ref 162)] [.int (nI nw), .int 6, .ref 162] hh21x 0 0 _
            refine wq_gos (f := 1) (pc2 := 112) (ls2 := [(1, .int 0), (0, .ref 162)]) (st2 := [.int ((nI nw) + (1 : Int32)), .int 6, .ref 162]) (h2 := hh21x) (dc2 := 0) (ds2 := 0) 2 rfl ?_
            refine wq_vi (show (nI nw) + (1 : Int32) = nI (nw + 1) from nI_add nw 1) ?_
            refine wq_inlv (y2 := 170) (as := [.int 6, .int (nI (nw + 1))]) rfl rfl rfl e25x rfl ?_
            show wq 170 0 [(0, .ref 162), (1, .int 6), (2, .int (nI (nw + 1)))] [] hh21x 0 0 _
            refine wq_gos (f := 1) (pc2 := 1) (ls2 := [(0, .ref 162), (1, .int 6), (2, .int (nI (nw + 1)))]) (st2 := [.ref 162]) (h2 := hh21x) (dc2 := 0) (ds2 := 0) 1 rfl ?_
            refine wq_getf rfl e25x rfl rfl ?_
            refine wq_gos (f := 1) (pc2 := 9) (ls2 := [(0, .ref 162), (1, .int 6), (2, .int (nI (nw + 1)))]) (st2 := [.int (nI (nw + 1)), .int 13, .ref 166]) (h2 := hh21x) (dc2 := 0) (ds2 := 0) 4 rfl ?_
            refine wq_iast rfl e26x rfl rfl ?_
            intro hh27x e28x ff29x lh30x
            have e28x : zat hh27x 166 = some (.inl (0, 14, (zset 0 kn 13 (nI (nw + 1))))) := e28x
            refine wq_ret rfl rfl ?_
            show wq 178 115 [(1, .int 0), (0, .ref 162)] [] hh27x 0 0 _
            refine wq_gos (f := 1) (pc2 := 116) (ls2 := [(1, .int 0), (0, .ref 162)]) (st2 := [.ref 162]) (h2 := hh27x) (dc2 := 0) (ds2 := 0) 1 rfl ?_
            have e31x := (ff29x.2 _ _ (wnc (by decide) wn0) e25x)
            have e32x := (ff29x.2 _ _ (wnc (by decide) wn0) (ff23x.2 _ _ (wnc (by decide) wn0) (f86x.2 _ _ (wnc (by decide) wn0) hT)))
            refine wq_inlv (y2 := 159) (as := []) rfl rfl rfl e31x rfl (wq_mono (m_tok e31x e32x (by first | assumption | omega | decide | solve_by_elim) ⟨Nat.le_refl _, by omega⟩) ?_)
            rintro _ ⟨h833x, rfl, f833x, l833x, c033x, p033x, p133x, p233x, p333x⟩
            show wq 178 119 [(1, .int 0), (0, .ref 162)] [] h833x 0 0 _
            obtain ⟨v34x, hv35x⟩ : ∃ x, x = (mTok tb sz (v7x.1) (v7x.2.2.2)) := ⟨_, rfl⟩
            try rw [← hv35x] at c033x
            try rw [← hv35x] at p033x
            try rw [← hv35x] at p133x
            try rw [← hv35x] at p233x
            try rw [← hv35x] at p333x
            try rw [← hv35x]
            have e36x := (f833x.2 _ _ (wnc (by decide) wn0) e28x)
            have e37x := (f833x.2 _ _ (wnc (by decide) wn0) (ff29x.2 _ _ (wnc (by decide) wn0) e22x))
            have hx : (mRdG tb sz at9 pl so va ft fp ns nw kn sn wy) = (ft, fp, (v34x.1), (v34x.2.1), (v34x.2.2.1), (v34x.2.2.2), (zset 0 kn 13 (nI (nw + 1))), (zset 0 wy (10 + nw) (0 : Int32))) := by unfold mRdG; rw [if_pos b4x, zlet_eq hv8x, if_pos b9x, if_pos b12x, if_pos b14x, if_pos b16x, zlet_eq hv35x]
            rw [hx]
            exact wq_ret rfl rfl ⟨h833x, rfl, (wFr_tr (wFr_sub f86x (by simp)) (wFr_tr (wFr_sub ff23x (by simp)) (wFr_tr (wFr_sub ff29x (by simp)) (wFr_sub f833x (by simp))))), by omega, c033x, e36x, e37x, (by (try dsimp only); first | assumption | omega), (by (try dsimp only); first | assumption | omega), (by (try dsimp only); first | assumption | omega), (by (try dsimp only); first | assumption | omega), (by (try dsimp only); first | assumption | omega), (by (try dsimp only); intro q9; first | omega | exact ⟨nw + 1, wNm_13 hN (by omega), wW2_s hW (by omega)⟩), (by (try dsimp only); first | assumption | exact wFh_set hz1 (by decide) | exact wFh_set hz2 (by omega)), (by (try dsimp only); first | assumption | exact wFh_set hz1 (by decide) | exact wFh_set hz2 (by omega))⟩
          · have q38x : ft.toInt ≠ 0 := fun q => b16x (Int32.toInt_inj.mp q)
            have e39x := (f86x.2 _ _ (wnc (by decide) wn0) hKn)
            have e40x := (f86x.2 _ _ (wnc (by decide) wn0) hWy)
            have hx : (mRdG tb sz at9 pl so va ft fp ns nw kn sn wy) = (ft, fp, (v7x.1), (v7x.2.1), (v7x.2.2.1), (v7x.2.2.2), kn, wy) := by unfold mRdG; rw [if_pos b4x, zlet_eq hv8x, if_pos b9x, if_pos b12x, if_pos b14x, if_neg b16x]
            rw [hx]
            exact wq_ret rfl rfl ⟨h86x, rfl, (wFr_sub f86x (by simp)), by omega, c06x, e39x, e40x, (by (try dsimp only); first | assumption | omega), (by (try dsimp only); first | assumption | omega), (by (try dsimp only); first | assumption | omega), (by (try dsimp only); first | assumption | omega), (by (try dsimp only); first | assumption | omega), (by (try dsimp only); intro q9; first | omega | exact ⟨nw + 1, wNm_13 hN (by omega), wW2_s hW (by omega)⟩), (by (try dsimp only); first | assumption | exact wFh_set hz1 (by decide) | exact wFh_set hz2 (by omega)), (by (try dsimp only); first | assumption | exact wFh_set hz1 (by decide) | exact wFh_set hz2 (by omega))⟩
        · have q41x : ft.toInt = 0 := congrArg Int32.toInt b14x
          refine wq_gos (f := 1) (pc2 := 53) (ls2 := [(0, .ref 162)]) (st2 := [.int 5, .ref 162, .int 8, .ref 162]) (h2 := h86x) (dc2 := 0) (ds2 := 0) 4 rfl ?_
          refine wq_inlv (y2 := 169) (as := [.int 5]) rfl rfl rfl c06x rfl ?_
          show wq 169 0 [(0, .ref 162), (1, .int 5)] [] h86x 0 0 _
          refine wq_gos (f := 1) (pc2 := 1) (ls2 := [(0, .ref 162), (1, .int 5)]) (st2 := [.ref 162]) (h2 := h86x) (dc2 := 0) (ds2 := 0) 1 rfl ?_
          refine wq_getf rfl c06x rfl rfl ?_
          refine wq_gos (f := 1) (pc2 := 8) (ls2 := [(0, .ref 162), (1, .int 5)]) (st2 := [.int 12, .ref 166]) (h2 := h86x) (dc2 := 0) (ds2 := 0) 3 rfl ?_
          have e42x := (f86x.2 _ _ (wnc (by decide) wn0) hKn)
          have q43x : (12 : Int32).toInt = 12 := rfl
          refine wq_iald rfl e42x rfl rfl ?_
          refine wq_vi hN.1 ?_
          refine wq_ret rfl rfl ?_
          show wq 178 56 [(0, .ref 162)] [.int (nI ns), .int 8, .ref 162] h86x 0 0 _
          refine wq_gos (f := 1) (pc2 := 57) (ls2 := [(0, .ref 162)]) (st2 := [.ref 162, .int (nI ns), .int 8, .ref 162]) (h2 := h86x) (dc2 := 0) (ds2 := 0) 1 rfl ?_
          refine wq_getf rfl c06x rfl rfl ?_
          have e44x := (f86x.2 _ _ (wnc (by decide) wn0) hSn)
          have q45x : (8 : Int32).toInt = 8 := rfl
          try have q46x := nI_toInt (n := ns) (by omega)
          refine wq_inlv (y2 := 176) (as := [.int 8, .int (nI ns), .int (v7x.2.2.2)]) rfl rfl rfl c06x rfl (wq_mono (m_spA (f := 8) c06x e44x (by first | assumption | omega | decide | solve_by_elim)) ?_)
          rintro _ ⟨rfl, p047x⟩
          show wq 178 63 [(0, .ref 162)] [.int (mspF sn 8 ns (v7x.2.2.2) (ns - 0 + 1) 0)] h86x 0 0 _
          refine wq_gos (f := 1) (pc2 := 70) (ls2 := [(1, .int (mspF sn 8 ns (v7x.2.2.2) (ns - 0 + 1) 0)), (0, .ref 162)]) (st2 := [.int (-1), .int (mspF sn 8 ns (v7x.2.2.2) (ns - 0 + 1) 0)]) (h2 := h86x) (dc2 := 0) (ds2 := 0) 4 rfl ?_
          have q48x : (-1 : Int32).toInt = -1 := rfl
          refine wq_ne2 rfl rfl (fun b49x => ?_) (fun b49x => ?_)
          · have q50x : (mspF sn 8 ns (v7x.2.2.2) (ns - 0 + 1) 0).toInt ≠ -1 := fun q => b49x (Int32.toInt_inj.mp q)
            refine wq_gos (f := 1) (pc2 := 79) (ls2 := [(1, .int (mspF sn 8 ns (v7x.2.2.2) (ns - 0 + 1) 0)), (0, .ref 162)]) (st2 := [.ref 162]) (h2 := h86x) (dc2 := 0) (ds2 := 0) 1 rfl ?_
            refine wq_getf rfl c06x rfl rfl ?_
            refine wq_eq0 rfl rfl (fun b51x => ?_) (fun b51x => ?_)
            · have q52x : ft.toInt = 0 := congrArg Int32.toInt b51x
              refine wq_gos (f := 1) (pc2 := 87) (ls2 := [(1, .int (mspF sn 8 ns (v7x.2.2.2) (ns - 0 + 1) 0)), (0, .ref 162)]) (st2 := [.ref 162]) (h2 := h86x) (dc2 := 0) (ds2 := 0) 1 rfl ?_
              refine wq_getf rfl c06x rfl rfl ?_
              refine wq_gos (f := 1) (pc2 := 95) (ls2 := [(1, .int (mspF sn 8 ns (v7x.2.2.2) (ns - 0 + 1) 0)), (0, .ref 162)]) (st2 := [.int 6, .ref 162, .int 10, .ref 180]) (h2 := h86x) (dc2 := 0) (ds2 := 0) 3 rfl ?_
              refine wq_inlv (y2 := 169) (as := [.int 6]) rfl rfl rfl c06x rfl ?_
              show wq 169 0 [(0, .ref 162), (1, .int 6)] [] h86x 0 0 _
              refine wq_gos (f := 1) (pc2 := 1) (ls2 := [(0, .ref 162), (1, .int 6)]) (st2 := [.ref 162]) (h2 := h86x) (dc2 := 0) (ds2 := 0) 1 rfl ?_
              refine wq_getf rfl c06x rfl rfl ?_
              refine wq_gos (f := 1) (pc2 := 8) (ls2 := [(0, .ref 162), (1, .int 6)]) (st2 := [.int 13, .ref 166]) (h2 := h86x) (dc2 := 0) (ds2 := 0) 3 rfl ?_
              refine wq_iald rfl e42x rfl rfl ?_
              refine wq_vi hN.2.1 ?_
              refine wq_ret rfl rfl ?_
              show wq 178 98 [(1, .int (mspF sn 8 ns (v7x.2.2.2) (ns - 0 + 1) 0)), (0, .ref 162)] [.int (nI nw), .int 10, .ref 180] h86x 0 0 _
              refine wq_gos (f := 1) (pc2 := 99) (ls2 := [(1, .int (mspF sn 8 ns (v7x.2.2.2) (ns - 0 + 1) 0)), (0, .ref 162)]) (st2 := [.int ((10 : Int32) + (nI nw)), .ref 180]) (h2 := h86x) (dc2 := 0) (ds2 := 0) 1 rfl ?_
              refine wq_vi (show (10 : Int32) + (nI nw) = nI (10 + nw) from nI_add 10 nw) ?_
              refine wq_gos (f := 1) (pc2 := 100) (ls2 := [(1, .int (mspF sn 8 ns (v7x.2.2.2) (ns - 0 + 1) 0)), (0, .ref 162)]) (st2 := [.int (mspF sn 8 ns (v7x.2.2.2) (ns - 0 + 1) 0), .int (nI (10 + nw)), .ref 180]) (h2 := h86x) (dc2 := 0) (ds2 := 0) 1 rfl ?_
              have e53x := (f86x.2 _ _ (wnc (by decide) wn0) hWy)
              try have q54x := nI_toInt (n := (10 + nw)) (by omega)
              refine wq_iastn rfl e53x (by first | omega | exact zin_t (by omega) (by omega)) (by decide) rfl ?_
              intro hh55x e56x ff57x lh58x
              have e56x : zat hh55x 180 = some (.inl (0, 20, (zset 0 wy (10 + nw) (mspF sn 8 ns (v7x.2.2.2) (ns - 0 + 1) 0)))) := e56x
              refine wq_gos (f := 1) (pc2 := 107) (ls2 := [(1, .int (mspF sn 8 ns (v7x.2.2.2) (ns - 0 + 1) 0)), (0, .ref 162)]) (st2 := [.int 6, .ref 162, .int 6, .ref 162]) (h2 := hh55x) (dc2 := 0) (ds2 := 0) 4 rfl ?_
              have e59x := (ff57x.2 _ _ (wnc (by decide) wn0) c06x)
              refine wq_inlv (y2 := 169) (as := [.int 6]) rfl rfl rfl e59x rfl ?_
              show wq 169 0 [(0, .ref 162), (1, .int 6)] [] hh55x 0 0 _
              refine wq_gos (f := 1) (pc2 := 1) (ls2 := [(0, .ref 162), (1, .int 6)]) (st2 := [.ref 162]) (h2 := hh55x) (dc2 := 0) (ds2 := 0) 1 rfl ?_
              refine wq_getf rfl e59x rfl rfl ?_
              refine wq_gos (f := 1) (pc2 := 8) (ls2 := [(0, .ref 162), (1, .int 6)]) (st2 := [.int 13, .ref 166]) (h2 := hh55x) (dc2 := 0) (ds2 := 0) 3 rfl ?_
              have e60x := (ff57x.2 _ _ (wnc (by decide) wn0) e42x)
              refine wq_iald rfl e60x rfl rfl ?_
              refine wq_vi hN.2.1 ?_
              refine wq_ret rfl rfl ?_
              show wq 178 110 [(1, .int (mspF sn 8 ns (v7x.2.2.2) (ns - 0 + 1) 0)), (0, .ref 162)] [.int (nI nw), .int 6, .ref 162] hh55x 0 0 _
              refine wq_gos (f := 1) (pc2 := 112) (ls2 := [(1, .int (mspF sn 8 ns (v7x.2.2.2) (ns - 0 + 1) 0)), (0, .ref 162)]) (st2 := [.int ((nI nw) + (1 : Int32)), .int 6, .ref 162]) (h2 := hh55x) (dc2 := 0) (ds2 := 0) 2 rfl ?_
              refine wq_vi (show (nI nw) + (1 : Int32) = nI (nw + 1) from nI_add nw 1) ?_
              refine wq_inlv (y2 := 170) (as := [.int 6, .int (nI (nw + 1))]) rfl rfl rfl e59x rfl ?_
              show wq 170 0 [(0, .ref 162), (1, .int 6), (2, .int (nI (nw + 1)))] [] hh55x 0 0 _
              refine wq_gos (f := 1) (pc2 := 1) (ls2 := [(0, .ref 162), (1, .int 6), (2, .int (nI (nw + 1)))]) (st2 := [.ref 162]) (h2 := hh55x) (dc2 := 0) (ds2 := 0) 1 rfl ?_
              refine wq_getf rfl e59x rfl rfl ?_
              refine wq_gos (f := 1) (pc2 := 9) (ls2 := [(0, .ref 162), (1, .int 6), (2, .int (nI (nw + 1)))]) (st2 := [.int (nI (nw + 1)), .int 13, .ref 166]) (h2 := hh55x) (dc2 := 0) (ds2 := 0) 4 rfl ?_
              refine wq_iast rfl e60x rfl rfl ?_
              intro hh61x e62x ff63x lh64x
              have e62x : zat hh61x 166 = some (.inl (0, 14, (zset 0 kn 13 (nI (nw + 1))))) := e62x
              refine wq_ret rfl rfl ?_
              show wq 178 115 [(1, .int (mspF sn 8 ns (v7x.2.2.2) (ns - 0 + 1) 0)), (0, .ref 162)] [] hh61x 0 0 _
              refine wq_gos (f := 1) (pc2 := 116) (ls2 := [(1, .int (mspF sn 8 ns (v7x.2.2.2) (ns - 0 + 1) 0)), (0, .ref 162)]) (st2 := [.ref 162]) (h2 := hh61x) (dc2 := 0) (ds2 := 0) 1 rfl ?_
              have e65x := (ff63x.2 _ _ (wnc (by decide) wn0) e59x)
              have e66x := (ff63x.2 _ _ (wnc (by decide) wn0) (ff57x.2 _ _ (wnc (by decide) wn0) (f86x.2 _ _ (wnc (by decide) wn0) hT)))
              refine wq_inlv (y2 := 159) (as := []) rfl rfl rfl e65x rfl (wq_mono (m_tok e65x e66x (by first | assumption | omega | decide | solve_by_elim) ⟨Nat.le_refl _, by omega⟩) ?_)
              rintro _ ⟨h867x, rfl, f867x, l867x, c067x, p067x, p167x, p267x, p367x⟩
              show wq 178 119 [(1, .int (mspF sn 8 ns (v7x.2.2.2) (ns - 0 + 1) 0)), (0, .ref 162)] [] h867x 0 0 _
              obtain ⟨v68x, hv69x⟩ : ∃ x, x = (mTok tb sz (v7x.1) (v7x.2.2.2)) := ⟨_, rfl⟩
              try rw [← hv69x] at c067x
              try rw [← hv69x] at p067x
              try rw [← hv69x] at p167x
              try rw [← hv69x] at p267x
              try rw [← hv69x] at p367x
              try rw [← hv69x]
              have e70x := (f867x.2 _ _ (wnc (by decide) wn0) e62x)
              have e71x := (f867x.2 _ _ (wnc (by decide) wn0) (ff63x.2 _ _ (wnc (by decide) wn0) e56x))
              have hx : (mRdG tb sz at9 pl so va ft fp ns nw kn sn wy) = (ft, fp, (v68x.1), (v68x.2.1), (v68x.2.2.1), (v68x.2.2.2), (zset 0 kn 13 (nI (nw + 1))), (zset 0 wy (10 + nw) (mspF sn 8 ns (v7x.2.2.2) (ns - 0 + 1) 0))) := by unfold mRdG; rw [if_pos b4x, zlet_eq hv8x, if_pos b9x, if_pos b12x, if_neg (fun q => q b14x), if_pos b49x, if_pos b51x, zlet_eq hv69x]
              rw [hx]
              exact wq_ret rfl rfl ⟨h867x, rfl, (wFr_tr (wFr_sub f86x (by simp)) (wFr_tr (wFr_sub ff57x (by simp)) (wFr_tr (wFr_sub ff63x (by simp)) (wFr_sub f867x (by simp))))), by omega, c067x, e70x, e71x, (by (try dsimp only); first | assumption | omega), (by (try dsimp only); first | assumption | omega), (by (try dsimp only); first | assumption | omega), (by (try dsimp only); first | assumption | omega), (by (try dsimp only); first | assumption | omega), (by (try dsimp only); intro q9; first | omega | exact ⟨nw + 1, wNm_13 hN (by omega), wW2_s hW (by omega)⟩), (by (try dsimp only); first | assumption | exact wFh_set hz1 (by decide) | exact wFh_set hz2 (by omega)), (by (try dsimp only); first | assumption | exact wFh_set hz1 (by decide) | exact wFh_set hz2 (by omega))⟩
            · have q72x : ft.toInt ≠ 0 := fun q => b51x (Int32.toInt_inj.mp q)
              have e73x := (f86x.2 _ _ (wnc (by decide) wn0) hWy)
              have hx : (mRdG tb sz at9 pl so va ft fp ns nw kn sn wy) = (ft, fp, (v7x.1), (v7x.2.1), (v7x.2.2.1), (v7x.2.2.2), kn, wy) := by unfold mRdG; rw [if_pos b4x, zlet_eq hv8x, if_pos b9x, if_pos b12x, if_neg (fun q => q b14x), if_pos b49x, if_neg b51x]
              rw [hx]
              exact wq_ret rfl rfl ⟨h86x, rfl, (wFr_sub f86x (by simp)), by omega, c06x, e42x, e73x, (by (try dsimp only); first | assumption | omega), (by (try dsimp only); first | assumption | omega), (by (try dsimp only); first | assumption | omega), (by (try dsimp only); first | assumption | omega), (by (try dsimp only); first | assumption | omega), (by (try dsimp only); intro q9; first | omega | exact ⟨nw + 1, wNm_13 hN (by omega), wW2_s hW (by omega)⟩), (by (try dsimp only); first | assumption | exact wFh_set hz1 (by decide) | exact wFh_set hz2 (by omega)), (by (try dsimp only); first | assumption | exact wFh_set hz1 (by decide) | exact wFh_set hz2 (by omega))⟩
          · have q74x : (mspF sn 8 ns (v7x.2.2.2) (ns - 0 + 1) 0).toInt = -1 := congrArg Int32.toInt b49x
            refine wq_gos (f := 1) (pc2 := 75) (ls2 := [(1, .int (mspF sn 8 ns (v7x.2.2.2) (ns - 0 + 1) 0)), (0, .ref 162)]) (st2 := [.int 4, .ref 162]) (h2 := h86x) (dc2 := 0) (ds2 := 0) 2 rfl ?_
            have q75x : (4 : Int32).toInt = 4 := rfl
            refine wq_inlv (y2 := 163) (as := [.int 4]) rfl rfl rfl c06x rfl (wq_mono (m_wro c06x (by first | assumption | omega | decide | solve_by_elim) (by first | assumption | omega | decide | solve_by_elim)) ?_)
            rintro _ ⟨h876x, rfl, f876x, l876x, c076x, p076x⟩
            show wq 178 78 [(1, .int (mspF sn 8 ns (v7x.2.2.2) (ns - 0 + 1) 0)), (0, .ref 162)] [] h876x 0 0 _
            obtain ⟨v77x, hv78x⟩ : ∃ x, x = (mWro (v7x.2.1) ft fp (4 : Int32)) := ⟨_, rfl⟩
            try rw [← hv78x] at c076x
            try rw [← hv78x] at p076x
            try rw [← hv78x]
            refine wq_gos (f := 1) (pc2 := 79) (ls2 := [(1, .int (mspF sn 8 ns (v7x.2.2.2) (ns - 0 + 1) 0)), (0, .ref 162)]) (st2 := [.ref 162]) (h2 := h876x) (dc2 := 0) (ds2 := 0) 1 rfl ?_
            refine wq_getf rfl c076x rfl rfl ?_
            refine wq_eq0 rfl rfl (fun b79x => ?_) (fun b79x => ?_)
            · have q80x : (v77x.1).toInt = 0 := congrArg Int32.toInt b79x
              refine wq_gos (f := 1) (pc2 := 87) (ls2 := [(1, .int (mspF sn 8 ns (v7x.2.2.2) (ns - 0 + 1) 0)), (0, .ref 162)]) (st2 := [.ref 162]) (h2 := h876x) (dc2 := 0) (ds2 := 0) 1 rfl ?_
              refine wq_getf rfl c076x rfl rfl ?_
              refine wq_gos (f := 1) (pc2 := 95) (ls2 := [(1, .int (mspF sn 8 ns (v7x.2.2.2) (ns - 0 + 1) 0)), (0, .ref 162)]) (st2 := [.int 6, .ref 162, .int 10, .ref 180]) (h2 := h876x) (dc2 := 0) (ds2 := 0) 3 rfl ?_
              refine wq_inlv (y2 := 169) (as := [.int 6]) rfl rfl rfl c076x rfl ?_
              show wq 169 0 [(0, .ref 162), (1, .int 6)] [] h876x 0 0 _
              refine wq_gos (f := 1) (pc2 := 1) (ls2 := [(0, .ref 162), (1, .int 6)]) (st2 := [.ref 162]) (h2 := h876x) (dc2 := 0) (ds2 := 0) 1 rfl ?_
              refine wq_getf rfl c076x rfl rfl ?_
              refine wq_gos (f := 1) (pc2 := 8) (ls2 := [(0, .ref 162), (1, .int 6)]) (st2 := [.int 13, .ref 166]) (h2 := h876x) (dc2 := 0) (ds2 := 0) 3 rfl ?_
              have e81x := (f876x.2 _ _ (wnc (by decide) wn0) e42x)
              refine wq_iald rfl e81x rfl rfl ?_
              refine wq_vi hN.2.1 ?_
              refine wq_ret rfl rfl ?_
              show wq 178 98 [(1, .int (mspF sn 8 ns (v7x.2.2.2) (ns - 0 + 1) 0)), (0, .ref 162)] [.int (nI nw), .int 10, .ref 180] h876x 0 0 _
              refine wq_gos (f := 1) (pc2 := 99) (ls2 := [(1, .int (mspF sn 8 ns (v7x.2.2.2) (ns - 0 + 1) 0)), (0, .ref 162)]) (st2 := [.int ((10 : Int32) + (nI nw)), .ref 180]) (h2 := h876x) (dc2 := 0) (ds2 := 0) 1 rfl ?_
              refine wq_vi (show (10 : Int32) + (nI nw) = nI (10 + nw) from nI_add 10 nw) ?_
              refine wq_gos (f := 1) (pc2 := 100) (ls2 := [(1, .int (mspF sn 8 ns (v7x.2.2.2) (ns - 0 + 1) 0)), (0, .ref 162)]) (st2 := [.int (mspF sn 8 ns (v7x.2.2.2) (ns - 0 + 1) 0), .int (nI (10 + nw)), .ref 180]) (h2 := h876x) (dc2 := 0) (ds2 := 0) 1 rfl ?_
              have e82x := (f876x.2 _ _ (wnc (by decide) wn0) (f86x.2 _ _ (wnc (by decide) wn0) hWy))
              try have q83x := nI_toInt (n := (10 + nw)) (by omega)
              refine wq_iastn rfl e82x (by first | omega | exact zin_t (by omega) (by omega)) (by decide) rfl ?_
              intro hh84x e85x ff86x lh87x
              have e85x : zat hh84x 180 = some (.inl (0, 20, (zset 0 wy (10 + nw) (mspF sn 8 ns (v7x.2.2.2) (ns - 0 + 1) 0)))) := e85x
              refine wq_gos (f := 1) (pc2 := 107) (ls2 := [(1, .int (mspF sn 8 ns (v7x.2.2.2) (ns - 0 + 1) 0)), (0, .ref 162)]) (st2 := [.int 6, .ref 162, .int 6, .ref 162]) (h2 := hh84x) (dc2 := 0) (ds2 := 0) 4 rfl ?_
              have e88x := (ff86x.2 _ _ (wnc (by decide) wn0) c076x)
              refine wq_inlv (y2 := 169) (as := [.int 6]) rfl rfl rfl e88x rfl ?_
              show wq 169 0 [(0, .ref 162), (1, .int 6)] [] hh84x 0 0 _
              refine wq_gos (f := 1) (pc2 := 1) (ls2 := [(0, .ref 162), (1, .int 6)]) (st2 := [.ref 162]) (h2 := hh84x) (dc2 := 0) (ds2 := 0) 1 rfl ?_
              refine wq_getf rfl e88x rfl rfl ?_
              refine wq_gos (f := 1) (pc2 := 8) (ls2 := [(0, .ref 162), (1, .int 6)]) (st2 := [.int 13, .ref 166]) (h2 := hh84x) (dc2 := 0) (ds2 := 0) 3 rfl ?_
              have e89x := (ff86x.2 _ _ (wnc (by decide) wn0) e81x)
              refine wq_iald rfl e89x rfl rfl ?_
              refine wq_vi hN.2.1 ?_
              refine wq_ret rfl rfl ?_
              show wq 178 110 [(1, .int (mspF sn 8 ns (v7x.2.2.2) (ns - 0 + 1) 0)), (0, .ref 162)] [.int (nI nw), .int 6, .ref 162] hh84x 0 0 _
              refine wq_gos (f := 1) (pc2 := 112) (ls2 := [(1, .int (mspF sn 8 ns (v7x.2.2.2) (ns - 0 + 1) 0)), (0, .ref 162)]) (st2 := [.int ((nI nw) + (1 : Int32)), .int 6, .ref 162]) (h2 := hh84x) (dc2 := 0) (ds2 := 0) 2 rfl ?_
              refine wq_vi (show (nI nw) + (1 : Int32) = nI (nw + 1) from nI_add nw 1) ?_
              refine wq_inlv (y2 := 170) (as := [.int 6, .int (nI (nw + 1))]) rfl rfl rfl e88x rfl ?_
              show wq 170 0 [(0, .ref 162), (1, .int 6), (2, .int (nI (nw + 1)))] [] hh84x 0 0 _
              refine wq_gos (f := 1) (pc2 := 1) (ls2 := [(0, .ref 162), (1, .int 6), (2, .int (nI (nw + 1)))]) (st2 := [.ref 162]) (h2 := hh84x) (dc2 := 0) (ds2 := 0) 1 rfl ?_
              refine wq_getf rfl e88x rfl rfl ?_
              refine wq_gos (f := 1) (pc2 := 9) (ls2 := [(0, .ref 162), (1, .int 6), (2, .int (nI (nw + 1)))]) (st2 := [.int (nI (nw + 1)), .int 13, .ref 166]) (h2 := hh84x) (dc2 := 0) (ds2 := 0) 4 rfl ?_
              refine wq_iast rfl e89x rfl rfl ?_
              intro hh90x e91x ff92x lh93x
              have e91x : zat hh90x 166 = some (.inl (0, 14, (zset 0 kn 13 (nI (nw + 1))))) := e91x
              refine wq_ret rfl rfl ?_
              show wq 178 115 [(1, .int (mspF sn 8 ns (v7x.2.2.2) (ns - 0 + 1) 0)), (0, .ref 162)] [] hh90x 0 0 _
              refine wq_gos (f := 1) (pc2 := 116) (ls2 := [(1, .int (mspF sn 8 ns (v7x.2.2.2) (ns - 0 + 1) 0)), (0, .ref 162)]) (st2 := [.ref 162]) (h2 := hh90x) (dc2 := 0) (ds2 := 0) 1 rfl ?_
              have e94x := (ff92x.2 _ _ (wnc (by decide) wn0) e88x)
              have e95x := (ff92x.2 _ _ (wnc (by decide) wn0) (ff86x.2 _ _ (wnc (by decide) wn0) (f876x.2 _ _ (wnc (by decide) wn0) (f86x.2 _ _ (wnc (by decide) wn0) hT))))
              refine wq_inlv (y2 := 159) (as := []) rfl rfl rfl e94x rfl (wq_mono (m_tok e94x e95x (by first | assumption | omega | decide | solve_by_elim) ⟨Nat.le_refl _, by omega⟩) ?_)
              rintro _ ⟨h896x, rfl, f896x, l896x, c096x, p096x, p196x, p296x, p396x⟩
              show wq 178 119 [(1, .int (mspF sn 8 ns (v7x.2.2.2) (ns - 0 + 1) 0)), (0, .ref 162)] [] h896x 0 0 _
              obtain ⟨v97x, hv98x⟩ : ∃ x, x = (mTok tb sz (v7x.1) (v7x.2.2.2)) := ⟨_, rfl⟩
              try rw [← hv98x] at c096x
              try rw [← hv98x] at p096x
              try rw [← hv98x] at p196x
              try rw [← hv98x] at p296x
              try rw [← hv98x] at p396x
              try rw [← hv98x]
              have e99x := (f896x.2 _ _ (wnc (by decide) wn0) e91x)
              have e100x := (f896x.2 _ _ (wnc (by decide) wn0) (ff92x.2 _ _ (wnc (by decide) wn0) e85x))
              have hx : (mRdG tb sz at9 pl so va ft fp ns nw kn sn wy) = ((v77x.1), (v77x.2), (v97x.1), (v97x.2.1), (v97x.2.2.1), (v97x.2.2.2), (zset 0 kn 13 (nI (nw + 1))), (zset 0 wy (10 + nw) (mspF sn 8 ns (v7x.2.2.2) (ns - 0 + 1) 0))) := by unfold mRdG; rw [if_pos b4x, zlet_eq hv8x, if_pos b9x, if_pos b12x, if_neg (fun q => q b14x), if_neg (fun q => q b49x), zlet_eq hv78x, if_pos b79x, zlet_eq hv98x]
              rw [hx]
              exact wq_ret rfl rfl ⟨h896x, rfl, (wFr_tr (wFr_sub f86x (by simp)) (wFr_tr (wFr_sub f876x (by simp)) (wFr_tr (wFr_sub ff86x (by simp)) (wFr_tr (wFr_sub ff92x (by simp)) (wFr_sub f896x (by simp)))))), by omega, c096x, e99x, e100x, (by (try dsimp only); first | assumption | omega), (by (try dsimp only); first | assumption | omega), (by (try dsimp only); first | assumption | omega), (by (try dsimp only); first | assumption | omega), (by (try dsimp only); first | assumption | omega), (by (try dsimp only); intro q9; first | omega | exact ⟨nw + 1, wNm_13 hN (by omega), wW2_s hW (by omega)⟩), (by (try dsimp only); first | assumption | exact wFh_set hz1 (by decide) | exact wFh_set hz2 (by omega)), (by (try dsimp only); first | assumption | exact wFh_set hz1 (by decide) | exact wFh_set hz2 (by omega))⟩
            · have q101x : (v77x.1).toInt ≠ 0 := fun q => b79x (Int32.toInt_inj.mp q)
              have e102x := (f876x.2 _ _ (wnc (by decide) wn0) e42x)
              have e103x := (f876x.2 _ _ (wnc (by decide) wn0) (f86x.2 _ _ (wnc (by decide) wn0) hWy))
              have hx : (mRdG tb sz at9 pl so va ft fp ns nw kn sn wy) = ((v77x.1), (v77x.2), (v7x.1), (v7x.2.1), (v7x.2.2.1), (v7x.2.2.2), kn, wy) := by unfold mRdG; rw [if_pos b4x, zlet_eq hv8x, if_pos b9x, if_pos b12x, if_neg (fun q => q b14x), if_neg (fun q => q b49x), zlet_eq hv78x, if_neg b79x]
              rw [hx]
              exact wq_ret rfl rfl ⟨h876x, rfl, (wFr_tr (wFr_sub f86x (by simp)) (wFr_sub f876x (by simp))), by omega, c076x, e102x, e103x, (by (try dsimp only); first | assumption | omega), (by (try dsimp only); first | assumption | omega), (by (try dsimp only); first | assumption | omega), (by (try dsimp only); first | assumption | omega), (by (try dsimp only); first | assumption | omega), (by (try dsimp only); intro q9; first | omega | exact ⟨nw + 1, wNm_13 hN (by omega), wW2_s hW (by omega)⟩), (by (try dsimp only); first | assumption | exact wFh_set hz1 (by decide) | exact wFh_set hz2 (by omega)), (by (try dsimp only); first | assumption | exact wFh_set hz1 (by decide) | exact wFh_set hz2 (by omega))⟩
      · have q104x : (v7x.2.2.1).toInt ≠ 1 := fun q => b12x (Int32.toInt_inj.mp q)
        refine wq_gos (f := 1) (pc2 := 38) (ls2 := [(0, .ref 162)]) (st2 := [.int 1, .ref 162]) (h2 := h86x) (dc2 := 0) (ds2 := 0) 2 rfl ?_
        refine wq_inlv (y2 := 163) (as := [.int 1]) rfl rfl rfl c06x rfl (wq_mono (m_wro c06x (by first | assumption | omega | decide | solve_by_elim) (by first | assumption | omega | decide | solve_by_elim)) ?_)
        rintro _ ⟨h8105x, rfl, f8105x, l8105x, c0105x, p0105x⟩
        show wq 178 41 [(0, .ref 162)] [] h8105x 0 0 _
        obtain ⟨v106x, hv107x⟩ : ∃ x, x = (mWro (v7x.2.1) ft fp (1 : Int32)) := ⟨_, rfl⟩
        try rw [← hv107x] at c0105x
        try rw [← hv107x] at p0105x
        try rw [← hv107x]
        refine wq_gos (f := 1) (pc2 := 42) (ls2 := [(0, .ref 162)]) (st2 := [.ref 162]) (h2 := h8105x) (dc2 := 0) (ds2 := 0) 1 rfl ?_
        refine wq_getf rfl c0105x rfl rfl ?_
        refine wq_ne0 rfl rfl (fun b108x => ?_) (fun b108x => ?_)
        · have q109x : (v106x.1).toInt ≠ 0 := fun q => b108x (Int32.toInt_inj.mp q)
          refine wq_gos (f := 1) (pc2 := 79) (ls2 := [(1, .int 0), (0, .ref 162)]) (st2 := [.ref 162]) (h2 := h8105x) (dc2 := 0) (ds2 := 0) 6 rfl ?_
          refine wq_getf rfl c0105x rfl rfl ?_
          refine wq_eq0 rfl rfl (fun b110x => ?_) (fun b110x => ?_)
          · have q111x : (v106x.1).toInt = 0 := congrArg Int32.toInt b110x
            refine wq_gos (f := 1) (pc2 := 87) (ls2 := [(1, .int 0), (0, .ref 162)]) (st2 := [.ref 162]) (h2 := h8105x) (dc2 := 0) (ds2 := 0) 1 rfl ?_
            refine wq_getf rfl c0105x rfl rfl ?_
            refine wq_gos (f := 1) (pc2 := 95) (ls2 := [(1, .int 0), (0, .ref 162)]) (st2 := [.int 6, .ref 162, .int 10, .ref 180]) (h2 := h8105x) (dc2 := 0) (ds2 := 0) 3 rfl ?_
            refine wq_inlv (y2 := 169) (as := [.int 6]) rfl rfl rfl c0105x rfl ?_
            show wq 169 0 [(0, .ref 162), (1, .int 6)] [] h8105x 0 0 _
            refine wq_gos (f := 1) (pc2 := 1) (ls2 := [(0, .ref 162), (1, .int 6)]) (st2 := [.ref 162]) (h2 := h8105x) (dc2 := 0) (ds2 := 0) 1 rfl ?_
            refine wq_getf rfl c0105x rfl rfl ?_
            refine wq_gos (f := 1) (pc2 := 8) (ls2 := [(0, .ref 162), (1, .int 6)]) (st2 := [.int 13, .ref 166]) (h2 := h8105x) (dc2 := 0) (ds2 := 0) 3 rfl ?_
            have e112x := (f8105x.2 _ _ (wnc (by decide) wn0) (f86x.2 _ _ (wnc (by decide) wn0) hKn))
            refine wq_iald rfl e112x rfl rfl ?_
            refine wq_vi hN.2.1 ?_
            refine wq_ret rfl rfl ?_
            show wq 178 98 [(1, .int 0), (0, .ref 162)] [.int (nI nw), .int 10, .ref 180] h8105x 0 0 _
            refine wq_gos (f := 1) (pc2 := 99) (ls2 := [(1, .int 0), (0, .ref 162)]) (st2 := [.int ((10 : Int32) + (nI nw)), .ref 180]) (h2 := h8105x) (dc2 := 0) (ds2 := 0) 1 rfl ?_
            refine wq_vi (show (10 : Int32) + (nI nw) = nI (10 + nw) from nI_add 10 nw) ?_
            refine wq_gos (f := 1) (pc2 := 100) (ls2 := [(1, .int 0), (0, .ref 162)]) (st2 := [.int 0, .int (nI (10 + nw)), .ref 180]) (h2 := h8105x) (dc2 := 0) (ds2 := 0) 1 rfl ?_
            have e113x := (f8105x.2 _ _ (wnc (by decide) wn0) (f86x.2 _ _ (wnc (by decide) wn0) hWy))
            try have q114x := nI_toInt (n := (10 + nw)) (by omega)
            refine wq_iastn rfl e113x (by first | omega | exact zin_t (by omega) (by omega)) (by decide) rfl ?_
            intro hh115x e116x ff117x lh118x
            have e116x : zat hh115x 180 = some (.inl (0, 20, (zset 0 wy (10 + nw) (0 : Int32)))) := e116x
            refine wq_gos (f := 1) (pc2 := 107) (ls2 := [(1, .int 0), (0, .ref 162)]) (st2 := [.int 6, .ref 162, .int 6, .ref 162]) (h2 := hh115x) (dc2 := 0) (ds2 := 0) 4 rfl ?_
            have e119x := (ff117x.2 _ _ (wnc (by decide) wn0) c0105x)
            refine wq_inlv (y2 := 169) (as := [.int 6]) rfl rfl rfl e119x rfl ?_
            show wq 169 0 [(0, .ref 162), (1, .int 6)] [] hh115x 0 0 _
            refine wq_gos (f := 1) (pc2 := 1) (ls2 := [(0, .ref 162), (1, .int 6)]) (st2 := [.ref 162]) (h2 := hh115x) (dc2 := 0) (ds2 := 0) 1 rfl ?_
            refine wq_getf rfl e119x rfl rfl ?_
            refine wq_gos (f := 1) (pc2 := 8) (ls2 := [(0, .ref 162), (1, .int 6)]) (st2 := [.int 13, .ref 166]) (h2 := hh115x) (dc2 := 0) (ds2 := 0) 3 rfl ?_
            have e120x := (ff117x.2 _ _ (wnc (by decide) wn0) e112x)
            refine wq_iald rfl e120x rfl rfl ?_
            refine wq_vi hN.2.1 ?_
            refine wq_ret rfl rfl ?_
            show wq 178 110 [(1, .int 0), (0, .ref 162)] [.int (nI nw), .int 6, .ref 162] hh115x 0 0 _
            refine wq_gos (f := 1) (pc2 := 112) (ls2 := [(1, .int 0), (0, .ref 162)]) (st2 := [.int ((nI nw) + (1 : Int32)), .int 6, .ref 162]) (h2 := hh115x) (dc2 := 0) (ds2 := 0) 2 rfl ?_
            refine wq_vi (show (nI nw) + (1 : Int32) = nI (nw + 1) from nI_add nw 1) ?_
            refine wq_inlv (y2 := 170) (as := [.int 6, .int (nI (nw + 1))]) rfl rfl rfl e119x rfl ?_
            show wq 170 0 [(0, .ref 162), (1, .int 6), (2, .int (nI (nw + 1)))] [] hh115x 0 0 _
            refine wq_gos (f := 1) (pc2 := 1) (ls2 := [(0, .ref 162), (1, .int 6), (2, .int (nI (nw + 1)))]) (st2 := [.ref 162]) (h2 := hh115x) (dc2 := 0) (ds2 := 0) 1 rfl ?_
            refine wq_getf rfl e119x rfl rfl ?_
            refine wq_gos (f := 1) (pc2 := 9) (ls2 := [(0, .ref 162), (1, .int 6), (2, .int (nI (nw + 1)))]) (st2 := [.int (nI (nw + 1)), .int 13, .ref 166]) (h2 := hh115x) (dc2 := 0) (ds2 := 0) 4 rfl ?_
            refine wq_iast rfl e120x rfl rfl ?_
            intro hh121x e122x ff123x lh124x
            have e122x : zat hh121x 166 = some (.inl (0, 14, (zset 0 kn 13 (nI (nw + 1))))) := e122x
            refine wq_ret rfl rfl ?_
            show wq 178 115 [(1, .int 0), (0, .ref 162)] [] hh121x 0 0 _
            refine wq_gos (f := 1) (pc2 := 116) (ls2 := [(1, .int 0), (0, .ref 162)]) (st2 := [.ref 162]) (h2 := hh121x) (dc2 := 0) (ds2 := 0) 1 rfl ?_
            have e125x := (ff123x.2 _ _ (wnc (by decide) wn0) e119x)
            have e126x := (ff123x.2 _ _ (wnc (by decide) wn0) (ff117x.2 _ _ (wnc (by decide) wn0) (f8105x.2 _ _ (wnc (by decide) wn0) (f86x.2 _ _ (wnc (by decide) wn0) hT))))
            refine wq_inlv (y2 := 159) (as := []) rfl rfl rfl e125x rfl (wq_mono (m_tok e125x e126x (by first | assumption | omega | decide | solve_by_elim) ⟨Nat.le_refl _, by omega⟩) ?_)
            rintro _ ⟨h8127x, rfl, f8127x, l8127x, c0127x, p0127x, p1127x, p2127x, p3127x⟩
            show wq 178 119 [(1, .int 0), (0, .ref 162)] [] h8127x 0 0 _
            obtain ⟨v128x, hv129x⟩ : ∃ x, x = (mTok tb sz (v7x.1) (v7x.2.2.2)) := ⟨_, rfl⟩
            try rw [← hv129x] at c0127x
            try rw [← hv129x] at p0127x
            try rw [← hv129x] at p1127x
            try rw [← hv129x] at p2127x
            try rw [← hv129x] at p3127x
            try rw [← hv129x]
            have e130x := (f8127x.2 _ _ (wnc (by decide) wn0) e122x)
            have e131x := (f8127x.2 _ _ (wnc (by decide) wn0) (ff123x.2 _ _ (wnc (by decide) wn0) e116x))
            have hx : (mRdG tb sz at9 pl so va ft fp ns nw kn sn wy) = ((v106x.1), (v106x.2), (v128x.1), (v128x.2.1), (v128x.2.2.1), (v128x.2.2.2), (zset 0 kn 13 (nI (nw + 1))), (zset 0 wy (10 + nw) (0 : Int32))) := by unfold mRdG; rw [if_pos b4x, zlet_eq hv8x, if_pos b9x, if_neg b12x, zlet_eq hv107x, if_pos b108x, if_pos b110x, zlet_eq hv129x]
            rw [hx]
            exact wq_ret rfl rfl ⟨h8127x, rfl, (wFr_tr (wFr_sub f86x (by simp)) (wFr_tr (wFr_sub f8105x (by simp)) (wFr_tr (wFr_sub ff117x (by simp)) (wFr_tr (wFr_sub ff123x (by simp)) (wFr_sub f8127x (by simp)))))), by omega, c0127x, e130x, e131x, (by (try dsimp only); first | assumption | omega), (by (try dsimp only); first | assumption | omega), (by (try dsimp only); first | assumption | omega), (by (try dsimp only); first | assumption | omega), (by (try dsimp only); first | assumption | omega), (by (try dsimp only); intro q9; first | omega | exact ⟨nw + 1, wNm_13 hN (by omega), wW2_s hW (by omega)⟩), (by (try dsimp only); first | assumption | exact wFh_set hz1 (by decide) | exact wFh_set hz2 (by omega)), (by (try dsimp only); first | assumption | exact wFh_set hz1 (by decide) | exact wFh_set hz2 (by omega))⟩
          · have q132x : (v106x.1).toInt ≠ 0 := fun q => b110x (Int32.toInt_inj.mp q)
            have e133x := (f8105x.2 _ _ (wnc (by decide) wn0) (f86x.2 _ _ (wnc (by decide) wn0) hKn))
            have e134x := (f8105x.2 _ _ (wnc (by decide) wn0) (f86x.2 _ _ (wnc (by decide) wn0) hWy))
            have hx : (mRdG tb sz at9 pl so va ft fp ns nw kn sn wy) = ((v106x.1), (v106x.2), (v7x.1), (v7x.2.1), (v7x.2.2.1), (v7x.2.2.2), kn, wy) := by unfold mRdG; rw [if_pos b4x, zlet_eq hv8x, if_pos b9x, if_neg b12x, zlet_eq hv107x, if_pos b108x, if_neg b110x]
            rw [hx]
            exact wq_ret rfl rfl ⟨h8105x, rfl, (wFr_tr (wFr_sub f86x (by simp)) (wFr_sub f8105x (by simp))), by omega, c0105x, e133x, e134x, (by (try dsimp only); first | assumption | omega), (by (try dsimp only); first | assumption | omega), (by (try dsimp only); first | assumption | omega), (by (try dsimp only); first | assumption | omega), (by (try dsimp only); first | assumption | omega), (by (try dsimp only); intro q9; first | omega | exact ⟨nw + 1, wNm_13 hN (by omega), wW2_s hW (by omega)⟩), (by (try dsimp only); first | assumption | exact wFh_set hz1 (by decide) | exact wFh_set hz2 (by omega)), (by (try dsimp only); first | assumption | exact wFh_set hz1 (by decide) | exact wFh_set hz2 (by omega))⟩
        · have q135x : (v106x.1).toInt = 0 := congrArg Int32.toInt b108x
          refine wq_gos (f := 1) (pc2 := 53) (ls2 := [(0, .ref 162)]) (st2 := [.int 5, .ref 162, .int 8, .ref 162]) (h2 := h8105x) (dc2 := 0) (ds2 := 0) 4 rfl ?_
          refine wq_inlv (y2 := 169) (as := [.int 5]) rfl rfl rfl c0105x rfl ?_
          show wq 169 0 [(0, .ref 162), (1, .int 5)] [] h8105x 0 0 _
          refine wq_gos (f := 1) (pc2 := 1) (ls2 := [(0, .ref 162), (1, .int 5)]) (st2 := [.ref 162]) (h2 := h8105x) (dc2 := 0) (ds2 := 0) 1 rfl ?_
          refine wq_getf rfl c0105x rfl rfl ?_
          refine wq_gos (f := 1) (pc2 := 8) (ls2 := [(0, .ref 162), (1, .int 5)]) (st2 := [.int 12, .ref 166]) (h2 := h8105x) (dc2 := 0) (ds2 := 0) 3 rfl ?_
          have e136x := (f8105x.2 _ _ (wnc (by decide) wn0) (f86x.2 _ _ (wnc (by decide) wn0) hKn))
          have q137x : (12 : Int32).toInt = 12 := rfl
          refine wq_iald rfl e136x rfl rfl ?_
          refine wq_vi hN.1 ?_
          refine wq_ret rfl rfl ?_
          show wq 178 56 [(0, .ref 162)] [.int (nI ns), .int 8, .ref 162] h8105x 0 0 _
          refine wq_gos (f := 1) (pc2 := 57) (ls2 := [(0, .ref 162)]) (st2 := [.ref 162, .int (nI ns), .int 8, .ref 162]) (h2 := h8105x) (dc2 := 0) (ds2 := 0) 1 rfl ?_
          refine wq_getf rfl c0105x rfl rfl ?_
          have e138x := (f8105x.2 _ _ (wnc (by decide) wn0) (f86x.2 _ _ (wnc (by decide) wn0) hSn))
          have q139x : (8 : Int32).toInt = 8 := rfl
          try have q140x := nI_toInt (n := ns) (by omega)
          refine wq_inlv (y2 := 176) (as := [.int 8, .int (nI ns), .int (v7x.2.2.2)]) rfl rfl rfl c0105x rfl (wq_mono (m_spA (f := 8) c0105x e138x (by first | assumption | omega | decide | solve_by_elim)) ?_)
          rintro _ ⟨rfl, p0141x⟩
          show wq 178 63 [(0, .ref 162)] [.int (mspF sn 8 ns (v7x.2.2.2) (ns - 0 + 1) 0)] h8105x 0 0 _
          refine wq_gos (f := 1) (pc2 := 70) (ls2 := [(1, .int (mspF sn 8 ns (v7x.2.2.2) (ns - 0 + 1) 0)), (0, .ref 162)]) (st2 := [.int (-1), .int (mspF sn 8 ns (v7x.2.2.2) (ns - 0 + 1) 0)]) (h2 := h8105x) (dc2 := 0) (ds2 := 0) 4 rfl ?_
          have q142x : (-1 : Int32).toInt = -1 := rfl
          refine wq_ne2 rfl rfl (fun b143x => ?_) (fun b143x => ?_)
          · have q144x : (mspF sn 8 ns (v7x.2.2.2) (ns - 0 + 1) 0).toInt ≠ -1 := fun q => b143x (Int32.toInt_inj.mp q)
            refine wq_gos (f := 1) (pc2 := 79) (ls2 := [(1, .int (mspF sn 8 ns (v7x.2.2.2) (ns - 0 + 1) 0)), (0, .ref 162)]) (st2 := [.ref 162]) (h2 := h8105x) (dc2 := 0) (ds2 := 0) 1 rfl ?_
            refine wq_getf rfl c0105x rfl rfl ?_
            refine wq_eq0 rfl rfl (fun b145x => ?_) (fun b145x => ?_)
            · have q146x : (v106x.1).toInt = 0 := congrArg Int32.toInt b145x
              refine wq_gos (f := 1) (pc2 := 87) (ls2 := [(1, .int (mspF sn 8 ns (v7x.2.2.2) (ns - 0 + 1) 0)), (0, .ref 162)]) (st2 := [.ref 162]) (h2 := h8105x) (dc2 := 0) (ds2 := 0) 1 rfl ?_
              refine wq_getf rfl c0105x rfl rfl ?_
              refine wq_gos (f := 1) (pc2 := 95) (ls2 := [(1, .int (mspF sn 8 ns (v7x.2.2.2) (ns - 0 + 1) 0)), (0, .ref 162)]) (st2 := [.int 6, .ref 162, .int 10, .ref 180]) (h2 := h8105x) (dc2 := 0) (ds2 := 0) 3 rfl ?_
              refine wq_inlv (y2 := 169) (as := [.int 6]) rfl rfl rfl c0105x rfl ?_
              show wq 169 0 [(0, .ref 162), (1, .int 6)] [] h8105x 0 0 _
              refine wq_gos (f := 1) (pc2 := 1) (ls2 := [(0, .ref 162), (1, .int 6)]) (st2 := [.ref 162]) (h2 := h8105x) (dc2 := 0) (ds2 := 0) 1 rfl ?_
              refine wq_getf rfl c0105x rfl rfl ?_
              refine wq_gos (f := 1) (pc2 := 8) (ls2 := [(0, .ref 162), (1, .int 6)]) (st2 := [.int 13, .ref 166]) (h2 := h8105x) (dc2 := 0) (ds2 := 0) 3 rfl ?_
              refine wq_iald rfl e136x rfl rfl ?_
              refine wq_vi hN.2.1 ?_
              refine wq_ret rfl rfl ?_
              show wq 178 98 [(1, .int (mspF sn 8 ns (v7x.2.2.2) (ns - 0 + 1) 0)), (0, .ref 162)] [.int (nI nw), .int 10, .ref 180] h8105x 0 0 _
              refine wq_gos (f := 1) (pc2 := 99) (ls2 := [(1, .int (mspF sn 8 ns (v7x.2.2.2) (ns - 0 + 1) 0)), (0, .ref 162)]) (st2 := [.int ((10 : Int32) + (nI nw)), .ref 180]) (h2 := h8105x) (dc2 := 0) (ds2 := 0) 1 rfl ?_
              refine wq_vi (show (10 : Int32) + (nI nw) = nI (10 + nw) from nI_add 10 nw) ?_
              refine wq_gos (f := 1) (pc2 := 100) (ls2 := [(1, .int (mspF sn 8 ns (v7x.2.2.2) (ns - 0 + 1) 0)), (0, .ref 162)]) (st2 := [.int (mspF sn 8 ns (v7x.2.2.2) (ns - 0 + 1) 0), .int (nI (10 + nw)), .ref 180]) (h2 := h8105x) (dc2 := 0) (ds2 := 0) 1 rfl ?_
              have e147x := (f8105x.2 _ _ (wnc (by decide) wn0) (f86x.2 _ _ (wnc (by decide) wn0) hWy))
              try have q148x := nI_toInt (n := (10 + nw)) (by omega)
              refine wq_iastn rfl e147x (by first | omega | exact zin_t (by omega) (by omega)) (by decide) rfl ?_
              intro hh149x e150x ff151x lh152x
              have e150x : zat hh149x 180 = some (.inl (0, 20, (zset 0 wy (10 + nw) (mspF sn 8 ns (v7x.2.2.2) (ns - 0 + 1) 0)))) := e150x
              refine wq_gos (f := 1) (pc2 := 107) (ls2 := [(1, .int (mspF sn 8 ns (v7x.2.2.2) (ns - 0 + 1) 0)), (0, .ref 162)]) (st2 := [.int 6, .ref 162, .int 6, .ref 162]) (h2 := hh149x) (dc2 := 0) (ds2 := 0) 4 rfl ?_
              have e153x := (ff151x.2 _ _ (wnc (by decide) wn0) c0105x)
              refine wq_inlv (y2 := 169) (as := [.int 6]) rfl rfl rfl e153x rfl ?_
              show wq 169 0 [(0, .ref 162), (1, .int 6)] [] hh149x 0 0 _
              refine wq_gos (f := 1) (pc2 := 1) (ls2 := [(0, .ref 162), (1, .int 6)]) (st2 := [.ref 162]) (h2 := hh149x) (dc2 := 0) (ds2 := 0) 1 rfl ?_
              refine wq_getf rfl e153x rfl rfl ?_
              refine wq_gos (f := 1) (pc2 := 8) (ls2 := [(0, .ref 162), (1, .int 6)]) (st2 := [.int 13, .ref 166]) (h2 := hh149x) (dc2 := 0) (ds2 := 0) 3 rfl ?_
              have e154x := (ff151x.2 _ _ (wnc (by decide) wn0) e136x)
              refine wq_iald rfl e154x rfl rfl ?_
              refine wq_vi hN.2.1 ?_
              refine wq_ret rfl rfl ?_
              show wq 178 110 [(1, .int (mspF sn 8 ns (v7x.2.2.2) (ns - 0 + 1) 0)), (0, .ref 162)] [.int (nI nw), .int 6, .ref 162] hh149x 0 0 _
              refine wq_gos (f := 1) (pc2 := 112) (ls2 := [(1, .int (mspF sn 8 ns (v7x.2.2.2) (ns - 0 + 1) 0)), (0, .ref 162)]) (st2 := [.int ((nI nw) + (1 : Int32)), .int 6, .ref 162]) (h2 := hh149x) (dc2 := 0) (ds2 := 0) 2 rfl ?_
              refine wq_vi (show (nI nw) + (1 : Int32) = nI (nw + 1) from nI_add nw 1) ?_
              refine wq_inlv (y2 := 170) (as := [.int 6, .int (nI (nw + 1))]) rfl rfl rfl e153x rfl ?_
              show wq 170 0 [(0, .ref 162), (1, .int 6), (2, .int (nI (nw + 1)))] [] hh149x 0 0 _
              refine wq_gos (f := 1) (pc2 := 1) (ls2 := [(0, .ref 162), (1, .int 6), (2, .int (nI (nw + 1)))]) (st2 := [.ref 162]) (h2 := hh149x) (dc2 := 0) (ds2 := 0) 1 rfl ?_
              refine wq_getf rfl e153x rfl rfl ?_
              refine wq_gos (f := 1) (pc2 := 9) (ls2 := [(0, .ref 162), (1, .int 6), (2, .int (nI (nw + 1)))]) (st2 := [.int (nI (nw + 1)), .int 13, .ref 166]) (h2 := hh149x) (dc2 := 0) (ds2 := 0) 4 rfl ?_
              refine wq_iast rfl e154x rfl rfl ?_
              intro hh155x e156x ff157x lh158x
              have e156x : zat hh155x 166 = some (.inl (0, 14, (zset 0 kn 13 (nI (nw + 1))))) := e156x
              refine wq_ret rfl rfl ?_
              show wq 178 115 [(1, .int (mspF sn 8 ns (v7x.2.2.2) (ns - 0 + 1) 0)), (0, .ref 162)] [] hh155x 0 0 _
              refine wq_gos (f := 1) (pc2 := 116) (ls2 := [(1, .int (mspF sn 8 ns (v7x.2.2.2) (ns - 0 + 1) 0)), (0, .ref 162)]) (st2 := [.ref 162]) (h2 := hh155x) (dc2 := 0) (ds2 := 0) 1 rfl ?_
              have e159x := (ff157x.2 _ _ (wnc (by decide) wn0) e153x)
              have e160x := (ff157x.2 _ _ (wnc (by decide) wn0) (ff151x.2 _ _ (wnc (by decide) wn0) (f8105x.2 _ _ (wnc (by decide) wn0) (f86x.2 _ _ (wnc (by decide) wn0) hT))))
              refine wq_inlv (y2 := 159) (as := []) rfl rfl rfl e159x rfl (wq_mono (m_tok e159x e160x (by first | assumption | omega | decide | solve_by_elim) ⟨Nat.le_refl _, by omega⟩) ?_)
              rintro _ ⟨h8161x, rfl, f8161x, l8161x, c0161x, p0161x, p1161x, p2161x, p3161x⟩
              show wq 178 119 [(1, .int (mspF sn 8 ns (v7x.2.2.2) (ns - 0 + 1) 0)), (0, .ref 162)] [] h8161x 0 0 _
              obtain ⟨v162x, hv163x⟩ : ∃ x, x = (mTok tb sz (v7x.1) (v7x.2.2.2)) := ⟨_, rfl⟩
              try rw [← hv163x] at c0161x
              try rw [← hv163x] at p0161x
              try rw [← hv163x] at p1161x
              try rw [← hv163x] at p2161x
              try rw [← hv163x] at p3161x
              try rw [← hv163x]
              have e164x := (f8161x.2 _ _ (wnc (by decide) wn0) e156x)
              have e165x := (f8161x.2 _ _ (wnc (by decide) wn0) (ff157x.2 _ _ (wnc (by decide) wn0) e150x))
              have hx : (mRdG tb sz at9 pl so va ft fp ns nw kn sn wy) = ((v106x.1), (v106x.2), (v162x.1), (v162x.2.1), (v162x.2.2.1), (v162x.2.2.2), (zset 0 kn 13 (nI (nw + 1))), (zset 0 wy (10 + nw) (mspF sn 8 ns (v7x.2.2.2) (ns - 0 + 1) 0))) := by unfold mRdG; rw [if_pos b4x, zlet_eq hv8x, if_pos b9x, if_neg b12x, zlet_eq hv107x, if_neg (fun q => q b108x), if_pos b143x, if_pos b145x, zlet_eq hv163x]
              rw [hx]
              exact wq_ret rfl rfl ⟨h8161x, rfl, (wFr_tr (wFr_sub f86x (by simp)) (wFr_tr (wFr_sub f8105x (by simp)) (wFr_tr (wFr_sub ff151x (by simp)) (wFr_tr (wFr_sub ff157x (by simp)) (wFr_sub f8161x (by simp)))))), by omega, c0161x, e164x, e165x, (by (try dsimp only); first | assumption | omega), (by (try dsimp only); first | assumption | omega), (by (try dsimp only); first | assumption | omega), (by (try dsimp only); first | assumption | omega), (by (try dsimp only); first | assumption | omega), (by (try dsimp only); intro q9; first | omega | exact ⟨nw + 1, wNm_13 hN (by omega), wW2_s hW (by omega)⟩), (by (try dsimp only); first | assumption | exact wFh_set hz1 (by decide) | exact wFh_set hz2 (by omega)), (by (try dsimp only); first | assumption | exact wFh_set hz1 (by decide) | exact wFh_set hz2 (by omega))⟩
            · have q166x : (v106x.1).toInt ≠ 0 := fun q => b145x (Int32.toInt_inj.mp q)
              have e167x := (f8105x.2 _ _ (wnc (by decide) wn0) (f86x.2 _ _ (wnc (by decide) wn0) hWy))
              have hx : (mRdG tb sz at9 pl so va ft fp ns nw kn sn wy) = ((v106x.1), (v106x.2), (v7x.1), (v7x.2.1), (v7x.2.2.1), (v7x.2.2.2), kn, wy) := by unfold mRdG; rw [if_pos b4x, zlet_eq hv8x, if_pos b9x, if_neg b12x, zlet_eq hv107x, if_neg (fun q => q b108x), if_pos b143x, if_neg b145x]
              rw [hx]
              exact wq_ret rfl rfl ⟨h8105x, rfl, (wFr_tr (wFr_sub f86x (by simp)) (wFr_sub f8105x (by simp))), by omega, c0105x, e136x, e167x, (by (try dsimp only); first | assumption | omega), (by (try dsimp only); first | assumption | omega), (by (try dsimp only); first | assumption | omega), (by (try dsimp only); first | assumption | omega), (by (try dsimp only); first | assumption | omega), (by (try dsimp only); intro q9; first | omega | exact ⟨nw + 1, wNm_13 hN (by omega), wW2_s hW (by omega)⟩), (by (try dsimp only); first | assumption | exact wFh_set hz1 (by decide) | exact wFh_set hz2 (by omega)), (by (try dsimp only); first | assumption | exact wFh_set hz1 (by decide) | exact wFh_set hz2 (by omega))⟩
          · have q168x : (mspF sn 8 ns (v7x.2.2.2) (ns - 0 + 1) 0).toInt = -1 := congrArg Int32.toInt b143x
            refine wq_gos (f := 1) (pc2 := 75) (ls2 := [(1, .int (mspF sn 8 ns (v7x.2.2.2) (ns - 0 + 1) 0)), (0, .ref 162)]) (st2 := [.int 4, .ref 162]) (h2 := h8105x) (dc2 := 0) (ds2 := 0) 2 rfl ?_
            have q169x : (4 : Int32).toInt = 4 := rfl
            refine wq_inlv (y2 := 163) (as := [.int 4]) rfl rfl rfl c0105x rfl (wq_mono (m_wro c0105x (by first | assumption | omega | decide | solve_by_elim) (by first | assumption | omega | decide | solve_by_elim)) ?_)
            rintro _ ⟨h8170x, rfl, f8170x, l8170x, c0170x, p0170x⟩
            show wq 178 78 [(1, .int (mspF sn 8 ns (v7x.2.2.2) (ns - 0 + 1) 0)), (0, .ref 162)] [] h8170x 0 0 _
            obtain ⟨v171x, hv172x⟩ : ∃ x, x = (mWro (v7x.2.1) (v106x.1) (v106x.2) (4 : Int32)) := ⟨_, rfl⟩
            try rw [← hv172x] at c0170x
            try rw [← hv172x] at p0170x
            try rw [← hv172x]
            refine wq_gos (f := 1) (pc2 := 79) (ls2 := [(1, .int (mspF sn 8 ns (v7x.2.2.2) (ns - 0 + 1) 0)), (0, .ref 162)]) (st2 := [.ref 162]) (h2 := h8170x) (dc2 := 0) (ds2 := 0) 1 rfl ?_
            refine wq_getf rfl c0170x rfl rfl ?_
            refine wq_eq0 rfl rfl (fun b173x => ?_) (fun b173x => ?_)
            · have q174x : (v171x.1).toInt = 0 := congrArg Int32.toInt b173x
              refine wq_gos (f := 1) (pc2 := 87) (ls2 := [(1, .int (mspF sn 8 ns (v7x.2.2.2) (ns - 0 + 1) 0)), (0, .ref 162)]) (st2 := [.ref 162]) (h2 := h8170x) (dc2 := 0) (ds2 := 0) 1 rfl ?_
              refine wq_getf rfl c0170x rfl rfl ?_
              refine wq_gos (f := 1) (pc2 := 95) (ls2 := [(1, .int (mspF sn 8 ns (v7x.2.2.2) (ns - 0 + 1) 0)), (0, .ref 162)]) (st2 := [.int 6, .ref 162, .int 10, .ref 180]) (h2 := h8170x) (dc2 := 0) (ds2 := 0) 3 rfl ?_
              refine wq_inlv (y2 := 169) (as := [.int 6]) rfl rfl rfl c0170x rfl ?_
              show wq 169 0 [(0, .ref 162), (1, .int 6)] [] h8170x 0 0 _
              refine wq_gos (f := 1) (pc2 := 1) (ls2 := [(0, .ref 162), (1, .int 6)]) (st2 := [.ref 162]) (h2 := h8170x) (dc2 := 0) (ds2 := 0) 1 rfl ?_
              refine wq_getf rfl c0170x rfl rfl ?_
              refine wq_gos (f := 1) (pc2 := 8) (ls2 := [(0, .ref 162), (1, .int 6)]) (st2 := [.int 13, .ref 166]) (h2 := h8170x) (dc2 := 0) (ds2 := 0) 3 rfl ?_
              have e175x := (f8170x.2 _ _ (wnc (by decide) wn0) e136x)
              refine wq_iald rfl e175x rfl rfl ?_
              refine wq_vi hN.2.1 ?_
              refine wq_ret rfl rfl ?_
              show wq 178 98 [(1, .int (mspF sn 8 ns (v7x.2.2.2) (ns - 0 + 1) 0)), (0, .ref 162)] [.int (nI nw), .int 10, .ref 180] h8170x 0 0 _
              refine wq_gos (f := 1) (pc2 := 99) (ls2 := [(1, .int (mspF sn 8 ns (v7x.2.2.2) (ns - 0 + 1) 0)), (0, .ref 162)]) (st2 := [.int ((10 : Int32) + (nI nw)), .ref 180]) (h2 := h8170x) (dc2 := 0) (ds2 := 0) 1 rfl ?_
              refine wq_vi (show (10 : Int32) + (nI nw) = nI (10 + nw) from nI_add 10 nw) ?_
              refine wq_gos (f := 1) (pc2 := 100) (ls2 := [(1, .int (mspF sn 8 ns (v7x.2.2.2) (ns - 0 + 1) 0)), (0, .ref 162)]) (st2 := [.int (mspF sn 8 ns (v7x.2.2.2) (ns - 0 + 1) 0), .int (nI (10 + nw)), .ref 180]) (h2 := h8170x) (dc2 := 0) (ds2 := 0) 1 rfl ?_
              have e176x := (f8170x.2 _ _ (wnc (by decide) wn0) (f8105x.2 _ _ (wnc (by decide) wn0) (f86x.2 _ _ (wnc (by decide) wn0) hWy)))
              try have q177x := nI_toInt (n := (10 + nw)) (by omega)
              refine wq_iastn rfl e176x (by first | omega | exact zin_t (by omega) (by omega)) (by decide) rfl ?_
              intro hh178x e179x ff180x lh181x
              have e179x : zat hh178x 180 = some (.inl (0, 20, (zset 0 wy (10 + nw) (mspF sn 8 ns (v7x.2.2.2) (ns - 0 + 1) 0)))) := e179x
              refine wq_gos (f := 1) (pc2 := 107) (ls2 := [(1, .int (mspF sn 8 ns (v7x.2.2.2) (ns - 0 + 1) 0)), (0, .ref 162)]) (st2 := [.int 6, .ref 162, .int 6, .ref 162]) (h2 := hh178x) (dc2 := 0) (ds2 := 0) 4 rfl ?_
              have e182x := (ff180x.2 _ _ (wnc (by decide) wn0) c0170x)
              refine wq_inlv (y2 := 169) (as := [.int 6]) rfl rfl rfl e182x rfl ?_
              show wq 169 0 [(0, .ref 162), (1, .int 6)] [] hh178x 0 0 _
              refine wq_gos (f := 1) (pc2 := 1) (ls2 := [(0, .ref 162), (1, .int 6)]) (st2 := [.ref 162]) (h2 := hh178x) (dc2 := 0) (ds2 := 0) 1 rfl ?_
              refine wq_getf rfl e182x rfl rfl ?_
              refine wq_gos (f := 1) (pc2 := 8) (ls2 := [(0, .ref 162), (1, .int 6)]) (st2 := [.int 13, .ref 166]) (h2 := hh178x) (dc2 := 0) (ds2 := 0) 3 rfl ?_
              have e183x := (ff180x.2 _ _ (wnc (by decide) wn0) e175x)
              refine wq_iald rfl e183x rfl rfl ?_
              refine wq_vi hN.2.1 ?_
              refine wq_ret rfl rfl ?_
              show wq 178 110 [(1, .int (mspF sn 8 ns (v7x.2.2.2) (ns - 0 + 1) 0)), (0, .ref 162)] [.int (nI nw), .int 6, .ref 162] hh178x 0 0 _
              refine wq_gos (f := 1) (pc2 := 112) (ls2 := [(1, .int (mspF sn 8 ns (v7x.2.2.2) (ns - 0 + 1) 0)), (0, .ref 162)]) (st2 := [.int ((nI nw) + (1 : Int32)), .int 6, .ref 162]) (h2 := hh178x) (dc2 := 0) (ds2 := 0) 2 rfl ?_
              refine wq_vi (show (nI nw) + (1 : Int32) = nI (nw + 1) from nI_add nw 1) ?_
              refine wq_inlv (y2 := 170) (as := [.int 6, .int (nI (nw + 1))]) rfl rfl rfl e182x rfl ?_
              show wq 170 0 [(0, .ref 162), (1, .int 6), (2, .int (nI (nw + 1)))] [] hh178x 0 0 _
              refine wq_gos (f := 1) (pc2 := 1) (ls2 := [(0, .ref 162), (1, .int 6), (2, .int (nI (nw + 1)))]) (st2 := [.ref 162]) (h2 := hh178x) (dc2 := 0) (ds2 := 0) 1 rfl ?_
              refine wq_getf rfl e182x rfl rfl ?_
              refine wq_gos (f := 1) (pc2 := 9) (ls2 := [(0, .ref 162), (1, .int 6), (2, .int (nI (nw + 1)))]) (st2 := [.int (nI (nw + 1)), .int 13, .ref 166]) (h2 := hh178x) (dc2 := 0) (ds2 := 0) 4 rfl ?_
              refine wq_iast rfl e183x rfl rfl ?_
              intro hh184x e185x ff186x lh187x
              have e185x : zat hh184x 166 = some (.inl (0, 14, (zset 0 kn 13 (nI (nw + 1))))) := e185x
              refine wq_ret rfl rfl ?_
              show wq 178 115 [(1, .int (mspF sn 8 ns (v7x.2.2.2) (ns - 0 + 1) 0)), (0, .ref 162)] [] hh184x 0 0 _
              refine wq_gos (f := 1) (pc2 := 116) (ls2 := [(1, .int (mspF sn 8 ns (v7x.2.2.2) (ns - 0 + 1) 0)), (0, .ref 162)]) (st2 := [.ref 162]) (h2 := hh184x) (dc2 := 0) (ds2 := 0) 1 rfl ?_
              have e188x := (ff186x.2 _ _ (wnc (by decide) wn0) e182x)
              have e189x := (ff186x.2 _ _ (wnc (by decide) wn0) (ff180x.2 _ _ (wnc (by decide) wn0) (f8170x.2 _ _ (wnc (by decide) wn0) (f8105x.2 _ _ (wnc (by decide) wn0) (f86x.2 _ _ (wnc (by decide) wn0) hT)))))
              refine wq_inlv (y2 := 159) (as := []) rfl rfl rfl e188x rfl (wq_mono (m_tok e188x e189x (by first | assumption | omega | decide | solve_by_elim) ⟨Nat.le_refl _, by omega⟩) ?_)
              rintro _ ⟨h8190x, rfl, f8190x, l8190x, c0190x, p0190x, p1190x, p2190x, p3190x⟩
              show wq 178 119 [(1, .int (mspF sn 8 ns (v7x.2.2.2) (ns - 0 + 1) 0)), (0, .ref 162)] [] h8190x 0 0 _
              obtain ⟨v191x, hv192x⟩ : ∃ x, x = (mTok tb sz (v7x.1) (v7x.2.2.2)) := ⟨_, rfl⟩
              try rw [← hv192x] at c0190x
              try rw [← hv192x] at p0190x
              try rw [← hv192x] at p1190x
              try rw [← hv192x] at p2190x
              try rw [← hv192x] at p3190x
              try rw [← hv192x]
              have e193x := (f8190x.2 _ _ (wnc (by decide) wn0) e185x)
              have e194x := (f8190x.2 _ _ (wnc (by decide) wn0) (ff186x.2 _ _ (wnc (by decide) wn0) e179x))
              have hx : (mRdG tb sz at9 pl so va ft fp ns nw kn sn wy) = ((v171x.1), (v171x.2), (v191x.1), (v191x.2.1), (v191x.2.2.1), (v191x.2.2.2), (zset 0 kn 13 (nI (nw + 1))), (zset 0 wy (10 + nw) (mspF sn 8 ns (v7x.2.2.2) (ns - 0 + 1) 0))) := by unfold mRdG; rw [if_pos b4x, zlet_eq hv8x, if_pos b9x, if_neg b12x, zlet_eq hv107x, if_neg (fun q => q b108x), if_neg (fun q => q b143x), zlet_eq hv172x, if_pos b173x, zlet_eq hv192x]
              rw [hx]
              exact wq_ret rfl rfl ⟨h8190x, rfl, (wFr_tr (wFr_sub f86x (by simp)) (wFr_tr (wFr_sub f8105x (by simp)) (wFr_tr (wFr_sub f8170x (by simp)) (wFr_tr (wFr_sub ff180x (by simp)) (wFr_tr (wFr_sub ff186x (by simp)) (wFr_sub f8190x (by simp))))))), by omega, c0190x, e193x, e194x, (by (try dsimp only); first | assumption | omega), (by (try dsimp only); first | assumption | omega), (by (try dsimp only); first | assumption | omega), (by (try dsimp only); first | assumption | omega), (by (try dsimp only); first | assumption | omega), (by (try dsimp only); intro q9; first | omega | exact ⟨nw + 1, wNm_13 hN (by omega), wW2_s hW (by omega)⟩), (by (try dsimp only); first | assumption | exact wFh_set hz1 (by decide) | exact wFh_set hz2 (by omega)), (by (try dsimp only); first | assumption | exact wFh_set hz1 (by decide) | exact wFh_set hz2 (by omega))⟩
            · have q195x : (v171x.1).toInt ≠ 0 := fun q => b173x (Int32.toInt_inj.mp q)
              have e196x := (f8170x.2 _ _ (wnc (by decide) wn0) e136x)
              have e197x := (f8170x.2 _ _ (wnc (by decide) wn0) (f8105x.2 _ _ (wnc (by decide) wn0) (f86x.2 _ _ (wnc (by decide) wn0) hWy)))
              have hx : (mRdG tb sz at9 pl so va ft fp ns nw kn sn wy) = ((v171x.1), (v171x.2), (v7x.1), (v7x.2.1), (v7x.2.2.1), (v7x.2.2.2), kn, wy) := by unfold mRdG; rw [if_pos b4x, zlet_eq hv8x, if_pos b9x, if_neg b12x, zlet_eq hv107x, if_neg (fun q => q b108x), if_neg (fun q => q b143x), zlet_eq hv172x, if_neg b173x]
              rw [hx]
              exact wq_ret rfl rfl ⟨h8170x, rfl, (wFr_tr (wFr_sub f86x (by simp)) (wFr_tr (wFr_sub f8105x (by simp)) (wFr_sub f8170x (by simp)))), by omega, c0170x, e196x, e197x, (by (try dsimp only); first | assumption | omega), (by (try dsimp only); first | assumption | omega), (by (try dsimp only); first | assumption | omega), (by (try dsimp only); first | assumption | omega), (by (try dsimp only); first | assumption | omega), (by (try dsimp only); intro q9; first | omega | exact ⟨nw + 1, wNm_13 hN (by omega), wW2_s hW (by omega)⟩), (by (try dsimp only); first | assumption | exact wFh_set hz1 (by decide) | exact wFh_set hz2 (by omega)), (by (try dsimp only); first | assumption | exact wFh_set hz1 (by decide) | exact wFh_set hz2 (by omega))⟩
    · have q198x : ft.toInt ≠ 0 := fun q => b9x (Int32.toInt_inj.mp q)
      have e199x := (f86x.2 _ _ (wnc (by decide) wn0) hKn)
      have e200x := (f86x.2 _ _ (wnc (by decide) wn0) hWy)
      have hx : (mRdG tb sz at9 pl so va ft fp ns nw kn sn wy) = (ft, fp, (v7x.1), (v7x.2.1), (v7x.2.2.1), (v7x.2.2.2), kn, wy) := by unfold mRdG; rw [if_pos b4x, zlet_eq hv8x, if_neg b9x]
      rw [hx]
      exact wq_ret rfl rfl ⟨h86x, rfl, (wFr_sub f86x (by simp)), by omega, c06x, e199x, e200x, (by (try dsimp only); first | assumption | omega), (by (try dsimp only); first | assumption | omega), (by (try dsimp only); first | assumption | omega), (by (try dsimp only); first | assumption | omega), (by (try dsimp only); first | assumption | omega), (by (try dsimp only); intro q9; first | omega | exact ⟨nw + 1, wNm_13 hN (by omega), wW2_s hW (by omega)⟩), (by (try dsimp only); first | assumption | exact wFh_set hz1 (by decide) | exact wFh_set hz2 (by omega)), (by (try dsimp only); first | assumption | exact wFh_set hz1 (by decide) | exact wFh_set hz2 (by omega))⟩
  · have q201x : (nI nw).toInt = 10 := congrArg Int32.toInt b4x
    refine wq_gos (f := 1) (pc2 := 13) (ls2 := [(0, .ref 162)]) (st2 := [.int 2, .ref 162]) (h2 := h) (dc2 := 0) (ds2 := 0) 2 rfl ?_
    have q202x : (2 : Int32).toInt = 2 := rfl
    refine wq_inlv (y2 := 163) (as := [.int 2]) rfl rfl rfl hM rfl (wq_mono (m_wro hM (by first | assumption | omega | decide | solve_by_elim) (by first | assumption | omega | decide | solve_by_elim)) ?_)
    rintro _ ⟨h8203x, rfl, f8203x, l8203x, c0203x, p0203x⟩
    show wq 178 16 [(0, .ref 162)] [] h8203x 0 0 _
    obtain ⟨v204x, hv205x⟩ : ∃ x, x = (mWro pl ft fp (2 : Int32)) := ⟨_, rfl⟩
    try rw [← hv205x] at c0203x
    try rw [← hv205x] at p0203x
    try rw [← hv205x]
    refine wq_gos (f := 1) (pc2 := 17) (ls2 := [(0, .ref 162)]) (st2 := [.ref 162]) (h2 := h8203x) (dc2 := 0) (ds2 := 0) 1 rfl ?_
    have e206x := (f8203x.2 _ _ (wnc (by decide) wn0) hT)
    refine wq_inlv (y2 := 164) (as := []) rfl rfl rfl c0203x rfl (wq_mono (m_go c0203x e206x (by first | assumption | omega | decide | solve_by_elim) ⟨Nat.le_refl _, by omega⟩ (by first | assumption | omega | decide | solve_by_elim)) ?_)
    rintro _ ⟨h8207x, rfl, f8207x, l8207x, c0207x, p0207x, p1207x, p2207x, p3207x⟩
    show wq 178 20 [(0, .ref 162)] [] h8207x 0 0 _
    obtain ⟨v208x, hv209x⟩ : ∃ x, x = (mGo tb sz at9 pl so va (v204x.1)) := ⟨_, rfl⟩
    try rw [← hv209x] at c0207x
    try rw [← hv209x] at p0207x
    try rw [← hv209x] at p1207x
    try rw [← hv209x] at p2207x
    try rw [← hv209x] at p3207x
    try rw [← hv209x]
    refine wq_gos (f := 1) (pc2 := 21) (ls2 := [(0, .ref 162)]) (st2 := [.ref 162]) (h2 := h8207x) (dc2 := 0) (ds2 := 0) 1 rfl ?_
    refine wq_getf rfl c0207x rfl rfl ?_
    refine wq_eq0 rfl rfl (fun b210x => ?_) (fun b210x => ?_)
    · have q211x : (v204x.1).toInt = 0 := congrArg Int32.toInt b210x
      refine wq_gos (f := 1) (pc2 := 29) (ls2 := [(0, .ref 162)]) (st2 := [.ref 162]) (h2 := h8207x) (dc2 := 0) (ds2 := 0) 1 rfl ?_
      refine wq_getf rfl c0207x rfl rfl ?_
      refine wq_gos (f := 1) (pc2 := 33) (ls2 := [(0, .ref 162)]) (st2 := [.int 1, .int (v208x.2.2.1)]) (h2 := h8207x) (dc2 := 0) (ds2 := 0) 1 rfl ?_
      have q212x : (1 : Int32).toInt = 1 := rfl
      refine wq_eq2 rfl rfl (fun b213x => ?_) (fun b213x => ?_)
      · have q214x : (v208x.2.2.1).toInt = 1 := congrArg Int32.toInt b213x
        refine wq_gos (f := 1) (pc2 := 42) (ls2 := [(0, .ref 162)]) (st2 := [.ref 162]) (h2 := h8207x) (dc2 := 0) (ds2 := 0) 1 rfl ?_
        refine wq_getf rfl c0207x rfl rfl ?_
        refine wq_ne0 rfl rfl (fun b215x => ?_) (fun b215x => ?_)
        · have q216x : (v204x.1).toInt ≠ 0 := fun q => b215x (Int32.toInt_inj.mp q)
          refine wq_gos (f := 1) (pc2 := 79) (ls2 := [(1, .int 0), (0, .ref 162)]) (st2 := [.ref 162]) (h2 := h8207x) (dc2 := 0) (ds2 := 0) 6 rfl ?_
          refine wq_getf rfl c0207x rfl rfl ?_
          refine wq_eq0 rfl rfl (fun b217x => ?_) (fun b217x => ?_)
          · have q218x : (v204x.1).toInt = 0 := congrArg Int32.toInt b217x
            refine wq_gos (f := 1) (pc2 := 87) (ls2 := [(1, .int 0), (0, .ref 162)]) (st2 := [.ref 162]) (h2 := h8207x) (dc2 := 0) (ds2 := 0) 1 rfl ?_
            refine wq_getf rfl c0207x rfl rfl ?_
            refine wq_gos (f := 1) (pc2 := 95) (ls2 := [(1, .int 0), (0, .ref 162)]) (st2 := [.int 6, .ref 162, .int 10, .ref 180]) (h2 := h8207x) (dc2 := 0) (ds2 := 0) 3 rfl ?_
            refine wq_inlv (y2 := 169) (as := [.int 6]) rfl rfl rfl c0207x rfl ?_
            show wq 169 0 [(0, .ref 162), (1, .int 6)] [] h8207x 0 0 _
            refine wq_gos (f := 1) (pc2 := 1) (ls2 := [(0, .ref 162), (1, .int 6)]) (st2 := [.ref 162]) (h2 := h8207x) (dc2 := 0) (ds2 := 0) 1 rfl ?_
            refine wq_getf rfl c0207x rfl rfl ?_
            refine wq_gos (f := 1) (pc2 := 8) (ls2 := [(0, .ref 162), (1, .int 6)]) (st2 := [.int 13, .ref 166]) (h2 := h8207x) (dc2 := 0) (ds2 := 0) 3 rfl ?_
            have e219x := (f8207x.2 _ _ (wnc (by decide) wn0) (f8203x.2 _ _ (wnc (by decide) wn0) hKn))
            refine wq_iald rfl e219x rfl rfl ?_
            refine wq_vi hN.2.1 ?_
            refine wq_ret rfl rfl ?_
            show wq 178 98 [(1, .int 0), (0, .ref 162)] [.int (nI nw), .int 10, .ref 180] h8207x 0 0 _
            refine wq_gos (f := 1) (pc2 := 99) (ls2 := [(1, .int 0), (0, .ref 162)]) (st2 := [.int ((10 : Int32) + (nI nw)), .ref 180]) (h2 := h8207x) (dc2 := 0) (ds2 := 0) 1 rfl ?_
            refine wq_vi (show (10 : Int32) + (nI nw) = nI (10 + nw) from nI_add 10 nw) ?_
            refine wq_gos (f := 1) (pc2 := 100) (ls2 := [(1, .int 0), (0, .ref 162)]) (st2 := [.int 0, .int (nI (10 + nw)), .ref 180]) (h2 := h8207x) (dc2 := 0) (ds2 := 0) 1 rfl ?_
            have e220x := (f8207x.2 _ _ (wnc (by decide) wn0) (f8203x.2 _ _ (wnc (by decide) wn0) hWy))
            try have q221x := nI_toInt (n := (10 + nw)) (by omega)
            refine wq_iastn rfl e220x (by first | omega | exact zin_t (by omega) (by omega)) (by decide) rfl ?_
            intro hh222x e223x ff224x lh225x
            have e223x : zat hh222x 180 = some (.inl (0, 20, (zset 0 wy (10 + nw) (0 : Int32)))) := e223x
            refine wq_gos (f := 1) (pc2 := 107) (ls2 := [(1, .int 0), (0, .ref 162)]) (st2 := [.int 6, .ref 162, .int 6, .ref 162]) (h2 := hh222x) (dc2 := 0) (ds2 := 0) 4 rfl ?_
            have e226x := (ff224x.2 _ _ (wnc (by decide) wn0) c0207x)
            refine wq_inlv (y2 := 169) (as := [.int 6]) rfl rfl rfl e226x rfl ?_
            show wq 169 0 [(0, .ref 162), (1, .int 6)] [] hh222x 0 0 _
            refine wq_gos (f := 1) (pc2 := 1) (ls2 := [(0, .ref 162), (1, .int 6)]) (st2 := [.ref 162]) (h2 := hh222x) (dc2 := 0) (ds2 := 0) 1 rfl ?_
            refine wq_getf rfl e226x rfl rfl ?_
            refine wq_gos (f := 1) (pc2 := 8) (ls2 := [(0, .ref 162), (1, .int 6)]) (st2 := [.int 13, .ref 166]) (h2 := hh222x) (dc2 := 0) (ds2 := 0) 3 rfl ?_
            have e227x := (ff224x.2 _ _ (wnc (by decide) wn0) e219x)
            refine wq_iald rfl e227x rfl rfl ?_
            refine wq_vi hN.2.1 ?_
            refine wq_ret rfl rfl ?_
            show wq 178 110 [(1, .int 0), (0, .ref 162)] [.int (nI nw), .int 6, .ref 162] hh222x 0 0 _
            refine wq_gos (f := 1) (pc2 := 112) (ls2 := [(1, .int 0), (0, .ref 162)]) (st2 := [.int ((nI nw) + (1 : Int32)), .int 6, .ref 162]) (h2 := hh222x) (dc2 := 0) (ds2 := 0) 2 rfl ?_
            refine wq_vi (show (nI nw) + (1 : Int32) = nI (nw + 1) from nI_add nw 1) ?_
            refine wq_inlv (y2 := 170) (as := [.int 6, .int (nI (nw + 1))]) rfl rfl rfl e226x rfl ?_
            show wq 170 0 [(0, .ref 162), (1, .int 6), (2, .int (nI (nw + 1)))] [] hh222x 0 0 _
            refine wq_gos (f := 1) (pc2 := 1) (ls2 := [(0, .ref 162), (1, .int 6), (2, .int (nI (nw + 1)))]) (st2 := [.ref 162]) (h2 := hh222x) (dc2 := 0) (ds2 := 0) 1 rfl ?_
            refine wq_getf rfl e226x rfl rfl ?_
            refine wq_gos (f := 1) (pc2 := 9) (ls2 := [(0, .ref 162), (1, .int 6), (2, .int (nI (nw + 1)))]) (st2 := [.int (nI (nw + 1)), .int 13, .ref 166]) (h2 := hh222x) (dc2 := 0) (ds2 := 0) 4 rfl ?_
            refine wq_iast rfl e227x rfl rfl ?_
            intro hh228x e229x ff230x lh231x
            have e229x : zat hh228x 166 = some (.inl (0, 14, (zset 0 kn 13 (nI (nw + 1))))) := e229x
            refine wq_ret rfl rfl ?_
            show wq 178 115 [(1, .int 0), (0, .ref 162)] [] hh228x 0 0 _
            refine wq_gos (f := 1) (pc2 := 116) (ls2 := [(1, .int 0), (0, .ref 162)]) (st2 := [.ref 162]) (h2 := hh228x) (dc2 := 0) (ds2 := 0) 1 rfl ?_
            have e232x := (ff230x.2 _ _ (wnc (by decide) wn0) e226x)
            have e233x := (ff230x.2 _ _ (wnc (by decide) wn0) (ff224x.2 _ _ (wnc (by decide) wn0) (f8207x.2 _ _ (wnc (by decide) wn0) e206x)))
            refine wq_inlv (y2 := 159) (as := []) rfl rfl rfl e232x rfl (wq_mono (m_tok e232x e233x (by first | assumption | omega | decide | solve_by_elim) ⟨Nat.le_refl _, by omega⟩) ?_)
            rintro _ ⟨h8234x, rfl, f8234x, l8234x, c0234x, p0234x, p1234x, p2234x, p3234x⟩
            show wq 178 119 [(1, .int 0), (0, .ref 162)] [] h8234x 0 0 _
            obtain ⟨v235x, hv236x⟩ : ∃ x, x = (mTok tb sz (v208x.1) (v208x.2.2.2)) := ⟨_, rfl⟩
            try rw [← hv236x] at c0234x
            try rw [← hv236x] at p0234x
            try rw [← hv236x] at p1234x
            try rw [← hv236x] at p2234x
            try rw [← hv236x] at p3234x
            try rw [← hv236x]
            have e237x := (f8234x.2 _ _ (wnc (by decide) wn0) e229x)
            have e238x := (f8234x.2 _ _ (wnc (by decide) wn0) (ff230x.2 _ _ (wnc (by decide) wn0) e223x))
            have hx : (mRdG tb sz at9 pl so va ft fp ns nw kn sn wy) = ((v204x.1), (v204x.2), (v235x.1), (v235x.2.1), (v235x.2.2.1), (v235x.2.2.2), (zset 0 kn 13 (nI (nw + 1))), (zset 0 wy (10 + nw) (0 : Int32))) := by unfold mRdG; rw [if_neg (fun q => q b4x), zlet_eq hv205x, zlet_eq hv209x, if_pos b210x, if_pos b213x, if_pos b215x, if_pos b217x, zlet_eq hv236x]
            rw [hx]
            exact wq_ret rfl rfl ⟨h8234x, rfl, (wFr_tr (wFr_sub f8203x (by simp)) (wFr_tr (wFr_sub f8207x (by simp)) (wFr_tr (wFr_sub ff224x (by simp)) (wFr_tr (wFr_sub ff230x (by simp)) (wFr_sub f8234x (by simp)))))), by omega, c0234x, e237x, e238x, (by (try dsimp only); first | assumption | omega), (by (try dsimp only); first | assumption | omega), (by (try dsimp only); first | assumption | omega), (by (try dsimp only); first | assumption | omega), (by (try dsimp only); first | assumption | omega), (by (try dsimp only); intro q9; first | omega | exact ⟨nw + 1, wNm_13 hN (by omega), wW2_s hW (by omega)⟩), (by (try dsimp only); first | assumption | exact wFh_set hz1 (by decide) | exact wFh_set hz2 (by omega)), (by (try dsimp only); first | assumption | exact wFh_set hz1 (by decide) | exact wFh_set hz2 (by omega))⟩
          · have q239x : (v204x.1).toInt ≠ 0 := fun q => b217x (Int32.toInt_inj.mp q)
            have e240x := (f8207x.2 _ _ (wnc (by decide) wn0) (f8203x.2 _ _ (wnc (by decide) wn0) hKn))
            have e241x := (f8207x.2 _ _ (wnc (by decide) wn0) (f8203x.2 _ _ (wnc (by decide) wn0) hWy))
            have hx : (mRdG tb sz at9 pl so va ft fp ns nw kn sn wy) = ((v204x.1), (v204x.2), (v208x.1), (v208x.2.1), (v208x.2.2.1), (v208x.2.2.2), kn, wy) := by unfold mRdG; rw [if_neg (fun q => q b4x), zlet_eq hv205x, zlet_eq hv209x, if_pos b210x, if_pos b213x, if_pos b215x, if_neg b217x]
            rw [hx]
            exact wq_ret rfl rfl ⟨h8207x, rfl, (wFr_tr (wFr_sub f8203x (by simp)) (wFr_sub f8207x (by simp))), by omega, c0207x, e240x, e241x, (by (try dsimp only); first | assumption | omega), (by (try dsimp only); first | assumption | omega), (by (try dsimp only); first | assumption | omega), (by (try dsimp only); first | assumption | omega), (by (try dsimp only); first | assumption | omega), (by (try dsimp only); intro q9; first | omega | exact ⟨nw + 1, wNm_13 hN (by omega), wW2_s hW (by omega)⟩), (by (try dsimp only); first | assumption | exact wFh_set hz1 (by decide) | exact wFh_set hz2 (by omega)), (by (try dsimp only); first | assumption | exact wFh_set hz1 (by decide) | exact wFh_set hz2 (by omega))⟩
        · have q242x : (v204x.1).toInt = 0 := congrArg Int32.toInt b215x
          refine wq_gos (f := 1) (pc2 := 53) (ls2 := [(0, .ref 162)]) (st2 := [.int 5, .ref 162, .int 8, .ref 162]) (h2 := h8207x) (dc2 := 0) (ds2 := 0) 4 rfl ?_
          refine wq_inlv (y2 := 169) (as := [.int 5]) rfl rfl rfl c0207x rfl ?_
          show wq 169 0 [(0, .ref 162), (1, .int 5)] [] h8207x 0 0 _
          refine wq_gos (f := 1) (pc2 := 1) (ls2 := [(0, .ref 162), (1, .int 5)]) (st2 := [.ref 162]) (h2 := h8207x) (dc2 := 0) (ds2 := 0) 1 rfl ?_
          refine wq_getf rfl c0207x rfl rfl ?_
          refine wq_gos (f := 1) (pc2 := 8) (ls2 := [(0, .ref 162), (1, .int 5)]) (st2 := [.int 12, .ref 166]) (h2 := h8207x) (dc2 := 0) (ds2 := 0) 3 rfl ?_
          have e243x := (f8207x.2 _ _ (wnc (by decide) wn0) (f8203x.2 _ _ (wnc (by decide) wn0) hKn))
          have q244x : (12 : Int32).toInt = 12 := rfl
          refine wq_iald rfl e243x rfl rfl ?_
          refine wq_vi hN.1 ?_
          refine wq_ret rfl rfl ?_
          show wq 178 56 [(0, .ref 162)] [.int (nI ns), .int 8, .ref 162] h8207x 0 0 _
          refine wq_gos (f := 1) (pc2 := 57) (ls2 := [(0, .ref 162)]) (st2 := [.ref 162, .int (nI ns), .int 8, .ref 162]) (h2 := h8207x) (dc2 := 0) (ds2 := 0) 1 rfl ?_
          refine wq_getf rfl c0207x rfl rfl ?_
          have e245x := (f8207x.2 _ _ (wnc (by decide) wn0) (f8203x.2 _ _ (wnc (by decide) wn0) hSn))
          have q246x : (8 : Int32).toInt = 8 := rfl
          try have q247x := nI_toInt (n := ns) (by omega)
          refine wq_inlv (y2 := 176) (as := [.int 8, .int (nI ns), .int (v208x.2.2.2)]) rfl rfl rfl c0207x rfl (wq_mono (m_spA (f := 8) c0207x e245x (by first | assumption | omega | decide | solve_by_elim)) ?_)
          rintro _ ⟨rfl, p0248x⟩
          show wq 178 63 [(0, .ref 162)] [.int (mspF sn 8 ns (v208x.2.2.2) (ns - 0 + 1) 0)] h8207x 0 0 _
          refine wq_gos (f := 1) (pc2 := 70) (ls2 := [(1, .int (mspF sn 8 ns (v208x.2.2.2) (ns - 0 + 1) 0)), (0, .ref 162)]) (st2 := [.int (-1), .int (mspF sn 8 ns (v208x.2.2.2) (ns - 0 + 1) 0)]) (h2 := h8207x) (dc2 := 0) (ds2 := 0) 4 rfl ?_
          have q249x : (-1 : Int32).toInt = -1 := rfl
          refine wq_ne2 rfl rfl (fun b250x => ?_) (fun b250x => ?_)
          · have q251x : (mspF sn 8 ns (v208x.2.2.2) (ns - 0 + 1) 0).toInt ≠ -1 := fun q => b250x (Int32.toInt_inj.mp q)
            refine wq_gos (f := 1) (pc2 := 79) (ls2 := [(1, .int (mspF sn 8 ns (v208x.2.2.2) (ns - 0 + 1) 0)), (0, .ref 162)]) (st2 := [.ref 162]) (h2 := h8207x) (dc2 := 0) (ds2 := 0) 1 rfl ?_
            refine wq_getf rfl c0207x rfl rfl ?_
            refine wq_eq0 rfl rfl (fun b252x => ?_) (fun b252x => ?_)
            · have q253x : (v204x.1).toInt = 0 := congrArg Int32.toInt b252x
              refine wq_gos (f := 1) (pc2 := 87) (ls2 := [(1, .int (mspF sn 8 ns (v208x.2.2.2) (ns - 0 + 1) 0)), (0, .ref 162)]) (st2 := [.ref 162]) (h2 := h8207x) (dc2 := 0) (ds2 := 0) 1 rfl ?_
              refine wq_getf rfl c0207x rfl rfl ?_
              refine wq_gos (f := 1) (pc2 := 95) (ls2 := [(1, .int (mspF sn 8 ns (v208x.2.2.2) (ns - 0 + 1) 0)), (0, .ref 162)]) (st2 := [.int 6, .ref 162, .int 10, .ref 180]) (h2 := h8207x) (dc2 := 0) (ds2 := 0) 3 rfl ?_
              refine wq_inlv (y2 := 169) (as := [.int 6]) rfl rfl rfl c0207x rfl ?_
              show wq 169 0 [(0, .ref 162), (1, .int 6)] [] h8207x 0 0 _
              refine wq_gos (f := 1) (pc2 := 1) (ls2 := [(0, .ref 162), (1, .int 6)]) (st2 := [.ref 162]) (h2 := h8207x) (dc2 := 0) (ds2 := 0) 1 rfl ?_
              refine wq_getf rfl c0207x rfl rfl ?_
              refine wq_gos (f := 1) (pc2 := 8) (ls2 := [(0, .ref 162), (1, .int 6)]) (st2 := [.int 13, .ref 166]) (h2 := h8207x) (dc2 := 0) (ds2 := 0) 3 rfl ?_
              refine wq_iald rfl e243x rfl rfl ?_
              refine wq_vi hN.2.1 ?_
              refine wq_ret rfl rfl ?_
              show wq 178 98 [(1, .int (mspF sn 8 ns (v208x.2.2.2) (ns - 0 + 1) 0)), (0, .ref 162)] [.int (nI nw), .int 10, .ref 180] h8207x 0 0 _
              refine wq_gos (f := 1) (pc2 := 99) (ls2 := [(1, .int (mspF sn 8 ns (v208x.2.2.2) (ns - 0 + 1) 0)), (0, .ref 162)]) (st2 := [.int ((10 : Int32) + (nI nw)), .ref 180]) (h2 := h8207x) (dc2 := 0) (ds2 := 0) 1 rfl ?_
              refine wq_vi (show (10 : Int32) + (nI nw) = nI (10 + nw) from nI_add 10 nw) ?_
              refine wq_gos (f := 1) (pc2 := 100) (ls2 := [(1, .int (mspF sn 8 ns (v208x.2.2.2) (ns - 0 + 1) 0)), (0, .ref 162)]) (st2 := [.int (mspF sn 8 ns (v208x.2.2.2) (ns - 0 + 1) 0), .int (nI (10 + nw)), .ref 180]) (h2 := h8207x) (dc2 := 0) (ds2 := 0) 1 rfl ?_
              have e254x := (f8207x.2 _ _ (wnc (by decide) wn0) (f8203x.2 _ _ (wnc (by decide) wn0) hWy))
              try have q255x := nI_toInt (n := (10 + nw)) (by omega)
              refine wq_iastn rfl e254x (by first | omega | exact zin_t (by omega) (by omega)) (by decide) rfl ?_
              intro hh256x e257x ff258x lh259x
              have e257x : zat hh256x 180 = some (.inl (0, 20, (zset 0 wy (10 + nw) (mspF sn 8 ns (v208x.2.2.2) (ns - 0 + 1) 0)))) := e257x
              refine wq_gos (f := 1) (pc2 := 107) (ls2 := [(1, .int (mspF sn 8 ns (v208x.2.2.2) (ns - 0 + 1) 0)), (0, .ref 162)]) (st2 := [.int 6, .ref 162, .int 6, .ref 162]) (h2 := hh256x) (dc2 := 0) (ds2 := 0) 4 rfl ?_
              have e260x := (ff258x.2 _ _ (wnc (by decide) wn0) c0207x)
              refine wq_inlv (y2 := 169) (as := [.int 6]) rfl rfl rfl e260x rfl ?_
              show wq 169 0 [(0, .ref 162), (1, .int 6)] [] hh256x 0 0 _
              refine wq_gos (f := 1) (pc2 := 1) (ls2 := [(0, .ref 162), (1, .int 6)]) (st2 := [.ref 162]) (h2 := hh256x) (dc2 := 0) (ds2 := 0) 1 rfl ?_
              refine wq_getf rfl e260x rfl rfl ?_
              refine wq_gos (f := 1) (pc2 := 8) (ls2 := [(0, .ref 162), (1, .int 6)]) (st2 := [.int 13, .ref 166]) (h2 := hh256x) (dc2 := 0) (ds2 := 0) 3 rfl ?_
              have e261x := (ff258x.2 _ _ (wnc (by decide) wn0) e243x)
              refine wq_iald rfl e261x rfl rfl ?_
              refine wq_vi hN.2.1 ?_
              refine wq_ret rfl rfl ?_
              show wq 178 110 [(1, .int (mspF sn 8 ns (v208x.2.2.2) (ns - 0 + 1) 0)), (0, .ref 162)] [.int (nI nw), .int 6, .ref 162] hh256x 0 0 _
              refine wq_gos (f := 1) (pc2 := 112) (ls2 := [(1, .int (mspF sn 8 ns (v208x.2.2.2) (ns - 0 + 1) 0)), (0, .ref 162)]) (st2 := [.int ((nI nw) + (1 : Int32)), .int 6, .ref 162]) (h2 := hh256x) (dc2 := 0) (ds2 := 0) 2 rfl ?_
              refine wq_vi (show (nI nw) + (1 : Int32) = nI (nw + 1) from nI_add nw 1) ?_
              refine wq_inlv (y2 := 170) (as := [.int 6, .int (nI (nw + 1))]) rfl rfl rfl e260x rfl ?_
              show wq 170 0 [(0, .ref 162), (1, .int 6), (2, .int (nI (nw + 1)))] [] hh256x 0 0 _
              refine wq_gos (f := 1) (pc2 := 1) (ls2 := [(0, .ref 162), (1, .int 6), (2, .int (nI (nw + 1)))]) (st2 := [.ref 162]) (h2 := hh256x) (dc2 := 0) (ds2 := 0) 1 rfl ?_
              refine wq_getf rfl e260x rfl rfl ?_
              refine wq_gos (f := 1) (pc2 := 9) (ls2 := [(0, .ref 162), (1, .int 6), (2, .int (nI (nw + 1)))]) (st2 := [.int (nI (nw + 1)), .int 13, .ref 166]) (h2 := hh256x) (dc2 := 0) (ds2 := 0) 4 rfl ?_
              refine wq_iast rfl e261x rfl rfl ?_
              intro hh262x e263x ff264x lh265x
              have e263x : zat hh262x 166 = some (.inl (0, 14, (zset 0 kn 13 (nI (nw + 1))))) := e263x
              refine wq_ret rfl rfl ?_
              show wq 178 115 [(1, .int (mspF sn 8 ns (v208x.2.2.2) (ns - 0 + 1) 0)), (0, .ref 162)] [] hh262x 0 0 _
              refine wq_gos (f := 1) (pc2 := 116) (ls2 := [(1, .int (mspF sn 8 ns (v208x.2.2.2) (ns - 0 + 1) 0)), (0, .ref 162)]) (st2 := [.ref 162]) (h2 := hh262x) (dc2 := 0) (ds2 := 0) 1 rfl ?_
              have e266x := (ff264x.2 _ _ (wnc (by decide) wn0) e260x)
              have e267x := (ff264x.2 _ _ (wnc (by decide) wn0) (ff258x.2 _ _ (wnc (by decide) wn0) (f8207x.2 _ _ (wnc (by decide) wn0) e206x)))
              refine wq_inlv (y2 := 159) (as := []) rfl rfl rfl e266x rfl (wq_mono (m_tok e266x e267x (by first | assumption | omega | decide | solve_by_elim) ⟨Nat.le_refl _, by omega⟩) ?_)
              rintro _ ⟨h8268x, rfl, f8268x, l8268x, c0268x, p0268x, p1268x, p2268x, p3268x⟩
              show wq 178 119 [(1, .int (mspF sn 8 ns (v208x.2.2.2) (ns - 0 + 1) 0)), (0, .ref 162)] [] h8268x 0 0 _
              obtain ⟨v269x, hv270x⟩ : ∃ x, x = (mTok tb sz (v208x.1) (v208x.2.2.2)) := ⟨_, rfl⟩
              try rw [← hv270x] at c0268x
              try rw [← hv270x] at p0268x
              try rw [← hv270x] at p1268x
              try rw [← hv270x] at p2268x
              try rw [← hv270x] at p3268x
              try rw [← hv270x]
              have e271x := (f8268x.2 _ _ (wnc (by decide) wn0) e263x)
              have e272x := (f8268x.2 _ _ (wnc (by decide) wn0) (ff264x.2 _ _ (wnc (by decide) wn0) e257x))
              have hx : (mRdG tb sz at9 pl so va ft fp ns nw kn sn wy) = ((v204x.1), (v204x.2), (v269x.1), (v269x.2.1), (v269x.2.2.1), (v269x.2.2.2), (zset 0 kn 13 (nI (nw + 1))), (zset 0 wy (10 + nw) (mspF sn 8 ns (v208x.2.2.2) (ns - 0 + 1) 0))) := by unfold mRdG; rw [if_neg (fun q => q b4x), zlet_eq hv205x, zlet_eq hv209x, if_pos b210x, if_pos b213x, if_neg (fun q => q b215x), if_pos b250x, if_pos b252x, zlet_eq hv270x]
              rw [hx]
              exact wq_ret rfl rfl ⟨h8268x, rfl, (wFr_tr (wFr_sub f8203x (by simp)) (wFr_tr (wFr_sub f8207x (by simp)) (wFr_tr (wFr_sub ff258x (by simp)) (wFr_tr (wFr_sub ff264x (by simp)) (wFr_sub f8268x (by simp)))))), by omega, c0268x, e271x, e272x, (by (try dsimp only); first | assumption | omega), (by (try dsimp only); first | assumption | omega), (by (try dsimp only); first | assumption | omega), (by (try dsimp only); first | assumption | omega), (by (try dsimp only); first | assumption | omega), (by (try dsimp only); intro q9; first | omega | exact ⟨nw + 1, wNm_13 hN (by omega), wW2_s hW (by omega)⟩), (by (try dsimp only); first | assumption | exact wFh_set hz1 (by decide) | exact wFh_set hz2 (by omega)), (by (try dsimp only); first | assumption | exact wFh_set hz1 (by decide) | exact wFh_set hz2 (by omega))⟩
            · have q273x : (v204x.1).toInt ≠ 0 := fun q => b252x (Int32.toInt_inj.mp q)
              have e274x := (f8207x.2 _ _ (wnc (by decide) wn0) (f8203x.2 _ _ (wnc (by decide) wn0) hWy))
              have hx : (mRdG tb sz at9 pl so va ft fp ns nw kn sn wy) = ((v204x.1), (v204x.2), (v208x.1), (v208x.2.1), (v208x.2.2.1), (v208x.2.2.2), kn, wy) := by unfold mRdG; rw [if_neg (fun q => q b4x), zlet_eq hv205x, zlet_eq hv209x, if_pos b210x, if_pos b213x, if_neg (fun q => q b215x), if_pos b250x, if_neg b252x]
              rw [hx]
              exact wq_ret rfl rfl ⟨h8207x, rfl, (wFr_tr (wFr_sub f8203x (by simp)) (wFr_sub f8207x (by simp))), by omega, c0207x, e243x, e274x, (by (try dsimp only); first | assumption | omega), (by (try dsimp only); first | assumption | omega), (by (try dsimp only); first | assumption | omega), (by (try dsimp only); first | assumption | omega), (by (try dsimp only); first | assumption | omega), (by (try dsimp only); intro q9; first | omega | exact ⟨nw + 1, wNm_13 hN (by omega), wW2_s hW (by omega)⟩), (by (try dsimp only); first | assumption | exact wFh_set hz1 (by decide) | exact wFh_set hz2 (by omega)), (by (try dsimp only); first | assumption | exact wFh_set hz1 (by decide) | exact wFh_set hz2 (by omega))⟩
          · have q275x : (mspF sn 8 ns (v208x.2.2.2) (ns - 0 + 1) 0).toInt = -1 := congrArg Int32.toInt b250x
            refine wq_gos (f := 1) (pc2 := 75) (ls2 := [(1, .int (mspF sn 8 ns (v208x.2.2.2) (ns - 0 + 1) 0)), (0, .ref 162)]) (st2 := [.int 4, .ref 162]) (h2 := h8207x) (dc2 := 0) (ds2 := 0) 2 rfl ?_
            have q276x : (4 : Int32).toInt = 4 := rfl
            refine wq_inlv (y2 := 163) (as := [.int 4]) rfl rfl rfl c0207x rfl (wq_mono (m_wro c0207x (by first | assumption | omega | decide | solve_by_elim) (by first | assumption | omega | decide | solve_by_elim)) ?_)
            rintro _ ⟨h8277x, rfl, f8277x, l8277x, c0277x, p0277x⟩
            show wq 178 78 [(1, .int (mspF sn 8 ns (v208x.2.2.2) (ns - 0 + 1) 0)), (0, .ref 162)] [] h8277x 0 0 _
            obtain ⟨v278x, hv279x⟩ : ∃ x, x = (mWro (v208x.2.1) (v204x.1) (v204x.2) (4 : Int32)) := ⟨_, rfl⟩
            try rw [← hv279x] at c0277x
            try rw [← hv279x] at p0277x
            try rw [← hv279x]
            refine wq_gos (f := 1) (pc2 := 79) (ls2 := [(1, .int (mspF sn 8 ns (v208x.2.2.2) (ns - 0 + 1) 0)), (0, .ref 162)]) (st2 := [.ref 162]) (h2 := h8277x) (dc2 := 0) (ds2 := 0) 1 rfl ?_
            refine wq_getf rfl c0277x rfl rfl ?_
            refine wq_eq0 rfl rfl (fun b280x => ?_) (fun b280x => ?_)
            · have q281x : (v278x.1).toInt = 0 := congrArg Int32.toInt b280x
              refine wq_gos (f := 1) (pc2 := 87) (ls2 := [(1, .int (mspF sn 8 ns (v208x.2.2.2) (ns - 0 + 1) 0)), (0, .ref 162)]) (st2 := [.ref 162]) (h2 := h8277x) (dc2 := 0) (ds2 := 0) 1 rfl ?_
              refine wq_getf rfl c0277x rfl rfl ?_
              refine wq_gos (f := 1) (pc2 := 95) (ls2 := [(1, .int (mspF sn 8 ns (v208x.2.2.2) (ns - 0 + 1) 0)), (0, .ref 162)]) (st2 := [.int 6, .ref 162, .int 10, .ref 180]) (h2 := h8277x) (dc2 := 0) (ds2 := 0) 3 rfl ?_
              refine wq_inlv (y2 := 169) (as := [.int 6]) rfl rfl rfl c0277x rfl ?_
              show wq 169 0 [(0, .ref 162), (1, .int 6)] [] h8277x 0 0 _
              refine wq_gos (f := 1) (pc2 := 1) (ls2 := [(0, .ref 162), (1, .int 6)]) (st2 := [.ref 162]) (h2 := h8277x) (dc2 := 0) (ds2 := 0) 1 rfl ?_
              refine wq_getf rfl c0277x rfl rfl ?_
              refine wq_gos (f := 1) (pc2 := 8) (ls2 := [(0, .ref 162), (1, .int 6)]) (st2 := [.int 13, .ref 166]) (h2 := h8277x) (dc2 := 0) (ds2 := 0) 3 rfl ?_
              have e282x := (f8277x.2 _ _ (wnc (by decide) wn0) e243x)
              refine wq_iald rfl e282x rfl rfl ?_
              refine wq_vi hN.2.1 ?_
              refine wq_ret rfl rfl ?_
              show wq 178 98 [(1, .int (mspF sn 8 ns (v208x.2.2.2) (ns - 0 + 1) 0)), (0, .ref 162)] [.int (nI nw), .int 10, .ref 180] h8277x 0 0 _
              refine wq_gos (f := 1) (pc2 := 99) (ls2 := [(1, .int (mspF sn 8 ns (v208x.2.2.2) (ns - 0 + 1) 0)), (0, .ref 162)]) (st2 := [.int ((10 : Int32) + (nI nw)), .ref 180]) (h2 := h8277x) (dc2 := 0) (ds2 := 0) 1 rfl ?_
              refine wq_vi (show (10 : Int32) + (nI nw) = nI (10 + nw) from nI_add 10 nw) ?_
              refine wq_gos (f := 1) (pc2 := 100) (ls2 := [(1, .int (mspF sn 8 ns (v208x.2.2.2) (ns - 0 + 1) 0)), (0, .ref 162)]) (st2 := [.int (mspF sn 8 ns (v208x.2.2.2) (ns - 0 + 1) 0), .int (nI (10 + nw)), .ref 180]) (h2 := h8277x) (dc2 := 0) (ds2 := 0) 1 rfl ?_
              have e283x := (f8277x.2 _ _ (wnc (by decide) wn0) (f8207x.2 _ _ (wnc (by decide) wn0) (f8203x.2 _ _ (wnc (by decide) wn0) hWy)))
              try have q284x := nI_toInt (n := (10 + nw)) (by omega)
              refine wq_iastn rfl e283x (by first | omega | exact zin_t (by omega) (by omega)) (by decide) rfl ?_
              intro hh285x e286x ff287x lh288x
              have e286x : zat hh285x 180 = some (.inl (0, 20, (zset 0 wy (10 + nw) (mspF sn 8 ns (v208x.2.2.2) (ns - 0 + 1) 0)))) := e286x
              refine wq_gos (f := 1) (pc2 := 107) (ls2 := [(1, .int (mspF sn 8 ns (v208x.2.2.2) (ns - 0 + 1) 0)), (0, .ref 162)]) (st2 := [.int 6, .ref 162, .int 6, .ref 162]) (h2 := hh285x) (dc2 := 0) (ds2 := 0) 4 rfl ?_
              have e289x := (ff287x.2 _ _ (wnc (by decide) wn0) c0277x)
              refine wq_inlv (y2 := 169) (as := [.int 6]) rfl rfl rfl e289x rfl ?_
              show wq 169 0 [(0, .ref 162), (1, .int 6)] [] hh285x 0 0 _
              refine wq_gos (f := 1) (pc2 := 1) (ls2 := [(0, .ref 162), (1, .int 6)]) (st2 := [.ref 162]) (h2 := hh285x) (dc2 := 0) (ds2 := 0) 1 rfl ?_
              refine wq_getf rfl e289x rfl rfl ?_
              refine wq_gos (f := 1) (pc2 := 8) (ls2 := [(0, .ref 162), (1, .int 6)]) (st2 := [.int 13, .ref 166]) (h2 := hh285x) (dc2 := 0) (ds2 := 0) 3 rfl ?_
              have e290x := (ff287x.2 _ _ (wnc (by decide) wn0) e282x)
              refine wq_iald rfl e290x rfl rfl ?_
              refine wq_vi hN.2.1 ?_
              refine wq_ret rfl rfl ?_
              show wq 178 110 [(1, .int (mspF sn 8 ns (v208x.2.2.2) (ns - 0 + 1) 0)), (0, .ref 162)] [.int (nI nw), .int 6, .ref 162] hh285x 0 0 _
              refine wq_gos (f := 1) (pc2 := 112) (ls2 := [(1, .int (mspF sn 8 ns (v208x.2.2.2) (ns - 0 + 1) 0)), (0, .ref 162)]) (st2 := [.int ((nI nw) + (1 : Int32)), .int 6, .ref 162]) (h2 := hh285x) (dc2 := 0) (ds2 := 0) 2 rfl ?_
              refine wq_vi (show (nI nw) + (1 : Int32) = nI (nw + 1) from nI_add nw 1) ?_
              refine wq_inlv (y2 := 170) (as := [.int 6, .int (nI (nw + 1))]) rfl rfl rfl e289x rfl ?_
              show wq 170 0 [(0, .ref 162), (1, .int 6), (2, .int (nI (nw + 1)))] [] hh285x 0 0 _
              refine wq_gos (f := 1) (pc2 := 1) (ls2 := [(0, .ref 162), (1, .int 6), (2, .int (nI (nw + 1)))]) (st2 := [.ref 162]) (h2 := hh285x) (dc2 := 0) (ds2 := 0) 1 rfl ?_
              refine wq_getf rfl e289x rfl rfl ?_
              refine wq_gos (f := 1) (pc2 := 9) (ls2 := [(0, .ref 162), (1, .int 6), (2, .int (nI (nw + 1)))]) (st2 := [.int (nI (nw + 1)), .int 13, .ref 166]) (h2 := hh285x) (dc2 := 0) (ds2 := 0) 4 rfl ?_
              refine wq_iast rfl e290x rfl rfl ?_
              intro hh291x e292x ff293x lh294x
              have e292x : zat hh291x 166 = some (.inl (0, 14, (zset 0 kn 13 (nI (nw + 1))))) := e292x
              refine wq_ret rfl rfl ?_
              show wq 178 115 [(1, .int (mspF sn 8 ns (v208x.2.2.2) (ns - 0 + 1) 0)), (0, .ref 162)] [] hh291x 0 0 _
              refine wq_gos (f := 1) (pc2 := 116) (ls2 := [(1, .int (mspF sn 8 ns (v208x.2.2.2) (ns - 0 + 1) 0)), (0, .ref 162)]) (st2 := [.ref 162]) (h2 := hh291x) (dc2 := 0) (ds2 := 0) 1 rfl ?_
              have e295x := (ff293x.2 _ _ (wnc (by decide) wn0) e289x)
              have e296x := (ff293x.2 _ _ (wnc (by decide) wn0) (ff287x.2 _ _ (wnc (by decide) wn0) (f8277x.2 _ _ (wnc (by decide) wn0) (f8207x.2 _ _ (wnc (by decide) wn0) e206x))))
              refine wq_inlv (y2 := 159) (as := []) rfl rfl rfl e295x rfl (wq_mono (m_tok e295x e296x (by first | assumption | omega | decide | solve_by_elim) ⟨Nat.le_refl _, by omega⟩) ?_)
              rintro _ ⟨h8297x, rfl, f8297x, l8297x, c0297x, p0297x, p1297x, p2297x, p3297x⟩
              show wq 178 119 [(1, .int (mspF sn 8 ns (v208x.2.2.2) (ns - 0 + 1) 0)), (0, .ref 162)] [] h8297x 0 0 _
              obtain ⟨v298x, hv299x⟩ : ∃ x, x = (mTok tb sz (v208x.1) (v208x.2.2.2)) := ⟨_, rfl⟩
              try rw [← hv299x] at c0297x
              try rw [← hv299x] at p0297x
              try rw [← hv299x] at p1297x
              try rw [← hv299x] at p2297x
              try rw [← hv299x] at p3297x
              try rw [← hv299x]
              have e300x := (f8297x.2 _ _ (wnc (by decide) wn0) e292x)
              have e301x := (f8297x.2 _ _ (wnc (by decide) wn0) (ff293x.2 _ _ (wnc (by decide) wn0) e286x))
              have hx : (mRdG tb sz at9 pl so va ft fp ns nw kn sn wy) = ((v278x.1), (v278x.2), (v298x.1), (v298x.2.1), (v298x.2.2.1), (v298x.2.2.2), (zset 0 kn 13 (nI (nw + 1))), (zset 0 wy (10 + nw) (mspF sn 8 ns (v208x.2.2.2) (ns - 0 + 1) 0))) := by unfold mRdG; rw [if_neg (fun q => q b4x), zlet_eq hv205x, zlet_eq hv209x, if_pos b210x, if_pos b213x, if_neg (fun q => q b215x), if_neg (fun q => q b250x), zlet_eq hv279x, if_pos b280x, zlet_eq hv299x]
              rw [hx]
              exact wq_ret rfl rfl ⟨h8297x, rfl, (wFr_tr (wFr_sub f8203x (by simp)) (wFr_tr (wFr_sub f8207x (by simp)) (wFr_tr (wFr_sub f8277x (by simp)) (wFr_tr (wFr_sub ff287x (by simp)) (wFr_tr (wFr_sub ff293x (by simp)) (wFr_sub f8297x (by simp))))))), by omega, c0297x, e300x, e301x, (by (try dsimp only); first | assumption | omega), (by (try dsimp only); first | assumption | omega), (by (try dsimp only); first | assumption | omega), (by (try dsimp only); first | assumption | omega), (by (try dsimp only); first | assumption | omega), (by (try dsimp only); intro q9; first | omega | exact ⟨nw + 1, wNm_13 hN (by omega), wW2_s hW (by omega)⟩), (by (try dsimp only); first | assumption | exact wFh_set hz1 (by decide) | exact wFh_set hz2 (by omega)), (by (try dsimp only); first | assumption | exact wFh_set hz1 (by decide) | exact wFh_set hz2 (by omega))⟩
            · have q302x : (v278x.1).toInt ≠ 0 := fun q => b280x (Int32.toInt_inj.mp q)
              have e303x := (f8277x.2 _ _ (wnc (by decide) wn0) e243x)
              have e304x := (f8277x.2 _ _ (wnc (by decide) wn0) (f8207x.2 _ _ (wnc (by decide) wn0) (f8203x.2 _ _ (wnc (by decide) wn0) hWy)))
              have hx : (mRdG tb sz at9 pl so va ft fp ns nw kn sn wy) = ((v278x.1), (v278x.2), (v208x.1), (v208x.2.1), (v208x.2.2.1), (v208x.2.2.2), kn, wy) := by unfold mRdG; rw [if_neg (fun q => q b4x), zlet_eq hv205x, zlet_eq hv209x, if_pos b210x, if_pos b213x, if_neg (fun q => q b215x), if_neg (fun q => q b250x), zlet_eq hv279x, if_neg b280x]
              rw [hx]
              exact wq_ret rfl rfl ⟨h8277x, rfl, (wFr_tr (wFr_sub f8203x (by simp)) (wFr_tr (wFr_sub f8207x (by simp)) (wFr_sub f8277x (by simp)))), by omega, c0277x, e303x, e304x, (by (try dsimp only); first | assumption | omega), (by (try dsimp only); first | assumption | omega), (by (try dsimp only); first | assumption | omega), (by (try dsimp only); first | assumption | omega), (by (try dsimp only); first | assumption | omega), (by (try dsimp only); intro q9; first | omega | exact ⟨nw + 1, wNm_13 hN (by omega), wW2_s hW (by omega)⟩), (by (try dsimp only); first | assumption | exact wFh_set hz1 (by decide) | exact wFh_set hz2 (by omega)), (by (try dsimp only); first | assumption | exact wFh_set hz1 (by decide) | exact wFh_set hz2 (by omega))⟩
      · have q305x : (v208x.2.2.1).toInt ≠ 1 := fun q => b213x (Int32.toInt_inj.mp q)
        refine wq_gos (f := 1) (pc2 := 38) (ls2 := [(0, .ref 162)]) (st2 := [.int 1, .ref 162]) (h2 := h8207x) (dc2 := 0) (ds2 := 0) 2 rfl ?_
        refine wq_inlv (y2 := 163) (as := [.int 1]) rfl rfl rfl c0207x rfl (wq_mono (m_wro c0207x (by first | assumption | omega | decide | solve_by_elim) (by first | assumption | omega | decide | solve_by_elim)) ?_)
        rintro _ ⟨h8306x, rfl, f8306x, l8306x, c0306x, p0306x⟩
        show wq 178 41 [(0, .ref 162)] [] h8306x 0 0 _
        obtain ⟨v307x, hv308x⟩ : ∃ x, x = (mWro (v208x.2.1) (v204x.1) (v204x.2) (1 : Int32)) := ⟨_, rfl⟩
        try rw [← hv308x] at c0306x
        try rw [← hv308x] at p0306x
        try rw [← hv308x]
        refine wq_gos (f := 1) (pc2 := 42) (ls2 := [(0, .ref 162)]) (st2 := [.ref 162]) (h2 := h8306x) (dc2 := 0) (ds2 := 0) 1 rfl ?_
        refine wq_getf rfl c0306x rfl rfl ?_
        refine wq_ne0 rfl rfl (fun b309x => ?_) (fun b309x => ?_)
        · have q310x : (v307x.1).toInt ≠ 0 := fun q => b309x (Int32.toInt_inj.mp q)
          refine wq_gos (f := 1) (pc2 := 79) (ls2 := [(1, .int 0), (0, .ref 162)]) (st2 := [.ref 162]) (h2 := h8306x) (dc2 := 0) (ds2 := 0) 6 rfl ?_
          refine wq_getf rfl c0306x rfl rfl ?_
          refine wq_eq0 rfl rfl (fun b311x => ?_) (fun b311x => ?_)
          · have q312x : (v307x.1).toInt = 0 := congrArg Int32.toInt b311x
            refine wq_gos (f := 1) (pc2 := 87) (ls2 := [(1, .int 0), (0, .ref 162)]) (st2 := [.ref 162]) (h2 := h8306x) (dc2 := 0) (ds2 := 0) 1 rfl ?_
            refine wq_getf rfl c0306x rfl rfl ?_
            refine wq_gos (f := 1) (pc2 := 95) (ls2 := [(1, .int 0), (0, .ref 162)]) (st2 := [.int 6, .ref 162, .int 10, .ref 180]) (h2 := h8306x) (dc2 := 0) (ds2 := 0) 3 rfl ?_
            refine wq_inlv (y2 := 169) (as := [.int 6]) rfl rfl rfl c0306x rfl ?_
            show wq 169 0 [(0, .ref 162), (1, .int 6)] [] h8306x 0 0 _
            refine wq_gos (f := 1) (pc2 := 1) (ls2 := [(0, .ref 162), (1, .int 6)]) (st2 := [.ref 162]) (h2 := h8306x) (dc2 := 0) (ds2 := 0) 1 rfl ?_
            refine wq_getf rfl c0306x rfl rfl ?_
            refine wq_gos (f := 1) (pc2 := 8) (ls2 := [(0, .ref 162), (1, .int 6)]) (st2 := [.int 13, .ref 166]) (h2 := h8306x) (dc2 := 0) (ds2 := 0) 3 rfl ?_
            have e313x := (f8306x.2 _ _ (wnc (by decide) wn0) (f8207x.2 _ _ (wnc (by decide) wn0) (f8203x.2 _ _ (wnc (by decide) wn0) hKn)))
            refine wq_iald rfl e313x rfl rfl ?_
            refine wq_vi hN.2.1 ?_
            refine wq_ret rfl rfl ?_
            show wq 178 98 [(1, .int 0), (0, .ref 162)] [.int (nI nw), .int 10, .ref 180] h8306x 0 0 _
            refine wq_gos (f := 1) (pc2 := 99) (ls2 := [(1, .int 0), (0, .ref 162)]) (st2 := [.int ((10 : Int32) + (nI nw)), .ref 180]) (h2 := h8306x) (dc2 := 0) (ds2 := 0) 1 rfl ?_
            refine wq_vi (show (10 : Int32) + (nI nw) = nI (10 + nw) from nI_add 10 nw) ?_
            refine wq_gos (f := 1) (pc2 := 100) (ls2 := [(1, .int 0), (0, .ref 162)]) (st2 := [.int 0, .int (nI (10 + nw)), .ref 180]) (h2 := h8306x) (dc2 := 0) (ds2 := 0) 1 rfl ?_
            have e314x := (f8306x.2 _ _ (wnc (by decide) wn0) (f8207x.2 _ _ (wnc (by decide) wn0) (f8203x.2 _ _ (wnc (by decide) wn0) hWy)))
            try have q315x := nI_toInt (n := (10 + nw)) (by omega)
            refine wq_iastn rfl e314x (by first | omega | exact zin_t (by omega) (by omega)) (by decide) rfl ?_
            intro hh316x e317x ff318x lh319x
            have e317x : zat hh316x 180 = some (.inl (0, 20, (zset 0 wy (10 + nw) (0 : Int32)))) := e317x
            refine wq_gos (f := 1) (pc2 := 107) (ls2 := [(1, .int 0), (0, .ref 162)]) (st2 := [.int 6, .ref 162, .int 6, .ref 162]) (h2 := hh316x) (dc2 := 0) (ds2 := 0) 4 rfl ?_
            have e320x := (ff318x.2 _ _ (wnc (by decide) wn0) c0306x)
            refine wq_inlv (y2 := 169) (as := [.int 6]) rfl rfl rfl e320x rfl ?_
            show wq 169 0 [(0, .ref 162), (1, .int 6)] [] hh316x 0 0 _
            refine wq_gos (f := 1) (pc2 := 1) (ls2 := [(0, .ref 162), (1, .int 6)]) (st2 := [.ref 162]) (h2 := hh316x) (dc2 := 0) (ds2 := 0) 1 rfl ?_
            refine wq_getf rfl e320x rfl rfl ?_
            refine wq_gos (f := 1) (pc2 := 8) (ls2 := [(0, .ref 162), (1, .int 6)]) (st2 := [.int 13, .ref 166]) (h2 := hh316x) (dc2 := 0) (ds2 := 0) 3 rfl ?_
            have e321x := (ff318x.2 _ _ (wnc (by decide) wn0) e313x)
            refine wq_iald rfl e321x rfl rfl ?_
            refine wq_vi hN.2.1 ?_
            refine wq_ret rfl rfl ?_
            show wq 178 110 [(1, .int 0), (0, .ref 162)] [.int (nI nw), .int 6, .ref 162] hh316x 0 0 _
            refine wq_gos (f := 1) (pc2 := 112) (ls2 := [(1, .int 0), (0, .ref 162)]) (st2 := [.int ((nI nw) + (1 : Int32)), .int 6, .ref 162]) (h2 := hh316x) (dc2 := 0) (ds2 := 0) 2 rfl ?_
            refine wq_vi (show (nI nw) + (1 : Int32) = nI (nw + 1) from nI_add nw 1) ?_
            refine wq_inlv (y2 := 170) (as := [.int 6, .int (nI (nw + 1))]) rfl rfl rfl e320x rfl ?_
            show wq 170 0 [(0, .ref 162), (1, .int 6), (2, .int (nI (nw + 1)))] [] hh316x 0 0 _
            refine wq_gos (f := 1) (pc2 := 1) (ls2 := [(0, .ref 162), (1, .int 6), (2, .int (nI (nw + 1)))]) (st2 := [.ref 162]) (h2 := hh316x) (dc2 := 0) (ds2 := 0) 1 rfl ?_
            refine wq_getf rfl e320x rfl rfl ?_
            refine wq_gos (f := 1) (pc2 := 9) (ls2 := [(0, .ref 162), (1, .int 6), (2, .int (nI (nw + 1)))]) (st2 := [.int (nI (nw + 1)), .int 13, .ref 166]) (h2 := hh316x) (dc2 := 0) (ds2 := 0) 4 rfl ?_
            refine wq_iast rfl e321x rfl rfl ?_
            intro hh322x e323x ff324x lh325x
            have e323x : zat hh322x 166 = some (.inl (0, 14, (zset 0 kn 13 (nI (nw + 1))))) := e323x
            refine wq_ret rfl rfl ?_
            show wq 178 115 [(1, .int 0), (0, .ref 162)] [] hh322x 0 0 _
            refine wq_gos (f := 1) (pc2 := 116) (ls2 := [(1, .int 0), (0, .ref 162)]) (st2 := [.ref 162]) (h2 := hh322x) (dc2 := 0) (ds2 := 0) 1 rfl ?_
            have e326x := (ff324x.2 _ _ (wnc (by decide) wn0) e320x)
            have e327x := (ff324x.2 _ _ (wnc (by decide) wn0) (ff318x.2 _ _ (wnc (by decide) wn0) (f8306x.2 _ _ (wnc (by decide) wn0) (f8207x.2 _ _ (wnc (by decide) wn0) e206x))))
            refine wq_inlv (y2 := 159) (as := []) rfl rfl rfl e326x rfl (wq_mono (m_tok e326x e327x (by first | assumption | omega | decide | solve_by_elim) ⟨Nat.le_refl _, by omega⟩) ?_)
            rintro _ ⟨h8328x, rfl, f8328x, l8328x, c0328x, p0328x, p1328x, p2328x, p3328x⟩
            show wq 178 119 [(1, .int 0), (0, .ref 162)] [] h8328x 0 0 _
            obtain ⟨v329x, hv330x⟩ : ∃ x, x = (mTok tb sz (v208x.1) (v208x.2.2.2)) := ⟨_, rfl⟩
            try rw [← hv330x] at c0328x
            try rw [← hv330x] at p0328x
            try rw [← hv330x] at p1328x
            try rw [← hv330x] at p2328x
            try rw [← hv330x] at p3328x
            try rw [← hv330x]
            have e331x := (f8328x.2 _ _ (wnc (by decide) wn0) e323x)
            have e332x := (f8328x.2 _ _ (wnc (by decide) wn0) (ff324x.2 _ _ (wnc (by decide) wn0) e317x))
            have hx : (mRdG tb sz at9 pl so va ft fp ns nw kn sn wy) = ((v307x.1), (v307x.2), (v329x.1), (v329x.2.1), (v329x.2.2.1), (v329x.2.2.2), (zset 0 kn 13 (nI (nw + 1))), (zset 0 wy (10 + nw) (0 : Int32))) := by unfold mRdG; rw [if_neg (fun q => q b4x), zlet_eq hv205x, zlet_eq hv209x, if_pos b210x, if_neg b213x, zlet_eq hv308x, if_pos b309x, if_pos b311x, zlet_eq hv330x]
            rw [hx]
            exact wq_ret rfl rfl ⟨h8328x, rfl, (wFr_tr (wFr_sub f8203x (by simp)) (wFr_tr (wFr_sub f8207x (by simp)) (wFr_tr (wFr_sub f8306x (by simp)) (wFr_tr (wFr_sub ff318x (by simp)) (wFr_tr (wFr_sub ff324x (by simp)) (wFr_sub f8328x (by simp))))))), by omega, c0328x, e331x, e332x, (by (try dsimp only); first | assumption | omega), (by (try dsimp only); first | assumption | omega), (by (try dsimp only); first | assumption | omega), (by (try dsimp only); first | assumption | omega), (by (try dsimp only); first | assumption | omega), (by (try dsimp only); intro q9; first | omega | exact ⟨nw + 1, wNm_13 hN (by omega), wW2_s hW (by omega)⟩), (by (try dsimp only); first | assumption | exact wFh_set hz1 (by decide) | exact wFh_set hz2 (by omega)), (by (try dsimp only); first | assumption | exact wFh_set hz1 (by decide) | exact wFh_set hz2 (by omega))⟩
          · have q333x : (v307x.1).toInt ≠ 0 := fun q => b311x (Int32.toInt_inj.mp q)
            have e334x := (f8306x.2 _ _ (wnc (by decide) wn0) (f8207x.2 _ _ (wnc (by decide) wn0) (f8203x.2 _ _ (wnc (by decide) wn0) hKn)))
            have e335x := (f8306x.2 _ _ (wnc (by decide) wn0) (f8207x.2 _ _ (wnc (by decide) wn0) (f8203x.2 _ _ (wnc (by decide) wn0) hWy)))
            have hx : (mRdG tb sz at9 pl so va ft fp ns nw kn sn wy) = ((v307x.1), (v307x.2), (v208x.1), (v208x.2.1), (v208x.2.2.1), (v208x.2.2.2), kn, wy) := by unfold mRdG; rw [if_neg (fun q => q b4x), zlet_eq hv205x, zlet_eq hv209x, if_pos b210x, if_neg b213x, zlet_eq hv308x, if_pos b309x, if_neg b311x]
            rw [hx]
            exact wq_ret rfl rfl ⟨h8306x, rfl, (wFr_tr (wFr_sub f8203x (by simp)) (wFr_tr (wFr_sub f8207x (by simp)) (wFr_sub f8306x (by simp)))), by omega, c0306x, e334x, e335x, (by (try dsimp only); first | assumption | omega), (by (try dsimp only); first | assumption | omega), (by (try dsimp only); first | assumption | omega), (by (try dsimp only); first | assumption | omega), (by (try dsimp only); first | assumption | omega), (by (try dsimp only); intro q9; first | omega | exact ⟨nw + 1, wNm_13 hN (by omega), wW2_s hW (by omega)⟩), (by (try dsimp only); first | assumption | exact wFh_set hz1 (by decide) | exact wFh_set hz2 (by omega)), (by (try dsimp only); first | assumption | exact wFh_set hz1 (by decide) | exact wFh_set hz2 (by omega))⟩
        · have q336x : (v307x.1).toInt = 0 := congrArg Int32.toInt b309x
          refine wq_gos (f := 1) (pc2 := 53) (ls2 := [(0, .ref 162)]) (st2 := [.int 5, .ref 162, .int 8, .ref 162]) (h2 := h8306x) (dc2 := 0) (ds2 := 0) 4 rfl ?_
          refine wq_inlv (y2 := 169) (as := [.int 5]) rfl rfl rfl c0306x rfl ?_
          show wq 169 0 [(0, .ref 162), (1, .int 5)] [] h8306x 0 0 _
          refine wq_gos (f := 1) (pc2 := 1) (ls2 := [(0, .ref 162), (1, .int 5)]) (st2 := [.ref 162]) (h2 := h8306x) (dc2 := 0) (ds2 := 0) 1 rfl ?_
          refine wq_getf rfl c0306x rfl rfl ?_
          refine wq_gos (f := 1) (pc2 := 8) (ls2 := [(0, .ref 162), (1, .int 5)]) (st2 := [.int 12, .ref 166]) (h2 := h8306x) (dc2 := 0) (ds2 := 0) 3 rfl ?_
          have e337x := (f8306x.2 _ _ (wnc (by decide) wn0) (f8207x.2 _ _ (wnc (by decide) wn0) (f8203x.2 _ _ (wnc (by decide) wn0) hKn)))
          have q338x : (12 : Int32).toInt = 12 := rfl
          refine wq_iald rfl e337x rfl rfl ?_
          refine wq_vi hN.1 ?_
          refine wq_ret rfl rfl ?_
          show wq 178 56 [(0, .ref 162)] [.int (nI ns), .int 8, .ref 162] h8306x 0 0 _
          refine wq_gos (f := 1) (pc2 := 57) (ls2 := [(0, .ref 162)]) (st2 := [.ref 162, .int (nI ns), .int 8, .ref 162]) (h2 := h8306x) (dc2 := 0) (ds2 := 0) 1 rfl ?_
          refine wq_getf rfl c0306x rfl rfl ?_
          have e339x := (f8306x.2 _ _ (wnc (by decide) wn0) (f8207x.2 _ _ (wnc (by decide) wn0) (f8203x.2 _ _ (wnc (by decide) wn0) hSn)))
          have q340x : (8 : Int32).toInt = 8 := rfl
          try have q341x := nI_toInt (n := ns) (by omega)
          refine wq_inlv (y2 := 176) (as := [.int 8, .int (nI ns), .int (v208x.2.2.2)]) rfl rfl rfl c0306x rfl (wq_mono (m_spA (f := 8) c0306x e339x (by first | assumption | omega | decide | solve_by_elim)) ?_)
          rintro _ ⟨rfl, p0342x⟩
          show wq 178 63 [(0, .ref 162)] [.int (mspF sn 8 ns (v208x.2.2.2) (ns - 0 + 1) 0)] h8306x 0 0 _
          refine wq_gos (f := 1) (pc2 := 70) (ls2 := [(1, .int (mspF sn 8 ns (v208x.2.2.2) (ns - 0 + 1) 0)), (0, .ref 162)]) (st2 := [.int (-1), .int (mspF sn 8 ns (v208x.2.2.2) (ns - 0 + 1) 0)]) (h2 := h8306x) (dc2 := 0) (ds2 := 0) 4 rfl ?_
          have q343x : (-1 : Int32).toInt = -1 := rfl
          refine wq_ne2 rfl rfl (fun b344x => ?_) (fun b344x => ?_)
          · have q345x : (mspF sn 8 ns (v208x.2.2.2) (ns - 0 + 1) 0).toInt ≠ -1 := fun q => b344x (Int32.toInt_inj.mp q)
            refine wq_gos (f := 1) (pc2 := 79) (ls2 := [(1, .int (mspF sn 8 ns (v208x.2.2.2) (ns - 0 + 1) 0)), (0, .ref 162)]) (st2 := [.ref 162]) (h2 := h8306x) (dc2 := 0) (ds2 := 0) 1 rfl ?_
            refine wq_getf rfl c0306x rfl rfl ?_
            refine wq_eq0 rfl rfl (fun b346x => ?_) (fun b346x => ?_)
            · have q347x : (v307x.1).toInt = 0 := congrArg Int32.toInt b346x
              refine wq_gos (f := 1) (pc2 := 87) (ls2 := [(1, .int (mspF sn 8 ns (v208x.2.2.2) (ns - 0 + 1) 0)), (0, .ref 162)]) (st2 := [.ref 162]) (h2 := h8306x) (dc2 := 0) (ds2 := 0) 1 rfl ?_
              refine wq_getf rfl c0306x rfl rfl ?_
              refine wq_gos (f := 1) (pc2 := 95) (ls2 := [(1, .int (mspF sn 8 ns (v208x.2.2.2) (ns - 0 + 1) 0)), (0, .ref 162)]) (st2 := [.int 6, .ref 162, .int 10, .ref 180]) (h2 := h8306x) (dc2 := 0) (ds2 := 0) 3 rfl ?_
              refine wq_inlv (y2 := 169) (as := [.int 6]) rfl rfl rfl c0306x rfl ?_
              show wq 169 0 [(0, .ref 162), (1, .int 6)] [] h8306x 0 0 _
              refine wq_gos (f := 1) (pc2 := 1) (ls2 := [(0, .ref 162), (1, .int 6)]) (st2 := [.ref 162]) (h2 := h8306x) (dc2 := 0) (ds2 := 0) 1 rfl ?_
              refine wq_getf rfl c0306x rfl rfl ?_
              refine wq_gos (f := 1) (pc2 := 8) (ls2 := [(0, .ref 162), (1, .int 6)]) (st2 := [.int 13, .ref 166]) (h2 := h8306x) (dc2 := 0) (ds2 := 0) 3 rfl ?_
              refine wq_iald rfl e337x rfl rfl ?_
              refine wq_vi hN.2.1 ?_
              refine wq_ret rfl rfl ?_
              show wq 178 98 [(1, .int (mspF sn 8 ns (v208x.2.2.2) (ns - 0 + 1) 0)), (0, .ref 162)] [.int (nI nw), .int 10, .ref 180] h8306x 0 0 _
              refine wq_gos (f := 1) (pc2 := 99) (ls2 := [(1, .int (mspF sn 8 ns (v208x.2.2.2) (ns - 0 + 1) 0)), (0, .ref 162)]) (st2 := [.int ((10 : Int32) + (nI nw)), .ref 180]) (h2 := h8306x) (dc2 := 0) (ds2 := 0) 1 rfl ?_
              refine wq_vi (show (10 : Int32) + (nI nw) = nI (10 + nw) from nI_add 10 nw) ?_
              refine wq_gos (f := 1) (pc2 := 100) (ls2 := [(1, .int (mspF sn 8 ns (v208x.2.2.2) (ns - 0 + 1) 0)), (0, .ref 162)]) (st2 := [.int (mspF sn 8 ns (v208x.2.2.2) (ns - 0 + 1) 0), .int (nI (10 + nw)), .ref 180]) (h2 := h8306x) (dc2 := 0) (ds2 := 0) 1 rfl ?_
              have e348x := (f8306x.2 _ _ (wnc (by decide) wn0) (f8207x.2 _ _ (wnc (by decide) wn0) (f8203x.2 _ _ (wnc (by decide) wn0) hWy)))
              try have q349x := nI_toInt (n := (10 + nw)) (by omega)
              refine wq_iastn rfl e348x (by first | omega | exact zin_t (by omega) (by omega)) (by decide) rfl ?_
              intro hh350x e351x ff352x lh353x
              have e351x : zat hh350x 180 = some (.inl (0, 20, (zset 0 wy (10 + nw) (mspF sn 8 ns (v208x.2.2.2) (ns - 0 + 1) 0)))) := e351x
              refine wq_gos (f := 1) (pc2 := 107) (ls2 := [(1, .int (mspF sn 8 ns (v208x.2.2.2) (ns - 0 + 1) 0)), (0, .ref 162)]) (st2 := [.int 6, .ref 162, .int 6, .ref 162]) (h2 := hh350x) (dc2 := 0) (ds2 := 0) 4 rfl ?_
              have e354x := (ff352x.2 _ _ (wnc (by decide) wn0) c0306x)
              refine wq_inlv (y2 := 169) (as := [.int 6]) rfl rfl rfl e354x rfl ?_
              show wq 169 0 [(0, .ref 162), (1, .int 6)] [] hh350x 0 0 _
              refine wq_gos (f := 1) (pc2 := 1) (ls2 := [(0, .ref 162), (1, .int 6)]) (st2 := [.ref 162]) (h2 := hh350x) (dc2 := 0) (ds2 := 0) 1 rfl ?_
              refine wq_getf rfl e354x rfl rfl ?_
              refine wq_gos (f := 1) (pc2 := 8) (ls2 := [(0, .ref 162), (1, .int 6)]) (st2 := [.int 13, .ref 166]) (h2 := hh350x) (dc2 := 0) (ds2 := 0) 3 rfl ?_
              have e355x := (ff352x.2 _ _ (wnc (by decide) wn0) e337x)
              refine wq_iald rfl e355x rfl rfl ?_
              refine wq_vi hN.2.1 ?_
              refine wq_ret rfl rfl ?_
              show wq 178 110 [(1, .int (mspF sn 8 ns (v208x.2.2.2) (ns - 0 + 1) 0)), (0, .ref 162)] [.int (nI nw), .int 6, .ref 162] hh350x 0 0 _
              refine wq_gos (f := 1) (pc2 := 112) (ls2 := [(1, .int (mspF sn 8 ns (v208x.2.2.2) (ns - 0 + 1) 0)), (0, .ref 162)]) (st2 := [.int ((nI nw) + (1 : Int32)), .int 6, .ref 162]) (h2 := hh350x) (dc2 := 0) (ds2 := 0) 2 rfl ?_
              refine wq_vi (show (nI nw) + (1 : Int32) = nI (nw + 1) from nI_add nw 1) ?_
              refine wq_inlv (y2 := 170) (as := [.int 6, .int (nI (nw + 1))]) rfl rfl rfl e354x rfl ?_
              show wq 170 0 [(0, .ref 162), (1, .int 6), (2, .int (nI (nw + 1)))] [] hh350x 0 0 _
              refine wq_gos (f := 1) (pc2 := 1) (ls2 := [(0, .ref 162), (1, .int 6), (2, .int (nI (nw + 1)))]) (st2 := [.ref 162]) (h2 := hh350x) (dc2 := 0) (ds2 := 0) 1 rfl ?_
              refine wq_getf rfl e354x rfl rfl ?_
              refine wq_gos (f := 1) (pc2 := 9) (ls2 := [(0, .ref 162), (1, .int 6), (2, .int (nI (nw + 1)))]) (st2 := [.int (nI (nw + 1)), .int 13, .ref 166]) (h2 := hh350x) (dc2 := 0) (ds2 := 0) 4 rfl ?_
              refine wq_iast rfl e355x rfl rfl ?_
              intro hh356x e357x ff358x lh359x
              have e357x : zat hh356x 166 = some (.inl (0, 14, (zset 0 kn 13 (nI (nw + 1))))) := e357x
              refine wq_ret rfl rfl ?_
              show wq 178 115 [(1, .int (mspF sn 8 ns (v208x.2.2.2) (ns - 0 + 1) 0)), (0, .ref 162)] [] hh356x 0 0 _
              refine wq_gos (f := 1) (pc2 := 116) (ls2 := [(1, .int (mspF sn 8 ns (v208x.2.2.2) (ns - 0 + 1) 0)), (0, .ref 162)]) (st2 := [.ref 162]) (h2 := hh356x) (dc2 := 0) (ds2 := 0) 1 rfl ?_
              have e360x := (ff358x.2 _ _ (wnc (by decide) wn0) e354x)
              have e361x := (ff358x.2 _ _ (wnc (by decide) wn0) (ff352x.2 _ _ (wnc (by decide) wn0) (f8306x.2 _ _ (wnc (by decide) wn0) (f8207x.2 _ _ (wnc (by decide) wn0) e206x))))
              refine wq_inlv (y2 := 159) (as := []) rfl rfl rfl e360x rfl (wq_mono (m_tok e360x e361x (by first | assumption | omega | decide | solve_by_elim) ⟨Nat.le_refl _, by omega⟩) ?_)
              rintro _ ⟨h8362x, rfl, f8362x, l8362x, c0362x, p0362x, p1362x, p2362x, p3362x⟩
              show wq 178 119 [(1, .int (mspF sn 8 ns (v208x.2.2.2) (ns - 0 + 1) 0)), (0, .ref 162)] [] h8362x 0 0 _
              obtain ⟨v363x, hv364x⟩ : ∃ x, x = (mTok tb sz (v208x.1) (v208x.2.2.2)) := ⟨_, rfl⟩
              try rw [← hv364x] at c0362x
              try rw [← hv364x] at p0362x
              try rw [← hv364x] at p1362x
              try rw [← hv364x] at p2362x
              try rw [← hv364x] at p3362x
              try rw [← hv364x]
              have e365x := (f8362x.2 _ _ (wnc (by decide) wn0) e357x)
              have e366x := (f8362x.2 _ _ (wnc (by decide) wn0) (ff358x.2 _ _ (wnc (by decide) wn0) e351x))
              have hx : (mRdG tb sz at9 pl so va ft fp ns nw kn sn wy) = ((v307x.1), (v307x.2), (v363x.1), (v363x.2.1), (v363x.2.2.1), (v363x.2.2.2), (zset 0 kn 13 (nI (nw + 1))), (zset 0 wy (10 + nw) (mspF sn 8 ns (v208x.2.2.2) (ns - 0 + 1) 0))) := by unfold mRdG; rw [if_neg (fun q => q b4x), zlet_eq hv205x, zlet_eq hv209x, if_pos b210x, if_neg b213x, zlet_eq hv308x, if_neg (fun q => q b309x), if_pos b344x, if_pos b346x, zlet_eq hv364x]
              rw [hx]
              exact wq_ret rfl rfl ⟨h8362x, rfl, (wFr_tr (wFr_sub f8203x (by simp)) (wFr_tr (wFr_sub f8207x (by simp)) (wFr_tr (wFr_sub f8306x (by simp)) (wFr_tr (wFr_sub ff352x (by simp)) (wFr_tr (wFr_sub ff358x (by simp)) (wFr_sub f8362x (by simp))))))), by omega, c0362x, e365x, e366x, (by (try dsimp only); first | assumption | omega), (by (try dsimp only); first | assumption | omega), (by (try dsimp only); first | assumption | omega), (by (try dsimp only); first | assumption | omega), (by (try dsimp only); first | assumption | omega), (by (try dsimp only); intro q9; first | omega | exact ⟨nw + 1, wNm_13 hN (by omega), wW2_s hW (by omega)⟩), (by (try dsimp only); first | assumption | exact wFh_set hz1 (by decide) | exact wFh_set hz2 (by omega)), (by (try dsimp only); first | assumption | exact wFh_set hz1 (by decide) | exact wFh_set hz2 (by omega))⟩
            · have q367x : (v307x.1).toInt ≠ 0 := fun q => b346x (Int32.toInt_inj.mp q)
              have e368x := (f8306x.2 _ _ (wnc (by decide) wn0) (f8207x.2 _ _ (wnc (by decide) wn0) (f8203x.2 _ _ (wnc (by decide) wn0) hWy)))
              have hx : (mRdG tb sz at9 pl so va ft fp ns nw kn sn wy) = ((v307x.1), (v307x.2), (v208x.1), (v208x.2.1), (v208x.2.2.1), (v208x.2.2.2), kn, wy) := by unfold mRdG; rw [if_neg (fun q => q b4x), zlet_eq hv205x, zlet_eq hv209x, if_pos b210x, if_neg b213x, zlet_eq hv308x, if_neg (fun q => q b309x), if_pos b344x, if_neg b346x]
              rw [hx]
              exact wq_ret rfl rfl ⟨h8306x, rfl, (wFr_tr (wFr_sub f8203x (by simp)) (wFr_tr (wFr_sub f8207x (by simp)) (wFr_sub f8306x (by simp)))), by omega, c0306x, e337x, e368x, (by (try dsimp only); first | assumption | omega), (by (try dsimp only); first | assumption | omega), (by (try dsimp only); first | assumption | omega), (by (try dsimp only); first | assumption | omega), (by (try dsimp only); first | assumption | omega), (by (try dsimp only); intro q9; first | omega | exact ⟨nw + 1, wNm_13 hN (by omega), wW2_s hW (by omega)⟩), (by (try dsimp only); first | assumption | exact wFh_set hz1 (by decide) | exact wFh_set hz2 (by omega)), (by (try dsimp only); first | assumption | exact wFh_set hz1 (by decide) | exact wFh_set hz2 (by omega))⟩
          · have q369x : (mspF sn 8 ns (v208x.2.2.2) (ns - 0 + 1) 0).toInt = -1 := congrArg Int32.toInt b344x
            refine wq_gos (f := 1) (pc2 := 75) (ls2 := [(1, .int (mspF sn 8 ns (v208x.2.2.2) (ns - 0 + 1) 0)), (0, .ref 162)]) (st2 := [.int 4, .ref 162]) (h2 := h8306x) (dc2 := 0) (ds2 := 0) 2 rfl ?_
            have q370x : (4 : Int32).toInt = 4 := rfl
            refine wq_inlv (y2 := 163) (as := [.int 4]) rfl rfl rfl c0306x rfl (wq_mono (m_wro c0306x (by first | assumption | omega | decide | solve_by_elim) (by first | assumption | omega | decide | solve_by_elim)) ?_)
            rintro _ ⟨h8371x, rfl, f8371x, l8371x, c0371x, p0371x⟩
            show wq 178 78 [(1, .int (mspF sn 8 ns (v208x.2.2.2) (ns - 0 + 1) 0)), (0, .ref 162)] [] h8371x 0 0 _
            obtain ⟨v372x, hv373x⟩ : ∃ x, x = (mWro (v208x.2.1) (v307x.1) (v307x.2) (4 : Int32)) := ⟨_, rfl⟩
            try rw [← hv373x] at c0371x
            try rw [← hv373x] at p0371x
            try rw [← hv373x]
            refine wq_gos (f := 1) (pc2 := 79) (ls2 := [(1, .int (mspF sn 8 ns (v208x.2.2.2) (ns - 0 + 1) 0)), (0, .ref 162)]) (st2 := [.ref 162]) (h2 := h8371x) (dc2 := 0) (ds2 := 0) 1 rfl ?_
            refine wq_getf rfl c0371x rfl rfl ?_
            refine wq_eq0 rfl rfl (fun b374x => ?_) (fun b374x => ?_)
            · have q375x : (v372x.1).toInt = 0 := congrArg Int32.toInt b374x
              refine wq_gos (f := 1) (pc2 := 87) (ls2 := [(1, .int (mspF sn 8 ns (v208x.2.2.2) (ns - 0 + 1) 0)), (0, .ref 162)]) (st2 := [.ref 162]) (h2 := h8371x) (dc2 := 0) (ds2 := 0) 1 rfl ?_
              refine wq_getf rfl c0371x rfl rfl ?_
              refine wq_gos (f := 1) (pc2 := 95) (ls2 := [(1, .int (mspF sn 8 ns (v208x.2.2.2) (ns - 0 + 1) 0)), (0, .ref 162)]) (st2 := [.int 6, .ref 162, .int 10, .ref 180]) (h2 := h8371x) (dc2 := 0) (ds2 := 0) 3 rfl ?_
              refine wq_inlv (y2 := 169) (as := [.int 6]) rfl rfl rfl c0371x rfl ?_
              show wq 169 0 [(0, .ref 162), (1, .int 6)] [] h8371x 0 0 _
              refine wq_gos (f := 1) (pc2 := 1) (ls2 := [(0, .ref 162), (1, .int 6)]) (st2 := [.ref 162]) (h2 := h8371x) (dc2 := 0) (ds2 := 0) 1 rfl ?_
              refine wq_getf rfl c0371x rfl rfl ?_
              refine wq_gos (f := 1) (pc2 := 8) (ls2 := [(0, .ref 162), (1, .int 6)]) (st2 := [.int 13, .ref 166]) (h2 := h8371x) (dc2 := 0) (ds2 := 0) 3 rfl ?_
              have e376x := (f8371x.2 _ _ (wnc (by decide) wn0) e337x)
              refine wq_iald rfl e376x rfl rfl ?_
              refine wq_vi hN.2.1 ?_
              refine wq_ret rfl rfl ?_
              show wq 178 98 [(1, .int (mspF sn 8 ns (v208x.2.2.2) (ns - 0 + 1) 0)), (0, .ref 162)] [.int (nI nw), .int 10, .ref 180] h8371x 0 0 _
              refine wq_gos (f := 1) (pc2 := 99) (ls2 := [(1, .int (mspF sn 8 ns (v208x.2.2.2) (ns - 0 + 1) 0)), (0, .ref 162)]) (st2 := [.int ((10 : Int32) + (nI nw)), .ref 180]) (h2 := h8371x) (dc2 := 0) (ds2 := 0) 1 rfl ?_
              refine wq_vi (show (10 : Int32) + (nI nw) = nI (10 + nw) from nI_add 10 nw) ?_
              refine wq_gos (f := 1) (pc2 := 100) (ls2 := [(1, .int (mspF sn 8 ns (v208x.2.2.2) (ns - 0 + 1) 0)), (0, .ref 162)]) (st2 := [.int (mspF sn 8 ns (v208x.2.2.2) (ns - 0 + 1) 0), .int (nI (10 + nw)), .ref 180]) (h2 := h8371x) (dc2 := 0) (ds2 := 0) 1 rfl ?_
              have e377x := (f8371x.2 _ _ (wnc (by decide) wn0) (f8306x.2 _ _ (wnc (by decide) wn0) (f8207x.2 _ _ (wnc (by decide) wn0) (f8203x.2 _ _ (wnc (by decide) wn0) hWy))))
              try have q378x := nI_toInt (n := (10 + nw)) (by omega)
              refine wq_iastn rfl e377x (by first | omega | exact zin_t (by omega) (by omega)) (by decide) rfl ?_
              intro hh379x e380x ff381x lh382x
              have e380x : zat hh379x 180 = some (.inl (0, 20, (zset 0 wy (10 + nw) (mspF sn 8 ns (v208x.2.2.2) (ns - 0 + 1) 0)))) := e380x
              refine wq_gos (f := 1) (pc2 := 107) (ls2 := [(1, .int (mspF sn 8 ns (v208x.2.2.2) (ns - 0 + 1) 0)), (0, .ref 162)]) (st2 := [.int 6, .ref 162, .int 6, .ref 162]) (h2 := hh379x) (dc2 := 0) (ds2 := 0) 4 rfl ?_
              have e383x := (ff381x.2 _ _ (wnc (by decide) wn0) c0371x)
              refine wq_inlv (y2 := 169) (as := [.int 6]) rfl rfl rfl e383x rfl ?_
              show wq 169 0 [(0, .ref 162), (1, .int 6)] [] hh379x 0 0 _
              refine wq_gos (f := 1) (pc2 := 1) (ls2 := [(0, .ref 162), (1, .int 6)]) (st2 := [.ref 162]) (h2 := hh379x) (dc2 := 0) (ds2 := 0) 1 rfl ?_
              refine wq_getf rfl e383x rfl rfl ?_
              refine wq_gos (f := 1) (pc2 := 8) (ls2 := [(0, .ref 162), (1, .int 6)]) (st2 := [.int 13, .ref 166]) (h2 := hh379x) (dc2 := 0) (ds2 := 0) 3 rfl ?_
              have e384x := (ff381x.2 _ _ (wnc (by decide) wn0) e376x)
              refine wq_iald rfl e384x rfl rfl ?_
              refine wq_vi hN.2.1 ?_
              refine wq_ret rfl rfl ?_
              show wq 178 110 [(1, .int (mspF sn 8 ns (v208x.2.2.2) (ns - 0 + 1) 0)), (0, .ref 162)] [.int (nI nw), .int 6, .ref 162] hh379x 0 0 _
              refine wq_gos (f := 1) (pc2 := 112) (ls2 := [(1, .int (mspF sn 8 ns (v208x.2.2.2) (ns - 0 + 1) 0)), (0, .ref 162)]) (st2 := [.int ((nI nw) + (1 : Int32)), .int 6, .ref 162]) (h2 := hh379x) (dc2 := 0) (ds2 := 0) 2 rfl ?_
              refine wq_vi (show (nI nw) + (1 : Int32) = nI (nw + 1) from nI_add nw 1) ?_
              refine wq_inlv (y2 := 170) (as := [.int 6, .int (nI (nw + 1))]) rfl rfl rfl e383x rfl ?_
              show wq 170 0 [(0, .ref 162), (1, .int 6), (2, .int (nI (nw + 1)))] [] hh379x 0 0 _
              refine wq_gos (f := 1) (pc2 := 1) (ls2 := [(0, .ref 162), (1, .int 6), (2, .int (nI (nw + 1)))]) (st2 := [.ref 162]) (h2 := hh379x) (dc2 := 0) (ds2 := 0) 1 rfl ?_
              refine wq_getf rfl e383x rfl rfl ?_
              refine wq_gos (f := 1) (pc2 := 9) (ls2 := [(0, .ref 162), (1, .int 6), (2, .int (nI (nw + 1)))]) (st2 := [.int (nI (nw + 1)), .int 13, .ref 166]) (h2 := hh379x) (dc2 := 0) (ds2 := 0) 4 rfl ?_
              refine wq_iast rfl e384x rfl rfl ?_
              intro hh385x e386x ff387x lh388x
              have e386x : zat hh385x 166 = some (.inl (0, 14, (zset 0 kn 13 (nI (nw + 1))))) := e386x
              refine wq_ret rfl rfl ?_
              show wq 178 115 [(1, .int (mspF sn 8 ns (v208x.2.2.2) (ns - 0 + 1) 0)), (0, .ref 162)] [] hh385x 0 0 _
              refine wq_gos (f := 1) (pc2 := 116) (ls2 := [(1, .int (mspF sn 8 ns (v208x.2.2.2) (ns - 0 + 1) 0)), (0, .ref 162)]) (st2 := [.ref 162]) (h2 := hh385x) (dc2 := 0) (ds2 := 0) 1 rfl ?_
              have e389x := (ff387x.2 _ _ (wnc (by decide) wn0) e383x)
              have e390x := (ff387x.2 _ _ (wnc (by decide) wn0) (ff381x.2 _ _ (wnc (by decide) wn0) (f8371x.2 _ _ (wnc (by decide) wn0) (f8306x.2 _ _ (wnc (by decide) wn0) (f8207x.2 _ _ (wnc (by decide) wn0) e206x)))))
              refine wq_inlv (y2 := 159) (as := []) rfl rfl rfl e389x rfl (wq_mono (m_tok e389x e390x (by first | assumption | omega | decide | solve_by_elim) ⟨Nat.le_refl _, by omega⟩) ?_)
              rintro _ ⟨h8391x, rfl, f8391x, l8391x, c0391x, p0391x, p1391x, p2391x, p3391x⟩
              show wq 178 119 [(1, .int (mspF sn 8 ns (v208x.2.2.2) (ns - 0 + 1) 0)), (0, .ref 162)] [] h8391x 0 0 _
              obtain ⟨v392x, hv393x⟩ : ∃ x, x = (mTok tb sz (v208x.1) (v208x.2.2.2)) := ⟨_, rfl⟩
              try rw [← hv393x] at c0391x
              try rw [← hv393x] at p0391x
              try rw [← hv393x] at p1391x
              try rw [← hv393x] at p2391x
              try rw [← hv393x] at p3391x
              try rw [← hv393x]
              have e394x := (f8391x.2 _ _ (wnc (by decide) wn0) e386x)
              have e395x := (f8391x.2 _ _ (wnc (by decide) wn0) (ff387x.2 _ _ (wnc (by decide) wn0) e380x))
              have hx : (mRdG tb sz at9 pl so va ft fp ns nw kn sn wy) = ((v372x.1), (v372x.2), (v392x.1), (v392x.2.1), (v392x.2.2.1), (v392x.2.2.2), (zset 0 kn 13 (nI (nw + 1))), (zset 0 wy (10 + nw) (mspF sn 8 ns (v208x.2.2.2) (ns - 0 + 1) 0))) := by unfold mRdG; rw [if_neg (fun q => q b4x), zlet_eq hv205x, zlet_eq hv209x, if_pos b210x, if_neg b213x, zlet_eq hv308x, if_neg (fun q => q b309x), if_neg (fun q => q b344x), zlet_eq hv373x, if_pos b374x, zlet_eq hv393x]
              rw [hx]
              exact wq_ret rfl rfl ⟨h8391x, rfl, (wFr_tr (wFr_sub f8203x (by simp)) (wFr_tr (wFr_sub f8207x (by simp)) (wFr_tr (wFr_sub f8306x (by simp)) (wFr_tr (wFr_sub f8371x (by simp)) (wFr_tr (wFr_sub ff381x (by simp)) (wFr_tr (wFr_sub ff387x (by simp)) (wFr_sub f8391x (by simp)))))))), by omega, c0391x, e394x, e395x, (by (try dsimp only); first | assumption | omega), (by (try dsimp only); first | assumption | omega), (by (try dsimp only); first | assumption | omega), (by (try dsimp only); first | assumption | omega), (by (try dsimp only); first | assumption | omega), (by (try dsimp only); intro q9; first | omega | exact ⟨nw + 1, wNm_13 hN (by omega), wW2_s hW (by omega)⟩), (by (try dsimp only); first | assumption | exact wFh_set hz1 (by decide) | exact wFh_set hz2 (by omega)), (by (try dsimp only); first | assumption | exact wFh_set hz1 (by decide) | exact wFh_set hz2 (by omega))⟩
            · have q396x : (v372x.1).toInt ≠ 0 := fun q => b374x (Int32.toInt_inj.mp q)
              have e397x := (f8371x.2 _ _ (wnc (by decide) wn0) e337x)
              have e398x := (f8371x.2 _ _ (wnc (by decide) wn0) (f8306x.2 _ _ (wnc (by decide) wn0) (f8207x.2 _ _ (wnc (by decide) wn0) (f8203x.2 _ _ (wnc (by decide) wn0) hWy))))
              have hx : (mRdG tb sz at9 pl so va ft fp ns nw kn sn wy) = ((v372x.1), (v372x.2), (v208x.1), (v208x.2.1), (v208x.2.2.1), (v208x.2.2.2), kn, wy) := by unfold mRdG; rw [if_neg (fun q => q b4x), zlet_eq hv205x, zlet_eq hv209x, if_pos b210x, if_neg b213x, zlet_eq hv308x, if_neg (fun q => q b309x), if_neg (fun q => q b344x), zlet_eq hv373x, if_neg b374x]
              rw [hx]
              exact wq_ret rfl rfl ⟨h8371x, rfl, (wFr_tr (wFr_sub f8203x (by simp)) (wFr_tr (wFr_sub f8207x (by simp)) (wFr_tr (wFr_sub f8306x (by simp)) (wFr_sub f8371x (by simp))))), by omega, c0371x, e397x, e398x, (by (try dsimp only); first | assumption | omega), (by (try dsimp only); first | assumption | omega), (by (try dsimp only); first | assumption | omega), (by (try dsimp only); first | assumption | omega), (by (try dsimp only); first | assumption | omega), (by (try dsimp only); intro q9; first | omega | exact ⟨nw + 1, wNm_13 hN (by omega), wW2_s hW (by omega)⟩), (by (try dsimp only); first | assumption | exact wFh_set hz1 (by decide) | exact wFh_set hz2 (by omega)), (by (try dsimp only); first | assumption | exact wFh_set hz1 (by decide) | exact wFh_set hz2 (by omega))⟩
    · have q399x : (v204x.1).toInt ≠ 0 := fun q => b210x (Int32.toInt_inj.mp q)
      have e400x := (f8207x.2 _ _ (wnc (by decide) wn0) (f8203x.2 _ _ (wnc (by decide) wn0) hKn))
      have e401x := (f8207x.2 _ _ (wnc (by decide) wn0) (f8203x.2 _ _ (wnc (by decide) wn0) hWy))
      have hx : (mRdG tb sz at9 pl so va ft fp ns nw kn sn wy) = ((v204x.1), (v204x.2), (v208x.1), (v208x.2.1), (v208x.2.2.1), (v208x.2.2.2), kn, wy) := by unfold mRdG; rw [if_neg (fun q => q b4x), zlet_eq hv205x, zlet_eq hv209x, if_neg b210x]
      rw [hx]
      exact wq_ret rfl rfl ⟨h8207x, rfl, (wFr_tr (wFr_sub f8203x (by simp)) (wFr_sub f8207x (by simp))), by omega, c0207x, e400x, e401x, (by (try dsimp only); first | assumption | omega), (by (try dsimp only); first | assumption | omega), (by (try dsimp only); first | assumption | omega), (by (try dsimp only); first | assumption | omega), (by (try dsimp only); first | assumption | omega), (by (try dsimp only); intro q9; first | omega | exact ⟨nw + 1, wNm_13 hN (by omega), wW2_s hW (by omega)⟩), (by (try dsimp only); first | assumption | exact wFh_set hz1 (by decide) | exact wFh_set hz2 (by omega)), (by (try dsimp only); first | assumption | exact wFh_set hz1 (by decide) | exact wFh_set hz2 (by omega))⟩
