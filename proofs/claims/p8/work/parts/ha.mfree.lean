/-! The reference: free. -/
theorem mWin_r (lo hi : List Int32) (j : Nat) (v : Int32) : (mWin lo hi j v).toInt = 0 ∨ ((lo.getD j 0).toInt ≤ v.toInt ∧ v.toInt ≤ (hi.getD j 0).toInt) := by
  unfold mWin
  by_cases h1 : v.toInt < (lo.getD j 0).toInt
  · rw [if_pos h1]; exact Or.inl rfl
  · rw [if_neg h1]
    by_cases h2 : (hi.getD j 0).toInt < v.toInt
    · rw [if_pos h2]; exact Or.inl rfl
    · right; omega
theorem add_p1 {x : Int32} (h : -2000 ≤ x.toInt ∧ x.toInt ≤ 2000) : (x + (1 : Int32)).toInt = x.toInt + 1 := by
  have z1 : (1 : Int32).toInt = 1 := rfl
  have ea : (x + (1 : Int32)).toInt = x.toInt + (1 : Int32).toInt := e_add (by omega) (by omega)
  omega
theorem add_n1 {x : Int32} (h : -2000 ≤ x.toInt ∧ x.toInt ≤ 2000) : (x + (-1 : Int32)).toInt = x.toInt - 1 := by
  have z1 : (-1 : Int32).toInt = -1 := rfl
  have ea : (x + (-1 : Int32)).toInt = x.toInt + (-1 : Int32).toInt := e_add (by omega) (by omega)
  omega
theorem m_winP {h : zH} {n0 n2 n14 n15 n16 n17 n18 n19 n20 n21 n22 n23 n27 n28 n32 n33 n34 n35 n39 n52 : Int32} {lo hi : List Int32} {j : Nat} {v : Int32} (hM : zat h 162 = some (.inr (.inr (.inr (10, mO n0 n2 n14 n15 n16 n17 n18 n19 n20 n21 n22 n23 n27 n28 n32 n33 n34 n35 n39 n52))))) (hO : zat h 168 = some (.inl (0, 12, lo))) (hG : zat h 170 = some (.inl (0, 12, hi))) (hj : j < 6) : wq 207 0 [(0, .ref 162), (1, .int (nI j)), (2, .int v)] [] h 0 0 (fun rr9 => rr9 = (some (.int (mWin lo hi j v)), h, 0, 0) ∧ ((mWin lo hi j v).toInt = 0 ∨ ((lo.getD j 0).toInt ≤ v.toInt ∧ v.toInt ≤ (hi.getD j 0).toInt))) := by
  refine wq_mono (m_win hM hO hG hj) ?_
  rintro _ rfl
  exact ⟨rfl, mWin_r lo hi j v⟩
theorem frp9 {x : Int32} (h : -128 ≤ x.toInt ∧ x.toInt ≤ 127) : -400 ≤ (x + (1 : Int32)).toInt ∧ (x + (1 : Int32)).toInt ≤ 400 := by
  rw [add_p1 (by omega)]
  omega
theorem frn9 {x : Int32} (h : -128 ≤ x.toInt ∧ x.toInt ≤ 127) : -400 ≤ (x + (-1 : Int32)).toInt ∧ (x + (-1 : Int32)).toInt ≤ 400 := by
  rw [add_n1 (by omega)]
  omega
theorem zs6c (nw tk : List Int32) (j : Nat) (hj : j < 6) : ((zset 0 (zset 0 (zset 0 (zset 0 (zset 0 (zset 0 tk 0 (nw.getD 0 0)) 1 (nw.getD 1 0)) 2 (nw.getD 2 0)) 3 (nw.getD 3 0)) 4 (nw.getD 4 0)) 5 (nw.getD 5 0))).getD j 0 = nw.getD j 0 := by
  rw [zset_get, zset_get, zset_get, zset_get, zset_get, zset_get]
  rcases j with _ | _ | _ | _ | _ | _ | j
  all_goals first | rfl | omega
noncomputable def mfrFp (lo hi : List Int32) (j : Nat) : Nat → Int32 → List Int32 → Int32 × List Int32
  | 0, _, tk => (0, tk)
  | m + 1, n, tk => (if (mWin lo hi j (tk.getD j 0)) = (0 : Int32) then (n, tk) else (if (mMea tk 0) = (0 : Int32) then (n, tk) else (mfrFp lo hi j m (n + 1) (zset 0 tk j ((tk.getD j 0) + (1 : Int32))))))
set_option maxRecDepth 100000 in
set_option maxHeartbeats 4000000 in
theorem m_frLp {n0 n2 n14 n15 n16 n17 n18 n19 n20 n21 n22 n23 n27 n28 n32 n33 n34 n35 n39 n52 : Int32} {lo hi : List Int32} {j : Nat} {u : Int32} (hj : j < 6) (hb : ∀ i, i < 6 → -64 ≤ (lo.getD i 0).toInt ∧ (hi.getD i 0).toInt ≤ 99) : ∀ (m : Nat) (n : Int32) (tk : List Int32) (h : zH) , (zat h 162 = some (.inr (.inr (.inr (10, mO n0 n2 n14 n15 n16 n17 n18 n19 n20 n21 n22 n23 n27 n28 n32 n33 n34 n35 n39 n52))))) → (zat h 168 = some (.inl (0, 12, lo))) → (zat h 170 = some (.inl (0, 12, hi))) → (zat h 224 = some (.inl (0, 6, tk))) → (-400 ≤ (tk.getD j 0).toInt ∧ (tk.getD j 0).toInt ≤ 400) → (500 - (tk.getD j 0).toInt).toNat < m → ∀ (dc ds : Nat), wq 274 63 [(0, .ref 162), (1, .int (nI j)), (2, .int u), (3, .int 1), (4, .int n)] [] h dc ds (fun rr9 => ∃ (h2 : zH) , rr9 = (some (Value.int ((mfrFp lo hi j m n tk).1)), h2, dc, ds) ∧ wFr [224] h h2 ∧ h2.length = h.length ∧ zat h2 224 = some (.inl (0, 6, ((mfrFp lo hi j m n tk).2)))) := by
  intro m
  induction m with
  | zero => intro n tk h hM hO hG hTk hv hms dc ds; omega
  | succ m ih =>
    intro n tk h hM hO hG hTk hv hms dc ds
    have hbj := hb j hj
    refine wq_gos (f := 1) (pc2 := 66) (ls2 := [(0, .ref 162), (1, .int (nI j)), (2, .int u), (3, .int 1), (4, .int n)]) (st2 := [.ref 162, .int (nI j), .ref 162]) (h2 := h) (dc2 := dc) (ds2 := ds) 3 rfl ?_
    refine wq_getf rfl hM rfl rfl ?_
    refine wq_gos (f := 1) (pc2 := 70) (ls2 := [(0, .ref 162), (1, .int (nI j)), (2, .int u), (3, .int 1), (4, .int n)]) (st2 := [.int (nI j), .ref 224, .int (nI j), .ref 162]) (h2 := h) (dc2 := dc) (ds2 := ds) 1 rfl ?_
    try have q1x := nI_toInt (n := j) (by omega)
    refine wq_ialdn rfl hTk (by first | omega | exact zin_t (by omega) (by omega)) (by decide) rfl ?_
    refine wq_inlv (y2 := 207) (as := [.int (nI j), .int (tk.getD j 0)]) rfl rfl rfl hM rfl (wq_mono (m_winP hM hO hG (by first | assumption | omega | decide | solve_by_elim)) ?_)
    rintro _ ⟨rfl, p02x⟩
    show wq 274 74 [(0, .ref 162), (1, .int (nI j)), (2, .int u), (3, .int 1), (4, .int n)] [.int (mWin lo hi j (tk.getD j 0))] h dc ds _
    refine wq_eq0 rfl rfl (fun b3x => ?_) (fun b3x => ?_)
    · have q4x : (mWin lo hi j (tk.getD j 0)).toInt = 0 := congrArg Int32.toInt b3x
      refine wq_gos (f := 1) (pc2 := 106) (ls2 := [(0, .ref 162), (1, .int (nI j)), (2, .int u), (3, .int 1), (4, .int n)]) (st2 := [.int n]) (h2 := h) (dc2 := dc) (ds2 := ds) 1 rfl ?_
      have ea := add_p1 (x := tk.getD j 0) (by omega)
      obtain ⟨y9, hy9⟩ : ∃ y, y = tk.getD j 0 + (1 : Int32) := ⟨_, rfl⟩
      rw [← hy9] at ea
      have hx : (mfrFp lo hi j (m + 1) n tk) = (n, tk) := by show (if _ then _ else _) = _; rw [if_pos b3x]
      rw [hx]
      exact wq_ret rfl rfl ⟨h, rfl, (wFr_rf _ _), by omega, hTk⟩
    · have q5x : (mWin lo hi j (tk.getD j 0)).toInt ≠ 0 := fun q => b3x (Int32.toInt_inj.mp q)
      refine wq_gos (f := 1) (pc2 := 78) (ls2 := [(0, .ref 162), (1, .int (nI j)), (2, .int u), (3, .int 1), (4, .int n)]) (st2 := [.ref 162]) (h2 := h) (dc2 := dc) (ds2 := ds) 1 rfl ?_
      refine wq_getf rfl hM rfl rfl ?_
      refine wq_gos (f := 1) (pc2 := 82) (ls2 := [(0, .ref 162), (1, .int (nI j)), (2, .int u), (3, .int 1), (4, .int n)]) (st2 := [.int 0, .ref 224]) (h2 := h) (dc2 := dc) (ds2 := ds) 1 rfl ?_
      have q6x : (0 : Int32).toInt = 0 := rfl
      refine wq_inl (y2 := 206) (as := [.ref 224, .int 0]) rfl rfl rfl (wq_mono (m_meav (k := 0) hTk (by decide)) ?_)
      rintro _ rfl
      show wq 274 85 [(0, .ref 162), (1, .int (nI j)), (2, .int u), (3, .int 1), (4, .int n)] [.int (mMea tk 0)] h dc ds _
      refine wq_eq0 rfl rfl (fun b8x => ?_) (fun b8x => ?_)
      · have q9x : (mMea tk 0).toInt = 0 := congrArg Int32.toInt b8x
        refine wq_gos (f := 1) (pc2 := 106) (ls2 := [(0, .ref 162), (1, .int (nI j)), (2, .int u), (3, .int 1), (4, .int n)]) (st2 := [.int n]) (h2 := h) (dc2 := dc) (ds2 := ds) 1 rfl ?_
        have ea := add_p1 (x := tk.getD j 0) (by omega)
        obtain ⟨y9, hy9⟩ : ∃ y, y = tk.getD j 0 + (1 : Int32) := ⟨_, rfl⟩
        rw [← hy9] at ea
        have hx : (mfrFp lo hi j (m + 1) n tk) = (n, tk) := by show (if _ then _ else _) = _; rw [if_neg b3x, if_pos b8x]
        rw [hx]
        exact wq_ret rfl rfl ⟨h, rfl, (wFr_rf _ _), by omega, hTk⟩
      · have q10x : (mMea tk 0).toInt ≠ 0 := fun q => b8x (Int32.toInt_inj.mp q)
        refine wq_gos (f := 1) (pc2 := 92) (ls2 := [(4, .int (n + 1)), (0, .ref 162), (1, .int (nI j)), (2, .int u), (3, .int 1)]) (st2 := [.ref 162]) (h2 := h) (dc2 := dc) (ds2 := ds) 2 rfl ?_
        refine wq_getf rfl hM rfl rfl ?_
        refine wq_gos (f := 1) (pc2 := 97) (ls2 := [(4, .int (n + 1)), (0, .ref 162), (1, .int (nI j)), (2, .int u), (3, .int 1)]) (st2 := [.int (nI j), .ref 224, .int (nI j), .ref 224]) (h2 := h) (dc2 := dc) (ds2 := ds) 2 rfl ?_
        refine wq_ialdn rfl hTk (by first | omega | exact zin_t (by omega) (by omega)) (by decide) rfl ?_
        refine wq_gos (f := 1) (pc2 := 100) (ls2 := [(4, .int (n + 1)), (0, .ref 162), (1, .int (nI j)), (2, .int u), (3, .int 1)]) (st2 := [.int ((tk.getD j 0) + (1 : Int32)), .int (nI j), .ref 224]) (h2 := h) (dc2 := dc) (ds2 := ds) 2 rfl ?_
        refine wq_iastn rfl hTk (by first | omega | exact zin_t (by omega) (by omega)) (by decide) rfl ?_
        intro hh11x e12x ff13x lh14x
        have e12x : zat hh11x 224 = some (.inl (0, 6, (zset 0 tk j ((tk.getD j 0) + (1 : Int32))))) := e12x
        refine wq_gos (f := 1) (pc2 := 63) (ls2 := [(4, .int (n + 1)), (0, .ref 162), (1, .int (nI j)), (2, .int u), (3, .int 1)]) (st2 := []) (h2 := hh11x) (dc2 := dc) (ds2 := ds) 1 rfl ?_
        have q15x : (1 : Int32).toInt = 1 := rfl
        try have q16x : ((n + 1)).toInt = n.toInt + (1 : Int32).toInt := e_add (by omega) (by omega)
        have e17x := (ff13x.2 _ _ (wnc (by decide) wn0) hM)
        have e18x := (ff13x.2 _ _ (wnc (by decide) wn0) hO)
        have e19x := (ff13x.2 _ _ (wnc (by decide) wn0) hG)
        have ea := add_p1 (x := tk.getD j 0) (by omega)
        obtain ⟨y9, hy9⟩ : ∃ y, y = tk.getD j 0 + (1 : Int32) := ⟨_, rfl⟩
        rw [← hy9] at ea
        have hx : (mfrFp lo hi j (m + 1) n tk) = (mfrFp lo hi j m (n + 1) (zset 0 tk j ((tk.getD j 0) + (1 : Int32)))) := by show (if _ then _ else _) = _; rw [if_neg b3x, if_neg b8x]
        rw [hx]
        refine wq_ls [(0, .ref 162), (1, .int (nI j)), (2, .int u), (3, .int 1), (4, .int (n + 1))] (show ([0, 1, 2, 3, 4] : List Nat).Nodup by decide) ⟨rfl, rfl, rfl, rfl, rfl, trivial⟩ ?_
        refine wq_mono (ih (n + 1) (zset 0 tk j ((tk.getD j 0) + (1 : Int32))) hh11x e17x e18x e19x e12x (by rw [zset_self, ← hy9]; omega) (by rw [zset_self, ← hy9]; omega) dc ds) ?_
        rintro _ ⟨h9, rfl, f9, l9, y0⟩
        exact ⟨h9, rfl, wFr_tr (wFr_sub ff13x (by simp)) f9, by omega, y0⟩
noncomputable def mfrFn (lo hi : List Int32) (j : Nat) : Nat → Int32 → List Int32 → Int32 × List Int32
  | 0, _, tk => (0, tk)
  | m + 1, n, tk => (if (mWin lo hi j (tk.getD j 0)) = (0 : Int32) then (n, tk) else (if (mMea tk 0) = (0 : Int32) then (n, tk) else (mfrFn lo hi j m (n + 1) (zset 0 tk j ((tk.getD j 0) + (-1 : Int32))))))
set_option maxRecDepth 100000 in
set_option maxHeartbeats 4000000 in
theorem m_frLn {n0 n2 n14 n15 n16 n17 n18 n19 n20 n21 n22 n23 n27 n28 n32 n33 n34 n35 n39 n52 : Int32} {lo hi : List Int32} {j : Nat} {u : Int32} (hj : j < 6) (hb : ∀ i, i < 6 → -64 ≤ (lo.getD i 0).toInt ∧ (hi.getD i 0).toInt ≤ 99) : ∀ (m : Nat) (n : Int32) (tk : List Int32) (h : zH) , (zat h 162 = some (.inr (.inr (.inr (10, mO n0 n2 n14 n15 n16 n17 n18 n19 n20 n21 n22 n23 n27 n28 n32 n33 n34 n35 n39 n52))))) → (zat h 168 = some (.inl (0, 12, lo))) → (zat h 170 = some (.inl (0, 12, hi))) → (zat h 224 = some (.inl (0, 6, tk))) → (-400 ≤ (tk.getD j 0).toInt ∧ (tk.getD j 0).toInt ≤ 400) → ((tk.getD j 0).toInt + 500).toNat < m → ∀ (dc ds : Nat), wq 274 63 [(0, .ref 162), (1, .int (nI j)), (2, .int u), (3, .int (-1)), (4, .int n)] [] h dc ds (fun rr9 => ∃ (h2 : zH) , rr9 = (some (Value.int ((mfrFn lo hi j m n tk).1)), h2, dc, ds) ∧ wFr [224] h h2 ∧ h2.length = h.length ∧ zat h2 224 = some (.inl (0, 6, ((mfrFn lo hi j m n tk).2)))) := by
  intro m
  induction m with
  | zero => intro n tk h hM hO hG hTk hv hms dc ds; omega
  | succ m ih =>
    intro n tk h hM hO hG hTk hv hms dc ds
    have hbj := hb j hj
    refine wq_gos (f := 1) (pc2 := 66) (ls2 := [(0, .ref 162), (1, .int (nI j)), (2, .int u), (3, .int (-1)), (4, .int n)]) (st2 := [.ref 162, .int (nI j), .ref 162]) (h2 := h) (dc2 := dc) (ds2 := ds) 3 rfl ?_
    refine wq_getf rfl hM rfl rfl ?_
    refine wq_gos (f := 1) (pc2 := 70) (ls2 := [(0, .ref 162), (1, .int (nI j)), (2, .int u), (3, .int (-1)), (4, .int n)]) (st2 := [.int (nI j), .ref 224, .int (nI j), .ref 162]) (h2 := h) (dc2 := dc) (ds2 := ds) 1 rfl ?_
    try have q1x := nI_toInt (n := j) (by omega)
    refine wq_ialdn rfl hTk (by first | omega | exact zin_t (by omega) (by omega)) (by decide) rfl ?_
    refine wq_inlv (y2 := 207) (as := [.int (nI j), .int (tk.getD j 0)]) rfl rfl rfl hM rfl (wq_mono (m_winP hM hO hG (by first | assumption | omega | decide | solve_by_elim)) ?_)
    rintro _ ⟨rfl, p02x⟩
    show wq 274 74 [(0, .ref 162), (1, .int (nI j)), (2, .int u), (3, .int (-1)), (4, .int n)] [.int (mWin lo hi j (tk.getD j 0))] h dc ds _
    refine wq_eq0 rfl rfl (fun b3x => ?_) (fun b3x => ?_)
    · have q4x : (mWin lo hi j (tk.getD j 0)).toInt = 0 := congrArg Int32.toInt b3x
      refine wq_gos (f := 1) (pc2 := 106) (ls2 := [(0, .ref 162), (1, .int (nI j)), (2, .int u), (3, .int (-1)), (4, .int n)]) (st2 := [.int n]) (h2 := h) (dc2 := dc) (ds2 := ds) 1 rfl ?_
      have ea := add_n1 (x := tk.getD j 0) (by omega)
      obtain ⟨y9, hy9⟩ : ∃ y, y = tk.getD j 0 + (-1 : Int32) := ⟨_, rfl⟩
      rw [← hy9] at ea
      have hx : (mfrFn lo hi j (m + 1) n tk) = (n, tk) := by show (if _ then _ else _) = _; rw [if_pos b3x]
      rw [hx]
      exact wq_ret rfl rfl ⟨h, rfl, (wFr_rf _ _), by omega, hTk⟩
    · have q5x : (mWin lo hi j (tk.getD j 0)).toInt ≠ 0 := fun q => b3x (Int32.toInt_inj.mp q)
      refine wq_gos (f := 1) (pc2 := 78) (ls2 := [(0, .ref 162), (1, .int (nI j)), (2, .int u), (3, .int (-1)), (4, .int n)]) (st2 := [.ref 162]) (h2 := h) (dc2 := dc) (ds2 := ds) 1 rfl ?_
      refine wq_getf rfl hM rfl rfl ?_
      refine wq_gos (f := 1) (pc2 := 82) (ls2 := [(0, .ref 162), (1, .int (nI j)), (2, .int u), (3, .int (-1)), (4, .int n)]) (st2 := [.int 0, .ref 224]) (h2 := h) (dc2 := dc) (ds2 := ds) 1 rfl ?_
      have q6x : (0 : Int32).toInt = 0 := rfl
      refine wq_inl (y2 := 206) (as := [.ref 224, .int 0]) rfl rfl rfl (wq_mono (m_meav (k := 0) hTk (by decide)) ?_)
      rintro _ rfl
      show wq 274 85 [(0, .ref 162), (1, .int (nI j)), (2, .int u), (3, .int (-1)), (4, .int n)] [.int (mMea tk 0)] h dc ds _
      refine wq_eq0 rfl rfl (fun b8x => ?_) (fun b8x => ?_)
      · have q9x : (mMea tk 0).toInt = 0 := congrArg Int32.toInt b8x
        refine wq_gos (f := 1) (pc2 := 106) (ls2 := [(0, .ref 162), (1, .int (nI j)), (2, .int u), (3, .int (-1)), (4, .int n)]) (st2 := [.int n]) (h2 := h) (dc2 := dc) (ds2 := ds) 1 rfl ?_
        have ea := add_n1 (x := tk.getD j 0) (by omega)
        obtain ⟨y9, hy9⟩ : ∃ y, y = tk.getD j 0 + (-1 : Int32) := ⟨_, rfl⟩
        rw [← hy9] at ea
        have hx : (mfrFn lo hi j (m + 1) n tk) = (n, tk) := by show (if _ then _ else _) = _; rw [if_neg b3x, if_pos b8x]
        rw [hx]
        exact wq_ret rfl rfl ⟨h, rfl, (wFr_rf _ _), by omega, hTk⟩
      · have q10x : (mMea tk 0).toInt ≠ 0 := fun q => b8x (Int32.toInt_inj.mp q)
        refine wq_gos (f := 1) (pc2 := 92) (ls2 := [(4, .int (n + 1)), (0, .ref 162), (1, .int (nI j)), (2, .int u), (3, .int (-1))]) (st2 := [.ref 162]) (h2 := h) (dc2 := dc) (ds2 := ds) 2 rfl ?_
        refine wq_getf rfl hM rfl rfl ?_
        refine wq_gos (f := 1) (pc2 := 97) (ls2 := [(4, .int (n + 1)), (0, .ref 162), (1, .int (nI j)), (2, .int u), (3, .int (-1))]) (st2 := [.int (nI j), .ref 224, .int (nI j), .ref 224]) (h2 := h) (dc2 := dc) (ds2 := ds) 2 rfl ?_
        refine wq_ialdn rfl hTk (by first | omega | exact zin_t (by omega) (by omega)) (by decide) rfl ?_
        refine wq_gos (f := 1) (pc2 := 100) (ls2 := [(4, .int (n + 1)), (0, .ref 162), (1, .int (nI j)), (2, .int u), (3, .int (-1))]) (st2 := [.int ((tk.getD j 0) + (-1 : Int32)), .int (nI j), .ref 224]) (h2 := h) (dc2 := dc) (ds2 := ds) 2 rfl ?_
        refine wq_iastn rfl hTk (by first | omega | exact zin_t (by omega) (by omega)) (by decide) rfl ?_
        intro hh11x e12x ff13x lh14x
        have e12x : zat hh11x 224 = some (.inl (0, 6, (zset 0 tk j ((tk.getD j 0) + (-1 : Int32))))) := e12x
        refine wq_gos (f := 1) (pc2 := 63) (ls2 := [(4, .int (n + 1)), (0, .ref 162), (1, .int (nI j)), (2, .int u), (3, .int (-1))]) (st2 := []) (h2 := hh11x) (dc2 := dc) (ds2 := ds) 1 rfl ?_
        have q15x : (1 : Int32).toInt = 1 := rfl
        try have q16x : ((n + 1)).toInt = n.toInt + (1 : Int32).toInt := e_add (by omega) (by omega)
        have e17x := (ff13x.2 _ _ (wnc (by decide) wn0) hM)
        have e18x := (ff13x.2 _ _ (wnc (by decide) wn0) hO)
        have e19x := (ff13x.2 _ _ (wnc (by decide) wn0) hG)
        have ea := add_n1 (x := tk.getD j 0) (by omega)
        obtain ⟨y9, hy9⟩ : ∃ y, y = tk.getD j 0 + (-1 : Int32) := ⟨_, rfl⟩
        rw [← hy9] at ea
        have hx : (mfrFn lo hi j (m + 1) n tk) = (mfrFn lo hi j m (n + 1) (zset 0 tk j ((tk.getD j 0) + (-1 : Int32)))) := by show (if _ then _ else _) = _; rw [if_neg b3x, if_neg b8x]
        rw [hx]
        refine wq_ls [(0, .ref 162), (1, .int (nI j)), (2, .int u), (3, .int (-1)), (4, .int (n + 1))] (show ([0, 1, 2, 3, 4] : List Nat).Nodup by decide) ⟨rfl, rfl, rfl, rfl, rfl, trivial⟩ ?_
        refine wq_mono (ih (n + 1) (zset 0 tk j ((tk.getD j 0) + (-1 : Int32))) hh11x e17x e18x e19x e12x (by rw [zset_self, ← hy9]; omega) (by rw [zset_self, ← hy9]; omega) dc ds) ?_
        rintro _ ⟨h9, rfl, f9, l9, y0⟩
        exact ⟨h9, rfl, wFr_tr (wFr_sub ff13x (by simp)) f9, by omega, y0⟩
noncomputable def mFrep (lo hi nw tk : List Int32) (j : Nat) : Int32 × Int32 × List Int32 := (zlet (mfrFp lo hi j ((500 - ((zset 0 (zset 0 (zset 0 (zset 0 (zset 0 (zset 0 (zset 0 tk 0 (nw.getD 0 0)) 1 (nw.getD 1 0)) 2 (nw.getD 2 0)) 3 (nw.getD 3 0)) 4 (nw.getD 4 0)) 5 (nw.getD 5 0)) j (((zset 0 (zset 0 (zset 0 (zset 0 (zset 0 (zset 0 tk 0 (nw.getD 0 0)) 1 (nw.getD 1 0)) 2 (nw.getD 2 0)) 3 (nw.getD 3 0)) 4 (nw.getD 4 0)) 5 (nw.getD 5 0)).getD j 0) + (1 : Int32))).getD j 0).toInt).toNat + 1) (0 : Int32) (zset 0 (zset 0 (zset 0 (zset 0 (zset 0 (zset 0 (zset 0 tk 0 (nw.getD 0 0)) 1 (nw.getD 1 0)) 2 (nw.getD 2 0)) 3 (nw.getD 3 0)) 4 (nw.getD 4 0)) 5 (nw.getD 5 0)) j (((zset 0 (zset 0 (zset 0 (zset 0 (zset 0 (zset 0 tk 0 (nw.getD 0 0)) 1 (nw.getD 1 0)) 2 (nw.getD 2 0)) 3 (nw.getD 3 0)) 4 (nw.getD 4 0)) 5 (nw.getD 5 0)).getD j 0) + (1 : Int32)))) (fun v57x => ((v57x.1), (0 : Int32), (v57x.2))))
set_option maxRecDepth 100000 in
set_option maxHeartbeats 4000000 in
theorem m_frep {h : zH} {n0 n2 n14 n15 n16 n17 n18 n19 n20 n21 n22 n23 n27 n28 n32 n33 n34 n35 n39 n52 : Int32} {lo hi nw tk : List Int32} {j : Nat} (hM : zat h 162 = some (.inr (.inr (.inr (10, mO n0 n2 n14 n15 n16 n17 n18 n19 n20 n21 n22 n23 n27 n28 n32 n33 n34 n35 n39 n52))))) (hO : zat h 168 = some (.inl (0, 12, lo))) (hG : zat h 170 = some (.inl (0, 12, hi))) (hTk : zat h 224 = some (.inl (0, 6, tk))) (hNw : zat h 188 = some (.inl (0, 6, nw))) (hj : j < 6) (hb : ∀ i, i < 6 → -64 ≤ (lo.getD i 0).toInt ∧ (hi.getD i 0).toInt ≤ 99) (hn : ∀ i, i < 6 → -128 ≤ (nw.getD i 0).toInt ∧ (nw.getD i 0).toInt ≤ 127) : wq 274 0 [(0, .ref 162), (1, .int (nI j)), (2, .int 1)] [] h 0 0 (fun rr9 => ∃ (h2 : zH), rr9 = (some (.int ((mFrep lo hi nw tk j).1)), h2, 0, 0) ∧ wFr [162, 224] h h2 ∧ h2.length = h.length ∧ zat h2 162 = some (.inr (.inr (.inr (10, mO ((mFrep lo hi nw tk j).2.1) n2 n14 n15 n16 n17 n18 n19 n20 n21 n22 n23 n27 n28 n32 n33 n34 n35 n39 n52)))) ∧ zat h2 224 = some (.inl (0, 6, ((mFrep lo hi nw tk j).2.2)))) := by
  have qnj := nI_toInt (n := j) (by omega)
  have z0 : (0 : Int32).toInt = 0 := rfl
  have z1 : (1 : Int32).toInt = 1 := rfl
  have z5 : (5 : Int32).toInt = 5 := rfl
  have z6 : (6 : Int32).toInt = 6 := rfl
  have zm1 : (-1 : Int32).toInt = -1 := rfl
  have z3 : (3 : Int32).toInt = 3 := rfl
  have z2 : (2 : Int32).toInt = 2 := rfl
  have z20 : (20 : Int32).toInt = 20 := rfl
  have hnj := hn j hj
  have ecp := zs6c nw tk j hj
  refine wq_gos (f := 1) (pc2 := 2) (ls2 := [(0, .ref 162), (1, .int (nI j)), (2, .int 1)]) (st2 := [.int 0, .ref 162]) (h2 := h) (dc2 := 0) (ds2 := 0) 2 rfl ?_
  refine wq_putf rfl hM rfl rfl rfl ?_
  intro hh1x e2x ff3x lh4x
  have e2x : zat hh1x 162 = some (.inr (.inr (.inr (10, mO (0 : Int32) n2 n14 n15 n16 n17 n18 n19 n20 n21 n22 n23 n27 n28 n32 n33 n34 n35 n39 n52)))) := e2x
  refine wq_gos (f := 1) (pc2 := 6) (ls2 := [(0, .ref 162), (1, .int (nI j)), (2, .int 1)]) (st2 := [.int (nI j)]) (h2 := hh1x) (dc2 := 0) (ds2 := 0) 1 rfl ?_
  refine wq_inl (y2 := 208) (as := [.int (nI j)]) rfl rfl rfl ?_
  show wq 208 0 [(0, .int (nI j))] [] hh1x 0 0 _
  refine wq_gos (f := 1) (pc2 := 1) (ls2 := [(0, .int (nI j))]) (st2 := [.int (nI j)]) (h2 := hh1x) (dc2 := 0) (ds2 := 0) 1 rfl ?_
  try have q5x := nI_toInt (n := j) (by omega)
  refine wq_lt0f rfl rfl (by omega) ?_
  refine wq_gos (f := 1) (pc2 := 7) (ls2 := [(0, .int (nI j))]) (st2 := [.int 6, .int (nI j)]) (h2 := hh1x) (dc2 := 0) (ds2 := 0) 2 rfl ?_
  have q6x : (6 : Int32).toInt = 6 := rfl
  refine wq_ge2f rfl rfl (by omega) ?_
  refine wq_gos (f := 1) (pc2 := 15) (ls2 := [(0, .int (nI j))]) (st2 := [.int 1]) (h2 := hh1x) (dc2 := 0) (ds2 := 0) 2 rfl ?_
  refine wq_ret rfl rfl ?_
  show wq 274 9 [(0, .ref 162), (1, .int (nI j)), (2, .int 1)] [.int 1] hh1x 0 0 _
  refine wq_gos (f := 1) (pc2 := 23) (ls2 := [(3, .int 0), (0, .ref 162), (1, .int (nI j)), (2, .int 1)]) (st2 := [.ref 162]) (h2 := hh1x) (dc2 := 0) (ds2 := 0) 7 rfl ?_
  refine wq_getf rfl e2x rfl rfl ?_
  refine wq_gos (f := 1) (pc2 := 28) (ls2 := [(3, .int 0), (0, .ref 162), (1, .int (nI j)), (2, .int 1)]) (st2 := [.ref 162, .int 0, .ref 224]) (h2 := hh1x) (dc2 := 0) (ds2 := 0) 2 rfl ?_
  refine wq_getf rfl e2x rfl rfl ?_
  refine wq_gos (f := 1) (pc2 := 32) (ls2 := [(3, .int 0), (0, .ref 162), (1, .int (nI j)), (2, .int 1)]) (st2 := [.int 0, .ref 188, .int 0, .ref 224]) (h2 := hh1x) (dc2 := 0) (ds2 := 0) 1 rfl ?_
  have e7x := (ff3x.2 _ _ (wnc (by decide) wn0) hNw)
  have q8x : (0 : Int32).toInt = 0 := rfl
  refine wq_iald rfl e7x rfl rfl ?_
  have e9x := (ff3x.2 _ _ (wnc (by decide) wn0) hTk)
  refine wq_iast rfl e9x rfl rfl ?_
  intro hh10x e11x ff12x lh13x
  have e11x : zat hh10x 224 = some (.inl (0, 6, (zset 0 tk 0 (nw.getD 0 0)))) := e11x
  refine wq_gos (f := 1) (pc2 := 23) (ls2 := [(3, .int 1), (0, .ref 162), (1, .int (nI j)), (2, .int 1)]) (st2 := [.ref 162]) (h2 := hh10x) (dc2 := 0) (ds2 := 0) 6 rfl ?_
  have e14x := (ff12x.2 _ _ (wnc (by decide) wn0) e2x)
  refine wq_getf rfl e14x rfl rfl ?_
  refine wq_gos (f := 1) (pc2 := 28) (ls2 := [(3, .int 1), (0, .ref 162), (1, .int (nI j)), (2, .int 1)]) (st2 := [.ref 162, .int 1, .ref 224]) (h2 := hh10x) (dc2 := 0) (ds2 := 0) 2 rfl ?_
  refine wq_getf rfl e14x rfl rfl ?_
  refine wq_gos (f := 1) (pc2 := 32) (ls2 := [(3, .int 1), (0, .ref 162), (1, .int (nI j)), (2, .int 1)]) (st2 := [.int 1, .ref 188, .int 1, .ref 224]) (h2 := hh10x) (dc2 := 0) (ds2 := 0) 1 rfl ?_
  have e15x := (ff12x.2 _ _ (wnc (by decide) wn0) e7x)
  have q16x : (1 : Int32).toInt = 1 := rfl
  refine wq_iald rfl e15x rfl rfl ?_
  refine wq_iast rfl e11x rfl rfl ?_
  intro hh17x e18x ff19x lh20x
  have e18x : zat hh17x 224 = some (.inl (0, 6, (zset 0 (zset 0 tk 0 (nw.getD 0 0)) 1 (nw.getD 1 0)))) := e18x
  refine wq_gos (f := 1) (pc2 := 23) (ls2 := [(3, .int 2), (0, .ref 162), (1, .int (nI j)), (2, .int 1)]) (st2 := [.ref 162]) (h2 := hh17x) (dc2 := 0) (ds2 := 0) 6 rfl ?_
  have e21x := (ff19x.2 _ _ (wnc (by decide) wn0) e14x)
  refine wq_getf rfl e21x rfl rfl ?_
  refine wq_gos (f := 1) (pc2 := 28) (ls2 := [(3, .int 2), (0, .ref 162), (1, .int (nI j)), (2, .int 1)]) (st2 := [.ref 162, .int 2, .ref 224]) (h2 := hh17x) (dc2 := 0) (ds2 := 0) 2 rfl ?_
  refine wq_getf rfl e21x rfl rfl ?_
  refine wq_gos (f := 1) (pc2 := 32) (ls2 := [(3, .int 2), (0, .ref 162), (1, .int (nI j)), (2, .int 1)]) (st2 := [.int 2, .ref 188, .int 2, .ref 224]) (h2 := hh17x) (dc2 := 0) (ds2 := 0) 1 rfl ?_
  have e22x := (ff19x.2 _ _ (wnc (by decide) wn0) e15x)
  have q23x : (2 : Int32).toInt = 2 := rfl
  refine wq_iald rfl e22x rfl rfl ?_
  refine wq_iast rfl e18x rfl rfl ?_
  intro hh24x e25x ff26x lh27x
  have e25x : zat hh24x 224 = some (.inl (0, 6, (zset 0 (zset 0 (zset 0 tk 0 (nw.getD 0 0)) 1 (nw.getD 1 0)) 2 (nw.getD 2 0)))) := e25x
  refine wq_gos (f := 1) (pc2 := 23) (ls2 := [(3, .int 3), (0, .ref 162), (1, .int (nI j)), (2, .int 1)]) (st2 := [.ref 162]) (h2 := hh24x) (dc2 := 0) (ds2 := 0) 6 rfl ?_
  have e28x := (ff26x.2 _ _ (wnc (by decide) wn0) e21x)
  refine wq_getf rfl e28x rfl rfl ?_
  refine wq_gos (f := 1) (pc2 := 28) (ls2 := [(3, .int 3), (0, .ref 162), (1, .int (nI j)), (2, .int 1)]) (st2 := [.ref 162, .int 3, .ref 224]) (h2 := hh24x) (dc2 := 0) (ds2 := 0) 2 rfl ?_
  refine wq_getf rfl e28x rfl rfl ?_
  refine wq_gos (f := 1) (pc2 := 32) (ls2 := [(3, .int 3), (0, .ref 162), (1, .int (nI j)), (2, .int 1)]) (st2 := [.int 3, .ref 188, .int 3, .ref 224]) (h2 := hh24x) (dc2 := 0) (ds2 := 0) 1 rfl ?_
  have e29x := (ff26x.2 _ _ (wnc (by decide) wn0) e22x)
  have q30x : (3 : Int32).toInt = 3 := rfl
  refine wq_iald rfl e29x rfl rfl ?_
  refine wq_iast rfl e25x rfl rfl ?_
  intro hh31x e32x ff33x lh34x
  have e32x : zat hh31x 224 = some (.inl (0, 6, (zset 0 (zset 0 (zset 0 (zset 0 tk 0 (nw.getD 0 0)) 1 (nw.getD 1 0)) 2 (nw.getD 2 0)) 3 (nw.getD 3 0)))) := e32x
  refine wq_gos (f := 1) (pc2 := 23) (ls2 := [(3, .int 4), (0, .ref 162), (1, .int (nI j)), (2, .int 1)]) (st2 := [.ref 162]) (h2 := hh31x) (dc2 := 0) (ds2 := 0) 6 rfl ?_
  have e35x := (ff33x.2 _ _ (wnc (by decide) wn0) e28x)
  refine wq_getf rfl e35x rfl rfl ?_
  refine wq_gos (f := 1) (pc2 := 28) (ls2 := [(3, .int 4), (0, .ref 162), (1, .int (nI j)), (2, .int 1)]) (st2 := [.ref 162, .int 4, .ref 224]) (h2 := hh31x) (dc2 := 0) (ds2 := 0) 2 rfl ?_
  refine wq_getf rfl e35x rfl rfl ?_
  refine wq_gos (f := 1) (pc2 := 32) (ls2 := [(3, .int 4), (0, .ref 162), (1, .int (nI j)), (2, .int 1)]) (st2 := [.int 4, .ref 188, .int 4, .ref 224]) (h2 := hh31x) (dc2 := 0) (ds2 := 0) 1 rfl ?_
  have e36x := (ff33x.2 _ _ (wnc (by decide) wn0) e29x)
  have q37x : (4 : Int32).toInt = 4 := rfl
  refine wq_iald rfl e36x rfl rfl ?_
  refine wq_iast rfl e32x rfl rfl ?_
  intro hh38x e39x ff40x lh41x
  have e39x : zat hh38x 224 = some (.inl (0, 6, (zset 0 (zset 0 (zset 0 (zset 0 (zset 0 tk 0 (nw.getD 0 0)) 1 (nw.getD 1 0)) 2 (nw.getD 2 0)) 3 (nw.getD 3 0)) 4 (nw.getD 4 0)))) := e39x
  refine wq_gos (f := 1) (pc2 := 23) (ls2 := [(3, .int 5), (0, .ref 162), (1, .int (nI j)), (2, .int 1)]) (st2 := [.ref 162]) (h2 := hh38x) (dc2 := 0) (ds2 := 0) 6 rfl ?_
  have e42x := (ff40x.2 _ _ (wnc (by decide) wn0) e35x)
  refine wq_getf rfl e42x rfl rfl ?_
  refine wq_gos (f := 1) (pc2 := 28) (ls2 := [(3, .int 5), (0, .ref 162), (1, .int (nI j)), (2, .int 1)]) (st2 := [.ref 162, .int 5, .ref 224]) (h2 := hh38x) (dc2 := 0) (ds2 := 0) 2 rfl ?_
  refine wq_getf rfl e42x rfl rfl ?_
  refine wq_gos (f := 1) (pc2 := 32) (ls2 := [(3, .int 5), (0, .ref 162), (1, .int (nI j)), (2, .int 1)]) (st2 := [.int 5, .ref 188, .int 5, .ref 224]) (h2 := hh38x) (dc2 := 0) (ds2 := 0) 1 rfl ?_
  have e43x := (ff40x.2 _ _ (wnc (by decide) wn0) e36x)
  have q44x : (5 : Int32).toInt = 5 := rfl
  refine wq_iald rfl e43x rfl rfl ?_
  refine wq_iast rfl e39x rfl rfl ?_
  intro hh45x e46x ff47x lh48x
  have e46x : zat hh45x 224 = some (.inl (0, 6, (zset 0 (zset 0 (zset 0 (zset 0 (zset 0 (zset 0 tk 0 (nw.getD 0 0)) 1 (nw.getD 1 0)) 2 (nw.getD 2 0)) 3 (nw.getD 3 0)) 4 (nw.getD 4 0)) 5 (nw.getD 5 0)))) := e46x
  refine wq_gos (f := 1) (pc2 := 54) (ls2 := [(4, .int 0), (3, .int 1), (0, .ref 162), (1, .int (nI j)), (2, .int 1)]) (st2 := [.ref 162]) (h2 := hh45x) (dc2 := 0) (ds2 := 0) 13 rfl ?_
  have e49x := (ff47x.2 _ _ (wnc (by decide) wn0) e42x)
  refine wq_getf rfl e49x rfl rfl ?_
  refine wq_gos (f := 1) (pc2 := 59) (ls2 := [(4, .int 0), (3, .int 1), (0, .ref 162), (1, .int (nI j)), (2, .int 1)]) (st2 := [.int (nI j), .ref 224, .int (nI j), .ref 224]) (h2 := hh45x) (dc2 := 0) (ds2 := 0) 2 rfl ?_
  refine wq_ialdn rfl e46x (by first | omega | exact zin_t (by omega) (by omega)) (by decide) rfl ?_
  refine wq_gos (f := 1) (pc2 := 62) (ls2 := [(4, .int 0), (3, .int 1), (0, .ref 162), (1, .int (nI j)), (2, .int 1)]) (st2 := [.int (((zset 0 (zset 0 (zset 0 (zset 0 (zset 0 (zset 0 tk 0 (nw.getD 0 0)) 1 (nw.getD 1 0)) 2 (nw.getD 2 0)) 3 (nw.getD 3 0)) 4 (nw.getD 4 0)) 5 (nw.getD 5 0)).getD j 0) + (1 : Int32)), .int (nI j), .ref 224]) (h2 := hh45x) (dc2 := 0) (ds2 := 0) 2 rfl ?_
  refine wq_iastn rfl e46x (by first | omega | exact zin_t (by omega) (by omega)) (by decide) rfl ?_
  intro hh50x e51x ff52x lh53x
  have e51x : zat hh50x 224 = some (.inl (0, 6, (zset 0 (zset 0 (zset 0 (zset 0 (zset 0 (zset 0 (zset 0 tk 0 (nw.getD 0 0)) 1 (nw.getD 1 0)) 2 (nw.getD 2 0)) 3 (nw.getD 3 0)) 4 (nw.getD 4 0)) 5 (nw.getD 5 0)) j (((zset 0 (zset 0 (zset 0 (zset 0 (zset 0 (zset 0 tk 0 (nw.getD 0 0)) 1 (nw.getD 1 0)) 2 (nw.getD 2 0)) 3 (nw.getD 3 0)) 4 (nw.getD 4 0)) 5 (nw.getD 5 0)).getD j 0) + (1 : Int32))))) := e51x
  have e54x := (ff52x.2 _ _ (wnc (by decide) wn0) e49x)
  have e55x := (ff52x.2 _ _ (wnc (by decide) wn0) (ff47x.2 _ _ (wnc (by decide) wn0) (ff40x.2 _ _ (wnc (by decide) wn0) (ff33x.2 _ _ (wnc (by decide) wn0) (ff26x.2 _ _ (wnc (by decide) wn0) (ff19x.2 _ _ (wnc (by decide) wn0) (ff12x.2 _ _ (wnc (by decide) wn0) (ff3x.2 _ _ (wnc (by decide) wn0) hO))))))))
  have e56x := (ff52x.2 _ _ (wnc (by decide) wn0) (ff47x.2 _ _ (wnc (by decide) wn0) (ff40x.2 _ _ (wnc (by decide) wn0) (ff33x.2 _ _ (wnc (by decide) wn0) (ff26x.2 _ _ (wnc (by decide) wn0) (ff19x.2 _ _ (wnc (by decide) wn0) (ff12x.2 _ _ (wnc (by decide) wn0) (ff3x.2 _ _ (wnc (by decide) wn0) hG))))))))
  refine wq_ls [(0, .ref 162), (1, .int (nI j)), (2, .int 1), (3, .int 1), (4, .int 0)] (show ([0, 1, 2, 3, 4] : List Nat).Nodup by decide) ⟨rfl, rfl, rfl, rfl, rfl, trivial⟩ ?_
  refine wq_mono (m_frLp (by first | assumption | omega | decide | solve_by_elim) (by first | assumption | omega | decide | solve_by_elim) ((500 - ((zset 0 (zset 0 (zset 0 (zset 0 (zset 0 (zset 0 (zset 0 tk 0 (nw.getD 0 0)) 1 (nw.getD 1 0)) 2 (nw.getD 2 0)) 3 (nw.getD 3 0)) 4 (nw.getD 4 0)) 5 (nw.getD 5 0)) j (((zset 0 (zset 0 (zset 0 (zset 0 (zset 0 (zset 0 tk 0 (nw.getD 0 0)) 1 (nw.getD 1 0)) 2 (nw.getD 2 0)) 3 (nw.getD 3 0)) 4 (nw.getD 4 0)) 5 (nw.getD 5 0)).getD j 0) + (1 : Int32))).getD j 0).toInt).toNat + 1) (0 : Int32) (zset 0 (zset 0 (zset 0 (zset 0 (zset 0 (zset 0 (zset 0 tk 0 (nw.getD 0 0)) 1 (nw.getD 1 0)) 2 (nw.getD 2 0)) 3 (nw.getD 3 0)) 4 (nw.getD 4 0)) 5 (nw.getD 5 0)) j (((zset 0 (zset 0 (zset 0 (zset 0 (zset 0 (zset 0 tk 0 (nw.getD 0 0)) 1 (nw.getD 1 0)) 2 (nw.getD 2 0)) 3 (nw.getD 3 0)) 4 (nw.getD 4 0)) 5 (nw.getD 5 0)).getD j 0) + (1 : Int32))) hh50x e54x e55x e56x e51x (by rw [zset_self, ecp]; exact frp9 hnj) (by omega) 0 0) ?_
  rintro _ ⟨h859x, rfl, f859x, l859x, c059x⟩
  obtain ⟨v57x, hv58x⟩ : ∃ x, x = (mfrFp lo hi j ((500 - ((zset 0 (zset 0 (zset 0 (zset 0 (zset 0 (zset 0 (zset 0 tk 0 (nw.getD 0 0)) 1 (nw.getD 1 0)) 2 (nw.getD 2 0)) 3 (nw.getD 3 0)) 4 (nw.getD 4 0)) 5 (nw.getD 5 0)) j (((zset 0 (zset 0 (zset 0 (zset 0 (zset 0 (zset 0 tk 0 (nw.getD 0 0)) 1 (nw.getD 1 0)) 2 (nw.getD 2 0)) 3 (nw.getD 3 0)) 4 (nw.getD 4 0)) 5 (nw.getD 5 0)).getD j 0) + (1 : Int32))).getD j 0).toInt).toNat + 1) (0 : Int32) (zset 0 (zset 0 (zset 0 (zset 0 (zset 0 (zset 0 (zset 0 tk 0 (nw.getD 0 0)) 1 (nw.getD 1 0)) 2 (nw.getD 2 0)) 3 (nw.getD 3 0)) 4 (nw.getD 4 0)) 5 (nw.getD 5 0)) j (((zset 0 (zset 0 (zset 0 (zset 0 (zset 0 (zset 0 tk 0 (nw.getD 0 0)) 1 (nw.getD 1 0)) 2 (nw.getD 2 0)) 3 (nw.getD 3 0)) 4 (nw.getD 4 0)) 5 (nw.getD 5 0)).getD j 0) + (1 : Int32)))) := ⟨_, rfl⟩
  try rw [← hv58x] at c059x
  try rw [← hv58x]
  have e60x := (f859x.2 _ _ (wnc (by decide) wn0) e54x)
  have hx : (mFrep lo hi nw tk j) = ((v57x.1), (0 : Int32), (v57x.2)) := by unfold mFrep; rw [zlet_eq hv58x]
  rw [hx]
  exact ⟨h859x, rfl, (wFr_tr (wFr_sub ff3x (by simp)) (wFr_tr (wFr_sub ff12x (by simp)) (wFr_tr (wFr_sub ff19x (by simp)) (wFr_tr (wFr_sub ff26x (by simp)) (wFr_tr (wFr_sub ff33x (by simp)) (wFr_tr (wFr_sub ff40x (by simp)) (wFr_tr (wFr_sub ff47x (by simp)) (wFr_tr (wFr_sub ff52x (by simp)) (wFr_sub f859x (by simp)))))))))), by omega, e60x, c059x⟩
noncomputable def mFren (lo hi nw tk : List Int32) (j : Nat) : Int32 × Int32 × List Int32 := (zlet (mfrFn lo hi j ((((zset 0 (zset 0 (zset 0 (zset 0 (zset 0 (zset 0 (zset 0 tk 0 (nw.getD 0 0)) 1 (nw.getD 1 0)) 2 (nw.getD 2 0)) 3 (nw.getD 3 0)) 4 (nw.getD 4 0)) 5 (nw.getD 5 0)) j (((zset 0 (zset 0 (zset 0 (zset 0 (zset 0 (zset 0 tk 0 (nw.getD 0 0)) 1 (nw.getD 1 0)) 2 (nw.getD 2 0)) 3 (nw.getD 3 0)) 4 (nw.getD 4 0)) 5 (nw.getD 5 0)).getD j 0) + (-1 : Int32))).getD j 0).toInt + 500).toNat + 1) (0 : Int32) (zset 0 (zset 0 (zset 0 (zset 0 (zset 0 (zset 0 (zset 0 tk 0 (nw.getD 0 0)) 1 (nw.getD 1 0)) 2 (nw.getD 2 0)) 3 (nw.getD 3 0)) 4 (nw.getD 4 0)) 5 (nw.getD 5 0)) j (((zset 0 (zset 0 (zset 0 (zset 0 (zset 0 (zset 0 tk 0 (nw.getD 0 0)) 1 (nw.getD 1 0)) 2 (nw.getD 2 0)) 3 (nw.getD 3 0)) 4 (nw.getD 4 0)) 5 (nw.getD 5 0)).getD j 0) + (-1 : Int32)))) (fun v57x => ((v57x.1), (0 : Int32), (v57x.2))))
set_option maxRecDepth 100000 in
set_option maxHeartbeats 4000000 in
theorem m_fren {h : zH} {n0 n2 n14 n15 n16 n17 n18 n19 n20 n21 n22 n23 n27 n28 n32 n33 n34 n35 n39 n52 : Int32} {lo hi nw tk : List Int32} {j : Nat} (hM : zat h 162 = some (.inr (.inr (.inr (10, mO n0 n2 n14 n15 n16 n17 n18 n19 n20 n21 n22 n23 n27 n28 n32 n33 n34 n35 n39 n52))))) (hO : zat h 168 = some (.inl (0, 12, lo))) (hG : zat h 170 = some (.inl (0, 12, hi))) (hTk : zat h 224 = some (.inl (0, 6, tk))) (hNw : zat h 188 = some (.inl (0, 6, nw))) (hj : j < 6) (hb : ∀ i, i < 6 → -64 ≤ (lo.getD i 0).toInt ∧ (hi.getD i 0).toInt ≤ 99) (hn : ∀ i, i < 6 → -128 ≤ (nw.getD i 0).toInt ∧ (nw.getD i 0).toInt ≤ 127) : wq 274 0 [(0, .ref 162), (1, .int (nI j)), (2, .int 0)] [] h 0 0 (fun rr9 => ∃ (h2 : zH), rr9 = (some (.int ((mFren lo hi nw tk j).1)), h2, 0, 0) ∧ wFr [162, 224] h h2 ∧ h2.length = h.length ∧ zat h2 162 = some (.inr (.inr (.inr (10, mO ((mFren lo hi nw tk j).2.1) n2 n14 n15 n16 n17 n18 n19 n20 n21 n22 n23 n27 n28 n32 n33 n34 n35 n39 n52)))) ∧ zat h2 224 = some (.inl (0, 6, ((mFren lo hi nw tk j).2.2)))) := by
  have qnj := nI_toInt (n := j) (by omega)
  have z0 : (0 : Int32).toInt = 0 := rfl
  have z1 : (1 : Int32).toInt = 1 := rfl
  have z5 : (5 : Int32).toInt = 5 := rfl
  have z6 : (6 : Int32).toInt = 6 := rfl
  have zm1 : (-1 : Int32).toInt = -1 := rfl
  have z3 : (3 : Int32).toInt = 3 := rfl
  have z2 : (2 : Int32).toInt = 2 := rfl
  have z20 : (20 : Int32).toInt = 20 := rfl
  have hnj := hn j hj
  have ecp := zs6c nw tk j hj
  refine wq_gos (f := 1) (pc2 := 2) (ls2 := [(0, .ref 162), (1, .int (nI j)), (2, .int 0)]) (st2 := [.int 0, .ref 162]) (h2 := h) (dc2 := 0) (ds2 := 0) 2 rfl ?_
  refine wq_putf rfl hM rfl rfl rfl ?_
  intro hh1x e2x ff3x lh4x
  have e2x : zat hh1x 162 = some (.inr (.inr (.inr (10, mO (0 : Int32) n2 n14 n15 n16 n17 n18 n19 n20 n21 n22 n23 n27 n28 n32 n33 n34 n35 n39 n52)))) := e2x
  refine wq_gos (f := 1) (pc2 := 6) (ls2 := [(0, .ref 162), (1, .int (nI j)), (2, .int 0)]) (st2 := [.int (nI j)]) (h2 := hh1x) (dc2 := 0) (ds2 := 0) 1 rfl ?_
  refine wq_inl (y2 := 208) (as := [.int (nI j)]) rfl rfl rfl ?_
  show wq 208 0 [(0, .int (nI j))] [] hh1x 0 0 _
  refine wq_gos (f := 1) (pc2 := 1) (ls2 := [(0, .int (nI j))]) (st2 := [.int (nI j)]) (h2 := hh1x) (dc2 := 0) (ds2 := 0) 1 rfl ?_
  try have q5x := nI_toInt (n := j) (by omega)
  refine wq_lt0f rfl rfl (by omega) ?_
  refine wq_gos (f := 1) (pc2 := 7) (ls2 := [(0, .int (nI j))]) (st2 := [.int 6, .int (nI j)]) (h2 := hh1x) (dc2 := 0) (ds2 := 0) 2 rfl ?_
  have q6x : (6 : Int32).toInt = 6 := rfl
  refine wq_ge2f rfl rfl (by omega) ?_
  refine wq_gos (f := 1) (pc2 := 15) (ls2 := [(0, .int (nI j))]) (st2 := [.int 1]) (h2 := hh1x) (dc2 := 0) (ds2 := 0) 2 rfl ?_
  refine wq_ret rfl rfl ?_
  show wq 274 9 [(0, .ref 162), (1, .int (nI j)), (2, .int 0)] [.int 1] hh1x 0 0 _
  refine wq_gos (f := 1) (pc2 := 23) (ls2 := [(3, .int 0), (0, .ref 162), (1, .int (nI j)), (2, .int 0)]) (st2 := [.ref 162]) (h2 := hh1x) (dc2 := 0) (ds2 := 0) 7 rfl ?_
  refine wq_getf rfl e2x rfl rfl ?_
  refine wq_gos (f := 1) (pc2 := 28) (ls2 := [(3, .int 0), (0, .ref 162), (1, .int (nI j)), (2, .int 0)]) (st2 := [.ref 162, .int 0, .ref 224]) (h2 := hh1x) (dc2 := 0) (ds2 := 0) 2 rfl ?_
  refine wq_getf rfl e2x rfl rfl ?_
  refine wq_gos (f := 1) (pc2 := 32) (ls2 := [(3, .int 0), (0, .ref 162), (1, .int (nI j)), (2, .int 0)]) (st2 := [.int 0, .ref 188, .int 0, .ref 224]) (h2 := hh1x) (dc2 := 0) (ds2 := 0) 1 rfl ?_
  have e7x := (ff3x.2 _ _ (wnc (by decide) wn0) hNw)
  have q8x : (0 : Int32).toInt = 0 := rfl
  refine wq_iald rfl e7x rfl rfl ?_
  have e9x := (ff3x.2 _ _ (wnc (by decide) wn0) hTk)
  refine wq_iast rfl e9x rfl rfl ?_
  intro hh10x e11x ff12x lh13x
  have e11x : zat hh10x 224 = some (.inl (0, 6, (zset 0 tk 0 (nw.getD 0 0)))) := e11x
  refine wq_gos (f := 1) (pc2 := 23) (ls2 := [(3, .int 1), (0, .ref 162), (1, .int (nI j)), (2, .int 0)]) (st2 := [.ref 162]) (h2 := hh10x) (dc2 := 0) (ds2 := 0) 6 rfl ?_
  have e14x := (ff12x.2 _ _ (wnc (by decide) wn0) e2x)
  refine wq_getf rfl e14x rfl rfl ?_
  refine wq_gos (f := 1) (pc2 := 28) (ls2 := [(3, .int 1), (0, .ref 162), (1, .int (nI j)), (2, .int 0)]) (st2 := [.ref 162, .int 1, .ref 224]) (h2 := hh10x) (dc2 := 0) (ds2 := 0) 2 rfl ?_
  refine wq_getf rfl e14x rfl rfl ?_
  refine wq_gos (f := 1) (pc2 := 32) (ls2 := [(3, .int 1), (0, .ref 162), (1, .int (nI j)), (2, .int 0)]) (st2 := [.int 1, .ref 188, .int 1, .ref 224]) (h2 := hh10x) (dc2 := 0) (ds2 := 0) 1 rfl ?_
  have e15x := (ff12x.2 _ _ (wnc (by decide) wn0) e7x)
  have q16x : (1 : Int32).toInt = 1 := rfl
  refine wq_iald rfl e15x rfl rfl ?_
  refine wq_iast rfl e11x rfl rfl ?_
  intro hh17x e18x ff19x lh20x
  have e18x : zat hh17x 224 = some (.inl (0, 6, (zset 0 (zset 0 tk 0 (nw.getD 0 0)) 1 (nw.getD 1 0)))) := e18x
  refine wq_gos (f := 1) (pc2 := 23) (ls2 := [(3, .int 2), (0, .ref 162), (1, .int (nI j)), (2, .int 0)]) (st2 := [.ref 162]) (h2 := hh17x) (dc2 := 0) (ds2 := 0) 6 rfl ?_
  have e21x := (ff19x.2 _ _ (wnc (by decide) wn0) e14x)
  refine wq_getf rfl e21x rfl rfl ?_
  refine wq_gos (f := 1) (pc2 := 28) (ls2 := [(3, .int 2), (0, .ref 162), (1, .int (nI j)), (2, .int 0)]) (st2 := [.ref 162, .int 2, .ref 224]) (h2 := hh17x) (dc2 := 0) (ds2 := 0) 2 rfl ?_
  refine wq_getf rfl e21x rfl rfl ?_
  refine wq_gos (f := 1) (pc2 := 32) (ls2 := [(3, .int 2), (0, .ref 162), (1, .int (nI j)), (2, .int 0)]) (st2 := [.int 2, .ref 188, .int 2, .ref 224]) (h2 := hh17x) (dc2 := 0) (ds2 := 0) 1 rfl ?_
  have e22x := (ff19x.2 _ _ (wnc (by decide) wn0) e15x)
  have q23x : (2 : Int32).toInt = 2 := rfl
  refine wq_iald rfl e22x rfl rfl ?_
  refine wq_iast rfl e18x rfl rfl ?_
  intro hh24x e25x ff26x lh27x
  have e25x : zat hh24x 224 = some (.inl (0, 6, (zset 0 (zset 0 (zset 0 tk 0 (nw.getD 0 0)) 1 (nw.getD 1 0)) 2 (nw.getD 2 0)))) := e25x
  refine wq_gos (f := 1) (pc2 := 23) (ls2 := [(3, .int 3), (0, .ref 162), (1, .int (nI j)), (2, .int 0)]) (st2 := [.ref 162]) (h2 := hh24x) (dc2 := 0) (ds2 := 0) 6 rfl ?_
  have e28x := (ff26x.2 _ _ (wnc (by decide) wn0) e21x)
  refine wq_getf rfl e28x rfl rfl ?_
  refine wq_gos (f := 1) (pc2 := 28) (ls2 := [(3, .int 3), (0, .ref 162), (1, .int (nI j)), (2, .int 0)]) (st2 := [.ref 162, .int 3, .ref 224]) (h2 := hh24x) (dc2 := 0) (ds2 := 0) 2 rfl ?_
  refine wq_getf rfl e28x rfl rfl ?_
  refine wq_gos (f := 1) (pc2 := 32) (ls2 := [(3, .int 3), (0, .ref 162), (1, .int (nI j)), (2, .int 0)]) (st2 := [.int 3, .ref 188, .int 3, .ref 224]) (h2 := hh24x) (dc2 := 0) (ds2 := 0) 1 rfl ?_
  have e29x := (ff26x.2 _ _ (wnc (by decide) wn0) e22x)
  have q30x : (3 : Int32).toInt = 3 := rfl
  refine wq_iald rfl e29x rfl rfl ?_
  refine wq_iast rfl e25x rfl rfl ?_
  intro hh31x e32x ff33x lh34x
  have e32x : zat hh31x 224 = some (.inl (0, 6, (zset 0 (zset 0 (zset 0 (zset 0 tk 0 (nw.getD 0 0)) 1 (nw.getD 1 0)) 2 (nw.getD 2 0)) 3 (nw.getD 3 0)))) := e32x
  refine wq_gos (f := 1) (pc2 := 23) (ls2 := [(3, .int 4), (0, .ref 162), (1, .int (nI j)), (2, .int 0)]) (st2 := [.ref 162]) (h2 := hh31x) (dc2 := 0) (ds2 := 0) 6 rfl ?_
  have e35x := (ff33x.2 _ _ (wnc (by decide) wn0) e28x)
  refine wq_getf rfl e35x rfl rfl ?_
  refine wq_gos (f := 1) (pc2 := 28) (ls2 := [(3, .int 4), (0, .ref 162), (1, .int (nI j)), (2, .int 0)]) (st2 := [.ref 162, .int 4, .ref 224]) (h2 := hh31x) (dc2 := 0) (ds2 := 0) 2 rfl ?_
  refine wq_getf rfl e35x rfl rfl ?_
  refine wq_gos (f := 1) (pc2 := 32) (ls2 := [(3, .int 4), (0, .ref 162), (1, .int (nI j)), (2, .int 0)]) (st2 := [.int 4, .ref 188, .int 4, .ref 224]) (h2 := hh31x) (dc2 := 0) (ds2 := 0) 1 rfl ?_
  have e36x := (ff33x.2 _ _ (wnc (by decide) wn0) e29x)
  have q37x : (4 : Int32).toInt = 4 := rfl
  refine wq_iald rfl e36x rfl rfl ?_
  refine wq_iast rfl e32x rfl rfl ?_
  intro hh38x e39x ff40x lh41x
  have e39x : zat hh38x 224 = some (.inl (0, 6, (zset 0 (zset 0 (zset 0 (zset 0 (zset 0 tk 0 (nw.getD 0 0)) 1 (nw.getD 1 0)) 2 (nw.getD 2 0)) 3 (nw.getD 3 0)) 4 (nw.getD 4 0)))) := e39x
  refine wq_gos (f := 1) (pc2 := 23) (ls2 := [(3, .int 5), (0, .ref 162), (1, .int (nI j)), (2, .int 0)]) (st2 := [.ref 162]) (h2 := hh38x) (dc2 := 0) (ds2 := 0) 6 rfl ?_
  have e42x := (ff40x.2 _ _ (wnc (by decide) wn0) e35x)
  refine wq_getf rfl e42x rfl rfl ?_
  refine wq_gos (f := 1) (pc2 := 28) (ls2 := [(3, .int 5), (0, .ref 162), (1, .int (nI j)), (2, .int 0)]) (st2 := [.ref 162, .int 5, .ref 224]) (h2 := hh38x) (dc2 := 0) (ds2 := 0) 2 rfl ?_
  refine wq_getf rfl e42x rfl rfl ?_
  refine wq_gos (f := 1) (pc2 := 32) (ls2 := [(3, .int 5), (0, .ref 162), (1, .int (nI j)), (2, .int 0)]) (st2 := [.int 5, .ref 188, .int 5, .ref 224]) (h2 := hh38x) (dc2 := 0) (ds2 := 0) 1 rfl ?_
  have e43x := (ff40x.2 _ _ (wnc (by decide) wn0) e36x)
  have q44x : (5 : Int32).toInt = 5 := rfl
  refine wq_iald rfl e43x rfl rfl ?_
  refine wq_iast rfl e39x rfl rfl ?_
  intro hh45x e46x ff47x lh48x
  have e46x : zat hh45x 224 = some (.inl (0, 6, (zset 0 (zset 0 (zset 0 (zset 0 (zset 0 (zset 0 tk 0 (nw.getD 0 0)) 1 (nw.getD 1 0)) 2 (nw.getD 2 0)) 3 (nw.getD 3 0)) 4 (nw.getD 4 0)) 5 (nw.getD 5 0)))) := e46x
  refine wq_gos (f := 1) (pc2 := 54) (ls2 := [(4, .int 0), (3, .int (-1)), (0, .ref 162), (1, .int (nI j)), (2, .int 0)]) (st2 := [.ref 162]) (h2 := hh45x) (dc2 := 0) (ds2 := 0) 12 rfl ?_
  have e49x := (ff47x.2 _ _ (wnc (by decide) wn0) e42x)
  refine wq_getf rfl e49x rfl rfl ?_
  refine wq_gos (f := 1) (pc2 := 59) (ls2 := [(4, .int 0), (3, .int (-1)), (0, .ref 162), (1, .int (nI j)), (2, .int 0)]) (st2 := [.int (nI j), .ref 224, .int (nI j), .ref 224]) (h2 := hh45x) (dc2 := 0) (ds2 := 0) 2 rfl ?_
  refine wq_ialdn rfl e46x (by first | omega | exact zin_t (by omega) (by omega)) (by decide) rfl ?_
  refine wq_gos (f := 1) (pc2 := 62) (ls2 := [(4, .int 0), (3, .int (-1)), (0, .ref 162), (1, .int (nI j)), (2, .int 0)]) (st2 := [.int (((zset 0 (zset 0 (zset 0 (zset 0 (zset 0 (zset 0 tk 0 (nw.getD 0 0)) 1 (nw.getD 1 0)) 2 (nw.getD 2 0)) 3 (nw.getD 3 0)) 4 (nw.getD 4 0)) 5 (nw.getD 5 0)).getD j 0) + (-1 : Int32)), .int (nI j), .ref 224]) (h2 := hh45x) (dc2 := 0) (ds2 := 0) 2 rfl ?_
  refine wq_iastn rfl e46x (by first | omega | exact zin_t (by omega) (by omega)) (by decide) rfl ?_
  intro hh50x e51x ff52x lh53x
  have e51x : zat hh50x 224 = some (.inl (0, 6, (zset 0 (zset 0 (zset 0 (zset 0 (zset 0 (zset 0 (zset 0 tk 0 (nw.getD 0 0)) 1 (nw.getD 1 0)) 2 (nw.getD 2 0)) 3 (nw.getD 3 0)) 4 (nw.getD 4 0)) 5 (nw.getD 5 0)) j (((zset 0 (zset 0 (zset 0 (zset 0 (zset 0 (zset 0 tk 0 (nw.getD 0 0)) 1 (nw.getD 1 0)) 2 (nw.getD 2 0)) 3 (nw.getD 3 0)) 4 (nw.getD 4 0)) 5 (nw.getD 5 0)).getD j 0) + (-1 : Int32))))) := e51x
  have e54x := (ff52x.2 _ _ (wnc (by decide) wn0) e49x)
  have e55x := (ff52x.2 _ _ (wnc (by decide) wn0) (ff47x.2 _ _ (wnc (by decide) wn0) (ff40x.2 _ _ (wnc (by decide) wn0) (ff33x.2 _ _ (wnc (by decide) wn0) (ff26x.2 _ _ (wnc (by decide) wn0) (ff19x.2 _ _ (wnc (by decide) wn0) (ff12x.2 _ _ (wnc (by decide) wn0) (ff3x.2 _ _ (wnc (by decide) wn0) hO))))))))
  have e56x := (ff52x.2 _ _ (wnc (by decide) wn0) (ff47x.2 _ _ (wnc (by decide) wn0) (ff40x.2 _ _ (wnc (by decide) wn0) (ff33x.2 _ _ (wnc (by decide) wn0) (ff26x.2 _ _ (wnc (by decide) wn0) (ff19x.2 _ _ (wnc (by decide) wn0) (ff12x.2 _ _ (wnc (by decide) wn0) (ff3x.2 _ _ (wnc (by decide) wn0) hG))))))))
  refine wq_ls [(0, .ref 162), (1, .int (nI j)), (2, .int 0), (3, .int (-1)), (4, .int 0)] (show ([0, 1, 2, 3, 4] : List Nat).Nodup by decide) ⟨rfl, rfl, rfl, rfl, rfl, trivial⟩ ?_
  refine wq_mono (m_frLn (by first | assumption | omega | decide | solve_by_elim) (by first | assumption | omega | decide | solve_by_elim) ((((zset 0 (zset 0 (zset 0 (zset 0 (zset 0 (zset 0 (zset 0 tk 0 (nw.getD 0 0)) 1 (nw.getD 1 0)) 2 (nw.getD 2 0)) 3 (nw.getD 3 0)) 4 (nw.getD 4 0)) 5 (nw.getD 5 0)) j (((zset 0 (zset 0 (zset 0 (zset 0 (zset 0 (zset 0 tk 0 (nw.getD 0 0)) 1 (nw.getD 1 0)) 2 (nw.getD 2 0)) 3 (nw.getD 3 0)) 4 (nw.getD 4 0)) 5 (nw.getD 5 0)).getD j 0) + (-1 : Int32))).getD j 0).toInt + 500).toNat + 1) (0 : Int32) (zset 0 (zset 0 (zset 0 (zset 0 (zset 0 (zset 0 (zset 0 tk 0 (nw.getD 0 0)) 1 (nw.getD 1 0)) 2 (nw.getD 2 0)) 3 (nw.getD 3 0)) 4 (nw.getD 4 0)) 5 (nw.getD 5 0)) j (((zset 0 (zset 0 (zset 0 (zset 0 (zset 0 (zset 0 tk 0 (nw.getD 0 0)) 1 (nw.getD 1 0)) 2 (nw.getD 2 0)) 3 (nw.getD 3 0)) 4 (nw.getD 4 0)) 5 (nw.getD 5 0)).getD j 0) + (-1 : Int32))) hh50x e54x e55x e56x e51x (by rw [zset_self, ecp]; exact frn9 hnj) (by omega) 0 0) ?_
  rintro _ ⟨h859x, rfl, f859x, l859x, c059x⟩
  obtain ⟨v57x, hv58x⟩ : ∃ x, x = (mfrFn lo hi j ((((zset 0 (zset 0 (zset 0 (zset 0 (zset 0 (zset 0 (zset 0 tk 0 (nw.getD 0 0)) 1 (nw.getD 1 0)) 2 (nw.getD 2 0)) 3 (nw.getD 3 0)) 4 (nw.getD 4 0)) 5 (nw.getD 5 0)) j (((zset 0 (zset 0 (zset 0 (zset 0 (zset 0 (zset 0 tk 0 (nw.getD 0 0)) 1 (nw.getD 1 0)) 2 (nw.getD 2 0)) 3 (nw.getD 3 0)) 4 (nw.getD 4 0)) 5 (nw.getD 5 0)).getD j 0) + (-1 : Int32))).getD j 0).toInt + 500).toNat + 1) (0 : Int32) (zset 0 (zset 0 (zset 0 (zset 0 (zset 0 (zset 0 (zset 0 tk 0 (nw.getD 0 0)) 1 (nw.getD 1 0)) 2 (nw.getD 2 0)) 3 (nw.getD 3 0)) 4 (nw.getD 4 0)) 5 (nw.getD 5 0)) j (((zset 0 (zset 0 (zset 0 (zset 0 (zset 0 (zset 0 tk 0 (nw.getD 0 0)) 1 (nw.getD 1 0)) 2 (nw.getD 2 0)) 3 (nw.getD 3 0)) 4 (nw.getD 4 0)) 5 (nw.getD 5 0)).getD j 0) + (-1 : Int32)))) := ⟨_, rfl⟩
  try rw [← hv58x] at c059x
  try rw [← hv58x]
  have e60x := (f859x.2 _ _ (wnc (by decide) wn0) e54x)
  have hx : (mFren lo hi nw tk j) = ((v57x.1), (0 : Int32), (v57x.2)) := by unfold mFren; rw [zlet_eq hv58x]
  rw [hx]
  exact ⟨h859x, rfl, (wFr_tr (wFr_sub ff3x (by simp)) (wFr_tr (wFr_sub ff12x (by simp)) (wFr_tr (wFr_sub ff19x (by simp)) (wFr_tr (wFr_sub ff26x (by simp)) (wFr_tr (wFr_sub ff33x (by simp)) (wFr_tr (wFr_sub ff40x (by simp)) (wFr_tr (wFr_sub ff47x (by simp)) (wFr_tr (wFr_sub ff52x (by simp)) (wFr_sub f859x (by simp)))))))))), by omega, e60x, c059x⟩
set_option maxRecDepth 100000 in
set_option maxHeartbeats 4000000 in
theorem m_freX {h : zH} {n0 n2 n14 n15 n16 n17 n18 n19 n20 n21 n22 n23 n27 n28 n32 n33 n34 n35 n39 n52 : Int32} {j u : Int32} (hM : zat h 162 = some (.inr (.inr (.inr (10, mO n0 n2 n14 n15 n16 n17 n18 n19 n20 n21 n22 n23 n27 n28 n32 n33 n34 n35 n39 n52))))) (hj : j.toInt < 0 ∨ 5 < j.toInt) : wq 274 0 [(0, .ref 162), (1, .int j), (2, .int u)] [] h 0 0 (fun rr9 => ∃ (h2 : zH), rr9 = (some (.int (-1)), h2, 0, 0) ∧ wFr [162] h h2 ∧ h2.length = h.length ∧ zat h2 162 = some (.inr (.inr (.inr (10, mO (0 : Int32) n2 n14 n15 n16 n17 n18 n19 n20 n21 n22 n23 n27 n28 n32 n33 n34 n35 n39 n52))))) := by
  have z0 : (0 : Int32).toInt = 0 := rfl
  have z1 : (1 : Int32).toInt = 1 := rfl
  have z5 : (5 : Int32).toInt = 5 := rfl
  have z6 : (6 : Int32).toInt = 6 := rfl
  have zm1 : (-1 : Int32).toInt = -1 := rfl
  have z3 : (3 : Int32).toInt = 3 := rfl
  have z2 : (2 : Int32).toInt = 2 := rfl
  have z20 : (20 : Int32).toInt = 20 := rfl
  refine wq_gos (f := 1) (pc2 := 2) (ls2 := [(0, .ref 162), (1, .int j), (2, .int u)]) (st2 := [.int 0, .ref 162]) (h2 := h) (dc2 := 0) (ds2 := 0) 2 rfl ?_
  refine wq_putf rfl hM rfl rfl rfl ?_
  intro hh1x e2x ff3x lh4x
  have e2x : zat hh1x 162 = some (.inr (.inr (.inr (10, mO (0 : Int32) n2 n14 n15 n16 n17 n18 n19 n20 n21 n22 n23 n27 n28 n32 n33 n34 n35 n39 n52)))) := e2x
  refine wq_gos (f := 1) (pc2 := 6) (ls2 := [(0, .ref 162), (1, .int j), (2, .int u)]) (st2 := [.int j]) (h2 := hh1x) (dc2 := 0) (ds2 := 0) 1 rfl ?_
  refine wq_inl (y2 := 208) (as := [.int j]) rfl rfl rfl ?_
  show wq 208 0 [(0, .int j)] [] hh1x 0 0 _
  refine wq_gos (f := 1) (pc2 := 1) (ls2 := [(0, .int j)]) (st2 := [.int j]) (h2 := hh1x) (dc2 := 0) (ds2 := 0) 1 rfl ?_
  refine wq_lt0 rfl rfl (fun b5x => ?_) (fun b5x => ?_)
  · refine wq_gos (f := 1) (pc2 := 15) (ls2 := [(0, .int j)]) (st2 := [.int 0]) (h2 := hh1x) (dc2 := 0) (ds2 := 0) 1 rfl ?_
    refine wq_ret rfl rfl ?_
    show wq 274 9 [(0, .ref 162), (1, .int j), (2, .int u)] [.int 0] hh1x 0 0 _
    refine wq_gos (f := 1) (pc2 := 13) (ls2 := [(0, .ref 162), (1, .int j), (2, .int u)]) (st2 := [.int (-1)]) (h2 := hh1x) (dc2 := 0) (ds2 := 0) 2 rfl ?_
    exact wq_ret rfl rfl ⟨hh1x, rfl, (wFr_sub ff3x (by simp)), (by omega), e2x⟩
  · refine wq_gos (f := 1) (pc2 := 7) (ls2 := [(0, .int j)]) (st2 := [.int 6, .int j]) (h2 := hh1x) (dc2 := 0) (ds2 := 0) 2 rfl ?_
    have q6x : (6 : Int32).toInt = 6 := rfl
    refine wq_ge2t rfl (by omega) ?_
    refine wq_gos (f := 1) (pc2 := 15) (ls2 := [(0, .int j)]) (st2 := [.int 0]) (h2 := hh1x) (dc2 := 0) (ds2 := 0) 1 rfl ?_
    refine wq_ret rfl rfl ?_
    show wq 274 9 [(0, .ref 162), (1, .int j), (2, .int u)] [.int 0] hh1x 0 0 _
    refine wq_gos (f := 1) (pc2 := 13) (ls2 := [(0, .ref 162), (1, .int j), (2, .int u)]) (st2 := [.int (-1)]) (h2 := hh1x) (dc2 := 0) (ds2 := 0) 2 rfl ?_
    exact wq_ret rfl rfl ⟨hh1x, rfl, (wFr_sub ff3x (by simp)), (by omega), e2x⟩
