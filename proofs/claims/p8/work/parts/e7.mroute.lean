/-! The reference: joints along a route, sums, misses. -/
noncomputable def mJA (pa co : List Int32) (wy r j : Nat) (n : Int32) : Int32 := if 0 < n.toInt then mjaF pa co wy r j n (wy - 0 + 1) 0 else pa.getD (66 * r + j) 0
set_option maxRecDepth 100000 in
set_option maxHeartbeats 4000000 in
theorem m_ja {h : zH} {n0 n2 n14 n15 n16 n17 n18 n19 n20 n21 n22 n23 n27 n28 n32 n33 n34 n35 n39 n52 : Int32} {kn pa co : List Int32} {r wy j : Nat} {n : Int32} (hM : zat h 162 = some (.inr (.inr (.inr (10, mO n0 n2 n14 n15 n16 n17 n18 n19 n20 n21 n22 n23 n27 n28 n32 n33 n34 n35 n39 n52))))) (hK : zat h 166 = some (.inl (0, 14, kn))) (hPa : zat h 214 = some (.inl (0, 132, pa))) (hCo : zat h 218 = some (.inl (0, 22, co))) (hkw : kn.getD 6 0 = nI wy ∧ wy ≤ 10 ∧ r < 2 ∧ j < 6) : wq 253 0 [(0, .ref 162), (1, .int (nI r)), (2, .int n), (3, .int (nI j))] [] h 0 0 (fun rr9 => rr9 = (some (.int (mJA pa co wy r j n)), h, 0, 0)) := by
  have qnr := nI_toInt (n := r) (by omega)
  have qnj := nI_toInt (n := j) (by omega)
  refine wq_gos (f := 1) (pc2 := 4) (ls2 := [(0, .ref 162), (1, .int (nI r)), (2, .int n), (3, .int (nI j))]) (st2 := [.int ((66 : Int32) * (nI r))]) (h2 := h) (dc2 := 0) (ds2 := 0) 3 rfl ?_
  refine wq_vi (show (66 : Int32) * (nI r) = nI (66 * r) from e_nmul 66 r) ?_
  refine wq_gos (f := 1) (pc2 := 7) (ls2 := [(4, .int (nI (66 * r))), (0, .ref 162), (1, .int (nI r)), (2, .int n), (3, .int (nI j))]) (st2 := [.int n]) (h2 := h) (dc2 := 0) (ds2 := 0) 2 rfl ?_
  refine wq_gt0 rfl rfl (fun b1x => ?_) (fun b1x => ?_)
  · refine wq_gos (f := 1) (pc2 := 23) (ls2 := [(5, .int 0), (4, .int (nI (66 * r))), (0, .ref 162), (1, .int (nI r)), (2, .int n), (3, .int (nI j))]) (st2 := []) (h2 := h) (dc2 := 0) (ds2 := 0) 2 rfl ?_
    try have q2x := nI_toInt (n := (66 * r)) (by omega)
    try have q3x := nI_toInt (n := r) (by omega)
    try have q4x := nI_toInt (n := j) (by omega)
    refine wq_ls [(0, .ref 162), (1, .int (nI r)), (2, .int n), (3, .int (nI j)), (4, .int (nI (66 * r))), (5, .int (nI 0))] (show ([0, 1, 2, 3, 4, 5] : List Nat).Nodup by decide) ⟨rfl, rfl, rfl, rfl, rfl, rfl, trivial⟩ ?_
    refine wq_mono (m_jaL hM hK hPa hCo (by first | omega | assumption | decide) ((wy - 0) + 1) 0 (by first | omega | assumption | decide) (by omega) 0 0) ?_
    rintro _ rfl
    have w5x : (mJA pa co wy r j n) = (mjaF pa co wy r j n ((wy - 0) + 1) 0) := by unfold mJA; rw [if_pos b1x]
    rw [w5x]
    all_goals exact rfl
  · refine wq_gos (f := 1) (pc2 := 11) (ls2 := [(4, .int (nI (66 * r))), (0, .ref 162), (1, .int (nI r)), (2, .int n), (3, .int (nI j))]) (st2 := [.ref 162]) (h2 := h) (dc2 := 0) (ds2 := 0) 1 rfl ?_
    refine wq_getf rfl hM rfl rfl ?_
    refine wq_gos (f := 1) (pc2 := 18) (ls2 := [(4, .int (nI (66 * r))), (0, .ref 162), (1, .int (nI r)), (2, .int n), (3, .int (nI j))]) (st2 := [.int ((nI (66 * r)) + (nI j)), .ref 214]) (h2 := h) (dc2 := 0) (ds2 := 0) 3 rfl ?_
    refine wq_vi (show (nI (66 * r)) + (nI j) = nI ((66 * r) + j) from nI_add (66 * r) j) ?_
    try have q6x := nI_toInt (n := ((66 * r) + j)) (by omega)
    refine wq_ialdn rfl hPa (by first | omega | exact zin_t (by omega) (by omega)) (by decide) rfl ?_
    have w7x : (mJA pa co wy r j n) = (pa.getD ((66 * r) + j) 0) := by unfold mJA; rw [if_neg (Int.not_lt.mpr b1x)]
    rw [w7x]
    exact wq_ret rfl rfl rfl
noncomputable def mbbF (pa co : List Int32) (wy r j : Nat) (n bl : Int32) : Nat → Int32 → Int32 → Int32
  | 0, _, _ => 0
  | m + 1, su, k => (if (n + bl).toInt < k.toInt then su else (mbbF pa co wy r j n bl m (su + (mJA pa co wy r j k)) (k + 1)))
set_option maxRecDepth 100000 in
set_option maxHeartbeats 4000000 in
theorem m_bbL {h : zH} {n0 n2 n14 n15 n16 n17 n18 n19 n20 n21 n22 n23 n27 n28 n32 n33 n34 n35 n39 n52 : Int32} {kn pa co : List Int32} {r wy j : Nat} {n bl : Int32} (hM : zat h 162 = some (.inr (.inr (.inr (10, mO n0 n2 n14 n15 n16 n17 n18 n19 n20 n21 n22 n23 n27 n28 n32 n33 n34 n35 n39 n52))))) (hK : zat h 166 = some (.inl (0, 14, kn))) (hPa : zat h 214 = some (.inl (0, 132, pa))) (hCo : zat h 218 = some (.inl (0, 22, co))) (hkw : kn.getD 6 0 = nI wy ∧ wy ≤ 10 ∧ r < 2 ∧ j < 6) (hbl : 0 ≤ bl.toInt ∧ bl.toInt ≤ 9 ∧ -100000 ≤ n.toInt ∧ n.toInt ≤ 100000) : ∀ (m : Nat) (su : Int32) (k : Int32), (n.toInt - bl.toInt ≤ k.toInt ∧ k.toInt ≤ n.toInt + bl.toInt + 1) → (n.toInt + bl.toInt + 1 - k.toInt).toNat < m → ∀ (dc ds : Nat), wq 254 9 [(0, .ref 162), (1, .int (nI r)), (2, .int n), (3, .int (nI j)), (4, .int bl), (5, .int su), (6, .int k)] [] h dc ds (fun rr9 => rr9 = (some (Value.int (mbbF pa co wy r j n bl m su k)), h, dc, ds)) := by
  intro m
  induction m with
  | zero => intro su k hk hms dc ds; omega
  | succ m ih =>
    intro su k hk hms dc ds
    refine wq_gos (f := 1) (pc2 := 15) (ls2 := [(0, .ref 162), (1, .int (nI r)), (2, .int n), (3, .int (nI j)), (4, .int bl), (5, .int su), (6, .int k)]) (st2 := [.int (n + bl), .int k]) (h2 := h) (dc2 := dc) (ds2 := ds) 4 rfl ?_
    try have q1x : ((n + bl)).toInt = n.toInt + bl.toInt := e_add (by omega) (by omega)
    refine wq_gt2 rfl rfl (fun b2x => ?_) (fun b2x => ?_)
    · refine wq_gos (f := 1) (pc2 := 39) (ls2 := [(0, .ref 162), (1, .int (nI r)), (2, .int n), (3, .int (nI j)), (4, .int bl), (5, .int su), (6, .int k)]) (st2 := [.int su]) (h2 := h) (dc2 := dc) (ds2 := ds) 1 rfl ?_
      have hx : (mbbF pa co wy r j n bl (m + 1) su k) = su := by show (if _ then _ else _) = _; rw [if_pos b2x]
      refine wq_ret rfl rfl ?_
      show (some (Value.int su), h, dc, ds) = (some (Value.int (mbbF pa co wy r j n bl (m + 1) su k)), h, dc, ds)
      rw [hx]
    · refine wq_gos (f := 1) (pc2 := 25) (ls2 := [(0, .ref 162), (1, .int (nI r)), (2, .int n), (3, .int (nI j)), (4, .int bl), (5, .int su), (6, .int k)]) (st2 := [.int (nI j), .int k, .int (nI r), .ref 162, .int su]) (h2 := h) (dc2 := dc) (ds2 := ds) 5 rfl ?_
      try have q3x := nI_toInt (n := r) (by omega)
      try have q4x := nI_toInt (n := j) (by omega)
      refine wq_inlv (y2 := 253) (as := [.int (nI r), .int k, .int (nI j)]) rfl rfl rfl hM rfl (wq_mono (m_ja hM hK hPa hCo (by first | omega | assumption | decide)) ?_)
      rintro _ rfl
      show wq 254 28 [(0, .ref 162), (1, .int (nI r)), (2, .int n), (3, .int (nI j)), (4, .int bl), (5, .int su), (6, .int k)] [.int (mJA pa co wy r j k), .int su] h dc ds _
      refine wq_gos (f := 1) (pc2 := 9) (ls2 := [(6, .int (k + 1)), (5, .int (su + (mJA pa co wy r j k))), (0, .ref 162), (1, .int (nI r)), (2, .int n), (3, .int (nI j)), (4, .int bl)]) (st2 := []) (h2 := h) (dc2 := dc) (ds2 := ds) 4 rfl ?_
      have q6x : (1 : Int32).toInt = 1 := rfl
      try have q7x : ((k + 1)).toInt = k.toInt + (1 : Int32).toInt := e_add (by omega) (by omega)
      try have q8x : ((su + (mJA pa co wy r j k))).toInt = su.toInt + (mJA pa co wy r j k).toInt := e_add (by omega) (by omega)
      have hx : (mbbF pa co wy r j n bl (m + 1) su k) = (mbbF pa co wy r j n bl m (su + (mJA pa co wy r j k)) (k + 1)) := by show (if _ then _ else _) = _; rw [if_neg (Int.not_lt.mpr b2x)]
      rw [hx]
      refine wq_ls [(0, .ref 162), (1, .int (nI r)), (2, .int n), (3, .int (nI j)), (4, .int bl), (5, .int (su + (mJA pa co wy r j k))), (6, .int (k + 1))] (show ([0, 1, 2, 3, 4, 5, 6] : List Nat).Nodup by decide) ⟨rfl, rfl, rfl, rfl, rfl, rfl, rfl, trivial⟩ ?_
      exact ih (su + (mJA pa co wy r j k)) (k + 1) (by first | omega | assumption | decide) (by omega) dc ds
set_option maxRecDepth 100000 in
set_option maxHeartbeats 4000000 in
theorem m_bb {h : zH} {n0 n2 n14 n15 n16 n17 n18 n19 n20 n21 n22 n23 n27 n28 n32 n33 n34 n35 n39 n52 : Int32} {kn pa co : List Int32} {r wy j : Nat} {n bl : Int32} (hM : zat h 162 = some (.inr (.inr (.inr (10, mO n0 n2 n14 n15 n16 n17 n18 n19 n20 n21 n22 n23 n27 n28 n32 n33 n34 n35 n39 n52))))) (hK : zat h 166 = some (.inl (0, 14, kn))) (hPa : zat h 214 = some (.inl (0, 132, pa))) (hCo : zat h 218 = some (.inl (0, 22, co))) (hkw : kn.getD 6 0 = nI wy ∧ wy ≤ 10 ∧ r < 2 ∧ j < 6) (hbl : 0 ≤ bl.toInt ∧ bl.toInt ≤ 9 ∧ -100000 ≤ n.toInt ∧ n.toInt ≤ 100000) : wq 254 0 [(0, .ref 162), (1, .int (nI r)), (2, .int n), (3, .int (nI j)), (4, .int bl)] [] h 0 0 (fun rr9 => rr9 = (some (.int (mbbF pa co wy r j n bl ((n.toInt + bl.toInt + 1 - (n - bl).toInt).toNat + 1) 0 (n - bl))), h, 0, 0)) := by
  refine wq_gos (f := 1) (pc2 := 9) (ls2 := [(6, .int (n - bl)), (5, .int 0), (0, .ref 162), (1, .int (nI r)), (2, .int n), (3, .int (nI j)), (4, .int bl)]) (st2 := []) (h2 := h) (dc2 := 0) (ds2 := 0) 6 rfl ?_
  try have q1x : ((n - bl)).toInt = n.toInt - bl.toInt := e_sub (by omega) (by omega)
  try have q2x := nI_toInt (n := r) (by omega)
  try have q3x := nI_toInt (n := j) (by omega)
  refine wq_ls [(0, .ref 162), (1, .int (nI r)), (2, .int n), (3, .int (nI j)), (4, .int bl), (5, .int (0 : Int32)), (6, .int (n - bl))] (show ([0, 1, 2, 3, 4, 5, 6] : List Nat).Nodup by decide) ⟨rfl, rfl, rfl, rfl, rfl, rfl, rfl, trivial⟩ ?_
  refine wq_mono (m_bbL hM hK hPa hCo (by first | omega | assumption | decide) (by first | omega | assumption | decide) ((n.toInt + bl.toInt + 1 - (n - bl).toInt).toNat + 1) (0 : Int32) (n - bl) (by first | omega | assumption | decide) (by omega) 0 0) ?_
  rintro _ rfl
  all_goals exact rfl
noncomputable def mMis (pa co : List Int32) (wy r i j : Nat) (bl : Int32) : Int32 := jabs ((mbbF pa co wy r j (co.getD (11 * r + i + 1) 0) bl (((co.getD (11 * r + i + 1) 0).toInt + bl.toInt + 1 - ((co.getD (11 * r + i + 1) 0) - bl).toInt).toNat + 1) 0 ((co.getD (11 * r + i + 1) 0) - bl)) - (pa.getD (66 * r + 6 * (i + 1) + j) 0) * ((2 : Int32) * bl + (1 : Int32)))
set_option maxRecDepth 100000 in
set_option maxHeartbeats 4000000 in
theorem m_mis {h : zH} {n0 n2 n14 n15 n16 n17 n18 n19 n20 n21 n22 n23 n27 n28 n32 n33 n34 n35 n39 n52 : Int32} {kn pa co : List Int32} {r wy j : Nat} {i : Nat} {bl : Int32} (hM : zat h 162 = some (.inr (.inr (.inr (10, mO n0 n2 n14 n15 n16 n17 n18 n19 n20 n21 n22 n23 n27 n28 n32 n33 n34 n35 n39 n52))))) (hK : zat h 166 = some (.inl (0, 14, kn))) (hPa : zat h 214 = some (.inl (0, 132, pa))) (hCo : zat h 218 = some (.inl (0, 22, co))) (hkw : kn.getD 6 0 = nI wy ∧ wy ≤ 10 ∧ r < 2 ∧ j < 6) (hbl : 0 ≤ bl.toInt ∧ bl.toInt ≤ 9 ∧ i < 10 ∧ (∀ q, q < 22 → -100000 ≤ (co.getD q 0).toInt ∧ (co.getD q 0).toInt ≤ 100000)) : wq 258 0 [(0, .ref 162), (1, .int (nI r)), (2, .int (nI i)), (3, .int (nI j)), (4, .int bl)] [] h 0 0 (fun rr9 => rr9 = (some (.int (mMis pa co wy r i j bl)), h, 0, 0)) := by
  have qnr := nI_toInt (n := r) (by omega)
  have qni := nI_toInt (n := i) (by omega)
  have qnj := nI_toInt (n := j) (by omega)
  have hq9 := hbl.2.2.2 (11 * r + i + 1) (by omega)
  refine wq_gos (f := 1) (pc2 := 3) (ls2 := [(0, .ref 162), (1, .int (nI r)), (2, .int (nI i)), (3, .int (nI j)), (4, .int bl)]) (st2 := [.ref 162, .int (nI r), .ref 162]) (h2 := h) (dc2 := 0) (ds2 := 0) 3 rfl ?_
  refine wq_getf rfl hM rfl rfl ?_
  refine wq_gos (f := 1) (pc2 := 10) (ls2 := [(0, .ref 162), (1, .int (nI r)), (2, .int (nI i)), (3, .int (nI j)), (4, .int bl)]) (st2 := [.int ((11 : Int32) * (nI r)), .ref 218, .int (nI r), .ref 162]) (h2 := h) (dc2 := 0) (ds2 := 0) 3 rfl ?_
  refine wq_vi (show (11 : Int32) * (nI r) = nI (11 * r) from e_nmul 11 r) ?_
  refine wq_gos (f := 1) (pc2 := 12) (ls2 := [(0, .ref 162), (1, .int (nI r)), (2, .int (nI i)), (3, .int (nI j)), (4, .int bl)]) (st2 := [.int ((nI (11 * r)) + (nI i)), .ref 218, .int (nI r), .ref 162]) (h2 := h) (dc2 := 0) (ds2 := 0) 2 rfl ?_
  refine wq_vi (show (nI (11 * r)) + (nI i) = nI ((11 * r) + i) from nI_add (11 * r) i) ?_
  refine wq_gos (f := 1) (pc2 := 14) (ls2 := [(0, .ref 162), (1, .int (nI r)), (2, .int (nI i)), (3, .int (nI j)), (4, .int bl)]) (st2 := [.int ((nI ((11 * r) + i)) + (1 : Int32)), .ref 218, .int (nI r), .ref 162]) (h2 := h) (dc2 := 0) (ds2 := 0) 2 rfl ?_
  refine wq_vi (show (nI ((11 * r) + i)) + (1 : Int32) = nI (((11 * r) + i) + 1) from nI_add ((11 * r) + i) 1) ?_
  try have q1x := nI_toInt (n := (((11 * r) + i) + 1)) (by omega)
  refine wq_ialdn rfl hCo (by first | omega | exact zin_t (by omega) (by omega)) (by decide) rfl ?_
  refine wq_gos (f := 1) (pc2 := 18) (ls2 := [(0, .ref 162), (1, .int (nI r)), (2, .int (nI i)), (3, .int (nI j)), (4, .int bl)]) (st2 := [.int bl, .int (nI j), .int (co.getD (((11 * r) + i) + 1) 0), .int (nI r), .ref 162]) (h2 := h) (dc2 := 0) (ds2 := 0) 2 rfl ?_
  try have q2x := nI_toInt (n := r) (by omega)
  try have q3x := nI_toInt (n := j) (by omega)
  refine wq_inlv (y2 := 254) (as := [.int (nI r), .int (co.getD (((11 * r) + i) + 1) 0), .int (nI j), .int bl]) rfl rfl rfl hM rfl (wq_mono (m_bb hM hK hPa hCo (by first | omega | assumption | decide) (by first | omega | assumption | decide)) ?_)
  rintro _ rfl
  show wq 258 21 [(0, .ref 162), (1, .int (nI r)), (2, .int (nI i)), (3, .int (nI j)), (4, .int bl)] [.int (mbbF pa co wy r j (co.getD (((11 * r) + i) + 1) 0) bl (((co.getD (((11 * r) + i) + 1) 0).toInt + bl.toInt + 1 - ((co.getD (((11 * r) + i) + 1) 0) - bl).toInt).toNat + 1) 0 ((co.getD (((11 * r) + i) + 1) 0) - bl))] h 0 0 _
  refine wq_gos (f := 1) (pc2 := 22) (ls2 := [(0, .ref 162), (1, .int (nI r)), (2, .int (nI i)), (3, .int (nI j)), (4, .int bl)]) (st2 := [.ref 162, .int (mbbF pa co wy r j (co.getD (((11 * r) + i) + 1) 0) bl (((co.getD (((11 * r) + i) + 1) 0).toInt + bl.toInt + 1 - ((co.getD (((11 * r) + i) + 1) 0) - bl).toInt).toNat + 1) 0 ((co.getD (((11 * r) + i) + 1) 0) - bl))]) (h2 := h) (dc2 := 0) (ds2 := 0) 1 rfl ?_
  refine wq_getf rfl hM rfl rfl ?_
  refine wq_gos (f := 1) (pc2 := 29) (ls2 := [(0, .ref 162), (1, .int (nI r)), (2, .int (nI i)), (3, .int (nI j)), (4, .int bl)]) (st2 := [.int ((66 : Int32) * (nI r)), .ref 214, .int (mbbF pa co wy r j (co.getD (((11 * r) + i) + 1) 0) bl (((co.getD (((11 * r) + i) + 1) 0).toInt + bl.toInt + 1 - ((co.getD (((11 * r) + i) + 1) 0) - bl).toInt).toNat + 1) 0 ((co.getD (((11 * r) + i) + 1) 0) - bl))]) (h2 := h) (dc2 := 0) (ds2 := 0) 3 rfl ?_
  refine wq_vi (show (66 : Int32) * (nI r) = nI (66 * r) from e_nmul 66 r) ?_
  refine wq_gos (f := 1) (pc2 := 34) (ls2 := [(0, .ref 162), (1, .int (nI r)), (2, .int (nI i)), (3, .int (nI j)), (4, .int bl)]) (st2 := [.int ((nI i) + (1 : Int32)), .int 6, .int (nI (66 * r)), .ref 214, .int (mbbF pa co wy r j (co.getD (((11 * r) + i) + 1) 0) bl (((co.getD (((11 * r) + i) + 1) 0).toInt + bl.toInt + 1 - ((co.getD (((11 * r) + i) + 1) 0) - bl).toInt).toNat + 1) 0 ((co.getD (((11 * r) + i) + 1) 0) - bl))]) (h2 := h) (dc2 := 0) (ds2 := 0) 4 rfl ?_
  refine wq_vi (show (nI i) + (1 : Int32) = nI (i + 1) from nI_add i 1) ?_
  refine wq_gos (f := 1) (pc2 := 35) (ls2 := [(0, .ref 162), (1, .int (nI r)), (2, .int (nI i)), (3, .int (nI j)), (4, .int bl)]) (st2 := [.int ((6 : Int32) * (nI (i + 1))), .int (nI (66 * r)), .ref 214, .int (mbbF pa co wy r j (co.getD (((11 * r) + i) + 1) 0) bl (((co.getD (((11 * r) + i) + 1) 0).toInt + bl.toInt + 1 - ((co.getD (((11 * r) + i) + 1) 0) - bl).toInt).toNat + 1) 0 ((co.getD (((11 * r) + i) + 1) 0) - bl))]) (h2 := h) (dc2 := 0) (ds2 := 0) 1 rfl ?_
  refine wq_vi (show (6 : Int32) * (nI (i + 1)) = nI (6 * (i + 1)) from e_nmul 6 (i + 1)) ?_
  refine wq_gos (f := 1) (pc2 := 36) (ls2 := [(0, .ref 162), (1, .int (nI r)), (2, .int (nI i)), (3, .int (nI j)), (4, .int bl)]) (st2 := [.int ((nI (66 * r)) + (nI (6 * (i + 1)))), .ref 214, .int (mbbF pa co wy r j (co.getD (((11 * r) + i) + 1) 0) bl (((co.getD (((11 * r) + i) + 1) 0).toInt + bl.toInt + 1 - ((co.getD (((11 * r) + i) + 1) 0) - bl).toInt).toNat + 1) 0 ((co.getD (((11 * r) + i) + 1) 0) - bl))]) (h2 := h) (dc2 := 0) (ds2 := 0) 1 rfl ?_
  refine wq_vi (show (nI (66 * r)) + (nI (6 * (i + 1))) = nI ((66 * r) + (6 * (i + 1))) from nI_add (66 * r) (6 * (i + 1))) ?_
  refine wq_gos (f := 1) (pc2 := 38) (ls2 := [(0, .ref 162), (1, .int (nI r)), (2, .int (nI i)), (3, .int (nI j)), (4, .int bl)]) (st2 := [.int ((nI ((66 * r) + (6 * (i + 1)))) + (nI j)), .ref 214, .int (mbbF pa co wy r j (co.getD (((11 * r) + i) + 1) 0) bl (((co.getD (((11 * r) + i) + 1) 0).toInt + bl.toInt + 1 - ((co.getD (((11 * r) + i) + 1) 0) - bl).toInt).toNat + 1) 0 ((co.getD (((11 * r) + i) + 1) 0) - bl))]) (h2 := h) (dc2 := 0) (ds2 := 0) 2 rfl ?_
  refine wq_vi (show (nI ((66 * r) + (6 * (i + 1)))) + (nI j) = nI (((66 * r) + (6 * (i + 1))) + j) from nI_add ((66 * r) + (6 * (i + 1))) j) ?_
  try have q5x := nI_toInt (n := (((66 * r) + (6 * (i + 1))) + j)) (by omega)
  refine wq_ialdn rfl hPa (by first | omega | exact zin_t (by omega) (by omega)) (by decide) rfl ?_
  refine wq_gos (f := 1) (pc2 := 47) (ls2 := [(0, .ref 162), (1, .int (nI r)), (2, .int (nI i)), (3, .int (nI j)), (4, .int bl)]) (st2 := [.int ((mbbF pa co wy r j (co.getD (((11 * r) + i) + 1) 0) bl (((co.getD (((11 * r) + i) + 1) 0).toInt + bl.toInt + 1 - ((co.getD (((11 * r) + i) + 1) 0) - bl).toInt).toNat + 1) 0 ((co.getD (((11 * r) + i) + 1) 0) - bl)) - ((pa.getD (((66 * r) + (6 * (i + 1))) + j) 0) * (((2 : Int32) * bl) + (1 : Int32))))]) (h2 := h) (dc2 := 0) (ds2 := 0) 7 rfl ?_
  refine wq_inl (y2 := 203) (as := [.int ((mbbF pa co wy r j (co.getD (((11 * r) + i) + 1) 0) bl (((co.getD (((11 * r) + i) + 1) 0).toInt + bl.toInt + 1 - ((co.getD (((11 * r) + i) + 1) 0) - bl).toInt).toNat + 1) 0 ((co.getD (((11 * r) + i) + 1) 0) - bl)) - ((pa.getD (((66 * r) + (6 * (i + 1))) + j) 0) * (((2 : Int32) * bl) + (1 : Int32))))]) rfl rfl rfl (wq_T (m_abs ((mbbF pa co wy r j (co.getD (((11 * r) + i) + 1) 0) bl (((co.getD (((11 * r) + i) + 1) 0).toInt + bl.toInt + 1 - ((co.getD (((11 * r) + i) + 1) 0) - bl).toInt).toNat + 1) 0 ((co.getD (((11 * r) + i) + 1) 0) - bl)) - ((pa.getD (((66 * r) + (6 * (i + 1))) + j) 0) * (((2 : Int32) * bl) + (1 : Int32)))) h) ?_)
  show wq 258 50 [(0, .ref 162), (1, .int (nI r)), (2, .int (nI i)), (3, .int (nI j)), (4, .int bl)] [.int (jabs ((mbbF pa co wy r j (co.getD (((11 * r) + i) + 1) 0) bl (((co.getD (((11 * r) + i) + 1) 0).toInt + bl.toInt + 1 - ((co.getD (((11 * r) + i) + 1) 0) - bl).toInt).toNat + 1) 0 ((co.getD (((11 * r) + i) + 1) 0) - bl)) - ((pa.getD (((66 * r) + (6 * (i + 1))) + j) 0) * (((2 : Int32) * bl) + (1 : Int32)))))] h 0 0 _
  have w6x : (mMis pa co wy r i j bl) = (jabs ((mbbF pa co wy r j (co.getD (((11 * r) + i) + 1) 0) bl (((co.getD (((11 * r) + i) + 1) 0).toInt + bl.toInt + 1 - ((co.getD (((11 * r) + i) + 1) 0) - bl).toInt).toNat + 1) 0 ((co.getD (((11 * r) + i) + 1) 0) - bl)) - ((pa.getD (((66 * r) + (6 * (i + 1))) + j) 0) * (((2 : Int32) * bl) + (1 : Int32))))) := rfl
  rw [w6x]
  exact wq_ret rfl rfl rfl
noncomputable def mirF (pa co : List Int32) (wy r : Nat) (bl m9 : Int32) : Nat → Nat → Nat → Int32
  | 0, _, _ => 0
  | m + 1, i, j => (if (6 : Int32).toInt ≤ (nI j).toInt then (if (nI wy).toInt ≤ (nI (i + 1)).toInt then 1 else (mirF pa co wy r bl m9 m (i + 1) 0)) else (if (mMis pa co wy r i j bl).toInt ≤ (m9 * (((2 : Int32) * bl) + (1 : Int32))).toInt then (mirF pa co wy r bl m9 m i (j + 1)) else 0))
set_option maxRecDepth 100000 in
set_option maxHeartbeats 4000000 in
theorem m_irL {h : zH} {n0 n2 n14 n15 n16 n17 n18 n19 n20 n21 n22 n23 n27 n28 n32 n33 n34 n35 n39 n52 : Int32} {kn pa co : List Int32} {r wy : Nat} {bl m9 : Int32} (hM : zat h 162 = some (.inr (.inr (.inr (10, mO n0 n2 n14 n15 n16 n17 n18 n19 n20 n21 n22 n23 n27 n28 n32 n33 n34 n35 n39 n52))))) (hK : zat h 166 = some (.inl (0, 14, kn))) (hPa : zat h 214 = some (.inl (0, 132, pa))) (hCo : zat h 218 = some (.inl (0, 22, co))) (hkw : kn.getD 6 0 = nI wy ∧ wy ≤ 10 ∧ r < 2) (hbl : 0 ≤ bl.toInt ∧ bl.toInt ≤ 9 ∧ (∀ q, q < 22 → -100000 ≤ (co.getD q 0).toInt ∧ (co.getD q 0).toInt ≤ 100000)) : ∀ (m : Nat) (i : Nat) (j : Nat), (i < wy ∧ j ≤ 6) → (7 * (wy - i) + (6 - j)) < m → ∀ (dc ds : Nat), wq 261 15 [(0, .ref 162), (1, .int (nI r)), (2, .int bl), (3, .int m9), (4, .int (nI i)), (5, .int (nI j))] [] h dc ds (fun rr9 => rr9 = (some (Value.int (mirF pa co wy r bl m9 m i j)), h, dc, ds)) := by
  intro m
  induction m with
  | zero => intro i j hi hms dc ds; omega
  | succ m ih =>
    intro i j hi hms dc ds
    have qnr := nI_toInt (n := r) (by omega)
    have qni := nI_toInt (n := i) (by omega)
    have qnj := nI_toInt (n := j) (by omega)
    have qnwy := nI_toInt (n := wy) (by omega)
    have qi1 := nI_toInt (n := i + 1) (by omega)
    refine wq_gos (f := 1) (pc2 := 19) (ls2 := [(0, .ref 162), (1, .int (nI r)), (2, .int bl), (3, .int m9), (4, .int (nI i)), (5, .int (nI j))]) (st2 := [.int 6, .int (nI j)]) (h2 := h) (dc2 := dc) (ds2 := ds) 2 rfl ?_
    try have q1x := nI_toInt (n := j) (by omega)
    have q2x : (6 : Int32).toInt = 6 := rfl
    refine wq_ge2 rfl rfl (fun b3x => ?_) (fun b3x => ?_)
    · refine wq_gos (f := 1) (pc2 := 53) (ls2 := [(4, .int ((nI i) + 1)), (0, .ref 162), (1, .int (nI r)), (2, .int bl), (3, .int m9), (5, .int (nI j))]) (st2 := []) (h2 := h) (dc2 := dc) (ds2 := ds) 1 rfl ?_
      rw [nI_1]
      refine wq_gos (f := 1) (pc2 := 6) (ls2 := [(4, .int (nI (i + 1))), (0, .ref 162), (1, .int (nI r)), (2, .int bl), (3, .int m9), (5, .int (nI j))]) (st2 := [.ref 162, .int (nI (i + 1))]) (h2 := h) (dc2 := dc) (ds2 := ds) 3 rfl ?_
      refine wq_inlv (y2 := 244) (as := []) rfl rfl rfl hM rfl ?_
      show wq 244 0 [(0, .ref 162)] [] h 0 0 _
      refine wq_gos (f := 1) (pc2 := 1) (ls2 := [(0, .ref 162)]) (st2 := [.ref 162]) (h2 := h) (dc2 := 0) (ds2 := 0) 1 rfl ?_
      refine wq_getf rfl hM rfl rfl ?_
      refine wq_gos (f := 1) (pc2 := 6) (ls2 := [(0, .ref 162)]) (st2 := [.int 6, .ref 166]) (h2 := h) (dc2 := 0) (ds2 := 0) 1 rfl ?_
      refine wq_iald rfl hK rfl rfl ?_
      refine wq_vi hkw.1 ?_
      refine wq_ret rfl rfl ?_
      show wq 261 9 [(4, .int (nI (i + 1))), (0, .ref 162), (1, .int (nI r)), (2, .int bl), (3, .int m9), (5, .int (nI j))] [.int (nI wy), .int (nI (i + 1))] h dc ds _
      try have q4x := nI_toInt (n := (i + 1)) (by omega)
      try have q5x := nI_toInt (n := wy) (by omega)
      refine wq_ge2 rfl rfl (fun b6x => ?_) (fun b6x => ?_)
      · refine wq_gos (f := 1) (pc2 := 57) (ls2 := [(4, .int (nI (i + 1))), (0, .ref 162), (1, .int (nI r)), (2, .int bl), (3, .int m9), (5, .int (nI j))]) (st2 := [.int 1]) (h2 := h) (dc2 := dc) (ds2 := ds) 1 rfl ?_
        have hx : (mirF pa co wy r bl m9 (m + 1) i j) = 1 := by show (if _ then _ else _) = _; rw [if_pos b3x, if_pos b6x]
        refine wq_ret rfl rfl ?_
        show (some (Value.int 1), h, dc, ds) = (some (Value.int (mirF pa co wy r bl m9 (m + 1) i j)), h, dc, ds)
        rw [hx]
      · refine wq_gos (f := 1) (pc2 := 15) (ls2 := [(5, .int 0), (4, .int (nI (i + 1))), (0, .ref 162), (1, .int (nI r)), (2, .int bl), (3, .int m9)]) (st2 := []) (h2 := h) (dc2 := dc) (ds2 := ds) 2 rfl ?_
        try have q7x := nI_toInt (n := r) (by omega)
        have hx : (mirF pa co wy r bl m9 (m + 1) i j) = (mirF pa co wy r bl m9 m (i + 1) 0) := by show (if _ then _ else _) = _; rw [if_pos b3x, if_neg (Int.not_le.mpr b6x)]
        rw [hx]
        refine wq_ls [(0, .ref 162), (1, .int (nI r)), (2, .int bl), (3, .int m9), (4, .int (nI (i + 1))), (5, .int (nI 0))] (show ([0, 1, 2, 3, 4, 5] : List Nat).Nodup by decide) ⟨rfl, rfl, rfl, rfl, rfl, rfl, trivial⟩ ?_
        exact ih (i + 1) 0 (by first | omega | assumption | decide) (by omega) dc ds
    · refine wq_gos (f := 1) (pc2 := 29) (ls2 := [(0, .ref 162), (1, .int (nI r)), (2, .int bl), (3, .int m9), (4, .int (nI i)), (5, .int (nI j))]) (st2 := [.int bl, .int (nI j), .int (nI i), .int (nI r), .ref 162]) (h2 := h) (dc2 := dc) (ds2 := ds) 5 rfl ?_
      try have q8x := nI_toInt (n := r) (by omega)
      try have q9x := nI_toInt (n := i) (by omega)
      refine wq_inlv (y2 := 258) (as := [.int (nI r), .int (nI i), .int (nI j), .int bl]) rfl rfl rfl hM rfl (wq_mono (m_mis hM hK hPa hCo ⟨hkw.1, hkw.2.1, hkw.2.2, by omega⟩ ⟨hbl.1, hbl.2.1, by omega, hbl.2.2⟩) ?_)
      rintro _ rfl
      show wq 261 32 [(0, .ref 162), (1, .int (nI r)), (2, .int bl), (3, .int m9), (4, .int (nI i)), (5, .int (nI j))] [.int (mMis pa co wy r i j bl)] h dc ds _
      refine wq_gos (f := 1) (pc2 := 39) (ls2 := [(0, .ref 162), (1, .int (nI r)), (2, .int bl), (3, .int m9), (4, .int (nI i)), (5, .int (nI j))]) (st2 := [.int (m9 * (((2 : Int32) * bl) + (1 : Int32))), .int (mMis pa co wy r i j bl)]) (h2 := h) (dc2 := dc) (ds2 := ds) 7 rfl ?_
      have q11x : (2 : Int32).toInt = 2 := rfl
      try have q12x : (((2 : Int32) * bl)).toInt = 2 * bl.toInt := e_mull rfl (by omega) (by omega)
      have q13x : (1 : Int32).toInt = 1 := rfl
      try have q14x : ((((2 : Int32) * bl) + (1 : Int32))).toInt = ((2 : Int32) * bl).toInt + (1 : Int32).toInt := e_add (by omega) (by omega)
      refine wq_le2 rfl rfl (fun b16x => ?_) (fun b16x => ?_)
      · refine wq_gos (f := 1) (pc2 := 47) (ls2 := [(5, .int ((nI j) + 1)), (0, .ref 162), (1, .int (nI r)), (2, .int bl), (3, .int m9), (4, .int (nI i))]) (st2 := []) (h2 := h) (dc2 := dc) (ds2 := ds) 1 rfl ?_
        rw [nI_1]
        refine wq_gos (f := 1) (pc2 := 15) (ls2 := [(5, .int (nI (j + 1))), (0, .ref 162), (1, .int (nI r)), (2, .int bl), (3, .int m9), (4, .int (nI i))]) (st2 := []) (h2 := h) (dc2 := dc) (ds2 := ds) 1 rfl ?_
        try have q17x := nI_toInt (n := (j + 1)) (by omega)
        have hx : (mirF pa co wy r bl m9 (m + 1) i j) = (mirF pa co wy r bl m9 m i (j + 1)) := by show (if _ then _ else _) = _; rw [if_neg (Int.not_le.mpr b3x), if_pos b16x]
        rw [hx]
        refine wq_ls [(0, .ref 162), (1, .int (nI r)), (2, .int bl), (3, .int m9), (4, .int (nI i)), (5, .int (nI (j + 1)))] (show ([0, 1, 2, 3, 4, 5] : List Nat).Nodup by decide) ⟨rfl, rfl, rfl, rfl, rfl, rfl, trivial⟩ ?_
        exact ih i (j + 1) (by first | omega | assumption | decide) (by omega) dc ds
      · refine wq_gos (f := 1) (pc2 := 43) (ls2 := [(0, .ref 162), (1, .int (nI r)), (2, .int bl), (3, .int m9), (4, .int (nI i)), (5, .int (nI j))]) (st2 := [.int 0]) (h2 := h) (dc2 := dc) (ds2 := ds) 1 rfl ?_
        have hx : (mirF pa co wy r bl m9 (m + 1) i j) = 0 := by show (if _ then _ else _) = _; rw [if_neg (Int.not_le.mpr b3x), if_neg (Int.not_le.mpr b16x)]
        refine wq_ret rfl rfl ?_
        show (some (Value.int 0), h, dc, ds) = (some (Value.int (mirF pa co wy r bl m9 (m + 1) i j)), h, dc, ds)
        rw [hx]
set_option maxRecDepth 100000 in
set_option maxHeartbeats 4000000 in
theorem m_ir {h : zH} {n0 n2 n14 n15 n16 n17 n18 n19 n20 n21 n22 n23 n27 n28 n32 n33 n34 n35 n39 n52 : Int32} {kn pa co : List Int32} {r wy : Nat} {bl m9 : Int32} (hM : zat h 162 = some (.inr (.inr (.inr (10, mO n0 n2 n14 n15 n16 n17 n18 n19 n20 n21 n22 n23 n27 n28 n32 n33 n34 n35 n39 n52))))) (hK : zat h 166 = some (.inl (0, 14, kn))) (hPa : zat h 214 = some (.inl (0, 132, pa))) (hCo : zat h 218 = some (.inl (0, 22, co))) (hkw : kn.getD 6 0 = nI wy ∧ wy ≤ 10 ∧ r < 2) (hbl : 0 ≤ bl.toInt ∧ bl.toInt ≤ 9 ∧ (∀ q, q < 22 → -100000 ≤ (co.getD q 0).toInt ∧ (co.getD q 0).toInt ≤ 100000)) : wq 261 0 [(0, .ref 162), (1, .int (nI r)), (2, .int bl), (3, .int m9)] [] h 0 0 (fun rr9 => rr9 = (some (.int (if wy = 0 then 1 else mirF pa co wy r bl m9 (7 * (wy - 0) + (6 - 0) + 1) 0 0)), h, 0, 0)) := by
  have qnwy := nI_toInt (n := wy) (by omega)
  have q00 : (0 : Int32).toInt = 0 := rfl
  refine wq_gos (f := 1) (pc2 := 6) (ls2 := [(4, .int 0), (0, .ref 162), (1, .int (nI r)), (2, .int bl), (3, .int m9)]) (st2 := [.ref 162, .int 0]) (h2 := h) (dc2 := 0) (ds2 := 0) 4 rfl ?_
  refine wq_inlv (y2 := 244) (as := []) rfl rfl rfl hM rfl ?_
  show wq 244 0 [(0, .ref 162)] [] h 0 0 _
  refine wq_gos (f := 1) (pc2 := 1) (ls2 := [(0, .ref 162)]) (st2 := [.ref 162]) (h2 := h) (dc2 := 0) (ds2 := 0) 1 rfl ?_
  refine wq_getf rfl hM rfl rfl ?_
  refine wq_gos (f := 1) (pc2 := 6) (ls2 := [(0, .ref 162)]) (st2 := [.int 6, .ref 166]) (h2 := h) (dc2 := 0) (ds2 := 0) 1 rfl ?_
  have q1x : (6 : Int32).toInt = 6 := rfl
  refine wq_iald rfl hK rfl rfl ?_
  refine wq_vi hkw.1 ?_
  refine wq_ret rfl rfl ?_
  show wq 261 9 [(4, .int 0), (0, .ref 162), (1, .int (nI r)), (2, .int bl), (3, .int m9)] [.int (nI wy), .int 0] h 0 0 _
  have q2x : (0 : Int32).toInt = 0 := rfl
  try have q3x := nI_toInt (n := wy) (by omega)
  refine wq_ge2 rfl rfl (fun b4x => ?_) (fun b4x => ?_)
  · refine wq_gos (f := 1) (pc2 := 57) (ls2 := [(4, .int 0), (0, .ref 162), (1, .int (nI r)), (2, .int bl), (3, .int m9)]) (st2 := [.int 1]) (h2 := h) (dc2 := 0) (ds2 := 0) 1 rfl ?_
    have w5x : (if wy = 0 then 1 else mirF pa co wy r bl m9 (7 * (wy - 0) + (6 - 0) + 1) 0 0) = (1 : Int32) := by rw [if_pos (by omega)]
    rw [w5x]
    exact wq_ret rfl rfl rfl
  · refine wq_gos (f := 1) (pc2 := 15) (ls2 := [(5, .int 0), (4, .int 0), (0, .ref 162), (1, .int (nI r)), (2, .int bl), (3, .int m9)]) (st2 := []) (h2 := h) (dc2 := 0) (ds2 := 0) 2 rfl ?_
    try have q6x := nI_toInt (n := r) (by omega)
    refine wq_ls [(0, .ref 162), (1, .int (nI r)), (2, .int bl), (3, .int m9), (4, .int (nI 0)), (5, .int (nI 0))] (show ([0, 1, 2, 3, 4, 5] : List Nat).Nodup by decide) ⟨rfl, rfl, rfl, rfl, rfl, rfl, trivial⟩ ?_
    refine wq_mono (m_irL hM hK hPa hCo (by first | omega | assumption | decide) (by first | omega | assumption | decide) ((7 * (wy - 0) + (6 - 0)) + 1) 0 0 (by first | omega | assumption | decide) (by omega) 0 0) ?_
    rintro _ rfl
    have w7x : (if wy = 0 then 1 else mirF pa co wy r bl m9 (7 * (wy - 0) + (6 - 0) + 1) 0 0) = (mirF pa co wy r bl m9 ((7 * (wy - 0) + (6 - 0)) + 1) 0 0) := by rw [if_neg (by omega)]
    rw [w7x]
    all_goals exact rfl
noncomputable def mTick (tk pa co : List Int32) (wy r : Nat) (n : Int32) : List Int32 := (zset 0 (zset 0 (zset 0 (zset 0 (zset 0 (zset 0 tk 0 (mJA pa co wy r 0 n)) 1 (mJA pa co wy r 1 n)) 2 (mJA pa co wy r 2 n)) 3 (mJA pa co wy r 3 n)) 4 (mJA pa co wy r 4 n)) 5 (mJA pa co wy r 5 n))
set_option maxRecDepth 100000 in
set_option maxHeartbeats 4000000 in
theorem m_lt {h : zH} {n0 n2 n14 n15 n16 n17 n18 n19 n20 n21 n22 n23 n27 n28 n32 n33 n34 n35 n39 n52 : Int32} {kn pa co : List Int32} {r wy : Nat} {tk : List Int32} {n : Int32} (hM : zat h 162 = some (.inr (.inr (.inr (10, mO n0 n2 n14 n15 n16 n17 n18 n19 n20 n21 n22 n23 n27 n28 n32 n33 n34 n35 n39 n52))))) (hK : zat h 166 = some (.inl (0, 14, kn))) (hPa : zat h 214 = some (.inl (0, 132, pa))) (hCo : zat h 218 = some (.inl (0, 22, co))) (hTk : zat h 224 = some (.inl (0, 6, tk))) (hkw : kn.getD 6 0 = nI wy ∧ wy ≤ 10 ∧ r < 2) : wq 262 0 [(0, .ref 162), (1, .int (nI r)), (2, .int n)] [] h 0 0 (fun rr9 => ∃ (h2 : zH), rr9 = (none, h2, 0, 0) ∧ wFr [224] h h2 ∧ h2.length = h.length ∧ zat h2 224 = some (.inl (0, 6, (mTick tk pa co wy r n)))) := by
  refine wq_gos (f := 1) (pc2 := 9) (ls2 := [(3, .int 0), (0, .ref 162), (1, .int (nI r)), (2, .int n)]) (st2 := [.ref 162]) (h2 := h) (dc2 := 0) (ds2 := 0) 6 rfl ?_
  refine wq_getf rfl hM rfl rfl ?_
  refine wq_gos (f := 1) (pc2 := 17) (ls2 := [(3, .int 0), (0, .ref 162), (1, .int (nI r)), (2, .int n)]) (st2 := [.int 0, .int n, .int (nI r), .ref 162, .int 0, .ref 224]) (h2 := h) (dc2 := 0) (ds2 := 0) 5 rfl ?_
  try have q1x := nI_toInt (n := r) (by omega)
  have q2x : (0 : Int32).toInt = 0 := rfl
  refine wq_inlv (y2 := 253) (as := [.int (nI r), .int n, .int 0]) rfl rfl rfl hM rfl (wq_mono (m_ja hM hK hPa hCo ⟨hkw.1, hkw.2.1, hkw.2.2, by decide⟩) ?_)
  rintro _ rfl
  show wq 262 20 [(3, .int 0), (0, .ref 162), (1, .int (nI r)), (2, .int n)] [.int (mJA pa co wy r 0 n), .int 0, .ref 224] h 0 0 _
  refine wq_iast rfl hTk rfl rfl ?_
  intro h4x e5x f6x l7x
  have e5x : zat h4x 224 = some (.inl (0, 6, (zset 0 tk 0 (mJA pa co wy r 0 n)))) := e5x
  refine wq_gos (f := 1) (pc2 := 9) (ls2 := [(3, .int 1), (0, .ref 162), (1, .int (nI r)), (2, .int n)]) (st2 := [.ref 162]) (h2 := h4x) (dc2 := 0) (ds2 := 0) 6 rfl ?_
  have e8x := (f6x.2 _ _ (wnc (by decide) wn0) hM)
  refine wq_getf rfl e8x rfl rfl ?_
  refine wq_gos (f := 1) (pc2 := 17) (ls2 := [(3, .int 1), (0, .ref 162), (1, .int (nI r)), (2, .int n)]) (st2 := [.int 1, .int n, .int (nI r), .ref 162, .int 1, .ref 224]) (h2 := h4x) (dc2 := 0) (ds2 := 0) 5 rfl ?_
  have e9x := (f6x.2 _ _ (wnc (by decide) wn0) hK)
  have e10x := (f6x.2 _ _ (wnc (by decide) wn0) hPa)
  have e11x := (f6x.2 _ _ (wnc (by decide) wn0) hCo)
  have q12x : (1 : Int32).toInt = 1 := rfl
  refine wq_inlv (y2 := 253) (as := [.int (nI r), .int n, .int 1]) rfl rfl rfl e8x rfl (wq_mono (m_ja e8x e9x e10x e11x ⟨hkw.1, hkw.2.1, hkw.2.2, by decide⟩) ?_)
  rintro _ rfl
  show wq 262 20 [(3, .int 1), (0, .ref 162), (1, .int (nI r)), (2, .int n)] [.int (mJA pa co wy r 1 n), .int 1, .ref 224] h4x 0 0 _
  refine wq_iast rfl e5x rfl rfl ?_
  intro h14x e15x f16x l17x
  have e15x : zat h14x 224 = some (.inl (0, 6, (zset 0 (zset 0 tk 0 (mJA pa co wy r 0 n)) 1 (mJA pa co wy r 1 n)))) := e15x
  refine wq_gos (f := 1) (pc2 := 9) (ls2 := [(3, .int 2), (0, .ref 162), (1, .int (nI r)), (2, .int n)]) (st2 := [.ref 162]) (h2 := h14x) (dc2 := 0) (ds2 := 0) 6 rfl ?_
  have e18x := (f16x.2 _ _ (wnc (by decide) wn0) e8x)
  refine wq_getf rfl e18x rfl rfl ?_
  refine wq_gos (f := 1) (pc2 := 17) (ls2 := [(3, .int 2), (0, .ref 162), (1, .int (nI r)), (2, .int n)]) (st2 := [.int 2, .int n, .int (nI r), .ref 162, .int 2, .ref 224]) (h2 := h14x) (dc2 := 0) (ds2 := 0) 5 rfl ?_
  have e19x := (f16x.2 _ _ (wnc (by decide) wn0) e9x)
  have e20x := (f16x.2 _ _ (wnc (by decide) wn0) e10x)
  have e21x := (f16x.2 _ _ (wnc (by decide) wn0) e11x)
  have q22x : (2 : Int32).toInt = 2 := rfl
  refine wq_inlv (y2 := 253) (as := [.int (nI r), .int n, .int 2]) rfl rfl rfl e18x rfl (wq_mono (m_ja e18x e19x e20x e21x ⟨hkw.1, hkw.2.1, hkw.2.2, by decide⟩) ?_)
  rintro _ rfl
  show wq 262 20 [(3, .int 2), (0, .ref 162), (1, .int (nI r)), (2, .int n)] [.int (mJA pa co wy r 2 n), .int 2, .ref 224] h14x 0 0 _
  refine wq_iast rfl e15x rfl rfl ?_
  intro h24x e25x f26x l27x
  have e25x : zat h24x 224 = some (.inl (0, 6, (zset 0 (zset 0 (zset 0 tk 0 (mJA pa co wy r 0 n)) 1 (mJA pa co wy r 1 n)) 2 (mJA pa co wy r 2 n)))) := e25x
  refine wq_gos (f := 1) (pc2 := 9) (ls2 := [(3, .int 3), (0, .ref 162), (1, .int (nI r)), (2, .int n)]) (st2 := [.ref 162]) (h2 := h24x) (dc2 := 0) (ds2 := 0) 6 rfl ?_
  have e28x := (f26x.2 _ _ (wnc (by decide) wn0) e18x)
  refine wq_getf rfl e28x rfl rfl ?_
  refine wq_gos (f := 1) (pc2 := 17) (ls2 := [(3, .int 3), (0, .ref 162), (1, .int (nI r)), (2, .int n)]) (st2 := [.int 3, .int n, .int (nI r), .ref 162, .int 3, .ref 224]) (h2 := h24x) (dc2 := 0) (ds2 := 0) 5 rfl ?_
  have e29x := (f26x.2 _ _ (wnc (by decide) wn0) e19x)
  have e30x := (f26x.2 _ _ (wnc (by decide) wn0) e20x)
  have e31x := (f26x.2 _ _ (wnc (by decide) wn0) e21x)
  have q32x : (3 : Int32).toInt = 3 := rfl
  refine wq_inlv (y2 := 253) (as := [.int (nI r), .int n, .int 3]) rfl rfl rfl e28x rfl (wq_mono (m_ja e28x e29x e30x e31x ⟨hkw.1, hkw.2.1, hkw.2.2, by decide⟩) ?_)
  rintro _ rfl
  show wq 262 20 [(3, .int 3), (0, .ref 162), (1, .int (nI r)), (2, .int n)] [.int (mJA pa co wy r 3 n), .int 3, .ref 224] h24x 0 0 _
  refine wq_iast rfl e25x rfl rfl ?_
  intro h34x e35x f36x l37x
  have e35x : zat h34x 224 = some (.inl (0, 6, (zset 0 (zset 0 (zset 0 (zset 0 tk 0 (mJA pa co wy r 0 n)) 1 (mJA pa co wy r 1 n)) 2 (mJA pa co wy r 2 n)) 3 (mJA pa co wy r 3 n)))) := e35x
  refine wq_gos (f := 1) (pc2 := 9) (ls2 := [(3, .int 4), (0, .ref 162), (1, .int (nI r)), (2, .int n)]) (st2 := [.ref 162]) (h2 := h34x) (dc2 := 0) (ds2 := 0) 6 rfl ?_
  have e38x := (f36x.2 _ _ (wnc (by decide) wn0) e28x)
  refine wq_getf rfl e38x rfl rfl ?_
  refine wq_gos (f := 1) (pc2 := 17) (ls2 := [(3, .int 4), (0, .ref 162), (1, .int (nI r)), (2, .int n)]) (st2 := [.int 4, .int n, .int (nI r), .ref 162, .int 4, .ref 224]) (h2 := h34x) (dc2 := 0) (ds2 := 0) 5 rfl ?_
  have e39x := (f36x.2 _ _ (wnc (by decide) wn0) e29x)
  have e40x := (f36x.2 _ _ (wnc (by decide) wn0) e30x)
  have e41x := (f36x.2 _ _ (wnc (by decide) wn0) e31x)
  have q42x : (4 : Int32).toInt = 4 := rfl
  refine wq_inlv (y2 := 253) (as := [.int (nI r), .int n, .int 4]) rfl rfl rfl e38x rfl (wq_mono (m_ja e38x e39x e40x e41x ⟨hkw.1, hkw.2.1, hkw.2.2, by decide⟩) ?_)
  rintro _ rfl
  show wq 262 20 [(3, .int 4), (0, .ref 162), (1, .int (nI r)), (2, .int n)] [.int (mJA pa co wy r 4 n), .int 4, .ref 224] h34x 0 0 _
  refine wq_iast rfl e35x rfl rfl ?_
  intro h44x e45x f46x l47x
  have e45x : zat h44x 224 = some (.inl (0, 6, (zset 0 (zset 0 (zset 0 (zset 0 (zset 0 tk 0 (mJA pa co wy r 0 n)) 1 (mJA pa co wy r 1 n)) 2 (mJA pa co wy r 2 n)) 3 (mJA pa co wy r 3 n)) 4 (mJA pa co wy r 4 n)))) := e45x
  refine wq_gos (f := 1) (pc2 := 9) (ls2 := [(3, .int 5), (0, .ref 162), (1, .int (nI r)), (2, .int n)]) (st2 := [.ref 162]) (h2 := h44x) (dc2 := 0) (ds2 := 0) 6 rfl ?_
  have e48x := (f46x.2 _ _ (wnc (by decide) wn0) e38x)
  refine wq_getf rfl e48x rfl rfl ?_
  refine wq_gos (f := 1) (pc2 := 17) (ls2 := [(3, .int 5), (0, .ref 162), (1, .int (nI r)), (2, .int n)]) (st2 := [.int 5, .int n, .int (nI r), .ref 162, .int 5, .ref 224]) (h2 := h44x) (dc2 := 0) (ds2 := 0) 5 rfl ?_
  have e49x := (f46x.2 _ _ (wnc (by decide) wn0) e39x)
  have e50x := (f46x.2 _ _ (wnc (by decide) wn0) e40x)
  have e51x := (f46x.2 _ _ (wnc (by decide) wn0) e41x)
  have q52x : (5 : Int32).toInt = 5 := rfl
  refine wq_inlv (y2 := 253) (as := [.int (nI r), .int n, .int 5]) rfl rfl rfl e48x rfl (wq_mono (m_ja e48x e49x e50x e51x ⟨hkw.1, hkw.2.1, hkw.2.2, by decide⟩) ?_)
  rintro _ rfl
  show wq 262 20 [(3, .int 5), (0, .ref 162), (1, .int (nI r)), (2, .int n)] [.int (mJA pa co wy r 5 n), .int 5, .ref 224] h44x 0 0 _
  refine wq_iast rfl e45x rfl rfl ?_
  intro h54x e55x f56x l57x
  have e55x : zat h54x 224 = some (.inl (0, 6, (zset 0 (zset 0 (zset 0 (zset 0 (zset 0 (zset 0 tk 0 (mJA pa co wy r 0 n)) 1 (mJA pa co wy r 1 n)) 2 (mJA pa co wy r 2 n)) 3 (mJA pa co wy r 3 n)) 4 (mJA pa co wy r 4 n)) 5 (mJA pa co wy r 5 n)))) := e55x
  refine wq_gos (f := 1) (pc2 := 27) (ls2 := [(3, .int 6), (0, .ref 162), (1, .int (nI r)), (2, .int n)]) (st2 := []) (h2 := h54x) (dc2 := 0) (ds2 := 0) 5 rfl ?_
  exact wq_ret rfl rfl ⟨h54x, rfl, (wFr_tr (wFr_sub f6x (by simp)) (wFr_tr (wFr_sub f16x (by simp)) (wFr_tr (wFr_sub f26x (by simp)) (wFr_tr (wFr_sub f36x (by simp)) (wFr_tr (wFr_sub f46x (by simp)) (wFr_sub f56x (by simp))))))), (by omega), (show zat h54x 224 = some (.inl (0, 6, mTick tk pa co wy r n)) from e55x)⟩
