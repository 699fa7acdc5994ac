/-! The class: a route's answers. -/
noncomputable def jSom (p : Int64) (w : Int32) : Int32 := (if w = (0 : Int32) then (jside p) else (if w = (1 : Int32) then (jbend p) else (if w = (2 : Int32) then (jmea p) else (-9))))
set_option maxRecDepth 100000 in
set_option maxHeartbeats 4000000 in
theorem c_som {h : zH} {p : Int64} {w : Int32}   : wq 147 0 [(0, .long p), (2, .int w)] [] h 0 0 (fun rr9 => rr9 = (some (.int (jSom p w)), h, 0, 0)) := by
  refine wq_gos (f := 1) (pc2 := 1) (ls2 := [(0, .long p), (2, .int w)]) (st2 := [.int w]) (h2 := h) (dc2 := 0) (ds2 := 0) 1 rfl ?_
  by_cases b1x : w = (0 : Int32)
  · refine wq_tabc rfl b1x rfl ?_
    refine wq_gos (f := 1) (pc2 := 29) (ls2 := [(0, .long p), (2, .int w)]) (st2 := [.long p]) (h2 := h) (dc2 := 0) (ds2 := 0) 1 rfl ?_
    refine wq_inl (y2 := 35) (as := [.long p]) rfl rfl rfl (wq_T (c_side p h) ?_)
    show wq 147 32 [(0, .long p), (2, .int w)] [.int (jside p)] h 0 0 _
    have w2x : (jSom p w) = (jside p) := by unfold jSom; rw [if_pos b1x]
    rw [w2x]
    exact wq_ret rfl rfl rfl
  have q3x : (w).toInt ≠ 0 := fun q => b1x (Int32.toInt_inj.mp q)
  by_cases b4x : w = (1 : Int32)
  · refine wq_tabc rfl b4x rfl ?_
    refine wq_gos (f := 1) (pc2 := 34) (ls2 := [(0, .long p), (2, .int w)]) (st2 := [.long p]) (h2 := h) (dc2 := 0) (ds2 := 0) 1 rfl ?_
    refine wq_inl (y2 := 36) (as := [.long p]) rfl rfl rfl (wq_T (c_bend p h) ?_)
    show wq 147 37 [(0, .long p), (2, .int w)] [.int (jbend p)] h 0 0 _
    have w5x : (jSom p w) = (jbend p) := by unfold jSom; rw [if_neg b1x, if_pos b4x]
    rw [w5x]
    exact wq_ret rfl rfl rfl
  have q6x : (w).toInt ≠ 1 := fun q => b4x (Int32.toInt_inj.mp q)
  by_cases b7x : w = (2 : Int32)
  · refine wq_tabc rfl b7x rfl ?_
    refine wq_gos (f := 1) (pc2 := 39) (ls2 := [(0, .long p), (2, .int w)]) (st2 := [.long p]) (h2 := h) (dc2 := 0) (ds2 := 0) 1 rfl ?_
    refine wq_inl (y2 := 37) (as := [.long p]) rfl rfl rfl (wq_T (c_mea p h) ?_)
    show wq 147 42 [(0, .long p), (2, .int w)] [.int (jmea p)] h 0 0 _
    have w8x : (jSom p w) = (jmea p) := by unfold jSom; rw [if_neg b1x, if_neg b4x, if_pos b7x]
    rw [w8x]
    exact wq_ret rfl rfl rfl
  have q9x : (w).toInt ≠ 2 := fun q => b7x (Int32.toInt_inj.mp q)
  refine wq_tabo rfl (by omega) ?_
  refine wq_gos (f := 1) (pc2 := 45) (ls2 := [(0, .long p), (2, .int w)]) (st2 := [.int (-9)]) (h2 := h) (dc2 := 0) (ds2 := 0) 1 rfl ?_
  have w10x : (jSom p w) = (-9 : Int32) := by unfold jSom; rw [if_neg b1x, if_neg b4x, if_neg b7x]
  rw [w10x]
  exact wq_ret rfl rfl rfl
noncomputable def jNat (T : Nat) (stp : List Int64) (n j : Int32) : Int32 := (if 0 ≤ n.toInt then (if n.toInt ≤ (nI T).toInt then (jnumv (stp.getD (n).toNatClampNeg 0) j) else (jnumv (stp.getD T 0) j)) else (jnumv (stp.getD 0 0) j))
set_option maxRecDepth 100000 in
set_option maxHeartbeats 4000000 in
theorem c_nat {h : zH} {rr rS T N : Nat} {kn : Int32} {fr : Int64} {stp : List Int64} {n j : Int32} (hR : zat h rr = some (.inr (.inr (.inr (6, [.int kn, .long fr, .int (nI T), .ref (rr + 2), .ref (rr + 4), .ref rS]))))) (hS : zat h rS = some (.inr (.inl (N, stp)))) (hT : T < N ∧ N ≤ 20000) : wq 70 0 [(0, .ref rr), (1, .int n), (2, .int j)] [] h 0 0 (fun rr9 => rr9 = (some (.int (jNat T stp n j)), h, 0, 0)) := by
  have qnT := nI_toInt (n := T) (by omega)
  refine wq_gos (f := 1) (pc2 := 1) (ls2 := [(0, .ref rr), (1, .int n), (2, .int j)]) (st2 := [.int n]) (h2 := h) (dc2 := 0) (ds2 := 0) 1 rfl ?_
  refine wq_ge0 rfl rfl (fun b1x => ?_) (fun b1x => ?_)
  · refine wq_gos (f := 1) (pc2 := 10) (ls2 := [(0, .ref rr), (1, .int n), (2, .int j)]) (st2 := [.ref rr, .int n]) (h2 := h) (dc2 := 0) (ds2 := 0) 2 rfl ?_
    refine wq_getf rfl hR rfl rfl ?_
    try have q2x := nI_toInt (n := T) (by omega)
    refine wq_le2 rfl rfl (fun b3x => ?_) (fun b3x => ?_)
    · refine wq_gos (f := 1) (pc2 := 26) (ls2 := [(3, .int n), (0, .ref rr), (1, .int n), (2, .int j)]) (st2 := [.ref rr]) (h2 := h) (dc2 := 0) (ds2 := 0) 3 rfl ?_
      refine wq_getf rfl hR rfl rfl ?_
      refine wq_gos (f := 1) (pc2 := 30) (ls2 := [(3, .int n), (0, .ref rr), (1, .int n), (2, .int j)]) (st2 := [.int n, .ref rS]) (h2 := h) (dc2 := 0) (ds2 := 0) 1 rfl ?_
      refine wq_lald rfl hS (by first | omega | exact zin_t (by omega) (by omega)) rfl ?_
      refine wq_gos (f := 1) (pc2 := 32) (ls2 := [(3, .int n), (0, .ref rr), (1, .int n), (2, .int j)]) (st2 := [.int j, .long (stp.getD (n).toNatClampNeg 0)]) (h2 := h) (dc2 := 0) (ds2 := 0) 1 rfl ?_
      refine wq_inl (y2 := 33) (as := [.long (stp.getD (n).toNatClampNeg 0), .int j]) rfl rfl rfl (wq_mono c_numv ?_)
      rintro _ rfl
      show wq 70 35 [(3, .int n), (0, .ref rr), (1, .int n), (2, .int j)] [.int (jnumv (stp.getD (n).toNatClampNeg 0) j)] h 0 0 _
      have w5x : (jNat T stp n j) = (jnumv (stp.getD (n).toNatClampNeg 0) j) := by unfold jNat; rw [if_pos b1x, if_pos b3x]
      rw [w5x]
      exact wq_ret rfl rfl rfl
    · refine wq_gos (f := 1) (pc2 := 17) (ls2 := [(0, .ref rr), (1, .int n), (2, .int j)]) (st2 := [.ref rr]) (h2 := h) (dc2 := 0) (ds2 := 0) 1 rfl ?_
      refine wq_getf rfl hR rfl rfl ?_
      refine wq_gos (f := 1) (pc2 := 26) (ls2 := [(3, .int (nI T)), (0, .ref rr), (1, .int n), (2, .int j)]) (st2 := [.ref rr]) (h2 := h) (dc2 := 0) (ds2 := 0) 3 rfl ?_
      refine wq_getf rfl hR rfl rfl ?_
      refine wq_gos (f := 1) (pc2 := 30) (ls2 := [(3, .int (nI T)), (0, .ref rr), (1, .int n), (2, .int j)]) (st2 := [.int (nI T), .ref rS]) (h2 := h) (dc2 := 0) (ds2 := 0) 1 rfl ?_
      refine wq_laldn rfl hS (by first | omega | exact zin_t (by omega) (by omega)) (by omega) rfl ?_
      refine wq_gos (f := 1) (pc2 := 32) (ls2 := [(3, .int (nI T)), (0, .ref rr), (1, .int n), (2, .int j)]) (st2 := [.int j, .long (stp.getD T 0)]) (h2 := h) (dc2 := 0) (ds2 := 0) 1 rfl ?_
      refine wq_inl (y2 := 33) (as := [.long (stp.getD T 0), .int j]) rfl rfl rfl (wq_mono c_numv ?_)
      rintro _ rfl
      show wq 70 35 [(3, .int (nI T)), (0, .ref rr), (1, .int n), (2, .int j)] [.int (jnumv (stp.getD T 0) j)] h 0 0 _
      have w7x : (jNat T stp n j) = (jnumv (stp.getD T 0) j) := by unfold jNat; rw [if_pos b1x, if_neg (Int.not_le.mpr b3x)]
      rw [w7x]
      exact wq_ret rfl rfl rfl
  · refine wq_gos (f := 1) (pc2 := 26) (ls2 := [(3, .int 0), (0, .ref rr), (1, .int n), (2, .int j)]) (st2 := [.ref rr]) (h2 := h) (dc2 := 0) (ds2 := 0) 4 rfl ?_
    refine wq_getf rfl hR rfl rfl ?_
    refine wq_gos (f := 1) (pc2 := 30) (ls2 := [(3, .int 0), (0, .ref rr), (1, .int n), (2, .int j)]) (st2 := [.int 0, .ref rS]) (h2 := h) (dc2 := 0) (ds2 := 0) 1 rfl ?_
    have q8x : (0 : Int32).toInt = 0 := rfl
    refine wq_lald rfl hS (by first | omega | exact zin_t (by omega) (by omega)) rfl ?_
    refine wq_gos (f := 1) (pc2 := 32) (ls2 := [(3, .int 0), (0, .ref rr), (1, .int n), (2, .int j)]) (st2 := [.int j, .long (stp.getD 0 0)]) (h2 := h) (dc2 := 0) (ds2 := 0) 1 rfl ?_
    refine wq_inl (y2 := 33) (as := [.long (stp.getD 0 0), .int j]) rfl rfl rfl (wq_mono c_numv ?_)
    rintro _ rfl
    show wq 70 35 [(3, .int 0), (0, .ref rr), (1, .int n), (2, .int j)] [.int (jnumv (stp.getD 0 0) j)] h 0 0 _
    have w10x : (jNat T stp n j) = (jnumv (stp.getD 0 0) j) := by unfold jNat; rw [if_neg (Int.not_le.mpr b1x)]
    rw [w10x]
    exact wq_ret rfl rfl rfl
noncomputable def saF (T : Nat) (stp : List Int64) (n j bl : Int32) : Nat → Int32 → Int32 → Int32
  | 0, _, _ => 0
  | m + 1, su, d => (if bl.toInt < d.toInt then su else (saF T stp n j bl m (su + (jNat T stp (n + d) j)) (d + 1)))
set_option maxRecDepth 100000 in
set_option maxHeartbeats 4000000 in
theorem c_saL {h : zH} {rr rS T N : Nat} {kn : Int32} {fr : Int64} {stp : List Int64} {n j bl : Int32} (hR : zat h rr = some (.inr (.inr (.inr (6, [.int kn, .long fr, .int (nI T), .ref (rr + 2), .ref (rr + 4), .ref rS]))))) (hS : zat h rS = some (.inr (.inl (N, stp)))) (hT : T < N ∧ N ≤ 20000) (hbl : 0 ≤ bl.toInt ∧ bl.toInt ≤ 9) : ∀ (m : Nat) (su : Int32) (d : Int32), (-bl.toInt ≤ d.toInt ∧ d.toInt ≤ bl.toInt + 1) → (bl.toInt + 1 - d.toInt).toNat < m → ∀ (dc ds : Nat), wq 71 7 [(0, .ref rr), (1, .int n), (2, .int j), (3, .int bl), (4, .int su), (5, .int d)] [] h dc ds (fun rr9 => rr9 = (some (Value.int (saF T stp n j bl m su d)), h, dc, ds)) := by
  intro m
  induction m with
  | zero => intro su d hd hms dc ds; omega
  | succ m ih =>
    intro su d hd hms dc ds
    have qnT := nI_toInt (n := T) (by omega)
    refine wq_gos (f := 1) (pc2 := 10) (ls2 := [(0, .ref rr), (1, .int n), (2, .int j), (3, .int bl), (4, .int su), (5, .int d)]) (st2 := [.int bl, .int d]) (h2 := h) (dc2 := dc) (ds2 := ds) 2 rfl ?_
    refine wq_gt2 rfl rfl (fun b1x => ?_) (fun b1x => ?_)
    · refine wq_gos (f := 1) (pc2 := 35) (ls2 := [(0, .ref rr), (1, .int n), (2, .int j), (3, .int bl), (4, .int su), (5, .int d)]) (st2 := [.int su]) (h2 := h) (dc2 := dc) (ds2 := ds) 1 rfl ?_
      have hx : (saF T stp n j bl (m + 1) su d) = su := by show (if _ then _ else _) = _; rw [if_pos b1x]
      refine wq_ret rfl rfl ?_
      show (some (Value.int su), h, dc, ds) = (some (Value.int (saF T stp n j bl (m + 1) su d)), h, dc, ds)
      rw [hx]
    · refine wq_gos (f := 1) (pc2 := 21) (ls2 := [(0, .ref rr), (1, .int n), (2, .int j), (3, .int bl), (4, .int su), (5, .int d)]) (st2 := [.int j, .int (n + d), .ref rr, .int su]) (h2 := h) (dc2 := dc) (ds2 := ds) 6 rfl ?_
      try have q2x : ((n + d)).toInt = n.toInt + d.toInt := e_add (by omega) (by omega)
      refine wq_inlv (y2 := 70) (as := [.int (n + d), .int j]) rfl rfl rfl hR rfl (wq_mono (c_nat hR hS (by first | omega | assumption | decide)) ?_)
      rintro _ rfl
      show wq 71 24 [(0, .ref rr), (1, .int n), (2, .int j), (3, .int bl), (4, .int su), (5, .int d)] [.int (jNat T stp (n + d) j), .int su] h dc ds _
      refine wq_gos (f := 1) (pc2 := 7) (ls2 := [(5, .int (d + 1)), (4, .int (su + (jNat T stp (n + d) j))), (0, .ref rr), (1, .int n), (2, .int j), (3, .int bl)]) (st2 := []) (h2 := h) (dc2 := dc) (ds2 := ds) 4 rfl ?_
      have q4x : (1 : Int32).toInt = 1 := rfl
      try have q5x : ((d + 1)).toInt = d.toInt + (1 : Int32).toInt := e_add (by omega) (by omega)
      try have q6x : ((su + (jNat T stp (n + d) j))).toInt = su.toInt + (jNat T stp (n + d) j).toInt := e_add (by omega) (by omega)
      have hx : (saF T stp n j bl (m + 1) su d) = (saF T stp n j bl m (su + (jNat T stp (n + d) j)) (d + 1)) := by show (if _ then _ else _) = _; rw [if_neg (Int.not_lt.mpr b1x)]
      rw [hx]
      refine wq_ls [(0, .ref rr), (1, .int n), (2, .int j), (3, .int bl), (4, .int (su + (jNat T stp (n + d) j))), (5, .int (d + 1))] (show ([0, 1, 2, 3, 4, 5] : List Nat).Nodup by decide) ⟨rfl, rfl, rfl, rfl, rfl, rfl, trivial⟩ ?_
      exact ih (su + (jNat T stp (n + d) j)) (d + 1) (by first | omega | assumption | decide) (by omega) dc ds
set_option maxRecDepth 100000 in
set_option maxHeartbeats 4000000 in
theorem c_sa {h : zH} {rr rS T N : Nat} {kn : Int32} {fr : Int64} {stp : List Int64} {n j bl : Int32} (hR : zat h rr = some (.inr (.inr (.inr (6, [.int kn, .long fr, .int (nI T), .ref (rr + 2), .ref (rr + 4), .ref rS]))))) (hS : zat h rS = some (.inr (.inl (N, stp)))) (hT : T < N ∧ N ≤ 20000) (hbl : 0 ≤ bl.toInt ∧ bl.toInt ≤ 9) : wq 71 0 [(0, .ref rr), (1, .int n), (2, .int j), (3, .int bl)] [] h 0 0 (fun rr9 => rr9 = (some (.int (saF T stp n j bl ((bl.toInt + 1 - (-bl).toInt).toNat + 1) 0 (-bl))), h, 0, 0)) := by
  have qnT := nI_toInt (n := T) (by omega)
  refine wq_gos (f := 1) (pc2 := 7) (ls2 := [(5, .int (-bl)), (4, .int 0), (0, .ref rr), (1, .int n), (2, .int j), (3, .int bl)]) (st2 := []) (h2 := h) (dc2 := 0) (ds2 := 0) 5 rfl ?_
  try have q1x : ((-bl)).toInt = -bl.toInt := e_neg (by omega)
  refine wq_ls [(0, .ref rr), (1, .int n), (2, .int j), (3, .int bl), (4, .int (0 : Int32)), (5, .int (-bl))] (show ([0, 1, 2, 3, 4, 5] : List Nat).Nodup by decide) ⟨rfl, rfl, rfl, rfl, rfl, rfl, trivial⟩ ?_
  refine wq_mono (c_saL hR hS (by first | omega | assumption | decide) (by first | omega | assumption | decide) ((bl.toInt + 1 - (-bl).toInt).toNat + 1) (0 : Int32) (-bl) (by first | omega | assumption | decide) (by omega) 0 0) ?_
  rintro _ rfl
  all_goals exact rfl
noncomputable def gsF (T : Nat) (stp : List Int64) (j bl : Int32) : Nat → Int32 → Int32 → Int32
  | 0, _, _ => 0
  | m + 1, mo, n => (if ((nI T) + bl).toInt ≤ n.toInt then mo else (gsF T stp j bl m (jmax mo (jabs ((jNat T stp ((n + (1 : Int32)) + bl) j) - (jNat T stp (n - bl) j)))) (n + 1)))
set_option maxRecDepth 100000 in
set_option maxHeartbeats 4000000 in
theorem c_gsL {h : zH} {rr rS T N : Nat} {kn : Int32} {fr : Int64} {stp : List Int64} {j bl : Int32} (hR : zat h rr = some (.inr (.inr (.inr (6, [.int kn, .long fr, .int (nI T), .ref (rr + 2), .ref (rr + 4), .ref rS]))))) (hS : zat h rS = some (.inr (.inl (N, stp)))) (hT : T < N ∧ N ≤ 20000) (hbl : 0 ≤ bl.toInt ∧ bl.toInt ≤ 9) : ∀ (m : Nat) (mo : Int32) (n : Int32), (-bl.toInt ≤ n.toInt ∧ n.toInt ≤ T + bl.toInt) → (T + bl.toInt - n.toInt).toNat < m → ∀ (dc ds : Nat), wq 72 6 [(0, .ref rr), (1, .int j), (2, .int bl), (3, .int mo), (4, .int n)] [] h dc ds (fun rr9 => rr9 = (some (Value.int (gsF T stp j bl m mo n)), h, dc, ds)) := by
  intro m
  induction m with
  | zero => intro mo n hn hms dc ds; omega
  | succ m ih =>
    intro mo n hn hms dc ds
    have qnT := nI_toInt (n := T) (by omega)
    refine wq_gos (f := 1) (pc2 := 9) (ls2 := [(0, .ref rr), (1, .int j), (2, .int bl), (3, .int mo), (4, .int n)]) (st2 := [.ref rr, .int n]) (h2 := h) (dc2 := dc) (ds2 := ds) 2 rfl ?_
    refine wq_getf rfl hR rfl rfl ?_
    refine wq_gos (f := 1) (pc2 := 14) (ls2 := [(0, .ref rr), (1, .int j), (2, .int bl), (3, .int mo), (4, .int n)]) (st2 := [.int ((nI T) + bl), .int n]) (h2 := h) (dc2 := dc) (ds2 := ds) 2 rfl ?_
    try have q1x := nI_toInt (n := T) (by omega)
    try have q2x : (((nI T) + bl)).toInt = (nI T).toInt + bl.toInt := e_add (by omega) (by omega)
    refine wq_ge2 rfl rfl (fun b3x => ?_) (fun b3x => ?_)
    · refine wq_gos (f := 1) (pc2 := 57) (ls2 := [(0, .ref rr), (1, .int j), (2, .int bl), (3, .int mo), (4, .int n)]) (st2 := [.int mo]) (h2 := h) (dc2 := dc) (ds2 := ds) 1 rfl ?_
      have hx : (gsF T stp j bl (m + 1) mo n) = mo := by show (if _ then _ else _) = _; rw [if_pos b3x]
      refine wq_ret rfl rfl ?_
      show (some (Value.int mo), h, dc, ds) = (some (Value.int (gsF T stp j bl (m + 1) mo n)), h, dc, ds)
      rw [hx]
    · refine wq_gos (f := 1) (pc2 := 25) (ls2 := [(0, .ref rr), (1, .int j), (2, .int bl), (3, .int mo), (4, .int n)]) (st2 := [.int j, .int ((n + (1 : Int32)) + bl), .ref rr]) (h2 := h) (dc2 := dc) (ds2 := ds) 7 rfl ?_
      have q4x : (1 : Int32).toInt = 1 := rfl
      try have q5x : ((n + (1 : Int32))).toInt = n.toInt + (1 : Int32).toInt := e_add (by omega) (by omega)
      try have q6x : (((n + (1 : Int32)) + bl)).toInt = (n + (1 : Int32)).toInt + bl.toInt := e_add (by omega) (by omega)
      refine wq_inlv (y2 := 70) (as := [.int ((n + (1 : Int32)) + bl), .int j]) rfl rfl rfl hR rfl (wq_mono (c_nat hR hS (by first | omega | assumption | decide)) ?_)
      rintro _ rfl
      show wq 72 28 [(0, .ref rr), (1, .int j), (2, .int bl), (3, .int mo), (4, .int n)] [.int (jNat T stp ((n + (1 : Int32)) + bl) j)] h dc ds _
      refine wq_gos (f := 1) (pc2 := 34) (ls2 := [(0, .ref rr), (1, .int j), (2, .int bl), (3, .int mo), (4, .int n)]) (st2 := [.int j, .int (n - bl), .ref rr, .int (jNat T stp ((n + (1 : Int32)) + bl) j)]) (h2 := h) (dc2 := dc) (ds2 := ds) 5 rfl ?_
      try have q8x : ((n - bl)).toInt = n.toInt - bl.toInt := e_sub (by omega) (by omega)
      refine wq_inlv (y2 := 70) (as := [.int (n - bl), .int j]) rfl rfl rfl hR rfl (wq_mono (c_nat hR hS (by first | omega | assumption | decide)) ?_)
      rintro _ rfl
      show wq 72 37 [(0, .ref rr), (1, .int j), (2, .int bl), (3, .int mo), (4, .int n)] [.int (jNat T stp (n - bl) j), .int (jNat T stp ((n + (1 : Int32)) + bl) j)] h dc ds _
      refine wq_gos (f := 1) (pc2 := 43) (ls2 := [(5, .int ((jNat T stp ((n + (1 : Int32)) + bl) j) - (jNat T stp (n - bl) j))), (0, .ref rr), (1, .int j), (2, .int bl), (3, .int mo), (4, .int n)]) (st2 := [.int ((jNat T stp ((n + (1 : Int32)) + bl) j) - (jNat T stp (n - bl) j)), .int mo]) (h2 := h) (dc2 := dc) (ds2 := ds) 4 rfl ?_
      refine wq_inl (y2 := 283) (as := [.int ((jNat T stp ((n + (1 : Int32)) + bl) j) - (jNat T stp (n - bl) j))]) rfl rfl rfl (wq_T (c_abs ((jNat T stp ((n + (1 : Int32)) + bl) j) - (jNat T stp (n - bl) j)) h) ?_)
      show wq 72 46 [(5, .int ((jNat T stp ((n + (1 : Int32)) + bl) j) - (jNat T stp (n - bl) j))), (0, .ref rr), (1, .int j), (2, .int bl), (3, .int mo), (4, .int n)] [.int (jabs ((jNat T stp ((n + (1 : Int32)) + bl) j) - (jNat T stp (n - bl) j))), .int mo] h dc ds _
      refine wq_inl (y2 := 284) (as := [.int mo, .int (jabs ((jNat T stp ((n + (1 : Int32)) + bl) j) - (jNat T stp (n - bl) j)))]) rfl rfl rfl (wq_T (c_max mo (jabs ((jNat T stp ((n + (1 : Int32)) + bl) j) - (jNat T stp (n - bl) j))) h) ?_)
      show wq 72 49 [(5, .int ((jNat T stp ((n + (1 : Int32)) + bl) j) - (jNat T stp (n - bl) j))), (0, .ref rr), (1, .int j), (2, .int bl), (3, .int mo), (4, .int n)] [.int (jmax mo (jabs ((jNat T stp ((n + (1 : Int32)) + bl) j) - (jNat T stp (n - bl) j))))] h dc ds _
      refine wq_gos (f := 1) (pc2 := 6) (ls2 := [(4, .int (n + 1)), (3, .int (jmax mo (jabs ((jNat T stp ((n + (1 : Int32)) + bl) j) - (jNat T stp (n - bl) j))))), (5, .int ((jNat T stp ((n + (1 : Int32)) + bl) j) - (jNat T stp (n - bl) j))), (0, .ref rr), (1, .int j), (2, .int bl)]) (st2 := []) (h2 := h) (dc2 := dc) (ds2 := ds) 3 rfl ?_
      try have q10x : ((n + 1)).toInt = n.toInt + (1 : Int32).toInt := e_add (by omega) (by omega)
      try have q11x : (((jNat T stp ((n + (1 : Int32)) + bl) j) - (jNat T stp (n - bl) j))).toInt = (jNat T stp ((n + (1 : Int32)) + bl) j).toInt - (jNat T stp (n - bl) j).toInt := e_sub (by omega) (by omega)
      have hx : (gsF T stp j bl (m + 1) mo n) = (gsF T stp j bl m (jmax mo (jabs ((jNat T stp ((n + (1 : Int32)) + bl) j) - (jNat T stp (n - bl) j)))) (n + 1)) := by show (if _ then _ else _) = _; rw [if_neg (Int.not_le.mpr b3x)]
      rw [hx]
      refine wq_ls [(0, .ref rr), (1, .int j), (2, .int bl), (3, .int (jmax mo (jabs ((jNat T stp ((n + (1 : Int32)) + bl) j) - (jNat T stp (n - bl) j))))), (4, .int (n + 1))] (show ([0, 1, 2, 3, 4] : List Nat).Nodup by decide) ⟨rfl, rfl, rfl, rfl, rfl, trivial⟩ ?_
      exact ih (jmax mo (jabs ((jNat T stp ((n + (1 : Int32)) + bl) j) - (jNat T stp (n - bl) j)))) (n + 1) (by first | omega | assumption | decide) (by omega) dc ds
set_option maxRecDepth 100000 in
set_option maxHeartbeats 4000000 in
theorem c_gs {h : zH} {rr rS T N : Nat} {kn : Int32} {fr : Int64} {stp : List Int64} {j bl : Int32} (hR : zat h rr = some (.inr (.inr (.inr (6, [.int kn, .long fr, .int (nI T), .ref (rr + 2), .ref (rr + 4), .ref rS]))))) (hS : zat h rS = some (.inr (.inl (N, stp)))) (hT : T < N ∧ N ≤ 20000) (hbl : 0 ≤ bl.toInt ∧ bl.toInt ≤ 9) : wq 72 0 [(0, .ref rr), (1, .int j), (2, .int bl)] [] h 0 0 (fun rr9 => rr9 = (some (.int (gsF T stp j bl ((T + bl.toInt - (-bl).toInt).toNat + 1) 0 (-bl))), h, 0, 0)) := by
  have qnT := nI_toInt (n := T) (by omega)
  refine wq_gos (f := 1) (pc2 := 6) (ls2 := [(4, .int (-bl)), (3, .int 0), (0, .ref rr), (1, .int j), (2, .int bl)]) (st2 := []) (h2 := h) (dc2 := 0) (ds2 := 0) 5 rfl ?_
  try have q1x : ((-bl)).toInt = -bl.toInt := e_neg (by omega)
  refine wq_ls [(0, .ref rr), (1, .int j), (2, .int bl), (3, .int (0 : Int32)), (4, .int (-bl))] (show ([0, 1, 2, 3, 4] : List Nat).Nodup by decide) ⟨rfl, rfl, rfl, rfl, rfl, trivial⟩ ?_
  refine wq_mono (c_gsL hR hS (by first | omega | assumption | decide) (by first | omega | assumption | decide) ((T + bl.toInt - (-bl).toInt).toNat + 1) (0 : Int32) (-bl) (by first | omega | assumption | decide) (by omega) 0 0) ?_
  rintro _ rfl
  all_goals exact rfl
noncomputable def jOfc (T : Nat) (stp : List Int64) (co : List Int32) (i : Nat) (j bl : Int32) : Int32 := (jabs ((saF T stp (co.getD i 0) j bl ((bl.toInt + 1 - (-bl).toInt).toNat + 1) 0 (-bl)) - ((jNat T stp (co.getD i 0) j) * (((2 : Int32) * bl) + (1 : Int32)))))
set_option maxRecDepth 100000 in
set_option maxHeartbeats 4000000 in
theorem c_ofc {h : zH} {rr rS T N : Nat} {kn : Int32} {fr : Int64} {stp : List Int64} {co : List Int32} {i : Nat} {j bl : Int32} (hR : zat h rr = some (.inr (.inr (.inr (6, [.int kn, .long fr, .int (nI T), .ref (rr + 2), .ref (rr + 4), .ref rS]))))) (hS : zat h rS = some (.inr (.inl (N, stp)))) (hC : zat h (rr + 4) = some (.inl (0, 10, co))) (hT : T < N ∧ N ≤ 20000) (hbl : 0 ≤ bl.toInt ∧ bl.toInt ≤ 9) (hi : i < 10) : wq 73 0 [(0, .ref rr), (1, .int (nI i)), (2, .int j), (3, .int bl)] [] h 0 0 (fun rr9 => rr9 = (some (.int (jOfc T stp co i j bl)), h, 0, 0)) := by
  have qnT := nI_toInt (n := T) (by omega)
  have qni := nI_toInt (n := i) (by omega)
  refine wq_gos (f := 1) (pc2 := 1) (ls2 := [(0, .ref rr), (1, .int (nI i)), (2, .int j), (3, .int bl)]) (st2 := [.ref rr]) (h2 := h) (dc2 := 0) (ds2 := 0) 1 rfl ?_
  refine wq_getf rfl hR rfl rfl ?_
  refine wq_gos (f := 1) (pc2 := 5) (ls2 := [(0, .ref rr), (1, .int (nI i)), (2, .int j), (3, .int bl)]) (st2 := [.int (nI i), .ref (rr + 4)]) (h2 := h) (dc2 := 0) (ds2 := 0) 1 rfl ?_
  try have q1x := nI_toInt (n := i) (by omega)
  refine wq_ialdn rfl hC (by first | omega | exact zin_t (by omega) (by omega)) (by decide) rfl ?_
  refine wq_gos (f := 1) (pc2 := 13) (ls2 := [(4, .int (co.getD i 0)), (0, .ref rr), (1, .int (nI i)), (2, .int j), (3, .int bl)]) (st2 := [.int bl, .int j, .int (co.getD i 0), .ref rr]) (h2 := h) (dc2 := 0) (ds2 := 0) 5 rfl ?_
  refine wq_inlv (y2 := 71) (as := [.int (co.getD i 0), .int j, .int bl]) rfl rfl rfl hR rfl (wq_mono (c_sa hR hS (by first | omega | assumption | decide) (by first | omega | assumption | decide)) ?_)
  rintro _ rfl
  show wq 73 16 [(4, .int (co.getD i 0)), (0, .ref rr), (1, .int (nI i)), (2, .int j), (3, .int bl)] [.int (saF T stp (co.getD i 0) j bl ((bl.toInt + 1 - (-bl).toInt).toNat + 1) 0 (-bl))] h 0 0 _
  refine wq_gos (f := 1) (pc2 := 20) (ls2 := [(4, .int (co.getD i 0)), (0, .ref rr), (1, .int (nI i)), (2, .int j), (3, .int bl)]) (st2 := [.int j, .int (co.getD i 0), .ref rr, .int (saF T stp (co.getD i 0) j bl ((bl.toInt + 1 - (-bl).toInt).toNat + 1) 0 (-bl))]) (h2 := h) (dc2 := 0) (ds2 := 0) 3 rfl ?_
  refine wq_inlv (y2 := 70) (as := [.int (co.getD i 0), .int j]) rfl rfl rfl hR rfl (wq_mono (c_nat hR hS (by first | omega | assumption | decide)) ?_)
  rintro _ rfl
  show wq 73 23 [(4, .int (co.getD i 0)), (0, .ref rr), (1, .int (nI i)), (2, .int j), (3, .int bl)] [.int (jNat T stp (co.getD i 0) j), .int (saF T stp (co.getD i 0) j bl ((bl.toInt + 1 - (-bl).toInt).toNat + 1) 0 (-bl))] h 0 0 _
  refine wq_gos (f := 1) (pc2 := 30) (ls2 := [(4, .int (co.getD i 0)), (0, .ref rr), (1, .int (nI i)), (2, .int j), (3, .int bl)]) (st2 := [.int ((saF T stp (co.getD i 0) j bl ((bl.toInt + 1 - (-bl).toInt).toNat + 1) 0 (-bl)) - ((jNat T stp (co.getD i 0) j) * (((2 : Int32) * bl) + (1 : Int32))))]) (h2 := h) (dc2 := 0) (ds2 := 0) 7 rfl ?_
  refine wq_inl (y2 := 283) (as := [.int ((saF T stp (co.getD i 0) j bl ((bl.toInt + 1 - (-bl).toInt).toNat + 1) 0 (-bl)) - ((jNat T stp (co.getD i 0) j) * (((2 : Int32) * bl) + (1 : Int32))))]) rfl rfl rfl (wq_T (c_abs ((saF T stp (co.getD i 0) j bl ((bl.toInt + 1 - (-bl).toInt).toNat + 1) 0 (-bl)) - ((jNat T stp (co.getD i 0) j) * (((2 : Int32) * bl) + (1 : Int32)))) h) ?_)
  show wq 73 33 [(4, .int (co.getD i 0)), (0, .ref rr), (1, .int (nI i)), (2, .int j), (3, .int bl)] [.int (jabs ((saF T stp (co.getD i 0) j bl ((bl.toInt + 1 - (-bl).toInt).toNat + 1) 0 (-bl)) - ((jNat T stp (co.getD i 0) j) * (((2 : Int32) * bl) + (1 : Int32)))))] h 0 0 _
  have w4x : (jOfc T stp co i j bl) = (jabs ((saF T stp (co.getD i 0) j bl ((bl.toInt + 1 - (-bl).toInt).toNat + 1) 0 (-bl)) - ((jNat T stp (co.getD i 0) j) * (((2 : Int32) * bl) + (1 : Int32))))) := by unfold jOfc; rfl
  rw [w4x]
  exact wq_ret rfl rfl rfl
noncomputable def incF (T : Nat) (stp : List Int64) (co : List Int32) (st m9 bl : Int32) : Nat → Nat → Nat → Int32
  | 0, _, _ => 0
  | m + 1, i, k => (if (6 : Int32).toInt ≤ (nI k).toInt then (if st.toInt ≤ (nI (i + 1)).toInt then 1 else (if (10 : Int32).toInt ≤ (nI (i + 1)).toInt then 1 else (incF T stp co st m9 bl m (i + 1) 0))) else (if (jOfc T stp co i (nI k) bl).toInt ≤ (m9 * (((2 : Int32) * bl) + (1 : Int32))).toInt then (incF T stp co st m9 bl m i (k + 1)) else 0))
set_option maxRecDepth 100000 in
set_option maxHeartbeats 4000000 in
theorem c_incL {h : zH} {rr rS T N : Nat} {kn : Int32} {fr : Int64} {stp : List Int64} {co : List Int32} {st m9 bl : Int32} (hR : zat h rr = some (.inr (.inr (.inr (6, [.int kn, .long fr, .int (nI T), .ref (rr + 2), .ref (rr + 4), .ref rS]))))) (hS : zat h rS = some (.inr (.inl (N, stp)))) (hC : zat h (rr + 4) = some (.inl (0, 10, co))) (hT : T < N ∧ N ≤ 20000) (hbl : 0 ≤ bl.toInt ∧ bl.toInt ≤ 9) : ∀ (m : Nat) (i : Nat) (k : Nat), (i < 10 ∧ k ≤ 6) → (7 * (10 - i) + (6 - k)) < m → ∀ (dc ds : Nat), wq 75 19 [(0, .ref rr), (1, .int st), (2, .int m9), (3, .int bl), (4, .int (nI i)), (5, .int (nI k))] [] h dc ds (fun rr9 => rr9 = (some (Value.int (incF T stp co st m9 bl m i k)), h, dc, ds)) := by
  intro m
  induction m with
  | zero => intro i k hi hms dc ds; omega
  | succ m ih =>
    intro i k hi hms dc ds
    have qnT := nI_toInt (n := T) (by omega)
    have qni := nI_toInt (n := i) (by omega)
    have qnk := nI_toInt (n := k) (by omega)
    have qi1 := nI_toInt (n := i + 1) (by omega)
    refine wq_gos (f := 1) (pc2 := 23) (ls2 := [(0, .ref rr), (1, .int st), (2, .int m9), (3, .int bl), (4, .int (nI i)), (5, .int (nI k))]) (st2 := [.int 6, .int (nI k)]) (h2 := h) (dc2 := dc) (ds2 := ds) 2 rfl ?_
    try have q1x := nI_toInt (n := k) (by omega)
    have q2x : (6 : Int32).toInt = 6 := rfl
    refine wq_ge2 rfl rfl (fun b3x => ?_) (fun b3x => ?_)
    · refine wq_gos (f := 1) (pc2 := 56) (ls2 := [(4, .int ((nI i) + 1)), (0, .ref rr), (1, .int st), (2, .int m9), (3, .int bl), (5, .int (nI k))]) (st2 := []) (h2 := h) (dc2 := dc) (ds2 := ds) 1 rfl ?_
      rw [nI_1]
      refine wq_gos (f := 1) (pc2 := 6) (ls2 := [(4, .int (nI (i + 1))), (0, .ref rr), (1, .int st), (2, .int m9), (3, .int bl), (5, .int (nI k))]) (st2 := [.int st, .int (nI (i + 1))]) (h2 := h) (dc2 := dc) (ds2 := ds) 3 rfl ?_
      try have q4x := nI_toInt (n := (i + 1)) (by omega)
      refine wq_ge2 rfl rfl (fun b5x => ?_) (fun b5x => ?_)
      · refine wq_gos (f := 1) (pc2 := 60) (ls2 := [(4, .int (nI (i + 1))), (0, .ref rr), (1, .int st), (2, .int m9), (3, .int bl), (5, .int (nI k))]) (st2 := [.int 1]) (h2 := h) (dc2 := dc) (ds2 := ds) 1 rfl ?_
        have hx : (incF T stp co st m9 bl (m + 1) i k) = 1 := by show (if _ then _ else _) = _; rw [if_pos b3x, if_pos b5x]
        refine wq_ret rfl rfl ?_
        show (some (Value.int 1), h, dc, ds) = (some (Value.int (incF T stp co st m9 bl (m + 1) i k)), h, dc, ds)
        rw [hx]
      · refine wq_gos (f := 1) (pc2 := 13) (ls2 := [(4, .int (nI (i + 1))), (0, .ref rr), (1, .int st), (2, .int m9), (3, .int bl), (5, .int (nI k))]) (st2 := [.int 10, .int (nI (i + 1))]) (h2 := h) (dc2 := dc) (ds2 := ds) 2 rfl ?_
        have q6x : (10 : Int32).toInt = 10 := rfl
        refine wq_ge2 rfl rfl (fun b7x => ?_) (fun b7x => ?_)
        · refine wq_gos (f := 1) (pc2 := 60) (ls2 := [(4, .int (nI (i + 1))), (0, .ref rr), (1, .int st), (2, .int m9), (3, .int bl), (5, .int (nI k))]) (st2 := [.int 1]) (h2 := h) (dc2 := dc) (ds2 := ds) 1 rfl ?_
          have hx : (incF T stp co st m9 bl (m + 1) i k) = 1 := by show (if _ then _ else _) = _; rw [if_pos b3x, if_neg (Int.not_le.mpr b5x), if_pos b7x]
          refine wq_ret rfl rfl ?_
          show (some (Value.int 1), h, dc, ds) = (some (Value.int (incF T stp co st m9 bl (m + 1) i k)), h, dc, ds)
          rw [hx]
        · refine wq_gos (f := 1) (pc2 := 19) (ls2 := [(5, .int 0), (4, .int (nI (i + 1))), (0, .ref rr), (1, .int st), (2, .int m9), (3, .int bl)]) (st2 := []) (h2 := h) (dc2 := dc) (ds2 := ds) 2 rfl ?_
          have hx : (incF T stp co st m9 bl (m + 1) i k) = (incF T stp co st m9 bl m (i + 1) 0) := by show (if _ then _ else _) = _; rw [if_pos b3x, if_neg (Int.not_le.mpr b5x), if_neg (Int.not_le.mpr b7x)]
          rw [hx]
          refine wq_ls [(0, .ref rr), (1, .int st), (2, .int m9), (3, .int bl), (4, .int (nI (i + 1))), (5, .int (nI 0))] (show ([0, 1, 2, 3, 4, 5] : List Nat).Nodup by decide) ⟨rfl, rfl, rfl, rfl, rfl, rfl, trivial⟩ ?_
          exact ih (i + 1) 0 (by first | omega | assumption | decide) (by omega) dc ds
    · refine wq_gos (f := 1) (pc2 := 32) (ls2 := [(0, .ref rr), (1, .int st), (2, .int m9), (3, .int bl), (4, .int (nI i)), (5, .int (nI k))]) (st2 := [.int bl, .int (nI k), .int (nI i), .ref rr]) (h2 := h) (dc2 := dc) (ds2 := ds) 4 rfl ?_
      try have q8x := nI_toInt (n := i) (by omega)
      refine wq_inlv (y2 := 73) (as := [.int (nI i), .int (nI k), .int bl]) rfl rfl rfl hR rfl (wq_mono (c_ofc hR hS hC (by first | omega | assumption | decide) (by first | omega | assumption | decide) (by first | omega | assumption | decide)) ?_)
      rintro _ rfl
      show wq 75 35 [(0, .ref rr), (1, .int st), (2, .int m9), (3, .int bl), (4, .int (nI i)), (5, .int (nI k))] [.int (jOfc T stp co i (nI k) bl)] h dc ds _
      refine wq_gos (f := 1) (pc2 := 42) (ls2 := [(0, .ref rr), (1, .int st), (2, .int m9), (3, .int bl), (4, .int (nI i)), (5, .int (nI k))]) (st2 := [.int (m9 * (((2 : Int32) * bl) + (1 : Int32))), .int (jOfc T stp co i (nI k) bl)]) (h2 := h) (dc2 := dc) (ds2 := ds) 7 rfl ?_
      have q10x : (2 : Int32).toInt = 2 := rfl
      try have q11x : (((2 : Int32) * bl)).toInt = 2 * bl.toInt := e_mull rfl (by omega) (by omega)
      have q12x : (1 : Int32).toInt = 1 := rfl
      try have q13x : ((((2 : Int32) * bl) + (1 : Int32))).toInt = ((2 : Int32) * bl).toInt + (1 : Int32).toInt := e_add (by omega) (by omega)
      refine wq_le2 rfl rfl (fun b15x => ?_) (fun b15x => ?_)
      · refine wq_gos (f := 1) (pc2 := 50) (ls2 := [(5, .int ((nI k) + 1)), (0, .ref rr), (1, .int st), (2, .int m9), (3, .int bl), (4, .int (nI i))]) (st2 := []) (h2 := h) (dc2 := dc) (ds2 := ds) 1 rfl ?_
        rw [nI_1]
        refine wq_gos (f := 1) (pc2 := 19) (ls2 := [(5, .int (nI (k + 1))), (0, .ref rr), (1, .int st), (2, .int m9), (3, .int bl), (4, .int (nI i))]) (st2 := []) (h2 := h) (dc2 := dc) (ds2 := ds) 1 rfl ?_
        try have q16x := nI_toInt (n := (k + 1)) (by omega)
        have hx : (incF T stp co st m9 bl (m + 1) i k) = (incF T stp co st m9 bl m i (k + 1)) := by show (if _ then _ else _) = _; rw [if_neg (Int.not_le.mpr b3x), if_pos b15x]
        rw [hx]
        refine wq_ls [(0, .ref rr), (1, .int st), (2, .int m9), (3, .int bl), (4, .int (nI i)), (5, .int (nI (k + 1)))] (show ([0, 1, 2, 3, 4, 5] : List Nat).Nodup by decide) ⟨rfl, rfl, rfl, rfl, rfl, rfl, trivial⟩ ?_
        exact ih i (k + 1) (by first | omega | assumption | decide) (by omega) dc ds
      · refine wq_gos (f := 1) (pc2 := 46) (ls2 := [(0, .ref rr), (1, .int st), (2, .int m9), (3, .int bl), (4, .int (nI i)), (5, .int (nI k))]) (st2 := [.int 0]) (h2 := h) (dc2 := dc) (ds2 := ds) 1 rfl ?_
        have hx : (incF T stp co st m9 bl (m + 1) i k) = 0 := by show (if _ then _ else _) = _; rw [if_neg (Int.not_le.mpr b3x), if_neg (Int.not_le.mpr b15x)]
        refine wq_ret rfl rfl ?_
        show (some (Value.int 0), h, dc, ds) = (some (Value.int (incF T stp co st m9 bl (m + 1) i k)), h, dc, ds)
        rw [hx]
set_option maxRecDepth 100000 in
set_option maxHeartbeats 4000000 in
theorem c_inc {h : zH} {rr rS T N : Nat} {kn : Int32} {fr : Int64} {stp : List Int64} {co : List Int32} {st m9 bl : Int32} (hR : zat h rr = some (.inr (.inr (.inr (6, [.int kn, .long fr, .int (nI T), .ref (rr + 2), .ref (rr + 4), .ref rS]))))) (hS : zat h rS = some (.inr (.inl (N, stp)))) (hC : zat h (rr + 4) = some (.inl (0, 10, co))) (hT : T < N ∧ N ≤ 20000) (hbl : 0 ≤ bl.toInt ∧ bl.toInt ≤ 9) : wq 75 0 [(0, .ref rr), (1, .int st), (2, .int m9), (3, .int bl)] [] h 0 0 (fun rr9 => rr9 = (some (.int (if st.toInt ≤ 0 then 1 else incF T stp co st m9 bl (7 * (10 - 0) + (6 - 0) + 1) 0 0)), h, 0, 0)) := by
  have qnT := nI_toInt (n := T) (by omega)
  refine wq_gos (f := 1) (pc2 := 6) (ls2 := [(4, .int 0), (0, .ref rr), (1, .int st), (2, .int m9), (3, .int bl)]) (st2 := [.int st, .int 0]) (h2 := h) (dc2 := 0) (ds2 := 0) 4 rfl ?_
  have q1x : (0 : Int32).toInt = 0 := rfl
  refine wq_ge2 rfl rfl (fun b2x => ?_) (fun b2x => ?_)
  · refine wq_gos (f := 1) (pc2 := 60) (ls2 := [(4, .int 0), (0, .ref rr), (1, .int st), (2, .int m9), (3, .int bl)]) (st2 := [.int 1]) (h2 := h) (dc2 := 0) (ds2 := 0) 1 rfl ?_
    have w3x : (if st.toInt ≤ 0 then 1 else incF T stp co st m9 bl (7 * (10 - 0) + (6 - 0) + 1) 0 0) = (1 : Int32) := by rw [if_pos (by have q0 : (0 : Int32).toInt = 0 := rfl; omega)]
    rw [w3x]
    exact wq_ret rfl rfl rfl
  · refine wq_gos (f := 1) (pc2 := 19) (ls2 := [(5, .int 0), (4, .int 0), (0, .ref rr), (1, .int st), (2, .int m9), (3, .int bl)]) (st2 := []) (h2 := h) (dc2 := 0) (ds2 := 0) 5 rfl ?_
    refine wq_ls [(0, .ref rr), (1, .int st), (2, .int m9), (3, .int bl), (4, .int (nI 0)), (5, .int (nI 0))] (show ([0, 1, 2, 3, 4, 5] : List Nat).Nodup by decide) ⟨rfl, rfl, rfl, rfl, rfl, rfl, trivial⟩ ?_
    refine wq_mono (c_incL hR hS hC (by first | omega | assumption | decide) (by first | omega | assumption | decide) ((7 * (10 - 0) + (6 - 0)) + 1) 0 0 (by first | omega | assumption | decide) (by omega) 0 0) ?_
    rintro _ rfl
    have w4x : (if st.toInt ≤ 0 then 1 else incF T stp co st m9 bl (7 * (10 - 0) + (6 - 0) + 1) 0 0) = (incF T stp co st m9 bl ((7 * (10 - 0) + (6 - 0)) + 1) 0 0) := by rw [if_neg (by have q0 : (0 : Int32).toInt = 0 := rfl; omega)]
    rw [w4x]
    all_goals exact rfl
noncomputable def gbF (T : Nat) (stp : List Int64) (co : List Int32) (st m9 : Int32) : Nat → Int32 → Int32
  | 0, _ => 0
  | m + 1, b => (if b.toInt ≤ 0 then b else (if (if st.toInt ≤ 0 then 1 else incF T stp co st m9 b (7 * (10 - 0) + (6 - 0) + 1) 0 0) ≠ (0 : Int32) then b else (gbF T stp co st m9 m (b + (-1)))))
set_option maxRecDepth 100000 in
set_option maxHeartbeats 4000000 in
theorem c_gbL {h : zH} {rr rS T N : Nat} {kn : Int32} {fr : Int64} {stp : List Int64} {co : List Int32} {st m9 : Int32} (hR : zat h rr = some (.inr (.inr (.inr (6, [.int kn, .long fr, .int (nI T), .ref (rr + 2), .ref (rr + 4), .ref rS]))))) (hS : zat h rS = some (.inr (.inl (N, stp)))) (hC : zat h (rr + 4) = some (.inl (0, 10, co))) (hT : T < N ∧ N ≤ 20000) : ∀ (m : Nat) (b : Int32), (0 ≤ b.toInt ∧ b.toInt ≤ 9) → b.toInt.toNat < m → ∀ (dc ds : Nat), wq 74 3 [(0, .ref rr), (1, .int st), (2, .int m9), (3, .int b)] [] h dc ds (fun rr9 => rr9 = (some (Value.int (gbF T stp co st m9 m b)), h, dc, ds)) := by
  intro m
  induction m with
  | zero => intro b hb hms dc ds; omega
  | succ m ih =>
    intro b hb hms dc ds
    have qnT := nI_toInt (n := T) (by omega)
    refine wq_gos (f := 1) (pc2 := 4) (ls2 := [(0, .ref rr), (1, .int st), (2, .int m9), (3, .int b)]) (st2 := [.int b]) (h2 := h) (dc2 := dc) (ds2 := ds) 1 rfl ?_
    refine wq_le0 rfl rfl (fun b1x => ?_) (fun b1x => ?_)
    · refine wq_gos (f := 1) (pc2 := 24) (ls2 := [(0, .ref rr), (1, .int st), (2, .int m9), (3, .int b)]) (st2 := [.int b]) (h2 := h) (dc2 := dc) (ds2 := ds) 1 rfl ?_
      have hx : (gbF T stp co st m9 (m + 1) b) = b := by show (if _ then _ else _) = _; rw [if_pos b1x]
      refine wq_ret rfl rfl ?_
      show (some (Value.int b), h, dc, ds) = (some (Value.int (gbF T stp co st m9 (m + 1) b)), h, dc, ds)
      rw [hx]
    · refine wq_gos (f := 1) (pc2 := 11) (ls2 := [(0, .ref rr), (1, .int st), (2, .int m9), (3, .int b)]) (st2 := [.int b, .int m9, .int st, .ref rr]) (h2 := h) (dc2 := dc) (ds2 := ds) 4 rfl ?_
      refine wq_inlv (y2 := 75) (as := [.int st, .int m9, .int b]) rfl rfl rfl hR rfl (wq_mono (c_inc hR hS hC (by first | omega | assumption | decide) (by first | omega | assumption | decide)) ?_)
      rintro _ rfl
      show wq 74 14 [(0, .ref rr), (1, .int st), (2, .int m9), (3, .int b)] [.int (if st.toInt ≤ 0 then 1 else incF T stp co st m9 b (7 * (10 - 0) + (6 - 0) + 1) 0 0)] h dc ds _
      refine wq_ne0 rfl rfl (fun b3x => ?_) (fun b3x => ?_)
      · have q4x : (if st.toInt ≤ 0 then 1 else incF T stp co st m9 b (7 * (10 - 0) + (6 - 0) + 1) 0 0).toInt ≠ 0 := fun q => b3x (Int32.toInt_inj.mp q)
        refine wq_gos (f := 1) (pc2 := 24) (ls2 := [(0, .ref rr), (1, .int st), (2, .int m9), (3, .int b)]) (st2 := [.int b]) (h2 := h) (dc2 := dc) (ds2 := ds) 1 rfl ?_
        have hx : (gbF T stp co st m9 (m + 1) b) = b := by show (if _ then _ else _) = _; rw [if_neg (Int.not_le.mpr b1x), if_pos b3x]
        refine wq_ret rfl rfl ?_
        show (some (Value.int b), h, dc, ds) = (some (Value.int (gbF T stp co st m9 (m + 1) b)), h, dc, ds)
        rw [hx]
      · have q5x : (if st.toInt ≤ 0 then 1 else incF T stp co st m9 b (7 * (10 - 0) + (6 - 0) + 1) 0 0).toInt = 0 := congrArg Int32.toInt b3x
        refine wq_gos (f := 1) (pc2 := 3) (ls2 := [(3, .int (b + (-1))), (0, .ref rr), (1, .int st), (2, .int m9)]) (st2 := []) (h2 := h) (dc2 := dc) (ds2 := ds) 2 rfl ?_
        have q6x : (-1 : Int32).toInt = -1 := rfl
        try have q7x : ((b + (-1))).toInt = b.toInt + (-1 : Int32).toInt := e_add (by omega) (by omega)
        have hx : (gbF T stp co st m9 (m + 1) b) = (gbF T stp co st m9 m (b + (-1))) := by show (if _ then _ else _) = _; rw [if_neg (Int.not_le.mpr b1x), if_neg (fun q => q b3x)]
        rw [hx]
        refine wq_ls [(0, .ref rr), (1, .int st), (2, .int m9), (3, .int (b + (-1)))] (show ([0, 1, 2, 3] : List Nat).Nodup by decide) ⟨rfl, rfl, rfl, rfl, trivial⟩ ?_
        exact ih (b + (-1)) (by first | omega | assumption | decide) (by omega) dc ds
set_option maxRecDepth 100000 in
set_option maxHeartbeats 4000000 in
theorem c_gb {h : zH} {rr rS T N : Nat} {kn : Int32} {fr : Int64} {stp : List Int64} {co : List Int32} {st m9 : Int32} (hR : zat h rr = some (.inr (.inr (.inr (6, [.int kn, .long fr, .int (nI T), .ref (rr + 2), .ref (rr + 4), .ref rS]))))) (hS : zat h rS = some (.inr (.inl (N, stp)))) (hC : zat h (rr + 4) = some (.inl (0, 10, co))) (hT : T < N ∧ N ≤ 20000) : wq 74 0 [(0, .ref rr), (1, .int st), (2, .int m9)] [] h 0 0 (fun rr9 => rr9 = (some (.int (gbF T stp co st m9 ((9 : Int32).toInt.toNat + 1) 9)), h, 0, 0)) := by
  have qnT := nI_toInt (n := T) (by omega)
  refine wq_gos (f := 1) (pc2 := 3) (ls2 := [(3, .int 9), (0, .ref rr), (1, .int st), (2, .int m9)]) (st2 := []) (h2 := h) (dc2 := 0) (ds2 := 0) 2 rfl ?_
  refine wq_ls [(0, .ref rr), (1, .int st), (2, .int m9), (3, .int (9 : Int32))] (show ([0, 1, 2, 3] : List Nat).Nodup by decide) ⟨rfl, rfl, rfl, rfl, trivial⟩ ?_
  refine wq_mono (c_gbL hR hS hC (by first | omega | assumption | decide) ((9 : Int32).toInt.toNat + 1) (9 : Int32) (by first | omega | assumption | decide) (by omega) 0 0) ?_
  rintro _ rfl
  all_goals exact rfl
noncomputable def scF (T : Nat) (stp : List Int64) (w : Int32) : Nat → Int32 → Int32 → Nat → Int32
  | 0, _, _, _ => 0
  | m + 1, n, b, k => (if (nI T).toInt < (nI k).toInt then n else (if (jSom (stp.getD k 0) w) = b then (scF T stp w m n (jSom (stp.getD k 0) w) (k + 1)) else (scF T stp w m (n + 1) (jSom (stp.getD k 0) w) (k + 1))))
set_option maxRecDepth 100000 in
set_option maxHeartbeats 4000000 in
theorem c_scL {h : zH} {rr rS T N : Nat} {kn : Int32} {fr : Int64} {stp : List Int64} {w : Int32} (hR : zat h rr = some (.inr (.inr (.inr (6, [.int kn, .long fr, .int (nI T), .ref (rr + 2), .ref (rr + 4), .ref rS]))))) (hS : zat h rS = some (.inr (.inl (N, stp)))) (hT : T < N ∧ N ≤ 20000) : ∀ (m : Nat) (n : Int32) (b : Int32) (k : Nat), (k ≤ T + 1) → (T + 1 - k) < m → ∀ (dc ds : Nat), wq 76 16 [(0, .ref rr), (1, .int w), (2, .int n), (3, .int b), (4, .int (nI k))] [] h dc ds (fun rr9 => rr9 = (some (Value.int (scF T stp w m n b k)), h, dc, ds)) := by
  intro m
  induction m with
  | zero => intro n b k hk hms dc ds; omega
  | succ m ih =>
    intro n b k hk hms dc ds
    have qnT := nI_toInt (n := T) (by omega)
    have qnk := nI_toInt (n := k) (by omega)
    refine wq_gos (f := 1) (pc2 := 19) (ls2 := [(0, .ref rr), (1, .int w), (2, .int n), (3, .int b), (4, .int (nI k))]) (st2 := [.ref rr, .int (nI k)]) (h2 := h) (dc2 := dc) (ds2 := ds) 2 rfl ?_
    refine wq_getf rfl hR rfl rfl ?_
    try have q1x := nI_toInt (n := k) (by omega)
    try have q2x := nI_toInt (n := T) (by omega)
    refine wq_gt2 rfl rfl (fun b3x => ?_) (fun b3x => ?_)
    · refine wq_gos (f := 1) (pc2 := 57) (ls2 := [(0, .ref rr), (1, .int w), (2, .int n), (3, .int b), (4, .int (nI k))]) (st2 := [.int n]) (h2 := h) (dc2 := dc) (ds2 := ds) 1 rfl ?_
      have hx : (scF T stp w (m + 1) n b k) = n := by show (if _ then _ else _) = _; rw [if_pos b3x]
      refine wq_ret rfl rfl ?_
      show (some (Value.int n), h, dc, ds) = (some (Value.int (scF T stp w (m + 1) n b k)), h, dc, ds)
      rw [hx]
    · refine wq_gos (f := 1) (pc2 := 26) (ls2 := [(0, .ref rr), (1, .int w), (2, .int n), (3, .int b), (4, .int (nI k))]) (st2 := [.ref rr]) (h2 := h) (dc2 := dc) (ds2 := ds) 1 rfl ?_
      refine wq_getf rfl hR rfl rfl ?_
      refine wq_gos (f := 1) (pc2 := 31) (ls2 := [(0, .ref rr), (1, .int w), (2, .int n), (3, .int b), (4, .int (nI k))]) (st2 := [.int (nI k), .ref rS]) (h2 := h) (dc2 := dc) (ds2 := ds) 1 rfl ?_
      refine wq_laldn rfl hS (by first | omega | exact zin_t (by omega) (by omega)) (by omega) rfl ?_
      refine wq_gos (f := 1) (pc2 := 33) (ls2 := [(0, .ref rr), (1, .int w), (2, .int n), (3, .int b), (4, .int (nI k))]) (st2 := [.int w, .long (stp.getD k 0)]) (h2 := h) (dc2 := dc) (ds2 := ds) 1 rfl ?_
      refine wq_inl (y2 := 147) (as := [.long (stp.getD k 0), .int w]) rfl rfl rfl (wq_mono c_som ?_)
      rintro _ rfl
      show wq 76 36 [(0, .ref rr), (1, .int w), (2, .int n), (3, .int b), (4, .int (nI k))] [.int (jSom (stp.getD k 0) w)] h dc ds _
      refine wq_gos (f := 1) (pc2 := 41) (ls2 := [(5, .int (jSom (stp.getD k 0) w)), (0, .ref rr), (1, .int w), (2, .int n), (3, .int b), (4, .int (nI k))]) (st2 := [.int b, .int (jSom (stp.getD k 0) w)]) (h2 := h) (dc2 := dc) (ds2 := ds) 3 rfl ?_
      refine wq_eq2 rfl rfl (fun b5x => ?_) (fun b5x => ?_)
      · have q6x : (jSom (stp.getD k 0) w).toInt = b.toInt := congrArg Int32.toInt b5x
        refine wq_gos (f := 1) (pc2 := 53) (ls2 := [(4, .int ((nI k) + 1)), (3, .int (jSom (stp.getD k 0) w)), (5, .int (jSom (stp.getD k 0) w)), (0, .ref rr), (1, .int w), (2, .int n)]) (st2 := []) (h2 := h) (dc2 := dc) (ds2 := ds) 3 rfl ?_
        rw [nI_1]
        refine wq_gos (f := 1) (pc2 := 16) (ls2 := [(4, .int (nI (k + 1))), (3, .int (jSom (stp.getD k 0) w)), (5, .int (jSom (stp.getD k 0) w)), (0, .ref rr), (1, .int w), (2, .int n)]) (st2 := []) (h2 := h) (dc2 := dc) (ds2 := ds) 1 rfl ?_
        try have q7x := nI_toInt (n := (k + 1)) (by omega)
        have hx : (scF T stp w (m + 1) n b k) = (scF T stp w m n (jSom (stp.getD k 0) w) (k + 1)) := by show (if _ then _ else _) = _; rw [if_neg (Int.not_lt.mpr b3x), if_pos b5x]
        rw [hx]
        refine wq_ls [(0, .ref rr), (1, .int w), (2, .int n), (3, .int (jSom (stp.getD k 0) w)), (4, .int (nI (k + 1)))] (show ([0, 1, 2, 3, 4] : List Nat).Nodup by decide) ⟨rfl, rfl, rfl, rfl, rfl, trivial⟩ ?_
        exact ih n (jSom (stp.getD k 0) w) (k + 1) (by first | omega | assumption | decide) (by omega) dc ds
      · have q8x : (jSom (stp.getD k 0) w).toInt ≠ b.toInt := fun q => b5x (Int32.toInt_inj.mp q)
        refine wq_gos (f := 1) (pc2 := 53) (ls2 := [(4, .int ((nI k) + 1)), (3, .int (jSom (stp.getD k 0) w)), (2, .int (n + 1)), (5, .int (jSom (stp.getD k 0) w)), (0, .ref rr), (1, .int w)]) (st2 := []) (h2 := h) (dc2 := dc) (ds2 := ds) 4 rfl ?_
        rw [nI_1]
        refine wq_gos (f := 1) (pc2 := 16) (ls2 := [(4, .int (nI (k + 1))), (3, .int (jSom (stp.getD k 0) w)), (2, .int (n + 1)), (5, .int (jSom (stp.getD k 0) w)), (0, .ref rr), (1, .int w)]) (st2 := []) (h2 := h) (dc2 := dc) (ds2 := ds) 1 rfl ?_
        try have q9x := nI_toInt (n := (k + 1)) (by omega)
        have q10x : (1 : Int32).toInt = 1 := rfl
        try have q11x : ((n + 1)).toInt = n.toInt + (1 : Int32).toInt := e_add (by omega) (by omega)
        have hx : (scF T stp w (m + 1) n b k) = (scF T stp w m (n + 1) (jSom (stp.getD k 0) w) (k + 1)) := by show (if _ then _ else _) = _; rw [if_neg (Int.not_lt.mpr b3x), if_neg b5x]
        rw [hx]
        refine wq_ls [(0, .ref rr), (1, .int w), (2, .int (n + 1)), (3, .int (jSom (stp.getD k 0) w)), (4, .int (nI (k + 1)))] (show ([0, 1, 2, 3, 4] : List Nat).Nodup by decide) ⟨rfl, rfl, rfl, rfl, rfl, trivial⟩ ?_
        exact ih (n + 1) (jSom (stp.getD k 0) w) (k + 1) (by first | omega | assumption | decide) (by omega) dc ds
set_option maxRecDepth 100000 in
set_option maxHeartbeats 4000000 in
theorem c_sc {h : zH} {rr rS T N : Nat} {kn : Int32} {fr : Int64} {stp : List Int64} {w : Int32} (hR : zat h rr = some (.inr (.inr (.inr (6, [.int kn, .long fr, .int (nI T), .ref (rr + 2), .ref (rr + 4), .ref rS]))))) (hS : zat h rS = some (.inr (.inl (N, stp)))) (hT : T < N ∧ N ≤ 20000) : wq 76 0 [(0, .ref rr), (1, .int w)] [] h 0 0 (fun rr9 => rr9 = (some (.int (scF T stp w (T + 1 - 1 + 1) 0 (jSom (stp.getD 0 0) w) 1)), h, 0, 0)) := by
  have qnT := nI_toInt (n := T) (by omega)
  refine wq_gos (f := 1) (pc2 := 3) (ls2 := [(2, .int 0), (0, .ref rr), (1, .int w)]) (st2 := [.ref rr]) (h2 := h) (dc2 := 0) (ds2 := 0) 3 rfl ?_
  refine wq_getf rfl hR rfl rfl ?_
  refine wq_gos (f := 1) (pc2 := 7) (ls2 := [(2, .int 0), (0, .ref rr), (1, .int w)]) (st2 := [.int 0, .ref rS]) (h2 := h) (dc2 := 0) (ds2 := 0) 1 rfl ?_
  have q1x : (0 : Int32).toInt = 0 := rfl
  refine wq_lald rfl hS (by first | omega | exact zin_t (by omega) (by omega)) rfl ?_
  refine wq_gos (f := 1) (pc2 := 9) (ls2 := [(2, .int 0), (0, .ref rr), (1, .int w)]) (st2 := [.int w, .long (stp.getD 0 0)]) (h2 := h) (dc2 := 0) (ds2 := 0) 1 rfl ?_
  refine wq_inl (y2 := 147) (as := [.long (stp.getD 0 0), .int w]) rfl rfl rfl (wq_mono c_som ?_)
  rintro _ rfl
  show wq 76 12 [(2, .int 0), (0, .ref rr), (1, .int w)] [.int (jSom (stp.getD 0 0) w)] h 0 0 _
  refine wq_gos (f := 1) (pc2 := 16) (ls2 := [(4, .int 1), (3, .int (jSom (stp.getD 0 0) w)), (2, .int 0), (0, .ref rr), (1, .int w)]) (st2 := []) (h2 := h) (dc2 := 0) (ds2 := 0) 3 rfl ?_
  refine wq_ls [(0, .ref rr), (1, .int w), (2, .int (0 : Int32)), (3, .int (jSom (stp.getD 0 0) w)), (4, .int (nI 1))] (show ([0, 1, 2, 3, 4] : List Nat).Nodup by decide) ⟨rfl, rfl, rfl, rfl, rfl, trivial⟩ ?_
  refine wq_mono (c_scL hR hS (by first | omega | assumption | decide) ((T + 1 - 1) + 1) (0 : Int32) (jSom (stp.getD 0 0) w) 1 (by first | omega | assumption | decide) (by omega) 0 0) ?_
  rintro _ rfl
  all_goals exact rfl
noncomputable def rtF (T : Nat) (stp : List Int64) : Nat → Int32 → Int32 → Nat → Int32
  | 0, _, _, _ => 0
  | m + 1, n, b, k => (if (nI T).toInt < (nI k).toInt then n else (if (jsg ((jNat T stp (nI k) (5 : Int32)) - (jNat T stp ((nI k) - (1 : Int32)) (5 : Int32)))) = (0 : Int32) then (rtF T stp m n b (k + 1)) else (if b = (0 : Int32) then (rtF T stp m n (jsg ((jNat T stp (nI k) (5 : Int32)) - (jNat T stp ((nI k) - (1 : Int32)) (5 : Int32)))) (k + 1)) else (if (jsg ((jNat T stp (nI k) (5 : Int32)) - (jNat T stp ((nI k) - (1 : Int32)) (5 : Int32)))) = b then (rtF T stp m n (jsg ((jNat T stp (nI k) (5 : Int32)) - (jNat T stp ((nI k) - (1 : Int32)) (5 : Int32)))) (k + 1)) else (rtF T stp m (n + 1) (jsg ((jNat T stp (nI k) (5 : Int32)) - (jNat T stp ((nI k) - (1 : Int32)) (5 : Int32)))) (k + 1))))))
set_option maxRecDepth 100000 in
set_option maxHeartbeats 4000000 in
theorem c_rtL {h : zH} {rr rS T N : Nat} {kn : Int32} {fr : Int64} {stp : List Int64} (hR : zat h rr = some (.inr (.inr (.inr (6, [.int kn, .long fr, .int (nI T), .ref (rr + 2), .ref (rr + 4), .ref rS]))))) (hS : zat h rS = some (.inr (.inl (N, stp)))) (hT : T < N ∧ N ≤ 20000) : ∀ (m : Nat) (n : Int32) (b : Int32) (k : Nat), (k ≤ T + 1) → (T + 1 - k) < m → ∀ (dc ds : Nat), wq 77 6 [(0, .ref rr), (1, .int n), (2, .int b), (3, .int (nI k))] [] h dc ds (fun rr9 => rr9 = (some (Value.int (rtF T stp m n b k)), h, dc, ds)) := by
  intro m
  induction m with
  | zero => intro n b k hk hms dc ds; omega
  | succ m ih =>
    intro n b k hk hms dc ds
    have qnT := nI_toInt (n := T) (by omega)
    have qnk := nI_toInt (n := k) (by omega)
    refine wq_gos (f := 1) (pc2 := 8) (ls2 := [(0, .ref rr), (1, .int n), (2, .int b), (3, .int (nI k))]) (st2 := [.ref rr, .int (nI k)]) (h2 := h) (dc2 := dc) (ds2 := ds) 2 rfl ?_
    refine wq_getf rfl hR rfl rfl ?_
    try have q1x := nI_toInt (n := k) (by omega)
    try have q2x := nI_toInt (n := T) (by omega)
    refine wq_gt2 rfl rfl (fun b3x => ?_) (fun b3x => ?_)
    · refine wq_gos (f := 1) (pc2 := 62) (ls2 := [(0, .ref rr), (1, .int n), (2, .int b), (3, .int (nI k))]) (st2 := [.int n]) (h2 := h) (dc2 := dc) (ds2 := ds) 1 rfl ?_
      have hx : (rtF T stp (m + 1) n b k) = n := by show (if _ then _ else _) = _; rw [if_pos b3x]
      refine wq_ret rfl rfl ?_
      show (some (Value.int n), h, dc, ds) = (some (Value.int (rtF T stp (m + 1) n b k)), h, dc, ds)
      rw [hx]
    · refine wq_gos (f := 1) (pc2 := 17) (ls2 := [(0, .ref rr), (1, .int n), (2, .int b), (3, .int (nI k))]) (st2 := [.int 5, .int (nI k), .ref rr]) (h2 := h) (dc2 := dc) (ds2 := ds) 3 rfl ?_
      have q4x : (5 : Int32).toInt = 5 := rfl
      refine wq_inlv (y2 := 70) (as := [.int (nI k), .int 5]) rfl rfl rfl hR rfl (wq_mono (c_nat hR hS (by first | omega | assumption | decide)) ?_)
      rintro _ rfl
      show wq 77 20 [(0, .ref rr), (1, .int n), (2, .int b), (3, .int (nI k))] [.int (jNat T stp (nI k) (5 : Int32))] h dc ds _
      refine wq_gos (f := 1) (pc2 := 25) (ls2 := [(0, .ref rr), (1, .int n), (2, .int b), (3, .int (nI k))]) (st2 := [.int 5, .int ((nI k) - (1 : Int32)), .ref rr, .int (jNat T stp (nI k) (5 : Int32))]) (h2 := h) (dc2 := dc) (ds2 := ds) 5 rfl ?_
      have q6x : (1 : Int32).toInt = 1 := rfl
      try have q7x : (((nI k) - (1 : Int32))).toInt = (nI k).toInt - (1 : Int32).toInt := e_sub (by omega) (by omega)
      refine wq_inlv (y2 := 70) (as := [.int ((nI k) - (1 : Int32)), .int 5]) rfl rfl rfl hR rfl (wq_mono (c_nat hR hS (by first | omega | assumption | decide)) ?_)
      rintro _ rfl
      show wq 77 28 [(0, .ref rr), (1, .int n), (2, .int b), (3, .int (nI k))] [.int (jNat T stp ((nI k) - (1 : Int32)) (5 : Int32)), .int (jNat T stp (nI k) (5 : Int32))] h dc ds _
      refine wq_gos (f := 1) (pc2 := 29) (ls2 := [(0, .ref rr), (1, .int n), (2, .int b), (3, .int (nI k))]) (st2 := [.int ((jNat T stp (nI k) (5 : Int32)) - (jNat T stp ((nI k) - (1 : Int32)) (5 : Int32)))]) (h2 := h) (dc2 := dc) (ds2 := ds) 1 rfl ?_
      refine wq_inl (y2 := 151) (as := [.int ((jNat T stp (nI k) (5 : Int32)) - (jNat T stp ((nI k) - (1 : Int32)) (5 : Int32)))]) rfl rfl rfl (wq_T (c_sgn ((jNat T stp (nI k) (5 : Int32)) - (jNat T stp ((nI k) - (1 : Int32)) (5 : Int32))) h) ?_)
      show wq 77 32 [(0, .ref rr), (1, .int n), (2, .int b), (3, .int (nI k))] [.int (jsg ((jNat T stp (nI k) (5 : Int32)) - (jNat T stp ((nI k) - (1 : Int32)) (5 : Int32))))] h dc ds _
      refine wq_gos (f := 1) (pc2 := 36) (ls2 := [(4, .int (jsg ((jNat T stp (nI k) (5 : Int32)) - (jNat T stp ((nI k) - (1 : Int32)) (5 : Int32))))), (0, .ref rr), (1, .int n), (2, .int b), (3, .int (nI k))]) (st2 := [.int (jsg ((jNat T stp (nI k) (5 : Int32)) - (jNat T stp ((nI k) - (1 : Int32)) (5 : Int32))))]) (h2 := h) (dc2 := dc) (ds2 := ds) 2 rfl ?_
      refine wq_eq0 rfl rfl (fun b9x => ?_) (fun b9x => ?_)
      · have q10x : (jsg ((jNat T stp (nI k) (5 : Int32)) - (jNat T stp ((nI k) - (1 : Int32)) (5 : Int32)))).toInt = 0 := congrArg Int32.toInt b9x
        refine wq_gos (f := 1) (pc2 := 58) (ls2 := [(3, .int ((nI k) + 1)), (4, .int (jsg ((jNat T stp (nI k) (5 : Int32)) - (jNat T stp ((nI k) - (1 : Int32)) (5 : Int32))))), (0, .ref rr), (1, .int n), (2, .int b)]) (st2 := []) (h2 := h) (dc2 := dc) (ds2 := ds) 1 rfl ?_
        rw [nI_1]
        refine wq_gos (f := 1) (pc2 := 6) (ls2 := [(3, .int (nI (k + 1))), (4, .int (jsg ((jNat T stp (nI k) (5 : Int32)) - (jNat T stp ((nI k) - (1 : Int32)) (5 : Int32))))), (0, .ref rr), (1, .int n), (2, .int b)]) (st2 := []) (h2 := h) (dc2 := dc) (ds2 := ds) 1 rfl ?_
        try have q11x := nI_toInt (n := (k + 1)) (by omega)
        have hx : (rtF T stp (m + 1) n b k) = (rtF T stp m n b (k + 1)) := by show (if _ then _ else _) = _; rw [if_neg (Int.not_lt.mpr b3x), if_pos b9x]
        rw [hx]
        refine wq_ls [(0, .ref rr), (1, .int n), (2, .int b), (3, .int (nI (k + 1)))] (show ([0, 1, 2, 3] : List Nat).Nodup by decide) ⟨rfl, rfl, rfl, rfl, trivial⟩ ?_
        exact ih n b (k + 1) (by first | omega | assumption | decide) (by omega) dc ds
      · have q12x : (jsg ((jNat T stp (nI k) (5 : Int32)) - (jNat T stp ((nI k) - (1 : Int32)) (5 : Int32)))).toInt ≠ 0 := fun q => b9x (Int32.toInt_inj.mp q)
        refine wq_gos (f := 1) (pc2 := 40) (ls2 := [(4, .int (jsg ((jNat T stp (nI k) (5 : Int32)) - (jNat T stp ((nI k) - (1 : Int32)) (5 : Int32))))), (0, .ref rr), (1, .int n), (2, .int b), (3, .int (nI k))]) (st2 := [.int b]) (h2 := h) (dc2 := dc) (ds2 := ds) 1 rfl ?_
        refine wq_eq0 rfl rfl (fun b13x => ?_) (fun b13x => ?_)
        · have q14x : b.toInt = 0 := congrArg Int32.toInt b13x
          refine wq_gos (f := 1) (pc2 := 58) (ls2 := [(3, .int ((nI k) + 1)), (2, .int (jsg ((jNat T stp (nI k) (5 : Int32)) - (jNat T stp ((nI k) - (1 : Int32)) (5 : Int32))))), (4, .int (jsg ((jNat T stp (nI k) (5 : Int32)) - (jNat T stp ((nI k) - (1 : Int32)) (5 : Int32))))), (0, .ref rr), (1, .int n)]) (st2 := []) (h2 := h) (dc2 := dc) (ds2 := ds) 3 rfl ?_
          rw [nI_1]
          refine wq_gos (f := 1) (pc2 := 6) (ls2 := [(3, .int (nI (k + 1))), (2, .int (jsg ((jNat T stp (nI k) (5 : Int32)) - (jNat T stp ((nI k) - (1 : Int32)) (5 : Int32))))), (4, .int (jsg ((jNat T stp (nI k) (5 : Int32)) - (jNat T stp ((nI k) - (1 : Int32)) (5 : Int32))))), (0, .ref rr), (1, .int n)]) (st2 := []) (h2 := h) (dc2 := dc) (ds2 := ds) 1 rfl ?_
          try have q15x := nI_toInt (n := (k + 1)) (by omega)
          have hx : (rtF T stp (m + 1) n b k) = (rtF T stp m n (jsg ((jNat T stp (nI k) (5 : Int32)) - (jNat T stp ((nI k) - (1 : Int32)) (5 : Int32)))) (k + 1)) := by show (if _ then _ else _) = _; rw [if_neg (Int.not_lt.mpr b3x), if_neg b9x, if_pos b13x]
          rw [hx]
          refine wq_ls [(0, .ref rr), (1, .int n), (2, .int (jsg ((jNat T stp (nI k) (5 : Int32)) - (jNat T stp ((nI k) - (1 : Int32)) (5 : Int32))))), (3, .int (nI (k + 1)))] (show ([0, 1, 2, 3] : List Nat).Nodup by decide) ⟨rfl, rfl, rfl, rfl, trivial⟩ ?_
          exact ih n (jsg ((jNat T stp (nI k) (5 : Int32)) - (jNat T stp ((nI k) - (1 : Int32)) (5 : Int32)))) (k + 1) (by first | omega | assumption | decide) (by omega) dc ds
        · have q16x : b.toInt ≠ 0 := fun q => b13x (Int32.toInt_inj.mp q)
          refine wq_gos (f := 1) (pc2 := 46) (ls2 := [(4, .int (jsg ((jNat T stp (nI k) (5 : Int32)) - (jNat T stp ((nI k) - (1 : Int32)) (5 : Int32))))), (0, .ref rr), (1, .int n), (2, .int b), (3, .int (nI k))]) (st2 := [.int b, .int (jsg ((jNat T stp (nI k) (5 : Int32)) - (jNat T stp ((nI k) - (1 : Int32)) (5 : Int32))))]) (h2 := h) (dc2 := dc) (ds2 := ds) 2 rfl ?_
          refine wq_eq2 rfl rfl (fun b17x => ?_) (fun b17x => ?_)
          · have q18x : (jsg ((jNat T stp (nI k) (5 : Int32)) - (jNat T stp ((nI k) - (1 : Int32)) (5 : Int32)))).toInt = b.toInt := congrArg Int32.toInt b17x
            refine wq_gos (f := 1) (pc2 := 58) (ls2 := [(3, .int ((nI k) + 1)), (2, .int (jsg ((jNat T stp (nI k) (5 : Int32)) - (jNat T stp ((nI k) - (1 : Int32)) (5 : Int32))))), (4, .int (jsg ((jNat T stp (nI k) (5 : Int32)) - (jNat T stp ((nI k) - (1 : Int32)) (5 : Int32))))), (0, .ref rr), (1, .int n)]) (st2 := []) (h2 := h) (dc2 := dc) (ds2 := ds) 3 rfl ?_
            rw [nI_1]
            refine wq_gos (f := 1) (pc2 := 6) (ls2 := [(3, .int (nI (k + 1))), (2, .int (jsg ((jNat T stp (nI k) (5 : Int32)) - (jNat T stp ((nI k) - (1 : Int32)) (5 : Int32))))), (4, .int (jsg ((jNat T stp (nI k) (5 : Int32)) - (jNat T stp ((nI k) - (1 : Int32)) (5 : Int32))))), (0, .ref rr), (1, .int n)]) (st2 := []) (h2 := h) (dc2 := dc) (ds2 := ds) 1 rfl ?_
            try have q19x := nI_toInt (n := (k + 1)) (by omega)
            have hx : (rtF T stp (m + 1) n b k) = (rtF T stp m n (jsg ((jNat T stp (nI k) (5 : Int32)) - (jNat T stp ((nI k) - (1 : Int32)) (5 : Int32)))) (k + 1)) := by show (if _ then _ else _) = _; rw [if_neg (Int.not_lt.mpr b3x), if_neg b9x, if_neg b13x, if_pos b17x]
            rw [hx]
            refine wq_ls [(0, .ref rr), (1, .int n), (2, .int (jsg ((jNat T stp (nI k) (5 : Int32)) - (jNat T stp ((nI k) - (1 : Int32)) (5 : Int32))))), (3, .int (nI (k + 1)))] (show ([0, 1, 2, 3] : List Nat).Nodup by decide) ⟨rfl, rfl, rfl, rfl, trivial⟩ ?_
            exact ih n (jsg ((jNat T stp (nI k) (5 : Int32)) - (jNat T stp ((nI k) - (1 : Int32)) (5 : Int32)))) (k + 1) (by first | omega | assumption | decide) (by omega) dc ds
          · have q20x : (jsg ((jNat T stp (nI k) (5 : Int32)) - (jNat T stp ((nI k) - (1 : Int32)) (5 : Int32)))).toInt ≠ b.toInt := fun q => b17x (Int32.toInt_inj.mp q)
            refine wq_gos (f := 1) (pc2 := 58) (ls2 := [(3, .int ((nI k) + 1)), (2, .int (jsg ((jNat T stp (nI k) (5 : Int32)) - (jNat T stp ((nI k) - (1 : Int32)) (5 : Int32))))), (1, .int (n + 1)), (4, .int (jsg ((jNat T stp (nI k) (5 : Int32)) - (jNat T stp ((nI k) - (1 : Int32)) (5 : Int32))))), (0, .ref rr)]) (st2 := []) (h2 := h) (dc2 := dc) (ds2 := ds) 4 rfl ?_
            rw [nI_1]
            refine wq_gos (f := 1) (pc2 := 6) (ls2 := [(3, .int (nI (k + 1))), (2, .int (jsg ((jNat T stp (nI k) (5 : Int32)) - (jNat T stp ((nI k) - (1 : Int32)) (5 : Int32))))), (1, .int (n + 1)), (4, .int (jsg ((jNat T stp (nI k) (5 : Int32)) - (jNat T stp ((nI k) - (1 : Int32)) (5 : Int32))))), (0, .ref rr)]) (st2 := []) (h2 := h) (dc2 := dc) (ds2 := ds) 1 rfl ?_
            try have q21x := nI_toInt (n := (k + 1)) (by omega)
            try have q22x : ((n + 1)).toInt = n.toInt + (1 : Int32).toInt := e_add (by omega) (by omega)
            have hx : (rtF T stp (m + 1) n b k) = (rtF T stp m (n + 1) (jsg ((jNat T stp (nI k) (5 : Int32)) - (jNat T stp ((nI k) - (1 : Int32)) (5 : Int32)))) (k + 1)) := by show (if _ then _ else _) = _; rw [if_neg (Int.not_lt.mpr b3x), if_neg b9x, if_neg b13x, if_neg b17x]
            rw [hx]
            refine wq_ls [(0, .ref rr), (1, .int (n + 1)), (2, .int (jsg ((jNat T stp (nI k) (5 : Int32)) - (jNat T stp ((nI k) - (1 : Int32)) (5 : Int32))))), (3, .int (nI (k + 1)))] (show ([0, 1, 2, 3] : List Nat).Nodup by decide) ⟨rfl, rfl, rfl, rfl, trivial⟩ ?_
            exact ih (n + 1) (jsg ((jNat T stp (nI k) (5 : Int32)) - (jNat T stp ((nI k) - (1 : Int32)) (5 : Int32)))) (k + 1) (by first | omega | assumption | decide) (by omega) dc ds
set_option maxRecDepth 100000 in
set_option maxHeartbeats 4000000 in
theorem c_rt {h : zH} {rr rS T N : Nat} {kn : Int32} {fr : Int64} {stp : List Int64} (hR : zat h rr = some (.inr (.inr (.inr (6, [.int kn, .long fr, .int (nI T), .ref (rr + 2), .ref (rr + 4), .ref rS]))))) (hS : zat h rS = some (.inr (.inl (N, stp)))) (hT : T < N ∧ N ≤ 20000) : wq 77 0 [(0, .ref rr)] [] h 0 0 (fun rr9 => rr9 = (some (.int (rtF T stp (T + 1 - 1 + 1) 0 0 1)), h, 0, 0)) := by
  have qnT := nI_toInt (n := T) (by omega)
  refine wq_gos (f := 1) (pc2 := 6) (ls2 := [(3, .int 1), (2, .int 0), (1, .int 0), (0, .ref rr)]) (st2 := []) (h2 := h) (dc2 := 0) (ds2 := 0) 6 rfl ?_
  refine wq_ls [(0, .ref rr), (1, .int (0 : Int32)), (2, .int (0 : Int32)), (3, .int (nI 1))] (show ([0, 1, 2, 3] : List Nat).Nodup by decide) ⟨rfl, rfl, rfl, rfl, trivial⟩ ?_
  refine wq_mono (c_rtL hR hS (by first | omega | assumption | decide) ((T + 1 - 1) + 1) (0 : Int32) (0 : Int32) 1 (by first | omega | assumption | decide) (by omega) 0 0) ?_
  rintro _ rfl
  all_goals exact rfl
noncomputable def slF (T : Nat) (stp : List Int64) : Nat → Int32 → Nat → Int32
  | 0, _, _ => 0
  | m + 1, n, k => (if (nI T).toInt < (nI k).toInt then n else (if (50 : Int32).toInt ≤ (jmea (stp.getD k 0)).toInt then (if (200 : Int32).toInt ≤ (jmea (stp.getD k 0)).toInt then (slF T stp m (n + (1 : Int32)) (k + 1)) else (slF T stp m (n + (2 : Int32)) (k + 1))) else (slF T stp m (n + (4 : Int32)) (k + 1))))
set_option maxRecDepth 100000 in
set_option maxHeartbeats 4000000 in
theorem c_slL {h : zH} {rr rS T N : Nat} {kn : Int32} {fr : Int64} {stp : List Int64} (hR : zat h rr = some (.inr (.inr (.inr (6, [.int kn, .long fr, .int (nI T), .ref (rr + 2), .ref (rr + 4), .ref rS]))))) (hS : zat h rS = some (.inr (.inl (N, stp)))) (hT : T < N ∧ N ≤ 20000) : ∀ (m : Nat) (n : Int32) (k : Nat), (k ≤ T + 1) → (T + 1 - k) < m → ∀ (dc ds : Nat), wq 79 4 [(0, .ref rr), (1, .int n), (2, .int (nI k))] [] h dc ds (fun rr9 => rr9 = (some (Value.int (slF T stp m n k)), h, dc, ds)) := by
  intro m
  induction m with
  | zero => intro n k hk hms dc ds; omega
  | succ m ih =>
    intro n k hk hms dc ds
    have qnT := nI_toInt (n := T) (by omega)
    have qnk := nI_toInt (n := k) (by omega)
    refine wq_gos (f := 1) (pc2 := 6) (ls2 := [(0, .ref rr), (1, .int n), (2, .int (nI k))]) (st2 := [.ref rr, .int (nI k)]) (h2 := h) (dc2 := dc) (ds2 := ds) 2 rfl ?_
    refine wq_getf rfl hR rfl rfl ?_
    try have q1x := nI_toInt (n := k) (by omega)
    try have q2x := nI_toInt (n := T) (by omega)
    refine wq_gt2 rfl rfl (fun b3x => ?_) (fun b3x => ?_)
    · refine wq_gos (f := 1) (pc2 := 54) (ls2 := [(0, .ref rr), (1, .int n), (2, .int (nI k))]) (st2 := [.int n]) (h2 := h) (dc2 := dc) (ds2 := ds) 1 rfl ?_
      have hx : (slF T stp (m + 1) n k) = n := by show (if _ then _ else _) = _; rw [if_pos b3x]
      refine wq_ret rfl rfl ?_
      show (some (Value.int n), h, dc, ds) = (some (Value.int (slF T stp (m + 1) n k)), h, dc, ds)
      rw [hx]
    · refine wq_gos (f := 1) (pc2 := 13) (ls2 := [(0, .ref rr), (1, .int n), (2, .int (nI k))]) (st2 := [.ref rr]) (h2 := h) (dc2 := dc) (ds2 := ds) 1 rfl ?_
      refine wq_getf rfl hR rfl rfl ?_
      refine wq_gos (f := 1) (pc2 := 17) (ls2 := [(0, .ref rr), (1, .int n), (2, .int (nI k))]) (st2 := [.int (nI k), .ref rS]) (h2 := h) (dc2 := dc) (ds2 := ds) 1 rfl ?_
      refine wq_laldn rfl hS (by first | omega | exact zin_t (by omega) (by omega)) (by omega) rfl ?_
      refine wq_inl (y2 := 37) (as := [.long (stp.getD k 0)]) rfl rfl rfl (wq_T (c_mea (stp.getD k 0) h) ?_)
      show wq 79 21 [(0, .ref rr), (1, .int n), (2, .int (nI k))] [.int (jmea (stp.getD k 0))] h dc ds _
      refine wq_gos (f := 1) (pc2 := 26) (ls2 := [(3, .int (jmea (stp.getD k 0))), (0, .ref rr), (1, .int n), (2, .int (nI k))]) (st2 := [.int 50, .int (jmea (stp.getD k 0)), .int n]) (h2 := h) (dc2 := dc) (ds2 := ds) 4 rfl ?_
      have q4x : (50 : Int32).toInt = 50 := rfl
      refine wq_ge2 rfl rfl (fun b5x => ?_) (fun b5x => ?_)
      · refine wq_gos (f := 1) (pc2 := 37) (ls2 := [(3, .int (jmea (stp.getD k 0))), (0, .ref rr), (1, .int n), (2, .int (nI k))]) (st2 := [.int 200, .int (jmea (stp.getD k 0)), .int n]) (h2 := h) (dc2 := dc) (ds2 := ds) 2 rfl ?_
        have q6x : (200 : Int32).toInt = 200 := rfl
        refine wq_ge2 rfl rfl (fun b7x => ?_) (fun b7x => ?_)
        · refine wq_gos (f := 1) (pc2 := 50) (ls2 := [(2, .int ((nI k) + 1)), (1, .int (n + (1 : Int32))), (3, .int (jmea (stp.getD k 0))), (0, .ref rr)]) (st2 := []) (h2 := h) (dc2 := dc) (ds2 := ds) 4 rfl ?_
          rw [nI_1]
          refine wq_gos (f := 1) (pc2 := 4) (ls2 := [(2, .int (nI (k + 1))), (1, .int (n + (1 : Int32))), (3, .int (jmea (stp.getD k 0))), (0, .ref rr)]) (st2 := []) (h2 := h) (dc2 := dc) (ds2 := ds) 1 rfl ?_
          try have q8x := nI_toInt (n := (k + 1)) (by omega)
          have q9x : (1 : Int32).toInt = 1 := rfl
          try have q10x : ((n + (1 : Int32))).toInt = n.toInt + (1 : Int32).toInt := e_add (by omega) (by omega)
          have hx : (slF T stp (m + 1) n k) = (slF T stp m (n + (1 : Int32)) (k + 1)) := by show (if _ then _ else _) = _; rw [if_neg (Int.not_lt.mpr b3x), if_pos b5x, if_pos b7x]
          rw [hx]
          refine wq_ls [(0, .ref rr), (1, .int (n + (1 : Int32))), (2, .int (nI (k + 1)))] (show ([0, 1, 2] : List Nat).Nodup by decide) ⟨rfl, rfl, rfl, trivial⟩ ?_
          exact ih (n + (1 : Int32)) (k + 1) (by first | omega | assumption | decide) (by omega) dc ds
        · refine wq_gos (f := 1) (pc2 := 50) (ls2 := [(2, .int ((nI k) + 1)), (1, .int (n + (2 : Int32))), (3, .int (jmea (stp.getD k 0))), (0, .ref rr)]) (st2 := []) (h2 := h) (dc2 := dc) (ds2 := ds) 5 rfl ?_
          rw [nI_1]
          refine wq_gos (f := 1) (pc2 := 4) (ls2 := [(2, .int (nI (k + 1))), (1, .int (n + (2 : Int32))), (3, .int (jmea (stp.getD k 0))), (0, .ref rr)]) (st2 := []) (h2 := h) (dc2 := dc) (ds2 := ds) 1 rfl ?_
          try have q11x := nI_toInt (n := (k + 1)) (by omega)
          have q12x : (2 : Int32).toInt = 2 := rfl
          try have q13x : ((n + (2 : Int32))).toInt = n.toInt + (2 : Int32).toInt := e_add (by omega) (by omega)
          have hx : (slF T stp (m + 1) n k) = (slF T stp m (n + (2 : Int32)) (k + 1)) := by show (if _ then _ else _) = _; rw [if_neg (Int.not_lt.mpr b3x), if_pos b5x, if_neg (Int.not_le.mpr b7x)]
          rw [hx]
          refine wq_ls [(0, .ref rr), (1, .int (n + (2 : Int32))), (2, .int (nI (k + 1)))] (show ([0, 1, 2] : List Nat).Nodup by decide) ⟨rfl, rfl, rfl, trivial⟩ ?_
          exact ih (n + (2 : Int32)) (k + 1) (by first | omega | assumption | decide) (by omega) dc ds
      · refine wq_gos (f := 1) (pc2 := 50) (ls2 := [(2, .int ((nI k) + 1)), (1, .int (n + (4 : Int32))), (3, .int (jmea (stp.getD k 0))), (0, .ref rr)]) (st2 := []) (h2 := h) (dc2 := dc) (ds2 := ds) 5 rfl ?_
        rw [nI_1]
        refine wq_gos (f := 1) (pc2 := 4) (ls2 := [(2, .int (nI (k + 1))), (1, .int (n + (4 : Int32))), (3, .int (jmea (stp.getD k 0))), (0, .ref rr)]) (st2 := []) (h2 := h) (dc2 := dc) (ds2 := ds) 1 rfl ?_
        try have q14x := nI_toInt (n := (k + 1)) (by omega)
        have q15x : (4 : Int32).toInt = 4 := rfl
        try have q16x : ((n + (4 : Int32))).toInt = n.toInt + (4 : Int32).toInt := e_add (by omega) (by omega)
        have hx : (slF T stp (m + 1) n k) = (slF T stp m (n + (4 : Int32)) (k + 1)) := by show (if _ then _ else _) = _; rw [if_neg (Int.not_lt.mpr b3x), if_neg (Int.not_le.mpr b5x)]
        rw [hx]
        refine wq_ls [(0, .ref rr), (1, .int (n + (4 : Int32))), (2, .int (nI (k + 1)))] (show ([0, 1, 2] : List Nat).Nodup by decide) ⟨rfl, rfl, rfl, trivial⟩ ?_
        exact ih (n + (4 : Int32)) (k + 1) (by first | omega | assumption | decide) (by omega) dc ds
set_option maxRecDepth 100000 in
set_option maxHeartbeats 4000000 in
theorem c_sl {h : zH} {rr rS T N : Nat} {kn : Int32} {fr : Int64} {stp : List Int64} (hR : zat h rr = some (.inr (.inr (.inr (6, [.int kn, .long fr, .int (nI T), .ref (rr + 2), .ref (rr + 4), .ref rS]))))) (hS : zat h rS = some (.inr (.inl (N, stp)))) (hT : T < N ∧ N ≤ 20000) : wq 79 0 [(0, .ref rr)] [] h 0 0 (fun rr9 => rr9 = (some (.int (slF T stp (T + 1 - 1 + 1) 0 1)), h, 0, 0)) := by
  have qnT := nI_toInt (n := T) (by omega)
  refine wq_gos (f := 1) (pc2 := 4) (ls2 := [(2, .int 1), (1, .int 0), (0, .ref rr)]) (st2 := []) (h2 := h) (dc2 := 0) (ds2 := 0) 4 rfl ?_
  refine wq_ls [(0, .ref rr), (1, .int (0 : Int32)), (2, .int (nI 1))] (show ([0, 1, 2] : List Nat).Nodup by decide) ⟨rfl, rfl, rfl, trivial⟩ ?_
  refine wq_mono (c_slL hR hS (by first | omega | assumption | decide) ((T + 1 - 1) + 1) (0 : Int32) 1 (by first | omega | assumption | decide) (by omega) 0 0) ?_
  rintro _ rfl
  all_goals exact rfl
noncomputable def lmF (T : Nat) (stp : List Int64) : Nat → Int32 → Nat → Int32
  | 0, _, _ => 0
  | m + 1, n, k => (if (nI T).toInt < (nI k).toInt then n else (lmF T stp m (jmin n (jmea (stp.getD k 0))) (k + 1)))
set_option maxRecDepth 100000 in
set_option maxHeartbeats 4000000 in
theorem c_lmL {h : zH} {rr rS T N : Nat} {kn : Int32} {fr : Int64} {stp : List Int64} (hR : zat h rr = some (.inr (.inr (.inr (6, [.int kn, .long fr, .int (nI T), .ref (rr + 2), .ref (rr + 4), .ref rS]))))) (hS : zat h rS = some (.inr (.inl (N, stp)))) (hT : T < N ∧ N ≤ 20000) : ∀ (m : Nat) (n : Int32) (k : Nat), (k ≤ T + 1) → (T + 1 - k) < m → ∀ (dc ds : Nat), wq 80 12 [(0, .ref rr), (1, .int n), (2, .int (nI k))] [] h dc ds (fun rr9 => rr9 = (some (Value.int (lmF T stp m n k)), h, dc, ds)) := by
  intro m
  induction m with
  | zero => intro n k hk hms dc ds; omega
  | succ m ih =>
    intro n k hk hms dc ds
    have qnT := nI_toInt (n := T) (by omega)
    have qnk := nI_toInt (n := k) (by omega)
    refine wq_gos (f := 1) (pc2 := 14) (ls2 := [(0, .ref rr), (1, .int n), (2, .int (nI k))]) (st2 := [.ref rr, .int (nI k)]) (h2 := h) (dc2 := dc) (ds2 := ds) 2 rfl ?_
    refine wq_getf rfl hR rfl rfl ?_
    try have q1x := nI_toInt (n := k) (by omega)
    try have q2x := nI_toInt (n := T) (by omega)
    refine wq_gt2 rfl rfl (fun b3x => ?_) (fun b3x => ?_)
    · refine wq_gos (f := 1) (pc2 := 41) (ls2 := [(0, .ref rr), (1, .int n), (2, .int (nI k))]) (st2 := [.int n]) (h2 := h) (dc2 := dc) (ds2 := ds) 1 rfl ?_
      have hx : (lmF T stp (m + 1) n k) = n := by show (if _ then _ else _) = _; rw [if_pos b3x]
      refine wq_ret rfl rfl ?_
      show (some (Value.int n), h, dc, ds) = (some (Value.int (lmF T stp (m + 1) n k)), h, dc, ds)
      rw [hx]
    · refine wq_gos (f := 1) (pc2 := 22) (ls2 := [(0, .ref rr), (1, .int n), (2, .int (nI k))]) (st2 := [.ref rr, .int n]) (h2 := h) (dc2 := dc) (ds2 := ds) 2 rfl ?_
      refine wq_getf rfl hR rfl rfl ?_
      refine wq_gos (f := 1) (pc2 := 26) (ls2 := [(0, .ref rr), (1, .int n), (2, .int (nI k))]) (st2 := [.int (nI k), .ref rS, .int n]) (h2 := h) (dc2 := dc) (ds2 := ds) 1 rfl ?_
      refine wq_laldn rfl hS (by first | omega | exact zin_t (by omega) (by omega)) (by omega) rfl ?_
      refine wq_inl (y2 := 37) (as := [.long (stp.getD k 0)]) rfl rfl rfl (wq_T (c_mea (stp.getD k 0) h) ?_)
      show wq 80 30 [(0, .ref rr), (1, .int n), (2, .int (nI k))] [.int (jmea (stp.getD k 0)), .int n] h dc ds _
      refine wq_inl (y2 := 285) (as := [.int n, .int (jmea (stp.getD k 0))]) rfl rfl rfl (wq_T (c_min n (jmea (stp.getD k 0)) h) ?_)
      show wq 80 33 [(0, .ref rr), (1, .int n), (2, .int (nI k))] [.int (jmin n (jmea (stp.getD k 0)))] h dc ds _
      refine wq_gos (f := 1) (pc2 := 37) (ls2 := [(2, .int ((nI k) + 1)), (1, .int (jmin n (jmea (stp.getD k 0)))), (0, .ref rr)]) (st2 := []) (h2 := h) (dc2 := dc) (ds2 := ds) 2 rfl ?_
      rw [nI_1]
      refine wq_gos (f := 1) (pc2 := 12) (ls2 := [(2, .int (nI (k + 1))), (1, .int (jmin n (jmea (stp.getD k 0)))), (0, .ref rr)]) (st2 := []) (h2 := h) (dc2 := dc) (ds2 := ds) 1 rfl ?_
      try have q4x := nI_toInt (n := (k + 1)) (by omega)
      have hx : (lmF T stp (m + 1) n k) = (lmF T stp m (jmin n (jmea (stp.getD k 0))) (k + 1)) := by show (if _ then _ else _) = _; rw [if_neg (Int.not_lt.mpr b3x)]
      rw [hx]
      refine wq_ls [(0, .ref rr), (1, .int (jmin n (jmea (stp.getD k 0)))), (2, .int (nI (k + 1)))] (show ([0, 1, 2] : List Nat).Nodup by decide) ⟨rfl, rfl, rfl, trivial⟩ ?_
      exact ih (jmin n (jmea (stp.getD k 0))) (k + 1) (by first | omega | assumption | decide) (by omega) dc ds
set_option maxRecDepth 100000 in
set_option maxHeartbeats 4000000 in
theorem c_lm {h : zH} {rr rS T N : Nat} {kn : Int32} {fr : Int64} {stp : List Int64} (hR : zat h rr = some (.inr (.inr (.inr (6, [.int kn, .long fr, .int (nI T), .ref (rr + 2), .ref (rr + 4), .ref rS]))))) (hS : zat h rS = some (.inr (.inl (N, stp)))) (hT : T < N ∧ N ≤ 20000) : wq 80 0 [(0, .ref rr)] [] h 0 0 (fun rr9 => rr9 = (some (.int (lmF T stp (T + 1 - 1 + 1) (jmea (stp.getD 0 0)) 1)), h, 0, 0)) := by
  have qnT := nI_toInt (n := T) (by omega)
  refine wq_gos (f := 1) (pc2 := 1) (ls2 := [(0, .ref rr)]) (st2 := [.ref rr]) (h2 := h) (dc2 := 0) (ds2 := 0) 1 rfl ?_
  refine wq_getf rfl hR rfl rfl ?_
  refine wq_gos (f := 1) (pc2 := 5) (ls2 := [(0, .ref rr)]) (st2 := [.int 0, .ref rS]) (h2 := h) (dc2 := 0) (ds2 := 0) 1 rfl ?_
  have q1x : (0 : Int32).toInt = 0 := rfl
  refine wq_lald rfl hS (by first | omega | exact zin_t (by omega) (by omega)) rfl ?_
  refine wq_inl (y2 := 37) (as := [.long (stp.getD 0 0)]) rfl rfl rfl (wq_T (c_mea (stp.getD 0 0) h) ?_)
  show wq 80 9 [(0, .ref rr)] [.int (jmea (stp.getD 0 0))] h 0 0 _
  refine wq_gos (f := 1) (pc2 := 12) (ls2 := [(2, .int 1), (1, .int (jmea (stp.getD 0 0))), (0, .ref rr)]) (st2 := []) (h2 := h) (dc2 := 0) (ds2 := 0) 3 rfl ?_
  refine wq_ls [(0, .ref rr), (1, .int (jmea (stp.getD 0 0))), (2, .int (nI 1))] (show ([0, 1, 2] : List Nat).Nodup by decide) ⟨rfl, rfl, rfl, trivial⟩ ?_
  refine wq_mono (c_lmL hR hS (by first | omega | assumption | decide) ((T + 1 - 1) + 1) (jmea (stp.getD 0 0)) 1 (by first | omega | assumption | decide) (by omega) 0 0) ?_
  rintro _ rfl
  all_goals exact rfl
noncomputable def hpF (T : Nat) (stp : List Int64) (lk hd ht : Int32) : Nat → Int64 → Int32 → Int32 → Int32 → Nat → Int64
  | 0, _, _, _, _, _ => 0
  | m + 1, pa, x, y, z, k => (if (nI T).toInt < (nI k).toInt then pa else (hpF T stp lk hd ht m (pa + ((((jabs ((jPart lk hd ht (stp.getD k 0) (0 : Int32)) - x))).toInt64 + ((jabs ((jPart lk hd ht (stp.getD k 0) (1 : Int32)) - y))).toInt64) + ((1000 : Int64) * ((jabs ((jPart lk hd ht (stp.getD k 0) (2 : Int32)) - z))).toInt64))) (jPart lk hd ht (stp.getD k 0) (0 : Int32)) (jPart lk hd ht (stp.getD k 0) (1 : Int32)) (jPart lk hd ht (stp.getD k 0) (2 : Int32)) (k + 1)))
set_option maxRecDepth 100000 in
set_option maxHeartbeats 4000000 in
theorem c_hpL {h : zH} {rr rS T N : Nat} {kn : Int32} {fr : Int64} {stp : List Int64} {ra : Nat} {lk hd ht bl sd sp so : Int32} {rt : Int64} (hR : zat h rr = some (.inr (.inr (.inr (6, [.int kn, .long fr, .int (nI T), .ref (rr + 2), .ref (rr + 4), .ref rS]))))) (hS : zat h rS = some (.inr (.inl (N, stp)))) (hA : zat h ra = some (.inr (.inr (.inr (0, [.int lk, .int hd, .int ht, .int bl, .int sd, .long rt, .ref (ra + 2), .ref (ra + 4), .ref (ra + 6), .int sp, .ref (ra + 8), .ref (ra + 10), .int so, .ref (ra + 12)]))))) (hT : T < N ∧ N ≤ 20000) : ∀ (m : Nat) (pa : Int64) (x : Int32) (y : Int32) (z : Int32) (k : Nat), (k ≤ T + 1) → (T + 1 - k) < m → ∀ (dc ds : Nat), wq 78 38 [(0, .ref rr), (1, .ref ra), (2, .long pa), (4, .int x), (5, .int y), (6, .int z), (7, .int (nI k))] [] h dc ds (fun rr9 => rr9 = (some (Value.long (hpF T stp lk hd ht m pa x y z k)), h, dc, ds)) := by
  intro m
  induction m with
  | zero => intro pa x y z k hk hms dc ds; omega
  | succ m ih =>
    intro pa x y z k hk hms dc ds
    have qnT := nI_toInt (n := T) (by omega)
    have qnk := nI_toInt (n := k) (by omega)
    refine wq_gos (f := 1) (pc2 := 41) (ls2 := [(0, .ref rr), (1, .ref ra), (2, .long pa), (4, .int x), (5, .int y), (6, .int z), (7, .int (nI k))]) (st2 := [.ref rr, .int (nI k)]) (h2 := h) (dc2 := dc) (ds2 := ds) 2 rfl ?_
    refine wq_getf rfl hR rfl rfl ?_
    try have q1x := nI_toInt (n := k) (by omega)
    try have q2x := nI_toInt (n := T) (by omega)
    refine wq_gt2 rfl rfl (fun b3x => ?_) (fun b3x => ?_)
    · refine wq_gos (f := 1) (pc2 := 144) (ls2 := [(0, .ref rr), (1, .ref ra), (2, .long pa), (4, .int x), (5, .int y), (6, .int z), (7, .int (nI k))]) (st2 := [.long pa]) (h2 := h) (dc2 := dc) (ds2 := ds) 1 rfl ?_
      have hx : (hpF T stp lk hd ht (m + 1) pa x y z k) = pa := by show (if _ then _ else _) = _; rw [if_pos b3x]
      refine wq_ret rfl rfl ?_
      show (some (Value.long pa), h, dc, ds) = (some (Value.long (hpF T stp lk hd ht (m + 1) pa x y z k)), h, dc, ds)
      rw [hx]
    · refine wq_gos (f := 1) (pc2 := 49) (ls2 := [(0, .ref rr), (1, .ref ra), (2, .long pa), (4, .int x), (5, .int y), (6, .int z), (7, .int (nI k))]) (st2 := [.ref rr, .ref ra]) (h2 := h) (dc2 := dc) (ds2 := ds) 2 rfl ?_
      refine wq_getf rfl hR rfl rfl ?_
      refine wq_gos (f := 1) (pc2 := 54) (ls2 := [(0, .ref rr), (1, .ref ra), (2, .long pa), (4, .int x), (5, .int y), (6, .int z), (7, .int (nI k))]) (st2 := [.int (nI k), .ref rS, .ref ra]) (h2 := h) (dc2 := dc) (ds2 := ds) 1 rfl ?_
      refine wq_laldn rfl hS (by first | omega | exact zin_t (by omega) (by omega)) (by omega) rfl ?_
      refine wq_gos (f := 1) (pc2 := 56) (ls2 := [(0, .ref rr), (1, .ref ra), (2, .long pa), (4, .int x), (5, .int y), (6, .int z), (7, .int (nI k))]) (st2 := [.int 0, .long (stp.getD k 0), .ref ra]) (h2 := h) (dc2 := dc) (ds2 := ds) 1 rfl ?_
      have q4x : (0 : Int32).toInt = 0 := rfl
      refine wq_inlv (y2 := 7) (as := [.long (stp.getD k 0), .int 0]) rfl rfl rfl hA rfl (wq_mono (c_part hA) ?_)
      rintro _ rfl
      show wq 78 59 [(0, .ref rr), (1, .ref ra), (2, .long pa), (4, .int x), (5, .int y), (6, .int z), (7, .int (nI k))] [.int (jPart lk hd ht (stp.getD k 0) (0 : Int32))] h dc ds _
      refine wq_gos (f := 1) (pc2 := 63) (ls2 := [(8, .int (jPart lk hd ht (stp.getD k 0) (0 : Int32))), (0, .ref rr), (1, .ref ra), (2, .long pa), (4, .int x), (5, .int y), (6, .int z), (7, .int (nI k))]) (st2 := [.ref rr, .ref ra]) (h2 := h) (dc2 := dc) (ds2 := ds) 3 rfl ?_
      refine wq_getf rfl hR rfl rfl ?_
      refine wq_gos (f := 1) (pc2 := 68) (ls2 := [(8, .int (jPart lk hd ht (stp.getD k 0) (0 : Int32))), (0, .ref rr), (1, .ref ra), (2, .long pa), (4, .int x), (5, .int y), (6, .int z), (7, .int (nI k))]) (st2 := [.int (nI k), .ref rS, .ref ra]) (h2 := h) (dc2 := dc) (ds2 := ds) 1 rfl ?_
      refine wq_laldn rfl hS (by first | omega | exact zin_t (by omega) (by omega)) (by omega) rfl ?_
      refine wq_gos (f := 1) (pc2 := 70) (ls2 := [(8, .int (jPart lk hd ht (stp.getD k 0) (0 : Int32))), (0, .ref rr), (1, .ref ra), (2, .long pa), (4, .int x), (5, .int y), (6, .int z), (7, .int (nI k))]) (st2 := [.int 1, .long (stp.getD k 0), .ref ra]) (h2 := h) (dc2 := dc) (ds2 := ds) 1 rfl ?_
      have q6x : (1 : Int32).toInt = 1 := rfl
      refine wq_inlv (y2 := 7) (as := [.long (stp.getD k 0), .int 1]) rfl rfl rfl hA rfl (wq_mono (c_part hA) ?_)
      rintro _ rfl
      show wq 78 73 [(8, .int (jPart lk hd ht (stp.getD k 0) (0 : Int32))), (0, .ref rr), (1, .ref ra), (2, .long pa), (4, .int x), (5, .int y), (6, .int z), (7, .int (nI k))] [.int (jPart lk hd ht (stp.getD k 0) (1 : Int32))] h dc ds _
      refine wq_gos (f := 1) (pc2 := 77) (ls2 := [(9, .int (jPart lk hd ht (stp.getD k 0) (1 : Int32))), (8, .int (jPart lk hd ht (stp.getD k 0) (0 : Int32))), (0, .ref rr), (1, .ref ra), (2, .long pa), (4, .int x), (5, .int y), (6, .int z), (7, .int (nI k))]) (st2 := [.ref rr, .ref ra]) (h2 := h) (dc2 := dc) (ds2 := ds) 3 rfl ?_
      refine wq_getf rfl hR rfl rfl ?_
      refine wq_gos (f := 1) (pc2 := 82) (ls2 := [(9, .int (jPart lk hd ht (stp.getD k 0) (1 : Int32))), (8, .int (jPart lk hd ht (stp.getD k 0) (0 : Int32))), (0, .ref rr), (1, .ref ra), (2, .long pa), (4, .int x), (5, .int y), (6, .int z), (7, .int (nI k))]) (st2 := [.int (nI k), .ref rS, .ref ra]) (h2 := h) (dc2 := dc) (ds2 := ds) 1 rfl ?_
      refine wq_laldn rfl hS (by first | omega | exact zin_t (by omega) (by omega)) (by omega) rfl ?_
      refine wq_gos (f := 1) (pc2 := 84) (ls2 := [(9, .int (jPart lk hd ht (stp.getD k 0) (1 : Int32))), (8, .int (jPart lk hd ht (stp.getD k 0) (0 : Int32))), (0, .ref rr), (1, .ref ra), (2, .long pa), (4, .int x), (5, .int y), (6, .int z), (7, .int (nI k))]) (st2 := [.int 2, .long (stp.getD k 0), .ref ra]) (h2 := h) (dc2 := dc) (ds2 := ds) 1 rfl ?_
      have q8x : (2 : Int32).toInt = 2 := rfl
      refine wq_inlv (y2 := 7) (as := [.long (stp.getD k 0), .int 2]) rfl rfl rfl hA rfl (wq_mono (c_part hA) ?_)
      rintro _ rfl
      show wq 78 87 [(9, .int (jPart lk hd ht (stp.getD k 0) (1 : Int32))), (8, .int (jPart lk hd ht (stp.getD k 0) (0 : Int32))), (0, .ref rr), (1, .ref ra), (2, .long pa), (4, .int x), (5, .int y), (6, .int z), (7, .int (nI k))] [.int (jPart lk hd ht (stp.getD k 0) (2 : Int32))] h dc ds _
      refine wq_gos (f := 1) (pc2 := 95) (ls2 := [(10, .int (jPart lk hd ht (stp.getD k 0) (2 : Int32))), (9, .int (jPart lk hd ht (stp.getD k 0) (1 : Int32))), (8, .int (jPart lk hd ht (stp.getD k 0) (0 : Int32))), (0, .ref rr), (1, .ref ra), (2, .long pa), (4, .int x), (5, .int y), (6, .int z), (7, .int (nI k))]) (st2 := [.int ((jPart lk hd ht (stp.getD k 0) (0 : Int32)) - x), .long pa]) (h2 := h) (dc2 := dc) (ds2 := ds) 5 rfl ?_
      refine wq_inl (y2 := 283) (as := [.int ((jPart lk hd ht (stp.getD k 0) (0 : Int32)) - x)]) rfl rfl rfl (wq_T (c_abs ((jPart lk hd ht (stp.getD k 0) (0 : Int32)) - x) h) ?_)
      show wq 78 98 [(10, .int (jPart lk hd ht (stp.getD k 0) (2 : Int32))), (9, .int (jPart lk hd ht (stp.getD k 0) (1 : Int32))), (8, .int (jPart lk hd ht (stp.getD k 0) (0 : Int32))), (0, .ref rr), (1, .ref ra), (2, .long pa), (4, .int x), (5, .int y), (6, .int z), (7, .int (nI k))] [.int (jabs ((jPart lk hd ht (stp.getD k 0) (0 : Int32)) - x)), .long pa] h dc ds _
      refine wq_gos (f := 1) (pc2 := 104) (ls2 := [(10, .int (jPart lk hd ht (stp.getD k 0) (2 : Int32))), (9, .int (jPart lk hd ht (stp.getD k 0) (1 : Int32))), (8, .int (jPart lk hd ht (stp.getD k 0) (0 : Int32))), (0, .ref rr), (1, .ref ra), (2, .long pa), (4, .int x), (5, .int y), (6, .int z), (7, .int (nI k))]) (st2 := [.int ((jPart lk hd ht (stp.getD k 0) (1 : Int32)) - y), .long ((jabs ((jPart lk hd ht (stp.getD k 0) (0 : Int32)) - x))).toInt64, .long pa]) (h2 := h) (dc2 := dc) (ds2 := ds) 4 rfl ?_
      refine wq_inl (y2 := 283) (as := [.int ((jPart lk hd ht (stp.getD k 0) (1 : Int32)) - y)]) rfl rfl rfl (wq_T (c_abs ((jPart lk hd ht (stp.getD k 0) (1 : Int32)) - y) h) ?_)
      show wq 78 107 [(10, .int (jPart lk hd ht (stp.getD k 0) (2 : Int32))), (9, .int (jPart lk hd ht (stp.getD k 0) (1 : Int32))), (8, .int (jPart lk hd ht (stp.getD k 0) (0 : Int32))), (0, .ref rr), (1, .ref ra), (2, .long pa), (4, .int x), (5, .int y), (6, .int z), (7, .int (nI k))] [.int (jabs ((jPart lk hd ht (stp.getD k 0) (1 : Int32)) - y)), .long ((jabs ((jPart lk hd ht (stp.getD k 0) (0 : Int32)) - x))).toInt64, .long pa] h dc ds _
      refine wq_gos (f := 1) (pc2 := 117) (ls2 := [(10, .int (jPart lk hd ht (stp.getD k 0) (2 : Int32))), (9, .int (jPart lk hd ht (stp.getD k 0) (1 : Int32))), (8, .int (jPart lk hd ht (stp.getD k 0) (0 : Int32))), (0, .ref rr), (1, .ref ra), (2, .long pa), (4, .int x), (5, .int y), (6, .int z), (7, .int (nI k))]) (st2 := [.int ((jPart lk hd ht (stp.getD k 0) (2 : Int32)) - z), .long 1000, .long (((jabs ((jPart lk hd ht (stp.getD k 0) (0 : Int32)) - x))).toInt64 + ((jabs ((jPart lk hd ht (stp.getD k 0) (1 : Int32)) - y))).toInt64), .long pa]) (h2 := h) (dc2 := dc) (ds2 := ds) 6 rfl ?_
      refine wq_inl (y2 := 283) (as := [.int ((jPart lk hd ht (stp.getD k 0) (2 : Int32)) - z)]) rfl rfl rfl (wq_T (c_abs ((jPart lk hd ht (stp.getD k 0) (2 : Int32)) - z) h) ?_)
      show wq 78 120 [(10, .int (jPart lk hd ht (stp.getD k 0) (2 : Int32))), (9, .int (jPart lk hd ht (stp.getD k 0) (1 : Int32))), (8, .int (jPart lk hd ht (stp.getD k 0) (0 : Int32))), (0, .ref rr), (1, .ref ra), (2, .long pa), (4, .int x), (5, .int y), (6, .int z), (7, .int (nI k))] [.int (jabs ((jPart lk hd ht (stp.getD k 0) (2 : Int32)) - z)), .long 1000, .long (((jabs ((jPart lk hd ht (stp.getD k 0) (0 : Int32)) - x))).toInt64 + ((jabs ((jPart lk hd ht (stp.getD k 0) (1 : Int32)) - y))).toInt64), .long pa] h dc ds _
      refine wq_gos (f := 1) (pc2 := 140) (ls2 := [(7, .int ((nI k) + 1)), (6, .int (jPart lk hd ht (stp.getD k 0) (2 : Int32))), (5, .int (jPart lk hd ht (stp.getD k 0) (1 : Int32))), (4, .int (jPart lk hd ht (stp.getD k 0) (0 : Int32))), (2, .long (pa + ((((jabs ((jPart lk hd ht (stp.getD k 0) (0 : Int32)) - x))).toInt64 + ((jabs ((jPart lk hd ht (stp.getD k 0) (1 : Int32)) - y))).toInt64) + ((1000 : Int64) * ((jabs ((jPart lk hd ht (stp.getD k 0) (2 : Int32)) - z))).toInt64)))), (10, .int (jPart lk hd ht (stp.getD k 0) (2 : Int32))), (9, .int (jPart lk hd ht (stp.getD k 0) (1 : Int32))), (8, .int (jPart lk hd ht (stp.getD k 0) (0 : Int32))), (0, .ref rr), (1, .ref ra)]) (st2 := []) (h2 := h) (dc2 := dc) (ds2 := ds) 12 rfl ?_
      rw [nI_1]
      refine wq_gos (f := 1) (pc2 := 38) (ls2 := [(7, .int (nI (k + 1))), (6, .int (jPart lk hd ht (stp.getD k 0) (2 : Int32))), (5, .int (jPart lk hd ht (stp.getD k 0) (1 : Int32))), (4, .int (jPart lk hd ht (stp.getD k 0) (0 : Int32))), (2, .long (pa + ((((jabs ((jPart lk hd ht (stp.getD k 0) (0 : Int32)) - x))).toInt64 + ((jabs ((jPart lk hd ht (stp.getD k 0) (1 : Int32)) - y))).toInt64) + ((1000 : Int64) * ((jabs ((jPart lk hd ht (stp.getD k 0) (2 : Int32)) - z))).toInt64)))), (10, .int (jPart lk hd ht (stp.getD k 0) (2 : Int32))), (9, .int (jPart lk hd ht (stp.getD k 0) (1 : Int32))), (8, .int (jPart lk hd ht (stp.getD k 0) (0 : Int32))), (0, .ref rr), (1, .ref ra)]) (st2 := []) (h2 := h) (dc2 := dc) (ds2 := ds) 1 rfl ?_
      try have q10x := nI_toInt (n := (k + 1)) (by omega)
      have hx : (hpF T stp lk hd ht (m + 1) pa x y z k) = (hpF T stp lk hd ht m (pa + ((((jabs ((jPart lk hd ht (stp.getD k 0) (0 : Int32)) - x))).toInt64 + ((jabs ((jPart lk hd ht (stp.getD k 0) (1 : Int32)) - y))).toInt64) + ((1000 : Int64) * ((jabs ((jPart lk hd ht (stp.getD k 0) (2 : Int32)) - z))).toInt64))) (jPart lk hd ht (stp.getD k 0) (0 : Int32)) (jPart lk hd ht (stp.getD k 0) (1 : Int32)) (jPart lk hd ht (stp.getD k 0) (2 : Int32)) (k + 1)) := by show (if _ then _ else _) = _; rw [if_neg (Int.not_lt.mpr b3x)]
      rw [hx]
      refine wq_ls [(0, .ref rr), (1, .ref ra), (2, .long (pa + ((((jabs ((jPart lk hd ht (stp.getD k 0) (0 : Int32)) - x))).toInt64 + ((jabs ((jPart lk hd ht (stp.getD k 0) (1 : Int32)) - y))).toInt64) + ((1000 : Int64) * ((jabs ((jPart lk hd ht (stp.getD k 0) (2 : Int32)) - z))).toInt64)))), (4, .int (jPart lk hd ht (stp.getD k 0) (0 : Int32))), (5, .int (jPart lk hd ht (stp.getD k 0) (1 : Int32))), (6, .int (jPart lk hd ht (stp.getD k 0) (2 : Int32))), (7, .int (nI (k + 1)))] (show ([0, 1, 2, 4, 5, 6, 7] : List Nat).Nodup by decide) ⟨rfl, rfl, rfl, rfl, rfl, rfl, rfl, trivial⟩ ?_
      exact ih (pa + ((((jabs ((jPart lk hd ht (stp.getD k 0) (0 : Int32)) - x))).toInt64 + ((jabs ((jPart lk hd ht (stp.getD k 0) (1 : Int32)) - y))).toInt64) + ((1000 : Int64) * ((jabs ((jPart lk hd ht (stp.getD k 0) (2 : Int32)) - z))).toInt64))) (jPart lk hd ht (stp.getD k 0) (0 : Int32)) (jPart lk hd ht (stp.getD k 0) (1 : Int32)) (jPart lk hd ht (stp.getD k 0) (2 : Int32)) (k + 1) (by first | omega | assumption | decide) (by omega) dc ds
set_option maxRecDepth 100000 in
set_option maxHeartbeats 4000000 in
theorem c_hp {h : zH} {rr rS T N : Nat} {kn : Int32} {fr : Int64} {stp : List Int64} {ra : Nat} {lk hd ht bl sd sp so : Int32} {rt : Int64} (hR : zat h rr = some (.inr (.inr (.inr (6, [.int kn, .long fr, .int (nI T), .ref (rr + 2), .ref (rr + 4), .ref rS]))))) (hS : zat h rS = some (.inr (.inl (N, stp)))) (hA : zat h ra = some (.inr (.inr (.inr (0, [.int lk, .int hd, .int ht, .int bl, .int sd, .long rt, .ref (ra + 2), .ref (ra + 4), .ref (ra + 6), .int sp, .ref (ra + 8), .ref (ra + 10), .int so, .ref (ra + 12)]))))) (hT : T < N ∧ N ≤ 20000) : wq 78 0 [(0, .ref rr), (1, .ref ra)] [] h 0 0 (fun rr9 => rr9 = (some (.long (hpF T stp lk hd ht (T + 1 - 1 + 1) 0 (jPart lk hd ht fr (0 : Int32)) (jPart lk hd ht fr (1 : Int32)) (jPart lk hd ht fr (2 : Int32)) 1)), h, 0, 0)) := by
  have qnT := nI_toInt (n := T) (by omega)
  refine wq_gos (f := 1) (pc2 := 4) (ls2 := [(2, .long 0), (0, .ref rr), (1, .ref ra)]) (st2 := [.ref rr, .ref ra]) (h2 := h) (dc2 := 0) (ds2 := 0) 4 rfl ?_
  refine wq_getf rfl hR rfl rfl ?_
  refine wq_gos (f := 1) (pc2 := 8) (ls2 := [(2, .long 0), (0, .ref rr), (1, .ref ra)]) (st2 := [.int 0, .long fr, .ref ra]) (h2 := h) (dc2 := 0) (ds2 := 0) 1 rfl ?_
  have q1x : (0 : Int32).toInt = 0 := rfl
  refine wq_inlv (y2 := 7) (as := [.long fr, .int 0]) rfl rfl rfl hA rfl (wq_mono (c_part hA) ?_)
  rintro _ rfl
  show wq 78 11 [(2, .long 0), (0, .ref rr), (1, .ref ra)] [.int (jPart lk hd ht fr (0 : Int32))] h 0 0 _
  refine wq_gos (f := 1) (pc2 := 15) (ls2 := [(4, .int (jPart lk hd ht fr (0 : Int32))), (2, .long 0), (0, .ref rr), (1, .ref ra)]) (st2 := [.ref rr, .ref ra]) (h2 := h) (dc2 := 0) (ds2 := 0) 3 rfl ?_
  refine wq_getf rfl hR rfl rfl ?_
  refine wq_gos (f := 1) (pc2 := 19) (ls2 := [(4, .int (jPart lk hd ht fr (0 : Int32))), (2, .long 0), (0, .ref rr), (1, .ref ra)]) (st2 := [.int 1, .long fr, .ref ra]) (h2 := h) (dc2 := 0) (ds2 := 0) 1 rfl ?_
  have q3x : (1 : Int32).toInt = 1 := rfl
  refine wq_inlv (y2 := 7) (as := [.long fr, .int 1]) rfl rfl rfl hA rfl (wq_mono (c_part hA) ?_)
  rintro _ rfl
  show wq 78 22 [(4, .int (jPart lk hd ht fr (0 : Int32))), (2, .long 0), (0, .ref rr), (1, .ref ra)] [.int (jPart lk hd ht fr (1 : Int32))] h 0 0 _
  refine wq_gos (f := 1) (pc2 := 26) (ls2 := [(5, .int (jPart lk hd ht fr (1 : Int32))), (4, .int (jPart lk hd ht fr (0 : Int32))), (2, .long 0), (0, .ref rr), (1, .ref ra)]) (st2 := [.ref rr, .ref ra]) (h2 := h) (dc2 := 0) (ds2 := 0) 3 rfl ?_
  refine wq_getf rfl hR rfl rfl ?_
  refine wq_gos (f := 1) (pc2 := 30) (ls2 := [(5, .int (jPart lk hd ht fr (1 : Int32))), (4, .int (jPart lk hd ht fr (0 : Int32))), (2, .long 0), (0, .ref rr), (1, .ref ra)]) (st2 := [.int 2, .long fr, .ref ra]) (h2 := h) (dc2 := 0) (ds2 := 0) 1 rfl ?_
  have q5x : (2 : Int32).toInt = 2 := rfl
  refine wq_inlv (y2 := 7) (as := [.long fr, .int 2]) rfl rfl rfl hA rfl (wq_mono (c_part hA) ?_)
  rintro _ rfl
  show wq 78 33 [(5, .int (jPart lk hd ht fr (1 : Int32))), (4, .int (jPart lk hd ht fr (0 : Int32))), (2, .long 0), (0, .ref rr), (1, .ref ra)] [.int (jPart lk hd ht fr (2 : Int32))] h 0 0 _
  refine wq_gos (f := 1) (pc2 := 38) (ls2 := [(7, .int 1), (6, .int (jPart lk hd ht fr (2 : Int32))), (5, .int (jPart lk hd ht fr (1 : Int32))), (4, .int (jPart lk hd ht fr (0 : Int32))), (2, .long 0), (0, .ref rr), (1, .ref ra)]) (st2 := []) (h2 := h) (dc2 := 0) (ds2 := 0) 3 rfl ?_
  refine wq_ls [(0, .ref rr), (1, .ref ra), (2, .long (0 : Int64)), (4, .int (jPart lk hd ht fr (0 : Int32))), (5, .int (jPart lk hd ht fr (1 : Int32))), (6, .int (jPart lk hd ht fr (2 : Int32))), (7, .int (nI 1))] (show ([0, 1, 2, 4, 5, 6, 7] : List Nat).Nodup by decide) ⟨rfl, rfl, rfl, rfl, rfl, rfl, rfl, trivial⟩ ?_
  refine wq_mono (c_hpL hR hS hA (by first | omega | assumption | decide) ((T + 1 - 1) + 1) (0 : Int64) (jPart lk hd ht fr (0 : Int32)) (jPart lk hd ht fr (1 : Int32)) (jPart lk hd ht fr (2 : Int32)) 1 (by first | omega | assumption | decide) (by omega) 0 0) ?_
  rintro _ rfl
  all_goals exact rfl
