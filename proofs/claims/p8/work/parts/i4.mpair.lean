/-! Unlike pairs: the reference. -/
theorem lgx_lt {x y : Int64} (h : (lg_cmp x y).toInt < 0) : x < y := (lg_cmp_lt x y).mp (Int32.lt_iff_toInt_lt.mpr h)
theorem lgx_ge {x y : Int64} (h : 0 ≤ (lg_cmp x y).toInt) : ¬ x < y := fun q => absurd (Int32.lt_iff_toInt_lt.mp ((lg_cmp_lt x y).mpr q)) (Int.not_lt.mpr h)
theorem uO_lt {fo V : List Int64} {v : Int64} {m : Nat} (hO : uO fo V) (hm : m < V.length) (hv : fo.getD m 0 < v) : ∀ i, i < m + 1 → fo.getD i 0 < v := fun i hi => by
  by_cases c : i = m
  · rw [c]; exact hv
  · exact Int64.lt_trans (hO.1 i m (by omega) hm) hv
theorem uO_ge {fo V : List Int64} {v : Int64} {m : Nat} (hO : uO fo V) (hv : ¬ fo.getD m 0 < v) : ∀ i, m ≤ i → i < V.length → ¬ fo.getD i 0 < v := fun i hi hl q => by
  by_cases c : i = m
  · rw [c] at q; exact hv q
  · exact hv (Int64.lt_trans (hO.1 m i (by omega) hl) q)
theorem uO_gt {fo V : List Int64} {v : Int64} {q : Nat} (hO : uO fo V) (h2 : ∀ i, q ≤ i → i < V.length → ¬ fo.getD i 0 < v) (hne : q < V.length → fo.getD q 0 ≠ v) : ∀ i, q ≤ i → i < V.length → v < fo.getD i 0 := fun i hi hl => by
  have hq : v < fo.getD q 0 := by
    have k1 := h2 q (Nat.le_refl q) (by omega)
    have k2 := hne (by omega)
    rw [Int64.lt_iff_toInt_lt] at k1 ⊢
    have k3 : (fo.getD q 0).toInt ≠ v.toInt := fun e => k2 (Int64.toInt_inj.mp e)
    omega
  by_cases c : i = q
  · rw [c]; exact hq
  · exact Int64.lt_trans hq (hO.1 q i (by omega) hl)
theorem uO_nm {fo V : List Int64} {v : Int64} {q : Nat} (hO : uO fo V) (h1 : ∀ i, i < q → fo.getD i 0 < v) (h2 : ∀ i, q ≤ i → i < V.length → v < fo.getD i 0) : v ∉ V := fun hm => by
  obtain ⟨i, hi, e⟩ := (hO.2 v).mp hm
  by_cases c : i < q
  · have k := h1 i c
    rw [e] at k
    exact Int64.lt_irrefl k
  · have k := h2 i (by omega) hi
    rw [e] at k
    exact Int64.lt_irrefl k
theorem lAdd_y {V : List Int64} {v : Int64} (h : v ∈ V) : lAdd V v = V := by unfold lAdd; rw [if_pos h]
theorem lAdd_n {V : List Int64} {v : Int64} (h : v ∉ V) : lAdd V v = v :: V := by unfold lAdd; rw [if_neg h]
set_option maxHeartbeats 4000000 in
theorem m_wpS {h : zH} {fs : List Value} {fo V : List Int64} {v : Int64} {N : Nat} {Q : zR → Prop} (hM : zat h 162 = some (.inr (.inr (.inr (10, fs))))) (hC : mC fs) (hP : zat h 228 = some (.inr (.inl (4096, fo)))) (hO : uO fo V) (hN : N = V.length) (hn : V.length < 4096) (kk : (∀ q, q ≤ V.length → (∀ i, i < q → fo.getD i 0 < v) → (∀ i, q ≤ i → i < V.length → ¬ fo.getD i 0 < v) → wq 275 50 [(0, .ref 162), (1, .int (nI N)), (2, .long v), (4, .int (nI q))] [] h 0 0 Q)) : ∀ (n lo hi : Nat), hi - lo ≤ n → lo ≤ hi → hi ≤ V.length → (∀ i, i < lo → fo.getD i 0 < v) → (∀ i, hi ≤ i → i < V.length → ¬ fo.getD i 0 < v) → wq 275 6 [(0, .ref 162), (1, .int (nI N)), (2, .long v), (4, .int (nI lo)), (5, .int (nI hi))] [] h 0 0 Q := by
  intro n
  induction n with
  | zero =>
    intro lo hi hd hl hv h1 h2
    have q1 := nI_toInt (n := lo) (by omega)
    have q2 := nI_toInt (n := hi) (by omega)
    refine wq_gos (f := 1) (pc2 := 10) (ls2 := [(0, .ref 162), (1, .int (nI N)), (2, .long v), (4, .int (nI lo)), (5, .int (nI hi))]) (st2 := [.int (nI hi), .int (nI lo)]) (h2 := h) (dc2 := 0) (ds2 := 0) 2 rfl ?_
    refine wq_ge2t rfl (by omega) ?_
    refine wq_ls [(0, .ref 162), (1, .int (nI N)), (2, .long v), (4, .int (nI lo))] (show ([0, 1, 2, 4] : List Nat).Nodup by decide) ⟨rfl, rfl, rfl, rfl, trivial⟩ ?_
    exact kk lo (by omega) h1 (fun i c1 c2 => h2 i (by omega) c2)
  | succ n ih =>
    intro lo hi hd hl hv h1 h2
    have q1 := nI_toInt (n := lo) (by omega)
    have q2 := nI_toInt (n := hi) (by omega)
    by_cases c : lo < hi
    · refine wq_gos (f := 1) (pc2 := 10) (ls2 := [(0, .ref 162), (1, .int (nI N)), (2, .long v), (4, .int (nI lo)), (5, .int (nI hi))]) (st2 := [.int (nI hi), .int (nI lo)]) (h2 := h) (dc2 := 0) (ds2 := 0) 2 rfl ?_
      refine wq_ge2f rfl rfl (by omega) ?_
      refine wq_gos (f := 1) (pc2 := 20) (ls2 := [(0, .ref 162), (1, .int (nI N)), (2, .long v), (4, .int (nI lo)), (5, .int (nI hi))]) (st2 := [.int (((nI lo) + (nI hi)) / (2 : Int32))]) (h2 := h) (dc2 := 0) (ds2 := 0) 5 rfl ?_
      rw [nI_half (show lo + hi < 2147483648 by omega)]
      refine wq_gos (f := 1) (pc2 := 23) (ls2 := [(6, .int (nI ((lo + hi) / 2))), (0, .ref 162), (1, .int (nI N)), (2, .long v), (4, .int (nI lo)), (5, .int (nI hi))]) (st2 := [.ref 162]) (h2 := h) (dc2 := 0) (ds2 := 0) 2 rfl ?_
      refine wq_getf rfl hM (hC.2 (51, 228) (by decide)) rfl ?_
      refine wq_gos (f := 1) (pc2 := 28) (ls2 := [(6, .int (nI ((lo + hi) / 2))), (0, .ref 162), (1, .int (nI N)), (2, .long v), (4, .int (nI lo)), (5, .int (nI hi))]) (st2 := [.int (nI ((lo + hi) / 2)), .ref 228]) (h2 := h) (dc2 := 0) (ds2 := 0) 1 rfl ?_
      refine wq_laldn rfl hP (show ((lo + hi) / 2) < 4096 by omega) (by decide) rfl ?_
      refine wq_gos (f := 1) (pc2 := 31) (ls2 := [(6, .int (nI ((lo + hi) / 2))), (0, .ref 162), (1, .int (nI N)), (2, .long v), (4, .int (nI lo)), (5, .int (nI hi))]) (st2 := [.int (lg_cmp (fo.getD ((lo + hi) / 2) 0) v)]) (h2 := h) (dc2 := 0) (ds2 := 0) 2 rfl ?_
      refine wq_ge0 rfl rfl (fun b1x => ?_) (fun b1x => ?_)
      · refine wq_gos (f := 1) (pc2 := 6) (ls2 := [(5, .int (nI ((lo + hi) / 2))), (6, .int (nI ((lo + hi) / 2))), (0, .ref 162), (1, .int (nI N)), (2, .long v), (4, .int (nI lo))]) (st2 := []) (h2 := h) (dc2 := 0) (ds2 := 0) 3 rfl ?_
        refine wq_ls [(0, .ref 162), (1, .int (nI N)), (2, .long v), (4, .int (nI lo)), (5, .int (nI ((lo + hi) / 2)))] (show ([0, 1, 2, 4, 5] : List Nat).Nodup by decide) ⟨rfl, rfl, rfl, rfl, rfl, trivial⟩ ?_
        exact ih lo ((lo + hi) / 2) (by omega) (by omega) (by omega) h1 (uO_ge hO (lgx_ge b1x))
      · refine wq_gos (f := 1) (pc2 := 38) (ls2 := [(6, .int (nI ((lo + hi) / 2))), (0, .ref 162), (1, .int (nI N)), (2, .long v), (4, .int (nI lo)), (5, .int (nI hi))]) (st2 := [.int ((nI ((lo + hi) / 2)) + (1 : Int32))]) (h2 := h) (dc2 := 0) (ds2 := 0) 3 rfl ?_
        rw [nI_1]
        refine wq_gos (f := 1) (pc2 := 6) (ls2 := [(4, .int (nI (((lo + hi) / 2) + 1))), (6, .int (nI ((lo + hi) / 2))), (0, .ref 162), (1, .int (nI N)), (2, .long v), (5, .int (nI hi))]) (st2 := []) (h2 := h) (dc2 := 0) (ds2 := 0) 3 rfl ?_
        refine wq_ls [(0, .ref 162), (1, .int (nI N)), (2, .long v), (4, .int (nI (((lo + hi) / 2) + 1))), (5, .int (nI hi))] (show ([0, 1, 2, 4, 5] : List Nat).Nodup by decide) ⟨rfl, rfl, rfl, rfl, rfl, trivial⟩ ?_
        exact ih (((lo + hi) / 2) + 1) hi (by omega) (by omega) hv (uO_lt hO (by omega) (lgx_lt b1x)) h2
    · refine wq_gos (f := 1) (pc2 := 10) (ls2 := [(0, .ref 162), (1, .int (nI N)), (2, .long v), (4, .int (nI lo)), (5, .int (nI hi))]) (st2 := [.int (nI hi), .int (nI lo)]) (h2 := h) (dc2 := 0) (ds2 := 0) 2 rfl ?_
      refine wq_ge2t rfl (by omega) ?_
      refine wq_ls [(0, .ref 162), (1, .int (nI N)), (2, .long v), (4, .int (nI lo))] (show ([0, 1, 2, 4] : List Nat).Nodup by decide) ⟨rfl, rfl, rfl, rfl, trivial⟩ ?_
      exact kk lo (by omega) h1 (fun i c1 c2 => h2 i (by omega) c2)
set_option maxHeartbeats 4000000 in
theorem m_wpL {fs : List Value} {f0 : List Int64} {v : Int64} {N q : Nat} {Q : zR → Prop} (hC : mC fs) (hn : N < 4096) : ∀ (n k : Nat) (h : zH) (fo : List Int64), k = q + n → k ≤ N → zat h 162 = some (.inr (.inr (.inr (10, fs)))) → zat h 228 = some (.inr (.inl (4096, fo))) → (∀ i, i < k → fo.getD i 0 = f0.getD i 0) → (∀ i, k ≤ i → i < N → fo.getD (i + 1) 0 = f0.getD i 0) → (∀ (h2 : zH) (fo2 : List Int64), wFr [228] h h2 → h2.length = h.length → zat h2 162 = some (.inr (.inr (.inr (10, fs)))) → zat h2 228 = some (.inr (.inl (4096, fo2))) → (∀ i, i < q → fo2.getD i 0 = f0.getD i 0) → (∀ i, q ≤ i → i < N → fo2.getD (i + 1) 0 = f0.getD i 0) → wq 275 102 [(0, .ref 162), (1, .int (nI N)), (2, .long v), (4, .int (nI q))] [] h2 0 0 Q) → wq 275 73 [(0, .ref 162), (1, .int (nI N)), (2, .long v), (4, .int (nI q)), (6, .int (nI k))] [] h 0 0 Q := by
  intro n
  induction n with
  | zero =>
    intro k h fo hk hkN hM hP g1 g2 kk
    have q1 := nI_toInt (n := k) (by omega)
    have q2 := nI_toInt (n := q) (by omega)
    refine wq_gos (f := 1) (pc2 := 77) (ls2 := [(0, .ref 162), (1, .int (nI N)), (2, .long v), (4, .int (nI q)), (6, .int (nI k))]) (st2 := [.int (nI q), .int (nI k)]) (h2 := h) (dc2 := 0) (ds2 := 0) 2 rfl ?_
    refine wq_le2t rfl (by omega) ?_
    refine wq_ls [(0, .ref 162), (1, .int (nI N)), (2, .long v), (4, .int (nI q))] (show ([0, 1, 2, 4] : List Nat).Nodup by decide) ⟨rfl, rfl, rfl, rfl, trivial⟩ ?_
    exact kk h fo (wFr_rf _ _) rfl hM hP (fun i c => g1 i (by omega)) (fun i c1 c2 => g2 i (by omega) c2)
  | succ n ih =>
    intro k h fo hk hkN hM hP g1 g2 kk
    have q1 := nI_toInt (n := k) (by omega)
    have q2 := nI_toInt (n := q) (by omega)
    refine wq_gos (f := 1) (pc2 := 77) (ls2 := [(0, .ref 162), (1, .int (nI N)), (2, .long v), (4, .int (nI q)), (6, .int (nI k))]) (st2 := [.int (nI q), .int (nI k)]) (h2 := h) (dc2 := 0) (ds2 := 0) 2 rfl ?_
    refine wq_le2f rfl rfl (by omega) ?_
    refine wq_gos (f := 1) (pc2 := 81) (ls2 := [(0, .ref 162), (1, .int (nI N)), (2, .long v), (4, .int (nI q)), (6, .int (nI k))]) (st2 := [.ref 162]) (h2 := h) (dc2 := 0) (ds2 := 0) 1 rfl ?_
    refine wq_getf rfl hM (hC.2 (51, 228) (by decide)) rfl ?_
    refine wq_gos (f := 1) (pc2 := 87) (ls2 := [(0, .ref 162), (1, .int (nI N)), (2, .long v), (4, .int (nI q)), (6, .int (nI k))]) (st2 := [.ref 162, .int (nI k), .ref 228]) (h2 := h) (dc2 := 0) (ds2 := 0) 2 rfl ?_
    refine wq_getf rfl hM (hC.2 (51, 228) (by decide)) rfl ?_
    refine wq_gos (f := 1) (pc2 := 94) (ls2 := [(0, .ref 162), (1, .int (nI N)), (2, .long v), (4, .int (nI q)), (6, .int (nI k))]) (st2 := [.int ((nI k) - (1 : Int32)), .ref 228, .int (nI k), .ref 228]) (h2 := h) (dc2 := 0) (ds2 := 0) 3 rfl ?_
    rw [nI_predn (a := k) (by omega)]
    refine wq_laldn rfl hP (show (k - 1) < 4096 by omega) (by decide) rfl ?_
    refine wq_lastn rfl hP (show k < 4096 by omega) (by decide) rfl ?_
    intro h1x e2x f3x l4x
    have e2x : zat h1x 228 = some (.inr (.inl (4096, (zset 0 fo k (fo.getD (k - 1) 0))))) := e2x
    refine wq_gos (f := 1) (pc2 := 73) (ls2 := [(6, .int ((nI k) + (-1))), (0, .ref 162), (1, .int (nI N)), (2, .long v), (4, .int (nI q))]) (st2 := []) (h2 := h1x) (dc2 := 0) (ds2 := 0) 2 rfl ?_
    have e5x := (f3x.2 _ _ (wnc (by decide) wn0) hM)
    rw [nI_dec (show 1 ≤ k by omega)]
    refine wq_ls [(0, .ref 162), (1, .int (nI N)), (2, .long v), (4, .int (nI q)), (6, .int (nI (k - 1)))] (show ([0, 1, 2, 4, 6] : List Nat).Nodup by decide) ⟨rfl, rfl, rfl, rfl, rfl, trivial⟩ ?_
    refine ih (k - 1) h1x _ (by omega) (by omega) e5x e2x ?_ ?_ ?_
    · intro i c
      rw [zset_get, if_neg (by omega)]
      exact g1 i (by omega)
    · intro i c1 c2
      rw [zset_get]
      by_cases c : i + 1 = k
      · rw [if_pos c, g1 (k - 1) (by omega), show k - 1 = i by omega]
      · rw [if_neg c]
        exact g2 i (by omega) c2
    · intro u1 u2 u3 u4 u5 u6 u7 u8
      exact kk u1 u2 (wFr_tr (wFr_sub f3x (by simp)) u3) (by omega) u5 u6 u7 u8
set_option maxHeartbeats 4000000 in
theorem m_wp {h : zH} {fs : List Value} {fo V : List Int64} {N : Nat} (hM : zat h 162 = some (.inr (.inr (.inr (10, fs))))) (hC : mC fs) (hP : zat h 228 = some (.inr (.inl (4096, fo)))) (hO : uO fo V) (hN : N = V.length) (hn : V.length < 4096) (v : Int64) : wq 275 0 [(0, .ref 162), (1, .int (nI N)), (2, .long v)] [] h 0 0 (fun r => ∃ (h2 : zH) (fo2 : List Int64), r = (some (.int (nI (lAdd V v).length)), h2, 0, 0) ∧ wFr [228] h h2 ∧ h2.length = h.length ∧ zat h2 228 = some (.inr (.inl (4096, fo2))) ∧ uO fo2 (lAdd V v)) := by
  have q0 := nI_toInt (n := N) (by omega)
  refine wq_gos (f := 1) (pc2 := 6) (ls2 := [(5, .int (nI N)), (4, .int 0), (0, .ref 162), (1, .int (nI N)), (2, .long v)]) (st2 := []) (h2 := h) (dc2 := 0) (ds2 := 0) 4 rfl ?_
  refine wq_ls [(0, .ref 162), (1, .int (nI N)), (2, .long v), (4, .int (nI 0)), (5, .int (nI N))] (show ([0, 1, 2, 4, 5] : List Nat).Nodup by decide) ⟨rfl, rfl, rfl, rfl, rfl, trivial⟩ ?_
  refine m_wpS hM hC hP hO hN hn (fun q hq h1 h2 => ?_) N 0 N (by omega) (by omega) (by omega) (fun i c => absurd c (Nat.not_lt_zero i)) (fun i c1 c2 => by omega)
  have q1 := nI_toInt (n := q) (by omega)
  refine wq_gos (f := 1) (pc2 := 53) (ls2 := [(0, .ref 162), (1, .int (nI N)), (2, .long v), (4, .int (nI q))]) (st2 := [.int (nI N), .int (nI q)]) (h2 := h) (dc2 := 0) (ds2 := 0) 2 rfl ?_
  refine wq_ge2 rfl rfl (fun b1x => ?_) (fun b1x => ?_)
  · refine wq_gos (f := 1) (pc2 := 73) (ls2 := [(6, .int (nI N)), (0, .ref 162), (1, .int (nI N)), (2, .long v), (4, .int (nI q))]) (st2 := []) (h2 := h) (dc2 := 0) (ds2 := 0) 2 rfl ?_
    have h3 := uO_gt hO h2 (fun c e => by omega)
    refine wq_ls [(0, .ref 162), (1, .int (nI N)), (2, .long v), (4, .int (nI q)), (6, .int (nI N))] (show ([0, 1, 2, 4, 6] : List Nat).Nodup by decide) ⟨rfl, rfl, rfl, rfl, rfl, trivial⟩ ?_
    refine m_wpL hC (by omega) (N - q) N h fo (by omega) (by omega) hM hP (fun _ _ => rfl) (fun i c1 c2 => by omega) ?_
    intro h5 fo5 f5 l5 hM5 hP5 g1 g2
    refine wq_gos (f := 1) (pc2 := 103) (ls2 := [(0, .ref 162), (1, .int (nI N)), (2, .long v), (4, .int (nI q))]) (st2 := [.ref 162]) (h2 := h5) (dc2 := 0) (ds2 := 0) 1 rfl ?_
    refine wq_getf rfl hM5 (hC.2 (51, 228) (by decide)) rfl ?_
    refine wq_gos (f := 1) (pc2 := 109) (ls2 := [(0, .ref 162), (1, .int (nI N)), (2, .long v), (4, .int (nI q))]) (st2 := [.long v, .int (nI q), .ref 228]) (h2 := h5) (dc2 := 0) (ds2 := 0) 2 rfl ?_
    refine wq_lastn rfl hP5 (show q < 4096 by omega) (by decide) rfl ?_
    intro h1y e2y f3y l4y
    have e2y : zat h1y 228 = some (.inr (.inl (4096, (zset 0 fo5 q v)))) := e2y
    refine wq_gos (f := 1) (pc2 := 113) (ls2 := [(0, .ref 162), (1, .int (nI N)), (2, .long v), (4, .int (nI q))]) (st2 := [.int ((nI N) + (1 : Int32))]) (h2 := h1y) (dc2 := 0) (ds2 := 0) 3 rfl ?_
    rw [nI_1]
    have hm := uO_nm hO h1 h3
    refine wq_ret rfl rfl ⟨h1y, _, by rw [lAdd_n hm, hN]; rfl, wFr_tr f5 f3y, by omega, e2y, ?_⟩
    rw [lAdd_n hm]
    exact uO_ins hO hq h1 h3 (fun i c => by rw [zset_get, if_neg (by omega)]; exact g1 i c) (by rw [zset_get, if_pos rfl]) (fun i c1 c2 => by rw [zset_get, if_neg (by omega)]; exact g2 i c1 (by omega))
  · refine wq_gos (f := 1) (pc2 := 57) (ls2 := [(0, .ref 162), (1, .int (nI N)), (2, .long v), (4, .int (nI q))]) (st2 := [.ref 162]) (h2 := h) (dc2 := 0) (ds2 := 0) 1 rfl ?_
    refine wq_getf rfl hM (hC.2 (51, 228) (by decide)) rfl ?_
    refine wq_gos (f := 1) (pc2 := 62) (ls2 := [(0, .ref 162), (1, .int (nI N)), (2, .long v), (4, .int (nI q))]) (st2 := [.int (nI q), .ref 228]) (h2 := h) (dc2 := 0) (ds2 := 0) 1 rfl ?_
    refine wq_laldn rfl hP (show q < 4096 by omega) (by decide) rfl ?_
    refine wq_gos (f := 1) (pc2 := 65) (ls2 := [(0, .ref 162), (1, .int (nI N)), (2, .long v), (4, .int (nI q))]) (st2 := [.int (lg_cmp (fo.getD q 0) v)]) (h2 := h) (dc2 := 0) (ds2 := 0) 2 rfl ?_
    refine wq_ne0 rfl rfl (fun b2x => ?_) (fun b2x => ?_)
    · refine wq_gos (f := 1) (pc2 := 73) (ls2 := [(6, .int (nI N)), (0, .ref 162), (1, .int (nI N)), (2, .long v), (4, .int (nI q))]) (st2 := []) (h2 := h) (dc2 := 0) (ds2 := 0) 2 rfl ?_
      have h3 := uO_gt hO h2 (fun _ e => b2x ((lg_cmp_eq _ _).mpr e))
      refine wq_ls [(0, .ref 162), (1, .int (nI N)), (2, .long v), (4, .int (nI q)), (6, .int (nI N))] (show ([0, 1, 2, 4, 6] : List Nat).Nodup by decide) ⟨rfl, rfl, rfl, rfl, rfl, trivial⟩ ?_
      refine m_wpL hC (by omega) (N - q) N h fo (by omega) (by omega) hM hP (fun _ _ => rfl) (fun i c1 c2 => by omega) ?_
      intro h5 fo5 f5 l5 hM5 hP5 g1 g2
      refine wq_gos (f := 1) (pc2 := 103) (ls2 := [(0, .ref 162), (1, .int (nI N)), (2, .long v), (4, .int (nI q))]) (st2 := [.ref 162]) (h2 := h5) (dc2 := 0) (ds2 := 0) 1 rfl ?_
      refine wq_getf rfl hM5 (hC.2 (51, 228) (by decide)) rfl ?_
      refine wq_gos (f := 1) (pc2 := 109) (ls2 := [(0, .ref 162), (1, .int (nI N)), (2, .long v), (4, .int (nI q))]) (st2 := [.long v, .int (nI q), .ref 228]) (h2 := h5) (dc2 := 0) (ds2 := 0) 2 rfl ?_
      refine wq_lastn rfl hP5 (show q < 4096 by omega) (by decide) rfl ?_
      intro h1y e2y f3y l4y
      have e2y : zat h1y 228 = some (.inr (.inl (4096, (zset 0 fo5 q v)))) := e2y
      refine wq_gos (f := 1) (pc2 := 113) (ls2 := [(0, .ref 162), (1, .int (nI N)), (2, .long v), (4, .int (nI q))]) (st2 := [.int ((nI N) + (1 : Int32))]) (h2 := h1y) (dc2 := 0) (ds2 := 0) 3 rfl ?_
      rw [nI_1]
      have hm := uO_nm hO h1 h3
      refine wq_ret rfl rfl ⟨h1y, _, by rw [lAdd_n hm, hN]; rfl, wFr_tr f5 f3y, by omega, e2y, ?_⟩
      rw [lAdd_n hm]
      exact uO_ins hO hq h1 h3 (fun i c => by rw [zset_get, if_neg (by omega)]; exact g1 i c) (by rw [zset_get, if_pos rfl]) (fun i c1 c2 => by rw [zset_get, if_neg (by omega)]; exact g2 i c1 (by omega))
    · refine wq_gos (f := 1) (pc2 := 69) (ls2 := [(0, .ref 162), (1, .int (nI N)), (2, .long v), (4, .int (nI q))]) (st2 := [.int (nI N)]) (h2 := h) (dc2 := 0) (ds2 := 0) 1 rfl ?_
      have hm : v ∈ V := (hO.2 v).mpr ⟨q, by omega, (lg_cmp_eq _ _).mp b2x⟩
      exact wq_ret rfl rfl ⟨h, fo, by rw [lAdd_y hm, hN], wFr_rf _ _, rfl, hP, by rw [lAdd_y hm]; exact hO⟩
set_option maxHeartbeats 4000000 in
theorem m_rcE {fs : List Value} {kn lo hi : List Int32} {pt a : Int32} {dc ds : Nat} {Q : zR → Prop} (hl : 1 ≤ (kn.getD 0 0).toInt ∧ (kn.getD 0 0).toInt ≤ 99) (hh : 1 ≤ (kn.getD 1 0).toInt ∧ (kn.getD 1 0).toInt ≤ 99) (hg : 1 ≤ (kn.getD 2 0).toInt ∧ (kn.getD 2 0).toInt ≤ 99) (h100 : (hi.getD 3 0).toInt ≤ 100) : ∀ (n : Nat) (h : zH) (fo : List Int64) (e mo le : Int32) (D : List (Int32 × Int32)) (k : Nat) (hM : zat h 162 = some (.inr (.inr (.inr (10, fs))))) (hC : mC fs) (hK : zat h 166 = some (.inl (0, 14, kn))) (hO : zat h 168 = some (.inl (0, 12, lo))) (hG : zat h 170 = some (.inl (0, 12, hi))) (hP : zat h 228 = some (.inr (.inl (4096, fo)))), uO fo (D.map (uM (kn.getD 0 0) (kn.getD 1 0) (kn.getD 2 0) pt)) → (∀ q ∈ D, uR q) → D.length ≤ k → k + n ≤ 4096 → e.toInt + n = (hi.getD 3 0).toInt + 1 → (∀ (h2 : zH) (fo2 : List Int64) (mo2 le2 : Int32), wFr [228] h h2 → h2.length = h.length → zat h2 228 = some (.inr (.inl (4096, fo2))) → uO fo2 ((uIn lo hi pt a n e D).map (uM (kn.getD 0 0) (kn.getD 1 0) (kn.getD 2 0) pt)) → (∀ q ∈ uIn lo hi pt a n e D, uR q) → (uIn lo hi pt a n e D).length ≤ k + n → wq 276 192 [(0, .ref 162), (1, .int pt), (2, .int 2), (3, .int mo2), (4, .int le2), (5, .int (nI (uIn lo hi pt a n e D).length)), (6, .int a)] [] h2 dc ds Q) → wq 276 65 [(0, .ref 162), (1, .int pt), (2, .int 2), (3, .int mo), (4, .int le), (5, .int (nI D.length)), (6, .int a), (7, .int e)] [] h dc ds Q := by
  intro n
  induction n with
  | zero =>
    intro h fo e mo le D k hM hC hK hO hG hP hU hD hDk hk he kk
    refine wq_gos (f := 1) (pc2 := 68) (ls2 := [(0, .ref 162), (1, .int pt), (2, .int 2), (3, .int mo), (4, .int le), (5, .int (nI D.length)), (6, .int a), (7, .int e)]) (st2 := [.ref 162, .int e]) (h2 := h) (dc2 := dc) (ds2 := ds) 2 rfl ?_
    refine wq_getf rfl hM (hC.2 (5, 170) (by decide)) rfl ?_
    refine wq_gos (f := 1) (pc2 := 72) (ls2 := [(0, .ref 162), (1, .int pt), (2, .int 2), (3, .int mo), (4, .int le), (5, .int (nI D.length)), (6, .int a), (7, .int e)]) (st2 := [.int 3, .ref 170, .int e]) (h2 := h) (dc2 := dc) (ds2 := ds) 1 rfl ?_
    refine wq_ialdk (k := 3) rfl hG rfl rfl rfl ?_
    refine wq_gt2t rfl (by omega) ?_
    refine wq_ls [(0, .ref 162), (1, .int pt), (2, .int 2), (3, .int mo), (4, .int le), (5, .int (nI D.length)), (6, .int a)] (show ([0, 1, 2, 3, 4, 5, 6] : List Nat).Nodup by decide) ⟨rfl, rfl, rfl, rfl, rfl, rfl, rfl, trivial⟩ ?_
    exact kk h fo mo le (wFr_rf _ _) rfl hP hU hD hDk
  | succ n ih =>
    intro h fo e mo le D k hM hC hK hO hG hP hU hD hDk hk he kk
    have he2 : (e + 1).toInt = e.toInt + 1 := z_inc (by omega)
    refine wq_gos (f := 1) (pc2 := 68) (ls2 := [(0, .ref 162), (1, .int pt), (2, .int 2), (3, .int mo), (4, .int le), (5, .int (nI D.length)), (6, .int a), (7, .int e)]) (st2 := [.ref 162, .int e]) (h2 := h) (dc2 := dc) (ds2 := ds) 2 rfl ?_
    refine wq_getf rfl hM (hC.2 (5, 170) (by decide)) rfl ?_
    refine wq_gos (f := 1) (pc2 := 72) (ls2 := [(0, .ref 162), (1, .int pt), (2, .int 2), (3, .int mo), (4, .int le), (5, .int (nI D.length)), (6, .int a), (7, .int e)]) (st2 := [.int 3, .ref 170, .int e]) (h2 := h) (dc2 := dc) (ds2 := ds) 1 rfl ?_
    refine wq_ialdk (k := 3) rfl hG rfl rfl rfl ?_
    refine wq_gt2f rfl rfl (by omega) ?_
    refine wq_gos (f := 1) (pc2 := 98) (ls2 := [(8, .int (a + e)), (0, .ref 162), (1, .int pt), (2, .int 2), (3, .int mo), (4, .int le), (5, .int (nI D.length)), (6, .int a), (7, .int e)]) (st2 := [.int ((((pt - (a + e)) + (32 : Int32)) &&& (63 : Int32)) - (32 : Int32)), .int 4, .ref 162]) (h2 := h) (dc2 := dc) (ds2 := ds) 15 rfl ?_
    cases q1x : jallow lo hi (4 : Int32) (jw (pt - (a + e))) with
    | false =>
      refine wq_inlv (y2 := 207) (as := [.int 4, .int (jw (pt - (a + e)))]) rfl rfl rfl hM rfl (wq_T (show zT zg0 zF zP 207 0 [(0, .ref 162), (1, .int 4), (2, .int (jw (pt - (a + e))))] [] h 0 0 (some (.int 0), h, 0, 0) from by have q9 := c_within hM (hC.2 (3, 166) (by decide)) (hC.2 (4, 168) (by decide)) (hC.2 (5, 170) (by decide)) hK hO hG (j := (4 : Int32)) rfl (jw (pt - (a + e))); rw [q1x] at q9; exact q9) ?_)
      show wq 276 101 [(8, .int (a + e)), (0, .ref 162), (1, .int pt), (2, .int 2), (3, .int mo), (4, .int le), (5, .int (nI D.length)), (6, .int a), (7, .int e)] [.int 0] h dc ds _
      refine wq_gos (f := 1) (pc2 := 65) (ls2 := [(7, .int (e + 1)), (8, .int (a + e)), (0, .ref 162), (1, .int pt), (2, .int 2), (3, .int mo), (4, .int le), (5, .int (nI D.length)), (6, .int a)]) (st2 := []) (h2 := h) (dc2 := dc) (ds2 := ds) 4 rfl ?_
      rw [show uIn lo hi pt a (n + 1) e D = uIn lo hi pt a n (e + 1) D from by show uIn lo hi pt a n (e + 1) (uSt lo hi pt a e D) = _; rw [uSt_n D q1x]] at kk
      refine wq_ls [(0, .ref 162), (1, .int pt), (2, .int 2), (3, .int mo), (4, .int le), (5, .int (nI D.length)), (6, .int a), (7, .int (e + 1))] (show ([0, 1, 2, 3, 4, 5, 6, 7] : List Nat).Nodup by decide) ⟨rfl, rfl, rfl, rfl, rfl, rfl, rfl, rfl, trivial⟩ ?_
      refine ih h fo (e + 1) mo le D (k + 1) hM hC hK hO hG hP hU hD (by omega) (by omega) (by omega) ?_
      intro g2 gt m2 l2 gf gl ga gu gr gn
      exact kk g2 gt m2 l2 gf (by omega) ga gu gr (by omega)
    | true =>
      refine wq_inlv (y2 := 207) (as := [.int 4, .int (jw (pt - (a + e)))]) rfl rfl rfl hM rfl (wq_T (show zT zg0 zF zP 207 0 [(0, .ref 162), (1, .int 4), (2, .int (jw (pt - (a + e))))] [] h 0 0 (some (.int 1), h, 0, 0) from by have q9 := c_within hM (hC.2 (3, 166) (by decide)) (hC.2 (4, 168) (by decide)) (hC.2 (5, 170) (by decide)) hK hO hG (j := (4 : Int32)) rfl (jw (pt - (a + e))); rw [q1x] at q9; exact q9) ?_)
      show wq 276 101 [(8, .int (a + e)), (0, .ref 162), (1, .int pt), (2, .int 2), (3, .int mo), (4, .int le), (5, .int (nI D.length)), (6, .int a), (7, .int e)] [.int 1] h dc ds _
      refine wq_gos (f := 1) (pc2 := 113) (ls2 := [(8, .int (a + e)), (0, .ref 162), (1, .int pt), (2, .int 2), (3, .int mo), (4, .int le), (5, .int (nI D.length)), (6, .int a), (7, .int e)]) (st2 := [.int pt, .int (a + e), .int a, .ref 162]) (h2 := h) (dc2 := dc) (ds2 := ds) 5 rfl ?_
      refine wq_inlv (y2 := 197) (as := [.int a, .int (a + e), .int pt]) rfl rfl rfl hM rfl (wq_T (c_outBy hM (hC.2 (3, 166) (by decide)) (hC.2 (4, 168) (by decide)) (hC.2 (5, 170) (by decide)) hK hO hG a (a + e) pt) ?_)
      show wq 276 116 [(8, .int (a + e)), (0, .ref 162), (1, .int pt), (2, .int 2), (3, .int mo), (4, .int le), (5, .int (nI D.length)), (6, .int a), (7, .int e)] [.int (jout (kn.getD 0 0) (kn.getD 1 0) a (a + e) pt)] h dc ds _
      refine wq_gos (f := 1) (pc2 := 121) (ls2 := [(9, .int (jout (kn.getD 0 0) (kn.getD 1 0) a (a + e) pt)), (8, .int (a + e)), (0, .ref 162), (1, .int pt), (2, .int 2), (3, .int mo), (4, .int le), (5, .int (nI D.length)), (6, .int a), (7, .int e)]) (st2 := [.int mo, .int (jout (kn.getD 0 0) (kn.getD 1 0) a (a + e) pt)]) (h2 := h) (dc2 := dc) (ds2 := ds) 3 rfl ?_
      refine wq_le2 rfl rfl (fun b2x => ?_) (fun b2x => ?_)
      · refine wq_gos (f := 1) (pc2 := 136) (ls2 := [(3, .int mo), (9, .int (jout (kn.getD 0 0) (kn.getD 1 0) a (a + e) pt)), (8, .int (a + e)), (0, .ref 162), (1, .int pt), (2, .int 2), (4, .int le), (5, .int (nI D.length)), (6, .int a), (7, .int e)]) (st2 := [.int (-2147483648), .int le]) (h2 := h) (dc2 := dc) (ds2 := ds) 4 rfl ?_
        refine wq_eq2 rfl rfl (fun b3x => ?_) (fun b3x => ?_)
        · refine wq_gos (f := 1) (pc2 := 176) (ls2 := [(4, .int (jout (kn.getD 0 0) (kn.getD 1 0) a (a + e) pt)), (3, .int mo), (9, .int (jout (kn.getD 0 0) (kn.getD 1 0) a (a + e) pt)), (8, .int (a + e)), (0, .ref 162), (1, .int pt), (2, .int 2), (5, .int (nI D.length)), (6, .int a), (7, .int e)]) (st2 := [.int pt, .int (a + e), .int a, .ref 162, .long ((1000000 : Int64) * ((jout (kn.getD 0 0) (kn.getD 1 0) a (a + e) pt)).toInt64), .int (nI D.length), .ref 162]) (h2 := h) (dc2 := dc) (ds2 := ds) 16 rfl ?_
          refine wq_inlv (y2 := 198) (as := [.int a, .int (a + e), .int pt]) rfl rfl rfl hM rfl (wq_T (c_heightBy hM (hC.2 (3, 166) (by decide)) (hC.2 (4, 168) (by decide)) (hC.2 (5, 170) (by decide)) hK hO hG a (a + e) pt) ?_)
          show wq 276 179 [(4, .int (jout (kn.getD 0 0) (kn.getD 1 0) a (a + e) pt)), (3, .int mo), (9, .int (jout (kn.getD 0 0) (kn.getD 1 0) a (a + e) pt)), (8, .int (a + e)), (0, .ref 162), (1, .int pt), (2, .int 2), (5, .int (nI D.length)), (6, .int a), (7, .int e)] [.int (jhgt (kn.getD 2 0) (kn.getD 0 0) (kn.getD 1 0) a (a + e) pt), .long ((1000000 : Int64) * ((jout (kn.getD 0 0) (kn.getD 1 0) a (a + e) pt)).toInt64), .int (nI D.length), .ref 162] h dc ds _
          refine wq_gos (f := 1) (pc2 := 181) (ls2 := [(4, .int (jout (kn.getD 0 0) (kn.getD 1 0) a (a + e) pt)), (3, .int mo), (9, .int (jout (kn.getD 0 0) (kn.getD 1 0) a (a + e) pt)), (8, .int (a + e)), (0, .ref 162), (1, .int pt), (2, .int 2), (5, .int (nI D.length)), (6, .int a), (7, .int e)]) (st2 := [.long (((1000000 : Int64) * ((jout (kn.getD 0 0) (kn.getD 1 0) a (a + e) pt)).toInt64) + ((jhgt (kn.getD 2 0) (kn.getD 0 0) (kn.getD 1 0) a (a + e) pt)).toInt64), .int (nI D.length), .ref 162]) (h2 := h) (dc2 := dc) (ds2 := ds) 2 rfl ?_
          refine wq_inlv (y2 := 275) (as := [.int (nI D.length), .long ((uM (kn.getD 0 0) (kn.getD 1 0) (kn.getD 2 0) pt) (uP a (a + e)))]) rfl rfl rfl hM rfl (wq_mono (m_wp hM hC hP hU (by rw [List.length_map]) (by rw [List.length_map]; omega) ((uM (kn.getD 0 0) (kn.getD 1 0) (kn.getD 2 0) pt) (uP a (a + e)))) ?_)
          rw [lAdd_map hl hh hg hD (uP_R a (a + e)), List.length_map]
          rintro _ ⟨h8, fo8, rfl, f8, l8, t8, u8⟩
          show wq 276 184 [(4, .int (jout (kn.getD 0 0) (kn.getD 1 0) a (a + e) pt)), (3, .int mo), (9, .int (jout (kn.getD 0 0) (kn.getD 1 0) a (a + e) pt)), (8, .int (a + e)), (0, .ref 162), (1, .int pt), (2, .int 2), (5, .int (nI D.length)), (6, .int a), (7, .int e)] [.int (nI (uAdd D (uP a (a + e))).length)] h8 dc ds _
          refine wq_gos (f := 1) (pc2 := 65) (ls2 := [(7, .int (e + 1)), (5, .int (nI (uAdd D (uP a (a + e))).length)), (4, .int (jout (kn.getD 0 0) (kn.getD 1 0) a (a + e) pt)), (3, .int mo), (9, .int (jout (kn.getD 0 0) (kn.getD 1 0) a (a + e) pt)), (8, .int (a + e)), (0, .ref 162), (1, .int pt), (2, .int 2), (6, .int a)]) (st2 := []) (h2 := h8) (dc2 := dc) (ds2 := ds) 3 rfl ?_
          have e4x := (f8.2 _ _ (wnc (by decide) wn0) hM)
          have e5x := (f8.2 _ _ (wnc (by decide) wn0) hK)
          have e6x := (f8.2 _ _ (wnc (by decide) wn0) hO)
          have e7x := (f8.2 _ _ (wnc (by decide) wn0) hG)
          rw [show uIn lo hi pt a (n + 1) e D = uIn lo hi pt a n (e + 1) (uAdd D (uP a (a + e))) from by show uIn lo hi pt a n (e + 1) (uSt lo hi pt a e D) = _; rw [uSt_y D q1x]] at kk
          refine wq_ls [(0, .ref 162), (1, .int pt), (2, .int 2), (3, .int mo), (4, .int (jout (kn.getD 0 0) (kn.getD 1 0) a (a + e) pt)), (5, .int (nI (uAdd D (uP a (a + e))).length)), (6, .int a), (7, .int (e + 1))] (show ([0, 1, 2, 3, 4, 5, 6, 7] : List Nat).Nodup by decide) ⟨rfl, rfl, rfl, rfl, rfl, rfl, rfl, rfl, trivial⟩ ?_
          refine ih h8 fo8 (e + 1) mo (jout (kn.getD 0 0) (kn.getD 1 0) a (a + e) pt) (uAdd D (uP a (a + e))) (k + 1) e4x hC e5x e6x e7x t8 u8 (uAdd_R hD (uP_R a (a + e))) (by have := uAdd_len D (uP a (a + e)); omega) (by omega) (by omega) ?_
          intro g2 gt m2 l2 gf gl ga gu gr gn
          exact kk g2 gt m2 l2 (wFr_tr f8 gf) (by omega) ga gu gr (by omega)
        · refine wq_gos (f := 1) (pc2 := 143) (ls2 := [(3, .int mo), (9, .int (jout (kn.getD 0 0) (kn.getD 1 0) a (a + e) pt)), (8, .int (a + e)), (0, .ref 162), (1, .int pt), (2, .int 2), (4, .int le), (5, .int (nI D.length)), (6, .int a), (7, .int e)]) (st2 := [.int le, .int (jout (kn.getD 0 0) (kn.getD 1 0) a (a + e) pt)]) (h2 := h) (dc2 := dc) (ds2 := ds) 2 rfl ?_
          refine wq_ge2 rfl rfl (fun b8x => ?_) (fun b8x => ?_)
          · refine wq_gos (f := 1) (pc2 := 176) (ls2 := [(4, .int le), (3, .int mo), (9, .int (jout (kn.getD 0 0) (kn.getD 1 0) a (a + e) pt)), (8, .int (a + e)), (0, .ref 162), (1, .int pt), (2, .int 2), (5, .int (nI D.length)), (6, .int a), (7, .int e)]) (st2 := [.int pt, .int (a + e), .int a, .ref 162, .long ((1000000 : Int64) * ((jout (kn.getD 0 0) (kn.getD 1 0) a (a + e) pt)).toInt64), .int (nI D.length), .ref 162]) (h2 := h) (dc2 := dc) (ds2 := ds) 15 rfl ?_
            refine wq_inlv (y2 := 198) (as := [.int a, .int (a + e), .int pt]) rfl rfl rfl hM rfl (wq_T (c_heightBy hM (hC.2 (3, 166) (by decide)) (hC.2 (4, 168) (by decide)) (hC.2 (5, 170) (by decide)) hK hO hG a (a + e) pt) ?_)
            show wq 276 179 [(4, .int le), (3, .int mo), (9, .int (jout (kn.getD 0 0) (kn.getD 1 0) a (a + e) pt)), (8, .int (a + e)), (0, .ref 162), (1, .int pt), (2, .int 2), (5, .int (nI D.length)), (6, .int a), (7, .int e)] [.int (jhgt (kn.getD 2 0) (kn.getD 0 0) (kn.getD 1 0) a (a + e) pt), .long ((1000000 : Int64) * ((jout (kn.getD 0 0) (kn.getD 1 0) a (a + e) pt)).toInt64), .int (nI D.length), .ref 162] h dc ds _
            refine wq_gos (f := 1) (pc2 := 181) (ls2 := [(4, .int le), (3, .int mo), (9, .int (jout (kn.getD 0 0) (kn.getD 1 0) a (a + e) pt)), (8, .int (a + e)), (0, .ref 162), (1, .int pt), (2, .int 2), (5, .int (nI D.length)), (6, .int a), (7, .int e)]) (st2 := [.long (((1000000 : Int64) * ((jout (kn.getD 0 0) (kn.getD 1 0) a (a + e) pt)).toInt64) + ((jhgt (kn.getD 2 0) (kn.getD 0 0) (kn.getD 1 0) a (a + e) pt)).toInt64), .int (nI D.length), .ref 162]) (h2 := h) (dc2 := dc) (ds2 := ds) 2 rfl ?_
            refine wq_inlv (y2 := 275) (as := [.int (nI D.length), .long ((uM (kn.getD 0 0) (kn.getD 1 0) (kn.getD 2 0) pt) (uP a (a + e)))]) rfl rfl rfl hM rfl (wq_mono (m_wp hM hC hP hU (by rw [List.length_map]) (by rw [List.length_map]; omega) ((uM (kn.getD 0 0) (kn.getD 1 0) (kn.getD 2 0) pt) (uP a (a + e)))) ?_)
            rw [lAdd_map hl hh hg hD (uP_R a (a + e)), List.length_map]
            rintro _ ⟨h8, fo8, rfl, f8, l8, t8, u8⟩
            show wq 276 184 [(4, .int le), (3, .int mo), (9, .int (jout (kn.getD 0 0) (kn.getD 1 0) a (a + e) pt)), (8, .int (a + e)), (0, .ref 162), (1, .int pt), (2, .int 2), (5, .int (nI D.length)), (6, .int a), (7, .int e)] [.int (nI (uAdd D (uP a (a + e))).length)] h8 dc ds _
            refine wq_gos (f := 1) (pc2 := 65) (ls2 := [(7, .int (e + 1)), (5, .int (nI (uAdd D (uP a (a + e))).length)), (4, .int le), (3, .int mo), (9, .int (jout (kn.getD 0 0) (kn.getD 1 0) a (a + e) pt)), (8, .int (a + e)), (0, .ref 162), (1, .int pt), (2, .int 2), (6, .int a)]) (st2 := []) (h2 := h8) (dc2 := dc) (ds2 := ds) 3 rfl ?_
            have e9x := (f8.2 _ _ (wnc (by decide) wn0) hM)
            have e10x := (f8.2 _ _ (wnc (by decide) wn0) hK)
            have e11x := (f8.2 _ _ (wnc (by decide) wn0) hO)
            have e12x := (f8.2 _ _ (wnc (by decide) wn0) hG)
            rw [show uIn lo hi pt a (n + 1) e D = uIn lo hi pt a n (e + 1) (uAdd D (uP a (a + e))) from by show uIn lo hi pt a n (e + 1) (uSt lo hi pt a e D) = _; rw [uSt_y D q1x]] at kk
            refine wq_ls [(0, .ref 162), (1, .int pt), (2, .int 2), (3, .int mo), (4, .int le), (5, .int (nI (uAdd D (uP a (a + e))).length)), (6, .int a), (7, .int (e + 1))] (show ([0, 1, 2, 3, 4, 5, 6, 7] : List Nat).Nodup by decide) ⟨rfl, rfl, rfl, rfl, rfl, rfl, rfl, rfl, trivial⟩ ?_
            refine ih h8 fo8 (e + 1) mo le (uAdd D (uP a (a + e))) (k + 1) e9x hC e10x e11x e12x t8 u8 (uAdd_R hD (uP_R a (a + e))) (by have := uAdd_len D (uP a (a + e)); omega) (by omega) (by omega) ?_
            intro g2 gt m2 l2 gf gl ga gu gr gn
            exact kk g2 gt m2 l2 (wFr_tr f8 gf) (by omega) ga gu gr (by omega)
          · refine wq_gos (f := 1) (pc2 := 176) (ls2 := [(4, .int (jout (kn.getD 0 0) (kn.getD 1 0) a (a + e) pt)), (3, .int mo), (9, .int (jout (kn.getD 0 0) (kn.getD 1 0) a (a + e) pt)), (8, .int (a + e)), (0, .ref 162), (1, .int pt), (2, .int 2), (5, .int (nI D.length)), (6, .int a), (7, .int e)]) (st2 := [.int pt, .int (a + e), .int a, .ref 162, .long ((1000000 : Int64) * ((jout (kn.getD 0 0) (kn.getD 1 0) a (a + e) pt)).toInt64), .int (nI D.length), .ref 162]) (h2 := h) (dc2 := dc) (ds2 := ds) 16 rfl ?_
            refine wq_inlv (y2 := 198) (as := [.int a, .int (a + e), .int pt]) rfl rfl rfl hM rfl (wq_T (c_heightBy hM (hC.2 (3, 166) (by decide)) (hC.2 (4, 168) (by decide)) (hC.2 (5, 170) (by decide)) hK hO hG a (a + e) pt) ?_)
            show wq 276 179 [(4, .int (jout (kn.getD 0 0) (kn.getD 1 0) a (a + e) pt)), (3, .int mo), (9, .int (jout (kn.getD 0 0) (kn.getD 1 0) a (a + e) pt)), (8, .int (a + e)), (0, .ref 162), (1, .int pt), (2, .int 2), (5, .int (nI D.length)), (6, .int a), (7, .int e)] [.int (jhgt (kn.getD 2 0) (kn.getD 0 0) (kn.getD 1 0) a (a + e) pt), .long ((1000000 : Int64) * ((jout (kn.getD 0 0) (kn.getD 1 0) a (a + e) pt)).toInt64), .int (nI D.length), .ref 162] h dc ds _
            refine wq_gos (f := 1) (pc2 := 181) (ls2 := [(4, .int (jout (kn.getD 0 0) (kn.getD 1 0) a (a + e) pt)), (3, .int mo), (9, .int (jout (kn.getD 0 0) (kn.getD 1 0) a (a + e) pt)), (8, .int (a + e)), (0, .ref 162), (1, .int pt), (2, .int 2), (5, .int (nI D.length)), (6, .int a), (7, .int e)]) (st2 := [.long (((1000000 : Int64) * ((jout (kn.getD 0 0) (kn.getD 1 0) a (a + e) pt)).toInt64) + ((jhgt (kn.getD 2 0) (kn.getD 0 0) (kn.getD 1 0) a (a + e) pt)).toInt64), .int (nI D.length), .ref 162]) (h2 := h) (dc2 := dc) (ds2 := ds) 2 rfl ?_
            refine wq_inlv (y2 := 275) (as := [.int (nI D.length), .long ((uM (kn.getD 0 0) (kn.getD 1 0) (kn.getD 2 0) pt) (uP a (a + e)))]) rfl rfl rfl hM rfl (wq_mono (m_wp hM hC hP hU (by rw [List.length_map]) (by rw [List.length_map]; omega) ((uM (kn.getD 0 0) (kn.getD 1 0) (kn.getD 2 0) pt) (uP a (a + e)))) ?_)
            rw [lAdd_map hl hh hg hD (uP_R a (a + e)), List.length_map]
            rintro _ ⟨h8, fo8, rfl, f8, l8, t8, u8⟩
            show wq 276 184 [(4, .int (jout (kn.getD 0 0) (kn.getD 1 0) a (a + e) pt)), (3, .int mo), (9, .int (jout (kn.getD 0 0) (kn.getD 1 0) a (a + e) pt)), (8, .int (a + e)), (0, .ref 162), (1, .int pt), (2, .int 2), (5, .int (nI D.length)), (6, .int a), (7, .int e)] [.int (nI (uAdd D (uP a (a + e))).length)] h8 dc ds _
            refine wq_gos (f := 1) (pc2 := 65) (ls2 := [(7, .int (e + 1)), (5, .int (nI (uAdd D (uP a (a + e))).length)), (4, .int (jout (kn.getD 0 0) (kn.getD 1 0) a (a + e) pt)), (3, .int mo), (9, .int (jout (kn.getD 0 0) (kn.getD 1 0) a (a + e) pt)), (8, .int (a + e)), (0, .ref 162), (1, .int pt), (2, .int 2), (6, .int a)]) (st2 := []) (h2 := h8) (dc2 := dc) (ds2 := ds) 3 rfl ?_
            have e13x := (f8.2 _ _ (wnc (by decide) wn0) hM)
            have e14x := (f8.2 _ _ (wnc (by decide) wn0) hK)
            have e15x := (f8.2 _ _ (wnc (by decide) wn0) hO)
            have e16x := (f8.2 _ _ (wnc (by decide) wn0) hG)
            rw [show uIn lo hi pt a (n + 1) e D = uIn lo hi pt a n (e + 1) (uAdd D (uP a (a + e))) from by show uIn lo hi pt a n (e + 1) (uSt lo hi pt a e D) = _; rw [uSt_y D q1x]] at kk
            refine wq_ls [(0, .ref 162), (1, .int pt), (2, .int 2), (3, .int mo), (4, .int (jout (kn.getD 0 0) (kn.getD 1 0) a (a + e) pt)), (5, .int (nI (uAdd D (uP a (a + e))).length)), (6, .int a), (7, .int (e + 1))] (show ([0, 1, 2, 3, 4, 5, 6, 7] : List Nat).Nodup by decide) ⟨rfl, rfl, rfl, rfl, rfl, rfl, rfl, rfl, trivial⟩ ?_
            refine ih h8 fo8 (e + 1) mo (jout (kn.getD 0 0) (kn.getD 1 0) a (a + e) pt) (uAdd D (uP a (a + e))) (k + 1) e13x hC e14x e15x e16x t8 u8 (uAdd_R hD (uP_R a (a + e))) (by have := uAdd_len D (uP a (a + e)); omega) (by omega) (by omega) ?_
            intro g2 gt m2 l2 gf gl ga gu gr gn
            exact kk g2 gt m2 l2 (wFr_tr f8 gf) (by omega) ga gu gr (by omega)
      · refine wq_gos (f := 1) (pc2 := 136) (ls2 := [(3, .int (jout (kn.getD 0 0) (kn.getD 1 0) a (a + e) pt)), (9, .int (jout (kn.getD 0 0) (kn.getD 1 0) a (a + e) pt)), (8, .int (a + e)), (0, .ref 162), (1, .int pt), (2, .int 2), (4, .int le), (5, .int (nI D.length)), (6, .int a), (7, .int e)]) (st2 := [.int (-2147483648), .int le]) (h2 := h) (dc2 := dc) (ds2 := ds) 5 rfl ?_
        refine wq_eq2 rfl rfl (fun b17x => ?_) (fun b17x => ?_)
        · refine wq_gos (f := 1) (pc2 := 176) (ls2 := [(4, .int (jout (kn.getD 0 0) (kn.getD 1 0) a (a + e) pt)), (3, .int (jout (kn.getD 0 0) (kn.getD 1 0) a (a + e) pt)), (9, .int (jout (kn.getD 0 0) (kn.getD 1 0) a (a + e) pt)), (8, .int (a + e)), (0, .ref 162), (1, .int pt), (2, .int 2), (5, .int (nI D.length)), (6, .int a), (7, .int e)]) (st2 := [.int pt, .int (a + e), .int a, .ref 162, .long ((1000000 : Int64) * ((jout (kn.getD 0 0) (kn.getD 1 0) a (a + e) pt)).toInt64), .int (nI D.length), .ref 162]) (h2 := h) (dc2 := dc) (ds2 := ds) 16 rfl ?_
          refine wq_inlv (y2 := 198) (as := [.int a, .int (a + e), .int pt]) rfl rfl rfl hM rfl (wq_T (c_heightBy hM (hC.2 (3, 166) (by decide)) (hC.2 (4, 168) (by decide)) (hC.2 (5, 170) (by decide)) hK hO hG a (a + e) pt) ?_)
          show wq 276 179 [(4, .int (jout (kn.getD 0 0) (kn.getD 1 0) a (a + e) pt)), (3, .int (jout (kn.getD 0 0) (kn.getD 1 0) a (a + e) pt)), (9, .int (jout (kn.getD 0 0) (kn.getD 1 0) a (a + e) pt)), (8, .int (a + e)), (0, .ref 162), (1, .int pt), (2, .int 2), (5, .int (nI D.length)), (6, .int a), (7, .int e)] [.int (jhgt (kn.getD 2 0) (kn.getD 0 0) (kn.getD 1 0) a (a + e) pt), .long ((1000000 : Int64) * ((jout (kn.getD 0 0) (kn.getD 1 0) a (a + e) pt)).toInt64), .int (nI D.length), .ref 162] h dc ds _
          refine wq_gos (f := 1) (pc2 := 181) (ls2 := [(4, .int (jout (kn.getD 0 0) (kn.getD 1 0) a (a + e) pt)), (3, .int (jout (kn.getD 0 0) (kn.getD 1 0) a (a + e) pt)), (9, .int (jout (kn.getD 0 0) (kn.getD 1 0) a (a + e) pt)), (8, .int (a + e)), (0, .ref 162), (1, .int pt), (2, .int 2), (5, .int (nI D.length)), (6, .int a), (7, .int e)]) (st2 := [.long (((1000000 : Int64) * ((jout (kn.getD 0 0) (kn.getD 1 0) a (a + e) pt)).toInt64) + ((jhgt (kn.getD 2 0) (kn.getD 0 0) (kn.getD 1 0) a (a + e) pt)).toInt64), .int (nI D.length), .ref 162]) (h2 := h) (dc2 := dc) (ds2 := ds) 2 rfl ?_
          refine wq_inlv (y2 := 275) (as := [.int (nI D.length), .long ((uM (kn.getD 0 0) (kn.getD 1 0) (kn.getD 2 0) pt) (uP a (a + e)))]) rfl rfl rfl hM rfl (wq_mono (m_wp hM hC hP hU (by rw [List.length_map]) (by rw [List.length_map]; omega) ((uM (kn.getD 0 0) (kn.getD 1 0) (kn.getD 2 0) pt) (uP a (a + e)))) ?_)
          rw [lAdd_map hl hh hg hD (uP_R a (a + e)), List.length_map]
          rintro _ ⟨h8, fo8, rfl, f8, l8, t8, u8⟩
          show wq 276 184 [(4, .int (jout (kn.getD 0 0) (kn.getD 1 0) a (a + e) pt)), (3, .int (jout (kn.getD 0 0) (kn.getD 1 0) a (a + e) pt)), (9, .int (jout (kn.getD 0 0) (kn.getD 1 0) a (a + e) pt)), (8, .int (a + e)), (0, .ref 162), (1, .int pt), (2, .int 2), (5, .int (nI D.length)), (6, .int a), (7, .int e)] [.int (nI (uAdd D (uP a (a + e))).length)] h8 dc ds _
          refine wq_gos (f := 1) (pc2 := 65) (ls2 := [(7, .int (e + 1)), (5, .int (nI (uAdd D (uP a (a + e))).length)), (4, .int (jout (kn.getD 0 0) (kn.getD 1 0) a (a + e) pt)), (3, .int (jout (kn.getD 0 0) (kn.getD 1 0) a (a + e) pt)), (9, .int (jout (kn.getD 0 0) (kn.getD 1 0) a (a + e) pt)), (8, .int (a + e)), (0, .ref 162), (1, .int pt), (2, .int 2), (6, .int a)]) (st2 := []) (h2 := h8) (dc2 := dc) (ds2 := ds) 3 rfl ?_
          have e18x := (f8.2 _ _ (wnc (by decide) wn0) hM)
          have e19x := (f8.2 _ _ (wnc (by decide) wn0) hK)
          have e20x := (f8.2 _ _ (wnc (by decide) wn0) hO)
          have e21x := (f8.2 _ _ (wnc (by decide) wn0) hG)
          rw [show uIn lo hi pt a (n + 1) e D = uIn lo hi pt a n (e + 1) (uAdd D (uP a (a + e))) from by show uIn lo hi pt a n (e + 1) (uSt lo hi pt a e D) = _; rw [uSt_y D q1x]] at kk
          refine wq_ls [(0, .ref 162), (1, .int pt), (2, .int 2), (3, .int (jout (kn.getD 0 0) (kn.getD 1 0) a (a + e) pt)), (4, .int (jout (kn.getD 0 0) (kn.getD 1 0) a (a + e) pt)), (5, .int (nI (uAdd D (uP a (a + e))).length)), (6, .int a), (7, .int (e + 1))] (show ([0, 1, 2, 3, 4, 5, 6, 7] : List Nat).Nodup by decide) ⟨rfl, rfl, rfl, rfl, rfl, rfl, rfl, rfl, trivial⟩ ?_
          refine ih h8 fo8 (e + 1) (jout (kn.getD 0 0) (kn.getD 1 0) a (a + e) pt) (jout (kn.getD 0 0) (kn.getD 1 0) a (a + e) pt) (uAdd D (uP a (a + e))) (k + 1) e18x hC e19x e20x e21x t8 u8 (uAdd_R hD (uP_R a (a + e))) (by have := uAdd_len D (uP a (a + e)); omega) (by omega) (by omega) ?_
          intro g2 gt m2 l2 gf gl ga gu gr gn
          exact kk g2 gt m2 l2 (wFr_tr f8 gf) (by omega) ga gu gr (by omega)
        · refine wq_gos (f := 1) (pc2 := 143) (ls2 := [(3, .int (jout (kn.getD 0 0) (kn.getD 1 0) a (a + e) pt)), (9, .int (jout (kn.getD 0 0) (kn.getD 1 0) a (a + e) pt)), (8, .int (a + e)), (0, .ref 162), (1, .int pt), (2, .int 2), (4, .int le), (5, .int (nI D.length)), (6, .int a), (7, .int e)]) (st2 := [.int le, .int (jout (kn.getD 0 0) (kn.getD 1 0) a (a + e) pt)]) (h2 := h) (dc2 := dc) (ds2 := ds) 2 rfl ?_
          refine wq_ge2 rfl rfl (fun b22x => ?_) (fun b22x => ?_)
          · refine wq_gos (f := 1) (pc2 := 176) (ls2 := [(4, .int le), (3, .int (jout (kn.getD 0 0) (kn.getD 1 0) a (a + e) pt)), (9, .int (jout (kn.getD 0 0) (kn.getD 1 0) a (a + e) pt)), (8, .int (a + e)), (0, .ref 162), (1, .int pt), (2, .int 2), (5, .int (nI D.length)), (6, .int a), (7, .int e)]) (st2 := [.int pt, .int (a + e), .int a, .ref 162, .long ((1000000 : Int64) * ((jout (kn.getD 0 0) (kn.getD 1 0) a (a + e) pt)).toInt64), .int (nI D.length), .ref 162]) (h2 := h) (dc2 := dc) (ds2 := ds) 15 rfl ?_
            refine wq_inlv (y2 := 198) (as := [.int a, .int (a + e), .int pt]) rfl rfl rfl hM rfl (wq_T (c_heightBy hM (hC.2 (3, 166) (by decide)) (hC.2 (4, 168) (by decide)) (hC.2 (5, 170) (by decide)) hK hO hG a (a + e) pt) ?_)
            show wq 276 179 [(4, .int le), (3, .int (jout (kn.getD 0 0) (kn.getD 1 0) a (a + e) pt)), (9, .int (jout (kn.getD 0 0) (kn.getD 1 0) a (a + e) pt)), (8, .int (a + e)), (0, .ref 162), (1, .int pt), (2, .int 2), (5, .int (nI D.length)), (6, .int a), (7, .int e)] [.int (jhgt (kn.getD 2 0) (kn.getD 0 0) (kn.getD 1 0) a (a + e) pt), .long ((1000000 : Int64) * ((jout (kn.getD 0 0) (kn.getD 1 0) a (a + e) pt)).toInt64), .int (nI D.length), .ref 162] h dc ds _
            refine wq_gos (f := 1) (pc2 := 181) (ls2 := [(4, .int le), (3, .int (jout (kn.getD 0 0) (kn.getD 1 0) a (a + e) pt)), (9, .int (jout (kn.getD 0 0) (kn.getD 1 0) a (a + e) pt)), (8, .int (a + e)), (0, .ref 162), (1, .int pt), (2, .int 2), (5, .int (nI D.length)), (6, .int a), (7, .int e)]) (st2 := [.long (((1000000 : Int64) * ((jout (kn.getD 0 0) (kn.getD 1 0) a (a + e) pt)).toInt64) + ((jhgt (kn.getD 2 0) (kn.getD 0 0) (kn.getD 1 0) a (a + e) pt)).toInt64), .int (nI D.length), .ref 162]) (h2 := h) (dc2 := dc) (ds2 := ds) 2 rfl ?_
            refine wq_inlv (y2 := 275) (as := [.int (nI D.length), .long ((uM (kn.getD 0 0) (kn.getD 1 0) (kn.getD 2 0) pt) (uP a (a + e)))]) rfl rfl rfl hM rfl (wq_mono (m_wp hM hC hP hU (by rw [List.length_map]) (by rw [List.length_map]; omega) ((uM (kn.getD 0 0) (kn.getD 1 0) (kn.getD 2 0) pt) (uP a (a + e)))) ?_)
            rw [lAdd_map hl hh hg hD (uP_R a (a + e)), List.length_map]
            rintro _ ⟨h8, fo8, rfl, f8, l8, t8, u8⟩
            show wq 276 184 [(4, .int le), (3, .int (jout (kn.getD 0 0) (kn.getD 1 0) a (a + e) pt)), (9, .int (jout (kn.getD 0 0) (kn.getD 1 0) a (a + e) pt)), (8, .int (a + e)), (0, .ref 162), (1, .int pt), (2, .int 2), (5, .int (nI D.length)), (6, .int a), (7, .int e)] [.int (nI (uAdd D (uP a (a + e))).length)] h8 dc ds _
            refine wq_gos (f := 1) (pc2 := 65) (ls2 := [(7, .int (e + 1)), (5, .int (nI (uAdd D (uP a (a + e))).length)), (4, .int le), (3, .int (jout (kn.getD 0 0) (kn.getD 1 0) a (a + e) pt)), (9, .int (jout (kn.getD 0 0) (kn.getD 1 0) a (a + e) pt)), (8, .int (a + e)), (0, .ref 162), (1, .int pt), (2, .int 2), (6, .int a)]) (st2 := []) (h2 := h8) (dc2 := dc) (ds2 := ds) 3 rfl ?_
            have e23x := (f8.2 _ _ (wnc (by decide) wn0) hM)
            have e24x := (f8.2 _ _ (wnc (by decide) wn0) hK)
            have e25x := (f8.2 _ _ (wnc (by decide) wn0) hO)
            have e26x := (f8.2 _ _ (wnc (by decide) wn0) hG)
            rw [show uIn lo hi pt a (n + 1) e D = uIn lo hi pt a n (e + 1) (uAdd D (uP a (a + e))) from by show uIn lo hi pt a n (e + 1) (uSt lo hi pt a e D) = _; rw [uSt_y D q1x]] at kk
            refine wq_ls [(0, .ref 162), (1, .int pt), (2, .int 2), (3, .int (jout (kn.getD 0 0) (kn.getD 1 0) a (a + e) pt)), (4, .int le), (5, .int (nI (uAdd D (uP a (a + e))).length)), (6, .int a), (7, .int (e + 1))] (show ([0, 1, 2, 3, 4, 5, 6, 7] : List Nat).Nodup by decide) ⟨rfl, rfl, rfl, rfl, rfl, rfl, rfl, rfl, trivial⟩ ?_
            refine ih h8 fo8 (e + 1) (jout (kn.getD 0 0) (kn.getD 1 0) a (a + e) pt) le (uAdd D (uP a (a + e))) (k + 1) e23x hC e24x e25x e26x t8 u8 (uAdd_R hD (uP_R a (a + e))) (by have := uAdd_len D (uP a (a + e)); omega) (by omega) (by omega) ?_
            intro g2 gt m2 l2 gf gl ga gu gr gn
            exact kk g2 gt m2 l2 (wFr_tr f8 gf) (by omega) ga gu gr (by omega)
          · refine wq_gos (f := 1) (pc2 := 176) (ls2 := [(4, .int (jout (kn.getD 0 0) (kn.getD 1 0) a (a + e) pt)), (3, .int (jout (kn.getD 0 0) (kn.getD 1 0) a (a + e) pt)), (9, .int (jout (kn.getD 0 0) (kn.getD 1 0) a (a + e) pt)), (8, .int (a + e)), (0, .ref 162), (1, .int pt), (2, .int 2), (5, .int (nI D.length)), (6, .int a), (7, .int e)]) (st2 := [.int pt, .int (a + e), .int a, .ref 162, .long ((1000000 : Int64) * ((jout (kn.getD 0 0) (kn.getD 1 0) a (a + e) pt)).toInt64), .int (nI D.length), .ref 162]) (h2 := h) (dc2 := dc) (ds2 := ds) 16 rfl ?_
            refine wq_inlv (y2 := 198) (as := [.int a, .int (a + e), .int pt]) rfl rfl rfl hM rfl (wq_T (c_heightBy hM (hC.2 (3, 166) (by decide)) (hC.2 (4, 168) (by decide)) (hC.2 (5, 170) (by decide)) hK hO hG a (a + e) pt) ?_)
            show wq 276 179 [(4, .int (jout (kn.getD 0 0) (kn.getD 1 0) a (a + e) pt)), (3, .int (jout (kn.getD 0 0) (kn.getD 1 0) a (a + e) pt)), (9, .int (jout (kn.getD 0 0) (kn.getD 1 0) a (a + e) pt)), (8, .int (a + e)), (0, .ref 162), (1, .int pt), (2, .int 2), (5, .int (nI D.length)), (6, .int a), (7, .int e)] [.int (jhgt (kn.getD 2 0) (kn.getD 0 0) (kn.getD 1 0) a (a + e) pt), .long ((1000000 : Int64) * ((jout (kn.getD 0 0) (kn.getD 1 0) a (a + e) pt)).toInt64), .int (nI D.length), .ref 162] h dc ds _
            refine wq_gos (f := 1) (pc2 := 181) (ls2 := [(4, .int (jout (kn.getD 0 0) (kn.getD 1 0) a (a + e) pt)), (3, .int (jout (kn.getD 0 0) (kn.getD 1 0) a (a + e) pt)), (9, .int (jout (kn.getD 0 0) (kn.getD 1 0) a (a + e) pt)), (8, .int (a + e)), (0, .ref 162), (1, .int pt), (2, .int 2), (5, .int (nI D.length)), (6, .int a), (7, .int e)]) (st2 := [.long (((1000000 : Int64) * ((jout (kn.getD 0 0) (kn.getD 1 0) a (a + e) pt)).toInt64) + ((jhgt (kn.getD 2 0) (kn.getD 0 0) (kn.getD 1 0) a (a + e) pt)).toInt64), .int (nI D.length), .ref 162]) (h2 := h) (dc2 := dc) (ds2 := ds) 2 rfl ?_
            refine wq_inlv (y2 := 275) (as := [.int (nI D.length), .long ((uM (kn.getD 0 0) (kn.getD 1 0) (kn.getD 2 0) pt) (uP a (a + e)))]) rfl rfl rfl hM rfl (wq_mono (m_wp hM hC hP hU (by rw [List.length_map]) (by rw [List.length_map]; omega) ((uM (kn.getD 0 0) (kn.getD 1 0) (kn.getD 2 0) pt) (uP a (a + e)))) ?_)
            rw [lAdd_map hl hh hg hD (uP_R a (a + e)), List.length_map]
            rintro _ ⟨h8, fo8, rfl, f8, l8, t8, u8⟩
            show wq 276 184 [(4, .int (jout (kn.getD 0 0) (kn.getD 1 0) a (a + e) pt)), (3, .int (jout (kn.getD 0 0) (kn.getD 1 0) a (a + e) pt)), (9, .int (jout (kn.getD 0 0) (kn.getD 1 0) a (a + e) pt)), (8, .int (a + e)), (0, .ref 162), (1, .int pt), (2, .int 2), (5, .int (nI D.length)), (6, .int a), (7, .int e)] [.int (nI (uAdd D (uP a (a + e))).length)] h8 dc ds _
            refine wq_gos (f := 1) (pc2 := 65) (ls2 := [(7, .int (e + 1)), (5, .int (nI (uAdd D (uP a (a + e))).length)), (4, .int (jout (kn.getD 0 0) (kn.getD 1 0) a (a + e) pt)), (3, .int (jout (kn.getD 0 0) (kn.getD 1 0) a (a + e) pt)), (9, .int (jout (kn.getD 0 0) (kn.getD 1 0) a (a + e) pt)), (8, .int (a + e)), (0, .ref 162), (1, .int pt), (2, .int 2), (6, .int a)]) (st2 := []) (h2 := h8) (dc2 := dc) (ds2 := ds) 3 rfl ?_
            have e27x := (f8.2 _ _ (wnc (by decide) wn0) hM)
            have e28x := (f8.2 _ _ (wnc (by decide) wn0) hK)
            have e29x := (f8.2 _ _ (wnc (by decide) wn0) hO)
            have e30x := (f8.2 _ _ (wnc (by decide) wn0) hG)
            rw [show uIn lo hi pt a (n + 1) e D = uIn lo hi pt a n (e + 1) (uAdd D (uP a (a + e))) from by show uIn lo hi pt a n (e + 1) (uSt lo hi pt a e D) = _; rw [uSt_y D q1x]] at kk
            refine wq_ls [(0, .ref 162), (1, .int pt), (2, .int 2), (3, .int (jout (kn.getD 0 0) (kn.getD 1 0) a (a + e) pt)), (4, .int (jout (kn.getD 0 0) (kn.getD 1 0) a (a + e) pt)), (5, .int (nI (uAdd D (uP a (a + e))).length)), (6, .int a), (7, .int (e + 1))] (show ([0, 1, 2, 3, 4, 5, 6, 7] : List Nat).Nodup by decide) ⟨rfl, rfl, rfl, rfl, rfl, rfl, rfl, rfl, trivial⟩ ?_
            refine ih h8 fo8 (e + 1) (jout (kn.getD 0 0) (kn.getD 1 0) a (a + e) pt) (jout (kn.getD 0 0) (kn.getD 1 0) a (a + e) pt) (uAdd D (uP a (a + e))) (k + 1) e27x hC e28x e29x e30x t8 u8 (uAdd_R hD (uP_R a (a + e))) (by have := uAdd_len D (uP a (a + e)); omega) (by omega) (by omega) ?_
            intro g2 gt m2 l2 gf gl ga gu gr gn
            exact kk g2 gt m2 l2 (wFr_tr f8 gf) (by omega) ga gu gr (by omega)
set_option maxHeartbeats 4000000 in
theorem m_rcA {fs : List Value} {kn lo hi : List Int32} {pt : Int32} {dc ds m : Nat} (hl : 1 ≤ (kn.getD 0 0).toInt ∧ (kn.getD 0 0).toInt ≤ 99) (hh : 1 ≤ (kn.getD 1 0).toInt ∧ (kn.getD 1 0).toInt ≤ 99) (hg : 1 ≤ (kn.getD 2 0).toInt ∧ (kn.getD 2 0).toInt ≤ 99) (h100 : (hi.getD 3 0).toInt ≤ 100) (h101 : (hi.getD 2 0).toInt ≤ 100) (hm : (lo.getD 3 0).toInt + m = (hi.getD 3 0).toInt + 1) : ∀ (n : Nat) (h : zH) (fo : List Int64) (a mo le : Int32) (D : List (Int32 × Int32)) (k : Nat) (hM : zat h 162 = some (.inr (.inr (.inr (10, fs))))) (hC : mC fs) (hK : zat h 166 = some (.inl (0, 14, kn))) (hO : zat h 168 = some (.inl (0, 12, lo))) (hG : zat h 170 = some (.inl (0, 12, hi))) (hP : zat h 228 = some (.inr (.inl (4096, fo)))), uO fo (D.map (uM (kn.getD 0 0) (kn.getD 1 0) (kn.getD 2 0) pt)) → (∀ q ∈ D, uR q) → D.length ≤ k → k + n * m ≤ 4096 → a.toInt + n = (hi.getD 2 0).toInt + 1 → wq 276 46 [(0, .ref 162), (1, .int pt), (2, .int 2), (3, .int mo), (4, .int le), (5, .int (nI D.length)), (6, .int a)] [] h dc ds (fun r => ∃ (h2 : zH), r = (some (.int (nI (uOu lo hi pt m n a D).length)), h2, dc, ds)) := by
  intro n
  induction n with
  | zero =>
    intro h fo a mo le D k hM hC hK hO hG hP hU hD hDk hk ha
    refine wq_gos (f := 1) (pc2 := 49) (ls2 := [(0, .ref 162), (1, .int pt), (2, .int 2), (3, .int mo), (4, .int le), (5, .int (nI D.length)), (6, .int a)]) (st2 := [.ref 162, .int a]) (h2 := h) (dc2 := dc) (ds2 := ds) 2 rfl ?_
    refine wq_getf rfl hM (hC.2 (5, 170) (by decide)) rfl ?_
    refine wq_gos (f := 1) (pc2 := 53) (ls2 := [(0, .ref 162), (1, .int pt), (2, .int 2), (3, .int mo), (4, .int le), (5, .int (nI D.length)), (6, .int a)]) (st2 := [.int 2, .ref 170, .int a]) (h2 := h) (dc2 := dc) (ds2 := ds) 1 rfl ?_
    refine wq_ialdk (k := 2) rfl hG rfl rfl rfl ?_
    refine wq_gt2t rfl (by omega) ?_
    refine wq_gos (f := 1) (pc2 := 218) (ls2 := [(0, .ref 162), (1, .int pt), (2, .int 2), (3, .int mo), (4, .int le), (5, .int (nI D.length)), (6, .int a)]) (st2 := [.int (nI D.length)]) (h2 := h) (dc2 := dc) (ds2 := ds) 6 rfl ?_
    exact wq_ret rfl rfl ⟨h, rfl⟩
  | succ n ih =>
    intro h fo a mo le D k hM hC hK hO hG hP hU hD hDk hk ha
    have ha2 : (a + 1).toInt = a.toInt + 1 := z_inc (by omega)
    have hmul : (n + 1) * m = n * m + m := Nat.succ_mul n m
    refine wq_gos (f := 1) (pc2 := 49) (ls2 := [(0, .ref 162), (1, .int pt), (2, .int 2), (3, .int mo), (4, .int le), (5, .int (nI D.length)), (6, .int a)]) (st2 := [.ref 162, .int a]) (h2 := h) (dc2 := dc) (ds2 := ds) 2 rfl ?_
    refine wq_getf rfl hM (hC.2 (5, 170) (by decide)) rfl ?_
    refine wq_gos (f := 1) (pc2 := 53) (ls2 := [(0, .ref 162), (1, .int pt), (2, .int 2), (3, .int mo), (4, .int le), (5, .int (nI D.length)), (6, .int a)]) (st2 := [.int 2, .ref 170, .int a]) (h2 := h) (dc2 := dc) (ds2 := ds) 1 rfl ?_
    refine wq_ialdk (k := 2) rfl hG rfl rfl rfl ?_
    refine wq_gt2f rfl rfl (by omega) ?_
    refine wq_gos (f := 1) (pc2 := 58) (ls2 := [(0, .ref 162), (1, .int pt), (2, .int 2), (3, .int mo), (4, .int le), (5, .int (nI D.length)), (6, .int a)]) (st2 := [.ref 162]) (h2 := h) (dc2 := dc) (ds2 := ds) 1 rfl ?_
    refine wq_getf rfl hM (hC.2 (4, 168) (by decide)) rfl ?_
    refine wq_gos (f := 1) (pc2 := 62) (ls2 := [(0, .ref 162), (1, .int pt), (2, .int 2), (3, .int mo), (4, .int le), (5, .int (nI D.length)), (6, .int a)]) (st2 := [.int 3, .ref 168]) (h2 := h) (dc2 := dc) (ds2 := ds) 1 rfl ?_
    refine wq_ialdk (k := 3) rfl hO rfl rfl rfl ?_
    refine wq_gos (f := 1) (pc2 := 65) (ls2 := [(7, .int (lo.getD 3 0)), (0, .ref 162), (1, .int pt), (2, .int 2), (3, .int mo), (4, .int le), (5, .int (nI D.length)), (6, .int a)]) (st2 := []) (h2 := h) (dc2 := dc) (ds2 := ds) 1 rfl ?_
    refine wq_ls [(0, .ref 162), (1, .int pt), (2, .int 2), (3, .int mo), (4, .int le), (5, .int (nI D.length)), (6, .int a), (7, .int (lo.getD 3 0))] (show ([0, 1, 2, 3, 4, 5, 6, 7] : List Nat).Nodup by decide) ⟨rfl, rfl, rfl, rfl, rfl, rfl, rfl, rfl, trivial⟩ ?_
    refine m_rcE hl hh hg h100 m h fo (lo.getD 3 0) mo le D k hM hC hK hO hG hP hU hD hDk (by omega) hm ?_
    intro h8 fo8 mo8 le8 f8 l8 t8 u8 r8 n8
    refine wq_gos (f := 1) (pc2 := 46) (ls2 := [(6, .int (a + 1)), (0, .ref 162), (1, .int pt), (2, .int 2), (3, .int mo8), (4, .int le8), (5, .int (nI (uIn lo hi pt a m (lo.getD 3 0) D).length))]) (st2 := []) (h2 := h8) (dc2 := dc) (ds2 := ds) 2 rfl ?_
    have e1x := (f8.2 _ _ (wnc (by decide) wn0) hM)
    have e2x := (f8.2 _ _ (wnc (by decide) wn0) hK)
    have e3x := (f8.2 _ _ (wnc (by decide) wn0) hO)
    have e4x := (f8.2 _ _ (wnc (by decide) wn0) hG)
    refine wq_ls [(0, .ref 162), (1, .int pt), (2, .int 2), (3, .int mo8), (4, .int le8), (5, .int (nI (uIn lo hi pt a m (lo.getD 3 0) D).length)), (6, .int (a + 1))] (show ([0, 1, 2, 3, 4, 5, 6] : List Nat).Nodup by decide) ⟨rfl, rfl, rfl, rfl, rfl, rfl, rfl, trivial⟩ ?_
    refine wq_mono (ih h8 fo8 (a + 1) mo8 le8 (uIn lo hi pt a m (lo.getD 3 0) D) (k + m) e1x hC e2x e3x e4x t8 u8 r8 n8 (by omega) (by omega)) ?_
    rintro _ ⟨g2, rfl⟩
    exact ⟨g2, rfl⟩
