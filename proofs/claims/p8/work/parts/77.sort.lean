/-! Counting by rails; Arrays.fill; Solver.sortByRail. -/
noncomputable def jrail (x : Int64) : Int32 := ((((x.toUInt64 >>> ((40 : Int32).toInt64.toUInt64 &&& Int64.toUInt64 63)).toInt64) &&& 255).toInt32) - 64
noncomputable def rN (x : Int64) : Nat := (jrail x).toNatClampNeg
theorem c_num0 (x : Int64) (h : zH) : zT zg0 zF zP 33 0 [(0, .long x), (2, .int 0)] [] h 0 0 (some (.int (jrail x)), h, 0, 0) := ⟨30, rfl⟩
theorem nI_cl {v : Int32} (h : 0 ≤ v.toInt) : v = nI v.toNatClampNeg := by
  have h1 := w_clamp h
  have h2 := Int32.toInt_le v
  have h3 : Int32.maxValue.toInt = 2147483647 := rfl
  exact Int32.toInt_inj.mp (by rw [nI_toInt (by omega)]; omega)
noncomputable def cN (SL : List Int64) (r k : Nat) : Nat := (SL.take k).countP (fun x => rN x == r)
noncomputable def sN (SL : List Int64) (r : Nat) : Nat := SL.countP (fun x => decide (rN x < r))
theorem cN_succ {SL : List Int64} {k : Nat} {x : Int64} (h : SL[k]? = some x) (r : Nat) : cN SL r (k + 1) = cN SL r k + (if rN x = r then 1 else 0) := by
  unfold cN
  rw [List.take_add_one, h, List.countP_append]
  congr 1
  by_cases hr : rN x = r
  · rw [if_pos hr]; simp [hr]
  · rw [if_neg hr]; simp [hr]
theorem cN_zero (SL : List Int64) (r : Nat) : cN SL r 0 = 0 := by simp [cN]
theorem cN_mono {SL : List Int64} (r : Nat) {k m : Nat} (h : k ≤ m) : cN SL r k ≤ cN SL r m := by
  unfold cN
  exact List.Sublist.countP_le (List.take_sublist_take_left h)
theorem sN_zero (SL : List Int64) : sN SL 0 = 0 := by simp [sN]
theorem sN_le (SL : List Int64) (r : Nat) : sN SL r ≤ SL.length := List.countP_le_length
theorem cN_len (SL : List Int64) (r k : Nat) : cN SL r k ≤ SL.length := by
  unfold cN
  have h1 : (SL.take k).countP (fun x => rN x == r) ≤ (SL.take k).length := List.countP_le_length
  have h2 : (SL.take k).length ≤ SL.length := List.length_take_le' _ _
  omega
theorem sN_step : ∀ (SL : List Int64) (r : Nat), sN SL (r + 1) = sN SL r + SL.countP (fun x => rN x == r)
  | [], r => by simp [sN]
  | x :: SL, r => by
    have ih := sN_step SL r
    unfold sN at ih ⊢
    rw [List.countP_cons, List.countP_cons, List.countP_cons, ih]
    by_cases h1 : rN x < r
    · simp [h1, show rN x < r + 1 by omega, show ¬ rN x = r by omega]
      omega
    · by_cases h2 : rN x = r
      · simp [h2]
        omega
      · simp [h1, h2, show ¬ rN x < r + 1 by omega]
theorem sN_succ (SL : List Int64) (r : Nat) : sN SL (r + 1) = sN SL r + cN SL r SL.length := by
  rw [sN_step]
  unfold cN
  rw [List.take_length]
theorem sN_mono (SL : List Int64) {r q : Nat} (h : r ≤ q) : sN SL r ≤ sN SL q := by
  induction q with
  | zero => rw [show r = 0 by omega]; exact Nat.le_refl _
  | succ q ih =>
    by_cases hr : r = q + 1
    · rw [hr]; exact Nat.le_refl _
    · rw [sN_succ]
      have := ih (by omega)
      omega
/-- where the i-th goes -/
noncomputable def pN (SL : List Int64) (i : Nat) (x : Int64) : Nat := sN SL (rN x) + cN SL (rN x) i
theorem pN_lt {SL : List Int64} {i : Nat} {x : Int64} (h : SL[i]? = some x) : pN SL i x < sN SL (rN x + 1) := by
  unfold pN
  rw [sN_succ]
  have h1 := cN_succ h (rN x)
  rw [if_pos rfl] at h1
  have h2 := cN_mono (SL := SL) (rN x) (k := i + 1) (m := SL.length) (List.getElem?_eq_some_iff.mp h).1
  omega
theorem pN_len {SL : List Int64} {i : Nat} {x : Int64} (h : SL[i]? = some x) : pN SL i x < SL.length := Nat.lt_of_lt_of_le (pN_lt h) (sN_le _ _)
theorem pN_ne {SL : List Int64} {i j : Nat} {x y : Int64} (hi : SL[i]? = some x) (hj : SL[j]? = some y) (h : i < j) : pN SL i x ≠ pN SL j y := by
  have h1 := pN_lt hi
  have h2 := pN_lt hj
  rcases Nat.lt_trichotomy (rN x) (rN y) with k | k | k
  · have := sN_mono SL (r := rN x + 1) (q := rN y) k
    unfold pN at *
    omega
  · have h3 := cN_succ hi (rN x)
    rw [if_pos rfl] at h3
    have h4 := cN_mono (SL := SL) (rN x) (k := i + 1) (m := j) h
    unfold pN
    rw [← k]
    omega
  · have := sN_mono SL (r := rN y + 1) (q := rN x) k
    unfold pN at *
    omega
set_option maxHeartbeats 4000000 in
theorem c_fillL {a N : Nat} {v : Int32} (hN : N < 2147483648) : ∀ (m i : Nat) (h : zH) (f : List Int32), i + m = N → zat h a = some (.inl (0, N, f)) → (∀ j, j < i → f.getD j 0 = v) → wq 286 5 [(0, .ref a), (1, .int v), (2, .int (nI i)), (3, .int (nI N))] [] h 0 0 (fun r => ∃ (h2 : zH) (f2 : List Int32), r = (none, h2, 0, 0) ∧ wFr [a] h h2 ∧ h2.length = h.length ∧ zat h2 a = some (.inl (0, N, f2)) ∧ ∀ j, j < N → f2.getD j 0 = v) := by
  intro m
  induction m with
  | zero =>
    intro i h f hm hf hj
    have q1 := nI_toInt (n := i) (by omega)
    have q2 := nI_toInt (n := N) (by omega)
    refine wq_gos (f := 1) (pc2 := 7) (ls2 := [(0, .ref a), (1, .int v), (2, .int (nI i)), (3, .int (nI N))]) (st2 := [.int (nI N), .int (nI i)]) (h2 := h) (dc2 := 0) (ds2 := 0) 2 rfl ?_
    refine wq_ge2t rfl (by omega) ?_
    exact wq_ret rfl rfl ⟨h, f, rfl, wFr_rf _ _, rfl, hf, fun j k => hj j (by omega)⟩
  | succ m ih =>
    intro i h f hm hf hj
    have q1 := nI_toInt (n := i) (by omega)
    have q2 := nI_toInt (n := N) (by omega)
    refine wq_gos (f := 1) (pc2 := 7) (ls2 := [(0, .ref a), (1, .int v), (2, .int (nI i)), (3, .int (nI N))]) (st2 := [.int (nI N), .int (nI i)]) (h2 := h) (dc2 := 0) (ds2 := 0) 2 rfl ?_
    refine wq_ge2f rfl rfl (by omega) ?_
    refine wq_gos (f := 1) (pc2 := 13) (ls2 := [(0, .ref a), (1, .int v), (2, .int (nI i)), (3, .int (nI N))]) (st2 := [.int v, .int (nI i), .ref a]) (h2 := h) (dc2 := 0) (ds2 := 0) 3 rfl ?_
    refine wq_iastn rfl hf (by omega) (by omega) rfl ?_
    intro h1x e2x f3x l4x
    have e2x : zat h1x a = some (.inl (0, N, (zset 0 f i v))) := e2x
    refine wq_gos (f := 1) (pc2 := 17) (ls2 := [(2, .int ((nI i) + 1)), (0, .ref a), (1, .int v), (3, .int (nI N))]) (st2 := []) (h2 := h1x) (dc2 := 0) (ds2 := 0) 1 rfl ?_
    rw [nI_1]
    refine wq_gos (f := 1) (pc2 := 5) (ls2 := [(2, .int (nI (i + 1))), (0, .ref a), (1, .int v), (3, .int (nI N))]) (st2 := []) (h2 := h1x) (dc2 := 0) (ds2 := 0) 1 rfl ?_
    refine wq_ls [(0, .ref a), (1, .int v), (2, .int (nI (i + 1))), (3, .int (nI N))] (show ([0, 1, 2, 3] : List Nat).Nodup by decide) ⟨rfl, rfl, rfl, rfl, trivial⟩ ?_
    refine wq_mono (ih (i + 1) h1x _ (by omega) e2x (fun j k => ?_)) ?_
    · rw [zset_get]
      by_cases he : j = i
      · rw [if_pos he]
      · rw [if_neg he]; exact hj j (by omega)
    · rintro _ ⟨k0, k1, rfl, k2, k3, k4, k5⟩
      exact ⟨k0, k1, rfl, wFr_tr (wFr_sub f3x (by simp)) k2, by omega, k4, k5⟩
theorem c_fill {h : zH} {a N : Nat} {f : List Int32} (hN : N < 2147483648) (hf : zat h a = some (.inl (0, N, f))) (v : Int32) : wq 286 0 [(0, .ref a), (1, .int v)] [] h 0 0 (fun r => ∃ (h2 : zH) (f2 : List Int32), r = (none, h2, 0, 0) ∧ wFr [a] h h2 ∧ h2.length = h.length ∧ zat h2 a = some (.inl (0, N, f2)) ∧ ∀ j, j < N → f2.getD j 0 = v) := by
  refine wq_gos (f := 1) (pc2 := 3) (ls2 := [(2, .int 0), (0, .ref a), (1, .int v)]) (st2 := [.ref a]) (h2 := h) (dc2 := 0) (ds2 := 0) 3 rfl ?_
  refine wq_alen rfl hf rfl ?_
  refine wq_gos (f := 1) (pc2 := 5) (ls2 := [(3, .int (nI N)), (2, .int 0), (0, .ref a), (1, .int v)]) (st2 := []) (h2 := h) (dc2 := 0) (ds2 := 0) 1 rfl ?_
  refine wq_ls [(0, .ref a), (1, .int v), (2, .int (nI 0)), (3, .int (nI N))] (show ([0, 1, 2, 3] : List Nat).Nodup by decide) ⟨rfl, rfl, rfl, rfl, trivial⟩ ?_
  exact c_fillL hN N 0 h f (by omega) hf (fun j k => absurd k (Nat.not_lt_zero j))
theorem wLi_at {SL li : List Int64} (h : wLi SL li) (hR : ∀ x ∈ SL, 0 ≤ (jrail x).toInt ∧ (jrail x).toInt ≤ 99) (hN : SL.length ≤ 600) {k : Nat} (hk : k < SL.length) : ∃ x, SL[k]? = some x ∧ li.getD k 0 = x ∧ jrail x = nI (rN x) ∧ rN x < 100 := by
  have h1 := List.getElem?_eq_getElem hk
  obtain ⟨h2, h3⟩ := hR _ (List.getElem_mem hk)
  refine ⟨SL[k], h1, h k _ (by omega) h1, nI_cl h2, ?_⟩
  have := w_clamp h2
  unfold rN
  omega
set_option maxHeartbeats 4000000 in
theorem c_sortC {ra rh rs rL cap : Nat} {nf kn ks fa : Int32} {li SL : List Int64} {dc ds : Nat} {Q : zR → Prop} (hN : SL.length ≤ 600) (hcap : SL.length ≤ cap ∧ cap ≤ 600) (hLi : wLi SL li) (hR : ∀ x ∈ SL, 0 ≤ (jrail x).toInt ∧ (jrail x).toInt ≤ 99) (hd1 : 60 ≤ rh ∧ rh < 230 ∧ (rL = rh + 2 ∨ 234 ≤ rL)) : ∀ (m k : Nat) (h : zH) (bh : List Int32), k + m = SL.length → zat h 44 = some (.inr (.inr (.inr (7, [.ref ra, .ref rh, .ref 46, .int nf, .ref 48, .ref 50, .ref 52, .ref 54, .ref 56, .ref rs])))) → zat h rh = some (.inr (.inr (.inr (1, [.int kn, .int (nI SL.length), .ref rL, .ref (rh + 4), .int ks, .int fa])))) → zat h rL = some (.inr (.inl (cap, li))) → zat h 56 = some (.inl (0, 101, bh)) → bh.getD 0 0 = 0 → (∀ r, r < 100 → bh.getD (r + 1) 0 = nI (cN SL r k)) → (∀ (h2 : zH) (bh2 : List Int32) (k2 : Int32), wFr [56] h h2 → h2.length = h.length → zat h2 56 = some (.inl (0, 101, bh2)) → bh2.getD 0 0 = 0 → (∀ r, r < 100 → bh2.getD (r + 1) 0 = nI (cN SL r SL.length)) → wq 91 76 [(0, .ref 44), (1, .int (nI SL.length)), (2, .int k2)] [] h2 dc ds Q) → wq 91 41 [(0, .ref 44), (1, .int (nI SL.length)), (2, .int (nI k))] [] h dc ds Q := by
  intro m
  induction m with
  | zero =>
    intro k h bh hkm hS hH hI hB hb0 hbr kk
    have q1 := nI_toInt (n := k) (by omega)
    have q2 := nI_toInt (n := SL.length) (by omega)
    refine wq_gos (f := 1) (pc2 := 43) (ls2 := [(0, .ref 44), (1, .int (nI SL.length)), (2, .int (nI k))]) (st2 := [.int (nI SL.length), .int (nI k)]) (h2 := h) (dc2 := dc) (ds2 := ds) 2 rfl ?_
    refine wq_ge2t rfl (by omega) ?_
    refine wq_ls [(0, .ref 44), (1, .int (nI SL.length)), (2, .int (nI k))] (show ([0, 1, 2] : List Nat).Nodup by decide) ⟨rfl, rfl, rfl, trivial⟩ ?_
    rw [show k = SL.length by omega] at hbr ⊢
    exact kk h bh _ (wFr_rf _ _) rfl hB hb0 hbr
  | succ m ih =>
    intro k h bh hkm hS hH hI hB hb0 hbr kk
    have q1 := nI_toInt (n := k) (by omega)
    have q2 := nI_toInt (n := SL.length) (by omega)
    obtain ⟨x, x1, x2, x3, x4⟩ := wLi_at hLi hR hN (k := k) (by omega)
    have hcl := cN_len SL (rN x) k
    refine wq_gos (f := 1) (pc2 := 43) (ls2 := [(0, .ref 44), (1, .int (nI SL.length)), (2, .int (nI k))]) (st2 := [.int (nI SL.length), .int (nI k)]) (h2 := h) (dc2 := dc) (ds2 := ds) 2 rfl ?_
    refine wq_ge2f rfl rfl (by omega) ?_
    refine wq_gos (f := 1) (pc2 := 47) (ls2 := [(0, .ref 44), (1, .int (nI SL.length)), (2, .int (nI k))]) (st2 := [.ref 44]) (h2 := h) (dc2 := dc) (ds2 := ds) 1 rfl ?_
    refine wq_getf rfl hS rfl rfl ?_
    refine wq_gos (f := 1) (pc2 := 51) (ls2 := [(0, .ref 44), (1, .int (nI SL.length)), (2, .int (nI k))]) (st2 := [.ref 44, .ref 56]) (h2 := h) (dc2 := dc) (ds2 := ds) 1 rfl ?_
    refine wq_getf rfl hS rfl rfl ?_
    refine wq_getf rfl hH rfl rfl ?_
    refine wq_gos (f := 1) (pc2 := 58) (ls2 := [(0, .ref 44), (1, .int (nI SL.length)), (2, .int (nI k))]) (st2 := [.int (nI k), .ref rL, .ref 56]) (h2 := h) (dc2 := dc) (ds2 := ds) 1 rfl ?_
    refine wq_laldn rfl hI (by omega) (by omega) rfl ?_
    refine wq_vl x2 ?_
    refine wq_gos (f := 1) (pc2 := 60) (ls2 := [(0, .ref 44), (1, .int (nI SL.length)), (2, .int (nI k))]) (st2 := [.int 0, .long x, .ref 56]) (h2 := h) (dc2 := dc) (ds2 := ds) 1 rfl ?_
    refine wq_inl (y2 := 33) (as := [.long x, .int 0]) rfl rfl rfl (wq_T (show zT zg0 zF zP 33 0 [(0, .long x), (2, .int 0)] [] h 0 0 (some (.int (nI (rN x))), h, 0, 0) from by rw [← x3]; exact c_num0 x h) ?_)
    show wq 91 63 [(0, .ref 44), (1, .int (nI SL.length)), (2, .int (nI k))] [.int (nI (rN x)), .ref 56] h dc ds _
    refine wq_gos (f := 1) (pc2 := 65) (ls2 := [(0, .ref 44), (1, .int (nI SL.length)), (2, .int (nI k))]) (st2 := [.int ((nI (rN x)) + (1 : Int32)), .ref 56]) (h2 := h) (dc2 := dc) (ds2 := ds) 2 rfl ?_
    rw [nI_1]
    refine wq_gos (f := 1) (pc2 := 66) (ls2 := [(0, .ref 44), (1, .int (nI SL.length)), (2, .int (nI k))]) (st2 := [.int (nI ((rN x) + 1)), .ref 56, .int (nI ((rN x) + 1)), .ref 56]) (h2 := h) (dc2 := dc) (ds2 := ds) 1 rfl ?_
    refine wq_ialdn rfl hB (by omega) (by decide) rfl ?_
    refine wq_vi (hbr _ x4) ?_
    refine wq_gos (f := 1) (pc2 := 69) (ls2 := [(0, .ref 44), (1, .int (nI SL.length)), (2, .int (nI k))]) (st2 := [.int ((nI (cN SL (rN x) k)) + (1 : Int32)), .int (nI ((rN x) + 1)), .ref 56]) (h2 := h) (dc2 := dc) (ds2 := ds) 2 rfl ?_
    rw [nI_1]
    refine wq_iastn rfl hB (by omega) (by decide) rfl ?_
    intro h1x e2x f3x l4x
    have e2x : zat h1x 56 = some (.inl (0, 101, (zset 0 bh ((rN x) + 1) (nI ((cN SL (rN x) k) + 1))))) := e2x
    refine wq_gos (f := 1) (pc2 := 73) (ls2 := [(2, .int ((nI k) + 1)), (0, .ref 44), (1, .int (nI SL.length))]) (st2 := []) (h2 := h1x) (dc2 := dc) (ds2 := ds) 1 rfl ?_
    rw [nI_1]
    refine wq_gos (f := 1) (pc2 := 41) (ls2 := [(2, .int (nI (k + 1))), (0, .ref 44), (1, .int (nI SL.length))]) (st2 := []) (h2 := h1x) (dc2 := dc) (ds2 := ds) 1 rfl ?_
    have e5x := (f3x.2 _ _ (wnc (by decide) wn0) hS)
    have e6x := (f3x.2 _ _ (wnc (by omega) wn0) hH)
    have e7x := (f3x.2 _ _ (wnc (by omega) wn0) hI)
    refine wq_ls [(0, .ref 44), (1, .int (nI SL.length)), (2, .int (nI (k + 1)))] (show ([0, 1, 2] : List Nat).Nodup by decide) ⟨rfl, rfl, rfl, trivial⟩ ?_
    refine ih (k + 1) h1x _ (by omega) e5x e6x e7x e2x ?_ ?_ ?_
    · rw [zset_get, if_neg (by omega)]; exact hb0
    · intro r hr
      rw [zset_get, cN_succ x1 r]
      by_cases he : rN x = r
      · rw [if_pos (by omega), if_pos he, ← he]
      · rw [if_neg (by omega), if_neg he]; exact hbr r hr
    · intro g0 g1 g2 g3 g4 g5 g6 g7
      exact kk g0 g1 g2 (wFr_tr (wFr_sub f3x (by simp)) g3) (by omega) g5 g6 g7
theorem nI_addn (a b : Nat) : nI a + nI b = nI (a + b) := nI_add a b
theorem nI_predn {a : Nat} (h : 1 ≤ a) : nI a - 1 = nI (a - 1) := by
  obtain ⟨b, rfl⟩ : ∃ b, a = b + 1 := ⟨a - 1, by omega⟩
  exact nI_pred b
set_option maxHeartbeats 4000000 in
theorem c_sortD {ra rh rs : Nat} {nf : Int32} {SL : List Int64} {dc ds : Nat} {Q : zR → Prop} (hN : SL.length ≤ 600) : ∀ (m j : Nat) (h : zH) (bh : List Int32), j + m = 101 → 1 ≤ j → zat h 44 = some (.inr (.inr (.inr (7, [.ref ra, .ref rh, .ref 46, .int nf, .ref 48, .ref 50, .ref 52, .ref 54, .ref 56, .ref rs])))) → zat h 56 = some (.inl (0, 101, bh)) → (∀ r, r < j → bh.getD r 0 = nI (sN SL r)) → (∀ r, j ≤ r → r < 101 → bh.getD r 0 = nI (cN SL (r - 1) SL.length)) → (∀ (h2 : zH) (bh2 : List Int32) (k2 : Int32), wFr [56] h h2 → h2.length = h.length → zat h2 56 = some (.inl (0, 101, bh2)) → (∀ r, r < 101 → bh2.getD r 0 = nI (sN SL r)) → wq 91 107 [(0, .ref 44), (1, .int (nI SL.length)), (2, .int k2)] [] h2 dc ds Q) → wq 91 78 [(0, .ref 44), (1, .int (nI SL.length)), (2, .int (nI j))] [] h dc ds Q := by
  intro m
  induction m with
  | zero =>
    intro j h bh hjm hj1 hS hB hb1 hb2 kk
    have q1 := nI_toInt (n := j) (by omega)
    have q3 : (100 : Int32).toInt = 100 := rfl
    refine wq_gos (f := 1) (pc2 := 81) (ls2 := [(0, .ref 44), (1, .int (nI SL.length)), (2, .int (nI j))]) (st2 := [.int 100, .int (nI j)]) (h2 := h) (dc2 := dc) (ds2 := ds) 2 rfl ?_
    refine wq_gt2t rfl (by omega) ?_
    refine wq_ls [(0, .ref 44), (1, .int (nI SL.length)), (2, .int (nI j))] (show ([0, 1, 2] : List Nat).Nodup by decide) ⟨rfl, rfl, rfl, trivial⟩ ?_
    exact kk h bh _ (wFr_rf _ _) rfl hB (fun r hr => hb1 r (by omega))
  | succ m ih =>
    intro j h bh hjm hj1 hS hB hb1 hb2 kk
    have q1 := nI_toInt (n := j) (by omega)
    have q3 : (100 : Int32).toInt = 100 := rfl
    have y1 := hb2 j (Nat.le_refl _) (by omega)
    have y2 := hb1 (j - 1) (by omega)
    refine wq_gos (f := 1) (pc2 := 81) (ls2 := [(0, .ref 44), (1, .int (nI SL.length)), (2, .int (nI j))]) (st2 := [.int 100, .int (nI j)]) (h2 := h) (dc2 := dc) (ds2 := ds) 2 rfl ?_
    refine wq_gt2f rfl rfl (by omega) ?_
    refine wq_gos (f := 1) (pc2 := 85) (ls2 := [(0, .ref 44), (1, .int (nI SL.length)), (2, .int (nI j))]) (st2 := [.ref 44]) (h2 := h) (dc2 := dc) (ds2 := ds) 1 rfl ?_
    refine wq_getf rfl hS rfl rfl ?_
    refine wq_gos (f := 1) (pc2 := 90) (ls2 := [(0, .ref 44), (1, .int (nI SL.length)), (2, .int (nI j))]) (st2 := [.int (nI j), .ref 56, .int (nI j), .ref 56]) (h2 := h) (dc2 := dc) (ds2 := ds) 2 rfl ?_
    refine wq_ialdn rfl hB (by omega) (by decide) rfl ?_
    refine wq_vi y1 ?_
    refine wq_gos (f := 1) (pc2 := 92) (ls2 := [(0, .ref 44), (1, .int (nI SL.length)), (2, .int (nI j))]) (st2 := [.ref 44, .int (nI (cN SL (j - 1) SL.length)), .int (nI j), .ref 56]) (h2 := h) (dc2 := dc) (ds2 := ds) 1 rfl ?_
    refine wq_getf rfl hS rfl rfl ?_
    refine wq_gos (f := 1) (pc2 := 98) (ls2 := [(0, .ref 44), (1, .int (nI SL.length)), (2, .int (nI j))]) (st2 := [.int ((nI j) - (1 : Int32)), .ref 56, .int (nI (cN SL (j - 1) SL.length)), .int (nI j), .ref 56]) (h2 := h) (dc2 := dc) (ds2 := ds) 3 rfl ?_
    rw [nI_predn hj1]
    refine wq_ialdn rfl hB (by omega) (by decide) rfl ?_
    refine wq_vi y2 ?_
    refine wq_gos (f := 1) (pc2 := 100) (ls2 := [(0, .ref 44), (1, .int (nI SL.length)), (2, .int (nI j))]) (st2 := [.int ((nI (cN SL (j - 1) SL.length)) + (nI (sN SL (j - 1)))), .int (nI j), .ref 56]) (h2 := h) (dc2 := dc) (ds2 := ds) 1 rfl ?_
    refine wq_iastn rfl hB (by omega) (by decide) rfl ?_
    intro h1x e2x f3x l4x
    have e2x : zat h1x 56 = some (.inl (0, 101, (zset 0 bh j ((nI (cN SL (j - 1) SL.length)) + (nI (sN SL (j - 1))))))) := e2x
    refine wq_gos (f := 1) (pc2 := 104) (ls2 := [(2, .int ((nI j) + 1)), (0, .ref 44), (1, .int (nI SL.length))]) (st2 := []) (h2 := h1x) (dc2 := dc) (ds2 := ds) 1 rfl ?_
    rw [nI_1]
    refine wq_gos (f := 1) (pc2 := 78) (ls2 := [(2, .int (nI (j + 1))), (0, .ref 44), (1, .int (nI SL.length))]) (st2 := []) (h2 := h1x) (dc2 := dc) (ds2 := ds) 1 rfl ?_
    have e5x := (f3x.2 _ _ (wnc (by decide) wn0) hS)
    refine wq_ls [(0, .ref 44), (1, .int (nI SL.length)), (2, .int (nI (j + 1)))] (show ([0, 1, 2] : List Nat).Nodup by decide) ⟨rfl, rfl, rfl, trivial⟩ ?_
    refine ih (j + 1) h1x _ (by omega) (by omega) e5x e2x ?_ ?_ ?_
    · intro r hr
      rw [zset_get]
      by_cases he : r = j
      · rw [if_pos he, nI_addn, he]
        have hs := sN_succ SL (j - 1)
        rw [show j - 1 + 1 = j by omega] at hs
        rw [hs, Nat.add_comm]
      · rw [if_neg he]; exact hb1 r (by omega)
    · intro r hr1 hr2
      rw [zset_get, if_neg (by omega)]
      exact hb2 r (by omega) hr2
    · intro g0 g1 g2 g3 g4 g5 g6
      exact kk g0 g1 g2 (wFr_tr (wFr_sub f3x (by simp)) g3) (by omega) g5 g6
set_option maxHeartbeats 4000000 in
theorem c_sortE {ra rh rs rL cap sc : Nat} {nf kn ks fa : Int32} {li SL : List Int64} {dc ds : Nat} {Q : zR → Prop} (hN : SL.length ≤ 600) (hcap : SL.length ≤ cap ∧ cap ≤ 600) (hLi : wLi SL li) (hR : ∀ x ∈ SL, 0 ≤ (jrail x).toInt ∧ (jrail x).toInt ≤ 99) (hd1 : 60 ≤ rh ∧ rh < 230 ∧ (rL = rh + 2 ∨ 234 ≤ rL)) (hd2 : (rs = 58 ∨ 234 ≤ rs) ∧ rs ≠ rL) (hsc : SL.length ≤ sc ∧ sc ≤ 600) : ∀ (m k : Nat) (h : zH) (bh : List Int32) (so : List Int64), k + m = SL.length → zat h 44 = some (.inr (.inr (.inr (7, [.ref ra, .ref rh, .ref 46, .int nf, .ref 48, .ref 50, .ref 52, .ref 54, .ref 56, .ref rs])))) → zat h rh = some (.inr (.inr (.inr (1, [.int kn, .int (nI SL.length), .ref rL, .ref (rh + 4), .int ks, .int fa])))) → zat h rL = some (.inr (.inl (cap, li))) → zat h 56 = some (.inl (0, 101, bh)) → zat h rs = some (.inr (.inl (sc, so))) → (∀ r, r < 100 → bh.getD r 0 = nI (sN SL r + cN SL r k)) → (∀ i x, i < k → SL[i]? = some x → so.getD (pN SL i x) 0 = x) → (∀ (h2 : zH) (so2 : List Int64) (bh2 : List Int32) (k2 : Int32), wFr [56, rs] h h2 → h2.length = h.length → zat h2 56 = some (.inl (0, 101, bh2)) → zat h2 rs = some (.inr (.inl (sc, so2))) → (∀ i x, SL[i]? = some x → so2.getD (pN SL i x) 0 = x) → wq 91 164 [(0, .ref 44), (1, .int (nI SL.length)), (2, .int k2)] [] h2 dc ds Q) → wq 91 109 [(0, .ref 44), (1, .int (nI SL.length)), (2, .int (nI k))] [] h dc ds Q := by
  intro m
  induction m with
  | zero =>
    intro k h bh so hkm hS hH hI hB hO hbr hso kk
    have q1 := nI_toInt (n := k) (by omega)
    have q2 := nI_toInt (n := SL.length) (by omega)
    refine wq_gos (f := 1) (pc2 := 111) (ls2 := [(0, .ref 44), (1, .int (nI SL.length)), (2, .int (nI k))]) (st2 := [.int (nI SL.length), .int (nI k)]) (h2 := h) (dc2 := dc) (ds2 := ds) 2 rfl ?_
    refine wq_ge2t rfl (by omega) ?_
    refine wq_ls [(0, .ref 44), (1, .int (nI SL.length)), (2, .int (nI k))] (show ([0, 1, 2] : List Nat).Nodup by decide) ⟨rfl, rfl, rfl, trivial⟩ ?_
    exact kk h so bh _ (wFr_rf _ _) rfl hB hO (fun i x hi => hso i x (by have := (List.getElem?_eq_some_iff.mp hi).1; omega) hi)
  | succ m ih =>
    intro k h bh so hkm hS hH hI hB hO hbr hso kk
    have q1 := nI_toInt (n := k) (by omega)
    have q2 := nI_toInt (n := SL.length) (by omega)
    obtain ⟨x, x1, x2, x3, x4⟩ := wLi_at hLi hR hN (k := k) (by omega)
    have hpl := pN_len x1
    have y1 : bh.getD (rN x) 0 = nI (pN SL k x) := hbr _ x4
    refine wq_gos (f := 1) (pc2 := 111) (ls2 := [(0, .ref 44), (1, .int (nI SL.length)), (2, .int (nI k))]) (st2 := [.int (nI SL.length), .int (nI k)]) (h2 := h) (dc2 := dc) (ds2 := ds) 2 rfl ?_
    refine wq_ge2f rfl rfl (by omega) ?_
    refine wq_gos (f := 1) (pc2 := 115) (ls2 := [(0, .ref 44), (1, .int (nI SL.length)), (2, .int (nI k))]) (st2 := [.ref 44]) (h2 := h) (dc2 := dc) (ds2 := ds) 1 rfl ?_
    refine wq_getf rfl hS rfl rfl ?_
    refine wq_getf rfl hH rfl rfl ?_
    refine wq_gos (f := 1) (pc2 := 122) (ls2 := [(0, .ref 44), (1, .int (nI SL.length)), (2, .int (nI k))]) (st2 := [.int (nI k), .ref rL]) (h2 := h) (dc2 := dc) (ds2 := ds) 1 rfl ?_
    refine wq_laldn rfl hI (by omega) (by omega) rfl ?_
    refine wq_vl x2 ?_
    refine wq_gos (f := 1) (pc2 := 124) (ls2 := [(0, .ref 44), (1, .int (nI SL.length)), (2, .int (nI k))]) (st2 := [.int 0, .long x]) (h2 := h) (dc2 := dc) (ds2 := ds) 1 rfl ?_
    refine wq_inl (y2 := 33) (as := [.long x, .int 0]) rfl rfl rfl (wq_T (show zT zg0 zF zP 33 0 [(0, .long x), (2, .int 0)] [] h 0 0 (some (.int (nI (rN x))), h, 0, 0) from by rw [← x3]; exact c_num0 x h) ?_)
    show wq 91 127 [(0, .ref 44), (1, .int (nI SL.length)), (2, .int (nI k))] [.int (nI (rN x))] h dc ds _
    refine wq_gos (f := 1) (pc2 := 129) (ls2 := [(3, .int (nI (rN x))), (0, .ref 44), (1, .int (nI SL.length)), (2, .int (nI k))]) (st2 := [.ref 44]) (h2 := h) (dc2 := dc) (ds2 := ds) 2 rfl ?_
    refine wq_getf rfl hS rfl rfl ?_
    refine wq_gos (f := 1) (pc2 := 133) (ls2 := [(3, .int (nI (rN x))), (0, .ref 44), (1, .int (nI SL.length)), (2, .int (nI k))]) (st2 := [.ref 44, .ref rs]) (h2 := h) (dc2 := dc) (ds2 := ds) 1 rfl ?_
    refine wq_getf rfl hS rfl rfl ?_
    refine wq_gos (f := 1) (pc2 := 137) (ls2 := [(3, .int (nI (rN x))), (0, .ref 44), (1, .int (nI SL.length)), (2, .int (nI k))]) (st2 := [.int (nI (rN x)), .ref 56, .ref rs]) (h2 := h) (dc2 := dc) (ds2 := ds) 1 rfl ?_
    refine wq_ialdn rfl hB (by omega) (by decide) rfl ?_
    refine wq_vi y1 ?_
    refine wq_gos (f := 1) (pc2 := 139) (ls2 := [(3, .int (nI (rN x))), (0, .ref 44), (1, .int (nI SL.length)), (2, .int (nI k))]) (st2 := [.ref 44, .int (nI (pN SL k x)), .ref rs]) (h2 := h) (dc2 := dc) (ds2 := ds) 1 rfl ?_
    refine wq_getf rfl hS rfl rfl ?_
    refine wq_getf rfl hH rfl rfl ?_
    refine wq_gos (f := 1) (pc2 := 146) (ls2 := [(3, .int (nI (rN x))), (0, .ref 44), (1, .int (nI SL.length)), (2, .int (nI k))]) (st2 := [.int (nI k), .ref rL, .int (nI (pN SL k x)), .ref rs]) (h2 := h) (dc2 := dc) (ds2 := ds) 1 rfl ?_
    refine wq_laldn rfl hI (by omega) (by omega) rfl ?_
    refine wq_vl x2 ?_
    refine wq_lastn rfl hO (by omega) (by omega) rfl ?_
    intro h1x e2x f3x l4x
    have e2x : zat h1x rs = some (.inr (.inl (sc, (zset 0 so (pN SL k x) x)))) := e2x
    refine wq_gos (f := 1) (pc2 := 149) (ls2 := [(3, .int (nI (rN x))), (0, .ref 44), (1, .int (nI SL.length)), (2, .int (nI k))]) (st2 := [.ref 44]) (h2 := h1x) (dc2 := dc) (ds2 := ds) 1 rfl ?_
    have e5x := (f3x.2 _ _ (wnc (by omega) wn0) hS)
    refine wq_getf rfl e5x rfl rfl ?_
    refine wq_gos (f := 1) (pc2 := 154) (ls2 := [(3, .int (nI (rN x))), (0, .ref 44), (1, .int (nI SL.length)), (2, .int (nI k))]) (st2 := [.int (nI (rN x)), .ref 56, .int (nI (rN x)), .ref 56]) (h2 := h1x) (dc2 := dc) (ds2 := ds) 2 rfl ?_
    have e6x := (f3x.2 _ _ (wnc (by omega) wn0) hB)
    refine wq_ialdn rfl e6x (by omega) (by decide) rfl ?_
    refine wq_vi y1 ?_
    refine wq_gos (f := 1) (pc2 := 157) (ls2 := [(3, .int (nI (rN x))), (0, .ref 44), (1, .int (nI SL.length)), (2, .int (nI k))]) (st2 := [.int ((nI (pN SL k x)) + (1 : Int32)), .int (nI (rN x)), .ref 56]) (h2 := h1x) (dc2 := dc) (ds2 := ds) 2 rfl ?_
    rw [nI_1]
    refine wq_iastn rfl e6x (by omega) (by decide) rfl ?_
    intro h7x e8x f9x l10x
    have e8x : zat h7x 56 = some (.inl (0, 101, (zset 0 bh (rN x) (nI ((pN SL k x) + 1))))) := e8x
    refine wq_gos (f := 1) (pc2 := 161) (ls2 := [(2, .int ((nI k) + 1)), (3, .int (nI (rN x))), (0, .ref 44), (1, .int (nI SL.length))]) (st2 := []) (h2 := h7x) (dc2 := dc) (ds2 := ds) 1 rfl ?_
    rw [nI_1]
    refine wq_gos (f := 1) (pc2 := 109) (ls2 := [(2, .int (nI (k + 1))), (3, .int (nI (rN x))), (0, .ref 44), (1, .int (nI SL.length))]) (st2 := []) (h2 := h7x) (dc2 := dc) (ds2 := ds) 1 rfl ?_
    have e11x := (f9x.2 _ _ (wnc (by decide) wn0) e5x)
    have e12x := (f9x.2 _ _ (wnc (by omega) wn0) (f3x.2 _ _ (wnc (by omega) wn0) hH))
    have e13x := (f9x.2 _ _ (wnc (by omega) wn0) (f3x.2 _ _ (wnc (by omega) wn0) hI))
    have e14x := (f9x.2 _ _ (wnc (by omega) wn0) e2x)
    refine wq_ls [(0, .ref 44), (1, .int (nI SL.length)), (2, .int (nI (k + 1)))] (show ([0, 1, 2] : List Nat).Nodup by decide) ⟨rfl, rfl, rfl, trivial⟩ ?_
    refine ih (k + 1) h7x _ _ (by omega) e11x e12x e13x e8x e14x ?_ ?_ ?_
    · intro r hr
      rw [zset_get, cN_succ x1 r]
      by_cases he : rN x = r
      · rw [if_pos he.symm, if_pos he, ← he]; rfl
      · rw [if_neg (fun q => he q.symm), if_neg he]; exact hbr r hr
    · intro i z hi hz
      rw [zset_get]
      by_cases he : i = k
      · have hzx : z = x := by rw [he, x1] at hz; exact (Option.some.inj hz).symm
        rw [he, hzx, if_pos rfl]
      · rw [if_neg (pN_ne hz x1 (by omega))]; exact hso i z (by omega) hz
    · intro g0 g1 g8 g2 g3 g4 g9 g5 g6
      exact kk g0 g1 g8 g2 (wFr_tr (wFr_tr (wFr_sub f3x (by simp)) (wFr_sub f9x (by simp))) g3) (by omega) g9 g5 g6
