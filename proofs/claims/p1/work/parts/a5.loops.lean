/-! clearest and nearest at the first state: the loops. -/
def clC : Nat → Nat → Int32 → Int32 → Int32
  | 0, _, b, _ => b
  | m + 1, k, b, mo => if (jmea (so0.getD k 0)).toInt ≤ mo.toInt then clC m (k + 1) b mo else clC m (k + 1) (nI k) (jmea (so0.getD k 0))
def clM : Nat → Nat → Int32 → Int32 → Int32
  | 0, _, b, _ => b
  | m + 1, k, b, mo => if mo.toInt < (jme (mjo1 (ml0.getD k 0)) (mjo3 (ml0.getD k 0))).toInt then clM m (k + 1) (nI k) (jme (mjo1 (ml0.getD k 0)) (mjo3 (ml0.getD k 0))) else clM m (k + 1) b mo
def neC : Nat → Nat → Int32 → Int32 → Int32
  | 0, _, b, _ => b
  | m + 1, k, b, fe => if fe.toInt ≤ (jtks 70644700037184 (so0.getD k 0)).toInt then neC m (k + 1) b fe else neC m (k + 1) (nI k) (jtks 70644700037184 (so0.getD k 0))
def neM : Nat → Nat → Int32 → Int32 → Int32
  | 0, _, b, _ => b
  | m + 1, k, b, le => if b = (-2) then neM m (k + 1) (nI k) (mtks (mjo0 (ml0.getD k 0)) (mjo1 (ml0.getD k 0)) (mjo2 (ml0.getD k 0)) (mjo3 (ml0.getD k 0)) (mjo4 (ml0.getD k 0)) (mjo5 (ml0.getD k 0))) else if (mtks (mjo0 (ml0.getD k 0)) (mjo1 (ml0.getD k 0)) (mjo2 (ml0.getD k 0)) (mjo3 (ml0.getD k 0)) (mjo4 (ml0.getD k 0)) (mjo5 (ml0.getD k 0))).toInt < le.toInt then neM m (k + 1) (nI k) (mtks (mjo0 (ml0.getD k 0)) (mjo1 (ml0.getD k 0)) (mjo2 (ml0.getD k 0)) (mjo3 (ml0.getD k 0)) (mjo4 (ml0.getD k 0)) (mjo5 (ml0.getD k 0))) else neM m (k + 1) b le
set_option maxRecDepth 1000000 in
theorem cl_eq : clC 264 0 (-2) (-1) = clM 264 0 (-2) (-1) := by decide +kernel
set_option maxRecDepth 1000000 in
theorem ne_eq : neC 264 0 (-2) 1000000 = neM 264 0 (-2) 0 := by decide +kernel
set_option maxHeartbeats 4000000 in
theorem c_clL {h : zH} {rL2 cap2 : Nat} {ks2 fa2 : Int32} {li2 : List Int64} (j9 : zat h 60 = some (.inr (.inr (.inr (1, [.int 1, .int 264, .ref rL2, .ref 64, .int ks2, .int fa2]))))) (j11 : zat h rL2 = some (.inr (.inl (cap2, li2)))) (j15 : ∀ k, k < 264 → li2.getD k 0 = so0.getD k 0) (hcp : 264 ≤ cap2 ∧ cap2 ≤ 600) : ∀ (m k : Nat) (b mo : Int32) (dc ds : Nat), k + m = 264 → wq 118 23 [(0, .ref 0), (1, .ref 60), (2, .int b), (3, .int mo), (4, .int (nI k))] [] h dc ds (fun r => r = (some (.int (clC m k b mo)), h, dc, ds)) := by
  intro m
  induction m with
  | zero =>
    intro k b mo dc ds hkm
    have q1 := nI_toInt (n := k) (by omega)
    have e264 : (264 : Int32).toInt = 264 := rfl
    refine wq_gos (f := 1) (pc2 := 26) (ls2 := [(0, .ref 0), (1, .ref 60), (2, .int b), (3, .int mo), (4, .int (nI k))]) (st2 := [.ref 60, .int (nI k)]) (h2 := h) (dc2 := dc) (ds2 := ds) 2 rfl ?_
    refine wq_getf rfl j9 rfl rfl ?_
    refine wq_ge2t rfl (by omega) ?_
    refine wq_gos (f := 1) (pc2 := 63) (ls2 := [(0, .ref 0), (1, .ref 60), (2, .int b), (3, .int mo), (4, .int (nI k))]) (st2 := [.int b]) (h2 := h) (dc2 := dc) (ds2 := ds) 1 rfl ?_
    exact wq_ret rfl rfl rfl
  | succ m ih =>
    intro k b mo dc ds hkm
    have q1 := nI_toInt (n := k) (by omega)
    have e264 : (264 : Int32).toInt = 264 := rfl
    refine wq_gos (f := 1) (pc2 := 26) (ls2 := [(0, .ref 0), (1, .ref 60), (2, .int b), (3, .int mo), (4, .int (nI k))]) (st2 := [.ref 60, .int (nI k)]) (h2 := h) (dc2 := dc) (ds2 := ds) 2 rfl ?_
    refine wq_getf rfl j9 rfl rfl ?_
    refine wq_ge2f rfl rfl (by omega) ?_
    refine wq_gos (f := 1) (pc2 := 33) (ls2 := [(0, .ref 0), (1, .ref 60), (2, .int b), (3, .int mo), (4, .int (nI k))]) (st2 := [.ref 60]) (h2 := h) (dc2 := dc) (ds2 := ds) 1 rfl ?_
    refine wq_getf rfl j9 rfl rfl ?_
    refine wq_gos (f := 1) (pc2 := 38) (ls2 := [(0, .ref 0), (1, .ref 60), (2, .int b), (3, .int mo), (4, .int (nI k))]) (st2 := [.int (nI k), .ref rL2]) (h2 := h) (dc2 := dc) (ds2 := ds) 1 rfl ?_
    refine wq_laldn rfl j11 (by omega) (by omega) rfl ?_
    refine wq_vl (j15 k (by omega)) ?_
    refine wq_inl (y2 := 37) (as := [.long (so0.getD k 0)]) rfl rfl rfl (wq_T (c_mea (so0.getD k 0) h) ?_)
    show wq 118 42 [(0, .ref 0), (1, .ref 60), (2, .int b), (3, .int mo), (4, .int (nI k))] [.int (jmea (so0.getD k 0))] h dc ds _
    refine wq_gos (f := 1) (pc2 := 47) (ls2 := [(5, .int (jmea (so0.getD k 0))), (0, .ref 0), (1, .ref 60), (2, .int b), (3, .int mo), (4, .int (nI k))]) (st2 := [.int mo, .int (jmea (so0.getD k 0))]) (h2 := h) (dc2 := dc) (ds2 := ds) 3 rfl ?_
    refine wq_le2 rfl rfl (fun b1x => ?_) (fun b1x => ?_)
    · refine wq_gos (f := 1) (pc2 := 59) (ls2 := [(4, .int ((nI k) + 1)), (5, .int (jmea (so0.getD k 0))), (0, .ref 0), (1, .ref 60), (2, .int b), (3, .int mo)]) (st2 := []) (h2 := h) (dc2 := dc) (ds2 := ds) 1 rfl ?_
      rw [nI_1]
      refine wq_gos (f := 1) (pc2 := 23) (ls2 := [(4, .int (nI (k + 1))), (5, .int (jmea (so0.getD k 0))), (0, .ref 0), (1, .ref 60), (2, .int b), (3, .int mo)]) (st2 := []) (h2 := h) (dc2 := dc) (ds2 := ds) 1 rfl ?_
      have hx : clC (m + 1) k b mo = clC m (k + 1) b mo := by show (if _ then _ else _) = _; rw [if_pos b1x]
      rw [hx]
      refine wq_ls [(0, .ref 0), (1, .ref 60), (2, .int b), (3, .int mo), (4, .int (nI (k + 1)))] (show ([0, 1, 2, 3, 4] : List Nat).Nodup by decide) ⟨rfl, rfl, rfl, rfl, rfl, trivial⟩ ?_
      exact ih (k + 1) b mo dc ds (by omega)
    · refine wq_gos (f := 1) (pc2 := 59) (ls2 := [(4, .int ((nI k) + 1)), (2, .int (nI k)), (3, .int (jmea (so0.getD k 0))), (5, .int (jmea (so0.getD k 0))), (0, .ref 0), (1, .ref 60)]) (st2 := []) (h2 := h) (dc2 := dc) (ds2 := ds) 5 rfl ?_
      rw [nI_1]
      refine wq_gos (f := 1) (pc2 := 23) (ls2 := [(4, .int (nI (k + 1))), (2, .int (nI k)), (3, .int (jmea (so0.getD k 0))), (5, .int (jmea (so0.getD k 0))), (0, .ref 0), (1, .ref 60)]) (st2 := []) (h2 := h) (dc2 := dc) (ds2 := ds) 1 rfl ?_
      have hx : clC (m + 1) k b mo = clC m (k + 1) (nI k) (jmea (so0.getD k 0)) := by show (if _ then _ else _) = _; rw [if_neg (Int.not_le.mpr b1x)]
      rw [hx]
      refine wq_ls [(0, .ref 0), (1, .ref 60), (2, .int (nI k)), (3, .int (jmea (so0.getD k 0))), (4, .int (nI (k + 1)))] (show ([0, 1, 2, 3, 4] : List Nat).Nodup by decide) ⟨rfl, rfl, rfl, rfl, rfl, trivial⟩ ?_
      exact ih (k + 1) (nI k) (jmea (so0.getD k 0)) dc ds (by omega)
set_option maxHeartbeats 4000000 in
theorem m_clL {fs : List Value} {fo8 : List Int64} (hC : mC fs) (h32 : fs[32]? = some (.int 264)) (hfo : ∀ k, k < 264 → fo8.getD (4800 + k) 0 = ml0.getD k 0) : ∀ (m k : Nat) (b mo : Int32) (h : zH) (hr0 : List Int32) (dc ds : Nat), k + m = 264 → zat h 162 = some (.inr (.inr (.inr (10, fs)))) → zat h 172 = some (.inl (0, 12, [4, 4, 4, 4, 4, 4, 4, 4, 4, 4, 4, 4])) → zat h 188 = some (.inl (0, 6, [0, 0, 0, 0, 0, 0])) → zat h 196 = some (.inr (.inl (6000, fo8))) → zat h 206 = some (.inl (0, 6, hr0)) → wq 238 28 [(0, .ref 162), (1, .int b), (2, .int mo), (3, .int (nI k))] [] h dc ds (fun r => ∃ h2, r = (some (.int (clM m k b mo)), h2, dc, ds)) := by
  intro m
  induction m with
  | zero =>
    intro k b mo h hr0 dc ds hkm hM c172 c188 hF hH
    have q1 := nI_toInt (n := k) (by omega)
    have e264 : (264 : Int32).toInt = 264 := rfl
    refine wq_gos (f := 1) (pc2 := 30) (ls2 := [(0, .ref 162), (1, .int b), (2, .int mo), (3, .int (nI k))]) (st2 := [.ref 162, .int (nI k)]) (h2 := h) (dc2 := dc) (ds2 := ds) 2 rfl ?_
    refine wq_getf rfl hM h32 rfl ?_
    refine wq_ge2t rfl (by omega) ?_
    refine wq_gos (f := 1) (pc2 := 83) (ls2 := [(0, .ref 162), (1, .int b), (2, .int mo), (3, .int (nI k))]) (st2 := [.int b]) (h2 := h) (dc2 := dc) (ds2 := ds) 1 rfl ?_
    exact wq_ret rfl rfl ⟨h, rfl⟩
  | succ m ih =>
    intro k b mo h hr0 dc ds hkm hM c172 c188 hF hH
    have q1 := nI_toInt (n := k) (by omega)
    have e264 : (264 : Int32).toInt = 264 := rfl
    refine wq_gos (f := 1) (pc2 := 30) (ls2 := [(0, .ref 162), (1, .int b), (2, .int mo), (3, .int (nI k))]) (st2 := [.ref 162, .int (nI k)]) (h2 := h) (dc2 := dc) (ds2 := ds) 2 rfl ?_
    refine wq_getf rfl hM h32 rfl ?_
    refine wq_ge2f rfl rfl (by omega) ?_
    refine wq_gos (f := 1) (pc2 := 39) (ls2 := [(0, .ref 162), (1, .int b), (2, .int mo), (3, .int (nI k))]) (st2 := [.int (nI k), .ref 162, .ref 162]) (h2 := h) (dc2 := dc) (ds2 := ds) 3 rfl ?_
    refine wq_inlv (y2 := 228) (as := [.int (nI k)]) rfl rfl rfl hM rfl ?_
    show wq 228 0 [(0, .ref 162), (1, .int (nI k))] [] h 0 0 _
    refine wq_gos (f := 1) (pc2 := 1) (ls2 := [(0, .ref 162), (1, .int (nI k))]) (st2 := [.ref 162]) (h2 := h) (dc2 := 0) (ds2 := 0) 1 rfl ?_
    refine wq_getf rfl hM (hC.2 (30, 196) (by decide)) rfl ?_
    refine wq_gos (f := 1) (pc2 := 9) (ls2 := [(0, .ref 162), (1, .int (nI k))]) (st2 := [.int ((4800 : Int32) + (nI k)), .ref 196]) (h2 := h) (dc2 := 0) (ds2 := 0) 3 rfl ?_
    refine wq_vi (show (4800 : Int32) + nI k = nI (4800 + k) from nI_add 4800 k) ?_
    refine wq_laldn rfl hF (by omega) (by decide) rfl ?_
    refine wq_vl (hfo k (by omega)) ?_
    refine wq_ret rfl rfl ?_
    show wq 238 42 [(0, .ref 162), (1, .int b), (2, .int mo), (3, .int (nI k))] [.long (ml0.getD k 0), .ref 162] h dc ds _
    refine wq_gos (f := 1) (pc2 := 43) (ls2 := [(0, .ref 162), (1, .int b), (2, .int mo), (3, .int (nI k))]) (st2 := [.ref 162, .long (ml0.getD k 0), .ref 162]) (h2 := h) (dc2 := dc) (ds2 := ds) 1 rfl ?_
    refine wq_getf rfl hM (hC.2 (40, 206) (by decide)) rfl ?_
    refine wq_gos (f := 1) (pc2 := 47) (ls2 := [(0, .ref 162), (1, .int b), (2, .int mo), (3, .int (nI k))]) (st2 := [.int 0, .ref 206, .long (ml0.getD k 0), .ref 162]) (h2 := h) (dc2 := dc) (ds2 := ds) 1 rfl ?_
    refine wq_inlv (y2 := 221) (as := [.long (ml0.getD k 0), .ref 206, .int 0]) rfl rfl rfl hM rfl (wq_mono (m_unp (x := (ml0.getD k 0)) hM hC hH) ?_)
    rintro _ ⟨h1x, hr2x, rfl, f3x, e4x, u5x, u6x, u7x, u8x, u9x, u10x⟩
    show wq 238 50 [(0, .ref 162), (1, .int b), (2, .int mo), (3, .int (nI k))] [] h1x dc ds _
    refine wq_gos (f := 1) (pc2 := 51) (ls2 := [(0, .ref 162), (1, .int b), (2, .int mo), (3, .int (nI k))]) (st2 := [.ref 162]) (h2 := h1x) (dc2 := dc) (ds2 := ds) 1 rfl ?_
    have e11x := (f3x.2 _ _ (wnc (by decide) wn0) hM)
    refine wq_getf rfl e11x (hC.2 (40, 206) (by decide)) rfl ?_
    refine wq_gos (f := 1) (pc2 := 55) (ls2 := [(0, .ref 162), (1, .int b), (2, .int mo), (3, .int (nI k))]) (st2 := [.int 0, .ref 206]) (h2 := h1x) (dc2 := dc) (ds2 := ds) 1 rfl ?_
    refine wq_inl (y2 := 206) (as := [.ref 206, .int 0]) rfl rfl rfl (wq_T (m_mea e4x u5x u6x u7x u8x u9x u10x) ?_)
    show wq 238 58 [(0, .ref 162), (1, .int b), (2, .int mo), (3, .int (nI k))] [.int (jme (mjo1 (ml0.getD k 0)) (mjo3 (ml0.getD k 0)))] h1x dc ds _
    refine wq_gos (f := 1) (pc2 := 59) (ls2 := [(0, .ref 162), (1, .int b), (2, .int mo), (3, .int (nI k))]) (st2 := [.int mo, .int (jme (mjo1 (ml0.getD k 0)) (mjo3 (ml0.getD k 0)))]) (h2 := h1x) (dc2 := dc) (ds2 := ds) 1 rfl ?_
    refine wq_gt2 rfl rfl (fun b12x => ?_) (fun b12x => ?_)
    · refine wq_gos (f := 1) (pc2 := 68) (ls2 := [(1, .int (nI k)), (0, .ref 162), (2, .int mo), (3, .int (nI k))]) (st2 := [.ref 162]) (h2 := h1x) (dc2 := dc) (ds2 := ds) 3 rfl ?_
      refine wq_getf rfl e11x (hC.2 (40, 206) (by decide)) rfl ?_
      refine wq_gos (f := 1) (pc2 := 72) (ls2 := [(1, .int (nI k)), (0, .ref 162), (2, .int mo), (3, .int (nI k))]) (st2 := [.int 0, .ref 206]) (h2 := h1x) (dc2 := dc) (ds2 := ds) 1 rfl ?_
      refine wq_inl (y2 := 206) (as := [.ref 206, .int 0]) rfl rfl rfl (wq_T (m_mea e4x u5x u6x u7x u8x u9x u10x) ?_)
      show wq 238 75 [(1, .int (nI k)), (0, .ref 162), (2, .int mo), (3, .int (nI k))] [.int (jme (mjo1 (ml0.getD k 0)) (mjo3 (ml0.getD k 0)))] h1x dc ds _
      refine wq_gos (f := 1) (pc2 := 79) (ls2 := [(3, .int ((nI k) + 1)), (2, .int (jme (mjo1 (ml0.getD k 0)) (mjo3 (ml0.getD k 0)))), (1, .int (nI k)), (0, .ref 162)]) (st2 := []) (h2 := h1x) (dc2 := dc) (ds2 := ds) 2 rfl ?_
      rw [nI_1]
      refine wq_gos (f := 1) (pc2 := 28) (ls2 := [(3, .int (nI (k + 1))), (2, .int (jme (mjo1 (ml0.getD k 0)) (mjo3 (ml0.getD k 0)))), (1, .int (nI k)), (0, .ref 162)]) (st2 := []) (h2 := h1x) (dc2 := dc) (ds2 := ds) 1 rfl ?_
      have e13x := (f3x.2 _ _ (wnc (by decide) wn0) c172)
      have e14x := (f3x.2 _ _ (wnc (by decide) wn0) c188)
      have e15x := (f3x.2 _ _ (wnc (by decide) wn0) hF)
      have hx : clM (m + 1) k b mo = clM m (k + 1) (nI k) (jme (mjo1 (ml0.getD k 0)) (mjo3 (ml0.getD k 0))) := by show (if _ then _ else _) = _; rw [if_pos b12x]
      rw [hx]
      refine wq_ls [(0, .ref 162), (1, .int (nI k)), (2, .int (jme (mjo1 (ml0.getD k 0)) (mjo3 (ml0.getD k 0)))), (3, .int (nI (k + 1)))] (show ([0, 1, 2, 3] : List Nat).Nodup by decide) ⟨rfl, rfl, rfl, rfl, trivial⟩ ?_
      exact ih (k + 1) (nI k) (jme (mjo1 (ml0.getD k 0)) (mjo3 (ml0.getD k 0))) h1x _ dc ds (by omega) e11x e13x e14x e15x e4x
    · refine wq_gos (f := 1) (pc2 := 79) (ls2 := [(3, .int ((nI k) + 1)), (0, .ref 162), (1, .int b), (2, .int mo)]) (st2 := []) (h2 := h1x) (dc2 := dc) (ds2 := ds) 2 rfl ?_
      rw [nI_1]
      refine wq_gos (f := 1) (pc2 := 28) (ls2 := [(3, .int (nI (k + 1))), (0, .ref 162), (1, .int b), (2, .int mo)]) (st2 := []) (h2 := h1x) (dc2 := dc) (ds2 := ds) 1 rfl ?_
      have e16x := (f3x.2 _ _ (wnc (by decide) wn0) c172)
      have e17x := (f3x.2 _ _ (wnc (by decide) wn0) c188)
      have e18x := (f3x.2 _ _ (wnc (by decide) wn0) hF)
      have hx : clM (m + 1) k b mo = clM m (k + 1) b mo := by show (if _ then _ else _) = _; rw [if_neg (Int.not_lt.mpr b12x)]
      rw [hx]
      refine wq_ls [(0, .ref 162), (1, .int b), (2, .int mo), (3, .int (nI (k + 1)))] (show ([0, 1, 2, 3] : List Nat).Nodup by decide) ⟨rfl, rfl, rfl, rfl, trivial⟩ ?_
      exact ih (k + 1) b mo h1x _ dc ds (by omega) e11x e16x e17x e18x e4x
set_option maxHeartbeats 4000000 in
theorem c_neL {h : zH} {rL2 cap2 : Nat} {ks2 fa2 : Int32} {li2 : List Int64} (c0 : zat h 0 = some (.inr (.inr (.inr (9, [.ref 2, .int 0, .ref 4, .ref 6, .ref 20, .long 70644700037184, .ref 34, .ref 36, .int 0, .long 0, .ref 42, .ref 44, .ref 60, .ref 66, .ref 72, .ref 74, .ref 150, .ref 158]))))) (c6 : zat h 6 = some (.inr (.inr (.inr (0, [.int 9, .int 4, .int 10, .int 2, .int 0, .long 70644700037184, .ref 8, .ref 10, .ref 12, .int 0, .ref 14, .ref 16, .int 0, .ref 18]))))) (c12 : zat h 12 = some (.inl (0, 6, [4, 4, 4, 4, 4, 4]))) (j9 : zat h 60 = some (.inr (.inr (.inr (1, [.int 1, .int 264, .ref rL2, .ref 64, .int ks2, .int fa2]))))) (j11 : zat h rL2 = some (.inr (.inl (cap2, li2)))) (j15 : ∀ k, k < 264 → li2.getD k 0 = so0.getD k 0) (hcp : 264 ≤ cap2 ∧ cap2 ≤ 600) : ∀ (m k : Nat) (b fe : Int32) (dc ds : Nat), k + m = 264 → wq 117 45 [(0, .ref 0), (1, .int 0), (2, .ref 60), (3, .int b), (4, .int fe), (5, .int (nI k))] [] h dc ds (fun r => r = (some (.int (neC m k b fe)), h, dc, ds)) := by
  intro m
  induction m with
  | zero =>
    intro k b fe dc ds hkm
    have q1 := nI_toInt (n := k) (by omega)
    have e264 : (264 : Int32).toInt = 264 := rfl
    refine wq_gos (f := 1) (pc2 := 48) (ls2 := [(0, .ref 0), (1, .int 0), (2, .ref 60), (3, .int b), (4, .int fe), (5, .int (nI k))]) (st2 := [.ref 60, .int (nI k)]) (h2 := h) (dc2 := dc) (ds2 := ds) 2 rfl ?_
    refine wq_getf rfl j9 rfl rfl ?_
    refine wq_ge2t rfl (by omega) ?_
    refine wq_gos (f := 1) (pc2 := 118) (ls2 := [(0, .ref 0), (1, .int 0), (2, .ref 60), (3, .int b), (4, .int fe), (5, .int (nI k))]) (st2 := [.int b]) (h2 := h) (dc2 := dc) (ds2 := ds) 1 rfl ?_
    exact wq_ret rfl rfl rfl
  | succ m ih =>
    intro k b fe dc ds hkm
    have q1 := nI_toInt (n := k) (by omega)
    have e264 : (264 : Int32).toInt = 264 := rfl
    refine wq_gos (f := 1) (pc2 := 48) (ls2 := [(0, .ref 0), (1, .int 0), (2, .ref 60), (3, .int b), (4, .int fe), (5, .int (nI k))]) (st2 := [.ref 60, .int (nI k)]) (h2 := h) (dc2 := dc) (ds2 := ds) 2 rfl ?_
    refine wq_getf rfl j9 rfl rfl ?_
    refine wq_ge2f rfl rfl (by omega) ?_
    refine wq_gos (f := 1) (pc2 := 55) (ls2 := [(0, .ref 0), (1, .int 0), (2, .ref 60), (3, .int b), (4, .int fe), (5, .int (nI k))]) (st2 := [.ref 60]) (h2 := h) (dc2 := dc) (ds2 := ds) 1 rfl ?_
    refine wq_getf rfl j9 rfl rfl ?_
    refine wq_gos (f := 1) (pc2 := 60) (ls2 := [(0, .ref 0), (1, .int 0), (2, .ref 60), (3, .int b), (4, .int fe), (5, .int (nI k))]) (st2 := [.int (nI k), .ref rL2]) (h2 := h) (dc2 := dc) (ds2 := ds) 1 rfl ?_
    refine wq_laldn rfl j11 (by omega) (by omega) rfl ?_
    refine wq_vl (j15 k (by omega)) ?_
    refine wq_gos (f := 1) (pc2 := 83) (ls2 := [(6, .long (so0.getD k 0)), (0, .ref 0), (1, .int 0), (2, .ref 60), (3, .int b), (4, .int fe), (5, .int (nI k))]) (st2 := [.ref 0]) (h2 := h) (dc2 := dc) (ds2 := ds) 4 rfl ?_
    refine wq_getf rfl c0 rfl rfl ?_
    refine wq_gos (f := 1) (pc2 := 87) (ls2 := [(6, .long (so0.getD k 0)), (0, .ref 0), (1, .int 0), (2, .ref 60), (3, .int b), (4, .int fe), (5, .int (nI k))]) (st2 := [.ref 0, .ref 6]) (h2 := h) (dc2 := dc) (ds2 := ds) 1 rfl ?_
    refine wq_getf rfl c0 rfl rfl ?_
    refine wq_gos (f := 1) (pc2 := 92) (ls2 := [(6, .long (so0.getD k 0)), (0, .ref 0), (1, .int 0), (2, .ref 60), (3, .int b), (4, .int fe), (5, .int (nI k))]) (st2 := [.long (so0.getD k 0), .long 70644700037184, .ref 6]) (h2 := h) (dc2 := dc) (ds2 := ds) 1 rfl ?_
    refine wq_inlv (y2 := 9) (as := [.long 70644700037184, .long (so0.getD k 0)]) rfl rfl rfl c6 rfl (wq_T (c_ticks0 70644700037184 (so0.getD k 0) c6 c12) ?_)
    show wq 117 95 [(6, .long (so0.getD k 0)), (0, .ref 0), (1, .int 0), (2, .ref 60), (3, .int b), (4, .int fe), (5, .int (nI k))] [.int (jtks 70644700037184 (so0.getD k 0))] h dc ds _
    refine wq_gos (f := 1) (pc2 := 101) (ls2 := [(8, .int (jtks 70644700037184 (so0.getD k 0))), (6, .long (so0.getD k 0)), (0, .ref 0), (1, .int 0), (2, .ref 60), (3, .int b), (4, .int fe), (5, .int (nI k))]) (st2 := [.int fe, .int (jtks 70644700037184 (so0.getD k 0))]) (h2 := h) (dc2 := dc) (ds2 := ds) 3 rfl ?_
    refine wq_ge2 rfl rfl (fun b1x => ?_) (fun b1x => ?_)
    · refine wq_gos (f := 1) (pc2 := 114) (ls2 := [(5, .int ((nI k) + 1)), (8, .int (jtks 70644700037184 (so0.getD k 0))), (6, .long (so0.getD k 0)), (0, .ref 0), (1, .int 0), (2, .ref 60), (3, .int b), (4, .int fe)]) (st2 := []) (h2 := h) (dc2 := dc) (ds2 := ds) 1 rfl ?_
      rw [nI_1]
      refine wq_gos (f := 1) (pc2 := 45) (ls2 := [(5, .int (nI (k + 1))), (8, .int (jtks 70644700037184 (so0.getD k 0))), (6, .long (so0.getD k 0)), (0, .ref 0), (1, .int 0), (2, .ref 60), (3, .int b), (4, .int fe)]) (st2 := []) (h2 := h) (dc2 := dc) (ds2 := ds) 1 rfl ?_
      have hx : neC (m + 1) k b fe = neC m (k + 1) b fe := by show (if _ then _ else _) = _; rw [if_pos b1x]
      rw [hx]
      refine wq_ls [(0, .ref 0), (1, .int 0), (2, .ref 60), (3, .int b), (4, .int fe), (5, .int (nI (k + 1)))] (show ([0, 1, 2, 3, 4, 5] : List Nat).Nodup by decide) ⟨rfl, rfl, rfl, rfl, rfl, rfl, trivial⟩ ?_
      exact ih (k + 1) b fe dc ds (by omega)
    · refine wq_gos (f := 1) (pc2 := 114) (ls2 := [(5, .int ((nI k) + 1)), (3, .int (nI k)), (4, .int (jtks 70644700037184 (so0.getD k 0))), (8, .int (jtks 70644700037184 (so0.getD k 0))), (6, .long (so0.getD k 0)), (0, .ref 0), (1, .int 0), (2, .ref 60)]) (st2 := []) (h2 := h) (dc2 := dc) (ds2 := ds) 5 rfl ?_
      rw [nI_1]
      refine wq_gos (f := 1) (pc2 := 45) (ls2 := [(5, .int (nI (k + 1))), (3, .int (nI k)), (4, .int (jtks 70644700037184 (so0.getD k 0))), (8, .int (jtks 70644700037184 (so0.getD k 0))), (6, .long (so0.getD k 0)), (0, .ref 0), (1, .int 0), (2, .ref 60)]) (st2 := []) (h2 := h) (dc2 := dc) (ds2 := ds) 1 rfl ?_
      have hx : neC (m + 1) k b fe = neC m (k + 1) (nI k) (jtks 70644700037184 (so0.getD k 0)) := by show (if _ then _ else _) = _; rw [if_neg (Int.not_le.mpr b1x)]
      rw [hx]
      refine wq_ls [(0, .ref 0), (1, .int 0), (2, .ref 60), (3, .int (nI k)), (4, .int (jtks 70644700037184 (so0.getD k 0))), (5, .int (nI (k + 1)))] (show ([0, 1, 2, 3, 4, 5] : List Nat).Nodup by decide) ⟨rfl, rfl, rfl, rfl, rfl, rfl, trivial⟩ ?_
      exact ih (k + 1) (nI k) (jtks 70644700037184 (so0.getD k 0)) dc ds (by omega)
set_option maxHeartbeats 4000000 in
theorem m_neL {fs : List Value} {fo8 : List Int64} (hC : mC fs) (h32 : fs[32]? = some (.int 264)) (hfo : ∀ k, k < 264 → fo8.getD (4800 + k) 0 = ml0.getD k 0) : ∀ (m k : Nat) (b le : Int32) (h : zH) (hr0 : List Int32) (dc ds : Nat), k + m = 264 → zat h 162 = some (.inr (.inr (.inr (10, fs)))) → zat h 172 = some (.inl (0, 12, [4, 4, 4, 4, 4, 4, 4, 4, 4, 4, 4, 4])) → zat h 188 = some (.inl (0, 6, [0, 0, 0, 0, 0, 0])) → zat h 196 = some (.inr (.inl (6000, fo8))) → zat h 206 = some (.inl (0, 6, hr0)) → wq 237 29 [(0, .ref 162), (1, .int 0), (2, .int b), (3, .int le), (4, .int (nI k))] [] h dc ds (fun r => ∃ h2, r = (some (.int (neM m k b le)), h2, dc, ds)) := by
  intro m
  induction m with
  | zero =>
    intro k b le h hr0 dc ds hkm hM c172 c188 hF hH
    have q1 := nI_toInt (n := k) (by omega)
    have e264 : (264 : Int32).toInt = 264 := rfl
    refine wq_gos (f := 1) (pc2 := 32) (ls2 := [(0, .ref 162), (1, .int 0), (2, .int b), (3, .int le), (4, .int (nI k))]) (st2 := [.ref 162, .int (nI k)]) (h2 := h) (dc2 := dc) (ds2 := ds) 2 rfl ?_
    refine wq_getf rfl hM h32 rfl ?_
    refine wq_ge2t rfl (by omega) ?_
    refine wq_gos (f := 1) (pc2 := 118) (ls2 := [(0, .ref 162), (1, .int 0), (2, .int b), (3, .int le), (4, .int (nI k))]) (st2 := [.int b]) (h2 := h) (dc2 := dc) (ds2 := ds) 1 rfl ?_
    exact wq_ret rfl rfl ⟨h, rfl⟩
  | succ m ih =>
    intro k b le h hr0 dc ds hkm hM c172 c188 hF hH
    have q1 := nI_toInt (n := k) (by omega)
    have e264 : (264 : Int32).toInt = 264 := rfl
    refine wq_gos (f := 1) (pc2 := 32) (ls2 := [(0, .ref 162), (1, .int 0), (2, .int b), (3, .int le), (4, .int (nI k))]) (st2 := [.ref 162, .int (nI k)]) (h2 := h) (dc2 := dc) (ds2 := ds) 2 rfl ?_
    refine wq_getf rfl hM h32 rfl ?_
    refine wq_ge2f rfl rfl (by omega) ?_
    refine wq_gos (f := 1) (pc2 := 42) (ls2 := [(0, .ref 162), (1, .int 0), (2, .int b), (3, .int le), (4, .int (nI k))]) (st2 := [.int (nI k), .ref 162, .ref 162]) (h2 := h) (dc2 := dc) (ds2 := ds) 3 rfl ?_
    refine wq_inlv (y2 := 228) (as := [.int (nI k)]) rfl rfl rfl hM rfl ?_
    show wq 228 0 [(0, .ref 162), (1, .int (nI k))] [] h 0 0 _
    refine wq_gos (f := 1) (pc2 := 1) (ls2 := [(0, .ref 162), (1, .int (nI k))]) (st2 := [.ref 162]) (h2 := h) (dc2 := 0) (ds2 := 0) 1 rfl ?_
    refine wq_getf rfl hM (hC.2 (30, 196) (by decide)) rfl ?_
    refine wq_gos (f := 1) (pc2 := 9) (ls2 := [(0, .ref 162), (1, .int (nI k))]) (st2 := [.int ((4800 : Int32) + (nI k)), .ref 196]) (h2 := h) (dc2 := 0) (ds2 := 0) 3 rfl ?_
    refine wq_vi (show (4800 : Int32) + nI k = nI (4800 + k) from nI_add 4800 k) ?_
    refine wq_laldn rfl hF (by omega) (by decide) rfl ?_
    refine wq_vl (hfo k (by omega)) ?_
    refine wq_ret rfl rfl ?_
    show wq 237 45 [(0, .ref 162), (1, .int 0), (2, .int b), (3, .int le), (4, .int (nI k))] [.long (ml0.getD k 0), .ref 162] h dc ds _
    refine wq_gos (f := 1) (pc2 := 46) (ls2 := [(0, .ref 162), (1, .int 0), (2, .int b), (3, .int le), (4, .int (nI k))]) (st2 := [.ref 162, .long (ml0.getD k 0), .ref 162]) (h2 := h) (dc2 := dc) (ds2 := ds) 1 rfl ?_
    refine wq_getf rfl hM (hC.2 (40, 206) (by decide)) rfl ?_
    refine wq_gos (f := 1) (pc2 := 50) (ls2 := [(0, .ref 162), (1, .int 0), (2, .int b), (3, .int le), (4, .int (nI k))]) (st2 := [.int 0, .ref 206, .long (ml0.getD k 0), .ref 162]) (h2 := h) (dc2 := dc) (ds2 := ds) 1 rfl ?_
    refine wq_inlv (y2 := 221) (as := [.long (ml0.getD k 0), .ref 206, .int 0]) rfl rfl rfl hM rfl (wq_mono (m_unp (x := (ml0.getD k 0)) hM hC hH) ?_)
    rintro _ ⟨h1x, hr2x, rfl, f3x, e4x, u5x, u6x, u7x, u8x, u9x, u10x⟩
    show wq 237 53 [(0, .ref 162), (1, .int 0), (2, .int b), (3, .int le), (4, .int (nI k))] [] h1x dc ds _
    refine wq_gos (f := 1) (pc2 := 55) (ls2 := [(0, .ref 162), (1, .int 0), (2, .int b), (3, .int le), (4, .int (nI k))]) (st2 := [.ref 162, .ref 162]) (h2 := h1x) (dc2 := dc) (ds2 := ds) 2 rfl ?_
    have e11x := (f3x.2 _ _ (wnc (by decide) wn0) hM)
    refine wq_getf rfl e11x (hC.2 (24, 188) (by decide)) rfl ?_
    refine wq_gos (f := 1) (pc2 := 60) (ls2 := [(0, .ref 162), (1, .int 0), (2, .int b), (3, .int le), (4, .int (nI k))]) (st2 := [.ref 162, .int 0, .ref 188, .ref 162]) (h2 := h1x) (dc2 := dc) (ds2 := ds) 2 rfl ?_
    refine wq_getf rfl e11x (hC.2 (40, 206) (by decide)) rfl ?_
    refine wq_gos (f := 1) (pc2 := 64) (ls2 := [(0, .ref 162), (1, .int 0), (2, .int b), (3, .int le), (4, .int (nI k))]) (st2 := [.int 0, .ref 206, .int 0, .ref 188, .ref 162]) (h2 := h1x) (dc2 := dc) (ds2 := ds) 1 rfl ?_
    have e12x := (f3x.2 _ _ (wnc (by decide) wn0) c172)
    have e13x := (f3x.2 _ _ (wnc (by decide) wn0) c188)
    refine wq_inlv (y2 := 233) (as := [.ref 188, .int 0, .ref 206, .int 0]) rfl rfl rfl e11x rfl (wq_T (m_ticks0 e11x hC e12x e13x e4x u5x u6x u7x u8x u9x u10x) ?_)
    show wq 237 67 [(0, .ref 162), (1, .int 0), (2, .int b), (3, .int le), (4, .int (nI k))] [.int (mtks (mjo0 (ml0.getD k 0)) (mjo1 (ml0.getD k 0)) (mjo2 (ml0.getD k 0)) (mjo3 (ml0.getD k 0)) (mjo4 (ml0.getD k 0)) (mjo5 (ml0.getD k 0)))] h1x dc ds _
    refine wq_gos (f := 1) (pc2 := 93) (ls2 := [(5, .int (mtks (mjo0 (ml0.getD k 0)) (mjo1 (ml0.getD k 0)) (mjo2 (ml0.getD k 0)) (mjo3 (ml0.getD k 0)) (mjo4 (ml0.getD k 0)) (mjo5 (ml0.getD k 0)))), (0, .ref 162), (1, .int 0), (2, .int b), (3, .int le), (4, .int (nI k))]) (st2 := [.int (-2), .int b]) (h2 := h1x) (dc2 := dc) (ds2 := ds) 5 rfl ?_
    refine wq_eq2 rfl rfl (fun b14x => ?_) (fun b14x => ?_)
    · refine wq_gos (f := 1) (pc2 := 114) (ls2 := [(4, .int ((nI k) + 1)), (3, .int (mtks (mjo0 (ml0.getD k 0)) (mjo1 (ml0.getD k 0)) (mjo2 (ml0.getD k 0)) (mjo3 (ml0.getD k 0)) (mjo4 (ml0.getD k 0)) (mjo5 (ml0.getD k 0)))), (2, .int (nI k)), (5, .int (mtks (mjo0 (ml0.getD k 0)) (mjo1 (ml0.getD k 0)) (mjo2 (ml0.getD k 0)) (mjo3 (ml0.getD k 0)) (mjo4 (ml0.getD k 0)) (mjo5 (ml0.getD k 0)))), (0, .ref 162), (1, .int 0)]) (st2 := []) (h2 := h1x) (dc2 := dc) (ds2 := ds) 5 rfl ?_
      rw [nI_1]
      refine wq_gos (f := 1) (pc2 := 29) (ls2 := [(4, .int (nI (k + 1))), (3, .int (mtks (mjo0 (ml0.getD k 0)) (mjo1 (ml0.getD k 0)) (mjo2 (ml0.getD k 0)) (mjo3 (ml0.getD k 0)) (mjo4 (ml0.getD k 0)) (mjo5 (ml0.getD k 0)))), (2, .int (nI k)), (5, .int (mtks (mjo0 (ml0.getD k 0)) (mjo1 (ml0.getD k 0)) (mjo2 (ml0.getD k 0)) (mjo3 (ml0.getD k 0)) (mjo4 (ml0.getD k 0)) (mjo5 (ml0.getD k 0)))), (0, .ref 162), (1, .int 0)]) (st2 := []) (h2 := h1x) (dc2 := dc) (ds2 := ds) 1 rfl ?_
      have e15x := (f3x.2 _ _ (wnc (by decide) wn0) hF)
      have hx : neM (m + 1) k b le = neM m (k + 1) (nI k) (mtks (mjo0 (ml0.getD k 0)) (mjo1 (ml0.getD k 0)) (mjo2 (ml0.getD k 0)) (mjo3 (ml0.getD k 0)) (mjo4 (ml0.getD k 0)) (mjo5 (ml0.getD k 0))) := by show (if _ then _ else _) = _; rw [if_pos b14x]
      rw [hx]
      refine wq_ls [(0, .ref 162), (1, .int 0), (2, .int (nI k)), (3, .int (mtks (mjo0 (ml0.getD k 0)) (mjo1 (ml0.getD k 0)) (mjo2 (ml0.getD k 0)) (mjo3 (ml0.getD k 0)) (mjo4 (ml0.getD k 0)) (mjo5 (ml0.getD k 0)))), (4, .int (nI (k + 1)))] (show ([0, 1, 2, 3, 4] : List Nat).Nodup by decide) ⟨rfl, rfl, rfl, rfl, rfl, trivial⟩ ?_
      exact ih (k + 1) (nI k) (mtks (mjo0 (ml0.getD k 0)) (mjo1 (ml0.getD k 0)) (mjo2 (ml0.getD k 0)) (mjo3 (ml0.getD k 0)) (mjo4 (ml0.getD k 0)) (mjo5 (ml0.getD k 0))) h1x _ dc ds (by omega) e11x e12x e13x e15x e4x
    · refine wq_gos (f := 1) (pc2 := 99) (ls2 := [(5, .int (mtks (mjo0 (ml0.getD k 0)) (mjo1 (ml0.getD k 0)) (mjo2 (ml0.getD k 0)) (mjo3 (ml0.getD k 0)) (mjo4 (ml0.getD k 0)) (mjo5 (ml0.getD k 0)))), (0, .ref 162), (1, .int 0), (2, .int b), (3, .int le), (4, .int (nI k))]) (st2 := [.int le, .int (mtks (mjo0 (ml0.getD k 0)) (mjo1 (ml0.getD k 0)) (mjo2 (ml0.getD k 0)) (mjo3 (ml0.getD k 0)) (mjo4 (ml0.getD k 0)) (mjo5 (ml0.getD k 0)))]) (h2 := h1x) (dc2 := dc) (ds2 := ds) 2 rfl ?_
      refine wq_lt2 rfl rfl (fun b16x => ?_) (fun b16x => ?_)
      · refine wq_gos (f := 1) (pc2 := 114) (ls2 := [(4, .int ((nI k) + 1)), (3, .int (mtks (mjo0 (ml0.getD k 0)) (mjo1 (ml0.getD k 0)) (mjo2 (ml0.getD k 0)) (mjo3 (ml0.getD k 0)) (mjo4 (ml0.getD k 0)) (mjo5 (ml0.getD k 0)))), (2, .int (nI k)), (5, .int (mtks (mjo0 (ml0.getD k 0)) (mjo1 (ml0.getD k 0)) (mjo2 (ml0.getD k 0)) (mjo3 (ml0.getD k 0)) (mjo4 (ml0.getD k 0)) (mjo5 (ml0.getD k 0)))), (0, .ref 162), (1, .int 0)]) (st2 := []) (h2 := h1x) (dc2 := dc) (ds2 := ds) 5 rfl ?_
        rw [nI_1]
        refine wq_gos (f := 1) (pc2 := 29) (ls2 := [(4, .int (nI (k + 1))), (3, .int (mtks (mjo0 (ml0.getD k 0)) (mjo1 (ml0.getD k 0)) (mjo2 (ml0.getD k 0)) (mjo3 (ml0.getD k 0)) (mjo4 (ml0.getD k 0)) (mjo5 (ml0.getD k 0)))), (2, .int (nI k)), (5, .int (mtks (mjo0 (ml0.getD k 0)) (mjo1 (ml0.getD k 0)) (mjo2 (ml0.getD k 0)) (mjo3 (ml0.getD k 0)) (mjo4 (ml0.getD k 0)) (mjo5 (ml0.getD k 0)))), (0, .ref 162), (1, .int 0)]) (st2 := []) (h2 := h1x) (dc2 := dc) (ds2 := ds) 1 rfl ?_
        have e17x := (f3x.2 _ _ (wnc (by decide) wn0) hF)
        have hx : neM (m + 1) k b le = neM m (k + 1) (nI k) (mtks (mjo0 (ml0.getD k 0)) (mjo1 (ml0.getD k 0)) (mjo2 (ml0.getD k 0)) (mjo3 (ml0.getD k 0)) (mjo4 (ml0.getD k 0)) (mjo5 (ml0.getD k 0))) := by show (if _ then _ else _) = _; rw [if_neg b14x, if_pos b16x]
        rw [hx]
        refine wq_ls [(0, .ref 162), (1, .int 0), (2, .int (nI k)), (3, .int (mtks (mjo0 (ml0.getD k 0)) (mjo1 (ml0.getD k 0)) (mjo2 (ml0.getD k 0)) (mjo3 (ml0.getD k 0)) (mjo4 (ml0.getD k 0)) (mjo5 (ml0.getD k 0)))), (4, .int (nI (k + 1)))] (show ([0, 1, 2, 3, 4] : List Nat).Nodup by decide) ⟨rfl, rfl, rfl, rfl, rfl, trivial⟩ ?_
        exact ih (k + 1) (nI k) (mtks (mjo0 (ml0.getD k 0)) (mjo1 (ml0.getD k 0)) (mjo2 (ml0.getD k 0)) (mjo3 (ml0.getD k 0)) (mjo4 (ml0.getD k 0)) (mjo5 (ml0.getD k 0))) h1x _ dc ds (by omega) e11x e12x e13x e17x e4x
      · refine wq_gos (f := 1) (pc2 := 114) (ls2 := [(4, .int ((nI k) + 1)), (5, .int (mtks (mjo0 (ml0.getD k 0)) (mjo1 (ml0.getD k 0)) (mjo2 (ml0.getD k 0)) (mjo3 (ml0.getD k 0)) (mjo4 (ml0.getD k 0)) (mjo5 (ml0.getD k 0)))), (0, .ref 162), (1, .int 0), (2, .int b), (3, .int le)]) (st2 := []) (h2 := h1x) (dc2 := dc) (ds2 := ds) 2 rfl ?_
        rw [nI_1]
        refine wq_gos (f := 1) (pc2 := 29) (ls2 := [(4, .int (nI (k + 1))), (5, .int (mtks (mjo0 (ml0.getD k 0)) (mjo1 (ml0.getD k 0)) (mjo2 (ml0.getD k 0)) (mjo3 (ml0.getD k 0)) (mjo4 (ml0.getD k 0)) (mjo5 (ml0.getD k 0)))), (0, .ref 162), (1, .int 0), (2, .int b), (3, .int le)]) (st2 := []) (h2 := h1x) (dc2 := dc) (ds2 := ds) 1 rfl ?_
        have e18x := (f3x.2 _ _ (wnc (by decide) wn0) hF)
        have hx : neM (m + 1) k b le = neM m (k + 1) b le := by show (if _ then _ else _) = _; rw [if_neg b14x, if_neg (Int.not_lt.mpr b16x)]
        rw [hx]
        refine wq_ls [(0, .ref 162), (1, .int 0), (2, .int b), (3, .int le), (4, .int (nI (k + 1)))] (show ([0, 1, 2, 3, 4] : List Nat).Nodup by decide) ⟨rfl, rfl, rfl, rfl, rfl, trivial⟩ ?_
        exact ih (k + 1) b le h1x _ dc ds (by omega) e11x e12x e13x e18x e4x
def neS : Nat → Nat → Int32 → Int32 → Int32
  | 0, _, b, _ => b
  | m + 1, k, b, fe => neS m (k + 1) b fe
set_option maxRecDepth 1000000 in
theorem neS_eq (x : Int32) : ∀ (m k : Nat), neS m k (-2) x = (-2)
  | 0, _ => rfl
  | m + 1, k => by
    show neS m (k + 1) (-2) x = (-2)
    exact neS_eq x m (k + 1)
set_option maxHeartbeats 4000000 in
theorem c_neS {h : zH} {rL2 cap2 : Nat} {ks2 fa2 : Int32} {li2 : List Int64} (c0 : zat h 0 = some (.inr (.inr (.inr (9, [.ref 2, .int 0, .ref 4, .ref 6, .ref 20, .long 70644700037184, .ref 34, .ref 36, .int 0, .long 0, .ref 42, .ref 44, .ref 60, .ref 66, .ref 72, .ref 74, .ref 150, .ref 158]))))) (c6 : zat h 6 = some (.inr (.inr (.inr (0, [.int 9, .int 4, .int 10, .int 2, .int 0, .long 70644700037184, .ref 8, .ref 10, .ref 12, .int 0, .ref 14, .ref 16, .int 0, .ref 18]))))) (c12 : zat h 12 = some (.inl (0, 6, [4, 4, 4, 4, 4, 4]))) (j9 : zat h 60 = some (.inr (.inr (.inr (1, [.int 1, .int 264, .ref rL2, .ref 64, .int ks2, .int fa2]))))) (j11 : zat h rL2 = some (.inr (.inl (cap2, li2)))) (j15 : ∀ k, k < 264 → li2.getD k 0 = so0.getD k 0) (hcp : 264 ≤ cap2 ∧ cap2 ≤ 600) : ∀ (m k : Nat) (b fe : Int32) (dc ds : Nat), k + m = 264 → wq 117 45 [(0, .ref 0), (1, .int 1), (2, .ref 60), (3, .int b), (4, .int fe), (5, .int (nI k))] [] h dc ds (fun r => r = (some (.int (neS m k b fe)), h, dc, ds)) := by
  intro m
  induction m with
  | zero =>
    intro k b fe dc ds hkm
    have q1 := nI_toInt (n := k) (by omega)
    have e264 : (264 : Int32).toInt = 264 := rfl
    refine wq_gos (f := 1) (pc2 := 48) (ls2 := [(0, .ref 0), (1, .int 1), (2, .ref 60), (3, .int b), (4, .int fe), (5, .int (nI k))]) (st2 := [.ref 60, .int (nI k)]) (h2 := h) (dc2 := dc) (ds2 := ds) 2 rfl ?_
    refine wq_getf rfl j9 rfl rfl ?_
    refine wq_ge2t rfl (by omega) ?_
    refine wq_gos (f := 1) (pc2 := 118) (ls2 := [(0, .ref 0), (1, .int 1), (2, .ref 60), (3, .int b), (4, .int fe), (5, .int (nI k))]) (st2 := [.int b]) (h2 := h) (dc2 := dc) (ds2 := ds) 1 rfl ?_
    exact wq_ret rfl rfl rfl
  | succ m ih =>
    intro k b fe dc ds hkm
    have q1 := nI_toInt (n := k) (by omega)
    have e264 : (264 : Int32).toInt = 264 := rfl
    refine wq_gos (f := 1) (pc2 := 48) (ls2 := [(0, .ref 0), (1, .int 1), (2, .ref 60), (3, .int b), (4, .int fe), (5, .int (nI k))]) (st2 := [.ref 60, .int (nI k)]) (h2 := h) (dc2 := dc) (ds2 := ds) 2 rfl ?_
    refine wq_getf rfl j9 rfl rfl ?_
    refine wq_ge2f rfl rfl (by omega) ?_
    refine wq_gos (f := 1) (pc2 := 55) (ls2 := [(0, .ref 0), (1, .int 1), (2, .ref 60), (3, .int b), (4, .int fe), (5, .int (nI k))]) (st2 := [.ref 60]) (h2 := h) (dc2 := dc) (ds2 := ds) 1 rfl ?_
    refine wq_getf rfl j9 rfl rfl ?_
    refine wq_gos (f := 1) (pc2 := 60) (ls2 := [(0, .ref 0), (1, .int 1), (2, .ref 60), (3, .int b), (4, .int fe), (5, .int (nI k))]) (st2 := [.int (nI k), .ref rL2]) (h2 := h) (dc2 := dc) (ds2 := ds) 1 rfl ?_
    refine wq_laldn rfl j11 (by omega) (by omega) rfl ?_
    refine wq_vl (j15 k (by omega)) ?_
    refine wq_gos (f := 1) (pc2 := 68) (ls2 := [(6, .long (so0.getD k 0)), (0, .ref 0), (1, .int 1), (2, .ref 60), (3, .int b), (4, .int fe), (5, .int (nI k))]) (st2 := [.ref 0]) (h2 := h) (dc2 := dc) (ds2 := ds) 4 rfl ?_
    refine wq_getf rfl c0 rfl rfl ?_
    refine wq_gos (f := 1) (pc2 := 73) (ls2 := [(6, .long (so0.getD k 0)), (0, .ref 0), (1, .int 1), (2, .ref 60), (3, .int b), (4, .int fe), (5, .int (nI k))]) (st2 := [.long (so0.getD k 0), .long 70644700037184]) (h2 := h) (dc2 := dc) (ds2 := ds) 1 rfl ?_
    refine wq_inl (y2 := 38) (as := [.long 70644700037184, .long (so0.getD k 0)]) rfl rfl rfl (wq_T (show zT zg0 zF zP 38 0 [(0, .long 70644700037184), (2, .long (so0.getD k 0))] [] h 0 0 (some (.int 0), h, 0, 0) from by have q9 := c_kept 70644700037184 (so0.getD k 0) h; rw [jkept0] at q9; exact q9) ?_)
    show wq 117 76 [(6, .long (so0.getD k 0)), (0, .ref 0), (1, .int 1), (2, .ref 60), (3, .int b), (4, .int fe), (5, .int (nI k))] [.int 0] h dc ds _
    refine wq_gos (f := 1) (pc2 := 114) (ls2 := [(5, .int ((nI k) + 1)), (6, .long (so0.getD k 0)), (0, .ref 0), (1, .int 1), (2, .ref 60), (3, .int b), (4, .int fe)]) (st2 := []) (h2 := h) (dc2 := dc) (ds2 := ds) 3 rfl ?_
    rw [nI_1]
    refine wq_gos (f := 1) (pc2 := 45) (ls2 := [(5, .int (nI (k + 1))), (6, .long (so0.getD k 0)), (0, .ref 0), (1, .int 1), (2, .ref 60), (3, .int b), (4, .int fe)]) (st2 := []) (h2 := h) (dc2 := dc) (ds2 := ds) 1 rfl ?_
    have hx : neS (m + 1) k b fe = neS m (k + 1) b fe := rfl
    rw [hx]
    refine wq_ls [(0, .ref 0), (1, .int 1), (2, .ref 60), (3, .int b), (4, .int fe), (5, .int (nI (k + 1)))] (show ([0, 1, 2, 3, 4, 5] : List Nat).Nodup by decide) ⟨rfl, rfl, rfl, rfl, rfl, rfl, trivial⟩ ?_
    exact ih (k + 1) b fe dc ds (by omega)
set_option maxHeartbeats 4000000 in
theorem m_neS {fs : List Value} {fo8 : List Int64} (hC : mC fs) (h32 : fs[32]? = some (.int 264)) (hfo : ∀ k, k < 264 → fo8.getD (4800 + k) 0 = ml0.getD k 0) : ∀ (m k : Nat) (b le : Int32) (h : zH) (hr0 : List Int32) (dc ds : Nat), k + m = 264 → zat h 162 = some (.inr (.inr (.inr (10, fs)))) → zat h 172 = some (.inl (0, 12, [4, 4, 4, 4, 4, 4, 4, 4, 4, 4, 4, 4])) → zat h 188 = some (.inl (0, 6, [0, 0, 0, 0, 0, 0])) → zat h 196 = some (.inr (.inl (6000, fo8))) → zat h 206 = some (.inl (0, 6, hr0)) → wq 237 29 [(0, .ref 162), (1, .int 1), (2, .int b), (3, .int le), (4, .int (nI k))] [] h dc ds (fun r => ∃ h2, r = (some (.int (neS m k b le)), h2, dc, ds)) := by
  intro m
  induction m with
  | zero =>
    intro k b le h hr0 dc ds hkm hM c172 c188 hF hH
    have q1 := nI_toInt (n := k) (by omega)
    have e264 : (264 : Int32).toInt = 264 := rfl
    refine wq_gos (f := 1) (pc2 := 32) (ls2 := [(0, .ref 162), (1, .int 1), (2, .int b), (3, .int le), (4, .int (nI k))]) (st2 := [.ref 162, .int (nI k)]) (h2 := h) (dc2 := dc) (ds2 := ds) 2 rfl ?_
    refine wq_getf rfl hM h32 rfl ?_
    refine wq_ge2t rfl (by omega) ?_
    refine wq_gos (f := 1) (pc2 := 118) (ls2 := [(0, .ref 162), (1, .int 1), (2, .int b), (3, .int le), (4, .int (nI k))]) (st2 := [.int b]) (h2 := h) (dc2 := dc) (ds2 := ds) 1 rfl ?_
    exact wq_ret rfl rfl ⟨h, rfl⟩
  | succ m ih =>
    intro k b le h hr0 dc ds hkm hM c172 c188 hF hH
    have q1 := nI_toInt (n := k) (by omega)
    have e264 : (264 : Int32).toInt = 264 := rfl
    refine wq_gos (f := 1) (pc2 := 32) (ls2 := [(0, .ref 162), (1, .int 1), (2, .int b), (3, .int le), (4, .int (nI k))]) (st2 := [.ref 162, .int (nI k)]) (h2 := h) (dc2 := dc) (ds2 := ds) 2 rfl ?_
    refine wq_getf rfl hM h32 rfl ?_
    refine wq_ge2f rfl rfl (by omega) ?_
    refine wq_gos (f := 1) (pc2 := 42) (ls2 := [(0, .ref 162), (1, .int 1), (2, .int b), (3, .int le), (4, .int (nI k))]) (st2 := [.int (nI k), .ref 162, .ref 162]) (h2 := h) (dc2 := dc) (ds2 := ds) 3 rfl ?_
    refine wq_inlv (y2 := 228) (as := [.int (nI k)]) rfl rfl rfl hM rfl ?_
    show wq 228 0 [(0, .ref 162), (1, .int (nI k))] [] h 0 0 _
    refine wq_gos (f := 1) (pc2 := 1) (ls2 := [(0, .ref 162), (1, .int (nI k))]) (st2 := [.ref 162]) (h2 := h) (dc2 := 0) (ds2 := 0) 1 rfl ?_
    refine wq_getf rfl hM (hC.2 (30, 196) (by decide)) rfl ?_
    refine wq_gos (f := 1) (pc2 := 9) (ls2 := [(0, .ref 162), (1, .int (nI k))]) (st2 := [.int ((4800 : Int32) + (nI k)), .ref 196]) (h2 := h) (dc2 := 0) (ds2 := 0) 3 rfl ?_
    refine wq_vi (show (4800 : Int32) + nI k = nI (4800 + k) from nI_add 4800 k) ?_
    refine wq_laldn rfl hF (by omega) (by decide) rfl ?_
    refine wq_vl (hfo k (by omega)) ?_
    refine wq_ret rfl rfl ?_
    show wq 237 45 [(0, .ref 162), (1, .int 1), (2, .int b), (3, .int le), (4, .int (nI k))] [.long (ml0.getD k 0), .ref 162] h dc ds _
    refine wq_gos (f := 1) (pc2 := 46) (ls2 := [(0, .ref 162), (1, .int 1), (2, .int b), (3, .int le), (4, .int (nI k))]) (st2 := [.ref 162, .long (ml0.getD k 0), .ref 162]) (h2 := h) (dc2 := dc) (ds2 := ds) 1 rfl ?_
    refine wq_getf rfl hM (hC.2 (40, 206) (by decide)) rfl ?_
    refine wq_gos (f := 1) (pc2 := 50) (ls2 := [(0, .ref 162), (1, .int 1), (2, .int b), (3, .int le), (4, .int (nI k))]) (st2 := [.int 0, .ref 206, .long (ml0.getD k 0), .ref 162]) (h2 := h) (dc2 := dc) (ds2 := ds) 1 rfl ?_
    refine wq_inlv (y2 := 221) (as := [.long (ml0.getD k 0), .ref 206, .int 0]) rfl rfl rfl hM rfl (wq_mono (m_unp (x := (ml0.getD k 0)) hM hC hH) ?_)
    rintro _ ⟨h1x, hr2x, rfl, f3x, e4x, u5x, u6x, u7x, u8x, u9x, u10x⟩
    show wq 237 53 [(0, .ref 162), (1, .int 1), (2, .int b), (3, .int le), (4, .int (nI k))] [] h1x dc ds _
    refine wq_gos (f := 1) (pc2 := 55) (ls2 := [(0, .ref 162), (1, .int 1), (2, .int b), (3, .int le), (4, .int (nI k))]) (st2 := [.ref 162, .ref 162]) (h2 := h1x) (dc2 := dc) (ds2 := ds) 2 rfl ?_
    have e11x := (f3x.2 _ _ (wnc (by decide) wn0) hM)
    refine wq_getf rfl e11x (hC.2 (24, 188) (by decide)) rfl ?_
    refine wq_gos (f := 1) (pc2 := 60) (ls2 := [(0, .ref 162), (1, .int 1), (2, .int b), (3, .int le), (4, .int (nI k))]) (st2 := [.ref 162, .int 0, .ref 188, .ref 162]) (h2 := h1x) (dc2 := dc) (ds2 := ds) 2 rfl ?_
    refine wq_getf rfl e11x (hC.2 (40, 206) (by decide)) rfl ?_
    refine wq_gos (f := 1) (pc2 := 64) (ls2 := [(0, .ref 162), (1, .int 1), (2, .int b), (3, .int le), (4, .int (nI k))]) (st2 := [.int 0, .ref 206, .int 0, .ref 188, .ref 162]) (h2 := h1x) (dc2 := dc) (ds2 := ds) 1 rfl ?_
    have e12x := (f3x.2 _ _ (wnc (by decide) wn0) c172)
    have e13x := (f3x.2 _ _ (wnc (by decide) wn0) c188)
    refine wq_inlv (y2 := 233) (as := [.ref 188, .int 0, .ref 206, .int 0]) rfl rfl rfl e11x rfl (wq_T (m_ticks0 e11x hC e12x e13x e4x u5x u6x u7x u8x u9x u10x) ?_)
    show wq 237 67 [(0, .ref 162), (1, .int 1), (2, .int b), (3, .int le), (4, .int (nI k))] [.int (mtks (mjo0 (ml0.getD k 0)) (mjo1 (ml0.getD k 0)) (mjo2 (ml0.getD k 0)) (mjo3 (ml0.getD k 0)) (mjo4 (ml0.getD k 0)) (mjo5 (ml0.getD k 0)))] h1x dc ds _
    refine wq_gos (f := 1) (pc2 := 75) (ls2 := [(5, .int (mtks (mjo0 (ml0.getD k 0)) (mjo1 (ml0.getD k 0)) (mjo2 (ml0.getD k 0)) (mjo3 (ml0.getD k 0)) (mjo4 (ml0.getD k 0)) (mjo5 (ml0.getD k 0)))), (0, .ref 162), (1, .int 1), (2, .int b), (3, .int le), (4, .int (nI k))]) (st2 := [.ref 162, .ref 162]) (h2 := h1x) (dc2 := dc) (ds2 := ds) 5 rfl ?_
    refine wq_getf rfl e11x (hC.2 (24, 188) (by decide)) rfl ?_
    refine wq_gos (f := 1) (pc2 := 80) (ls2 := [(5, .int (mtks (mjo0 (ml0.getD k 0)) (mjo1 (ml0.getD k 0)) (mjo2 (ml0.getD k 0)) (mjo3 (ml0.getD k 0)) (mjo4 (ml0.getD k 0)) (mjo5 (ml0.getD k 0)))), (0, .ref 162), (1, .int 1), (2, .int b), (3, .int le), (4, .int (nI k))]) (st2 := [.ref 162, .int 0, .ref 188, .ref 162]) (h2 := h1x) (dc2 := dc) (ds2 := ds) 2 rfl ?_
    refine wq_getf rfl e11x (hC.2 (40, 206) (by decide)) rfl ?_
    refine wq_gos (f := 1) (pc2 := 84) (ls2 := [(5, .int (mtks (mjo0 (ml0.getD k 0)) (mjo1 (ml0.getD k 0)) (mjo2 (ml0.getD k 0)) (mjo3 (ml0.getD k 0)) (mjo4 (ml0.getD k 0)) (mjo5 (ml0.getD k 0)))), (0, .ref 162), (1, .int 1), (2, .int b), (3, .int le), (4, .int (nI k))]) (st2 := [.int 0, .ref 206, .int 0, .ref 188, .ref 162]) (h2 := h1x) (dc2 := dc) (ds2 := ds) 1 rfl ?_
    refine wq_inlv (y2 := 234) (as := [.ref 188, .int 0, .ref 206, .int 0]) rfl rfl rfl e11x rfl (wq_T (m_kept0 e11x hC e13x) ?_)
    show wq 237 87 [(5, .int (mtks (mjo0 (ml0.getD k 0)) (mjo1 (ml0.getD k 0)) (mjo2 (ml0.getD k 0)) (mjo3 (ml0.getD k 0)) (mjo4 (ml0.getD k 0)) (mjo5 (ml0.getD k 0)))), (0, .ref 162), (1, .int 1), (2, .int b), (3, .int le), (4, .int (nI k))] [.int 0] h1x dc ds _
    refine wq_gos (f := 1) (pc2 := 114) (ls2 := [(4, .int ((nI k) + 1)), (5, .int (mtks (mjo0 (ml0.getD k 0)) (mjo1 (ml0.getD k 0)) (mjo2 (ml0.getD k 0)) (mjo3 (ml0.getD k 0)) (mjo4 (ml0.getD k 0)) (mjo5 (ml0.getD k 0)))), (0, .ref 162), (1, .int 1), (2, .int b), (3, .int le)]) (st2 := []) (h2 := h1x) (dc2 := dc) (ds2 := ds) 2 rfl ?_
    rw [nI_1]
    refine wq_gos (f := 1) (pc2 := 29) (ls2 := [(4, .int (nI (k + 1))), (5, .int (mtks (mjo0 (ml0.getD k 0)) (mjo1 (ml0.getD k 0)) (mjo2 (ml0.getD k 0)) (mjo3 (ml0.getD k 0)) (mjo4 (ml0.getD k 0)) (mjo5 (ml0.getD k 0)))), (0, .ref 162), (1, .int 1), (2, .int b), (3, .int le)]) (st2 := []) (h2 := h1x) (dc2 := dc) (ds2 := ds) 1 rfl ?_
    have e14x := (f3x.2 _ _ (wnc (by decide) wn0) hF)
    have hx : neS (m + 1) k b le = neS m (k + 1) b le := rfl
    rw [hx]
    refine wq_ls [(0, .ref 162), (1, .int 1), (2, .int b), (3, .int le), (4, .int (nI (k + 1)))] (show ([0, 1, 2, 3, 4] : List Nat).Nodup by decide) ⟨rfl, rfl, rfl, rfl, rfl, trivial⟩ ?_
    exact ih (k + 1) b le h1x _ dc ds (by omega) e11x e12x e13x e14x e4x
set_option maxRecDepth 100000 in
set_option maxHeartbeats 4000000 in
theorem c_o17 {h : zH} (c0 : zat h 0 = some (.inr (.inr (.inr (9, [.ref 2, .int 0, .ref 4, .ref 6, .ref 20, .long 70644700037184, .ref 34, .ref 36, .int 0, .long 0, .ref 42, .ref 44, .ref 60, .ref 66, .ref 72, .ref 74, .ref 150, .ref 158]))))) (c6 : zat h 6 = some (.inr (.inr (.inr (0, [.int 9, .int 4, .int 10, .int 2, .int 0, .long 70644700037184, .ref 8, .ref 10, .ref 12, .int 0, .ref 14, .ref 16, .int 0, .ref 18]))))) (c8 : zat h 8 = some (.inl (0, 6, [0, (-32), (-32), (-32), (-32), (-64)]))) (c10 : zat h 10 = some (.inl (0, 6, [99, 31, 31, 31, 31, 63]))) (c34 : zat h 34 = some (.inl (0, 6, [22000000, 0, 10000, 0, 0, 0]))) (c44 : zat h 44 = some (.inr (.inr (.inr (7, [.null, .null, .ref 46, .int 0, .ref 48, .ref 50, .ref 52, .ref 54, .ref 56, .ref 58]))))) (c46 : zat h 46 = some (.inl (0, 6, []))) (c48 : zat h 48 = some (.inl (0, 128, []))) (c50 : zat h 50 = some (.inl (0, 128, []))) (c52 : zat h 52 = some (.inl (0, 128, []))) (c54 : zat h 54 = some (.inl (0, 128, []))) (c56 : zat h 56 = some (.inl (0, 101, []))) (c58 : zat h 58 = some (.inr (.inl (16, [])))) (c60 : zat h 60 = some (.inr (.inr (.inr (1, [.int 0, .int 0, .ref 62, .ref 64, .int 0, .int 0]))))) (c62 : zat h 62 = some (.inr (.inl (16, [])))) (c64 : zat h 64 = some (.inl (0, 6, []))) (c12 : zat h 12 = some (.inl (0, 6, [4, 4, 4, 4, 4, 4]))) (hlen : 117 ≤ h.length) : wq 118 0 [(0, .ref 0)] [] h 0 0 (fun r => ∃ (h2 : zH) (d s : Nat), r = (some (.int (clC 264 0 (-2) (-1))), h2, d, s) ∧ wFr [0, 36, 38, 40, 62, 60, 64, 44, 46, 48, 50, 52, 54, 56, 58] h h2 ∧ d ≤ 1200 ∧ s ≤ 720000) := by
  refine wq_gos (f := 1) (pc2 := 1) (ls2 := [(0, .ref 0)]) (st2 := [.ref 0]) (h2 := h) (dc2 := 0) (ds2 := 0) 1 rfl ?_
  refine wq_inlv (y2 := 148) (as := []) rfl rfl rfl c0 rfl (wq_mono (c_held0 c0 c6 c8 c10 c34 c44 c46 c48 c50 c52 c54 c56 c58 c60 c62 c64 hlen) ?_)
  rintro _ ⟨h8, rL2, cap2, ks2, fa2, li2, d, s, rfl, f8, j9, j11, j15, j14⟩
  show wq 118 4 [(0, .ref 0)] [.ref 60] h8 (0 + d) (0 + s) _
  rw [Nat.zero_add, Nat.zero_add]
  refine wq_gos (f := 1) (pc2 := 6) (ls2 := [(1, .ref 60), (0, .ref 0)]) (st2 := [.ref 60]) (h2 := h8) (dc2 := d) (ds2 := s) 2 rfl ?_
  refine wq_inlv (y2 := 16) (as := []) rfl rfl rfl j9 rfl ?_
  show wq 16 0 [(0, .ref 60)] [] h8 0 0 _
  refine wq_gos (f := 1) (pc2 := 1) (ls2 := [(0, .ref 60)]) (st2 := [.ref 60]) (h2 := h8) (dc2 := 0) (ds2 := 0) 1 rfl ?_
  refine wq_getf rfl j9 rfl rfl ?_
  refine wq_gos (f := 1) (pc2 := 15) (ls2 := [(0, .ref 60)]) (st2 := [.int 0]) (h2 := h8) (dc2 := 0) (ds2 := 0) 3 rfl ?_
  refine wq_ret rfl rfl ?_
  show wq 118 9 [(1, .ref 60), (0, .ref 0)] [.int 0] h8 d s _
  refine wq_gos (f := 1) (pc2 := 23) (ls2 := [(4, .int 0), (3, .int (-1)), (2, .int (-2)), (1, .ref 60), (0, .ref 0)]) (st2 := []) (h2 := h8) (dc2 := d) (ds2 := s) 7 rfl ?_
  refine wq_ls [(0, .ref 0), (1, .ref 60), (2, .int (-2)), (3, .int (-1)), (4, .int (nI 0))] (show ([0, 1, 2, 3, 4] : List Nat).Nodup by decide) ⟨rfl, rfl, rfl, rfl, rfl, trivial⟩ ?_
  refine wq_mono (c_clL  j9 j11 j15 ⟨by omega, by omega⟩ 264 0 (-2) (-1) d s (by decide)) ?_
  rintro _ rfl
  exact ⟨h8, d, s, rfl, (wFr_tr (wFr_rf _ _) (wFr_sub f8 (by simp))), by omega, by omega⟩
set_option maxRecDepth 100000 in
set_option maxHeartbeats 4000000 in
theorem m_o17 {h : zH} {fs : List Value} (hM : zat h 162 = some (.inr (.inr (.inr (10, fs))))) (hC : mC fs) (c166 : zat h 166 = some (.inl (0, 14, [9, 4, 10, 2, 0, 0, 0, 9, 4, 10, 2, 0, 0, 0]))) (c168 : zat h 168 = some (.inl (0, 12, [0, (-32), (-32), (-32), (-32), (-64), 0, (-32), (-32), (-32), (-32), (-64)]))) (c170 : zat h 170 = some (.inl (0, 12, [99, 31, 31, 31, 31, 63, 99, 31, 31, 31, 31, 63]))) (c190 : zat h 190 = some (.inl (0, 6, [22000000, 0, 10000, 0, 0, 0]))) (c196 : zat h 196 = some (.inr (.inl (6000, [])))) (c200 : zat h 200 = some (.inl (0, 4096, []))) (c202 : zat h 202 = some (.inl (0, 4096, []))) (c204 : zat h 204 = some (.inl (0, 6, []))) (c172 : zat h 172 = some (.inl (0, 12, [4, 4, 4, 4, 4, 4, 4, 4, 4, 4, 4, 4]))) (c188 : zat h 188 = some (.inl (0, 6, [0, 0, 0, 0, 0, 0]))) (c206 : zat h 206 = some (.inl (0, 6, []))) (h33 : fs[33]? = some (.int 0)) (h27 : fs[27]? = some (.int 0)) : wq 238 0 [(0, .ref 162)] [] h 0 0 (fun r => ∃ h2, r = (some (.int (clC 264 0 (-2) (-1))), h2, 0, 0)) := by
  refine wq_gos (f := 1) (pc2 := 2) (ls2 := [(0, .ref 162)]) (st2 := [.int 0, .ref 162]) (h2 := h) (dc2 := 0) (ds2 := 0) 2 rfl ?_
  refine wq_putf rfl hM rfl (by rw [hC.1]; rfl) rfl ?_
  intro h1x e2x f3x l4x
  obtain ⟨fs5x, hf6x⟩ : ∃ x, x = fs.set 0 (.int 0) := ⟨_, rfl⟩
  rw [← hf6x] at e2x
  have hC7x : mC fs5x := by rw [hf6x]; exact mC_set hC (by decide) _
  have p8x : fs5x[33]? = some (.int 0) := by rw [hf6x, List.getElem?_set_ne (by decide)]; exact h33
  have p9x : fs5x[27]? = some (.int 0) := by rw [hf6x, List.getElem?_set_ne (by decide)]; exact h27
  have p10x : fs5x[0]? = some (.int 0) := by rw [hf6x]; exact List.getElem?_set_self (by rw [hC.1]; decide)
  refine wq_gos (f := 1) (pc2 := 6) (ls2 := [(0, .ref 162)]) (st2 := [.ref 162]) (h2 := h1x) (dc2 := 0) (ds2 := 0) 1 rfl ?_
  have e11x := (f3x.2 _ _ (wnc (by decide) wn0) c166)
  have e12x := (f3x.2 _ _ (wnc (by decide) wn0) c168)
  have e13x := (f3x.2 _ _ (wnc (by decide) wn0) c170)
  have e14x := (f3x.2 _ _ (wnc (by decide) wn0) c190)
  have e15x := (f3x.2 _ _ (wnc (by decide) wn0) c196)
  have e16x := (f3x.2 _ _ (wnc (by decide) wn0) c200)
  have e17x := (f3x.2 _ _ (wnc (by decide) wn0) c202)
  have e18x := (f3x.2 _ _ (wnc (by decide) wn0) c204)
  refine wq_inlv (y2 := 227) (as := []) rfl rfl rfl e2x rfl (wq_mono (m_aim0 e2x hC7x e11x e12x e13x e14x e15x e16x e17x e18x p8x p9x) ?_)
  rintro _ ⟨h8, fs8, fo8, rfl, f8, hM8, hC8, h328, h398, h278, hF8, hfo⟩
  show wq 238 9 [(0, .ref 162)] [] h8 0 0 _
  refine wq_gos (f := 1) (pc2 := 10) (ls2 := [(0, .ref 162)]) (st2 := [.ref 162]) (h2 := h8) (dc2 := 0) (ds2 := 0) 1 rfl ?_
  refine wq_getf rfl hM8 h328 rfl ?_
  refine wq_gos (f := 1) (pc2 := 28) (ls2 := [(3, .int 0), (2, .int (-1)), (1, .int (-2)), (0, .ref 162)]) (st2 := []) (h2 := h8) (dc2 := 0) (ds2 := 0) 8 rfl ?_
  have e19x := (f8.2 _ _ (wnc (by decide) (wnc (by decide) (wnc (by decide) (wnc (by decide) (wnc (by decide) wn0))))) (f3x.2 _ _ (wnc (by decide) wn0) c172))
  have e20x := (f8.2 _ _ (wnc (by decide) (wnc (by decide) (wnc (by decide) (wnc (by decide) (wnc (by decide) wn0))))) (f3x.2 _ _ (wnc (by decide) wn0) c188))
  have e21x := (f8.2 _ _ (wnc (by decide) (wnc (by decide) (wnc (by decide) (wnc (by decide) (wnc (by decide) wn0))))) (f3x.2 _ _ (wnc (by decide) wn0) c206))
  refine wq_ls [(0, .ref 162), (1, .int (-2)), (2, .int (-1)), (3, .int (nI 0))] (show ([0, 1, 2, 3] : List Nat).Nodup by decide) ⟨rfl, rfl, rfl, rfl, trivial⟩ ?_
  refine wq_mono (m_clL hC8 h328 hfo 264 0 (-2) (-1) h8 _ 0 0 (by decide) hM8 e19x e20x hF8 e21x) ?_
  rintro _ ⟨k0, rfl⟩
  exact ⟨k0, by rw [cl_eq]⟩
set_option maxRecDepth 100000 in
set_option maxHeartbeats 4000000 in
theorem c_o16f {h : zH} (c0 : zat h 0 = some (.inr (.inr (.inr (9, [.ref 2, .int 0, .ref 4, .ref 6, .ref 20, .long 70644700037184, .ref 34, .ref 36, .int 0, .long 0, .ref 42, .ref 44, .ref 60, .ref 66, .ref 72, .ref 74, .ref 150, .ref 158]))))) (c6 : zat h 6 = some (.inr (.inr (.inr (0, [.int 9, .int 4, .int 10, .int 2, .int 0, .long 70644700037184, .ref 8, .ref 10, .ref 12, .int 0, .ref 14, .ref 16, .int 0, .ref 18]))))) (c8 : zat h 8 = some (.inl (0, 6, [0, (-32), (-32), (-32), (-32), (-64)]))) (c10 : zat h 10 = some (.inl (0, 6, [99, 31, 31, 31, 31, 63]))) (c34 : zat h 34 = some (.inl (0, 6, [22000000, 0, 10000, 0, 0, 0]))) (c44 : zat h 44 = some (.inr (.inr (.inr (7, [.null, .null, .ref 46, .int 0, .ref 48, .ref 50, .ref 52, .ref 54, .ref 56, .ref 58]))))) (c46 : zat h 46 = some (.inl (0, 6, []))) (c48 : zat h 48 = some (.inl (0, 128, []))) (c50 : zat h 50 = some (.inl (0, 128, []))) (c52 : zat h 52 = some (.inl (0, 128, []))) (c54 : zat h 54 = some (.inl (0, 128, []))) (c56 : zat h 56 = some (.inl (0, 101, []))) (c58 : zat h 58 = some (.inr (.inl (16, [])))) (c60 : zat h 60 = some (.inr (.inr (.inr (1, [.int 0, .int 0, .ref 62, .ref 64, .int 0, .int 0]))))) (c62 : zat h 62 = some (.inr (.inl (16, [])))) (c64 : zat h 64 = some (.inl (0, 6, []))) (c12 : zat h 12 = some (.inl (0, 6, [4, 4, 4, 4, 4, 4]))) (hlen : 117 ≤ h.length) : wq 117 0 [(0, .ref 0), (1, .int 0)] [] h 0 0 (fun r => ∃ (h2 : zH) (d s : Nat), r = (some (.int (neC 264 0 (-2) 1000000)), h2, d, s) ∧ wFr [0, 36, 38, 40, 62, 60, 64, 44, 46, 48, 50, 52, 54, 56, 58] h h2 ∧ d ≤ 1200 ∧ s ≤ 720000) := by
  refine wq_gos (f := 1) (pc2 := 1) (ls2 := [(0, .ref 0), (1, .int 0)]) (st2 := [.ref 0]) (h2 := h) (dc2 := 0) (ds2 := 0) 1 rfl ?_
  refine wq_inlv (y2 := 148) (as := []) rfl rfl rfl c0 rfl (wq_mono (c_held0 c0 c6 c8 c10 c34 c44 c46 c48 c50 c52 c54 c56 c58 c60 c62 c64 hlen) ?_)
  rintro _ ⟨h8, rL2, cap2, ks2, fa2, li2, d, s, rfl, f8, j9, j11, j15, j14⟩
  show wq 117 4 [(0, .ref 0), (1, .int 0)] [.ref 60] h8 (0 + d) (0 + s) _
  rw [Nat.zero_add, Nat.zero_add]
  refine wq_gos (f := 1) (pc2 := 6) (ls2 := [(2, .ref 60), (0, .ref 0), (1, .int 0)]) (st2 := [.ref 60]) (h2 := h8) (dc2 := d) (ds2 := s) 2 rfl ?_
  refine wq_inlv (y2 := 16) (as := []) rfl rfl rfl j9 rfl ?_
  show wq 16 0 [(0, .ref 60)] [] h8 0 0 _
  refine wq_gos (f := 1) (pc2 := 1) (ls2 := [(0, .ref 60)]) (st2 := [.ref 60]) (h2 := h8) (dc2 := 0) (ds2 := 0) 1 rfl ?_
  refine wq_getf rfl j9 rfl rfl ?_
  refine wq_gos (f := 1) (pc2 := 15) (ls2 := [(0, .ref 60)]) (st2 := [.int 0]) (h2 := h8) (dc2 := 0) (ds2 := 0) 3 rfl ?_
  refine wq_ret rfl rfl ?_
  show wq 117 9 [(2, .ref 60), (0, .ref 0), (1, .int 0)] [.int 0] h8 d s _
  refine wq_gos (f := 1) (pc2 := 45) (ls2 := [(5, .int 0), (4, .int 1000000), (3, .int (-2)), (2, .ref 60), (0, .ref 0), (1, .int 0)]) (st2 := []) (h2 := h8) (dc2 := d) (ds2 := s) 7 rfl ?_
  have e1x := (f8.2 _ _ (wnc (by decide) (wnc (by decide) (wnc (by decide) (wnc (by decide) (wnc (by decide) (wnc (by decide) (wnc (by decide) (wnc (by decide) (wnc (by decide) (wnc (by decide) (wnc (by decide) wn0))))))))))) c0)
  have e2x := (f8.2 _ _ (wnc (by decide) (wnc (by decide) (wnc (by decide) (wnc (by decide) (wnc (by decide) (wnc (by decide) (wnc (by decide) (wnc (by decide) (wnc (by decide) (wnc (by decide) (wnc (by decide) wn0))))))))))) c6)
  have e3x := (f8.2 _ _ (wnc (by decide) (wnc (by decide) (wnc (by decide) (wnc (by decide) (wnc (by decide) (wnc (by decide) (wnc (by decide) (wnc (by decide) (wnc (by decide) (wnc (by decide) (wnc (by decide) wn0))))))))))) c12)
  refine wq_ls [(0, .ref 0), (1, .int 0), (2, .ref 60), (3, .int (-2)), (4, .int 1000000), (5, .int (nI 0))] (show ([0, 1, 2, 3, 4, 5] : List Nat).Nodup by decide) ⟨rfl, rfl, rfl, rfl, rfl, rfl, trivial⟩ ?_
  refine wq_mono (c_neL e1x e2x e3x j9 j11 j15 ⟨by omega, by omega⟩ 264 0 (-2) 1000000 d s (by decide)) ?_
  rintro _ rfl
  exact ⟨h8, d, s, rfl, (wFr_tr (wFr_rf _ _) (wFr_sub f8 (by simp))), by omega, by omega⟩
set_option maxRecDepth 100000 in
set_option maxHeartbeats 4000000 in
theorem m_o16f {h : zH} {fs : List Value} (hM : zat h 162 = some (.inr (.inr (.inr (10, fs))))) (hC : mC fs) (c166 : zat h 166 = some (.inl (0, 14, [9, 4, 10, 2, 0, 0, 0, 9, 4, 10, 2, 0, 0, 0]))) (c168 : zat h 168 = some (.inl (0, 12, [0, (-32), (-32), (-32), (-32), (-64), 0, (-32), (-32), (-32), (-32), (-64)]))) (c170 : zat h 170 = some (.inl (0, 12, [99, 31, 31, 31, 31, 63, 99, 31, 31, 31, 31, 63]))) (c190 : zat h 190 = some (.inl (0, 6, [22000000, 0, 10000, 0, 0, 0]))) (c196 : zat h 196 = some (.inr (.inl (6000, [])))) (c200 : zat h 200 = some (.inl (0, 4096, []))) (c202 : zat h 202 = some (.inl (0, 4096, []))) (c204 : zat h 204 = some (.inl (0, 6, []))) (c172 : zat h 172 = some (.inl (0, 12, [4, 4, 4, 4, 4, 4, 4, 4, 4, 4, 4, 4]))) (c188 : zat h 188 = some (.inl (0, 6, [0, 0, 0, 0, 0, 0]))) (c206 : zat h 206 = some (.inl (0, 6, []))) (h33 : fs[33]? = some (.int 0)) (h27 : fs[27]? = some (.int 0)) : wq 237 0 [(0, .ref 162), (1, .int 0)] [] h 0 0 (fun r => ∃ h2, r = (some (.int (neC 264 0 (-2) 1000000)), h2, 0, 0)) := by
  refine wq_gos (f := 1) (pc2 := 2) (ls2 := [(0, .ref 162), (1, .int 0)]) (st2 := [.int 0, .ref 162]) (h2 := h) (dc2 := 0) (ds2 := 0) 2 rfl ?_
  refine wq_putf rfl hM rfl (by rw [hC.1]; rfl) rfl ?_
  intro h1x e2x f3x l4x
  obtain ⟨fs5x, hf6x⟩ : ∃ x, x = fs.set 0 (.int 0) := ⟨_, rfl⟩
  rw [← hf6x] at e2x
  have hC7x : mC fs5x := by rw [hf6x]; exact mC_set hC (by decide) _
  have p8x : fs5x[33]? = some (.int 0) := by rw [hf6x, List.getElem?_set_ne (by decide)]; exact h33
  have p9x : fs5x[27]? = some (.int 0) := by rw [hf6x, List.getElem?_set_ne (by decide)]; exact h27
  have p10x : fs5x[0]? = some (.int 0) := by rw [hf6x]; exact List.getElem?_set_self (by rw [hC.1]; decide)
  refine wq_gos (f := 1) (pc2 := 6) (ls2 := [(0, .ref 162), (1, .int 0)]) (st2 := [.ref 162]) (h2 := h1x) (dc2 := 0) (ds2 := 0) 1 rfl ?_
  have e11x := (f3x.2 _ _ (wnc (by decide) wn0) c166)
  have e12x := (f3x.2 _ _ (wnc (by decide) wn0) c168)
  have e13x := (f3x.2 _ _ (wnc (by decide) wn0) c170)
  have e14x := (f3x.2 _ _ (wnc (by decide) wn0) c190)
  have e15x := (f3x.2 _ _ (wnc (by decide) wn0) c196)
  have e16x := (f3x.2 _ _ (wnc (by decide) wn0) c200)
  have e17x := (f3x.2 _ _ (wnc (by decide) wn0) c202)
  have e18x := (f3x.2 _ _ (wnc (by decide) wn0) c204)
  refine wq_inlv (y2 := 227) (as := []) rfl rfl rfl e2x rfl (wq_mono (m_aim0 e2x hC7x e11x e12x e13x e14x e15x e16x e17x e18x p8x p9x) ?_)
  rintro _ ⟨h8, fs8, fo8, rfl, f8, hM8, hC8, h328, h398, h278, hF8, hfo⟩
  show wq 237 9 [(0, .ref 162), (1, .int 0)] [] h8 0 0 _
  refine wq_gos (f := 1) (pc2 := 10) (ls2 := [(0, .ref 162), (1, .int 0)]) (st2 := [.ref 162]) (h2 := h8) (dc2 := 0) (ds2 := 0) 1 rfl ?_
  refine wq_getf rfl hM8 h328 rfl ?_
  refine wq_gos (f := 1) (pc2 := 29) (ls2 := [(4, .int 0), (3, .int 0), (2, .int (-2)), (0, .ref 162), (1, .int 0)]) (st2 := []) (h2 := h8) (dc2 := 0) (ds2 := 0) 8 rfl ?_
  have e19x := (f8.2 _ _ (wnc (by decide) (wnc (by decide) (wnc (by decide) (wnc (by decide) (wnc (by decide) wn0))))) (f3x.2 _ _ (wnc (by decide) wn0) c172))
  have e20x := (f8.2 _ _ (wnc (by decide) (wnc (by decide) (wnc (by decide) (wnc (by decide) (wnc (by decide) wn0))))) (f3x.2 _ _ (wnc (by decide) wn0) c188))
  have e21x := (f8.2 _ _ (wnc (by decide) (wnc (by decide) (wnc (by decide) (wnc (by decide) (wnc (by decide) wn0))))) (f3x.2 _ _ (wnc (by decide) wn0) c206))
  refine wq_ls [(0, .ref 162), (1, .int 0), (2, .int (-2)), (3, .int 0), (4, .int (nI 0))] (show ([0, 1, 2, 3, 4] : List Nat).Nodup by decide) ⟨rfl, rfl, rfl, rfl, rfl, trivial⟩ ?_
  refine wq_mono (m_neL hC8 h328 hfo 264 0 (-2) 0 h8 _ 0 0 (by decide) hM8 e19x e20x hF8 e21x) ?_
  rintro _ ⟨k0, rfl⟩
  exact ⟨k0, by rw [ne_eq]⟩
set_option maxRecDepth 100000 in
set_option maxHeartbeats 4000000 in
theorem c_o16t {h : zH} (c0 : zat h 0 = some (.inr (.inr (.inr (9, [.ref 2, .int 0, .ref 4, .ref 6, .ref 20, .long 70644700037184, .ref 34, .ref 36, .int 0, .long 0, .ref 42, .ref 44, .ref 60, .ref 66, .ref 72, .ref 74, .ref 150, .ref 158]))))) (c6 : zat h 6 = some (.inr (.inr (.inr (0, [.int 9, .int 4, .int 10, .int 2, .int 0, .long 70644700037184, .ref 8, .ref 10, .ref 12, .int 0, .ref 14, .ref 16, .int 0, .ref 18]))))) (c8 : zat h 8 = some (.inl (0, 6, [0, (-32), (-32), (-32), (-32), (-64)]))) (c10 : zat h 10 = some (.inl (0, 6, [99, 31, 31, 31, 31, 63]))) (c34 : zat h 34 = some (.inl (0, 6, [22000000, 0, 10000, 0, 0, 0]))) (c44 : zat h 44 = some (.inr (.inr (.inr (7, [.null, .null, .ref 46, .int 0, .ref 48, .ref 50, .ref 52, .ref 54, .ref 56, .ref 58]))))) (c46 : zat h 46 = some (.inl (0, 6, []))) (c48 : zat h 48 = some (.inl (0, 128, []))) (c50 : zat h 50 = some (.inl (0, 128, []))) (c52 : zat h 52 = some (.inl (0, 128, []))) (c54 : zat h 54 = some (.inl (0, 128, []))) (c56 : zat h 56 = some (.inl (0, 101, []))) (c58 : zat h 58 = some (.inr (.inl (16, [])))) (c60 : zat h 60 = some (.inr (.inr (.inr (1, [.int 0, .int 0, .ref 62, .ref 64, .int 0, .int 0]))))) (c62 : zat h 62 = some (.inr (.inl (16, [])))) (c64 : zat h 64 = some (.inl (0, 6, []))) (c12 : zat h 12 = some (.inl (0, 6, [4, 4, 4, 4, 4, 4]))) (hlen : 117 ≤ h.length) : wq 117 0 [(0, .ref 0), (1, .int 1)] [] h 0 0 (fun r => ∃ (h2 : zH) (d s : Nat), r = (some (.int (-2)), h2, d, s) ∧ wFr [0, 36, 38, 40, 62, 60, 64, 44, 46, 48, 50, 52, 54, 56, 58] h h2 ∧ d ≤ 1200 ∧ s ≤ 720000) := by
  refine wq_gos (f := 1) (pc2 := 1) (ls2 := [(0, .ref 0), (1, .int 1)]) (st2 := [.ref 0]) (h2 := h) (dc2 := 0) (ds2 := 0) 1 rfl ?_
  refine wq_inlv (y2 := 148) (as := []) rfl rfl rfl c0 rfl (wq_mono (c_held0 c0 c6 c8 c10 c34 c44 c46 c48 c50 c52 c54 c56 c58 c60 c62 c64 hlen) ?_)
  rintro _ ⟨h8, rL2, cap2, ks2, fa2, li2, d, s, rfl, f8, j9, j11, j15, j14⟩
  show wq 117 4 [(0, .ref 0), (1, .int 1)] [.ref 60] h8 (0 + d) (0 + s) _
  rw [Nat.zero_add, Nat.zero_add]
  refine wq_gos (f := 1) (pc2 := 6) (ls2 := [(2, .ref 60), (0, .ref 0), (1, .int 1)]) (st2 := [.ref 60]) (h2 := h8) (dc2 := d) (ds2 := s) 2 rfl ?_
  refine wq_inlv (y2 := 16) (as := []) rfl rfl rfl j9 rfl ?_
  show wq 16 0 [(0, .ref 60)] [] h8 0 0 _
  refine wq_gos (f := 1) (pc2 := 1) (ls2 := [(0, .ref 60)]) (st2 := [.ref 60]) (h2 := h8) (dc2 := 0) (ds2 := 0) 1 rfl ?_
  refine wq_getf rfl j9 rfl rfl ?_
  refine wq_gos (f := 1) (pc2 := 15) (ls2 := [(0, .ref 60)]) (st2 := [.int 0]) (h2 := h8) (dc2 := 0) (ds2 := 0) 3 rfl ?_
  refine wq_ret rfl rfl ?_
  show wq 117 9 [(2, .ref 60), (0, .ref 0), (1, .int 1)] [.int 0] h8 d s _
  refine wq_gos (f := 1) (pc2 := 45) (ls2 := [(5, .int 0), (4, .int 1000000), (3, .int (-2)), (2, .ref 60), (0, .ref 0), (1, .int 1)]) (st2 := []) (h2 := h8) (dc2 := d) (ds2 := s) 7 rfl ?_
  have e1x := (f8.2 _ _ (wnc (by decide) (wnc (by decide) (wnc (by decide) (wnc (by decide) (wnc (by decide) (wnc (by decide) (wnc (by decide) (wnc (by decide) (wnc (by decide) (wnc (by decide) (wnc (by decide) wn0))))))))))) c0)
  have e2x := (f8.2 _ _ (wnc (by decide) (wnc (by decide) (wnc (by decide) (wnc (by decide) (wnc (by decide) (wnc (by decide) (wnc (by decide) (wnc (by decide) (wnc (by decide) (wnc (by decide) (wnc (by decide) wn0))))))))))) c6)
  have e3x := (f8.2 _ _ (wnc (by decide) (wnc (by decide) (wnc (by decide) (wnc (by decide) (wnc (by decide) (wnc (by decide) (wnc (by decide) (wnc (by decide) (wnc (by decide) (wnc (by decide) (wnc (by decide) wn0))))))))))) c12)
  refine wq_ls [(0, .ref 0), (1, .int 1), (2, .ref 60), (3, .int (-2)), (4, .int 1000000), (5, .int (nI 0))] (show ([0, 1, 2, 3, 4, 5] : List Nat).Nodup by decide) ⟨rfl, rfl, rfl, rfl, rfl, rfl, trivial⟩ ?_
  refine wq_mono (c_neS e1x e2x e3x j9 j11 j15 ⟨by omega, by omega⟩ 264 0 (-2) 1000000 d s (by decide)) ?_
  rintro _ rfl
  exact ⟨h8, d, s, by rw [neS_eq], (wFr_tr (wFr_rf _ _) (wFr_sub f8 (by simp))), by omega, by omega⟩
set_option maxRecDepth 100000 in
set_option maxHeartbeats 4000000 in
theorem m_o16t {h : zH} {fs : List Value} (hM : zat h 162 = some (.inr (.inr (.inr (10, fs))))) (hC : mC fs) (c166 : zat h 166 = some (.inl (0, 14, [9, 4, 10, 2, 0, 0, 0, 9, 4, 10, 2, 0, 0, 0]))) (c168 : zat h 168 = some (.inl (0, 12, [0, (-32), (-32), (-32), (-32), (-64), 0, (-32), (-32), (-32), (-32), (-64)]))) (c170 : zat h 170 = some (.inl (0, 12, [99, 31, 31, 31, 31, 63, 99, 31, 31, 31, 31, 63]))) (c190 : zat h 190 = some (.inl (0, 6, [22000000, 0, 10000, 0, 0, 0]))) (c196 : zat h 196 = some (.inr (.inl (6000, [])))) (c200 : zat h 200 = some (.inl (0, 4096, []))) (c202 : zat h 202 = some (.inl (0, 4096, []))) (c204 : zat h 204 = some (.inl (0, 6, []))) (c172 : zat h 172 = some (.inl (0, 12, [4, 4, 4, 4, 4, 4, 4, 4, 4, 4, 4, 4]))) (c188 : zat h 188 = some (.inl (0, 6, [0, 0, 0, 0, 0, 0]))) (c206 : zat h 206 = some (.inl (0, 6, []))) (h33 : fs[33]? = some (.int 0)) (h27 : fs[27]? = some (.int 0)) : wq 237 0 [(0, .ref 162), (1, .int 1)] [] h 0 0 (fun r => ∃ h2, r = (some (.int (-2)), h2, 0, 0)) := by
  refine wq_gos (f := 1) (pc2 := 2) (ls2 := [(0, .ref 162), (1, .int 1)]) (st2 := [.int 0, .ref 162]) (h2 := h) (dc2 := 0) (ds2 := 0) 2 rfl ?_
  refine wq_putf rfl hM rfl (by rw [hC.1]; rfl) rfl ?_
  intro h1x e2x f3x l4x
  obtain ⟨fs5x, hf6x⟩ : ∃ x, x = fs.set 0 (.int 0) := ⟨_, rfl⟩
  rw [← hf6x] at e2x
  have hC7x : mC fs5x := by rw [hf6x]; exact mC_set hC (by decide) _
  have p8x : fs5x[33]? = some (.int 0) := by rw [hf6x, List.getElem?_set_ne (by decide)]; exact h33
  have p9x : fs5x[27]? = some (.int 0) := by rw [hf6x, List.getElem?_set_ne (by decide)]; exact h27
  have p10x : fs5x[0]? = some (.int 0) := by rw [hf6x]; exact List.getElem?_set_self (by rw [hC.1]; decide)
  refine wq_gos (f := 1) (pc2 := 6) (ls2 := [(0, .ref 162), (1, .int 1)]) (st2 := [.ref 162]) (h2 := h1x) (dc2 := 0) (ds2 := 0) 1 rfl ?_
  have e11x := (f3x.2 _ _ (wnc (by decide) wn0) c166)
  have e12x := (f3x.2 _ _ (wnc (by decide) wn0) c168)
  have e13x := (f3x.2 _ _ (wnc (by decide) wn0) c170)
  have e14x := (f3x.2 _ _ (wnc (by decide) wn0) c190)
  have e15x := (f3x.2 _ _ (wnc (by decide) wn0) c196)
  have e16x := (f3x.2 _ _ (wnc (by decide) wn0) c200)
  have e17x := (f3x.2 _ _ (wnc (by decide) wn0) c202)
  have e18x := (f3x.2 _ _ (wnc (by decide) wn0) c204)
  refine wq_inlv (y2 := 227) (as := []) rfl rfl rfl e2x rfl (wq_mono (m_aim0 e2x hC7x e11x e12x e13x e14x e15x e16x e17x e18x p8x p9x) ?_)
  rintro _ ⟨h8, fs8, fo8, rfl, f8, hM8, hC8, h328, h398, h278, hF8, hfo⟩
  show wq 237 9 [(0, .ref 162), (1, .int 1)] [] h8 0 0 _
  refine wq_gos (f := 1) (pc2 := 10) (ls2 := [(0, .ref 162), (1, .int 1)]) (st2 := [.ref 162]) (h2 := h8) (dc2 := 0) (ds2 := 0) 1 rfl ?_
  refine wq_getf rfl hM8 h328 rfl ?_
  refine wq_gos (f := 1) (pc2 := 29) (ls2 := [(4, .int 0), (3, .int 0), (2, .int (-2)), (0, .ref 162), (1, .int 1)]) (st2 := []) (h2 := h8) (dc2 := 0) (ds2 := 0) 8 rfl ?_
  have e19x := (f8.2 _ _ (wnc (by decide) (wnc (by decide) (wnc (by decide) (wnc (by decide) (wnc (by decide) wn0))))) (f3x.2 _ _ (wnc (by decide) wn0) c172))
  have e20x := (f8.2 _ _ (wnc (by decide) (wnc (by decide) (wnc (by decide) (wnc (by decide) (wnc (by decide) wn0))))) (f3x.2 _ _ (wnc (by decide) wn0) c188))
  have e21x := (f8.2 _ _ (wnc (by decide) (wnc (by decide) (wnc (by decide) (wnc (by decide) (wnc (by decide) wn0))))) (f3x.2 _ _ (wnc (by decide) wn0) c206))
  refine wq_ls [(0, .ref 162), (1, .int 1), (2, .int (-2)), (3, .int 0), (4, .int (nI 0))] (show ([0, 1, 2, 3, 4] : List Nat).Nodup by decide) ⟨rfl, rfl, rfl, rfl, rfl, trivial⟩ ?_
  refine wq_mono (m_neS hC8 h328 hfo 264 0 (-2) 0 h8 _ 0 0 (by decide) hM8 e19x e20x hF8 e21x) ?_
  rintro _ ⟨k0, rfl⟩
  exact ⟨k0, by rw [neS_eq]⟩
