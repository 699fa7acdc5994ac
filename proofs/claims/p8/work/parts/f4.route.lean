/-! The class: a route is begun, goes on. -/
theorem jmin_l {a b : Nat} (h : a ≤ b) (hb : b < 2 ^ 31) : jmin (nI a) (nI b) = nI a := by
  unfold jmin
  rw [nI_toInt (by omega), nI_toInt (by omega), if_neg (by omega)]
theorem jmax_n {a b : Nat} (ha : a < 2 ^ 31) (hb : b < 2 ^ 31) : jmax (nI a) (nI b) = nI (max a b) := by
  unfold jmax
  rw [nI_toInt (by omega), nI_toInt (by omega)]
  by_cases h : (a : Int) < b
  · rw [if_pos h, Nat.max_eq_right (by omega)]
  · rw [if_neg h, Nat.max_eq_left (by omega)]
theorem jmin_n {a b : Nat} (ha : a < 2 ^ 31) (hb : b < 2 ^ 31) : jmin (nI a) (nI b) = nI (min a b) := by
  unfold jmin
  rw [nI_toInt (by omega), nI_toInt (by omega)]
  by_cases h : (b : Int) < a
  · rw [if_pos h, Nat.min_eq_right (by omega)]
  · rw [if_neg h, Nat.min_eq_left (by omega)]
theorem wFr_gen {S S2 : List Nat} {h h2 h3 : zH} (a : wFr S h h2) (b : wFr S2 h2 h3) (c : ∀ q ∈ S2, q ∈ S ∨ 2 * h.length ≤ q) : wFr S h h3 :=
  ⟨Nat.le_trans a.1 b.1, fun q e hq hz => b.2 q e (fun k => by
    rcases c q k with d | d
    · exact hq d
    · have := zat_lt hz
      omega) (a.2 q e hq hz)⟩
set_option maxRecDepth 100000 in
set_option maxHeartbeats 4000000 in
theorem c_cpo {h : zH} {rA N n : Nat} {li : List Int64} (hI : zat h rA = some (.inr (.inl (N, li)))) (hn : N < n ∧ n ≤ 67108864) : wq 287 0 [(0, .ref rA), (1, .int (nI n))] [] h 0 0 (fun rr9 => ∃ (h2 : zH) (rN : Nat) (d9 s9 : Nat), rr9 = (some (.ref rN), h2, d9, s9) ∧ wFr [] h h2 ∧ h.length ≤ h2.length ∧ zat h2 rN = some (.inr (.inl (n, (zcpy 0 li [] 0 0 N)))) ∧ (rN = 2 * h.length) ∧ (h2.length = h.length + 1) ∧ (d9 = 1 ∧ s9 = n)) := by
  have qnn := nI_toInt (n := n) (by omega)
  have qnN := nI_toInt (n := N) (by omega)
  refine wq_gos (f := 1) (pc2 := 2) (ls2 := [(0, .ref rA), (1, .int (nI n))]) (st2 := [.ref rA, .int (nI n)]) (h2 := h) (dc2 := 0) (ds2 := 0) 2 rfl ?_
  refine wq_alenl rfl hI rfl ?_
  try have q1x := nI_toInt (n := n) (by omega)
  try have q2x := nI_toInt (n := N) (by omega)
  refine wq_ne2t rfl (fun q => by have q9 := congrArg Int32.toInt q; omega) ?_
  refine wq_gos (f := 1) (pc2 := 15) (ls2 := [(0, .ref rA), (1, .int (nI n))]) (st2 := [.int (nI n)]) (h2 := h) (dc2 := 0) (ds2 := 0) 1 rfl ?_
  refine wq_newln rfl (by omega) rfl ?_
  intro h3x e4x f5x l6x
  refine wq_gos (f := 1) (pc2 := 23) (ls2 := [(2, .ref (2 * h.length)), (0, .ref rA), (1, .int (nI n))]) (st2 := [.ref rA, .int 0, .ref (2 * h.length), .int 0, .ref rA]) (h2 := h3x) (dc2 := (0 + 1)) (ds2 := (0 + n)) 6 rfl ?_
  have e7x := (f5x.2 _ _ wn0 hI)
  refine wq_alenl rfl e7x rfl ?_
  refine wq_gos (f := 1) (pc2 := 25) (ls2 := [(2, .ref (2 * h.length)), (0, .ref rA), (1, .int (nI n))]) (st2 := [.int (nI n), .int (nI N), .int 0, .ref (2 * h.length), .int 0, .ref rA]) (h2 := h3x) (dc2 := (0 + 1)) (ds2 := (0 + n)) 1 rfl ?_
  refine wq_inl (y2 := 285) (as := [.int (nI N), .int (nI n)]) rfl rfl rfl (wq_T (c_min (nI N) (nI n) h3x) ?_)
  show wq 287 28 [(2, .ref (2 * h.length)), (0, .ref rA), (1, .int (nI n))] [.int (jmin (nI N) (nI n)), .int 0, .ref (2 * h.length), .int 0, .ref rA] h3x (0 + 1) (0 + n) _
  refine wq_vi (show (jmin (nI N) (nI n)) = nI N from jmin_l (a := N) (b := n) (by omega) (by omega)) ?_
  have q8x : (0 : Int32).toInt = 0 := rfl
  refine wq_cpl rfl e7x e4x (by first | decide | omega) (by first | decide | omega) (by first | decide | omega) (by first | decide | omega) (by first | decide | omega) rfl ?_
  intro h9x e10x f11x l12x
  have e10x : zat h9x (2 * h.length) = some (.inr (.inl (n, (zcpy 0 li [] 0 0 ((nI N)).toNatClampNeg)))) := e10x
  refine wq_gos (f := 1) (pc2 := 32) (ls2 := [(2, .ref (2 * h.length)), (0, .ref rA), (1, .int (nI n))]) (st2 := [.ref (2 * h.length)]) (h2 := h9x) (dc2 := (0 + 1)) (ds2 := (0 + n)) 1 rfl ?_
  have e13x : zat h9x (2 * h.length) = some (.inr (.inl (n, zcpy 0 li [] 0 0 N))) := by rw [nI_clamp (n := N) (by omega)] at e10x; exact e10x
  exact wq_ret rfl rfl ⟨h9x, (2 * h.length), (0 + 1), (0 + n), rfl, (wFr_gen (wFr_tr (wFr_rf _ _) (wFr_sub f5x (by simp))) f11x (by intro q hq; simp only [List.mem_cons, List.not_mem_nil, or_false] at hq ⊢; omega)), (by omega), e13x, (by first | omega | assumption | decide | solve_by_elim), (by first | omega | assumption | decide | solve_by_elim), (by first | omega | assumption | decide | solve_by_elim)⟩
set_option maxRecDepth 100000 in
set_option maxHeartbeats 4000000 in
theorem c_rtb {h : zH} {rr rS T N : Nat} {kn : Int32} {fr : Int64} {stp : List Int64} {T9 w9 : Int32} {p : Int64} (hR : zat h rr = some (.inr (.inr (.inr (6, [.int kn, .long fr, .int T9, .ref (rr + 2), .ref (rr + 4), .ref rS]))))) (hS : zat h rS = some (.inr (.inl (N, stp)))) (hN : 1 ≤ N ∧ N ≤ 20000 ∧ rS ≠ rr) : wq 68 0 [(0, .ref rr), (1, .long p), (3, .int w9)] [] h 0 0 (fun rr9 => ∃ (h2 : zH), rr9 = (none, h2, 0, 0) ∧ wFr [rr, rS] h h2 ∧ h2.length = h.length ∧ zat h2 rr = some (.inr (.inr (.inr (6, [.int 1, .long p, .int w9, .ref (rr + 2), .ref (rr + 4), .ref rS])))) ∧ zat h2 rS = some (.inr (.inl (N, (zset 0 stp 0 p))))) := by
  refine wq_gos (f := 1) (pc2 := 2) (ls2 := [(0, .ref rr), (1, .long p), (3, .int w9)]) (st2 := [.int 1, .ref rr]) (h2 := h) (dc2 := 0) (ds2 := 0) 2 rfl ?_
  refine wq_putf rfl hR rfl rfl rfl ?_
  intro h1x e2x f3x l4x
  have e2x : zat h1x rr = some (.inr (.inr (.inr (6, [.int 1, .long fr, .int T9, .ref (rr + 2), .ref (rr + 4), .ref rS])))) := e2x
  refine wq_gos (f := 1) (pc2 := 7) (ls2 := [(0, .ref rr), (1, .long p), (3, .int w9)]) (st2 := [.long p, .ref rr]) (h2 := h1x) (dc2 := 0) (ds2 := 0) 2 rfl ?_
  refine wq_putf rfl e2x rfl rfl rfl ?_
  intro h5x e6x f7x l8x
  have e6x : zat h5x rr = some (.inr (.inr (.inr (6, [.int 1, .long p, .int T9, .ref (rr + 2), .ref (rr + 4), .ref rS])))) := e6x
  refine wq_gos (f := 1) (pc2 := 12) (ls2 := [(0, .ref rr), (1, .long p), (3, .int w9)]) (st2 := [.int w9, .ref rr]) (h2 := h5x) (dc2 := 0) (ds2 := 0) 2 rfl ?_
  refine wq_putf rfl e6x rfl rfl rfl ?_
  intro h9x e10x f11x l12x
  have e10x : zat h9x rr = some (.inr (.inr (.inr (6, [.int 1, .long p, .int w9, .ref (rr + 2), .ref (rr + 4), .ref rS])))) := e10x
  refine wq_gos (f := 1) (pc2 := 16) (ls2 := [(0, .ref rr), (1, .long p), (3, .int w9)]) (st2 := [.ref rr]) (h2 := h9x) (dc2 := 0) (ds2 := 0) 1 rfl ?_
  refine wq_getf rfl e10x rfl rfl ?_
  refine wq_gos (f := 1) (pc2 := 21) (ls2 := [(0, .ref rr), (1, .long p), (3, .int w9)]) (st2 := [.long p, .int 0, .ref rS]) (h2 := h9x) (dc2 := 0) (ds2 := 0) 2 rfl ?_
  have e13x := (f11x.2 _ _ (wnc (by omega) wn0) (f7x.2 _ _ (wnc (by omega) wn0) (f3x.2 _ _ (wnc (by omega) wn0) hS)))
  have q14x : (0 : Int32).toInt = 0 := rfl
  refine wq_last rfl e13x (zin_t (by decide) (by have z9 : (0 : Int32).toInt = 0 := rfl; omega)) rfl ?_
  intro h15x e16x f17x l18x
  have e16x : zat h15x rS = some (.inr (.inl (N, (zset 0 stp 0 p)))) := e16x
  have e19x := (f17x.2 _ _ (wnc (by omega) wn0) e10x)
  exact wq_ret rfl rfl ⟨h15x, rfl, (wFr_tr (wFr_sub f3x (by simp)) (wFr_tr (wFr_sub f7x (by simp)) (wFr_tr (wFr_sub f11x (by simp)) (wFr_sub f17x (by simp))))), (by omega), e19x, e16x⟩
noncomputable def gtF (T a : Nat) (ps to : Int64) : Nat → Nat → List Int64 → List Int64
  | 0, _, stp => stp
  | m + 1, k, stp => (if (nI a).toInt < (nI k).toInt then stp else (gtF T a ps to m (k + 1) (zset 0 stp (T + k) (jAlo ps to (nI k) (nI a)))))
set_option maxRecDepth 100000 in
set_option maxHeartbeats 4000000 in
theorem c_gtL {rr rS T N : Nat} {kn : Int32} {fr : Int64} {i a : Nat} {pk : Int32} {to ps : Int64} (hT : T + a < N ∧ N ≤ 20000 ∧ rS ≠ rr) {dc ds : Nat} {Q : zR → Prop} : ∀ (m : Nat) (k : Nat) (stp : List Int64) (h : zH) , (zat h rr = some (.inr (.inr (.inr (6, [.int kn, .long fr, .int (nI T), .ref (rr + 2), .ref (rr + 4), .ref rS]))))) → (zat h rS = some (.inr (.inl (N, stp)))) → (1 ≤ k ∧ k ≤ a + 1) → (a + 1 - k) < m → (∀ (h2 : zH) , (wFr [rS] h h2) → (h2.length = h.length) → (zat h2 rS = some (.inr (.inl (N, ((gtF T a ps to m k stp)))))) → wq 69 100 [(0, .ref rr), (1, .int (nI i)), (5, .int (nI a))] [] h2 dc ds Q) → wq 69 65 [(0, .ref rr), (1, .int (nI i)), (2, .int pk), (3, .long to), (5, .int (nI a)), (6, .long ps), (9, .int (nI k))] [] h dc ds Q := by
  intro m
  induction m with
  | zero => intro k stp h hR hS hk hms kk; omega
  | succ m ih =>
    intro k stp h hR hS hk hms kk
    have qnk := nI_toInt (n := k) (by omega)
    have qna := nI_toInt (n := a) (by omega)
    have qnT := nI_toInt (n := T) (by omega)
    refine wq_gos (f := 1) (pc2 := 69) (ls2 := [(0, .ref rr), (1, .int (nI i)), (2, .int pk), (3, .long to), (5, .int (nI a)), (6, .long ps), (9, .int (nI k))]) (st2 := [.int (nI a), .int (nI k)]) (h2 := h) (dc2 := dc) (ds2 := ds) 2 rfl ?_
    try have q1x := nI_toInt (n := k) (by omega)
    try have q2x := nI_toInt (n := a) (by omega)
    refine wq_gt2 rfl rfl (fun b3x => ?_) (fun b3x => ?_)
    · have hx : (gtF T a ps to (m + 1) k stp) = stp := by show (if _ then _ else _) = _; rw [if_pos b3x]
      rw [hx] at kk
      refine wq_ls [(0, .ref rr), (1, .int (nI i)), (5, .int (nI a))] (show ([0, 1, 5] : List Nat).Nodup by decide) ⟨rfl, rfl, rfl, trivial⟩ ?_
      exact kk h (wFr_rf _ _) (by omega) hS
    · refine wq_gos (f := 1) (pc2 := 73) (ls2 := [(0, .ref rr), (1, .int (nI i)), (2, .int pk), (3, .long to), (5, .int (nI a)), (6, .long ps), (9, .int (nI k))]) (st2 := [.ref rr]) (h2 := h) (dc2 := dc) (ds2 := ds) 1 rfl ?_
      refine wq_getf rfl hR rfl rfl ?_
      refine wq_gos (f := 1) (pc2 := 77) (ls2 := [(0, .ref rr), (1, .int (nI i)), (2, .int pk), (3, .long to), (5, .int (nI a)), (6, .long ps), (9, .int (nI k))]) (st2 := [.ref rr, .ref rS]) (h2 := h) (dc2 := dc) (ds2 := ds) 1 rfl ?_
      refine wq_getf rfl hR rfl rfl ?_
      refine wq_gos (f := 1) (pc2 := 83) (ls2 := [(0, .ref rr), (1, .int (nI i)), (2, .int pk), (3, .long to), (5, .int (nI a)), (6, .long ps), (9, .int (nI k))]) (st2 := [.int ((nI T) + (nI k)), .ref rS]) (h2 := h) (dc2 := dc) (ds2 := ds) 2 rfl ?_
      refine wq_vi (show (nI T) + (nI k) = nI (T + k) from nI_add T k) ?_
      refine wq_gos (f := 1) (pc2 := 90) (ls2 := [(0, .ref rr), (1, .int (nI i)), (2, .int pk), (3, .long to), (5, .int (nI a)), (6, .long ps), (9, .int (nI k))]) (st2 := [.int (nI a), .int (nI k), .long to, .long ps, .int (nI (T + k)), .ref rS]) (h2 := h) (dc2 := dc) (ds2 := ds) 4 rfl ?_
      refine wq_inl (y2 := 41) (as := [.long ps, .long to, .int (nI k), .int (nI a)]) rfl rfl rfl (wq_mono c_alo ?_)
      rintro _ rfl
      show wq 69 93 [(0, .ref rr), (1, .int (nI i)), (2, .int pk), (3, .long to), (5, .int (nI a)), (6, .long ps), (9, .int (nI k))] [.long (jAlo ps to (nI k) (nI a)), .int (nI (T + k)), .ref rS] h dc ds _
      try have q5x := nI_toInt (n := (T + k)) (by omega)
      refine wq_lastn rfl hS (by first | omega | exact zin_t (by omega) (by omega)) (by omega) rfl ?_
      intro h6x e7x f8x l9x
      have e7x : zat h6x rS = some (.inr (.inl (N, (zset 0 stp (T + k) (jAlo ps to (nI k) (nI a)))))) := e7x
      refine wq_gos (f := 1) (pc2 := 97) (ls2 := [(9, .int ((nI k) + 1)), (0, .ref rr), (1, .int (nI i)), (2, .int pk), (3, .long to), (5, .int (nI a)), (6, .long ps)]) (st2 := []) (h2 := h6x) (dc2 := dc) (ds2 := ds) 1 rfl ?_
      rw [nI_1]
      refine wq_gos (f := 1) (pc2 := 65) (ls2 := [(9, .int (nI (k + 1))), (0, .ref rr), (1, .int (nI i)), (2, .int pk), (3, .long to), (5, .int (nI a)), (6, .long ps)]) (st2 := []) (h2 := h6x) (dc2 := dc) (ds2 := ds) 1 rfl ?_
      try have q10x := nI_toInt (n := (k + 1)) (by omega)
      try have q11x := nI_toInt (n := i) (by omega)
      have e12x := (f8x.2 _ _ (wnc (by omega) wn0) hR)
      have hx : (gtF T a ps to (m + 1) k stp) = (gtF T a ps to m (k + 1) (zset 0 stp (T + k) (jAlo ps to (nI k) (nI a)))) := by show (if _ then _ else _) = _; rw [if_neg (Int.not_lt.mpr b3x)]
      rw [hx] at kk
      refine wq_ls [(0, .ref rr), (1, .int (nI i)), (2, .int pk), (3, .long to), (5, .int (nI a)), (6, .long ps), (9, .int (nI (k + 1)))] (show ([0, 1, 2, 3, 5, 6, 9] : List Nat).Nodup by decide) ⟨rfl, rfl, rfl, rfl, rfl, rfl, rfl, trivial⟩ ?_
      exact ih (k + 1) (zset 0 stp (T + k) (jAlo ps to (nI k) (nI a))) h6x e12x e7x (by first | omega | assumption | decide | solve_by_elim) (by omega) (fun h9 f9 l9 y0 => kk h9 (wFr_tr (wFr_sub f8x (by simp)) f9) (by omega) y0)
set_option maxRecDepth 100000 in
set_option maxHeartbeats 4000000 in
theorem c_goto {h : zH} {rr rS T N : Nat} {kn : Int32} {fr : Int64} {stp : List Int64} {i a : Nat} {pk : Int32} {to : Int64} {pks cns : List Int32} (hR : zat h rr = some (.inr (.inr (.inr (6, [.int kn, .long fr, .int (nI T), .ref (rr + 2), .ref (rr + 4), .ref rS]))))) (hS : zat h rS = some (.inr (.inl (N, stp)))) (hPk : zat h (rr + 2) = some (.inl (0, 10, pks))) (hCn : zat h (rr + 4) = some (.inl (0, 10, cns))) (hi : i < 10) (hT : T < N ∧ T + a ≤ 3000 ∧ N ≤ 6002) (hrr : (rr = 80 ∨ rr = 88) ∧ (rS = rr + 6 ∨ 234 ≤ rS) ∧ 117 ≤ h.length) : wq 69 0 [(0, .ref rr), (1, .int (nI i)), (2, .int pk), (3, .long to), (5, .int (nI a))] [] h 0 0 (fun rr9 => ∃ (h2 : zH) (rS2 : Nat) (N2 : Nat) (st2 : List Int64) (sb : List Int64) (d9 s9 : Nat), rr9 = (none, h2, d9, s9) ∧ wFr [rr, rS, (rr + 2), (rr + 4)] h h2 ∧ h.length ≤ h2.length ∧ zat h2 rr = some (.inr (.inr (.inr (6, [.int kn, .long fr, .int (nI (T + a)), .ref (rr + 2), .ref (rr + 4), .ref rS2])))) ∧ zat h2 rS2 = some (.inr (.inl (N2, st2))) ∧ zat h2 (rr + 2) = some (.inl (0, 10, (zset 0 pks i pk))) ∧ zat h2 (rr + 4) = some (.inl (0, 10, (zset 0 cns i (nI (T + a))))) ∧ (st2 = gtF T a (stp.getD T 0) to (a + 1 - 1 + 1) 1 sb) ∧ (∀ q, q < N → sb.getD q 0 = stp.getD q 0) ∧ (T + a < N2 ∧ N2 ≤ 6002 ∧ N ≤ N2) ∧ (rS2 = rS ∨ (2 * h.length ≤ rS2)) ∧ (d9 + N ≤ N2) ∧ (s9 + 2 * N ≤ 2 * N2)) := by
  have qna := nI_toInt (n := a) (by omega)
  have qnT := nI_toInt (n := T) (by omega)
  have qni := nI_toInt (n := i) (by omega)
  have qnN := nI_toInt (n := N) (by omega)
  have zr := zat_lt hR
  have zs := zat_lt hS
  have qta := nI_toInt (n := T + a) (by omega)
  have qta1 := nI_toInt (n := T + a + 1) (by omega)
  have q2n := nI_toInt (n := 2 * N) (by omega)
  refine wq_gos (f := 1) (pc2 := 1) (ls2 := [(0, .ref rr), (1, .int (nI i)), (2, .int pk), (3, .long to), (5, .int (nI a))]) (st2 := [.ref rr]) (h2 := h) (dc2 := 0) (ds2 := 0) 1 rfl ?_
  refine wq_getf rfl hR rfl rfl ?_
  refine wq_gos (f := 1) (pc2 := 6) (ls2 := [(0, .ref rr), (1, .int (nI i)), (2, .int pk), (3, .long to), (5, .int (nI a))]) (st2 := [.int pk, .int (nI i), .ref (rr + 2)]) (h2 := h) (dc2 := 0) (ds2 := 0) 2 rfl ?_
  try have q1x := nI_toInt (n := i) (by omega)
  refine wq_iastn rfl hPk (by first | omega | exact zin_t (by omega) (by omega)) (by decide) rfl ?_
  intro h2x e3x f4x l5x
  have e3x : zat h2x (rr + 2) = some (.inl (0, 10, (zset 0 pks i pk))) := e3x
  refine wq_gos (f := 1) (pc2 := 8) (ls2 := [(0, .ref rr), (1, .int (nI i)), (2, .int pk), (3, .long to), (5, .int (nI a))]) (st2 := [.ref rr]) (h2 := h2x) (dc2 := 0) (ds2 := 0) 1 rfl ?_
  have e6x := (f4x.2 _ _ (wnc (by omega) wn0) hR)
  refine wq_getf rfl e6x rfl rfl ?_
  refine wq_gos (f := 1) (pc2 := 12) (ls2 := [(0, .ref rr), (1, .int (nI i)), (2, .int pk), (3, .long to), (5, .int (nI a))]) (st2 := [.ref rr, .ref rS]) (h2 := h2x) (dc2 := 0) (ds2 := 0) 1 rfl ?_
  refine wq_getf rfl e6x rfl rfl ?_
  have e7x := (f4x.2 _ _ (wnc (by omega) wn0) hS)
  try have q8x := nI_toInt (n := T) (by omega)
  refine wq_laldn rfl e7x (by first | omega | exact zin_t (by omega) (by omega)) (by omega) rfl ?_
  refine wq_gos (f := 1) (pc2 := 19) (ls2 := [(6, .long (stp.getD T 0)), (0, .ref rr), (1, .int (nI i)), (2, .int pk), (3, .long to), (5, .int (nI a))]) (st2 := [.ref rr]) (h2 := h2x) (dc2 := 0) (ds2 := 0) 2 rfl ?_
  refine wq_getf rfl e6x rfl rfl ?_
  refine wq_gos (f := 1) (pc2 := 25) (ls2 := [(6, .long (stp.getD T 0)), (0, .ref rr), (1, .int (nI i)), (2, .int pk), (3, .long to), (5, .int (nI a))]) (st2 := [.int ((nI T) + (nI a))]) (h2 := h2x) (dc2 := 0) (ds2 := 0) 2 rfl ?_
  refine wq_vi (show (nI T) + (nI a) = nI (T + a) from nI_add T a) ?_
  refine wq_gos (f := 1) (pc2 := 27) (ls2 := [(6, .long (stp.getD T 0)), (0, .ref rr), (1, .int (nI i)), (2, .int pk), (3, .long to), (5, .int (nI a))]) (st2 := [.int ((nI (T + a)) + (1 : Int32))]) (h2 := h2x) (dc2 := 0) (ds2 := 0) 2 rfl ?_
  refine wq_vi (show (nI (T + a)) + (1 : Int32) = nI ((T + a) + 1) from nI_add (T + a) 1) ?_
  refine wq_gos (f := 1) (pc2 := 32) (ls2 := [(8, .int (nI ((T + a) + 1))), (6, .long (stp.getD T 0)), (0, .ref rr), (1, .int (nI i)), (2, .int pk), (3, .long to), (5, .int (nI a))]) (st2 := [.ref rr, .int (nI ((T + a) + 1))]) (h2 := h2x) (dc2 := 0) (ds2 := 0) 3 rfl ?_
  refine wq_getf rfl e6x rfl rfl ?_
  refine wq_alenl rfl e7x rfl ?_
  try have q9x := nI_toInt (n := ((T + a) + 1)) (by omega)
  try have q10x := nI_toInt (n := N) (by omega)
  refine wq_le2 rfl rfl (fun b11x => ?_) (fun b11x => ?_)
  · refine wq_gos (f := 1) (pc2 := 65) (ls2 := [(9, .int 1), (8, .int (nI ((T + a) + 1))), (6, .long (stp.getD T 0)), (0, .ref rr), (1, .int (nI i)), (2, .int pk), (3, .long to), (5, .int (nI a))]) (st2 := []) (h2 := h2x) (dc2 := 0) (ds2 := 0) 2 rfl ?_
    try have q12x := nI_toInt (n := a) (by omega)
    refine wq_ls [(0, .ref rr), (1, .int (nI i)), (2, .int pk), (3, .long to), (5, .int (nI a)), (6, .long (stp.getD T 0)), (9, .int (nI 1))] (show ([0, 1, 2, 3, 5, 6, 9] : List Nat).Nodup by decide) ⟨rfl, rfl, rfl, rfl, rfl, rfl, rfl, trivial⟩ ?_
    refine c_gtL (by first | omega | assumption | decide | solve_by_elim) ((a + 1 - 1) + 1) 1 stp h2x e6x e7x (by first | omega | assumption | decide | solve_by_elim) (by omega) ?_
    intro h813x f813x l813x c013x
    obtain ⟨v14x, hv15x⟩ : ∃ x, x = (gtF T a (stp.getD T 0) to ((a + 1 - 1) + 1) 1 stp) := ⟨_, rfl⟩
    try rw [← hv15x] at c013x
    try rw [← hv15x]
    show wq 69 100 [(0, .ref rr), (1, .int (nI i)), (5, .int (nI a))] [] h813x 0 0 _
    refine wq_gos (f := 1) (pc2 := 102) (ls2 := [(0, .ref rr), (1, .int (nI i)), (5, .int (nI a))]) (st2 := [.ref rr, .ref rr]) (h2 := h813x) (dc2 := 0) (ds2 := 0) 2 rfl ?_
    have e16x := (f813x.2 _ _ (wnc (by omega) wn0) e6x)
    refine wq_getf rfl e16x rfl rfl ?_
    refine wq_gos (f := 1) (pc2 := 108) (ls2 := [(0, .ref rr), (1, .int (nI i)), (5, .int (nI a))]) (st2 := [.int ((nI T) + (nI a)), .ref rr]) (h2 := h813x) (dc2 := 0) (ds2 := 0) 2 rfl ?_
    refine wq_vi (show (nI T) + (nI a) = nI (T + a) from nI_add T a) ?_
    refine wq_putf rfl e16x rfl rfl rfl ?_
    intro h17x e18x f19x l20x
    have e18x : zat h17x rr = some (.inr (.inr (.inr (6, [.int kn, .long fr, .int (nI (T + a)), .ref (rr + 2), .ref (rr + 4), .ref rS])))) := e18x
    refine wq_gos (f := 1) (pc2 := 112) (ls2 := [(0, .ref rr), (1, .int (nI i)), (5, .int (nI a))]) (st2 := [.ref rr]) (h2 := h17x) (dc2 := 0) (ds2 := 0) 1 rfl ?_
    refine wq_getf rfl e18x rfl rfl ?_
    refine wq_gos (f := 1) (pc2 := 117) (ls2 := [(0, .ref rr), (1, .int (nI i)), (5, .int (nI a))]) (st2 := [.ref rr, .int (nI i), .ref (rr + 4)]) (h2 := h17x) (dc2 := 0) (ds2 := 0) 2 rfl ?_
    refine wq_getf rfl e18x rfl rfl ?_
    have e21x := (f19x.2 _ _ (wnc (by omega) wn0) (f813x.2 _ _ (wnc (by omega) wn0) (f4x.2 _ _ (wnc (by omega) wn0) hCn)))
    refine wq_iastn rfl e21x (by first | omega | exact zin_t (by omega) (by omega)) (by decide) rfl ?_
    intro h22x e23x f24x l25x
    have e23x : zat h22x (rr + 4) = some (.inl (0, 10, (zset 0 cns i (nI (T + a))))) := e23x
    have e26x := (f24x.2 _ _ (wnc (by omega) wn0) e18x)
    have e27x := (f24x.2 _ _ (wnc (by omega) wn0) (f19x.2 _ _ (wnc (by omega) wn0) c013x))
    have e28x := (f24x.2 _ _ (wnc (by omega) wn0) (f19x.2 _ _ (wnc (by omega) wn0) (f813x.2 _ _ (wnc (by omega) wn0) e3x)))
    subst hv15x
    exact wq_ret rfl rfl ⟨h22x, rS, N, ((gtF T a (stp.getD T 0) to ((a + 1 - 1) + 1) 1 stp)), stp, 0, 0, rfl, (wFr_tr (wFr_sub f4x (by simp)) (wFr_tr (wFr_sub f813x (by simp)) (wFr_tr (wFr_sub f19x (by simp)) (wFr_sub f24x (by simp))))), (by omega), e26x, e27x, e28x, e23x, rfl, (fun _ _ => rfl), (by first | omega | assumption | decide | solve_by_elim), (by first | omega | assumption | decide | solve_by_elim), (by first | omega | assumption | decide | solve_by_elim), (by first | omega | assumption | decide | solve_by_elim)⟩
  · refine wq_gos (f := 1) (pc2 := 41) (ls2 := [(8, .int (nI ((T + a) + 1))), (6, .long (stp.getD T 0)), (0, .ref rr), (1, .int (nI i)), (2, .int pk), (3, .long to), (5, .int (nI a))]) (st2 := [.ref rr, .ref rr]) (h2 := h2x) (dc2 := 0) (ds2 := 0) 2 rfl ?_
    refine wq_getf rfl e6x rfl rfl ?_
    refine wq_gos (f := 1) (pc2 := 48) (ls2 := [(8, .int (nI ((T + a) + 1))), (6, .long (stp.getD T 0)), (0, .ref rr), (1, .int (nI i)), (2, .int pk), (3, .long to), (5, .int (nI a))]) (st2 := [.ref rr, .int 2, .int (nI ((T + a) + 1)), .ref rS, .ref rr]) (h2 := h2x) (dc2 := 0) (ds2 := 0) 3 rfl ?_
    refine wq_getf rfl e6x rfl rfl ?_
    refine wq_alenl rfl e7x rfl ?_
    refine wq_gos (f := 1) (pc2 := 53) (ls2 := [(8, .int (nI ((T + a) + 1))), (6, .long (stp.getD T 0)), (0, .ref rr), (1, .int (nI i)), (2, .int pk), (3, .long to), (5, .int (nI a))]) (st2 := [.int ((2 : Int32) * (nI N)), .int (nI ((T + a) + 1)), .ref rS, .ref rr]) (h2 := h2x) (dc2 := 0) (ds2 := 0) 1 rfl ?_
    refine wq_vi (show (2 : Int32) * (nI N) = nI (2 * N) from e_nmul 2 N) ?_
    refine wq_inl (y2 := 284) (as := [.int (nI ((T + a) + 1)), .int (nI (2 * N))]) rfl rfl rfl (wq_T (c_max (nI ((T + a) + 1)) (nI (2 * N)) h2x) ?_)
    show wq 69 56 [(8, .int (nI ((T + a) + 1))), (6, .long (stp.getD T 0)), (0, .ref rr), (1, .int (nI i)), (2, .int pk), (3, .long to), (5, .int (nI a))] [.int (jmax (nI ((T + a) + 1)) (nI (2 * N))), .ref rS, .ref rr] h2x 0 0 _
    refine wq_vi (show (jmax (nI ((T + a) + 1)) (nI (2 * N))) = nI (max ((T + a) + 1) (2 * N)) from jmax_n (a := ((T + a) + 1)) (b := (2 * N)) (by omega) (by omega)) ?_
    try have q29x := nI_toInt (n := (max ((T + a) + 1) (2 * N))) (by omega)
    refine wq_inl (y2 := 287) (as := [.ref rS, .int (nI (max ((T + a) + 1) (2 * N)))]) rfl rfl rfl (wq_mono (c_cpo e7x (by first | omega | assumption | decide | solve_by_elim)) ?_)
    rintro _ ⟨h830x, rN30x, d930x, s930x, rfl, f830x, l830x, c030x, p030x, p130x, al030x⟩
    show wq 69 59 [(8, .int (nI ((T + a) + 1))), (6, .long (stp.getD T 0)), (0, .ref rr), (1, .int (nI i)), (2, .int pk), (3, .long to), (5, .int (nI a))] [.ref rN30x, .ref rr] h830x (0 + d930x) (0 + s930x) _
    have e31x := (f830x.2 _ _ wn0 e6x)
    refine wq_putf rfl e31x rfl rfl rfl ?_
    intro h32x e33x f34x l35x
    have e33x : zat h32x rr = some (.inr (.inr (.inr (6, [.int kn, .long fr, .int (nI T), .ref (rr + 2), .ref (rr + 4), .ref rN30x])))) := e33x
    refine wq_gos (f := 1) (pc2 := 65) (ls2 := [(9, .int 1), (8, .int (nI ((T + a) + 1))), (6, .long (stp.getD T 0)), (0, .ref rr), (1, .int (nI i)), (2, .int pk), (3, .long to), (5, .int (nI a))]) (st2 := []) (h2 := h32x) (dc2 := (0 + d930x)) (ds2 := (0 + s930x)) 2 rfl ?_
    try have q36x := nI_toInt (n := a) (by omega)
    have e37x := (f34x.2 _ _ (wnc (by omega) wn0) c030x)
    refine wq_ls [(0, .ref rr), (1, .int (nI i)), (2, .int pk), (3, .long to), (5, .int (nI a)), (6, .long (stp.getD T 0)), (9, .int (nI 1))] (show ([0, 1, 2, 3, 5, 6, 9] : List Nat).Nodup by decide) ⟨rfl, rfl, rfl, rfl, rfl, rfl, rfl, trivial⟩ ?_
    refine c_gtL (by first | omega | assumption | decide | solve_by_elim) ((a + 1 - 1) + 1) 1 (zcpy 0 stp [] 0 0 N) h32x e33x e37x (by first | omega | assumption | decide | solve_by_elim) (by omega) ?_
    intro h838x f838x l838x c038x
    obtain ⟨v39x, hv40x⟩ : ∃ x, x = (gtF T a (stp.getD T 0) to ((a + 1 - 1) + 1) 1 (zcpy 0 stp [] 0 0 N)) := ⟨_, rfl⟩
    try rw [← hv40x] at c038x
    try rw [← hv40x]
    show wq 69 100 [(0, .ref rr), (1, .int (nI i)), (5, .int (nI a))] [] h838x (0 + d930x) (0 + s930x) _
    refine wq_gos (f := 1) (pc2 := 102) (ls2 := [(0, .ref rr), (1, .int (nI i)), (5, .int (nI a))]) (st2 := [.ref rr, .ref rr]) (h2 := h838x) (dc2 := (0 + d930x)) (ds2 := (0 + s930x)) 2 rfl ?_
    have e41x := (f838x.2 _ _ (wnc (by omega) wn0) e33x)
    refine wq_getf rfl e41x rfl rfl ?_
    refine wq_gos (f := 1) (pc2 := 108) (ls2 := [(0, .ref rr), (1, .int (nI i)), (5, .int (nI a))]) (st2 := [.int ((nI T) + (nI a)), .ref rr]) (h2 := h838x) (dc2 := (0 + d930x)) (ds2 := (0 + s930x)) 2 rfl ?_
    refine wq_vi (show (nI T) + (nI a) = nI (T + a) from nI_add T a) ?_
    refine wq_putf rfl e41x rfl rfl rfl ?_
    intro h42x e43x f44x l45x
    have e43x : zat h42x rr = some (.inr (.inr (.inr (6, [.int kn, .long fr, .int (nI (T + a)), .ref (rr + 2), .ref (rr + 4), .ref rN30x])))) := e43x
    refine wq_gos (f := 1) (pc2 := 112) (ls2 := [(0, .ref rr), (1, .int (nI i)), (5, .int (nI a))]) (st2 := [.ref rr]) (h2 := h42x) (dc2 := (0 + d930x)) (ds2 := (0 + s930x)) 1 rfl ?_
    refine wq_getf rfl e43x rfl rfl ?_
    refine wq_gos (f := 1) (pc2 := 117) (ls2 := [(0, .ref rr), (1, .int (nI i)), (5, .int (nI a))]) (st2 := [.ref rr, .int (nI i), .ref (rr + 4)]) (h2 := h42x) (dc2 := (0 + d930x)) (ds2 := (0 + s930x)) 2 rfl ?_
    refine wq_getf rfl e43x rfl rfl ?_
    have e46x := (f44x.2 _ _ (wnc (by omega) wn0) (f838x.2 _ _ (wnc (by omega) wn0) (f34x.2 _ _ (wnc (by omega) wn0) (f830x.2 _ _ wn0 (f4x.2 _ _ (wnc (by omega) wn0) hCn)))))
    refine wq_iastn rfl e46x (by first | omega | exact zin_t (by omega) (by omega)) (by decide) rfl ?_
    intro h47x e48x f49x l50x
    have e48x : zat h47x (rr + 4) = some (.inl (0, 10, (zset 0 cns i (nI (T + a))))) := e48x
    have e51x := (f49x.2 _ _ (wnc (by omega) wn0) e43x)
    have e52x := (f49x.2 _ _ (wnc (by omega) wn0) (f44x.2 _ _ (wnc (by omega) wn0) c038x))
    have e53x := (f49x.2 _ _ (wnc (by omega) wn0) (f44x.2 _ _ (wnc (by omega) wn0) (f838x.2 _ _ (wnc (by omega) wn0) (f34x.2 _ _ (wnc (by omega) wn0) (f830x.2 _ _ wn0 e3x)))))
    subst hv40x
    exact wq_ret rfl rfl ⟨h47x, rN30x, (max ((T + a) + 1) (2 * N)), ((gtF T a (stp.getD T 0) to ((a + 1 - 1) + 1) 1 (zcpy 0 stp [] 0 0 N))), (zcpy 0 stp [] 0 0 N), (0 + d930x), (0 + s930x), rfl, (wFr_tr (wFr_tr (wFr_gen (wFr_tr (wFr_tr (wFr_tr (wFr_rf _ _) (wFr_sub f4x (by simp))) (wFr_sub f830x (by simp))) (wFr_sub f34x (by simp))) f838x (by intro q hq; simp only [List.mem_cons, List.not_mem_nil, or_false] at hq ⊢; omega)) (wFr_sub f44x (by simp))) (wFr_sub f49x (by simp))), (by omega), e51x, e52x, e53x, e48x, rfl, (fun q hq => by rw [zcpy_get, if_pos ⟨Nat.zero_le _, by omega⟩]; congr 1; omega), (by first | omega | assumption | decide | solve_by_elim), (by first | omega | assumption | decide | solve_by_elim), (by first | omega | assumption | decide | solve_by_elim), (by first | omega | assumption | decide | solve_by_elim)⟩
