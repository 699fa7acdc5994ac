/-! The class: lookUp as a whole. -/
set_option maxRecDepth 100000 in
set_option maxHeartbeats 4000000 in
theorem c_lk2 {h : zH} {Q : zR → Prop} {ra rp rs : Nat} {wg ob al9 pr9 sr9 fw : Int32} (hPl : zat h 74 = some (.inr (.inr (.inr (3, [.ref 44, .ref ra, .ref 76, .ref 78, .ref 80, .ref 88, .int wg, .int ob, .ref 96, .int al9, .int pr9, .int sr9, .ref rp, .ref rs, .int fw]))))) (hwg : wg = 0) (kE : ∀ (h2 : zH), (wFr [74] h h2) → (h2.length = h.length) → (zat h2 74 = some (.inr (.inr (.inr (3, [.ref 44, .ref ra, .ref 76, .ref 78, .ref 80, .ref 88, .int 1, .int ob, .ref 96, .int 0, .int pr9, .int sr9, .ref rp, .ref rs, .int fw]))))) → wq 28 27 [(0, .ref 74), (1, .int 0), (2, .int 0), (3, .int 0), (4, .int 0)] [] h2 0 0 Q) : wq 28 0 [(0, .ref 74)] [] h 0 0 Q := by
  refine wq_gos (f := 1) (pc2 := 1) (ls2 := [(0, .ref 74)]) (st2 := [.ref 74]) (h2 := h) (dc2 := 0) (ds2 := 0) 1 rfl ?_
  refine wq_getf rfl hPl rfl rfl ?_
  refine wq_eq0t rfl hwg ?_
  refine wq_gos (f := 1) (pc2 := 10) (ls2 := [(0, .ref 74)]) (st2 := [.int 1, .ref 74]) (h2 := h) (dc2 := 0) (ds2 := 0) 2 rfl ?_
  refine wq_putf rfl hPl rfl rfl rfl ?_
  intro hh1x e2x ff3x lh4x
  have e2x : zat hh1x 74 = some (.inr (.inr (.inr (3, [.ref 44, .ref ra, .ref 76, .ref 78, .ref 80, .ref 88, .int 1, .int ob, .ref 96, .int al9, .int pr9, .int sr9, .ref rp, .ref rs, .int fw])))) := e2x
  refine wq_gos (f := 1) (pc2 := 21) (ls2 := [(3, .int 0), (2, .int 0), (1, .int 0), (0, .ref 74)]) (st2 := [.int 0, .ref 74]) (h2 := hh1x) (dc2 := 0) (ds2 := 0) 8 rfl ?_
  refine wq_putf rfl e2x rfl rfl rfl ?_
  intro hh5x e6x ff7x lh8x
  have e6x : zat hh5x 74 = some (.inr (.inr (.inr (3, [.ref 44, .ref ra, .ref 76, .ref 78, .ref 80, .ref 88, .int 1, .int ob, .ref 96, .int 0, .int pr9, .int sr9, .ref rp, .ref rs, .int fw])))) := e6x
  refine wq_gos (f := 1) (pc2 := 27) (ls2 := [(4, .int 0), (3, .int 0), (2, .int 0), (1, .int 0), (0, .ref 74)]) (st2 := []) (h2 := hh5x) (dc2 := 0) (ds2 := 0) 2 rfl ?_
  refine wq_ls [(0, .ref 74), (1, .int 0), (2, .int 0), (3, .int 0), (4, .int 0)] (show ([0, 1, 2, 3, 4] : List Nat).Nodup by decide) ⟨rfl, rfl, rfl, rfl, rfl, trivial⟩ ?_
  exact kE hh5x (wFr_tr (wFr_sub ff3x (by simp)) (wFr_sub ff7x (by simp))) (by omega) e6x
set_option maxRecDepth 100000 in
set_option maxHeartbeats 4000000 in
theorem c_lk3 {h : zH} {Q : zR → Prop} {dc ds : Nat} {ra rp rs : Nat} {wg ob al9 pr9 sr9 fw no tm : Int32} (hPl : zat h 74 = some (.inr (.inr (.inr (3, [.ref 44, .ref ra, .ref 76, .ref 78, .ref 80, .ref 88, .int wg, .int ob, .ref 96, .int al9, .int pr9, .int sr9, .ref rp, .ref rs, .int fw])))))  (k2 : ∀ (h2 : zH), (wFr [74] h h2) → (h2.length = h.length) → (zat h2 74 = some (.inr (.inr (.inr (3, [.ref 44, .ref ra, .ref 76, .ref 78, .ref 80, .ref 88, .int wg, .int (-2), .ref 96, .int al9, .int pr9, .int sr9, .ref rp, .ref rs, .int fw]))))) → (no ≠ 0) → Q (none, h2, dc, ds)) (k3 : ∀ (h2 : zH), (wFr [74] h h2) → (h2.length = h.length) → (zat h2 74 = some (.inr (.inr (.inr (3, [.ref 44, .ref ra, .ref 76, .ref 78, .ref 80, .ref 88, .int wg, .int (-3), .ref 96, .int al9, .int pr9, .int sr9, .ref rp, .ref rs, .int fw]))))) → (no = 0) → (tm ≠ 0) → Q (none, h2, dc, ds)) (k0 : ∀ (h2 : zH), (wFr [74] h h2) → (h2.length = h.length) → (zat h2 74 = some (.inr (.inr (.inr (3, [.ref 44, .ref ra, .ref 76, .ref 78, .ref 80, .ref 88, .int wg, .int 0, .ref 96, .int al9, .int pr9, .int sr9, .ref rp, .ref rs, .int fw]))))) → (no = 0) → (tm = 0) → Q (none, h2, dc, ds)) : wq 28 187 [(0, .ref 74), (1, .int no), (2, .int tm)] [] h dc ds Q := by
  refine wq_gos (f := 1) (pc2 := 189) (ls2 := [(0, .ref 74), (1, .int no), (2, .int tm)]) (st2 := [.int no, .ref 74]) (h2 := h) (dc2 := dc) (ds2 := ds) 2 rfl ?_
  refine wq_eq0 rfl rfl (fun b1x => ?_) (fun b1x => ?_)
  · have q2x : no.toInt = 0 := congrArg Int32.toInt b1x
    refine wq_gos (f := 1) (pc2 := 198) (ls2 := [(0, .ref 74), (1, .int no), (2, .int tm)]) (st2 := [.int tm, .ref 74]) (h2 := h) (dc2 := dc) (ds2 := ds) 1 rfl ?_
    refine wq_eq0 rfl rfl (fun b3x => ?_) (fun b3x => ?_)
    · have q4x : tm.toInt = 0 := congrArg Int32.toInt b3x
      refine wq_gos (f := 1) (pc2 := 207) (ls2 := [(0, .ref 74), (1, .int no), (2, .int tm)]) (st2 := [.int 0, .ref 74]) (h2 := h) (dc2 := dc) (ds2 := ds) 1 rfl ?_
      refine wq_putf rfl hPl rfl rfl rfl ?_
      intro hh5x e6x ff7x lh8x
      have e6x : zat hh5x 74 = some (.inr (.inr (.inr (3, [.ref 44, .ref ra, .ref 76, .ref 78, .ref 80, .ref 88, .int wg, .int 0, .ref 96, .int al9, .int pr9, .int sr9, .ref rp, .ref rs, .int fw])))) := e6x
      exact wq_ret rfl rfl (k0 hh5x (wFr_sub ff7x (by simp)) (by omega) e6x (by first | assumption | omega | decide | solve_by_elim) (by first | assumption | omega | decide | solve_by_elim))
    · have q9x : tm.toInt ≠ 0 := fun q => b3x (Int32.toInt_inj.mp q)
      refine wq_gos (f := 1) (pc2 := 207) (ls2 := [(0, .ref 74), (1, .int no), (2, .int tm)]) (st2 := [.int (-3), .ref 74]) (h2 := h) (dc2 := dc) (ds2 := ds) 2 rfl ?_
      refine wq_putf rfl hPl rfl rfl rfl ?_
      intro hh10x e11x ff12x lh13x
      have e11x : zat hh10x 74 = some (.inr (.inr (.inr (3, [.ref 44, .ref ra, .ref 76, .ref 78, .ref 80, .ref 88, .int wg, .int (-3), .ref 96, .int al9, .int pr9, .int sr9, .ref rp, .ref rs, .int fw])))) := e11x
      exact wq_ret rfl rfl (k3 hh10x (wFr_sub ff12x (by simp)) (by omega) e11x (by first | assumption | omega | decide | solve_by_elim) (by first | assumption | omega | decide | solve_by_elim))
  · have q14x : no.toInt ≠ 0 := fun q => b1x (Int32.toInt_inj.mp q)
    refine wq_gos (f := 1) (pc2 := 207) (ls2 := [(0, .ref 74), (1, .int no), (2, .int tm)]) (st2 := [.int (-2), .ref 74]) (h2 := h) (dc2 := dc) (ds2 := ds) 2 rfl ?_
    refine wq_putf rfl hPl rfl rfl rfl ?_
    intro hh15x e16x ff17x lh18x
    have e16x : zat hh15x 74 = some (.inr (.inr (.inr (3, [.ref 44, .ref ra, .ref 76, .ref 78, .ref 80, .ref 88, .int wg, .int (-2), .ref 96, .int al9, .int pr9, .int sr9, .ref rp, .ref rs, .int fw])))) := e16x
    exact wq_ret rfl rfl (k2 hh15x (wFr_sub ff17x (by simp)) (by omega) e16x (by first | assumption | omega | decide | solve_by_elim))
noncomputable def wObs (N wn : Nat → Nat) (so : Nat) (ob : Int32) : Prop := (ob = -2 ∧ ∃ q, q < so ∧ N (wn q) = 0) ∨ (ob = -3 ∧ (∀ q, q < so → N (wn q) ≠ 0) ∧ ∃ q, q < so ∧ 600 < N (wn q)) ∨ (ob = 0 ∧ ∀ q, q < so → N (wn q) ≠ 0 ∧ N (wn q) ≤ 600)
theorem wObs_2 {N wn : Nat → Nat} {so : Nat} {no tm : Int32} (h : wCnt N wn so no tm) (h1 : no ≠ 0) : wObs N wn so (-2) := by
  rcases h.1 with ⟨_, k⟩ | ⟨e, _⟩
  · exact Or.inl ⟨rfl, k⟩
  · exact absurd (Int32.toInt_inj.mp e) h1
theorem wObs_3 {N wn : Nat → Nat} {so : Nat} {no tm : Int32} (h : wCnt N wn so no tm) (h1 : no = 0) (h2 : tm ≠ 0) : wObs N wn so (-3) := by
  rcases h.1 with ⟨e, _⟩ | ⟨_, k⟩
  · rw [h1] at e; exact absurd e (by decide)
  · rcases h.2 with ⟨_, k2⟩ | ⟨e, _⟩
    · exact Or.inr (Or.inl ⟨rfl, k, k2⟩)
    · exact absurd (Int32.toInt_inj.mp e) h2
theorem wObs_0 {N wn : Nat → Nat} {so : Nat} {no tm : Int32} (h : wCnt N wn so no tm) (h1 : no = 0) (h2 : tm = 0) : wObs N wn so 0 := by
  rcases h.1 with ⟨e, _⟩ | ⟨_, k⟩
  · rw [h1] at e; exact absurd e (by decide)
  · rcases h.2 with ⟨e, _⟩ | ⟨_, k2⟩
    · rw [h2] at e; exact absurd e (by decide)
    · exact Or.inr (Or.inr ⟨rfl, fun q hq => ⟨k q hq, k2 q hq⟩⟩)
theorem lk_a : ∀ q ∈ [74], 34 ≤ q ∧ q ≠ 78 := by decide
theorem lk_m {rv : Nat} {rL : Nat → Nat} : ∀ q ∈ [74], q ∈ lkF rv rL := fun q hq => lkF_m (w := 0) (by decide) (Or.inl (List.mem_singleton.mp hq))
theorem wSol_fr {h h2 : zH} {rv sc : Nat} (k : wSol h rv sc) (f : wFr [74] h h2) : wSol h2 rv sc := by
  obtain ⟨v0, v1, nf, tg, sh, el, wr, ou, bh, so1, a1, a2, a3, a4, a5, a6, a7, a8, a9, a10⟩ := k
  exact ⟨v0, v1, nf, tg, sh, el, wr, ou, bh, so1, wFr_at f (by decide) a1, wFr_at f (by decide) a2, wFr_at f (by decide) a3, wFr_at f (by decide) a4, wFr_at f (by decide) a5, wFr_at f (by decide) a6, wFr_at f (by decide) a7, wFr_at f (by simp only [List.mem_cons, List.not_mem_nil, or_false]; omega) a8, a9, a10⟩
theorem wHs_74 {h h2 : zH} {to rL cap : Nat → Nat} {kn ks fa : Nat → Int32} {hp : Nat → List Int32} {li : Nat → List Int64} (k : wHs h to rL cap kn ks fa hp li) (f : wFr [74] h h2) : wHs h2 to rL cap kn ks fa hp li := wHs_fr k f (by
  intro q hq
  rw [List.mem_singleton.mp hq]
  exact ⟨by decide, fun w hw => by have := (k w hw).2.2.2.1; omega⟩)
set_option maxRecDepth 100000 in
set_option maxHeartbeats 4000000 in
theorem c_look {ra sp so : Nat} {lk hd ht bl sd : Int32} {rt : Int64} {ll lg wy : List Int32} {po : List Int64} {rp rs : Nat} {wg ob al9 pr9 sr9 fw : Int32} {fi hpl : List Int32} {to rL cap : Nat → Nat} {kn ks fa : Nat → Int32} {hp : Nat → List Int32} {li : Nat → List Int64} {rv sc : Nat} {h : zH} (hra : ra = 6 ∨ ra = 20) (hsp : sp ≤ 8) (hsc : wScl lk hd ht bl sd) (hlm : wLm ll lg) (hway : wWay wy sp so) (hwg : wg = 0) (hto : ∀ w, w < 8 → to w ≤ 16384) (hlen : 117 ≤ h.length) : wAc h ra sp so lk hd ht bl sd rt ll lg wy po → zat h 74 = some (.inr (.inr (.inr (3, [.ref 44, .ref ra, .ref 76, .ref 78, .ref 80, .ref 88, .int wg, .int ob, .ref 96, .int al9, .int pr9, .int sr9, .ref rp, .ref rs, .int fw])))) → zat h 96 = some (.inl (0, 10, fi)) → zat h 76 = some (.inl (0, 6, hpl)) → wSol h rv sc → wHs h to rL cap kn ks fa hp li → wHn rv rL → wq 28 0 [(0, .ref 74)] [] h 0 0 (fun r => ∃ (h2 : zH) (b2 : Nat) (ob2 : Int32) (fi2 hpl2 : List Int32) (to2 rL2 cap2 : Nat → Nat) (kn2 ks2 fa2 : Nat → Int32) (hp2 : Nat → List Int32) (li2 : Nat → List Int64) (rv2 sc2 d s : Nat), r = (none, h2, d, s) ∧ wFr (lkF rv rL) h h2 ∧ wAc h2 ra sp so lk hd ht bl sd rt ll lg wy po ∧ zat h2 74 = some (.inr (.inr (.inr (3, [.ref 44, .ref ra, .ref 76, .ref 78, .ref 80, .ref 88, .int 1, .int ob2, .ref 96, .int (nI (lkS (fun v => (jSL ll lg lk hd ht (po.getD v 0)).length) (fun q => (wy.getD q 0).toNatClampNeg) so)), .int pr9, .int sr9, .ref rp, .ref rs, .int fw])))) ∧ zat h2 96 = some (.inl (0, 10, fi2)) ∧ zat h2 76 = some (.inl (0, 6, hpl2)) ∧ wSol h2 rv2 sc2 ∧ wHs h2 to2 rL2 cap2 kn2 ks2 fa2 hp2 li2 ∧ wHn rv2 rL2 ∧ (∀ q, q < so → b2 >>> (wy.getD q 0).toNatClampNeg % 2 ≠ 0) ∧ wGt (fun v => jSL ll lg lk hd ht (po.getD v 0)) b2 to2 cap2 li2 ∧ (∀ w, w < 8 → to2 w ≤ 16384) ∧ wObs (fun v => (jSL ll lg lk hd ht (po.getD v 0)).length) (fun q => (wy.getD q 0).toNatClampNeg) so ob2 ∧ (∀ q, q < so → fi2.getD q 0 = nI (lkS (fun v => (jSL ll lg lk hd ht (po.getD v 0)).length) (fun q => (wy.getD q 0).toNatClampNeg) q)) ∧ (rv2 = rv ∨ 2 * h.length ≤ rv2) ∧ (∀ w, w < 8 → rL2 w = rL w ∨ 2 * h.length ≤ rL2 w) ∧ d + capS cap + sc ≤ capS cap2 + sc2 ∧ s + 600 * (capS cap + sc) ≤ 600 * (capS cap2 + sc2) ∧ sc ≤ sc2 ∧ (∀ w, w < 8 → cap w ≤ cap2 w)) := by
  intro hAc hPl hF h76 hSo hHs hHn
  refine c_lk2 hPl hwg ?_
  intro h1 f l e74
  refine c_lkL (fw := fw) (sr9 := sr9) (pr9 := pr9) (ob := ob) (wg := 1) (rs := rs) (rp := rp) hra hsp hsc hlm hway (so + 1) 0 0 0 0 fi hpl to rL cap kn ks fa hp li rv sc 0 0 h1 (Nat.zero_le so) (Nat.lt_succ_self so) (by decide) (fun q hq => absurd hq (Nat.not_lt_zero q)) (fun v hv hb => absurd (bit_0 v) hb) hto ⟨Or.inr ⟨rfl, fun q hq => absurd hq (Nat.not_lt_zero q)⟩, Or.inr ⟨rfl, fun q hq => absurd hq (Nat.not_lt_zero q)⟩⟩ (fun q hq => absurd hq (Nat.not_lt_zero q)) (Nat.le_trans hlen (Nat.le_of_eq l.symm)) (wAc_fr hAc f hra lk_a) e74 (wFr_at f (by decide) hF) (wFr_at f (by decide) h76) (wSol_fr hSo f) (wHs_74 hHs f) hHn ?_
  intro h2 b2 no2 tm2 fi2 hpl2 to2 rL2 cap2 kn2 ks2 fa2 hp2 li2 rv2 sc2 dc2 ds2 f2 k1 k2 k3 k4 k5 k6 k7 k8 k9 k10 k11 k12 k13 k14 k15 k16 k17 k18
  have g1 : wFr (lkF rv rL) h h2 := wFr_tr (wFr_sub f lk_m) f2
  have g13 : rv2 = rv ∨ 2 * h.length ≤ rv2 := by rw [← l]; exact k13
  have g14 : ∀ w, w < 8 → rL2 w = rL w ∨ 2 * h.length ≤ rL2 w := by rw [← l]; exact k14
  have g15 : dc2 + capS cap + sc ≤ capS cap2 + sc2 := by have := k15; omega
  have g16 : ds2 + 600 * (capS cap + sc) ≤ 600 * (capS cap2 + sc2) := by have := k16; omega
  have m2 : ∀ q ∈ [74], q ∈ lkF rv rL := lk_m
  have fin : ∀ (h3 : zH) (ob2 : Int32), wFr [74] h2 h3 → zat h3 74 = some (.inr (.inr (.inr (3, [.ref 44, .ref ra, .ref 76, .ref 78, .ref 80, .ref 88, .int 1, .int ob2, .ref 96, .int (nI (lkS (fun v => (jSL ll lg lk hd ht (po.getD v 0)).length) (fun q => (wy.getD q 0).toNatClampNeg) so)), .int pr9, .int sr9, .ref rp, .ref rs, .int fw])))) → wObs (fun v => (jSL ll lg lk hd ht (po.getD v 0)).length) (fun q => (wy.getD q 0).toNatClampNeg) so ob2 → (fun (r : zR) => ∃ (h2 : zH) (b2 : Nat) (ob2 : Int32) (fi2 hpl2 : List Int32) (to2 rL2 cap2 : Nat → Nat) (kn2 ks2 fa2 : Nat → Int32) (hp2 : Nat → List Int32) (li2 : Nat → List Int64) (rv2 sc2 d s : Nat), r = (none, h2, d, s) ∧ wFr (lkF rv rL) h h2 ∧ wAc h2 ra sp so lk hd ht bl sd rt ll lg wy po ∧ zat h2 74 = some (.inr (.inr (.inr (3, [.ref 44, .ref ra, .ref 76, .ref 78, .ref 80, .ref 88, .int 1, .int ob2, .ref 96, .int (nI (lkS (fun v => (jSL ll lg lk hd ht (po.getD v 0)).length) (fun q => (wy.getD q 0).toNatClampNeg) so)), .int pr9, .int sr9, .ref rp, .ref rs, .int fw])))) ∧ zat h2 96 = some (.inl (0, 10, fi2)) ∧ zat h2 76 = some (.inl (0, 6, hpl2)) ∧ wSol h2 rv2 sc2 ∧ wHs h2 to2 rL2 cap2 kn2 ks2 fa2 hp2 li2 ∧ wHn rv2 rL2 ∧ (∀ q, q < so → b2 >>> (wy.getD q 0).toNatClampNeg % 2 ≠ 0) ∧ wGt (fun v => jSL ll lg lk hd ht (po.getD v 0)) b2 to2 cap2 li2 ∧ (∀ w, w < 8 → to2 w ≤ 16384) ∧ wObs (fun v => (jSL ll lg lk hd ht (po.getD v 0)).length) (fun q => (wy.getD q 0).toNatClampNeg) so ob2 ∧ (∀ q, q < so → fi2.getD q 0 = nI (lkS (fun v => (jSL ll lg lk hd ht (po.getD v 0)).length) (fun q => (wy.getD q 0).toNatClampNeg) q)) ∧ (rv2 = rv ∨ 2 * h.length ≤ rv2) ∧ (∀ w, w < 8 → rL2 w = rL w ∨ 2 * h.length ≤ rL2 w) ∧ d + capS cap + sc ≤ capS cap2 + sc2 ∧ s + 600 * (capS cap + sc) ≤ 600 * (capS cap2 + sc2) ∧ sc ≤ sc2 ∧ (∀ w, w < 8 → cap w ≤ cap2 w)) (none, h3, dc2, ds2) := by
    intro h3 ob2 f3 e3 w3
    exact ⟨h3, b2, ob2, fi2, hpl2, to2, rL2, cap2, kn2, ks2, fa2, hp2, li2, rv2, sc2, dc2, ds2, rfl, wFr_tr g1 (wFr_sub f3 m2), wAc_fr k1 f3 hra lk_a, e3, wFr_at f3 (by decide) k3, wFr_at f3 (by decide) k4, wSol_fr k5 f3, wHs_74 k6 f3, k7, k8, k9, k10, w3, k12, g13, g14, g15, g16, k17, k18⟩
  refine c_lk3 k2 ?_ ?_ ?_
  · intro h3 f3 l3 e3 p; exact fin h3 _ f3 e3 (wObs_2 k11 p)
  · intro h3 f3 l3 e3 p q; exact fin h3 _ f3 e3 (wObs_3 k11 p q)
  · intro h3 f3 l3 e3 p q; exact fin h3 _ f3 e3 (wObs_0 k11 p q)
