/-! Unlike pairs: the class. -/
set_option maxHeartbeats 4000000 in
theorem c_isnL {h : zH} {rs : Nat} {C D k s : Int32} {tl : List Int32} {Q : zR → Prop} (hSp : zat h 158 = some (.inr (.inr (.inr (8, [.ref rs]))))) (hT : zat h rs = some (.inl (0, 4096, tl))) (hz : ∃ i, i < 4096 ∧ tl.getD (uX s i) 0 = 0) (kf : ∀ i, i < 4096 → tl.getD (uX s i) 0 = k → Q (some (.int 0), h, 0, 0)) (kt : ∀ (i : Nat) (h2 : zH), i < 4096 → (∀ j, j < i → tl.getD (uX s j) 0 ≠ 0 ∧ tl.getD (uX s j) 0 ≠ k) → tl.getD (uX s i) 0 = 0 → zat h2 rs = some (.inl (0, 4096, zset 0 tl (uX s i) k)) → wFr [rs] h h2 → h2.length = h.length → Q (some (.int 1), h2, 0, 0)) : ∀ (n i : Nat), i + n = 4096 → (∀ j, j < i → tl.getD (uX s j) 0 ≠ 0 ∧ tl.getD (uX s j) 0 ≠ k) → wq 95 32 [(0, .ref 158), (1, .int C), (2, .int D), (3, .int k), (4, .int s), (5, .int (nI i))] [] h 0 0 Q := by
  intro n
  induction n with
  | zero =>
    intro i hi hj
    obtain ⟨x, hx, e⟩ := hz
    exact absurd e (hj x (by omega)).1
  | succ n ih =>
    intro i hi hj
    have q1 := nI_toInt (n := i) (by omega)
    have e40 : (4096 : Int32).toInt = 4096 := rfl
    refine wq_gos (f := 1) (pc2 := 37) (ls2 := [(0, .ref 158), (1, .int C), (2, .int D), (3, .int k), (4, .int s), (5, .int (nI i))]) (st2 := [.int 4096, .int (nI i)]) (h2 := h) (dc2 := 0) (ds2 := 0) 2 rfl ?_
    refine wq_ge2f rfl rfl (by omega) ?_
    refine wq_gos (f := 1) (pc2 := 41) (ls2 := [(0, .ref 158), (1, .int C), (2, .int D), (3, .int k), (4, .int s), (5, .int (nI i))]) (st2 := [.ref 158]) (h2 := h) (dc2 := 0) (ds2 := 0) 1 rfl ?_
    refine wq_getf rfl hSp rfl rfl ?_
    refine wq_gos (f := 1) (pc2 := 53) (ls2 := [(0, .ref 158), (1, .int C), (2, .int D), (3, .int k), (4, .int s), (5, .int (nI i))]) (st2 := [.int ((s + (nI i)) &&& (4095 : Int32)), .ref rs]) (h2 := h) (dc2 := 0) (ds2 := 0) 5 rfl ?_
    rw [uX_e s (show i < 4096 by omega)]
    refine wq_ialdn rfl hT (uX_lt s i) (by decide) rfl ?_
    refine wq_gos (f := 1) (pc2 := 59) (ls2 := [(6, .int (tl.getD (uX s i) 0)), (0, .ref 158), (1, .int C), (2, .int D), (3, .int k), (4, .int s), (5, .int (nI i))]) (st2 := [.int k, .int (tl.getD (uX s i) 0)]) (h2 := h) (dc2 := 0) (ds2 := 0) 3 rfl ?_
    refine wq_ne2 rfl rfl (fun b1x => ?_) (fun b1x => ?_)
    · refine wq_gos (f := 1) (pc2 := 66) (ls2 := [(6, .int (tl.getD (uX s i) 0)), (0, .ref 158), (1, .int C), (2, .int D), (3, .int k), (4, .int s), (5, .int (nI i))]) (st2 := [.int (tl.getD (uX s i) 0)]) (h2 := h) (dc2 := 0) (ds2 := 0) 1 rfl ?_
      refine wq_ne0 rfl rfl (fun b2x => ?_) (fun b2x => ?_)
      · refine wq_gos (f := 1) (pc2 := 89) (ls2 := [(5, .int ((nI i) + 1)), (6, .int (tl.getD (uX s i) 0)), (0, .ref 158), (1, .int C), (2, .int D), (3, .int k), (4, .int s)]) (st2 := []) (h2 := h) (dc2 := 0) (ds2 := 0) 1 rfl ?_
        rw [nI_1]
        refine wq_gos (f := 1) (pc2 := 32) (ls2 := [(5, .int (nI (i + 1))), (6, .int (tl.getD (uX s i) 0)), (0, .ref 158), (1, .int C), (2, .int D), (3, .int k), (4, .int s)]) (st2 := []) (h2 := h) (dc2 := 0) (ds2 := 0) 1 rfl ?_
        refine wq_ls [(0, .ref 158), (1, .int C), (2, .int D), (3, .int k), (4, .int s), (5, .int (nI (i + 1)))] (show ([0, 1, 2, 3, 4, 5] : List Nat).Nodup by decide) ⟨rfl, rfl, rfl, rfl, rfl, rfl, trivial⟩ ?_
        exact ih (i + 1) (by omega) (uAllS hj ⟨b2x, b1x⟩)
      · refine wq_gos (f := 1) (pc2 := 70) (ls2 := [(6, .int (tl.getD (uX s i) 0)), (0, .ref 158), (1, .int C), (2, .int D), (3, .int k), (4, .int s), (5, .int (nI i))]) (st2 := [.ref 158]) (h2 := h) (dc2 := 0) (ds2 := 0) 1 rfl ?_
        refine wq_getf rfl hSp rfl rfl ?_
        refine wq_gos (f := 1) (pc2 := 82) (ls2 := [(6, .int (tl.getD (uX s i) 0)), (0, .ref 158), (1, .int C), (2, .int D), (3, .int k), (4, .int s), (5, .int (nI i))]) (st2 := [.int ((s + (nI i)) &&& (4095 : Int32)), .ref rs]) (h2 := h) (dc2 := 0) (ds2 := 0) 5 rfl ?_
        rw [uX_e s (show i < 4096 by omega)]
        refine wq_gos (f := 1) (pc2 := 83) (ls2 := [(6, .int (tl.getD (uX s i) 0)), (0, .ref 158), (1, .int C), (2, .int D), (3, .int k), (4, .int s), (5, .int (nI i))]) (st2 := [.int k, .int (nI (uX s i)), .ref rs]) (h2 := h) (dc2 := 0) (ds2 := 0) 1 rfl ?_
        refine wq_iastn rfl hT (uX_lt s i) (by decide) rfl ?_
        intro h3x e4x f5x l6x
        have e4x : zat h3x rs = some (.inl (0, 4096, (zset 0 tl (uX s i) k))) := e4x
        refine wq_gos (f := 1) (pc2 := 85) (ls2 := [(6, .int (tl.getD (uX s i) 0)), (0, .ref 158), (1, .int C), (2, .int D), (3, .int k), (4, .int s), (5, .int (nI i))]) (st2 := [.int 1]) (h2 := h3x) (dc2 := 0) (ds2 := 0) 1 rfl ?_
        exact wq_ret rfl rfl (kt i _ (by omega) hj b2x e4x f5x l6x)
    · refine wq_gos (f := 1) (pc2 := 63) (ls2 := [(6, .int (tl.getD (uX s i) 0)), (0, .ref 158), (1, .int C), (2, .int D), (3, .int k), (4, .int s), (5, .int (nI i))]) (st2 := [.int 0]) (h2 := h) (dc2 := 0) (ds2 := 0) 1 rfl ?_
      exact wq_ret rfl rfl (kf i (by omega) b1x)
set_option maxHeartbeats 4000000 in
theorem c_isn {h : zH} {rs n : Nat} {tl : List Int32} {D : List (Int32 × Int32)} (hSp : zat h 158 = some (.inr (.inr (.inr (8, [.ref rs]))))) (hT : zat h rs = some (.inl (0, 4096, tl))) (hU : uT tl D n) (hn : n < 4096) (p : Int32 × Int32) (hp : uR p) : wq 95 0 [(0, .ref 158), (1, .int p.1), (2, .int p.2)] [] h 0 0 (fun r => ∃ (h2 : zH) (tl2 : List Int32), r = (some (.int (if p ∈ D then 0 else 1)), h2, 0, 0) ∧ wFr [rs] h h2 ∧ h2.length = h.length ∧ zat h2 rs = some (.inl (0, 4096, tl2)) ∧ uT tl2 (uAdd D p) (n + 1)) := by
  refine wq_gos (f := 1) (pc2 := 32) (ls2 := [(5, .int 0), (4, .int ((((((((p.1 + (2000 : Int32)) * (4001 : Int32)) + p.2) + (2001 : Int32)) * (40503 : Int32))).toUInt32 >>> (((8 : Int32)).toUInt32 &&& Int32.toUInt32 31)).toInt32 &&& (4095 : Int32))), (3, .int ((((p.1 + (2000 : Int32)) * (4001 : Int32)) + p.2) + (2001 : Int32))), (0, .ref 158), (1, .int p.1), (2, .int p.2)]) (st2 := []) (h2 := h) (dc2 := 0) (ds2 := 0) 20 rfl ?_
  refine wq_ls [(0, .ref 158), (1, .int p.1), (2, .int p.2), (3, .int (uk p)), (4, .int (uS (uk p))), (5, .int (nI 0))] (show ([0, 1, 2, 3, 4, 5] : List Nat).Nodup by decide) ⟨rfl, rfl, rfl, rfl, rfl, rfl, trivial⟩ ?_
  refine c_isnL hSp hT (uT_zero hU hn _) (fun i hi e => ?_) (fun i h2 hi hj h0 e f l => ?_) 4096 0 rfl (fun j hj => absurd hj (Nat.not_lt_zero j))
  · have hm := uT_fnd hU hp (uX_lt _ i) e
    exact ⟨h, tl, by rw [if_pos hm], wFr_rf _ _, rfl, hT, by rw [uAdd_y hm]; exact uT_le hU (by omega)⟩
  · have hm := uT_nw hU hp hj h0
    exact ⟨h2, _, by rw [if_neg hm], f, l, e, by rw [uAdd_n hm]; exact uT_put hU hp hi hj h0⟩
set_option maxHeartbeats 4000000 in
theorem c_upIn {ra rl rg rv rn rp rw : Nat} {lk hd ht bl sd sp so : Int32} {rt : Int64} {ll lg : List Int32} {rs dc ds : Nat} {pt a : Int32} {Q : zR → Prop} (hr : rs ≠ ra ∧ rs ≠ rl ∧ rs ≠ rg ∧ rs ≠ 158) (h100 : (lg.getD 3 0).toInt ≤ 100) : ∀ (n : Nat) (h : zH) (tl : List Int32) (e : Int32) (D : List (Int32 × Int32)) (k : Nat) (hA : zat h ra = some (.inr (.inr (.inr (0, [.int lk, .int hd, .int ht, .int bl, .int sd, .long rt, .ref rl, .ref rg, .ref rv, .int sp, .ref rn, .ref rp, .int so, .ref rw]))))) (hL : zat h rl = some (.inl (0, 6, ll))) (hG : zat h rg = some (.inl (0, 6, lg))) (hSp : zat h 158 = some (.inr (.inr (.inr (8, [.ref rs]))))) (hT : zat h rs = some (.inl (0, 4096, tl))), uT tl D k → k + n ≤ 4096 → e.toInt + n = (lg.getD 3 0).toInt + 1 → (∀ (h2 : zH) (tl2 : List Int32), wFr [rs] h h2 → h2.length = h.length → zat h2 rs = some (.inl (0, 4096, tl2)) → uT tl2 (uIn ll lg pt a n e D) (k + n) → wq 94 128 [(0, .ref 158), (1, .ref ra), (2, .int pt), (3, .int (nI (uIn ll lg pt a n e D).length)), (4, .int a)] [] h2 dc ds Q) → wq 94 57 [(0, .ref 158), (1, .ref ra), (2, .int pt), (3, .int (nI D.length)), (4, .int a), (5, .int e)] [] h dc ds Q := by
  intro n
  induction n with
  | zero =>
    intro h tl e D k hA hL hG hSp hT hU hk he kk
    refine wq_gos (f := 1) (pc2 := 60) (ls2 := [(0, .ref 158), (1, .ref ra), (2, .int pt), (3, .int (nI D.length)), (4, .int a), (5, .int e)]) (st2 := [.ref ra, .int e]) (h2 := h) (dc2 := dc) (ds2 := ds) 2 rfl ?_
    refine wq_getf rfl hA rfl rfl ?_
    refine wq_gos (f := 1) (pc2 := 64) (ls2 := [(0, .ref 158), (1, .ref ra), (2, .int pt), (3, .int (nI D.length)), (4, .int a), (5, .int e)]) (st2 := [.int 3, .ref rg, .int e]) (h2 := h) (dc2 := dc) (ds2 := ds) 1 rfl ?_
    refine wq_ialdk (k := 3) rfl hG rfl rfl rfl ?_
    refine wq_gt2t rfl (by omega) ?_
    refine wq_ls [(0, .ref 158), (1, .ref ra), (2, .int pt), (3, .int (nI D.length)), (4, .int a)] (show ([0, 1, 2, 3, 4] : List Nat).Nodup by decide) ⟨rfl, rfl, rfl, rfl, rfl, trivial⟩ ?_
    exact kk h tl (wFr_rf _ _) rfl hT hU
  | succ n ih =>
    intro h tl e D k hA hL hG hSp hT hU hk he kk
    have he2 : (e + 1).toInt = e.toInt + 1 := z_inc (by omega)
    refine wq_gos (f := 1) (pc2 := 60) (ls2 := [(0, .ref 158), (1, .ref ra), (2, .int pt), (3, .int (nI D.length)), (4, .int a), (5, .int e)]) (st2 := [.ref ra, .int e]) (h2 := h) (dc2 := dc) (ds2 := ds) 2 rfl ?_
    refine wq_getf rfl hA rfl rfl ?_
    refine wq_gos (f := 1) (pc2 := 64) (ls2 := [(0, .ref 158), (1, .ref ra), (2, .int pt), (3, .int (nI D.length)), (4, .int a), (5, .int e)]) (st2 := [.int 3, .ref rg, .int e]) (h2 := h) (dc2 := dc) (ds2 := ds) 1 rfl ?_
    refine wq_ialdk (k := 3) rfl hG rfl rfl rfl ?_
    refine wq_gt2f rfl rfl (by omega) ?_
    refine wq_gos (f := 1) (pc2 := 81) (ls2 := [(6, .int (a + e)), (0, .ref 158), (1, .ref ra), (2, .int pt), (3, .int (nI D.length)), (4, .int a), (5, .int e)]) (st2 := [.int (pt - (a + e)), .int 4, .ref ra]) (h2 := h) (dc2 := dc) (ds2 := ds) 9 rfl ?_
    refine wq_inl (y2 := 152) (as := [.int (pt - (a + e))]) rfl rfl rfl (wq_T (c_w32 (pt - (a + e)) h) ?_)
    show wq 94 84 [(6, .int (a + e)), (0, .ref 158), (1, .ref ra), (2, .int pt), (3, .int (nI D.length)), (4, .int a), (5, .int e)] [.int (jw (pt - (a + e))), .int 4, .ref ra] h dc ds _
    cases q1x : jallow ll lg (4 : Int32) (jw (pt - (a + e))) with
    | false =>
      refine wq_inlv (y2 := 3) (as := [.int 4, .int (jw (pt - (a + e)))]) rfl rfl rfl hA rfl (wq_T (show zT zg0 zF zP 3 0 [(0, .ref ra), (1, .int 4), (2, .int (jw (pt - (a + e))))] [] h 0 0 (some (.int 0), h, 0, 0) from by have q9 := c_allows hA hL hG (j := (4 : Int32)) rfl (jw (pt - (a + e))); rw [q1x] at q9; exact q9) ?_)
      show wq 94 87 [(6, .int (a + e)), (0, .ref 158), (1, .ref ra), (2, .int pt), (3, .int (nI D.length)), (4, .int a), (5, .int e)] [.int 0] h dc ds _
      refine wq_gos (f := 1) (pc2 := 57) (ls2 := [(5, .int (e + 1)), (6, .int (a + e)), (0, .ref 158), (1, .ref ra), (2, .int pt), (3, .int (nI D.length)), (4, .int a)]) (st2 := []) (h2 := h) (dc2 := dc) (ds2 := ds) 3 rfl ?_
      rw [show uIn ll lg pt a (n + 1) e D = uIn ll lg pt a n (e + 1) D from by show uIn ll lg pt a n (e + 1) (uSt ll lg pt a e D) = _; rw [uSt_n D q1x]] at kk
      refine wq_ls [(0, .ref 158), (1, .ref ra), (2, .int pt), (3, .int (nI D.length)), (4, .int a), (5, .int (e + 1))] (show ([0, 1, 2, 3, 4, 5] : List Nat).Nodup by decide) ⟨rfl, rfl, rfl, rfl, rfl, rfl, trivial⟩ ?_
      refine ih h tl (e + 1) D (k + 1) hA hL hG hSp hT (uT_le hU (by omega)) (by omega) (by omega) ?_
      intro g2 gt gf gl ga gu
      exact kk g2 gt gf (by omega) ga (by rw [show k + (n + 1) = k + 1 + n by omega]; exact gu)
    | true =>
      refine wq_inlv (y2 := 3) (as := [.int 4, .int (jw (pt - (a + e)))]) rfl rfl rfl hA rfl (wq_T (show zT zg0 zF zP 3 0 [(0, .ref ra), (1, .int 4), (2, .int (jw (pt - (a + e))))] [] h 0 0 (some (.int 1), h, 0, 0) from by have q9 := c_allows hA hL hG (j := (4 : Int32)) rfl (jw (pt - (a + e))); rw [q1x] at q9; exact q9) ?_)
      show wq 94 87 [(6, .int (a + e)), (0, .ref 158), (1, .ref ra), (2, .int pt), (3, .int (nI D.length)), (4, .int a), (5, .int e)] [.int 1] h dc ds _
      refine wq_gos (f := 1) (pc2 := 93) (ls2 := [(6, .int (a + e)), (0, .ref 158), (1, .ref ra), (2, .int pt), (3, .int (nI D.length)), (4, .int a), (5, .int e)]) (st2 := [.int a, .ref 158]) (h2 := h) (dc2 := dc) (ds2 := ds) 3 rfl ?_
      refine wq_inl (y2 := 149) (as := [.int a]) rfl rfl rfl (wq_T (c_cos a h) ?_)
      show wq 94 96 [(6, .int (a + e)), (0, .ref 158), (1, .ref ra), (2, .int pt), (3, .int (nI D.length)), (4, .int a), (5, .int e)] [.int (jcos a), .ref 158] h dc ds _
      refine wq_gos (f := 1) (pc2 := 98) (ls2 := [(6, .int (a + e)), (0, .ref 158), (1, .ref ra), (2, .int pt), (3, .int (nI D.length)), (4, .int a), (5, .int e)]) (st2 := [.int (a + e), .int (jcos a), .ref 158]) (h2 := h) (dc2 := dc) (ds2 := ds) 1 rfl ?_
      refine wq_inl (y2 := 149) (as := [.int (a + e)]) rfl rfl rfl (wq_T (c_cos (a + e) h) ?_)
      show wq 94 101 [(6, .int (a + e)), (0, .ref 158), (1, .ref ra), (2, .int pt), (3, .int (nI D.length)), (4, .int a), (5, .int e)] [.int (jcos (a + e)), .int (jcos a), .ref 158] h dc ds _
      refine wq_gos (f := 1) (pc2 := 104) (ls2 := [(6, .int (a + e)), (0, .ref 158), (1, .ref ra), (2, .int pt), (3, .int (nI D.length)), (4, .int a), (5, .int e)]) (st2 := [.int a, .int ((jcos a) + (jcos (a + e))), .ref 158]) (h2 := h) (dc2 := dc) (ds2 := ds) 2 rfl ?_
      refine wq_inl (y2 := 150) (as := [.int a]) rfl rfl rfl (wq_T (c_sin a h) ?_)
      show wq 94 107 [(6, .int (a + e)), (0, .ref 158), (1, .ref ra), (2, .int pt), (3, .int (nI D.length)), (4, .int a), (5, .int e)] [.int (jsin a), .int ((jcos a) + (jcos (a + e))), .ref 158] h dc ds _
      refine wq_gos (f := 1) (pc2 := 109) (ls2 := [(6, .int (a + e)), (0, .ref 158), (1, .ref ra), (2, .int pt), (3, .int (nI D.length)), (4, .int a), (5, .int e)]) (st2 := [.int (a + e), .int (jsin a), .int ((jcos a) + (jcos (a + e))), .ref 158]) (h2 := h) (dc2 := dc) (ds2 := ds) 1 rfl ?_
      refine wq_inl (y2 := 150) (as := [.int (a + e)]) rfl rfl rfl (wq_T (c_sin (a + e) h) ?_)
      show wq 94 112 [(6, .int (a + e)), (0, .ref 158), (1, .ref ra), (2, .int pt), (3, .int (nI D.length)), (4, .int a), (5, .int e)] [.int (jsin (a + e)), .int (jsin a), .int ((jcos a) + (jcos (a + e))), .ref 158] h dc ds _
      refine wq_gos (f := 1) (pc2 := 113) (ls2 := [(6, .int (a + e)), (0, .ref 158), (1, .ref ra), (2, .int pt), (3, .int (nI D.length)), (4, .int a), (5, .int e)]) (st2 := [.int ((jsin a) + (jsin (a + e))), .int ((jcos a) + (jcos (a + e))), .ref 158]) (h2 := h) (dc2 := dc) (ds2 := ds) 1 rfl ?_
      refine wq_inlv (y2 := 95) (as := [.int ((jcos a) + (jcos (a + e))), .int ((jsin a) + (jsin (a + e)))]) rfl rfl rfl hSp rfl (wq_mono (c_isn hSp hT hU (by omega) (uP a (a + e)) (uP_R a (a + e))) ?_)
      rintro _ ⟨h8, tl8, rfl, f8, l8, t8, u8⟩
      show wq 94 116 [(6, .int (a + e)), (0, .ref 158), (1, .ref ra), (2, .int pt), (3, .int (nI D.length)), (4, .int a), (5, .int e)] [.int (if uP a (a + e) ∈ D then 0 else 1)] h8 dc ds _
      by_cases hm : uP a (a + e) ∈ D
      · rw [if_pos hm]
        rw [uAdd_y hm] at u8
        refine wq_gos (f := 1) (pc2 := 57) (ls2 := [(5, .int (e + 1)), (6, .int (a + e)), (0, .ref 158), (1, .ref ra), (2, .int pt), (3, .int (nI D.length)), (4, .int a)]) (st2 := []) (h2 := h8) (dc2 := dc) (ds2 := ds) 3 rfl ?_
        have e2x := (f8.2 _ _ (wnc (by omega) wn0) hA)
        have e3x := (f8.2 _ _ (wnc (by omega) wn0) hL)
        have e4x := (f8.2 _ _ (wnc (by omega) wn0) hG)
        have e5x := (f8.2 _ _ (wnc (by omega) wn0) hSp)
        rw [show uIn ll lg pt a (n + 1) e D = uIn ll lg pt a n (e + 1) D from by show uIn ll lg pt a n (e + 1) (uSt ll lg pt a e D) = _; rw [uSt_y D q1x, uAdd_y hm]] at kk
        refine wq_ls [(0, .ref 158), (1, .ref ra), (2, .int pt), (3, .int (nI D.length)), (4, .int a), (5, .int (e + 1))] (show ([0, 1, 2, 3, 4, 5] : List Nat).Nodup by decide) ⟨rfl, rfl, rfl, rfl, rfl, rfl, trivial⟩ ?_
        refine ih h8 tl8 (e + 1) D (k + 1) e2x e3x e4x e5x t8 u8 (by omega) (by omega) ?_
        intro g2 gt gf gl ga gu
        exact kk g2 gt (wFr_tr f8 gf) (by omega) ga (by rw [show k + (n + 1) = k + 1 + n by omega]; exact gu)
      · rw [if_neg hm]
        rw [uAdd_n hm] at u8
        refine wq_gos (f := 1) (pc2 := 122) (ls2 := [(3, .int ((nI D.length) + 1)), (6, .int (a + e)), (0, .ref 158), (1, .ref ra), (2, .int pt), (4, .int a), (5, .int e)]) (st2 := []) (h2 := h8) (dc2 := dc) (ds2 := ds) 2 rfl ?_
        rw [nI_1]
        refine wq_gos (f := 1) (pc2 := 57) (ls2 := [(5, .int (e + 1)), (3, .int (nI (D.length + 1))), (6, .int (a + e)), (0, .ref 158), (1, .ref ra), (2, .int pt), (4, .int a)]) (st2 := []) (h2 := h8) (dc2 := dc) (ds2 := ds) 2 rfl ?_
        have e6x := (f8.2 _ _ (wnc (by omega) wn0) hA)
        have e7x := (f8.2 _ _ (wnc (by omega) wn0) hL)
        have e8x := (f8.2 _ _ (wnc (by omega) wn0) hG)
        have e9x := (f8.2 _ _ (wnc (by omega) wn0) hSp)
        rw [show uIn ll lg pt a (n + 1) e D = uIn ll lg pt a n (e + 1) (uP a (a + e) :: D) from by show uIn ll lg pt a n (e + 1) (uSt ll lg pt a e D) = _; rw [uSt_y D q1x, uAdd_n hm]] at kk
        refine wq_ls [(0, .ref 158), (1, .ref ra), (2, .int pt), (3, .int (nI (D.length + 1))), (4, .int a), (5, .int (e + 1))] (show ([0, 1, 2, 3, 4, 5] : List Nat).Nodup by decide) ⟨rfl, rfl, rfl, rfl, rfl, rfl, trivial⟩ ?_
        refine ih h8 tl8 (e + 1) (uP a (a + e) :: D) (k + 1) e6x e7x e8x e9x t8 u8 (by omega) (by omega) ?_
        intro g2 gt gf gl ga gu
        exact kk g2 gt (wFr_tr f8 gf) (by omega) ga (by rw [show k + (n + 1) = k + 1 + n by omega]; exact gu)
set_option maxHeartbeats 4000000 in
theorem c_upOu {ra rl rg rv rn rp rw : Nat} {lk hd ht bl sd sp so : Int32} {rt : Int64} {ll lg : List Int32} {rs m dc ds : Nat} {pt : Int32} (hr : rs ≠ ra ∧ rs ≠ rl ∧ rs ≠ rg ∧ rs ≠ 158) (h100 : (lg.getD 3 0).toInt ≤ 100) (h101 : (lg.getD 2 0).toInt ≤ 100) (hm : (ll.getD 3 0).toInt + m = (lg.getD 3 0).toInt + 1) : ∀ (n : Nat) (h : zH) (tl : List Int32) (a : Int32) (D : List (Int32 × Int32)) (k : Nat) (hA : zat h ra = some (.inr (.inr (.inr (0, [.int lk, .int hd, .int ht, .int bl, .int sd, .long rt, .ref rl, .ref rg, .ref rv, .int sp, .ref rn, .ref rp, .int so, .ref rw]))))) (hL : zat h rl = some (.inl (0, 6, ll))) (hG : zat h rg = some (.inl (0, 6, lg))) (hSp : zat h 158 = some (.inr (.inr (.inr (8, [.ref rs]))))) (hT : zat h rs = some (.inl (0, 4096, tl))), uT tl D k → k + n * m ≤ 4096 → a.toInt + n = (lg.getD 2 0).toInt + 1 → wq 94 38 [(0, .ref 158), (1, .ref ra), (2, .int pt), (3, .int (nI D.length)), (4, .int a)] [] h dc ds (fun r => ∃ (h2 : zH), r = (some (.int (nI (uOu ll lg pt m n a D).length)), h2, dc, ds) ∧ wFr [rs] h h2 ∧ h2.length = h.length) := by
  intro n
  induction n with
  | zero =>
    intro h tl a D k hA hL hG hSp hT hU hk ha
    refine wq_gos (f := 1) (pc2 := 41) (ls2 := [(0, .ref 158), (1, .ref ra), (2, .int pt), (3, .int (nI D.length)), (4, .int a)]) (st2 := [.ref ra, .int a]) (h2 := h) (dc2 := dc) (ds2 := ds) 2 rfl ?_
    refine wq_getf rfl hA rfl rfl ?_
    refine wq_gos (f := 1) (pc2 := 45) (ls2 := [(0, .ref 158), (1, .ref ra), (2, .int pt), (3, .int (nI D.length)), (4, .int a)]) (st2 := [.int 2, .ref rg, .int a]) (h2 := h) (dc2 := dc) (ds2 := ds) 1 rfl ?_
    refine wq_ialdk (k := 2) rfl hG rfl rfl rfl ?_
    refine wq_gt2t rfl (by omega) ?_
    refine wq_gos (f := 1) (pc2 := 135) (ls2 := [(0, .ref 158), (1, .ref ra), (2, .int pt), (3, .int (nI D.length)), (4, .int a)]) (st2 := [.int (nI D.length)]) (h2 := h) (dc2 := dc) (ds2 := ds) 1 rfl ?_
    exact wq_ret rfl rfl ⟨h, rfl, wFr_rf _ _, rfl⟩
  | succ n ih =>
    intro h tl a D k hA hL hG hSp hT hU hk ha
    have ha2 : (a + 1).toInt = a.toInt + 1 := z_inc (by omega)
    have hmul : (n + 1) * m = n * m + m := Nat.succ_mul n m
    refine wq_gos (f := 1) (pc2 := 41) (ls2 := [(0, .ref 158), (1, .ref ra), (2, .int pt), (3, .int (nI D.length)), (4, .int a)]) (st2 := [.ref ra, .int a]) (h2 := h) (dc2 := dc) (ds2 := ds) 2 rfl ?_
    refine wq_getf rfl hA rfl rfl ?_
    refine wq_gos (f := 1) (pc2 := 45) (ls2 := [(0, .ref 158), (1, .ref ra), (2, .int pt), (3, .int (nI D.length)), (4, .int a)]) (st2 := [.int 2, .ref rg, .int a]) (h2 := h) (dc2 := dc) (ds2 := ds) 1 rfl ?_
    refine wq_ialdk (k := 2) rfl hG rfl rfl rfl ?_
    refine wq_gt2f rfl rfl (by omega) ?_
    refine wq_gos (f := 1) (pc2 := 50) (ls2 := [(0, .ref 158), (1, .ref ra), (2, .int pt), (3, .int (nI D.length)), (4, .int a)]) (st2 := [.ref ra]) (h2 := h) (dc2 := dc) (ds2 := ds) 1 rfl ?_
    refine wq_getf rfl hA rfl rfl ?_
    refine wq_gos (f := 1) (pc2 := 54) (ls2 := [(0, .ref 158), (1, .ref ra), (2, .int pt), (3, .int (nI D.length)), (4, .int a)]) (st2 := [.int 3, .ref rl]) (h2 := h) (dc2 := dc) (ds2 := ds) 1 rfl ?_
    refine wq_ialdk (k := 3) rfl hL rfl rfl rfl ?_
    refine wq_gos (f := 1) (pc2 := 57) (ls2 := [(5, .int (ll.getD 3 0)), (0, .ref 158), (1, .ref ra), (2, .int pt), (3, .int (nI D.length)), (4, .int a)]) (st2 := []) (h2 := h) (dc2 := dc) (ds2 := ds) 1 rfl ?_
    refine wq_ls [(0, .ref 158), (1, .ref ra), (2, .int pt), (3, .int (nI D.length)), (4, .int a), (5, .int (ll.getD 3 0))] (show ([0, 1, 2, 3, 4, 5] : List Nat).Nodup by decide) ⟨rfl, rfl, rfl, rfl, rfl, rfl, trivial⟩ ?_
    refine c_upIn hr h100 m h tl (ll.getD 3 0) D k hA hL hG hSp hT hU (by omega) hm ?_
    intro h8 tl8 f8 l8 t8 u8
    refine wq_gos (f := 1) (pc2 := 38) (ls2 := [(4, .int (a + 1)), (0, .ref 158), (1, .ref ra), (2, .int pt), (3, .int (nI (uIn ll lg pt a m (ll.getD 3 0) D).length))]) (st2 := []) (h2 := h8) (dc2 := dc) (ds2 := ds) 2 rfl ?_
    have e1x := (f8.2 _ _ (wnc (by omega) wn0) hA)
    have e2x := (f8.2 _ _ (wnc (by omega) wn0) hL)
    have e3x := (f8.2 _ _ (wnc (by omega) wn0) hG)
    have e4x := (f8.2 _ _ (wnc (by omega) wn0) hSp)
    refine wq_ls [(0, .ref 158), (1, .ref ra), (2, .int pt), (3, .int (nI (uIn ll lg pt a m (ll.getD 3 0) D).length)), (4, .int (a + 1))] (show ([0, 1, 2, 3, 4] : List Nat).Nodup by decide) ⟨rfl, rfl, rfl, rfl, rfl, trivial⟩ ?_
    refine wq_mono (ih h8 tl8 (a + 1) (uIn ll lg pt a m (ll.getD 3 0) D) (k + m) e1x e2x e3x e4x t8 u8 (by omega) (by omega)) ?_
    rintro _ ⟨g2, rfl, gf, gl⟩
    exact ⟨g2, rfl, wFr_tr f8 gf, by omega⟩
set_option maxRecDepth 100000 in
set_option maxHeartbeats 4000000 in
theorem c_up0 {h : zH} (pt : Int32) (c6 : zat h 6 = some (.inr (.inr (.inr (0, [.int 9, .int 4, .int 10, .int 2, .int 0, .long 70644700037184, .ref 8, .ref 10, .ref 12, .int 0, .ref 14, .ref 16, .int 0, .ref 18]))))) (c8 : zat h 8 = some (.inl (0, 6, [0, (-32), (-32), (-32), (-32), (-64)]))) (c10 : zat h 10 = some (.inl (0, 6, [99, 31, 31, 31, 31, 63]))) (c158 : zat h 158 = some (.inr (.inr (.inr (8, [.ref 160]))))) (c160 : zat h 160 = some (.inl (0, 0, []))) (hlen : 117 ≤ h.length) : wq 94 0 [(0, .ref 158), (1, .ref 6), (2, .int pt)] [] h 0 0 (fun r => ∃ (h2 : zH), r = (some (.int (nI (uOu [0, (-32), (-32), (-32), (-32), (-64)] [99, 31, 31, 31, 31, 63] pt 64 64 (-32) []).length)), h2, 1, 4096) ∧ wFr [158, 2 * h.length] h h2) := by
  refine wq_gos (f := 1) (pc2 := 1) (ls2 := [(0, .ref 158), (1, .ref 6), (2, .int pt)]) (st2 := [.ref 158]) (h2 := h) (dc2 := 0) (ds2 := 0) 1 rfl ?_
  refine wq_getf rfl c158 rfl rfl ?_
  refine wq_alen rfl c160 rfl ?_
  refine wq_gos (f := 1) (pc2 := 15) (ls2 := [(0, .ref 158), (1, .ref 6), (2, .int pt)]) (st2 := [.int 4096, .ref 158]) (h2 := h) (dc2 := 0) (ds2 := 0) 4 rfl ?_
  refine wq_new (pc2 := 17) (rest := [.ref 158]) (e := .inl (0, 4096, [])) rfl rfl ?_
  intro h1x e2x f3x l4x
  show wq 94 17 [(0, .ref 158), (1, .ref 6), (2, .int pt)] [.ref (2 * h.length), .ref 158] h1x (0 + 1) (0 + 4096) _
  have e5x := (f3x.2 _ _ wn0 c158)
  refine wq_putf rfl e5x rfl rfl rfl ?_
  intro h6x e7x f8x l9x
  have e7x : zat h6x 158 = some (.inr (.inr (.inr (8, [.ref (2 * h.length)])))) := e7x
  refine wq_gos (f := 1) (pc2 := 21) (ls2 := [(0, .ref 158), (1, .ref 6), (2, .int pt)]) (st2 := [.ref 158]) (h2 := h6x) (dc2 := (0 + 1)) (ds2 := (0 + 4096)) 1 rfl ?_
  refine wq_getf rfl e7x rfl rfl ?_
  refine wq_gos (f := 1) (pc2 := 25) (ls2 := [(0, .ref 158), (1, .ref 6), (2, .int pt)]) (st2 := [.int 0, .ref (2 * h.length)]) (h2 := h6x) (dc2 := (0 + 1)) (ds2 := (0 + 4096)) 1 rfl ?_
  have e10x := (f8x.2 _ _ (wnc (by omega) wn0) e2x)
  refine wq_inl (y2 := 286) (as := [.ref (2 * h.length), .int 0]) rfl rfl rfl (wq_mono (c_fill (by decide) e10x 0) ?_)
  rintro _ ⟨h7, tl7, rfl, f7, l7, t7, z7⟩
  show wq 94 28 [(0, .ref 158), (1, .ref 6), (2, .int pt)] [] h7 (0 + 1) (0 + 4096) _
  refine wq_gos (f := 1) (pc2 := 31) (ls2 := [(3, .int 0), (0, .ref 158), (1, .ref 6), (2, .int pt)]) (st2 := [.ref 6]) (h2 := h7) (dc2 := (0 + 1)) (ds2 := (0 + 4096)) 3 rfl ?_
  have e11x := (f7.2 _ _ (wnc (by omega) wn0) (f8x.2 _ _ (wnc (by decide) wn0) (f3x.2 _ _ wn0 c6)))
  refine wq_getf rfl e11x rfl rfl ?_
  refine wq_gos (f := 1) (pc2 := 35) (ls2 := [(3, .int 0), (0, .ref 158), (1, .ref 6), (2, .int pt)]) (st2 := [.int 2, .ref 8]) (h2 := h7) (dc2 := (0 + 1)) (ds2 := (0 + 4096)) 1 rfl ?_
  have e12x := (f7.2 _ _ (wnc (by omega) wn0) (f8x.2 _ _ (wnc (by decide) wn0) (f3x.2 _ _ wn0 c8)))
  refine wq_ialdk (k := 2) rfl e12x rfl rfl rfl ?_
  refine wq_gos (f := 1) (pc2 := 38) (ls2 := [(4, .int (-32)), (3, .int 0), (0, .ref 158), (1, .ref 6), (2, .int pt)]) (st2 := []) (h2 := h7) (dc2 := (0 + 1)) (ds2 := (0 + 4096)) 1 rfl ?_
  have e13x := (f7.2 _ _ (wnc (by omega) wn0) (f8x.2 _ _ (wnc (by decide) wn0) (f3x.2 _ _ wn0 c10)))
  have e14x := (f7.2 _ _ (wnc (by omega) wn0) e7x)
  refine wq_ls [(0, .ref 158), (1, .ref 6), (2, .int pt), (3, .int (nI ([] : List (Int32 × Int32)).length)), (4, .int (-32))] (show ([0, 1, 2, 3, 4] : List Nat).Nodup by decide) ⟨rfl, rfl, rfl, rfl, rfl, trivial⟩ ?_
  refine wq_mono (c_upOu (rs := (2 * h.length)) (ll := [0, (-32), (-32), (-32), (-32), (-64)]) (lg := [99, 31, 31, 31, 31, 63]) (m := 64) ⟨by omega, by omega, by omega, by omega⟩ (by decide) (by decide) (by decide) 64 h7 tl7 (-32) [] 0 e11x e12x e13x e14x t7 (uT_0 z7) (by decide) (by decide)) ?_
  rintro _ ⟨g2, rfl, gf, gl⟩
  exact ⟨g2, rfl, wFr_tr (wFr_tr (wFr_sub f3x (by simp)) (wFr_tr (wFr_sub f8x (by simp)) (wFr_sub f7 (by simp)))) (wFr_sub gf (by simp))⟩
set_option maxHeartbeats 4000000 in
theorem c_o352 {h : zH} {pt : Int32} (h1 : 0 ≤ pt.toInt ∧ pt.toInt ≤ 63) (c0 : zat h 0 = some (.inr (.inr (.inr (9, [.ref 2, .int 0, .ref 4, .ref 6, .ref 20, .long 70644700037184, .ref 34, .ref 36, .int 0, .long 0, .ref 42, .ref 44, .ref 60, .ref 66, .ref 72, .ref 74, .ref 150, .ref 158]))))) (c6 : zat h 6 = some (.inr (.inr (.inr (0, [.int 9, .int 4, .int 10, .int 2, .int 0, .long 70644700037184, .ref 8, .ref 10, .ref 12, .int 0, .ref 14, .ref 16, .int 0, .ref 18]))))) (c8 : zat h 8 = some (.inl (0, 6, [0, (-32), (-32), (-32), (-32), (-64)]))) (c10 : zat h 10 = some (.inl (0, 6, [99, 31, 31, 31, 31, 63]))) (c158 : zat h 158 = some (.inr (.inr (.inr (8, [.ref 160]))))) (c160 : zat h 160 = some (.inl (0, 0, []))) (hlen : 117 ≤ h.length) : wq 136 0 [(0, .ref 0), (1, .int pt), (2, .int 2)] [] h 0 0 (fun r => ∃ (h2 : zH), r = (some (.int (nI (uOu [0, (-32), (-32), (-32), (-32), (-64)] [99, 31, 31, 31, 31, 63] pt 64 64 (-32) []).length)), h2, 1, 4096) ∧ wFr [158, 2 * h.length] h h2) := by
  have e63 : (63 : Int32).toInt = 63 := rfl
  refine wq_gos (f := 1) (pc2 := 1) (ls2 := [(0, .ref 0), (1, .int pt), (2, .int 2)]) (st2 := [.int pt]) (h2 := h) (dc2 := 0) (ds2 := 0) 1 rfl ?_
  refine wq_lt0f rfl rfl (by omega) ?_
  refine wq_gos (f := 1) (pc2 := 7) (ls2 := [(0, .ref 0), (1, .int pt), (2, .int 2)]) (st2 := [.int 63, .int pt]) (h2 := h) (dc2 := 0) (ds2 := 0) 2 rfl ?_
  refine wq_gt2f rfl rfl (by omega) ?_
  refine wq_gos (f := 1) (pc2 := 27) (ls2 := [(0, .ref 0), (1, .int pt), (2, .int 2)]) (st2 := [.ref 0]) (h2 := h) (dc2 := 0) (ds2 := 0) 9 rfl ?_
  refine wq_getf rfl c0 rfl rfl ?_
  refine wq_gos (f := 1) (pc2 := 31) (ls2 := [(0, .ref 0), (1, .int pt), (2, .int 2)]) (st2 := [.ref 0, .ref 158]) (h2 := h) (dc2 := 0) (ds2 := 0) 1 rfl ?_
  refine wq_getf rfl c0 rfl rfl ?_
  refine wq_gos (f := 1) (pc2 := 35) (ls2 := [(0, .ref 0), (1, .int pt), (2, .int 2)]) (st2 := [.int pt, .ref 6, .ref 158]) (h2 := h) (dc2 := 0) (ds2 := 0) 1 rfl ?_
  refine wq_inlv (y2 := 94) (as := [.ref 6, .int pt]) rfl rfl rfl c158 rfl (wq_mono (c_up0 pt c6 c8 c10 c158 c160 hlen) ?_)
  rintro _ ⟨h8, rfl, f8⟩
  show wq 136 38 [(0, .ref 0), (1, .int pt), (2, .int 2)] [.int (nI (uOu [0, (-32), (-32), (-32), (-32), (-64)] [99, 31, 31, 31, 31, 63] pt 64 64 (-32) []).length)] h8 (0 + 1) (0 + 4096) _
  refine wq_gos (f := 1) (pc2 := 62) (ls2 := [(0, .ref 0), (1, .int pt), (2, .int 2)]) (st2 := [.int (nI (uOu [0, (-32), (-32), (-32), (-32), (-64)] [99, 31, 31, 31, 31, 63] pt 64 64 (-32) []).length)]) (h2 := h8) (dc2 := (0 + 1)) (ds2 := (0 + 4096)) 1 rfl ?_
  exact wq_ret rfl rfl ⟨h8, rfl, f8⟩
