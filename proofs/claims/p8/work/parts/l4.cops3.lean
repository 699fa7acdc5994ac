/-! The class: reach, high, chance, at every state. -/
set_option maxRecDepth 100000 in
set_option maxHeartbeats 4000000 in
theorem c_upP {ra rl rg rv rn rp rw : Nat} {lk hd ht bl sd sp so : Int32} {rt : Int64} {ll lg : List Int32} {rs m dc ds : Nat} {pt : Int32} (hr : rs ≠ ra ∧ rs ≠ rl ∧ rs ≠ rg ∧ rs ≠ 158) (h100 : (lg.getD 3 0).toInt ≤ 100) (h101 : (lg.getD 2 0).toInt ≤ 100) (hm : (ll.getD 3 0).toInt + m = (lg.getD 3 0).toInt + 1) : ∀ (n : Nat) (h : zH) (tl : List Int32) (a : Int32) (D : List (Int32 × Int32)) (k : Nat) (hA : zat h ra = some (.inr (.inr (.inr (0, [.int lk, .int hd, .int ht, .int bl, .int sd, .long rt, .ref rl, .ref rg, .ref rv, .int sp, .ref rn, .ref rp, .int so, .ref rw]))))) (hL : zat h rl = some (.inl (0, 6, ll))) (hG : zat h rg = some (.inl (0, 6, lg))) (hSp : zat h 158 = some (.inr (.inr (.inr (8, [.ref rs]))))) (hT : zat h rs = some (.inl (0, 4096, tl))), uT tl D k → k + n * m ≤ 4096 → a.toInt + n = (lg.getD 2 0).toInt + 1 → wq 94 38 [(0, .ref 158), (1, .ref ra), (2, .int pt), (3, .int (nI D.length)), (4, .int a)] [] h dc ds (fun r => ∃ (h2 : zH) (tl2 : List Int32), r = (some (.int (nI (uOu ll lg pt m n a D).length)), h2, dc, ds) ∧ wFr [rs] h h2 ∧ h2.length = h.length ∧ zat h2 rs = some (.inl (0, 4096, tl2))) := by
  intro n
  induction n with
  | zero =>
    intro h tl a D k hA hL hG hSp hT hU hk ha
    refine wq_gos (f := 1) (pc2 := 41) (ls2 := [(0, .ref 158), (1, .ref ra), (2, .int pt), (3, .int (nI D.length)), (4, .int a)]) (st2 := [.ref ra, .int a]) (h2 := h) (dc2 := dc) (ds2 := ds) 2 rfl ?_
    refine wq_getf rfl hA rfl rfl ?_
    refine wq_gos (f := 1) (pc2 := 45) (ls2 := [(0, .ref 158), (1, .ref ra), (2, .int pt), (3, .int (nI D.length)), (4, .int a)]) (st2 := [.int 2, .ref rg, .int a]) (h2 := h) (dc2 := dc) (ds2 := ds) 1 rfl ?_
    refine wq_ialdk (k := 2) rfl hG rfl rfl rfl ?_
    refine wq_gt2t rfl (by omega) ?_
    refine wq_gos (f := 1) (pc2 := 135) (ls2 := [(0, .ref 158), (1, .ref ra), (2, .int pt), (3, .int (nI D.length)), (4, .int a)]) (st2 := [.int (nI D.length)]) (h2 := h) (dc2 := dc) (ds2 := ds) 1 rfl ?_
    exact wq_ret rfl rfl ⟨h, tl, rfl, wFr_rf _ _, rfl, hT⟩
  | succ n ih =>
    intro h tl a D k hA hL hG hSp hT hU hk ha
    have ha2 : (a + 1).toInt = a.toInt + 1 := z_inc (by omega)
    have hmul : (n + 1) * m = n * m + m := Nat.succ_mul n m
    refine wq_gos (f := 1) (pc2 := 41) (ls2 := [(0, .ref 158), (1, .ref ra), (2, .int pt), (3, .int (nI D.length)), (4, .int a)]) (st2 := [.ref ra, .int a]) (h2 := h) (dc2 := dc) (ds2 := ds) 2 rfl ?_
    refine wq_getf rfl hA rfl rfl ?_
    refine wq_gos (f := 1) (pc2 := 45) (ls2 := [(0, .ref 158), (1, .ref ra), (2, .int pt), (3, .int (nI D.length)), (4, .int a)]) (st2 := [.int 2, .ref rg, .int a]) (h2 := h) (dc2 := dc) (ds2 := ds) 1 rfl ?_
    refine wq_ialdk (k := 2) rfl hG rfl rfl rfl ?_
    refine wq_gt2f rfl rfl (by omega) ?_
    refine wq_gos (f := 1) (pc2 := 50) (ls2 := [(0, .ref 158), (1, .ref ra), (2, .int pt), (3, .int (nI D.length)), (4, .int a)]) (st2 := [.ref ra]) (h2 := h) (dc2 := dc) (ds2 := ds) 1 rfl ?_
    refine wq_getf rfl hA rfl rfl ?_
    refine wq_gos (f := 1) (pc2 := 54) (ls2 := [(0, .ref 158), (1, .ref ra), (2, .int pt), (3, .int (nI D.length)), (4, .int a)]) (st2 := [.int 3, .ref rl]) (h2 := h) (dc2 := dc) (ds2 := ds) 1 rfl ?_
    refine wq_ialdk (k := 3) rfl hL rfl rfl rfl ?_
    refine wq_gos (f := 1) (pc2 := 57) (ls2 := [(5, .int (ll.getD 3 0)), (0, .ref 158), (1, .ref ra), (2, .int pt), (3, .int (nI D.length)), (4, .int a)]) (st2 := []) (h2 := h) (dc2 := dc) (ds2 := ds) 1 rfl ?_
    refine wq_ls [(0, .ref 158), (1, .ref ra), (2, .int pt), (3, .int (nI D.length)), (4, .int a), (5, .int (ll.getD 3 0))] (show ([0, 1, 2, 3, 4, 5] : List Nat).Nodup by decide) ⟨rfl, rfl, rfl, rfl, rfl, rfl, trivial⟩ ?_
    refine c_upIn hr h100 m h tl (ll.getD 3 0) D k hA hL hG hSp hT hU (by omega) hm ?_
    intro h8 tl8 f8 l8 t8 u8
    refine wq_gos (f := 1) (pc2 := 38) (ls2 := [(4, .int (a + 1)), (0, .ref 158), (1, .ref ra), (2, .int pt), (3, .int (nI (uIn ll lg pt a m (ll.getD 3 0) D).length))]) (st2 := []) (h2 := h8) (dc2 := dc) (ds2 := ds) 2 rfl ?_
    have e1x := (f8.2 _ _ (wnc (by omega) wn0) hA)
    have e2x := (f8.2 _ _ (wnc (by omega) wn0) hL)
    have e3x := (f8.2 _ _ (wnc (by omega) wn0) hG)
    have e4x := (f8.2 _ _ (wnc (by omega) wn0) hSp)
    refine wq_ls [(0, .ref 158), (1, .ref ra), (2, .int pt), (3, .int (nI (uIn ll lg pt a m (ll.getD 3 0) D).length)), (4, .int (a + 1))] (show ([0, 1, 2, 3, 4] : List Nat).Nodup by decide) ⟨rfl, rfl, rfl, rfl, rfl, trivial⟩ ?_
    refine wq_mono (ih h8 tl8 (a + 1) (uIn ll lg pt a m (ll.getD 3 0) D) (k + m) e1x e2x e3x e4x t8 u8 (by omega) (by omega)) ?_
    rintro _ ⟨g2, tl2, rfl, gf, gl, gt⟩
    exact ⟨g2, tl2, rfl, wFr_tr f8 gf, by omega, gt⟩
theorem un_n {ra x q : Nat} (hra : ra = 6 ∨ ra = 20) (hx : x = 160 ∨ 234 ≤ x) (h : q = ra ∨ q = ra + 2 ∨ q = ra + 4 ∨ q = 158) : q ∉ [x] := by
  intro hm
  have := List.mem_singleton.mp hm
  omega
theorem un_d {ra x : Nat} (hra : ra = 6 ∨ ra = 20) (hx : x = 160 ∨ 234 ≤ x) : x ≠ ra ∧ x ≠ ra + 2 ∧ x ≠ ra + 4 ∧ x ≠ 158 := by omega
set_option maxHeartbeats 4000000 in
theorem c_unA {h : zH} {ra sp so : Nat} {lk hd ht bl sd : Int32} {rt : Int64} {ll lg : List Int32} {rz cz : Nat} {tl : List Int32} (pt : Int32) (hra : ra = 6 ∨ ra = 20) (hlm : wLm ll lg) (hA : zat h ra = some (.inr (.inr (.inr (0, [.int lk, .int hd, .int ht, .int bl, .int sd, .long rt, .ref (ra + 2), .ref (ra + 4), .ref (ra + 6), .int (nI sp), .ref (ra + 8), .ref (ra + 10), .int (nI so), .ref (ra + 12)]))))) (hL : zat h (ra + 2) = some (.inl (0, 6, ll))) (hG : zat h (ra + 4) = some (.inl (0, 6, lg))) (c158 : zat h 158 = some (.inr (.inr (.inr (8, [.ref rz]))))) (c160 : zat h rz = some (.inl (0, cz, tl))) (hrz : rz = 160 ∨ 234 ≤ rz) (hlen : 117 ≤ h.length) (hcz : cz = 0) : wq 94 0 [(0, .ref 158), (1, .ref ra), (2, .int pt)] [] h 0 0 (fun r => ∃ (v : Int32) (h2 : zH) (tl2 : List Int32), r = (some (.int v), h2, 1, 4096) ∧ wFr [158] h h2 ∧ zat h2 158 = some (.inr (.inr (.inr (8, [.ref (2 * h.length)])))) ∧ zat h2 (2 * h.length) = some (.inl (0, 4096, tl2))) := by
  have l2 := hlm 2 (by decide)
  have l3 := hlm 3 (by decide)
  have z2 : (zLow.getD 2 0).toInt = -32 := rfl
  have z3 : (zLow.getD 3 0).toInt = -32 := rfl
  have y2 : (zHigh.getD 2 0).toInt = 31 := rfl
  have y3 : (zHigh.getD 3 0).toInt = 31 := rfl
  obtain ⟨m3, hm3⟩ : ∃ m : Nat, (ll.getD 3 0).toInt + m = (lg.getD 3 0).toInt + 1 := ⟨((lg.getD 3 0).toInt + 1 - (ll.getD 3 0).toInt).toNat, by omega⟩
  obtain ⟨m2, hm2⟩ : ∃ m : Nat, (ll.getD 2 0).toInt + m = (lg.getD 2 0).toInt + 1 := ⟨((lg.getD 2 0).toInt + 1 - (ll.getD 2 0).toInt).toNat, by omega⟩
  have hmm : m2 * m3 ≤ 64 * 64 := Nat.mul_le_mul (by omega) (by omega)
  subst hcz
  refine wq_gos (f := 1) (pc2 := 1) (ls2 := [(0, .ref 158), (1, .ref ra), (2, .int pt)]) (st2 := [.ref 158]) (h2 := h) (dc2 := 0) (ds2 := 0) 1 rfl ?_
  refine wq_getf rfl c158 rfl rfl ?_
  refine wq_alen rfl c160 rfl ?_
  refine wq_gos (f := 1) (pc2 := 15) (ls2 := [(0, .ref 158), (1, .ref ra), (2, .int pt)]) (st2 := [.int 4096, .ref 158]) (h2 := h) (dc2 := 0) (ds2 := 0) 4 rfl ?_
  refine wq_new (pc2 := 17) (rest := [.ref 158]) (e := .inl (0, 4096, [])) rfl rfl ?_
  intro h1x e2x f3x l4x
  show wq 94 17 [(0, .ref 158), (1, .ref ra), (2, .int pt)] [.ref (2 * h.length), .ref 158] h1x (0 + 1) (0 + 4096) _
  have e5x := (f3x.2 _ _ wn0 c158)
  refine wq_putf rfl e5x rfl rfl rfl ?_
  intro h6x e7x f8x l9x
  have e7x : zat h6x 158 = some (.inr (.inr (.inr (8, [.ref (2 * h.length)])))) := e7x
  refine wq_gos (f := 1) (pc2 := 21) (ls2 := [(0, .ref 158), (1, .ref ra), (2, .int pt)]) (st2 := [.ref 158]) (h2 := h6x) (dc2 := (0 + 1)) (ds2 := (0 + 4096)) 1 rfl ?_
  refine wq_getf rfl e7x rfl rfl ?_
  refine wq_gos (f := 1) (pc2 := 25) (ls2 := [(0, .ref 158), (1, .ref ra), (2, .int pt)]) (st2 := [.int 0, .ref (2 * h.length)]) (h2 := h6x) (dc2 := (0 + 1)) (ds2 := (0 + 4096)) 1 rfl ?_
  have e10x := (f8x.2 _ _ (wnc (by omega) wn0) e2x)
  have gA := (f8x.2 _ _ (wnc (by omega) wn0) (f3x.2 _ _ wn0 hA))
  have gL := (f8x.2 _ _ (wnc (by omega) wn0) (f3x.2 _ _ wn0 hL))
  have gG := (f8x.2 _ _ (wnc (by omega) wn0) (f3x.2 _ _ wn0 hG))
  refine wq_inl (y2 := 286) (as := [.ref (2 * h.length), .int 0]) rfl rfl rfl (wq_mono (c_fill (by decide) e10x 0) ?_)
  rintro _ ⟨h7, tl7, rfl, f7, l7, t7, z7⟩
  show wq 94 28 [(0, .ref 158), (1, .ref ra), (2, .int pt)] [] h7 (0 + 1) (0 + 4096) _
  refine wq_gos (f := 1) (pc2 := 31) (ls2 := [(3, .int 0), (0, .ref 158), (1, .ref ra), (2, .int pt)]) (st2 := [.ref ra]) (h2 := h7) (dc2 := (0 + 1)) (ds2 := (0 + 4096)) 3 rfl ?_
  have e11 := wFr_at f7 (un_n hra (by omega) (Or.inl rfl)) gA
  have e12 := wFr_at f7 (un_n hra (by omega) (Or.inr (Or.inl rfl))) gL
  have e13 := wFr_at f7 (un_n hra (by omega) (Or.inr (Or.inr (Or.inl rfl)))) gG
  have e14 := wFr_at f7 (un_n hra (by omega) (Or.inr (Or.inr (Or.inr rfl)))) e7x
  refine wq_getf rfl e11 rfl rfl ?_
  refine wq_gos (f := 1) (pc2 := 35) (ls2 := [(3, .int 0), (0, .ref 158), (1, .ref ra), (2, .int pt)]) (st2 := [.int 2, .ref (ra + 2)]) (h2 := h7) (dc2 := (0 + 1)) (ds2 := (0 + 4096)) 1 rfl ?_
  refine wq_ialdk (k := 2) rfl e12 rfl rfl rfl ?_
  refine wq_gos (f := 1) (pc2 := 38) (ls2 := [(4, .int (ll.getD 2 0)), (3, .int 0), (0, .ref 158), (1, .ref ra), (2, .int pt)]) (st2 := []) (h2 := h7) (dc2 := (0 + 1)) (ds2 := (0 + 4096)) 1 rfl ?_
  refine wq_ls [(0, .ref 158), (1, .ref ra), (2, .int pt), (3, .int (nI ([] : List (Int32 × Int32)).length)), (4, .int (ll.getD 2 0))] (show ([0, 1, 2, 3, 4] : List Nat).Nodup by decide) ⟨rfl, rfl, rfl, rfl, rfl, trivial⟩ ?_
  refine wq_mono (c_upP (rs := (2 * h.length)) (m := m3) (un_d hra (by omega)) (by omega) (by omega) hm3 m2 h7 tl7 (ll.getD 2 0) [] 0 e11 e12 e13 e14 t7 (uT_0 z7) (by omega) hm2) ?_
  rintro _ ⟨g2, tl9, rfl, gf, gl, gt⟩
  exact ⟨_, g2, tl9, rfl, wFr_gen (wFr_tr (wFr_sub f3x (by simp)) f8x) (wFr_tr f7 gf) (fun q hq => Or.inr (by have := List.mem_singleton.mp hq; omega)), wFr_at gf (by intro hm; have := List.mem_singleton.mp hm; omega) e14, gt⟩
set_option maxHeartbeats 4000000 in
theorem c_unB {h : zH} {ra sp so : Nat} {lk hd ht bl sd : Int32} {rt : Int64} {ll lg : List Int32} {rz cz : Nat} {tl : List Int32} (pt : Int32) (hra : ra = 6 ∨ ra = 20) (hlm : wLm ll lg) (hA : zat h ra = some (.inr (.inr (.inr (0, [.int lk, .int hd, .int ht, .int bl, .int sd, .long rt, .ref (ra + 2), .ref (ra + 4), .ref (ra + 6), .int (nI sp), .ref (ra + 8), .ref (ra + 10), .int (nI so), .ref (ra + 12)]))))) (hL : zat h (ra + 2) = some (.inl (0, 6, ll))) (hG : zat h (ra + 4) = some (.inl (0, 6, lg))) (c158 : zat h 158 = some (.inr (.inr (.inr (8, [.ref rz]))))) (c160 : zat h rz = some (.inl (0, cz, tl))) (hrz : rz = 160 ∨ 234 ≤ rz) (hlen : 117 ≤ h.length) (hcz : cz = 4096) : wq 94 0 [(0, .ref 158), (1, .ref ra), (2, .int pt)] [] h 0 0 (fun r => ∃ (v : Int32) (h2 : zH) (tl2 : List Int32), r = (some (.int v), h2, 0, 0) ∧ wFr [rz] h h2 ∧ zat h2 158 = some (.inr (.inr (.inr (8, [.ref rz])))) ∧ zat h2 rz = some (.inl (0, 4096, tl2))) := by
  have l2 := hlm 2 (by decide)
  have l3 := hlm 3 (by decide)
  have z2 : (zLow.getD 2 0).toInt = -32 := rfl
  have z3 : (zLow.getD 3 0).toInt = -32 := rfl
  have y2 : (zHigh.getD 2 0).toInt = 31 := rfl
  have y3 : (zHigh.getD 3 0).toInt = 31 := rfl
  obtain ⟨m3, hm3⟩ : ∃ m : Nat, (ll.getD 3 0).toInt + m = (lg.getD 3 0).toInt + 1 := ⟨((lg.getD 3 0).toInt + 1 - (ll.getD 3 0).toInt).toNat, by omega⟩
  obtain ⟨m2, hm2⟩ : ∃ m : Nat, (ll.getD 2 0).toInt + m = (lg.getD 2 0).toInt + 1 := ⟨((lg.getD 2 0).toInt + 1 - (ll.getD 2 0).toInt).toNat, by omega⟩
  have hmm : m2 * m3 ≤ 64 * 64 := Nat.mul_le_mul (by omega) (by omega)
  subst hcz
  refine wq_gos (f := 1) (pc2 := 1) (ls2 := [(0, .ref 158), (1, .ref ra), (2, .int pt)]) (st2 := [.ref 158]) (h2 := h) (dc2 := 0) (ds2 := 0) 1 rfl ?_
  refine wq_getf rfl c158 rfl rfl ?_
  refine wq_alen rfl c160 rfl ?_
  refine wq_gos (f := 1) (pc2 := 21) (ls2 := [(0, .ref 158), (1, .ref ra), (2, .int pt)]) (st2 := [.ref 158]) (h2 := h) (dc2 := 0) (ds2 := 0) 3 rfl ?_
  refine wq_getf rfl c158 rfl rfl ?_
  refine wq_gos (f := 1) (pc2 := 25) (ls2 := [(0, .ref 158), (1, .ref ra), (2, .int pt)]) (st2 := [.int 0, .ref rz]) (h2 := h) (dc2 := 0) (ds2 := 0) 1 rfl ?_
  refine wq_inl (y2 := 286) (as := [.ref rz, .int 0]) rfl rfl rfl (wq_mono (c_fill (by decide) c160 0) ?_)
  rintro _ ⟨h7, tl7, rfl, f7, l7, t7, z7⟩
  show wq 94 28 [(0, .ref 158), (1, .ref ra), (2, .int pt)] [] h7 0 0 _
  refine wq_gos (f := 1) (pc2 := 31) (ls2 := [(3, .int 0), (0, .ref 158), (1, .ref ra), (2, .int pt)]) (st2 := [.ref ra]) (h2 := h7) (dc2 := 0) (ds2 := 0) 3 rfl ?_
  have e11 := wFr_at f7 (un_n hra (by omega) (Or.inl rfl)) hA
  have e12 := wFr_at f7 (un_n hra (by omega) (Or.inr (Or.inl rfl))) hL
  have e13 := wFr_at f7 (un_n hra (by omega) (Or.inr (Or.inr (Or.inl rfl)))) hG
  have e14 := wFr_at f7 (un_n hra (by omega) (Or.inr (Or.inr (Or.inr rfl)))) c158
  refine wq_getf rfl e11 rfl rfl ?_
  refine wq_gos (f := 1) (pc2 := 35) (ls2 := [(3, .int 0), (0, .ref 158), (1, .ref ra), (2, .int pt)]) (st2 := [.int 2, .ref (ra + 2)]) (h2 := h7) (dc2 := 0) (ds2 := 0) 1 rfl ?_
  refine wq_ialdk (k := 2) rfl e12 rfl rfl rfl ?_
  refine wq_gos (f := 1) (pc2 := 38) (ls2 := [(4, .int (ll.getD 2 0)), (3, .int 0), (0, .ref 158), (1, .ref ra), (2, .int pt)]) (st2 := []) (h2 := h7) (dc2 := 0) (ds2 := 0) 1 rfl ?_
  refine wq_ls [(0, .ref 158), (1, .ref ra), (2, .int pt), (3, .int (nI ([] : List (Int32 × Int32)).length)), (4, .int (ll.getD 2 0))] (show ([0, 1, 2, 3, 4] : List Nat).Nodup by decide) ⟨rfl, rfl, rfl, rfl, rfl, trivial⟩ ?_
  refine wq_mono (c_upP (rs := rz) (m := m3) (un_d hra (by omega)) (by omega) (by omega) hm3 m2 h7 tl7 (ll.getD 2 0) [] 0 e11 e12 e13 e14 t7 (uT_0 z7) (by omega) hm2) ?_
  rintro _ ⟨g2, tl9, rfl, gf, gl, gt⟩
  exact ⟨_, g2, tl9, rfl, wFr_tr f7 gf, wFr_at gf (un_n hra hrz (Or.inr (Or.inr (Or.inr rfl)))) e14, gt⟩
set_option maxHeartbeats 4000000 in
theorem c_hi {h : zH} {ra sp so : Nat} {lk hd ht bl sd : Int32} {rt : Int64} {ll lg : List Int32} {rz cz : Nat} {tl : List Int32} (pt : Int32) (hra : ra = 6 ∨ ra = 20) (hlm : wLm ll lg) (hA : zat h ra = some (.inr (.inr (.inr (0, [.int lk, .int hd, .int ht, .int bl, .int sd, .long rt, .ref (ra + 2), .ref (ra + 4), .ref (ra + 6), .int (nI sp), .ref (ra + 8), .ref (ra + 10), .int (nI so), .ref (ra + 12)]))))) (hL : zat h (ra + 2) = some (.inl (0, 6, ll))) (hG : zat h (ra + 4) = some (.inl (0, 6, lg))) (c158 : zat h 158 = some (.inr (.inr (.inr (8, [.ref rz]))))) (c160 : zat h rz = some (.inl (0, cz, tl))) (hrz : rz = 160 ∨ 234 ≤ rz) (hlen : 117 ≤ h.length) (out : Int32) : wq 96 0 [(0, .ref 158), (1, .ref ra), (2, .int out)] [] h 0 0 (fun r => ∃ v, r = (some (.int v), h, 0, 0)) := by
  have l2 := hlm 2 (by decide)
  have l3 := hlm 3 (by decide)
  have z2 : (zLow.getD 2 0).toInt = -32 := rfl
  have z3 : (zLow.getD 3 0).toInt = -32 := rfl
  have y2 : (zHigh.getD 2 0).toInt = 31 := rfl
  have y3 : (zHigh.getD 3 0).toInt = 31 := rfl
  obtain ⟨m3, hm3⟩ : ∃ m : Nat, (ll.getD 3 0).toInt + m = (lg.getD 3 0).toInt + 1 := ⟨((lg.getD 3 0).toInt + 1 - (ll.getD 3 0).toInt).toNat, by omega⟩
  obtain ⟨m2, hm2⟩ : ∃ m : Nat, (ll.getD 2 0).toInt + m = (lg.getD 2 0).toInt + 1 := ⟨((lg.getD 2 0).toInt + 1 - (ll.getD 2 0).toInt).toNat, by omega⟩
  have hmm : m2 * m3 ≤ 64 * 64 := Nat.mul_le_mul (by omega) (by omega)
  refine wq_gos (f := 1) (pc2 := 4) (ls2 := [(3, .int (-2147483648)), (0, .ref 158), (1, .ref ra), (2, .int out)]) (st2 := [.ref ra]) (h2 := h) (dc2 := 0) (ds2 := 0) 3 rfl ?_
  refine wq_getf rfl hA rfl rfl ?_
  refine wq_gos (f := 1) (pc2 := 8) (ls2 := [(3, .int (-2147483648)), (0, .ref 158), (1, .ref ra), (2, .int out)]) (st2 := [.int 2, .ref (ra + 2)]) (h2 := h) (dc2 := 0) (ds2 := 0) 1 rfl ?_
  refine wq_ialdk (k := 2) rfl hL rfl rfl rfl ?_
  refine wq_gos (f := 1) (pc2 := 11) (ls2 := [(4, .int (ll.getD 2 0)), (3, .int (-2147483648)), (0, .ref 158), (1, .ref ra), (2, .int out)]) (st2 := []) (h2 := h) (dc2 := 0) (ds2 := 0) 1 rfl ?_
  refine wq_ls [(0, .ref 158), (1, .ref ra), (2, .int out), (3, .int (-2147483648)), (4, .int (ll.getD 2 0))] (show ([0, 1, 2, 3, 4] : List Nat).Nodup by decide) ⟨rfl, rfl, rfl, rfl, rfl, trivial⟩ ?_
  refine wq_mono (c_hiOu (m := m3) hA hL hG c158 hm3 (by omega) m2 (ll.getD 2 0) (-2147483648) 0 0 hm2 (by omega)) ?_
  rintro _ rfl
  exact ⟨_, rfl⟩
set_option maxHeartbeats 4000000 in
theorem c_om {h : zH} {ra sp so : Nat} {lk hd ht bl sd : Int32} {rt : Int64} {ll lg : List Int32} {rz cz : Nat} {tl : List Int32} (pt : Int32) (hra : ra = 6 ∨ ra = 20) (hlm : wLm ll lg) (hA : zat h ra = some (.inr (.inr (.inr (0, [.int lk, .int hd, .int ht, .int bl, .int sd, .long rt, .ref (ra + 2), .ref (ra + 4), .ref (ra + 6), .int (nI sp), .ref (ra + 8), .ref (ra + 10), .int (nI so), .ref (ra + 12)]))))) (hL : zat h (ra + 2) = some (.inl (0, 6, ll))) (hG : zat h (ra + 4) = some (.inl (0, 6, lg))) (c158 : zat h 158 = some (.inr (.inr (.inr (8, [.ref rz]))))) (c160 : zat h rz = some (.inl (0, cz, tl))) (hrz : rz = 160 ∨ 234 ≤ rz) (hlen : 117 ≤ h.length) (p gr : Int32) : wq 93 0 [(0, .ref 158), (1, .ref ra), (2, .int p), (3, .int gr)] [] h 0 0 (fun r => ∃ v, r = (some (.int v), h, 0, 0)) := by
  have l2 := hlm 2 (by decide)
  have l3 := hlm 3 (by decide)
  have z2 : (zLow.getD 2 0).toInt = -32 := rfl
  have z3 : (zLow.getD 3 0).toInt = -32 := rfl
  have y2 : (zHigh.getD 2 0).toInt = 31 := rfl
  have y3 : (zHigh.getD 3 0).toInt = 31 := rfl
  obtain ⟨m3, hm3⟩ : ∃ m : Nat, (ll.getD 3 0).toInt + m = (lg.getD 3 0).toInt + 1 := ⟨((lg.getD 3 0).toInt + 1 - (ll.getD 3 0).toInt).toNat, by omega⟩
  obtain ⟨m2, hm2⟩ : ∃ m : Nat, (ll.getD 2 0).toInt + m = (lg.getD 2 0).toInt + 1 := ⟨((lg.getD 2 0).toInt + 1 - (ll.getD 2 0).toInt).toNat, by omega⟩
  have hmm : m2 * m3 ≤ 64 * 64 := Nat.mul_le_mul (by omega) (by omega)
  exact ⟨_, c_outermost hA hL hG 158 p gr (by omega) (by omega) (by omega) (by omega) hm3 hm2, ⟨_, rfl⟩⟩
theorem cOk_n {h : zH} {rw cp : Nat → Nat} {t rd : Nat} {ps ip : Int64} {im : Int32} {ra sp so : Nat} {lk hd ht bl sd : Int32} {rt : Int64} {ll lg sv nm wy : List Int32} {po : List Int64} {wg ka kb : Int32} {tb : List Int32} {wr9 wa9 : Int32} {pl ia ua : List Int32} {pp : List Int64} {us un : Nat} (kx : CIx h rw cp t rd ps ip im ra sp so lk hd ht bl sd rt ll lg sv nm wy po wg ka kb tb wr9 wa9 pl ia ua pp us un) {h2 : zH} {rz2 cz2 d s : Nat} (hS2 : wSn h2 rz2 cz2) (f9 : wFr [158, rw 16] h h2) (q16 : rz2 = rw 16 ∨ 2 * h.length ≤ rz2) (u16 : rz2 < 2 * h2.length) (a0 : d + cp 16 ≤ cz2) (a1 : s + 2 * cp 16 ≤ 2 * cz2) (v : Int32) : cOk h (kD cp) (kS cp) ((t, tb, wr9, wa9, im, sp, so, lk, hd, ht, bl, sd, rt, ll, lg, sv, nm, wy, po), (ps, ip, us, un, pl, ia, pp, ua)) (some (.int v), h2, d, s) := by
  obtain ⟨rw2, cp2, er, ec, kx2, fx⟩ := CIx_n kx hS2 f9 q16 u16
  have e1 := kD_up (cp := cp) 16 cz2 (by decide)
  have e2 := kS_up (cp := cp) 16 cz2 (by decide)
  rw [← ec] at e1 e2
  exact ⟨v, h2, d, s, _, _, rfl, ⟨rw2, cp2, _, rd, ps, ip, im, ra, sp, so, lk, hd, ht, bl, sd, rt, ll, lg, sv, nm, wy, po, wg, ka, kb, _, _, _, _, _, _, _, _, _, kx2, rfl, rfl, rfl⟩, fx, by clear q16 kx kx2 fx; omega, by clear q16 kx kx2 fx; omega⟩
set_option maxRecDepth 100000 in
set_option maxHeartbeats 4000000 in
theorem cCall_35 {h : zH} {D S : Nat} {V : cV} {p9 w : Int32} (k : CI h D S V)  : wq 136 0 [(0, .ref 0), (1, .int p9), (2, .int w)] [] h 0 0 (cOk h D S V) := by
  obtain ⟨rw, cp, t, rd, ps, ip, im, ra, sp, so, lk, hd, ht, bl, sd, rt, ll, lg, sv, nm, wy, po, wg, ka, kb, tb, wr9, wa9, pl, ia, ua, pp, us, un, kx, rfl, rfl, rfl⟩ := k
  have kx0 := kx
  obtain ⟨hX, ⟨htt, hrd, hrae⟩, kT, kA, kDr, kU, kZ, k6, kW, kRn, kSn, hRw, hlen⟩ := kx0
  have kA0 := kA
  obtain ⟨hA, hL, hG, hV, hN, hQ, hW, hsc, hlm, hsv, hsp, hway, hra⟩ := kA0
  have kT0 := kT
  obtain ⟨ln9, nx9, kd9, sta9, va9, tld9, b9, a9, hT, hR4⟩ := kT0
  have kU0 := kU
  obtain ⟨hAi, hIa, hP, hP8, hP0, hu1, hu2⟩ := kU0
  have kSn0 := kSn
  obtain ⟨tl, c158, c160, hcz⟩ := kSn0
  have r16 : rw 16 = 160 ∨ 234 ≤ rw 16 := row_h hRw (by decide)
  refine wq_gos (f := 1) (pc2 := 1) (ls2 := [(0, .ref 0), (1, .int p9), (2, .int w)]) (st2 := [.int p9]) (h2 := h) (dc2 := 0) (ds2 := 0) 1 rfl ?_
  refine wq_lt0 rfl rfl (fun b1x => ?_) (fun b1x => ?_)
  · refine wq_gos (f := 1) (pc2 := 20) (ls2 := [(0, .ref 0), (1, .int p9), (2, .int w)]) (st2 := [.int (-1)]) (h2 := h) (dc2 := 0) (ds2 := 0) 1 rfl ?_
    exact wq_ret rfl rfl (cOk_i kx _)
  · refine wq_gos (f := 1) (pc2 := 7) (ls2 := [(0, .ref 0), (1, .int p9), (2, .int w)]) (st2 := [.int 63, .int p9]) (h2 := h) (dc2 := 0) (ds2 := 0) 2 rfl ?_
    have q2x : (63 : Int32).toInt = 63 := rfl
    refine wq_gt2 rfl rfl (fun b3x => ?_) (fun b3x => ?_)
    · refine wq_gos (f := 1) (pc2 := 20) (ls2 := [(0, .ref 0), (1, .int p9), (2, .int w)]) (st2 := [.int (-1)]) (h2 := h) (dc2 := 0) (ds2 := 0) 1 rfl ?_
      exact wq_ret rfl rfl (cOk_i kx _)
    · refine wq_gos (f := 1) (pc2 := 11) (ls2 := [(0, .ref 0), (1, .int p9), (2, .int w)]) (st2 := [.int w]) (h2 := h) (dc2 := 0) (ds2 := 0) 1 rfl ?_
      refine wq_lt0 rfl rfl (fun b4x => ?_) (fun b4x => ?_)
      · refine wq_gos (f := 1) (pc2 := 20) (ls2 := [(0, .ref 0), (1, .int p9), (2, .int w)]) (st2 := [.int (-1)]) (h2 := h) (dc2 := 0) (ds2 := 0) 1 rfl ?_
        exact wq_ret rfl rfl (cOk_i kx _)
      · refine wq_gos (f := 1) (pc2 := 16) (ls2 := [(0, .ref 0), (1, .int p9), (2, .int w)]) (st2 := [.int 2, .int w]) (h2 := h) (dc2 := 0) (ds2 := 0) 2 rfl ?_
        have q5x : (2 : Int32).toInt = 2 := rfl
        refine wq_le2 rfl rfl (fun b6x => ?_) (fun b6x => ?_)
        · refine wq_gos (f := 1) (pc2 := 23) (ls2 := [(0, .ref 0), (1, .int p9), (2, .int w)]) (st2 := [.int 2, .int w]) (h2 := h) (dc2 := 0) (ds2 := 0) 2 rfl ?_
          refine wq_ne2 rfl rfl (fun b7x => ?_) (fun b7x => ?_)
          · have q8x : w.toInt ≠ 2 := fun q => b7x (Int32.toInt_inj.mp q)
            refine wq_gos (f := 1) (pc2 := 42) (ls2 := [(0, .ref 0), (1, .int p9), (2, .int w)]) (st2 := [.ref 0]) (h2 := h) (dc2 := 0) (ds2 := 0) 1 rfl ?_
            refine wq_getf rfl hX rfl rfl ?_
            refine wq_gos (f := 1) (pc2 := 46) (ls2 := [(0, .ref 0), (1, .int p9), (2, .int w)]) (st2 := [.ref 0, .ref 158]) (h2 := h) (dc2 := 0) (ds2 := 0) 1 rfl ?_
            refine wq_getf rfl hX rfl rfl ?_
            refine wq_gos (f := 1) (pc2 := 51) (ls2 := [(0, .ref 0), (1, .int p9), (2, .int w)]) (st2 := [.int w, .int p9, .ref ra, .ref 158]) (h2 := h) (dc2 := 0) (ds2 := 0) 2 rfl ?_
            refine wq_ne0 rfl rfl (fun b9x => ?_) (fun b9x => ?_)
            · have q10x : w.toInt ≠ 0 := fun q => b9x (Int32.toInt_inj.mp q)
              refine wq_gos (f := 1) (pc2 := 59) (ls2 := [(0, .ref 0), (1, .int p9), (2, .int w)]) (st2 := [.int 0, .int p9, .ref ra, .ref 158]) (h2 := h) (dc2 := 0) (ds2 := 0) 1 rfl ?_
              refine wq_inlv (y2 := 93) (as := [.ref ra, .int p9, .int 0]) rfl rfl rfl c158 rfl (wq_mono (c_om 0 hra hlm hA hL hG c158 c160 r16 hlen p9 (0 : Int32)) ?_)
              rintro _ ⟨v11x, rfl⟩
              show wq 136 62 [(0, .ref 0), (1, .int p9), (2, .int w)] [.int v11x] h 0 0 _
              exact wq_ret rfl rfl (cOk_i kx _)
            · have q12x : w.toInt = 0 := congrArg Int32.toInt b9x
              refine wq_gos (f := 1) (pc2 := 59) (ls2 := [(0, .ref 0), (1, .int p9), (2, .int w)]) (st2 := [.int 1, .int p9, .ref ra, .ref 158]) (h2 := h) (dc2 := 0) (ds2 := 0) 2 rfl ?_
              refine wq_inlv (y2 := 93) (as := [.ref ra, .int p9, .int 1]) rfl rfl rfl c158 rfl (wq_mono (c_om 0 hra hlm hA hL hG c158 c160 r16 hlen p9 (1 : Int32)) ?_)
              rintro _ ⟨v13x, rfl⟩
              show wq 136 62 [(0, .ref 0), (1, .int p9), (2, .int w)] [.int v13x] h 0 0 _
              exact wq_ret rfl rfl (cOk_i kx _)
          · have q14x : w.toInt = 2 := congrArg Int32.toInt b7x
            refine wq_gos (f := 1) (pc2 := 27) (ls2 := [(0, .ref 0), (1, .int p9), (2, .int w)]) (st2 := [.ref 0]) (h2 := h) (dc2 := 0) (ds2 := 0) 1 rfl ?_
            refine wq_getf rfl hX rfl rfl ?_
            refine wq_gos (f := 1) (pc2 := 31) (ls2 := [(0, .ref 0), (1, .int p9), (2, .int w)]) (st2 := [.ref 0, .ref 158]) (h2 := h) (dc2 := 0) (ds2 := 0) 1 rfl ?_
            refine wq_getf rfl hX rfl rfl ?_
            refine wq_gos (f := 1) (pc2 := 35) (ls2 := [(0, .ref 0), (1, .int p9), (2, .int w)]) (st2 := [.int p9, .ref ra, .ref 158]) (h2 := h) (dc2 := 0) (ds2 := 0) 1 rfl ?_
            rcases hcz with hcz | hcz
            · refine wq_inlv (y2 := 94) (as := [.ref ra, .int p9]) rfl rfl rfl c158 rfl (wq_mono (c_unA p9 hra hlm hA hL hG c158 c160 r16 hlen hcz) ?_)
              rintro _ ⟨v9, h8, tl2, rfl, f, e158, erz⟩
              show wq 136 38 [(0, .ref 0), (1, .int p9), (2, .int w)] [.int v9] h8 (0 + 1) (0 + 4096) _
              refine wq_gos (f := 1) (pc2 := 62) (ls2 := [(0, .ref 0), (1, .int p9), (2, .int w)]) (st2 := [.int v9]) (h2 := h8) (dc2 := (0 + 1)) (ds2 := (0 + 4096)) 1 rfl ?_
              exact wq_ret rfl rfl (cOk_n kx ⟨tl2, e158, erz, Or.inr rfl⟩ (wFr_sub f (fun q hq => by rw [List.mem_singleton.mp hq]; simp)) (Or.inr (Nat.le_refl _)) (zat_lt erz) (by omega) (by omega) _)
            · refine wq_inlv (y2 := 94) (as := [.ref ra, .int p9]) rfl rfl rfl c158 rfl (wq_mono (c_unB p9 hra hlm hA hL hG c158 c160 r16 hlen hcz) ?_)
              rintro _ ⟨v9, h8, tl2, rfl, f, e158, erz⟩
              show wq 136 38 [(0, .ref 0), (1, .int p9), (2, .int w)] [.int v9] h8 (0 + 0) (0 + 0) _
              refine wq_gos (f := 1) (pc2 := 62) (ls2 := [(0, .ref 0), (1, .int p9), (2, .int w)]) (st2 := [.int v9]) (h2 := h8) (dc2 := (0 + 0)) (ds2 := (0 + 0)) 1 rfl ?_
              exact wq_ret rfl rfl (cOk_n kx ⟨tl2, e158, erz, Or.inr rfl⟩ (wFr_sub f (fun q hq => by rw [List.mem_singleton.mp hq]; simp)) (Or.inl rfl) (zat_lt erz) (by omega) (by omega) _)
        · refine wq_gos (f := 1) (pc2 := 20) (ls2 := [(0, .ref 0), (1, .int p9), (2, .int w)]) (st2 := [.int (-1)]) (h2 := h) (dc2 := 0) (ds2 := 0) 1 rfl ?_
          exact wq_ret rfl rfl (cOk_i kx _)
set_option maxRecDepth 100000 in
set_option maxHeartbeats 4000000 in
theorem cCall_36 {h : zH} {D S : Nat} {V : cV} {o9 : Int32} (k : CI h D S V)  : wq 137 0 [(0, .ref 0), (1, .int o9)] [] h 0 0 (cOk h D S V) := by
  obtain ⟨rw, cp, t, rd, ps, ip, im, ra, sp, so, lk, hd, ht, bl, sd, rt, ll, lg, sv, nm, wy, po, wg, ka, kb, tb, wr9, wa9, pl, ia, ua, pp, us, un, kx, rfl, rfl, rfl⟩ := k
  have kx0 := kx
  obtain ⟨hX, ⟨htt, hrd, hrae⟩, kT, kA, kDr, kU, kZ, k6, kW, kRn, kSn, hRw, hlen⟩ := kx0
  have kA0 := kA
  obtain ⟨hA, hL, hG, hV, hN, hQ, hW, hsc, hlm, hsv, hsp, hway, hra⟩ := kA0
  have kT0 := kT
  obtain ⟨ln9, nx9, kd9, sta9, va9, tld9, b9, a9, hT, hR4⟩ := kT0
  have kU0 := kU
  obtain ⟨hAi, hIa, hP, hP8, hP0, hu1, hu2⟩ := kU0
  have kSn0 := kSn
  obtain ⟨tl, c158, c160, hcz⟩ := kSn0
  have r16 : rw 16 = 160 ∨ 234 ≤ rw 16 := row_h hRw (by decide)
  refine wq_gos (f := 1) (pc2 := 1) (ls2 := [(0, .ref 0), (1, .int o9)]) (st2 := [.ref 0]) (h2 := h) (dc2 := 0) (ds2 := 0) 1 rfl ?_
  refine wq_getf rfl hX rfl rfl ?_
  refine wq_gos (f := 1) (pc2 := 5) (ls2 := [(0, .ref 0), (1, .int o9)]) (st2 := [.ref 0, .ref 158]) (h2 := h) (dc2 := 0) (ds2 := 0) 1 rfl ?_
  refine wq_getf rfl hX rfl rfl ?_
  refine wq_gos (f := 1) (pc2 := 9) (ls2 := [(0, .ref 0), (1, .int o9)]) (st2 := [.int o9, .ref ra, .ref 158]) (h2 := h) (dc2 := 0) (ds2 := 0) 1 rfl ?_
  refine wq_inlv (y2 := 96) (as := [.ref ra, .int o9]) rfl rfl rfl c158 rfl (wq_mono (c_hi 0 hra hlm hA hL hG c158 c160 r16 hlen o9) ?_)
  rintro _ ⟨v1x, rfl⟩
  show wq 137 12 [(0, .ref 0), (1, .int o9)] [.int v1x] h 0 0 _
  exact wq_ret rfl rfl (cOk_i kx _)
