/-! The class: a route is chosen, all of it. -/
theorem ch_n {a b x n : Nat} (h : a = b ∨ 2 * n ≤ a) (h1 : b ≠ x) (h2 : x < 2 * n) : a ≠ x := by omega
theorem ch_a {rr rS : Nat} (hrr : (rr = 80 ∨ rr = 88) ∧ (rS = rr + 6 ∨ 234 ≤ rS)) : ∀ q ∈ [74, rr, rS, rr + 2, rr + 4], 34 ≤ q ∧ q ≠ 78 := by
  intro q hq
  simp only [List.mem_cons, List.not_mem_nil, or_false] at hq
  omega
theorem ch_c {rr rS q : Nat} (hrr : (rr = 80 ∨ rr = 88) ∧ (rS = rr + 6 ∨ 234 ≤ rS)) (h : q < 74 ∨ (96 ≤ q ∧ q ≠ rS)) : q ∉ [74, rr, rS, rr + 2, rr + 4] := by
  simp only [List.mem_cons, List.not_mem_nil, or_false, not_or]
  omega
theorem ch_e {h : zH} {to rL cap : Nat → Nat} {kn ks fa : Nat → Int32} {hp : Nat → List Int32} {li : Nat → List Int64} {rr rS : Nat} (k : wHs h to rL cap kn ks fa hp li) (hrr : (rr = 80 ∨ rr = 88) ∧ (rS = rr + 6 ∨ 234 ≤ rS)) (hrn : ∀ w, w < 8 → rS ≠ rL w) : ∀ q ∈ [74, rr, rS, rr + 2, rr + 4], (q < 102 ∨ 150 ≤ q) ∧ ∀ w, w < 8 → q ≠ rL w := by
  intro q hq
  simp only [List.mem_cons, List.not_mem_nil, or_false] at hq
  refine ⟨by omega, fun w hw => ?_⟩
  have h1 := (k w hw).2.2.2.1
  have h2 := hrn w hw
  omega
theorem ch_z {a w : Nat} (h : a = 102 + 6 * w + 2 ∨ 234 ≤ a) : a = 104 + 6 * w ∨ 234 ≤ a := by omega
theorem ch_k1 {rr rS : Nat} (hrr : (rr = 80 ∨ rr = 88) ∧ (rS = rr + 6 ∨ 234 ≤ rS)) : rS ∉ [74, rr] := by
  simp only [List.mem_cons, List.not_mem_nil, or_false, not_or]
  omega
theorem ch_k2 {rr rS : Nat} (hrr : (rr = 80 ∨ rr = 88) ∧ (rS = rr + 6 ∨ 234 ≤ rS)) : rr + 2 ∉ [74, rr] := by
  simp only [List.mem_cons, List.not_mem_nil, or_false, not_or]
  omega
theorem ch_k3 {rr rS : Nat} (hrr : (rr = 80 ∨ rr = 88) ∧ (rS = rr + 6 ∨ 234 ≤ rS)) : rr + 4 ∉ [74, rr] := by
  simp only [List.mem_cons, List.not_mem_nil, or_false, not_or]
  omega
theorem ch_r {ra : Nat} (hra : ra = 6 ∨ ra = 20) : ra + 6 < 74 := by omega
theorem ch_s {rr rS : Nat} (hrr : (rr = 80 ∨ rr = 88) ∧ (rS = rr + 6 ∨ 234 ≤ rS)) : 96 ≠ rS := by omega
theorem ch_t {rl : Nat} (hrl : rl = 98 ∨ rl = 100 ∨ 234 ≤ rl) : 96 ≤ rl := by omega
theorem ch_u {i m so : Nat} (h : i + (m + 1) = so) : i + 1 + m = so := by omega
theorem ch_v {T i a : Nat} (h : T ≤ 300 * i) (h2 : a ≤ 300) : T + a ≤ 300 * (i + 1) := by omega
theorem ch_w {h h2 : zH} {rS rS2 rS3 : Nat} (a : rS2 = rS ∨ 2 * h.length ≤ rS2) (b : rS3 = rS2 ∨ 2 * h2.length ≤ rS3) (l : h.length ≤ h2.length) : rS3 = rS ∨ 2 * h.length ≤ rS3 := by omega
theorem ch_x {d9 N N2 N3 dc d3 : Nat} (a : d9 + N ≤ dc + N2) (b : d3 + N2 ≤ d9 + N3) : d3 + N ≤ dc + N3 := by omega
theorem ch_y {d9 N N2 N3 dc d3 : Nat} (a : d9 + 2 * N ≤ dc + 2 * N2) (b : d3 + 2 * N2 ≤ d9 + 2 * N3) : d3 + 2 * N ≤ dc + 2 * N3 := by omega
theorem ch_g {rr rS rS2 n : Nat} (h : rS2 = rS ∨ 2 * n ≤ rS2) : ∀ q ∈ [74, rr, rS2, rr + 2, rr + 4], q ∈ [74, rr, rS, rr + 2, rr + 4] ∨ 2 * n ≤ q := by
  intro q hq
  simp only [List.mem_cons, List.not_mem_nil, or_false] at hq ⊢
  omega
theorem ch_h {rr rS rS2 n : Nat} (hrr : (rr = 80 ∨ rr = 88) ∧ (rS = rr + 6 ∨ 234 ≤ rS)) (h : rS2 = rS ∨ 2 * n ≤ rS2) (hn : 117 ≤ n) : (rr = 80 ∨ rr = 88) ∧ (rS2 = rr + 6 ∨ 234 ≤ rS2) := by omega
set_option maxRecDepth 100000 in
set_option maxHeartbeats 4000000 in
theorem c_ch0 {h : zH} {Q : zR → Prop} {dc ds : Nat} {ra sp so : Nat} {lk hd ht bl sd : Int32} {rt : Int64} {rp rs al : Nat} {wg ob pr9 sr9 fw : Int32} {rl rr i : Nat} {he : Int64} {st : Int32} (hP : zat h 74 = some (.inr (.inr (.inr (3, [.ref 44, .ref ra, .ref 76, .ref 78, .ref 80, .ref 88, .int wg, .int ob, .ref 96, .int (nI al), .int pr9, .int sr9, .ref rp, .ref rs, .int fw]))))) (hA : zat h ra = some (.inr (.inr (.inr (0, [.int lk, .int hd, .int ht, .int bl, .int sd, .long rt, .ref (ra + 2), .ref (ra + 4), .ref (ra + 6), .int (nI sp), .ref (ra + 8), .ref (ra + 10), .int (nI so), .ref (ra + 12)]))))) (hi : so ≤ i ∧ i ≤ 10) (kE : Q (none, h, dc, ds)) : wq 29 15 [(0, .ref 74), (1, .ref rr), (2, .int st), (3, .ref rl), (4, .long he), (6, .int (nI i))] [] h dc ds Q := by
  have qni := nI_toInt (n := i) (by omega)
  have qnso := nI_toInt (n := so) (by omega)
  refine wq_gos (f := 1) (pc2 := 18) (ls2 := [(0, .ref 74), (1, .ref rr), (2, .int st), (3, .ref rl), (4, .long he), (6, .int (nI i))]) (st2 := [.ref 74, .int (nI i)]) (h2 := h) (dc2 := dc) (ds2 := ds) 2 rfl ?_
  refine wq_getf rfl hP rfl rfl ?_
  refine wq_getf rfl hA rfl rfl ?_
  try have q1x := nI_toInt (n := i) (by omega)
  try have q2x := nI_toInt (n := so) (by omega)
  refine wq_ge2t rfl (by omega) ?_
  exact wq_ret rfl rfl (kE )
noncomputable def chG0 (sv : List Int32) (to : Nat → Nat) (li : Nat → List Int64) (wn S : Nat → Nat) (lf : List Int32) : Nat → Nat → Int64 → Nat → List Int32 → List Int32 → Int32 × List Int32 × List Int32
  | 0, _, _, T, pk, cn => (nI T, pk, cn)
  | m + 1, i, he, T, pk, cn => if (pnR0 sv (li (wn i)) lf (S i) (to (wn i)) he).1 = -1 then (-2, pk, cn) else chG0 sv to li wn S lf m (i + 1) ((li (wn i)).getD (pnR0 sv (li (wn i)) lf (S i) (to (wn i)) he).1.toNatClampNeg 0) (T + (tkF sv he ((li (wn i)).getD (pnR0 sv (li (wn i)) lf (S i) (to (wn i)) he).1.toNatClampNeg 0) (1000000 : Int32) (6 - 0 + 1) 0 0).toNatClampNeg) (zset 0 pk i (pnR0 sv (li (wn i)) lf (S i) (to (wn i)) he).1) (zset 0 cn i (nI (T + (tkF sv he ((li (wn i)).getD (pnR0 sv (li (wn i)) lf (S i) (to (wn i)) he).1.toNatClampNeg 0) (1000000 : Int32) (6 - 0 + 1) 0 0).toNatClampNeg)))
set_option maxRecDepth 100000 in
theorem c_rcL0 {ra sp so : Nat} {lk hd ht bl sd : Int32} {rt : Int64} {ll lg wy sv fi : List Int32} {po : List Int64} {rp rs al : Nat} {wg ob pr9 sr9 : Int32} {to rL cap : Nat → Nat} {kn ks fa : Nat → Int32} {hp : Nat → List Int32} {li : Nat → List Int64} {S : Nat → Nat} {rl n9 : Nat} {lf : List Int32} {rr : Nat} {kn9 : Int32} {fr9 : Int64} (hra : ra = 6 ∨ ra = 20) (hsp : sp ≤ 8) (hway : wWay wy sp so) (hsv : wSpd sv) (hto : ∀ q, q < so → to ((wy.getD q 0).toNatClampNeg) ≤ 600 ∧ to ((wy.getD q 0).toNatClampNeg) ≤ cap ((wy.getD q 0).toNatClampNeg) ∧ fi.getD q 0 = nI (S q) ∧ S q + to ((wy.getD q 0).toNatClampNeg) ≤ n9) (hn9 : n9 ≤ 20000) (hrl : rl = 98 ∨ rl = 100 ∨ 234 ≤ rl) : ∀ (m i : Nat) (he : Int64) (T N rS : Nat) (stp : List Int64) (pks cns : List Int32) (fw : Int32) (dc ds : Nat) (h : zH), i + m = so → T < N → T ≤ 300 * i → N ≤ 6002 → ((rr = 80 ∨ rr = 88) ∧ (rS = rr + 6 ∨ 234 ≤ rS)) → (∀ w, w < 8 → rS ≠ rL w) → rS ≠ rl → 117 ≤ h.length → wAc h ra sp so lk hd ht bl sd rt ll lg wy po → zat h (ra + 6) = some (.inl (0, 6, sv)) → wHs h to rL cap kn ks fa hp li → zat h 96 = some (.inl (0, 10, fi)) → zat h rl = some (.inl (0, n9, lf)) → zat h 74 = some (.inr (.inr (.inr (3, [.ref 44, .ref ra, .ref 76, .ref 78, .ref 80, .ref 88, .int wg, .int ob, .ref 96, .int (nI al), .int pr9, .int sr9, .ref rp, .ref rs, .int fw])))) → zat h rr = some (.inr (.inr (.inr (6, [.int kn9, .long fr9, .int (nI T), .ref (rr + 2), .ref (rr + 4), .ref rS])))) → zat h rS = some (.inr (.inl (N, stp))) → zat h (rr + 2) = some (.inl (0, 10, pks)) → zat h (rr + 4) = some (.inl (0, 10, cns)) → wq 29 15 [(0, .ref 74), (1, .ref rr), (2, .int 0), (3, .ref rl), (4, .long he), (6, .int (nI i))] [] h dc ds (fun r => ∃ (h2 : zH) (rS2 N2 d s : Nat) (fw2 : Int32) (st2 : List Int64), r = (none, h2, d, s) ∧ wFr [74, rr, rS, rr + 2, rr + 4] h h2 ∧ zat h2 74 = some (.inr (.inr (.inr (3, [.ref 44, .ref ra, .ref 76, .ref 78, .ref 80, .ref 88, .int wg, .int ob, .ref 96, .int (nI al), .int pr9, .int sr9, .ref rp, .ref rs, .int fw2])))) ∧ zat h2 rr = some (.inr (.inr (.inr (6, [.int kn9, .long fr9, .int (chG0 sv to li (fun q => (wy.getD q 0).toNatClampNeg) S lf m i he T pks cns).1, .ref (rr + 2), .ref (rr + 4), .ref rS2])))) ∧ zat h2 rS2 = some (.inr (.inl (N2, st2))) ∧ zat h2 (rr + 2) = some (.inl (0, 10, (chG0 sv to li (fun q => (wy.getD q 0).toNatClampNeg) S lf m i he T pks cns).2.1)) ∧ zat h2 (rr + 4) = some (.inl (0, 10, (chG0 sv to li (fun q => (wy.getD q 0).toNatClampNeg) S lf m i he T pks cns).2.2)) ∧ (((chG0 sv to li (fun q => (wy.getD q 0).toNatClampNeg) S lf m i he T pks cns).1 = -2) ∨ ∃ T2, (chG0 sv to li (fun q => (wy.getD q 0).toNatClampNeg) S lf m i he T pks cns).1 = nI T2 ∧ T2 < N2 ∧ T2 ≤ 300 * so) ∧ N2 ≤ 6002 ∧ N ≤ N2 ∧ (rS2 = rS ∨ 2 * h.length ≤ rS2) ∧ d + N ≤ dc + N2 ∧ s + 2 * N ≤ ds + 2 * N2) := by
  intro m
  induction m with
  | zero =>
    intro i he T N rS stp pks cns fw dc ds h hi hT hTi hN hrr hrS hrSl hlen hAc hV hHs hF hLf hP hR hSt hPk hCn
    have hso := hway.1
    have hie : i = so := by omega
    subst hie
    refine c_ch0 hP hAc.1 (by omega) ?_
    exact ⟨h, rS, N, dc, ds, fw, stp, rfl, wFr_rf _ _, hP, hR, hSt, hPk, hCn, Or.inr ⟨T, rfl, hT, hTi⟩, hN, Nat.le_refl _, Or.inl rfl, Nat.le_refl _, Nat.le_refl _⟩
  | succ m ih =>
    intro i he T N rS stp pks cns fw dc ds h hi hT hTi hN hrr hrS hrSl hlen hAc hV hHs hF hLf hP hR hSt hPk hCn
    have hso := hway.1
    obtain ⟨w, hw, hw8⟩ := hway.2 i (by omega)
    have hwn : (wy.getD i 0).toNatClampNeg = w := by rw [hw]; exact nI_clamp (by omega)
    obtain ⟨t1, t2, t3, t4⟩ := hto i (by omega)
    rw [hwn] at t1 t2 t4
    have hw9 : w < 8 := by omega
    have hAc0 := hAc
    obtain ⟨hA, hL, hG, hQ, hW, h78⟩ := hAc0
    obtain ⟨b1, b2, b3, b4, b5, b6⟩ := hHs w hw9
    have hE : chG0 sv to li (fun q => (wy.getD q 0).toNatClampNeg) S lf (m + 1) i he T pks cns = (if (pnR0 sv (li w) lf (S i) (to w) he).1 = -1 then (-2, pks, cns) else chG0 sv to li (fun q => (wy.getD q 0).toNatClampNeg) S lf m (i + 1) ((li w).getD (pnR0 sv (li w) lf (S i) (to w) he).1.toNatClampNeg 0) (T + (tkF sv he ((li w).getD (pnR0 sv (li w) lf (S i) (to w) he).1.toNatClampNeg 0) (1000000 : Int32) (6 - 0 + 1) 0 0).toNatClampNeg) (zset 0 pks i (pnR0 sv (li w) lf (S i) (to w) he).1) (zset 0 cns i (nI (T + (tkF sv he ((li w).getD (pnR0 sv (li w) lf (S i) (to w) he).1.toNatClampNeg 0) (1000000 : Int32) (6 - 0 + 1) 0 0).toNatClampNeg)))) := by rw [← hwn]; rfl
    refine c_ch10 hP h78 hA hW hV b1 b3 hF hLf hR hSt hPk hCn ⟨hw, t3⟩ ⟨hw9, by omega, t4, hn9, t2, b6⟩ ⟨by omega, hso⟩ hra ⟨hrl, ch_z b4⟩ hsv ⟨hT, by omega, hN⟩ hrr ⟨hrS w hw9, hrSl⟩ hlen ?_ ?_
    · intro h2 f l e74 err p1
      rw [hE, if_pos p1]
      exact ⟨h2, rS, N, dc, ds, _, stp, rfl, wFr_sub f (by simp), e74, err, wFr_at f (ch_k1 hrr) hSt, wFr_at f (ch_k2 hrr) hPk, wFr_at f (ch_k3 hrr) hCn, Or.inl rfl, hN, Nat.le_refl _, Or.inl rfl, Nat.le_refl _, Nat.le_refl _⟩
    · intro h2 rS2 N2 a2 st2 sb2 d9 s9 f l e74 err eS ePk eCn p1 p2 p3 p4 p5 p6 p7 q1 q2
      rw [hE, if_neg p1, ← p2]
      have hzs := zat_lt hLf
      have hAc2 := wAc_fr hAc f hra (ch_a hrr)
      have hV2 := wFr_at f (ch_c hrr (Or.inl (ch_r hra))) hV
      have hHs2 := wHs_fr hHs f (ch_e hHs hrr hrS)
      have hF2 := wFr_at f (ch_c hrr (Or.inr ⟨Nat.le_refl _, ch_s hrr⟩)) hF
      have hLf2 := wFr_at f (ch_c hrr (Or.inr ⟨ch_t hrl, fun e => hrSl e.symm⟩)) hLf
      refine wq_mono (ih (i + 1) _ (T + a2) N2 rS2 st2 _ _ _ d9 s9 h2 (ch_u hi) p4.1 (ch_v hTi p3) p4.2.1 (ch_h hrr p5 hlen) (fun v hv => ch_n p5 (hrS v hv) (zat_lt (hHs v hv).2.2.1)) (ch_n p5 hrSl hzs) (Nat.le_trans hlen l) hAc2 hV2 hHs2 hF2 hLf2 e74 err eS ePk eCn) ?_
      rintro _ ⟨h3, rS3, N3, d3, s3, fw3, st3, rfl, f3, k1, k2, k3, k4, k5, k6, k7, k8, k9, k10, k11⟩
      exact ⟨h3, rS3, N3, d3, s3, fw3, st3, rfl, wFr_gen f f3 (ch_g p5), k1, k2, k3, k4, k5, k6, k7, Nat.le_trans p4.2.2 k8, ch_w p5 k9 l, ch_x q1 k10, ch_y q2 k11⟩
noncomputable def chG1 (sv : List Int32) (to : Nat → Nat) (li : Nat → List Int64) (wn S : Nat → Nat) (lf : List Int32) : Nat → Nat → Int64 → Nat → List Int32 → List Int32 → Int32 × List Int32 × List Int32
  | 0, _, _, T, pk, cn => (nI T, pk, cn)
  | m + 1, i, he, T, pk, cn => if (pnR1 sv (li (wn i)) lf (S i) (to (wn i)) he).1 = -1 then (-2, pk, cn) else chG1 sv to li wn S lf m (i + 1) ((li (wn i)).getD (pnR1 sv (li (wn i)) lf (S i) (to (wn i)) he).1.toNatClampNeg 0) (T + (tkF sv he ((li (wn i)).getD (pnR1 sv (li (wn i)) lf (S i) (to (wn i)) he).1.toNatClampNeg 0) (1000000 : Int32) (6 - 0 + 1) 0 0).toNatClampNeg) (zset 0 pk i (pnR1 sv (li (wn i)) lf (S i) (to (wn i)) he).1) (zset 0 cn i (nI (T + (tkF sv he ((li (wn i)).getD (pnR1 sv (li (wn i)) lf (S i) (to (wn i)) he).1.toNatClampNeg 0) (1000000 : Int32) (6 - 0 + 1) 0 0).toNatClampNeg)))
set_option maxRecDepth 100000 in
theorem c_rcL1 {ra sp so : Nat} {lk hd ht bl sd : Int32} {rt : Int64} {ll lg wy sv fi : List Int32} {po : List Int64} {rp rs al : Nat} {wg ob pr9 sr9 : Int32} {to rL cap : Nat → Nat} {kn ks fa : Nat → Int32} {hp : Nat → List Int32} {li : Nat → List Int64} {S : Nat → Nat} {rl n9 : Nat} {lf : List Int32} {rr : Nat} {kn9 : Int32} {fr9 : Int64} (hra : ra = 6 ∨ ra = 20) (hsp : sp ≤ 8) (hway : wWay wy sp so) (hsv : wSpd sv) (hto : ∀ q, q < so → to ((wy.getD q 0).toNatClampNeg) ≤ 600 ∧ to ((wy.getD q 0).toNatClampNeg) ≤ cap ((wy.getD q 0).toNatClampNeg) ∧ fi.getD q 0 = nI (S q) ∧ S q + to ((wy.getD q 0).toNatClampNeg) ≤ n9) (hn9 : n9 ≤ 20000) (hrl : rl = 98 ∨ rl = 100 ∨ 234 ≤ rl) : ∀ (m i : Nat) (he : Int64) (T N rS : Nat) (stp : List Int64) (pks cns : List Int32) (fw : Int32) (dc ds : Nat) (h : zH), i + m = so → T < N → T ≤ 300 * i → N ≤ 6002 → ((rr = 80 ∨ rr = 88) ∧ (rS = rr + 6 ∨ 234 ≤ rS)) → (∀ w, w < 8 → rS ≠ rL w) → rS ≠ rl → 117 ≤ h.length → wAc h ra sp so lk hd ht bl sd rt ll lg wy po → zat h (ra + 6) = some (.inl (0, 6, sv)) → wHs h to rL cap kn ks fa hp li → zat h 96 = some (.inl (0, 10, fi)) → zat h rl = some (.inl (0, n9, lf)) → zat h 74 = some (.inr (.inr (.inr (3, [.ref 44, .ref ra, .ref 76, .ref 78, .ref 80, .ref 88, .int wg, .int ob, .ref 96, .int (nI al), .int pr9, .int sr9, .ref rp, .ref rs, .int fw])))) → zat h rr = some (.inr (.inr (.inr (6, [.int kn9, .long fr9, .int (nI T), .ref (rr + 2), .ref (rr + 4), .ref rS])))) → zat h rS = some (.inr (.inl (N, stp))) → zat h (rr + 2) = some (.inl (0, 10, pks)) → zat h (rr + 4) = some (.inl (0, 10, cns)) → wq 29 15 [(0, .ref 74), (1, .ref rr), (2, .int 1), (3, .ref rl), (4, .long he), (6, .int (nI i))] [] h dc ds (fun r => ∃ (h2 : zH) (rS2 N2 d s : Nat) (fw2 : Int32) (st2 : List Int64), r = (none, h2, d, s) ∧ wFr [74, rr, rS, rr + 2, rr + 4] h h2 ∧ zat h2 74 = some (.inr (.inr (.inr (3, [.ref 44, .ref ra, .ref 76, .ref 78, .ref 80, .ref 88, .int wg, .int ob, .ref 96, .int (nI al), .int pr9, .int sr9, .ref rp, .ref rs, .int fw2])))) ∧ zat h2 rr = some (.inr (.inr (.inr (6, [.int kn9, .long fr9, .int (chG1 sv to li (fun q => (wy.getD q 0).toNatClampNeg) S lf m i he T pks cns).1, .ref (rr + 2), .ref (rr + 4), .ref rS2])))) ∧ zat h2 rS2 = some (.inr (.inl (N2, st2))) ∧ zat h2 (rr + 2) = some (.inl (0, 10, (chG1 sv to li (fun q => (wy.getD q 0).toNatClampNeg) S lf m i he T pks cns).2.1)) ∧ zat h2 (rr + 4) = some (.inl (0, 10, (chG1 sv to li (fun q => (wy.getD q 0).toNatClampNeg) S lf m i he T pks cns).2.2)) ∧ (((chG1 sv to li (fun q => (wy.getD q 0).toNatClampNeg) S lf m i he T pks cns).1 = -2) ∨ ∃ T2, (chG1 sv to li (fun q => (wy.getD q 0).toNatClampNeg) S lf m i he T pks cns).1 = nI T2 ∧ T2 < N2 ∧ T2 ≤ 300 * so) ∧ N2 ≤ 6002 ∧ N ≤ N2 ∧ (rS2 = rS ∨ 2 * h.length ≤ rS2) ∧ d + N ≤ dc + N2 ∧ s + 2 * N ≤ ds + 2 * N2) := by
  intro m
  induction m with
  | zero =>
    intro i he T N rS stp pks cns fw dc ds h hi hT hTi hN hrr hrS hrSl hlen hAc hV hHs hF hLf hP hR hSt hPk hCn
    have hso := hway.1
    have hie : i = so := by omega
    subst hie
    refine c_ch0 hP hAc.1 (by omega) ?_
    exact ⟨h, rS, N, dc, ds, fw, stp, rfl, wFr_rf _ _, hP, hR, hSt, hPk, hCn, Or.inr ⟨T, rfl, hT, hTi⟩, hN, Nat.le_refl _, Or.inl rfl, Nat.le_refl _, Nat.le_refl _⟩
  | succ m ih =>
    intro i he T N rS stp pks cns fw dc ds h hi hT hTi hN hrr hrS hrSl hlen hAc hV hHs hF hLf hP hR hSt hPk hCn
    have hso := hway.1
    obtain ⟨w, hw, hw8⟩ := hway.2 i (by omega)
    have hwn : (wy.getD i 0).toNatClampNeg = w := by rw [hw]; exact nI_clamp (by omega)
    obtain ⟨t1, t2, t3, t4⟩ := hto i (by omega)
    rw [hwn] at t1 t2 t4
    have hw9 : w < 8 := by omega
    have hAc0 := hAc
    obtain ⟨hA, hL, hG, hQ, hW, h78⟩ := hAc0
    obtain ⟨b1, b2, b3, b4, b5, b6⟩ := hHs w hw9
    have hE : chG1 sv to li (fun q => (wy.getD q 0).toNatClampNeg) S lf (m + 1) i he T pks cns = (if (pnR1 sv (li w) lf (S i) (to w) he).1 = -1 then (-2, pks, cns) else chG1 sv to li (fun q => (wy.getD q 0).toNatClampNeg) S lf m (i + 1) ((li w).getD (pnR1 sv (li w) lf (S i) (to w) he).1.toNatClampNeg 0) (T + (tkF sv he ((li w).getD (pnR1 sv (li w) lf (S i) (to w) he).1.toNatClampNeg 0) (1000000 : Int32) (6 - 0 + 1) 0 0).toNatClampNeg) (zset 0 pks i (pnR1 sv (li w) lf (S i) (to w) he).1) (zset 0 cns i (nI (T + (tkF sv he ((li w).getD (pnR1 sv (li w) lf (S i) (to w) he).1.toNatClampNeg 0) (1000000 : Int32) (6 - 0 + 1) 0 0).toNatClampNeg)))) := by rw [← hwn]; rfl
    refine c_ch11 hP h78 hA hW hV b1 b3 hF hLf hR hSt hPk hCn ⟨hw, t3⟩ ⟨hw9, by omega, t4, hn9, t2, b6⟩ ⟨by omega, hso⟩ hra ⟨hrl, ch_z b4⟩ hsv ⟨hT, by omega, hN⟩ hrr ⟨hrS w hw9, hrSl⟩ hlen ?_ ?_
    · intro h2 f l e74 err p1
      rw [hE, if_pos p1]
      exact ⟨h2, rS, N, dc, ds, _, stp, rfl, wFr_sub f (by simp), e74, err, wFr_at f (ch_k1 hrr) hSt, wFr_at f (ch_k2 hrr) hPk, wFr_at f (ch_k3 hrr) hCn, Or.inl rfl, hN, Nat.le_refl _, Or.inl rfl, Nat.le_refl _, Nat.le_refl _⟩
    · intro h2 rS2 N2 a2 st2 sb2 d9 s9 f l e74 err eS ePk eCn p1 p2 p3 p4 p5 p6 p7 q1 q2
      rw [hE, if_neg p1, ← p2]
      have hzs := zat_lt hLf
      have hAc2 := wAc_fr hAc f hra (ch_a hrr)
      have hV2 := wFr_at f (ch_c hrr (Or.inl (ch_r hra))) hV
      have hHs2 := wHs_fr hHs f (ch_e hHs hrr hrS)
      have hF2 := wFr_at f (ch_c hrr (Or.inr ⟨Nat.le_refl _, ch_s hrr⟩)) hF
      have hLf2 := wFr_at f (ch_c hrr (Or.inr ⟨ch_t hrl, fun e => hrSl e.symm⟩)) hLf
      refine wq_mono (ih (i + 1) _ (T + a2) N2 rS2 st2 _ _ _ d9 s9 h2 (ch_u hi) p4.1 (ch_v hTi p3) p4.2.1 (ch_h hrr p5 hlen) (fun v hv => ch_n p5 (hrS v hv) (zat_lt (hHs v hv).2.2.1)) (ch_n p5 hrSl hzs) (Nat.le_trans hlen l) hAc2 hV2 hHs2 hF2 hLf2 e74 err eS ePk eCn) ?_
      rintro _ ⟨h3, rS3, N3, d3, s3, fw3, st3, rfl, f3, k1, k2, k3, k4, k5, k6, k7, k8, k9, k10, k11⟩
      exact ⟨h3, rS3, N3, d3, s3, fw3, st3, rfl, wFr_gen f f3 (ch_g p5), k1, k2, k3, k4, k5, k6, k7, Nat.le_trans p4.2.2 k8, ch_w p5 k9 l, ch_x q1 k10, ch_y q2 k11⟩
