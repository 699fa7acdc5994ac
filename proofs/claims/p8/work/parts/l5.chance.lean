/-! The class: chance at every state. -/
set_option maxHeartbeats 4000000 in
theorem cha_e0 {h : zH} {rw cp : Nat → Nat} {t rd : Nat} {ps ip : Int64} {im : Int32} {ra sp so : Nat} {lk hd ht bl sd : Int32} {rt : Int64} {ll lg sv nm wy : List Int32} {po : List Int64} {wg ka kb : Int32} {tb : List Int32} {wr9 wa9 : Int32} {pl ia ua : List Int32} {pp : List Int64} {us un : Nat} (kx : CIx h rw cp t rd ps ip im ra sp so lk hd ht bl sd rt ll lg sv nm wy po wg ka kb tb wr9 wa9 pl ia ua pp us un) {N n : Nat} {se : Int32} (hN : N ≤ 20) (hn : n < 2147483648) : wq 138 53 [(0, .ref 0), (1, .int se), (2, .int (nI N)), (3, .int 0), (4, .long (lN n)), (6, .int 0), (7, .int 0)] [] h 0 0 (cOk h (kD cp) (kS cp) ((t, tb, wr9, wa9, im, sp, so, lk, hd, ht, bl, sd, rt, ll, lg, sv, nm, wy, po), (ps, ip, us, un, pl, ia, pp, ua))) := by
  have kx0 := kx
  obtain ⟨hX, ⟨htt, hrd, hrae⟩, kT, kA, kDr, kU, kZ, k6, kW, kRn, kSn, hRw, hlen⟩ := kx0
  obtain ⟨hA, hL, hG, hV, hNm, hQ, hW, hsc, hlm, hsv, hsp, hway, hra⟩ := kA
  obtain ⟨h78, hSol, hPl, hRa, hRb⟩ := kZ
  obtain ⟨v0, v1, nf, tg, sh, el, wr, ou, bh, so1, c44, c46, c48, c50, c52, c54, c56, cO, hsr, hs6⟩ := hSol
  obtain ⟨kn, to, ks, fa, hp, dp, li, c66, c70, cL, c72, b16, b600⟩ := kW
  have r10 : rw 10 = 68 ∨ 234 ≤ rw 10 := row_h hRw (by decide)
  have hCS : wCS h (rw 10) (cp 10) (rw 0) (cp 0) := ⟨v0, v1, nf, kn, to, ks, fa, tg, hp, sh, el, wr, ou, bh, dp, li, so1, c44, c46, c48, c50, c52, c54, c56, cO, c66, c70, cL, c72, r10, hsr, hRw.2 0 10 (by decide) (by decide) (by decide), b16, b600, hs6, hlen⟩
  have hsc9 := hsc
  unfold wScl at hsc9
  have l0 := hlm 0 (by decide)
  have z0 : (zLow.getD 0 0).toInt = 0 := rfl
  have y0 : (zHigh.getD 0 0).toInt = 99 := rfl
  refine wq_mono (c_chL0 hN hlm ⟨hsc9.1, hsc9.2.1⟩ ⟨hsc9.2.2.1, hsc9.2.2.2.1⟩ ⟨by omega, by omega⟩ (by omega) N 0 n 0 h (rw 10) (cp 10) (rw 0) (cp 0) 0 0 (Nat.zero_add N) hn hX hA hL hG hCS) ?_
  rintro _ ⟨h2, rL2, cap2, rs2, sc2, d, s, rfl, f, hCS2, q1, q2, a1, a2⟩
  obtain ⟨v0', v1', nf', kn', to', ks', fa', tg', hp', sh', el', wr', ou', bh', dp', li', so1', e44, e46, e48, e50, e52, e54, e56, eO, e66, e70, eL, e72, r10', hsr', hne', b16', b600', hs6'⟩ := hCS2
  obtain ⟨rw2, cp2, er, ec, kx2, fx⟩ := CIx_d kx ⟨v0', v1', nf', tg', sh', el', wr', ou', bh', so1', e44, e46, e48, e50, e52, e54, e56, eO, hsr', hs6'.1⟩ ⟨kn', to', ks', fa', hp', dp', li', e66, e70, eL, e72, b16', b600'⟩ f q1 (zat_lt eL) q2 (zat_lt eO) hne'
  have e1 := kD_up (cp := cp) 10 cap2 (by decide)
  have e2 := kD_0 (fup cp 10 cap2) sc2
  have e3 := kS_9 cp 10 cap2 (Or.inr rfl)
  have e4 := kS_0 (fup cp 10 cap2) sc2
  rw [fup_n cp cap2 (show 0 ≠ 10 by decide), ← ec] at e2 e4
  exact ⟨_, h2, 0 + d, 0 + s, _, _, rfl, ⟨rw2, cp2, _, rd, ps, ip, im, ra, sp, so, lk, hd, ht, bl, sd, rt, ll, lg, sv, nm, wy, po, wg, ka, kb, _, _, _, _, _, _, _, _, _, kx2, rfl, rfl, rfl⟩, fx, by clear q1 q2 r10 hsr r10' hsr' kx kx2 fx hra hrd; omega, by clear q1 q2 r10 hsr r10' hsr' kx kx2 fx hra hrd; omega⟩
set_option maxHeartbeats 4000000 in
theorem cha_e1 {h : zH} {rw cp : Nat → Nat} {t rd : Nat} {ps ip : Int64} {im : Int32} {ra sp so : Nat} {lk hd ht bl sd : Int32} {rt : Int64} {ll lg sv nm wy : List Int32} {po : List Int64} {wg ka kb : Int32} {tb : List Int32} {wr9 wa9 : Int32} {pl ia ua : List Int32} {pp : List Int64} {us un : Nat} (kx : CIx h rw cp t rd ps ip im ra sp so lk hd ht bl sd rt ll lg sv nm wy po wg ka kb tb wr9 wa9 pl ia ua pp us un) {N n : Nat} {se : Int32} (hN : N ≤ 20) (hn : n < 2147483648) : wq 138 53 [(0, .ref 0), (1, .int se), (2, .int (nI N)), (3, .int 1), (4, .long (lN n)), (6, .int 0), (7, .int 0)] [] h 0 0 (cOk h (kD cp) (kS cp) ((t, tb, wr9, wa9, im, sp, so, lk, hd, ht, bl, sd, rt, ll, lg, sv, nm, wy, po), (ps, ip, us, un, pl, ia, pp, ua))) := by
  have kx0 := kx
  obtain ⟨hX, ⟨htt, hrd, hrae⟩, kT, kA, kDr, kU, kZ, k6, kW, kRn, kSn, hRw, hlen⟩ := kx0
  obtain ⟨hA, hL, hG, hV, hNm, hQ, hW, hsc, hlm, hsv, hsp, hway, hra⟩ := kA
  obtain ⟨h78, hSol, hPl, hRa, hRb⟩ := kZ
  obtain ⟨v0, v1, nf, tg, sh, el, wr, ou, bh, so1, c44, c46, c48, c50, c52, c54, c56, cO, hsr, hs6⟩ := hSol
  obtain ⟨kn, to, ks, fa, hp, dp, li, c66, c70, cL, c72, b16, b600⟩ := kW
  have r10 : rw 10 = 68 ∨ 234 ≤ rw 10 := row_h hRw (by decide)
  have hCS : wCS h (rw 10) (cp 10) (rw 0) (cp 0) := ⟨v0, v1, nf, kn, to, ks, fa, tg, hp, sh, el, wr, ou, bh, dp, li, so1, c44, c46, c48, c50, c52, c54, c56, cO, c66, c70, cL, c72, r10, hsr, hRw.2 0 10 (by decide) (by decide) (by decide), b16, b600, hs6, hlen⟩
  have hsc9 := hsc
  unfold wScl at hsc9
  have l0 := hlm 0 (by decide)
  have z0 : (zLow.getD 0 0).toInt = 0 := rfl
  have y0 : (zHigh.getD 0 0).toInt = 99 := rfl
  refine wq_mono (c_chL1 hN hlm ⟨hsc9.1, hsc9.2.1⟩ ⟨hsc9.2.2.1, hsc9.2.2.2.1⟩ ⟨by omega, by omega⟩ (by omega) N 0 n 0 h (rw 10) (cp 10) (rw 0) (cp 0) 0 0 (Nat.zero_add N) hn hX hA hL hG hCS) ?_
  rintro _ ⟨h2, rL2, cap2, rs2, sc2, d, s, rfl, f, hCS2, q1, q2, a1, a2⟩
  obtain ⟨v0', v1', nf', kn', to', ks', fa', tg', hp', sh', el', wr', ou', bh', dp', li', so1', e44, e46, e48, e50, e52, e54, e56, eO, e66, e70, eL, e72, r10', hsr', hne', b16', b600', hs6'⟩ := hCS2
  obtain ⟨rw2, cp2, er, ec, kx2, fx⟩ := CIx_d kx ⟨v0', v1', nf', tg', sh', el', wr', ou', bh', so1', e44, e46, e48, e50, e52, e54, e56, eO, hsr', hs6'.1⟩ ⟨kn', to', ks', fa', hp', dp', li', e66, e70, eL, e72, b16', b600'⟩ f q1 (zat_lt eL) q2 (zat_lt eO) hne'
  have e1 := kD_up (cp := cp) 10 cap2 (by decide)
  have e2 := kD_0 (fup cp 10 cap2) sc2
  have e3 := kS_9 cp 10 cap2 (Or.inr rfl)
  have e4 := kS_0 (fup cp 10 cap2) sc2
  rw [fup_n cp cap2 (show 0 ≠ 10 by decide), ← ec] at e2 e4
  exact ⟨_, h2, 0 + d, 0 + s, _, _, rfl, ⟨rw2, cp2, _, rd, ps, ip, im, ra, sp, so, lk, hd, ht, bl, sd, rt, ll, lg, sv, nm, wy, po, wg, ka, kb, _, _, _, _, _, _, _, _, _, kx2, rfl, rfl, rfl⟩, fx, by clear q1 q2 r10 hsr r10' hsr' kx kx2 fx hra hrd; omega, by clear q1 q2 r10 hsr r10' hsr' kx kx2 fx hra hrd; omega⟩
set_option maxHeartbeats 4000000 in
theorem cha_e2 {h : zH} {rw cp : Nat → Nat} {t rd : Nat} {ps ip : Int64} {im : Int32} {ra sp so : Nat} {lk hd ht bl sd : Int32} {rt : Int64} {ll lg sv nm wy : List Int32} {po : List Int64} {wg ka kb : Int32} {tb : List Int32} {wr9 wa9 : Int32} {pl ia ua : List Int32} {pp : List Int64} {us un : Nat} (kx : CIx h rw cp t rd ps ip im ra sp so lk hd ht bl sd rt ll lg sv nm wy po wg ka kb tb wr9 wa9 pl ia ua pp us un) {N n : Nat} {se : Int32} (hN : N ≤ 20) (hn : n < 2147483648) : wq 138 53 [(0, .ref 0), (1, .int se), (2, .int (nI N)), (3, .int 2), (4, .long (lN n)), (6, .int 0), (7, .int 0)] [] h 0 0 (cOk h (kD cp) (kS cp) ((t, tb, wr9, wa9, im, sp, so, lk, hd, ht, bl, sd, rt, ll, lg, sv, nm, wy, po), (ps, ip, us, un, pl, ia, pp, ua))) := by
  have kx0 := kx
  obtain ⟨hX, ⟨htt, hrd, hrae⟩, kT, kA, kDr, kU, kZ, k6, kW, kRn, kSn, hRw, hlen⟩ := kx0
  obtain ⟨hA, hL, hG, hV, hNm, hQ, hW, hsc, hlm, hsv, hsp, hway, hra⟩ := kA
  obtain ⟨h78, hSol, hPl, hRa, hRb⟩ := kZ
  obtain ⟨v0, v1, nf, tg, sh, el, wr, ou, bh, so1, c44, c46, c48, c50, c52, c54, c56, cO, hsr, hs6⟩ := hSol
  obtain ⟨kn, to, ks, fa, hp, dp, li, c66, c70, cL, c72, b16, b600⟩ := kW
  have r10 : rw 10 = 68 ∨ 234 ≤ rw 10 := row_h hRw (by decide)
  have hCS : wCS h (rw 10) (cp 10) (rw 0) (cp 0) := ⟨v0, v1, nf, kn, to, ks, fa, tg, hp, sh, el, wr, ou, bh, dp, li, so1, c44, c46, c48, c50, c52, c54, c56, cO, c66, c70, cL, c72, r10, hsr, hRw.2 0 10 (by decide) (by decide) (by decide), b16, b600, hs6, hlen⟩
  have hsc9 := hsc
  unfold wScl at hsc9
  have l0 := hlm 0 (by decide)
  have z0 : (zLow.getD 0 0).toInt = 0 := rfl
  have y0 : (zHigh.getD 0 0).toInt = 99 := rfl
  refine wq_mono (c_chL2 hN hlm ⟨hsc9.1, hsc9.2.1⟩ ⟨hsc9.2.2.1, hsc9.2.2.2.1⟩ ⟨by omega, by omega⟩ (by omega) N 0 n 0 h (rw 10) (cp 10) (rw 0) (cp 0) 0 0 (Nat.zero_add N) hn hX hA hL hG hCS) ?_
  rintro _ ⟨h2, rL2, cap2, rs2, sc2, d, s, rfl, f, hCS2, q1, q2, a1, a2⟩
  obtain ⟨v0', v1', nf', kn', to', ks', fa', tg', hp', sh', el', wr', ou', bh', dp', li', so1', e44, e46, e48, e50, e52, e54, e56, eO, e66, e70, eL, e72, r10', hsr', hne', b16', b600', hs6'⟩ := hCS2
  obtain ⟨rw2, cp2, er, ec, kx2, fx⟩ := CIx_d kx ⟨v0', v1', nf', tg', sh', el', wr', ou', bh', so1', e44, e46, e48, e50, e52, e54, e56, eO, hsr', hs6'.1⟩ ⟨kn', to', ks', fa', hp', dp', li', e66, e70, eL, e72, b16', b600'⟩ f q1 (zat_lt eL) q2 (zat_lt eO) hne'
  have e1 := kD_up (cp := cp) 10 cap2 (by decide)
  have e2 := kD_0 (fup cp 10 cap2) sc2
  have e3 := kS_9 cp 10 cap2 (Or.inr rfl)
  have e4 := kS_0 (fup cp 10 cap2) sc2
  rw [fup_n cp cap2 (show 0 ≠ 10 by decide), ← ec] at e2 e4
  exact ⟨_, h2, 0 + d, 0 + s, _, _, rfl, ⟨rw2, cp2, _, rd, ps, ip, im, ra, sp, so, lk, hd, ht, bl, sd, rt, ll, lg, sv, nm, wy, po, wg, ka, kb, _, _, _, _, _, _, _, _, _, kx2, rfl, rfl, rfl⟩, fx, by clear q1 q2 r10 hsr r10' hsr' kx kx2 fx hra hrd; omega, by clear q1 q2 r10 hsr r10' hsr' kx kx2 fx hra hrd; omega⟩
set_option maxHeartbeats 4000000 in
theorem cha_e3 {h : zH} {rw cp : Nat → Nat} {t rd : Nat} {ps ip : Int64} {im : Int32} {ra sp so : Nat} {lk hd ht bl sd : Int32} {rt : Int64} {ll lg sv nm wy : List Int32} {po : List Int64} {wg ka kb : Int32} {tb : List Int32} {wr9 wa9 : Int32} {pl ia ua : List Int32} {pp : List Int64} {us un : Nat} (kx : CIx h rw cp t rd ps ip im ra sp so lk hd ht bl sd rt ll lg sv nm wy po wg ka kb tb wr9 wa9 pl ia ua pp us un) {N n : Nat} {se : Int32} (hN : N ≤ 20) (hn : n < 2147483648) : wq 138 53 [(0, .ref 0), (1, .int se), (2, .int (nI N)), (3, .int 3), (4, .long (lN n)), (6, .int 0), (7, .int 0)] [] h 0 0 (cOk h (kD cp) (kS cp) ((t, tb, wr9, wa9, im, sp, so, lk, hd, ht, bl, sd, rt, ll, lg, sv, nm, wy, po), (ps, ip, us, un, pl, ia, pp, ua))) := by
  have kx0 := kx
  obtain ⟨hX, ⟨htt, hrd, hrae⟩, kT, kA, kDr, kU, kZ, k6, kW, kRn, kSn, hRw, hlen⟩ := kx0
  obtain ⟨hA, hL, hG, hV, hNm, hQ, hW, hsc, hlm, hsv, hsp, hway, hra⟩ := kA
  obtain ⟨h78, hSol, hPl, hRa, hRb⟩ := kZ
  obtain ⟨v0, v1, nf, tg, sh, el, wr, ou, bh, so1, c44, c46, c48, c50, c52, c54, c56, cO, hsr, hs6⟩ := hSol
  obtain ⟨kn, to, ks, fa, hp, dp, li, c66, c70, cL, c72, b16, b600⟩ := kW
  have r10 : rw 10 = 68 ∨ 234 ≤ rw 10 := row_h hRw (by decide)
  have hCS : wCS h (rw 10) (cp 10) (rw 0) (cp 0) := ⟨v0, v1, nf, kn, to, ks, fa, tg, hp, sh, el, wr, ou, bh, dp, li, so1, c44, c46, c48, c50, c52, c54, c56, cO, c66, c70, cL, c72, r10, hsr, hRw.2 0 10 (by decide) (by decide) (by decide), b16, b600, hs6, hlen⟩
  have hsc9 := hsc
  unfold wScl at hsc9
  have l0 := hlm 0 (by decide)
  have z0 : (zLow.getD 0 0).toInt = 0 := rfl
  have y0 : (zHigh.getD 0 0).toInt = 99 := rfl
  refine wq_mono (c_chL3 hN hlm ⟨hsc9.1, hsc9.2.1⟩ ⟨hsc9.2.2.1, hsc9.2.2.2.1⟩ ⟨by omega, by omega⟩ (by omega) N 0 n 0 h (rw 10) (cp 10) (rw 0) (cp 0) 0 0 (Nat.zero_add N) hn hX hA hL hG hCS) ?_
  rintro _ ⟨h2, rL2, cap2, rs2, sc2, d, s, rfl, f, hCS2, q1, q2, a1, a2⟩
  obtain ⟨v0', v1', nf', kn', to', ks', fa', tg', hp', sh', el', wr', ou', bh', dp', li', so1', e44, e46, e48, e50, e52, e54, e56, eO, e66, e70, eL, e72, r10', hsr', hne', b16', b600', hs6'⟩ := hCS2
  obtain ⟨rw2, cp2, er, ec, kx2, fx⟩ := CIx_d kx ⟨v0', v1', nf', tg', sh', el', wr', ou', bh', so1', e44, e46, e48, e50, e52, e54, e56, eO, hsr', hs6'.1⟩ ⟨kn', to', ks', fa', hp', dp', li', e66, e70, eL, e72, b16', b600'⟩ f q1 (zat_lt eL) q2 (zat_lt eO) hne'
  have e1 := kD_up (cp := cp) 10 cap2 (by decide)
  have e2 := kD_0 (fup cp 10 cap2) sc2
  have e3 := kS_9 cp 10 cap2 (Or.inr rfl)
  have e4 := kS_0 (fup cp 10 cap2) sc2
  rw [fup_n cp cap2 (show 0 ≠ 10 by decide), ← ec] at e2 e4
  exact ⟨_, h2, 0 + d, 0 + s, _, _, rfl, ⟨rw2, cp2, _, rd, ps, ip, im, ra, sp, so, lk, hd, ht, bl, sd, rt, ll, lg, sv, nm, wy, po, wg, ka, kb, _, _, _, _, _, _, _, _, _, kx2, rfl, rfl, rfl⟩, fx, by clear q1 q2 r10 hsr r10' hsr' kx kx2 fx hra hrd; omega, by clear q1 q2 r10 hsr r10' hsr' kx kx2 fx hra hrd; omega⟩
theorem cha_w {w : Int32} (h1 : 0 ≤ w.toInt) (h2 : w.toInt ≤ 3) : w = 0 ∨ w = 1 ∨ w = 2 ∨ w = 3 := by
  have e : w.toInt = 0 ∨ w.toInt = 1 ∨ w.toInt = 2 ∨ w.toInt = 3 := by omega
  rcases e with e | e | e | e
  · exact Or.inl (Int32.toInt_inj.mp e)
  · exact Or.inr (Or.inl (Int32.toInt_inj.mp e))
  · exact Or.inr (Or.inr (Or.inl (Int32.toInt_inj.mp e)))
  · exact Or.inr (Or.inr (Or.inr (Int32.toInt_inj.mp e)))
theorem cha_s {x : Int32} (h : 0 ≤ x.toInt) : ∃ k : Nat, k < 2147483648 ∧ x.toInt64 = lN k := by
  have b := Int32.toInt_lt x
  have hk : x.toNatClampNeg < 2147483648 := by show x.toInt.toNat < 2147483648; omega
  exact ⟨x.toNatClampNeg, hk, by rw [nI_cl h, nI_l (by omega), nI_clamp (by omega)]⟩
set_option maxRecDepth 100000 in
set_option maxHeartbeats 4000000 in
theorem cCall_37 {h : zH} {D S : Nat} {V : cV} {se n w : Int32} (k : CI h D S V)  : wq 138 0 [(0, .ref 0), (1, .int se), (2, .int n), (3, .int w)] [] h 0 0 (cOk h D S V) := by
  obtain ⟨rw, cp, t, rd, ps, ip, im, ra, sp, so, lk, hd, ht, bl, sd, rt, ll, lg, sv, nm, wy, po, wg, ka, kb, tb, wr9, wa9, pl, ia, ua, pp, us, un, kx, rfl, rfl, rfl⟩ := k
  have kx0 := kx
  obtain ⟨hX, ⟨htt, hrd, hrae⟩, kT, kA, kDr, kU, kZ, k6, kW, kRn, kSn, hRw, hlen⟩ := kx0
  have kA0 := kA
  obtain ⟨hA, hL, hG, hV, hN, hQ, hW, hsc, hlm, hsv, hsp, hway, hra⟩ := kA0
  have kT0 := kT
  obtain ⟨ln9, nx9, kd9, sta9, va9, tld9, b9, a9, hT, hR4⟩ := kT0
  have kU0 := kU
  obtain ⟨hAi, hIa, hP, hP8, hP0, hu1, hu2⟩ := kU0
  have kSn0 := kSn
  obtain ⟨tl, c158, c160, hcz⟩ := kSn0
  have r16 : rw 16 = 160 ∨ 234 ≤ rw 16 := row_h hRw (by decide)
  have zm1 : (-1 : Int32).toInt = -1 := rfl
  have z1 : (1 : Int32).toInt = 1 := rfl
  have z20 : (20 : Int32).toInt = 20 := rfl
  have z3 : (3 : Int32).toInt = 3 := rfl
  have hsd9 := hsc
  unfold wScl at hsd9
  refine wq_gos (f := 1) (pc2 := 2) (ls2 := [(0, .ref 0), (1, .int se), (2, .int n), (3, .int w)]) (st2 := [.int (-1), .int se]) (h2 := h) (dc2 := 0) (ds2 := 0) 2 rfl ?_
  have q1x : (-1 : Int32).toInt = -1 := rfl
  refine wq_lt2 rfl rfl (fun b2x => ?_) (fun b2x => ?_)
  · refine wq_gos (f := 1) (pc2 := 26) (ls2 := [(0, .ref 0), (1, .int se), (2, .int n), (3, .int w)]) (st2 := [.int (-1)]) (h2 := h) (dc2 := 0) (ds2 := 0) 1 rfl ?_
    exact wq_ret rfl rfl (cOk_i kx _)
  · refine wq_gos (f := 1) (pc2 := 7) (ls2 := [(0, .ref 0), (1, .int se), (2, .int n), (3, .int w)]) (st2 := [.int 1, .int n]) (h2 := h) (dc2 := 0) (ds2 := 0) 2 rfl ?_
    have q3x : (1 : Int32).toInt = 1 := rfl
    refine wq_lt2 rfl rfl (fun b4x => ?_) (fun b4x => ?_)
    · refine wq_gos (f := 1) (pc2 := 26) (ls2 := [(0, .ref 0), (1, .int se), (2, .int n), (3, .int w)]) (st2 := [.int (-1)]) (h2 := h) (dc2 := 0) (ds2 := 0) 1 rfl ?_
      exact wq_ret rfl rfl (cOk_i kx _)
    · refine wq_gos (f := 1) (pc2 := 13) (ls2 := [(0, .ref 0), (1, .int se), (2, .int n), (3, .int w)]) (st2 := [.int 20, .int n]) (h2 := h) (dc2 := 0) (ds2 := 0) 2 rfl ?_
      have q5x : (20 : Int32).toInt = 20 := rfl
      refine wq_gt2 rfl rfl (fun b6x => ?_) (fun b6x => ?_)
      · refine wq_gos (f := 1) (pc2 := 26) (ls2 := [(0, .ref 0), (1, .int se), (2, .int n), (3, .int w)]) (st2 := [.int (-1)]) (h2 := h) (dc2 := 0) (ds2 := 0) 1 rfl ?_
        exact wq_ret rfl rfl (cOk_i kx _)
      · refine wq_gos (f := 1) (pc2 := 17) (ls2 := [(0, .ref 0), (1, .int se), (2, .int n), (3, .int w)]) (st2 := [.int w]) (h2 := h) (dc2 := 0) (ds2 := 0) 1 rfl ?_
        refine wq_lt0 rfl rfl (fun b7x => ?_) (fun b7x => ?_)
        · refine wq_gos (f := 1) (pc2 := 26) (ls2 := [(0, .ref 0), (1, .int se), (2, .int n), (3, .int w)]) (st2 := [.int (-1)]) (h2 := h) (dc2 := 0) (ds2 := 0) 1 rfl ?_
          exact wq_ret rfl rfl (cOk_i kx _)
        · refine wq_gos (f := 1) (pc2 := 22) (ls2 := [(0, .ref 0), (1, .int se), (2, .int n), (3, .int w)]) (st2 := [.int 3, .int w]) (h2 := h) (dc2 := 0) (ds2 := 0) 2 rfl ?_
          have q8x : (3 : Int32).toInt = 3 := rfl
          refine wq_le2 rfl rfl (fun b9x => ?_) (fun b9x => ?_)
          · refine wq_gos (f := 1) (pc2 := 29) (ls2 := [(0, .ref 0), (1, .int se), (2, .int n), (3, .int w)]) (st2 := [.int (-1), .int se]) (h2 := h) (dc2 := 0) (ds2 := 0) 2 rfl ?_
            refine wq_ne2 rfl rfl (fun b10x => ?_) (fun b10x => ?_)
            · have q11x : se.toInt ≠ -1 := fun q => b10x (Int32.toInt_inj.mp q)
              refine wq_gos (f := 1) (pc2 := 53) (ls2 := [(7, .int 0), (6, .int 0), (4, .long (se).toInt64), (0, .ref 0), (1, .int se), (2, .int n), (3, .int w)]) (st2 := []) (h2 := h) (dc2 := 0) (ds2 := 0) 7 rfl ?_
              have hw4 := cha_w (w := w) (by omega) (by omega)
              have hn9 : n = nI n.toNatClampNeg := nI_cl (by omega)
              have hn20 : n.toNatClampNeg ≤ 20 := by show n.toInt.toNat ≤ 20; omega
              obtain ⟨k9, hk9, hs9⟩ := cha_s (x := se) (by omega)
              refine wq_ls [(0, .ref 0), (1, .int se), (2, .int (nI n.toNatClampNeg)), (3, .int w), (4, .long (lN k9)), (6, .int 0), (7, .int 0)] (show ([0, 1, 2, 3, 4, 6, 7] : List Nat).Nodup by decide) ⟨rfl, rfl, congrArg (fun z => some (Value.int z)) hn9, rfl, congrArg (fun z => some (Value.long z)) hs9, rfl, rfl, trivial⟩ ?_
              generalize n.toNatClampNeg = N9 at hn20
              clear hn9
              rcases hw4 with e | e | e | e
              · subst e; exact cha_e0 kx hn20 hk9
              · subst e; exact cha_e1 kx hn20 hk9
              · subst e; exact cha_e2 kx hn20 hk9
              · subst e; exact cha_e3 kx hn20 hk9
            · have q12x : se.toInt = -1 := congrArg Int32.toInt b10x
              refine wq_gos (f := 1) (pc2 := 33) (ls2 := [(0, .ref 0), (1, .int se), (2, .int n), (3, .int w)]) (st2 := [.ref 0]) (h2 := h) (dc2 := 0) (ds2 := 0) 1 rfl ?_
              refine wq_getf rfl hX rfl rfl ?_
              refine wq_getf rfl hA rfl rfl ?_
              refine wq_gos (f := 1) (pc2 := 53) (ls2 := [(7, .int 0), (6, .int 0), (4, .long (sd).toInt64), (0, .ref 0), (1, .int se), (2, .int n), (3, .int w)]) (st2 := []) (h2 := h) (dc2 := 0) (ds2 := 0) 7 rfl ?_
              have hw4 := cha_w (w := w) (by omega) (by omega)
              have hn9 : n = nI n.toNatClampNeg := nI_cl (by omega)
              have hn20 : n.toNatClampNeg ≤ 20 := by show n.toInt.toNat ≤ 20; omega
              obtain ⟨k9, hk9, hs9⟩ := cha_s (x := sd) (by omega)
              refine wq_ls [(0, .ref 0), (1, .int se), (2, .int (nI n.toNatClampNeg)), (3, .int w), (4, .long (lN k9)), (6, .int 0), (7, .int 0)] (show ([0, 1, 2, 3, 4, 6, 7] : List Nat).Nodup by decide) ⟨rfl, rfl, congrArg (fun z => some (Value.int z)) hn9, rfl, congrArg (fun z => some (Value.long z)) hs9, rfl, rfl, trivial⟩ ?_
              generalize n.toNatClampNeg = N9 at hn20
              clear hn9
              rcases hw4 with e | e | e | e
              · subst e; exact cha_e0 kx hn20 hk9
              · subst e; exact cha_e1 kx hn20 hk9
              · subst e; exact cha_e2 kx hn20 hk9
              · subst e; exact cha_e3 kx hn20 hk9
          · refine wq_gos (f := 1) (pc2 := 26) (ls2 := [(0, .ref 0), (1, .int se), (2, .int n), (3, .int w)]) (st2 := [.int (-1)]) (h2 := h) (dc2 := 0) (ds2 := 0) 1 rfl ?_
            exact wq_ret rfl rfl (cOk_i kx _)
