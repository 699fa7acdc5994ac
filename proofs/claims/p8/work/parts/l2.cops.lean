/-! The class: each call at every state. -/
set_option maxHeartbeats 4000000 in
theorem cCall_2 {h : zH} {D S : Nat} {V : cV} {w : Int32} (k : CI h D S V) : wq 103 0 [(0, .ref 0), (1, .int w)] [] h 0 0 (cOk h D S V) := by
  obtain ⟨rw, cp, t, rd, ps, ip, im, ra, sp, so, lk, hd, ht, bl, sd, rt, ll, lg, sv, nm, wy, po, wg, ka, kb, tb, wr9, wa9, pl, ia, ua, pp, us, un, kx, rfl, rfl, rfl⟩ := k
  have kx0 := kx
  obtain ⟨hX, ⟨htt, hrd, hrae⟩, kT, kA, kDr, kU, kZ, k6, kW, kRn, kSn, hRw, hlen⟩ := kx0
  have kA0 := kA
  obtain ⟨hA, hL, hG, hV, hN, hQ, hW, hsc, hlm, hsv, hsp, hway, hra⟩ := kA0
  have kT0 := kT
  obtain ⟨ln9, nx9, kd9, sta9, va9, tld9, b9, a9, hT, hR4⟩ := kT0
  have kU0 := kU
  obtain ⟨hAi, hIa, hP, hP8, hP0, hu1, hu2⟩ := kU0
  refine wq_mono (c_fault hX hR4) ?_
  rintro _ rfl
  exact cOk_i kx _
set_option maxHeartbeats 4000000 in
theorem cCall_3 {h : zH} {D S : Nat} {V : cV} {x : Int32} (k : CI h D S V) : wq 104 0 [(0, .ref 0), (1, .int x)] [] h 0 0 (cOk h D S V) := by
  obtain ⟨rw, cp, t, rd, ps, ip, im, ra, sp, so, lk, hd, ht, bl, sd, rt, ll, lg, sv, nm, wy, po, wg, ka, kb, tb, wr9, wa9, pl, ia, ua, pp, us, un, kx, rfl, rfl, rfl⟩ := k
  have kx0 := kx
  obtain ⟨hX, ⟨htt, hrd, hrae⟩, kT, kA, kDr, kU, kZ, k6, kW, kRn, kSn, hRw, hlen⟩ := kx0
  have kA0 := kA
  obtain ⟨hA, hL, hG, hV, hN, hQ, hW, hsc, hlm, hsv, hsp, hway, hra⟩ := kA0
  have kT0 := kT
  obtain ⟨ln9, nx9, kd9, sta9, va9, tld9, b9, a9, hT, hR4⟩ := kT0
  have kU0 := kU
  obtain ⟨hAi, hIa, hP, hP8, hP0, hu1, hu2⟩ := kU0
  refine wq_mono (c_named hX hA hN hsp) ?_
  rintro _ rfl
  exact cOk_i kx _
set_option maxHeartbeats 4000000 in
theorem cCall_5 {h : zH} {D S : Nat} {V : cV} {s j : Int32} (k : CI h D S V) : wq 106 0 [(0, .ref 0), (1, .int s), (2, .int j)] [] h 0 0 (cOk h D S V) := by
  obtain ⟨rw, cp, t, rd, ps, ip, im, ra, sp, so, lk, hd, ht, bl, sd, rt, ll, lg, sv, nm, wy, po, wg, ka, kb, tb, wr9, wa9, pl, ia, ua, pp, us, un, kx, rfl, rfl, rfl⟩ := k
  have kx0 := kx
  obtain ⟨hX, ⟨htt, hrd, hrae⟩, kT, kA, kDr, kU, kZ, k6, kW, kRn, kSn, hRw, hlen⟩ := kx0
  have kA0 := kA
  obtain ⟨hA, hL, hG, hV, hN, hQ, hW, hsc, hlm, hsv, hsp, hway, hra⟩ := kA0
  have kT0 := kT
  obtain ⟨ln9, nx9, kd9, sta9, va9, tld9, b9, a9, hT, hR4⟩ := kT0
  have kU0 := kU
  obtain ⟨hAi, hIa, hP, hP8, hP0, hu1, hu2⟩ := kU0
  refine wq_mono (c_spot hX hA hQ hra hsp) ?_
  rintro _ rfl
  exact cOk_i kx _
set_option maxHeartbeats 4000000 in
theorem cCall_7 {h : zH} {D S : Nat} {V : cV} {w : Int32} (k : CI h D S V) : wq 108 0 [(0, .ref 0), (1, .int w)] [] h 0 0 (cOkL h D S V) := by
  obtain ⟨rw, cp, t, rd, ps, ip, im, ra, sp, so, lk, hd, ht, bl, sd, rt, ll, lg, sv, nm, wy, po, wg, ka, kb, tb, wr9, wa9, pl, ia, ua, pp, us, un, kx, rfl, rfl, rfl⟩ := k
  have kx0 := kx
  obtain ⟨hX, ⟨htt, hrd, hrae⟩, kT, kA, kDr, kU, kZ, k6, kW, kRn, kSn, hRw, hlen⟩ := kx0
  have kA0 := kA
  obtain ⟨hA, hL, hG, hV, hN, hQ, hW, hsc, hlm, hsv, hsp, hway, hra⟩ := kA0
  have kT0 := kT
  obtain ⟨ln9, nx9, kd9, sta9, va9, tld9, b9, a9, hT, hR4⟩ := kT0
  have kU0 := kU
  obtain ⟨hAi, hIa, hP, hP8, hP0, hu1, hu2⟩ := kU0
  refine wq_mono (c_hand hX hA hra) ?_
  rintro _ rfl
  exact cOk_l kx _
set_option maxHeartbeats 4000000 in
theorem cCall_8 {h : zH} {D S : Nat} {V : cV} {w : Int32} (k : CI h D S V) : wq 109 0 [(0, .ref 0), (1, .int w)] [] h 0 0 (cOk h D S V) := by
  obtain ⟨rw, cp, t, rd, ps, ip, im, ra, sp, so, lk, hd, ht, bl, sd, rt, ll, lg, sv, nm, wy, po, wg, ka, kb, tb, wr9, wa9, pl, ia, ua, pp, us, un, kx, rfl, rfl, rfl⟩ := k
  have kx0 := kx
  obtain ⟨hX, ⟨htt, hrd, hrae⟩, kT, kA, kDr, kU, kZ, k6, kW, kRn, kSn, hRw, hlen⟩ := kx0
  have kA0 := kA
  obtain ⟨hA, hL, hG, hV, hN, hQ, hW, hsc, hlm, hsv, hsp, hway, hra⟩ := kA0
  have kT0 := kT
  obtain ⟨ln9, nx9, kd9, sta9, va9, tld9, b9, a9, hT, hR4⟩ := kT0
  have kU0 := kU
  obtain ⟨hAi, hIa, hP, hP8, hP0, hu1, hu2⟩ := kU0
  refine wq_mono (c_now hX hA hL hG hra) ?_
  rintro _ rfl
  exact cOk_i kx _
set_option maxHeartbeats 4000000 in
theorem cCall_9 {h : zH} {D S : Nat} {V : cV} {w : Int32} (k : CI h D S V) : wq 110 0 [(0, .ref 0), (1, .int w)] [] h 0 0 (cOkL h D S V) := by
  obtain ⟨rw, cp, t, rd, ps, ip, im, ra, sp, so, lk, hd, ht, bl, sd, rt, ll, lg, sv, nm, wy, po, wg, ka, kb, tb, wr9, wa9, pl, ia, ua, pp, us, un, kx, rfl, rfl, rfl⟩ := k
  have kx0 := kx
  obtain ⟨hX, ⟨htt, hrd, hrae⟩, kT, kA, kDr, kU, kZ, k6, kW, kRn, kSn, hRw, hlen⟩ := kx0
  have kA0 := kA
  obtain ⟨hA, hL, hG, hV, hN, hQ, hW, hsc, hlm, hsv, hsp, hway, hra⟩ := kA0
  have kT0 := kT
  obtain ⟨ln9, nx9, kd9, sta9, va9, tld9, b9, a9, hT, hR4⟩ := kT0
  have kU0 := kU
  obtain ⟨hAi, hIa, hP, hP8, hP0, hu1, hu2⟩ := kU0
  by_cases hw9 : 0 ≤ w.toInt ∧ w.toInt ≤ 5
  · obtain ⟨n, hn9, hn10⟩ : ∃ n : Nat, w = nI n ∧ n ≤ 5 := ⟨w.toNatClampNeg, nI_cl hw9.1, by show w.toInt.toNat ≤ 5; omega⟩
    subst hn9
    refine wq_mono (c_aimI hX hAi hn10) ?_
    rintro _ rfl
    exact cOk_l kx _
  · have hw10 : w.toInt < 0 ∨ 5 < w.toInt := by omega
    refine wq_mono (c_aimO hX hw10) ?_
    rintro _ rfl
    exact cOk_l kx _
set_option maxHeartbeats 4000000 in
theorem cCall_19 {h : zH} {D S : Nat} {V : cV} {s n j : Int32} (k : CI h D S V) : wq 120 0 [(0, .ref 0), (1, .int s), (2, .int n), (3, .int j)] [] h 0 0 (cOk h D S V) := by
  obtain ⟨rw, cp, t, rd, ps, ip, im, ra, sp, so, lk, hd, ht, bl, sd, rt, ll, lg, sv, nm, wy, po, wg, ka, kb, tb, wr9, wa9, pl, ia, ua, pp, us, un, kx, rfl, rfl, rfl⟩ := k
  have kx0 := kx
  obtain ⟨hX, ⟨htt, hrd, hrae⟩, kT, kA, kDr, kU, kZ, k6, kW, kRn, kSn, hRw, hlen⟩ := kx0
  have kA0 := kA
  obtain ⟨hA, hL, hG, hV, hN, hQ, hW, hsc, hlm, hsv, hsp, hway, hra⟩ := kA0
  have kT0 := kT
  obtain ⟨ln9, nx9, kd9, sta9, va9, tld9, b9, a9, hT, hR4⟩ := kT0
  have kU0 := kU
  obtain ⟨hAi, hIa, hP, hP8, hP0, hu1, hu2⟩ := kU0
  refine wq_mono (c_step hX hA hV hQ hra hsp) ?_
  rintro _ rfl
  exact cOk_i kx _
set_option maxHeartbeats 4000000 in
theorem cCall_20 {h : zH} {D S : Nat} {V : cV} {s : Int32} (k : CI h D S V) : wq 121 0 [(0, .ref 0), (1, .int s)] [] h 0 0 (cOk h D S V) := by
  obtain ⟨rw, cp, t, rd, ps, ip, im, ra, sp, so, lk, hd, ht, bl, sd, rt, ll, lg, sv, nm, wy, po, wg, ka, kb, tb, wr9, wa9, pl, ia, ua, pp, us, un, kx, rfl, rfl, rfl⟩ := k
  have kx0 := kx
  obtain ⟨hX, ⟨htt, hrd, hrae⟩, kT, kA, kDr, kU, kZ, k6, kW, kRn, kSn, hRw, hlen⟩ := kx0
  have kA0 := kA
  obtain ⟨hA, hL, hG, hV, hN, hQ, hW, hsc, hlm, hsv, hsp, hway, hra⟩ := kA0
  have kT0 := kT
  obtain ⟨ln9, nx9, kd9, sta9, va9, tld9, b9, a9, hT, hR4⟩ := kT0
  have kU0 := kU
  obtain ⟨hAi, hIa, hP, hP8, hP0, hu1, hu2⟩ := kU0
  refine wq_mono (c_mee hX hA hV hQ hra hsp hsv) ?_
  rintro _ rfl
  exact cOk_i kx _
set_option maxHeartbeats 4000000 in
theorem cCall_32 {h : zH} {D S : Nat} {V : cV} {j u : Int32} (k : CI h D S V) : wq 133 0 [(0, .ref 0), (1, .int j), (2, .int u)] [] h 0 0 (cOk h D S V) := by
  obtain ⟨rw, cp, t, rd, ps, ip, im, ra, sp, so, lk, hd, ht, bl, sd, rt, ll, lg, sv, nm, wy, po, wg, ka, kb, tb, wr9, wa9, pl, ia, ua, pp, us, un, kx, rfl, rfl, rfl⟩ := k
  have kx0 := kx
  obtain ⟨hX, ⟨htt, hrd, hrae⟩, kT, kA, kDr, kU, kZ, k6, kW, kRn, kSn, hRw, hlen⟩ := kx0
  have kA0 := kA
  obtain ⟨hA, hL, hG, hV, hN, hQ, hW, hsc, hlm, hsv, hsp, hway, hra⟩ := kA0
  have kT0 := kT
  obtain ⟨ln9, nx9, kd9, sta9, va9, tld9, b9, a9, hT, hR4⟩ := kT0
  have kU0 := kU
  obtain ⟨hAi, hIa, hP, hP8, hP0, hu1, hu2⟩ := kU0
  by_cases hw9 : 0 ≤ j.toInt ∧ j.toInt ≤ 5
  · obtain ⟨n, hn9, hn10⟩ : ∃ n : Nat, j = nI n ∧ n ≤ 5 := ⟨j.toNatClampNeg, nI_cl hw9.1, by show j.toInt.toNat ≤ 5; omega⟩
    subst hn9
    refine wq_mono (c_free hX hA hL hG hra (by omega)) ?_
    rintro _ rfl
    exact cOk_i kx _
  · have hw10 : j.toInt < 0 ∨ 5 < j.toInt := by omega
    refine wq_mono (c_freeN hX hw10) ?_
    rintro _ rfl
    exact cOk_i kx _
set_option maxHeartbeats 4000000 in
theorem cCall_41 {h : zH} {D S : Nat} {V : cV} {w : Int32} (k : CI h D S V) : wq 143 0 [(0, .ref 0), (1, .int w)] [] h 0 0 (cOk h D S V) := by
  obtain ⟨rw, cp, t, rd, ps, ip, im, ra, sp, so, lk, hd, ht, bl, sd, rt, ll, lg, sv, nm, wy, po, wg, ka, kb, tb, wr9, wa9, pl, ia, ua, pp, us, un, kx, rfl, rfl, rfl⟩ := k
  have kx0 := kx
  obtain ⟨hX, ⟨htt, hrd, hrae⟩, kT, kA, kDr, kU, kZ, k6, kW, kRn, kSn, hRw, hlen⟩ := kx0
  have kA0 := kA
  obtain ⟨hA, hL, hG, hV, hN, hQ, hW, hsc, hlm, hsv, hsp, hway, hra⟩ := kA0
  have kT0 := kT
  obtain ⟨ln9, nx9, kd9, sta9, va9, tld9, b9, a9, hT, hR4⟩ := kT0
  have kU0 := kU
  obtain ⟨hAi, hIa, hP, hP8, hP0, hu1, hu2⟩ := kU0
  refine wq_mono (c_cnt hX hA hP hra) ?_
  rintro _ rfl
  exact cOk_i kx _
set_option maxHeartbeats 4000000 in
theorem cCall_0 {h : zH} {D S : Nat} {V : cV} {a b c d e : Int32} (k : CI h D S V) : wq 100 0 [(0, .ref 0), (1, .int a), (2, .int b), (3, .int c), (4, .int d), (5, .int e)] [] h 0 0 (cOkA (fda V.1.1) h D S (vFd V a b c d e)) := by
  obtain ⟨rw, cp, t, rd, ps, ip, im, ra, sp, so, lk, hd, ht, bl, sd, rt, ll, lg, sv, nm, wy, po, wg, ka, kb, tb, wr9, wa9, pl, ia, ua, pp, us, un, kx, rfl, rfl, rfl⟩ := k
  have kx0 := kx
  obtain ⟨hX, ⟨htt, hrd, hrae⟩, kT, kA, kDr, kU, kZ, k6, kW, kRn, kSn, hRw, hlen⟩ := kx0
  have kA0 := kA
  obtain ⟨hA, hL, hG, hV, hN, hQ, hW, hsc, hlm, hsv, hsp, hway, hra⟩ := kA0
  have kT0 := kT
  obtain ⟨ln9, nx9, kd9, sta9, va9, tld9, b9, a9, hT, hR4⟩ := kT0
  have kU0 := kU
  obtain ⟨hAi, hIa, hP, hP8, hP0, hu1, hu2⟩ := kU0
  by_cases h680 : t ≤ 680
  · rw [show fda (((t, tb, wr9, wa9, im, sp, so, lk, hd, ht, bl, sd, rt, ll, lg, sv, nm, wy, po), (ps, ip, us, un, pl, ia, pp, ua)) : cV).1.1 = nI (t + 20) from if_pos h680, show (vFd ((t, tb, wr9, wa9, im, sp, so, lk, hd, ht, bl, sd, rt, ll, lg, sv, nm, wy, po), (ps, ip, us, un, pl, ia, pp, ua)) a b c d e) = ((t + 20, fdF a b c d e t tb, wr9, wa9, im, sp, so, lk, hd, ht, bl, sd, rt, ll, lg, sv, nm, wy, po), (ps, ip, us, un, pl, ia, pp, ua)) from if_pos h680]
    refine wq_mono (c_feedC hX hT h680) ?_
    rintro _ ⟨h2, rfl, f, l, c0, c2⟩
    obtain ⟨rw2, cp2, er, ec, kx2, fx⟩ := CIx_t kx c0 (by omega) ⟨ln9, nx9, kd9, sta9, va9, tld9, b9, a9, c2, wFr_at f (by decide) hR4⟩ f
    subst er; subst ec
    exact ⟨rfl, _, h2, 0, 0, _, _, rfl, ⟨_, _, _, rd, ps, ip, im, ra, sp, so, lk, hd, ht, bl, sd, rt, ll, lg, sv, nm, wy, po, wg, ka, kb, _, _, _, _, _, _, _, _, _, kx2, rfl, rfl, rfl⟩, fx, Nat.le_of_eq (Nat.zero_add _), Nat.le_of_eq (Nat.zero_add _)⟩
  · rw [show fda (((t, tb, wr9, wa9, im, sp, so, lk, hd, ht, bl, sd, rt, ll, lg, sv, nm, wy, po), (ps, ip, us, un, pl, ia, pp, ua)) : cV).1.1 = -1 from if_neg h680, show (vFd ((t, tb, wr9, wa9, im, sp, so, lk, hd, ht, bl, sd, rt, ll, lg, sv, nm, wy, po), (ps, ip, us, un, pl, ia, pp, ua)) a b c d e) = ((t, tb, wr9, wa9, im, sp, so, lk, hd, ht, bl, sd, rt, ll, lg, sv, nm, wy, po), (ps, ip, us, un, pl, ia, pp, ua)) from if_neg h680]
    refine wq_mono (c_feedN hX ⟨by omega, htt⟩) ?_
    rintro _ rfl
    exact ⟨rfl, cOk_i kx _⟩
set_option maxHeartbeats 4000000 in
theorem cCall_6 {h : zH} {D S : Nat} {V : cV} {j v : Int32} (k : CI h D S V) : wq 107 0 [(0, .ref 0), (1, .int j), (2, .int v)] [] h 0 0 (fun r => ∃ (a : Int32) (V2 : cV), vSet V j v a V2 ∧ cOkA a h D S V2 r) := by
  obtain ⟨rw, cp, t, rd, ps, ip, im, ra, sp, so, lk, hd, ht, bl, sd, rt, ll, lg, sv, nm, wy, po, wg, ka, kb, tb, wr9, wa9, pl, ia, ua, pp, us, un, kx, rfl, rfl, rfl⟩ := k
  have kx0 := kx
  obtain ⟨hX, ⟨htt, hrd, hrae⟩, kT, kA, kDr, kU, kZ, k6, kW, kRn, kSn, hRw, hlen⟩ := kx0
  have kA0 := kA
  obtain ⟨hA, hL, hG, hV, hN, hQ, hW, hsc, hlm, hsv, hsp, hway, hra⟩ := kA0
  have kT0 := kT
  obtain ⟨ln9, nx9, kd9, sta9, va9, tld9, b9, a9, hT, hR4⟩ := kT0
  have kU0 := kU
  obtain ⟨hAi, hIa, hP, hP8, hP0, hu1, hu2⟩ := kU0
  by_cases hw9 : 0 ≤ j.toInt ∧ j.toInt ≤ 5
  · obtain ⟨n, hn9, hn10⟩ : ∃ n : Nat, j = nI n ∧ n ≤ 5 := ⟨j.toNatClampNeg, nI_cl hw9.1, by show j.toInt.toNat ≤ 5; omega⟩
    subst hn9
    refine (c_set hX hA hL hG hP hP8 hP0 hAi hra ⟨hu1, hu2⟩ (by omega) ?_ ?_)
    · intro h2 f l p0
      have ea : aSet ll lg (nI n) v = 0 := by
        unfold aSet
        rw [if_pos hw9, nI_clamp (by omega)]
        unfold jAlw at p0
        revert p0
        repeat' split
        all_goals intro p0
        all_goals first | rfl | exact absurd p0 (by decide)
      have fx : wFx (fun q => q ∈ ([] : List Nat)) h h2 := f
      have kx2 := CIx_fx kx fx (fun q _ hm => absurd hm List.not_mem_nil)
      exact ⟨_, _, ⟨ea.symm, Or.inl ⟨rfl, rfl⟩⟩, rfl, _, h2, 0, 0, _, _, rfl, ⟨_, _, _, rd, _, _, _, ra, sp, so, lk, hd, ht, bl, sd, rt, ll, lg, sv, nm, wy, po, wg, ka, kb, _, _, _, _, _, _, _, _, _, kx2, rfl, rfl, rfl⟩, wFx_of f (fun q hq => absurd hq List.not_mem_nil), Nat.le_of_eq (Nat.zero_add _), Nat.le_of_eq (Nat.zero_add _)⟩
    · intro h2 f l c0 c36 c38 c40 p0
      have p1 := p0
      have ea : aSet ll lg (nI n) v = 1 := by
        unfold aSet
        rw [if_pos hw9, nI_clamp (by omega)]
        unfold jAlw at p0
        revert p0
        repeat' split
        all_goals intro p0
        all_goals first | rfl | exact absurd rfl p0
      obtain ⟨rw2, cp2, er, ec, kx2, fx⟩ := CIx_u kx c0 ⟨wFr_at f (by decide) hAi, wFr_at f (by decide) hIa, c36, c38, c40, by omega, by omega⟩ (wFr_sub f (by decide))
      subst er; subst ec
      exact ⟨_, _, ⟨ea.symm, Or.inr ⟨rfl, n, rfl, by omega, jAlw_b hlm (by omega) p1, rfl⟩⟩, rfl, _, h2, 0, 0, _, _, rfl, ⟨_, _, _, rd, _, _, _, ra, sp, so, lk, hd, ht, bl, sd, rt, ll, lg, sv, nm, wy, po, wg, ka, kb, _, _, _, _, _, _, _, _, _, kx2, rfl, rfl, rfl⟩, fx, Nat.le_of_eq (Nat.zero_add _), Nat.le_of_eq (Nat.zero_add _)⟩
  · have hw10 : j.toInt < 0 ∨ 5 < j.toInt := by omega
    refine wq_mono (c_setN hX hw10) ?_
    rintro _ rfl
    exact ⟨_, _, ⟨(if_neg hw9).symm, Or.inl ⟨rfl, rfl⟩⟩, rfl, cOk_i kx _⟩
set_option maxHeartbeats 4000000 in
theorem cCall_10 {h : zH} {D S : Nat} {V : cV} {s : Int32} (k : CI h D S V) : wq 111 0 [(0, .ref 0), (1, .int s)] [] h 0 0 (fun r => ∃ (a : Int32) (V2 : cV), vAat V s a V2 ∧ cOkA a h D S V2 r) := by
  obtain ⟨rw, cp, t, rd, ps, ip, im, ra, sp, so, lk, hd, ht, bl, sd, rt, ll, lg, sv, nm, wy, po, wg, ka, kb, tb, wr9, wa9, pl, ia, ua, pp, us, un, kx, rfl, rfl, rfl⟩ := k
  have kx0 := kx
  obtain ⟨hX, ⟨htt, hrd, hrae⟩, kT, kA, kDr, kU, kZ, k6, kW, kRn, kSn, hRw, hlen⟩ := kx0
  have kA0 := kA
  obtain ⟨hA, hL, hG, hV, hN, hQ, hW, hsc, hlm, hsv, hsp, hway, hra⟩ := kA0
  have kT0 := kT
  obtain ⟨ln9, nx9, kd9, sta9, va9, tld9, b9, a9, hT, hR4⟩ := kT0
  have kU0 := kU
  obtain ⟨hAi, hIa, hP, hP8, hP0, hu1, hu2⟩ := kU0
  refine (c_aat hX hA hQ hP hP8 hP0 hAi hra ⟨hu1, hu2⟩ hsp ?_ ?_ ?_)
  · intro h2 f l p0
    have ea : aAat sp s = 0 := by
      unfold aAat
      rw [if_neg p0.1, if_neg (by omega)]
    have fx : wFx (fun q => q ∈ ([] : List Nat)) h h2 := f
    have kx2 := CIx_fx kx fx (fun q _ hm => absurd hm List.not_mem_nil)
    exact ⟨_, _, ⟨ea.symm, Or.inl ⟨rfl, rfl⟩⟩, rfl, _, h2, 0, 0, _, _, rfl, ⟨_, _, _, rd, _, _, _, ra, sp, so, lk, hd, ht, bl, sd, rt, ll, lg, sv, nm, wy, po, wg, ka, kb, _, _, _, _, _, _, _, _, _, kx2, rfl, rfl, rfl⟩, wFx_of f (fun q hq => absurd hq List.not_mem_nil), Nat.le_of_eq (Nat.zero_add _), Nat.le_of_eq (Nat.zero_add _)⟩
  · intro h2 f l c34 c36 c38 c40 p0
    have ea : aAat sp s = 1 := by
      unfold aAat
      rw [if_pos p0]
    obtain ⟨rw2, cp2, er, ec, kx2, fx⟩ := CIx_u kx (wFr_at f (by decide) hX) ⟨c34, wFr_at f (by decide) hIa, c36, c38, c40, by omega, by omega⟩ (wFr_sub f (by decide))
    subst er; subst ec
    exact ⟨_, _, ⟨ea.symm, Or.inr (Or.inl ⟨rfl, p0, rfl⟩)⟩, rfl, _, h2, 0, 0, _, _, rfl, ⟨_, _, _, rd, _, _, _, ra, sp, so, lk, hd, ht, bl, sd, rt, ll, lg, sv, nm, wy, po, wg, ka, kb, _, _, _, _, _, _, _, _, _, kx2, rfl, rfl, rfl⟩, fx, Nat.le_of_eq (Nat.zero_add _), Nat.le_of_eq (Nat.zero_add _)⟩
  · intro h2 f l c34 c36 c38 c40 p0
    have ea : aAat sp s = 1 := by
      unfold aAat
      rw [if_neg p0.1, if_pos p0.2]
    obtain ⟨rw2, cp2, er, ec, kx2, fx⟩ := CIx_u kx (wFr_at f (by decide) hX) ⟨c34, wFr_at f (by decide) hIa, c36, c38, c40, by omega, by omega⟩ (wFr_sub f (by decide))
    subst er; subst ec
    exact ⟨_, _, ⟨ea.symm, Or.inr (Or.inr ⟨rfl, p0.1, p0.2, rfl⟩)⟩, rfl, _, h2, 0, 0, _, _, rfl, ⟨_, _, _, rd, _, _, _, ra, sp, so, lk, hd, ht, bl, sd, rt, ll, lg, sv, nm, wy, po, wg, ka, kb, _, _, _, _, _, _, _, _, _, kx2, rfl, rfl, rfl⟩, fx, Nat.le_of_eq (Nat.zero_add _), Nat.le_of_eq (Nat.zero_add _)⟩
set_option maxHeartbeats 4000000 in
theorem cCall_11 {h : zH} {D S : Nat} {V : cV} {w : Int32} {v : Int64} (k : CI h D S V) : wq 112 0 [(0, .ref 0), (1, .int w), (2, .long v)] [] h 0 0 (fun r => ∃ (a : Int32) (V2 : cV), vAby V w v a V2 ∧ cOkA a h D S V2 r) := by
  obtain ⟨rw, cp, t, rd, ps, ip, im, ra, sp, so, lk, hd, ht, bl, sd, rt, ll, lg, sv, nm, wy, po, wg, ka, kb, tb, wr9, wa9, pl, ia, ua, pp, us, un, kx, rfl, rfl, rfl⟩ := k
  have kx0 := kx
  obtain ⟨hX, ⟨htt, hrd, hrae⟩, kT, kA, kDr, kU, kZ, k6, kW, kRn, kSn, hRw, hlen⟩ := kx0
  have kA0 := kA
  obtain ⟨hA, hL, hG, hV, hN, hQ, hW, hsc, hlm, hsv, hsp, hway, hra⟩ := kA0
  have kT0 := kT
  obtain ⟨ln9, nx9, kd9, sta9, va9, tld9, b9, a9, hT, hR4⟩ := kT0
  have kU0 := kU
  obtain ⟨hAi, hIa, hP, hP8, hP0, hu1, hu2⟩ := kU0
  refine (c_aby (sp := sp) (so := so) (lk := lk) (hd := hd) (ht := ht) (bl := bl) (sd := sd) (rt := rt) hX hP hP8 hP0 hAi ⟨hu1, hu2⟩ ?_ ?_)
  · intro h2 f l p0
    have fx : wFx (fun q => q ∈ ([] : List Nat)) h h2 := f
    have kx2 := CIx_fx kx fx (fun q _ hm => absurd hm List.not_mem_nil)
    exact ⟨_, _, ⟨(congrArg nI p0).symm, Or.inl ⟨p0, rfl⟩⟩, rfl, _, h2, 0, 0, _, _, rfl, ⟨_, _, _, rd, _, _, _, ra, sp, so, lk, hd, ht, bl, sd, rt, ll, lg, sv, nm, wy, po, wg, ka, kb, _, _, _, _, _, _, _, _, _, kx2, rfl, rfl, rfl⟩, wFx_of f (fun q hq => absurd hq List.not_mem_nil), Nat.le_of_eq (Nat.zero_add _), Nat.le_of_eq (Nat.zero_add _)⟩
  · intro h2 f l c34 c36 c38 c40 p0 p1
    obtain ⟨rw2, cp2, er, ec, kx2, fx⟩ := CIx_u kx (wFr_at f (by decide) hX) ⟨c34, wFr_at f (by decide) hIa, c36, c38, c40, by omega, by omega⟩ (wFr_sub f (by decide))
    subst er; subst ec
    exact ⟨_, _, ⟨(congrArg nI p0).symm, Or.inr ⟨p0, p1, rfl⟩⟩, rfl, _, h2, 0, 0, _, _, rfl, ⟨_, _, _, rd, _, _, _, ra, sp, so, lk, hd, ht, bl, sd, rt, ll, lg, sv, nm, wy, po, wg, ka, kb, _, _, _, _, _, _, _, _, _, kx2, rfl, rfl, rfl⟩, fx, Nat.le_of_eq (Nat.zero_add _), Nat.le_of_eq (Nat.zero_add _)⟩
set_option maxHeartbeats 4000000 in
theorem cCall_38 {h : zH} {D S : Nat} {V : cV}  (k : CI h D S V) : wq 140 0 [(0, .ref 0)] [] h 0 0 (fun r => ∃ (a : Int32) (V2 : cV), vUnd V a V2 ∧ cOkA a h D S V2 r) := by
  obtain ⟨rw, cp, t, rd, ps, ip, im, ra, sp, so, lk, hd, ht, bl, sd, rt, ll, lg, sv, nm, wy, po, wg, ka, kb, tb, wr9, wa9, pl, ia, ua, pp, us, un, kx, rfl, rfl, rfl⟩ := k
  have kx0 := kx
  obtain ⟨hX, ⟨htt, hrd, hrae⟩, kT, kA, kDr, kU, kZ, k6, kW, kRn, kSn, hRw, hlen⟩ := kx0
  have kA0 := kA
  obtain ⟨hA, hL, hG, hV, hN, hQ, hW, hsc, hlm, hsv, hsp, hway, hra⟩ := kA0
  have kT0 := kT
  obtain ⟨ln9, nx9, kd9, sta9, va9, tld9, b9, a9, hT, hR4⟩ := kT0
  have kU0 := kU
  obtain ⟨hAi, hIa, hP, hP8, hP0, hu1, hu2⟩ := kU0
  by_cases hus : us = 0
  · refine wq_mono (c_undoN (pp := pp) (ua := ua) hX hP hus) ?_
    rintro _ rfl
    exact ⟨_, _, Or.inl ⟨hus, rfl, rfl⟩, rfl, cOk_i kx _⟩
  · refine wq_mono (c_undo hX hP hP8 hP0 hAi ⟨hu1, by omega, hu2⟩) ?_
    rintro _ ⟨h2, un2, rfl, f, l, c0, c36, c34, e2⟩
    subst e2
    obtain ⟨rw2, cp2, er, ec, kx2, fx⟩ := CIx_u kx c0 ⟨c34, wFr_at f (by decide) hIa, c36, wFr_at f (by decide) hP8, wFr_at f (by decide) hP0, by omega, by omega⟩ (wFr_sub f (by decide))
    subst er; subst ec
    exact ⟨_, _, Or.inr ⟨hus, rfl, rfl⟩, rfl, _, h2, 0, 0, _, _, rfl, ⟨_, _, _, rd, _, _, _, ra, sp, so, lk, hd, ht, bl, sd, rt, ll, lg, sv, nm, wy, po, wg, ka, kb, _, _, _, _, _, _, _, _, _, kx2, rfl, rfl, rfl⟩, fx, Nat.le_of_eq (Nat.zero_add _), Nat.le_of_eq (Nat.zero_add _)⟩
set_option maxHeartbeats 4000000 in
theorem cCall_40 {h : zH} {D S : Nat} {V : cV}  (k : CI h D S V) : wq 142 0 [(0, .ref 0)] [] h 0 0 (fun r => ∃ (a : Int32) (V2 : cV), vBck V a V2 ∧ cOkA a h D S V2 r) := by
  obtain ⟨rw, cp, t, rd, ps, ip, im, ra, sp, so, lk, hd, ht, bl, sd, rt, ll, lg, sv, nm, wy, po, wg, ka, kb, tb, wr9, wa9, pl, ia, ua, pp, us, un, kx, rfl, rfl, rfl⟩ := k
  have kx0 := kx
  obtain ⟨hX, ⟨htt, hrd, hrae⟩, kT, kA, kDr, kU, kZ, k6, kW, kRn, kSn, hRw, hlen⟩ := kx0
  have kA0 := kA
  obtain ⟨hA, hL, hG, hV, hN, hQ, hW, hsc, hlm, hsv, hsp, hway, hra⟩ := kA0
  have kT0 := kT
  obtain ⟨ln9, nx9, kd9, sta9, va9, tld9, b9, a9, hT, hR4⟩ := kT0
  have kU0 := kU
  obtain ⟨hAi, hIa, hP, hP8, hP0, hu1, hu2⟩ := kU0
  by_cases him : im = 0
  · refine wq_mono (c_backN hX him) ?_
    rintro _ rfl
    exact ⟨_, _, Or.inl ⟨him, rfl, rfl⟩, rfl, cOk_i kx _⟩
  · refine wq_mono (c_back hX hP hAi hIa him) ?_
    rintro _ ⟨h2, rfl, f, l, c0, c34, c36⟩
    obtain ⟨rw2, cp2, er, ec, kx2, fx⟩ := CIx_u kx c0 ⟨c34, wFr_at f (by decide) hIa, (show zat h2 36 = some (.inr (.inr (.inr (2, [.int (nI 0), .int (nI 0), .ref 38, .ref 40])))) from c36), wFr_at f (by decide) hP8, wFr_at f (by decide) hP0, by omega, by omega⟩ (wFr_sub f (by decide))
    subst er; subst ec
    exact ⟨_, _, Or.inr ⟨him, rfl, rfl⟩, rfl, _, h2, 0, 0, _, _, rfl, ⟨_, _, _, rd, _, _, _, ra, sp, so, lk, hd, ht, bl, sd, rt, ll, lg, sv, nm, wy, po, wg, ka, kb, _, _, _, _, _, _, _, _, _, kx2, rfl, rfl, rfl⟩, fx, Nat.le_of_eq (Nat.zero_add _), Nat.le_of_eq (Nat.zero_add _)⟩
theorem cCall_39 {h : zH} {D S : Nat} {V : cV} (k : CI h D S V) : wq 141 0 [(0, .ref 0)] [] h 0 0 (fun r => r.1 = some (.int 1) ∧ cOk h D S (vKp V) r) := by
  obtain ⟨rw, cp, t, rd, ps, ip, im, ra, sp, so, lk, hd, ht, bl, sd, rt, ll, lg, sv, nm, wy, po, wg, ka, kb, tb, wr9, wa9, pl, ia, ua, pp, us, un, kx, rfl, rfl, rfl⟩ := k
  have kx0 := kx
  obtain ⟨hX, ⟨htt, hrd, hrae⟩, kT, kA, kDr, kU, kZ, k6, kW, kRn, kSn, hRw, hlen⟩ := kx0
  have kA0 := kA
  obtain ⟨hA, hL, hG, hV, hN, hQ, hW, hsc, hlm, hsv, hsp, hway, hra⟩ := kA0
  have kT0 := kT
  obtain ⟨ln9, nx9, kd9, sta9, va9, tld9, b9, a9, hT, hR4⟩ := kT0
  have kU0 := kU
  obtain ⟨hAi, hIa, hP, hP8, hP0, hu1, hu2⟩ := kU0
  refine wq_mono (c_keep hX hAi hIa) ?_
  rintro _ ⟨h2, rfl, f, l, c0, c42⟩
  refine ⟨rfl, ?_⟩
  obtain ⟨rw2, cp2, er, ec, kx2, fx⟩ := CIx_u kx c0 ⟨wFr_at f (by decide) hAi, c42, wFr_at f (by decide) hP, wFr_at f (by decide) hP8, wFr_at f (by decide) hP0, hu1, hu2⟩ (wFr_sub f (by decide))
  subst er; subst ec
  exact ⟨_, h2, 0, 0, _, _, rfl, ⟨_, _, _, rd, _, _, _, ra, sp, so, lk, hd, ht, bl, sd, rt, ll, lg, sv, nm, wy, po, wg, ka, kb, _, _, _, _, _, _, _, _, _, kx2, rfl, rfl, rfl⟩, fx, Nat.le_of_eq (Nat.zero_add _), Nat.le_of_eq (Nat.zero_add _)⟩
theorem sol_no {a b q : Nat} (ha : a = 62 ∨ 234 ≤ a) (hb : b = 58 ∨ 234 ≤ b) (hq : q < 44) : q ∉ [a, 60, 64, 44, 46, 48, 50, 52, 54, 56, b] := by
  simp only [List.mem_cons, List.not_mem_nil, or_false, not_or]
  omega
theorem cOk_s {h : zH} {rw cp : Nat → Nat} {t rd : Nat} {ps ps2 ip : Int64} {im : Int32} {ra sp so : Nat} {lk hd ht bl sd : Int32} {rt : Int64} {ll lg sv nm wy : List Int32} {po : List Int64} {wg ka kb : Int32} {tb : List Int32} {wr9 wa9 : Int32} {pl ia ua : List Int32} {pp : List Int64} {us un : Nat} (kx : CIx h rw cp t rd ps ip im ra sp so lk hd ht bl sd rt ll lg sv nm wy po wg ka kb tb wr9 wa9 pl ia ua pp us un) {h2 : zH} {rL2 cap2 rs2 sc2 d9 s9 : Nat} (hX2 : zat h2 0 = some (.inr (.inr (.inr (9, [.ref 2, .int (nI t), .ref 4, .ref ra, .ref rd, .long ps2, .ref 34, .ref 36, .int im, .long ip, .ref 42, .ref 44, .ref 60, .ref 66, .ref 72, .ref 74, .ref 150, .ref 158]))))) {pl2 ia2 ua2 : List Int32} {pp2 : List Int64} {us2 un2 : Nat} (hU2 : wU h2 pl2 ia2 ua2 pp2 us2 un2) (hSol2 : wSol h2 rs2 sc2) (hH2 : wH6 h2 ll lg lk hd ht rL2 cap2) (f9 : wFr [rw 9, 60, 64, 44, 46, 48, 50, 52, 54, 56, rw 0, 0, 34, 36, 38, 40] h h2) (q9 : rL2 = rw 9 ∨ 2 * h.length ≤ rL2) (u9 : rL2 < 2 * h2.length) (q0 : rs2 = rw 0 ∨ 2 * h.length ≤ rs2) (u0 : rs2 < 2 * h2.length) (qd : rs2 ≠ rL2) (a0 : d9 + cp 9 + cp 0 ≤ cap2 + sc2) (a1 : s9 + 600 * (cp 9 + cp 0) ≤ 600 * (cap2 + sc2)) (v : Int32) : cOk h (kD cp) (kS cp) ((t, tb, wr9, wa9, im, sp, so, lk, hd, ht, bl, sd, rt, ll, lg, sv, nm, wy, po), (ps2, ip, us2, un2, pl2, ia2, pp2, ua2)) (some (.int v), h2, d9, s9) := by
  obtain ⟨rw2, cp2, er, ec, kx2, fx⟩ := CIx_s kx hX2 hU2 hSol2 hH2 f9 q9 u9 q0 u0 qd
  have e1 := kD_up (cp := cp) 9 cap2 (by decide)
  have e2 := kD_0 (fup cp 9 cap2) sc2
  have e3 := kS_9 cp 9 cap2 (Or.inl rfl)
  have e4 := kS_0 (fup cp 9 cap2) sc2
  rw [fup_n cp cap2 (show 0 ≠ 9 by decide), ← ec] at e2 e4
  exact ⟨v, h2, d9, s9, _, _, rfl, ⟨rw2, cp2, _, rd, _, ip, im, ra, sp, so, lk, hd, ht, bl, sd, rt, ll, lg, sv, nm, wy, po, wg, ka, kb, _, _, _, _, _, _, _, _, _, kx2, rfl, rfl, rfl⟩, fx, by clear q9 q0 kx kx2 fx; omega, by clear q9 q0 kx kx2 fx; omega⟩
set_option maxHeartbeats 4000000 in
theorem cCall_12 {h : zH} {D S : Nat} {V : cV}  (k : CI h D S V) : wq 113 0 [(0, .ref 0)] [] h 0 0 (cOk h D S V) := by
  obtain ⟨rw, cp, t, rd, ps, ip, im, ra, sp, so, lk, hd, ht, bl, sd, rt, ll, lg, sv, nm, wy, po, wg, ka, kb, tb, wr9, wa9, pl, ia, ua, pp, us, un, kx, rfl, rfl, rfl⟩ := k
  have kx0 := kx
  obtain ⟨hX, ⟨htt, hrd, hrae⟩, kT, kA, kDr, kU, kZ, k6, kW, kRn, kSn, hRw, hlen⟩ := kx0
  have kA0 := kA
  obtain ⟨hA, hL, hG, hV, hN, hQ, hW, hsc, hlm, hsv, hsp, hway, hra⟩ := kA0
  have kT0 := kT
  obtain ⟨ln9, nx9, kd9, sta9, va9, tld9, b9, a9, hT, hR4⟩ := kT0
  have kU0 := kU
  obtain ⟨hAi, hIa, hP, hP8, hP0, hu1, hu2⟩ := kU0
  have k60 := k6
  obtain ⟨hkn9, hto9, hks9, hfa9, hp9, li9, hH60, hP4, hI9, hkn, hK, hc16, hc600⟩ := k60
  have kZ0 := kZ
  obtain ⟨h78, hSol, hPl, hRa, hRb⟩ := kZ0
  have hSol0 := hSol
  obtain ⟨v0, v1, nf, tg, sh, el, wr, ou, bh, so1, hS, h46, h48, h50, h52, h54, hB, hO, hsr, hs6⟩ := hSol0
  have r9 : rw 9 = 62 ∨ 234 ≤ rw 9 := row_h hRw (by decide)
  have d90 := hRw.2 0 9 (by decide) (by decide) (by decide)
  refine wq_mono (c_sols hX hA hL hG hAi hH60 hP4 hI9 hS h46 h48 h50 h52 h54 hB hO hra hkn hsc hlm hK r9 ⟨hsr, d90⟩ ⟨hc16, hc600, hs6⟩ hlen) ?_
  rintro _ ⟨h2, rL2, cap2, rs2, sc2, v02, v12, nf2, kn2, ks2, fa2, tg2, hp2, sh2, el2, wr2, ou2, bh2, li2, so2, d9, s9, rfl, f, l, c60, c64, crL, c44, c46, c48, c50, c52, c54, c56, crs, p0, p1, p2, p3, p4, p5, p6, p7, p8, al0, al1⟩
  exact cOk_s kx (wFr_at f (sol_no r9 hsr (by decide)) hX) (wU_fx kU (show wFx (fun q => q ∈ [rw 9, 60, 64, 44, 46, 48, 50, 52, 54, 56, rw 0]) h h2 from f) (fun q a b => sol_no r9 hsr b)) ⟨v02, v12, nf2, tg2, sh2, el2, wr2, ou2, bh2, so2, c44, c46, c48, c50, c52, c54, c56, crs, row_up hsr p6 hlen, p4.2.2.1⟩ ⟨kn2, _, ks2, fa2, hp2, li2, c60, c64, crL, Or.inr p0, p3, p4.1, p4.2.1⟩ (wFr_sub f (fun q hq => List.mem_append_left [0, 34, 36, 38, 40] hq)) p5 (zat_lt crL) p6 (zat_lt crs) p7 al0 al1 _
set_option maxHeartbeats 4000000 in
theorem cCall_13 {h : zH} {D S : Nat} {V : cV} {k9 j : Int32} (k : CI h D S V) : wq 114 0 [(0, .ref 0), (1, .int k9), (2, .int j)] [] h 0 0 (cOk h D S V) := by
  obtain ⟨rw, cp, t, rd, ps, ip, im, ra, sp, so, lk, hd, ht, bl, sd, rt, ll, lg, sv, nm, wy, po, wg, ka, kb, tb, wr9, wa9, pl, ia, ua, pp, us, un, kx, rfl, rfl, rfl⟩ := k
  have kx0 := kx
  obtain ⟨hX, ⟨htt, hrd, hrae⟩, kT, kA, kDr, kU, kZ, k6, kW, kRn, kSn, hRw, hlen⟩ := kx0
  have kA0 := kA
  obtain ⟨hA, hL, hG, hV, hN, hQ, hW, hsc, hlm, hsv, hsp, hway, hra⟩ := kA0
  have kT0 := kT
  obtain ⟨ln9, nx9, kd9, sta9, va9, tld9, b9, a9, hT, hR4⟩ := kT0
  have kU0 := kU
  obtain ⟨hAi, hIa, hP, hP8, hP0, hu1, hu2⟩ := kU0
  have k60 := k6
  obtain ⟨hkn9, hto9, hks9, hfa9, hp9, li9, hH60, hP4, hI9, hkn, hK, hc16, hc600⟩ := k60
  have kZ0 := kZ
  obtain ⟨h78, hSol, hPl, hRa, hRb⟩ := kZ0
  have hSol0 := hSol
  obtain ⟨v0, v1, nf, tg, sh, el, wr, ou, bh, so1, hS, h46, h48, h50, h52, h54, hB, hO, hsr, hs6⟩ := hSol0
  have r9 : rw 9 = 62 ∨ 234 ≤ rw 9 := row_h hRw (by decide)
  have d90 := hRw.2 0 9 (by decide) (by decide) (by decide)
  refine wq_mono (c_sol hX hA hL hG hAi hH60 hP4 hI9 hS h46 h48 h50 h52 h54 hB hO hra hkn hsc hlm hK r9 ⟨hsr, d90⟩ ⟨hc16, hc600, hs6⟩ hlen) ?_
  rintro _ ⟨h2, rL2, cap2, rs2, sc2, v02, v12, nf2, kn2, ks2, fa2, tg2, hp2, sh2, el2, wr2, ou2, bh2, li2, so2, d9, s9, rfl, f, l, c60, c64, crL, c44, c46, c48, c50, c52, c54, c56, crs, p0, p1, p2, p3, p4, p5, p6, p7, p8, al0, al1⟩
  exact cOk_s kx (wFr_at f (sol_no r9 hsr (by decide)) hX) (wU_fx kU (show wFx (fun q => q ∈ [rw 9, 60, 64, 44, 46, 48, 50, 52, 54, 56, rw 0]) h h2 from f) (fun q a b => sol_no r9 hsr b)) ⟨v02, v12, nf2, tg2, sh2, el2, wr2, ou2, bh2, so2, c44, c46, c48, c50, c52, c54, c56, crs, row_up hsr p6 hlen, p4.2.2.1⟩ ⟨kn2, _, ks2, fa2, hp2, li2, c60, c64, crL, Or.inr p0, p3, p4.1, p4.2.1⟩ (wFr_sub f (fun q hq => List.mem_append_left [0, 34, 36, 38, 40] hq)) p5 (zat_lt crL) p6 (zat_lt crs) p7 al0 al1 _
set_option maxHeartbeats 4000000 in
theorem cCall_14 {h : zH} {D S : Nat} {V : cV} {k9 w : Int32} (k : CI h D S V) : wq 115 0 [(0, .ref 0), (1, .int k9), (2, .int w)] [] h 0 0 (cOk h D S V) := by
  obtain ⟨rw, cp, t, rd, ps, ip, im, ra, sp, so, lk, hd, ht, bl, sd, rt, ll, lg, sv, nm, wy, po, wg, ka, kb, tb, wr9, wa9, pl, ia, ua, pp, us, un, kx, rfl, rfl, rfl⟩ := k
  have kx0 := kx
  obtain ⟨hX, ⟨htt, hrd, hrae⟩, kT, kA, kDr, kU, kZ, k6, kW, kRn, kSn, hRw, hlen⟩ := kx0
  have kA0 := kA
  obtain ⟨hA, hL, hG, hV, hN, hQ, hW, hsc, hlm, hsv, hsp, hway, hra⟩ := kA0
  have kT0 := kT
  obtain ⟨ln9, nx9, kd9, sta9, va9, tld9, b9, a9, hT, hR4⟩ := kT0
  have kU0 := kU
  obtain ⟨hAi, hIa, hP, hP8, hP0, hu1, hu2⟩ := kU0
  have k60 := k6
  obtain ⟨hkn9, hto9, hks9, hfa9, hp9, li9, hH60, hP4, hI9, hkn, hK, hc16, hc600⟩ := k60
  have kZ0 := kZ
  obtain ⟨h78, hSol, hPl, hRa, hRb⟩ := kZ0
  have hSol0 := hSol
  obtain ⟨v0, v1, nf, tg, sh, el, wr, ou, bh, so1, hS, h46, h48, h50, h52, h54, hB, hO, hsr, hs6⟩ := hSol0
  have r9 : rw 9 = 62 ∨ 234 ≤ rw 9 := row_h hRw (by decide)
  have d90 := hRw.2 0 9 (by decide) (by decide) (by decide)
  refine wq_mono (c_way hX hA hL hG hAi hH60 hP4 hI9 hS h46 h48 h50 h52 h54 hB hO hV hra hkn hsc hlm hK r9 ⟨hsr, d90⟩ ⟨hc16, hc600, hs6⟩ hlen) ?_
  rintro _ ⟨h2, rL2, cap2, rs2, sc2, v02, v12, nf2, kn2, ks2, fa2, tg2, hp2, sh2, el2, wr2, ou2, bh2, li2, so2, d9, s9, rfl, f, l, c60, c64, crL, c44, c46, c48, c50, c52, c54, c56, crs, p0, p1, p2, p3, p4, p5, p6, p7, p8, al0, al1⟩
  exact cOk_s kx (wFr_at f (sol_no r9 hsr (by decide)) hX) (wU_fx kU (show wFx (fun q => q ∈ [rw 9, 60, 64, 44, 46, 48, 50, 52, 54, 56, rw 0]) h h2 from f) (fun q a b => sol_no r9 hsr b)) ⟨v02, v12, nf2, tg2, sh2, el2, wr2, ou2, bh2, so2, c44, c46, c48, c50, c52, c54, c56, crs, row_up hsr p6 hlen, p4.2.2.1⟩ ⟨kn2, _, ks2, fa2, hp2, li2, c60, c64, crL, Or.inr p0, p3, p4.1, p4.2.1⟩ (wFr_sub f (fun q hq => List.mem_append_left [0, 34, 36, 38, 40] hq)) p5 (zat_lt crL) p6 (zat_lt crs) p7 al0 al1 _
set_option maxHeartbeats 4000000 in
theorem cCall_15 {h : zH} {D S : Nat} {V : cV}  (k : CI h D S V) : wq 116 0 [(0, .ref 0)] [] h 0 0 (cOk h D S V) := by
  obtain ⟨rw, cp, t, rd, ps, ip, im, ra, sp, so, lk, hd, ht, bl, sd, rt, ll, lg, sv, nm, wy, po, wg, ka, kb, tb, wr9, wa9, pl, ia, ua, pp, us, un, kx, rfl, rfl, rfl⟩ := k
  have kx0 := kx
  obtain ⟨hX, ⟨htt, hrd, hrae⟩, kT, kA, kDr, kU, kZ, k6, kW, kRn, kSn, hRw, hlen⟩ := kx0
  have kA0 := kA
  obtain ⟨hA, hL, hG, hV, hN, hQ, hW, hsc, hlm, hsv, hsp, hway, hra⟩ := kA0
  have kT0 := kT
  obtain ⟨ln9, nx9, kd9, sta9, va9, tld9, b9, a9, hT, hR4⟩ := kT0
  have kU0 := kU
  obtain ⟨hAi, hIa, hP, hP8, hP0, hu1, hu2⟩ := kU0
  have k60 := k6
  obtain ⟨hkn9, hto9, hks9, hfa9, hp9, li9, hH60, hP4, hI9, hkn, hK, hc16, hc600⟩ := k60
  have kZ0 := kZ
  obtain ⟨h78, hSol, hPl, hRa, hRb⟩ := kZ0
  have hSol0 := hSol
  obtain ⟨v0, v1, nf, tg, sh, el, wr, ou, bh, so1, hS, h46, h48, h50, h52, h54, hB, hO, hsr, hs6⟩ := hSol0
  have r9 : rw 9 = 62 ∨ 234 ≤ rw 9 := row_h hRw (by decide)
  have d90 := hRw.2 0 9 (by decide) (by decide) (by decide)
  refine wq_mono (c_why hX hA hL hG hAi hH60 hP4 hI9 hS h46 h48 h50 h52 h54 hB hO hra hkn hsc hlm hK r9 ⟨hsr, d90⟩ ⟨hc16, hc600, hs6⟩ hlen) ?_
  rintro _ ⟨h2, rL2, cap2, rs2, sc2, v02, v12, nf2, kn2, ks2, fa2, tg2, hp2, sh2, el2, wr2, ou2, bh2, li2, so2, d9, s9, rfl, f, l, c60, c64, crL, c44, c46, c48, c50, c52, c54, c56, crs, p0, p1, p2, p3, p4, p5, p6, p7, p8, al0, al1⟩
  exact cOk_s kx (wFr_at f (sol_no r9 hsr (by decide)) hX) (wU_fx kU (show wFx (fun q => q ∈ [rw 9, 60, 64, 44, 46, 48, 50, 52, 54, 56, rw 0]) h h2 from f) (fun q a b => sol_no r9 hsr b)) ⟨v02, v12, nf2, tg2, sh2, el2, wr2, ou2, bh2, so2, c44, c46, c48, c50, c52, c54, c56, crs, row_up hsr p6 hlen, p4.2.2.1⟩ ⟨kn2, _, ks2, fa2, hp2, li2, c60, c64, crL, Or.inr p0, p3, p4.1, p4.2.1⟩ (wFr_sub f (fun q hq => List.mem_append_left [0, 34, 36, 38, 40] hq)) p5 (zat_lt crL) p6 (zat_lt crs) p7 al0 al1 _
set_option maxHeartbeats 4000000 in
theorem cCall_16 {h : zH} {D S : Nat} {V : cV} {u : Int32} (k : CI h D S V) : wq 117 0 [(0, .ref 0), (1, .int u)] [] h 0 0 (cOk h D S V) := by
  obtain ⟨rw, cp, t, rd, ps, ip, im, ra, sp, so, lk, hd, ht, bl, sd, rt, ll, lg, sv, nm, wy, po, wg, ka, kb, tb, wr9, wa9, pl, ia, ua, pp, us, un, kx, rfl, rfl, rfl⟩ := k
  have kx0 := kx
  obtain ⟨hX, ⟨htt, hrd, hrae⟩, kT, kA, kDr, kU, kZ, k6, kW, kRn, kSn, hRw, hlen⟩ := kx0
  have kA0 := kA
  obtain ⟨hA, hL, hG, hV, hN, hQ, hW, hsc, hlm, hsv, hsp, hway, hra⟩ := kA0
  have kT0 := kT
  obtain ⟨ln9, nx9, kd9, sta9, va9, tld9, b9, a9, hT, hR4⟩ := kT0
  have kU0 := kU
  obtain ⟨hAi, hIa, hP, hP8, hP0, hu1, hu2⟩ := kU0
  have k60 := k6
  obtain ⟨hkn9, hto9, hks9, hfa9, hp9, li9, hH60, hP4, hI9, hkn, hK, hc16, hc600⟩ := k60
  have kZ0 := kZ
  obtain ⟨h78, hSol, hPl, hRa, hRb⟩ := kZ0
  have hSol0 := hSol
  obtain ⟨v0, v1, nf, tg, sh, el, wr, ou, bh, so1, hS, h46, h48, h50, h52, h54, hB, hO, hsr, hs6⟩ := hSol0
  have r9 : rw 9 = 62 ∨ 234 ≤ rw 9 := row_h hRw (by decide)
  have d90 := hRw.2 0 9 (by decide) (by decide) (by decide)
  refine wq_mono (c_near hX hA hL hG hAi hH60 hP4 hI9 hS h46 h48 h50 h52 h54 hB hO hV hra hkn hsc hlm hK r9 ⟨hsr, d90⟩ ⟨hc16, hc600, hs6⟩ hlen) ?_
  rintro _ ⟨h2, rL2, cap2, rs2, sc2, v02, v12, nf2, kn2, ks2, fa2, tg2, hp2, sh2, el2, wr2, ou2, bh2, li2, so2, d9, s9, rfl, f, l, c60, c64, crL, c44, c46, c48, c50, c52, c54, c56, crs, p0, p1, p2, p3, p4, p5, p6, p7, p8, al0, al1⟩
  exact cOk_s kx (wFr_at f (sol_no r9 hsr (by decide)) hX) (wU_fx kU (show wFx (fun q => q ∈ [rw 9, 60, 64, 44, 46, 48, 50, 52, 54, 56, rw 0]) h h2 from f) (fun q a b => sol_no r9 hsr b)) ⟨v02, v12, nf2, tg2, sh2, el2, wr2, ou2, bh2, so2, c44, c46, c48, c50, c52, c54, c56, crs, row_up hsr p6 hlen, p4.2.2.1⟩ ⟨kn2, _, ks2, fa2, hp2, li2, c60, c64, crL, Or.inr p0, p3, p4.1, p4.2.1⟩ (wFr_sub f (fun q hq => List.mem_append_left [0, 34, 36, 38, 40] hq)) p5 (zat_lt crL) p6 (zat_lt crs) p7 al0 al1 _
set_option maxHeartbeats 4000000 in
theorem cCall_17 {h : zH} {D S : Nat} {V : cV}  (k : CI h D S V) : wq 118 0 [(0, .ref 0)] [] h 0 0 (cOk h D S V) := by
  obtain ⟨rw, cp, t, rd, ps, ip, im, ra, sp, so, lk, hd, ht, bl, sd, rt, ll, lg, sv, nm, wy, po, wg, ka, kb, tb, wr9, wa9, pl, ia, ua, pp, us, un, kx, rfl, rfl, rfl⟩ := k
  have kx0 := kx
  obtain ⟨hX, ⟨htt, hrd, hrae⟩, kT, kA, kDr, kU, kZ, k6, kW, kRn, kSn, hRw, hlen⟩ := kx0
  have kA0 := kA
  obtain ⟨hA, hL, hG, hV, hN, hQ, hW, hsc, hlm, hsv, hsp, hway, hra⟩ := kA0
  have kT0 := kT
  obtain ⟨ln9, nx9, kd9, sta9, va9, tld9, b9, a9, hT, hR4⟩ := kT0
  have kU0 := kU
  obtain ⟨hAi, hIa, hP, hP8, hP0, hu1, hu2⟩ := kU0
  have k60 := k6
  obtain ⟨hkn9, hto9, hks9, hfa9, hp9, li9, hH60, hP4, hI9, hkn, hK, hc16, hc600⟩ := k60
  have kZ0 := kZ
  obtain ⟨h78, hSol, hPl, hRa, hRb⟩ := kZ0
  have hSol0 := hSol
  obtain ⟨v0, v1, nf, tg, sh, el, wr, ou, bh, so1, hS, h46, h48, h50, h52, h54, hB, hO, hsr, hs6⟩ := hSol0
  have r9 : rw 9 = 62 ∨ 234 ≤ rw 9 := row_h hRw (by decide)
  have d90 := hRw.2 0 9 (by decide) (by decide) (by decide)
  refine wq_mono (c_clrs hX hA hL hG hAi hH60 hP4 hI9 hS h46 h48 h50 h52 h54 hB hO hra hkn hsc hlm hK r9 ⟨hsr, d90⟩ ⟨hc16, hc600, hs6⟩ hlen) ?_
  rintro _ ⟨h2, rL2, cap2, rs2, sc2, v02, v12, nf2, kn2, ks2, fa2, tg2, hp2, sh2, el2, wr2, ou2, bh2, li2, so2, d9, s9, rfl, f, l, c60, c64, crL, c44, c46, c48, c50, c52, c54, c56, crs, p0, p1, p2, p3, p4, p5, p6, p7, p8, al0, al1⟩
  exact cOk_s kx (wFr_at f (sol_no r9 hsr (by decide)) hX) (wU_fx kU (show wFx (fun q => q ∈ [rw 9, 60, 64, 44, 46, 48, 50, 52, 54, 56, rw 0]) h h2 from f) (fun q a b => sol_no r9 hsr b)) ⟨v02, v12, nf2, tg2, sh2, el2, wr2, ou2, bh2, so2, c44, c46, c48, c50, c52, c54, c56, crs, row_up hsr p6 hlen, p4.2.2.1⟩ ⟨kn2, _, ks2, fa2, hp2, li2, c60, c64, crL, Or.inr p0, p3, p4.1, p4.2.1⟩ (wFr_sub f (fun q hq => List.mem_append_left [0, 34, 36, 38, 40] hq)) p5 (zat_lt crL) p6 (zat_lt crs) p7 al0 al1 _
