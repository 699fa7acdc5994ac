/-! The class: text at every state. -/
theorem wArm_fy {C : Nat → Prop} {h h2 : zH} {ra sp so : Nat} {lk hd ht bl sd : Int32} {rt : Int64} {ll lg sv nm wy : List Int32} {po : List Int64} (k : wArm h ra sp so lk hd ht bl sd rt ll lg sv nm wy po) (f : wFx C h h2) (hC : ∀ q, ra ≤ q → q < ra + 14 → ¬ C q) : wArm h2 ra sp so lk hd ht bl sd rt ll lg sv nm wy po := by
  obtain ⟨a1, a2, a3, a4, a5, a6, a7, b1, b2, b3, b4, b5, b6⟩ := k
  exact ⟨wFx_at f (hC _ (by omega) (by omega)) a1, wFx_at f (hC _ (by omega) (by omega)) a2, wFx_at f (hC _ (by omega) (by omega)) a3, wFx_at f (hC _ (by omega) (by omega)) a4, wFx_at f (hC _ (by omega) (by omega)) a5, wFx_at f (hC _ (by omega) (by omega)) a6, wFx_at f (hC _ (by omega) (by omega)) a7, b1, b2, b3, b4, b5, b6⟩
noncomputable def txC (rd q : Nat) : Prop := q = 0 ∨ q = 4 ∨ (rd ≤ q ∧ q < rd + 14)
noncomputable def txD (rd q : Nat) : Prop := txC rd q ∨ q = 34 ∨ q = 36 ∨ q = 60 ∨ q = 74 ∨ q = 80 ∨ q = 88 ∨ q = 150
theorem txC_m {rd : Nat} : ∀ q ∈ [0, 4, rd, rd + 2, rd + 4, rd + 6, rd + 8, rd + 10, rd + 12], txC rd q := by
  intro q hq
  simp only [List.mem_cons, List.not_mem_nil, or_false] at hq
  unfold txC
  rcases hq with e | e | e | e | e | e | e | e | e <;> omega
theorem txD_m {rd : Nat} : ∀ q ∈ [0, 34, 36, 60, 74, 80, 88, 150, 4, rd, rd + 2, rd + 4, rd + 6, rd + 8, rd + 10, rd + 12], txD rd q := by
  intro q hq
  simp only [List.mem_cons, List.not_mem_nil, or_false] at hq
  unfold txD txC
  rcases hq with e | e | e | e | e | e | e | e | e | e | e | e | e | e | e | e <;> omega
theorem txC_n {rd q : Nat} (hrd : rd = 6 ∨ rd = 20) (h : 34 ≤ q ∨ q = 2 ∨ (26 - rd ≤ q ∧ q < 26 - rd + 14)) : ¬ txC rd q := by
  unfold txC
  omega
theorem txD_n {rd q : Nat} (hrd : rd = 6 ∨ rd = 20) (h : 34 ≤ q ∨ q = 2 ∨ (26 - rd ≤ q ∧ q < 26 - rd + 14)) (h1 : q ≠ 34 ∧ q ≠ 36 ∧ q ≠ 60 ∧ q ≠ 74 ∧ q ≠ 80 ∧ q ≠ 88 ∧ q ≠ 150) : ¬ txD rd q := by
  rintro (a | a)
  · exact txC_n hrd h a
  · omega
theorem txC_c {rd q : Nat} (hrd : rd = 6 ∨ rd = 20) (h : txC rd q) : cC q := by
  unfold txC at h
  exact Or.inl (by omega)
theorem txD_c {rd q : Nat} (hrd : rd = 6 ∨ rd = 20) (h : txD rd q) : cC q := by
  rcases h with a | a
  · exact txC_c hrd a
  · exact Or.inl (by omega)
theorem row_34 {rw : Nat → Nat} {n : Nat} (k : wRws rw n) {i : Nat} (hi : i < 17) : 34 ≤ rw i ∧ rw i ≠ 34 ∧ rw i ≠ 36 ∧ rw i ≠ 60 ∧ rw i ≠ 74 ∧ rw i ≠ 80 ∧ rw i ≠ 88 ∧ rw i ≠ 150 := by
  have e1 := (k.1 i hi).1
  have e2 : ∀ i, i < 17 → 34 ≤ rwH i ∧ rwH i ≠ 34 ∧ rwH i ≠ 36 ∧ rwH i ≠ 60 ∧ rwH i ≠ 74 ∧ rwH i ≠ 80 ∧ rwH i ≠ 88 ∧ rwH i ≠ 150 := by decide
  have e3 := e2 i hi
  rcases e1 with e | e
  · rw [e]; exact e3
  · omega
set_option maxHeartbeats 4000000 in
theorem cCall_1 {h : zH} {D S : Nat} {V : cV} {n : Int32} (k : CI h D S V) : wq 102 0 [(0, .ref 0), (1, .int n)] [] h 0 0 (fun r => ∃ (a : Int32) (V2 : cV), vTx V n a V2 ∧ cOkA a h D S V2 r) := by
  obtain ⟨rw, cp, t, rd, ps, ip, im, ra, sp, so, lk, hd, ht, bl, sd, rt, ll, lg, sv, nm, wy, po, wg, ka, kb, tb, wr9, wa9, pl, ia, ua, pp, us, un, kx, rfl, rfl, rfl⟩ := k
  have kx0 := kx
  obtain ⟨hX, ⟨htt, hrd, hrae⟩, kT, kA, kDr, kU, kZ, k6, kW, kRn, kSn, hRw, hlen⟩ := kx0
  have kA0 := kA
  obtain ⟨hA, hL, hG, hV, hN, hQ, hW, hsc, hlm, hsv, hsp, hway, hra⟩ := kA0
  have kT0 := kT
  obtain ⟨ln9, nx9, kd9, sta9, va9, tld9, b9, a9, hT, hR4⟩ := kT0
  have kU0 := kU
  obtain ⟨hAi, hIa, hP, hP8, hP0, hu1, hu2⟩ := kU0
  by_cases hn9 : n.toInt < 0 ∨ t < n.toInt
  · refine wq_mono (c_txN hX hn9 htt) ?_
    rintro _ rfl
    exact ⟨_, _, Or.inl ⟨hn9, rfl, rfl⟩, rfl, cOk_i kx _⟩
  · obtain ⟨ln, hl9, hl10⟩ : ∃ ln : Nat, n = nI ln ∧ ln ≤ t := ⟨n.toNatClampNeg, nI_cl (by omega), by show n.toInt.toNat ≤ t; omega⟩
    subst hl9
    obtain ⟨dlk, dhd, dht, dbl, dsd, dsp9, dso9, drt, dll, dlg, dsv, dnm, dwy, dpo, x1, x2, x3, x4, x5, x6, x7⟩ := kDr
    obtain ⟨h78, hSol, hPl, hRa, hRb⟩ := kZ
    obtain ⟨ob, pr, sr, fw, al9, fi, hpl, lf0, lf1, to, kn, ks, fa, hp, li, e74, e96, e76, hHs, hto9, eP, eS, c11, c12, hf⟩ := hPl
    obtain ⟨fra, T9a, sta, pka, cna, r80, rSa, r82, r84, rNa, rNb, _⟩ := hRa
    obtain ⟨frb, T9b, stb, pkb, cnb, r88, rSb, r90, r92, rMa, rMb, _⟩ := hRb
    obtain ⟨hkn, hto, hks, hfa, hp6, li6, h60, h64, hL6, hk01, hHO, h16, h600⟩ := k6
    obtain ⟨fi9, kn9, fw9, fr9, gp, lf, vi, hRo, hGp, hLf, hVi, hpw, hNL4, hf01, hfl⟩ := kRn
    have nr : ∀ i, i < 17 → ¬ txD rd (rw i) := fun i hi => txD_n hrd (Or.inl (row_34 hRw hi).1) (row_34 hRw hi).2
    have nrC : ∀ i, i < 17 → ¬ txC rd (rw i) := fun i hi => txC_n hrd (Or.inl (row_34 hRw hi).1)
    obtain ⟨T9, hT9⟩ : ∃ x, x = (txF tb ln (ln + 2 - 0 + 1) 0 0 (-1) 0 kd9 sta9 va9 0 9 4 10 2 0 fgRt (fgL dll) (fgG dlg) (fgV dsv) 0 dnm dpo 0 dwy) := ⟨_, rfl⟩
    have hQ9 : txH tb ln kd9 sta9 va9 dll dlg dsv dnm dwy dpo T9 := hT9
    refine c_text hX hR4 hT x1 x2 x3 x4 x5 x6 x7 hP hAi h60 e74 r80 r88 hRo hrd hrae ⟨hl10, htt⟩ hT9 ?_ ?_
    · intro h2 f l c0 c4 cA cL cG cV cN cQ cW p0
      clear hT9
      have g : wFx (txC rd) h h2 := wFx_of f (fun q hq => Or.inl (txC_m q hq))
      have nc : ∀ q, 34 ≤ q → ¬ txC rd q := fun q hq => txC_n hrd (Or.inl hq)
      have kx0 := kx
      obtain ⟨_, _, _, mA, _, mU, mZ, m6, mW, mRn, mSn, _, _⟩ := kx0
      exact ⟨_, _, Or.inr ⟨ln, rfl, hl10, htt, kd9, sta9, va9, dll, dlg, dsv, dnm, dwy, dpo, T9, hQ9, Or.inl ⟨p0, rfl, rfl⟩⟩, rfl, _, h2, 0, 0, _, _, rfl, ⟨rw, cp, 0, rd, ps, ip, im, ra, sp, so, lk, hd, ht, bl, sd, rt, ll, lg, sv, nm, wy, po, wg, ka, kb, _, _, _, _, _, _, _, _, _, ⟨c0, ⟨by decide, hrd, hrae⟩, ⟨_, _, _, _, _, _, _, _, wFx_at g (txC_n hrd (Or.inr (Or.inl rfl))) hT, c4⟩, wArm_fy mA g (fun q a b => txC_n hrd (Or.inr (Or.inr ⟨by omega, by omega⟩))), ⟨_, _, _, _, _, _, _, _, _, _, _, _, _, _, cA, cL, cG, cV, cN, cQ, cW⟩, wU_fx mU g (fun q a _ => nc q a), wPz_fx mZ g (fun q a => nc q (by omega)) (fun i a => nrC i (by omega)), wH6_fx m6 g (fun q a _ => nc q (by omega)) (nrC 9 (by decide)), wDw_fx mW g (fun q a _ => nc q (by omega)) (nrC 10 (by decide)), wRn_fx mRn g (fun q a _ => nc q (by omega)) (nrC 15 (by decide)), wSn_fx mSn g (nc 158 (by decide)) (nrC 16 (by decide)), wRws_le hRw g.1, Nat.le_trans hlen g.1⟩, rfl, rfl, rfl⟩, wFx_mono g (fun q hq => txC_c hrd hq), Nat.le_of_eq (Nat.zero_add _), Nat.le_of_eq (Nat.zero_add _)⟩
    · intro h2 f l c0 c34 c36 c60 c74 c80 c88 c150 c4 cA cL cG cV cN cQ cW p0 w0 w1 w2 w3 w4
      clear hT9
      have g : wFx (txD rd) h h2 := wFx_of f (fun q hq => Or.inl (txD_m q hq))
      have nc : ∀ q, 34 ≤ q → q ≠ 34 ∧ q ≠ 36 ∧ q ≠ 60 ∧ q ≠ 74 ∧ q ≠ 80 ∧ q ≠ 88 ∧ q ≠ 150 → ¬ txD rd q := fun q hq h1 => txD_n hrd (Or.inl hq) h1
      have na : ∀ q, ra ≤ q → q < ra + 14 → ¬ txD rd q := fun q a b => txD_n hrd (Or.inr (Or.inr ⟨by omega, by omega⟩)) ⟨by omega, by omega, by omega, by omega, by omega, by omega, by omega⟩
      have kx0 := kx
      obtain ⟨_, _, _, _, _, mU, mZ, m6, mW, mRn, mSn, _, _⟩ := kx0
      have nC : ∀ q, (34 ≤ q ∧ q ≠ 34 ∧ q ≠ 36 ∧ q ≠ 60 ∧ q ≠ 74 ∧ q ≠ 80 ∧ q ≠ 88 ∧ q ≠ 150) → ¬ txD rd q := fun q hq => nc q hq.1 hq.2
      exact ⟨_, _, Or.inr ⟨ln, rfl, hl10, htt, kd9, sta9, va9, dll, dlg, dsv, dnm, dwy, dpo, T9, hQ9, Or.inr ⟨p0, rfl, rfl⟩⟩, rfl, _, h2, 0, 0, _, _, rfl, ⟨rw, cp, 0, ra, _, ip, 0, rd, _, _, _, _, _, _, _, _, _, _, _, _, _, _, 0, 0, 0, _, _, _, _, _, _, _, _, _, ⟨c0, ⟨by decide, by omega, by omega⟩, ⟨_, _, _, _, _, _, _, _, wFx_at g (txD_n hrd (Or.inr (Or.inl rfl)) (by decide)) hT, c4⟩, ⟨cA, cL, cG, cV, cN, cQ, cW, w0, w1, w2, w3, w4, hrd⟩, ⟨lk, hd, ht, bl, sd, _, _, rt, ll, lg, sv, nm, wy, po, wFx_at g (na _ (by omega) (by omega)) hA, wFx_at g (na _ (by omega) (by omega)) hL, wFx_at g (na _ (by omega) (by omega)) hG, wFx_at g (na _ (by omega) (by omega)) hV, wFx_at g (na _ (by omega) (by omega)) hN, wFx_at g (na _ (by omega) (by omega)) hQ, wFx_at g (na _ (by omega) (by omega)) hW⟩, ⟨c34, wFx_at g (nC _ (by decide)) hIa, c36, wFx_at g (nC _ (by decide)) hP8, wFx_at g (nC _ (by decide)) hP0, by decide, by decide⟩, ⟨wFx_at g (nC _ (by decide)) h78, wSol_fx hSol g (fun q a b => nC q (by omega)) (nr 0 (by decide)), ⟨ob, 0, 0, fw, al9, fi, hpl, lf0, lf1, to, kn, ks, fa, hp, li, c74, wFx_at g (nC _ (by decide)) e96, wFx_at g (nC _ (by decide)) e76, wHs_fx hHs g (fun q a b => nC q (by omega)) (fun w hw => nr (w + 1) (by omega)), hto9, wFx_at g (nr 11 (by decide)) eP, wFx_at g (nr 12 (by decide)) eS, c11, c12, Or.inl ⟨rfl, rfl, rfl⟩⟩, ⟨fra, T9a, sta, pka, cna, c80, wFx_at g (nr 13 (by decide)) rSa, wFx_at g (nC _ (by decide)) r82, wFx_at g (nC _ (by decide)) r84, rNa, rNb, fun hne => absurd rfl hne⟩, ⟨frb, T9b, stb, pkb, cnb, c88, wFx_at g (nr 14 (by decide)) rSb, wFx_at g (nC _ (by decide)) r90, wFx_at g (nC _ (by decide)) r92, rMa, rMb, fun hne => absurd rfl hne⟩⟩, ⟨0, hto, hks, hfa, hp6, li6, c60, wFx_at g (nC _ (by decide)) h64, wFx_at g (nr 9 (by decide)) hL6, Or.inl rfl, fun hne => absurd rfl hne, h16, h600⟩, wDw_fx mW g (fun q a b => nC q (by omega)) (nr 10 (by decide)), ⟨0, 0, fw9, fr9, gp, lf, vi, c150, wFx_at g (nC _ (by decide)) hGp, wFx_at g (nr 15 (by decide)) hLf, wFx_at g (nC _ (by decide)) hVi, hpw, hNL4, Or.inl rfl, fun h01 => absurd h01 (by decide)⟩, wSn_fx mSn g (nC 158 (by decide)) (nr 16 (by decide)), wRws_le hRw g.1, Nat.le_trans hlen g.1⟩, rfl, rfl, rfl⟩, wFx_mono g (fun q hq => txD_c hrd hq), Nat.le_of_eq (Nat.zero_add _), Nat.le_of_eq (Nat.zero_add _)⟩
