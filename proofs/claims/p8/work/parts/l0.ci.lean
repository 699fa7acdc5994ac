/-! The class's state between calls, all of it. -/
/-- what the class's calls may change -/
noncomputable def cC (q : Nat) : Prop := q < 162 ∨ 234 ≤ q
noncomputable def wT (h : zH) (tb : List Int32) (wr9 wa9 : Int32) : Prop := ∃ (ln9 nx9 kd sta va tld9 : Int32) (b9 a9 : Value), zat h 2 = some (.inl (1, 700, tb)) ∧ zat h 4 = some (.inr (.inr (.inr (4, [.int wr9, .int wa9, b9, .int ln9, .int nx9, .int kd, .int sta, .int va, .int tld9, a9]))))
noncomputable def wD (h : zH) (rd : Nat) : Prop := ∃ (lk hd ht bl sd sp9 so9 : Int32) (rt : Int64) (ll lg sv nm wy : List Int32) (po : List Int64), zat h rd = some (.inr (.inr (.inr (0, [.int lk, .int hd, .int ht, .int bl, .int sd, .long rt, .ref (rd + 2), .ref (rd + 4), .ref (rd + 6), .int sp9, .ref (rd + 8), .ref (rd + 10), .int so9, .ref (rd + 12)])))) ∧ zat h (rd + 2) = some (.inl (0, 6, ll)) ∧ zat h (rd + 4) = some (.inl (0, 6, lg)) ∧ zat h (rd + 6) = some (.inl (0, 6, sv)) ∧ zat h (rd + 8) = some (.inl (0, 8, nm)) ∧ zat h (rd + 10) = some (.inr (.inl (8, po))) ∧ zat h (rd + 12) = some (.inl (0, 10, wy))
noncomputable def wU (h : zH) (pl ia ua : List Int32) (pp : List Int64) (us un : Nat) : Prop := zat h 34 = some (.inl (0, 6, pl)) ∧ zat h 42 = some (.inl (0, 6, ia)) ∧ zat h 36 = some (.inr (.inr (.inr (2, [.int (nI us), .int (nI un), .ref 38, .ref 40])))) ∧ zat h 38 = some (.inr (.inl (20, pp))) ∧ zat h 40 = some (.inl (0, 120, ua)) ∧ un < 20 ∧ us ≤ 20
noncomputable def wH6 (h : zH) (ll lg : List Int32) (lk hd ht : Int32) (rL cap : Nat) : Prop := ∃ (kn to ks fa : Int32) (hp : List Int32) (li : List Int64), zat h 60 = some (.inr (.inr (.inr (1, [.int kn, .int to, .ref rL, .ref 64, .int ks, .int fa])))) ∧ zat h 64 = some (.inl (0, 6, hp)) ∧ zat h rL = some (.inr (.inl (cap, li))) ∧ (kn = 0 ∨ kn = 1) ∧ wHO ll lg lk hd ht kn to cap hp li ∧ 16 ≤ cap ∧ cap ≤ 600
noncomputable def wDw (h : zH) (rL cap : Nat) : Prop := ∃ (kn to ks fa : Int32) (hp dp : List Int32) (li : List Int64), zat h 66 = some (.inr (.inr (.inr (1, [.int kn, .int to, .ref rL, .ref 70, .int ks, .int fa])))) ∧ zat h 70 = some (.inl (0, 6, hp)) ∧ zat h rL = some (.inr (.inl (cap, li))) ∧ zat h 72 = some (.inl (0, 6, dp)) ∧ 16 ≤ cap ∧ cap ≤ 600
noncomputable def wRn (h : zH) (ra sp : Nat) (sv : List Int32) (po : List Int64) (rf NL : Nat) : Prop := ∃ (fi9 kn9 fw9 : Int32) (fr9 : Int64) (gp lf vi : List Int32), zat h 150 = some (.inr (.inr (.inr (5, [.ref 152, .ref ra, .ref 154, .ref rf, .int fi9, .int kn9, .long fr9, .int fw9])))) ∧ zat h 154 = some (.inl (0, 64, gp)) ∧ zat h rf = some (.inl (0, NL, lf)) ∧ zat h 152 = some (.inl (0, 8, vi)) ∧ wPw NL ∧ NL ≤ 4096 ∧ (fi9 = 0 ∨ fi9 = 1) ∧ (fi9 = 1 → wFil sp sv po gp lf ∧ 2 ^ sp * 8 ≤ NL)
noncomputable def wSn (h : zH) (rz cz : Nat) : Prop := ∃ (tl : List Int32), zat h 158 = some (.inr (.inr (.inr (8, [.ref rz])))) ∧ zat h rz = some (.inl (0, cz, tl)) ∧ (cz = 0 ∨ cz = 4096)
theorem wT_fx {C : Nat → Prop} {h h2 : zH} {tb : List Int32} {wr9 wa9 : Int32} (k : wT h tb wr9 wa9) (f : wFx C h h2) (h1 : ¬ C 2) (h4 : ¬ C 4) : wT h2 tb wr9 wa9 := by
  obtain ⟨a3, a4, a5, a6, a7, a8, b9, a9, c1, c2⟩ := k
  exact ⟨a3, a4, a5, a6, a7, a8, b9, a9, wFx_at f h1 c1, wFx_at f h4 c2⟩
theorem wD_fx {C : Nat → Prop} {h h2 : zH} {rd : Nat} (k : wD h rd) (f : wFx C h h2) (hr : rd = 6 ∨ rd = 20) (hC : ∀ q, 6 ≤ q → q < 34 → ¬ C q) : wD h2 rd := by
  obtain ⟨lk, hd, ht, bl, sd, sp9, so9, rt, ll, lg, sv, nm, wy, po, a1, a2, a3, a4, a5, a6, a7⟩ := k
  exact ⟨lk, hd, ht, bl, sd, sp9, so9, rt, ll, lg, sv, nm, wy, po, wFx_at f (hC _ (by omega) (by omega)) a1, wFx_at f (hC _ (by omega) (by omega)) a2, wFx_at f (hC _ (by omega) (by omega)) a3, wFx_at f (hC _ (by omega) (by omega)) a4, wFx_at f (hC _ (by omega) (by omega)) a5, wFx_at f (hC _ (by omega) (by omega)) a6, wFx_at f (hC _ (by omega) (by omega)) a7⟩
theorem wU_fx {C : Nat → Prop} {h h2 : zH} {pl ia ua : List Int32} {pp : List Int64} {us un : Nat} (k : wU h pl ia ua pp us un) (f : wFx C h h2) (hC : ∀ q, 34 ≤ q → q < 44 → ¬ C q) : wU h2 pl ia ua pp us un := by
  obtain ⟨a1, a2, a3, a4, a5, a6⟩ := k
  exact ⟨wFx_at f (hC _ (by decide) (by decide)) a1, wFx_at f (hC _ (by decide) (by decide)) a2, wFx_at f (hC _ (by decide) (by decide)) a3, wFx_at f (hC _ (by decide) (by decide)) a4, wFx_at f (hC _ (by decide) (by decide)) a5, a6⟩
theorem wH6_fx {C : Nat → Prop} {h h2 : zH} {ll lg : List Int32} {lk hd ht : Int32} {rL cap : Nat} (k : wH6 h ll lg lk hd ht rL cap) (f : wFx C h h2) (hC : ∀ q, 60 ≤ q → q < 66 → ¬ C q) (hr : ¬ C rL) : wH6 h2 ll lg lk hd ht rL cap := by
  obtain ⟨kn, to, ks, fa, hp, li, a1, a2, a3, a4⟩ := k
  exact ⟨kn, to, ks, fa, hp, li, wFx_at f (hC _ (by decide) (by decide)) a1, wFx_at f (hC _ (by decide) (by decide)) a2, wFx_at f hr a3, a4⟩
theorem wDw_fx {C : Nat → Prop} {h h2 : zH} {rL cap : Nat} (k : wDw h rL cap) (f : wFx C h h2) (hC : ∀ q, 66 ≤ q → q < 74 → ¬ C q) (hr : ¬ C rL) : wDw h2 rL cap := by
  obtain ⟨kn, to, ks, fa, hp, dp, li, a1, a2, a3, a4, a5⟩ := k
  exact ⟨kn, to, ks, fa, hp, dp, li, wFx_at f (hC _ (by decide) (by decide)) a1, wFx_at f (hC _ (by decide) (by decide)) a2, wFx_at f hr a3, wFx_at f (hC _ (by decide) (by decide)) a4, a5⟩
theorem wRn_fx {C : Nat → Prop} {h h2 : zH} {ra sp : Nat} {sv : List Int32} {po : List Int64} {rf NL : Nat} (k : wRn h ra sp sv po rf NL) (f : wFx C h h2) (hC : ∀ q, 150 ≤ q → q < 158 → ¬ C q) (hr : ¬ C rf) : wRn h2 ra sp sv po rf NL := by
  obtain ⟨fi9, kn9, fw9, fr9, gp, lf, vi, a1, a2, a3, a4, a5⟩ := k
  exact ⟨fi9, kn9, fw9, fr9, gp, lf, vi, wFx_at f (hC _ (by decide) (by decide)) a1, wFx_at f (hC _ (by decide) (by decide)) a2, wFx_at f hr a3, wFx_at f (hC _ (by decide) (by decide)) a4, a5⟩
theorem wSn_fx {C : Nat → Prop} {h h2 : zH} {rz cz : Nat} (k : wSn h rz cz) (f : wFx C h h2) (hC : ¬ C 158) (hr : ¬ C rz) : wSn h2 rz cz := by
  obtain ⟨tl, a1, a2, a3⟩ := k
  exact ⟨tl, wFx_at f hC a1, wFx_at f hr a2, a3⟩
/-- the class's state, its pieces by their parameters -/
noncomputable def CIx (h : zH) (rw cp : Nat → Nat) (t rd : Nat) (ps ip : Int64) (im : Int32) (ra sp so : Nat) (lk hd ht bl sd : Int32) (rt : Int64) (ll lg sv nm wy : List Int32) (po : List Int64) (wg ka kb : Int32) (tb : List Int32) (wr9 wa9 : Int32) (pl ia ua : List Int32) (pp : List Int64) (us un : Nat) : Prop := zat h 0 = some (.inr (.inr (.inr (9, [.ref 2, .int (nI t), .ref 4, .ref ra, .ref rd, .long ps, .ref 34, .ref 36, .int im, .long ip, .ref 42, .ref 44, .ref 60, .ref 66, .ref 72, .ref 74, .ref 150, .ref 158])))) ∧ (t ≤ 700 ∧ (rd = 6 ∨ rd = 20) ∧ ra = 26 - rd) ∧ wT h tb wr9 wa9 ∧ wArm h ra sp so lk hd ht bl sd rt ll lg sv nm wy po ∧ wD h rd ∧ wU h pl ia ua pp us un ∧ wPz h ra so lk hd ht ll lg wy sv po wg ka kb rw cp ∧ wH6 h ll lg lk hd ht (rw 9) (cp 9) ∧ wDw h (rw 10) (cp 10) ∧ wRn h ra sp sv po (rw 15) (cp 15) ∧ wSn h (rw 16) (cp 16) ∧ wRws rw h.length ∧ 117 ≤ h.length
/-- what is told of the class's state: what the tape holds, the fault, whether there is an image, the arm -/
noncomputable abbrev cV0 : Type := Nat × List Int32 × Int32 × Int32 × Int32 × Nat × Nat × Int32 × Int32 × Int32 × Int32 × Int32 × Int64 × List Int32 × List Int32 × List Int32 × List Int32 × List Int32 × List Int64
/-- NOW, the image's, how many can be undone, where the next is put, AIM, the image's, the rows -/
noncomputable abbrev cX : Type := Int64 × Int64 × Nat × Nat × List Int32 × List Int32 × List Int64 × List Int32
noncomputable abbrev cV : Type := cV0 × cX
/-- the class's state; D, S: what its rows were charged for; V: the view -/
noncomputable def CI (h : zH) (D S : Nat) (V : cV) : Prop := ∃ (rw cp : Nat → Nat) (t rd : Nat) (ps ip : Int64) (im : Int32) (ra sp so : Nat) (lk hd ht bl sd : Int32) (rt : Int64) (ll lg sv nm wy : List Int32) (po : List Int64) (wg ka kb : Int32) (tb : List Int32) (wr9 wa9 : Int32) (pl ia ua : List Int32) (pp : List Int64) (us un : Nat), CIx h rw cp t rd ps ip im ra sp so lk hd ht bl sd rt ll lg sv nm wy po wg ka kb tb wr9 wa9 pl ia ua pp us un ∧ D = kD cp ∧ S = kS cp ∧ V = ((t, tb, wr9, wa9, im, sp, so, lk, hd, ht, bl, sd, rt, ll, lg, sv, nm, wy, po), (ps, ip, us, un, pl, ia, pp, ua))
/-- what a call of the class leaves -/
noncomputable def cOk (h : zH) (D S : Nat) (V : cV) (r : zR) : Prop := ∃ (v : Int32) (h2 : zH) (d s D2 S2 : Nat), r = (some (.int v), h2, d, s) ∧ CI h2 D2 S2 V ∧ wFx cC h h2 ∧ d + D ≤ D2 ∧ s + S ≤ S2
noncomputable def cOkL (h : zH) (D S : Nat) (V : cV) (r : zR) : Prop := ∃ (v : Int64) (h2 : zH) (d s D2 S2 : Nat), r = (some (.long v), h2, d, s) ∧ CI h2 D2 S2 V ∧ wFx cC h h2 ∧ d + D ≤ D2 ∧ s + S ≤ S2
theorem jAlw_b {ll lg : List Int32} (h : wLm ll lg) {j : Nat} (hj : j < 6) {v : Int32} (p : jAlw ll lg j v ≠ 0) : -64 ≤ v.toInt ∧ v.toInt ≤ 99 := by
  have e := h j hj
  have z : ∀ j, j < 6 → -64 ≤ (zLow.getD j 0).toInt ∧ (zHigh.getD j 0).toInt ≤ 99 := by decide
  have z2 := z j hj
  unfold jAlw at p
  split at p
  · exact absurd rfl p
  · split at p
    · exact absurd rfl p
    · omega
theorem CI_mk {h h2 : zH} {rw cp rw2 cp2 : Nat → Nat} {t rd : Nat} {ps ip : Int64} {im : Int32} {ra sp so : Nat} {lk hd ht bl sd : Int32} {rt : Int64} {ll lg sv nm wy : List Int32} {po : List Int64} {wg ka kb : Int32} {tb : List Int32} {wr9 wa9 : Int32} {pl ia ua : List Int32} {pp : List Int64} {us un : Nat} {d s : Nat} (k : CIx h2 rw2 cp2 t rd ps ip im ra sp so lk hd ht bl sd rt ll lg sv nm wy po wg ka kb tb wr9 wa9 pl ia ua pp us un) (hd9 : d + kD cp ≤ kD cp2) (hs9 : s + kS cp ≤ kS cp2) : ∃ D2 S2, CI h2 D2 S2 ((t, tb, wr9, wa9, im, sp, so, lk, hd, ht, bl, sd, rt, ll, lg, sv, nm, wy, po), (ps, ip, us, un, pl, ia, pp, ua)) ∧ d + kD cp ≤ D2 ∧ s + kS cp ≤ S2 := ⟨_, _, ⟨rw2, cp2, _, rd, ps, ip, im, ra, sp, so, lk, hd, ht, bl, sd, rt, ll, lg, sv, nm, wy, po, wg, ka, kb, _, _, _, _, _, _, _, _, _, k, rfl, rfl, rfl⟩, hd9, hs9⟩
theorem cOk_i {h : zH} {rw cp : Nat → Nat} {t rd : Nat} {ps ip : Int64} {im : Int32} {ra sp so : Nat} {lk hd ht bl sd : Int32} {rt : Int64} {ll lg sv nm wy : List Int32} {po : List Int64} {wg ka kb : Int32} {tb : List Int32} {wr9 wa9 : Int32} {pl ia ua : List Int32} {pp : List Int64} {us un : Nat} (k : CIx h rw cp t rd ps ip im ra sp so lk hd ht bl sd rt ll lg sv nm wy po wg ka kb tb wr9 wa9 pl ia ua pp us un) (v : Int32) : cOk h (kD cp) (kS cp) ((t, tb, wr9, wa9, im, sp, so, lk, hd, ht, bl, sd, rt, ll, lg, sv, nm, wy, po), (ps, ip, us, un, pl, ia, pp, ua)) (some (.int v), h, 0, 0) := ⟨v, h, 0, 0, _, _, rfl, ⟨rw, cp, _, rd, ps, ip, im, ra, sp, so, lk, hd, ht, bl, sd, rt, ll, lg, sv, nm, wy, po, wg, ka, kb, _, _, _, _, _, _, _, _, _, k, rfl, rfl, rfl⟩, wFx_rf _ _, Nat.le_of_eq (Nat.zero_add _), Nat.le_of_eq (Nat.zero_add _)⟩
theorem cOk_l {h : zH} {rw cp : Nat → Nat} {t rd : Nat} {ps ip : Int64} {im : Int32} {ra sp so : Nat} {lk hd ht bl sd : Int32} {rt : Int64} {ll lg sv nm wy : List Int32} {po : List Int64} {wg ka kb : Int32} {tb : List Int32} {wr9 wa9 : Int32} {pl ia ua : List Int32} {pp : List Int64} {us un : Nat} (k : CIx h rw cp t rd ps ip im ra sp so lk hd ht bl sd rt ll lg sv nm wy po wg ka kb tb wr9 wa9 pl ia ua pp us un) (v : Int64) : cOkL h (kD cp) (kS cp) ((t, tb, wr9, wa9, im, sp, so, lk, hd, ht, bl, sd, rt, ll, lg, sv, nm, wy, po), (ps, ip, us, un, pl, ia, pp, ua)) (some (.long v), h, 0, 0) := ⟨v, h, 0, 0, _, _, rfl, ⟨rw, cp, _, rd, ps, ip, im, ra, sp, so, lk, hd, ht, bl, sd, rt, ll, lg, sv, nm, wy, po, wg, ka, kb, _, _, _, _, _, _, _, _, _, k, rfl, rfl, rfl⟩, wFx_rf _ _, Nat.le_of_eq (Nat.zero_add _), Nat.le_of_eq (Nat.zero_add _)⟩
/-- all rows lie in the class's part -/
theorem row_c {rw : Nat → Nat} {n : Nat} (k : wRws rw n) {i : Nat} (hi : i < 17) : cC (rw i) := by
  have e1 := (k.1 i hi).1
  have e2 : ∀ i, i < 17 → rwH i < 162 := by decide
  have e3 := e2 i hi
  unfold cC
  omega
/-- where a row may lie -/
theorem row_h {rw : Nat → Nat} {n : Nat} (k : wRws rw n) {i : Nat} (hi : i < 17) : rw i = rwH i ∨ 234 ≤ rw i := (k.1 i hi).1
/-- the state stands while cells alone change that it holds none of -/
theorem CIx_fx {C : Nat → Prop} {h h2 : zH} {rw cp : Nat → Nat} {t rd : Nat} {ps ip : Int64} {im : Int32} {ra sp so : Nat} {lk hd ht bl sd : Int32} {rt : Int64} {ll lg sv nm wy : List Int32} {po : List Int64} {wg ka kb : Int32} {tb : List Int32} {wr9 wa9 : Int32} {pl ia ua : List Int32} {pp : List Int64} {us un : Nat} (k : CIx h rw cp t rd ps ip im ra sp so lk hd ht bl sd rt ll lg sv nm wy po wg ka kb tb wr9 wa9 pl ia ua pp us un) (f : wFx C h h2) (hC : ∀ q, q < 162 ∨ 234 ≤ q → ¬ C q) : CIx h2 rw cp t rd ps ip im ra sp so lk hd ht bl sd rt ll lg sv nm wy po wg ka kb tb wr9 wa9 pl ia ua pp us un := by
  obtain ⟨k0, kt, k2, k3, k4, k5, k6, k7, k8, k9, k10, k11, k12⟩ := k
  have hr : ∀ i, i < 17 → ¬ C (rw i) := fun i hi => hC _ (row_c k11 hi)
  exact ⟨wFx_at f (hC _ (by omega)) k0, kt, wT_fx k2 f (hC _ (by omega)) (hC _ (by omega)), wArm_fx k3 f (fun q a b => hC q (by omega)), wD_fx k4 f kt.2.1 (fun q a b => hC q (by omega)), wU_fx k5 f (fun q a b => hC q (by omega)), wPz_fx k6 f (fun q a => hC q (by omega)) (fun i a => hr i (by omega)), wH6_fx k7 f (fun q a b => hC q (by omega)) (hr 9 (by decide)), wDw_fx k8 f (fun q a b => hC q (by omega)) (hr 10 (by decide)), wRn_fx k9 f (fun q a b => hC q (by omega)) (hr 15 (by decide)), wSn_fx k10 f (hC _ (by omega)) (hr 16 (by decide)), wRws_le k11 f.1, Nat.le_trans k12 f.1⟩
theorem CI_fx {C : Nat → Prop} {h h2 : zH} {D S : Nat} {V : cV} (k : CI h D S V) (f : wFx C h h2) (hC : ∀ q, q < 162 ∨ 234 ≤ q → ¬ C q) : CI h2 D S V := by
  obtain ⟨rw, cp, t, rd, ps, ip, im, ra, sp, so, lk, hd, ht, bl, sd, rt, ll, lg, sv, nm, wy, po, wg, ka, kb, tb, wr9, wa9, pl, ia, ua, pp, us, un, k, e1, e2, e3⟩ := k
  exact ⟨rw, cp, t, rd, ps, ip, im, ra, sp, so, lk, hd, ht, bl, sd, rt, ll, lg, sv, nm, wy, po, wg, ka, kb, tb, wr9, wa9, pl, ia, ua, pp, us, un, CIx_fx k f hC, e1, e2, e3⟩
/-- how much the rows can have been charged for -/
theorem CI_bd {h : zH} {D S : Nat} {V : cV} (k : CI h D S V) : D ≤ 60000 ∧ S ≤ 5000000 := by
  obtain ⟨rw, cp, t, rd, ps, ip, im, ra, sp, so, lk, hd, ht, bl, sd, rt, ll, lg, sv, nm, wy, po, wg, ka, kb, tb, wr9, wa9, pl, ia, ua, pp, us, un, k, e1, e2, e3⟩ := k
  obtain ⟨k0, kt, k2, k3, k4, k5, k6, k7, k8, k9, k10, k11, k12⟩ := k
  obtain ⟨_, hSol, hPl, hRa, hRb⟩ := k6
  obtain ⟨v0, v1, nf, tg, sh, el, wr, ou, bh, so1, _, _, _, _, _, _, _, _, _, b0⟩ := hSol
  obtain ⟨ob, pr, sr, fw, al9, fi, hpl, lf0, lf1, to, kn, ks, fa, hp, li, _, _, _, hHs, _, _, _, c11, c12, _⟩ := hPl
  obtain ⟨_, _, _, _, _, _, _, _, _, _, b13, _⟩ := hRa
  obtain ⟨_, _, _, _, _, _, _, _, _, _, b14, _⟩ := hRb
  obtain ⟨_, _, _, _, _, _, _, _, _, _, _, _, b9⟩ := k7
  obtain ⟨_, _, _, _, _, _, _, _, _, _, _, _, b10⟩ := k8
  obtain ⟨_, _, _, _, _, _, _, _, _, _, _, _, b15, _⟩ := k9
  obtain ⟨_, _, _, b16⟩ := k10
  have w : ∀ w, w < 8 → cp (w + 1) ≤ 600 := fun w hw => (hHs w hw).2.2.2.2.2
  have w0 := w 0 (by decide)
  have w1 := w 1 (by decide)
  have w2 := w 2 (by decide)
  have w3 := w 3 (by decide)
  have w4 := w 4 (by decide)
  have w5 := w 5 (by decide)
  have w6 := w 6 (by decide)
  have w7 := w 7 (by decide)
  have ec : capS (fun w => cp (w + 1)) = cp (0 + 1) + cp (1 + 1) + cp (2 + 1) + cp (3 + 1) + cp (4 + 1) + cp (5 + 1) + cp (6 + 1) + cp (7 + 1) := rfl
  unfold kD at e1
  unfold kS at e2
  rw [ec] at e1 e2
  have b16' : cp 16 ≤ 4096 := by omega
  clear b16 k0 kt k2 k3 k4 k5 k11 k12 hHs w ec
  omega
/-- behind a feed; behind keep; one more that can be undone -/
noncomputable def vFd (V : cV) (a b c d e : Int32) : cV := if V.1.1 ≤ 680 then ((V.1.1 + 20, fdF a b c d e V.1.1 V.1.2.1, V.1.2.2), V.2) else V
noncomputable def fda (t : Nat) : Int32 := if t ≤ 680 then nI (t + 20) else -1
noncomputable def xKp (X : cX) : cX := (X.1, X.1, X.2.2.1, X.2.2.2.1, X.2.2.2.2.1, zcpy 0 X.2.2.2.2.1 X.2.2.2.2.2.1 0 0 6, X.2.2.2.2.2.2)
noncomputable def vKp (V : cV) : cV := ((V.1.1, V.1.2.1, V.1.2.2.1, V.1.2.2.2.1, 1, V.1.2.2.2.2.2), xKp V.2)
noncomputable def xPsh (X : cX) (ps2 : Int64) (pl2 : List Int32) : cX := (ps2, X.2.1, min (X.2.2.1 + 1) 20, (X.2.2.2.1 + 1) % 20, pl2, X.2.2.2.2.2.1, zset 0 X.2.2.2.2.2.2.1 X.2.2.2.1 X.1, zcpy 0 X.2.2.2.2.1 X.2.2.2.2.2.2.2 0 (6 * X.2.2.2.1) 6)
noncomputable def aSet (ll lg : List Int32) (j v : Int32) : Int32 := if 0 ≤ j.toInt ∧ j.toInt ≤ 5 then (if v.toInt < (ll.getD j.toNatClampNeg 0).toInt then 0 else if (lg.getD j.toNatClampNeg 0).toInt < v.toInt then 0 else 1) else 0
noncomputable def aAat (sp : Nat) (s : Int32) : Int32 := if s = -1 then 1 else if 0 ≤ s.toInt ∧ s.toInt < sp then 1 else 0
/-- behind set, aimAt, aimBy, take, undo, back: the answer and what is then -/
noncomputable def vSet (V : cV) (j v : Int32) (a : Int32) (V2 : cV) : Prop := a = aSet V.1.2.2.2.2.2.2.2.2.2.2.2.2.2.1 V.1.2.2.2.2.2.2.2.2.2.2.2.2.2.2.1 j v ∧ ((a = 0 ∧ V2 = V) ∨ (a = 1 ∧ ∃ n : Nat, j = nI n ∧ n < 6 ∧ (-64 ≤ v.toInt ∧ v.toInt ≤ 99) ∧ V2 = (V.1, xPsh V.2 (jwithv V.2.1 (nI n) v) V.2.2.2.2.2.1)))
noncomputable def vAat (V : cV) (s : Int32) (a : Int32) (V2 : cV) : Prop := a = aAat V.1.2.2.2.2.2.1 s ∧ ((a = 0 ∧ V2 = V) ∨ (a = 1 ∧ s = -1 ∧ V2 = (V.1, xPsh V.2 V.2.1 (jPlo V.1.2.2.2.2.2.2.2.1 V.1.2.2.2.2.2.2.2.2.1 V.1.2.2.2.2.2.2.2.2.2.1 V.2.1 V.2.2.2.2.2.1))) ∨ (a = 1 ∧ s ≠ -1 ∧ (0 ≤ s.toInt ∧ s.toInt < V.1.2.2.2.2.2.1) ∧ V2 = (V.1, xPsh V.2 V.2.1 (jPlo V.1.2.2.2.2.2.2.2.1 V.1.2.2.2.2.2.2.2.2.1 V.1.2.2.2.2.2.2.2.2.2.1 (V.1.2.2.2.2.2.2.2.2.2.2.2.2.2.2.2.2.2.2.getD s.toNatClampNeg 0) V.2.2.2.2.2.1))))
noncomputable def vAby (V : cV) (w : Int32) (v : Int64) (a : Int32) (V2 : cV) : Prop := a = nI (cAby w v) ∧ ((cAby w v = 0 ∧ V2 = V) ∨ (cAby w v = 1 ∧ (0 ≤ w.toInt ∧ w.toInt ≤ 5) ∧ V2 = (V.1, xPsh V.2 V.2.1 (zset 0 V.2.2.2.2.2.1 w.toNatClampNeg v.toInt32))))
/-- the solutions of AIM, in the order that the solver meets them -/
noncomputable def vSL (V : cV) : List Int64 := sSolL V.1.2.2.2.2.2.2.2.2.2.2.2.2.2.1 V.1.2.2.2.2.2.2.2.2.2.2.2.2.2.2.1 V.1.2.2.2.2.2.2.2.1 V.1.2.2.2.2.2.2.2.2.1 V.1.2.2.2.2.2.2.2.2.2.1 V.2.2.2.2.2.1 64 (-32)
/-- what a state keeps within: the arm's numbers, its limits, what is solved for -/
noncomputable def vIn (V : cV) : Prop := wScl V.1.2.2.2.2.2.2.2.1 V.1.2.2.2.2.2.2.2.2.1 V.1.2.2.2.2.2.2.2.2.2.1 V.1.2.2.2.2.2.2.2.2.2.2.1 V.1.2.2.2.2.2.2.2.2.2.2.2.1 ∧ wLm V.1.2.2.2.2.2.2.2.2.2.2.2.2.2.1 V.1.2.2.2.2.2.2.2.2.2.2.2.2.2.2.1
noncomputable def vTak (V : cV) (k : Int32) (a : Int32) (V2 : cV) : Prop := vIn V ∧ a = nI (cTak (vSL V).length k) ∧ ((cTak (vSL V).length k = 0 ∧ V2 = V) ∨ (cTak (vSL V).length k = 1 ∧ (0 ≤ k.toInt ∧ k.toInt < (vSL V).length ∧ (vSL V).length ≤ 600) ∧ ∃ (cap : Nat) (li : List Int64), wHK (vSL V) cap li ∧ V2 = (V.1, xPsh V.2 (li.getD k.toNatClampNeg 0) V.2.2.2.2.2.1)))
noncomputable def vUnd (V : cV) (a : Int32) (V2 : cV) : Prop := (V.2.2.2.1 = 0 ∧ a = -1 ∧ V2 = V) ∨ (V.2.2.2.1 ≠ 0 ∧ a = nI (V.2.2.2.1 - 1) ∧ V2 = (V.1, (V.2.2.2.2.2.2.2.1.getD ((V.2.2.2.2.1 + 19) % 20) 0, V.2.2.1, V.2.2.2.1 - 1, (V.2.2.2.2.1 + 19) % 20, zcpy 0 V.2.2.2.2.2.2.2.2 V.2.2.2.2.2.1 (6 * ((V.2.2.2.2.1 + 19) % 20)) 0 6, V.2.2.2.2.2.2)))
noncomputable def vBck (V : cV) (a : Int32) (V2 : cV) : Prop := (V.1.2.2.2.2.1 = 0 ∧ a = 0 ∧ V2 = V) ∨ (V.1.2.2.2.2.1 ≠ 0 ∧ a = 1 ∧ V2 = (V.1, (V.2.2.1, V.2.2.1, 0, 0, zcpy 0 V.2.2.2.2.2.2.1 V.2.2.2.2.2.1 0 0 6, V.2.2.2.2.2.2)))
/-- what a call leaves that answers a -/
noncomputable def cOkA (a : Int32) (h : zH) (D S : Nat) (V : cV) (r : zR) : Prop := r.1 = some (.int a) ∧ cOk h D S V r
/-- what the reader tells -/
noncomputable def txH (tb : List Int32) (ln : Nat) (kd sta va : Int32) (ll lg sv nm wy : List Int32) (po : List Int64) (T9 : Nat × Int32 × Nat × Int32 × Int32 × Nat × Int32 × Int32 × Int32 × Int32 × Int32 × Int32 × Int32 × Int32 × Int32 × Int64 × List Int32 × List Int32 × List Int32 × Nat × List Int32 × List Int64 × Nat × List Int32) : Prop := T9 = (txF tb ln (ln + 2 - 0 + 1) 0 0 (-1) 0 kd sta va 0 9 4 10 2 0 fgRt (fgL ll) (fgG lg) (fgV sv) 0 nm po 0 wy)
/-- behind a text -/
noncomputable def vTx (V : cV) (n a : Int32) (V2 : cV) : Prop := ((n.toInt < 0 ∨ V.1.1 < n.toInt) ∧ a = -2 ∧ V2 = V) ∨ ∃ ln : Nat, n = nI ln ∧ ln ≤ V.1.1 ∧ V.1.1 ≤ 700 ∧ ∃ (kd sta va : Int32) (ll lg sv nm wy : List Int32) (po : List Int64) (T9 : Nat × Int32 × Nat × Int32 × Int32 × Nat × Int32 × Int32 × Int32 × Int32 × Int32 × Int32 × Int32 × Int32 × Int32 × Int64 × List Int32 × List Int32 × List Int32 × Nat × List Int32 × List Int64 × Nat × List Int32), txH V.1.2.1 ln kd sta va ll lg sv nm wy po T9 ∧ ((T9.1 ≠ 0 ∧ a = T9.2.1 ∧ V2 = ((0, V.1.2.1, T9.2.2.2.1, T9.2.2.2.2.1, V.1.2.2.2.2), V.2)) ∨ (T9.1 = 0 ∧ a = nI T9.2.2.1 ∧ V2 = ((0, V.1.2.1, T9.2.2.2.1, T9.2.2.2.2.1, 0, T9.2.2.2.2.2.2.2.2.2.2.2.2.2.2.2.2.2.2.2.1, T9.2.2.2.2.2.2.2.2.2.2.2.2.2.2.2.2.2.2.2.2.2.2.1, T9.2.2.2.2.2.2.2.2.2.2.1, T9.2.2.2.2.2.2.2.2.2.2.2.1, T9.2.2.2.2.2.2.2.2.2.2.2.2.1, T9.2.2.2.2.2.2.2.2.2.2.2.2.2.1, T9.2.2.2.2.2.2.2.2.2.2.2.2.2.2.1, T9.2.2.2.2.2.2.2.2.2.2.2.2.2.2.2.1, T9.2.2.2.2.2.2.2.2.2.2.2.2.2.2.2.2.1, T9.2.2.2.2.2.2.2.2.2.2.2.2.2.2.2.2.2.1, T9.2.2.2.2.2.2.2.2.2.2.2.2.2.2.2.2.2.2.1, T9.2.2.2.2.2.2.2.2.2.2.2.2.2.2.2.2.2.2.2.2.1, T9.2.2.2.2.2.2.2.2.2.2.2.2.2.2.2.2.2.2.2.2.2.2.2, T9.2.2.2.2.2.2.2.2.2.2.2.2.2.2.2.2.2.2.2.2.2.1), (T9.2.2.2.2.2.2.2.2.2.2.2.2.2.2.2.1, V.2.2.1, 0, 0, jPlo T9.2.2.2.2.2.2.2.2.2.2.1 T9.2.2.2.2.2.2.2.2.2.2.2.1 T9.2.2.2.2.2.2.2.2.2.2.2.2.1 (T9.2.2.2.2.2.2.2.2.2.2.2.2.2.2.2.1) V.2.2.2.2.2.1, V.2.2.2.2.2.2))))
