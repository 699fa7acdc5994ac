/-! Any line; all lines: both readers tell the same text, or the same fault at the same place. -/
/-- the kinds of a token, as tkR has them, but its end -/
noncomputable def kdR (kd so9 va va2 : Int32) : Prop := (kd = 4 ∧ so9 = 4) ∨ (kd = 5 ∧ so9 = 6) ∨ (kd = 2 ∧ so9 = 2) ∨ (kd = 3 ∧ so9 = 3) ∨ (kd = 1 ∧ ∃ w, va = nI w ∧ w < 2 ^ 30 ∧ ((wIx w ≠ -1 ∧ so9 = 0 ∧ va2 = wIx w) ∨ (wIx w = -1 ∧ so9 = 1 ∧ va2 = nI w)))
theorem li_kd {tb : List Int32} {ln nx : Nat} {wr wa sta va tld lk hd ht bl sd kd : Int32} {rt : Int64} {ll lg sv : List Int32} {sp : Nat} {nm : List Int32} {po : List Int64} {so : Nat} {wy : List Int32} (h : kd ≠ 1 ∨ (kd = 1 ∧ lwF va (10 - 0 + 1) 0 = -1)) : (liG tb ln wr wa nx kd sta va tld lk hd ht bl sd rt ll lg sv sp nm po so wy).1 = 0 ∧ (liG tb ln wr wa nx kd sta va tld lk hd ht bl sd rt ll lg sv sp nm po so wy).2.1 = 1 ∧ (liG tb ln wr wa nx kd sta va tld lk hd ht bl sd rt ll lg sv sp nm po so wy).2.2.1 = sta := by
  unfold liG
  rcases h with h | ⟨h, h2⟩
  · rw [if_pos h]
    exact ⟨rfl, rfl, rfl⟩
  · rw [if_neg (fun z => z h), h2, if_neg (fun z => z rfl)]
    exact ⟨rfl, rfl, rfl⟩
set_option maxRecDepth 100000 in
set_option maxHeartbeats 4000000 in
theorem line_e {tb : List Int32} {ln nx : Nat} {wr wa fp n14 : Int32} {pl T : Nat} {lk hd ht bl sd : Int32} {rt : Int64} {ll lg sv : List Int32} {sp : Nat} {nm : List Int32} {po : List Int64} {so : Nat} {wy kn lo hi s3 r3 sn sq w3 it hl hs : List Int32} {kd so9 va va2 : Int32} (hln : ln ≤ 700) (hb : ∀ i, i < ln → 0 ≤ (tb.getD i 0).toInt) (K : kdR kd so9 va va2) (hx : nx ≤ ln) (D : dR T lk hd ht bl sd rt ll lg sv sp nm po so wy kn lo hi s3 r3 sn sq w3 it hl hs) : lnR tb ln nx wr wa fp n14 (liG tb ln wr wa nx kd (nI pl) va (nI T) lk hd ht bl sd rt ll lg sv sp nm po so wy) (mLin tb ln nx pl so9 va2 0 fp n14 sp so kn lo hi s3 r3 sn sq w3 it hl hs) := by
  have z1 : (1 : Int32) ≠ 0 := by decide
  have no : ∀ (h1 : kd ≠ 1 ∨ (kd = 1 ∧ lwF va (10 - 0 + 1) 0 = -1)) (h2 : so9 ≠ 0), lnR tb ln nx wr wa fp n14 (liG tb ln wr wa nx kd (nI pl) va (nI T) lk hd ht bl sd rt ll lg sv sp nm po so wy) (mLin tb ln nx pl so9 va2 0 fp n14 sp so kn lo hi s3 r3 sn sq w3 it hl hs) := by
    intro h1 h2
    obtain ⟨a1, a2, a3⟩ := li_kd (tb := tb) (ln := ln) (nx := nx) (wr := wr) (wa := wa) (sta := nI pl) (tld := nI T) (lk := lk) (hd := hd) (ht := ht) (bl := bl) (sd := sd) (rt := rt) (ll := ll) (lg := lg) (sv := sv) (sp := sp) (nm := nm) (po := po) (so := so) (wy := wy) h1
    obtain ⟨m1, m2⟩ := lin_n tb ln nx pl fp n14 sp so kn lo hi s3 r3 sn sq w3 it hl hs (va := va2) h2
    exact Or.inr ⟨1, pl, z1, a1, a2, a3, m1, m2⟩
  rcases K with ⟨e, g⟩ | ⟨e, g⟩ | ⟨e, g⟩ | ⟨e, g⟩ | ⟨e, w, ew, wl, W⟩
  · exact no (Or.inl (by rw [e]; decide)) (by rw [g]; decide)
  · exact no (Or.inl (by rw [e]; decide)) (by rw [g]; decide)
  · exact no (Or.inl (by rw [e]; decide)) (by rw [g]; decide)
  · exact no (Or.inl (by rw [e]; decide)) (by rw [g]; decide)
  · rcases wIx_c wl with ⟨k, k1, k2, k3, k4⟩ | ⟨k1, k2⟩
    · rcases W with ⟨n, g, u⟩ | ⟨n, g, u⟩
      · subst e g
        rw [u, k4, ew]
        clear no
        have c : k = 0 ∨ k = 1 ∨ k = 2 ∨ k = 3 ∨ k = 4 ∨ k = 5 ∨ k = 6 ∨ k = 7 ∨ k = 8 ∨ k = 9 := by omega
        rcases c with c | c | c | c | c | c | c | c | c | c <;> subst c
        · exact ln_0 hln hb k3 hx D
        · exact ln_1 hln hb k3 hx D
        · exact ln_2 hln hb k3 hx D
        · exact ln_3 hln hb k3 hx D
        · exact ln_4 hln hb k3 hx D
        · exact ln_5 hln hb k3 hx D
        · exact ln_6 hln hb k3 hx D
        · exact ln_7 hln hb k3 hx D
        · exact ln_8 hln hb k3 hx D
        · exact ln_9 hln hb k3 hx D
      · exfalso
        rw [n] at k4
        revert k4
        have c : k = 0 ∨ k = 1 ∨ k = 2 ∨ k = 3 ∨ k = 4 ∨ k = 5 ∨ k = 6 ∨ k = 7 ∨ k = 8 ∨ k = 9 := by omega
        rcases c with c | c | c | c | c | c | c | c | c | c <;> subst c <;> decide
    · rcases W with ⟨n, g, u⟩ | ⟨n, g, u⟩
      · exact absurd k1 n
      · exact no (Or.inr ⟨e, by rw [ew]; exact k2⟩) (by rw [g]; decide)
noncomputable def ttOk (wr wa fp : Int32) (C : Nat × Int32 × Nat × Int32 × Int32 × Nat × Int32 × Int32 × Int32 × Int32 × Int32 × Int32 × Int32 × Int32 × Int32 × Int64 × List Int32 × List Int32 × List Int32 × Nat × List Int32 × List Int64 × Nat × List Int32) (M : Int32 × Int32 × Nat × Nat × Int32 × Int32 × Int32 × List Int32 × List Int32 × List Int32 × List Int32 × List Int32 × List Int32 × List Int32 × List Int32 × List Int32 × List Int32 × List Int32) : Prop := ∃ (l n2 : Nat) (k2 s2 v2 : Int32) (T : Nat) (lk hd ht bl sd : Int32) (rt : Int64) (ll lg sv : List Int32) (sp : Nat) (nm : List Int32) (po : List Int64) (so : Nat) (wy : List Int32) (a2 p2 : Nat) (o2 w2 : Int32) (kn lo hi s3 r3 sn sq w3 it hl hs : List Int32), C = (0, 0, l, wr, wa, n2, k2, s2, v2, nI T, lk, hd, ht, bl, sd, rt, ll, lg, sv, sp, nm, po, so, wy) ∧ M = (0, fp, a2, p2, o2, w2, nI l, kn, lo, hi, s3, r3, sn, sq, w3, it, hl, hs) ∧ l ≤ 700 ∧ dR T lk hd ht bl sd rt ll lg sv sp nm po so wy kn lo hi s3 r3 sn sq w3 it hl hs
noncomputable def ttNo (C : Nat × Int32 × Nat × Int32 × Int32 × Nat × Int32 × Int32 × Int32 × Int32 × Int32 × Int32 × Int32 × Int32 × Int32 × Int64 × List Int32 × List Int32 × List Int32 × Nat × List Int32 × List Int64 × Nat × List Int32) (M : Int32 × Int32 × Nat × Nat × Int32 × Int32 × Int32 × List Int32 × List Int32 × List Int32 × List Int32 × List Int32 × List Int32 × List Int32 × List Int32 × List Int32 × List Int32 × List Int32) : Prop := ∃ (f : Int32) (P : Nat), f ≠ 0 ∧ C.1 = 1 ∧ C.2.1 = -1 ∧ C.2.2.2.1 = f ∧ C.2.2.2.2.1 = nI P ∧ M.1 = f ∧ M.2.1 = nI P
set_option maxRecDepth 100000 in
set_option maxHeartbeats 4000000 in
theorem tx_e {tb : List Int32} {ln : Nat} {wr wa fp : Int32} (hln : ln ≤ 700) (hb : ∀ i, i < ln → 0 ≤ (tb.getD i 0).toInt) (m : Nat) : ∀ (m2 l nx : Nat) (v0 kd sta va : Int32) (at9 pl : Nat) (so9 va2 : Int32) (T : Nat) (lk hd ht bl sd : Int32) (rt : Int64) (ll lg sv : List Int32) (sp : Nat) (nm : List Int32) (po : List Int64) (so : Nat) (wy kn lo hi s3 r3 sn sq w3 it hl hs : List Int32), mTok tb ln nx v0 = (at9, pl, so9, va2) → nx ≤ ln → l ≤ nx → ln + 2 - l < m → 2 * (ln - at9) + 1 < m2 → dR T lk hd ht bl sd rt ll lg sv sp nm po so wy kn lo hi s3 r3 sn sq w3 it hl hs → ttOk wr wa fp (txF tb ln m l wr wa nx kd sta va (nI T) lk hd ht bl sd rt ll lg sv sp nm po so wy) (mrtF tb ln m2 0 fp at9 pl so9 va2 (nI l) kn lo hi s3 r3 sn sq w3 it hl hs) ∨ ttNo (txF tb ln m l wr wa nx kd sta va (nI T) lk hd ht bl sd rt ll lg sv sp nm po so wy) (mrtF tb ln m2 0 fp at9 pl so9 va2 (nI l) kn lo hi s3 r3 sn sq w3 it hl hs) := by
  induction m with
  | zero => intro m2 l nx v0 kd sta va at9 pl so9 va2 T lk hd ht bl sd rt ll lg sv sp nm po so wy kn lo hi s3 r3 sn sq w3 it hl hs _ _ _ h; exact absurd h (Nat.not_lt_zero _)
  | succ m ih =>
    intro m2 l nx v0 kd sta va at9 pl so9 va2 T lk hd ht bl sd rt ll lg sv sp nm po so wy kn lo hi s3 r3 sn sq w3 it hl hs S hx hl1 hm hm2 D
    obtain ⟨m3, rfl⟩ : ∃ m3, m2 = m3 + 1 := ⟨m2 - 1, by omega⟩
    have q1 := nI_toInt (n := ln) (by omega)
    have q2 := nI_toInt (n := l) (by omega)
    obtain ⟨p, p1, p2, Tk⟩ := tok_e hln hx hb kd sta va v0
    have L := adG_le (tb := tb) hln hx kd sta va
    have G := adG_ge (tb := tb) hln hx kd sta va
    rw [S] at Tk
    rw [txF, mrtF, if_neg (by omega), if_neg (fun z => z rfl)]
    rw [show stG tb ln nx kd sta va = (if (adG tb ln nx kd sta va).2.1 = 0 then (0, (adG tb ln nx kd sta va).1, (adG tb ln nx kd sta va).2.1, (adG tb ln nx kd sta va).2.2.1, (adG tb ln nx kd sta va).2.2.2) else (1, (adG tb ln nx kd sta va).1, (adG tb ln nx kd sta va).2.1, (adG tb ln nx kd sta va).2.2.1, (adG tb ln nx kd sta va).2.2.2)) from rfl]
    revert Tk L G
    generalize adG tb ln nx kd sta va = A
    obtain ⟨a1, a2, a3, a4⟩ := A
    intro Tk L G
    obtain ⟨e1, e2, e3, K⟩ := Tk
    dsimp only at e1 e2 e3 K L G
    subst e1 e2 e3
    dsimp only
    have hsp : (kn.getD 12 0).toNatClampNeg = sp := by rw [D.1.2.2.2.2.2.1, nI_clamp (by have := D.1.2.2.2.2.2.2.2.1; omega)]
    have hso : (kn.getD 13 0).toNatClampNeg = so := by rw [D.1.2.2.2.2.2.2.1, nI_clamp (by have := D.1.2.2.2.2.2.2.2.2; omega)]
    rcases K with ⟨e, g, u1, u2⟩ | K
    · left
      subst e g
      rw [if_pos rfl, if_pos rfl, zlet, if_pos rfl]
      exact ⟨l, a1, 0, nI pl, a4, T, lk, hd, ht, bl, sd, rt, ll, lg, sv, sp, nm, po, so, wy, a1, pl, 5, va2, kn, lo, hi, s3, r3, sn, sq, w3, it, hl, hs, rfl, rfl, by omega, D⟩
    · have kr : kdR a2 so9 a4 va2 ∧ a2 ≠ 0 ∧ so9 ≠ 5 := by
        rcases K with ⟨e, g, _, _⟩ | ⟨e, g⟩ | ⟨e, g, _⟩ | ⟨e, g, _⟩ | ⟨e, w, ew, wl, W⟩
        · exact ⟨Or.inl ⟨e, g⟩, by rw [e]; decide, by rw [g]; decide⟩
        · exact ⟨Or.inr (Or.inl ⟨e, g⟩), by rw [e]; decide, by rw [g]; decide⟩
        · exact ⟨Or.inr (Or.inr (Or.inl ⟨e, g⟩)), by rw [e]; decide, by rw [g]; decide⟩
        · exact ⟨Or.inr (Or.inr (Or.inr (Or.inl ⟨e, g⟩))), by rw [e]; decide, by rw [g]; decide⟩
        · refine ⟨Or.inr (Or.inr (Or.inr (Or.inr ⟨e, w, ew, wl, W⟩))), by rw [e]; decide, ?_⟩
          rcases W with ⟨_, g, _⟩ | ⟨_, g, _⟩ <;> rw [g] <;> decide
      obtain ⟨kr, n0, n5⟩ := kr
      have F := line_e (tb := tb) (ln := ln) (nx := a1) (wr := wr) (wa := wa) (fp := fp) (n14 := nI l) (pl := pl) hln hb kr L D
      rw [if_neg n0, if_neg n5, zlet, if_neg (show ¬ (1 : Int32) = 0 by decide), zlet, zlet, hsp, hso]
      dsimp only
      rcases F with ⟨n2, k2, s2, v2, v1, T2, lk2, hd2, ht2, bl2, sd2, rt2, ll2, lg2, sv2, sp2, nm2, po2, so2, wy2, kn2, lo2, hi2, s32, r32, sn2, sq2, w32, it2, hl2, hs2, c1, c2, lt, le, D2⟩ | ⟨f, P, f0, x1, x2, x3, x4, x5⟩
      · rw [c1, c2]
        dsimp only
        rw [if_pos (show (1 : Int32) ≠ 0 by decide), show nI l + 1 = nI (l + 1) from (nI_succ l).symm]
        obtain ⟨E, hE⟩ : ∃ E, E = mTok tb ln n2 v1 := ⟨_, rfl⟩
        obtain ⟨y1, y2, y3, y4⟩ := E
        rw [← hE]
        have e8 := (end_e hln le hb hE.symm k2 s2 v2).1
        have e9 : n2 ≤ y1 := by
          obtain ⟨p9, p10, p11, T9⟩ := tok_e hln le hb k2 s2 v2 v1
          have G9 := adG_ge (tb := tb) hln le k2 s2 v2
          rw [← hE] at T9
          have := T9.1
          dsimp only at this
          omega
        exact ih m3 (l + 1) n2 v1 k2 s2 v2 y1 y2 y3 y4 T2 lk2 hd2 ht2 bl2 sd2 rt2 ll2 lg2 sv2 sp2 nm2 po2 so2 wy2 kn2 lo2 hi2 s32 r32 sn2 sq2 w32 it2 hl2 hs2 hE.symm le (by omega) (by omega) (by omega) D2
      · right
        rw [if_neg (fun z => z x1), x4, x5]
        refine ⟨f, P, f0, rfl, rfl, x2, x3, ?_, ?_⟩
        · obtain ⟨m4, rfl⟩ : ∃ m4, m3 = m4 + 1 := ⟨m3 - 1, by omega⟩
          rw [mrtF, if_pos f0]
        · obtain ⟨m4, rfl⟩ : ∃ m4, m3 = m4 + 1 := ⟨m3 - 1, by omega⟩
          rw [mrtF, if_pos f0]
