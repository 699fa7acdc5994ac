/-! One line, on both sides. -/
noncomputable def lnNo (C : Int32 × Int32 × Int32 × Nat × Int32 × Int32 × Int32 × Int32 × Int32 × Int32 × Int32 × Int32 × Int32 × Int64 × List Int32 × List Int32 × List Int32 × Nat × List Int32 × List Int64 × Nat × List Int32) (M : Int32 × Int32 × Nat × Nat × Int32 × Int32 × Int32 × List Int32 × List Int32 × List Int32 × List Int32 × List Int32 × List Int32 × List Int32 × List Int32 × List Int32 × List Int32 × List Int32) : Prop := ∃ (f : Int32) (P : Nat), f ≠ 0 ∧ C.1 = 0 ∧ C.2.1 = f ∧ C.2.2.1 = nI P ∧ M.1 = f ∧ M.2.1 = nI P
noncomputable def lnOk (tb : List Int32) (ln nx : Nat) (wr wa fp n14 : Int32) (C : Int32 × Int32 × Int32 × Nat × Int32 × Int32 × Int32 × Int32 × Int32 × Int32 × Int32 × Int32 × Int32 × Int64 × List Int32 × List Int32 × List Int32 × Nat × List Int32 × List Int64 × Nat × List Int32) (M : Int32 × Int32 × Nat × Nat × Int32 × Int32 × Int32 × List Int32 × List Int32 × List Int32 × List Int32 × List Int32 × List Int32 × List Int32 × List Int32 × List Int32 × List Int32 × List Int32) : Prop := ∃ (n2 : Nat) (k2 s2 v2 v1 : Int32) (T : Nat) (lk hd ht bl sd : Int32) (rt : Int64) (ll lg sv : List Int32) (sp : Nat) (nm : List Int32) (po : List Int64) (so : Nat) (wy kn lo hi s3 r3 sn sq w3 it hl hs : List Int32), C = (1, wr, wa, n2, k2, s2, v2, nI T, lk, hd, ht, bl, sd, rt, ll, lg, sv, sp, nm, po, so, wy) ∧ M = (0, fp, (mTok tb ln n2 v1).1, (mTok tb ln n2 v1).2.1, (mTok tb ln n2 v1).2.2.1, (mTok tb ln n2 v1).2.2.2, n14 + 1, kn, lo, hi, s3, r3, sn, sq, w3, it, hl, hs) ∧ nx < n2 ∧ n2 ≤ ln ∧ dR T lk hd ht bl sd rt ll lg sv sp nm po so wy kn lo hi s3 r3 sn sq w3 it hl hs
noncomputable def lnR (tb : List Int32) (ln nx : Nat) (wr wa fp n14 : Int32) (C : Int32 × Int32 × Int32 × Nat × Int32 × Int32 × Int32 × Int32 × Int32 × Int32 × Int32 × Int32 × Int32 × Int64 × List Int32 × List Int32 × List Int32 × Nat × List Int32 × List Int64 × Nat × List Int32) (M : Int32 × Int32 × Nat × Nat × Int32 × Int32 × Int32 × List Int32 × List Int32 × List Int32 × List Int32 × List Int32 × List Int32 × List Int32 × List Int32 × List Int32 × List Int32 × List Int32) : Prop := lnOk tb ln nx wr wa fp n14 C M ∨ lnNo C M
theorem nml_ok {tb : List Int32} {ln at9 pl : Nat} {so va fp lo hi x : Int32} (h : mAtH pl so va 0 fp 0 lo hi = (x, 0, fp)) : mNml tb ln at9 pl so va 0 fp lo hi = (x, 0, fp, (mTok tb ln at9 va).1, (mTok tb ln at9 va).2.1, (mTok tb ln at9 va).2.2.1, (mTok tb ln at9 va).2.2.2) := by
  simp only [mNml, zlet, h, go_0]
theorem nml_no {tb : List Int32} {ln at9 pl : Nat} {so va fp lo hi f P y : Int32} (h : mAtH pl so va 0 fp 0 lo hi = (y, f, P)) (h0 : f ≠ 0) : mNml tb ln at9 pl so va 0 fp lo hi = (y, f, P, at9, pl, so, va) := by
  simp only [mNml, zlet, h, go_lock h0]
set_option maxRecDepth 100000 in
set_option maxHeartbeats 4000000 in
theorem rs_ok_0 {tb : List Int32} {ln nx a : Nat} {wr wa kd sta va lk hd ht bl sd k2 s2 x : Int32} (h : rnG tb ln wr wa nx kd sta va 1 99 0 = (1, wr, wa, a, k2, s2, x)) : rsG tb ln wr wa nx kd sta va lk hd ht bl sd (nI 0) = (1, wr, wa, a, k2, s2, x, x, hd, ht, bl, sd) := by
  unfold rsG
  rw [if_neg (show ¬ (2 : Int32).toInt < (nI 0).toInt by decide), if_neg (show ¬ (2 : Int32).toInt < (nI 0).toInt by decide), zlet, h, if_pos (show (1 : Int32) ≠ 0 by decide)]
  rw [if_pos (show nI 0 = (0 : Int32) by decide)]
set_option maxRecDepth 100000 in
set_option maxHeartbeats 4000000 in
theorem rs_no_0 {tb : List Int32} {ln nx a : Nat} {wr wa kd sta va lk hd ht bl sd k2 s2 x f P : Int32} (h : rnG tb ln wr wa nx kd sta va 1 99 0 = (0, f, P, a, k2, s2, x)) : (rsG tb ln wr wa nx kd sta va lk hd ht bl sd (nI 0)).1 = 0 ∧ (rsG tb ln wr wa nx kd sta va lk hd ht bl sd (nI 0)).2.1 = f ∧ (rsG tb ln wr wa nx kd sta va lk hd ht bl sd (nI 0)).2.2.1 = P := by
  unfold rsG
  rw [if_neg (show ¬ (2 : Int32).toInt < (nI 0).toInt by decide), if_neg (show ¬ (2 : Int32).toInt < (nI 0).toInt by decide), zlet, h, if_neg (show ¬ (0 : Int32) ≠ 0 by decide)]
  exact ⟨rfl, rfl, rfl⟩
set_option maxRecDepth 100000 in
set_option maxHeartbeats 4000000 in
theorem ln_0 {tb : List Int32} {ln nx : Nat} {wr wa va fp n14 : Int32} {pl T : Nat} {lk hd ht bl sd : Int32} {rt : Int64} {ll lg sv : List Int32} {sp : Nat} {nm : List Int32} {po : List Int64} {so : Nat} {wy kn lo hi s3 r3 sn sq w3 it hl hs : List Int32} (hln : ln ≤ 700) (hb : ∀ i, i < ln → 0 ≤ (tb.getD i 0).toInt) (hk : lwF va (10 - 0 + 1) 0 = nI 0) (hx : nx ≤ ln) (D : dR T lk hd ht bl sd rt ll lg sv sp nm po so wy kn lo hi s3 r3 sn sq w3 it hl hs) : lnR tb ln nx wr wa fp n14 (liG tb ln wr wa nx 1 (nI pl) va (nI T) lk hd ht bl sd rt ll lg sv sp nm po so wy) (mLin tb ln nx pl 0 0 0 fp n14 sp so kn lo hi s3 r3 sn sq w3 it hl hs) := by
  obtain ⟨dK, dL, dG, dS, dP, dN, dQ, dW, dT⟩ := D
  have tT : T < 2 ^ 22 := dT.1
  have q := toG_e wr wa (nI pl) (T := T) (b := 0) (by omega) (by decide)
  by_cases t : T.testBit 0 = true
  · rw [if_pos t] at q
    obtain ⟨a1, a2, a3⟩ := li_told_0 (tb := tb) (ln := ln) (nx := nx) (lk := lk) (hd := hd) (ht := ht) (bl := bl) (sd := sd) (rt := rt) (ll := ll) (lg := lg) (sv := sv) (sp := sp) (nm := nm) (po := po) (so := so) (wy := wy) hk q
    have w0 : it.getD 0 0 ≠ 0 := fun z => by
      have := (dT.2.1 0 (by decide)).mpr z
      rw [t] at this
      exact absurd this (by decide)
    refine Or.inr ⟨3, pl, by decide, a1, a2, a3, ?_, ?_⟩ <;> simp only [lin_0, onc_1 (by decide) w0, nml_lock (show (3 : Int32) ≠ 0 by decide), fin_lock (show (3 : Int32) ≠ 0 by decide)]
  · have t0 : T.testBit 0 = false := Bool.eq_false_iff.mpr t
    rw [if_neg t] at q
    have w0 : it.getD 0 0 = 0 := (dT.2.1 0 (by decide)).mp t0
    obtain ⟨B, hB⟩ : ∃ B, B = mTok tb ln nx 0 := ⟨_, rfl⟩
    obtain ⟨b1, b2, b3, b4⟩ := B
    have ho := onc_0 (tb := tb) (ln := ln) (at9 := nx) (pl := pl) (w := 0) (so := 0) (va := 0) (fp := fp) (by decide) w0
    rw [← hB] at ho
    obtain ⟨g1, g2, N⟩ := num_e hln hx hb hB.symm 1 (nI pl) va wr wa fp 1 99 0 (by decide) (by decide) (by decide) (Or.inl rfl)
    rcases N with ⟨x, kx, n1, n2, n3, n4⟩ | ⟨f, kx, v, f0, n1, n2⟩
    · have r1 := rs_ok_0 (lk := lk) (hd := hd) (ht := ht) (bl := bl) (sd := sd) n1
      obtain ⟨C, hC⟩ : ∃ C, C = mTok tb ln b1 b4 := ⟨_, rfl⟩
      obtain ⟨c1, c2, c3, c4⟩ := C
      have r2 := nml_ok (tb := tb) (ln := ln) (at9 := b1) n2
      rw [← hC] at r2
      obtain ⟨e1, E⟩ := end_e hln g2 hb hC.symm kx (nI b2) x
      rcases E with ⟨z4, lt, v, A⟩ | ⟨z4, k3, v, k4, A⟩
      · subst z4
        refine Or.inl ⟨c1, 4, nI c2, v, c4, T ||| 2 ^ 0, x, hd, ht, bl, sd, rt, ll, lg, sv, sp, nm, po, so, wy, zset 0 kn 7 x, lo, hi, s3, r3, sn, sq, w3, zset 0 it 0 1, hl, hs, li_ok_0 hk q r1 A, ?_, by omega, e1, gK_7 dK, dL, dG, dS, dP, dN, dQ, dW, gT_it dT (k := 0) (by decide)⟩
        simp only [lin_0, ho, r2, fin_4]
      · obtain ⟨a1, a2, a3⟩ := li_bad_0 (rt := rt) (ll := ll) (lg := lg) (sv := sv) (sp := sp) (nm := nm) (po := po) (so := so) (wy := wy) hk q r1 (by rw [A]; exact k4)
        rw [A] at a3
        refine Or.inr ⟨1, c2, by decide, a1, a2, a3, ?_, ?_⟩ <;> simp only [lin_0, ho, r2, fin_n z4]
    · obtain ⟨y1, y2, y3⟩ := rs_no_0 (lk := lk) (hd := hd) (ht := ht) (bl := bl) (sd := sd) n1
      obtain ⟨a1, a2, a3⟩ := li_no_0 (rt := rt) (ll := ll) (lg := lg) (sv := sv) (sp := sp) (nm := nm) (po := po) (so := so) (wy := wy) hk q y1
      rw [y2] at a2
      rw [y3] at a3
      have r2 := nml_no (tb := tb) (ln := ln) (at9 := b1) n2 f0
      refine Or.inr ⟨f, b2, f0, a1, a2, a3, ?_, ?_⟩ <;> simp only [lin_0, ho, r2, fin_lock f0]
set_option maxRecDepth 100000 in
set_option maxHeartbeats 4000000 in
theorem rs_ok_1 {tb : List Int32} {ln nx a : Nat} {wr wa kd sta va lk hd ht bl sd k2 s2 x : Int32} (h : rnG tb ln wr wa nx kd sta va 1 99 0 = (1, wr, wa, a, k2, s2, x)) : rsG tb ln wr wa nx kd sta va lk hd ht bl sd (nI 1) = (1, wr, wa, a, k2, s2, x, lk, x, ht, bl, sd) := by
  unfold rsG
  rw [if_neg (show ¬ (2 : Int32).toInt < (nI 1).toInt by decide), if_neg (show ¬ (2 : Int32).toInt < (nI 1).toInt by decide), zlet, h, if_pos (show (1 : Int32) ≠ 0 by decide)]
  rw [if_neg (show ¬ nI 1 = (0 : Int32) by decide), if_pos (show nI 1 = (1 : Int32) by decide)]
set_option maxRecDepth 100000 in
set_option maxHeartbeats 4000000 in
theorem rs_no_1 {tb : List Int32} {ln nx a : Nat} {wr wa kd sta va lk hd ht bl sd k2 s2 x f P : Int32} (h : rnG tb ln wr wa nx kd sta va 1 99 0 = (0, f, P, a, k2, s2, x)) : (rsG tb ln wr wa nx kd sta va lk hd ht bl sd (nI 1)).1 = 0 ∧ (rsG tb ln wr wa nx kd sta va lk hd ht bl sd (nI 1)).2.1 = f ∧ (rsG tb ln wr wa nx kd sta va lk hd ht bl sd (nI 1)).2.2.1 = P := by
  unfold rsG
  rw [if_neg (show ¬ (2 : Int32).toInt < (nI 1).toInt by decide), if_neg (show ¬ (2 : Int32).toInt < (nI 1).toInt by decide), zlet, h, if_neg (show ¬ (0 : Int32) ≠ 0 by decide)]
  exact ⟨rfl, rfl, rfl⟩
set_option maxRecDepth 100000 in
set_option maxHeartbeats 4000000 in
theorem ln_1 {tb : List Int32} {ln nx : Nat} {wr wa va fp n14 : Int32} {pl T : Nat} {lk hd ht bl sd : Int32} {rt : Int64} {ll lg sv : List Int32} {sp : Nat} {nm : List Int32} {po : List Int64} {so : Nat} {wy kn lo hi s3 r3 sn sq w3 it hl hs : List Int32} (hln : ln ≤ 700) (hb : ∀ i, i < ln → 0 ≤ (tb.getD i 0).toInt) (hk : lwF va (10 - 0 + 1) 0 = nI 1) (hx : nx ≤ ln) (D : dR T lk hd ht bl sd rt ll lg sv sp nm po so wy kn lo hi s3 r3 sn sq w3 it hl hs) : lnR tb ln nx wr wa fp n14 (liG tb ln wr wa nx 1 (nI pl) va (nI T) lk hd ht bl sd rt ll lg sv sp nm po so wy) (mLin tb ln nx pl 0 1 0 fp n14 sp so kn lo hi s3 r3 sn sq w3 it hl hs) := by
  obtain ⟨dK, dL, dG, dS, dP, dN, dQ, dW, dT⟩ := D
  have tT : T < 2 ^ 22 := dT.1
  have q := toG_e wr wa (nI pl) (T := T) (b := 1) (by omega) (by decide)
  by_cases t : T.testBit 1 = true
  · rw [if_pos t] at q
    obtain ⟨a1, a2, a3⟩ := li_told_1 (tb := tb) (ln := ln) (nx := nx) (lk := lk) (hd := hd) (ht := ht) (bl := bl) (sd := sd) (rt := rt) (ll := ll) (lg := lg) (sv := sv) (sp := sp) (nm := nm) (po := po) (so := so) (wy := wy) hk q
    have w0 : it.getD 1 0 ≠ 0 := fun z => by
      have := (dT.2.1 1 (by decide)).mpr z
      rw [t] at this
      exact absurd this (by decide)
    refine Or.inr ⟨3, pl, by decide, a1, a2, a3, ?_, ?_⟩ <;> simp only [lin_1, onc_1 (by decide) w0, nml_lock (show (3 : Int32) ≠ 0 by decide), fin_lock (show (3 : Int32) ≠ 0 by decide)]
  · have t0 : T.testBit 1 = false := Bool.eq_false_iff.mpr t
    rw [if_neg t] at q
    have w0 : it.getD 1 0 = 0 := (dT.2.1 1 (by decide)).mp t0
    obtain ⟨B, hB⟩ : ∃ B, B = mTok tb ln nx 1 := ⟨_, rfl⟩
    obtain ⟨b1, b2, b3, b4⟩ := B
    have ho := onc_0 (tb := tb) (ln := ln) (at9 := nx) (pl := pl) (w := 1) (so := 0) (va := 1) (fp := fp) (by decide) w0
    rw [← hB] at ho
    obtain ⟨g1, g2, N⟩ := num_e hln hx hb hB.symm 1 (nI pl) va wr wa fp 1 99 0 (by decide) (by decide) (by decide) (Or.inl rfl)
    rcases N with ⟨x, kx, n1, n2, n3, n4⟩ | ⟨f, kx, v, f0, n1, n2⟩
    · have r1 := rs_ok_1 (lk := lk) (hd := hd) (ht := ht) (bl := bl) (sd := sd) n1
      obtain ⟨C, hC⟩ : ∃ C, C = mTok tb ln b1 b4 := ⟨_, rfl⟩
      obtain ⟨c1, c2, c3, c4⟩ := C
      have r2 := nml_ok (tb := tb) (ln := ln) (at9 := b1) n2
      rw [← hC] at r2
      obtain ⟨e1, E⟩ := end_e hln g2 hb hC.symm kx (nI b2) x
      rcases E with ⟨z4, lt, v, A⟩ | ⟨z4, k3, v, k4, A⟩
      · subst z4
        refine Or.inl ⟨c1, 4, nI c2, v, c4, T ||| 2 ^ 1, lk, x, ht, bl, sd, rt, ll, lg, sv, sp, nm, po, so, wy, zset 0 kn 8 x, lo, hi, s3, r3, sn, sq, w3, zset 0 it 1 1, hl, hs, li_ok_1 hk q r1 A, ?_, by omega, e1, gK_8 dK, dL, dG, dS, dP, dN, dQ, dW, gT_it dT (k := 1) (by decide)⟩
        simp only [lin_1, ho, r2, fin_4]
      · obtain ⟨a1, a2, a3⟩ := li_bad_1 (rt := rt) (ll := ll) (lg := lg) (sv := sv) (sp := sp) (nm := nm) (po := po) (so := so) (wy := wy) hk q r1 (by rw [A]; exact k4)
        rw [A] at a3
        refine Or.inr ⟨1, c2, by decide, a1, a2, a3, ?_, ?_⟩ <;> simp only [lin_1, ho, r2, fin_n z4]
    · obtain ⟨y1, y2, y3⟩ := rs_no_1 (lk := lk) (hd := hd) (ht := ht) (bl := bl) (sd := sd) n1
      obtain ⟨a1, a2, a3⟩ := li_no_1 (rt := rt) (ll := ll) (lg := lg) (sv := sv) (sp := sp) (nm := nm) (po := po) (so := so) (wy := wy) hk q y1
      rw [y2] at a2
      rw [y3] at a3
      have r2 := nml_no (tb := tb) (ln := ln) (at9 := b1) n2 f0
      refine Or.inr ⟨f, b2, f0, a1, a2, a3, ?_, ?_⟩ <;> simp only [lin_1, ho, r2, fin_lock f0]
set_option maxRecDepth 100000 in
set_option maxHeartbeats 4000000 in
theorem rs_ok_2 {tb : List Int32} {ln nx a : Nat} {wr wa kd sta va lk hd ht bl sd k2 s2 x : Int32} (h : rnG tb ln wr wa nx kd sta va 1 99 0 = (1, wr, wa, a, k2, s2, x)) : rsG tb ln wr wa nx kd sta va lk hd ht bl sd (nI 2) = (1, wr, wa, a, k2, s2, x, lk, hd, x, bl, sd) := by
  unfold rsG
  rw [if_neg (show ¬ (2 : Int32).toInt < (nI 2).toInt by decide), if_neg (show ¬ (2 : Int32).toInt < (nI 2).toInt by decide), zlet, h, if_pos (show (1 : Int32) ≠ 0 by decide)]
  rw [if_neg (show ¬ nI 2 = (0 : Int32) by decide), if_neg (show ¬ nI 2 = (1 : Int32) by decide), if_pos (show nI 2 = (2 : Int32) by decide)]
set_option maxRecDepth 100000 in
set_option maxHeartbeats 4000000 in
theorem rs_no_2 {tb : List Int32} {ln nx a : Nat} {wr wa kd sta va lk hd ht bl sd k2 s2 x f P : Int32} (h : rnG tb ln wr wa nx kd sta va 1 99 0 = (0, f, P, a, k2, s2, x)) : (rsG tb ln wr wa nx kd sta va lk hd ht bl sd (nI 2)).1 = 0 ∧ (rsG tb ln wr wa nx kd sta va lk hd ht bl sd (nI 2)).2.1 = f ∧ (rsG tb ln wr wa nx kd sta va lk hd ht bl sd (nI 2)).2.2.1 = P := by
  unfold rsG
  rw [if_neg (show ¬ (2 : Int32).toInt < (nI 2).toInt by decide), if_neg (show ¬ (2 : Int32).toInt < (nI 2).toInt by decide), zlet, h, if_neg (show ¬ (0 : Int32) ≠ 0 by decide)]
  exact ⟨rfl, rfl, rfl⟩
set_option maxRecDepth 100000 in
set_option maxHeartbeats 4000000 in
theorem ln_2 {tb : List Int32} {ln nx : Nat} {wr wa va fp n14 : Int32} {pl T : Nat} {lk hd ht bl sd : Int32} {rt : Int64} {ll lg sv : List Int32} {sp : Nat} {nm : List Int32} {po : List Int64} {so : Nat} {wy kn lo hi s3 r3 sn sq w3 it hl hs : List Int32} (hln : ln ≤ 700) (hb : ∀ i, i < ln → 0 ≤ (tb.getD i 0).toInt) (hk : lwF va (10 - 0 + 1) 0 = nI 2) (hx : nx ≤ ln) (D : dR T lk hd ht bl sd rt ll lg sv sp nm po so wy kn lo hi s3 r3 sn sq w3 it hl hs) : lnR tb ln nx wr wa fp n14 (liG tb ln wr wa nx 1 (nI pl) va (nI T) lk hd ht bl sd rt ll lg sv sp nm po so wy) (mLin tb ln nx pl 0 2 0 fp n14 sp so kn lo hi s3 r3 sn sq w3 it hl hs) := by
  obtain ⟨dK, dL, dG, dS, dP, dN, dQ, dW, dT⟩ := D
  have tT : T < 2 ^ 22 := dT.1
  have q := toG_e wr wa (nI pl) (T := T) (b := 2) (by omega) (by decide)
  by_cases t : T.testBit 2 = true
  · rw [if_pos t] at q
    obtain ⟨a1, a2, a3⟩ := li_told_2 (tb := tb) (ln := ln) (nx := nx) (lk := lk) (hd := hd) (ht := ht) (bl := bl) (sd := sd) (rt := rt) (ll := ll) (lg := lg) (sv := sv) (sp := sp) (nm := nm) (po := po) (so := so) (wy := wy) hk q
    have w0 : it.getD 2 0 ≠ 0 := fun z => by
      have := (dT.2.1 2 (by decide)).mpr z
      rw [t] at this
      exact absurd this (by decide)
    refine Or.inr ⟨3, pl, by decide, a1, a2, a3, ?_, ?_⟩ <;> simp only [lin_2, onc_1 (by decide) w0, nml_lock (show (3 : Int32) ≠ 0 by decide), fin_lock (show (3 : Int32) ≠ 0 by decide)]
  · have t0 : T.testBit 2 = false := Bool.eq_false_iff.mpr t
    rw [if_neg t] at q
    have w0 : it.getD 2 0 = 0 := (dT.2.1 2 (by decide)).mp t0
    obtain ⟨B, hB⟩ : ∃ B, B = mTok tb ln nx 2 := ⟨_, rfl⟩
    obtain ⟨b1, b2, b3, b4⟩ := B
    have ho := onc_0 (tb := tb) (ln := ln) (at9 := nx) (pl := pl) (w := 2) (so := 0) (va := 2) (fp := fp) (by decide) w0
    rw [← hB] at ho
    obtain ⟨g1, g2, N⟩ := num_e hln hx hb hB.symm 1 (nI pl) va wr wa fp 1 99 0 (by decide) (by decide) (by decide) (Or.inl rfl)
    rcases N with ⟨x, kx, n1, n2, n3, n4⟩ | ⟨f, kx, v, f0, n1, n2⟩
    · have r1 := rs_ok_2 (lk := lk) (hd := hd) (ht := ht) (bl := bl) (sd := sd) n1
      obtain ⟨C, hC⟩ : ∃ C, C = mTok tb ln b1 b4 := ⟨_, rfl⟩
      obtain ⟨c1, c2, c3, c4⟩ := C
      have r2 := nml_ok (tb := tb) (ln := ln) (at9 := b1) n2
      rw [← hC] at r2
      obtain ⟨e1, E⟩ := end_e hln g2 hb hC.symm kx (nI b2) x
      rcases E with ⟨z4, lt, v, A⟩ | ⟨z4, k3, v, k4, A⟩
      · subst z4
        refine Or.inl ⟨c1, 4, nI c2, v, c4, T ||| 2 ^ 2, lk, hd, x, bl, sd, rt, ll, lg, sv, sp, nm, po, so, wy, zset 0 kn 9 x, lo, hi, s3, r3, sn, sq, w3, zset 0 it 2 1, hl, hs, li_ok_2 hk q r1 A, ?_, by omega, e1, gK_9 dK, dL, dG, dS, dP, dN, dQ, dW, gT_it dT (k := 2) (by decide)⟩
        simp only [lin_2, ho, r2, fin_4]
      · obtain ⟨a1, a2, a3⟩ := li_bad_2 (rt := rt) (ll := ll) (lg := lg) (sv := sv) (sp := sp) (nm := nm) (po := po) (so := so) (wy := wy) hk q r1 (by rw [A]; exact k4)
        rw [A] at a3
        refine Or.inr ⟨1, c2, by decide, a1, a2, a3, ?_, ?_⟩ <;> simp only [lin_2, ho, r2, fin_n z4]
    · obtain ⟨y1, y2, y3⟩ := rs_no_2 (lk := lk) (hd := hd) (ht := ht) (bl := bl) (sd := sd) n1
      obtain ⟨a1, a2, a3⟩ := li_no_2 (rt := rt) (ll := ll) (lg := lg) (sv := sv) (sp := sp) (nm := nm) (po := po) (so := so) (wy := wy) hk q y1
      rw [y2] at a2
      rw [y3] at a3
      have r2 := nml_no (tb := tb) (ln := ln) (at9 := b1) n2 f0
      refine Or.inr ⟨f, b2, f0, a1, a2, a3, ?_, ?_⟩ <;> simp only [lin_2, ho, r2, fin_lock f0]
set_option maxRecDepth 100000 in
set_option maxHeartbeats 4000000 in
theorem rs_ok_3 {tb : List Int32} {ln nx a : Nat} {wr wa kd sta va lk hd ht bl sd k2 s2 x : Int32} (h : rnG tb ln wr wa nx kd sta va 0 9 0 = (1, wr, wa, a, k2, s2, x)) : rsG tb ln wr wa nx kd sta va lk hd ht bl sd (nI 3) = (1, wr, wa, a, k2, s2, x, lk, hd, ht, x, sd) := by
  unfold rsG
  rw [if_pos (show (2 : Int32).toInt < (nI 3).toInt by decide), if_pos (show (2 : Int32).toInt < (nI 3).toInt by decide), if_neg (show ¬ nI 3 ≠ (3 : Int32) by decide), zlet, h, if_pos (show (1 : Int32) ≠ 0 by decide)]
  rw [if_neg (show ¬ nI 3 = (0 : Int32) by decide), if_neg (show ¬ nI 3 = (1 : Int32) by decide), if_neg (show ¬ nI 3 = (2 : Int32) by decide), if_pos (show nI 3 = (3 : Int32) by decide)]
set_option maxRecDepth 100000 in
set_option maxHeartbeats 4000000 in
theorem rs_no_3 {tb : List Int32} {ln nx a : Nat} {wr wa kd sta va lk hd ht bl sd k2 s2 x f P : Int32} (h : rnG tb ln wr wa nx kd sta va 0 9 0 = (0, f, P, a, k2, s2, x)) : (rsG tb ln wr wa nx kd sta va lk hd ht bl sd (nI 3)).1 = 0 ∧ (rsG tb ln wr wa nx kd sta va lk hd ht bl sd (nI 3)).2.1 = f ∧ (rsG tb ln wr wa nx kd sta va lk hd ht bl sd (nI 3)).2.2.1 = P := by
  unfold rsG
  rw [if_pos (show (2 : Int32).toInt < (nI 3).toInt by decide), if_pos (show (2 : Int32).toInt < (nI 3).toInt by decide), if_neg (show ¬ nI 3 ≠ (3 : Int32) by decide), zlet, h, if_neg (show ¬ (0 : Int32) ≠ 0 by decide)]
  exact ⟨rfl, rfl, rfl⟩
set_option maxRecDepth 100000 in
set_option maxHeartbeats 4000000 in
theorem ln_3 {tb : List Int32} {ln nx : Nat} {wr wa va fp n14 : Int32} {pl T : Nat} {lk hd ht bl sd : Int32} {rt : Int64} {ll lg sv : List Int32} {sp : Nat} {nm : List Int32} {po : List Int64} {so : Nat} {wy kn lo hi s3 r3 sn sq w3 it hl hs : List Int32} (hln : ln ≤ 700) (hb : ∀ i, i < ln → 0 ≤ (tb.getD i 0).toInt) (hk : lwF va (10 - 0 + 1) 0 = nI 3) (hx : nx ≤ ln) (D : dR T lk hd ht bl sd rt ll lg sv sp nm po so wy kn lo hi s3 r3 sn sq w3 it hl hs) : lnR tb ln nx wr wa fp n14 (liG tb ln wr wa nx 1 (nI pl) va (nI T) lk hd ht bl sd rt ll lg sv sp nm po so wy) (mLin tb ln nx pl 0 5 0 fp n14 sp so kn lo hi s3 r3 sn sq w3 it hl hs) := by
  obtain ⟨dK, dL, dG, dS, dP, dN, dQ, dW, dT⟩ := D
  have tT : T < 2 ^ 22 := dT.1
  have q := toG_e wr wa (nI pl) (T := T) (b := 3) (by omega) (by decide)
  by_cases t : T.testBit 3 = true
  · rw [if_pos t] at q
    obtain ⟨a1, a2, a3⟩ := li_told_3 (tb := tb) (ln := ln) (nx := nx) (lk := lk) (hd := hd) (ht := ht) (bl := bl) (sd := sd) (rt := rt) (ll := ll) (lg := lg) (sv := sv) (sp := sp) (nm := nm) (po := po) (so := so) (wy := wy) hk q
    have w0 : it.getD 5 0 ≠ 0 := fun z => by
      have := (dT.2.1 3 (by decide)).mpr z
      rw [t] at this
      exact absurd this (by decide)
    refine Or.inr ⟨3, pl, by decide, a1, a2, a3, ?_, ?_⟩ <;> simp only [lin_5, onc_1 (by decide) w0, nml_lock (show (3 : Int32) ≠ 0 by decide), fin_lock (show (3 : Int32) ≠ 0 by decide)]
  · have t0 : T.testBit 3 = false := Bool.eq_false_iff.mpr t
    rw [if_neg t] at q
    have w0 : it.getD 5 0 = 0 := (dT.2.1 3 (by decide)).mp t0
    obtain ⟨B, hB⟩ : ∃ B, B = mTok tb ln nx 5 := ⟨_, rfl⟩
    obtain ⟨b1, b2, b3, b4⟩ := B
    have ho := onc_0 (tb := tb) (ln := ln) (at9 := nx) (pl := pl) (w := 5) (so := 0) (va := 5) (fp := fp) (by decide) w0
    rw [← hB] at ho
    obtain ⟨g1, g2, N⟩ := num_e hln hx hb hB.symm 1 (nI pl) va wr wa fp 0 9 0 (by decide) (by decide) (by decide) (Or.inl rfl)
    rcases N with ⟨x, kx, n1, n2, n3, n4⟩ | ⟨f, kx, v, f0, n1, n2⟩
    · have r1 := rs_ok_3 (lk := lk) (hd := hd) (ht := ht) (bl := bl) (sd := sd) n1
      obtain ⟨C, hC⟩ : ∃ C, C = mTok tb ln b1 b4 := ⟨_, rfl⟩
      obtain ⟨c1, c2, c3, c4⟩ := C
      have r2 := nml_ok (tb := tb) (ln := ln) (at9 := b1) n2
      rw [← hC] at r2
      obtain ⟨e1, E⟩ := end_e hln g2 hb hC.symm kx (nI b2) x
      rcases E with ⟨z4, lt, v, A⟩ | ⟨z4, k3, v, k4, A⟩
      · subst z4
        refine Or.inl ⟨c1, 4, nI c2, v, c4, T ||| 2 ^ 3, lk, hd, ht, x, sd, rt, ll, lg, sv, sp, nm, po, so, wy, zset 0 kn 10 x, lo, hi, s3, r3, sn, sq, w3, zset 0 it 5 1, hl, hs, li_ok_3 hk q r1 A, ?_, by omega, e1, gK_10 dK, dL, dG, dS, dP, dN, dQ, dW, gT_it dT (k := 3) (by decide)⟩
        simp only [lin_5, ho, r2, fin_4]
      · obtain ⟨a1, a2, a3⟩ := li_bad_3 (rt := rt) (ll := ll) (lg := lg) (sv := sv) (sp := sp) (nm := nm) (po := po) (so := so) (wy := wy) hk q r1 (by rw [A]; exact k4)
        rw [A] at a3
        refine Or.inr ⟨1, c2, by decide, a1, a2, a3, ?_, ?_⟩ <;> simp only [lin_5, ho, r2, fin_n z4]
    · obtain ⟨y1, y2, y3⟩ := rs_no_3 (lk := lk) (hd := hd) (ht := ht) (bl := bl) (sd := sd) n1
      obtain ⟨a1, a2, a3⟩ := li_no_3 (rt := rt) (ll := ll) (lg := lg) (sv := sv) (sp := sp) (nm := nm) (po := po) (so := so) (wy := wy) hk q y1
      rw [y2] at a2
      rw [y3] at a3
      have r2 := nml_no (tb := tb) (ln := ln) (at9 := b1) n2 f0
      refine Or.inr ⟨f, b2, f0, a1, a2, a3, ?_, ?_⟩ <;> simp only [lin_5, ho, r2, fin_lock f0]
set_option maxRecDepth 100000 in
set_option maxHeartbeats 4000000 in
theorem rs_ok_4 {tb : List Int32} {ln nx a : Nat} {wr wa kd sta va lk hd ht bl sd k2 s2 x : Int32} (h : rnG tb ln wr wa nx kd sta va 0 99999 0 = (1, wr, wa, a, k2, s2, x)) : rsG tb ln wr wa nx kd sta va lk hd ht bl sd (nI 4) = (1, wr, wa, a, k2, s2, x, lk, hd, ht, bl, x) := by
  unfold rsG
  rw [if_pos (show (2 : Int32).toInt < (nI 4).toInt by decide), if_pos (show (2 : Int32).toInt < (nI 4).toInt by decide), if_pos (show nI 4 ≠ (3 : Int32) by decide), zlet, h, if_pos (show (1 : Int32) ≠ 0 by decide)]
  rw [if_neg (show ¬ nI 4 = (0 : Int32) by decide), if_neg (show ¬ nI 4 = (1 : Int32) by decide), if_neg (show ¬ nI 4 = (2 : Int32) by decide), if_neg (show ¬ nI 4 = (3 : Int32) by decide)]
set_option maxRecDepth 100000 in
set_option maxHeartbeats 4000000 in
theorem rs_no_4 {tb : List Int32} {ln nx a : Nat} {wr wa kd sta va lk hd ht bl sd k2 s2 x f P : Int32} (h : rnG tb ln wr wa nx kd sta va 0 99999 0 = (0, f, P, a, k2, s2, x)) : (rsG tb ln wr wa nx kd sta va lk hd ht bl sd (nI 4)).1 = 0 ∧ (rsG tb ln wr wa nx kd sta va lk hd ht bl sd (nI 4)).2.1 = f ∧ (rsG tb ln wr wa nx kd sta va lk hd ht bl sd (nI 4)).2.2.1 = P := by
  unfold rsG
  rw [if_pos (show (2 : Int32).toInt < (nI 4).toInt by decide), if_pos (show (2 : Int32).toInt < (nI 4).toInt by decide), if_pos (show nI 4 ≠ (3 : Int32) by decide), zlet, h, if_neg (show ¬ (0 : Int32) ≠ 0 by decide)]
  exact ⟨rfl, rfl, rfl⟩
set_option maxRecDepth 100000 in
set_option maxHeartbeats 4000000 in
theorem ln_4 {tb : List Int32} {ln nx : Nat} {wr wa va fp n14 : Int32} {pl T : Nat} {lk hd ht bl sd : Int32} {rt : Int64} {ll lg sv : List Int32} {sp : Nat} {nm : List Int32} {po : List Int64} {so : Nat} {wy kn lo hi s3 r3 sn sq w3 it hl hs : List Int32} (hln : ln ≤ 700) (hb : ∀ i, i < ln → 0 ≤ (tb.getD i 0).toInt) (hk : lwF va (10 - 0 + 1) 0 = nI 4) (hx : nx ≤ ln) (D : dR T lk hd ht bl sd rt ll lg sv sp nm po so wy kn lo hi s3 r3 sn sq w3 it hl hs) : lnR tb ln nx wr wa fp n14 (liG tb ln wr wa nx 1 (nI pl) va (nI T) lk hd ht bl sd rt ll lg sv sp nm po so wy) (mLin tb ln nx pl 0 6 0 fp n14 sp so kn lo hi s3 r3 sn sq w3 it hl hs) := by
  obtain ⟨dK, dL, dG, dS, dP, dN, dQ, dW, dT⟩ := D
  have tT : T < 2 ^ 22 := dT.1
  have q := toG_e wr wa (nI pl) (T := T) (b := 4) (by omega) (by decide)
  by_cases t : T.testBit 4 = true
  · rw [if_pos t] at q
    obtain ⟨a1, a2, a3⟩ := li_told_4 (tb := tb) (ln := ln) (nx := nx) (lk := lk) (hd := hd) (ht := ht) (bl := bl) (sd := sd) (rt := rt) (ll := ll) (lg := lg) (sv := sv) (sp := sp) (nm := nm) (po := po) (so := so) (wy := wy) hk q
    have w0 : it.getD 6 0 ≠ 0 := fun z => by
      have := (dT.2.1 4 (by decide)).mpr z
      rw [t] at this
      exact absurd this (by decide)
    refine Or.inr ⟨3, pl, by decide, a1, a2, a3, ?_, ?_⟩ <;> simp only [lin_6, onc_1 (by decide) w0, nml_lock (show (3 : Int32) ≠ 0 by decide), fin_lock (show (3 : Int32) ≠ 0 by decide)]
  · have t0 : T.testBit 4 = false := Bool.eq_false_iff.mpr t
    rw [if_neg t] at q
    have w0 : it.getD 6 0 = 0 := (dT.2.1 4 (by decide)).mp t0
    obtain ⟨B, hB⟩ : ∃ B, B = mTok tb ln nx 6 := ⟨_, rfl⟩
    obtain ⟨b1, b2, b3, b4⟩ := B
    have ho := onc_0 (tb := tb) (ln := ln) (at9 := nx) (pl := pl) (w := 6) (so := 0) (va := 6) (fp := fp) (by decide) w0
    rw [← hB] at ho
    obtain ⟨g1, g2, N⟩ := num_e hln hx hb hB.symm 1 (nI pl) va wr wa fp 0 99999 0 (by decide) (by decide) (by decide) (Or.inl rfl)
    rcases N with ⟨x, kx, n1, n2, n3, n4⟩ | ⟨f, kx, v, f0, n1, n2⟩
    · have r1 := rs_ok_4 (lk := lk) (hd := hd) (ht := ht) (bl := bl) (sd := sd) n1
      obtain ⟨C, hC⟩ : ∃ C, C = mTok tb ln b1 b4 := ⟨_, rfl⟩
      obtain ⟨c1, c2, c3, c4⟩ := C
      have r2 := nml_ok (tb := tb) (ln := ln) (at9 := b1) n2
      rw [← hC] at r2
      obtain ⟨e1, E⟩ := end_e hln g2 hb hC.symm kx (nI b2) x
      rcases E with ⟨z4, lt, v, A⟩ | ⟨z4, k3, v, k4, A⟩
      · subst z4
        refine Or.inl ⟨c1, 4, nI c2, v, c4, T ||| 2 ^ 4, lk, hd, ht, bl, x, rt, ll, lg, sv, sp, nm, po, so, wy, zset 0 kn 11 x, lo, hi, s3, r3, sn, sq, w3, zset 0 it 6 1, hl, hs, li_ok_4 hk q r1 A, ?_, by omega, e1, gK_11 dK, dL, dG, dS, dP, dN, dQ, dW, gT_it dT (k := 4) (by decide)⟩
        simp only [lin_6, ho, r2, fin_4]
      · obtain ⟨a1, a2, a3⟩ := li_bad_4 (rt := rt) (ll := ll) (lg := lg) (sv := sv) (sp := sp) (nm := nm) (po := po) (so := so) (wy := wy) hk q r1 (by rw [A]; exact k4)
        rw [A] at a3
        refine Or.inr ⟨1, c2, by decide, a1, a2, a3, ?_, ?_⟩ <;> simp only [lin_6, ho, r2, fin_n z4]
    · obtain ⟨y1, y2, y3⟩ := rs_no_4 (lk := lk) (hd := hd) (ht := ht) (bl := bl) (sd := sd) n1
      obtain ⟨a1, a2, a3⟩ := li_no_4 (rt := rt) (ll := ll) (lg := lg) (sv := sv) (sp := sp) (nm := nm) (po := po) (so := so) (wy := wy) hk q y1
      rw [y2] at a2
      rw [y3] at a3
      have r2 := nml_no (tb := tb) (ln := ln) (at9 := b1) n2 f0
      refine Or.inr ⟨f, b2, f0, a1, a2, a3, ?_, ?_⟩ <;> simp only [lin_6, ho, r2, fin_lock f0]
