/-! limit, speed, rest: a line of each, on both sides. -/
theorem six_ad {j : Nat} (h : j < 6) : ((6 : Int32) + nI j).toNatClampNeg = 6 + j := by
  rw [show (6 : Int32) = nI 6 from rfl, nI_ad, nI_clamp (by omega)]
set_option maxRecDepth 100000 in
set_option maxHeartbeats 4000000 in
theorem ln_6 {tb : List Int32} {ln nx : Nat} {wr wa va fp n14 : Int32} {pl T : Nat} {lk hd ht bl sd : Int32} {rt : Int64} {ll lg sv : List Int32} {sp : Nat} {nm : List Int32} {po : List Int64} {so : Nat} {wy kn lo hi s3 r3 sn sq w3 it hl hs : List Int32} (hln : ln ≤ 700) (hb : ∀ i, i < ln → 0 ≤ (tb.getD i 0).toInt) (hk : lwF va (10 - 0 + 1) 0 = nI 6) (hx : nx ≤ ln) (D : dR T lk hd ht bl sd rt ll lg sv sp nm po so wy kn lo hi s3 r3 sn sq w3 it hl hs) : lnR tb ln nx wr wa fp n14 (liG tb ln wr wa nx 1 (nI pl) va (nI T) lk hd ht bl sd rt ll lg sv sp nm po so wy) (mLin tb ln nx pl 0 3 0 fp n14 sp so kn lo hi s3 r3 sn sq w3 it hl hs) := by
  obtain ⟨dK, dL, dG, dS, dP, dN, dQ, dW, dT⟩ := D
  have tT : T < 2 ^ 22 := dT.1
  have z2 : (2 : Int32) ≠ 0 := by decide
  have z1 : (1 : Int32) ≠ 0 := by decide
  rcases rdJ_e (T := T) (OFF := 10) (pl := pl) (so9 := 0) (w := 3) (hd := hl) hln hx hb dT.2.2.1 1 (nI pl) va wr wa fp with ⟨j, b1, b2, kx, b4, hj, t, g1, g2, n1, m1⟩ | ⟨f, b1, b2, kx, v, f0, n1, m1, m2⟩ | ⟨j, b1, b2, kx, hj, t, n1, m1, m2⟩
  · have q := toG_e wr wa (nI b2) (T := T) (b := 10 + j) (by omega) (by omega)
    rw [if_neg (by rw [t]; decide)] at q
    have q10 : (10 : Int32) + nI j = nI (10 + j) := nI_ad 10 j
    have lr := low_r hj
    obtain ⟨C, hC⟩ : ∃ C, C = mTok tb ln b1 b4 := ⟨_, rfl⟩
    obtain ⟨c1, c2, c3, c4⟩ := C
    rw [← hC] at m1
    obtain ⟨g3, g4, N⟩ := num_e hln g2 hb hC.symm kx (nI b2) (nI j) wr wa fp (zLow.getD j 0) (zHigh.getD j 0) 1 (by omega) (by omega) (by omega) (Or.inr rfl)
    rcases N with ⟨x, ky, n2, n3, n4, n5⟩ | ⟨f, ky, v, f0, n2, n3⟩
    · obtain ⟨D, hD⟩ : ∃ D, D = mTok tb ln c1 c4 := ⟨_, rfl⟩
      obtain ⟨d1, d2, d3, d4⟩ := D
      have z9 : (zset 0 ll j x).getD j 0 = x := by rw [zset_get, if_pos rfl]
      obtain ⟨g5, g6, N⟩ := num_e hln g4 hb hD.symm ky (nI c2) x wr wa fp x (zHigh.getD j 0) 1 (by omega) (by omega) (by omega) (Or.inr rfl)
      rcases N with ⟨y, kz, n6, n7, n8, n9⟩ | ⟨f, kz, v, f0, n6, n7⟩
      · have r1 : rlG tb ln wr wa nx 1 (nI pl) va (nI T) ll lg = (1, wr, wa, d1, kz, nI d2, y, nI (T ||| 2 ^ (10 + j)), zset 0 ll j x, zset 0 lg j y) := by
          simp only [rlG, zlet, n1, q10, q, nI_clamp (show j < 2 ^ 31 by omega), n2, z9, n6]
          rfl
        rcases at_up n4 n7 with ⟨_, u, _, u2⟩ | ⟨u, _⟩ | ⟨u, _⟩
        · obtain ⟨E, hE⟩ : ∃ E, E = mTok tb ln d1 d4 := ⟨_, rfl⟩
          obtain ⟨e1, e2, e3, e4⟩ := E
          have r2 : mRdL tb ln nx pl 0 3 0 fp hl lo hi = (0, fp, e1, e2, e3, e4, zset 0 hl j 1, zset 0 lo (6 + j) x, zset 0 hi (6 + j) y) := by
            simp only [mRdL, zlet, m1, mLeO_j hj, mMoO_j hj, n3, go_0, ← hD, u, six_ad hj, if_pos u2, ← hE]
            rfl
          obtain ⟨e8, E⟩ := end_e hln g6 hb hE.symm kz (nI d2) y
          rcases E with ⟨z4, lt, v, A⟩ | ⟨z4, k3, v, k4, A⟩
          · subst z4
            refine Or.inl ⟨e1, 4, nI e2, v, e4, T ||| 2 ^ (10 + j), lk, hd, ht, bl, sd, rt, zset 0 ll j x, zset 0 lg j y, sv, sp, nm, po, so, wy, kn, zset 0 lo (6 + j) x, zset 0 hi (6 + j) y, s3, r3, sn, sq, w3, it, zset 0 hl j 1, hs, li_ok_6 hk r1 A, ?_, by omega, e8, dK, gL_set dL j x, gL_set dG j y, dS, dP, dN, dQ, dW, gT_hl dT hj⟩
            simp only [lin_3, r2, fin_4]
          · obtain ⟨a1, a2, a3⟩ := li_bad_6 (lk := lk) (hd := hd) (ht := ht) (bl := bl) (sd := sd) (rt := rt) (ll := ll) (lg := lg) (sv := sv) (sp := sp) (nm := nm) (po := po) (so := so) (wy := wy) hk r1 (by rw [A]; exact k4)
            rw [A] at a3
            refine Or.inr ⟨1, e2, by decide, a1, a2, a3, ?_, ?_⟩ <;> simp only [lin_3, r2, fin_n z4]
        · exact absurd rfl u
        · exact absurd u (by decide)
      · have r1 : rlG tb ln wr wa nx 1 (nI pl) va (nI T) ll lg = (0, f, nI d2, d1, kz, nI d2, v, nI (T ||| 2 ^ (10 + j)), zset 0 ll j x, lg) := by
          simp only [rlG, zlet, n1, q10, q, nI_clamp (show j < 2 ^ 31 by omega), n2, z9, n6]
          rfl
        obtain ⟨a1, a2, a3⟩ := li_no_6 (lk := lk) (hd := hd) (ht := ht) (bl := bl) (sd := sd) (rt := rt) (ll := ll) (lg := lg) (sv := sv) (sp := sp) (nm := nm) (po := po) (so := so) (wy := wy) hk (show (rlG tb ln wr wa nx 1 (nI pl) va (nI T) ll lg).1 = 0 by rw [r1])
        rw [r1] at a2 a3
        have m9 : (mRdL tb ln nx pl 0 3 0 fp hl lo hi).1 = f ∧ (mRdL tb ln nx pl 0 3 0 fp hl lo hi).2.1 = nI d2 := by
          rcases at_up n4 n7 with ⟨u, _⟩ | ⟨u, u2⟩ | ⟨u, u2, y, u3, u4⟩
          · exact absurd u f0
          · simp only [mRdL, zlet, m1, mLeO_j hj, mMoO_j hj, n3, go_0, ← hD, u2, if_pos f0]
            exact ⟨trivial, trivial⟩
          · subst u
            simp only [mRdL, zlet, m1, mLeO_j hj, mMoO_j hj, n3, go_0, ← hD, u3, wro_0]
            rw [if_neg (fun z => z rfl), if_neg (by omega)]
            exact ⟨rfl, rfl⟩
        refine Or.inr ⟨f, d2, f0, a1, a2, a3, ?_, ?_⟩
        · simp only [lin_3, m9.1, fin_lock f0]
        · simp only [lin_3, m9.1, m9.2, fin_lock f0]
    · have r1 : rlG tb ln wr wa nx 1 (nI pl) va (nI T) ll lg = (0, f, nI c2, c1, ky, nI c2, v, nI (T ||| 2 ^ (10 + j)), ll, lg) := by
        simp only [rlG, zlet, n1, q10, q, nI_clamp (show j < 2 ^ 31 by omega), n2]
        rfl
      obtain ⟨a1, a2, a3⟩ := li_no_6 (lk := lk) (hd := hd) (ht := ht) (bl := bl) (sd := sd) (rt := rt) (ll := ll) (lg := lg) (sv := sv) (sp := sp) (nm := nm) (po := po) (so := so) (wy := wy) hk (show (rlG tb ln wr wa nx 1 (nI pl) va (nI T) ll lg).1 = 0 by rw [r1])
      rw [r1] at a2 a3
      have m9 : (mRdL tb ln nx pl 0 3 0 fp hl lo hi).1 = f ∧ (mRdL tb ln nx pl 0 3 0 fp hl lo hi).2.1 = nI c2 := by
        simp only [mRdL, zlet, m1, mLeO_j hj, mMoO_j hj, n3, go_lock f0, at_lock f0, if_pos f0]
        exact ⟨trivial, trivial⟩
      refine Or.inr ⟨f, c2, f0, a1, a2, a3, ?_, ?_⟩
      · simp only [lin_3, m9.1, fin_lock f0]
      · simp only [lin_3, m9.1, m9.2, fin_lock f0]
  · have r1 : rlG tb ln wr wa nx 1 (nI pl) va (nI T) ll lg = (0, f, nI b2, b1, kx, nI b2, v, nI T, ll, lg) := by
      simp only [rlG, zlet, n1]
      rfl
    obtain ⟨a1, a2, a3⟩ := li_no_6 (lk := lk) (hd := hd) (ht := ht) (bl := bl) (sd := sd) (rt := rt) (ll := ll) (lg := lg) (sv := sv) (sp := sp) (nm := nm) (po := po) (so := so) (wy := wy) hk (show (rlG tb ln wr wa nx 1 (nI pl) va (nI T) ll lg).1 = 0 by rw [r1])
    rw [r1] at a2 a3
    have m9 := rdL_lock (lo := lo) (hi := hi) f0 m1 m2
    refine Or.inr ⟨f, b2, f0, a1, a2, a3, ?_, ?_⟩
    · simp only [lin_3, m9.1, fin_lock f0]
    · simp only [lin_3, m9.1, m9.2, fin_lock f0]
  · have q := toG_e wr wa (nI b2) (T := T) (b := 10 + j) (by omega) (by omega)
    rw [if_pos t] at q
    have q10 : (10 : Int32) + nI j = nI (10 + j) := nI_ad 10 j
    have r1 : rlG tb ln wr wa nx 1 (nI pl) va (nI T) ll lg = (0, 3, nI b2, b1, kx, nI b2, nI j, nI T, ll, lg) := by
      simp only [rlG, zlet, n1, q10, q]
      rfl
    obtain ⟨a1, a2, a3⟩ := li_no_6 (lk := lk) (hd := hd) (ht := ht) (bl := bl) (sd := sd) (rt := rt) (ll := ll) (lg := lg) (sv := sv) (sp := sp) (nm := nm) (po := po) (so := so) (wy := wy) hk (show (rlG tb ln wr wa nx 1 (nI pl) va (nI T) ll lg).1 = 0 by rw [r1])
    rw [r1] at a2 a3
    have z3 : (3 : Int32) ≠ 0 := by decide
    have m9 := rdL_lock (lo := lo) (hi := hi) z3 m1 m2
    refine Or.inr ⟨3, b2, z3, a1, a2, a3, ?_, ?_⟩
    · simp only [lin_3, m9.1, fin_lock z3]
    · simp only [lin_3, m9.1, m9.2, fin_lock z3]
set_option maxRecDepth 100000 in
set_option maxHeartbeats 4000000 in
theorem ln_7 {tb : List Int32} {ln nx : Nat} {wr wa va fp n14 : Int32} {pl T : Nat} {lk hd ht bl sd : Int32} {rt : Int64} {ll lg sv : List Int32} {sp : Nat} {nm : List Int32} {po : List Int64} {so : Nat} {wy kn lo hi s3 r3 sn sq w3 it hl hs : List Int32} (hln : ln ≤ 700) (hb : ∀ i, i < ln → 0 ≤ (tb.getD i 0).toInt) (hk : lwF va (10 - 0 + 1) 0 = nI 7) (hx : nx ≤ ln) (D : dR T lk hd ht bl sd rt ll lg sv sp nm po so wy kn lo hi s3 r3 sn sq w3 it hl hs) : lnR tb ln nx wr wa fp n14 (liG tb ln wr wa nx 1 (nI pl) va (nI T) lk hd ht bl sd rt ll lg sv sp nm po so wy) (mLin tb ln nx pl 0 4 0 fp n14 sp so kn lo hi s3 r3 sn sq w3 it hl hs) := by
  obtain ⟨dK, dL, dG, dS, dP, dN, dQ, dW, dT⟩ := D
  have tT : T < 2 ^ 22 := dT.1
  rcases rdJ_e (T := T) (OFF := 16) (pl := pl) (so9 := 0) (w := 4) (hd := hs) hln hx hb dT.2.2.2 1 (nI pl) va wr wa fp with ⟨j, b1, b2, kx, b4, hj, t, g1, g2, n1, m1⟩ | ⟨f, b1, b2, kx, v, f0, n1, m1, m2⟩ | ⟨j, b1, b2, kx, hj, t, n1, m1, m2⟩
  · have q := toG_e wr wa (nI b2) (T := T) (b := 16 + j) (by omega) (by omega)
    rw [if_neg (by rw [t]; decide)] at q
    have q10 : (16 : Int32) + nI j = nI (16 + j) := nI_ad 16 j
    obtain ⟨C, hC⟩ : ∃ C, C = mTok tb ln b1 b4 := ⟨_, rfl⟩
    obtain ⟨c1, c2, c3, c4⟩ := C
    rw [← hC] at m1
    obtain ⟨g3, g4, N⟩ := num_e hln g2 hb hC.symm kx (nI b2) (nI j) wr wa fp 1 32 0 (by decide) (by decide) (by decide) (Or.inl rfl)
    rcases N with ⟨x, ky, n2, n3, n4, n5⟩ | ⟨f, ky, v, f0, n2, n3⟩
    · have r1 : rpG tb ln wr wa nx 1 (nI pl) va (nI T) sv = (1, wr, wa, c1, ky, nI c2, x, nI (T ||| 2 ^ (16 + j)), zset 0 sv j x) := by
        simp only [rpG, zlet, n1, q10, q, nI_clamp (show j < 2 ^ 31 by omega), n2]
        rfl
      obtain ⟨E, hE⟩ : ∃ E, E = mTok tb ln c1 c4 := ⟨_, rfl⟩
      obtain ⟨e1, e2, e3, e4⟩ := E
      have m3 := nml_ok (tb := tb) (ln := ln) (at9 := c1) n3
      rw [← hE] at m3
      have r2 : mRdS tb ln nx pl 0 4 0 fp hs s3 = (0, fp, e1, e2, e3, e4, zset 0 hs j 1, zset 0 s3 (6 + j) x) := by
        simp only [mRdS, zlet, m1, m3, six_ad hj]
      obtain ⟨e8, E⟩ := end_e hln g4 hb hE.symm ky (nI c2) x
      rcases E with ⟨z4, lt, v, A⟩ | ⟨z4, k3, v, k4, A⟩
      · subst z4
        refine Or.inl ⟨e1, 4, nI e2, v, e4, T ||| 2 ^ (16 + j), lk, hd, ht, bl, sd, rt, ll, lg, zset 0 sv j x, sp, nm, po, so, wy, kn, lo, hi, zset 0 s3 (6 + j) x, r3, sn, sq, w3, it, hl, zset 0 hs j 1, li_ok_7 hk r1 A, ?_, by omega, e8, dK, dL, dG, gL_set dS j x, dP, dN, dQ, dW, gT_hs dT hj⟩
        simp only [lin_4, r2, fin_4]
      · obtain ⟨a1, a2, a3⟩ := li_bad_7 (lk := lk) (hd := hd) (ht := ht) (bl := bl) (sd := sd) (rt := rt) (ll := ll) (lg := lg) (sv := sv) (sp := sp) (nm := nm) (po := po) (so := so) (wy := wy) hk r1 (by rw [A]; exact k4)
        rw [A] at a3
        refine Or.inr ⟨1, e2, by decide, a1, a2, a3, ?_, ?_⟩ <;> simp only [lin_4, r2, fin_n z4]
    · have r1 : rpG tb ln wr wa nx 1 (nI pl) va (nI T) sv = (0, f, nI c2, c1, ky, nI c2, v, nI (T ||| 2 ^ (16 + j)), sv) := by
        simp only [rpG, zlet, n1, q10, q, nI_clamp (show j < 2 ^ 31 by omega), n2]
        rfl
      obtain ⟨a1, a2, a3⟩ := li_no_7 (lk := lk) (hd := hd) (ht := ht) (bl := bl) (sd := sd) (rt := rt) (ll := ll) (lg := lg) (sv := sv) (sp := sp) (nm := nm) (po := po) (so := so) (wy := wy) hk (show (rpG tb ln wr wa nx 1 (nI pl) va (nI T) sv).1 = 0 by rw [r1])
      rw [r1] at a2 a3
      have m3 := nml_no (tb := tb) (ln := ln) (at9 := c1) n3 f0
      have m9 : (mRdS tb ln nx pl 0 4 0 fp hs s3).1 = f ∧ (mRdS tb ln nx pl 0 4 0 fp hs s3).2.1 = nI c2 := by
        simp only [mRdS, zlet, m1, m3]
        exact ⟨trivial, trivial⟩
      refine Or.inr ⟨f, c2, f0, a1, a2, a3, ?_, ?_⟩
      · simp only [lin_4, m9.1, fin_lock f0]
      · simp only [lin_4, m9.1, m9.2, fin_lock f0]
  · have r1 : rpG tb ln wr wa nx 1 (nI pl) va (nI T) sv = (0, f, nI b2, b1, kx, nI b2, v, nI T, sv) := by
      simp only [rpG, zlet, n1]
      rfl
    obtain ⟨a1, a2, a3⟩ := li_no_7 (lk := lk) (hd := hd) (ht := ht) (bl := bl) (sd := sd) (rt := rt) (ll := ll) (lg := lg) (sv := sv) (sp := sp) (nm := nm) (po := po) (so := so) (wy := wy) hk (show (rpG tb ln wr wa nx 1 (nI pl) va (nI T) sv).1 = 0 by rw [r1])
    rw [r1] at a2 a3
    have m9 := rdS_lock (sv := s3) f0 m1 m2
    refine Or.inr ⟨f, b2, f0, a1, a2, a3, ?_, ?_⟩
    · simp only [lin_4, m9.1, fin_lock f0]
    · simp only [lin_4, m9.1, m9.2, fin_lock f0]
  · have q := toG_e wr wa (nI b2) (T := T) (b := 16 + j) (by omega) (by omega)
    rw [if_pos t] at q
    have q10 : (16 : Int32) + nI j = nI (16 + j) := nI_ad 16 j
    have r1 : rpG tb ln wr wa nx 1 (nI pl) va (nI T) sv = (0, 3, nI b2, b1, kx, nI b2, nI j, nI T, sv) := by
      simp only [rpG, zlet, n1, q10, q]
      rfl
    obtain ⟨a1, a2, a3⟩ := li_no_7 (lk := lk) (hd := hd) (ht := ht) (bl := bl) (sd := sd) (rt := rt) (ll := ll) (lg := lg) (sv := sv) (sp := sp) (nm := nm) (po := po) (so := so) (wy := wy) hk (show (rpG tb ln wr wa nx 1 (nI pl) va (nI T) sv).1 = 0 by rw [r1])
    rw [r1] at a2 a3
    have z3 : (3 : Int32) ≠ 0 := by decide
    have m9 := rdS_lock (sv := s3) z3 m1 m2
    refine Or.inr ⟨3, b2, z3, a1, a2, a3, ?_, ?_⟩
    · simp only [lin_4, m9.1, fin_lock z3]
    · simp only [lin_4, m9.1, m9.2, fin_lock z3]
set_option maxRecDepth 100000 in
set_option maxHeartbeats 4000000 in
theorem ln_5 {tb : List Int32} {ln nx : Nat} {wr wa va fp n14 : Int32} {pl T : Nat} {lk hd ht bl sd : Int32} {rt : Int64} {ll lg sv : List Int32} {sp : Nat} {nm : List Int32} {po : List Int64} {so : Nat} {wy kn lo hi s3 r3 sn sq w3 it hl hs : List Int32} (hln : ln ≤ 700) (hb : ∀ i, i < ln → 0 ≤ (tb.getD i 0).toInt) (hk : lwF va (10 - 0 + 1) 0 = nI 5) (hx : nx ≤ ln) (D : dR T lk hd ht bl sd rt ll lg sv sp nm po so wy kn lo hi s3 r3 sn sq w3 it hl hs) : lnR tb ln nx wr wa fp n14 (liG tb ln wr wa nx 1 (nI pl) va (nI T) lk hd ht bl sd rt ll lg sv sp nm po so wy) (mLin tb ln nx pl 0 7 0 fp n14 sp so kn lo hi s3 r3 sn sq w3 it hl hs) := by
  obtain ⟨dK, dL, dG, dS, dP, dN, dQ, dW, dT⟩ := D
  have tT : T < 2 ^ 22 := dT.1
  have q := toG_e wr wa (nI pl) (T := T) (b := 5) (by omega) (by decide)
  by_cases t : T.testBit 5 = true
  · rw [if_pos t] at q
    obtain ⟨a1, a2, a3⟩ := li_told_5 (tb := tb) (ln := ln) (nx := nx) (lk := lk) (hd := hd) (ht := ht) (bl := bl) (sd := sd) (rt := rt) (ll := ll) (lg := lg) (sv := sv) (sp := sp) (nm := nm) (po := po) (so := so) (wy := wy) hk q
    have w0 : it.getD 7 0 ≠ 0 := fun z => by
      have := (dT.2.1 5 (by decide)).mpr z
      rw [t] at this
      exact absurd this (by decide)
    have z3 : (3 : Int32) ≠ 0 := by decide
    have m9 : (mRdR tb ln nx pl 0 7 0 fp it r3).1 = 3 ∧ (mRdR tb ln nx pl 0 7 0 fp it r3).2.1 = nI pl := by
      have l := rdP_lock (tb := tb) (sz := ln) (at9 := nx) (pl := pl) (k := 6) (so := 0) (va := 7) (fp := nI pl) (qq := r3) z3
      simp only [mRdR, zlet, onc_1 (show 7 < 10 by decide) w0]
      exact l
    refine Or.inr ⟨3, pl, z3, a1, a2, a3, ?_, ?_⟩
    · simp only [lin_7, m9.1, fin_lock z3]
    · simp only [lin_7, m9.1, m9.2, fin_lock z3]
  · have t0 : T.testBit 5 = false := Bool.eq_false_iff.mpr t
    rw [if_neg t] at q
    have w0 : it.getD 7 0 = 0 := (dT.2.1 5 (by decide)).mp t0
    obtain ⟨B, hB⟩ : ∃ B, B = mTok tb ln nx 7 := ⟨_, rfl⟩
    obtain ⟨b1, b2, b3, b4⟩ := B
    have ho := onc_0 (tb := tb) (ln := ln) (at9 := nx) (pl := pl) (w := 7) (so := 0) (va := 7) (fp := fp) (by decide) w0
    rw [← hB] at ho
    rcases six_e (k := 6) hln hb ((6 - 0) + 1) 0 nx wr wa 1 (nI pl) va rt b1 b2 b3 b4 fp 7 r3 (by decide) (by decide) hx hB.symm (fun i hi => absurd hi (Nat.not_lt_zero i)) with ⟨n2, k2, s2, v2, rt2, p2, o2, w2, q2, v1, n1, m1, S, g1, g2, R, F⟩ | ⟨f, P, f0, n1, n2, n3, m1, m2⟩
    · have r1 : rrG tb ln wr wa nx 1 (nI pl) va rt = (1, wr, wa, n2, k2, s2, v2, rt2) := by
        unfold rrG
        rw [n1]
      obtain ⟨E, hE⟩ : ∃ E, E = mTok tb ln n2 v1 := ⟨_, rfl⟩
      obtain ⟨e1, e2, e3, e4⟩ := E
      have r2 : mRdR tb ln nx pl 0 7 0 fp it r3 = (0, fp, e1, e2, e3, e4, zset 0 it 7 1, q2) := by
        obtain ⟨h1, h2⟩ := Prod.mk.inj (hE.trans S)
        obtain ⟨h2, h3⟩ := Prod.mk.inj h2
        obtain ⟨h3, h4⟩ := Prod.mk.inj h3
        simp only [mRdR, mRdP, zlet, ho, m1]
        rw [← h1, ← h2, ← h3, ← h4]
      obtain ⟨e8, E⟩ := end_e hln g2 hb hE.symm k2 s2 v2
      rcases E with ⟨z4, lt, v, A⟩ | ⟨z4, k3, v, k4, A⟩
      · subst z4
        refine Or.inl ⟨e1, 4, nI e2, v, e4, T ||| 2 ^ 5, lk, hd, ht, bl, sd, rt2, ll, lg, sv, sp, nm, po, so, wy, kn, lo, hi, s3, q2, sn, sq, w3, zset 0 it 7 1, hl, hs, li_ok_5 hk q r1 A, ?_, by omega, e8, dK, dL, dG, dS, R, dN, dQ, dW, gT_it dT (k := 5) (by decide)⟩
        simp only [lin_7, r2, fin_4]
      · obtain ⟨a1, a2, a3⟩ := li_bad_5 (lk := lk) (hd := hd) (ht := ht) (bl := bl) (sd := sd) (rt := rt) (ll := ll) (lg := lg) (sv := sv) (sp := sp) (nm := nm) (po := po) (so := so) (wy := wy) hk q r1 (by rw [A]; exact k4)
        rw [A] at a3
        refine Or.inr ⟨1, e2, by decide, a1, a2, a3, ?_, ?_⟩ <;> simp only [lin_7, r2, fin_n z4]
    · obtain ⟨a1, a2, a3⟩ := li_no_5 (lk := lk) (hd := hd) (ht := ht) (bl := bl) (sd := sd) (rt := rt) (ll := ll) (lg := lg) (sv := sv) (sp := sp) (nm := nm) (po := po) (so := so) (wy := wy) hk q (show (rrG tb ln wr wa nx 1 (nI pl) va rt).1 = 0 from n1)
      have a2 := a2.trans (show (rrG tb ln wr wa nx 1 (nI pl) va rt).2.1 = f from n2)
      have a3 := a3.trans (show (rrG tb ln wr wa nx 1 (nI pl) va rt).2.2.1 = nI P from n3)
      have m9 : (mRdR tb ln nx pl 0 7 0 fp it r3).1 = f ∧ (mRdR tb ln nx pl 0 7 0 fp it r3).2.1 = nI P := by
        simp only [mRdR, mRdP, zlet, ho]
        exact ⟨m1, m2⟩
      refine Or.inr ⟨f, P, f0, a1, a2, a3, ?_, ?_⟩
      · simp only [lin_7, m9.1, fin_lock f0]
      · simp only [lin_7, m9.1, m9.2, fin_lock f0]
