/-! spot and go: a line of each, on both sides. -/
theorem sp_e {sp : Nat} {nm sn : List Int32} (hs : sp ≤ 8) (h : gN sp nm sn) (x : Int32) (m : Nat) : ∀ k, k ≤ sp → snF sp nm x m k = mspF sn 8 sp x m k := by
  induction m with
  | zero => intro k _; rfl
  | succ m ih =>
    intro k hk
    have q1 := nI_toInt (n := sp) (by omega)
    have q2 := nI_toInt (n := k) (by omega)
    rw [snF, mspF, q1, q2]
    by_cases c : (sp : Int) ≤ k
    · rw [if_pos c, if_pos c]
    · rw [if_neg c, if_neg c, ih (k + 1) (by omega), h k (by omega)]
theorem gN_set {sp : Nat} {nm sn : List Int32} (h : gN sp nm sn) (x : Int32) : gN (sp + 1) (zset 0 nm sp x) (zset 0 sn (8 + sp) x) := by
  intro k hk
  rw [zset_get, zset_get]
  by_cases e : k = sp
  · rw [if_pos (by omega), if_pos e]
  · rw [if_neg (by omega), if_neg e]; exact h k (by omega)
theorem gQ_set {sp : Nat} {po : List Int64} {sq q2 : List Int32} {p : Int64} (h : gQ sp po sq) (h1 : pkR p q2 (6 * (8 + sp))) (h2 : ∀ q, q < 6 * (8 + sp) ∨ 6 * (8 + sp) + 6 ≤ q → q2.getD q 0 = sq.getD q 0) : gQ (sp + 1) (zset 0 po sp p) q2 := by
  intro k hk
  rw [zset_get]
  by_cases e : k = sp
  · rw [if_pos e, e]; exact h1
  · rw [if_neg e]
    intro i hi
    rw [h2 _ (by omega)]
    exact h k (by omega) i hi
theorem gW_set {so : Nat} {wy w3 : List Int32} (h : gW so wy w3) (x : Int32) : gW (so + 1) (zset 0 wy so x) (zset 0 w3 (10 + so) x) := by
  intro k hk
  rw [zset_get, zset_get]
  by_cases e : k = so
  · rw [if_pos (by omega), if_pos e]
  · rw [if_neg (by omega), if_neg e]; exact h k (by omega)
set_option maxRecDepth 100000 in
set_option maxHeartbeats 4000000 in
theorem ln_8 {tb : List Int32} {ln nx : Nat} {wr wa va fp n14 : Int32} {pl T : Nat} {lk hd ht bl sd : Int32} {rt : Int64} {ll lg sv : List Int32} {sp : Nat} {nm : List Int32} {po : List Int64} {so : Nat} {wy kn lo hi s3 r3 sn sq w3 it hl hs : List Int32} (hln : ln ≤ 700) (hb : ∀ i, i < ln → 0 ≤ (tb.getD i 0).toInt) (hk : lwF va (10 - 0 + 1) 0 = nI 8) (hx : nx ≤ ln) (D : dR T lk hd ht bl sd rt ll lg sv sp nm po so wy kn lo hi s3 r3 sn sq w3 it hl hs) : lnR tb ln nx wr wa fp n14 (liG tb ln wr wa nx 1 (nI pl) va (nI T) lk hd ht bl sd rt ll lg sv sp nm po so wy) (mLin tb ln nx pl 0 8 0 fp n14 sp so kn lo hi s3 r3 sn sq w3 it hl hs) := by
  obtain ⟨dK, dL, dG, dS, dP, dN, dQ, dW, dT⟩ := D
  have h8 : sp ≤ 8 := dK.2.2.2.2.2.2.2.1
  have qs := nI_toInt (n := sp) (by omega)
  have q8 : (8 : Int32).toInt = 8 := rfl
  by_cases s8 : sp = 8
  · have r1 : rzG tb ln wr wa nx 1 (nI pl) va sp nm po = (0, 2, nI pl, nx, 1, nI pl, va, sp, nm, po) := by
      unfold rzG
      rw [if_neg (by omega)]
    obtain ⟨a1, a2, a3⟩ := li_no_8 (tld := nI T) (lk := lk) (hd := hd) (ht := ht) (bl := bl) (sd := sd) (rt := rt) (ll := ll) (lg := lg) (sv := sv) (sp := sp) (nm := nm) (po := po) (so := so) (wy := wy) hk (show (rzG tb ln wr wa nx 1 (nI pl) va sp nm po).1 = 0 by rw [r1])
    rw [r1] at a2 a3
    have z2 : (2 : Int32) ≠ 0 := by decide
    have m9 : (mRdO tb ln nx pl 0 8 0 fp sp kn sn sq).1 = 2 ∧ (mRdO tb ln nx pl 0 8 0 fp sp kn sn sq).2.1 = nI pl := by
      unfold mRdO
      rw [if_neg (show ¬ nI sp ≠ (8 : Int32) by rw [s8]; decide)]
      simp only [zlet, wro_0, z2, reduceIte]
      exact ⟨trivial, trivial⟩
    refine Or.inr ⟨2, pl, z2, a1, a2, a3, ?_, ?_⟩
    · simp only [lin_8, m9.1, fin_lock z2]
    · simp only [lin_8, m9.1, m9.2, fin_lock z2]
  · have h88 : sp < 8 := by omega
    have n8 : nI sp ≠ (8 : Int32) := fun z => by rw [z, q8] at qs; omega
    obtain ⟨B, hB⟩ : ∃ B, B = mTok tb ln nx 8 := ⟨_, rfl⟩
    obtain ⟨b1, b2, b3, b4⟩ := B
    obtain ⟨g1, g2, N⟩ := nam_e hln hx hb hB.symm 1 (nI pl) va wr wa
    rcases N with ⟨o1, n1⟩ | ⟨o1, kx, v, n1⟩
    · have se := sp_e h8 dN b4 (sp - 0 + 1) 0 (by omega)
      by_cases f : snF sp nm b4 (sp - 0 + 1) 0 = -1
      · obtain ⟨C, hC⟩ : ∃ C, C = mTok tb ln b1 b4 := ⟨_, rfl⟩
        obtain ⟨c1, c2, c3, c4⟩ := C
        rcases six_e (k := 6 * (8 + sp)) hln hb ((6 - 0) + 1) 0 b1 wr wa 1 (nI b2) b4 0 c1 c2 c3 c4 fp b4 sq (by decide) (by decide) g2 hC.symm (fun i hi => absurd hi (Nat.not_lt_zero i)) with ⟨n2, k2, s2, v2, rt2, p2, o2, w2, q2, v1, e1, m1, S, g3, g4, R, F⟩ | ⟨f1, P, f0, e1, e2, e3, m1, m2⟩
        · have r1 : rzG tb ln wr wa nx 1 (nI pl) va sp nm po = (1, wr, wa, n2, k2, s2, v2, sp + 1, zset 0 nm sp b4, zset 0 po sp rt2) := by
            unfold rzG
            rw [if_pos (by omega), zlet, n1, if_pos (show (1 : Int32) ≠ 0 by decide), if_pos f]
            simp only [rz_rr, e1, rzOf]
            rfl
          obtain ⟨E, hE⟩ : ∃ E, E = mTok tb ln n2 v1 := ⟨_, rfl⟩
          obtain ⟨y1, y2, y3, y4⟩ := E
          have r2 : mRdO tb ln nx pl 0 8 0 fp sp kn sn sq = (0, fp, y1, y2, y3, y4, zset 0 kn 12 (nI (sp + 1)), zset 0 sn (8 + sp) b4, q2) := by
            obtain ⟨h1, h2⟩ := Prod.mk.inj (hE.trans S)
            obtain ⟨h2, h3⟩ := Prod.mk.inj h2
            obtain ⟨h3, h4⟩ := Prod.mk.inj h3
            unfold mRdO
            rw [if_pos n8]
            simp only [zlet, go_0, ← hB, o1, ← se, f, reduceIte, ← hC, mRdP, m1]
            rw [← h1, ← h2, ← h3, ← h4]
          obtain ⟨e8, E⟩ := end_e hln g4 hb hE.symm k2 s2 v2
          rcases E with ⟨z4, lt, v, A⟩ | ⟨z4, k3, v, k4, A⟩
          · subst z4
            refine Or.inl ⟨y1, 4, nI y2, v, y4, T, lk, hd, ht, bl, sd, rt, ll, lg, sv, sp + 1, zset 0 nm sp b4, zset 0 po sp rt2, so, wy, zset 0 kn 12 (nI (sp + 1)), lo, hi, s3, r3, zset 0 sn (8 + sp) b4, q2, w3, it, hl, hs, li_ok_8 hk r1 A, ?_, by omega, e8, gK_12 dK h88, dL, dG, dS, dP, gN_set dN b4, gQ_set dQ R F, dW, dT⟩
            simp only [lin_8, r2, fin_4]
          · obtain ⟨a1, a2, a3⟩ := li_bad_8 (tld := nI T) (lk := lk) (hd := hd) (ht := ht) (bl := bl) (sd := sd) (rt := rt) (ll := ll) (lg := lg) (sv := sv) (sp := sp) (nm := nm) (po := po) (so := so) (wy := wy) hk r1 (by rw [A]; exact k4)
            rw [A] at a3
            refine Or.inr ⟨1, y2, by decide, a1, a2, a3, ?_, ?_⟩ <;> simp only [lin_8, r2, fin_n z4]
        · have r1 : (rzG tb ln wr wa nx 1 (nI pl) va sp nm po).1 = 0 ∧ (rzG tb ln wr wa nx 1 (nI pl) va sp nm po).2.1 = f1 ∧ (rzG tb ln wr wa nx 1 (nI pl) va sp nm po).2.2.1 = nI P := by
            unfold rzG
            rw [if_pos (by omega), zlet, n1, if_pos (show (1 : Int32) ≠ 0 by decide), if_pos f]
            simp only [rz_rr, rzOf]
            exact ⟨e1, e2, e3⟩
          obtain ⟨a1, a2, a3⟩ := li_no_8 (tld := nI T) (lk := lk) (hd := hd) (ht := ht) (bl := bl) (sd := sd) (rt := rt) (ll := ll) (lg := lg) (sv := sv) (sp := sp) (nm := nm) (po := po) (so := so) (wy := wy) hk r1.1
          rw [r1.2.1] at a2
          rw [r1.2.2] at a3
          have m9 : (mRdO tb ln nx pl 0 8 0 fp sp kn sn sq).1 = f1 ∧ (mRdO tb ln nx pl 0 8 0 fp sp kn sn sq).2.1 = nI P := by
            unfold mRdO
            rw [if_pos n8]
            simp only [zlet, go_0, ← hB, o1, ← se, f, reduceIte, ← hC, mRdP]
            exact ⟨m1, m2⟩
          refine Or.inr ⟨f1, P, f0, a1, a2, a3, ?_, ?_⟩
          · simp only [lin_8, m9.1, fin_lock f0]
          · simp only [lin_8, m9.1, m9.2, fin_lock f0]
      · have z3 : (3 : Int32) ≠ 0 := by decide
        have r1 : rzG tb ln wr wa nx 1 (nI pl) va sp nm po = (0, 3, nI b2, b1, 1, nI b2, b4, sp, nm, po) := by
          unfold rzG
          rw [if_pos (by omega), zlet, n1, if_pos (show (1 : Int32) ≠ 0 by decide), if_neg f]
        obtain ⟨a1, a2, a3⟩ := li_no_8 (tld := nI T) (lk := lk) (hd := hd) (ht := ht) (bl := bl) (sd := sd) (rt := rt) (ll := ll) (lg := lg) (sv := sv) (sp := sp) (nm := nm) (po := po) (so := so) (wy := wy) hk (show (rzG tb ln wr wa nx 1 (nI pl) va sp nm po).1 = 0 by rw [r1])
        rw [r1] at a2 a3
        have m9 : (mRdO tb ln nx pl 0 8 0 fp sp kn sn sq).1 = 3 ∧ (mRdO tb ln nx pl 0 8 0 fp sp kn sn sq).2.1 = nI b2 := by
          unfold mRdO
          rw [if_pos n8]
          simp only [zlet, go_0, ← hB, o1, ← se, f, reduceIte, wro_0, z3]
          exact ⟨trivial, trivial⟩
        refine Or.inr ⟨3, b2, z3, a1, a2, a3, ?_, ?_⟩
        · simp only [lin_8, m9.1, fin_lock z3]
        · simp only [lin_8, m9.1, m9.2, fin_lock z3]
    · have z1 : (1 : Int32) ≠ 0 := by decide
      have r1 : rzG tb ln wr wa nx 1 (nI pl) va sp nm po = (0, 1, nI b2, b1, kx, nI b2, v, sp, nm, po) := by
        unfold rzG
        rw [if_pos (by omega), zlet, n1, if_neg (fun z => z rfl)]
      obtain ⟨a1, a2, a3⟩ := li_no_8 (tld := nI T) (lk := lk) (hd := hd) (ht := ht) (bl := bl) (sd := sd) (rt := rt) (ll := ll) (lg := lg) (sv := sv) (sp := sp) (nm := nm) (po := po) (so := so) (wy := wy) hk (show (rzG tb ln wr wa nx 1 (nI pl) va sp nm po).1 = 0 by rw [r1])
      rw [r1] at a2 a3
      have m9 : (mRdO tb ln nx pl 0 8 0 fp sp kn sn sq).1 = 1 ∧ (mRdO tb ln nx pl 0 8 0 fp sp kn sn sq).2.1 = nI b2 := by
        unfold mRdO
        rw [if_pos n8]
        simp only [zlet, go_0, ← hB, o1, reduceIte, wro_0, z1]
        exact ⟨trivial, trivial⟩
      refine Or.inr ⟨1, b2, z1, a1, a2, a3, ?_, ?_⟩
      · simp only [lin_8, m9.1, fin_lock z1]
      · simp only [lin_8, m9.1, m9.2, fin_lock z1]
set_option maxRecDepth 100000 in
set_option maxHeartbeats 4000000 in
theorem ln_9 {tb : List Int32} {ln nx : Nat} {wr wa va fp n14 : Int32} {pl T : Nat} {lk hd ht bl sd : Int32} {rt : Int64} {ll lg sv : List Int32} {sp : Nat} {nm : List Int32} {po : List Int64} {so : Nat} {wy kn lo hi s3 r3 sn sq w3 it hl hs : List Int32} (hln : ln ≤ 700) (hb : ∀ i, i < ln → 0 ≤ (tb.getD i 0).toInt) (hk : lwF va (10 - 0 + 1) 0 = nI 9) (hx : nx ≤ ln) (D : dR T lk hd ht bl sd rt ll lg sv sp nm po so wy kn lo hi s3 r3 sn sq w3 it hl hs) : lnR tb ln nx wr wa fp n14 (liG tb ln wr wa nx 1 (nI pl) va (nI T) lk hd ht bl sd rt ll lg sv sp nm po so wy) (mLin tb ln nx pl 0 9 0 fp n14 sp so kn lo hi s3 r3 sn sq w3 it hl hs) := by
  obtain ⟨dK, dL, dG, dS, dP, dN, dQ, dW, dT⟩ := D
  have h8 : sp ≤ 8 := dK.2.2.2.2.2.2.2.1
  have h10 : so ≤ 10 := dK.2.2.2.2.2.2.2.2
  have qs := nI_toInt (n := so) (by omega)
  have q8 : (10 : Int32).toInt = 10 := rfl
  by_cases s8 : so = 10
  · have r1 : rgG tb ln wr wa nx 1 (nI pl) va sp nm so wy = (0, 2, nI pl, nx, 1, nI pl, va, so, wy) := by
      unfold rgG
      rw [if_neg (by omega)]
    obtain ⟨a1, a2, a3⟩ := li_no_9 (tld := nI T) (lk := lk) (hd := hd) (ht := ht) (bl := bl) (sd := sd) (rt := rt) (ll := ll) (lg := lg) (sv := sv) (sp := sp) (nm := nm) (po := po) (so := so) (wy := wy) hk (show (rgG tb ln wr wa nx 1 (nI pl) va sp nm so wy).1 = 0 by rw [r1])
    rw [r1] at a2 a3
    have z2 : (2 : Int32) ≠ 0 := by decide
    have m9 : (mRdG tb ln nx pl 0 9 0 fp sp so kn sn w3).1 = 2 ∧ (mRdG tb ln nx pl 0 9 0 fp sp so kn sn w3).2.1 = nI pl := by
      unfold mRdG
      rw [if_neg (show ¬ nI so ≠ (10 : Int32) by rw [s8]; decide)]
      simp only [zlet, wro_0, z2, reduceIte]
      exact ⟨trivial, trivial⟩
    refine Or.inr ⟨2, pl, z2, a1, a2, a3, ?_, ?_⟩
    · simp only [lin_9, m9.1, fin_lock z2]
    · simp only [lin_9, m9.1, m9.2, fin_lock z2]
  · have h88 : so < 10 := by omega
    have n8 : nI so ≠ (10 : Int32) := fun z => by rw [z, q8] at qs; omega
    obtain ⟨B, hB⟩ : ∃ B, B = mTok tb ln nx 9 := ⟨_, rfl⟩
    obtain ⟨b1, b2, b3, b4⟩ := B
    obtain ⟨g1, g2, N⟩ := nam_e hln hx hb hB.symm 1 (nI pl) va wr wa
    have nn : ¬ (0 : Int32) ≠ 0 := fun z => z rfl
    rcases N with ⟨o1, n1⟩ | ⟨o1, kx, v, n1⟩
    · have se := sp_e h8 dN b4 (sp - 0 + 1) 0 (by omega)
      by_cases f : snF sp nm b4 (sp - 0 + 1) 0 = -1
      · have z3 : (4 : Int32) ≠ 0 := by decide
        have r1 : rgG tb ln wr wa nx 1 (nI pl) va sp nm so wy = (0, 4, nI b2, b1, 1, nI b2, b4, so, wy) := by
          unfold rgG
          rw [if_pos (by omega), zlet, n1, if_pos (show (1 : Int32) ≠ 0 by decide), if_neg (fun z => z f)]
        obtain ⟨a1, a2, a3⟩ := li_no_9 (tld := nI T) (lk := lk) (hd := hd) (ht := ht) (bl := bl) (sd := sd) (rt := rt) (ll := ll) (lg := lg) (sv := sv) (sp := sp) (nm := nm) (po := po) (so := so) (wy := wy) hk (show (rgG tb ln wr wa nx 1 (nI pl) va sp nm so wy).1 = 0 by rw [r1])
        rw [r1] at a2 a3
        have m9 : (mRdG tb ln nx pl 0 9 0 fp sp so kn sn w3).1 = 4 ∧ (mRdG tb ln nx pl 0 9 0 fp sp so kn sn w3).2.1 = nI b2 := by
          unfold mRdG
          rw [if_pos n8]
          simp only [zlet, go_0, ← hB, o1, ← se, f, reduceIte, wro_0, z3, ne_eq, not_true_eq_false]
          exact ⟨trivial, trivial⟩
        refine Or.inr ⟨4, b2, z3, a1, a2, a3, ?_, ?_⟩
        · simp only [lin_9, m9.1, fin_lock z3]
        · simp only [lin_9, m9.1, m9.2, fin_lock z3]
      · have r1 : rgG tb ln wr wa nx 1 (nI pl) va sp nm so wy = (1, wr, wa, b1, 1, nI b2, b4, so + 1, zset 0 wy so (snF sp nm b4 (sp - 0 + 1) 0)) := by
          unfold rgG
          rw [if_pos (by omega), zlet, n1, if_pos (show (1 : Int32) ≠ 0 by decide), if_pos f]
        obtain ⟨E, hE⟩ : ∃ E, E = mTok tb ln b1 b4 := ⟨_, rfl⟩
        obtain ⟨y1, y2, y3, y4⟩ := E
        have r2 : mRdG tb ln nx pl 0 9 0 fp sp so kn sn w3 = (0, fp, y1, y2, y3, y4, zset 0 kn 13 (nI (so + 1)), zset 0 w3 (10 + so) (snF sp nm b4 (sp - 0 + 1) 0)) := by
          unfold mRdG
          rw [if_pos n8]
          simp only [zlet, go_0, ← hB, o1, ← se, f, reduceIte, ne_eq, not_true_eq_false, not_false_eq_true, ← hE]
        obtain ⟨e8, E⟩ := end_e hln g2 hb hE.symm 1 (nI b2) b4
        rcases E with ⟨z4, lt, v, A⟩ | ⟨z4, k3, v, k4, A⟩
        · subst z4
          refine Or.inl ⟨y1, 4, nI y2, v, y4, T, lk, hd, ht, bl, sd, rt, ll, lg, sv, sp, nm, po, so + 1, zset 0 wy so (snF sp nm b4 (sp - 0 + 1) 0), zset 0 kn 13 (nI (so + 1)), lo, hi, s3, r3, sn, sq, zset 0 w3 (10 + so) (snF sp nm b4 (sp - 0 + 1) 0), it, hl, hs, li_ok_9 hk r1 A, ?_, by omega, e8, gK_13 dK h88, dL, dG, dS, dP, dN, dQ, gW_set dW _, dT⟩
          simp only [lin_9, r2, fin_4]
        · obtain ⟨a1, a2, a3⟩ := li_bad_9 (tld := nI T) (lk := lk) (hd := hd) (ht := ht) (bl := bl) (sd := sd) (rt := rt) (ll := ll) (lg := lg) (sv := sv) (sp := sp) (nm := nm) (po := po) (so := so) (wy := wy) hk r1 (by rw [A]; exact k4)
          rw [A] at a3
          refine Or.inr ⟨1, y2, by decide, a1, a2, a3, ?_, ?_⟩ <;> simp only [lin_9, r2, fin_n z4]
    · have z1 : (1 : Int32) ≠ 0 := by decide
      have r1 : rgG tb ln wr wa nx 1 (nI pl) va sp nm so wy = (0, 1, nI b2, b1, kx, nI b2, v, so, wy) := by
        unfold rgG
        rw [if_pos (by omega), zlet, n1, if_neg (fun z => z rfl)]
      obtain ⟨a1, a2, a3⟩ := li_no_9 (tld := nI T) (lk := lk) (hd := hd) (ht := ht) (bl := bl) (sd := sd) (rt := rt) (ll := ll) (lg := lg) (sv := sv) (sp := sp) (nm := nm) (po := po) (so := so) (wy := wy) hk (show (rgG tb ln wr wa nx 1 (nI pl) va sp nm so wy).1 = 0 by rw [r1])
      rw [r1] at a2 a3
      have m9 : (mRdG tb ln nx pl 0 9 0 fp sp so kn sn w3).1 = 1 ∧ (mRdG tb ln nx pl 0 9 0 fp sp so kn sn w3).2.1 = nI b2 := by
        unfold mRdG
        rw [if_pos n8]
        simp only [zlet, go_0, ← hB, o1, reduceIte, wro_0, z1, ne_eq, not_false_eq_true]
        exact ⟨trivial, trivial⟩
      refine Or.inr ⟨1, b2, z1, a1, a2, a3, ?_, ?_⟩
      · simp only [lin_9, m9.1, fin_lock z1]
      · simp only [lin_9, m9.1, m9.2, fin_lock z1]
