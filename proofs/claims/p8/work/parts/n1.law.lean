/-! The law's loop: its rules, with the views. -/
/-- both sides' states stand -/
noncomputable def LInv (h : zH) (D S : Nat) (V : cV) (R : vRl) : Prop := CI h D S V ∧ MI h R ∧ ∃ f, zat h 232 = some (.inr (.inl (1, f)))
/-- from here the law answers 1, within its room -/
noncomputable def lq (L : Nat) (xs : Nat → Int32) (pc : Nat) (ls : zL) (st : List Value) (h : zH) (dc ds : Nat) : Prop := ∃ (h2 : zH) (d2 s2 : Nat), zT (zg L xs) zF zP 288 pc ls st h dc ds (some (.int 1), h2, d2, s2) ∧ d2 ≤ 601024 ∧ s2 ≤ 7293034
section LQ
variable {L : Nat} {xs : Nat → Int32} {pc pf : Nat} {ls : zL} {st rest : List Value} {h : zH} {dc ds D S : Nat} {V V2 : cV} {R R2 : vRl} {len : Nat} {K : zK} {tg : List Nat}
theorem lq_gos {f pc2 : Nat} {ls2 : zL} {st2 : List Value} {h2 : zH} {dc2 ds2 : Nat} (n : Nat) (hz : zgo (zg L xs) zF zP f 288 n (pc, ls, st, h, dc, ds) = some (pc2, ls2, st2, h2, dc2, ds2)) (k : lq L xs pc2 ls2 st2 h2 dc2 ds2) : lq L xs pc ls st h dc ds := by
  obtain ⟨a, b, c, k1, k2⟩ := k
  exact ⟨a, b, c, zT_gos n hz k1, k2⟩
theorem lq_vi {x x2 : Int32} (e : x = x2) (k : lq L xs pc ls (.int x2 :: rest) h dc ds) : lq L xs pc ls (.int x :: rest) h dc ds := e ▸ k
theorem lq_xs {i : Nat} (hP : zP 288 pc = some (.iaload, len, K, tg)) (hi : i < L) (hL : L ≤ 3072) (hpf : pc + 1 = pf) (k : lq L xs pf ls (.int (xs i) :: rest) h dc ds) : lq L xs pc ls (.int (nI i) :: .ref 11 :: rest) h dc ds := by
  obtain ⟨a, b, c, k1, k2⟩ := k
  subst hpf
  refine ⟨a, b, c, zT_ialdc (n := L) (f := xs) hP ⟨rfl, rfl⟩ (zin_nI hi (by omega)) ?_, k2⟩
  rw [nI_clamp (by omega)]
  exact k1
theorem lq_eqt {off : Int} {t : Nat} {x : Int32} (hP : zP 288 pc = some (.ifCond .eq off, 3, (t, 0, .null), [])) (hx : x = 0) (k : lq L xs t ls rest h dc ds) : lq L xs pc ls (.int x :: rest) h dc ds := by
  obtain ⟨a, b, c, k1, k2⟩ := k
  exact ⟨a, b, c, zT_if0 true hP (zc_eq_t (by rw [hx])) k1, k2⟩
theorem lq_eqf {off : Int} {t : Nat} {x : Int32} (hP : zP 288 pc = some (.ifCond .eq off, 3, (t, 0, .null), [])) (hpf : pc + 3 = pf) (hx : x ≠ 0) (k : lq L xs pf ls rest h dc ds) : lq L xs pc ls (.int x :: rest) h dc ds := by
  obtain ⟨a, b, c, k1, k2⟩ := k
  subst hpf
  exact ⟨a, b, c, zT_if0 false hP (zc_eq_f (fun q => hx (Int32.toInt_inj.mp q))) k1, k2⟩
theorem LI_c {h2 : zH} {D2 S2 : Nat} (hI : LInv h D S V R) (c : CI h2 D2 S2 V2) (f : wFx cC h h2) : LInv h2 D2 S2 V2 R := by
  obtain ⟨_, m, g, hg⟩ := hI
  exact ⟨c, MI_fx m (wFx_mono f (fun q hq => by unfold cC at hq; omega)), g, wFx_at f (by unfold cC; omega) hg⟩
theorem LI_m {h2 : zH} (hI : LInv h D S V R) (m : MI h2 R2) (f : wFx cM h h2) : LInv h2 D S V R2 := by
  obtain ⟨c, _, g, hg⟩ := hI
  exact ⟨CI_fx c f (fun q hq => by unfold cM; omega), m, g, wFx_at f (by unfold cM; omega) hg⟩
theorem MI_0 (k : MI h R) : ∃ fs, zat h 162 = some (.inr (.inr (.inr (10, fs)))) := by
  refine MI_el k ?_
  intros
  exact ⟨_, by assumption⟩
theorem lq_c {q y2 b : Nat} {as : List Value} (hP : zP 288 pc = some (.invokevirtual q, len, (y2, b, .retAddr 9), tg)) (has : (st.take (b % 64)).reverse = .ref 0 :: as) (hcc : zcall y2 b st = some (.inr (.inl (y2, .ref 0 :: as, rest)))) (hpf : pc + 3 = pf) (hI : LInv h D S V R) (hw : CI h D S V → wq y2 0 (lv_args 0 (.ref 0 :: as)) [] h 0 0 (cOk h D S V2)) (k : ∀ (v : Int32) (h2 : zH) (d s D2 S2 : Nat), LInv h2 D2 S2 V2 R → d + D ≤ D2 → s + S ≤ S2 → lq L xs pf ls (.int v :: rest) h2 (dc + d) (ds + s)) : lq L xs pc ls st h dc ds := by
  obtain ⟨fs, h0⟩ := CI_0 hI.1
  obtain ⟨r, hz, v, h2, d, s, D2, S2, rfl, c0, f0, e1, e2⟩ := hw hI.1
  obtain ⟨a, b9, c, k1, k2⟩ := k v h2 d s D2 S2 (LI_c hI c0 f0) e1 e2
  subst hpf
  exact ⟨a, b9, c, zT_calv hP has h0 hcc (zT_le (zg0_le L xs) hz) k1, k2⟩
theorem lq_m {q y2 b : Nat} {as : List Value} (hP : zP 288 pc = some (.invokevirtual q, len, (y2, b, .retAddr 10), tg)) (has : (st.take (b % 64)).reverse = .ref 162 :: as) (hcc : zcall y2 b st = some (.inr (.inl (y2, .ref 162 :: as, rest)))) (hpf : pc + 3 = pf) (hI : LInv h D S V R) (hw : MI h R → wq y2 0 (lv_args 0 (.ref 162 :: as)) [] h 0 0 (rOk h R2)) (k : ∀ (v : Int32) (h2 : zH), LInv h2 D S V R2 → lq L xs pf ls (.int v :: rest) h2 dc ds) : lq L xs pc ls st h dc ds := by
  obtain ⟨fs, h0⟩ := MI_0 hI.2.1
  obtain ⟨r, hz, v, h2, rfl, c0, f0, _⟩ := hw hI.2.1
  obtain ⟨a, b9, c, k1, k2⟩ := k v h2 (LI_m hI c0 f0)
  subst hpf
  exact ⟨a, b9, c, zT_calv hP has h0 hcc (zT_le (zg0_le L xs) hz) k1, k2⟩
theorem lq_cL {q y2 b : Nat} {as : List Value} (hP : zP 288 pc = some (.invokevirtual q, len, (y2, b, .retAddr 9), tg)) (has : (st.take (b % 64)).reverse = .ref 0 :: as) (hcc : zcall y2 b st = some (.inr (.inl (y2, .ref 0 :: as, rest)))) (hpf : pc + 3 = pf) (hI : LInv h D S V R) (hw : CI h D S V → wq y2 0 (lv_args 0 (.ref 0 :: as)) [] h 0 0 (cOkL h D S V2)) (k : ∀ (v : Int64) (h2 : zH) (d s D2 S2 : Nat), LInv h2 D2 S2 V2 R → d + D ≤ D2 → s + S ≤ S2 → lq L xs pf ls (.long v :: rest) h2 (dc + d) (ds + s)) : lq L xs pc ls st h dc ds := by
  obtain ⟨fs, h0⟩ := CI_0 hI.1
  obtain ⟨r, hz, v, h2, d, s, D2, S2, rfl, c0, f0, e1, e2⟩ := hw hI.1
  obtain ⟨a, b9, c, k1, k2⟩ := k v h2 d s D2 S2 (LI_c hI c0 f0) e1 e2
  subst hpf
  exact ⟨a, b9, c, zT_calv hP has h0 hcc (zT_le (zg0_le L xs) hz) k1, k2⟩
theorem lq_mL {q y2 b : Nat} {as : List Value} (hP : zP 288 pc = some (.invokevirtual q, len, (y2, b, .retAddr 10), tg)) (has : (st.take (b % 64)).reverse = .ref 162 :: as) (hcc : zcall y2 b st = some (.inr (.inl (y2, .ref 162 :: as, rest)))) (hpf : pc + 3 = pf) (hI : LInv h D S V R) (hw : MI h R → wq y2 0 (lv_args 0 (.ref 162 :: as)) [] h 0 0 (rOkL h R2)) (k : ∀ (v : Int64) (h2 : zH), LInv h2 D S V R2 → lq L xs pf ls (.long v :: rest) h2 dc ds) : lq L xs pc ls st h dc ds := by
  obtain ⟨fs, h0⟩ := MI_0 hI.2.1
  obtain ⟨r, hz, v, h2, rfl, c0, f0, _⟩ := hw hI.2.1
  obtain ⟨a, b9, c, k1, k2⟩ := k v h2 (LI_m hI c0 f0)
  subst hpf
  exact ⟨a, b9, c, zT_calv hP has h0 hcc (zT_le (zg0_le L xs) hz) k1, k2⟩
theorem lq_cA {a9 : Int32} {q y2 b : Nat} {as : List Value} (hP : zP 288 pc = some (.invokevirtual q, len, (y2, b, .retAddr 9), tg)) (has : (st.take (b % 64)).reverse = .ref 0 :: as) (hcc : zcall y2 b st = some (.inr (.inl (y2, .ref 0 :: as, rest)))) (hpf : pc + 3 = pf) (hI : LInv h D S V R) (hw : CI h D S V → wq y2 0 (lv_args 0 (.ref 0 :: as)) [] h 0 0 (cOkA a9 h D S V2)) (k : ∀ (h2 : zH) (d s D2 S2 : Nat), LInv h2 D2 S2 V2 R → d + D ≤ D2 → s + S ≤ S2 → lq L xs pf ls (.int a9 :: rest) h2 (dc + d) (ds + s)) : lq L xs pc ls st h dc ds := by
  obtain ⟨fs, h0⟩ := CI_0 hI.1
  obtain ⟨r, hz, e0, v, h2, d, s, D2, S2, rfl, c0, f0, e1, e2⟩ := hw hI.1
  have e3 : v = a9 := by
    have e4 := Option.some.inj e0
    injection e4
  subst e3
  obtain ⟨a, b9, c, k1, k2⟩ := k h2 d s D2 S2 (LI_c hI c0 f0) e1 e2
  subst hpf
  exact ⟨a, b9, c, zT_calv hP has h0 hcc (zT_le (zg0_le L xs) hz) k1, k2⟩
theorem lq_mA {a9 : Int32} {q y2 b : Nat} {as : List Value} (hP : zP 288 pc = some (.invokevirtual q, len, (y2, b, .retAddr 10), tg)) (has : (st.take (b % 64)).reverse = .ref 162 :: as) (hcc : zcall y2 b st = some (.inr (.inl (y2, .ref 162 :: as, rest)))) (hpf : pc + 3 = pf) (hI : LInv h D S V R) (hw : MI h R → wq y2 0 (lv_args 0 (.ref 162 :: as)) [] h 0 0 (rOkA a9 h R2)) (k : ∀ (h2 : zH), LInv h2 D S V R2 → lq L xs pf ls (.int a9 :: rest) h2 dc ds) : lq L xs pc ls st h dc ds := by
  obtain ⟨fs, h0⟩ := MI_0 hI.2.1
  obtain ⟨r, hz, e0, v, h2, rfl, c0, f0, _⟩ := hw hI.2.1
  have e3 : v = a9 := by
    have e4 := Option.some.inj e0
    injection e4
  subst e3
  obtain ⟨a, b9, c, k1, k2⟩ := k h2 (LI_m hI c0 f0)
  subst hpf
  exact ⟨a, b9, c, zT_calv hP has h0 hcc (zT_le (zg0_le L xs) hz) k1, k2⟩
theorem lq_cX {P9 : Int32 → cV → Prop} {q y2 b : Nat} {as : List Value} (hP : zP 288 pc = some (.invokevirtual q, len, (y2, b, .retAddr 9), tg)) (has : (st.take (b % 64)).reverse = .ref 0 :: as) (hcc : zcall y2 b st = some (.inr (.inl (y2, .ref 0 :: as, rest)))) (hpf : pc + 3 = pf) (hI : LInv h D S V R) (hw : CI h D S V → wq y2 0 (lv_args 0 (.ref 0 :: as)) [] h 0 0 (fun r => ∃ (a : Int32) (V2 : cV), P9 a V2 ∧ cOkA a h D S V2 r)) (k : ∀ (a9 : Int32) (V2 : cV), P9 a9 V2 → ∀ (h2 : zH) (d s D2 S2 : Nat), LInv h2 D2 S2 V2 R → d + D ≤ D2 → s + S ≤ S2 → lq L xs pf ls (.int a9 :: rest) h2 (dc + d) (ds + s)) : lq L xs pc ls st h dc ds := by
  obtain ⟨fs, h0⟩ := CI_0 hI.1
  obtain ⟨r, hz, a9, V2, x9, e0, v, h2, d, s, D2, S2, rfl, c0, f0, e1, e2⟩ := hw hI.1
  have e3 : v = a9 := by
    have e4 := Option.some.inj e0
    injection e4
  subst e3
  obtain ⟨a, b9, c, k1, k2⟩ := k v V2 x9 h2 d s D2 S2 (LI_c hI c0 f0) e1 e2
  subst hpf
  exact ⟨a, b9, c, zT_calv hP has h0 hcc (zT_le (zg0_le L xs) hz) k1, k2⟩
end LQ
