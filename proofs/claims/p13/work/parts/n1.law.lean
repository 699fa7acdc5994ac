/-! The law's loop: its rules; what aimBy answers. -/
def cOkA (a : Int32) (h : zH) (D S : Nat) (r : zR) : Prop := r.1 = some (.int a) ∧ cOk h D S r
def rOkA (a : Int32) (h : zH) (r : zR) : Prop := r.1 = some (.int a) ∧ rOk h r
theorem aby_e (w : Int32) (v : Int64) (n33 : Int32) (nw am kp : List Int32) (u : Nat) : (mAby n33 nw am kp u w v).1 = nI (cAby w v) := by
  have z3 : (3 : Int32).toInt = 3 := rfl
  have z5 : (5 : Int32).toInt = 5 := rfl
  have z6 : (6 : Int32).toInt = 6 := rfl
  unfold mAby cAby
  simp only [zlet]
  by_cases h0 : w.toInt < 0
  · simp only [if_pos h0]
    split <;> rfl
  · by_cases h6 : w.toInt ≤ (5 : Int32).toInt
    · have h66 : ¬ (6 : Int32).toInt ≤ w.toInt := by omega
      by_cases h3 : (3 : Int32).toInt ≤ w.toInt
      · simp only [if_neg h0, if_pos h6, if_pos h3, if_neg h66]
        by_cases a : (lg_cmp v (0 : Int64)).toInt < 0
        · have a2 : ¬ 0 ≤ (lg_cmp v (0 : Int64)).toInt := by omega
          simp only [if_pos a, if_neg a2]
          split <;> rfl
        · have a2 : 0 ≤ (lg_cmp v (0 : Int64)).toInt := by omega
          simp only [if_neg a, if_pos a2]
          by_cases b : (lg_cmp v (63 : Int64)).toInt ≤ 0
          · have b2 : ¬ 0 < (lg_cmp v (63 : Int64)).toInt := by omega
            simp only [if_pos b, if_neg b2]
            rfl
          · have b2 : 0 < (lg_cmp v (63 : Int64)).toInt := by omega
            simp only [if_neg b, if_pos b2]
            rfl
      · simp only [if_neg h0, if_pos h6, if_neg h3, if_neg h66]
        by_cases a : (lg_cmp v (-1000000000 : Int64)).toInt < 0
        · have a2 : ¬ 0 ≤ (lg_cmp v (-1000000000 : Int64)).toInt := by omega
          simp only [if_pos a, if_neg a2]
          split <;> rfl
        · have a2 : 0 ≤ (lg_cmp v (-1000000000 : Int64)).toInt := by omega
          simp only [if_neg a, if_pos a2]
          by_cases b : (lg_cmp v (1000000000 : Int64)).toInt ≤ 0
          · have b2 : ¬ 0 < (lg_cmp v (1000000000 : Int64)).toInt := by omega
            simp only [if_pos b, if_neg b2]
            rfl
          · have b2 : 0 < (lg_cmp v (1000000000 : Int64)).toInt := by omega
            simp only [if_neg b, if_pos b2]
            rfl
    · have h66 : (6 : Int32).toInt ≤ w.toInt := by omega
      have h3 : (3 : Int32).toInt ≤ w.toInt := by omega
      simp only [if_neg h0, if_neg h6, if_pos h66, if_pos h3]
      rfl
set_option maxHeartbeats 4000000 in
theorem cCall_11A {h : zH} {D S : Nat} {w : Int32} {v : Int64} (k : CI h D S) : wq 112 0 [(0, .ref 0), (1, .int w), (2, .long v)] [] h 0 0 (cOkA (nI (cAby w v)) h D S) := by
  obtain ⟨rw, cp, t, rd, ps, ip, im, ra, sp, so, lk, hd, ht, bl, sd, rt, ll, lg, sv, nm, wy, po, wg, ka, kb, kx, rfl, rfl⟩ := k
  have kx0 := kx
  obtain ⟨hX, ⟨htt, hrd, hrae⟩, kT, kA, kDr, kU, kZ, k6, kW, kRn, kSn, hRw, hlen⟩ := kx0
  have kA0 := kA
  obtain ⟨hA, hL, hG, hV, hN, hQ, hW, hsc, hlm, hsv, hsp, hway, hra⟩ := kA0
  have kT0 := kT
  obtain ⟨tb, wr9, wa9, ln9, nx9, kd9, sta9, va9, tld9, b9, a9, hT, hR4⟩ := kT0
  have kU0 := kU
  obtain ⟨pl, ia, ua, pp, us, un, hAi, hIa, hP, hP8, hP0, hu1, hu2⟩ := kU0
  refine (c_aby (sp := sp) (so := so) (lk := lk) (hd := hd) (ht := ht) (bl := bl) (sd := sd) (rt := rt) hX hP hP8 hP0 hAi ⟨hu1, hu2⟩ ?_ ?_)
  · intro h2 f l p0
    rw [p0]
    have fx : wFx (fun q => q ∈ ([] : List Nat)) h h2 := f
    have kx2 := CIx_fx kx fx (fun q _ hm => absurd hm List.not_mem_nil)
    exact ⟨rfl, _, h2, 0, 0, _, _, rfl, ⟨_, _, t, rd, _, _, _, ra, sp, so, lk, hd, ht, bl, sd, rt, ll, lg, sv, nm, wy, po, wg, ka, kb, kx2, rfl, rfl⟩, wFx_of f (fun q hq => absurd hq List.not_mem_nil), Nat.le_of_eq (Nat.zero_add _), Nat.le_of_eq (Nat.zero_add _)⟩
  · intro h2 f l c34 c36 c38 c40 p0 _
    rw [p0]
    obtain ⟨rw2, cp2, er, ec, kx2, fx⟩ := CIx_u kx (wFr_at f (by decide) hX) ⟨_, ia, _, _, _, _, c34, wFr_at f (by decide) hIa, c36, c38, c40, by omega, by omega⟩ (wFr_sub f (by decide))
    subst er; subst ec
    exact ⟨rfl, _, h2, 0, 0, _, _, rfl, ⟨_, _, t, rd, _, _, _, ra, sp, so, lk, hd, ht, bl, sd, rt, ll, lg, sv, nm, wy, po, wg, ka, kb, kx2, rfl, rfl⟩, fx, Nat.le_of_eq (Nat.zero_add _), Nat.le_of_eq (Nat.zero_add _)⟩
set_option maxHeartbeats 4000000 in
theorem rCall_11A {h : zH} {w : Int32} {v : Int64} (k : MI h) : wq 218 0 [(0, .ref 162), (1, .int w), (2, .long v)] [] h 0 0 (rOkA (nI (cAby w v)) h) := by
  refine MI_el k ?_
  intro n0 n14 n15 n16 n18 n19 n20 n21 n22 n23 n28 n32 n33 n34 n35 n39 n52 t pl u wn tb kn lo hi sv rt sn sq wy it hl hs nw am kp th fo sm pa pb on h1 tg ri hr pq ch co t1 sg tk tl pz dq ht c162 c164 c166 c168 c170 c172 c174 c176 c178 c180 c182 c184 c186 c188 c190 c192 c194 c196 c198 c200 c202 c204 c206 c208 c210 c212 c214 c216 c218 c220 c222 c224 c226 c228 c230 hu h01 hSA hFa hSP hNw hKp hK0 hRk
  obtain ⟨s1, s2, s3, s4⟩ := mAby_ok (n32 := n32) (w := w) (v := v) hu h01 hSA hNw hKp hK0
  refine wq_mono (m_aby c162 c188 c190 c192 hu) ?_
  rintro _ ⟨h2, rfl, f, l, d162, d190, d192, x0⟩
  rw [← aby_e w v n33 nw am kp u]
  exact ⟨rfl, rOk_i f l (by decide) _ ⟨_, _, _, _, _, _, _, _, _, _, _, _, _, _, _, _, _, _, _, _, _, _, _, _, _, _, _, _, _, _, _, _, _, _, _, _, _, _, _, _, _, _, _, _, _, _, _, _, _, _, _, _, _, _, _, ⟨ht, d162, wFr_at f (by decide) c164, wFr_at f (by decide) c166, wFr_at f (by decide) c168, wFr_at f (by decide) c170, wFr_at f (by decide) c172, wFr_at f (by decide) c174, wFr_at f (by decide) c176, wFr_at f (by decide) c178, wFr_at f (by decide) c180, wFr_at f (by decide) c182, wFr_at f (by decide) c184, wFr_at f (by decide) c186, wFr_at f (by decide) c188, d190, d192, wFr_at f (by decide) c194, wFr_at f (by decide) c196, wFr_at f (by decide) c198, wFr_at f (by decide) c200, wFr_at f (by decide) c202, wFr_at f (by decide) c204, wFr_at f (by decide) c206, wFr_at f (by decide) c208, wFr_at f (by decide) c210, wFr_at f (by decide) c212, wFr_at f (by decide) c214, wFr_at f (by decide) c216, wFr_at f (by decide) c218, wFr_at f (by decide) c220, wFr_at f (by decide) c222, wFr_at f (by decide) c224, wFr_at f (by decide) c226, wFr_at f (by decide) c228, wFr_at f (by decide) c230⟩, ⟨x0, s1, s2, hFa, hSP, hNw, s3, s4, hRk⟩⟩⟩
/-- both sides' states stand -/
def LInv (h : zH) (D S : Nat) : Prop := CI h D S ∧ MI h ∧ ∃ f, zat h 232 = some (.inr (.inl (1, f)))
/-- from here the law answers 1, within its room -/
def lq (L : Nat) (xs : Nat → Int32) (pc : Nat) (ls : zL) (st : List Value) (h : zH) (dc ds : Nat) : Prop := ∃ (h2 : zH) (d2 s2 : Nat), zT (zg L xs) zF zP 288 pc ls st h dc ds (some (.int 1), h2, d2, s2) ∧ d2 ≤ 601024 ∧ s2 ≤ 7293034
section LQ
variable {L : Nat} {xs : Nat → Int32} {pc pf : Nat} {ls : zL} {st rest : List Value} {h : zH} {dc ds D S : Nat} {len : Nat} {K : zK} {tg : List Nat}
theorem lq_gos {f pc2 : Nat} {ls2 : zL} {st2 : List Value} {h2 : zH} {dc2 ds2 : Nat} (n : Nat) (hz : zgo (zg L xs) zF zP f 288 n (pc, ls, st, h, dc, ds) = some (pc2, ls2, st2, h2, dc2, ds2)) (k : lq L xs pc2 ls2 st2 h2 dc2 ds2) : lq L xs pc ls st h dc ds := by
  obtain ⟨a, b, c, k1, k2⟩ := k
  exact ⟨a, b, c, zT_gos n hz k1, k2⟩
theorem lq_vi {x x2 : Int32} (e : x = x2) (k : lq L xs pc ls (.int x2 :: rest) h dc ds) : lq L xs pc ls (.int x :: rest) h dc ds := e ▸ k
theorem lq_xs {i : Nat} (hP : zP 288 pc = some (.iaload, len, K, tg)) (hi : i < L) (hL : L ≤ 3072) (hpf : pc + 1 = pf) (k : lq L xs pf ls (.int (xs i) :: rest) h dc ds) : lq L xs pc ls (.int (nI i) :: .ref 11 :: rest) h dc ds := by
  obtain ⟨a, b, c, k1, k2⟩ := k
  subst hpf
  refine ⟨a, b, c, zT_ialdc (n := L) (f := xs) hP ⟨rfl, rfl⟩ (zin_nI hi (by omega)) ?_, k2⟩
  rw [nI_clamp (by omega)]
  exact k1
theorem lq_eqt {off : Int} {t : Nat} {x : Int32} (hP : zP 288 pc = some (.ifCond .eq off, 3, (t, 0, .null), [])) (hx : x = 0) (k : lq L xs t ls rest h dc ds) : lq L xs pc ls (.int x :: rest) h dc ds := by
  obtain ⟨a, b, c, k1, k2⟩ := k
  exact ⟨a, b, c, zT_if0 true hP (zc_eq_t (by rw [hx])) k1, k2⟩
theorem lq_eqf {off : Int} {t : Nat} {x : Int32} (hP : zP 288 pc = some (.ifCond .eq off, 3, (t, 0, .null), [])) (hpf : pc + 3 = pf) (hx : x ≠ 0) (k : lq L xs pf ls rest h dc ds) : lq L xs pc ls (.int x :: rest) h dc ds := by
  obtain ⟨a, b, c, k1, k2⟩ := k
  subst hpf
  exact ⟨a, b, c, zT_if0 false hP (zc_eq_f (fun q => hx (Int32.toInt_inj.mp q))) k1, k2⟩
theorem LI_c {h2 : zH} {D2 S2 : Nat} (hI : LInv h D S) (c : CI h2 D2 S2) (f : wFx cC h h2) : LInv h2 D2 S2 := by
  obtain ⟨_, m, g, hg⟩ := hI
  exact ⟨c, MI_fx m (wFx_mono f (fun q hq => by unfold cC at hq; omega)), g, wFx_at f (by unfold cC; omega) hg⟩
theorem LI_m {h2 : zH} (hI : LInv h D S) (m : MI h2) (f : wFx cM h h2) : LInv h2 D S := by
  obtain ⟨c, _, g, hg⟩ := hI
  exact ⟨CI_fx c f (fun q hq => by unfold cM; omega), m, g, wFx_at f (by unfold cM; omega) hg⟩
theorem MI_0 (k : MI h) : ∃ fs, zat h 162 = some (.inr (.inr (.inr (10, fs)))) := by
  refine MI_el k ?_
  intros
  exact ⟨_, by assumption⟩
theorem lq_c {q y2 b : Nat} {as : List Value} (hP : zP 288 pc = some (.invokevirtual q, len, (y2, b, .retAddr 9), tg)) (has : (st.take (b % 64)).reverse = .ref 0 :: as) (hcc : zcall y2 b st = some (.inr (.inl (y2, .ref 0 :: as, rest)))) (hpf : pc + 3 = pf) (hI : LInv h D S) (hw : CI h D S → wq y2 0 (lv_args 0 (.ref 0 :: as)) [] h 0 0 (cOk h D S)) (k : ∀ (v : Int32) (h2 : zH) (d s D2 S2 : Nat), LInv h2 D2 S2 → d + D ≤ D2 → s + S ≤ S2 → lq L xs pf ls (.int v :: rest) h2 (dc + d) (ds + s)) : lq L xs pc ls st h dc ds := by
  obtain ⟨fs, h0⟩ := CI_0 hI.1
  obtain ⟨r, hz, v, h2, d, s, D2, S2, rfl, c0, f0, e1, e2⟩ := hw hI.1
  obtain ⟨a, b9, c, k1, k2⟩ := k v h2 d s D2 S2 (LI_c hI c0 f0) e1 e2
  subst hpf
  exact ⟨a, b9, c, zT_calv hP has h0 hcc (zT_le (zg0_le L xs) hz) k1, k2⟩
theorem lq_m {q y2 b : Nat} {as : List Value} (hP : zP 288 pc = some (.invokevirtual q, len, (y2, b, .retAddr 10), tg)) (has : (st.take (b % 64)).reverse = .ref 162 :: as) (hcc : zcall y2 b st = some (.inr (.inl (y2, .ref 162 :: as, rest)))) (hpf : pc + 3 = pf) (hI : LInv h D S) (hw : MI h → wq y2 0 (lv_args 0 (.ref 162 :: as)) [] h 0 0 (rOk h)) (k : ∀ (v : Int32) (h2 : zH), LInv h2 D S → lq L xs pf ls (.int v :: rest) h2 dc ds) : lq L xs pc ls st h dc ds := by
  obtain ⟨fs, h0⟩ := MI_0 hI.2.1
  obtain ⟨r, hz, v, h2, rfl, c0, f0, _⟩ := hw hI.2.1
  obtain ⟨a, b9, c, k1, k2⟩ := k v h2 (LI_m hI c0 f0)
  subst hpf
  exact ⟨a, b9, c, zT_calv hP has h0 hcc (zT_le (zg0_le L xs) hz) k1, k2⟩
theorem lq_cL {q y2 b : Nat} {as : List Value} (hP : zP 288 pc = some (.invokevirtual q, len, (y2, b, .retAddr 9), tg)) (has : (st.take (b % 64)).reverse = .ref 0 :: as) (hcc : zcall y2 b st = some (.inr (.inl (y2, .ref 0 :: as, rest)))) (hpf : pc + 3 = pf) (hI : LInv h D S) (hw : CI h D S → wq y2 0 (lv_args 0 (.ref 0 :: as)) [] h 0 0 (cOkL h D S)) (k : ∀ (v : Int64) (h2 : zH) (d s D2 S2 : Nat), LInv h2 D2 S2 → d + D ≤ D2 → s + S ≤ S2 → lq L xs pf ls (.long v :: rest) h2 (dc + d) (ds + s)) : lq L xs pc ls st h dc ds := by
  obtain ⟨fs, h0⟩ := CI_0 hI.1
  obtain ⟨r, hz, v, h2, d, s, D2, S2, rfl, c0, f0, e1, e2⟩ := hw hI.1
  obtain ⟨a, b9, c, k1, k2⟩ := k v h2 d s D2 S2 (LI_c hI c0 f0) e1 e2
  subst hpf
  exact ⟨a, b9, c, zT_calv hP has h0 hcc (zT_le (zg0_le L xs) hz) k1, k2⟩
theorem lq_mL {q y2 b : Nat} {as : List Value} (hP : zP 288 pc = some (.invokevirtual q, len, (y2, b, .retAddr 10), tg)) (has : (st.take (b % 64)).reverse = .ref 162 :: as) (hcc : zcall y2 b st = some (.inr (.inl (y2, .ref 162 :: as, rest)))) (hpf : pc + 3 = pf) (hI : LInv h D S) (hw : MI h → wq y2 0 (lv_args 0 (.ref 162 :: as)) [] h 0 0 (rOkL h)) (k : ∀ (v : Int64) (h2 : zH), LInv h2 D S → lq L xs pf ls (.long v :: rest) h2 dc ds) : lq L xs pc ls st h dc ds := by
  obtain ⟨fs, h0⟩ := MI_0 hI.2.1
  obtain ⟨r, hz, v, h2, rfl, c0, f0, _⟩ := hw hI.2.1
  obtain ⟨a, b9, c, k1, k2⟩ := k v h2 (LI_m hI c0 f0)
  subst hpf
  exact ⟨a, b9, c, zT_calv hP has h0 hcc (zT_le (zg0_le L xs) hz) k1, k2⟩
theorem lq_cA {a9 : Int32} {q y2 b : Nat} {as : List Value} (hP : zP 288 pc = some (.invokevirtual q, len, (y2, b, .retAddr 9), tg)) (has : (st.take (b % 64)).reverse = .ref 0 :: as) (hcc : zcall y2 b st = some (.inr (.inl (y2, .ref 0 :: as, rest)))) (hpf : pc + 3 = pf) (hI : LInv h D S) (hw : CI h D S → wq y2 0 (lv_args 0 (.ref 0 :: as)) [] h 0 0 (cOkA a9 h D S)) (k : ∀ (h2 : zH) (d s D2 S2 : Nat), LInv h2 D2 S2 → d + D ≤ D2 → s + S ≤ S2 → lq L xs pf ls (.int a9 :: rest) h2 (dc + d) (ds + s)) : lq L xs pc ls st h dc ds := by
  obtain ⟨fs, h0⟩ := CI_0 hI.1
  obtain ⟨r, hz, e0, v, h2, d, s, D2, S2, rfl, c0, f0, e1, e2⟩ := hw hI.1
  have e3 : v = a9 := by
    have e4 := Option.some.inj e0
    injection e4
  subst e3
  obtain ⟨a, b9, c, k1, k2⟩ := k h2 d s D2 S2 (LI_c hI c0 f0) e1 e2
  subst hpf
  exact ⟨a, b9, c, zT_calv hP has h0 hcc (zT_le (zg0_le L xs) hz) k1, k2⟩
theorem lq_mA {a9 : Int32} {q y2 b : Nat} {as : List Value} (hP : zP 288 pc = some (.invokevirtual q, len, (y2, b, .retAddr 10), tg)) (has : (st.take (b % 64)).reverse = .ref 162 :: as) (hcc : zcall y2 b st = some (.inr (.inl (y2, .ref 162 :: as, rest)))) (hpf : pc + 3 = pf) (hI : LInv h D S) (hw : MI h → wq y2 0 (lv_args 0 (.ref 162 :: as)) [] h 0 0 (rOkA a9 h)) (k : ∀ (h2 : zH), LInv h2 D S → lq L xs pf ls (.int a9 :: rest) h2 dc ds) : lq L xs pc ls st h dc ds := by
  obtain ⟨fs, h0⟩ := MI_0 hI.2.1
  obtain ⟨r, hz, e0, v, h2, rfl, c0, f0, _⟩ := hw hI.2.1
  have e3 : v = a9 := by
    have e4 := Option.some.inj e0
    injection e4
  subst e3
  obtain ⟨a, b9, c, k1, k2⟩ := k h2 (LI_m hI c0 f0)
  subst hpf
  exact ⟨a, b9, c, zT_calv hP has h0 hcc (zT_le (zg0_le L xs) hz) k1, k2⟩
end LQ
