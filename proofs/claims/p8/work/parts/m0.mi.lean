/-! The reference's state between calls, all of it. -/
/-- what the reference's calls may change -/
noncomputable def cM (q : Nat) : Prop := 162 ≤ q ∧ q < 232
/-- joints as they can be held -/
noncomputable def mNw (l : List Int32) (o : Nat) : Prop := ∀ j, j < 6 → -64 ≤ (l.getD (o + j) 0).toInt ∧ (l.getD (o + j) 0).toInt ≤ 99
/-- the solutions of the aim that are known -/
noncomputable def mSA (n32 n33 : Int32) (lo hi kn am : List Int32) (fo : List Int64) : Prop := n33 = 1 → n32 = mNum (mSol lo hi kn am) ∧ wFd 4800 (mSol lo hi kn am) fo
/-- what holds of the contents -/
noncomputable def MIf (u : Nat) (n28 n32 n33 : Int32) (kn lo hi sv sq wy am kp nw : List Int32) (fo : List Int64) (sm ri hr pq co : List Int32) (wn : Nat) : Prop := u ≤ 20 ∧ (n33 = 0 ∨ n33 = 1) ∧ mSA n32 n33 lo hi kn am fo ∧ mFa wn kn lo hi sv sq wy ∧ (∀ w, w < 8 → mSP fo sm w) ∧ mNw nw 0 ∧ (∀ k, k < u → mNw kp (12 * k)) ∧ (n28 ≠ 0 → mNw kp 240) ∧ mRk wn ri hr pq co
/-- the cells -/
noncomputable def MIc (h : zH) (n0 n14 n15 n16 n18 n19 n20 n21 n22 n23 n28 n32 n33 n34 n35 n39 n52 : Int32) (t pl u : Nat) (tb : List Int32) (kn : List Int32) (lo : List Int32) (hi : List Int32) (sv : List Int32) (rt : List Int32) (sn : List Int32) (sq : List Int32) (wy : List Int32) (it : List Int32) (hl : List Int32) (hs : List Int32) (nw : List Int32) (am : List Int32) (kp : List Int32) (th : List Int32) (fo : List Int64) (sm : List Int32) (pa : List Int32) (pb : List Int32) (on : List Int32) (h1 : List Int32) (tg : List Int32) (ri : List Int32) (hr : List Int32) (pq : List Int32) (ch : List Int32) (co : List Int32) (t1 : List Int32) (sg : List Int32) (tk : List Int32) (tl : List Int32) (pz : List Int64) (dq : List Int32) : Prop := t ≤ 700 ∧ zat h 162 = some (.inr (.inr (.inr (10, mO n0 (nI t) n14 n15 n16 (nI pl) n18 n19 n20 n21 n22 n23 (nI u) n28 n32 n33 n34 n35 n39 n52)))) ∧ zat h 164 = some (.inl (0, 700, tb)) ∧ zat h 166 = some (.inl (0, 14, kn)) ∧ zat h 168 = some (.inl (0, 12, lo)) ∧ zat h 170 = some (.inl (0, 12, hi)) ∧ zat h 172 = some (.inl (0, 12, sv)) ∧ zat h 174 = some (.inl (0, 12, rt)) ∧ zat h 176 = some (.inl (0, 16, sn)) ∧ zat h 178 = some (.inl (0, 96, sq)) ∧ zat h 180 = some (.inl (0, 20, wy)) ∧ zat h 182 = some (.inl (2, 10, it)) ∧ zat h 184 = some (.inl (2, 6, hl)) ∧ zat h 186 = some (.inl (2, 6, hs)) ∧ zat h 188 = some (.inl (0, 6, nw)) ∧ zat h 190 = some (.inl (0, 6, am)) ∧ zat h 192 = some (.inl (0, 252, kp)) ∧ zat h 194 = some (.inl (0, 6, th)) ∧ zat h 196 = some (.inr (.inl (6000, fo))) ∧ zat h 198 = some (.inl (0, 8, sm)) ∧ zat h 200 = some (.inl (0, 4096, pa)) ∧ zat h 202 = some (.inl (0, 4096, pb)) ∧ zat h 204 = some (.inl (0, 6, on)) ∧ zat h 206 = some (.inl (0, 6, h1)) ∧ zat h 208 = some (.inl (0, 6000, tg)) ∧ zat h 210 = some (.inl (0, 2, ri)) ∧ zat h 212 = some (.inl (2, 2, hr)) ∧ zat h 214 = some (.inl (0, 132, pq)) ∧ zat h 216 = some (.inl (0, 20, ch)) ∧ zat h 218 = some (.inl (0, 22, co)) ∧ zat h 220 = some (.inl (0, 6, t1)) ∧ zat h 222 = some (.inl (0, 6, sg)) ∧ zat h 224 = some (.inl (0, 6, tk)) ∧ zat h 226 = some (.inl (0, 2048, tl)) ∧ zat h 228 = some (.inr (.inl (4096, pz))) ∧ zat h 230 = some (.inl (0, 6, dq))
/-- what is told of the reference's state: what the tape holds, the fault, whether there is an image, the arm -/
noncomputable abbrev vRl : Type := Nat → Int32 → Int32 → Int32 → List Int32 → List Int32 → List Int32 → List Int32 → List Int32 → List Int32 → List Int32 → List Int32 → List Int32 → List Int32 → List Int32 → List Int32 → Nat → Prop
/-- the reference's state -/
noncomputable def MI (h : zH) (R : vRl) : Prop := ∃ (n0 n14 n15 n16 n18 n19 n20 n21 n22 n23 n28 n32 n33 n34 n35 n39 n52 : Int32) (t pl u wn : Nat) (tb : List Int32) (kn : List Int32) (lo : List Int32) (hi : List Int32) (sv : List Int32) (rt : List Int32) (sn : List Int32) (sq : List Int32) (wy : List Int32) (it : List Int32) (hl : List Int32) (hs : List Int32) (nw : List Int32) (am : List Int32) (kp : List Int32) (th : List Int32) (fo : List Int64) (sm : List Int32) (pa : List Int32) (pb : List Int32) (on : List Int32) (h1 : List Int32) (tg : List Int32) (ri : List Int32) (hr : List Int32) (pq : List Int32) (ch : List Int32) (co : List Int32) (t1 : List Int32) (sg : List Int32) (tk : List Int32) (tl : List Int32) (pz : List Int64) (dq : List Int32), MIc h n0 n14 n15 n16 n18 n19 n20 n21 n22 n23 n28 n32 n33 n34 n35 n39 n52 t pl u tb kn lo hi sv rt sn sq wy it hl hs nw am kp th fo sm pa pb on h1 tg ri hr pq ch co t1 sg tk tl pz dq ∧ MIf u n28 n32 n33 kn lo hi sv sq wy am kp nw fo sm ri hr pq co wn ∧ R t n22 n23 n28 tb kn lo hi sv rt sn sq wy nw am kp u
/-- what a call of the reference leaves -/
noncomputable def rOk (h : zH) (R : vRl) (r : zR) : Prop := ∃ (v : Int32) (h2 : zH), r = (some (.int v), h2, 0, 0) ∧ MI h2 R ∧ wFx cM h h2 ∧ h2.length = h.length
noncomputable def rOkL (h : zH) (R : vRl) (r : zR) : Prop := ∃ (v : Int64) (h2 : zH), r = (some (.long v), h2, 0, 0) ∧ MI h2 R ∧ wFx cM h h2 ∧ h2.length = h.length
theorem rOk_i {h h2 : zH} {S : List Nat} (f : wFr S h h2) (l : h2.length = h.length) (hS : ∀ q ∈ S, 162 ≤ q ∧ q < 232) (v : Int32) {R : vRl} (k : MI h2 R) : rOk h R (some (.int v), h2, 0, 0) := ⟨v, h2, rfl, k, wFx_of f (fun q hq => Or.inl (hS q hq)), l⟩
theorem rOk_l {h h2 : zH} {S : List Nat} (f : wFr S h h2) (l : h2.length = h.length) (hS : ∀ q ∈ S, 162 ≤ q ∧ q < 232) (v : Int64) {R : vRl} (k : MI h2 R) : rOkL h R (some (.long v), h2, 0, 0) := ⟨v, h2, rfl, k, wFx_of f (fun q hq => Or.inl (hS q hq)), l⟩
theorem MI_fx {h h2 : zH} {R : vRl} (k : MI h R) (f : wFx (fun q => q < 162 ∨ 232 ≤ q) h h2) : MI h2 R := by
  obtain ⟨n0, n14, n15, n16, n18, n19, n20, n21, n22, n23, n28, n32, n33, n34, n35, n39, n52, t, pl, u, wn, tb, kn, lo, hi, sv, rt, sn, sq, wy, it, hl, hs, nw, am, kp, th, fo, sm, pa, pb, on, h1, tg, ri, hr, pq, ch, co, t1, sg, tk, tl, pz, dq, ⟨ht, c162, c164, c166, c168, c170, c172, c174, c176, c178, c180, c182, c184, c186, c188, c190, c192, c194, c196, c198, c200, c202, c204, c206, c208, c210, c212, c214, c216, c218, c220, c222, c224, c226, c228, c230⟩, hF, hR⟩ := k
  exact ⟨_, _, _, _, _, _, _, _, _, _, _, _, _, _, _, _, _, _, _, _, _, _, _, _, _, _, _, _, _, _, _, _, _, _, _, _, _, _, _, _, _, _, _, _, _, _, _, _, _, _, _, _, _, _, _, ⟨ht, wFx_at f (by decide) c162, wFx_at f (by decide) c164, wFx_at f (by decide) c166, wFx_at f (by decide) c168, wFx_at f (by decide) c170, wFx_at f (by decide) c172, wFx_at f (by decide) c174, wFx_at f (by decide) c176, wFx_at f (by decide) c178, wFx_at f (by decide) c180, wFx_at f (by decide) c182, wFx_at f (by decide) c184, wFx_at f (by decide) c186, wFx_at f (by decide) c188, wFx_at f (by decide) c190, wFx_at f (by decide) c192, wFx_at f (by decide) c194, wFx_at f (by decide) c196, wFx_at f (by decide) c198, wFx_at f (by decide) c200, wFx_at f (by decide) c202, wFx_at f (by decide) c204, wFx_at f (by decide) c206, wFx_at f (by decide) c208, wFx_at f (by decide) c210, wFx_at f (by decide) c212, wFx_at f (by decide) c214, wFx_at f (by decide) c216, wFx_at f (by decide) c218, wFx_at f (by decide) c220, wFx_at f (by decide) c222, wFx_at f (by decide) c224, wFx_at f (by decide) c226, wFx_at f (by decide) c228, wFx_at f (by decide) c230⟩, hF, hR⟩
theorem kLay_in (kp nw am : List Int32) (k j : Nat) (hj : j < 6) : (kLay kp nw am k).getD (12 * k + j) 0 = nw.getD j 0 := by
  unfold kLay
  simp only [zset_get]
  have hc : j = 0 ∨ j = 1 ∨ j = 2 ∨ j = 3 ∨ j = 4 ∨ j = 5 := by omega
  rcases hc with e | e | e | e | e | e <;> subst e
  · rw [if_neg (by omega)]; rw [if_neg (by omega)]; rw [if_neg (by omega)]; rw [if_neg (by omega)]; rw [if_neg (by omega)]; rw [if_neg (by omega)]; rw [if_neg (by omega)]; rw [if_neg (by omega)]; rw [if_neg (by omega)]; rw [if_neg (by omega)]; rw [if_neg (by omega)]; rw [if_pos (by omega)]
  · rw [if_neg (by omega)]; rw [if_neg (by omega)]; rw [if_neg (by omega)]; rw [if_neg (by omega)]; rw [if_neg (by omega)]; rw [if_neg (by omega)]; rw [if_neg (by omega)]; rw [if_neg (by omega)]; rw [if_neg (by omega)]; rw [if_pos (by omega)]
  · rw [if_neg (by omega)]; rw [if_neg (by omega)]; rw [if_neg (by omega)]; rw [if_neg (by omega)]; rw [if_neg (by omega)]; rw [if_neg (by omega)]; rw [if_neg (by omega)]; rw [if_pos (by omega)]
  · rw [if_neg (by omega)]; rw [if_neg (by omega)]; rw [if_neg (by omega)]; rw [if_neg (by omega)]; rw [if_neg (by omega)]; rw [if_pos (by omega)]
  · rw [if_neg (by omega)]; rw [if_neg (by omega)]; rw [if_neg (by omega)]; rw [if_pos (by omega)]
  · rw [if_neg (by omega)]; rw [if_pos (by omega)]
theorem kLay_out (kp nw am : List Int32) (k q : Nat) (hq : q < 12 * k ∨ 12 * k + 12 ≤ q) : (kLay kp nw am k).getD q 0 = kp.getD q 0 := by
  unfold kLay
  simp only [zset_get]
  rw [if_neg (by omega), if_neg (by omega), if_neg (by omega), if_neg (by omega), if_neg (by omega), if_neg (by omega), if_neg (by omega), if_neg (by omega), if_neg (by omega), if_neg (by omega), if_neg (by omega), if_neg (by omega)]
theorem kNow_at (nw kp : List Int32) (k j : Nat) (hj : j < 6) : (kNow nw kp k).getD j 0 = kp.getD (12 * k + j) 0 := by
  unfold kNow
  simp only [zset_get]
  have hc : j = 0 ∨ j = 1 ∨ j = 2 ∨ j = 3 ∨ j = 4 ∨ j = 5 := by omega
  rcases hc with e | e | e | e | e | e <;> subst e
  · rw [if_neg (by omega)]; rw [if_neg (by omega)]; rw [if_neg (by omega)]; rw [if_neg (by omega)]; rw [if_neg (by omega)]; rw [if_pos (by omega)]
  · rw [if_neg (by omega)]; rw [if_neg (by omega)]; rw [if_neg (by omega)]; rw [if_neg (by omega)]; rw [if_pos (by omega)]
  · rw [if_neg (by omega)]; rw [if_neg (by omega)]; rw [if_neg (by omega)]; rw [if_pos (by omega)]
  · rw [if_neg (by omega)]; rw [if_neg (by omega)]; rw [if_pos (by omega)]
  · rw [if_neg (by omega)]; rw [if_pos (by omega)]
  · rw [if_pos (by omega)]
theorem mNw_lay {kp nw am : List Int32} (k : Nat) (h : mNw nw 0) : mNw (kLay kp nw am k) (12 * k) := fun j hj => by
  rw [kLay_in _ _ _ _ _ hj]
  have e := h j hj
  rwa [Nat.zero_add] at e
theorem mNw_out {kp nw am : List Int32} {k o : Nat} (h : mNw kp o) (ho : o + 6 ≤ 12 * k ∨ 12 * k + 12 ≤ o) : mNw (kLay kp nw am k) o := fun j hj => by
  rw [kLay_out _ _ _ _ _ (by omega)]
  exact h j hj
theorem mNw_now {kp nw : List Int32} {k : Nat} (h : mNw kp (12 * k)) : mNw (kNow nw kp k) 0 := fun j hj => by
  rw [Nat.zero_add, kNow_at _ _ _ _ hj]
  exact h j hj
theorem mrm_at : ∀ (m k : Nat) (kp : List Int32), k ≤ 228 → 228 - k < m → ∀ q, (mrmF m k kp).getD q 0 = if k ≤ q ∧ q < 228 then kp.getD (12 + q) 0 else kp.getD q 0
  | 0, k, kp, h1, h2, q => absurd h2 (Nat.not_lt_zero _)
  | m + 1, k, kp, h1, h2, q => by
    have ek := nI_toInt (n := k) (by omega)
    unfold mrmF
    by_cases hk : (228 : Int32).toInt ≤ (nI k).toInt
    · rw [if_pos hk, if_neg]
      rw [ek] at hk
      have : (228 : Int32).toInt = 228 := rfl
      omega
    · have : (228 : Int32).toInt = 228 := rfl
      rw [ek] at hk
      rw [if_neg (by rw [ek]; exact hk), mrm_at m (k + 1) _ (by omega) (by omega)]
      by_cases hq : k + 1 ≤ q ∧ q < 228
      · rw [if_pos hq, if_pos (by omega), zset_get, if_neg (by omega)]
      · rw [if_neg hq, zset_get]
        by_cases e : q = k
        · rw [if_pos e, if_pos (by omega), e]
        · rw [if_neg e, if_neg (by omega)]
theorem mNw_rm {kp : List Int32} {k : Nat} (h : mNw kp (12 * (k + 1))) (hk : k < 19) : mNw (mrmF (228 - 0 + 1) 0 kp) (12 * k) := fun j hj => by
  rw [mrm_at _ _ _ (by decide) (by decide), if_pos (by omega), show 12 + (12 * k + j) = 12 * (k + 1) + j by omega]
  exact h j hj
theorem mNw_rm2 {kp : List Int32} (h : mNw kp 240) : mNw (mrmF (228 - 0 + 1) 0 kp) 240 := fun j hj => by
  rw [mrm_at _ _ _ (by decide) (by decide), if_neg (by omega)]
  exact h j hj
theorem mRem_ok {nw am kp : List Int32} {u : Nat} {n28 : Int32} (hu : u ≤ 20) (hN : mNw nw 0) (hK : ∀ k, k < u → mNw kp (12 * k)) (h0 : n28 ≠ 0 → mNw kp 240) : (mRem nw am kp u).1 ≤ 20 ∧ (∀ k, k < (mRem nw am kp u).1 → mNw (mRem nw am kp u).2 (12 * k)) ∧ (n28 ≠ 0 → mNw (mRem nw am kp u).2 240) := by
  have eu := nI_toInt (n := u) (by omega)
  unfold mRem
  by_cases e : nI u ≠ (20 : Int32)
  · rw [if_pos e]
    have hu2 : u < 20 := by
      rcases Nat.lt_or_ge u 20 with a | a
      · exact a
      · exact absurd (show nI u = (20 : Int32) by rw [show u = 20 by omega]; rfl) e
    refine ⟨hu2, fun k hk => ?_, fun a => mNw_out (h0 a) (by omega)⟩
    by_cases hk2 : k = u
    · rw [hk2]; exact mNw_lay u hN
    · have hk3 : k < u + 1 := hk
      exact mNw_out (hK k (by omega)) (by omega)
  · rw [if_neg e]
    have e2 : nI u = (20 : Int32) := Classical.not_not.mp e
    have e3 : (u : Int) = 20 := by rw [← eu, e2]; rfl
    have e4 : u = 20 := by omega
    subst e4
    have a1 : n28 ≠ 0 → mNw (mrmF (228 - 0 + 1) 0 kp) 240 := fun a => mNw_rm2 (h0 a)
    have a2 : ∀ k, k < 19 → mNw (mrmF (228 - 0 + 1) 0 kp) (12 * k) := fun k hk => mNw_rm (hK (k + 1) (by omega)) hk
    revert a1 a2
    generalize mrmF (228 - 0 + 1) 0 kp = kz
    intro a1 a2
    show 20 ≤ 20 ∧ (∀ k, k < 20 → mNw (kLay kz nw am 19) (12 * k)) ∧ (n28 ≠ 0 → mNw (kLay kz nw am 19) 240)
    refine ⟨by decide, fun k hk => ?_, fun a => mNw_out (a1 a) (by decide)⟩
    by_cases hk2 : k = 19
    · rw [hk2]; exact mNw_lay 19 hN
    · exact mNw_out (a2 k (by omega)) (by omega)
theorem mvd_z (hr : List Int32) (r : Nat) (h : r < 2) : (mvd hr).getD r 0 = 0 := by
  unfold mvd
  simp only [zset_get]
  have e : vp_nar .boolean (0 : Int32) = 0 := by decide
  have hc : r = 0 ∨ r = 1 := by omega
  rcases hc with q | q <;> subst q
  · rw [if_neg (by decide), if_pos rfl, e]
  · rw [if_pos rfl, e]
theorem mRk_mv {wn w2 : Nat} {ri hr pq co : List Int32} (k : mRk wn ri hr pq co) : mRk w2 ri (mvd hr) pq co := ⟨k.1, fun r hr2 h => absurd (mvd_z hr r hr2) h⟩
theorem mSA_0 (n32 : Int32) (lo hi kn am : List Int32) (fo : List Int64) : mSA n32 0 lo hi kn am fo := fun e => absurd e (by decide)
theorem mSA_1 {lo hi kn am : List Int32} {fo fo2 : List Int64} (k : wFe (fun q => fo.getD q 0) 4800 (mSol lo hi kn am) fo2) : mSA (mNum (mSol lo hi kn am)) 1 lo hi kn am fo2 := fun _ => ⟨rfl, k.1⟩
theorem mSP_e {fo fo2 : List Int64} {sm : List Int32} {s : mS} (h : ∀ w, w < 8 → mSP fo sm w) (k : wFe (fun q => fo.getD q 0) 4800 s fo2) : ∀ w, w < 8 → mSP fo2 sm w := fun w hw => mSP_o (h w hw) k.2 (by omega) rfl
theorem mNw_b {l : List Int32} {o : Nat} (h : mNw l o) : mJb l o := fun j hj => by
  have e := h j hj
  omega
theorem mFa_s {wn : Nat} {kn lo hi sv sq wy : List Int32} (h : mFa wn kn lo hi sv sq wy) : ∀ i, i < 6 → 1 ≤ (sv.getD i 0).toInt := fun i hi => (h.2.2.2.2.2 i hi).1
theorem mFa_d {wn : Nat} {kn lo hi sv sq wy : List Int32} (h : mFa wn kn lo hi sv sq wy) : mSpd sv := fun i hi => by
  have e := h.2.2.2.2.2 i hi
  omega
theorem mFa_n {wn : Nat} {kn lo hi sv sq wy : List Int32} (h : mFa wn kn lo hi sv sq wy) : ∃ ns, (kn.getD 5 0 = nI ns ∧ ns ≤ 8) ∧ ∀ k, k < ns → mJb sq (6 * k) := by
  obtain ⟨_, _, ⟨ns, a, b, _, d⟩, _⟩ := h
  refine ⟨ns, ⟨a, b⟩, fun k hk j hj => ?_⟩
  have e := d k hk j hj
  have z : ∀ j, j < 6 → -128 ≤ (zLow.getD j 0).toInt ∧ (zHigh.getD j 0).toInt ≤ 191 := by decide
  have z2 := z j hj
  omega
theorem wLm_b {lo hi : List Int32} (h : wLm lo hi) : ∀ i, i < 6 → -64 ≤ (lo.getD i 0).toInt ∧ (hi.getD i 0).toInt ≤ 99 := fun i hi => by
  have e := h i hi
  have z : ∀ j, j < 6 → -64 ≤ (zLow.getD j 0).toInt ∧ (zHigh.getD j 0).toInt ≤ 99 := by decide
  have z2 := z i hi
  omega
theorem MI_el {h : zH} {P : Prop} {R : vRl} (k : MI h R) (g : ∀ (n0 n14 n15 n16 n18 n19 n20 n21 n22 n23 n28 n32 n33 n34 n35 n39 n52 : Int32) (t pl u wn : Nat) (tb : List Int32) (kn : List Int32) (lo : List Int32) (hi : List Int32) (sv : List Int32) (rt : List Int32) (sn : List Int32) (sq : List Int32) (wy : List Int32) (it : List Int32) (hl : List Int32) (hs : List Int32) (nw : List Int32) (am : List Int32) (kp : List Int32) (th : List Int32) (fo : List Int64) (sm : List Int32) (pa : List Int32) (pb : List Int32) (on : List Int32) (h1 : List Int32) (tg : List Int32) (ri : List Int32) (hr : List Int32) (pq : List Int32) (ch : List Int32) (co : List Int32) (t1 : List Int32) (sg : List Int32) (tk : List Int32) (tl : List Int32) (pz : List Int64) (dq : List Int32), (t ≤ 700) → (zat h 162 = some (.inr (.inr (.inr (10, mO n0 (nI t) n14 n15 n16 (nI pl) n18 n19 n20 n21 n22 n23 (nI u) n28 n32 n33 n34 n35 n39 n52))))) → (zat h 164 = some (.inl (0, 700, tb))) → (zat h 166 = some (.inl (0, 14, kn))) → (zat h 168 = some (.inl (0, 12, lo))) → (zat h 170 = some (.inl (0, 12, hi))) → (zat h 172 = some (.inl (0, 12, sv))) → (zat h 174 = some (.inl (0, 12, rt))) → (zat h 176 = some (.inl (0, 16, sn))) → (zat h 178 = some (.inl (0, 96, sq))) → (zat h 180 = some (.inl (0, 20, wy))) → (zat h 182 = some (.inl (2, 10, it))) → (zat h 184 = some (.inl (2, 6, hl))) → (zat h 186 = some (.inl (2, 6, hs))) → (zat h 188 = some (.inl (0, 6, nw))) → (zat h 190 = some (.inl (0, 6, am))) → (zat h 192 = some (.inl (0, 252, kp))) → (zat h 194 = some (.inl (0, 6, th))) → (zat h 196 = some (.inr (.inl (6000, fo)))) → (zat h 198 = some (.inl (0, 8, sm))) → (zat h 200 = some (.inl (0, 4096, pa))) → (zat h 202 = some (.inl (0, 4096, pb))) → (zat h 204 = some (.inl (0, 6, on))) → (zat h 206 = some (.inl (0, 6, h1))) → (zat h 208 = some (.inl (0, 6000, tg))) → (zat h 210 = some (.inl (0, 2, ri))) → (zat h 212 = some (.inl (2, 2, hr))) → (zat h 214 = some (.inl (0, 132, pq))) → (zat h 216 = some (.inl (0, 20, ch))) → (zat h 218 = some (.inl (0, 22, co))) → (zat h 220 = some (.inl (0, 6, t1))) → (zat h 222 = some (.inl (0, 6, sg))) → (zat h 224 = some (.inl (0, 6, tk))) → (zat h 226 = some (.inl (0, 2048, tl))) → (zat h 228 = some (.inr (.inl (4096, pz)))) → (zat h 230 = some (.inl (0, 6, dq))) → (u ≤ 20) → ((n33 = 0 ∨ n33 = 1)) → (mSA n32 n33 lo hi kn am fo) → (mFa wn kn lo hi sv sq wy) → ((∀ w, w < 8 → mSP fo sm w)) → (mNw nw 0) → ((∀ k, k < u → mNw kp (12 * k))) → ((n28 ≠ 0 → mNw kp 240)) → (mRk wn ri hr pq co) → (R t n22 n23 n28 tb kn lo hi sv rt sn sq wy nw am kp u) → P) : P := by
  obtain ⟨n0, n14, n15, n16, n18, n19, n20, n21, n22, n23, n28, n32, n33, n34, n35, n39, n52, t, pl, u, wn, tb, kn, lo, hi, sv, rt, sn, sq, wy, it, hl, hs, nw, am, kp, th, fo, sm, pa, pb, on, h1, tg, ri, hr, pq, ch, co, t1, sg, tk, tl, pz, dq, ⟨ht, c162, c164, c166, c168, c170, c172, c174, c176, c178, c180, c182, c184, c186, c188, c190, c192, c194, c196, c198, c200, c202, c204, c206, c208, c210, c212, c214, c216, c218, c220, c222, c224, c226, c228, c230⟩, hF, hR⟩ := k
  obtain ⟨hu, h01, hSA, hFa, hSP, hNw, hKp, hK0, hRk⟩ := hF
  exact g _ _ _ _ _ _ _ _ _ _ _ _ _ _ _ _ _ _ _ _ _ _ _ _ _ _ _ _ _ _ _ _ _ _ _ _ _ _ _ _ _ _ _ _ _ _ _ _ _ _ _ _ _ _ _ ht c162 c164 c166 c168 c170 c172 c174 c176 c178 c180 c182 c184 c186 c188 c190 c192 c194 c196 c198 c200 c202 c204 c206 c208 c210 c212 c214 c216 c218 c220 c222 c224 c226 c228 c230 hu h01 hSA hFa hSP hNw hKp hK0 hRk hR
noncomputable def rOkA (a : Int32) (h : zH) (R : vRl) (r : zR) : Prop := r.1 = some (.int a) ∧ rOk h R r
theorem mfd_e (a b c d e : Int32) : ∀ (m k t : Nat) (tb : List Int32), k ≤ 20 → 20 - k < m → (mfdF a b c d e m k t tb).1 = nI (t + 20) ∧ (mfdF a b c d e m k t tb).2.1 = t + 20
  | 0, k, t, tb, _, h => absurd h (Nat.not_lt_zero _)
  | m + 1, k, t, tb, hk, hm => by
    have qk := nI_toInt (n := k) (by omega)
    have q20 : (20 : Int32).toInt = 20 := rfl
    unfold mfdF
    split
    · exact ⟨rfl, rfl⟩
    · rename_i h20
      have ih := fun tb2 => mfd_e a b c d e m (k + 1) t tb2 (by omega) (by omega)
      split
      · split
        · split
          · split
            · exact ih _
            · exact ih _
          · exact ih _
        · exact ih _
      · exact ih _
/-- what the reader tells; the arm taken over -/
noncomputable def mtH (tb : List Int32) (sz : Nat) (va fp : Int32) (kn lo hi sv rt sn sq wy it hl hs : List Int32) (T9 : Int32 × Int32 × Int32 × Nat × Int32 × Int32 × Int32 × Int32 × List Int32 × List Int32 × List Int32 × List Int32 × List Int32 × List Int32 × List Int32 × List Int32 × List Int32 × List Int32 × List Int32) : Prop := T9 = mRtx tb sz va fp kn lo hi sv rt sn sq wy it hl hs
noncomputable def muH (T9 : Int32 × Int32 × Int32 × Nat × Int32 × Int32 × Int32 × Int32 × List Int32 × List Int32 × List Int32 × List Int32 × List Int32 × List Int32 × List Int32 × List Int32 × List Int32 × List Int32 × List Int32) (sm : List Int32) (U9 : List Int32 × List Int32 × List Int32 × List Int32 × List Int32 × List Int32 × List Int32 × List Int32 × List Int32) : Prop := U9 = mTkT (T9.2.2.2.2.2.2.2.2.1) (T9.2.2.2.2.2.2.2.2.2.1) (T9.2.2.2.2.2.2.2.2.2.2.1) (T9.2.2.2.2.2.2.2.2.2.2.2.1) (T9.2.2.2.2.2.2.2.2.2.2.2.2.1) (T9.2.2.2.2.2.2.2.2.2.2.2.2.2.1) (T9.2.2.2.2.2.2.2.2.2.2.2.2.2.2.1) (T9.2.2.2.2.2.2.2.2.2.2.2.2.2.2.2.1) sm
/-- how a text begins -/
noncomputable def mbH (kn rt nw am th hr : List Int32) (B9 : Int32 × Int32 × Int32 × List Int32 × List Int32 × List Int32 × List Int32) : Prop := B9 = mBeg kn rt nw am th hr
/-- what must stand behind a text that answers a -/
noncomputable def rTx (R2 : vRl) (n a : Int32) (t : Nat) (n22 n23 n28 : Int32) (tb kn lo hi sv rt sn sq wy nw am kp : List Int32) (u : Nat) : Prop := (¬ (0 ≤ n.toInt ∧ n.toInt ≤ (t : Int)) → a = -2 ∧ R2 t n22 n23 n28 tb kn lo hi sv rt sn sq wy nw am kp u) ∧ (∀ sz : Nat, n = nI sz → sz ≤ t → t ≤ 700 → ∀ (va fp : Int32) (it hl hs sm : List Int32) (T9 : Int32 × Int32 × Int32 × Nat × Int32 × Int32 × Int32 × Int32 × List Int32 × List Int32 × List Int32 × List Int32 × List Int32 × List Int32 × List Int32 × List Int32 × List Int32 × List Int32 × List Int32) (U9 : List Int32 × List Int32 × List Int32 × List Int32 × List Int32 × List Int32 × List Int32 × List Int32 × List Int32), mtH tb sz va fp kn lo hi sv rt sn sq wy it hl hs T9 → muH T9 sm U9 → (T9.1 ≠ 0 → wFz kn lo hi sv sq wy (T9.2.2.2.2.2.2.2.2.1) (T9.2.2.2.2.2.2.2.2.2.1) (T9.2.2.2.2.2.2.2.2.2.2.1) (T9.2.2.2.2.2.2.2.2.2.2.2.1) (T9.2.2.2.2.2.2.2.2.2.2.2.2.2.2.1) (T9.2.2.2.2.2.2.2.2.2.2.2.2.2.2.2.1) → a = -1 ∧ R2 0 T9.1 T9.2.1 n28 tb (T9.2.2.2.2.2.2.2.2.1) (T9.2.2.2.2.2.2.2.2.2.1) (T9.2.2.2.2.2.2.2.2.2.2.1) (T9.2.2.2.2.2.2.2.2.2.2.2.1) (T9.2.2.2.2.2.2.2.2.2.2.2.2.1) (T9.2.2.2.2.2.2.2.2.2.2.2.2.2.1) (T9.2.2.2.2.2.2.2.2.2.2.2.2.2.2.1) (T9.2.2.2.2.2.2.2.2.2.2.2.2.2.2.2.1) nw am kp u) ∧ (T9.1 = 0 → a = T9.2.2.2.2.2.2.1 ∧ ∀ (th hr : List Int32) (B9 : Int32 × Int32 × Int32 × List Int32 × List Int32 × List Int32 × List Int32), mbH (U9.1) (U9.2.2.2.2.1) nw am th hr B9 → R2 0 T9.1 (-1) 0 tb (U9.1) (U9.2.1) (U9.2.2.1) (U9.2.2.2.1) (U9.2.2.2.2.1) (U9.2.2.2.2.2.1) (U9.2.2.2.2.2.2.1) (U9.2.2.2.2.2.2.2.1) (B9.2.2.2.1) (B9.2.2.2.2.2.1) kp 0))
