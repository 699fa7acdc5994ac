/-! Six numbers, one a joint: class's rest and spot beside the reference's readPosture. -/
theorem at_lock {pl : Nat} {so va ft fp b lo hi : Int32} (h : ft ≠ 0) : mAtH pl so va ft fp b lo hi = (lo, ft, fp) := by
  unfold mAtH; rw [if_neg h]
theorem go_lock {tb : List Int32} {sz at9 pl : Nat} {so va ft : Int32} (h : ft ≠ 0) : mGo tb sz at9 pl so va ft = (at9, pl, so, va) := by
  unfold mGo; rw [if_pos h]
theorem go_0 (tb : List Int32) (sz at9 pl : Nat) (so va : Int32) : mGo tb sz at9 pl so va 0 = mTok tb sz at9 va := by
  unfold mGo
  rw [if_neg (show ¬ (0 : Int32) ≠ 0 by decide)]
  simp only [zlet]
theorem wro_0 (pl : Nat) (fp kd : Int32) : mWro pl 0 fp kd = (kd, nI pl) := rfl
theorem wro_lock {pl : Nat} {ft fp kd : Int32} (h : ft ≠ 0) : mWro pl ft fp kd = (ft, fp) := by
  unfold mWro; rw [if_neg h]
theorem rp_lock {tb : List Int32} {sz k : Nat} {ft : Int32} (h : ft ≠ 0) (m : Nat) : ∀ (j : Nat) (fp : Int32) (at9 pl : Nat) (so va : Int32) (qq : List Int32), (mrpF tb sz k m j ft fp at9 pl so va qq).1 = ft ∧ (mrpF tb sz k m j ft fp at9 pl so va qq).2.1 = fp := by
  induction m with
  | zero => intro j fp at9 pl so va qq; exact ⟨rfl, rfl⟩
  | succ m ih =>
    intro j fp at9 pl so va qq
    rw [mrpF]
    split
    · exact ⟨rfl, rfl⟩
    · simp only [zlet, at_lock h, go_lock h]
      exact ih _ _ _ _ _ _ _
theorem rdP_lock {tb : List Int32} {sz at9 pl k : Nat} {so va ft fp : Int32} {qq : List Int32} (h : ft ≠ 0) : (mRdP tb sz at9 pl so va ft fp k qq).1 = ft ∧ (mRdP tb sz at9 pl so va ft fp k qq).2.1 = fp := by
  have l := rp_lock (tb := tb) (sz := sz) (k := k) h ((6 - 0) + 1) 0 fp at9 pl so va qq
  simp only [mRdP, zlet]
  exact l
theorem low_r {j : Nat} (h : j < 6) : -64 ≤ (zLow.getD j 0).toInt ∧ (zLow.getD j 0).toInt ≤ 0 ∧ 31 ≤ (zHigh.getD j 0).toInt ∧ (zHigh.getD j 0).toInt ≤ 99 := six_c (P := fun j => -64 ≤ (zLow.getD j 0).toInt ∧ (zLow.getD j 0).toInt ≤ 0 ∧ 31 ≤ (zHigh.getD j 0).toInt ∧ (zHigh.getD j 0).toInt ≤ 99) (by decide) (by decide) (by decide) (by decide) (by decide) (by decide) j h
/-- a posture in the class's long and in the reference's row -/
noncomputable def pkR (p : Int64) (q : List Int32) (k : Nat) : Prop := ∀ i, i < 6 → q.getD (k + i) 0 = jnumv p (nI i)
noncomputable def sxOk (tb : List Int32) (ln k m j : Nat) (wr wa : Int32) (nx : Nat) (kd sta va : Int32) (rt : Int64) (at9 pl : Nat) (so va2 fp : Int32) (qq : List Int32) : Prop :=
  ∃ (n2 : Nat) (k2 s2 v2 : Int32) (r2 : Int64) (p2 : Nat) (o2 w2 : Int32) (q2 : List Int32) (v1 : Int32), rrF tb ln m j wr wa nx kd sta va rt = (1, wr, wa, n2, k2, s2, v2, r2) ∧ mrpF tb ln k m j 0 fp at9 pl so va2 qq = (0, fp, (mTok tb ln n2 v1).1, p2, o2, w2, q2) ∧ mTok tb ln n2 v1 = ((mTok tb ln n2 v1).1, p2, o2, w2) ∧ nx ≤ n2 ∧ n2 ≤ ln ∧ pkR r2 q2 k ∧ (∀ q, q < k ∨ k + 6 ≤ q → q2.getD q 0 = qq.getD q 0)
noncomputable def sxNo (tb : List Int32) (ln k m j : Nat) (wr wa : Int32) (nx : Nat) (kd sta va : Int32) (rt : Int64) (at9 pl : Nat) (so va2 fp : Int32) (qq : List Int32) : Prop :=
  ∃ (f : Int32) (P : Nat), f ≠ 0 ∧ (rrF tb ln m j wr wa nx kd sta va rt).1 = 0 ∧ (rrF tb ln m j wr wa nx kd sta va rt).2.1 = f ∧ (rrF tb ln m j wr wa nx kd sta va rt).2.2.1 = nI P ∧ (mrpF tb ln k m j 0 fp at9 pl so va2 qq).1 = f ∧ (mrpF tb ln k m j 0 fp at9 pl so va2 qq).2.1 = nI P
theorem six_e {tb : List Int32} {ln k : Nat} (hln : ln ≤ 700) (hb : ∀ i, i < ln → 0 ≤ (tb.getD i 0).toInt) (m : Nat) : ∀ (j nx : Nat) (wr wa kd sta va : Int32) (rt : Int64) (at9 pl : Nat) (so va2 fp v0 : Int32) (qq : List Int32), j ≤ 6 → 6 - j < m → nx ≤ ln → mTok tb ln nx v0 = (at9, pl, so, va2) → (∀ i, i < j → qq.getD (k + i) 0 = jnumv rt (nI i)) → sxOk tb ln k m j wr wa nx kd sta va rt at9 pl so va2 fp qq ∨ sxNo tb ln k m j wr wa nx kd sta va rt at9 pl so va2 fp qq := by
  induction m with
  | zero => intro j nx wr wa kd sta va rt at9 pl so va2 fp v0 qq _ h; exact absurd h (Nat.not_lt_zero _)
  | succ m ih =>
    intro j nx wr wa kd sta va rt at9 pl so va2 fp v0 qq hj hm hx S hR
    have q6 : (6 : Int32).toInt = 6 := rfl
    have qj := nI_toInt (n := j) (by omega)
    unfold sxOk sxNo
    by_cases h6 : j = 6
    · left
      subst h6
      refine ⟨nx, kd, sta, va, rt, pl, so, va2, qq, v0, by rw [rrF, if_pos (by omega)], ?_, ?_, Nat.le_refl _, hx, hR, fun q _ => rfl⟩
      · rw [mrpF, if_pos (by omega), S]
      · rw [S]
    · have hj6 : j < 6 := by omega
      have lr := low_r hj6
      obtain ⟨hg, ha, N⟩ := num_e hln hx hb S kd sta va wr wa fp (zLow.getD j 0) (zHigh.getD j 0) 1 (by omega) (by omega) (by omega) (Or.inr rfl)
      rcases N with ⟨x, kx, n1, n2, n3, n4⟩ | ⟨f, kx, v, f0, n1, n2⟩
      · have r1 : rrF tb ln (m + 1) j wr wa nx kd sta va rt = rrF tb ln m (j + 1) wr wa at9 kx (nI pl) x (jwithv rt (nI j) x) := by
          rw [rrF, if_neg (by omega), nI_clamp (by omega)]
          simp only [zlet, n1]
          rw [if_pos (show (1 : Int32) ≠ 0 by decide)]
        have r2 : mrpF tb ln k (m + 1) j 0 fp at9 pl so va2 qq = mrpF tb ln k m (j + 1) 0 fp (mTok tb ln at9 va2).1 (mTok tb ln at9 va2).2.1 (mTok tb ln at9 va2).2.2.1 (mTok tb ln at9 va2).2.2.2 (zset 0 qq (k + j) x) := by
          rw [mrpF, if_neg (by omega), mLeO_j hj6, mMoO_j hj6]
          simp only [zlet, n2, go_0]
        have hR2 : ∀ i, i < j + 1 → (zset 0 qq (k + j) x).getD (k + i) 0 = jnumv (jwithv rt (nI j) x) (nI i) := by
          intro i hi
          rw [zset_get, num_with hj6 (by omega) (by omega)]
          by_cases e : i = j
          · rw [if_pos (by omega), if_pos e]
          · rw [if_neg (by omega), if_neg e]; exact hR i (by omega)
        have g := ih (j + 1) at9 wr wa kx (nI pl) x (jwithv rt (nI j) x) (mTok tb ln at9 va2).1 (mTok tb ln at9 va2).2.1 (mTok tb ln at9 va2).2.2.1 (mTok tb ln at9 va2).2.2.2 fp va2 (zset 0 qq (k + j) x) (by omega) (by omega) ha rfl hR2
        rw [r1, r2]
        rcases g with ⟨N2, K2, S2, V2, R2, P2, O2, W2, Q2, V1, g1, g2, g3, gg, g4, g5, g6⟩ | g
        · left
          refine ⟨N2, K2, S2, V2, R2, P2, O2, W2, Q2, V1, g1, g2, g3, Nat.le_trans hg gg, g4, g5, fun q hq => ?_⟩
          rw [g6 q hq, zset_get, if_neg (by omega)]
        · right
          exact g
      · right
        have r1 : rrF tb ln (m + 1) j wr wa nx kd sta va rt = (0, f, nI pl, at9, kx, nI pl, v, rt) := by
          rw [rrF, if_neg (by omega), nI_clamp (by omega)]
          simp only [zlet, n1]
          rw [if_neg (show ¬ (0 : Int32) ≠ 0 by decide)]
        have r2 : mrpF tb ln k (m + 1) j 0 fp at9 pl so va2 qq = mrpF tb ln k m (j + 1) f (nI pl) at9 pl so va2 (zset 0 qq (k + j) (zLow.getD j 0)) := by
          rw [mrpF, if_neg (by omega), mLeO_j hj6, mMoO_j hj6]
          simp only [zlet, n2, go_lock f0]
        rw [r1, r2]
        have l := rp_lock (tb := tb) (sz := ln) (k := k) f0 m (j + 1) (nI pl) at9 pl so va2 (zset 0 qq (k + j) (zLow.getD j 0))
        exact ⟨f, pl, f0, rfl, rfl, rfl, l.1, l.2⟩
/-- the class's spot loop is its rest loop -/
noncomputable def rzOf (sp : Nat) (po : List Int64) (r : Int32 × Int32 × Int32 × Nat × Int32 × Int32 × Int32 × Int64) : Int32 × Int32 × Int32 × Nat × Int32 × Int32 × Int32 × Nat × List Int64 := (r.1, r.2.1, r.2.2.1, r.2.2.2.1, r.2.2.2.2.1, r.2.2.2.2.2.1, r.2.2.2.2.2.2.1, if r.1 = 0 then sp else sp + 1, if r.1 = 0 then po else zset 0 po sp r.2.2.2.2.2.2.2)
theorem rz_rr (tb : List Int32) (ln m : Nat) : ∀ (j : Nat) (ps : Int64) (wr wa : Int32) (nx : Nat) (kd sta va : Int32) (sp : Nat) (po : List Int64), rzF tb ln m j ps wr wa nx kd sta va sp po = rzOf sp po (rrF tb ln m j wr wa nx kd sta va ps) := by
  induction m with
  | zero => intro j ps wr wa nx kd sta va sp po; rfl
  | succ m ih =>
    intro j ps wr wa nx kd sta va sp po
    rw [rzF, rrF]
    by_cases h : (6 : Int32).toInt ≤ (nI j).toInt
    · rw [if_pos h, if_pos h]
      rfl
    · rw [if_neg h, if_neg h, zlet, zlet]
      generalize rnG tb ln wr wa nx kd sta va (zLow.getD ((nI j)).toNatClampNeg 0) (zHigh.getD ((nI j)).toNatClampNeg 0) (1 : Int32) = R
      by_cases h2 : R.1 ≠ 0
      · rw [if_pos h2, if_pos h2]
        exact ih _ _ _ _ _ _ _ _ _ _
      · rw [if_neg h2, if_neg h2]
        rfl
