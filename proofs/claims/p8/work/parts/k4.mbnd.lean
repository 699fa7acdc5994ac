/-! The reference: bounds of what is found, of ticks, of what is left. -/
noncomputable def mPkR (x : Int64) : Prop := 0 ≤ x.toInt ∧ x.toInt < 214748364800
theorem l_add {a b : Int64} (h1 : -9223372036854775808 ≤ a.toInt + b.toInt) (h2 : a.toInt + b.toInt < 9223372036854775808) : (a + b).toInt = a.toInt + b.toInt := by
  rw [Int64.toInt_add]; exact Int.bmod_eq_of_le (by omega) (by omega)
theorem l_mulc {c a : Int64} {k : Int} (hc : c.toInt = k) (h1 : -9223372036854775808 ≤ k * a.toInt) (h2 : k * a.toInt < 9223372036854775808) : (c * a).toInt = k * a.toInt := by
  rw [Int64.toInt_mul, hc]; exact Int.bmod_eq_of_le (by omega) (by omega)
theorem jpack_R {r a b c d e : Int32} (hr : 0 ≤ r.toInt ∧ r.toInt ≤ 99) (ha : -32 ≤ a.toInt ∧ a.toInt ≤ 31) (hb : -32 ≤ b.toInt ∧ b.toInt ≤ 31) (hc : -32 ≤ c.toInt ∧ c.toInt ≤ 31) (hd : -32 ≤ d.toInt ∧ d.toInt ≤ 31) (he : -64 ≤ e.toInt ∧ e.toInt ≤ 63) : mPkR (jpack r a b c d e) := by
  have z32 : (32 : Int64).toInt = 32 := rfl
  have z64 : (64 : Int64).toInt = 64 := rfl
  have er := Int32.toInt_toInt64 r
  have ea := Int32.toInt_toInt64 a
  have eb := Int32.toInt_toInt64 b
  have ec := Int32.toInt_toInt64 c
  have ed := Int32.toInt_toInt64 d
  have ee := Int32.toInt_toInt64 e
  unfold mPkR jpack
  have m1 : (64 * r.toInt64).toInt = 64 * r.toInt64.toInt := l_mulc rfl (by omega) (by omega)
  have s1 : (64 * r.toInt64 + a.toInt64).toInt = _ := l_add (by omega) (by omega)
  have t1 : (64 * r.toInt64 + a.toInt64 + 32).toInt = _ := l_add (by omega) (by omega)
  generalize 64 * r.toInt64 + a.toInt64 + 32 = x1 at *
  have m2 : (64 * x1).toInt = 64 * x1.toInt := l_mulc rfl (by omega) (by omega)
  have s2 : (64 * x1 + b.toInt64).toInt = _ := l_add (by omega) (by omega)
  have t2 : (64 * x1 + b.toInt64 + 32).toInt = _ := l_add (by omega) (by omega)
  have m3 : (64 * (64 * x1 + b.toInt64 + 32)).toInt = 64 * (64 * x1 + b.toInt64 + 32).toInt := l_mulc rfl (by omega) (by omega)
  have s3 : (64 * (64 * x1 + b.toInt64 + 32) + c.toInt64).toInt = _ := l_add (by omega) (by omega)
  have t3 : (64 * (64 * x1 + b.toInt64 + 32) + c.toInt64 + 32).toInt = _ := l_add (by omega) (by omega)
  have m4 : (64 * (64 * (64 * x1 + b.toInt64 + 32) + c.toInt64 + 32)).toInt = 64 * (64 * (64 * x1 + b.toInt64 + 32) + c.toInt64 + 32).toInt := l_mulc rfl (by omega) (by omega)
  have s4 : (64 * (64 * (64 * x1 + b.toInt64 + 32) + c.toInt64 + 32) + d.toInt64).toInt = _ := l_add (by omega) (by omega)
  have t4 : (64 * (64 * (64 * x1 + b.toInt64 + 32) + c.toInt64 + 32) + d.toInt64 + 32).toInt = _ := l_add (by omega) (by omega)
  have m5 : (128 * (64 * (64 * (64 * x1 + b.toInt64 + 32) + c.toInt64 + 32) + d.toInt64 + 32)).toInt = 128 * (64 * (64 * (64 * x1 + b.toInt64 + 32) + c.toInt64 + 32) + d.toInt64 + 32).toInt := l_mulc rfl (by omega) (by omega)
  have s5 : (128 * (64 * (64 * (64 * x1 + b.toInt64 + 32) + c.toInt64 + 32) + d.toInt64 + 32) + e.toInt64).toInt = _ := l_add (by omega) (by omega)
  have t5 : (128 * (64 * (64 * (64 * x1 + b.toInt64 + 32) + c.toInt64 + 32) + d.toInt64 + 32) + e.toInt64 + 64).toInt = _ := l_add (by omega) (by omega)
  constructor <;> omega
theorem l_and {x : Int64} {n : Nat} {c : Int64} (hc : c.toBitVec = BitVec.ofNat 64 (2 ^ n - 1)) (hn : n ≤ 20) : 0 ≤ (x &&& c).toInt32.toInt ∧ (x &&& c).toInt32.toInt < ((2 ^ n : Nat) : Int) := by
  have e3 : 2 ^ n ≤ 2 ^ 20 := Nat.pow_le_pow_right (by decide) hn
  have e1 : (x &&& c).toBitVec.toNat = x.toBitVec.toNat % 2 ^ n := by
    rw [Int64.toBitVec_and, BitVec.toNat_and, hc, BitVec.toNat_ofNat, Nat.mod_eq_of_lt (a := 2 ^ n - 1) (by omega), Nat.and_two_pow_sub_one_eq_mod]
  have e2 : x.toBitVec.toNat % 2 ^ n < 2 ^ n := Nat.mod_lt _ (Nat.two_pow_pos n)
  have e4 : (x &&& c).toInt = ((x.toBitVec.toNat % 2 ^ n : Nat) : Int) := by
    show (x &&& c).toBitVec.toInt = _
    rw [BitVec.toInt_eq_toNat_of_lt (by omega), e1]
  generalize x.toBitVec.toNat % 2 ^ n = y at e2 e4
  generalize 2 ^ n = N at e2 e3
  rw [Int64.toInt_toInt32, e4, Int.bmod_eq_of_le (by omega) (by omega)]
  constructor <;> omega
theorem mJof_b {v : Int64} (h : mPkR v) (j : Int32) : -64 ≤ (mJof v j).toInt ∧ (mJof v j).toInt ≤ 99 := by
  unfold mJof
  by_cases h5 : j ≠ 5
  · rw [if_pos h5]
    by_cases h0 : j ≠ 0
    · rw [if_pos h0]
      have a := l_and (x := v >>> ((((7 : Int32) + ((6 : Int32) * ((4 : Int32) - j)))).toInt64 &&& 63)) (n := 6) (c := 63) rfl (by decide)
      have p6 : ((2 ^ 6 : Nat) : Int) = 64 := rfl
      generalize (v >>> ((((7 : Int32) + ((6 : Int32) * ((4 : Int32) - j)))).toInt64 &&& 63) &&& (63 : Int64)).toInt32 = y at a
      have z : (32 : Int32).toInt = 32 := rfl
      have e : (y - 32).toInt = y.toInt - 32 := by
        rw [Int32.toInt_sub, z]; exact Int.bmod_eq_of_le (by omega) (by omega)
      omega
    · rw [if_neg h0]
      have e0 : j = 0 := by
        by_cases q : j = 0
        · exact q
        · exact absurd q h0
      subst e0
      have e1 : ((((7 : Int32) + ((6 : Int32) * ((4 : Int32) - 0)))).toInt64 &&& 63) = 31 := by decide
      rw [e1]
      have e2 : (v >>> (31 : Int64)).toInt = v.toInt / 2147483648 := by
        show (v >>> (31 : Int64)).toBitVec.toInt = v.toBitVec.toInt / 2147483648
        rw [Int64.toBitVec_shiftRight, BitVec.toInt_sshiftRight']
        have : ((31 : Int64).toBitVec.smod 64).toNat = 31 := by decide
        rw [this, Int.shiftRight_eq_div_pow]
        rfl
      unfold mPkR at h
      rw [Int64.toInt_toInt32, e2, Int.bmod_eq_of_le (by omega) (by omega)]
      omega
  · rw [if_neg h5]
    have a := l_and (x := v) (n := 7) (c := 127) rfl (by decide)
    have p7 : ((2 ^ 7 : Nat) : Int) = 128 := rfl
    generalize (v &&& (127 : Int64)).toInt32 = y at a
    have z : (64 : Int32).toInt = 64 := rfl
    have e : (y - 64).toInt = y.toInt - 64 := by
      rw [Int32.toInt_sub, z]; exact Int.bmod_eq_of_le (by omega) (by omega)
    omega
noncomputable def mPkS (s : mS) : Prop := ∀ l, s = some l → ∀ x ∈ l, mPkR x
theorem mAdd_S {s : mS} {x : Int64} (h : mPkS s) (hx : mPkR x) : mPkS (mAdd s x) := by
  rcases s with _ | l0
  · intro l e
    exact absurd e (by intro q; cases q)
  · intro l e y hy
    have e2 : (if l0.length = 600 then none else some (mIns x l0)) = some l := e
    by_cases q : l0.length = 600
    · rw [if_pos q] at e2; cases e2
    · rw [if_neg q] at e2
      have e3 := Option.some.inj e2
      rw [← e3] at hy
      rcases List.mem_cons.mp ((mIns_perm x l0).mem_iff.mp hy) with e4 | e4
      · rw [e4]; exact hx
      · exact h l0 rfl y e4
theorem jal_k {ll lg : List Int32} {x v : Int32} {k : Nat} (h : jallow ll lg x v = true) (e : x.toNatClampNeg = k) : (ll.getD k 0).toInt ≤ v.toInt ∧ v.toInt ≤ (lg.getD k 0).toInt := by
  subst e
  exact jallow_rng h
theorem mCnt_S {lo hi : List Int32} (hL : wLm lo hi) {s : mS} (h : mPkS s) (a b c d e f : Int32) : mPkS (mCnt lo hi s a b c d e f) := by
  unfold mCnt
  split
  · rename_i hc
    obtain ⟨c0, c1, c2, c3, c4, c5⟩ := hc
    have h0 := jal_k (k := 0) c0 rfl
    have h1 := jal_k (k := 1) c1 rfl
    have h2 := jal_k (k := 2) c2 rfl
    have h3 := jal_k (k := 3) c3 rfl
    have h4 := jal_k (k := 4) c4 rfl
    have h5 := jal_k (k := 5) c5 rfl
    have l0 := hL 0 (by decide)
    have l1 := hL 1 (by decide)
    have l2 := hL 2 (by decide)
    have l3 := hL 3 (by decide)
    have l4 := hL 4 (by decide)
    have l5 := hL 5 (by decide)
    have z0 : (zLow.getD 0 0).toInt = 0 := rfl
    have z1 : (zLow.getD 1 0).toInt = -32 := rfl
    have z2 : (zLow.getD 2 0).toInt = -32 := rfl
    have z3 : (zLow.getD 3 0).toInt = -32 := rfl
    have z4 : (zLow.getD 4 0).toInt = -32 := rfl
    have z5 : (zLow.getD 5 0).toInt = -64 := rfl
    have y0 : (zHigh.getD 0 0).toInt = 99 := rfl
    have y1 : (zHigh.getD 1 0).toInt = 31 := rfl
    have y2 : (zHigh.getD 2 0).toInt = 31 := rfl
    have y3 : (zHigh.getD 3 0).toInt = 31 := rfl
    have y4 : (zHigh.getD 4 0).toInt = 31 := rfl
    have y5 : (zHigh.getD 5 0).toInt = 63 := rfl
    exact mAdd_S h (jpack_R (by omega) (by omega) (by omega) (by omega) (by omega) (by omega))
  · exact h
theorem mHold_S {lo hi : List Int32} (hL : wLm lo hi) (k0 k1 : Int32) (pl : List Int32) {s : mS} (h : mPkS s) (a b p t ro : Int32) : mPkS (mHold lo hi k0 k1 pl s a b p t ro) := by
  unfold mHold
  split
  · exact h
  · split
    · exact mCnt_S hL (mCnt_S hL h _ _ _ _ _ _) _ _ _ _ _ _
    · exact h
theorem mUpL_S {lo hi : List Int32} (hL : wLm lo hi) (k0 k1 : Int32) (pl : List Int32) (a b : Int32) : ∀ (n : Nat) (t : Int32) (s : mS), mPkS s → mPkS (mUpL lo hi k0 k1 pl a b n t s)
  | 0, _, _, h => h
  | n + 1, t, s, h => mUpL_S hL k0 k1 pl a b n (t + 1) _ (mHold_S hL k0 k1 pl h a b _ t _)
theorem mPair_S {lo hi : List Int32} (hL : wLm lo hi) (k0 k1 : Int32) (pl : List Int32) {s : mS} (h : mPkS s) (q : Int32 × Int32) : mPkS (mPair lo hi k0 k1 pl s q) := by
  unfold mPair
  split
  · exact mUpL_S hL k0 k1 pl _ _ 64 _ _ h
  · exact mHold_S hL k0 k1 pl (mHold_S hL k0 k1 pl h _ _ _ _ _) _ _ _ _ _
theorem mPairs_S {lo hi : List Int32} (hL : wLm lo hi) (k0 k1 : Int32) (pl : List Int32) : ∀ (L : List (Int32 × Int32)) (s : mS), mPkS s → mPkS (L.foldl (mPair lo hi k0 k1 pl) s)
  | [], _, h => h
  | q :: L, s, h => mPairs_S hL k0 k1 pl L _ (mPair_S hL k0 k1 pl h q)
/-- each solution that is found packs joints as they are allowed -/
theorem mSol_R {lo hi : List Int32} (hL : wLm lo hi) (kn pl : List Int32) : mPkS (mSol lo hi kn pl) := by
  unfold mSol
  exact mPairs_S hL _ _ _ _ _ (fun l e x hx => by have e2 := Option.some.inj e; rw [← e2] at hx; exact absurd hx List.not_mem_nil)
noncomputable def mJb (qq : List Int32) (k : Nat) : Prop := ∀ j, j < 6 → -128 ≤ (qq.getD (k + j) 0).toInt ∧ (qq.getD (k + j) 0).toInt ≤ 191
theorem mUnp_b {v : Int64} (h : mPkR v) (k : Nat) (a : List Int32) : mJb (mUnp v k a) k := by
  intro j hj
  have b0 := mJof_b h 0
  have b1 := mJof_b h 1
  have b2 := mJof_b h 2
  have b3 := mJof_b h 3
  have b4 := mJof_b h 4
  have b5 := mJof_b h 5
  unfold mUnp
  rw [zset_get, zset_get, zset_get, zset_get, zset_get, zset_get]
  generalize mJof v 0 = x0 at *
  generalize mJof v 1 = x1 at *
  generalize mJof v 2 = x2 at *
  generalize mJof v 3 = x3 at *
  generalize mJof v 4 = x4 at *
  generalize mJof v 5 = x5 at *
  by_cases e5 : k + j = k + 5
  · rw [if_pos e5]; omega
  · rw [if_neg e5]
    by_cases e4 : k + j = k + 4
    · rw [if_pos e4]; omega
    · rw [if_neg e4]
      by_cases e3 : k + j = k + 3
      · rw [if_pos e3]; omega
      · rw [if_neg e3]
        by_cases e2 : k + j = k + 2
        · rw [if_pos e2]; omega
        · rw [if_neg e2]
          by_cases e1 : k + j = k + 1
          · rw [if_pos e1]; omega
          · rw [if_neg e1]
            by_cases e0 : k + j = k + 0
            · rw [if_pos e0]; omega
            · exact absurd hj (by omega)
theorem jab_rng {x : Int32} (h : -400 ≤ x.toInt ∧ x.toInt ≤ 400) : 0 ≤ (jabs x).toInt ∧ (jabs x).toInt ≤ 400 := by
  have z0 : (0 : Int32).toInt = 0 := rfl
  unfold jabs
  by_cases q : (0 : Int32).toInt ≤ x.toInt
  · rw [if_pos q]; omega
  · rw [if_neg q]
    have e : (-x).toInt = -x.toInt := e_neg (by omega)
    omega
theorem ceil_rng {d s : Int32} (hd : 0 ≤ d.toInt ∧ d.toInt ≤ 400) (hs : 1 ≤ s.toInt ∧ s.toInt ≤ 99) : 0 ≤ ((d + s - 1) / s).toInt ∧ ((d + s - 1) / s).toInt ≤ 500 := by
  have q1 : (1 : Int32).toInt = 1 := rfl
  have a1 : (d + s).toInt = d.toInt + s.toInt := e_add (by omega) (by omega)
  have a2 : (d + s - 1).toInt = (d + s).toInt - (1 : Int32).toInt := e_sub (by omega) (by omega)
  generalize d + s - 1 = x at a2
  have d0 : x.toInt.tdiv s.toInt = x.toInt / s.toInt := Int.tdiv_eq_ediv_of_nonneg (by omega)
  have d1 : 0 ≤ x.toInt / s.toInt := Int.ediv_nonneg (by omega) (by omega)
  have d2 : x.toInt / s.toInt ≤ x.toInt := Int.ediv_le_self _ (by omega)
  rw [Int32.toInt_div, d0, Int.bmod_eq_of_le (by omega) (by omega)]
  omega
noncomputable def mSpd (sv : List Int32) : Prop := ∀ i, i < 6 → 1 ≤ (sv.getD i 0).toInt ∧ (sv.getD i 0).toInt ≤ 99
theorem mtk_rng {sv qq pp : List Int32} {k l : Nat} (hs : mSpd sv) (hq : mJb qq k) (hp : mJb pp l) : ∀ (m : Nat) (mo : Int32) (j : Nat), 0 ≤ mo.toInt ∧ mo.toInt ≤ 500 → j ≤ 6 → 0 ≤ (mtkF sv qq k pp l m mo j).toInt ∧ (mtkF sv qq k pp l m mo j).toInt ≤ 500 := by
  intro m
  induction m with
  | zero => intro mo j _ _; show 0 ≤ (0 : Int32).toInt ∧ (0 : Int32).toInt ≤ 500; exact ⟨by decide, by decide⟩
  | succ m ih =>
    intro mo j h hj
    have q6 : (6 : Int32).toInt = 6 := rfl
    by_cases h1 : (6 : Int32).toInt ≤ (nI j).toInt
    · have e : mtkF sv qq k pp l (m + 1) mo j = mo := if_pos h1
      rw [e]; exact h
    · have h2 := h1
      rw [q6, nI_toInt (by omega)] at h2
      have e : mtkF sv qq k pp l (m + 1) mo j = (if ((((jabs ((pp.getD (l + j) 0) - (qq.getD (k + j) 0))) + (sv.getD j 0)) - (1 : Int32)) / (sv.getD j 0)).toInt ≤ mo.toInt then (mtkF sv qq k pp l m mo (j + 1)) else (mtkF sv qq k pp l m ((((jabs ((pp.getD (l + j) 0) - (qq.getD (k + j) 0))) + (sv.getD j 0)) - (1 : Int32)) / (sv.getD j 0)) (j + 1))) := if_neg h1
      rw [e]
      have b1 := hq j (by omega)
      have b2 := hp j (by omega)
      have a0 : (pp.getD (l + j) 0 - qq.getD (k + j) 0).toInt = (pp.getD (l + j) 0).toInt - (qq.getD (k + j) 0).toInt := e_sub (by omega) (by omega)
      have a1 := jab_rng (x := pp.getD (l + j) 0 - qq.getD (k + j) 0) (by omega)
      have a2 := ceil_rng a1 (hs j (by omega))
      generalize (jabs (pp.getD (l + j) 0 - qq.getD (k + j) 0) + sv.getD j 0 - 1) / sv.getD j 0 = y at a2 ⊢
      split
      · exact ih mo (j + 1) h (by omega)
      · exact ih y (j + 1) a2 (by omega)
/-- what is left is at most 500 ticks a stop -/
theorem mtg_b {fo : List Int64} {wf mf : Nat → Nat} {sv tg : List Int32} {nw : Nat} {u : Int32} (hm : ∀ i, i < nw → mf (wf i) ≤ 600) (hs : mSpd sv) (hrow : ∀ i, i < nw → ∀ k, k < mf (wf i) → tg.getD (600 * i + k) 0 = wRw fo wf mf sv nw u tg i k) (hfo : ∀ i, i < nw → ∀ k, k < mf (wf i) → mPkR (fo.getD (600 * wf i + k) 0)) (hn : nw ≤ 10) : ∀ (d i : Nat), i + 1 + d = nw → ∀ k, k < mf (wf i) → (tg.getD (600 * i + k) 0).toInt < 1000000 → 0 ≤ (tg.getD (600 * i + k) 0).toInt ∧ (tg.getD (600 * i + k) 0).toInt ≤ 500 * d := by
  intro d
  induction d with
  | zero =>
    intro i hi k hk hl
    rw [hrow i (by omega) k hk]
    unfold wRw
    rw [if_pos (by omega)]
    exact ⟨by decide, by decide⟩
  | succ d ih =>
    intro i hi k hk hl
    have e := hrow i (by omega) k hk
    rw [e] at hl ⊢
    unfold wRw at hl ⊢
    rw [if_neg (by omega)] at hl ⊢
    have hne : (mLef fo (wf (i + 1)) tg sv (mUnp (fo.getD (600 * wf i + k) 0) 0 []) (i + 1) 0 (mf (wf (i + 1))) u []).1 ≠ 1000000 := fun q => by
      rw [q] at hl; exact absurd hl (by decide)
    obtain ⟨n9, h9, g1, g2, g3⟩ := mLef_hit (hm (i + 1) (by omega)) hne
    rw [← g3]
    have b1 := ih (i + 1) (by omega) n9 h9 g1
    have b2 := mtk_rng hs (mUnp_b (hfo i (by omega) k hk) 0 []) (mUnp_b (hfo (i + 1) (by omega) n9 h9) 0 []) (6 - 0 + 1) 0 0 (by decide) (by decide)
    generalize mtkF sv (mUnp (fo.getD (600 * wf i + k) 0) 0 []) 0 (mUnp (fo.getD (600 * wf (i + 1) + n9) 0) 0 []) 0 (6 - 0 + 1) 0 0 = y at b2 ⊢
    generalize tg.getD (600 * (i + 1) + n9) 0 = z at b1 ⊢
    have e2 : (y + z).toInt = y.toInt + z.toInt := e_add (by omega) (by omega)
    omega
