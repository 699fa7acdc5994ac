/-! The reference: what a route keeps: rows, corners; witnesses from row to row. -/
theorem mKep_g {qq qq2 : List Int32} {k k2 : Nat} (h : ∀ j, j < 6 → qq.getD (k + j) 0 = qq2.getD (k2 + j) 0) (pp : List Int32) (l : Nat) : mKep qq k pp l = mKep qq2 k2 pp l := by
  unfold mKep mMea mSid mBen
  rw [h 1 (by decide), h 3 (by decide)]
theorem mtkF_g (sv : List Int32) {qq qq2 : List Int32} {k k2 : Nat} (h : ∀ j, j < 6 → qq.getD (k + j) 0 = qq2.getD (k2 + j) 0) (pp : List Int32) (l : Nat) : ∀ (m : Nat) (mo : Int32) (j : Nat), j ≤ 6 → mtkF sv qq k pp l m mo j = mtkF sv qq2 k2 pp l m mo j := by
  intro m
  induction m with
  | zero => intro mo j _; rfl
  | succ m ih =>
    intro mo j h6
    by_cases hj : j < 6
    · unfold mtkF
      rw [h j hj, ih _ _ (by omega), ih _ _ (by omega)]
    · have e6 : j = 6 := by omega
      subst e6
      unfold mtkF
      rw [if_pos (by decide), if_pos (by decide)]
theorem fHit_g {fo : List Int64} {w : Nat} {tg sv qq qq2 : List Int32} {i k k2 : Nat} {u le : Int32} {n : Nat} (h : ∀ j, j < 6 → qq.getD (k + j) 0 = qq2.getD (k2 + j) 0) (g : fHit fo w tg sv qq i k u le n) : fHit fo w tg sv qq2 i k2 u le n := by
  obtain ⟨a, b, c⟩ := g
  rw [mKep_g h] at b
  rw [mtkF_g sv h _ _ _ _ _ (Nat.zero_le 6)] at c
  exact ⟨a, b, c⟩
theorem mUnp_s (v : Int64) (k : Nat) (a : List Int32) (j : Nat) (hj : j < 6) : (mUnp v k a).getD (k + j) 0 = (mUnp v 0 []).getD (0 + j) 0 := by
  unfold mUnp
  rw [zset_get, zset_get, zset_get, zset_get, zset_get, zset_get, zset_get, zset_get, zset_get, zset_get, zset_get, zset_get]
  rcases j with _ | _ | _ | _ | _ | _ | j
  · rw [if_neg (by omega), if_neg (by omega), if_neg (by omega), if_neg (by omega), if_neg (by omega), if_pos rfl, if_neg (by omega), if_neg (by omega), if_neg (by omega), if_neg (by omega), if_neg (by omega), if_pos rfl]
  · rw [if_neg (by omega), if_neg (by omega), if_neg (by omega), if_neg (by omega), if_pos rfl, if_neg (by omega), if_neg (by omega), if_neg (by omega), if_neg (by omega), if_pos rfl]
  · rw [if_neg (by omega), if_neg (by omega), if_neg (by omega), if_pos rfl, if_neg (by omega), if_neg (by omega), if_neg (by omega), if_pos rfl]
  · rw [if_neg (by omega), if_neg (by omega), if_pos rfl, if_neg (by omega), if_neg (by omega), if_pos rfl]
  · rw [if_neg (by omega), if_pos rfl, if_neg (by omega), if_pos rfl]
  · rw [if_pos rfl, if_pos rfl]
  · omega
theorem mUnp_o (v : Int64) (k : Nat) (a : List Int32) (q : Nat) (hq : q < k ∨ k + 6 ≤ q) : (mUnp v k a).getD q 0 = a.getD q 0 := by
  unfold mUnp
  rw [zset_get, zset_get, zset_get, zset_get, zset_get, zset_get, if_neg (by omega), if_neg (by omega), if_neg (by omega), if_neg (by omega), if_neg (by omega), if_neg (by omega)]
theorem ceil_zero {d s : Int32} (hd : 0 ≤ d.toInt ∧ d.toInt ≤ 400) (hs : 1 ≤ s.toInt ∧ s.toInt ≤ 99) (h : ((d + s - 1) / s).toInt ≤ 0) : d.toInt = 0 := by
  have q1 : (1 : Int32).toInt = 1 := rfl
  have a1 : (d + s).toInt = d.toInt + s.toInt := e_add (by omega) (by omega)
  have a2 : (d + s - 1).toInt = (d + s).toInt - (1 : Int32).toInt := e_sub (by omega) (by omega)
  generalize d + s - 1 = x at a2 h
  have d0 : x.toInt.tdiv s.toInt = x.toInt / s.toInt := Int.tdiv_eq_ediv_of_nonneg (by omega)
  have d1 : 0 ≤ x.toInt / s.toInt := Int.ediv_nonneg (by omega) (by omega)
  have d2 : x.toInt / s.toInt ≤ x.toInt := Int.ediv_le_self _ (by omega)
  rw [Int32.toInt_div, d0, Int.bmod_eq_of_le (by omega) (by omega)] at h
  have e0 : x.toInt / s.toInt = 0 := by omega
  have e1 := Int.lt_ediv_add_one_mul_self x.toInt (show 0 < s.toInt by omega)
  rw [e0] at e1
  omega
noncomputable def mCe (sv qq pp : List Int32) (k l j : Nat) : Int32 := (jabs (pp.getD (l + j) 0 - qq.getD (k + j) 0) + sv.getD j 0 - 1) / sv.getD j 0
theorem mtk_ge {sv qq pp : List Int32} {k l : Nat} : ∀ (m : Nat) (mo : Int32) (j : Nat), j ≤ 6 → 6 - j < m → mo.toInt ≤ (mtkF sv qq k pp l m mo j).toInt ∧ ∀ i, j ≤ i → i < 6 → (mCe sv qq pp k l i).toInt ≤ (mtkF sv qq k pp l m mo j).toInt := by
  intro m
  induction m with
  | zero => intro mo j h1 h2; omega
  | succ m ih =>
    intro mo j hj hm
    have q6 : (6 : Int32).toInt = 6 := rfl
    by_cases h1 : (6 : Int32).toInt ≤ (nI j).toInt
    · have e : mtkF sv qq k pp l (m + 1) mo j = mo := if_pos h1
      rw [q6, nI_toInt (by omega)] at h1
      rw [e]
      exact ⟨Int.le_refl _, fun i h2 h3 => by omega⟩
    · have h2 := h1
      rw [q6, nI_toInt (by omega)] at h2
      have e : mtkF sv qq k pp l (m + 1) mo j = (if (mCe sv qq pp k l j).toInt ≤ mo.toInt then (mtkF sv qq k pp l m mo (j + 1)) else (mtkF sv qq k pp l m (mCe sv qq pp k l j) (j + 1))) := if_neg h1
      rw [e]
      by_cases c : (mCe sv qq pp k l j).toInt ≤ mo.toInt
      · rw [if_pos c]
        obtain ⟨a, b⟩ := ih mo (j + 1) (by omega) (by omega)
        refine ⟨a, fun i h3 h4 => ?_⟩
        by_cases q : i = j
        · rw [q]; omega
        · exact b i (by omega) h4
      · rw [if_neg c]
        obtain ⟨a, b⟩ := ih (mCe sv qq pp k l j) (j + 1) (by omega) (by omega)
        refine ⟨by omega, fun i h3 h4 => ?_⟩
        by_cases q : i = j
        · rw [q]; exact a
        · exact b i (by omega) h4
theorem mtk_zero {sv qq pp : List Int32} {k l : Nat} (hs : mSpd sv) (hq : mJb qq k) (hp : mJb pp l) (h : (mtkF sv qq k pp l (6 - 0 + 1) 0 0).toInt ≤ 0) : ∀ j, j < 6 → pp.getD (l + j) 0 = qq.getD (k + j) 0 := by
  intro j hj
  have a := (mtk_ge (sv := sv) (qq := qq) (pp := pp) (k := k) (l := l) (6 - 0 + 1) 0 0 (by decide) (by decide)).2 j (Nat.zero_le j) hj
  have b1 := hq j hj
  have b2 := hp j hj
  have a0 : (pp.getD (l + j) 0 - qq.getD (k + j) 0).toInt = (pp.getD (l + j) 0).toInt - (qq.getD (k + j) 0).toInt := e_sub (by omega) (by omega)
  have a1 := jab_rng (x := pp.getD (l + j) 0 - qq.getD (k + j) 0) (by omega)
  unfold mCe at a
  have a2 := ceil_zero a1 (hs j hj) (by omega)
  have z0 : (0 : Int32).toInt = 0 := rfl
  have a3 : (pp.getD (l + j) 0 - qq.getD (k + j) 0).toInt = 0 := by
    unfold jabs at a2
    by_cases q : (0 : Int32).toInt ≤ (pp.getD (l + j) 0 - qq.getD (k + j) 0).toInt
    · rw [if_pos q] at a2; exact a2
    · rw [if_neg q] at a2
      have e : (-(pp.getD (l + j) 0 - qq.getD (k + j) 0)).toInt = -(pp.getD (l + j) 0 - qq.getD (k + j) 0).toInt := e_neg (by omega)
      omega
  exact Int32.toInt_inj.mp (by omega)
/-- rows and corners of a route up to its i-th stop -/
noncomputable def mRt (r i : Nat) (pa co : List Int32) : Prop := (co.getD (11 * r) 0).toInt = 0 ∧ (∀ q, q ≤ i → mJb pa (66 * r + 6 * q)) ∧ ∀ q, q < i → 0 ≤ (co.getD (11 * r + q) 0).toInt ∧ (co.getD (11 * r + q) 0).toInt ≤ (co.getD (11 * r + q + 1) 0).toInt ∧ (co.getD (11 * r + q + 1) 0).toInt ≤ 500 * (q + 1) ∧ ((co.getD (11 * r + q + 1) 0).toInt ≤ (co.getD (11 * r + q) 0).toInt → ∀ j, j < 6 → pa.getD (66 * r + 6 * (q + 1) + j) 0 = pa.getD (66 * r + 6 * q + j) 0)
theorem mRt_cg {r i : Nat} {pa co pa2 co2 : List Int32} (h : mRt r i pa co) (h1 : ∀ q, q < 6 * (i + 1) → pa2.getD (66 * r + q) 0 = pa.getD (66 * r + q) 0) (h2 : ∀ q, q ≤ i → co2.getD (11 * r + q) 0 = co.getD (11 * r + q) 0) : mRt r i pa2 co2 := by
  obtain ⟨a, b, c⟩ := h
  refine ⟨by rw [← Nat.add_zero (11 * r), h2 0 (Nat.zero_le i)]; exact a, fun q hq j hj => ?_, fun q hq => ?_⟩
  · rw [Nat.add_assoc, h1 _ (by omega), ← Nat.add_assoc]; exact b q hq j hj
  · obtain ⟨c1, c2, c3, c4⟩ := c q hq
    have e1 := h2 q (by omega)
    have e2 := h2 (q + 1) (by omega)
    rw [← Nat.add_assoc] at e2
    rw [e1, e2]
    refine ⟨c1, c2, c3, fun h3 j hj => ?_⟩
    have e3 := h1 (6 * (q + 1) + j) (by omega)
    have e4 := h1 (6 * q + j) (by omega)
    rw [← Nat.add_assoc] at e3 e4
    rw [e3, e4]
    exact c4 h3 j hj
/-- one stop more -/
theorem mRt_up {r i w n : Nat} {pa co sv : List Int32} {fo : List Int64} (hs : mSpd sv) (h : mRt r i pa co) (hv : mPkR (fo.getD (600 * w + n) 0)) (hi : i < 10) : mRt r (i + 1) (mLsS fo w n (66 * r + 6 * (i + 1)) pa) (zset 0 co (11 * r + i + 1) (co.getD (11 * r + i) 0 + mtkF sv (mLsS fo w n (66 * r + 6 * (i + 1)) pa) (66 * r + 6 * i) (mLsS fo w n (66 * r + 6 * (i + 1)) pa) (66 * r + 6 * (i + 1)) (6 - 0 + 1) 0 0)) := by
  have e0 : mLsS fo w n (66 * r + 6 * (i + 1)) pa = mUnp (fo.getD (600 * w + n) 0) (66 * r + 6 * (i + 1)) pa := rfl
  rw [e0]
  obtain ⟨pa2, hp2⟩ : ∃ x, x = mUnp (fo.getD (600 * w + n) 0) (66 * r + 6 * (i + 1)) pa := ⟨_, rfl⟩
  rw [← hp2]
  have hnew : mJb pa2 (66 * r + 6 * (i + 1)) := by rw [hp2]; exact mUnp_b hv _ _
  have hold : ∀ q, q < 66 * r + 6 * (i + 1) → pa2.getD q 0 = pa.getD q 0 := fun q hq => by rw [hp2]; exact mUnp_o _ _ _ _ (Or.inl hq)
  obtain ⟨a, b, c⟩ := h
  have hrow : mJb pa2 (66 * r + 6 * i) := fun j hj => by rw [hold _ (by omega)]; exact b i (Nat.le_refl i) j hj
  have tr := mtk_rng hs hrow hnew (6 - 0 + 1) 0 0 (by decide) (by decide)
  have tz := mtk_zero hs hrow hnew
  generalize mtkF sv pa2 (66 * r + 6 * i) pa2 (66 * r + 6 * (i + 1)) (6 - 0 + 1) 0 0 = y at tr tz ⊢
  have hci : 0 ≤ (co.getD (11 * r + i) 0).toInt ∧ (co.getD (11 * r + i) 0).toInt ≤ 500 * i := by
    rcases i with _ | i
    · rw [Nat.add_zero, a]; exact ⟨Int.le_refl _, Int.le_refl _⟩
    · obtain ⟨c1, c2, c3, _⟩ := c i (Nat.lt_succ_self i)
      rw [← Nat.add_assoc]
      exact ⟨by omega, by omega⟩
  have es : (co.getD (11 * r + i) 0 + y).toInt = (co.getD (11 * r + i) 0).toInt + y.toInt := e_add (by omega) (by omega)
  refine ⟨by rw [zset_get, if_neg (by omega)]; exact a, fun q hq => ?_, fun q hq => ?_⟩
  · by_cases e : q = i + 1
    · rw [e]; exact hnew
    · intro j hj
      rw [hold _ (by omega)]; exact b q (by omega) j hj
  · rw [zset_get, zset_get, if_neg (by omega)]
    by_cases e : q = i
    · subst e
      rw [if_pos rfl, es]
      refine ⟨hci.1, by omega, by omega, fun h3 j hj => ?_⟩
      exact tz (by omega) j hj
    · rw [if_neg (by omega)]
      obtain ⟨c1, c2, c3, c4⟩ := c q (by omega)
      refine ⟨c1, c2, c3, fun h3 j hj => ?_⟩
      rw [hold _ (by omega), hold _ (by omega)]
      exact c4 h3 j hj
/-- what is known of a spot's solutions: nothing, or all of them as they were found -/
noncomputable def mSP (fo : List Int64) (sm : List Int32) (w : Nat) : Prop := sm.getD w 0 = -1 ∨ ∃ s, mPkS s ∧ wFd (600 * w) s fo ∧ sm.getD w 0 = mNum s
theorem wFd_o {s : mS} {o o2 : Nat} {fo fo2 : List Int64} (h : wFd o s fo) (hz : ∀ q, (q < o2 ∨ o2 + 600 ≤ q) → fo2.getD q 0 = fo.getD q 0) (ho : o + 600 ≤ o2 ∨ o2 + 600 ≤ o) : wFd o s fo2 := by
  rcases s with _ | l
  · trivial
  · obtain ⟨a, b⟩ := h
    refine ⟨a, fun i z hi => ?_⟩
    have := (List.getElem?_eq_some_iff.mp hi).1
    rw [hz _ (by omega)]
    exact b i z hi
theorem mSP_o {fo fo2 : List Int64} {sm sm2 : List Int32} {w o2 : Nat} (h : mSP fo sm w) (hz : ∀ q, (q < o2 ∨ o2 + 600 ≤ q) → fo2.getD q 0 = fo.getD q 0) (ho : 600 * w + 600 ≤ o2 ∨ o2 + 600 ≤ 600 * w) (hs : sm2.getD w 0 = sm.getD w 0) : mSP fo2 sm2 w := by
  rcases h with a | ⟨s, a, b, c⟩
  · exact Or.inl (hs.trans a)
  · exact Or.inr ⟨s, a, wFd_o b hz ho, hs.trans c⟩
theorem mSP_all {fo fo2 : List Int64} {sm : List Int32} {w : Nat} {s : mS} (h : ∀ v, v < 8 → mSP fo sm v) (hs : mPkS s) (hf : wFe (fun q => fo.getD q 0) (600 * w) s fo2) : ∀ v, v < 8 → mSP fo2 (zset 0 sm w (mNum s)) v := by
  intro v hv
  by_cases e : v = w
  · subst e
    exact Or.inr ⟨s, hs, hf.1, by rw [zset_get, if_pos rfl]⟩
  · exact mSP_o (h v hv) hf.2 (by omega) (by rw [zset_get, if_neg e])
theorem mNum_c {s : mS} {o : Nat} {fo : List Int64} (hf : wFd o s fo) (h0 : mNum s ≠ -3) : ∃ m, m ≤ 600 ∧ mNum s = nI m ∧ ∀ i, i < m → ∃ x, s = some x ∧ ∃ z, x[i]? = some z ∧ fo.getD (o + i) 0 = z := by
  rcases s with _ | l
  · exact absurd rfl h0
  · refine ⟨l.length, hf.1, rfl, fun i hi => ⟨l, rfl, l[i], List.getElem?_eq_getElem hi, hf.2 i _ (List.getElem?_eq_getElem hi)⟩⟩
/-- the spot's solutions pack joints as allowed -/
theorem mSP_R {fo : List Int64} {sm : List Int32} {w m : Nat} (h : mSP fo sm w) (hm : sm.getD w 0 = nI m) (hm6 : m ≤ 600) : ∀ k, k < m → mPkR (fo.getD (600 * w + k) 0) := by
  intro k hk
  rcases h with a | ⟨s, a, b, c⟩
  · rw [a] at hm
    have := congrArg Int32.toInt hm
    rw [nI_toInt (by omega)] at this
    have z : (-1 : Int32).toInt = -1 := rfl
    omega
  · rcases s with _ | l
    · rw [hm] at c
      have := congrArg Int32.toInt c
      rw [nI_toInt (by omega)] at this
      have z : (mNum none).toInt = -3 := rfl
      omega
    · have e : nI m = nI l.length := hm.symm.trans c
      have hl := b.1
      have := congrArg Int32.toInt e
      rw [nI_toInt (by omega), nI_toInt (by omega)] at this
      have hk2 : k < l.length := by omega
      rw [b.2 k _ (List.getElem?_eq_getElem hk2)]
      exact a l rfl _ (List.getElem_mem hk2)
