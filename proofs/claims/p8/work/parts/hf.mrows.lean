/-! The reference: what is least left reads one row alone. -/
theorem mKep_q {qq qq2 : List Int32} (h : ∀ j, j < 6 → qq.getD (0 + j) 0 = qq2.getD (0 + j) 0) (pp : List Int32) : mKep qq 0 pp 0 = mKep qq2 0 pp 0 := by
  unfold mKep mMea mSid mBen
  rw [h 1 (by decide), h 3 (by decide)]
theorem mtkF_q (sv : List Int32) {qq qq2 : List Int32} (h : ∀ j, j < 6 → qq.getD (0 + j) 0 = qq2.getD (0 + j) 0) (pp : List Int32) : ∀ (m : Nat) (mo : Int32) (j : Nat), j ≤ 6 → mtkF sv qq 0 pp 0 m mo j = mtkF sv qq2 0 pp 0 m mo j := by
  intro m
  induction m with
  | zero => intro mo j _; rfl
  | succ m ih =>
    intro mo j h6
    by_cases hj : j < 6
    · unfold mtkF
      rw [h j hj, ih _ _ (by omega), ih _ _ (by omega)]
    · have e6 : j = 6 := by omega
      subst e6
      unfold mtkF
      rw [if_pos (by decide), if_pos (by decide)]
theorem mlfF_c (fo : List Int64) (w : Nat) {tg tg2 : List Int32} (sv : List Int32) {qq qq2 : List Int32} (i mn : Nat) (u : Int32) (hmn : mn ≤ 600) (ht : ∀ n, n < mn → tg.getD (600 * i + n) 0 = tg2.getD (600 * i + n) 0) (hq : ∀ j, j < 6 → qq.getD (0 + j) 0 = qq2.getD (0 + j) 0) : ∀ (m : Nat) (le : Int32) (n : Nat) (t1 t2 : List Int32), n ≤ mn → mn - n < m → (mlfF fo w tg sv qq i 0 mn u m le n t1).1 = (mlfF fo w tg2 sv qq2 i 0 mn u m le n t2).1 := by
  intro m
  induction m with
  | zero => intro le n t1 t2 h1 h2; omega
  | succ m ih =>
    intro le n t1 t2 h1 h2
    have q1 := nI_toInt (n := mn) (by omega)
    have q2 := nI_toInt (n := n) (by omega)
    by_cases c1 : (nI mn).toInt ≤ (nI n).toInt
    · unfold mlfF
      rw [if_pos c1, if_pos c1]
    · have hn : n < mn := by omega
      have e1 : mLsS fo w n 0 t1 = mUnp (fo.getD (600 * w + n) 0) 0 t1 := rfl
      have e2 : mLsS fo w n 0 t2 = mUnp (fo.getD (600 * w + n) 0) 0 t2 := rfl
      have hK : mKep qq 0 (mLsS fo w n 0 t1) 0 = mKep qq2 0 (mLsS fo w n 0 t2) 0 := by rw [e1, e2, mKep_q hq, mKep_c qq2 0 _ t1 t2]
      have hT : mtkF sv qq 0 (mLsS fo w n 0 t1) 0 (6 - 0 + 1) 0 0 = mtkF sv qq2 0 (mLsS fo w n 0 t2) 0 (6 - 0 + 1) 0 0 := by rw [e1, e2, mtkF_q sv hq _ _ _ _ (Nat.zero_le 6), mtkF_c sv qq2 0 _ t1 t2 _ _ _ (Nat.zero_le 6)]
      have hg := ht n hn
      unfold mlfF
      rw [if_neg c1, if_neg c1, hg]
      by_cases c2 : (tg2.getD ((600 * i) + n) 0).toInt < (1000000 : Int32).toInt
      · rw [if_pos c2, if_pos c2, zlet_eq rfl, zlet_eq rfl, hK, hT]
        by_cases c3 : u = (0 : Int32)
        · rw [if_pos c3, if_pos c3]
          split
          · exact ih _ _ _ _ (by omega) (by omega)
          · exact ih _ _ _ _ (by omega) (by omega)
        · rw [if_neg c3, if_neg c3]
          by_cases c4 : (mKep qq2 0 (mLsS fo w n 0 t2) 0) ≠ (0 : Int32)
          · rw [if_pos c4, if_pos c4]
            split
            · exact ih _ _ _ _ (by omega) (by omega)
            · exact ih _ _ _ _ (by omega) (by omega)
          · rw [if_neg c4, if_neg c4]
            exact ih _ _ _ _ (by omega) (by omega)
      · rw [if_neg c2, if_neg c2]
        exact ih _ _ _ _ (by omega) (by omega)
theorem mLef_c (fo : List Int64) (w : Nat) {tg tg2 : List Int32} (sv : List Int32) {qq qq2 : List Int32} (i mn : Nat) (u : Int32) (t1 t2 : List Int32) (hmn : mn ≤ 600) (ht : ∀ n, n < mn → tg.getD (600 * i + n) 0 = tg2.getD (600 * i + n) 0) (hq : ∀ j, j < 6 → qq.getD (0 + j) 0 = qq2.getD (0 + j) 0) : (mLef fo w tg sv qq i 0 mn u t1).1 = (mLef fo w tg2 sv qq2 i 0 mn u t2).1 := mlfF_c fo w sv i mn u hmn ht hq (mn - 0 + 1) 1000000 0 t1 t2 (Nat.zero_le mn) (by omega)
