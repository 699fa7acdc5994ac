/-! The reference: what is least left is reached by a solution. -/
theorem mlfF_hit (fo : List Int64) (w : Nat) (tg sv qq : List Int32) (i k mn : Nat) (u : Int32) (hmn : mn ≤ 600) : ∀ (m : Nat) (le : Int32) (n : Nat) (t1 : List Int32), n ≤ mn → mn - n < m → (mlfF fo w tg sv qq i k mn u m le n t1).1 = le ∨ ∃ n9, n9 < mn ∧ fHit fo w tg sv qq i k u (mlfF fo w tg sv qq i k mn u m le n t1).1 n9 := by
  intro m
  induction m with
  | zero => intro le n t1 h1 h2; omega
  | succ m ih =>
    intro le n t1 h1 h2
    have q1 := nI_toInt (n := mn) (by omega)
    have q2 := nI_toInt (n := n) (by omega)
    by_cases c1 : (nI mn).toInt ≤ (nI n).toInt
    · left
      unfold mlfF
      rw [if_pos c1]
    · have hn : n < mn := by omega
      by_cases c2 : (tg.getD ((600 * i) + n) 0).toInt < (1000000 : Int32).toInt
      · have el : mLsS fo w n 0 t1 = mUnp (fo.getD (600 * w + n) 0) 0 t1 := rfl
        have hit : (u = 0 ∨ mKep qq k (mLsS fo w n 0 t1) 0 ≠ 0) → ∀ r, r = mtkF sv qq k (mLsS fo w n 0 t1) 0 (6 - 0 + 1) 0 0 + tg.getD (600 * i + n) 0 → fHit fo w tg sv qq i k u r n := by
          intro hu r hr
          refine ⟨c2, ?_, ?_⟩
          · rcases hu with hu | hu
            · exact Or.inl hu
            · right
              rw [mKep_c qq k _ [] t1, ← el]
              exact hu
          · rw [mtkF_c sv qq k _ [] t1 _ _ _ (Nat.zero_le 6), ← el]
            exact hr.symm
        unfold mlfF
        rw [if_neg c1, if_pos c2, zlet_eq rfl]
        have go : ∀ X, (u = 0 ∨ mKep qq k (mLsS fo w n 0 t1) 0 ≠ 0) → X = mtkF sv qq k (mLsS fo w n 0 t1) 0 (6 - 0 + 1) 0 0 + tg.getD (600 * i + n) 0 → (mlfF fo w tg sv qq i k mn u m X (n + 1) (mLsS fo w n 0 t1)).1 = le ∨ ∃ n9, n9 < mn ∧ fHit fo w tg sv qq i k u (mlfF fo w tg sv qq i k mn u m X (n + 1) (mLsS fo w n 0 t1)).1 n9 := by
          intro X hu hX
          rcases ih X (n + 1) (mLsS fo w n 0 t1) (by omega) (by omega) with e | e
          · right
            exact ⟨n, hn, hit hu _ (e.trans hX)⟩
          · exact Or.inr e
        by_cases c3 : u = (0 : Int32)
        · rw [if_pos c3]
          split
          · exact ih le (n + 1) _ (by omega) (by omega)
          · exact go _ (Or.inl c3) rfl
        · rw [if_neg c3]
          by_cases c4 : (mKep qq k (mLsS fo w n 0 t1) 0) ≠ (0 : Int32)
          · rw [if_pos c4]
            split
            · exact ih le (n + 1) _ (by omega) (by omega)
            · exact go _ (Or.inr c4) rfl
          · rw [if_neg c4]
            exact ih le (n + 1) _ (by omega) (by omega)
      · unfold mlfF
        rw [if_neg c1, if_neg c2]
        exact ih le (n + 1) t1 (by omega) (by omega)
theorem mLef_hit {fo : List Int64} {w : Nat} {tg sv qq : List Int32} {i k mn : Nat} {u : Int32} {t1 : List Int32} (hmn : mn ≤ 600) (h : (mLef fo w tg sv qq i k mn u t1).1 ≠ 1000000) : ∃ n9, n9 < mn ∧ fHit fo w tg sv qq i k u (mLef fo w tg sv qq i k mn u t1).1 n9 := by
  rcases mlfF_hit fo w tg sv qq i k mn u hmn (mn - 0 + 1) 1000000 0 t1 (Nat.zero_le mn) (by omega) with e | e
  · exact absurd e h
  · exact e
