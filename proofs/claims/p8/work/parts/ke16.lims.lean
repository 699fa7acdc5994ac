/-! limit and speed, on both sides. -/
theorem nI_ad (a b : Nat) : nI a + nI b = nI (a + b) := by
  unfold nI; exact (Int32.ofNat_add a b).symm
theorem rdJ_e {tb : List Int32} {ln nx : Nat} (hln : ln ≤ 700) (hx : nx ≤ ln) (hb : ∀ i, i < ln → 0 ≤ (tb.getD i 0).toInt) {pl T OFF : Nat} {so9 w : Int32} {hd : List Int32} (hr : ∀ j, j < 6 → (T.testBit (OFF + j) = false ↔ hd.getD j 0 = 0)) (kd sta va wr wa fp : Int32) :
  (∃ (j b1 b2 : Nat) (kx b4 : Int32), j < 6 ∧ T.testBit (OFF + j) = false ∧ nx ≤ b1 ∧ b1 ≤ ln ∧ rnG tb ln wr wa nx kd sta va 0 5 0 = (1, wr, wa, b1, kx, nI b2, nI j) ∧ mRdJ tb ln nx pl so9 w 0 fp hd = (nI j, 0, fp, (mTok tb ln b1 b4).1, (mTok tb ln b1 b4).2.1, (mTok tb ln b1 b4).2.2.1, (mTok tb ln b1 b4).2.2.2, zset 0 hd j 1)) ∨
  (∃ (f : Int32) (b1 b2 : Nat) (kx v : Int32), f ≠ 0 ∧ rnG tb ln wr wa nx kd sta va 0 5 0 = (0, f, nI b2, b1, kx, nI b2, v) ∧ (mRdJ tb ln nx pl so9 w 0 fp hd).2.1 = f ∧ (mRdJ tb ln nx pl so9 w 0 fp hd).2.2.1 = nI b2) ∨
  (∃ (j b1 b2 : Nat) (kx : Int32), j < 6 ∧ T.testBit (OFF + j) = true ∧ rnG tb ln wr wa nx kd sta va 0 5 0 = (1, wr, wa, b1, kx, nI b2, nI j) ∧ (mRdJ tb ln nx pl so9 w 0 fp hd).2.1 = 3 ∧ (mRdJ tb ln nx pl so9 w 0 fp hd).2.2.1 = nI b2) := by
  obtain ⟨B, hB⟩ : ∃ B, B = mTok tb ln nx w := ⟨_, rfl⟩
  obtain ⟨b1, b2, b3, b4⟩ := B
  obtain ⟨g1, g2, N⟩ := num_e hln hx hb hB.symm kd sta va wr wa fp 0 5 0 (by decide) (by decide) (by decide) (Or.inl rfl)
  have z3 : (3 : Int32) ≠ 0 := by decide
  rcases N with ⟨x, kx, n1, n2, n3, n4⟩ | ⟨f, kx, v, f0, n1, n2⟩
  · have e0 : (0 : Int32).toInt = 0 := rfl
    have e5 : (5 : Int32).toInt = 5 := rfl
    obtain ⟨j, hj⟩ : ∃ j : Nat, x = nI j ∧ j < 6 := ⟨x.toNatClampNeg, nI_cl (by omega), by show x.toInt.toNat < 6; omega⟩
    obtain ⟨hj, hj6⟩ := hj
    subst hj
    by_cases t : T.testBit (OFF + j) = true
    · right; right
      have w0 : hd.getD j 0 ≠ 0 := fun z => by
        have := (hr j hj6).mpr z
        rw [t] at this
        exact absurd this (by decide)
      have r : mRdJ tb ln nx pl so9 w 0 fp hd = (nI j, 3, nI b2, b1, b2, b3, b4, hd) := by
        unfold mRdJ
        simp only [zlet, go_0, ← hB, n2]
        rw [if_neg (fun z => z rfl), nI_clamp (by omega), if_neg w0]
        simp only [wro_0, if_pos z3, go_lock z3]
      exact ⟨j, b1, b2, kx, hj6, t, n1, by rw [r], by rw [r]⟩
    · left
      have t0 : T.testBit (OFF + j) = false := Bool.eq_false_iff.mpr t
      have w0 : hd.getD j 0 = 0 := (hr j hj6).mp t0
      refine ⟨j, b1, b2, kx, b4, hj6, t0, g1, g2, n1, ?_⟩
      unfold mRdJ
      simp only [zlet, go_0, ← hB, n2]
      rw [if_neg (fun z => z rfl), nI_clamp (by omega), if_pos w0, if_neg (fun z => z rfl), vpn1]
  · right; left
    have r : mRdJ tb ln nx pl so9 w 0 fp hd = (0, f, nI b2, b1, b2, b3, b4, hd) := by
      unfold mRdJ
      simp only [zlet, go_0, ← hB, n2]
      rw [if_pos f0, if_pos f0]
      simp only [go_lock f0]
    exact ⟨f, b1, b2, kx, v, f0, n1, by rw [r], by rw [r]⟩
theorem rdL_lock {tb : List Int32} {ln at9 pl : Nat} {so va ft fp f P : Int32} {hl lo hi : List Int32} (h0 : f ≠ 0) (h1 : (mRdJ tb ln at9 pl so va ft fp hl).2.1 = f) (h2 : (mRdJ tb ln at9 pl so va ft fp hl).2.2.1 = P) : (mRdL tb ln at9 pl so va ft fp hl lo hi).1 = f ∧ (mRdL tb ln at9 pl so va ft fp hl lo hi).2.1 = P := by
  simp only [mRdL, zlet]
  revert h1 h2
  generalize mRdJ tb ln at9 pl so va ft fp hl = J
  intro h1 h2
  rw [h1, h2]
  simp only [at_lock h0, go_lock h0, if_pos h0]
  exact ⟨trivial, trivial⟩
theorem rdS_lock {tb : List Int32} {ln at9 pl : Nat} {so va ft fp f P : Int32} {hs sv : List Int32} (h0 : f ≠ 0) (h1 : (mRdJ tb ln at9 pl so va ft fp hs).2.1 = f) (h2 : (mRdJ tb ln at9 pl so va ft fp hs).2.2.1 = P) : (mRdS tb ln at9 pl so va ft fp hs sv).1 = f ∧ (mRdS tb ln at9 pl so va ft fp hs sv).2.1 = P := by
  simp only [mRdS, zlet]
  revert h1 h2
  generalize mRdJ tb ln at9 pl so va ft fp hs = J
  intro h1 h2
  rw [h1, h2]
  simp only [nml_lock h0]
  exact ⟨trivial, trivial⟩
theorem at_1 (pl : Nat) (so va fp lo hi : Int32) : mAtH pl so va 0 fp 1 lo hi = if so = 2 ∨ so = 3 then (if va.toInt < lo.toInt then (lo, 2, nI pl) else if va.toInt ≤ hi.toInt then (va, 0, fp) else (lo, 2, nI pl)) else (lo, 1, nI pl) := by
  unfold mAtH
  simp only [zlet, wro_0]
  by_cases h2 : so = 2
  · subst h2
    simp
  · by_cases h3 : so = 3
    · subst h3
      simp
    · simp [h2, h3]
/-- the reference's check against the lower bound, the class's against the higher -/
theorem at_up {pl : Nat} {so va fp lo lo2 hi y f P : Int32} (h : lo.toInt ≤ lo2.toInt) (k : mAtH pl so va 0 fp 1 lo2 hi = (y, f, P)) : (f = 0 ∧ mAtH pl so va 0 fp 1 lo hi = (y, 0, fp) ∧ P = fp ∧ lo2.toInt ≤ y.toInt) ∨ (f ≠ 0 ∧ mAtH pl so va 0 fp 1 lo hi = (lo, f, P)) ∨ (f = 2 ∧ P = nI pl ∧ ∃ x, mAtH pl so va 0 fp 1 lo hi = (x, 0, fp) ∧ x.toInt < lo2.toInt) := by
  rw [at_1] at k ⊢
  by_cases h1 : so = 2 ∨ so = 3
  · rw [if_pos h1] at k ⊢
    by_cases h2 : va.toInt < lo2.toInt
    · rw [if_pos h2] at k
      injection k with k1 k2
      injection k2 with k2 k3
      subst k1 k2 k3
      by_cases h3 : va.toInt < lo.toInt
      · rw [if_pos h3]
        exact Or.inr (Or.inl ⟨by decide, rfl⟩)
      · rw [if_neg h3]
        by_cases h4 : va.toInt ≤ hi.toInt
        · rw [if_pos h4]
          exact Or.inr (Or.inr ⟨rfl, rfl, va, rfl, h2⟩)
        · rw [if_neg h4]
          exact Or.inr (Or.inl ⟨by decide, rfl⟩)
    · rw [if_neg h2] at k
      rw [if_neg (show ¬ va.toInt < lo.toInt by omega)]
      by_cases h4 : va.toInt ≤ hi.toInt
      · rw [if_pos h4] at k ⊢
        injection k with k1 k2
        injection k2 with k2 k3
        subst k1 k2 k3
        exact Or.inl ⟨rfl, rfl, rfl, by omega⟩
      · rw [if_neg h4] at k ⊢
        injection k with k1 k2
        injection k2 with k2 k3
        subst k1 k2 k3
        exact Or.inr (Or.inl ⟨by decide, rfl⟩)
  · rw [if_neg h1] at k ⊢
    injection k with k1 k2
    injection k2 with k2 k3
    subst k1 k2 k3
    exact Or.inr (Or.inl ⟨by decide, rfl⟩)
