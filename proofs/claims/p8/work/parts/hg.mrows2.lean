/-! The reference: what laysToGo leaves, row by row. -/
theorem nI_last {i nw : Nat} (h : i < nw) (hn : nw ≤ 10) : (nI i ≠ ((nI nw) - (1 : Int32))) ↔ i + 1 ≠ nw := by
  rw [show (nI nw) - (1 : Int32) = nI (nw - 1) from nI_predn (by omega)]
  constructor
  · intro a b
    exact a (by rw [show i = nw - 1 by omega])
  · intro a b
    have := congrArg Int32.toInt b
    rw [nI_toInt (by omega), nI_toInt (by omega)] at this
    omega
/-- what is written at the n-th solution of the i-th stop -/
noncomputable def wRw (fo : List Int64) (wf mf : Nat → Nat) (sv : List Int32) (nw : Nat) (u : Int32) (tg : List Int32) (i n : Nat) : Int32 := if i + 1 = nw then 0 else (mLef fo (wf (i + 1)) tg sv (mUnp (fo.getD (600 * wf i + n) 0) 0 []) (i + 1) 0 (mf (wf (i + 1))) u []).1
theorem wRw_c {fo : List Int64} {wf mf : Nat → Nat} {sv : List Int32} {nw : Nat} {u : Int32} {tg tg2 : List Int32} {i : Nat} (n : Nat) (hm : i + 1 < nw → mf (wf (i + 1)) ≤ 600) (hi : i < nw) (h : ∀ q, 600 * (i + 1) ≤ q → tg.getD q 0 = tg2.getD q 0) : wRw fo wf mf sv nw u tg i n = wRw fo wf mf sv nw u tg2 i n := by
  unfold wRw
  by_cases c : i + 1 = nw
  · rw [if_pos c, if_pos c]
  · rw [if_neg c, if_neg c]
    exact mLef_c fo _ sv _ _ u _ _ (hm (by omega)) (fun n hn => h _ (by omega)) (fun j hj => rfl)
theorem mtgI_r {fo : List Int64} {wf mf : Nat → Nat} {sv : List Int32} {nw : Nat} {u : Int32} {i mn : Nat} (hi : i < nw) (hn : nw ≤ 10) (hmn : mn ≤ 600) (hm : i + 1 < nw → mf (wf (i + 1)) ≤ 600) : ∀ (m n : Nat) (tg h1 t1 : List Int32), n ≤ mn → mn - n < m → (∀ q, q < 600 * i + n ∨ 600 * i + mn ≤ q → (mtgI fo wf mf sv nw u i mn m n tg h1 t1).1.getD q 0 = tg.getD q 0) ∧ ∀ k, n ≤ k → k < mn → (mtgI fo wf mf sv nw u i mn m n tg h1 t1).1.getD (600 * i + k) 0 = wRw fo wf mf sv nw u tg i k := by
  intro m
  induction m with
  | zero => intro n tg h1 t1 a b; omega
  | succ m ih =>
    intro n tg h1 t1 a b
    have q1 := nI_toInt (n := mn) (by omega)
    have q2 := nI_toInt (n := n) (by omega)
    by_cases c1 : (nI mn).toInt ≤ (nI n).toInt
    · unfold mtgI
      rw [if_pos c1]
      exact ⟨fun q _ => rfl, fun k k1 k2 => by omega⟩
    · have hnm : n < mn := by omega
      have el : mLsS fo (wf i) n 0 h1 = mUnp (fo.getD (600 * wf i + n) 0) 0 h1 := rfl
      have step : ∀ (x : Int32) (h1' t1' : List Int32), x = wRw fo wf mf sv nw u tg i n → (∀ q, q < 600 * i + n ∨ 600 * i + mn ≤ q → (mtgI fo wf mf sv nw u i mn m (n + 1) (zset 0 tg (600 * i + n) x) h1' t1').1.getD q 0 = tg.getD q 0) ∧ ∀ k, n ≤ k → k < mn → (mtgI fo wf mf sv nw u i mn m (n + 1) (zset 0 tg (600 * i + n) x) h1' t1').1.getD (600 * i + k) 0 = wRw fo wf mf sv nw u tg i k := by
        intro x h1' t1' hx
        obtain ⟨g1, g2⟩ := ih (n + 1) (zset 0 tg (600 * i + n) x) h1' t1' (by omega) (by omega)
        refine ⟨fun q hq => ?_, fun k k1 k2 => ?_⟩
        · rw [g1 q (by omega), zset_get, if_neg (by omega)]
        · by_cases e : k = n
          · subst e
            rw [g1 _ (Or.inl (by omega)), zset_get, if_pos rfl, hx]
          · rw [g2 k (by omega) k2]
            exact wRw_c k hm hi (fun q hq => by rw [zset_get, if_neg (by omega)])
      unfold mtgI
      rw [if_neg c1, zlet_eq rfl]
      by_cases c2 : nI i ≠ ((nI nw) - (1 : Int32))
      · rw [if_pos c2, zlet_eq rfl]
        have c3 := (nI_last hi hn).mp c2
        refine step _ _ _ ?_
        unfold wRw
        rw [if_neg c3]
        refine mLef_c fo _ sv _ _ u _ _ (hm (by omega)) (fun n hn => rfl) (fun j hj => ?_)
        rw [el]
        exact mUnp_at _ _ _ j hj
      · rw [if_neg c2]
        have c3 : i + 1 = nw := Decidable.byContradiction (fun q => c2 ((nI_last hi hn).mpr q))
        refine step _ _ _ ?_
        unfold wRw
        rw [if_pos c3]
theorem mtgO_r {fo : List Int64} {wf mf : Nat → Nat} {sv : List Int32} {nw : Nat} {u : Int32} (hn : nw ≤ 10) (hm : ∀ i, i < nw → mf (wf i) ≤ 600) : ∀ (j m : Nat) (iv : Int32) (tg h1 t1 : List Int32), iv.toInt + 1 = j → j ≤ nw → j < m → (∀ q, 600 * j ≤ q → (mtgO fo wf mf sv nw u m iv tg h1 t1).1.getD q 0 = tg.getD q 0) ∧ ∀ i, i < j → ∀ k, k < mf (wf i) → (mtgO fo wf mf sv nw u m iv tg h1 t1).1.getD (600 * i + k) 0 = wRw fo wf mf sv nw u (mtgO fo wf mf sv nw u m iv tg h1 t1).1 i k := by
  intro j
  induction j with
  | zero =>
    intro m iv tg h1 t1 a b c
    cases m with
    | zero => omega
    | succ m =>
      unfold mtgO
      rw [if_pos (by omega)]
      exact ⟨fun q _ => rfl, fun i hi => absurd hi (Nat.not_lt_zero i)⟩
  | succ j ih =>
    intro m iv tg h1 t1 a b c
    cases m with
    | zero => omega
    | succ m =>
      have hiv : iv = nI j := Int32.toInt_inj.mp (by rw [nI_toInt (by omega)]; omega)
      have hcl : iv.toNatClampNeg = j := by rw [hiv]; exact nI_clamp (by omega)
      obtain ⟨g1, g2⟩ := mtgI_r (fo := fo) (sv := sv) (u := u) (show j < nw by omega) hn (hm j (by omega)) (fun h => hm (j + 1) h) (mf (wf j) - 0 + 1) 0 tg h1 t1 (Nat.zero_le _) (by omega)
      unfold mtgO
      rw [if_neg (by omega), hcl, zlet_eq rfl, zlet_eq rfl]
      obtain ⟨k1, k2⟩ := ih m (nI j + (-1 : Int32)) (mtgI fo wf mf sv nw u j (mf (wf j)) (mf (wf j) - 0 + 1) 0 tg h1 t1).1 (mtgI fo wf mf sv nw u j (mf (wf j)) (mf (wf j) - 0 + 1) 0 tg h1 t1).2.1 (mtgI fo wf mf sv nw u j (mf (wf j)) (mf (wf j) - 0 + 1) 0 tg h1 t1).2.2 (nI_mj (by omega)) (by omega) (by omega)
      have hmj := hm j (by omega)
      refine ⟨fun q hq => ?_, fun i hi k hk => ?_⟩
      · rw [k1 q (by omega), g1 q (by omega)]
      · by_cases e : i = j
        · subst e
          rw [k1 _ (by omega), g2 k (Nat.zero_le k) hk]
          exact wRw_c k (fun h => hm (i + 1) h) (by omega) (fun q hq => by rw [k1 q (by omega), g1 q (by omega)])
        · exact k2 i (by omega) k hk
