/-! Both solvers' lists in order: the k-th posture of the one is the k-th of the other. -/
noncomputable def tBd (z : tP) : Prop := (0 ≤ z.1.toInt ∧ z.1.toInt ≤ 99) ∧ (-32 ≤ z.2.1.toInt ∧ z.2.1.toInt ≤ 31) ∧ (-32 ≤ z.2.2.1.toInt ∧ z.2.2.1.toInt ≤ 31) ∧ (-32 ≤ z.2.2.2.1.toInt ∧ z.2.2.2.1.toInt ≤ 31) ∧ (-32 ≤ z.2.2.2.2.1.toInt ∧ z.2.2.2.2.1.toInt ≤ 31) ∧ (-64 ≤ z.2.2.2.2.2.toInt ∧ z.2.2.2.2.2.toInt ≤ 63)
theorem tlm {ll lg : List Int32} (hlm : wLm ll lg) {j : Nat} (hj : j < 6) {v : Int32} (h : (ll.getD j 0).toInt ≤ v.toInt ∧ v.toInt ≤ (lg.getD j 0).toInt) : (zLow.getD j 0).toInt ≤ v.toInt ∧ v.toInt ≤ (zHigh.getD j 0).toInt := by
  have b := hlm j hj
  omega
theorem tlm_0 {ll lg : List Int32} (hlm : wLm ll lg) {v : Int32} (h : jallow ll lg 0 v = true) : 0 ≤ v.toInt ∧ v.toInt ≤ 99 := by
  have e := jallow_rng h
  rw [show (0 : Int32).toNatClampNeg = 0 by decide] at e
  have q := tlm hlm (by decide) e
  rw [show (zLow.getD 0 0).toInt = 0 by decide, show (zHigh.getD 0 0).toInt = 99 by decide] at q
  exact q
theorem tlm_1 {ll lg : List Int32} (hlm : wLm ll lg) {v : Int32} (h : jallow ll lg 1 v = true) : -32 ≤ v.toInt ∧ v.toInt ≤ 31 := by
  have e := jallow_rng h
  rw [show (1 : Int32).toNatClampNeg = 1 by decide] at e
  have q := tlm hlm (by decide) e
  rw [show (zLow.getD 1 0).toInt = -32 by decide, show (zHigh.getD 1 0).toInt = 31 by decide] at q
  exact q
theorem tlm_2 {ll lg : List Int32} (hlm : wLm ll lg) {v : Int32} (h : jallow ll lg 2 v = true) : -32 ≤ v.toInt ∧ v.toInt ≤ 31 := by
  have e := jallow_rng h
  rw [show (2 : Int32).toNatClampNeg = 2 by decide] at e
  have q := tlm hlm (by decide) e
  rw [show (zLow.getD 2 0).toInt = -32 by decide, show (zHigh.getD 2 0).toInt = 31 by decide] at q
  exact q
theorem tlm_3 {ll lg : List Int32} (hlm : wLm ll lg) {v : Int32} (h : jallow ll lg 3 v = true) : -32 ≤ v.toInt ∧ v.toInt ≤ 31 := by
  have e := jallow_rng h
  rw [show (3 : Int32).toNatClampNeg = 3 by decide] at e
  have q := tlm hlm (by decide) e
  rw [show (zLow.getD 3 0).toInt = -32 by decide, show (zHigh.getD 3 0).toInt = 31 by decide] at q
  exact q
theorem tlm_4 {ll lg : List Int32} (hlm : wLm ll lg) {v : Int32} (h : jallow ll lg 4 v = true) : -32 ≤ v.toInt ∧ v.toInt ≤ 31 := by
  have e := jallow_rng h
  rw [show (4 : Int32).toNatClampNeg = 4 by decide] at e
  have q := tlm hlm (by decide) e
  rw [show (zLow.getD 4 0).toInt = -32 by decide, show (zHigh.getD 4 0).toInt = 31 by decide] at q
  exact q
theorem tlm_5 {ll lg : List Int32} (hlm : wLm ll lg) {v : Int32} (h : jallow ll lg 5 v = true) : -64 ≤ v.toInt ∧ v.toInt ≤ 63 := by
  have e := jallow_rng h
  rw [show (5 : Int32).toNatClampNeg = 5 by decide] at e
  have q := tlm hlm (by decide) e
  rw [show (zLow.getD 5 0).toInt = -64 by decide, show (zHigh.getD 5 0).toInt = 63 by decide] at q
  exact q
theorem tBd_of {ll lg : List Int32} (hlm : wLm ll lg) {z : tP} (h : tFive ll lg z.1 z.2.1 z.2.2.1 z.2.2.2.1 z.2.2.2.2.1 ∧ jallow ll lg 5 z.2.2.2.2.2 = true) : tBd z :=
  ⟨tlm_0 hlm h.1.1, tlm_1 hlm h.1.2.1, tlm_2 hlm h.1.2.2.1, tlm_3 hlm h.1.2.2.2.1, tlm_4 hlm h.1.2.2.2.2, tlm_5 hlm h.2⟩
/-- the order of what is behind RAIL -/
noncomputable def tLt (x y : tP) : Prop := x.2.1.toInt < y.2.1.toInt ∨ (x.2.1 = y.2.1 ∧ (x.2.2.1.toInt < y.2.2.1.toInt ∨ (x.2.2.1 = y.2.2.1 ∧ (x.2.2.2.1.toInt < y.2.2.2.1.toInt ∨ (x.2.2.2.1 = y.2.2.2.1 ∧ x.2.2.2.2.1 = y.2.2.2.2.1 ∧ x.2.2.2.2.2.toInt < y.2.2.2.2.2.toInt)))))
theorem tR_e {ll lg : List Int32} {r t a e w ro : Int32} {z : tP} (h : z ∈ tR ll lg r t a e w ro) : z = (r, t, a, e, w, ro) := by
  unfold tR at h
  split at h
  · exact List.mem_singleton.mp h
  · exact absurd h List.not_mem_nil
theorem tR_p (ll lg : List Int32) (r t a e w ro : Int32) : (tR ll lg r t a e w ro).Pairwise tLt := by
  unfold tR
  split
  · exact List.pairwise_singleton _ _
  · exact List.Pairwise.nil
theorem tBlk_f {ll lg : List Int32} {lk hd x y p t a e ro : Int32} {z : tP} (h : z ∈ tBlk ll lg lk hd x y p t a e ro) : z.2.1 = t ∧ z.2.2.1 = a ∧ z.2.2.2.1 = e := by
  unfold tBlk at h
  split at h
  · rcases List.mem_append.mp h with k | k
    · rw [tR_e k]; exact ⟨rfl, rfl, rfl⟩
    · rw [tR_e k]; exact ⟨rfl, rfl, rfl⟩
  · exact absurd h List.not_mem_nil
theorem tBlk_p {ll lg : List Int32} {lk hd x y p t a e ro : Int32} (hro : (ro - 64).toInt < ro.toInt) : (tBlk ll lg lk hd x y p t a e ro).Pairwise tLt := by
  unfold tBlk
  split
  · refine List.pairwise_append.mpr ⟨tR_p _ _ _ _ _ _ _ _, tR_p _ _ _ _ _ _ _ _, fun z hz u hu => ?_⟩
    rw [tR_e hz, tR_e hu]
    exact Or.inr ⟨rfl, Or.inr ⟨rfl, Or.inr ⟨rfl, rfl, hro⟩⟩⟩
  · exact List.Pairwise.nil
theorem roll_b {tg : List Int32} {t : Int32} : (jroll0 tg t - 64).toInt < (jroll0 tg t).toInt := by
  have e : ∃ x : Int32, jroll0 tg t = nI (r6 x) := by
    unfold jroll0
    split
    · exact ⟨_, r6_and _⟩
    · exact ⟨_, r6_and _⟩
  obtain ⟨x, e⟩ := e
  have h := r6_lt x
  have q : (64 : Int32).toInt = 64 := rfl
  rw [e, Int32.toInt_sub, q, nI_toInt (by omega), Int.bmod_eq_of_le (by omega) (by omega)]
  omega
theorem tT_p : ∀ (n : Nat) (t : Int32), t.toInt + n = 32 → n ≤ 64 → (tT n t).Pairwise (fun a b => a.toInt < b.toInt)
  | 0, _, _, _ => List.Pairwise.nil
  | n + 1, t, h1, h2 => by
    have ht : (t + 1).toInt = t.toInt + 1 := z_inc (by omega)
    refine List.pairwise_cons.mpr ⟨fun c hc => ?_, tT_p n (t + 1) (by omega) (by omega)⟩
    have := tT_mem n (t + 1) c (by omega) (by omega) hc
    omega
/-- the order of the folds -/
noncomputable def pLt (p q : Int32 × Int32) : Prop := p.1.toInt < q.1.toInt ∨ (p.1 = q.1 ∧ (p.2 - p.1).toInt < (q.2 - q.1).toInt)
theorem mPin_x {lk hg a : Int32} {q : Int32 × Int32} : ∀ (n : Nat) (e : Int32), e.toInt + n = 32 → n ≤ 64 → q ∈ mPin lk hg a n e → q.1 = a ∧ e.toInt ≤ (q.2 - q.1).toInt
  | 0, _, _, _, h => by cases h
  | n + 1, e, h1, h2, h => by
    have he : (e + 1).toInt = e.toInt + 1 := z_inc (by omega)
    rcases List.mem_append.mp (show q ∈ (if lk * (jsin a + jsin (a + e)) = hg then [(a, a + e)] else []) ++ mPin lk hg a n (e + 1) from h) with k | k
    · split at k
      · rw [List.mem_singleton.mp k]
        exact ⟨rfl, by show e.toInt ≤ (a + e - a).toInt; rw [i32_aes]; exact Int.le_refl _⟩
      · exact absurd k List.not_mem_nil
    · have ih := mPin_x n (e + 1) (by omega) (by omega) k
      exact ⟨ih.1, by omega⟩
theorem mPin_p {lk hg a : Int32} : ∀ (n : Nat) (e : Int32), e.toInt + n = 32 → n ≤ 64 → (mPin lk hg a n e).Pairwise pLt
  | 0, _, _, _ => List.Pairwise.nil
  | n + 1, e, h1, h2 => by
    have he : (e + 1).toInt = e.toInt + 1 := z_inc (by omega)
    show ((if lk * (jsin a + jsin (a + e)) = hg then [(a, a + e)] else []) ++ mPin lk hg a n (e + 1)).Pairwise pLt
    refine List.pairwise_append.mpr ⟨?_, mPin_p n (e + 1) (by omega) (by omega), fun z hz u hu => ?_⟩
    · split
      · exact List.pairwise_singleton _ _
      · exact List.Pairwise.nil
    · have ih := mPin_x n (e + 1) (by omega) (by omega) hu
      split at hz
      · rw [List.mem_singleton.mp hz]
        refine Or.inr ⟨ih.1.symm, ?_⟩
        show (a + e - a).toInt < _
        rw [i32_aes]
        omega
      · exact absurd hz List.not_mem_nil
theorem mPout_x {lk hg : Int32} {q : Int32 × Int32} : ∀ (n : Nat) (a : Int32), a.toInt + n = 32 → n ≤ 64 → q ∈ mPout lk hg n a → a.toInt ≤ q.1.toInt
  | 0, _, _, _, h => by cases h
  | n + 1, a, h1, h2, h => by
    have ha : (a + 1).toInt = a.toInt + 1 := z_inc (by omega)
    rcases List.mem_append.mp (show q ∈ mPin lk hg a 64 (-32) ++ mPout lk hg n (a + 1) from h) with k | k
    · have e := (mPin_x 64 (-32) (by decide) (by decide) k).1
      rw [e]
      exact Int.le_refl _
    · have ih := mPout_x n (a + 1) (by omega) (by omega) k
      omega
theorem mPout_p {lk hg : Int32} : ∀ (n : Nat) (a : Int32), a.toInt + n = 32 → n ≤ 64 → (mPout lk hg n a).Pairwise pLt
  | 0, _, _, _ => List.Pairwise.nil
  | n + 1, a, h1, h2 => by
    have ha : (a + 1).toInt = a.toInt + 1 := z_inc (by omega)
    show (mPin lk hg a 64 (-32) ++ mPout lk hg n (a + 1)).Pairwise pLt
    refine List.pairwise_append.mpr ⟨mPin_p 64 (-32) (by decide) (by decide), mPout_p n (a + 1) (by omega) (by omega), fun z hz u hu => ?_⟩
    have e := (mPin_x 64 (-32) (by decide) (by decide) hz).1
    have ih := mPout_x n (a + 1) (by omega) (by omega) hu
    left
    rw [e]
    omega
theorem sFold_p {lk hd ht z p : Int32} (hl : 1 ≤ lk.toInt ∧ lk.toInt ≤ 99) : (sFold lk hd ht z p).Pairwise (fun q u => q.1.toInt < u.1.toInt ∨ (q.1 = u.1 ∧ q.2.toInt < u.2.toInt)) := by
  have h := mPout_p (lk := lk) (hg := sRise lk hd ht z p) 64 (-32) (by decide) (by decide)
  rw [mPairs hl] at h
  refine List.Pairwise.imp ?_ (List.pairwise_map.mp h)
  intro q u k
  have e1 : (fM q).2 - (fM q).1 = q.2 := i32_aes _ _
  have e2 : (fM u).2 - (fM u).1 = u.2 := i32_aes _ _
  unfold pLt at k
  rw [e1, e2] at k
  exact k
theorem tTurn_f {ll lg : List Int32} {lk hd ht : Int32} {tg : List Int32} {t : Int32} {z : tP} (h : z ∈ tTurn ll lg lk hd ht tg t) : z.2.1 = t := by
  unfold tTurn at h
  split at h
  · exact absurd h List.not_mem_nil
  · obtain ⟨q, -, h2⟩ := List.mem_flatMap.mp h
    exact (tBlk_f h2).1
theorem tTurn_p {lk : Int32} (hl : 1 ≤ lk.toInt ∧ lk.toInt ≤ 99) (ll lg : List Int32) (hd ht : Int32) (tg : List Int32) (t : Int32) : (tTurn ll lg lk hd ht tg t).Pairwise tLt := by
  unfold tTurn
  split
  · exact List.Pairwise.nil
  · refine List.pairwise_flatMap.mpr ⟨fun q _ => tBlk_p roll_b, ?_⟩
    refine List.Pairwise.imp ?_ (sFold_p hl)
    intro q u h x hx y hy
    obtain ⟨a1, a2, a3⟩ := tBlk_f hx
    obtain ⟨b1, b2, b3⟩ := tBlk_f hy
    rcases h with h | ⟨h, h2⟩
    · exact Or.inr ⟨a1.trans b1.symm, Or.inl (by rw [a2, b2]; exact h)⟩
    · exact Or.inr ⟨a1.trans b1.symm, Or.inr ⟨by rw [a2, b2]; exact h, Or.inl (by rw [a3, b3]; exact h2)⟩⟩
theorem tCls_p {lk : Int32} (hl : 1 ≤ lk.toInt ∧ lk.toInt ≤ 99) (ll lg : List Int32) (hd ht : Int32) (tg : List Int32) : (tCls ll lg lk hd ht tg).Pairwise tLt := by
  unfold tCls
  refine List.pairwise_flatMap.mpr ⟨fun t _ => tTurn_p hl ll lg hd ht tg t, ?_⟩
  refine List.Pairwise.imp ?_ (tT_p 64 (-32) (by decide) (by decide))
  intro t u h x hx y hy
  exact Or.inl (by rw [tTurn_f hx, tTurn_f hy]; exact h)
/-! the packed number's order -/
theorem jpack_I {r a b c d e : Int32} (hr : 0 ≤ r.toInt ∧ r.toInt ≤ 99) (ha : -32 ≤ a.toInt ∧ a.toInt ≤ 31) (hb : -32 ≤ b.toInt ∧ b.toInt ≤ 31) (hc : -32 ≤ c.toInt ∧ c.toInt ≤ 31) (hd : -32 ≤ d.toInt ∧ d.toInt ≤ 31) (he : -64 ≤ e.toInt ∧ e.toInt ≤ 63) : (jpack r a b c d e).toInt = 2147483648 * r.toInt + 33554432 * (a.toInt + 32) + 524288 * (b.toInt + 32) + 8192 * (c.toInt + 32) + 128 * (d.toInt + 32) + (e.toInt + 64) := by
  have z32 : (32 : Int64).toInt = 32 := rfl
  have z64 : (64 : Int64).toInt = 64 := rfl
  have er := Int32.toInt_toInt64 r
  have ea := Int32.toInt_toInt64 a
  have eb := Int32.toInt_toInt64 b
  have ec := Int32.toInt_toInt64 c
  have ed := Int32.toInt_toInt64 d
  have ee := Int32.toInt_toInt64 e
  unfold jpack
  have la : ∀ {a b : Int64}, -9223372036854775808 ≤ a.toInt + b.toInt → a.toInt + b.toInt < 9223372036854775808 → (a + b).toInt = a.toInt + b.toInt := fun h1 h2 => by
    rw [Int64.toInt_add]; exact Int.bmod_eq_of_le (by omega) (by omega)
  have lm : ∀ {c a : Int64} {k : Int}, c.toInt = k → -9223372036854775808 ≤ k * a.toInt → k * a.toInt < 9223372036854775808 → (c * a).toInt = k * a.toInt := fun hc h1 h2 => by
    rw [Int64.toInt_mul, hc]; exact Int.bmod_eq_of_le (by omega) (by omega)
  have m1 : (64 * r.toInt64).toInt = 64 * r.toInt64.toInt := lm rfl (by omega) (by omega)
  have s1 : (64 * r.toInt64 + a.toInt64).toInt = _ := la (by omega) (by omega)
  have t1 : (64 * r.toInt64 + a.toInt64 + 32).toInt = _ := la (by omega) (by omega)
  generalize 64 * r.toInt64 + a.toInt64 + 32 = x1 at *
  have m2 : (64 * x1).toInt = 64 * x1.toInt := lm rfl (by omega) (by omega)
  have s2 : (64 * x1 + b.toInt64).toInt = _ := la (by omega) (by omega)
  have t2 : (64 * x1 + b.toInt64 + 32).toInt = _ := la (by omega) (by omega)
  have m3 : (64 * (64 * x1 + b.toInt64 + 32)).toInt = 64 * (64 * x1 + b.toInt64 + 32).toInt := lm rfl (by omega) (by omega)
  have s3 : (64 * (64 * x1 + b.toInt64 + 32) + c.toInt64).toInt = _ := la (by omega) (by omega)
  have t3 : (64 * (64 * x1 + b.toInt64 + 32) + c.toInt64 + 32).toInt = _ := la (by omega) (by omega)
  have m4 : (64 * (64 * (64 * x1 + b.toInt64 + 32) + c.toInt64 + 32)).toInt = 64 * (64 * (64 * x1 + b.toInt64 + 32) + c.toInt64 + 32).toInt := lm rfl (by omega) (by omega)
  have s4 : (64 * (64 * (64 * x1 + b.toInt64 + 32) + c.toInt64 + 32) + d.toInt64).toInt = _ := la (by omega) (by omega)
  have t4 : (64 * (64 * (64 * x1 + b.toInt64 + 32) + c.toInt64 + 32) + d.toInt64 + 32).toInt = _ := la (by omega) (by omega)
  have m5 : (128 * (64 * (64 * (64 * x1 + b.toInt64 + 32) + c.toInt64 + 32) + d.toInt64 + 32)).toInt = 128 * (64 * (64 * (64 * x1 + b.toInt64 + 32) + c.toInt64 + 32) + d.toInt64 + 32).toInt := lm rfl (by omega) (by omega)
  have s5 : (128 * (64 * (64 * (64 * x1 + b.toInt64 + 32) + c.toInt64 + 32) + d.toInt64 + 32) + e.toInt64).toInt = _ := la (by omega) (by omega)
  have t5 : (128 * (64 * (64 * (64 * x1 + b.toInt64 + 32) + c.toInt64 + 32) + d.toInt64 + 32) + e.toInt64 + 64).toInt = _ := la (by omega) (by omega)
  omega
theorem tPack_I {z : tP} (h : tBd z) : (tPack z).toInt = 2147483648 * z.1.toInt + 33554432 * (z.2.1.toInt + 32) + 524288 * (z.2.2.1.toInt + 32) + 8192 * (z.2.2.2.1.toInt + 32) + 128 * (z.2.2.2.2.1.toInt + 32) + (z.2.2.2.2.2.toInt + 64) := by
  obtain ⟨h0, h1, h2, h3, h4, h5⟩ := h
  unfold tPack
  exact jpack_I h0 h1 h2 h3 h4 h5
theorem tPack_lt {x y : tP} (hx : tBd x) (hy : tBd y) (h : tLt x y) : (tPack x < tPack y ↔ x.1.toInt ≤ y.1.toInt) ∧ (tPack y < tPack x ↔ y.1.toInt < x.1.toInt) := by
  have ex := tPack_I hx
  have ey := tPack_I hy
  obtain ⟨x0, x1, x2, x3, x4, x5⟩ := hx
  obtain ⟨y0, y1, y2, y3, y4, y5⟩ := hy
  rw [Int64.lt_iff_toInt_lt, Int64.lt_iff_toInt_lt, ex, ey]
  rcases h with h | ⟨q1, h | ⟨q2, h | ⟨q3, q4, h⟩⟩⟩
  · omega
  · have r1 := congrArg Int32.toInt q1
    omega
  · have r1 := congrArg Int32.toInt q1
    have r2 := congrArg Int32.toInt q2
    omega
  · have r1 := congrArg Int32.toInt q1
    have r2 := congrArg Int32.toInt q2
    have r3 := congrArg Int32.toInt q3
    have r4 := congrArg Int32.toInt q4
    omega
/-! a place in a row that rises -/
theorem asc_at : ∀ (S : List Int64) (v : Int64), S.Pairwise (fun a b => a.toInt < b.toInt) → v ∈ S → S[S.countP (fun z => decide (z < v))]? = some v
  | [], v, _, h => by cases h
  | a :: r, v, hp, h => by
    obtain ⟨h1, h2⟩ := List.pairwise_cons.mp hp
    by_cases e : v = a
    · subst e
      have z : r.countP (fun z => decide (z < v)) = 0 := by
        refine List.countP_eq_zero.mpr (fun z hz => ?_)
        have := h1 z hz
        rw [decide_eq_true_eq, Int64.lt_iff_toInt_lt]
        omega
      rw [List.countP_cons_of_neg (by rw [decide_eq_true_eq, Int64.lt_iff_toInt_lt]; omega), z]
      rfl
    · have hv : v ∈ r := (List.mem_cons.mp h).resolve_left e
      have h3 := h1 v hv
      rw [List.countP_cons_of_pos (by rw [decide_eq_true_eq, Int64.lt_iff_toInt_lt]; exact h3), List.getElem?_cons_succ]
      exact asc_at r v h2 hv
theorem mAb_1 {x : Int64} : ∀ (l : List Int64) (i : Nat) (z : Int64), i < mAb x l → l[i]? = some z → x < z
  | [], i, z, h, _ => absurd h (Nat.not_lt_zero _)
  | y :: l, i, z, h, hz => by
    unfold mAb at h
    split at h
    · next hy =>
      cases i with
      | zero => cases hz; exact hy
      | succ i => exact mAb_1 l i z (by omega) (by simpa using hz)
    · exact absurd h (Nat.not_lt_zero _)
theorem mAb_2 {x : Int64} : ∀ (l : List Int64) (z : Int64), l[mAb x l]? = some z → ¬ x < z
  | [], z, h => by cases h
  | y :: l, z, h => by
    unfold mAb at h
    split at h
    · exact mAb_2 l z (by simpa using h)
    · next hy => cases h; exact hy
theorem mIns_asc {x : Int64} {l : List Int64} (h : l.Pairwise (fun a b => a.toInt ≤ b.toInt)) : (mIns x l).Pairwise (fun a b => a.toInt ≤ b.toInt) := by
  have hm := mAb_le x l.reverse
  rw [List.length_reverse] at hm
  have k1 : ∀ j z, l.length - mAb x l.reverse ≤ j → l[j]? = some z → x.toInt < z.toInt := fun j z hj hz => by
    have hlt : j < l.length := (List.getElem?_eq_some_iff.mp hz).1
    have e := mAb_1 (x := x) l.reverse (l.length - 1 - j) z (by omega) (by rw [List.getElem?_reverse (by omega), show l.length - 1 - (l.length - 1 - j) = j by omega]; exact hz)
    exact Int64.lt_iff_toInt_lt.mp e
  have k2 : ∀ z, 1 ≤ l.length - mAb x l.reverse → l[l.length - mAb x l.reverse - 1]? = some z → z.toInt ≤ x.toInt := fun z h1 hz => by
    have e := mAb_2 (x := x) l.reverse z (by rw [List.getElem?_reverse (by omega), show l.length - 1 - mAb x l.reverse = l.length - mAb x l.reverse - 1 by omega]; exact hz)
    rw [Int64.lt_iff_toInt_lt] at e
    omega
  have k3 : l.length - mAb x l.reverse ≤ l.length := Nat.sub_le _ _
  revert k1 k2 k3
  unfold mIns
  generalize l.length - mAb x l.reverse = k
  intro k1 k2 k3
  have hh := h
  rw [← List.take_append_drop k l] at hh
  obtain ⟨p1, p2, p3⟩ := List.pairwise_append.mp hh
  refine List.pairwise_append.mpr ⟨p1, List.pairwise_cons.mpr ⟨fun z hz => ?_, p2⟩, fun a ha b hb => ?_⟩
  · obtain ⟨i, hi, e⟩ := List.getElem_of_mem hz
    have e2 : (l.drop k)[i]? = some z := List.getElem?_eq_some_iff.mpr ⟨hi, e⟩
    rw [List.getElem?_drop] at e2
    have := k1 (k + i) z (by omega) e2
    omega
  · rcases List.mem_cons.mp hb with hb | hb
    · rw [hb]
      obtain ⟨i, hi, e⟩ := List.getElem_of_mem ha
      rw [List.length_take] at hi
      have hik : i < k := by omega
      have hil : i < l.length := by omega
      have e2 : (l.take k)[i]? = some a := List.getElem?_eq_some_iff.mpr ⟨by rw [List.length_take]; omega, e⟩
      rw [List.getElem?_take_of_lt hik] at e2
      obtain ⟨_, e3⟩ := List.getElem?_eq_some_iff.mp e2
      have hkl : k - 1 < l.length := by omega
      have e4 := k2 l[k - 1] (by omega) (List.getElem?_eq_some_iff.mpr ⟨hkl, rfl⟩)
      by_cases e5 : i = k - 1
      · subst e5
        rw [← e3]
        exact e4
      · have e6 := List.pairwise_iff_getElem.mp h i (k - 1) hil hkl (by omega)
        rw [e3] at e6
        omega
    · exact p3 a ha b hb
theorem tAdd_asc : ∀ (L : List tP) (l l2 : List Int64), l.Pairwise (fun a b => a.toInt ≤ b.toInt) → L.foldl tAdd (some l) = some l2 → l2.Pairwise (fun a b => a.toInt ≤ b.toInt)
  | [], l, l2, h, e => by cases e; exact h
  | x :: L, l, l2, h, e => by
    rw [List.foldl_cons] at e
    by_cases h6 : l.length = 600
    · rw [show tAdd (some l) x = none from if_pos h6, tAdd_none] at e
      cases e
    · rw [show tAdd (some l) x = some (mIns (tPack x) l) from if_neg h6] at e
      exact tAdd_asc L _ l2 (mIns_asc h) e
/-! how many are below -/
theorem rN_pos {z : tP} (h : tBd z) : rN (tPos z) = z.1.toNatClampNeg := by
  unfold rN tPos
  rw [jrail_n, jpos_n0 _ _ _ _ _ _ (by have := h.1; omega)]
theorem clamp_i {v : Int32} (h : 0 ≤ v.toInt) : (v.toNatClampNeg : Int) = v.toInt := by
  show ((v.toInt.toNat : Nat) : Int) = _
  omega
theorem ord_c {A B : List tP} {x : tP} (hp : (A ++ x :: B).Pairwise tLt) (hb : ∀ z ∈ A ++ x :: B, tBd z) : ((A ++ x :: B).map tPack).countP (fun z => decide (z < tPack x)) = sN ((A ++ x :: B).map tPos) (rN (tPos x)) + (A.map tPos).countP (fun p => rN p == rN (tPos x)) := by
  have hx : tBd x := hb x (List.mem_append_right _ List.mem_cons_self)
  obtain ⟨p1, p2, p3⟩ := List.pairwise_append.mp hp
  obtain ⟨p4, p5⟩ := List.pairwise_cons.mp p2
  have rx := rN_pos hx
  have ix := clamp_i hx.1.1
  have eA : (A.map tPack).countP (fun z => decide (z < tPack x)) = (A.map tPos).countP (fun p => decide (rN p < rN (tPos x))) + (A.map tPos).countP (fun p => rN p == rN (tPos x)) := by
    have hA : ∀ y ∈ A, tBd y ∧ tLt y x := fun y hy => ⟨hb y (List.mem_append_left _ hy), p3 y hy x List.mem_cons_self⟩
    clear hp hb p1 p2 p3 p4 p5
    induction A with
    | nil => rfl
    | cons y A ih =>
      obtain ⟨hy, hl⟩ := hA y List.mem_cons_self
      have ih := ih (fun z hz => hA z (List.mem_cons_of_mem _ hz))
      have k1 := (tPack_lt hy hx hl).1
      have ry := rN_pos hy
      have iy := clamp_i hy.1.1
      rw [List.map_cons, List.map_cons, List.countP_cons, List.countP_cons, List.countP_cons, ih]
      rw [rx, ry] at *
      by_cases c : y.1.toInt ≤ x.1.toInt
      · rw [if_pos (by rw [decide_eq_true_eq]; exact k1.mpr c)]
        by_cases c2 : y.1.toNatClampNeg = x.1.toNatClampNeg
        · rw [if_neg (show ¬ (decide (y.1.toNatClampNeg < x.1.toNatClampNeg) = true) by rw [decide_eq_true_eq]; omega), if_pos (by rw [beq_iff_eq]; exact c2)]
          omega
        · rw [if_pos (show (decide (y.1.toNatClampNeg < x.1.toNatClampNeg) = true) by rw [decide_eq_true_eq]; omega), if_neg (by rw [beq_iff_eq]; exact c2)]
          omega
      · rw [if_neg (by rw [decide_eq_true_eq]; exact fun q => c (k1.mp q)), if_neg (show ¬ (decide (y.1.toNatClampNeg < x.1.toNatClampNeg) = true) by rw [decide_eq_true_eq]; omega), if_neg (by rw [beq_iff_eq]; omega)]
        omega
  have eB : (B.map tPack).countP (fun z => decide (z < tPack x)) = (B.map tPos).countP (fun p => decide (rN p < rN (tPos x))) := by
    have hB : ∀ y ∈ B, tBd y ∧ tLt x y := fun y hy => ⟨hb y (List.mem_append_right _ (List.mem_cons_of_mem _ hy)), p4 y hy⟩
    clear hp hb p1 p2 p3 p4 p5 eA
    induction B with
    | nil => rfl
    | cons y B ih =>
      obtain ⟨hy, hl⟩ := hB y List.mem_cons_self
      have ih := ih (fun z hz => hB z (List.mem_cons_of_mem _ hz))
      have k1 := (tPack_lt hx hy hl).2
      have ry := rN_pos hy
      have iy := clamp_i hy.1.1
      rw [List.map_cons, List.map_cons, List.countP_cons, List.countP_cons, ih]
      rw [rx, ry] at *
      by_cases c : y.1.toInt < x.1.toInt
      · rw [if_pos (by rw [decide_eq_true_eq]; exact k1.mpr c), if_pos (by rw [decide_eq_true_eq]; omega)]
      · rw [if_neg (by rw [decide_eq_true_eq]; exact fun q => c (k1.mp q)), if_neg (by rw [decide_eq_true_eq]; omega)]
  unfold sN
  rw [List.map_append, List.map_append, List.countP_append, List.countP_append, List.map_cons, List.map_cons, eA]
  rw [List.countP_cons_of_neg (by rw [decide_eq_true_eq, Int64.lt_iff_toInt_lt]; omega), List.countP_cons_of_neg (by rw [decide_eq_true_eq]; omega), eB]
  omega
/-- the reference's row holds unlike numbers -/
theorem sol_nd {lo hi ll lg kn tg : List Int32} (hw : wLim lo hi ll lg) (hl : 1 ≤ (kn.getD 0 0).toInt ∧ (kn.getD 0 0).toInt ≤ 99) (hh : 1 ≤ (kn.getD 1 0).toInt ∧ (kn.getD 1 0).toInt ≤ 99) (h4 : 0 ≤ (tg.getD 4 0).toInt) (hlm : wLm ll lg) {l2 : List Int64} (h : mSol lo hi kn tg = some l2) : l2.Pairwise (fun a b => a ≠ b) := by
  have hp := tCls_p hl ll lg (kn.getD 1 0) (kn.getD 2 0) tg
  have hb : ∀ z ∈ tCls ll lg (kn.getD 0 0) (kn.getD 1 0) (kn.getD 2 0) tg, tBd z := fun z hz => tBd_of hlm (tCls_mem hz)
  have hpm : l2.Perm ((tCls ll lg (kn.getD 0 0) (kn.getD 1 0) (kn.getD 2 0) tg).map tPack) := by
    rcases sols_eq hw hl hh h4 with ⟨_, k⟩ | ⟨l3, k, _, _, k2⟩
    · rw [k] at h; cases h
    · rw [k] at h; cases h; exact k2
  have hnd : ((tCls ll lg (kn.getD 0 0) (kn.getD 1 0) (kn.getD 2 0) tg).map tPack).Pairwise (fun a b => a ≠ b) := by
    refine List.pairwise_map.mpr (List.Pairwise.imp_of_mem ?_ hp)
    intro a b ha hb2 hab e
    have q := tPack_lt (hb a ha) (hb b hb2) hab
    rw [e, Int64.lt_iff_toInt_lt] at q
    omega
  exact hpm.symm.pairwise hnd (fun h => h.symm)
/-- the k-th posture of the class is the k-th of the reference -/
theorem sol_ord {lo hi ll lg kn tg : List Int32} (hw : wLim lo hi ll lg) (hl : 1 ≤ (kn.getD 0 0).toInt ∧ (kn.getD 0 0).toInt ≤ 99) (hh : 1 ≤ (kn.getD 1 0).toInt ∧ (kn.getD 1 0).toInt ≤ 99) (h4 : 0 ≤ (tg.getD 4 0).toInt) (hlm : wLm ll lg) {l2 : List Int64} (h : mSol lo hi kn tg = some l2) {i : Nat} {x : tP} (hx : (tCls ll lg (kn.getD 0 0) (kn.getD 1 0) (kn.getD 2 0) tg)[i]? = some x) : l2[pN (sSolL ll lg (kn.getD 0 0) (kn.getD 1 0) (kn.getD 2 0) tg 64 (-32)) i (tPos x)]? = some (tPack x) := by
  have e1 := sSolL_t hl hh ll lg (kn.getD 2 0) tg 64 (-32)
  have hp := tCls_p hl ll lg (kn.getD 1 0) (kn.getD 2 0) tg
  have hb : ∀ z ∈ tCls ll lg (kn.getD 0 0) (kn.getD 1 0) (kn.getD 2 0) tg, tBd z := fun z hz => tBd_of hlm (tCls_mem hz)
  have hpm : l2.Perm ((tCls ll lg (kn.getD 0 0) (kn.getD 1 0) (kn.getD 2 0) tg).map tPack) := by
    rcases sols_eq hw hl hh h4 with ⟨_, k⟩ | ⟨l3, k, _, _, k2⟩
    · rw [k] at h; cases h
    · rw [k] at h; cases h; exact k2
  have has : l2.Pairwise (fun a b => a.toInt ≤ b.toInt) := by
    rw [mSol_t hl] at h
    exact tAdd_asc _ [] l2 List.Pairwise.nil h
  rw [show sSolL ll lg (kn.getD 0 0) (kn.getD 1 0) (kn.getD 2 0) tg 64 (-32) = (tCls ll lg (kn.getD 0 0) (kn.getD 1 0) (kn.getD 2 0) tg).map tPos from e1]
  revert hx hp hb hpm
  generalize tCls ll lg (kn.getD 0 0) (kn.getD 1 0) (kn.getD 2 0) tg = L
  intro hx hp hb hpm
  obtain ⟨hi9, e2⟩ := List.getElem?_eq_some_iff.mp hx
  have e3 : L = L.take i ++ x :: L.drop (i + 1) := by
    rw [← e2, List.getElem_cons_drop, List.take_append_drop]
  have hnd2 := sol_nd hw hl hh h4 hlm h
  have has2 : l2.Pairwise (fun a b => a.toInt < b.toInt) := by
    refine List.Pairwise.imp ?_ (List.Pairwise.and has hnd2)
    intro a b ⟨q1, q2⟩
    have : a.toInt ≠ b.toInt := fun q => q2 (Int64.toInt_inj.mp q)
    omega
  have hm : tPack x ∈ l2 := hpm.symm.mem_iff.mp (List.mem_map.mpr ⟨x, List.mem_of_getElem? hx, rfl⟩)
  have f := asc_at l2 (tPack x) has2 hm
  rw [hpm.countP_eq] at f
  have g : (L.map tPack).countP (fun z => decide (z < tPack x)) = pN (L.map tPos) i (tPos x) := by
    have c := ord_c (A := L.take i) (B := L.drop (i + 1)) (x := x) (by rw [← e3]; exact hp) (by rw [← e3]; exact hb)
    rw [← e3] at c
    rw [c]
    unfold pN cN
    rw [List.map_take]
  rw [g] at f
  exact f
