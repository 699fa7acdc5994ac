/-! The reference: at blend 0 no corner is missed. -/
theorem mRt_P {r wn : Nat} {pa co : List Int32} (hR : mRt r wn pa co) (j : Nat) (hj : j < 6) (q : Nat) : ∀ d, q + d ≤ wn → (co.getD (11 * r + (q + d)) 0).toInt ≤ (co.getD (11 * r + q) 0).toInt → pa.getD (66 * r + 6 * (q + d) + j) 0 = pa.getD (66 * r + 6 * q + j) 0 := by
  intro d
  induction d with
  | zero => intro _ _; rfl
  | succ d ih =>
    intro h1 h2
    obtain ⟨c1, c2, c3, c4⟩ := hR.2.2 (q + d) (by omega)
    have e1 : 11 * r + (q + d) + 1 = 11 * r + (q + (d + 1)) := by omega
    rw [e1] at c2 c3 c4
    have m : (co.getD (11 * r + q) 0).toInt ≤ (co.getD (11 * r + (q + d)) 0).toInt := by
      have mono : ∀ d, q + d ≤ wn → (co.getD (11 * r + q) 0).toInt ≤ (co.getD (11 * r + (q + d)) 0).toInt := by
        intro d
        induction d with
        | zero => intro _; exact Int.le_refl _
        | succ d ih =>
          intro h
          have a := ih (by omega)
          obtain ⟨_, b2, _, _⟩ := hR.2.2 (q + d) (by omega)
          rw [show 11 * r + (q + d) + 1 = 11 * r + (q + (d + 1)) by omega] at b2
          omega
      exact mono d (by omega)
    have a := c4 (by omega) j hj
    rw [show q + d + 1 = q + (d + 1) by omega] at a
    rw [a]
    exact ih (by omega) (by omega)
theorem mRt_mono {r wn : Nat} {pa co : List Int32} (hR : mRt r wn pa co) (q : Nat) : ∀ d, q + d ≤ wn → (co.getD (11 * r + q) 0).toInt ≤ (co.getD (11 * r + (q + d)) 0).toInt := by
  intro d
  induction d with
  | zero => intro _; exact Int.le_refl _
  | succ d ih =>
    intro h
    have a := ih (by omega)
    obtain ⟨_, b2, _, _⟩ := hR.2.2 (q + d) (by omega)
    rw [show 11 * r + (q + d) + 1 = 11 * r + (q + (d + 1)) by omega] at b2
    omega
theorem mBtw_end {a b x : Int32} (ha : -128 ≤ a.toInt ∧ a.toInt ≤ 191) (hb : -128 ≤ b.toInt ∧ b.toInt ≤ 191) (hx : 0 < x.toInt ∧ x.toInt ≤ 6000) : mBtw a b x x = b := by
  have hx0 : x ≠ 0 := fun e => by rw [e] at hx; exact absurd hx.1 (by decide)
  unfold mBtw
  rw [if_pos hx0]
  have e1 : (b - a).toInt = b.toInt - a.toInt := e_sub (by omega) (by omega)
  have e2 := int_mul_bd (x := (b - a).toInt) (y := x.toInt) (X := 400) (Y := 6000) (by omega) (by omega)
  rw [i32_mul_div hx0 (by omega) (by omega)]
  first | exact i32_sas a b | exact i32_sas b a
theorem mja_at {r wn : Nat} {pa co : List Int32} (hR : mRt r wn pa co) (hwn : wn ≤ 10) {i j : Nat} (hi : i < wn) (hj : j < 6) : mJA pa co wn r j (co.getD (11 * r + i + 1) 0) = pa.getD (66 * r + 6 * (i + 1) + j) 0 := by
  obtain ⟨n, hn⟩ : ∃ n, n = co.getD (11 * r + i + 1) 0 := ⟨_, rfl⟩
  have hni : (co.getD (11 * r + (i + 1)) 0).toInt = n.toInt := by rw [hn]; rfl
  rw [← hn]
  have h0 := hR.1
  have ctop := (hR.2.2 i hi).2.2.1
  rw [← hn] at ctop
  unfold mJA
  by_cases hp : 0 < n.toInt
  · rw [if_pos hp]
    have go : ∀ (m q : Nat), q ≤ i → wn - q < m → (co.getD (11 * r + q) 0).toInt < n.toInt → mjaF pa co wn r j n m q = pa.getD (66 * r + 6 * (i + 1) + j) 0 := by
      intro m
      induction m with
      | zero => intro q h1 h2; omega
      | succ m ih =>
        intro q h1 h2 h3
        unfold mjaF
        have q1 := nI_toInt (n := wn) (by omega)
        have q2 := nI_toInt (n := q) (by omega)
        rw [if_neg (by omega)]
        by_cases c : n.toInt ≤ (co.getD (((11 * r) + q) + 1) 0).toInt
        · rw [if_pos c]
          have hne : nI q ≠ nI wn := nI_ne (by omega) (by omega) (by omega)
          rw [if_pos hne]
          have mq := mRt_mono hR (q + 1) (i - q) (by omega)
          rw [show q + 1 + (i - q) = i + 1 by omega, hni] at mq
          have eq9 : co.getD (11 * r + q + 1) 0 = n := Int32.toInt_inj.mp (by
            have : 11 * r + q + 1 = 11 * r + (q + 1) := by omega
            rw [this] at c ⊢
            omega)
          rw [eq9]
          have hc0 := (hR.2.2 q (by omega)).1
          have es : (n - co.getD (11 * r + q) 0).toInt = n.toInt - (co.getD (11 * r + q) 0).toInt := e_sub (by omega) (by omega)
          rw [mBtw_end (hR.2.1 q (by omega) j hj) (hR.2.1 (q + 1) (by omega) j hj) (by omega)]
          have eP := mRt_P hR j hj (q + 1) (i - q) (by omega) (by
            rw [show q + 1 + (i - q) = i + 1 by omega, hni, show 11 * r + (q + 1) = 11 * r + q + 1 by omega, eq9]; exact Int.le_refl _)
          rw [show q + 1 + (i - q) = i + 1 by omega] at eP
          exact eP.symm
        · rw [if_neg c]
          have hlt : (co.getD (11 * r + (q + 1)) 0).toInt < n.toInt := by
            have : 11 * r + q + 1 = 11 * r + (q + 1) := by omega
            rw [this] at c; omega
          have hqi : q + 1 ≤ i := by
            by_cases e : q = i
            · rw [e, hni] at hlt; omega
            · omega
          exact ih (q + 1) hqi (by omega) hlt
    exact go (wn - 0 + 1) 0 (Nat.zero_le i) (by omega) (by rw [Nat.add_zero, h0]; exact hp)
  · rw [if_neg hp]
    have eP := mRt_P hR j hj 0 (i + 1) (by omega) (by rw [Nat.zero_add, hni, Nat.add_zero, h0]; omega)
    rw [Nat.zero_add] at eP
    rw [eP]
    rfl
theorem mMis_zero {r wn : Nat} {pa co : List Int32} (hR : mRt r wn pa co) (hwn : wn ≤ 10) {i j : Nat} (hi : i < wn) (hj : j < 6) : mMis pa co wn r i j 0 = 0 := by
  have hc := hR.2.2 i hi
  have hja := mja_at hR hwn hi hj
  unfold mMis
  generalize hn : co.getD (11 * r + i + 1) 0 = n at hja hc ⊢
  have z0 : (0 : Int32).toInt = 0 := rfl
  have z1 : (1 : Int32).toInt = 1 := rfl
  have hb : 0 ≤ n.toInt ∧ n.toInt ≤ 5000 := ⟨by omega, by omega⟩
  rw [Int32.sub_zero]
  have ef : (n.toInt + (0 : Int32).toInt + 1 - n.toInt).toNat + 1 = 2 := by omega
  rw [ef]
  have e2 : mbbF pa co wn r j n 0 2 0 n = 0 + mJA pa co wn r j n := by
    have ea : (n + (0 : Int32)).toInt = n.toInt + (0 : Int32).toInt := e_add (by omega) (by omega)
    have eb : (n + (1 : Int32)).toInt = n.toInt + (1 : Int32).toInt := e_add (by omega) (by omega)
    show (if (n + 0).toInt < n.toInt then (0 : Int32) else (if (n + 0).toInt < (n + 1).toInt then 0 + mJA pa co wn r j n else _)) = _
    rw [if_neg (by omega), if_pos (by omega)]
  rw [e2, hja, Int32.zero_add]
  have e3 : ((2 : Int32) * 0 + 1) = 1 := by decide
  rw [e3, Int32.mul_one, Int32.sub_self]
  decide
theorem mir_zero {r wn : Nat} {pa co : List Int32} {m9 : Int32} (hR : mRt r wn pa co) (hwn : wn ≤ 10) (hm : 0 ≤ m9.toInt) : ∀ (m i j : Nat), i < wn → j ≤ 6 → 7 * (wn - i) + (6 - j) < m → mirF pa co wn r 0 m9 m i j = 1 := by
  intro m
  induction m with
  | zero => intro i j _ _ h; omega
  | succ m ih =>
    intro i j hi hj h
    unfold mirF
    have q1 := nI_toInt (n := wn) (by omega)
    have q2 := nI_toInt (n := i + 1) (by omega)
    have q3 := nI_toInt (n := j) (by omega)
    have q6 : (6 : Int32).toInt = 6 := rfl
    by_cases c : (6 : Int32).toInt ≤ (nI j).toInt
    · rw [if_pos c]
      by_cases c2 : (nI wn).toInt ≤ (nI (i + 1)).toInt
      · rw [if_pos c2]
      · rw [if_neg c2]
        exact ih (i + 1) 0 (by omega) (by omega) (by omega)
    · rw [if_neg c, mMis_zero hR hwn hi (by omega)]
      have e3 : ((2 : Int32) * 0 + 1) = 1 := by decide
      have z0 : (0 : Int32).toInt = 0 := rfl
      rw [e3, Int32.mul_one, if_pos (by omega)]
      exact ih i (j + 1) hi (by omega) (by omega)
/-- at blend 0 all corners are near enough -/
theorem mir_one {r wn : Nat} {pa co : List Int32} {m9 : Int32} (hR : mRt r wn pa co) (hwn : wn ≤ 10) (hm : 0 ≤ m9.toInt) : (if wn = 0 then 1 else mirF pa co wn r 0 m9 (7 * (wn - 0) + (6 - 0) + 1) 0 0) = (1 : Int32) := by
  by_cases e : wn = 0
  · rw [if_pos e]
  · rw [if_neg e]
    exact mir_zero hR hwn hm _ 0 0 (by omega) (by omega) (by omega)
