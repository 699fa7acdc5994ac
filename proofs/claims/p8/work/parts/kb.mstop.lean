/-! The reference: stop: each stop of a tour is found. -/
/-- the least over all that are left, any step -/
noncomputable def mtG (S : Nat → Int32) (tl : List Int32) (n b : Nat) : Nat → Int32 → Nat → Int32
  | 0, _, _ => 0
  | m + 1, le, k => (if (nI n).toInt ≤ (nI k).toInt then le else (if (nI ((b >>> k) % 2)) ≠ (1 : Int32) then (if le.toInt ≤ ((S k) + (tl.getD ((8 * (b ||| (2 ^ k))) + k) 0)).toInt then (mtG S tl n b m le (k + 1)) else (mtG S tl n b m ((S k) + (tl.getD ((8 * (b ||| (2 ^ k))) + k) 0)) (k + 1))) else (mtG S tl n b m le (k + 1))))
theorem mtG_N (sv sq nw tl : List Int32) (n b : Nat) : ∀ (m : Nat) (le : Int32) (k : Nat), mtfNF sv sq nw tl n b m le k = mtG (mTsN sv sq nw) tl n b m le k := by
  intro m
  induction m with
  | zero => intro le k; rfl
  | succ m ih => intro le k; unfold mtfNF mtG; simp only [ih]
theorem mtG_S (sv sq tl : List Int32) (n b l : Nat) : ∀ (m : Nat) (le : Int32) (k : Nat), mtfSF sv sq tl n b l m le k = mtG (mTsS sv sq l) tl n b m le k := by
  intro m
  induction m with
  | zero => intro le k; rfl
  | succ m ih => intro le k; unfold mtfSF mtG; simp only [ih]
theorem bit01 (b k : Nat) : (b >>> k) % 2 = 0 ∨ (b >>> k) % 2 = 1 := by omega
/-- what it is: the start, or one of them; none of them is less -/
theorem mtG_min {S : Nat → Int32} {tl : List Int32} {n b : Nat} (hn : n ≤ 8) : ∀ (m : Nat) (le : Int32) (k : Nat), k ≤ n → n - k < m → (mtG S tl n b m le k = le ∨ ∃ p, k ≤ p ∧ p < n ∧ (b >>> p) % 2 = 0 ∧ mtG S tl n b m le k = S p + tl.getD (8 * (b ||| (2 ^ p)) + p) 0) ∧ (mtG S tl n b m le k).toInt ≤ le.toInt ∧ ∀ p, k ≤ p → p < n → (b >>> p) % 2 = 0 → (mtG S tl n b m le k).toInt ≤ (S p + tl.getD (8 * (b ||| (2 ^ p)) + p) 0).toInt := by
  intro m
  induction m with
  | zero => intro le k h1 h2; omega
  | succ m ih =>
    intro le k h1 h2
    have q1 := nI_toInt (n := n) (by omega)
    have q2 := nI_toInt (n := k) (by omega)
    by_cases c : (nI n).toInt ≤ (nI k).toInt
    · have e : mtG S tl n b (m + 1) le k = le := if_pos c
      rw [e]
      exact ⟨Or.inl rfl, Int.le_refl _, fun p a1 a2 _ => by omega⟩
    · rcases bit01 b k with hb | hb
      · have hb1 : nI ((b >>> k) % 2) ≠ (1 : Int32) := by rw [hb]; decide
        by_cases c2 : le.toInt ≤ ((S k) + (tl.getD ((8 * (b ||| (2 ^ k))) + k) 0)).toInt
        · have e : mtG S tl n b (m + 1) le k = mtG S tl n b m le (k + 1) := by
            show (if _ then _ else _) = _
            rw [if_neg c, if_pos hb1, if_pos c2]
          rw [e]
          obtain ⟨a1, a2, a3⟩ := ih le (k + 1) (by omega) (by omega)
          refine ⟨?_, a2, fun p b1 b2 b3 => ?_⟩
          · rcases a1 with a1 | ⟨p, p1, p2, p3, p4⟩
            · exact Or.inl a1
            · exact Or.inr ⟨p, by omega, p2, p3, p4⟩
          · by_cases ep : p = k
            · rw [ep]; exact Int.le_trans a2 c2
            · exact a3 p (by omega) b2 b3
        · have e : mtG S tl n b (m + 1) le k = mtG S tl n b m ((S k) + (tl.getD ((8 * (b ||| (2 ^ k))) + k) 0)) (k + 1) := by
            show (if _ then _ else _) = _
            rw [if_neg c, if_pos hb1, if_neg c2]
          rw [e]
          obtain ⟨a1, a2, a3⟩ := ih ((S k) + (tl.getD ((8 * (b ||| (2 ^ k))) + k) 0)) (k + 1) (by omega) (by omega)
          refine ⟨?_, by omega, fun p b1 b2 b3 => ?_⟩
          · rcases a1 with a1 | ⟨p, p1, p2, p3, p4⟩
            · exact Or.inr ⟨k, Nat.le_refl k, by omega, hb, a1⟩
            · exact Or.inr ⟨p, by omega, p2, p3, p4⟩
          · by_cases ep : p = k
            · rw [ep]; exact a2
            · exact a3 p (by omega) b2 b3
      · have hb1 : ¬ (nI ((b >>> k) % 2) ≠ (1 : Int32)) := by rw [hb]; decide
        have e : mtG S tl n b (m + 1) le k = mtG S tl n b m le (k + 1) := by
          show (if _ then _ else _) = _
          rw [if_neg c, if_neg hb1]
        rw [e]
        obtain ⟨a1, a2, a3⟩ := ih le (k + 1) (by omega) (by omega)
        refine ⟨?_, a2, fun p b1 b2 b3 => ?_⟩
        · rcases a1 with a1 | ⟨p, p1, p2, p3, p4⟩
          · exact Or.inl a1
          · exact Or.inr ⟨p, by omega, p2, p3, p4⟩
        · by_cases ep : p = k
          · rw [ep] at b3; omega
          · exact a3 p (by omega) b2 b3
theorem bits_all : ∀ (n b : Nat), (∀ k, k < n → (b >>> k) % 2 = 1) → 2 ^ n ≤ b + 1 := by
  intro n
  induction n with
  | zero => intro b _; exact Nat.le_add_left 1 b
  | succ n ih =>
    intro b h
    have h0 := h 0 (Nat.succ_pos n)
    rw [Nat.shiftRight_zero] at h0
    have h1 := ih (b / 2) (fun k hk => by
      have := h (k + 1) (by omega)
      rw [Nat.add_comm k 1, Nat.shiftRight_add] at this
      exact this)
    rw [Nat.pow_succ]
    omega
theorem bit_ex {n b : Nat} (hb : b < 2 ^ n) (h : b + 1 ≠ 2 ^ n) : ∃ p, p < n ∧ (b >>> p) % 2 = 0 := by
  apply Decidable.byContradiction
  intro q
  have := bits_all n b (fun k hk => by
    rcases bit01 b k with e | e
    · exact absurd ⟨k, hk, e⟩ q
    · exact e)
  omega
theorem or_lt {n b k : Nat} (hb : b < 2 ^ n) (hk : k < n) : b ||| 2 ^ k < 2 ^ n := Nat.or_lt_two_pow hb (Nat.pow_lt_pow_right (by decide) hk)
theorem sbit_or (b k j : Nat) : ((b ||| 2 ^ k) >>> j) % 2 = if j = k then 1 else (b >>> j) % 2 := by
  have e1 : ∀ x i : Nat, (x >>> i) % 2 = (x.testBit i).toNat := fun x i => by
    rw [Nat.toNat_testBit, Nat.shiftRight_eq_div_pow]
  rw [e1, e1, Nat.testBit_or, Nat.testBit_two_pow]
  by_cases h : j = k
  · rw [if_pos h, h]; simp
  · rw [if_neg h]
    have : (decide (k = j)) = false := decide_eq_false (fun q => h q.symm)
    rw [this, Bool.or_false]
theorem or_gt {b k : Nat} (h : (b >>> k) % 2 = 0) : b + 1 ≤ b ||| 2 ^ k := by
  have h1 : b ≤ b ||| 2 ^ k := Nat.left_le_or
  have h2 : b ||| 2 ^ k ≠ b := fun q => by
    have := sbit_or b k k
    rw [q, if_pos rfl] at this
    omega
  omega
/-- the table's rows from b on are as they should be -/
noncomputable def mBd (tl : List Int32) (n b0 : Nat) : Prop := ∀ b, b0 ≤ b → b < 2 ^ n → ∀ l, l < n → (b >>> l) % 2 = 1 → 0 ≤ (tl.getD (8 * b + l) 0).toInt ∧ (tl.getD (8 * b + l) 0).toInt ≤ 500 * ((2 ^ n - 1 - b : Nat) : Int)
theorem tf_rng {S : Nat → Int32} {tl : List Int32} {n b : Nat} (hn : n ≤ 8) (hb : b < 2 ^ n) (hS : ∀ k, k < n → 0 ≤ (S k).toInt ∧ (S k).toInt ≤ 500) (hB : mBd tl n (b + 1)) (hne : b + 1 ≠ 2 ^ n) : (∃ p, p < n ∧ (b >>> p) % 2 = 0 ∧ mtG S tl n b (n - 0 + 1) 1000000 0 = S p + tl.getD (8 * (b ||| (2 ^ p)) + p) 0) ∧ 0 ≤ (mtG S tl n b (n - 0 + 1) 1000000 0).toInt ∧ (mtG S tl n b (n - 0 + 1) 1000000 0).toInt ≤ 500 * ((2 ^ n - 1 - b : Nat) : Int) := by
  have p8 : 2 ^ n ≤ 256 := Nat.pow_le_pow_right (n := 2) (by decide) hn
  have cand : ∀ p, p < n → (b >>> p) % 2 = 0 → 0 ≤ (S p + tl.getD (8 * (b ||| (2 ^ p)) + p) 0).toInt ∧ (S p + tl.getD (8 * (b ||| (2 ^ p)) + p) 0).toInt ≤ 500 * ((2 ^ n - 1 - b : Nat) : Int) := by
    intro p hp h0
    have h1 := or_gt h0
    have h2 := or_lt hb hp
    have h3 := hB (b ||| 2 ^ p) h1 h2 p hp (by rw [sbit_or, if_pos rfl])
    have h4 := hS p hp
    generalize tl.getD (8 * (b ||| (2 ^ p)) + p) 0 = x at h3 ⊢
    have e : (S p + x).toInt = (S p).toInt + x.toInt := e_add (by omega) (by omega)
    omega
  obtain ⟨p, hp, hp0⟩ := bit_ex hb hne
  obtain ⟨a1, a2, a3⟩ := mtG_min (S := S) (tl := tl) (b := b) hn (n - 0 + 1) 1000000 0 (Nat.zero_le n) (by omega)
  have c1 := a3 p (Nat.zero_le p) hp hp0
  have c2 := cand p hp hp0
  have z : (1000000 : Int32).toInt = 1000000 := rfl
  rcases a1 with a1 | ⟨q, _, q2, q3, q4⟩
  · rw [a1, z] at c1; omega
  · have c3 := cand q q2 q3
    rw [← q4] at c3
    exact ⟨⟨q, q2, q3, q4⟩, c3⟩
theorem ltI_o {sv sq : List Int32} {n b : Nat} (hn : n ≤ 8) : ∀ (m l : Nat) (tl : List Int32), l ≤ n → n - l < m → ∀ q, (q < 8 * b + l ∨ 8 * b + 8 ≤ q) → (mltI sv sq n b m l tl).getD q 0 = tl.getD q 0 := by
  intro m
  induction m with
  | zero => intro l tl h1 h2; omega
  | succ m ih =>
    intro l tl h1 h2 q hq
    have q1 := nI_toInt (n := n) (by omega)
    have q2 := nI_toInt (n := l) (by omega)
    unfold mltI
    split
    · rfl
    · rename_i c
      split
      · exact ih (l + 1) tl (by omega) (by omega) q (by omega)
      · rw [ih (l + 1) _ (by omega) (by omega) q (by omega), zset_get, if_neg (by omega)]
theorem ltI_b {sv sq : List Int32} {n b : Nat} (hn : n ≤ 8) (hb : b < 2 ^ n) (hS : ∀ l k, l < n → k < n → 0 ≤ (mTsS sv sq l k).toInt ∧ (mTsS sv sq l k).toInt ≤ 500) : ∀ (m l : Nat) (tl : List Int32), l ≤ n → n - l < m → mBd tl n (b + 1) → (∀ i, i < l → (b >>> i) % 2 = 1 → 0 ≤ (tl.getD (8 * b + i) 0).toInt ∧ (tl.getD (8 * b + i) 0).toInt ≤ 500 * ((2 ^ n - 1 - b : Nat) : Int)) → mBd (mltI sv sq n b m l tl) n b := by
  intro m
  induction m with
  | zero => intro l tl h1 h2; omega
  | succ m ih =>
    intro l tl h1 h2 hB hl
    have q1 := nI_toInt (n := n) (by omega)
    have q2 := nI_toInt (n := l) (by omega)
    unfold mltI
    split
    · rename_i c
      intro b2 h3 h4 i hi hbit
      by_cases e : b2 = b
      · rw [e] at hbit ⊢; exact hl i (by omega) hbit
      · exact hB b2 (by omega) h4 i hi hbit
    · rename_i c
      split
      · rename_i c2
        refine ih (l + 1) tl (by omega) (by omega) hB (fun i hi hbit => ?_)
        by_cases e : i = l
        · rw [e] at hbit
          rw [hbit] at c2
          exact absurd rfl c2
        · exact hl i (by omega) hbit
      · refine ih (l + 1) _ (by omega) (by omega) (fun b2 h3 h4 i hi hbit => ?_) (fun i hi hbit => ?_)
        · rw [zset_get, if_neg (by omega)]
          exact hB b2 h3 h4 i hi hbit
        · rw [zset_get]
          by_cases e : i = l
          · rw [if_pos (by omega)]
            by_cases e2 : b + 1 = 2 ^ n
            · rw [if_pos e2]; exact ⟨by decide, by have : (0 : Int32).toInt = 0 := rfl; omega⟩
            · rw [if_neg e2, mtG_S]
              exact (tf_rng hn hb (fun k hk => hS l k (by omega) hk) hB e2).2
          · rw [if_neg (by omega)]; exact hl i (by omega) hbit
theorem ltO_b {sv sq : List Int32} {n : Nat} (hn : n ≤ 8) (hS : ∀ l k, l < n → k < n → 0 ≤ (mTsS sv sq l k).toInt ∧ (mTsS sv sq l k).toInt ≤ 500) : ∀ (m b : Nat) (tl : List Int32), b < 2 ^ n → b < m → mBd tl n (b + 1) → mBd (mltO sv sq n m b tl) n 1 := by
  intro m
  induction m with
  | zero => intro b tl h1 h2; omega
  | succ m ih =>
    intro b tl h1 h2 hB
    have p8 : 2 ^ n ≤ 256 := Nat.pow_le_pow_right (n := 2) (by decide) hn
    have q2 := nI_toInt (n := b) (by omega)
    unfold mltO
    split
    · rename_i c
      have e : b = 0 := by omega
      subst e
      exact hB
    · rename_i c
      rw [zlet_eq rfl]
      have h3 := ltI_b hn h1 hS ((n - 0) + 1) 0 tl (Nat.zero_le n) (by omega) hB (fun i hi => absurd hi (Nat.not_lt_zero i))
      refine ih (b - 1) _ (by omega) (by omega) ?_
      rw [show b - 1 + 1 = b by omega]
      exact h3
theorem lto_b {sv sq tl : List Int32} {n : Nat} (hn : n ≤ 8) (hS : ∀ l k, l < n → k < n → 0 ≤ (mTsS sv sq l k).toInt ∧ (mTsS sv sq l k).toInt ≤ 500) : mBd (mLto sv sq n tl) n 1 := by
  have pp : 1 ≤ 2 ^ n := Nat.one_le_two_pow
  have e : mLto sv sq n tl = mltO sv sq n ((2 ^ n - 1) + 1) (2 ^ n - 1) tl := rfl
  rw [e]
  exact ltO_b hn hS _ _ _ (by omega) (by omega) (fun b h1 h2 => by omega)
/-- how many are behind -/
noncomputable def bCn (b : Nat) : Nat → Nat
  | 0 => 0
  | n + 1 => bCn b n + (b >>> n) % 2
theorem bCn_or {b k : Nat} (h : (b >>> k) % 2 = 0) : ∀ n, bCn (b ||| 2 ^ k) n = bCn b n + (if k < n then 1 else 0) := by
  intro n
  induction n with
  | zero => rfl
  | succ n ih =>
    show bCn (b ||| 2 ^ k) n + ((b ||| 2 ^ k) >>> n) % 2 = (bCn b n + (b >>> n) % 2) + _
    rw [ih, sbit_or]
    by_cases e : n = k
    · subst e
      rw [if_pos rfl, if_neg (by omega), if_pos (by omega), h]
    · rw [if_neg e]
      by_cases e2 : k < n
      · rw [if_pos e2, if_pos (by omega)]; omega
      · rw [if_neg e2, if_neg (by omega)]; omega
theorem bCn_full : ∀ (n b : Nat), b + 1 = 2 ^ n → bCn b n = n := by
  intro n
  intro b hb
  have all : ∀ k, k < n → (b >>> k) % 2 = 1 := by
    intro k hk
    rw [Nat.shiftRight_eq_div_pow]
    have e : 2 ^ n = 2 ^ k * 2 ^ (n - k) := by rw [← Nat.pow_add]; congr 1; omega
    have e2 : 2 ^ (n - k) = 2 * 2 ^ (n - k - 1) := by rw [← Nat.pow_succ']; congr 1; omega
    have hp : 0 < 2 ^ k := Nat.two_pow_pos k
    have hq : 0 < 2 ^ (n - k - 1) := Nat.two_pow_pos _
    have e3 : b / 2 ^ k = 2 ^ (n - k) - 1 := by
      have : b = 2 ^ k * (2 ^ (n - k) - 1) + (2 ^ k - 1) := by
        rw [Nat.mul_sub, Nat.mul_one, ← e]
        have : 2 ^ k ≤ 2 ^ n := Nat.pow_le_pow_right (by decide) (by omega)
        omega
      rw [this, Nat.mul_add_div hp, Nat.div_eq_of_lt (by omega)]
      rfl
    rw [e3, e2]
    omega
  have gen : ∀ j, j ≤ n → bCn b j = j := by
    intro j
    induction j with
    | zero => intro _; rfl
    | succ j ih =>
      intro hj
      show bCn b j + (b >>> j) % 2 = j + 1
      rw [ih (by omega), all j (by omega)]
  exact gen n (Nat.le_refl n)
theorem sbit0 {b k : Nat} (h : nI ((b >>> k) % 2) ≠ (1 : Int32)) : (b >>> k) % 2 = 0 := by
  rcases bit01 b k with e | e
  · exact e
  · rw [e] at h
    exact absurd rfl h
theorem sbit1 {b k p : Nat} (h : nI ((b >>> k) % 2) = (1 : Int32)) (hp : (b >>> p) % 2 = 0) : k ≠ p := fun e => by
  rw [e, hp] at h
  exact absurd h (by decide)
set_option maxRecDepth 100000 in
set_option maxHeartbeats 4000000 in
theorem m_st0 {h : zH} {Q : zR → Prop} {n0 n2 n14 n15 n16 n17 n18 n19 n20 n21 n22 n23 n27 n28 n32 n33 n34 n35 n39 n52 : Int32} {n i : Nat} {sv sq nw kn tl : List Int32} (hM : zat h 162 = some (.inr (.inr (.inr (10, mO n0 n2 n14 n15 n16 n17 n18 n19 n20 n21 n22 n23 n27 n28 n32 n33 n34 n35 n39 n52))))) (hSv : zat h 172 = some (.inl (0, 12, sv))) (hSq : zat h 178 = some (.inl (0, 96, sq))) (hNw : zat h 188 = some (.inl (0, 6, nw))) (hTl : zat h 226 = some (.inl (0, 2048, tl))) (hKn : zat h 166 = some (.inl (0, 14, kn))) (hsp : n ≤ 8) (hsv : ∀ i, i < 6 → 1 ≤ (sv.getD i 0).toInt) (hkn : kn.getD 5 0 = nI n) (hiw : i < n) (kE : ∀ (h2 : zH), (wFr [162, 226] h h2) → (h2.length = h.length) → (zat h2 162 = some (.inr (.inr (.inr (10, mO (0 : Int32) n2 n14 n15 n16 n17 n18 n19 n20 n21 n22 n23 n27 n28 n32 n33 n34 n35 n39 n52))))) → (zat h2 226 = some (.inl (0, 2048, (mLto sv sq n tl)))) → (zat h2 172 = some (.inl (0, 12, sv))) → (zat h2 178 = some (.inl (0, 96, sq))) → (zat h2 188 = some (.inl (0, 6, nw))) → (zat h2 166 = some (.inl (0, 14, kn))) → wq 273 26 [(0, .ref 162), (1, .int (nI i)), (2, .int 0), (3, .int (-1)), (4, .int 0)] [] h2 0 0 Q) : wq 273 0 [(0, .ref 162), (1, .int (nI i))] [] h 0 0 Q := by
  have qni := nI_toInt (n := i) (by omega)
  have qnn := nI_toInt (n := n) (by omega)
  have z0 : (0 : Int32).toInt = 0 := rfl
  have z1 : (1 : Int32).toInt = 1 := rfl
  have z5 : (5 : Int32).toInt = 5 := rfl
  have z6 : (6 : Int32).toInt = 6 := rfl
  have zm1 : (-1 : Int32).toInt = -1 := rfl
  have z3 : (3 : Int32).toInt = 3 := rfl
  have z2 : (2 : Int32).toInt = 2 := rfl
  have z20 : (20 : Int32).toInt = 20 := rfl
  refine wq_gos (f := 1) (pc2 := 2) (ls2 := [(0, .ref 162), (1, .int (nI i))]) (st2 := [.int 0, .ref 162]) (h2 := h) (dc2 := 0) (ds2 := 0) 2 rfl ?_
  refine wq_putf rfl hM rfl rfl rfl ?_
  intro hh1x e2x ff3x lh4x
  have e2x : zat hh1x 162 = some (.inr (.inr (.inr (10, mO (0 : Int32) n2 n14 n15 n16 n17 n18 n19 n20 n21 n22 n23 n27 n28 n32 n33 n34 n35 n39 n52)))) := e2x
  refine wq_gos (f := 1) (pc2 := 7) (ls2 := [(0, .ref 162), (1, .int (nI i))]) (st2 := [.int (nI i), .ref 162]) (h2 := hh1x) (dc2 := 0) (ds2 := 0) 2 rfl ?_
  refine wq_inlv (y2 := 209) (as := [.int (nI i)]) rfl rfl rfl e2x rfl ?_
  show wq 209 0 [(0, .ref 162), (1, .int (nI i))] [] hh1x 0 0 _
  refine wq_gos (f := 1) (pc2 := 1) (ls2 := [(0, .ref 162), (1, .int (nI i))]) (st2 := [.int (nI i)]) (h2 := hh1x) (dc2 := 0) (ds2 := 0) 1 rfl ?_
  try have q5x := nI_toInt (n := i) (by omega)
  refine wq_lt0f rfl rfl (by omega) ?_
  refine wq_gos (f := 1) (pc2 := 6) (ls2 := [(0, .ref 162), (1, .int (nI i))]) (st2 := [.ref 162, .int (nI i)]) (h2 := hh1x) (dc2 := 0) (ds2 := 0) 2 rfl ?_
  refine wq_getf rfl e2x rfl rfl ?_
  refine wq_gos (f := 1) (pc2 := 10) (ls2 := [(0, .ref 162), (1, .int (nI i))]) (st2 := [.int 5, .ref 166, .int (nI i)]) (h2 := hh1x) (dc2 := 0) (ds2 := 0) 1 rfl ?_
  have e6x := (ff3x.2 _ _ (wnc (by decide) wn0) hKn)
  have q7x : (5 : Int32).toInt = 5 := rfl
  refine wq_iald rfl e6x rfl rfl ?_
  refine wq_vi hkn ?_
  try have q8x := nI_toInt (n := n) (by omega)
  refine wq_ge2f rfl rfl (by omega) ?_
  refine wq_gos (f := 1) (pc2 := 19) (ls2 := [(0, .ref 162), (1, .int (nI i))]) (st2 := [.int 1]) (h2 := hh1x) (dc2 := 0) (ds2 := 0) 2 rfl ?_
  refine wq_ret rfl rfl ?_
  show wq 273 10 [(0, .ref 162), (1, .int (nI i))] [.int 1] hh1x 0 0 _
  refine wq_gos (f := 1) (pc2 := 16) (ls2 := [(0, .ref 162), (1, .int (nI i))]) (st2 := [.ref 162]) (h2 := hh1x) (dc2 := 0) (ds2 := 0) 2 rfl ?_
  have e9x := (ff3x.2 _ _ (wnc (by decide) wn0) hSv)
  have e10x := (ff3x.2 _ _ (wnc (by decide) wn0) hSq)
  have e11x := (ff3x.2 _ _ (wnc (by decide) wn0) hNw)
  have e12x := (ff3x.2 _ _ (wnc (by decide) wn0) hTl)
  refine wq_inlv (y2 := 271) (as := []) rfl rfl rfl e2x rfl (wq_mono (m_lto e2x e9x e10x e11x e12x e6x (by first | assumption | omega | decide | solve_by_elim) (by first | assumption | omega | decide | solve_by_elim) (by first | assumption | omega | decide | solve_by_elim)) ?_)
  rintro _ ⟨h813x, rfl, f813x, l813x, c013x⟩
  show wq 273 19 [(0, .ref 162), (1, .int (nI i))] [] h813x 0 0 _
  obtain ⟨v14x, hv15x⟩ : ∃ x, x = (mLto sv sq n tl) := ⟨_, rfl⟩
  try rw [← hv15x] at c013x
  try rw [← hv15x]
  refine wq_gos (f := 1) (pc2 := 26) (ls2 := [(4, .int 0), (3, .int (-1)), (2, .int 0), (0, .ref 162), (1, .int (nI i))]) (st2 := []) (h2 := h813x) (dc2 := 0) (ds2 := 0) 6 rfl ?_
  have e16x := (f813x.2 _ _ (wnc (by decide) wn0) e2x)
  have e17x := (f813x.2 _ _ (wnc (by decide) wn0) e9x)
  have e18x := (f813x.2 _ _ (wnc (by decide) wn0) e10x)
  have e19x := (f813x.2 _ _ (wnc (by decide) wn0) e11x)
  have e20x := (f813x.2 _ _ (wnc (by decide) wn0) e6x)
  subst hv15x
  refine wq_ls [(0, .ref 162), (1, .int (nI i)), (2, .int 0), (3, .int (-1)), (4, .int 0)] (show ([0, 1, 2, 3, 4] : List Nat).Nodup by decide) ⟨rfl, rfl, rfl, rfl, rfl, trivial⟩ ?_
  exact kE h813x (wFr_tr (wFr_sub ff3x (by simp)) (wFr_sub f813x (by simp))) (by omega) e16x c013x e17x e18x e19x e20x
noncomputable def mstIN (sv sq nw tl : List Int32) (b : Nat) (le : Int32) : Nat → Nat → Nat
  | 0, k => k
  | m + 1, k => (if (nI ((b >>> k) % 2)) = (1 : Int32) then (mstIN sv sq nw tl b le m (k + 1)) else (if ((mTsN sv sq nw k) + (tl.getD ((8 * (b ||| (2 ^ k))) + k) 0)) = le then k else (mstIN sv sq nw tl b le m (k + 1))))
set_option maxRecDepth 100000 in
set_option maxHeartbeats 4000000 in
theorem m_stIN {n0 n2 n14 n15 n16 n17 n18 n19 n20 n21 n22 n23 n27 n28 n32 n33 n34 n35 n39 n52 : Int32} {n b i c p9 : Nat} {le : Int32} {sv sq nw tl : List Int32} (hsp : n ≤ 8) (hb : b < 2 ^ n) (hsv : ∀ i, i < 6 → 1 ≤ (sv.getD i 0).toInt) (hp9 : p9 < n ∧ (b >>> p9) % 2 = 0) (hsum : (mTsN sv sq nw p9) + tl.getD (8 * (b ||| (2 ^ p9)) + p9) 0 = le) {dc ds : Nat} {Q : zR → Prop} : ∀ (m : Nat) (k : Nat) (h : zH) , (zat h 162 = some (.inr (.inr (.inr (10, mO n0 n2 n14 n15 n16 n17 n18 n19 n20 n21 n22 n23 n27 n28 n32 n33 n34 n35 n39 n52))))) → (zat h 172 = some (.inl (0, 12, sv))) → (zat h 178 = some (.inl (0, 96, sq))) → (zat h 188 = some (.inl (0, 6, nw))) → (zat h 226 = some (.inl (0, 2048, tl))) → (k ≤ p9) → (n - k) < m → ((((b >>> (((mstIN sv sq nw tl b le m k)))) % 2 = 0)) → (((((mstIN sv sq nw tl b le m k))) ≤ p9)) → wq 273 89 [(0, .ref 162), (1, .int (nI i)), (2, .int (nI b)), (3, .int (-1)), (4, .int (nI c)), (5, .int le), (6, .int (nI ((mstIN sv sq nw tl b le m k))))] [] h dc ds Q) → wq 273 43 [(0, .ref 162), (1, .int (nI i)), (2, .int (nI b)), (3, .int (-1)), (4, .int (nI c)), (5, .int le), (6, .int (nI k))] [] h dc ds Q := by
  intro m
  induction m with
  | zero => intro k h hM hSv hSq hNw hTl hk hms kk; omega
  | succ m ih =>
    intro k h hM hSv hSq hNw hTl hk hms kk
    have qnk := nI_toInt (n := k) (by omega)
    have qnn := nI_toInt (n := n) (by omega)
    have hp8 := pow8 hsp
    have hsh := shr_le b k
    have hob := or_lt hb (show k < n by omega)
    have hsm := Nat.mod_lt (b >>> k) (show 0 < 2 by decide)
    refine wq_gos (f := 1) (pc2 := 47) (ls2 := [(0, .ref 162), (1, .int (nI i)), (2, .int (nI b)), (3, .int (-1)), (4, .int (nI c)), (5, .int le), (6, .int (nI k))]) (st2 := [.int ((nI b) >>> ((nI k) &&& 31))]) (h2 := h) (dc2 := dc) (ds2 := ds) 3 rfl ?_
    refine wq_vi (show ((nI b) >>> ((nI k) &&& 31)) = nI (b >>> k) from e_shr (b := b) (k := k) (by omega) (by omega)) ?_
    refine wq_gos (f := 1) (pc2 := 49) (ls2 := [(0, .ref 162), (1, .int (nI i)), (2, .int (nI b)), (3, .int (-1)), (4, .int (nI c)), (5, .int le), (6, .int (nI k))]) (st2 := [.int ((nI (b >>> k)) &&& (1 : Int32))]) (h2 := h) (dc2 := dc) (ds2 := ds) 2 rfl ?_
    refine wq_vi (show ((nI (b >>> k)) &&& (1 : Int32)) = nI ((b >>> k) % 2) from e_and1 (b >>> k)) ?_
    refine wq_gos (f := 1) (pc2 := 50) (ls2 := [(0, .ref 162), (1, .int (nI i)), (2, .int (nI b)), (3, .int (-1)), (4, .int (nI c)), (5, .int le), (6, .int (nI k))]) (st2 := [.int 1, .int (nI ((b >>> k) % 2))]) (h2 := h) (dc2 := dc) (ds2 := ds) 1 rfl ?_
    try have q1x := nI_toInt (n := ((b >>> k) % 2)) (by omega)
    have q2x : (1 : Int32).toInt = 1 := rfl
    refine wq_eq2 rfl rfl (fun b3x => ?_) (fun b3x => ?_)
    · have q4x : (nI ((b >>> k) % 2)).toInt = 1 := congrArg Int32.toInt b3x
      refine wq_gos (f := 1) (pc2 := 86) (ls2 := [(6, .int ((nI k) + 1)), (0, .ref 162), (1, .int (nI i)), (2, .int (nI b)), (3, .int (-1)), (4, .int (nI c)), (5, .int le)]) (st2 := []) (h2 := h) (dc2 := dc) (ds2 := ds) 1 rfl ?_
      rw [nI_1]
      refine wq_gos (f := 1) (pc2 := 43) (ls2 := [(6, .int (nI (k + 1))), (0, .ref 162), (1, .int (nI i)), (2, .int (nI b)), (3, .int (-1)), (4, .int (nI c)), (5, .int le)]) (st2 := []) (h2 := h) (dc2 := dc) (ds2 := ds) 1 rfl ?_
      try have q5x := nI_toInt (n := (k + 1)) (by omega)
      try have q6x := nI_toInt (n := i) (by omega)
      try have q7x := nI_toInt (n := b) (by omega)
      try have q8x := nI_toInt (n := c) (by omega)
      have hne : k ≠ p9 := sbit1 b3x hp9.2
      have hx : (mstIN sv sq nw tl b le (m + 1) k) = (mstIN sv sq nw tl b le m (k + 1)) := by show (if _ then _ else _) = _; rw [if_pos b3x]
      rw [hx] at kk
      refine wq_ls [(0, .ref 162), (1, .int (nI i)), (2, .int (nI b)), (3, .int (-1)), (4, .int (nI c)), (5, .int le), (6, .int (nI (k + 1)))] (show ([0, 1, 2, 3, 4, 5, 6] : List Nat).Nodup by decide) ⟨rfl, rfl, rfl, rfl, rfl, rfl, rfl, trivial⟩ ?_
      exact ih (k + 1) h hM hSv hSq hNw hTl (Nat.lt_of_le_of_ne hk hne) (by omega) kk
    · have q9x : (nI ((b >>> k) % 2)).toInt ≠ 1 := fun q => b3x (Int32.toInt_inj.mp q)
      refine wq_gos (f := 1) (pc2 := 57) (ls2 := [(0, .ref 162), (1, .int (nI i)), (2, .int (nI b)), (3, .int (-1)), (4, .int (nI c)), (5, .int le), (6, .int (nI k))]) (st2 := [.int (nI k), .int (-1), .ref 162]) (h2 := h) (dc2 := dc) (ds2 := ds) 3 rfl ?_
      have q10x : (-1 : Int32).toInt = -1 := rfl
      try have q11x := nI_toInt (n := k) (by omega)
      refine wq_inlv (y2 := 270) (as := [.int (-1), .int (nI k)]) rfl rfl rfl hM rfl (wq_mono (m_tsN hM hSv hSq hNw (by first | assumption | omega | decide | solve_by_elim) (by first | assumption | omega | decide | solve_by_elim)) ?_)
      rintro _ rfl
      show wq 273 60 [(0, .ref 162), (1, .int (nI i)), (2, .int (nI b)), (3, .int (-1)), (4, .int (nI c)), (5, .int le), (6, .int (nI k))] [.int (mTsN sv sq nw k)] h dc ds _
      refine wq_gos (f := 1) (pc2 := 61) (ls2 := [(0, .ref 162), (1, .int (nI i)), (2, .int (nI b)), (3, .int (-1)), (4, .int (nI c)), (5, .int le), (6, .int (nI k))]) (st2 := [.ref 162, .int (mTsN sv sq nw k)]) (h2 := h) (dc2 := dc) (ds2 := ds) 1 rfl ?_
      refine wq_getf rfl hM rfl rfl ?_
      refine wq_gos (f := 1) (pc2 := 71) (ls2 := [(0, .ref 162), (1, .int (nI i)), (2, .int (nI b)), (3, .int (-1)), (4, .int (nI c)), (5, .int le), (6, .int (nI k))]) (st2 := [.int ((1 : Int32) <<< ((nI k) &&& 31)), .int (nI b), .int 8, .ref 226, .int (mTsN sv sq nw k)]) (h2 := h) (dc2 := dc) (ds2 := ds) 5 rfl ?_
      refine wq_vi (show ((1 : Int32) <<< ((nI k) &&& 31)) = nI (2 ^ k) from e_shl (k := k) (by omega)) ?_
      refine wq_gos (f := 1) (pc2 := 72) (ls2 := [(0, .ref 162), (1, .int (nI i)), (2, .int (nI b)), (3, .int (-1)), (4, .int (nI c)), (5, .int le), (6, .int (nI k))]) (st2 := [.int ((nI b) ||| (nI (2 ^ k))), .int 8, .ref 226, .int (mTsN sv sq nw k)]) (h2 := h) (dc2 := dc) (ds2 := ds) 1 rfl ?_
      refine wq_vi (show ((nI b) ||| (nI (2 ^ k))) = nI (b ||| (2 ^ k)) from e_or b (2 ^ k)) ?_
      refine wq_gos (f := 1) (pc2 := 73) (ls2 := [(0, .ref 162), (1, .int (nI i)), (2, .int (nI b)), (3, .int (-1)), (4, .int (nI c)), (5, .int le), (6, .int (nI k))]) (st2 := [.int ((8 : Int32) * (nI (b ||| (2 ^ k)))), .ref 226, .int (mTsN sv sq nw k)]) (h2 := h) (dc2 := dc) (ds2 := ds) 1 rfl ?_
      refine wq_vi (show (8 : Int32) * (nI (b ||| (2 ^ k))) = nI (8 * (b ||| (2 ^ k))) from e_nmul 8 (b ||| (2 ^ k))) ?_
      refine wq_gos (f := 1) (pc2 := 76) (ls2 := [(0, .ref 162), (1, .int (nI i)), (2, .int (nI b)), (3, .int (-1)), (4, .int (nI c)), (5, .int le), (6, .int (nI k))]) (st2 := [.int ((nI (8 * (b ||| (2 ^ k)))) + (nI k)), .ref 226, .int (mTsN sv sq nw k)]) (h2 := h) (dc2 := dc) (ds2 := ds) 2 rfl ?_
      refine wq_vi (show (nI (8 * (b ||| (2 ^ k)))) + (nI k) = nI ((8 * (b ||| (2 ^ k))) + k) from nI_add (8 * (b ||| (2 ^ k))) k) ?_
      try have q13x := nI_toInt (n := ((8 * (b ||| (2 ^ k))) + k)) (by omega)
      refine wq_ialdn rfl hTl (by first | omega | exact zin_t (by omega) (by omega)) (by decide) rfl ?_
      refine wq_gos (f := 1) (pc2 := 80) (ls2 := [(0, .ref 162), (1, .int (nI i)), (2, .int (nI b)), (3, .int (-1)), (4, .int (nI c)), (5, .int le), (6, .int (nI k))]) (st2 := [.int le, .int ((mTsN sv sq nw k) + (tl.getD ((8 * (b ||| (2 ^ k))) + k) 0))]) (h2 := h) (dc2 := dc) (ds2 := ds) 2 rfl ?_
      try have q14x : (((mTsN sv sq nw k) + (tl.getD ((8 * (b ||| (2 ^ k))) + k) 0))).toInt = (mTsN sv sq nw k).toInt + (tl.getD ((8 * (b ||| (2 ^ k))) + k) 0).toInt := e_add (by omega) (by omega)
      refine wq_eq2 rfl rfl (fun b15x => ?_) (fun b15x => ?_)
      · have q16x : ((mTsN sv sq nw k) + (tl.getD ((8 * (b ||| (2 ^ k))) + k) 0)).toInt = le.toInt := congrArg Int32.toInt b15x
        have hx : (mstIN sv sq nw tl b le (m + 1) k) = k := by show (if _ then _ else _) = _; rw [if_neg b3x, if_pos b15x]
        rw [hx] at kk
        refine wq_ls [(0, .ref 162), (1, .int (nI i)), (2, .int (nI b)), (3, .int (-1)), (4, .int (nI c)), (5, .int le), (6, .int (nI k))] (show ([0, 1, 2, 3, 4, 5, 6] : List Nat).Nodup by decide) ⟨rfl, rfl, rfl, rfl, rfl, rfl, rfl, trivial⟩ ?_
        exact kk (sbit0 b3x) hk
      · have q17x : ((mTsN sv sq nw k) + (tl.getD ((8 * (b ||| (2 ^ k))) + k) 0)).toInt ≠ le.toInt := fun q => b15x (Int32.toInt_inj.mp q)
        refine wq_gos (f := 1) (pc2 := 86) (ls2 := [(6, .int ((nI k) + 1)), (0, .ref 162), (1, .int (nI i)), (2, .int (nI b)), (3, .int (-1)), (4, .int (nI c)), (5, .int le)]) (st2 := []) (h2 := h) (dc2 := dc) (ds2 := ds) 1 rfl ?_
        rw [nI_1]
        refine wq_gos (f := 1) (pc2 := 43) (ls2 := [(6, .int (nI (k + 1))), (0, .ref 162), (1, .int (nI i)), (2, .int (nI b)), (3, .int (-1)), (4, .int (nI c)), (5, .int le)]) (st2 := []) (h2 := h) (dc2 := dc) (ds2 := ds) 1 rfl ?_
        try have q18x := nI_toInt (n := (k + 1)) (by omega)
        try have q19x := nI_toInt (n := i) (by omega)
        try have q20x := nI_toInt (n := b) (by omega)
        try have q21x := nI_toInt (n := c) (by omega)
        have hne : k ≠ p9 := (fun e => b15x (by rw [e]; exact hsum))
        have hx : (mstIN sv sq nw tl b le (m + 1) k) = (mstIN sv sq nw tl b le m (k + 1)) := by show (if _ then _ else _) = _; rw [if_neg b3x, if_neg b15x]
        rw [hx] at kk
        refine wq_ls [(0, .ref 162), (1, .int (nI i)), (2, .int (nI b)), (3, .int (-1)), (4, .int (nI c)), (5, .int le), (6, .int (nI (k + 1)))] (show ([0, 1, 2, 3, 4, 5, 6] : List Nat).Nodup by decide) ⟨rfl, rfl, rfl, rfl, rfl, rfl, rfl, trivial⟩ ?_
        exact ih (k + 1) h hM hSv hSq hNw hTl (Nat.lt_of_le_of_ne hk hne) (by omega) kk
set_option maxRecDepth 100000 in
set_option maxHeartbeats 4000000 in
theorem m_stAN {h : zH} {Q : zR → Prop} {dc ds : Nat} {n0 n2 n14 n15 n16 n17 n18 n19 n20 n21 n22 n23 n27 n28 n32 n33 n34 n35 n39 n52 : Int32} {n b i c p9 : Nat} {sv sq nw tl kn : List Int32} (hM : zat h 162 = some (.inr (.inr (.inr (10, mO n0 n2 n14 n15 n16 n17 n18 n19 n20 n21 n22 n23 n27 n28 n32 n33 n34 n35 n39 n52))))) (hSv : zat h 172 = some (.inl (0, 12, sv))) (hSq : zat h 178 = some (.inl (0, 96, sq))) (hNw : zat h 188 = some (.inl (0, 6, nw))) (hTl : zat h 226 = some (.inl (0, 2048, tl))) (hKn : zat h 166 = some (.inl (0, 14, kn))) (hsp : n ≤ 8) (hb : b < 2 ^ n) (hsv : ∀ i, i < 6 → 1 ≤ (sv.getD i 0).toInt) (hp9 : p9 < n ∧ (b >>> p9) % 2 = 0) (hsum : (mTsN sv sq nw p9) + tl.getD (8 * (b ||| (2 ^ p9)) + p9) 0 = (if b + 1 = 2 ^ n then 0 else (mtfNF sv sq nw tl n b (n - 0 + 1) 1000000 0))) (hkn : kn.getD 5 0 = nI n) (hci : c ≤ i ∧ i < n) (kE : ∀ (k2 : Nat), ((b >>> k2) % 2 = 0) → (k2 ≤ p9) → wq 273 26 [(0, .ref 162), (1, .int (nI i)), (2, .int (nI (b ||| (2 ^ k2)))), (3, .int (nI k2)), (4, .int (nI (c + 1)))] [] h dc ds Q) : wq 273 26 [(0, .ref 162), (1, .int (nI i)), (2, .int (nI b)), (3, .int (-1)), (4, .int (nI c))] [] h dc ds Q := by
  have qni := nI_toInt (n := i) (by omega)
  have qnc := nI_toInt (n := c) (by omega)
  have qnn := nI_toInt (n := n) (by omega)
  refine wq_gos (f := 1) (pc2 := 29) (ls2 := [(0, .ref 162), (1, .int (nI i)), (2, .int (nI b)), (3, .int (-1)), (4, .int (nI c))]) (st2 := [.int (nI i), .int (nI c)]) (h2 := h) (dc2 := dc) (ds2 := ds) 2 rfl ?_
  try have q1x := nI_toInt (n := c) (by omega)
  try have q2x := nI_toInt (n := i) (by omega)
  refine wq_gt2f rfl rfl (by omega) ?_
  refine wq_gos (f := 1) (pc2 := 35) (ls2 := [(0, .ref 162), (1, .int (nI i)), (2, .int (nI b)), (3, .int (-1)), (4, .int (nI c))]) (st2 := [.int (-1), .int (nI b), .ref 162]) (h2 := h) (dc2 := dc) (ds2 := ds) 3 rfl ?_
  try have q3x := nI_toInt (n := b) (by omega)
  have q4x : (-1 : Int32).toInt = -1 := rfl
  refine wq_inlv (y2 := 269) (as := [.int (nI b), .int (-1)]) rfl rfl rfl hM rfl (wq_mono (m_tfN hM hSv hSq hNw hTl hKn hsp hb (by first | assumption | omega | decide | solve_by_elim) hkn) ?_)
  rintro _ rfl
  show wq 273 38 [(0, .ref 162), (1, .int (nI i)), (2, .int (nI b)), (3, .int (-1)), (4, .int (nI c))] [.int (if b + 1 = 2 ^ n then 0 else (mtfNF sv sq nw tl n b (n - 0 + 1) 1000000 0))] h dc ds _
  refine wq_gos (f := 1) (pc2 := 43) (ls2 := [(6, .int 0), (5, .int (if b + 1 = 2 ^ n then 0 else (mtfNF sv sq nw tl n b (n - 0 + 1) 1000000 0))), (0, .ref 162), (1, .int (nI i)), (2, .int (nI b)), (3, .int (-1)), (4, .int (nI c))]) (st2 := []) (h2 := h) (dc2 := dc) (ds2 := ds) 3 rfl ?_
  refine wq_ls [(0, .ref 162), (1, .int (nI i)), (2, .int (nI b)), (3, .int (-1)), (4, .int (nI c)), (5, .int (if b + 1 = 2 ^ n then 0 else (mtfNF sv sq nw tl n b (n - 0 + 1) 1000000 0))), (6, .int (nI 0))] (show ([0, 1, 2, 3, 4, 5, 6] : List Nat).Nodup by decide) ⟨rfl, rfl, rfl, rfl, rfl, rfl, rfl, trivial⟩ ?_
  refine m_stIN hsp hb (by first | assumption | omega | decide | solve_by_elim) (by first | assumption | omega | decide | solve_by_elim) (by first | assumption | omega | decide | solve_by_elim) ((n - 0) + 1) 0 h hM hSv hSq hNw hTl (Nat.zero_le p9) (by omega) ?_
  intro p06x p16x
  obtain ⟨v7x, hv8x⟩ : ∃ x, x = (mstIN sv sq nw tl b (if b + 1 = 2 ^ n then 0 else (mtfNF sv sq nw tl n b (n - 0 + 1) 1000000 0)) ((n - 0) + 1) 0) := ⟨_, rfl⟩
  try rw [← hv8x] at p06x
  try rw [← hv8x] at p16x
  try rw [← hv8x]
  show wq 273 89 [(0, .ref 162), (1, .int (nI i)), (2, .int (nI b)), (3, .int (-1)), (4, .int (nI c)), (5, .int (if b + 1 = 2 ^ n then 0 else (mtfNF sv sq nw tl n b (n - 0 + 1) 1000000 0))), (6, .int (nI (v7x)))] [] h dc ds _
  refine wq_gos (f := 1) (pc2 := 94) (ls2 := [(0, .ref 162), (1, .int (nI i)), (2, .int (nI b)), (3, .int (-1)), (4, .int (nI c)), (5, .int (if b + 1 = 2 ^ n then 0 else (mtfNF sv sq nw tl n b (n - 0 + 1) 1000000 0))), (6, .int (nI (v7x)))]) (st2 := [.int ((1 : Int32) <<< ((nI (v7x)) &&& 31)), .int (nI b)]) (h2 := h) (dc2 := dc) (ds2 := ds) 4 rfl ?_
  refine wq_vi (show ((1 : Int32) <<< ((nI (v7x)) &&& 31)) = nI (2 ^ (v7x)) from e_shl (k := (v7x)) (by omega)) ?_
  refine wq_gos (f := 1) (pc2 := 95) (ls2 := [(0, .ref 162), (1, .int (nI i)), (2, .int (nI b)), (3, .int (-1)), (4, .int (nI c)), (5, .int (if b + 1 = 2 ^ n then 0 else (mtfNF sv sq nw tl n b (n - 0 + 1) 1000000 0))), (6, .int (nI (v7x)))]) (st2 := [.int ((nI b) ||| (nI (2 ^ (v7x))))]) (h2 := h) (dc2 := dc) (ds2 := ds) 1 rfl ?_
  refine wq_vi (show ((nI b) ||| (nI (2 ^ (v7x)))) = nI (b ||| (2 ^ (v7x))) from e_or b (2 ^ (v7x))) ?_
  refine wq_gos (f := 1) (pc2 := 102) (ls2 := [(4, .int ((nI c) + 1)), (3, .int (nI (v7x))), (2, .int (nI (b ||| (2 ^ (v7x))))), (0, .ref 162), (1, .int (nI i)), (5, .int (if b + 1 = 2 ^ n then 0 else (mtfNF sv sq nw tl n b (n - 0 + 1) 1000000 0))), (6, .int (nI (v7x)))]) (st2 := []) (h2 := h) (dc2 := dc) (ds2 := ds) 4 rfl ?_
  rw [nI_1]
  refine wq_gos (f := 1) (pc2 := 26) (ls2 := [(4, .int (nI (c + 1))), (3, .int (nI (v7x))), (2, .int (nI (b ||| (2 ^ (v7x))))), (0, .ref 162), (1, .int (nI i)), (5, .int (if b + 1 = 2 ^ n then 0 else (mtfNF sv sq nw tl n b (n - 0 + 1) 1000000 0))), (6, .int (nI (v7x)))]) (st2 := []) (h2 := h) (dc2 := dc) (ds2 := ds) 1 rfl ?_
  subst hv8x
  refine wq_ls [(0, .ref 162), (1, .int (nI i)), (2, .int (nI (b ||| (2 ^ ((mstIN sv sq nw tl b (if b + 1 = 2 ^ n then 0 else (mtfNF sv sq nw tl n b (n - 0 + 1) 1000000 0)) ((n - 0) + 1) 0)))))), (3, .int (nI ((mstIN sv sq nw tl b (if b + 1 = 2 ^ n then 0 else (mtfNF sv sq nw tl n b (n - 0 + 1) 1000000 0)) ((n - 0) + 1) 0)))), (4, .int (nI (c + 1)))] (show ([0, 1, 2, 3, 4] : List Nat).Nodup by decide) ⟨rfl, rfl, rfl, rfl, rfl, trivial⟩ ?_
  exact kE ((mstIN sv sq nw tl b (if b + 1 = 2 ^ n then 0 else (mtfNF sv sq nw tl n b (n - 0 + 1) 1000000 0)) ((n - 0) + 1) 0)) (by first | assumption | omega | decide | solve_by_elim) (by first | assumption | omega | decide | solve_by_elim)
noncomputable def mstIS (sv sq nw tl : List Int32) (b : Nat) (le : Int32) (l : Nat) : Nat → Nat → Nat
  | 0, k => k
  | m + 1, k => (if (nI ((b >>> k) % 2)) = (1 : Int32) then (mstIS sv sq nw tl b le l m (k + 1)) else (if ((mTsS sv sq l k) + (tl.getD ((8 * (b ||| (2 ^ k))) + k) 0)) = le then k else (mstIS sv sq nw tl b le l m (k + 1))))
set_option maxRecDepth 100000 in
set_option maxHeartbeats 4000000 in
theorem m_stIS {n0 n2 n14 n15 n16 n17 n18 n19 n20 n21 n22 n23 n27 n28 n32 n33 n34 n35 n39 n52 : Int32} {n b i c p9 : Nat} {le : Int32} {l : Nat} {sv sq nw tl : List Int32} (hsp : n ≤ 8) (hb : b < 2 ^ n) (hsv : ∀ i, i < 6 → 1 ≤ (sv.getD i 0).toInt) (hl8 : l < 8) (hp9 : p9 < n ∧ (b >>> p9) % 2 = 0) (hsum : (mTsS sv sq l p9) + tl.getD (8 * (b ||| (2 ^ p9)) + p9) 0 = le) {dc ds : Nat} {Q : zR → Prop} : ∀ (m : Nat) (k : Nat) (h : zH) , (zat h 162 = some (.inr (.inr (.inr (10, mO n0 n2 n14 n15 n16 n17 n18 n19 n20 n21 n22 n23 n27 n28 n32 n33 n34 n35 n39 n52))))) → (zat h 172 = some (.inl (0, 12, sv))) → (zat h 178 = some (.inl (0, 96, sq))) → (zat h 188 = some (.inl (0, 6, nw))) → (zat h 226 = some (.inl (0, 2048, tl))) → (k ≤ p9) → (n - k) < m → ((((b >>> (((mstIS sv sq nw tl b le l m k)))) % 2 = 0)) → (((((mstIS sv sq nw tl b le l m k))) ≤ p9)) → wq 273 89 [(0, .ref 162), (1, .int (nI i)), (2, .int (nI b)), (3, .int (nI l)), (4, .int (nI c)), (5, .int le), (6, .int (nI ((mstIS sv sq nw tl b le l m k))))] [] h dc ds Q) → wq 273 43 [(0, .ref 162), (1, .int (nI i)), (2, .int (nI b)), (3, .int (nI l)), (4, .int (nI c)), (5, .int le), (6, .int (nI k))] [] h dc ds Q := by
  intro m
  induction m with
  | zero => intro k h hM hSv hSq hNw hTl hk hms kk; omega
  | succ m ih =>
    intro k h hM hSv hSq hNw hTl hk hms kk
    have qnk := nI_toInt (n := k) (by omega)
    have qnn := nI_toInt (n := n) (by omega)
    have hp8 := pow8 hsp
    have hsh := shr_le b k
    have hob := or_lt hb (show k < n by omega)
    have hsm := Nat.mod_lt (b >>> k) (show 0 < 2 by decide)
    refine wq_gos (f := 1) (pc2 := 47) (ls2 := [(0, .ref 162), (1, .int (nI i)), (2, .int (nI b)), (3, .int (nI l)), (4, .int (nI c)), (5, .int le), (6, .int (nI k))]) (st2 := [.int ((nI b) >>> ((nI k) &&& 31))]) (h2 := h) (dc2 := dc) (ds2 := ds) 3 rfl ?_
    refine wq_vi (show ((nI b) >>> ((nI k) &&& 31)) = nI (b >>> k) from e_shr (b := b) (k := k) (by omega) (by omega)) ?_
    refine wq_gos (f := 1) (pc2 := 49) (ls2 := [(0, .ref 162), (1, .int (nI i)), (2, .int (nI b)), (3, .int (nI l)), (4, .int (nI c)), (5, .int le), (6, .int (nI k))]) (st2 := [.int ((nI (b >>> k)) &&& (1 : Int32))]) (h2 := h) (dc2 := dc) (ds2 := ds) 2 rfl ?_
    refine wq_vi (show ((nI (b >>> k)) &&& (1 : Int32)) = nI ((b >>> k) % 2) from e_and1 (b >>> k)) ?_
    refine wq_gos (f := 1) (pc2 := 50) (ls2 := [(0, .ref 162), (1, .int (nI i)), (2, .int (nI b)), (3, .int (nI l)), (4, .int (nI c)), (5, .int le), (6, .int (nI k))]) (st2 := [.int 1, .int (nI ((b >>> k) % 2))]) (h2 := h) (dc2 := dc) (ds2 := ds) 1 rfl ?_
    try have q1x := nI_toInt (n := ((b >>> k) % 2)) (by omega)
    have q2x : (1 : Int32).toInt = 1 := rfl
    refine wq_eq2 rfl rfl (fun b3x => ?_) (fun b3x => ?_)
    · have q4x : (nI ((b >>> k) % 2)).toInt = 1 := congrArg Int32.toInt b3x
      refine wq_gos (f := 1) (pc2 := 86) (ls2 := [(6, .int ((nI k) + 1)), (0, .ref 162), (1, .int (nI i)), (2, .int (nI b)), (3, .int (nI l)), (4, .int (nI c)), (5, .int le)]) (st2 := []) (h2 := h) (dc2 := dc) (ds2 := ds) 1 rfl ?_
      rw [nI_1]
      refine wq_gos (f := 1) (pc2 := 43) (ls2 := [(6, .int (nI (k + 1))), (0, .ref 162), (1, .int (nI i)), (2, .int (nI b)), (3, .int (nI l)), (4, .int (nI c)), (5, .int le)]) (st2 := []) (h2 := h) (dc2 := dc) (ds2 := ds) 1 rfl ?_
      try have q5x := nI_toInt (n := (k + 1)) (by omega)
      try have q6x := nI_toInt (n := i) (by omega)
      try have q7x := nI_toInt (n := b) (by omega)
      try have q8x := nI_toInt (n := l) (by omega)
      try have q9x := nI_toInt (n := c) (by omega)
      have hne : k ≠ p9 := sbit1 b3x hp9.2
      have hx : (mstIS sv sq nw tl b le l (m + 1) k) = (mstIS sv sq nw tl b le l m (k + 1)) := by show (if _ then _ else _) = _; rw [if_pos b3x]
      rw [hx] at kk
      refine wq_ls [(0, .ref 162), (1, .int (nI i)), (2, .int (nI b)), (3, .int (nI l)), (4, .int (nI c)), (5, .int le), (6, .int (nI (k + 1)))] (show ([0, 1, 2, 3, 4, 5, 6] : List Nat).Nodup by decide) ⟨rfl, rfl, rfl, rfl, rfl, rfl, rfl, trivial⟩ ?_
      exact ih (k + 1) h hM hSv hSq hNw hTl (Nat.lt_of_le_of_ne hk hne) (by omega) kk
    · have q10x : (nI ((b >>> k) % 2)).toInt ≠ 1 := fun q => b3x (Int32.toInt_inj.mp q)
      refine wq_gos (f := 1) (pc2 := 57) (ls2 := [(0, .ref 162), (1, .int (nI i)), (2, .int (nI b)), (3, .int (nI l)), (4, .int (nI c)), (5, .int le), (6, .int (nI k))]) (st2 := [.int (nI k), .int (nI l), .ref 162]) (h2 := h) (dc2 := dc) (ds2 := ds) 3 rfl ?_
      try have q11x := nI_toInt (n := l) (by omega)
      try have q12x := nI_toInt (n := k) (by omega)
      refine wq_inlv (y2 := 270) (as := [.int (nI l), .int (nI k)]) rfl rfl rfl hM rfl (wq_mono (m_tsS hM hSv hSq hNw (by first | assumption | omega | decide | solve_by_elim) (by first | assumption | omega | decide | solve_by_elim) (by first | assumption | omega | decide | solve_by_elim)) ?_)
      rintro _ rfl
      show wq 273 60 [(0, .ref 162), (1, .int (nI i)), (2, .int (nI b)), (3, .int (nI l)), (4, .int (nI c)), (5, .int le), (6, .int (nI k))] [.int (mTsS sv sq l k)] h dc ds _
      refine wq_gos (f := 1) (pc2 := 61) (ls2 := [(0, .ref 162), (1, .int (nI i)), (2, .int (nI b)), (3, .int (nI l)), (4, .int (nI c)), (5, .int le), (6, .int (nI k))]) (st2 := [.ref 162, .int (mTsS sv sq l k)]) (h2 := h) (dc2 := dc) (ds2 := ds) 1 rfl ?_
      refine wq_getf rfl hM rfl rfl ?_
      refine wq_gos (f := 1) (pc2 := 71) (ls2 := [(0, .ref 162), (1, .int (nI i)), (2, .int (nI b)), (3, .int (nI l)), (4, .int (nI c)), (5, .int le), (6, .int (nI k))]) (st2 := [.int ((1 : Int32) <<< ((nI k) &&& 31)), .int (nI b), .int 8, .ref 226, .int (mTsS sv sq l k)]) (h2 := h) (dc2 := dc) (ds2 := ds) 5 rfl ?_
      refine wq_vi (show ((1 : Int32) <<< ((nI k) &&& 31)) = nI (2 ^ k) from e_shl (k := k) (by omega)) ?_
      refine wq_gos (f := 1) (pc2 := 72) (ls2 := [(0, .ref 162), (1, .int (nI i)), (2, .int (nI b)), (3, .int (nI l)), (4, .int (nI c)), (5, .int le), (6, .int (nI k))]) (st2 := [.int ((nI b) ||| (nI (2 ^ k))), .int 8, .ref 226, .int (mTsS sv sq l k)]) (h2 := h) (dc2 := dc) (ds2 := ds) 1 rfl ?_
      refine wq_vi (show ((nI b) ||| (nI (2 ^ k))) = nI (b ||| (2 ^ k)) from e_or b (2 ^ k)) ?_
      refine wq_gos (f := 1) (pc2 := 73) (ls2 := [(0, .ref 162), (1, .int (nI i)), (2, .int (nI b)), (3, .int (nI l)), (4, .int (nI c)), (5, .int le), (6, .int (nI k))]) (st2 := [.int ((8 : Int32) * (nI (b ||| (2 ^ k)))), .ref 226, .int (mTsS sv sq l k)]) (h2 := h) (dc2 := dc) (ds2 := ds) 1 rfl ?_
      refine wq_vi (show (8 : Int32) * (nI (b ||| (2 ^ k))) = nI (8 * (b ||| (2 ^ k))) from e_nmul 8 (b ||| (2 ^ k))) ?_
      refine wq_gos (f := 1) (pc2 := 76) (ls2 := [(0, .ref 162), (1, .int (nI i)), (2, .int (nI b)), (3, .int (nI l)), (4, .int (nI c)), (5, .int le), (6, .int (nI k))]) (st2 := [.int ((nI (8 * (b ||| (2 ^ k)))) + (nI k)), .ref 226, .int (mTsS sv sq l k)]) (h2 := h) (dc2 := dc) (ds2 := ds) 2 rfl ?_
      refine wq_vi (show (nI (8 * (b ||| (2 ^ k)))) + (nI k) = nI ((8 * (b ||| (2 ^ k))) + k) from nI_add (8 * (b ||| (2 ^ k))) k) ?_
      try have q14x := nI_toInt (n := ((8 * (b ||| (2 ^ k))) + k)) (by omega)
      refine wq_ialdn rfl hTl (by first | omega | exact zin_t (by omega) (by omega)) (by decide) rfl ?_
      refine wq_gos (f := 1) (pc2 := 80) (ls2 := [(0, .ref 162), (1, .int (nI i)), (2, .int (nI b)), (3, .int (nI l)), (4, .int (nI c)), (5, .int le), (6, .int (nI k))]) (st2 := [.int le, .int ((mTsS sv sq l k) + (tl.getD ((8 * (b ||| (2 ^ k))) + k) 0))]) (h2 := h) (dc2 := dc) (ds2 := ds) 2 rfl ?_
      try have q15x : (((mTsS sv sq l k) + (tl.getD ((8 * (b ||| (2 ^ k))) + k) 0))).toInt = (mTsS sv sq l k).toInt + (tl.getD ((8 * (b ||| (2 ^ k))) + k) 0).toInt := e_add (by omega) (by omega)
      refine wq_eq2 rfl rfl (fun b16x => ?_) (fun b16x => ?_)
      · have q17x : ((mTsS sv sq l k) + (tl.getD ((8 * (b ||| (2 ^ k))) + k) 0)).toInt = le.toInt := congrArg Int32.toInt b16x
        have hx : (mstIS sv sq nw tl b le l (m + 1) k) = k := by show (if _ then _ else _) = _; rw [if_neg b3x, if_pos b16x]
        rw [hx] at kk
        refine wq_ls [(0, .ref 162), (1, .int (nI i)), (2, .int (nI b)), (3, .int (nI l)), (4, .int (nI c)), (5, .int le), (6, .int (nI k))] (show ([0, 1, 2, 3, 4, 5, 6] : List Nat).Nodup by decide) ⟨rfl, rfl, rfl, rfl, rfl, rfl, rfl, trivial⟩ ?_
        exact kk (sbit0 b3x) hk
      · have q18x : ((mTsS sv sq l k) + (tl.getD ((8 * (b ||| (2 ^ k))) + k) 0)).toInt ≠ le.toInt := fun q => b16x (Int32.toInt_inj.mp q)
        refine wq_gos (f := 1) (pc2 := 86) (ls2 := [(6, .int ((nI k) + 1)), (0, .ref 162), (1, .int (nI i)), (2, .int (nI b)), (3, .int (nI l)), (4, .int (nI c)), (5, .int le)]) (st2 := []) (h2 := h) (dc2 := dc) (ds2 := ds) 1 rfl ?_
        rw [nI_1]
        refine wq_gos (f := 1) (pc2 := 43) (ls2 := [(6, .int (nI (k + 1))), (0, .ref 162), (1, .int (nI i)), (2, .int (nI b)), (3, .int (nI l)), (4, .int (nI c)), (5, .int le)]) (st2 := []) (h2 := h) (dc2 := dc) (ds2 := ds) 1 rfl ?_
        try have q19x := nI_toInt (n := (k + 1)) (by omega)
        try have q20x := nI_toInt (n := i) (by omega)
        try have q21x := nI_toInt (n := b) (by omega)
        try have q22x := nI_toInt (n := c) (by omega)
        have hne : k ≠ p9 := (fun e => b16x (by rw [e]; exact hsum))
        have hx : (mstIS sv sq nw tl b le l (m + 1) k) = (mstIS sv sq nw tl b le l m (k + 1)) := by show (if _ then _ else _) = _; rw [if_neg b3x, if_neg b16x]
        rw [hx] at kk
        refine wq_ls [(0, .ref 162), (1, .int (nI i)), (2, .int (nI b)), (3, .int (nI l)), (4, .int (nI c)), (5, .int le), (6, .int (nI (k + 1)))] (show ([0, 1, 2, 3, 4, 5, 6] : List Nat).Nodup by decide) ⟨rfl, rfl, rfl, rfl, rfl, rfl, rfl, trivial⟩ ?_
        exact ih (k + 1) h hM hSv hSq hNw hTl (Nat.lt_of_le_of_ne hk hne) (by omega) kk
set_option maxRecDepth 100000 in
set_option maxHeartbeats 4000000 in
theorem m_stAS {h : zH} {Q : zR → Prop} {dc ds : Nat} {n0 n2 n14 n15 n16 n17 n18 n19 n20 n21 n22 n23 n27 n28 n32 n33 n34 n35 n39 n52 : Int32} {n b i c p9 : Nat} {l : Nat} {sv sq nw tl kn : List Int32} (hM : zat h 162 = some (.inr (.inr (.inr (10, mO n0 n2 n14 n15 n16 n17 n18 n19 n20 n21 n22 n23 n27 n28 n32 n33 n34 n35 n39 n52))))) (hSv : zat h 172 = some (.inl (0, 12, sv))) (hSq : zat h 178 = some (.inl (0, 96, sq))) (hNw : zat h 188 = some (.inl (0, 6, nw))) (hTl : zat h 226 = some (.inl (0, 2048, tl))) (hKn : zat h 166 = some (.inl (0, 14, kn))) (hsp : n ≤ 8) (hb : b < 2 ^ n) (hsv : ∀ i, i < 6 → 1 ≤ (sv.getD i 0).toInt) (hl8 : l < 8) (hp9 : p9 < n ∧ (b >>> p9) % 2 = 0) (hsum : (mTsS sv sq l p9) + tl.getD (8 * (b ||| (2 ^ p9)) + p9) 0 = (if b + 1 = 2 ^ n then 0 else (mtfSF sv sq tl n b l (n - 0 + 1) 1000000 0))) (hkn : kn.getD 5 0 = nI n) (hci : c ≤ i ∧ i < n) (kE : ∀ (k2 : Nat), ((b >>> k2) % 2 = 0) → (k2 ≤ p9) → wq 273 26 [(0, .ref 162), (1, .int (nI i)), (2, .int (nI (b ||| (2 ^ k2)))), (3, .int (nI k2)), (4, .int (nI (c + 1)))] [] h dc ds Q) : wq 273 26 [(0, .ref 162), (1, .int (nI i)), (2, .int (nI b)), (3, .int (nI l)), (4, .int (nI c))] [] h dc ds Q := by
  have qni := nI_toInt (n := i) (by omega)
  have qnc := nI_toInt (n := c) (by omega)
  have qnn := nI_toInt (n := n) (by omega)
  refine wq_gos (f := 1) (pc2 := 29) (ls2 := [(0, .ref 162), (1, .int (nI i)), (2, .int (nI b)), (3, .int (nI l)), (4, .int (nI c))]) (st2 := [.int (nI i), .int (nI c)]) (h2 := h) (dc2 := dc) (ds2 := ds) 2 rfl ?_
  try have q1x := nI_toInt (n := c) (by omega)
  try have q2x := nI_toInt (n := i) (by omega)
  refine wq_gt2f rfl rfl (by omega) ?_
  refine wq_gos (f := 1) (pc2 := 35) (ls2 := [(0, .ref 162), (1, .int (nI i)), (2, .int (nI b)), (3, .int (nI l)), (4, .int (nI c))]) (st2 := [.int (nI l), .int (nI b), .ref 162]) (h2 := h) (dc2 := dc) (ds2 := ds) 3 rfl ?_
  try have q3x := nI_toInt (n := b) (by omega)
  try have q4x := nI_toInt (n := l) (by omega)
  refine wq_inlv (y2 := 269) (as := [.int (nI b), .int (nI l)]) rfl rfl rfl hM rfl (wq_mono (m_tfS hM hSv hSq hNw hTl hKn hsp hb (by first | assumption | omega | decide | solve_by_elim) (by first | assumption | omega | decide | solve_by_elim) hkn) ?_)
  rintro _ rfl
  show wq 273 38 [(0, .ref 162), (1, .int (nI i)), (2, .int (nI b)), (3, .int (nI l)), (4, .int (nI c))] [.int (if b + 1 = 2 ^ n then 0 else (mtfSF sv sq tl n b l (n - 0 + 1) 1000000 0))] h dc ds _
  refine wq_gos (f := 1) (pc2 := 43) (ls2 := [(6, .int 0), (5, .int (if b + 1 = 2 ^ n then 0 else (mtfSF sv sq tl n b l (n - 0 + 1) 1000000 0))), (0, .ref 162), (1, .int (nI i)), (2, .int (nI b)), (3, .int (nI l)), (4, .int (nI c))]) (st2 := []) (h2 := h) (dc2 := dc) (ds2 := ds) 3 rfl ?_
  refine wq_ls [(0, .ref 162), (1, .int (nI i)), (2, .int (nI b)), (3, .int (nI l)), (4, .int (nI c)), (5, .int (if b + 1 = 2 ^ n then 0 else (mtfSF sv sq tl n b l (n - 0 + 1) 1000000 0))), (6, .int (nI 0))] (show ([0, 1, 2, 3, 4, 5, 6] : List Nat).Nodup by decide) ⟨rfl, rfl, rfl, rfl, rfl, rfl, rfl, trivial⟩ ?_
  refine m_stIS hsp hb (by first | assumption | omega | decide | solve_by_elim) (by first | assumption | omega | decide | solve_by_elim) (by first | assumption | omega | decide | solve_by_elim) (by first | assumption | omega | decide | solve_by_elim) ((n - 0) + 1) 0 h hM hSv hSq hNw hTl (Nat.zero_le p9) (by omega) ?_
  intro p06x p16x
  obtain ⟨v7x, hv8x⟩ : ∃ x, x = (mstIS sv sq nw tl b (if b + 1 = 2 ^ n then 0 else (mtfSF sv sq tl n b l (n - 0 + 1) 1000000 0)) l ((n - 0) + 1) 0) := ⟨_, rfl⟩
  try rw [← hv8x] at p06x
  try rw [← hv8x] at p16x
  try rw [← hv8x]
  show wq 273 89 [(0, .ref 162), (1, .int (nI i)), (2, .int (nI b)), (3, .int (nI l)), (4, .int (nI c)), (5, .int (if b + 1 = 2 ^ n then 0 else (mtfSF sv sq tl n b l (n - 0 + 1) 1000000 0))), (6, .int (nI (v7x)))] [] h dc ds _
  refine wq_gos (f := 1) (pc2 := 94) (ls2 := [(0, .ref 162), (1, .int (nI i)), (2, .int (nI b)), (3, .int (nI l)), (4, .int (nI c)), (5, .int (if b + 1 = 2 ^ n then 0 else (mtfSF sv sq tl n b l (n - 0 + 1) 1000000 0))), (6, .int (nI (v7x)))]) (st2 := [.int ((1 : Int32) <<< ((nI (v7x)) &&& 31)), .int (nI b)]) (h2 := h) (dc2 := dc) (ds2 := ds) 4 rfl ?_
  refine wq_vi (show ((1 : Int32) <<< ((nI (v7x)) &&& 31)) = nI (2 ^ (v7x)) from e_shl (k := (v7x)) (by omega)) ?_
  refine wq_gos (f := 1) (pc2 := 95) (ls2 := [(0, .ref 162), (1, .int (nI i)), (2, .int (nI b)), (3, .int (nI l)), (4, .int (nI c)), (5, .int (if b + 1 = 2 ^ n then 0 else (mtfSF sv sq tl n b l (n - 0 + 1) 1000000 0))), (6, .int (nI (v7x)))]) (st2 := [.int ((nI b) ||| (nI (2 ^ (v7x))))]) (h2 := h) (dc2 := dc) (ds2 := ds) 1 rfl ?_
  refine wq_vi (show ((nI b) ||| (nI (2 ^ (v7x)))) = nI (b ||| (2 ^ (v7x))) from e_or b (2 ^ (v7x))) ?_
  refine wq_gos (f := 1) (pc2 := 102) (ls2 := [(4, .int ((nI c) + 1)), (3, .int (nI (v7x))), (2, .int (nI (b ||| (2 ^ (v7x))))), (0, .ref 162), (1, .int (nI i)), (5, .int (if b + 1 = 2 ^ n then 0 else (mtfSF sv sq tl n b l (n - 0 + 1) 1000000 0))), (6, .int (nI (v7x)))]) (st2 := []) (h2 := h) (dc2 := dc) (ds2 := ds) 4 rfl ?_
  rw [nI_1]
  refine wq_gos (f := 1) (pc2 := 26) (ls2 := [(4, .int (nI (c + 1))), (3, .int (nI (v7x))), (2, .int (nI (b ||| (2 ^ (v7x))))), (0, .ref 162), (1, .int (nI i)), (5, .int (if b + 1 = 2 ^ n then 0 else (mtfSF sv sq tl n b l (n - 0 + 1) 1000000 0))), (6, .int (nI (v7x)))]) (st2 := []) (h2 := h) (dc2 := dc) (ds2 := ds) 1 rfl ?_
  subst hv8x
  refine wq_ls [(0, .ref 162), (1, .int (nI i)), (2, .int (nI (b ||| (2 ^ ((mstIS sv sq nw tl b (if b + 1 = 2 ^ n then 0 else (mtfSF sv sq tl n b l (n - 0 + 1) 1000000 0)) l ((n - 0) + 1) 0)))))), (3, .int (nI ((mstIS sv sq nw tl b (if b + 1 = 2 ^ n then 0 else (mtfSF sv sq tl n b l (n - 0 + 1) 1000000 0)) l ((n - 0) + 1) 0)))), (4, .int (nI (c + 1)))] (show ([0, 1, 2, 3, 4] : List Nat).Nodup by decide) ⟨rfl, rfl, rfl, rfl, rfl, trivial⟩ ?_
  exact kE ((mstIS sv sq nw tl b (if b + 1 = 2 ^ n then 0 else (mtfSF sv sq tl n b l (n - 0 + 1) 1000000 0)) l ((n - 0) + 1) 0)) (by first | assumption | omega | decide | solve_by_elim) (by first | assumption | omega | decide | solve_by_elim)
set_option maxRecDepth 100000 in
set_option maxHeartbeats 4000000 in
theorem m_stZ {h : zH} {Q : zR → Prop} {dc ds : Nat} {n0 n2 n14 n15 n16 n17 n18 n19 n20 n21 n22 n23 n27 n28 n32 n33 n34 n35 n39 n52 : Int32} {i b c l : Nat} (hM : zat h 162 = some (.inr (.inr (.inr (10, mO n0 n2 n14 n15 n16 n17 n18 n19 n20 n21 n22 n23 n27 n28 n32 n33 n34 n35 n39 n52))))) (hci : i < c ∧ c ≤ 8) (kE : Q (some (.int (nI l)), h, dc, ds)) : wq 273 26 [(0, .ref 162), (1, .int (nI i)), (2, .int (nI b)), (3, .int (nI l)), (4, .int (nI c))] [] h dc ds Q := by
  have qni := nI_toInt (n := i) (by omega)
  have qnc := nI_toInt (n := c) (by omega)
  refine wq_gos (f := 1) (pc2 := 29) (ls2 := [(0, .ref 162), (1, .int (nI i)), (2, .int (nI b)), (3, .int (nI l)), (4, .int (nI c))]) (st2 := [.int (nI i), .int (nI c)]) (h2 := h) (dc2 := dc) (ds2 := ds) 2 rfl ?_
  try have q1x := nI_toInt (n := c) (by omega)
  try have q2x := nI_toInt (n := i) (by omega)
  refine wq_gt2t rfl (by omega) ?_
  refine wq_gos (f := 1) (pc2 := 106) (ls2 := [(0, .ref 162), (1, .int (nI i)), (2, .int (nI b)), (3, .int (nI l)), (4, .int (nI c))]) (st2 := [.int (nI l)]) (h2 := h) (dc2 := dc) (ds2 := ds) 1 rfl ?_
  exact wq_ret rfl rfl (kE )
theorem m_stL {h : zH} {n0 n2 n14 n15 n16 n17 n18 n19 n20 n21 n22 n23 n27 n28 n32 n33 n34 n35 n39 n52 : Int32} {n i : Nat} {sv sq nw tl kn : List Int32} {dc ds : Nat} (hM : zat h 162 = some (.inr (.inr (.inr (10, mO n0 n2 n14 n15 n16 n17 n18 n19 n20 n21 n22 n23 n27 n28 n32 n33 n34 n35 n39 n52))))) (hSv : zat h 172 = some (.inl (0, 12, sv))) (hSq : zat h 178 = some (.inl (0, 96, sq))) (hNw : zat h 188 = some (.inl (0, 6, nw))) (hTl : zat h 226 = some (.inl (0, 2048, tl))) (hKn : zat h 166 = some (.inl (0, 14, kn))) (hsp : n ≤ 8) (hs : mSpd sv) (hkn : kn.getD 5 0 = nI n) (hiw : i < n) (hB : mBd tl n 1) (hS : ∀ l k, l < n → k < n → 0 ≤ (mTsS sv sq l k).toInt ∧ (mTsS sv sq l k).toInt ≤ 500) : ∀ (d c b l : Nat), c + d = i + 1 → b < 2 ^ n → l < n → bCn b n = c → wq 273 26 [(0, .ref 162), (1, .int (nI i)), (2, .int (nI b)), (3, .int (nI l)), (4, .int (nI c))] [] h dc ds (fun r => ∃ v, r = (some (.int v), h, dc, ds)) := by
  intro d
  induction d with
  | zero =>
    intro c b l hc hb hl hbc
    exact m_stZ hM ⟨by omega, by omega⟩ ⟨_, rfl⟩
  | succ d ih =>
    intro c b l hc hb hl hbc
    have hne : b + 1 ≠ 2 ^ n := fun e => by have := bCn_full n b e; omega
    obtain ⟨⟨p, p1, p2, p3⟩, _⟩ := tf_rng hsp hb (fun k hk => hS l k hl hk) (fun b2 h1 h2 => hB b2 (by omega) h2) hne
    refine m_stAS (p9 := p) hM hSv hSq hNw hTl hKn hsp hb (fun i hi => (hs i hi).1) (by omega) ⟨p1, p2⟩ (by rw [if_neg hne, mtG_S]; exact p3.symm) hkn ⟨by omega, hiw⟩ ?_
    intro k2 q1 q2
    refine ih (c + 1) (b ||| 2 ^ k2) k2 (by omega) (or_lt hb (by omega)) (by omega) ?_
    rw [bCn_or q1, if_pos (by omega), hbc]
theorem m_stop {h : zH} {n0 n2 n14 n15 n16 n17 n18 n19 n20 n21 n22 n23 n27 n28 n32 n33 n34 n35 n39 n52 : Int32} {n i : Nat} {sv sq nw tl kn : List Int32} (hM : zat h 162 = some (.inr (.inr (.inr (10, mO n0 n2 n14 n15 n16 n17 n18 n19 n20 n21 n22 n23 n27 n28 n32 n33 n34 n35 n39 n52))))) (hSv : zat h 172 = some (.inl (0, 12, sv))) (hSq : zat h 178 = some (.inl (0, 96, sq))) (hNw : zat h 188 = some (.inl (0, 6, nw))) (hTl : zat h 226 = some (.inl (0, 2048, tl))) (hKn : zat h 166 = some (.inl (0, 14, kn))) (hsp : n ≤ 8) (hs : mSpd sv) (hkn : kn.getD 5 0 = nI n) (hiw : i < n) (hq : ∀ k, k < n → mJb sq (6 * k)) (hnb : mJb nw 0) : wq 273 0 [(0, .ref 162), (1, .int (nI i))] [] h 0 0 (fun r => ∃ v h2, r = (some (.int v), h2, 0, 0) ∧ wFr [162, 226] h h2 ∧ h2.length = h.length ∧ zat h2 162 = some (.inr (.inr (.inr (10, mO 0 n2 n14 n15 n16 n17 n18 n19 n20 n21 n22 n23 n27 n28 n32 n33 n34 n35 n39 n52)))) ∧ zat h2 226 = some (.inl (0, 2048, mLto sv sq n tl))) := by
  refine m_st0 hM hSv hSq hNw hTl hKn hsp (fun i hi => (hs i hi).1) hkn hiw ?_
  intro h2 f l c1 c2 c3 c4 c5 c6
  have hS : ∀ l k, l < n → k < n → 0 ≤ (mTsS sv sq l k).toInt ∧ (mTsS sv sq l k).toInt ≤ 500 := fun l k hl hk => mtk_rng hs (hq l hl) (hq k hk) _ _ _ (by decide) (by decide)
  have hSn : ∀ k, k < n → 0 ≤ (mTsN sv sq nw k).toInt ∧ (mTsN sv sq nw k).toInt ≤ 500 := fun k hk => mtk_rng hs hnb (hq k hk) _ _ _ (by decide) (by decide)
  have hB := lto_b (tl := tl) hsp hS
  have p1 : 2 ≤ 2 ^ n := by
    have : 2 ^ 1 ≤ 2 ^ n := Nat.pow_le_pow_right (by decide) (by omega)
    omega
  have hz : ∀ p, (0 >>> p) % 2 = 0 := fun p => by rw [Nat.zero_shiftRight]
  have hne : 0 + 1 ≠ 2 ^ n := by omega
  obtain ⟨⟨p, q1, q2, q3⟩, _⟩ := tf_rng hsp (show 0 < 2 ^ n by omega) hSn hB hne
  refine m_stAN (b := 0) (c := 0) (p9 := p) c1 c3 c4 c5 c2 c6 hsp (by omega) (fun i hi => (hs i hi).1) ⟨q1, q2⟩ (by rw [if_neg hne, mtG_N]; exact q3.symm) hkn ⟨Nat.zero_le i, hiw⟩ ?_
  intro k2 r1 r2
  have b0 : bCn 0 n = 0 := by
    have g : ∀ n, bCn 0 n = 0 := by
      intro n
      induction n with
      | zero => rfl
      | succ n ih =>
        show bCn 0 n + (0 >>> n) % 2 = 0
        rw [ih, hz]
    exact g n
  refine wq_mono (m_stL c1 c3 c4 c5 c2 c6 hsp hs hkn hiw hB hS i 1 (0 ||| 2 ^ k2) k2 (by omega) (or_lt (by omega) (by omega)) (by omega) ?_) ?_
  · rw [bCn_or r1, if_pos (by omega), b0]
  · rintro _ ⟨v, rfl⟩
    exact ⟨v, h2, rfl, f, l, c1, c2⟩
