/-! The word of a line and a name, on both sides; what is told. -/
/-- the class's number of a word of the language, and the reference's -/
noncomputable def wTo (k : Nat) : Int32 := [0, 1, 2, 5, 6, 7, 3, 4, 8, 9].getD k 0
theorem lw_m1 (v : Int32) (h : ∀ k, k < 10 → zWords.getD k 0 ≠ v) (m : Nat) : ∀ k, k ≤ 10 → 10 - k < m → lwF v m k = -1 := by
  induction m with
  | zero => intro k _ h2; exact absurd h2 (Nat.not_lt_zero _)
  | succ m ih =>
    intro k hk hm
    have q10 : (10 : Int32).toInt = 10 := rfl
    have qk := nI_toInt (n := k) (by omega)
    rw [lwF, q10, qk]
    by_cases e : k = 10
    · rw [if_pos (by omega)]
    · rw [if_neg (by omega), nI_clamp (by omega), if_pos (h k (by omega))]
      exact ih (k + 1) (by omega) (by omega)
theorem wIx_c {w : Nat} (hw : w < 2 ^ 30) : (∃ k, k < 10 ∧ nI w = zWords.getD k 0 ∧ lwF (nI w) (10 - 0 + 1) 0 = nI k ∧ wIx w = wTo k) ∨ (wIx w = -1 ∧ lwF (nI w) (10 - 0 + 1) 0 = -1) := by
  have inj : ∀ c : Nat, c < 2 ^ 30 → nI c = nI w → c = w := fun c hc e => by
    have := congrArg Int32.toInt e
    rw [nI_toInt (by omega), nI_toInt (by omega)] at this
    omega
  by_cases h0 : w = 412560384
  · subst h0; exact Or.inl ⟨0, by decide, by decide, by decide, by decide⟩
  by_cases h1 : w = 269946880
  · subst h1; exact Or.inl ⟨1, by decide, by decide, by decide, by decide⟩
  by_cases h2 : w = 273980692
  · subst h2; exact Or.inl ⟨2, by decide, by decide, by decide, by decide⟩
  by_cases h3 : w = 412526208
  · subst h3; exact Or.inl ⟨6, by decide, by decide, by decide, by decide⟩
  by_cases h4 : w = 654480512
  · subst h4; exact Or.inl ⟨7, by decide, by decide, by decide, by decide⟩
  by_cases h5 : w = 79870080
  · subst h5; exact Or.inl ⟨3, by decide, by decide, by decide, by decide⟩
  by_cases h6 : w = 642945024
  · subst h6; exact Or.inl ⟨4, by decide, by decide, by decide, by decide⟩
  by_cases h7 : w = 609865728
  · subst h7; exact Or.inl ⟨5, by decide, by decide, by decide, by decide⟩
  by_cases h8 : w = 654823424
  · subst h8; exact Or.inl ⟨8, by decide, by decide, by decide, by decide⟩
  by_cases h9 : w = 250609664
  · subst h9; exact Or.inl ⟨9, by decide, by decide, by decide, by decide⟩
  right
  refine ⟨by unfold wIx; simp [h0, h1, h2, h3, h4, h5, h6, h7, h8, h9], lw_m1 _ ?_ _ 0 (by decide) (by decide)⟩
  intro k hk
  have c : k = 0 ∨ k = 1 ∨ k = 2 ∨ k = 3 ∨ k = 4 ∨ k = 5 ∨ k = 6 ∨ k = 7 ∨ k = 8 ∨ k = 9 := by omega
  rcases c with e | e | e | e | e | e | e | e | e | e <;> subst e <;> intro z
  · exact h0 (inj 412560384 (by decide) z).symm
  · exact h1 (inj 269946880 (by decide) z).symm
  · exact h2 (inj 273980692 (by decide) z).symm
  · exact h5 (inj 79870080 (by decide) z).symm
  · exact h6 (inj 642945024 (by decide) z).symm
  · exact h7 (inj 609865728 (by decide) z).symm
  · exact h3 (inj 412526208 (by decide) z).symm
  · exact h4 (inj 654480512 (by decide) z).symm
  · exact h8 (inj 654823424 (by decide) z).symm
  · exact h9 (inj 250609664 (by decide) z).symm
/-- a name that is one, on both sides -/
theorem nam_e {tb : List Int32} {ln nx : Nat} (hln : ln ≤ 700) (hx : nx ≤ ln) (hb : ∀ i, i < ln → 0 ≤ (tb.getD i 0).toInt) {at9 pl : Nat} {so va2 v0 : Int32} (S : mTok tb ln nx v0 = (at9, pl, so, va2)) (kd sta va wr wa : Int32) : nx ≤ at9 ∧ at9 ≤ ln ∧ ((so = 1 ∧ rmG tb ln wr wa nx kd sta va = (1, wr, wa, at9, 1, nI pl, va2)) ∨ (so ≠ 1 ∧ ∃ k v, rmG tb ln wr wa nx kd sta va = (0, 1, nI pl, at9, k, nI pl, v))) := by
  obtain ⟨p, p1, p2, T⟩ := tok_e hln hx hb kd sta va v0
  have L := adG_le (tb := tb) hln hx kd sta va
  have G := adG_ge (tb := tb) hln hx kd sta va
  rw [S] at T
  simp only [rmG, zlet]
  revert T L G
  generalize adG tb ln nx kd sta va = A
  obtain ⟨a1, a2, a3, a4⟩ := A
  intro T L G
  obtain ⟨e1, e2, e3, K⟩ := T
  dsimp only at e1 e2 e3 K L G
  subst e1 e2 e3
  refine ⟨G, L, ?_⟩
  dsimp only
  rcases K with ⟨e, g, _, _⟩ | ⟨e, g, _, _⟩ | ⟨e, g⟩ | ⟨e, g, R⟩ | ⟨e, g, u, w, c1, c2, R⟩ | ⟨e, w, ew, wl, ⟨n, g, _⟩ | ⟨n, g, ev⟩⟩
  case inr.inr.inr.inr.inr.inl =>
    right
    subst e g
    rcases wIx_c wl with ⟨k, k1, k2, k3, k4⟩ | ⟨k1, k2⟩
    · refine ⟨by decide, 1, a4, ?_⟩
      rw [if_neg (show ¬ (1 : Int32) ≠ 1 by decide), ew, k3, if_neg]
      have kk : k = 0 ∨ k = 1 ∨ k = 2 ∨ k = 3 ∨ k = 4 ∨ k = 5 ∨ k = 6 ∨ k = 7 ∨ k = 8 ∨ k = 9 := by omega
      rcases kk with e | e | e | e | e | e | e | e | e | e <;> subst e <;> decide
    · exact absurd k1 n
  case inr.inr.inr.inr.inr.inr =>
    left
    subst e g
    rcases wIx_c wl with ⟨k, k1, k2, k3, k4⟩ | ⟨k1, k2⟩
    · exfalso
      rw [n] at k4
      revert k4
      have kk : k = 0 ∨ k = 1 ∨ k = 2 ∨ k = 3 ∨ k = 4 ∨ k = 5 ∨ k = 6 ∨ k = 7 ∨ k = 8 ∨ k = 9 := by omega
      rcases kk with e | e | e | e | e | e | e | e | e | e <;> subst e <;> decide
    · refine ⟨rfl, ?_⟩
      rw [if_neg (show ¬ (1 : Int32) ≠ 1 by decide), ew, k2, if_pos rfl, ev]
  all_goals
    right
    subst e g
    exact ⟨by decide, _, _, if_pos (by decide)⟩
theorem rtk_4 {tb : List Int32} {ln P : Nat} {v : Int32} : (rtk tb ln P v).2.2.1 = 4 → (rtk tb ln P v).1 = (rtk tb ln P v).2.1 + 1 := by
  unfold rtk
  simp only [zlet]
  repeat' split
  all_goals
    intro h
    first | rfl | exact absurd (show (6 : Int32) = 4 from h) (by decide) | exact absurd (show (3 : Int32) = 4 from h) (by decide) | exact absurd (show (2 : Int32) = 4 from h) (by decide) | exact absurd (show (5 : Int32) = 4 from h) (by decide) | exact absurd (show (0 : Int32) = 4 from h) (by decide) | exact absurd (show (1 : Int32) = 4 from h) (by decide)
/-- a line's end: both wait for the sign -/
theorem end_e {tb : List Int32} {ln nx : Nat} (hln : ln ≤ 700) (hx : nx ≤ ln) (hb : ∀ i, i < ln → 0 ≤ (tb.getD i 0).toInt) {at9 pl : Nat} {so va2 v0 : Int32} (S : mTok tb ln nx v0 = (at9, pl, so, va2)) (kd sta va : Int32) : at9 ≤ ln ∧ ((so = 4 ∧ nx < at9 ∧ ∃ v, adG tb ln nx kd sta va = (at9, 4, nI pl, v)) ∨ (so ≠ 4 ∧ ∃ k v, k ≠ 4 ∧ adG tb ln nx kd sta va = (at9, k, nI pl, v))) := by
  obtain ⟨p, p1, p2, T⟩ := tok_e hln hx hb kd sta va v0
  have L := adG_le (tb := tb) hln hx kd sta va
  rw [S] at T
  revert T L
  generalize adG tb ln nx kd sta va = A
  obtain ⟨a1, a2, a3, a4⟩ := A
  intro T L
  obtain ⟨e1, e2, e3, K⟩ := T
  dsimp only at e1 e2 e3 K L
  subst e1 e2 e3
  refine ⟨L, ?_⟩
  rcases K with ⟨e, g, _, _⟩ | ⟨e, g, _, _⟩ | ⟨e, g⟩ | ⟨e, g, R⟩ | ⟨e, g, u, w, c1, c2, R⟩ | ⟨e, w, ew, wl, ⟨n, g, _⟩ | ⟨n, g, ev⟩⟩
  case inr.inl =>
    left
    subst e g
    refine ⟨rfl, ?_, a4, rfl⟩
    have e := rtk_4 (tb := tb) (ln := ln) (P := mskF tb ln ((ln - nx) + 1) nx) (v := v0)
    rw [← mTok_s, S] at e
    have e2 : a1 = pl + 1 := e rfl
    omega
  all_goals
    right
    subst e g
    exact ⟨by decide, _, _, by decide, rfl⟩
/-- what is told, bit by bit -/
theorem toG_e (wr wa sta : Int32) {T b : Nat} (hT : T < 2 ^ 31) (hb : b < 31) : toG wr wa sta (nI T) (nI b) = if T.testBit b then (0, 3, sta, nI T) else (1, wr, wa, nI (T ||| 2 ^ b)) := by
  unfold toG
  rw [e_ushr hT (by omega), e_and1, e_bit, e_shl hb, e_or]
  by_cases h : T.testBit b = true
  · simp only [if_pos h]
    rw [if_neg (show ¬ nI 1 = (0 : Int32) by decide)]
  · simp only [if_neg h]
    rw [if_pos (show nI 0 = (0 : Int32) by decide)]
theorem tl_lt {T b : Nat} (hT : T < 2 ^ 22) (hb : b < 22) : T ||| 2 ^ b < 2 ^ 22 := Nat.or_lt_two_pow hT (Nat.pow_lt_pow_right (by decide) hb)
theorem tl_bit (T b c : Nat) : (T ||| 2 ^ b).testBit c = (T.testBit c || decide (b = c)) := by
  rw [Nat.testBit_or, Nat.testBit_two_pow]
