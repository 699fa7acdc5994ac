/-! Both readers' numbers: class's readNumber beside the reference's atHand. -/
theorem tdF_le {tb : List Int32} {ln : Nat} (hln : ln ≤ 700) (m : Nat) : ∀ (nu : Int32) (nx : Nat), nx ≤ ln → (tdF tb ln m nu nx).2 ≤ ln := by
  induction m with
  | zero => intro nu nx h; exact h
  | succ m ih =>
    intro nu nx h
    have q1 := nI_toInt (n := ln) (by omega)
    have q2 := nI_toInt (n := nx) (by omega)
    rw [tdF, q1, q2]
    by_cases k : (ln : Int) ≤ nx
    · rw [if_pos k]; exact h
    · rw [if_neg k]
      split
      · exact h
      · exact ih _ _ (by omega)
theorem twF_le {tb : List Int32} {ln : Nat} (hln : ln ≤ 700) (m : Nat) : ∀ (le : Nat) (va : Int32) (nx : Nat) (kd : Int32), nx ≤ ln → (twF tb ln m le va nx kd).2.1 ≤ ln := by
  induction m with
  | zero => intro le va nx kd h; exact h
  | succ m ih =>
    intro le va nx kd h
    have q1 := nI_toInt (n := ln) (by omega)
    have q2 := nI_toInt (n := nx) (by omega)
    rw [twF, q1, q2]
    repeat' split
    all_goals first | exact h | (refine ih _ _ _ _ ?_; omega)
theorem ctk_le {tb : List Int32} {ln p : Nat} (hln : ln ≤ 700) (hp : p ≤ ln) (kd va : Int32) : (ctk tb ln p kd va).1 ≤ ln := by
  have q1 := nI_toInt (n := ln) (by omega)
  have q2 := nI_toInt (n := p) (by omega)
  unfold ctk zlet tdG twG
  rw [q1, q2]
  by_cases k : (p : Int) < ln
  · rw [if_pos k]
    repeat' split
    all_goals first | exact tdF_le hln _ _ _ (by omega) | exact twF_le hln _ _ _ _ _ (by omega) | (dsimp only; omega)
  · rw [if_neg k]; exact hp
theorem adG_le {tb : List Int32} {ln nx : Nat} (hln : ln ≤ 700) (hx : nx ≤ ln) (kd sta va : Int32) : (adG tb ln nx kd sta va).1 ≤ ln := by
  obtain ⟨a, b, c⟩ := ad_sk (tb := tb) hln kd sta va ((ln - nx) + 1) nx hx (by omega)
  unfold adG
  rw [a]
  exact ctk_le hln c kd va
theorem tdF_ge {tb : List Int32} {ln : Nat} (m : Nat) : ∀ (nu : Int32) (nx : Nat), nx ≤ (tdF tb ln m nu nx).2 := by
  induction m with
  | zero => intro nu nx; exact Nat.le_refl _
  | succ m ih =>
    intro nu nx
    rw [tdF]
    repeat' split
    all_goals first | exact Nat.le_refl _ | (refine Nat.le_trans (Nat.le_succ _) (ih _ _))
theorem twF_ge {tb : List Int32} {ln : Nat} (m : Nat) : ∀ (le : Nat) (va : Int32) (nx : Nat) (kd : Int32), nx ≤ (twF tb ln m le va nx kd).2.1 := by
  induction m with
  | zero => intro le va nx kd; exact Nat.le_refl _
  | succ m ih =>
    intro le va nx kd
    rw [twF]
    repeat' split
    all_goals first | exact Nat.le_refl _ | (refine Nat.le_trans (Nat.le_succ _) (ih _ _ _ _))
theorem ctk_ge {tb : List Int32} {ln p : Nat} (kd va : Int32) : p ≤ (ctk tb ln p kd va).1 := by
  unfold ctk zlet tdG twG
  repeat' split
  all_goals first | exact Nat.le_refl _ | exact Nat.le_succ _ | exact tdF_ge _ _ _ | exact twF_ge _ _ _ _ _ | exact Nat.le_trans (Nat.le_succ _) (tdF_ge _ _ _)
theorem adG_ge {tb : List Int32} {ln nx : Nat} (hln : ln ≤ 700) (hx : nx ≤ ln) (kd sta va : Int32) : nx ≤ (adG tb ln nx kd sta va).1 := by
  obtain ⟨a, b, c⟩ := ad_sk (tb := tb) hln kd sta va ((ln - nx) + 1) nx hx (by omega)
  unfold adG
  rw [a]
  exact Nat.le_trans b (ctk_ge kd va)
theorem neg_i {x : Int32} (h : -2000000 ≤ x.toInt ∧ x.toInt ≤ 2000000) : (-x).toInt = - x.toInt := by
  rw [Int32.toInt_neg]
  exact Int.bmod_eq_of_le (by omega) (by omega)
/-- a number that is fine, on both sides -/
noncomputable def nOk (tb : List Int32) (ln : Nat) (wr wa : Int32) (nx : Nat) (kd sta va : Int32) (at9 pl : Nat) (so va2 fp lo hi b : Int32) : Prop := ∃ x k, rnG tb ln wr wa nx kd sta va lo hi b = (1, wr, wa, at9, k, nI pl, x) ∧ mAtH pl so va2 0 fp b lo hi = (x, 0, fp) ∧ lo.toInt ≤ x.toInt ∧ x.toInt ≤ hi.toInt
noncomputable def nNo (tb : List Int32) (ln : Nat) (wr wa : Int32) (nx : Nat) (kd sta va : Int32) (at9 pl : Nat) (so va2 fp lo hi b : Int32) : Prop := ∃ f k v, f ≠ 0 ∧ rnG tb ln wr wa nx kd sta va lo hi b = (0, f, nI pl, at9, k, nI pl, v) ∧ mAtH pl so va2 0 fp b lo hi = (lo, f, nI pl)
theorem num_e {tb : List Int32} {ln nx : Nat} (hln : ln ≤ 700) (hx : nx ≤ ln) (hb : ∀ i, i < ln → 0 ≤ (tb.getD i 0).toInt) {at9 pl : Nat} {so va2 v0 : Int32} (S : mTok tb ln nx v0 = (at9, pl, so, va2)) (kd sta va wr wa fp lo hi b : Int32) (h1 : -99999 ≤ lo.toInt) (h2 : lo.toInt ≤ 99999) (h3 : hi.toInt ≤ 99999) (h4 : b = 0 ∨ b = 1) : nx ≤ at9 ∧ at9 ≤ ln ∧ (nOk tb ln wr wa nx kd sta va at9 pl so va2 fp lo hi b ∨ nNo tb ln wr wa nx kd sta va at9 pl so va2 fp lo hi b) := by
  obtain ⟨p, p1, p2, T⟩ := tok_e hln hx hb kd sta va v0
  have L := adG_le (tb := tb) hln hx kd sta va
  have G := adG_ge (tb := tb) hln hx kd sta va
  rw [S] at T
  unfold nOk nNo rnG mAtH
  revert T L G
  generalize adG tb ln nx kd sta va = A
  obtain ⟨a1, a2, a3, a4⟩ := A
  intro T L G
  obtain ⟨e1, e2, e3, K⟩ := T
  dsimp only at e1 e2 e3 K L G
  subst e1 e2 e3
  refine ⟨G, L, ?_⟩
  unfold zlet mWro
  dsimp only
  rw [if_pos rfl]
  rcases K with ⟨e, g, _, _⟩ | ⟨e, g, _, _⟩ | ⟨e, g⟩ | ⟨e, g, R⟩ | ⟨e, g, u, w, c1, c2, R⟩ | ⟨e, _, _, _, ⟨_, g, _⟩ | ⟨_, g, _⟩⟩
  case inr.inr.inr.inl =>
    subst e g
    rcases R with ⟨r, s1, s2⟩ | ⟨s1, s2, s3, s4⟩
    · subst r
      by_cases k1 : a4.toInt < lo.toInt
      · right
        exact ⟨2, 2, a4, by decide, by rw [if_pos rfl, if_pos k1], by rw [if_pos rfl, if_pos k1]; rfl⟩
      · by_cases k2 : a4.toInt ≤ hi.toInt
        · left
          exact ⟨a4, 2, by rw [if_pos rfl, if_neg k1, if_pos k2], by rw [if_pos rfl, if_neg k1, if_pos k2]; rfl, by omega, k2⟩
        · right
          exact ⟨2, 2, a4, by decide, by rw [if_pos rfl, if_neg k1, if_neg k2], by rw [if_pos rfl, if_neg k1, if_neg k2]; rfl⟩
    · right
      have k1 : ¬ a4.toInt < lo.toInt := by omega
      have k2 : ¬ a4.toInt ≤ hi.toInt := by omega
      have k3 : ¬ va2.toInt < lo.toInt := by omega
      have k4 : ¬ va2.toInt ≤ hi.toInt := by omega
      exact ⟨2, 2, a4, by decide, by rw [if_pos rfl, if_neg k1, if_neg k2], by rw [if_pos rfl, if_neg k3, if_neg k4]; rfl⟩
  case inr.inr.inr.inr.inl =>
    subst e g c1 c2
    rcases h4 with h4 | h4
    · subst h4
      right
      exact ⟨1, 3, -u, by decide, rfl, rfl⟩
    · subst h4
      rcases R with ⟨r, s1, s2⟩ | ⟨s1, s2, s3, s4⟩
      · subst r
        by_cases k1 : (-u).toInt < lo.toInt
        · right
          exact ⟨2, 3, -u, by decide, by simp [-Int32.toInt_neg, k1], by simp [-Int32.toInt_neg, k1]⟩
        · by_cases k2 : (-u).toInt ≤ hi.toInt
          · left
            exact ⟨-u, 3, by simp [-Int32.toInt_neg, k1, k2], by simp [-Int32.toInt_neg, k1, k2], by omega, k2⟩
          · right
            exact ⟨2, 3, -u, by decide, by simp [-Int32.toInt_neg, k1, k2], by simp [-Int32.toInt_neg, k1, k2]⟩
      · right
        have n1 := neg_i (x := u) (by omega)
        have n2 := neg_i (x := w) (by omega)
        have k1 : (-u).toInt < lo.toInt := by omega
        have k2 : (-w).toInt < lo.toInt := by omega
        exact ⟨2, 3, -u, by decide, by simp [-Int32.toInt_neg, k1], by simp [-Int32.toInt_neg, k2]⟩
  all_goals
    right
    subst e g
    rcases h4 with h4 | h4
    · subst h4
      exact ⟨1, _, a4, by decide, rfl, rfl⟩
    · subst h4
      exact ⟨1, _, a4, by decide, rfl, rfl⟩
