/-! Both readers' tokens are the same: digits. -/
/-- what stands at p, or -1: as a test of a range -/
theorem rHas_e {tb : List Int32} {ln p : Nat} {lo hi : Int32} (hl : 0 ≤ lo.toInt) (hln : ln ≤ 700) (hp : p ≤ 701) : rHas tb ln p lo hi = if (mHere tb ln p).toInt < lo.toInt then 0 else if hi.toInt < (mHere tb ln p).toInt then 0 else 1 := by
  have q1 := nI_toInt (n := ln) (by omega)
  have q2 := nI_toInt (n := p) (by omega)
  unfold rHas mHere
  rw [q1, q2, nI_clamp (by omega)]
  by_cases h : (ln : Int) ≤ p
  · rw [if_pos h, if_pos h, if_pos (by have : (-1 : Int32).toInt = -1 := rfl; omega)]
  · rw [if_neg h, if_neg h]
/-- numbers as both hold them: the same up to 99999, else both above -/
noncomputable def vR (a b : Int32) : Prop := (a = b ∧ 0 ≤ a.toInt ∧ a.toInt ≤ 99999) ∨ (99999 < a.toInt ∧ a.toInt ≤ 1000000 ∧ 99999 < b.toInt ∧ b.toInt ≤ 1000000)
theorem dg_mul {a c : Int32} (ha : 0 ≤ a.toInt ∧ a.toInt ≤ 1000000) (hc : 48 ≤ c.toInt ∧ c.toInt ≤ 57) : (a * 10 + c - 48).toInt = a.toInt * 10 + c.toInt - 48 := by
  have e10 : (10 : Int32).toInt = 10 := rfl
  have e48 : (48 : Int32).toInt = 48 := rfl
  have m : (a * 10).toInt = a.toInt * 10 := by
    rw [Int32.toInt_mul, e10]; exact Int.bmod_eq_of_le (by omega) (by omega)
  have n : (a * 10 + c).toInt = a.toInt * 10 + c.toInt := by
    rw [Int32.toInt_add, m]; exact Int.bmod_eq_of_le (by omega) (by omega)
  rw [Int32.toInt_sub, n, e48]
  exact Int.bmod_eq_of_le (by omega) (by omega)
theorem dg_mul2 (a c : Int32) : 10 * a + c - 48 = a * 10 + c - 48 := by rw [Int32.mul_comm]
theorem dg_step {nu va c : Int32} (h : vR nu va) (hc : 48 ≤ c.toInt ∧ c.toInt ≤ 57) : vR (jmin 1000000 (nu * 10 + c - 48)) (if va.toInt ≤ (99999 : Int32).toInt then 10 * va + c - 48 else va) := by
  have e9 : (99999 : Int32).toInt = 99999 := rfl
  have e6 : (1000000 : Int32).toInt = 1000000 := rfl
  have hn : 0 ≤ nu.toInt ∧ nu.toInt ≤ 1000000 := by rcases h with h | h <;> omega
  have d := dg_mul hn hc
  have hj : (jmin 1000000 (nu * 10 + c - 48)).toInt = min 1000000 (nu.toInt * 10 + c.toInt - 48) := by
    unfold jmin
    split
    · rename_i k
      omega
    · rename_i k
      omega
  rcases h with ⟨rfl, a, b⟩ | ⟨a, b, a2, b2⟩
  · rw [if_pos (by omega), dg_mul2]
    by_cases k : nu.toInt * 10 + c.toInt - 48 ≤ 99999
    · refine Or.inl ⟨Int32.toInt_inj.mp ?_, ?_, ?_⟩ <;> omega
    · refine Or.inr ⟨?_, ?_, ?_, ?_⟩ <;> omega
  · rw [if_neg (by omega)]
    refine Or.inr ⟨?_, ?_, ?_, ?_⟩ <;> omega
theorem dig_e {tb : List Int32} {ln : Nat} (hln : ln ≤ 700) : ∀ (m nx : Nat) (nu va : Int32), nx ≤ ln → ln - nx < m → vR nu va → (tdF tb ln m nu nx).2 = (mdgF tb ln m nx va).1 ∧ vR (tdF tb ln m nu nx).1 (mdgF tb ln m nx va).2
  | 0, nx, nu, va, _, h, _ => absurd h (Nat.not_lt_zero _)
  | m + 1, nx, nu, va, hx, hm, hv => by
    have q1 := nI_toInt (n := ln) (by omega)
    have q2 := nI_toInt (n := nx) (by omega)
    have e48 : (48 : Int32).toInt = 48 := rfl
    have e57 : (57 : Int32).toInt = 57 := rfl
    unfold tdF mdgF
    rw [rHas_e (by decide) hln (by omega), q1, q2]
    by_cases h : (ln : Int) ≤ nx
    · have e : mHere tb ln nx = -1 := by unfold mHere; rw [q1, q2, if_pos h]
      rw [if_pos h, e, if_pos (show (-1 : Int32).toInt < (48 : Int32).toInt by decide)]
      exact ⟨rfl, hv⟩
    · have e : mHere tb ln nx = tb.getD nx 0 := by unfold mHere; rw [q1, q2, if_neg h]
      rw [if_neg h, e, nI_clamp (by omega)]
      by_cases h1 : (tb.getD nx 0).toInt < (48 : Int32).toInt
      · simp only [if_pos h1, if_pos rfl]
        exact ⟨rfl, hv⟩
      · by_cases h2 : (57 : Int32).toInt < (tb.getD nx 0).toInt
        · simp only [if_neg h1, if_pos h2, if_pos rfl]
          exact ⟨rfl, hv⟩
        · simp only [if_neg h1, if_neg h2]
          rw [if_neg (show ¬ (1 : Int32) = 0 by decide)]
          have st := dg_step hv (c := tb.getD nx 0) (by omega)
          have ih := dig_e (tb := tb) hln m (nx + 1) _ _ (by omega) (by omega) st
          by_cases h3 : va.toInt ≤ (99999 : Int32).toInt
          · simp only [if_pos h3] at ih ⊢
            exact ih
          · simp only [if_neg h3] at ih ⊢
            exact ih
