/-! Both readers' tokens are the same: end, signs, digits. -/
/-- kinds and values as both hold them -/
noncomputable def tkR (p : Nat) (va va2 : Int32) (a : Nat × Int32 × Int32 × Int32) (b : Nat × Nat × Int32 × Int32) : Prop := a.1 = b.1 ∧ b.2.1 = p ∧ a.2.2.1 = nI p ∧ ((a.2.1 = 0 ∧ b.2.2.1 = 5 ∧ a.2.2.2 = va ∧ b.2.2.2 = va2) ∨ (a.2.1 = 4 ∧ b.2.2.1 = 4 ∧ a.2.2.2 = va ∧ b.2.2.2 = va2) ∨ (a.2.1 = 5 ∧ b.2.2.1 = 6) ∨ (a.2.1 = 2 ∧ b.2.2.1 = 2 ∧ vR a.2.2.2 b.2.2.2) ∨ (a.2.1 = 3 ∧ b.2.2.1 = 3 ∧ ∃ x y, a.2.2.2 = -x ∧ b.2.2.2 = -y ∧ vR x y) ∨ (a.2.1 = 1 ∧ ∃ w, a.2.2.2 = nI w ∧ w < 2 ^ 30 ∧ ((wIx w ≠ -1 ∧ b.2.2.1 = 0 ∧ b.2.2.2 = wIx w) ∨ (wIx w = -1 ∧ b.2.2.1 = 1 ∧ b.2.2.2 = nI w))))
theorem tk_end {tb : List Int32} {ln : Nat} (hln : ln ≤ 700) (kd va va2 : Int32) : tkR ln va va2 (ctk tb ln ln kd va) (rtk tb ln ln va2) := by
  unfold ctk rtk
  rw [here_n hln (Nat.le_refl _) (by omega), if_neg (by omega), if_neg (fun z => z rfl)]
  exact ⟨rfl, rfl, rfl, Or.inl ⟨rfl, rfl, rfl, rfl⟩⟩
theorem vR_0 : vR 0 0 := Or.inl ⟨rfl, by decide, by decide⟩
/-- digits -/
theorem tk_dig {tb : List Int32} {ln p : Nat} (hln : ln ≤ 700) (hp : p < ln) (kd va va2 : Int32) (hc : 48 ≤ (tb.getD p 0).toInt ∧ (tb.getD p 0).toInt ≤ 57) : tkR p va va2 (ctk tb ln p kd va) (rtk tb ln p va2) := by
  have q1 := nI_toInt (n := ln) (by omega)
  have q2 := nI_toInt (n := p) (by omega)
  have e48 : (48 : Int32).toInt = 48 := rfl
  have e57 : (57 : Int32).toInt = 57 := rfl
  have e97 : (97 : Int32).toInt = 97 := rfl
  have e122 : (122 : Int32).toInt = 122 := rfl
  have r1 : rHas tb ln p 97 122 = 0 := rHas_0 hln (by omega) (fun z => by have := z.1; omega)
  have r2 : rHas tb ln p 48 57 = 1 := by
    rw [rHas_e (by decide) hln (by omega), here_e hln hp, if_neg (by omega), if_neg (by omega)]
  have d := dig_e hln ((ln - p) + 1) p 0 0 (by omega) (by omega) vR_0 (tb := tb)
  unfold ctk rtk
  rw [here_e hln hp, if_pos (show (nI p).toInt < (nI ln).toInt by omega), r1, if_pos rfl, r2, if_neg (show ¬ (1 : Int32) = 0 by decide)]
  have n1 : tb.getD p 0 ≠ -1 := fun z => by rw [z] at hc; have : (-1 : Int32).toInt = -1 := rfl; omega
  rw [if_pos n1, if_pos (show (tb.getD p 0).toInt < (97 : Int32).toInt by omega), if_neg (show ¬ (tb.getD p 0).toInt < (48 : Int32).toInt by omega), if_neg (show ¬ (57 : Int32).toInt < (tb.getD p 0).toInt by omega)]
  exact ⟨d.1, rfl, rfl, Or.inr (Or.inr (Or.inr (Or.inl ⟨rfl, rfl, d.2⟩)))⟩
theorem pw_lt {tb : List Int32} {pl : Nat} : ∀ n, (∀ k, k < n → isL tb (pl + k)) → pw tb pl n < 32 ^ n
  | 0, _ => by unfold pw; decide
  | n + 1, h => by
    have a := pw_lt n (fun k hk => h k (by omega))
    have b := (lt5_e (h n (by omega))).2
    rw [pw, Nat.pow_succ]
    omega
theorem pwC_lt {tb : List Int32} {pl n : Nat} (h : ∀ k, k < n → isL tb (pl + k)) : pwC tb pl n < 2 ^ 30 := by
  have a := pw_lt (tb := tb) (pl := pl) (min n 6) (fun k hk => h k (by omega))
  unfold pwC
  have e : (2 : Nat) ^ 30 = 32 ^ (min n 6) * 2 ^ (30 - 5 * min n 6) := by
    rw [show (32 : Nat) = 2 ^ 5 from rfl, ← Nat.pow_mul, ← Nat.pow_add]
    congr 1
    omega
  rw [e]
  exact Nat.mul_lt_mul_of_pos_right a (Nat.pow_pos (by decide))
/-- a word -/
theorem tk_wrd {tb : List Int32} {ln p : Nat} (hln : ln ≤ 700) (hp : p < ln) (kd va va2 : Int32) (hc : isL tb p) : tkR p va va2 (ctk tb ln p kd va) (rtk tb ln p va2) := by
  have q1 := nI_toInt (n := ln) (by omega)
  have q2 := nI_toInt (n := p) (by omega)
  have e97 : (97 : Int32).toInt = 97 := rfl
  have e122 : (122 : Int32).toInt = 122 := rfl
  have hc2 := hc
  obtain ⟨c1, c2⟩ := hc2
  obtain ⟨m1, m2, m3, m4⟩ := msm_e (tb := tb) hln ((ln - p) + 1) p (by omega) (by omega)
  have n1 : tb.getD p 0 ≠ -1 := fun z => by rw [z] at c1; have : (-1 : Int32).toInt = -1 := rfl; omega
  unfold ctk rtk
  rw [here_e hln hp, if_pos (show (nI p).toInt < (nI ln).toInt by omega), rHas_1 hln hp hc, if_neg (show ¬ (1 : Int32) = 0 by decide), if_pos n1, if_neg (show ¬ (tb.getD p 0).toInt < (97 : Int32).toInt by omega), if_neg (show ¬ (122 : Int32).toInt < (tb.getD p 0).toInt by omega)]
  unfold zlet
  revert m1 m2 m3 m4
  generalize msmF tb ln ((ln - p) + 1) p = E
  intro m1 m2 m3 m4
  have t := tw_e (kd := kd) hln m2 m3 m4 ((ln - p) + 1) 0 (by omega) (by omega)
  have z0 : pwC tb p 0 = 0 := Nat.zero_mul _
  rw [z0] at t
  have t2 : twF tb ln ((ln - p) + 1) 0 (0 : Int32) p kd = (nI (pwC tb p (E - p)), E, if E - p ≤ 6 then 1 else 5) := t
  simp only [twG, t2]
  rw [mwrd_e (by omega) m1 m3]
  have dsub : (nI E - nI p).toInt = (E : Int) - p := by
    rw [Int32.toInt_sub, nI_toInt (by omega), q2]
    exact Int.bmod_eq_of_le (by omega) (by omega)
  by_cases h6 : E - p ≤ 6
  · rw [if_pos h6, if_pos h6]
    by_cases w : wIx (pwC tb p (E - p)) = -1
    · rw [if_pos w, if_pos (show (nI E - nI p).toInt ≤ (6 : Int32).toInt by rw [dsub]; have : (6 : Int32).toInt = 6 := rfl; omega)]
      have nm : mNam tb E p = nI (pwC tb p (E - p)) := by
        have a := mnh_e (tb := tb) (show E ≤ 700 by omega) m1 h6 (fun k hk => m3 _ (by omega) (by omega)) ((6 - 0) + 1) 0 0 (by omega) (by omega) (by rw [show min 0 (E - p) = 0 by omega]; rfl)
        have e : pw tb p (E - p) * 32 ^ (6 - (E - p)) = pwC tb p (E - p) := by
          unfold pwC
          rw [show min (E - p) 6 = E - p by omega, show (32 : Nat) = 2 ^ 5 from rfl, ← Nat.pow_mul, show 5 * (6 - (E - p)) = 30 - 5 * (E - p) by omega]
        rw [e] at a
        exact a
      exact ⟨rfl, rfl, rfl, Or.inr (Or.inr (Or.inr (Or.inr (Or.inr ⟨rfl, _, rfl, pwC_lt (fun k hk => m3 _ (by omega) (by omega)), Or.inr ⟨w, rfl, nm⟩⟩))))⟩
    · rw [if_neg w]
      exact ⟨rfl, rfl, rfl, Or.inr (Or.inr (Or.inr (Or.inr (Or.inr ⟨rfl, _, rfl, pwC_lt (fun k hk => m3 _ (by omega) (by omega)), Or.inl ⟨w, rfl, rfl⟩⟩))))⟩
  · rw [if_neg h6, if_neg h6, if_pos rfl, if_neg (show ¬ (nI E - nI p).toInt ≤ (6 : Int32).toInt by rw [dsub]; have : (6 : Int32).toInt = 6 := rfl; omega)]
    exact ⟨rfl, rfl, rfl, Or.inr (Or.inr (Or.inl ⟨rfl, rfl⟩))⟩
