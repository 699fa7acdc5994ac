/-! Both readers' tokens are the same: words. -/
theorem e_shlx (x : Nat) {k : Nat} (hk : k < 32) : (nI x <<< (nI k &&& 31)) = nI (x <<< k) := by
  rw [b_31 hk]
  apply Int32.toBitVec_inj.mp
  rw [Int32.toBitVec_shiftLeft, b_nI, b_nI, b_nI]
  apply BitVec.eq_of_toNat_eq
  have e : (BitVec.ofNat 32 k).smod 32 = BitVec.ofNat 32 k := by
    have : ∀ k, k < 32 → (BitVec.ofNat 32 k).smod 32 = BitVec.ofNat 32 k := by decide
    exact this k hk
  rw [e, BitVec.shiftLeft_eq', BitVec.toNat_shiftLeft, BitVec.toNat_ofNat, BitVec.toNat_ofNat, BitVec.toNat_ofNat, Nat.mod_eq_of_lt (show k < 2 ^ 32 by omega), Nat.shiftLeft_eq, Nat.shiftLeft_eq, Nat.mod_mul_mod]
/-- the number of a letter -/
noncomputable def lt5 (tb : List Int32) (p : Nat) : Nat := ((tb.getD p 0).toInt - 96).toNat
/-- letters as digits, from pl on -/
noncomputable def pw (tb : List Int32) (pl : Nat) : Nat → Nat
  | 0 => 0
  | k + 1 => pw tb pl k * 32 + lt5 tb (pl + k)
/-- a letter stands there -/
noncomputable def isL (tb : List Int32) (p : Nat) : Prop := 97 ≤ (tb.getD p 0).toInt ∧ (tb.getD p 0).toInt ≤ 122
theorem lt5_e {tb : List Int32} {p : Nat} (h : isL tb p) : tb.getD p 0 - 97 + 1 = nI (lt5 tb p) ∧ lt5 tb p < 32 := by
  obtain ⟨a, b⟩ := h
  unfold lt5
  refine ⟨?_, by omega⟩
  apply Int32.toInt_inj.mp
  rw [nI_toInt (by omega)]
  have e97 : (97 : Int32).toInt = 97 := rfl
  have m : (tb.getD p 0 - 97).toInt = (tb.getD p 0).toInt - 97 := by
    rw [Int32.toInt_sub, e97]; exact Int.bmod_eq_of_le (by omega) (by omega)
  rw [Int32.toInt_add, m, show (1 : Int32).toInt = 1 from rfl, Int.bmod_eq_of_le (by omega) (by omega)]
  omega
theorem or_ad (a : Nat) {b s : Nat} (h : b < 2 ^ s) : (a <<< s ||| b) = a * 2 ^ s + b := by
  rw [← Nat.shiftLeft_add_eq_or_of_lt h, Nat.shiftLeft_eq]
/-- the reference's name -/
theorem mnh_e {tb : List Int32} {at9 pl : Nat} (h7 : at9 ≤ 700) (hpl : pl ≤ at9) (h6 : at9 - pl ≤ 6) (hL : ∀ k, k < at9 - pl → isL tb (pl + k)) : ∀ (m k : Nat) (v : Nat), k ≤ 6 → 6 - k < m → v = pw tb pl (min k (at9 - pl)) * 32 ^ (k - min k (at9 - pl)) → mnhF tb at9 pl m k (nI v) = nI (pw tb pl (at9 - pl) * 32 ^ (6 - (at9 - pl)))
  | 0, k, v, _, h, _ => absurd h (Nat.not_lt_zero _)
  | m + 1, k, v, hk, hm, hv => by
    have q1 := nI_toInt (n := k) (by omega)
    have q2 := nI_toInt (n := at9) (by omega)
    have q3 := nI_toInt (n := pl + k) (by omega)
    have e6 : (6 : Int32).toInt = 6 := rfl
    unfold mnhF
    rw [q1, q2, q3, e6]
    by_cases c : (6 : Int) ≤ k
    · rw [if_pos c, hv]
      have e : k = 6 := by omega
      subst e
      rw [show min 6 (at9 - pl) = at9 - pl by omega]
    · rw [if_neg c]
      have sh : (nI v <<< ((5 : Int32) &&& 31)) = nI (v <<< 5) := e_shlx v (k := 5) (by decide)
      by_cases d : (at9 : Int) ≤ (pl + k : Nat)
      · rw [if_pos d, sh, show (0 : Int32) = nI 0 from rfl, e_or, Nat.or_zero, Nat.shiftLeft_eq]
        refine mnh_e h7 hpl h6 hL m (k + 1) _ (by omega) (by omega) ?_
        rw [hv, show min (k + 1) (at9 - pl) = at9 - pl by omega, show min k (at9 - pl) = at9 - pl by omega, show k + 1 - (at9 - pl) = (k - (at9 - pl)) + 1 by omega, Nat.pow_succ, Nat.mul_assoc]
        rfl
      · rw [if_neg d]
        obtain ⟨a, b⟩ := lt5_e (hL k (by omega))
        rw [a, sh, e_or, or_ad v (s := 5) b]
        refine mnh_e h7 hpl h6 hL m (k + 1) _ (by omega) (by omega) ?_
        rw [hv, show min (k + 1) (at9 - pl) = k + 1 by omega, show min k (at9 - pl) = k by omega, Nat.sub_self, Nat.sub_self, Nat.pow_zero, Nat.mul_one, Nat.mul_one]
        rfl
/-- where the letters end -/
theorem msm_e {tb : List Int32} {ln : Nat} (hln : ln ≤ 700) : ∀ (m p : Nat), p ≤ ln → ln - p < m → p ≤ msmF tb ln m p ∧ msmF tb ln m p ≤ ln ∧ (∀ q, p ≤ q → q < msmF tb ln m p → isL tb q) ∧ (msmF tb ln m p < ln → ¬ isL tb (msmF tb ln m p))
  | 0, p, _, h => absurd h (Nat.not_lt_zero _)
  | m + 1, p, hp, hm => by
    have q1 := nI_toInt (n := ln) (by omega)
    have q2 := nI_toInt (n := p) (by omega)
    have e97 : (97 : Int32).toInt = 97 := rfl
    have e122 : (122 : Int32).toInt = 122 := rfl
    have e1 : (-1 : Int32).toInt = -1 := rfl
    have eh : mHere tb ln p = if (ln : Int) ≤ p then -1 else tb.getD p 0 := by unfold mHere; rw [q1, q2]
    unfold msmF
    rw [eh, e97, e122]
    by_cases h : (ln : Int) ≤ p
    · simp only [if_pos h, e1]
      rw [if_pos (by decide)]
      exact ⟨Nat.le_refl _, hp, fun q a b => by omega, fun a => by omega⟩
    · simp only [if_neg h]
      by_cases h1 : (tb.getD p 0).toInt < 97
      · rw [if_pos h1]
        exact ⟨Nat.le_refl _, hp, fun q a b => by omega, fun _ b => by have := b.1; omega⟩
      · rw [if_neg h1]
        by_cases h2 : 122 < (tb.getD p 0).toInt
        · rw [if_pos h2]
          exact ⟨Nat.le_refl _, hp, fun q a b => by omega, fun _ b => by have := b.2; omega⟩
        · rw [if_neg h2]
          obtain ⟨a1, a2, a3, a4⟩ := msm_e (tb := tb) hln m (p + 1) (by omega) (by omega)
          refine ⟨by omega, a2, fun q b c => ?_, a4⟩
          by_cases e : q = p
          · rw [e]; exact ⟨by omega, by omega⟩
          · exact a3 q (by omega) c
theorem rHas_1 {tb : List Int32} {ln p : Nat} (hln : ln ≤ 700) (hp : p < ln) (h : isL tb p) : rHas tb ln p 97 122 = 1 := by
  have q1 := nI_toInt (n := ln) (by omega)
  have q2 := nI_toInt (n := p) (by omega)
  have e97 : (97 : Int32).toInt = 97 := rfl
  have e122 : (122 : Int32).toInt = 122 := rfl
  obtain ⟨a, b⟩ := h
  unfold rHas
  rw [q1, q2, nI_clamp (by omega), if_neg (by omega), if_neg (by omega), if_neg (by omega)]
theorem rHas_0 {tb : List Int32} {ln p : Nat} (hln : ln ≤ 700) (hp : p ≤ 700) (h : ¬ isL tb p) : rHas tb ln p 97 122 = 0 := by
  have q1 := nI_toInt (n := ln) (by omega)
  have q2 := nI_toInt (n := p) (by omega)
  have e97 : (97 : Int32).toInt = 97 := rfl
  have e122 : (122 : Int32).toInt = 122 := rfl
  unfold isL at h
  unfold rHas
  rw [q1, q2, nI_clamp (by omega)]
  by_cases c : (ln : Int) ≤ p
  · rw [if_pos c]
  · rw [if_neg c]
    by_cases d : (tb.getD p 0).toInt < (97 : Int32).toInt
    · rw [if_pos d]
    · rw [if_neg d, if_pos (by omega)]
/-- a word as the class packs it -/
noncomputable def pwC (tb : List Int32) (pl n : Nat) : Nat := pw tb pl (min n 6) * 2 ^ (30 - 5 * min n 6)
theorem pwC_up {tb : List Int32} {pl le : Nat} (h : le < 6) (hL : isL tb (pl + le)) : (nI (pwC tb pl le) ||| ((tb.getD (pl + le) 0 - 97 + 1) <<< (((25 : Int32) - nI (5 * le)) &&& 31))) = nI (pwC tb pl (le + 1)) := by
  obtain ⟨a, b⟩ := lt5_e hL
  have e25 : (25 : Int32) - nI (5 * le) = nI (25 - 5 * le) := by
    have : ∀ k, k < 6 → (25 : Int32) - nI (5 * k) = nI (25 - 5 * k) := by decide
    exact this le h
  rw [a, e25, e_shlx _ (show 25 - 5 * le < 32 by omega), e_or]
  congr 1
  unfold pwC
  rw [show min le 6 = le by omega, show min (le + 1) 6 = le + 1 by omega, show 30 - 5 * le = 5 + (25 - 5 * le) by omega, show 30 - 5 * (le + 1) = 25 - 5 * le by omega]
  have hb : lt5 tb (pl + le) <<< (25 - 5 * le) < 2 ^ (5 + (25 - 5 * le)) := by
    rw [Nat.shiftLeft_eq, Nat.pow_add]
    exact Nat.mul_lt_mul_of_pos_right b (Nat.two_pow_pos _)
  rw [← Nat.shiftLeft_eq (pw tb pl le), or_ad _ hb, Nat.shiftLeft_eq]
  show _ = (pw tb pl le * 32 + lt5 tb (pl + le)) * 2 ^ (25 - 5 * le)
  rw [Nat.add_mul, Nat.pow_add, ← Nat.mul_assoc]
/-- a word as the class reads it -/
theorem tw_e {tb : List Int32} {ln pl E : Nat} {kd : Int32} (hln : ln ≤ 700) (h1 : E ≤ ln) (hL : ∀ q, pl ≤ q → q < E → isL tb q) (hE : E < ln → ¬ isL tb E) : ∀ (m le : Nat), pl + le ≤ E → ln - (pl + le) < m → twF tb ln m le (nI (pwC tb pl le)) (pl + le) kd = (nI (pwC tb pl (E - pl)), E, if E - pl ≤ 6 then 1 else 5)
  | 0, le, _, h => absurd h (Nat.not_lt_zero _)
  | m + 1, le, hp, hm => by
    have q1 := nI_toInt (n := ln) (by omega)
    have q2 := nI_toInt (n := pl + le) (by omega)
    have q3 := nI_toInt (n := le) (by omega)
    have e6 : (6 : Int32).toInt = 6 := rfl
    have fin : pl + le = E → (if (nI le).toInt ≤ (6 : Int32).toInt then (nI (pwC tb pl le), pl + le, (1 : Int32)) else (nI (pwC tb pl le), pl + le, (5 : Int32))) = (nI (pwC tb pl (E - pl)), E, if E - pl ≤ 6 then 1 else 5) := fun e => by
      rw [show E - pl = le by omega, ← e, q3, e6]
      by_cases c : le ≤ 6
      · rw [if_pos (by omega), if_pos c]
      · rw [if_neg (by omega), if_neg c]
    unfold twF
    rw [q1, q2]
    by_cases c : (ln : Int) ≤ (pl + le : Nat)
    · rw [if_pos c]
      exact fin (by omega)
    · rw [if_neg c]
      by_cases d : pl + le = E
      · rw [if_pos (rHas_0 hln (by omega) (by rw [d]; exact hE (by omega)))]
        exact fin d
      · have hl := hL (pl + le) (by omega) (by omega)
        rw [rHas_1 hln (by omega) hl, if_neg (show ¬ (1 : Int32) = 0 by decide), q3, e6, nI_clamp (by omega)]
        have ih := tw_e (kd := kd) hln h1 hL hE m (le + 1) (by omega) (by omega)
        by_cases g : (6 : Int) ≤ le
        · rw [if_pos g]
          rw [show pwC tb pl (le + 1) = pwC tb pl le by unfold pwC; rw [show min (le + 1) 6 = 6 by omega, show min le 6 = 6 by omega]] at ih
          exact ih
        · rw [if_neg g, pwC_up (by omega) hl]
          exact ih
