/-! feed: the tapes stay alike. -/
/-- a byte and a number 0 .. 255 -/
noncomputable def bR (x y : Int32) : Prop := (x = y ∧ 0 ≤ x.toInt ∧ x.toInt ≤ 127) ∨ (x.toInt < 0 ∧ 127 < y.toInt)
theorem bR_w (u w : Int32) (h : u.toBitVec.setWidth 8 = w.toBitVec.setWidth 8) : bR (u.toInt8.toInt32) (w &&& 255) := by
  have e1 : (u.toInt8.toInt32).toInt = (w.toBitVec.setWidth 8).toInt := by
    rw [Int8.toInt_toInt32]
    show (u.toInt8).toBitVec.toInt = _
    rw [Int32.toBitVec_toInt8, BitVec.signExtend_eq_setWidth_of_le _ (by decide), h]
  have e2 : (w &&& 255).toInt = ((w.toBitVec.setWidth 8).toNat : Int) := by
    have a : (w &&& 255) = nI (w.toBitVec.toNat % 256) := by
      apply Int32.toBitVec_inj.mp
      apply BitVec.eq_of_toNat_eq
      rw [Int32.toBitVec_and, BitVec.toNat_and]
      show w.toBitVec.toNat &&& 255 = (BitVec.ofNat 32 (w.toBitVec.toNat % 256)).toNat
      rw [BitVec.toNat_ofNat, show (255 : Nat) = 2 ^ 8 - 1 from rfl, Nat.and_two_pow_sub_one_eq_mod]
      have := Nat.mod_lt w.toBitVec.toNat (show 0 < 256 by decide)
      rw [show (2 : Nat) ^ 8 = 256 from rfl, Nat.mod_eq_of_lt (show w.toBitVec.toNat % 256 < 2 ^ 32 by omega)]
    have := Nat.mod_lt w.toBitVec.toNat (show 0 < 256 by decide)
    rw [a, nI_toInt (by omega), BitVec.toNat_setWidth]
  have lt := (w.toBitVec.setWidth 8).isLt
  have e3 : (w.toBitVec.setWidth 8).toInt = if 2 * (w.toBitVec.setWidth 8).toNat < 2 ^ 8 then ((w.toBitVec.setWidth 8).toNat : Int) else ((w.toBitVec.setWidth 8).toNat : Int) - 2 ^ 8 := by
    rw [BitVec.toInt_eq_toNat_cond]
    norm_cast
  revert e1 e2 e3 lt
  generalize (w.toBitVec.setWidth 8).toInt = A
  generalize (w.toBitVec.setWidth 8).toNat = N
  intro e1 e2 lt e3
  unfold bR
  by_cases c : 2 * N < 2 ^ 8
  · rw [if_pos c] at e3
    left
    refine ⟨Int32.toInt_inj.mp (by omega), by omega, by omega⟩
  · rw [if_neg c] at e3
    right
    omega
theorem shw (A : BitVec 32) {s : Nat} (hs : s ≤ 24) : (A >>> s).setWidth 8 = (A.sshiftRight s).setWidth 8 := by
  apply BitVec.eq_of_getLsbD_eq
  intro i hi
  rw [BitVec.getLsbD_setWidth, BitVec.getLsbD_setWidth, BitVec.getLsbD_ushiftRight, BitVec.getLsbD_sshiftRight]
  have h1 : s + i < 32 := by omega
  have h2 : ¬ 32 ≤ i := by omega
  simp [hi, h1, h2]
theorem bR_s (a : Int32) (u w : Int32) {s : Nat} (hs : s ≤ 24) (h1 : u.toBitVec = a.toBitVec >>> s) (h2 : w.toBitVec = a.toBitVec.sshiftRight s) : bR (vp_nar .byte u.toInt8.toInt32) (w &&& 255) := by
  show bR (u.toInt8.toInt32).toInt8.toInt32 (w &&& 255)
  rw [Int8.toInt8_toInt32]
  exact bR_w u w (by rw [h1, h2, shw _ hs])
noncomputable def cB (a x : Int32) : Int32 := vp_nar .byte (((a).toUInt32 >>> ((x).toUInt32 &&& Int32.toUInt32 31)).toInt32).toInt8.toInt32
noncomputable def rB (a : Int32) (k : Nat) : Int32 := (a >>> (((24 : Int32) - ((8 : Int32) * ((nI k) - (nI k) / (4 : Int32) * (4 : Int32)))) &&& 31)) &&& (255 : Int32)
noncomputable def sB (k : Nat) : Int32 := if k % 4 = 0 then 24 else if k % 4 = 1 then 16 else if k % 4 = 2 then 8 else 0
theorem bR_0 (a : Int32) : bR (cB a (sB 0)) (rB a 0) := bR_s a _ _ (s := 24) (by decide) rfl rfl
theorem bR_1 (a : Int32) : bR (cB a (sB 1)) (rB a 1) := bR_s a _ _ (s := 16) (by decide) rfl rfl
theorem bR_2 (a : Int32) : bR (cB a (sB 2)) (rB a 2) := bR_s a _ _ (s := 8) (by decide) rfl rfl
theorem bR_3 (a : Int32) : bR (cB a (sB 3)) (rB a 3) := bR_s a _ _ (s := 0) (by decide) rfl rfl
theorem bR_4 (a : Int32) : bR (cB a (sB 4)) (rB a 4) := bR_s a _ _ (s := 24) (by decide) rfl rfl
theorem bR_5 (a : Int32) : bR (cB a (sB 5)) (rB a 5) := bR_s a _ _ (s := 16) (by decide) rfl rfl
theorem bR_6 (a : Int32) : bR (cB a (sB 6)) (rB a 6) := bR_s a _ _ (s := 8) (by decide) rfl rfl
theorem bR_7 (a : Int32) : bR (cB a (sB 7)) (rB a 7) := bR_s a _ _ (s := 0) (by decide) rfl rfl
theorem bR_8 (a : Int32) : bR (cB a (sB 8)) (rB a 8) := bR_s a _ _ (s := 24) (by decide) rfl rfl
theorem bR_9 (a : Int32) : bR (cB a (sB 9)) (rB a 9) := bR_s a _ _ (s := 16) (by decide) rfl rfl
theorem bR_10 (a : Int32) : bR (cB a (sB 10)) (rB a 10) := bR_s a _ _ (s := 8) (by decide) rfl rfl
theorem bR_11 (a : Int32) : bR (cB a (sB 11)) (rB a 11) := bR_s a _ _ (s := 0) (by decide) rfl rfl
theorem bR_12 (a : Int32) : bR (cB a (sB 12)) (rB a 12) := bR_s a _ _ (s := 24) (by decide) rfl rfl
theorem bR_13 (a : Int32) : bR (cB a (sB 13)) (rB a 13) := bR_s a _ _ (s := 16) (by decide) rfl rfl
theorem bR_14 (a : Int32) : bR (cB a (sB 14)) (rB a 14) := bR_s a _ _ (s := 8) (by decide) rfl rfl
theorem bR_15 (a : Int32) : bR (cB a (sB 15)) (rB a 15) := bR_s a _ _ (s := 0) (by decide) rfl rfl
theorem bR_16 (a : Int32) : bR (cB a (sB 16)) (rB a 16) := bR_s a _ _ (s := 24) (by decide) rfl rfl
theorem bR_17 (a : Int32) : bR (cB a (sB 17)) (rB a 17) := bR_s a _ _ (s := 16) (by decide) rfl rfl
theorem bR_18 (a : Int32) : bR (cB a (sB 18)) (rB a 18) := bR_s a _ _ (s := 8) (by decide) rfl rfl
theorem bR_19 (a : Int32) : bR (cB a (sB 19)) (rB a 19) := bR_s a _ _ (s := 0) (by decide) rfl rfl
theorem bR_k (a : Int32) : ∀ k, k < 20 → bR (cB a (sB k)) (rB a k) := by
  intro k hk
  have c : k = 0 ∨ k = 1 ∨ k = 2 ∨ k = 3 ∨ k = 4 ∨ k = 5 ∨ k = 6 ∨ k = 7 ∨ k = 8 ∨ k = 9 ∨ k = 10 ∨ k = 11 ∨ k = 12 ∨ k = 13 ∨ k = 14 ∨ k = 15 ∨ k = 16 ∨ k = 17 ∨ k = 18 ∨ k = 19 := by omega
  rcases c with e | e | e | e | e | e | e | e | e | e | e | e | e | e | e | e | e | e | e | e <;> subst e
  · exact bR_0 a
  · exact bR_1 a
  · exact bR_2 a
  · exact bR_3 a
  · exact bR_4 a
  · exact bR_5 a
  · exact bR_6 a
  · exact bR_7 a
  · exact bR_8 a
  · exact bR_9 a
  · exact bR_10 a
  · exact bR_11 a
  · exact bR_12 a
  · exact bR_13 a
  · exact bR_14 a
  · exact bR_15 a
  · exact bR_16 a
  · exact bR_17 a
  · exact bR_18 a
  · exact bR_19 a
noncomputable def fSel (a b c d e : Int32) (k : Nat) : Int32 := if k < 4 then a else if k < 8 then b else if k < 12 then c else if k < 16 then d else e
theorem mfd_at (a b c d e : Int32) {t : Nat} (m : Nat) : ∀ (k : Nat) (tb : List Int32), k ≤ 20 → 20 - k < m → ∀ q, ((mfdF a b c d e m k t tb).2.2).getD q 0 = if t + k ≤ q ∧ q < t + 20 then rB (fSel a b c d e (q - t)) (q - t) else tb.getD q 0 := by
  induction m with
  | zero => intro k tb _ h; exact absurd h (Nat.not_lt_zero _)
  | succ m ih =>
    intro k tb hk hm q
    have qk := nI_toInt (n := k) (by omega)
    have z4 : (4 : Int32).toInt = 4 := rfl
    have z8 : (8 : Int32).toInt = 8 := rfl
    have z12 : (12 : Int32).toInt = 12 := rfl
    have z16 : (16 : Int32).toInt = 16 := rfl
    have z20 : (20 : Int32).toInt = 20 := rfl
    by_cases h20 : k = 20
    · rw [mfdF, if_pos (by omega), if_neg (by omega)]
    · have st : mfdF a b c d e (m + 1) k t tb = mfdF a b c d e m (k + 1) t (zset 0 tb (t + k) (rB (fSel a b c d e k) k)) := by
        rw [mfdF, if_neg (by omega)]
        unfold fSel
        by_cases h4 : k < 4
        · rw [if_neg (by omega), if_pos h4]; rfl
        · rw [if_pos (by omega), if_neg h4]
          by_cases h8 : k < 8
          · rw [if_neg (by omega), if_pos h8]; rfl
          · rw [if_pos (by omega), if_neg h8]
            by_cases h12 : k < 12
            · rw [if_neg (by omega), if_pos h12]; rfl
            · rw [if_pos (by omega), if_neg h12]
              by_cases h16 : k < 16
              · rw [if_neg (by omega), if_pos h16]; rfl
              · rw [if_pos (by omega), if_neg h16]; rfl
      rw [st, ih (k + 1) _ (by omega) (by omega) q, zset_get]
      by_cases e9 : q = t + k
      · rw [if_neg (by omega), if_pos e9, if_pos (by omega), show q - t = k by omega]
      · by_cases e10 : t + (k + 1) ≤ q ∧ q < t + 20
        · rw [if_pos e10, if_pos (by omega)]
        · rw [if_neg e10, if_neg e9, if_neg (by omega)]
theorem p4_at {t : Nat} (ht : t ≤ 700) (a : Int32) (tb : List Int32) (q : Nat) : (p4F t a tb).getD q 0 = if t ≤ q ∧ q < t + 4 then cB a (sB (q - t)) else tb.getD q 0 := by
  unfold p4F
  rw [zset_get, zset_get, zset_get, zset_get, nI_clamp (by omega), nI_clamp (by omega), nI_clamp (by omega), nI_clamp (by omega)]
  by_cases h3 : q = t + 1 + 1 + 1
  · rw [if_pos h3, if_pos (by omega), show q - t = 3 by omega]; rfl
  · rw [if_neg h3]
    by_cases h2 : q = t + 1 + 1
    · rw [if_pos h2, if_pos (by omega), show q - t = 2 by omega]; rfl
    · rw [if_neg h2]
      by_cases h1 : q = t + 1
      · rw [if_pos h1, if_pos (by omega), show q - t = 1 by omega]; rfl
      · rw [if_neg h1]
        by_cases h0 : q = t
        · rw [if_pos h0, if_pos (by omega), show q - t = 0 by omega]; rfl
        · rw [if_neg h0, if_neg (by omega)]
theorem sB_m {k : Nat} (i : Nat) (h : 4 * i ≤ k) : sB (k - 4 * i) = sB k := by
  unfold sB
  rw [show (k - 4 * i) % 4 = k % 4 by omega]
theorem fd_at {a b c d e : Int32} {t : Nat} (ht : t ≤ 680) (tb : List Int32) (q : Nat) : (fdF a b c d e t tb).getD q 0 = if t ≤ q ∧ q < t + 20 then cB (fSel a b c d e (q - t)) (sB (q - t)) else tb.getD q 0 := by
  unfold fdF fSel
  rw [p4_at (by omega), p4_at (by omega), p4_at (by omega), p4_at (by omega), p4_at (by omega)]
  by_cases h4 : t + 4 + 4 + 4 + 4 ≤ q ∧ q < t + 4 + 4 + 4 + 4 + 4
  · rw [if_pos h4, if_pos (by omega), if_neg (by omega), if_neg (by omega), if_neg (by omega), if_neg (by omega), show q - (t + 4 + 4 + 4 + 4) = (q - t) - 4 * 4 by omega, sB_m 4 (by omega)]
  · rw [if_neg h4]
    by_cases h3 : t + 4 + 4 + 4 ≤ q ∧ q < t + 4 + 4 + 4 + 4
    · rw [if_pos h3, if_pos (by omega), if_neg (by omega), if_neg (by omega), if_neg (by omega), if_pos (by omega), show q - (t + 4 + 4 + 4) = (q - t) - 4 * 3 by omega, sB_m 3 (by omega)]
    · rw [if_neg h3]
      by_cases h2 : t + 4 + 4 ≤ q ∧ q < t + 4 + 4 + 4
      · rw [if_pos h2, if_pos (by omega), if_neg (by omega), if_neg (by omega), if_pos (by omega), show q - (t + 4 + 4) = (q - t) - 4 * 2 by omega, sB_m 2 (by omega)]
      · rw [if_neg h2]
        by_cases h1 : t + 4 ≤ q ∧ q < t + 4 + 4
        · rw [if_pos h1, if_pos (by omega), if_neg (by omega), if_pos (by omega), show q - (t + 4) = (q - t) - 4 * 1 by omega, sB_m 1 (by omega)]
        · rw [if_neg h1]
          by_cases h0 : t ≤ q ∧ q < t + 4
          · rw [if_pos h0, if_pos (by omega), if_pos (by omega)]
          · rw [if_neg h0, if_neg (by omega)]
theorem feed_e {tC tR : List Int32} {t : Nat} (h : tRel tC tR) (ht : t ≤ 680) (a b c d e : Int32) : tRel (fdF a b c d e t tC) (mfdF a b c d e (20 - 0 + 1) 0 t tR).2.2 := by
  intro q
  rw [fd_at ht, mfd_at _ _ _ _ _ _ _ _ (by decide) (by decide)]
  by_cases k : t ≤ q ∧ q < t + 20
  · rw [if_pos k, if_pos (by omega)]
    exact bR_k _ _ (by omega)
  · rw [if_neg k, if_neg (by omega)]
    exact h q
