/-! Drawing by chance: the numbers; a posture that is drawn holds its own place. -/
noncomputable def jnx (n : Nat) : Nat := (n * 1103515245 + 12345) % 2147483648
noncomputable def jsd (n : Nat) : Nat → Nat
  | 0 => n
  | k + 1 => jnx (jsd n k)
theorem jnx_lt (n : Nat) : jnx n < 2147483648 := Nat.mod_lt _ (by decide)
theorem jsd_lt {n : Nat} (h : n < 2147483648) : ∀ k : Nat, jsd n k < 2147483648
  | 0 => h
  | _ + 1 => jnx_lt _
theorem l_mask31 {m : Nat} (h : m < 2 ^ 64) : lN m &&& 2147483647 = lN (m % 2147483648) := by
  apply Int64.toBitVec_inj.mp
  apply BitVec.eq_of_toNat_eq
  rw [Int64.toBitVec_and, BitVec.toNat_and]
  show (BitVec.ofNat 64 m).toNat &&& (2 ^ 31 - 1) = (BitVec.ofNat 64 (m % 2147483648)).toNat
  rw [BitVec.toNat_ofNat, BitVec.toNat_ofNat, Nat.mod_eq_of_lt h, Nat.and_two_pow_sub_one_eq_mod]
  omega
theorem l_next {n : Nat} (h : n < 2147483648) : (lN n * 1103515245 + 12345) &&& 2147483647 = lN (jnx n) := by
  rw [show (1103515245 : Int64) = lN 1103515245 from rfl, show (12345 : Int64) = lN 12345 from rfl, lN_mul, lN_add, l_mask31 (by omega)]
  rfl
theorem i_next (n : Nat) : (nI n * 1103515245 + 12345) &&& 2147483647 = nI (jnx n) := by
  rw [show (1103515245 : Int32) = nI 1103515245 from rfl, show (12345 : Int32) = nI 12345 from rfl, pk_mul, nI_add, pk_and _ 31 (by decide)]
  refine congrArg nI ?_
  show (BitVec.ofNat 32 (n * 1103515245 + 12345)).toNat % 2 ^ 31 = jnx n
  rw [BitVec.toNat_ofNat]
  unfold jnx
  omega
noncomputable def wLm (ll lg : List Int32) : Prop := ∀ j : Nat, j < 6 → (zLow.getD j 0).toInt ≤ (ll.getD j 0).toInt ∧ (ll.getD j 0).toInt ≤ (lg.getD j 0).toInt ∧ (lg.getD j 0).toInt ≤ (zHigh.getD j 0).toInt
theorem zLow_rng : ∀ j : Nat, j < 6 → -64 ≤ (zLow.getD j 0).toInt ∧ (zHigh.getD j 0).toInt ≤ 99 ∧ (zHigh.getD j 0).toInt - (zLow.getD j 0).toInt ≤ 127 := by decide +kernel
noncomputable def jK (ll lg : List Int32) (j : Nat) : Nat := ((lg.getD j 0).toInt - (ll.getD j 0).toInt + 1).toNat
theorem of_nI {ll lg : List Int32} (h : wLm ll lg) {j : Nat} (hj : j < 6) : lg.getD j 0 - ll.getD j 0 + 1 = nI (jK ll lg j) ∧ 1 ≤ jK ll lg j ∧ jK ll lg j ≤ 128 := by
  have h1 := h j hj
  have h2 := zLow_rng j hj
  have h3 : 1 ≤ jK ll lg j ∧ jK ll lg j ≤ 128 := by unfold jK; omega
  refine ⟨Int32.toInt_inj.mp ?_, h3⟩
  rw [Int32.toInt_add, Int32.toInt_sub, nI_toInt (by omega), show (1 : Int32).toInt = 1 from rfl, Int.bmod_eq_of_le (n := (lg.getD j 0).toInt - (ll.getD j 0).toInt) (by omega) (by omega), Int.bmod_eq_of_le (by omega) (by omega)]
  unfold jK
  omega
theorem l_draw {n k : Nat} (hn : n < 2147483648) (hk : 1 ≤ k ∧ k ≤ 128) : (lN n / 65536 - lN n / 65536 / (nI k).toInt64 * (nI k).toInt64).toInt32 = nI (n / 65536 % k) := by
  rw [show (65536 : Int64) = lN 65536 from rfl, nI_l (by omega), pk_lDiv (by omega) (by decide) (by decide), pk_lRem (by omega) (by omega) (by omega), lN_i]
theorem i_draw {n k : Nat} (hn : n < 2147483648) (hk : 1 ≤ k ∧ k ≤ 128) : (nI n >>> ((16 : Int32) &&& 31)) - (nI n >>> ((16 : Int32) &&& 31)) / nI k * nI k = nI (n / 65536 % k) := by
  rw [pk_shrN (by omega) _ 16 (by decide), pk_rem (by omega) (by omega) (by omega)]
noncomputable def jv (ll lg : List Int32) (n j : Nat) : Int32 := ll.getD j 0 + nI (jsd n (j + 1) / 65536 % jK ll lg j)
theorem jv_rng {ll lg : List Int32} (h : wLm ll lg) (n : Nat) {j : Nat} (hj : j < 6) : (ll.getD j 0).toInt ≤ (jv ll lg n j).toInt ∧ (jv ll lg n j).toInt ≤ (lg.getD j 0).toInt := by
  have h1 := h j hj
  have h2 := zLow_rng j hj
  have h3 := (of_nI h hj).2
  have h4 := Nat.mod_lt (jsd n (j + 1) / 65536) (show 0 < jK ll lg j by omega)
  have h5 : (jK ll lg j : Int) = (lg.getD j 0).toInt - (ll.getD j 0).toInt + 1 := by unfold jK; omega
  unfold jv
  rw [Int32.toInt_add, nI_toInt (by omega), Int.bmod_eq_of_le (by omega) (by omega)]
  omega
theorem jv_b {ll lg : List Int32} (h : wLm ll lg) (n : Nat) {j : Nat} (hj : j < 6) : -64 ≤ (jv ll lg n j).toInt ∧ (jv ll lg n j).toInt ≤ 191 :=
  ⟨Int.le_trans (zLow_rng j hj).1 (Int.le_trans (h j hj).1 (jv_rng h n hj).1), Int.le_trans (jv_rng h n hj).2 (Int.le_trans (h j hj).2.2 (Int.le_trans (zLow_rng j hj).2.1 (by decide)))⟩
theorem jallow_t {ll lg : List Int32} {j : Nat} (hj : j < 6) {v : Int32} (h : (ll.getD j 0).toInt ≤ v.toInt ∧ v.toInt ≤ (lg.getD j 0).toInt) : jallow ll lg (nI j) v = true := by
  unfold jallow
  rw [nI_clamp (by omega), decide_eq_false (fun q => by have := Int32.lt_iff_toInt_lt.mp q; omega), decide_eq_false (fun q => by have := Int32.lt_iff_toInt_lt.mp q; omega)]
  rfl
/-! a posture within its limits is found by its own place -/
theorem mPin_mem {lk hg a : Int32} : ∀ (n : Nat) (e c : Int32), e.toInt + n = 32 → n ≤ 64 → e.toInt ≤ c.toInt → c.toInt ≤ 31 → lk * (jsin a + jsin (a + c)) = hg → (a, a + c) ∈ mPin lk hg a n e
  | 0, _, _, _, _, _, _, _ => by omega
  | n + 1, e, c, h1, h2, h3, h4, h5 => by
    have he : (e + 1).toInt = e.toInt + 1 := z_inc (by omega)
    show (a, a + c) ∈ (if lk * (jsin a + jsin (a + e)) = hg then [(a, a + e)] else []) ++ mPin lk hg a n (e + 1)
    by_cases hc : c = e
    · rw [← hc, if_pos h5]
      exact List.mem_append_left _ (List.mem_singleton.mpr rfl)
    · have : c.toInt ≠ e.toInt := fun k => hc (Int32.toInt_inj.mp k)
      exact List.mem_append_right _ (mPin_mem n (e + 1) c (by omega) (by omega) (by omega) h4 h5)
theorem mPout_mem {lk hg : Int32} {q : Int32 × Int32} : ∀ (n : Nat) (a c : Int32), a.toInt + n = 32 → n ≤ 64 → a.toInt ≤ c.toInt → c.toInt ≤ 31 → q ∈ mPin lk hg c 64 (-32) → q ∈ mPout lk hg n a
  | 0, _, _, _, _, _, _, _ => by omega
  | n + 1, a, c, h1, h2, h3, h4, h5 => by
    have he : (a + 1).toInt = a.toInt + 1 := z_inc (by omega)
    show q ∈ mPin lk hg a 64 (-32) ++ mPout lk hg n (a + 1)
    by_cases hc : c = a
    · rw [← hc]
      exact List.mem_append_left _ h5
    · have : c.toInt ≠ a.toInt := fun k => hc (Int32.toInt_inj.mp k)
      exact List.mem_append_right _ (mPout_mem n (a + 1) c (by omega) (by omega) (by omega) h4 h5)
theorem sFold_mem {lk hd ht z p a e : Int32} (hl : 1 ≤ lk.toInt ∧ lk.toInt ≤ 99) (ha : -32 ≤ a.toInt ∧ a.toInt ≤ 31) (he : -32 ≤ e.toInt ∧ e.toInt ≤ 31) (h : lk * (jsin a + jsin (a + e)) = sRise lk hd ht z p) : (a, e) ∈ sFold lk hd ht z p := by
  have h1 : (a, a + e) ∈ mPout lk (sRise lk hd ht z p) 64 (-32) := mPout_mem 64 (-32) a (by decide) (by decide) ha.1 ha.2 (mPin_mem 64 (-32) e (by decide) (by decide) he.1 he.2 h)
  rw [mPairs hl] at h1
  obtain ⟨q, hq, h2⟩ := List.mem_map.mp h1
  have h3 : q.1 = a := congrArg Prod.fst h2
  have h4 : q.1 + q.2 = a + e := congrArg Prod.snd h2
  have h5 : q.2 = e := by
    rw [h3] at h4
    rw [← i32_aes a q.2, h4, i32_aes]
  rw [show (a, e) = q by rw [← h3, ← h5]]
  exact hq
theorem i32_xyz (x y z : Int32) : x + y + z - x - z = y := by
  rw [Int32.sub_sub, Int32.add_assoc, Int32.add_comm y z, ← Int32.add_assoc, Int32.add_comm (x + z) y, Int32.add_sub_cancel]
theorem roll_own {v k : Int32} (h : -64 ≤ v.toInt ∧ v.toInt ≤ 63) (hk : r6 k = r6 v) : v = (k &&& 63) - 64 ∨ v = k &&& 63 := by
  rw [r6_and, hk]
  have h1 := r6_lt v
  have h2 : (r6 v : Int) = v.toInt % 64 := by
    unfold r6
    have h3 : v.toInt = v.toBitVec.toInt := rfl
    rw [h3, BitVec.toInt_eq_toNat_cond]
    have := v.toBitVec.isLt
    split <;> omega
  by_cases h0 : 0 ≤ v.toInt
  · right
    apply Int32.toInt_inj.mp
    rw [nI_toInt (by omega)]
    omega
  · left
    apply Int32.toInt_inj.mp
    rw [Int32.toInt_sub, nI_toInt (by omega), show (64 : Int32).toInt = 64 from rfl, Int.bmod_eq_of_le (by omega) (by omega)]
    omega
theorem tBlk_own {ll lg : List Int32} {lk hd x y p v0 v1 v2 v3 v4 v5 ro : Int32} (h5 : tFive ll lg v0 v1 v2 v3 v4) (h6 : jallow ll lg 5 v5 = true) (hx : x = 1000000 * v0 + jout lk hd v2 (v2 + v3) ((v2 + v3) + v4) * jcos v1) (hy : y = jout lk hd v2 (v2 + v3) ((v2 + v3) + v4) * jsin v1) (hp : r6 p = r6 ((v2 + v3) + v4)) (h0 : 0 ≤ v0.toInt ∧ v0.toInt ≤ 99) (h4 : -32 ≤ v4.toInt ∧ v4.toInt ≤ 31) (hro : v5 = ro - 64 ∨ v5 = ro) : (v0, v1, v2, v3, v4, v5) ∈ tBlk ll lg lk hd x y p v1 v2 v3 ro := by
  have e1 : jout lk hd v2 (v2 + v3) p = jout lk hd v2 (v2 + v3) ((v2 + v3) + v4) := by unfold jout; rw [jcos_r hp]
  have hm : (v0.toInt * (1000000 : Int32).toInt) = v0.toInt * 1000000 := rfl
  have e2 : (1000000 * v0) / 1000000 = v0 := by
    rw [Int32.mul_comm]
    exact i32_mul_div (by decide) (by omega) (by omega)
  have e3 : tL lk hd x p v1 v2 v3 = 1000000 * v0 := by
    unfold tL
    rw [e1, hx, Int32.add_sub_cancel]
  have e4 : jw (p - (v2 + v3)) = v4 := by
    rw [← jw_id h4]
    apply jw_r
    rw [r6_sub, hp, ← r6_sub, i32_aes]
  have e5 : tOk ll lg lk hd x y p v1 v2 v3 = true := by
    refine tOk_iff.mpr ⟨by rw [e1, hy], ?_, ?_⟩
    · rw [e3, e2, Int32.mul_comm, Int32.sub_self]
    · rw [e3, e2, e4]
      exact h5
  unfold tBlk
  rw [if_pos e5, e3, e2, e4]
  rcases hro with k | k
  · refine List.mem_append_left _ ?_
    unfold tR
    rw [← k, if_pos h6]
    exact List.mem_singleton.mpr rfl
  · refine List.mem_append_right _ ?_
    unfold tR
    rw [← k, if_pos h6]
    exact List.mem_singleton.mpr rfl
theorem tOwn {ll lg : List Int32} {lk hd ht v0 v1 v2 v3 v4 v5 : Int32} (hl : 1 ≤ lk.toInt ∧ lk.toInt ≤ 99) (h5 : tFive ll lg v0 v1 v2 v3 v4) (h6 : jallow ll lg 5 v5 = true) (r0 : 0 ≤ v0.toInt ∧ v0.toInt ≤ 99) (r1 : -32 ≤ v1.toInt ∧ v1.toInt ≤ 31) (r2 : -32 ≤ v2.toInt ∧ v2.toInt ≤ 31) (r3 : -32 ≤ v3.toInt ∧ v3.toInt ≤ 31) (r4 : -32 ≤ v4.toInt ∧ v4.toInt ≤ 31) (r5 : -64 ≤ v5.toInt ∧ v5.toInt ≤ 63) : (v0, v1, v2, v3, v4, v5) ∈ tCls ll lg lk hd ht (jpl lk hd ht v0 v1 v2 v3 v4 v5) := by
  have g4 : 0 ≤ ((jpl lk hd ht v0 v1 v2 v3 v4 v5).getD 4 0).toInt := z_and63 ((v2 + v3) + v4)
  rw [(tCls_perm g4).mem_iff]
  unfold tRef
  refine List.mem_flatMap.mpr ⟨(v2, v3), sFold_mem hl r2 r3 ?_, ?_⟩
  · show _ = sRise lk hd ht (jhgt ht lk hd v2 (v2 + v3) ((v2 + v3) + v4)) (((v2 + v3) + v4) &&& 63)
    unfold sRise jhgt
    rw [jsin_r (r6_a ((v2 + v3) + v4)), i32_xyz]
  · unfold tPair
    show _ ∈ if (((v2 + v3) + v4) &&& 63 = 16 ∨ ((v2 + v3) + v4) &&& 63 = 48) then _ else _
    by_cases hu : ((v2 + v3) + v4) &&& 63 = 16 ∨ ((v2 + v3) + v4) &&& 63 = 48
    · rw [if_pos hu]
      refine List.mem_flatMap.mpr ⟨v1, tT_in 64 (-32) v1 (by decide) (by decide) r1.1 r1.2, ?_⟩
      refine tBlk_own h5 h6 rfl rfl (r6_a _) r0 r4 ?_
      show v5 = (jroll0 (jpl lk hd ht v0 v1 v2 v3 v4 v5) v1) - 64 ∨ v5 = jroll0 (jpl lk hd ht v0 v1 v2 v3 v4 v5) v1
      unfold jroll0
      have q1 := r6_lt v1
      have q5 := r6_lt v5
      split
      · refine roll_own r5 ?_
        show r6 ((v5 &&& 63) + (v1 - (v1 &&& 63))) = r6 v5
        rw [r6_add, r6_sub, r6_a, r6_a]
        omega
      · refine roll_own r5 ?_
        show r6 ((v5 &&& 63) - (v1 - (v1 &&& 63))) = r6 v5
        rw [r6_sub, r6_sub, r6_a, r6_a]
        omega
    · rw [if_neg hu]
      refine List.mem_append_left _ ?_
      have e1 : jw (v1 &&& 63) = v1 := by rw [jw_r (r6_a v1), jw_id r1]
      show (v0, v1, v2, v3, v4, v5) ∈ tBlk ll lg lk hd _ _ _ (jw (v1 &&& 63)) v2 v3 (jroll0 (jpl lk hd ht v0 v1 v2 v3 v4 v5) (jw (v1 &&& 63)))
      rw [e1]
      refine tBlk_own h5 h6 rfl rfl (r6_a _) r0 r4 ?_
      unfold jroll0
      have q1 := r6_lt v1
      have q5 := r6_lt v5
      split
      · refine roll_own r5 ?_
        show r6 ((v5 &&& 63) + (v1 - (v1 &&& 63))) = r6 v5
        rw [r6_add, r6_sub, r6_a, r6_a]
        omega
      · refine roll_own r5 ?_
        show r6 ((v5 &&& 63) - (v1 - (v1 &&& 63))) = r6 v5
        rw [r6_sub, r6_sub, r6_a, r6_a]
        omega
theorem tOwnJ {ll lg : List Int32} {lk hd ht : Int32} (hl : 1 ≤ lk.toInt ∧ lk.toInt ≤ 99) (h : wLm ll lg) (n : Nat) : (jv ll lg n 0, jv ll lg n 1, jv ll lg n 2, jv ll lg n 3, jv ll lg n 4, jv ll lg n 5) ∈ tCls ll lg lk hd ht (jpl lk hd ht (jv ll lg n 0) (jv ll lg n 1) (jv ll lg n 2) (jv ll lg n 3) (jv ll lg n 4) (jv ll lg n 5)) := by
  have k0 := jv_rng h n (j := 0) (by decide)
  have k1 := jv_rng h n (j := 1) (by decide)
  have k2 := jv_rng h n (j := 2) (by decide)
  have k3 := jv_rng h n (j := 3) (by decide)
  have k4 := jv_rng h n (j := 4) (by decide)
  have k5 := jv_rng h n (j := 5) (by decide)
  have g0 : 0 ≤ (ll.getD 0 0).toInt ∧ _ ∧ (lg.getD 0 0).toInt ≤ 99 := h 0 (by decide)
  have g1 : -32 ≤ (ll.getD 1 0).toInt ∧ _ ∧ (lg.getD 1 0).toInt ≤ 31 := h 1 (by decide)
  have g2 : -32 ≤ (ll.getD 2 0).toInt ∧ _ ∧ (lg.getD 2 0).toInt ≤ 31 := h 2 (by decide)
  have g3 : -32 ≤ (ll.getD 3 0).toInt ∧ _ ∧ (lg.getD 3 0).toInt ≤ 31 := h 3 (by decide)
  have g4 : -32 ≤ (ll.getD 4 0).toInt ∧ _ ∧ (lg.getD 4 0).toInt ≤ 31 := h 4 (by decide)
  have g5 : -64 ≤ (ll.getD 5 0).toInt ∧ _ ∧ (lg.getD 5 0).toInt ≤ 63 := h 5 (by decide)
  exact tOwn hl ⟨jallow_t (j := 0) (by decide) k0, jallow_t (j := 1) (by decide) k1, jallow_t (j := 2) (by decide) k2, jallow_t (j := 3) (by decide) k3, jallow_t (j := 4) (by decide) k4⟩ (jallow_t (j := 5) (by decide) k5) ⟨Int.le_trans g0.1 k0.1, Int.le_trans k0.2 g0.2.2⟩ ⟨Int.le_trans g1.1 k1.1, Int.le_trans k1.2 g1.2.2⟩ ⟨Int.le_trans g2.1 k2.1, Int.le_trans k2.2 g2.2.2⟩ ⟨Int.le_trans g3.1 k3.1, Int.le_trans k3.2 g3.2.2⟩ ⟨Int.le_trans g4.1 k4.1, Int.le_trans k4.2 g4.2.2⟩ ⟨Int.le_trans g5.1 k5.1, Int.le_trans k5.2 g5.2.2⟩
noncomputable def jCh (ll lg : List Int32) (lk hd ht w : Int32) : Nat → Nat → Int32 → Int32
  | 0, _, s => s
  | m + 1, n, s => jCh ll lg lk hd ht w m (jsd n 6) (s + jOne ll lg lk hd ht w (jv ll lg n 0) (jv ll lg n 1) (jv ll lg n 2) (jv ll lg n 3) (jv ll lg n 4) (jv ll lg n 5))
theorem jCh_s (ll lg : List Int32) (lk hd ht w : Int32) (m n : Nat) (s : Int32) : jCh ll lg lk hd ht w (m + 1) n s = jCh ll lg lk hd ht w m (jsd n 6) (s + jOne ll lg lk hd ht w (jv ll lg n 0) (jv ll lg n 1) (jv ll lg n 2) (jv ll lg n 3) (jv ll lg n 4) (jv ll lg n 5)) := rfl
