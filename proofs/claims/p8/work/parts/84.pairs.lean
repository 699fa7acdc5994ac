/-! The pairs of shoulder and elbow: the class's list is the reference's. -/
noncomputable def svL : List Int32 := [(-1000), (-995), (-981), (-957), (-924), (-882), (-831), (-773), (-707), (-634), (-556), (-471), (-383), (-290), (-195), (-98), 0, 98, 195, 290, 383, 471, 556, 634, 707, 773, 831, 882, 924, 957, 981, 995, 1000]
theorem jsin_sv (k : Int32) : jsin k ∈ svL := by
  obtain ⟨j, hj, e⟩ := z64 (k - 16)
  unfold jsin
  rw [e, nI_clamp (by omega)]
  have h : ∀ i : Nat, i < 64 → zCos.getD i 0 ∈ svL := by decide +kernel
  exact h j hj
theorem jcos_sv (k : Int32) : jcos k ∈ svL := by
  obtain ⟨j, hj, e⟩ := z64 k
  unfold jcos
  rw [e, nI_clamp (by omega)]
  have h : ∀ i : Nat, i < 64 → zCos.getD i 0 ∈ svL := by decide +kernel
  exact h j hj
theorem svL_rng {v : Int32} (h : v ∈ svL) : -1000 ≤ v.toInt ∧ v.toInt ≤ 1000 := by
  have h1 : svL.all (fun v => decide (-1000 ≤ v.toInt ∧ v.toInt ≤ 1000)) = true := by decide +kernel
  exact of_decide_eq_true (List.all_eq_true.mp h1 v h)
theorem jsin_rng (k : Int32) : -1000 ≤ (jsin k).toInt ∧ (jsin k).toInt ≤ 1000 := svL_rng (jsin_sv k)
theorem jcos_rng (k : Int32) : -1000 ≤ (jcos k).toInt ∧ (jcos k).toInt ≤ 1000 := svL_rng (jcos_sv k)
set_option maxHeartbeats 4000000 in
theorem jang_sv (s : Int32) (h : jang s ≠ 99) : s ∈ svL := by
  unfold jang at h
  by_cases c : s.toInt ≤ (0 : Int32).toInt
  · rw [if_pos c] at h
    by_cases c : s.toInt ≤ (-707 : Int32).toInt
    · rw [if_pos c] at h
      by_cases c : s.toInt ≤ (-924 : Int32).toInt
      · rw [if_pos c] at h
        by_cases c : s.toInt ≤ (-981 : Int32).toInt
        · rw [if_pos c] at h
          by_cases c : s.toInt ≤ (-995 : Int32).toInt
          · rw [if_pos c] at h
            by_cases c : s.toInt ≤ (-1000 : Int32).toInt
            · rw [if_pos c] at h
              by_cases c : (-1000 : Int32) ≠ s
              · rw [if_pos c] at h; exact absurd rfl h
              · rw [← Decidable.not_not.mp c]; decide
            · rw [if_neg c] at h
              by_cases c : (-995 : Int32) ≠ s
              · rw [if_pos c] at h; exact absurd rfl h
              · rw [← Decidable.not_not.mp c]; decide
          · rw [if_neg c] at h
            by_cases c : (-981 : Int32) ≠ s
            · rw [if_pos c] at h; exact absurd rfl h
            · rw [← Decidable.not_not.mp c]; decide
        · rw [if_neg c] at h
          by_cases c : s.toInt ≤ (-957 : Int32).toInt
          · rw [if_pos c] at h
            by_cases c : (-957 : Int32) ≠ s
            · rw [if_pos c] at h; exact absurd rfl h
            · rw [← Decidable.not_not.mp c]; decide
          · rw [if_neg c] at h
            by_cases c : (-924 : Int32) ≠ s
            · rw [if_pos c] at h; exact absurd rfl h
            · rw [← Decidable.not_not.mp c]; decide
      · rw [if_neg c] at h
        by_cases c : s.toInt ≤ (-831 : Int32).toInt
        · rw [if_pos c] at h
          by_cases c : s.toInt ≤ (-882 : Int32).toInt
          · rw [if_pos c] at h
            by_cases c : (-882 : Int32) ≠ s
            · rw [if_pos c] at h; exact absurd rfl h
            · rw [← Decidable.not_not.mp c]; decide
          · rw [if_neg c] at h
            by_cases c : (-831 : Int32) ≠ s
            · rw [if_pos c] at h; exact absurd rfl h
            · rw [← Decidable.not_not.mp c]; decide
        · rw [if_neg c] at h
          by_cases c : s.toInt ≤ (-773 : Int32).toInt
          · rw [if_pos c] at h
            by_cases c : (-773 : Int32) ≠ s
            · rw [if_pos c] at h; exact absurd rfl h
            · rw [← Decidable.not_not.mp c]; decide
          · rw [if_neg c] at h
            by_cases c : (-707 : Int32) ≠ s
            · rw [if_pos c] at h; exact absurd rfl h
            · rw [← Decidable.not_not.mp c]; decide
    · rw [if_neg c] at h
      by_cases c : s.toInt ≤ (-383 : Int32).toInt
      · rw [if_pos c] at h
        by_cases c : s.toInt ≤ (-556 : Int32).toInt
        · rw [if_pos c] at h
          by_cases c : s.toInt ≤ (-634 : Int32).toInt
          · rw [if_pos c] at h
            by_cases c : (-634 : Int32) ≠ s
            · rw [if_pos c] at h; exact absurd rfl h
            · rw [← Decidable.not_not.mp c]; decide
          · rw [if_neg c] at h
            by_cases c : (-556 : Int32) ≠ s
            · rw [if_pos c] at h; exact absurd rfl h
            · rw [← Decidable.not_not.mp c]; decide
        · rw [if_neg c] at h
          by_cases c : s.toInt ≤ (-471 : Int32).toInt
          · rw [if_pos c] at h
            by_cases c : (-471 : Int32) ≠ s
            · rw [if_pos c] at h; exact absurd rfl h
            · rw [← Decidable.not_not.mp c]; decide
          · rw [if_neg c] at h
            by_cases c : (-383 : Int32) ≠ s
            · rw [if_pos c] at h; exact absurd rfl h
            · rw [← Decidable.not_not.mp c]; decide
      · rw [if_neg c] at h
        by_cases c : s.toInt ≤ (-195 : Int32).toInt
        · rw [if_pos c] at h
          by_cases c : s.toInt ≤ (-290 : Int32).toInt
          · rw [if_pos c] at h
            by_cases c : (-290 : Int32) ≠ s
            · rw [if_pos c] at h; exact absurd rfl h
            · rw [← Decidable.not_not.mp c]; decide
          · rw [if_neg c] at h
            by_cases c : (-195 : Int32) ≠ s
            · rw [if_pos c] at h; exact absurd rfl h
            · rw [← Decidable.not_not.mp c]; decide
        · rw [if_neg c] at h
          by_cases c : s.toInt ≤ (-98 : Int32).toInt
          · rw [if_pos c] at h
            by_cases c : (-98 : Int32) ≠ s
            · rw [if_pos c] at h; exact absurd rfl h
            · rw [← Decidable.not_not.mp c]; decide
          · rw [if_neg c] at h
            by_cases c : (0 : Int32) ≠ s
            · rw [if_pos c] at h; exact absurd rfl h
            · rw [← Decidable.not_not.mp c]; decide
  · rw [if_neg c] at h
    by_cases c : s.toInt ≤ (707 : Int32).toInt
    · rw [if_pos c] at h
      by_cases c : s.toInt ≤ (383 : Int32).toInt
      · rw [if_pos c] at h
        by_cases c : s.toInt ≤ (195 : Int32).toInt
        · rw [if_pos c] at h
          by_cases c : s.toInt ≤ (98 : Int32).toInt
          · rw [if_pos c] at h
            by_cases c : (98 : Int32) ≠ s
            · rw [if_pos c] at h; exact absurd rfl h
            · rw [← Decidable.not_not.mp c]; decide
          · rw [if_neg c] at h
            by_cases c : (195 : Int32) ≠ s
            · rw [if_pos c] at h; exact absurd rfl h
            · rw [← Decidable.not_not.mp c]; decide
        · rw [if_neg c] at h
          by_cases c : s.toInt ≤ (290 : Int32).toInt
          · rw [if_pos c] at h
            by_cases c : (290 : Int32) ≠ s
            · rw [if_pos c] at h; exact absurd rfl h
            · rw [← Decidable.not_not.mp c]; decide
          · rw [if_neg c] at h
            by_cases c : (383 : Int32) ≠ s
            · rw [if_pos c] at h; exact absurd rfl h
            · rw [← Decidable.not_not.mp c]; decide
      · rw [if_neg c] at h
        by_cases c : s.toInt ≤ (556 : Int32).toInt
        · rw [if_pos c] at h
          by_cases c : s.toInt ≤ (471 : Int32).toInt
          · rw [if_pos c] at h
            by_cases c : (471 : Int32) ≠ s
            · rw [if_pos c] at h; exact absurd rfl h
            · rw [← Decidable.not_not.mp c]; decide
          · rw [if_neg c] at h
            by_cases c : (556 : Int32) ≠ s
            · rw [if_pos c] at h; exact absurd rfl h
            · rw [← Decidable.not_not.mp c]; decide
        · rw [if_neg c] at h
          by_cases c : s.toInt ≤ (634 : Int32).toInt
          · rw [if_pos c] at h
            by_cases c : (634 : Int32) ≠ s
            · rw [if_pos c] at h; exact absurd rfl h
            · rw [← Decidable.not_not.mp c]; decide
          · rw [if_neg c] at h
            by_cases c : (707 : Int32) ≠ s
            · rw [if_pos c] at h; exact absurd rfl h
            · rw [← Decidable.not_not.mp c]; decide
    · rw [if_neg c] at h
      by_cases c : s.toInt ≤ (924 : Int32).toInt
      · rw [if_pos c] at h
        by_cases c : s.toInt ≤ (831 : Int32).toInt
        · rw [if_pos c] at h
          by_cases c : s.toInt ≤ (773 : Int32).toInt
          · rw [if_pos c] at h
            by_cases c : (773 : Int32) ≠ s
            · rw [if_pos c] at h; exact absurd rfl h
            · rw [← Decidable.not_not.mp c]; decide
          · rw [if_neg c] at h
            by_cases c : (831 : Int32) ≠ s
            · rw [if_pos c] at h; exact absurd rfl h
            · rw [← Decidable.not_not.mp c]; decide
        · rw [if_neg c] at h
          by_cases c : s.toInt ≤ (882 : Int32).toInt
          · rw [if_pos c] at h
            by_cases c : (882 : Int32) ≠ s
            · rw [if_pos c] at h; exact absurd rfl h
            · rw [← Decidable.not_not.mp c]; decide
          · rw [if_neg c] at h
            by_cases c : (924 : Int32) ≠ s
            · rw [if_pos c] at h; exact absurd rfl h
            · rw [← Decidable.not_not.mp c]; decide
      · rw [if_neg c] at h
        by_cases c : s.toInt ≤ (981 : Int32).toInt
        · rw [if_pos c] at h
          by_cases c : s.toInt ≤ (957 : Int32).toInt
          · rw [if_pos c] at h
            by_cases c : (957 : Int32) ≠ s
            · rw [if_pos c] at h; exact absurd rfl h
            · rw [← Decidable.not_not.mp c]; decide
          · rw [if_neg c] at h
            by_cases c : (981 : Int32) ≠ s
            · rw [if_pos c] at h; exact absurd rfl h
            · rw [← Decidable.not_not.mp c]; decide
        · rw [if_neg c] at h
          by_cases c : s.toInt ≤ (995 : Int32).toInt
          · rw [if_pos c] at h
            by_cases c : (995 : Int32) ≠ s
            · rw [if_pos c] at h; exact absurd rfl h
            · rw [← Decidable.not_not.mp c]; decide
          · rw [if_neg c] at h
            by_cases c : (1000 : Int32) ≠ s
            · rw [if_pos c] at h; exact absurd rfl h
            · rw [← Decidable.not_not.mp c]; decide
noncomputable def gE (v a : Int32) : Nat → Int32 → List (Int32 × Int32)
  | 0, _ => []
  | n + 1, e => (if jsin (a + e) = v then [(a, a + e)] else []) ++ gE v a n (e + 1)
noncomputable def fE (v a : Int32) : List (Int32 × Int32) := if jang v = 99 then [] else if jw (jang v - a) = jw (32 - jang v - a) then [(a, jmin (jw (jang v - a)) (jw (32 - jang v - a)))] else [(a, jmin (jw (jang v - a)) (jw (32 - jang v - a))), (a, jmax (jw (jang v - a)) (jw (32 - jang v - a)))]
theorem sF1_fE (s a : Int32) : sF1 s a = fE (s - jsin a) a := rfl
theorem gE_none {v a : Int32} (h : v ∉ svL) : ∀ (n : Nat) (e : Int32), gE v a n e = []
  | 0, _ => rfl
  | n + 1, e => by
    show (if jsin (a + e) = v then [(a, a + e)] else []) ++ gE v a n (e + 1) = []
    rw [if_neg (fun q => h (by rw [← q]; exact jsin_sv (a + e))), gE_none h n (e + 1)]
    rfl
noncomputable def fM (q : Int32 × Int32) : Int32 × Int32 := (q.1, q.1 + q.2)
theorem fgE_0 : ((List.range 8).all (fun i => svL.all (fun v => decide ((fE v (nI (0 + i) - 32)).map fM = gE v (nI (0 + i) - 32) 64 (-32))))) = true := by decide +kernel
theorem fgE_1 : ((List.range 8).all (fun i => svL.all (fun v => decide ((fE v (nI (8 + i) - 32)).map fM = gE v (nI (8 + i) - 32) 64 (-32))))) = true := by decide +kernel
theorem fgE_2 : ((List.range 8).all (fun i => svL.all (fun v => decide ((fE v (nI (16 + i) - 32)).map fM = gE v (nI (16 + i) - 32) 64 (-32))))) = true := by decide +kernel
theorem fgE_3 : ((List.range 8).all (fun i => svL.all (fun v => decide ((fE v (nI (24 + i) - 32)).map fM = gE v (nI (24 + i) - 32) 64 (-32))))) = true := by decide +kernel
theorem fgE_4 : ((List.range 8).all (fun i => svL.all (fun v => decide ((fE v (nI (32 + i) - 32)).map fM = gE v (nI (32 + i) - 32) 64 (-32))))) = true := by decide +kernel
theorem fgE_5 : ((List.range 8).all (fun i => svL.all (fun v => decide ((fE v (nI (40 + i) - 32)).map fM = gE v (nI (40 + i) - 32) 64 (-32))))) = true := by decide +kernel
theorem fgE_6 : ((List.range 8).all (fun i => svL.all (fun v => decide ((fE v (nI (48 + i) - 32)).map fM = gE v (nI (48 + i) - 32) 64 (-32))))) = true := by decide +kernel
theorem fgE_7 : ((List.range 8).all (fun i => svL.all (fun v => decide ((fE v (nI (56 + i) - 32)).map fM = gE v (nI (56 + i) - 32) 64 (-32))))) = true := by decide +kernel
theorem fgE_in {k i : Nat} {v : Int32} (h : ((List.range 8).all (fun i => svL.all (fun v => decide ((fE v (nI (k + i) - 32)).map fM = gE v (nI (k + i) - 32) 64 (-32))))) = true) (hv : v ∈ svL) (h1 : k ≤ i) (h2 : i < k + 8) : (fE v (nI i - 32)).map fM = gE v (nI i - 32) 64 (-32) := by
  have h3 := List.all_eq_true.mp h (i - k) (List.mem_range.mpr (by omega))
  have h4 := of_decide_eq_true (List.all_eq_true.mp h3 v hv)
  rw [show k + (i - k) = i by omega] at h4
  exact h4
theorem fgE (v : Int32) {i : Nat} (hi : i < 64) : (fE v (nI i - 32)).map fM = gE v (nI i - 32) 64 (-32) := by
  by_cases h : v ∈ svL
  · rcases (show i < 8 ∨ (8 ≤ i ∧ i < 16) ∨ (16 ≤ i ∧ i < 24) ∨ (24 ≤ i ∧ i < 32) ∨ (32 ≤ i ∧ i < 40) ∨ (40 ≤ i ∧ i < 48) ∨ (48 ≤ i ∧ i < 56) ∨ (56 ≤ i ∧ i < 64) by omega) with k | k | k | k | k | k | k | k
    · exact fgE_in fgE_0 h (by omega) (by omega)
    · exact fgE_in fgE_1 h (by omega) (by omega)
    · exact fgE_in fgE_2 h (by omega) (by omega)
    · exact fgE_in fgE_3 h (by omega) (by omega)
    · exact fgE_in fgE_4 h (by omega) (by omega)
    · exact fgE_in fgE_5 h (by omega) (by omega)
    · exact fgE_in fgE_6 h (by omega) (by omega)
    · exact fgE_in fgE_7 h (by omega) (by omega)
  · have h1 : jang v = 99 := Decidable.not_not.mp (fun q => h (jang_sv v q))
    rw [gE_none h]
    unfold fE
    rw [if_pos h1]
    rfl
theorem i32_mulI {a b : Int32} (h1 : -2147483648 ≤ a.toInt * b.toInt) (h2 : a.toInt * b.toInt < 2147483648) : (a * b).toInt = a.toInt * b.toInt := by
  rw [Int32.toInt_mul, Int.bmod_eq_of_le (by omega) (by omega)]
theorem i32_ne0 {b : Int32} (hb : b ≠ 0) : b.toInt ≠ 0 := fun h => hb (Int32.toInt_inj.mp (by rw [h]; rfl))
theorem i32_mul_div {a b : Int32} (hb : b ≠ 0) (h1 : -2147483648 ≤ a.toInt * b.toInt) (h2 : a.toInt * b.toInt < 2147483648) : (a * b) / b = a := by
  apply Int32.toInt_inj.mp
  have h3 := Int32.le_toInt a
  have h4 := Int32.toInt_le a
  have h5 : Int32.maxValue.toInt = 2147483647 := rfl
  have h6 : Int32.minValue.toInt = -2147483648 := rfl
  rw [Int32.toInt_div, i32_mulI h1 h2, Int.mul_tdiv_cancel _ (i32_ne0 hb), Int.bmod_eq_of_le (by omega) (by omega)]
theorem int_mul_bd {x y : Int} {X Y : Nat} (hx : x.natAbs ≤ X) (hy : y.natAbs ≤ Y) : (x * y).natAbs ≤ X * Y := by
  rw [Int.natAbs_mul]
  exact Nat.mul_le_mul hx hy
theorem i32_subz {a b : Int32} (h : a - b = 0) : a = b := by
  rw [← Int32.sub_add_cancel a b, h, Int32.zero_add]
theorem i32_aes (a e : Int32) : a + e - a = e := by rw [Int32.add_comm, Int32.add_sub_cancel]
theorem i32_sas (s a : Int32) : a + (s - a) = s := by rw [Int32.add_comm, Int32.sub_add_cancel]
theorem sin2_rng (a b : Int32) : (jsin a + jsin b).toInt.natAbs ≤ 2000 := by
  have h1 := jsin_rng a
  have h2 := jsin_rng b
  rw [Int32.toInt_add, Int.bmod_eq_of_le (by omega) (by omega)]
  omega
theorem lk_div {lk m : Int32} (hl : 1 ≤ lk.toInt ∧ lk.toInt ≤ 99) (hm : m.toInt.natAbs ≤ 2000) : (lk * m) / lk = m := by
  have h1 := int_mul_bd hm (show lk.toInt.natAbs ≤ 99 by omega)
  rw [Int32.mul_comm]
  exact i32_mul_div (fun q => by rw [q] at hl; exact absurd hl.1 (by decide)) (by omega) (by omega)
theorem mPin_iff {lk rise a e : Int32} (hl : 1 ≤ lk.toInt ∧ lk.toInt ≤ 99) (hr : rise - rise / lk * lk = 0) : lk * (jsin a + jsin (a + e)) = rise ↔ jsin (a + e) = rise / lk - jsin a := by
  constructor
  · intro h
    rw [← h, lk_div hl (sin2_rng _ _), i32_aes]
  · intro h
    rw [h, i32_sas, Int32.mul_comm]
    exact (i32_subz hr).symm
theorem mPin_gE {lk rise a : Int32} (hl : 1 ≤ lk.toInt ∧ lk.toInt ≤ 99) (hr : rise - rise / lk * lk = 0) : ∀ (n : Nat) (e : Int32), mPin lk rise a n e = gE (rise / lk - jsin a) a n e
  | 0, _ => rfl
  | n + 1, e => by
    show (if lk * (jsin a + jsin (a + e)) = rise then [(a, a + e)] else []) ++ mPin lk rise a n (e + 1) = (if jsin (a + e) = rise / lk - jsin a then [(a, a + e)] else []) ++ gE (rise / lk - jsin a) a n (e + 1)
    rw [mPin_gE hl hr n (e + 1)]
    by_cases h : lk * (jsin a + jsin (a + e)) = rise
    · rw [if_pos h, if_pos ((mPin_iff hl hr).mp h)]
    · rw [if_neg h, if_neg (fun q => h ((mPin_iff hl hr).mpr q))]
theorem mPin_no {lk rise a : Int32} (hl : 1 ≤ lk.toInt ∧ lk.toInt ≤ 99) (hr : rise - rise / lk * lk ≠ 0) : ∀ (n : Nat) (e : Int32), mPin lk rise a n e = []
  | 0, _ => rfl
  | n + 1, e => by
    show (if lk * (jsin a + jsin (a + e)) = rise then [(a, a + e)] else []) ++ mPin lk rise a n (e + 1) = []
    rw [mPin_no hl hr n (e + 1), if_neg (fun h => hr (by rw [← h, lk_div hl (sin2_rng _ _), Int32.mul_comm, Int32.sub_self]))]
    rfl
theorem nI_m32 {a : Int32} (h : -32 ≤ a.toInt ∧ a.toInt ≤ 31) : ∃ i : Nat, i < 64 ∧ a = nI i - 32 := by
  refine ⟨(a.toInt + 32).toNat, by omega, Int32.toInt_inj.mp ?_⟩
  rw [Int32.toInt_sub, nI_toInt (by omega), show (32 : Int32).toInt = 32 from rfl, Int.bmod_eq_of_le (by omega) (by omega)]
  omega
theorem mPout_sF {lk rise : Int32} (hl : 1 ≤ lk.toInt ∧ lk.toInt ≤ 99) (hr : rise - rise / lk * lk = 0) : ∀ (n : Nat) (a : Int32), a.toInt + n = 32 → n ≤ 64 → mPout lk rise n a = (sF (rise / lk) n a).map fM
  | 0, _, _, _ => rfl
  | n + 1, a, h1, h2 => by
    have ha : (a + 1).toInt = a.toInt + 1 := z_inc (by omega)
    obtain ⟨i, hi, e⟩ := nI_m32 (a := a) (by omega)
    show mPin lk rise a 64 (-32) ++ mPout lk rise n (a + 1) = (sF1 (rise / lk) a ++ sF (rise / lk) n (a + 1)).map fM
    rw [List.map_append, mPout_sF hl hr n (a + 1) (by omega) (by omega), mPin_gE hl hr, sF1_fE, e, fgE _ hi]
theorem mPout_no {lk rise : Int32} (hl : 1 ≤ lk.toInt ∧ lk.toInt ≤ 99) (hr : rise - rise / lk * lk ≠ 0) : ∀ (n : Nat) (a : Int32), mPout lk rise n a = []
  | 0, _ => rfl
  | n + 1, a => by
    show mPin lk rise a 64 (-32) ++ mPout lk rise n (a + 1) = []
    rw [mPin_no hl hr, mPout_no hl hr n (a + 1)]
    rfl
theorem mPairs {lk hd ht z p : Int32} (hl : 1 ≤ lk.toInt ∧ lk.toInt ≤ 99) : mPout lk (sRise lk hd ht z p) 64 (-32) = (sFold lk hd ht z p).map fM := by
  unfold sFold
  rw [if_neg (show ¬ lk.toInt < (1 : Int32).toInt from Int.not_lt.mpr hl.1)]
  by_cases hr : sRise lk hd ht z p - sRise lk hd ht z p / lk * lk = 0
  · rw [if_pos hr]
    exact mPout_sF hl hr 64 (-32) (by decide) (by decide)
  · rw [if_neg hr]
    exact mPout_no hl hr 64 (-32)
theorem sRise_h (lk hd ht z p : Int32) : z - jhgt ht lk hd 0 0 p = sRise lk hd ht z p := by
  unfold jhgt sRise
  rw [show jsin 0 = 0 by decide +kernel, show (0 : Int32) + 0 = 0 from rfl, Int32.mul_zero, Int32.add_zero, Int32.sub_sub]
