/-! Posture.with, kind; Held.add; Solver.offer. -/
noncomputable def jput (p m : Int64) (s v : Int32) : Int64 := (p &&& m) ||| (((v + 64) &&& 255).toInt64 <<< (s.toInt64 &&& 63))
theorem c_with0 (p : Int64) (v : Int32) (h : zH) : zT zg0 zF zP 34 0 [(0, .long p), (2, .int 0), (3, .int v)] [] h 0 0 (some (.long (jput p (-280375465082881) 40 v)), h, 0, 0) := ⟨40, rfl⟩
theorem c_with1 (p : Int64) (v : Int32) (h : zH) : zT zg0 zF zP 34 0 [(0, .long p), (2, .int 1), (3, .int v)] [] h 0 0 (some (.long (jput p (-1095216660481) 32 v)), h, 0, 0) := ⟨40, rfl⟩
theorem c_with2 (p : Int64) (v : Int32) (h : zH) : zT zg0 zF zP 34 0 [(0, .long p), (2, .int 2), (3, .int v)] [] h 0 0 (some (.long (jput p (-4278190081) 24 v)), h, 0, 0) := ⟨40, rfl⟩
theorem c_with3 (p : Int64) (v : Int32) (h : zH) : zT zg0 zF zP 34 0 [(0, .long p), (2, .int 3), (3, .int v)] [] h 0 0 (some (.long (jput p (-16711681) 16 v)), h, 0, 0) := ⟨40, rfl⟩
theorem c_with4 (p : Int64) (v : Int32) (h : zH) : zT zg0 zF zP 34 0 [(0, .long p), (2, .int 4), (3, .int v)] [] h 0 0 (some (.long (jput p (-65281) 8 v)), h, 0, 0) := ⟨40, rfl⟩
theorem c_with5 (p : Int64) (v : Int32) (h : zH) : zT zg0 zF zP 34 0 [(0, .long p), (2, .int 5), (3, .int v)] [] h 0 0 (some (.long (jput p (-256) 0 v)), h, 0, 0) := ⟨40, rfl⟩
noncomputable def jpos (r a b c d e : Int32) : Int64 := jput (jput (jput (jput (jput (jput 0 (-280375465082881) 40 r) (-1095216660481) 32 a) (-4278190081) 24 b) (-16711681) 16 c) (-65281) 8 d) (-256) 0 e
noncomputable def jkind (p : Int64) : Int32 := if (((((p).toUInt64 >>> (((32 : Int32)).toInt64.toUInt64 &&& Int64.toUInt64 63)).toInt64).toInt32 &&& (63 : Int32)) &&& (31 : Int32)) = 0 then 0 else if (((((p).toUInt64 >>> (((16 : Int32)).toInt64.toUInt64 &&& Int64.toUInt64 63)).toInt64).toInt32 &&& (63 : Int32)) &&& (31 : Int32)) = 0 then 0 else ((1 : Int32) <<< ((((2 : Int32) * ((((((p).toUInt64 >>> (((32 : Int32)).toInt64.toUInt64 &&& Int64.toUInt64 63)).toInt64).toInt32 &&& (63 : Int32))).toUInt32 >>> (((5 : Int32)).toUInt32 &&& Int32.toUInt32 31)).toInt32) + ((((((p).toUInt64 >>> (((16 : Int32)).toInt64.toUInt64 &&& Int64.toUInt64 63)).toInt64).toInt32 &&& (63 : Int32))).toUInt32 >>> (((5 : Int32)).toUInt32 &&& Int32.toUInt32 31)).toInt32) &&& 31))
theorem c_kind (p : Int64) (h : zH) : zT zg0 zF zP 39 0 [(0, .long p)] [] h 0 0 (some (.int (jkind p)), h, 0, 0) := by
  apply wq_toT
  refine wq_gos (f := 1) (pc2 := 22) (ls2 := [(3, .int ((((p).toUInt64 >>> (((16 : Int32)).toInt64.toUInt64 &&& Int64.toUInt64 63)).toInt64).toInt32 &&& (63 : Int32))), (2, .int ((((p).toUInt64 >>> (((32 : Int32)).toInt64.toUInt64 &&& Int64.toUInt64 63)).toInt64).toInt32 &&& (63 : Int32))), (0, .long p)]) (st2 := [.int (((((p).toUInt64 >>> (((32 : Int32)).toInt64.toUInt64 &&& Int64.toUInt64 63)).toInt64).toInt32 &&& (63 : Int32)) &&& (31 : Int32))]) (h2 := h) (dc2 := 0) (ds2 := 0) 17 rfl ?_
  refine wq_eq0 rfl rfl (fun b1x => ?_) (fun b1x => ?_)
  · refine wq_gos (f := 1) (pc2 := 47) (ls2 := [(3, .int ((((p).toUInt64 >>> (((16 : Int32)).toInt64.toUInt64 &&& Int64.toUInt64 63)).toInt64).toInt32 &&& (63 : Int32))), (2, .int ((((p).toUInt64 >>> (((32 : Int32)).toInt64.toUInt64 &&& Int64.toUInt64 63)).toInt64).toInt32 &&& (63 : Int32))), (0, .long p)]) (st2 := [.int 0]) (h2 := h) (dc2 := 0) (ds2 := 0) 2 rfl ?_
    refine wq_ret rfl rfl ?_
    show (some (Value.int (0 : Int32)), h, 0, 0) = (some (Value.int (jkind p)), h, 0, 0)
    rw [show jkind p = (0 : Int32) by unfold jkind; rw [if_pos b1x]]
  · refine wq_gos (f := 1) (pc2 := 29) (ls2 := [(3, .int ((((p).toUInt64 >>> (((16 : Int32)).toInt64.toUInt64 &&& Int64.toUInt64 63)).toInt64).toInt32 &&& (63 : Int32))), (2, .int ((((p).toUInt64 >>> (((32 : Int32)).toInt64.toUInt64 &&& Int64.toUInt64 63)).toInt64).toInt32 &&& (63 : Int32))), (0, .long p)]) (st2 := [.int (((((p).toUInt64 >>> (((16 : Int32)).toInt64.toUInt64 &&& Int64.toUInt64 63)).toInt64).toInt32 &&& (63 : Int32)) &&& (31 : Int32))]) (h2 := h) (dc2 := 0) (ds2 := 0) 3 rfl ?_
    refine wq_ne0 rfl rfl (fun b2x => ?_) (fun b2x => ?_)
    · refine wq_gos (f := 1) (pc2 := 47) (ls2 := [(3, .int ((((p).toUInt64 >>> (((16 : Int32)).toInt64.toUInt64 &&& Int64.toUInt64 63)).toInt64).toInt32 &&& (63 : Int32))), (2, .int ((((p).toUInt64 >>> (((32 : Int32)).toInt64.toUInt64 &&& Int64.toUInt64 63)).toInt64).toInt32 &&& (63 : Int32))), (0, .long p)]) (st2 := [.int ((1 : Int32) <<< ((((2 : Int32) * ((((((p).toUInt64 >>> (((32 : Int32)).toInt64.toUInt64 &&& Int64.toUInt64 63)).toInt64).toInt32 &&& (63 : Int32))).toUInt32 >>> (((5 : Int32)).toUInt32 &&& Int32.toUInt32 31)).toInt32) + ((((((p).toUInt64 >>> (((16 : Int32)).toInt64.toUInt64 &&& Int64.toUInt64 63)).toInt64).toInt32 &&& (63 : Int32))).toUInt32 >>> (((5 : Int32)).toUInt32 &&& Int32.toUInt32 31)).toInt32) &&& 31))]) (h2 := h) (dc2 := 0) (ds2 := 0) 11 rfl ?_
      refine wq_ret rfl rfl ?_
      show (some (Value.int ((1 : Int32) <<< ((((2 : Int32) * ((((((p).toUInt64 >>> (((32 : Int32)).toInt64.toUInt64 &&& Int64.toUInt64 63)).toInt64).toInt32 &&& (63 : Int32))).toUInt32 >>> (((5 : Int32)).toUInt32 &&& Int32.toUInt32 31)).toInt32) + ((((((p).toUInt64 >>> (((16 : Int32)).toInt64.toUInt64 &&& Int64.toUInt64 63)).toInt64).toInt32 &&& (63 : Int32))).toUInt32 >>> (((5 : Int32)).toUInt32 &&& Int32.toUInt32 31)).toInt32) &&& 31))), h, 0, 0) = (some (Value.int (jkind p)), h, 0, 0)
      rw [show jkind p = ((1 : Int32) <<< ((((2 : Int32) * ((((((p).toUInt64 >>> (((32 : Int32)).toInt64.toUInt64 &&& Int64.toUInt64 63)).toInt64).toInt32 &&& (63 : Int32))).toUInt32 >>> (((5 : Int32)).toUInt32 &&& Int32.toUInt32 31)).toInt32) + ((((((p).toUInt64 >>> (((16 : Int32)).toInt64.toUInt64 &&& Int64.toUInt64 63)).toInt64).toInt32 &&& (63 : Int32))).toUInt32 >>> (((5 : Int32)).toUInt32 &&& Int32.toUInt32 31)).toInt32) &&& 31)) by unfold jkind; rw [if_neg b1x, if_neg b2x]]
    · refine wq_gos (f := 1) (pc2 := 47) (ls2 := [(3, .int ((((p).toUInt64 >>> (((16 : Int32)).toInt64.toUInt64 &&& Int64.toUInt64 63)).toInt64).toInt32 &&& (63 : Int32))), (2, .int ((((p).toUInt64 >>> (((32 : Int32)).toInt64.toUInt64 &&& Int64.toUInt64 63)).toInt64).toInt32 &&& (63 : Int32))), (0, .long p)]) (st2 := [.int 0]) (h2 := h) (dc2 := 0) (ds2 := 0) 2 rfl ?_
      refine wq_ret rfl rfl ?_
      show (some (Value.int (0 : Int32)), h, 0, 0) = (some (Value.int (jkind p)), h, 0, 0)
      rw [show jkind p = (0 : Int32) by unfold jkind; rw [if_neg b1x, if_pos b2x]]
/-- the first 600 of them stand in the row -/
noncomputable def wLi (SL li : List Int64) : Prop := ∀ i q, i < 600 → SL[i]? = some q → li.getD i 0 = q
theorem wLi_snoc {SL li li2 : List Int64} (x : Int64) (h : wLi SL li) (h2 : ∀ i, i < SL.length → li2.getD i 0 = li.getD i 0) : wLi (SL ++ [x]) (zset 0 li2 SL.length x) := by
  intro i q hi hq
  rw [zset_get]
  by_cases h3 : i < SL.length
  · rw [List.getElem?_append_left h3] at hq
    rw [if_neg (by omega), h2 i h3]
    exact h i q hi hq
  · rw [List.getElem?_append_right (by omega)] at hq
    have h0 : i - SL.length = 0 := by
      have := (List.getElem?_eq_some_iff.mp hq).1
      simp at this
      omega
    rw [h0] at hq
    cases hq
    rw [if_pos (by omega)]
theorem wLi_more {SL li : List Int64} (x : Int64) (h : wLi SL li) (h6 : 600 ≤ SL.length) : wLi (SL ++ [x]) li := by
  intro i q hi hq
  rw [List.getElem?_append_left (by omega)] at hq
  exact h i q hi hq
theorem nI_dbl (c : Nat) : (2 : Int32) * nI c = nI (2 * c) := by
  show Int32.ofNat 2 * Int32.ofNat c = Int32.ofNat (2 * c)
  rw [Int32.ofNat_mul]
theorem jmin_nI {a b : Nat} (ha : a < 2147483648) (hb : b < 2147483648) : jmin (nI a) (nI b) = nI (min a b) := by
  unfold jmin
  rw [nI_toInt (by omega), nI_toInt (by omega)]
  split
  · rw [Nat.min_eq_right (by omega)]
  · rw [Nat.min_eq_left (by omega)]
theorem wFr_new {S : List Nat} {h h2 h3 : zH} {a : Nat} (k : wFr S h h2) (f : wFr [a] h2 h3) (ha : 2 * h.length ≤ a) : wFr S h h3 :=
  ⟨Nat.le_trans k.1 f.1, fun q e hq hz => f.2 q e (wn1 (fun he => by have := zat_lt hz; omega)) (k.2 q e hq hz)⟩
set_option maxHeartbeats 4000000 in
theorem c_add {h : zH} {rh rL cap : Nat} {kn ks fa : Int32} {li : List Int64} {SL : List Int64} (hH : zat h rh = some (.inr (.inr (.inr (1, [.int kn, .int (nI SL.length), .ref rL, .ref (rh + 4), .int ks, .int fa]))))) (hI : zat h rL = some (.inr (.inl (cap, li)))) (hc : 16 ≤ cap ∧ cap ≤ 600 ∧ (SL.length ≤ cap ∨ cap = 600)) (hLi : wLi SL li) (hSn : SL.length < 30000) (hd1 : 60 ≤ rh ∧ rh < 230 ∧ (rL = rh + 2 ∨ 234 ≤ rL)) (x : Int64) (kd : Int32) : wq 14 0 [(0, .ref rh), (1, .long x), (3, .int kd)] [] h 0 0 (fun r => ∃ (h2 : zH) (rL2 cap2 : Nat) (ks2 : Int32) (li2 : List Int64) (d s : Nat), r = (none, h2, d, s) ∧ wFr [rh, rL] h h2 ∧ zat h2 rh = some (.inr (.inr (.inr (1, [.int kn, .int (nI (SL.length + 1)), .ref rL2, .ref (rh + 4), .int ks2, .int fa])))) ∧ zat h2 rL2 = some (.inr (.inl (cap2, li2))) ∧ wLi (SL ++ [x]) li2 ∧ cap ≤ cap2 ∧ cap2 ≤ 600 ∧ ((SL ++ [x]).length ≤ cap2 ∨ cap2 = 600) ∧ (rL2 = rL ∨ rL2 = 2 * h.length) ∧ d + cap ≤ cap2 ∧ s + 600 * cap ≤ 600 * cap2) := by
  have hi := nI_toInt (n := SL.length) (by omega)
  have hk := nI_toInt (n := cap) (by omega)
  have e600 : (600 : Int32).toInt = 600 := rfl
  have hlen : (SL ++ [x]).length = SL.length + 1 := by rw [List.length_append]; rfl
  have hrl := zat_lt hI
  have hrh := zat_lt hH
  have h2c : (2 : Int32) * nI cap = nI (2 * cap) := nI_dbl cap
  have hmin : ∀ h : zH, zT zg0 zF zP 285 0 [(0, .int 600), (1, .int ((2 : Int32) * (nI cap)))] [] h 0 0 (some (.int (nI (min 600 (2 * cap)))), h, 0, 0) := fun h => by
    have q9 := c_min 600 ((2 : Int32) * (nI cap)) h
    rw [h2c, show (600 : Int32) = nI 600 from rfl, jmin_nI (by decide) (by omega)] at q9
    rw [h2c]
    exact q9
  have hmin2 : ∀ (n : Nat) (h : zH), cap ≤ n → n ≤ 600 → zT zg0 zF zP 285 0 [(0, .int (nI cap)), (1, .int (nI n))] [] h 0 0 (some (.int (nI cap)), h, 0, 0) := fun n h h1 h2 => by
    have q9 := c_min (nI cap) (nI n) h
    rw [jmin_nI (by omega) (by omega), Nat.min_eq_left h1] at q9
    exact q9
  refine wq_gos (f := 1) (pc2 := 2) (ls2 := [(0, .ref rh), (1, .long x), (3, .int kd)]) (st2 := [.ref rh, .ref rh]) (h2 := h) (dc2 := 0) (ds2 := 0) 2 rfl ?_
  refine wq_getf rfl hH rfl rfl ?_
  refine wq_gos (f := 1) (pc2 := 7) (ls2 := [(0, .ref rh), (1, .long x), (3, .int kd)]) (st2 := [.int (ks ||| kd), .ref rh]) (h2 := h) (dc2 := 0) (ds2 := 0) 2 rfl ?_
  refine wq_putf rfl hH rfl rfl rfl ?_
  intro h1x e2x f3x l4x
  have e2x : zat h1x rh = some (.inr (.inr (.inr (1, [.int kn, .int (nI SL.length), .ref rL, .ref (rh + 4), .int (ks ||| kd), .int fa])))) := e2x
  refine wq_gos (f := 1) (pc2 := 11) (ls2 := [(0, .ref rh), (1, .long x), (3, .int kd)]) (st2 := [.ref rh]) (h2 := h1x) (dc2 := 0) (ds2 := 0) 1 rfl ?_
  refine wq_getf rfl e2x rfl rfl ?_
  refine wq_gos (f := 1) (pc2 := 17) (ls2 := [(0, .ref rh), (1, .long x), (3, .int kd)]) (st2 := [.int 600, .int (nI SL.length)]) (h2 := h1x) (dc2 := 0) (ds2 := 0) 1 rfl ?_
  refine wq_ge2 rfl rfl (fun b5x => ?_) (fun b5x => ?_)
  · refine wq_gos (f := 1) (pc2 := 68) (ls2 := [(0, .ref rh), (1, .long x), (3, .int kd)]) (st2 := [.ref rh, .ref rh]) (h2 := h1x) (dc2 := 0) (ds2 := 0) 2 rfl ?_
    refine wq_getf rfl e2x rfl rfl ?_
    refine wq_gos (f := 1) (pc2 := 73) (ls2 := [(0, .ref rh), (1, .long x), (3, .int kd)]) (st2 := [.int ((nI SL.length) + (1 : Int32)), .ref rh]) (h2 := h1x) (dc2 := 0) (ds2 := 0) 2 rfl ?_
    refine wq_putf rfl e2x rfl rfl rfl ?_
    intro h6x e7x f8x l9x
    have e7x : zat h6x rh = some (.inr (.inr (.inr (1, [.int kn, .int ((nI SL.length) + (1 : Int32)), .ref rL, .ref (rh + 4), .int (ks ||| kd), .int fa])))) := e7x
    have e10x := (f8x.2 _ _ (wnc (by omega) wn0) (f3x.2 _ _ (wnc (by omega) wn0) hI))
    refine wq_ret rfl rfl ⟨h6x, rL, cap, (ks ||| kd), _, _, _, rfl, ?_, ?_, e10x, (wLi_more x hLi (by omega)), by omega, by omega, by omega, by omega, by omega, by omega⟩
    · exact (wFr_tr (wFr_tr (wFr_rf _ _) (wFr_sub f3x (by simp))) (wFr_sub f8x (by simp)))
    · rw [← nI_1]; exact e7x
  · refine wq_gos (f := 1) (pc2 := 21) (ls2 := [(0, .ref rh), (1, .long x), (3, .int kd)]) (st2 := [.ref rh]) (h2 := h1x) (dc2 := 0) (ds2 := 0) 1 rfl ?_
    refine wq_getf rfl e2x rfl rfl ?_
    refine wq_gos (f := 1) (pc2 := 25) (ls2 := [(0, .ref rh), (1, .long x), (3, .int kd)]) (st2 := [.ref rh, .int (nI SL.length)]) (h2 := h1x) (dc2 := 0) (ds2 := 0) 1 rfl ?_
    refine wq_getf rfl e2x rfl rfl ?_
    have e11x := (f3x.2 _ _ (wnc (by omega) wn0) hI)
    refine wq_alenl rfl e11x rfl ?_
    refine wq_lt2 rfl rfl (fun b12x => ?_) (fun b12x => ?_)
    · refine wq_gos (f := 1) (pc2 := 57) (ls2 := [(0, .ref rh), (1, .long x), (3, .int kd)]) (st2 := [.ref rh]) (h2 := h1x) (dc2 := 0) (ds2 := 0) 1 rfl ?_
      refine wq_getf rfl e2x rfl rfl ?_
      refine wq_gos (f := 1) (pc2 := 61) (ls2 := [(0, .ref rh), (1, .long x), (3, .int kd)]) (st2 := [.ref rh, .ref rL]) (h2 := h1x) (dc2 := 0) (ds2 := 0) 1 rfl ?_
      refine wq_getf rfl e2x rfl rfl ?_
      refine wq_gos (f := 1) (pc2 := 65) (ls2 := [(0, .ref rh), (1, .long x), (3, .int kd)]) (st2 := [.long x, .int (nI SL.length), .ref rL]) (h2 := h1x) (dc2 := 0) (ds2 := 0) 1 rfl ?_
      refine wq_lastn rfl e11x (by omega) (by omega) rfl ?_
      intro h13x e14x f15x l16x
      have e14x : zat h13x rL = some (.inr (.inl (cap, (zset 0 li SL.length x)))) := e14x
      refine wq_gos (f := 1) (pc2 := 68) (ls2 := [(0, .ref rh), (1, .long x), (3, .int kd)]) (st2 := [.ref rh, .ref rh]) (h2 := h13x) (dc2 := 0) (ds2 := 0) 2 rfl ?_
      have e17x := (f15x.2 _ _ (wnc (by omega) wn0) e2x)
      refine wq_getf rfl e17x rfl rfl ?_
      refine wq_gos (f := 1) (pc2 := 73) (ls2 := [(0, .ref rh), (1, .long x), (3, .int kd)]) (st2 := [.int ((nI SL.length) + (1 : Int32)), .ref rh]) (h2 := h13x) (dc2 := 0) (ds2 := 0) 2 rfl ?_
      refine wq_putf rfl e17x rfl rfl rfl ?_
      intro h18x e19x f20x l21x
      have e19x : zat h18x rh = some (.inr (.inr (.inr (1, [.int kn, .int ((nI SL.length) + (1 : Int32)), .ref rL, .ref (rh + 4), .int (ks ||| kd), .int fa])))) := e19x
      have e22x := (f20x.2 _ _ (wnc (by omega) wn0) e14x)
      refine wq_ret rfl rfl ⟨h18x, rL, cap, (ks ||| kd), _, _, _, rfl, ?_, ?_, e22x, (wLi_snoc x hLi (fun i _ => rfl)), by omega, by omega, by omega, by omega, by omega, by omega⟩
      · exact (wFr_tr (wFr_tr (wFr_tr (wFr_rf _ _) (wFr_sub f3x (by simp))) (wFr_sub f15x (by simp))) (wFr_sub f20x (by simp)))
      · rw [← nI_1]; exact e19x
    · refine wq_gos (f := 1) (pc2 := 34) (ls2 := [(0, .ref rh), (1, .long x), (3, .int kd)]) (st2 := [.ref rh, .ref rh]) (h2 := h1x) (dc2 := 0) (ds2 := 0) 2 rfl ?_
      refine wq_getf rfl e2x rfl rfl ?_
      refine wq_gos (f := 1) (pc2 := 42) (ls2 := [(0, .ref rh), (1, .long x), (3, .int kd)]) (st2 := [.ref rh, .int 2, .int 600, .ref rL, .ref rh]) (h2 := h1x) (dc2 := 0) (ds2 := 0) 3 rfl ?_
      refine wq_getf rfl e2x rfl rfl ?_
      refine wq_alenl rfl e11x rfl ?_
      refine wq_gos (f := 1) (pc2 := 47) (ls2 := [(0, .ref rh), (1, .long x), (3, .int kd)]) (st2 := [.int ((2 : Int32) * (nI cap)), .int 600, .ref rL, .ref rh]) (h2 := h1x) (dc2 := 0) (ds2 := 0) 1 rfl ?_
      refine wq_inl (y2 := 285) (as := [.int 600, .int ((2 : Int32) * (nI cap))]) rfl rfl rfl (wq_T (hmin h1x) ?_)
      show wq 14 50 [(0, .ref rh), (1, .long x), (3, .int kd)] [.int (nI (min 600 (2 * cap))), .ref rL, .ref rh] h1x 0 0 _
      refine wq_inl (y2 := 287) (as := [.ref rL, .int (nI (min 600 (2 * cap)))]) rfl rfl rfl ?_
      show wq 287 0 [(0, .ref rL), (1, .int (nI (min 600 (2 * cap))))] [] h1x 0 0 _
      refine wq_gos (f := 1) (pc2 := 2) (ls2 := [(0, .ref rL), (1, .int (nI (min 600 (2 * cap))))]) (st2 := [.ref rL, .int (nI (min 600 (2 * cap)))]) (h2 := h1x) (dc2 := 0) (ds2 := 0) 2 rfl ?_
      refine wq_alenl rfl e11x rfl ?_
      refine wq_ne2t rfl (fun q => by have q1 := congrArg Int32.toInt q; rw [nI_toInt (by omega), nI_toInt (by omega)] at q1; omega) ?_
      refine wq_gos (f := 1) (pc2 := 15) (ls2 := [(0, .ref rL), (1, .int (nI (min 600 (2 * cap))))]) (st2 := [.int (nI (min 600 (2 * cap)))]) (h2 := h1x) (dc2 := 0) (ds2 := 0) 1 rfl ?_
      refine wq_newln rfl (by omega) rfl ?_
      intro h23x e24x f25x l26x
      refine wq_gos (f := 1) (pc2 := 23) (ls2 := [(2, .ref (2 * h1x.length)), (0, .ref rL), (1, .int (nI (min 600 (2 * cap))))]) (st2 := [.ref rL, .int 0, .ref (2 * h1x.length), .int 0, .ref rL]) (h2 := h23x) (dc2 := (0 + 1)) (ds2 := (0 + (min 600 (2 * cap)))) 6 rfl ?_
      have e27x := (f25x.2 _ _ wn0 e11x)
      refine wq_alenl rfl e27x rfl ?_
      refine wq_gos (f := 1) (pc2 := 25) (ls2 := [(2, .ref (2 * h1x.length)), (0, .ref rL), (1, .int (nI (min 600 (2 * cap))))]) (st2 := [.int (nI (min 600 (2 * cap))), .int (nI cap), .int 0, .ref (2 * h1x.length), .int 0, .ref rL]) (h2 := h23x) (dc2 := (0 + 1)) (ds2 := (0 + (min 600 (2 * cap)))) 1 rfl ?_
      refine wq_inl (y2 := 285) (as := [.int (nI cap), .int (nI (min 600 (2 * cap)))]) rfl rfl rfl (wq_T (hmin2 _ h23x (by omega) (by omega)) ?_)
      show wq 287 28 [(2, .ref (2 * h1x.length)), (0, .ref rL), (1, .int (nI (min 600 (2 * cap))))] [.int (nI cap), .int 0, .ref (2 * h1x.length), .int 0, .ref rL] h23x (0 + 1) (0 + (min 600 (2 * cap))) _
      refine wq_cpl rfl e27x e24x (by decide) (by decide) (by rw [nI_toInt (by omega)]; omega) (by rw [nI_toInt (by omega)]; simp) (by rw [nI_toInt (by omega)]; simp; omega) rfl ?_
      intro h28x e29x f30x l31x
      have e29x : zat h28x (2 * h1x.length) = some (.inr (.inl ((min 600 (2 * cap)), (zcpy 0 li [] 0 0 ((nI cap)).toNatClampNeg)))) := e29x
      refine wq_gos (f := 1) (pc2 := 32) (ls2 := [(2, .ref (2 * h1x.length)), (0, .ref rL), (1, .int (nI (min 600 (2 * cap))))]) (st2 := [.ref (2 * h1x.length)]) (h2 := h28x) (dc2 := (0 + 1)) (ds2 := (0 + (min 600 (2 * cap)))) 1 rfl ?_
      refine wq_ret rfl rfl ?_
      show wq 14 53 [(0, .ref rh), (1, .long x), (3, .int kd)] [.ref (2 * h1x.length), .ref rh] h28x (0 + (0 + 1)) (0 + (0 + (min 600 (2 * cap)))) _
      have e32x := (f30x.2 _ _ (wnc (by omega) wn0) (f25x.2 _ _ wn0 e2x))
      refine wq_putf rfl e32x rfl rfl rfl ?_
      intro h33x e34x f35x l36x
      have e34x : zat h33x rh = some (.inr (.inr (.inr (1, [.int kn, .int (nI SL.length), .ref (2 * h1x.length), .ref (rh + 4), .int (ks ||| kd), .int fa])))) := e34x
      refine wq_gos (f := 1) (pc2 := 57) (ls2 := [(0, .ref rh), (1, .long x), (3, .int kd)]) (st2 := [.ref rh]) (h2 := h33x) (dc2 := (0 + (0 + 1))) (ds2 := (0 + (0 + (min 600 (2 * cap))))) 1 rfl ?_
      refine wq_getf rfl e34x rfl rfl ?_
      refine wq_gos (f := 1) (pc2 := 61) (ls2 := [(0, .ref rh), (1, .long x), (3, .int kd)]) (st2 := [.ref rh, .ref (2 * h1x.length)]) (h2 := h33x) (dc2 := (0 + (0 + 1))) (ds2 := (0 + (0 + (min 600 (2 * cap))))) 1 rfl ?_
      refine wq_getf rfl e34x rfl rfl ?_
      refine wq_gos (f := 1) (pc2 := 65) (ls2 := [(0, .ref rh), (1, .long x), (3, .int kd)]) (st2 := [.long x, .int (nI SL.length), .ref (2 * h1x.length)]) (h2 := h33x) (dc2 := (0 + (0 + 1))) (ds2 := (0 + (0 + (min 600 (2 * cap))))) 1 rfl ?_
      have e37x := (f35x.2 _ _ (wnc (by omega) wn0) e29x)
      refine wq_lastn rfl e37x (by omega) (by omega) rfl ?_
      intro h38x e39x f40x l41x
      have e39x : zat h38x (2 * h1x.length) = some (.inr (.inl ((min 600 (2 * cap)), (zset 0 (zcpy 0 li [] 0 0 ((nI cap)).toNatClampNeg) SL.length x)))) := e39x
      refine wq_gos (f := 1) (pc2 := 68) (ls2 := [(0, .ref rh), (1, .long x), (3, .int kd)]) (st2 := [.ref rh, .ref rh]) (h2 := h38x) (dc2 := (0 + (0 + 1))) (ds2 := (0 + (0 + (min 600 (2 * cap))))) 2 rfl ?_
      have e42x := (f40x.2 _ _ (wnc (by omega) wn0) e34x)
      refine wq_getf rfl e42x rfl rfl ?_
      refine wq_gos (f := 1) (pc2 := 73) (ls2 := [(0, .ref rh), (1, .long x), (3, .int kd)]) (st2 := [.int ((nI SL.length) + (1 : Int32)), .ref rh]) (h2 := h38x) (dc2 := (0 + (0 + 1))) (ds2 := (0 + (0 + (min 600 (2 * cap))))) 2 rfl ?_
      refine wq_putf rfl e42x rfl rfl rfl ?_
      intro h43x e44x f45x l46x
      have e44x : zat h43x rh = some (.inr (.inr (.inr (1, [.int kn, .int ((nI SL.length) + (1 : Int32)), .ref (2 * h1x.length), .ref (rh + 4), .int (ks ||| kd), .int fa])))) := e44x
      have e47x := (f45x.2 _ _ (wnc (by omega) wn0) e39x)
      refine wq_ret rfl rfl ⟨h43x, (2 * h1x.length), (min 600 (2 * cap)), (ks ||| kd), _, _, _, rfl, ?_, ?_, e47x, (wLi_snoc x hLi (fun i hi => by rw [nI_clamp (by omega), zcpy_get, if_pos (by omega)]; congr 1; omega)), by omega, by omega, by omega, by omega, by omega, by omega⟩
      · exact (wFr_tr (wFr_new (wFr_tr (wFr_new (wFr_tr (wFr_tr (wFr_rf _ _) (wFr_sub f3x (by simp))) (wFr_sub f25x (by simp))) f30x (by omega)) (wFr_sub f35x (by simp))) f40x (by omega)) (wFr_sub f45x (by simp)))
      · rw [← nI_1]; exact e44x
