/-! The reference's solver: its object, its list of what is found. -/
noncomputable def mR : List (Nat × Nat) := [(1, 164), (3, 166), (4, 168), (5, 170), (6, 172), (7, 174), (8, 176), (9, 178), (10, 180), (11, 182), (12, 184), (13, 186), (24, 188), (25, 190), (26, 192), (29, 194), (30, 196), (31, 198), (36, 200), (37, 202), (38, 204), (40, 206), (41, 208), (42, 210), (43, 212), (44, 214), (45, 216), (46, 218), (47, 220), (48, 222), (49, 224), (50, 226), (51, 228), (53, 230)]
/-- the references that the object holds -/
noncomputable def mC (fs : List Value) : Prop := fs.length = 54 ∧ ∀ p ∈ mR, fs[p.1]? = some (.ref p.2)
theorem mC_set {fs : List Value} (h : mC fs) {k : Nat} (hk : k ∉ mR.map (fun p => p.1)) (v : Value) : mC (fs.set k v) := by
  refine ⟨by rw [List.length_set]; exact h.1, fun p hp => ?_⟩
  rw [List.getElem?_set_ne (fun e => hk (by rw [e]; exact List.mem_map.mpr ⟨p, hp, rfl⟩))]
  exact h.2 p hp
/-- all fields but the two that a search writes are as they were -/
noncomputable def mK (fs fs2 : List Value) : Prop := ∀ k, k ≠ 34 ∧ k ≠ 35 → fs2[k]? = fs[k]?
theorem mK_rf (fs : List Value) : mK fs fs := fun _ _ => rfl
theorem mK_tr {a b c : List Value} (h : mK a b) (h2 : mK b c) : mK a c := fun k hk => by rw [h2 k hk, h k hk]
theorem mK_set (fs : List Value) {k : Nat} (hk : k = 34 ∨ k = 35) (v : Value) : mK fs (fs.set k v) := fun q hq => List.getElem?_set_ne (fun e => by omega)
noncomputable def jpack (r a b c d e : Int32) : Int64 := 128 * (64 * (64 * (64 * (64 * r.toInt64 + a.toInt64 + 32) + b.toInt64 + 32) + c.toInt64 + 32) + d.toInt64 + 32) + e.toInt64 + 64
theorem m_packed {h : zH} {a : Nat} {on : List Int32} (hN : zat h a = some (.inl (0, 6, on))) : zT zg0 zF zP 219 0 [(0, .ref a)] [] h 0 0 (some (.long (jpack (on.getD 0 0) (on.getD 1 0) (on.getD 2 0) (on.getD 3 0) (on.getD 4 0) (on.getD 5 0))), h, 0, 0) := by
  apply wq_toT
  refine wq_gos (f := 1) (pc2 := 2) (ls2 := [(0, .ref a)]) (st2 := [.int 0, .ref a]) (h2 := h) (dc2 := 0) (ds2 := 0) 2 rfl ?_
  refine wq_ialdk (k := 0) rfl hN rfl rfl rfl ?_
  refine wq_gos (f := 1) (pc2 := 19) (ls2 := [(3, .int 1), (1, .long ((on.getD 0 0)).toInt64), (0, .ref a)]) (st2 := [.int 1, .ref a, .long ((64 : Int64) * ((on.getD 0 0)).toInt64)]) (h2 := h) (dc2 := 0) (ds2 := 0) 12 rfl ?_
  refine wq_ialdk (k := 1) rfl hN rfl rfl rfl ?_
  refine wq_gos (f := 1) (pc2 := 19) (ls2 := [(3, .int 2), (1, .long ((((64 : Int64) * ((on.getD 0 0)).toInt64) + ((on.getD 1 0)).toInt64) + (32 : Int64))), (0, .ref a)]) (st2 := [.int 2, .ref a, .long ((64 : Int64) * ((((64 : Int64) * ((on.getD 0 0)).toInt64) + ((on.getD 1 0)).toInt64) + (32 : Int64)))]) (h2 := h) (dc2 := 0) (ds2 := 0) 15 rfl ?_
  refine wq_ialdk (k := 2) rfl hN rfl rfl rfl ?_
  refine wq_gos (f := 1) (pc2 := 19) (ls2 := [(3, .int 3), (1, .long ((((64 : Int64) * ((((64 : Int64) * ((on.getD 0 0)).toInt64) + ((on.getD 1 0)).toInt64) + (32 : Int64))) + ((on.getD 2 0)).toInt64) + (32 : Int64))), (0, .ref a)]) (st2 := [.int 3, .ref a, .long ((64 : Int64) * ((((64 : Int64) * ((((64 : Int64) * ((on.getD 0 0)).toInt64) + ((on.getD 1 0)).toInt64) + (32 : Int64))) + ((on.getD 2 0)).toInt64) + (32 : Int64)))]) (h2 := h) (dc2 := 0) (ds2 := 0) 15 rfl ?_
  refine wq_ialdk (k := 3) rfl hN rfl rfl rfl ?_
  refine wq_gos (f := 1) (pc2 := 19) (ls2 := [(3, .int 4), (1, .long ((((64 : Int64) * ((((64 : Int64) * ((((64 : Int64) * ((on.getD 0 0)).toInt64) + ((on.getD 1 0)).toInt64) + (32 : Int64))) + ((on.getD 2 0)).toInt64) + (32 : Int64))) + ((on.getD 3 0)).toInt64) + (32 : Int64))), (0, .ref a)]) (st2 := [.int 4, .ref a, .long ((64 : Int64) * ((((64 : Int64) * ((((64 : Int64) * ((((64 : Int64) * ((on.getD 0 0)).toInt64) + ((on.getD 1 0)).toInt64) + (32 : Int64))) + ((on.getD 2 0)).toInt64) + (32 : Int64))) + ((on.getD 3 0)).toInt64) + (32 : Int64)))]) (h2 := h) (dc2 := 0) (ds2 := 0) 15 rfl ?_
  refine wq_ialdk (k := 4) rfl hN rfl rfl rfl ?_
  refine wq_gos (f := 1) (pc2 := 40) (ls2 := [(3, .int 5), (1, .long ((((64 : Int64) * ((((64 : Int64) * ((((64 : Int64) * ((((64 : Int64) * ((on.getD 0 0)).toInt64) + ((on.getD 1 0)).toInt64) + (32 : Int64))) + ((on.getD 2 0)).toInt64) + (32 : Int64))) + ((on.getD 3 0)).toInt64) + (32 : Int64))) + ((on.getD 4 0)).toInt64) + (32 : Int64))), (0, .ref a)]) (st2 := [.int 5, .ref a, .long ((128 : Int64) * ((((64 : Int64) * ((((64 : Int64) * ((((64 : Int64) * ((((64 : Int64) * ((on.getD 0 0)).toInt64) + ((on.getD 1 0)).toInt64) + (32 : Int64))) + ((on.getD 2 0)).toInt64) + (32 : Int64))) + ((on.getD 3 0)).toInt64) + (32 : Int64))) + ((on.getD 4 0)).toInt64) + (32 : Int64)))]) (h2 := h) (dc2 := 0) (ds2 := 0) 15 rfl ?_
  refine wq_ialdk (k := 5) rfl hN rfl rfl rfl ?_
  refine wq_gos (f := 1) (pc2 := 47) (ls2 := [(3, .int 5), (1, .long ((((64 : Int64) * ((((64 : Int64) * ((((64 : Int64) * ((((64 : Int64) * ((on.getD 0 0)).toInt64) + ((on.getD 1 0)).toInt64) + (32 : Int64))) + ((on.getD 2 0)).toInt64) + (32 : Int64))) + ((on.getD 3 0)).toInt64) + (32 : Int64))) + ((on.getD 4 0)).toInt64) + (32 : Int64))), (0, .ref a)]) (st2 := [.long ((((128 : Int64) * ((((64 : Int64) * ((((64 : Int64) * ((((64 : Int64) * ((((64 : Int64) * ((on.getD 0 0)).toInt64) + ((on.getD 1 0)).toInt64) + (32 : Int64))) + ((on.getD 2 0)).toInt64) + (32 : Int64))) + ((on.getD 3 0)).toInt64) + (32 : Int64))) + ((on.getD 4 0)).toInt64) + (32 : Int64))) + ((on.getD 5 0)).toInt64) + (64 : Int64))]) (h2 := h) (dc2 := 0) (ds2 := 0) 4 rfl ?_
  exact wq_ret rfl rfl rfl
/-- how many of a row's last are above x -/
noncomputable def mAb (x : Int64) : List Int64 → Nat
  | [] => 0
  | y :: l => if x < y then mAb x l + 1 else 0
/-- a row with one more, in order -/
noncomputable def mIns (x : Int64) (l : List Int64) : List Int64 := l.take (l.length - mAb x l.reverse) ++ x :: l.drop (l.length - mAb x l.reverse)
theorem mAb_le (x : Int64) : ∀ l : List Int64, mAb x l ≤ l.length
  | [] => Nat.le_refl _
  | y :: l => by
    unfold mAb
    split
    · have := mAb_le x l
      rw [List.length_cons]; omega
    · exact Nat.zero_le _
theorem mIns_len (x : Int64) (l : List Int64) : (mIns x l).length = l.length + 1 := by
  unfold mIns
  rw [List.length_append, List.length_cons, List.length_take, List.length_drop]
  omega
theorem mIns_mem (x : Int64) (l : List Int64) {z : Int64} (h : z = x ∨ z ∈ l) : z ∈ mIns x l := by
  unfold mIns
  rcases h with h | h
  · rw [h]; exact List.mem_append_right _ List.mem_cons_self
  · rw [← List.take_append_drop (l.length - mAb x l.reverse) l] at h
    rcases List.mem_append.mp h with k | k
    · exact List.mem_append_left _ k
    · exact List.mem_append_right _ (List.mem_cons_of_mem _ k)
/-- m of the last are above x, and the one ahead of them isn't -/
theorem mAb_eq (x : Int64) : ∀ (l : List Int64) (m : Nat), m ≤ l.length → (∀ i z, i < m → l[i]? = some z → x < z) → (∀ z, l[m]? = some z → ¬ x < z) → mAb x l = m
  | [], m, h, _, _ => by have : m = 0 := by simpa using h
                         rw [this]; rfl
  | y :: l, 0, _, _, h2 => by
    unfold mAb
    rw [if_neg (h2 y rfl)]
  | y :: l, m + 1, h, h1, h2 => by
    unfold mAb
    rw [if_pos (h1 0 y (by omega) rfl), mAb_eq x l m (by simpa using h) (fun i z hi hz => h1 (i + 1) z (by omega) (by simpa using hz)) (fun z hz => h2 z (by simpa using hz))]
/-- none: too many -/
noncomputable abbrev mS : Type := Option (List Int64)
noncomputable def mAdd (s : mS) (x : Int64) : mS := match s with
  | none => none
  | some l => if l.length = 600 then none else some (mIns x l)
noncomputable def mNum (s : mS) : Int32 := match s with
  | none => -3
  | some l => nI l.length
/-- the row from o on holds them -/
noncomputable def wFd (o : Nat) (s : mS) (fo : List Int64) : Prop := match s with
  | none => True
  | some l => l.length ≤ 600 ∧ ∀ i z, l[i]? = some z → fo.getD (o + i) 0 = z
/-- as wFd, and all that isn't of this place is as F tells -/
noncomputable def wFe (F : Nat → Int64) (o : Nat) (s : mS) (fo : List Int64) : Prop := wFd o s fo ∧ ∀ q, (q < o ∨ o + 600 ≤ q) → fo.getD q 0 = F q
section
variable {F : Nat → Int64}
theorem rev_at {l : List Int64} {i : Nat} {z : Int64} (h : l.reverse[i]? = some z) : i < l.length ∧ l[l.length - 1 - i]? = some z := by
  have h1 : i < l.length := by
    have := (List.getElem?_eq_some_iff.mp h).1
    simpa using this
  exact ⟨h1, by rw [List.getElem?_reverse h1] at h; exact h⟩
theorem nI_pre {a b : Nat} (h : 1 ≤ b) : nI a + nI b - 1 = nI (a + (b - 1)) := by
  rw [nI_add, show a + b = (a + (b - 1)) + 1 by omega, nI_pred]
theorem nI_dec {b : Nat} (h : 1 ≤ b) : nI b + (-1) = nI (b - 1) := by
  obtain ⟨c, rfl⟩ : ∃ c, b = c + 1 := ⟨b - 1, by omega⟩
  rw [show c + 1 - 1 = c by omega, ← nI_pred c, Int32.sub_eq_add_neg]
theorem lg_cle {x y : Int64} : ((lg_cmp x y).toInt ≤ 0) ↔ ¬ y < x := by
  rw [Int64.not_lt, ← lg_cmp_le, Int32.le_iff_toInt_le]
  exact Iff.rfl
set_option maxHeartbeats 4000000 in
theorem m_addsL {fs : List Value} {o : Nat} {x : Int64} {Q : zR → Prop} {l : List Int64} (hC : mC fs) (hn : l.length < 600) (ho : o ≤ 5400) : ∀ (k : Nat) (h : zH) (fo : List Int64), k ≤ l.length → zat h 162 = some (.inr (.inr (.inr (10, fs)))) → zat h 196 = some (.inr (.inl (6000, fo))) → (∀ q, (q < o ∨ o + 600 ≤ q) → fo.getD q 0 = F q) → (∀ i z, i < k → l[i]? = some z → fo.getD (o + i) 0 = z) → (∀ i z, k ≤ i → l[i]? = some z → fo.getD (o + i + 1) 0 = z ∧ x < z) → (∀ (h2 : zH) (fo2 : List Int64) (k2 : Nat), wFr [196] h h2 → h2.length = h.length → zat h2 196 = some (.inr (.inl (6000, fo2))) → (∀ q, (q < o ∨ o + 600 ≤ q) → fo2.getD q 0 = F q) → k2 = l.length - mAb x l.reverse → (∀ i z, i < k2 → l[i]? = some z → fo2.getD (o + i) 0 = z) → (∀ i z, k2 ≤ i → l[i]? = some z → fo2.getD (o + i + 1) 0 = z) → wq 222 70 [(0, .ref 162), (1, .int (nI o)), (2, .long x), (4, .int (nI k2))] [] h2 0 0 Q) → wq 222 23 [(0, .ref 162), (1, .int (nI o)), (2, .long x), (4, .int (nI k))] [] h 0 0 Q := by
  intro k
  induction k with
  | zero =>
    intro h fo hk hM hF hfr h1 h2 kk
    refine wq_gos (f := 1) (pc2 := 25) (ls2 := [(0, .ref 162), (1, .int (nI o)), (2, .long x), (4, .int (nI 0))]) (st2 := [.int (nI 0)]) (h2 := h) (dc2 := 0) (ds2 := 0) 1 rfl ?_
    refine wq_le0t rfl (by decide) ?_
    refine wq_ls [(0, .ref 162), (1, .int (nI o)), (2, .long x), (4, .int (nI 0))] (show ([0, 1, 2, 4] : List Nat).Nodup by decide) ⟨rfl, rfl, rfl, rfl, trivial⟩ ?_
    refine kk h fo _ (wFr_rf _ _) rfl hF hfr ?_ h1 (fun i z hi hz => (h2 i z hi hz).1)
    rw [mAb_eq x l.reverse (l.length - 0) (by rw [List.length_reverse]; omega) (fun i z hi hz => by
      obtain ⟨q1, q2⟩ := rev_at hz
      exact (h2 _ z (by omega) q2).2) (fun z hz => by
      obtain ⟨q1, q2⟩ := rev_at hz
      omega)]
    omega
  | succ k ih =>
    intro h fo hk hM hF hfr h1 h2 kk
    have q1 := nI_toInt (n := k + 1) (by omega)
    have hkl : k < l.length := by omega
    have hz0 := List.getElem?_eq_getElem hkl
    have hz1 := h1 k _ (by omega) hz0
    refine wq_gos (f := 1) (pc2 := 25) (ls2 := [(0, .ref 162), (1, .int (nI o)), (2, .long x), (4, .int (nI (k + 1)))]) (st2 := [.int (nI (k + 1))]) (h2 := h) (dc2 := 0) (ds2 := 0) 1 rfl ?_
    refine wq_le0f rfl rfl (by rw [q1]; omega) ?_
    refine wq_gos (f := 1) (pc2 := 29) (ls2 := [(0, .ref 162), (1, .int (nI o)), (2, .long x), (4, .int (nI (k + 1)))]) (st2 := [.ref 162]) (h2 := h) (dc2 := 0) (ds2 := 0) 1 rfl ?_
    refine wq_getf rfl hM (hC.2 (30, 196) (by decide)) rfl ?_
    refine wq_gos (f := 1) (pc2 := 38) (ls2 := [(0, .ref 162), (1, .int (nI o)), (2, .long x), (4, .int (nI (k + 1)))]) (st2 := [.int (((nI o) + (nI (k + 1))) - (1 : Int32)), .ref 196]) (h2 := h) (dc2 := 0) (ds2 := 0) 5 rfl ?_
    rw [nI_pre (a := o) (b := k + 1) (by omega), show o + (k + 1 - 1) = o + k by omega]
    refine wq_laldn rfl hF (by omega) (by decide) rfl ?_
    refine wq_vl hz1 ?_
    refine wq_gos (f := 1) (pc2 := 41) (ls2 := [(0, .ref 162), (1, .int (nI o)), (2, .long x), (4, .int (nI (k + 1)))]) (st2 := [.int (lg_cmp (l[k]) x)]) (h2 := h) (dc2 := 0) (ds2 := 0) 2 rfl ?_
    refine wq_le0 rfl rfl (fun b1x => ?_) (fun b1x => ?_)
    · refine wq_ls [(0, .ref 162), (1, .int (nI o)), (2, .long x), (4, .int (nI (k + 1)))] (show ([0, 1, 2, 4] : List Nat).Nodup by decide) ⟨rfl, rfl, rfl, rfl, trivial⟩ ?_
      refine kk h fo _ (wFr_rf _ _) rfl hF hfr ?_ h1 (fun i z hi hz => (h2 i z hi hz).1)
      rw [mAb_eq x l.reverse (l.length - (k + 1)) (by rw [List.length_reverse]; omega) (fun i z hi hz => by
        obtain ⟨q1, q2⟩ := rev_at hz
        exact (h2 _ z (by omega) q2).2) (fun z hz => by
        obtain ⟨q1, q2⟩ := rev_at hz
        rw [show l.length - 1 - (l.length - (k + 1)) = k by omega, hz0] at q2; rw [← Option.some.inj q2]; exact lg_cle.mp b1x)]
      omega
    · refine wq_gos (f := 1) (pc2 := 45) (ls2 := [(0, .ref 162), (1, .int (nI o)), (2, .long x), (4, .int (nI (k + 1)))]) (st2 := [.ref 162]) (h2 := h) (dc2 := 0) (ds2 := 0) 1 rfl ?_
      refine wq_getf rfl hM (hC.2 (30, 196) (by decide)) rfl ?_
      refine wq_gos (f := 1) (pc2 := 52) (ls2 := [(0, .ref 162), (1, .int (nI o)), (2, .long x), (4, .int (nI (k + 1)))]) (st2 := [.int ((nI o) + (nI (k + 1))), .ref 196]) (h2 := h) (dc2 := 0) (ds2 := 0) 3 rfl ?_
      rw [nI_add]
      refine wq_gos (f := 1) (pc2 := 53) (ls2 := [(0, .ref 162), (1, .int (nI o)), (2, .long x), (4, .int (nI (k + 1)))]) (st2 := [.ref 162, .int (nI (o + (k + 1))), .ref 196]) (h2 := h) (dc2 := 0) (ds2 := 0) 1 rfl ?_
      refine wq_getf rfl hM (hC.2 (30, 196) (by decide)) rfl ?_
      refine wq_gos (f := 1) (pc2 := 62) (ls2 := [(0, .ref 162), (1, .int (nI o)), (2, .long x), (4, .int (nI (k + 1)))]) (st2 := [.int (((nI o) + (nI (k + 1))) - (1 : Int32)), .ref 196, .int (nI (o + (k + 1))), .ref 196]) (h2 := h) (dc2 := 0) (ds2 := 0) 5 rfl ?_
      rw [nI_pre (a := o) (b := k + 1) (by omega), show o + (k + 1 - 1) = o + k by omega]
      refine wq_laldn rfl hF (by omega) (by decide) rfl ?_
      refine wq_vl hz1 ?_
      refine wq_lastn rfl hF (by omega) (by decide) rfl ?_
      intro h2x e3x f4x l5x
      have e3x : zat h2x 196 = some (.inr (.inl (6000, (zset 0 fo (o + (k + 1)) (l[k]))))) := e3x
      refine wq_gos (f := 1) (pc2 := 67) (ls2 := [(4, .int ((nI (k + 1)) + (-1))), (0, .ref 162), (1, .int (nI o)), (2, .long x)]) (st2 := []) (h2 := h2x) (dc2 := 0) (ds2 := 0) 1 rfl ?_
      rw [nI_dec (by omega), show k + 1 - 1 = k by omega]
      refine wq_gos (f := 1) (pc2 := 23) (ls2 := [(4, .int (nI k)), (0, .ref 162), (1, .int (nI o)), (2, .long x)]) (st2 := []) (h2 := h2x) (dc2 := 0) (ds2 := 0) 1 rfl ?_
      have e6x := (f4x.2 _ _ (wnc (by decide) wn0) hM)
      refine wq_ls [(0, .ref 162), (1, .int (nI o)), (2, .long x), (4, .int (nI k))] (show ([0, 1, 2, 4] : List Nat).Nodup by decide) ⟨rfl, rfl, rfl, rfl, trivial⟩ ?_
      refine ih h2x _ (by omega) e6x e3x (fun q hq => by rw [zset_get, if_neg (by omega)]; exact hfr q hq) ?_ ?_ ?_
      · intro i z hi hz
        rw [zset_get, if_neg (by omega)]
        exact h1 i z (by omega) hz
      · intro i z hi hz
        rw [zset_get]
        by_cases he : i = k
        · rw [if_pos (by omega)]
          rw [he, hz0] at hz
          rw [← Option.some.inj hz]
          exact ⟨rfl, Decidable.not_not.mp (fun q => absurd (lg_cle.mpr q) (by omega))⟩
        · rw [if_neg (by omega)]; exact h2 i z (by omega) hz
      · intro g0 g1 g2 g3 g4 g5 g5b g6 g7 g8
        exact kk g0 g1 g2 (wFr_tr (wFr_sub f4x (by simp)) g3) (by omega) g5 g5b g6 g7 g8
theorem mIns_at {x : Int64} {l : List Int64} {o k : Nat} {fo : List Int64} (hk : k = l.length - mAb x l.reverse) (h1 : ∀ i z, i < k → l[i]? = some z → fo.getD (o + i) 0 = z) (h2 : ∀ i z, k ≤ i → l[i]? = some z → fo.getD (o + i + 1) 0 = z) : ∀ i z, (mIns x l)[i]? = some z → (zset 0 fo (o + k) x).getD (o + i) 0 = z := by
  intro i z hz
  have hkl : k ≤ l.length := by omega
  have htl : (l.take k).length = k := by rw [List.length_take]; omega
  unfold mIns at hz
  rw [← hk] at hz
  rw [zset_get]
  rcases Nat.lt_trichotomy i k with c | c | c
  · rw [if_neg (by omega)]
    rw [List.getElem?_append_left (by omega), List.getElem?_take_of_lt c] at hz
    exact h1 i z c hz
  · rw [if_pos (by omega)]
    rw [List.getElem?_append_right (by omega), show i - (l.take k).length = 0 by omega] at hz
    exact Option.some.inj hz
  · rw [if_neg (by omega)]
    rw [List.getElem?_append_right (by omega), show i - (l.take k).length = (i - k - 1) + 1 by omega, List.getElem?_cons_succ, List.getElem?_drop] at hz
    have := h2 (k + (i - k - 1)) z (by omega) hz
    rw [show o + (k + (i - k - 1)) + 1 = o + i by omega] at this
    exact this
set_option maxHeartbeats 4000000 in
theorem m_adds {h : zH} {fs : List Value} {o : Nat} {wn : Int32} {fo l : List Int64} (hM : zat h 162 = some (.inr (.inr (.inr (10, fs))))) (hC : mC fs) (h34 : fs[34]? = some (.int (nI l.length))) (h35 : fs[35]? = some (.int wn)) (hF : zat h 196 = some (.inr (.inl (6000, fo)))) (hfd : wFe F o (some l) fo) (ho : o ≤ 5400) (x : Int64) : wq 222 0 [(0, .ref 162), (1, .int (nI o)), (2, .long x)] [] h 0 0 (fun r => ∃ (h2 : zH) (fs2 : List Value) (fo2 : List Int64), r = (none, h2, 0, 0) ∧ wFr [162, 196] h h2 ∧ h2.length = h.length ∧ zat h2 162 = some (.inr (.inr (.inr (10, fs2)))) ∧ (mC fs2 ∧ mK fs fs2) ∧ fs2[34]? = some (.int (mNum (mAdd (some l) x))) ∧ fs2[35]? = some (.int wn) ∧ zat h2 196 = some (.inr (.inl (6000, fo2))) ∧ wFe F o (mAdd (some l) x) fo2) := by
  obtain ⟨⟨hl6, hfd⟩, hfr⟩ := hfd
  have q1 := nI_toInt (n := l.length) (by omega)
  refine wq_gos (f := 1) (pc2 := 1) (ls2 := [(0, .ref 162), (1, .int (nI o)), (2, .long x)]) (st2 := [.ref 162]) (h2 := h) (dc2 := 0) (ds2 := 0) 1 rfl ?_
  refine wq_getf rfl hM h34 rfl ?_
  refine wq_gos (f := 1) (pc2 := 7) (ls2 := [(0, .ref 162), (1, .int (nI o)), (2, .long x)]) (st2 := [.int 600, .int (nI l.length)]) (h2 := h) (dc2 := 0) (ds2 := 0) 1 rfl ?_
  refine wq_ne2 rfl rfl (fun b1x => ?_) (fun b1x => ?_)
  · refine wq_gos (f := 1) (pc2 := 18) (ls2 := [(0, .ref 162), (1, .int (nI o)), (2, .long x)]) (st2 := [.ref 162]) (h2 := h) (dc2 := 0) (ds2 := 0) 1 rfl ?_
    refine wq_getf rfl hM h34 rfl ?_
    refine wq_gos (f := 1) (pc2 := 23) (ls2 := [(4, .int (nI l.length)), (0, .ref 162), (1, .int (nI o)), (2, .long x)]) (st2 := []) (h2 := h) (dc2 := 0) (ds2 := 0) 1 rfl ?_
    have hne : l.length ≠ 600 := fun q => b1x (by rw [q]; rfl)
    refine wq_ls [(0, .ref 162), (1, .int (nI o)), (2, .long x), (4, .int (nI l.length))] (show ([0, 1, 2, 4] : List Nat).Nodup by decide) ⟨rfl, rfl, rfl, rfl, trivial⟩ ?_
    refine m_addsL hC (by omega) ho l.length h fo (Nat.le_refl _) hM hF hfr (fun i z hi hz => hfd i z hz) (fun i z hi hz => by have := (List.getElem?_eq_some_iff.mp hz).1; omega) ?_
    intro h2x fo3x k4x f5x l6x e7x g5b g6 g7 g8
    have hkk : k4x ≤ l.length := by omega
    refine wq_gos (f := 1) (pc2 := 71) (ls2 := [(0, .ref 162), (1, .int (nI o)), (2, .long x), (4, .int (nI k4x))]) (st2 := [.ref 162]) (h2 := h2x) (dc2 := 0) (ds2 := 0) 1 rfl ?_
    have e8x := (f5x.2 _ _ (wnc (by decide) wn0) hM)
    refine wq_getf rfl e8x (hC.2 (30, 196) (by decide)) rfl ?_
    refine wq_gos (f := 1) (pc2 := 78) (ls2 := [(0, .ref 162), (1, .int (nI o)), (2, .long x), (4, .int (nI k4x))]) (st2 := [.int ((nI o) + (nI k4x)), .ref 196]) (h2 := h2x) (dc2 := 0) (ds2 := 0) 3 rfl ?_
    rw [nI_add]
    refine wq_gos (f := 1) (pc2 := 79) (ls2 := [(0, .ref 162), (1, .int (nI o)), (2, .long x), (4, .int (nI k4x))]) (st2 := [.long x, .int (nI (o + k4x)), .ref 196]) (h2 := h2x) (dc2 := 0) (ds2 := 0) 1 rfl ?_
    refine wq_lastn rfl e7x (by omega) (by decide) rfl ?_
    intro h9x e10x f11x l12x
    have e10x : zat h9x 196 = some (.inr (.inl (6000, (zset 0 fo3x (o + k4x) x)))) := e10x
    refine wq_gos (f := 1) (pc2 := 82) (ls2 := [(0, .ref 162), (1, .int (nI o)), (2, .long x), (4, .int (nI k4x))]) (st2 := [.ref 162, .ref 162]) (h2 := h9x) (dc2 := 0) (ds2 := 0) 2 rfl ?_
    have e13x := (f11x.2 _ _ (wnc (by decide) wn0) e8x)
    refine wq_getf rfl e13x h34 rfl ?_
    refine wq_gos (f := 1) (pc2 := 87) (ls2 := [(0, .ref 162), (1, .int (nI o)), (2, .long x), (4, .int (nI k4x))]) (st2 := [.int ((nI l.length) + (1 : Int32)), .ref 162]) (h2 := h9x) (dc2 := 0) (ds2 := 0) 2 rfl ?_
    refine wq_putf rfl e13x rfl (by rw [hC.1]; rfl) rfl ?_
    intro h14x e15x f16x l17x
    obtain ⟨fs18x, hf19x⟩ : ∃ x, x = fs.set 34 (.int ((nI l.length) + (1 : Int32))) := ⟨_, rfl⟩
    rw [← hf19x] at e15x
    have hC20x : mC fs18x := by rw [hf19x]; exact mC_set hC (by decide) _
    have sm21x := mK_tr (mK_rf fs) (show mK fs fs18x by rw [hf19x]; exact mK_set fs (by decide) _)
    have p22x : fs18x[35]? = some (.int wn) := by rw [hf19x, List.getElem?_set_ne (by decide)]; exact h35
    have p23x : fs18x[34]? = some (.int ((nI l.length) + (1 : Int32))) := by rw [hf19x]; exact List.getElem?_set_self (by rw [hC.1]; decide)
    have e24x := (f16x.2 _ _ (wnc (by decide) wn0) e10x)
    have hs : mAdd (some l) x = some (mIns x l) := if_neg hne
    rw [hs]
    refine wq_ret rfl rfl ⟨h14x, fs18x, _, rfl, (wFr_tr (wFr_sub f5x (by simp)) (wFr_tr (wFr_sub f11x (by simp)) (wFr_sub f16x (by simp)))), by omega, e15x, ⟨hC20x, sm21x⟩, ?_, p22x, e24x, ?_⟩
    · show _ = some (Value.int (nI (mIns x l).length))
      rw [mIns_len, ← nI_1]; exact p23x
    · exact ⟨⟨by rw [mIns_len]; omega, mIns_at g6 g7 g8⟩, fun q hq => by rw [zset_get, if_neg (by omega)]; exact g5b q hq⟩
  · refine wq_gos (f := 1) (pc2 := 13) (ls2 := [(0, .ref 162), (1, .int (nI o)), (2, .long x)]) (st2 := [.int (-3), .ref 162]) (h2 := h) (dc2 := 0) (ds2 := 0) 2 rfl ?_
    refine wq_putf rfl hM rfl (by rw [hC.1]; rfl) rfl ?_
    intro h25x e26x f27x l28x
    obtain ⟨fs29x, hf30x⟩ : ∃ x, x = fs.set 34 (.int (-3)) := ⟨_, rfl⟩
    rw [← hf30x] at e26x
    have hC31x : mC fs29x := by rw [hf30x]; exact mC_set hC (by decide) _
    have sm32x := mK_tr (mK_rf fs) (show mK fs fs29x by rw [hf30x]; exact mK_set fs (by decide) _)
    have p33x : fs29x[35]? = some (.int wn) := by rw [hf30x, List.getElem?_set_ne (by decide)]; exact h35
    have p34x : fs29x[34]? = some (.int (-3)) := by rw [hf30x]; exact List.getElem?_set_self (by rw [hC.1]; decide)
    have e35x := (f27x.2 _ _ (wnc (by decide) wn0) hF)
    have hne : l.length = 600 := by have q := congrArg Int32.toInt b1x; rw [q1] at q; have e6 : (600 : Int32).toInt = 600 := rfl; omega
    have hs : mAdd (some l) x = none := if_pos hne
    rw [hs]
    exact wq_ret rfl rfl ⟨h25x, fs29x, fo, rfl, (wFr_sub f27x (by simp)), by omega, e26x, ⟨hC31x, sm32x⟩, p34x, p33x, e35x, ⟨trivial, hfr⟩⟩
end
