/-! Unlike pairs: keys, the class's table, the reference's row (pure). -/
noncomputable def uR (p : Int32 × Int32) : Prop := p.1.toInt.natAbs ≤ 2000 ∧ p.2.toInt.natAbs ≤ 2000
noncomputable def uP (a b : Int32) : Int32 × Int32 := (jcos a + jcos b, jsin a + jsin b)
theorem uP_R (a b : Int32) : uR (uP a b) := ⟨cos2_rng a b, sin2_rng a b⟩
/-- the class's key -/
noncomputable def uk (p : Int32 × Int32) : Int32 := (p.1 + 2000) * 4001 + p.2 + 2001
theorem uk_i {p : Int32 × Int32} (h : uR p) : (uk p).toInt = (p.1.toInt + 2000) * 4001 + p.2.toInt + 2001 := by
  have h1 := h.1
  have h2 := h.2
  have e1 : (2000 : Int32).toInt = 2000 := rfl
  have e2 : (4001 : Int32).toInt = 4001 := rfl
  have e3 : (2001 : Int32).toInt = 2001 := rfl
  have a1 : (p.1 + 2000).toInt = p.1.toInt + 2000 := by
    rw [Int32.toInt_add, e1, Int.bmod_eq_of_le (by omega) (by omega)]
  have a2 : ((p.1 + 2000) * 4001).toInt = (p.1.toInt + 2000) * 4001 := by
    rw [i32_mulI (by rw [a1, e2]; omega) (by rw [a1, e2]; omega), a1, e2]
  have a3 : ((p.1 + 2000) * 4001 + p.2).toInt = (p.1.toInt + 2000) * 4001 + p.2.toInt := by
    rw [Int32.toInt_add, a2, Int.bmod_eq_of_le (by omega) (by omega)]
  unfold uk
  rw [Int32.toInt_add, a3, e3, Int.bmod_eq_of_le (by omega) (by omega)]
theorem uk_ne {p : Int32 × Int32} (h : uR p) : uk p ≠ 0 := fun q => by
  have h1 := h.1
  have h2 := h.2
  have h3 := uk_i h
  rw [q, show (0 : Int32).toInt = 0 from rfl] at h3
  omega
theorem uk_inj {p q : Int32 × Int32} (hp : uR p) (hq : uR q) (e : uk p = uk q) : p = q := by
  have h1 := hp.1
  have h2 := hp.2
  have h3 := hq.1
  have h4 := hq.2
  have h5 := uk_i hp
  rw [e, uk_i hq] at h5
  exact Prod.ext (Int32.toInt_inj.mp (by omega)) (Int32.toInt_inj.mp (by omega))
/-- where a key's looking begins -/
noncomputable def uS (k : Int32) : Int32 := ((k * (40503 : Int32)).toUInt32 >>> ((8 : Int32).toUInt32 &&& Int32.toUInt32 31)).toInt32 &&& (4095 : Int32)
noncomputable def uX (s : Int32) (i : Nat) : Nat := (s.toBitVec.toNat + i) % 4096
theorem uX_lt (s : Int32) (i : Nat) : uX s i < 4096 := Nat.mod_lt _ (by decide)
theorem uX_e (s : Int32) {i : Nat} (h : i < 4096) : (s + nI i) &&& 4095 = nI (uX s i) := by
  have h1 : (s + nI i) &&& 4095 = nI ((s + nI i).toBitVec.toNat % 2 ^ 12) := pk_and (s + nI i) 12 (by decide)
  rw [h1, Int32.toBitVec_add, BitVec.toNat_add, pk_tn (by omega)]
  unfold uX
  congr 1
  omega
theorem uX_sur (s : Int32) {x : Nat} (hx : x < 4096) : ∃ i, i < 4096 ∧ uX s i = x := by
  refine ⟨(x + 4096 - s.toBitVec.toNat % 4096) % 4096, Nat.mod_lt _ (by decide), ?_⟩
  unfold uX
  omega
theorem uSubLen : ∀ (l U : List Nat), l.Nodup → (∀ x ∈ l, x ∈ U) → l.length ≤ U.length
  | [], _, _, _ => Nat.zero_le _
  | x :: l, U, hn, hs => by
    have hx : x ∈ U := hs x List.mem_cons_self
    have h1 := List.length_erase_of_mem hx
    have h2 : 0 < U.length := List.length_pos_of_mem hx
    have h3 := uSubLen l (U.erase x) (List.nodup_cons.mp hn).2 (fun y hy => (List.mem_erase_of_ne (fun (e : y = x) => (List.nodup_cons.mp hn).1 (e ▸ hy))).mpr (hs y (List.mem_cons_of_mem _ hy)))
    rw [List.length_cons]
    omega
/-- the table holds the keys of D; at most n places are taken -/
noncomputable def uT (tl : List Int32) (D : List (Int32 × Int32)) (n : Nat) : Prop := (∃ U : List Nat, U.length ≤ n ∧ ∀ x, x < 4096 → tl.getD x 0 ≠ 0 → x ∈ U) ∧ (∀ x, x < 4096 → tl.getD x 0 ≠ 0 → ∃ p, p ∈ D ∧ uk p = tl.getD x 0) ∧ (∀ p, p ∈ D → uR p ∧ ∃ i, i < 4096 ∧ tl.getD (uX (uS (uk p)) i) 0 = uk p ∧ ∀ j, j < i → tl.getD (uX (uS (uk p)) j) 0 ≠ 0)
theorem uT_0 {tl : List Int32} (h : ∀ x, x < 4096 → tl.getD x 0 = 0) : uT tl [] 0 := ⟨⟨[], Nat.le_refl _, fun x hx hn => absurd (h x hx) hn⟩, fun x hx hn => absurd (h x hx) hn, fun _ hp => absurd hp List.not_mem_nil⟩
theorem uT_le {tl : List Int32} {D : List (Int32 × Int32)} {n m : Nat} (h : uT tl D n) (hn : n ≤ m) : uT tl D m := by
  obtain ⟨⟨U, hU, hU2⟩, h2⟩ := h
  exact ⟨⟨U, Nat.le_trans hU hn, hU2⟩, h2⟩
theorem uT_zero {tl : List Int32} {D : List (Int32 × Int32)} {n : Nat} (h : uT tl D n) (hn : n < 4096) (s : Int32) : ∃ i, i < 4096 ∧ tl.getD (uX s i) 0 = 0 := by
  obtain ⟨⟨U, hU, hU2⟩, _⟩ := h
  refine Classical.byContradiction (fun hc => ?_)
  have h1 := uSubLen (List.range 4096) U List.nodup_range (fun x hx => by
    obtain ⟨i, hi, e⟩ := uX_sur s (List.mem_range.mp hx)
    exact hU2 x (List.mem_range.mp hx) (fun h0 => hc ⟨i, hi, by rw [e]; exact h0⟩))
  rw [List.length_range] at h1
  omega
theorem uT_fnd {tl : List Int32} {D : List (Int32 × Int32)} {n : Nat} (h : uT tl D n) {p : Int32 × Int32} (hp : uR p) {x : Nat} (hx : x < 4096) (e : tl.getD x 0 = uk p) : p ∈ D := by
  obtain ⟨q, hq, e2⟩ := h.2.1 x hx (by rw [e]; exact uk_ne hp)
  rw [uk_inj hp (h.2.2 q hq).1 (by rw [e2, e])]
  exact hq
theorem uT_nw {tl : List Int32} {D : List (Int32 × Int32)} {n : Nat} (h : uT tl D n) {p : Int32 × Int32} (hp : uR p) {i : Nat} (hj : ∀ j, j < i → tl.getD (uX (uS (uk p)) j) 0 ≠ 0 ∧ tl.getD (uX (uS (uk p)) j) 0 ≠ uk p) (h0 : tl.getD (uX (uS (uk p)) i) 0 = 0) : p ∉ D := fun hd => by
  obtain ⟨_, k, hk, e, hk2⟩ := h.2.2 p hd
  rcases Nat.lt_trichotomy k i with c | c | c
  · exact (hj k c).2 e
  · rw [c, h0] at e
    exact uk_ne hp e.symm
  · exact hk2 i c h0
theorem uT_put {tl : List Int32} {D : List (Int32 × Int32)} {n : Nat} (h : uT tl D n) {p : Int32 × Int32} (hp : uR p) {i : Nat} (hi : i < 4096) (hj : ∀ j, j < i → tl.getD (uX (uS (uk p)) j) 0 ≠ 0 ∧ tl.getD (uX (uS (uk p)) j) 0 ≠ uk p) (h0 : tl.getD (uX (uS (uk p)) i) 0 = 0) : uT (zset 0 tl (uX (uS (uk p)) i) (uk p)) (p :: D) (n + 1) := by
  have hx := uX_lt (uS (uk p)) i
  obtain ⟨⟨U, hU, hU2⟩, h2, h3⟩ := h
  obtain ⟨X, hX⟩ : ∃ X, X = uX (uS (uk p)) i := ⟨_, rfl⟩
  rw [← hX] at hx h0 ⊢
  refine ⟨⟨X :: U, by rw [List.length_cons]; omega, fun x hx2 hn => ?_⟩, fun x hx2 hn => ?_, fun q hq => ?_⟩
  · rw [zset_get] at hn
    by_cases e : x = X
    · rw [e]; exact List.mem_cons_self
    · rw [if_neg e] at hn
      exact List.mem_cons_of_mem _ (hU2 x hx2 hn)
  · rw [zset_get] at hn ⊢
    by_cases e : x = X
    · rw [if_pos e]
      exact ⟨p, List.mem_cons_self, rfl⟩
    · rw [if_neg e] at hn ⊢
      obtain ⟨q, hq, e2⟩ := h2 x hx2 hn
      exact ⟨q, List.mem_cons_of_mem _ hq, e2⟩
  · have keep : ∀ y, tl.getD y 0 ≠ 0 → (zset 0 tl X (uk p)).getD y 0 = tl.getD y 0 := fun y hy => by
      rw [zset_get, if_neg (fun e => hy (by rw [e]; exact h0))]
    rcases List.mem_cons.mp hq with e | hq2
    · rw [e]
      refine ⟨hp, i, hi, ?_, fun j hji => ?_⟩
      · rw [← hX, zset_get, if_pos rfl]
      · rw [keep _ (hj j hji).1]
        exact (hj j hji).1
    · obtain ⟨r, k, hk, e, hk2⟩ := h3 q hq2
      refine ⟨r, k, hk, ?_, fun j hjk => ?_⟩
      · rw [keep _ (by rw [e]; exact uk_ne r)]
        exact e
      · rw [keep _ (hk2 j hjk)]
        exact hk2 j hjk
noncomputable def uAdd (D : List (Int32 × Int32)) (p : Int32 × Int32) : List (Int32 × Int32) := if p ∈ D then D else p :: D
theorem uAdd_y {D : List (Int32 × Int32)} {p : Int32 × Int32} (h : p ∈ D) : uAdd D p = D := by unfold uAdd; rw [if_pos h]
theorem uAdd_n {D : List (Int32 × Int32)} {p : Int32 × Int32} (h : p ∉ D) : uAdd D p = p :: D := by unfold uAdd; rw [if_neg h]
theorem uAdd_len (D : List (Int32 × Int32)) (p : Int32 × Int32) : (uAdd D p).length ≤ D.length + 1 := by
  by_cases h : p ∈ D
  · rw [uAdd_y h]; omega
  · rw [uAdd_n h, List.length_cons]; omega
theorem uAdd_R {D : List (Int32 × Int32)} {p : Int32 × Int32} (hD : ∀ q ∈ D, uR q) (hp : uR p) : ∀ q ∈ uAdd D p, uR q := by
  by_cases h : p ∈ D
  · rw [uAdd_y h]; exact hD
  · rw [uAdd_n h]
    intro q hq
    rcases List.mem_cons.mp hq with e | e
    · rw [e]; exact hp
    · exact hD q e
/-- the row holds V, rising -/
noncomputable def uO (fo : List Int64) (V : List Int64) : Prop := (∀ i j, i < j → j < V.length → fo.getD i 0 < fo.getD j 0) ∧ (∀ z, z ∈ V ↔ ∃ i, i < V.length ∧ fo.getD i 0 = z)
noncomputable def lAdd (V : List Int64) (v : Int64) : List Int64 := if v ∈ V then V else v :: V
theorem uO_0 (fo : List Int64) : uO fo [] := ⟨fun _ j _ h => absurd h (Nat.not_lt_zero j), fun _ => ⟨fun h => absurd h List.not_mem_nil, fun ⟨i, h, _⟩ => absurd h (Nat.not_lt_zero i)⟩⟩
theorem uO_ins {fo fo2 V : List Int64} {v : Int64} {q : Nat} (h : uO fo V) (hq : q ≤ V.length) (h1 : ∀ i, i < q → fo.getD i 0 < v) (h2 : ∀ i, q ≤ i → i < V.length → v < fo.getD i 0) (g1 : ∀ i, i < q → fo2.getD i 0 = fo.getD i 0) (g2 : fo2.getD q 0 = v) (g3 : ∀ i, q ≤ i → i < V.length → fo2.getD (i + 1) 0 = fo.getD i 0) : uO fo2 (v :: V) := by
  refine ⟨fun i j hij hj => ?_, fun z => ⟨fun hz => ?_, fun ⟨i, hi, e⟩ => ?_⟩⟩
  · rw [List.length_cons] at hj
    rcases Nat.lt_trichotomy j q with c | c | c
    · rw [g1 i (by omega), g1 j c]
      exact h.1 i j hij (by omega)
    · rw [g1 i (by omega), c, g2]
      exact h1 i (by omega)
    · obtain ⟨k, rfl⟩ : ∃ k, j = k + 1 := ⟨j - 1, by omega⟩
      rw [g3 k (by omega) (by omega)]
      rcases Nat.lt_trichotomy i q with d | d | d
      · rw [g1 i d]
        exact h.1 i k (by omega) (by omega)
      · rw [d, g2]
        exact h2 k (by omega) (by omega)
      · obtain ⟨m, rfl⟩ : ∃ m, i = m + 1 := ⟨i - 1, by omega⟩
        rw [g3 m (by omega) (by omega)]
        exact h.1 m k (by omega) (by omega)
  · rcases List.mem_cons.mp hz with e | hz2
    · exact ⟨q, by rw [List.length_cons]; omega, by rw [g2, e]⟩
    · obtain ⟨i, hi, e⟩ := (h.2 z).mp hz2
      by_cases c : i < q
      · exact ⟨i, by rw [List.length_cons]; omega, by rw [g1 i c]; exact e⟩
      · exact ⟨i + 1, by rw [List.length_cons]; omega, by rw [g3 i (by omega) hi]; exact e⟩
  · rw [List.length_cons] at hi
    rcases Nat.lt_trichotomy i q with c | c | c
    · exact List.mem_cons_of_mem _ ((h.2 z).mpr ⟨i, by omega, by rw [← g1 i c]; exact e⟩)
    · rw [← e, c, g2]
      exact List.mem_cons_self
    · obtain ⟨k, rfl⟩ : ∃ k, i = k + 1 := ⟨i - 1, by omega⟩
      exact List.mem_cons_of_mem _ ((h.2 z).mpr ⟨k, by omega, by rw [← g3 k (by omega) (by omega)]; exact e⟩)
/-- the reference's key -/
noncomputable def uM (lk hd ht pt : Int32) (p : Int32 × Int32) : Int64 := 1000000 * (lk * p.1 + hd * jcos pt).toInt64 + (1000 * ht + lk * p.2 + hd * jsin pt).toInt64
theorem uM_i {lk hd ht pt : Int32} {p : Int32 × Int32} (hl : 1 ≤ lk.toInt ∧ lk.toInt ≤ 99) (hh : 1 ≤ hd.toInt ∧ hd.toInt ≤ 99) (hg : 1 ≤ ht.toInt ∧ ht.toInt ≤ 99) (hp : uR p) : (uM lk hd ht pt p).toInt = 1000000 * (lk.toInt * p.1.toInt + hd.toInt * (jcos pt).toInt) + (1000 * ht.toInt + lk.toInt * p.2.toInt + hd.toInt * (jsin pt).toInt) := by
  have k1 := jcos_rng pt
  have k2 := jsin_rng pt
  have b1 := int_mul_bd (show lk.toInt.natAbs ≤ 99 by omega) hp.1
  have b2 := int_mul_bd (show lk.toInt.natAbs ≤ 99 by omega) hp.2
  have b3 := int_mul_bd (show hd.toInt.natAbs ≤ 99 by omega) (show (jcos pt).toInt.natAbs ≤ 1000 by omega)
  have b4 := int_mul_bd (show hd.toInt.natAbs ≤ 99 by omega) (show (jsin pt).toInt.natAbs ≤ 1000 by omega)
  have e1 : (1000 : Int32).toInt = 1000 := rfl
  have e2 : (1000000 : Int64).toInt = 1000000 := rfl
  have a1 : (lk * p.1 + hd * jcos pt).toInt = lk.toInt * p.1.toInt + hd.toInt * (jcos pt).toInt := by
    rw [Int32.toInt_add, i32_mulI (a := lk) (b := p.1) (by omega) (by omega), i32_mulI (a := hd) (b := jcos pt) (by omega) (by omega), Int.bmod_eq_of_le (by omega) (by omega)]
  have a2 : (1000 * ht).toInt = 1000 * ht.toInt := by
    rw [i32_mulI (by rw [e1]; omega) (by rw [e1]; omega), e1]
  have a3 : (1000 * ht + lk * p.2).toInt = 1000 * ht.toInt + lk.toInt * p.2.toInt := by
    rw [Int32.toInt_add, a2, i32_mulI (a := lk) (b := p.2) (by omega) (by omega), Int.bmod_eq_of_le (by omega) (by omega)]
  have a4 : (1000 * ht + lk * p.2 + hd * jsin pt).toInt = 1000 * ht.toInt + lk.toInt * p.2.toInt + hd.toInt * (jsin pt).toInt := by
    rw [Int32.toInt_add, a3, i32_mulI (a := hd) (b := jsin pt) (by omega) (by omega), Int.bmod_eq_of_le (by omega) (by omega)]
  unfold uM
  rw [Int64.toInt_add, Int64.toInt_mul, e2, Int32.toInt_toInt64, Int32.toInt_toInt64, a1, a4, Int.bmod_eq_of_le (n := 1000000 * (lk.toInt * p.1.toInt + hd.toInt * (jcos pt).toInt)) (by omega) (by omega), Int.bmod_eq_of_le (by omega) (by omega)]
theorem uM_inj {lk hd ht pt : Int32} {p q : Int32 × Int32} (hl : 1 ≤ lk.toInt ∧ lk.toInt ≤ 99) (hh : 1 ≤ hd.toInt ∧ hd.toInt ≤ 99) (hg : 1 ≤ ht.toInt ∧ ht.toInt ≤ 99) (hp : uR p) (hq : uR q) (e : uM lk hd ht pt p = uM lk hd ht pt q) : p = q := by
  have b1 := int_mul_bd (show lk.toInt.natAbs ≤ 99 by omega) hp.1
  have b2 := int_mul_bd (show lk.toInt.natAbs ≤ 99 by omega) hp.2
  have b3 := int_mul_bd (show lk.toInt.natAbs ≤ 99 by omega) hq.1
  have b4 := int_mul_bd (show lk.toInt.natAbs ≤ 99 by omega) hq.2
  have i1 := uM_i (pt := pt) hl hh hg hp
  rw [e, uM_i hl hh hg hq] at i1
  have c1 : lk.toInt * p.1.toInt = lk.toInt * q.1.toInt := by omega
  have c2 : lk.toInt * p.2.toInt = lk.toInt * q.2.toInt := by omega
  exact Prod.ext (Int32.toInt_inj.mp (Int.eq_of_mul_eq_mul_left (by omega) c1)) (Int32.toInt_inj.mp (Int.eq_of_mul_eq_mul_left (by omega) c2))
theorem lAdd_map {lk hd ht pt : Int32} {D : List (Int32 × Int32)} {p : Int32 × Int32} (hl : 1 ≤ lk.toInt ∧ lk.toInt ≤ 99) (hh : 1 ≤ hd.toInt ∧ hd.toInt ≤ 99) (hg : 1 ≤ ht.toInt ∧ ht.toInt ≤ 99) (hD : ∀ q ∈ D, uR q) (hp : uR p) : lAdd (D.map (uM lk hd ht pt)) (uM lk hd ht pt p) = (uAdd D p).map (uM lk hd ht pt) := by
  by_cases c : p ∈ D
  · rw [uAdd_y c]
    unfold lAdd
    rw [if_pos (List.mem_map.mpr ⟨p, c, rfl⟩)]
  · rw [uAdd_n c]
    unfold lAdd
    rw [if_neg (fun hm => by
      obtain ⟨q, hq, e⟩ := List.mem_map.mp hm
      exact c (uM_inj hl hh hg (hD q hq) hp e ▸ hq))]
    rfl
/-- what a step adds; the loops -/
noncomputable def uSt (ll lg : List Int32) (pt a e : Int32) (D : List (Int32 × Int32)) : List (Int32 × Int32) := if jallow ll lg 4 (jw (pt - (a + e))) = true then uAdd D (uP a (a + e)) else D
noncomputable def uIn (ll lg : List Int32) (pt a : Int32) : Nat → Int32 → List (Int32 × Int32) → List (Int32 × Int32)
  | 0, _, D => D
  | n + 1, e, D => uIn ll lg pt a n (e + 1) (uSt ll lg pt a e D)
noncomputable def uOu (ll lg : List Int32) (pt : Int32) (m : Nat) : Nat → Int32 → List (Int32 × Int32) → List (Int32 × Int32)
  | 0, _, D => D
  | n + 1, a, D => uOu ll lg pt m n (a + 1) (uIn ll lg pt a m (ll.getD 3 0) D)
theorem uSt_n {ll lg : List Int32} {pt a e : Int32} (D : List (Int32 × Int32)) (h : jallow ll lg 4 (jw (pt - (a + e))) = false) : uSt ll lg pt a e D = D := by unfold uSt; rw [if_neg (by rw [h]; decide)]
theorem uSt_y {ll lg : List Int32} {pt a e : Int32} (D : List (Int32 × Int32)) (h : jallow ll lg 4 (jw (pt - (a + e))) = true) : uSt ll lg pt a e D = uAdd D (uP a (a + e)) := by unfold uSt; rw [if_pos h]
theorem uIn_c {lo hi ll lg : List Int32} (h : wLim lo hi ll lg) (pt a : Int32) : ∀ (n : Nat) (e : Int32) (D : List (Int32 × Int32)), uIn lo hi pt a n e D = uIn ll lg pt a n e D
  | 0, _, _ => rfl
  | n + 1, e, D => by
    have h1 : jallow lo hi 4 (jw (pt - (a + e))) = jallow ll lg 4 (jw (pt - (a + e))) := jallow_c h (j := 4) (by decide) _
    show uIn lo hi pt a n (e + 1) (uSt lo hi pt a e D) = uIn ll lg pt a n (e + 1) (uSt ll lg pt a e D)
    rw [uIn_c h pt a n, show uSt lo hi pt a e D = uSt ll lg pt a e D by unfold uSt; rw [h1]]
theorem uOu_c {lo hi ll lg : List Int32} (h : wLim lo hi ll lg) (pt : Int32) (m : Nat) : ∀ (n : Nat) (a : Int32) (D : List (Int32 × Int32)), uOu lo hi pt m n a D = uOu ll lg pt m n a D
  | 0, _, _ => rfl
  | n + 1, a, D => by
    show uOu lo hi pt m n (a + 1) (uIn lo hi pt a m (lo.getD 3 0) D) = uOu ll lg pt m n (a + 1) (uIn ll lg pt a m (ll.getD 3 0) D)
    rw [uOu_c h pt m n, uIn_c h, (h 3 (by decide)).1]
theorem uAllS {Pr : Nat → Prop} {i : Nat} (h : ∀ j, j < i → Pr j) (hi : Pr i) : ∀ j, j < i + 1 → Pr j := fun j hj => by
  by_cases c : j = i
  · rw [c]; exact hi
  · exact h j (by omega)
theorem nI_half {a b : Nat} (h : a + b < 2147483648) : (nI a + nI b) / (2 : Int32) = nI ((a + b) / 2) := by
  apply Int32.toInt_inj.mp
  have e1 : (2 : Int32).toInt = 2 := rfl
  rw [nI_add, Int32.toInt_div, e1, nI_toInt (by omega), nI_toInt (by omega), Int.tdiv_eq_ediv_of_nonneg (by omega), Int.bmod_eq_of_le (by omega) (by omega)]
  omega
