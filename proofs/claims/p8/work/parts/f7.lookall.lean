/-! The class: the planner looks all its spots up. -/
noncomputable def fup {α : Type} (f : Nat → α) (w : Nat) (x : α) : Nat → α := fun v => if v = w then x else f v
theorem fup_s {α : Type} (f : Nat → α) (w : Nat) (x : α) : fup f w x w = x := if_pos rfl
theorem fup_n {α : Type} (f : Nat → α) {w v : Nat} (x : α) (h : v ≠ w) : fup f w x v = f v := if_neg h
noncomputable def wSol (h : zH) (rv sc : Nat) : Prop := ∃ (v0 v1 : Value) (nf : Int32) (tg sh el wr ou bh : List Int32) (so1 : List Int64), zat h 44 = some (.inr (.inr (.inr (7, [v0, v1, .ref 46, .int nf, .ref 48, .ref 50, .ref 52, .ref 54, .ref 56, .ref rv])))) ∧ zat h 46 = some (.inl (0, 6, tg)) ∧ zat h 48 = some (.inl (0, 128, sh)) ∧ zat h 50 = some (.inl (0, 128, el)) ∧ zat h 52 = some (.inl (0, 128, wr)) ∧ zat h 54 = some (.inl (0, 128, ou)) ∧ zat h 56 = some (.inl (0, 101, bh)) ∧ zat h rv = some (.inr (.inl (sc, so1))) ∧ (rv = 58 ∨ 234 ≤ rv) ∧ sc ≤ 600
noncomputable def wHs (h : zH) (to rL cap : Nat → Nat) (kn ks fa : Nat → Int32) (hp : Nat → List Int32) (li : Nat → List Int64) : Prop := ∀ w, w < 8 → zat h (102 + 6 * w) = some (.inr (.inr (.inr (1, [.int (kn w), .int (nI (to w)), .ref (rL w), .ref (102 + 6 * w + 4), .int (ks w), .int (fa w)])))) ∧ zat h (102 + 6 * w + 4) = some (.inl (0, 6, hp w)) ∧ zat h (rL w) = some (.inr (.inl (cap w, li w))) ∧ (rL w = 102 + 6 * w + 2 ∨ 234 ≤ rL w) ∧ 16 ≤ cap w ∧ cap w ≤ 600
noncomputable def wHn (rv : Nat) (rL : Nat → Nat) : Prop := ∀ w, w < 8 → rv ≠ rL w ∧ ∀ v, v < 8 → w ≠ v → rL w ≠ rL v
noncomputable def lkF (rv : Nat) (rL : Nat → Nat) : List Nat := [74, 96, 76, 44, 46, 48, 50, 52, 54, 56, 102, 106, 108, 112, 114, 118, 120, 124, 126, 130, 132, 136, 138, 142, 144, 148] ++ rv :: (List.range 8).map rL
theorem lkF_m {rv : Nat} {rL : Nat → Nat} {q w : Nat} (hw : w < 8) (h : q = 74 ∨ q = 96 ∨ q = 76 ∨ q = 44 ∨ q = 46 ∨ q = 48 ∨ q = 50 ∨ q = 52 ∨ q = 54 ∨ q = 56 ∨ q = rv ∨ q = 102 + 6 * w ∨ q = 102 + 6 * w + 4 ∨ q = rL w) : q ∈ lkF rv rL := by
  refine List.mem_append.mpr ?_
  by_cases hr : q = rv
  · exact Or.inr (List.mem_cons.mpr (Or.inl hr))
  by_cases hl : q = rL w
  · exact Or.inr (List.mem_cons.mpr (Or.inr (List.mem_map.mpr ⟨w, List.mem_range.mpr hw, hl.symm⟩)))
  left
  have : q = 74 ∨ q = 96 ∨ q = 76 ∨ q = 44 ∨ q = 46 ∨ q = 48 ∨ q = 50 ∨ q = 52 ∨ q = 54 ∨ q = 56 ∨ q = 102 ∨ q = 106 ∨ q = 108 ∨ q = 112 ∨ q = 114 ∨ q = 118 ∨ q = 120 ∨ q = 124 ∨ q = 126 ∨ q = 130 ∨ q = 132 ∨ q = 136 ∨ q = 138 ∨ q = 142 ∨ q = 144 ∨ q = 148 := by omega
  simp only [List.mem_cons, List.not_mem_nil, or_false]
  exact this
theorem lkF_g {rv rv2 : Nat} {rL : Nat → Nat} {w rL2 n : Nat} (hw : w < 8) (h1 : rv2 = rv ∨ n ≤ rv2) (h2 : rL2 = rL w ∨ n ≤ rL2) : ∀ q ∈ lkF rv2 (fup rL w rL2), q ∈ lkF rv rL ∨ n ≤ q := by
  intro q hq
  rcases List.mem_append.mp hq with k | k
  · exact Or.inl (List.mem_append.mpr (Or.inl k))
  rcases List.mem_cons.mp k with k | k
  · rcases h1 with e | e
    · exact Or.inl (List.mem_append.mpr (Or.inr (List.mem_cons.mpr (Or.inl (k.trans e)))))
    · exact Or.inr (by omega)
  · obtain ⟨v, hv, e⟩ := List.mem_map.mp k
    by_cases hvw : v = w
    · subst hvw
      rw [fup_s] at e
      rcases h2 with e2 | e2
      · exact Or.inl (List.mem_append.mpr (Or.inr (List.mem_cons.mpr (Or.inr (List.mem_map.mpr ⟨v, hv, e2.symm.trans e⟩)))))
      · exact Or.inr (by omega)
    · rw [fup_n _ _ hvw] at e
      exact Or.inl (List.mem_append.mpr (Or.inr (List.mem_cons.mpr (Or.inr (List.mem_map.mpr ⟨v, hv, e⟩)))))
noncomputable def capS (c : Nat → Nat) : Nat := c 0 + c 1 + c 2 + c 3 + c 4 + c 5 + c 6 + c 7
theorem capS_up (c : Nat → Nat) {w : Nat} (hw : w < 8) (x : Nat) : capS (fup c w x) + c w = capS c + x := by
  rcases w with _ | _ | _ | _ | _ | _ | _ | _ | w
  all_goals first | (unfold capS fup; simp only [reduceIte]; simp; omega) | omega
noncomputable def lkS (N wn : Nat → Nat) : Nat → Nat
  | 0 => 0
  | i + 1 => lkS N wn i + min (N (wn i)) 600
theorem lkS_le (N wn : Nat → Nat) : ∀ i, lkS N wn i ≤ 600 * i
  | 0 => Nat.le_refl 0
  | i + 1 => by
    have := lkS_le N wn i
    show lkS N wn i + min (N (wn i)) 600 ≤ 600 * (i + 1)
    omega
/-- what a spot's place has for solutions -/
noncomputable def jSL (ll lg : List Int32) (lk hd ht : Int32) (p : Int64) : List Int64 := sSolL ll lg lk hd ht (jPlo lk hd ht p []) 64 (-32)
theorem jPlo_at (lk hd ht : Int32) (p : Int64) (a b : List Int32) (i : Nat) (hi : i < 6) : (jPlo lk hd ht p a).getD i 0 = (jPlo lk hd ht p b).getD i 0 := by
  unfold jPlo
  rw [zset6 _ _ _ _ _ _ _ _ hi, zset6 _ _ _ _ _ _ _ _ hi]
theorem jSL_e (ll lg : List Int32) (lk hd ht : Int32) (p : Int64) (a : List Int32) : sSolL ll lg lk hd ht (jPlo lk hd ht p a) 64 (-32) = jSL ll lg lk hd ht p := sSolL_c (fun i hi => jPlo_at lk hd ht p a [] i hi) ll lg lk hd ht 64 (-32)
theorem bit_or {b v w : Nat} : (b ||| 2 ^ w) >>> v % 2 ≠ 0 ↔ b >>> v % 2 ≠ 0 ∨ v = w := by
  rw [e_bit, e_bit, Nat.testBit_or, Nat.testBit_two_pow]
  by_cases h : w = v
  · subst h; simp
  · have : ¬ v = w := fun q => h q.symm
    simp [h, this]
theorem bit_0 (v : Nat) : (0 : Nat) >>> v % 2 = 0 := by rw [Nat.zero_shiftRight]
theorem wFr_at {S : List Nat} {h h2 : zH} {q : Nat} {e : zE} (f : wFr S h h2) (hq : q ∉ S) (k : zat h q = some e) : zat h2 q = some e := f.2 q e hq k
noncomputable def wAc (h : zH) (ra sp so : Nat) (lk hd ht bl sd : Int32) (rt : Int64) (ll lg wy : List Int32) (po : List Int64) : Prop := zat h ra = some (.inr (.inr (.inr (0, [.int lk, .int hd, .int ht, .int bl, .int sd, .long rt, .ref (ra + 2), .ref (ra + 4), .ref (ra + 6), .int (nI sp), .ref (ra + 8), .ref (ra + 10), .int (nI so), .ref (ra + 12)])))) ∧ zat h (ra + 2) = some (.inl (0, 6, ll)) ∧ zat h (ra + 4) = some (.inl (0, 6, lg)) ∧ zat h (ra + 10) = some (.inr (.inl (8, po))) ∧ zat h (ra + 12) = some (.inl (0, 10, wy)) ∧ zat h 78 = some (.inr (.inr (.inl (8, [some 102, some 108, some 114, some 120, some 126, some 132, some 138, some 144]))))
theorem wAc_fr {h h2 : zH} {ra sp so : Nat} {lk hd ht bl sd : Int32} {rt : Int64} {ll lg wy : List Int32} {po : List Int64} {S : List Nat} (k : wAc h ra sp so lk hd ht bl sd rt ll lg wy po) (f : wFr S h h2) (hra : ra = 6 ∨ ra = 20) (hS : ∀ q ∈ S, 34 ≤ q ∧ q ≠ 78) : wAc h2 ra sp so lk hd ht bl sd rt ll lg wy po := by
  obtain ⟨a1, a2, a3, a4, a5, a6⟩ := k
  have nn : ∀ q, q < 34 ∨ q = 78 → q ∉ S := fun q hq hm => by have := hS q hm; omega
  exact ⟨wFr_at f (nn _ (by omega)) a1, wFr_at f (nn _ (by omega)) a2, wFr_at f (nn _ (by omega)) a3, wFr_at f (nn _ (by omega)) a4, wFr_at f (nn _ (by omega)) a5, wFr_at f (nn _ (by omega)) a6⟩
/-- what is known of the spots that have been solved -/
noncomputable def wGt (N : Nat → List Int64) (b : Nat) (to cap : Nat → Nat) (li : Nat → List Int64) : Prop := ∀ v, v < 8 → b >>> v % 2 ≠ 0 → to v = (N v).length ∧ wHK (N v) (cap v) (li v)
noncomputable def wCnt (N wn : Nat → Nat) (i : Nat) (no tm : Int32) : Prop := ((no.toInt = 1 ∧ ∃ q, q < i ∧ N (wn q) = 0) ∨ (no.toInt = 0 ∧ ∀ q, q < i → N (wn q) ≠ 0)) ∧ ((tm.toInt = 1 ∧ ∃ q, q < i ∧ 600 < N (wn q)) ∨ (tm.toInt = 0 ∧ ∀ q, q < i → N (wn q) ≤ 600))
theorem wCnt_s {N wn : Nat → Nat} {i n : Nat} {no tm no2 tm2 : Int32} (h : wCnt N wn i no tm) (hn : n = N (wn i)) (h1 : (no2.toInt = 1 ∧ (no.toInt ≠ 0 ∨ n = 0)) ∨ (no2.toInt = 0 ∧ no.toInt = 0 ∧ n ≠ 0)) (h2 : (tm2.toInt = 1 ∧ (tm.toInt ≠ 0 ∨ 600 < n)) ∨ (tm2.toInt = 0 ∧ tm.toInt = 0 ∧ n ≤ 600)) : wCnt N wn (i + 1) no2 tm2 := by
  obtain ⟨a, b⟩ := h
  refine ⟨?_, ?_⟩
  · rcases h1 with ⟨e, k⟩ | ⟨e, k, z⟩
    · refine Or.inl ⟨e, ?_⟩
      by_cases hz : n = 0
      · exact ⟨i, by omega, by omega⟩
      · rcases a with ⟨_, q, hq, w⟩ | ⟨w, _⟩
        · exact ⟨q, by omega, w⟩
        · omega
    · refine Or.inr ⟨e, fun q hq => ?_⟩
      rcases a with ⟨w, _⟩ | ⟨_, w⟩
      · omega
      · by_cases hqi : q = i
        · subst hqi; omega
        · exact w q (by omega)
  · rcases h2 with ⟨e, k⟩ | ⟨e, k, z⟩
    · refine Or.inl ⟨e, ?_⟩
      by_cases hz : 600 < n
      · exact ⟨i, by omega, by omega⟩
      · rcases b with ⟨_, q, hq, w⟩ | ⟨w, _⟩
        · exact ⟨q, by omega, w⟩
        · omega
    · refine Or.inr ⟨e, fun q hq => ?_⟩
      rcases b with ⟨w, _⟩ | ⟨_, w⟩
      · omega
      · by_cases hqi : q = i
        · subst hqi; omega
        · exact w q (by omega)
theorem nA_v {x : Nat} (h : x = 58 ∨ 234 ≤ x) : x ∉ [74, 96] := by simp only [List.mem_cons, List.not_mem_nil, or_false, not_or]; omega
theorem nA_1 (v : Nat) : 102 + 6 * v ∉ [74, 96] := by simp only [List.mem_cons, List.not_mem_nil, or_false, not_or]; omega
theorem nA_2 (v : Nat) : 102 + 6 * v + 4 ∉ [74, 96] := by simp only [List.mem_cons, List.not_mem_nil, or_false, not_or]; omega
theorem nA_3 {x v : Nat} (h : x = 102 + 6 * v + 2 ∨ 234 ≤ x) : x ∉ [74, 96] := by simp only [List.mem_cons, List.not_mem_nil, or_false, not_or]; omega
theorem nA_m {q rv w x : Nat} (hq : q ∈ [74, 96]) : q = 74 ∨ q = 96 ∨ q = 76 ∨ q = 44 ∨ q = 46 ∨ q = 48 ∨ q = 50 ∨ q = 52 ∨ q = 54 ∨ q = 56 ∨ q = rv ∨ q = 102 + 6 * w ∨ q = 102 + 6 * w + 4 ∨ q = x := by
  simp only [List.mem_cons, List.not_mem_nil, or_false] at hq
  rcases hq with e | e
  · exact Or.inl e
  · exact Or.inr (Or.inl e)
theorem nB_m {q rv w x : Nat} (hq : q ∈ [74, 96, 76, 44, 46, 48, 50, 52, 54, 56, rv, (102 + 6 * w), (102 + 6 * w + 4), x]) : q = 74 ∨ q = 96 ∨ q = 76 ∨ q = 44 ∨ q = 46 ∨ q = 48 ∨ q = 50 ∨ q = 52 ∨ q = 54 ∨ q = 56 ∨ q = rv ∨ q = 102 + 6 * w ∨ q = 102 + 6 * w + 4 ∨ q = x := by
  simp only [List.mem_cons, List.not_mem_nil, or_false] at hq
  exact hq
theorem nB_a {rv w x : Nat} (hr : rv = 58 ∨ 234 ≤ rv) (hx : x = 102 + 6 * w + 2 ∨ 234 ≤ x) : ∀ q ∈ [74, 96, 76, 44, 46, 48, 50, 52, 54, 56, rv, (102 + 6 * w), (102 + 6 * w + 4), x], 34 ≤ q ∧ q ≠ 78 := by
  intro q hq
  rcases nB_m hq with e | e | e | e | e | e | e | e | e | e | e | e | e | e <;> subst e <;> omega
theorem nB_1 {v w rv x : Nat} (hvw : v ≠ w) (hr : rv = 58 ∨ 234 ≤ rv) (hx : x = 102 + 6 * w + 2 ∨ 234 ≤ x) (hv : v < 8) : 102 + 6 * v ∉ [74, 96, 76, 44, 46, 48, 50, 52, 54, 56, rv, (102 + 6 * w), (102 + 6 * w + 4), x] := fun hq => by
  rcases nB_m hq with e | e | e | e | e | e | e | e | e | e | e | e | e | e <;> omega
theorem nB_2 {v w rv x : Nat} (hvw : v ≠ w) (hr : rv = 58 ∨ 234 ≤ rv) (hx : x = 102 + 6 * w + 2 ∨ 234 ≤ x) (hv : v < 8) : 102 + 6 * v + 4 ∉ [74, 96, 76, 44, 46, 48, 50, 52, 54, 56, rv, (102 + 6 * w), (102 + 6 * w + 4), x] := fun hq => by
  rcases nB_m hq with e | e | e | e | e | e | e | e | e | e | e | e | e | e <;> omega
theorem nB_3 {v w rv x y : Nat} (hy : y = 102 + 6 * v + 2 ∨ 234 ≤ y) (n1 : y ≠ x) (n2 : rv ≠ y) (hv : v < 8) (hw : w < 8) : y ∉ [74, 96, 76, 44, 46, 48, 50, 52, 54, 56, rv, (102 + 6 * w), (102 + 6 * w + 4), x] := fun hq => by
  rcases nB_m hq with e | e | e | e | e | e | e | e | e | e | e | e | e | e
  · omega
  · omega
  · omega
  · omega
  · omega
  · omega
  · omega
  · omega
  · omega
  · omega
  · exact n2 e.symm
  · omega
  · omega
  · exact n1 e
set_option maxRecDepth 100000 in
set_option maxHeartbeats 4000000 in
theorem c_lk0 {h : zH} {Q : zR → Prop} {dc ds : Nat} {ra sp so : Nat} {lk hd ht bl sd : Int32} {rt : Int64} {rp rs al : Nat} {wg ob pr9 sr9 fw : Int32} {no tm : Int32} {b i : Nat} (hPl : zat h 74 = some (.inr (.inr (.inr (3, [.ref 44, .ref ra, .ref 76, .ref 78, .ref 80, .ref 88, .int wg, .int ob, .ref 96, .int (nI al), .int pr9, .int sr9, .ref rp, .ref rs, .int fw]))))) (hA : zat h ra = some (.inr (.inr (.inr (0, [.int lk, .int hd, .int ht, .int bl, .int sd, .long rt, .ref (ra + 2), .ref (ra + 4), .ref (ra + 6), .int (nI sp), .ref (ra + 8), .ref (ra + 10), .int (nI so), .ref (ra + 12)]))))) (hi : so ≤ i ∧ i ≤ 10) (kE : ∀ (h2 : zH), (wFr [] h h2) → (h2.length = h.length) → wq 28 187 [(0, .ref 74), (1, .int no), (2, .int tm)] [] h2 dc ds Q) : wq 28 27 [(0, .ref 74), (1, .int no), (2, .int tm), (3, .int (nI b)), (4, .int (nI i))] [] h dc ds Q := by
  have qni := nI_toInt (n := i) (by omega)
  have qnso := nI_toInt (n := so) (by omega)
  refine wq_gos (f := 1) (pc2 := 30) (ls2 := [(0, .ref 74), (1, .int no), (2, .int tm), (3, .int (nI b)), (4, .int (nI i))]) (st2 := [.ref 74, .int (nI i)]) (h2 := h) (dc2 := dc) (ds2 := ds) 2 rfl ?_
  refine wq_getf rfl hPl rfl rfl ?_
  refine wq_getf rfl hA rfl rfl ?_
  try have q1x := nI_toInt (n := i) (by omega)
  try have q2x := nI_toInt (n := so) (by omega)
  refine wq_ge2t rfl (by omega) ?_
  refine wq_ls [(0, .ref 74), (1, .int no), (2, .int tm)] (show ([0, 1, 2] : List Nat).Nodup by decide) ⟨rfl, rfl, rfl, trivial⟩ ?_
  exact kE h (wFr_rf _ _) (by omega)
set_option maxRecDepth 100000 in
set_option maxHeartbeats 4000000 in
theorem c_lkL {Q : zR → Prop} {ra sp so : Nat} {lk hd ht bl sd : Int32} {rt : Int64} {ll lg wy : List Int32} {po : List Int64} {rp rs : Nat} {wg ob pr9 sr9 fw : Int32} (hra : ra = 6 ∨ ra = 20) (hsp : sp ≤ 8) (hsc : wScl lk hd ht bl sd) (hlm : wLm ll lg) (hway : wWay wy sp so) : ∀ (m : Nat) (i b : Nat) (no tm : Int32) (fi hpl : List Int32) (to rL cap : Nat → Nat) (kn ks fa : Nat → Int32) (hp : Nat → List Int32) (li : Nat → List Int64) (rv sc dc ds : Nat) (h : zH), i ≤ so → so - i < m → b < 256 → (∀ q, q < i → b >>> (wy.getD q 0).toNatClampNeg % 2 ≠ 0) → wGt (fun v => jSL ll lg lk hd ht (po.getD v 0)) b to cap li → (∀ w, w < 8 → to w ≤ 16384) → wCnt (fun v => (jSL ll lg lk hd ht (po.getD v 0)).length) (fun q => (wy.getD q 0).toNatClampNeg) i no tm → (∀ q, q < i → fi.getD q 0 = nI (lkS (fun v => (jSL ll lg lk hd ht (po.getD v 0)).length) (fun q => (wy.getD q 0).toNatClampNeg) q)) → 117 ≤ h.length → wAc h ra sp so lk hd ht bl sd rt ll lg wy po → zat h 74 = some (.inr (.inr (.inr (3, [.ref 44, .ref ra, .ref 76, .ref 78, .ref 80, .ref 88, .int wg, .int ob, .ref 96, .int (nI (lkS (fun v => (jSL ll lg lk hd ht (po.getD v 0)).length) (fun q => (wy.getD q 0).toNatClampNeg) i)), .int pr9, .int sr9, .ref rp, .ref rs, .int fw])))) → zat h 96 = some (.inl (0, 10, fi)) → zat h 76 = some (.inl (0, 6, hpl)) → wSol h rv sc → wHs h to rL cap kn ks fa hp li → wHn rv rL → (∀ (h2 : zH) (b2 : Nat) (no2 tm2 : Int32) (fi2 hpl2 : List Int32) (to2 rL2 cap2 : Nat → Nat) (kn2 ks2 fa2 : Nat → Int32) (hp2 : Nat → List Int32) (li2 : Nat → List Int64) (rv2 sc2 dc2 ds2 : Nat), wFr (lkF rv rL) h h2 → wAc h2 ra sp so lk hd ht bl sd rt ll lg wy po → zat h2 74 = some (.inr (.inr (.inr (3, [.ref 44, .ref ra, .ref 76, .ref 78, .ref 80, .ref 88, .int wg, .int ob, .ref 96, .int (nI (lkS (fun v => (jSL ll lg lk hd ht (po.getD v 0)).length) (fun q => (wy.getD q 0).toNatClampNeg) so)), .int pr9, .int sr9, .ref rp, .ref rs, .int fw])))) → zat h2 96 = some (.inl (0, 10, fi2)) → zat h2 76 = some (.inl (0, 6, hpl2)) → wSol h2 rv2 sc2 → wHs h2 to2 rL2 cap2 kn2 ks2 fa2 hp2 li2 → wHn rv2 rL2 → (∀ q, q < so → b2 >>> (wy.getD q 0).toNatClampNeg % 2 ≠ 0) → wGt (fun v => jSL ll lg lk hd ht (po.getD v 0)) b2 to2 cap2 li2 → (∀ w, w < 8 → to2 w ≤ 16384) → wCnt (fun v => (jSL ll lg lk hd ht (po.getD v 0)).length) (fun q => (wy.getD q 0).toNatClampNeg) so no2 tm2 → (∀ q, q < so → fi2.getD q 0 = nI (lkS (fun v => (jSL ll lg lk hd ht (po.getD v 0)).length) (fun q => (wy.getD q 0).toNatClampNeg) q)) → (rv2 = rv ∨ 2 * h.length ≤ rv2) → (∀ w, w < 8 → rL2 w = rL w ∨ 2 * h.length ≤ rL2 w) → (dc2 + capS cap + sc ≤ dc + capS cap2 + sc2) → (ds2 + 600 * (capS cap + sc) ≤ ds + 600 * (capS cap2 + sc2)) → (sc ≤ sc2) → (∀ w, w < 8 → cap w ≤ cap2 w) → wq 28 187 [(0, .ref 74), (1, .int no2), (2, .int tm2)] [] h2 dc2 ds2 Q) → wq 28 27 [(0, .ref 74), (1, .int no), (2, .int tm), (3, .int (nI b)), (4, .int (nI i))] [] h dc ds Q := by
  intro m
  induction m with
  | zero => intro i b no tm fi hpl to rL cap kn ks fa hp li rv sc dc ds h h1 h2; omega
  | succ m ih =>
    intro i b no tm fi hpl to rL cap kn ks fa hp li rv sc dc ds h hi hm hb hbit hgt hto hcnt hfi hlen hAc hPl hF h76 hSo hHs hHn K
    have hso := hway.1
    obtain ⟨hA, hL, hG, hQ, hW, h78⟩ := id hAc
    by_cases he : i < so
    · obtain ⟨w, hw, hw8⟩ := hway.2 i he
      have hwn : (wy.getD i 0).toNatClampNeg = w := by rw [hw]; exact nI_clamp (by omega)
      have hw9 : w < 8 := by omega
      obtain ⟨v0, v1, nf, tg, sh, el, wr, ou, bh, so1, hS, h46, h48, h50, h52, h54, hB, hO, hrv, hscb⟩ := id hSo
      obtain ⟨hH, hP4, hI, hd1, hc16, hc6⟩ := hHs w hw9
      have hrvw := (hHn w hw9).1
      have hal := lkS_le (fun v => (jSL ll lg lk hd ht (po.getD v 0)).length) (fun q => (wy.getD q 0).toNatClampNeg) i
      have hz9 := fun v hv => zat_lt (hHs v hv).2.2.1
      have hzv := zat_lt hO
      refine c_lk1 hPl hA hL hG hQ hW h78 h76 hF hS h46 h48 h50 h52 h54 hB hO hH hP4 hI hra hsp hsc hlm ⟨he, hso⟩ hw hw8 hb (by omega) (hto w hw9) hd1 ⟨hrv, hrvw⟩ ⟨hc16, hc6, hscb⟩ hlen ?_ ?_
      · intro h2 no2 tm2 f l e74 e96 p1 p2 p3
        have hN := (hgt w hw9 p1).1
        refine ih (i + 1) b no2 tm2 _ hpl to rL cap kn ks fa hp li rv sc dc ds h2 (by omega) (by omega) hb ?_ hgt hto (wCnt_s hcnt (by rw [hwn]; exact hN) p2 p3) ?_ (by omega) (wAc_fr hAc f hra (by decide)) ?_ e96 (wFr_at f (by decide) h76) ?_ ?_ hHn ?_
        · intro q hq
          by_cases hqi : q = i
          · rw [hqi, hwn]; exact p1
          · exact hbit q (by omega)
        · intro q hq
          rw [zset_get]
          by_cases hqi : q = i
          · rw [if_pos hqi, hqi]
          · rw [if_neg hqi]; exact hfi q (by omega)
        · rw [show lkS (fun v => (jSL ll lg lk hd ht (po.getD v 0)).length) (fun q => (wy.getD q 0).toNatClampNeg) (i + 1) = lkS (fun v => (jSL ll lg lk hd ht (po.getD v 0)).length) (fun q => (wy.getD q 0).toNatClampNeg) i + min (to w) 600 from by rw [hN, ← hwn]; rfl]; exact e74
        · exact ⟨v0, v1, nf, tg, sh, el, wr, ou, bh, so1, wFr_at f (by decide) hS, wFr_at f (by decide) h46, wFr_at f (by decide) h48, wFr_at f (by decide) h50, wFr_at f (by decide) h52, wFr_at f (by decide) h54, wFr_at f (by decide) hB, wFr_at f (nA_v hrv) hO, hrv, hscb⟩
        · intro v hv
          obtain ⟨a1, a2, a3, a4, a5, a6⟩ := hHs v hv
          exact ⟨wFr_at f (nA_1 v) a1, wFr_at f (nA_2 v) a2, wFr_at f (nA_3 a4) a3, a4, a5, a6⟩
        · intro h3 b3 no3 tm3 fi3 hpl3 to3 rL3 cap3 kn3 ks3 fa3 hp3 li3 rv3 sc3 dc3 ds3 f3 k1 k2 k3 k4 k5 k6 k7 k8 k9 k10 k11 k12 k13 k14 k15 k16 k17 k18
          refine K h3 b3 no3 tm3 fi3 hpl3 to3 rL3 cap3 kn3 ks3 fa3 hp3 li3 rv3 sc3 dc3 ds3 (wFr_tr (wFr_sub f (fun q hq => lkF_m hw9 (nA_m hq))) f3) k1 k2 k3 k4 k5 k6 k7 k8 k9 k10 k11 k12 ?_ ?_ k15 k16 k17 k18
          · omega
          · intro v hv; have := k14 v hv; omega
      · intro h2 no2 tm2 rL2 cap2 rv2 sc2 nf2 kn2 ks2 fa2 tg2 hp2 sh2 el2 wr2 ou2 bh2 li2 so2 d9 s9 f l e74 e96 e76 e44 e46 e48 e50 e52 e54 e56 erv eH eP eI p1 p2 p3 p4 p5 p6 p7 p8 p9 p10 p11 q1 q2
        rw [jSL_e] at e74 eH p2 p3 p6 p7
        have hcu := capS_up cap hw9 cap2
        have hrvne : ∀ v, v < 8 → v ≠ w → rL v ≠ rL w := fun v hv hvw => (hHn v hv).2 w hw9 hvw
        refine ih (i + 1) (b ||| 2 ^ w) no2 tm2 _ _ (fup to w (jSL ll lg lk hd ht (po.getD w 0)).length) (fup rL w rL2) (fup cap w cap2) (fup kn w kn2) (fup ks w ks2) (fup fa w fa2) (fup hp w hp2) (fup li w li2) rv2 sc2 d9 s9 h2 (by omega) (by omega) ?_ ?_ ?_ ?_ (wCnt_s hcnt (by rw [hwn]) p2 p3) ?_ (by omega) (wAc_fr hAc f hra (nB_a hrv hd1)) ?_ e96 e76 ?_ ?_ ?_ ?_
        · exact Nat.or_lt_two_pow (n := 8) hb (Nat.pow_lt_pow_right (by decide) hw9)
        · intro q hq
          rw [bit_or]
          by_cases hqi : q = i
          · right; rw [hqi, hwn]
          · exact Or.inl (hbit q (by omega))
        · intro v hv hbv
          by_cases hvw : v = w
          · subst hvw; rw [fup_s, fup_s, fup_s]; exact ⟨rfl, p6⟩
          · rw [fup_n _ _ hvw, fup_n _ _ hvw, fup_n _ _ hvw]
            rcases bit_or.mp hbv with z | z
            · exact hgt v hv z
            · exact absurd z hvw
        · intro v hv
          by_cases hvw : v = w
          · rw [hvw, fup_s]; exact p7
          · rw [fup_n _ _ hvw]; exact hto v hv
        · intro q hq
          rw [zset_get]
          by_cases hqi : q = i
          · rw [if_pos hqi, hqi]
          · rw [if_neg hqi]; exact hfi q (by omega)
        · rw [show lkS (fun v => (jSL ll lg lk hd ht (po.getD v 0)).length) (fun q => (wy.getD q 0).toNatClampNeg) (i + 1) = lkS (fun v => (jSL ll lg lk hd ht (po.getD v 0)).length) (fun q => (wy.getD q 0).toNatClampNeg) i + min (jSL ll lg lk hd ht (po.getD w 0)).length 600 from by rw [← hwn]; rfl]; exact e74
        · exact ⟨_, _, nf2, tg2, sh2, el2, wr2, ou2, bh2, so2, e44, e46, e48, e50, e52, e54, e56, erv, by omega, by omega⟩
        · intro v hv
          by_cases hvw : v = w
          · subst hvw; rw [fup_s, fup_s, fup_s, fup_s, fup_s, fup_s, fup_s, fup_s]
            exact ⟨eH, eP, eI, by omega, by omega, by omega⟩
          · rw [fup_n _ _ hvw, fup_n _ _ hvw, fup_n _ _ hvw, fup_n _ _ hvw, fup_n _ _ hvw, fup_n _ _ hvw, fup_n _ _ hvw, fup_n _ _ hvw]
            obtain ⟨a1, a2, a3, a4, a5, a6⟩ := hHs v hv
            have n1 := hrvne v hv hvw
            have n2 := (hHn v hv).1
            exact ⟨wFr_at f (nB_1 hvw hrv hd1 hv) a1, wFr_at f (nB_2 hvw hrv hd1 hv) a2, wFr_at f (nB_3 a4 n1 n2 hv hw9) a3, a4, a5, a6⟩
        · intro v hv
          have nv := hHn v hv
          have zv := hz9 v hv
          have zw := hz9 w hw9
          refine ⟨?_, ?_⟩
          · by_cases hvw : v = w
            · rw [hvw, fup_s]; exact p11
            · rw [fup_n _ _ hvw]; omega
          · intro u hu hvu
            have zu := hz9 u hu
            by_cases hvw : v = w
            · rw [hvw, fup_s, fup_n _ _ (by omega)]
              have := (hHn w hw9).2 u hu (by omega)
              omega
            · rw [fup_n _ _ hvw]
              by_cases huw : u = w
              · rw [huw, fup_s]; have := nv.2 w hw9 hvw; omega
              · rw [fup_n _ _ huw]; exact nv.2 u hu hvu
        · intro h3 b3 no3 tm3 fi3 hpl3 to3 rL3 cap3 kn3 ks3 fa3 hp3 li3 rv3 sc3 dc3 ds3 f3 k1 k2 k3 k4 k5 k6 k7 k8 k9 k10 k11 k12 k13 k14 k15 k16 k17 k18
          refine K h3 b3 no3 tm3 fi3 hpl3 to3 rL3 cap3 kn3 ks3 fa3 hp3 li3 rv3 sc3 dc3 ds3 (wFr_gen (wFr_sub f (fun q hq => lkF_m hw9 (nB_m hq))) f3 (lkF_g hw9 p10 p9)) k1 k2 k3 k4 k5 k6 k7 k8 k9 k10 k11 k12 ?_ ?_ ?_ ?_ (by omega) ?_
          · omega
          · intro v hv
            have z := k14 v hv
            by_cases hvw : v = w
            · rw [hvw, fup_s] at z; rw [hvw]; omega
            · rw [fup_n _ _ hvw] at z; omega
          · omega
          · omega
          · intro v hv
            have z := k18 v hv
            by_cases hvw : v = w
            · rw [hvw, fup_s] at z; rw [hvw]; omega
            · rw [fup_n _ _ hvw] at z; omega
    · have hie : i = so := by omega
      subst hie
      refine c_lk0 hPl hA ⟨Nat.le_refl _, hso⟩ ?_
      intro h2 f l
      exact K h2 b no tm fi hpl to rL cap kn ks fa hp li rv sc dc ds (wFr_sub f (by simp)) (wAc_fr hAc f hra (by simp)) (wFr_at f (by simp) hPl) (wFr_at f (by simp) hF) (wFr_at f (by simp) h76) (by obtain ⟨v0, v1, nf, tg, sh, el, wr, ou, bh, so1, hS, h46, h48, h50, h52, h54, hB, hO, hrv, hscb⟩ := hSo; exact ⟨v0, v1, nf, tg, sh, el, wr, ou, bh, so1, wFr_at f (by simp) hS, wFr_at f (by simp) h46, wFr_at f (by simp) h48, wFr_at f (by simp) h50, wFr_at f (by simp) h52, wFr_at f (by simp) h54, wFr_at f (by simp) hB, wFr_at f (by simp) hO, hrv, hscb⟩) (fun v hv => by obtain ⟨a1, a2, a3, a4, a5, a6⟩ := hHs v hv; exact ⟨wFr_at f (by simp) a1, wFr_at f (by simp) a2, wFr_at f (by simp) a3, a4, a5, a6⟩) hHn hbit hgt hto hcnt hfi (Or.inl rfl) (fun v _ => Or.inl rfl) (Nat.le_refl _) (Nat.le_refl _) (Nat.le_refl _) (fun v _ => Nat.le_refl _)
