/-! The class's list of postures, the reference's: one is the other in another order. -/
theorem cos2_rng (a b : Int32) : (jcos a + jcos b).toInt.natAbs ≤ 2000 := by
  have h1 := jcos_rng a
  have h2 := jcos_rng b
  rw [Int32.toInt_add, Int.bmod_eq_of_le (by omega) (by omega)]
  omega
theorem jout_int {lk hd : Int32} (hl : 1 ≤ lk.toInt ∧ lk.toInt ≤ 99) (hh : 1 ≤ hd.toInt ∧ hd.toInt ≤ 99) (a b p : Int32) : (jout lk hd a b p).toInt = lk.toInt * (jcos a + jcos b).toInt + hd.toInt * (jcos p).toInt ∧ (jout lk hd a b p).toInt.natAbs ≤ 297000 := by
  have h1 := cos2_rng a b
  have h2 := jcos_rng p
  have h3 := int_mul_bd (show lk.toInt.natAbs ≤ 99 by omega) h1
  have h4 := int_mul_bd (show hd.toInt.natAbs ≤ 99 by omega) (show (jcos p).toInt.natAbs ≤ 1000 by omega)
  unfold jout
  rw [Int32.toInt_add, i32_mulI (by omega) (by omega), i32_mulI (by omega) (by omega), Int.bmod_eq_of_le (by omega) (by omega)]
  exact ⟨rfl, by omega⟩
theorem jfit_ok {lk hd : Int32} (hl : 1 ≤ lk.toInt ∧ lk.toInt ≤ 99) (hh : 1 ≤ hd.toInt ∧ hd.toInt ≤ 99) {tg : List Int32} {a b p t : Int32} (h : jout lk hd a b p * jsin t = tg.getD 1 0) : jfit tg t = 1 := by
  unfold jfit
  by_cases hs : jsin t ≠ 0
  · rw [if_pos hs]
    have h1 := (jout_int hl hh a b p).2
    have h2 := jsin_rng t
    have h3 := int_mul_bd h1 (show (jsin t).toInt.natAbs ≤ 1000 by omega)
    have h4 : tg.getD 1 0 - tg.getD 1 0 / jsin t * jsin t = 0 := by
      rw [← h, i32_mul_div hs (by omega) (by omega), Int32.sub_self]
    rw [if_neg (fun q => q h4)]
  · rw [if_neg hs]
    have h5 : jsin t = 0 := Decidable.not_not.mp hs
    have h6 : tg.getD 1 0 = 0 := by rw [← h, h5, Int32.mul_zero]
    rw [if_neg (fun q => q h6)]
noncomputable def tTurn (ll lg : List Int32) (lk hd ht : Int32) (tg : List Int32) (t : Int32) : List tP := if jpit tg t = -1 then [] else (sFold lk hd ht (tg.getD 2 0) (jpit tg t)).flatMap (fun q => tBlk ll lg lk hd (tg.getD 0 0) (tg.getD 1 0) (jpit tg t) t q.1 q.2 (jroll0 tg t))
theorem sTurn_t {lk hd : Int32} (hl : 1 ≤ lk.toInt ∧ lk.toInt ≤ 99) (hh : 1 ≤ hd.toInt ∧ hd.toInt ≤ 99) (ll lg : List Int32) (ht : Int32) (tg : List Int32) (t : Int32) : sTurn ll lg lk hd ht tg t = (tTurn ll lg lk hd ht tg t).map tPos := by
  unfold sTurn tTurn
  by_cases h1 : jpit tg t = -1
  · rw [if_pos h1, if_pos h1]
    rfl
  · rw [if_neg h1, if_neg h1]
    by_cases h2 : jfit tg t ≠ 0
    · rw [if_pos h2, List.map_flatMap]
      congr 1
      funext q
      exact sTurn1_blk ll lg lk hd tg (jpit tg t) t q
    · rw [if_neg h2]
      rw [List.flatMap_eq_nil_iff.mpr (fun q _ => by
        unfold tBlk
        rw [if_neg (fun k => h2 (by rw [jfit_ok hl hh (tOk_iff.mp k).1]; decide))])]
      rfl
noncomputable def tT : Nat → Int32 → List Int32
  | 0, _ => []
  | n + 1, t => t :: tT n (t + 1)
theorem sSolL_t {lk hd : Int32} (hl : 1 ≤ lk.toInt ∧ lk.toInt ≤ 99) (hh : 1 ≤ hd.toInt ∧ hd.toInt ≤ 99) (ll lg : List Int32) (ht : Int32) (tg : List Int32) : ∀ (n : Nat) (t : Int32), sSolL ll lg lk hd ht tg n t = ((tT n t).flatMap (tTurn ll lg lk hd ht tg)).map tPos
  | 0, _ => rfl
  | n + 1, t => by
    show sTurn ll lg lk hd ht tg t ++ sSolL ll lg lk hd ht tg n (t + 1) = ((t :: tT n (t + 1)).flatMap (tTurn ll lg lk hd ht tg)).map tPos
    rw [sTurn_t hl hh, sSolL_t hl hh ll lg ht tg n (t + 1), List.flatMap_cons, List.map_append]
/-! the reference's -/
theorem roll_up {pl : List Int32} (t : Int32) : (mTu pl t + 64) &&& 63 = jroll0 pl t := by
  unfold mTu jroll0
  have e4 := r6_64
  by_cases h : pl.getD 4 0 ≠ 16
  · rw [if_pos h, if_pos h, r6_and, r6_and]
    congr 1
    simp only [r6_add, r6_sub, e4]
    have h1 := r6_lt (pl.getD 3 0)
    have h2 := r6_lt (pl.getD 5 0)
    have h3 := r6_lt t
    omega
  · rw [if_neg h, if_neg h, r6_and, r6_and]
    congr 1
    simp only [r6_add, r6_sub, e4]
    have h1 := r6_lt (pl.getD 3 0)
    have h2 := r6_lt (pl.getD 5 0)
    have h3 := r6_lt t
    omega
theorem roll_1 {pl : List Int32} (h : pl.getD 4 0 ≠ 16) : (pl.getD 5 0 + 64) &&& 63 = jroll0 pl (jw (pl.getD 3 0)) := by
  unfold jroll0
  rw [if_pos h, r6_and, r6_and]
  congr 1
  simp only [r6_add, r6_sub, r6_jw, r6_64]
  have h1 := r6_lt (pl.getD 3 0)
  have h2 := r6_lt (pl.getD 5 0)
  omega
theorem roll_2 {pl : List Int32} (h : pl.getD 4 0 ≠ 16) : (pl.getD 5 0 + 32 + 64) &&& 63 = jroll0 pl (jw (pl.getD 3 0 + 32)) := by
  unfold jroll0
  rw [if_pos h, r6_and, r6_and]
  congr 1
  simp only [r6_add, r6_sub, r6_jw, r6_64, r6_32]
  have h1 := r6_lt (pl.getD 3 0)
  have h2 := r6_lt (pl.getD 5 0)
  omega
theorem tBlk_r {ll lg : List Int32} {lk hd x y p p2 t a e ro : Int32} (h : r6 p = r6 p2) : tBlk ll lg lk hd x y p t a e ro = tBlk ll lg lk hd x y p2 t a e ro := by
  have h1 : jw (p - (a + e)) = jw (p2 - (a + e)) := jw_r (by rw [r6_sub, r6_sub, h])
  have h2 : jout lk hd a (a + e) p = jout lk hd a (a + e) p2 := by unfold jout; rw [jcos_r h]
  unfold tBlk tOk tL
  rw [h1, h2]
theorem mUpL_blk (lo hi : List Int32) (lk hd : Int32) (pl : List Int32) (a e : Int32) : ∀ (n : Nat) (t : Int32) (s : mS), mUpL lo hi lk hd pl a (a + e) n t s = ((tT n t).flatMap (fun t => tBlk lo hi lk hd (pl.getD 0 0) (pl.getD 1 0) (pl.getD 4 0) t a e (jroll0 pl t))).foldl tAdd s
  | 0, _, _ => rfl
  | n + 1, t, s => by
    show mUpL lo hi lk hd pl a (a + e) n (t + 1) (mHold lo hi lk hd pl s a (a + e) (pl.getD 4 0) t (mTu pl t)) = ((t :: tT n (t + 1)).flatMap _).foldl tAdd s
    rw [mUpL_blk lo hi lk hd pl a e n (t + 1), mHold_blk (roll_up t), List.flatMap_cons, List.foldl_append]
noncomputable def tPair (lo hi : List Int32) (lk hd : Int32) (pl : List Int32) (q : Int32 × Int32) : List tP := if pl.getD 4 0 = 16 ∨ pl.getD 4 0 = 48 then (tT 64 (-32)).flatMap (fun t => tBlk lo hi lk hd (pl.getD 0 0) (pl.getD 1 0) (pl.getD 4 0) t q.1 q.2 (jroll0 pl t)) else tBlk lo hi lk hd (pl.getD 0 0) (pl.getD 1 0) (pl.getD 4 0) (jw (pl.getD 3 0)) q.1 q.2 (jroll0 pl (jw (pl.getD 3 0))) ++ tBlk lo hi lk hd (pl.getD 0 0) (pl.getD 1 0) ((32 - pl.getD 4 0) &&& 63) (jw (pl.getD 3 0 + 32)) q.1 q.2 (jroll0 pl (jw (pl.getD 3 0 + 32)))
theorem mPair_blk (lo hi : List Int32) (lk hd : Int32) (pl : List Int32) (s : mS) (q : Int32 × Int32) : mPair lo hi lk hd pl s (fM q) = (tPair lo hi lk hd pl q).foldl tAdd s := by
  unfold mPair tPair
  by_cases h : pl.getD 4 0 = 16 ∨ pl.getD 4 0 = 48
  · rw [if_pos h, if_pos h]
    exact mUpL_blk lo hi lk hd pl q.1 q.2 64 (-32) s
  · have h16 : pl.getD 4 0 ≠ 16 := fun k => h (Or.inl k)
    rw [if_neg h, if_neg h, List.foldl_append]
    show mHold lo hi lk hd pl (mHold lo hi lk hd pl s q.1 (q.1 + q.2) (pl.getD 4 0) (jw (pl.getD 3 0)) (pl.getD 5 0)) q.1 (q.1 + q.2) (32 - pl.getD 4 0) (jw (pl.getD 3 0 + 32)) (pl.getD 5 0 + 32) = _
    rw [mHold_blk (roll_1 h16), mHold_blk (roll_2 h16), tBlk_r (p := (32 - pl.getD 4 0) &&& 63) (p2 := 32 - pl.getD 4 0) (r6_a _)]
theorem fold_flat (lo hi : List Int32) (lk hd : Int32) (pl : List Int32) : ∀ (l : List (Int32 × Int32)) (s : mS), (l.map fM).foldl (mPair lo hi lk hd pl) s = (l.flatMap (tPair lo hi lk hd pl)).foldl tAdd s
  | [], _ => rfl
  | q :: l, s => by
    rw [List.map_cons, List.foldl_cons, fold_flat lo hi lk hd pl l, mPair_blk, List.flatMap_cons, List.foldl_append]
/-- the reference's list, before it is put in order -/
noncomputable def tRef (lo hi : List Int32) (lk hd ht : Int32) (pl : List Int32) : List tP := (sFold lk hd ht (pl.getD 2 0) (pl.getD 4 0)).flatMap (tPair lo hi lk hd pl)
noncomputable def tCls (ll lg : List Int32) (lk hd ht : Int32) (tg : List Int32) : List tP := (tT 64 (-32)).flatMap (tTurn ll lg lk hd ht tg)
theorem mSol_t {kn : List Int32} (hl : 1 ≤ (kn.getD 0 0).toInt ∧ (kn.getD 0 0).toInt ≤ 99) (lo hi pl : List Int32) : mSol lo hi kn pl = (tRef lo hi (kn.getD 0 0) (kn.getD 1 0) (kn.getD 2 0) pl).foldl tAdd (some []) := by
  unfold mSol tRef
  rw [sRise_h, mPairs hl, fold_flat]
theorem tT_mem : ∀ (n : Nat) (t c : Int32), t.toInt + n = 32 → n ≤ 64 → c ∈ tT n t → t.toInt ≤ c.toInt ∧ c.toInt ≤ 31
  | 0, _, _, _, _, h => by cases h
  | n + 1, t, c, h1, h2, h => by
    have ht : (t + 1).toInt = t.toInt + 1 := z_inc (by omega)
    rcases List.mem_cons.mp h with k | k
    · rw [k]; omega
    · have := tT_mem n (t + 1) c (by omega) (by omega) k
      omega
theorem tT_nd : ∀ (n : Nat) (t : Int32), t.toInt + n = 32 → n ≤ 64 → (tT n t).Nodup
  | 0, _, _, _ => List.nodup_nil
  | n + 1, t, h1, h2 => by
    have ht : (t + 1).toInt = t.toInt + 1 := z_inc (by omega)
    refine List.nodup_cons.mpr ⟨fun k => ?_, tT_nd n (t + 1) (by omega) (by omega)⟩
    have := tT_mem n (t + 1) t (by omega) (by omega) k
    omega
theorem tT_in : ∀ (n : Nat) (t c : Int32), t.toInt + n = 32 → n ≤ 64 → t.toInt ≤ c.toInt → c.toInt ≤ 31 → c ∈ tT n t
  | 0, _, _, _, _, _, _ => by omega
  | n + 1, t, c, h1, h2, h3, h4 => by
    have ht : (t + 1).toInt = t.toInt + 1 := z_inc (by omega)
    by_cases hc : c = t
    · rw [hc]; exact List.mem_cons_self
    · have : c.toInt ≠ t.toInt := fun k => hc (Int32.toInt_inj.mp k)
      exact List.mem_cons_of_mem _ (tT_in n (t + 1) c (by omega) (by omega) (by omega) h4)
theorem jw_rng (k : Int32) : -32 ≤ (jw k).toInt ∧ (jw k).toInt ≤ 31 := by
  have h := r6_lt k
  rw [jw_e, Int32.toInt_sub, nI_toInt (by omega), show (32 : Int32).toInt = 32 from rfl, Int.bmod_eq_of_le (by omega) (by omega)]
  omega
theorem nI_ne {a : Nat} (h : a < 2 ^ 31) {b : Nat} (hb : b < 2 ^ 31) (hab : a ≠ b) : nI a ≠ nI b := fun q => hab ((nI_eq h hb).mp q)
theorem nI_m1 {a : Nat} (h : a < 2 ^ 31) : nI a ≠ -1 := fun q => by
  have h1 := congrArg Int32.toInt q
  rw [nI_toInt h, show ((-1 : Int32)).toInt = -1 from rfl] at h1
  omega
theorem off_1 {t h3 : Int32} (ht : -32 ≤ t.toInt ∧ t.toInt ≤ 31) : (t - h3) &&& 63 = 0 ↔ t = jw h3 := by
  have h1 := r6_lt t
  have h2 := r6_lt h3
  rw [← jw_eq ht, r6_and, show (0 : Int32) = nI 0 from rfl, nI_eq (by have := r6_lt (t - h3); omega) (by decide), r6_sub]
  omega
theorem off_2 {t h3 : Int32} (ht : -32 ≤ t.toInt ∧ t.toInt ≤ 31) : (t - h3) &&& 63 = 32 ↔ t = jw (h3 + 32) := by
  have h1 := r6_lt t
  have h2 := r6_lt h3
  rw [← jw_eq ht, r6_and, show (32 : Int32) = nI 32 from rfl, nI_eq (by have := r6_lt (t - h3); omega) (by decide), r6_sub, show nI 32 = (32 : Int32) from rfl, r6_add, r6_32]
  omega
theorem sFold_r {lk hd ht z p p2 : Int32} (h : jsin p = jsin p2) : sFold lk hd ht z p = sFold lk hd ht z p2 := by
  unfold sFold sRise
  rw [h]
theorem tCls_perm {ll lg : List Int32} {lk hd ht : Int32} {tg : List Int32} (h4 : 0 ≤ (tg.getD 4 0).toInt) : (tCls ll lg lk hd ht tg).Perm (tRef ll lg lk hd ht tg) := by
  have hm1 : tg.getD 4 0 ≠ -1 := fun q => by rw [q] at h4; exact absurd h4 (by decide)
  unfold tCls tRef
  by_cases hu : tg.getD 4 0 = 16 ∨ tg.getD 4 0 = 48
  · have hp : ∀ t, jpit tg t = tg.getD 4 0 := fun t => by
      unfold jpit
      by_cases h1 : tg.getD 4 0 = 16
      · rw [if_pos h1]
      · rw [if_neg h1, if_neg (fun q => q (hu.resolve_left h1))]
    have e1 : tTurn ll lg lk hd ht tg = fun t => (sFold lk hd ht (tg.getD 2 0) (tg.getD 4 0)).flatMap (fun q => tBlk ll lg lk hd (tg.getD 0 0) (tg.getD 1 0) (tg.getD 4 0) t q.1 q.2 (jroll0 tg t)) := by
      funext t
      unfold tTurn
      rw [hp t, if_neg hm1]
    have e2 : tPair ll lg lk hd tg = fun q => (tT 64 (-32)).flatMap (fun t => tBlk ll lg lk hd (tg.getD 0 0) (tg.getD 1 0) (tg.getD 4 0) t q.1 q.2 (jroll0 tg t)) := by
      funext q
      unfold tPair
      rw [if_pos hu]
    rw [e1, e2]
    exact flat_swap (fun (t : Int32) (q : Int32 × Int32) => tBlk ll lg lk hd (tg.getD 0 0) (tg.getD 1 0) (tg.getD 4 0) t q.1 q.2 (jroll0 tg t)) _ _
  · have h16 : tg.getD 4 0 ≠ 16 := fun k => hu (Or.inl k)
    have h48 : tg.getD 4 0 ≠ 48 := fun k => hu (Or.inr k)
    have r1 := jw_rng (tg.getD 3 0)
    have r2 := jw_rng (tg.getD 3 0 + 32)
    have hne : jw (tg.getD 3 0) ≠ jw (tg.getD 3 0 + 32) := fun q => by
      have k1 := congrArg r6 q
      have k2 := r6_lt (tg.getD 3 0)
      rw [r6_jw, r6_jw, r6_add, r6_32] at k1
      omega
    have p1 : jpit tg (jw (tg.getD 3 0)) = tg.getD 4 0 := by
      unfold jpit
      rw [if_neg h16, if_pos h48, if_neg (fun q => q ((off_1 r1).mpr rfl))]
    have p2 : jpit tg (jw (tg.getD 3 0 + 32)) = (32 - tg.getD 4 0) &&& 63 := by
      unfold jpit
      rw [if_neg h16, if_pos h48, if_pos (fun q => hne ((off_1 r2).mp q).symm), if_neg (fun q => q ((off_2 r2).mpr rfl))]
    have p3 : ∀ t, (-32 ≤ t.toInt ∧ t.toInt ≤ 31) → t ≠ jw (tg.getD 3 0) → t ≠ jw (tg.getD 3 0 + 32) → jpit tg t = -1 := fun t ht k1 k2 => by
      unfold jpit
      rw [if_neg h16, if_pos h48, if_pos (fun q => k1 ((off_1 ht).mp q)), if_pos (fun q => k2 ((off_2 ht).mp q))]
    have hm2 : (32 - tg.getD 4 0) &&& 63 ≠ -1 := by
      have := r6_lt (32 - tg.getD 4 0)
      rw [r6_and]
      exact nI_m1 (by omega)
    have hs : sFold lk hd ht (tg.getD 2 0) ((32 - tg.getD 4 0) &&& 63) = sFold lk hd ht (tg.getD 2 0) (tg.getD 4 0) := sFold_r (jsin_over _)
    refine (flat_two (tTurn ll lg lk hd ht tg) (tT_nd 64 (-32) (by decide) (by decide)) (tT_in 64 (-32) _ (by decide) (by decide) r1.1 r1.2) (tT_in 64 (-32) _ (by decide) (by decide) r2.1 r2.2) hne ?_).trans ?_
    · intro c hc k1 k2
      have hr := tT_mem 64 (-32) c (by decide) (by decide) hc
      unfold tTurn
      rw [if_pos (p3 c hr k1 k2)]
    · have e2 : tPair ll lg lk hd tg = fun q => tBlk ll lg lk hd (tg.getD 0 0) (tg.getD 1 0) (tg.getD 4 0) (jw (tg.getD 3 0)) q.1 q.2 (jroll0 tg (jw (tg.getD 3 0))) ++ tBlk ll lg lk hd (tg.getD 0 0) (tg.getD 1 0) ((32 - tg.getD 4 0) &&& 63) (jw (tg.getD 3 0 + 32)) q.1 q.2 (jroll0 tg (jw (tg.getD 3 0 + 32))) := by
        funext q
        unfold tPair
        rw [if_neg hu]
      rw [e2]
      unfold tTurn
      rw [p1, p2, if_neg hm1, if_neg hm2, hs]
      exact (flat_app _ _ _).symm
theorem mIns_perm (x : Int64) (l : List Int64) : (mIns x l).Perm (x :: l) := by
  unfold mIns
  refine List.perm_middle.trans ?_
  rw [List.take_append_drop]
theorem tAdd_none : ∀ L : List tP, L.foldl tAdd none = none
  | [] => rfl
  | x :: L => by
    rw [List.foldl_cons]
    exact tAdd_none L
theorem tAdd_fold : ∀ (L : List tP) (l : List Int64), l.length ≤ 600 → (600 < l.length + L.length ∧ L.foldl tAdd (some l) = none) ∨ ∃ l2, L.foldl tAdd (some l) = some l2 ∧ l2.length ≤ 600 ∧ l2.Perm (L.map tPack ++ l)
  | [], l, h => Or.inr ⟨l, rfl, h, List.Perm.refl _⟩
  | x :: L, l, h => by
    rw [List.foldl_cons]
    by_cases h6 : l.length = 600
    · left
      have e : tAdd (some l) x = none := if_pos h6
      rw [e, tAdd_none, List.length_cons]
      exact ⟨by omega, rfl⟩
    · have e : tAdd (some l) x = some (mIns (tPack x) l) := if_neg h6
      have hl := mIns_len (tPack x) l
      rw [e]
      rcases tAdd_fold L (mIns (tPack x) l) (by omega) with k | ⟨l2, k1, k2, k3⟩
      · left
        rw [List.length_cons]
        exact ⟨by omega, k.2⟩
      · right
        refine ⟨l2, k1, k2, k3.trans ?_⟩
        rw [List.map_cons]
        refine (List.Perm.append_left _ (mIns_perm (tPack x) l)).trans ?_
        exact List.perm_middle
/-- limits alike for the six joints -/
noncomputable def wLim (lo hi ll lg : List Int32) : Prop := ∀ j : Nat, j < 6 → lo.getD j 0 = ll.getD j 0 ∧ hi.getD j 0 = lg.getD j 0
theorem jallow_c {lo hi ll lg : List Int32} (h : wLim lo hi ll lg) {j : Nat} (hj : j < 6) (v : Int32) : jallow lo hi (nI j) v = jallow ll lg (nI j) v := by
  unfold jallow
  rw [nI_clamp (by omega), (h j hj).1, (h j hj).2]
theorem tBlk_c {lo hi ll lg : List Int32} (h : wLim lo hi ll lg) (lk hd x y p t a e ro : Int32) : tBlk lo hi lk hd x y p t a e ro = tBlk ll lg lk hd x y p t a e ro := by
  have c0 : ∀ v, jallow lo hi 0 v = jallow ll lg 0 v := fun v => jallow_c h (j := 0) (by decide) v
  have c1 : ∀ v, jallow lo hi 1 v = jallow ll lg 1 v := fun v => jallow_c h (j := 1) (by decide) v
  have c2 : ∀ v, jallow lo hi 2 v = jallow ll lg 2 v := fun v => jallow_c h (j := 2) (by decide) v
  have c3 : ∀ v, jallow lo hi 3 v = jallow ll lg 3 v := fun v => jallow_c h (j := 3) (by decide) v
  have c4 : ∀ v, jallow lo hi 4 v = jallow ll lg 4 v := fun v => jallow_c h (j := 4) (by decide) v
  have c5 : ∀ v, jallow lo hi 5 v = jallow ll lg 5 v := fun v => jallow_c h (j := 5) (by decide) v
  unfold tBlk tOk tR
  simp only [c0, c1, c2, c3, c4, c5]
theorem tRef_c {lo hi ll lg : List Int32} (h : wLim lo hi ll lg) (lk hd ht : Int32) (pl : List Int32) : tRef lo hi lk hd ht pl = tRef ll lg lk hd ht pl := by
  unfold tRef tPair
  simp only [tBlk_c h]
/-- both solvers: too many in both, or as many in both, the same postures -/
theorem sols_eq {lo hi ll lg kn tg : List Int32} (hw : wLim lo hi ll lg) (hl : 1 ≤ (kn.getD 0 0).toInt ∧ (kn.getD 0 0).toInt ≤ 99) (hh : 1 ≤ (kn.getD 1 0).toInt ∧ (kn.getD 1 0).toInt ≤ 99) (h4 : 0 ≤ (tg.getD 4 0).toInt) :
    (600 < (sSolL ll lg (kn.getD 0 0) (kn.getD 1 0) (kn.getD 2 0) tg 64 (-32)).length ∧ mSol lo hi kn tg = none) ∨ ∃ l2, mSol lo hi kn tg = some l2 ∧ (sSolL ll lg (kn.getD 0 0) (kn.getD 1 0) (kn.getD 2 0) tg 64 (-32)).length = l2.length ∧ l2.length ≤ 600 ∧ l2.Perm ((tCls ll lg (kn.getD 0 0) (kn.getD 1 0) (kn.getD 2 0) tg).map tPack) := by
  have h1 := sSolL_t hl hh ll lg (kn.getD 2 0) tg 64 (-32)
  have h2 := tCls_perm (ll := ll) (lg := lg) (lk := kn.getD 0 0) (hd := kn.getD 1 0) (ht := kn.getD 2 0) h4
  have h3 : (sSolL ll lg (kn.getD 0 0) (kn.getD 1 0) (kn.getD 2 0) tg 64 (-32)).length = (tRef ll lg (kn.getD 0 0) (kn.getD 1 0) (kn.getD 2 0) tg).length := by
    rw [h1, List.length_map]
    exact h2.length_eq
  rw [mSol_t hl, tRef_c hw]
  rcases tAdd_fold (tRef ll lg (kn.getD 0 0) (kn.getD 1 0) (kn.getD 2 0) tg) [] (by decide) with k | ⟨l2, k1, k2, k3⟩
  · left
    rw [h3]
    exact ⟨by have := k.1; rw [List.length_nil, Nat.zero_add] at this; exact this, k.2⟩
  · right
    rw [List.append_nil] at k3
    refine ⟨l2, k1, ?_, k2, k3.trans (h2.map tPack).symm⟩
    rw [h3, k3.length_eq, List.length_map]
