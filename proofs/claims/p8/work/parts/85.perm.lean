/-! Angles by what they are of 64; what is found as a list of postures: the class's is the reference's in another order. -/
noncomputable def r6 (x : Int32) : Nat := x.toBitVec.toNat % 64
theorem r6_lt (x : Int32) : r6 x < 64 := Nat.mod_lt _ (by decide)
theorem r6_and (x : Int32) : x &&& 63 = nI (r6 x) := pk_and x 6 (by decide)
theorem r6_nI {n : Nat} (h : n < 2 ^ 31) : r6 (nI n) = n % 64 := by
  unfold r6
  rw [pk_tn (by omega)]
theorem r6_add (x y : Int32) : r6 (x + y) = (r6 x + r6 y) % 64 := by
  unfold r6
  rw [Int32.toBitVec_add, BitVec.toNat_add]
  omega
theorem r6_sub (x y : Int32) : r6 (x - y) = (r6 x + (64 - r6 y)) % 64 := by
  unfold r6
  rw [Int32.toBitVec_sub, BitVec.toNat_sub]
  have := y.toBitVec.isLt
  omega
theorem r6_a (x : Int32) : r6 (x &&& 63) = r6 x := by
  have h := r6_lt x
  rw [r6_and, r6_nI (by omega)]
  exact Nat.mod_eq_of_lt h
theorem r6_16 : r6 16 = 16 := by decide
theorem r6_32 : r6 32 = 32 := by decide
theorem r6_64 : r6 64 = 0 := by decide
theorem jcos_e (k : Int32) : jcos k = zCos.getD (r6 k) 0 := by
  have h := r6_lt k
  unfold jcos
  rw [r6_and, nI_clamp (by omega)]
theorem jsin_e (k : Int32) : jsin k = zCos.getD ((r6 k + 48) % 64) 0 := by
  have h := r6_lt (k - 16)
  unfold jsin
  rw [r6_and, nI_clamp (by omega), r6_sub, r6_16]
theorem jw_e (k : Int32) : jw k = nI ((r6 k + 32) % 64) - 32 := by
  unfold jw
  rw [r6_and, r6_add, r6_32]
theorem jcos_r {k k2 : Int32} (h : r6 k = r6 k2) : jcos k = jcos k2 := by rw [jcos_e, jcos_e, h]
theorem jsin_r {k k2 : Int32} (h : r6 k = r6 k2) : jsin k = jsin k2 := by rw [jsin_e, jsin_e, h]
theorem jw_r {k k2 : Int32} (h : r6 k = r6 k2) : jw k = jw k2 := by rw [jw_e, jw_e, h]
theorem r6_jw (k : Int32) : r6 (jw k) = r6 k := by
  have h := r6_lt k
  rw [jw_e, r6_sub, r6_nI (by omega), r6_32]
  omega
theorem jw_m32 {i : Nat} (hi : i < 64) : jw (nI i - 32) = nI i - 32 := by
  rw [jw_e, r6_sub, r6_nI (by omega), r6_32]
  congr 2
  omega
theorem jw_id {t : Int32} (h : -32 ≤ t.toInt ∧ t.toInt ≤ 31) : jw t = t := by
  obtain ⟨i, hi, e⟩ := nI_m32 h
  rw [e]
  exact jw_m32 hi
theorem jw_eq {t k : Int32} (h : -32 ≤ t.toInt ∧ t.toInt ≤ 31) : r6 t = r6 k ↔ t = jw k := by
  constructor
  · intro q
    rw [← jw_r q, jw_id h]
  · intro q
    rw [q, r6_jw]
theorem jsin_over (p : Int32) : jsin ((32 - p) &&& 63) = jsin p := by
  have h : ∀ i : Nat, i < 64 → zCos.getD (((32 + (64 - i)) % 64 + 48) % 64) 0 = zCos.getD ((i + 48) % 64) 0 := by decide +kernel
  rw [jsin_e, jsin_e, r6_a, r6_sub, r6_32]
  exact h _ (r6_lt p)
/-! blocks -/
noncomputable abbrev tP : Type := Int32 × Int32 × Int32 × Int32 × Int32 × Int32
noncomputable def tPos (x : tP) : Int64 := jpos x.1 x.2.1 x.2.2.1 x.2.2.2.1 x.2.2.2.2.1 x.2.2.2.2.2
noncomputable def tPack (x : tP) : Int64 := jpack x.1 x.2.1 x.2.2.1 x.2.2.2.1 x.2.2.2.2.1 x.2.2.2.2.2
noncomputable def tL (lk hd x p t a e : Int32) : Int32 := x - jout lk hd a (a + e) p * jcos t
noncomputable def tFive (ll lg : List Int32) (r t a e w : Int32) : Prop := jallow ll lg 0 r = true ∧ jallow ll lg 1 t = true ∧ jallow ll lg 2 a = true ∧ jallow ll lg 3 e = true ∧ jallow ll lg 4 w = true
noncomputable def tOk (ll lg : List Int32) (lk hd x y p t a e : Int32) : Bool := decide (jout lk hd a (a + e) p * jsin t = y) && (decide (tL lk hd x p t a e - tL lk hd x p t a e / 1000000 * 1000000 = 0) && (jallow ll lg 0 (tL lk hd x p t a e / 1000000) && (jallow ll lg 1 t && (jallow ll lg 2 a && (jallow ll lg 3 e && jallow ll lg 4 (jw (p - (a + e))))))))
theorem tOk_iff {ll lg : List Int32} {lk hd x y p t a e : Int32} : tOk ll lg lk hd x y p t a e = true ↔ jout lk hd a (a + e) p * jsin t = y ∧ tL lk hd x p t a e - tL lk hd x p t a e / 1000000 * 1000000 = 0 ∧ tFive ll lg (tL lk hd x p t a e / 1000000) t a e (jw (p - (a + e))) := by
  unfold tOk tFive
  simp only [Bool.and_eq_true, decide_eq_true_eq]
noncomputable def tR (ll lg : List Int32) (r t a e w ro : Int32) : List tP := if jallow ll lg 5 ro = true then [(r, t, a, e, w, ro)] else []
noncomputable def tBlk (ll lg : List Int32) (lk hd x y p t a e ro : Int32) : List tP := if tOk ll lg lk hd x y p t a e = true then tR ll lg (tL lk hd x p t a e / 1000000) t a e (jw (p - (a + e))) (ro - 64) ++ tR ll lg (tL lk hd x p t a e / 1000000) t a e (jw (p - (a + e))) ro else []
theorem sTurn1_blk (ll lg : List Int32) (lk hd : Int32) (tg : List Int32) (p t : Int32) (q : Int32 × Int32) : sTurn1 ll lg lk hd tg p t q = (tBlk ll lg lk hd (tg.getD 0 0) (tg.getD 1 0) p t q.1 q.2 (jroll0 tg t)).map tPos := by
  unfold sTurn1 tBlk
  by_cases h1 : jout lk hd q.1 (q.1 + q.2) p * jsin t = tg.getD 1 0
  · rw [if_pos h1]
    by_cases h2 : (tg.getD 0 0 - jout lk hd q.1 (q.1 + q.2) p * jcos t) - (tg.getD 0 0 - jout lk hd q.1 (q.1 + q.2) p * jcos t) / 1000000 * 1000000 = 0
    · rw [if_neg (show ¬ ((tg.getD 0 0 - jout lk hd q.1 (q.1 + q.2) p * jcos t) - (tg.getD 0 0 - jout lk hd q.1 (q.1 + q.2) p * jcos t) / 1000000 * 1000000 ≠ 0) from fun k => k h2)]
      unfold sOff
      by_cases h3 : tFive ll lg ((tg.getD 0 0 - jout lk hd q.1 (q.1 + q.2) p * jcos t) / 1000000) t q.1 q.2 (jw (p - (q.1 + q.2)))
      · rw [if_pos (show _ ∧ _ ∧ _ ∧ _ ∧ _ from h3), if_pos (tOk_iff.mpr ⟨h1, h2, h3⟩)]
        unfold tR tL
        split <;> split <;> rfl
      · rw [if_neg (show ¬ (_ ∧ _ ∧ _ ∧ _ ∧ _) from h3), if_neg (fun k => h3 (tOk_iff.mp k).2.2)]
        rfl
    · rw [if_pos h2, if_neg (fun k => h2 (tOk_iff.mp k).2.1)]
      rfl
  · rw [if_neg h1, if_neg (fun k => h1 (tOk_iff.mp k).1)]
    rfl
noncomputable def tAdd (s : mS) (x : tP) : mS := mAdd s (tPack x)
theorem mCnt_y {lo hi : List Int32} {r t a e w : Int32} (h : tFive lo hi r t a e w) (s : mS) (ro : Int32) : mCnt lo hi s r t a e w ro = (tR lo hi r t a e w ro).foldl tAdd s := by
  obtain ⟨h0, h1, h2, h3, h4⟩ := h
  unfold mCnt tR
  by_cases h5 : jallow lo hi 5 ro = true
  · rw [if_pos ⟨h0, h1, h2, h3, h4, h5⟩, if_pos h5]
    rfl
  · rw [if_neg (fun q => h5 q.2.2.2.2.2), if_neg h5]
    rfl
theorem mCnt_n {lo hi : List Int32} {r t a e w : Int32} (h : ¬ tFive lo hi r t a e w) (s : mS) (ro : Int32) : mCnt lo hi s r t a e w ro = s := by
  unfold mCnt
  rw [if_neg (fun q => h ⟨q.1, q.2.1, q.2.2.1, q.2.2.2.1, q.2.2.2.2.1⟩)]
theorem mHold_blk {lo hi : List Int32} {lk hd : Int32} {pl : List Int32} {a e p t ro ro2 : Int32} (h : (ro2 + 64) &&& 63 = ro) (s : mS) : mHold lo hi lk hd pl s a (a + e) p t ro2 = (tBlk lo hi lk hd (pl.getD 0 0) (pl.getD 1 0) p t a e ro).foldl tAdd s := by
  have e1 : mR0 ro2 = ro - 64 := by unfold mR0; rw [h]
  have e2 : mR0 ro2 + 64 = ro := by rw [e1, Int32.sub_add_cancel]
  unfold mHold tBlk
  rw [e2, e1, i32_aes]
  by_cases h1 : jout lk hd a (a + e) p * jsin t = pl.getD 1 0
  · rw [if_neg (show ¬ (jout lk hd a (a + e) p * jsin t ≠ pl.getD 1 0) from fun k => k h1)]
    by_cases h2 : mLeft lk hd pl a (a + e) p t - mLeft lk hd pl a (a + e) p t / 1000000 * 1000000 = 0
    · rw [if_pos h2]
      by_cases h3 : tFive lo hi (tL lk hd (pl.getD 0 0) p t a e / 1000000) t a e (jw (p - (a + e)))
      · rw [if_pos (tOk_iff.mpr ⟨h1, h2, h3⟩), List.foldl_append]
        rw [mCnt_y (show tFive lo hi (mLeft lk hd pl a (a + e) p t / 1000000) t a e (jw (p - (a + e))) from h3), mCnt_y (show tFive lo hi (mLeft lk hd pl a (a + e) p t / 1000000) t a e (jw (p - (a + e))) from h3)]
        rfl
      · rw [if_neg (fun k => h3 (tOk_iff.mp k).2.2)]
        rw [mCnt_n (show ¬ tFive lo hi (mLeft lk hd pl a (a + e) p t / 1000000) t a e (jw (p - (a + e))) from h3), mCnt_n (show ¬ tFive lo hi (mLeft lk hd pl a (a + e) p t / 1000000) t a e (jw (p - (a + e))) from h3)]
        rfl
    · rw [if_neg h2, if_neg (fun k => h2 (tOk_iff.mp k).2.1)]
      rfl
  · rw [if_pos h1, if_neg (fun k => h1 (tOk_iff.mp k).1)]
    rfl
/-! lists -/
theorem flat_app {α γ : Type} (f g : α → List γ) : ∀ l : List α, (l.flatMap (fun a => f a ++ g a)).Perm (l.flatMap f ++ l.flatMap g)
  | [] => List.Perm.refl _
  | a :: l => by
    rw [List.flatMap_cons, List.flatMap_cons, List.flatMap_cons]
    have h1 := flat_app f g l
    have h2 : (f a ++ g a ++ (l.flatMap (fun a => f a ++ g a))).Perm (f a ++ g a ++ (l.flatMap f ++ l.flatMap g)) := h1.append_left _
    refine h2.trans ?_
    rw [List.append_assoc, List.append_assoc]
    refine List.Perm.append_left _ ?_
    exact List.perm_append_comm_assoc _ _ _
theorem flat_swap {α β γ : Type} (f : α → β → List γ) (l2 : List β) : ∀ l1 : List α, (l1.flatMap (fun a => l2.flatMap (fun b => f a b))).Perm (l2.flatMap (fun b => l1.flatMap (fun a => f a b)))
  | [] => by
    rw [List.flatMap_nil]
    rw [show l2.flatMap (fun b => ([] : List α).flatMap (fun a => f a b)) = [] from List.flatMap_eq_nil_iff.mpr (fun _ _ => rfl)]
  | a :: l1 => by
    rw [List.flatMap_cons]
    have h1 := flat_swap f l2 l1
    refine (List.Perm.append_left _ h1).trans ?_
    exact (flat_app (fun b => f a b) (fun b => l1.flatMap (fun a => f a b)) l2).symm
/-- only two of a list give anything -/
theorem flat_two {γ : Type} (g : Int32 → List γ) {l : List Int32} (hn : l.Nodup) {a b : Int32} (ha : a ∈ l) (hb : b ∈ l) (hab : a ≠ b) (h0 : ∀ c ∈ l, c ≠ a → c ≠ b → g c = []) : (l.flatMap g).Perm (g a ++ g b) := by
  have h1 := List.perm_cons_erase ha
  have hb2 : b ∈ l.erase a := (List.mem_erase_of_ne (fun q => hab q.symm)).mpr hb
  have h2 := List.perm_cons_erase hb2
  have h3 : (l.flatMap g).Perm ((a :: b :: (l.erase a).erase b).flatMap g) := (h1.trans (h2.cons a)).flatMap_right g
  refine h3.trans ?_
  rw [List.flatMap_cons, List.flatMap_cons]
  have hn2 : (l.erase a).Nodup := hn.erase a
  have h4 : ((l.erase a).erase b).flatMap g = [] := List.flatMap_eq_nil_iff.mpr (fun c hc => by
    have k1 := (List.Nodup.mem_erase_iff hn2).mp hc
    have k2 := (List.Nodup.mem_erase_iff hn).mp k1.2
    exact h0 c k2.2 k2.1 k1.1)
  rw [h4, List.append_nil]
