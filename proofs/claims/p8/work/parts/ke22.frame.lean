/-! What a text of the reference leaves as it was: the first halves of the names and of rest. -/
theorem rp_fr {tb : List Int32} {sz k : Nat} (m : Nat) : ∀ (j : Nat) (ft fp : Int32) (at9 pl : Nat) (so va : Int32) (qq : List Int32), wFh k qq (mrpF tb sz k m j ft fp at9 pl so va qq).2.2.2.2.2.2 := by
  induction m with
  | zero => intro j ft fp at9 pl so va qq; exact wFh_rf _ _
  | succ m ih =>
    intro j ft fp at9 pl so va qq
    rw [mrpF]
    split
    · exact wFh_rf _ _
    · simp only [zlet]
      intro q hq
      rw [ih _ _ _ _ _ _ _ _ q hq, zset_get, if_neg (by omega)]
theorem rdP_fr {tb : List Int32} {sz at9 pl k : Nat} {so va ft fp : Int32} {qq : List Int32} : wFh k qq (mRdP tb sz at9 pl so va ft fp k qq).2.2.2.2.2.2 := by
  simp only [mRdP, zlet]
  exact rp_fr _ _ _ _ _ _ _ _ _
theorem rdR_fr {tb : List Int32} {sz at9 pl : Nat} {so va ft fp : Int32} {it rt : List Int32} : wFh 6 rt (mRdR tb sz at9 pl so va ft fp it rt).2.2.2.2.2.2.2 := by
  simp only [mRdR, zlet]
  exact rdP_fr
noncomputable def orP (sn : List Int32) (M : Int32 × Int32 × Nat × Nat × Int32 × Int32 × List Int32 × List Int32 × List Int32) : Prop := wFh 8 sn M.2.2.2.2.2.2.2.1
theorem or_ite {sn : List Int32} {c : Prop} {d : Decidable c} {A B : Int32 × Int32 × Nat × Nat × Int32 × Int32 × List Int32 × List Int32 × List Int32} (h1 : orP sn A) (h2 : orP sn B) : orP sn (@ite _ c d A B) := by
  cases d with
  | isTrue h => exact h1
  | isFalse h => exact h2
theorem rdO_fr {tb : List Int32} {sz at9 pl ns : Nat} {so va ft fp : Int32} {kn sn sq : List Int32} : orP sn (mRdO tb sz at9 pl so va ft fp ns kn sn sq) := by
  unfold mRdO
  simp only [zlet]
  repeat' with_reducible refine or_ite ?_ ?_
  all_goals first | exact wFh_rf _ _ | exact wFh_set (wFh_rf _ _) (Nat.le_add_right _ _)
noncomputable def frP (rt sn : List Int32) (M : Int32 × Int32 × Nat × Nat × Int32 × Int32 × Int32 × List Int32 × List Int32 × List Int32 × List Int32 × List Int32 × List Int32 × List Int32 × List Int32 × List Int32 × List Int32 × List Int32) : Prop := wFh 6 rt M.2.2.2.2.2.2.2.2.2.2.2.1 ∧ wFh 8 sn M.2.2.2.2.2.2.2.2.2.2.2.2.1
theorem frP_mk {rt sn r s kn lo hi sv sq wy it hl hs : List Int32} {a b e f g : Int32} {c d : Nat} (h1 : wFh 6 rt r) (h2 : wFh 8 sn s) : frP rt sn (a, b, c, d, e, f, g, kn, lo, hi, sv, r, s, sq, wy, it, hl, hs) := ⟨h1, h2⟩
theorem fr_ite {rt sn : List Int32} {c : Prop} {d : Decidable c} {A B : Int32 × Int32 × Nat × Nat × Int32 × Int32 × Int32 × List Int32 × List Int32 × List Int32 × List Int32 × List Int32 × List Int32 × List Int32 × List Int32 × List Int32 × List Int32 × List Int32} (h1 : frP rt sn A) (h2 : frP rt sn B) : frP rt sn (@ite _ c d A B) := by
  cases d with
  | isTrue h => exact h1
  | isFalse h => exact h2
set_option maxRecDepth 100000 in
set_option maxHeartbeats 4000000 in
theorem lin_fr {tb : List Int32} {sz at9 pl : Nat} {so va ft fp n14 : Int32} {ns nw : Nat} {kn lo hi sv rt sn sq wy it hl hs : List Int32} : frP rt sn (mLin tb sz at9 pl so va ft fp n14 ns nw kn lo hi sv rt sn sq wy it hl hs) := by
  unfold mLin
  simp only [zlet]
  repeat' with_reducible refine fr_ite ?_ ?_
  all_goals
    refine frP_mk ?_ ?_
    all_goals first | with_reducible exact wFh_rf _ _ | exact rdO_fr | exact rdR_fr
theorem wFh_tr {n : Nat} {a b c : List Int32} (h : wFh n a b) (h2 : wFh n b c) : wFh n a c := fun q hq => (h2 q hq).trans (h q hq)
theorem rt_fr {tb : List Int32} {sz : Nat} (m : Nat) : ∀ (ft fp : Int32) (at9 pl : Nat) (so va n14 : Int32) (kn lo hi sv rt sn sq wy it hl hs : List Int32), wFh 6 rt (mrtF tb sz m ft fp at9 pl so va n14 kn lo hi sv rt sn sq wy it hl hs).2.2.2.2.2.2.2.2.2.2.2.1 ∧ wFh 8 sn (mrtF tb sz m ft fp at9 pl so va n14 kn lo hi sv rt sn sq wy it hl hs).2.2.2.2.2.2.2.2.2.2.2.2.1 := by
  induction m with
  | zero => intro ft fp at9 pl so va n14 kn lo hi sv rt sn sq wy it hl hs; exact ⟨wFh_rf _ _, wFh_rf _ _⟩
  | succ m ih =>
    intro ft fp at9 pl so va n14 kn lo hi sv rt sn sq wy it hl hs
    rw [mrtF]
    split
    · exact ⟨wFh_rf _ _, wFh_rf _ _⟩
    · split
      · exact ⟨wFh_rf _ _, wFh_rf _ _⟩
      · rw [zlet]
        have l := lin_fr (tb := tb) (sz := sz) (at9 := at9) (pl := pl) (so := so) (va := va) (ft := ft) (fp := fp) (n14 := n14) (ns := (kn.getD 12 0).toNatClampNeg) (nw := (kn.getD 13 0).toNatClampNeg) (kn := kn) (lo := lo) (hi := hi) (sv := sv) (rt := rt) (sn := sn) (sq := sq) (wy := wy) (it := it) (hl := hl) (hs := hs)
        revert l
        generalize mLin tb sz at9 pl so va ft fp n14 (kn.getD 12 0).toNatClampNeg (kn.getD 13 0).toNatClampNeg kn lo hi sv rt sn sq wy it hl hs = L
        intro l
        have r := ih L.1 L.2.1 L.2.2.1 L.2.2.2.1 L.2.2.2.2.1 L.2.2.2.2.2.1 L.2.2.2.2.2.2.1 L.2.2.2.2.2.2.2.1 L.2.2.2.2.2.2.2.2.1 L.2.2.2.2.2.2.2.2.2.1 L.2.2.2.2.2.2.2.2.2.2.1 L.2.2.2.2.2.2.2.2.2.2.2.1 L.2.2.2.2.2.2.2.2.2.2.2.2.1 L.2.2.2.2.2.2.2.2.2.2.2.2.2.1 L.2.2.2.2.2.2.2.2.2.2.2.2.2.2.1 L.2.2.2.2.2.2.2.2.2.2.2.2.2.2.2.1 L.2.2.2.2.2.2.2.2.2.2.2.2.2.2.2.2.1 L.2.2.2.2.2.2.2.2.2.2.2.2.2.2.2.2.2
        exact ⟨wFh_tr l.1 r.1, wFh_tr l.2 r.2⟩
theorem rtx_fr {tb : List Int32} {sz : Nat} {va fp : Int32} {kn lo hi sv rt sn sq wy it hl hs : List Int32} : wFh 6 rt (mRtx tb sz va fp kn lo hi sv rt sn sq wy it hl hs).2.2.2.2.2.2.2.2.2.2.2.2.1 ∧ wFh 8 sn (mRtx tb sz va fp kn lo hi sv rt sn sq wy it hl hs).2.2.2.2.2.2.2.2.2.2.2.2.2.1 := by
  have f : wFh 6 rt (mFrs kn lo hi sv rt hl hs it).2.2.2.2.1 := by
    intro q hq
    unfold mFrs
    dsimp only
    rw [zset_get, if_neg (by omega), zset_get, if_neg (by omega), zset_get, if_neg (by omega), zset_get, if_neg (by omega), zset_get, if_neg (by omega), zset_get, if_neg (by omega)]
  simp only [mRtx, zlet]
  revert f
  generalize mFrs kn lo hi sv rt hl hs it = F
  intro f
  generalize mTok tb sz 0 va = B
  have r := rt_fr (tb := tb) (sz := sz) ((2 * (sz - B.1) + (1 - (0 : Int32).toInt.toNat)) + 1) 0 fp B.1 B.2.1 B.2.2.1 B.2.2.2 0 F.1 F.2.1 F.2.2.1 F.2.2.2.1 F.2.2.2.2.1 sn sq wy F.2.2.2.2.2.2.2 F.2.2.2.2.2.1 F.2.2.2.2.2.2.1
  exact ⟨wFh_tr f r.1, r.2⟩
