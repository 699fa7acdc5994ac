/-! The reference: text at the state. -/
theorem jal_c {lo hi lo2 hi2 : List Int32} (a : wFh 6 lo lo2) (b : wFh 6 hi hi2) (j v : Int32) (hj : j.toNatClampNeg < 6) : jallow lo2 hi2 j v = jallow lo hi j v := by
  unfold jallow
  rw [a _ hj, b _ hj]
theorem mCnt_c {lo hi lo2 hi2 : List Int32} (a : wFh 6 lo lo2) (b : wFh 6 hi hi2) (s : mS) (x0 x1 x2 x3 x4 x5 : Int32) : mCnt lo2 hi2 s x0 x1 x2 x3 x4 x5 = mCnt lo hi s x0 x1 x2 x3 x4 x5 := by
  unfold mCnt
  rw [jal_c a b 0 _ (by decide), jal_c a b 1 _ (by decide), jal_c a b 2 _ (by decide), jal_c a b 3 _ (by decide), jal_c a b 4 _ (by decide), jal_c a b 5 _ (by decide)]
theorem mHold_c {lo hi lo2 hi2 : List Int32} (a : wFh 6 lo lo2) (b : wFh 6 hi hi2) (k0 k1 : Int32) (pl : List Int32) (s : mS) (x0 x1 p t ro : Int32) : mHold lo2 hi2 k0 k1 pl s x0 x1 p t ro = mHold lo hi k0 k1 pl s x0 x1 p t ro := by
  unfold mHold
  simp only [mCnt_c a b]
theorem mUpL_c {lo hi lo2 hi2 : List Int32} (a : wFh 6 lo lo2) (b : wFh 6 hi hi2) (k0 k1 : Int32) (pl : List Int32) (x0 x1 : Int32) : ∀ (n : Nat) (t : Int32) (s : mS), mUpL lo2 hi2 k0 k1 pl x0 x1 n t s = mUpL lo hi k0 k1 pl x0 x1 n t s
  | 0, _, _ => rfl
  | n + 1, t, s => by
    unfold mUpL
    rw [mHold_c a b, mUpL_c a b k0 k1 pl x0 x1 n]
theorem mPair_c {lo hi lo2 hi2 : List Int32} (a : wFh 6 lo lo2) (b : wFh 6 hi hi2) (k0 k1 : Int32) (pl : List Int32) : mPair lo2 hi2 k0 k1 pl = mPair lo hi k0 k1 pl := by
  funext s q
  unfold mPair
  simp only [mHold_c a b, mUpL_c a b]
theorem mSol_c {lo hi kn lo2 hi2 kn2 : List Int32} (a : wFh 6 lo lo2) (b : wFh 6 hi hi2) (c : wFh 7 kn kn2) (pl : List Int32) : mSol lo2 hi2 kn2 pl = mSol lo hi kn pl := by
  unfold mSol
  rw [mPair_c a b, c 0 (by decide), c 1 (by decide), c 2 (by decide)]
theorem mSA_c {n32 n33 : Int32} {lo hi kn am sv sq wy lo2 hi2 kn2 sv2 sq2 wy2 : List Int32} {fo : List Int64} (h : mSA n32 n33 lo hi kn am fo) (z : wFz kn lo hi sv sq wy kn2 lo2 hi2 sv2 sq2 wy2) : mSA n32 n33 lo2 hi2 kn2 am fo := by
  unfold mSA
  rw [mSol_c z.2.1 z.2.2.1 z.1]
  exact h
theorem mFa_z {wn : Nat} {lo hi kn sv sq wy lo2 hi2 kn2 sv2 sq2 wy2 : List Int32} (h : mFa wn kn lo hi sv sq wy) (z : wFz kn lo hi sv sq wy kn2 lo2 hi2 sv2 sq2 wy2) : mFa wn kn2 lo2 hi2 sv2 sq2 wy2 := by
  obtain ⟨z1, z2, z3, z4, z5, z6⟩ := z
  obtain ⟨a, b, ⟨ns, c1, c2, c3, c4⟩, d, e, f⟩ := h
  refine ⟨by rw [z1 6 (by decide)]; exact a, b, ⟨ns, by rw [z1 5 (by decide)]; exact c1, c2, fun i hi9 => ?_, fun k hk i hi9 => ?_⟩, ?_, fun j hj => ?_, fun i hi9 => ?_⟩
  · rw [z6 i (by omega)]; exact c3 i hi9
  · rw [z5 _ (by omega)]; exact c4 k hk i hi9
  · rw [z1 0 (by decide), z1 1 (by decide), z1 2 (by decide), z1 3 (by decide), z1 4 (by decide)]; exact d
  · rw [z2 j hj, z3 j hj]; exact e j hj
  · rw [z4 i hi9]; exact f i hi9
theorem mFa_tk {kn lo hi sv rt sn sq wy sm : List Int32} (h : wMT kn lo hi sv rt sq wy) : ∃ wn, mFa wn (mTkT kn lo hi sv rt sn sq wy sm).1 (mTkT kn lo hi sv rt sn sq wy sm).2.1 (mTkT kn lo hi sv rt sn sq wy sm).2.2.1 (mTkT kn lo hi sv rt sn sq wy sm).2.2.2.1 (mTkT kn lo hi sv rt sn sq wy sm).2.2.2.2.2.2.1 (mTkT kn lo hi sv rt sn sq wy sm).2.2.2.2.2.2.2.1 := by
  rw [mTkT_kn, mTkT_lo, mTkT_hi, mTkT_sv, mTkT_sq, mTkT_wy]
  have k7 : ∀ q, q < 7 → (mCp 7 7 kn).getD q 0 = kn.getD (7 + q) 0 := fun q hq => by rw [mCp_at _ _ _ (Nat.le_refl _), if_pos hq]
  have k6 : ∀ (l : List Int32) q, q < 6 → (mCp 6 6 l).getD q 0 = l.getD (6 + q) 0 := fun l q hq => by rw [mCp_at _ _ _ (Nat.le_refl _), if_pos hq]
  have k10 : ∀ q, q < 10 → (mCp 10 10 wy).getD q 0 = wy.getD (10 + q) 0 := fun q hq => by rw [mCp_at _ _ _ (Nat.le_refl _), if_pos hq]
  have k48 : ∀ q, q < 48 → (mcpF (48 - 0 + 1) 0 sq).getD q 0 = sq.getD (48 + q) 0 := fun q hq => by rw [mcp_at _ _ _ (by decide) (by decide) q hq, if_pos (Nat.zero_le _)]
  obtain ⟨ns, nw, ⟨n12, n13, b1, b2, d⟩, c2, c3, c4, c5, c6⟩ := h
  revert k48
  generalize mcpF (48 - 0 + 1) 0 sq = sq2
  intro k48
  refine ⟨nw, by rw [k7 6 (by decide)]; exact n13, b2, ⟨ns, by rw [k7 5 (by decide)]; exact n12, b1, fun i hi9 => ?_, fun k hk i hi9 => ?_⟩, ?_, fun j hj => ?_, fun i hi9 => ?_⟩
  · rw [k10 i (by omega)]; exact c6 i hi9
  · rw [k48 _ (by omega), show 48 + (6 * k + i) = 6 * (8 + k) + i by omega]; exact c5 k hk i hi9
  · rw [k7 0 (by decide), k7 1 (by decide), k7 2 (by decide), k7 3 (by decide), k7 4 (by decide)]; exact d
  · rw [k6 lo j hj, k6 hi j hj]; exact c2 j hj
  · rw [k6 sv i hi9]; exact c3 i hi9
theorem mRt_tk {kn lo hi sv rt sn sq wy sm : List Int32} (h : wMT kn lo hi sv rt sq wy) : mNw (mTkT kn lo hi sv rt sn sq wy sm).2.2.2.2.1 0 := by
  rw [mTkT_rt]
  obtain ⟨ns, nw, a, b, c, d, _⟩ := h
  intro j hj
  rw [Nat.zero_add, mCp_at _ _ _ (Nat.le_refl _), if_pos hj]
  have e := d j hj
  have z : ∀ j, j < 6 → -64 ≤ (zLow.getD j 0).toInt ∧ (zHigh.getD j 0).toInt ≤ 99 := by decide
  have z2 := z j hj
  omega
theorem mSm_tk (kn lo hi sv rt sn sq wy sm : List Int32) (w : Nat) (hw : w < 8) : (mTkT kn lo hi sv rt sn sq wy sm).2.2.2.2.2.2.2.2.getD w 0 = -1 := by
  rw [mTkT_sm]
  simp only [zset_get]
  have hc : w = 0 ∨ w = 1 ∨ w = 2 ∨ w = 3 ∨ w = 4 ∨ w = 5 ∨ w = 6 ∨ w = 7 := by omega
  rcases hc with e | e | e | e | e | e | e | e <;> (subst e; rfl)
theorem mBeg_nw {kn rt nw am th hr : List Int32} (h : mNw rt 0) : mNw (mBeg kn rt nw am th hr).2.2.2.1 0 := by
  show mNw (zset 0 (zset 0 (zset 0 (zset 0 (zset 0 (zset 0 nw 0 (rt.getD 0 0)) 1 (rt.getD 1 0)) 2 (rt.getD 2 0)) 3 (rt.getD 3 0)) 4 (rt.getD 4 0)) 5 (rt.getD 5 0)) 0
  intro j hj
  have e := h j hj
  rw [Nat.zero_add] at e ⊢
  have e2 : (zset 0 (zset 0 (zset 0 (zset 0 (zset 0 (zset 0 nw 0 (rt.getD 0 0)) 1 (rt.getD 1 0)) 2 (rt.getD 2 0)) 3 (rt.getD 3 0)) 4 (rt.getD 4 0)) 5 (rt.getD 5 0)).getD j 0 = rt.getD j 0 := by
    simp only [zset_get]
    have hc : j = 0 ∨ j = 1 ∨ j = 2 ∨ j = 3 ∨ j = 4 ∨ j = 5 := by omega
    rcases hc with q | q | q | q | q | q <;> (subst q; rfl)
  rw [e2]
  exact e
set_option maxHeartbeats 4000000 in
theorem rCall_1 {h : zH} {n : Int32} {R R2 : vRl} {a : Int32} (k : MI h R) (g : ∀ (t n22 n23 n28 tb kn lo hi sv rt sn sq wy nw am kp u : _), R t n22 n23 n28 tb kn lo hi sv rt sn sq wy nw am kp u → rTx R2 n a t n22 n23 n28 tb kn lo hi sv rt sn sq wy nw am kp u) : wq 185 0 [(0, .ref 162), (1, .int n)] [] h 0 0 (rOkA a h R2) := by
  refine MI_el k ?_
  intro n0 n14 n15 n16 n18 n19 n20 n21 n22 n23 n28 n32 n33 n34 n35 n39 n52 t pl u wn tb kn lo hi sv rt sn sq wy it hl hs nw am kp th fo sm pa pb on h1 tg ri hr pq ch co t1 sg tk tl pz dq ht c162 c164 c166 c168 c170 c172 c174 c176 c178 c180 c182 c184 c186 c188 c190 c192 c194 c196 c198 c200 c202 c204 c206 c208 c210 c212 c214 c216 c218 c220 c222 c224 c226 c228 c230 hu h01 hSA hFa hSP hNw hKp hK0 hRk hR
  obtain ⟨g1, g2⟩ := g _ _ _ _ _ _ _ _ _ _ _ _ _ _ _ _ _ hR
  by_cases hw9 : 0 ≤ n.toInt ∧ n.toInt ≤ (t : Int)
  · obtain ⟨sz, e9, hz9⟩ : ∃ z : Nat, n = nI z ∧ z ≤ t := ⟨n.toNatClampNeg, nI_cl hw9.1, by show n.toInt.toNat ≤ t; omega⟩
    subst e9
    obtain ⟨T9, hT9⟩ : ∃ T9, T9 = mRtx tb sz n19 n21 kn lo hi sv rt sn sq wy it hl hs := ⟨_, rfl⟩
    obtain ⟨U9, hU9⟩ : ∃ U9, U9 = mTkT (T9.2.2.2.2.2.2.2.2.1) (T9.2.2.2.2.2.2.2.2.2.1) (T9.2.2.2.2.2.2.2.2.2.2.1) (T9.2.2.2.2.2.2.2.2.2.2.2.1) (T9.2.2.2.2.2.2.2.2.2.2.2.2.1) (T9.2.2.2.2.2.2.2.2.2.2.2.2.2.1) (T9.2.2.2.2.2.2.2.2.2.2.2.2.2.2.1) (T9.2.2.2.2.2.2.2.2.2.2.2.2.2.2.2.1) sm := ⟨_, rfl⟩
    have q1 : mtH tb sz n19 n21 kn lo hi sv rt sn sq wy it hl hs T9 := hT9
    have q2 : muH T9 sm U9 := hU9
    obtain ⟨g3, g4⟩ := g2 sz rfl hz9 ht _ _ _ _ _ _ _ _ q1 q2
    obtain ⟨B9, hB9⟩ : ∃ B9, B9 = mBeg (U9.1) (U9.2.2.2.2.1) nw am th hr := ⟨_, rfl⟩
    refine m_text c162 c164 c166 c168 c170 c172 c174 c176 c178 c180 c182 c184 c186 c198 c188 c190 c194 c212 ⟨hz9, ht⟩ hT9 hU9 hB9 ?_ ?_
    · intro h2 f l d162 d166 d168 d170 d172 d174 d176 d178 d180 d182 d184 d186 x0 x1
      obtain ⟨e1, e2⟩ := g3 x0 x1
      subst e1
      exact ⟨rfl, rOk_i f l (by decide) _ ⟨_, _, _, _, _, _, _, _, _, _, _, _, _, _, _, _, _, 0, _, _, _, _, _, _, _, _, _, _, _, _, _, _, _, _, _, _, _, _, _, _, _, _, _, _, _, _, _, _, _, _, _, _, _, _, _, ⟨(by decide), d162, wFr_at f (by decide) c164, d166, d168, d170, d172, d174, d176, d178, d180, d182, d184, d186, wFr_at f (by decide) c188, wFr_at f (by decide) c190, wFr_at f (by decide) c192, wFr_at f (by decide) c194, wFr_at f (by decide) c196, wFr_at f (by decide) c198, wFr_at f (by decide) c200, wFr_at f (by decide) c202, wFr_at f (by decide) c204, wFr_at f (by decide) c206, wFr_at f (by decide) c208, wFr_at f (by decide) c210, wFr_at f (by decide) c212, wFr_at f (by decide) c214, wFr_at f (by decide) c216, wFr_at f (by decide) c218, wFr_at f (by decide) c220, wFr_at f (by decide) c222, wFr_at f (by decide) c224, wFr_at f (by decide) c226, wFr_at f (by decide) c228, wFr_at f (by decide) c230⟩, ⟨hu, h01, (mSA_c hSA x1), (mFa_z hFa x1), hSP, hNw, hKp, hK0, hRk⟩, e2⟩⟩
    · intro h2 f l d162 d166 d168 d170 d172 d174 d176 d178 d180 d198 d182 d184 d186 d188 d190 d194 d212 x0 x1
      have b1 : B9.1 = nI 0 := by rw [hB9]; rfl
      have b2 : B9.2.1 = 0 := by rw [hB9]; rfl
      have b3 : B9.2.2.1 = 0 := by rw [hB9]; rfl
      rw [b1, b2, b3] at d162
      have hF8 := mFa_tk (sn := (T9.2.2.2.2.2.2.2.2.2.2.2.2.2.1)) (sm := sm) x1
      rw [← hU9] at hF8
      obtain ⟨wn9, hF9⟩ := hF8
      obtain ⟨e1, e2⟩ := g4 x0
      subst e1
      exact ⟨rfl, rOk_i f l (by decide) _ ⟨_, _, _, _, _, _, _, _, _, _, 0, _, 0, _, _, _, _, 0, _, 0, _, _, _, _, _, _, _, _, _, _, _, _, _, _, _, _, _, _, _, _, _, _, _, _, _, _, _, _, _, _, _, _, _, _, _, ⟨(by decide), d162, wFr_at f (by decide) c164, d166, d168, d170, d172, d174, d176, d178, d180, d182, d184, d186, d188, d190, wFr_at f (by decide) c192, d194, wFr_at f (by decide) c196, d198, wFr_at f (by decide) c200, wFr_at f (by decide) c202, wFr_at f (by decide) c204, wFr_at f (by decide) c206, wFr_at f (by decide) c208, wFr_at f (by decide) c210, d212, wFr_at f (by decide) c214, wFr_at f (by decide) c216, wFr_at f (by decide) c218, wFr_at f (by decide) c220, wFr_at f (by decide) c222, wFr_at f (by decide) c224, wFr_at f (by decide) c226, wFr_at f (by decide) c228, wFr_at f (by decide) c230⟩, ⟨(Nat.zero_le _), (Or.inl rfl), (mSA_0 _ _ _ _ _ _), hF9, (fun w hw => Or.inl (by rw [hU9]; exact mSm_tk _ _ _ _ _ _ _ _ _ w hw)), (by rw [hB9]; exact mBeg_nw (by rw [hU9]; exact mRt_tk x1)), (fun k hk => absurd hk (Nat.not_lt_zero _)), (fun e => absurd rfl e), (by rw [hB9]; exact mRk_mv hRk)⟩, e2 th hr B9 hB9⟩⟩
  · refine wq_mono (m_txN (sz := 0) (tb := tb) (kn := kn) (lo := lo) (hi := hi) (sv := sv) (rt := rt) (sn := sn) (sq := sq) (wy := wy) (it := it) (hl := hl) (hs := hs) (sm := sm) (nw := nw) (am := am) (th := th) (hr := hr) c162 (by omega) ht) ?_
    rintro _ ⟨h2, rfl, f, l, d162⟩
    obtain ⟨e1, e2⟩ := g1 hw9
    subst e1
    exact ⟨rfl, rOk_i f l (by decide) _ ⟨_, _, _, _, _, _, _, _, _, _, _, _, _, _, _, _, _, _, _, _, _, _, _, _, _, _, _, _, _, _, _, _, _, _, _, _, _, _, _, _, _, _, _, _, _, _, _, _, _, _, _, _, _, _, _, ⟨ht, d162, wFr_at f (by decide) c164, wFr_at f (by decide) c166, wFr_at f (by decide) c168, wFr_at f (by decide) c170, wFr_at f (by decide) c172, wFr_at f (by decide) c174, wFr_at f (by decide) c176, wFr_at f (by decide) c178, wFr_at f (by decide) c180, wFr_at f (by decide) c182, wFr_at f (by decide) c184, wFr_at f (by decide) c186, wFr_at f (by decide) c188, wFr_at f (by decide) c190, wFr_at f (by decide) c192, wFr_at f (by decide) c194, wFr_at f (by decide) c196, wFr_at f (by decide) c198, wFr_at f (by decide) c200, wFr_at f (by decide) c202, wFr_at f (by decide) c204, wFr_at f (by decide) c206, wFr_at f (by decide) c208, wFr_at f (by decide) c210, wFr_at f (by decide) c212, wFr_at f (by decide) c214, wFr_at f (by decide) c216, wFr_at f (by decide) c218, wFr_at f (by decide) c220, wFr_at f (by decide) c222, wFr_at f (by decide) c224, wFr_at f (by decide) c226, wFr_at f (by decide) c228, wFr_at f (by decide) c230⟩, ⟨hu, h01, hSA, hFa, hSP, hNw, hKp, hK0, hRk⟩, e2⟩⟩
