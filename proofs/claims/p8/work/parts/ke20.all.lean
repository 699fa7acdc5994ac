/-! A text as a whole; the arm that stands then; now and aim. -/
theorem vpn0 : vp_nar .boolean (0 : Int32) = 0 := by decide
theorem fgRt_0 : ∀ i, i < 6 → jnumv fgRt (nI i) = 0 := six_c (P := fun i => jnumv fgRt (nI i) = 0) (by decide +kernel) (by decide +kernel) (by decide +kernel) (by decide +kernel) (by decide +kernel) (by decide +kernel)
theorem zs10 (a : Int32) (l : List Int32) (j : Nat) (hj : j < 10) : (zset 0 (zset 0 (zset 0 (zset 0 (zset 0 (zset 0 (zset 0 (zset 0 (zset 0 (zset 0 l 0 a) 1 a) 2 a) 3 a) 4 a) 5 a) 6 a) 7 a) 8 a) 9 a).getD j 0 = a := by
  simp only [zset_get]
  repeat' split
  all_goals first | rfl | omega
theorem zs6k (a : Int32) (l : List Int32) (j : Nat) (hj : j < 6) : (zset 0 (zset 0 (zset 0 (zset 0 (zset 0 (zset 0 l 0 a) 1 a) 2 a) 3 a) 4 a) 5 a).getD j 0 = a := by
  simp only [zset_get]
  repeat' split
  all_goals first | rfl | omega
theorem dR_0 (ll lg sv nm wy : List Int32) (po : List Int64) (kn lo hi s3 r3 sn sq w3 it hl hs : List Int32) : dR 0 9 4 10 2 0 fgRt (fgL ll) (fgG lg) (fgV sv) 0 nm po 0 wy (mFrs kn lo hi s3 r3 hl hs it).1 (mFrs kn lo hi s3 r3 hl hs it).2.1 (mFrs kn lo hi s3 r3 hl hs it).2.2.1 (mFrs kn lo hi s3 r3 hl hs it).2.2.2.1 (mFrs kn lo hi s3 r3 hl hs it).2.2.2.2.1 sn sq w3 (mFrs kn lo hi s3 r3 hl hs it).2.2.2.2.2.2.2 (mFrs kn lo hi s3 r3 hl hs it).2.2.2.2.2.1 (mFrs kn lo hi s3 r3 hl hs it).2.2.2.2.2.2.1 := by
  refine ⟨?_, ?_, ?_, ?_, ?_, fun k hk => absurd hk (Nat.not_lt_zero _), fun k hk => absurd hk (Nat.not_lt_zero _), fun k hk => absurd hk (Nat.not_lt_zero _), by decide, ?_, ?_, ?_⟩
  · unfold gK mFrs
    dsimp only
    refine ⟨?_, ?_, ?_, ?_, ?_, ?_, ?_, by decide, by decide⟩
    all_goals
      simp only [zset_get]
      rfl
  · intro j hj
    unfold mFrs fgL
    dsimp only
    rw [zset6 _ _ _ _ _ _ _ j hj, zs6at _ _ _ _ _ _ _ j hj]
    revert j
    exact six_c (by decide) (by decide) (by decide) (by decide) (by decide) (by decide)
  · intro j hj
    unfold mFrs fgG
    dsimp only
    rw [zset6 _ _ _ _ _ _ _ j hj, zs6at _ _ _ _ _ _ _ j hj]
    revert j
    exact six_c (by decide) (by decide) (by decide) (by decide) (by decide) (by decide)
  · intro j hj
    unfold mFrs fgV
    dsimp only
    rw [zset6 _ _ _ _ _ _ _ j hj, zs6at _ _ _ _ _ _ _ j hj]
  · intro j hj
    rw [fgRt_0 j hj]
    unfold mFrs
    dsimp only
    rw [zs6at _ _ _ _ _ _ _ j hj]
    revert j
    exact six_c (by decide) (by decide) (by decide) (by decide) (by decide) (by decide)
  · intro k hk
    unfold mFrs
    dsimp only
    rw [zs10 _ _ _ (by revert k; exact six_c (by decide) (by decide) (by decide) (by decide) (by decide) (by decide)), vpn0, Nat.zero_testBit]
    exact ⟨fun _ => rfl, fun _ => rfl⟩
  · intro k hk
    unfold mFrs
    dsimp only
    rw [zs6k _ _ _ hk, vpn0, Nat.zero_testBit]
    exact ⟨fun _ => rfl, fun _ => rfl⟩
  · intro k hk
    unfold mFrs
    dsimp only
    rw [zs6k _ _ _ hk, vpn0, Nat.zero_testBit]
    exact ⟨fun _ => rfl, fun _ => rfl⟩
noncomputable def textOk (C : Nat × Int32 × Nat × Int32 × Int32 × Nat × Int32 × Int32 × Int32 × Int32 × Int32 × Int32 × Int32 × Int32 × Int32 × Int64 × List Int32 × List Int32 × List Int32 × Nat × List Int32 × List Int64 × Nat × List Int32) (M : Int32 × Int32 × Int32 × Nat × Int32 × Int32 × Int32 × Int32 × List Int32 × List Int32 × List Int32 × List Int32 × List Int32 × List Int32 × List Int32 × List Int32 × List Int32 × List Int32 × List Int32) : Prop := ∃ (l n2 : Nat) (k2 s2 v2 : Int32) (T : Nat) (lk hd ht bl sd : Int32) (rt : Int64) (ll lg sv : List Int32) (sp : Nat) (nm : List Int32) (po : List Int64) (so : Nat) (wy : List Int32) (f2 a2 : Int32) (p2 : Nat) (o2 w2 z2 : Int32) (kn lo hi s3 r3 sn sq w3 it hl hs : List Int32), C = (0, 0, l, 0, -1, n2, k2, s2, v2, nI T, lk, hd, ht, bl, sd, rt, ll, lg, sv, sp, nm, po, so, wy) ∧ M = (0, f2, a2, p2, o2, w2, nI l, z2, kn, lo, hi, s3, r3, sn, sq, w3, it, hl, hs) ∧ l ≤ 700 ∧ dR T lk hd ht bl sd rt ll lg sv sp nm po so wy kn lo hi s3 r3 sn sq w3 it hl hs
noncomputable def textNo (C : Nat × Int32 × Nat × Int32 × Int32 × Nat × Int32 × Int32 × Int32 × Int32 × Int32 × Int32 × Int32 × Int32 × Int32 × Int64 × List Int32 × List Int32 × List Int32 × Nat × List Int32 × List Int64 × Nat × List Int32) (M : Int32 × Int32 × Int32 × Nat × Int32 × Int32 × Int32 × Int32 × List Int32 × List Int32 × List Int32 × List Int32 × List Int32 × List Int32 × List Int32 × List Int32 × List Int32 × List Int32 × List Int32) : Prop := ∃ (f : Int32) (P : Nat), f ≠ 0 ∧ C.1 = 1 ∧ C.2.1 = -1 ∧ C.2.2.2.1 = f ∧ C.2.2.2.2.1 = nI P ∧ M.1 = f ∧ M.2.1 = nI P
set_option maxRecDepth 100000 in
set_option maxHeartbeats 4000000 in
theorem text_e {tC tR : List Int32} {ln : Nat} (h : tRel tC tR) (hln : ln ≤ 700) (kd sta va va2 fp2 : Int32) (ll lg sv nm wy : List Int32) (po : List Int64) (kn lo hi s3 r3 sn sq w3 it hl hs : List Int32) : textOk (txF tC ln (ln + 2 - 0 + 1) 0 0 (-1) 0 kd sta va 0 9 4 10 2 0 fgRt (fgL ll) (fgG lg) (fgV sv) 0 nm po 0 wy) (mRtx tR ln va2 fp2 kn lo hi s3 r3 sn sq w3 it hl hs) ∨ textNo (txF tC ln (ln + 2 - 0 + 1) 0 0 (-1) 0 kd sta va 0 9 4 10 2 0 fgRt (fgL ll) (fgG lg) (fgV sv) 0 nm po 0 wy) (mRtx tR ln va2 fp2 kn lo hi s3 r3 sn sq w3 it hl hs) := by
  rw [txF_t h]
  have hb : ∀ i, i < ln → 0 ≤ (tR.getD i 0).toInt := fun i _ => tRel_pos h i
  have D := dR_0 ll lg sv nm wy po kn lo hi s3 r3 sn sq w3 it hl hs
  simp only [mRtx, zlet]
  revert D
  generalize mFrs kn lo hi s3 r3 hl hs it = F
  intro D
  obtain ⟨B, hB⟩ : ∃ B, B = mTok tR ln 0 va2 := ⟨_, rfl⟩
  obtain ⟨b1, b2, b3, b4⟩ := B
  rw [← hB]
  dsimp only
  have z : (2 * (ln - b1) + (1 - (0 : Int32).toInt.toNat)) + 1 = 2 * (ln - b1) + 2 := rfl
  rw [z]
  rcases tx_e (wr := 0) (wa := -1) (fp := fp2) hln hb (ln + 2 - 0 + 1) (2 * (ln - b1) + 2) 0 0 va2 kd sta va b1 b2 b3 b4 0 9 4 10 2 0 fgRt (fgL ll) (fgG lg) (fgV sv) 0 nm po 0 wy _ _ _ _ _ _ _ _ _ _ _ hB.symm (Nat.zero_le _) (Nat.le_refl _) (by omega) (by omega) D with ⟨l, n2, k2, s2, v2, T, lk, hd, ht, bl, sd, rt, ll2, lg2, sv2, sp, nm2, po2, so, wy2, a2, p2, o2, w2, kn2, lo2, hi2, s32, r32, sn2, sq2, w32, it2, hl2, hs2, c1, c2, hl9, D2⟩ | ⟨f, P, f0, x1, x2, x3, x4, x5, x6⟩
  · left
    rw [show txF tR ln (ln + 2 - 0 + 1) 0 0 (-1) 0 kd sta va 0 9 4 10 2 0 fgRt (fgL ll) (fgG lg) (fgV sv) 0 nm po 0 wy = _ from c1, show mrtF tR ln (2 * (ln - b1) + 2) 0 fp2 b1 b2 b3 b4 0 F.1 F.2.1 F.2.2.1 F.2.2.2.1 F.2.2.2.2.1 sn sq w3 F.2.2.2.2.2.2.2 F.2.2.2.2.2.1 F.2.2.2.2.2.2.1 = _ from c2]
    exact ⟨l, n2, k2, s2, v2, T, lk, hd, ht, bl, sd, rt, ll2, lg2, sv2, sp, nm2, po2, so, wy2, fp2, nI a2, p2, o2, w2, nI ln, kn2, lo2, hi2, s32, r32, sn2, sq2, w32, it2, hl2, hs2, rfl, rfl, hl9, D2⟩
  · right
    exact ⟨f, P, f0, x1, x2, x3, x4, x5, x6⟩
/-- the arm that stands, on both sides -/
noncomputable def aR (lk hd ht bl sd : Int32) (rt : Int64) (ll lg sv : List Int32) (sp : Nat) (nm : List Int32) (po : List Int64) (so : Nat) (wy kn lo hi s3 r3 sn sq w3 : List Int32) : Prop := (kn.getD 0 0 = lk ∧ kn.getD 1 0 = hd ∧ kn.getD 2 0 = ht ∧ kn.getD 3 0 = bl ∧ kn.getD 4 0 = sd ∧ kn.getD 5 0 = nI sp ∧ kn.getD 6 0 = nI so ∧ sp ≤ 8 ∧ so ≤ 10) ∧ (∀ j, j < 6 → lo.getD j 0 = ll.getD j 0) ∧ (∀ j, j < 6 → hi.getD j 0 = lg.getD j 0) ∧ (∀ j, j < 6 → s3.getD j 0 = sv.getD j 0) ∧ pkR rt r3 0 ∧ (∀ k, k < sp → sn.getD k 0 = nm.getD k 0) ∧ (∀ k, k < sp → pkR (po.getD k 0) sq (6 * k)) ∧ (∀ i, i < so → w3.getD i 0 = wy.getD i 0)
theorem mTkT_sn (kn lo hi sv rt sn sq wy sm : List Int32) : (mTkT kn lo hi sv rt sn sq wy sm).2.2.2.2.2.1 = mCp 8 8 sn := by
  unfold mTkT
  generalize mcpF (48 - 0 + 1) 0 sq = x
  rfl
theorem aR_tk {T : Nat} {lk hd ht bl sd : Int32} {rt : Int64} {ll lg sv : List Int32} {sp : Nat} {nm : List Int32} {po : List Int64} {so : Nat} {wy kn lo hi s3 r3 sn sq w3 it hl hs : List Int32} (sm : List Int32) (h : dR T lk hd ht bl sd rt ll lg sv sp nm po so wy kn lo hi s3 r3 sn sq w3 it hl hs) : aR lk hd ht bl sd rt ll lg sv sp nm po so wy (mTkT kn lo hi s3 r3 sn sq w3 sm).1 (mTkT kn lo hi s3 r3 sn sq w3 sm).2.1 (mTkT kn lo hi s3 r3 sn sq w3 sm).2.2.1 (mTkT kn lo hi s3 r3 sn sq w3 sm).2.2.2.1 (mTkT kn lo hi s3 r3 sn sq w3 sm).2.2.2.2.1 (mTkT kn lo hi s3 r3 sn sq w3 sm).2.2.2.2.2.1 (mTkT kn lo hi s3 r3 sn sq w3 sm).2.2.2.2.2.2.1 (mTkT kn lo hi s3 r3 sn sq w3 sm).2.2.2.2.2.2.2.1 := by
  rw [mTkT_kn, mTkT_lo, mTkT_hi, mTkT_sv, mTkT_rt, mTkT_sn, mTkT_sq, mTkT_wy]
  obtain ⟨⟨k1, k2, k3, k4, k5, k6, k7, k8, k9⟩, dL, dG, dS, dP, dN, dQ, dW, dT⟩ := h
  refine ⟨⟨?_, ?_, ?_, ?_, ?_, ?_, ?_, k8, k9⟩, fun j hj => ?_, fun j hj => ?_, fun j hj => ?_, fun i hi => ?_, fun k hk => ?_, fun k hk i hi => ?_, fun i hi => ?_⟩
  · rw [mCp_at _ _ _ (by decide), if_pos (by decide)]; exact k1
  · rw [mCp_at _ _ _ (by decide), if_pos (by decide)]; exact k2
  · rw [mCp_at _ _ _ (by decide), if_pos (by decide)]; exact k3
  · rw [mCp_at _ _ _ (by decide), if_pos (by decide)]; exact k4
  · rw [mCp_at _ _ _ (by decide), if_pos (by decide)]; exact k5
  · rw [mCp_at _ _ _ (by decide), if_pos (by decide)]; exact k6
  · rw [mCp_at _ _ _ (by decide), if_pos (by decide)]; exact k7
  · rw [mCp_at _ _ _ (by decide), if_pos hj]; exact dL j hj
  · rw [mCp_at _ _ _ (by decide), if_pos hj]; exact dG j hj
  · rw [mCp_at _ _ _ (by decide), if_pos hj]; exact dS j hj
  · rw [Nat.zero_add, mCp_at _ _ _ (by decide), if_pos hi]; exact dP i hi
  · rw [mCp_at _ _ _ (by decide), if_pos (by omega)]; exact dN k hk
  · rw [mcp_at _ 0 _ (by decide) (by decide) _ (by omega), if_pos (Nat.zero_le _), show 48 + (6 * k + i) = 6 * (8 + k) + i by omega]; exact dQ k hk i hi
  · rw [mCp_at _ _ _ (by decide), if_pos (by omega)]; exact dW i hi
/-- the place of a posture, on both sides -/
theorem pla_e {p : Int64} {qq kn th : List Int32} {k : Nat} {lk hd ht : Int32} (hp : pkR p qq k) (h0 : kn.getD 0 0 = lk) (h1 : kn.getD 1 0 = hd) (h2 : kn.getD 2 0 = ht) : ∀ i, i < 6 → (mPla kn qq k th).getD i 0 = jPart lk hd ht p (nI i) := by
  have e0 : qq.getD (k + 0) 0 = jnum p 40 := hp 0 (by decide)
  have e1 : qq.getD (k + 1) 0 = jnum p 32 := hp 1 (by decide)
  have e2 : qq.getD (k + 2) 0 = jnum p 24 := hp 2 (by decide)
  have e3 : qq.getD (k + 3) 0 = jnum p 16 := hp 3 (by decide)
  have e4 : qq.getD (k + 4) 0 = jnum p 8 := hp 4 (by decide)
  have e5 : qq.getD (k + 5) 0 = jnum p 0 := hp 5 (by decide)
  have o : mOutO kn qq k = jOut lk hd p := by unfold mOutO mOutB jOut; rw [e2, e3, e4, h0, h1]
  intro i hi
  unfold mPla
  rw [zset6 _ _ _ _ _ _ _ i hi, o, e0, e1, e2, e3, e4, e5]
  unfold mHgtB
  rw [h0, h1, h2]
  revert i
  exact six_c rfl rfl rfl rfl rfl rfl
theorem jPlo_e {lk hd ht : Int32} {p : Int64} {al : List Int32} : ∀ i, i < 6 → (jPlo lk hd ht p al).getD i 0 = jPart lk hd ht p (nI i) := by
  intro i hi
  unfold jPlo
  rw [zset6 _ _ _ _ _ _ _ i hi]
  revert i
  exact six_c rfl rfl rfl rfl rfl rfl
