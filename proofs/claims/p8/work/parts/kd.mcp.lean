/-! What the reference takes over of a text. -/
/-- the first n numbers out of those from o on -/
noncomputable def mCp (o : Nat) : Nat → List Int32 → List Int32
  | 0, l => l
  | n + 1, l => zset 0 (mCp o n l) n ((mCp o n l).getD (o + n) 0)
theorem mCp_at (o : Nat) (l : List Int32) : ∀ n, n ≤ o → ∀ q, (mCp o n l).getD q 0 = if q < n then l.getD (o + q) 0 else l.getD q 0
  | 0, _, q => by rw [if_neg (Nat.not_lt_zero _)]; rfl
  | n + 1, h, q => by
    have ih := mCp_at o l n (by omega)
    unfold mCp
    have e1 := ih (o + n)
    rw [if_neg (by omega)] at e1
    rw [zset_get, e1, ih q]
    by_cases e : q = n
    · rw [if_pos e, if_pos (by omega), e]
    · rw [if_neg e]
      by_cases e2 : q < n
      · rw [if_pos e2, if_pos (by omega)]
      · rw [if_neg e2, if_neg (by omega)]
theorem mcp_at : ∀ (m k : Nat) (sq : List Int32), k ≤ 48 → 48 - k < m → ∀ q, q < 48 → (mcpF m k sq).getD q 0 = if k ≤ q then sq.getD (48 + q) 0 else sq.getD q 0
  | 0, k, sq, h1, h2, q, hq => absurd h2 (Nat.not_lt_zero _)
  | m + 1, k, sq, h1, h2, q, hq => by
    have ek := nI_toInt (n := k) (by omega)
    have e48 : (48 : Int32).toInt = 48 := rfl
    unfold mcpF
    by_cases hk : (48 : Int32).toInt ≤ (nI k).toInt
    · rw [if_pos hk, if_neg]
      rw [ek, e48] at hk
      omega
    · rw [if_neg hk]
      rw [ek, e48] at hk
      rw [mcp_at m (k + 1) _ (by omega) (by omega) q hq]
      by_cases e : q = k
      · rw [if_neg (by omega), if_pos (by omega), zset_get, if_pos e, e]
      · have z1 : (zset 0 sq k (sq.getD (48 + k) 0)).getD (48 + q) 0 = sq.getD (48 + q) 0 := by rw [zset_get, if_neg (by omega)]
        rw [z1, zset_get, if_neg e]
        by_cases e2 : k + 1 ≤ q
        · rw [if_pos e2, if_pos (by omega)]
        · rw [if_neg e2, if_neg (by omega)]
theorem mTkT_kn (kn lo hi sv rt sn sq wy sm : List Int32) : (mTkT kn lo hi sv rt sn sq wy sm).1 = mCp 7 7 kn := rfl
theorem mTkT_lo (kn lo hi sv rt sn sq wy sm : List Int32) : (mTkT kn lo hi sv rt sn sq wy sm).2.1 = mCp 6 6 lo := rfl
theorem mTkT_hi (kn lo hi sv rt sn sq wy sm : List Int32) : (mTkT kn lo hi sv rt sn sq wy sm).2.2.1 = mCp 6 6 hi := rfl
theorem mTkT_sv (kn lo hi sv rt sn sq wy sm : List Int32) : (mTkT kn lo hi sv rt sn sq wy sm).2.2.2.1 = mCp 6 6 sv := rfl
theorem mTkT_rt (kn lo hi sv rt sn sq wy sm : List Int32) : (mTkT kn lo hi sv rt sn sq wy sm).2.2.2.2.1 = mCp 6 6 rt := rfl
theorem mTkT_sq (kn lo hi sv rt sn sq wy sm : List Int32) : (mTkT kn lo hi sv rt sn sq wy sm).2.2.2.2.2.2.1 = mcpF (48 - 0 + 1) 0 sq := by
  unfold mTkT
  generalize mcpF (48 - 0 + 1) 0 sq = x
  rfl
theorem mTkT_wy (kn lo hi sv rt sn sq wy sm : List Int32) : (mTkT kn lo hi sv rt sn sq wy sm).2.2.2.2.2.2.2.1 = mCp 10 10 wy := rfl
theorem mTkT_sm (kn lo hi sv rt sn sq wy sm : List Int32) : (mTkT kn lo hi sv rt sn sq wy sm).2.2.2.2.2.2.2.2 = zset 0 (zset 0 (zset 0 (zset 0 (zset 0 (zset 0 (zset 0 (zset 0 sm 0 (-1)) 1 (-1)) 2 (-1)) 3 (-1)) 4 (-1)) 5 (-1)) 6 (-1)) 7 (-1) := rfl
