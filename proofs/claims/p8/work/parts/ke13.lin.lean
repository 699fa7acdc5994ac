/-! The reference's line, word by word: the reader of that word, then the line's end. -/
set_option maxRecDepth 100000 in
set_option maxHeartbeats 4000000 in
theorem lin_3 (tb : List Int32) (ln at9 pl : Nat) (fp n14 : Int32) (ns nw : Nat) (kn lo hi sv rt sn sq wy it hl hs : List Int32) : mLin tb ln at9 pl 0 3 0 fp n14 ns nw kn lo hi sv rt sn sq wy it hl hs = (fun R => ((mFin tb ln R.2.2.1 R.2.2.2.1 R.2.2.2.2.1 R.2.2.2.2.2.1 R.1 R.2.1).1, (mFin tb ln R.2.2.1 R.2.2.2.1 R.2.2.2.2.1 R.2.2.2.2.2.1 R.1 R.2.1).2.1, (mFin tb ln R.2.2.1 R.2.2.2.1 R.2.2.2.2.1 R.2.2.2.2.2.1 R.1 R.2.1).2.2.1, (mFin tb ln R.2.2.1 R.2.2.2.1 R.2.2.2.2.1 R.2.2.2.2.2.1 R.1 R.2.1).2.2.2.1, (mFin tb ln R.2.2.1 R.2.2.2.1 R.2.2.2.2.1 R.2.2.2.2.2.1 R.1 R.2.1).2.2.2.2.1, (mFin tb ln R.2.2.1 R.2.2.2.1 R.2.2.2.2.1 R.2.2.2.2.2.1 R.1 R.2.1).2.2.2.2.2, n14 + 1, kn, R.2.2.2.2.2.2.2.1, R.2.2.2.2.2.2.2.2, sv, rt, sn, sq, wy, it, R.2.2.2.2.2.2.1, hs)) (mRdL tb ln at9 pl 0 3 0 fp hl lo hi) := by
  unfold mLin
  rw [if_pos rfl, if_pos (show (3 : Int32) ≠ 0 by decide), if_pos (show (3 : Int32) ≠ 1 by decide), if_pos (show (3 : Int32) ≠ 2 by decide), if_neg (show ¬ (3 : Int32) ≠ 3 by decide)]
  simp only [zlet]
  generalize mRdL tb ln at9 pl 0 3 0 fp hl lo hi = R
  by_cases h : R.1 ≠ 0
  · simp only [mFin, if_pos h]
  · by_cases h2 : R.2.2.2.2.1 = 4
    · simp only [mFin, if_neg h, if_pos h2]
    · simp only [mFin, if_neg h, if_neg h2]
set_option maxRecDepth 100000 in
set_option maxHeartbeats 4000000 in
theorem lin_4 (tb : List Int32) (ln at9 pl : Nat) (fp n14 : Int32) (ns nw : Nat) (kn lo hi sv rt sn sq wy it hl hs : List Int32) : mLin tb ln at9 pl 0 4 0 fp n14 ns nw kn lo hi sv rt sn sq wy it hl hs = (fun R => ((mFin tb ln R.2.2.1 R.2.2.2.1 R.2.2.2.2.1 R.2.2.2.2.2.1 R.1 R.2.1).1, (mFin tb ln R.2.2.1 R.2.2.2.1 R.2.2.2.2.1 R.2.2.2.2.2.1 R.1 R.2.1).2.1, (mFin tb ln R.2.2.1 R.2.2.2.1 R.2.2.2.2.1 R.2.2.2.2.2.1 R.1 R.2.1).2.2.1, (mFin tb ln R.2.2.1 R.2.2.2.1 R.2.2.2.2.1 R.2.2.2.2.2.1 R.1 R.2.1).2.2.2.1, (mFin tb ln R.2.2.1 R.2.2.2.1 R.2.2.2.2.1 R.2.2.2.2.2.1 R.1 R.2.1).2.2.2.2.1, (mFin tb ln R.2.2.1 R.2.2.2.1 R.2.2.2.2.1 R.2.2.2.2.2.1 R.1 R.2.1).2.2.2.2.2, n14 + 1, kn, lo, hi, R.2.2.2.2.2.2.2, rt, sn, sq, wy, it, hl, R.2.2.2.2.2.2.1)) (mRdS tb ln at9 pl 0 4 0 fp hs sv) := by
  unfold mLin
  rw [if_pos rfl, if_pos (show (4 : Int32) ≠ 0 by decide), if_pos (show (4 : Int32) ≠ 1 by decide), if_pos (show (4 : Int32) ≠ 2 by decide), if_pos (show (4 : Int32) ≠ 3 by decide), if_neg (show ¬ (4 : Int32) ≠ 4 by decide)]
  simp only [zlet]
  generalize mRdS tb ln at9 pl 0 4 0 fp hs sv = R
  by_cases h : R.1 ≠ 0
  · simp only [mFin, if_pos h]
  · by_cases h2 : R.2.2.2.2.1 = 4
    · simp only [mFin, if_neg h, if_pos h2]
    · simp only [mFin, if_neg h, if_neg h2]
set_option maxRecDepth 100000 in
set_option maxHeartbeats 4000000 in
theorem lin_8 (tb : List Int32) (ln at9 pl : Nat) (fp n14 : Int32) (ns nw : Nat) (kn lo hi sv rt sn sq wy it hl hs : List Int32) : mLin tb ln at9 pl 0 8 0 fp n14 ns nw kn lo hi sv rt sn sq wy it hl hs = (fun R => ((mFin tb ln R.2.2.1 R.2.2.2.1 R.2.2.2.2.1 R.2.2.2.2.2.1 R.1 R.2.1).1, (mFin tb ln R.2.2.1 R.2.2.2.1 R.2.2.2.2.1 R.2.2.2.2.2.1 R.1 R.2.1).2.1, (mFin tb ln R.2.2.1 R.2.2.2.1 R.2.2.2.2.1 R.2.2.2.2.2.1 R.1 R.2.1).2.2.1, (mFin tb ln R.2.2.1 R.2.2.2.1 R.2.2.2.2.1 R.2.2.2.2.2.1 R.1 R.2.1).2.2.2.1, (mFin tb ln R.2.2.1 R.2.2.2.1 R.2.2.2.2.1 R.2.2.2.2.2.1 R.1 R.2.1).2.2.2.2.1, (mFin tb ln R.2.2.1 R.2.2.2.1 R.2.2.2.2.1 R.2.2.2.2.2.1 R.1 R.2.1).2.2.2.2.2, n14 + 1, R.2.2.2.2.2.2.1, lo, hi, sv, rt, R.2.2.2.2.2.2.2.1, R.2.2.2.2.2.2.2.2, wy, it, hl, hs)) (mRdO tb ln at9 pl 0 8 0 fp ns kn sn sq) := by
  unfold mLin
  rw [if_pos rfl, if_pos (show (8 : Int32) ≠ 0 by decide), if_pos (show (8 : Int32) ≠ 1 by decide), if_pos (show (8 : Int32) ≠ 2 by decide), if_pos (show (8 : Int32) ≠ 3 by decide), if_pos (show (8 : Int32) ≠ 4 by decide), if_pos (show (8 : Int32) ≠ 5 by decide), if_pos (show (8 : Int32) ≠ 6 by decide), if_neg (show ¬ (8 : Int32) ≠ 8 by decide)]
  simp only [zlet]
  generalize mRdO tb ln at9 pl 0 8 0 fp ns kn sn sq = R
  by_cases h : R.1 ≠ 0
  · simp only [mFin, if_pos h]
  · by_cases h2 : R.2.2.2.2.1 = 4
    · simp only [mFin, if_neg h, if_pos h2]
    · simp only [mFin, if_neg h, if_neg h2]
set_option maxRecDepth 100000 in
set_option maxHeartbeats 4000000 in
theorem lin_9 (tb : List Int32) (ln at9 pl : Nat) (fp n14 : Int32) (ns nw : Nat) (kn lo hi sv rt sn sq wy it hl hs : List Int32) : mLin tb ln at9 pl 0 9 0 fp n14 ns nw kn lo hi sv rt sn sq wy it hl hs = (fun R => ((mFin tb ln R.2.2.1 R.2.2.2.1 R.2.2.2.2.1 R.2.2.2.2.2.1 R.1 R.2.1).1, (mFin tb ln R.2.2.1 R.2.2.2.1 R.2.2.2.2.1 R.2.2.2.2.2.1 R.1 R.2.1).2.1, (mFin tb ln R.2.2.1 R.2.2.2.1 R.2.2.2.2.1 R.2.2.2.2.2.1 R.1 R.2.1).2.2.1, (mFin tb ln R.2.2.1 R.2.2.2.1 R.2.2.2.2.1 R.2.2.2.2.2.1 R.1 R.2.1).2.2.2.1, (mFin tb ln R.2.2.1 R.2.2.2.1 R.2.2.2.2.1 R.2.2.2.2.2.1 R.1 R.2.1).2.2.2.2.1, (mFin tb ln R.2.2.1 R.2.2.2.1 R.2.2.2.2.1 R.2.2.2.2.2.1 R.1 R.2.1).2.2.2.2.2, n14 + 1, R.2.2.2.2.2.2.1, lo, hi, sv, rt, sn, sq, R.2.2.2.2.2.2.2, it, hl, hs)) (mRdG tb ln at9 pl 0 9 0 fp ns nw kn sn wy) := by
  unfold mLin
  rw [if_pos rfl, if_pos (show (9 : Int32) ≠ 0 by decide), if_pos (show (9 : Int32) ≠ 1 by decide), if_pos (show (9 : Int32) ≠ 2 by decide), if_pos (show (9 : Int32) ≠ 3 by decide), if_pos (show (9 : Int32) ≠ 4 by decide), if_pos (show (9 : Int32) ≠ 5 by decide), if_pos (show (9 : Int32) ≠ 6 by decide), if_pos (show (9 : Int32) ≠ 8 by decide), if_neg (show ¬ (9 : Int32) ≠ 9 by decide)]
  simp only [zlet]
  generalize mRdG tb ln at9 pl 0 9 0 fp ns nw kn sn wy = R
  by_cases h : R.1 ≠ 0
  · simp only [mFin, if_pos h]
  · by_cases h2 : R.2.2.2.2.1 = 4
    · simp only [mFin, if_neg h, if_pos h2]
    · simp only [mFin, if_neg h, if_neg h2]
set_option maxRecDepth 100000 in
set_option maxHeartbeats 4000000 in
theorem lin_7 (tb : List Int32) (ln at9 pl : Nat) (fp n14 : Int32) (ns nw : Nat) (kn lo hi sv rt sn sq wy it hl hs : List Int32) : mLin tb ln at9 pl 0 7 0 fp n14 ns nw kn lo hi sv rt sn sq wy it hl hs = (fun R => ((mFin tb ln R.2.2.1 R.2.2.2.1 R.2.2.2.2.1 R.2.2.2.2.2.1 R.1 R.2.1).1, (mFin tb ln R.2.2.1 R.2.2.2.1 R.2.2.2.2.1 R.2.2.2.2.2.1 R.1 R.2.1).2.1, (mFin tb ln R.2.2.1 R.2.2.2.1 R.2.2.2.2.1 R.2.2.2.2.2.1 R.1 R.2.1).2.2.1, (mFin tb ln R.2.2.1 R.2.2.2.1 R.2.2.2.2.1 R.2.2.2.2.2.1 R.1 R.2.1).2.2.2.1, (mFin tb ln R.2.2.1 R.2.2.2.1 R.2.2.2.2.1 R.2.2.2.2.2.1 R.1 R.2.1).2.2.2.2.1, (mFin tb ln R.2.2.1 R.2.2.2.1 R.2.2.2.2.1 R.2.2.2.2.2.1 R.1 R.2.1).2.2.2.2.2, n14 + 1, kn, lo, hi, sv, R.2.2.2.2.2.2.2, sn, sq, wy, R.2.2.2.2.2.2.1, hl, hs)) (mRdR tb ln at9 pl 0 7 0 fp it rt) := by
  unfold mLin
  rw [if_pos rfl, if_pos (show (7 : Int32) ≠ 0 by decide), if_pos (show (7 : Int32) ≠ 1 by decide), if_pos (show (7 : Int32) ≠ 2 by decide), if_pos (show (7 : Int32) ≠ 3 by decide), if_pos (show (7 : Int32) ≠ 4 by decide), if_pos (show (7 : Int32) ≠ 5 by decide), if_pos (show (7 : Int32) ≠ 6 by decide), if_pos (show (7 : Int32) ≠ 8 by decide), if_pos (show (7 : Int32) ≠ 9 by decide)]
  simp only [zlet]
  generalize mRdR tb ln at9 pl 0 7 0 fp it rt = R
  by_cases h : R.1 ≠ 0
  · simp only [mFin, if_pos h]
  · by_cases h2 : R.2.2.2.2.1 = 4
    · simp only [mFin, if_neg h, if_pos h2]
    · simp only [mFin, if_neg h, if_neg h2]
set_option maxRecDepth 100000 in
set_option maxHeartbeats 4000000 in
theorem lin_0 (tb : List Int32) (ln at9 pl : Nat) (fp n14 : Int32) (ns nw : Nat) (kn lo hi sv rt sn sq wy it hl hs : List Int32) : mLin tb ln at9 pl 0 0 0 fp n14 ns nw kn lo hi sv rt sn sq wy it hl hs = (fun O => (fun R => ((mFin tb ln R.2.2.2.1 R.2.2.2.2.1 R.2.2.2.2.2.1 R.2.2.2.2.2.2 R.2.1 R.2.2.1).1, (mFin tb ln R.2.2.2.1 R.2.2.2.2.1 R.2.2.2.2.2.1 R.2.2.2.2.2.2 R.2.1 R.2.2.1).2.1, (mFin tb ln R.2.2.2.1 R.2.2.2.2.1 R.2.2.2.2.2.1 R.2.2.2.2.2.2 R.2.1 R.2.2.1).2.2.1, (mFin tb ln R.2.2.2.1 R.2.2.2.2.1 R.2.2.2.2.2.1 R.2.2.2.2.2.2 R.2.1 R.2.2.1).2.2.2.1, (mFin tb ln R.2.2.2.1 R.2.2.2.2.1 R.2.2.2.2.2.1 R.2.2.2.2.2.2 R.2.1 R.2.2.1).2.2.2.2.1, (mFin tb ln R.2.2.2.1 R.2.2.2.2.1 R.2.2.2.2.2.1 R.2.2.2.2.2.2 R.2.1 R.2.2.1).2.2.2.2.2, n14 + 1, (zset 0 kn 7 R.1), lo, hi, sv, rt, sn, sq, wy, O.2.2.2.2.2.2, hl, hs)) (mNml tb ln O.2.2.1 O.2.2.2.1 O.2.2.2.2.1 O.2.2.2.2.2.1 O.1 O.2.1 1 99)) (mOnc tb ln at9 pl 0 0 0 fp 0 it) := by
  unfold mLin
  rw [if_pos rfl, if_neg (show ¬ (0 : Int32) ≠ 0 by decide)]
  simp only [zlet]
  generalize mOnc tb ln at9 pl 0 0 0 fp 0 it = O
  generalize mNml tb ln O.2.2.1 O.2.2.2.1 O.2.2.2.2.1 O.2.2.2.2.2.1 O.1 O.2.1 1 99 = R
  by_cases h : R.2.1 ≠ 0
  · simp only [mFin, if_pos h]
  · by_cases h2 : R.2.2.2.2.2.1 = 4
    · simp only [mFin, if_neg h, if_pos h2]
    · simp only [mFin, if_neg h, if_neg h2]
set_option maxRecDepth 100000 in
set_option maxHeartbeats 4000000 in
theorem lin_1 (tb : List Int32) (ln at9 pl : Nat) (fp n14 : Int32) (ns nw : Nat) (kn lo hi sv rt sn sq wy it hl hs : List Int32) : mLin tb ln at9 pl 0 1 0 fp n14 ns nw kn lo hi sv rt sn sq wy it hl hs = (fun O => (fun R => ((mFin tb ln R.2.2.2.1 R.2.2.2.2.1 R.2.2.2.2.2.1 R.2.2.2.2.2.2 R.2.1 R.2.2.1).1, (mFin tb ln R.2.2.2.1 R.2.2.2.2.1 R.2.2.2.2.2.1 R.2.2.2.2.2.2 R.2.1 R.2.2.1).2.1, (mFin tb ln R.2.2.2.1 R.2.2.2.2.1 R.2.2.2.2.2.1 R.2.2.2.2.2.2 R.2.1 R.2.2.1).2.2.1, (mFin tb ln R.2.2.2.1 R.2.2.2.2.1 R.2.2.2.2.2.1 R.2.2.2.2.2.2 R.2.1 R.2.2.1).2.2.2.1, (mFin tb ln R.2.2.2.1 R.2.2.2.2.1 R.2.2.2.2.2.1 R.2.2.2.2.2.2 R.2.1 R.2.2.1).2.2.2.2.1, (mFin tb ln R.2.2.2.1 R.2.2.2.2.1 R.2.2.2.2.2.1 R.2.2.2.2.2.2 R.2.1 R.2.2.1).2.2.2.2.2, n14 + 1, (zset 0 kn 8 R.1), lo, hi, sv, rt, sn, sq, wy, O.2.2.2.2.2.2, hl, hs)) (mNml tb ln O.2.2.1 O.2.2.2.1 O.2.2.2.2.1 O.2.2.2.2.2.1 O.1 O.2.1 1 99)) (mOnc tb ln at9 pl 0 1 0 fp 1 it) := by
  unfold mLin
  rw [if_pos rfl, if_pos (show (1 : Int32) ≠ 0 by decide), if_neg (show ¬ (1 : Int32) ≠ 1 by decide)]
  simp only [zlet]
  generalize mOnc tb ln at9 pl 0 1 0 fp 1 it = O
  generalize mNml tb ln O.2.2.1 O.2.2.2.1 O.2.2.2.2.1 O.2.2.2.2.2.1 O.1 O.2.1 1 99 = R
  by_cases h : R.2.1 ≠ 0
  · simp only [mFin, if_pos h]
  · by_cases h2 : R.2.2.2.2.2.1 = 4
    · simp only [mFin, if_neg h, if_pos h2]
    · simp only [mFin, if_neg h, if_neg h2]
set_option maxRecDepth 100000 in
set_option maxHeartbeats 4000000 in
theorem lin_2 (tb : List Int32) (ln at9 pl : Nat) (fp n14 : Int32) (ns nw : Nat) (kn lo hi sv rt sn sq wy it hl hs : List Int32) : mLin tb ln at9 pl 0 2 0 fp n14 ns nw kn lo hi sv rt sn sq wy it hl hs = (fun O => (fun R => ((mFin tb ln R.2.2.2.1 R.2.2.2.2.1 R.2.2.2.2.2.1 R.2.2.2.2.2.2 R.2.1 R.2.2.1).1, (mFin tb ln R.2.2.2.1 R.2.2.2.2.1 R.2.2.2.2.2.1 R.2.2.2.2.2.2 R.2.1 R.2.2.1).2.1, (mFin tb ln R.2.2.2.1 R.2.2.2.2.1 R.2.2.2.2.2.1 R.2.2.2.2.2.2 R.2.1 R.2.2.1).2.2.1, (mFin tb ln R.2.2.2.1 R.2.2.2.2.1 R.2.2.2.2.2.1 R.2.2.2.2.2.2 R.2.1 R.2.2.1).2.2.2.1, (mFin tb ln R.2.2.2.1 R.2.2.2.2.1 R.2.2.2.2.2.1 R.2.2.2.2.2.2 R.2.1 R.2.2.1).2.2.2.2.1, (mFin tb ln R.2.2.2.1 R.2.2.2.2.1 R.2.2.2.2.2.1 R.2.2.2.2.2.2 R.2.1 R.2.2.1).2.2.2.2.2, n14 + 1, (zset 0 kn 9 R.1), lo, hi, sv, rt, sn, sq, wy, O.2.2.2.2.2.2, hl, hs)) (mNml tb ln O.2.2.1 O.2.2.2.1 O.2.2.2.2.1 O.2.2.2.2.2.1 O.1 O.2.1 1 99)) (mOnc tb ln at9 pl 0 2 0 fp 2 it) := by
  unfold mLin
  rw [if_pos rfl, if_pos (show (2 : Int32) ≠ 0 by decide), if_pos (show (2 : Int32) ≠ 1 by decide), if_neg (show ¬ (2 : Int32) ≠ 2 by decide)]
  simp only [zlet]
  generalize mOnc tb ln at9 pl 0 2 0 fp 2 it = O
  generalize mNml tb ln O.2.2.1 O.2.2.2.1 O.2.2.2.2.1 O.2.2.2.2.2.1 O.1 O.2.1 1 99 = R
  by_cases h : R.2.1 ≠ 0
  · simp only [mFin, if_pos h]
  · by_cases h2 : R.2.2.2.2.2.1 = 4
    · simp only [mFin, if_neg h, if_pos h2]
    · simp only [mFin, if_neg h, if_neg h2]
set_option maxRecDepth 100000 in
set_option maxHeartbeats 4000000 in
theorem lin_5 (tb : List Int32) (ln at9 pl : Nat) (fp n14 : Int32) (ns nw : Nat) (kn lo hi sv rt sn sq wy it hl hs : List Int32) : mLin tb ln at9 pl 0 5 0 fp n14 ns nw kn lo hi sv rt sn sq wy it hl hs = (fun O => (fun R => ((mFin tb ln R.2.2.2.1 R.2.2.2.2.1 R.2.2.2.2.2.1 R.2.2.2.2.2.2 R.2.1 R.2.2.1).1, (mFin tb ln R.2.2.2.1 R.2.2.2.2.1 R.2.2.2.2.2.1 R.2.2.2.2.2.2 R.2.1 R.2.2.1).2.1, (mFin tb ln R.2.2.2.1 R.2.2.2.2.1 R.2.2.2.2.2.1 R.2.2.2.2.2.2 R.2.1 R.2.2.1).2.2.1, (mFin tb ln R.2.2.2.1 R.2.2.2.2.1 R.2.2.2.2.2.1 R.2.2.2.2.2.2 R.2.1 R.2.2.1).2.2.2.1, (mFin tb ln R.2.2.2.1 R.2.2.2.2.1 R.2.2.2.2.2.1 R.2.2.2.2.2.2 R.2.1 R.2.2.1).2.2.2.2.1, (mFin tb ln R.2.2.2.1 R.2.2.2.2.1 R.2.2.2.2.2.1 R.2.2.2.2.2.2 R.2.1 R.2.2.1).2.2.2.2.2, n14 + 1, (zset 0 kn 10 R.1), lo, hi, sv, rt, sn, sq, wy, O.2.2.2.2.2.2, hl, hs)) (mNml tb ln O.2.2.1 O.2.2.2.1 O.2.2.2.2.1 O.2.2.2.2.2.1 O.1 O.2.1 0 9)) (mOnc tb ln at9 pl 0 5 0 fp 5 it) := by
  unfold mLin
  rw [if_pos rfl, if_pos (show (5 : Int32) ≠ 0 by decide), if_pos (show (5 : Int32) ≠ 1 by decide), if_pos (show (5 : Int32) ≠ 2 by decide), if_pos (show (5 : Int32) ≠ 3 by decide), if_pos (show (5 : Int32) ≠ 4 by decide), if_neg (show ¬ (5 : Int32) ≠ 5 by decide)]
  simp only [zlet]
  generalize mOnc tb ln at9 pl 0 5 0 fp 5 it = O
  generalize mNml tb ln O.2.2.1 O.2.2.2.1 O.2.2.2.2.1 O.2.2.2.2.2.1 O.1 O.2.1 0 9 = R
  by_cases h : R.2.1 ≠ 0
  · simp only [mFin, if_pos h]
  · by_cases h2 : R.2.2.2.2.2.1 = 4
    · simp only [mFin, if_neg h, if_pos h2]
    · simp only [mFin, if_neg h, if_neg h2]
set_option maxRecDepth 100000 in
set_option maxHeartbeats 4000000 in
theorem lin_6 (tb : List Int32) (ln at9 pl : Nat) (fp n14 : Int32) (ns nw : Nat) (kn lo hi sv rt sn sq wy it hl hs : List Int32) : mLin tb ln at9 pl 0 6 0 fp n14 ns nw kn lo hi sv rt sn sq wy it hl hs = (fun O => (fun R => ((mFin tb ln R.2.2.2.1 R.2.2.2.2.1 R.2.2.2.2.2.1 R.2.2.2.2.2.2 R.2.1 R.2.2.1).1, (mFin tb ln R.2.2.2.1 R.2.2.2.2.1 R.2.2.2.2.2.1 R.2.2.2.2.2.2 R.2.1 R.2.2.1).2.1, (mFin tb ln R.2.2.2.1 R.2.2.2.2.1 R.2.2.2.2.2.1 R.2.2.2.2.2.2 R.2.1 R.2.2.1).2.2.1, (mFin tb ln R.2.2.2.1 R.2.2.2.2.1 R.2.2.2.2.2.1 R.2.2.2.2.2.2 R.2.1 R.2.2.1).2.2.2.1, (mFin tb ln R.2.2.2.1 R.2.2.2.2.1 R.2.2.2.2.2.1 R.2.2.2.2.2.2 R.2.1 R.2.2.1).2.2.2.2.1, (mFin tb ln R.2.2.2.1 R.2.2.2.2.1 R.2.2.2.2.2.1 R.2.2.2.2.2.2 R.2.1 R.2.2.1).2.2.2.2.2, n14 + 1, (zset 0 kn 11 R.1), lo, hi, sv, rt, sn, sq, wy, O.2.2.2.2.2.2, hl, hs)) (mNml tb ln O.2.2.1 O.2.2.2.1 O.2.2.2.2.1 O.2.2.2.2.2.1 O.1 O.2.1 0 99999)) (mOnc tb ln at9 pl 0 6 0 fp 6 it) := by
  unfold mLin
  rw [if_pos rfl, if_pos (show (6 : Int32) ≠ 0 by decide), if_pos (show (6 : Int32) ≠ 1 by decide), if_pos (show (6 : Int32) ≠ 2 by decide), if_pos (show (6 : Int32) ≠ 3 by decide), if_pos (show (6 : Int32) ≠ 4 by decide), if_pos (show (6 : Int32) ≠ 5 by decide), if_neg (show ¬ (6 : Int32) ≠ 6 by decide)]
  simp only [zlet]
  generalize mOnc tb ln at9 pl 0 6 0 fp 6 it = O
  generalize mNml tb ln O.2.2.1 O.2.2.2.1 O.2.2.2.2.1 O.2.2.2.2.2.1 O.1 O.2.1 0 99999 = R
  by_cases h : R.2.1 ≠ 0
  · simp only [mFin, if_pos h]
  · by_cases h2 : R.2.2.2.2.2.1 = 4
    · simp only [mFin, if_neg h, if_pos h2]
    · simp only [mFin, if_neg h, if_neg h2]
set_option maxRecDepth 100000 in
theorem lin_n (tb : List Int32) (ln at9 pl : Nat) (fp n14 : Int32) (ns nw : Nat) (kn lo hi sv rt sn sq wy it hl hs : List Int32) {so va : Int32} (h : so ≠ 0) : (mLin tb ln at9 pl so va 0 fp n14 ns nw kn lo hi sv rt sn sq wy it hl hs).1 = 1 ∧ (mLin tb ln at9 pl so va 0 fp n14 ns nw kn lo hi sv rt sn sq wy it hl hs).2.1 = nI pl := by
  unfold mLin
  rw [if_neg h, zlet, wro_0, if_pos (show (1 : Int32) ≠ 0 by decide)]
  exact ⟨rfl, rfl⟩
