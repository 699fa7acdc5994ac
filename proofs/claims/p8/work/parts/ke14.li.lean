/-! The class's line, word by word: fine; refused by the word's reader; refused at its end. -/
set_option maxRecDepth 100000 in
set_option maxHeartbeats 4000000 in
theorem li_ok_9 {tb : List Int32} {ln nx : Nat} {wr wa sta va tld lk hd ht bl sd : Int32} {rt : Int64} {ll lg sv : List Int32} {sp : Nat} {nm : List Int32} {po : List Int64} {so : Nat} {wy : List Int32} {wr2 wa2 k2 s2 v2 s4 v4 : Int32} {n2 a : Nat} {so2 : Nat} {wy2 : List Int32} (hk : lwF va (10 - 0 + 1) 0 = nI 9) (hR : rgG tb ln wr wa nx 1 sta va sp nm so wy = (1, wr2, wa2, n2, k2, s2, v2, so2, wy2)) (hA : adG tb ln n2 k2 s2 v2 = (a, 4, s4, v4)) : liG tb ln wr wa nx 1 sta va tld lk hd ht bl sd rt ll lg sv sp nm po so wy = (1, wr2, wa2, a, 4, s4, v4, tld, lk, hd, ht, bl, sd, rt, ll, lg, sv, sp, nm, po, so2, wy2) := by
  unfold liG
  rw [if_neg (show ¬ (1 : Int32) ≠ 1 by decide), hk, if_pos (show nI 9 ≠ (-1 : Int32) by decide), if_pos (show (5 : Int32).toInt < (nI 9).toInt by decide), if_pos (show nI 9 ≠ (6 : Int32) by decide), if_pos (show nI 9 ≠ (7 : Int32) by decide), if_pos (show nI 9 ≠ (8 : Int32) by decide)]
  simp only [zlet, hR]
  rw [if_pos (show (1 : Int32) ≠ 0 by decide)]
  simp only [hA, reduceIte]
set_option maxRecDepth 100000 in
set_option maxHeartbeats 4000000 in
theorem li_bad_9 {tb : List Int32} {ln nx : Nat} {wr wa sta va tld lk hd ht bl sd : Int32} {rt : Int64} {ll lg sv : List Int32} {sp : Nat} {nm : List Int32} {po : List Int64} {so : Nat} {wy : List Int32} {wr2 wa2 k2 s2 v2 : Int32} {n2 : Nat} {so2 : Nat} {wy2 : List Int32} (hk : lwF va (10 - 0 + 1) 0 = nI 9) (hR : rgG tb ln wr wa nx 1 sta va sp nm so wy = (1, wr2, wa2, n2, k2, s2, v2, so2, wy2)) (hA : (adG tb ln n2 k2 s2 v2).2.1 ≠ 4) : (liG tb ln wr wa nx 1 sta va tld lk hd ht bl sd rt ll lg sv sp nm po so wy).1 = 0 ∧ (liG tb ln wr wa nx 1 sta va tld lk hd ht bl sd rt ll lg sv sp nm po so wy).2.1 = 1 ∧ (liG tb ln wr wa nx 1 sta va tld lk hd ht bl sd rt ll lg sv sp nm po so wy).2.2.1 = (adG tb ln n2 k2 s2 v2).2.2.1 := by
  unfold liG
  rw [if_neg (show ¬ (1 : Int32) ≠ 1 by decide), hk, if_pos (show nI 9 ≠ (-1 : Int32) by decide), if_pos (show (5 : Int32).toInt < (nI 9).toInt by decide), if_pos (show nI 9 ≠ (6 : Int32) by decide), if_pos (show nI 9 ≠ (7 : Int32) by decide), if_pos (show nI 9 ≠ (8 : Int32) by decide)]
  simp only [zlet, hR]
  rw [if_pos (show (1 : Int32) ≠ 0 by decide), if_neg hA]
  exact ⟨rfl, rfl, rfl⟩
set_option maxRecDepth 100000 in
set_option maxHeartbeats 4000000 in
theorem li_no_9 {tb : List Int32} {ln nx : Nat} {wr wa sta va tld lk hd ht bl sd : Int32} {rt : Int64} {ll lg sv : List Int32} {sp : Nat} {nm : List Int32} {po : List Int64} {so : Nat} {wy : List Int32} (hk : lwF va (10 - 0 + 1) 0 = nI 9) (hR : (rgG tb ln wr wa nx 1 sta va sp nm so wy).1 = 0) : (liG tb ln wr wa nx 1 sta va tld lk hd ht bl sd rt ll lg sv sp nm po so wy).1 = 0 ∧ (liG tb ln wr wa nx 1 sta va tld lk hd ht bl sd rt ll lg sv sp nm po so wy).2.1 = (rgG tb ln wr wa nx 1 sta va sp nm so wy).2.1 ∧ (liG tb ln wr wa nx 1 sta va tld lk hd ht bl sd rt ll lg sv sp nm po so wy).2.2.1 = (rgG tb ln wr wa nx 1 sta va sp nm so wy).2.2.1 := by
  unfold liG
  rw [if_neg (show ¬ (1 : Int32) ≠ 1 by decide), hk, if_pos (show nI 9 ≠ (-1 : Int32) by decide), if_pos (show (5 : Int32).toInt < (nI 9).toInt by decide), if_pos (show nI 9 ≠ (6 : Int32) by decide), if_pos (show nI 9 ≠ (7 : Int32) by decide), if_pos (show nI 9 ≠ (8 : Int32) by decide)]
  try simp only [zlet]
  rw [if_neg (fun z => z hR)]
  exact ⟨rfl, rfl, rfl⟩
set_option maxRecDepth 100000 in
set_option maxHeartbeats 4000000 in
theorem li_ok_8 {tb : List Int32} {ln nx : Nat} {wr wa sta va tld lk hd ht bl sd : Int32} {rt : Int64} {ll lg sv : List Int32} {sp : Nat} {nm : List Int32} {po : List Int64} {so : Nat} {wy : List Int32} {wr2 wa2 k2 s2 v2 s4 v4 : Int32} {n2 a : Nat} {sp2 : Nat} {nm2 : List Int32} {po2 : List Int64} (hk : lwF va (10 - 0 + 1) 0 = nI 8) (hR : rzG tb ln wr wa nx 1 sta va sp nm po = (1, wr2, wa2, n2, k2, s2, v2, sp2, nm2, po2)) (hA : adG tb ln n2 k2 s2 v2 = (a, 4, s4, v4)) : liG tb ln wr wa nx 1 sta va tld lk hd ht bl sd rt ll lg sv sp nm po so wy = (1, wr2, wa2, a, 4, s4, v4, tld, lk, hd, ht, bl, sd, rt, ll, lg, sv, sp2, nm2, po2, so, wy) := by
  unfold liG
  rw [if_neg (show ¬ (1 : Int32) ≠ 1 by decide), hk, if_pos (show nI 8 ≠ (-1 : Int32) by decide), if_pos (show (5 : Int32).toInt < (nI 8).toInt by decide), if_pos (show nI 8 ≠ (6 : Int32) by decide), if_pos (show nI 8 ≠ (7 : Int32) by decide), if_neg (show ¬ nI 8 ≠ (8 : Int32) by decide)]
  simp only [zlet, hR]
  rw [if_pos (show (1 : Int32) ≠ 0 by decide)]
  simp only [hA, reduceIte]
set_option maxRecDepth 100000 in
set_option maxHeartbeats 4000000 in
theorem li_bad_8 {tb : List Int32} {ln nx : Nat} {wr wa sta va tld lk hd ht bl sd : Int32} {rt : Int64} {ll lg sv : List Int32} {sp : Nat} {nm : List Int32} {po : List Int64} {so : Nat} {wy : List Int32} {wr2 wa2 k2 s2 v2 : Int32} {n2 : Nat} {sp2 : Nat} {nm2 : List Int32} {po2 : List Int64} (hk : lwF va (10 - 0 + 1) 0 = nI 8) (hR : rzG tb ln wr wa nx 1 sta va sp nm po = (1, wr2, wa2, n2, k2, s2, v2, sp2, nm2, po2)) (hA : (adG tb ln n2 k2 s2 v2).2.1 ≠ 4) : (liG tb ln wr wa nx 1 sta va tld lk hd ht bl sd rt ll lg sv sp nm po so wy).1 = 0 ∧ (liG tb ln wr wa nx 1 sta va tld lk hd ht bl sd rt ll lg sv sp nm po so wy).2.1 = 1 ∧ (liG tb ln wr wa nx 1 sta va tld lk hd ht bl sd rt ll lg sv sp nm po so wy).2.2.1 = (adG tb ln n2 k2 s2 v2).2.2.1 := by
  unfold liG
  rw [if_neg (show ¬ (1 : Int32) ≠ 1 by decide), hk, if_pos (show nI 8 ≠ (-1 : Int32) by decide), if_pos (show (5 : Int32).toInt < (nI 8).toInt by decide), if_pos (show nI 8 ≠ (6 : Int32) by decide), if_pos (show nI 8 ≠ (7 : Int32) by decide), if_neg (show ¬ nI 8 ≠ (8 : Int32) by decide)]
  simp only [zlet, hR]
  rw [if_pos (show (1 : Int32) ≠ 0 by decide), if_neg hA]
  exact ⟨rfl, rfl, rfl⟩
set_option maxRecDepth 100000 in
set_option maxHeartbeats 4000000 in
theorem li_no_8 {tb : List Int32} {ln nx : Nat} {wr wa sta va tld lk hd ht bl sd : Int32} {rt : Int64} {ll lg sv : List Int32} {sp : Nat} {nm : List Int32} {po : List Int64} {so : Nat} {wy : List Int32} (hk : lwF va (10 - 0 + 1) 0 = nI 8) (hR : (rzG tb ln wr wa nx 1 sta va sp nm po).1 = 0) : (liG tb ln wr wa nx 1 sta va tld lk hd ht bl sd rt ll lg sv sp nm po so wy).1 = 0 ∧ (liG tb ln wr wa nx 1 sta va tld lk hd ht bl sd rt ll lg sv sp nm po so wy).2.1 = (rzG tb ln wr wa nx 1 sta va sp nm po).2.1 ∧ (liG tb ln wr wa nx 1 sta va tld lk hd ht bl sd rt ll lg sv sp nm po so wy).2.2.1 = (rzG tb ln wr wa nx 1 sta va sp nm po).2.2.1 := by
  unfold liG
  rw [if_neg (show ¬ (1 : Int32) ≠ 1 by decide), hk, if_pos (show nI 8 ≠ (-1 : Int32) by decide), if_pos (show (5 : Int32).toInt < (nI 8).toInt by decide), if_pos (show nI 8 ≠ (6 : Int32) by decide), if_pos (show nI 8 ≠ (7 : Int32) by decide), if_neg (show ¬ nI 8 ≠ (8 : Int32) by decide)]
  try simp only [zlet]
  rw [if_neg (fun z => z hR)]
  exact ⟨rfl, rfl, rfl⟩
set_option maxRecDepth 100000 in
set_option maxHeartbeats 4000000 in
theorem li_ok_7 {tb : List Int32} {ln nx : Nat} {wr wa sta va tld lk hd ht bl sd : Int32} {rt : Int64} {ll lg sv : List Int32} {sp : Nat} {nm : List Int32} {po : List Int64} {so : Nat} {wy : List Int32} {wr2 wa2 k2 s2 v2 s4 v4 : Int32} {n2 a : Nat} {tld2 : Int32} {sv2 : List Int32} (hk : lwF va (10 - 0 + 1) 0 = nI 7) (hR : rpG tb ln wr wa nx 1 sta va tld sv = (1, wr2, wa2, n2, k2, s2, v2, tld2, sv2)) (hA : adG tb ln n2 k2 s2 v2 = (a, 4, s4, v4)) : liG tb ln wr wa nx 1 sta va tld lk hd ht bl sd rt ll lg sv sp nm po so wy = (1, wr2, wa2, a, 4, s4, v4, tld2, lk, hd, ht, bl, sd, rt, ll, lg, sv2, sp, nm, po, so, wy) := by
  unfold liG
  rw [if_neg (show ¬ (1 : Int32) ≠ 1 by decide), hk, if_pos (show nI 7 ≠ (-1 : Int32) by decide), if_pos (show (5 : Int32).toInt < (nI 7).toInt by decide), if_pos (show nI 7 ≠ (6 : Int32) by decide), if_neg (show ¬ nI 7 ≠ (7 : Int32) by decide)]
  simp only [zlet, hR]
  rw [if_pos (show (1 : Int32) ≠ 0 by decide)]
  simp only [hA, reduceIte]
set_option maxRecDepth 100000 in
set_option maxHeartbeats 4000000 in
theorem li_bad_7 {tb : List Int32} {ln nx : Nat} {wr wa sta va tld lk hd ht bl sd : Int32} {rt : Int64} {ll lg sv : List Int32} {sp : Nat} {nm : List Int32} {po : List Int64} {so : Nat} {wy : List Int32} {wr2 wa2 k2 s2 v2 : Int32} {n2 : Nat} {tld2 : Int32} {sv2 : List Int32} (hk : lwF va (10 - 0 + 1) 0 = nI 7) (hR : rpG tb ln wr wa nx 1 sta va tld sv = (1, wr2, wa2, n2, k2, s2, v2, tld2, sv2)) (hA : (adG tb ln n2 k2 s2 v2).2.1 ≠ 4) : (liG tb ln wr wa nx 1 sta va tld lk hd ht bl sd rt ll lg sv sp nm po so wy).1 = 0 ∧ (liG tb ln wr wa nx 1 sta va tld lk hd ht bl sd rt ll lg sv sp nm po so wy).2.1 = 1 ∧ (liG tb ln wr wa nx 1 sta va tld lk hd ht bl sd rt ll lg sv sp nm po so wy).2.2.1 = (adG tb ln n2 k2 s2 v2).2.2.1 := by
  unfold liG
  rw [if_neg (show ¬ (1 : Int32) ≠ 1 by decide), hk, if_pos (show nI 7 ≠ (-1 : Int32) by decide), if_pos (show (5 : Int32).toInt < (nI 7).toInt by decide), if_pos (show nI 7 ≠ (6 : Int32) by decide), if_neg (show ¬ nI 7 ≠ (7 : Int32) by decide)]
  simp only [zlet, hR]
  rw [if_pos (show (1 : Int32) ≠ 0 by decide), if_neg hA]
  exact ⟨rfl, rfl, rfl⟩
set_option maxRecDepth 100000 in
set_option maxHeartbeats 4000000 in
theorem li_no_7 {tb : List Int32} {ln nx : Nat} {wr wa sta va tld lk hd ht bl sd : Int32} {rt : Int64} {ll lg sv : List Int32} {sp : Nat} {nm : List Int32} {po : List Int64} {so : Nat} {wy : List Int32} (hk : lwF va (10 - 0 + 1) 0 = nI 7) (hR : (rpG tb ln wr wa nx 1 sta va tld sv).1 = 0) : (liG tb ln wr wa nx 1 sta va tld lk hd ht bl sd rt ll lg sv sp nm po so wy).1 = 0 ∧ (liG tb ln wr wa nx 1 sta va tld lk hd ht bl sd rt ll lg sv sp nm po so wy).2.1 = (rpG tb ln wr wa nx 1 sta va tld sv).2.1 ∧ (liG tb ln wr wa nx 1 sta va tld lk hd ht bl sd rt ll lg sv sp nm po so wy).2.2.1 = (rpG tb ln wr wa nx 1 sta va tld sv).2.2.1 := by
  unfold liG
  rw [if_neg (show ¬ (1 : Int32) ≠ 1 by decide), hk, if_pos (show nI 7 ≠ (-1 : Int32) by decide), if_pos (show (5 : Int32).toInt < (nI 7).toInt by decide), if_pos (show nI 7 ≠ (6 : Int32) by decide), if_neg (show ¬ nI 7 ≠ (7 : Int32) by decide)]
  try simp only [zlet]
  rw [if_neg (fun z => z hR)]
  exact ⟨rfl, rfl, rfl⟩
set_option maxRecDepth 100000 in
set_option maxHeartbeats 4000000 in
theorem li_ok_6 {tb : List Int32} {ln nx : Nat} {wr wa sta va tld lk hd ht bl sd : Int32} {rt : Int64} {ll lg sv : List Int32} {sp : Nat} {nm : List Int32} {po : List Int64} {so : Nat} {wy : List Int32} {wr2 wa2 k2 s2 v2 s4 v4 : Int32} {n2 a : Nat} {tld2 : Int32} {ll2 : List Int32} {lg2 : List Int32} (hk : lwF va (10 - 0 + 1) 0 = nI 6) (hR : rlG tb ln wr wa nx 1 sta va tld ll lg = (1, wr2, wa2, n2, k2, s2, v2, tld2, ll2, lg2)) (hA : adG tb ln n2 k2 s2 v2 = (a, 4, s4, v4)) : liG tb ln wr wa nx 1 sta va tld lk hd ht bl sd rt ll lg sv sp nm po so wy = (1, wr2, wa2, a, 4, s4, v4, tld2, lk, hd, ht, bl, sd, rt, ll2, lg2, sv, sp, nm, po, so, wy) := by
  unfold liG
  rw [if_neg (show ¬ (1 : Int32) ≠ 1 by decide), hk, if_pos (show nI 6 ≠ (-1 : Int32) by decide), if_pos (show (5 : Int32).toInt < (nI 6).toInt by decide), if_neg (show ¬ nI 6 ≠ (6 : Int32) by decide)]
  simp only [zlet, hR]
  rw [if_pos (show (1 : Int32) ≠ 0 by decide)]
  simp only [hA, reduceIte]
set_option maxRecDepth 100000 in
set_option maxHeartbeats 4000000 in
theorem li_bad_6 {tb : List Int32} {ln nx : Nat} {wr wa sta va tld lk hd ht bl sd : Int32} {rt : Int64} {ll lg sv : List Int32} {sp : Nat} {nm : List Int32} {po : List Int64} {so : Nat} {wy : List Int32} {wr2 wa2 k2 s2 v2 : Int32} {n2 : Nat} {tld2 : Int32} {ll2 : List Int32} {lg2 : List Int32} (hk : lwF va (10 - 0 + 1) 0 = nI 6) (hR : rlG tb ln wr wa nx 1 sta va tld ll lg = (1, wr2, wa2, n2, k2, s2, v2, tld2, ll2, lg2)) (hA : (adG tb ln n2 k2 s2 v2).2.1 ≠ 4) : (liG tb ln wr wa nx 1 sta va tld lk hd ht bl sd rt ll lg sv sp nm po so wy).1 = 0 ∧ (liG tb ln wr wa nx 1 sta va tld lk hd ht bl sd rt ll lg sv sp nm po so wy).2.1 = 1 ∧ (liG tb ln wr wa nx 1 sta va tld lk hd ht bl sd rt ll lg sv sp nm po so wy).2.2.1 = (adG tb ln n2 k2 s2 v2).2.2.1 := by
  unfold liG
  rw [if_neg (show ¬ (1 : Int32) ≠ 1 by decide), hk, if_pos (show nI 6 ≠ (-1 : Int32) by decide), if_pos (show (5 : Int32).toInt < (nI 6).toInt by decide), if_neg (show ¬ nI 6 ≠ (6 : Int32) by decide)]
  simp only [zlet, hR]
  rw [if_pos (show (1 : Int32) ≠ 0 by decide), if_neg hA]
  exact ⟨rfl, rfl, rfl⟩
set_option maxRecDepth 100000 in
set_option maxHeartbeats 4000000 in
theorem li_no_6 {tb : List Int32} {ln nx : Nat} {wr wa sta va tld lk hd ht bl sd : Int32} {rt : Int64} {ll lg sv : List Int32} {sp : Nat} {nm : List Int32} {po : List Int64} {so : Nat} {wy : List Int32} (hk : lwF va (10 - 0 + 1) 0 = nI 6) (hR : (rlG tb ln wr wa nx 1 sta va tld ll lg).1 = 0) : (liG tb ln wr wa nx 1 sta va tld lk hd ht bl sd rt ll lg sv sp nm po so wy).1 = 0 ∧ (liG tb ln wr wa nx 1 sta va tld lk hd ht bl sd rt ll lg sv sp nm po so wy).2.1 = (rlG tb ln wr wa nx 1 sta va tld ll lg).2.1 ∧ (liG tb ln wr wa nx 1 sta va tld lk hd ht bl sd rt ll lg sv sp nm po so wy).2.2.1 = (rlG tb ln wr wa nx 1 sta va tld ll lg).2.2.1 := by
  unfold liG
  rw [if_neg (show ¬ (1 : Int32) ≠ 1 by decide), hk, if_pos (show nI 6 ≠ (-1 : Int32) by decide), if_pos (show (5 : Int32).toInt < (nI 6).toInt by decide), if_neg (show ¬ nI 6 ≠ (6 : Int32) by decide)]
  try simp only [zlet]
  rw [if_neg (fun z => z hR)]
  exact ⟨rfl, rfl, rfl⟩
set_option maxRecDepth 100000 in
set_option maxHeartbeats 4000000 in
theorem li_ok_5 {tb : List Int32} {ln nx : Nat} {wr wa sta va tld lk hd ht bl sd : Int32} {rt : Int64} {ll lg sv : List Int32} {sp : Nat} {nm : List Int32} {po : List Int64} {so : Nat} {wy : List Int32} {wr2 wa2 k2 s2 v2 s4 v4 : Int32} {n2 a : Nat} {tld2 : Int32} {wr1 wa1 : Int32} {rt2 : Int64} (hk : lwF va (10 - 0 + 1) 0 = nI 5) (hT : toG wr wa sta tld (nI 5) = (1, wr1, wa1, tld2)) (hR : rrG tb ln wr1 wa1 nx 1 sta va rt = (1, wr2, wa2, n2, k2, s2, v2, rt2)) (hA : adG tb ln n2 k2 s2 v2 = (a, 4, s4, v4)) : liG tb ln wr wa nx 1 sta va tld lk hd ht bl sd rt ll lg sv sp nm po so wy = (1, wr2, wa2, a, 4, s4, v4, tld2, lk, hd, ht, bl, sd, rt2, ll, lg, sv, sp, nm, po, so, wy) := by
  unfold liG
  rw [if_neg (show ¬ (1 : Int32) ≠ 1 by decide), hk, if_pos (show nI 5 ≠ (-1 : Int32) by decide), if_neg (show ¬ (5 : Int32).toInt < (nI 5).toInt by decide)]
  simp only [zlet, hT]
  rw [if_neg (show ¬ (1 : Int32) = 0 by decide), if_neg (show ¬ nI 5 ≠ (5 : Int32) by decide)]
  simp only [zlet, hR]
  rw [if_neg (show ¬ (1 : Int32) = 0 by decide)]
  simp only [hA, reduceIte]
set_option maxRecDepth 100000 in
set_option maxHeartbeats 4000000 in
theorem li_bad_5 {tb : List Int32} {ln nx : Nat} {wr wa sta va tld lk hd ht bl sd : Int32} {rt : Int64} {ll lg sv : List Int32} {sp : Nat} {nm : List Int32} {po : List Int64} {so : Nat} {wy : List Int32} {wr2 wa2 k2 s2 v2 : Int32} {n2 : Nat} {tld2 : Int32} {wr1 wa1 : Int32} {rt2 : Int64} (hk : lwF va (10 - 0 + 1) 0 = nI 5) (hT : toG wr wa sta tld (nI 5) = (1, wr1, wa1, tld2)) (hR : rrG tb ln wr1 wa1 nx 1 sta va rt = (1, wr2, wa2, n2, k2, s2, v2, rt2)) (hA : (adG tb ln n2 k2 s2 v2).2.1 ≠ 4) : (liG tb ln wr wa nx 1 sta va tld lk hd ht bl sd rt ll lg sv sp nm po so wy).1 = 0 ∧ (liG tb ln wr wa nx 1 sta va tld lk hd ht bl sd rt ll lg sv sp nm po so wy).2.1 = 1 ∧ (liG tb ln wr wa nx 1 sta va tld lk hd ht bl sd rt ll lg sv sp nm po so wy).2.2.1 = (adG tb ln n2 k2 s2 v2).2.2.1 := by
  unfold liG
  rw [if_neg (show ¬ (1 : Int32) ≠ 1 by decide), hk, if_pos (show nI 5 ≠ (-1 : Int32) by decide), if_neg (show ¬ (5 : Int32).toInt < (nI 5).toInt by decide)]
  simp only [zlet, hT]
  rw [if_neg (show ¬ (1 : Int32) = 0 by decide), if_neg (show ¬ nI 5 ≠ (5 : Int32) by decide)]
  simp only [zlet, hR]
  rw [if_neg (show ¬ (1 : Int32) = 0 by decide), if_neg hA]
  exact ⟨rfl, rfl, rfl⟩
set_option maxRecDepth 100000 in
set_option maxHeartbeats 4000000 in
theorem li_no_5 {tb : List Int32} {ln nx : Nat} {wr wa sta va tld lk hd ht bl sd : Int32} {rt : Int64} {ll lg sv : List Int32} {sp : Nat} {nm : List Int32} {po : List Int64} {so : Nat} {wy : List Int32} {wr1 wa1 tld2 : Int32} (hk : lwF va (10 - 0 + 1) 0 = nI 5) (hT : toG wr wa sta tld (nI 5) = (1, wr1, wa1, tld2)) (hR : (rrG tb ln wr1 wa1 nx 1 sta va rt).1 = 0) : (liG tb ln wr wa nx 1 sta va tld lk hd ht bl sd rt ll lg sv sp nm po so wy).1 = 0 ∧ (liG tb ln wr wa nx 1 sta va tld lk hd ht bl sd rt ll lg sv sp nm po so wy).2.1 = (rrG tb ln wr1 wa1 nx 1 sta va rt).2.1 ∧ (liG tb ln wr wa nx 1 sta va tld lk hd ht bl sd rt ll lg sv sp nm po so wy).2.2.1 = (rrG tb ln wr1 wa1 nx 1 sta va rt).2.2.1 := by
  unfold liG
  rw [if_neg (show ¬ (1 : Int32) ≠ 1 by decide), hk, if_pos (show nI 5 ≠ (-1 : Int32) by decide), if_neg (show ¬ (5 : Int32).toInt < (nI 5).toInt by decide)]
  simp only [zlet, hT]
  rw [if_neg (show ¬ (1 : Int32) = 0 by decide), if_neg (show ¬ nI 5 ≠ (5 : Int32) by decide)]
  try simp only [zlet]
  rw [if_pos hR]
  exact ⟨rfl, rfl, rfl⟩
set_option maxRecDepth 100000 in
set_option maxHeartbeats 4000000 in
theorem li_told_5 {tb : List Int32} {ln nx : Nat} {wr wa sta va tld lk hd ht bl sd : Int32} {rt : Int64} {ll lg sv : List Int32} {sp : Nat} {nm : List Int32} {po : List Int64} {so : Nat} {wy : List Int32} {f P t9 : Int32} (hk : lwF va (10 - 0 + 1) 0 = nI 5) (hT : toG wr wa sta tld (nI 5) = (0, f, P, t9)) : (liG tb ln wr wa nx 1 sta va tld lk hd ht bl sd rt ll lg sv sp nm po so wy).1 = 0 ∧ (liG tb ln wr wa nx 1 sta va tld lk hd ht bl sd rt ll lg sv sp nm po so wy).2.1 = f ∧ (liG tb ln wr wa nx 1 sta va tld lk hd ht bl sd rt ll lg sv sp nm po so wy).2.2.1 = P := by
  unfold liG
  rw [if_neg (show ¬ (1 : Int32) ≠ 1 by decide), hk, if_pos (show nI 5 ≠ (-1 : Int32) by decide), if_neg (show ¬ (5 : Int32).toInt < (nI 5).toInt by decide), zlet, hT, if_pos rfl]
  exact ⟨rfl, rfl, rfl⟩
set_option maxRecDepth 100000 in
set_option maxHeartbeats 4000000 in
theorem li_ok_0 {tb : List Int32} {ln nx : Nat} {wr wa sta va tld lk hd ht bl sd : Int32} {rt : Int64} {ll lg sv : List Int32} {sp : Nat} {nm : List Int32} {po : List Int64} {so : Nat} {wy : List Int32} {wr2 wa2 k2 s2 v2 s4 v4 : Int32} {n2 a : Nat} {tld2 : Int32} {wr1 wa1 : Int32} {lk2 : Int32} {hd2 : Int32} {ht2 : Int32} {bl2 : Int32} {sd2 : Int32} (hk : lwF va (10 - 0 + 1) 0 = nI 0) (hT : toG wr wa sta tld (nI 0) = (1, wr1, wa1, tld2)) (hR : rsG tb ln wr1 wa1 nx 1 sta va lk hd ht bl sd (nI 0) = (1, wr2, wa2, n2, k2, s2, v2, lk2, hd2, ht2, bl2, sd2)) (hA : adG tb ln n2 k2 s2 v2 = (a, 4, s4, v4)) : liG tb ln wr wa nx 1 sta va tld lk hd ht bl sd rt ll lg sv sp nm po so wy = (1, wr2, wa2, a, 4, s4, v4, tld2, lk2, hd2, ht2, bl2, sd2, rt, ll, lg, sv, sp, nm, po, so, wy) := by
  unfold liG
  rw [if_neg (show ¬ (1 : Int32) ≠ 1 by decide), hk, if_pos (show nI 0 ≠ (-1 : Int32) by decide), if_neg (show ¬ (5 : Int32).toInt < (nI 0).toInt by decide)]
  simp only [zlet, hT]
  rw [if_neg (show ¬ (1 : Int32) = 0 by decide), if_pos (show nI 0 ≠ (5 : Int32) by decide)]
  simp only [zlet, hR]
  rw [if_neg (show ¬ (1 : Int32) = 0 by decide)]
  simp only [hA, reduceIte]
set_option maxRecDepth 100000 in
set_option maxHeartbeats 4000000 in
theorem li_bad_0 {tb : List Int32} {ln nx : Nat} {wr wa sta va tld lk hd ht bl sd : Int32} {rt : Int64} {ll lg sv : List Int32} {sp : Nat} {nm : List Int32} {po : List Int64} {so : Nat} {wy : List Int32} {wr2 wa2 k2 s2 v2 : Int32} {n2 : Nat} {tld2 : Int32} {wr1 wa1 : Int32} {lk2 : Int32} {hd2 : Int32} {ht2 : Int32} {bl2 : Int32} {sd2 : Int32} (hk : lwF va (10 - 0 + 1) 0 = nI 0) (hT : toG wr wa sta tld (nI 0) = (1, wr1, wa1, tld2)) (hR : rsG tb ln wr1 wa1 nx 1 sta va lk hd ht bl sd (nI 0) = (1, wr2, wa2, n2, k2, s2, v2, lk2, hd2, ht2, bl2, sd2)) (hA : (adG tb ln n2 k2 s2 v2).2.1 ≠ 4) : (liG tb ln wr wa nx 1 sta va tld lk hd ht bl sd rt ll lg sv sp nm po so wy).1 = 0 ∧ (liG tb ln wr wa nx 1 sta va tld lk hd ht bl sd rt ll lg sv sp nm po so wy).2.1 = 1 ∧ (liG tb ln wr wa nx 1 sta va tld lk hd ht bl sd rt ll lg sv sp nm po so wy).2.2.1 = (adG tb ln n2 k2 s2 v2).2.2.1 := by
  unfold liG
  rw [if_neg (show ¬ (1 : Int32) ≠ 1 by decide), hk, if_pos (show nI 0 ≠ (-1 : Int32) by decide), if_neg (show ¬ (5 : Int32).toInt < (nI 0).toInt by decide)]
  simp only [zlet, hT]
  rw [if_neg (show ¬ (1 : Int32) = 0 by decide), if_pos (show nI 0 ≠ (5 : Int32) by decide)]
  simp only [zlet, hR]
  rw [if_neg (show ¬ (1 : Int32) = 0 by decide), if_neg hA]
  exact ⟨rfl, rfl, rfl⟩
set_option maxRecDepth 100000 in
set_option maxHeartbeats 4000000 in
theorem li_no_0 {tb : List Int32} {ln nx : Nat} {wr wa sta va tld lk hd ht bl sd : Int32} {rt : Int64} {ll lg sv : List Int32} {sp : Nat} {nm : List Int32} {po : List Int64} {so : Nat} {wy : List Int32} {wr1 wa1 tld2 : Int32} (hk : lwF va (10 - 0 + 1) 0 = nI 0) (hT : toG wr wa sta tld (nI 0) = (1, wr1, wa1, tld2)) (hR : (rsG tb ln wr1 wa1 nx 1 sta va lk hd ht bl sd (nI 0)).1 = 0) : (liG tb ln wr wa nx 1 sta va tld lk hd ht bl sd rt ll lg sv sp nm po so wy).1 = 0 ∧ (liG tb ln wr wa nx 1 sta va tld lk hd ht bl sd rt ll lg sv sp nm po so wy).2.1 = (rsG tb ln wr1 wa1 nx 1 sta va lk hd ht bl sd (nI 0)).2.1 ∧ (liG tb ln wr wa nx 1 sta va tld lk hd ht bl sd rt ll lg sv sp nm po so wy).2.2.1 = (rsG tb ln wr1 wa1 nx 1 sta va lk hd ht bl sd (nI 0)).2.2.1 := by
  unfold liG
  rw [if_neg (show ¬ (1 : Int32) ≠ 1 by decide), hk, if_pos (show nI 0 ≠ (-1 : Int32) by decide), if_neg (show ¬ (5 : Int32).toInt < (nI 0).toInt by decide)]
  simp only [zlet, hT]
  rw [if_neg (show ¬ (1 : Int32) = 0 by decide), if_pos (show nI 0 ≠ (5 : Int32) by decide)]
  try simp only [zlet]
  rw [if_pos hR]
  exact ⟨rfl, rfl, rfl⟩
set_option maxRecDepth 100000 in
set_option maxHeartbeats 4000000 in
theorem li_told_0 {tb : List Int32} {ln nx : Nat} {wr wa sta va tld lk hd ht bl sd : Int32} {rt : Int64} {ll lg sv : List Int32} {sp : Nat} {nm : List Int32} {po : List Int64} {so : Nat} {wy : List Int32} {f P t9 : Int32} (hk : lwF va (10 - 0 + 1) 0 = nI 0) (hT : toG wr wa sta tld (nI 0) = (0, f, P, t9)) : (liG tb ln wr wa nx 1 sta va tld lk hd ht bl sd rt ll lg sv sp nm po so wy).1 = 0 ∧ (liG tb ln wr wa nx 1 sta va tld lk hd ht bl sd rt ll lg sv sp nm po so wy).2.1 = f ∧ (liG tb ln wr wa nx 1 sta va tld lk hd ht bl sd rt ll lg sv sp nm po so wy).2.2.1 = P := by
  unfold liG
  rw [if_neg (show ¬ (1 : Int32) ≠ 1 by decide), hk, if_pos (show nI 0 ≠ (-1 : Int32) by decide), if_neg (show ¬ (5 : Int32).toInt < (nI 0).toInt by decide), zlet, hT, if_pos rfl]
  exact ⟨rfl, rfl, rfl⟩
set_option maxRecDepth 100000 in
set_option maxHeartbeats 4000000 in
theorem li_ok_1 {tb : List Int32} {ln nx : Nat} {wr wa sta va tld lk hd ht bl sd : Int32} {rt : Int64} {ll lg sv : List Int32} {sp : Nat} {nm : List Int32} {po : List Int64} {so : Nat} {wy : List Int32} {wr2 wa2 k2 s2 v2 s4 v4 : Int32} {n2 a : Nat} {tld2 : Int32} {wr1 wa1 : Int32} {lk2 : Int32} {hd2 : Int32} {ht2 : Int32} {bl2 : Int32} {sd2 : Int32} (hk : lwF va (10 - 0 + 1) 0 = nI 1) (hT : toG wr wa sta tld (nI 1) = (1, wr1, wa1, tld2)) (hR : rsG tb ln wr1 wa1 nx 1 sta va lk hd ht bl sd (nI 1) = (1, wr2, wa2, n2, k2, s2, v2, lk2, hd2, ht2, bl2, sd2)) (hA : adG tb ln n2 k2 s2 v2 = (a, 4, s4, v4)) : liG tb ln wr wa nx 1 sta va tld lk hd ht bl sd rt ll lg sv sp nm po so wy = (1, wr2, wa2, a, 4, s4, v4, tld2, lk2, hd2, ht2, bl2, sd2, rt, ll, lg, sv, sp, nm, po, so, wy) := by
  unfold liG
  rw [if_neg (show ¬ (1 : Int32) ≠ 1 by decide), hk, if_pos (show nI 1 ≠ (-1 : Int32) by decide), if_neg (show ¬ (5 : Int32).toInt < (nI 1).toInt by decide)]
  simp only [zlet, hT]
  rw [if_neg (show ¬ (1 : Int32) = 0 by decide), if_pos (show nI 1 ≠ (5 : Int32) by decide)]
  simp only [zlet, hR]
  rw [if_neg (show ¬ (1 : Int32) = 0 by decide)]
  simp only [hA, reduceIte]
set_option maxRecDepth 100000 in
set_option maxHeartbeats 4000000 in
theorem li_bad_1 {tb : List Int32} {ln nx : Nat} {wr wa sta va tld lk hd ht bl sd : Int32} {rt : Int64} {ll lg sv : List Int32} {sp : Nat} {nm : List Int32} {po : List Int64} {so : Nat} {wy : List Int32} {wr2 wa2 k2 s2 v2 : Int32} {n2 : Nat} {tld2 : Int32} {wr1 wa1 : Int32} {lk2 : Int32} {hd2 : Int32} {ht2 : Int32} {bl2 : Int32} {sd2 : Int32} (hk : lwF va (10 - 0 + 1) 0 = nI 1) (hT : toG wr wa sta tld (nI 1) = (1, wr1, wa1, tld2)) (hR : rsG tb ln wr1 wa1 nx 1 sta va lk hd ht bl sd (nI 1) = (1, wr2, wa2, n2, k2, s2, v2, lk2, hd2, ht2, bl2, sd2)) (hA : (adG tb ln n2 k2 s2 v2).2.1 ≠ 4) : (liG tb ln wr wa nx 1 sta va tld lk hd ht bl sd rt ll lg sv sp nm po so wy).1 = 0 ∧ (liG tb ln wr wa nx 1 sta va tld lk hd ht bl sd rt ll lg sv sp nm po so wy).2.1 = 1 ∧ (liG tb ln wr wa nx 1 sta va tld lk hd ht bl sd rt ll lg sv sp nm po so wy).2.2.1 = (adG tb ln n2 k2 s2 v2).2.2.1 := by
  unfold liG
  rw [if_neg (show ¬ (1 : Int32) ≠ 1 by decide), hk, if_pos (show nI 1 ≠ (-1 : Int32) by decide), if_neg (show ¬ (5 : Int32).toInt < (nI 1).toInt by decide)]
  simp only [zlet, hT]
  rw [if_neg (show ¬ (1 : Int32) = 0 by decide), if_pos (show nI 1 ≠ (5 : Int32) by decide)]
  simp only [zlet, hR]
  rw [if_neg (show ¬ (1 : Int32) = 0 by decide), if_neg hA]
  exact ⟨rfl, rfl, rfl⟩
set_option maxRecDepth 100000 in
set_option maxHeartbeats 4000000 in
theorem li_no_1 {tb : List Int32} {ln nx : Nat} {wr wa sta va tld lk hd ht bl sd : Int32} {rt : Int64} {ll lg sv : List Int32} {sp : Nat} {nm : List Int32} {po : List Int64} {so : Nat} {wy : List Int32} {wr1 wa1 tld2 : Int32} (hk : lwF va (10 - 0 + 1) 0 = nI 1) (hT : toG wr wa sta tld (nI 1) = (1, wr1, wa1, tld2)) (hR : (rsG tb ln wr1 wa1 nx 1 sta va lk hd ht bl sd (nI 1)).1 = 0) : (liG tb ln wr wa nx 1 sta va tld lk hd ht bl sd rt ll lg sv sp nm po so wy).1 = 0 ∧ (liG tb ln wr wa nx 1 sta va tld lk hd ht bl sd rt ll lg sv sp nm po so wy).2.1 = (rsG tb ln wr1 wa1 nx 1 sta va lk hd ht bl sd (nI 1)).2.1 ∧ (liG tb ln wr wa nx 1 sta va tld lk hd ht bl sd rt ll lg sv sp nm po so wy).2.2.1 = (rsG tb ln wr1 wa1 nx 1 sta va lk hd ht bl sd (nI 1)).2.2.1 := by
  unfold liG
  rw [if_neg (show ¬ (1 : Int32) ≠ 1 by decide), hk, if_pos (show nI 1 ≠ (-1 : Int32) by decide), if_neg (show ¬ (5 : Int32).toInt < (nI 1).toInt by decide)]
  simp only [zlet, hT]
  rw [if_neg (show ¬ (1 : Int32) = 0 by decide), if_pos (show nI 1 ≠ (5 : Int32) by decide)]
  try simp only [zlet]
  rw [if_pos hR]
  exact ⟨rfl, rfl, rfl⟩
set_option maxRecDepth 100000 in
set_option maxHeartbeats 4000000 in
theorem li_told_1 {tb : List Int32} {ln nx : Nat} {wr wa sta va tld lk hd ht bl sd : Int32} {rt : Int64} {ll lg sv : List Int32} {sp : Nat} {nm : List Int32} {po : List Int64} {so : Nat} {wy : List Int32} {f P t9 : Int32} (hk : lwF va (10 - 0 + 1) 0 = nI 1) (hT : toG wr wa sta tld (nI 1) = (0, f, P, t9)) : (liG tb ln wr wa nx 1 sta va tld lk hd ht bl sd rt ll lg sv sp nm po so wy).1 = 0 ∧ (liG tb ln wr wa nx 1 sta va tld lk hd ht bl sd rt ll lg sv sp nm po so wy).2.1 = f ∧ (liG tb ln wr wa nx 1 sta va tld lk hd ht bl sd rt ll lg sv sp nm po so wy).2.2.1 = P := by
  unfold liG
  rw [if_neg (show ¬ (1 : Int32) ≠ 1 by decide), hk, if_pos (show nI 1 ≠ (-1 : Int32) by decide), if_neg (show ¬ (5 : Int32).toInt < (nI 1).toInt by decide), zlet, hT, if_pos rfl]
  exact ⟨rfl, rfl, rfl⟩
set_option maxRecDepth 100000 in
set_option maxHeartbeats 4000000 in
theorem li_ok_2 {tb : List Int32} {ln nx : Nat} {wr wa sta va tld lk hd ht bl sd : Int32} {rt : Int64} {ll lg sv : List Int32} {sp : Nat} {nm : List Int32} {po : List Int64} {so : Nat} {wy : List Int32} {wr2 wa2 k2 s2 v2 s4 v4 : Int32} {n2 a : Nat} {tld2 : Int32} {wr1 wa1 : Int32} {lk2 : Int32} {hd2 : Int32} {ht2 : Int32} {bl2 : Int32} {sd2 : Int32} (hk : lwF va (10 - 0 + 1) 0 = nI 2) (hT : toG wr wa sta tld (nI 2) = (1, wr1, wa1, tld2)) (hR : rsG tb ln wr1 wa1 nx 1 sta va lk hd ht bl sd (nI 2) = (1, wr2, wa2, n2, k2, s2, v2, lk2, hd2, ht2, bl2, sd2)) (hA : adG tb ln n2 k2 s2 v2 = (a, 4, s4, v4)) : liG tb ln wr wa nx 1 sta va tld lk hd ht bl sd rt ll lg sv sp nm po so wy = (1, wr2, wa2, a, 4, s4, v4, tld2, lk2, hd2, ht2, bl2, sd2, rt, ll, lg, sv, sp, nm, po, so, wy) := by
  unfold liG
  rw [if_neg (show ¬ (1 : Int32) ≠ 1 by decide), hk, if_pos (show nI 2 ≠ (-1 : Int32) by decide), if_neg (show ¬ (5 : Int32).toInt < (nI 2).toInt by decide)]
  simp only [zlet, hT]
  rw [if_neg (show ¬ (1 : Int32) = 0 by decide), if_pos (show nI 2 ≠ (5 : Int32) by decide)]
  simp only [zlet, hR]
  rw [if_neg (show ¬ (1 : Int32) = 0 by decide)]
  simp only [hA, reduceIte]
set_option maxRecDepth 100000 in
set_option maxHeartbeats 4000000 in
theorem li_bad_2 {tb : List Int32} {ln nx : Nat} {wr wa sta va tld lk hd ht bl sd : Int32} {rt : Int64} {ll lg sv : List Int32} {sp : Nat} {nm : List Int32} {po : List Int64} {so : Nat} {wy : List Int32} {wr2 wa2 k2 s2 v2 : Int32} {n2 : Nat} {tld2 : Int32} {wr1 wa1 : Int32} {lk2 : Int32} {hd2 : Int32} {ht2 : Int32} {bl2 : Int32} {sd2 : Int32} (hk : lwF va (10 - 0 + 1) 0 = nI 2) (hT : toG wr wa sta tld (nI 2) = (1, wr1, wa1, tld2)) (hR : rsG tb ln wr1 wa1 nx 1 sta va lk hd ht bl sd (nI 2) = (1, wr2, wa2, n2, k2, s2, v2, lk2, hd2, ht2, bl2, sd2)) (hA : (adG tb ln n2 k2 s2 v2).2.1 ≠ 4) : (liG tb ln wr wa nx 1 sta va tld lk hd ht bl sd rt ll lg sv sp nm po so wy).1 = 0 ∧ (liG tb ln wr wa nx 1 sta va tld lk hd ht bl sd rt ll lg sv sp nm po so wy).2.1 = 1 ∧ (liG tb ln wr wa nx 1 sta va tld lk hd ht bl sd rt ll lg sv sp nm po so wy).2.2.1 = (adG tb ln n2 k2 s2 v2).2.2.1 := by
  unfold liG
  rw [if_neg (show ¬ (1 : Int32) ≠ 1 by decide), hk, if_pos (show nI 2 ≠ (-1 : Int32) by decide), if_neg (show ¬ (5 : Int32).toInt < (nI 2).toInt by decide)]
  simp only [zlet, hT]
  rw [if_neg (show ¬ (1 : Int32) = 0 by decide), if_pos (show nI 2 ≠ (5 : Int32) by decide)]
  simp only [zlet, hR]
  rw [if_neg (show ¬ (1 : Int32) = 0 by decide), if_neg hA]
  exact ⟨rfl, rfl, rfl⟩
set_option maxRecDepth 100000 in
set_option maxHeartbeats 4000000 in
theorem li_no_2 {tb : List Int32} {ln nx : Nat} {wr wa sta va tld lk hd ht bl sd : Int32} {rt : Int64} {ll lg sv : List Int32} {sp : Nat} {nm : List Int32} {po : List Int64} {so : Nat} {wy : List Int32} {wr1 wa1 tld2 : Int32} (hk : lwF va (10 - 0 + 1) 0 = nI 2) (hT : toG wr wa sta tld (nI 2) = (1, wr1, wa1, tld2)) (hR : (rsG tb ln wr1 wa1 nx 1 sta va lk hd ht bl sd (nI 2)).1 = 0) : (liG tb ln wr wa nx 1 sta va tld lk hd ht bl sd rt ll lg sv sp nm po so wy).1 = 0 ∧ (liG tb ln wr wa nx 1 sta va tld lk hd ht bl sd rt ll lg sv sp nm po so wy).2.1 = (rsG tb ln wr1 wa1 nx 1 sta va lk hd ht bl sd (nI 2)).2.1 ∧ (liG tb ln wr wa nx 1 sta va tld lk hd ht bl sd rt ll lg sv sp nm po so wy).2.2.1 = (rsG tb ln wr1 wa1 nx 1 sta va lk hd ht bl sd (nI 2)).2.2.1 := by
  unfold liG
  rw [if_neg (show ¬ (1 : Int32) ≠ 1 by decide), hk, if_pos (show nI 2 ≠ (-1 : Int32) by decide), if_neg (show ¬ (5 : Int32).toInt < (nI 2).toInt by decide)]
  simp only [zlet, hT]
  rw [if_neg (show ¬ (1 : Int32) = 0 by decide), if_pos (show nI 2 ≠ (5 : Int32) by decide)]
  try simp only [zlet]
  rw [if_pos hR]
  exact ⟨rfl, rfl, rfl⟩
set_option maxRecDepth 100000 in
set_option maxHeartbeats 4000000 in
theorem li_told_2 {tb : List Int32} {ln nx : Nat} {wr wa sta va tld lk hd ht bl sd : Int32} {rt : Int64} {ll lg sv : List Int32} {sp : Nat} {nm : List Int32} {po : List Int64} {so : Nat} {wy : List Int32} {f P t9 : Int32} (hk : lwF va (10 - 0 + 1) 0 = nI 2) (hT : toG wr wa sta tld (nI 2) = (0, f, P, t9)) : (liG tb ln wr wa nx 1 sta va tld lk hd ht bl sd rt ll lg sv sp nm po so wy).1 = 0 ∧ (liG tb ln wr wa nx 1 sta va tld lk hd ht bl sd rt ll lg sv sp nm po so wy).2.1 = f ∧ (liG tb ln wr wa nx 1 sta va tld lk hd ht bl sd rt ll lg sv sp nm po so wy).2.2.1 = P := by
  unfold liG
  rw [if_neg (show ¬ (1 : Int32) ≠ 1 by decide), hk, if_pos (show nI 2 ≠ (-1 : Int32) by decide), if_neg (show ¬ (5 : Int32).toInt < (nI 2).toInt by decide), zlet, hT, if_pos rfl]
  exact ⟨rfl, rfl, rfl⟩
set_option maxRecDepth 100000 in
set_option maxHeartbeats 4000000 in
theorem li_ok_3 {tb : List Int32} {ln nx : Nat} {wr wa sta va tld lk hd ht bl sd : Int32} {rt : Int64} {ll lg sv : List Int32} {sp : Nat} {nm : List Int32} {po : List Int64} {so : Nat} {wy : List Int32} {wr2 wa2 k2 s2 v2 s4 v4 : Int32} {n2 a : Nat} {tld2 : Int32} {wr1 wa1 : Int32} {lk2 : Int32} {hd2 : Int32} {ht2 : Int32} {bl2 : Int32} {sd2 : Int32} (hk : lwF va (10 - 0 + 1) 0 = nI 3) (hT : toG wr wa sta tld (nI 3) = (1, wr1, wa1, tld2)) (hR : rsG tb ln wr1 wa1 nx 1 sta va lk hd ht bl sd (nI 3) = (1, wr2, wa2, n2, k2, s2, v2, lk2, hd2, ht2, bl2, sd2)) (hA : adG tb ln n2 k2 s2 v2 = (a, 4, s4, v4)) : liG tb ln wr wa nx 1 sta va tld lk hd ht bl sd rt ll lg sv sp nm po so wy = (1, wr2, wa2, a, 4, s4, v4, tld2, lk2, hd2, ht2, bl2, sd2, rt, ll, lg, sv, sp, nm, po, so, wy) := by
  unfold liG
  rw [if_neg (show ¬ (1 : Int32) ≠ 1 by decide), hk, if_pos (show nI 3 ≠ (-1 : Int32) by decide), if_neg (show ¬ (5 : Int32).toInt < (nI 3).toInt by decide)]
  simp only [zlet, hT]
  rw [if_neg (show ¬ (1 : Int32) = 0 by decide), if_pos (show nI 3 ≠ (5 : Int32) by decide)]
  simp only [zlet, hR]
  rw [if_neg (show ¬ (1 : Int32) = 0 by decide)]
  simp only [hA, reduceIte]
set_option maxRecDepth 100000 in
set_option maxHeartbeats 4000000 in
theorem li_bad_3 {tb : List Int32} {ln nx : Nat} {wr wa sta va tld lk hd ht bl sd : Int32} {rt : Int64} {ll lg sv : List Int32} {sp : Nat} {nm : List Int32} {po : List Int64} {so : Nat} {wy : List Int32} {wr2 wa2 k2 s2 v2 : Int32} {n2 : Nat} {tld2 : Int32} {wr1 wa1 : Int32} {lk2 : Int32} {hd2 : Int32} {ht2 : Int32} {bl2 : Int32} {sd2 : Int32} (hk : lwF va (10 - 0 + 1) 0 = nI 3) (hT : toG wr wa sta tld (nI 3) = (1, wr1, wa1, tld2)) (hR : rsG tb ln wr1 wa1 nx 1 sta va lk hd ht bl sd (nI 3) = (1, wr2, wa2, n2, k2, s2, v2, lk2, hd2, ht2, bl2, sd2)) (hA : (adG tb ln n2 k2 s2 v2).2.1 ≠ 4) : (liG tb ln wr wa nx 1 sta va tld lk hd ht bl sd rt ll lg sv sp nm po so wy).1 = 0 ∧ (liG tb ln wr wa nx 1 sta va tld lk hd ht bl sd rt ll lg sv sp nm po so wy).2.1 = 1 ∧ (liG tb ln wr wa nx 1 sta va tld lk hd ht bl sd rt ll lg sv sp nm po so wy).2.2.1 = (adG tb ln n2 k2 s2 v2).2.2.1 := by
  unfold liG
  rw [if_neg (show ¬ (1 : Int32) ≠ 1 by decide), hk, if_pos (show nI 3 ≠ (-1 : Int32) by decide), if_neg (show ¬ (5 : Int32).toInt < (nI 3).toInt by decide)]
  simp only [zlet, hT]
  rw [if_neg (show ¬ (1 : Int32) = 0 by decide), if_pos (show nI 3 ≠ (5 : Int32) by decide)]
  simp only [zlet, hR]
  rw [if_neg (show ¬ (1 : Int32) = 0 by decide), if_neg hA]
  exact ⟨rfl, rfl, rfl⟩
set_option maxRecDepth 100000 in
set_option maxHeartbeats 4000000 in
theorem li_no_3 {tb : List Int32} {ln nx : Nat} {wr wa sta va tld lk hd ht bl sd : Int32} {rt : Int64} {ll lg sv : List Int32} {sp : Nat} {nm : List Int32} {po : List Int64} {so : Nat} {wy : List Int32} {wr1 wa1 tld2 : Int32} (hk : lwF va (10 - 0 + 1) 0 = nI 3) (hT : toG wr wa sta tld (nI 3) = (1, wr1, wa1, tld2)) (hR : (rsG tb ln wr1 wa1 nx 1 sta va lk hd ht bl sd (nI 3)).1 = 0) : (liG tb ln wr wa nx 1 sta va tld lk hd ht bl sd rt ll lg sv sp nm po so wy).1 = 0 ∧ (liG tb ln wr wa nx 1 sta va tld lk hd ht bl sd rt ll lg sv sp nm po so wy).2.1 = (rsG tb ln wr1 wa1 nx 1 sta va lk hd ht bl sd (nI 3)).2.1 ∧ (liG tb ln wr wa nx 1 sta va tld lk hd ht bl sd rt ll lg sv sp nm po so wy).2.2.1 = (rsG tb ln wr1 wa1 nx 1 sta va lk hd ht bl sd (nI 3)).2.2.1 := by
  unfold liG
  rw [if_neg (show ¬ (1 : Int32) ≠ 1 by decide), hk, if_pos (show nI 3 ≠ (-1 : Int32) by decide), if_neg (show ¬ (5 : Int32).toInt < (nI 3).toInt by decide)]
  simp only [zlet, hT]
  rw [if_neg (show ¬ (1 : Int32) = 0 by decide), if_pos (show nI 3 ≠ (5 : Int32) by decide)]
  try simp only [zlet]
  rw [if_pos hR]
  exact ⟨rfl, rfl, rfl⟩
set_option maxRecDepth 100000 in
set_option maxHeartbeats 4000000 in
theorem li_told_3 {tb : List Int32} {ln nx : Nat} {wr wa sta va tld lk hd ht bl sd : Int32} {rt : Int64} {ll lg sv : List Int32} {sp : Nat} {nm : List Int32} {po : List Int64} {so : Nat} {wy : List Int32} {f P t9 : Int32} (hk : lwF va (10 - 0 + 1) 0 = nI 3) (hT : toG wr wa sta tld (nI 3) = (0, f, P, t9)) : (liG tb ln wr wa nx 1 sta va tld lk hd ht bl sd rt ll lg sv sp nm po so wy).1 = 0 ∧ (liG tb ln wr wa nx 1 sta va tld lk hd ht bl sd rt ll lg sv sp nm po so wy).2.1 = f ∧ (liG tb ln wr wa nx 1 sta va tld lk hd ht bl sd rt ll lg sv sp nm po so wy).2.2.1 = P := by
  unfold liG
  rw [if_neg (show ¬ (1 : Int32) ≠ 1 by decide), hk, if_pos (show nI 3 ≠ (-1 : Int32) by decide), if_neg (show ¬ (5 : Int32).toInt < (nI 3).toInt by decide), zlet, hT, if_pos rfl]
  exact ⟨rfl, rfl, rfl⟩
set_option maxRecDepth 100000 in
set_option maxHeartbeats 4000000 in
theorem li_ok_4 {tb : List Int32} {ln nx : Nat} {wr wa sta va tld lk hd ht bl sd : Int32} {rt : Int64} {ll lg sv : List Int32} {sp : Nat} {nm : List Int32} {po : List Int64} {so : Nat} {wy : List Int32} {wr2 wa2 k2 s2 v2 s4 v4 : Int32} {n2 a : Nat} {tld2 : Int32} {wr1 wa1 : Int32} {lk2 : Int32} {hd2 : Int32} {ht2 : Int32} {bl2 : Int32} {sd2 : Int32} (hk : lwF va (10 - 0 + 1) 0 = nI 4) (hT : toG wr wa sta tld (nI 4) = (1, wr1, wa1, tld2)) (hR : rsG tb ln wr1 wa1 nx 1 sta va lk hd ht bl sd (nI 4) = (1, wr2, wa2, n2, k2, s2, v2, lk2, hd2, ht2, bl2, sd2)) (hA : adG tb ln n2 k2 s2 v2 = (a, 4, s4, v4)) : liG tb ln wr wa nx 1 sta va tld lk hd ht bl sd rt ll lg sv sp nm po so wy = (1, wr2, wa2, a, 4, s4, v4, tld2, lk2, hd2, ht2, bl2, sd2, rt, ll, lg, sv, sp, nm, po, so, wy) := by
  unfold liG
  rw [if_neg (show ¬ (1 : Int32) ≠ 1 by decide), hk, if_pos (show nI 4 ≠ (-1 : Int32) by decide), if_neg (show ¬ (5 : Int32).toInt < (nI 4).toInt by decide)]
  simp only [zlet, hT]
  rw [if_neg (show ¬ (1 : Int32) = 0 by decide), if_pos (show nI 4 ≠ (5 : Int32) by decide)]
  simp only [zlet, hR]
  rw [if_neg (show ¬ (1 : Int32) = 0 by decide)]
  simp only [hA, reduceIte]
set_option maxRecDepth 100000 in
set_option maxHeartbeats 4000000 in
theorem li_bad_4 {tb : List Int32} {ln nx : Nat} {wr wa sta va tld lk hd ht bl sd : Int32} {rt : Int64} {ll lg sv : List Int32} {sp : Nat} {nm : List Int32} {po : List Int64} {so : Nat} {wy : List Int32} {wr2 wa2 k2 s2 v2 : Int32} {n2 : Nat} {tld2 : Int32} {wr1 wa1 : Int32} {lk2 : Int32} {hd2 : Int32} {ht2 : Int32} {bl2 : Int32} {sd2 : Int32} (hk : lwF va (10 - 0 + 1) 0 = nI 4) (hT : toG wr wa sta tld (nI 4) = (1, wr1, wa1, tld2)) (hR : rsG tb ln wr1 wa1 nx 1 sta va lk hd ht bl sd (nI 4) = (1, wr2, wa2, n2, k2, s2, v2, lk2, hd2, ht2, bl2, sd2)) (hA : (adG tb ln n2 k2 s2 v2).2.1 ≠ 4) : (liG tb ln wr wa nx 1 sta va tld lk hd ht bl sd rt ll lg sv sp nm po so wy).1 = 0 ∧ (liG tb ln wr wa nx 1 sta va tld lk hd ht bl sd rt ll lg sv sp nm po so wy).2.1 = 1 ∧ (liG tb ln wr wa nx 1 sta va tld lk hd ht bl sd rt ll lg sv sp nm po so wy).2.2.1 = (adG tb ln n2 k2 s2 v2).2.2.1 := by
  unfold liG
  rw [if_neg (show ¬ (1 : Int32) ≠ 1 by decide), hk, if_pos (show nI 4 ≠ (-1 : Int32) by decide), if_neg (show ¬ (5 : Int32).toInt < (nI 4).toInt by decide)]
  simp only [zlet, hT]
  rw [if_neg (show ¬ (1 : Int32) = 0 by decide), if_pos (show nI 4 ≠ (5 : Int32) by decide)]
  simp only [zlet, hR]
  rw [if_neg (show ¬ (1 : Int32) = 0 by decide), if_neg hA]
  exact ⟨rfl, rfl, rfl⟩
set_option maxRecDepth 100000 in
set_option maxHeartbeats 4000000 in
theorem li_no_4 {tb : List Int32} {ln nx : Nat} {wr wa sta va tld lk hd ht bl sd : Int32} {rt : Int64} {ll lg sv : List Int32} {sp : Nat} {nm : List Int32} {po : List Int64} {so : Nat} {wy : List Int32} {wr1 wa1 tld2 : Int32} (hk : lwF va (10 - 0 + 1) 0 = nI 4) (hT : toG wr wa sta tld (nI 4) = (1, wr1, wa1, tld2)) (hR : (rsG tb ln wr1 wa1 nx 1 sta va lk hd ht bl sd (nI 4)).1 = 0) : (liG tb ln wr wa nx 1 sta va tld lk hd ht bl sd rt ll lg sv sp nm po so wy).1 = 0 ∧ (liG tb ln wr wa nx 1 sta va tld lk hd ht bl sd rt ll lg sv sp nm po so wy).2.1 = (rsG tb ln wr1 wa1 nx 1 sta va lk hd ht bl sd (nI 4)).2.1 ∧ (liG tb ln wr wa nx 1 sta va tld lk hd ht bl sd rt ll lg sv sp nm po so wy).2.2.1 = (rsG tb ln wr1 wa1 nx 1 sta va lk hd ht bl sd (nI 4)).2.2.1 := by
  unfold liG
  rw [if_neg (show ¬ (1 : Int32) ≠ 1 by decide), hk, if_pos (show nI 4 ≠ (-1 : Int32) by decide), if_neg (show ¬ (5 : Int32).toInt < (nI 4).toInt by decide)]
  simp only [zlet, hT]
  rw [if_neg (show ¬ (1 : Int32) = 0 by decide), if_pos (show nI 4 ≠ (5 : Int32) by decide)]
  try simp only [zlet]
  rw [if_pos hR]
  exact ⟨rfl, rfl, rfl⟩
set_option maxRecDepth 100000 in
set_option maxHeartbeats 4000000 in
theorem li_told_4 {tb : List Int32} {ln nx : Nat} {wr wa sta va tld lk hd ht bl sd : Int32} {rt : Int64} {ll lg sv : List Int32} {sp : Nat} {nm : List Int32} {po : List Int64} {so : Nat} {wy : List Int32} {f P t9 : Int32} (hk : lwF va (10 - 0 + 1) 0 = nI 4) (hT : toG wr wa sta tld (nI 4) = (0, f, P, t9)) : (liG tb ln wr wa nx 1 sta va tld lk hd ht bl sd rt ll lg sv sp nm po so wy).1 = 0 ∧ (liG tb ln wr wa nx 1 sta va tld lk hd ht bl sd rt ll lg sv sp nm po so wy).2.1 = f ∧ (liG tb ln wr wa nx 1 sta va tld lk hd ht bl sd rt ll lg sv sp nm po so wy).2.2.1 = P := by
  unfold liG
  rw [if_neg (show ¬ (1 : Int32) ≠ 1 by decide), hk, if_pos (show nI 4 ≠ (-1 : Int32) by decide), if_neg (show ¬ (5 : Int32).toInt < (nI 4).toInt by decide), zlet, hT, if_pos rfl]
  exact ⟨rfl, rfl, rfl⟩
