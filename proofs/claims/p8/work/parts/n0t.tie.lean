/-! What ties both sides: the view of the class and the reference's. -/
/-- the k-th latest of what can be undone -/
noncomputable def hRow (pp : List Int64) (ua kp : List Int32) (un us k : Nat) : Prop := pkR (pp.getD ((un + 19 - k) % 20) 0) kp (12 * (us - 1 - k)) ∧ (∀ i, i < 6 → kp.getD (12 * (us - 1 - k) + 6 + i) 0 = ua.getD (6 * ((un + 19 - k) % 20) + i) 0) ∧ 0 ≤ (ua.getD (6 * ((un + 19 - k) % 20) + 4) 0).toInt
/-- NOW, AIM, what can be undone, the image -/
noncomputable def tX (X : cX) (n28 : Int32) (nw am kp : List Int32) (u : Nat) : Prop := pkR X.1 nw 0 ∧ ((∀ i, i < 6 → am.getD i 0 = X.2.2.2.2.1.getD i 0) ∧ 0 ≤ (X.2.2.2.2.1.getD 4 0).toInt) ∧ (u = X.2.2.1 ∧ X.2.2.1 ≤ 20 ∧ X.2.2.2.1 < 20 ∧ ∀ k, k < X.2.2.1 → hRow X.2.2.2.2.2.2.1 X.2.2.2.2.2.2.2 kp X.2.2.2.1 X.2.2.1 k) ∧ (n28 ≠ 0 → pkR X.2.1 kp 240 ∧ (∀ i, i < 6 → kp.getD (246 + i) 0 = X.2.2.2.2.2.1.getD i 0) ∧ 0 ≤ (X.2.2.2.2.2.1.getD 4 0).toInt)
noncomputable def tA (V : cV0) (t : Nat) (n22 n23 n28 : Int32) (tb kn lo hi sv rt sn sq wy : List Int32) : Prop := t = V.1 ∧ tRel V.2.1 tb ∧ n22 = V.2.2.1 ∧ n23 = V.2.2.2.1 ∧ n28 = V.2.2.2.2.1 ∧ aR V.2.2.2.2.2.2.2.1 V.2.2.2.2.2.2.2.2.1 V.2.2.2.2.2.2.2.2.2.1 V.2.2.2.2.2.2.2.2.2.2.1 V.2.2.2.2.2.2.2.2.2.2.2.1 V.2.2.2.2.2.2.2.2.2.2.2.2.1 V.2.2.2.2.2.2.2.2.2.2.2.2.2.1 V.2.2.2.2.2.2.2.2.2.2.2.2.2.2.1 V.2.2.2.2.2.2.2.2.2.2.2.2.2.2.2.1 V.2.2.2.2.2.1 V.2.2.2.2.2.2.2.2.2.2.2.2.2.2.2.2.1 V.2.2.2.2.2.2.2.2.2.2.2.2.2.2.2.2.2.2 V.2.2.2.2.2.2.1 V.2.2.2.2.2.2.2.2.2.2.2.2.2.2.2.2.2.1 kn lo hi sv rt sn sq wy
noncomputable def tie (V : cV) : vRl := fun t n22 n23 n28 tb kn lo hi sv rt sn sq wy nw am kp u => tA V.1 t n22 n23 n28 tb kn lo hi sv rt sn sq wy ∧ tX V.2 n28 nw am kp u
/-! rows -/
theorem kLay_in6 (kp nw am : List Int32) (k j : Nat) (hj : j < 6) : (kLay kp nw am k).getD (12 * k + 6 + j) 0 = am.getD j 0 := by
  unfold kLay
  simp only [zset_get]
  rcases (show j = 0 ∨ j = 1 ∨ j = 2 ∨ j = 3 ∨ j = 4 ∨ j = 5 by omega) with e | e | e | e | e | e <;> subst e
  all_goals repeat (first | rw [if_pos (by omega)] | rw [if_neg (by omega)])
theorem kAim_at (am kp : List Int32) (k j : Nat) (hj : j < 6) : (kAim am kp k).getD j 0 = kp.getD (12 * k + 6 + j) 0 := by
  unfold kAim
  simp only [zset_get]
  rcases (show j = 0 ∨ j = 1 ∨ j = 2 ∨ j = 3 ∨ j = 4 ∨ j = 5 by omega) with e | e | e | e | e | e <;> subst e
  all_goals repeat (first | rw [if_pos (by omega)] | rw [if_neg (by omega)])
theorem mRem_lt {nw am kp : List Int32} {u : Nat} (h : u < 20) : mRem nw am kp u = (u + 1, kLay kp nw am u) := by
  unfold mRem
  rw [if_pos (fun q => by
    have := congrArg Int32.toInt q
    rw [nI_toInt (by omega), show (20 : Int32).toInt = 20 from rfl] at this
    omega)]
theorem mRem_20 (nw am kp : List Int32) : ∃ kz : List Int32, mRem nw am kp 20 = (20, kLay kz nw am 19) ∧ ∀ q, kz.getD q 0 = if 0 ≤ q ∧ q < 228 then kp.getD (12 + q) 0 else kp.getD q 0 := by
  refine ⟨mrmF (228 - 0 + 1) 0 kp, ?_, fun q => mrm_at _ _ _ (by decide) (by decide) q⟩
  unfold mRem
  rw [if_neg (fun q => q rfl)]
  unfold zlet
  generalize mrmF (228 - 0 + 1) 0 kp = kz
  rfl
theorem mRem_hi {nw am kp : List Int32} {u : Nat} (h : u ≤ 20) {q : Nat} (hq : 240 ≤ q) : (mRem nw am kp u).2.getD q 0 = kp.getD q 0 := by
  by_cases e : u = 20
  · subst e
    obtain ⟨kz, e1, e2⟩ := mRem_20 nw am kp
    rw [e1]
    show (kLay kz nw am 19).getD q 0 = _
    rw [kLay_out _ _ _ _ _ (by omega), e2, if_neg (by omega)]
  · rw [mRem_lt (by omega)]
    exact kLay_out _ _ _ _ _ (by omega)
theorem hist_psh {ps : Int64} {us un : Nat} {pl ua nw am kp : List Int32} {pp : List Int64} (h1 : pkR ps nw 0) (h2 : ∀ i, i < 6 → am.getD i 0 = pl.getD i 0) (h24 : 0 ≤ (pl.getD 4 0).toInt) (h5 : us ≤ 20) (h6 : un < 20) (h7 : ∀ k, k < us → hRow pp ua kp un us k) : (mRem nw am kp us).1 = min (us + 1) 20 ∧ ∀ k, k < min (us + 1) 20 → hRow (zset 0 pp un ps) (zcpy 0 pl ua 0 (6 * un) 6) (mRem nw am kp us).2 ((un + 1) % 20) (min (us + 1) 20) k := by
  by_cases e : us = 20
  · subst e
    obtain ⟨kz, e1, e2⟩ := mRem_20 nw am kp
    rw [e1, show min (20 + 1) 20 = 20 from rfl]
    refine ⟨rfl, fun k hk => ?_⟩
    show hRow _ _ (kLay kz nw am 19) _ _ _
    by_cases hk0 : k = 0
    · subst hk0
      unfold hRow
      rw [show ((un + 1) % 20 + 19 - 0) % 20 = un by omega, show 20 - 1 - 0 = 19 from rfl]
      refine ⟨fun i hi => ?_, fun i hi => ?_, ?_⟩
      · rw [kLay_in _ _ _ _ _ hi, zset_get, if_pos rfl]
        have := h1 i hi
        rwa [Nat.zero_add] at this
      · rw [kLay_in6 _ _ _ _ _ hi, zcpy_get, if_pos ⟨by omega, by omega⟩, show 0 + (6 * un + i - 6 * un) = i by omega]
        exact h2 i hi
      · rw [zcpy_get, if_pos ⟨by omega, by omega⟩, show 0 + (6 * un + 4 - 6 * un) = 4 by omega]
        exact h24
    · obtain ⟨m, em⟩ : ∃ m, k = m + 1 := ⟨k - 1, by omega⟩
      subst em
      obtain ⟨o1, o2, o3⟩ := h7 m (by omega)
      have hne : (un + 19 - m) % 20 ≠ un := by omega
      have hlt : (un + 19 - m) % 20 < 20 := Nat.mod_lt _ (by decide)
      unfold hRow
      rw [show ((un + 1) % 20 + 19 - (m + 1)) % 20 = (un + 19 - m) % 20 by omega]
      revert o1 o2 o3 hne hlt
      generalize (un + 19 - m) % 20 = q
      intro o1 o2 o3 hne hlt
      refine ⟨fun i hi => ?_, fun i hi => ?_, ?_⟩
      · rw [kLay_out _ _ _ _ _ (by omega), e2, if_pos (by omega), zset_get, if_neg hne, show 12 + (12 * (20 - 1 - (m + 1)) + i) = 12 * (20 - 1 - m) + i by omega]
        exact o1 i hi
      · rw [kLay_out _ _ _ _ _ (by omega), e2, if_pos (by omega), zcpy_get, if_neg (by omega), show 12 + (12 * (20 - 1 - (m + 1)) + 6 + i) = 12 * (20 - 1 - m) + 6 + i by omega]
        exact o2 i hi
      · rw [zcpy_get, if_neg (by omega)]
        exact o3
  · rw [mRem_lt (by omega), show min (us + 1) 20 = us + 1 by omega]
    refine ⟨rfl, fun k hk => ?_⟩
    show hRow _ _ (kLay kp nw am us) _ _ _
    by_cases hk0 : k = 0
    · subst hk0
      unfold hRow
      rw [show ((un + 1) % 20 + 19 - 0) % 20 = un by omega, show us + 1 - 1 - 0 = us by omega]
      refine ⟨fun i hi => ?_, fun i hi => ?_, ?_⟩
      · rw [kLay_in _ _ _ _ _ hi, zset_get, if_pos rfl]
        have := h1 i hi
        rwa [Nat.zero_add] at this
      · rw [kLay_in6 _ _ _ _ _ hi, zcpy_get, if_pos ⟨by omega, by omega⟩, show 0 + (6 * un + i - 6 * un) = i by omega]
        exact h2 i hi
      · rw [zcpy_get, if_pos ⟨by omega, by omega⟩, show 0 + (6 * un + 4 - 6 * un) = 4 by omega]
        exact h24
    · obtain ⟨m, em⟩ : ∃ m, k = m + 1 := ⟨k - 1, by omega⟩
      subst em
      obtain ⟨o1, o2, o3⟩ := h7 m (by omega)
      have hne : (un + 19 - m) % 20 ≠ un := by omega
      have hlt : (un + 19 - m) % 20 < 20 := Nat.mod_lt _ (by decide)
      unfold hRow
      rw [show ((un + 1) % 20 + 19 - (m + 1)) % 20 = (un + 19 - m) % 20 by omega, show us + 1 - 1 - (m + 1) = us - 1 - m by omega]
      revert o1 o2 o3 hne hlt
      generalize (un + 19 - m) % 20 = q
      intro o1 o2 o3 hne hlt
      refine ⟨fun i hi => ?_, fun i hi => ?_, ?_⟩
      · rw [kLay_out _ _ _ _ _ (by omega), zset_get, if_neg hne]
        exact o1 i hi
      · rw [kLay_out _ _ _ _ _ (by omega), zcpy_get, if_neg (by omega)]
        exact o2 i hi
      · rw [zcpy_get, if_neg (by omega)]
        exact o3
theorem tX_psh {X : cX} {n28 : Int32} {nw am kp : List Int32} {u : Nat} (h : tX X n28 nw am kp u) {ps2 : Int64} {pl2 nw2 am2 : List Int32} (hp : pkR ps2 nw2 0) (ha : ∀ i, i < 6 → am2.getD i 0 = pl2.getD i 0) (h4 : 0 ≤ (pl2.getD 4 0).toInt) : tX (xPsh X ps2 pl2) n28 nw2 am2 (mRem nw am kp u).2 (mRem nw am kp u).1 := by
  obtain ⟨ps, ip, us, un, pl, ia, pp, ua⟩ := X
  obtain ⟨h1, ⟨h2, h24⟩, ⟨h3, h5, h6, h7⟩, h8⟩ := h
  dsimp only at h1 h2 h24 h3 h5 h6 h7 h8
  subst h3
  obtain ⟨q1, q2⟩ := hist_psh h1 h2 h24 h5 h6 h7
  refine ⟨hp, ⟨ha, h4⟩, ⟨q1, by show min (u + 1) 20 ≤ 20; omega, Nat.mod_lt _ (by decide), q2⟩, fun z => ?_⟩
  obtain ⟨g1, g2, g3⟩ := h8 z
  refine ⟨fun i hi => ?_, fun i hi => ?_, g3⟩
  · rw [mRem_hi h5 (by omega)]
    exact g1 i hi
  · rw [mRem_hi h5 (by omega)]
    exact g2 i hi
/-! each call that changes them -/
theorem tie_fd {V : cV} {a b c d e : Int32} (t : Nat) (n22 n23 n28 : Int32) (tb kn lo hi sv rt sn sq wy nw am kp : List Int32) (u : Nat) (ht : t ≤ 700) (h : tie V t n22 n23 n28 tb kn lo hi sv rt sn sq wy nw am kp u) : fda t = fda V.1.1 ∧ (t ≤ 680 → tie (vFd V a b c d e) (t + 20) n22 n23 n28 (mfdF a b c d e (20 - 0 + 1) 0 t tb).2.2 kn lo hi sv rt sn sq wy nw am kp u) ∧ (¬ t ≤ 680 → tie (vFd V a b c d e) t n22 n23 n28 tb kn lo hi sv rt sn sq wy nw am kp u) := by
  obtain ⟨⟨h1, h2, h3, h4, h5, h6⟩, hx⟩ := h
  subst h1
  refine ⟨rfl, fun k => ?_, fun k => ?_⟩
  · have fe := feed_e h2 k a b c d e
    rw [show vFd V a b c d e = ((V.1.1 + 20, fdF a b c d e V.1.1 V.1.2.1, V.1.2.2), V.2) from if_pos k]
    revert fe
    generalize (mfdF a b c d e (20 - 0 + 1) 0 V.1.1 tb).2.2 = Z
    generalize fdF a b c d e V.1.1 V.1.2.1 = Y
    intro fe
    exact ⟨⟨rfl, fe, h3, h4, h5, h6⟩, hx⟩
  · rw [show vFd V a b c d e = V from if_neg k]
    exact ⟨⟨rfl, h2, h3, h4, h5, h6⟩, hx⟩
theorem win_set {lo hi ll lg : List Int32} {j : Nat} {v : Int32} (hj : j ≤ 5) (h1 : lo.getD j 0 = ll.getD j 0) (h2 : hi.getD j 0 = lg.getD j 0) : aSet ll lg (nI j) v = mWin lo hi j v := by
  have q := nI_toInt (n := j) (by omega)
  unfold aSet mWin
  rw [if_pos (show 0 ≤ (nI j).toInt ∧ (nI j).toInt ≤ 5 by omega), nI_clamp (show j < 2 ^ 31 by omega), h1, h2]
theorem mSet_1 {n33 : Int32} {nw am kp lo hi hr : List Int32} {u j : Nat} {v : Int32} (hj : j ≤ 5) (h : mWin lo hi j v ≠ 0) : mSet n33 nw am kp lo hi hr u j v = (1, 0, (mRem nw am kp u).1, 0, zset 0 nw j v, (mRem nw am kp u).2, zset 0 (zset 0 hr 0 (vp_nar .boolean (0 : Int32))) 1 (vp_nar .boolean (0 : Int32))) := by
  have q6 : (6 : Int32).toInt = 6 := rfl
  have q := nI_toInt (n := j) (by omega)
  unfold mSet
  rw [if_neg (by omega), if_neg (by omega), if_pos h]
  rfl
theorem mSet_0 {n33 : Int32} {nw am kp lo hi hr : List Int32} {u j : Nat} {v : Int32} (hj : j ≤ 5) (h : ¬ mWin lo hi j v ≠ 0) : mSet n33 nw am kp lo hi hr u j v = (0, 0, u, n33, nw, kp, hr) := by
  have q6 : (6 : Int32).toInt = 6 := rfl
  have q := nI_toInt (n := j) (by omega)
  unfold mSet
  rw [if_neg (by omega), if_neg (by omega), if_neg h]
theorem pk_with {p : Int64} {nw : List Int32} {n : Nat} {v : Int32} (h : pkR p nw 0) (hn : n < 6) (hv : -64 ≤ v.toInt ∧ v.toInt ≤ 99) : pkR (jwithv p (nI n) v) (zset 0 nw n v) 0 := by
  intro i hi
  have e := h i hi
  rw [Nat.zero_add] at e
  rw [Nat.zero_add, zset_get, num_with hn hi (by omega), e]
theorem tie_set {V V2 : cV} {j v a : Int32} (x : vSet V j v a V2) (n33 : Int32) (hr : List Int32) (t : Nat) (n22 n23 n28 : Int32) (tb kn lo hi sv rt sn sq wy nw am kp : List Int32) (u : Nat) (h : tie V t n22 n23 n28 tb kn lo hi sv rt sn sq wy nw am kp u) : (∀ j9 : Nat, j = nI j9 → j9 ≤ 5 → (mSet n33 nw am kp lo hi hr u j9 v).1 = a ∧ tie V2 t n22 n23 n28 tb kn lo hi sv rt sn sq wy (mSet n33 nw am kp lo hi hr u j9 v).2.2.2.2.1 am (mSet n33 nw am kp lo hi hr u j9 v).2.2.2.2.2.1 (mSet n33 nw am kp lo hi hr u j9 v).2.2.1) ∧ ((j.toInt < 0 ∨ 5 < j.toInt) → (0 : Int32) = a ∧ tie V2 t n22 n23 n28 tb kn lo hi sv rt sn sq wy nw am kp u) := by
  obtain ⟨hA, hX⟩ := h
  have hA0 := hA
  obtain ⟨_, _, _, _, _, ⟨_, dL, dG, _⟩⟩ := hA0
  obtain ⟨ea, x⟩ := x
  refine ⟨fun j9 e1 e2 => ?_, fun hj => ?_⟩
  · subst e1
    have ew := win_set (v := v) e2 (dL j9 (by omega)) (dG j9 (by omega))
    rw [ew] at ea
    rcases x with ⟨e3, e4⟩ | ⟨e3, n, en, hn, hv, e4⟩
    · subst e4
      rw [mSet_0 e2 (fun q => q (ea.symm.trans e3))]
      exact ⟨e3.symm, hA, hX⟩
    · have e5 : n = j9 := by
        have := congrArg Int32.toInt en
        rw [nI_toInt (by omega), nI_toInt (by omega)] at this
        omega
      subst e5
      subst e4
      rw [mSet_1 e2 (fun q => by rw [q, e3] at ea; exact absurd ea (by decide))]
      exact ⟨e3.symm, hA, tX_psh hX (pk_with hX.1 hn hv) hX.2.1.1 hX.2.1.2⟩
  · have e0 : a = 0 := by
      rw [ea]
      exact if_neg (by omega)
    rcases x with ⟨e3, e4⟩ | ⟨e3, _⟩
    · subst e4
      exact ⟨e0.symm, hA, hX⟩
    · rw [e0] at e3
      exact absurd e3 (by decide)
theorem jPlo_g (lk hd ht : Int32) (p : Int64) (al : List Int32) {i : Nat} (hi : i < 6) : (jPlo lk hd ht p al).getD i 0 = jPart lk hd ht p (nI i) := by
  unfold jPlo
  simp only [zset_get]
  rcases (show i = 0 ∨ i = 1 ∨ i = 2 ∨ i = 3 ∨ i = 4 ∨ i = 5 by omega) with e | e | e | e | e | e <;> subst e
  all_goals repeat (first | rw [if_pos (by omega)] | rw [if_neg (by omega)])
  all_goals rfl
theorem mAim_at {kn qq th am : List Int32} {k i : Nat} (hi : i < 6) : (mAim kn qq k th am).2.getD i 0 = (mPla kn qq k th).getD i 0 := by
  show (zset 0 (zset 0 (zset 0 (zset 0 (zset 0 (zset 0 am 0 ((mPla kn qq k th).getD 0 0)) 1 ((mPla kn qq k th).getD 1 0)) 2 ((mPla kn qq k th).getD 2 0)) 3 ((mPla kn qq k th).getD 3 0)) 4 ((mPla kn qq k th).getD 4 0)) 5 ((mPla kn qq k th).getD 5 0)).getD i 0 = _
  generalize mPla kn qq k th = P
  simp only [zset_get]
  rcases (show i = 0 ∨ i = 1 ∨ i = 2 ∨ i = 3 ∨ i = 4 ∨ i = 5 by omega) with e | e | e | e | e | e <;> subst e
  all_goals repeat (first | rw [if_pos (by omega)] | rw [if_neg (by omega)])
theorem aim_pl {p : Int64} {qq kn th am al : List Int32} {k : Nat} {lk hd ht : Int32} (hp : pkR p qq k) (h0 : kn.getD 0 0 = lk) (h1 : kn.getD 1 0 = hd) (h2 : kn.getD 2 0 = ht) : ∀ i, i < 6 → (mAim kn qq k th am).2.getD i 0 = (jPlo lk hd ht p al).getD i 0 := fun i hi => by
  rw [mAim_at hi, jPlo_g _ _ _ _ _ hi]
  exact pla_e hp h0 h1 h2 i hi
theorem pl_pos (lk hd ht : Int32) (p : Int64) (al : List Int32) : 0 ≤ ((jPlo lk hd ht p al).getD 4 0).toInt := by
  rw [jPlo_g _ _ _ _ _ (by decide)]
  have e : jPart lk hd ht p (nI 4) = ((((jnum p 24) + (jnum p 16)) + (jnum p 8)) &&& (63 : Int32)) := rfl
  have h := r6_lt (((jnum p 24) + (jnum p 16)) + (jnum p 8))
  rw [e, r6_and, nI_toInt (by omega)]
  omega
theorem tie_aat {V V2 : cV} {s a : Int32} (x : vAat V s a V2) (th : List Int32) (t : Nat) (n22 n23 n28 : Int32) (tb kn lo hi sv rt sn sq wy nw am kp : List Int32) (u : Nat) (h : tie V t n22 n23 n28 tb kn lo hi sv rt sn sq wy nw am kp u) : (s = -1 → (mAatN nw am kp kn th u).1 = a ∧ tie V2 t n22 n23 n28 tb kn lo hi sv rt sn sq wy nw (mAatN nw am kp kn th u).2.2.2.2.1 (mAatN nw am kp kn th u).2.2.2.2.2.1 (mAatN nw am kp kn th u).2.2.1) ∧ (∀ ns w9 : Nat, kn.getD 5 0 = nI ns → ns ≤ 8 → s = nI w9 → w9 < ns → s ≠ -1 → (mAatS am nw kp kn th sq u w9).1 = a ∧ tie V2 t n22 n23 n28 tb kn lo hi sv rt sn sq wy nw (mAatS am nw kp kn th sq u w9).2.2.2.2.1 (mAatS am nw kp kn th sq u w9).2.2.2.2.2.1 (mAatS am nw kp kn th sq u w9).2.2.1) ∧ (∀ ns : Nat, kn.getD 5 0 = nI ns → ns ≤ 8 → s ≠ -1 → ¬ (0 ≤ s.toInt ∧ s.toInt < (ns : Int)) → (0 : Int32) = a ∧ tie V2 t n22 n23 n28 tb kn lo hi sv rt sn sq wy nw am kp u) := by
  obtain ⟨hA, hX⟩ := h
  have hA0 := hA
  obtain ⟨_, _, _, _, _, ⟨⟨k0, k1, k2, k3, k4, k5, k6, k7, k8⟩, dL, dG, dS, dP, dN, dQ, dW⟩⟩ := hA0
  have hns : ∀ ns : Nat, kn.getD 5 0 = nI ns → ns ≤ 8 → ns = V.1.2.2.2.2.2.1 := fun ns e1 e2 => by
    rw [k5] at e1
    have := congrArg Int32.toInt e1
    rw [nI_toInt (by omega), nI_toInt (by omega)] at this
    omega
  obtain ⟨ea, x⟩ := x
  refine ⟨fun e => ?_, fun ns w9 e1 e2 e3 e4 e5 => ?_, fun ns e1 e2 e5 e6 => ?_⟩
  · have e1 : a = 1 := by rw [ea]; exact if_pos e
    rcases x with ⟨e3, _⟩ | ⟨_, _, e4⟩ | ⟨_, e3, _⟩
    · rw [e1] at e3; exact absurd e3 (by decide)
    · subst e4
      exact ⟨e1.symm, hA, tX_psh hX hX.1 (aim_pl hX.1 k0 k1 k2) (pl_pos _ _ _ _ _)⟩
    · exact absurd e e3
  · have e6 := hns ns e1 e2
    have e7 : s.toInt = w9 := by rw [e3]; exact nI_toInt (by omega)
    have e8 : a = 1 := by
      rw [ea]
      unfold aAat
      rw [if_neg e5, if_pos ⟨by omega, by omega⟩]
    rcases x with ⟨e9, _⟩ | ⟨_, e9, _⟩ | ⟨_, _, _, e4⟩
    · rw [e8] at e9; exact absurd e9 (by decide)
    · exact absurd e9 e5
    · subst e4
      have e10 : s.toNatClampNeg = w9 := by rw [e3]; exact nI_clamp (by omega)
      rw [e10]
      exact ⟨e8.symm, hA, tX_psh hX hX.1 (aim_pl (dQ w9 (by omega)) k0 k1 k2) (pl_pos _ _ _ _ _)⟩
  · have e7 := hns ns e1 e2
    have e8 : a = 0 := by
      rw [ea]
      unfold aAat
      rw [if_neg e5, if_neg (by rw [← e7]; exact e6)]
    rcases x with ⟨_, e4⟩ | ⟨_, e9, _⟩ | ⟨e9, _⟩
    · subst e4
      exact ⟨e8.symm, hA, hX⟩
    · exact absurd e9 e5
    · rw [e8] at e9; exact absurd e9 (by decide)
theorem mAby_e (w : Int32) (v : Int64) (n33 : Int32) (nw am kp : List Int32) (u : Nat) : (cAby w v = 0 ∧ mAby n33 nw am kp u w v = (0, 0, u, n33, am, kp)) ∨ (cAby w v = 1 ∧ mAby n33 nw am kp u w v = (1, 0, (mRem nw am kp u).1, 0, zset 0 am w.toNatClampNeg v.toInt32, (mRem nw am kp u).2)) := by
  have z3 : (3 : Int32).toInt = 3 := rfl
  have z5 : (5 : Int32).toInt = 5 := rfl
  have z6 : (6 : Int32).toInt = 6 := rfl
  by_cases h0 : w.toInt < 0
  · exact Or.inl ⟨by unfold cAby; simp only [if_pos h0], by unfold mAby; simp only [zlet, if_pos h0] <;> (split <;> rfl)⟩
  · by_cases h6 : w.toInt ≤ (5 : Int32).toInt
    · have h66 : ¬ (6 : Int32).toInt ≤ w.toInt := by omega
      by_cases h3 : (3 : Int32).toInt ≤ w.toInt
      · by_cases a : (lg_cmp v (0 : Int64)).toInt < 0
        · have a2 : ¬ 0 ≤ (lg_cmp v (0 : Int64)).toInt := by omega
          exact Or.inl ⟨by unfold cAby; simp only [if_neg h0, if_pos h6, if_pos h3, if_neg h66, if_pos a, if_neg a2], by unfold mAby; simp only [zlet, if_neg h0, if_pos h6, if_pos h3, if_neg h66, if_pos a, if_neg a2] <;> (split <;> rfl)⟩
        · have a2 : 0 ≤ (lg_cmp v (0 : Int64)).toInt := by omega
          by_cases b : (lg_cmp v (63 : Int64)).toInt ≤ 0
          · have b2 : ¬ 0 < (lg_cmp v (63 : Int64)).toInt := by omega
            exact Or.inr ⟨by unfold cAby; simp only [if_neg h0, if_pos h6, if_pos h3, if_neg h66, if_neg a, if_pos a2, if_pos b, if_neg b2], by unfold mAby; simp only [zlet, if_neg h0, if_pos h6, if_pos h3, if_neg h66, if_neg a, if_pos a2, if_pos b, if_neg b2]⟩
          · have b2 : 0 < (lg_cmp v (63 : Int64)).toInt := by omega
            exact Or.inl ⟨by unfold cAby; simp only [if_neg h0, if_pos h6, if_pos h3, if_neg h66, if_neg a, if_pos a2, if_neg b, if_pos b2], by unfold mAby; simp only [zlet, if_neg h0, if_pos h6, if_pos h3, if_neg h66, if_neg a, if_pos a2, if_neg b, if_pos b2]⟩
      · by_cases a : (lg_cmp v (-1000000000 : Int64)).toInt < 0
        · have a2 : ¬ 0 ≤ (lg_cmp v (-1000000000 : Int64)).toInt := by omega
          exact Or.inl ⟨by unfold cAby; simp only [if_neg h0, if_pos h6, if_neg h3, if_neg h66, if_pos a, if_neg a2], by unfold mAby; simp only [zlet, if_neg h0, if_pos h6, if_neg h3, if_neg h66, if_pos a, if_neg a2] <;> (split <;> rfl)⟩
        · have a2 : 0 ≤ (lg_cmp v (-1000000000 : Int64)).toInt := by omega
          by_cases b : (lg_cmp v (1000000000 : Int64)).toInt ≤ 0
          · have b2 : ¬ 0 < (lg_cmp v (1000000000 : Int64)).toInt := by omega
            exact Or.inr ⟨by unfold cAby; simp only [if_neg h0, if_pos h6, if_neg h3, if_neg h66, if_neg a, if_pos a2, if_pos b, if_neg b2], by unfold mAby; simp only [zlet, if_neg h0, if_pos h6, if_neg h3, if_neg h66, if_neg a, if_pos a2, if_pos b, if_neg b2]⟩
          · have b2 : 0 < (lg_cmp v (1000000000 : Int64)).toInt := by omega
            exact Or.inl ⟨by unfold cAby; simp only [if_neg h0, if_pos h6, if_neg h3, if_neg h66, if_neg a, if_pos a2, if_neg b, if_pos b2], by unfold mAby; simp only [zlet, if_neg h0, if_pos h6, if_neg h3, if_neg h66, if_neg a, if_pos a2, if_neg b, if_pos b2]⟩
    · have h66 : (6 : Int32).toInt ≤ w.toInt := by omega
      have h3 : (3 : Int32).toInt ≤ w.toInt := by omega
      exact Or.inl ⟨by unfold cAby; simp only [if_neg h0, if_neg h6, if_pos h66, if_pos h3], by unfold mAby; simp only [zlet, if_neg h0, if_neg h6, if_pos h66, if_pos h3]⟩
theorem aby_4 {v : Int64} (h : cAby 4 v = 1) : 0 ≤ v.toInt32.toInt := by
  unfold cAby at h
  rw [if_neg (by decide), if_pos (by decide), if_pos (by decide), if_pos (by decide)] at h
  have k1 : 0 ≤ v.toInt := by
    by_cases c : (lg_cmp v (0 : Int64)).toInt < 0
    · rw [if_pos c] at h; exact absurd h (by decide)
    · have e : ¬ v < 0 := fun q => c (Int32.lt_iff_toInt_lt.mp ((lg_cmp_lt v 0).mpr q))
      rw [Int64.lt_iff_toInt_lt] at e
      have z : (0 : Int64).toInt = 0 := rfl
      omega
  have k2 : v.toInt ≤ 63 := by
    by_cases c : (lg_cmp v (0 : Int64)).toInt < 0
    · rw [if_pos c] at h; exact absurd h (by decide)
    · rw [if_neg c] at h
      by_cases d : (lg_cmp v (63 : Int64)).toInt ≤ 0
      · have e := (lg_cmp_le v 63).mp (Int32.le_iff_toInt_le.mpr d)
        rw [Int64.le_iff_toInt_le] at e
        exact e
      · rw [if_neg d] at h; exact absurd h (by decide)
  rw [Int64.toInt_toInt32, Int.bmod_eq_of_le (by omega) (by omega)]
  exact k1
theorem tie_aby {V V2 : cV} {w a : Int32} {v : Int64} (x : vAby V w v a V2) (n33 : Int32) (t : Nat) (n22 n23 n28 : Int32) (tb kn lo hi sv rt sn sq wy nw am kp : List Int32) (u : Nat) (h : tie V t n22 n23 n28 tb kn lo hi sv rt sn sq wy nw am kp u) : (mAby n33 nw am kp u w v).1 = a ∧ tie V2 t n22 n23 n28 tb kn lo hi sv rt sn sq wy nw (mAby n33 nw am kp u w v).2.2.2.2.1 (mAby n33 nw am kp u w v).2.2.2.2.2 (mAby n33 nw am kp u w v).2.2.1 := by
  obtain ⟨hA, hX⟩ := h
  obtain ⟨ea, x⟩ := x
  rcases mAby_e w v n33 nw am kp u with ⟨e1, e2⟩ | ⟨e1, e2⟩
  · rw [e2]
    rcases x with ⟨_, e4⟩ | ⟨e3, _⟩
    · subst e4
      rw [e1] at ea
      exact ⟨ea.symm, hA, hX⟩
    · rw [e1] at e3; exact absurd e3 (by decide)
  · rw [e2]
    rcases x with ⟨e3, _⟩ | ⟨_, e5, e4⟩
    · rw [e1] at e3; exact absurd e3 (by decide)
    · subst e4
      rw [e1] at ea
      refine ⟨ea.symm, hA, tX_psh hX hX.1 (fun i hi => ?_) ?_⟩
      · show (zset 0 am w.toNatClampNeg v.toInt32).getD i 0 = (zset 0 V.2.2.2.2.2.1 w.toNatClampNeg v.toInt32).getD i 0
        rw [zset_get, zset_get]
        split
        · rfl
        · exact hX.2.1.1 i hi
      · rw [zset_get]
        split
        · next e6 =>
          have e7 : w = 4 := by
            rw [nI_cl e5.1, ← e6]
            rfl
          subst e7
          exact aby_4 e1
        · exact hX.2.1.2
/-! take -/
theorem tak_e {n : Nat} {m : mS} {k : Int32} (h : (600 < n ∧ m = none) ∨ ∃ l2, m = some l2 ∧ n = l2.length ∧ l2.length ≤ 600) (hn : n ≤ 16384) : cTak n k = mTak (mNum m) k := by
  have q6 : (600 : Int32).toInt = 600 := rfl
  have qn := nI_toInt (n := n) (by omega)
  rcases h with ⟨h1, h2⟩ | ⟨l2, h1, h2, h3⟩
  · subst h2
    have q3 : (mNum none).toInt = -3 := rfl
    unfold cTak mTak
    rw [q3, qn, q6]
    by_cases c : k.toInt < 0
    · rw [if_pos c, if_pos c]
    · rw [if_neg c, if_neg c, if_pos (show (-3 : Int) ≤ k.toInt by omega)]
      split
      · rfl
      · rw [if_neg (by omega)]
  · subst h1
    have q3 : (mNum (some l2)).toInt = n := by
      show (nI l2.length).toInt = n
      rw [nI_toInt (by omega), h2]
    unfold cTak mTak
    rw [q3, qn, q6]
    by_cases c : k.toInt < 0
    · rw [if_pos c, if_pos c]
    · rw [if_neg c, if_neg c]
      split
      · rfl
      · rw [if_pos (by omega)]
/-- the solutions of AIM on both sides -/
theorem tSol {V : cV} (hI : vIn V) {t : Nat} {n22 n23 n28 : Int32} {tb kn lo hi sv rt sn sq wy nw am kp : List Int32} {u : Nat} (h : tie V t n22 n23 n28 tb kn lo hi sv rt sn sq wy nw am kp u) : (600 < (vSL V).length ∧ mSol lo hi kn am = none) ∨ ∃ l2, mSol lo hi kn am = some l2 ∧ (vSL V).length = l2.length ∧ l2.length ≤ 600 ∧ ∀ (cap : Nat) (li fo : List Int64), wHK (vSL V) cap li → wFd 4800 (mSol lo hi kn am) fo → ∀ k, k < l2.length → ∃ x : tP, tBd x ∧ li.getD k 0 = tPos x ∧ fo.getD (4800 + k) 0 = tPack x := by
  obtain ⟨hA, hX⟩ := h
  obtain ⟨_, _, _, _, _, ⟨⟨k0, k1, k2, k3, k4, k5, k6, k7, k8⟩, dL, dG, dS, dP, dN, dQ, dW⟩⟩ := hA
  obtain ⟨⟨s1, s2, s3, s4, _⟩, hlm⟩ := hI
  have S := sol_at (lo := lo) (hi := hi) (kn := kn) (tg := am) (fun j hj => ⟨dL j hj, dG j hj⟩) (by rw [k0]; exact ⟨s1, s2⟩) (by rw [k1]; exact ⟨s3, s4⟩) (by rw [hX.2.1.1 4 (by decide)]; exact hX.2.1.2) hlm hX.2.1.1
  rw [k0, k1, k2] at S
  exact S
theorem vSL_len (V : cV) : (vSL V).length ≤ 16384 := sSolL_len _ _ _ _ _ _ 64 (-32)
theorem tSol2 {V : cV} (hI : vIn V) {t : Nat} {n22 n23 n28 : Int32} {tb kn lo hi sv rt sn sq wy nw am kp : List Int32} {u : Nat} (h : tie V t n22 n23 n28 tb kn lo hi sv rt sn sq wy nw am kp u) (k : Int32) : cTak (vSL V).length k = mTak (mNum (mSol lo hi kn am)) k := by
  refine tak_e ?_ (vSL_len V)
  rcases tSol hI h with q | ⟨l2, q1, q2, q3, _⟩
  · exact Or.inl q
  · exact Or.inr ⟨l2, q1, q2, q3⟩
theorem tie_tak {V V2 : cV} {k9 a : Int32} (x : vTak V k9 a V2) (t : Nat) (n22 n23 n28 : Int32) (tb kn lo hi sv rt sn sq wy nw am kp : List Int32) (u : Nat) (h : tie V t n22 n23 n28 tb kn lo hi sv rt sn sq wy nw am kp u) : (mTak (mNum (mSol lo hi kn am)) k9 = 0 → (0 : Int32) = a ∧ tie V2 t n22 n23 n28 tb kn lo hi sv rt sn sq wy nw am kp u) ∧ (∀ fo2 : List Int64, wFd 4800 (mSol lo hi kn am) fo2 → mTak (mNum (mSol lo hi kn am)) k9 = 1 → (0 ≤ k9.toInt ∧ k9.toInt < (mNum (mSol lo hi kn am)).toInt) → (1 : Int32) = a ∧ tie V2 t n22 n23 n28 tb kn lo hi sv rt sn sq wy (mUnp (fo2.getD ((4800 : Int32) + k9).toNatClampNeg 0) 0 nw) am (mRem nw am kp u).2 (mRem nw am kp u).1) := by
  obtain ⟨hI, ea, x⟩ := x
  have e0 := tSol2 hI h k9
  refine ⟨fun e1 => ?_, fun fo2 hF e1 hk => ?_⟩
  · rw [e0, e1] at ea
    rcases x with ⟨_, e4⟩ | ⟨e3, _⟩
    · subst e4
      exact ⟨ea.symm, h⟩
    · rw [e0, e1] at e3; exact absurd e3 (by decide)
  · rw [e0, e1] at ea
    rcases x with ⟨e3, _⟩ | ⟨_, _, cap, li, hK, e4⟩
    · rw [e0, e1] at e3; exact absurd e3 (by decide)
    · subst e4
      rcases tSol hI h with ⟨_, q⟩ | ⟨l2, q1, q2, q3, q4⟩
      · rw [q] at hk
        have z : (mNum none).toInt = -3 := rfl
        omega
      · have z : (mNum (mSol lo hi kn am)).toInt = l2.length := by
          rw [q1]
          exact nI_toInt (by omega)
        obtain ⟨kk, ek, hkk⟩ : ∃ n : Nat, k9 = nI n ∧ n < l2.length := ⟨k9.toNatClampNeg, nI_cl hk.1, by show k9.toInt.toNat < _; omega⟩
        obtain ⟨y, hb, y1, y2⟩ := q4 cap li fo2 hK hF kk hkk
        subst ek
        have e5 : ((4800 : Int32) + nI kk).toNatClampNeg = 4800 + kk := by
          rw [show (4800 : Int32) = nI 4800 from rfl, nI_ad, nI_clamp (by omega)]
        have e6 : (nI kk).toNatClampNeg = kk := nI_clamp (by omega)
        rw [e5, y2, e6, y1]
        obtain ⟨hA, hX⟩ := h
        refine ⟨ea.symm, hA, tX_psh hX (fun i hi => ?_) hX.2.1.1 hX.2.1.2⟩
        rw [mUnp_g hi, tPack_j hb hi, tPos_j hb hi]
theorem tie_und {V V2 : cV} {a : Int32} (x : vUnd V a V2) (t : Nat) (n22 n23 n28 : Int32) (tb kn lo hi sv rt sn sq wy nw am kp : List Int32) (u : Nat) (h : tie V t n22 n23 n28 tb kn lo hi sv rt sn sq wy nw am kp u) : (1 ≤ u → nI (u - 1) = a ∧ tie V2 t n22 n23 n28 tb kn lo hi sv rt sn sq wy (kNow nw kp (u - 1)) (kAim am kp (u - 1)) kp (u - 1)) ∧ (¬ 1 ≤ u → (-1 : Int32) = a ∧ tie V2 t n22 n23 n28 tb kn lo hi sv rt sn sq wy nw am kp u) := by
  obtain ⟨hA, hX⟩ := h
  obtain ⟨V1, ps, ip, us, un, pl, ia, pp, ua⟩ := V
  have hX0 := hX
  obtain ⟨h1, ⟨h2, h24⟩, ⟨h3, h5, h6, h7⟩, h8⟩ := hX0
  dsimp only at h1 h2 h24 h3 h5 h6 h7 h8
  subst h3
  refine ⟨fun e1 => ?_, fun e1 => ?_⟩
  · rcases x with ⟨e2, _⟩ | ⟨_, e3, e4⟩
    · exact absurd (show u = 0 from e2) (by omega)
    · subst e4
      refine ⟨e3.symm, hA, ?_⟩
      obtain ⟨o1, o2, o3⟩ := h7 0 (by omega)
      rw [show (un + 19 - 0) % 20 = (un + 19) % 20 from rfl, show u - 1 - 0 = u - 1 from rfl] at *
      refine ⟨fun i hi => ?_, ⟨fun i hi => ?_, ?_⟩, ⟨rfl, by show u - 1 ≤ 20; omega, Nat.mod_lt _ (by decide), fun k hk => ?_⟩, h8⟩
      · rw [Nat.zero_add, kNow_at _ _ _ _ hi]
        exact o1 i hi
      · show (kAim am kp (u - 1)).getD i 0 = (zcpy 0 ua pl (6 * ((un + 19) % 20)) 0 6).getD i 0
        rw [kAim_at _ _ _ _ hi, zcpy_get, if_pos ⟨by omega, by omega⟩, Nat.sub_zero]
        exact o2 i hi
      · show 0 ≤ ((zcpy 0 ua pl (6 * ((un + 19) % 20)) 0 6).getD 4 0).toInt
        rw [zcpy_get, if_pos ⟨by omega, by omega⟩]
        exact o3
      · have hk2 : k < u - 1 := hk
        have o := h7 (k + 1) (by omega)
        show hRow pp ua kp ((un + 19) % 20) (u - 1) k
        unfold hRow at o ⊢
        rw [show ((un + 19) % 20 + 19 - k) % 20 = (un + 19 - (k + 1)) % 20 by omega, show u - 1 - 1 - k = u - 1 - (k + 1) by omega]
        exact o
  · rcases x with ⟨_, e3, e4⟩ | ⟨e2, _⟩
    · subst e4
      exact ⟨e3.symm, hA, hX⟩
    · exact absurd (show u ≠ 0 from e2) (by omega)
theorem tie_kp {V : cV} (t : Nat) (n22 n23 n28 : Int32) (tb kn lo hi sv rt sn sq wy nw am kp : List Int32) (u : Nat) (h : tie V t n22 n23 n28 tb kn lo hi sv rt sn sq wy nw am kp u) : tie (vKp V) t n22 n23 1 tb kn lo hi sv rt sn sq wy nw am (kLay kp nw am 20) u := by
  obtain ⟨⟨h1, h2, h3, h4, h5, h6⟩, hX⟩ := h
  obtain ⟨V1, ps, ip, us, un, pl, ia, pp, ua⟩ := V
  obtain ⟨g1, ⟨g2, g24⟩, ⟨g3, g5, g6, g7⟩, g8⟩ := hX
  dsimp only at g1 g2 g24 g3 g5 g6 g7 g8
  refine ⟨⟨h1, h2, h3, h4, rfl, h6⟩, g1, ⟨g2, g24⟩, ⟨g3, g5, g6, fun k hk => ?_⟩, fun _ => ⟨fun i hi => ?_, fun i hi => ?_, ?_⟩⟩
  · have hk2 : k < us := hk
    obtain ⟨o1, o2, o3⟩ := g7 k hk
    refine ⟨fun i hi => ?_, fun i hi => ?_, o3⟩
    · show (kLay kp nw am 20).getD (12 * (us - 1 - k) + i) 0 = _
      rw [kLay_out _ _ _ _ _ (by omega)]
      exact o1 i hi
    · show (kLay kp nw am 20).getD (12 * (us - 1 - k) + 6 + i) 0 = _
      rw [kLay_out _ _ _ _ _ (by omega)]
      exact o2 i hi
  · rw [show 240 + i = 12 * 20 + i by omega, kLay_in _ _ _ _ _ hi]
    have e := g1 i hi
    rw [Nat.zero_add] at e
    exact e
  · show (kLay kp nw am 20).getD (246 + i) 0 = (zcpy 0 pl ia 0 0 6).getD i 0
    rw [show 246 + i = 12 * 20 + 6 + i by omega, kLay_in6 _ _ _ _ _ hi, zcpy_get, if_pos ⟨by omega, by omega⟩, show 0 + (i - 0) = i by omega]
    exact g2 i hi
  · show 0 ≤ ((zcpy 0 pl ia 0 0 6).getD 4 0).toInt
    rw [zcpy_get, if_pos ⟨by omega, by omega⟩]
    exact g24
theorem tie_bck {V V2 : cV} {a : Int32} (x : vBck V a V2) (t : Nat) (n22 n23 n28 : Int32) (tb kn lo hi sv rt sn sq wy nw am kp : List Int32) (u : Nat) (h : tie V t n22 n23 n28 tb kn lo hi sv rt sn sq wy nw am kp u) : (n28 = 0 → (0 : Int32) = a ∧ tie V2 t n22 n23 n28 tb kn lo hi sv rt sn sq wy nw am kp u) ∧ (n28 ≠ 0 → (1 : Int32) = a ∧ tie V2 t n22 n23 n28 tb kn lo hi sv rt sn sq wy (kNow nw kp 20) (kAim am kp 20) kp 0) := by
  obtain ⟨hA, hX⟩ := h
  have hA0 := hA
  obtain ⟨h1, h2, h3, h4, h5, h6⟩ := hA0
  obtain ⟨V1, ps, ip, us, un, pl, ia, pp, ua⟩ := V
  have hX0 := hX
  obtain ⟨g1, ⟨g2, g24⟩, ⟨g3, g5, g6, g7⟩, g8⟩ := hX0
  dsimp only at g1 g2 g24 g3 g5 g6 g7 g8 h5
  refine ⟨fun e => ?_, fun e => ?_⟩
  · rcases x with ⟨_, e2, e3⟩ | ⟨e2, _⟩
    · subst e3
      exact ⟨e2.symm, hA, hX⟩
    · exact absurd (h5.symm.trans e) e2
  · rcases x with ⟨e2, _⟩ | ⟨_, e2, e3⟩
    · exact absurd (h5.trans e2) e
    · subst e3
      obtain ⟨o1, o2, o3⟩ := g8 e
      refine ⟨e2.symm, hA, fun i hi => ?_, ⟨fun i hi => ?_, ?_⟩, ⟨rfl, Nat.zero_le 20, Nat.zero_lt_succ 19, fun k hk => absurd hk (Nat.not_lt_zero _)⟩, g8⟩
      · rw [Nat.zero_add, kNow_at _ _ _ _ hi]
        exact o1 i hi
      · show (kAim am kp 20).getD i 0 = (zcpy 0 ia pl 0 0 6).getD i 0
        rw [kAim_at _ _ _ _ hi, zcpy_get, if_pos ⟨by omega, by omega⟩, show 0 + (i - 0) = i by omega, show 12 * 20 + 6 + i = 246 + i by omega]
        exact o2 i hi
      · show 0 ≤ ((zcpy 0 ia pl 0 0 6).getD 4 0).toInt
        rw [zcpy_get, if_pos ⟨by omega, by omega⟩]
        exact o3
theorem mBeg_nv {kn rt nw am th hr : List Int32} {i : Nat} (hi : i < 6) : ((mBeg kn rt nw am th hr).2.2.2.1).getD i 0 = rt.getD i 0 := by
  show (zset 0 (zset 0 (zset 0 (zset 0 (zset 0 (zset 0 nw 0 (rt.getD 0 0)) 1 (rt.getD 1 0)) 2 (rt.getD 2 0)) 3 (rt.getD 3 0)) 4 (rt.getD 4 0)) 5 (rt.getD 5 0)).getD i 0 = _
  simp only [zset_get]
  rcases (show i = 0 ∨ i = 1 ∨ i = 2 ∨ i = 3 ∨ i = 4 ∨ i = 5 by omega) with e | e | e | e | e | e <;> subst e
  all_goals repeat (first | rw [if_pos (by omega)] | rw [if_neg (by omega)])
theorem mBeg_am (kn rt nw am th hr : List Int32) : (mBeg kn rt nw am th hr).2.2.2.2.2.1 = (mAim kn (mBeg kn rt nw am th hr).2.2.2.1 0 th am).2 := rfl
theorem tX_beg {V : cV} {X : cX} {rt : Int64} {lk hd ht : Int32} {kn r3 nw am th hr kp : List Int32} {B9 : Int32 × Int32 × Int32 × List Int32 × List Int32 × List Int32 × List Int32} (hB : mbH kn r3 nw am th hr B9) (h0 : kn.getD 0 0 = lk) (h1 : kn.getD 1 0 = hd) (h2 : kn.getD 2 0 = ht) (hp : pkR rt r3 0) : tX (rt, X.2.1, 0, 0, jPlo lk hd ht rt X.2.2.2.2.1, X.2.2.2.2.2) 0 B9.2.2.2.1 B9.2.2.2.2.2.1 kp 0 := by
  unfold mbH at hB
  subst hB
  have hq : pkR rt (mBeg kn r3 nw am th hr).2.2.2.1 0 := fun i hi => by
    rw [Nat.zero_add, mBeg_nv hi]
    have e := hp i hi
    rw [Nat.zero_add] at e
    exact e
  refine ⟨hq, ⟨fun i hi => ?_, pl_pos _ _ _ _ _⟩, ⟨rfl, Nat.zero_le 20, Nat.zero_lt_succ 19, fun k hk => absurd hk (Nat.not_lt_zero _)⟩, fun z => absurd rfl z⟩
  rw [mBeg_am]
  exact aim_pl hq h0 h1 h2 i hi
theorem aR_fr {lk hd ht bl sd : Int32} {rt : Int64} {ll lg sv : List Int32} {sp : Nat} {nm : List Int32} {po : List Int64} {so : Nat} {wy kn lo hi s3 r3 sn sq w3 kn2 lo2 hi2 s32 r32 sn2 sq2 w32 : List Int32} (h : aR lk hd ht bl sd rt ll lg sv sp nm po so wy kn lo hi s3 r3 sn sq w3) (z : wFz kn lo hi s3 sq w3 kn2 lo2 hi2 s32 sq2 w32) (zr : wFh 6 r3 r32) (zs : wFh 8 sn sn2) : aR lk hd ht bl sd rt ll lg sv sp nm po so wy kn2 lo2 hi2 s32 r32 sn2 sq2 w32 := by
  obtain ⟨⟨k1, k2, k3, k4, k5, k6, k7, k8, k9⟩, dL, dG, dS, dP, dN, dQ, dW⟩ := h
  obtain ⟨zk, zl, zh, zv, zq, zw⟩ := z
  refine ⟨⟨by rw [zk _ (by decide)]; exact k1, by rw [zk _ (by decide)]; exact k2, by rw [zk _ (by decide)]; exact k3, by rw [zk _ (by decide)]; exact k4, by rw [zk _ (by decide)]; exact k5, by rw [zk _ (by decide)]; exact k6, by rw [zk _ (by decide)]; exact k7, k8, k9⟩, fun j hj => by rw [zl _ hj]; exact dL j hj, fun j hj => by rw [zh _ hj]; exact dG j hj, fun j hj => by rw [zv _ hj]; exact dS j hj, fun i hi => ?_, fun k hk => by rw [zs _ (by omega)]; exact dN k hk, fun k hk i hi => ?_, fun i hi => by rw [zw _ (by omega)]; exact dW i hi⟩
  · rw [Nat.zero_add, zr _ hi]
    have := dP i hi
    rwa [Nat.zero_add] at this
  · rw [zq _ (by omega)]; exact dQ k hk i hi
theorem tie_tx {V V2 : cV} {n a : Int32} (x : vTx V n a V2) (t : Nat) (n22 n23 n28 : Int32) (tb kn lo hi sv rt sn sq wy nw am kp : List Int32) (u : Nat) (h : tie V t n22 n23 n28 tb kn lo hi sv rt sn sq wy nw am kp u) : rTx (tie V2) n a t n22 n23 n28 tb kn lo hi sv rt sn sq wy nw am kp u := by
  obtain ⟨⟨h1, h2, h3, h4, h5, h6⟩, hX⟩ := h
  subst h1
  rcases x with ⟨x1, x2, x3⟩ | ⟨ln, x1, x2, x3, kd, sta, va, ll9, lg9, sv9, nm9, wy9, po9, T, xT, x4⟩
  · subst x2 x3
    refine ⟨fun _ => ⟨rfl, ⟨rfl, h2, h3, h4, h5, h6⟩, hX⟩, fun sz e1 e2 e3 => ?_⟩
    exfalso
    rw [e1, nI_toInt (by omega)] at x1
    omega
  · subst x1
    have qn := nI_toInt (n := ln) (by omega)
    refine ⟨fun k => absurd ⟨by omega, by omega⟩ k, fun sz e1 e2 e3 va2 fp it hl hs sm T9 U9 y1 y2 => ?_⟩
    have e4 : ln = sz := by
      have := congrArg Int32.toInt e1
      rw [qn, nI_toInt (by omega)] at this
      omega
    subst e4
    unfold txH at xT
    unfold mtH at y1
    unfold muH at y2
    have E := text_e h2 (by omega : ln ≤ 700) kd sta va va2 fp ll9 lg9 sv9 nm9 wy9 po9 kn lo hi sv rt sn sq wy it hl hs
    have fr := rtx_fr (tb := tb) (sz := ln) (va := va2) (fp := fp) (kn := kn) (lo := lo) (hi := hi) (sv := sv) (rt := rt) (sn := sn) (sq := sq) (wy := wy) (it := it) (hl := hl) (hs := hs)
    rw [← xT, ← y1] at E
    rw [← y1] at fr
    clear xT y1
    rcases E with ⟨l, n2, k2, s2, v2, T2, lk, hd, ht, bl, sd, rt2, ll, lg, sv2, sp, nm, po, so, wy2, f2, a2, p2, o2, w2, z2, kn2, lo2, hi2, s3, r3, sn2, sq2, w3, it2, hl2, hs2, c1, c2, hl9, D⟩ | ⟨f, P, f0, c1, c2, c3, c4, c5, c6⟩
    · subst c1 c2
      rcases x4 with ⟨x5, _⟩ | ⟨x5, x6, x7⟩
      · exact absurd rfl x5
      · subst x6 x7
        refine ⟨fun k => absurd rfl k, fun _ => ⟨rfl, fun th hr B9 hB => ?_⟩⟩
        subst y2
        have D2 := aR_tk sm D
        refine ⟨⟨rfl, h2, rfl, rfl, rfl, D2⟩, ?_⟩
        exact tX_beg (V := V) hB D2.1.1 D2.1.2.1 D2.1.2.2.1 D2.2.2.2.2.1
    · rcases x4 with ⟨x5, x6, x7⟩ | ⟨x5, _⟩
      · subst x7
        refine ⟨fun k z => ⟨by rw [x6, c2], ⟨rfl, h2, by rw [c5]; exact c3.symm, by rw [c6]; exact c4.symm, h5, aR_fr h6 z fr.1 fr.2⟩, hX⟩, fun k => ?_⟩
        rw [c5] at k
        exact absurd k f0
      · rw [c1] at x5
        exact absurd x5 (by decide)
