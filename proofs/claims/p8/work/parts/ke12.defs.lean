/-! What both readers have read, and what a line leaves. -/
theorem vpn1 : vp_nar .boolean (1 : Int32) = 1 := by decide
noncomputable def gK (lk hd ht bl sd : Int32) (sp so : Nat) (kn : List Int32) : Prop := kn.getD 7 0 = lk ∧ kn.getD 8 0 = hd ∧ kn.getD 9 0 = ht ∧ kn.getD 10 0 = bl ∧ kn.getD 11 0 = sd ∧ kn.getD 12 0 = nI sp ∧ kn.getD 13 0 = nI so ∧ sp ≤ 8 ∧ so ≤ 10
noncomputable def gL (a b : List Int32) : Prop := ∀ j, j < 6 → b.getD (6 + j) 0 = a.getD j 0
noncomputable def gN (sp : Nat) (nm sn : List Int32) : Prop := ∀ k, k < sp → sn.getD (8 + k) 0 = nm.getD k 0
noncomputable def gQ (sp : Nat) (po : List Int64) (sq : List Int32) : Prop := ∀ k, k < sp → pkR (po.getD k 0) sq (6 * (8 + k))
noncomputable def gW (so : Nat) (wy w3 : List Int32) : Prop := ∀ i, i < so → w3.getD (10 + i) 0 = wy.getD i 0
/-- the reference's word of the class's -/
noncomputable def wTn (k : Nat) : Nat := [0, 1, 2, 5, 6, 7].getD k 0
noncomputable def gT (T : Nat) (it hl hs : List Int32) : Prop := T < 2 ^ 22 ∧ (∀ k, k < 6 → (T.testBit k = false ↔ it.getD (wTn k) 0 = 0)) ∧ (∀ j, j < 6 → (T.testBit (10 + j) = false ↔ hl.getD j 0 = 0)) ∧ (∀ j, j < 6 → (T.testBit (16 + j) = false ↔ hs.getD j 0 = 0))
noncomputable def dR (T : Nat) (lk hd ht bl sd : Int32) (rt : Int64) (ll lg sv : List Int32) (sp : Nat) (nm : List Int32) (po : List Int64) (so : Nat) (wy : List Int32) (kn lo hi s3 r3 sn sq w3 it hl hs : List Int32) : Prop := gK lk hd ht bl sd sp so kn ∧ gL ll lo ∧ gL lg hi ∧ gL sv s3 ∧ pkR rt r3 6 ∧ gN sp nm sn ∧ gQ sp po sq ∧ gW so wy w3 ∧ gT T it hl hs
theorem gL_set {a b : List Int32} (h : gL a b) (i : Nat) (x : Int32) : gL (zset 0 a i x) (zset 0 b (6 + i) x) := by
  intro j hj
  rw [zset_get, zset_get]
  by_cases e : j = i
  · rw [if_pos (by omega), if_pos e]
  · rw [if_neg (by omega), if_neg e]; exact h j hj
theorem gK_7 {lk hd ht bl sd x : Int32} {sp so : Nat} {kn : List Int32} (h : gK lk hd ht bl sd sp so kn) : gK x hd ht bl sd sp so (zset 0 kn 7 x) := by
  obtain ⟨h1, h2, h3, h4, h5, h6, h7, h8, h9⟩ := h
  refine ⟨?_, ?_, ?_, ?_, ?_, ?_, ?_, h8, h9⟩ <;> rw [zset_get] <;> first | exact if_pos rfl | (rw [if_neg (by decide)]; assumption)
theorem gK_8 {lk hd ht bl sd x : Int32} {sp so : Nat} {kn : List Int32} (h : gK lk hd ht bl sd sp so kn) : gK lk x ht bl sd sp so (zset 0 kn 8 x) := by
  obtain ⟨h1, h2, h3, h4, h5, h6, h7, h8, h9⟩ := h
  refine ⟨?_, ?_, ?_, ?_, ?_, ?_, ?_, h8, h9⟩ <;> rw [zset_get] <;> first | exact if_pos rfl | (rw [if_neg (by decide)]; assumption)
theorem gK_9 {lk hd ht bl sd x : Int32} {sp so : Nat} {kn : List Int32} (h : gK lk hd ht bl sd sp so kn) : gK lk hd x bl sd sp so (zset 0 kn 9 x) := by
  obtain ⟨h1, h2, h3, h4, h5, h6, h7, h8, h9⟩ := h
  refine ⟨?_, ?_, ?_, ?_, ?_, ?_, ?_, h8, h9⟩ <;> rw [zset_get] <;> first | exact if_pos rfl | (rw [if_neg (by decide)]; assumption)
theorem gK_10 {lk hd ht bl sd x : Int32} {sp so : Nat} {kn : List Int32} (h : gK lk hd ht bl sd sp so kn) : gK lk hd ht x sd sp so (zset 0 kn 10 x) := by
  obtain ⟨h1, h2, h3, h4, h5, h6, h7, h8, h9⟩ := h
  refine ⟨?_, ?_, ?_, ?_, ?_, ?_, ?_, h8, h9⟩ <;> rw [zset_get] <;> first | exact if_pos rfl | (rw [if_neg (by decide)]; assumption)
theorem gK_11 {lk hd ht bl sd x : Int32} {sp so : Nat} {kn : List Int32} (h : gK lk hd ht bl sd sp so kn) : gK lk hd ht bl x sp so (zset 0 kn 11 x) := by
  obtain ⟨h1, h2, h3, h4, h5, h6, h7, h8, h9⟩ := h
  refine ⟨?_, ?_, ?_, ?_, ?_, ?_, ?_, h8, h9⟩ <;> rw [zset_get] <;> first | exact if_pos rfl | (rw [if_neg (by decide)]; assumption)
theorem gK_12 {lk hd ht bl sd : Int32} {sp so : Nat} {kn : List Int32} (h : gK lk hd ht bl sd sp so kn) (hs : sp < 8) : gK lk hd ht bl sd (sp + 1) so (zset 0 kn 12 (nI (sp + 1))) := by
  obtain ⟨h1, h2, h3, h4, h5, h6, h7, h8, h9⟩ := h
  refine ⟨?_, ?_, ?_, ?_, ?_, ?_, ?_, hs, h9⟩ <;> rw [zset_get] <;> first | exact if_pos rfl | (rw [if_neg (by decide)]; assumption)
theorem gK_13 {lk hd ht bl sd : Int32} {sp so : Nat} {kn : List Int32} (h : gK lk hd ht bl sd sp so kn) (hs : so < 10) : gK lk hd ht bl sd sp (so + 1) (zset 0 kn 13 (nI (so + 1))) := by
  obtain ⟨h1, h2, h3, h4, h5, h6, h7, h8, h9⟩ := h
  refine ⟨?_, ?_, ?_, ?_, ?_, ?_, ?_, h8, hs⟩ <;> rw [zset_get] <;> first | exact if_pos rfl | (rw [if_neg (by decide)]; assumption)
theorem gT_it {T : Nat} {it hl hs : List Int32} (h : gT T it hl hs) {k : Nat} (hk : k < 6) : gT (T ||| 2 ^ k) (zset 0 it (wTn k) 1) hl hs := by
  obtain ⟨a, b, c, d⟩ := h
  refine ⟨tl_lt a (by omega), fun i hi => ?_, fun j hj => ?_, fun j hj => ?_⟩
  · rw [tl_bit, zset_get]
    by_cases e : k = i
    · subst e
      rw [if_pos rfl, decide_eq_true rfl, Bool.or_true]
      exact ⟨fun z => absurd z (by decide), fun z => absurd z (by decide)⟩
    · have inj : ∀ i, i < 6 → ∀ k, k < 6 → wTn i = wTn k → k = i := by decide
      rw [decide_eq_false e, Bool.or_false, if_neg (fun z => e (inj i hi k hk z))]
      exact b i hi
  · rw [tl_bit, decide_eq_false (by omega), Bool.or_false]; exact c j hj
  · rw [tl_bit, decide_eq_false (by omega), Bool.or_false]; exact d j hj
theorem gT_hl {T : Nat} {it hl hs : List Int32} (h : gT T it hl hs) {k : Nat} (hk : k < 6) : gT (T ||| 2 ^ (10 + k)) it (zset 0 hl k 1) hs := by
  obtain ⟨a, b, c, d⟩ := h
  refine ⟨tl_lt a (by omega), fun i hi => ?_, fun j hj => ?_, fun j hj => ?_⟩
  · rw [tl_bit, decide_eq_false (by omega), Bool.or_false]; exact b i hi
  · rw [tl_bit, zset_get]
    by_cases e : j = k
    · subst e
      rw [if_pos rfl, decide_eq_true rfl, Bool.or_true]
      exact ⟨fun z => absurd z (by decide), fun z => absurd z (by decide)⟩
    · rw [decide_eq_false (by omega), Bool.or_false, if_neg e]
      exact c j hj
  · rw [tl_bit, decide_eq_false (by omega), Bool.or_false]; exact d j hj
theorem gT_hs {T : Nat} {it hl hs : List Int32} (h : gT T it hl hs) {k : Nat} (hk : k < 6) : gT (T ||| 2 ^ (16 + k)) it hl (zset 0 hs k 1) := by
  obtain ⟨a, b, c, d⟩ := h
  refine ⟨tl_lt a (by omega), fun i hi => ?_, fun j hj => ?_, fun j hj => ?_⟩
  · rw [tl_bit, decide_eq_false (by omega), Bool.or_false]; exact b i hi
  · rw [tl_bit, decide_eq_false (by omega), Bool.or_false]; exact c j hj
  · rw [tl_bit, zset_get]
    by_cases e : j = k
    · subst e
      rw [if_pos rfl, decide_eq_true rfl, Bool.or_true]
      exact ⟨fun z => absurd z (by decide), fun z => absurd z (by decide)⟩
    · rw [decide_eq_false (by omega), Bool.or_false, if_neg e]
      exact d j hj
/-- how a line ends, on both sides -/
noncomputable def mFin (tb : List Int32) (ln at9 pl : Nat) (so va ft fp : Int32) : Int32 × Int32 × Nat × Nat × Int32 × Int32 := if ft ≠ 0 then (ft, fp, mGo tb ln at9 pl so va ft) else if so = 4 then (ft, fp, mGo tb ln at9 pl so va ft) else ((mWro pl ft fp 1).1, (mWro pl ft fp 1).2, mGo tb ln at9 pl so va (mWro pl ft fp 1).1)
theorem fin_lock {tb : List Int32} {ln at9 pl : Nat} {so va ft fp : Int32} (h : ft ≠ 0) : mFin tb ln at9 pl so va ft fp = (ft, fp, at9, pl, so, va) := by
  unfold mFin; rw [if_pos h, go_lock h]
theorem fin_4 {tb : List Int32} {ln at9 pl : Nat} {va fp : Int32} : mFin tb ln at9 pl 4 va 0 fp = (0, fp, mTok tb ln at9 va) := by
  unfold mFin; rw [if_neg (fun h => h rfl), if_pos rfl, go_0]
theorem fin_n {tb : List Int32} {ln at9 pl : Nat} {so va fp : Int32} (h : so ≠ 4) : mFin tb ln at9 pl so va 0 fp = (1, nI pl, at9, pl, so, va) := by
  unfold mFin; rw [if_neg (fun h => h rfl), if_neg h, wro_0, go_lock (show (1 : Int32) ≠ 0 by decide)]
theorem onc_0 {tb : List Int32} {ln at9 pl w : Nat} {so va fp : Int32} {it : List Int32} (hw : w < 10) (h : it.getD w 0 = 0) : mOnc tb ln at9 pl so va 0 fp w it = (0, fp, (mTok tb ln at9 va).1, (mTok tb ln at9 va).2.1, (mTok tb ln at9 va).2.2.1, (mTok tb ln at9 va).2.2.2, zset 0 it w 1) := by
  unfold mOnc
  rw [nI_clamp (by omega), if_pos h, vpn1]
  simp only [zlet, go_0]
theorem onc_1 {tb : List Int32} {ln at9 pl w : Nat} {so va fp : Int32} {it : List Int32} (hw : w < 10) (h : it.getD w 0 ≠ 0) : mOnc tb ln at9 pl so va 0 fp w it = (3, nI pl, at9, pl, so, va, zset 0 it w 1) := by
  unfold mOnc
  rw [nI_clamp (by omega), if_neg h, vpn1]
  simp only [zlet, wro_0, go_lock (show (3 : Int32) ≠ 0 by decide)]
theorem nml_lock {tb : List Int32} {ln at9 pl : Nat} {so va ft fp lo hi : Int32} (h : ft ≠ 0) : mNml tb ln at9 pl so va ft fp lo hi = (lo, ft, fp, at9, pl, so, va) := by
  simp only [mNml, zlet, at_lock h, go_lock h]
