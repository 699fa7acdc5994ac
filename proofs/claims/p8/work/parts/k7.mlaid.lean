/-! The reference: a route is laid as a whole. -/
/-- what a text has told -/
noncomputable def mFa (wn : Nat) (kn lo hi sv sq wy : List Int32) : Prop := kn.getD 6 0 = nI wn ∧ wn ≤ 10 ∧ (∃ ns, kn.getD 5 0 = nI ns ∧ ns ≤ 8 ∧ (∀ i, i < wn → ∃ w, wy.getD i 0 = nI w ∧ w < ns) ∧ ∀ k, k < ns → wPL sq (6 * k) 6) ∧ (1 ≤ (kn.getD 0 0).toInt ∧ (kn.getD 0 0).toInt ≤ 99 ∧ 1 ≤ (kn.getD 1 0).toInt ∧ (kn.getD 1 0).toInt ≤ 99 ∧ 1 ≤ (kn.getD 2 0).toInt ∧ (kn.getD 2 0).toInt ≤ 99 ∧ 0 ≤ (kn.getD 3 0).toInt ∧ (kn.getD 3 0).toInt ≤ 9 ∧ 0 ≤ (kn.getD 4 0).toInt ∧ (kn.getD 4 0).toInt ≤ 99999) ∧ wLm lo hi ∧ ∀ i, i < 6 → 1 ≤ (sv.getD i 0).toInt ∧ (sv.getD i 0).toInt ≤ 32
noncomputable def mTx (h : zH) (wn : Nat) (kn lo hi sv sq wy : List Int32) : Prop := zat h 166 = some (.inl (0, 14, kn)) ∧ zat h 168 = some (.inl (0, 12, lo)) ∧ zat h 170 = some (.inl (0, 12, hi)) ∧ zat h 172 = some (.inl (0, 12, sv)) ∧ zat h 178 = some (.inl (0, 96, sq)) ∧ zat h 180 = some (.inl (0, 20, wy)) ∧ mFa wn kn lo hi sv sq wy
theorem mTx_fr {h h2 : zH} {wn : Nat} {kn lo hi sv sq wy : List Int32} {S : List Nat} (k : mTx h wn kn lo hi sv sq wy) (f : wFr S h h2) (hS : 166 ∉ S ∧ 168 ∉ S ∧ 170 ∉ S ∧ 172 ∉ S ∧ 178 ∉ S ∧ 180 ∉ S) : mTx h2 wn kn lo hi sv sq wy := by
  obtain ⟨a, b, c, d, e, g, m⟩ := k
  exact ⟨wFr_at f hS.1 a, wFr_at f hS.2.1 b, wFr_at f hS.2.2.1 c, wFr_at f hS.2.2.2.1 d, wFr_at f hS.2.2.2.2.1 e, wFr_at f hS.2.2.2.2.2 g, m⟩
/-- the object, what is found, what the search writes on -/
noncomputable def mSl (h : zH) (n0 n2 n14 n15 n16 n17 n18 n19 n20 n21 n22 n23 n27 n28 n32 n33 n39 n52 : Int32) (fo : List Int64) (sm : List Int32) : Prop := ∃ (n34 n35 : Int32) (on pa pb th sg : List Int32), zat h 162 = some (.inr (.inr (.inr (10, mO n0 n2 n14 n15 n16 n17 n18 n19 n20 n21 n22 n23 n27 n28 n32 n33 n34 n35 n39 n52)))) ∧ zat h 196 = some (.inr (.inl (6000, fo))) ∧ zat h 204 = some (.inl (0, 6, on)) ∧ zat h 200 = some (.inl (0, 4096, pa)) ∧ zat h 202 = some (.inl (0, 4096, pb)) ∧ zat h 194 = some (.inl (0, 6, th)) ∧ zat h 222 = some (.inl (0, 6, sg)) ∧ zat h 198 = some (.inl (0, 8, sm))
theorem mCn_c {no no2 m v : Int32} {i : Nat} (h : mCn no no2 m v) (h0 : 0 ≤ no.toInt ∧ no.toInt ≤ i) (hi : i < 1000) : (m = v ∧ no2.toInt = no.toInt + 1) ∨ (m ≠ v ∧ no2.toInt = no.toInt) := by
  have z1 : (1 : Int32).toInt = 1 := rfl
  have z0 : (0 : Int32).toInt = 0 := rfl
  rcases h with ⟨a, b⟩ | ⟨a, b⟩
  · have e : (no + (1 : Int32)).toInt = no.toInt + (1 : Int32).toInt := e_add (by omega) (by omega)
    exact Or.inl ⟨a, by rw [b]; omega⟩
  · have e : (no + (0 : Int32)).toInt = no.toInt + (0 : Int32).toInt := e_add (by omega) (by omega)
    exact Or.inr ⟨a, by rw [b]; omega⟩
noncomputable def mWf (wy : List Int32) (i : Nat) : Nat := (wy.getD i 0).toNatClampNeg
theorem mWf_e {wn : Nat} {kn lo hi sv sq wy : List Int32} (k : mFa wn kn lo hi sv sq wy) {i : Nat} (hi2 : i < wn) : wy.getD i 0 = nI (mWf wy i) ∧ mWf wy i < 8 := by
  obtain ⟨_, _, ⟨ns, _, h8, hw, _⟩, _⟩ := k
  obtain ⟨w, a, b⟩ := hw i hi2
  have e : mWf wy i = w := by unfold mWf; rw [a]; exact nI_clamp (by omega)
  rw [e]
  exact ⟨a, by omega⟩
/-- the first loop: each spot of the way is solved; how many have none, too many -/
theorem m_lr1 {wn : Nat} {kn lo hi sv sq wy : List Int32} {r9 : Int32} {n0 n2 n14 n15 n16 n17 n18 n19 n20 n21 n22 n23 n27 n28 n32 n33 n39 n52 : Int32} {dc ds : Nat} {Q : zR → Prop} {am9 : mS} : ∀ (d i : Nat) (no tm : Int32) (fo : List Int64) (sm : List Int32) (h : zH), i + d = wn → mTx h wn kn lo hi sv sq wy → mSl h n0 n2 n14 n15 n16 n17 n18 n19 n20 n21 n22 n23 n27 n28 n32 n33 n39 n52 fo sm → (∀ w, w < 8 → mSP fo sm w) → wFd 4800 am9 fo → 0 ≤ no.toInt ∧ no.toInt ≤ i → 0 ≤ tm.toInt ∧ tm.toInt ≤ i → (no.toInt = 0 → tm.toInt = 0 → ∀ q, q < i → ∃ m, m ≤ 600 ∧ sm.getD (mWf wy q) 0 = nI m) → (∀ (h2 : zH) (no2 tm2 : Int32) (fo2 : List Int64) (sm2 : List Int32), wFr [162, 194, 222, 196, 204, 200, 202, 198] h h2 → h2.length = h.length → mTx h2 wn kn lo hi sv sq wy → mSl h2 n0 n2 n14 n15 n16 n17 n18 n19 n20 n21 n22 n23 n27 n28 n32 n33 n39 n52 fo2 sm2 → (∀ w, w < 8 → mSP fo2 sm2 w) → wFd 4800 am9 fo2 → 0 ≤ no2.toInt → 0 ≤ tm2.toInt → (no2.toInt = 0 → tm2.toInt = 0 → ∀ q, q < wn → ∃ m, m ≤ 600 ∧ sm2.getD (mWf wy q) 0 = nI m) → wq 249 87 [(0, .ref 162), (1, .int r9), (2, .int no2), (3, .int tm2)] [] h2 dc ds Q) → wq 249 31 [(0, .ref 162), (1, .int r9), (2, .int no), (3, .int tm), (4, .int (nI i))] [] h dc ds Q := by
  intro d
  induction d with
  | zero =>
    intro i no tm fo sm h hiq hT hS hP hF hno htm hc kk
    obtain ⟨n34, n35, on, pa, pb, th, sg, c1, c2, c3, c4, c5, c6, c7, c8⟩ := hS
    have hT0 := hT
    obtain ⟨t1, t2, t3, t4, t5, t6, tf⟩ := hT0
    refine m_lrX c1 t1 ⟨tf.1, tf.2.1⟩ (by have := tf.2.1; omega) ?_
    refine kk h no tm fo sm (wFr_rf _ _) rfl hT ⟨n34, n35, on, pa, pb, th, sg, c1, c2, c3, c4, c5, c6, c7, c8⟩ hP hF hno.1 htm.1 (fun a b q hq => hc a b q (by omega))
  | succ d ih =>
    intro i no tm fo sm h hiq hT hS hP hF hno htm hc kk
    obtain ⟨n34, n35, on, pa, pb, th, sg, c1, c2, c3, c4, c5, c6, c7, c8⟩ := hS
    have hT0 := hT
    obtain ⟨t1, t2, t3, t4, t5, t6, tf⟩ := hT0
    have hw := mWf_e tf (show i < wn by omega)
    have hwn := tf.2.1
    have hLm := tf.2.2.2.2.1
    have z0 : (0 : Int32).toInt = 0 := rfl
    have fin : ∀ (sm2 : List Int32) (fo2 : List Int64) (no2 tm2 : Int32) (x : Int32), (∀ w, w < 8 → mSP fo2 sm2 w) → sm2.getD (mWf wy i) 0 = x → x ≠ -1 → (∀ q, q < i → sm2.getD (mWf wy q) 0 = sm.getD (mWf wy q) 0 ∨ sm2.getD (mWf wy q) 0 = x) → mCn no no2 x 0 → mCn tm tm2 x (-3) → (0 ≤ no2.toInt ∧ no2.toInt ≤ ((i + 1 : Nat) : Int)) ∧ (0 ≤ tm2.toInt ∧ tm2.toInt ≤ ((i + 1 : Nat) : Int)) ∧ (no2.toInt = 0 → tm2.toInt = 0 → ∀ q, q < i + 1 → ∃ m, m ≤ 600 ∧ sm2.getD (mWf wy q) 0 = nI m) := by
      intro sm2 fo2 no2 tm2 x hP2 hx hx1 hq2 k1 k2
      have e1 := mCn_c k1 hno (by omega)
      have e2 := mCn_c k2 htm (by omega)
      refine ⟨by omega, by omega, fun a b q hq => ?_⟩
      have a0 : no.toInt = 0 := by omega
      have b0 : tm.toInt = 0 := by omega
      have x3 : x ≠ -3 := by rcases e2 with ⟨e, e'⟩ | ⟨e, _⟩; exact absurd e' (by omega); exact e
      have hxm : ∃ m, m ≤ 600 ∧ x = nI m := by
        rcases hP2 _ hw.2 with k | ⟨s, _, k3, k4⟩
        · exact absurd (hx.symm.trans k) hx1
        · rw [hx] at k4
          obtain ⟨m, m1, m2, _⟩ := mNum_c k3 (fun e => x3 (k4.trans e))
          exact ⟨m, m1, k4.trans m2⟩
      by_cases e : q = i
      · rw [e, hx]; exact hxm
      · rcases hq2 q (by omega) with e3 | e3
        · rw [e3]; exact hc a0 b0 q (by omega)
        · rw [e3]; exact hxm
    refine m_lrA c1 t1 t2 t3 c2 c3 c4 c5 c6 t5 c7 c8 t6 ⟨tf.1, hwn⟩ (by omega) hw ?_ ?_
    · intro h2 no2 tm2 f l p0 p1 p2
      have hT2 := mTx_fr hT f (by decide)
      have hS2 : mSl h2 n0 n2 n14 n15 n16 n17 n18 n19 n20 n21 n22 n23 n27 n28 n32 n33 n39 n52 fo sm := ⟨n34, n35, on, pa, pb, th, sg, wFr_at f List.not_mem_nil c1, wFr_at f List.not_mem_nil c2, wFr_at f List.not_mem_nil c3, wFr_at f List.not_mem_nil c4, wFr_at f List.not_mem_nil c5, wFr_at f List.not_mem_nil c6, wFr_at f List.not_mem_nil c7, wFr_at f List.not_mem_nil c8⟩
      obtain ⟨g1, g2, g3⟩ := fin sm fo no2 tm2 _ hP rfl p0 (fun q hq => Or.inl rfl) p1 p2
      refine ih (i + 1) no2 tm2 fo sm h2 (by omega) hT2 hS2 hP hF g1 g2 g3 ?_
      intro h3 no3 tm3 fo3 sm3 f3 l3
      exact kk h3 no3 tm3 fo3 sm3 (wFr_tr (wFr_sub f (fun q hq => absurd hq List.not_mem_nil)) f3) (l3.trans l)
    · intro h2 no2 tm2 m35 fo2 on2 pa2 pb2 f l d1 d2 d3 d4 d5 d6 d7 d8 p0 p1 p2 p3
      have hT2 := mTx_fr hT f (by decide)
      have hPk : mPkS (mSol lo hi kn (mSg (mPla kn sq (6 * mWf wy i) th) sg)) := mSol_R hLm _ _
      generalize mSol lo hi kn (mSg (mPla kn sq (6 * mWf wy i) th) sg) = s at d1 d8 p1 p2 p3 hPk
      have hP2 := mSP_all hP hPk p1
      have hS2 : mSl h2 n0 n2 n14 n15 n16 n17 n18 n19 n20 n21 n22 n23 n27 n28 n32 n33 n39 n52 fo2 (zset 0 sm (mWf wy i) (mNum s)) := ⟨_, m35, on2, pa2, pb2, _, _, d1, d4, d5, d6, d7, d2, d3, d8⟩
      have hnm : mNum s ≠ -1 := by
        rcases s with _ | l9
        · decide
        · intro e
          have := congrArg Int32.toInt e
          have h6 : l9.length ≤ 600 := p1.1.1
          have e2 : (mNum (some l9)).toInt = (nI l9.length).toInt := rfl
          rw [e2, nI_toInt (by omega)] at this
          have z : (-1 : Int32).toInt = -1 := rfl
          omega
      obtain ⟨g1, g2, g3⟩ := fin _ fo2 no2 tm2 (mNum s) hP2 (by rw [zset_get, if_pos rfl]) hnm (fun q hq => by
        rw [zset_get]
        by_cases e : mWf wy q = mWf wy i
        · rw [if_pos e]; exact Or.inr rfl
        · rw [if_neg e]; exact Or.inl rfl) p2 p3
      refine ih (i + 1) no2 tm2 fo2 _ h2 (by omega) hT2 hS2 hP2 (wFd_o hF p1.2 (by omega)) g1 g2 g3 ?_
      intro h3 no3 tm3 fo3 sm3 f3 l3
      exact kk h3 no3 tm3 fo3 sm3 (wFr_tr f f3) (l3.trans l)
/-- the second loop: stop by stop the first solution by which no more is left -/
theorem m_lr2_0 {wn : Nat} {kn sv wy : List Int32} {fo : List Int64} {tg : List Int32} {mf : Nat → Nat} {n0 n2 n14 n15 n16 n17 n18 n19 n20 n21 n22 n23 n27 n28 n32 n33 n34 n35 n39 n52 : Int32} {dc ds : Nat} {Q : zR → Prop} (hkn : kn.getD 6 0 = nI wn ∧ wn ≤ 10) (hW : ∀ i, i < wn → wy.getD i 0 = nI (mWf wy i) ∧ mWf wy i < 8) (hs : mSpd sv) (hm : ∀ i, i < wn → mf (mWf wy i) ≤ 600) (hrow : ∀ i, i < wn → ∀ k, k < mf (mWf wy i) → tg.getD (600 * i + k) 0 = wRw fo (mWf wy) mf sv wn 0 tg i k) (hfo : ∀ i, i < wn → ∀ k, k < mf (mWf wy i) → mPkR (fo.getD (600 * mWf wy i + k) 0)) : ∀ (d i : Nat) (le : Int32) (t1 pa ch co : List Int32) (h : zH), i + d = wn → zat h 162 = some (.inr (.inr (.inr (10, mO n0 n2 n14 n15 n16 n17 n18 n19 n20 n21 n22 n23 n27 n28 n32 n33 n34 n35 n39 n52)))) → zat h 166 = some (.inl (0, 14, kn)) → zat h 180 = some (.inl (0, 20, wy)) → zat h 196 = some (.inr (.inl (6000, fo))) → zat h 172 = some (.inl (0, 12, sv)) → zat h 208 = some (.inl (0, 6000, tg)) → zat h 220 = some (.inl (0, 6, t1)) → zat h 214 = some (.inl (0, 132, pa)) → zat h 216 = some (.inl (0, 20, ch)) → zat h 218 = some (.inl (0, 22, co)) → (i < wn → ∃ n9, n9 < mf (mWf wy i) ∧ fHit fo (mWf wy i) tg sv pa i (66 * 0 + 6 * i) 0 le n9) → mRt 0 i pa co → (∀ q, q < 22 → -100000 ≤ (co.getD q 0).toInt ∧ (co.getD q 0).toInt ≤ 100000) → (∀ (h2 : zH) (t2 pa2 ch2 co2 : List Int32), wFr [214, 216, 218, 220] h h2 → h2.length = h.length → zat h2 220 = some (.inl (0, 6, t2)) → zat h2 214 = some (.inl (0, 132, pa2)) → zat h2 216 = some (.inl (0, 20, ch2)) → zat h2 218 = some (.inl (0, 22, co2)) → mRt 0 wn pa2 co2 → (∀ q, q < 66 * 0 ∨ 66 * 0 + 66 ≤ q → pa2.getD q 0 = pa.getD q 0) → (∀ q, q < 11 * 0 ∨ 11 * 0 + 11 ≤ q → co2.getD q 0 = co.getD q 0) → (∀ q, q < 22 → -100000 ≤ (co2.getD q 0).toInt ∧ (co2.getD q 0).toInt ≤ 100000) → Q (none, h2, dc, ds)) → wq 249 234 [(0, .ref 162), (1, .int 0), (4, .int 0), (5, .int le), (6, .int (nI i))] [] h dc ds Q := by
  intro d
  induction d with
  | zero =>
    intro i le t1 pa ch co h hi c1 c2 c3 c4 c5 c6 c7 c8 c9 c10 hh hR hB kk
    have e : i = wn := by omega
    subst e
    refine m_lrF0 c1 c2 hkn ⟨Nat.le_refl _, hkn.2⟩ ?_
    exact kk h t1 pa ch co (wFr_rf _ _) rfl c7 c8 c9 c10 hR (fun _ _ => rfl) (fun _ _ => rfl) hB
  | succ d ih =>
    intro i le t1 pa ch co h hi c1 c2 c3 c4 c5 c6 c7 c8 c9 c10 hh hR hB kk
    obtain ⟨n9, h9, hit⟩ := hh (by omega)
    have hm9 := hm i (by omega)
    have hwn := hkn.2
    refine m_lrE0 (n9 := n9) c1 c3 c4 c5 c6 c7 c8 c9 c10 c2 hkn (by omega) (hW i (by omega)) (fun i hi => (hs i hi).1) (by omega) (by first | exact hit | (rw [show (66 * 0 + 6 * i) = (0 + (6 * i)) from by omega] at hit; exact hit)) ?_
    intro h2 t2 f l d1 d2 d3 d4 p0 p1
    generalize hnb : mFbN fo (mWf wy i) tg sv pa i (0 + (6 * i)) 0 le t1 = nb at d1 d2 d3 d4 p0 p1 ⊢
    have hpk := hfo i (by omega) nb (by omega)
    have hR2 := mRt_up hs hR hpk (show i < 10 by omega)
    have e1 : (0 + (6 * (i + 1))) = 66 * 0 + 6 * (i + 1) := by omega
    have e2 : (0 + (6 * i)) = 66 * 0 + 6 * i := by omega
    have e3 : ((0 + i) + 1) = 11 * 0 + i + 1 := by omega
    have e4 : (0 + i) = 11 * 0 + i := by omega
    rw [e1] at d2 d4
    rw [e2, e3, e4] at d4
    have hpo : ∀ q, q < 66 * 0 ∨ 66 * 0 + 66 ≤ q → (mLsS fo (mWf wy i) nb (66 * 0 + 6 * (i + 1)) pa).getD q 0 = pa.getD q 0 := fun q hq => mUnp_o _ _ _ _ (by omega)
    have hB2 : ∀ q, q < 22 → -100000 ≤ ((zset 0 co (11 * 0 + i + 1) (co.getD (11 * 0 + i) 0 + mtkF sv (mLsS fo (mWf wy i) nb (66 * 0 + 6 * (i + 1)) pa) (66 * 0 + 6 * i) (mLsS fo (mWf wy i) nb (66 * 0 + 6 * (i + 1)) pa) (66 * 0 + 6 * (i + 1)) (6 - 0 + 1) 0 0)).getD q 0).toInt ∧ ((zset 0 co (11 * 0 + i + 1) (co.getD (11 * 0 + i) 0 + mtkF sv (mLsS fo (mWf wy i) nb (66 * 0 + 6 * (i + 1)) pa) (66 * 0 + 6 * i) (mLsS fo (mWf wy i) nb (66 * 0 + 6 * (i + 1)) pa) (66 * 0 + 6 * (i + 1)) (6 - 0 + 1) 0 0)).getD q 0).toInt ≤ 100000 := fun q hq => by
      by_cases e : q = 11 * 0 + i + 1
      · obtain ⟨k1, k2, k3, _⟩ := hR2.2.2 i (Nat.lt_succ_self i)
        rw [e]
        exact ⟨by omega, by omega⟩
      · rw [zset_get, if_neg e]; exact hB q hq
    have hnext : i + 1 < wn → ∃ n9, n9 < mf (mWf wy (i + 1)) ∧ fHit fo (mWf wy (i + 1)) tg sv (mLsS fo (mWf wy i) nb (66 * 0 + 6 * (i + 1)) pa) (i + 1) (66 * 0 + 6 * (i + 1)) 0 (tg.getD (600 * i + nb) 0) n9 := fun hlt => by
      have e5 := hrow i (by omega) nb (by omega)
      unfold wRw at e5
      rw [if_neg (by omega)] at e5
      have hne : (mLef fo (mWf wy (i + 1)) tg sv (mUnp (fo.getD (600 * mWf wy i + nb) 0) 0 []) (i + 1) 0 (mf (mWf wy (i + 1))) 0 []).1 ≠ 1000000 := fun q => by
        rw [e5, q] at p1; exact absurd p1 (by decide)
      obtain ⟨m9, k1, k2⟩ := mLef_hit (hm (i + 1) hlt) hne
      rw [e5]
      refine ⟨m9, k1, fHit_g (fun j hj => ?_) k2⟩
      exact (mUnp_s (fo.getD (600 * mWf wy i + nb) 0) (66 * 0 + 6 * (i + 1)) pa j hj).symm
    refine ih (i + 1) _ t2 _ _ _ h2 (by omega) (wFr_at f (by decide) c1) (wFr_at f (by decide) c2) (wFr_at f (by decide) c3) (wFr_at f (by decide) c4) (wFr_at f (by decide) c5) (wFr_at f (by decide) c6) d1 d2 d3 d4 hnext hR2 hB2 ?_
    intro h3 t3 pa3 ch3 co3 f3 l3 x1 x2 x3 x4 x5 x6 x7 x8
    exact kk h3 t3 pa3 ch3 co3 (wFr_tr f f3) (l3.trans l) x1 x2 x3 x4 x5 (fun q hq => (x6 q hq).trans (hpo q hq)) (fun q hq => (x7 q hq).trans (by rw [zset_get, if_neg (by omega)])) x8
/-- the second loop: stop by stop the first solution by which no more is left -/
theorem m_lr2_1 {wn : Nat} {kn sv wy : List Int32} {fo : List Int64} {tg : List Int32} {mf : Nat → Nat} {n0 n2 n14 n15 n16 n17 n18 n19 n20 n21 n22 n23 n27 n28 n32 n33 n34 n35 n39 n52 : Int32} {dc ds : Nat} {Q : zR → Prop} (hkn : kn.getD 6 0 = nI wn ∧ wn ≤ 10) (hW : ∀ i, i < wn → wy.getD i 0 = nI (mWf wy i) ∧ mWf wy i < 8) (hs : mSpd sv) (hm : ∀ i, i < wn → mf (mWf wy i) ≤ 600) (hrow : ∀ i, i < wn → ∀ k, k < mf (mWf wy i) → tg.getD (600 * i + k) 0 = wRw fo (mWf wy) mf sv wn 1 tg i k) (hfo : ∀ i, i < wn → ∀ k, k < mf (mWf wy i) → mPkR (fo.getD (600 * mWf wy i + k) 0)) : ∀ (d i : Nat) (le : Int32) (t1 pa ch co : List Int32) (h : zH), i + d = wn → zat h 162 = some (.inr (.inr (.inr (10, mO n0 n2 n14 n15 n16 n17 n18 n19 n20 n21 n22 n23 n27 n28 n32 n33 n34 n35 n39 n52)))) → zat h 166 = some (.inl (0, 14, kn)) → zat h 180 = some (.inl (0, 20, wy)) → zat h 196 = some (.inr (.inl (6000, fo))) → zat h 172 = some (.inl (0, 12, sv)) → zat h 208 = some (.inl (0, 6000, tg)) → zat h 220 = some (.inl (0, 6, t1)) → zat h 214 = some (.inl (0, 132, pa)) → zat h 216 = some (.inl (0, 20, ch)) → zat h 218 = some (.inl (0, 22, co)) → (i < wn → ∃ n9, n9 < mf (mWf wy i) ∧ fHit fo (mWf wy i) tg sv pa i (66 * 1 + 6 * i) 1 le n9) → mRt 1 i pa co → (∀ q, q < 22 → -100000 ≤ (co.getD q 0).toInt ∧ (co.getD q 0).toInt ≤ 100000) → (∀ (h2 : zH) (t2 pa2 ch2 co2 : List Int32), wFr [214, 216, 218, 220] h h2 → h2.length = h.length → zat h2 220 = some (.inl (0, 6, t2)) → zat h2 214 = some (.inl (0, 132, pa2)) → zat h2 216 = some (.inl (0, 20, ch2)) → zat h2 218 = some (.inl (0, 22, co2)) → mRt 1 wn pa2 co2 → (∀ q, q < 66 * 1 ∨ 66 * 1 + 66 ≤ q → pa2.getD q 0 = pa.getD q 0) → (∀ q, q < 11 * 1 ∨ 11 * 1 + 11 ≤ q → co2.getD q 0 = co.getD q 0) → (∀ q, q < 22 → -100000 ≤ (co2.getD q 0).toInt ∧ (co2.getD q 0).toInt ≤ 100000) → Q (none, h2, dc, ds)) → wq 249 234 [(0, .ref 162), (1, .int 1), (4, .int 66), (5, .int le), (6, .int (nI i))] [] h dc ds Q := by
  intro d
  induction d with
  | zero =>
    intro i le t1 pa ch co h hi c1 c2 c3 c4 c5 c6 c7 c8 c9 c10 hh hR hB kk
    have e : i = wn := by omega
    subst e
    refine m_lrF1 c1 c2 hkn ⟨Nat.le_refl _, hkn.2⟩ ?_
    exact kk h t1 pa ch co (wFr_rf _ _) rfl c7 c8 c9 c10 hR (fun _ _ => rfl) (fun _ _ => rfl) hB
  | succ d ih =>
    intro i le t1 pa ch co h hi c1 c2 c3 c4 c5 c6 c7 c8 c9 c10 hh hR hB kk
    obtain ⟨n9, h9, hit⟩ := hh (by omega)
    have hm9 := hm i (by omega)
    have hwn := hkn.2
    refine m_lrE1 (n9 := n9) c1 c3 c4 c5 c6 c7 c8 c9 c10 c2 hkn (by omega) (hW i (by omega)) (fun i hi => (hs i hi).1) (by omega) (by first | exact hit | (rw [show (66 * 1 + 6 * i) = (66 + (6 * i)) from by omega] at hit; exact hit)) ?_
    intro h2 t2 f l d1 d2 d3 d4 p0 p1
    generalize hnb : mFbN fo (mWf wy i) tg sv pa i (66 + (6 * i)) 1 le t1 = nb at d1 d2 d3 d4 p0 p1 ⊢
    have hpk := hfo i (by omega) nb (by omega)
    have hR2 := mRt_up hs hR hpk (show i < 10 by omega)
    have e1 : (66 + (6 * (i + 1))) = 66 * 1 + 6 * (i + 1) := by omega
    have e2 : (66 + (6 * i)) = 66 * 1 + 6 * i := by omega
    have e3 : ((11 + i) + 1) = 11 * 1 + i + 1 := by omega
    have e4 : (11 + i) = 11 * 1 + i := by omega
    rw [e1] at d2 d4
    rw [e2, e3, e4] at d4
    have hpo : ∀ q, q < 66 * 1 ∨ 66 * 1 + 66 ≤ q → (mLsS fo (mWf wy i) nb (66 * 1 + 6 * (i + 1)) pa).getD q 0 = pa.getD q 0 := fun q hq => mUnp_o _ _ _ _ (by omega)
    have hB2 : ∀ q, q < 22 → -100000 ≤ ((zset 0 co (11 * 1 + i + 1) (co.getD (11 * 1 + i) 0 + mtkF sv (mLsS fo (mWf wy i) nb (66 * 1 + 6 * (i + 1)) pa) (66 * 1 + 6 * i) (mLsS fo (mWf wy i) nb (66 * 1 + 6 * (i + 1)) pa) (66 * 1 + 6 * (i + 1)) (6 - 0 + 1) 0 0)).getD q 0).toInt ∧ ((zset 0 co (11 * 1 + i + 1) (co.getD (11 * 1 + i) 0 + mtkF sv (mLsS fo (mWf wy i) nb (66 * 1 + 6 * (i + 1)) pa) (66 * 1 + 6 * i) (mLsS fo (mWf wy i) nb (66 * 1 + 6 * (i + 1)) pa) (66 * 1 + 6 * (i + 1)) (6 - 0 + 1) 0 0)).getD q 0).toInt ≤ 100000 := fun q hq => by
      by_cases e : q = 11 * 1 + i + 1
      · obtain ⟨k1, k2, k3, _⟩ := hR2.2.2 i (Nat.lt_succ_self i)
        rw [e]
        exact ⟨by omega, by omega⟩
      · rw [zset_get, if_neg e]; exact hB q hq
    have hnext : i + 1 < wn → ∃ n9, n9 < mf (mWf wy (i + 1)) ∧ fHit fo (mWf wy (i + 1)) tg sv (mLsS fo (mWf wy i) nb (66 * 1 + 6 * (i + 1)) pa) (i + 1) (66 * 1 + 6 * (i + 1)) 1 (tg.getD (600 * i + nb) 0) n9 := fun hlt => by
      have e5 := hrow i (by omega) nb (by omega)
      unfold wRw at e5
      rw [if_neg (by omega)] at e5
      have hne : (mLef fo (mWf wy (i + 1)) tg sv (mUnp (fo.getD (600 * mWf wy i + nb) 0) 0 []) (i + 1) 0 (mf (mWf wy (i + 1))) 1 []).1 ≠ 1000000 := fun q => by
        rw [e5, q] at p1; exact absurd p1 (by decide)
      obtain ⟨m9, k1, k2⟩ := mLef_hit (hm (i + 1) hlt) hne
      rw [e5]
      refine ⟨m9, k1, fHit_g (fun j hj => ?_) k2⟩
      exact (mUnp_s (fo.getD (600 * mWf wy i + nb) 0) (66 * 1 + 6 * (i + 1)) pa j hj).symm
    refine ih (i + 1) _ t2 _ _ _ h2 (by omega) (wFr_at f (by decide) c1) (wFr_at f (by decide) c2) (wFr_at f (by decide) c3) (wFr_at f (by decide) c4) (wFr_at f (by decide) c5) (wFr_at f (by decide) c6) d1 d2 d3 d4 hnext hR2 hB2 ?_
    intro h3 t3 pa3 ch3 co3 f3 l3 x1 x2 x3 x4 x5 x6 x7 x8
    exact kk h3 t3 pa3 ch3 co3 (wFr_tr f f3) (l3.trans l) x1 x2 x3 x4 x5 (fun q hq => (x6 q hq).trans (hpo q hq)) (fun q hq => (x7 q hq).trans (by rw [zset_get, if_neg (by omega)])) x8
