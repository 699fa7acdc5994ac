/-! The reference's solves. -/
section
variable {F : Nat → Int64}
noncomputable def mPin (lk hg a : Int32) : Nat → Int32 → List (Int32 × Int32)
  | 0, _ => []
  | n + 1, e => (if (lk * ((jsin a) + (jsin (a + e)))) = hg then [(a, a + e)] else []) ++ mPin lk hg a n (e + 1)
noncomputable def mPout (lk hg : Int32) : Nat → Int32 → List (Int32 × Int32)
  | 0, _ => []
  | n + 1, a => mPin lk hg a 64 (-32) ++ mPout lk hg n (a + 1)
noncomputable def wPr (PL : List (Int32 × Int32)) (pa pb : List Int32) : Prop := ∀ i q, PL[i]? = some q → pa.getD i 0 = q.1 ∧ pb.getD i 0 = q.2
theorem wPr_snoc {PL : List (Int32 × Int32)} {pa pb : List Int32} (h : wPr PL pa pb) (a b : Int32) : wPr (PL ++ [(a, b)]) (zset 0 pa PL.length a) (zset 0 pb PL.length b) := by
  intro i q hq
  rw [zset_get, zset_get]
  by_cases hi : i < PL.length
  · rw [List.getElem?_append_left hi] at hq
    rw [if_neg (by omega), if_neg (by omega)]
    exact h i q hq
  · rw [List.getElem?_append_right (by omega)] at hq
    have h0 : i - PL.length = 0 := by
      have := (List.getElem?_eq_some_iff.mp hq).1
      simp at this
      omega
    rw [h0] at hq
    cases hq
    rw [if_pos (by omega), if_pos (by omega)]
    exact ⟨rfl, rfl⟩
theorem mPin_len (lk hg a : Int32) : ∀ (n : Nat) (e : Int32), (mPin lk hg a n e).length ≤ n
  | 0, _ => Nat.le_refl _
  | n + 1, e => by
    unfold mPin
    rw [List.length_append]
    have h1 := mPin_len lk hg a n (e + 1)
    have h2 : (if (lk * ((jsin a) + (jsin (a + e)))) = hg then [(a, a + e)] else []).length ≤ 1 := by split <;> simp
    omega
theorem mPout_len (lk hg : Int32) : ∀ (n : Nat) (a : Int32), (mPout lk hg n a).length ≤ 64 * n
  | 0, _ => Nat.le_refl _
  | n + 1, a => by
    show (mPin lk hg a 64 (-32) ++ mPout lk hg n (a + 1)).length ≤ _
    rw [List.length_append]
    have h1 := mPout_len lk hg n (a + 1)
    have h2 := mPin_len lk hg a 64 (-32)
    omega
set_option maxHeartbeats 4000000 in
theorem m_pin {fs : List Value} {kn : List Int32} {o rp : Nat} {hg a : Int32} {Q : zR → Prop} (hC : mC fs) : ∀ (n : Nat) (e : Int32) (h : zH) (PL : List (Int32 × Int32)) (pa pb : List Int32), e.toInt + n = 32 → n ≤ 64 → PL.length + n ≤ 4096 → zat h 162 = some (.inr (.inr (.inr (10, fs)))) → zat h 166 = some (.inl (0, 14, kn)) → zat h 200 = some (.inl (0, 4096, pa)) → zat h 202 = some (.inl (0, 4096, pb)) → wPr PL pa pb → (∀ (h2 : zH) (pa2 pb2 : List Int32) (e2 : Int32), wFr [200, 202] h h2 → h2.length = h.length → zat h2 200 = some (.inl (0, 4096, pa2)) → zat h2 202 = some (.inl (0, 4096, pb2)) → wPr (PL ++ mPin (kn.getD 0 0) hg a n e) pa2 pb2 → wq 226 106 [(0, .ref 162), (1, .ref rp), (2, .int (nI o)), (3, .int (nI (PL ++ mPin (kn.getD 0 0) hg a n e).length)), (4, .int hg), (5, .int a), (6, .int e2)] [] h2 0 0 Q) → wq 226 42 [(0, .ref 162), (1, .ref rp), (2, .int (nI o)), (3, .int (nI PL.length)), (4, .int hg), (5, .int a), (6, .int e)] [] h 0 0 Q := by
  intro n
  induction n with
  | zero =>
    intro e h PL pa pb he hn64 hlen hM hK h200 h202 hP kk
    refine wq_gos (f := 1) (pc2 := 46) (ls2 := [(0, .ref 162), (1, .ref rp), (2, .int (nI o)), (3, .int (nI PL.length)), (4, .int hg), (5, .int a), (6, .int e)]) (st2 := [.int 32, .int e]) (h2 := h) (dc2 := 0) (ds2 := 0) 2 rfl ?_
    refine wq_ge2t rfl (by show (32 : Int) ≤ e.toInt; omega) ?_
    refine wq_ls [(0, .ref 162), (1, .ref rp), (2, .int (nI o)), (3, .int (nI PL.length)), (4, .int hg), (5, .int a), (6, .int e)] (show ([0, 1, 2, 3, 4, 5, 6] : List Nat).Nodup by decide) ⟨rfl, rfl, rfl, rfl, rfl, rfl, rfl, trivial⟩ ?_
    have hx : PL ++ mPin (kn.getD 0 0) hg a 0 e = PL := by simp [mPin]
    rw [hx] at kk
    exact kk h pa pb e (wFr_rf _ _) rfl h200 h202 hP
  | succ n ih =>
    intro e h PL pa pb he hn64 hlen hM hK h200 h202 hP kk
    have he2 : (e + 1).toInt = e.toInt + 1 := z_inc (by omega)
    refine wq_gos (f := 1) (pc2 := 46) (ls2 := [(0, .ref 162), (1, .ref rp), (2, .int (nI o)), (3, .int (nI PL.length)), (4, .int hg), (5, .int a), (6, .int e)]) (st2 := [.int 32, .int e]) (h2 := h) (dc2 := 0) (ds2 := 0) 2 rfl ?_
    refine wq_ge2f rfl rfl (by show e.toInt < (32 : Int); omega) ?_
    refine wq_gos (f := 1) (pc2 := 50) (ls2 := [(0, .ref 162), (1, .ref rp), (2, .int (nI o)), (3, .int (nI PL.length)), (4, .int hg), (5, .int a), (6, .int e)]) (st2 := [.ref 162]) (h2 := h) (dc2 := 0) (ds2 := 0) 1 rfl ?_
    refine wq_getf rfl hM (hC.2 (3, 166) (by decide)) rfl ?_
    refine wq_gos (f := 1) (pc2 := 54) (ls2 := [(0, .ref 162), (1, .ref rp), (2, .int (nI o)), (3, .int (nI PL.length)), (4, .int hg), (5, .int a), (6, .int e)]) (st2 := [.int 0, .ref 166]) (h2 := h) (dc2 := 0) (ds2 := 0) 1 rfl ?_
    refine wq_ialdk (k := 0) rfl hK rfl rfl rfl ?_
    refine wq_gos (f := 1) (pc2 := 57) (ls2 := [(0, .ref 162), (1, .ref rp), (2, .int (nI o)), (3, .int (nI PL.length)), (4, .int hg), (5, .int a), (6, .int e)]) (st2 := [.int a, .int (kn.getD 0 0)]) (h2 := h) (dc2 := 0) (ds2 := 0) 1 rfl ?_
    refine wq_inl (y2 := 196) (as := [.int a]) rfl rfl rfl (wq_T (m_sin a h) ?_)
    show wq 226 60 [(0, .ref 162), (1, .ref rp), (2, .int (nI o)), (3, .int (nI PL.length)), (4, .int hg), (5, .int a), (6, .int e)] [.int (jsin a), .int (kn.getD 0 0)] h 0 0 _
    refine wq_gos (f := 1) (pc2 := 65) (ls2 := [(0, .ref 162), (1, .ref rp), (2, .int (nI o)), (3, .int (nI PL.length)), (4, .int hg), (5, .int a), (6, .int e)]) (st2 := [.int (a + e), .int (jsin a), .int (kn.getD 0 0)]) (h2 := h) (dc2 := 0) (ds2 := 0) 3 rfl ?_
    refine wq_inl (y2 := 196) (as := [.int (a + e)]) rfl rfl rfl (wq_T (m_sin (a + e) h) ?_)
    show wq 226 68 [(0, .ref 162), (1, .ref rp), (2, .int (nI o)), (3, .int (nI PL.length)), (4, .int hg), (5, .int a), (6, .int e)] [.int (jsin (a + e)), .int (jsin a), .int (kn.getD 0 0)] h 0 0 _
    refine wq_gos (f := 1) (pc2 := 72) (ls2 := [(0, .ref 162), (1, .ref rp), (2, .int (nI o)), (3, .int (nI PL.length)), (4, .int hg), (5, .int a), (6, .int e)]) (st2 := [.int hg, .int ((kn.getD 0 0) * ((jsin a) + (jsin (a + e))))]) (h2 := h) (dc2 := 0) (ds2 := 0) 3 rfl ?_
    refine wq_eq2 rfl rfl (fun b1x => ?_) (fun b1x => ?_)
    · refine wq_gos (f := 1) (pc2 := 79) (ls2 := [(0, .ref 162), (1, .ref rp), (2, .int (nI o)), (3, .int (nI PL.length)), (4, .int hg), (5, .int a), (6, .int e)]) (st2 := [.ref 162]) (h2 := h) (dc2 := 0) (ds2 := 0) 1 rfl ?_
      refine wq_getf rfl hM (hC.2 (36, 200) (by decide)) rfl ?_
      refine wq_gos (f := 1) (pc2 := 85) (ls2 := [(0, .ref 162), (1, .ref rp), (2, .int (nI o)), (3, .int (nI PL.length)), (4, .int hg), (5, .int a), (6, .int e)]) (st2 := [.int a, .int (nI PL.length), .ref 200]) (h2 := h) (dc2 := 0) (ds2 := 0) 2 rfl ?_
      refine wq_iastn rfl h200 (by omega) (by decide) rfl ?_
      intro h2x e3x f4x l5x
      have e3x : zat h2x 200 = some (.inl (0, 4096, (zset 0 pa PL.length a))) := e3x
      refine wq_gos (f := 1) (pc2 := 87) (ls2 := [(0, .ref 162), (1, .ref rp), (2, .int (nI o)), (3, .int (nI PL.length)), (4, .int hg), (5, .int a), (6, .int e)]) (st2 := [.ref 162]) (h2 := h2x) (dc2 := 0) (ds2 := 0) 1 rfl ?_
      have e6x := (f4x.2 _ _ (wnc (by decide) wn0) hM)
      refine wq_getf rfl e6x (hC.2 (37, 202) (by decide)) rfl ?_
      refine wq_gos (f := 1) (pc2 := 96) (ls2 := [(0, .ref 162), (1, .ref rp), (2, .int (nI o)), (3, .int (nI PL.length)), (4, .int hg), (5, .int a), (6, .int e)]) (st2 := [.int (a + e), .int (nI PL.length), .ref 202]) (h2 := h2x) (dc2 := 0) (ds2 := 0) 4 rfl ?_
      have e7x := (f4x.2 _ _ (wnc (by decide) wn0) h202)
      refine wq_iastn rfl e7x (by omega) (by decide) rfl ?_
      intro h8x e9x f10x l11x
      have e9x : zat h8x 202 = some (.inl (0, 4096, (zset 0 pb PL.length (a + e)))) := e9x
      refine wq_gos (f := 1) (pc2 := 100) (ls2 := [(3, .int ((nI PL.length) + 1)), (0, .ref 162), (1, .ref rp), (2, .int (nI o)), (4, .int hg), (5, .int a), (6, .int e)]) (st2 := []) (h2 := h8x) (dc2 := 0) (ds2 := 0) 1 rfl ?_
      rw [nI_1]
      refine wq_gos (f := 1) (pc2 := 42) (ls2 := [(6, .int (e + 1)), (3, .int (nI (PL.length + 1))), (0, .ref 162), (1, .ref rp), (2, .int (nI o)), (4, .int hg), (5, .int a)]) (st2 := []) (h2 := h8x) (dc2 := 0) (ds2 := 0) 2 rfl ?_
      have e12x := (f10x.2 _ _ (wnc (by decide) wn0) e6x)
      have e13x := (f10x.2 _ _ (wnc (by decide) wn0) (f4x.2 _ _ (wnc (by decide) wn0) hK))
      have e14x := (f10x.2 _ _ (wnc (by decide) wn0) e3x)
      have hx : PL ++ mPin (kn.getD 0 0) hg a (n + 1) e = (PL ++ [(a, a + e)]) ++ mPin (kn.getD 0 0) hg a n (e + 1) := by show PL ++ ((if _ then _ else _) ++ _) = _; rw [if_pos b1x]; simp
      have hlx : (PL ++ [(a, a + e)]).length = PL.length + 1 := by rw [List.length_append]; rfl
      rw [hx] at kk
      rw [← hlx]
      refine wq_ls [(0, .ref 162), (1, .ref rp), (2, .int (nI o)), (3, .int (nI (PL ++ [(a, a + e)]).length)), (4, .int hg), (5, .int a), (6, .int (e + 1))] (show ([0, 1, 2, 3, 4, 5, 6] : List Nat).Nodup by decide) ⟨rfl, rfl, rfl, rfl, rfl, rfl, rfl, trivial⟩ ?_
      refine ih (e + 1) h8x (PL ++ [(a, a + e)]) _ _ (by omega) (by omega) (by omega) e12x e13x e14x e9x (wPr_snoc hP a (a + e)) ?_
      intro g0 g1 g2 g3 g4 g5 g6 g7 g8
      exact kk g0 g1 g2 g3 (wFr_tr (wFr_tr (wFr_sub f4x (by simp)) (wFr_sub f10x (by simp))) g4) (by omega) g6 g7 g8
    · refine wq_gos (f := 1) (pc2 := 42) (ls2 := [(6, .int (e + 1)), (0, .ref 162), (1, .ref rp), (2, .int (nI o)), (3, .int (nI PL.length)), (4, .int hg), (5, .int a)]) (st2 := []) (h2 := h) (dc2 := 0) (ds2 := 0) 3 rfl ?_
      have hx : PL ++ mPin (kn.getD 0 0) hg a (n + 1) e = PL ++ mPin (kn.getD 0 0) hg a n (e + 1) := by show PL ++ ((if _ then _ else _) ++ _) = _; rw [if_neg b1x]; simp
      rw [hx] at kk
      refine wq_ls [(0, .ref 162), (1, .ref rp), (2, .int (nI o)), (3, .int (nI PL.length)), (4, .int hg), (5, .int a), (6, .int (e + 1))] (show ([0, 1, 2, 3, 4, 5, 6] : List Nat).Nodup by decide) ⟨rfl, rfl, rfl, rfl, rfl, rfl, rfl, trivial⟩ ?_
      refine ih (e + 1) h PL _ _ (by omega) (by omega) (by omega) hM hK h200 h202 hP ?_
      intro g0 g1 g2 g3 g4 g5 g6 g7 g8
      exact kk g0 g1 g2 g3 (wFr_tr (wFr_rf _ _) g4) (by omega) g6 g7 g8
set_option maxHeartbeats 4000000 in
theorem m_pout {fs : List Value} {kn : List Int32} {o rp : Nat} {hg : Int32} {Q : zR → Prop} (hC : mC fs) : ∀ (n : Nat) (a : Int32) (h : zH) (PL : List (Int32 × Int32)) (pa pb : List Int32), a.toInt + n = 32 → n ≤ 64 → PL.length + 64 * n ≤ 4096 → zat h 162 = some (.inr (.inr (.inr (10, fs)))) → zat h 166 = some (.inl (0, 14, kn)) → zat h 200 = some (.inl (0, 4096, pa)) → zat h 202 = some (.inl (0, 4096, pb)) → wPr PL pa pb → (∀ (h2 : zH) (pa2 pb2 : List Int32) (a2 : Int32), wFr [200, 202] h h2 → h2.length = h.length → zat h2 200 = some (.inl (0, 4096, pa2)) → zat h2 202 = some (.inl (0, 4096, pb2)) → wPr (PL ++ mPout (kn.getD 0 0) hg n a) pa2 pb2 → wq 226 112 [(0, .ref 162), (1, .ref rp), (2, .int (nI o)), (3, .int (nI (PL ++ mPout (kn.getD 0 0) hg n a).length)), (4, .int hg), (5, .int a2)] [] h2 0 0 Q) → wq 226 31 [(0, .ref 162), (1, .ref rp), (2, .int (nI o)), (3, .int (nI PL.length)), (4, .int hg), (5, .int a)] [] h 0 0 Q := by
  intro n
  induction n with
  | zero =>
    intro a h PL pa pb ha hn64 hlen hM hK h200 h202 hP kk
    refine wq_gos (f := 1) (pc2 := 35) (ls2 := [(0, .ref 162), (1, .ref rp), (2, .int (nI o)), (3, .int (nI PL.length)), (4, .int hg), (5, .int a)]) (st2 := [.int 32, .int a]) (h2 := h) (dc2 := 0) (ds2 := 0) 2 rfl ?_
    refine wq_ge2t rfl (by show (32 : Int) ≤ a.toInt; omega) ?_
    refine wq_ls [(0, .ref 162), (1, .ref rp), (2, .int (nI o)), (3, .int (nI PL.length)), (4, .int hg), (5, .int a)] (show ([0, 1, 2, 3, 4, 5] : List Nat).Nodup by decide) ⟨rfl, rfl, rfl, rfl, rfl, rfl, trivial⟩ ?_
    have hx : PL ++ mPout (kn.getD 0 0) hg 0 a = PL := by simp [mPout]
    rw [hx] at kk
    exact kk h pa pb a (wFr_rf _ _) rfl h200 h202 hP
  | succ n ih =>
    intro a h PL pa pb ha hn64 hlen hM hK h200 h202 hP kk
    have ha2 : (a + 1).toInt = a.toInt + 1 := z_inc (by omega)
    have hx : PL ++ mPout (kn.getD 0 0) hg (n + 1) a = (PL ++ mPin (kn.getD 0 0) hg a 64 (-32)) ++ mPout (kn.getD 0 0) hg n (a + 1) := by rw [List.append_assoc]; rfl
    rw [hx] at kk
    have hpl := mPin_len (kn.getD 0 0) hg a 64 (-32)
    have hpl2 : (PL ++ mPin (kn.getD 0 0) hg a 64 (-32)).length = PL.length + (mPin (kn.getD 0 0) hg a 64 (-32)).length := List.length_append
    refine wq_gos (f := 1) (pc2 := 35) (ls2 := [(0, .ref 162), (1, .ref rp), (2, .int (nI o)), (3, .int (nI PL.length)), (4, .int hg), (5, .int a)]) (st2 := [.int 32, .int a]) (h2 := h) (dc2 := 0) (ds2 := 0) 2 rfl ?_
    refine wq_ge2f rfl rfl (by show a.toInt < (32 : Int); omega) ?_
    refine wq_gos (f := 1) (pc2 := 42) (ls2 := [(6, .int (-32)), (0, .ref 162), (1, .ref rp), (2, .int (nI o)), (3, .int (nI PL.length)), (4, .int hg), (5, .int a)]) (st2 := []) (h2 := h) (dc2 := 0) (ds2 := 0) 2 rfl ?_
    refine wq_ls [(0, .ref 162), (1, .ref rp), (2, .int (nI o)), (3, .int (nI PL.length)), (4, .int hg), (5, .int a), (6, .int (-32))] (show ([0, 1, 2, 3, 4, 5, 6] : List Nat).Nodup by decide) ⟨rfl, rfl, rfl, rfl, rfl, rfl, rfl, trivial⟩ ?_
    refine m_pin hC 64 (-32) h PL pa pb (by decide) (by omega) (by omega) hM hK h200 h202 hP ?_
    intro g0 g1 g2 g3 g4 g5 g6 g7 g8
    refine wq_gos (f := 1) (pc2 := 31) (ls2 := [(5, .int (a + 1)), (0, .ref 162), (1, .ref rp), (2, .int (nI o)), (3, .int (nI (PL ++ mPin (kn.getD 0 0) hg a 64 (-32)).length)), (4, .int hg), (6, .int g3)]) (st2 := []) (h2 := g0) (dc2 := 0) (ds2 := 0) 2 rfl ?_
    have e1x := (g4.2 _ _ (wnc (by decide) (wnc (by decide) wn0)) hM)
    have e2x := (g4.2 _ _ (wnc (by decide) (wnc (by decide) wn0)) hK)
    refine wq_ls [(0, .ref 162), (1, .ref rp), (2, .int (nI o)), (3, .int (nI (PL ++ mPin (kn.getD 0 0) hg a 64 (-32)).length)), (4, .int hg), (5, .int (a + 1))] (show ([0, 1, 2, 3, 4, 5] : List Nat).Nodup by decide) ⟨rfl, rfl, rfl, rfl, rfl, rfl, trivial⟩ ?_
    refine ih (a + 1) g0 _ _ _ (by omega) (by omega) (by omega) e1x e2x g6 g7 g8 ?_
    intro k0 k1 k2 k3 k4 k5 k6 k7 k8
    exact kk k0 k1 k2 k3 (wFr_tr g4 k4) (by omega) k6 k7 k8
noncomputable def mTu (pl : List Int32) (t : Int32) : Int32 := if (pl.getD 4 0) ≠ (16 : Int32) then ((pl.getD 5 0) - (pl.getD 3 0)) + t else ((pl.getD 3 0) + (pl.getD 5 0)) - t
noncomputable def mUpL (lo hi : List Int32) (k0 k1 : Int32) (pl : List Int32) (a b : Int32) : Nat → Int32 → mS → mS
  | 0, _, s => s
  | n + 1, t, s => mUpL lo hi k0 k1 pl a b n (t + 1) (mHold lo hi k0 k1 pl s a b (pl.getD 4 0) t (mTu pl t))
theorem mUpL_none (lo hi : List Int32) (k0 k1 : Int32) (pl : List Int32) (a b : Int32) : ∀ (n : Nat) (t : Int32), mUpL lo hi k0 k1 pl a b n t none = none
  | 0, _ => rfl
  | n + 1, t => by
    unfold mUpL
    rw [mHold_none, mUpL_none lo hi k0 k1 pl a b n (t + 1)]
noncomputable def mPair (lo hi : List Int32) (k0 k1 : Int32) (pl : List Int32) (s : mS) (q : Int32 × Int32) : mS := if (pl.getD 4 0) = (16 : Int32) ∨ (pl.getD 4 0) = (48 : Int32) then mUpL lo hi k0 k1 pl q.1 q.2 64 (-32) s else mHold lo hi k0 k1 pl (mHold lo hi k0 k1 pl s q.1 q.2 (pl.getD 4 0) (jw (pl.getD 3 0)) (pl.getD 5 0)) q.1 q.2 (32 - (pl.getD 4 0)) (jw ((pl.getD 3 0) + 32)) ((pl.getD 5 0) + 32)
theorem mPair_none (lo hi : List Int32) (k0 k1 : Int32) (pl : List Int32) (q : Int32 × Int32) : mPair lo hi k0 k1 pl none q = none := by
  unfold mPair
  split
  · exact mUpL_none _ _ _ _ _ _ _ _ _
  · rw [mHold_none, mHold_none]
theorem mPair_fold_none (lo hi : List Int32) (k0 k1 : Int32) (pl : List Int32) : ∀ l : List (Int32 × Int32), l.foldl (mPair lo hi k0 k1 pl) none = none
  | [] => rfl
  | q :: l => by
    rw [List.foldl_cons, mPair_none]
    exact mPair_fold_none lo hi k0 k1 pl l
theorem m_turnFor (k : Int32) (h : zH) : zT zg0 zF zP 225 0 [(0, .int k)] [] h 0 0 (some (.int (jw k)), h, 0, 0) := ⟨20, rfl⟩
set_option maxHeartbeats 8000000 in
theorem m_upL {kn lo hi pl : List Int32} {o rp : Nat} {hg np ki a b : Int32} {Q : zR → Prop} (ho : o ≤ 5400) (hrp : rp = 190 ∨ rp = 222) : ∀ (n : Nat) (t : Int32) (h : zH) (s : mS) (fs : List Value) (fo : List Int64) (wn : Int32) (on : List Int32), t.toInt + n = 32 → n ≤ 64 → zat h 162 = some (.inr (.inr (.inr (10, fs)))) → mC fs → zat h 166 = some (.inl (0, 14, kn)) → zat h 168 = some (.inl (0, 12, lo)) → zat h 170 = some (.inl (0, 12, hi)) → fs[34]? = some (.int (mNum s)) → fs[35]? = some (.int wn) → zat h 196 = some (.inr (.inl (6000, fo))) → wFe F o s fo → zat h 204 = some (.inl (0, 6, on)) → zat h rp = some (.inl (0, 6, pl)) → (∀ (h2 : zH) (fs2 : List Value) (fo2 : List Int64) (wn2 : Int32) (on2 : List Int32) (t2 : Int32), wFr [162, 196, 204] h h2 → h2.length = h.length → zat h2 162 = some (.inr (.inr (.inr (10, fs2)))) → (mC fs2 ∧ mK fs fs2) → fs2[34]? = some (.int (mNum (mUpL lo hi (kn.getD 0 0) (kn.getD 1 0) pl a b n t s))) → fs2[35]? = some (.int wn2) → zat h2 196 = some (.inr (.inl (6000, fo2))) → wFe F o (mUpL lo hi (kn.getD 0 0) (kn.getD 1 0) pl a b n t s) fo2 → zat h2 204 = some (.inl (0, 6, on2)) → wq 226 307 [(0, .ref 162), (1, .ref rp), (2, .int (nI o)), (3, .int np), (4, .int hg), (5, .int 1), (6, .int ki), (7, .int a), (8, .int b), (9, .int t2)] [] h2 0 0 Q) → wq 226 241 [(0, .ref 162), (1, .ref rp), (2, .int (nI o)), (3, .int np), (4, .int hg), (5, .int 1), (6, .int ki), (7, .int a), (8, .int b), (9, .int t)] [] h 0 0 Q := by
  intro n
  induction n with
  | zero =>
    intro t h s fs fo wn on ht hn64 hM hC hK hO hG h34 h35 hF hfd hN hp kk
    refine wq_gos (f := 1) (pc2 := 245) (ls2 := [(0, .ref 162), (1, .ref rp), (2, .int (nI o)), (3, .int np), (4, .int hg), (5, .int 1), (6, .int ki), (7, .int a), (8, .int b), (9, .int t)]) (st2 := [.int 32, .int t]) (h2 := h) (dc2 := 0) (ds2 := 0) 2 rfl ?_
    refine wq_ge2t rfl (by show (32 : Int) ≤ t.toInt; omega) ?_
    refine wq_ls [(0, .ref 162), (1, .ref rp), (2, .int (nI o)), (3, .int np), (4, .int hg), (5, .int 1), (6, .int ki), (7, .int a), (8, .int b), (9, .int t)] (show ([0, 1, 2, 3, 4, 5, 6, 7, 8, 9] : List Nat).Nodup by decide) ⟨rfl, rfl, rfl, rfl, rfl, rfl, rfl, rfl, rfl, rfl, trivial⟩ ?_
    exact kk h fs fo wn on t (wFr_rf _ _) rfl hM ⟨hC, mK_rf fs⟩ h34 h35 hF hfd hN
  | succ n ih =>
    intro t h s fs fo wn on ht hn64 hM hC hK hO hG h34 h35 hF hfd hN hp kk
    have ht2 : (t + 1).toInt = t.toInt + 1 := z_inc (by omega)
    refine wq_gos (f := 1) (pc2 := 245) (ls2 := [(0, .ref 162), (1, .ref rp), (2, .int (nI o)), (3, .int np), (4, .int hg), (5, .int 1), (6, .int ki), (7, .int a), (8, .int b), (9, .int t)]) (st2 := [.int 32, .int t]) (h2 := h) (dc2 := 0) (ds2 := 0) 2 rfl ?_
    refine wq_ge2f rfl rfl (by show t.toInt < (32 : Int); omega) ?_
    refine wq_gos (f := 1) (pc2 := 249) (ls2 := [(0, .ref 162), (1, .ref rp), (2, .int (nI o)), (3, .int np), (4, .int hg), (5, .int 1), (6, .int ki), (7, .int a), (8, .int b), (9, .int t)]) (st2 := [.ref 162]) (h2 := h) (dc2 := 0) (ds2 := 0) 1 rfl ?_
    refine wq_getf rfl hM h34 rfl ?_
    refine wq_lt0 rfl rfl (fun b1x => ?_) (fun b1x => ?_)
    · have hn2x := mNum_neg hfd b1x
      rw [show (mUpL lo hi (kn.getD 0 0) (kn.getD 1 0) pl a b (n + 1) t s) = s by rw [hn2x, mUpL_none]] at kk
      refine wq_ls [(0, .ref 162), (1, .ref rp), (2, .int (nI o)), (3, .int np), (4, .int hg), (5, .int 1), (6, .int ki), (7, .int a), (8, .int b), (9, .int t)] (show ([0, 1, 2, 3, 4, 5, 6, 7, 8, 9] : List Nat).Nodup by decide) ⟨rfl, rfl, rfl, rfl, rfl, rfl, rfl, rfl, rfl, rfl, trivial⟩ ?_
      exact kk h fs fo wn on t (wFr_rf _ _) rfl hM ⟨hC, mK_rf fs⟩ h34 h35 hF hfd hN
    · obtain ⟨l3x, hl4x⟩ := mNum_pos b1x
      have p5x := h34
      have d6x := hfd
      rw [hl4x] at p5x d6x
      refine wq_gos (f := 1) (pc2 := 264) (ls2 := [(0, .ref 162), (1, .ref rp), (2, .int (nI o)), (3, .int np), (4, .int hg), (5, .int 1), (6, .int ki), (7, .int a), (8, .int b), (9, .int t)]) (st2 := [.int 4, .ref rp, .int b, .int a, .ref rp, .int (nI o), .ref 162]) (h2 := h) (dc2 := 0) (ds2 := 0) 7 rfl ?_
      refine wq_ialdk (k := 4) rfl hp rfl rfl rfl ?_
      refine wq_gos (f := 1) (pc2 := 269) (ls2 := [(0, .ref 162), (1, .ref rp), (2, .int (nI o)), (3, .int np), (4, .int hg), (5, .int 1), (6, .int ki), (7, .int a), (8, .int b), (9, .int t)]) (st2 := [.int 4, .ref rp, .int t, .int (pl.getD 4 0), .int b, .int a, .ref rp, .int (nI o), .ref 162]) (h2 := h) (dc2 := 0) (ds2 := 0) 3 rfl ?_
      refine wq_ialdk (k := 4) rfl hp rfl rfl rfl ?_
      refine wq_gos (f := 1) (pc2 := 272) (ls2 := [(0, .ref 162), (1, .ref rp), (2, .int (nI o)), (3, .int np), (4, .int hg), (5, .int 1), (6, .int ki), (7, .int a), (8, .int b), (9, .int t)]) (st2 := [.int 16, .int (pl.getD 4 0), .int t, .int (pl.getD 4 0), .int b, .int a, .ref rp, .int (nI o), .ref 162]) (h2 := h) (dc2 := 0) (ds2 := 0) 1 rfl ?_
      refine wq_ne2 rfl rfl (fun b7x => ?_) (fun b7x => ?_)
      · refine wq_gos (f := 1) (pc2 := 290) (ls2 := [(0, .ref 162), (1, .ref rp), (2, .int (nI o)), (3, .int np), (4, .int hg), (5, .int 1), (6, .int ki), (7, .int a), (8, .int b), (9, .int t)]) (st2 := [.int 5, .ref rp, .int t, .int (pl.getD 4 0), .int b, .int a, .ref rp, .int (nI o), .ref 162]) (h2 := h) (dc2 := 0) (ds2 := 0) 2 rfl ?_
        refine wq_ialdk (k := 5) rfl hp rfl rfl rfl ?_
        refine wq_gos (f := 1) (pc2 := 293) (ls2 := [(0, .ref 162), (1, .ref rp), (2, .int (nI o)), (3, .int np), (4, .int hg), (5, .int 1), (6, .int ki), (7, .int a), (8, .int b), (9, .int t)]) (st2 := [.int 3, .ref rp, .int (pl.getD 5 0), .int t, .int (pl.getD 4 0), .int b, .int a, .ref rp, .int (nI o), .ref 162]) (h2 := h) (dc2 := 0) (ds2 := 0) 2 rfl ?_
        refine wq_ialdk (k := 3) rfl hp rfl rfl rfl ?_
        refine wq_gos (f := 1) (pc2 := 298) (ls2 := [(0, .ref 162), (1, .ref rp), (2, .int (nI o)), (3, .int np), (4, .int hg), (5, .int 1), (6, .int ki), (7, .int a), (8, .int b), (9, .int t)]) (st2 := [.int (((pl.getD 5 0) - (pl.getD 3 0)) + t), .int t, .int (pl.getD 4 0), .int b, .int a, .ref rp, .int (nI o), .ref 162]) (h2 := h) (dc2 := 0) (ds2 := 0) 3 rfl ?_
        refine wq_inlv (y2 := 224) (as := [.int (nI o), .ref rp, .int a, .int b, .int (pl.getD 4 0), .int t, .int (((pl.getD 5 0) - (pl.getD 3 0)) + t)]) rfl rfl rfl hM rfl (wq_mono (m_holds (l := l3x) hM hC hK hO hG p5x h35 hF d6x ho hN hp hrp a b (pl.getD 4 0) t (((pl.getD 5 0) - (pl.getD 3 0)) + t)) ?_)
        rintro _ ⟨h8x, fs9x, fo10x, wn11x, rfl, f12x, l13x, e15x, e16x, e17x, e18x, e19x, e20x, on14x, e21x⟩
        show wq 226 301 [(0, .ref 162), (1, .ref rp), (2, .int (nI o)), (3, .int np), (4, .int hg), (5, .int 1), (6, .int ki), (7, .int a), (8, .int b), (9, .int t)] [] h8x 0 0 _
        refine wq_gos (f := 1) (pc2 := 241) (ls2 := [(9, .int (t + 1)), (0, .ref 162), (1, .ref rp), (2, .int (nI o)), (3, .int np), (4, .int hg), (5, .int 1), (6, .int ki), (7, .int a), (8, .int b)]) (st2 := []) (h2 := h8x) (dc2 := 0) (ds2 := 0) 2 rfl ?_
        have e22x := (f12x.2 _ _ (wnc (by decide) (wnc (by decide) (wnc (by decide) wn0))) hK)
        have e23x := (f12x.2 _ _ (wnc (by decide) (wnc (by decide) (wnc (by decide) wn0))) hO)
        have e24x := (f12x.2 _ _ (wnc (by decide) (wnc (by decide) (wnc (by decide) wn0))) hG)
        have e25x := (f12x.2 _ _ (wnc (by omega) (wnc (by omega) (wnc (by omega) wn0))) hp)
        have htu : mTu pl t = (((pl.getD 5 0) - (pl.getD 3 0)) + t) := by unfold mTu; rw [if_pos b7x]
        have hx : (mUpL lo hi (kn.getD 0 0) (kn.getD 1 0) pl a b (n + 1) t s) = mUpL lo hi (kn.getD 0 0) (kn.getD 1 0) pl a b n (t + 1) (mHold lo hi (kn.getD 0 0) (kn.getD 1 0) pl (some l3x) a b (pl.getD 4 0) t (((pl.getD 5 0) - (pl.getD 3 0)) + t)) := by show mUpL _ _ _ _ _ _ _ n (t + 1) _ = _; rw [htu, hl4x]
        rw [hx] at kk
        refine wq_ls [(0, .ref 162), (1, .ref rp), (2, .int (nI o)), (3, .int np), (4, .int hg), (5, .int 1), (6, .int ki), (7, .int a), (8, .int b), (9, .int (t + 1))] (show ([0, 1, 2, 3, 4, 5, 6, 7, 8, 9] : List Nat).Nodup by decide) ⟨rfl, rfl, rfl, rfl, rfl, rfl, rfl, rfl, rfl, rfl, trivial⟩ ?_
        refine ih (t + 1) h8x _ fs9x fo10x wn11x on14x (by omega) (by omega) e15x e16x.1 e22x e23x e24x e17x e18x e19x e20x e21x e25x ?_
        intro k0 k1 k2 k3 k4 k5 g1 g2 g3 g4 g5 g6 g7 g8 g9
        exact kk k0 k1 k2 k3 k4 k5 (wFr_tr (wFr_sub f12x (by simp)) g1) (by omega) g3 ⟨g4.1, mK_tr (mK_tr (mK_rf fs) e16x.2) g4.2⟩ g5 g6 g7 g8 g9
      · refine wq_gos (f := 1) (pc2 := 277) (ls2 := [(0, .ref 162), (1, .ref rp), (2, .int (nI o)), (3, .int np), (4, .int hg), (5, .int 1), (6, .int ki), (7, .int a), (8, .int b), (9, .int t)]) (st2 := [.int 3, .ref rp, .int t, .int (pl.getD 4 0), .int b, .int a, .ref rp, .int (nI o), .ref 162]) (h2 := h) (dc2 := 0) (ds2 := 0) 2 rfl ?_
        refine wq_ialdk (k := 3) rfl hp rfl rfl rfl ?_
        refine wq_gos (f := 1) (pc2 := 280) (ls2 := [(0, .ref 162), (1, .ref rp), (2, .int (nI o)), (3, .int np), (4, .int hg), (5, .int 1), (6, .int ki), (7, .int a), (8, .int b), (9, .int t)]) (st2 := [.int 5, .ref rp, .int (pl.getD 3 0), .int t, .int (pl.getD 4 0), .int b, .int a, .ref rp, .int (nI o), .ref 162]) (h2 := h) (dc2 := 0) (ds2 := 0) 2 rfl ?_
        refine wq_ialdk (k := 5) rfl hp rfl rfl rfl ?_
        refine wq_gos (f := 1) (pc2 := 298) (ls2 := [(0, .ref 162), (1, .ref rp), (2, .int (nI o)), (3, .int np), (4, .int hg), (5, .int 1), (6, .int ki), (7, .int a), (8, .int b), (9, .int t)]) (st2 := [.int (((pl.getD 3 0) + (pl.getD 5 0)) - t), .int t, .int (pl.getD 4 0), .int b, .int a, .ref rp, .int (nI o), .ref 162]) (h2 := h) (dc2 := 0) (ds2 := 0) 4 rfl ?_
        refine wq_inlv (y2 := 224) (as := [.int (nI o), .ref rp, .int a, .int b, .int (pl.getD 4 0), .int t, .int (((pl.getD 3 0) + (pl.getD 5 0)) - t)]) rfl rfl rfl hM rfl (wq_mono (m_holds (l := l3x) hM hC hK hO hG p5x h35 hF d6x ho hN hp hrp a b (pl.getD 4 0) t (((pl.getD 3 0) + (pl.getD 5 0)) - t)) ?_)
        rintro _ ⟨h26x, fs27x, fo28x, wn29x, rfl, f30x, l31x, e33x, e34x, e35x, e36x, e37x, e38x, on32x, e39x⟩
        show wq 226 301 [(0, .ref 162), (1, .ref rp), (2, .int (nI o)), (3, .int np), (4, .int hg), (5, .int 1), (6, .int ki), (7, .int a), (8, .int b), (9, .int t)] [] h26x 0 0 _
        refine wq_gos (f := 1) (pc2 := 241) (ls2 := [(9, .int (t + 1)), (0, .ref 162), (1, .ref rp), (2, .int (nI o)), (3, .int np), (4, .int hg), (5, .int 1), (6, .int ki), (7, .int a), (8, .int b)]) (st2 := []) (h2 := h26x) (dc2 := 0) (ds2 := 0) 2 rfl ?_
        have e40x := (f30x.2 _ _ (wnc (by decide) (wnc (by decide) (wnc (by decide) wn0))) hK)
        have e41x := (f30x.2 _ _ (wnc (by decide) (wnc (by decide) (wnc (by decide) wn0))) hO)
        have e42x := (f30x.2 _ _ (wnc (by decide) (wnc (by decide) (wnc (by decide) wn0))) hG)
        have e43x := (f30x.2 _ _ (wnc (by omega) (wnc (by omega) (wnc (by omega) wn0))) hp)
        have htu : mTu pl t = (((pl.getD 3 0) + (pl.getD 5 0)) - t) := by unfold mTu; rw [if_neg (fun q => q b7x)]
        have hx : (mUpL lo hi (kn.getD 0 0) (kn.getD 1 0) pl a b (n + 1) t s) = mUpL lo hi (kn.getD 0 0) (kn.getD 1 0) pl a b n (t + 1) (mHold lo hi (kn.getD 0 0) (kn.getD 1 0) pl (some l3x) a b (pl.getD 4 0) t (((pl.getD 3 0) + (pl.getD 5 0)) - t)) := by show mUpL _ _ _ _ _ _ _ n (t + 1) _ = _; rw [htu, hl4x]
        rw [hx] at kk
        refine wq_ls [(0, .ref 162), (1, .ref rp), (2, .int (nI o)), (3, .int np), (4, .int hg), (5, .int 1), (6, .int ki), (7, .int a), (8, .int b), (9, .int (t + 1))] (show ([0, 1, 2, 3, 4, 5, 6, 7, 8, 9] : List Nat).Nodup by decide) ⟨rfl, rfl, rfl, rfl, rfl, rfl, rfl, rfl, rfl, rfl, trivial⟩ ?_
        refine ih (t + 1) h26x _ fs27x fo28x wn29x on32x (by omega) (by omega) e33x e34x.1 e40x e41x e42x e35x e36x e37x e38x e39x e43x ?_
        intro k0 k1 k2 k3 k4 k5 g1 g2 g3 g4 g5 g6 g7 g8 g9
        exact kk k0 k1 k2 k3 k4 k5 (wFr_tr (wFr_sub f30x (by simp)) g1) (by omega) g3 ⟨g4.1, mK_tr (mK_tr (mK_rf fs) e34x.2) g4.2⟩ g5 g6 g7 g8 g9
end
