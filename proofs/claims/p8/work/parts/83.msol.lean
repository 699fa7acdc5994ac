/-! The reference's solves as a whole. -/
section
variable {F : Nat → Int64}
set_option maxHeartbeats 8000000 in
theorem m_main0 {kn lo hi pl pa pb : List Int32} {o rp : Nat} {hg : Int32} (ho : o ≤ 5400) (hrp : rp = 190 ∨ rp = 222) (hup : ¬ ((pl.getD 4 0) = (16 : Int32) ∨ (pl.getD 4 0) = (48 : Int32))) : ∀ (todo done : List (Int32 × Int32)) (h : zH) (s : mS) (fs : List Value) (fo : List Int64) (wn : Int32) (on : List Int32), (done ++ todo).length ≤ 4096 → wPr (done ++ todo) pa pb → zat h 162 = some (.inr (.inr (.inr (10, fs)))) → mC fs → zat h 166 = some (.inl (0, 14, kn)) → zat h 168 = some (.inl (0, 12, lo)) → zat h 170 = some (.inl (0, 12, hi)) → fs[34]? = some (.int (mNum s)) → fs[35]? = some (.int wn) → zat h 196 = some (.inr (.inl (6000, fo))) → wFe F o s fo → zat h 204 = some (.inl (0, 6, on)) → zat h rp = some (.inl (0, 6, pl)) → zat h 200 = some (.inl (0, 4096, pa)) → zat h 202 = some (.inl (0, 4096, pb)) → wq 226 138 [(0, .ref 162), (1, .ref rp), (2, .int (nI o)), (3, .int (nI (done ++ todo).length)), (4, .int hg), (5, .int 0), (6, .int (nI done.length))] [] h 0 0 (fun r => ∃ (h2 : zH) (fs2 : List Value) (fo2 : List Int64) (wn2 : Int32) (on2 : List Int32), r = (none, h2, 0, 0) ∧ wFr [162, 196, 204] h h2 ∧ h2.length = h.length ∧ zat h2 162 = some (.inr (.inr (.inr (10, fs2)))) ∧ (mC fs2 ∧ mK fs fs2) ∧ fs2[34]? = some (.int (mNum (todo.foldl (mPair lo hi (kn.getD 0 0) (kn.getD 1 0) pl) s))) ∧ fs2[35]? = some (.int wn2) ∧ zat h2 196 = some (.inr (.inl (6000, fo2))) ∧ wFe F o (todo.foldl (mPair lo hi (kn.getD 0 0) (kn.getD 1 0) pl) s) fo2 ∧ zat h2 204 = some (.inl (0, 6, on2))) := by
  intro todo
  induction todo with
  | nil =>
    intro done h s fs fo wn on hl4 hP hM hC hK hO hG h34 h35 hF hfd hN hp h200 h202
    refine wq_gos (f := 1) (pc2 := 141) (ls2 := [(0, .ref 162), (1, .ref rp), (2, .int (nI o)), (3, .int (nI (done ++ []).length)), (4, .int hg), (5, .int 0), (6, .int (nI done.length))]) (st2 := [.int (nI (done ++ []).length), .int (nI done.length)]) (h2 := h) (dc2 := 0) (ds2 := 0) 2 rfl ?_
    refine wq_ge2t rfl (by simp) ?_
    exact wq_ret rfl rfl ⟨h, fs, fo, wn, on, rfl, wFr_rf _ _, rfl, hM, ⟨hC, mK_rf fs⟩, h34, h35, hF, hfd, hN⟩
  | cons q todo ih =>
    intro done h s fs fo wn on hl4 hP hM hC hK hO hG h34 h35 hF hfd hN hp h200 h202
    have hlen : (done ++ q :: todo).length = done.length + (todo.length + 1) := by rw [List.length_append]; rfl
    have hd9 := nI_toInt (n := done.length) (by omega)
    have hd8 := nI_toInt (n := (done ++ q :: todo).length) (by omega)
    obtain ⟨g1, g2⟩ := hP done.length q (by rw [List.getElem?_append_right (Nat.le_refl _)]; simp)
    have hsnoc : done ++ q :: todo = (done ++ [q]) ++ todo := by simp
    have hdl : (done ++ [q]).length = done.length + 1 := by rw [List.length_append]; rfl
    refine wq_gos (f := 1) (pc2 := 141) (ls2 := [(0, .ref 162), (1, .ref rp), (2, .int (nI o)), (3, .int (nI (done ++ q :: todo).length)), (4, .int hg), (5, .int 0), (6, .int (nI done.length))]) (st2 := [.int (nI (done ++ q :: todo).length), .int (nI done.length)]) (h2 := h) (dc2 := 0) (ds2 := 0) 2 rfl ?_
    refine wq_ge2f rfl rfl (by rw [hd9, hd8]; omega) ?_
    refine wq_gos (f := 1) (pc2 := 145) (ls2 := [(0, .ref 162), (1, .ref rp), (2, .int (nI o)), (3, .int (nI (done ++ q :: todo).length)), (4, .int hg), (5, .int 0), (6, .int (nI done.length))]) (st2 := [.ref 162]) (h2 := h) (dc2 := 0) (ds2 := 0) 1 rfl ?_
    refine wq_getf rfl hM h34 rfl ?_
    refine wq_lt0 rfl rfl (fun b1x => ?_) (fun b1x => ?_)
    · have hn2x := mNum_neg hfd b1x
      have hx : ((q :: todo).foldl (mPair lo hi (kn.getD 0 0) (kn.getD 1 0) pl) s) = s := by rw [hn2x]; exact mPair_fold_none _ _ _ _ _ _
      rw [hx]
      exact wq_ret rfl rfl ⟨h, fs, fo, wn, on, rfl, wFr_rf _ _, rfl, hM, ⟨hC, mK_rf fs⟩, h34, h35, hF, hfd, hN⟩
    · obtain ⟨l3x, hl4x⟩ := mNum_pos b1x
      have p5x := h34
      have d6x := hfd
      rw [hl4x] at p5x d6x
      refine wq_gos (f := 1) (pc2 := 152) (ls2 := [(0, .ref 162), (1, .ref rp), (2, .int (nI o)), (3, .int (nI (done ++ q :: todo).length)), (4, .int hg), (5, .int 0), (6, .int (nI done.length))]) (st2 := [.ref 162]) (h2 := h) (dc2 := 0) (ds2 := 0) 1 rfl ?_
      refine wq_getf rfl hM (hC.2 (36, 200) (by decide)) rfl ?_
      refine wq_gos (f := 1) (pc2 := 157) (ls2 := [(0, .ref 162), (1, .ref rp), (2, .int (nI o)), (3, .int (nI (done ++ q :: todo).length)), (4, .int hg), (5, .int 0), (6, .int (nI done.length))]) (st2 := [.int (nI done.length), .ref 200]) (h2 := h) (dc2 := 0) (ds2 := 0) 1 rfl ?_
      refine wq_ialdn rfl h200 (by omega) (by decide) rfl ?_
      refine wq_vi g1 ?_
      refine wq_gos (f := 1) (pc2 := 161) (ls2 := [(7, .int q.1), (0, .ref 162), (1, .ref rp), (2, .int (nI o)), (3, .int (nI (done ++ q :: todo).length)), (4, .int hg), (5, .int 0), (6, .int (nI done.length))]) (st2 := [.ref 162]) (h2 := h) (dc2 := 0) (ds2 := 0) 2 rfl ?_
      refine wq_getf rfl hM (hC.2 (37, 202) (by decide)) rfl ?_
      refine wq_gos (f := 1) (pc2 := 166) (ls2 := [(7, .int q.1), (0, .ref 162), (1, .ref rp), (2, .int (nI o)), (3, .int (nI (done ++ q :: todo).length)), (4, .int hg), (5, .int 0), (6, .int (nI done.length))]) (st2 := [.int (nI done.length), .ref 202]) (h2 := h) (dc2 := 0) (ds2 := 0) 1 rfl ?_
      refine wq_ialdn rfl h202 (by omega) (by decide) rfl ?_
      refine wq_vi g2 ?_
      refine wq_gos (f := 1) (pc2 := 183) (ls2 := [(8, .int q.2), (7, .int q.1), (0, .ref 162), (1, .ref rp), (2, .int (nI o)), (3, .int (nI (done ++ q :: todo).length)), (4, .int hg), (5, .int 0), (6, .int (nI done.length))]) (st2 := [.int 4, .ref rp, .int q.2, .int q.1, .ref rp, .int (nI o), .ref 162]) (h2 := h) (dc2 := 0) (ds2 := 0) 10 rfl ?_
      refine wq_ialdk (k := 4) rfl hp rfl rfl rfl ?_
      refine wq_gos (f := 1) (pc2 := 186) (ls2 := [(8, .int q.2), (7, .int q.1), (0, .ref 162), (1, .ref rp), (2, .int (nI o)), (3, .int (nI (done ++ q :: todo).length)), (4, .int hg), (5, .int 0), (6, .int (nI done.length))]) (st2 := [.int 3, .ref rp, .int (pl.getD 4 0), .int q.2, .int q.1, .ref rp, .int (nI o), .ref 162]) (h2 := h) (dc2 := 0) (ds2 := 0) 2 rfl ?_
      refine wq_ialdk (k := 3) rfl hp rfl rfl rfl ?_
      refine wq_inl (y2 := 225) (as := [.int (pl.getD 3 0)]) rfl rfl rfl (wq_T (m_turnFor (pl.getD 3 0) h) ?_)
      show wq 226 190 [(8, .int q.2), (7, .int q.1), (0, .ref 162), (1, .ref rp), (2, .int (nI o)), (3, .int (nI (done ++ q :: todo).length)), (4, .int hg), (5, .int 0), (6, .int (nI done.length))] [.int (jw (pl.getD 3 0)), .int (pl.getD 4 0), .int q.2, .int q.1, .ref rp, .int (nI o), .ref 162] h 0 0 _
      refine wq_gos (f := 1) (pc2 := 192) (ls2 := [(8, .int q.2), (7, .int q.1), (0, .ref 162), (1, .ref rp), (2, .int (nI o)), (3, .int (nI (done ++ q :: todo).length)), (4, .int hg), (5, .int 0), (6, .int (nI done.length))]) (st2 := [.int 5, .ref rp, .int (jw (pl.getD 3 0)), .int (pl.getD 4 0), .int q.2, .int q.1, .ref rp, .int (nI o), .ref 162]) (h2 := h) (dc2 := 0) (ds2 := 0) 2 rfl ?_
      refine wq_ialdk (k := 5) rfl hp rfl rfl rfl ?_
      refine wq_inlv (y2 := 224) (as := [.int (nI o), .ref rp, .int q.1, .int q.2, .int (pl.getD 4 0), .int (jw (pl.getD 3 0)), .int (pl.getD 5 0)]) rfl rfl rfl hM rfl (wq_mono (m_holds (l := l3x) hM hC hK hO hG p5x h35 hF d6x ho hN hp hrp (q.1) (q.2) (pl.getD 4 0) (jw (pl.getD 3 0)) (pl.getD 5 0)) ?_)
      rintro _ ⟨h7x, fs8x, fo9x, wn10x, rfl, f11x, l12x, e14x, e15x, e16x, e17x, e18x, e19x, on13x, e20x⟩
      show wq 226 196 [(8, .int q.2), (7, .int q.1), (0, .ref 162), (1, .ref rp), (2, .int (nI o)), (3, .int (nI (done ++ q :: todo).length)), (4, .int hg), (5, .int 0), (6, .int (nI done.length))] [] h7x 0 0 _
      refine wq_gos (f := 1) (pc2 := 197) (ls2 := [(8, .int q.2), (7, .int q.1), (0, .ref 162), (1, .ref rp), (2, .int (nI o)), (3, .int (nI (done ++ q :: todo).length)), (4, .int hg), (5, .int 0), (6, .int (nI done.length))]) (st2 := [.ref 162]) (h2 := h7x) (dc2 := 0) (ds2 := 0) 1 rfl ?_
      refine wq_getf rfl e14x e16x rfl ?_
      refine wq_lt0 rfl rfl (fun b21x => ?_) (fun b21x => ?_)
      · have hn22x := mNum_neg e19x b21x
        refine wq_gos (f := 1) (pc2 := 138) (ls2 := [(6, .int ((nI done.length) + 1)), (8, .int q.2), (7, .int q.1), (0, .ref 162), (1, .ref rp), (2, .int (nI o)), (3, .int (nI (done ++ q :: todo).length)), (4, .int hg), (5, .int 0)]) (st2 := []) (h2 := h7x) (dc2 := 0) (ds2 := 0) 2 rfl ?_
        have e23x := (f11x.2 _ _ (wnc (by decide) (wnc (by decide) (wnc (by decide) wn0))) hK)
        have e24x := (f11x.2 _ _ (wnc (by decide) (wnc (by decide) (wnc (by decide) wn0))) hO)
        have e25x := (f11x.2 _ _ (wnc (by decide) (wnc (by decide) (wnc (by decide) wn0))) hG)
        have e26x := (f11x.2 _ _ (wnc (by omega) (wnc (by omega) (wnc (by omega) wn0))) hp)
        have e27x := (f11x.2 _ _ (wnc (by decide) (wnc (by decide) (wnc (by decide) wn0))) h200)
        have e28x := (f11x.2 _ _ (wnc (by decide) (wnc (by decide) (wnc (by decide) wn0))) h202)
        have hpx : mPair lo hi (kn.getD 0 0) (kn.getD 1 0) pl s q = (mHold lo hi (kn.getD 0 0) (kn.getD 1 0) pl (some l3x) (q.1) (q.2) (pl.getD 4 0) (jw (pl.getD 3 0)) (pl.getD 5 0)) := by unfold mPair; rw [if_neg hup, hl4x, hn22x, mHold_none]
        rw [List.foldl_cons, hpx]
        have hP9 := hP
        have hl9 := hl4
        rw [hsnoc] at hP9 hl9
        refine wq_ls [(0, .ref 162), (1, .ref rp), (2, .int (nI o)), (3, .int (nI (done ++ q :: todo).length)), (4, .int hg), (5, .int 0), (6, .int (nI done.length + 1))] (show ([0, 1, 2, 3, 4, 5, 6] : List Nat).Nodup by decide) ⟨rfl, rfl, rfl, rfl, rfl, rfl, rfl, trivial⟩ ?_
        rw [nI_1, ← hdl, hsnoc]
        refine wq_mono (ih (done ++ [q]) h7x (mHold lo hi (kn.getD 0 0) (kn.getD 1 0) pl (some l3x) (q.1) (q.2) (pl.getD 4 0) (jw (pl.getD 3 0)) (pl.getD 5 0)) fs8x fo9x wn10x on13x hl9 hP9 e14x e15x.1 e23x e24x e25x e16x e17x e18x e19x e20x e26x e27x e28x) ?_
        rintro _ ⟨k0, k1, k2, k3, k4, rfl, k5, k6, k7, k8, k9⟩
        exact ⟨k0, k1, k2, k3, k4, rfl, wFr_tr (wFr_sub f11x (by simp)) k5, by omega, k7, ⟨k8.1, mK_tr (mK_tr (mK_rf fs) e15x.2) k8.2⟩, k9⟩
      · obtain ⟨l29x, hl30x⟩ := mNum_pos b21x
        have p31x := e16x
        have d32x := e19x
        rw [hl30x] at p31x d32x
        refine wq_gos (f := 1) (pc2 := 214) (ls2 := [(8, .int q.2), (7, .int q.1), (0, .ref 162), (1, .ref rp), (2, .int (nI o)), (3, .int (nI (done ++ q :: todo).length)), (4, .int hg), (5, .int 0), (6, .int (nI done.length))]) (st2 := [.int 4, .ref rp, .int 32, .int q.2, .int q.1, .ref rp, .int (nI o), .ref 162]) (h2 := h7x) (dc2 := 0) (ds2 := 0) 8 rfl ?_
        have e33x := (f11x.2 _ _ (wnc (by omega) (wnc (by omega) (wnc (by omega) wn0))) hp)
        refine wq_ialdk (k := 4) rfl e33x rfl rfl rfl ?_
        refine wq_gos (f := 1) (pc2 := 218) (ls2 := [(8, .int q.2), (7, .int q.1), (0, .ref 162), (1, .ref rp), (2, .int (nI o)), (3, .int (nI (done ++ q :: todo).length)), (4, .int hg), (5, .int 0), (6, .int (nI done.length))]) (st2 := [.int 3, .ref rp, .int ((32 : Int32) - (pl.getD 4 0)), .int q.2, .int q.1, .ref rp, .int (nI o), .ref 162]) (h2 := h7x) (dc2 := 0) (ds2 := 0) 3 rfl ?_
        refine wq_ialdk (k := 3) rfl e33x rfl rfl rfl ?_
        refine wq_gos (f := 1) (pc2 := 222) (ls2 := [(8, .int q.2), (7, .int q.1), (0, .ref 162), (1, .ref rp), (2, .int (nI o)), (3, .int (nI (done ++ q :: todo).length)), (4, .int hg), (5, .int 0), (6, .int (nI done.length))]) (st2 := [.int ((pl.getD 3 0) + (32 : Int32)), .int ((32 : Int32) - (pl.getD 4 0)), .int q.2, .int q.1, .ref rp, .int (nI o), .ref 162]) (h2 := h7x) (dc2 := 0) (ds2 := 0) 2 rfl ?_
        refine wq_inl (y2 := 225) (as := [.int ((pl.getD 3 0) + (32 : Int32))]) rfl rfl rfl (wq_T (m_turnFor ((pl.getD 3 0) + (32 : Int32)) h7x) ?_)
        show wq 226 225 [(8, .int q.2), (7, .int q.1), (0, .ref 162), (1, .ref rp), (2, .int (nI o)), (3, .int (nI (done ++ q :: todo).length)), (4, .int hg), (5, .int 0), (6, .int (nI done.length))] [.int (jw ((pl.getD 3 0) + (32 : Int32))), .int ((32 : Int32) - (pl.getD 4 0)), .int q.2, .int q.1, .ref rp, .int (nI o), .ref 162] h7x 0 0 _
        refine wq_gos (f := 1) (pc2 := 227) (ls2 := [(8, .int q.2), (7, .int q.1), (0, .ref 162), (1, .ref rp), (2, .int (nI o)), (3, .int (nI (done ++ q :: todo).length)), (4, .int hg), (5, .int 0), (6, .int (nI done.length))]) (st2 := [.int 5, .ref rp, .int (jw ((pl.getD 3 0) + (32 : Int32))), .int ((32 : Int32) - (pl.getD 4 0)), .int q.2, .int q.1, .ref rp, .int (nI o), .ref 162]) (h2 := h7x) (dc2 := 0) (ds2 := 0) 2 rfl ?_
        refine wq_ialdk (k := 5) rfl e33x rfl rfl rfl ?_
        refine wq_gos (f := 1) (pc2 := 231) (ls2 := [(8, .int q.2), (7, .int q.1), (0, .ref 162), (1, .ref rp), (2, .int (nI o)), (3, .int (nI (done ++ q :: todo).length)), (4, .int hg), (5, .int 0), (6, .int (nI done.length))]) (st2 := [.int ((pl.getD 5 0) + (32 : Int32)), .int (jw ((pl.getD 3 0) + (32 : Int32))), .int ((32 : Int32) - (pl.getD 4 0)), .int q.2, .int q.1, .ref rp, .int (nI o), .ref 162]) (h2 := h7x) (dc2 := 0) (ds2 := 0) 2 rfl ?_
        have e34x := (f11x.2 _ _ (wnc (by decide) (wnc (by decide) (wnc (by decide) wn0))) hK)
        have e35x := (f11x.2 _ _ (wnc (by decide) (wnc (by decide) (wnc (by decide) wn0))) hO)
        have e36x := (f11x.2 _ _ (wnc (by decide) (wnc (by decide) (wnc (by decide) wn0))) hG)
        refine wq_inlv (y2 := 224) (as := [.int (nI o), .ref rp, .int q.1, .int q.2, .int ((32 : Int32) - (pl.getD 4 0)), .int (jw ((pl.getD 3 0) + (32 : Int32))), .int ((pl.getD 5 0) + (32 : Int32))]) rfl rfl rfl e14x rfl (wq_mono (m_holds (l := l29x) e14x e15x.1 e34x e35x e36x p31x e17x e18x d32x ho e20x e33x hrp (q.1) (q.2) ((32 : Int32) - (pl.getD 4 0)) (jw ((pl.getD 3 0) + (32 : Int32))) ((pl.getD 5 0) + (32 : Int32))) ?_)
        rintro _ ⟨h37x, fs38x, fo39x, wn40x, rfl, f41x, l42x, e44x, e45x, e46x, e47x, e48x, e49x, on43x, e50x⟩
        show wq 226 234 [(8, .int q.2), (7, .int q.1), (0, .ref 162), (1, .ref rp), (2, .int (nI o)), (3, .int (nI (done ++ q :: todo).length)), (4, .int hg), (5, .int 0), (6, .int (nI done.length))] [] h37x 0 0 _
        refine wq_gos (f := 1) (pc2 := 138) (ls2 := [(6, .int ((nI done.length) + 1)), (8, .int q.2), (7, .int q.1), (0, .ref 162), (1, .ref rp), (2, .int (nI o)), (3, .int (nI (done ++ q :: todo).length)), (4, .int hg), (5, .int 0)]) (st2 := []) (h2 := h37x) (dc2 := 0) (ds2 := 0) 3 rfl ?_
        have e51x := (f41x.2 _ _ (wnc (by decide) (wnc (by decide) (wnc (by decide) wn0))) e34x)
        have e52x := (f41x.2 _ _ (wnc (by decide) (wnc (by decide) (wnc (by decide) wn0))) e35x)
        have e53x := (f41x.2 _ _ (wnc (by decide) (wnc (by decide) (wnc (by decide) wn0))) e36x)
        have e54x := (f41x.2 _ _ (wnc (by omega) (wnc (by omega) (wnc (by omega) wn0))) e33x)
        have e55x := (f41x.2 _ _ (wnc (by decide) (wnc (by decide) (wnc (by decide) wn0))) (f11x.2 _ _ (wnc (by decide) (wnc (by decide) (wnc (by decide) wn0))) h200))
        have e56x := (f41x.2 _ _ (wnc (by decide) (wnc (by decide) (wnc (by decide) wn0))) (f11x.2 _ _ (wnc (by decide) (wnc (by decide) (wnc (by decide) wn0))) h202))
        have hpx : mPair lo hi (kn.getD 0 0) (kn.getD 1 0) pl s q = (mHold lo hi (kn.getD 0 0) (kn.getD 1 0) pl (some l29x) (q.1) (q.2) ((32 : Int32) - (pl.getD 4 0)) (jw ((pl.getD 3 0) + (32 : Int32))) ((pl.getD 5 0) + (32 : Int32))) := by unfold mPair; rw [if_neg hup, hl4x, hl30x]
        rw [List.foldl_cons, hpx]
        have hP9 := hP
        have hl9 := hl4
        rw [hsnoc] at hP9 hl9
        refine wq_ls [(0, .ref 162), (1, .ref rp), (2, .int (nI o)), (3, .int (nI (done ++ q :: todo).length)), (4, .int hg), (5, .int 0), (6, .int (nI done.length + 1))] (show ([0, 1, 2, 3, 4, 5, 6] : List Nat).Nodup by decide) ⟨rfl, rfl, rfl, rfl, rfl, rfl, rfl, trivial⟩ ?_
        rw [nI_1, ← hdl, hsnoc]
        refine wq_mono (ih (done ++ [q]) h37x (mHold lo hi (kn.getD 0 0) (kn.getD 1 0) pl (some l29x) (q.1) (q.2) ((32 : Int32) - (pl.getD 4 0)) (jw ((pl.getD 3 0) + (32 : Int32))) ((pl.getD 5 0) + (32 : Int32))) fs38x fo39x wn40x on43x hl9 hP9 e44x e45x.1 e51x e52x e53x e46x e47x e48x e49x e50x e54x e55x e56x) ?_
        rintro _ ⟨k0, k1, k2, k3, k4, rfl, k5, k6, k7, k8, k9⟩
        exact ⟨k0, k1, k2, k3, k4, rfl, wFr_tr (wFr_tr (wFr_sub f11x (by simp)) (wFr_sub f41x (by simp))) k5, by omega, k7, ⟨k8.1, mK_tr (mK_tr (mK_tr (mK_rf fs) e15x.2) e45x.2) k8.2⟩, k9⟩
set_option maxHeartbeats 8000000 in
theorem m_main1 {kn lo hi pl pa pb : List Int32} {o rp : Nat} {hg : Int32} (ho : o ≤ 5400) (hrp : rp = 190 ∨ rp = 222) (hup : (pl.getD 4 0) = (16 : Int32) ∨ (pl.getD 4 0) = (48 : Int32)) : ∀ (todo done : List (Int32 × Int32)) (h : zH) (s : mS) (fs : List Value) (fo : List Int64) (wn : Int32) (on : List Int32), (done ++ todo).length ≤ 4096 → wPr (done ++ todo) pa pb → zat h 162 = some (.inr (.inr (.inr (10, fs)))) → mC fs → zat h 166 = some (.inl (0, 14, kn)) → zat h 168 = some (.inl (0, 12, lo)) → zat h 170 = some (.inl (0, 12, hi)) → fs[34]? = some (.int (mNum s)) → fs[35]? = some (.int wn) → zat h 196 = some (.inr (.inl (6000, fo))) → wFe F o s fo → zat h 204 = some (.inl (0, 6, on)) → zat h rp = some (.inl (0, 6, pl)) → zat h 200 = some (.inl (0, 4096, pa)) → zat h 202 = some (.inl (0, 4096, pb)) → wq 226 138 [(0, .ref 162), (1, .ref rp), (2, .int (nI o)), (3, .int (nI (done ++ todo).length)), (4, .int hg), (5, .int 1), (6, .int (nI done.length))] [] h 0 0 (fun r => ∃ (h2 : zH) (fs2 : List Value) (fo2 : List Int64) (wn2 : Int32) (on2 : List Int32), r = (none, h2, 0, 0) ∧ wFr [162, 196, 204] h h2 ∧ h2.length = h.length ∧ zat h2 162 = some (.inr (.inr (.inr (10, fs2)))) ∧ (mC fs2 ∧ mK fs fs2) ∧ fs2[34]? = some (.int (mNum (todo.foldl (mPair lo hi (kn.getD 0 0) (kn.getD 1 0) pl) s))) ∧ fs2[35]? = some (.int wn2) ∧ zat h2 196 = some (.inr (.inl (6000, fo2))) ∧ wFe F o (todo.foldl (mPair lo hi (kn.getD 0 0) (kn.getD 1 0) pl) s) fo2 ∧ zat h2 204 = some (.inl (0, 6, on2))) := by
  intro todo
  induction todo with
  | nil =>
    intro done h s fs fo wn on hl4 hP hM hC hK hO hG h34 h35 hF hfd hN hp h200 h202
    refine wq_gos (f := 1) (pc2 := 141) (ls2 := [(0, .ref 162), (1, .ref rp), (2, .int (nI o)), (3, .int (nI (done ++ []).length)), (4, .int hg), (5, .int 1), (6, .int (nI done.length))]) (st2 := [.int (nI (done ++ []).length), .int (nI done.length)]) (h2 := h) (dc2 := 0) (ds2 := 0) 2 rfl ?_
    refine wq_ge2t rfl (by simp) ?_
    exact wq_ret rfl rfl ⟨h, fs, fo, wn, on, rfl, wFr_rf _ _, rfl, hM, ⟨hC, mK_rf fs⟩, h34, h35, hF, hfd, hN⟩
  | cons q todo ih =>
    intro done h s fs fo wn on hl4 hP hM hC hK hO hG h34 h35 hF hfd hN hp h200 h202
    have hlen : (done ++ q :: todo).length = done.length + (todo.length + 1) := by rw [List.length_append]; rfl
    have hd9 := nI_toInt (n := done.length) (by omega)
    have hd8 := nI_toInt (n := (done ++ q :: todo).length) (by omega)
    obtain ⟨g1, g2⟩ := hP done.length q (by rw [List.getElem?_append_right (Nat.le_refl _)]; simp)
    have hsnoc : done ++ q :: todo = (done ++ [q]) ++ todo := by simp
    have hdl : (done ++ [q]).length = done.length + 1 := by rw [List.length_append]; rfl
    refine wq_gos (f := 1) (pc2 := 141) (ls2 := [(0, .ref 162), (1, .ref rp), (2, .int (nI o)), (3, .int (nI (done ++ q :: todo).length)), (4, .int hg), (5, .int 1), (6, .int (nI done.length))]) (st2 := [.int (nI (done ++ q :: todo).length), .int (nI done.length)]) (h2 := h) (dc2 := 0) (ds2 := 0) 2 rfl ?_
    refine wq_ge2f rfl rfl (by rw [hd9, hd8]; omega) ?_
    refine wq_gos (f := 1) (pc2 := 145) (ls2 := [(0, .ref 162), (1, .ref rp), (2, .int (nI o)), (3, .int (nI (done ++ q :: todo).length)), (4, .int hg), (5, .int 1), (6, .int (nI done.length))]) (st2 := [.ref 162]) (h2 := h) (dc2 := 0) (ds2 := 0) 1 rfl ?_
    refine wq_getf rfl hM h34 rfl ?_
    refine wq_lt0 rfl rfl (fun b1x => ?_) (fun b1x => ?_)
    · have hn2x := mNum_neg hfd b1x
      have hx : ((q :: todo).foldl (mPair lo hi (kn.getD 0 0) (kn.getD 1 0) pl) s) = s := by rw [hn2x]; exact mPair_fold_none _ _ _ _ _ _
      rw [hx]
      exact wq_ret rfl rfl ⟨h, fs, fo, wn, on, rfl, wFr_rf _ _, rfl, hM, ⟨hC, mK_rf fs⟩, h34, h35, hF, hfd, hN⟩
    · obtain ⟨l3x, hl4x⟩ := mNum_pos b1x
      have p5x := h34
      have d6x := hfd
      rw [hl4x] at p5x d6x
      refine wq_gos (f := 1) (pc2 := 152) (ls2 := [(0, .ref 162), (1, .ref rp), (2, .int (nI o)), (3, .int (nI (done ++ q :: todo).length)), (4, .int hg), (5, .int 1), (6, .int (nI done.length))]) (st2 := [.ref 162]) (h2 := h) (dc2 := 0) (ds2 := 0) 1 rfl ?_
      refine wq_getf rfl hM (hC.2 (36, 200) (by decide)) rfl ?_
      refine wq_gos (f := 1) (pc2 := 157) (ls2 := [(0, .ref 162), (1, .ref rp), (2, .int (nI o)), (3, .int (nI (done ++ q :: todo).length)), (4, .int hg), (5, .int 1), (6, .int (nI done.length))]) (st2 := [.int (nI done.length), .ref 200]) (h2 := h) (dc2 := 0) (ds2 := 0) 1 rfl ?_
      refine wq_ialdn rfl h200 (by omega) (by decide) rfl ?_
      refine wq_vi g1 ?_
      refine wq_gos (f := 1) (pc2 := 161) (ls2 := [(7, .int q.1), (0, .ref 162), (1, .ref rp), (2, .int (nI o)), (3, .int (nI (done ++ q :: todo).length)), (4, .int hg), (5, .int 1), (6, .int (nI done.length))]) (st2 := [.ref 162]) (h2 := h) (dc2 := 0) (ds2 := 0) 2 rfl ?_
      refine wq_getf rfl hM (hC.2 (37, 202) (by decide)) rfl ?_
      refine wq_gos (f := 1) (pc2 := 166) (ls2 := [(7, .int q.1), (0, .ref 162), (1, .ref rp), (2, .int (nI o)), (3, .int (nI (done ++ q :: todo).length)), (4, .int hg), (5, .int 1), (6, .int (nI done.length))]) (st2 := [.int (nI done.length), .ref 202]) (h2 := h) (dc2 := 0) (ds2 := 0) 1 rfl ?_
      refine wq_ialdn rfl h202 (by omega) (by decide) rfl ?_
      refine wq_vi g2 ?_
      refine wq_gos (f := 1) (pc2 := 241) (ls2 := [(9, .int (-32)), (8, .int q.2), (7, .int q.1), (0, .ref 162), (1, .ref rp), (2, .int (nI o)), (3, .int (nI (done ++ q :: todo).length)), (4, .int hg), (5, .int 1), (6, .int (nI done.length))]) (st2 := []) (h2 := h) (dc2 := 0) (ds2 := 0) 5 rfl ?_
      refine wq_ls [(0, .ref 162), (1, .ref rp), (2, .int (nI o)), (3, .int (nI (done ++ q :: todo).length)), (4, .int hg), (5, .int 1), (6, .int (nI done.length)), (7, .int q.1), (8, .int q.2), (9, .int (-32))] (show ([0, 1, 2, 3, 4, 5, 6, 7, 8, 9] : List Nat).Nodup by decide) ⟨rfl, rfl, rfl, rfl, rfl, rfl, rfl, rfl, rfl, rfl, trivial⟩ ?_
      refine m_upL ho hrp 64 (-32) h (some l3x) fs fo wn on (by decide) (by decide) hM hC hK hO hG p5x h35 hF d6x hN hp ?_
      generalize hsx : (mUpL lo hi (kn.getD 0 0) (kn.getD 1 0) pl q.1 q.2 64 (-32) (some l3x)) = sx
      intro k0 k1 k2 k3 k4 k5 j1 j2 j3 j4 j5 j6 j7 j8 j9
      refine wq_gos (f := 1) (pc2 := 138) (ls2 := [(6, .int ((nI done.length) + 1)), (0, .ref 162), (1, .ref rp), (2, .int (nI o)), (3, .int (nI (done ++ q :: todo).length)), (4, .int hg), (5, .int 1), (7, .int q.1), (8, .int q.2), (9, .int k5)]) (st2 := []) (h2 := k0) (dc2 := 0) (ds2 := 0) 2 rfl ?_
      have e7x := (j1.2 _ _ (wnc (by decide) (wnc (by decide) (wnc (by decide) wn0))) hK)
      have e8x := (j1.2 _ _ (wnc (by decide) (wnc (by decide) (wnc (by decide) wn0))) hO)
      have e9x := (j1.2 _ _ (wnc (by decide) (wnc (by decide) (wnc (by decide) wn0))) hG)
      have e10x := (j1.2 _ _ (wnc (by omega) (wnc (by omega) (wnc (by omega) wn0))) hp)
      have e11x := (j1.2 _ _ (wnc (by decide) (wnc (by decide) (wnc (by decide) wn0))) h200)
      have e12x := (j1.2 _ _ (wnc (by decide) (wnc (by decide) (wnc (by decide) wn0))) h202)
      have hpx : mPair lo hi (kn.getD 0 0) (kn.getD 1 0) pl s q = sx := by unfold mPair; rw [if_pos hup, hl4x, hsx]
      rw [List.foldl_cons, hpx]
      have hP9 := hP
      have hl9 := hl4
      rw [hsnoc] at hP9 hl9
      refine wq_ls [(0, .ref 162), (1, .ref rp), (2, .int (nI o)), (3, .int (nI (done ++ q :: todo).length)), (4, .int hg), (5, .int 1), (6, .int (nI done.length + 1))] (show ([0, 1, 2, 3, 4, 5, 6] : List Nat).Nodup by decide) ⟨rfl, rfl, rfl, rfl, rfl, rfl, rfl, trivial⟩ ?_
      rw [nI_1, ← hdl, hsnoc]
      refine wq_mono (ih (done ++ [q]) k0 sx k1 k2 k3 k4 hl9 hP9 j3 j4.1 e7x e8x e9x j5 j6 j7 j8 j9 e10x e11x e12x) ?_
      rintro _ ⟨k0, k1, k2, k3, k4, rfl, k5, k6, k7, k8, k9⟩
      exact ⟨k0, k1, k2, k3, k4, rfl, wFr_tr (wFr_sub j1 (by simp)) k5, by omega, k7, ⟨k8.1, mK_tr (mK_tr (mK_rf fs) j4.2) k8.2⟩, k9⟩
noncomputable def mSol (lo hi kn pl : List Int32) : mS := (mPout (kn.getD 0 0) ((pl.getD 2 0) - (jhgt (kn.getD 2 0) (kn.getD 0 0) (kn.getD 1 0) 0 0 (pl.getD 4 0))) 64 (-32)).foldl (mPair lo hi (kn.getD 0 0) (kn.getD 1 0) pl) (some [])
set_option maxHeartbeats 8000000 in
theorem m_solvesE {h : zH} {fs : List Value} {kn lo hi : List Int32} {o rp : Nat} {f34 f35 : Value} {fo : List Int64} {on pl pa pb : List Int32} (hM : zat h 162 = some (.inr (.inr (.inr (10, fs))))) (hC : mC fs) (hK : zat h 166 = some (.inl (0, 14, kn))) (hO : zat h 168 = some (.inl (0, 12, lo))) (hG : zat h 170 = some (.inl (0, 12, hi))) (hF : zat h 196 = some (.inr (.inl (6000, fo)))) (ho : o ≤ 5400) (hN : zat h 204 = some (.inl (0, 6, on))) (hp : zat h rp = some (.inl (0, 6, pl))) (hrp : rp = 190 ∨ rp = 222) (h200 : zat h 200 = some (.inl (0, 4096, pa))) (h202 : zat h 202 = some (.inl (0, 4096, pb))) : wq 226 0 [(0, .ref 162), (1, .ref rp), (2, .int (nI o))] [] h 0 0 (fun r => (∃ (h2 : zH) (fs2 : List Value) (fo2 : List Int64) (wn2 : Int32) (on2 : List Int32), r = (none, h2, 0, 0) ∧ wFr [162, 196, 204, 200, 202] h h2 ∧ h2.length = h.length ∧ zat h2 162 = some (.inr (.inr (.inr (10, fs2)))) ∧ (mC fs2 ∧ mK fs fs2) ∧ fs2[34]? = some (.int (mNum (mSol lo hi kn pl))) ∧ fs2[35]? = some (.int wn2) ∧ zat h2 196 = some (.inr (.inl (6000, fo2))) ∧ wFe (fun q => fo.getD q 0) o (mSol lo hi kn pl) fo2 ∧ zat h2 204 = some (.inl (0, 6, on2))) ∧ ∃ (pa2 pb2 : List Int32), zat r.2.1 200 = some (.inl (0, 4096, pa2)) ∧ zat r.2.1 202 = some (.inl (0, 4096, pb2))) := by
  refine wq_gos (f := 1) (pc2 := 2) (ls2 := [(0, .ref 162), (1, .ref rp), (2, .int (nI o))]) (st2 := [.int 0, .ref 162]) (h2 := h) (dc2 := 0) (ds2 := 0) 2 rfl ?_
  refine wq_putf rfl hM rfl (by rw [hC.1]; rfl) rfl ?_
  intro h1x e2x f3x l4x
  obtain ⟨fs5x, hf6x⟩ : ∃ x, x = fs.set 34 (.int 0) := ⟨_, rfl⟩
  rw [← hf6x] at e2x
  have hC7x : mC fs5x := by rw [hf6x]; exact mC_set hC (by decide) _
  have sm8x := mK_tr (mK_rf fs) (show mK fs fs5x by rw [hf6x]; exact mK_set fs (by decide) _)
  have p9x : fs5x[34]? = some (.int 0) := by rw [hf6x]; exact List.getElem?_set_self (by rw [hC.1]; decide)
  refine wq_gos (f := 1) (pc2 := 7) (ls2 := [(0, .ref 162), (1, .ref rp), (2, .int (nI o))]) (st2 := [.int 1, .ref 162]) (h2 := h1x) (dc2 := 0) (ds2 := 0) 2 rfl ?_
  refine wq_putf rfl e2x rfl (by rw [hC7x.1]; rfl) rfl ?_
  intro h10x e11x f12x l13x
  obtain ⟨fs14x, hf15x⟩ : ∃ x, x = fs5x.set 35 (.int 1) := ⟨_, rfl⟩
  rw [← hf15x] at e11x
  have hC16x : mC fs14x := by rw [hf15x]; exact mC_set hC7x (by decide) _
  have sm17x := mK_tr sm8x (show mK fs5x fs14x by rw [hf15x]; exact mK_set fs5x (by decide) _)
  have p18x : fs14x[34]? = some (.int 0) := by rw [hf15x, List.getElem?_set_ne (by decide)]; exact p9x
  have p19x : fs14x[35]? = some (.int 1) := by rw [hf15x]; exact List.getElem?_set_self (by rw [hC7x.1]; decide)
  refine wq_gos (f := 1) (pc2 := 14) (ls2 := [(3, .int 0), (0, .ref 162), (1, .ref rp), (2, .int (nI o))]) (st2 := [.int 2, .ref rp]) (h2 := h10x) (dc2 := 0) (ds2 := 0) 4 rfl ?_
  have e20x := (f12x.2 _ _ (wnc (by omega) wn0) (f3x.2 _ _ (wnc (by omega) wn0) hp))
  refine wq_ialdk (k := 2) rfl e20x rfl rfl rfl ?_
  refine wq_gos (f := 1) (pc2 := 20) (ls2 := [(3, .int 0), (0, .ref 162), (1, .ref rp), (2, .int (nI o))]) (st2 := [.int 4, .ref rp, .int 0, .int 0, .ref 162, .int (pl.getD 2 0)]) (h2 := h10x) (dc2 := 0) (ds2 := 0) 5 rfl ?_
  refine wq_ialdk (k := 4) rfl e20x rfl rfl rfl ?_
  have e21x := (f12x.2 _ _ (wnc (by decide) wn0) (f3x.2 _ _ (wnc (by decide) wn0) hK))
  have e22x := (f12x.2 _ _ (wnc (by decide) wn0) (f3x.2 _ _ (wnc (by decide) wn0) hO))
  have e23x := (f12x.2 _ _ (wnc (by decide) wn0) (f3x.2 _ _ (wnc (by decide) wn0) hG))
  refine wq_inlv (y2 := 198) (as := [.int 0, .int 0, .int (pl.getD 4 0)]) rfl rfl rfl e11x rfl (wq_T (c_heightBy e11x (hC16x.2 (3, 166) (by decide)) (hC16x.2 (4, 168) (by decide)) (hC16x.2 (5, 170) (by decide)) e21x e22x e23x (0 : Int32) (0 : Int32) (pl.getD 4 0)) ?_)
  show wq 226 24 [(3, .int 0), (0, .ref 162), (1, .ref rp), (2, .int (nI o))] [.int (jhgt (kn.getD 2 0) (kn.getD 0 0) (kn.getD 1 0) (0 : Int32) (0 : Int32) (pl.getD 4 0)), .int (pl.getD 2 0)] h10x 0 0 _
  refine wq_gos (f := 1) (pc2 := 31) (ls2 := [(5, .int (-32)), (4, .int ((pl.getD 2 0) - (jhgt (kn.getD 2 0) (kn.getD 0 0) (kn.getD 1 0) (0 : Int32) (0 : Int32) (pl.getD 4 0)))), (3, .int 0), (0, .ref 162), (1, .ref rp), (2, .int (nI o))]) (st2 := []) (h2 := h10x) (dc2 := 0) (ds2 := 0) 4 rfl ?_
  refine wq_ls [(0, .ref 162), (1, .ref rp), (2, .int (nI o)), (3, .int (nI ([] : List (Int32 × Int32)).length)), (4, .int ((pl.getD 2 0) - (jhgt (kn.getD 2 0) (kn.getD 0 0) (kn.getD 1 0) (0 : Int32) (0 : Int32) (pl.getD 4 0)))), (5, .int (-32))] (show ([0, 1, 2, 3, 4, 5] : List Nat).Nodup by decide) ⟨rfl, rfl, rfl, rfl, rfl, rfl, trivial⟩ ?_
  have e24x := (f12x.2 _ _ (wnc (by decide) wn0) (f3x.2 _ _ (wnc (by decide) wn0) h200))
  have e25x := (f12x.2 _ _ (wnc (by decide) wn0) (f3x.2 _ _ (wnc (by decide) wn0) h202))
  refine m_pout (hg := ((pl.getD 2 0) - (jhgt (kn.getD 2 0) (kn.getD 0 0) (kn.getD 1 0) (0 : Int32) (0 : Int32) (pl.getD 4 0)))) hC16x 64 (-32) h10x [] _ _ (by decide) (by decide) (by decide) e11x e21x e24x e25x (fun i q hq => by simp at hq) ?_
  intro k0 k1 k2 k3 j1 j2 j3 j4 j5
  obtain ⟨PX, hPX⟩ : ∃ x, x = mPout (kn.getD 0 0) ((pl.getD 2 0) - (jhgt (kn.getD 2 0) (kn.getD 0 0) (kn.getD 1 0) (0 : Int32) (0 : Int32) (pl.getD 4 0))) 64 (-32) := ⟨_, rfl⟩
  have hpl : PX.length ≤ 4096 := by rw [hPX]; exact mPout_len (kn.getD 0 0) ((pl.getD 2 0) - (jhgt (kn.getD 2 0) (kn.getD 0 0) (kn.getD 1 0) (0 : Int32) (0 : Int32) (pl.getD 4 0))) 64 (-32)
  have hms : mSol lo hi kn pl = PX.foldl (mPair lo hi (kn.getD 0 0) (kn.getD 1 0) pl) (some []) := by unfold mSol; rw [hPX]
  rw [← hPX, List.nil_append] at j5 ⊢
  refine wq_gos (f := 1) (pc2 := 114) (ls2 := [(0, .ref 162), (1, .ref rp), (2, .int (nI o)), (3, .int (nI PX.length)), (4, .int ((pl.getD 2 0) - (jhgt (kn.getD 2 0) (kn.getD 0 0) (kn.getD 1 0) (0 : Int32) (0 : Int32) (pl.getD 4 0)))), (5, .int k3)]) (st2 := [.int 4, .ref rp]) (h2 := k0) (dc2 := 0) (ds2 := 0) 2 rfl ?_
  have e26x := (j1.2 _ _ (wnc (by omega) (wnc (by omega) wn0)) e20x)
  refine wq_ialdk (k := 4) rfl e26x rfl rfl rfl ?_
  refine wq_gos (f := 1) (pc2 := 117) (ls2 := [(0, .ref 162), (1, .ref rp), (2, .int (nI o)), (3, .int (nI PX.length)), (4, .int ((pl.getD 2 0) - (jhgt (kn.getD 2 0) (kn.getD 0 0) (kn.getD 1 0) (0 : Int32) (0 : Int32) (pl.getD 4 0)))), (5, .int k3)]) (st2 := [.int 16, .int (pl.getD 4 0)]) (h2 := k0) (dc2 := 0) (ds2 := 0) 1 rfl ?_
  refine wq_eq2 rfl rfl (fun b27x => ?_) (fun b27x => ?_)
  · refine wq_gos (f := 1) (pc2 := 138) (ls2 := [(6, .int 0), (5, .int 1), (0, .ref 162), (1, .ref rp), (2, .int (nI o)), (3, .int (nI PX.length)), (4, .int ((pl.getD 2 0) - (jhgt (kn.getD 2 0) (kn.getD 0 0) (kn.getD 1 0) (0 : Int32) (0 : Int32) (pl.getD 4 0))))]) (st2 := []) (h2 := k0) (dc2 := 0) (ds2 := 0) 5 rfl ?_
    have e28x := (j1.2 _ _ (wnc (by decide) (wnc (by decide) wn0)) e11x)
    have e29x := (j1.2 _ _ (wnc (by decide) (wnc (by decide) wn0)) e21x)
    have e30x := (j1.2 _ _ (wnc (by decide) (wnc (by decide) wn0)) e22x)
    have e31x := (j1.2 _ _ (wnc (by decide) (wnc (by decide) wn0)) e23x)
    have e32x := (j1.2 _ _ (wnc (by decide) (wnc (by decide) wn0)) (f12x.2 _ _ (wnc (by decide) wn0) (f3x.2 _ _ (wnc (by decide) wn0) hF)))
    have e33x := (j1.2 _ _ (wnc (by decide) (wnc (by decide) wn0)) (f12x.2 _ _ (wnc (by decide) wn0) (f3x.2 _ _ (wnc (by decide) wn0) hN)))
    refine wq_ls [(0, .ref 162), (1, .ref rp), (2, .int (nI o)), (3, .int (nI PX.length)), (4, .int ((pl.getD 2 0) - (jhgt (kn.getD 2 0) (kn.getD 0 0) (kn.getD 1 0) (0 : Int32) (0 : Int32) (pl.getD 4 0)))), (5, .int 1), (6, .int (nI ([] : List (Int32 × Int32)).length))] (show ([0, 1, 2, 3, 4, 5, 6] : List Nat).Nodup by decide) ⟨rfl, rfl, rfl, rfl, rfl, rfl, rfl, trivial⟩ ?_
    rw [hms]
    refine wq_mono (m_main1 ho hrp (Or.inl b27x) PX [] k0 (some []) _ _ _ _ hpl j5 e28x hC16x e29x e30x e31x p18x p19x e32x ⟨⟨by decide, fun i z hz => by simp at hz⟩, fun _ _ => rfl⟩ e33x e26x j3 j4) ?_
    rintro _ ⟨z0, z1, z2, z3, z4, rfl, z5, z6, z7, z8, z9⟩
    refine ⟨⟨z0, z1, z2, z3, z4, rfl, wFr_tr (wFr_tr (wFr_sub f3x (by simp)) (wFr_tr (wFr_sub f12x (by simp)) (wFr_sub j1 (by simp)))) (wFr_sub z5 (by simp)), by omega, z7, ⟨z8.1, mK_tr sm17x z8.2⟩, z9⟩, k1, k2, z5.2 _ _ (by decide) j3, z5.2 _ _ (by decide) j4⟩
  · refine wq_gos (f := 1) (pc2 := 122) (ls2 := [(0, .ref 162), (1, .ref rp), (2, .int (nI o)), (3, .int (nI PX.length)), (4, .int ((pl.getD 2 0) - (jhgt (kn.getD 2 0) (kn.getD 0 0) (kn.getD 1 0) (0 : Int32) (0 : Int32) (pl.getD 4 0)))), (5, .int k3)]) (st2 := [.int 4, .ref rp]) (h2 := k0) (dc2 := 0) (ds2 := 0) 2 rfl ?_
    refine wq_ialdk (k := 4) rfl e26x rfl rfl rfl ?_
    refine wq_gos (f := 1) (pc2 := 125) (ls2 := [(0, .ref 162), (1, .ref rp), (2, .int (nI o)), (3, .int (nI PX.length)), (4, .int ((pl.getD 2 0) - (jhgt (kn.getD 2 0) (kn.getD 0 0) (kn.getD 1 0) (0 : Int32) (0 : Int32) (pl.getD 4 0)))), (5, .int k3)]) (st2 := [.int 48, .int (pl.getD 4 0)]) (h2 := k0) (dc2 := 0) (ds2 := 0) 1 rfl ?_
    refine wq_ne2 rfl rfl (fun b34x => ?_) (fun b34x => ?_)
    · refine wq_gos (f := 1) (pc2 := 138) (ls2 := [(6, .int 0), (5, .int 0), (0, .ref 162), (1, .ref rp), (2, .int (nI o)), (3, .int (nI PX.length)), (4, .int ((pl.getD 2 0) - (jhgt (kn.getD 2 0) (kn.getD 0 0) (kn.getD 1 0) (0 : Int32) (0 : Int32) (pl.getD 4 0))))]) (st2 := []) (h2 := k0) (dc2 := 0) (ds2 := 0) 4 rfl ?_
      have e35x := (j1.2 _ _ (wnc (by decide) (wnc (by decide) wn0)) e11x)
      have e36x := (j1.2 _ _ (wnc (by decide) (wnc (by decide) wn0)) e21x)
      have e37x := (j1.2 _ _ (wnc (by decide) (wnc (by decide) wn0)) e22x)
      have e38x := (j1.2 _ _ (wnc (by decide) (wnc (by decide) wn0)) e23x)
      have e39x := (j1.2 _ _ (wnc (by decide) (wnc (by decide) wn0)) (f12x.2 _ _ (wnc (by decide) wn0) (f3x.2 _ _ (wnc (by decide) wn0) hF)))
      have e40x := (j1.2 _ _ (wnc (by decide) (wnc (by decide) wn0)) (f12x.2 _ _ (wnc (by decide) wn0) (f3x.2 _ _ (wnc (by decide) wn0) hN)))
      refine wq_ls [(0, .ref 162), (1, .ref rp), (2, .int (nI o)), (3, .int (nI PX.length)), (4, .int ((pl.getD 2 0) - (jhgt (kn.getD 2 0) (kn.getD 0 0) (kn.getD 1 0) (0 : Int32) (0 : Int32) (pl.getD 4 0)))), (5, .int 0), (6, .int (nI ([] : List (Int32 × Int32)).length))] (show ([0, 1, 2, 3, 4, 5, 6] : List Nat).Nodup by decide) ⟨rfl, rfl, rfl, rfl, rfl, rfl, rfl, trivial⟩ ?_
      rw [hms]
      refine wq_mono (m_main0 ho hrp (fun q => q.elim b27x b34x) PX [] k0 (some []) _ _ _ _ hpl j5 e35x hC16x e36x e37x e38x p18x p19x e39x ⟨⟨by decide, fun i z hz => by simp at hz⟩, fun _ _ => rfl⟩ e40x e26x j3 j4) ?_
      rintro _ ⟨z0, z1, z2, z3, z4, rfl, z5, z6, z7, z8, z9⟩
      refine ⟨⟨z0, z1, z2, z3, z4, rfl, wFr_tr (wFr_tr (wFr_sub f3x (by simp)) (wFr_tr (wFr_sub f12x (by simp)) (wFr_sub j1 (by simp)))) (wFr_sub z5 (by simp)), by omega, z7, ⟨z8.1, mK_tr sm17x z8.2⟩, z9⟩, k1, k2, z5.2 _ _ (by decide) j3, z5.2 _ _ (by decide) j4⟩
    · refine wq_gos (f := 1) (pc2 := 138) (ls2 := [(6, .int 0), (5, .int 1), (0, .ref 162), (1, .ref rp), (2, .int (nI o)), (3, .int (nI PX.length)), (4, .int ((pl.getD 2 0) - (jhgt (kn.getD 2 0) (kn.getD 0 0) (kn.getD 1 0) (0 : Int32) (0 : Int32) (pl.getD 4 0))))]) (st2 := []) (h2 := k0) (dc2 := 0) (ds2 := 0) 5 rfl ?_
      have e41x := (j1.2 _ _ (wnc (by decide) (wnc (by decide) wn0)) e11x)
      have e42x := (j1.2 _ _ (wnc (by decide) (wnc (by decide) wn0)) e21x)
      have e43x := (j1.2 _ _ (wnc (by decide) (wnc (by decide) wn0)) e22x)
      have e44x := (j1.2 _ _ (wnc (by decide) (wnc (by decide) wn0)) e23x)
      have e45x := (j1.2 _ _ (wnc (by decide) (wnc (by decide) wn0)) (f12x.2 _ _ (wnc (by decide) wn0) (f3x.2 _ _ (wnc (by decide) wn0) hF)))
      have e46x := (j1.2 _ _ (wnc (by decide) (wnc (by decide) wn0)) (f12x.2 _ _ (wnc (by decide) wn0) (f3x.2 _ _ (wnc (by decide) wn0) hN)))
      refine wq_ls [(0, .ref 162), (1, .ref rp), (2, .int (nI o)), (3, .int (nI PX.length)), (4, .int ((pl.getD 2 0) - (jhgt (kn.getD 2 0) (kn.getD 0 0) (kn.getD 1 0) (0 : Int32) (0 : Int32) (pl.getD 4 0)))), (5, .int 1), (6, .int (nI ([] : List (Int32 × Int32)).length))] (show ([0, 1, 2, 3, 4, 5, 6] : List Nat).Nodup by decide) ⟨rfl, rfl, rfl, rfl, rfl, rfl, rfl, trivial⟩ ?_
      rw [hms]
      refine wq_mono (m_main1 ho hrp (Or.inr b34x) PX [] k0 (some []) _ _ _ _ hpl j5 e41x hC16x e42x e43x e44x p18x p19x e45x ⟨⟨by decide, fun i z hz => by simp at hz⟩, fun _ _ => rfl⟩ e46x e26x j3 j4) ?_
      rintro _ ⟨z0, z1, z2, z3, z4, rfl, z5, z6, z7, z8, z9⟩
      refine ⟨⟨z0, z1, z2, z3, z4, rfl, wFr_tr (wFr_tr (wFr_sub f3x (by simp)) (wFr_tr (wFr_sub f12x (by simp)) (wFr_sub j1 (by simp)))) (wFr_sub z5 (by simp)), by omega, z7, ⟨z8.1, mK_tr sm17x z8.2⟩, z9⟩, k1, k2, z5.2 _ _ (by decide) j3, z5.2 _ _ (by decide) j4⟩
theorem m_solves {h : zH} {fs : List Value} {kn lo hi : List Int32} {o rp : Nat} {f34 f35 : Value} {fo : List Int64} {on pl pa pb : List Int32} (hM : zat h 162 = some (.inr (.inr (.inr (10, fs))))) (hC : mC fs) (hK : zat h 166 = some (.inl (0, 14, kn))) (hO : zat h 168 = some (.inl (0, 12, lo))) (hG : zat h 170 = some (.inl (0, 12, hi))) (hF : zat h 196 = some (.inr (.inl (6000, fo)))) (ho : o ≤ 5400) (hN : zat h 204 = some (.inl (0, 6, on))) (hp : zat h rp = some (.inl (0, 6, pl))) (hrp : rp = 190 ∨ rp = 222) (h200 : zat h 200 = some (.inl (0, 4096, pa))) (h202 : zat h 202 = some (.inl (0, 4096, pb))) : wq 226 0 [(0, .ref 162), (1, .ref rp), (2, .int (nI o))] [] h 0 0 (fun r => (∃ (h2 : zH) (fs2 : List Value) (fo2 : List Int64) (wn2 : Int32) (on2 : List Int32), r = (none, h2, 0, 0) ∧ wFr [162, 196, 204, 200, 202] h h2 ∧ h2.length = h.length ∧ zat h2 162 = some (.inr (.inr (.inr (10, fs2)))) ∧ (mC fs2 ∧ mK fs fs2) ∧ fs2[34]? = some (.int (mNum (mSol lo hi kn pl))) ∧ fs2[35]? = some (.int wn2) ∧ zat h2 196 = some (.inr (.inl (6000, fo2))) ∧ wFd o (mSol lo hi kn pl) fo2 ∧ zat h2 204 = some (.inl (0, 6, on2))) ∧ ∃ (pa2 pb2 : List Int32), zat r.2.1 200 = some (.inl (0, 4096, pa2)) ∧ zat r.2.1 202 = some (.inl (0, 4096, pb2))) := by
  refine wq_mono (m_solvesE (f34 := f34) (f35 := f35) hM hC hK hO hG hF ho hN hp hrp h200 h202) ?_
  rintro _ ⟨⟨z0, z1, z2, z3, z4, rfl, z5, z6, z7, z8, z9, z10, z11, z12, z13⟩, zz⟩
  exact ⟨⟨z0, z1, z2, z3, z4, rfl, z5, z6, z7, z8, z9, z10, z11, z12.1, z13⟩, zz⟩
end
