/-! chance at the first state: op 37. -/
def jBad (se nn ww : Int32) : Prop := se.toInt < -1 ∨ nn.toInt < 1 ∨ 20 < nn.toInt ∨ ww.toInt < 0 ∨ 3 < ww.toInt
theorem c_chBad {h : zH} {se nn ww : Int32} (hbad : jBad se nn ww) : zT zg0 zF zP 138 0 [(0, .ref 0), (1, .int se), (2, .int nn), (3, .int ww)] [] h 0 0 (some (.int (-1)), h, 0, 0) := by
  have e_1 : (-1 : Int32).toInt = -1 := rfl
  have e_0 : (0 : Int32).toInt = 0 := rfl
  have e1 : (1 : Int32).toInt = 1 := rfl
  have e3 : (3 : Int32).toInt = 3 := rfl
  have e20 : (20 : Int32).toInt = 20 := rfl
  apply wq_toT
  refine wq_gos (f := 1) (pc2 := 2) (ls2 := [(0, .ref 0), (1, .int se), (2, .int nn), (3, .int ww)]) (st2 := [.int (-1), .int se]) (h2 := h) (dc2 := 0) (ds2 := 0) 2 rfl ?_
  refine wq_lt2 rfl rfl (fun b1x => ?_) (fun b1x => ?_)
  · refine wq_gos (f := 1) (pc2 := 26) (ls2 := [(0, .ref 0), (1, .int se), (2, .int nn), (3, .int ww)]) (st2 := [.int (-1)]) (h2 := h) (dc2 := 0) (ds2 := 0) 1 rfl ?_
    exact wq_ret rfl rfl rfl
  · refine wq_gos (f := 1) (pc2 := 7) (ls2 := [(0, .ref 0), (1, .int se), (2, .int nn), (3, .int ww)]) (st2 := [.int 1, .int nn]) (h2 := h) (dc2 := 0) (ds2 := 0) 2 rfl ?_
    refine wq_lt2 rfl rfl (fun b2x => ?_) (fun b2x => ?_)
    · refine wq_gos (f := 1) (pc2 := 26) (ls2 := [(0, .ref 0), (1, .int se), (2, .int nn), (3, .int ww)]) (st2 := [.int (-1)]) (h2 := h) (dc2 := 0) (ds2 := 0) 1 rfl ?_
      exact wq_ret rfl rfl rfl
    · refine wq_gos (f := 1) (pc2 := 13) (ls2 := [(0, .ref 0), (1, .int se), (2, .int nn), (3, .int ww)]) (st2 := [.int 20, .int nn]) (h2 := h) (dc2 := 0) (ds2 := 0) 2 rfl ?_
      refine wq_gt2 rfl rfl (fun b3x => ?_) (fun b3x => ?_)
      · refine wq_gos (f := 1) (pc2 := 26) (ls2 := [(0, .ref 0), (1, .int se), (2, .int nn), (3, .int ww)]) (st2 := [.int (-1)]) (h2 := h) (dc2 := 0) (ds2 := 0) 1 rfl ?_
        exact wq_ret rfl rfl rfl
      · refine wq_gos (f := 1) (pc2 := 17) (ls2 := [(0, .ref 0), (1, .int se), (2, .int nn), (3, .int ww)]) (st2 := [.int ww]) (h2 := h) (dc2 := 0) (ds2 := 0) 1 rfl ?_
        refine wq_lt0 rfl rfl (fun b4x => ?_) (fun b4x => ?_)
        · refine wq_gos (f := 1) (pc2 := 26) (ls2 := [(0, .ref 0), (1, .int se), (2, .int nn), (3, .int ww)]) (st2 := [.int (-1)]) (h2 := h) (dc2 := 0) (ds2 := 0) 1 rfl ?_
          exact wq_ret rfl rfl rfl
        · refine wq_gos (f := 1) (pc2 := 22) (ls2 := [(0, .ref 0), (1, .int se), (2, .int nn), (3, .int ww)]) (st2 := [.int 3, .int ww]) (h2 := h) (dc2 := 0) (ds2 := 0) 2 rfl ?_
          refine wq_le2 rfl rfl (fun b5x => ?_) (fun b5x => ?_)
          · exfalso; unfold jBad at hbad; omega
          · refine wq_gos (f := 1) (pc2 := 26) (ls2 := [(0, .ref 0), (1, .int se), (2, .int nn), (3, .int ww)]) (st2 := [.int (-1)]) (h2 := h) (dc2 := 0) (ds2 := 0) 1 rfl ?_
            exact wq_ret rfl rfl rfl
theorem m_chBad {h : zH} {fs : List Value} {se nn ww : Int32} (hbad : jBad se nn ww) (hM : zat h 162 = some (.inr (.inr (.inr (10, fs))))) (hC : mC fs) : wq 280 0 [(0, .ref 162), (1, .int se), (2, .int nn), (3, .int ww)] [] h 0 0 (fun r => ∃ h2, r = (some (.int (-1)), h2, 0, 0) ∧ wFr [162] h h2) := by
  have e_1 : (-1 : Int32).toInt = -1 := rfl
  have e_0 : (0 : Int32).toInt = 0 := rfl
  have e1 : (1 : Int32).toInt = 1 := rfl
  have e3 : (3 : Int32).toInt = 3 := rfl
  have e20 : (20 : Int32).toInt = 20 := rfl
  refine wq_gos (f := 1) (pc2 := 2) (ls2 := [(0, .ref 162), (1, .int se), (2, .int nn), (3, .int ww)]) (st2 := [.int 0, .ref 162]) (h2 := h) (dc2 := 0) (ds2 := 0) 2 rfl ?_
  refine wq_putf rfl hM rfl (by rw [hC.1]; rfl) rfl ?_
  intro h1x e2x f3x l4x
  obtain ⟨fs5x, hf6x⟩ : ∃ x, x = fs.set 0 (.int 0) := ⟨_, rfl⟩
  rw [← hf6x] at e2x
  have hC7x : mC fs5x := by rw [hf6x]; exact mC_set hC (by decide) _
  have p8x : fs5x[0]? = some (.int 0) := by rw [hf6x]; exact List.getElem?_set_self (by rw [hC.1]; decide)
  refine wq_gos (f := 1) (pc2 := 7) (ls2 := [(0, .ref 162), (1, .int se), (2, .int nn), (3, .int ww)]) (st2 := [.int (-1), .int se]) (h2 := h1x) (dc2 := 0) (ds2 := 0) 2 rfl ?_
  refine wq_lt2 rfl rfl (fun b9x => ?_) (fun b9x => ?_)
  · refine wq_gos (f := 1) (pc2 := 31) (ls2 := [(0, .ref 162), (1, .int se), (2, .int nn), (3, .int ww)]) (st2 := [.int (-1)]) (h2 := h1x) (dc2 := 0) (ds2 := 0) 1 rfl ?_
    exact wq_ret rfl rfl ⟨h1x, rfl, (wFr_sub f3x (by simp))⟩
  · refine wq_gos (f := 1) (pc2 := 12) (ls2 := [(0, .ref 162), (1, .int se), (2, .int nn), (3, .int ww)]) (st2 := [.int 1, .int nn]) (h2 := h1x) (dc2 := 0) (ds2 := 0) 2 rfl ?_
    refine wq_lt2 rfl rfl (fun b10x => ?_) (fun b10x => ?_)
    · refine wq_gos (f := 1) (pc2 := 31) (ls2 := [(0, .ref 162), (1, .int se), (2, .int nn), (3, .int ww)]) (st2 := [.int (-1)]) (h2 := h1x) (dc2 := 0) (ds2 := 0) 1 rfl ?_
      exact wq_ret rfl rfl ⟨h1x, rfl, (wFr_sub f3x (by simp))⟩
    · refine wq_gos (f := 1) (pc2 := 18) (ls2 := [(0, .ref 162), (1, .int se), (2, .int nn), (3, .int ww)]) (st2 := [.int 20, .int nn]) (h2 := h1x) (dc2 := 0) (ds2 := 0) 2 rfl ?_
      refine wq_gt2 rfl rfl (fun b11x => ?_) (fun b11x => ?_)
      · refine wq_gos (f := 1) (pc2 := 31) (ls2 := [(0, .ref 162), (1, .int se), (2, .int nn), (3, .int ww)]) (st2 := [.int (-1)]) (h2 := h1x) (dc2 := 0) (ds2 := 0) 1 rfl ?_
        exact wq_ret rfl rfl ⟨h1x, rfl, (wFr_sub f3x (by simp))⟩
      · refine wq_gos (f := 1) (pc2 := 22) (ls2 := [(0, .ref 162), (1, .int se), (2, .int nn), (3, .int ww)]) (st2 := [.int ww]) (h2 := h1x) (dc2 := 0) (ds2 := 0) 1 rfl ?_
        refine wq_lt0 rfl rfl (fun b12x => ?_) (fun b12x => ?_)
        · refine wq_gos (f := 1) (pc2 := 31) (ls2 := [(0, .ref 162), (1, .int se), (2, .int nn), (3, .int ww)]) (st2 := [.int (-1)]) (h2 := h1x) (dc2 := 0) (ds2 := 0) 1 rfl ?_
          exact wq_ret rfl rfl ⟨h1x, rfl, (wFr_sub f3x (by simp))⟩
        · refine wq_gos (f := 1) (pc2 := 27) (ls2 := [(0, .ref 162), (1, .int se), (2, .int nn), (3, .int ww)]) (st2 := [.int 3, .int ww]) (h2 := h1x) (dc2 := 0) (ds2 := 0) 2 rfl ?_
          refine wq_le2 rfl rfl (fun b13x => ?_) (fun b13x => ?_)
          · exfalso; unfold jBad at hbad; omega
          · refine wq_gos (f := 1) (pc2 := 31) (ls2 := [(0, .ref 162), (1, .int se), (2, .int nn), (3, .int ww)]) (st2 := [.int (-1)]) (h2 := h1x) (dc2 := 0) (ds2 := 0) 1 rfl ?_
            exact wq_ret rfl rfl ⟨h1x, rfl, (wFr_sub f3x (by simp))⟩
set_option maxHeartbeats 4000000 in
theorem c_chOk00 {h : zH} {ra rl rg rv rn rp rw : Nat} {lk hd ht bl sd sp so : Int32} {rt : Int64} {ll lg : List Int32} {rd : Nat} {ta im : Int32} {ps ip : Int64} {N n rL cap rs sc : Nat} (hN : 1 ≤ N ∧ N ≤ 20) (hn : n < 2147483648) (hsd : sd = nI n) (hlm : wLm ll lg) (hl9 : 1 ≤ lk.toInt ∧ lk.toInt ≤ 99) (hh9 : 1 ≤ hd.toInt ∧ hd.toInt ≤ 99) (hr9 : 0 ≤ (ll.getD 0 0).toInt ∧ (lg.getD 0 0).toInt ≤ 99) (ha : ra < 34 ∧ rl < 34 ∧ rg < 34) (hX : zat h 0 = some (.inr (.inr (.inr (9, [.ref 2, .int ta, .ref 4, .ref ra, .ref rd, .long ps, .ref 34, .ref 36, .int im, .long ip, .ref 42, .ref 44, .ref 60, .ref 66, .ref 72, .ref 74, .ref 150, .ref 158]))))) (hA : zat h ra = some (.inr (.inr (.inr (0, [.int lk, .int hd, .int ht, .int bl, .int sd, .long rt, .ref rl, .ref rg, .ref rv, .int sp, .ref rn, .ref rp, .int so, .ref rw]))))) (hL : zat h rl = some (.inl (0, 6, ll))) (hG : zat h rg = some (.inl (0, 6, lg))) (hCS : wCS h rL cap rs sc) : wq 138 0 [(0, .ref 0), (1, .int (-1)), (2, .int (nI N)), (3, .int 0)] [] h 0 0 (fun r => ∃ (h2 : zH) (d s : Nat), r = (some (.int (jCh ll lg lk hd ht 0 N n 0)), h2, d, s) ∧ wFr [rL, rs, 44, 46, 48, 50, 52, 54, 56, 66, 70, 72] h h2 ∧ d ≤ 1200 ∧ s ≤ 720000) := by
  have e_1 : (-1 : Int32).toInt = -1 := rfl
  have e_0 : (0 : Int32).toInt = 0 := rfl
  have e1 : (1 : Int32).toInt = 1 := rfl
  have e3 : (3 : Int32).toInt = 3 := rfl
  have e20 : (20 : Int32).toInt = 20 := rfl
  have q1 := nI_toInt (n := n) (by omega)
  have q2 := nI_toInt (n := N) (by omega)
  refine wq_gos (f := 1) (pc2 := 7) (ls2 := [(0, .ref 0), (1, .int (-1)), (2, .int (nI N)), (3, .int 0)]) (st2 := [.int 1, .int (nI N)]) (h2 := h) (dc2 := 0) (ds2 := 0) 5 rfl ?_
  refine wq_lt2f rfl rfl (by omega) ?_
  refine wq_gos (f := 1) (pc2 := 13) (ls2 := [(0, .ref 0), (1, .int (-1)), (2, .int (nI N)), (3, .int 0)]) (st2 := [.int 20, .int (nI N)]) (h2 := h) (dc2 := 0) (ds2 := 0) 2 rfl ?_
  refine wq_gt2f rfl rfl (by omega) ?_
  refine wq_gos (f := 1) (pc2 := 33) (ls2 := [(0, .ref 0), (1, .int (-1)), (2, .int (nI N)), (3, .int 0)]) (st2 := [.ref 0]) (h2 := h) (dc2 := 0) (ds2 := 0) 9 rfl ?_
  refine wq_getf rfl hX rfl rfl ?_
  refine wq_getf rfl hA rfl rfl ?_
  refine wq_gos (f := 1) (pc2 := 53) (ls2 := [(7, .int 0), (6, .int 0), (4, .long (sd).toInt64), (0, .ref 0), (1, .int (-1)), (2, .int (nI N)), (3, .int 0)]) (st2 := []) (h2 := h) (dc2 := 0) (ds2 := 0) 7 rfl ?_
  have hx9 : (sd).toInt64 = lN n := by rw [hsd, nI_l (by omega)]
  rw [hx9]
  refine wq_ls [(0, .ref 0), (1, .int (-1)), (2, .int (nI N)), (3, .int 0), (4, .long (lN n)), (6, .int 0), (7, .int (nI 0))] (show ([0, 1, 2, 3, 4, 6, 7] : List Nat).Nodup by decide) ⟨rfl, rfl, rfl, rfl, rfl, rfl, rfl, trivial⟩ ?_
  refine wq_mono (c_chL0 (se := (-1 : Int32)) (by omega) hlm hl9 hh9 hr9 ha N 0 n 0 h rL cap rs sc 0 0 (by omega) (by omega) hX hA hL hG hCS) ?_
  rintro _ ⟨k0, k1, k2, k3, k4, k5, k6, rfl, k7, k8, k9⟩
  exact ⟨k0, k5, k6, by rw [Nat.zero_add, Nat.zero_add], k7, by obtain ⟨w0, w1, nf, kn, to, ks, fa, tg, hp, sh, el, wr, ou, bh, dp, li, so1, hS, h46, h48, h50, h52, h54, hB, hO, hH, hP4, hI, hQ, hk1, hk2, hk3, hk4, hk5, hk6, hk7⟩ := k8; omega, by obtain ⟨w0, w1, nf, kn, to, ks, fa, tg, hp, sh, el, wr, ou, bh, dp, li, so1, hS, h46, h48, h50, h52, h54, hB, hO, hH, hP4, hI, hQ, hk1, hk2, hk3, hk4, hk5, hk6, hk7⟩ := k8; omega⟩
set_option maxHeartbeats 4000000 in
theorem m_chOk00 {h : zH} {fs : List Value} {kn lo hi : List Int32} {ll lg th on sq dq pa pb : List Int32} {fo : List Int64} {N n : Nat} (hN : 1 ≤ N ∧ N ≤ 20) (hn : n < 2147483648) (hsd : kn.getD 4 0 = nI n) (hw : wLim lo hi ll lg) (hlm : wLm ll lg) (hl9 : 1 ≤ (kn.getD 0 0).toInt ∧ (kn.getD 0 0).toInt ≤ 99) (hh9 : 1 ≤ (kn.getD 1 0).toInt ∧ (kn.getD 1 0).toInt ≤ 99) (hM : zat h 162 = some (.inr (.inr (.inr (10, fs))))) (hC : mC fs) (hK : zat h 166 = some (.inl (0, 14, kn))) (hO : zat h 168 = some (.inl (0, 12, lo))) (hG : zat h 170 = some (.inl (0, 12, hi))) (h194 : zat h 194 = some (.inl (0, 6, th))) (h204 : zat h 204 = some (.inl (0, 6, on))) (h222 : zat h 222 = some (.inl (0, 6, sq))) (h230 : zat h 230 = some (.inl (0, 6, dq))) (h196 : zat h 196 = some (.inr (.inl (6000, fo)))) (h200 : zat h 200 = some (.inl (0, 4096, pa))) (h202 : zat h 202 = some (.inl (0, 4096, pb))) : wq 280 0 [(0, .ref 162), (1, .int (-1)), (2, .int (nI N)), (3, .int 0)] [] h 0 0 (fun r => ∃ (h2 : zH), r = (some (.int (jCh ll lg (kn.getD 0 0) (kn.getD 1 0) (kn.getD 2 0) 0 N n 0)), h2, 0, 0)) := by
  have e_1 : (-1 : Int32).toInt = -1 := rfl
  have e_0 : (0 : Int32).toInt = 0 := rfl
  have e1 : (1 : Int32).toInt = 1 := rfl
  have e3 : (3 : Int32).toInt = 3 := rfl
  have e20 : (20 : Int32).toInt = 20 := rfl
  have q1 := nI_toInt (n := n) (by omega)
  have q2 := nI_toInt (n := N) (by omega)
  refine wq_gos (f := 1) (pc2 := 2) (ls2 := [(0, .ref 162), (1, .int (-1)), (2, .int (nI N)), (3, .int 0)]) (st2 := [.int 0, .ref 162]) (h2 := h) (dc2 := 0) (ds2 := 0) 2 rfl ?_
  refine wq_putf rfl hM rfl (by rw [hC.1]; rfl) rfl ?_
  intro h1x e2x f3x l4x
  obtain ⟨fs5x, hf6x⟩ : ∃ x, x = fs.set 0 (.int 0) := ⟨_, rfl⟩
  rw [← hf6x] at e2x
  have hC7x : mC fs5x := by rw [hf6x]; exact mC_set hC (by decide) _
  have p8x : fs5x[0]? = some (.int 0) := by rw [hf6x]; exact List.getElem?_set_self (by rw [hC.1]; decide)
  refine wq_gos (f := 1) (pc2 := 12) (ls2 := [(0, .ref 162), (1, .int (-1)), (2, .int (nI N)), (3, .int 0)]) (st2 := [.int 1, .int (nI N)]) (h2 := h1x) (dc2 := 0) (ds2 := 0) 5 rfl ?_
  refine wq_lt2f rfl rfl (by omega) ?_
  refine wq_gos (f := 1) (pc2 := 18) (ls2 := [(0, .ref 162), (1, .int (-1)), (2, .int (nI N)), (3, .int 0)]) (st2 := [.int 20, .int (nI N)]) (h2 := h1x) (dc2 := 0) (ds2 := 0) 2 rfl ?_
  refine wq_gt2f rfl rfl (by omega) ?_
  refine wq_gos (f := 1) (pc2 := 39) (ls2 := [(0, .ref 162), (1, .int (-1)), (2, .int (nI N)), (3, .int 0)]) (st2 := [.ref 162, .ref 162]) (h2 := h1x) (dc2 := 0) (ds2 := 0) 10 rfl ?_
  refine wq_getf rfl e2x (hC7x.2 (3, 166) (by decide)) rfl ?_
  refine wq_gos (f := 1) (pc2 := 43) (ls2 := [(0, .ref 162), (1, .int (-1)), (2, .int (nI N)), (3, .int 0)]) (st2 := [.int 4, .ref 166, .ref 162]) (h2 := h1x) (dc2 := 0) (ds2 := 0) 1 rfl ?_
  have e9x := (f3x.2 _ _ (wnc (by decide) wn0) hK)
  refine wq_ialdk (k := 4) rfl e9x rfl rfl rfl ?_
  refine wq_gos (f := 1) (pc2 := 48) (ls2 := [(0, .ref 162), (1, .int (-1)), (2, .int (nI N)), (3, .int 0)]) (st2 := [.int (kn.getD 4 0), .ref 162]) (h2 := h1x) (dc2 := 0) (ds2 := 0) 1 rfl ?_
  refine wq_putf rfl e2x rfl (by rw [hC7x.1]; rfl) rfl ?_
  intro h10x e11x f12x l13x
  obtain ⟨fs14x, hf15x⟩ : ∃ x, x = fs5x.set 52 (.int (kn.getD 4 0)) := ⟨_, rfl⟩
  rw [← hf15x] at e11x
  have hC16x : mC fs14x := by rw [hf15x]; exact mC_set hC7x (by decide) _
  have p17x : fs14x[0]? = some (.int 0) := by rw [hf15x, List.getElem?_set_ne (by decide)]; exact p8x
  have p18x : fs14x[52]? = some (.int (kn.getD 4 0)) := by rw [hf15x]; exact List.getElem?_set_self (by rw [hC7x.1]; decide)
  refine wq_gos (f := 1) (pc2 := 57) (ls2 := [(5, .int 0), (4, .int 0), (0, .ref 162), (1, .int (-1)), (2, .int (nI N)), (3, .int 0)]) (st2 := []) (h2 := h10x) (dc2 := 0) (ds2 := 0) 4 rfl ?_
  have e19x := (f12x.2 _ _ (wnc (by decide) wn0) (f3x.2 _ _ (wnc (by decide) wn0) h194))
  have e20x := (f12x.2 _ _ (wnc (by decide) wn0) (f3x.2 _ _ (wnc (by decide) wn0) h196))
  have e21x := (f12x.2 _ _ (wnc (by decide) wn0) (f3x.2 _ _ (wnc (by decide) wn0) h200))
  have e22x := (f12x.2 _ _ (wnc (by decide) wn0) (f3x.2 _ _ (wnc (by decide) wn0) h202))
  have e23x := (f12x.2 _ _ (wnc (by decide) wn0) (f3x.2 _ _ (wnc (by decide) wn0) h204))
  have e24x := (f12x.2 _ _ (wnc (by decide) wn0) (f3x.2 _ _ (wnc (by decide) wn0) h222))
  have e25x := (f12x.2 _ _ (wnc (by decide) wn0) (f3x.2 _ _ (wnc (by decide) wn0) h230))
  have e26x := (f12x.2 _ _ (wnc (by decide) wn0) e9x)
  have e27x := (f12x.2 _ _ (wnc (by decide) wn0) (f3x.2 _ _ (wnc (by decide) wn0) hO))
  have e28x := (f12x.2 _ _ (wnc (by decide) wn0) (f3x.2 _ _ (wnc (by decide) wn0) hG))
  have h52 := p18x
  rw [hsd] at h52
  refine wq_ls [(0, .ref 162), (1, .int (-1)), (2, .int (nI N)), (3, .int 0), (4, .int 0), (5, .int (nI 0))] (show ([0, 1, 2, 3, 4, 5] : List Nat).Nodup by decide) ⟨rfl, rfl, rfl, rfl, rfl, rfl, trivial⟩ ?_
  refine wq_mono (m_chL0 (sd := (-1 : Int32)) (by omega) hw hlm hl9 hh9 N 0 n 0 h10x 0 0 (by omega) (by omega) e26x e27x e28x ⟨fs14x, _, _, _, _, _, _, _, e11x, hC16x, h52, e19x, e20x, e21x, e22x, e23x, e24x, e25x⟩) ?_
  rintro _ ⟨k0, rfl, k1, k2, k3⟩
  exact ⟨k0, rfl⟩
set_option maxHeartbeats 4000000 in
theorem c_chOk01 {h : zH} {ra rl rg rv rn rp rw : Nat} {lk hd ht bl sd sp so : Int32} {rt : Int64} {ll lg : List Int32} {rd : Nat} {ta im : Int32} {ps ip : Int64} {N n rL cap rs sc : Nat} (hN : 1 ≤ N ∧ N ≤ 20) (hn : n < 2147483648) (hlm : wLm ll lg) (hl9 : 1 ≤ lk.toInt ∧ lk.toInt ≤ 99) (hh9 : 1 ≤ hd.toInt ∧ hd.toInt ≤ 99) (hr9 : 0 ≤ (ll.getD 0 0).toInt ∧ (lg.getD 0 0).toInt ≤ 99) (ha : ra < 34 ∧ rl < 34 ∧ rg < 34) (hX : zat h 0 = some (.inr (.inr (.inr (9, [.ref 2, .int ta, .ref 4, .ref ra, .ref rd, .long ps, .ref 34, .ref 36, .int im, .long ip, .ref 42, .ref 44, .ref 60, .ref 66, .ref 72, .ref 74, .ref 150, .ref 158]))))) (hA : zat h ra = some (.inr (.inr (.inr (0, [.int lk, .int hd, .int ht, .int bl, .int sd, .long rt, .ref rl, .ref rg, .ref rv, .int sp, .ref rn, .ref rp, .int so, .ref rw]))))) (hL : zat h rl = some (.inl (0, 6, ll))) (hG : zat h rg = some (.inl (0, 6, lg))) (hCS : wCS h rL cap rs sc) : wq 138 0 [(0, .ref 0), (1, .int (nI n)), (2, .int (nI N)), (3, .int 0)] [] h 0 0 (fun r => ∃ (h2 : zH) (d s : Nat), r = (some (.int (jCh ll lg lk hd ht 0 N n 0)), h2, d, s) ∧ wFr [rL, rs, 44, 46, 48, 50, 52, 54, 56, 66, 70, 72] h h2 ∧ d ≤ 1200 ∧ s ≤ 720000) := by
  have e_1 : (-1 : Int32).toInt = -1 := rfl
  have e_0 : (0 : Int32).toInt = 0 := rfl
  have e1 : (1 : Int32).toInt = 1 := rfl
  have e3 : (3 : Int32).toInt = 3 := rfl
  have e20 : (20 : Int32).toInt = 20 := rfl
  have q1 := nI_toInt (n := n) (by omega)
  have q2 := nI_toInt (n := N) (by omega)
  refine wq_gos (f := 1) (pc2 := 2) (ls2 := [(0, .ref 0), (1, .int (nI n)), (2, .int (nI N)), (3, .int 0)]) (st2 := [.int (-1), .int (nI n)]) (h2 := h) (dc2 := 0) (ds2 := 0) 2 rfl ?_
  refine wq_lt2f rfl rfl (by omega) ?_
  refine wq_gos (f := 1) (pc2 := 7) (ls2 := [(0, .ref 0), (1, .int (nI n)), (2, .int (nI N)), (3, .int 0)]) (st2 := [.int 1, .int (nI N)]) (h2 := h) (dc2 := 0) (ds2 := 0) 2 rfl ?_
  refine wq_lt2f rfl rfl (by omega) ?_
  refine wq_gos (f := 1) (pc2 := 13) (ls2 := [(0, .ref 0), (1, .int (nI n)), (2, .int (nI N)), (3, .int 0)]) (st2 := [.int 20, .int (nI N)]) (h2 := h) (dc2 := 0) (ds2 := 0) 2 rfl ?_
  refine wq_gt2f rfl rfl (by omega) ?_
  refine wq_gos (f := 1) (pc2 := 29) (ls2 := [(0, .ref 0), (1, .int (nI n)), (2, .int (nI N)), (3, .int 0)]) (st2 := [.int (-1), .int (nI n)]) (h2 := h) (dc2 := 0) (ds2 := 0) 7 rfl ?_
  refine wq_ne2t rfl (nI_m1 (by omega)) ?_
  refine wq_gos (f := 1) (pc2 := 53) (ls2 := [(7, .int 0), (6, .int 0), (4, .long ((nI n)).toInt64), (0, .ref 0), (1, .int (nI n)), (2, .int (nI N)), (3, .int 0)]) (st2 := []) (h2 := h) (dc2 := 0) (ds2 := 0) 7 rfl ?_
  have hx9 : ((nI n)).toInt64 = lN n := by rw [nI_l (by omega)]
  rw [hx9]
  refine wq_ls [(0, .ref 0), (1, .int (nI n)), (2, .int (nI N)), (3, .int 0), (4, .long (lN n)), (6, .int 0), (7, .int (nI 0))] (show ([0, 1, 2, 3, 4, 6, 7] : List Nat).Nodup by decide) ⟨rfl, rfl, rfl, rfl, rfl, rfl, rfl, trivial⟩ ?_
  refine wq_mono (c_chL0 (se := (nI n)) (by omega) hlm hl9 hh9 hr9 ha N 0 n 0 h rL cap rs sc 0 0 (by omega) (by omega) hX hA hL hG hCS) ?_
  rintro _ ⟨k0, k1, k2, k3, k4, k5, k6, rfl, k7, k8, k9⟩
  exact ⟨k0, k5, k6, by rw [Nat.zero_add, Nat.zero_add], k7, by obtain ⟨w0, w1, nf, kn, to, ks, fa, tg, hp, sh, el, wr, ou, bh, dp, li, so1, hS, h46, h48, h50, h52, h54, hB, hO, hH, hP4, hI, hQ, hk1, hk2, hk3, hk4, hk5, hk6, hk7⟩ := k8; omega, by obtain ⟨w0, w1, nf, kn, to, ks, fa, tg, hp, sh, el, wr, ou, bh, dp, li, so1, hS, h46, h48, h50, h52, h54, hB, hO, hH, hP4, hI, hQ, hk1, hk2, hk3, hk4, hk5, hk6, hk7⟩ := k8; omega⟩
set_option maxHeartbeats 4000000 in
theorem m_chOk01 {h : zH} {fs : List Value} {kn lo hi : List Int32} {ll lg th on sq dq pa pb : List Int32} {fo : List Int64} {N n : Nat} (hN : 1 ≤ N ∧ N ≤ 20) (hn : n < 2147483648) (hw : wLim lo hi ll lg) (hlm : wLm ll lg) (hl9 : 1 ≤ (kn.getD 0 0).toInt ∧ (kn.getD 0 0).toInt ≤ 99) (hh9 : 1 ≤ (kn.getD 1 0).toInt ∧ (kn.getD 1 0).toInt ≤ 99) (hM : zat h 162 = some (.inr (.inr (.inr (10, fs))))) (hC : mC fs) (hK : zat h 166 = some (.inl (0, 14, kn))) (hO : zat h 168 = some (.inl (0, 12, lo))) (hG : zat h 170 = some (.inl (0, 12, hi))) (h194 : zat h 194 = some (.inl (0, 6, th))) (h204 : zat h 204 = some (.inl (0, 6, on))) (h222 : zat h 222 = some (.inl (0, 6, sq))) (h230 : zat h 230 = some (.inl (0, 6, dq))) (h196 : zat h 196 = some (.inr (.inl (6000, fo)))) (h200 : zat h 200 = some (.inl (0, 4096, pa))) (h202 : zat h 202 = some (.inl (0, 4096, pb))) : wq 280 0 [(0, .ref 162), (1, .int (nI n)), (2, .int (nI N)), (3, .int 0)] [] h 0 0 (fun r => ∃ (h2 : zH), r = (some (.int (jCh ll lg (kn.getD 0 0) (kn.getD 1 0) (kn.getD 2 0) 0 N n 0)), h2, 0, 0)) := by
  have e_1 : (-1 : Int32).toInt = -1 := rfl
  have e_0 : (0 : Int32).toInt = 0 := rfl
  have e1 : (1 : Int32).toInt = 1 := rfl
  have e3 : (3 : Int32).toInt = 3 := rfl
  have e20 : (20 : Int32).toInt = 20 := rfl
  have q1 := nI_toInt (n := n) (by omega)
  have q2 := nI_toInt (n := N) (by omega)
  refine wq_gos (f := 1) (pc2 := 2) (ls2 := [(0, .ref 162), (1, .int (nI n)), (2, .int (nI N)), (3, .int 0)]) (st2 := [.int 0, .ref 162]) (h2 := h) (dc2 := 0) (ds2 := 0) 2 rfl ?_
  refine wq_putf rfl hM rfl (by rw [hC.1]; rfl) rfl ?_
  intro h1x e2x f3x l4x
  obtain ⟨fs5x, hf6x⟩ : ∃ x, x = fs.set 0 (.int 0) := ⟨_, rfl⟩
  rw [← hf6x] at e2x
  have hC7x : mC fs5x := by rw [hf6x]; exact mC_set hC (by decide) _
  have p8x : fs5x[0]? = some (.int 0) := by rw [hf6x]; exact List.getElem?_set_self (by rw [hC.1]; decide)
  refine wq_gos (f := 1) (pc2 := 7) (ls2 := [(0, .ref 162), (1, .int (nI n)), (2, .int (nI N)), (3, .int 0)]) (st2 := [.int (-1), .int (nI n)]) (h2 := h1x) (dc2 := 0) (ds2 := 0) 2 rfl ?_
  refine wq_lt2f rfl rfl (by omega) ?_
  refine wq_gos (f := 1) (pc2 := 12) (ls2 := [(0, .ref 162), (1, .int (nI n)), (2, .int (nI N)), (3, .int 0)]) (st2 := [.int 1, .int (nI N)]) (h2 := h1x) (dc2 := 0) (ds2 := 0) 2 rfl ?_
  refine wq_lt2f rfl rfl (by omega) ?_
  refine wq_gos (f := 1) (pc2 := 18) (ls2 := [(0, .ref 162), (1, .int (nI n)), (2, .int (nI N)), (3, .int 0)]) (st2 := [.int 20, .int (nI N)]) (h2 := h1x) (dc2 := 0) (ds2 := 0) 2 rfl ?_
  refine wq_gt2f rfl rfl (by omega) ?_
  refine wq_gos (f := 1) (pc2 := 35) (ls2 := [(0, .ref 162), (1, .int (nI n)), (2, .int (nI N)), (3, .int 0)]) (st2 := [.int (-1), .int (nI n), .ref 162]) (h2 := h1x) (dc2 := 0) (ds2 := 0) 8 rfl ?_
  refine wq_ne2t rfl (nI_m1 (by omega)) ?_
  refine wq_gos (f := 1) (pc2 := 48) (ls2 := [(0, .ref 162), (1, .int (nI n)), (2, .int (nI N)), (3, .int 0)]) (st2 := [.int (nI n), .ref 162]) (h2 := h1x) (dc2 := 0) (ds2 := 0) 1 rfl ?_
  refine wq_putf rfl e2x rfl (by rw [hC7x.1]; rfl) rfl ?_
  intro h9x e10x f11x l12x
  obtain ⟨fs13x, hf14x⟩ : ∃ x, x = fs5x.set 52 (.int (nI n)) := ⟨_, rfl⟩
  rw [← hf14x] at e10x
  have hC15x : mC fs13x := by rw [hf14x]; exact mC_set hC7x (by decide) _
  have p16x : fs13x[0]? = some (.int 0) := by rw [hf14x, List.getElem?_set_ne (by decide)]; exact p8x
  have p17x : fs13x[52]? = some (.int (nI n)) := by rw [hf14x]; exact List.getElem?_set_self (by rw [hC7x.1]; decide)
  refine wq_gos (f := 1) (pc2 := 57) (ls2 := [(5, .int 0), (4, .int 0), (0, .ref 162), (1, .int (nI n)), (2, .int (nI N)), (3, .int 0)]) (st2 := []) (h2 := h9x) (dc2 := 0) (ds2 := 0) 4 rfl ?_
  have e18x := (f11x.2 _ _ (wnc (by decide) wn0) (f3x.2 _ _ (wnc (by decide) wn0) h194))
  have e19x := (f11x.2 _ _ (wnc (by decide) wn0) (f3x.2 _ _ (wnc (by decide) wn0) h196))
  have e20x := (f11x.2 _ _ (wnc (by decide) wn0) (f3x.2 _ _ (wnc (by decide) wn0) h200))
  have e21x := (f11x.2 _ _ (wnc (by decide) wn0) (f3x.2 _ _ (wnc (by decide) wn0) h202))
  have e22x := (f11x.2 _ _ (wnc (by decide) wn0) (f3x.2 _ _ (wnc (by decide) wn0) h204))
  have e23x := (f11x.2 _ _ (wnc (by decide) wn0) (f3x.2 _ _ (wnc (by decide) wn0) h222))
  have e24x := (f11x.2 _ _ (wnc (by decide) wn0) (f3x.2 _ _ (wnc (by decide) wn0) h230))
  have e25x := (f11x.2 _ _ (wnc (by decide) wn0) (f3x.2 _ _ (wnc (by decide) wn0) hK))
  have e26x := (f11x.2 _ _ (wnc (by decide) wn0) (f3x.2 _ _ (wnc (by decide) wn0) hO))
  have e27x := (f11x.2 _ _ (wnc (by decide) wn0) (f3x.2 _ _ (wnc (by decide) wn0) hG))
  refine wq_ls [(0, .ref 162), (1, .int (nI n)), (2, .int (nI N)), (3, .int 0), (4, .int 0), (5, .int (nI 0))] (show ([0, 1, 2, 3, 4, 5] : List Nat).Nodup by decide) ⟨rfl, rfl, rfl, rfl, rfl, rfl, trivial⟩ ?_
  refine wq_mono (m_chL0 (sd := (nI n)) (by omega) hw hlm hl9 hh9 N 0 n 0 h9x 0 0 (by omega) (by omega) e25x e26x e27x ⟨fs13x, _, _, _, _, _, _, _, e10x, hC15x, p17x, e18x, e19x, e20x, e21x, e22x, e23x, e24x⟩) ?_
  rintro _ ⟨k0, rfl, k1, k2, k3⟩
  exact ⟨k0, rfl⟩
set_option maxHeartbeats 4000000 in
theorem c_chOk10 {h : zH} {ra rl rg rv rn rp rw : Nat} {lk hd ht bl sd sp so : Int32} {rt : Int64} {ll lg : List Int32} {rd : Nat} {ta im : Int32} {ps ip : Int64} {N n rL cap rs sc : Nat} (hN : 1 ≤ N ∧ N ≤ 20) (hn : n < 2147483648) (hsd : sd = nI n) (hlm : wLm ll lg) (hl9 : 1 ≤ lk.toInt ∧ lk.toInt ≤ 99) (hh9 : 1 ≤ hd.toInt ∧ hd.toInt ≤ 99) (hr9 : 0 ≤ (ll.getD 0 0).toInt ∧ (lg.getD 0 0).toInt ≤ 99) (ha : ra < 34 ∧ rl < 34 ∧ rg < 34) (hX : zat h 0 = some (.inr (.inr (.inr (9, [.ref 2, .int ta, .ref 4, .ref ra, .ref rd, .long ps, .ref 34, .ref 36, .int im, .long ip, .ref 42, .ref 44, .ref 60, .ref 66, .ref 72, .ref 74, .ref 150, .ref 158]))))) (hA : zat h ra = some (.inr (.inr (.inr (0, [.int lk, .int hd, .int ht, .int bl, .int sd, .long rt, .ref rl, .ref rg, .ref rv, .int sp, .ref rn, .ref rp, .int so, .ref rw]))))) (hL : zat h rl = some (.inl (0, 6, ll))) (hG : zat h rg = some (.inl (0, 6, lg))) (hCS : wCS h rL cap rs sc) : wq 138 0 [(0, .ref 0), (1, .int (-1)), (2, .int (nI N)), (3, .int 1)] [] h 0 0 (fun r => ∃ (h2 : zH) (d s : Nat), r = (some (.int (jCh ll lg lk hd ht 1 N n 0)), h2, d, s) ∧ wFr [rL, rs, 44, 46, 48, 50, 52, 54, 56, 66, 70, 72] h h2 ∧ d ≤ 1200 ∧ s ≤ 720000) := by
  have e_1 : (-1 : Int32).toInt = -1 := rfl
  have e_0 : (0 : Int32).toInt = 0 := rfl
  have e1 : (1 : Int32).toInt = 1 := rfl
  have e3 : (3 : Int32).toInt = 3 := rfl
  have e20 : (20 : Int32).toInt = 20 := rfl
  have q1 := nI_toInt (n := n) (by omega)
  have q2 := nI_toInt (n := N) (by omega)
  refine wq_gos (f := 1) (pc2 := 7) (ls2 := [(0, .ref 0), (1, .int (-1)), (2, .int (nI N)), (3, .int 1)]) (st2 := [.int 1, .int (nI N)]) (h2 := h) (dc2 := 0) (ds2 := 0) 5 rfl ?_
  refine wq_lt2f rfl rfl (by omega) ?_
  refine wq_gos (f := 1) (pc2 := 13) (ls2 := [(0, .ref 0), (1, .int (-1)), (2, .int (nI N)), (3, .int 1)]) (st2 := [.int 20, .int (nI N)]) (h2 := h) (dc2 := 0) (ds2 := 0) 2 rfl ?_
  refine wq_gt2f rfl rfl (by omega) ?_
  refine wq_gos (f := 1) (pc2 := 33) (ls2 := [(0, .ref 0), (1, .int (-1)), (2, .int (nI N)), (3, .int 1)]) (st2 := [.ref 0]) (h2 := h) (dc2 := 0) (ds2 := 0) 9 rfl ?_
  refine wq_getf rfl hX rfl rfl ?_
  refine wq_getf rfl hA rfl rfl ?_
  refine wq_gos (f := 1) (pc2 := 53) (ls2 := [(7, .int 0), (6, .int 0), (4, .long (sd).toInt64), (0, .ref 0), (1, .int (-1)), (2, .int (nI N)), (3, .int 1)]) (st2 := []) (h2 := h) (dc2 := 0) (ds2 := 0) 7 rfl ?_
  have hx9 : (sd).toInt64 = lN n := by rw [hsd, nI_l (by omega)]
  rw [hx9]
  refine wq_ls [(0, .ref 0), (1, .int (-1)), (2, .int (nI N)), (3, .int 1), (4, .long (lN n)), (6, .int 0), (7, .int (nI 0))] (show ([0, 1, 2, 3, 4, 6, 7] : List Nat).Nodup by decide) ⟨rfl, rfl, rfl, rfl, rfl, rfl, rfl, trivial⟩ ?_
  refine wq_mono (c_chL1 (se := (-1 : Int32)) (by omega) hlm hl9 hh9 hr9 ha N 0 n 0 h rL cap rs sc 0 0 (by omega) (by omega) hX hA hL hG hCS) ?_
  rintro _ ⟨k0, k1, k2, k3, k4, k5, k6, rfl, k7, k8, k9⟩
  exact ⟨k0, k5, k6, by rw [Nat.zero_add, Nat.zero_add], k7, by obtain ⟨w0, w1, nf, kn, to, ks, fa, tg, hp, sh, el, wr, ou, bh, dp, li, so1, hS, h46, h48, h50, h52, h54, hB, hO, hH, hP4, hI, hQ, hk1, hk2, hk3, hk4, hk5, hk6, hk7⟩ := k8; omega, by obtain ⟨w0, w1, nf, kn, to, ks, fa, tg, hp, sh, el, wr, ou, bh, dp, li, so1, hS, h46, h48, h50, h52, h54, hB, hO, hH, hP4, hI, hQ, hk1, hk2, hk3, hk4, hk5, hk6, hk7⟩ := k8; omega⟩
set_option maxHeartbeats 4000000 in
theorem m_chOk10 {h : zH} {fs : List Value} {kn lo hi : List Int32} {ll lg th on sq dq pa pb : List Int32} {fo : List Int64} {N n : Nat} (hN : 1 ≤ N ∧ N ≤ 20) (hn : n < 2147483648) (hsd : kn.getD 4 0 = nI n) (hw : wLim lo hi ll lg) (hlm : wLm ll lg) (hl9 : 1 ≤ (kn.getD 0 0).toInt ∧ (kn.getD 0 0).toInt ≤ 99) (hh9 : 1 ≤ (kn.getD 1 0).toInt ∧ (kn.getD 1 0).toInt ≤ 99) (hM : zat h 162 = some (.inr (.inr (.inr (10, fs))))) (hC : mC fs) (hK : zat h 166 = some (.inl (0, 14, kn))) (hO : zat h 168 = some (.inl (0, 12, lo))) (hG : zat h 170 = some (.inl (0, 12, hi))) (h194 : zat h 194 = some (.inl (0, 6, th))) (h204 : zat h 204 = some (.inl (0, 6, on))) (h222 : zat h 222 = some (.inl (0, 6, sq))) (h230 : zat h 230 = some (.inl (0, 6, dq))) (h196 : zat h 196 = some (.inr (.inl (6000, fo)))) (h200 : zat h 200 = some (.inl (0, 4096, pa))) (h202 : zat h 202 = some (.inl (0, 4096, pb))) : wq 280 0 [(0, .ref 162), (1, .int (-1)), (2, .int (nI N)), (3, .int 1)] [] h 0 0 (fun r => ∃ (h2 : zH), r = (some (.int (jCh ll lg (kn.getD 0 0) (kn.getD 1 0) (kn.getD 2 0) 1 N n 0)), h2, 0, 0)) := by
  have e_1 : (-1 : Int32).toInt = -1 := rfl
  have e_0 : (0 : Int32).toInt = 0 := rfl
  have e1 : (1 : Int32).toInt = 1 := rfl
  have e3 : (3 : Int32).toInt = 3 := rfl
  have e20 : (20 : Int32).toInt = 20 := rfl
  have q1 := nI_toInt (n := n) (by omega)
  have q2 := nI_toInt (n := N) (by omega)
  refine wq_gos (f := 1) (pc2 := 2) (ls2 := [(0, .ref 162), (1, .int (-1)), (2, .int (nI N)), (3, .int 1)]) (st2 := [.int 0, .ref 162]) (h2 := h) (dc2 := 0) (ds2 := 0) 2 rfl ?_
  refine wq_putf rfl hM rfl (by rw [hC.1]; rfl) rfl ?_
  intro h1x e2x f3x l4x
  obtain ⟨fs5x, hf6x⟩ : ∃ x, x = fs.set 0 (.int 0) := ⟨_, rfl⟩
  rw [← hf6x] at e2x
  have hC7x : mC fs5x := by rw [hf6x]; exact mC_set hC (by decide) _
  have p8x : fs5x[0]? = some (.int 0) := by rw [hf6x]; exact List.getElem?_set_self (by rw [hC.1]; decide)
  refine wq_gos (f := 1) (pc2 := 12) (ls2 := [(0, .ref 162), (1, .int (-1)), (2, .int (nI N)), (3, .int 1)]) (st2 := [.int 1, .int (nI N)]) (h2 := h1x) (dc2 := 0) (ds2 := 0) 5 rfl ?_
  refine wq_lt2f rfl rfl (by omega) ?_
  refine wq_gos (f := 1) (pc2 := 18) (ls2 := [(0, .ref 162), (1, .int (-1)), (2, .int (nI N)), (3, .int 1)]) (st2 := [.int 20, .int (nI N)]) (h2 := h1x) (dc2 := 0) (ds2 := 0) 2 rfl ?_
  refine wq_gt2f rfl rfl (by omega) ?_
  refine wq_gos (f := 1) (pc2 := 39) (ls2 := [(0, .ref 162), (1, .int (-1)), (2, .int (nI N)), (3, .int 1)]) (st2 := [.ref 162, .ref 162]) (h2 := h1x) (dc2 := 0) (ds2 := 0) 10 rfl ?_
  refine wq_getf rfl e2x (hC7x.2 (3, 166) (by decide)) rfl ?_
  refine wq_gos (f := 1) (pc2 := 43) (ls2 := [(0, .ref 162), (1, .int (-1)), (2, .int (nI N)), (3, .int 1)]) (st2 := [.int 4, .ref 166, .ref 162]) (h2 := h1x) (dc2 := 0) (ds2 := 0) 1 rfl ?_
  have e9x := (f3x.2 _ _ (wnc (by decide) wn0) hK)
  refine wq_ialdk (k := 4) rfl e9x rfl rfl rfl ?_
  refine wq_gos (f := 1) (pc2 := 48) (ls2 := [(0, .ref 162), (1, .int (-1)), (2, .int (nI N)), (3, .int 1)]) (st2 := [.int (kn.getD 4 0), .ref 162]) (h2 := h1x) (dc2 := 0) (ds2 := 0) 1 rfl ?_
  refine wq_putf rfl e2x rfl (by rw [hC7x.1]; rfl) rfl ?_
  intro h10x e11x f12x l13x
  obtain ⟨fs14x, hf15x⟩ : ∃ x, x = fs5x.set 52 (.int (kn.getD 4 0)) := ⟨_, rfl⟩
  rw [← hf15x] at e11x
  have hC16x : mC fs14x := by rw [hf15x]; exact mC_set hC7x (by decide) _
  have p17x : fs14x[0]? = some (.int 0) := by rw [hf15x, List.getElem?_set_ne (by decide)]; exact p8x
  have p18x : fs14x[52]? = some (.int (kn.getD 4 0)) := by rw [hf15x]; exact List.getElem?_set_self (by rw [hC7x.1]; decide)
  refine wq_gos (f := 1) (pc2 := 57) (ls2 := [(5, .int 0), (4, .int 0), (0, .ref 162), (1, .int (-1)), (2, .int (nI N)), (3, .int 1)]) (st2 := []) (h2 := h10x) (dc2 := 0) (ds2 := 0) 4 rfl ?_
  have e19x := (f12x.2 _ _ (wnc (by decide) wn0) (f3x.2 _ _ (wnc (by decide) wn0) h194))
  have e20x := (f12x.2 _ _ (wnc (by decide) wn0) (f3x.2 _ _ (wnc (by decide) wn0) h196))
  have e21x := (f12x.2 _ _ (wnc (by decide) wn0) (f3x.2 _ _ (wnc (by decide) wn0) h200))
  have e22x := (f12x.2 _ _ (wnc (by decide) wn0) (f3x.2 _ _ (wnc (by decide) wn0) h202))
  have e23x := (f12x.2 _ _ (wnc (by decide) wn0) (f3x.2 _ _ (wnc (by decide) wn0) h204))
  have e24x := (f12x.2 _ _ (wnc (by decide) wn0) (f3x.2 _ _ (wnc (by decide) wn0) h222))
  have e25x := (f12x.2 _ _ (wnc (by decide) wn0) (f3x.2 _ _ (wnc (by decide) wn0) h230))
  have e26x := (f12x.2 _ _ (wnc (by decide) wn0) e9x)
  have e27x := (f12x.2 _ _ (wnc (by decide) wn0) (f3x.2 _ _ (wnc (by decide) wn0) hO))
  have e28x := (f12x.2 _ _ (wnc (by decide) wn0) (f3x.2 _ _ (wnc (by decide) wn0) hG))
  have h52 := p18x
  rw [hsd] at h52
  refine wq_ls [(0, .ref 162), (1, .int (-1)), (2, .int (nI N)), (3, .int 1), (4, .int 0), (5, .int (nI 0))] (show ([0, 1, 2, 3, 4, 5] : List Nat).Nodup by decide) ⟨rfl, rfl, rfl, rfl, rfl, rfl, trivial⟩ ?_
  refine wq_mono (m_chL1 (sd := (-1 : Int32)) (by omega) hw hlm hl9 hh9 N 0 n 0 h10x 0 0 (by omega) (by omega) e26x e27x e28x ⟨fs14x, _, _, _, _, _, _, _, e11x, hC16x, h52, e19x, e20x, e21x, e22x, e23x, e24x, e25x⟩) ?_
  rintro _ ⟨k0, rfl, k1, k2, k3⟩
  exact ⟨k0, rfl⟩
set_option maxHeartbeats 4000000 in
theorem c_chOk11 {h : zH} {ra rl rg rv rn rp rw : Nat} {lk hd ht bl sd sp so : Int32} {rt : Int64} {ll lg : List Int32} {rd : Nat} {ta im : Int32} {ps ip : Int64} {N n rL cap rs sc : Nat} (hN : 1 ≤ N ∧ N ≤ 20) (hn : n < 2147483648) (hlm : wLm ll lg) (hl9 : 1 ≤ lk.toInt ∧ lk.toInt ≤ 99) (hh9 : 1 ≤ hd.toInt ∧ hd.toInt ≤ 99) (hr9 : 0 ≤ (ll.getD 0 0).toInt ∧ (lg.getD 0 0).toInt ≤ 99) (ha : ra < 34 ∧ rl < 34 ∧ rg < 34) (hX : zat h 0 = some (.inr (.inr (.inr (9, [.ref 2, .int ta, .ref 4, .ref ra, .ref rd, .long ps, .ref 34, .ref 36, .int im, .long ip, .ref 42, .ref 44, .ref 60, .ref 66, .ref 72, .ref 74, .ref 150, .ref 158]))))) (hA : zat h ra = some (.inr (.inr (.inr (0, [.int lk, .int hd, .int ht, .int bl, .int sd, .long rt, .ref rl, .ref rg, .ref rv, .int sp, .ref rn, .ref rp, .int so, .ref rw]))))) (hL : zat h rl = some (.inl (0, 6, ll))) (hG : zat h rg = some (.inl (0, 6, lg))) (hCS : wCS h rL cap rs sc) : wq 138 0 [(0, .ref 0), (1, .int (nI n)), (2, .int (nI N)), (3, .int 1)] [] h 0 0 (fun r => ∃ (h2 : zH) (d s : Nat), r = (some (.int (jCh ll lg lk hd ht 1 N n 0)), h2, d, s) ∧ wFr [rL, rs, 44, 46, 48, 50, 52, 54, 56, 66, 70, 72] h h2 ∧ d ≤ 1200 ∧ s ≤ 720000) := by
  have e_1 : (-1 : Int32).toInt = -1 := rfl
  have e_0 : (0 : Int32).toInt = 0 := rfl
  have e1 : (1 : Int32).toInt = 1 := rfl
  have e3 : (3 : Int32).toInt = 3 := rfl
  have e20 : (20 : Int32).toInt = 20 := rfl
  have q1 := nI_toInt (n := n) (by omega)
  have q2 := nI_toInt (n := N) (by omega)
  refine wq_gos (f := 1) (pc2 := 2) (ls2 := [(0, .ref 0), (1, .int (nI n)), (2, .int (nI N)), (3, .int 1)]) (st2 := [.int (-1), .int (nI n)]) (h2 := h) (dc2 := 0) (ds2 := 0) 2 rfl ?_
  refine wq_lt2f rfl rfl (by omega) ?_
  refine wq_gos (f := 1) (pc2 := 7) (ls2 := [(0, .ref 0), (1, .int (nI n)), (2, .int (nI N)), (3, .int 1)]) (st2 := [.int 1, .int (nI N)]) (h2 := h) (dc2 := 0) (ds2 := 0) 2 rfl ?_
  refine wq_lt2f rfl rfl (by omega) ?_
  refine wq_gos (f := 1) (pc2 := 13) (ls2 := [(0, .ref 0), (1, .int (nI n)), (2, .int (nI N)), (3, .int 1)]) (st2 := [.int 20, .int (nI N)]) (h2 := h) (dc2 := 0) (ds2 := 0) 2 rfl ?_
  refine wq_gt2f rfl rfl (by omega) ?_
  refine wq_gos (f := 1) (pc2 := 29) (ls2 := [(0, .ref 0), (1, .int (nI n)), (2, .int (nI N)), (3, .int 1)]) (st2 := [.int (-1), .int (nI n)]) (h2 := h) (dc2 := 0) (ds2 := 0) 7 rfl ?_
  refine wq_ne2t rfl (nI_m1 (by omega)) ?_
  refine wq_gos (f := 1) (pc2 := 53) (ls2 := [(7, .int 0), (6, .int 0), (4, .long ((nI n)).toInt64), (0, .ref 0), (1, .int (nI n)), (2, .int (nI N)), (3, .int 1)]) (st2 := []) (h2 := h) (dc2 := 0) (ds2 := 0) 7 rfl ?_
  have hx9 : ((nI n)).toInt64 = lN n := by rw [nI_l (by omega)]
  rw [hx9]
  refine wq_ls [(0, .ref 0), (1, .int (nI n)), (2, .int (nI N)), (3, .int 1), (4, .long (lN n)), (6, .int 0), (7, .int (nI 0))] (show ([0, 1, 2, 3, 4, 6, 7] : List Nat).Nodup by decide) ⟨rfl, rfl, rfl, rfl, rfl, rfl, rfl, trivial⟩ ?_
  refine wq_mono (c_chL1 (se := (nI n)) (by omega) hlm hl9 hh9 hr9 ha N 0 n 0 h rL cap rs sc 0 0 (by omega) (by omega) hX hA hL hG hCS) ?_
  rintro _ ⟨k0, k1, k2, k3, k4, k5, k6, rfl, k7, k8, k9⟩
  exact ⟨k0, k5, k6, by rw [Nat.zero_add, Nat.zero_add], k7, by obtain ⟨w0, w1, nf, kn, to, ks, fa, tg, hp, sh, el, wr, ou, bh, dp, li, so1, hS, h46, h48, h50, h52, h54, hB, hO, hH, hP4, hI, hQ, hk1, hk2, hk3, hk4, hk5, hk6, hk7⟩ := k8; omega, by obtain ⟨w0, w1, nf, kn, to, ks, fa, tg, hp, sh, el, wr, ou, bh, dp, li, so1, hS, h46, h48, h50, h52, h54, hB, hO, hH, hP4, hI, hQ, hk1, hk2, hk3, hk4, hk5, hk6, hk7⟩ := k8; omega⟩
set_option maxHeartbeats 4000000 in
theorem m_chOk11 {h : zH} {fs : List Value} {kn lo hi : List Int32} {ll lg th on sq dq pa pb : List Int32} {fo : List Int64} {N n : Nat} (hN : 1 ≤ N ∧ N ≤ 20) (hn : n < 2147483648) (hw : wLim lo hi ll lg) (hlm : wLm ll lg) (hl9 : 1 ≤ (kn.getD 0 0).toInt ∧ (kn.getD 0 0).toInt ≤ 99) (hh9 : 1 ≤ (kn.getD 1 0).toInt ∧ (kn.getD 1 0).toInt ≤ 99) (hM : zat h 162 = some (.inr (.inr (.inr (10, fs))))) (hC : mC fs) (hK : zat h 166 = some (.inl (0, 14, kn))) (hO : zat h 168 = some (.inl (0, 12, lo))) (hG : zat h 170 = some (.inl (0, 12, hi))) (h194 : zat h 194 = some (.inl (0, 6, th))) (h204 : zat h 204 = some (.inl (0, 6, on))) (h222 : zat h 222 = some (.inl (0, 6, sq))) (h230 : zat h 230 = some (.inl (0, 6, dq))) (h196 : zat h 196 = some (.inr (.inl (6000, fo)))) (h200 : zat h 200 = some (.inl (0, 4096, pa))) (h202 : zat h 202 = some (.inl (0, 4096, pb))) : wq 280 0 [(0, .ref 162), (1, .int (nI n)), (2, .int (nI N)), (3, .int 1)] [] h 0 0 (fun r => ∃ (h2 : zH), r = (some (.int (jCh ll lg (kn.getD 0 0) (kn.getD 1 0) (kn.getD 2 0) 1 N n 0)), h2, 0, 0)) := by
  have e_1 : (-1 : Int32).toInt = -1 := rfl
  have e_0 : (0 : Int32).toInt = 0 := rfl
  have e1 : (1 : Int32).toInt = 1 := rfl
  have e3 : (3 : Int32).toInt = 3 := rfl
  have e20 : (20 : Int32).toInt = 20 := rfl
  have q1 := nI_toInt (n := n) (by omega)
  have q2 := nI_toInt (n := N) (by omega)
  refine wq_gos (f := 1) (pc2 := 2) (ls2 := [(0, .ref 162), (1, .int (nI n)), (2, .int (nI N)), (3, .int 1)]) (st2 := [.int 0, .ref 162]) (h2 := h) (dc2 := 0) (ds2 := 0) 2 rfl ?_
  refine wq_putf rfl hM rfl (by rw [hC.1]; rfl) rfl ?_
  intro h1x e2x f3x l4x
  obtain ⟨fs5x, hf6x⟩ : ∃ x, x = fs.set 0 (.int 0) := ⟨_, rfl⟩
  rw [← hf6x] at e2x
  have hC7x : mC fs5x := by rw [hf6x]; exact mC_set hC (by decide) _
  have p8x : fs5x[0]? = some (.int 0) := by rw [hf6x]; exact List.getElem?_set_self (by rw [hC.1]; decide)
  refine wq_gos (f := 1) (pc2 := 7) (ls2 := [(0, .ref 162), (1, .int (nI n)), (2, .int (nI N)), (3, .int 1)]) (st2 := [.int (-1), .int (nI n)]) (h2 := h1x) (dc2 := 0) (ds2 := 0) 2 rfl ?_
  refine wq_lt2f rfl rfl (by omega) ?_
  refine wq_gos (f := 1) (pc2 := 12) (ls2 := [(0, .ref 162), (1, .int (nI n)), (2, .int (nI N)), (3, .int 1)]) (st2 := [.int 1, .int (nI N)]) (h2 := h1x) (dc2 := 0) (ds2 := 0) 2 rfl ?_
  refine wq_lt2f rfl rfl (by omega) ?_
  refine wq_gos (f := 1) (pc2 := 18) (ls2 := [(0, .ref 162), (1, .int (nI n)), (2, .int (nI N)), (3, .int 1)]) (st2 := [.int 20, .int (nI N)]) (h2 := h1x) (dc2 := 0) (ds2 := 0) 2 rfl ?_
  refine wq_gt2f rfl rfl (by omega) ?_
  refine wq_gos (f := 1) (pc2 := 35) (ls2 := [(0, .ref 162), (1, .int (nI n)), (2, .int (nI N)), (3, .int 1)]) (st2 := [.int (-1), .int (nI n), .ref 162]) (h2 := h1x) (dc2 := 0) (ds2 := 0) 8 rfl ?_
  refine wq_ne2t rfl (nI_m1 (by omega)) ?_
  refine wq_gos (f := 1) (pc2 := 48) (ls2 := [(0, .ref 162), (1, .int (nI n)), (2, .int (nI N)), (3, .int 1)]) (st2 := [.int (nI n), .ref 162]) (h2 := h1x) (dc2 := 0) (ds2 := 0) 1 rfl ?_
  refine wq_putf rfl e2x rfl (by rw [hC7x.1]; rfl) rfl ?_
  intro h9x e10x f11x l12x
  obtain ⟨fs13x, hf14x⟩ : ∃ x, x = fs5x.set 52 (.int (nI n)) := ⟨_, rfl⟩
  rw [← hf14x] at e10x
  have hC15x : mC fs13x := by rw [hf14x]; exact mC_set hC7x (by decide) _
  have p16x : fs13x[0]? = some (.int 0) := by rw [hf14x, List.getElem?_set_ne (by decide)]; exact p8x
  have p17x : fs13x[52]? = some (.int (nI n)) := by rw [hf14x]; exact List.getElem?_set_self (by rw [hC7x.1]; decide)
  refine wq_gos (f := 1) (pc2 := 57) (ls2 := [(5, .int 0), (4, .int 0), (0, .ref 162), (1, .int (nI n)), (2, .int (nI N)), (3, .int 1)]) (st2 := []) (h2 := h9x) (dc2 := 0) (ds2 := 0) 4 rfl ?_
  have e18x := (f11x.2 _ _ (wnc (by decide) wn0) (f3x.2 _ _ (wnc (by decide) wn0) h194))
  have e19x := (f11x.2 _ _ (wnc (by decide) wn0) (f3x.2 _ _ (wnc (by decide) wn0) h196))
  have e20x := (f11x.2 _ _ (wnc (by decide) wn0) (f3x.2 _ _ (wnc (by decide) wn0) h200))
  have e21x := (f11x.2 _ _ (wnc (by decide) wn0) (f3x.2 _ _ (wnc (by decide) wn0) h202))
  have e22x := (f11x.2 _ _ (wnc (by decide) wn0) (f3x.2 _ _ (wnc (by decide) wn0) h204))
  have e23x := (f11x.2 _ _ (wnc (by decide) wn0) (f3x.2 _ _ (wnc (by decide) wn0) h222))
  have e24x := (f11x.2 _ _ (wnc (by decide) wn0) (f3x.2 _ _ (wnc (by decide) wn0) h230))
  have e25x := (f11x.2 _ _ (wnc (by decide) wn0) (f3x.2 _ _ (wnc (by decide) wn0) hK))
  have e26x := (f11x.2 _ _ (wnc (by decide) wn0) (f3x.2 _ _ (wnc (by decide) wn0) hO))
  have e27x := (f11x.2 _ _ (wnc (by decide) wn0) (f3x.2 _ _ (wnc (by decide) wn0) hG))
  refine wq_ls [(0, .ref 162), (1, .int (nI n)), (2, .int (nI N)), (3, .int 1), (4, .int 0), (5, .int (nI 0))] (show ([0, 1, 2, 3, 4, 5] : List Nat).Nodup by decide) ⟨rfl, rfl, rfl, rfl, rfl, rfl, trivial⟩ ?_
  refine wq_mono (m_chL1 (sd := (nI n)) (by omega) hw hlm hl9 hh9 N 0 n 0 h9x 0 0 (by omega) (by omega) e25x e26x e27x ⟨fs13x, _, _, _, _, _, _, _, e10x, hC15x, p17x, e18x, e19x, e20x, e21x, e22x, e23x, e24x⟩) ?_
  rintro _ ⟨k0, rfl, k1, k2, k3⟩
  exact ⟨k0, rfl⟩
set_option maxHeartbeats 4000000 in
theorem c_chOk20 {h : zH} {ra rl rg rv rn rp rw : Nat} {lk hd ht bl sd sp so : Int32} {rt : Int64} {ll lg : List Int32} {rd : Nat} {ta im : Int32} {ps ip : Int64} {N n rL cap rs sc : Nat} (hN : 1 ≤ N ∧ N ≤ 20) (hn : n < 2147483648) (hsd : sd = nI n) (hlm : wLm ll lg) (hl9 : 1 ≤ lk.toInt ∧ lk.toInt ≤ 99) (hh9 : 1 ≤ hd.toInt ∧ hd.toInt ≤ 99) (hr9 : 0 ≤ (ll.getD 0 0).toInt ∧ (lg.getD 0 0).toInt ≤ 99) (ha : ra < 34 ∧ rl < 34 ∧ rg < 34) (hX : zat h 0 = some (.inr (.inr (.inr (9, [.ref 2, .int ta, .ref 4, .ref ra, .ref rd, .long ps, .ref 34, .ref 36, .int im, .long ip, .ref 42, .ref 44, .ref 60, .ref 66, .ref 72, .ref 74, .ref 150, .ref 158]))))) (hA : zat h ra = some (.inr (.inr (.inr (0, [.int lk, .int hd, .int ht, .int bl, .int sd, .long rt, .ref rl, .ref rg, .ref rv, .int sp, .ref rn, .ref rp, .int so, .ref rw]))))) (hL : zat h rl = some (.inl (0, 6, ll))) (hG : zat h rg = some (.inl (0, 6, lg))) (hCS : wCS h rL cap rs sc) : wq 138 0 [(0, .ref 0), (1, .int (-1)), (2, .int (nI N)), (3, .int 2)] [] h 0 0 (fun r => ∃ (h2 : zH) (d s : Nat), r = (some (.int (jCh ll lg lk hd ht 2 N n 0)), h2, d, s) ∧ wFr [rL, rs, 44, 46, 48, 50, 52, 54, 56, 66, 70, 72] h h2 ∧ d ≤ 1200 ∧ s ≤ 720000) := by
  have e_1 : (-1 : Int32).toInt = -1 := rfl
  have e_0 : (0 : Int32).toInt = 0 := rfl
  have e1 : (1 : Int32).toInt = 1 := rfl
  have e3 : (3 : Int32).toInt = 3 := rfl
  have e20 : (20 : Int32).toInt = 20 := rfl
  have q1 := nI_toInt (n := n) (by omega)
  have q2 := nI_toInt (n := N) (by omega)
  refine wq_gos (f := 1) (pc2 := 7) (ls2 := [(0, .ref 0), (1, .int (-1)), (2, .int (nI N)), (3, .int 2)]) (st2 := [.int 1, .int (nI N)]) (h2 := h) (dc2 := 0) (ds2 := 0) 5 rfl ?_
  refine wq_lt2f rfl rfl (by omega) ?_
  refine wq_gos (f := 1) (pc2 := 13) (ls2 := [(0, .ref 0), (1, .int (-1)), (2, .int (nI N)), (3, .int 2)]) (st2 := [.int 20, .int (nI N)]) (h2 := h) (dc2 := 0) (ds2 := 0) 2 rfl ?_
  refine wq_gt2f rfl rfl (by omega) ?_
  refine wq_gos (f := 1) (pc2 := 33) (ls2 := [(0, .ref 0), (1, .int (-1)), (2, .int (nI N)), (3, .int 2)]) (st2 := [.ref 0]) (h2 := h) (dc2 := 0) (ds2 := 0) 9 rfl ?_
  refine wq_getf rfl hX rfl rfl ?_
  refine wq_getf rfl hA rfl rfl ?_
  refine wq_gos (f := 1) (pc2 := 53) (ls2 := [(7, .int 0), (6, .int 0), (4, .long (sd).toInt64), (0, .ref 0), (1, .int (-1)), (2, .int (nI N)), (3, .int 2)]) (st2 := []) (h2 := h) (dc2 := 0) (ds2 := 0) 7 rfl ?_
  have hx9 : (sd).toInt64 = lN n := by rw [hsd, nI_l (by omega)]
  rw [hx9]
  refine wq_ls [(0, .ref 0), (1, .int (-1)), (2, .int (nI N)), (3, .int 2), (4, .long (lN n)), (6, .int 0), (7, .int (nI 0))] (show ([0, 1, 2, 3, 4, 6, 7] : List Nat).Nodup by decide) ⟨rfl, rfl, rfl, rfl, rfl, rfl, rfl, trivial⟩ ?_
  refine wq_mono (c_chL2 (se := (-1 : Int32)) (by omega) hlm hl9 hh9 hr9 ha N 0 n 0 h rL cap rs sc 0 0 (by omega) (by omega) hX hA hL hG hCS) ?_
  rintro _ ⟨k0, k1, k2, k3, k4, k5, k6, rfl, k7, k8, k9⟩
  exact ⟨k0, k5, k6, by rw [Nat.zero_add, Nat.zero_add], k7, by obtain ⟨w0, w1, nf, kn, to, ks, fa, tg, hp, sh, el, wr, ou, bh, dp, li, so1, hS, h46, h48, h50, h52, h54, hB, hO, hH, hP4, hI, hQ, hk1, hk2, hk3, hk4, hk5, hk6, hk7⟩ := k8; omega, by obtain ⟨w0, w1, nf, kn, to, ks, fa, tg, hp, sh, el, wr, ou, bh, dp, li, so1, hS, h46, h48, h50, h52, h54, hB, hO, hH, hP4, hI, hQ, hk1, hk2, hk3, hk4, hk5, hk6, hk7⟩ := k8; omega⟩
set_option maxHeartbeats 4000000 in
theorem m_chOk20 {h : zH} {fs : List Value} {kn lo hi : List Int32} {ll lg th on sq dq pa pb : List Int32} {fo : List Int64} {N n : Nat} (hN : 1 ≤ N ∧ N ≤ 20) (hn : n < 2147483648) (hsd : kn.getD 4 0 = nI n) (hw : wLim lo hi ll lg) (hlm : wLm ll lg) (hl9 : 1 ≤ (kn.getD 0 0).toInt ∧ (kn.getD 0 0).toInt ≤ 99) (hh9 : 1 ≤ (kn.getD 1 0).toInt ∧ (kn.getD 1 0).toInt ≤ 99) (hM : zat h 162 = some (.inr (.inr (.inr (10, fs))))) (hC : mC fs) (hK : zat h 166 = some (.inl (0, 14, kn))) (hO : zat h 168 = some (.inl (0, 12, lo))) (hG : zat h 170 = some (.inl (0, 12, hi))) (h194 : zat h 194 = some (.inl (0, 6, th))) (h204 : zat h 204 = some (.inl (0, 6, on))) (h222 : zat h 222 = some (.inl (0, 6, sq))) (h230 : zat h 230 = some (.inl (0, 6, dq))) (h196 : zat h 196 = some (.inr (.inl (6000, fo)))) (h200 : zat h 200 = some (.inl (0, 4096, pa))) (h202 : zat h 202 = some (.inl (0, 4096, pb))) : wq 280 0 [(0, .ref 162), (1, .int (-1)), (2, .int (nI N)), (3, .int 2)] [] h 0 0 (fun r => ∃ (h2 : zH), r = (some (.int (jCh ll lg (kn.getD 0 0) (kn.getD 1 0) (kn.getD 2 0) 2 N n 0)), h2, 0, 0)) := by
  have e_1 : (-1 : Int32).toInt = -1 := rfl
  have e_0 : (0 : Int32).toInt = 0 := rfl
  have e1 : (1 : Int32).toInt = 1 := rfl
  have e3 : (3 : Int32).toInt = 3 := rfl
  have e20 : (20 : Int32).toInt = 20 := rfl
  have q1 := nI_toInt (n := n) (by omega)
  have q2 := nI_toInt (n := N) (by omega)
  refine wq_gos (f := 1) (pc2 := 2) (ls2 := [(0, .ref 162), (1, .int (-1)), (2, .int (nI N)), (3, .int 2)]) (st2 := [.int 0, .ref 162]) (h2 := h) (dc2 := 0) (ds2 := 0) 2 rfl ?_
  refine wq_putf rfl hM rfl (by rw [hC.1]; rfl) rfl ?_
  intro h1x e2x f3x l4x
  obtain ⟨fs5x, hf6x⟩ : ∃ x, x = fs.set 0 (.int 0) := ⟨_, rfl⟩
  rw [← hf6x] at e2x
  have hC7x : mC fs5x := by rw [hf6x]; exact mC_set hC (by decide) _
  have p8x : fs5x[0]? = some (.int 0) := by rw [hf6x]; exact List.getElem?_set_self (by rw [hC.1]; decide)
  refine wq_gos (f := 1) (pc2 := 12) (ls2 := [(0, .ref 162), (1, .int (-1)), (2, .int (nI N)), (3, .int 2)]) (st2 := [.int 1, .int (nI N)]) (h2 := h1x) (dc2 := 0) (ds2 := 0) 5 rfl ?_
  refine wq_lt2f rfl rfl (by omega) ?_
  refine wq_gos (f := 1) (pc2 := 18) (ls2 := [(0, .ref 162), (1, .int (-1)), (2, .int (nI N)), (3, .int 2)]) (st2 := [.int 20, .int (nI N)]) (h2 := h1x) (dc2 := 0) (ds2 := 0) 2 rfl ?_
  refine wq_gt2f rfl rfl (by omega) ?_
  refine wq_gos (f := 1) (pc2 := 39) (ls2 := [(0, .ref 162), (1, .int (-1)), (2, .int (nI N)), (3, .int 2)]) (st2 := [.ref 162, .ref 162]) (h2 := h1x) (dc2 := 0) (ds2 := 0) 10 rfl ?_
  refine wq_getf rfl e2x (hC7x.2 (3, 166) (by decide)) rfl ?_
  refine wq_gos (f := 1) (pc2 := 43) (ls2 := [(0, .ref 162), (1, .int (-1)), (2, .int (nI N)), (3, .int 2)]) (st2 := [.int 4, .ref 166, .ref 162]) (h2 := h1x) (dc2 := 0) (ds2 := 0) 1 rfl ?_
  have e9x := (f3x.2 _ _ (wnc (by decide) wn0) hK)
  refine wq_ialdk (k := 4) rfl e9x rfl rfl rfl ?_
  refine wq_gos (f := 1) (pc2 := 48) (ls2 := [(0, .ref 162), (1, .int (-1)), (2, .int (nI N)), (3, .int 2)]) (st2 := [.int (kn.getD 4 0), .ref 162]) (h2 := h1x) (dc2 := 0) (ds2 := 0) 1 rfl ?_
  refine wq_putf rfl e2x rfl (by rw [hC7x.1]; rfl) rfl ?_
  intro h10x e11x f12x l13x
  obtain ⟨fs14x, hf15x⟩ : ∃ x, x = fs5x.set 52 (.int (kn.getD 4 0)) := ⟨_, rfl⟩
  rw [← hf15x] at e11x
  have hC16x : mC fs14x := by rw [hf15x]; exact mC_set hC7x (by decide) _
  have p17x : fs14x[0]? = some (.int 0) := by rw [hf15x, List.getElem?_set_ne (by decide)]; exact p8x
  have p18x : fs14x[52]? = some (.int (kn.getD 4 0)) := by rw [hf15x]; exact List.getElem?_set_self (by rw [hC7x.1]; decide)
  refine wq_gos (f := 1) (pc2 := 57) (ls2 := [(5, .int 0), (4, .int 0), (0, .ref 162), (1, .int (-1)), (2, .int (nI N)), (3, .int 2)]) (st2 := []) (h2 := h10x) (dc2 := 0) (ds2 := 0) 4 rfl ?_
  have e19x := (f12x.2 _ _ (wnc (by decide) wn0) (f3x.2 _ _ (wnc (by decide) wn0) h194))
  have e20x := (f12x.2 _ _ (wnc (by decide) wn0) (f3x.2 _ _ (wnc (by decide) wn0) h196))
  have e21x := (f12x.2 _ _ (wnc (by decide) wn0) (f3x.2 _ _ (wnc (by decide) wn0) h200))
  have e22x := (f12x.2 _ _ (wnc (by decide) wn0) (f3x.2 _ _ (wnc (by decide) wn0) h202))
  have e23x := (f12x.2 _ _ (wnc (by decide) wn0) (f3x.2 _ _ (wnc (by decide) wn0) h204))
  have e24x := (f12x.2 _ _ (wnc (by decide) wn0) (f3x.2 _ _ (wnc (by decide) wn0) h222))
  have e25x := (f12x.2 _ _ (wnc (by decide) wn0) (f3x.2 _ _ (wnc (by decide) wn0) h230))
  have e26x := (f12x.2 _ _ (wnc (by decide) wn0) e9x)
  have e27x := (f12x.2 _ _ (wnc (by decide) wn0) (f3x.2 _ _ (wnc (by decide) wn0) hO))
  have e28x := (f12x.2 _ _ (wnc (by decide) wn0) (f3x.2 _ _ (wnc (by decide) wn0) hG))
  have h52 := p18x
  rw [hsd] at h52
  refine wq_ls [(0, .ref 162), (1, .int (-1)), (2, .int (nI N)), (3, .int 2), (4, .int 0), (5, .int (nI 0))] (show ([0, 1, 2, 3, 4, 5] : List Nat).Nodup by decide) ⟨rfl, rfl, rfl, rfl, rfl, rfl, trivial⟩ ?_
  refine wq_mono (m_chL2 (sd := (-1 : Int32)) (by omega) hw hlm hl9 hh9 N 0 n 0 h10x 0 0 (by omega) (by omega) e26x e27x e28x ⟨fs14x, _, _, _, _, _, _, _, e11x, hC16x, h52, e19x, e20x, e21x, e22x, e23x, e24x, e25x⟩) ?_
  rintro _ ⟨k0, rfl, k1, k2, k3⟩
  exact ⟨k0, rfl⟩
set_option maxHeartbeats 4000000 in
theorem c_chOk21 {h : zH} {ra rl rg rv rn rp rw : Nat} {lk hd ht bl sd sp so : Int32} {rt : Int64} {ll lg : List Int32} {rd : Nat} {ta im : Int32} {ps ip : Int64} {N n rL cap rs sc : Nat} (hN : 1 ≤ N ∧ N ≤ 20) (hn : n < 2147483648) (hlm : wLm ll lg) (hl9 : 1 ≤ lk.toInt ∧ lk.toInt ≤ 99) (hh9 : 1 ≤ hd.toInt ∧ hd.toInt ≤ 99) (hr9 : 0 ≤ (ll.getD 0 0).toInt ∧ (lg.getD 0 0).toInt ≤ 99) (ha : ra < 34 ∧ rl < 34 ∧ rg < 34) (hX : zat h 0 = some (.inr (.inr (.inr (9, [.ref 2, .int ta, .ref 4, .ref ra, .ref rd, .long ps, .ref 34, .ref 36, .int im, .long ip, .ref 42, .ref 44, .ref 60, .ref 66, .ref 72, .ref 74, .ref 150, .ref 158]))))) (hA : zat h ra = some (.inr (.inr (.inr (0, [.int lk, .int hd, .int ht, .int bl, .int sd, .long rt, .ref rl, .ref rg, .ref rv, .int sp, .ref rn, .ref rp, .int so, .ref rw]))))) (hL : zat h rl = some (.inl (0, 6, ll))) (hG : zat h rg = some (.inl (0, 6, lg))) (hCS : wCS h rL cap rs sc) : wq 138 0 [(0, .ref 0), (1, .int (nI n)), (2, .int (nI N)), (3, .int 2)] [] h 0 0 (fun r => ∃ (h2 : zH) (d s : Nat), r = (some (.int (jCh ll lg lk hd ht 2 N n 0)), h2, d, s) ∧ wFr [rL, rs, 44, 46, 48, 50, 52, 54, 56, 66, 70, 72] h h2 ∧ d ≤ 1200 ∧ s ≤ 720000) := by
  have e_1 : (-1 : Int32).toInt = -1 := rfl
  have e_0 : (0 : Int32).toInt = 0 := rfl
  have e1 : (1 : Int32).toInt = 1 := rfl
  have e3 : (3 : Int32).toInt = 3 := rfl
  have e20 : (20 : Int32).toInt = 20 := rfl
  have q1 := nI_toInt (n := n) (by omega)
  have q2 := nI_toInt (n := N) (by omega)
  refine wq_gos (f := 1) (pc2 := 2) (ls2 := [(0, .ref 0), (1, .int (nI n)), (2, .int (nI N)), (3, .int 2)]) (st2 := [.int (-1), .int (nI n)]) (h2 := h) (dc2 := 0) (ds2 := 0) 2 rfl ?_
  refine wq_lt2f rfl rfl (by omega) ?_
  refine wq_gos (f := 1) (pc2 := 7) (ls2 := [(0, .ref 0), (1, .int (nI n)), (2, .int (nI N)), (3, .int 2)]) (st2 := [.int 1, .int (nI N)]) (h2 := h) (dc2 := 0) (ds2 := 0) 2 rfl ?_
  refine wq_lt2f rfl rfl (by omega) ?_
  refine wq_gos (f := 1) (pc2 := 13) (ls2 := [(0, .ref 0), (1, .int (nI n)), (2, .int (nI N)), (3, .int 2)]) (st2 := [.int 20, .int (nI N)]) (h2 := h) (dc2 := 0) (ds2 := 0) 2 rfl ?_
  refine wq_gt2f rfl rfl (by omega) ?_
  refine wq_gos (f := 1) (pc2 := 29) (ls2 := [(0, .ref 0), (1, .int (nI n)), (2, .int (nI N)), (3, .int 2)]) (st2 := [.int (-1), .int (nI n)]) (h2 := h) (dc2 := 0) (ds2 := 0) 7 rfl ?_
  refine wq_ne2t rfl (nI_m1 (by omega)) ?_
  refine wq_gos (f := 1) (pc2 := 53) (ls2 := [(7, .int 0), (6, .int 0), (4, .long ((nI n)).toInt64), (0, .ref 0), (1, .int (nI n)), (2, .int (nI N)), (3, .int 2)]) (st2 := []) (h2 := h) (dc2 := 0) (ds2 := 0) 7 rfl ?_
  have hx9 : ((nI n)).toInt64 = lN n := by rw [nI_l (by omega)]
  rw [hx9]
  refine wq_ls [(0, .ref 0), (1, .int (nI n)), (2, .int (nI N)), (3, .int 2), (4, .long (lN n)), (6, .int 0), (7, .int (nI 0))] (show ([0, 1, 2, 3, 4, 6, 7] : List Nat).Nodup by decide) ⟨rfl, rfl, rfl, rfl, rfl, rfl, rfl, trivial⟩ ?_
  refine wq_mono (c_chL2 (se := (nI n)) (by omega) hlm hl9 hh9 hr9 ha N 0 n 0 h rL cap rs sc 0 0 (by omega) (by omega) hX hA hL hG hCS) ?_
  rintro _ ⟨k0, k1, k2, k3, k4, k5, k6, rfl, k7, k8, k9⟩
  exact ⟨k0, k5, k6, by rw [Nat.zero_add, Nat.zero_add], k7, by obtain ⟨w0, w1, nf, kn, to, ks, fa, tg, hp, sh, el, wr, ou, bh, dp, li, so1, hS, h46, h48, h50, h52, h54, hB, hO, hH, hP4, hI, hQ, hk1, hk2, hk3, hk4, hk5, hk6, hk7⟩ := k8; omega, by obtain ⟨w0, w1, nf, kn, to, ks, fa, tg, hp, sh, el, wr, ou, bh, dp, li, so1, hS, h46, h48, h50, h52, h54, hB, hO, hH, hP4, hI, hQ, hk1, hk2, hk3, hk4, hk5, hk6, hk7⟩ := k8; omega⟩
set_option maxHeartbeats 4000000 in
theorem m_chOk21 {h : zH} {fs : List Value} {kn lo hi : List Int32} {ll lg th on sq dq pa pb : List Int32} {fo : List Int64} {N n : Nat} (hN : 1 ≤ N ∧ N ≤ 20) (hn : n < 2147483648) (hw : wLim lo hi ll lg) (hlm : wLm ll lg) (hl9 : 1 ≤ (kn.getD 0 0).toInt ∧ (kn.getD 0 0).toInt ≤ 99) (hh9 : 1 ≤ (kn.getD 1 0).toInt ∧ (kn.getD 1 0).toInt ≤ 99) (hM : zat h 162 = some (.inr (.inr (.inr (10, fs))))) (hC : mC fs) (hK : zat h 166 = some (.inl (0, 14, kn))) (hO : zat h 168 = some (.inl (0, 12, lo))) (hG : zat h 170 = some (.inl (0, 12, hi))) (h194 : zat h 194 = some (.inl (0, 6, th))) (h204 : zat h 204 = some (.inl (0, 6, on))) (h222 : zat h 222 = some (.inl (0, 6, sq))) (h230 : zat h 230 = some (.inl (0, 6, dq))) (h196 : zat h 196 = some (.inr (.inl (6000, fo)))) (h200 : zat h 200 = some (.inl (0, 4096, pa))) (h202 : zat h 202 = some (.inl (0, 4096, pb))) : wq 280 0 [(0, .ref 162), (1, .int (nI n)), (2, .int (nI N)), (3, .int 2)] [] h 0 0 (fun r => ∃ (h2 : zH), r = (some (.int (jCh ll lg (kn.getD 0 0) (kn.getD 1 0) (kn.getD 2 0) 2 N n 0)), h2, 0, 0)) := by
  have e_1 : (-1 : Int32).toInt = -1 := rfl
  have e_0 : (0 : Int32).toInt = 0 := rfl
  have e1 : (1 : Int32).toInt = 1 := rfl
  have e3 : (3 : Int32).toInt = 3 := rfl
  have e20 : (20 : Int32).toInt = 20 := rfl
  have q1 := nI_toInt (n := n) (by omega)
  have q2 := nI_toInt (n := N) (by omega)
  refine wq_gos (f := 1) (pc2 := 2) (ls2 := [(0, .ref 162), (1, .int (nI n)), (2, .int (nI N)), (3, .int 2)]) (st2 := [.int 0, .ref 162]) (h2 := h) (dc2 := 0) (ds2 := 0) 2 rfl ?_
  refine wq_putf rfl hM rfl (by rw [hC.1]; rfl) rfl ?_
  intro h1x e2x f3x l4x
  obtain ⟨fs5x, hf6x⟩ : ∃ x, x = fs.set 0 (.int 0) := ⟨_, rfl⟩
  rw [← hf6x] at e2x
  have hC7x : mC fs5x := by rw [hf6x]; exact mC_set hC (by decide) _
  have p8x : fs5x[0]? = some (.int 0) := by rw [hf6x]; exact List.getElem?_set_self (by rw [hC.1]; decide)
  refine wq_gos (f := 1) (pc2 := 7) (ls2 := [(0, .ref 162), (1, .int (nI n)), (2, .int (nI N)), (3, .int 2)]) (st2 := [.int (-1), .int (nI n)]) (h2 := h1x) (dc2 := 0) (ds2 := 0) 2 rfl ?_
  refine wq_lt2f rfl rfl (by omega) ?_
  refine wq_gos (f := 1) (pc2 := 12) (ls2 := [(0, .ref 162), (1, .int (nI n)), (2, .int (nI N)), (3, .int 2)]) (st2 := [.int 1, .int (nI N)]) (h2 := h1x) (dc2 := 0) (ds2 := 0) 2 rfl ?_
  refine wq_lt2f rfl rfl (by omega) ?_
  refine wq_gos (f := 1) (pc2 := 18) (ls2 := [(0, .ref 162), (1, .int (nI n)), (2, .int (nI N)), (3, .int 2)]) (st2 := [.int 20, .int (nI N)]) (h2 := h1x) (dc2 := 0) (ds2 := 0) 2 rfl ?_
  refine wq_gt2f rfl rfl (by omega) ?_
  refine wq_gos (f := 1) (pc2 := 35) (ls2 := [(0, .ref 162), (1, .int (nI n)), (2, .int (nI N)), (3, .int 2)]) (st2 := [.int (-1), .int (nI n), .ref 162]) (h2 := h1x) (dc2 := 0) (ds2 := 0) 8 rfl ?_
  refine wq_ne2t rfl (nI_m1 (by omega)) ?_
  refine wq_gos (f := 1) (pc2 := 48) (ls2 := [(0, .ref 162), (1, .int (nI n)), (2, .int (nI N)), (3, .int 2)]) (st2 := [.int (nI n), .ref 162]) (h2 := h1x) (dc2 := 0) (ds2 := 0) 1 rfl ?_
  refine wq_putf rfl e2x rfl (by rw [hC7x.1]; rfl) rfl ?_
  intro h9x e10x f11x l12x
  obtain ⟨fs13x, hf14x⟩ : ∃ x, x = fs5x.set 52 (.int (nI n)) := ⟨_, rfl⟩
  rw [← hf14x] at e10x
  have hC15x : mC fs13x := by rw [hf14x]; exact mC_set hC7x (by decide) _
  have p16x : fs13x[0]? = some (.int 0) := by rw [hf14x, List.getElem?_set_ne (by decide)]; exact p8x
  have p17x : fs13x[52]? = some (.int (nI n)) := by rw [hf14x]; exact List.getElem?_set_self (by rw [hC7x.1]; decide)
  refine wq_gos (f := 1) (pc2 := 57) (ls2 := [(5, .int 0), (4, .int 0), (0, .ref 162), (1, .int (nI n)), (2, .int (nI N)), (3, .int 2)]) (st2 := []) (h2 := h9x) (dc2 := 0) (ds2 := 0) 4 rfl ?_
  have e18x := (f11x.2 _ _ (wnc (by decide) wn0) (f3x.2 _ _ (wnc (by decide) wn0) h194))
  have e19x := (f11x.2 _ _ (wnc (by decide) wn0) (f3x.2 _ _ (wnc (by decide) wn0) h196))
  have e20x := (f11x.2 _ _ (wnc (by decide) wn0) (f3x.2 _ _ (wnc (by decide) wn0) h200))
  have e21x := (f11x.2 _ _ (wnc (by decide) wn0) (f3x.2 _ _ (wnc (by decide) wn0) h202))
  have e22x := (f11x.2 _ _ (wnc (by decide) wn0) (f3x.2 _ _ (wnc (by decide) wn0) h204))
  have e23x := (f11x.2 _ _ (wnc (by decide) wn0) (f3x.2 _ _ (wnc (by decide) wn0) h222))
  have e24x := (f11x.2 _ _ (wnc (by decide) wn0) (f3x.2 _ _ (wnc (by decide) wn0) h230))
  have e25x := (f11x.2 _ _ (wnc (by decide) wn0) (f3x.2 _ _ (wnc (by decide) wn0) hK))
  have e26x := (f11x.2 _ _ (wnc (by decide) wn0) (f3x.2 _ _ (wnc (by decide) wn0) hO))
  have e27x := (f11x.2 _ _ (wnc (by decide) wn0) (f3x.2 _ _ (wnc (by decide) wn0) hG))
  refine wq_ls [(0, .ref 162), (1, .int (nI n)), (2, .int (nI N)), (3, .int 2), (4, .int 0), (5, .int (nI 0))] (show ([0, 1, 2, 3, 4, 5] : List Nat).Nodup by decide) ⟨rfl, rfl, rfl, rfl, rfl, rfl, trivial⟩ ?_
  refine wq_mono (m_chL2 (sd := (nI n)) (by omega) hw hlm hl9 hh9 N 0 n 0 h9x 0 0 (by omega) (by omega) e25x e26x e27x ⟨fs13x, _, _, _, _, _, _, _, e10x, hC15x, p17x, e18x, e19x, e20x, e21x, e22x, e23x, e24x⟩) ?_
  rintro _ ⟨k0, rfl, k1, k2, k3⟩
  exact ⟨k0, rfl⟩
set_option maxHeartbeats 4000000 in
theorem c_chOk30 {h : zH} {ra rl rg rv rn rp rw : Nat} {lk hd ht bl sd sp so : Int32} {rt : Int64} {ll lg : List Int32} {rd : Nat} {ta im : Int32} {ps ip : Int64} {N n rL cap rs sc : Nat} (hN : 1 ≤ N ∧ N ≤ 20) (hn : n < 2147483648) (hsd : sd = nI n) (hlm : wLm ll lg) (hl9 : 1 ≤ lk.toInt ∧ lk.toInt ≤ 99) (hh9 : 1 ≤ hd.toInt ∧ hd.toInt ≤ 99) (hr9 : 0 ≤ (ll.getD 0 0).toInt ∧ (lg.getD 0 0).toInt ≤ 99) (ha : ra < 34 ∧ rl < 34 ∧ rg < 34) (hX : zat h 0 = some (.inr (.inr (.inr (9, [.ref 2, .int ta, .ref 4, .ref ra, .ref rd, .long ps, .ref 34, .ref 36, .int im, .long ip, .ref 42, .ref 44, .ref 60, .ref 66, .ref 72, .ref 74, .ref 150, .ref 158]))))) (hA : zat h ra = some (.inr (.inr (.inr (0, [.int lk, .int hd, .int ht, .int bl, .int sd, .long rt, .ref rl, .ref rg, .ref rv, .int sp, .ref rn, .ref rp, .int so, .ref rw]))))) (hL : zat h rl = some (.inl (0, 6, ll))) (hG : zat h rg = some (.inl (0, 6, lg))) (hCS : wCS h rL cap rs sc) : wq 138 0 [(0, .ref 0), (1, .int (-1)), (2, .int (nI N)), (3, .int 3)] [] h 0 0 (fun r => ∃ (h2 : zH) (d s : Nat), r = (some (.int (jCh ll lg lk hd ht 3 N n 0)), h2, d, s) ∧ wFr [rL, rs, 44, 46, 48, 50, 52, 54, 56, 66, 70, 72] h h2 ∧ d ≤ 1200 ∧ s ≤ 720000) := by
  have e_1 : (-1 : Int32).toInt = -1 := rfl
  have e_0 : (0 : Int32).toInt = 0 := rfl
  have e1 : (1 : Int32).toInt = 1 := rfl
  have e3 : (3 : Int32).toInt = 3 := rfl
  have e20 : (20 : Int32).toInt = 20 := rfl
  have q1 := nI_toInt (n := n) (by omega)
  have q2 := nI_toInt (n := N) (by omega)
  refine wq_gos (f := 1) (pc2 := 7) (ls2 := [(0, .ref 0), (1, .int (-1)), (2, .int (nI N)), (3, .int 3)]) (st2 := [.int 1, .int (nI N)]) (h2 := h) (dc2 := 0) (ds2 := 0) 5 rfl ?_
  refine wq_lt2f rfl rfl (by omega) ?_
  refine wq_gos (f := 1) (pc2 := 13) (ls2 := [(0, .ref 0), (1, .int (-1)), (2, .int (nI N)), (3, .int 3)]) (st2 := [.int 20, .int (nI N)]) (h2 := h) (dc2 := 0) (ds2 := 0) 2 rfl ?_
  refine wq_gt2f rfl rfl (by omega) ?_
  refine wq_gos (f := 1) (pc2 := 33) (ls2 := [(0, .ref 0), (1, .int (-1)), (2, .int (nI N)), (3, .int 3)]) (st2 := [.ref 0]) (h2 := h) (dc2 := 0) (ds2 := 0) 9 rfl ?_
  refine wq_getf rfl hX rfl rfl ?_
  refine wq_getf rfl hA rfl rfl ?_
  refine wq_gos (f := 1) (pc2 := 53) (ls2 := [(7, .int 0), (6, .int 0), (4, .long (sd).toInt64), (0, .ref 0), (1, .int (-1)), (2, .int (nI N)), (3, .int 3)]) (st2 := []) (h2 := h) (dc2 := 0) (ds2 := 0) 7 rfl ?_
  have hx9 : (sd).toInt64 = lN n := by rw [hsd, nI_l (by omega)]
  rw [hx9]
  refine wq_ls [(0, .ref 0), (1, .int (-1)), (2, .int (nI N)), (3, .int 3), (4, .long (lN n)), (6, .int 0), (7, .int (nI 0))] (show ([0, 1, 2, 3, 4, 6, 7] : List Nat).Nodup by decide) ⟨rfl, rfl, rfl, rfl, rfl, rfl, rfl, trivial⟩ ?_
  refine wq_mono (c_chL3 (se := (-1 : Int32)) (by omega) hlm hl9 hh9 hr9 ha N 0 n 0 h rL cap rs sc 0 0 (by omega) (by omega) hX hA hL hG hCS) ?_
  rintro _ ⟨k0, k1, k2, k3, k4, k5, k6, rfl, k7, k8, k9⟩
  exact ⟨k0, k5, k6, by rw [Nat.zero_add, Nat.zero_add], k7, by obtain ⟨w0, w1, nf, kn, to, ks, fa, tg, hp, sh, el, wr, ou, bh, dp, li, so1, hS, h46, h48, h50, h52, h54, hB, hO, hH, hP4, hI, hQ, hk1, hk2, hk3, hk4, hk5, hk6, hk7⟩ := k8; omega, by obtain ⟨w0, w1, nf, kn, to, ks, fa, tg, hp, sh, el, wr, ou, bh, dp, li, so1, hS, h46, h48, h50, h52, h54, hB, hO, hH, hP4, hI, hQ, hk1, hk2, hk3, hk4, hk5, hk6, hk7⟩ := k8; omega⟩
set_option maxHeartbeats 4000000 in
theorem m_chOk30 {h : zH} {fs : List Value} {kn lo hi : List Int32} {ll lg th on sq dq pa pb : List Int32} {fo : List Int64} {N n : Nat} (hN : 1 ≤ N ∧ N ≤ 20) (hn : n < 2147483648) (hsd : kn.getD 4 0 = nI n) (hw : wLim lo hi ll lg) (hlm : wLm ll lg) (hl9 : 1 ≤ (kn.getD 0 0).toInt ∧ (kn.getD 0 0).toInt ≤ 99) (hh9 : 1 ≤ (kn.getD 1 0).toInt ∧ (kn.getD 1 0).toInt ≤ 99) (hM : zat h 162 = some (.inr (.inr (.inr (10, fs))))) (hC : mC fs) (hK : zat h 166 = some (.inl (0, 14, kn))) (hO : zat h 168 = some (.inl (0, 12, lo))) (hG : zat h 170 = some (.inl (0, 12, hi))) (h194 : zat h 194 = some (.inl (0, 6, th))) (h204 : zat h 204 = some (.inl (0, 6, on))) (h222 : zat h 222 = some (.inl (0, 6, sq))) (h230 : zat h 230 = some (.inl (0, 6, dq))) (h196 : zat h 196 = some (.inr (.inl (6000, fo)))) (h200 : zat h 200 = some (.inl (0, 4096, pa))) (h202 : zat h 202 = some (.inl (0, 4096, pb))) : wq 280 0 [(0, .ref 162), (1, .int (-1)), (2, .int (nI N)), (3, .int 3)] [] h 0 0 (fun r => ∃ (h2 : zH), r = (some (.int (jCh ll lg (kn.getD 0 0) (kn.getD 1 0) (kn.getD 2 0) 3 N n 0)), h2, 0, 0)) := by
  have e_1 : (-1 : Int32).toInt = -1 := rfl
  have e_0 : (0 : Int32).toInt = 0 := rfl
  have e1 : (1 : Int32).toInt = 1 := rfl
  have e3 : (3 : Int32).toInt = 3 := rfl
  have e20 : (20 : Int32).toInt = 20 := rfl
  have q1 := nI_toInt (n := n) (by omega)
  have q2 := nI_toInt (n := N) (by omega)
  refine wq_gos (f := 1) (pc2 := 2) (ls2 := [(0, .ref 162), (1, .int (-1)), (2, .int (nI N)), (3, .int 3)]) (st2 := [.int 0, .ref 162]) (h2 := h) (dc2 := 0) (ds2 := 0) 2 rfl ?_
  refine wq_putf rfl hM rfl (by rw [hC.1]; rfl) rfl ?_
  intro h1x e2x f3x l4x
  obtain ⟨fs5x, hf6x⟩ : ∃ x, x = fs.set 0 (.int 0) := ⟨_, rfl⟩
  rw [← hf6x] at e2x
  have hC7x : mC fs5x := by rw [hf6x]; exact mC_set hC (by decide) _
  have p8x : fs5x[0]? = some (.int 0) := by rw [hf6x]; exact List.getElem?_set_self (by rw [hC.1]; decide)
  refine wq_gos (f := 1) (pc2 := 12) (ls2 := [(0, .ref 162), (1, .int (-1)), (2, .int (nI N)), (3, .int 3)]) (st2 := [.int 1, .int (nI N)]) (h2 := h1x) (dc2 := 0) (ds2 := 0) 5 rfl ?_
  refine wq_lt2f rfl rfl (by omega) ?_
  refine wq_gos (f := 1) (pc2 := 18) (ls2 := [(0, .ref 162), (1, .int (-1)), (2, .int (nI N)), (3, .int 3)]) (st2 := [.int 20, .int (nI N)]) (h2 := h1x) (dc2 := 0) (ds2 := 0) 2 rfl ?_
  refine wq_gt2f rfl rfl (by omega) ?_
  refine wq_gos (f := 1) (pc2 := 39) (ls2 := [(0, .ref 162), (1, .int (-1)), (2, .int (nI N)), (3, .int 3)]) (st2 := [.ref 162, .ref 162]) (h2 := h1x) (dc2 := 0) (ds2 := 0) 10 rfl ?_
  refine wq_getf rfl e2x (hC7x.2 (3, 166) (by decide)) rfl ?_
  refine wq_gos (f := 1) (pc2 := 43) (ls2 := [(0, .ref 162), (1, .int (-1)), (2, .int (nI N)), (3, .int 3)]) (st2 := [.int 4, .ref 166, .ref 162]) (h2 := h1x) (dc2 := 0) (ds2 := 0) 1 rfl ?_
  have e9x := (f3x.2 _ _ (wnc (by decide) wn0) hK)
  refine wq_ialdk (k := 4) rfl e9x rfl rfl rfl ?_
  refine wq_gos (f := 1) (pc2 := 48) (ls2 := [(0, .ref 162), (1, .int (-1)), (2, .int (nI N)), (3, .int 3)]) (st2 := [.int (kn.getD 4 0), .ref 162]) (h2 := h1x) (dc2 := 0) (ds2 := 0) 1 rfl ?_
  refine wq_putf rfl e2x rfl (by rw [hC7x.1]; rfl) rfl ?_
  intro h10x e11x f12x l13x
  obtain ⟨fs14x, hf15x⟩ : ∃ x, x = fs5x.set 52 (.int (kn.getD 4 0)) := ⟨_, rfl⟩
  rw [← hf15x] at e11x
  have hC16x : mC fs14x := by rw [hf15x]; exact mC_set hC7x (by decide) _
  have p17x : fs14x[0]? = some (.int 0) := by rw [hf15x, List.getElem?_set_ne (by decide)]; exact p8x
  have p18x : fs14x[52]? = some (.int (kn.getD 4 0)) := by rw [hf15x]; exact List.getElem?_set_self (by rw [hC7x.1]; decide)
  refine wq_gos (f := 1) (pc2 := 57) (ls2 := [(5, .int 0), (4, .int 0), (0, .ref 162), (1, .int (-1)), (2, .int (nI N)), (3, .int 3)]) (st2 := []) (h2 := h10x) (dc2 := 0) (ds2 := 0) 4 rfl ?_
  have e19x := (f12x.2 _ _ (wnc (by decide) wn0) (f3x.2 _ _ (wnc (by decide) wn0) h194))
  have e20x := (f12x.2 _ _ (wnc (by decide) wn0) (f3x.2 _ _ (wnc (by decide) wn0) h196))
  have e21x := (f12x.2 _ _ (wnc (by decide) wn0) (f3x.2 _ _ (wnc (by decide) wn0) h200))
  have e22x := (f12x.2 _ _ (wnc (by decide) wn0) (f3x.2 _ _ (wnc (by decide) wn0) h202))
  have e23x := (f12x.2 _ _ (wnc (by decide) wn0) (f3x.2 _ _ (wnc (by decide) wn0) h204))
  have e24x := (f12x.2 _ _ (wnc (by decide) wn0) (f3x.2 _ _ (wnc (by decide) wn0) h222))
  have e25x := (f12x.2 _ _ (wnc (by decide) wn0) (f3x.2 _ _ (wnc (by decide) wn0) h230))
  have e26x := (f12x.2 _ _ (wnc (by decide) wn0) e9x)
  have e27x := (f12x.2 _ _ (wnc (by decide) wn0) (f3x.2 _ _ (wnc (by decide) wn0) hO))
  have e28x := (f12x.2 _ _ (wnc (by decide) wn0) (f3x.2 _ _ (wnc (by decide) wn0) hG))
  have h52 := p18x
  rw [hsd] at h52
  refine wq_ls [(0, .ref 162), (1, .int (-1)), (2, .int (nI N)), (3, .int 3), (4, .int 0), (5, .int (nI 0))] (show ([0, 1, 2, 3, 4, 5] : List Nat).Nodup by decide) ⟨rfl, rfl, rfl, rfl, rfl, rfl, trivial⟩ ?_
  refine wq_mono (m_chL3 (sd := (-1 : Int32)) (by omega) hw hlm hl9 hh9 N 0 n 0 h10x 0 0 (by omega) (by omega) e26x e27x e28x ⟨fs14x, _, _, _, _, _, _, _, e11x, hC16x, h52, e19x, e20x, e21x, e22x, e23x, e24x, e25x⟩) ?_
  rintro _ ⟨k0, rfl, k1, k2, k3⟩
  exact ⟨k0, rfl⟩
set_option maxHeartbeats 4000000 in
theorem c_chOk31 {h : zH} {ra rl rg rv rn rp rw : Nat} {lk hd ht bl sd sp so : Int32} {rt : Int64} {ll lg : List Int32} {rd : Nat} {ta im : Int32} {ps ip : Int64} {N n rL cap rs sc : Nat} (hN : 1 ≤ N ∧ N ≤ 20) (hn : n < 2147483648) (hlm : wLm ll lg) (hl9 : 1 ≤ lk.toInt ∧ lk.toInt ≤ 99) (hh9 : 1 ≤ hd.toInt ∧ hd.toInt ≤ 99) (hr9 : 0 ≤ (ll.getD 0 0).toInt ∧ (lg.getD 0 0).toInt ≤ 99) (ha : ra < 34 ∧ rl < 34 ∧ rg < 34) (hX : zat h 0 = some (.inr (.inr (.inr (9, [.ref 2, .int ta, .ref 4, .ref ra, .ref rd, .long ps, .ref 34, .ref 36, .int im, .long ip, .ref 42, .ref 44, .ref 60, .ref 66, .ref 72, .ref 74, .ref 150, .ref 158]))))) (hA : zat h ra = some (.inr (.inr (.inr (0, [.int lk, .int hd, .int ht, .int bl, .int sd, .long rt, .ref rl, .ref rg, .ref rv, .int sp, .ref rn, .ref rp, .int so, .ref rw]))))) (hL : zat h rl = some (.inl (0, 6, ll))) (hG : zat h rg = some (.inl (0, 6, lg))) (hCS : wCS h rL cap rs sc) : wq 138 0 [(0, .ref 0), (1, .int (nI n)), (2, .int (nI N)), (3, .int 3)] [] h 0 0 (fun r => ∃ (h2 : zH) (d s : Nat), r = (some (.int (jCh ll lg lk hd ht 3 N n 0)), h2, d, s) ∧ wFr [rL, rs, 44, 46, 48, 50, 52, 54, 56, 66, 70, 72] h h2 ∧ d ≤ 1200 ∧ s ≤ 720000) := by
  have e_1 : (-1 : Int32).toInt = -1 := rfl
  have e_0 : (0 : Int32).toInt = 0 := rfl
  have e1 : (1 : Int32).toInt = 1 := rfl
  have e3 : (3 : Int32).toInt = 3 := rfl
  have e20 : (20 : Int32).toInt = 20 := rfl
  have q1 := nI_toInt (n := n) (by omega)
  have q2 := nI_toInt (n := N) (by omega)
  refine wq_gos (f := 1) (pc2 := 2) (ls2 := [(0, .ref 0), (1, .int (nI n)), (2, .int (nI N)), (3, .int 3)]) (st2 := [.int (-1), .int (nI n)]) (h2 := h) (dc2 := 0) (ds2 := 0) 2 rfl ?_
  refine wq_lt2f rfl rfl (by omega) ?_
  refine wq_gos (f := 1) (pc2 := 7) (ls2 := [(0, .ref 0), (1, .int (nI n)), (2, .int (nI N)), (3, .int 3)]) (st2 := [.int 1, .int (nI N)]) (h2 := h) (dc2 := 0) (ds2 := 0) 2 rfl ?_
  refine wq_lt2f rfl rfl (by omega) ?_
  refine wq_gos (f := 1) (pc2 := 13) (ls2 := [(0, .ref 0), (1, .int (nI n)), (2, .int (nI N)), (3, .int 3)]) (st2 := [.int 20, .int (nI N)]) (h2 := h) (dc2 := 0) (ds2 := 0) 2 rfl ?_
  refine wq_gt2f rfl rfl (by omega) ?_
  refine wq_gos (f := 1) (pc2 := 29) (ls2 := [(0, .ref 0), (1, .int (nI n)), (2, .int (nI N)), (3, .int 3)]) (st2 := [.int (-1), .int (nI n)]) (h2 := h) (dc2 := 0) (ds2 := 0) 7 rfl ?_
  refine wq_ne2t rfl (nI_m1 (by omega)) ?_
  refine wq_gos (f := 1) (pc2 := 53) (ls2 := [(7, .int 0), (6, .int 0), (4, .long ((nI n)).toInt64), (0, .ref 0), (1, .int (nI n)), (2, .int (nI N)), (3, .int 3)]) (st2 := []) (h2 := h) (dc2 := 0) (ds2 := 0) 7 rfl ?_
  have hx9 : ((nI n)).toInt64 = lN n := by rw [nI_l (by omega)]
  rw [hx9]
  refine wq_ls [(0, .ref 0), (1, .int (nI n)), (2, .int (nI N)), (3, .int 3), (4, .long (lN n)), (6, .int 0), (7, .int (nI 0))] (show ([0, 1, 2, 3, 4, 6, 7] : List Nat).Nodup by decide) ⟨rfl, rfl, rfl, rfl, rfl, rfl, rfl, trivial⟩ ?_
  refine wq_mono (c_chL3 (se := (nI n)) (by omega) hlm hl9 hh9 hr9 ha N 0 n 0 h rL cap rs sc 0 0 (by omega) (by omega) hX hA hL hG hCS) ?_
  rintro _ ⟨k0, k1, k2, k3, k4, k5, k6, rfl, k7, k8, k9⟩
  exact ⟨k0, k5, k6, by rw [Nat.zero_add, Nat.zero_add], k7, by obtain ⟨w0, w1, nf, kn, to, ks, fa, tg, hp, sh, el, wr, ou, bh, dp, li, so1, hS, h46, h48, h50, h52, h54, hB, hO, hH, hP4, hI, hQ, hk1, hk2, hk3, hk4, hk5, hk6, hk7⟩ := k8; omega, by obtain ⟨w0, w1, nf, kn, to, ks, fa, tg, hp, sh, el, wr, ou, bh, dp, li, so1, hS, h46, h48, h50, h52, h54, hB, hO, hH, hP4, hI, hQ, hk1, hk2, hk3, hk4, hk5, hk6, hk7⟩ := k8; omega⟩
set_option maxHeartbeats 4000000 in
theorem m_chOk31 {h : zH} {fs : List Value} {kn lo hi : List Int32} {ll lg th on sq dq pa pb : List Int32} {fo : List Int64} {N n : Nat} (hN : 1 ≤ N ∧ N ≤ 20) (hn : n < 2147483648) (hw : wLim lo hi ll lg) (hlm : wLm ll lg) (hl9 : 1 ≤ (kn.getD 0 0).toInt ∧ (kn.getD 0 0).toInt ≤ 99) (hh9 : 1 ≤ (kn.getD 1 0).toInt ∧ (kn.getD 1 0).toInt ≤ 99) (hM : zat h 162 = some (.inr (.inr (.inr (10, fs))))) (hC : mC fs) (hK : zat h 166 = some (.inl (0, 14, kn))) (hO : zat h 168 = some (.inl (0, 12, lo))) (hG : zat h 170 = some (.inl (0, 12, hi))) (h194 : zat h 194 = some (.inl (0, 6, th))) (h204 : zat h 204 = some (.inl (0, 6, on))) (h222 : zat h 222 = some (.inl (0, 6, sq))) (h230 : zat h 230 = some (.inl (0, 6, dq))) (h196 : zat h 196 = some (.inr (.inl (6000, fo)))) (h200 : zat h 200 = some (.inl (0, 4096, pa))) (h202 : zat h 202 = some (.inl (0, 4096, pb))) : wq 280 0 [(0, .ref 162), (1, .int (nI n)), (2, .int (nI N)), (3, .int 3)] [] h 0 0 (fun r => ∃ (h2 : zH), r = (some (.int (jCh ll lg (kn.getD 0 0) (kn.getD 1 0) (kn.getD 2 0) 3 N n 0)), h2, 0, 0)) := by
  have e_1 : (-1 : Int32).toInt = -1 := rfl
  have e_0 : (0 : Int32).toInt = 0 := rfl
  have e1 : (1 : Int32).toInt = 1 := rfl
  have e3 : (3 : Int32).toInt = 3 := rfl
  have e20 : (20 : Int32).toInt = 20 := rfl
  have q1 := nI_toInt (n := n) (by omega)
  have q2 := nI_toInt (n := N) (by omega)
  refine wq_gos (f := 1) (pc2 := 2) (ls2 := [(0, .ref 162), (1, .int (nI n)), (2, .int (nI N)), (3, .int 3)]) (st2 := [.int 0, .ref 162]) (h2 := h) (dc2 := 0) (ds2 := 0) 2 rfl ?_
  refine wq_putf rfl hM rfl (by rw [hC.1]; rfl) rfl ?_
  intro h1x e2x f3x l4x
  obtain ⟨fs5x, hf6x⟩ : ∃ x, x = fs.set 0 (.int 0) := ⟨_, rfl⟩
  rw [← hf6x] at e2x
  have hC7x : mC fs5x := by rw [hf6x]; exact mC_set hC (by decide) _
  have p8x : fs5x[0]? = some (.int 0) := by rw [hf6x]; exact List.getElem?_set_self (by rw [hC.1]; decide)
  refine wq_gos (f := 1) (pc2 := 7) (ls2 := [(0, .ref 162), (1, .int (nI n)), (2, .int (nI N)), (3, .int 3)]) (st2 := [.int (-1), .int (nI n)]) (h2 := h1x) (dc2 := 0) (ds2 := 0) 2 rfl ?_
  refine wq_lt2f rfl rfl (by omega) ?_
  refine wq_gos (f := 1) (pc2 := 12) (ls2 := [(0, .ref 162), (1, .int (nI n)), (2, .int (nI N)), (3, .int 3)]) (st2 := [.int 1, .int (nI N)]) (h2 := h1x) (dc2 := 0) (ds2 := 0) 2 rfl ?_
  refine wq_lt2f rfl rfl (by omega) ?_
  refine wq_gos (f := 1) (pc2 := 18) (ls2 := [(0, .ref 162), (1, .int (nI n)), (2, .int (nI N)), (3, .int 3)]) (st2 := [.int 20, .int (nI N)]) (h2 := h1x) (dc2 := 0) (ds2 := 0) 2 rfl ?_
  refine wq_gt2f rfl rfl (by omega) ?_
  refine wq_gos (f := 1) (pc2 := 35) (ls2 := [(0, .ref 162), (1, .int (nI n)), (2, .int (nI N)), (3, .int 3)]) (st2 := [.int (-1), .int (nI n), .ref 162]) (h2 := h1x) (dc2 := 0) (ds2 := 0) 8 rfl ?_
  refine wq_ne2t rfl (nI_m1 (by omega)) ?_
  refine wq_gos (f := 1) (pc2 := 48) (ls2 := [(0, .ref 162), (1, .int (nI n)), (2, .int (nI N)), (3, .int 3)]) (st2 := [.int (nI n), .ref 162]) (h2 := h1x) (dc2 := 0) (ds2 := 0) 1 rfl ?_
  refine wq_putf rfl e2x rfl (by rw [hC7x.1]; rfl) rfl ?_
  intro h9x e10x f11x l12x
  obtain ⟨fs13x, hf14x⟩ : ∃ x, x = fs5x.set 52 (.int (nI n)) := ⟨_, rfl⟩
  rw [← hf14x] at e10x
  have hC15x : mC fs13x := by rw [hf14x]; exact mC_set hC7x (by decide) _
  have p16x : fs13x[0]? = some (.int 0) := by rw [hf14x, List.getElem?_set_ne (by decide)]; exact p8x
  have p17x : fs13x[52]? = some (.int (nI n)) := by rw [hf14x]; exact List.getElem?_set_self (by rw [hC7x.1]; decide)
  refine wq_gos (f := 1) (pc2 := 57) (ls2 := [(5, .int 0), (4, .int 0), (0, .ref 162), (1, .int (nI n)), (2, .int (nI N)), (3, .int 3)]) (st2 := []) (h2 := h9x) (dc2 := 0) (ds2 := 0) 4 rfl ?_
  have e18x := (f11x.2 _ _ (wnc (by decide) wn0) (f3x.2 _ _ (wnc (by decide) wn0) h194))
  have e19x := (f11x.2 _ _ (wnc (by decide) wn0) (f3x.2 _ _ (wnc (by decide) wn0) h196))
  have e20x := (f11x.2 _ _ (wnc (by decide) wn0) (f3x.2 _ _ (wnc (by decide) wn0) h200))
  have e21x := (f11x.2 _ _ (wnc (by decide) wn0) (f3x.2 _ _ (wnc (by decide) wn0) h202))
  have e22x := (f11x.2 _ _ (wnc (by decide) wn0) (f3x.2 _ _ (wnc (by decide) wn0) h204))
  have e23x := (f11x.2 _ _ (wnc (by decide) wn0) (f3x.2 _ _ (wnc (by decide) wn0) h222))
  have e24x := (f11x.2 _ _ (wnc (by decide) wn0) (f3x.2 _ _ (wnc (by decide) wn0) h230))
  have e25x := (f11x.2 _ _ (wnc (by decide) wn0) (f3x.2 _ _ (wnc (by decide) wn0) hK))
  have e26x := (f11x.2 _ _ (wnc (by decide) wn0) (f3x.2 _ _ (wnc (by decide) wn0) hO))
  have e27x := (f11x.2 _ _ (wnc (by decide) wn0) (f3x.2 _ _ (wnc (by decide) wn0) hG))
  refine wq_ls [(0, .ref 162), (1, .int (nI n)), (2, .int (nI N)), (3, .int 3), (4, .int 0), (5, .int (nI 0))] (show ([0, 1, 2, 3, 4, 5] : List Nat).Nodup by decide) ⟨rfl, rfl, rfl, rfl, rfl, rfl, trivial⟩ ?_
  refine wq_mono (m_chL3 (sd := (nI n)) (by omega) hw hlm hl9 hh9 N 0 n 0 h9x 0 0 (by omega) (by omega) e25x e26x e27x ⟨fs13x, _, _, _, _, _, _, _, e10x, hC15x, p17x, e18x, e19x, e20x, e21x, e22x, e23x, e24x⟩) ?_
  rintro _ ⟨k0, rfl, k1, k2, k3⟩
  exact ⟨k0, rfl⟩
theorem wCS0 : wCS zH0 68 16 58 16 := ⟨.null, .null, 0, 0, 0, 0, 0, [], [], [], [], [], [], [], [], [], [], rfl, rfl, rfl, rfl, rfl, rfl, rfl, rfl, rfl, rfl, rfl, rfl, by decide, by decide, by decide, by decide, by decide, by decide, by decide⟩
theorem wLm0 : wLm [0, (-32), (-32), (-32), (-32), (-64)] [99, 31, 31, 31, 31, 63] := by unfold wLm; decide +kernel
theorem wLim0 : wLim [0, (-32), (-32), (-32), (-32), (-64), 0, (-32), (-32), (-32), (-32), (-64)] [99, 31, 31, 31, 31, 63, 99, 31, 31, 31, 31, 63] [0, (-32), (-32), (-32), (-32), (-64)] [99, 31, 31, 31, 31, 63] := by unfold wLim; decide +kernel
theorem nI_cs {x : Int32} (h : -1 ≤ x.toInt) : x = -1 ∨ ∃ n, n < 2147483648 ∧ x = nI n := by
  by_cases hx : x = -1
  · exact Or.inl hx
  · right
    have h1 : x.toInt ≠ -1 := fun q => hx (Int32.toInt_inj.mp (by rw [q]; rfl))
    have h2 := Int32.toInt_le x
    have h3 : Int32.maxValue.toInt = 2147483647 := rfl
    exact ⟨x.toInt.toNat, by omega, Int32.toInt_inj.mp (by rw [nI_toInt (by omega)]; omega)⟩
def mfs0 : List Value := [.int 0, .ref 164, .int 0, .ref 166, .ref 168, .ref 170, .ref 172, .ref 174, .ref 176, .ref 178, .ref 180, .ref 182, .ref 184, .ref 186, .int 0, .int 0, .int 0, .int 0, .int 0, .int 0, .int 0, .int 0, .int 0, .int (-1), .ref 188, .ref 190, .ref 192, .int 0, .int 0, .ref 194, .ref 196, .ref 198, .int 0, .int 0, .int 0, .int 0, .ref 200, .ref 202, .ref 204, .int 0, .ref 206, .ref 208, .ref 210, .ref 212, .ref 214, .ref 216, .ref 218, .ref 220, .ref 222, .ref 224, .ref 226, .ref 228, .int 0, .ref 230]
theorem mC00 : mC mfs0 := ⟨rfl, by decide⟩
theorem r_ch00 {N n : Nat} (hN : 1 ≤ N ∧ N ≤ 20) (hn : n < 2147483648) (h0 : n = 0) : ∃ (v : Int32) (h1 h2 : zH) (d s : Nat), zT zg0 zF zP 138 0 [(0, .ref 0), (1, .int (-1)), (2, .int (nI N)), (3, .int 0)] [] zH0 0 0 (some (.int v), h1, d, s) ∧ zat h1 162 = some (.inr (.inr (.inr (10, mfs0)))) ∧ zT zg0 zF zP 280 0 [(0, .ref 162), (1, .int (-1)), (2, .int (nI N)), (3, .int 0)] [] h1 0 0 (some (.int v), h2, 0, 0) ∧ d ≤ 1200 ∧ s ≤ 720000 := by
  obtain ⟨r, z1, h1, d, s, rfl, f, hd, hs⟩ := c_chOk00 (h := zH0) (ra := 6) (ll := [0, (-32), (-32), (-32), (-32), (-64)]) (lg := [99, 31, 31, 31, 31, 63]) hN hn (by rw [h0]; rfl) wLm0 ⟨by decide, by decide⟩ ⟨by decide, by decide⟩ ⟨by decide, by decide⟩ ⟨by decide, by decide, by decide⟩ rfl rfl rfl rfl wCS0
  have g : ∀ q e, q ∉ [68, 58, 44, 46, 48, 50, 52, 54, 56, 66, 70, 72] → zat zH0 q = some e → zat h1 q = some e := f.2
  obtain ⟨r, y1, h2, rfl⟩ := m_chOk00 (h := h1) (fs := mfs0) (kn := [9, 4, 10, 2, 0, 0, 0, 9, 4, 10, 2, 0, 0, 0]) (lo := [0, (-32), (-32), (-32), (-32), (-64), 0, (-32), (-32), (-32), (-32), (-64)]) (hi := [99, 31, 31, 31, 31, 63, 99, 31, 31, 31, 31, 63]) (ll := [0, (-32), (-32), (-32), (-32), (-64)]) (lg := [99, 31, 31, 31, 31, 63]) hN hn (by rw [h0]; rfl) wLim0 wLm0 ⟨by decide, by decide⟩ ⟨by decide, by decide⟩ (g _ _ (by decide) rfl) mC00 (g _ _ (by decide) rfl) (g _ _ (by decide) rfl) (g _ _ (by decide) rfl) (g _ _ (by decide) rfl) (g _ _ (by decide) rfl) (g _ _ (by decide) rfl) (g _ _ (by decide) rfl) (g _ _ (by decide) rfl) (g _ _ (by decide) rfl) (g _ _ (by decide) rfl)
  exact ⟨_, h1, h2, d, s, z1, g _ _ (by decide) rfl, y1, hd, hs⟩
theorem r_ch01 {N n : Nat} (hN : 1 ≤ N ∧ N ≤ 20) (hn : n < 2147483648) : ∃ (v : Int32) (h1 h2 : zH) (d s : Nat), zT zg0 zF zP 138 0 [(0, .ref 0), (1, .int (nI n)), (2, .int (nI N)), (3, .int 0)] [] zH0 0 0 (some (.int v), h1, d, s) ∧ zat h1 162 = some (.inr (.inr (.inr (10, mfs0)))) ∧ zT zg0 zF zP 280 0 [(0, .ref 162), (1, .int (nI n)), (2, .int (nI N)), (3, .int 0)] [] h1 0 0 (some (.int v), h2, 0, 0) ∧ d ≤ 1200 ∧ s ≤ 720000 := by
  obtain ⟨r, z1, h1, d, s, rfl, f, hd, hs⟩ := c_chOk01 (h := zH0) (ra := 6) (ll := [0, (-32), (-32), (-32), (-32), (-64)]) (lg := [99, 31, 31, 31, 31, 63]) hN hn wLm0 ⟨by decide, by decide⟩ ⟨by decide, by decide⟩ ⟨by decide, by decide⟩ ⟨by decide, by decide, by decide⟩ rfl rfl rfl rfl wCS0
  have g : ∀ q e, q ∉ [68, 58, 44, 46, 48, 50, 52, 54, 56, 66, 70, 72] → zat zH0 q = some e → zat h1 q = some e := f.2
  obtain ⟨r, y1, h2, rfl⟩ := m_chOk01 (h := h1) (fs := mfs0) (kn := [9, 4, 10, 2, 0, 0, 0, 9, 4, 10, 2, 0, 0, 0]) (lo := [0, (-32), (-32), (-32), (-32), (-64), 0, (-32), (-32), (-32), (-32), (-64)]) (hi := [99, 31, 31, 31, 31, 63, 99, 31, 31, 31, 31, 63]) (ll := [0, (-32), (-32), (-32), (-32), (-64)]) (lg := [99, 31, 31, 31, 31, 63]) hN hn wLim0 wLm0 ⟨by decide, by decide⟩ ⟨by decide, by decide⟩ (g _ _ (by decide) rfl) mC00 (g _ _ (by decide) rfl) (g _ _ (by decide) rfl) (g _ _ (by decide) rfl) (g _ _ (by decide) rfl) (g _ _ (by decide) rfl) (g _ _ (by decide) rfl) (g _ _ (by decide) rfl) (g _ _ (by decide) rfl) (g _ _ (by decide) rfl) (g _ _ (by decide) rfl)
  exact ⟨_, h1, h2, d, s, z1, g _ _ (by decide) rfl, y1, hd, hs⟩
theorem r_ch10 {N n : Nat} (hN : 1 ≤ N ∧ N ≤ 20) (hn : n < 2147483648) (h0 : n = 0) : ∃ (v : Int32) (h1 h2 : zH) (d s : Nat), zT zg0 zF zP 138 0 [(0, .ref 0), (1, .int (-1)), (2, .int (nI N)), (3, .int 1)] [] zH0 0 0 (some (.int v), h1, d, s) ∧ zat h1 162 = some (.inr (.inr (.inr (10, mfs0)))) ∧ zT zg0 zF zP 280 0 [(0, .ref 162), (1, .int (-1)), (2, .int (nI N)), (3, .int 1)] [] h1 0 0 (some (.int v), h2, 0, 0) ∧ d ≤ 1200 ∧ s ≤ 720000 := by
  obtain ⟨r, z1, h1, d, s, rfl, f, hd, hs⟩ := c_chOk10 (h := zH0) (ra := 6) (ll := [0, (-32), (-32), (-32), (-32), (-64)]) (lg := [99, 31, 31, 31, 31, 63]) hN hn (by rw [h0]; rfl) wLm0 ⟨by decide, by decide⟩ ⟨by decide, by decide⟩ ⟨by decide, by decide⟩ ⟨by decide, by decide, by decide⟩ rfl rfl rfl rfl wCS0
  have g : ∀ q e, q ∉ [68, 58, 44, 46, 48, 50, 52, 54, 56, 66, 70, 72] → zat zH0 q = some e → zat h1 q = some e := f.2
  obtain ⟨r, y1, h2, rfl⟩ := m_chOk10 (h := h1) (fs := mfs0) (kn := [9, 4, 10, 2, 0, 0, 0, 9, 4, 10, 2, 0, 0, 0]) (lo := [0, (-32), (-32), (-32), (-32), (-64), 0, (-32), (-32), (-32), (-32), (-64)]) (hi := [99, 31, 31, 31, 31, 63, 99, 31, 31, 31, 31, 63]) (ll := [0, (-32), (-32), (-32), (-32), (-64)]) (lg := [99, 31, 31, 31, 31, 63]) hN hn (by rw [h0]; rfl) wLim0 wLm0 ⟨by decide, by decide⟩ ⟨by decide, by decide⟩ (g _ _ (by decide) rfl) mC00 (g _ _ (by decide) rfl) (g _ _ (by decide) rfl) (g _ _ (by decide) rfl) (g _ _ (by decide) rfl) (g _ _ (by decide) rfl) (g _ _ (by decide) rfl) (g _ _ (by decide) rfl) (g _ _ (by decide) rfl) (g _ _ (by decide) rfl) (g _ _ (by decide) rfl)
  exact ⟨_, h1, h2, d, s, z1, g _ _ (by decide) rfl, y1, hd, hs⟩
theorem r_ch11 {N n : Nat} (hN : 1 ≤ N ∧ N ≤ 20) (hn : n < 2147483648) : ∃ (v : Int32) (h1 h2 : zH) (d s : Nat), zT zg0 zF zP 138 0 [(0, .ref 0), (1, .int (nI n)), (2, .int (nI N)), (3, .int 1)] [] zH0 0 0 (some (.int v), h1, d, s) ∧ zat h1 162 = some (.inr (.inr (.inr (10, mfs0)))) ∧ zT zg0 zF zP 280 0 [(0, .ref 162), (1, .int (nI n)), (2, .int (nI N)), (3, .int 1)] [] h1 0 0 (some (.int v), h2, 0, 0) ∧ d ≤ 1200 ∧ s ≤ 720000 := by
  obtain ⟨r, z1, h1, d, s, rfl, f, hd, hs⟩ := c_chOk11 (h := zH0) (ra := 6) (ll := [0, (-32), (-32), (-32), (-32), (-64)]) (lg := [99, 31, 31, 31, 31, 63]) hN hn wLm0 ⟨by decide, by decide⟩ ⟨by decide, by decide⟩ ⟨by decide, by decide⟩ ⟨by decide, by decide, by decide⟩ rfl rfl rfl rfl wCS0
  have g : ∀ q e, q ∉ [68, 58, 44, 46, 48, 50, 52, 54, 56, 66, 70, 72] → zat zH0 q = some e → zat h1 q = some e := f.2
  obtain ⟨r, y1, h2, rfl⟩ := m_chOk11 (h := h1) (fs := mfs0) (kn := [9, 4, 10, 2, 0, 0, 0, 9, 4, 10, 2, 0, 0, 0]) (lo := [0, (-32), (-32), (-32), (-32), (-64), 0, (-32), (-32), (-32), (-32), (-64)]) (hi := [99, 31, 31, 31, 31, 63, 99, 31, 31, 31, 31, 63]) (ll := [0, (-32), (-32), (-32), (-32), (-64)]) (lg := [99, 31, 31, 31, 31, 63]) hN hn wLim0 wLm0 ⟨by decide, by decide⟩ ⟨by decide, by decide⟩ (g _ _ (by decide) rfl) mC00 (g _ _ (by decide) rfl) (g _ _ (by decide) rfl) (g _ _ (by decide) rfl) (g _ _ (by decide) rfl) (g _ _ (by decide) rfl) (g _ _ (by decide) rfl) (g _ _ (by decide) rfl) (g _ _ (by decide) rfl) (g _ _ (by decide) rfl) (g _ _ (by decide) rfl)
  exact ⟨_, h1, h2, d, s, z1, g _ _ (by decide) rfl, y1, hd, hs⟩
theorem r_ch20 {N n : Nat} (hN : 1 ≤ N ∧ N ≤ 20) (hn : n < 2147483648) (h0 : n = 0) : ∃ (v : Int32) (h1 h2 : zH) (d s : Nat), zT zg0 zF zP 138 0 [(0, .ref 0), (1, .int (-1)), (2, .int (nI N)), (3, .int 2)] [] zH0 0 0 (some (.int v), h1, d, s) ∧ zat h1 162 = some (.inr (.inr (.inr (10, mfs0)))) ∧ zT zg0 zF zP 280 0 [(0, .ref 162), (1, .int (-1)), (2, .int (nI N)), (3, .int 2)] [] h1 0 0 (some (.int v), h2, 0, 0) ∧ d ≤ 1200 ∧ s ≤ 720000 := by
  obtain ⟨r, z1, h1, d, s, rfl, f, hd, hs⟩ := c_chOk20 (h := zH0) (ra := 6) (ll := [0, (-32), (-32), (-32), (-32), (-64)]) (lg := [99, 31, 31, 31, 31, 63]) hN hn (by rw [h0]; rfl) wLm0 ⟨by decide, by decide⟩ ⟨by decide, by decide⟩ ⟨by decide, by decide⟩ ⟨by decide, by decide, by decide⟩ rfl rfl rfl rfl wCS0
  have g : ∀ q e, q ∉ [68, 58, 44, 46, 48, 50, 52, 54, 56, 66, 70, 72] → zat zH0 q = some e → zat h1 q = some e := f.2
  obtain ⟨r, y1, h2, rfl⟩ := m_chOk20 (h := h1) (fs := mfs0) (kn := [9, 4, 10, 2, 0, 0, 0, 9, 4, 10, 2, 0, 0, 0]) (lo := [0, (-32), (-32), (-32), (-32), (-64), 0, (-32), (-32), (-32), (-32), (-64)]) (hi := [99, 31, 31, 31, 31, 63, 99, 31, 31, 31, 31, 63]) (ll := [0, (-32), (-32), (-32), (-32), (-64)]) (lg := [99, 31, 31, 31, 31, 63]) hN hn (by rw [h0]; rfl) wLim0 wLm0 ⟨by decide, by decide⟩ ⟨by decide, by decide⟩ (g _ _ (by decide) rfl) mC00 (g _ _ (by decide) rfl) (g _ _ (by decide) rfl) (g _ _ (by decide) rfl) (g _ _ (by decide) rfl) (g _ _ (by decide) rfl) (g _ _ (by decide) rfl) (g _ _ (by decide) rfl) (g _ _ (by decide) rfl) (g _ _ (by decide) rfl) (g _ _ (by decide) rfl)
  exact ⟨_, h1, h2, d, s, z1, g _ _ (by decide) rfl, y1, hd, hs⟩
theorem r_ch21 {N n : Nat} (hN : 1 ≤ N ∧ N ≤ 20) (hn : n < 2147483648) : ∃ (v : Int32) (h1 h2 : zH) (d s : Nat), zT zg0 zF zP 138 0 [(0, .ref 0), (1, .int (nI n)), (2, .int (nI N)), (3, .int 2)] [] zH0 0 0 (some (.int v), h1, d, s) ∧ zat h1 162 = some (.inr (.inr (.inr (10, mfs0)))) ∧ zT zg0 zF zP 280 0 [(0, .ref 162), (1, .int (nI n)), (2, .int (nI N)), (3, .int 2)] [] h1 0 0 (some (.int v), h2, 0, 0) ∧ d ≤ 1200 ∧ s ≤ 720000 := by
  obtain ⟨r, z1, h1, d, s, rfl, f, hd, hs⟩ := c_chOk21 (h := zH0) (ra := 6) (ll := [0, (-32), (-32), (-32), (-32), (-64)]) (lg := [99, 31, 31, 31, 31, 63]) hN hn wLm0 ⟨by decide, by decide⟩ ⟨by decide, by decide⟩ ⟨by decide, by decide⟩ ⟨by decide, by decide, by decide⟩ rfl rfl rfl rfl wCS0
  have g : ∀ q e, q ∉ [68, 58, 44, 46, 48, 50, 52, 54, 56, 66, 70, 72] → zat zH0 q = some e → zat h1 q = some e := f.2
  obtain ⟨r, y1, h2, rfl⟩ := m_chOk21 (h := h1) (fs := mfs0) (kn := [9, 4, 10, 2, 0, 0, 0, 9, 4, 10, 2, 0, 0, 0]) (lo := [0, (-32), (-32), (-32), (-32), (-64), 0, (-32), (-32), (-32), (-32), (-64)]) (hi := [99, 31, 31, 31, 31, 63, 99, 31, 31, 31, 31, 63]) (ll := [0, (-32), (-32), (-32), (-32), (-64)]) (lg := [99, 31, 31, 31, 31, 63]) hN hn wLim0 wLm0 ⟨by decide, by decide⟩ ⟨by decide, by decide⟩ (g _ _ (by decide) rfl) mC00 (g _ _ (by decide) rfl) (g _ _ (by decide) rfl) (g _ _ (by decide) rfl) (g _ _ (by decide) rfl) (g _ _ (by decide) rfl) (g _ _ (by decide) rfl) (g _ _ (by decide) rfl) (g _ _ (by decide) rfl) (g _ _ (by decide) rfl) (g _ _ (by decide) rfl)
  exact ⟨_, h1, h2, d, s, z1, g _ _ (by decide) rfl, y1, hd, hs⟩
theorem r_ch30 {N n : Nat} (hN : 1 ≤ N ∧ N ≤ 20) (hn : n < 2147483648) (h0 : n = 0) : ∃ (v : Int32) (h1 h2 : zH) (d s : Nat), zT zg0 zF zP 138 0 [(0, .ref 0), (1, .int (-1)), (2, .int (nI N)), (3, .int 3)] [] zH0 0 0 (some (.int v), h1, d, s) ∧ zat h1 162 = some (.inr (.inr (.inr (10, mfs0)))) ∧ zT zg0 zF zP 280 0 [(0, .ref 162), (1, .int (-1)), (2, .int (nI N)), (3, .int 3)] [] h1 0 0 (some (.int v), h2, 0, 0) ∧ d ≤ 1200 ∧ s ≤ 720000 := by
  obtain ⟨r, z1, h1, d, s, rfl, f, hd, hs⟩ := c_chOk30 (h := zH0) (ra := 6) (ll := [0, (-32), (-32), (-32), (-32), (-64)]) (lg := [99, 31, 31, 31, 31, 63]) hN hn (by rw [h0]; rfl) wLm0 ⟨by decide, by decide⟩ ⟨by decide, by decide⟩ ⟨by decide, by decide⟩ ⟨by decide, by decide, by decide⟩ rfl rfl rfl rfl wCS0
  have g : ∀ q e, q ∉ [68, 58, 44, 46, 48, 50, 52, 54, 56, 66, 70, 72] → zat zH0 q = some e → zat h1 q = some e := f.2
  obtain ⟨r, y1, h2, rfl⟩ := m_chOk30 (h := h1) (fs := mfs0) (kn := [9, 4, 10, 2, 0, 0, 0, 9, 4, 10, 2, 0, 0, 0]) (lo := [0, (-32), (-32), (-32), (-32), (-64), 0, (-32), (-32), (-32), (-32), (-64)]) (hi := [99, 31, 31, 31, 31, 63, 99, 31, 31, 31, 31, 63]) (ll := [0, (-32), (-32), (-32), (-32), (-64)]) (lg := [99, 31, 31, 31, 31, 63]) hN hn (by rw [h0]; rfl) wLim0 wLm0 ⟨by decide, by decide⟩ ⟨by decide, by decide⟩ (g _ _ (by decide) rfl) mC00 (g _ _ (by decide) rfl) (g _ _ (by decide) rfl) (g _ _ (by decide) rfl) (g _ _ (by decide) rfl) (g _ _ (by decide) rfl) (g _ _ (by decide) rfl) (g _ _ (by decide) rfl) (g _ _ (by decide) rfl) (g _ _ (by decide) rfl) (g _ _ (by decide) rfl)
  exact ⟨_, h1, h2, d, s, z1, g _ _ (by decide) rfl, y1, hd, hs⟩
theorem r_ch31 {N n : Nat} (hN : 1 ≤ N ∧ N ≤ 20) (hn : n < 2147483648) : ∃ (v : Int32) (h1 h2 : zH) (d s : Nat), zT zg0 zF zP 138 0 [(0, .ref 0), (1, .int (nI n)), (2, .int (nI N)), (3, .int 3)] [] zH0 0 0 (some (.int v), h1, d, s) ∧ zat h1 162 = some (.inr (.inr (.inr (10, mfs0)))) ∧ zT zg0 zF zP 280 0 [(0, .ref 162), (1, .int (nI n)), (2, .int (nI N)), (3, .int 3)] [] h1 0 0 (some (.int v), h2, 0, 0) ∧ d ≤ 1200 ∧ s ≤ 720000 := by
  obtain ⟨r, z1, h1, d, s, rfl, f, hd, hs⟩ := c_chOk31 (h := zH0) (ra := 6) (ll := [0, (-32), (-32), (-32), (-32), (-64)]) (lg := [99, 31, 31, 31, 31, 63]) hN hn wLm0 ⟨by decide, by decide⟩ ⟨by decide, by decide⟩ ⟨by decide, by decide⟩ ⟨by decide, by decide, by decide⟩ rfl rfl rfl rfl wCS0
  have g : ∀ q e, q ∉ [68, 58, 44, 46, 48, 50, 52, 54, 56, 66, 70, 72] → zat zH0 q = some e → zat h1 q = some e := f.2
  obtain ⟨r, y1, h2, rfl⟩ := m_chOk31 (h := h1) (fs := mfs0) (kn := [9, 4, 10, 2, 0, 0, 0, 9, 4, 10, 2, 0, 0, 0]) (lo := [0, (-32), (-32), (-32), (-32), (-64), 0, (-32), (-32), (-32), (-32), (-64)]) (hi := [99, 31, 31, 31, 31, 63, 99, 31, 31, 31, 31, 63]) (ll := [0, (-32), (-32), (-32), (-32), (-64)]) (lg := [99, 31, 31, 31, 31, 63]) hN hn wLim0 wLm0 ⟨by decide, by decide⟩ ⟨by decide, by decide⟩ (g _ _ (by decide) rfl) mC00 (g _ _ (by decide) rfl) (g _ _ (by decide) rfl) (g _ _ (by decide) rfl) (g _ _ (by decide) rfl) (g _ _ (by decide) rfl) (g _ _ (by decide) rfl) (g _ _ (by decide) rfl) (g _ _ (by decide) rfl) (g _ _ (by decide) rfl) (g _ _ (by decide) rfl)
  exact ⟨_, h1, h2, d, s, z1, g _ _ (by decide) rfl, y1, hd, hs⟩
theorem zop_37 (xs : Nat → Int32) (h0 : xs 0 &&& 63 = 37) : zDone xs := by
  by_cases hbad : jBad (xs 1) (xs 2) (xs 3)
  · obtain ⟨r, y1, h2, rfl, -⟩ := m_chBad (h := zH0) (fs := mfs0) hbad rfl mC00
    exact lw_37 xs h0 (c_chBad hbad) (rfl : zat zH0 162 = some (.inr (.inr (.inr (10, mfs0))))) y1 (by decide) (by decide)
  · have hg : -1 ≤ (xs 1).toInt ∧ 1 ≤ (xs 2).toInt ∧ (xs 2).toInt ≤ 20 ∧ 0 ≤ (xs 3).toInt ∧ (xs 3).toInt ≤ 3 := by unfold jBad at hbad; omega
    have hN : xs 2 = nI (xs 2).toInt.toNat := Int32.toInt_inj.mp (by rw [nI_toInt (by omega)]; omega)
    have hw : xs 3 = 0 ∨ xs 3 = 1 ∨ xs 3 = 2 ∨ xs 3 = 3 := by
      rcases (show (xs 3).toInt = 0 ∨ (xs 3).toInt = 1 ∨ (xs 3).toInt = 2 ∨ (xs 3).toInt = 3 by omega) with k | k | k | k
      · exact Or.inl (Int32.toInt_inj.mp k)
      · exact Or.inr (Or.inl (Int32.toInt_inj.mp k))
      · exact Or.inr (Or.inr (Or.inl (Int32.toInt_inj.mp k)))
      · exact Or.inr (Or.inr (Or.inr (Int32.toInt_inj.mp k)))
    have hNr : 1 ≤ (xs 2).toInt.toNat ∧ (xs 2).toInt.toNat ≤ 20 := by omega
    have key : ∃ (v : Int32) (h1 h2 : zH) (d s : Nat), zT zg0 zF zP 138 0 [(0, .ref 0), (1, .int (xs 1)), (2, .int (xs 2)), (3, .int (xs 3))] [] zH0 0 0 (some (.int v), h1, d, s) ∧ zat h1 162 = some (.inr (.inr (.inr (10, mfs0)))) ∧ zT zg0 zF zP 280 0 [(0, .ref 162), (1, .int (xs 1)), (2, .int (xs 2)), (3, .int (xs 3))] [] h1 0 0 (some (.int v), h2, 0, 0) ∧ d ≤ 1200 ∧ s ≤ 720000 := by
      rw [hN]
      rcases nI_cs hg.1 with hs | ⟨n, hn, hs⟩
      · rw [hs]
        rcases hw with k | k | k | k <;> rw [k]
        · exact r_ch00 hNr (n := 0) (by decide) rfl
        · exact r_ch10 hNr (n := 0) (by decide) rfl
        · exact r_ch20 hNr (n := 0) (by decide) rfl
        · exact r_ch30 hNr (n := 0) (by decide) rfl
      · rw [hs]
        rcases hw with k | k | k | k <;> rw [k]
        · exact r_ch01 hNr hn
        · exact r_ch11 hNr hn
        · exact r_ch21 hNr hn
        · exact r_ch31 hNr hn
    obtain ⟨v, h1, h2, d, s, z1, z2, z3, z4, z5⟩ := key
    exact lw_37 xs h0 z1 z2 z3 (by omega) (by omega)
